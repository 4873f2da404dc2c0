theorem mSb_sc (a b : Int32) (n j : Nat) : ∀ d, mSb a b (n + d) (j * 2 ^ d) = mSb a b n j
  | 0 => by rw [Nat.add_zero, Nat.pow_zero, Nat.mul_one]
  | d + 1 => by
    show (if (j * 2 ^ (d + 1)) % 2 = 0 then mSb a b (n + d) ((j * 2 ^ (d + 1)) / 2) else _) = _
    have e : j * 2 ^ (d + 1) = 2 * (j * 2 ^ d) := by rw [Nat.pow_succ, Nat.mul_comm (2 ^ d) 2, Nat.mul_left_comm]
    rw [e, if_pos (by omega), Nat.mul_div_cancel_left _ (by omega)]
    exact mSb_sc a b n j d
theorem wk_pw {n c s : Nat} (h8 : n < 9) (hc : c + 1 = 2 ^ n) (hs : s * 2 ^ n = 256) : s = 2 ^ (8 - n) ∧ ∀ a b j, mSb a b 8 (j * s) = mSb a b n j := by
  have e : 2 ^ (8 - n) * 2 ^ n = 2 ^ 8 := by rw [← Nat.pow_add]; congr 1; omega
  have e2 : s = 2 ^ (8 - n) := Nat.eq_of_mul_eq_mul_right (Nat.pow_pos (n := n) (show 0 < 2 by omega)) (hs.trans e.symm)
  refine ⟨e2, fun a b j => ?_⟩
  have h := mSb_sc a b n j (8 - n)
  rw [← e2, show n + (8 - n) = 8 by omega] at h
  exact h
theorem wk_shl {n c : Nat} (h8 : n < 9) (hc : c + 1 = 2 ^ n) : (1 : Int32) <<< (nI n &&& 31) = nI (c + 1) := by
  rw [hc]
  have : n = 0 ∨ n = 1 ∨ n = 2 ∨ n = 3 ∨ n = 4 ∨ n = 5 ∨ n = 6 ∨ n = 7 ∨ n = 8 := by omega
  rcases this with rfl | rfl | rfl | rfl | rfl | rfl | rfl | rfl | rfl <;> decide
theorem wk_shr {n s : Nat} (h8 : n < 9) (hs : s = 2 ^ (8 - n)) : (256 : Int32) >>> (nI n &&& 31) = nI s := by
  rw [hs]
  have : n = 0 ∨ n = 1 ∨ n = 2 ∨ n = 3 ∨ n = 4 ∨ n = 5 ∨ n = 6 ∨ n = 7 ∨ n = 8 := by omega
  rcases this with rfl | rfl | rfl | rfl | rfl | rfl | rfl | rfl | rfl <;> decide
theorem wk_abn {i c : Nat} (hi : i < c) (hc : c < 400) : cAb (nI i - nI c) = nI (c - i) := by
  unfold cAb; rw [if_neg (mvc_lt hi hc)]; exact mvc_ng hi hc
theorem wk_abp {i c : Nat} (hi : ¬ i < c) (h2 : i ≤ 2 * c + 1) (hc : c < 400) : cAb (nI i - nI c) = nI (i - c) := by
  unfold cAb; rw [if_pos (mvc_ge hi h2 hc)]; exact mvc_ps hi h2 hc
theorem wk_min {x : Nat} (h : x ≤ 256) : (if (256 : Int32) < nI x then 256 else nI x) = nI x := by
  rw [if_neg]
  rw [nb_lt, nI_toInt (by omega)]
  have : (256 : Int32).toInt = 256 := by decide
  omega
theorem wk_pl {n c s x : Nat} (hc : c + 1 = 2 ^ n) (hs : s * 2 ^ n = 256) (hx : x ≤ c + 1) : x * s ≤ 256 := by
  rw [← hs, Nat.mul_comm, ← hc]; exact Nat.mul_le_mul_left s hx
def cBs (sd ab : Int32) (s : mB5) : mB5 := if sd = 0 then s else
  (if ab = s.2.2.1 then s.1 else (if 9 ≤ s.2.1 then s.1 else 10 * s.1 + ab), if ab = s.2.2.1 then s.2.1 else (if 9 ≤ s.2.1 then s.2.1 else s.2.1 + 1), ab, sd, if s.2.2.2.1 = 0 then s.2.2.2.2 else (if sd = s.2.2.2.1 then s.2.2.2.2 else s.2.2.2.2 + 1))
/-- row, figures, the last signs, the last side, the changes, over the first i fractions -/
def cBt (f a b : Nat → Int64) (n c : Nat) : Nat → mB5
  | 0 => (0, 0, -1, 0, 0)
  | i + 1 => cBs (mSg (mAt4 f (mTm n c i) (mTq n c i))) (cAv (cSm a b (mTm n c i) (mTq n c i))) (cBt f a b n c i)
theorem u_X0_isNought {g : ma_G} {Post : ma_P} {I : ma_I} {L : ma_L} (k1 : (∀ j, j < 5 → L 13 j = 0) → Post (some (.int 1)) HS I L RF 146) (k0 : (¬ ∀ j, j < 5 → L 13 j = 0) → Post (some (.int 0)) HS I L RF 146) : CT g yX0_isNought cX0_isNought 1 (some .boolean) rX0_isNought [.ref 12] Post HS I L RF 146 := by
  refine t_X0_isNought (fun h0 h1 h2 h3 h4 => k1 (fun j hj => ?_)) (fun _ _ _ _ h => k0 (fun q => h (q 4 (by omega)))) (fun _ _ _ h => k0 (fun q => h (q 3 (by omega)))) (fun _ _ h => k0 (fun q => h (q 2 (by omega)))) (fun _ h => k0 (fun q => h (q 1 (by omega)))) (fun h => k0 (fun q => h (q 0 (by omega))))
  have : j = 0 ∨ j = 1 ∨ j = 2 ∨ j = 3 ∨ j = 4 := by omega
  rcases this with rfl | rfl | rfl | rfl | rfl <;> assumption
set_option maxRecDepth 4000 in
theorem t_X5_walk {g : ma_G} {Post : ma_P} {I : ma_I} {L : ma_L} (a b d e : Nat) (ha : HS a = (4, 6)) (hra : RF a 0 = d) (hd : HS d = (10, 16)) (hd30 : d ≠ 30) (hd31 : d ≠ 31) (hb : HS b = (4, 6)) (hrb : RF b 0 = e) (he : HS e = (10, 16)) (he30 : e ≠ 30) (he31 : e ≠ 31) (n c s : Nat) (hn : n < 9) (hc : c + 1 = 2 ^ n) (hs0 : s * 2 ^ n = 256) (hX : ∀ j, j ≤ 256 → I 27 j = mSb 0 1 8 j) (hY : ∀ j, j ≤ 256 → I 28 j = mSb 1 0 8 j) (k0 : ∀ (s2 s3 s4 : Int32) (JJ : ma_I) (KK : ma_L), (JJ 26 3, s2, s3, s4, JJ 26 4) = cBt (L 13) (L d) (L e) n c (2 * c + 1) → (∀ x, x ≠ 26 → x ≠ 29 → JJ x = I x) → (∀ x, x ≠ 30 → x ≠ 31 → KK x = L x) → Post none HS JJ KK RF 146) : CT g yX5_walk cX5_walk 17 none rX5_walk [.ref 26, .ref 12, .ref a, .ref b, .int (nI n)] Post HS I L RF 146 := by
  have hpw := wk_pw hn hc hs0
  have hc3 : c < 256 := by have : 2 ^ n ≤ 2 ^ 8 := Nat.pow_le_pow_right (by omega) (by omega); omega
  refine ct_of (lv := [some (.ref 26), some (.ref 12), some (.ref a), some (.ref b), some (.int (nI n)), none, none, none, none, none, none, none, none, none, none, none, none]) (by decide) (Nat.le_of_ble_eq_true rfl) rfl ?_
  refine ev_aload_n (pc' := 1) (i := 0) dX5_walk_0 rfl rfl rfl ?_
  refine ev_iconst (pc' := 2) (v := 0) dX5_walk_1 rfl ki_0 ?_
  refine ev_putI (pc' := 5) (I' := (ma_up I 26 (ma_up (I 26) 3 0))) fo_X5_25 dX5_walk_2 rfl hs_26 rfl (fun r hr => by cases hr; rfl) ⟨rfl, rfl⟩ rfl ?_
  refine ev_aload_n (pc' := 6) (i := 0) dX5_walk_5 rfl rfl rfl ?_
  refine ev_iconst (pc' := 7) (v := 0) dX5_walk_6 rfl ki_0 ?_
  refine ev_putI (pc' := 10) (I' := (ma_up I 26 (ma_up (ma_up (I 26) 3 0) 4 0))) fo_X5_29 dX5_walk_7 rfl hs_26 rfl (fun r hr => by cases hr; rfl) ⟨rfl, rfl⟩ (ma_up_up _ _ _ _) ?_
  refine ev_iconst (pc' := 11) (v := 0) dX5_walk_10 rfl ki_0 ?_
  refine ev_istore (pc' := 13) (lv' := [some (.ref 26), some (.ref 12), some (.ref a), some (.ref b), some (.int (nI n)), some (.int 0), none, none, none, none, none, none, none, none, none, none, none]) dX5_walk_11 rfl (Nat.le_of_ble_eq_true rfl) rfl rfl ?_
  refine ev_iconst (pc' := 14) (v := (-1)) dX5_walk_13 rfl ki_m1 ?_
  refine ev_istore (pc' := 16) (lv' := [some (.ref 26), some (.ref 12), some (.ref a), some (.ref b), some (.int (nI n)), some (.int 0), some (.int (-1)), none, none, none, none, none, none, none, none, none, none]) dX5_walk_14 rfl (Nat.le_of_ble_eq_true rfl) rfl rfl ?_
  refine ev_iconst (pc' := 17) (v := 0) dX5_walk_16 rfl ki_0 ?_
  refine ev_istore (pc' := 19) (lv' := [some (.ref 26), some (.ref 12), some (.ref a), some (.ref b), some (.int (nI n)), some (.int 0), some (.int (-1)), some (.int 0), none, none, none, none, none, none, none, none, none]) dX5_walk_17 rfl (Nat.le_of_ble_eq_true rfl) rfl rfl ?_
  refine ev_iconst (pc' := 20) (v := 1) dX5_walk_19 rfl ki_1 ?_
  refine ev_iload (pc' := 22) dX5_walk_20 rfl rfl ?_
  refine ev_ishl (pc' := 23) (v := nI (c + 1)) dX5_walk_22 rfl (wk_shl hn hc) ?_
  refine ev_iconst (pc' := 24) (v := 1) dX5_walk_23 rfl ki_1 ?_
  refine ev_isub (pc' := 25) (v := nI c) dX5_walk_24 rfl (nI_sub1 (n := c + 1) (Nat.succ_pos _)) ?_
  refine ev_istore (pc' := 27) (lv' := [some (.ref 26), some (.ref 12), some (.ref a), some (.ref b), some (.int (nI n)), some (.int 0), some (.int (-1)), some (.int 0), some (.int (nI c)), none, none, none, none, none, none, none, none]) dX5_walk_25 rfl (Nat.le_of_ble_eq_true rfl) rfl rfl ?_
  refine ev_sipush (pc' := 30) (v := 256) dX5_walk_27 rfl ks_256 ?_
  refine ev_iload (pc' := 32) dX5_walk_30 rfl rfl ?_
  refine ev_ishr (pc' := 33) (v := nI s) dX5_walk_32 rfl (wk_shr hn hpw.1) ?_
  refine ev_istore (pc' := 35) (lv' := [some (.ref 26), some (.ref 12), some (.ref a), some (.ref b), some (.int (nI n)), some (.int 0), some (.int (-1)), some (.int 0), some (.int (nI c)), some (.int (nI s)), none, none, none, none, none, none, none]) dX5_walk_33 rfl (Nat.le_of_ble_eq_true rfl) rfl rfl ?_
  refine ev_iload (pc' := 37) dX5_walk_35 rfl rfl ?_
  refine ev_ineg (pc' := 38) (v := -(nI c)) dX5_walk_37 rfl rfl ?_
  refine ev_istore (pc' := 40) (lv' := [some (.ref 26), some (.ref 12), some (.ref a), some (.ref b), some (.int (nI n)), some (.int 0), some (.int (-1)), some (.int 0), some (.int (nI c)), some (.int (nI s)), some (.int (-(nI c))), none, none, none, none, none, none]) dX5_walk_38 rfl (Nat.le_of_ble_eq_true rfl) rfl rfl ?_
  suffices lb : ∀ (dd i : Nat) (s1 s2 s3 s4 s5 : Int32) (JJ : ma_I) (KK : ma_L), i + dd = 2 * c + 1 → (s1, s2, s3, s4, s5) = cBt (L 13) (L d) (L e) n c i → JJ 26 3 = s1 → JJ 26 4 = s5 → (∀ x, x ≠ 26 → x ≠ 29 → JJ x = I x) → (∀ x, x ≠ 30 → x ≠ 31 → KK x = L x) → EV g yX5_walk cX5_walk 17 none rX5_walk (ma_ZM g rX5_walk Post) 40 [some (.ref 26), some (.ref 12), some (.ref a), some (.ref b), some (.int (nI n)), some (.int s2), some (.int s3), some (.int s4), some (.int (nI c)), some (.int (nI s)), some (.int (nI i - nI c)), none, none, none, none, none, none] [] HS JJ KK RF 146 0 0 by
    rw [mvc_0]
    exact lb (2 * c + 1) 0 _ _ _ _ _ _ _ (by omega) rfl rfl rfl (fun x h _ => ma_up_n _ _ h) (fun _ _ _ => rfl)
  intro dd
  induction dd with
  | zero =>
    intro i s1 s2 s3 s4 s5 JJ KK hi hs h3 h5 hJ hK
    have hi : i = 2 * c + 1 := by omega
    rw [hi] at hs
    refine ev_iload (pc' := 42) dX5_walk_40 rfl rfl ?_
    refine ev_iload (pc' := 44) dX5_walk_42 rfl rfl ?_
    refine ev_icmp_gt (tgt := 223) (pc' := 47) dX5_walk_44 rfl rfl (fun _ => ?_) (fun h => absurd (mvc_gt hi (by omega)) h)
    refine ev_vret dX5_walk_223 rfl ⟨Nat.le_refl _, Nat.le_refl _⟩ ?_
    exact k0 s2 s3 s4 JJ KK (by rw [h3, h5]; exact hs) hJ hK
  | succ dd ih =>
    intro i s1 s2 s3 s4 s5 JJ KK hi hs h3 h5 hJ hK
    have hX1 : ∀ j, j ≤ 256 → JJ 27 j = mSb 0 1 8 j := fun j hj => (congrFun (hJ 27 (by decide) (by decide)) j).trans (hX j hj)
    have hY1 : ∀ j, j ≤ 256 → JJ 28 j = mSb 1 0 8 j := fun j hj => (congrFun (hJ 28 (by decide) (by decide)) j).trans (hY j hj)
    by_cases hic : i < c
    · have em : mTm n c i = Int32.toInt64 (-(mSb 0 1 n (c - i))) := if_pos hic
      have eq_ : mTq n c i = Int32.toInt64 (mSb 1 0 n (c - i)) := if_pos hic
      obtain ⟨p, hp⟩ : ∃ p, p = (c - i) * s := ⟨_, rfl⟩
      have hp2 : p ≤ 256 := by rw [hp]; exact wk_pl hc hs0 (by omega)
      have hx : JJ 27 p = mSb 0 1 n (c - i) := by rw [hX1 p hp2, hp]; exact hpw.2 _ _ _
      have hy : JJ 28 p = mSb 1 0 n (c - i) := by rw [hY1 p hp2, hp]; exact hpw.2 _ _ _
      refine ev_iload (pc' := 42) dX5_walk_40 rfl rfl ?_
      refine ev_iload (pc' := 44) dX5_walk_42 rfl rfl ?_
      refine ev_icmp_gt (tgt := 223) (pc' := 47) dX5_walk_44 rfl rfl (fun h => absurd h (mvc_le (by omega) (by omega))) (fun _ => ?_)
      refine ev_iload (pc' := 49) dX5_walk_47 rfl rfl ?_
      refine ev_mabs (pc' := 52) co_X5_32 cs_J9_abs_0f7a4 (tb_m (i := 759) rfl) dX5_walk_49 rfl (Nat.le_of_ble_eq_true rfl) (Nat.le_of_ble_eq_true rfl) ⟨(Nat.le_of_ble_eq_true rfl), (Nat.le_of_ble_eq_true rfl)⟩ ?_
      refine ev_eqi (w := nI (c - i)) (wk_abn hic (by omega)) ?_
      refine ev_iload (pc' := 54) dX5_walk_52 rfl rfl ?_
      refine ev_imul (pc' := 55) (v := nI ((c - i) * s)) dX5_walk_54 rfl (pk_mul (c - i) s) ?_
      refine ev_sipush (pc' := 58) (v := 256) dX5_walk_55 rfl ks_256 ?_
      refine ev_mmin (pc' := 61) co_X5_38 cs_J9_min_7cf53 (tb_m (i := 762) rfl) dX5_walk_58 rfl (Nat.le_of_ble_eq_true rfl) (Nat.le_of_ble_eq_true rfl) ⟨(Nat.le_of_ble_eq_true rfl), (Nat.le_of_ble_eq_true rfl)⟩ ?_
      refine ev_eqi (w := nI p) (by rw [← hp]; exact wk_min hp2) ?_
      refine ev_istore (pc' := 63) (lv' := [some (.ref 26), some (.ref 12), some (.ref a), some (.ref b), some (.int (nI n)), some (.int s2), some (.int s3), some (.int s4), some (.int (nI c)), some (.int (nI s)), some (.int (nI i - nI c)), some (.int (nI p)), none, none, none, none, none]) dX5_walk_61 rfl (Nat.le_of_ble_eq_true rfl) rfl rfl ?_
      refine ev_iload (pc' := 65) dX5_walk_63 rfl rfl ?_
      refine ev_if_ge (tgt := 80) (pc' := 68) dX5_walk_65 rfl rfl (fun h => absurd h (mvc_lt hic (by omega))) (fun _ => ?_)
      refine ev_aload_n (pc' := 69) (i := 0) dX5_walk_68 rfl rfl rfl ?_
      refine ev_getR (pc' := 72) fo_X5_9 dX5_walk_69 rfl hs_26 rfl rf_26_0 ?_
      refine ev_iload (pc' := 74) dX5_walk_72 rfl rfl ?_
      refine ev_iald (pc' := 75) (j := p) (v := mSb 0 1 n (c - i)) dX5_walk_74 rfl hs_27 rfl (by omega) (Nat.le_of_ble_eq_true rfl) hx ?_
      refine ev_ineg (pc' := 76) (v := -(mSb 0 1 n (c - i))) dX5_walk_75 rfl rfl ?_
      refine ev_i2l (pc' := 77) (v := Int32.toInt64 (-(mSb 0 1 n (c - i)))) dX5_walk_76 rfl rfl ?_
      refine ev_goto (tgt := 88) dX5_walk_77 rfl ?_
      rw [← em]
      refine ev_lstore (pc' := 90) (lv' := [some (.ref 26), some (.ref 12), some (.ref a), some (.ref b), some (.int (nI n)), some (.int s2), some (.int s3), some (.int s4), some (.int (nI c)), some (.int (nI s)), some (.int (nI i - nI c)), some (.int (nI p)), some (.long (mTm n c i)), none, none, none, none]) dX5_walk_88 rfl (Nat.le_of_ble_eq_true rfl) rfl rfl ?_
      refine ev_aload_n (pc' := 91) (i := 0) dX5_walk_90 rfl rfl rfl ?_
      refine ev_getR (pc' := 94) fo_X5_15 dX5_walk_91 rfl hs_26 rfl rf_26_1 ?_
      refine ev_iload (pc' := 96) dX5_walk_94 rfl rfl ?_
      refine ev_iald (pc' := 97) (j := p) (v := mSb 1 0 n (c - i)) dX5_walk_96 rfl hs_28 rfl (by omega) (Nat.le_of_ble_eq_true rfl) hy ?_
      refine ev_i2l (pc' := 98) (v := Int32.toInt64 (mSb 1 0 n (c - i))) dX5_walk_97 rfl rfl ?_
      rw [← eq_]
      refine ev_lstore (pc' := 100) (lv' := [some (.ref 26), some (.ref 12), some (.ref a), some (.ref b), some (.int (nI n)), some (.int s2), some (.int s3), some (.int s4), some (.int (nI c)), some (.int (nI s)), some (.int (nI i - nI c)), some (.int (nI p)), some (.long (mTm n c i)), none, some (.long (mTq n c i)), none, none]) dX5_walk_98 rfl (Nat.le_of_ble_eq_true rfl) rfl rfl ?_
      refine ev_aload_n (pc' := 101) (i := 1) dX5_walk_100 rfl rfl rfl ?_
      refine ev_lload (pc' := 103) dX5_walk_101 rfl rfl ?_
      refine ev_lload (pc' := 105) dX5_walk_103 rfl rfl ?_
      refine ev_callV (pc' := 108) (rm' := rX0_worthAt) (b := 12) (av := [.long (mTm n c i), .long (mTq n c i)]) (rest := []) co_X5_42 ci_X0_worthAt cv_X0_worthAt dX5_walk_105 rfl hs_12 hb_X0 rfl rfl (Nat.le_of_ble_eq_true rfl) ⟨(Nat.le_of_ble_eq_true rfl), (Nat.le_of_ble_eq_true rfl)⟩ ⟨(Nat.le_of_ble_eq_true rfl), (Nat.le_of_ble_eq_true rfl)⟩ ?_
      refine t_X0_worthAt (mTm n c i) (mTq n c i) ?_
      refine ev_callS (pc' := 111) (rm' := rX7_signOf) (av := [.long (mAt4 (KK 13) (mTm n c i) (mTq n c i))]) (rest := []) co_X5_48 cs_X7_signOf dX5_walk_108 rfl rfl rfl (Nat.le_of_ble_eq_true rfl) ⟨(Nat.le_of_ble_eq_true rfl), (Nat.le_of_ble_eq_true rfl)⟩ ⟨(Nat.le_of_ble_eq_true rfl), (Nat.le_of_ble_eq_true rfl)⟩ ?_
      refine t_X7_signOf (mAt4 (KK 13) (mTm n c i) (mTq n c i)) ?_
      refine ev_eqi (w := mSg (mAt4 (KK 13) (mTm n c i) (mTq n c i))) rfl ?_
      refine ev_topi (fun sd hz => ?_)
      have hsd : sd = mSg (mAt4 (L 13) (mTm n c i) (mTq n c i)) := by rw [← hK 13 (by decide) (by decide)]; exact hz
      refine ev_istore (pc' := 113) (lv' := [some (.ref 26), some (.ref 12), some (.ref a), some (.ref b), some (.int (nI n)), some (.int s2), some (.int s3), some (.int s4), some (.int (nI c)), some (.int (nI s)), some (.int (nI i - nI c)), some (.int (nI p)), some (.long (mTm n c i)), none, some (.long (mTq n c i)), none, some (.int sd)]) dX5_walk_111 rfl (Nat.le_of_ble_eq_true rfl) rfl rfl ?_
      refine ev_iload (pc' := 115) dX5_walk_113 rfl rfl ?_
      refine ev_if_ne (tgt := 121) (pc' := 118) dX5_walk_115 rfl rfl (fun c1 => ?_) (fun c1 => ?_)
      · refine ev_iload (pc' := 123) dX5_walk_121 rfl rfl ?_
        refine ev_if_eq (tgt := 143) (pc' := 126) dX5_walk_123 rfl rfl (fun c2 => ?_) (fun c2 => ?_)
        · refine ev_iload (pc' := 145) dX5_walk_143 rfl rfl ?_
          refine ev_istore (pc' := 147) (lv' := [some (.ref 26), some (.ref 12), some (.ref a), some (.ref b), some (.int (nI n)), some (.int s2), some (.int s3), some (.int sd), some (.int (nI c)), some (.int (nI s)), some (.int (nI i - nI c)), some (.int (nI p)), some (.long (mTm n c i)), none, some (.long (mTq n c i)), none, some (.int sd)]) dX5_walk_145 rfl (Nat.le_of_ble_eq_true rfl) rfl rfl ?_
          refine ev_aload_n (pc' := 148) (i := 0) dX5_walk_147 rfl rfl rfl ?_
          refine ev_getR (pc' := 151) fo_X5_21 dX5_walk_148 rfl hs_26 rfl rf_26_2 ?_
          refine ev_aload_n (pc' := 152) (i := 2) dX5_walk_151 rfl rfl rfl ?_
          refine ev_lload (pc' := 154) dX5_walk_152 rfl rfl ?_
          refine ev_aload_n (pc' := 155) (i := 3) dX5_walk_154 rfl rfl rfl ?_
          refine ev_lload (pc' := 157) dX5_walk_155 rfl rfl ?_
          refine ev_callV (pc' := 160) (rm' := rX4_sumOf) (b := 29) (av := [.ref a, .long (mTm n c i), .ref b, .long (mTq n c i)]) (rest := []) co_X5_52 ci_X4_sumOf cv_X4_sumOf dX5_walk_157 rfl hs_29 hb_X4 rfl rfl (Nat.le_of_ble_eq_true rfl) ⟨(Nat.le_of_ble_eq_true rfl), (Nat.le_of_ble_eq_true rfl)⟩ ⟨(Nat.le_of_ble_eq_true rfl), (Nat.le_of_ble_eq_true rfl)⟩ ?_
          refine t_X4_sumOf 29 30 hs_29 rf_29_0 hs_30 a (mTm n c i) b (mTq n c i) d e ha hra hd hd30 hb hrb he he30 ?_
          refine ev_aload_n (pc' := 161) (i := 0) dX5_walk_160 rfl rfl rfl ?_
          refine ev_getR (pc' := 164) fo_X5_21 dX5_walk_161 rfl hs_26 rfl rf_26_2 ?_
          refine ev_callV (pc' := 167) (rm' := rX4_readSigns) (b := 29) (av := []) (rest := []) co_X5_56 ci_X4_readSigns cv_X4_readSigns dX5_walk_164 rfl hs_29 hb_X4 rfl rfl (Nat.le_of_ble_eq_true rfl) ⟨(Nat.le_of_ble_eq_true rfl), (Nat.le_of_ble_eq_true rfl)⟩ ⟨(Nat.le_of_ble_eq_true rfl), (Nat.le_of_ble_eq_true rfl)⟩ ?_
          obtain ⟨ab, hab⟩ : ∃ ab, ab = cAv (cSm (L d) (L e) (mTm n c i) (mTq n c i)) := ⟨_, rfl⟩
          have hav : cAv ((cSu KK 30 d e (mTm n c i) (mTq n c i)) 30) = ab := by rw [hab]; exact cAv_c (fun j hj => by unfold cSu; rw [mfill_at, if_pos (by omega)]; unfold cSm; rw [hK d hd30 hd31, hK e he30 he31]; rfl)
          refine t_X4_readSigns 29 30 31 hs_29 rf_29_0 hs_30 rf_29_1 hs_31 (by decide) (fun K9 k1 _ => ?_)
          refine ev_memI (fun J9 h9 => ?_)
          have g1 : J9 29 2 = ab := by rw [h9]; unfold cSg; rw [ma_up_s, ma_up_n _ _ (show 2 ≠ 3 by decide), ma_up_s]; exact hav
          have g3 : J9 26 3 = s1 := by rw [h9]; unfold cSg; rw [ma_up_n _ _ (show 26 ≠ 29 by decide)]; exact h3
          have g5 : J9 26 4 = s5 := by rw [h9]; unfold cSg; rw [ma_up_n _ _ (show 26 ≠ 29 by decide)]; exact h5
          have g4 : ∀ x, x ≠ 26 → x ≠ 29 → J9 x = I x := fun x q1 q2 => by rw [h9]; unfold cSg; rw [ma_up_n _ _ q2]; exact hJ x q1 q2
          have gK : ∀ x, x ≠ 30 → x ≠ 31 → K9 x = L x := fun x q1 q2 => by rw [k1 x q2]; unfold cSu; rw [mfill_n _ _ _ _ q1]; exact hK x q1 q2
          refine ev_aload_n (pc' := 168) (i := 0) dX5_walk_167 rfl rfl rfl ?_
          refine ev_getR (pc' := 171) fo_X5_21 dX5_walk_168 rfl hs_26 rfl rf_26_2 ?_
          refine ev_getI (pc' := 174) (v := ab) fo_X5_59 dX5_walk_171 rfl hs_29 rfl g1 ?_
          refine ev_iload (pc' := 176) dX5_walk_174 rfl rfl ?_
          refine ev_icmp_eq (tgt := 208) (pc' := 179) dX5_walk_176 rfl rfl (fun c3 => ?_) (fun c3 => ?_)
          · refine ev_aload_n (pc' := 209) (i := 0) dX5_walk_208 rfl rfl rfl ?_
            refine ev_getR (pc' := 212) fo_X5_21 dX5_walk_209 rfl hs_26 rfl rf_26_2 ?_
            refine ev_getI (pc' := 215) (v := ab) fo_X5_59 dX5_walk_212 rfl hs_29 rfl g1 ?_
            refine ev_istore (pc' := 217) (lv' := [some (.ref 26), some (.ref 12), some (.ref a), some (.ref b), some (.int (nI n)), some (.int s2), some (.int ab), some (.int sd), some (.int (nI c)), some (.int (nI s)), some (.int (nI i - nI c)), some (.int (nI p)), some (.long (mTm n c i)), none, some (.long (mTq n c i)), none, some (.int sd)]) dX5_walk_215 rfl (Nat.le_of_ble_eq_true rfl) rfl rfl ?_
            refine ev_iinc (pc' := 220) (v := (nI i - nI c) + 1) (lv' := [some (.ref 26), some (.ref 12), some (.ref a), some (.ref b), some (.int (nI n)), some (.int s2), some (.int ab), some (.int sd), some (.int (nI c)), some (.int (nI s)), some (.int ((nI i - nI c) + 1)), some (.int (nI p)), some (.long (mTm n c i)), none, some (.long (mTq n c i)), none, some (.int sd)]) dX5_walk_217 rfl rfl rfl (Nat.le_of_ble_eq_true rfl) rfl rfl ?_
            refine ev_goto (tgt := 40) dX5_walk_220 rfl ?_
            refine ev_lvw (lv' := [some (.ref 26), some (.ref 12), some (.ref a), some (.ref b), some (.int (nI n)), some (.int s2), some (.int ab), some (.int sd), some (.int (nI c)), some (.int (nI s)), some (.int ((nI i - nI c) + 1)), none, none, none, none, none, none]) ⟨rfl, ⟨rfl, ⟨rfl, ⟨rfl, ⟨rfl, ⟨rfl, ⟨rfl, ⟨rfl, ⟨rfl, ⟨rfl, ⟨rfl, trivial⟩⟩⟩⟩⟩⟩⟩⟩⟩⟩⟩ ?_
            rw [mvc_s]
            exact ih (i + 1) s1 s2 ab sd s5 _ _ (by omega) (by show _ = cBs _ _ (cBt _ _ _ _ _ _); rw [← hs, ← hsd, ← hab]; unfold cBs; rw [if_neg c1]; dsimp only; rw [if_pos c3, if_pos c3, if_pos c2]) g3 g5 g4 gK
          · refine ev_iload (pc' := 181) dX5_walk_179 rfl rfl ?_
            refine ev_bipush (pc' := 183) (v := 9) dX5_walk_181 rfl kb_9 ?_
            refine ev_icmp_ge (tgt := 208) (pc' := 186) dX5_walk_183 rfl rfl (fun c4 => ?_) (fun c4 => ?_)
            · refine ev_aload_n (pc' := 209) (i := 0) dX5_walk_208 rfl rfl rfl ?_
              refine ev_getR (pc' := 212) fo_X5_21 dX5_walk_209 rfl hs_26 rfl rf_26_2 ?_
              refine ev_getI (pc' := 215) (v := ab) fo_X5_59 dX5_walk_212 rfl hs_29 rfl g1 ?_
              refine ev_istore (pc' := 217) (lv' := [some (.ref 26), some (.ref 12), some (.ref a), some (.ref b), some (.int (nI n)), some (.int s2), some (.int ab), some (.int sd), some (.int (nI c)), some (.int (nI s)), some (.int (nI i - nI c)), some (.int (nI p)), some (.long (mTm n c i)), none, some (.long (mTq n c i)), none, some (.int sd)]) dX5_walk_215 rfl (Nat.le_of_ble_eq_true rfl) rfl rfl ?_
              refine ev_iinc (pc' := 220) (v := (nI i - nI c) + 1) (lv' := [some (.ref 26), some (.ref 12), some (.ref a), some (.ref b), some (.int (nI n)), some (.int s2), some (.int ab), some (.int sd), some (.int (nI c)), some (.int (nI s)), some (.int ((nI i - nI c) + 1)), some (.int (nI p)), some (.long (mTm n c i)), none, some (.long (mTq n c i)), none, some (.int sd)]) dX5_walk_217 rfl rfl rfl (Nat.le_of_ble_eq_true rfl) rfl rfl ?_
              refine ev_goto (tgt := 40) dX5_walk_220 rfl ?_
              refine ev_lvw (lv' := [some (.ref 26), some (.ref 12), some (.ref a), some (.ref b), some (.int (nI n)), some (.int s2), some (.int ab), some (.int sd), some (.int (nI c)), some (.int (nI s)), some (.int ((nI i - nI c) + 1)), none, none, none, none, none, none]) ⟨rfl, ⟨rfl, ⟨rfl, ⟨rfl, ⟨rfl, ⟨rfl, ⟨rfl, ⟨rfl, ⟨rfl, ⟨rfl, ⟨rfl, trivial⟩⟩⟩⟩⟩⟩⟩⟩⟩⟩⟩ ?_
              rw [mvc_s]
              exact ih (i + 1) s1 s2 ab sd s5 _ _ (by omega) (by show _ = cBs _ _ (cBt _ _ _ _ _ _); rw [← hs, ← hsd, ← hab]; unfold cBs; rw [if_neg c1]; dsimp only; rw [if_neg c3, if_neg c3, if_pos c4, if_pos c4, if_pos c2]) g3 g5 g4 gK
            · refine ev_aload_n (pc' := 187) (i := 0) dX5_walk_186 rfl rfl rfl ?_
              refine ev_bipush (pc' := 189) (v := 10) dX5_walk_187 rfl kb_10 ?_
              refine ev_aload_n (pc' := 190) (i := 0) dX5_walk_189 rfl rfl rfl ?_
              refine ev_getI (pc' := 193) (v := s1) fo_X5_25 dX5_walk_190 rfl hs_26 rfl g3 ?_
              refine ev_imul (pc' := 194) (v := 10 * s1) dX5_walk_193 rfl rfl ?_
              refine ev_aload_n (pc' := 195) (i := 0) dX5_walk_194 rfl rfl rfl ?_
              refine ev_getR (pc' := 198) fo_X5_21 dX5_walk_195 rfl hs_26 rfl rf_26_2 ?_
              refine ev_getI (pc' := 201) (v := ab) fo_X5_59 dX5_walk_198 rfl hs_29 rfl g1 ?_
              refine ev_iadd (pc' := 202) (v := (10 * s1) + ab) dX5_walk_201 rfl rfl ?_
              refine ev_putI (pc' := 205) (I' := (ma_up J9 26 (ma_up (J9 26) 3 ((10 * s1) + ab)))) fo_X5_25 dX5_walk_202 rfl hs_26 rfl (fun r hr => by cases hr; rfl) ⟨rfl, rfl⟩ rfl ?_
              refine ev_iinc (pc' := 208) (v := s2 + 1) (lv' := [some (.ref 26), some (.ref 12), some (.ref a), some (.ref b), some (.int (nI n)), some (.int (s2 + 1)), some (.int s3), some (.int sd), some (.int (nI c)), some (.int (nI s)), some (.int (nI i - nI c)), some (.int (nI p)), some (.long (mTm n c i)), none, some (.long (mTq n c i)), none, some (.int sd)]) dX5_walk_205 rfl rfl rfl (Nat.le_of_ble_eq_true rfl) rfl rfl ?_
              refine ev_aload_n (pc' := 209) (i := 0) dX5_walk_208 rfl rfl rfl ?_
              refine ev_getR (pc' := 212) fo_X5_21 dX5_walk_209 rfl hs_26 rfl rf_26_2 ?_
              refine ev_getI (pc' := 215) (v := ab) fo_X5_59 dX5_walk_212 rfl hs_29 rfl g1 ?_
              refine ev_istore (pc' := 217) (lv' := [some (.ref 26), some (.ref 12), some (.ref a), some (.ref b), some (.int (nI n)), some (.int (s2 + 1)), some (.int ab), some (.int sd), some (.int (nI c)), some (.int (nI s)), some (.int (nI i - nI c)), some (.int (nI p)), some (.long (mTm n c i)), none, some (.long (mTq n c i)), none, some (.int sd)]) dX5_walk_215 rfl (Nat.le_of_ble_eq_true rfl) rfl rfl ?_
              refine ev_iinc (pc' := 220) (v := (nI i - nI c) + 1) (lv' := [some (.ref 26), some (.ref 12), some (.ref a), some (.ref b), some (.int (nI n)), some (.int (s2 + 1)), some (.int ab), some (.int sd), some (.int (nI c)), some (.int (nI s)), some (.int ((nI i - nI c) + 1)), some (.int (nI p)), some (.long (mTm n c i)), none, some (.long (mTq n c i)), none, some (.int sd)]) dX5_walk_217 rfl rfl rfl (Nat.le_of_ble_eq_true rfl) rfl rfl ?_
              refine ev_goto (tgt := 40) dX5_walk_220 rfl ?_
              refine ev_lvw (lv' := [some (.ref 26), some (.ref 12), some (.ref a), some (.ref b), some (.int (nI n)), some (.int (s2 + 1)), some (.int ab), some (.int sd), some (.int (nI c)), some (.int (nI s)), some (.int ((nI i - nI c) + 1)), none, none, none, none, none, none]) ⟨rfl, ⟨rfl, ⟨rfl, ⟨rfl, ⟨rfl, ⟨rfl, ⟨rfl, ⟨rfl, ⟨rfl, ⟨rfl, ⟨rfl, trivial⟩⟩⟩⟩⟩⟩⟩⟩⟩⟩⟩ ?_
              rw [mvc_s]
              exact ih (i + 1) (10 * s1 + ab) (s2 + 1) ab sd s5 _ _ (by omega) (by show _ = cBs _ _ (cBt _ _ _ _ _ _); rw [← hs, ← hsd, ← hab]; unfold cBs; rw [if_neg c1]; dsimp only; rw [if_neg c3, if_neg c3, if_neg c4, if_neg c4, if_pos c2]) (by rw [ma_up_s, ma_up_s]) (by rw [ma_up_s, ma_up_n _ _ (show 4 ≠ 3 by decide)]; exact g5) (fun x h1 h2 => (ma_up_n _ _ h1).trans (g4 x h1 h2)) gK
        · refine ev_iload (pc' := 128) dX5_walk_126 rfl rfl ?_
          refine ev_iload (pc' := 130) dX5_walk_128 rfl rfl ?_
          refine ev_icmp_eq (tgt := 143) (pc' := 133) dX5_walk_130 rfl rfl (fun c5 => ?_) (fun c5 => ?_)
          · refine ev_iload (pc' := 145) dX5_walk_143 rfl rfl ?_
            refine ev_istore (pc' := 147) (lv' := [some (.ref 26), some (.ref 12), some (.ref a), some (.ref b), some (.int (nI n)), some (.int s2), some (.int s3), some (.int sd), some (.int (nI c)), some (.int (nI s)), some (.int (nI i - nI c)), some (.int (nI p)), some (.long (mTm n c i)), none, some (.long (mTq n c i)), none, some (.int sd)]) dX5_walk_145 rfl (Nat.le_of_ble_eq_true rfl) rfl rfl ?_
            refine ev_aload_n (pc' := 148) (i := 0) dX5_walk_147 rfl rfl rfl ?_
            refine ev_getR (pc' := 151) fo_X5_21 dX5_walk_148 rfl hs_26 rfl rf_26_2 ?_
            refine ev_aload_n (pc' := 152) (i := 2) dX5_walk_151 rfl rfl rfl ?_
            refine ev_lload (pc' := 154) dX5_walk_152 rfl rfl ?_
            refine ev_aload_n (pc' := 155) (i := 3) dX5_walk_154 rfl rfl rfl ?_
            refine ev_lload (pc' := 157) dX5_walk_155 rfl rfl ?_
            refine ev_callV (pc' := 160) (rm' := rX4_sumOf) (b := 29) (av := [.ref a, .long (mTm n c i), .ref b, .long (mTq n c i)]) (rest := []) co_X5_52 ci_X4_sumOf cv_X4_sumOf dX5_walk_157 rfl hs_29 hb_X4 rfl rfl (Nat.le_of_ble_eq_true rfl) ⟨(Nat.le_of_ble_eq_true rfl), (Nat.le_of_ble_eq_true rfl)⟩ ⟨(Nat.le_of_ble_eq_true rfl), (Nat.le_of_ble_eq_true rfl)⟩ ?_
            refine t_X4_sumOf 29 30 hs_29 rf_29_0 hs_30 a (mTm n c i) b (mTq n c i) d e ha hra hd hd30 hb hrb he he30 ?_
            refine ev_aload_n (pc' := 161) (i := 0) dX5_walk_160 rfl rfl rfl ?_
            refine ev_getR (pc' := 164) fo_X5_21 dX5_walk_161 rfl hs_26 rfl rf_26_2 ?_
            refine ev_callV (pc' := 167) (rm' := rX4_readSigns) (b := 29) (av := []) (rest := []) co_X5_56 ci_X4_readSigns cv_X4_readSigns dX5_walk_164 rfl hs_29 hb_X4 rfl rfl (Nat.le_of_ble_eq_true rfl) ⟨(Nat.le_of_ble_eq_true rfl), (Nat.le_of_ble_eq_true rfl)⟩ ⟨(Nat.le_of_ble_eq_true rfl), (Nat.le_of_ble_eq_true rfl)⟩ ?_
            obtain ⟨ab, hab⟩ : ∃ ab, ab = cAv (cSm (L d) (L e) (mTm n c i) (mTq n c i)) := ⟨_, rfl⟩
            have hav : cAv ((cSu KK 30 d e (mTm n c i) (mTq n c i)) 30) = ab := by rw [hab]; exact cAv_c (fun j hj => by unfold cSu; rw [mfill_at, if_pos (by omega)]; unfold cSm; rw [hK d hd30 hd31, hK e he30 he31]; rfl)
            refine t_X4_readSigns 29 30 31 hs_29 rf_29_0 hs_30 rf_29_1 hs_31 (by decide) (fun K9 k1 _ => ?_)
            refine ev_memI (fun J9 h9 => ?_)
            have g1 : J9 29 2 = ab := by rw [h9]; unfold cSg; rw [ma_up_s, ma_up_n _ _ (show 2 ≠ 3 by decide), ma_up_s]; exact hav
            have g3 : J9 26 3 = s1 := by rw [h9]; unfold cSg; rw [ma_up_n _ _ (show 26 ≠ 29 by decide)]; exact h3
            have g5 : J9 26 4 = s5 := by rw [h9]; unfold cSg; rw [ma_up_n _ _ (show 26 ≠ 29 by decide)]; exact h5
            have g4 : ∀ x, x ≠ 26 → x ≠ 29 → J9 x = I x := fun x q1 q2 => by rw [h9]; unfold cSg; rw [ma_up_n _ _ q2]; exact hJ x q1 q2
            have gK : ∀ x, x ≠ 30 → x ≠ 31 → K9 x = L x := fun x q1 q2 => by rw [k1 x q2]; unfold cSu; rw [mfill_n _ _ _ _ q1]; exact hK x q1 q2
            refine ev_aload_n (pc' := 168) (i := 0) dX5_walk_167 rfl rfl rfl ?_
            refine ev_getR (pc' := 171) fo_X5_21 dX5_walk_168 rfl hs_26 rfl rf_26_2 ?_
            refine ev_getI (pc' := 174) (v := ab) fo_X5_59 dX5_walk_171 rfl hs_29 rfl g1 ?_
            refine ev_iload (pc' := 176) dX5_walk_174 rfl rfl ?_
            refine ev_icmp_eq (tgt := 208) (pc' := 179) dX5_walk_176 rfl rfl (fun c6 => ?_) (fun c6 => ?_)
            · refine ev_aload_n (pc' := 209) (i := 0) dX5_walk_208 rfl rfl rfl ?_
              refine ev_getR (pc' := 212) fo_X5_21 dX5_walk_209 rfl hs_26 rfl rf_26_2 ?_
              refine ev_getI (pc' := 215) (v := ab) fo_X5_59 dX5_walk_212 rfl hs_29 rfl g1 ?_
              refine ev_istore (pc' := 217) (lv' := [some (.ref 26), some (.ref 12), some (.ref a), some (.ref b), some (.int (nI n)), some (.int s2), some (.int ab), some (.int sd), some (.int (nI c)), some (.int (nI s)), some (.int (nI i - nI c)), some (.int (nI p)), some (.long (mTm n c i)), none, some (.long (mTq n c i)), none, some (.int sd)]) dX5_walk_215 rfl (Nat.le_of_ble_eq_true rfl) rfl rfl ?_
              refine ev_iinc (pc' := 220) (v := (nI i - nI c) + 1) (lv' := [some (.ref 26), some (.ref 12), some (.ref a), some (.ref b), some (.int (nI n)), some (.int s2), some (.int ab), some (.int sd), some (.int (nI c)), some (.int (nI s)), some (.int ((nI i - nI c) + 1)), some (.int (nI p)), some (.long (mTm n c i)), none, some (.long (mTq n c i)), none, some (.int sd)]) dX5_walk_217 rfl rfl rfl (Nat.le_of_ble_eq_true rfl) rfl rfl ?_
              refine ev_goto (tgt := 40) dX5_walk_220 rfl ?_
              refine ev_lvw (lv' := [some (.ref 26), some (.ref 12), some (.ref a), some (.ref b), some (.int (nI n)), some (.int s2), some (.int ab), some (.int sd), some (.int (nI c)), some (.int (nI s)), some (.int ((nI i - nI c) + 1)), none, none, none, none, none, none]) ⟨rfl, ⟨rfl, ⟨rfl, ⟨rfl, ⟨rfl, ⟨rfl, ⟨rfl, ⟨rfl, ⟨rfl, ⟨rfl, ⟨rfl, trivial⟩⟩⟩⟩⟩⟩⟩⟩⟩⟩⟩ ?_
              rw [mvc_s]
              exact ih (i + 1) s1 s2 ab sd s5 _ _ (by omega) (by show _ = cBs _ _ (cBt _ _ _ _ _ _); rw [← hs, ← hsd, ← hab]; unfold cBs; rw [if_neg c1]; dsimp only; rw [if_pos c6, if_pos c6, if_neg c2, if_pos c5]) g3 g5 g4 gK
            · refine ev_iload (pc' := 181) dX5_walk_179 rfl rfl ?_
              refine ev_bipush (pc' := 183) (v := 9) dX5_walk_181 rfl kb_9 ?_
              refine ev_icmp_ge (tgt := 208) (pc' := 186) dX5_walk_183 rfl rfl (fun c7 => ?_) (fun c7 => ?_)
              · refine ev_aload_n (pc' := 209) (i := 0) dX5_walk_208 rfl rfl rfl ?_
                refine ev_getR (pc' := 212) fo_X5_21 dX5_walk_209 rfl hs_26 rfl rf_26_2 ?_
                refine ev_getI (pc' := 215) (v := ab) fo_X5_59 dX5_walk_212 rfl hs_29 rfl g1 ?_
                refine ev_istore (pc' := 217) (lv' := [some (.ref 26), some (.ref 12), some (.ref a), some (.ref b), some (.int (nI n)), some (.int s2), some (.int ab), some (.int sd), some (.int (nI c)), some (.int (nI s)), some (.int (nI i - nI c)), some (.int (nI p)), some (.long (mTm n c i)), none, some (.long (mTq n c i)), none, some (.int sd)]) dX5_walk_215 rfl (Nat.le_of_ble_eq_true rfl) rfl rfl ?_
                refine ev_iinc (pc' := 220) (v := (nI i - nI c) + 1) (lv' := [some (.ref 26), some (.ref 12), some (.ref a), some (.ref b), some (.int (nI n)), some (.int s2), some (.int ab), some (.int sd), some (.int (nI c)), some (.int (nI s)), some (.int ((nI i - nI c) + 1)), some (.int (nI p)), some (.long (mTm n c i)), none, some (.long (mTq n c i)), none, some (.int sd)]) dX5_walk_217 rfl rfl rfl (Nat.le_of_ble_eq_true rfl) rfl rfl ?_
                refine ev_goto (tgt := 40) dX5_walk_220 rfl ?_
                refine ev_lvw (lv' := [some (.ref 26), some (.ref 12), some (.ref a), some (.ref b), some (.int (nI n)), some (.int s2), some (.int ab), some (.int sd), some (.int (nI c)), some (.int (nI s)), some (.int ((nI i - nI c) + 1)), none, none, none, none, none, none]) ⟨rfl, ⟨rfl, ⟨rfl, ⟨rfl, ⟨rfl, ⟨rfl, ⟨rfl, ⟨rfl, ⟨rfl, ⟨rfl, ⟨rfl, trivial⟩⟩⟩⟩⟩⟩⟩⟩⟩⟩⟩ ?_
                rw [mvc_s]
                exact ih (i + 1) s1 s2 ab sd s5 _ _ (by omega) (by show _ = cBs _ _ (cBt _ _ _ _ _ _); rw [← hs, ← hsd, ← hab]; unfold cBs; rw [if_neg c1]; dsimp only; rw [if_neg c6, if_neg c6, if_pos c7, if_pos c7, if_neg c2, if_pos c5]) g3 g5 g4 gK
              · refine ev_aload_n (pc' := 187) (i := 0) dX5_walk_186 rfl rfl rfl ?_
                refine ev_bipush (pc' := 189) (v := 10) dX5_walk_187 rfl kb_10 ?_
                refine ev_aload_n (pc' := 190) (i := 0) dX5_walk_189 rfl rfl rfl ?_
                refine ev_getI (pc' := 193) (v := s1) fo_X5_25 dX5_walk_190 rfl hs_26 rfl g3 ?_
                refine ev_imul (pc' := 194) (v := 10 * s1) dX5_walk_193 rfl rfl ?_
                refine ev_aload_n (pc' := 195) (i := 0) dX5_walk_194 rfl rfl rfl ?_
                refine ev_getR (pc' := 198) fo_X5_21 dX5_walk_195 rfl hs_26 rfl rf_26_2 ?_
                refine ev_getI (pc' := 201) (v := ab) fo_X5_59 dX5_walk_198 rfl hs_29 rfl g1 ?_
                refine ev_iadd (pc' := 202) (v := (10 * s1) + ab) dX5_walk_201 rfl rfl ?_
                refine ev_putI (pc' := 205) (I' := (ma_up J9 26 (ma_up (J9 26) 3 ((10 * s1) + ab)))) fo_X5_25 dX5_walk_202 rfl hs_26 rfl (fun r hr => by cases hr; rfl) ⟨rfl, rfl⟩ rfl ?_
                refine ev_iinc (pc' := 208) (v := s2 + 1) (lv' := [some (.ref 26), some (.ref 12), some (.ref a), some (.ref b), some (.int (nI n)), some (.int (s2 + 1)), some (.int s3), some (.int sd), some (.int (nI c)), some (.int (nI s)), some (.int (nI i - nI c)), some (.int (nI p)), some (.long (mTm n c i)), none, some (.long (mTq n c i)), none, some (.int sd)]) dX5_walk_205 rfl rfl rfl (Nat.le_of_ble_eq_true rfl) rfl rfl ?_
                refine ev_aload_n (pc' := 209) (i := 0) dX5_walk_208 rfl rfl rfl ?_
                refine ev_getR (pc' := 212) fo_X5_21 dX5_walk_209 rfl hs_26 rfl rf_26_2 ?_
                refine ev_getI (pc' := 215) (v := ab) fo_X5_59 dX5_walk_212 rfl hs_29 rfl g1 ?_
                refine ev_istore (pc' := 217) (lv' := [some (.ref 26), some (.ref 12), some (.ref a), some (.ref b), some (.int (nI n)), some (.int (s2 + 1)), some (.int ab), some (.int sd), some (.int (nI c)), some (.int (nI s)), some (.int (nI i - nI c)), some (.int (nI p)), some (.long (mTm n c i)), none, some (.long (mTq n c i)), none, some (.int sd)]) dX5_walk_215 rfl (Nat.le_of_ble_eq_true rfl) rfl rfl ?_
                refine ev_iinc (pc' := 220) (v := (nI i - nI c) + 1) (lv' := [some (.ref 26), some (.ref 12), some (.ref a), some (.ref b), some (.int (nI n)), some (.int (s2 + 1)), some (.int ab), some (.int sd), some (.int (nI c)), some (.int (nI s)), some (.int ((nI i - nI c) + 1)), some (.int (nI p)), some (.long (mTm n c i)), none, some (.long (mTq n c i)), none, some (.int sd)]) dX5_walk_217 rfl rfl rfl (Nat.le_of_ble_eq_true rfl) rfl rfl ?_
                refine ev_goto (tgt := 40) dX5_walk_220 rfl ?_
                refine ev_lvw (lv' := [some (.ref 26), some (.ref 12), some (.ref a), some (.ref b), some (.int (nI n)), some (.int (s2 + 1)), some (.int ab), some (.int sd), some (.int (nI c)), some (.int (nI s)), some (.int ((nI i - nI c) + 1)), none, none, none, none, none, none]) ⟨rfl, ⟨rfl, ⟨rfl, ⟨rfl, ⟨rfl, ⟨rfl, ⟨rfl, ⟨rfl, ⟨rfl, ⟨rfl, ⟨rfl, trivial⟩⟩⟩⟩⟩⟩⟩⟩⟩⟩⟩ ?_
                rw [mvc_s]
                exact ih (i + 1) (10 * s1 + ab) (s2 + 1) ab sd s5 _ _ (by omega) (by show _ = cBs _ _ (cBt _ _ _ _ _ _); rw [← hs, ← hsd, ← hab]; unfold cBs; rw [if_neg c1]; dsimp only; rw [if_neg c6, if_neg c6, if_neg c7, if_neg c7, if_neg c2, if_pos c5]) (by rw [ma_up_s, ma_up_s]) (by rw [ma_up_s, ma_up_n _ _ (show 4 ≠ 3 by decide)]; exact g5) (fun x h1 h2 => (ma_up_n _ _ h1).trans (g4 x h1 h2)) gK
          · refine ev_aload_n (pc' := 134) (i := 0) dX5_walk_133 rfl rfl rfl ?_
            refine ev_dup (pc' := 135) dX5_walk_134 rfl rfl ?_
            refine ev_getI (pc' := 138) (v := s5) fo_X5_29 dX5_walk_135 rfl hs_26 rfl h5 ?_
            refine ev_iconst (pc' := 139) (v := 1) dX5_walk_138 rfl ki_1 ?_
            refine ev_iadd (pc' := 140) (v := s5 + 1) dX5_walk_139 rfl rfl ?_
            refine ev_putI (pc' := 143) (I' := (ma_up JJ 26 (ma_up (JJ 26) 4 (s5 + 1)))) fo_X5_29 dX5_walk_140 rfl hs_26 rfl (fun r hr => by cases hr; rfl) ⟨rfl, rfl⟩ rfl ?_
            refine ev_iload (pc' := 145) dX5_walk_143 rfl rfl ?_
            refine ev_istore (pc' := 147) (lv' := [some (.ref 26), some (.ref 12), some (.ref a), some (.ref b), some (.int (nI n)), some (.int s2), some (.int s3), some (.int sd), some (.int (nI c)), some (.int (nI s)), some (.int (nI i - nI c)), some (.int (nI p)), some (.long (mTm n c i)), none, some (.long (mTq n c i)), none, some (.int sd)]) dX5_walk_145 rfl (Nat.le_of_ble_eq_true rfl) rfl rfl ?_
            refine ev_aload_n (pc' := 148) (i := 0) dX5_walk_147 rfl rfl rfl ?_
            refine ev_getR (pc' := 151) fo_X5_21 dX5_walk_148 rfl hs_26 rfl rf_26_2 ?_
            refine ev_aload_n (pc' := 152) (i := 2) dX5_walk_151 rfl rfl rfl ?_
            refine ev_lload (pc' := 154) dX5_walk_152 rfl rfl ?_
            refine ev_aload_n (pc' := 155) (i := 3) dX5_walk_154 rfl rfl rfl ?_
            refine ev_lload (pc' := 157) dX5_walk_155 rfl rfl ?_
            refine ev_callV (pc' := 160) (rm' := rX4_sumOf) (b := 29) (av := [.ref a, .long (mTm n c i), .ref b, .long (mTq n c i)]) (rest := []) co_X5_52 ci_X4_sumOf cv_X4_sumOf dX5_walk_157 rfl hs_29 hb_X4 rfl rfl (Nat.le_of_ble_eq_true rfl) ⟨(Nat.le_of_ble_eq_true rfl), (Nat.le_of_ble_eq_true rfl)⟩ ⟨(Nat.le_of_ble_eq_true rfl), (Nat.le_of_ble_eq_true rfl)⟩ ?_
            refine t_X4_sumOf 29 30 hs_29 rf_29_0 hs_30 a (mTm n c i) b (mTq n c i) d e ha hra hd hd30 hb hrb he he30 ?_
            refine ev_aload_n (pc' := 161) (i := 0) dX5_walk_160 rfl rfl rfl ?_
            refine ev_getR (pc' := 164) fo_X5_21 dX5_walk_161 rfl hs_26 rfl rf_26_2 ?_
            refine ev_callV (pc' := 167) (rm' := rX4_readSigns) (b := 29) (av := []) (rest := []) co_X5_56 ci_X4_readSigns cv_X4_readSigns dX5_walk_164 rfl hs_29 hb_X4 rfl rfl (Nat.le_of_ble_eq_true rfl) ⟨(Nat.le_of_ble_eq_true rfl), (Nat.le_of_ble_eq_true rfl)⟩ ⟨(Nat.le_of_ble_eq_true rfl), (Nat.le_of_ble_eq_true rfl)⟩ ?_
            obtain ⟨ab, hab⟩ : ∃ ab, ab = cAv (cSm (L d) (L e) (mTm n c i) (mTq n c i)) := ⟨_, rfl⟩
            have hav : cAv ((cSu KK 30 d e (mTm n c i) (mTq n c i)) 30) = ab := by rw [hab]; exact cAv_c (fun j hj => by unfold cSu; rw [mfill_at, if_pos (by omega)]; unfold cSm; rw [hK d hd30 hd31, hK e he30 he31]; rfl)
            refine t_X4_readSigns 29 30 31 hs_29 rf_29_0 hs_30 rf_29_1 hs_31 (by decide) (fun K9 k1 _ => ?_)
            refine ev_memI (fun J9 h9 => ?_)
            have g1 : J9 29 2 = ab := by rw [h9]; unfold cSg; rw [ma_up_s, ma_up_n _ _ (show 2 ≠ 3 by decide), ma_up_s]; exact hav
            have g3 : J9 26 3 = s1 := by rw [h9]; unfold cSg; rw [ma_up_n _ _ (show 26 ≠ 29 by decide), ma_up_s, ma_up_n _ _ (show 3 ≠ 4 by decide)]; exact h3
            have g5 : J9 26 4 = s5 + 1 := by rw [h9]; unfold cSg; rw [ma_up_n _ _ (show 26 ≠ 29 by decide), ma_up_s, ma_up_s]
            have g4 : ∀ x, x ≠ 26 → x ≠ 29 → J9 x = I x := fun x q1 q2 => by rw [h9]; unfold cSg; rw [ma_up_n _ _ q2, ma_up_n _ _ q1]; exact hJ x q1 q2
            have gK : ∀ x, x ≠ 30 → x ≠ 31 → K9 x = L x := fun x q1 q2 => by rw [k1 x q2]; unfold cSu; rw [mfill_n _ _ _ _ q1]; exact hK x q1 q2
            refine ev_aload_n (pc' := 168) (i := 0) dX5_walk_167 rfl rfl rfl ?_
            refine ev_getR (pc' := 171) fo_X5_21 dX5_walk_168 rfl hs_26 rfl rf_26_2 ?_
            refine ev_getI (pc' := 174) (v := ab) fo_X5_59 dX5_walk_171 rfl hs_29 rfl g1 ?_
            refine ev_iload (pc' := 176) dX5_walk_174 rfl rfl ?_
            refine ev_icmp_eq (tgt := 208) (pc' := 179) dX5_walk_176 rfl rfl (fun c8 => ?_) (fun c8 => ?_)
            · refine ev_aload_n (pc' := 209) (i := 0) dX5_walk_208 rfl rfl rfl ?_
              refine ev_getR (pc' := 212) fo_X5_21 dX5_walk_209 rfl hs_26 rfl rf_26_2 ?_
              refine ev_getI (pc' := 215) (v := ab) fo_X5_59 dX5_walk_212 rfl hs_29 rfl g1 ?_
              refine ev_istore (pc' := 217) (lv' := [some (.ref 26), some (.ref 12), some (.ref a), some (.ref b), some (.int (nI n)), some (.int s2), some (.int ab), some (.int sd), some (.int (nI c)), some (.int (nI s)), some (.int (nI i - nI c)), some (.int (nI p)), some (.long (mTm n c i)), none, some (.long (mTq n c i)), none, some (.int sd)]) dX5_walk_215 rfl (Nat.le_of_ble_eq_true rfl) rfl rfl ?_
              refine ev_iinc (pc' := 220) (v := (nI i - nI c) + 1) (lv' := [some (.ref 26), some (.ref 12), some (.ref a), some (.ref b), some (.int (nI n)), some (.int s2), some (.int ab), some (.int sd), some (.int (nI c)), some (.int (nI s)), some (.int ((nI i - nI c) + 1)), some (.int (nI p)), some (.long (mTm n c i)), none, some (.long (mTq n c i)), none, some (.int sd)]) dX5_walk_217 rfl rfl rfl (Nat.le_of_ble_eq_true rfl) rfl rfl ?_
              refine ev_goto (tgt := 40) dX5_walk_220 rfl ?_
              refine ev_lvw (lv' := [some (.ref 26), some (.ref 12), some (.ref a), some (.ref b), some (.int (nI n)), some (.int s2), some (.int ab), some (.int sd), some (.int (nI c)), some (.int (nI s)), some (.int ((nI i - nI c) + 1)), none, none, none, none, none, none]) ⟨rfl, ⟨rfl, ⟨rfl, ⟨rfl, ⟨rfl, ⟨rfl, ⟨rfl, ⟨rfl, ⟨rfl, ⟨rfl, ⟨rfl, trivial⟩⟩⟩⟩⟩⟩⟩⟩⟩⟩⟩ ?_
              rw [mvc_s]
              exact ih (i + 1) s1 s2 ab sd (s5 + 1) _ _ (by omega) (by show _ = cBs _ _ (cBt _ _ _ _ _ _); rw [← hs, ← hsd, ← hab]; unfold cBs; rw [if_neg c1]; dsimp only; rw [if_pos c8, if_pos c8, if_neg c2, if_neg c5]) g3 g5 g4 gK
            · refine ev_iload (pc' := 181) dX5_walk_179 rfl rfl ?_
              refine ev_bipush (pc' := 183) (v := 9) dX5_walk_181 rfl kb_9 ?_
              refine ev_icmp_ge (tgt := 208) (pc' := 186) dX5_walk_183 rfl rfl (fun c9 => ?_) (fun c9 => ?_)
              · refine ev_aload_n (pc' := 209) (i := 0) dX5_walk_208 rfl rfl rfl ?_
                refine ev_getR (pc' := 212) fo_X5_21 dX5_walk_209 rfl hs_26 rfl rf_26_2 ?_
                refine ev_getI (pc' := 215) (v := ab) fo_X5_59 dX5_walk_212 rfl hs_29 rfl g1 ?_
                refine ev_istore (pc' := 217) (lv' := [some (.ref 26), some (.ref 12), some (.ref a), some (.ref b), some (.int (nI n)), some (.int s2), some (.int ab), some (.int sd), some (.int (nI c)), some (.int (nI s)), some (.int (nI i - nI c)), some (.int (nI p)), some (.long (mTm n c i)), none, some (.long (mTq n c i)), none, some (.int sd)]) dX5_walk_215 rfl (Nat.le_of_ble_eq_true rfl) rfl rfl ?_
                refine ev_iinc (pc' := 220) (v := (nI i - nI c) + 1) (lv' := [some (.ref 26), some (.ref 12), some (.ref a), some (.ref b), some (.int (nI n)), some (.int s2), some (.int ab), some (.int sd), some (.int (nI c)), some (.int (nI s)), some (.int ((nI i - nI c) + 1)), some (.int (nI p)), some (.long (mTm n c i)), none, some (.long (mTq n c i)), none, some (.int sd)]) dX5_walk_217 rfl rfl rfl (Nat.le_of_ble_eq_true rfl) rfl rfl ?_
                refine ev_goto (tgt := 40) dX5_walk_220 rfl ?_
                refine ev_lvw (lv' := [some (.ref 26), some (.ref 12), some (.ref a), some (.ref b), some (.int (nI n)), some (.int s2), some (.int ab), some (.int sd), some (.int (nI c)), some (.int (nI s)), some (.int ((nI i - nI c) + 1)), none, none, none, none, none, none]) ⟨rfl, ⟨rfl, ⟨rfl, ⟨rfl, ⟨rfl, ⟨rfl, ⟨rfl, ⟨rfl, ⟨rfl, ⟨rfl, ⟨rfl, trivial⟩⟩⟩⟩⟩⟩⟩⟩⟩⟩⟩ ?_
                rw [mvc_s]
                exact ih (i + 1) s1 s2 ab sd (s5 + 1) _ _ (by omega) (by show _ = cBs _ _ (cBt _ _ _ _ _ _); rw [← hs, ← hsd, ← hab]; unfold cBs; rw [if_neg c1]; dsimp only; rw [if_neg c8, if_neg c8, if_pos c9, if_pos c9, if_neg c2, if_neg c5]) g3 g5 g4 gK
              · refine ev_aload_n (pc' := 187) (i := 0) dX5_walk_186 rfl rfl rfl ?_
                refine ev_bipush (pc' := 189) (v := 10) dX5_walk_187 rfl kb_10 ?_
                refine ev_aload_n (pc' := 190) (i := 0) dX5_walk_189 rfl rfl rfl ?_
                refine ev_getI (pc' := 193) (v := s1) fo_X5_25 dX5_walk_190 rfl hs_26 rfl g3 ?_
                refine ev_imul (pc' := 194) (v := 10 * s1) dX5_walk_193 rfl rfl ?_
                refine ev_aload_n (pc' := 195) (i := 0) dX5_walk_194 rfl rfl rfl ?_
                refine ev_getR (pc' := 198) fo_X5_21 dX5_walk_195 rfl hs_26 rfl rf_26_2 ?_
                refine ev_getI (pc' := 201) (v := ab) fo_X5_59 dX5_walk_198 rfl hs_29 rfl g1 ?_
                refine ev_iadd (pc' := 202) (v := (10 * s1) + ab) dX5_walk_201 rfl rfl ?_
                refine ev_putI (pc' := 205) (I' := (ma_up J9 26 (ma_up (J9 26) 3 ((10 * s1) + ab)))) fo_X5_25 dX5_walk_202 rfl hs_26 rfl (fun r hr => by cases hr; rfl) ⟨rfl, rfl⟩ rfl ?_
                refine ev_iinc (pc' := 208) (v := s2 + 1) (lv' := [some (.ref 26), some (.ref 12), some (.ref a), some (.ref b), some (.int (nI n)), some (.int (s2 + 1)), some (.int s3), some (.int sd), some (.int (nI c)), some (.int (nI s)), some (.int (nI i - nI c)), some (.int (nI p)), some (.long (mTm n c i)), none, some (.long (mTq n c i)), none, some (.int sd)]) dX5_walk_205 rfl rfl rfl (Nat.le_of_ble_eq_true rfl) rfl rfl ?_
                refine ev_aload_n (pc' := 209) (i := 0) dX5_walk_208 rfl rfl rfl ?_
                refine ev_getR (pc' := 212) fo_X5_21 dX5_walk_209 rfl hs_26 rfl rf_26_2 ?_
                refine ev_getI (pc' := 215) (v := ab) fo_X5_59 dX5_walk_212 rfl hs_29 rfl g1 ?_
                refine ev_istore (pc' := 217) (lv' := [some (.ref 26), some (.ref 12), some (.ref a), some (.ref b), some (.int (nI n)), some (.int (s2 + 1)), some (.int ab), some (.int sd), some (.int (nI c)), some (.int (nI s)), some (.int (nI i - nI c)), some (.int (nI p)), some (.long (mTm n c i)), none, some (.long (mTq n c i)), none, some (.int sd)]) dX5_walk_215 rfl (Nat.le_of_ble_eq_true rfl) rfl rfl ?_
                refine ev_iinc (pc' := 220) (v := (nI i - nI c) + 1) (lv' := [some (.ref 26), some (.ref 12), some (.ref a), some (.ref b), some (.int (nI n)), some (.int (s2 + 1)), some (.int ab), some (.int sd), some (.int (nI c)), some (.int (nI s)), some (.int ((nI i - nI c) + 1)), some (.int (nI p)), some (.long (mTm n c i)), none, some (.long (mTq n c i)), none, some (.int sd)]) dX5_walk_217 rfl rfl rfl (Nat.le_of_ble_eq_true rfl) rfl rfl ?_
                refine ev_goto (tgt := 40) dX5_walk_220 rfl ?_
                refine ev_lvw (lv' := [some (.ref 26), some (.ref 12), some (.ref a), some (.ref b), some (.int (nI n)), some (.int (s2 + 1)), some (.int ab), some (.int sd), some (.int (nI c)), some (.int (nI s)), some (.int ((nI i - nI c) + 1)), none, none, none, none, none, none]) ⟨rfl, ⟨rfl, ⟨rfl, ⟨rfl, ⟨rfl, ⟨rfl, ⟨rfl, ⟨rfl, ⟨rfl, ⟨rfl, ⟨rfl, trivial⟩⟩⟩⟩⟩⟩⟩⟩⟩⟩⟩ ?_
                rw [mvc_s]
                exact ih (i + 1) (10 * s1 + ab) (s2 + 1) ab sd (s5 + 1) _ _ (by omega) (by show _ = cBs _ _ (cBt _ _ _ _ _ _); rw [← hs, ← hsd, ← hab]; unfold cBs; rw [if_neg c1]; dsimp only; rw [if_neg c8, if_neg c8, if_neg c9, if_neg c9, if_neg c2, if_neg c5]) (by rw [ma_up_s, ma_up_s]) (by rw [ma_up_s, ma_up_n _ _ (show 4 ≠ 3 by decide)]; exact g5) (fun x h1 h2 => (ma_up_n _ _ h1).trans (g4 x h1 h2)) gK
      · refine ev_goto (tgt := 217) dX5_walk_118 rfl ?_
        refine ev_iinc (pc' := 220) (v := (nI i - nI c) + 1) (lv' := [some (.ref 26), some (.ref 12), some (.ref a), some (.ref b), some (.int (nI n)), some (.int s2), some (.int s3), some (.int s4), some (.int (nI c)), some (.int (nI s)), some (.int ((nI i - nI c) + 1)), some (.int (nI p)), some (.long (mTm n c i)), none, some (.long (mTq n c i)), none, some (.int sd)]) dX5_walk_217 rfl rfl rfl (Nat.le_of_ble_eq_true rfl) rfl rfl ?_
        refine ev_goto (tgt := 40) dX5_walk_220 rfl ?_
        refine ev_lvw (lv' := [some (.ref 26), some (.ref 12), some (.ref a), some (.ref b), some (.int (nI n)), some (.int s2), some (.int s3), some (.int s4), some (.int (nI c)), some (.int (nI s)), some (.int ((nI i - nI c) + 1)), none, none, none, none, none, none]) ⟨rfl, ⟨rfl, ⟨rfl, ⟨rfl, ⟨rfl, ⟨rfl, ⟨rfl, ⟨rfl, ⟨rfl, ⟨rfl, ⟨rfl, trivial⟩⟩⟩⟩⟩⟩⟩⟩⟩⟩⟩ ?_
        rw [mvc_s]
        exact ih (i + 1) s1 s2 s3 s4 s5 JJ KK (by omega) (by show _ = cBs _ _ (cBt _ _ _ _ _ _); rw [← hs, ← hsd]; exact (if_pos c1).symm) h3 h5 hJ hK
    · have em : mTm n c i = Int32.toInt64 (mSb 0 1 n (i - c)) := if_neg hic
      have eq_ : mTq n c i = Int32.toInt64 (mSb 1 0 n (i - c)) := if_neg hic
      obtain ⟨p, hp⟩ : ∃ p, p = (i - c) * s := ⟨_, rfl⟩
      have hp2 : p ≤ 256 := by rw [hp]; exact wk_pl hc hs0 (by omega)
      have hx : JJ 27 p = mSb 0 1 n (i - c) := by rw [hX1 p hp2, hp]; exact hpw.2 _ _ _
      have hy : JJ 28 p = mSb 1 0 n (i - c) := by rw [hY1 p hp2, hp]; exact hpw.2 _ _ _
      refine ev_iload (pc' := 42) dX5_walk_40 rfl rfl ?_
      refine ev_iload (pc' := 44) dX5_walk_42 rfl rfl ?_
      refine ev_icmp_gt (tgt := 223) (pc' := 47) dX5_walk_44 rfl rfl (fun h => absurd h (mvc_le (by omega) (by omega))) (fun _ => ?_)
      refine ev_iload (pc' := 49) dX5_walk_47 rfl rfl ?_
      refine ev_mabs (pc' := 52) co_X5_32 cs_J9_abs_0f7a4 (tb_m (i := 759) rfl) dX5_walk_49 rfl (Nat.le_of_ble_eq_true rfl) (Nat.le_of_ble_eq_true rfl) ⟨(Nat.le_of_ble_eq_true rfl), (Nat.le_of_ble_eq_true rfl)⟩ ?_
      refine ev_eqi (w := nI (i - c)) (wk_abp hic (by omega) (by omega)) ?_
      refine ev_iload (pc' := 54) dX5_walk_52 rfl rfl ?_
      refine ev_imul (pc' := 55) (v := nI ((i - c) * s)) dX5_walk_54 rfl (pk_mul (i - c) s) ?_
      refine ev_sipush (pc' := 58) (v := 256) dX5_walk_55 rfl ks_256 ?_
      refine ev_mmin (pc' := 61) co_X5_38 cs_J9_min_7cf53 (tb_m (i := 762) rfl) dX5_walk_58 rfl (Nat.le_of_ble_eq_true rfl) (Nat.le_of_ble_eq_true rfl) ⟨(Nat.le_of_ble_eq_true rfl), (Nat.le_of_ble_eq_true rfl)⟩ ?_
      refine ev_eqi (w := nI p) (by rw [← hp]; exact wk_min hp2) ?_
      refine ev_istore (pc' := 63) (lv' := [some (.ref 26), some (.ref 12), some (.ref a), some (.ref b), some (.int (nI n)), some (.int s2), some (.int s3), some (.int s4), some (.int (nI c)), some (.int (nI s)), some (.int (nI i - nI c)), some (.int (nI p)), none, none, none, none, none]) dX5_walk_61 rfl (Nat.le_of_ble_eq_true rfl) rfl rfl ?_
      refine ev_iload (pc' := 65) dX5_walk_63 rfl rfl ?_
      refine ev_if_ge (tgt := 80) (pc' := 68) dX5_walk_65 rfl rfl (fun _ => ?_) (fun h => absurd (mvc_ge hic (by omega) (by omega)) h)
      refine ev_aload_n (pc' := 81) (i := 0) dX5_walk_80 rfl rfl rfl ?_
      refine ev_getR (pc' := 84) fo_X5_9 dX5_walk_81 rfl hs_26 rfl rf_26_0 ?_
      refine ev_iload (pc' := 86) dX5_walk_84 rfl rfl ?_
      refine ev_iald (pc' := 87) (j := p) (v := mSb 0 1 n (i - c)) dX5_walk_86 rfl hs_27 rfl (by omega) (Nat.le_of_ble_eq_true rfl) hx ?_
      refine ev_i2l (pc' := 88) (v := Int32.toInt64 (mSb 0 1 n (i - c))) dX5_walk_87 rfl rfl ?_
      rw [← em]
      refine ev_lstore (pc' := 90) (lv' := [some (.ref 26), some (.ref 12), some (.ref a), some (.ref b), some (.int (nI n)), some (.int s2), some (.int s3), some (.int s4), some (.int (nI c)), some (.int (nI s)), some (.int (nI i - nI c)), some (.int (nI p)), some (.long (mTm n c i)), none, none, none, none]) dX5_walk_88 rfl (Nat.le_of_ble_eq_true rfl) rfl rfl ?_
      refine ev_aload_n (pc' := 91) (i := 0) dX5_walk_90 rfl rfl rfl ?_
      refine ev_getR (pc' := 94) fo_X5_15 dX5_walk_91 rfl hs_26 rfl rf_26_1 ?_
      refine ev_iload (pc' := 96) dX5_walk_94 rfl rfl ?_
      refine ev_iald (pc' := 97) (j := p) (v := mSb 1 0 n (i - c)) dX5_walk_96 rfl hs_28 rfl (by omega) (Nat.le_of_ble_eq_true rfl) hy ?_
      refine ev_i2l (pc' := 98) (v := Int32.toInt64 (mSb 1 0 n (i - c))) dX5_walk_97 rfl rfl ?_
      rw [← eq_]
      refine ev_lstore (pc' := 100) (lv' := [some (.ref 26), some (.ref 12), some (.ref a), some (.ref b), some (.int (nI n)), some (.int s2), some (.int s3), some (.int s4), some (.int (nI c)), some (.int (nI s)), some (.int (nI i - nI c)), some (.int (nI p)), some (.long (mTm n c i)), none, some (.long (mTq n c i)), none, none]) dX5_walk_98 rfl (Nat.le_of_ble_eq_true rfl) rfl rfl ?_
      refine ev_aload_n (pc' := 101) (i := 1) dX5_walk_100 rfl rfl rfl ?_
      refine ev_lload (pc' := 103) dX5_walk_101 rfl rfl ?_
      refine ev_lload (pc' := 105) dX5_walk_103 rfl rfl ?_
      refine ev_callV (pc' := 108) (rm' := rX0_worthAt) (b := 12) (av := [.long (mTm n c i), .long (mTq n c i)]) (rest := []) co_X5_42 ci_X0_worthAt cv_X0_worthAt dX5_walk_105 rfl hs_12 hb_X0 rfl rfl (Nat.le_of_ble_eq_true rfl) ⟨(Nat.le_of_ble_eq_true rfl), (Nat.le_of_ble_eq_true rfl)⟩ ⟨(Nat.le_of_ble_eq_true rfl), (Nat.le_of_ble_eq_true rfl)⟩ ?_
      refine t_X0_worthAt (mTm n c i) (mTq n c i) ?_
      refine ev_callS (pc' := 111) (rm' := rX7_signOf) (av := [.long (mAt4 (KK 13) (mTm n c i) (mTq n c i))]) (rest := []) co_X5_48 cs_X7_signOf dX5_walk_108 rfl rfl rfl (Nat.le_of_ble_eq_true rfl) ⟨(Nat.le_of_ble_eq_true rfl), (Nat.le_of_ble_eq_true rfl)⟩ ⟨(Nat.le_of_ble_eq_true rfl), (Nat.le_of_ble_eq_true rfl)⟩ ?_
      refine t_X7_signOf (mAt4 (KK 13) (mTm n c i) (mTq n c i)) ?_
      refine ev_eqi (w := mSg (mAt4 (KK 13) (mTm n c i) (mTq n c i))) rfl ?_
      refine ev_topi (fun sd hz => ?_)
      have hsd : sd = mSg (mAt4 (L 13) (mTm n c i) (mTq n c i)) := by rw [← hK 13 (by decide) (by decide)]; exact hz
      refine ev_istore (pc' := 113) (lv' := [some (.ref 26), some (.ref 12), some (.ref a), some (.ref b), some (.int (nI n)), some (.int s2), some (.int s3), some (.int s4), some (.int (nI c)), some (.int (nI s)), some (.int (nI i - nI c)), some (.int (nI p)), some (.long (mTm n c i)), none, some (.long (mTq n c i)), none, some (.int sd)]) dX5_walk_111 rfl (Nat.le_of_ble_eq_true rfl) rfl rfl ?_
      refine ev_iload (pc' := 115) dX5_walk_113 rfl rfl ?_
      refine ev_if_ne (tgt := 121) (pc' := 118) dX5_walk_115 rfl rfl (fun c10 => ?_) (fun c10 => ?_)
      · refine ev_iload (pc' := 123) dX5_walk_121 rfl rfl ?_
        refine ev_if_eq (tgt := 143) (pc' := 126) dX5_walk_123 rfl rfl (fun c11 => ?_) (fun c11 => ?_)
        · refine ev_iload (pc' := 145) dX5_walk_143 rfl rfl ?_
          refine ev_istore (pc' := 147) (lv' := [some (.ref 26), some (.ref 12), some (.ref a), some (.ref b), some (.int (nI n)), some (.int s2), some (.int s3), some (.int sd), some (.int (nI c)), some (.int (nI s)), some (.int (nI i - nI c)), some (.int (nI p)), some (.long (mTm n c i)), none, some (.long (mTq n c i)), none, some (.int sd)]) dX5_walk_145 rfl (Nat.le_of_ble_eq_true rfl) rfl rfl ?_
          refine ev_aload_n (pc' := 148) (i := 0) dX5_walk_147 rfl rfl rfl ?_
          refine ev_getR (pc' := 151) fo_X5_21 dX5_walk_148 rfl hs_26 rfl rf_26_2 ?_
          refine ev_aload_n (pc' := 152) (i := 2) dX5_walk_151 rfl rfl rfl ?_
          refine ev_lload (pc' := 154) dX5_walk_152 rfl rfl ?_
          refine ev_aload_n (pc' := 155) (i := 3) dX5_walk_154 rfl rfl rfl ?_
          refine ev_lload (pc' := 157) dX5_walk_155 rfl rfl ?_
          refine ev_callV (pc' := 160) (rm' := rX4_sumOf) (b := 29) (av := [.ref a, .long (mTm n c i), .ref b, .long (mTq n c i)]) (rest := []) co_X5_52 ci_X4_sumOf cv_X4_sumOf dX5_walk_157 rfl hs_29 hb_X4 rfl rfl (Nat.le_of_ble_eq_true rfl) ⟨(Nat.le_of_ble_eq_true rfl), (Nat.le_of_ble_eq_true rfl)⟩ ⟨(Nat.le_of_ble_eq_true rfl), (Nat.le_of_ble_eq_true rfl)⟩ ?_
          refine t_X4_sumOf 29 30 hs_29 rf_29_0 hs_30 a (mTm n c i) b (mTq n c i) d e ha hra hd hd30 hb hrb he he30 ?_
          refine ev_aload_n (pc' := 161) (i := 0) dX5_walk_160 rfl rfl rfl ?_
          refine ev_getR (pc' := 164) fo_X5_21 dX5_walk_161 rfl hs_26 rfl rf_26_2 ?_
          refine ev_callV (pc' := 167) (rm' := rX4_readSigns) (b := 29) (av := []) (rest := []) co_X5_56 ci_X4_readSigns cv_X4_readSigns dX5_walk_164 rfl hs_29 hb_X4 rfl rfl (Nat.le_of_ble_eq_true rfl) ⟨(Nat.le_of_ble_eq_true rfl), (Nat.le_of_ble_eq_true rfl)⟩ ⟨(Nat.le_of_ble_eq_true rfl), (Nat.le_of_ble_eq_true rfl)⟩ ?_
          obtain ⟨ab, hab⟩ : ∃ ab, ab = cAv (cSm (L d) (L e) (mTm n c i) (mTq n c i)) := ⟨_, rfl⟩
          have hav : cAv ((cSu KK 30 d e (mTm n c i) (mTq n c i)) 30) = ab := by rw [hab]; exact cAv_c (fun j hj => by unfold cSu; rw [mfill_at, if_pos (by omega)]; unfold cSm; rw [hK d hd30 hd31, hK e he30 he31]; rfl)
          refine t_X4_readSigns 29 30 31 hs_29 rf_29_0 hs_30 rf_29_1 hs_31 (by decide) (fun K9 k1 _ => ?_)
          refine ev_memI (fun J9 h9 => ?_)
          have g1 : J9 29 2 = ab := by rw [h9]; unfold cSg; rw [ma_up_s, ma_up_n _ _ (show 2 ≠ 3 by decide), ma_up_s]; exact hav
          have g3 : J9 26 3 = s1 := by rw [h9]; unfold cSg; rw [ma_up_n _ _ (show 26 ≠ 29 by decide)]; exact h3
          have g5 : J9 26 4 = s5 := by rw [h9]; unfold cSg; rw [ma_up_n _ _ (show 26 ≠ 29 by decide)]; exact h5
          have g4 : ∀ x, x ≠ 26 → x ≠ 29 → J9 x = I x := fun x q1 q2 => by rw [h9]; unfold cSg; rw [ma_up_n _ _ q2]; exact hJ x q1 q2
          have gK : ∀ x, x ≠ 30 → x ≠ 31 → K9 x = L x := fun x q1 q2 => by rw [k1 x q2]; unfold cSu; rw [mfill_n _ _ _ _ q1]; exact hK x q1 q2
          refine ev_aload_n (pc' := 168) (i := 0) dX5_walk_167 rfl rfl rfl ?_
          refine ev_getR (pc' := 171) fo_X5_21 dX5_walk_168 rfl hs_26 rfl rf_26_2 ?_
          refine ev_getI (pc' := 174) (v := ab) fo_X5_59 dX5_walk_171 rfl hs_29 rfl g1 ?_
          refine ev_iload (pc' := 176) dX5_walk_174 rfl rfl ?_
          refine ev_icmp_eq (tgt := 208) (pc' := 179) dX5_walk_176 rfl rfl (fun c12 => ?_) (fun c12 => ?_)
          · refine ev_aload_n (pc' := 209) (i := 0) dX5_walk_208 rfl rfl rfl ?_
            refine ev_getR (pc' := 212) fo_X5_21 dX5_walk_209 rfl hs_26 rfl rf_26_2 ?_
            refine ev_getI (pc' := 215) (v := ab) fo_X5_59 dX5_walk_212 rfl hs_29 rfl g1 ?_
            refine ev_istore (pc' := 217) (lv' := [some (.ref 26), some (.ref 12), some (.ref a), some (.ref b), some (.int (nI n)), some (.int s2), some (.int ab), some (.int sd), some (.int (nI c)), some (.int (nI s)), some (.int (nI i - nI c)), some (.int (nI p)), some (.long (mTm n c i)), none, some (.long (mTq n c i)), none, some (.int sd)]) dX5_walk_215 rfl (Nat.le_of_ble_eq_true rfl) rfl rfl ?_
            refine ev_iinc (pc' := 220) (v := (nI i - nI c) + 1) (lv' := [some (.ref 26), some (.ref 12), some (.ref a), some (.ref b), some (.int (nI n)), some (.int s2), some (.int ab), some (.int sd), some (.int (nI c)), some (.int (nI s)), some (.int ((nI i - nI c) + 1)), some (.int (nI p)), some (.long (mTm n c i)), none, some (.long (mTq n c i)), none, some (.int sd)]) dX5_walk_217 rfl rfl rfl (Nat.le_of_ble_eq_true rfl) rfl rfl ?_
            refine ev_goto (tgt := 40) dX5_walk_220 rfl ?_
            refine ev_lvw (lv' := [some (.ref 26), some (.ref 12), some (.ref a), some (.ref b), some (.int (nI n)), some (.int s2), some (.int ab), some (.int sd), some (.int (nI c)), some (.int (nI s)), some (.int ((nI i - nI c) + 1)), none, none, none, none, none, none]) ⟨rfl, ⟨rfl, ⟨rfl, ⟨rfl, ⟨rfl, ⟨rfl, ⟨rfl, ⟨rfl, ⟨rfl, ⟨rfl, ⟨rfl, trivial⟩⟩⟩⟩⟩⟩⟩⟩⟩⟩⟩ ?_
            rw [mvc_s]
            exact ih (i + 1) s1 s2 ab sd s5 _ _ (by omega) (by show _ = cBs _ _ (cBt _ _ _ _ _ _); rw [← hs, ← hsd, ← hab]; unfold cBs; rw [if_neg c10]; dsimp only; rw [if_pos c12, if_pos c12, if_pos c11]) g3 g5 g4 gK
          · refine ev_iload (pc' := 181) dX5_walk_179 rfl rfl ?_
            refine ev_bipush (pc' := 183) (v := 9) dX5_walk_181 rfl kb_9 ?_
            refine ev_icmp_ge (tgt := 208) (pc' := 186) dX5_walk_183 rfl rfl (fun c13 => ?_) (fun c13 => ?_)
            · refine ev_aload_n (pc' := 209) (i := 0) dX5_walk_208 rfl rfl rfl ?_
              refine ev_getR (pc' := 212) fo_X5_21 dX5_walk_209 rfl hs_26 rfl rf_26_2 ?_
              refine ev_getI (pc' := 215) (v := ab) fo_X5_59 dX5_walk_212 rfl hs_29 rfl g1 ?_
              refine ev_istore (pc' := 217) (lv' := [some (.ref 26), some (.ref 12), some (.ref a), some (.ref b), some (.int (nI n)), some (.int s2), some (.int ab), some (.int sd), some (.int (nI c)), some (.int (nI s)), some (.int (nI i - nI c)), some (.int (nI p)), some (.long (mTm n c i)), none, some (.long (mTq n c i)), none, some (.int sd)]) dX5_walk_215 rfl (Nat.le_of_ble_eq_true rfl) rfl rfl ?_
              refine ev_iinc (pc' := 220) (v := (nI i - nI c) + 1) (lv' := [some (.ref 26), some (.ref 12), some (.ref a), some (.ref b), some (.int (nI n)), some (.int s2), some (.int ab), some (.int sd), some (.int (nI c)), some (.int (nI s)), some (.int ((nI i - nI c) + 1)), some (.int (nI p)), some (.long (mTm n c i)), none, some (.long (mTq n c i)), none, some (.int sd)]) dX5_walk_217 rfl rfl rfl (Nat.le_of_ble_eq_true rfl) rfl rfl ?_
              refine ev_goto (tgt := 40) dX5_walk_220 rfl ?_
              refine ev_lvw (lv' := [some (.ref 26), some (.ref 12), some (.ref a), some (.ref b), some (.int (nI n)), some (.int s2), some (.int ab), some (.int sd), some (.int (nI c)), some (.int (nI s)), some (.int ((nI i - nI c) + 1)), none, none, none, none, none, none]) ⟨rfl, ⟨rfl, ⟨rfl, ⟨rfl, ⟨rfl, ⟨rfl, ⟨rfl, ⟨rfl, ⟨rfl, ⟨rfl, ⟨rfl, trivial⟩⟩⟩⟩⟩⟩⟩⟩⟩⟩⟩ ?_
              rw [mvc_s]
              exact ih (i + 1) s1 s2 ab sd s5 _ _ (by omega) (by show _ = cBs _ _ (cBt _ _ _ _ _ _); rw [← hs, ← hsd, ← hab]; unfold cBs; rw [if_neg c10]; dsimp only; rw [if_neg c12, if_neg c12, if_pos c13, if_pos c13, if_pos c11]) g3 g5 g4 gK
            · refine ev_aload_n (pc' := 187) (i := 0) dX5_walk_186 rfl rfl rfl ?_
              refine ev_bipush (pc' := 189) (v := 10) dX5_walk_187 rfl kb_10 ?_
              refine ev_aload_n (pc' := 190) (i := 0) dX5_walk_189 rfl rfl rfl ?_
              refine ev_getI (pc' := 193) (v := s1) fo_X5_25 dX5_walk_190 rfl hs_26 rfl g3 ?_
              refine ev_imul (pc' := 194) (v := 10 * s1) dX5_walk_193 rfl rfl ?_
              refine ev_aload_n (pc' := 195) (i := 0) dX5_walk_194 rfl rfl rfl ?_
              refine ev_getR (pc' := 198) fo_X5_21 dX5_walk_195 rfl hs_26 rfl rf_26_2 ?_
              refine ev_getI (pc' := 201) (v := ab) fo_X5_59 dX5_walk_198 rfl hs_29 rfl g1 ?_
              refine ev_iadd (pc' := 202) (v := (10 * s1) + ab) dX5_walk_201 rfl rfl ?_
              refine ev_putI (pc' := 205) (I' := (ma_up J9 26 (ma_up (J9 26) 3 ((10 * s1) + ab)))) fo_X5_25 dX5_walk_202 rfl hs_26 rfl (fun r hr => by cases hr; rfl) ⟨rfl, rfl⟩ rfl ?_
              refine ev_iinc (pc' := 208) (v := s2 + 1) (lv' := [some (.ref 26), some (.ref 12), some (.ref a), some (.ref b), some (.int (nI n)), some (.int (s2 + 1)), some (.int s3), some (.int sd), some (.int (nI c)), some (.int (nI s)), some (.int (nI i - nI c)), some (.int (nI p)), some (.long (mTm n c i)), none, some (.long (mTq n c i)), none, some (.int sd)]) dX5_walk_205 rfl rfl rfl (Nat.le_of_ble_eq_true rfl) rfl rfl ?_
              refine ev_aload_n (pc' := 209) (i := 0) dX5_walk_208 rfl rfl rfl ?_
              refine ev_getR (pc' := 212) fo_X5_21 dX5_walk_209 rfl hs_26 rfl rf_26_2 ?_
              refine ev_getI (pc' := 215) (v := ab) fo_X5_59 dX5_walk_212 rfl hs_29 rfl g1 ?_
              refine ev_istore (pc' := 217) (lv' := [some (.ref 26), some (.ref 12), some (.ref a), some (.ref b), some (.int (nI n)), some (.int (s2 + 1)), some (.int ab), some (.int sd), some (.int (nI c)), some (.int (nI s)), some (.int (nI i - nI c)), some (.int (nI p)), some (.long (mTm n c i)), none, some (.long (mTq n c i)), none, some (.int sd)]) dX5_walk_215 rfl (Nat.le_of_ble_eq_true rfl) rfl rfl ?_
              refine ev_iinc (pc' := 220) (v := (nI i - nI c) + 1) (lv' := [some (.ref 26), some (.ref 12), some (.ref a), some (.ref b), some (.int (nI n)), some (.int (s2 + 1)), some (.int ab), some (.int sd), some (.int (nI c)), some (.int (nI s)), some (.int ((nI i - nI c) + 1)), some (.int (nI p)), some (.long (mTm n c i)), none, some (.long (mTq n c i)), none, some (.int sd)]) dX5_walk_217 rfl rfl rfl (Nat.le_of_ble_eq_true rfl) rfl rfl ?_
              refine ev_goto (tgt := 40) dX5_walk_220 rfl ?_
              refine ev_lvw (lv' := [some (.ref 26), some (.ref 12), some (.ref a), some (.ref b), some (.int (nI n)), some (.int (s2 + 1)), some (.int ab), some (.int sd), some (.int (nI c)), some (.int (nI s)), some (.int ((nI i - nI c) + 1)), none, none, none, none, none, none]) ⟨rfl, ⟨rfl, ⟨rfl, ⟨rfl, ⟨rfl, ⟨rfl, ⟨rfl, ⟨rfl, ⟨rfl, ⟨rfl, ⟨rfl, trivial⟩⟩⟩⟩⟩⟩⟩⟩⟩⟩⟩ ?_
              rw [mvc_s]
              exact ih (i + 1) (10 * s1 + ab) (s2 + 1) ab sd s5 _ _ (by omega) (by show _ = cBs _ _ (cBt _ _ _ _ _ _); rw [← hs, ← hsd, ← hab]; unfold cBs; rw [if_neg c10]; dsimp only; rw [if_neg c12, if_neg c12, if_neg c13, if_neg c13, if_pos c11]) (by rw [ma_up_s, ma_up_s]) (by rw [ma_up_s, ma_up_n _ _ (show 4 ≠ 3 by decide)]; exact g5) (fun x h1 h2 => (ma_up_n _ _ h1).trans (g4 x h1 h2)) gK
        · refine ev_iload (pc' := 128) dX5_walk_126 rfl rfl ?_
          refine ev_iload (pc' := 130) dX5_walk_128 rfl rfl ?_
          refine ev_icmp_eq (tgt := 143) (pc' := 133) dX5_walk_130 rfl rfl (fun c14 => ?_) (fun c14 => ?_)
          · refine ev_iload (pc' := 145) dX5_walk_143 rfl rfl ?_
            refine ev_istore (pc' := 147) (lv' := [some (.ref 26), some (.ref 12), some (.ref a), some (.ref b), some (.int (nI n)), some (.int s2), some (.int s3), some (.int sd), some (.int (nI c)), some (.int (nI s)), some (.int (nI i - nI c)), some (.int (nI p)), some (.long (mTm n c i)), none, some (.long (mTq n c i)), none, some (.int sd)]) dX5_walk_145 rfl (Nat.le_of_ble_eq_true rfl) rfl rfl ?_
            refine ev_aload_n (pc' := 148) (i := 0) dX5_walk_147 rfl rfl rfl ?_
            refine ev_getR (pc' := 151) fo_X5_21 dX5_walk_148 rfl hs_26 rfl rf_26_2 ?_
            refine ev_aload_n (pc' := 152) (i := 2) dX5_walk_151 rfl rfl rfl ?_
            refine ev_lload (pc' := 154) dX5_walk_152 rfl rfl ?_
            refine ev_aload_n (pc' := 155) (i := 3) dX5_walk_154 rfl rfl rfl ?_
            refine ev_lload (pc' := 157) dX5_walk_155 rfl rfl ?_
            refine ev_callV (pc' := 160) (rm' := rX4_sumOf) (b := 29) (av := [.ref a, .long (mTm n c i), .ref b, .long (mTq n c i)]) (rest := []) co_X5_52 ci_X4_sumOf cv_X4_sumOf dX5_walk_157 rfl hs_29 hb_X4 rfl rfl (Nat.le_of_ble_eq_true rfl) ⟨(Nat.le_of_ble_eq_true rfl), (Nat.le_of_ble_eq_true rfl)⟩ ⟨(Nat.le_of_ble_eq_true rfl), (Nat.le_of_ble_eq_true rfl)⟩ ?_
            refine t_X4_sumOf 29 30 hs_29 rf_29_0 hs_30 a (mTm n c i) b (mTq n c i) d e ha hra hd hd30 hb hrb he he30 ?_
            refine ev_aload_n (pc' := 161) (i := 0) dX5_walk_160 rfl rfl rfl ?_
            refine ev_getR (pc' := 164) fo_X5_21 dX5_walk_161 rfl hs_26 rfl rf_26_2 ?_
            refine ev_callV (pc' := 167) (rm' := rX4_readSigns) (b := 29) (av := []) (rest := []) co_X5_56 ci_X4_readSigns cv_X4_readSigns dX5_walk_164 rfl hs_29 hb_X4 rfl rfl (Nat.le_of_ble_eq_true rfl) ⟨(Nat.le_of_ble_eq_true rfl), (Nat.le_of_ble_eq_true rfl)⟩ ⟨(Nat.le_of_ble_eq_true rfl), (Nat.le_of_ble_eq_true rfl)⟩ ?_
            obtain ⟨ab, hab⟩ : ∃ ab, ab = cAv (cSm (L d) (L e) (mTm n c i) (mTq n c i)) := ⟨_, rfl⟩
            have hav : cAv ((cSu KK 30 d e (mTm n c i) (mTq n c i)) 30) = ab := by rw [hab]; exact cAv_c (fun j hj => by unfold cSu; rw [mfill_at, if_pos (by omega)]; unfold cSm; rw [hK d hd30 hd31, hK e he30 he31]; rfl)
            refine t_X4_readSigns 29 30 31 hs_29 rf_29_0 hs_30 rf_29_1 hs_31 (by decide) (fun K9 k1 _ => ?_)
            refine ev_memI (fun J9 h9 => ?_)
            have g1 : J9 29 2 = ab := by rw [h9]; unfold cSg; rw [ma_up_s, ma_up_n _ _ (show 2 ≠ 3 by decide), ma_up_s]; exact hav
            have g3 : J9 26 3 = s1 := by rw [h9]; unfold cSg; rw [ma_up_n _ _ (show 26 ≠ 29 by decide)]; exact h3
            have g5 : J9 26 4 = s5 := by rw [h9]; unfold cSg; rw [ma_up_n _ _ (show 26 ≠ 29 by decide)]; exact h5
            have g4 : ∀ x, x ≠ 26 → x ≠ 29 → J9 x = I x := fun x q1 q2 => by rw [h9]; unfold cSg; rw [ma_up_n _ _ q2]; exact hJ x q1 q2
            have gK : ∀ x, x ≠ 30 → x ≠ 31 → K9 x = L x := fun x q1 q2 => by rw [k1 x q2]; unfold cSu; rw [mfill_n _ _ _ _ q1]; exact hK x q1 q2
            refine ev_aload_n (pc' := 168) (i := 0) dX5_walk_167 rfl rfl rfl ?_
            refine ev_getR (pc' := 171) fo_X5_21 dX5_walk_168 rfl hs_26 rfl rf_26_2 ?_
            refine ev_getI (pc' := 174) (v := ab) fo_X5_59 dX5_walk_171 rfl hs_29 rfl g1 ?_
            refine ev_iload (pc' := 176) dX5_walk_174 rfl rfl ?_
            refine ev_icmp_eq (tgt := 208) (pc' := 179) dX5_walk_176 rfl rfl (fun c15 => ?_) (fun c15 => ?_)
            · refine ev_aload_n (pc' := 209) (i := 0) dX5_walk_208 rfl rfl rfl ?_
              refine ev_getR (pc' := 212) fo_X5_21 dX5_walk_209 rfl hs_26 rfl rf_26_2 ?_
              refine ev_getI (pc' := 215) (v := ab) fo_X5_59 dX5_walk_212 rfl hs_29 rfl g1 ?_
              refine ev_istore (pc' := 217) (lv' := [some (.ref 26), some (.ref 12), some (.ref a), some (.ref b), some (.int (nI n)), some (.int s2), some (.int ab), some (.int sd), some (.int (nI c)), some (.int (nI s)), some (.int (nI i - nI c)), some (.int (nI p)), some (.long (mTm n c i)), none, some (.long (mTq n c i)), none, some (.int sd)]) dX5_walk_215 rfl (Nat.le_of_ble_eq_true rfl) rfl rfl ?_
              refine ev_iinc (pc' := 220) (v := (nI i - nI c) + 1) (lv' := [some (.ref 26), some (.ref 12), some (.ref a), some (.ref b), some (.int (nI n)), some (.int s2), some (.int ab), some (.int sd), some (.int (nI c)), some (.int (nI s)), some (.int ((nI i - nI c) + 1)), some (.int (nI p)), some (.long (mTm n c i)), none, some (.long (mTq n c i)), none, some (.int sd)]) dX5_walk_217 rfl rfl rfl (Nat.le_of_ble_eq_true rfl) rfl rfl ?_
              refine ev_goto (tgt := 40) dX5_walk_220 rfl ?_
              refine ev_lvw (lv' := [some (.ref 26), some (.ref 12), some (.ref a), some (.ref b), some (.int (nI n)), some (.int s2), some (.int ab), some (.int sd), some (.int (nI c)), some (.int (nI s)), some (.int ((nI i - nI c) + 1)), none, none, none, none, none, none]) ⟨rfl, ⟨rfl, ⟨rfl, ⟨rfl, ⟨rfl, ⟨rfl, ⟨rfl, ⟨rfl, ⟨rfl, ⟨rfl, ⟨rfl, trivial⟩⟩⟩⟩⟩⟩⟩⟩⟩⟩⟩ ?_
              rw [mvc_s]
              exact ih (i + 1) s1 s2 ab sd s5 _ _ (by omega) (by show _ = cBs _ _ (cBt _ _ _ _ _ _); rw [← hs, ← hsd, ← hab]; unfold cBs; rw [if_neg c10]; dsimp only; rw [if_pos c15, if_pos c15, if_neg c11, if_pos c14]) g3 g5 g4 gK
            · refine ev_iload (pc' := 181) dX5_walk_179 rfl rfl ?_
              refine ev_bipush (pc' := 183) (v := 9) dX5_walk_181 rfl kb_9 ?_
              refine ev_icmp_ge (tgt := 208) (pc' := 186) dX5_walk_183 rfl rfl (fun c16 => ?_) (fun c16 => ?_)
              · refine ev_aload_n (pc' := 209) (i := 0) dX5_walk_208 rfl rfl rfl ?_
                refine ev_getR (pc' := 212) fo_X5_21 dX5_walk_209 rfl hs_26 rfl rf_26_2 ?_
                refine ev_getI (pc' := 215) (v := ab) fo_X5_59 dX5_walk_212 rfl hs_29 rfl g1 ?_
                refine ev_istore (pc' := 217) (lv' := [some (.ref 26), some (.ref 12), some (.ref a), some (.ref b), some (.int (nI n)), some (.int s2), some (.int ab), some (.int sd), some (.int (nI c)), some (.int (nI s)), some (.int (nI i - nI c)), some (.int (nI p)), some (.long (mTm n c i)), none, some (.long (mTq n c i)), none, some (.int sd)]) dX5_walk_215 rfl (Nat.le_of_ble_eq_true rfl) rfl rfl ?_
                refine ev_iinc (pc' := 220) (v := (nI i - nI c) + 1) (lv' := [some (.ref 26), some (.ref 12), some (.ref a), some (.ref b), some (.int (nI n)), some (.int s2), some (.int ab), some (.int sd), some (.int (nI c)), some (.int (nI s)), some (.int ((nI i - nI c) + 1)), some (.int (nI p)), some (.long (mTm n c i)), none, some (.long (mTq n c i)), none, some (.int sd)]) dX5_walk_217 rfl rfl rfl (Nat.le_of_ble_eq_true rfl) rfl rfl ?_
                refine ev_goto (tgt := 40) dX5_walk_220 rfl ?_
                refine ev_lvw (lv' := [some (.ref 26), some (.ref 12), some (.ref a), some (.ref b), some (.int (nI n)), some (.int s2), some (.int ab), some (.int sd), some (.int (nI c)), some (.int (nI s)), some (.int ((nI i - nI c) + 1)), none, none, none, none, none, none]) ⟨rfl, ⟨rfl, ⟨rfl, ⟨rfl, ⟨rfl, ⟨rfl, ⟨rfl, ⟨rfl, ⟨rfl, ⟨rfl, ⟨rfl, trivial⟩⟩⟩⟩⟩⟩⟩⟩⟩⟩⟩ ?_
                rw [mvc_s]
                exact ih (i + 1) s1 s2 ab sd s5 _ _ (by omega) (by show _ = cBs _ _ (cBt _ _ _ _ _ _); rw [← hs, ← hsd, ← hab]; unfold cBs; rw [if_neg c10]; dsimp only; rw [if_neg c15, if_neg c15, if_pos c16, if_pos c16, if_neg c11, if_pos c14]) g3 g5 g4 gK
              · refine ev_aload_n (pc' := 187) (i := 0) dX5_walk_186 rfl rfl rfl ?_
                refine ev_bipush (pc' := 189) (v := 10) dX5_walk_187 rfl kb_10 ?_
                refine ev_aload_n (pc' := 190) (i := 0) dX5_walk_189 rfl rfl rfl ?_
                refine ev_getI (pc' := 193) (v := s1) fo_X5_25 dX5_walk_190 rfl hs_26 rfl g3 ?_
                refine ev_imul (pc' := 194) (v := 10 * s1) dX5_walk_193 rfl rfl ?_
                refine ev_aload_n (pc' := 195) (i := 0) dX5_walk_194 rfl rfl rfl ?_
                refine ev_getR (pc' := 198) fo_X5_21 dX5_walk_195 rfl hs_26 rfl rf_26_2 ?_
                refine ev_getI (pc' := 201) (v := ab) fo_X5_59 dX5_walk_198 rfl hs_29 rfl g1 ?_
                refine ev_iadd (pc' := 202) (v := (10 * s1) + ab) dX5_walk_201 rfl rfl ?_
                refine ev_putI (pc' := 205) (I' := (ma_up J9 26 (ma_up (J9 26) 3 ((10 * s1) + ab)))) fo_X5_25 dX5_walk_202 rfl hs_26 rfl (fun r hr => by cases hr; rfl) ⟨rfl, rfl⟩ rfl ?_
                refine ev_iinc (pc' := 208) (v := s2 + 1) (lv' := [some (.ref 26), some (.ref 12), some (.ref a), some (.ref b), some (.int (nI n)), some (.int (s2 + 1)), some (.int s3), some (.int sd), some (.int (nI c)), some (.int (nI s)), some (.int (nI i - nI c)), some (.int (nI p)), some (.long (mTm n c i)), none, some (.long (mTq n c i)), none, some (.int sd)]) dX5_walk_205 rfl rfl rfl (Nat.le_of_ble_eq_true rfl) rfl rfl ?_
                refine ev_aload_n (pc' := 209) (i := 0) dX5_walk_208 rfl rfl rfl ?_
                refine ev_getR (pc' := 212) fo_X5_21 dX5_walk_209 rfl hs_26 rfl rf_26_2 ?_
                refine ev_getI (pc' := 215) (v := ab) fo_X5_59 dX5_walk_212 rfl hs_29 rfl g1 ?_
                refine ev_istore (pc' := 217) (lv' := [some (.ref 26), some (.ref 12), some (.ref a), some (.ref b), some (.int (nI n)), some (.int (s2 + 1)), some (.int ab), some (.int sd), some (.int (nI c)), some (.int (nI s)), some (.int (nI i - nI c)), some (.int (nI p)), some (.long (mTm n c i)), none, some (.long (mTq n c i)), none, some (.int sd)]) dX5_walk_215 rfl (Nat.le_of_ble_eq_true rfl) rfl rfl ?_
                refine ev_iinc (pc' := 220) (v := (nI i - nI c) + 1) (lv' := [some (.ref 26), some (.ref 12), some (.ref a), some (.ref b), some (.int (nI n)), some (.int (s2 + 1)), some (.int ab), some (.int sd), some (.int (nI c)), some (.int (nI s)), some (.int ((nI i - nI c) + 1)), some (.int (nI p)), some (.long (mTm n c i)), none, some (.long (mTq n c i)), none, some (.int sd)]) dX5_walk_217 rfl rfl rfl (Nat.le_of_ble_eq_true rfl) rfl rfl ?_
                refine ev_goto (tgt := 40) dX5_walk_220 rfl ?_
                refine ev_lvw (lv' := [some (.ref 26), some (.ref 12), some (.ref a), some (.ref b), some (.int (nI n)), some (.int (s2 + 1)), some (.int ab), some (.int sd), some (.int (nI c)), some (.int (nI s)), some (.int ((nI i - nI c) + 1)), none, none, none, none, none, none]) ⟨rfl, ⟨rfl, ⟨rfl, ⟨rfl, ⟨rfl, ⟨rfl, ⟨rfl, ⟨rfl, ⟨rfl, ⟨rfl, ⟨rfl, trivial⟩⟩⟩⟩⟩⟩⟩⟩⟩⟩⟩ ?_
                rw [mvc_s]
                exact ih (i + 1) (10 * s1 + ab) (s2 + 1) ab sd s5 _ _ (by omega) (by show _ = cBs _ _ (cBt _ _ _ _ _ _); rw [← hs, ← hsd, ← hab]; unfold cBs; rw [if_neg c10]; dsimp only; rw [if_neg c15, if_neg c15, if_neg c16, if_neg c16, if_neg c11, if_pos c14]) (by rw [ma_up_s, ma_up_s]) (by rw [ma_up_s, ma_up_n _ _ (show 4 ≠ 3 by decide)]; exact g5) (fun x h1 h2 => (ma_up_n _ _ h1).trans (g4 x h1 h2)) gK
          · refine ev_aload_n (pc' := 134) (i := 0) dX5_walk_133 rfl rfl rfl ?_
            refine ev_dup (pc' := 135) dX5_walk_134 rfl rfl ?_
            refine ev_getI (pc' := 138) (v := s5) fo_X5_29 dX5_walk_135 rfl hs_26 rfl h5 ?_
            refine ev_iconst (pc' := 139) (v := 1) dX5_walk_138 rfl ki_1 ?_
            refine ev_iadd (pc' := 140) (v := s5 + 1) dX5_walk_139 rfl rfl ?_
            refine ev_putI (pc' := 143) (I' := (ma_up JJ 26 (ma_up (JJ 26) 4 (s5 + 1)))) fo_X5_29 dX5_walk_140 rfl hs_26 rfl (fun r hr => by cases hr; rfl) ⟨rfl, rfl⟩ rfl ?_
            refine ev_iload (pc' := 145) dX5_walk_143 rfl rfl ?_
            refine ev_istore (pc' := 147) (lv' := [some (.ref 26), some (.ref 12), some (.ref a), some (.ref b), some (.int (nI n)), some (.int s2), some (.int s3), some (.int sd), some (.int (nI c)), some (.int (nI s)), some (.int (nI i - nI c)), some (.int (nI p)), some (.long (mTm n c i)), none, some (.long (mTq n c i)), none, some (.int sd)]) dX5_walk_145 rfl (Nat.le_of_ble_eq_true rfl) rfl rfl ?_
            refine ev_aload_n (pc' := 148) (i := 0) dX5_walk_147 rfl rfl rfl ?_
            refine ev_getR (pc' := 151) fo_X5_21 dX5_walk_148 rfl hs_26 rfl rf_26_2 ?_
            refine ev_aload_n (pc' := 152) (i := 2) dX5_walk_151 rfl rfl rfl ?_
            refine ev_lload (pc' := 154) dX5_walk_152 rfl rfl ?_
            refine ev_aload_n (pc' := 155) (i := 3) dX5_walk_154 rfl rfl rfl ?_
            refine ev_lload (pc' := 157) dX5_walk_155 rfl rfl ?_
            refine ev_callV (pc' := 160) (rm' := rX4_sumOf) (b := 29) (av := [.ref a, .long (mTm n c i), .ref b, .long (mTq n c i)]) (rest := []) co_X5_52 ci_X4_sumOf cv_X4_sumOf dX5_walk_157 rfl hs_29 hb_X4 rfl rfl (Nat.le_of_ble_eq_true rfl) ⟨(Nat.le_of_ble_eq_true rfl), (Nat.le_of_ble_eq_true rfl)⟩ ⟨(Nat.le_of_ble_eq_true rfl), (Nat.le_of_ble_eq_true rfl)⟩ ?_
            refine t_X4_sumOf 29 30 hs_29 rf_29_0 hs_30 a (mTm n c i) b (mTq n c i) d e ha hra hd hd30 hb hrb he he30 ?_
            refine ev_aload_n (pc' := 161) (i := 0) dX5_walk_160 rfl rfl rfl ?_
            refine ev_getR (pc' := 164) fo_X5_21 dX5_walk_161 rfl hs_26 rfl rf_26_2 ?_
            refine ev_callV (pc' := 167) (rm' := rX4_readSigns) (b := 29) (av := []) (rest := []) co_X5_56 ci_X4_readSigns cv_X4_readSigns dX5_walk_164 rfl hs_29 hb_X4 rfl rfl (Nat.le_of_ble_eq_true rfl) ⟨(Nat.le_of_ble_eq_true rfl), (Nat.le_of_ble_eq_true rfl)⟩ ⟨(Nat.le_of_ble_eq_true rfl), (Nat.le_of_ble_eq_true rfl)⟩ ?_
            obtain ⟨ab, hab⟩ : ∃ ab, ab = cAv (cSm (L d) (L e) (mTm n c i) (mTq n c i)) := ⟨_, rfl⟩
            have hav : cAv ((cSu KK 30 d e (mTm n c i) (mTq n c i)) 30) = ab := by rw [hab]; exact cAv_c (fun j hj => by unfold cSu; rw [mfill_at, if_pos (by omega)]; unfold cSm; rw [hK d hd30 hd31, hK e he30 he31]; rfl)
            refine t_X4_readSigns 29 30 31 hs_29 rf_29_0 hs_30 rf_29_1 hs_31 (by decide) (fun K9 k1 _ => ?_)
            refine ev_memI (fun J9 h9 => ?_)
            have g1 : J9 29 2 = ab := by rw [h9]; unfold cSg; rw [ma_up_s, ma_up_n _ _ (show 2 ≠ 3 by decide), ma_up_s]; exact hav
            have g3 : J9 26 3 = s1 := by rw [h9]; unfold cSg; rw [ma_up_n _ _ (show 26 ≠ 29 by decide), ma_up_s, ma_up_n _ _ (show 3 ≠ 4 by decide)]; exact h3
            have g5 : J9 26 4 = s5 + 1 := by rw [h9]; unfold cSg; rw [ma_up_n _ _ (show 26 ≠ 29 by decide), ma_up_s, ma_up_s]
            have g4 : ∀ x, x ≠ 26 → x ≠ 29 → J9 x = I x := fun x q1 q2 => by rw [h9]; unfold cSg; rw [ma_up_n _ _ q2, ma_up_n _ _ q1]; exact hJ x q1 q2
            have gK : ∀ x, x ≠ 30 → x ≠ 31 → K9 x = L x := fun x q1 q2 => by rw [k1 x q2]; unfold cSu; rw [mfill_n _ _ _ _ q1]; exact hK x q1 q2
            refine ev_aload_n (pc' := 168) (i := 0) dX5_walk_167 rfl rfl rfl ?_
            refine ev_getR (pc' := 171) fo_X5_21 dX5_walk_168 rfl hs_26 rfl rf_26_2 ?_
            refine ev_getI (pc' := 174) (v := ab) fo_X5_59 dX5_walk_171 rfl hs_29 rfl g1 ?_
            refine ev_iload (pc' := 176) dX5_walk_174 rfl rfl ?_
            refine ev_icmp_eq (tgt := 208) (pc' := 179) dX5_walk_176 rfl rfl (fun c17 => ?_) (fun c17 => ?_)
            · refine ev_aload_n (pc' := 209) (i := 0) dX5_walk_208 rfl rfl rfl ?_
              refine ev_getR (pc' := 212) fo_X5_21 dX5_walk_209 rfl hs_26 rfl rf_26_2 ?_
              refine ev_getI (pc' := 215) (v := ab) fo_X5_59 dX5_walk_212 rfl hs_29 rfl g1 ?_
              refine ev_istore (pc' := 217) (lv' := [some (.ref 26), some (.ref 12), some (.ref a), some (.ref b), some (.int (nI n)), some (.int s2), some (.int ab), some (.int sd), some (.int (nI c)), some (.int (nI s)), some (.int (nI i - nI c)), some (.int (nI p)), some (.long (mTm n c i)), none, some (.long (mTq n c i)), none, some (.int sd)]) dX5_walk_215 rfl (Nat.le_of_ble_eq_true rfl) rfl rfl ?_
              refine ev_iinc (pc' := 220) (v := (nI i - nI c) + 1) (lv' := [some (.ref 26), some (.ref 12), some (.ref a), some (.ref b), some (.int (nI n)), some (.int s2), some (.int ab), some (.int sd), some (.int (nI c)), some (.int (nI s)), some (.int ((nI i - nI c) + 1)), some (.int (nI p)), some (.long (mTm n c i)), none, some (.long (mTq n c i)), none, some (.int sd)]) dX5_walk_217 rfl rfl rfl (Nat.le_of_ble_eq_true rfl) rfl rfl ?_
              refine ev_goto (tgt := 40) dX5_walk_220 rfl ?_
              refine ev_lvw (lv' := [some (.ref 26), some (.ref 12), some (.ref a), some (.ref b), some (.int (nI n)), some (.int s2), some (.int ab), some (.int sd), some (.int (nI c)), some (.int (nI s)), some (.int ((nI i - nI c) + 1)), none, none, none, none, none, none]) ⟨rfl, ⟨rfl, ⟨rfl, ⟨rfl, ⟨rfl, ⟨rfl, ⟨rfl, ⟨rfl, ⟨rfl, ⟨rfl, ⟨rfl, trivial⟩⟩⟩⟩⟩⟩⟩⟩⟩⟩⟩ ?_
              rw [mvc_s]
              exact ih (i + 1) s1 s2 ab sd (s5 + 1) _ _ (by omega) (by show _ = cBs _ _ (cBt _ _ _ _ _ _); rw [← hs, ← hsd, ← hab]; unfold cBs; rw [if_neg c10]; dsimp only; rw [if_pos c17, if_pos c17, if_neg c11, if_neg c14]) g3 g5 g4 gK
            · refine ev_iload (pc' := 181) dX5_walk_179 rfl rfl ?_
              refine ev_bipush (pc' := 183) (v := 9) dX5_walk_181 rfl kb_9 ?_
              refine ev_icmp_ge (tgt := 208) (pc' := 186) dX5_walk_183 rfl rfl (fun c18 => ?_) (fun c18 => ?_)
              · refine ev_aload_n (pc' := 209) (i := 0) dX5_walk_208 rfl rfl rfl ?_
                refine ev_getR (pc' := 212) fo_X5_21 dX5_walk_209 rfl hs_26 rfl rf_26_2 ?_
                refine ev_getI (pc' := 215) (v := ab) fo_X5_59 dX5_walk_212 rfl hs_29 rfl g1 ?_
                refine ev_istore (pc' := 217) (lv' := [some (.ref 26), some (.ref 12), some (.ref a), some (.ref b), some (.int (nI n)), some (.int s2), some (.int ab), some (.int sd), some (.int (nI c)), some (.int (nI s)), some (.int (nI i - nI c)), some (.int (nI p)), some (.long (mTm n c i)), none, some (.long (mTq n c i)), none, some (.int sd)]) dX5_walk_215 rfl (Nat.le_of_ble_eq_true rfl) rfl rfl ?_
                refine ev_iinc (pc' := 220) (v := (nI i - nI c) + 1) (lv' := [some (.ref 26), some (.ref 12), some (.ref a), some (.ref b), some (.int (nI n)), some (.int s2), some (.int ab), some (.int sd), some (.int (nI c)), some (.int (nI s)), some (.int ((nI i - nI c) + 1)), some (.int (nI p)), some (.long (mTm n c i)), none, some (.long (mTq n c i)), none, some (.int sd)]) dX5_walk_217 rfl rfl rfl (Nat.le_of_ble_eq_true rfl) rfl rfl ?_
                refine ev_goto (tgt := 40) dX5_walk_220 rfl ?_
                refine ev_lvw (lv' := [some (.ref 26), some (.ref 12), some (.ref a), some (.ref b), some (.int (nI n)), some (.int s2), some (.int ab), some (.int sd), some (.int (nI c)), some (.int (nI s)), some (.int ((nI i - nI c) + 1)), none, none, none, none, none, none]) ⟨rfl, ⟨rfl, ⟨rfl, ⟨rfl, ⟨rfl, ⟨rfl, ⟨rfl, ⟨rfl, ⟨rfl, ⟨rfl, ⟨rfl, trivial⟩⟩⟩⟩⟩⟩⟩⟩⟩⟩⟩ ?_
                rw [mvc_s]
                exact ih (i + 1) s1 s2 ab sd (s5 + 1) _ _ (by omega) (by show _ = cBs _ _ (cBt _ _ _ _ _ _); rw [← hs, ← hsd, ← hab]; unfold cBs; rw [if_neg c10]; dsimp only; rw [if_neg c17, if_neg c17, if_pos c18, if_pos c18, if_neg c11, if_neg c14]) g3 g5 g4 gK
              · refine ev_aload_n (pc' := 187) (i := 0) dX5_walk_186 rfl rfl rfl ?_
                refine ev_bipush (pc' := 189) (v := 10) dX5_walk_187 rfl kb_10 ?_
                refine ev_aload_n (pc' := 190) (i := 0) dX5_walk_189 rfl rfl rfl ?_
                refine ev_getI (pc' := 193) (v := s1) fo_X5_25 dX5_walk_190 rfl hs_26 rfl g3 ?_
                refine ev_imul (pc' := 194) (v := 10 * s1) dX5_walk_193 rfl rfl ?_
                refine ev_aload_n (pc' := 195) (i := 0) dX5_walk_194 rfl rfl rfl ?_
                refine ev_getR (pc' := 198) fo_X5_21 dX5_walk_195 rfl hs_26 rfl rf_26_2 ?_
                refine ev_getI (pc' := 201) (v := ab) fo_X5_59 dX5_walk_198 rfl hs_29 rfl g1 ?_
                refine ev_iadd (pc' := 202) (v := (10 * s1) + ab) dX5_walk_201 rfl rfl ?_
                refine ev_putI (pc' := 205) (I' := (ma_up J9 26 (ma_up (J9 26) 3 ((10 * s1) + ab)))) fo_X5_25 dX5_walk_202 rfl hs_26 rfl (fun r hr => by cases hr; rfl) ⟨rfl, rfl⟩ rfl ?_
                refine ev_iinc (pc' := 208) (v := s2 + 1) (lv' := [some (.ref 26), some (.ref 12), some (.ref a), some (.ref b), some (.int (nI n)), some (.int (s2 + 1)), some (.int s3), some (.int sd), some (.int (nI c)), some (.int (nI s)), some (.int (nI i - nI c)), some (.int (nI p)), some (.long (mTm n c i)), none, some (.long (mTq n c i)), none, some (.int sd)]) dX5_walk_205 rfl rfl rfl (Nat.le_of_ble_eq_true rfl) rfl rfl ?_
                refine ev_aload_n (pc' := 209) (i := 0) dX5_walk_208 rfl rfl rfl ?_
                refine ev_getR (pc' := 212) fo_X5_21 dX5_walk_209 rfl hs_26 rfl rf_26_2 ?_
                refine ev_getI (pc' := 215) (v := ab) fo_X5_59 dX5_walk_212 rfl hs_29 rfl g1 ?_
                refine ev_istore (pc' := 217) (lv' := [some (.ref 26), some (.ref 12), some (.ref a), some (.ref b), some (.int (nI n)), some (.int (s2 + 1)), some (.int ab), some (.int sd), some (.int (nI c)), some (.int (nI s)), some (.int (nI i - nI c)), some (.int (nI p)), some (.long (mTm n c i)), none, some (.long (mTq n c i)), none, some (.int sd)]) dX5_walk_215 rfl (Nat.le_of_ble_eq_true rfl) rfl rfl ?_
                refine ev_iinc (pc' := 220) (v := (nI i - nI c) + 1) (lv' := [some (.ref 26), some (.ref 12), some (.ref a), some (.ref b), some (.int (nI n)), some (.int (s2 + 1)), some (.int ab), some (.int sd), some (.int (nI c)), some (.int (nI s)), some (.int ((nI i - nI c) + 1)), some (.int (nI p)), some (.long (mTm n c i)), none, some (.long (mTq n c i)), none, some (.int sd)]) dX5_walk_217 rfl rfl rfl (Nat.le_of_ble_eq_true rfl) rfl rfl ?_
                refine ev_goto (tgt := 40) dX5_walk_220 rfl ?_
                refine ev_lvw (lv' := [some (.ref 26), some (.ref 12), some (.ref a), some (.ref b), some (.int (nI n)), some (.int (s2 + 1)), some (.int ab), some (.int sd), some (.int (nI c)), some (.int (nI s)), some (.int ((nI i - nI c) + 1)), none, none, none, none, none, none]) ⟨rfl, ⟨rfl, ⟨rfl, ⟨rfl, ⟨rfl, ⟨rfl, ⟨rfl, ⟨rfl, ⟨rfl, ⟨rfl, ⟨rfl, trivial⟩⟩⟩⟩⟩⟩⟩⟩⟩⟩⟩ ?_
                rw [mvc_s]
                exact ih (i + 1) (10 * s1 + ab) (s2 + 1) ab sd (s5 + 1) _ _ (by omega) (by show _ = cBs _ _ (cBt _ _ _ _ _ _); rw [← hs, ← hsd, ← hab]; unfold cBs; rw [if_neg c10]; dsimp only; rw [if_neg c17, if_neg c17, if_neg c18, if_neg c18, if_neg c11, if_neg c14]) (by rw [ma_up_s, ma_up_s]) (by rw [ma_up_s, ma_up_n _ _ (show 4 ≠ 3 by decide)]; exact g5) (fun x h1 h2 => (ma_up_n _ _ h1).trans (g4 x h1 h2)) gK
      · refine ev_goto (tgt := 217) dX5_walk_118 rfl ?_
        refine ev_iinc (pc' := 220) (v := (nI i - nI c) + 1) (lv' := [some (.ref 26), some (.ref 12), some (.ref a), some (.ref b), some (.int (nI n)), some (.int s2), some (.int s3), some (.int s4), some (.int (nI c)), some (.int (nI s)), some (.int ((nI i - nI c) + 1)), some (.int (nI p)), some (.long (mTm n c i)), none, some (.long (mTq n c i)), none, some (.int sd)]) dX5_walk_217 rfl rfl rfl (Nat.le_of_ble_eq_true rfl) rfl rfl ?_
        refine ev_goto (tgt := 40) dX5_walk_220 rfl ?_
        refine ev_lvw (lv' := [some (.ref 26), some (.ref 12), some (.ref a), some (.ref b), some (.int (nI n)), some (.int s2), some (.int s3), some (.int s4), some (.int (nI c)), some (.int (nI s)), some (.int ((nI i - nI c) + 1)), none, none, none, none, none, none]) ⟨rfl, ⟨rfl, ⟨rfl, ⟨rfl, ⟨rfl, ⟨rfl, ⟨rfl, ⟨rfl, ⟨rfl, ⟨rfl, ⟨rfl, trivial⟩⟩⟩⟩⟩⟩⟩⟩⟩⟩⟩ ?_
        rw [mvc_s]
        exact ih (i + 1) s1 s2 s3 s4 s5 JJ KK (by omega) (by show _ = cBs _ _ (cBt _ _ _ _ _ _); rw [← hs, ← hsd]; exact (if_pos c10).symm) h3 h5 hJ hK
