theorem mvc_i {i c : Nat} (hi : i < 1000) (hc : c < 1000) : (nI i - nI c).toInt = (i : Int) - c := by
  have h1 : (nI i).toInt = i := nI_toInt (by omega)
  have h2 : (nI c).toInt = c := nI_toInt (by omega)
  rw [nb_subI (by omega) (by omega), h1, h2]
theorem mvc_s (i c : Nat) : nI i - nI c + 1 = nI (i + 1) - nI c := by
  rw [← nI_add i 1, Int32.sub_eq_add_neg, Int32.sub_eq_add_neg, Int32.add_assoc, Int32.add_assoc, Int32.add_comm (-nI c) 1]; rfl
theorem mvc_le {i c : Nat} (hi : i ≤ 2 * c) (hc : c < 400) : ¬ nI c < nI i - nI c := by
  rw [nb_lt, mvc_i (by omega) (by omega), nI_toInt (by omega)]; omega
theorem mvc_gt {i c : Nat} (hi : i = 2 * c + 1) (hc : c < 400) : nI c < nI i - nI c := by
  rw [nb_lt, mvc_i (by omega) (by omega), nI_toInt (by omega)]; omega
theorem mvc_lt {i c : Nat} (hi : i < c) (hc : c < 400) : ¬ (0 : Int32) ≤ nI i - nI c := by
  rw [nb_le, mvc_i (by omega) (by omega), nb_0]; omega
theorem mvc_ge {i c : Nat} (hi : ¬ i < c) (h2 : i ≤ 2 * c + 1) (hc : c < 400) : (0 : Int32) ≤ nI i - nI c := by
  rw [nb_le, mvc_i (by omega) (by omega), nb_0]; omega
theorem mvc_ps {i c : Nat} (hi : ¬ i < c) (h2 : i ≤ 2 * c + 1) (hc : c < 400) : nI i - nI c = nI (i - c) := by
  apply nb_eq.mpr; rw [mvc_i (by omega) (by omega), nI_toInt (by omega)]; omega
theorem mvc_ng {i c : Nat} (hi : i < c) (hc : c < 400) : -(nI i - nI c) = nI (c - i) := by
  rw [Int32.neg_sub]
  apply nb_eq.mpr; rw [mvc_i (by omega) (by omega), nI_toInt (by omega)]; omega
theorem mvc_0 (c : Nat) : -nI c = nI 0 - nI c := by
  rw [show nI 0 = 0 from rfl, Int32.zero_sub]
theorem nI_sub2 (c : Nat) : nI (c + 2) - 2 = nI c := by
  rw [← nI_add c 2, show nI 2 = 2 from rfl, Int32.add_sub_cancel]
def mTm (n c i : Nat) : Int64 := if i < c then Int32.toInt64 (-(mSb 0 1 n (c - i))) else Int32.toInt64 (mSb 0 1 n (i - c))
def mTq (n c i : Nat) : Int64 := if i < c then Int32.toInt64 (mSb 1 0 n (c - i)) else Int32.toInt64 (mSb 1 0 n (i - c))
/-- a times m and b times q -/
def mMx (a b : Nat → Int32) (m q : Int64) : Nat → Int64 := fun j => Int32.toInt64 (a j) * m + Int32.toInt64 (b j) * q
def mMf (a b : Nat → Int32) (m q : Int64) (l : Nat → Int64) (k : Nat) : Nat → Int64 := fun j => if j < k then mMx a b m q j else l j
theorem mMf_0 (a b : Nat → Int32) (m q : Int64) (l : Nat → Int64) : mMf a b m q l 0 = l := lf_0 _ _
theorem mMf_s (a b : Nat → Int32) (m q : Int64) (l : Nat → Int64) (k : Nat) : ma_up (mMf a b m q l k) k (Int32.toInt64 (a k) * m + Int32.toInt64 (b k) * q) = mMf a b m q l (k + 1) := lf_s (mMx a b m q) l k
theorem mMf_16 {a b a' b' : Nat → Int32} (m q : Int64) (l : Nat → Int64) (ha : ∀ j, j < 16 → a j = a' j) (hb : ∀ j, j < 16 → b j = b' j) : ∀ j, j < 16 → mMf a b m q l 16 j = mMx a' b' m q j := fun j hj => by
  unfold mMf; rw [if_pos hj]; unfold mMx; rw [ha j hj, hb j hj]
theorem mFA_16 (t : Nat → Int64) : mFA t = mFA (fun j => if j < 16 then t j else 0) := rfl
theorem mFA_congr {t t' : Nat → Int64} (h : ∀ j, j < 16 → t j = t' j) : mFA t = mFA t' := by
  rw [mFA_16 t, mFA_16 t']
  congr 1
  funext j
  by_cases q : j < 16
  · rw [if_pos q, if_pos q, h j q]
  · rw [if_neg q, if_neg q]
theorem mSl.up {A : List Nat} {L K : ma_L} {a : Nat} {r : Nat → Int64} (h : mSl A L K) (ha : a ∈ A) : mSl A L (ma_up K a r) := fun b hb => by
  have e : b ≠ a := fun e => hb (by rw [e]; exact ha)
  rw [ma_up_n _ _ e]; exact h b hb
abbrev mB5 : Type := Int32 × Int32 × Int32 × Int32 × Int32
def mBs (sd ab : Int32) (s : mB5) : mB5 := if sd = 0 then s else
  (if ab = s.2.2.1 then s.1 else (if 9 ≤ s.2.1 then s.1 else 10 * s.1 + ab), if ab = s.2.2.1 then s.2.1 else s.2.1 + 1, if ab = s.2.2.1 then s.2.2.1 else ab, sd, s.2.2.2.2 + (if (¬ s.2.2.2.1 = 0) ∧ (¬ sd = s.2.2.2.1) then (1 : Int32) else 0))
/-- row, figures, the last signs, the last side, the changes, over the first i fractions -/
def mBt (a b : Nat → Int32) (n c : Nat) : Nat → mB5
  | 0 => (0, 0, -1, 0, 0)
  | i + 1 => mBs (mSg (mW (mMx a b (mTm n c i) (mTq n c i)))) (mFA (mMx a b (mTm n c i) (mTq n c i))) (mBt a b n c i)
set_option maxRecDepth 4000 in
theorem t_X8_between {g : ma_G} {Post : ma_P} {I : ma_I} {L : ma_L}  (q : Int32) (r : Int32) (n : Int32) (hF : ∀ q r, q < 12 → r < 12 → ∀ j, j < 5 → ((mFm (fun k => I 123 (16 * q + k)) (fun k => I 123 (16 * r + k))) j).toInt.natAbs < 2147483648) (hQ : ∀ q r, q < 12 → r < 12 → mPq (mFm (fun k => I 123 (16 * q + k)) (fun k => I 123 (16 * r + k)))) (k1 : ∀ n2 : Nat, (1 ≤ n2) → (n2 < 9) → n = nI n2 → (¬ ((¬ q < 0) ∧ (¬ 11 < q))) → Post (some (.int (-1))) HS I L RF 146) (k2 : ∀ n2 : Nat, (1 ≤ n2) → (n2 < 9) → n = nI n2 → ∀ j4 : Nat, (j4 < 12) → q = nI j4 → ∀ j7 : Nat, (j7 < 12) → r = nI j7 → (((I 122) j4) = 0) → Post (some (.int (-3))) HS (mMt I 1) L RF 146) (k3 : ∀ n2 : Nat, (1 ≤ n2) → (n2 < 9) → n = nI n2 → ∀ j11 : Nat, (j11 < 12) → q = nI j11 → ∀ j14 : Nat, (j14 < 12) → r = nI j14 → (¬ ((I 122) j11) = 0) → (((I 122) j14) = 0) → Post (some (.int (-3))) HS (mMt I 1) L RF 146) (k4 : ∀ n2 : Nat, (1 ≤ n2) → (n2 < 9) → n = nI n2 → ∀ j19 : Nat, (j19 < 12) → q = nI j19 → ∀ j22 : Nat, (j22 < 12) → r = nI j22 → (¬ ((I 122) j19) = 0) → (¬ ((I 122) j22) = 0) → (∀ j, j < 5 → (mFm (fun k => I 123 (16 * j19 + k)) (fun k => I 123 (16 * j22 + k))) j = 0) → ∀ J : ma_I, ∀ K : ma_L, (J 115 31 = 0) → (J 115 35 = 5) → (∀ j, j < 16 → J 133 j = I 123 (16 * j19 + j)) → (∀ j, j < 16 → J 134 j = I 123 (16 * j22 + j)) → (mSx [133, 134, 141] [36, 31, 35, 38, 39] I J) → (mSl [132, 120, 142, 139, 140, 138, 136, 137] L K) → ∀ X : Nat → Int32, ∀ Y : Nat → Int32, ∀ c : Nat, (c + 1 = 2 ^ n2) → ∀ s1 : Int32, ∀ s2 : Int32, ∀ s3 : Int32, ∀ s4 : Int32, ∀ s5 : Int32, ∀ JJ : ma_I, ∀ KK : ma_L, ((s1, s2, s3, s4, s5) = mBt (fun k => I 123 (16 * j19 + k)) (fun k => I 123 (16 * j22 + k)) n2 c (2 * c + 1)) → (mSx [121] [9, 10] (ma_up (ma_up J 146 X) 147 Y) JJ) → (mSl [120] K KK) → Post (some (.int (-6))) HS (ma_up JJ 115 (ma_up (JJ 115) 2 s1)) KK RF 146) (k5 : ∀ n2 : Nat, (1 ≤ n2) → (n2 < 9) → n = nI n2 → ∀ j19 : Nat, (j19 < 12) → q = nI j19 → ∀ j22 : Nat, (j22 < 12) → r = nI j22 → (¬ ((I 122) j19) = 0) → (¬ ((I 122) j22) = 0) → ∀ bb : Nat, ∀ m0 : Nat, ∀ s : mP, ∀ rl : Int32, ∀ tw : Int32, ∀ J : ma_I, ∀ K : ma_L, (mPd (mFm (fun k => I 123 (16 * j19 + k)) (fun k => I 123 (16 * j22 + k))) bb m0 s) → ((rl, tw) = mLL s.m s.f) → (mPJ s bb J K) → (J 115 38 = rl) → (J 115 39 = tw) → (∀ j, j < 16 → J 133 j = I 123 (16 * j19 + j)) → (∀ j, j < 16 → J 134 j = I 123 (16 * j22 + j)) → (mSx [133, 134, 141] [36, 31, 35, 38, 39] I J) → (mSl [132, 120, 142, 139, 140, 138, 136, 137] L K) → ∀ X : Nat → Int32, ∀ Y : Nat → Int32, ∀ c : Nat, (c + 1 = 2 ^ n2) → ∀ s1 : Int32, ∀ s2 : Int32, ∀ s3 : Int32, ∀ s4 : Int32, ∀ s5 : Int32, ∀ JJ : ma_I, ∀ KK : ma_L, ((s1, s2, s3, s4, s5) = mBt (fun k => I 123 (16 * j19 + k)) (fun k => I 123 (16 * j22 + k)) n2 c (2 * c + 1)) → (mSx [121] [9, 10] (ma_up (ma_up J 146 X) 147 Y) JJ) → (mSl [120] K KK) → Post (some (.int (if ((((J 115) 39) = 0) ∧ (¬ ((J 115) 31) ≤ 0)) ∨ ((¬ ((J 115) 39) = 0) ∧ ((0 < ((J 115) 38)) ∨ (¬ ((J 115) 31) ≤ 0))) then (-6) else (if ¬ s5 = (if ¬ ((J 115) 39) = 0 then 0 else ((J 115) 38)) then (-6) else s1)))) HS (ma_up JJ 115 (ma_up (JJ 115) 2 s1)) KK RF 146) (k6 : ∀ n2 : Nat, (1 ≤ n2) → (n2 < 9) → n = nI n2 → ∀ j27 : Nat, (j27 < 12) → q = nI j27 → (¬ ((¬ r < 0) ∧ (¬ 11 < r))) → Post (some (.int (-1))) HS I L RF 146) (k7 : (¬ ((¬ n < 1) ∧ (¬ 8 < n))) → Post (some (.int (-1))) HS I L RF 146) : CT g yX8_between cX8_between 20 (some .int) rX8_between [.ref 115, .int q, .int r, .int n] Post HS I L RF 146 := by
  refine ct_of (lv := [some (.ref 115), some (.int q), some (.int r), some (.int n), none, none, none, none, none, none, none, none, none, none, none, none, none, none, none, none]) (by decide) (Nat.le_of_ble_eq_true rfl) rfl ?_
  refine ev_iload_n (pc' := 1) (i := 3) dX8_between_0 rfl rfl rfl ?_
  refine ev_iconst (pc' := 2) (v := 1) dX8_between_1 rfl ki_1 ?_
  refine ev_bipush (pc' := 4) (v := 8) dX8_between_2 rfl kb_8 ?_
  refine ev_callS (pc' := 7) (rm' := rX8_in) (av := [.int n, .int 1, .int 8]) (rest := []) co_X8_133 cs_X8_in dX8_between_4 rfl rfl rfl (Nat.le_of_ble_eq_true rfl) ⟨(Nat.le_of_ble_eq_true rfl), (Nat.le_of_ble_eq_true rfl)⟩ ⟨(Nat.le_of_ble_eq_true rfl), (Nat.le_of_ble_eq_true rfl)⟩ ?_
  refine t_X8_in n 1 8  ?_
  refine ev_if_ne_b (tgt := 12) (pc' := 10) dX8_between_7 rfl rfl (fun c1 => ?_) (fun c1 => ?_)
  · obtain ⟨n2, gn2, hn2, en2⟩ := in_of2 (n := 8) (l := 1) (by omega) rfl rfl c1
    subst en2
    refine ev_aload_n (pc' := 13) (i := 0) dX8_between_12 rfl rfl rfl ?_
    refine ev_iload_n (pc' := 14) (i := 1) dX8_between_13 rfl rfl rfl ?_
    refine ev_iload_n (pc' := 15) (i := 2) dX8_between_14 rfl rfl rfl ?_
    refine ev_callV (pc' := 18) (rm' := rX8_askedTwo) (b := 115) (av := [.int q, .int r]) (rest := []) co_X8_227 ci_X8_askedTwo cv_X8_askedTwo dX8_between_15 rfl hs_115 hb_X8 rfl rfl (Nat.le_of_ble_eq_true rfl) ⟨(Nat.le_of_ble_eq_true rfl), (Nat.le_of_ble_eq_true rfl)⟩ ⟨(Nat.le_of_ble_eq_true rfl), (Nat.le_of_ble_eq_true rfl)⟩ ?_
    refine t_X8_askedTwo q r  (fun h3 => ?_) (fun j4 h5 e6 j7 h8 e9 h10 => ?_) (fun j11 h12 e13 j14 h15 e16 h17 h18 => ?_) (fun j19 h20 e21 j22 h23 e24 h25 h26 => ?_) (fun j27 h28 e29 h30 => ?_)
    · skip
      refine ev_istore (pc' := 20) (lv' := [some (.ref 115), some (.int q), some (.int r), some (.int (nI n2)), some (.int (-1)), none, none, none, none, none, none, none, none, none, none, none, none, none, none, none]) dX8_between_18 rfl (Nat.le_of_ble_eq_true rfl) rfl rfl ?_
      refine ev_iload (pc' := 22) dX8_between_20 rfl rfl ?_
      refine ev_if_ge (tgt := 28) (pc' := 25) dX8_between_22 rfl rfl (fun h => absurd h (by decide)) (fun _ => ?_)
      refine ev_iload (pc' := 27) dX8_between_25 rfl rfl ?_
      refine ev_iret dX8_between_27 rfl rfl ⟨Nat.le_refl _, Nat.le_refl _⟩ ?_
      exact k1 n2 gn2 hn2 rfl h3
    · subst e6
      subst e9
      refine ev_istore (pc' := 20) (lv' := [some (.ref 115), some (.int (nI j4)), some (.int (nI j7)), some (.int (nI n2)), some (.int (-3)), none, none, none, none, none, none, none, none, none, none, none, none, none, none, none]) dX8_between_18 rfl (Nat.le_of_ble_eq_true rfl) rfl rfl ?_
      refine ev_iload (pc' := 22) dX8_between_20 rfl rfl ?_
      refine ev_if_ge (tgt := 28) (pc' := 25) dX8_between_22 rfl rfl (fun h => absurd h (by decide)) (fun _ => ?_)
      refine ev_iload (pc' := 27) dX8_between_25 rfl rfl ?_
      refine ev_iret dX8_between_27 rfl rfl ⟨Nat.le_refl _, Nat.le_refl _⟩ ?_
      exact k2 n2 gn2 hn2 rfl j4 h5 rfl j7 h8 rfl h10
    · subst e13
      subst e16
      refine ev_istore (pc' := 20) (lv' := [some (.ref 115), some (.int (nI j11)), some (.int (nI j14)), some (.int (nI n2)), some (.int (-3)), none, none, none, none, none, none, none, none, none, none, none, none, none, none, none]) dX8_between_18 rfl (Nat.le_of_ble_eq_true rfl) rfl rfl ?_
      refine ev_iload (pc' := 22) dX8_between_20 rfl rfl ?_
      refine ev_if_ge (tgt := 28) (pc' := 25) dX8_between_22 rfl rfl (fun h => absurd h (by decide)) (fun _ => ?_)
      refine ev_iload (pc' := 27) dX8_between_25 rfl rfl ?_
      refine ev_iret dX8_between_27 rfl rfl ⟨Nat.le_refl _, Nat.le_refl _⟩ ?_
      exact k3 n2 gn2 hn2 rfl j11 h12 rfl j14 h15 rfl h17 h18
    · subst e21
      subst e24
      refine ev_istore (pc' := 20) (lv' := [some (.ref 115), some (.int (nI j19)), some (.int (nI j22)), some (.int (nI n2)), some (.int 0), none, none, none, none, none, none, none, none, none, none, none, none, none, none, none]) dX8_between_18 rfl (Nat.le_of_ble_eq_true rfl) rfl rfl ?_
      refine ev_iload (pc' := 22) dX8_between_20 rfl rfl ?_
      refine ev_if_ge (tgt := 28) (pc' := 25) dX8_between_22 rfl rfl (fun _ => ?_) (fun h => absurd (by decide) h)
      refine ev_aload_n (pc' := 29) (i := 0) dX8_between_28 rfl rfl rfl ?_
      refine ev_iload_n (pc' := 30) (i := 1) dX8_between_29 rfl rfl rfl ?_
      refine ev_iload_n (pc' := 31) (i := 2) dX8_between_30 rfl rfl rfl ?_
      refine ev_callV (pc' := 34) (rm' := rX8_partsPair) (b := 115) (av := [.int (nI j19), .int (nI j22)]) (rest := []) co_X8_350 ci_X8_partsPair cv_X8_partsPair dX8_between_31 rfl hs_115 hb_X8 rfl rfl (Nat.le_of_ble_eq_true rfl) ⟨(Nat.le_of_ble_eq_true rfl), (Nat.le_of_ble_eq_true rfl)⟩ ⟨(Nat.le_of_ble_eq_true rfl), (Nat.le_of_ble_eq_true rfl)⟩ ?_
      refine t_X8_partsPair j19 j22 (by omega) (by omega) (hF j19 j22 (by omega) (by omega)) (hQ j19 j22 (by omega) (by omega)) (fun z J K b1 b2 a1 a2 a3 a4 => ?_) (fun bb m0 s rl tw J K h1 h2 h3 h4 h5 a1 a2 a3 a4 => ?_)
      · skip
        refine ev_istore (pc' := 36) (lv' := [some (.ref 115), some (.int (nI j19)), some (.int (nI j22)), some (.int (nI n2)), some (.int 0), some (.int 0), none, none, none, none, none, none, none, none, none, none, none, none, none, none]) dX8_between_34 rfl (Nat.le_of_ble_eq_true rfl) rfl rfl ?_
        refine ev_aload_n (pc' := 37) (i := 0) dX8_between_36 rfl rfl rfl ?_
        refine ev_getI (pc' := 40) (v := (J 115) 39) fo_X8_295 dX8_between_37 rfl hs_115 rfl rfl ?_
        suffices K32 : EV g yX8_between cX8_between 20 (some .int) rX8_between (ma_ZM g rX8_between Post) 56 [some (.ref 115), some (.int (nI j19)), some (.int (nI j22)), some (.int (nI n2)), some (.int 0), some (.int 0), none, none, none, none, none, none, none, none, none, none, none, none, none, none] [.int 0] HS J K RF 146 0 0 by
          refine ev_if_ne (tgt := 48) (pc' := 43) dX8_between_40 rfl rfl (fun c33 => ?_) (fun c33 => ?_)
          · refine ev_iconst (pc' := 49) (v := 0) dX8_between_48 rfl ki_0 ?_
            refine ev_goto (tgt := 56) dX8_between_49 rfl ?_
            exact K32 
          · refine ev_iload (pc' := 45) dX8_between_43 rfl rfl ?_
            refine ev_if_ne (tgt := 52) (pc' := 48) dX8_between_45 rfl rfl (fun h => absurd (by decide) h) (fun _ => ?_)
            refine ev_iconst (pc' := 49) (v := 0) dX8_between_48 rfl ki_0 ?_
            refine ev_goto (tgt := 56) dX8_between_49 rfl ?_
            exact K32 
        refine ev_istore (pc' := 58) (lv' := [some (.ref 115), some (.int (nI j19)), some (.int (nI j22)), some (.int (nI n2)), some (.int 0), some (.int 0), some (.int 0), none, none, none, none, none, none, none, none, none, none, none, none, none]) dX8_between_56 rfl (Nat.le_of_ble_eq_true rfl) rfl rfl ?_
        refine ev_iload (pc' := 60) dX8_between_58 rfl rfl ?_
        refine ev_if_eq (tgt := 84) (pc' := 63) dX8_between_60 rfl rfl (fun _ => ?_) (fun h => absurd (by decide) h)
        refine ev_iconst (pc' := 85) (v := 1) dX8_between_84 rfl ki_1 ?_
        refine ev_goto (tgt := 89) dX8_between_85 rfl ?_
        refine ev_istore (pc' := 91) (lv' := [some (.ref 115), some (.int (nI j19)), some (.int (nI j22)), some (.int (nI n2)), some (.int 0), some (.int 0), some (.int 0), some (.int 1), none, none, none, none, none, none, none, none, none, none, none, none]) dX8_between_89 rfl (Nat.le_of_ble_eq_true rfl) rfl rfl ?_
        refine ev_aload_n (pc' := 92) (i := 0) dX8_between_91 rfl rfl rfl ?_
        refine ev_iload_n (pc' := 93) (i := 3) dX8_between_92 rfl rfl rfl ?_
        refine ev_callV (pc' := 96) (rm' := rX8_layTree) (b := 115) (av := [.int (nI n2)]) (rest := []) co_X8_360 ci_X8_layTree cv_X8_layTree dX8_between_93 rfl hs_115 hb_X8 rfl rfl (Nat.le_of_ble_eq_true rfl) ⟨(Nat.le_of_ble_eq_true rfl), (Nat.le_of_ble_eq_true rfl)⟩ ⟨(Nat.le_of_ble_eq_true rfl), (Nat.le_of_ble_eq_true rfl)⟩ ?_
        obtain ⟨c, hc⟩ : ∃ c, c + 1 = 2 ^ n2 := ⟨2 ^ n2 - 1, by have := Nat.pow_pos (n := n2) (show 0 < 2 by omega); omega⟩
        have hc3 : c < 256 := by have : 2 ^ n2 ≤ 2 ^ 8 := Nat.pow_le_pow_right (by omega) (by omega); omega
        refine t_X8_layTree n2 (by omega) (fun X Y hX hY => ?_)
        refine ev_iconst (pc' := 97) (v := 2) dX8_between_96 rfl ki_2 ?_
        refine ev_isub (pc' := 98) (v := nI c) dX8_between_97 rfl (by rw [← hc]; exact nI_sub2 c) ?_
        refine ev_istore (pc' := 100) (lv' := [some (.ref 115), some (.int (nI j19)), some (.int (nI j22)), some (.int (nI n2)), some (.int 0), some (.int 0), some (.int 0), some (.int 1), some (.int (nI c)), none, none, none, none, none, none, none, none, none, none, none]) dX8_between_98 rfl (Nat.le_of_ble_eq_true rfl) rfl rfl ?_
        refine ev_iconst (pc' := 101) (v := 0) dX8_between_100 rfl ki_0 ?_
        refine ev_istore (pc' := 103) (lv' := [some (.ref 115), some (.int (nI j19)), some (.int (nI j22)), some (.int (nI n2)), some (.int 0), some (.int 0), some (.int 0), some (.int 1), some (.int (nI c)), some (.int 0), none, none, none, none, none, none, none, none, none, none]) dX8_between_101 rfl (Nat.le_of_ble_eq_true rfl) rfl rfl ?_
        refine ev_iconst (pc' := 104) (v := 0) dX8_between_103 rfl ki_0 ?_
        refine ev_istore (pc' := 106) (lv' := [some (.ref 115), some (.int (nI j19)), some (.int (nI j22)), some (.int (nI n2)), some (.int 0), some (.int 0), some (.int 0), some (.int 1), some (.int (nI c)), some (.int 0), some (.int 0), none, none, none, none, none, none, none, none, none]) dX8_between_104 rfl (Nat.le_of_ble_eq_true rfl) rfl rfl ?_
        refine ev_iconst (pc' := 107) (v := (-1)) dX8_between_106 rfl ki_m1 ?_
        refine ev_istore (pc' := 109) (lv' := [some (.ref 115), some (.int (nI j19)), some (.int (nI j22)), some (.int (nI n2)), some (.int 0), some (.int 0), some (.int 0), some (.int 1), some (.int (nI c)), some (.int 0), some (.int 0), some (.int (-1)), none, none, none, none, none, none, none, none]) dX8_between_107 rfl (Nat.le_of_ble_eq_true rfl) rfl rfl ?_
        refine ev_iconst (pc' := 110) (v := 0) dX8_between_109 rfl ki_0 ?_
        refine ev_istore (pc' := 112) (lv' := [some (.ref 115), some (.int (nI j19)), some (.int (nI j22)), some (.int (nI n2)), some (.int 0), some (.int 0), some (.int 0), some (.int 1), some (.int (nI c)), some (.int 0), some (.int 0), some (.int (-1)), some (.int 0), none, none, none, none, none, none, none]) dX8_between_110 rfl (Nat.le_of_ble_eq_true rfl) rfl rfl ?_
        refine ev_iconst (pc' := 113) (v := 0) dX8_between_112 rfl ki_0 ?_
        refine ev_istore (pc' := 115) (lv' := [some (.ref 115), some (.int (nI j19)), some (.int (nI j22)), some (.int (nI n2)), some (.int 0), some (.int 0), some (.int 0), some (.int 1), some (.int (nI c)), some (.int 0), some (.int 0), some (.int (-1)), some (.int 0), some (.int 0), none, none, none, none, none, none]) dX8_between_113 rfl (Nat.le_of_ble_eq_true rfl) rfl rfl ?_
        refine ev_iload (pc' := 117) dX8_between_115 rfl rfl ?_
        refine ev_ineg (pc' := 118) (v := -(nI c)) dX8_between_117 rfl rfl ?_
        refine ev_istore (pc' := 120) (lv' := [some (.ref 115), some (.int (nI j19)), some (.int (nI j22)), some (.int (nI n2)), some (.int 0), some (.int 0), some (.int 0), some (.int 1), some (.int (nI c)), some (.int 0), some (.int 0), some (.int (-1)), some (.int 0), some (.int 0), some (.int (-(nI c))), none, none, none, none, none]) dX8_between_118 rfl (Nat.le_of_ble_eq_true rfl) rfl rfl ?_
        suffices lb : ∀ (d i : Nat) (s1 s2 s3 s4 s5 : Int32) (JJ : ma_I) (KK : ma_L), i + d = 2 * c + 1 → (s1, s2, s3, s4, s5) = mBt (fun k => I 123 (16 * j19 + k)) (fun k => I 123 (16 * j22 + k)) n2 c i → mSx [121] [9, 10] (ma_up (ma_up J 146 X) 147 Y) JJ → mSl [120] K KK → EV g yX8_between cX8_between 20 (some .int) rX8_between (ma_ZM g rX8_between Post) 120 [some (.ref 115), some (.int (nI j19)), some (.int (nI j22)), some (.int (nI n2)), some (.int 0), some (.int 0), some (.int 0), some (.int 1), some (.int (nI c)), some (.int s1), some (.int s2), some (.int s3), some (.int s4), some (.int s5), some (.int (nI i - nI c)), none, none, none, none, none] [] HS JJ KK RF 146 0 0 by
          rw [mvc_0]
          exact lb (2 * c + 1) 0 _ _ _ _ _ _ _ (by omega) rfl (mSx.rf.le (fun _ h => absurd h List.not_mem_nil) (fun _ h => absurd h List.not_mem_nil)) (mSl.rf.le (fun _ h => absurd h List.not_mem_nil))
        intro d
        induction d with
        | zero =>
          intro i s1 s2 s3 s4 s5 JJ KK hi hs hJ hK
          have hi : i = 2 * c + 1 := by omega
          rw [hi] at hs
          refine ev_iload (pc' := 122) dX8_between_120 rfl rfl ?_
          refine ev_iload (pc' := 124) dX8_between_122 rfl rfl ?_
          refine ev_icmp_gt (tgt := 326) (pc' := 127) dX8_between_124 rfl rfl (fun _ => ?_) (fun h => absurd (mvc_gt hi (by omega)) h)
          refine ev_aload_n (pc' := 327) (i := 0) dX8_between_326 rfl rfl rfl ?_
          refine ev_iload (pc' := 329) dX8_between_327 rfl rfl ?_
          refine ev_putI (pc' := 332) (I' := (ma_up JJ 115 (ma_up (JJ 115) 2 s1))) fo_X8_119 dX8_between_329 rfl hs_115 rfl (fun r hr => by cases hr; rfl) ⟨rfl, rfl⟩ rfl ?_
          refine ev_iload (pc' := 334) dX8_between_332 rfl rfl ?_
          refine ev_if_eq (tgt := 354) (pc' := 337) dX8_between_334 rfl rfl (fun _ => ?_) (fun h => absurd (by decide) h)
          refine ev_bipush (pc' := 356) (v := (-6)) dX8_between_354 rfl kb_m6 ?_
          refine ev_iret dX8_between_356 rfl rfl ⟨Nat.le_refl _, Nat.le_refl _⟩ ?_
          exact k4 n2 gn2 hn2 rfl j19 h20 rfl j22 h23 rfl h25 h26 z J K b1 b2 a1 a2 a3 a4 X Y c hc s1 s2 s3 s4 s5 JJ KK hs hJ hK
        | succ d ih =>
          intro i s1 s2 s3 s4 s5 JJ KK hi hs hJ hK
          have hX1 : ∀ j, j ≤ 2 ^ n2 → JJ 146 j = mSb 0 1 n2 j := fun j hj => (congrFun (hJ.1 146 (by decide) (by decide)) j).trans (hX j hj)
          have hY1 : ∀ j, j ≤ 2 ^ n2 → JJ 147 j = mSb 1 0 n2 j := fun j hj => (congrFun (hJ.1 147 (by decide) (by decide)) j).trans (hY j hj)
          have hA : ∀ j, j < 16 → JJ 133 j = (fun k => I 123 (16 * j19 + k)) j := fun j hj => (congrFun (hJ.1 133 (by decide) (by decide)) j).trans (a1 j hj)
          have hB : ∀ j, j < 16 → JJ 134 j = (fun k => I 123 (16 * j22 + k)) j := fun j hj => (congrFun (hJ.1 134 (by decide) (by decide)) j).trans (a2 j hj)
          by_cases hic : i < c
          · have em : mTm n2 c i = Int32.toInt64 (-(mSb 0 1 n2 (c - i))) := if_pos hic
            have eq_ : mTq n2 c i = Int32.toInt64 (mSb 1 0 n2 (c - i)) := if_pos hic
            refine ev_iload (pc' := 122) dX8_between_120 rfl rfl ?_
            refine ev_iload (pc' := 124) dX8_between_122 rfl rfl ?_
            refine ev_icmp_gt (tgt := 326) (pc' := 127) dX8_between_124 rfl rfl (fun h => absurd h (mvc_le (by omega) (by omega))) (fun _ => ?_)
            refine ev_iload (pc' := 129) dX8_between_127 rfl rfl ?_
            refine ev_if_ge (tgt := 145) (pc' := 132) dX8_between_129 rfl rfl (fun h => absurd h (mvc_lt hic (by omega))) (fun _ => ?_)
            refine ev_aload_n (pc' := 133) (i := 0) dX8_between_132 rfl rfl rfl ?_
            refine ev_getR (pc' := 136) fo_X8_106 dX8_between_133 rfl hs_115 rfl rf_115_43 ?_
            refine ev_iload (pc' := 138) dX8_between_136 rfl rfl ?_
            refine ev_ineg (pc' := 139) (v := -(nI i - nI c)) dX8_between_138 rfl rfl ?_
            refine ev_eqi (w := nI (c - i)) (mvc_ng hic (by omega)) ?_
            refine ev_iald (pc' := 140) (j := c - i) (v := mSb 0 1 n2 (c - i)) dX8_between_139 rfl hs_146 rfl (by omega) (Nat.le_of_ble_eq_true rfl) (hX1 _ (by omega)) ?_
            refine ev_ineg (pc' := 141) (v := -(mSb 0 1 n2 (c - i))) dX8_between_140 rfl rfl ?_
            refine ev_i2l (pc' := 142) (v := Int32.toInt64 (-(mSb 0 1 n2 (c - i)))) dX8_between_141 rfl rfl ?_
            refine ev_goto (tgt := 153) dX8_between_142 rfl ?_
            rw [← em]
            refine ev_lstore (pc' := 155) (lv' := [some (.ref 115), some (.int (nI j19)), some (.int (nI j22)), some (.int (nI n2)), some (.int 0), some (.int 0), some (.int 0), some (.int 1), some (.int (nI c)), some (.int s1), some (.int s2), some (.int s3), some (.int s4), some (.int s5), some (.int (nI i - nI c)), some (.long (mTm n2 c i)), none, none, none, none]) dX8_between_153 rfl (Nat.le_of_ble_eq_true rfl) rfl rfl ?_
            refine ev_iload (pc' := 157) dX8_between_155 rfl rfl ?_
            refine ev_if_ge (tgt := 172) (pc' := 160) dX8_between_157 rfl rfl (fun h => absurd h (mvc_lt hic (by omega))) (fun _ => ?_)
            refine ev_aload_n (pc' := 161) (i := 0) dX8_between_160 rfl rfl rfl ?_
            refine ev_getR (pc' := 164) fo_X8_109 dX8_between_161 rfl hs_115 rfl rf_115_44 ?_
            refine ev_iload (pc' := 166) dX8_between_164 rfl rfl ?_
            refine ev_ineg (pc' := 167) (v := -(nI i - nI c)) dX8_between_166 rfl rfl ?_
            refine ev_eqi (w := nI (c - i)) (mvc_ng hic (by omega)) ?_
            refine ev_iald (pc' := 168) (j := c - i) (v := mSb 1 0 n2 (c - i)) dX8_between_167 rfl hs_147 rfl (by omega) (Nat.le_of_ble_eq_true rfl) (hY1 _ (by omega)) ?_
            refine ev_i2l (pc' := 169) (v := Int32.toInt64 (mSb 1 0 n2 (c - i))) dX8_between_168 rfl rfl ?_
            refine ev_goto (tgt := 180) dX8_between_169 rfl ?_
            rw [← eq_]
            refine ev_lstore (pc' := 182) (lv' := [some (.ref 115), some (.int (nI j19)), some (.int (nI j22)), some (.int (nI n2)), some (.int 0), some (.int 0), some (.int 0), some (.int 1), some (.int (nI c)), some (.int s1), some (.int s2), some (.int s3), some (.int s4), some (.int s5), some (.int (nI i - nI c)), some (.long (mTm n2 c i)), none, some (.long (mTq n2 c i)), none, none]) dX8_between_180 rfl (Nat.le_of_ble_eq_true rfl) rfl rfl ?_
            refine ev_iconst (pc' := 183) (v := 0) dX8_between_182 rfl ki_0 ?_
            refine ev_istore (pc' := 185) (lv' := [some (.ref 115), some (.int (nI j19)), some (.int (nI j22)), some (.int (nI n2)), some (.int 0), some (.int 0), some (.int 0), some (.int 1), some (.int (nI c)), some (.int s1), some (.int s2), some (.int s3), some (.int s4), some (.int s5), some (.int (nI i - nI c)), some (.long (mTm n2 c i)), none, some (.long (mTq n2 c i)), none, some (.int 0)]) dX8_between_183 rfl (Nat.le_of_ble_eq_true rfl) rfl rfl ?_
            suffices lt : ∀ (d k : Nat), k + d = 16 → EV g yX8_between cX8_between 20 (some .int) rX8_between (ma_ZM g rX8_between Post) 185 [some (.ref 115), some (.int (nI j19)), some (.int (nI j22)), some (.int (nI n2)), some (.int 0), some (.int 0), some (.int 0), some (.int 1), some (.int (nI c)), some (.int s1), some (.int s2), some (.int s3), some (.int s4), some (.int s5), some (.int (nI i - nI c)), some (.long (mTm n2 c i)), none, some (.long (mTq n2 c i)), none, some (.int (nI k))] [] HS JJ (ma_up KK 120 (mMf (JJ 133) (JJ 134) (mTm n2 c i) (mTq n2 c i) (KK 120) k)) RF 146 0 0 by
              refine ev_memL (fun x hx => ?_)
              have hx : x = ma_up KK 120 (mMf (JJ 133) (JJ 134) (mTm n2 c i) (mTq n2 c i) (KK 120) 0) := by rw [hx, mMf_0, ma_up_self]
              subst hx
              exact lt 16 0 rfl
            intro d5
            induction d5 with
            | zero =>
              intro k hk
              obtain rfl : k = 16 := by omega
              refine ev_iload (pc' := 187) dX8_between_185 rfl rfl ?_
              refine ev_bipush (pc' := 189) (v := 16) dX8_between_187 rfl kb_16 ?_
              refine ev_icmp_ge (tgt := 228) (pc' := 192) dX8_between_189 rfl rfl (fun _ => ?_) (fun h => absurd (nx_le (a := 16) (b := 16) (by omega) (by omega)) h)
              refine ev_aload_n (pc' := 229) (i := 0) dX8_between_228 rfl rfl rfl ?_
              refine ev_getR (pc' := 232) fo_X8_26 dX8_between_229 rfl hs_115 rfl rf_115_8 ?_
              refine ev_callS (pc' := 235) (rm' := rX8_worthOf) (av := [.ref 120]) (rest := []) co_X8_173 cs_X8_worthOf dX8_between_232 rfl rfl rfl (Nat.le_of_ble_eq_true rfl) ⟨(Nat.le_of_ble_eq_true rfl), (Nat.le_of_ble_eq_true rfl)⟩ ⟨(Nat.le_of_ble_eq_true rfl), (Nat.le_of_ble_eq_true rfl)⟩ ?_
              refine t_X8_worthOf 120 hs_120 ?_
              refine ev_callS (pc' := 238) (rm' := rX8_sign) (av := [.long (mW ((ma_up KK 120 (mMf (JJ 133) (JJ 134) (mTm n2 c i) (mTq n2 c i) (KK 120) 16)) 120))]) (rest := []) co_X8_156 cs_X8_sign dX8_between_235 rfl rfl rfl (Nat.le_of_ble_eq_true rfl) ⟨(Nat.le_of_ble_eq_true rfl), (Nat.le_of_ble_eq_true rfl)⟩ ⟨(Nat.le_of_ble_eq_true rfl), (Nat.le_of_ble_eq_true rfl)⟩ ?_
              refine t_X8_sign (mW ((ma_up KK 120 (mMf (JJ 133) (JJ 134) (mTm n2 c i) (mTq n2 c i) (KK 120) 16)) 120))  ?_
              refine ev_topi (fun sd hz => ?_)
              have hz : sd = mSg (mW (mMf (JJ 133) (JJ 134) (mTm n2 c i) (mTq n2 c i) (KK 120) 16)) := hz
              have hsd : sd = mSg (mW (mMx (fun k => I 123 (16 * j19 + k)) (fun k => I 123 (16 * j22 + k)) (mTm n2 c i) (mTq n2 c i))) := by rw [hz, mW_congr (mMf_16 _ _ _ hA hB)]
              refine ev_istore (pc' := 240) (lv' := [some (.ref 115), some (.int (nI j19)), some (.int (nI j22)), some (.int (nI n2)), some (.int 0), some (.int 0), some (.int 0), some (.int 1), some (.int (nI c)), some (.int s1), some (.int s2), some (.int s3), some (.int s4), some (.int s5), some (.int (nI i - nI c)), some (.long (mTm n2 c i)), none, some (.long (mTq n2 c i)), none, some (.int sd)]) dX8_between_238 rfl (Nat.le_of_ble_eq_true rfl) rfl rfl ?_
              refine ev_iload (pc' := 242) dX8_between_240 rfl rfl ?_
              refine ev_if_ne (tgt := 248) (pc' := 245) dX8_between_242 rfl rfl (fun c34 => ?_) (fun c34 => ?_)
              · refine ev_aload_n (pc' := 249) (i := 0) dX8_between_248 rfl rfl rfl ?_
                refine ev_callV (pc' := 252) (rm' := rX8_layFour) (b := 115) (av := []) (rest := []) co_X8_188 ci_X8_layFour cv_X8_layFour dX8_between_249 rfl hs_115 hb_X8 rfl rfl (Nat.le_of_ble_eq_true rfl) ⟨(Nat.le_of_ble_eq_true rfl), (Nat.le_of_ble_eq_true rfl)⟩ ⟨(Nat.le_of_ble_eq_true rfl), (Nat.le_of_ble_eq_true rfl)⟩ ?_
                refine f_X8_layFour (fun J9 f1 f2 f3 => ?_)
                have f1 : J9 115 9 = mFA (mMf (JJ 133) (JJ 134) (mTm n2 c i) (mTq n2 c i) (KK 120) 16) := f1
                rw [mFA_congr (mMf_16 _ _ _ hA hB)] at f1
                refine ev_iload (pc' := 254) dX8_between_252 rfl rfl ?_
                refine ev_iload (pc' := 256) dX8_between_254 rfl rfl ?_
                suffices K37 : ∀ x36 : Int32, x36 = (if (¬ s4 = 0) ∧ (¬ sd = s4) then (1 : Int32) else 0) → EV g yX8_between cX8_between 20 (some .int) rX8_between (ma_ZM g rX8_between Post) 271 [some (.ref 115), some (.int (nI j19)), some (.int (nI j22)), some (.int (nI n2)), some (.int 0), some (.int 0), some (.int 0), some (.int 1), some (.int (nI c)), some (.int s1), some (.int s2), some (.int s3), some (.int s4), some (.int s5), some (.int (nI i - nI c)), some (.long (mTm n2 c i)), none, some (.long (mTq n2 c i)), none, some (.int sd)] [.int x36, .int s5] HS J9 (ma_up KK 120 (mMf (JJ 133) (JJ 134) (mTm n2 c i) (mTq n2 c i) (KK 120) 16)) RF 146 0 0 by
                  refine ev_if_eq (tgt := 270) (pc' := 259) dX8_between_256 rfl rfl (fun c38 => ?_) (fun c38 => ?_)
                  · refine ev_iconst (pc' := 271) (v := 0) dX8_between_270 rfl ki_0 ?_
                    exact K37 _ (if_neg (fun h => (not_not_intro c38) h.1)).symm
                  · refine ev_iload (pc' := 261) dX8_between_259 rfl rfl ?_
                    refine ev_iload (pc' := 263) dX8_between_261 rfl rfl ?_
                    refine ev_icmp_eq (tgt := 270) (pc' := 266) dX8_between_263 rfl rfl (fun c39 => ?_) (fun c39 => ?_)
                    · refine ev_iconst (pc' := 271) (v := 0) dX8_between_270 rfl ki_0 ?_
                      exact K37 _ (if_neg (fun h => (not_not_intro c39) h.2)).symm
                    · refine ev_iconst (pc' := 267) (v := 1) dX8_between_266 rfl ki_1 ?_
                      refine ev_goto (tgt := 271) dX8_between_267 rfl ?_
                      exact K37 _ (if_pos (⟨c38, c39⟩)).symm
                intro x36 hx36
                subst hx36
                refine ev_iadd (pc' := 272) (v := s5 + (if (¬ s4 = 0) ∧ (¬ sd = s4) then (1 : Int32) else 0)) dX8_between_271 rfl rfl ?_
                refine ev_istore (pc' := 274) (lv' := [some (.ref 115), some (.int (nI j19)), some (.int (nI j22)), some (.int (nI n2)), some (.int 0), some (.int 0), some (.int 0), some (.int 1), some (.int (nI c)), some (.int s1), some (.int s2), some (.int s3), some (.int s4), some (.int (s5 + (if (¬ s4 = 0) ∧ (¬ sd = s4) then (1 : Int32) else 0))), some (.int (nI i - nI c)), some (.long (mTm n2 c i)), none, some (.long (mTq n2 c i)), none, some (.int sd)]) dX8_between_272 rfl (Nat.le_of_ble_eq_true rfl) rfl rfl ?_
                refine ev_iload (pc' := 276) dX8_between_274 rfl rfl ?_
                refine ev_istore (pc' := 278) (lv' := [some (.ref 115), some (.int (nI j19)), some (.int (nI j22)), some (.int (nI n2)), some (.int 0), some (.int 0), some (.int 0), some (.int 1), some (.int (nI c)), some (.int s1), some (.int s2), some (.int s3), some (.int sd), some (.int (s5 + (if (¬ s4 = 0) ∧ (¬ sd = s4) then (1 : Int32) else 0))), some (.int (nI i - nI c)), some (.long (mTm n2 c i)), none, some (.long (mTq n2 c i)), none, some (.int sd)]) dX8_between_276 rfl (Nat.le_of_ble_eq_true rfl) rfl rfl ?_
                refine ev_aload_n (pc' := 279) (i := 0) dX8_between_278 rfl rfl rfl ?_
                refine ev_getI (pc' := 282) (v := (J9 115) 9) fo_X8_160 dX8_between_279 rfl hs_115 rfl rfl ?_
                refine ev_iload (pc' := 284) dX8_between_282 rfl rfl ?_
                refine ev_icmp_eq (tgt := 320) (pc' := 287) dX8_between_284 rfl rfl (fun c40 => ?_) (fun c40 => ?_)
                · refine ev_iinc (pc' := 323) (v := (nI i - nI c) + 1) (lv' := [some (.ref 115), some (.int (nI j19)), some (.int (nI j22)), some (.int (nI n2)), some (.int 0), some (.int 0), some (.int 0), some (.int 1), some (.int (nI c)), some (.int s1), some (.int s2), some (.int s3), some (.int sd), some (.int (s5 + (if (¬ s4 = 0) ∧ (¬ sd = s4) then (1 : Int32) else 0))), some (.int ((nI i - nI c) + 1)), some (.long (mTm n2 c i)), none, some (.long (mTq n2 c i)), none, some (.int sd)]) dX8_between_320 rfl rfl rfl (Nat.le_of_ble_eq_true rfl) rfl rfl ?_
                  refine ev_goto (tgt := 120) dX8_between_323 rfl ?_
                  refine ev_lvw (lv' := [some (.ref 115), some (.int (nI j19)), some (.int (nI j22)), some (.int (nI n2)), some (.int 0), some (.int 0), some (.int 0), some (.int 1), some (.int (nI c)), some (.int s1), some (.int s2), some (.int s3), some (.int sd), some (.int (s5 + (if (¬ s4 = 0) ∧ (¬ sd = s4) then (1 : Int32) else 0))), some (.int ((nI i - nI c) + 1)), none, none, none, none, none]) ⟨rfl, ⟨rfl, ⟨rfl, ⟨rfl, ⟨rfl, ⟨rfl, ⟨rfl, ⟨rfl, ⟨rfl, ⟨rfl, ⟨rfl, ⟨rfl, ⟨rfl, ⟨rfl, ⟨rfl, trivial⟩⟩⟩⟩⟩⟩⟩⟩⟩⟩⟩⟩⟩⟩⟩ ?_
                  rw [mvc_s]
                  have c1' := c40
                  rw [f1] at c1'
                  exact ih (i + 1) _ _ _ _ _ _ _ (by omega) (by show _ = mBs _ _ (mBt _ _ _ _ _); rw [← hs, ← hsd]; unfold mBs; rw [if_neg c34]; dsimp only; rw [if_pos c1', if_pos c1', if_pos c1']) ((hJ.trans f3).le (fun a h => by simp only [List.mem_cons, List.not_mem_nil, or_false, List.cons_append, List.nil_append] at h ⊢; omega) (fun a h => by simp only [List.mem_cons, List.not_mem_nil, or_false, List.cons_append, List.nil_append] at h ⊢; omega)) (mSl.up hK List.mem_cons_self)
                · refine ev_iload (pc' := 289) dX8_between_287 rfl rfl ?_
                  refine ev_bipush (pc' := 291) (v := 9) dX8_between_289 rfl kb_9 ?_
                  suffices K43 : ∀ x42 : Int32, x42 = (if 9 ≤ s2 then s1 else ((10 * s1) + ((J9 115) 9))) → EV g yX8_between cX8_between 20 (some .int) rX8_between (ma_ZM g rX8_between Post) 309 [some (.ref 115), some (.int (nI j19)), some (.int (nI j22)), some (.int (nI n2)), some (.int 0), some (.int 0), some (.int 0), some (.int 1), some (.int (nI c)), some (.int s1), some (.int s2), some (.int s3), some (.int sd), some (.int (s5 + (if (¬ s4 = 0) ∧ (¬ sd = s4) then (1 : Int32) else 0))), some (.int (nI i - nI c)), some (.long (mTm n2 c i)), none, some (.long (mTq n2 c i)), none, some (.int sd)] [.int x42] HS J9 (ma_up KK 120 (mMf (JJ 133) (JJ 134) (mTm n2 c i) (mTq n2 c i) (KK 120) 16)) RF 146 0 0 by
                    refine ev_icmp_ge (tgt := 307) (pc' := 294) dX8_between_291 rfl rfl (fun c44 => ?_) (fun c44 => ?_)
                    · refine ev_iload (pc' := 309) dX8_between_307 rfl rfl ?_
                      exact K43 _ (by rw [if_pos c44])
                    · refine ev_bipush (pc' := 296) (v := 10) dX8_between_294 rfl kb_10 ?_
                      refine ev_iload (pc' := 298) dX8_between_296 rfl rfl ?_
                      refine ev_imul (pc' := 299) (v := 10 * s1) dX8_between_298 rfl rfl ?_
                      refine ev_aload_n (pc' := 300) (i := 0) dX8_between_299 rfl rfl rfl ?_
                      refine ev_getI (pc' := 303) (v := (J9 115) 9) fo_X8_160 dX8_between_300 rfl hs_115 rfl rfl ?_
                      refine ev_iadd (pc' := 304) (v := (10 * s1) + ((J9 115) 9)) dX8_between_303 rfl rfl ?_
                      refine ev_goto (tgt := 309) dX8_between_304 rfl ?_
                      exact K43 _ (by rw [if_neg c44])
                  intro x42 hx42
                  subst hx42
                  refine ev_istore (pc' := 311) (lv' := [some (.ref 115), some (.int (nI j19)), some (.int (nI j22)), some (.int (nI n2)), some (.int 0), some (.int 0), some (.int 0), some (.int 1), some (.int (nI c)), some (.int (if 9 ≤ s2 then s1 else ((10 * s1) + ((J9 115) 9)))), some (.int s2), some (.int s3), some (.int sd), some (.int (s5 + (if (¬ s4 = 0) ∧ (¬ sd = s4) then (1 : Int32) else 0))), some (.int (nI i - nI c)), some (.long (mTm n2 c i)), none, some (.long (mTq n2 c i)), none, some (.int sd)]) dX8_between_309 rfl (Nat.le_of_ble_eq_true rfl) rfl rfl ?_
                  refine ev_iinc (pc' := 314) (v := s2 + 1) (lv' := [some (.ref 115), some (.int (nI j19)), some (.int (nI j22)), some (.int (nI n2)), some (.int 0), some (.int 0), some (.int 0), some (.int 1), some (.int (nI c)), some (.int (if 9 ≤ s2 then s1 else ((10 * s1) + ((J9 115) 9)))), some (.int (s2 + 1)), some (.int s3), some (.int sd), some (.int (s5 + (if (¬ s4 = 0) ∧ (¬ sd = s4) then (1 : Int32) else 0))), some (.int (nI i - nI c)), some (.long (mTm n2 c i)), none, some (.long (mTq n2 c i)), none, some (.int sd)]) dX8_between_311 rfl rfl rfl (Nat.le_of_ble_eq_true rfl) rfl rfl ?_
                  refine ev_aload_n (pc' := 315) (i := 0) dX8_between_314 rfl rfl rfl ?_
                  refine ev_getI (pc' := 318) (v := (J9 115) 9) fo_X8_160 dX8_between_315 rfl hs_115 rfl rfl ?_
                  refine ev_istore (pc' := 320) (lv' := [some (.ref 115), some (.int (nI j19)), some (.int (nI j22)), some (.int (nI n2)), some (.int 0), some (.int 0), some (.int 0), some (.int 1), some (.int (nI c)), some (.int (if 9 ≤ s2 then s1 else ((10 * s1) + ((J9 115) 9)))), some (.int (s2 + 1)), some (.int ((J9 115) 9)), some (.int sd), some (.int (s5 + (if (¬ s4 = 0) ∧ (¬ sd = s4) then (1 : Int32) else 0))), some (.int (nI i - nI c)), some (.long (mTm n2 c i)), none, some (.long (mTq n2 c i)), none, some (.int sd)]) dX8_between_318 rfl (Nat.le_of_ble_eq_true rfl) rfl rfl ?_
                  refine ev_iinc (pc' := 323) (v := (nI i - nI c) + 1) (lv' := [some (.ref 115), some (.int (nI j19)), some (.int (nI j22)), some (.int (nI n2)), some (.int 0), some (.int 0), some (.int 0), some (.int 1), some (.int (nI c)), some (.int (if 9 ≤ s2 then s1 else ((10 * s1) + ((J9 115) 9)))), some (.int (s2 + 1)), some (.int ((J9 115) 9)), some (.int sd), some (.int (s5 + (if (¬ s4 = 0) ∧ (¬ sd = s4) then (1 : Int32) else 0))), some (.int ((nI i - nI c) + 1)), some (.long (mTm n2 c i)), none, some (.long (mTq n2 c i)), none, some (.int sd)]) dX8_between_320 rfl rfl rfl (Nat.le_of_ble_eq_true rfl) rfl rfl ?_
                  refine ev_goto (tgt := 120) dX8_between_323 rfl ?_
                  refine ev_lvw (lv' := [some (.ref 115), some (.int (nI j19)), some (.int (nI j22)), some (.int (nI n2)), some (.int 0), some (.int 0), some (.int 0), some (.int 1), some (.int (nI c)), some (.int (if 9 ≤ s2 then s1 else ((10 * s1) + ((J9 115) 9)))), some (.int (s2 + 1)), some (.int ((J9 115) 9)), some (.int sd), some (.int (s5 + (if (¬ s4 = 0) ∧ (¬ sd = s4) then (1 : Int32) else 0))), some (.int ((nI i - nI c) + 1)), none, none, none, none, none]) ⟨rfl, ⟨rfl, ⟨rfl, ⟨rfl, ⟨rfl, ⟨rfl, ⟨rfl, ⟨rfl, ⟨rfl, ⟨rfl, ⟨rfl, ⟨rfl, ⟨rfl, ⟨rfl, ⟨rfl, trivial⟩⟩⟩⟩⟩⟩⟩⟩⟩⟩⟩⟩⟩⟩⟩ ?_
                  rw [mvc_s]
                  have c1' := c40
                  rw [f1] at c1'
                  exact ih (i + 1) _ _ _ _ _ _ _ (by omega) (by show _ = mBs _ _ (mBt _ _ _ _ _); rw [← hs, ← hsd, f1]; unfold mBs; rw [if_neg c34]; dsimp only; rw [if_neg c1', if_neg c1', if_neg c1']) ((hJ.trans f3).le (fun a h => by simp only [List.mem_cons, List.not_mem_nil, or_false, List.cons_append, List.nil_append] at h ⊢; omega) (fun a h => by simp only [List.mem_cons, List.not_mem_nil, or_false, List.cons_append, List.nil_append] at h ⊢; omega)) (mSl.up hK List.mem_cons_self)
              · refine ev_goto (tgt := 320) dX8_between_245 rfl ?_
                refine ev_iinc (pc' := 323) (v := (nI i - nI c) + 1) (lv' := [some (.ref 115), some (.int (nI j19)), some (.int (nI j22)), some (.int (nI n2)), some (.int 0), some (.int 0), some (.int 0), some (.int 1), some (.int (nI c)), some (.int s1), some (.int s2), some (.int s3), some (.int s4), some (.int s5), some (.int ((nI i - nI c) + 1)), some (.long (mTm n2 c i)), none, some (.long (mTq n2 c i)), none, some (.int sd)]) dX8_between_320 rfl rfl rfl (Nat.le_of_ble_eq_true rfl) rfl rfl ?_
                refine ev_goto (tgt := 120) dX8_between_323 rfl ?_
                refine ev_lvw (lv' := [some (.ref 115), some (.int (nI j19)), some (.int (nI j22)), some (.int (nI n2)), some (.int 0), some (.int 0), some (.int 0), some (.int 1), some (.int (nI c)), some (.int s1), some (.int s2), some (.int s3), some (.int s4), some (.int s5), some (.int ((nI i - nI c) + 1)), none, none, none, none, none]) ⟨rfl, ⟨rfl, ⟨rfl, ⟨rfl, ⟨rfl, ⟨rfl, ⟨rfl, ⟨rfl, ⟨rfl, ⟨rfl, ⟨rfl, ⟨rfl, ⟨rfl, ⟨rfl, ⟨rfl, trivial⟩⟩⟩⟩⟩⟩⟩⟩⟩⟩⟩⟩⟩⟩⟩ ?_
                rw [mvc_s]
                exact ih (i + 1) _ _ _ _ _ _ _ (by omega) (by show _ = mBs _ _ (mBt _ _ _ _ _); rw [← hs, ← hsd]; exact (if_pos c34).symm) hJ (mSl.up hK List.mem_cons_self)
            | succ d5 ih5 =>
              intro k hk
              refine ev_iload (pc' := 187) dX8_between_185 rfl rfl ?_
              refine ev_bipush (pc' := 189) (v := 16) dX8_between_187 rfl kb_16 ?_
              refine ev_icmp_ge (tgt := 228) (pc' := 192) dX8_between_189 rfl rfl (fun h => absurd h (nx_nle (a := 16) (b := k) (by omega) (by omega))) (fun _ => ?_)
              refine ev_aload_n (pc' := 193) (i := 0) dX8_between_192 rfl rfl rfl ?_
              refine ev_getR (pc' := 196) fo_X8_26 dX8_between_193 rfl hs_115 rfl rf_115_8 ?_
              refine ev_iload (pc' := 198) dX8_between_196 rfl rfl ?_
              refine ev_aload_n (pc' := 199) (i := 0) dX8_between_198 rfl rfl rfl ?_
              refine ev_getR (pc' := 202) fo_X8_67 dX8_between_199 rfl hs_115 rfl rf_115_24 ?_
              refine ev_iload (pc' := 204) dX8_between_202 rfl rfl ?_
              refine ev_iald (pc' := 205) (j := k) (v := (JJ 133) k) dX8_between_204 rfl hs_133 rfl (by omega) (Nat.le_of_ble_eq_true rfl) rfl ?_
              refine ev_i2l (pc' := 206) (v := Int32.toInt64 ((JJ 133) k)) dX8_between_205 rfl rfl ?_
              refine ev_lload (pc' := 208) dX8_between_206 rfl rfl ?_
              refine ev_lmul (pc' := 209) (v := (Int32.toInt64 ((JJ 133) k)) * (mTm n2 c i)) dX8_between_208 rfl rfl ?_
              refine ev_aload_n (pc' := 210) (i := 0) dX8_between_209 rfl rfl rfl ?_
              refine ev_getR (pc' := 213) fo_X8_70 dX8_between_210 rfl hs_115 rfl rf_115_25 ?_
              refine ev_iload (pc' := 215) dX8_between_213 rfl rfl ?_
              refine ev_iald (pc' := 216) (j := k) (v := (JJ 134) k) dX8_between_215 rfl hs_134 rfl (by omega) (Nat.le_of_ble_eq_true rfl) rfl ?_
              refine ev_i2l (pc' := 217) (v := Int32.toInt64 ((JJ 134) k)) dX8_between_216 rfl rfl ?_
              refine ev_lload (pc' := 219) dX8_between_217 rfl rfl ?_
              refine ev_lmul (pc' := 220) (v := (Int32.toInt64 ((JJ 134) k)) * (mTq n2 c i)) dX8_between_219 rfl rfl ?_
              refine ev_ladd (pc' := 221) (v := ((Int32.toInt64 ((JJ 133) k)) * (mTm n2 c i)) + ((Int32.toInt64 ((JJ 134) k)) * (mTq n2 c i))) dX8_between_220 rfl rfl ?_
              refine ev_last (pc' := 222) (j := k) (L' := (ma_up KK 120 (ma_up (mMf (JJ 133) (JJ 134) (mTm n2 c i) (mTq n2 c i) (KK 120) k) k (((Int32.toInt64 ((JJ 133) k)) * (mTm n2 c i)) + ((Int32.toInt64 ((JJ 134) k)) * (mTq n2 c i)))))) dX8_between_221 rfl hs_120 rfl (by omega) (Nat.le_of_ble_eq_true rfl) (ma_up_up _ _ _ _) ?_
              refine ev_iinc (pc' := 225) (v := nI (k + 1)) (lv' := [some (.ref 115), some (.int (nI j19)), some (.int (nI j22)), some (.int (nI n2)), some (.int 0), some (.int 0), some (.int 0), some (.int 1), some (.int (nI c)), some (.int s1), some (.int s2), some (.int s3), some (.int s4), some (.int s5), some (.int (nI i - nI c)), some (.long (mTm n2 c i)), none, some (.long (mTq n2 c i)), none, some (.int (nI (k + 1)))]) dX8_between_222 rfl rfl (nI_add k 1) (Nat.le_of_ble_eq_true rfl) rfl rfl ?_
              refine ev_goto (tgt := 185) dX8_between_225 rfl ?_
              refine ev_memL (fun x hx => ?_)
              have hx := hx.trans (congrArg (ma_up KK 120) (mMf_s (JJ 133) (JJ 134) (mTm n2 c i) (mTq n2 c i) (KK 120) k))
              subst hx
              exact ih5 (k + 1) (by omega)
          · have em : mTm n2 c i = Int32.toInt64 (mSb 0 1 n2 (i - c)) := if_neg hic
            have eq_ : mTq n2 c i = Int32.toInt64 (mSb 1 0 n2 (i - c)) := if_neg hic
            refine ev_iload (pc' := 122) dX8_between_120 rfl rfl ?_
            refine ev_iload (pc' := 124) dX8_between_122 rfl rfl ?_
            refine ev_icmp_gt (tgt := 326) (pc' := 127) dX8_between_124 rfl rfl (fun h => absurd h (mvc_le (by omega) (by omega))) (fun _ => ?_)
            refine ev_iload (pc' := 129) dX8_between_127 rfl rfl ?_
            refine ev_if_ge (tgt := 145) (pc' := 132) dX8_between_129 rfl rfl (fun _ => ?_) (fun h => absurd (mvc_ge hic (by omega) (by omega)) h)
            refine ev_aload_n (pc' := 146) (i := 0) dX8_between_145 rfl rfl rfl ?_
            refine ev_getR (pc' := 149) fo_X8_106 dX8_between_146 rfl hs_115 rfl rf_115_43 ?_
            refine ev_iload (pc' := 151) dX8_between_149 rfl rfl ?_
            refine ev_eqi (w := nI (i - c)) (mvc_ps hic (by omega) (by omega)) ?_
            refine ev_iald (pc' := 152) (j := i - c) (v := mSb 0 1 n2 (i - c)) dX8_between_151 rfl hs_146 rfl (by omega) (Nat.le_of_ble_eq_true rfl) (hX1 _ (by omega)) ?_
            refine ev_i2l (pc' := 153) (v := Int32.toInt64 (mSb 0 1 n2 (i - c))) dX8_between_152 rfl rfl ?_
            rw [← em]
            refine ev_lstore (pc' := 155) (lv' := [some (.ref 115), some (.int (nI j19)), some (.int (nI j22)), some (.int (nI n2)), some (.int 0), some (.int 0), some (.int 0), some (.int 1), some (.int (nI c)), some (.int s1), some (.int s2), some (.int s3), some (.int s4), some (.int s5), some (.int (nI i - nI c)), some (.long (mTm n2 c i)), none, none, none, none]) dX8_between_153 rfl (Nat.le_of_ble_eq_true rfl) rfl rfl ?_
            refine ev_iload (pc' := 157) dX8_between_155 rfl rfl ?_
            refine ev_if_ge (tgt := 172) (pc' := 160) dX8_between_157 rfl rfl (fun _ => ?_) (fun h => absurd (mvc_ge hic (by omega) (by omega)) h)
            refine ev_aload_n (pc' := 173) (i := 0) dX8_between_172 rfl rfl rfl ?_
            refine ev_getR (pc' := 176) fo_X8_109 dX8_between_173 rfl hs_115 rfl rf_115_44 ?_
            refine ev_iload (pc' := 178) dX8_between_176 rfl rfl ?_
            refine ev_eqi (w := nI (i - c)) (mvc_ps hic (by omega) (by omega)) ?_
            refine ev_iald (pc' := 179) (j := i - c) (v := mSb 1 0 n2 (i - c)) dX8_between_178 rfl hs_147 rfl (by omega) (Nat.le_of_ble_eq_true rfl) (hY1 _ (by omega)) ?_
            refine ev_i2l (pc' := 180) (v := Int32.toInt64 (mSb 1 0 n2 (i - c))) dX8_between_179 rfl rfl ?_
            rw [← eq_]
            refine ev_lstore (pc' := 182) (lv' := [some (.ref 115), some (.int (nI j19)), some (.int (nI j22)), some (.int (nI n2)), some (.int 0), some (.int 0), some (.int 0), some (.int 1), some (.int (nI c)), some (.int s1), some (.int s2), some (.int s3), some (.int s4), some (.int s5), some (.int (nI i - nI c)), some (.long (mTm n2 c i)), none, some (.long (mTq n2 c i)), none, none]) dX8_between_180 rfl (Nat.le_of_ble_eq_true rfl) rfl rfl ?_
            refine ev_iconst (pc' := 183) (v := 0) dX8_between_182 rfl ki_0 ?_
            refine ev_istore (pc' := 185) (lv' := [some (.ref 115), some (.int (nI j19)), some (.int (nI j22)), some (.int (nI n2)), some (.int 0), some (.int 0), some (.int 0), some (.int 1), some (.int (nI c)), some (.int s1), some (.int s2), some (.int s3), some (.int s4), some (.int s5), some (.int (nI i - nI c)), some (.long (mTm n2 c i)), none, some (.long (mTq n2 c i)), none, some (.int 0)]) dX8_between_183 rfl (Nat.le_of_ble_eq_true rfl) rfl rfl ?_
            suffices lt : ∀ (d k : Nat), k + d = 16 → EV g yX8_between cX8_between 20 (some .int) rX8_between (ma_ZM g rX8_between Post) 185 [some (.ref 115), some (.int (nI j19)), some (.int (nI j22)), some (.int (nI n2)), some (.int 0), some (.int 0), some (.int 0), some (.int 1), some (.int (nI c)), some (.int s1), some (.int s2), some (.int s3), some (.int s4), some (.int s5), some (.int (nI i - nI c)), some (.long (mTm n2 c i)), none, some (.long (mTq n2 c i)), none, some (.int (nI k))] [] HS JJ (ma_up KK 120 (mMf (JJ 133) (JJ 134) (mTm n2 c i) (mTq n2 c i) (KK 120) k)) RF 146 0 0 by
              refine ev_memL (fun x hx => ?_)
              have hx : x = ma_up KK 120 (mMf (JJ 133) (JJ 134) (mTm n2 c i) (mTq n2 c i) (KK 120) 0) := by rw [hx, mMf_0, ma_up_self]
              subst hx
              exact lt 16 0 rfl
            intro d5
            induction d5 with
            | zero =>
              intro k hk
              obtain rfl : k = 16 := by omega
              refine ev_iload (pc' := 187) dX8_between_185 rfl rfl ?_
              refine ev_bipush (pc' := 189) (v := 16) dX8_between_187 rfl kb_16 ?_
              refine ev_icmp_ge (tgt := 228) (pc' := 192) dX8_between_189 rfl rfl (fun _ => ?_) (fun h => absurd (nx_le (a := 16) (b := 16) (by omega) (by omega)) h)
              refine ev_aload_n (pc' := 229) (i := 0) dX8_between_228 rfl rfl rfl ?_
              refine ev_getR (pc' := 232) fo_X8_26 dX8_between_229 rfl hs_115 rfl rf_115_8 ?_
              refine ev_callS (pc' := 235) (rm' := rX8_worthOf) (av := [.ref 120]) (rest := []) co_X8_173 cs_X8_worthOf dX8_between_232 rfl rfl rfl (Nat.le_of_ble_eq_true rfl) ⟨(Nat.le_of_ble_eq_true rfl), (Nat.le_of_ble_eq_true rfl)⟩ ⟨(Nat.le_of_ble_eq_true rfl), (Nat.le_of_ble_eq_true rfl)⟩ ?_
              refine t_X8_worthOf 120 hs_120 ?_
              refine ev_callS (pc' := 238) (rm' := rX8_sign) (av := [.long (mW ((ma_up KK 120 (mMf (JJ 133) (JJ 134) (mTm n2 c i) (mTq n2 c i) (KK 120) 16)) 120))]) (rest := []) co_X8_156 cs_X8_sign dX8_between_235 rfl rfl rfl (Nat.le_of_ble_eq_true rfl) ⟨(Nat.le_of_ble_eq_true rfl), (Nat.le_of_ble_eq_true rfl)⟩ ⟨(Nat.le_of_ble_eq_true rfl), (Nat.le_of_ble_eq_true rfl)⟩ ?_
              refine t_X8_sign (mW ((ma_up KK 120 (mMf (JJ 133) (JJ 134) (mTm n2 c i) (mTq n2 c i) (KK 120) 16)) 120))  ?_
              refine ev_topi (fun sd hz => ?_)
              have hz : sd = mSg (mW (mMf (JJ 133) (JJ 134) (mTm n2 c i) (mTq n2 c i) (KK 120) 16)) := hz
              have hsd : sd = mSg (mW (mMx (fun k => I 123 (16 * j19 + k)) (fun k => I 123 (16 * j22 + k)) (mTm n2 c i) (mTq n2 c i))) := by rw [hz, mW_congr (mMf_16 _ _ _ hA hB)]
              refine ev_istore (pc' := 240) (lv' := [some (.ref 115), some (.int (nI j19)), some (.int (nI j22)), some (.int (nI n2)), some (.int 0), some (.int 0), some (.int 0), some (.int 1), some (.int (nI c)), some (.int s1), some (.int s2), some (.int s3), some (.int s4), some (.int s5), some (.int (nI i - nI c)), some (.long (mTm n2 c i)), none, some (.long (mTq n2 c i)), none, some (.int sd)]) dX8_between_238 rfl (Nat.le_of_ble_eq_true rfl) rfl rfl ?_
              refine ev_iload (pc' := 242) dX8_between_240 rfl rfl ?_
              refine ev_if_ne (tgt := 248) (pc' := 245) dX8_between_242 rfl rfl (fun c45 => ?_) (fun c45 => ?_)
              · refine ev_aload_n (pc' := 249) (i := 0) dX8_between_248 rfl rfl rfl ?_
                refine ev_callV (pc' := 252) (rm' := rX8_layFour) (b := 115) (av := []) (rest := []) co_X8_188 ci_X8_layFour cv_X8_layFour dX8_between_249 rfl hs_115 hb_X8 rfl rfl (Nat.le_of_ble_eq_true rfl) ⟨(Nat.le_of_ble_eq_true rfl), (Nat.le_of_ble_eq_true rfl)⟩ ⟨(Nat.le_of_ble_eq_true rfl), (Nat.le_of_ble_eq_true rfl)⟩ ?_
                refine f_X8_layFour (fun J9 f1 f2 f3 => ?_)
                have f1 : J9 115 9 = mFA (mMf (JJ 133) (JJ 134) (mTm n2 c i) (mTq n2 c i) (KK 120) 16) := f1
                rw [mFA_congr (mMf_16 _ _ _ hA hB)] at f1
                refine ev_iload (pc' := 254) dX8_between_252 rfl rfl ?_
                refine ev_iload (pc' := 256) dX8_between_254 rfl rfl ?_
                suffices K48 : ∀ x47 : Int32, x47 = (if (¬ s4 = 0) ∧ (¬ sd = s4) then (1 : Int32) else 0) → EV g yX8_between cX8_between 20 (some .int) rX8_between (ma_ZM g rX8_between Post) 271 [some (.ref 115), some (.int (nI j19)), some (.int (nI j22)), some (.int (nI n2)), some (.int 0), some (.int 0), some (.int 0), some (.int 1), some (.int (nI c)), some (.int s1), some (.int s2), some (.int s3), some (.int s4), some (.int s5), some (.int (nI i - nI c)), some (.long (mTm n2 c i)), none, some (.long (mTq n2 c i)), none, some (.int sd)] [.int x47, .int s5] HS J9 (ma_up KK 120 (mMf (JJ 133) (JJ 134) (mTm n2 c i) (mTq n2 c i) (KK 120) 16)) RF 146 0 0 by
                  refine ev_if_eq (tgt := 270) (pc' := 259) dX8_between_256 rfl rfl (fun c49 => ?_) (fun c49 => ?_)
                  · refine ev_iconst (pc' := 271) (v := 0) dX8_between_270 rfl ki_0 ?_
                    exact K48 _ (if_neg (fun h => (not_not_intro c49) h.1)).symm
                  · refine ev_iload (pc' := 261) dX8_between_259 rfl rfl ?_
                    refine ev_iload (pc' := 263) dX8_between_261 rfl rfl ?_
                    refine ev_icmp_eq (tgt := 270) (pc' := 266) dX8_between_263 rfl rfl (fun c50 => ?_) (fun c50 => ?_)
                    · refine ev_iconst (pc' := 271) (v := 0) dX8_between_270 rfl ki_0 ?_
                      exact K48 _ (if_neg (fun h => (not_not_intro c50) h.2)).symm
                    · refine ev_iconst (pc' := 267) (v := 1) dX8_between_266 rfl ki_1 ?_
                      refine ev_goto (tgt := 271) dX8_between_267 rfl ?_
                      exact K48 _ (if_pos (⟨c49, c50⟩)).symm
                intro x47 hx47
                subst hx47
                refine ev_iadd (pc' := 272) (v := s5 + (if (¬ s4 = 0) ∧ (¬ sd = s4) then (1 : Int32) else 0)) dX8_between_271 rfl rfl ?_
                refine ev_istore (pc' := 274) (lv' := [some (.ref 115), some (.int (nI j19)), some (.int (nI j22)), some (.int (nI n2)), some (.int 0), some (.int 0), some (.int 0), some (.int 1), some (.int (nI c)), some (.int s1), some (.int s2), some (.int s3), some (.int s4), some (.int (s5 + (if (¬ s4 = 0) ∧ (¬ sd = s4) then (1 : Int32) else 0))), some (.int (nI i - nI c)), some (.long (mTm n2 c i)), none, some (.long (mTq n2 c i)), none, some (.int sd)]) dX8_between_272 rfl (Nat.le_of_ble_eq_true rfl) rfl rfl ?_
                refine ev_iload (pc' := 276) dX8_between_274 rfl rfl ?_
                refine ev_istore (pc' := 278) (lv' := [some (.ref 115), some (.int (nI j19)), some (.int (nI j22)), some (.int (nI n2)), some (.int 0), some (.int 0), some (.int 0), some (.int 1), some (.int (nI c)), some (.int s1), some (.int s2), some (.int s3), some (.int sd), some (.int (s5 + (if (¬ s4 = 0) ∧ (¬ sd = s4) then (1 : Int32) else 0))), some (.int (nI i - nI c)), some (.long (mTm n2 c i)), none, some (.long (mTq n2 c i)), none, some (.int sd)]) dX8_between_276 rfl (Nat.le_of_ble_eq_true rfl) rfl rfl ?_
                refine ev_aload_n (pc' := 279) (i := 0) dX8_between_278 rfl rfl rfl ?_
                refine ev_getI (pc' := 282) (v := (J9 115) 9) fo_X8_160 dX8_between_279 rfl hs_115 rfl rfl ?_
                refine ev_iload (pc' := 284) dX8_between_282 rfl rfl ?_
                refine ev_icmp_eq (tgt := 320) (pc' := 287) dX8_between_284 rfl rfl (fun c51 => ?_) (fun c51 => ?_)
                · refine ev_iinc (pc' := 323) (v := (nI i - nI c) + 1) (lv' := [some (.ref 115), some (.int (nI j19)), some (.int (nI j22)), some (.int (nI n2)), some (.int 0), some (.int 0), some (.int 0), some (.int 1), some (.int (nI c)), some (.int s1), some (.int s2), some (.int s3), some (.int sd), some (.int (s5 + (if (¬ s4 = 0) ∧ (¬ sd = s4) then (1 : Int32) else 0))), some (.int ((nI i - nI c) + 1)), some (.long (mTm n2 c i)), none, some (.long (mTq n2 c i)), none, some (.int sd)]) dX8_between_320 rfl rfl rfl (Nat.le_of_ble_eq_true rfl) rfl rfl ?_
                  refine ev_goto (tgt := 120) dX8_between_323 rfl ?_
                  refine ev_lvw (lv' := [some (.ref 115), some (.int (nI j19)), some (.int (nI j22)), some (.int (nI n2)), some (.int 0), some (.int 0), some (.int 0), some (.int 1), some (.int (nI c)), some (.int s1), some (.int s2), some (.int s3), some (.int sd), some (.int (s5 + (if (¬ s4 = 0) ∧ (¬ sd = s4) then (1 : Int32) else 0))), some (.int ((nI i - nI c) + 1)), none, none, none, none, none]) ⟨rfl, ⟨rfl, ⟨rfl, ⟨rfl, ⟨rfl, ⟨rfl, ⟨rfl, ⟨rfl, ⟨rfl, ⟨rfl, ⟨rfl, ⟨rfl, ⟨rfl, ⟨rfl, ⟨rfl, trivial⟩⟩⟩⟩⟩⟩⟩⟩⟩⟩⟩⟩⟩⟩⟩ ?_
                  rw [mvc_s]
                  have c1' := c51
                  rw [f1] at c1'
                  exact ih (i + 1) _ _ _ _ _ _ _ (by omega) (by show _ = mBs _ _ (mBt _ _ _ _ _); rw [← hs, ← hsd]; unfold mBs; rw [if_neg c45]; dsimp only; rw [if_pos c1', if_pos c1', if_pos c1']) ((hJ.trans f3).le (fun a h => by simp only [List.mem_cons, List.not_mem_nil, or_false, List.cons_append, List.nil_append] at h ⊢; omega) (fun a h => by simp only [List.mem_cons, List.not_mem_nil, or_false, List.cons_append, List.nil_append] at h ⊢; omega)) (mSl.up hK List.mem_cons_self)
                · refine ev_iload (pc' := 289) dX8_between_287 rfl rfl ?_
                  refine ev_bipush (pc' := 291) (v := 9) dX8_between_289 rfl kb_9 ?_
                  suffices K54 : ∀ x53 : Int32, x53 = (if 9 ≤ s2 then s1 else ((10 * s1) + ((J9 115) 9))) → EV g yX8_between cX8_between 20 (some .int) rX8_between (ma_ZM g rX8_between Post) 309 [some (.ref 115), some (.int (nI j19)), some (.int (nI j22)), some (.int (nI n2)), some (.int 0), some (.int 0), some (.int 0), some (.int 1), some (.int (nI c)), some (.int s1), some (.int s2), some (.int s3), some (.int sd), some (.int (s5 + (if (¬ s4 = 0) ∧ (¬ sd = s4) then (1 : Int32) else 0))), some (.int (nI i - nI c)), some (.long (mTm n2 c i)), none, some (.long (mTq n2 c i)), none, some (.int sd)] [.int x53] HS J9 (ma_up KK 120 (mMf (JJ 133) (JJ 134) (mTm n2 c i) (mTq n2 c i) (KK 120) 16)) RF 146 0 0 by
                    refine ev_icmp_ge (tgt := 307) (pc' := 294) dX8_between_291 rfl rfl (fun c55 => ?_) (fun c55 => ?_)
                    · refine ev_iload (pc' := 309) dX8_between_307 rfl rfl ?_
                      exact K54 _ (by rw [if_pos c55])
                    · refine ev_bipush (pc' := 296) (v := 10) dX8_between_294 rfl kb_10 ?_
                      refine ev_iload (pc' := 298) dX8_between_296 rfl rfl ?_
                      refine ev_imul (pc' := 299) (v := 10 * s1) dX8_between_298 rfl rfl ?_
                      refine ev_aload_n (pc' := 300) (i := 0) dX8_between_299 rfl rfl rfl ?_
                      refine ev_getI (pc' := 303) (v := (J9 115) 9) fo_X8_160 dX8_between_300 rfl hs_115 rfl rfl ?_
                      refine ev_iadd (pc' := 304) (v := (10 * s1) + ((J9 115) 9)) dX8_between_303 rfl rfl ?_
                      refine ev_goto (tgt := 309) dX8_between_304 rfl ?_
                      exact K54 _ (by rw [if_neg c55])
                  intro x53 hx53
                  subst hx53
                  refine ev_istore (pc' := 311) (lv' := [some (.ref 115), some (.int (nI j19)), some (.int (nI j22)), some (.int (nI n2)), some (.int 0), some (.int 0), some (.int 0), some (.int 1), some (.int (nI c)), some (.int (if 9 ≤ s2 then s1 else ((10 * s1) + ((J9 115) 9)))), some (.int s2), some (.int s3), some (.int sd), some (.int (s5 + (if (¬ s4 = 0) ∧ (¬ sd = s4) then (1 : Int32) else 0))), some (.int (nI i - nI c)), some (.long (mTm n2 c i)), none, some (.long (mTq n2 c i)), none, some (.int sd)]) dX8_between_309 rfl (Nat.le_of_ble_eq_true rfl) rfl rfl ?_
                  refine ev_iinc (pc' := 314) (v := s2 + 1) (lv' := [some (.ref 115), some (.int (nI j19)), some (.int (nI j22)), some (.int (nI n2)), some (.int 0), some (.int 0), some (.int 0), some (.int 1), some (.int (nI c)), some (.int (if 9 ≤ s2 then s1 else ((10 * s1) + ((J9 115) 9)))), some (.int (s2 + 1)), some (.int s3), some (.int sd), some (.int (s5 + (if (¬ s4 = 0) ∧ (¬ sd = s4) then (1 : Int32) else 0))), some (.int (nI i - nI c)), some (.long (mTm n2 c i)), none, some (.long (mTq n2 c i)), none, some (.int sd)]) dX8_between_311 rfl rfl rfl (Nat.le_of_ble_eq_true rfl) rfl rfl ?_
                  refine ev_aload_n (pc' := 315) (i := 0) dX8_between_314 rfl rfl rfl ?_
                  refine ev_getI (pc' := 318) (v := (J9 115) 9) fo_X8_160 dX8_between_315 rfl hs_115 rfl rfl ?_
                  refine ev_istore (pc' := 320) (lv' := [some (.ref 115), some (.int (nI j19)), some (.int (nI j22)), some (.int (nI n2)), some (.int 0), some (.int 0), some (.int 0), some (.int 1), some (.int (nI c)), some (.int (if 9 ≤ s2 then s1 else ((10 * s1) + ((J9 115) 9)))), some (.int (s2 + 1)), some (.int ((J9 115) 9)), some (.int sd), some (.int (s5 + (if (¬ s4 = 0) ∧ (¬ sd = s4) then (1 : Int32) else 0))), some (.int (nI i - nI c)), some (.long (mTm n2 c i)), none, some (.long (mTq n2 c i)), none, some (.int sd)]) dX8_between_318 rfl (Nat.le_of_ble_eq_true rfl) rfl rfl ?_
                  refine ev_iinc (pc' := 323) (v := (nI i - nI c) + 1) (lv' := [some (.ref 115), some (.int (nI j19)), some (.int (nI j22)), some (.int (nI n2)), some (.int 0), some (.int 0), some (.int 0), some (.int 1), some (.int (nI c)), some (.int (if 9 ≤ s2 then s1 else ((10 * s1) + ((J9 115) 9)))), some (.int (s2 + 1)), some (.int ((J9 115) 9)), some (.int sd), some (.int (s5 + (if (¬ s4 = 0) ∧ (¬ sd = s4) then (1 : Int32) else 0))), some (.int ((nI i - nI c) + 1)), some (.long (mTm n2 c i)), none, some (.long (mTq n2 c i)), none, some (.int sd)]) dX8_between_320 rfl rfl rfl (Nat.le_of_ble_eq_true rfl) rfl rfl ?_
                  refine ev_goto (tgt := 120) dX8_between_323 rfl ?_
                  refine ev_lvw (lv' := [some (.ref 115), some (.int (nI j19)), some (.int (nI j22)), some (.int (nI n2)), some (.int 0), some (.int 0), some (.int 0), some (.int 1), some (.int (nI c)), some (.int (if 9 ≤ s2 then s1 else ((10 * s1) + ((J9 115) 9)))), some (.int (s2 + 1)), some (.int ((J9 115) 9)), some (.int sd), some (.int (s5 + (if (¬ s4 = 0) ∧ (¬ sd = s4) then (1 : Int32) else 0))), some (.int ((nI i - nI c) + 1)), none, none, none, none, none]) ⟨rfl, ⟨rfl, ⟨rfl, ⟨rfl, ⟨rfl, ⟨rfl, ⟨rfl, ⟨rfl, ⟨rfl, ⟨rfl, ⟨rfl, ⟨rfl, ⟨rfl, ⟨rfl, ⟨rfl, trivial⟩⟩⟩⟩⟩⟩⟩⟩⟩⟩⟩⟩⟩⟩⟩ ?_
                  rw [mvc_s]
                  have c1' := c51
                  rw [f1] at c1'
                  exact ih (i + 1) _ _ _ _ _ _ _ (by omega) (by show _ = mBs _ _ (mBt _ _ _ _ _); rw [← hs, ← hsd, f1]; unfold mBs; rw [if_neg c45]; dsimp only; rw [if_neg c1', if_neg c1', if_neg c1']) ((hJ.trans f3).le (fun a h => by simp only [List.mem_cons, List.not_mem_nil, or_false, List.cons_append, List.nil_append] at h ⊢; omega) (fun a h => by simp only [List.mem_cons, List.not_mem_nil, or_false, List.cons_append, List.nil_append] at h ⊢; omega)) (mSl.up hK List.mem_cons_self)
              · refine ev_goto (tgt := 320) dX8_between_245 rfl ?_
                refine ev_iinc (pc' := 323) (v := (nI i - nI c) + 1) (lv' := [some (.ref 115), some (.int (nI j19)), some (.int (nI j22)), some (.int (nI n2)), some (.int 0), some (.int 0), some (.int 0), some (.int 1), some (.int (nI c)), some (.int s1), some (.int s2), some (.int s3), some (.int s4), some (.int s5), some (.int ((nI i - nI c) + 1)), some (.long (mTm n2 c i)), none, some (.long (mTq n2 c i)), none, some (.int sd)]) dX8_between_320 rfl rfl rfl (Nat.le_of_ble_eq_true rfl) rfl rfl ?_
                refine ev_goto (tgt := 120) dX8_between_323 rfl ?_
                refine ev_lvw (lv' := [some (.ref 115), some (.int (nI j19)), some (.int (nI j22)), some (.int (nI n2)), some (.int 0), some (.int 0), some (.int 0), some (.int 1), some (.int (nI c)), some (.int s1), some (.int s2), some (.int s3), some (.int s4), some (.int s5), some (.int ((nI i - nI c) + 1)), none, none, none, none, none]) ⟨rfl, ⟨rfl, ⟨rfl, ⟨rfl, ⟨rfl, ⟨rfl, ⟨rfl, ⟨rfl, ⟨rfl, ⟨rfl, ⟨rfl, ⟨rfl, ⟨rfl, ⟨rfl, ⟨rfl, trivial⟩⟩⟩⟩⟩⟩⟩⟩⟩⟩⟩⟩⟩⟩⟩ ?_
                rw [mvc_s]
                exact ih (i + 1) _ _ _ _ _ _ _ (by omega) (by show _ = mBs _ _ (mBt _ _ _ _ _); rw [← hs, ← hsd]; exact (if_pos c45).symm) hJ (mSl.up hK List.mem_cons_self)
            | succ d5 ih5 =>
              intro k hk
              refine ev_iload (pc' := 187) dX8_between_185 rfl rfl ?_
              refine ev_bipush (pc' := 189) (v := 16) dX8_between_187 rfl kb_16 ?_
              refine ev_icmp_ge (tgt := 228) (pc' := 192) dX8_between_189 rfl rfl (fun h => absurd h (nx_nle (a := 16) (b := k) (by omega) (by omega))) (fun _ => ?_)
              refine ev_aload_n (pc' := 193) (i := 0) dX8_between_192 rfl rfl rfl ?_
              refine ev_getR (pc' := 196) fo_X8_26 dX8_between_193 rfl hs_115 rfl rf_115_8 ?_
              refine ev_iload (pc' := 198) dX8_between_196 rfl rfl ?_
              refine ev_aload_n (pc' := 199) (i := 0) dX8_between_198 rfl rfl rfl ?_
              refine ev_getR (pc' := 202) fo_X8_67 dX8_between_199 rfl hs_115 rfl rf_115_24 ?_
              refine ev_iload (pc' := 204) dX8_between_202 rfl rfl ?_
              refine ev_iald (pc' := 205) (j := k) (v := (JJ 133) k) dX8_between_204 rfl hs_133 rfl (by omega) (Nat.le_of_ble_eq_true rfl) rfl ?_
              refine ev_i2l (pc' := 206) (v := Int32.toInt64 ((JJ 133) k)) dX8_between_205 rfl rfl ?_
              refine ev_lload (pc' := 208) dX8_between_206 rfl rfl ?_
              refine ev_lmul (pc' := 209) (v := (Int32.toInt64 ((JJ 133) k)) * (mTm n2 c i)) dX8_between_208 rfl rfl ?_
              refine ev_aload_n (pc' := 210) (i := 0) dX8_between_209 rfl rfl rfl ?_
              refine ev_getR (pc' := 213) fo_X8_70 dX8_between_210 rfl hs_115 rfl rf_115_25 ?_
              refine ev_iload (pc' := 215) dX8_between_213 rfl rfl ?_
              refine ev_iald (pc' := 216) (j := k) (v := (JJ 134) k) dX8_between_215 rfl hs_134 rfl (by omega) (Nat.le_of_ble_eq_true rfl) rfl ?_
              refine ev_i2l (pc' := 217) (v := Int32.toInt64 ((JJ 134) k)) dX8_between_216 rfl rfl ?_
              refine ev_lload (pc' := 219) dX8_between_217 rfl rfl ?_
              refine ev_lmul (pc' := 220) (v := (Int32.toInt64 ((JJ 134) k)) * (mTq n2 c i)) dX8_between_219 rfl rfl ?_
              refine ev_ladd (pc' := 221) (v := ((Int32.toInt64 ((JJ 133) k)) * (mTm n2 c i)) + ((Int32.toInt64 ((JJ 134) k)) * (mTq n2 c i))) dX8_between_220 rfl rfl ?_
              refine ev_last (pc' := 222) (j := k) (L' := (ma_up KK 120 (ma_up (mMf (JJ 133) (JJ 134) (mTm n2 c i) (mTq n2 c i) (KK 120) k) k (((Int32.toInt64 ((JJ 133) k)) * (mTm n2 c i)) + ((Int32.toInt64 ((JJ 134) k)) * (mTq n2 c i)))))) dX8_between_221 rfl hs_120 rfl (by omega) (Nat.le_of_ble_eq_true rfl) (ma_up_up _ _ _ _) ?_
              refine ev_iinc (pc' := 225) (v := nI (k + 1)) (lv' := [some (.ref 115), some (.int (nI j19)), some (.int (nI j22)), some (.int (nI n2)), some (.int 0), some (.int 0), some (.int 0), some (.int 1), some (.int (nI c)), some (.int s1), some (.int s2), some (.int s3), some (.int s4), some (.int s5), some (.int (nI i - nI c)), some (.long (mTm n2 c i)), none, some (.long (mTq n2 c i)), none, some (.int (nI (k + 1)))]) dX8_between_222 rfl rfl (nI_add k 1) (Nat.le_of_ble_eq_true rfl) rfl rfl ?_
              refine ev_goto (tgt := 185) dX8_between_225 rfl ?_
              refine ev_memL (fun x hx => ?_)
              have hx := hx.trans (congrArg (ma_up KK 120) (mMf_s (JJ 133) (JJ 134) (mTm n2 c i) (mTq n2 c i) (KK 120) k))
              subst hx
              exact ih5 (k + 1) (by omega)
      · skip
        refine ev_istore (pc' := 36) (lv' := [some (.ref 115), some (.int (nI j19)), some (.int (nI j22)), some (.int (nI n2)), some (.int 0), some (.int 1), none, none, none, none, none, none, none, none, none, none, none, none, none, none]) dX8_between_34 rfl (Nat.le_of_ble_eq_true rfl) rfl rfl ?_
        refine ev_aload_n (pc' := 37) (i := 0) dX8_between_36 rfl rfl rfl ?_
        refine ev_getI (pc' := 40) (v := (J 115) 39) fo_X8_295 dX8_between_37 rfl hs_115 rfl rfl ?_
        suffices K58 : ∀ x57 : Int32, x57 = (if ¬ ((J 115) 39) = 0 then 0 else ((J 115) 38)) → EV g yX8_between cX8_between 20 (some .int) rX8_between (ma_ZM g rX8_between Post) 56 [some (.ref 115), some (.int (nI j19)), some (.int (nI j22)), some (.int (nI n2)), some (.int 0), some (.int 1), none, none, none, none, none, none, none, none, none, none, none, none, none, none] [.int x57] HS J K RF 146 0 0 by
          refine ev_if_ne (tgt := 48) (pc' := 43) dX8_between_40 rfl rfl (fun c59 => ?_) (fun c59 => ?_)
          · refine ev_iconst (pc' := 49) (v := 0) dX8_between_48 rfl ki_0 ?_
            refine ev_goto (tgt := 56) dX8_between_49 rfl ?_
            exact K58 _ (by rw [if_pos c59])
          · refine ev_iload (pc' := 45) dX8_between_43 rfl rfl ?_
            refine ev_if_ne (tgt := 52) (pc' := 48) dX8_between_45 rfl rfl (fun _ => ?_) (fun h => absurd h (by decide))
            refine ev_aload_n (pc' := 53) (i := 0) dX8_between_52 rfl rfl rfl ?_
            refine ev_getI (pc' := 56) (v := (J 115) 38) fo_X8_298 dX8_between_53 rfl hs_115 rfl rfl ?_
            exact K58 _ (by rw [if_neg (not_not_intro c59)])
        intro x57 hx57
        subst hx57
        refine ev_istore (pc' := 58) (lv' := [some (.ref 115), some (.int (nI j19)), some (.int (nI j22)), some (.int (nI n2)), some (.int 0), some (.int 1), some (.int (if ¬ ((J 115) 39) = 0 then 0 else ((J 115) 38))), none, none, none, none, none, none, none, none, none, none, none, none, none]) dX8_between_56 rfl (Nat.le_of_ble_eq_true rfl) rfl rfl ?_
        refine ev_iload (pc' := 60) dX8_between_58 rfl rfl ?_
        refine ev_if_eq (tgt := 84) (pc' := 63) dX8_between_60 rfl rfl (fun h => absurd h (by decide)) (fun _ => ?_)
        refine ev_aload_n (pc' := 64) (i := 0) dX8_between_63 rfl rfl rfl ?_
        refine ev_getI (pc' := 67) (v := (J 115) 39) fo_X8_295 dX8_between_64 rfl hs_115 rfl rfl ?_
        suffices K62 : ∀ x61 : Int32, x61 = (if ((((J 115) 39) = 0) ∧ (¬ ((J 115) 31) ≤ 0)) ∨ ((¬ ((J 115) 39) = 0) ∧ ((0 < ((J 115) 38)) ∨ (¬ ((J 115) 31) ≤ 0))) then (1 : Int32) else 0) → EV g yX8_between cX8_between 20 (some .int) rX8_between (ma_ZM g rX8_between Post) 89 [some (.ref 115), some (.int (nI j19)), some (.int (nI j22)), some (.int (nI n2)), some (.int 0), some (.int 1), some (.int (if ¬ ((J 115) 39) = 0 then 0 else ((J 115) 38))), none, none, none, none, none, none, none, none, none, none, none, none, none] [.int x61] HS J K RF 146 0 0 by
          refine ev_if_eq (tgt := 77) (pc' := 70) dX8_between_67 rfl rfl (fun c63 => ?_) (fun c63 => ?_)
          · refine ev_aload_n (pc' := 78) (i := 0) dX8_between_77 rfl rfl rfl ?_
            refine ev_getI (pc' := 81) (v := (J 115) 31) fo_X8_277 dX8_between_78 rfl hs_115 rfl rfl ?_
            refine ev_if_le (tgt := 88) (pc' := 84) dX8_between_81 rfl rfl (fun c64 => ?_) (fun c64 => ?_)
            · refine ev_iconst (pc' := 89) (v := 0) dX8_between_88 rfl ki_0 ?_
              exact K62 _ (if_neg (not_or.mpr ⟨fun h => (not_not_intro c64) h.2, fun h => (not_not_intro c63) h.1⟩)).symm
            · refine ev_iconst (pc' := 85) (v := 1) dX8_between_84 rfl ki_1 ?_
              refine ev_goto (tgt := 89) dX8_between_85 rfl ?_
              exact K62 _ (if_pos (Or.inl ⟨c63, c64⟩)).symm
          · refine ev_aload_n (pc' := 71) (i := 0) dX8_between_70 rfl rfl rfl ?_
            refine ev_getI (pc' := 74) (v := (J 115) 38) fo_X8_298 dX8_between_71 rfl hs_115 rfl rfl ?_
            refine ev_if_gt (tgt := 84) (pc' := 77) dX8_between_74 rfl rfl (fun c65 => ?_) (fun c65 => ?_)
            · refine ev_iconst (pc' := 85) (v := 1) dX8_between_84 rfl ki_1 ?_
              refine ev_goto (tgt := 89) dX8_between_85 rfl ?_
              exact K62 _ (if_pos (Or.inr ⟨c63, Or.inl c65⟩)).symm
            · refine ev_aload_n (pc' := 78) (i := 0) dX8_between_77 rfl rfl rfl ?_
              refine ev_getI (pc' := 81) (v := (J 115) 31) fo_X8_277 dX8_between_78 rfl hs_115 rfl rfl ?_
              refine ev_if_le (tgt := 88) (pc' := 84) dX8_between_81 rfl rfl (fun c66 => ?_) (fun c66 => ?_)
              · refine ev_iconst (pc' := 89) (v := 0) dX8_between_88 rfl ki_0 ?_
                exact K62 _ (if_neg (not_or.mpr ⟨fun h => c63 h.1, fun h => (not_or.mpr ⟨c65, (not_not_intro c66)⟩) h.2⟩)).symm
              · refine ev_iconst (pc' := 85) (v := 1) dX8_between_84 rfl ki_1 ?_
                refine ev_goto (tgt := 89) dX8_between_85 rfl ?_
                exact K62 _ (if_pos (Or.inr ⟨c63, Or.inr c66⟩)).symm
        intro x61 hx61
        subst hx61
        refine ev_istore (pc' := 91) (lv' := [some (.ref 115), some (.int (nI j19)), some (.int (nI j22)), some (.int (nI n2)), some (.int 0), some (.int 1), some (.int (if ¬ ((J 115) 39) = 0 then 0 else ((J 115) 38))), some (.int (if ((((J 115) 39) = 0) ∧ (¬ ((J 115) 31) ≤ 0)) ∨ ((¬ ((J 115) 39) = 0) ∧ ((0 < ((J 115) 38)) ∨ (¬ ((J 115) 31) ≤ 0))) then (1 : Int32) else 0)), none, none, none, none, none, none, none, none, none, none, none, none]) dX8_between_89 rfl (Nat.le_of_ble_eq_true rfl) rfl rfl ?_
        refine ev_aload_n (pc' := 92) (i := 0) dX8_between_91 rfl rfl rfl ?_
        refine ev_iload_n (pc' := 93) (i := 3) dX8_between_92 rfl rfl rfl ?_
        refine ev_callV (pc' := 96) (rm' := rX8_layTree) (b := 115) (av := [.int (nI n2)]) (rest := []) co_X8_360 ci_X8_layTree cv_X8_layTree dX8_between_93 rfl hs_115 hb_X8 rfl rfl (Nat.le_of_ble_eq_true rfl) ⟨(Nat.le_of_ble_eq_true rfl), (Nat.le_of_ble_eq_true rfl)⟩ ⟨(Nat.le_of_ble_eq_true rfl), (Nat.le_of_ble_eq_true rfl)⟩ ?_
        obtain ⟨c, hc⟩ : ∃ c, c + 1 = 2 ^ n2 := ⟨2 ^ n2 - 1, by have := Nat.pow_pos (n := n2) (show 0 < 2 by omega); omega⟩
        have hc3 : c < 256 := by have : 2 ^ n2 ≤ 2 ^ 8 := Nat.pow_le_pow_right (by omega) (by omega); omega
        refine t_X8_layTree n2 (by omega) (fun X Y hX hY => ?_)
        refine ev_iconst (pc' := 97) (v := 2) dX8_between_96 rfl ki_2 ?_
        refine ev_isub (pc' := 98) (v := nI c) dX8_between_97 rfl (by rw [← hc]; exact nI_sub2 c) ?_
        refine ev_istore (pc' := 100) (lv' := [some (.ref 115), some (.int (nI j19)), some (.int (nI j22)), some (.int (nI n2)), some (.int 0), some (.int 1), some (.int (if ¬ ((J 115) 39) = 0 then 0 else ((J 115) 38))), some (.int (if ((((J 115) 39) = 0) ∧ (¬ ((J 115) 31) ≤ 0)) ∨ ((¬ ((J 115) 39) = 0) ∧ ((0 < ((J 115) 38)) ∨ (¬ ((J 115) 31) ≤ 0))) then (1 : Int32) else 0)), some (.int (nI c)), none, none, none, none, none, none, none, none, none, none, none]) dX8_between_98 rfl (Nat.le_of_ble_eq_true rfl) rfl rfl ?_
        refine ev_iconst (pc' := 101) (v := 0) dX8_between_100 rfl ki_0 ?_
        refine ev_istore (pc' := 103) (lv' := [some (.ref 115), some (.int (nI j19)), some (.int (nI j22)), some (.int (nI n2)), some (.int 0), some (.int 1), some (.int (if ¬ ((J 115) 39) = 0 then 0 else ((J 115) 38))), some (.int (if ((((J 115) 39) = 0) ∧ (¬ ((J 115) 31) ≤ 0)) ∨ ((¬ ((J 115) 39) = 0) ∧ ((0 < ((J 115) 38)) ∨ (¬ ((J 115) 31) ≤ 0))) then (1 : Int32) else 0)), some (.int (nI c)), some (.int 0), none, none, none, none, none, none, none, none, none, none]) dX8_between_101 rfl (Nat.le_of_ble_eq_true rfl) rfl rfl ?_
        refine ev_iconst (pc' := 104) (v := 0) dX8_between_103 rfl ki_0 ?_
        refine ev_istore (pc' := 106) (lv' := [some (.ref 115), some (.int (nI j19)), some (.int (nI j22)), some (.int (nI n2)), some (.int 0), some (.int 1), some (.int (if ¬ ((J 115) 39) = 0 then 0 else ((J 115) 38))), some (.int (if ((((J 115) 39) = 0) ∧ (¬ ((J 115) 31) ≤ 0)) ∨ ((¬ ((J 115) 39) = 0) ∧ ((0 < ((J 115) 38)) ∨ (¬ ((J 115) 31) ≤ 0))) then (1 : Int32) else 0)), some (.int (nI c)), some (.int 0), some (.int 0), none, none, none, none, none, none, none, none, none]) dX8_between_104 rfl (Nat.le_of_ble_eq_true rfl) rfl rfl ?_
        refine ev_iconst (pc' := 107) (v := (-1)) dX8_between_106 rfl ki_m1 ?_
        refine ev_istore (pc' := 109) (lv' := [some (.ref 115), some (.int (nI j19)), some (.int (nI j22)), some (.int (nI n2)), some (.int 0), some (.int 1), some (.int (if ¬ ((J 115) 39) = 0 then 0 else ((J 115) 38))), some (.int (if ((((J 115) 39) = 0) ∧ (¬ ((J 115) 31) ≤ 0)) ∨ ((¬ ((J 115) 39) = 0) ∧ ((0 < ((J 115) 38)) ∨ (¬ ((J 115) 31) ≤ 0))) then (1 : Int32) else 0)), some (.int (nI c)), some (.int 0), some (.int 0), some (.int (-1)), none, none, none, none, none, none, none, none]) dX8_between_107 rfl (Nat.le_of_ble_eq_true rfl) rfl rfl ?_
        refine ev_iconst (pc' := 110) (v := 0) dX8_between_109 rfl ki_0 ?_
        refine ev_istore (pc' := 112) (lv' := [some (.ref 115), some (.int (nI j19)), some (.int (nI j22)), some (.int (nI n2)), some (.int 0), some (.int 1), some (.int (if ¬ ((J 115) 39) = 0 then 0 else ((J 115) 38))), some (.int (if ((((J 115) 39) = 0) ∧ (¬ ((J 115) 31) ≤ 0)) ∨ ((¬ ((J 115) 39) = 0) ∧ ((0 < ((J 115) 38)) ∨ (¬ ((J 115) 31) ≤ 0))) then (1 : Int32) else 0)), some (.int (nI c)), some (.int 0), some (.int 0), some (.int (-1)), some (.int 0), none, none, none, none, none, none, none]) dX8_between_110 rfl (Nat.le_of_ble_eq_true rfl) rfl rfl ?_
        refine ev_iconst (pc' := 113) (v := 0) dX8_between_112 rfl ki_0 ?_
        refine ev_istore (pc' := 115) (lv' := [some (.ref 115), some (.int (nI j19)), some (.int (nI j22)), some (.int (nI n2)), some (.int 0), some (.int 1), some (.int (if ¬ ((J 115) 39) = 0 then 0 else ((J 115) 38))), some (.int (if ((((J 115) 39) = 0) ∧ (¬ ((J 115) 31) ≤ 0)) ∨ ((¬ ((J 115) 39) = 0) ∧ ((0 < ((J 115) 38)) ∨ (¬ ((J 115) 31) ≤ 0))) then (1 : Int32) else 0)), some (.int (nI c)), some (.int 0), some (.int 0), some (.int (-1)), some (.int 0), some (.int 0), none, none, none, none, none, none]) dX8_between_113 rfl (Nat.le_of_ble_eq_true rfl) rfl rfl ?_
        refine ev_iload (pc' := 117) dX8_between_115 rfl rfl ?_
        refine ev_ineg (pc' := 118) (v := -(nI c)) dX8_between_117 rfl rfl ?_
        refine ev_istore (pc' := 120) (lv' := [some (.ref 115), some (.int (nI j19)), some (.int (nI j22)), some (.int (nI n2)), some (.int 0), some (.int 1), some (.int (if ¬ ((J 115) 39) = 0 then 0 else ((J 115) 38))), some (.int (if ((((J 115) 39) = 0) ∧ (¬ ((J 115) 31) ≤ 0)) ∨ ((¬ ((J 115) 39) = 0) ∧ ((0 < ((J 115) 38)) ∨ (¬ ((J 115) 31) ≤ 0))) then (1 : Int32) else 0)), some (.int (nI c)), some (.int 0), some (.int 0), some (.int (-1)), some (.int 0), some (.int 0), some (.int (-(nI c))), none, none, none, none, none]) dX8_between_118 rfl (Nat.le_of_ble_eq_true rfl) rfl rfl ?_
        suffices lb : ∀ (d i : Nat) (s1 s2 s3 s4 s5 : Int32) (JJ : ma_I) (KK : ma_L), i + d = 2 * c + 1 → (s1, s2, s3, s4, s5) = mBt (fun k => I 123 (16 * j19 + k)) (fun k => I 123 (16 * j22 + k)) n2 c i → mSx [121] [9, 10] (ma_up (ma_up J 146 X) 147 Y) JJ → mSl [120] K KK → EV g yX8_between cX8_between 20 (some .int) rX8_between (ma_ZM g rX8_between Post) 120 [some (.ref 115), some (.int (nI j19)), some (.int (nI j22)), some (.int (nI n2)), some (.int 0), some (.int 1), some (.int (if ¬ ((J 115) 39) = 0 then 0 else ((J 115) 38))), some (.int (if ((((J 115) 39) = 0) ∧ (¬ ((J 115) 31) ≤ 0)) ∨ ((¬ ((J 115) 39) = 0) ∧ ((0 < ((J 115) 38)) ∨ (¬ ((J 115) 31) ≤ 0))) then (1 : Int32) else 0)), some (.int (nI c)), some (.int s1), some (.int s2), some (.int s3), some (.int s4), some (.int s5), some (.int (nI i - nI c)), none, none, none, none, none] [] HS JJ KK RF 146 0 0 by
          rw [mvc_0]
          exact lb (2 * c + 1) 0 _ _ _ _ _ _ _ (by omega) rfl (mSx.rf.le (fun _ h => absurd h List.not_mem_nil) (fun _ h => absurd h List.not_mem_nil)) (mSl.rf.le (fun _ h => absurd h List.not_mem_nil))
        intro d
        induction d with
        | zero =>
          intro i s1 s2 s3 s4 s5 JJ KK hi hs hJ hK
          have hi : i = 2 * c + 1 := by omega
          rw [hi] at hs
          refine ev_iload (pc' := 122) dX8_between_120 rfl rfl ?_
          refine ev_iload (pc' := 124) dX8_between_122 rfl rfl ?_
          refine ev_icmp_gt (tgt := 326) (pc' := 127) dX8_between_124 rfl rfl (fun _ => ?_) (fun h => absurd (mvc_gt hi (by omega)) h)
          refine ev_aload_n (pc' := 327) (i := 0) dX8_between_326 rfl rfl rfl ?_
          refine ev_iload (pc' := 329) dX8_between_327 rfl rfl ?_
          refine ev_putI (pc' := 332) (I' := (ma_up JJ 115 (ma_up (JJ 115) 2 s1))) fo_X8_119 dX8_between_329 rfl hs_115 rfl (fun r hr => by cases hr; rfl) ⟨rfl, rfl⟩ rfl ?_
          refine ev_iload (pc' := 334) dX8_between_332 rfl rfl ?_
          refine ev_if_eq (tgt := 354) (pc' := 337) dX8_between_334 rfl rfl (fun h => absurd h (by decide)) (fun _ => ?_)
          refine ev_iload (pc' := 339) dX8_between_337 rfl rfl ?_
          suffices K69 : ∀ x68 : Int32, x68 = (if ((((J 115) 39) = 0) ∧ (¬ ((J 115) 31) ≤ 0)) ∨ ((¬ ((J 115) 39) = 0) ∧ ((0 < ((J 115) 38)) ∨ (¬ ((J 115) 31) ≤ 0))) then (-6) else (if ¬ s5 = (if ¬ ((J 115) 39) = 0 then 0 else ((J 115) 38)) then (-6) else s1)) → EV g yX8_between cX8_between 20 (some .int) rX8_between (ma_ZM g rX8_between Post) 356 [some (.ref 115), some (.int (nI j19)), some (.int (nI j22)), some (.int (nI n2)), some (.int 0), some (.int 1), some (.int (if ¬ ((J 115) 39) = 0 then 0 else ((J 115) 38))), some (.int (if ((((J 115) 39) = 0) ∧ (¬ ((J 115) 31) ≤ 0)) ∨ ((¬ ((J 115) 39) = 0) ∧ ((0 < ((J 115) 38)) ∨ (¬ ((J 115) 31) ≤ 0))) then (1 : Int32) else 0)), some (.int (nI c)), some (.int s1), some (.int s2), some (.int s3), some (.int s4), some (.int s5), some (.int (nI i - nI c)), none, none, none, none, none] [.int x68] HS (ma_up JJ 115 (ma_up (JJ 115) 2 s1)) KK RF 146 0 0 by
            refine ev_if_ne_b (tgt := 354) (pc' := 342) dX8_between_339 rfl rfl (fun c70 => ?_) (fun c70 => ?_)
            · refine ev_bipush (pc' := 356) (v := (-6)) dX8_between_354 rfl kb_m6 ?_
              exact K69 _ (by rw [if_pos c70])
            · refine ev_iload (pc' := 344) dX8_between_342 rfl rfl ?_
              refine ev_iload (pc' := 346) dX8_between_344 rfl rfl ?_
              refine ev_icmp_ne (tgt := 354) (pc' := 349) dX8_between_346 rfl rfl (fun c71 => ?_) (fun c71 => ?_)
              · refine ev_bipush (pc' := 356) (v := (-6)) dX8_between_354 rfl kb_m6 ?_
                exact K69 _ (by rw [if_neg c70, if_pos c71])
              · refine ev_iload (pc' := 351) dX8_between_349 rfl rfl ?_
                refine ev_goto (tgt := 356) dX8_between_351 rfl ?_
                exact K69 _ (by rw [if_neg c70, if_neg (not_not_intro c71)])
          intro x68 hx68
          subst hx68
          refine ev_iret dX8_between_356 rfl rfl ⟨Nat.le_refl _, Nat.le_refl _⟩ ?_
          exact k5 n2 gn2 hn2 rfl j19 h20 rfl j22 h23 rfl h25 h26 bb m0 s rl tw J K h1 h2 h3 h4 h5 a1 a2 a3 a4 X Y c hc s1 s2 s3 s4 s5 JJ KK hs hJ hK
        | succ d ih =>
          intro i s1 s2 s3 s4 s5 JJ KK hi hs hJ hK
          have hX1 : ∀ j, j ≤ 2 ^ n2 → JJ 146 j = mSb 0 1 n2 j := fun j hj => (congrFun (hJ.1 146 (by decide) (by decide)) j).trans (hX j hj)
          have hY1 : ∀ j, j ≤ 2 ^ n2 → JJ 147 j = mSb 1 0 n2 j := fun j hj => (congrFun (hJ.1 147 (by decide) (by decide)) j).trans (hY j hj)
          have hA : ∀ j, j < 16 → JJ 133 j = (fun k => I 123 (16 * j19 + k)) j := fun j hj => (congrFun (hJ.1 133 (by decide) (by decide)) j).trans (a1 j hj)
          have hB : ∀ j, j < 16 → JJ 134 j = (fun k => I 123 (16 * j22 + k)) j := fun j hj => (congrFun (hJ.1 134 (by decide) (by decide)) j).trans (a2 j hj)
          by_cases hic : i < c
          · have em : mTm n2 c i = Int32.toInt64 (-(mSb 0 1 n2 (c - i))) := if_pos hic
            have eq_ : mTq n2 c i = Int32.toInt64 (mSb 1 0 n2 (c - i)) := if_pos hic
            refine ev_iload (pc' := 122) dX8_between_120 rfl rfl ?_
            refine ev_iload (pc' := 124) dX8_between_122 rfl rfl ?_
            refine ev_icmp_gt (tgt := 326) (pc' := 127) dX8_between_124 rfl rfl (fun h => absurd h (mvc_le (by omega) (by omega))) (fun _ => ?_)
            refine ev_iload (pc' := 129) dX8_between_127 rfl rfl ?_
            refine ev_if_ge (tgt := 145) (pc' := 132) dX8_between_129 rfl rfl (fun h => absurd h (mvc_lt hic (by omega))) (fun _ => ?_)
            refine ev_aload_n (pc' := 133) (i := 0) dX8_between_132 rfl rfl rfl ?_
            refine ev_getR (pc' := 136) fo_X8_106 dX8_between_133 rfl hs_115 rfl rf_115_43 ?_
            refine ev_iload (pc' := 138) dX8_between_136 rfl rfl ?_
            refine ev_ineg (pc' := 139) (v := -(nI i - nI c)) dX8_between_138 rfl rfl ?_
            refine ev_eqi (w := nI (c - i)) (mvc_ng hic (by omega)) ?_
            refine ev_iald (pc' := 140) (j := c - i) (v := mSb 0 1 n2 (c - i)) dX8_between_139 rfl hs_146 rfl (by omega) (Nat.le_of_ble_eq_true rfl) (hX1 _ (by omega)) ?_
            refine ev_ineg (pc' := 141) (v := -(mSb 0 1 n2 (c - i))) dX8_between_140 rfl rfl ?_
            refine ev_i2l (pc' := 142) (v := Int32.toInt64 (-(mSb 0 1 n2 (c - i)))) dX8_between_141 rfl rfl ?_
            refine ev_goto (tgt := 153) dX8_between_142 rfl ?_
            rw [← em]
            refine ev_lstore (pc' := 155) (lv' := [some (.ref 115), some (.int (nI j19)), some (.int (nI j22)), some (.int (nI n2)), some (.int 0), some (.int 1), some (.int (if ¬ ((J 115) 39) = 0 then 0 else ((J 115) 38))), some (.int (if ((((J 115) 39) = 0) ∧ (¬ ((J 115) 31) ≤ 0)) ∨ ((¬ ((J 115) 39) = 0) ∧ ((0 < ((J 115) 38)) ∨ (¬ ((J 115) 31) ≤ 0))) then (1 : Int32) else 0)), some (.int (nI c)), some (.int s1), some (.int s2), some (.int s3), some (.int s4), some (.int s5), some (.int (nI i - nI c)), some (.long (mTm n2 c i)), none, none, none, none]) dX8_between_153 rfl (Nat.le_of_ble_eq_true rfl) rfl rfl ?_
            refine ev_iload (pc' := 157) dX8_between_155 rfl rfl ?_
            refine ev_if_ge (tgt := 172) (pc' := 160) dX8_between_157 rfl rfl (fun h => absurd h (mvc_lt hic (by omega))) (fun _ => ?_)
            refine ev_aload_n (pc' := 161) (i := 0) dX8_between_160 rfl rfl rfl ?_
            refine ev_getR (pc' := 164) fo_X8_109 dX8_between_161 rfl hs_115 rfl rf_115_44 ?_
            refine ev_iload (pc' := 166) dX8_between_164 rfl rfl ?_
            refine ev_ineg (pc' := 167) (v := -(nI i - nI c)) dX8_between_166 rfl rfl ?_
            refine ev_eqi (w := nI (c - i)) (mvc_ng hic (by omega)) ?_
            refine ev_iald (pc' := 168) (j := c - i) (v := mSb 1 0 n2 (c - i)) dX8_between_167 rfl hs_147 rfl (by omega) (Nat.le_of_ble_eq_true rfl) (hY1 _ (by omega)) ?_
            refine ev_i2l (pc' := 169) (v := Int32.toInt64 (mSb 1 0 n2 (c - i))) dX8_between_168 rfl rfl ?_
            refine ev_goto (tgt := 180) dX8_between_169 rfl ?_
            rw [← eq_]
            refine ev_lstore (pc' := 182) (lv' := [some (.ref 115), some (.int (nI j19)), some (.int (nI j22)), some (.int (nI n2)), some (.int 0), some (.int 1), some (.int (if ¬ ((J 115) 39) = 0 then 0 else ((J 115) 38))), some (.int (if ((((J 115) 39) = 0) ∧ (¬ ((J 115) 31) ≤ 0)) ∨ ((¬ ((J 115) 39) = 0) ∧ ((0 < ((J 115) 38)) ∨ (¬ ((J 115) 31) ≤ 0))) then (1 : Int32) else 0)), some (.int (nI c)), some (.int s1), some (.int s2), some (.int s3), some (.int s4), some (.int s5), some (.int (nI i - nI c)), some (.long (mTm n2 c i)), none, some (.long (mTq n2 c i)), none, none]) dX8_between_180 rfl (Nat.le_of_ble_eq_true rfl) rfl rfl ?_
            refine ev_iconst (pc' := 183) (v := 0) dX8_between_182 rfl ki_0 ?_
            refine ev_istore (pc' := 185) (lv' := [some (.ref 115), some (.int (nI j19)), some (.int (nI j22)), some (.int (nI n2)), some (.int 0), some (.int 1), some (.int (if ¬ ((J 115) 39) = 0 then 0 else ((J 115) 38))), some (.int (if ((((J 115) 39) = 0) ∧ (¬ ((J 115) 31) ≤ 0)) ∨ ((¬ ((J 115) 39) = 0) ∧ ((0 < ((J 115) 38)) ∨ (¬ ((J 115) 31) ≤ 0))) then (1 : Int32) else 0)), some (.int (nI c)), some (.int s1), some (.int s2), some (.int s3), some (.int s4), some (.int s5), some (.int (nI i - nI c)), some (.long (mTm n2 c i)), none, some (.long (mTq n2 c i)), none, some (.int 0)]) dX8_between_183 rfl (Nat.le_of_ble_eq_true rfl) rfl rfl ?_
            suffices lt : ∀ (d k : Nat), k + d = 16 → EV g yX8_between cX8_between 20 (some .int) rX8_between (ma_ZM g rX8_between Post) 185 [some (.ref 115), some (.int (nI j19)), some (.int (nI j22)), some (.int (nI n2)), some (.int 0), some (.int 1), some (.int (if ¬ ((J 115) 39) = 0 then 0 else ((J 115) 38))), some (.int (if ((((J 115) 39) = 0) ∧ (¬ ((J 115) 31) ≤ 0)) ∨ ((¬ ((J 115) 39) = 0) ∧ ((0 < ((J 115) 38)) ∨ (¬ ((J 115) 31) ≤ 0))) then (1 : Int32) else 0)), some (.int (nI c)), some (.int s1), some (.int s2), some (.int s3), some (.int s4), some (.int s5), some (.int (nI i - nI c)), some (.long (mTm n2 c i)), none, some (.long (mTq n2 c i)), none, some (.int (nI k))] [] HS JJ (ma_up KK 120 (mMf (JJ 133) (JJ 134) (mTm n2 c i) (mTq n2 c i) (KK 120) k)) RF 146 0 0 by
              refine ev_memL (fun x hx => ?_)
              have hx : x = ma_up KK 120 (mMf (JJ 133) (JJ 134) (mTm n2 c i) (mTq n2 c i) (KK 120) 0) := by rw [hx, mMf_0, ma_up_self]
              subst hx
              exact lt 16 0 rfl
            intro d5
            induction d5 with
            | zero =>
              intro k hk
              obtain rfl : k = 16 := by omega
              refine ev_iload (pc' := 187) dX8_between_185 rfl rfl ?_
              refine ev_bipush (pc' := 189) (v := 16) dX8_between_187 rfl kb_16 ?_
              refine ev_icmp_ge (tgt := 228) (pc' := 192) dX8_between_189 rfl rfl (fun _ => ?_) (fun h => absurd (nx_le (a := 16) (b := 16) (by omega) (by omega)) h)
              refine ev_aload_n (pc' := 229) (i := 0) dX8_between_228 rfl rfl rfl ?_
              refine ev_getR (pc' := 232) fo_X8_26 dX8_between_229 rfl hs_115 rfl rf_115_8 ?_
              refine ev_callS (pc' := 235) (rm' := rX8_worthOf) (av := [.ref 120]) (rest := []) co_X8_173 cs_X8_worthOf dX8_between_232 rfl rfl rfl (Nat.le_of_ble_eq_true rfl) ⟨(Nat.le_of_ble_eq_true rfl), (Nat.le_of_ble_eq_true rfl)⟩ ⟨(Nat.le_of_ble_eq_true rfl), (Nat.le_of_ble_eq_true rfl)⟩ ?_
              refine t_X8_worthOf 120 hs_120 ?_
              refine ev_callS (pc' := 238) (rm' := rX8_sign) (av := [.long (mW ((ma_up KK 120 (mMf (JJ 133) (JJ 134) (mTm n2 c i) (mTq n2 c i) (KK 120) 16)) 120))]) (rest := []) co_X8_156 cs_X8_sign dX8_between_235 rfl rfl rfl (Nat.le_of_ble_eq_true rfl) ⟨(Nat.le_of_ble_eq_true rfl), (Nat.le_of_ble_eq_true rfl)⟩ ⟨(Nat.le_of_ble_eq_true rfl), (Nat.le_of_ble_eq_true rfl)⟩ ?_
              refine t_X8_sign (mW ((ma_up KK 120 (mMf (JJ 133) (JJ 134) (mTm n2 c i) (mTq n2 c i) (KK 120) 16)) 120))  ?_
              refine ev_topi (fun sd hz => ?_)
              have hz : sd = mSg (mW (mMf (JJ 133) (JJ 134) (mTm n2 c i) (mTq n2 c i) (KK 120) 16)) := hz
              have hsd : sd = mSg (mW (mMx (fun k => I 123 (16 * j19 + k)) (fun k => I 123 (16 * j22 + k)) (mTm n2 c i) (mTq n2 c i))) := by rw [hz, mW_congr (mMf_16 _ _ _ hA hB)]
              refine ev_istore (pc' := 240) (lv' := [some (.ref 115), some (.int (nI j19)), some (.int (nI j22)), some (.int (nI n2)), some (.int 0), some (.int 1), some (.int (if ¬ ((J 115) 39) = 0 then 0 else ((J 115) 38))), some (.int (if ((((J 115) 39) = 0) ∧ (¬ ((J 115) 31) ≤ 0)) ∨ ((¬ ((J 115) 39) = 0) ∧ ((0 < ((J 115) 38)) ∨ (¬ ((J 115) 31) ≤ 0))) then (1 : Int32) else 0)), some (.int (nI c)), some (.int s1), some (.int s2), some (.int s3), some (.int s4), some (.int s5), some (.int (nI i - nI c)), some (.long (mTm n2 c i)), none, some (.long (mTq n2 c i)), none, some (.int sd)]) dX8_between_238 rfl (Nat.le_of_ble_eq_true rfl) rfl rfl ?_
              refine ev_iload (pc' := 242) dX8_between_240 rfl rfl ?_
              refine ev_if_ne (tgt := 248) (pc' := 245) dX8_between_242 rfl rfl (fun c72 => ?_) (fun c72 => ?_)
              · refine ev_aload_n (pc' := 249) (i := 0) dX8_between_248 rfl rfl rfl ?_
                refine ev_callV (pc' := 252) (rm' := rX8_layFour) (b := 115) (av := []) (rest := []) co_X8_188 ci_X8_layFour cv_X8_layFour dX8_between_249 rfl hs_115 hb_X8 rfl rfl (Nat.le_of_ble_eq_true rfl) ⟨(Nat.le_of_ble_eq_true rfl), (Nat.le_of_ble_eq_true rfl)⟩ ⟨(Nat.le_of_ble_eq_true rfl), (Nat.le_of_ble_eq_true rfl)⟩ ?_
                refine f_X8_layFour (fun J9 f1 f2 f3 => ?_)
                have f1 : J9 115 9 = mFA (mMf (JJ 133) (JJ 134) (mTm n2 c i) (mTq n2 c i) (KK 120) 16) := f1
                rw [mFA_congr (mMf_16 _ _ _ hA hB)] at f1
                refine ev_iload (pc' := 254) dX8_between_252 rfl rfl ?_
                refine ev_iload (pc' := 256) dX8_between_254 rfl rfl ?_
                suffices K75 : ∀ x74 : Int32, x74 = (if (¬ s4 = 0) ∧ (¬ sd = s4) then (1 : Int32) else 0) → EV g yX8_between cX8_between 20 (some .int) rX8_between (ma_ZM g rX8_between Post) 271 [some (.ref 115), some (.int (nI j19)), some (.int (nI j22)), some (.int (nI n2)), some (.int 0), some (.int 1), some (.int (if ¬ ((J 115) 39) = 0 then 0 else ((J 115) 38))), some (.int (if ((((J 115) 39) = 0) ∧ (¬ ((J 115) 31) ≤ 0)) ∨ ((¬ ((J 115) 39) = 0) ∧ ((0 < ((J 115) 38)) ∨ (¬ ((J 115) 31) ≤ 0))) then (1 : Int32) else 0)), some (.int (nI c)), some (.int s1), some (.int s2), some (.int s3), some (.int s4), some (.int s5), some (.int (nI i - nI c)), some (.long (mTm n2 c i)), none, some (.long (mTq n2 c i)), none, some (.int sd)] [.int x74, .int s5] HS J9 (ma_up KK 120 (mMf (JJ 133) (JJ 134) (mTm n2 c i) (mTq n2 c i) (KK 120) 16)) RF 146 0 0 by
                  refine ev_if_eq (tgt := 270) (pc' := 259) dX8_between_256 rfl rfl (fun c76 => ?_) (fun c76 => ?_)
                  · refine ev_iconst (pc' := 271) (v := 0) dX8_between_270 rfl ki_0 ?_
                    exact K75 _ (if_neg (fun h => (not_not_intro c76) h.1)).symm
                  · refine ev_iload (pc' := 261) dX8_between_259 rfl rfl ?_
                    refine ev_iload (pc' := 263) dX8_between_261 rfl rfl ?_
                    refine ev_icmp_eq (tgt := 270) (pc' := 266) dX8_between_263 rfl rfl (fun c77 => ?_) (fun c77 => ?_)
                    · refine ev_iconst (pc' := 271) (v := 0) dX8_between_270 rfl ki_0 ?_
                      exact K75 _ (if_neg (fun h => (not_not_intro c77) h.2)).symm
                    · refine ev_iconst (pc' := 267) (v := 1) dX8_between_266 rfl ki_1 ?_
                      refine ev_goto (tgt := 271) dX8_between_267 rfl ?_
                      exact K75 _ (if_pos (⟨c76, c77⟩)).symm
                intro x74 hx74
                subst hx74
                refine ev_iadd (pc' := 272) (v := s5 + (if (¬ s4 = 0) ∧ (¬ sd = s4) then (1 : Int32) else 0)) dX8_between_271 rfl rfl ?_
                refine ev_istore (pc' := 274) (lv' := [some (.ref 115), some (.int (nI j19)), some (.int (nI j22)), some (.int (nI n2)), some (.int 0), some (.int 1), some (.int (if ¬ ((J 115) 39) = 0 then 0 else ((J 115) 38))), some (.int (if ((((J 115) 39) = 0) ∧ (¬ ((J 115) 31) ≤ 0)) ∨ ((¬ ((J 115) 39) = 0) ∧ ((0 < ((J 115) 38)) ∨ (¬ ((J 115) 31) ≤ 0))) then (1 : Int32) else 0)), some (.int (nI c)), some (.int s1), some (.int s2), some (.int s3), some (.int s4), some (.int (s5 + (if (¬ s4 = 0) ∧ (¬ sd = s4) then (1 : Int32) else 0))), some (.int (nI i - nI c)), some (.long (mTm n2 c i)), none, some (.long (mTq n2 c i)), none, some (.int sd)]) dX8_between_272 rfl (Nat.le_of_ble_eq_true rfl) rfl rfl ?_
                refine ev_iload (pc' := 276) dX8_between_274 rfl rfl ?_
                refine ev_istore (pc' := 278) (lv' := [some (.ref 115), some (.int (nI j19)), some (.int (nI j22)), some (.int (nI n2)), some (.int 0), some (.int 1), some (.int (if ¬ ((J 115) 39) = 0 then 0 else ((J 115) 38))), some (.int (if ((((J 115) 39) = 0) ∧ (¬ ((J 115) 31) ≤ 0)) ∨ ((¬ ((J 115) 39) = 0) ∧ ((0 < ((J 115) 38)) ∨ (¬ ((J 115) 31) ≤ 0))) then (1 : Int32) else 0)), some (.int (nI c)), some (.int s1), some (.int s2), some (.int s3), some (.int sd), some (.int (s5 + (if (¬ s4 = 0) ∧ (¬ sd = s4) then (1 : Int32) else 0))), some (.int (nI i - nI c)), some (.long (mTm n2 c i)), none, some (.long (mTq n2 c i)), none, some (.int sd)]) dX8_between_276 rfl (Nat.le_of_ble_eq_true rfl) rfl rfl ?_
                refine ev_aload_n (pc' := 279) (i := 0) dX8_between_278 rfl rfl rfl ?_
                refine ev_getI (pc' := 282) (v := (J9 115) 9) fo_X8_160 dX8_between_279 rfl hs_115 rfl rfl ?_
                refine ev_iload (pc' := 284) dX8_between_282 rfl rfl ?_
                refine ev_icmp_eq (tgt := 320) (pc' := 287) dX8_between_284 rfl rfl (fun c78 => ?_) (fun c78 => ?_)
                · refine ev_iinc (pc' := 323) (v := (nI i - nI c) + 1) (lv' := [some (.ref 115), some (.int (nI j19)), some (.int (nI j22)), some (.int (nI n2)), some (.int 0), some (.int 1), some (.int (if ¬ ((J 115) 39) = 0 then 0 else ((J 115) 38))), some (.int (if ((((J 115) 39) = 0) ∧ (¬ ((J 115) 31) ≤ 0)) ∨ ((¬ ((J 115) 39) = 0) ∧ ((0 < ((J 115) 38)) ∨ (¬ ((J 115) 31) ≤ 0))) then (1 : Int32) else 0)), some (.int (nI c)), some (.int s1), some (.int s2), some (.int s3), some (.int sd), some (.int (s5 + (if (¬ s4 = 0) ∧ (¬ sd = s4) then (1 : Int32) else 0))), some (.int ((nI i - nI c) + 1)), some (.long (mTm n2 c i)), none, some (.long (mTq n2 c i)), none, some (.int sd)]) dX8_between_320 rfl rfl rfl (Nat.le_of_ble_eq_true rfl) rfl rfl ?_
                  refine ev_goto (tgt := 120) dX8_between_323 rfl ?_
                  refine ev_lvw (lv' := [some (.ref 115), some (.int (nI j19)), some (.int (nI j22)), some (.int (nI n2)), some (.int 0), some (.int 1), some (.int (if ¬ ((J 115) 39) = 0 then 0 else ((J 115) 38))), some (.int (if ((((J 115) 39) = 0) ∧ (¬ ((J 115) 31) ≤ 0)) ∨ ((¬ ((J 115) 39) = 0) ∧ ((0 < ((J 115) 38)) ∨ (¬ ((J 115) 31) ≤ 0))) then (1 : Int32) else 0)), some (.int (nI c)), some (.int s1), some (.int s2), some (.int s3), some (.int sd), some (.int (s5 + (if (¬ s4 = 0) ∧ (¬ sd = s4) then (1 : Int32) else 0))), some (.int ((nI i - nI c) + 1)), none, none, none, none, none]) ⟨rfl, ⟨rfl, ⟨rfl, ⟨rfl, ⟨rfl, ⟨rfl, ⟨rfl, ⟨rfl, ⟨rfl, ⟨rfl, ⟨rfl, ⟨rfl, ⟨rfl, ⟨rfl, ⟨rfl, trivial⟩⟩⟩⟩⟩⟩⟩⟩⟩⟩⟩⟩⟩⟩⟩ ?_
                  rw [mvc_s]
                  have c1' := c78
                  rw [f1] at c1'
                  exact ih (i + 1) _ _ _ _ _ _ _ (by omega) (by show _ = mBs _ _ (mBt _ _ _ _ _); rw [← hs, ← hsd]; unfold mBs; rw [if_neg c72]; dsimp only; rw [if_pos c1', if_pos c1', if_pos c1']) ((hJ.trans f3).le (fun a h => by simp only [List.mem_cons, List.not_mem_nil, or_false, List.cons_append, List.nil_append] at h ⊢; omega) (fun a h => by simp only [List.mem_cons, List.not_mem_nil, or_false, List.cons_append, List.nil_append] at h ⊢; omega)) (mSl.up hK List.mem_cons_self)
                · refine ev_iload (pc' := 289) dX8_between_287 rfl rfl ?_
                  refine ev_bipush (pc' := 291) (v := 9) dX8_between_289 rfl kb_9 ?_
                  suffices K81 : ∀ x80 : Int32, x80 = (if 9 ≤ s2 then s1 else ((10 * s1) + ((J9 115) 9))) → EV g yX8_between cX8_between 20 (some .int) rX8_between (ma_ZM g rX8_between Post) 309 [some (.ref 115), some (.int (nI j19)), some (.int (nI j22)), some (.int (nI n2)), some (.int 0), some (.int 1), some (.int (if ¬ ((J 115) 39) = 0 then 0 else ((J 115) 38))), some (.int (if ((((J 115) 39) = 0) ∧ (¬ ((J 115) 31) ≤ 0)) ∨ ((¬ ((J 115) 39) = 0) ∧ ((0 < ((J 115) 38)) ∨ (¬ ((J 115) 31) ≤ 0))) then (1 : Int32) else 0)), some (.int (nI c)), some (.int s1), some (.int s2), some (.int s3), some (.int sd), some (.int (s5 + (if (¬ s4 = 0) ∧ (¬ sd = s4) then (1 : Int32) else 0))), some (.int (nI i - nI c)), some (.long (mTm n2 c i)), none, some (.long (mTq n2 c i)), none, some (.int sd)] [.int x80] HS J9 (ma_up KK 120 (mMf (JJ 133) (JJ 134) (mTm n2 c i) (mTq n2 c i) (KK 120) 16)) RF 146 0 0 by
                    refine ev_icmp_ge (tgt := 307) (pc' := 294) dX8_between_291 rfl rfl (fun c82 => ?_) (fun c82 => ?_)
                    · refine ev_iload (pc' := 309) dX8_between_307 rfl rfl ?_
                      exact K81 _ (by rw [if_pos c82])
                    · refine ev_bipush (pc' := 296) (v := 10) dX8_between_294 rfl kb_10 ?_
                      refine ev_iload (pc' := 298) dX8_between_296 rfl rfl ?_
                      refine ev_imul (pc' := 299) (v := 10 * s1) dX8_between_298 rfl rfl ?_
                      refine ev_aload_n (pc' := 300) (i := 0) dX8_between_299 rfl rfl rfl ?_
                      refine ev_getI (pc' := 303) (v := (J9 115) 9) fo_X8_160 dX8_between_300 rfl hs_115 rfl rfl ?_
                      refine ev_iadd (pc' := 304) (v := (10 * s1) + ((J9 115) 9)) dX8_between_303 rfl rfl ?_
                      refine ev_goto (tgt := 309) dX8_between_304 rfl ?_
                      exact K81 _ (by rw [if_neg c82])
                  intro x80 hx80
                  subst hx80
                  refine ev_istore (pc' := 311) (lv' := [some (.ref 115), some (.int (nI j19)), some (.int (nI j22)), some (.int (nI n2)), some (.int 0), some (.int 1), some (.int (if ¬ ((J 115) 39) = 0 then 0 else ((J 115) 38))), some (.int (if ((((J 115) 39) = 0) ∧ (¬ ((J 115) 31) ≤ 0)) ∨ ((¬ ((J 115) 39) = 0) ∧ ((0 < ((J 115) 38)) ∨ (¬ ((J 115) 31) ≤ 0))) then (1 : Int32) else 0)), some (.int (nI c)), some (.int (if 9 ≤ s2 then s1 else ((10 * s1) + ((J9 115) 9)))), some (.int s2), some (.int s3), some (.int sd), some (.int (s5 + (if (¬ s4 = 0) ∧ (¬ sd = s4) then (1 : Int32) else 0))), some (.int (nI i - nI c)), some (.long (mTm n2 c i)), none, some (.long (mTq n2 c i)), none, some (.int sd)]) dX8_between_309 rfl (Nat.le_of_ble_eq_true rfl) rfl rfl ?_
                  refine ev_iinc (pc' := 314) (v := s2 + 1) (lv' := [some (.ref 115), some (.int (nI j19)), some (.int (nI j22)), some (.int (nI n2)), some (.int 0), some (.int 1), some (.int (if ¬ ((J 115) 39) = 0 then 0 else ((J 115) 38))), some (.int (if ((((J 115) 39) = 0) ∧ (¬ ((J 115) 31) ≤ 0)) ∨ ((¬ ((J 115) 39) = 0) ∧ ((0 < ((J 115) 38)) ∨ (¬ ((J 115) 31) ≤ 0))) then (1 : Int32) else 0)), some (.int (nI c)), some (.int (if 9 ≤ s2 then s1 else ((10 * s1) + ((J9 115) 9)))), some (.int (s2 + 1)), some (.int s3), some (.int sd), some (.int (s5 + (if (¬ s4 = 0) ∧ (¬ sd = s4) then (1 : Int32) else 0))), some (.int (nI i - nI c)), some (.long (mTm n2 c i)), none, some (.long (mTq n2 c i)), none, some (.int sd)]) dX8_between_311 rfl rfl rfl (Nat.le_of_ble_eq_true rfl) rfl rfl ?_
                  refine ev_aload_n (pc' := 315) (i := 0) dX8_between_314 rfl rfl rfl ?_
                  refine ev_getI (pc' := 318) (v := (J9 115) 9) fo_X8_160 dX8_between_315 rfl hs_115 rfl rfl ?_
                  refine ev_istore (pc' := 320) (lv' := [some (.ref 115), some (.int (nI j19)), some (.int (nI j22)), some (.int (nI n2)), some (.int 0), some (.int 1), some (.int (if ¬ ((J 115) 39) = 0 then 0 else ((J 115) 38))), some (.int (if ((((J 115) 39) = 0) ∧ (¬ ((J 115) 31) ≤ 0)) ∨ ((¬ ((J 115) 39) = 0) ∧ ((0 < ((J 115) 38)) ∨ (¬ ((J 115) 31) ≤ 0))) then (1 : Int32) else 0)), some (.int (nI c)), some (.int (if 9 ≤ s2 then s1 else ((10 * s1) + ((J9 115) 9)))), some (.int (s2 + 1)), some (.int ((J9 115) 9)), some (.int sd), some (.int (s5 + (if (¬ s4 = 0) ∧ (¬ sd = s4) then (1 : Int32) else 0))), some (.int (nI i - nI c)), some (.long (mTm n2 c i)), none, some (.long (mTq n2 c i)), none, some (.int sd)]) dX8_between_318 rfl (Nat.le_of_ble_eq_true rfl) rfl rfl ?_
                  refine ev_iinc (pc' := 323) (v := (nI i - nI c) + 1) (lv' := [some (.ref 115), some (.int (nI j19)), some (.int (nI j22)), some (.int (nI n2)), some (.int 0), some (.int 1), some (.int (if ¬ ((J 115) 39) = 0 then 0 else ((J 115) 38))), some (.int (if ((((J 115) 39) = 0) ∧ (¬ ((J 115) 31) ≤ 0)) ∨ ((¬ ((J 115) 39) = 0) ∧ ((0 < ((J 115) 38)) ∨ (¬ ((J 115) 31) ≤ 0))) then (1 : Int32) else 0)), some (.int (nI c)), some (.int (if 9 ≤ s2 then s1 else ((10 * s1) + ((J9 115) 9)))), some (.int (s2 + 1)), some (.int ((J9 115) 9)), some (.int sd), some (.int (s5 + (if (¬ s4 = 0) ∧ (¬ sd = s4) then (1 : Int32) else 0))), some (.int ((nI i - nI c) + 1)), some (.long (mTm n2 c i)), none, some (.long (mTq n2 c i)), none, some (.int sd)]) dX8_between_320 rfl rfl rfl (Nat.le_of_ble_eq_true rfl) rfl rfl ?_
                  refine ev_goto (tgt := 120) dX8_between_323 rfl ?_
                  refine ev_lvw (lv' := [some (.ref 115), some (.int (nI j19)), some (.int (nI j22)), some (.int (nI n2)), some (.int 0), some (.int 1), some (.int (if ¬ ((J 115) 39) = 0 then 0 else ((J 115) 38))), some (.int (if ((((J 115) 39) = 0) ∧ (¬ ((J 115) 31) ≤ 0)) ∨ ((¬ ((J 115) 39) = 0) ∧ ((0 < ((J 115) 38)) ∨ (¬ ((J 115) 31) ≤ 0))) then (1 : Int32) else 0)), some (.int (nI c)), some (.int (if 9 ≤ s2 then s1 else ((10 * s1) + ((J9 115) 9)))), some (.int (s2 + 1)), some (.int ((J9 115) 9)), some (.int sd), some (.int (s5 + (if (¬ s4 = 0) ∧ (¬ sd = s4) then (1 : Int32) else 0))), some (.int ((nI i - nI c) + 1)), none, none, none, none, none]) ⟨rfl, ⟨rfl, ⟨rfl, ⟨rfl, ⟨rfl, ⟨rfl, ⟨rfl, ⟨rfl, ⟨rfl, ⟨rfl, ⟨rfl, ⟨rfl, ⟨rfl, ⟨rfl, ⟨rfl, trivial⟩⟩⟩⟩⟩⟩⟩⟩⟩⟩⟩⟩⟩⟩⟩ ?_
                  rw [mvc_s]
                  have c1' := c78
                  rw [f1] at c1'
                  exact ih (i + 1) _ _ _ _ _ _ _ (by omega) (by show _ = mBs _ _ (mBt _ _ _ _ _); rw [← hs, ← hsd, f1]; unfold mBs; rw [if_neg c72]; dsimp only; rw [if_neg c1', if_neg c1', if_neg c1']) ((hJ.trans f3).le (fun a h => by simp only [List.mem_cons, List.not_mem_nil, or_false, List.cons_append, List.nil_append] at h ⊢; omega) (fun a h => by simp only [List.mem_cons, List.not_mem_nil, or_false, List.cons_append, List.nil_append] at h ⊢; omega)) (mSl.up hK List.mem_cons_self)
              · refine ev_goto (tgt := 320) dX8_between_245 rfl ?_
                refine ev_iinc (pc' := 323) (v := (nI i - nI c) + 1) (lv' := [some (.ref 115), some (.int (nI j19)), some (.int (nI j22)), some (.int (nI n2)), some (.int 0), some (.int 1), some (.int (if ¬ ((J 115) 39) = 0 then 0 else ((J 115) 38))), some (.int (if ((((J 115) 39) = 0) ∧ (¬ ((J 115) 31) ≤ 0)) ∨ ((¬ ((J 115) 39) = 0) ∧ ((0 < ((J 115) 38)) ∨ (¬ ((J 115) 31) ≤ 0))) then (1 : Int32) else 0)), some (.int (nI c)), some (.int s1), some (.int s2), some (.int s3), some (.int s4), some (.int s5), some (.int ((nI i - nI c) + 1)), some (.long (mTm n2 c i)), none, some (.long (mTq n2 c i)), none, some (.int sd)]) dX8_between_320 rfl rfl rfl (Nat.le_of_ble_eq_true rfl) rfl rfl ?_
                refine ev_goto (tgt := 120) dX8_between_323 rfl ?_
                refine ev_lvw (lv' := [some (.ref 115), some (.int (nI j19)), some (.int (nI j22)), some (.int (nI n2)), some (.int 0), some (.int 1), some (.int (if ¬ ((J 115) 39) = 0 then 0 else ((J 115) 38))), some (.int (if ((((J 115) 39) = 0) ∧ (¬ ((J 115) 31) ≤ 0)) ∨ ((¬ ((J 115) 39) = 0) ∧ ((0 < ((J 115) 38)) ∨ (¬ ((J 115) 31) ≤ 0))) then (1 : Int32) else 0)), some (.int (nI c)), some (.int s1), some (.int s2), some (.int s3), some (.int s4), some (.int s5), some (.int ((nI i - nI c) + 1)), none, none, none, none, none]) ⟨rfl, ⟨rfl, ⟨rfl, ⟨rfl, ⟨rfl, ⟨rfl, ⟨rfl, ⟨rfl, ⟨rfl, ⟨rfl, ⟨rfl, ⟨rfl, ⟨rfl, ⟨rfl, ⟨rfl, trivial⟩⟩⟩⟩⟩⟩⟩⟩⟩⟩⟩⟩⟩⟩⟩ ?_
                rw [mvc_s]
                exact ih (i + 1) _ _ _ _ _ _ _ (by omega) (by show _ = mBs _ _ (mBt _ _ _ _ _); rw [← hs, ← hsd]; exact (if_pos c72).symm) hJ (mSl.up hK List.mem_cons_self)
            | succ d5 ih5 =>
              intro k hk
              refine ev_iload (pc' := 187) dX8_between_185 rfl rfl ?_
              refine ev_bipush (pc' := 189) (v := 16) dX8_between_187 rfl kb_16 ?_
              refine ev_icmp_ge (tgt := 228) (pc' := 192) dX8_between_189 rfl rfl (fun h => absurd h (nx_nle (a := 16) (b := k) (by omega) (by omega))) (fun _ => ?_)
              refine ev_aload_n (pc' := 193) (i := 0) dX8_between_192 rfl rfl rfl ?_
              refine ev_getR (pc' := 196) fo_X8_26 dX8_between_193 rfl hs_115 rfl rf_115_8 ?_
              refine ev_iload (pc' := 198) dX8_between_196 rfl rfl ?_
              refine ev_aload_n (pc' := 199) (i := 0) dX8_between_198 rfl rfl rfl ?_
              refine ev_getR (pc' := 202) fo_X8_67 dX8_between_199 rfl hs_115 rfl rf_115_24 ?_
              refine ev_iload (pc' := 204) dX8_between_202 rfl rfl ?_
              refine ev_iald (pc' := 205) (j := k) (v := (JJ 133) k) dX8_between_204 rfl hs_133 rfl (by omega) (Nat.le_of_ble_eq_true rfl) rfl ?_
              refine ev_i2l (pc' := 206) (v := Int32.toInt64 ((JJ 133) k)) dX8_between_205 rfl rfl ?_
              refine ev_lload (pc' := 208) dX8_between_206 rfl rfl ?_
              refine ev_lmul (pc' := 209) (v := (Int32.toInt64 ((JJ 133) k)) * (mTm n2 c i)) dX8_between_208 rfl rfl ?_
              refine ev_aload_n (pc' := 210) (i := 0) dX8_between_209 rfl rfl rfl ?_
              refine ev_getR (pc' := 213) fo_X8_70 dX8_between_210 rfl hs_115 rfl rf_115_25 ?_
              refine ev_iload (pc' := 215) dX8_between_213 rfl rfl ?_
              refine ev_iald (pc' := 216) (j := k) (v := (JJ 134) k) dX8_between_215 rfl hs_134 rfl (by omega) (Nat.le_of_ble_eq_true rfl) rfl ?_
              refine ev_i2l (pc' := 217) (v := Int32.toInt64 ((JJ 134) k)) dX8_between_216 rfl rfl ?_
              refine ev_lload (pc' := 219) dX8_between_217 rfl rfl ?_
              refine ev_lmul (pc' := 220) (v := (Int32.toInt64 ((JJ 134) k)) * (mTq n2 c i)) dX8_between_219 rfl rfl ?_
              refine ev_ladd (pc' := 221) (v := ((Int32.toInt64 ((JJ 133) k)) * (mTm n2 c i)) + ((Int32.toInt64 ((JJ 134) k)) * (mTq n2 c i))) dX8_between_220 rfl rfl ?_
              refine ev_last (pc' := 222) (j := k) (L' := (ma_up KK 120 (ma_up (mMf (JJ 133) (JJ 134) (mTm n2 c i) (mTq n2 c i) (KK 120) k) k (((Int32.toInt64 ((JJ 133) k)) * (mTm n2 c i)) + ((Int32.toInt64 ((JJ 134) k)) * (mTq n2 c i)))))) dX8_between_221 rfl hs_120 rfl (by omega) (Nat.le_of_ble_eq_true rfl) (ma_up_up _ _ _ _) ?_
              refine ev_iinc (pc' := 225) (v := nI (k + 1)) (lv' := [some (.ref 115), some (.int (nI j19)), some (.int (nI j22)), some (.int (nI n2)), some (.int 0), some (.int 1), some (.int (if ¬ ((J 115) 39) = 0 then 0 else ((J 115) 38))), some (.int (if ((((J 115) 39) = 0) ∧ (¬ ((J 115) 31) ≤ 0)) ∨ ((¬ ((J 115) 39) = 0) ∧ ((0 < ((J 115) 38)) ∨ (¬ ((J 115) 31) ≤ 0))) then (1 : Int32) else 0)), some (.int (nI c)), some (.int s1), some (.int s2), some (.int s3), some (.int s4), some (.int s5), some (.int (nI i - nI c)), some (.long (mTm n2 c i)), none, some (.long (mTq n2 c i)), none, some (.int (nI (k + 1)))]) dX8_between_222 rfl rfl (nI_add k 1) (Nat.le_of_ble_eq_true rfl) rfl rfl ?_
              refine ev_goto (tgt := 185) dX8_between_225 rfl ?_
              refine ev_memL (fun x hx => ?_)
              have hx := hx.trans (congrArg (ma_up KK 120) (mMf_s (JJ 133) (JJ 134) (mTm n2 c i) (mTq n2 c i) (KK 120) k))
              subst hx
              exact ih5 (k + 1) (by omega)
          · have em : mTm n2 c i = Int32.toInt64 (mSb 0 1 n2 (i - c)) := if_neg hic
            have eq_ : mTq n2 c i = Int32.toInt64 (mSb 1 0 n2 (i - c)) := if_neg hic
            refine ev_iload (pc' := 122) dX8_between_120 rfl rfl ?_
            refine ev_iload (pc' := 124) dX8_between_122 rfl rfl ?_
            refine ev_icmp_gt (tgt := 326) (pc' := 127) dX8_between_124 rfl rfl (fun h => absurd h (mvc_le (by omega) (by omega))) (fun _ => ?_)
            refine ev_iload (pc' := 129) dX8_between_127 rfl rfl ?_
            refine ev_if_ge (tgt := 145) (pc' := 132) dX8_between_129 rfl rfl (fun _ => ?_) (fun h => absurd (mvc_ge hic (by omega) (by omega)) h)
            refine ev_aload_n (pc' := 146) (i := 0) dX8_between_145 rfl rfl rfl ?_
            refine ev_getR (pc' := 149) fo_X8_106 dX8_between_146 rfl hs_115 rfl rf_115_43 ?_
            refine ev_iload (pc' := 151) dX8_between_149 rfl rfl ?_
            refine ev_eqi (w := nI (i - c)) (mvc_ps hic (by omega) (by omega)) ?_
            refine ev_iald (pc' := 152) (j := i - c) (v := mSb 0 1 n2 (i - c)) dX8_between_151 rfl hs_146 rfl (by omega) (Nat.le_of_ble_eq_true rfl) (hX1 _ (by omega)) ?_
            refine ev_i2l (pc' := 153) (v := Int32.toInt64 (mSb 0 1 n2 (i - c))) dX8_between_152 rfl rfl ?_
            rw [← em]
            refine ev_lstore (pc' := 155) (lv' := [some (.ref 115), some (.int (nI j19)), some (.int (nI j22)), some (.int (nI n2)), some (.int 0), some (.int 1), some (.int (if ¬ ((J 115) 39) = 0 then 0 else ((J 115) 38))), some (.int (if ((((J 115) 39) = 0) ∧ (¬ ((J 115) 31) ≤ 0)) ∨ ((¬ ((J 115) 39) = 0) ∧ ((0 < ((J 115) 38)) ∨ (¬ ((J 115) 31) ≤ 0))) then (1 : Int32) else 0)), some (.int (nI c)), some (.int s1), some (.int s2), some (.int s3), some (.int s4), some (.int s5), some (.int (nI i - nI c)), some (.long (mTm n2 c i)), none, none, none, none]) dX8_between_153 rfl (Nat.le_of_ble_eq_true rfl) rfl rfl ?_
            refine ev_iload (pc' := 157) dX8_between_155 rfl rfl ?_
            refine ev_if_ge (tgt := 172) (pc' := 160) dX8_between_157 rfl rfl (fun _ => ?_) (fun h => absurd (mvc_ge hic (by omega) (by omega)) h)
            refine ev_aload_n (pc' := 173) (i := 0) dX8_between_172 rfl rfl rfl ?_
            refine ev_getR (pc' := 176) fo_X8_109 dX8_between_173 rfl hs_115 rfl rf_115_44 ?_
            refine ev_iload (pc' := 178) dX8_between_176 rfl rfl ?_
            refine ev_eqi (w := nI (i - c)) (mvc_ps hic (by omega) (by omega)) ?_
            refine ev_iald (pc' := 179) (j := i - c) (v := mSb 1 0 n2 (i - c)) dX8_between_178 rfl hs_147 rfl (by omega) (Nat.le_of_ble_eq_true rfl) (hY1 _ (by omega)) ?_
            refine ev_i2l (pc' := 180) (v := Int32.toInt64 (mSb 1 0 n2 (i - c))) dX8_between_179 rfl rfl ?_
            rw [← eq_]
            refine ev_lstore (pc' := 182) (lv' := [some (.ref 115), some (.int (nI j19)), some (.int (nI j22)), some (.int (nI n2)), some (.int 0), some (.int 1), some (.int (if ¬ ((J 115) 39) = 0 then 0 else ((J 115) 38))), some (.int (if ((((J 115) 39) = 0) ∧ (¬ ((J 115) 31) ≤ 0)) ∨ ((¬ ((J 115) 39) = 0) ∧ ((0 < ((J 115) 38)) ∨ (¬ ((J 115) 31) ≤ 0))) then (1 : Int32) else 0)), some (.int (nI c)), some (.int s1), some (.int s2), some (.int s3), some (.int s4), some (.int s5), some (.int (nI i - nI c)), some (.long (mTm n2 c i)), none, some (.long (mTq n2 c i)), none, none]) dX8_between_180 rfl (Nat.le_of_ble_eq_true rfl) rfl rfl ?_
            refine ev_iconst (pc' := 183) (v := 0) dX8_between_182 rfl ki_0 ?_
            refine ev_istore (pc' := 185) (lv' := [some (.ref 115), some (.int (nI j19)), some (.int (nI j22)), some (.int (nI n2)), some (.int 0), some (.int 1), some (.int (if ¬ ((J 115) 39) = 0 then 0 else ((J 115) 38))), some (.int (if ((((J 115) 39) = 0) ∧ (¬ ((J 115) 31) ≤ 0)) ∨ ((¬ ((J 115) 39) = 0) ∧ ((0 < ((J 115) 38)) ∨ (¬ ((J 115) 31) ≤ 0))) then (1 : Int32) else 0)), some (.int (nI c)), some (.int s1), some (.int s2), some (.int s3), some (.int s4), some (.int s5), some (.int (nI i - nI c)), some (.long (mTm n2 c i)), none, some (.long (mTq n2 c i)), none, some (.int 0)]) dX8_between_183 rfl (Nat.le_of_ble_eq_true rfl) rfl rfl ?_
            suffices lt : ∀ (d k : Nat), k + d = 16 → EV g yX8_between cX8_between 20 (some .int) rX8_between (ma_ZM g rX8_between Post) 185 [some (.ref 115), some (.int (nI j19)), some (.int (nI j22)), some (.int (nI n2)), some (.int 0), some (.int 1), some (.int (if ¬ ((J 115) 39) = 0 then 0 else ((J 115) 38))), some (.int (if ((((J 115) 39) = 0) ∧ (¬ ((J 115) 31) ≤ 0)) ∨ ((¬ ((J 115) 39) = 0) ∧ ((0 < ((J 115) 38)) ∨ (¬ ((J 115) 31) ≤ 0))) then (1 : Int32) else 0)), some (.int (nI c)), some (.int s1), some (.int s2), some (.int s3), some (.int s4), some (.int s5), some (.int (nI i - nI c)), some (.long (mTm n2 c i)), none, some (.long (mTq n2 c i)), none, some (.int (nI k))] [] HS JJ (ma_up KK 120 (mMf (JJ 133) (JJ 134) (mTm n2 c i) (mTq n2 c i) (KK 120) k)) RF 146 0 0 by
              refine ev_memL (fun x hx => ?_)
              have hx : x = ma_up KK 120 (mMf (JJ 133) (JJ 134) (mTm n2 c i) (mTq n2 c i) (KK 120) 0) := by rw [hx, mMf_0, ma_up_self]
              subst hx
              exact lt 16 0 rfl
            intro d5
            induction d5 with
            | zero =>
              intro k hk
              obtain rfl : k = 16 := by omega
              refine ev_iload (pc' := 187) dX8_between_185 rfl rfl ?_
              refine ev_bipush (pc' := 189) (v := 16) dX8_between_187 rfl kb_16 ?_
              refine ev_icmp_ge (tgt := 228) (pc' := 192) dX8_between_189 rfl rfl (fun _ => ?_) (fun h => absurd (nx_le (a := 16) (b := 16) (by omega) (by omega)) h)
              refine ev_aload_n (pc' := 229) (i := 0) dX8_between_228 rfl rfl rfl ?_
              refine ev_getR (pc' := 232) fo_X8_26 dX8_between_229 rfl hs_115 rfl rf_115_8 ?_
              refine ev_callS (pc' := 235) (rm' := rX8_worthOf) (av := [.ref 120]) (rest := []) co_X8_173 cs_X8_worthOf dX8_between_232 rfl rfl rfl (Nat.le_of_ble_eq_true rfl) ⟨(Nat.le_of_ble_eq_true rfl), (Nat.le_of_ble_eq_true rfl)⟩ ⟨(Nat.le_of_ble_eq_true rfl), (Nat.le_of_ble_eq_true rfl)⟩ ?_
              refine t_X8_worthOf 120 hs_120 ?_
              refine ev_callS (pc' := 238) (rm' := rX8_sign) (av := [.long (mW ((ma_up KK 120 (mMf (JJ 133) (JJ 134) (mTm n2 c i) (mTq n2 c i) (KK 120) 16)) 120))]) (rest := []) co_X8_156 cs_X8_sign dX8_between_235 rfl rfl rfl (Nat.le_of_ble_eq_true rfl) ⟨(Nat.le_of_ble_eq_true rfl), (Nat.le_of_ble_eq_true rfl)⟩ ⟨(Nat.le_of_ble_eq_true rfl), (Nat.le_of_ble_eq_true rfl)⟩ ?_
              refine t_X8_sign (mW ((ma_up KK 120 (mMf (JJ 133) (JJ 134) (mTm n2 c i) (mTq n2 c i) (KK 120) 16)) 120))  ?_
              refine ev_topi (fun sd hz => ?_)
              have hz : sd = mSg (mW (mMf (JJ 133) (JJ 134) (mTm n2 c i) (mTq n2 c i) (KK 120) 16)) := hz
              have hsd : sd = mSg (mW (mMx (fun k => I 123 (16 * j19 + k)) (fun k => I 123 (16 * j22 + k)) (mTm n2 c i) (mTq n2 c i))) := by rw [hz, mW_congr (mMf_16 _ _ _ hA hB)]
              refine ev_istore (pc' := 240) (lv' := [some (.ref 115), some (.int (nI j19)), some (.int (nI j22)), some (.int (nI n2)), some (.int 0), some (.int 1), some (.int (if ¬ ((J 115) 39) = 0 then 0 else ((J 115) 38))), some (.int (if ((((J 115) 39) = 0) ∧ (¬ ((J 115) 31) ≤ 0)) ∨ ((¬ ((J 115) 39) = 0) ∧ ((0 < ((J 115) 38)) ∨ (¬ ((J 115) 31) ≤ 0))) then (1 : Int32) else 0)), some (.int (nI c)), some (.int s1), some (.int s2), some (.int s3), some (.int s4), some (.int s5), some (.int (nI i - nI c)), some (.long (mTm n2 c i)), none, some (.long (mTq n2 c i)), none, some (.int sd)]) dX8_between_238 rfl (Nat.le_of_ble_eq_true rfl) rfl rfl ?_
              refine ev_iload (pc' := 242) dX8_between_240 rfl rfl ?_
              refine ev_if_ne (tgt := 248) (pc' := 245) dX8_between_242 rfl rfl (fun c83 => ?_) (fun c83 => ?_)
              · refine ev_aload_n (pc' := 249) (i := 0) dX8_between_248 rfl rfl rfl ?_
                refine ev_callV (pc' := 252) (rm' := rX8_layFour) (b := 115) (av := []) (rest := []) co_X8_188 ci_X8_layFour cv_X8_layFour dX8_between_249 rfl hs_115 hb_X8 rfl rfl (Nat.le_of_ble_eq_true rfl) ⟨(Nat.le_of_ble_eq_true rfl), (Nat.le_of_ble_eq_true rfl)⟩ ⟨(Nat.le_of_ble_eq_true rfl), (Nat.le_of_ble_eq_true rfl)⟩ ?_
                refine f_X8_layFour (fun J9 f1 f2 f3 => ?_)
                have f1 : J9 115 9 = mFA (mMf (JJ 133) (JJ 134) (mTm n2 c i) (mTq n2 c i) (KK 120) 16) := f1
                rw [mFA_congr (mMf_16 _ _ _ hA hB)] at f1
                refine ev_iload (pc' := 254) dX8_between_252 rfl rfl ?_
                refine ev_iload (pc' := 256) dX8_between_254 rfl rfl ?_
                suffices K86 : ∀ x85 : Int32, x85 = (if (¬ s4 = 0) ∧ (¬ sd = s4) then (1 : Int32) else 0) → EV g yX8_between cX8_between 20 (some .int) rX8_between (ma_ZM g rX8_between Post) 271 [some (.ref 115), some (.int (nI j19)), some (.int (nI j22)), some (.int (nI n2)), some (.int 0), some (.int 1), some (.int (if ¬ ((J 115) 39) = 0 then 0 else ((J 115) 38))), some (.int (if ((((J 115) 39) = 0) ∧ (¬ ((J 115) 31) ≤ 0)) ∨ ((¬ ((J 115) 39) = 0) ∧ ((0 < ((J 115) 38)) ∨ (¬ ((J 115) 31) ≤ 0))) then (1 : Int32) else 0)), some (.int (nI c)), some (.int s1), some (.int s2), some (.int s3), some (.int s4), some (.int s5), some (.int (nI i - nI c)), some (.long (mTm n2 c i)), none, some (.long (mTq n2 c i)), none, some (.int sd)] [.int x85, .int s5] HS J9 (ma_up KK 120 (mMf (JJ 133) (JJ 134) (mTm n2 c i) (mTq n2 c i) (KK 120) 16)) RF 146 0 0 by
                  refine ev_if_eq (tgt := 270) (pc' := 259) dX8_between_256 rfl rfl (fun c87 => ?_) (fun c87 => ?_)
                  · refine ev_iconst (pc' := 271) (v := 0) dX8_between_270 rfl ki_0 ?_
                    exact K86 _ (if_neg (fun h => (not_not_intro c87) h.1)).symm
                  · refine ev_iload (pc' := 261) dX8_between_259 rfl rfl ?_
                    refine ev_iload (pc' := 263) dX8_between_261 rfl rfl ?_
                    refine ev_icmp_eq (tgt := 270) (pc' := 266) dX8_between_263 rfl rfl (fun c88 => ?_) (fun c88 => ?_)
                    · refine ev_iconst (pc' := 271) (v := 0) dX8_between_270 rfl ki_0 ?_
                      exact K86 _ (if_neg (fun h => (not_not_intro c88) h.2)).symm
                    · refine ev_iconst (pc' := 267) (v := 1) dX8_between_266 rfl ki_1 ?_
                      refine ev_goto (tgt := 271) dX8_between_267 rfl ?_
                      exact K86 _ (if_pos (⟨c87, c88⟩)).symm
                intro x85 hx85
                subst hx85
                refine ev_iadd (pc' := 272) (v := s5 + (if (¬ s4 = 0) ∧ (¬ sd = s4) then (1 : Int32) else 0)) dX8_between_271 rfl rfl ?_
                refine ev_istore (pc' := 274) (lv' := [some (.ref 115), some (.int (nI j19)), some (.int (nI j22)), some (.int (nI n2)), some (.int 0), some (.int 1), some (.int (if ¬ ((J 115) 39) = 0 then 0 else ((J 115) 38))), some (.int (if ((((J 115) 39) = 0) ∧ (¬ ((J 115) 31) ≤ 0)) ∨ ((¬ ((J 115) 39) = 0) ∧ ((0 < ((J 115) 38)) ∨ (¬ ((J 115) 31) ≤ 0))) then (1 : Int32) else 0)), some (.int (nI c)), some (.int s1), some (.int s2), some (.int s3), some (.int s4), some (.int (s5 + (if (¬ s4 = 0) ∧ (¬ sd = s4) then (1 : Int32) else 0))), some (.int (nI i - nI c)), some (.long (mTm n2 c i)), none, some (.long (mTq n2 c i)), none, some (.int sd)]) dX8_between_272 rfl (Nat.le_of_ble_eq_true rfl) rfl rfl ?_
                refine ev_iload (pc' := 276) dX8_between_274 rfl rfl ?_
                refine ev_istore (pc' := 278) (lv' := [some (.ref 115), some (.int (nI j19)), some (.int (nI j22)), some (.int (nI n2)), some (.int 0), some (.int 1), some (.int (if ¬ ((J 115) 39) = 0 then 0 else ((J 115) 38))), some (.int (if ((((J 115) 39) = 0) ∧ (¬ ((J 115) 31) ≤ 0)) ∨ ((¬ ((J 115) 39) = 0) ∧ ((0 < ((J 115) 38)) ∨ (¬ ((J 115) 31) ≤ 0))) then (1 : Int32) else 0)), some (.int (nI c)), some (.int s1), some (.int s2), some (.int s3), some (.int sd), some (.int (s5 + (if (¬ s4 = 0) ∧ (¬ sd = s4) then (1 : Int32) else 0))), some (.int (nI i - nI c)), some (.long (mTm n2 c i)), none, some (.long (mTq n2 c i)), none, some (.int sd)]) dX8_between_276 rfl (Nat.le_of_ble_eq_true rfl) rfl rfl ?_
                refine ev_aload_n (pc' := 279) (i := 0) dX8_between_278 rfl rfl rfl ?_
                refine ev_getI (pc' := 282) (v := (J9 115) 9) fo_X8_160 dX8_between_279 rfl hs_115 rfl rfl ?_
                refine ev_iload (pc' := 284) dX8_between_282 rfl rfl ?_
                refine ev_icmp_eq (tgt := 320) (pc' := 287) dX8_between_284 rfl rfl (fun c89 => ?_) (fun c89 => ?_)
                · refine ev_iinc (pc' := 323) (v := (nI i - nI c) + 1) (lv' := [some (.ref 115), some (.int (nI j19)), some (.int (nI j22)), some (.int (nI n2)), some (.int 0), some (.int 1), some (.int (if ¬ ((J 115) 39) = 0 then 0 else ((J 115) 38))), some (.int (if ((((J 115) 39) = 0) ∧ (¬ ((J 115) 31) ≤ 0)) ∨ ((¬ ((J 115) 39) = 0) ∧ ((0 < ((J 115) 38)) ∨ (¬ ((J 115) 31) ≤ 0))) then (1 : Int32) else 0)), some (.int (nI c)), some (.int s1), some (.int s2), some (.int s3), some (.int sd), some (.int (s5 + (if (¬ s4 = 0) ∧ (¬ sd = s4) then (1 : Int32) else 0))), some (.int ((nI i - nI c) + 1)), some (.long (mTm n2 c i)), none, some (.long (mTq n2 c i)), none, some (.int sd)]) dX8_between_320 rfl rfl rfl (Nat.le_of_ble_eq_true rfl) rfl rfl ?_
                  refine ev_goto (tgt := 120) dX8_between_323 rfl ?_
                  refine ev_lvw (lv' := [some (.ref 115), some (.int (nI j19)), some (.int (nI j22)), some (.int (nI n2)), some (.int 0), some (.int 1), some (.int (if ¬ ((J 115) 39) = 0 then 0 else ((J 115) 38))), some (.int (if ((((J 115) 39) = 0) ∧ (¬ ((J 115) 31) ≤ 0)) ∨ ((¬ ((J 115) 39) = 0) ∧ ((0 < ((J 115) 38)) ∨ (¬ ((J 115) 31) ≤ 0))) then (1 : Int32) else 0)), some (.int (nI c)), some (.int s1), some (.int s2), some (.int s3), some (.int sd), some (.int (s5 + (if (¬ s4 = 0) ∧ (¬ sd = s4) then (1 : Int32) else 0))), some (.int ((nI i - nI c) + 1)), none, none, none, none, none]) ⟨rfl, ⟨rfl, ⟨rfl, ⟨rfl, ⟨rfl, ⟨rfl, ⟨rfl, ⟨rfl, ⟨rfl, ⟨rfl, ⟨rfl, ⟨rfl, ⟨rfl, ⟨rfl, ⟨rfl, trivial⟩⟩⟩⟩⟩⟩⟩⟩⟩⟩⟩⟩⟩⟩⟩ ?_
                  rw [mvc_s]
                  have c1' := c89
                  rw [f1] at c1'
                  exact ih (i + 1) _ _ _ _ _ _ _ (by omega) (by show _ = mBs _ _ (mBt _ _ _ _ _); rw [← hs, ← hsd]; unfold mBs; rw [if_neg c83]; dsimp only; rw [if_pos c1', if_pos c1', if_pos c1']) ((hJ.trans f3).le (fun a h => by simp only [List.mem_cons, List.not_mem_nil, or_false, List.cons_append, List.nil_append] at h ⊢; omega) (fun a h => by simp only [List.mem_cons, List.not_mem_nil, or_false, List.cons_append, List.nil_append] at h ⊢; omega)) (mSl.up hK List.mem_cons_self)
                · refine ev_iload (pc' := 289) dX8_between_287 rfl rfl ?_
                  refine ev_bipush (pc' := 291) (v := 9) dX8_between_289 rfl kb_9 ?_
                  suffices K92 : ∀ x91 : Int32, x91 = (if 9 ≤ s2 then s1 else ((10 * s1) + ((J9 115) 9))) → EV g yX8_between cX8_between 20 (some .int) rX8_between (ma_ZM g rX8_between Post) 309 [some (.ref 115), some (.int (nI j19)), some (.int (nI j22)), some (.int (nI n2)), some (.int 0), some (.int 1), some (.int (if ¬ ((J 115) 39) = 0 then 0 else ((J 115) 38))), some (.int (if ((((J 115) 39) = 0) ∧ (¬ ((J 115) 31) ≤ 0)) ∨ ((¬ ((J 115) 39) = 0) ∧ ((0 < ((J 115) 38)) ∨ (¬ ((J 115) 31) ≤ 0))) then (1 : Int32) else 0)), some (.int (nI c)), some (.int s1), some (.int s2), some (.int s3), some (.int sd), some (.int (s5 + (if (¬ s4 = 0) ∧ (¬ sd = s4) then (1 : Int32) else 0))), some (.int (nI i - nI c)), some (.long (mTm n2 c i)), none, some (.long (mTq n2 c i)), none, some (.int sd)] [.int x91] HS J9 (ma_up KK 120 (mMf (JJ 133) (JJ 134) (mTm n2 c i) (mTq n2 c i) (KK 120) 16)) RF 146 0 0 by
                    refine ev_icmp_ge (tgt := 307) (pc' := 294) dX8_between_291 rfl rfl (fun c93 => ?_) (fun c93 => ?_)
                    · refine ev_iload (pc' := 309) dX8_between_307 rfl rfl ?_
                      exact K92 _ (by rw [if_pos c93])
                    · refine ev_bipush (pc' := 296) (v := 10) dX8_between_294 rfl kb_10 ?_
                      refine ev_iload (pc' := 298) dX8_between_296 rfl rfl ?_
                      refine ev_imul (pc' := 299) (v := 10 * s1) dX8_between_298 rfl rfl ?_
                      refine ev_aload_n (pc' := 300) (i := 0) dX8_between_299 rfl rfl rfl ?_
                      refine ev_getI (pc' := 303) (v := (J9 115) 9) fo_X8_160 dX8_between_300 rfl hs_115 rfl rfl ?_
                      refine ev_iadd (pc' := 304) (v := (10 * s1) + ((J9 115) 9)) dX8_between_303 rfl rfl ?_
                      refine ev_goto (tgt := 309) dX8_between_304 rfl ?_
                      exact K92 _ (by rw [if_neg c93])
                  intro x91 hx91
                  subst hx91
                  refine ev_istore (pc' := 311) (lv' := [some (.ref 115), some (.int (nI j19)), some (.int (nI j22)), some (.int (nI n2)), some (.int 0), some (.int 1), some (.int (if ¬ ((J 115) 39) = 0 then 0 else ((J 115) 38))), some (.int (if ((((J 115) 39) = 0) ∧ (¬ ((J 115) 31) ≤ 0)) ∨ ((¬ ((J 115) 39) = 0) ∧ ((0 < ((J 115) 38)) ∨ (¬ ((J 115) 31) ≤ 0))) then (1 : Int32) else 0)), some (.int (nI c)), some (.int (if 9 ≤ s2 then s1 else ((10 * s1) + ((J9 115) 9)))), some (.int s2), some (.int s3), some (.int sd), some (.int (s5 + (if (¬ s4 = 0) ∧ (¬ sd = s4) then (1 : Int32) else 0))), some (.int (nI i - nI c)), some (.long (mTm n2 c i)), none, some (.long (mTq n2 c i)), none, some (.int sd)]) dX8_between_309 rfl (Nat.le_of_ble_eq_true rfl) rfl rfl ?_
                  refine ev_iinc (pc' := 314) (v := s2 + 1) (lv' := [some (.ref 115), some (.int (nI j19)), some (.int (nI j22)), some (.int (nI n2)), some (.int 0), some (.int 1), some (.int (if ¬ ((J 115) 39) = 0 then 0 else ((J 115) 38))), some (.int (if ((((J 115) 39) = 0) ∧ (¬ ((J 115) 31) ≤ 0)) ∨ ((¬ ((J 115) 39) = 0) ∧ ((0 < ((J 115) 38)) ∨ (¬ ((J 115) 31) ≤ 0))) then (1 : Int32) else 0)), some (.int (nI c)), some (.int (if 9 ≤ s2 then s1 else ((10 * s1) + ((J9 115) 9)))), some (.int (s2 + 1)), some (.int s3), some (.int sd), some (.int (s5 + (if (¬ s4 = 0) ∧ (¬ sd = s4) then (1 : Int32) else 0))), some (.int (nI i - nI c)), some (.long (mTm n2 c i)), none, some (.long (mTq n2 c i)), none, some (.int sd)]) dX8_between_311 rfl rfl rfl (Nat.le_of_ble_eq_true rfl) rfl rfl ?_
                  refine ev_aload_n (pc' := 315) (i := 0) dX8_between_314 rfl rfl rfl ?_
                  refine ev_getI (pc' := 318) (v := (J9 115) 9) fo_X8_160 dX8_between_315 rfl hs_115 rfl rfl ?_
                  refine ev_istore (pc' := 320) (lv' := [some (.ref 115), some (.int (nI j19)), some (.int (nI j22)), some (.int (nI n2)), some (.int 0), some (.int 1), some (.int (if ¬ ((J 115) 39) = 0 then 0 else ((J 115) 38))), some (.int (if ((((J 115) 39) = 0) ∧ (¬ ((J 115) 31) ≤ 0)) ∨ ((¬ ((J 115) 39) = 0) ∧ ((0 < ((J 115) 38)) ∨ (¬ ((J 115) 31) ≤ 0))) then (1 : Int32) else 0)), some (.int (nI c)), some (.int (if 9 ≤ s2 then s1 else ((10 * s1) + ((J9 115) 9)))), some (.int (s2 + 1)), some (.int ((J9 115) 9)), some (.int sd), some (.int (s5 + (if (¬ s4 = 0) ∧ (¬ sd = s4) then (1 : Int32) else 0))), some (.int (nI i - nI c)), some (.long (mTm n2 c i)), none, some (.long (mTq n2 c i)), none, some (.int sd)]) dX8_between_318 rfl (Nat.le_of_ble_eq_true rfl) rfl rfl ?_
                  refine ev_iinc (pc' := 323) (v := (nI i - nI c) + 1) (lv' := [some (.ref 115), some (.int (nI j19)), some (.int (nI j22)), some (.int (nI n2)), some (.int 0), some (.int 1), some (.int (if ¬ ((J 115) 39) = 0 then 0 else ((J 115) 38))), some (.int (if ((((J 115) 39) = 0) ∧ (¬ ((J 115) 31) ≤ 0)) ∨ ((¬ ((J 115) 39) = 0) ∧ ((0 < ((J 115) 38)) ∨ (¬ ((J 115) 31) ≤ 0))) then (1 : Int32) else 0)), some (.int (nI c)), some (.int (if 9 ≤ s2 then s1 else ((10 * s1) + ((J9 115) 9)))), some (.int (s2 + 1)), some (.int ((J9 115) 9)), some (.int sd), some (.int (s5 + (if (¬ s4 = 0) ∧ (¬ sd = s4) then (1 : Int32) else 0))), some (.int ((nI i - nI c) + 1)), some (.long (mTm n2 c i)), none, some (.long (mTq n2 c i)), none, some (.int sd)]) dX8_between_320 rfl rfl rfl (Nat.le_of_ble_eq_true rfl) rfl rfl ?_
                  refine ev_goto (tgt := 120) dX8_between_323 rfl ?_
                  refine ev_lvw (lv' := [some (.ref 115), some (.int (nI j19)), some (.int (nI j22)), some (.int (nI n2)), some (.int 0), some (.int 1), some (.int (if ¬ ((J 115) 39) = 0 then 0 else ((J 115) 38))), some (.int (if ((((J 115) 39) = 0) ∧ (¬ ((J 115) 31) ≤ 0)) ∨ ((¬ ((J 115) 39) = 0) ∧ ((0 < ((J 115) 38)) ∨ (¬ ((J 115) 31) ≤ 0))) then (1 : Int32) else 0)), some (.int (nI c)), some (.int (if 9 ≤ s2 then s1 else ((10 * s1) + ((J9 115) 9)))), some (.int (s2 + 1)), some (.int ((J9 115) 9)), some (.int sd), some (.int (s5 + (if (¬ s4 = 0) ∧ (¬ sd = s4) then (1 : Int32) else 0))), some (.int ((nI i - nI c) + 1)), none, none, none, none, none]) ⟨rfl, ⟨rfl, ⟨rfl, ⟨rfl, ⟨rfl, ⟨rfl, ⟨rfl, ⟨rfl, ⟨rfl, ⟨rfl, ⟨rfl, ⟨rfl, ⟨rfl, ⟨rfl, ⟨rfl, trivial⟩⟩⟩⟩⟩⟩⟩⟩⟩⟩⟩⟩⟩⟩⟩ ?_
                  rw [mvc_s]
                  have c1' := c89
                  rw [f1] at c1'
                  exact ih (i + 1) _ _ _ _ _ _ _ (by omega) (by show _ = mBs _ _ (mBt _ _ _ _ _); rw [← hs, ← hsd, f1]; unfold mBs; rw [if_neg c83]; dsimp only; rw [if_neg c1', if_neg c1', if_neg c1']) ((hJ.trans f3).le (fun a h => by simp only [List.mem_cons, List.not_mem_nil, or_false, List.cons_append, List.nil_append] at h ⊢; omega) (fun a h => by simp only [List.mem_cons, List.not_mem_nil, or_false, List.cons_append, List.nil_append] at h ⊢; omega)) (mSl.up hK List.mem_cons_self)
              · refine ev_goto (tgt := 320) dX8_between_245 rfl ?_
                refine ev_iinc (pc' := 323) (v := (nI i - nI c) + 1) (lv' := [some (.ref 115), some (.int (nI j19)), some (.int (nI j22)), some (.int (nI n2)), some (.int 0), some (.int 1), some (.int (if ¬ ((J 115) 39) = 0 then 0 else ((J 115) 38))), some (.int (if ((((J 115) 39) = 0) ∧ (¬ ((J 115) 31) ≤ 0)) ∨ ((¬ ((J 115) 39) = 0) ∧ ((0 < ((J 115) 38)) ∨ (¬ ((J 115) 31) ≤ 0))) then (1 : Int32) else 0)), some (.int (nI c)), some (.int s1), some (.int s2), some (.int s3), some (.int s4), some (.int s5), some (.int ((nI i - nI c) + 1)), some (.long (mTm n2 c i)), none, some (.long (mTq n2 c i)), none, some (.int sd)]) dX8_between_320 rfl rfl rfl (Nat.le_of_ble_eq_true rfl) rfl rfl ?_
                refine ev_goto (tgt := 120) dX8_between_323 rfl ?_
                refine ev_lvw (lv' := [some (.ref 115), some (.int (nI j19)), some (.int (nI j22)), some (.int (nI n2)), some (.int 0), some (.int 1), some (.int (if ¬ ((J 115) 39) = 0 then 0 else ((J 115) 38))), some (.int (if ((((J 115) 39) = 0) ∧ (¬ ((J 115) 31) ≤ 0)) ∨ ((¬ ((J 115) 39) = 0) ∧ ((0 < ((J 115) 38)) ∨ (¬ ((J 115) 31) ≤ 0))) then (1 : Int32) else 0)), some (.int (nI c)), some (.int s1), some (.int s2), some (.int s3), some (.int s4), some (.int s5), some (.int ((nI i - nI c) + 1)), none, none, none, none, none]) ⟨rfl, ⟨rfl, ⟨rfl, ⟨rfl, ⟨rfl, ⟨rfl, ⟨rfl, ⟨rfl, ⟨rfl, ⟨rfl, ⟨rfl, ⟨rfl, ⟨rfl, ⟨rfl, ⟨rfl, trivial⟩⟩⟩⟩⟩⟩⟩⟩⟩⟩⟩⟩⟩⟩⟩ ?_
                rw [mvc_s]
                exact ih (i + 1) _ _ _ _ _ _ _ (by omega) (by show _ = mBs _ _ (mBt _ _ _ _ _); rw [← hs, ← hsd]; exact (if_pos c83).symm) hJ (mSl.up hK List.mem_cons_self)
            | succ d5 ih5 =>
              intro k hk
              refine ev_iload (pc' := 187) dX8_between_185 rfl rfl ?_
              refine ev_bipush (pc' := 189) (v := 16) dX8_between_187 rfl kb_16 ?_
              refine ev_icmp_ge (tgt := 228) (pc' := 192) dX8_between_189 rfl rfl (fun h => absurd h (nx_nle (a := 16) (b := k) (by omega) (by omega))) (fun _ => ?_)
              refine ev_aload_n (pc' := 193) (i := 0) dX8_between_192 rfl rfl rfl ?_
              refine ev_getR (pc' := 196) fo_X8_26 dX8_between_193 rfl hs_115 rfl rf_115_8 ?_
              refine ev_iload (pc' := 198) dX8_between_196 rfl rfl ?_
              refine ev_aload_n (pc' := 199) (i := 0) dX8_between_198 rfl rfl rfl ?_
              refine ev_getR (pc' := 202) fo_X8_67 dX8_between_199 rfl hs_115 rfl rf_115_24 ?_
              refine ev_iload (pc' := 204) dX8_between_202 rfl rfl ?_
              refine ev_iald (pc' := 205) (j := k) (v := (JJ 133) k) dX8_between_204 rfl hs_133 rfl (by omega) (Nat.le_of_ble_eq_true rfl) rfl ?_
              refine ev_i2l (pc' := 206) (v := Int32.toInt64 ((JJ 133) k)) dX8_between_205 rfl rfl ?_
              refine ev_lload (pc' := 208) dX8_between_206 rfl rfl ?_
              refine ev_lmul (pc' := 209) (v := (Int32.toInt64 ((JJ 133) k)) * (mTm n2 c i)) dX8_between_208 rfl rfl ?_
              refine ev_aload_n (pc' := 210) (i := 0) dX8_between_209 rfl rfl rfl ?_
              refine ev_getR (pc' := 213) fo_X8_70 dX8_between_210 rfl hs_115 rfl rf_115_25 ?_
              refine ev_iload (pc' := 215) dX8_between_213 rfl rfl ?_
              refine ev_iald (pc' := 216) (j := k) (v := (JJ 134) k) dX8_between_215 rfl hs_134 rfl (by omega) (Nat.le_of_ble_eq_true rfl) rfl ?_
              refine ev_i2l (pc' := 217) (v := Int32.toInt64 ((JJ 134) k)) dX8_between_216 rfl rfl ?_
              refine ev_lload (pc' := 219) dX8_between_217 rfl rfl ?_
              refine ev_lmul (pc' := 220) (v := (Int32.toInt64 ((JJ 134) k)) * (mTq n2 c i)) dX8_between_219 rfl rfl ?_
              refine ev_ladd (pc' := 221) (v := ((Int32.toInt64 ((JJ 133) k)) * (mTm n2 c i)) + ((Int32.toInt64 ((JJ 134) k)) * (mTq n2 c i))) dX8_between_220 rfl rfl ?_
              refine ev_last (pc' := 222) (j := k) (L' := (ma_up KK 120 (ma_up (mMf (JJ 133) (JJ 134) (mTm n2 c i) (mTq n2 c i) (KK 120) k) k (((Int32.toInt64 ((JJ 133) k)) * (mTm n2 c i)) + ((Int32.toInt64 ((JJ 134) k)) * (mTq n2 c i)))))) dX8_between_221 rfl hs_120 rfl (by omega) (Nat.le_of_ble_eq_true rfl) (ma_up_up _ _ _ _) ?_
              refine ev_iinc (pc' := 225) (v := nI (k + 1)) (lv' := [some (.ref 115), some (.int (nI j19)), some (.int (nI j22)), some (.int (nI n2)), some (.int 0), some (.int 1), some (.int (if ¬ ((J 115) 39) = 0 then 0 else ((J 115) 38))), some (.int (if ((((J 115) 39) = 0) ∧ (¬ ((J 115) 31) ≤ 0)) ∨ ((¬ ((J 115) 39) = 0) ∧ ((0 < ((J 115) 38)) ∨ (¬ ((J 115) 31) ≤ 0))) then (1 : Int32) else 0)), some (.int (nI c)), some (.int s1), some (.int s2), some (.int s3), some (.int s4), some (.int s5), some (.int (nI i - nI c)), some (.long (mTm n2 c i)), none, some (.long (mTq n2 c i)), none, some (.int (nI (k + 1)))]) dX8_between_222 rfl rfl (nI_add k 1) (Nat.le_of_ble_eq_true rfl) rfl rfl ?_
              refine ev_goto (tgt := 185) dX8_between_225 rfl ?_
              refine ev_memL (fun x hx => ?_)
              have hx := hx.trans (congrArg (ma_up KK 120) (mMf_s (JJ 133) (JJ 134) (mTm n2 c i) (mTq n2 c i) (KK 120) k))
              subst hx
              exact ih5 (k + 1) (by omega)
    · subst e29
      refine ev_istore (pc' := 20) (lv' := [some (.ref 115), some (.int (nI j27)), some (.int r), some (.int (nI n2)), some (.int (-1)), none, none, none, none, none, none, none, none, none, none, none, none, none, none, none]) dX8_between_18 rfl (Nat.le_of_ble_eq_true rfl) rfl rfl ?_
      refine ev_iload (pc' := 22) dX8_between_20 rfl rfl ?_
      refine ev_if_ge (tgt := 28) (pc' := 25) dX8_between_22 rfl rfl (fun h => absurd h (by decide)) (fun _ => ?_)
      refine ev_iload (pc' := 27) dX8_between_25 rfl rfl ?_
      refine ev_iret dX8_between_27 rfl rfl ⟨Nat.le_refl _, Nat.le_refl _⟩ ?_
      exact k6 n2 gn2 hn2 rfl j27 h28 rfl h30
  · refine ev_iconst (pc' := 11) (v := (-1)) dX8_between_10 rfl ki_m1 ?_
    refine ev_iret dX8_between_11 rfl rfl ⟨Nat.le_refl _, Nat.le_refl _⟩ ?_
    exact k7 c1
