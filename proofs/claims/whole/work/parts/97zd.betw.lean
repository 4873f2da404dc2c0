theorem mSb_n {a b : Int32} {x y : Nat} (ha : a = nI x) (hx : x ≤ 1) (hb : b = nI y) (hy : y ≤ 1) : ∀ k j, ∃ v, v ≤ 2 ^ k ∧ mSb a b k j = nI v
  | 0, j => by
    by_cases c : j = 0
    · exact ⟨x, by omega, by unfold mSb; rw [if_pos c]; exact ha⟩
    · exact ⟨y, by omega, by unfold mSb; rw [if_neg c]; exact hb⟩
  | k + 1, j => by
    by_cases c : j % 2 = 0
    · obtain ⟨v, h1, h2⟩ := mSb_n ha hx hb hy k (j / 2)
      exact ⟨v, by rw [Nat.pow_succ]; omega, by unfold mSb; rw [if_pos c]; exact h2⟩
    · obtain ⟨v, h1, h2⟩ := mSb_n ha hx hb hy k (j / 2)
      obtain ⟨v', h1', h2'⟩ := mSb_n ha hx hb hy k (j / 2 + 1)
      exact ⟨v' + v, by rw [Nat.pow_succ]; omega, by unfold mSb; rw [if_neg c, h2, h2']; exact nI_add v' v⟩
theorem pw8 {n : Nat} (h : n < 9) : 2 ^ n ≤ 256 := Nat.le_trans (Nat.pow_le_pow_right (by decide) (show n ≤ 8 by omega)) (by decide)
theorem i2l_v {v : Nat} (h : v ≤ 256) : Int32.toInt64 (nI v) = Int64.ofInt (v : Int) ∧ Int32.toInt64 (-(nI v)) = Int64.ofInt (-(v : Int)) := by
  have e := nI_toInt (n := v) (by omega)
  refine ⟨by rw [i2l_o, e], ?_⟩
  rw [i2l_o, Int32.toInt_neg, e, nb_bmod (by omega) (by omega)]
theorem mTm_z {n : Nat} (hn : n < 9) (c i : Nat) : ∃ M : Int, M.natAbs ≤ 256 ∧ mTm n c i = Int64.ofInt M := by
  have p8 := pw8 hn
  unfold mTm
  by_cases h : i < c
  · obtain ⟨v, h1, h2⟩ := mSb_n (a := 0) (b := 1) (x := 0) (y := 1) rfl (by omega) rfl (by omega) n (c - i)
    exact ⟨-(v : Int), by omega, by rw [if_pos h, h2]; exact (i2l_v (by omega)).2⟩
  · obtain ⟨v, h1, h2⟩ := mSb_n (a := 0) (b := 1) (x := 0) (y := 1) rfl (by omega) rfl (by omega) n (i - c)
    exact ⟨(v : Int), by omega, by rw [if_neg h, h2]; exact (i2l_v (by omega)).1⟩
theorem mTq_z {n : Nat} (hn : n < 9) (c i : Nat) : ∃ M : Int, M.natAbs ≤ 256 ∧ mTq n c i = Int64.ofInt M := by
  have p8 := pw8 hn
  unfold mTq
  by_cases h : i < c
  · obtain ⟨v, h1, h2⟩ := mSb_n (a := 1) (b := 0) (x := 1) (y := 0) rfl (by omega) rfl (by omega) n (c - i)
    exact ⟨(v : Int), by omega, by rw [if_pos h, h2]; exact (i2l_v (by omega)).1⟩
  · obtain ⟨v, h1, h2⟩ := mSb_n (a := 1) (b := 0) (x := 1) (y := 0) rfl (by omega) rfl (by omega) n (i - c)
    exact ⟨(v : Int), by omega, by rw [if_neg h, h2]; exact (i2l_v (by omega)).1⟩
theorem mMx_z (a b : Nat → Int32) {m q : Int64} {M Q : Int} (hm : m = Int64.ofInt M) (hq : q = Int64.ofInt Q) (j : Nat) : mMx a b m q j = Int64.ofInt (pz a j * M + pz b j * Q) := by
  unfold mMx pz
  rw [i2l_o, i2l_o, hm, hq, ← Int64.ofInt_mul, ← Int64.ofInt_mul, ← Int64.ofInt_add]
theorem bt_sd {f : Nat → Int64} {a b : Nat → Int32} (hf : ∀ j, j < 5 → f j = Int64.ofInt (zF (pz a) (pz b) j)) {m q : Int64} {M Q : Int} (hm : m = Int64.ofInt M) (hq : q = Int64.ofInt Q) : mAt4 f m q = mW (mMx a b m q) := by
  have e : mAt4 f m q = Int64.ofInt (hv (zF (pz a) (pz b)) M Q 4) := mAt_z (m := 4) hm hq (by decide) (fun j hj => hf j (by omega))
  rw [e, mW_z (w := fun j => pz a j * M + pz b j * Q) (fun j _ => mMx_z a b hm hq j), zF_w, hv4]
theorem bt_ab {A B : Nat → Int64} {a b : Nat → Int32} (hA : ∀ j, j < 16 → A j = Int32.toInt64 (a j)) (hB : ∀ j, j < 16 → B j = Int32.toInt64 (b j)) (ba : ∀ j, j < 16 → (pz a j).natAbs ≤ 4) (bb : ∀ j, j < 16 → (pz b j).natAbs ≤ 4) (sa : ∀ x y, x < 4 → y < 4 → pz a (4 * x + y) = pz a (4 * y + x)) (sb : ∀ x y, x < 4 → y < 4 → pz b (4 * x + y) = pz b (4 * y + x)) {m q : Int64} {M Q : Int} (hm : m = Int64.ofInt M) (hq : q = Int64.ofInt Q) (bM : M.natAbs ≤ 256) (bQ : Q.natAbs ≤ 256) : cAv (cSm A B m q) = mFA (mMx a b m q) := by
  have sw : ∀ x y, x < 4 → y < 4 → (fun j => pz a j * M + pz b j * Q) (4 * x + y) = (fun j => pz a j * M + pz b j * Q) (4 * y + x) := fun x y hx hy => by dsimp only; rw [sa x y hx hy, sb x y hx hy]
  have zb : zB (fun j => pz a j * M + pz b j * Q) 2048 := fun j hj => na_ (nm_ (ba j hj) bM) (nm_ (bb j hj) bQ)
  have k := av_ok (zOk_b zb (by decide))
  rw [cAv_c (t' := zt (fun j => pz a j * M + pz b j * Q)) (fun j hj => ?_), mFA_congr (t' := zt (fun j => pz a j * M + pz b j * Q)) (fun j hj => ?_), k.1]
  · rw [mMx_z a b hm hq j]; exact zt_w (w := fun j => pz a j * M + pz b j * Q) sw j hj
  · rw [← zt_w (w := fun j => pz a j * M + pz b j * Q) sw j hj]
    unfold cSm pz
    rw [hA j hj, hB j hj, i2l_o, i2l_o, hm, hq, ← Int64.ofInt_mul, ← Int64.ofInt_mul, ← Int64.ofInt_add]
/-- class and reference on the way through the tree -/
def Rb (x y : mB5) (i : Nat) : Prop := x.1 = y.1 ∧ (∃ F, F ≤ i ∧ y.2.1 = nI F ∧ x.2.1 = nI (min F 9)) ∧ x.2.2.1 = y.2.2.1 ∧ x.2.2.2.1 = y.2.2.2.1 ∧ x.2.2.2.2 = y.2.2.2.2 ∧ ∃ C, C ≤ i ∧ y.2.2.2.2 = nI C
theorem nI9 {n : Nat} (h : n < 2000) : (9 : Int32) ≤ nI n ↔ 9 ≤ n := by
  rw [nb_le, nI_toInt (by omega)]
  have : (9 : Int32).toInt = 9 := by decide
  omega
theorem Rb_s {x y : mB5} {i : Nat} (h : Rb x y i) (hi : i < 1500) (sd ab : Int32) : Rb (cBs sd ab x) (mBs sd ab y) (i + 1) := by
  obtain ⟨h1, ⟨F, hF, e1, e2⟩, h3, h4, h5, C, hC, e3⟩ := h
  unfold cBs mBs
  by_cases c : sd = 0
  · rw [if_pos c, if_pos c]
    exact ⟨h1, ⟨F, by omega, e1, e2⟩, h3, h4, h5, C, by omega, e3⟩
  · rw [if_neg c, if_neg c, h1, h3, h4, h5]
    have q9 : (9 : Int32) ≤ x.2.1 ↔ (9 : Int32) ≤ y.2.1 := by rw [e1, e2, nI9 (by omega), nI9 (by omega)]; omega
    refine ⟨?_, ?_, ?_, rfl, ?_, ?_⟩
    · show (if ab = y.2.2.1 then y.1 else (if 9 ≤ x.2.1 then y.1 else 10 * y.1 + ab)) = (if ab = y.2.2.1 then y.1 else (if 9 ≤ y.2.1 then y.1 else 10 * y.1 + ab))
      simp only [q9]
    · show ∃ F', F' ≤ i + 1 ∧ (if ab = y.2.2.1 then y.2.1 else y.2.1 + 1) = nI F' ∧ (if ab = y.2.2.1 then x.2.1 else (if 9 ≤ x.2.1 then x.2.1 else x.2.1 + 1)) = nI (min F' 9)
      by_cases c1 : ab = y.2.2.1
      · rw [if_pos c1, if_pos c1]; exact ⟨F, by omega, e1, e2⟩
      · rw [if_neg c1, if_neg c1]
        refine ⟨F + 1, by omega, by rw [e1]; exact nI_add F 1, ?_⟩
        by_cases c2 : 9 ≤ x.2.1
        · rw [if_pos c2, e2]
          rw [e2, nI9 (by omega)] at c2
          rw [show min (F + 1) 9 = min F 9 by omega]
        · rw [if_neg c2, e2]
          rw [e2, nI9 (by omega)] at c2
          rw [show min (F + 1) 9 = min F 9 + 1 by omega]
          exact nI_add (min F 9) 1
    · show ab = (if ab = y.2.2.1 then y.2.2.1 else ab)
      by_cases c1 : ab = y.2.2.1
      · rw [if_pos c1]; exact c1
      · rw [if_neg c1]
    · show (if y.2.2.2.1 = 0 then y.2.2.2.2 else (if sd = y.2.2.2.1 then y.2.2.2.2 else y.2.2.2.2 + 1)) = y.2.2.2.2 + (if (¬ y.2.2.2.1 = 0) ∧ (¬ sd = y.2.2.2.1) then (1 : Int32) else 0)
      by_cases c1 : y.2.2.2.1 = 0
      · rw [if_pos c1, if_neg (fun z => z.1 c1), Int32.add_zero]
      · rw [if_neg c1]
        by_cases c2 : sd = y.2.2.2.1
        · rw [if_pos c2, if_neg (fun z => z.2 c2), Int32.add_zero]
        · rw [if_neg c2, if_pos ⟨c1, c2⟩]
    · show ∃ C', C' ≤ i + 1 ∧ y.2.2.2.2 + (if (¬ y.2.2.2.1 = 0) ∧ (¬ sd = y.2.2.2.1) then (1 : Int32) else 0) = nI C'
      by_cases c1 : (¬ y.2.2.2.1 = 0) ∧ (¬ sd = y.2.2.2.1)
      · rw [if_pos c1, e3]; exact ⟨C + 1, by omega, nI_add C 1⟩
      · rw [if_neg c1, e3, Int32.add_zero]; exact ⟨C, by omega, rfl⟩
theorem bt_sim {f A B : Nat → Int64} {a b : Nat → Int32} (hf : ∀ j, j < 5 → f j = Int64.ofInt (zF (pz a) (pz b) j)) (hA : ∀ j, j < 16 → A j = Int32.toInt64 (a j)) (hB : ∀ j, j < 16 → B j = Int32.toInt64 (b j)) (ba : ∀ j, j < 16 → (pz a j).natAbs ≤ 4) (bb : ∀ j, j < 16 → (pz b j).natAbs ≤ 4) (sa : ∀ x y, x < 4 → y < 4 → pz a (4 * x + y) = pz a (4 * y + x)) (sb : ∀ x y, x < 4 → y < 4 → pz b (4 * x + y) = pz b (4 * y + x)) {n : Nat} (hn : n < 9) (c : Nat) : ∀ i, i < 1500 → Rb (cBt f A B n c i) (mBt a b n c i) i
  | 0, _ => ⟨rfl, ⟨0, by omega, rfl, rfl⟩, rfl, rfl, rfl, 0, by omega, rfl⟩
  | i + 1, hi => by
    obtain ⟨M, m1, m2⟩ := mTm_z hn c i
    obtain ⟨Q, q1, q2⟩ := mTq_z hn c i
    have ih := bt_sim hf hA hB ba bb sa sb hn c i (by omega)
    unfold cBt mBt
    rw [bt_sd hf m2 q2, bt_ab hA hB ba bb sa sb m2 q2 m1 q1]
    exact Rb_s ih (by omega) _ _
noncomputable def bt_ (s : sG) (g h n : Nat) : mB5 := mBt (fun k => s.1 123 (16 * g + k)) (fun k => s.1 123 (16 * h + k)) n (2 ^ n - 1) (2 * (2 ^ n - 1) + 1)
noncomputable def F_between (s : sG) (q r n : Int32) : Int32 × sG := cIf (1 ≤ n.toInt ∧ n.toInt ≤ 8) (match gP s q r with
  | .inl r => r
  | .inr (g, h) => (cIf (∀ k, k ≤ 4 → zf s g h k = 0) (-6) (if (bt_ s g h n.toInt.toNat).2.2.2.2 = (if zf s g h 0 = 0 then cS1 (pzF (zf s g h)) else cS0 (pzF (zf s g h))) then (bt_ s g h n.toInt.toNat).1 else -6), sA s (bt_ s g h n.toInt.toNat).1)) (-1, s)
theorem W_between {s : sG} (h : wF s) (a1 a2 a3 : Int32) : wF (F_between s a1 a2 a3).2 := by
  unfold F_between
  refine wF_cIf ?_ h
  split
  · rename_i e; exact gP_w h e
  · exact wF_A h _
theorem btn_t {n : Nat} (h : n < 9) : (nI n).toInt.toNat = n := by rw [nI_toInt (by omega)]; omega
theorem btn_y {n : Nat} (h1 : 1 ≤ n) (h2 : n < 9) : 1 ≤ (nI n).toInt ∧ (nI n).toInt ≤ 8 := by rw [nI_toInt (by omega)]; omega
theorem btn_1 : (1 : Int32).toInt = 1 := by decide
theorem btn_8 : (8 : Int32).toInt = 8 := by decide
theorem btn_n1 {n : Int32} (h : n < 1) : ¬ (1 ≤ n.toInt ∧ n.toInt ≤ 8) := by rw [nb_lt, btn_1] at h; omega
theorem btn_n8 {n : Int32} (h : ¬ n ≤ 8) : ¬ (1 ≤ n.toInt ∧ n.toInt ≤ 8) := by rw [nb_le, btn_8] at h; omega
theorem btn_m {n : Int32} (h : ¬ ((¬ n < 1) ∧ (¬ 8 < n))) : ¬ (1 ≤ n.toInt ∧ n.toInt ≤ 8) := by rw [nb_lt, nb_lt, btn_1, btn_8] at h; omega
theorem bt_C {s : sG} {I : ma_I} {L : ma_L} (hW : wF s) (hC : ∀ g, g < 12 → rcG s I L g) {g h n c : Nat} (hg : g < 12) (hh : h < 12) (hn : n < 9) (hc : c + 1 = 2 ^ n) {f : Nat → Int64} (hf : ∀ j, j < 5 → f j = Int64.ofInt (zf s g h j)) {x1 x2 x3 x4 x5 : Int32} (e : (x1, x2, x3, x4, x5) = cBt f (L (57 + 5 * g)) (L (57 + 5 * h)) n c (2 * c + 1)) : x1 = (bt_ s g h n).1 ∧ x5 = (bt_ s g h n).2.2.2.2 := by
  have p8 := pw8 hn
  have k := bt_sim (f := f) (A := L (57 + 5 * g)) (B := L (57 + 5 * h)) (a := fun k => s.1 123 (16 * g + k)) (b := fun k => s.1 123 (16 * h + k)) hf (hC g hg).2.1 (hC h hh).2.1 (tz_b (hW.2.1 g hg)) (tz_b (hW.2.1 h hh)) (tz_s (hW.2.1 g hg)) (tz_s (hW.2.1 h hh)) hn c (2 * c + 1) (by omega)
  unfold bt_
  rw [show 2 ^ n - 1 = c by omega]
  rw [← e] at k
  exact ⟨k.1, k.2.2.2.2.1⟩
theorem bt_M {s : sG} (hW : wF s) {g h n c : Nat} (hg : g < 12) (hh : h < 12) (hn : n < 9) (hc : c + 1 = 2 ^ n) {x1 x2 x3 x4 x5 : Int32} (e : (x1, x2, x3, x4, x5) = mBt (fun k => s.1 123 (16 * g + k)) (fun k => s.1 123 (16 * h + k)) n c (2 * c + 1)) : x1 = (bt_ s g h n).1 ∧ x5 = (bt_ s g h n).2.2.2.2 ∧ 0 ≤ x5 := by
  have p8 := pw8 hn
  have k := bt_sim (f := fun j => Int64.ofInt (zf s g h j)) (A := fun j => Int32.toInt64 (s.1 123 (16 * g + j))) (B := fun j => Int32.toInt64 (s.1 123 (16 * h + j))) (a := fun k => s.1 123 (16 * g + k)) (b := fun k => s.1 123 (16 * h + k)) (fun _ _ => rfl) (fun _ _ => rfl) (fun _ _ => rfl) (tz_b (hW.2.1 g hg)) (tz_b (hW.2.1 h hh)) (tz_s (hW.2.1 g hg)) (tz_s (hW.2.1 h hh)) hn c (2 * c + 1) (by omega)
  unfold bt_
  rw [show 2 ^ n - 1 = c by omega, ← e]
  refine ⟨rfl, rfl, ?_⟩
  rw [← e] at k
  obtain ⟨C, c1, c2⟩ := k.2.2.2.2.2
  show 0 ≤ x5
  have c2 : x5 = nI C := c2
  rw [c2, nb_le, nI_toInt (by omega), nb_0]; omega
theorem ob_bt {I J JJ : ma_I} {L K KK : ma_L} {X Y : Nat → Int32} (hx : mSx [133, 134, 141] [36, 31, 35, 38, 39] I J) (hl : mSl [132, 120, 142, 139, 140, 138, 136, 137] L K) (hx' : mSx [121] [9, 10] (ma_up (ma_up J 146 X) 147 Y) JJ) (hl' : mSl [120] K KK) : ob JJ KK = ob I L := by
  have e : oI (ma_up (ma_up J 146 X) 147 Y) = oI J := oI_s (fun a q => by
    have n1 : a ≠ 147 := fun e => by rw [e] at q; cases q
    have n2 : a ≠ 146 := fun e => by rw [e] at q; cases q
    rw [ma_up_n _ _ n1, ma_up_n _ _ n2]) (fun k q => by rw [ma_up_n _ _ (by decide), ma_up_n _ _ (by decide)])
  unfold ob
  rw [oI_sx hx' rfl rfl, oL_sl hl' rfl, e, oI_sx hx rfl rfl, oL_sl hl rfl]
theorem cS_bt {I J JJ : ma_I} {L K KK : ma_L} {X Y : Nat → Int32} (hx : mSx [133, 134, 141] [36, 31, 35, 38, 39] I J) (hl : mSl [132, 120, 142, 139, 140, 138, 136, 137] L K) (hx' : mSx [121] [9, 10] (ma_up (ma_up J 146 X) 147 Y) JJ) (hl' : mSl [120] K KK) : cS I L JJ KK :=
  cS_tr (cS_up (cS_up (cS_sx hx hl rfl rfl) (by omega)) (by omega)) (cS_sx hx' hl' rfl rfl)
theorem bb_if {α : Type} {F : Int} {bb : Nat} (h : F = 0 ↔ ¬ bb = 0) (x y : α) : (if F = 0 then y else x) = if bb = 0 then x else y := by
  by_cases c : bb = 0
  · rw [if_pos c, if_neg (fun z => h.mp z c)]
  · rw [if_neg c, if_pos (h.mpr c)]
theorem C_between {g : ma_G} {I : ma_I} {L : ma_L} {P : ma_P} {s : sG} (hW : wF s) (hC : rC s I L) (q_ r_ n_ : Int32) (k : ∀ I1 L1, rC (F_between s q_ r_ n_).2 I1 L1 → mS I L I1 L1 → P (some (.int (F_between s q_ r_ n_).1)) HS I1 L1 RF 146) : CT g yX7_between cX7_between 6 (some .int) rX7_between [.ref 3, .int q_, .int r_, .int n_] P HS I L RF 146 := by
  obtain ⟨hcM, hcN, hcF, hcK, hcT, hcS, hcG⟩ := id hC
  exact t_X7_between q_ r_ n_ (zf_K hW hcG) hcT.1 hcT.2
    (fun h1 => by
      have e_ : F_between s q_ r_ n_ = ((-1), s) := by simp only [F_between, cIf_n (btn_n1 h1)]
      rw [e_] at k
      dsimp only at k
      exact k _ _ hC mS_rf)
    (fun n3 h2 h3 e4 h5 => by
      subst e4
      have e_ : F_between s q_ r_ (nI n3) = ((-1), s) := by simp only [F_between, gP_n (s := s) (ix_n1 h5 ln_12), cIf_p (btn_y h2 h3), btn_t h3]
      rw [e_] at k
      dsimp only at k
      exact k _ _ hC mS_rf)
    (fun n3 h2 h3 e4 j5 h6 e7 j8 h9 e10 h11 => by
      subst e4
      subst e7
      subst e10
      have e_ : F_between s (nI j5) (nI j8) (nI n3) = ((-3), (sM s 1)) := by simp only [F_between, gP_m (s := s) h6 h9 (kG_m (hcG j5 (by omega)) h11), cIf_p (btn_y h2 h3), btn_t h3]
      rw [e_] at k
      dsimp only at k
      exact k _ _ (rC_R hC (by omega)) (mS_R _ _ _))
    (fun n3 h2 h3 e4 j12 h6 e7 j15 h9 e10 h11 h12 j20 j21 h15 L1 h17 c h19 s2 s3 s4 JJ KK h25 h26 h27 h28 => by
      subst e4
      subst e7
      subst e10
      have hg_ : ∀ j, j < 5 → cFo (L (57 + 5 * j12)) (L (57 + 5 * j15)) 1 1 j = Int64.ofInt (zf s j12 j15 j) := zf_C hW hcG (g := j12) (h := j15) (by omega) (by omega)
      have hf_ : ∀ j, j < 5 → j21 j = Int64.ofInt (zf s j12 j15 j) := fun j hj => (h15 j hj).trans (hg_ j hj)
      have ok_ := zf_ok hW (g := j12) (k := j15) (by omega) (by omega)
      have k13_ : KK 13 = j21 := by rw [h27 13 (by decide) (by decide), h17]; rfl
      have k5_ : (KK 12) 5 = cIi (cFo (L (57 + 5 * j12)) (L (57 + 5 * j15)) 1 1) := by rw [h27 12 (by decide) (by decide), h17]; rfl
      have k6_ : (KK 12) 6 = cJj (cFo (L (57 + 5 * j12)) (L (57 + 5 * j15)) 1 1) := by rw [h27 12 (by decide) (by decide), h17]; rfl
      have bt0_ : (JJ 26 3, s2, s3, s4, JJ 26 4) = cBt j21 (L (57 + 5 * j12)) (L (57 + 5 * j15)) n3 c (2 * c + 1) := by rw [h25, h17, ma_up_n _ _ (show 57 + 5 * j12 ≠ 12 by omega), ma_up_n _ _ (show 57 + 5 * j12 ≠ 13 by omega), ma_up_n _ _ (show 57 + 5 * j12 ≠ 16 by omega), ma_up_n _ _ (show 57 + 5 * j15 ≠ 12 by omega), ma_up_n _ _ (show 57 + 5 * j15 ≠ 13 by omega), ma_up_n _ _ (show 57 + 5 * j15 ≠ 16 by omega)]; rfl
      obtain ⟨r1_, r5_⟩ := bt_C hW hcG (g := j12) (h := j15) (by omega) (by omega) h3 h19 hf_ bt0_
      have w_ : cFig (KK 13) ((KK 12) 5) ((KK 12) 6) = pzF (zf s j12 j15) := by rw [k13_, k5_, k6_]; exact fig_w hf_ hg_ ok_.1
      have z0_ : (KK 13) 0 = 0 ↔ zf s j12 j15 0 = 0 := by rw [k13_, hf_ 0 (by omega), o6_0 (by have := bd_s ok_.1 0 (by omega); omega)]
      have al_ : ∀ k, k ≤ 4 → zf s j12 j15 k = 0 := fun k hk => by have b_ := bd_s ok_.1 k (by omega); have q_ := h28 k (by omega); rw [k13_, hf_ k (by omega)] at q_; exact (o6_0 (by omega)).mp q_
      have e_ : F_between s (nI j12) (nI j15) (nI n3) = ((-6), (sA s (bt_ s j12 j15 n3).1)) := by simp only [F_between, gP_o (s := s) h6 h9 (kG_o (hcG j12 (by omega)) h11) (kG_o (hcG j15 (by omega)) h12), cIf_p (btn_y h2 h3), btn_t h3, cIf_p al_]
      rw [e_] at k
      dsimp only at k
      exact k _ _ (rC_A (rC_x hC (fun a ha => h26 a (by omega) (by omega)) (fun a ha => by rw [h27 a (by omega) (by omega), h17, ma_up_n _ _ (by omega), ma_up_n _ _ (by omega), ma_up_n _ _ (by omega)])) r1_) ⟨fun a ha => by rw [ma_up_n _ _ (by omega), h26 a (by omega) (by omega)], fun a ha => by rw [h27 a (by omega) (by omega), h17, ma_up_n _ _ (by omega), ma_up_n _ _ (by omega), ma_up_n _ _ (by omega)]⟩)
    (fun n3 h2 h3 e4 j12 h6 e7 j15 h9 e10 h11 h12 j20 j21 h15 L1 h17 c h19 s2 s3 s4 JJ KK h25 h26 h27 h28 Y36 Z37 V38 W39 h33 => by
      subst e4
      subst e7
      subst e10
      have hg_ : ∀ j, j < 5 → cFo (L (57 + 5 * j12)) (L (57 + 5 * j15)) 1 1 j = Int64.ofInt (zf s j12 j15 j) := zf_C hW hcG (g := j12) (h := j15) (by omega) (by omega)
      have hf_ : ∀ j, j < 5 → j21 j = Int64.ofInt (zf s j12 j15 j) := fun j hj => (h15 j hj).trans (hg_ j hj)
      have ok_ := zf_ok hW (g := j12) (k := j15) (by omega) (by omega)
      have k13_ : KK 13 = j21 := by rw [h27 13 (by decide) (by decide), h17]; rfl
      have k5_ : (KK 12) 5 = cIi (cFo (L (57 + 5 * j12)) (L (57 + 5 * j15)) 1 1) := by rw [h27 12 (by decide) (by decide), h17]; rfl
      have k6_ : (KK 12) 6 = cJj (cFo (L (57 + 5 * j12)) (L (57 + 5 * j15)) 1 1) := by rw [h27 12 (by decide) (by decide), h17]; rfl
      have bt0_ : (JJ 26 3, s2, s3, s4, JJ 26 4) = cBt j21 (L (57 + 5 * j12)) (L (57 + 5 * j15)) n3 c (2 * c + 1) := by rw [h25, h17, ma_up_n _ _ (show 57 + 5 * j12 ≠ 12 by omega), ma_up_n _ _ (show 57 + 5 * j12 ≠ 13 by omega), ma_up_n _ _ (show 57 + 5 * j12 ≠ 16 by omega), ma_up_n _ _ (show 57 + 5 * j15 ≠ 12 by omega), ma_up_n _ _ (show 57 + 5 * j15 ≠ 13 by omega), ma_up_n _ _ (show 57 + 5 * j15 ≠ 16 by omega)]; rfl
      obtain ⟨r1_, r5_⟩ := bt_C hW hcG (g := j12) (h := j15) (by omega) (by omega) h3 h19 hf_ bt0_
      have w_ : cFig (KK 13) ((KK 12) 5) ((KK 12) 6) = pzF (zf s j12 j15) := by rw [k13_, k5_, k6_]; exact fig_w hf_ hg_ ok_.1
      have z0_ : (KK 13) 0 = 0 ↔ zf s j12 j15 0 = 0 := by rw [k13_, hf_ 0 (by omega), o6_0 (by have := bd_s ok_.1 0 (by omega); omega)]
      have nz_ : ¬ ∀ k, k ≤ 4 → zf s j12 j15 k = 0 := fun q_ => h28 (fun j hj => by rw [k13_, hf_ j hj, q_ j (by omega)]; rfl)
      have eq_ := h33
      simp only [z0_, w_] at eq_
      rw [r5_] at eq_
      have e_ : F_between s (nI j12) (nI j15) (nI n3) = ((-6), (sA s (bt_ s j12 j15 n3).1)) := by simp only [F_between, gP_o (s := s) h6 h9 (kG_o (hcG j12 (by omega)) h11) (kG_o (hcG j15 (by omega)) h12), cIf_p (btn_y h2 h3), btn_t h3, cIf_n nz_, if_neg eq_]
      rw [e_] at k
      dsimp only at k
      exact k _ _ (rC_A (rC_x hC (fun a ha => h26 a (by omega) (by omega)) (fun a ha => by rw [ma_up_n _ _ (by omega), ma_up_n _ _ (by omega), ma_up_n _ _ (by omega), ma_up_n _ _ (by omega), h27 a (by omega) (by omega), h17, ma_up_n _ _ (by omega), ma_up_n _ _ (by omega), ma_up_n _ _ (by omega)])) r1_) ⟨fun a ha => by rw [ma_up_n _ _ (by omega), h26 a (by omega) (by omega)], fun a ha => by rw [ma_up_n _ _ (by omega), ma_up_n _ _ (by omega), ma_up_n _ _ (by omega), ma_up_n _ _ (by omega), h27 a (by omega) (by omega), h17, ma_up_n _ _ (by omega), ma_up_n _ _ (by omega), ma_up_n _ _ (by omega)]⟩)
    (fun n3 h2 h3 e4 j12 h6 e7 j15 h9 e10 h11 h12 j20 j21 h15 L1 h17 c h19 s2 s3 s4 JJ KK h25 h26 h27 h28 Y36 Z37 V38 W39 h33 => by
      subst e4
      subst e7
      subst e10
      have hg_ : ∀ j, j < 5 → cFo (L (57 + 5 * j12)) (L (57 + 5 * j15)) 1 1 j = Int64.ofInt (zf s j12 j15 j) := zf_C hW hcG (g := j12) (h := j15) (by omega) (by omega)
      have hf_ : ∀ j, j < 5 → j21 j = Int64.ofInt (zf s j12 j15 j) := fun j hj => (h15 j hj).trans (hg_ j hj)
      have ok_ := zf_ok hW (g := j12) (k := j15) (by omega) (by omega)
      have k13_ : KK 13 = j21 := by rw [h27 13 (by decide) (by decide), h17]; rfl
      have k5_ : (KK 12) 5 = cIi (cFo (L (57 + 5 * j12)) (L (57 + 5 * j15)) 1 1) := by rw [h27 12 (by decide) (by decide), h17]; rfl
      have k6_ : (KK 12) 6 = cJj (cFo (L (57 + 5 * j12)) (L (57 + 5 * j15)) 1 1) := by rw [h27 12 (by decide) (by decide), h17]; rfl
      have bt0_ : (JJ 26 3, s2, s3, s4, JJ 26 4) = cBt j21 (L (57 + 5 * j12)) (L (57 + 5 * j15)) n3 c (2 * c + 1) := by rw [h25, h17, ma_up_n _ _ (show 57 + 5 * j12 ≠ 12 by omega), ma_up_n _ _ (show 57 + 5 * j12 ≠ 13 by omega), ma_up_n _ _ (show 57 + 5 * j12 ≠ 16 by omega), ma_up_n _ _ (show 57 + 5 * j15 ≠ 12 by omega), ma_up_n _ _ (show 57 + 5 * j15 ≠ 13 by omega), ma_up_n _ _ (show 57 + 5 * j15 ≠ 16 by omega)]; rfl
      obtain ⟨r1_, r5_⟩ := bt_C hW hcG (g := j12) (h := j15) (by omega) (by omega) h3 h19 hf_ bt0_
      have w_ : cFig (KK 13) ((KK 12) 5) ((KK 12) 6) = pzF (zf s j12 j15) := by rw [k13_, k5_, k6_]; exact fig_w hf_ hg_ ok_.1
      have z0_ : (KK 13) 0 = 0 ↔ zf s j12 j15 0 = 0 := by rw [k13_, hf_ 0 (by omega), o6_0 (by have := bd_s ok_.1 0 (by omega); omega)]
      have nz_ : ¬ ∀ k, k ≤ 4 → zf s j12 j15 k = 0 := fun q_ => h28 (fun j hj => by rw [k13_, hf_ j hj, q_ j (by omega)]; rfl)
      have eq_ := h33
      simp only [z0_, w_] at eq_
      rw [r5_] at eq_
      have e_ : F_between s (nI j12) (nI j15) (nI n3) = ((bt_ s j12 j15 n3).1, (sA s (bt_ s j12 j15 n3).1)) := by simp only [F_between, gP_o (s := s) h6 h9 (kG_o (hcG j12 (by omega)) h11) (kG_o (hcG j15 (by omega)) h12), cIf_p (btn_y h2 h3), btn_t h3, cIf_n nz_, if_pos eq_]
      rw [e_] at k
      dsimp only at k
      rw [show (JJ 26) 3 = (bt_ s j12 j15 n3).1 from r1_]
      exact k _ _ (rC_A (rC_x hC (fun a ha => h26 a (by omega) (by omega)) (fun a ha => by rw [ma_up_n _ _ (by omega), ma_up_n _ _ (by omega), ma_up_n _ _ (by omega), ma_up_n _ _ (by omega), h27 a (by omega) (by omega), h17, ma_up_n _ _ (by omega), ma_up_n _ _ (by omega), ma_up_n _ _ (by omega)])) rfl) ⟨fun a ha => by rw [ma_up_n _ _ (by omega), h26 a (by omega) (by omega)], fun a ha => by rw [ma_up_n _ _ (by omega), ma_up_n _ _ (by omega), ma_up_n _ _ (by omega), ma_up_n _ _ (by omega), h27 a (by omega) (by omega), h17, ma_up_n _ _ (by omega), ma_up_n _ _ (by omega), ma_up_n _ _ (by omega)]⟩)
    (fun n3 h2 h3 e4 j23 h6 e7 j26 h9 e10 h11 h12 => by
      subst e4
      subst e7
      subst e10
      have e_ : F_between s (nI j23) (nI j26) (nI n3) = ((-3), (sM s 1)) := by simp only [F_between, gP_m2 (s := s) h6 h9 (kG_o (hcG j23 (by omega)) h11) (kG_m (hcG j26 (by omega)) h12), cIf_p (btn_y h2 h3), btn_t h3]
      rw [e_] at k
      dsimp only at k
      exact k _ _ (rC_R hC (by omega)) (mS_R _ _ _))
    (fun n3 h2 h3 e4 j31 h6 e7 h8 => by
      subst e4
      subst e7
      have e_ : F_between s (nI j31) r_ (nI n3) = ((-1), s) := by simp only [F_between, gP_n2 (s := s) h6 (ix_n1 h8 ln_12), cIf_p (btn_y h2 h3), btn_t h3]
      rw [e_] at k
      dsimp only at k
      exact k _ _ hC mS_rf)
    (fun h1 h2 => by
      have e_ : F_between s q_ r_ n_ = ((-1), s) := by simp only [F_between, cIf_n (btn_n8 h2)]
      rw [e_] at k
      dsimp only at k
      exact k _ _ hC mS_rf)
theorem M_between {g : ma_G} {I : ma_I} {L : ma_L} {P : ma_P} (hW : wF (ob I L))  (q_ r_ n_ : Int32) (k : ∀ I2 L2, ob I2 L2 = (F_between (ob I L) q_ r_ n_).2 → cS I L I2 L2 → P (some (.int (F_between (ob I L) q_ r_ n_).1)) HS I2 L2 RF 146) : CT g yX8_between cX8_between 20 (some .int) rX8_between [.ref 115, .int q_, .int r_, .int n_] P HS I L RF 146 := by
  exact t_X8_between q_ r_ n_ (zf_hF hW) (zf_hQ hW)
    (fun n2 h2 h3 e4 h5 => by
      subst e4
      have e_ : F_between (ob I L) q_ r_ (nI n2) = ((-1), (ob I L)) := by simp only [F_between, gP_n (s := (ob I L)) (ix_n2 h5 li_12), cIf_p (btn_y h2 h3), btn_t h3]
      rw [e_] at k
      dsimp only at k
      exact k _ _ rfl cS_rf)
    (fun n2 h2 h3 e4 j4 h6 e7 j7 h9 e10 h11 => by
      subst e4
      subst e7
      subst e10
      have e_ : F_between (ob I L) (nI j4) (nI j7) (nI n2) = ((-3), (sM (ob I L) 1)) := by simp only [F_between, gP_m (s := (ob I L)) h6 h9 (show (ob I L).1 122 j4 = 0 from h11), cIf_p (btn_y h2 h3), btn_t h3]
      rw [e_] at k
      dsimp only at k
      exact k _ _ (ob_M _ _ _) (cS_M _ _ _))
    (fun n2 h2 h3 e4 j11 h6 e7 j14 h9 e10 h11 h12 => by
      subst e4
      subst e7
      subst e10
      have e_ : F_between (ob I L) (nI j11) (nI j14) (nI n2) = ((-3), (sM (ob I L) 1)) := by simp only [F_between, gP_m2 (s := (ob I L)) h6 h9 (show ¬ (ob I L).1 122 j11 = 0 from h11) (show (ob I L).1 122 j14 = 0 from h12), cIf_p (btn_y h2 h3), btn_t h3]
      rw [e_] at k
      dsimp only at k
      exact k _ _ (ob_M _ _ _) (cS_M _ _ _))
    (fun n2 h2 h3 e4 j19 h6 e7 j22 h9 e10 h11 h12 h13 J K h16 h17 h18 h19 h20 h21 X Y c h25 s1 s2 s3 s4 s5 JJ KK h33 h34 h35 => by
      subst e4
      subst e7
      subst e10
      have hf_ := zf_hM I L j19 j22
      have ok_ := zf_ok hW (g := j19) (k := j22) (by omega) (by omega)
      have al_ : ∀ k, k ≤ 4 → zf (ob I L) j19 j22 k = 0 := fun k hk => by have b_ := bd_s ok_.1 k (by omega); exact (o6_0 (by omega)).mp ((hf_ k).symm.trans (h13 k (by omega)))
      obtain ⟨r1_, r5_, rp_⟩ := bt_M (s := ob I L) hW (g := j19) (h := j22) (by omega) (by omega) h3 h25 h33
      have e_ : F_between (ob I L) (nI j19) (nI j22) (nI n2) = ((-6), (sA (ob I L) (bt_ (ob I L) j19 j22 n2).1)) := by simp only [F_between, gP_o (s := (ob I L)) h6 h9 (show ¬ (ob I L).1 122 j19 = 0 from h11) (show ¬ (ob I L).1 122 j22 = 0 from h12), cIf_p (btn_y h2 h3), btn_t h3, cIf_p al_]
      rw [e_] at k
      dsimp only at k
      exact k _ _ (by rw [ob_A, ob_bt h20 h21 h34 h35, r1_]) (cS_up (cS_bt h20 h21 h34 h35) (by omega)))
    (fun n2 h2 h3 e4 j19 h6 e7 j22 h9 e10 h11 h12 bb m0 s rl tw J K h20 h21 h22 h23 h24 h25 h26 h27 h28 X Y c h32 s1 s2 s3 s4 s5 JJ KK h40 h41 h42 => by
      subst e4
      subst e7
      subst e10
      have hf_ := zf_hM I L j19 j22
      have ok_ := zf_ok hW (g := j19) (k := j22) (by omega) (by omega)
      obtain ⟨⟨⟨n2_, hn2_, rn2_, pat_⟩, rt_, bw_⟩, zb_⟩ := ref_z (fun j _ => hf_ j) ok_ h20 h21
      have nz_ := mPd_n hf_ h20
      obtain ⟨j1_, j2_, j3_, j4_, j5_, j6_, j7_⟩ := h22
      obtain ⟨r1_, r5_, rp_⟩ := bt_M (s := ob I L) hW (g := j19) (h := j22) (by omega) (by omega) h3 h32 h40
      have bz_ := bb_if zb_ (cS0 (pzF (zf (ob I L) j19 j22))) (cS1 (pzF (zf (ob I L) j19 j22)))
      have ww_ := bw_ s5 s1 rp_
      have e_ : F_between (ob I L) (nI j19) (nI j22) (nI n2) = ((if s5 = (if bb = 0 then cS0 (pzF (zf (ob I L) j19 j22)) else cS1 (pzF (zf (ob I L) j19 j22))) then s1 else -6), (sA (ob I L) s1)) := by simp only [F_between, gP_o (s := (ob I L)) h6 h9 (show ¬ (ob I L).1 122 j19 = 0 from h11) (show ¬ (ob I L).1 122 j22 = 0 from h12), cIf_p (btn_y h2 h3), btn_t h3, cIf_n nz_, bz_, ← r1_, ← r5_]
      rw [e_] at k
      dsimp only at k
      rw [← ww_] at k
      rw [j2_, h23, h24]
      exact k _ _ (by rw [ob_A, ob_bt h27 h28 h41 h42]) (cS_up (cS_bt h27 h28 h41 h42) (by omega)))
    (fun n2 h2 h3 e4 j27 h6 e7 h8 => by
      subst e4
      subst e7
      have e_ : F_between (ob I L) (nI j27) r_ (nI n2) = ((-1), (ob I L)) := by simp only [F_between, gP_n2 (s := (ob I L)) h6 (ix_n2 h8 li_12), cIf_p (btn_y h2 h3), btn_t h3]
      rw [e_] at k
      dsimp only at k
      exact k _ _ rfl cS_rf)
    (fun h1 => by
      have e_ : F_between (ob I L) q_ r_ n_ = ((-1), (ob I L)) := by simp only [F_between, cIf_n (btn_m h1)]
      rw [e_] at k
      dsimp only at k
      exact k _ _ rfl cS_rf)
theorem p_between {g : ma_G} {I : ma_I} {L : ma_L} {P1 : ma_P} (hI : INV I L) (a1 a2 a3 : Int32) (k : ∀ (r : Int32) (I1 : ma_I) (L1 : ma_L), (∀ {P2 : ma_P}, (∀ (I2 : ma_I) (L2 : ma_L), INV I2 L2 → P2 (some (.int r)) HS I2 L2 RF 146) → CT g yX8_between cX8_between 20 (some .int) rX8_between [.ref 115, .int a1, .int a2, .int a3] P2 HS I1 L1 RF 146) → P1 (some (.int r)) HS I1 L1 RF 146) : CT g yX7_between cX7_between 6 (some .int) rX7_between [.ref 3, .int a1, .int a2, .int a3] P1 HS I L RF 146 :=
  pair_i (F := F_between (ob I L) a1 a2 a3) hI (W_between hI.1 a1 a2 a3) (fun P kk => C_between hI.1 hI.2 a1 a2 a3 kk) (fun I1 L1 P e kk => M_between (by rw [e]; exact hI.1)  a1 a2 a3 (by rw [e]; exact kk)) k
