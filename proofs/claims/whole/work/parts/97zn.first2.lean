noncomputable def fstA (s : sG) (g h k m : Nat) : Int32 := cIf (∀ i, i < m + 1 → mvP s h k i) (fsN (fun i => ansB (mvF s g h k i)) (m + 1) 0) (-6)
noncomputable def F_first (s : sG) (q r x n : Int32) : Int32 × sG := match ix 12 q with
  | none => (-1, s)
  | some g => match ix 12 r with
    | none => (-1, s)
    | some h => cIf (nI g = nI h) (-1, s) (match ix 8 x with
      | none => (-1, s)
      | some k => match ix 21 n with
        | none => (-1, s)
        | some m => cIf (s.1 122 g = 0 ∨ s.1 122 h = 0 ∨ s.1 117 k < 0) (-3, sM s 1) (cIf (s.1 124 (10 * g) = 3 ∧ s.1 124 (10 * h) = 3) (cIf (3 ≤ s.1 117 k) (cIf (mvS s k) (fstA s g h k m, s) (-3, sM s 2)) (-3, sM s 5)) (-3, sM s 3)))
theorem W_first {s : sG} (h : wF s) (a1 a2 a3 a4 : Int32) : wF (F_first s a1 a2 a3 a4).2 := by
  unfold F_first
  split
  · exact h
  · split
    · exact h
    · refine wF_cIf h ?_
      split
      · exact h
      · split
        · exact h
        · exact wF_cIf (wF_M h _) (wF_cIf (wF_cIf (wF_cIf h (wF_M h _)) (wF_M h _)) (wF_M h _))
theorem in4 {v : Int32} : ((¬ v < (-4)) ∧ (¬ 4 < v)) ↔ v.toInt.natAbs ≤ 4 := by
  rw [nb_lt, nb_lt, show (-4 : Int32).toInt = -4 by decide, show (4 : Int32).toInt = 4 by decide]; omega
theorem mvS_C {s : sG} {k : Nat} {f : Nat → Int32} (h : ∀ j, j < 16 → f j = s.1 118 (16 * k + j)) : (mRg f 3 4 ↔ mvS s k) ∧ ∀ j, j < 3 → (f j).toInt = mI s k j := by
  refine ⟨⟨fun q a ha => ?_, fun q a ha => ?_⟩, fun j hj => by rw [h j (by omega)]; rfl⟩
  · have := q a ha
    rw [h a (by omega)] at this
    exact in4.mp this
  · rw [h a (by omega)]
    exact in4.mpr (q a ha)
theorem mvS_M {s : sG} {k : Nat} (h0 : (¬ (s.1 118 (16 * k)) < (-4)) ∧ (¬ 4 < (s.1 118 (16 * k)))) (h1 : (¬ (s.1 118 (16 * k + 1)) < (-4)) ∧ (¬ 4 < (s.1 118 (16 * k + 1)))) (h2 : (¬ (s.1 118 (16 * k + 2)) < (-4)) ∧ (¬ 4 < (s.1 118 (16 * k + 2)))) : mvS s k := fun a ha => by
  match a, ha with
  | 0, _ => exact in4.mp h0
  | 1, _ => exact in4.mp h1
  | 2, _ => exact in4.mp h2
theorem sz_C {s : sG} {I : ma_I} {k : Nat} (h : rcS s I k) (n : ¬ s.1 117 k < 0) : I (39 + 2 * k) 1 = s.1 117 k ∧ ∀ j, j < 16 → I (40 + 2 * k) j = s.1 118 (16 * k + j) := h.2 (by rw [nb_lt, nb_0] at n; rw [nb_le, nb_0]; omega)
theorem ob_25 (I : ma_I) (L : ma_L) (N R : Nat → Int32) : ob (ma_up (ma_up I 125 N) 134 R) L = ob I L := by
  unfold ob
  rw [oI_s (I := I) (J := ma_up (ma_up I 125 N) 134 R) (fun a q => by
    have n1 : a ≠ 134 := fun e => by rw [e] at q; cases q
    have n2 : a ≠ 125 := fun e => by rw [e] at q; cases q
    rw [ma_up_n _ _ n1, ma_up_n _ _ n2]) (fun k q => by rw [ma_up_n _ _ (by decide), ma_up_n _ _ (by decide)])]
theorem ok_F {I : ma_I} {L : ma_L} (hW : wF (ob I L)) : ∀ q r, q < 12 → r < 12 → I 124 (10 * q) = 3 → I 124 (10 * r) = 3 → ∀ s k, s < 8 → k < 21 → (((¬ (I 118 (16 * s)) < -4) ∧ (¬ 4 < (I 118 (16 * s)))) ∧ ((¬ (I 118 (16 * s + 1)) < -4) ∧ (¬ 4 < (I 118 (16 * s + 1)))) ∧ ((¬ (I 118 (16 * s + 2)) < -4) ∧ (¬ 4 < (I 118 (16 * s + 2))))) → (∀ j, j < 16 → mIn30 ((mMv (fun k => I 123 (16 * r + k)) (mTn (I 124) r) (nI k * (I 118 (16 * s))) (nI k * (I 118 (16 * s + 1))) (nI k * (I 118 (16 * s + 2)))) j)) → mFok (mFm (mMv (fun k => I 123 (16 * q + k)) (mTn (I 124) q) 0 0 0) (mMv (fun k => I 123 (16 * r + k)) (mTn (I 124) r) (nI k * (I 118 (16 * s))) (nI k * (I 118 (16 * s + 1))) (nI k * (I 118 (16 * s + 2))))) := fun q r hq hr h1 h2 x k hx hk h4 h30 => by
  have ms : mvS (ob I L) x := mvS_M (s := ob I L) h4.1 h4.2.1 h4.2.2
  have m := mv_M (s := ob I L) hW hq hr ms hk
  have ok := BF_ok (s := ob I L) hW hq hr h1 h2 (fun j hj => (m.2 j hj).mp (h30 j hj))
  exact fok_z m.1 ok.1 ok.2.1
theorem ar_2 {I : ma_I} {L : ma_L} (hW : wF (ob I L)) {g h x i : Nat} (hg : g < 12) (hh : h < 12) (kg : I 124 (10 * g) = 3) (kh : I 124 (10 * h) = 3) (ms : mvS (ob I L) x) (hi : i < 21) (hp : mvP (ob I L) h x i) {v : Int32} (ha : mAr (mFm (mMv (fun k => I 123 (16 * g + k)) (mTn (I 124) g) 0 0 0) (mMv (fun k => I 123 (16 * h + k)) (mTn (I 124) h) (nI i * (I 118 (16 * x))) (nI i * (I 118 (16 * x + 1))) (nI i * (I 118 (16 * x + 2))))) v) : ansB (mvF (ob I L) g h x i) = v := by
  obtain ⟨bb, m0, s, rl, tw, hd, hl, hv⟩ := ha
  have ok := BF_ok (s := ob I L) hW hg hh kg kh hp
  rw [hv]
  exact (ar_z (mv_M (s := ob I L) hW hg hh ms hi).1 ok.1 ok.2.1 ok.2.2.1 ok.2.2.2 hd hl).symm
theorem C_first {g : ma_G} {I : ma_I} {L : ma_L} {P : ma_P} {s : sG} (hW : wF s) (hC : rC s I L) (q_ r_ s_ n_ : Int32) (k : ∀ I1 L1, rC (F_first s q_ r_ s_ n_).2 I1 L1 → mS I L I1 L1 → P (some (.int (F_first s q_ r_ s_ n_).1)) HS I1 L1 RF 146) : CT g yX7_first cX7_first 7 (some .int) rX7_first [.ref 3, .int q_, .int r_, .int s_, .int n_] P HS I L RF 146 := by
  obtain ⟨hcM, hcN, hcF, hcK, hcT, hcS, hcG⟩ := id hC
  exact t_X7_first q_ r_ s_ n_ (mv_K hW hcG)
    (fun h1 => by
      have e_ : F_first s q_ r_ s_ n_ = ((-1), s) := by simp only [F_first, (show ix 12 q_ = none from (ix_n1 h1 ln_12))]
      rw [e_] at k
      dsimp only at k
      exact k _ _ hC mS_rf)
    (fun n2 h2 e3 h4 => by
      subst e3
      have e_ : F_first s (nI n2) r_ s_ n_ = ((-1), s) := by simp only [F_first, ix_s (n := 12) h2, (show ix 12 r_ = none from (ix_n1 h4 ln_12))]
      rw [e_] at k
      dsimp only at k
      exact k _ _ hC mS_rf)
    (fun n2 h2 e3 n4 h5 e6 h7 => by
      subst e3
      subst e6
      have e_ : F_first s (nI n2) (nI n4) s_ n_ = ((-1), s) := by simp only [F_first, ix_s (n := 12) h2, ix_s (n := 12) h5, cIf_p h7]
      rw [e_] at k
      dsimp only at k
      exact k _ _ hC mS_rf)
    (fun n2 h2 e3 n4 h5 e6 h7 h8 => by
      subst e3
      subst e6
      have e_ : F_first s (nI n2) (nI n4) s_ n_ = ((-1), s) := by simp only [F_first, ix_s (n := 12) h2, ix_s (n := 12) h5, (show ix 8 s_ = none from (ix_n1 h8 ln_8)), cIf_n h7]
      rw [e_] at k
      dsimp only at k
      exact k _ _ hC mS_rf)
    (fun n2 h2 e3 n4 h5 e6 h7 n7 h9 e10 h11 => by
      subst e3
      subst e6
      subst e10
      have e_ : F_first s (nI n2) (nI n4) (nI n7) n_ = ((-1), s) := by simp only [F_first, ix_s (n := 12) h2, ix_s (n := 12) h5, ix_s (n := 8) h9, (show ix 21 n_ = none from (ix_lt h11)), cIf_n h7]
      rw [e_] at k
      dsimp only at k
      exact k _ _ hC mS_rf)
    (fun n2 h2 e3 n4 h5 e6 h7 n7 h9 e10 n10 h12 h13 e14 h15 => by
      subst e3
      subst e6
      subst e10
      subst e14
      have e_ : F_first s (nI n2) (nI n4) (nI n7) (nI n10) = ((-3), (sM s 1)) := by simp only [F_first, ix_s (n := 12) h2, ix_s (n := 12) h5, ix_s (n := 8) h9, ix_s (n := 21) h13, cIf_n h7, cIf_p (show s.1 122 n2 = 0 ∨ s.1 122 n4 = 0 ∨ s.1 117 n7 < 0 from Or.inl (kG_m (hcG n2 (by omega)) h15))]
      rw [e_] at k
      dsimp only at k
      exact k _ _ (rC_R hC (by omega)) (mS_R _ _ _))
    (fun n2 h2 e3 n4 h5 e6 h7 n7 h9 e10 n10 h12 h13 e14 h15 h16 => by
      subst e3
      subst e6
      subst e10
      subst e14
      have e_ : F_first s (nI n2) (nI n4) (nI n7) (nI n10) = ((-3), (sM s 1)) := by simp only [F_first, ix_s (n := 12) h2, ix_s (n := 12) h5, ix_s (n := 8) h9, ix_s (n := 21) h13, cIf_n h7, cIf_p (show s.1 122 n2 = 0 ∨ s.1 122 n4 = 0 ∨ s.1 117 n7 < 0 from Or.inr (Or.inl (kG_m (hcG n4 (by omega)) h16)))]
      rw [e_] at k
      dsimp only at k
      exact k _ _ (rC_R hC (by omega)) (mS_R _ _ _))
    (fun n2 h2 e3 n4 h5 e6 h7 n7 h9 e10 n10 h12 h13 e14 h15 h16 h17 h18 => by
      subst e3
      subst e6
      subst e10
      subst e14
      have e_ : F_first s (nI n2) (nI n4) (nI n7) (nI n10) = ((-3), (sM s 3)) := by simp only [F_first, ix_s (n := 12) h2, ix_s (n := 12) h5, ix_s (n := 8) h9, ix_s (n := 21) h13, cIf_n h7, cIf_n (show ¬ (s.1 122 n2 = 0 ∨ s.1 122 n4 = 0 ∨ s.1 117 n7 < 0) from fun z_ => z_.elim (kG_o (hcG n2 (by omega)) h15) (fun z_ => z_.elim (kG_o (hcG n4 (by omega)) h16) (kS_o (hcS n7 (by omega)) (Decidable.not_not.mp h17)))), cIf_n (fun z_ : s.1 124 (10 * n2) = 3 ∧ s.1 124 (10 * n4) = 3 => h18 ((cIs_3 (hcG n2 (by omega))).mpr z_.1))]
      rw [e_] at k
      dsimp only at k
      exact k _ _ (rC_R hC (by omega)) (mS_R _ _ _))
    (fun n2 h2 e3 n4 h5 e6 h7 n7 h9 e10 n10 h12 h13 e14 h15 h16 h17 h18 h19 => by
      subst e3
      subst e6
      subst e10
      subst e14
      have e_ : F_first s (nI n2) (nI n4) (nI n7) (nI n10) = ((-3), (sM s 3)) := by simp only [F_first, ix_s (n := 12) h2, ix_s (n := 12) h5, ix_s (n := 8) h9, ix_s (n := 21) h13, cIf_n h7, cIf_n (show ¬ (s.1 122 n2 = 0 ∨ s.1 122 n4 = 0 ∨ s.1 117 n7 < 0) from fun z_ => z_.elim (kG_o (hcG n2 (by omega)) h15) (fun z_ => z_.elim (kG_o (hcG n4 (by omega)) h16) (kS_o (hcS n7 (by omega)) (Decidable.not_not.mp h17)))), cIf_n (fun z_ : s.1 124 (10 * n2) = 3 ∧ s.1 124 (10 * n4) = 3 => h19 ((cIs_3 (hcG n4 (by omega))).mpr z_.2))]
      rw [e_] at k
      dsimp only at k
      exact k _ _ (rC_R hC (by omega)) (mS_R _ _ _))
    (fun n2 h2 e3 n4 h5 e6 h7 n7 h9 e10 n10 h12 h13 e14 h15 h16 h17 h18 h19 h20 h21 fd KK h24 h25 h26 => by
      subst e3
      subst e6
      subst e10
      subst e14
      have kg_ := (cIs_3 (hcG n2 (by omega))).mp h18
      have kh_ := (cIs_3 (hcG n4 (by omega))).mp h19
      have sz_ := sz_C (hcS n7 (by omega)) (kS_o (hcS n7 (by omega)) (Decidable.not_not.mp h17))
      have mc_ := mvS_C (s := s) (k := n7) sz_.2
      have ms_ := mc_.1.mp h21
      have al_ : ∀ i, i < n10 + 1 → mvP s n4 n7 i := fun i hi => ((mv_rl (k := n7) hW (h := n4) (by omega) (hcG n4 (by omega)).2.1 mc_.2 ms_ (i := i) (by omega))).2.mp (h25 i hi)
      have w_ := fsN_c (M' := fun i => ansB (mvF s n2 n4 n7 i)) h26 (fun i hi => mv_C hW hcG (g := n2) (h := n4) (by omega) (by omega) kg_ kh_ mc_.2 ms_ (by omega) (al_ i hi))
      have e_ : F_first s (nI n2) (nI n4) (nI n7) (nI n10) = (fd, s) := by simp only [F_first, ix_s (n := 12) h2, ix_s (n := 12) h5, ix_s (n := 8) h9, ix_s (n := 21) h13, cIf_n h7, cIf_n (show ¬ (s.1 122 n2 = 0 ∨ s.1 122 n4 = 0 ∨ s.1 117 n7 < 0) from fun z_ => z_.elim (kG_o (hcG n2 (by omega)) h15) (fun z_ => z_.elim (kG_o (hcG n4 (by omega)) h16) (kS_o (hcS n7 (by omega)) (Decidable.not_not.mp h17)))), cIf_p (And.intro kg_ kh_), cIf_p (show 3 ≤ s.1 117 n7 by rw [← sz_.1]; exact h20), cIf_p ms_, fstA, cIf_p al_, ← w_]
      rw [e_] at k
      dsimp only at k
      exact k _ _ (rC_x hC (fun _ _ => rfl) (fun a ha => h24 a (by omega))) ⟨fun _ _ => rfl, fun a ha => h24 a (by omega)⟩)
    (fun n2 h2 e3 n4 h5 e6 h7 n7 h9 e10 n10 h12 h13 e14 h15 h16 h17 h18 h19 h20 h21 kx h23 fd KK h26 K2 h28 h29 => by
      subst e3
      subst e6
      subst e10
      subst e14
      have kg_ := (cIs_3 (hcG n2 (by omega))).mp h18
      have kh_ := (cIs_3 (hcG n4 (by omega))).mp h19
      have sz_ := sz_C (hcS n7 (by omega)) (kS_o (hcS n7 (by omega)) (Decidable.not_not.mp h17))
      have mc_ := mvS_C (s := s) (k := n7) sz_.2
      have ms_ := mc_.1.mp h21
      have na_ : ¬ ∀ i, i < n10 + 1 → mvP s n4 n7 i := fun z_ => h29 (((mv_rl (k := n7) hW (h := n4) (by omega) (hcG n4 (by omega)).2.1 mc_.2 ms_ (i := kx) (by omega))).2.mpr (z_ kx h23))
      have e_ : F_first s (nI n2) (nI n4) (nI n7) (nI n10) = ((-6), s) := by simp only [F_first, ix_s (n := 12) h2, ix_s (n := 12) h5, ix_s (n := 8) h9, ix_s (n := 21) h13, cIf_n h7, cIf_n (show ¬ (s.1 122 n2 = 0 ∨ s.1 122 n4 = 0 ∨ s.1 117 n7 < 0) from fun z_ => z_.elim (kG_o (hcG n2 (by omega)) h15) (fun z_ => z_.elim (kG_o (hcG n4 (by omega)) h16) (kS_o (hcS n7 (by omega)) (Decidable.not_not.mp h17)))), cIf_p (And.intro kg_ kh_), cIf_p (show 3 ≤ s.1 117 n7 by rw [← sz_.1]; exact h20), cIf_p ms_, fstA, cIf_n na_]
      rw [e_] at k
      dsimp only at k
      exact k _ _ (rC_x hC (fun _ _ => rfl) (fun a ha => h28 a (by omega))) ⟨fun _ _ => rfl, fun a ha => h28 a (by omega)⟩)
    (fun n2 h2 e3 n4 h5 e6 h7 n7 h9 e10 n10 h12 h13 e14 h15 h16 h17 h18 h19 h20 h21 => by
      subst e3
      subst e6
      subst e10
      subst e14
      have kg_ := (cIs_3 (hcG n2 (by omega))).mp h18
      have kh_ := (cIs_3 (hcG n4 (by omega))).mp h19
      have sz_ := sz_C (hcS n7 (by omega)) (kS_o (hcS n7 (by omega)) (Decidable.not_not.mp h17))
      have mc_ := mvS_C (s := s) (k := n7) sz_.2
      have e_ : F_first s (nI n2) (nI n4) (nI n7) (nI n10) = ((-3), (sM s 2)) := by simp only [F_first, ix_s (n := 12) h2, ix_s (n := 12) h5, ix_s (n := 8) h9, ix_s (n := 21) h13, cIf_n h7, cIf_n (show ¬ (s.1 122 n2 = 0 ∨ s.1 122 n4 = 0 ∨ s.1 117 n7 < 0) from fun z_ => z_.elim (kG_o (hcG n2 (by omega)) h15) (fun z_ => z_.elim (kG_o (hcG n4 (by omega)) h16) (kS_o (hcS n7 (by omega)) (Decidable.not_not.mp h17)))), cIf_p (And.intro kg_ kh_), cIf_p (show 3 ≤ s.1 117 n7 by rw [← sz_.1]; exact h20), cIf_n (show ¬ mvS s n7 from fun z_ => h21 (mc_.1.mpr z_))]
      rw [e_] at k
      dsimp only at k
      exact k _ _ (rC_R hC (by omega)) (mS_R _ _ _))
    (fun n2 h2 e3 n4 h5 e6 h7 n7 h9 e10 n10 h12 h13 e14 h15 h16 h17 h18 h19 h20 => by
      subst e3
      subst e6
      subst e10
      subst e14
      have kg_ := (cIs_3 (hcG n2 (by omega))).mp h18
      have kh_ := (cIs_3 (hcG n4 (by omega))).mp h19
      have sz_ := sz_C (hcS n7 (by omega)) (kS_o (hcS n7 (by omega)) (Decidable.not_not.mp h17))
      have mc_ := mvS_C (s := s) (k := n7) sz_.2
      have e_ : F_first s (nI n2) (nI n4) (nI n7) (nI n10) = ((-3), (sM s 5)) := by simp only [F_first, ix_s (n := 12) h2, ix_s (n := 12) h5, ix_s (n := 8) h9, ix_s (n := 21) h13, cIf_n h7, cIf_n (show ¬ (s.1 122 n2 = 0 ∨ s.1 122 n4 = 0 ∨ s.1 117 n7 < 0) from fun z_ => z_.elim (kG_o (hcG n2 (by omega)) h15) (fun z_ => z_.elim (kG_o (hcG n4 (by omega)) h16) (kS_o (hcS n7 (by omega)) (Decidable.not_not.mp h17)))), cIf_p (And.intro kg_ kh_), cIf_n (show ¬ 3 ≤ s.1 117 n7 by rw [← sz_.1]; exact h20)]
      rw [e_] at k
      dsimp only at k
      exact k _ _ (rC_R hC (by omega)) (mS_R _ _ _))
    (fun n2 h2 e3 n4 h5 e6 h7 n7 h9 e10 n10 h12 h13 e14 h15 h16 h17 => by
      subst e3
      subst e6
      subst e10
      subst e14
      have e_ : F_first s (nI n2) (nI n4) (nI n7) (nI n10) = ((-3), (sM s 1)) := by simp only [F_first, ix_s (n := 12) h2, ix_s (n := 12) h5, ix_s (n := 8) h9, ix_s (n := 21) h13, cIf_n h7, cIf_p (show s.1 122 n2 = 0 ∨ s.1 122 n4 = 0 ∨ s.1 117 n7 < 0 from Or.inr (Or.inr (kS_m (hcS n7 (by omega)) h17)))]
      rw [e_] at k
      dsimp only at k
      exact k _ _ (rC_R hC (by omega)) (mS_R _ _ _))
    (fun n2 h2 e3 n4 h5 e6 h7 n7 h9 e10 h11 h12 => by
      subst e3
      subst e6
      subst e10
      have e_ : F_first s (nI n2) (nI n4) (nI n7) n_ = ((-1), s) := by simp only [F_first, ix_s (n := 12) h2, ix_s (n := 12) h5, ix_s (n := 8) h9, (show ix 21 n_ = none from (ix_gt h12 li_21)), cIf_n h7]
      rw [e_] at k
      dsimp only at k
      exact k _ _ hC mS_rf)
theorem M_first {g : ma_G} {I : ma_I} {L : ma_L} {P : ma_P} (hW : wF (ob I L))  (q_ r_ s_ n_ : Int32) (k : ∀ I2 L2, ob I2 L2 = (F_first (ob I L) q_ r_ s_ n_).2 → cS I L I2 L2 → P (some (.int (F_first (ob I L) q_ r_ s_ n_).1)) HS I2 L2 RF 146) : CT g yX8_first cX8_first 10 (some .int) rX8_first [.ref 115, .int q_, .int r_, .int s_, .int n_] P HS I L RF 146 := by
  exact t_X8_first q_ r_ s_ n_ (ok_F hW)
    (fun h1 => by
      have e_ : F_first (ob I L) q_ r_ s_ n_ = ((-1), (ob I L)) := by simp only [F_first, (show ix 12 q_ = none from (ix_n2 h1 li_12))]
      rw [e_] at k
      dsimp only at k
      exact k _ _ rfl cS_rf)
    (fun n2 h2 e3 h4 => by
      subst e3
      have e_ : F_first (ob I L) (nI n2) r_ s_ n_ = ((-1), (ob I L)) := by simp only [F_first, ix_s (n := 12) h2, (show ix 12 r_ = none from (ix_n2 h4 li_12))]
      rw [e_] at k
      dsimp only at k
      exact k _ _ rfl cS_rf)
    (fun n2 h2 e3 n4 h5 e6 h7 => by
      subst e3
      subst e6
      have e_ : F_first (ob I L) (nI n2) (nI n4) s_ n_ = ((-1), (ob I L)) := by simp only [F_first, ix_s (n := 12) h2, ix_s (n := 12) h5, cIf_p h7]
      rw [e_] at k
      dsimp only at k
      exact k _ _ rfl cS_rf)
    (fun n2 h2 e3 n4 h5 e6 h7 h8 => by
      subst e3
      subst e6
      have e_ : F_first (ob I L) (nI n2) (nI n4) s_ n_ = ((-1), (ob I L)) := by simp only [F_first, ix_s (n := 12) h2, ix_s (n := 12) h5, (show ix 8 s_ = none from (ix_n2 h8 li_8)), cIf_n h7]
      rw [e_] at k
      dsimp only at k
      exact k _ _ rfl cS_rf)
    (fun n2 h2 e3 n4 h5 e6 h7 n7 h9 e10 n9 h12 e13 h14 => by
      subst e3
      subst e6
      subst e10
      subst e13
      have e_ : F_first (ob I L) (nI n2) (nI n4) (nI n7) (nI n9) = ((-3), (sM (ob I L) 1)) := by simp only [F_first, ix_s (n := 12) h2, ix_s (n := 12) h5, ix_s (n := 8) h9, ix_s (n := 21) h12, cIf_n h7, cIf_p (show (ob I L).1 122 n2 = 0 ∨ (ob I L).1 122 n4 = 0 ∨ (ob I L).1 117 n7 < 0 from Or.inl (show (ob I L).1 122 n2 = 0 from h14))]
      rw [e_] at k
      dsimp only at k
      exact k _ _ (ob_M _ _ _) (cS_M _ _ _))
    (fun n2 h2 e3 n4 h5 e6 h7 n7 h9 e10 n9 h12 e13 h14 h15 => by
      subst e3
      subst e6
      subst e10
      subst e13
      have e_ : F_first (ob I L) (nI n2) (nI n4) (nI n7) (nI n9) = ((-3), (sM (ob I L) 1)) := by simp only [F_first, ix_s (n := 12) h2, ix_s (n := 12) h5, ix_s (n := 8) h9, ix_s (n := 21) h12, cIf_n h7, cIf_p (show (ob I L).1 122 n2 = 0 ∨ (ob I L).1 122 n4 = 0 ∨ (ob I L).1 117 n7 < 0 from Or.inr (Or.inl (show (ob I L).1 122 n4 = 0 from h15)))]
      rw [e_] at k
      dsimp only at k
      exact k _ _ (ob_M _ _ _) (cS_M _ _ _))
    (fun n2 h2 e3 n4 h5 e6 h7 n7 h9 e10 n9 h12 e13 h14 h15 h16 h17 => by
      subst e3
      subst e6
      subst e10
      subst e13
      have e_ : F_first (ob I L) (nI n2) (nI n4) (nI n7) (nI n9) = ((-3), (sM (ob I L) 3)) := by simp only [F_first, ix_s (n := 12) h2, ix_s (n := 12) h5, ix_s (n := 8) h9, ix_s (n := 21) h12, cIf_n h7, cIf_n (show ¬ ((ob I L).1 122 n2 = 0 ∨ (ob I L).1 122 n4 = 0 ∨ (ob I L).1 117 n7 < 0) from fun z_ => z_.elim (show ¬ (ob I L).1 122 n2 = 0 from h14) (fun z_ => z_.elim (show ¬ (ob I L).1 122 n4 = 0 from h15) (kS_w (s := ob I L) h16))), cIf_n (fun z_ : (ob I L).1 124 (10 * n2) = 3 ∧ (ob I L).1 124 (10 * n4) = 3 => h17 z_.1)]
      rw [e_] at k
      dsimp only at k
      exact k _ _ (ob_M _ _ _) (cS_M _ _ _))
    (fun n2 h2 e3 n4 h5 e6 h7 n7 h9 e10 n9 h12 e13 h14 h15 h16 h17 h18 h19 h20 => by
      subst e3
      subst e6
      subst e10
      subst e13
      have e_ : F_first (ob I L) (nI n2) (nI n4) (nI n7) (nI n9) = ((-3), (sM (ob I L) 2)) := by simp only [F_first, ix_s (n := 12) h2, ix_s (n := 12) h5, ix_s (n := 8) h9, ix_s (n := 21) h12, cIf_n h7, cIf_n (show ¬ ((ob I L).1 122 n2 = 0 ∨ (ob I L).1 122 n4 = 0 ∨ (ob I L).1 117 n7 < 0) from fun z_ => z_.elim (show ¬ (ob I L).1 122 n2 = 0 from h14) (fun z_ => z_.elim (show ¬ (ob I L).1 122 n4 = 0 from h15) (kS_w (s := ob I L) h16))), cIf_p (And.intro (show (ob I L).1 124 (10 * n2) = 3 from h17) (show (ob I L).1 124 (10 * n4) = 3 from h18)), cIf_p (show 3 ≤ (ob I L).1 117 n7 from h19), cIf_n (show ¬ mvS (ob I L) n7 from fun z_ => h20 (in4.mpr (z_ 0 (by omega))))]
      rw [e_] at k
      dsimp only at k
      exact k _ _ (ob_M _ _ _) (cS_M _ _ _))
    (fun n2 h2 e3 n4 h5 e6 h7 n7 h9 e10 n9 h12 e13 h14 h15 h16 h17 h18 h19 h20 h21 => by
      subst e3
      subst e6
      subst e10
      subst e13
      have e_ : F_first (ob I L) (nI n2) (nI n4) (nI n7) (nI n9) = ((-3), (sM (ob I L) 2)) := by simp only [F_first, ix_s (n := 12) h2, ix_s (n := 12) h5, ix_s (n := 8) h9, ix_s (n := 21) h12, cIf_n h7, cIf_n (show ¬ ((ob I L).1 122 n2 = 0 ∨ (ob I L).1 122 n4 = 0 ∨ (ob I L).1 117 n7 < 0) from fun z_ => z_.elim (show ¬ (ob I L).1 122 n2 = 0 from h14) (fun z_ => z_.elim (show ¬ (ob I L).1 122 n4 = 0 from h15) (kS_w (s := ob I L) h16))), cIf_p (And.intro (show (ob I L).1 124 (10 * n2) = 3 from h17) (show (ob I L).1 124 (10 * n4) = 3 from h18)), cIf_p (show 3 ≤ (ob I L).1 117 n7 from h19), cIf_n (show ¬ mvS (ob I L) n7 from fun z_ => h21 (in4.mpr (z_ 1 (by omega))))]
      rw [e_] at k
      dsimp only at k
      exact k _ _ (ob_M _ _ _) (cS_M _ _ _))
    (fun n2 h2 e3 n4 h5 e6 h7 n7 h9 e10 n9 h12 e13 h14 h15 h16 h17 h18 h19 h20 h21 h22 N R h25 N19 R20 JJ KK h30 h31 h32 => by
      subst e3
      subst e6
      subst e10
      subst e13
      have ms_ : mvS (ob I L) n7 := mvS_M (s := ob I L) h20 h21 h22
      have al_ : ∀ i, i < n9 + 1 → mvP (ob I L) n4 n7 i := fun i hi j hj => ((mv_M (s := ob I L) hW (g := n2) (h := n4) (k := n7) (by omega) (by omega) ms_ (i := i) (by omega))).2 j hj |>.mp (h25 i hi j hj)
      have w_ : fsN (fun i => ansB (mvF (ob I L) n2 n4 n7 i)) (n9 + 1) 0 = -9 := fsN_1 (n9 + 1) 0 (fun i _ hi => ar_2 hW (g := n2) (h := n4) (x := n7) (by omega) (by omega) h17 h18 ms_ (by omega) (al_ i (by omega)) (h30 i (by omega)))
      have e_ : F_first (ob I L) (nI n2) (nI n4) (nI n7) (nI n9) = ((-9), (ob I L)) := by simp only [F_first, ix_s (n := 12) h2, ix_s (n := 12) h5, ix_s (n := 8) h9, ix_s (n := 21) h12, cIf_n h7, cIf_n (show ¬ ((ob I L).1 122 n2 = 0 ∨ (ob I L).1 122 n4 = 0 ∨ (ob I L).1 117 n7 < 0) from fun z_ => z_.elim (show ¬ (ob I L).1 122 n2 = 0 from h14) (fun z_ => z_.elim (show ¬ (ob I L).1 122 n4 = 0 from h15) (kS_w (s := ob I L) h16))), cIf_p (And.intro (show (ob I L).1 124 (10 * n2) = 3 from h17) (show (ob I L).1 124 (10 * n4) = 3 from h18)), cIf_p (show 3 ≤ (ob I L).1 117 n7 from h19), cIf_p ms_, fstA, cIf_p al_, w_]
      rw [e_] at k
      dsimp only at k
      exact k _ _ (by unfold ob; rw [oI_sx h31 rfl rfl, oL_sl h32 rfl]) (cS_sx h31 h32 rfl rfl))
    (fun n2 h2 e3 n4 h5 e6 h7 n7 h9 e10 n9 h12 e13 h14 h15 h16 h17 h18 h19 h20 h21 h22 N R h25 N19 R20 JJ KK kx h31 h32 bb m0 s rl tw J K h40 h41 h42 h43 h44 => by
      subst e3
      subst e6
      subst e10
      subst e13
      have ms_ : mvS (ob I L) n7 := mvS_M (s := ob I L) h20 h21 h22
      have al_ : ∀ i, i < n9 + 1 → mvP (ob I L) n4 n7 i := fun i hi j hj => ((mv_M (s := ob I L) hW (g := n2) (h := n4) (k := n7) (by omega) (by omega) ms_ (i := i) (by omega))).2 j hj |>.mp (h25 i hi j hj)
      have w_ : fsN (fun i => ansB (mvF (ob I L) n2 n4 n7 i)) (n9 + 1) 0 = nI kx := fsN_2 (n9 + 1) 0 kx (by omega) (by omega) (fun i _ hi => ar_2 hW (g := n2) (h := n4) (x := n7) (by omega) (by omega) h17 h18 ms_ (by omega) (al_ i (by omega)) (h32 i (by omega))) (fun z_ => h44 (((ar_2 hW (g := n2) (h := n4) (x := n7) (by omega) (by omega) h17 h18 ms_ (by omega) (al_ kx h31) ⟨bb, m0, s, rl, tw, h40, h41, rfl⟩)).symm.trans z_))
      have e_ : F_first (ob I L) (nI n2) (nI n4) (nI n7) (nI n9) = ((nI kx), (ob I L)) := by simp only [F_first, ix_s (n := 12) h2, ix_s (n := 12) h5, ix_s (n := 8) h9, ix_s (n := 21) h12, cIf_n h7, cIf_n (show ¬ ((ob I L).1 122 n2 = 0 ∨ (ob I L).1 122 n4 = 0 ∨ (ob I L).1 117 n7 < 0) from fun z_ => z_.elim (show ¬ (ob I L).1 122 n2 = 0 from h14) (fun z_ => z_.elim (show ¬ (ob I L).1 122 n4 = 0 from h15) (kS_w (s := ob I L) h16))), cIf_p (And.intro (show (ob I L).1 124 (10 * n2) = 3 from h17) (show (ob I L).1 124 (10 * n4) = 3 from h18)), cIf_p (show 3 ≤ (ob I L).1 117 n7 from h19), cIf_p ms_, fstA, cIf_p al_, w_]
      rw [e_] at k
      dsimp only at k
      exact k _ _ (by unfold ob; rw [oI_sx h42 rfl rfl, oL_sl h43 rfl]) (cS_sx h42 h43 rfl rfl))
    (fun n2 h2 e3 n4 h5 e6 h7 n7 h9 e10 n9 h12 e13 h14 h15 h16 h17 h18 h19 h20 h21 h22 N R kx h26 h27 N24 R25 i h31 h32 => by
      subst e3
      subst e6
      subst e10
      subst e13
      have ms_ : mvS (ob I L) n7 := mvS_M (s := ob I L) h20 h21 h22
      have na_ : ¬ ∀ i, i < n9 + 1 → mvP (ob I L) n4 n7 i := fun z_ => h32 (((mv_M (s := ob I L) hW (g := n2) (h := n4) (k := n7) (by omega) (by omega) ms_ (i := kx) (by omega))).2 i h31 |>.mpr (z_ kx h26 i h31))
      have e_ : F_first (ob I L) (nI n2) (nI n4) (nI n7) (nI n9) = ((-6), (ob I L)) := by simp only [F_first, ix_s (n := 12) h2, ix_s (n := 12) h5, ix_s (n := 8) h9, ix_s (n := 21) h12, cIf_n h7, cIf_n (show ¬ ((ob I L).1 122 n2 = 0 ∨ (ob I L).1 122 n4 = 0 ∨ (ob I L).1 117 n7 < 0) from fun z_ => z_.elim (show ¬ (ob I L).1 122 n2 = 0 from h14) (fun z_ => z_.elim (show ¬ (ob I L).1 122 n4 = 0 from h15) (kS_w (s := ob I L) h16))), cIf_p (And.intro (show (ob I L).1 124 (10 * n2) = 3 from h17) (show (ob I L).1 124 (10 * n4) = 3 from h18)), cIf_p (show 3 ≤ (ob I L).1 117 n7 from h19), cIf_p ms_, fstA, cIf_n na_]
      rw [e_] at k
      dsimp only at k
      exact k _ _ (ob_25 _ _ _ _) (cS_up (cS_up cS_rf (by omega)) (by omega)))
    (fun n2 h2 e3 n4 h5 e6 h7 n7 h9 e10 n9 h12 e13 h14 h15 h16 h17 h18 h19 h20 h21 h22 => by
      subst e3
      subst e6
      subst e10
      subst e13
      have e_ : F_first (ob I L) (nI n2) (nI n4) (nI n7) (nI n9) = ((-3), (sM (ob I L) 2)) := by simp only [F_first, ix_s (n := 12) h2, ix_s (n := 12) h5, ix_s (n := 8) h9, ix_s (n := 21) h12, cIf_n h7, cIf_n (show ¬ ((ob I L).1 122 n2 = 0 ∨ (ob I L).1 122 n4 = 0 ∨ (ob I L).1 117 n7 < 0) from fun z_ => z_.elim (show ¬ (ob I L).1 122 n2 = 0 from h14) (fun z_ => z_.elim (show ¬ (ob I L).1 122 n4 = 0 from h15) (kS_w (s := ob I L) h16))), cIf_p (And.intro (show (ob I L).1 124 (10 * n2) = 3 from h17) (show (ob I L).1 124 (10 * n4) = 3 from h18)), cIf_p (show 3 ≤ (ob I L).1 117 n7 from h19), cIf_n (show ¬ mvS (ob I L) n7 from fun z_ => h22 (in4.mpr (z_ 2 (by omega))))]
      rw [e_] at k
      dsimp only at k
      exact k _ _ (ob_M _ _ _) (cS_M _ _ _))
    (fun n2 h2 e3 n4 h5 e6 h7 n7 h9 e10 n9 h12 e13 h14 h15 h16 h17 h18 h19 => by
      subst e3
      subst e6
      subst e10
      subst e13
      have e_ : F_first (ob I L) (nI n2) (nI n4) (nI n7) (nI n9) = ((-3), (sM (ob I L) 5)) := by simp only [F_first, ix_s (n := 12) h2, ix_s (n := 12) h5, ix_s (n := 8) h9, ix_s (n := 21) h12, cIf_n h7, cIf_n (show ¬ ((ob I L).1 122 n2 = 0 ∨ (ob I L).1 122 n4 = 0 ∨ (ob I L).1 117 n7 < 0) from fun z_ => z_.elim (show ¬ (ob I L).1 122 n2 = 0 from h14) (fun z_ => z_.elim (show ¬ (ob I L).1 122 n4 = 0 from h15) (kS_w (s := ob I L) h16))), cIf_p (And.intro (show (ob I L).1 124 (10 * n2) = 3 from h17) (show (ob I L).1 124 (10 * n4) = 3 from h18)), cIf_n (show ¬ 3 ≤ (ob I L).1 117 n7 from h19)]
      rw [e_] at k
      dsimp only at k
      exact k _ _ (ob_M _ _ _) (cS_M _ _ _))
    (fun n2 h2 e3 n4 h5 e6 h7 n7 h9 e10 n9 h12 e13 h14 h15 h16 h17 h18 => by
      subst e3
      subst e6
      subst e10
      subst e13
      have e_ : F_first (ob I L) (nI n2) (nI n4) (nI n7) (nI n9) = ((-3), (sM (ob I L) 3)) := by simp only [F_first, ix_s (n := 12) h2, ix_s (n := 12) h5, ix_s (n := 8) h9, ix_s (n := 21) h12, cIf_n h7, cIf_n (show ¬ ((ob I L).1 122 n2 = 0 ∨ (ob I L).1 122 n4 = 0 ∨ (ob I L).1 117 n7 < 0) from fun z_ => z_.elim (show ¬ (ob I L).1 122 n2 = 0 from h14) (fun z_ => z_.elim (show ¬ (ob I L).1 122 n4 = 0 from h15) (kS_w (s := ob I L) h16))), cIf_n (fun z_ : (ob I L).1 124 (10 * n2) = 3 ∧ (ob I L).1 124 (10 * n4) = 3 => h18 z_.2)]
      rw [e_] at k
      dsimp only at k
      exact k _ _ (ob_M _ _ _) (cS_M _ _ _))
    (fun n2 h2 e3 n4 h5 e6 h7 n7 h9 e10 n9 h12 e13 h14 h15 h16 => by
      subst e3
      subst e6
      subst e10
      subst e13
      have e_ : F_first (ob I L) (nI n2) (nI n4) (nI n7) (nI n9) = ((-3), (sM (ob I L) 1)) := by simp only [F_first, ix_s (n := 12) h2, ix_s (n := 12) h5, ix_s (n := 8) h9, ix_s (n := 21) h12, cIf_n h7, cIf_p (show (ob I L).1 122 n2 = 0 ∨ (ob I L).1 122 n4 = 0 ∨ (ob I L).1 117 n7 < 0 from Or.inr (Or.inr (kS_y (s := ob I L) h16)))]
      rw [e_] at k
      dsimp only at k
      exact k _ _ (ob_M _ _ _) (cS_M _ _ _))
    (fun n2 h2 e3 n4 h5 e6 h7 n7 h9 e10 h11 => by
      subst e3
      subst e6
      subst e10
      have e_ : F_first (ob I L) (nI n2) (nI n4) (nI n7) n_ = ((-1), (ob I L)) := by simp only [F_first, ix_s (n := 12) h2, ix_s (n := 12) h5, ix_s (n := 8) h9, (show ix 21 n_ = none from (ix_n2 h11 li_21)), cIf_n h7]
      rw [e_] at k
      dsimp only at k
      exact k _ _ rfl cS_rf)
theorem p_first {g : ma_G} {I : ma_I} {L : ma_L} {P1 : ma_P} (hI : INV I L) (a1 a2 a3 a4 : Int32) (k : ∀ (r : Int32) (I1 : ma_I) (L1 : ma_L), (∀ {P2 : ma_P}, (∀ (I2 : ma_I) (L2 : ma_L), INV I2 L2 → P2 (some (.int r)) HS I2 L2 RF 146) → CT g yX8_first cX8_first 10 (some .int) rX8_first [.ref 115, .int a1, .int a2, .int a3, .int a4] P2 HS I1 L1 RF 146) → P1 (some (.int r)) HS I1 L1 RF 146) : CT g yX7_first cX7_first 7 (some .int) rX7_first [.ref 3, .int a1, .int a2, .int a3, .int a4] P1 HS I L RF 146 :=
  pair_i (F := F_first (ob I L) a1 a2 a3 a4) hI (W_first hI.1 a1 a2 a3 a4) (fun P kk => C_first hI.1 hI.2 a1 a2 a3 a4 kk) (fun I1 L1 P e kk => M_first (by rw [e]; exact hI.1)  a1 a2 a3 a4 (by rw [e]; exact kk)) k
