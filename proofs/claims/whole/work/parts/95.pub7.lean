noncomputable def cIf {α : Type} (P : Prop) (a b : α) : α := @ite α P (Classical.propDecidable P) a b
theorem cIf_p {α : Type} {P : Prop} {a b : α} (h : P) : cIf P a b = a := if_pos h
theorem cIf_n {α : Type} {P : Prop} {a b : α} (h : ¬ P) : cIf P a b = b := if_neg h
/-- the places of a sheet -/
def rw_ (s : sG) (x : Nat) : Nat → Int32 := fun k => s.1 118 (16 * x + k)
theorem mRg_c {f f' : Nat → Int32} {n : Nat} {w : Int32} (h : ∀ j, j < n → f j = f' j) : mRg f n w ↔ mRg f' n w := ⟨fun q j hj => by rw [← h j hj]; exact q j hj, fun q j hj => by rw [h j hj]; exact q j hj⟩
theorem mZr_c {f f' : Nat → Int32} {n : Nat} (h : ∀ j, j < n → f j = f' j) : mZr f n ↔ mZr f' n := ⟨fun q j hj => by rw [← h j hj]; exact q j hj, fun q j hj => by rw [h j hj]; exact q j hj⟩
def tGr (s : sG) (x : Nat) : Nat → Int32 := fun j => s.1 118 (16 * x + cIx j)
theorem cIx_10 : ∀ j, j < 16 → cIx j < 10 := by decide
theorem cIx_sy : ∀ i, i < 4 → ∀ j, j < 4 → cIx (4 * i + j) = cIx (4 * j + i) := by decide
theorem tGr_s {s : sG} {x : Nat} (h : mRg (rw_ s x) 10 4) : tSm (tGr s x) := ⟨fun j hj => by
  have := h (cIx j) (cIx_10 j hj)
  have z4 : (4 : Int32).toInt = 4 := by decide
  have zm : (-4 : Int32).toInt = -4 := by decide
  unfold rw_ at this
  rw [nb_lt, nb_lt, z4, zm] at this
  unfold tGr
  omega, fun i j hi hj => by unfold tGr; rw [cIx_sy i hi j hj]⟩
theorem mPl_e {s : sG} {x k : Nat} (h : wfS s x) (h0 : ¬ s.1 117 x < 0) (hk : k < 16) : (if s.1 117 x ≤ nI k then (0 : Int32) else s.1 118 (16 * x + k)) = s.1 118 (16 * x + k) := by
  by_cases q : s.1 117 x ≤ nI k
  · rw [if_pos q]
    rw [nb_le, nI_toInt (by omega)] at q
    exact (h.2 (kS_z h0) k hk q).symm
  · rw [if_neg q]
noncomputable def F_ground (s : sG) (q a : Int32) : Int32 × sG := match ix 12 q with
  | none => (-1, s)
  | some g => match gS s a with
    | .inl r => r
    | .inr x => cIf (mRg (rw_ s x) 10 4) (cIf (mZr (rw_ s x) 10) (-3, sM s 4) (mFc (t64 (tGr s x)) 0, sB s g (tGr s x))) (-3, sM s 2)
theorem W_ground {s : sG} (h : wF s) (a1 a2 : Int32) : wF (F_ground s a1 a2).2 := by
  unfold F_ground
  split
  · exact h
  · rename_i g hg
    split
    · rename_i e; exact gS_w h e
    · rename_i x e
      by_cases q : mRg (rw_ s x) 10 4
      · rw [cIf_p q]
        by_cases q2 : mZr (rw_ s x) 10
        · rw [cIf_p q2]; exact wF_M h _
        · rw [cIf_n q2]; exact wF_B h g (tGr_s q)
      · rw [cIf_n q]; exact wF_M h _
theorem C_ground {g : ma_G} {I : ma_I} {L : ma_L} {P : ma_P} {s : sG} (hW : wF s) (hC : rC s I L) (q_ s_ : Int32) (k : ∀ I1 L1, rC (F_ground s q_ s_).2 I1 L1 → mS I L I1 L1 → P (some (.int (F_ground s q_ s_).1)) HS I1 L1 RF 146) : CT g yX7_ground cX7_ground 4 (some .int) rX7_ground [.ref 3, .int q_, .int s_] P HS I L RF 146 := by
  obtain ⟨hcM, hcN, hcF, hcK, hcT, hcS, hcG⟩ := id hC
  exact t_X7_ground q_ s_ 
    (fun h1 => by
      have e_ : F_ground s q_ s_ = ((-1), s) := by simp only [F_ground, (show ix 12 q_ = none from (ix_n1 h1 ln_12))]
      rw [e_] at k
      dsimp only at k
      exact k _ _ hC mS_rf)
    (fun n2 h2 e3 n4 h5 e6 h7 h8 h9 R8 h11 L9 h13 J10 K11 h16 h17 h18 h19 h20 h21 h22 h23 => by
      subst e3
      subst e6
      have hT : tSm (tGr s n4) := tGr_s ((mRg_c (f := I (40 + 2 * n4)) (f' := rw_ s n4) (n := 10) (w := 4) (fun j hj => kS_r (hcS n4 (by omega)) (kS_o (hcS n4 (by omega)) (Decidable.not_not.mp h7)) j (by omega))).mp h8)
      have hL7_ : ∀ j, j < 16 → L9 7 j = t64 (tGr s n4) j := fun j hj => by rw [h13, ma_up_s, h11 j hj]; unfold cTe t64 tGr; rw [kS_r (hcS n4 (by omega)) (kS_o (hcS n4 (by omega)) (Decidable.not_not.mp h7)) _ (by have := cIx_10 j hj; omega)]
      have hX : ∀ x, x ≠ 7 → L9 x = L x := fun x hx => by rw [h13, ma_up_n _ _ hx]
      have e_ : F_ground s (nI n2) (nI n4) = (mFc (t64 (tGr s n4)) 0, (sB s n2 (tGr s n4))) := by simp only [F_ground, ix_s (n := 12) h2, gS_o (s := s) h5 (kS_o (hcS n4 (by omega)) (Decidable.not_not.mp h7)), cIf_p ((mRg_c (f := I (40 + 2 * n4)) (f' := rw_ s n4) (n := 10) (w := 4) (fun j hj => kS_r (hcS n4 (by omega)) (kS_o (hcS n4 (by omega)) (Decidable.not_not.mp h7)) j (by omega))).mp h8), cIf_n (fun z => h9 ((mZr_c (f := I (40 + 2 * n4)) (f' := rw_ s n4) (n := 10) (fun j hj => kS_r (hcS n4 (by omega)) (kS_o (hcS n4 (by omega)) (Decidable.not_not.mp h7)) j (by omega))).mpr z))]
      rw [e_] at k
      dsimp only at k
      rw [fc_t hT hL7_ (show 0 < 10 by omega)]
      exact k _ _ (rC_B hC hT hL7_ hX h16 h17 h18 h20 h21) (mS_B (by omega) hX h18 h21))
    (fun n2 h2 e3 n4 h5 e6 h7 h8 h9 => by
      subst e3
      subst e6
      have e_ : F_ground s (nI n2) (nI n4) = ((-3), (sM s 4)) := by simp only [F_ground, ix_s (n := 12) h2, gS_o (s := s) h5 (kS_o (hcS n4 (by omega)) (Decidable.not_not.mp h7)), cIf_p ((mRg_c (f := I (40 + 2 * n4)) (f' := rw_ s n4) (n := 10) (w := 4) (fun j hj => kS_r (hcS n4 (by omega)) (kS_o (hcS n4 (by omega)) (Decidable.not_not.mp h7)) j (by omega))).mp h8), cIf_p ((mZr_c (f := I (40 + 2 * n4)) (f' := rw_ s n4) (n := 10) (fun j hj => kS_r (hcS n4 (by omega)) (kS_o (hcS n4 (by omega)) (Decidable.not_not.mp h7)) j (by omega))).mp h9)]
      rw [e_] at k
      dsimp only at k
      exact k _ _ (rC_R hC (by omega)) (mS_R _ _ _))
    (fun n2 h2 e3 n4 h5 e6 h7 h8 => by
      subst e3
      subst e6
      have e_ : F_ground s (nI n2) (nI n4) = ((-3), (sM s 2)) := by simp only [F_ground, ix_s (n := 12) h2, gS_o (s := s) h5 (kS_o (hcS n4 (by omega)) (Decidable.not_not.mp h7)), cIf_n (fun z => h8 ((mRg_c (f := I (40 + 2 * n4)) (f' := rw_ s n4) (n := 10) (w := 4) (fun j hj => kS_r (hcS n4 (by omega)) (kS_o (hcS n4 (by omega)) (Decidable.not_not.mp h7)) j (by omega))).mpr z))]
      rw [e_] at k
      dsimp only at k
      exact k _ _ (rC_R hC (by omega)) (mS_R _ _ _))
    (fun n2 h2 e3 n4 h5 e6 h7 => by
      subst e3
      subst e6
      have e_ : F_ground s (nI n2) (nI n4) = ((-3), (sM s 1)) := by simp only [F_ground, ix_s (n := 12) h2, gS_m (s := s) h5 (kS_m (hcS n4 (by omega)) h7)]
      rw [e_] at k
      dsimp only at k
      exact k _ _ (rC_R hC (by omega)) (mS_R _ _ _))
    (fun n2 h2 e3 h4 => by
      subst e3
      have e_ : F_ground s (nI n2) s_ = ((-1), s) := by simp only [F_ground, ix_s (n := 12) h2, gS_n (s := s) (ix_n1 h4 ln_8)]
      rw [e_] at k
      dsimp only at k
      exact k _ _ hC mS_rf)
theorem M_ground {g : ma_G} {I : ma_I} {L : ma_L} {P : ma_P} (hW : wF (ob I L))  (q_ s_ : Int32) (k : ∀ I2 L2, ob I2 L2 = (F_ground (ob I L) q_ s_).2 → cS I L I2 L2 → P (some (.int (F_ground (ob I L) q_ s_).1)) HS I2 L2 RF 146) : CT g yX8_ground cX8_ground 8 (some .int) rX8_ground [.ref 115, .int q_, .int s_] P HS I L RF 146 := by
  exact t_X8_ground q_ s_ (fun j hj => (hW.1 j hj).1)
    (fun h1 => by
      have e_ : F_ground (ob I L) q_ s_ = ((-1), (ob I L)) := by simp only [F_ground, (show ix 12 q_ = none from (ix_n2 h1 li_12))]
      rw [e_] at k
      dsimp only at k
      exact k _ _ rfl cS_rf)
    (fun n2 h2 e3 n4 h5 e6 h7 h8 x16 y17 h11 h12 => by
      subst e3
      subst e6
      have pl_ : ∀ j, j < 10 → mPl I n4 j = rw_ (ob I L) n4 j := fun j hj => mPl_e (s := ob I L) (hW.1 n4 (by omega)) (kS_w (s := ob I L) h8) (by omega)
      have rg_ : x16 = 1 ↔ mRg (rw_ (ob I L) n4) 10 4 := h11.1.2.trans ⟨fun q j hj => by rw [← pl_ j hj]; exact q j hj, fun q j hj => by rw [pl_ j hj]; exact q j hj⟩
      have zr_ : y17 = 1 ↔ mZr (rw_ (ob I L) n4) 10 := h11.2.2.trans ⟨fun q j hj => by rw [← pl_ j hj]; exact q j hj, fun q j hj => by rw [pl_ j hj]; exact q j hj⟩
      have b1_ := h11.1.1
      have b2_ := h11.2.1
      have e_ : F_ground (ob I L) (nI n2) (nI n4) = ((-3), (sM (ob I L) 2)) := by simp only [F_ground, ix_s (n := 12) h2, gS_o (s := (ob I L)) h7 (kS_w (s := ob I L) h8), cIf_n (fun z => absurd (rg_.mpr z) (by rw [h12]; decide))]
      rw [e_] at k
      dsimp only at k
      exact k _ _ (ob_M _ _ _) (cS_M _ _ _))
    (fun n2 h2 e3 n4 h5 e6 h7 h8 x16 y17 h11 h12 h13 I63 h15 r64 J65 K66 h19 h20 h21 h22 h23 => by
      subst e3
      subst e6
      have pl_ : ∀ j, j < 10 → mPl I n4 j = rw_ (ob I L) n4 j := fun j hj => mPl_e (s := ob I L) (hW.1 n4 (by omega)) (kS_w (s := ob I L) h8) (by omega)
      have rg_ : x16 = 1 ↔ mRg (rw_ (ob I L) n4) 10 4 := h11.1.2.trans ⟨fun q j hj => by rw [← pl_ j hj]; exact q j hj, fun q j hj => by rw [pl_ j hj]; exact q j hj⟩
      have zr_ : y17 = 1 ↔ mZr (rw_ (ob I L) n4) 10 := h11.2.2.trans ⟨fun q j hj => by rw [← pl_ j hj]; exact q j hj, fun q j hj => by rw [pl_ j hj]; exact q j hj⟩
      have b1_ := h11.1.1
      have b2_ := h11.2.1
      have w0 : (if I 117 n4 ≤ 0 then (0 : Int32) else I 118 (16 * n4 + 0)) = tGr (ob I L) n4 0 := mPl_e (s := ob I L) (k := 0) (hW.1 n4 (by omega)) (kS_w (s := ob I L) h8) (by omega)
      have w1 : (if I 117 n4 ≤ 1 then (0 : Int32) else I 118 (16 * n4 + 1)) = tGr (ob I L) n4 1 := mPl_e (s := ob I L) (k := 1) (hW.1 n4 (by omega)) (kS_w (s := ob I L) h8) (by omega)
      have w2 : (if I 117 n4 ≤ 2 then (0 : Int32) else I 118 (16 * n4 + 2)) = tGr (ob I L) n4 2 := mPl_e (s := ob I L) (k := 2) (hW.1 n4 (by omega)) (kS_w (s := ob I L) h8) (by omega)
      have w3 : (if I 117 n4 ≤ 3 then (0 : Int32) else I 118 (16 * n4 + 3)) = tGr (ob I L) n4 3 := mPl_e (s := ob I L) (k := 3) (hW.1 n4 (by omega)) (kS_w (s := ob I L) h8) (by omega)
      have w4 : (if I 117 n4 ≤ 4 then (0 : Int32) else I 118 (16 * n4 + 4)) = tGr (ob I L) n4 5 := mPl_e (s := ob I L) (k := 4) (hW.1 n4 (by omega)) (kS_w (s := ob I L) h8) (by omega)
      have w5 : (if I 117 n4 ≤ 5 then (0 : Int32) else I 118 (16 * n4 + 5)) = tGr (ob I L) n4 6 := mPl_e (s := ob I L) (k := 5) (hW.1 n4 (by omega)) (kS_w (s := ob I L) h8) (by omega)
      have w6 : (if I 117 n4 ≤ 6 then (0 : Int32) else I 118 (16 * n4 + 6)) = tGr (ob I L) n4 7 := mPl_e (s := ob I L) (k := 6) (hW.1 n4 (by omega)) (kS_w (s := ob I L) h8) (by omega)
      have w7 : (if I 117 n4 ≤ 7 then (0 : Int32) else I 118 (16 * n4 + 7)) = tGr (ob I L) n4 10 := mPl_e (s := ob I L) (k := 7) (hW.1 n4 (by omega)) (kS_w (s := ob I L) h8) (by omega)
      have w8 : (if I 117 n4 ≤ 8 then (0 : Int32) else I 118 (16 * n4 + 8)) = tGr (ob I L) n4 11 := mPl_e (s := ob I L) (k := 8) (hW.1 n4 (by omega)) (kS_w (s := ob I L) h8) (by omega)
      have w9 : (if I 117 n4 ≤ 9 then (0 : Int32) else I 118 (16 * n4 + 9)) = tGr (ob I L) n4 15 := mPl_e (s := ob I L) (k := 9) (hW.1 n4 (by omega)) (kS_w (s := ob I L) h8) (by omega)
      rw [w0, w1, w2, w3, w4, w5, w6, w7, w8, w9] at h15
      have e3 : ∀ j, I63 123 j = if 16 * n2 ≤ j ∧ j < 16 * n2 + 16 then (tGr (ob I L) n4) (j - 16 * n2) else I 123 j := fun j => by
        rw [h15, ma_up_n _ _ (show 123 ≠ 122 by decide), ma_up_s]
        by_cases q_ : 16 * n2 ≤ j ∧ j < 16 * n2 + 16
        · rw [if_pos q_]
          obtain ⟨i, hi, rfl⟩ : ∃ i, i < 16 ∧ j = 16 * n2 + i := ⟨j - 16 * n2, by omega, by omega⟩
          rw [Nat.add_sub_cancel_left]
          match i, hi with
          | 0, _ => rw [ma_up_n _ _ (by omega), ma_up_n _ _ (by omega), ma_up_n _ _ (by omega), ma_up_n _ _ (by omega), ma_up_n _ _ (by omega), ma_up_n _ _ (by omega), ma_up_n _ _ (by omega), ma_up_n _ _ (by omega), ma_up_n _ _ (by omega), ma_up_n _ _ (by omega), ma_up_n _ _ (by omega), ma_up_n _ _ (by omega), ma_up_n _ _ (by omega), ma_up_n _ _ (by omega), ma_up_n _ _ (by omega)]; exact ma_up_s _ _ _
          | 1, _ => simp [ma_up, tGr, cIx]
          | 2, _ => simp [ma_up, tGr, cIx]
          | 3, _ => simp [ma_up, tGr, cIx]
          | 4, _ => simp [ma_up, tGr, cIx]
          | 5, _ => simp [ma_up, tGr, cIx]
          | 6, _ => simp [ma_up, tGr, cIx]
          | 7, _ => simp [ma_up, tGr, cIx]
          | 8, _ => simp [ma_up, tGr, cIx]
          | 9, _ => simp [ma_up, tGr, cIx]
          | 10, _ => simp [ma_up, tGr, cIx]
          | 11, _ => simp [ma_up, tGr, cIx]
          | 12, _ => simp [ma_up, tGr, cIx]
          | 13, _ => simp [ma_up, tGr, cIx]
          | 14, _ => simp [ma_up, tGr, cIx]
          | 15, _ => simp [ma_up, tGr, cIx]
          | i + 16, h => exact absurd h (by omega)
        · rw [if_neg q_]
          rw [ma_up_n _ _ (by omega), ma_up_n _ _ (by omega), ma_up_n _ _ (by omega), ma_up_n _ _ (by omega), ma_up_n _ _ (by omega), ma_up_n _ _ (by omega), ma_up_n _ _ (by omega), ma_up_n _ _ (by omega), ma_up_n _ _ (by omega), ma_up_n _ _ (by omega), ma_up_n _ _ (by omega), ma_up_n _ _ (by omega), ma_up_n _ _ (by omega), ma_up_n _ _ (by omega), ma_up_n _ _ (by omega), ma_up_n _ _ (by omega)]
      have e2 : I63 122 = ma_up (I 122) n2 1 := by rw [h15, ma_up_s]
      have eo : ∀ a, a = 116 ∨ a = 117 ∨ a = 118 ∨ a = 124 ∨ a = 128 ∨ a = 148 ∨ a = 115 → I63 a = I a := fun a ha => by rw [h15, ma_up_n _ _ (by omega), ma_up_n _ _ (by omega)]
      have ec : ∀ a, a < 115 → I63 a = I a := fun a ha => by rw [h15, ma_up_n _ _ (by omega), ma_up_n _ _ (by omega)]
      have e_ : F_ground (ob I L) (nI n2) (nI n4) = (mFc (t64 (tGr (ob I L) n4)) 0, (sB (ob I L) n2 (tGr (ob I L) n4))) := by simp only [F_ground, ix_s (n := 12) h2, gS_o (s := (ob I L)) h7 (kS_w (s := ob I L) h8), cIf_p (rg_.mp (b1_.elim (fun z => absurd z h12) id)), cIf_n (fun z => absurd (zr_.mpr z) (by rw [h13]; decide))]
      rw [e_] at k
      dsimp only at k
      rw [h23, mFc_c (t := K66 120) (t' := t64 (tGr (ob I L) n4)) (fun j hj => by rw [h20 j hj, e3, if_pos (by omega), Nat.add_sub_cancel_left]; rfl)]
      exact k _ _ (ob_B e3 e2 eo h19 h20 h21 h22) (cS_B ec h21 h22))
    (fun n2 h2 e3 n4 h5 e6 h7 h8 x16 y17 h11 h12 h13 => by
      subst e3
      subst e6
      have pl_ : ∀ j, j < 10 → mPl I n4 j = rw_ (ob I L) n4 j := fun j hj => mPl_e (s := ob I L) (hW.1 n4 (by omega)) (kS_w (s := ob I L) h8) (by omega)
      have rg_ : x16 = 1 ↔ mRg (rw_ (ob I L) n4) 10 4 := h11.1.2.trans ⟨fun q j hj => by rw [← pl_ j hj]; exact q j hj, fun q j hj => by rw [pl_ j hj]; exact q j hj⟩
      have zr_ : y17 = 1 ↔ mZr (rw_ (ob I L) n4) 10 := h11.2.2.trans ⟨fun q j hj => by rw [← pl_ j hj]; exact q j hj, fun q j hj => by rw [pl_ j hj]; exact q j hj⟩
      have b1_ := h11.1.1
      have b2_ := h11.2.1
      have e_ : F_ground (ob I L) (nI n2) (nI n4) = ((-3), (sM (ob I L) 4)) := by simp only [F_ground, ix_s (n := 12) h2, gS_o (s := (ob I L)) h7 (kS_w (s := ob I L) h8), cIf_p (rg_.mp (b1_.elim (fun z => absurd z h12) id)), cIf_p (zr_.mp (b2_.elim (fun z => absurd z h13) id))]
      rw [e_] at k
      dsimp only at k
      exact k _ _ (ob_M _ _ _) (cS_M _ _ _))
    (fun n2 h2 e3 n4 h5 e6 h7 h8 => by
      subst e3
      subst e6
      have e_ : F_ground (ob I L) (nI n2) (nI n4) = ((-3), (sM (ob I L) 1)) := by simp only [F_ground, ix_s (n := 12) h2, gS_m (s := (ob I L)) h7 (kS_y (s := ob I L) h8)]
      rw [e_] at k
      dsimp only at k
      exact k _ _ (ob_M _ _ _) (cS_M _ _ _))
    (fun n2 h2 e3 n4 h5 e6 h7 => by
      subst e3
      subst e6
      exact absurd h7 (ix_c2 rfl h5 li_8))
    (fun n2 h2 e3 h4 => by
      subst e3
      have e_ : F_ground (ob I L) (nI n2) s_ = ((-1), (ob I L)) := by simp only [F_ground, ix_s (n := 12) h2, gS_n (s := (ob I L)) (ix_n2 h4 li_8)]
      rw [e_] at k
      dsimp only at k
      exact k _ _ rfl cS_rf)
theorem p_ground {g : ma_G} {I : ma_I} {L : ma_L} {P1 : ma_P} (hI : INV I L) (a1 a2 : Int32) (k : ∀ (r : Int32) (I1 : ma_I) (L1 : ma_L), (∀ {P2 : ma_P}, (∀ (I2 : ma_I) (L2 : ma_L), INV I2 L2 → P2 (some (.int r)) HS I2 L2 RF 146) → CT g yX8_ground cX8_ground 8 (some .int) rX8_ground [.ref 115, .int a1, .int a2] P2 HS I1 L1 RF 146) → P1 (some (.int r)) HS I1 L1 RF 146) : CT g yX7_ground cX7_ground 4 (some .int) rX7_ground [.ref 3, .int a1, .int a2] P1 HS I L RF 146 :=
  pair_i (F := F_ground (ob I L) a1 a2) hI (W_ground hI.1 a1 a2) (fun P kk => C_ground hI.1 hI.2 a1 a2 kk) (fun I1 L1 P e kk => M_ground (by rw [e]; exact hI.1)  a1 a2 (by rw [e]; exact kk)) k
