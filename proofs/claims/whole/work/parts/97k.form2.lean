def fN (x0 x1 x2 x3 x4 : Int32) : Int32 := (((((0 + (if ¬ x0 = 0 then (1 : Int32) else 0)) + (if ¬ x1 = 0 then (1 : Int32) else 0)) + (if ¬ x2 = 0 then (1 : Int32) else 0)) + (if ¬ x3 = 0 then (1 : Int32) else 0)) + (if ¬ x4 = 0 then (1 : Int32) else 0))
theorem fN_c (x0 x1 x2 x3 x4 : Int32) : (if x4 = 0 then (if x3 = 0 then (if x2 = 0 then (if x1 = 0 then (if ¬ x0 = 0 then (1 : Int32) else 0) else ((if ¬ x0 = 0 then (1 : Int32) else 0) + 1)) else ((if x1 = 0 then (if ¬ x0 = 0 then (1 : Int32) else 0) else ((if ¬ x0 = 0 then (1 : Int32) else 0) + 1)) + 1)) else ((if x2 = 0 then (if x1 = 0 then (if ¬ x0 = 0 then (1 : Int32) else 0) else ((if ¬ x0 = 0 then (1 : Int32) else 0) + 1)) else ((if x1 = 0 then (if ¬ x0 = 0 then (1 : Int32) else 0) else ((if ¬ x0 = 0 then (1 : Int32) else 0) + 1)) + 1)) + 1)) else ((if x3 = 0 then (if x2 = 0 then (if x1 = 0 then (if ¬ x0 = 0 then (1 : Int32) else 0) else ((if ¬ x0 = 0 then (1 : Int32) else 0) + 1)) else ((if x1 = 0 then (if ¬ x0 = 0 then (1 : Int32) else 0) else ((if ¬ x0 = 0 then (1 : Int32) else 0) + 1)) + 1)) else ((if x2 = 0 then (if x1 = 0 then (if ¬ x0 = 0 then (1 : Int32) else 0) else ((if ¬ x0 = 0 then (1 : Int32) else 0) + 1)) else ((if x1 = 0 then (if ¬ x0 = 0 then (1 : Int32) else 0) else ((if ¬ x0 = 0 then (1 : Int32) else 0) + 1)) + 1)) + 1)) + 1)) = fN x0 x1 x2 x3 x4 := by
  unfold fN
  by_cases h0 : x0 = 0 <;> by_cases h1 : x1 = 0 <;> by_cases h2 : x2 = 0 <;> by_cases h3 : x3 = 0 <;> by_cases h4 : x4 = 0 <;> simp only [h0, h1, h2, h3, h4, if_true, if_false, not_true, not_false_eq_true] <;> decide
/-- the form of grounds g and h -/
def zf (s : sG) (g h : Nat) : Nat → Int := zF (tz s g) (tz s h)
theorem zf_b {s : sG} (h : wF s) {g k : Nat} (hg : g < 12) (hk : k < 12) : ∀ j, j < 5 → (zf s g k j).natAbs ≤ 623616 := by
  have b := zF_b (tz_b (h.2.1 g hg)) (fun j hj => mvB_4 (tz_b (h.2.1 k hk) j hj))
  intro j hj
  match j, hj with
  | 0, _ => exact Nat.le_trans b.1 (by decide)
  | 1, _ => exact Nat.le_trans b.2.1 (by decide)
  | 2, _ => exact Nat.le_trans b.2.2.1 (by decide)
  | 3, _ => exact b.2.2.2.1
  | 4, _ => exact Nat.le_trans b.2.2.2.2 (by decide)
/-- the form of two grounds in the class -/
theorem zf_C {s : sG} {I : ma_I} {L : ma_L} (hW : wF s) (hC : ∀ g, g < 12 → rcG s I L g) {g h : Nat} (hg : g < 12) (hh : h < 12) : ∀ k, k < 5 → cFo (L (57 + 5 * g)) (L (57 + 5 * h)) 1 1 k = Int64.ofInt (zf s g h k) := by
  have e : ∀ A B : Nat → Int, zF (fun j => A j * (1 : Int32).toInt) (fun j => B j * (1 : Int32).toInt) = zF A B := fun A B => by
    have z1 : (1 : Int32).toInt = 1 := by decide
    rw [z1]; simp only [Int.mul_one]
  have q := cFo_z (M := 1) (Q := 1) (A := tz s g) (B := tz s h) (Or.inl rfl) (Or.inl rfl) (fun j hj => ((hC g hg).2.1 j hj).trans (i2l_o _)) (fun j hj => ((hC h hh).2.1 j hj).trans (i2l_o _)) (fun k hk => by rw [e]; exact Nat.le_trans (zf_b hW hg hh k hk) (by decide))
  intro k hk
  rw [q k hk, e]; rfl
/-- and in the reference -/
theorem zf_M (s : sG) (g h : Nat) {a b : Nat → Int32} (ha : ∀ j, j < 16 → a j = s.1 123 (16 * g + j)) (hb : ∀ j, j < 16 → b j = s.1 123 (16 * h + j)) : ∀ k, mFm a b k = Int64.ofInt (zf s g h k) := fun k => by
  rw [mFm_congr ha hb, mFm_o]; rfl
def sFo (s : sG) (f : Nat → Int64) : sG := (ma_up s.1 115 (ma_up (s.1 115) 26 1), ma_up s.2 135 (ma_up (ma_up (ma_up (ma_up (ma_up (s.2 135) 0 (f 0)) 1 (f 1)) 2 (f 2)) 3 (f 3)) 4 (f 4)))
theorem sFo_r {s : sG} {f : Nat → Int64} {a : Nat} (h : a ≠ 115) : (sFo s f).1 a = s.1 a := by unfold sFo; dsimp only; rw [ma_up_n _ _ h]
theorem wF_fo {s : sG} (h : wF s) (f : Nat → Int64) : wF (sFo s f) := wF_s h (fun a q => sFo_r (by omega))
theorem rC_fo {s : sG} {I : ma_I} {L : ma_L} (h : rC s I L) {f : Nat → Int64} {x0 x1 x2 x3 x4 : Int32} (h0 : x0 = Int64.toInt32 (f 0)) (h1 : x1 = Int64.toInt32 (f 1)) (h2 : x2 = Int64.toInt32 (f 2)) (h3 : x3 = Int64.toInt32 (f 3)) (h4 : x4 = Int64.toInt32 (f 4)) : rC (sFo s f) (ma_up (ma_up I 37 (ma_up (ma_up (ma_up (ma_up (ma_up (I 37) 0 x0) 1 x1) 2 x2) 3 x3) 4 x4)) 3 (ma_up (I 3) 12 1)) L := by
  subst h0 h1 h2 h3 h4
  obtain ⟨⟨a1, a2, a3, a4, a5⟩, ⟨b1, b2⟩, ⟨c1, c2⟩, r4, r5, r6, r7⟩ := h
  generalize hJ : ma_up (ma_up I 37 (ma_up (ma_up (ma_up (ma_up (ma_up (I 37) 0 (Int64.toInt32 (f 0))) 1 (Int64.toInt32 (f 1))) 2 (Int64.toInt32 (f 2))) 3 (Int64.toInt32 (f 3))) 4 (Int64.toInt32 (f 4)))) 3 (ma_up (I 3) 12 1) = J
  have q : ∀ a, a ≠ 3 → a ≠ 37 → J a = I a := fun a h1 h2 => by rw [← hJ, ma_up_n _ _ h1, ma_up_n _ _ h2]
  have q3 : J 3 = ma_up (I 3) 12 1 := by rw [← hJ, ma_up_s]
  have q7 : J 37 = ma_up (ma_up (ma_up (ma_up (ma_up (I 37) 0 (Int64.toInt32 (f 0))) 1 (Int64.toInt32 (f 1))) 2 (Int64.toInt32 (f 2))) 3 (Int64.toInt32 (f 3))) 4 (Int64.toInt32 (f 4)) := by rw [← hJ, ma_up_n _ _ (by decide), ma_up_s]
  have s5 : (sFo s f).1 115 = ma_up (s.1 115) 26 1 := rfl
  refine ⟨⟨?_, a2, a3, ?_, fun k hk => ?_⟩, ⟨?_, fun k hk => ?_⟩, ⟨?_, fun k hk => ?_⟩, ?_, ?_, fun x hx => ?_, fun g hg => ?_⟩
  · rw [q3, s5, ma_up_n _ _ (by decide), ma_up_n _ _ (by decide)]; exact a1
  · rw [q3, s5, ma_up_n _ _ (by decide), ma_up_n _ _ (by decide)]; exact a4
  · rw [q 38 (by decide) (by decide), sFo_r (by decide)]; exact a5 k hk
  · rw [q3, s5, ma_up_n _ _ (by decide), ma_up_n _ _ (by decide)]; exact b1
  · rw [q 36 (by decide) (by decide), sFo_r (by decide)]; exact b2 k hk
  · rw [q3, s5, ma_up_s, ma_up_s]
  · rw [q7]
    match k, hk with
    | 0, _ => rfl
    | 1, _ => rfl
    | 2, _ => rfl
    | 3, _ => rfl
    | 4, _ => rfl
  · unfold rcK at r4 ⊢; rw [q 32 (by decide) (by decide), q 33 (by decide) (by decide), s5, ma_up_n _ _ (by decide), sFo_r (a := 148) (by decide)]; exact r4
  · unfold rcT at r5 ⊢; rw [q 27 (by decide) (by decide), q 28 (by decide) (by decide)]; exact r5
  · have := r6 x hx; unfold rcS at this ⊢; rw [q (39 + 2 * x) (by omega) (by omega), q (40 + 2 * x) (by omega) (by omega), sFo_r (a := 117) (by decide), sFo_r (a := 118) (by decide)]; exact this
  · have := r7 g hg; unfold rcG tb at this ⊢; rw [q (55 + 5 * g) (by omega) (by omega), q (59 + 5 * g) (by omega) (by omega), sFo_r (a := 122) (by decide), sFo_r (a := 123) (by decide), sFo_r (a := 124) (by decide)]; exact this
theorem oL_up {L : ma_L} (r : Nat → Int64) : oL (ma_up L 135 r) = ma_up (oL L) 135 r := by
  funext b k
  by_cases e : b = 135
  · subst e; rw [ma_up_s, oL_r, ma_up_s]
  · rw [ma_up_n _ _ e]; unfold oL; rw [ma_up_n _ _ e]
theorem ob_fo {I J : ma_I} {L K : ma_L} (hx : mSx [133, 134] [] I J) (hl : mSl [132, 120] L K) {f : Nat → Int64} {y0 y1 y2 y3 y4 : Int64} (h0 : y0 = f 0) (h1 : y1 = f 1) (h2 : y2 = f 2) (h3 : y3 = f 3) (h4 : y4 = f 4) : ob (ma_up J 115 (ma_up (J 115) 26 1)) (ma_up K 135 (ma_up (ma_up (ma_up (ma_up (ma_up (K 135) 0 y0) 1 y1) 2 y2) 3 y3) 4 y4)) = sFo (ob I L) f := by
  subst h0 h1 h2 h3 h4
  have e : ob I L = ob J K := by unfold ob; rw [oI_sx hx rfl rfl, oL_sl hl rfl]
  rw [e]
  unfold sFo ob
  rw [oI_uf _ rfl, oL_up]
  rfl
noncomputable def F_form (s : sG) (q r : Int32) : Int32 × sG := match gP s q r with
  | .inl r => r
  | .inr (g, h) => (fN (Int32.ofInt (zf s g h 0)) (Int32.ofInt (zf s g h 1)) (Int32.ofInt (zf s g h 2)) (Int32.ofInt (zf s g h 3)) (Int32.ofInt (zf s g h 4)), sFo s (fun k => Int64.ofInt (zf s g h k)))
theorem W_form {s : sG} (h : wF s) (a1 a2 : Int32) : wF (F_form s a1 a2).2 := by
  unfold F_form
  split
  · rename_i e; exact gP_w h e
  · rename_i g k e; exact wF_fo h (fun j => Int64.ofInt (zf s g k j))
theorem fo_1 {v : Int} {y : Int64} (h : v.natAbs ≤ 623616) (e : y = Int64.ofInt v) : (if ¬ y = 0 then (1 : Int32) else 0) = if ¬ Int32.ofInt v = 0 then (1 : Int32) else 0 := by
  subst e
  by_cases q : v = 0
  · subst q; rfl
  · rw [if_pos (fun z => q ((o6_0 (by omega)).mp z)), if_pos (fun z => q ((o3_0 (by omega)).mp z))]
theorem C_form {g : ma_G} {I : ma_I} {L : ma_L} {P : ma_P} {s : sG} (hW : wF s) (hC : rC s I L) (q_ r_ : Int32) (k : ∀ I1 L1, rC (F_form s q_ r_).2 I1 L1 → mS I L I1 L1 → P (some (.int (F_form s q_ r_).1)) HS I1 L1 RF 146) : CT g yX7_form cX7_form 6 (some .int) rX7_form [.ref 3, .int q_, .int r_] P HS I L RF 146 := by
  obtain ⟨hcM, hcN, hcF, hcK, hcT, hcS, hcG⟩ := id hC
  exact t_X7_form q_ r_ 
    (fun h1 => by
      have e_ : F_form s q_ r_ = ((-1), s) := by simp only [F_form, gP_n (s := s) (ix_n1 h1 ln_12)]
      rw [e_] at k
      dsimp only at k
      exact k _ _ hC mS_rf)
    (fun j2 h2 e3 j5 h5 e6 h7 => by
      subst e3
      subst e6
      have e_ : F_form s (nI j2) (nI j5) = ((-3), (sM s 1)) := by simp only [F_form, gP_m (s := s) h2 h5 (kG_m (hcG j2 (by omega)) h7)]
      rw [e_] at k
      dsimp only at k
      exact k _ _ (rC_R hC (by omega)) (mS_R _ _ _))
    (fun j9 h2 e3 j12 h5 e6 h7 h8 j17 j18 h11 => by
      subst e3
      subst e6
      have y0_ : (Int64.toInt32 (((ma_up (ma_up (ma_up L 16 j17) 13 j18) 12 (ma_up (ma_up (L 12) 5 (cIi (cFo (L (57 + 5 * j9)) (L (57 + 5 * j12)) 1 1))) 6 (cJj (cFo (L (57 + 5 * j9)) (L (57 + 5 * j12)) 1 1)))) 13) 0)) = Int32.ofInt (zf s j9 j12 0) := ((congrArg Int64.toInt32 ((h11 0 (by omega)).trans (zf_C hW hcG (g := j9) (h := j12) (by omega) (by omega) 0 (by omega))))).trans (l2i_o _)
      have y1_ : (Int64.toInt32 (((ma_up (ma_up (ma_up L 16 j17) 13 j18) 12 (ma_up (ma_up (L 12) 5 (cIi (cFo (L (57 + 5 * j9)) (L (57 + 5 * j12)) 1 1))) 6 (cJj (cFo (L (57 + 5 * j9)) (L (57 + 5 * j12)) 1 1)))) 13) 1)) = Int32.ofInt (zf s j9 j12 1) := ((congrArg Int64.toInt32 ((h11 1 (by omega)).trans (zf_C hW hcG (g := j9) (h := j12) (by omega) (by omega) 1 (by omega))))).trans (l2i_o _)
      have y2_ : (Int64.toInt32 (((ma_up (ma_up (ma_up L 16 j17) 13 j18) 12 (ma_up (ma_up (L 12) 5 (cIi (cFo (L (57 + 5 * j9)) (L (57 + 5 * j12)) 1 1))) 6 (cJj (cFo (L (57 + 5 * j9)) (L (57 + 5 * j12)) 1 1)))) 13) 2)) = Int32.ofInt (zf s j9 j12 2) := ((congrArg Int64.toInt32 ((h11 2 (by omega)).trans (zf_C hW hcG (g := j9) (h := j12) (by omega) (by omega) 2 (by omega))))).trans (l2i_o _)
      have y3_ : (Int64.toInt32 (((ma_up (ma_up (ma_up L 16 j17) 13 j18) 12 (ma_up (ma_up (L 12) 5 (cIi (cFo (L (57 + 5 * j9)) (L (57 + 5 * j12)) 1 1))) 6 (cJj (cFo (L (57 + 5 * j9)) (L (57 + 5 * j12)) 1 1)))) 13) 3)) = Int32.ofInt (zf s j9 j12 3) := ((congrArg Int64.toInt32 ((h11 3 (by omega)).trans (zf_C hW hcG (g := j9) (h := j12) (by omega) (by omega) 3 (by omega))))).trans (l2i_o _)
      have y4_ : (Int64.toInt32 (((ma_up (ma_up (ma_up L 16 j17) 13 j18) 12 (ma_up (ma_up (L 12) 5 (cIi (cFo (L (57 + 5 * j9)) (L (57 + 5 * j12)) 1 1))) 6 (cJj (cFo (L (57 + 5 * j9)) (L (57 + 5 * j12)) 1 1)))) 13) 4)) = Int32.ofInt (zf s j9 j12 4) := ((congrArg Int64.toInt32 ((h11 4 (by omega)).trans (zf_C hW hcG (g := j9) (h := j12) (by omega) (by omega) 4 (by omega))))).trans (l2i_o _)
      have e_ : F_form s (nI j9) (nI j12) = ((fN (Int32.ofInt (zf s j9 j12 0)) (Int32.ofInt (zf s j9 j12 1)) (Int32.ofInt (zf s j9 j12 2)) (Int32.ofInt (zf s j9 j12 3)) (Int32.ofInt (zf s j9 j12 4))), (sFo s (fun k => Int64.ofInt (zf s j9 j12 k)))) := by simp only [F_form, gP_o (s := s) h2 h5 (kG_o (hcG j9 (by omega)) h7) (kG_o (hcG j12 (by omega)) h8)]
      rw [e_] at k
      dsimp only at k
      rw [fN_c, y0_, y1_, y2_, y3_, y4_]
      exact k _ _ (rC_x (rC_fo hC (l2i_o _).symm (l2i_o _).symm (l2i_o _).symm (l2i_o _).symm (l2i_o _).symm) (fun _ _ => rfl) (fun a ha => by rw [ma_up_n _ _ (by omega), ma_up_n _ _ (by omega), ma_up_n _ _ (by omega)])) (mS_ul (mS_ul (mS_ul (mS_up (mS_up mS_rf (by omega)) (by omega)) (by omega)) (by omega)) (by omega)))
    (fun j20 h2 e3 j23 h5 e6 h7 h8 => by
      subst e3
      subst e6
      have e_ : F_form s (nI j20) (nI j23) = ((-3), (sM s 1)) := by simp only [F_form, gP_m2 (s := s) h2 h5 (kG_o (hcG j20 (by omega)) h7) (kG_m (hcG j23 (by omega)) h8)]
      rw [e_] at k
      dsimp only at k
      exact k _ _ (rC_R hC (by omega)) (mS_R _ _ _))
    (fun j28 h2 e3 h4 => by
      subst e3
      have e_ : F_form s (nI j28) r_ = ((-1), s) := by simp only [F_form, gP_n2 (s := s) h2 (ix_n1 h4 ln_12)]
      rw [e_] at k
      dsimp only at k
      exact k _ _ hC mS_rf)
theorem M_form {g : ma_G} {I : ma_I} {L : ma_L} {P : ma_P} (hW : wF (ob I L))  (q_ r_ : Int32) (k : ∀ I2 L2, ob I2 L2 = (F_form (ob I L) q_ r_).2 → cS I L I2 L2 → P (some (.int (F_form (ob I L) q_ r_).1)) HS I2 L2 RF 146) : CT g yX8_form cX8_form 6 (some .int) rX8_form [.ref 115, .int q_, .int r_] P HS I L RF 146 := by
  exact t_X8_form q_ r_ 
    (fun h1 => by
      have e_ : F_form (ob I L) q_ r_ = ((-1), (ob I L)) := by simp only [F_form, gP_n (s := (ob I L)) (ix_n2 h1 li_12)]
      rw [e_] at k
      dsimp only at k
      exact k _ _ rfl cS_rf)
    (fun j2 h2 e3 j5 h5 e6 h7 => by
      subst e3
      subst e6
      have e_ : F_form (ob I L) (nI j2) (nI j5) = ((-3), (sM (ob I L) 1)) := by simp only [F_form, gP_m (s := (ob I L)) h2 h5 (show (ob I L).1 122 j2 = 0 from h7)]
      rw [e_] at k
      dsimp only at k
      exact k _ _ (ob_M _ _ _) (cS_M _ _ _))
    (fun j9 h2 e3 j12 h5 e6 h7 h8 => by
      subst e3
      subst e6
      have e_ : F_form (ob I L) (nI j9) (nI j12) = ((-3), (sM (ob I L) 1)) := by simp only [F_form, gP_m2 (s := (ob I L)) h2 h5 (show ¬ (ob I L).1 122 j9 = 0 from h7) (show (ob I L).1 122 j12 = 0 from h8)]
      rw [e_] at k
      dsimp only at k
      exact k _ _ (ob_M _ _ _) (cS_M _ _ _))
    (fun j17 h2 e3 j20 h5 e6 h7 h8 J29 h10 h11 h12 K33 h14 h15 h16 h17 h18 h19 => by
      subst e3
      subst e6
      have mf_ := zf_M (ob I L) j17 j20 h10 h11
      have y0_ := h14.trans (mf_ 0)
      have y1_ := h15.trans (mf_ 1)
      have y2_ := h16.trans (mf_ 2)
      have y3_ := h17.trans (mf_ 3)
      have y4_ := h18.trans (mf_ 4)
      have zb_ := zf_b hW (g := j17) (k := j20) (by omega) (by omega)
      have e_ : F_form (ob I L) (nI j17) (nI j20) = ((fN (Int32.ofInt (zf (ob I L) j17 j20 0)) (Int32.ofInt (zf (ob I L) j17 j20 1)) (Int32.ofInt (zf (ob I L) j17 j20 2)) (Int32.ofInt (zf (ob I L) j17 j20 3)) (Int32.ofInt (zf (ob I L) j17 j20 4))), (sFo (ob I L) (fun k => Int64.ofInt (zf (ob I L) j17 j20 k)))) := by simp only [F_form, gP_o (s := (ob I L)) h2 h5 (show ¬ (ob I L).1 122 j17 = 0 from h7) (show ¬ (ob I L).1 122 j20 = 0 from h8)]
      rw [e_] at k
      dsimp only at k
      rw [fo_1 (zb_ 0 (by omega)) y0_, fo_1 (zb_ 1 (by omega)) y1_, fo_1 (zb_ 2 (by omega)) y2_, fo_1 (zb_ 3 (by omega)) y3_, fo_1 (zb_ 4 (by omega)) y4_]
      exact k _ _ (ob_fo h12 h19 y0_ y1_ y2_ y3_ y4_) (cS_ul (cS_up (cS_sx h12 h19 rfl rfl) (by omega)) (by omega)))
    (fun j25 h2 e3 h4 => by
      subst e3
      have e_ : F_form (ob I L) (nI j25) r_ = ((-1), (ob I L)) := by simp only [F_form, gP_n2 (s := (ob I L)) h2 (ix_n2 h4 li_12)]
      rw [e_] at k
      dsimp only at k
      exact k _ _ rfl cS_rf)
theorem p_form {g : ma_G} {I : ma_I} {L : ma_L} {P1 : ma_P} (hI : INV I L) (a1 a2 : Int32) (k : ∀ (r : Int32) (I1 : ma_I) (L1 : ma_L), (∀ {P2 : ma_P}, (∀ (I2 : ma_I) (L2 : ma_L), INV I2 L2 → P2 (some (.int r)) HS I2 L2 RF 146) → CT g yX8_form cX8_form 6 (some .int) rX8_form [.ref 115, .int a1, .int a2] P2 HS I1 L1 RF 146) → P1 (some (.int r)) HS I1 L1 RF 146) : CT g yX7_form cX7_form 6 (some .int) rX7_form [.ref 3, .int a1, .int a2] P1 HS I L RF 146 :=
  pair_i (F := F_form (ob I L) a1 a2) hI (W_form hI.1 a1 a2) (fun P kk => C_form hI.1 hI.2 a1 a2 kk) (fun I1 L1 P e kk => M_form (by rw [e]; exact hI.1)  a1 a2 (by rw [e]; exact kk)) k
