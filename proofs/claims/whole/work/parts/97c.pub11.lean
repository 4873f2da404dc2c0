/-- the column i of a table's head by the far column, over the ints -/
def zFar (z : Nat → Int) (i : Nat) : Nat → Int := fun x => if x % 4 = i ∧ x / 4 < 3 then -(z (4 * (x / 4) + 3)) else z x
def zM3 (w : Nat → Int) : Int := (((w 0) * (((w 5) * (w 10)) - ((w 6) * (w 9)))) - ((w 1) * (((w 4) * (w 10)) - ((w 6) * (w 8))))) + ((w 2) * (((w 4) * (w 9)) - ((w 5) * (w 8))))
theorem zFar_o {t : Nat → Int64} {z : Nat → Int} (ht : ∀ j, j < 16 → t j = Int64.ofInt (z j)) (i : Nat) {x : Nat} (hx : x < 16) : cFar t i 3 x = Int64.ofInt (zFar z i x) := by
  unfold cFar zFar
  by_cases h : x % 4 = i ∧ x / 4 < 3
  · rw [if_pos h, if_pos h, Int64.ofInt_neg, ht _ (by omega)]
  · rw [if_neg h, if_neg h, ht _ hx]
theorem cM3_o {u : Nat → Int64} {w : Nat → Int} (h : ∀ x, x < 16 → u x = Int64.ofInt (w x)) : cM3 u 0 1 2 = Int64.ofInt (zM3 w) := by
  show (((u 0) * (((u 5) * (u 10)) - ((u 6) * (u 9)))) - ((u 1) * (((u 4) * (u 10)) - ((u 6) * (u 8))))) + ((u 2) * (((u 4) * (u 9)) - ((u 5) * (u 8)))) = _
  rw [h 0 (by omega), h 5 (by omega), h 10 (by omega), h 6 (by omega), h 9 (by omega), h 1 (by omega), h 4 (by omega), h 8 (by omega), h 2 (by omega)]
  simp only [zM3, Int64.ofInt_add, Int64.ofInt_sub, Int64.ofInt_mul]
theorem i2l_n {x : Int32} (h : -4 ≤ x.toInt ∧ x.toInt ≤ 4) : Int32.toInt64 (-x) = Int64.ofInt (-x.toInt) := by
  have e : (-x).toInt = -x.toInt := by
    have q : (-x) = Int32.ofInt (-x.toInt) := by rw [Int32.ofInt_neg, Int32.ofInt_toInt]
    rw [q, Int32.toInt_ofInt_of_le (by omega) (by omega)]
  rw [i2l_o, e]
theorem mMd_o {T : Nat → Int32} (hT : ∀ j, j < 16 → -4 ≤ (T j).toInt ∧ (T j).toInt ≤ 4) {i : Nat} (hi : i < 3) : mMd T i = Int64.ofInt (zM3 (zFar (pz T) i)) := by
  have n3 := i2l_n (hT 3 (by omega)); have n7 := i2l_n (hT 7 (by omega)); have n11 := i2l_n (hT 11 (by omega))
  match i, hi with
  | 0, _ =>
    have a0 : ((0 : Int32) = nI 0) = True := by simp [nI]
    have a1 : ((1 : Int32) = nI 0) = False := by decide
    have a2 : ((2 : Int32) = nI 0) = False := by decide
    unfold mMd
    simp only [a0, a1, a2, not_true, not_false_eq_true, if_true, if_false, n3, n7, n11, i2l_o]
    rw [← cM3_o (u := fun x => Int64.ofInt (zFar (pz T) 0 x)) (fun _ _ => rfl)]
    rfl
  | 1, _ =>
    have a0 : ((0 : Int32) = nI 1) = False := by decide
    have a1 : ((1 : Int32) = nI 1) = True := by simp [nI]
    have a2 : ((2 : Int32) = nI 1) = False := by decide
    unfold mMd
    simp only [a0, a1, a2, not_true, not_false_eq_true, if_true, if_false, n3, n7, n11, i2l_o]
    rw [← cM3_o (u := fun x => Int64.ofInt (zFar (pz T) 1 x)) (fun _ _ => rfl)]
    rfl
  | 2, _ =>
    have a0 : ((0 : Int32) = nI 2) = False := by decide
    have a1 : ((1 : Int32) = nI 2) = False := by decide
    have a2 : ((2 : Int32) = nI 2) = True := by simp [nI]
    unfold mMd
    simp only [a0, a1, a2, not_true, not_false_eq_true, if_true, if_false, n3, n7, n11, i2l_o]
    rw [← cM3_o (u := fun x => Int64.ofInt (zFar (pz T) 2 x)) (fun _ _ => rfl)]
    rfl
theorem zFar_b {z : Nat → Int} (hz : ∀ j, j < 16 → (z j).natAbs ≤ 4) (i : Nat) {x : Nat} (hx : x < 16) : (zFar z i x).natAbs ≤ 4 := by
  unfold zFar
  split
  · have := hz (4 * (x / 4) + 3) (by omega); omega
  · exact hz x hx
theorem zM3_b {w : Nat → Int} (h : ∀ x, x < 16 → (w x).natAbs ≤ 4) : (zM3 w).natAbs ≤ 384 := by
  have a := fun i (hi : i < 16) => h i hi
  exact na_ (ns_ (nm_ (a 0 (by omega)) (ns_ (nm_ (a 5 (by omega)) (a 10 (by omega))) (nm_ (a 6 (by omega)) (a 9 (by omega))))) (nm_ (a 1 (by omega)) (ns_ (nm_ (a 4 (by omega)) (a 10 (by omega))) (nm_ (a 6 (by omega)) (a 8 (by omega)))))) (nm_ (a 2 (by omega)) (ns_ (nm_ (a 4 (by omega)) (a 9 (by omega))) (nm_ (a 5 (by omega)) (a 8 (by omega)))))
theorem zM3_n {z : Nat → Int} (hz : ∀ j, j < 16 → (z j).natAbs ≤ 4) (i : Nat) : (Int64.ofInt (zM3 (zFar z i))).toInt ≠ -9223372036854775808 := by
  have := zM3_b (w := zFar z i) (fun x hx => zFar_b hz i hx)
  rw [o6_toInt (by omega)]; omega
/-- a share is told -/
def sFr (s : sG) (u l : Int64) : sG := (s.1, ma_up s.2 115 (ma_up (ma_up (s.2 115) 3 u) 4 l))
theorem wF_fr {s : sG} (h : wF s) (u l : Int64) : wF (sFr s u l) := h
theorem rC_fr {s : sG} {I : ma_I} {L : ma_L} (h : rC s I L) {u l u' l' : Int64} (hu : u = u') (hl : l = l') : rC (sFr s u' l') I (ma_up L 3 (ma_up (ma_up (L 3) 14 u) 15 l)) := by
  subst hu hl
  obtain ⟨⟨a1, a2, a3, a4, a5⟩, r2, ⟨c1, c2⟩, r4, r5, r6, r7⟩ := h
  refine ⟨⟨a1, ?_, ?_, a4, a5⟩, r2, ⟨c1, fun k hk => ?_⟩, r4, r5, r6, fun g hg => ⟨(r7 g hg).1, fun j hj => ?_, (r7 g hg).2.2⟩⟩
  · rw [ma_up_s, ma_up_n _ _ (by decide), ma_up_s]; unfold sFr; dsimp only; rw [ma_up_s, ma_up_n _ _ (by decide), ma_up_s]
  · rw [ma_up_s, ma_up_s]; unfold sFr; dsimp only; rw [ma_up_s, ma_up_s]
  · rw [c2 k hk]; unfold sFr; dsimp only; rw [ma_up_n _ _ (by decide)]
  · rw [ma_up_n _ _ (by omega)]; exact (r7 g hg).2.1 j hj
theorem oL_k {L K : ma_L} (h : K 135 = L 135) (h' : K 115 = L 115) : oL K = oL L := by
  funext a k
  unfold oL
  by_cases q : a = 135
  · subst q; rw [h]
  · by_cases q' : a = 115
    · subst q'; rw [h']
    · rw [show (a == 135) = false from beq_eq_false_iff_ne.mpr q, show (a == 115) = false from beq_eq_false_iff_ne.mpr q']; rfl
theorem ob_fr (I : ma_I) {L K : ma_L} (h : K 135 = L 135) (h' : K 115 = L 115) {u l u' l' : Int64} (hu : u = u') (hl : l = l') : ob I (ma_up K 115 (ma_up (ma_up (K 115) 3 u) 4 l)) = sFr (ob I L) u' l' := by
  subst hu hl
  unfold sFr
  rw [show ob I L = ob I K from by unfold ob; rw [oL_k h h']]
  show (oI I, _) = (oI I, _)
  congr 1
  funext a k
  show oL _ a k = ma_up (oL K) 115 (ma_up (ma_up (oL K 115) 3 u) 4 l) a k
  by_cases q' : a = 115
  · subst q'
    rw [ma_up_s]
    by_cases q4 : k = 4
    · subst q4; rw [ma_up_s]; rfl
    · rw [ma_up_n _ _ q4]
      by_cases q3 : k = 3
      · subst q3; rw [ma_up_s]; rfl
      · rw [ma_up_n _ _ q3]; unfold oL; rw [ma_up_s, ma_up_n _ _ q4, ma_up_n _ _ q3]
  · rw [ma_up_n _ _ q']; unfold oL; rw [ma_up_n _ _ q']
def shG (m d : Int64) : Int64 := lN (Nat.gcd m.toInt.natAbs d.toInt.natAbs)
def sMid (s : sG) (g n : Nat) : Int64 := Int64.ofInt (zM3 (zFar (tz s g) n))
def sDen (s : sG) (g : Nat) : Int64 := Int32.toInt64 (s.1 124 (10 * g + 8))
noncomputable def F_middle (s : sG) (q i : Int32) : Int32 × sG := match ix 3 i with
  | none => (-1, s)
  | some n => match ix 12 q with
    | none => (-1, s)
    | some g => if s.1 122 g = 0 then (-3, sM s 1) else if sDen s g = 0 then (-3, sM s 4) else if 0 ≤ sDen s g then (1, sFr s (sMid s g n / shG (sMid s g n) (sDen s g)) (sDen s g / shG (sMid s g n) (sDen s g))) else (1, sFr s (sMid s g n / -(shG (sMid s g n) (sDen s g))) (sDen s g / -(shG (sMid s g n) (sDen s g))))
theorem W_middle {s : sG} (h : wF s) (a1 a2 : Int32) : wF (F_middle s a1 a2).2 := by
  unfold F_middle
  split
  · exact h
  · split
    · exact h
    · split
      · exact wF_M h _
      · split
        · exact wF_M h _
        · split
          · exact wF_fr h _ _
          · exact wF_fr h _ _
theorem cBe_o {L : ma_L} {g : Nat} (hg : 7 ≠ 57 + 5 * g) {z : Nat → Int} (h : ∀ j, j < 16 → L (57 + 5 * g) j = Int64.ofInt (z j)) : ∀ j, j < 16 → (cBe L 7 (57 + 5 * g)) 7 j = Int64.ofInt (z j) := fun j hj => by
  unfold cBe; rw [mfill_at, if_pos (by omega), Nat.sub_zero]; exact h j hj
theorem C_middle {g : ma_G} {I : ma_I} {L : ma_L} {P : ma_P} {s : sG} (hW : wF s) (hC : rC s I L) (q_ i_ : Int32) (k : ∀ I1 L1, rC (F_middle s q_ i_).2 I1 L1 → mS I L I1 L1 → P (some (.int (F_middle s q_ i_).1)) HS I1 L1 RF 146) : CT g yX7_middle cX7_middle 6 (some .int) rX7_middle [.ref 3, .int q_, .int i_] P HS I L RF 146 := by
  obtain ⟨hcM, hcN, hcF, hcK, hcT, hcS, hcG⟩ := id hC
  exact t_X7_middle q_ i_ (fun g i hg hi => by rw [cM3_o (fun x hx => zFar_o (cBe_o (by omega) (fun j hj => ((hcG g hg).2.1 j hj).trans (i2l_o _))) i hx)]; exact zM3_n (tz_b (hW.2.1 g hg)) i)
    (fun h1 => by
      have e_ : F_middle s q_ i_ = ((-1), s) := by simp only [F_middle, (show ix 3 i_ = none from (ix_lt h1))]
      rw [e_] at k
      dsimp only at k
      exact k _ _ hC mS_rf)
    (fun n3 h2 h3 e4 h5 => by
      subst e4
      have e_ : F_middle s q_ (nI n3) = ((-1), s) := by simp only [F_middle, ix_s (n := 3) h3, (show ix 12 q_ = none from (ix_n1 h5 ln_12))]
      rw [e_] at k
      dsimp only at k
      exact k _ _ hC mS_rf)
    (fun n3 h2 h3 e4 j5 h6 e7 h8 h9 => by
      subst e4
      subst e7
      have e_ : F_middle s (nI j5) (nI n3) = ((-3), (sM s 1)) := by simp only [F_middle, ix_s (n := 3) h3, ix_s (n := 12) h8, if_pos (kG_m (hcG j5 (by omega)) h9)]
      rw [e_] at k
      dsimp only at k
      exact k _ _ (rC_R hC (by omega)) (mS_R _ _ _))
    (fun n3 h2 h3 e4 j10 h6 e7 h8 h9 h10 h11 h12 => by
      subst e4
      subst e7
      have dn_ : Int32.toInt64 ((I (59 + 5 * j10)) 8) = sDen s j10 := congrArg Int32.toInt64 (kG_f (hcG j10 (by omega)) h10 (k := 8) (by omega))
      have z_ := h11
      rw [dn_] at z_
      have y_ := h12
      rw [dn_] at y_
      have md_ : cM3 (cFar ((cBe L 7 (57 + 5 * j10)) 7) n3 3) 0 1 2 = sMid s j10 n3 := cM3_o (fun x hx => zFar_o (cBe_o (by omega) (fun j hj => ((hcG j10 (by omega)).2.1 j hj).trans (i2l_o _))) n3 hx)
      have e_ : F_middle s (nI j10) (nI n3) = (1, (sFr s (sMid s j10 n3 / (shG (sMid s j10 n3) (sDen s j10))) (sDen s j10 / (shG (sMid s j10 n3) (sDen s j10))))) := by simp only [F_middle, ix_s (n := 3) h3, ix_s (n := 12) h8, if_neg (kG_o (hcG j10 (by omega)) h10), if_neg z_, if_pos y_]
      rw [e_] at k
      dsimp only at k
      exact k _ _ (rC_fr (rC_x hC (fun _ _ => rfl) (fun a ha => by rw [ma_up_n _ _ (by omega)]; unfold cBe; rw [mfill_n _ _ _ _ (by omega)])) (by rw [ma_up_s, md_, dn_]; rfl) (by rw [ma_up_s, md_, dn_]; rfl)) (mS_ul (mS_ul (mS_ul mS_rf (by omega)) (by omega)) (by omega)))
    (fun n3 h2 h3 e4 j10 h6 e7 h8 h9 h10 h11 h12 => by
      subst e4
      subst e7
      have dn_ : Int32.toInt64 ((I (59 + 5 * j10)) 8) = sDen s j10 := congrArg Int32.toInt64 (kG_f (hcG j10 (by omega)) h10 (k := 8) (by omega))
      have z_ := h11
      rw [dn_] at z_
      have y_ := h12
      rw [dn_] at y_
      have md_ : cM3 (cFar ((cBe L 7 (57 + 5 * j10)) 7) n3 3) 0 1 2 = sMid s j10 n3 := cM3_o (fun x hx => zFar_o (cBe_o (by omega) (fun j hj => ((hcG j10 (by omega)).2.1 j hj).trans (i2l_o _))) n3 hx)
      have e_ : F_middle s (nI j10) (nI n3) = (1, (sFr s (sMid s j10 n3 / -(shG (sMid s j10 n3) (sDen s j10))) (sDen s j10 / -(shG (sMid s j10 n3) (sDen s j10))))) := by simp only [F_middle, ix_s (n := 3) h3, ix_s (n := 12) h8, if_neg (kG_o (hcG j10 (by omega)) h10), if_neg z_, if_neg y_]
      rw [e_] at k
      dsimp only at k
      exact k _ _ (rC_fr (rC_x hC (fun _ _ => rfl) (fun a ha => by rw [ma_up_n _ _ (by omega)]; unfold cBe; rw [mfill_n _ _ _ _ (by omega)])) (by rw [ma_up_s, md_, dn_]; rfl) (by rw [ma_up_s, md_, dn_]; rfl)) (mS_ul (mS_ul (mS_ul mS_rf (by omega)) (by omega)) (by omega)))
    (fun n3 h2 h3 e4 j10 h6 e7 h8 h9 h10 h11 => by
      subst e4
      subst e7
      have dn_ : Int32.toInt64 ((I (59 + 5 * j10)) 8) = sDen s j10 := congrArg Int32.toInt64 (kG_f (hcG j10 (by omega)) h10 (k := 8) (by omega))
      have z_ := h11
      rw [dn_] at z_
      have e_ : F_middle s (nI j10) (nI n3) = ((-3), (sM s 4)) := by simp only [F_middle, ix_s (n := 3) h3, ix_s (n := 12) h8, if_neg (kG_o (hcG j10 (by omega)) h10), if_pos z_]
      rw [e_] at k
      dsimp only at k
      exact k _ _ (rC_R hC (by omega)) (mS_R _ _ _))
    (fun n3 h2 h3 e4 j16 h6 e7 h8 h9 h10 => by
      subst e4
      subst e7
      exact absurd h10 h9)
    (fun n3 h2 h3 e4 j22 h6 e7 h8 => by
      subst e4
      subst e7
      exact absurd h8 (ix_c1 rfl h6 ln_12))
    (fun h1 h2 => by
      have e_ : F_middle s q_ i_ = ((-1), s) := by simp only [F_middle, (show ix 3 i_ = none from (ix_gt h2 li_3))]
      rw [e_] at k
      dsimp only at k
      exact k _ _ hC mS_rf)
theorem M_middle {g : ma_G} {I : ma_I} {L : ma_L} {P : ma_P} (hW : wF (ob I L))  (q_ i_ : Int32) (k : ∀ I2 L2, ob I2 L2 = (F_middle (ob I L) q_ i_).2 → cS I L I2 L2 → P (some (.int (F_middle (ob I L) q_ i_).1)) HS I2 L2 RF 146) : CT g yX8_middle cX8_middle 8 (some .int) rX8_middle [.ref 115, .int q_, .int i_] P HS I L RF 146 := by
  exact t_X8_middle q_ i_ (fun g i hg hi => by rw [show mMd (fun k => I 123 (16 * g + k)) i = _ from mMd_o (T := fun k => I 123 (16 * g + k)) (hW.2.1 g hg).1 hi]; exact zM3_n (tz_b (hW.2.1 g hg)) i)
    (fun n2 h2 e3 j3 h5 e6 h7 => by
      subst e3
      subst e6
      have e_ : F_middle (ob I L) (nI j3) (nI n2) = ((-3), (sM (ob I L) 1)) := by simp only [F_middle, ix_s (n := 3) h2, ix_s (n := 12) h5, if_pos (show (ob I L).1 122 j3 = 0 from h7)]
      rw [e_] at k
      dsimp only at k
      exact k _ _ (ob_M _ _ _) (cS_M _ _ _))
    (fun n2 h2 e3 j7 h5 e6 h7 h8 K13 h10 h11 r52 h13 => by
      subst e3
      subst e6
      have dn_ : Int32.toInt64 ((I 124) ((10 * j7) + 8)) = sDen (ob I L) j7 := rfl
      have z_ := h8
      rw [dn_] at z_
      have y_ := h13
      rw [dn_] at y_
      have md_ : mMd (fun k => I 123 (16 * j7 + k)) n2 = sMid (ob I L) j7 n2 := mMd_o (hW.2.1 j7 (by omega)).1 (by omega)
      have e_ : F_middle (ob I L) (nI j7) (nI n2) = (1, (sFr (ob I L) (sMid (ob I L) j7 n2 / (shG (sMid (ob I L) j7 n2) (sDen (ob I L) j7))) (sDen (ob I L) j7 / (shG (sMid (ob I L) j7 n2) (sDen (ob I L) j7))))) := by simp only [F_middle, ix_s (n := 3) h2, ix_s (n := 12) h5, if_neg (show ¬ (ob I L).1 122 j7 = 0 from h7), if_neg z_, if_pos y_]
      rw [e_] at k
      dsimp only at k
      exact k _ _ (ob_fr I (by rw [ma_up_n _ _ (by decide)]; exact h11 135 (by decide)) (by rw [ma_up_n _ _ (by decide)]; exact h11 115 (by decide)) (by rw [md_, dn_]; rfl) (by rw [md_, dn_]; rfl)) (cS_ul (cS_ul (⟨fun _ _ => rfl, fun a ha => h11 a (by simp only [List.mem_singleton]; omega)⟩) (by omega)) (by omega)))
    (fun n2 h2 e3 j7 h5 e6 h7 h8 K13 h10 h11 r52 h13 => by
      subst e3
      subst e6
      have dn_ : Int32.toInt64 ((I 124) ((10 * j7) + 8)) = sDen (ob I L) j7 := rfl
      have z_ := h8
      rw [dn_] at z_
      have y_ := h13
      rw [dn_] at y_
      have md_ : mMd (fun k => I 123 (16 * j7 + k)) n2 = sMid (ob I L) j7 n2 := mMd_o (hW.2.1 j7 (by omega)).1 (by omega)
      have e_ : F_middle (ob I L) (nI j7) (nI n2) = (1, (sFr (ob I L) (sMid (ob I L) j7 n2 / -(shG (sMid (ob I L) j7 n2) (sDen (ob I L) j7))) (sDen (ob I L) j7 / -(shG (sMid (ob I L) j7 n2) (sDen (ob I L) j7))))) := by simp only [F_middle, ix_s (n := 3) h2, ix_s (n := 12) h5, if_neg (show ¬ (ob I L).1 122 j7 = 0 from h7), if_neg z_, if_neg y_]
      rw [e_] at k
      dsimp only at k
      exact k _ _ (ob_fr I (by rw [ma_up_n _ _ (by decide)]; exact h11 135 (by decide)) (by rw [ma_up_n _ _ (by decide)]; exact h11 115 (by decide)) (by rw [md_, dn_]; rfl) (by rw [md_, dn_]; rfl)) (cS_ul (cS_ul (⟨fun _ _ => rfl, fun a ha => h11 a (by simp only [List.mem_singleton]; omega)⟩) (by omega)) (by omega)))
    (fun n2 h2 e3 j7 h5 e6 h7 h8 => by
      subst e3
      subst e6
      have dn_ : Int32.toInt64 ((I 124) ((10 * j7) + 8)) = sDen (ob I L) j7 := rfl
      have z_ := h8
      rw [dn_] at z_
      have e_ : F_middle (ob I L) (nI j7) (nI n2) = ((-3), (sM (ob I L) 4)) := by simp only [F_middle, ix_s (n := 3) h2, ix_s (n := 12) h5, if_neg (show ¬ (ob I L).1 122 j7 = 0 from h7), if_pos z_]
      rw [e_] at k
      dsimp only at k
      exact k _ _ (ob_M _ _ _) (cS_M _ _ _))
    (fun n2 h2 e3 h4 => by
      subst e3
      have e_ : F_middle (ob I L) q_ (nI n2) = ((-1), (ob I L)) := by simp only [F_middle, ix_s (n := 3) h2, (show ix 12 q_ = none from (ix_n2 h4 li_12))]
      rw [e_] at k
      dsimp only at k
      exact k _ _ rfl cS_rf)
    (fun h1 => by
      have e_ : F_middle (ob I L) q_ i_ = ((-1), (ob I L)) := by simp only [F_middle, (show ix 3 i_ = none from (ix_n2 h1 li_3))]
      rw [e_] at k
      dsimp only at k
      exact k _ _ rfl cS_rf)
theorem p_middle {g : ma_G} {I : ma_I} {L : ma_L} {P1 : ma_P} (hI : INV I L) (a1 a2 : Int32) (k : ∀ (r : Int32) (I1 : ma_I) (L1 : ma_L), (∀ {P2 : ma_P}, (∀ (I2 : ma_I) (L2 : ma_L), INV I2 L2 → P2 (some (.int r)) HS I2 L2 RF 146) → CT g yX8_middle cX8_middle 8 (some .int) rX8_middle [.ref 115, .int a1, .int a2] P2 HS I1 L1 RF 146) → P1 (some (.int r)) HS I1 L1 RF 146) : CT g yX7_middle cX7_middle 6 (some .int) rX7_middle [.ref 3, .int a1, .int a2] P1 HS I L RF 146 :=
  pair_i (F := F_middle (ob I L) a1 a2) hI (W_middle hI.1 a1 a2) (fun P kk => C_middle hI.1 hI.2 a1 a2 kk) (fun I1 L1 P e kk => M_middle (by rw [e]; exact hI.1)  a1 a2 (by rw [e]; exact kk)) k
