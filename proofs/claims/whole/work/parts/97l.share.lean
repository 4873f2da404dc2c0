theorem on_i {z p : Nat → Int} {X Y W : Int} (hs : ∀ a b, a < 4 → b < 4 → z (4 * a + b) = z (4 * b + a)) (p0 : p 0 = X) (p1 : p 1 = Y) (p2 : p 2 = W) (p3 : p 3 = 1) : ((((z 0 * X) * X + (z 5 * Y) * Y) + z 15) + 2 * (((z 1 * X) * Y + z 3 * X) + z 7 * Y)) + W * (2 * ((z 2 * X + z 6 * Y) + z 11) + z 10 * W) = vPr z p p := by
  have s4 : z 4 = z 1 := hs 1 0 (by omega) (by omega)
  have s8 : z 8 = z 2 := hs 2 0 (by omega) (by omega)
  have s9 : z 9 = z 6 := hs 2 1 (by omega) (by omega)
  have s12 : z 12 = z 3 := hs 3 0 (by omega) (by omega)
  have s13 : z 13 = z 7 := hs 3 1 (by omega) (by omega)
  have s14 : z 14 = z 11 := hs 3 2 (by omega) (by omega)
  unfold vPr vPn
  simp only [Nat.reduceMul, Nat.reduceAdd, Nat.add_zero, Nat.zero_add, Nat.mul_zero, Nat.mul_one]
  rw [p0, p1, p2, p3, s4, s8, s9, s12, s13, s14]
  clear s4 s8 s9 s12 s13 s14 hs p0 p1 p2 p3
  grind
theorem mV4_3 (x y z : Int32) : pz (mV4 x y z) 3 = 1 := by show (1 : Int32).toInt = 1; decide
theorem cOt_z {t : Nat → Int64} {z : Nat → Int} (ht : ∀ j, j < 16 → t j = Int64.ofInt (z j)) (hs : ∀ a b, a < 4 → b < 4 → z (4 * a + b) = z (4 * b + a)) (x y w : Int32) : cOt t x y w = Int64.ofInt (vPr z (pz (mV4 x y w)) (pz (mV4 x y w))) := by
  rw [← on_i (X := x.toInt) (Y := y.toInt) (W := w.toInt) hs rfl rfl rfl (mV4_3 x y w)]
  unfold cOt cLv cSl
  rw [ht 0 (by omega), ht 5 (by omega), ht 15 (by omega), ht 1 (by omega), ht 3 (by omega), ht 7 (by omega), ht 2 (by omega), ht 6 (by omega), ht 11 (by omega), ht 10 (by omega), i2l_o x, i2l_o y, i2l_o w]
  simp only [Int64.ofInt_add, Int64.ofInt_mul]
  rfl
theorem mV4_b {x y z : Int32} (hx : x.toInt.natAbs ≤ 10) (hy : y.toInt.natAbs ≤ 10) (hz : z.toInt.natAbs ≤ 10) : ∀ j, j < 4 → (pz (mV4 x y z) j).natAbs ≤ 10 := fun j hj => by
  match j, hj with
  | 0, _ => exact hx
  | 1, _ => exact hy
  | 2, _ => exact hz
  | 3, _ => rw [mV4_3]; decide
theorem on_c {s : sG} {t : Nat → Int64} {g : Nat} (h : wfT s g) (ht : ∀ j, j < 16 → t j = tb s g j) {x y z : Int32} (hx : x.toInt.natAbs ≤ 10) (hy : y.toInt.natAbs ≤ 10) (hz : z.toInt.natAbs ≤ 10) : cOt t x y z = 0 ↔ mBo (s.1 123) (mV4 x y z) (mV4 x y z) g = 0 := by
  have b := vPr_b (tz_b h) (mV4_b hx hy hz) (mV4_b hx hy hz)
  rw [cOt_z (z := tz s g) (fun j hj => (ht j hj).trans (i2l_o _)) (tz_s h), mBo_o]
  show _ ↔ Int32.ofInt (vPr (tz s g) (pz (mV4 x y z)) (pz (mV4 x y z))) = 0
  rw [o6_0 (by omega), o3_0 (by omega)]
def shR (a : cS2) (b : mG3) : Prop := a.1 = b.1 ∧ b.2.1 = min a.1 100 ∧ ∀ j, j < 3 * min a.1 100 → a.2 j = b.2.2 j
theorem shR_s {t u v : Nat → Int64} {T : Nat → Int32} {g h k : Nat} {x y z : Int32} (c1 : cOt t x y z = 0 ↔ mBo T (mV4 x y z) (mV4 x y z) g = 0) (c2 : cOt u x y z = 0 ↔ mBo T (mV4 x y z) (mV4 x y z) h = 0) (c3 : cOt v x y z = 0 ↔ mBo T (mV4 x y z) (mV4 x y z) k = 0) {a : cS2} {b : mG3} (r : shR a b) : shR (cKs t u v x y z a) (mGs T g h k x y z b) := by
  obtain ⟨m, P⟩ := a
  obtain ⟨m', kp, P'⟩ := b
  obtain ⟨r1, r2, r3⟩ := r
  dsimp only at r1 r2 r3
  subst r1
  unfold cKs
  by_cases q : cOt t x y z = 0 ∧ cOt u x y z = 0 ∧ cOt v x y z = 0
  · rw [if_pos q]
    have q' := And.intro (c1.mp q.1) (And.intro (c2.mp q.2.1) (c3.mp q.2.2))
    by_cases f : m < 100
    · have e : kp = m := by omega
      subst e
      rw [mGs_y q' f]
      unfold cKp
      refine ⟨rfl, by dsimp only; omega, fun j hj => ?_⟩
      dsimp only at hj ⊢
      rw [if_pos f]
      have hj : j < 3 * (kp + 1) := by omega
      by_cases e2 : j = 3 * kp + 2
      · rw [e2, ma_up_s, ma_up_s]
      · rw [ma_up_n _ _ e2, ma_up_n _ _ e2]
        by_cases e1 : j = 3 * kp + 1
        · rw [e1, ma_up_s, ma_up_s]
        · rw [ma_up_n _ _ e1, ma_up_n _ _ e1]
          by_cases e0 : j = 3 * kp
          · rw [e0, ma_up_s, ma_up_s]
          · rw [ma_up_n _ _ e0, ma_up_n _ _ e0]; exact r3 j (by omega)
    · rw [mGs_f q' (by omega)]
      unfold cKp
      refine ⟨rfl, by dsimp only; omega, fun j hj => ?_⟩
      dsimp only at hj ⊢
      rw [if_neg f]; exact r3 j (by omega)
  · rw [if_neg q, mGs_n (fun z => q ⟨c1.mpr z.1, c2.mpr z.2.1, c3.mpr z.2.2⟩)]
    exact ⟨rfl, r2, r3⟩
theorem nI_df {l n : Nat} (hl : l < 2 * n + 1) (hn : n < 11) : (nI l - nI n).toInt.natAbs ≤ 10 := by
  have a := nI_toInt (n := l) (by omega)
  have b := nI_toInt (n := n) (by omega)
  rw [Int32.toInt_sub, a, b, nb_bmod (by omega) (by omega)]
  omega
def onA (t : Nat → Int64) (T : Nat → Int32) (g : Nat) : Prop := ∀ x y z : Int32, x.toInt.natAbs ≤ 10 → y.toInt.natAbs ≤ 10 → z.toInt.natAbs ≤ 10 → (cOt t x y z = 0 ↔ mBo T (mV4 x y z) (mV4 x y z) g = 0)
theorem shR_z {t u v : Nat → Int64} {T : Nat → Int32} {g h k n : Nat} (hn : n < 11) (c1 : onA t T g) (c2 : onA u T h) (c3 : onA v T k) {x y : Int32} (hx : x.toInt.natAbs ≤ 10) (hy : y.toInt.natAbs ≤ 10) {a : cS2} {b : mG3} (r : shR a b) : ∀ l, l ≤ 2 * n + 1 → shR (cKz t u v n x y l a) (mGz T g h k n x y l b)
  | 0, _ => r
  | l + 1, hl => by
    unfold cKz mGz
    have d := nI_df (l := l) (by omega) hn
    exact shR_s (c1 _ _ _ hx hy d) (c2 _ _ _ hx hy d) (c3 _ _ _ hx hy d) (shR_z hn c1 c2 c3 hx hy r l (by omega))
theorem shR_y {t u v : Nat → Int64} {T : Nat → Int32} {g h k n : Nat} (hn : n < 11) (c1 : onA t T g) (c2 : onA u T h) (c3 : onA v T k) {x : Int32} (hx : x.toInt.natAbs ≤ 10) {a : cS2} {b : mG3} (r : shR a b) : ∀ l, l ≤ 2 * n + 1 → shR (cKy t u v n x l a) (mGy T g h k n x l b)
  | 0, _ => r
  | l + 1, hl => by
    unfold cKy mGy
    exact shR_z hn c1 c2 c3 hx (nI_df (by omega) hn) (shR_y hn c1 c2 c3 hx r l (by omega)) _ (Nat.le_refl _)
theorem shR_x {t u v : Nat → Int64} {T : Nat → Int32} {g h k n : Nat} (hn : n < 11) (c1 : onA t T g) (c2 : onA u T h) (c3 : onA v T k) {a : cS2} {b : mG3} (r : shR a b) : ∀ l, l ≤ 2 * n + 1 → shR (cKx t u v n l a) (mGx T g h k n l b)
  | 0, _ => r
  | l + 1, hl => by
    unfold cKx mGx
    exact shR_y hn c1 c2 c3 (nI_df (by omega) hn) (shR_x hn c1 c2 c3 r l (by omega)) _ (Nat.le_refl _)
def sKp (s : sG) (kp : Nat) (P : Nat → Int32) : sG := (ma_up (ma_up s.1 115 (ma_up (s.1 115) 45 (nI kp))) 148 P, s.2)
theorem sKp_r {s : sG} {kp : Nat} {P : Nat → Int32} {a : Nat} (h : a ≠ 115) (h' : a ≠ 148) : (sKp s kp P).1 a = s.1 a := by unfold sKp; dsimp only; rw [ma_up_n _ _ h', ma_up_n _ _ h]
theorem wF_kp {s : sG} (h : wF s) (kp : Nat) (P : Nat → Int32) : wF (sKp s kp P) := wF_s h (fun a q => sKp_r (by omega) (by omega))
def shX (s : sG) (g h k n : Nat) : mG3 := mGx (s.1 123) g h k n (2 * n + 1) (0, 0, s.1 148)
def shF (s : sG) (g h k n : Nat) : Int32 × sG := (nI (shX s g h k n).1, sKp s (shX s g h k n).2.1 (shX s g h k n).2.2)
theorem rC_kp {s : sG} {I : ma_I} {L K : ma_L} (h : rC s I L) {m kp : Nat} {P P' : Nat → Int32} (hm : m ≤ 9261) (hk : kp = min m 100) (hP : ∀ j, j < 3 * min m 100 → P' j = P j) (l3 : K 3 = L 3) (lg : ∀ g, g < 12 → K (57 + 5 * g) = L (57 + 5 * g)) : rC (sKp s kp P) (ma_up (ma_up I 32 (ma_up (I 32) 1 (nI m))) 33 P') K := by
  subst hk
  obtain ⟨⟨a1, a2, a3, a4, a5⟩, ⟨b1, b2⟩, ⟨c1, c2⟩, r4, r5, r6, r7⟩ := h
  generalize hJ : ma_up (ma_up I 32 (ma_up (I 32) 1 (nI m))) 33 P' = J
  have q : ∀ a, a ≠ 32 → a ≠ 33 → J a = I a := fun a h1 h2 => by rw [← hJ, ma_up_n _ _ h2, ma_up_n _ _ h1]
  have q2 : J 32 = ma_up (I 32) 1 (nI m) := by rw [← hJ, ma_up_n _ _ (by decide), ma_up_s]
  have q3 : J 33 = P' := by rw [← hJ, ma_up_s]
  have s5 : (sKp s (min m 100) P).1 115 = ma_up (s.1 115) 45 (nI (min m 100)) := by unfold sKp; dsimp only; rw [ma_up_n _ _ (by decide), ma_up_s]
  have s8 : (sKp s (min m 100) P).1 148 = P := by unfold sKp; dsimp only; rw [ma_up_s]
  refine ⟨⟨?_, ?_, ?_, ?_, fun k hk => ?_⟩, ⟨?_, fun k hk => ?_⟩, ⟨?_, fun k hk => ?_⟩, ?_, ?_, fun x hx => ?_, fun g hg => ?_⟩
  · rw [q 3 (by decide) (by decide), s5, ma_up_n _ _ (by decide)]; exact a1
  · rw [l3]; exact a2
  · rw [l3]; exact a3
  · rw [q 3 (by decide) (by decide), s5, ma_up_n _ _ (by decide)]; exact a4
  · rw [q 38 (by decide) (by decide), sKp_r (by decide) (by decide)]; exact a5 k hk
  · rw [q 3 (by decide) (by decide), s5, ma_up_n _ _ (by decide)]; exact b1
  · rw [q 36 (by decide) (by decide), sKp_r (by decide) (by decide)]; exact b2 k hk
  · rw [q 3 (by decide) (by decide), s5, ma_up_n _ _ (by decide)]; exact c1
  · rw [q 37 (by decide) (by decide)]; exact c2 k hk
  · refine ⟨m, by omega, by rw [q2, ma_up_s], by rw [s5, ma_up_s], fun j hj => ?_⟩
    rw [q3, s8]; exact hP j hj
  · unfold rcT at r5 ⊢; rw [q 27 (by decide) (by decide), q 28 (by decide) (by decide)]; exact r5
  · have := r6 x hx; unfold rcS at this ⊢; rw [q (39 + 2 * x) (by omega) (by omega), q (40 + 2 * x) (by omega) (by omega), sKp_r (a := 117) (by decide) (by decide), sKp_r (a := 118) (by decide) (by decide)]; exact this
  · have := r7 g hg; unfold rcG tb at this ⊢; rw [q (55 + 5 * g) (by omega) (by omega), q (59 + 5 * g) (by omega) (by omega), lg g hg, sKp_r (a := 122) (by decide) (by decide), sKp_r (a := 123) (by decide) (by decide), sKp_r (a := 124) (by decide) (by decide)]; exact this
theorem shC_k {s : sG} {I : ma_I} {L : ma_L} (hW : wF s) (hC : ∀ g, g < 12 → rcG s I L g) {g h k n : Nat} (hg : g < 12) (hh : h < 12) (hk : k < 12) (hn : n < 11) {m : Nat} {P : Nat → Int32} {f : Nat → Int32} (e : (m, P) = cKx (L (57 + 5 * g)) (L (57 + 5 * h)) (L (57 + 5 * k)) n (2 * n + 1) (0, f)) : shR (m, P) (shX s g h k n) := by
  rw [e]
  exact shR_x hn (fun x y z hx hy hz => on_c (hW.2.1 g hg) (hC g hg).2.1 hx hy hz) (fun x y z hx hy hz => on_c (hW.2.1 h hh) (hC h hh).2.1 hx hy hz) (fun x y z hx hy hz => on_c (hW.2.1 k hk) (hC k hk).2.1 hx hy hz) ⟨rfl, rfl, fun j hj => absurd hj (by dsimp only; omega)⟩ _ (Nat.le_refl _)
theorem ob_kp (I : ma_I) (L : ma_L) (kp : Nat) (V P : Nat → Int32) : ob (ma_up (ma_up (ma_up I 115 (ma_up (I 115) 45 (nI kp))) 126 V) 148 P) L = sKp (ob I L) kp P := by
  unfold ob sKp
  rw [oI_up _ rfl, oI_x _ rfl (by decide), oI_uf _ rfl]
def F_shared (s : sG) (q r n : Int32) : Int32 × sG := match ix 11 n with
  | none => (-1, s)
  | some m => match gP s q r with
    | .inl r => r
    | .inr (g, h) => shF s g h h m
def F_shared3 (s : sG) (q r t n : Int32) : Int32 × sG := match ix 12 q with
  | none => (-1, s)
  | some g => match ix 12 r with
    | none => (-1, s)
    | some h => match ix 12 t with
      | none => (-1, s)
      | some k => match ix 11 n with
        | none => (-1, s)
        | some m => if s.1 122 g = 0 then (-3, sM s 1) else if s.1 122 h = 0 then (-3, sM s 1) else if s.1 122 k = 0 then (-3, sM s 1) else shF s g h k m
theorem W_shared {s : sG} (h : wF s) (a1 a2 a3 : Int32) : wF (F_shared s a1 a2 a3).2 := by
  unfold F_shared
  split
  · exact h
  · split
    · rename_i e; exact gP_w h e
    · exact wF_kp h _ _
theorem W_shared3 {s : sG} (h : wF s) (a1 a2 a3 a4 : Int32) : wF (F_shared3 s a1 a2 a3 a4).2 := by
  unfold F_shared3
  split
  · exact h
  · split
    · exact h
    · split
      · exact h
      · split
        · exact h
        · split
          · exact wF_M h _
          · split
            · exact wF_M h _
            · split
              · exact wF_M h _
              · exact wF_kp h _ _
theorem C_shared {g : ma_G} {I : ma_I} {L : ma_L} {P : ma_P} {s : sG} (hW : wF s) (hC : rC s I L) (q_ r_ n_ : Int32) (k : ∀ I1 L1, rC (F_shared s q_ r_ n_).2 I1 L1 → mS I L I1 L1 → P (some (.int (F_shared s q_ r_ n_).1)) HS I1 L1 RF 146) : CT g yX7_shared cX7_shared 5 (some .int) rX7_shared [.ref 3, .int q_, .int r_, .int n_] P HS I L RF 146 := by
  obtain ⟨hcM, hcN, hcF, hcK, hcT, hcS, hcG⟩ := id hC
  exact t_X7_shared q_ r_ n_ 
    (fun h1 => by
      have e_ : F_shared s q_ r_ n_ = ((-1), s) := by simp only [F_shared, (show ix 11 n_ = none from (ix_lt h1))]
      rw [e_] at k
      dsimp only at k
      exact k _ _ hC mS_rf)
    (fun n3 h2 h3 e4 h5 => by
      subst e4
      have e_ : F_shared s q_ r_ (nI n3) = ((-1), s) := by simp only [F_shared, ix_s (n := 11) h3, gP_n (s := s) (ix_n1 h5 ln_12)]
      rw [e_] at k
      dsimp only at k
      exact k _ _ hC mS_rf)
    (fun n3 h2 h3 e4 j5 h6 e7 j8 h9 e10 h11 => by
      subst e4
      subst e7
      subst e10
      have e_ : F_shared s (nI j5) (nI j8) (nI n3) = ((-3), (sM s 1)) := by simp only [F_shared, ix_s (n := 11) h3, gP_m (s := s) h6 h9 (kG_m (hcG j5 (by omega)) h11)]
      rw [e_] at k
      dsimp only at k
      exact k _ _ (rC_R hC (by omega)) (mS_R _ _ _))
    (fun n3 h2 h3 e4 j12 h6 e7 j15 h9 e10 h11 h12 m32 P33 K34 h16 h17 h18 => by
      subst e4
      subst e7
      subst e10
      have sr_ := shC_k hW hcG (g := j12) (h := j15) (k := j15) (n := n3) (by omega) (by omega) (by omega) (by omega) h18
      have m_ : m32 = (shX s j12 j15 j15 n3).1 := sr_.1
      have e_ : F_shared s (nI j12) (nI j15) (nI n3) = (nI (shX s j12 j15 j15 n3).1, (sKp s (shX s j12 j15 j15 n3).2.1 (shX s j12 j15 j15 n3).2.2)) := by simp only [F_shared, ix_s (n := 11) h3, gP_o (s := s) h6 h9 (kG_o (hcG j12 (by omega)) h11) (kG_o (hcG j15 (by omega)) h12), shF]
      rw [e_] at k
      dsimp only at k
      rw [← m_] at k
      exact k _ _ (rC_kp hC h16 sr_.2.1 sr_.2.2 (h17 3 (by omega) (by omega) (by omega)) (fun g hg => h17 _ (by omega) (by omega) (by omega))) ⟨fun a ha => by rw [ma_up_n _ _ (by omega), ma_up_n _ _ (by omega)], fun a ha => h17 a (by omega) (by omega) (by omega)⟩)
    (fun n3 h2 h3 e4 j20 h6 e7 j23 h9 e10 h11 h12 => by
      subst e4
      subst e7
      subst e10
      have e_ : F_shared s (nI j20) (nI j23) (nI n3) = ((-3), (sM s 1)) := by simp only [F_shared, ix_s (n := 11) h3, gP_m2 (s := s) h6 h9 (kG_o (hcG j20 (by omega)) h11) (kG_m (hcG j23 (by omega)) h12)]
      rw [e_] at k
      dsimp only at k
      exact k _ _ (rC_R hC (by omega)) (mS_R _ _ _))
    (fun n3 h2 h3 e4 j28 h6 e7 h8 => by
      subst e4
      subst e7
      have e_ : F_shared s (nI j28) r_ (nI n3) = ((-1), s) := by simp only [F_shared, ix_s (n := 11) h3, gP_n2 (s := s) h6 (ix_n1 h8 ln_12)]
      rw [e_] at k
      dsimp only at k
      exact k _ _ hC mS_rf)
    (fun h1 h2 => by
      have e_ : F_shared s q_ r_ n_ = ((-1), s) := by simp only [F_shared, (show ix 11 n_ = none from (ix_gt h2 li_11))]
      rw [e_] at k
      dsimp only at k
      exact k _ _ hC mS_rf)
theorem M_shared {g : ma_G} {I : ma_I} {L : ma_L} {P : ma_P} (hW : wF (ob I L))  (q_ r_ n_ : Int32) (k : ∀ I2 L2, ob I2 L2 = (F_shared (ob I L) q_ r_ n_).2 → cS I L I2 L2 → P (some (.int (F_shared (ob I L) q_ r_ n_).1)) HS I2 L2 RF 146) : CT g yX8_shared cX8_shared 5 (some .int) rX8_shared [.ref 115, .int q_, .int r_, .int n_] P HS I L RF 146 := by
  exact t_X8_shared q_ r_ n_ 
    (fun n2 h2 e3 h4 => by
      subst e3
      have e_ : F_shared (ob I L) q_ r_ (nI n2) = ((-1), (ob I L)) := by simp only [F_shared, ix_s (n := 11) h2, gP_n (s := (ob I L)) (ix_n2 h4 li_12)]
      rw [e_] at k
      dsimp only at k
      exact k _ _ rfl cS_rf)
    (fun n2 h2 e3 j4 h5 e6 j7 h8 e9 h10 => by
      subst e3
      subst e6
      subst e9
      have e_ : F_shared (ob I L) (nI j4) (nI j7) (nI n2) = ((-3), (sM (ob I L) 1)) := by simp only [F_shared, ix_s (n := 11) h2, gP_m (s := (ob I L)) h5 h8 (show (ob I L).1 122 j4 = 0 from h10)]
      rw [e_] at k
      dsimp only at k
      exact k _ _ (ob_M _ _ _) (cS_M _ _ _))
    (fun n2 h2 e3 j11 h5 e6 j14 h8 e9 h10 h11 => by
      subst e3
      subst e6
      subst e9
      have e_ : F_shared (ob I L) (nI j11) (nI j14) (nI n2) = ((-3), (sM (ob I L) 1)) := by simp only [F_shared, ix_s (n := 11) h2, gP_m2 (s := (ob I L)) h5 h8 (show ¬ (ob I L).1 122 j11 = 0 from h10) (show (ob I L).1 122 j14 = 0 from h11)]
      rw [e_] at k
      dsimp only at k
      exact k _ _ (ob_M _ _ _) (cS_M _ _ _))
    (fun n2 h2 e3 j19 h5 e6 j22 h8 e9 h10 h11 m31 kp32 V33 P34 h16 h17 => by
      subst e3
      subst e6
      subst e9
      have x_ : shX (ob I L) j19 j22 j22 n2 = (m31, kp32, P34) := h17.symm
      have e_ : F_shared (ob I L) (nI j19) (nI j22) (nI n2) = (nI m31, (sKp (ob I L) kp32 P34)) := by simp only [F_shared, ix_s (n := 11) h2, gP_o (s := (ob I L)) h5 h8 (show ¬ (ob I L).1 122 j19 = 0 from h10) (show ¬ (ob I L).1 122 j22 = 0 from h11), shF, x_]
      rw [e_] at k
      dsimp only at k
      exact k _ _ (ob_kp _ _ _ _ _) (cS_up (cS_up (cS_up cS_rf (by omega)) (by omega)) (by omega)))
    (fun n2 h2 e3 j27 h5 e6 h7 => by
      subst e3
      subst e6
      have e_ : F_shared (ob I L) (nI j27) r_ (nI n2) = ((-1), (ob I L)) := by simp only [F_shared, ix_s (n := 11) h2, gP_n2 (s := (ob I L)) h5 (ix_n2 h7 li_12)]
      rw [e_] at k
      dsimp only at k
      exact k _ _ rfl cS_rf)
    (fun h1 => by
      have e_ : F_shared (ob I L) q_ r_ n_ = ((-1), (ob I L)) := by simp only [F_shared, (show ix 11 n_ = none from (ix_n2 h1 li_11))]
      rw [e_] at k
      dsimp only at k
      exact k _ _ rfl cS_rf)
theorem p_shared {g : ma_G} {I : ma_I} {L : ma_L} {P1 : ma_P} (hI : INV I L) (a1 a2 a3 : Int32) (k : ∀ (r : Int32) (I1 : ma_I) (L1 : ma_L), (∀ {P2 : ma_P}, (∀ (I2 : ma_I) (L2 : ma_L), INV I2 L2 → P2 (some (.int r)) HS I2 L2 RF 146) → CT g yX8_shared cX8_shared 5 (some .int) rX8_shared [.ref 115, .int a1, .int a2, .int a3] P2 HS I1 L1 RF 146) → P1 (some (.int r)) HS I1 L1 RF 146) : CT g yX7_shared cX7_shared 5 (some .int) rX7_shared [.ref 3, .int a1, .int a2, .int a3] P1 HS I L RF 146 :=
  pair_i (F := F_shared (ob I L) a1 a2 a3) hI (W_shared hI.1 a1 a2 a3) (fun P kk => C_shared hI.1 hI.2 a1 a2 a3 kk) (fun I1 L1 P e kk => M_shared (by rw [e]; exact hI.1)  a1 a2 a3 (by rw [e]; exact kk)) k
theorem C_shared3 {g : ma_G} {I : ma_I} {L : ma_L} {P : ma_P} {s : sG} (hW : wF s) (hC : rC s I L) (q_ r_ s_ n_ : Int32) (k : ∀ I1 L1, rC (F_shared3 s q_ r_ s_ n_).2 I1 L1 → mS I L I1 L1 → P (some (.int (F_shared3 s q_ r_ s_ n_).1)) HS I1 L1 RF 146) : CT g yX7_shared3 cX7_shared3 5 (some .int) rX7_shared3 [.ref 3, .int q_, .int r_, .int s_, .int n_] P HS I L RF 146 := by
  obtain ⟨hcM, hcN, hcF, hcK, hcT, hcS, hcG⟩ := id hC
  exact t_X7_shared3 q_ r_ s_ n_ 
    (fun h1 => by
      have e_ : F_shared3 s q_ r_ s_ n_ = ((-1), s) := by simp only [F_shared3, (show ix 12 q_ = none from (ix_n1 h1 ln_12))]
      rw [e_] at k
      dsimp only at k
      exact k _ _ hC mS_rf)
    (fun n2 h2 e3 h4 => by
      subst e3
      have e_ : F_shared3 s (nI n2) r_ s_ n_ = ((-1), s) := by simp only [F_shared3, ix_s (n := 12) h2, (show ix 12 r_ = none from (ix_n1 h4 ln_12))]
      rw [e_] at k
      dsimp only at k
      exact k _ _ hC mS_rf)
    (fun n2 h2 e3 n4 h5 e6 h7 => by
      subst e3
      subst e6
      have e_ : F_shared3 s (nI n2) (nI n4) s_ n_ = ((-1), s) := by simp only [F_shared3, ix_s (n := 12) h2, ix_s (n := 12) h5, (show ix 12 s_ = none from (ix_n1 h7 ln_12))]
      rw [e_] at k
      dsimp only at k
      exact k _ _ hC mS_rf)
    (fun n2 h2 e3 n4 h5 e6 n6 h8 e9 h10 => by
      subst e3
      subst e6
      subst e9
      have e_ : F_shared3 s (nI n2) (nI n4) (nI n6) n_ = ((-1), s) := by simp only [F_shared3, ix_s (n := 12) h2, ix_s (n := 12) h5, ix_s (n := 12) h8, (show ix 11 n_ = none from (ix_lt h10))]
      rw [e_] at k
      dsimp only at k
      exact k _ _ hC mS_rf)
    (fun n2 h2 e3 n4 h5 e6 n6 h8 e9 n9 h11 h12 e13 h14 => by
      subst e3
      subst e6
      subst e9
      subst e13
      have e_ : F_shared3 s (nI n2) (nI n4) (nI n6) (nI n9) = ((-3), (sM s 1)) := by simp only [F_shared3, ix_s (n := 12) h2, ix_s (n := 12) h5, ix_s (n := 12) h8, ix_s (n := 11) h12, if_pos (kG_m (hcG n2 (by omega)) h14)]
      rw [e_] at k
      dsimp only at k
      exact k _ _ (rC_R hC (by omega)) (mS_R _ _ _))
    (fun n2 h2 e3 n4 h5 e6 n6 h8 e9 n9 h11 h12 e13 h14 h15 => by
      subst e3
      subst e6
      subst e9
      subst e13
      have e_ : F_shared3 s (nI n2) (nI n4) (nI n6) (nI n9) = ((-3), (sM s 1)) := by simp only [F_shared3, ix_s (n := 12) h2, ix_s (n := 12) h5, ix_s (n := 12) h8, ix_s (n := 11) h12, if_neg (kG_o (hcG n2 (by omega)) h14), if_pos (kG_m (hcG n4 (by omega)) h15)]
      rw [e_] at k
      dsimp only at k
      exact k _ _ (rC_R hC (by omega)) (mS_R _ _ _))
    (fun n2 h2 e3 n4 h5 e6 n6 h8 e9 n9 h11 h12 e13 h14 h15 h16 m13 P14 K15 h20 h21 h22 => by
      subst e3
      subst e6
      subst e9
      subst e13
      have sr_ := shC_k hW hcG (g := n2) (h := n4) (k := n6) (n := n9) (by omega) (by omega) (by omega) (by omega) h22
      have m_ : m13 = (shX s n2 n4 n6 n9).1 := sr_.1
      have e_ : F_shared3 s (nI n2) (nI n4) (nI n6) (nI n9) = (nI (shX s n2 n4 n6 n9).1, (sKp s (shX s n2 n4 n6 n9).2.1 (shX s n2 n4 n6 n9).2.2)) := by simp only [F_shared3, ix_s (n := 12) h2, ix_s (n := 12) h5, ix_s (n := 12) h8, ix_s (n := 11) h12, if_neg (kG_o (hcG n2 (by omega)) h14), if_neg (kG_o (hcG n4 (by omega)) h15), if_neg (kG_o (hcG n6 (by omega)) h16), shF]
      rw [e_] at k
      dsimp only at k
      rw [← m_] at k
      exact k _ _ (rC_kp hC h20 sr_.2.1 sr_.2.2 (h21 3 (by omega) (by omega) (by omega)) (fun g hg => h21 _ (by omega) (by omega) (by omega))) ⟨fun a ha => by rw [ma_up_n _ _ (by omega), ma_up_n _ _ (by omega)], fun a ha => h21 a (by omega) (by omega) (by omega)⟩)
    (fun n2 h2 e3 n4 h5 e6 n6 h8 e9 n9 h11 h12 e13 h14 h15 h16 => by
      subst e3
      subst e6
      subst e9
      subst e13
      have e_ : F_shared3 s (nI n2) (nI n4) (nI n6) (nI n9) = ((-3), (sM s 1)) := by simp only [F_shared3, ix_s (n := 12) h2, ix_s (n := 12) h5, ix_s (n := 12) h8, ix_s (n := 11) h12, if_neg (kG_o (hcG n2 (by omega)) h14), if_neg (kG_o (hcG n4 (by omega)) h15), if_pos (kG_m (hcG n6 (by omega)) h16)]
      rw [e_] at k
      dsimp only at k
      exact k _ _ (rC_R hC (by omega)) (mS_R _ _ _))
    (fun n2 h2 e3 n4 h5 e6 n6 h8 e9 h10 h11 => by
      subst e3
      subst e6
      subst e9
      have e_ : F_shared3 s (nI n2) (nI n4) (nI n6) n_ = ((-1), s) := by simp only [F_shared3, ix_s (n := 12) h2, ix_s (n := 12) h5, ix_s (n := 12) h8, (show ix 11 n_ = none from (ix_gt h11 li_11))]
      rw [e_] at k
      dsimp only at k
      exact k _ _ hC mS_rf)
theorem M_shared3 {g : ma_G} {I : ma_I} {L : ma_L} {P : ma_P} (hW : wF (ob I L))  (q_ r_ s_ n_ : Int32) (k : ∀ I2 L2, ob I2 L2 = (F_shared3 (ob I L) q_ r_ s_ n_).2 → cS I L I2 L2 → P (some (.int (F_shared3 (ob I L) q_ r_ s_ n_).1)) HS I2 L2 RF 146) : CT g yX8_shared3 cX8_shared3 5 (some .int) rX8_shared3 [.ref 115, .int q_, .int r_, .int s_, .int n_] P HS I L RF 146 := by
  exact t_X8_shared3 q_ r_ s_ n_ 
    (fun h1 => by
      have e_ : F_shared3 (ob I L) q_ r_ s_ n_ = ((-1), (ob I L)) := by simp only [F_shared3, (show ix 12 q_ = none from (ix_n2 h1 li_12))]
      rw [e_] at k
      dsimp only at k
      exact k _ _ rfl cS_rf)
    (fun n2 h2 e3 h4 => by
      subst e3
      have e_ : F_shared3 (ob I L) (nI n2) r_ s_ n_ = ((-1), (ob I L)) := by simp only [F_shared3, ix_s (n := 12) h2, (show ix 12 r_ = none from (ix_n2 h4 li_12))]
      rw [e_] at k
      dsimp only at k
      exact k _ _ rfl cS_rf)
    (fun n2 h2 e3 n4 h5 e6 h7 => by
      subst e3
      subst e6
      have e_ : F_shared3 (ob I L) (nI n2) (nI n4) s_ n_ = ((-1), (ob I L)) := by simp only [F_shared3, ix_s (n := 12) h2, ix_s (n := 12) h5, (show ix 12 s_ = none from (ix_n2 h7 li_12))]
      rw [e_] at k
      dsimp only at k
      exact k _ _ rfl cS_rf)
    (fun n2 h2 e3 n4 h5 e6 n6 h8 e9 n8 h11 e12 h13 => by
      subst e3
      subst e6
      subst e9
      subst e12
      have e_ : F_shared3 (ob I L) (nI n2) (nI n4) (nI n6) (nI n8) = ((-3), (sM (ob I L) 1)) := by simp only [F_shared3, ix_s (n := 12) h2, ix_s (n := 12) h5, ix_s (n := 12) h8, ix_s (n := 11) h11, if_pos (show (ob I L).1 122 n2 = 0 from h13)]
      rw [e_] at k
      dsimp only at k
      exact k _ _ (ob_M _ _ _) (cS_M _ _ _))
    (fun n2 h2 e3 n4 h5 e6 n6 h8 e9 n8 h11 e12 h13 h14 => by
      subst e3
      subst e6
      subst e9
      subst e12
      have e_ : F_shared3 (ob I L) (nI n2) (nI n4) (nI n6) (nI n8) = ((-3), (sM (ob I L) 1)) := by simp only [F_shared3, ix_s (n := 12) h2, ix_s (n := 12) h5, ix_s (n := 12) h8, ix_s (n := 11) h11, if_neg (show ¬ (ob I L).1 122 n2 = 0 from h13), if_pos (show (ob I L).1 122 n4 = 0 from h14)]
      rw [e_] at k
      dsimp only at k
      exact k _ _ (ob_M _ _ _) (cS_M _ _ _))
    (fun n2 h2 e3 n4 h5 e6 n6 h8 e9 n8 h11 e12 h13 h14 h15 => by
      subst e3
      subst e6
      subst e9
      subst e12
      have e_ : F_shared3 (ob I L) (nI n2) (nI n4) (nI n6) (nI n8) = ((-3), (sM (ob I L) 1)) := by simp only [F_shared3, ix_s (n := 12) h2, ix_s (n := 12) h5, ix_s (n := 12) h8, ix_s (n := 11) h11, if_neg (show ¬ (ob I L).1 122 n2 = 0 from h13), if_neg (show ¬ (ob I L).1 122 n4 = 0 from h14), if_pos (show (ob I L).1 122 n6 = 0 from h15)]
      rw [e_] at k
      dsimp only at k
      exact k _ _ (ob_M _ _ _) (cS_M _ _ _))
    (fun n2 h2 e3 n4 h5 e6 n6 h8 e9 n8 h11 e12 h13 h14 h15 m12 kp13 V14 P15 h20 h21 => by
      subst e3
      subst e6
      subst e9
      subst e12
      have x_ : shX (ob I L) n2 n4 n6 n8 = (m12, kp13, P15) := h21.symm
      have e_ : F_shared3 (ob I L) (nI n2) (nI n4) (nI n6) (nI n8) = (nI m12, (sKp (ob I L) kp13 P15)) := by simp only [F_shared3, ix_s (n := 12) h2, ix_s (n := 12) h5, ix_s (n := 12) h8, ix_s (n := 11) h11, if_neg (show ¬ (ob I L).1 122 n2 = 0 from h13), if_neg (show ¬ (ob I L).1 122 n4 = 0 from h14), if_neg (show ¬ (ob I L).1 122 n6 = 0 from h15), shF, x_]
      rw [e_] at k
      dsimp only at k
      exact k _ _ (ob_kp _ _ _ _ _) (cS_up (cS_up (cS_up cS_rf (by omega)) (by omega)) (by omega)))
    (fun n2 h2 e3 n4 h5 e6 n6 h8 e9 h10 => by
      subst e3
      subst e6
      subst e9
      have e_ : F_shared3 (ob I L) (nI n2) (nI n4) (nI n6) n_ = ((-1), (ob I L)) := by simp only [F_shared3, ix_s (n := 12) h2, ix_s (n := 12) h5, ix_s (n := 12) h8, (show ix 11 n_ = none from (ix_n2 h10 li_11))]
      rw [e_] at k
      dsimp only at k
      exact k _ _ rfl cS_rf)
theorem p_shared3 {g : ma_G} {I : ma_I} {L : ma_L} {P1 : ma_P} (hI : INV I L) (a1 a2 a3 a4 : Int32) (k : ∀ (r : Int32) (I1 : ma_I) (L1 : ma_L), (∀ {P2 : ma_P}, (∀ (I2 : ma_I) (L2 : ma_L), INV I2 L2 → P2 (some (.int r)) HS I2 L2 RF 146) → CT g yX8_shared3 cX8_shared3 5 (some .int) rX8_shared3 [.ref 115, .int a1, .int a2, .int a3, .int a4] P2 HS I1 L1 RF 146) → P1 (some (.int r)) HS I1 L1 RF 146) : CT g yX7_shared3 cX7_shared3 5 (some .int) rX7_shared3 [.ref 3, .int a1, .int a2, .int a3, .int a4] P1 HS I L RF 146 :=
  pair_i (F := F_shared3 (ob I L) a1 a2 a3 a4) hI (W_shared3 hI.1 a1 a2 a3 a4) (fun P kk => C_shared3 hI.1 hI.2 a1 a2 a3 a4 kk) (fun I1 L1 P e kk => M_shared3 (by rw [e]; exact hI.1)  a1 a2 a3 a4 (by rw [e]; exact kk)) k
