/-- root number k of a state -/
def RS (s : mP) (k : Nat) (u : Int) (w t : Nat) : Prop := s.u k = Int64.ofInt u ∧ s.w k = lN w ∧ s.t k = nI t ∧ Fr u w ∧ 2 ≤ t
/-- what a state of the search holds of the form G of degree m0 -/
def PS (m0 : Nat) (G : Nat → Int) (s : mP) (H : Nat → Int) : Prop :=
  (∀ j, j ≤ s.m → s.f j = Int64.ofInt (H j)) ∧ (∀ j, j ≤ s.m → (H j).natAbs ≤ Bd s.m) ∧
  ((s.r = 0 ∧ s.m = m0 ∧ ∀ j, j ≤ m0 → G j = H j) ∨
   (∃ u w t, s.r = 1 ∧ RS s 0 u w t ∧ s.m + t = m0 ∧ Fc u w t s.m G H ∧ ¬ hv H u w s.m = 0) ∨
   (∃ u w u' w' K, s.r = 2 ∧ RS s 0 u w 2 ∧ RS s 1 u' w' 2 ∧ s.m = 0 ∧ m0 = 4 ∧ Fc u w 2 2 G K ∧ Fc u' w' 2 0 K H ∧ ¬ hv K u w 2 = 0))
theorem PS_m {m0 : Nat} {G : Nat → Int} {s : mP} {H : Nat → Int} (h : PS m0 G s H) : s.m ≤ m0 := by
  rcases h.2.2 with ⟨_, h, _⟩ | ⟨u, w, t, _, _, h, _⟩ | ⟨u, w, u', w', K, _, _, _, h, h', _⟩ <;> omega
theorem PS_D {m0 : Nat} (h4 : m0 < 5) {G : Nat → Int} {s : mP} {H : Nat → Int} (h : PS m0 G s H) {x y : Int} (d : hv H x y s.m = 0 ∧ sl H x y s.m = 0) : hv G x y m0 = 0 ∧ sl G x y m0 = 0 := by
  rcases h.2.2 with ⟨_, h1, h2⟩ | ⟨u, w, t, _, _, h1, h2, _⟩ | ⟨u, w, u', w', K, _, _, _, h1, h2, h3, h5, _⟩
  · rw [h1] at d
    have e := hv_j h4 h2 x y
    rw [e.1, e.2]; exact d
  · have q := D_c t s.m G H (by omega) h2 d
    rw [h1] at q; exact q
  · rw [h1] at d
    have q := D_c 2 0 K H (by omega) h5 d
    have q2 := D_c 2 2 G K (by omega) h3 q
    rw [h2]; exact q2
/-- a root that counts twice is taken out at least twice -/
theorem zTk_2 {u w : Int} (hw : w ≠ 0) (hc : Nat.gcd u.natAbs w.natAbs = 1) {m : Nat} (h1 : 1 < m) (hm : m < 5) {f : Nat → Int} (d : hv f u w m = 0 ∧ sl f u w m = 0) : (zTk u w m f).1 + 2 ≤ m := by
  obtain ⟨k, rfl⟩ : ∃ k, m = k + 2 := ⟨m - 2, by omega⟩
  rw [zTk_y d.1]
  have q := isQ_d hw hc d.1
  have e := sl_q (by omega) q u w
  rw [d.2, show w * u - u * w = 0 by rw [Int.mul_comm]; omega, Int.zero_mul, Int.add_zero] at e
  have e2 : hv (fun k => dq u w k 0 f) u w (k + 1) = 0 := mz_ hw e.symm
  have e3 : hv (fun j => if j < k + 1 + 1 then dq u w j 0 f else f j) u w (k + 1) = 0 := by
    rw [hv_c u w (k + 1) (f' := fun k => dq u w k 0 f) (fun j hj => if_pos (by omega))]; exact e2
  rw [zTk_y e3]
  exact Nat.add_le_add_right (zTk_le u w k _) 2
theorem hv_0 (f : Nat → Int) (u w : Int) : hv f u w 0 = f 0 := rfl
theorem nz_or {f : Nat → Int} {u w : Int} {m : Nat} (h0 : ¬ f 0 = 0) (h : m = 0 ∨ ¬ hv f u w m = 0) : ¬ hv f u w m = 0 := by
  rcases h with e | e
  · subst e; exact h0
  · exact e
/-- a state, and fractions that count twice no more -/
def QS (m0 : Nat) (G : Nat → Int) (s : mP) (D : Int → Int → Prop) : Prop := ∃ H, PS m0 G s H ∧ ∀ x y, D x y → ND x y s.m H
theorem QS_w {m0 : Nat} {G : Nat → Int} {s : mP} {D D' : Int → Int → Prop} (h : QS m0 G s D) (hd : ∀ x y, D' x y → D x y) : QS m0 G s D' := by
  obtain ⟨H, h1, h2⟩ := h
  exact ⟨H, h1, fun x y q => h2 x y (hd x y q)⟩
theorem QS_take {m0 : Nat} (h4 : m0 < 5) {G : Nat → Int} (hG : ¬ G 0 = 0) {s : mP} {H : Nat → Int} (h : PS m0 G s H) {D : Int → Int → Prop} (hD : ∀ x y, D x y → ND x y s.m H) {u : Int} {w : Nat} (hF : Fr u w) (h1 : 1 < s.m) (d : hv H u w s.m = 0 ∧ sl H u w s.m = 0) : QS m0 G (mTake (Int64.ofInt u) (lN w) s) (fun x y => D x y ∨ (x = u ∧ y = w)) := by
  have hF' := hF
  unfold Fr at hF'
  have hw0 : (w : Int) ≠ 0 := by omega
  have hc : Nat.gcd u.natAbs (w : Int).natAbs = 1 := by rw [Int.natAbs_natCast]; exact hF'.2.2.2
  have ms := PS_m h
  obtain ⟨e1, e2, e3⟩ := mTk_v hF s.m (by omega) h.1 h.2.1
  have t2 := zTk_2 hw0 hc h1 (by omega) d
  obtain ⟨f1, f2⟩ := zTk_f hw0 hc s.m H
  generalize hz : zTk u w s.m H = z at *
  obtain ⟨m', H'⟩ := z
  dsimp only at e1 e2 e3 t2 f1 f2
  have hm : (mTake (Int64.ofInt u) (lN w) s).m = m' := e1
  have hr : (mTake (Int64.ofInt u) (lN w) s).r = s.r + 1 := rfl
  have hf : ∀ j, j ≤ m' → (mTake (Int64.ofInt u) (lN w) s).f j = Int64.ofInt (H' j) := e2
  have hu : (mTake (Int64.ofInt u) (lN w) s).u = ma_up s.u s.r (Int64.ofInt u) := rfl
  have hw : (mTake (Int64.ofInt u) (lN w) s).w = ma_up s.w s.r (lN w) := rfl
  have ht : (mTake (Int64.ofInt u) (lN w) s).t = ma_up s.t s.r (nI (s.m - m')) := by rw [← e1]; rfl
  generalize mTake (Int64.ofInt u) (lN w) s = S at *
  have mt : m' + (s.m - m') = s.m := by omega
  refine ⟨H', ⟨fun j hj => hf j (by omega), fun j hj => by rw [hm] at hj ⊢; exact e3 j hj, ?_⟩, fun x y q => ?_⟩
  · rcases h.2.2 with ⟨a1, a2, a3⟩ | ⟨u0, w0, t0, a1, a2, a3, a4, a5⟩ | ⟨_, _, _, _, _, _, _, _, a1, _⟩
    · have H0 : ¬ H 0 = 0 := by rw [← a3 0 (by omega)]; exact hG
      refine Or.inr (Or.inl ⟨u, w, s.m - m', by omega, ⟨by rw [hu, a1, ma_up_s], by rw [hw, a1, ma_up_s], by rw [ht, a1, ma_up_s], hF, by omega⟩, by omega, ?_, ?_⟩)
      · rw [hm]
        have : ∀ (t m : Nat) (f f' g : Nat → Int), (∀ j, j ≤ m + t → f' j = f j) → Fc u w t m f g → Fc u w t m f' g := by
          intro t
          match t with
          | 0 => intro m f f' g q k j hj; rw [q j (by omega)]; exact k j hj
          | t + 1 =>
            intro m f f' g q k
            obtain ⟨k', k1, k2⟩ := k
            refine ⟨k', ?_, k2⟩
            exact ⟨by rw [q 0 (by omega)]; exact k1.1, fun i hi => by rw [q (i + 1) (by omega)]; exact k1.2.1 i hi, by rw [q (m + t + 1) (by omega)]; exact k1.2.2⟩
        exact this _ _ _ _ _ (fun j hj => a3 j (by omega)) f1
      · rw [hm]; exact nz_or (Fc_0 hw0 _ _ _ _ f1 H0) f2
    · have b2 : 2 ≤ t0 := a2.2.2.2.2
      have c1 : t0 = 2 := by omega
      have c2 : m' = 0 := by omega
      have c3 : s.m = 2 := by omega
      subst c1
      rw [c3] at a4 a5
      have f1' : Fc u w 2 0 H H' := by rw [c2, c3] at f1; exact f1
      refine Or.inr (Or.inr ⟨u0, w0, u, w, H, by omega, ⟨?_, ?_, ?_, a2.2.2.2.1, by omega⟩, ⟨?_, ?_, ?_, hF, by omega⟩, by omega, by omega, a4, f1', a5⟩)
      · rw [hu, a1, ma_up_n _ _ (by decide)]; exact a2.1
      · rw [hw, a1, ma_up_n _ _ (by decide)]; exact a2.2.1
      · rw [ht, a1, ma_up_n _ _ (by decide)]; exact a2.2.2.1
      · rw [hu, a1, ma_up_s]
      · rw [hw, a1, ma_up_s]
      · rw [ht, a1, ma_up_s, c3, c2]
    · omega
  · rcases q with q | ⟨q1, q2⟩
    · rw [hm]
      have k := hD x y q
      rw [← mt] at k
      exact ND_c (by omega) f1 k
    · subst q1 q2
      rw [hm]
      intro l1 l2
      rcases f2 with f2 | f2
      · omega
      · exact f2 l2.1
theorem QS_try {m0 : Nat} (h4 : m0 < 5) {G : Nat → Int} (hG : ¬ G 0 = 0) {s : mP} {D : Int → Int → Prop} (h : QS m0 G s D) {u : Int} {w : Nat} (hF : Fr u w) : QS m0 G (mTry (Int64.ofInt u) (lN w) s) (fun x y => D x y ∨ (x = u ∧ y = w)) := by
  obtain ⟨H, h1, h2⟩ := h
  have hF' := hF
  unfold Fr at hF'
  have ms := PS_m h1
  have ea := mAt_z (u := Int64.ofInt u) (w := lN w) (U := u) (W := (w : Int)) rfl rfl (m := s.m) (by omega) h1.1
  have es := mSp_z (u := Int64.ofInt u) (w := lN w) (U := u) (W := (w : Int)) rfl rfl (m := s.m) (by omega) h1.1
  have ba := hv_bd (u := u) (w := (w : Int)) (by omega) (by omega) (n := s.m) (by omega) h1.2.1
  have bs := sl_bd (u := u) (w := (w : Int)) (by omega) (by omega) (n := s.m) (by omega) h1.2.1
  have iff : (mAt s.m s.f (Int64.ofInt u) (lN w) = 0 ∧ mSp s.m s.f (Int64.ofInt u) (lN w) = 0) ↔ (hv H u w s.m = 0 ∧ sl H u w s.m = 0) := by
    rw [ea, es, o6_0 ba, o6_0 bs]
  unfold mTry
  by_cases c : 1 < s.m ∧ mAt s.m s.f (Int64.ofInt u) (lN w) = 0 ∧ mSp s.m s.f (Int64.ofInt u) (lN w) = 0
  · rw [if_pos c]
    exact QS_take h4 hG h1 h2 hF c.1 (iff.mp c.2)
  · rw [if_neg c]
    refine ⟨H, h1, fun x y q => ?_⟩
    rcases q with q | ⟨q1, q2⟩
    · exact h2 x y q
    · subst q1 q2
      exact fun l1 l2 => c ⟨l1, iff.mpr l2⟩
