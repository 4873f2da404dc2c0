def G22 (G : Nat → Int) (k u w x y : Int) : Prop := G 0 = k * (w * w * (y * y)) ∧ G 1 = -(2 * k * (w * w * (x * y) + u * w * (y * y))) ∧ G 2 = k * (w * w * (x * x) + 4 * (u * w) * (x * y) + u * u * (y * y)) ∧ G 3 = -(2 * k * (u * w * (x * x) + u * u * (x * y))) ∧ G 4 = k * (u * u * (x * x))
def G42 (G H : Nat → Int) (u w : Int) : Prop := G 0 = w * w * H 0 ∧ G 1 = w * w * H 1 - 2 * u * w * H 0 ∧ G 2 = w * w * H 2 - 2 * u * w * H 1 + u * u * H 0 ∧ G 3 = u * u * H 1 - 2 * u * w * H 2 ∧ G 4 = u * u * H 2
def G43 (G H : Nat → Int) (u w : Int) : Prop := G 0 = w * w * w * H 0 ∧ G 1 = w * w * w * H 1 - 3 * u * w * w * H 0 ∧ G 2 = 3 * u * u * w * H 0 - 3 * u * w * w * H 1 ∧ G 3 = 3 * u * u * w * H 1 - u * u * u * H 0 ∧ G 4 = -(u * u * u * H 1)
def G44 (G H : Nat → Int) (u w : Int) : Prop := G 0 = w * w * w * w * H 0 ∧ G 1 = -(4 * u * w * w * w * H 0) ∧ G 2 = 6 * u * u * w * w * H 0 ∧ G 3 = -(4 * u * u * u * w * H 0) ∧ G 4 = u * u * u * u * H 0
def G32 (G H : Nat → Int) (u w : Int) : Prop := G 0 = w * w * H 0 ∧ G 1 = w * w * H 1 - 2 * u * w * H 0 ∧ G 2 = u * u * H 0 - 2 * u * w * H 1 ∧ G 3 = u * u * H 1
def G33 (G H : Nat → Int) (u w : Int) : Prop := G 0 = w * w * w * H 0 ∧ G 1 = -(3 * u * w * w * H 0) ∧ G 2 = 3 * u * u * w * H 0 ∧ G 3 = -(u * u * u * H 0)
def G20 (G H : Nat → Int) (u w : Int) : Prop := G 0 = w * w * H 0 ∧ G 1 = -(2 * u * w * H 0) ∧ G 2 = u * u * H 0
theorem q_3 {u w : Int} {f g : Nat → Int} (h : isQ u w 3 f g) : f 0 = w * g 0 ∧ f 1 = w * g 1 - u * g 0 ∧ f 2 = w * g 2 - u * g 1 ∧ f 3 = w * g 3 - u * g 2 ∧ f 4 = -(u * g 3) := by
  obtain ⟨h0, hk, hl⟩ := h
  have k0 : w * g 1 = f 1 + g 0 * u := hk 0 (by omega)
  have k1 : w * g 2 = f 2 + g 1 * u := hk 1 (by omega)
  have k2 : w * g 3 = f 3 + g 2 * u := hk 2 (by omega)
  rw [Int.mul_comm u, Int.mul_comm u, Int.mul_comm u, Int.mul_comm u]
  have hl : f 4 + g 3 * u = 0 := hl
  exact ⟨h0.symm, by omega, by omega, by omega, by omega⟩
theorem q_2 {u w : Int} {f g : Nat → Int} (h : isQ u w 2 f g) : f 0 = w * g 0 ∧ f 1 = w * g 1 - u * g 0 ∧ f 2 = w * g 2 - u * g 1 ∧ f 3 = -(u * g 2) := by
  obtain ⟨h0, hk, hl⟩ := h
  have k0 : w * g 1 = f 1 + g 0 * u := hk 0 (by omega)
  have k1 : w * g 2 = f 2 + g 1 * u := hk 1 (by omega)
  rw [Int.mul_comm u, Int.mul_comm u, Int.mul_comm u]
  have hl : f 3 + g 2 * u = 0 := hl
  exact ⟨h0.symm, by omega, by omega, by omega⟩
theorem q_1 {u w : Int} {f g : Nat → Int} (h : isQ u w 1 f g) : f 0 = w * g 0 ∧ f 1 = w * g 1 - u * g 0 ∧ f 2 = -(u * g 1) := by
  obtain ⟨h0, hk, hl⟩ := h
  have k0 : w * g 1 = f 1 + g 0 * u := hk 0 (by omega)
  rw [Int.mul_comm u, Int.mul_comm u]
  have hl : f 2 + g 1 * u = 0 := hl
  exact ⟨h0.symm, by omega, by omega⟩
theorem q_0 {u w : Int} {f g : Nat → Int} (h : isQ u w 0 f g) : f 0 = w * g 0 ∧ f 1 = -(u * g 0) := by
  obtain ⟨h0, hk, hl⟩ := h
  rw [Int.mul_comm u]
  have hl : f 1 + g 0 * u = 0 := hl
  exact ⟨h0.symm, by omega⟩
theorem Fc_42 {u w : Int} {G H : Nat → Int} (h : Fc u w 2 2 G H) : G42 G H u w := by
  obtain ⟨A, h1, B, h2, h3⟩ := h
  obtain ⟨a0, a1, a2, a3, a4⟩ := q_3 h1
  obtain ⟨b0, b1, b2, b3⟩ := q_2 h2
  have c0 := h3 0 (by omega); have c1 := h3 1 (by omega); have c2 := h3 2 (by omega)
  unfold G42
  rw [a0, a1, a2, a3, a4, b0, b1, b2, b3, c0, c1, c2]
  refine ⟨?_, ?_, ?_, ?_, ?_⟩ <;> grind
theorem Fc_43 {u w : Int} {G H : Nat → Int} (h : Fc u w 3 1 G H) : G43 G H u w := by
  obtain ⟨A, h1, B, h2, C, h3, h4⟩ := h
  obtain ⟨a0, a1, a2, a3, a4⟩ := q_3 h1
  obtain ⟨b0, b1, b2, b3⟩ := q_2 h2
  obtain ⟨c0, c1, c2⟩ := q_1 h3
  have d0 := h4 0 (by omega); have d1 := h4 1 (by omega)
  unfold G43
  rw [a0, a1, a2, a3, a4, b0, b1, b2, b3, c0, c1, c2, d0, d1]
  refine ⟨?_, ?_, ?_, ?_, ?_⟩ <;> grind
theorem Fc_44 {u w : Int} {G H : Nat → Int} (h : Fc u w 4 0 G H) : G44 G H u w := by
  obtain ⟨A, h1, B, h2, C, h3, D, h4, h5⟩ := h
  obtain ⟨a0, a1, a2, a3, a4⟩ := q_3 h1
  obtain ⟨b0, b1, b2, b3⟩ := q_2 h2
  obtain ⟨c0, c1, c2⟩ := q_1 h3
  obtain ⟨d0, d1⟩ := q_0 h4
  have e0 := h5 0 (by omega)
  unfold G44
  rw [a0, a1, a2, a3, a4, b0, b1, b2, b3, c0, c1, c2, d0, d1, e0]
  refine ⟨?_, ?_, ?_, ?_, ?_⟩ <;> grind
theorem Fc_32 {u w : Int} {G H : Nat → Int} (h : Fc u w 2 1 G H) : G32 G H u w := by
  obtain ⟨A, h1, B, h2, h3⟩ := h
  obtain ⟨a0, a1, a2, a3⟩ := q_2 h1
  obtain ⟨b0, b1, b2⟩ := q_1 h2
  have c0 := h3 0 (by omega); have c1 := h3 1 (by omega)
  unfold G32
  rw [a0, a1, a2, a3, b0, b1, b2, c0, c1]
  refine ⟨?_, ?_, ?_, ?_⟩ <;> grind
theorem Fc_33 {u w : Int} {G H : Nat → Int} (h : Fc u w 3 0 G H) : G33 G H u w := by
  obtain ⟨A, h1, B, h2, C, h3, h4⟩ := h
  obtain ⟨a0, a1, a2, a3⟩ := q_2 h1
  obtain ⟨b0, b1, b2⟩ := q_1 h2
  obtain ⟨c0, c1⟩ := q_0 h3
  have d0 := h4 0 (by omega)
  unfold G33
  rw [a0, a1, a2, a3, b0, b1, b2, c0, c1, d0]
  refine ⟨?_, ?_, ?_, ?_⟩ <;> grind
theorem Fc_20 {u w : Int} {G H : Nat → Int} (h : Fc u w 2 0 G H) : G20 G H u w := by
  obtain ⟨A, h1, B, h2, h3⟩ := h
  obtain ⟨a0, a1, a2⟩ := q_1 h1
  obtain ⟨b0, b1⟩ := q_0 h2
  have c0 := h3 0 (by omega)
  unfold G20
  rw [a0, a1, a2, b0, b1, c0]
  refine ⟨?_, ?_, ?_⟩ <;> grind
def PF (m0 : Nat) (G : Nat → Int) (s : mP) (H : Nat → Int) : Prop :=
  (∀ j, j ≤ s.m → s.f j = Int64.ofInt (H j)) ∧ (∀ j, j ≤ s.m → (H j).natAbs ≤ Bd s.m) ∧
  ((s.r = 0 ∧ s.m = m0 ∧ ∀ j, j ≤ m0 → G j = H j) ∨
   (∃ u w t, s.r = 1 ∧ RS s 0 u w t ∧ s.m + t = m0 ∧ Fc u w t s.m G H ∧ ¬ hv H u w s.m = 0) ∨
   (∃ (u : Int) (w : Nat) (x : Int) (y : Nat), s.r = 2 ∧ RS s 0 u w 2 ∧ RS s 1 x y 2 ∧ s.m = 0 ∧ m0 = 4 ∧ G22 G (H 0) u w x y ∧ ¬ y * u - x * w = 0))
theorem G22_s {G : Nat → Int} {k u w x y : Int} (h : G22 G k u w x y) : G22 G k x y u w := by
  obtain ⟨h0, h1, h2, h3, h4⟩ := h
  unfold G22
  rw [h0, h1, h2, h3, h4]
  refine ⟨?_, ?_, ?_, ?_, ?_⟩ <;> grind
theorem g22_ {u w x y : Int} {G K H : Nat → Int} (a : G42 G K u w) (b : G20 K H x y) : G22 G (H 0) u w x y := by
  obtain ⟨h0, h1, h2, h3, h4⟩ := a
  obtain ⟨k0, k1, k2⟩ := b
  unfold G22
  rw [h0, h1, h2, h3, h4, k0, k1, k2]
  refine ⟨?_, ?_, ?_, ?_, ?_⟩ <;> grind
theorem S3_z {m0 : Nat} {G : Nat → Int} {s : mP} {H : Nat → Int} (h : PS m0 G s H) : PF m0 G (mS3 s) H ∧ (mS3 s).m = s.m := by
  obtain ⟨h1, h2, h3⟩ := h
  rcases h3 with ⟨a1, a2, a3⟩ | ⟨u, w, t, a1, a2, a3, a4, a5⟩ | ⟨u, w, x, y, K, a1, a2, a3, a4, a5, a6, a7, a8⟩
  · have e : mS3 s = s := by unfold mS3; rw [a1]; rfl
    rw [e]
    exact ⟨⟨h1, h2, Or.inl ⟨a1, a2, a3⟩⟩, rfl⟩
  · have e : mS3 s = s := by unfold mS3; rw [a1]; rfl
    rw [e]
    exact ⟨⟨h1, h2, Or.inr (Or.inl ⟨u, w, t, a1, a2, a3, a4, a5⟩)⟩, rfl⟩
  · have e : mS3 s = mSw 1 0 s := by unfold mS3; rw [a1]; rfl
    have g2 := g22_ (Fc_42 a6) (Fc_20 a7)
    have ne : ¬ (y : Int) * u - x * w = 0 := fun z => a8 (by
      obtain ⟨k0, k1, k2⟩ := Fc_20 a7
      rw [hv2, k0, k1, k2]
      have : (y : Int) * u = x * w := by omega
      have e2 : ((y : Int) * y * H 0) * (u * u) + -(2 * x * y * H 0) * (u * w) + x * x * H 0 * (w * w) = H 0 * ((y * u - x * w) * (y * u - x * w)) := by grind
      rw [e2, z, Int.mul_zero, Int.mul_zero])
    rw [e]
    unfold mSw
    by_cases c : s.u 1 * s.w 0 < s.u 0 * s.w 1
    · rw [if_pos c]
      refine ⟨⟨h1, h2, Or.inr (Or.inr ⟨x, y, u, w, a1, ⟨?_, ?_, ?_, a3.2.2.2.1, by omega⟩, ⟨?_, ?_, ?_, a2.2.2.2.1, by omega⟩, a4, a5, G22_s g2, fun z => ne (by have e1 : (y : Int) * u = u * y := Int.mul_comm _ _; have e2 : x * (w : Int) = w * x := Int.mul_comm _ _; omega)⟩)⟩, rfl⟩
      · show ma_up (ma_up s.u 1 (s.u 0)) 0 (s.u 1) 0 = _; rw [ma_up_s]; exact a3.1
      · show ma_up (ma_up s.w 1 (s.w 0)) 0 (s.w 1) 0 = _; rw [ma_up_s]; exact a3.2.1
      · show ma_up (ma_up s.t 1 (s.t 0)) 0 (s.t 1) 0 = _; rw [ma_up_s]; exact a3.2.2.1
      · show ma_up (ma_up s.u 1 (s.u 0)) 0 (s.u 1) 1 = _; rw [ma_up_n _ _ (by decide), ma_up_s]; exact a2.1
      · show ma_up (ma_up s.w 1 (s.w 0)) 0 (s.w 1) 1 = _; rw [ma_up_n _ _ (by decide), ma_up_s]; exact a2.2.1
      · show ma_up (ma_up s.t 1 (s.t 0)) 0 (s.t 1) 1 = _; rw [ma_up_n _ _ (by decide), ma_up_s]; exact a2.2.2.1
    · rw [if_neg c]
      exact ⟨⟨h1, h2, Or.inr (Or.inr ⟨u, w, x, y, a1, a2, a3, a4, a5, g2, ne⟩)⟩, rfl⟩
/-- what parts() leaves -/
theorem par_z {f : Nat → Int64} {F : Nat → Int} (hf : ∀ j, j < 5 → f j = Int64.ofInt (F j)) (hb : sml F) {bb m0 : Nat} {s : mP} (hd : mPd f bb m0 s) : ∃ (c : Nat) (G H : Nat → Int), 1 ≤ c ∧ (∀ j, j ≤ m0 → F (bb + j) = c * G j) ∧ (¬ G 0 = 0) ∧ PF m0 G s H ∧ ∀ u w, w ≠ 0 → ND u w s.m H := by
  obtain ⟨h1, h2, h3, l, u, w, t, rfl⟩ := hd
  have ti : ∀ j, j ≤ m0 → (f (bb + j)).toInt = F (bb + j) := fun j hj => by have := hb (bb + j) (by omega); rw [hf (bb + j) (by omega), o6_toInt (by omega)]
  have c1 := mGc_pos (g := fun j => f (bb + j)) (by rw [Nat.add_zero]; exact h3) m0
  have cd : ∀ j, j ≤ m0 → mGc (fun j => f (bb + j)) (m0 + 1) ∣ (F (bb + j)).natAbs := fun j hj => by
    have := mGc_d (g := fun j => f (bb + j)) (m0 + 1) j (by omega)
    rw [ti j hj] at this; exact this
  have mf : ∀ j, j ≤ m0 → (mS0 bb m0 f l u w t).f j = f (bb + j) / lN (mGc (fun j => f (bb + j)) (m0 + 1)) := fun j hj => if_pos (by omega)
  have em : (mS0 bb m0 f l u w t).m = m0 := rfl
  have er : (mS0 bb m0 f l u w t).r = 0 := rfl
  unfold mPar
  generalize mS0 bb m0 f l u w t = s0 at *
  generalize mGc (fun j => f (bb + j)) (m0 + 1) = c at *
  have fg : ∀ j, j ≤ m0 → F (bb + j) = c * (F (bb + j) / c) := fun j hj => (Int.mul_ediv_cancel' (Int.natAbs_dvd_natAbs.mp (by rw [Int.natAbs_natCast]; exact cd j hj))).symm
  have fb : F bb ≠ 0 := fun z => h3 (by rw [hf bb (by omega), z]; rfl)
  have g0 : ¬ F (bb + 0) / c = 0 := fun z => fb (by have := fg 0 (by omega); rw [z, Int.mul_zero] at this; exact this)
  have gb : ∀ j, j ≤ m0 → (F (bb + j) / c).natAbs ≤ 623616 := fun j hj => by
    have e := congrArg Int.natAbs (fg j hj)
    rw [Int.natAbs_mul, Int.natAbs_natCast] at e
    have := hb (bb + j) (by omega)
    have := Nat.le_mul_of_pos_left (F (bb + j) / c).natAbs c1
    omega
  have cb : c ≤ 623616 := by
    have := Nat.le_of_dvd (Int.natAbs_pos.mpr fb) (cd 0 (by omega))
    have := hb bb (by omega)
    omega
  obtain ⟨H, p1, p2⟩ := S2_z (s := s0) (G := fun j => F (bb + j) / c) (by omega) g0 gb em er (fun j hj => by
    rw [mf j hj, hf (bb + j) (by omega), fg j hj]
    have := hb (bb + j) (by omega)
    rw [dv_ (by omega) (by omega) (by rw [← fg j hj]; omega)]
    rw [← fg j hj])
  obtain ⟨q1, q2⟩ := S3_z p1
  exact ⟨c, _, H, c1, fg, g0, q1, by rw [q2]; exact p2⟩
