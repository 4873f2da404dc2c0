theorem geo1 {a0 a1 a2 a3 a5 a6 a7 a10 a11 a15 m0 m1 m2 m3 m5 m6 m7 m10 m11 m15 v0 v1 v2 v3 : Int} (pa : PD a0 a1 a2 a5 a6 a10) (dm : ¬ d3 m0 m1 m2 m5 m6 m10 = 0) (v3n : ¬ v3 = 0) (r0 : m0 * v0 + m1 * v1 + m2 * v2 + m3 * v3 = 0) (r1 : m1 * v0 + m5 * v1 + m6 * v2 + m7 * v3 = 0) (r2 : m2 * v0 + m6 * v1 + m10 * v2 + m11 * v3 = 0) (r3 : m3 * v0 + m7 * v1 + m11 * v2 + m15 * v3 = 0) {K h0 h1 h2 : Int} (hK : 0 < K) (hz : ∀ z : Int, dd (m0 + z * a0) (m1 + z * a1) (m2 + z * a2) (m3 + z * a3) (m1 + z * a1) (m5 + z * a5) (m6 + z * a6) (m7 + z * a7) (m2 + z * a2) (m6 + z * a6) (m10 + z * a10) (m11 + z * a11) (m3 + z * a3) (m7 + z * a7) (m11 + z * a11) (m15 + z * a15) = K * (z * z) * (h0 * (z * z) + h1 * z + h2)) : 0 ≤ h1 * h1 - 4 * (h0 * h2) := by
  obtain ⟨c0, hc0⟩ : ∃ c, c = a0 * v0 + a1 * v1 + a2 * v2 + a3 * v3 := ⟨_, rfl⟩
  obtain ⟨c1, hc1⟩ : ∃ c, c = a1 * v0 + a5 * v1 + a6 * v2 + a7 * v3 := ⟨_, rfl⟩
  obtain ⟨c2, hc2⟩ : ∃ c, c = a2 * v0 + a6 * v1 + a10 * v2 + a11 * v3 := ⟨_, rfl⟩
  obtain ⟨c3, hc3⟩ : ∃ c, c = a3 * v0 + a7 * v1 + a11 * v2 + a15 * v3 := ⟨_, rfl⟩
  obtain ⟨al, hal⟩ : ∃ c, c = v0 * c0 + v1 * c1 + v2 * c2 + v3 * c3 := ⟨_, rfl⟩
  have main : ∀ z : Int, v3 * v3 * (K * (z * z) * (h0 * (z * z) + h1 * z + h2)) = z * al * d3 (m0 + z * a0) (m1 + z * a1) (m2 + z * a2) (m5 + z * a5) (m6 + z * a6) (m10 + z * a10) - z * z * adq (m0 + z * a0) (m1 + z * a1) (m2 + z * a2) (m5 + z * a5) (m6 + z * a6) (m10 + z * a10) c0 c1 c2 := fun z => by
    have bi := bi_ (m0 + z * a0) (m1 + z * a1) (m2 + z * a2) (m3 + z * a3) (m5 + z * a5) (m6 + z * a6) (m7 + z * a7) (m10 + z * a10) (m11 + z * a11) (m15 + z * a15) v0 v1 v2 v3
    rw [hz z] at bi
    have f0 : (m0 + z * a0) * v0 + (m1 + z * a1) * v1 + (m2 + z * a2) * v2 + (m3 + z * a3) * v3 = (m0 * v0 + m1 * v1 + m2 * v2 + m3 * v3) + z * (a0 * v0 + a1 * v1 + a2 * v2 + a3 * v3) := by grind
    have f1 : (m1 + z * a1) * v0 + (m5 + z * a5) * v1 + (m6 + z * a6) * v2 + (m7 + z * a7) * v3 = (m1 * v0 + m5 * v1 + m6 * v2 + m7 * v3) + z * (a1 * v0 + a5 * v1 + a6 * v2 + a7 * v3) := by grind
    have f2 : (m2 + z * a2) * v0 + (m6 + z * a6) * v1 + (m10 + z * a10) * v2 + (m11 + z * a11) * v3 = (m2 * v0 + m6 * v1 + m10 * v2 + m11 * v3) + z * (a2 * v0 + a6 * v1 + a10 * v2 + a11 * v3) := by grind
    have f3 : (m3 + z * a3) * v0 + (m7 + z * a7) * v1 + (m11 + z * a11) * v2 + (m15 + z * a15) * v3 = (m3 * v0 + m7 * v1 + m11 * v2 + m15 * v3) + z * (a3 * v0 + a7 * v1 + a11 * v2 + a15 * v3) := by grind
    rw [r0, Int.zero_add, ← hc0] at f0
    rw [r1, Int.zero_add, ← hc1] at f1
    rw [r2, Int.zero_add, ← hc2] at f2
    rw [r3, Int.zero_add, ← hc3] at f3
    rw [f0, f1, f2, f3, adq_k] at bi
    rw [bi, hal]
    have e : v0 * (z * c0) + v1 * (z * c1) + v2 * (z * c2) + v3 * (z * c3) = z * (v0 * c0 + v1 * c1 + v2 * c2 + v3 * c3) := by grind
    rw [e]
  have al0 : al = 0 := by
    have X0 : al * d3 m0 m1 m2 m5 m6 m10 = 0 := by
      have key : ∀ z : Int, ¬ z = 0 → ∃ q, al * d3 m0 m1 m2 m5 m6 m10 = z * q := fun z hz0 => by
        have m := main z
        rw [d3_z] at m
        generalize d3 m0 m1 m2 m5 m6 m10 = D at *
        generalize d31 m0 m1 m2 m5 m6 m10 a0 a1 a2 a5 a6 a10 + z * d31 a0 a1 a2 a5 a6 a10 m0 m1 m2 m5 m6 m10 + z * z * d3 a0 a1 a2 a5 a6 a10 = T at *
        generalize adq (m0 + z * a0) (m1 + z * a1) (m2 + z * a2) (m5 + z * a5) (m6 + z * a6) (m10 + z * a10) c0 c1 c2 = Q at *
        refine ⟨v3 * v3 * (K * (h0 * (z * z) + h1 * z + h2)) + Q - al * T, ?_⟩
        have e : z * (al * D - z * (v3 * v3 * (K * (h0 * (z * z) + h1 * z + h2)) + Q - al * T)) = z * al * (D + z * T) - z * z * Q - v3 * v3 * (K * (z * z) * (h0 * (z * z) + h1 * z + h2)) := by grind
        rw [← m, Int.sub_self] at e
        have := mz_ hz0 e
        omega
      generalize al * d3 m0 m1 m2 m5 m6 m10 = X at *
      obtain ⟨q, hq⟩ := key ((X.natAbs : Int) + 1) (by omega)
      by_cases q0 : q = 0
      · rw [hq, q0, Int.mul_zero]
      · have e := congrArg Int.natAbs hq
        rw [Int.natAbs_mul] at e
        have := Nat.le_mul_of_pos_right ((X.natAbs : Int) + 1).natAbs (Int.natAbs_pos.mpr q0)
        omega
    exact (Int.mul_eq_zero.mp X0).elim id (fun y => absurd y dm)
  have sec : ∀ z : Int, ¬ z = 0 → v3 * v3 * K * (h0 * (z * z) + h1 * z + h2) = -(adq m0 m1 m2 m5 m6 m10 c0 c1 c2 + z * adm m0 m1 m2 m5 m6 m10 a0 a1 a2 a5 a6 a10 c0 c1 c2 + z * z * adq a0 a1 a2 a5 a6 a10 c0 c1 c2) := fun z hz0 => by
    have m := main z
    rw [al0, Int.mul_zero, Int.zero_mul, adq_z] at m
    generalize adq m0 m1 m2 m5 m6 m10 c0 c1 c2 + z * adm m0 m1 m2 m5 m6 m10 a0 a1 a2 a5 a6 a10 c0 c1 c2 + z * z * adq a0 a1 a2 a5 a6 a10 c0 c1 c2 = Q at *
    have e : z * z * (v3 * v3 * K * (h0 * (z * z) + h1 * z + h2) + Q) = v3 * v3 * (K * (z * z) * (h0 * (z * z) + h1 * z + h2)) - (0 - z * z * Q) := by grind
    rw [m, Int.sub_self] at e
    have := mz_ (fun y => hz0 (sq0 y)) e
    omega
  have s1 := sec 1 (by decide)
  have s2 := sec (-1) (by decide)
  have s3 := sec 2 (by decide)
  have dsc := dsc_a (a := m0) (x := m1) (y := m2) (b := m5) (p := m6) (c := m10) (r := c0) (s := c1) (t := c2) pa
  generalize adq m0 m1 m2 m5 m6 m10 c0 c1 c2 = q0 at *
  generalize adm m0 m1 m2 m5 m6 m10 a0 a1 a2 a5 a6 a10 c0 c1 c2 = q1 at *
  generalize adq a0 a1 a2 a5 a6 a10 c0 c1 c2 = q2 at *
  have L0 : 0 < v3 * v3 * K := Int.mul_pos (sqp' v3n) hK
  generalize v3 * v3 * K = L at *
  have t1 : L * (h0 * (1 * 1) + h1 * 1 + h2) = L * h0 + L * h1 + L * h2 := by grind
  have t2 : L * (h0 * (-1 * -1) + h1 * -1 + h2) = L * h0 - L * h1 + L * h2 := by grind
  have t3 : L * (h0 * (2 * 2) + h1 * 2 + h2) = 4 * (L * h0) + 2 * (L * h1) + L * h2 := by grind
  rw [t1] at s1
  rw [t2] at s2
  rw [t3] at s3
  have w0 : q2 = -(L * h0) := by omega
  have w1 : q1 = -(L * h1) := by omega
  have w2 : q0 = -(L * h2) := by omega
  rw [w0, w1, w2] at dsc
  have e : -(L * h1) * -(L * h1) - 4 * (-(L * h0) * -(L * h2)) = L * L * (h1 * h1 - 4 * (h0 * h2)) := by grind
  rw [e] at dsc
  exact (pl_ge (Int.mul_pos L0 L0)).mp dsc
theorem geo_ {a0 a1 a2 a3 a5 a6 a7 a10 a11 a15 m0 m1 m2 m3 m5 m6 m7 m10 m11 m15 : Int} (pa : PD a0 a1 a2 a5 a6 a10) (pm : PD m0 m1 m2 m5 m6 m10) {K h0 h1 h2 : Int} (hK : 0 < K) (hz : ∀ z : Int, dd (m0 + z * a0) (m1 + z * a1) (m2 + z * a2) (m3 + z * a3) (m1 + z * a1) (m5 + z * a5) (m6 + z * a6) (m7 + z * a7) (m2 + z * a2) (m6 + z * a6) (m10 + z * a10) (m11 + z * a11) (m3 + z * a3) (m7 + z * a7) (m11 + z * a11) (m15 + z * a15) = K * (z * z) * (h0 * (z * z) + h1 * z + h2)) : 0 ≤ h1 * h1 - 4 * (h0 * h2) := by
  have d0 := hz 0
  simp only [Int.zero_mul, Int.add_zero, Int.mul_zero] at d0
  have dm := pd_det pm
  refine geo1 (v0 := -((m5 * m10 - m6 * m6) * m3 + (m2 * m6 - m1 * m10) * m7 + (m1 * m6 - m2 * m5) * m11)) (v1 := -((m2 * m6 - m1 * m10) * m3 + (m0 * m10 - m2 * m2) * m7 + (m1 * m2 - m0 * m6) * m11)) (v2 := -((m1 * m6 - m2 * m5) * m3 + (m1 * m2 - m0 * m6) * m7 + (m0 * m5 - m1 * m1) * m11)) (v3 := d3 m0 m1 m2 m5 m6 m10) pa dm dm ?_ ?_ ?_ ?_ hK hz
  · unfold d3; grind
  · unfold d3; grind
  · unfold d3; grind
  · rw [← d0]; unfold d3 dd; grind
theorem dd_s {T : Nat → Int} (h : ∀ x y, x < 4 → y < 4 → T (4 * x + y) = T (4 * y + x)) : zW T = dd (T 0) (T 1) (T 2) (T 3) (T 1) (T 5) (T 6) (T 7) (T 2) (T 6) (T 10) (T 11) (T 3) (T 7) (T 11) (T 15) := by
  have e4 : T 4 = T 1 := h 1 0 (by omega) (by omega)
  have e8 : T 8 = T 2 := h 2 0 (by omega) (by omega)
  have e9 : T 9 = T 6 := h 2 1 (by omega) (by omega)
  have e12 : T 12 = T 3 := h 3 0 (by omega) (by omega)
  have e13 : T 13 = T 7 := h 3 1 (by omega) (by omega)
  have e14 : T 14 = T 11 := h 3 2 (by omega) (by omega)
  unfold zW
  rw [e4, e8, e9, e12, e13, e14]
theorem nb_p (c u w z x y t : Int) : c * (w * w * x) * ((u + z) * (u + z) * (u + z) * (u + z)) + c * (w * w * y - 2 * u * w * x) * ((u + z) * (u + z) * (u + z) * w) + c * (w * w * t - 2 * u * w * y + u * u * x) * ((u + z) * (u + z) * w * w) + c * (u * u * y - 2 * u * w * t) * ((u + z) * w * w * w) + c * (u * u * t) * (w * w * w * w) = c * (w * w) * (z * z) * (x * (z * z) + (2 * x * u + y * w) * z + (x * (u * u) + y * (u * w) + t * (w * w))) := by grind
theorem nb_t {A B : Nat → Int} (sa : ∀ x y, x < 4 → y < 4 → A (4 * x + y) = A (4 * y + x)) (sb : ∀ x y, x < 4 → y < 4 → B (4 * x + y) = B (4 * y + x)) (pa : PD (A 0) (A 1) (A 2) (A 5) (A 6) (A 10)) (pb : PD (B 0) (B 1) (B 2) (B 5) (B 6) (B 10)) : NBf (zF A B) := fun c G H u w hc hF hu hw hg h0 => by
  obtain ⟨g0, g1, g2, g3, g4⟩ := hg
  have wp : 0 < (w : Int) := by omega
  have w2 := Int.mul_pos wp wp
  have K : 0 < (c : Int) * ((w : Int) * w) := Int.mul_pos (by omega) w2
  have k := geo_ (pa := pa) (pm := pd_add pa pb hu wp) (K := (c : Int) * ((w : Int) * w)) (h0 := H 0) (h1 := 2 * H 0 * u + H 1 * w) (h2 := H 0 * (u * u) + H 1 * (u * w) + H 2 * (w * w)) (m0 := A 0 * u + B 0 * w) ( m1 := A 1 * u + B 1 * w) ( m2 := A 2 * u + B 2 * w) ( m3 := A 3 * u + B 3 * w) ( m5 := A 5 * u + B 5 * w) ( m6 := A 6 * u + B 6 * w) ( m7 := A 7 * u + B 7 * w) ( m10 := A 10 * u + B 10 * w) ( m11 := A 11 * u + B 11 * w) ( m15 := A 15 * u + B 15 * w) (a3 := A 3) (a7 := A 7) (a11 := A 11) (a15 := A 15) K (fun z => by
    have e1 := zF_w A B (u + z) w
    rw [hF 0 (by omega), hF 1 (by omega), hF 2 (by omega), hF 3 (by omega), hF 4 (by omega), g0, g1, g2, g3, g4, nb_p] at e1
    rw [← e1, dd_s (T := fun j => A j * (u + z) + B j * w) (fun x y hx hy => by rw [sa x y hx hy, sb x y hx hy])]
    have q : ∀ a b : Int, a * u + b * w + z * a = a * (u + z) + b * w := by intro a b; grind
    rw [q (A 0) (B 0), q (A 1) (B 1), q (A 2) (B 2), q (A 3) (B 3), q (A 5) (B 5), q (A 6) (B 6), q (A 7) (B 7), q (A 10) (B 10), q (A 11) (B 11), q (A 15) (B 15)])
  have yy := y_42 u w (H 0) (H 1) (H 2)
  have : (w : Int) * w * (H 1 * H 1 - 4 * H 0 * H 2) = (2 * H 0 * u + H 1 * w) * (2 * H 0 * u + H 1 * w) - 4 * (H 0 * (H 0 * (u * u) + H 1 * (u * w) + H 2 * (w * w))) := by omega
  exact (pl_ge w2).mp (by omega)
