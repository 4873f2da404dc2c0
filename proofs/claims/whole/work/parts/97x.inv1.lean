def vI (a b c d e : Int) : Int := 12 * a * e - 3 * b * d + c * c
def vJ (a b c d e : Int) : Int := 72 * a * c * e + 9 * b * c * d - 27 * a * d * d - 27 * e * b * b - 2 * c * c * c
def vE (a b c : Int) : Int := 8 * a * c - 3 * b * b
def vR (a b c d : Int) : Int := b * b * b + 8 * a * a * d - 4 * a * b * c
def vT (b c d e : Int) : Int := 18 * b * c * d * e - 4 * c * c * c * e + c * c * d * d - 4 * b * d * d * d - 27 * b * b * e * e
def vZ (A B C : Int) : Int := 16 * (A * A * A * A) * C - 4 * (A * A * A) * (B * B) - 128 * (A * A) * (C * C) + 144 * A * (B * B) * C - 27 * (B * B * B * B) + 256 * (C * C * C)
theorem sq0 {x : Int} (h : x * x = 0) : x = 0 := (Int.mul_eq_zero.mp h).elim id id
theorem vZ_d (A B C : Int) : 27 * vZ A B C = 4 * ((A * A + 12 * C) * (A * A + 12 * C) * (A * A + 12 * C)) - (72 * A * C - 27 * (B * B) - 2 * (A * A * A)) * (72 * A * C - 27 * (B * B) - 2 * (A * A * A)) := by unfold vZ; grind
/-- a reduced form of degree 4 with roots alike, none of them a fraction that counts twice, is a square -/
theorem dep_ {A B C : Int} (hZ : vZ A B C = 0) (nr : ∀ u w : Int, w ≠ 0 → ¬ (u * u * u * u + A * (u * u * (w * w)) + B * (u * (w * w * w)) + C * (w * w * w * w) = 0 ∧ 4 * (u * u * u) + 2 * A * (u * (w * w)) + B * (w * w * w) = 0)) : B = 0 ∧ A * A = 4 * C ∧ ¬ A * A + 12 * C = 0 := by
  have zd := vZ_d A B C
  rw [hZ, Int.mul_zero] at zd
  have hI : ¬ A * A + 12 * C = 0 := by
    intro h0
    rw [h0] at zd
    have j0 : 72 * A * C - 27 * (B * B) - 2 * (A * A * A) = 0 := sq0 (by omega)
    have j1 : 27 * (B * B) + 8 * (A * A * A) = 0 := by
      have : 72 * A * C = 6 * A * (A * A + 12 * C) - 6 * (A * A * A) := by grind
      rw [h0, Int.mul_zero] at this
      omega
    by_cases a0 : A = 0
    · subst a0
      have b0 : B = 0 := sq0 (by omega)
      have c0 : C = 0 := by omega
      subst b0 c0
      exact nr 0 1 (by decide) (by decide)
    · refine nr (-(3 * B)) (4 * A) (by omega) ⟨?_, ?_⟩
      · have e : 12 * (-(3 * B) * -(3 * B) * -(3 * B) * -(3 * B) + A * (-(3 * B) * -(3 * B) * (4 * A * (4 * A))) + B * (-(3 * B) * (4 * A * (4 * A) * (4 * A))) + C * (4 * A * (4 * A) * (4 * A) * (4 * A))) = (27 * (B * B) + 8 * (A * A * A)) * (36 * (B * B) - 32 * (A * A * A)) + 256 * (A * A * A * A) * (A * A + 12 * C) := by grind
        rw [j1, h0, Int.zero_mul, Int.mul_zero] at e
        omega
      · have e : 4 * (-(3 * B) * -(3 * B) * -(3 * B)) + 2 * A * (-(3 * B) * (4 * A * (4 * A))) + B * (4 * A * (4 * A) * (4 * A)) = -(4 * B) * (27 * (B * B) + 8 * (A * A * A)) := by grind
        rw [j1, Int.mul_zero] at e
        exact e
  by_cases b0 : B = 0
  · subst b0
    refine ⟨rfl, ?_, hI⟩
    have e : vZ A 0 C = 16 * (C * ((A * A - 4 * C) * (A * A - 4 * C))) := by unfold vZ; grind
    rw [hZ] at e
    rcases Int.mul_eq_zero.mp (show C * ((A * A - 4 * C) * (A * A - 4 * C)) = 0 by omega) with c | c
    · subst c
      exact absurd ⟨by omega, by omega⟩ (nr 0 1 (by decide))
    · have := sq0 c
      omega
  · have e1 : 4 * (-(B * (A * A + 12 * C)) * -(B * (A * A + 12 * C)) * -(B * (A * A + 12 * C))) + 2 * A * (-(B * (A * A + 12 * C)) * ((9 * (B * B) - 8 * A * C + 2 * (A * A * A)) * (9 * (B * B) - 8 * A * C + 2 * (A * A * A)))) + B * ((9 * (B * B) - 8 * A * C + 2 * (A * A * A)) * (9 * (B * B) - 8 * A * C + 2 * (A * A * A)) * (9 * (B * B) - 8 * A * C + 2 * (A * A * A))) = -(B * (8 * (A * A * A) + 27 * (B * B))) * vZ A B C := by unfold vZ; grind
    have e2 : -(B * (A * A + 12 * C)) * -(B * (A * A + 12 * C)) * -(B * (A * A + 12 * C)) * -(B * (A * A + 12 * C)) + A * (-(B * (A * A + 12 * C)) * -(B * (A * A + 12 * C)) * ((9 * (B * B) - 8 * A * C + 2 * (A * A * A)) * (9 * (B * B) - 8 * A * C + 2 * (A * A * A)))) + B * (-(B * (A * A + 12 * C)) * ((9 * (B * B) - 8 * A * C + 2 * (A * A * A)) * (9 * (B * B) - 8 * A * C + 2 * (A * A * A)) * (9 * (B * B) - 8 * A * C + 2 * (A * A * A)))) + C * ((9 * (B * B) - 8 * A * C + 2 * (A * A * A)) * (9 * (B * B) - 8 * A * C + 2 * (A * A * A)) * (9 * (B * B) - 8 * A * C + 2 * (A * A * A)) * (9 * (B * B) - 8 * A * C + 2 * (A * A * A))) = (A * A * A * A * A * A * A * A - 8 * (A * A * A * A * A * A) * C + 11 * (A * A * A * A * A) * (B * B) + 16 * (A * A * A * A) * (C * C) - 12 * (A * A * A) * (B * B) * C + 27 * (A * A) * (B * B * B * B) + 81 * (B * B * B * B) * C) * vZ A B C := by unfold vZ; grind
    rw [hZ, Int.mul_zero] at e1 e2
    refine absurd ⟨e2, e1⟩ (nr _ _ (fun q => ?_))
    rw [q] at e1
    have u0 : ¬ -(B * (A * A + 12 * C)) = 0 := fun z => (Int.mul_eq_zero.mp (show B * (A * A + 12 * C) = 0 by omega)).elim b0 hI
    generalize -(B * (A * A + 12 * C)) = u at e1 u0
    rw [Int.zero_mul, Int.mul_zero, Int.mul_zero, Int.zero_mul, Int.mul_zero, Int.add_zero, Int.add_zero] at e1
    have := Int.mul_eq_zero.mp (show u * u * u = 0 by omega)
    rcases this with h | h
    · exact u0 (sq0 h)
    · exact u0 h
def vC (a b c d e : Int) : Int := 256 * (a * a * a) * e - 64 * (a * a) * (b * d) + 16 * a * (b * b) * c - 3 * (b * b * b * b)
theorem red_I (a b c d e : Int) : 2 * vE a b c * (2 * vE a b c) + 12 * vC a b c d e = 256 * (a * a) * vI a b c d e := by unfold vE vC vI; grind
theorem red_J (a b c d e : Int) : 72 * (2 * vE a b c) * vC a b c d e - 27 * (8 * vR a b c d * (8 * vR a b c d)) - 2 * (2 * vE a b c * (2 * vE a b c) * (2 * vE a b c)) = 4096 * (a * a * a) * vJ a b c d e := by unfold vE vC vR vJ; grind
theorem red_0 (a b c d e u w : Int) : a * ((u - b * w) * (u - b * w) * (u - b * w) * (u - b * w)) + b * ((u - b * w) * (u - b * w) * (u - b * w) * (4 * a * w)) + c * ((u - b * w) * (u - b * w) * (4 * a * w) * (4 * a * w)) + d * ((u - b * w) * (4 * a * w) * (4 * a * w) * (4 * a * w)) + e * (4 * a * w * (4 * a * w) * (4 * a * w) * (4 * a * w)) = a * (u * u * u * u + 2 * vE a b c * (u * u * (w * w)) + 8 * vR a b c d * (u * (w * w * w)) + vC a b c d e * (w * w * w * w)) := by unfold vE vC vR; grind
theorem red_1 (a b c d e u w : Int) : 4 * a * ((u - b * w) * (u - b * w) * (u - b * w)) + 3 * b * ((u - b * w) * (u - b * w) * (4 * a * w)) + 2 * c * ((u - b * w) * (4 * a * w) * (4 * a * w)) + d * (4 * a * w * (4 * a * w) * (4 * a * w)) = a * (4 * (u * u * u) + 2 * (2 * vE a b c) * (u * (w * w)) + 8 * vR a b c d * (w * w * w)) := by unfold vE vR; grind
theorem q4_ {f : Nat → Int} (h0 : ¬ f 0 = 0) (nd : ∀ u w, w ≠ 0 → ND u w 4 f) (hD : 4 * (vI (f 0) (f 1) (f 2) (f 3) (f 4) * vI (f 0) (f 1) (f 2) (f 3) (f 4) * vI (f 0) (f 1) (f 2) (f 3) (f 4)) = vJ (f 0) (f 1) (f 2) (f 3) (f 4) * vJ (f 0) (f 1) (f 2) (f 3) (f 4)) : vR (f 0) (f 1) (f 2) (f 3) = 0 ∧ 16 * (f 0 * f 0) * vI (f 0) (f 1) (f 2) (f 3) (f 4) = vE (f 0) (f 1) (f 2) * vE (f 0) (f 1) (f 2) ∧ ¬ vI (f 0) (f 1) (f 2) (f 3) (f 4) = 0 := by
  have rI := red_I (f 0) (f 1) (f 2) (f 3) (f 4)
  have rJ := red_J (f 0) (f 1) (f 2) (f 3) (f 4)
  have r0 := red_0 (f 0) (f 1) (f 2) (f 3) (f 4)
  have r1 := red_1 (f 0) (f 1) (f 2) (f 3) (f 4)
  have nd' : ∀ u w : Int, w ≠ 0 → ¬ (u * u * u * u + 2 * vE (f 0) (f 1) (f 2) * (u * u * (w * w)) + 8 * vR (f 0) (f 1) (f 2) (f 3) * (u * (w * w * w)) + vC (f 0) (f 1) (f 2) (f 3) (f 4) * (w * w * w * w) = 0 ∧ 4 * (u * u * u) + 2 * (2 * vE (f 0) (f 1) (f 2)) * (u * (w * w)) + 8 * vR (f 0) (f 1) (f 2) (f 3) * (w * w * w) = 0) := fun u w hw d => by
    refine nd (u - f 1 * w) (4 * f 0 * w) (fun z => ?_) (by decide) ⟨?_, ?_⟩
    · rcases Int.mul_eq_zero.mp z with z | z
      · omega
      · exact hw z
    · rw [hv4, r0, d.1, Int.mul_zero]
    · show 4 * f 0 * ((u - f 1 * w) * (u - f 1 * w) * (u - f 1 * w)) + 3 * f 1 * ((u - f 1 * w) * (u - f 1 * w) * (4 * f 0 * w)) + 2 * f 2 * ((u - f 1 * w) * (4 * f 0 * w) * (4 * f 0 * w)) + f 3 * (4 * f 0 * w * (4 * f 0 * w) * (4 * f 0 * w)) = 0
      rw [r1, d.2, Int.mul_zero]
  have hZ : vZ (2 * vE (f 0) (f 1) (f 2)) (8 * vR (f 0) (f 1) (f 2) (f 3)) (vC (f 0) (f 1) (f 2) (f 3) (f 4)) = 0 := by
    have z := vZ_d (2 * vE (f 0) (f 1) (f 2)) (8 * vR (f 0) (f 1) (f 2) (f 3)) (vC (f 0) (f 1) (f 2) (f 3) (f 4))
    rw [rI, rJ] at z
    generalize vI (f 0) (f 1) (f 2) (f 3) (f 4) = i at z hD
    generalize vJ (f 0) (f 1) (f 2) (f 3) (f 4) = j at z hD
    have e : 4 * (256 * (f 0 * f 0) * i * (256 * (f 0 * f 0) * i) * (256 * (f 0 * f 0) * i)) - 4096 * (f 0 * f 0 * f 0) * j * (4096 * (f 0 * f 0 * f 0) * j) = 16777216 * (f 0 * f 0 * f 0 * f 0 * f 0 * f 0) * (4 * (i * i * i) - j * j) := by grind
    rw [e, hD, Int.sub_self, Int.mul_zero] at z
    omega
  obtain ⟨k1, k2, k3⟩ := dep_ hZ nd'
  generalize vE (f 0) (f 1) (f 2) = E at *
  generalize vI (f 0) (f 1) (f 2) (f 3) (f 4) = i at *
  generalize vC (f 0) (f 1) (f 2) (f 3) (f 4) = C at *
  have e1 : 2 * E * (2 * E) = 4 * (E * E) := by grind
  have e2 : 256 * (f 0 * f 0) * i = 16 * (16 * (f 0 * f 0) * i) := by grind
  rw [e1] at k2 k3 rI
  rw [e2] at rI
  refine ⟨by omega, by omega, fun z => ?_⟩
  rw [z, Int.mul_zero] at rI
  omega
theorem c3_ {f : Nat → Int} (h0 : ¬ f 0 = 0) (nd : ∀ u w, w ≠ 0 → ND u w 3 f) : ¬ vT (f 0) (f 1) (f 2) (f 3) = 0 := fun hT => by
  have key : ∀ b c d e : Int, 27 * (b * b) * vT b c d e = 4 * ((c * c - 3 * b * d) * (c * c - 3 * b * d) * (c * c - 3 * b * d)) - (9 * b * c * d - 27 * e * b * b - 2 * c * c * c) * (9 * b * c * d - 27 * e * b * b - 2 * c * c * c) := by intro b c d e; unfold vT; grind
  have k := key (f 0) (f 1) (f 2) (f 3)
  rw [hT, Int.mul_zero] at k
  by_cases i0 : f 1 * f 1 - 3 * f 0 * f 2 = 0
  · rw [i0] at k
    have j0 : 9 * f 0 * f 1 * f 2 - 27 * f 3 * f 0 * f 0 - 2 * f 1 * f 1 * f 1 = 0 := sq0 (by omega)
    refine nd (-(f 1)) (3 * f 0) (by omega) (by decide) ⟨?_, ?_⟩
    · rw [hv3]
      have e : f 0 * (-f 1 * -f 1 * -f 1) + f 1 * (-f 1 * -f 1 * (3 * f 0)) + f 2 * (-f 1 * (3 * f 0) * (3 * f 0)) + f 3 * (3 * f 0 * (3 * f 0) * (3 * f 0)) = -(f 0) * (9 * f 0 * f 1 * f 2 - 27 * f 3 * f 0 * f 0 - 2 * f 1 * f 1 * f 1) := by grind
      rw [e, j0, Int.mul_zero]
    · show 3 * f 0 * (-f 1 * -f 1) + 2 * f 1 * (-f 1 * (3 * f 0)) + f 2 * (3 * f 0 * (3 * f 0)) = 0
      have e : 3 * f 0 * (-f 1 * -f 1) + 2 * f 1 * (-f 1 * (3 * f 0)) + f 2 * (3 * f 0 * (3 * f 0)) = -(3 * f 0) * (f 1 * f 1 - 3 * f 0 * f 2) := by grind
      rw [e, i0, Int.mul_zero]
  · have k0 : ∀ b c d e : Int, b * ((9 * b * e - c * d) * (9 * b * e - c * d) * (9 * b * e - c * d)) + c * ((9 * b * e - c * d) * (9 * b * e - c * d) * (2 * (c * c - 3 * b * d))) + d * ((9 * b * e - c * d) * (2 * (c * c - 3 * b * d)) * (2 * (c * c - 3 * b * d))) + e * (2 * (c * c - 3 * b * d) * (2 * (c * c - 3 * b * d)) * (2 * (c * c - 3 * b * d))) = -(27 * (b * b) * e - 9 * b * c * d + 2 * (c * c * c)) * vT b c d e := by intro b c d e; unfold vT; grind
    have k1 : ∀ b c d e : Int, 3 * b * ((9 * b * e - c * d) * (9 * b * e - c * d)) + 2 * c * ((9 * b * e - c * d) * (2 * (c * c - 3 * b * d))) + d * (2 * (c * c - 3 * b * d) * (2 * (c * c - 3 * b * d))) = -(9 * b) * vT b c d e := by intro b c d e; unfold vT; grind
    refine nd (9 * f 0 * f 3 - f 1 * f 2) (2 * (f 1 * f 1 - 3 * f 0 * f 2)) (by omega) (by decide) ⟨?_, ?_⟩
    · rw [hv3, k0, hT, Int.mul_zero]
    · have := k1 (f 0) (f 1) (f 2) (f 3)
      rw [hT, Int.mul_zero] at this
      exact this
theorem c2_ {f : Nat → Int} (h0 : ¬ f 0 = 0) (nd : ∀ u w, w ≠ 0 → ND u w 2 f) : ¬ f 1 * f 1 - 4 * f 0 * f 2 = 0 := fun hT => by
  refine nd (-(f 1)) (2 * f 0) (by omega) (by decide) ⟨?_, ?_⟩
  · rw [hv2]
    have e : f 0 * (-f 1 * -f 1) + f 1 * (-f 1 * (2 * f 0)) + f 2 * (2 * f 0 * (2 * f 0)) = -(f 0) * (f 1 * f 1 - 4 * f 0 * f 2) := by grind
    rw [e, hT, Int.mul_zero]
  · show 2 * f 0 * -f 1 + f 1 * (2 * f 0) = 0
    grind
