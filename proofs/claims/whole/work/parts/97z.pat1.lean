theorem pl_ge {K x : Int} (h : 0 < K) : 0 ≤ K * x ↔ 0 ≤ x := ⟨fun q => Int.le_of_mul_le_mul_left (a := K) (by rw [Int.mul_zero]; exact q) h, fun q => Int.mul_nonneg (Int.le_of_lt h) q⟩
theorem pl_gt {K x : Int} (h : 0 < K) : 0 < K * x ↔ 0 < x := ⟨fun q => Int.lt_of_mul_lt_mul_left (a := K) (by rw [Int.mul_zero]; exact q) (Int.le_of_lt h), fun q => Int.mul_pos h q⟩
theorem pl_le {K x : Int} (h : 0 < K) : K * x ≤ 0 ↔ x ≤ 0 := by have := pl_gt (x := x) h; omega
theorem pl_lt {K x : Int} (h : 0 < K) : K * x < 0 ↔ x < 0 := by have := pl_ge (x := x) h; omega
theorem pl_0 {K x : Int} (h : 0 < K) : K * x = 0 ↔ x = 0 := by have := pl_ge (x := x) h; have := pl_le (x := x) h; omega
theorem pz4_k {D I R E S J a k6 k2 k3 k4 k : Int} (h6 : 0 < k6) (h2 : 0 < k2) (h3 : 0 < k3) (h4 : 0 < k4) (hk : 0 < k) : pz4 (k6 * D) (k2 * I) (k3 * R) (k2 * E) (k4 * S) (k3 * J) (k * a) = pz4 D I R E S J a := by
  have e1 : k3 * R * (k * a) = k3 * k * (R * a) := by grind
  have e2 : k3 * J * (k * a) = k3 * k * (J * a) := by grind
  have h5 := Int.mul_pos h3 hk
  unfold pz4
  rw [e1, e2]
  simp only [pl_ge h6, pl_le h6, pl_0 h2, pl_0 h5, pl_le h5, pl_0 h4, pl_ge h2, pl_ge h4, pl_gt h5, pl_ge h5]
theorem p4_k {k : Int} (hk : 0 < k) (a b c d e : Int) : p4 (k * a) (k * b) (k * c) (k * d) (k * e) = p4 a b c d e := by
  have h2 := Int.mul_pos hk hk
  have h3 := Int.mul_pos h2 hk
  have h4 := Int.mul_pos h2 h2
  have h6 := Int.mul_pos h3 h3
  have eI : vI (k * a) (k * b) (k * c) (k * d) (k * e) = k * k * vI a b c d e := by unfold vI; grind
  have eJ : vJ (k * a) (k * b) (k * c) (k * d) (k * e) = k * k * k * vJ a b c d e := by unfold vJ; grind
  have eE : vE (k * a) (k * b) (k * c) = k * k * vE a b c := by unfold vE; grind
  have eR : vR (k * a) (k * b) (k * c) (k * d) = k * k * k * vR a b c d := by unfold vR; grind
  unfold p4
  rw [eI, eJ, eE, eR]
  generalize vI a b c d e = I
  generalize vJ a b c d e = J
  generalize vE a b c = E
  generalize vR a b c d = R
  have eD : 4 * (k * k * I * (k * k * I) * (k * k * I)) - k * k * k * J * (k * k * k * J) = (k * k * k * (k * k * k)) * (4 * (I * I * I) - J * J) := by grind
  have eS : 16 * (k * a * (k * a)) * (k * k * I) - k * k * E * (k * k * E) = k * k * (k * k) * (16 * (a * a) * I - E * E) := by grind
  rw [eD, eS]
  exact pz4_k h6 h2 h3 h4 hk
theorem p3_k {k : Int} (hk : 0 < k) (b c d e : Int) : p3 (k * b) (k * c) (k * d) (k * e) = p3 b c d e := by
  have h2 := Int.mul_pos hk hk
  have h3 := Int.mul_pos h2 hk
  have h4 := Int.mul_pos h3 hk
  have h6 := Int.mul_pos h3 h3
  have eI : vI 0 (k * b) (k * c) (k * d) (k * e) = k * k * vI 0 b c d e := by unfold vI; grind
  have eJ : vJ 0 (k * b) (k * c) (k * d) (k * e) = k * k * k * vJ 0 b c d e := by unfold vJ; grind
  unfold p3
  rw [eI, eJ]
  generalize vI 0 b c d e = I
  generalize vJ 0 b c d e = J
  have e1 : 4 * (k * k * I * (k * k * I) * (k * k * I)) - k * k * k * J * (k * k * k * J) = k * k * k * (k * k * k) * (4 * (I * I * I) - J * J) := by grind
  have e2 : k * k * k * J * (k * b) = k * k * k * k * (J * b) := by grind
  unfold pz3
  rw [e1, e2]
  simp only [pl_0 h6, pl_le h6, pl_0 h2, pl_gt h4]
theorem pz2_k {k : Int} (hk : 0 < k) (b c d : Int) : pz2 (k * c * (k * c) - 4 * (k * b) * (k * d)) = pz2 (c * c - 4 * b * d) := by
  have h2 := Int.mul_pos hk hk
  have e1 : k * c * (k * c) - 4 * (k * b) * (k * d) = k * k * (c * c - 4 * b * d) := by grind
  unfold pz2
  rw [e1]
  simp only [pl_0 h2, pl_le h2]
/-- (w t - u)^2 times a form of degree 2 -/
theorem i_42 (u w x y z : Int) : vI (w * w * x) (w * w * y - 2 * u * w * x) (w * w * z - 2 * u * w * y + u * u * x) (u * u * y - 2 * u * w * z) (u * u * z) = (x * (u * u) + y * (u * w) + z * (w * w)) * (x * (u * u) + y * (u * w) + z * (w * w)) := by unfold vI; grind
theorem j_42 (u w x y z : Int) : vJ (w * w * x) (w * w * y - 2 * u * w * x) (w * w * z - 2 * u * w * y + u * u * x) (u * u * y - 2 * u * w * z) (u * u * z) = -(2 * ((x * (u * u) + y * (u * w) + z * (w * w)) * (x * (u * u) + y * (u * w) + z * (w * w)) * (x * (u * u) + y * (u * w) + z * (w * w)))) := by unfold vJ; grind
theorem e_42 (u w x y z : Int) : vE (w * w * x) (w * w * y - 2 * u * w * x) (w * w * z - 2 * u * w * y + u * u * x) = -(w * w * ((2 * x * u + y * w) * (2 * x * u + y * w) + 2 * (w * w * (y * y - 4 * x * z)))) := by unfold vE; grind
theorem r_42 (u w x y z : Int) : vR (w * w * x) (w * w * y - 2 * u * w * x) (w * w * z - 2 * u * w * y + u * u * x) (u * u * y - 2 * u * w * z) = w * w * w * w * w * ((2 * x * u + y * w) * (y * y - 4 * x * z)) := by unfold vR; grind
theorem y_42 (u w x y z : Int) : (2 * x * u + y * w) * (2 * x * u + y * w) = 4 * (x * (x * (u * u) + y * (u * w) + z * (w * w))) + w * w * (y * y - 4 * x * z) := by grind
theorem p_42 {u w x y z : Int} (hw : 0 < w) (hx : ¬ x = 0) (hn : ¬ x * (u * u) + y * (u * w) + z * (w * w) = 0) : (y * y - 4 * x * z < 0 → p4 (w * w * x) (w * w * y - 2 * u * w * x) (w * w * z - 2 * u * w * y + u * u * x) (u * u * y - 2 * u * w * z) (u * u * z) = 25) ∧ (0 < y * y - 4 * x * z → p4 (w * w * x) (w * w * y - 2 * u * w * x) (w * w * z - 2 * u * w * y + u * u * x) (u * u * y - 2 * u * w * z) (u * u * z) = if (x * (u * u) + y * (u * w) + z * (w * w)) * x < 0 then 121 else if 0 ≤ (2 * x * u + y * w) * x then 112 else 211) := by
  have yy := y_42 u w x y z
  unfold p4
  rw [i_42, j_42, e_42, r_42]
  generalize x * (u * u) + y * (u * w) + z * (w * w) = N at *
  generalize 2 * x * u + y * w = S at *
  generalize y * y - 4 * x * z = T at *
  have w2 := Int.mul_pos hw hw
  have w3 := Int.mul_pos w2 hw
  have w4 := Int.mul_pos w2 w2
  have w7 := Int.mul_pos w3 w4
  have n2 := sqp' hn
  have x2 := sqp' hx
  have s2 := sqp S
  have eD : 4 * (N * N * (N * N) * (N * N)) - -(2 * (N * N * N)) * -(2 * (N * N * N)) = 0 := by grind
  have eR : w * w * w * w * w * (S * T) * (w * w * x) = w * w * w * (w * w * (w * w)) * (T * (S * x)) := by grind
  have eJ : -(2 * (N * N * N)) * (w * w * x) = w * w * (N * N) * (-(2 * (N * x))) := by grind
  have eS : 16 * (w * w * x * (w * w * x)) * (N * N) - -(w * w * (S * S + 2 * (w * w * T))) * -(w * w * (S * S + 2 * (w * w * T))) = w * w * (w * w) * (16 * (x * N) * (x * N) - (S * S + 2 * (w * w * T)) * (S * S + 2 * (w * w * T))) := by grind
  have eE : -(w * w * (S * S + 2 * (w * w * T))) = w * w * (-(S * S + 2 * (w * w * T))) := by grind
  rw [eD]
  unfold pz4
  rw [eR, eJ, eS, eE]
  have k2 := Int.mul_pos w2 n2
  rw [if_pos (Int.le_refl _), if_pos (Int.le_refl _), if_neg (show ¬ N * N = 0 by omega)]
  simp only [pl_0 w7, pl_ge w7, pl_ge w2, pl_ge w4, pl_0 w4, pl_gt k2]
  have eX : 16 * (x * N) * (x * N) = (S * S - w * w * T) * (S * S - w * w * T) := by rw [yy]; grind
  rw [eX]
  have eF : (S * S - w * w * T) * (S * S - w * w * T) - (S * S + 2 * (w * w * T)) * (S * S + 2 * (w * w * T)) = -(3 * ((w * w * T) * (2 * (S * S) + w * w * T))) := by grind
  rw [eF]
  refine ⟨fun hT => ?_, fun hT => ?_⟩
  · have t0 := (pl_lt w2).mpr hT
    generalize w * w * T = V at *
    have c1 : ¬ (T * (S * x) = 0 ∧ -(3 * (V * (2 * (S * S) + V))) = 0) := fun q => by
      have s0 : S = 0 := by
        rcases Int.mul_eq_zero.mp q.1 with a | a
        · omega
        · rcases Int.mul_eq_zero.mp a with a | a
          · exact a
          · exact absurd a hx
      have q2 := q.2
      rw [s0] at q2
      have : 0 < V * V := sqp' (by omega)
      have : V * (2 * (0 * 0) + V) = V * V := by grind
      omega
    have c2 : 0 ≤ -(S * S + 2 * V) ∨ 0 ≤ -(3 * (V * (2 * (S * S) + V))) := by
      by_cases c : 2 * (S * S) + V < 0
      · left; omega
      · right
        have : V * (2 * (S * S) + V) ≤ 0 := Int.mul_nonpos_of_nonpos_of_nonneg (by omega) (by omega)
        omega
    rw [if_neg c1, if_pos c2]
  · have t0 := (pl_gt w2).mpr hT
    generalize w * w * T = V at *
    have v1 := Int.mul_pos t0 (show 0 < 2 * (S * S) + V by omega)
    rw [if_neg (fun q => by omega), if_neg (fun q => by omega)]
    have e1 : 0 < -(2 * (N * x)) ↔ N * x < 0 := by omega
    simp only [e1, pl_ge hT]
theorem p_43 {u w x y : Int} (hw : 0 < w) (hx : ¬ x = 0) (hn : ¬ x * u + y * w = 0) : p4 (w * w * w * x) (w * w * w * y - 3 * u * w * w * x) (3 * u * u * w * x - 3 * u * w * w * y) (3 * u * u * w * y - u * u * u * x) (-(u * u * u * y)) = if (x * u + y * w) * x ≤ 0 then 31 else 13 := by
  have eI : vI (w * w * w * x) (w * w * w * y - 3 * u * w * w * x) (3 * u * u * w * x - 3 * u * w * w * y) (3 * u * u * w * y - u * u * u * x) (-(u * u * u * y)) = 0 := by unfold vI; grind
  have eJ : vJ (w * w * w * x) (w * w * w * y - 3 * u * w * w * x) (3 * u * u * w * x - 3 * u * w * w * y) (3 * u * u * w * y - u * u * u * x) (-(u * u * u * y)) = 0 := by unfold vJ; grind
  have eR : vR (w * w * w * x) (w * w * w * y - 3 * u * w * w * x) (3 * u * u * w * x - 3 * u * w * w * y) (3 * u * u * w * y - u * u * u * x) * (w * w * w * x) = w * w * w * (w * w * w) * (w * w * w) * ((x * u + y * w) * (x * u + y * w)) * ((x * u + y * w) * x) := by unfold vR; grind
  have w3 := Int.mul_pos (Int.mul_pos hw hw) hw
  have w9 := Int.mul_pos (Int.mul_pos w3 w3) w3
  have k := Int.mul_pos w9 (sqp' hn)
  have nx : ¬ (x * u + y * w) * x = 0 := fun z => (Int.mul_eq_zero.mp z).elim hn hx
  unfold p4 pz4
  rw [eI, eJ, eR]
  rw [if_pos (by decide), if_pos (by decide), if_pos rfl]
  simp only [pl_0 k, pl_le k]
  rw [if_neg nx]
theorem p_44 (u w x : Int) : p4 (w * w * w * w * x) (-(4 * u * w * w * w * x)) (6 * u * u * w * w * x) (-(4 * u * u * u * w * x)) (u * u * u * u * x) = 4 := by
  have eI : vI (w * w * w * w * x) (-(4 * u * w * w * w * x)) (6 * u * u * w * w * x) (-(4 * u * u * u * w * x)) (u * u * u * u * x) = 0 := by unfold vI; grind
  have eJ : vJ (w * w * w * w * x) (-(4 * u * w * w * w * x)) (6 * u * u * w * w * x) (-(4 * u * u * u * w * x)) (u * u * u * u * x) = 0 := by unfold vJ; grind
  have eR : vR (w * w * w * w * x) (-(4 * u * w * w * w * x)) (6 * u * u * w * w * x) (-(4 * u * u * u * w * x)) = 0 := by unfold vR; grind
  unfold p4 pz4
  rw [eI, eJ, eR]
  rw [if_pos (by decide), if_pos (by decide), if_pos rfl, if_pos (Int.zero_mul _)]
theorem p_22 {k u w x y : Int} (hk : ¬ k = 0) (hw : 0 < w) (hy : 0 < y) (hd : ¬ y * u - x * w = 0) : p4 (k * (w * w * (y * y))) (-(2 * k * (w * w * (x * y) + u * w * (y * y)))) (k * (w * w * (x * x) + 4 * (u * w) * (x * y) + u * u * (y * y))) (-(2 * k * (u * w * (x * x) + u * u * (x * y)))) (k * (u * u * (x * x))) = 22 := by
  have eI : vI (k * (w * w * (y * y))) (-(2 * k * (w * w * (x * y) + u * w * (y * y)))) (k * (w * w * (x * x) + 4 * (u * w) * (x * y) + u * u * (y * y))) (-(2 * k * (u * w * (x * x) + u * u * (x * y)))) (k * (u * u * (x * x))) = k * k * ((y * u - x * w) * (y * u - x * w) * ((y * u - x * w) * (y * u - x * w))) := by unfold vI; grind
  have eJ : vJ (k * (w * w * (y * y))) (-(2 * k * (w * w * (x * y) + u * w * (y * y)))) (k * (w * w * (x * x) + 4 * (u * w) * (x * y) + u * u * (y * y))) (-(2 * k * (u * w * (x * x) + u * u * (x * y)))) (k * (u * u * (x * x))) = -(2 * (k * k * k) * ((y * u - x * w) * (y * u - x * w) * ((y * u - x * w) * (y * u - x * w)) * ((y * u - x * w) * (y * u - x * w)))) := by unfold vJ; grind
  have eR : vR (k * (w * w * (y * y))) (-(2 * k * (w * w * (x * y) + u * w * (y * y)))) (k * (w * w * (x * x) + 4 * (u * w) * (x * y) + u * u * (y * y))) (-(2 * k * (u * w * (x * x) + u * u * (x * y)))) = 0 := by unfold vR; grind
  have eE : vE (k * (w * w * (y * y))) (-(2 * k * (w * w * (x * y) + u * w * (y * y)))) (k * (w * w * (x * x) + 4 * (u * w) * (x * y) + u * u * (y * y))) = -(4 * (k * k * (w * w * (y * y)) * ((y * u - x * w) * (y * u - x * w)))) := by unfold vE; grind
  unfold p4 pz4
  rw [eI, eJ, eR, eE]
  generalize y * u - x * w = d at *
  have d2 := sqp' hd
  have k2 := sqp' hk
  have i0 := Int.mul_pos k2 (Int.mul_pos d2 d2)
  have e0 := Int.mul_pos (Int.mul_pos k2 (Int.mul_pos (Int.mul_pos hw hw) (Int.mul_pos hy hy))) d2
  have eD : 4 * (k * k * (d * d * (d * d)) * (k * k * (d * d * (d * d))) * (k * k * (d * d * (d * d)))) - -(2 * (k * k * k) * (d * d * (d * d) * (d * d))) * -(2 * (k * k * k) * (d * d * (d * d) * (d * d))) = 0 := by grind
  have eS : 16 * (k * (w * w * (y * y)) * (k * (w * w * (y * y)))) * (k * k * (d * d * (d * d))) - -(4 * (k * k * (w * w * (y * y)) * (d * d))) * -(4 * (k * k * (w * w * (y * y)) * (d * d))) = 0 := by grind
  rw [eD, eS, if_pos (by decide), if_pos (by decide), if_neg (by omega), if_pos ⟨Int.zero_mul _, rfl⟩, if_neg (by omega)]
theorem p_32 {u w x y : Int} (hw : 0 < w) (hx : ¬ x = 0) (hn : ¬ x * u + y * w = 0) : p3 (w * w * x) (w * w * y - 2 * u * w * x) (u * u * x - 2 * u * w * y) (u * u * y) = if (x * u + y * w) * x < 0 then 211 else 121 := by
  have eI : vI 0 (w * w * x) (w * w * y - 2 * u * w * x) (u * u * x - 2 * u * w * y) (u * u * y) = w * w * ((x * u + y * w) * (x * u + y * w)) := by unfold vI; grind
  have eJ : vJ 0 (w * w * x) (w * w * y - 2 * u * w * x) (u * u * x - 2 * u * w * y) (u * u * y) = -(2 * (w * w * w) * ((x * u + y * w) * (x * u + y * w) * (x * u + y * w))) := by unfold vJ; grind
  unfold p3 pz3
  rw [eI, eJ]
  generalize x * u + y * w = N at *
  have w2 := Int.mul_pos hw hw
  have w5 := Int.mul_pos (Int.mul_pos w2 hw) w2
  have n2 := sqp' hn
  have k := Int.mul_pos w5 n2
  have i0 := Int.mul_pos w2 n2
  have eD : 4 * (w * w * (N * N) * (w * w * (N * N)) * (w * w * (N * N))) - -(2 * (w * w * w) * (N * N * N)) * -(2 * (w * w * w) * (N * N * N)) = 0 := by grind
  have eR : -(2 * (w * w * w) * (N * N * N)) * (w * w * x) = w * w * w * (w * w) * (N * N) * (-(2 * (N * x))) := by grind
  rw [eD, eR, if_pos rfl, if_neg (by omega)]
  have e1 : 0 < -(2 * (N * x)) ↔ N * x < 0 := by omega
  simp only [pl_gt k, e1]
theorem p_33 (u w x : Int) : p3 (w * w * w * x) (-(3 * u * w * w * x)) (3 * u * u * w * x) (-(u * u * u * x)) = 31 := by
  have eI : vI 0 (w * w * w * x) (-(3 * u * w * w * x)) (3 * u * u * w * x) (-(u * u * u * x)) = 0 := by unfold vI; grind
  have eJ : vJ 0 (w * w * w * x) (-(3 * u * w * w * x)) (3 * u * u * w * x) (-(u * u * u * x)) = 0 := by unfold vJ; grind
  unfold p3 pz3
  rw [eI, eJ, if_pos (by decide), if_pos rfl]
theorem p_30 {b c d e : Int} (hb : ¬ b = 0) (hT : ¬ vT b c d e = 0) : p3 b c d e = if vT b c d e ≤ 0 then 115 else 1111 := by
  have eD : 4 * (vI 0 b c d e * vI 0 b c d e * vI 0 b c d e) - vJ 0 b c d e * vJ 0 b c d e = 27 * (b * b) * vT b c d e := by unfold vI vJ vT; grind
  have k : 0 < 27 * (b * b) := by have := sqp' hb; omega
  unfold p3 pz3
  rw [eD]
  simp only [pl_0 k, pl_le k]
  rw [if_neg hT]
