def qf (a x y b p c r s t : Int) : Int := a * (r * r) + 2 * x * (r * s) + 2 * y * (r * t) + b * (s * s) + 2 * p * (s * t) + c * (t * t)
def d3 (a x y b p c : Int) : Int := a * (b * c - p * p) - x * (x * c - p * y) + y * (x * p - b * y)
def adq (a x y b p c r s t : Int) : Int := (b * c - p * p) * (r * r) + 2 * (y * p - x * c) * (r * s) + 2 * (x * p - y * b) * (r * t) + (a * c - y * y) * (s * s) + 2 * (x * y - a * p) * (s * t) + (a * b - x * x) * (t * t)
def PD (a x y b p c : Int) : Prop := ∀ r s t : Int, ¬ (r = 0 ∧ s = 0 ∧ t = 0) → 0 < qf a x y b p c r s t
theorem pd_of {a x y b p c : Int} (h1 : 0 < a) (h2 : 0 < a * b - x * x) (h3 : 0 < d3 a x y b p c) : PD a x y b p c := fun r s t h => by
  have e : a * (a * b - x * x) * qf a x y b p c r s t = (a * b - x * x) * ((a * r + x * s + y * t) * (a * r + x * s + y * t)) + ((a * b - x * x) * s + (a * p - x * y) * t) * ((a * b - x * x) * s + (a * p - x * y) * t) + a * d3 a x y b p c * (t * t) := by unfold qf d3; grind
  refine (pl_gt (Int.mul_pos h1 h2)).mp ?_
  rw [e]
  have ad := Int.mul_pos h1 h3
  have t1 := Int.mul_nonneg (Int.le_of_lt h2) (sqp (a * r + x * s + y * t))
  have t2 := sqp ((a * b - x * x) * s + (a * p - x * y) * t)
  have t3 := Int.mul_nonneg (Int.le_of_lt ad) (sqp t)
  by_cases ct : t = 0
  · by_cases cs : s = 0
    · have cr : ¬ r = 0 := fun z => h ⟨z, cs, ct⟩
      have k : ¬ a * r + x * s + y * t = 0 := fun z => by
        rw [cs, ct, Int.mul_zero, Int.mul_zero, Int.add_zero, Int.add_zero] at z
        exact (Int.mul_eq_zero.mp z).elim (by omega) cr
      have := Int.mul_pos h2 (sqp' k)
      omega
    · have k : ¬ (a * b - x * x) * s + (a * p - x * y) * t = 0 := fun z => by
        rw [ct, Int.mul_zero, Int.add_zero] at z
        exact (Int.mul_eq_zero.mp z).elim (by omega) cs
      have := sqp' k
      omega
  · have := Int.mul_pos ad (sqp' ct)
    omega
theorem mn_ {a x y b p c : Int} (e1 : 0 < a + b + c) (e2 : 0 < (a * b - x * x) + (a * c - y * y) + (b * c - p * p)) (m : 0 < a * b - x * x) : 0 < a := by
  refine Decidable.by_contra (fun n => ?_)
  have xx := sqp x
  have yy := sqp y
  have pp := sqp p
  have a0 : a < 0 := by
    by_cases z : a = 0
    · rw [z, Int.zero_mul] at m; omega
    · omega
  have b0 : b < 0 := Decidable.by_contra (fun q => by have := Int.mul_nonpos_of_nonpos_of_nonneg (show a ≤ 0 by omega) (show 0 ≤ b by omega); omega)
  have k1 : (-(a + b)) * (-(a + b)) ≤ (-(a + b)) * c := Int.mul_le_mul_of_nonneg_left (by omega) (by omega)
  have k2 : (-(a + b)) * c = -(a * c) - b * c := by grind
  have k3 : (-(a + b)) * (-(a + b)) = (a - b) * (a - b) + 4 * (a * b) := by grind
  have := sqp (a - b)
  omega
theorem pd_e {a x y b p c : Int} (e1 : 0 < a + b + c) (e2 : 0 < (a * b - x * x) + (a * c - y * y) + (b * c - p * p)) (e3 : 0 < d3 a x y b p c) : PD a x y b p c := by
  by_cases m1 : 0 < a * b - x * x
  · exact pd_of (mn_ e1 e2 m1) m1 e3
  · by_cases m2 : 0 < a * c - y * y
    · have ed : d3 a y x c p b = d3 a x y b p c := by unfold d3; grind
      have k := pd_of (a := a) (x := y) (y := x) (b := c) (p := p) (c := b) (mn_ (p := p) (y := x) (c := b) (by omega) (by have : c * b = b * c := Int.mul_comm _ _; omega) m2) m2 (by rw [ed]; exact e3)
      intro r s t h
      have := k r t s (fun z => h ⟨z.1, z.2.2, z.2.1⟩)
      have e : qf a y x c p b r t s = qf a x y b p c r s t := by unfold qf; grind
      omega
    · have m3 : 0 < b * c - p * p := by omega
      have ed : d3 b p x c y a = d3 a x y b p c := by unfold d3; grind
      have k := pd_of (a := b) (x := p) (y := x) (b := c) (p := y) (c := a) (mn_ (p := y) (y := x) (c := a) (by omega) (by have : b * a = a * b := Int.mul_comm _ _; have : c * a = a * c := Int.mul_comm _ _; omega) m3) m3 (by rw [ed]; exact e3)
      intro r s t h
      have := k s t r (fun z => h ⟨z.2.2, z.1, z.2.1⟩)
      have e : qf b p x c y a s t r = qf a x y b p c r s t := by unfold qf; grind
      omega
theorem pd_det {a x y b p c : Int} (h : PD a x y b p c) : ¬ d3 a x y b p c = 0 := fun z => by
  have c0 : 0 < c := by have := h 0 0 1 (by omega); unfold qf at this; omega
  have m : 0 < c * (b * c - p * p) := by
    have := h 0 c (-p) (by omega)
    have e : qf a x y b p c 0 c (-p) = c * (b * c - p * p) := by unfold qf; grind
    omega
  have m' := (pl_gt c0).mp m
  have k := h (b * c - p * p) (y * p - x * c) (x * p - y * b) (by omega)
  have e : qf a x y b p c (b * c - p * p) (y * p - x * c) (x * p - y * b) = d3 a x y b p c * (b * c - p * p) := by unfold qf d3; grind
  rw [e, z, Int.zero_mul] at k
  omega
theorem pd_add {a x y b p c a' x' y' b' p' c' u w : Int} (h : PD a x y b p c) (h' : PD a' x' y' b' p' c') (hu : 0 < u) (hw : 0 < w) : PD (a * u + a' * w) (x * u + x' * w) (y * u + y' * w) (b * u + b' * w) (p * u + p' * w) (c * u + c' * w) := fun r s t n => by
  have e : qf (a * u + a' * w) (x * u + x' * w) (y * u + y' * w) (b * u + b' * w) (p * u + p' * w) (c * u + c' * w) r s t = u * qf a x y b p c r s t + w * qf a' x' y' b' p' c' r s t := by unfold qf; grind
  have := Int.mul_pos hu (h r s t n)
  have := Int.mul_pos hw (h' r s t n)
  omega
/-- the worth, bordered by a place -/
theorem bi_ (a x y f b p g c r d k l m n : Int) : n * n * dd a x y f x b p g y p c r f g r d = (k * (a * k + x * l + y * m + f * n) + l * (x * k + b * l + p * m + g * n) + m * (y * k + p * l + c * m + r * n) + n * (f * k + g * l + r * m + d * n)) * d3 a x y b p c - adq a x y b p c (a * k + x * l + y * m + f * n) (x * k + b * l + p * m + g * n) (y * k + p * l + c * m + r * n) := by unfold dd d3 adq; grind
def adm (a x y b p c a' x' y' b' p' c' r s t : Int) : Int := (b * c' + b' * c - 2 * (p * p')) * (r * r) + 2 * (y * p' + y' * p - x * c' - x' * c) * (r * s) + 2 * (x * p' + x' * p - y * b' - y' * b) * (r * t) + (a * c' + a' * c - 2 * (y * y')) * (s * s) + 2 * (x * y' + x' * y - a * p' - a' * p) * (s * t) + (a * b' + a' * b - 2 * (x * x')) * (t * t)
theorem adq_z (a x y b p c a' x' y' b' p' c' z r s t : Int) : adq (a + z * a') (x + z * x') (y + z * y') (b + z * b') (p + z * p') (c + z * c') r s t = adq a x y b p c r s t + z * adm a x y b p c a' x' y' b' p' c' r s t + z * z * adq a' x' y' b' p' c' r s t := by unfold adq adm; grind
theorem adq_k (a x y b p c z r s t : Int) : adq a x y b p c (z * r) (z * s) (z * t) = z * z * adq a x y b p c r s t := by unfold adq; grind
theorem adm_k (a x y b p c a' x' y' b' p' c' z r s t : Int) : adm a x y b p c a' x' y' b' p' c' (z * r) (z * s) (z * t) = z * z * adm a x y b p c a' x' y' b' p' c' r s t := by unfold adm; grind
def d31 (a x y b p c a' x' y' b' p' c' : Int) : Int := a' * (b * c - p * p) + a * (b * c' + b' * c - 2 * (p * p')) - x' * (x * c - p * y) - x * (x * c' + x' * c - p * y' - p' * y) + y' * (x * p - b * y) + y * (x * p' + x' * p - b * y' - b' * y)
theorem d3_z (a x y b p c a' x' y' b' p' c' z : Int) : d3 (a + z * a') (x + z * x') (y + z * y') (b + z * b') (p + z * p') (c + z * c') = d3 a x y b p c + z * (d31 a x y b p c a' x' y' b' p' c' + z * d31 a' x' y' b' p' c' a x y b p c + z * z * d3 a' x' y' b' p' c') := by unfold d3 d31; grind
def bf (a x y b p c r s t k l m : Int) : Int := a * (r * k) + x * (r * l + s * k) + y * (r * m + t * k) + b * (s * l) + p * (s * m + t * l) + c * (t * m)
theorem adq_x (a x y b p c r s t k l m : Int) : adq a x y b p c (s * m - t * l) (t * k - r * m) (r * l - s * k) = qf a x y b p c r s t * qf a x y b p c k l m - bf a x y b p c r s t k l m * bf a x y b p c r s t k l m := by unfold adq qf bf; grind
theorem adm_x (a x y b p c a' x' y' b' p' c' r s t k l m : Int) : adm a x y b p c a' x' y' b' p' c' (s * m - t * l) (t * k - r * m) (r * l - s * k) = qf a x y b p c r s t * qf a' x' y' b' p' c' k l m + qf a' x' y' b' p' c' r s t * qf a x y b p c k l m - 2 * (bf a x y b p c r s t k l m * bf a' x' y' b' p' c' r s t k l m) := by unfold adm qf bf; grind
theorem ds_ (A B C P Q R : Int) : A * A * ((A * R + P * C - 2 * (B * Q)) * (A * R + P * C - 2 * (B * Q)) - 4 * ((A * C - B * B) * (P * R - Q * Q))) = (A * A * R - 2 * (A * (B * Q)) + B * B * P - (A * C - B * B) * P) * (A * A * R - 2 * (A * (B * Q)) + B * B * P - (A * C - B * B) * P) + 4 * ((A * C - B * B) * ((A * Q - B * P) * (A * Q - B * P))) := by grind
/-- of a place p and another, both across a: the roots are real -/
theorem dsc_ {a x y b p c a' x' y' b' p' c' r s t k l m : Int} (h : PD a' x' y' b' p' c') (n : ¬ (r = 0 ∧ s = 0 ∧ t = 0)) : 0 ≤ adm a x y b p c a' x' y' b' p' c' (s * m - t * l) (t * k - r * m) (r * l - s * k) * adm a x y b p c a' x' y' b' p' c' (s * m - t * l) (t * k - r * m) (r * l - s * k) - 4 * (adq a' x' y' b' p' c' (s * m - t * l) (t * k - r * m) (r * l - s * k) * adq a x y b p c (s * m - t * l) (t * k - r * m) (r * l - s * k)) := by
  have A := h r s t n
  have nn : 0 ≤ qf a' x' y' b' p' c' (qf a' x' y' b' p' c' r s t * k - bf a' x' y' b' p' c' r s t k l m * r) (qf a' x' y' b' p' c' r s t * l - bf a' x' y' b' p' c' r s t k l m * s) (qf a' x' y' b' p' c' r s t * m - bf a' x' y' b' p' c' r s t k l m * t) := by
    generalize qf a' x' y' b' p' c' r s t * k - bf a' x' y' b' p' c' r s t k l m * r = i1
    generalize qf a' x' y' b' p' c' r s t * l - bf a' x' y' b' p' c' r s t k l m * s = i2
    generalize qf a' x' y' b' p' c' r s t * m - bf a' x' y' b' p' c' r s t k l m * t = i3
    by_cases z : i1 = 0 ∧ i2 = 0 ∧ i3 = 0
    · obtain ⟨rfl, rfl, rfl⟩ := z
      unfold qf; omega
    · exact Int.le_of_lt (h i1 i2 i3 z)
  have en : ∀ e g : Int, qf a' x' y' b' p' c' (e * k - g * r) (e * l - g * s) (e * m - g * t) = e * e * qf a' x' y' b' p' c' k l m - 2 * (e * g * bf a' x' y' b' p' c' r s t k l m) + g * g * qf a' x' y' b' p' c' r s t := by intro e g; unfold qf bf; grind
  rw [en] at nn
  rw [adq_x, adq_x, adm_x]
  generalize qf a' x' y' b' p' c' r s t = A1 at *
  generalize qf a' x' y' b' p' c' k l m = C1 at *
  generalize bf a' x' y' b' p' c' r s t k l m = B1 at *
  generalize qf a x y b p c r s t = P1 at *
  generalize qf a x y b p c k l m = R1 at *
  generalize bf a x y b p c r s t k l m = Q1 at *
  have e1 : A1 * A1 * C1 - 2 * (A1 * B1 * B1) + B1 * B1 * A1 = A1 * (A1 * C1 - B1 * B1) := by grind
  rw [e1] at nn
  have dl := (pl_ge A).mp nn
  have key := ds_ A1 B1 C1 P1 Q1 R1
  have s1 := sqp (A1 * A1 * R1 - 2 * (A1 * (B1 * Q1)) + B1 * B1 * P1 - (A1 * C1 - B1 * B1) * P1)
  have s2 := Int.mul_nonneg dl (sqp (A1 * Q1 - B1 * P1))
  have AA := Int.mul_pos A A
  refine (pl_ge AA).mp ?_
  have e2 : P1 * C1 + A1 * R1 - 2 * (Q1 * B1) = A1 * R1 + P1 * C1 - 2 * (B1 * Q1) := by rw [Int.mul_comm Q1 B1]; omega
  rw [e2, key]
  omega
theorem dsc_a {a x y b p c a' x' y' b' p' c' r s t : Int} (h : PD a' x' y' b' p' c') : 0 ≤ adm a x y b p c a' x' y' b' p' c' r s t * adm a x y b p c a' x' y' b' p' c' r s t - 4 * (adq a' x' y' b' p' c' r s t * adq a x y b p c r s t) := by
  have go : ∀ z : Int, ¬ z = 0 → 0 ≤ adm a x y b p c a' x' y' b' p' c' (z * r) (z * s) (z * t) * adm a x y b p c a' x' y' b' p' c' (z * r) (z * s) (z * t) - 4 * (adq a' x' y' b' p' c' (z * r) (z * s) (z * t) * adq a x y b p c (z * r) (z * s) (z * t)) → 0 ≤ adm a x y b p c a' x' y' b' p' c' r s t * adm a x y b p c a' x' y' b' p' c' r s t - 4 * (adq a' x' y' b' p' c' r s t * adq a x y b p c r s t) := fun z hz q => by
    rw [adm_k, adq_k, adq_k] at q
    generalize adm a x y b p c a' x' y' b' p' c' r s t = i1 at *
    generalize adq a' x' y' b' p' c' r s t = i2 at *
    generalize adq a x y b p c r s t = i3 at *
    have e : z * z * i1 * (z * z * i1) - 4 * (z * z * i2 * (z * z * i3)) = z * z * (z * z) * (i1 * i1 - 4 * (i2 * i3)) := by grind
    rw [e] at q
    have zz := sqp' hz
    exact (pl_ge (Int.mul_pos zz zz)).mp q
  by_cases ct : t = 0
  · by_cases cs : s = 0
    · by_cases cr : r = 0
      · subst cr cs ct
        unfold adm adq; omega
      · refine go r cr ?_
        have k := dsc_ (a := a) (x := x) (y := y) (b := b) (p := p) (c := c) (r := s) (s := -r) (t := 0) (k := t) (l := 0) (m := -r) h (by omega)
        rw [show -r * -r - 0 * 0 = r * r by grind, show 0 * t - s * -r = r * s by grind, show s * 0 - -r * t = r * t by grind] at k
        exact k
    · refine go s cs ?_
      have k := dsc_ (a := a) (x := x) (y := y) (b := b) (p := p) (c := c) (r := s) (s := -r) (t := 0) (k := 0) (l := t) (m := -s) h (by omega)
      rw [show -r * -s - 0 * t = s * r by grind, show 0 * 0 - s * -s = s * s by grind, show s * t - -r * 0 = s * t by grind] at k
      exact k
  · refine go t ct ?_
    have k := dsc_ (a := a) (x := x) (y := y) (b := b) (p := p) (c := c) (r := t) (s := 0) (t := -r) (k := 0) (l := t) (m := -s) h (by omega)
    rw [show 0 * -s - -r * t = t * r by grind, show -r * 0 - t * -s = t * s by grind, show t * t - 0 * 0 = t * t by grind] at k
    exact k
