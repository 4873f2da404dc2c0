def pw (w : Int) : Nat → Int
  | 0 => 1
  | n + 1 => pw w n * w
/-- the value of the form of degree n at u by w -/
def hv (f : Nat → Int) (u w : Int) : Nat → Int
  | 0 => f 0
  | n + 1 => hv f u w n * u + f (n + 1) * pw w (n + 1)
def shf (f : Nat → Int) : Nat → Int := fun k => f (k + 1)
theorem o6_1 : Int64.ofInt 1 = 1 := rfl
theorem mAt_z {f : Nat → Int64} {F : Nat → Int} {u w : Int64} {U W : Int} (hu : u = Int64.ofInt U) (hw : w = Int64.ofInt W) : ∀ {m : Nat}, m < 5 → (∀ j, j ≤ m → f j = Int64.ofInt (F j)) → mAt m f u w = Int64.ofInt (hv F U W m)
  | 0, _, h => by simp only [mAt, mAt0, hv, h 0 (by omega), Int64.zero_mul, Int64.zero_add, Int64.mul_one]
  | 1, _, h => by simp only [mAt, mAt1, hv, pw, h 0 (by omega), h 1 (by omega), hu, hw, Int64.zero_mul, Int64.zero_add, Int64.mul_one, Int64.one_mul, Int64.ofInt_add, Int64.ofInt_mul, o6_1]
  | 2, _, h => by simp only [mAt, mAt2, hv, pw, h 0 (by omega), h 1 (by omega), h 2 (by omega), hu, hw, Int64.zero_mul, Int64.zero_add, Int64.mul_one, Int64.one_mul, Int64.ofInt_add, Int64.ofInt_mul, o6_1]
  | 3, _, h => by simp only [mAt, mAt3, hv, pw, h 0 (by omega), h 1 (by omega), h 2 (by omega), h 3 (by omega), hu, hw, Int64.zero_mul, Int64.zero_add, Int64.mul_one, Int64.one_mul, Int64.ofInt_add, Int64.ofInt_mul, o6_1]
  | 4, _, h => by simp only [mAt, mAt4, hv, pw, h 0 (by omega), h 1 (by omega), h 2 (by omega), h 3 (by omega), h 4 (by omega), hu, hw, Int64.zero_mul, Int64.zero_add, Int64.mul_one, Int64.one_mul, Int64.ofInt_add, Int64.ofInt_mul, o6_1]
theorem hv_c {f f' : Nat → Int} (u w : Int) : ∀ n, (∀ j, j ≤ n → f j = f' j) → hv f u w n = hv f' u w n
  | 0, h => h 0 (Nat.le_refl _)
  | n + 1, h => by unfold hv; rw [hv_c u w n (fun j hj => h j (by omega)), h (n + 1) (Nat.le_refl _)]
theorem hv_s (f : Nat → Int) (u w : Int) : ∀ n, hv f u w (n + 1) = f 0 * pw u (n + 1) + w * hv (shf f) u w n
  | 0 => by
    show f 0 * u + f 1 * (1 * w) = f 0 * (1 * u) + w * f 1
    grind
  | n + 1 => by
    have ih := hv_s f u w n
    have e1 : hv f u w (n + 2) = hv f u w (n + 1) * u + f (n + 2) * pw w (n + 2) := rfl
    have e2 : hv (shf f) u w (n + 1) = hv (shf f) u w n * u + f (n + 2) * pw w (n + 1) := rfl
    have e3 : pw w (n + 2) = pw w (n + 1) * w := rfl
    have e4 : pw u (n + 2) = pw u (n + 1) * u := rfl
    rw [e1, e2, e3, e4, ih]
    generalize pw w (n + 1) = a
    generalize pw u (n + 1) = b
    generalize hv (shf f) u w n = c
    generalize f (n + 2) = d
    generalize f 0 = e
    grind
/-- the quotient by w t - u, place by place, with what is carried -/
def dq (u w : Int) : Nat → Int → (Nat → Int) → Int
  | 0, c, f => (f 0 + c) / w
  | k + 1, c, f => dq u w k ((f 0 + c) / w * u) (shf f)
theorem dq_s (u w : Int) : ∀ k c f, dq u w (k + 1) c f = (f (k + 1) + dq u w k c f * u) / w
  | 0, c, f => rfl
  | k + 1, c, f => by
    have := dq_s u w k ((f 0 + c) / w * u) (shf f)
    exact this
theorem pw_abs (u : Int) : ∀ n, (pw u n).natAbs = u.natAbs ^ n
  | 0 => rfl
  | n + 1 => by unfold pw; rw [Int.natAbs_mul, pw_abs u n, Nat.pow_succ]
theorem cop_d {u w x : Int} (hc : Nat.gcd u.natAbs w.natAbs = 1) (n : Nat) (h : w ∣ x * pw u n) : w ∣ x := by
  have h' := Int.natAbs_dvd_natAbs.mpr h
  rw [Int.natAbs_mul, pw_abs] at h'
  have c : Nat.Coprime w.natAbs (u.natAbs ^ n) := Nat.Coprime.pow_right n (by rw [Nat.gcd_comm] at hc; exact hc)
  exact Int.natAbs_dvd_natAbs.mp (c.dvd_of_dvd_mul_right h')
theorem mz_ {w x : Int} (hw : w ≠ 0) (h : w * x = 0) : x = 0 := (Int.mul_eq_zero.mp h).elim (fun z => absurd z hw) id
theorem dv_e {w x : Int} (h : w ∣ x) : w * (x / w) = x := Int.mul_ediv_cancel' h
theorem ng0 {a b : Int} (h : a + b = 0) : a = -b := by omega
theorem dq_ok {u w : Int} (hw : w ≠ 0) (hc : Nat.gcd u.natAbs w.natAbs = 1) : ∀ (n : Nat) (c : Int) (f : Nat → Int), (f 0 + c) * pw u (n + 1) + w * hv (shf f) u w n = 0 → w * dq u w 0 c f = f 0 + c ∧ (∀ k, k < n → w * dq u w (k + 1) c f = f (k + 1) + dq u w k c f * u) ∧ f (n + 1) + dq u w n c f * u = 0
  | 0, c, f, h => by
    have hd : w ∣ f 0 + c := cop_d hc 1 ⟨-hv (shf f) u w 0, by rw [Int.mul_neg]; exact ng0 h⟩
    have e : w * dq u w 0 c f = f 0 + c := dv_e hd
    refine ⟨e, fun k hk => absurd hk (by omega), mz_ hw ?_⟩
    have h : (f 0 + c) * (1 * u) + w * f 1 = 0 := h
    rw [← e] at h
    show w * (f 1 + dq u w 0 c f * u) = 0
    generalize dq u w 0 c f = g at h ⊢
    rw [← h]; grind
  | n + 1, c, f, h => by
    have hd : w ∣ f 0 + c := cop_d hc (n + 2) ⟨-hv (shf f) u w (n + 1), by rw [Int.mul_neg]; exact ng0 h⟩
    have e : w * dq u w 0 c f = f 0 + c := dv_e hd
    have e0 : dq u w 0 c f = (f 0 + c) / w := rfl
    have h2 : (shf f 0 + dq u w 0 c f * u) * pw u (n + 1) + w * hv (shf (shf f)) u w n = 0 := by
      refine mz_ hw ?_
      rw [← e, hv_s] at h
      have ep : pw u (n + 2) = pw u (n + 1) * u := rfl
      rw [ep] at h
      rw [← h]
      generalize pw u (n + 1) = a
      generalize dq u w 0 c f = g
      generalize hv (shf (shf f)) u w n = b
      generalize shf f 0 = d
      grind
    obtain ⟨i1, i2, i3⟩ := dq_ok hw hc n (dq u w 0 c f * u) (shf f) h2
    refine ⟨e, fun k hk => ?_, i3⟩
    match k, hk with
    | 0, _ => exact i1
    | k + 1, hk => exact i2 k (by omega)
theorem st_1 {w a b B u : Nat} (hw : 1 ≤ w) (h : w * a ≤ B + u * b) (hu : u ≤ w) : a ≤ B + b := by
  refine Decidable.by_contra (fun q => ?_)
  have q1 : w * (B + b + 1) ≤ w * a := Nat.mul_le_mul_left w (by omega)
  have q2 : u * b ≤ w * b := Nat.mul_le_mul_right b hu
  have q3 : 1 * B ≤ w * B := Nat.mul_le_mul_right B hw
  rw [Nat.mul_add, Nat.mul_add] at q1
  omega
/-- the numbers of a quotient stay small -/
theorem dq_b {u w : Int} {n B : Nat} {f g : Nat → Int} (hw : 1 ≤ w.natAbs) (hB : ∀ j, j ≤ n + 1 → (f j).natAbs ≤ B) (h0 : w * g 0 = f 0) (hk : ∀ k, k < n → w * g (k + 1) = f (k + 1) + g k * u) (hn : f (n + 1) + g n * u = 0) : ∀ k, k ≤ n → (g k).natAbs ≤ (n + 1) * B := by
  by_cases c : u.natAbs ≤ w.natAbs
  · have s : ∀ k, k ≤ n → (g k).natAbs ≤ (k + 1) * B := by
      intro k
      induction k with
      | zero =>
        intro _
        have e := congrArg Int.natAbs h0
        rw [Int.natAbs_mul] at e
        have := hB 0 (by omega)
        have := st_1 (a := (g 0).natAbs) (b := 0) (u := 0) (B := B) hw (by omega) (by omega)
        omega
      | succ k ih =>
        intro hk'
        have e := congrArg Int.natAbs (hk k (by omega))
        rw [Int.natAbs_mul] at e
        have e2 := Int.natAbs_add_le (f (k + 1)) (g k * u)
        rw [Int.natAbs_mul, Nat.mul_comm (g k).natAbs] at e2
        have := hB (k + 1) (by omega)
        have := st_1 (a := (g (k + 1)).natAbs) (b := (g k).natAbs) (u := u.natAbs) (B := B) hw (by omega) c
        have := ih (by omega)
        have e3 : (k + 1 + 1) * B = (k + 1) * B + B := by rw [Nat.add_mul (k + 1) 1 B]; omega
        omega
    intro k hk'
    exact Nat.le_trans (s k hk') (Nat.mul_le_mul_right B (by omega))
  · have c : w.natAbs ≤ u.natAbs := by omega
    have s : ∀ d k, k + d = n → (g k).natAbs ≤ (d + 1) * B := by
      intro d
      induction d with
      | zero =>
        intro k hk'
        obtain rfl : k = n := by omega
        have e : (f (k + 1)).natAbs = (g k * u).natAbs := by
          have : f (k + 1) = -(g k * u) := by omega
          rw [this, Int.natAbs_neg]
        rw [Int.natAbs_mul, Nat.mul_comm] at e
        have := hB (k + 1) (by omega)
        have := st_1 (w := u.natAbs) (a := (g k).natAbs) (b := 0) (u := 0) (B := B) (by omega) (by omega) (by omega)
        omega
      | succ d ih =>
        intro k hk'
        have e : (g k * u).natAbs = (w * g (k + 1) - f (k + 1)).natAbs := by rw [hk k (by omega)]; congr 1; omega
        have e2 := Int.natAbs_sub_le (w * g (k + 1)) (f (k + 1))
        rw [Int.natAbs_mul, Nat.mul_comm] at e
        rw [Int.natAbs_mul] at e2
        have := hB (k + 1) (by omega)
        have := st_1 (w := u.natAbs) (a := (g k).natAbs) (b := (g (k + 1)).natAbs) (u := w.natAbs) (B := B) (by omega) (by omega) c
        have := ih (k + 1) (by omega)
        have e3 : (d + 1 + 1) * B = (d + 1) * B + B := by rw [Nat.add_mul (d + 1) 1 B]; omega
        omega
    intro k hk'
    exact Nat.le_trans (s (n - k) k (by omega)) (Nat.mul_le_mul_right B (by omega))
