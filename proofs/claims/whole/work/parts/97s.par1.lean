/-- the slope of the form of degree m at u by w -/
def sl (f : Nat → Int) (u w : Int) : Nat → Int
  | 0 => 0
  | 1 => f 0
  | 2 => 2 * f 0 * u + f 1 * w
  | 3 => 3 * f 0 * (u * u) + 2 * f 1 * (u * w) + f 2 * (w * w)
  | _ => 4 * f 0 * (u * u * u) + 3 * f 1 * (u * u * w) + 2 * f 2 * (u * w * w) + f 3 * (w * w * w)
theorem o6_2 : Int64.ofInt 2 = 2 := rfl
theorem o6_3 : Int64.ofInt 3 = 3 := rfl
theorem o6_4 : Int64.ofInt 4 = 4 := rfl
theorem hv1 (f : Nat → Int) (u w : Int) : hv f u w 1 = f 0 * u + f 1 * w := by simp only [hv, pw, Int.one_mul]
theorem hv2 (f : Nat → Int) (u w : Int) : hv f u w 2 = f 0 * (u * u) + f 1 * (u * w) + f 2 * (w * w) := by
  simp only [hv, pw]; grind
theorem hv3 (f : Nat → Int) (u w : Int) : hv f u w 3 = f 0 * (u * u * u) + f 1 * (u * u * w) + f 2 * (u * w * w) + f 3 * (w * w * w) := by
  simp only [hv, pw]; grind
theorem hv4 (f : Nat → Int) (u w : Int) : hv f u w 4 = f 0 * (u * u * u * u) + f 1 * (u * u * u * w) + f 2 * (u * u * w * w) + f 3 * (u * w * w * w) + f 4 * (w * w * w * w) := by
  simp only [hv, pw]; grind
theorem mSp_z {f : Nat → Int64} {F : Nat → Int} {u w : Int64} {U W : Int} (hu : u = Int64.ofInt U) (hw : w = Int64.ofInt W) : ∀ {m : Nat}, m < 5 → (∀ j, j ≤ m → f j = Int64.ofInt (F j)) → mSp m f u w = Int64.ofInt (sl F U W m)
  | 0, _, h => rfl
  | 1, _, h => by
    have e : sl F U W 1 = (0 * U) + ((1 * (F 0)) * 1) := by simp only [sl]; grind
    rw [e]
    simp only [mSp, mSp1, h 0 (by omega), hu, hw, Int64.ofInt_add, Int64.ofInt_mul, o6_1, Int64.zero_mul, Int64.zero_add, Int.zero_mul, Int.zero_add]
  | 2, _, h => by
    have e : sl F U W 2 = ((((2 * (F 0)) * 1)) * U) + ((1 * (F 1)) * (1 * W)) := by simp only [sl]; grind
    rw [e]
    simp only [mSp, mSp2, h 0 (by omega), h 1 (by omega), hu, hw, Int64.ofInt_add, Int64.ofInt_mul, o6_1, o6_2, Int64.zero_mul, Int64.zero_add]
  | 3, _, h => by
    have e : sl F U W 3 = ((((((3 * (F 0)) * 1)) * U) + ((2 * (F 1)) * (1 * W))) * U) + ((1 * (F 2)) * ((1 * W) * W)) := by simp only [sl]; grind
    rw [e]
    simp only [mSp, mSp3, h 0 (by omega), h 1 (by omega), h 2 (by omega), hu, hw, Int64.ofInt_add, Int64.ofInt_mul, o6_1, o6_2, o6_3, Int64.zero_mul, Int64.zero_add]
  | 4, _, h => by
    have e : sl F U W 4 = ((((((((4 * (F 0)) * 1)) * U) + ((3 * (F 1)) * (1 * W))) * U) + ((2 * (F 2)) * ((1 * W) * W))) * U) + ((1 * (F 3)) * (((1 * W) * W) * W)) := by simp only [sl]; grind
    rw [e]
    simp only [mSp, mSp4, h 0 (by omega), h 1 (by omega), h 2 (by omega), h 3 (by omega), hu, hw, Int64.ofInt_add, Int64.ofInt_mul, o6_1, o6_2, o6_3, o6_4, Int64.zero_mul, Int64.zero_add]
/-- the slope of a product -/
theorem sl_q {u w : Int} {n : Nat} (hn : n < 4) {f g : Nat → Int} (h : isQ u w n f g) (x y : Int) : sl f x y (n + 1) = w * hv g x y n + (w * x - u * y) * sl g x y n := by
  obtain ⟨h0, hk, hl⟩ := h
  match n, hn with
  | 0, _ =>
    show f 0 = w * g 0 + (w * x - u * y) * 0
    rw [← h0]; grind
  | 1, _ =>
    have k0 : w * g 1 = f 1 + g 0 * u := hk 0 (by omega)
    rw [hv1]
    show 2 * f 0 * x + f 1 * y = w * (g 0 * x + g 1 * y) + (w * x - u * y) * g 0
    have e1 : f 1 = w * g 1 - g 0 * u := by omega
    rw [← h0, e1]; grind
  | 2, _ =>
    have k0 : w * g 1 = f 1 + g 0 * u := hk 0 (by omega)
    have k1 : w * g 2 = f 2 + g 1 * u := hk 1 (by omega)
    rw [hv2]
    show 3 * f 0 * (x * x) + 2 * f 1 * (x * y) + f 2 * (y * y) = w * (g 0 * (x * x) + g 1 * (x * y) + g 2 * (y * y)) + (w * x - u * y) * (2 * g 0 * x + g 1 * y)
    have e1 : f 1 = w * g 1 - g 0 * u := by omega
    have e2 : f 2 = w * g 2 - g 1 * u := by omega
    rw [← h0, e1, e2]; grind
  | 3, _ =>
    have k0 : w * g 1 = f 1 + g 0 * u := hk 0 (by omega)
    have k1 : w * g 2 = f 2 + g 1 * u := hk 1 (by omega)
    have k2 : w * g 3 = f 3 + g 2 * u := hk 2 (by omega)
    rw [hv3]
    show 4 * f 0 * (x * x * x) + 3 * f 1 * (x * x * y) + 2 * f 2 * (x * y * y) + f 3 * (y * y * y) = w * (g 0 * (x * x * x) + g 1 * (x * x * y) + g 2 * (x * y * y) + g 3 * (y * y * y)) + (w * x - u * y) * (3 * g 0 * (x * x) + 2 * g 1 * (x * y) + g 2 * (y * y))
    have e1 : f 1 = w * g 1 - g 0 * u := by omega
    have e2 : f 2 = w * g 2 - g 1 * u := by omega
    have e3 : f 3 = w * g 3 - g 2 * u := by omega
    rw [← h0, e1, e2, e3]; grind
def Bd : Nat → Nat
  | 0 => 14966784
  | 1 => 14966784
  | 2 => 7483392
  | 3 => 2494464
  | _ => 623616
theorem Bd_s {n : Nat} (h : n < 4) : (n + 1) * Bd (n + 1) ≤ Bd n := by
  match n, h with
  | 0, _ => decide
  | 1, _ => decide
  | 2, _ => decide
  | 3, _ => decide
theorem Bd_4 (n : Nat) : 623616 ≤ Bd n := by
  match n with
  | 0 => decide
  | 1 => decide
  | 2 => decide
  | 3 => decide
  | n + 4 => exact Nat.le_refl _
theorem Bd_0 (n : Nat) : Bd n ≤ 14966784 := by
  match n with
  | 0 => decide
  | 1 => decide
  | 2 => decide
  | 3 => decide
  | n + 4 => show 623616 ≤ 14966784; decide
theorem hv_bd {f : Nat → Int} {u w : Int} (hu : u.natAbs ≤ 1000) (hw : w.natAbs ≤ 1000) {n : Nat} (hn : n < 5) (h : ∀ j, j ≤ n → (f j).natAbs ≤ Bd n) : (hv f u w n).natAbs < 9223372036854775808 := by
  have b := hv_b hu hw n h
  refine Nat.lt_of_le_of_lt b ?_
  match n, hn with
  | 0, _ => decide
  | 1, _ => decide
  | 2, _ => decide
  | 3, _ => decide
  | 4, _ => decide
theorem sl_bd {f : Nat → Int} {u w : Int} (hu : u.natAbs ≤ 1000) (hw : w.natAbs ≤ 1000) {n : Nat} (hn : n < 5) (h : ∀ j, j ≤ n → (f j).natAbs ≤ Bd n) : (sl f u w n).natAbs < 9223372036854775808 := by
  match n, hn with
  | 0, _ => show (0 : Int).natAbs < _; decide
  | 1, _ => have := h 0 (by omega); have : Bd 1 = 14966784 := rfl; show (f 0).natAbs < _; omega
  | 2, _ =>
    have q := na_ (nm_ (nm_ (show (2 : Int).natAbs ≤ 2 by decide) (h 0 (by omega))) hu) (nm_ (h 1 (by omega)) hw)
    exact Nat.lt_of_le_of_lt q (by decide)
  | 3, _ =>
    have q := na_ (na_ (nm_ (nm_ (show (3 : Int).natAbs ≤ 3 by decide) (h 0 (by omega))) (nm_ hu hu)) (nm_ (nm_ (show (2 : Int).natAbs ≤ 2 by decide) (h 1 (by omega))) (nm_ hu hw))) (nm_ (h 2 (by omega)) (nm_ hw hw))
    exact Nat.lt_of_le_of_lt q (by decide)
  | 4, _ =>
    have q := na_ (na_ (na_ (nm_ (nm_ (show (4 : Int).natAbs ≤ 4 by decide) (h 0 (by omega))) (nm_ (nm_ hu hu) hu)) (nm_ (nm_ (show (3 : Int).natAbs ≤ 3 by decide) (h 1 (by omega))) (nm_ (nm_ hu hu) hw))) (nm_ (nm_ (show (2 : Int).natAbs ≤ 2 by decide) (h 2 (by omega))) (nm_ (nm_ hu hw) hw))) (nm_ (h 3 (by omega)) (nm_ (nm_ hw hw) hw))
    exact Nat.lt_of_le_of_lt q (by decide)
/-- a fraction that may be taken out -/
def Fr (U : Int) (W : Nat) : Prop := 1 ≤ W ∧ W ≤ 1000 ∧ U.natAbs ≤ 1000 ∧ Nat.gcd U.natAbs W = 1
theorem mDq_v {f : Nat → Int64} {F : Nat → Int} {W : Nat} {U : Int} {B : Nat} (hF : Fr U W) (hB : B ≤ 15000000) {n : Nat} (hf : ∀ j, j ≤ n + 1 → f j = Int64.ofInt (F j)) (hb : ∀ j, j ≤ n + 1 → (F j).natAbs ≤ B) (hg : ∀ j, j ≤ n → (dq U W j 0 F).natAbs ≤ B) (q : isQ U W n F (fun k => dq U W k 0 F)) : ∀ k, k ≤ n → mDq f (Int64.ofInt U) (lN W) k = Int64.ofInt (dq U W k 0 F)
  | 0, hk => by
    have hF' := hF
    unfold Fr at hF'
    show (f 0 + 0) / lN W = _
    have e : (W : Int) * dq U W 0 0 F = F 0 := q.1
    have := hb 0 (by omega)
    rw [Int64.add_zero, hf 0 (by omega), ← e]
    exact dv_ (by omega) (by omega) (by omega)
  | k + 1, hk => by
    have hF' := hF
    unfold Fr at hF'
    have i := mDq_v hF hB hf hb hg q k (by omega)
    have e : (W : Int) * dq U W (k + 1) 0 F = F (k + 1) + dq U W k 0 F * U := q.2.1 k (by omega)
    show (f (k + 1) + mDq f (Int64.ofInt U) (lN W) k * Int64.ofInt U) / lN W = _
    have h1 := hb (k + 1) (by omega)
    have h2 := nm_ (hg k (by omega)) hF.2.2.1
    have h3 := na_ h1 h2
    rw [i, hf (k + 1) (by omega), ← Int64.ofInt_mul, ← Int64.ofInt_add, ← e]
    refine dv_ (by omega) (by omega) ?_
    rw [e]
    omega
/-- a root taken out as often as it goes, in the reference and over the ints -/
theorem mTk_v {W : Nat} {U : Int} (hF : Fr U W) : ∀ (m : Nat) {f : Nat → Int64} {F : Nat → Int}, m ≤ 4 → (∀ j, j ≤ m → f j = Int64.ofInt (F j)) → (∀ j, j ≤ m → (F j).natAbs ≤ Bd m) → (mTk (Int64.ofInt U) (lN W) m f).1 = (zTk U W m F).1 ∧ (∀ j, j ≤ (zTk U W m F).1 → (mTk (Int64.ofInt U) (lN W) m f).2 j = Int64.ofInt ((zTk U W m F).2 j)) ∧ ∀ j, j ≤ (zTk U W m F).1 → ((zTk U W m F).2 j).natAbs ≤ Bd (zTk U W m F).1
  | 0, f, F, _, hf, hb => ⟨rfl, hf, hb⟩
  | m + 1, f, F, hm, hf, hb => by
    have hF' := hF
    unfold Fr at hF'
    have hw0 : (W : Int) ≠ 0 := by omega
    have lw : lN W = Int64.ofInt (W : Int) := rfl
    have e := mAt_z (u := Int64.ofInt U) (w := lN W) rfl lw (m := m + 1) (by omega) hf
    have vb2 := hv_bd (u := U) (w := (W : Int)) (by omega) (by omega) (n := m + 1) (by omega) hb
    by_cases c : hv F U W (m + 1) = 0
    · have c' : mAt (m + 1) f (Int64.ofInt U) (lN W) = 0 := by rw [e, c]; rfl
      have q := isQ_d hw0 (by rw [Int.natAbs_natCast]; exact hF'.2.2.2) c
      have gb := dq_b (u := U) (w := (W : Int)) (g := fun k => dq U W k 0 F) (by rw [Int.natAbs_natCast]; omega) hb q.1 q.2.1 q.2.2
      have bs := Bd_s (n := m) (by omega)
      have b0 := Bd_0 m
      have b1 : Bd (m + 1) ≤ Bd m := Nat.le_trans (Nat.le_mul_of_pos_left _ (by omega)) bs
      rw [mTk_y c', zTk_y c]
      refine mTk_v hF m (by omega) (fun j hj => ?_) (fun j hj => ?_)
      · rw [if_pos (by omega), if_pos (by omega)]
        exact mDq_v (B := Bd m) hF (by omega) hf (fun j hj => by have := hb j hj; omega) (fun j hj => by have : (dq U W j 0 F).natAbs ≤ (m + 1) * Bd (m + 1) := gb j hj; omega) q j (by omega)
      · rw [if_pos (by omega)]
        have : (dq U W j 0 F).natAbs ≤ (m + 1) * Bd (m + 1) := gb j (by omega)
        omega
    · have c' : ¬ mAt (m + 1) f (Int64.ofInt U) (lN W) = 0 := by
        rw [e, o6_0 vb2]; exact c
      rw [mTk_n c', zTk_n c]
      exact ⟨rfl, hf, hb⟩
/-- f is the t-th power of w x - u times g, which has degree m -/
def Fc (u w : Int) : Nat → Nat → (Nat → Int) → (Nat → Int) → Prop
  | 0, m, f, g => ∀ j, j ≤ m → f j = g j
  | t + 1, m, f, g => ∃ h, isQ u w (m + t) f h ∧ Fc u w t m h g
theorem zTk_f {u w : Int} (hw : w ≠ 0) (hc : Nat.gcd u.natAbs w.natAbs = 1) : ∀ (m : Nat) (f : Nat → Int), Fc u w (m - (zTk u w m f).1) (zTk u w m f).1 f (zTk u w m f).2 ∧ ((zTk u w m f).1 = 0 ∨ ¬ hv (zTk u w m f).2 u w (zTk u w m f).1 = 0)
  | 0, f => ⟨fun j _ => rfl, Or.inl rfl⟩
  | m + 1, f => by
    by_cases c : hv f u w (m + 1) = 0
    · rw [zTk_y c]
      obtain ⟨i1, i2⟩ := zTk_f hw hc m (fun j => if j < m + 1 then dq u w j 0 f else f j)
      have le := zTk_le u w m (fun j => if j < m + 1 then dq u w j 0 f else f j)
      refine ⟨?_, i2⟩
      rw [show m + 1 - (zTk u w m (fun j => if j < m + 1 then dq u w j 0 f else f j)).1 = m - (zTk u w m (fun j => if j < m + 1 then dq u w j 0 f else f j)).1 + 1 by omega]
      refine ⟨_, ?_, i1⟩
      rw [show (zTk u w m (fun j => if j < m + 1 then dq u w j 0 f else f j)).1 + (m - (zTk u w m (fun j => if j < m + 1 then dq u w j 0 f else f j)).1) = m by omega]
      exact isQ_c (isQ_d hw hc c) (fun k hk => by rw [if_pos (by omega)])
    · rw [zTk_n c]
      rw [Nat.sub_self]
      exact ⟨fun j _ => rfl, Or.inr c⟩
theorem isQ_0 {u w : Int} (hw : w ≠ 0) {n : Nat} {f g : Nat → Int} (h : isQ u w n f g) (h0 : ¬ f 0 = 0) : ¬ g 0 = 0 := fun z => h0 (by rw [← h.1, z, Int.mul_zero])
theorem Fc_0 {u w : Int} (hw : w ≠ 0) : ∀ (t m : Nat) (f g : Nat → Int), Fc u w t m f g → ¬ f 0 = 0 → ¬ g 0 = 0
  | 0, m, f, g, h, h0 => by rw [← h 0 (by omega)]; exact h0
  | t + 1, m, f, g, ⟨k, h1, h2⟩, h0 => Fc_0 hw t m k g h2 (isQ_0 hw h1 h0)
/-- roots that count twice -/
def ND (u w : Int) (m : Nat) (f : Nat → Int) : Prop := 1 < m → ¬ (hv f u w m = 0 ∧ sl f u w m = 0)
theorem D_q {u w : Int} {n : Nat} (hn : n < 4) {f g : Nat → Int} (h : isQ u w n f g) {x y : Int} (d : hv g x y n = 0 ∧ sl g x y n = 0) : hv f x y (n + 1) = 0 ∧ sl f x y (n + 1) = 0 :=
  ⟨by rw [hv_f h, d.1, Int.mul_zero], by rw [sl_q hn h, d.1, d.2, Int.mul_zero, Int.mul_zero, Int.add_zero]⟩
theorem hv_j {f g : Nat → Int} {m : Nat} (hm : m < 5) (h : ∀ j, j ≤ m → f j = g j) (x y : Int) : hv f x y m = hv g x y m ∧ sl f x y m = sl g x y m := by
  refine ⟨hv_c x y m h, ?_⟩
  match m, hm with
  | 0, _ => rfl
  | 1, _ => exact h 0 (by omega)
  | 2, _ => simp only [sl]; rw [h 0 (by omega), h 1 (by omega)]
  | 3, _ => simp only [sl]; rw [h 0 (by omega), h 1 (by omega), h 2 (by omega)]
  | 4, _ => simp only [sl]; rw [h 0 (by omega), h 1 (by omega), h 2 (by omega), h 3 (by omega)]
theorem D_c {u w : Int} : ∀ (t m : Nat) (f g : Nat → Int), m + t < 5 → Fc u w t m f g → ∀ {x y : Int}, hv g x y m = 0 ∧ sl g x y m = 0 → hv f x y (m + t) = 0 ∧ sl f x y (m + t) = 0
  | 0, m, f, g, hm, h, x, y, d => by
    have e := hv_j (by omega) h x y
    rw [Nat.add_zero, e.1, e.2]; exact d
  | t + 1, m, f, g, hm, ⟨k, h1, h2⟩, x, y, d => D_q (by omega) h1 (D_c t m k g (by omega) h2 d)
theorem ND_c {u w : Int} {t m : Nat} {f g : Nat → Int} (hm : m + t < 5) (h : Fc u w t m f g) {x y : Int} (d : ND x y (m + t) f) : ND x y m g := fun h1 q => d (by omega) (D_c t m f g hm h q)
