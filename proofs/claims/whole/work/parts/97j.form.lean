def dd (x0 x1 x2 x3 x4 x5 x6 x7 x8 x9 x10 x11 x12 x13 x14 x15 : Int) : Int := ((x0 * ((x5 * (x10 * x15 - x11 * x14) - x6 * (x9 * x15 - x11 * x13)) + x7 * (x9 * x14 - x10 * x13)) + (-x1) * ((x4 * (x10 * x15 - x11 * x14) - x6 * (x8 * x15 - x11 * x12)) + x7 * (x8 * x14 - x10 * x12))) + x2 * ((x4 * (x9 * x15 - x11 * x13) - x5 * (x8 * x15 - x11 * x12)) + x7 * (x8 * x13 - x9 * x12))) + (-x3) * ((x4 * (x9 * x14 - x10 * x13) - x5 * (x8 * x14 - x10 * x12)) + x6 * (x8 * x13 - x9 * x12))
def zW (t : Nat → Int) : Int := dd (t 0) (t 1) (t 2) (t 3) (t 4) (t 5) (t 6) (t 7) (t 8) (t 9) (t 10) (t 11) (t 12) (t 13) (t 14) (t 15)
theorem dd_p (x0 x1 x2 x3 x4 x5 x6 x7 x8 x9 x10 x11 x12 x13 x14 x15 : Int) : ((((((x0 * x5 - x1 * x4) * (x10 * x15 - x11 * x14) - (x0 * x6 - x2 * x4) * (x9 * x15 - x11 * x13)) + (x0 * x7 - x3 * x4) * (x9 * x14 - x10 * x13)) + (x1 * x6 - x2 * x5) * (x8 * x15 - x11 * x12)) - (x1 * x7 - x3 * x5) * (x8 * x14 - x10 * x12)) + (x2 * x7 - x3 * x6) * (x8 * x13 - x9 * x12)) = dd x0 x1 x2 x3 x4 x5 x6 x7 x8 x9 x10 x11 x12 x13 x14 x15 := by unfold dd; grind
theorem mW_z {t : Nat → Int64} {w : Nat → Int} (h : ∀ j, j < 16 → t j = Int64.ofInt (w j)) : mW t = Int64.ofInt (zW w) := by
  unfold mW
  rw [h 0 (by omega), h 1 (by omega), h 2 (by omega), h 3 (by omega), h 4 (by omega), h 5 (by omega), h 6 (by omega), h 7 (by omega), h 8 (by omega), h 9 (by omega), h 10 (by omega), h 11 (by omega), h 12 (by omega), h 13 (by omega), h 14 (by omega), h 15 (by omega)]
  simp only [zW, dd, Int64.ofInt_add, Int64.ofInt_sub, Int64.ofInt_mul, Int64.ofInt_neg, Int64.zero_add]
theorem cW_z {t : Nat → Int64} {w : Nat → Int} (h : ∀ j, j < 16 → t j = Int64.ofInt (w j)) : cW t = Int64.ofInt (zW w) := by
  unfold zW
  rw [← dd_p]
  show (((((((t 0) * (t 5) - (t 1) * (t 4)) * ((t 10) * (t 15) - (t 11) * (t 14)) - ((t 0) * (t 6) - (t 2) * (t 4)) * ((t 9) * (t 15) - (t 11) * (t 13))) + ((t 0) * (t 7) - (t 3) * (t 4)) * ((t 9) * (t 14) - (t 10) * (t 13))) + ((t 1) * (t 6) - (t 2) * (t 5)) * ((t 8) * (t 15) - (t 11) * (t 12))) - ((t 1) * (t 7) - (t 3) * (t 5)) * ((t 8) * (t 14) - (t 10) * (t 12))) + ((t 2) * (t 7) - (t 3) * (t 6)) * ((t 8) * (t 13) - (t 9) * (t 12))) = _
  rw [h 0 (by omega), h 1 (by omega), h 2 (by omega), h 3 (by omega), h 4 (by omega), h 5 (by omega), h 6 (by omega), h 7 (by omega), h 8 (by omega), h 9 (by omega), h 10 (by omega), h 11 (by omega), h 12 (by omega), h 13 (by omega), h 14 (by omega), h 15 (by omega)]
  simp only [Int64.ofInt_add, Int64.ofInt_sub, Int64.ofInt_mul]
theorem dd_0 (x4 x5 x6 x7 x8 x9 x10 x11 x12 x13 x14 x15 y0 y1 y2 y3 z0 z1 z2 z3 m q : Int) : dd (y0 * m + z0 * q) (y1 * m + z1 * q) (y2 * m + z2 * q) (y3 * m + z3 * q) x4 x5 x6 x7 x8 x9 x10 x11 x12 x13 x14 x15 = m * dd y0 y1 y2 y3 x4 x5 x6 x7 x8 x9 x10 x11 x12 x13 x14 x15 + q * dd z0 z1 z2 z3 x4 x5 x6 x7 x8 x9 x10 x11 x12 x13 x14 x15 := by unfold dd; grind
theorem dd_1 (x0 x1 x2 x3 x8 x9 x10 x11 x12 x13 x14 x15 y0 y1 y2 y3 z0 z1 z2 z3 m q : Int) : dd x0 x1 x2 x3 (y0 * m + z0 * q) (y1 * m + z1 * q) (y2 * m + z2 * q) (y3 * m + z3 * q) x8 x9 x10 x11 x12 x13 x14 x15 = m * dd x0 x1 x2 x3 y0 y1 y2 y3 x8 x9 x10 x11 x12 x13 x14 x15 + q * dd x0 x1 x2 x3 z0 z1 z2 z3 x8 x9 x10 x11 x12 x13 x14 x15 := by unfold dd; grind
theorem dd_2 (x0 x1 x2 x3 x4 x5 x6 x7 x12 x13 x14 x15 y0 y1 y2 y3 z0 z1 z2 z3 m q : Int) : dd x0 x1 x2 x3 x4 x5 x6 x7 (y0 * m + z0 * q) (y1 * m + z1 * q) (y2 * m + z2 * q) (y3 * m + z3 * q) x12 x13 x14 x15 = m * dd x0 x1 x2 x3 x4 x5 x6 x7 y0 y1 y2 y3 x12 x13 x14 x15 + q * dd x0 x1 x2 x3 x4 x5 x6 x7 z0 z1 z2 z3 x12 x13 x14 x15 := by unfold dd; grind
theorem dd_3 (x0 x1 x2 x3 x4 x5 x6 x7 x8 x9 x10 x11 y0 y1 y2 y3 z0 z1 z2 z3 m q : Int) : dd x0 x1 x2 x3 x4 x5 x6 x7 x8 x9 x10 x11 (y0 * m + z0 * q) (y1 * m + z1 * q) (y2 * m + z2 * q) (y3 * m + z3 * q) = m * dd x0 x1 x2 x3 x4 x5 x6 x7 x8 x9 x10 x11 y0 y1 y2 y3 + q * dd x0 x1 x2 x3 x4 x5 x6 x7 x8 x9 x10 x11 z0 z1 z2 z3 := by unfold dd; grind
def zSel (s : Nat) (A B : Nat → Int) (k : Nat) : Int := if s / 2 ^ (k / 4) % 2 = 1 then A k else B k
def zF (A B : Nat → Int) : Nat → Int
  | 0 => zW (zSel 15 A B)
  | 1 => zW (zSel 7 A B) + zW (zSel 11 A B) + zW (zSel 13 A B) + zW (zSel 14 A B)
  | 2 => zW (zSel 3 A B) + zW (zSel 5 A B) + zW (zSel 6 A B) + zW (zSel 9 A B) + zW (zSel 10 A B) + zW (zSel 12 A B)
  | 3 => zW (zSel 1 A B) + zW (zSel 2 A B) + zW (zSel 4 A B) + zW (zSel 8 A B)
  | _ => zW (zSel 0 A B)
theorem zSel_o (s : Nat) (a b : Nat → Int32) (k : Nat) : mSel s a b k = Int64.ofInt (zSel s (pz a) (pz b) k) := by
  unfold mSel zSel pz
  split
  · exact i2l_o _
  · exact i2l_o _
theorem mFm_o (a b : Nat → Int32) : ∀ j, mFm a b j = Int64.ofInt (zF (pz a) (pz b) j) := fun j => by
  have q : ∀ s, mW (mSel s a b) = Int64.ofInt (zW (zSel s (pz a) (pz b))) := fun s => mW_z (fun k _ => zSel_o s a b k)
  match j with
  | 0 => show (0 + mW (mSel 15 a b)) = _; rw [q 15, Int64.zero_add]; simp only [zF, Int64.ofInt_add]
  | 1 => show ((((0 + mW (mSel 7 a b)) + mW (mSel 11 a b)) + mW (mSel 13 a b)) + mW (mSel 14 a b)) = _; rw [q 7, q 11, q 13, q 14, Int64.zero_add]; simp only [zF, Int64.ofInt_add]
  | 2 => show ((((((0 + mW (mSel 3 a b)) + mW (mSel 5 a b)) + mW (mSel 6 a b)) + mW (mSel 9 a b)) + mW (mSel 10 a b)) + mW (mSel 12 a b)) = _; rw [q 3, q 5, q 6, q 9, q 10, q 12, Int64.zero_add]; simp only [zF, Int64.ofInt_add]
  | 3 => show ((((0 + mW (mSel 1 a b)) + mW (mSel 2 a b)) + mW (mSel 4 a b)) + mW (mSel 8 a b)) = _; rw [q 1, q 2, q 4, q 8, Int64.zero_add]; simp only [zF, Int64.ofInt_add]
  | j + 4 => show (0 + mW (mSel 0 a b)) = _; rw [q 0, Int64.zero_add]; simp only [zF, Int64.ofInt_add]
theorem zF_w (A B : Nat → Int) (m q : Int) : zW (fun j => A j * m + B j * q) = zF A B 0 * (m * m * m * m) + zF A B 1 * (m * m * m * q) + zF A B 2 * (m * m * q * q) + zF A B 3 * (m * q * q * q) + zF A B 4 * (q * q * q * q) := by
  show dd (A 0 * m + B 0 * q) (A 1 * m + B 1 * q) (A 2 * m + B 2 * q) (A 3 * m + B 3 * q) (A 4 * m + B 4 * q) (A 5 * m + B 5 * q) (A 6 * m + B 6 * q) (A 7 * m + B 7 * q) (A 8 * m + B 8 * q) (A 9 * m + B 9 * q) (A 10 * m + B 10 * q) (A 11 * m + B 11 * q) (A 12 * m + B 12 * q) (A 13 * m + B 13 * q) (A 14 * m + B 14 * q) (A 15 * m + B 15 * q) = (dd (A 0) (A 1) (A 2) (A 3) (A 4) (A 5) (A 6) (A 7) (A 8) (A 9) (A 10) (A 11) (A 12) (A 13) (A 14) (A 15)) * (m * m * m * m) + (dd (A 0) (A 1) (A 2) (A 3) (A 4) (A 5) (A 6) (A 7) (A 8) (A 9) (A 10) (A 11) (B 12) (B 13) (B 14) (B 15) + dd (A 0) (A 1) (A 2) (A 3) (A 4) (A 5) (A 6) (A 7) (B 8) (B 9) (B 10) (B 11) (A 12) (A 13) (A 14) (A 15) + dd (A 0) (A 1) (A 2) (A 3) (B 4) (B 5) (B 6) (B 7) (A 8) (A 9) (A 10) (A 11) (A 12) (A 13) (A 14) (A 15) + dd (B 0) (B 1) (B 2) (B 3) (A 4) (A 5) (A 6) (A 7) (A 8) (A 9) (A 10) (A 11) (A 12) (A 13) (A 14) (A 15)) * (m * m * m * q) + (dd (A 0) (A 1) (A 2) (A 3) (A 4) (A 5) (A 6) (A 7) (B 8) (B 9) (B 10) (B 11) (B 12) (B 13) (B 14) (B 15) + dd (A 0) (A 1) (A 2) (A 3) (B 4) (B 5) (B 6) (B 7) (A 8) (A 9) (A 10) (A 11) (B 12) (B 13) (B 14) (B 15) + dd (B 0) (B 1) (B 2) (B 3) (A 4) (A 5) (A 6) (A 7) (A 8) (A 9) (A 10) (A 11) (B 12) (B 13) (B 14) (B 15) + dd (A 0) (A 1) (A 2) (A 3) (B 4) (B 5) (B 6) (B 7) (B 8) (B 9) (B 10) (B 11) (A 12) (A 13) (A 14) (A 15) + dd (B 0) (B 1) (B 2) (B 3) (A 4) (A 5) (A 6) (A 7) (B 8) (B 9) (B 10) (B 11) (A 12) (A 13) (A 14) (A 15) + dd (B 0) (B 1) (B 2) (B 3) (B 4) (B 5) (B 6) (B 7) (A 8) (A 9) (A 10) (A 11) (A 12) (A 13) (A 14) (A 15)) * (m * m * q * q) + (dd (A 0) (A 1) (A 2) (A 3) (B 4) (B 5) (B 6) (B 7) (B 8) (B 9) (B 10) (B 11) (B 12) (B 13) (B 14) (B 15) + dd (B 0) (B 1) (B 2) (B 3) (A 4) (A 5) (A 6) (A 7) (B 8) (B 9) (B 10) (B 11) (B 12) (B 13) (B 14) (B 15) + dd (B 0) (B 1) (B 2) (B 3) (B 4) (B 5) (B 6) (B 7) (A 8) (A 9) (A 10) (A 11) (B 12) (B 13) (B 14) (B 15) + dd (B 0) (B 1) (B 2) (B 3) (B 4) (B 5) (B 6) (B 7) (B 8) (B 9) (B 10) (B 11) (A 12) (A 13) (A 14) (A 15)) * (m * q * q * q) + (dd (B 0) (B 1) (B 2) (B 3) (B 4) (B 5) (B 6) (B 7) (B 8) (B 9) (B 10) (B 11) (B 12) (B 13) (B 14) (B 15)) * (q * q * q * q)
  simp only [dd_0, dd_1, dd_2, dd_3]
  generalize dd (B 0) (B 1) (B 2) (B 3) (B 4) (B 5) (B 6) (B 7) (B 8) (B 9) (B 10) (B 11) (B 12) (B 13) (B 14) (B 15) = d0
  generalize dd (A 0) (A 1) (A 2) (A 3) (B 4) (B 5) (B 6) (B 7) (B 8) (B 9) (B 10) (B 11) (B 12) (B 13) (B 14) (B 15) = d1
  generalize dd (B 0) (B 1) (B 2) (B 3) (A 4) (A 5) (A 6) (A 7) (B 8) (B 9) (B 10) (B 11) (B 12) (B 13) (B 14) (B 15) = d2
  generalize dd (A 0) (A 1) (A 2) (A 3) (A 4) (A 5) (A 6) (A 7) (B 8) (B 9) (B 10) (B 11) (B 12) (B 13) (B 14) (B 15) = d3
  generalize dd (B 0) (B 1) (B 2) (B 3) (B 4) (B 5) (B 6) (B 7) (A 8) (A 9) (A 10) (A 11) (B 12) (B 13) (B 14) (B 15) = d4
  generalize dd (A 0) (A 1) (A 2) (A 3) (B 4) (B 5) (B 6) (B 7) (A 8) (A 9) (A 10) (A 11) (B 12) (B 13) (B 14) (B 15) = d5
  generalize dd (B 0) (B 1) (B 2) (B 3) (A 4) (A 5) (A 6) (A 7) (A 8) (A 9) (A 10) (A 11) (B 12) (B 13) (B 14) (B 15) = d6
  generalize dd (A 0) (A 1) (A 2) (A 3) (A 4) (A 5) (A 6) (A 7) (A 8) (A 9) (A 10) (A 11) (B 12) (B 13) (B 14) (B 15) = d7
  generalize dd (B 0) (B 1) (B 2) (B 3) (B 4) (B 5) (B 6) (B 7) (B 8) (B 9) (B 10) (B 11) (A 12) (A 13) (A 14) (A 15) = d8
  generalize dd (A 0) (A 1) (A 2) (A 3) (B 4) (B 5) (B 6) (B 7) (B 8) (B 9) (B 10) (B 11) (A 12) (A 13) (A 14) (A 15) = d9
  generalize dd (B 0) (B 1) (B 2) (B 3) (A 4) (A 5) (A 6) (A 7) (B 8) (B 9) (B 10) (B 11) (A 12) (A 13) (A 14) (A 15) = d10
  generalize dd (A 0) (A 1) (A 2) (A 3) (A 4) (A 5) (A 6) (A 7) (B 8) (B 9) (B 10) (B 11) (A 12) (A 13) (A 14) (A 15) = d11
  generalize dd (B 0) (B 1) (B 2) (B 3) (B 4) (B 5) (B 6) (B 7) (A 8) (A 9) (A 10) (A 11) (A 12) (A 13) (A 14) (A 15) = d12
  generalize dd (A 0) (A 1) (A 2) (A 3) (B 4) (B 5) (B 6) (B 7) (A 8) (A 9) (A 10) (A 11) (A 12) (A 13) (A 14) (A 15) = d13
  generalize dd (B 0) (B 1) (B 2) (B 3) (A 4) (A 5) (A 6) (A 7) (A 8) (A 9) (A 10) (A 11) (A 12) (A 13) (A 14) (A 15) = d14
  generalize dd (A 0) (A 1) (A 2) (A 3) (A 4) (A 5) (A 6) (A 7) (A 8) (A 9) (A 10) (A 11) (A 12) (A 13) (A 14) (A 15) = d15
  grind
theorem dv_ {v : Int} {n : Nat} (h0 : 0 < n) (hn : n < 9223372036854775808) (h : ((n : Int) * v).natAbs < 9223372036854775808) : Int64.ofInt ((n : Int) * v) / lN n = Int64.ofInt v := by
  have hv : v.natAbs < 9223372036854775808 := by
    have : v.natAbs ≤ ((n : Int) * v).natAbs := by rw [Int.natAbs_mul, Int.natAbs_natCast]; exact Nat.le_mul_of_pos_left _ h0
    omega
  rw [nb_eqL, ldiv_abs h0 hn (by rw [o6_toInt h]; exact h), o6_toInt h, o6_toInt hv]
  exact Int.mul_tdiv_cancel_left v (by omega)
theorem cRd_z {f0 f1 f2 f3 f4 : Int} (h0 : f0.natAbs ≤ 100000000000) (h1 : f1.natAbs ≤ 100000000000) (h2 : f2.natAbs ≤ 100000000000) (h3 : f3.natAbs ≤ 100000000000) (h4 : f4.natAbs ≤ 100000000000) {a e o l w : Int64} (ha : a = Int64.ofInt f0) (he : e = Int64.ofInt f4) (ho : o = Int64.ofInt (f0 + f1 + f2 + f3 + f4)) (hl : l = Int64.ofInt (f0 - f1 + f2 - f3 + f4)) (hw : w = Int64.ofInt (16 * f0 + 8 * f1 + 4 * f2 + 2 * f3 + f4)) : cRd a e o l w 0 = Int64.ofInt f0 ∧ cRd a e o l w 1 = Int64.ofInt f1 ∧ cRd a e o l w 2 = Int64.ofInt f2 ∧ cRd a e o l w 3 = Int64.ofInt f3 ∧ cRd a e o l w 4 = Int64.ofInt f4 := by
  have c1 : (o + l) / 2 = Int64.ofInt (f0 + f2 + f4) := by
    rw [ho, hl, ← Int64.ofInt_add, show (f0 + f1 + f2 + f3 + f4) + (f0 - f1 + f2 - f3 + f4) = ((2 : Nat) : Int) * (f0 + f2 + f4) by omega]
    exact dv_ (by omega) (by omega) (by omega)
  have c2 : (o - l) / 2 = Int64.ofInt (f1 + f3) := by
    rw [ho, hl, ← Int64.ofInt_sub, show (f0 + f1 + f2 + f3 + f4) - (f0 - f1 + f2 - f3 + f4) = ((2 : Nat) : Int) * (f1 + f3) by omega]
    exact dv_ (by omega) (by omega) (by omega)
  have d2 : (o + l) / 2 - a - e = Int64.ofInt f2 := by rw [c1, ha, he, ← Int64.ofInt_sub, ← Int64.ofInt_sub]; congr 1; omega
  have d1 : (w - 16 * a - 4 * ((o + l) / 2 - a - e) - e - 2 * ((o - l) / 2)) / 6 = Int64.ofInt f1 := by
    rw [d2, c2, hw, ha, he, show (16 : Int64) = Int64.ofInt 16 from rfl, show (4 : Int64) = Int64.ofInt 4 from rfl, show (2 : Int64) = Int64.ofInt 2 from rfl, ← Int64.ofInt_mul, ← Int64.ofInt_mul, ← Int64.ofInt_mul, ← Int64.ofInt_sub, ← Int64.ofInt_sub, ← Int64.ofInt_sub, ← Int64.ofInt_sub, show (16 * f0 + 8 * f1 + 4 * f2 + 2 * f3 + f4) - 16 * f0 - 4 * f2 - f4 - 2 * (f1 + f3) = ((6 : Nat) : Int) * f1 by omega]
    exact dv_ (by omega) (by omega) (by omega)
  refine ⟨ha, d1, d2, ?_, he⟩
  show (o - l) / 2 - (w - 16 * a - 4 * ((o + l) / 2 - a - e) - e - 2 * ((o - l) / 2)) / 6 = _
  rw [d1, c2, ← Int64.ofInt_sub]; congr 1; omega
theorem cSm_z {t u : Nat → Int64} {A B : Nat → Int} (ht : ∀ j, j < 16 → t j = Int64.ofInt (A j)) (hu : ∀ j, j < 16 → u j = Int64.ofInt (B j)) {M Q : Int64} {m q : Int} (hM : M = Int64.ofInt m) (hQ : Q = Int64.ofInt q) : ∀ j, j < 16 → cSm t u M Q j = Int64.ofInt (A j * m + B j * q) := fun j hj => by
  unfold cSm; rw [ht j hj, hu j hj, hM, hQ, ← Int64.ofInt_mul, ← Int64.ofInt_mul, ← Int64.ofInt_add]
def sgn1 (M : Int32) : Prop := M = 1 ∨ M = -1
/-- the form as the class reads it, of m times one table and q times another -/
theorem cFo_z {t u : Nat → Int64} {A B : Nat → Int} {M Q : Int32} (hM : sgn1 M) (hQ : sgn1 Q) (ht : ∀ j, j < 16 → t j = Int64.ofInt (A j)) (hu : ∀ j, j < 16 → u j = Int64.ofInt (B j)) (hb : ∀ k, k < 5 → (zF (fun j => A j * M.toInt) (fun j => B j * Q.toInt) k).natAbs ≤ 100000000000) : ∀ k, k < 5 → cFo t u M Q k = Int64.ofInt (zF (fun j => A j * M.toInt) (fun j => B j * Q.toInt) k) := by
  have b0 := hb 0 (by omega); have b1 := hb 1 (by omega); have b2 := hb 2 (by omega); have b3 := hb 3 (by omega); have b4 := hb 4 (by omega)
  have wk : ∀ {m q : Int} {M' Q' : Int32}, M'.toInt = M.toInt * m → Q'.toInt = Q.toInt * q → cW (cSm t u (Int32.toInt64 M') (Int32.toInt64 Q')) = Int64.ofInt (zF (fun j => A j * M.toInt) (fun j => B j * Q.toInt) 0 * (m * m * m * m) + zF (fun j => A j * M.toInt) (fun j => B j * Q.toInt) 1 * (m * m * m * q) + zF (fun j => A j * M.toInt) (fun j => B j * Q.toInt) 2 * (m * m * q * q) + zF (fun j => A j * M.toInt) (fun j => B j * Q.toInt) 3 * (m * q * q * q) + zF (fun j => A j * M.toInt) (fun j => B j * Q.toInt) 4 * (q * q * q * q)) := fun {m q M' Q'} e1 e2 => by
    rw [← zF_w]
    refine cW_z (fun j hj => (cSm_z ht hu (i2l_o M') (i2l_o Q') j hj).trans ?_)
    rw [e1, e2, Int.mul_assoc, Int.mul_assoc]
  generalize zF (fun j => A j * M.toInt) (fun j => B j * Q.toInt) = f at *
  have z0 : (0 : Int32).toInt = 0 := by decide
  have n1 : (-M).toInt = M.toInt * (-1) := by rcases hM with e | e <;> subst e <;> decide
  have n2 : (2 * M).toInt = M.toInt * 2 := by rcases hM with e | e <;> subst e <;> decide
  have w1 := wk (m := 1) (q := 0) (M' := M) (Q' := 0) (by omega) (by omega)
  have w2 := wk (m := 0) (q := 1) (M' := 0) (Q' := Q) (by omega) (by omega)
  have w3 := wk (m := 1) (q := 1) (M' := M) (Q' := Q) (by omega) (by omega)
  have w4 := wk (m := -1) (q := 1) (M' := -M) (Q' := Q) n1 (by omega)
  have w5 := wk (m := 2) (q := 1) (M' := 2 * M) (Q' := Q) n2 (by omega)
  have r := cRd_z b0 b1 b2 b3 b4 (w1.trans (by congr 1; omega)) (w2.trans (by congr 1; omega)) (w3.trans (by congr 1; omega)) (w4.trans (by congr 1; omega)) (w5.trans (by congr 1; omega))
  intro k hk
  match k, hk with
  | 0, _ => exact r.1
  | 1, _ => exact r.2.1
  | 2, _ => exact r.2.2.1
  | 3, _ => exact r.2.2.2.1
  | 4, _ => exact r.2.2.2.2
theorem dd_b {x0 x1 x2 x3 x4 x5 x6 x7 x8 x9 x10 x11 x12 x13 x14 x15 : Int} {n0 n1 n2 n3 n4 n5 n6 n7 n8 n9 n10 n11 n12 n13 n14 n15 : Nat} (h0 : x0.natAbs ≤ n0) (h1 : x1.natAbs ≤ n1) (h2 : x2.natAbs ≤ n2) (h3 : x3.natAbs ≤ n3) (h4 : x4.natAbs ≤ n4) (h5 : x5.natAbs ≤ n5) (h6 : x6.natAbs ≤ n6) (h7 : x7.natAbs ≤ n7) (h8 : x8.natAbs ≤ n8) (h9 : x9.natAbs ≤ n9) (h10 : x10.natAbs ≤ n10) (h11 : x11.natAbs ≤ n11) (h12 : x12.natAbs ≤ n12) (h13 : x13.natAbs ≤ n13) (h14 : x14.natAbs ≤ n14) (h15 : x15.natAbs ≤ n15) : (dd x0 x1 x2 x3 x4 x5 x6 x7 x8 x9 x10 x11 x12 x13 x14 x15).natAbs ≤ ((n0 * ((n5 * (n10 * n15 + n11 * n14) + n6 * (n9 * n15 + n11 * n13)) + n7 * (n9 * n14 + n10 * n13)) + n1 * ((n4 * (n10 * n15 + n11 * n14) + n6 * (n8 * n15 + n11 * n12)) + n7 * (n8 * n14 + n10 * n12))) + n2 * ((n4 * (n9 * n15 + n11 * n13) + n5 * (n8 * n15 + n11 * n12)) + n7 * (n8 * n13 + n9 * n12))) + n3 * ((n4 * (n9 * n14 + n10 * n13) + n5 * (n8 * n14 + n10 * n12)) + n6 * (n8 * n13 + n9 * n12)) := by
  unfold dd
  exact na_ (na_ (na_ (nm_ h0 (na_ (ns_ (nm_ h5 (ns_ (nm_ h10 h15) (nm_ h11 h14))) (nm_ h6 (ns_ (nm_ h9 h15) (nm_ h11 h13)))) (nm_ h7 (ns_ (nm_ h9 h14) (nm_ h10 h13))))) (nm_ (nn_ h1) (na_ (ns_ (nm_ h4 (ns_ (nm_ h10 h15) (nm_ h11 h14))) (nm_ h6 (ns_ (nm_ h8 h15) (nm_ h11 h12)))) (nm_ h7 (ns_ (nm_ h8 h14) (nm_ h10 h12)))))) (nm_ h2 (na_ (ns_ (nm_ h4 (ns_ (nm_ h9 h15) (nm_ h11 h13))) (nm_ h5 (ns_ (nm_ h8 h15) (nm_ h11 h12)))) (nm_ h7 (ns_ (nm_ h8 h13) (nm_ h9 h12)))))) (nm_ (nn_ h3) (na_ (ns_ (nm_ h4 (ns_ (nm_ h9 h14) (nm_ h10 h13))) (nm_ h5 (ns_ (nm_ h8 h14) (nm_ h10 h12)))) (nm_ h6 (ns_ (nm_ h8 h13) (nm_ h9 h12)))))
def mvB (j : Nat) : Nat := if j < 12 ∧ j % 4 < 3 then 4 else 30
theorem zS_b0 {A B : Nat → Int} (hA : ∀ j, j < 16 → (A j).natAbs ≤ 4) (hB : ∀ j, j < 16 → (B j).natAbs ≤ mvB j) : (zW (zSel 0 A B)).natAbs ≤ 270720 :=
  Nat.le_trans (show (dd (B 0) (B 1) (B 2) (B 3) (B 4) (B 5) (B 6) (B 7) (B 8) (B 9) (B 10) (B 11) (B 12) (B 13) (B 14) (B 15)).natAbs ≤ _ from dd_b (hB 0 (by omega)) (hB 1 (by omega)) (hB 2 (by omega)) (hB 3 (by omega)) (hB 4 (by omega)) (hB 5 (by omega)) (hB 6 (by omega)) (hB 7 (by omega)) (hB 8 (by omega)) (hB 9 (by omega)) (hB 10 (by omega)) (hB 11 (by omega)) (hB 12 (by omega)) (hB 13 (by omega)) (hB 14 (by omega)) (hB 15 (by omega))) (by decide)
theorem zS_b1 {A B : Nat → Int} (hA : ∀ j, j < 16 → (A j).natAbs ≤ 4) (hB : ∀ j, j < 16 → (B j).natAbs ≤ mvB j) : (zW (zSel 1 A B)).natAbs ≤ 195840 :=
  Nat.le_trans (show (dd (A 0) (A 1) (A 2) (A 3) (B 4) (B 5) (B 6) (B 7) (B 8) (B 9) (B 10) (B 11) (B 12) (B 13) (B 14) (B 15)).natAbs ≤ _ from dd_b (hA 0 (by omega)) (hA 1 (by omega)) (hA 2 (by omega)) (hA 3 (by omega)) (hB 4 (by omega)) (hB 5 (by omega)) (hB 6 (by omega)) (hB 7 (by omega)) (hB 8 (by omega)) (hB 9 (by omega)) (hB 10 (by omega)) (hB 11 (by omega)) (hB 12 (by omega)) (hB 13 (by omega)) (hB 14 (by omega)) (hB 15 (by omega))) (by decide)
theorem zS_b2 {A B : Nat → Int} (hA : ∀ j, j < 16 → (A j).natAbs ≤ 4) (hB : ∀ j, j < 16 → (B j).natAbs ≤ mvB j) : (zW (zSel 2 A B)).natAbs ≤ 195840 :=
  Nat.le_trans (show (dd (B 0) (B 1) (B 2) (B 3) (A 4) (A 5) (A 6) (A 7) (B 8) (B 9) (B 10) (B 11) (B 12) (B 13) (B 14) (B 15)).natAbs ≤ _ from dd_b (hB 0 (by omega)) (hB 1 (by omega)) (hB 2 (by omega)) (hB 3 (by omega)) (hA 4 (by omega)) (hA 5 (by omega)) (hA 6 (by omega)) (hA 7 (by omega)) (hB 8 (by omega)) (hB 9 (by omega)) (hB 10 (by omega)) (hB 11 (by omega)) (hB 12 (by omega)) (hB 13 (by omega)) (hB 14 (by omega)) (hB 15 (by omega))) (by decide)
theorem zS_b3 {A B : Nat → Int} (hA : ∀ j, j < 16 → (A j).natAbs ≤ 4) (hB : ∀ j, j < 16 → (B j).natAbs ≤ mvB j) : (zW (zSel 3 A B)).natAbs ≤ 120960 :=
  Nat.le_trans (show (dd (A 0) (A 1) (A 2) (A 3) (A 4) (A 5) (A 6) (A 7) (B 8) (B 9) (B 10) (B 11) (B 12) (B 13) (B 14) (B 15)).natAbs ≤ _ from dd_b (hA 0 (by omega)) (hA 1 (by omega)) (hA 2 (by omega)) (hA 3 (by omega)) (hA 4 (by omega)) (hA 5 (by omega)) (hA 6 (by omega)) (hA 7 (by omega)) (hB 8 (by omega)) (hB 9 (by omega)) (hB 10 (by omega)) (hB 11 (by omega)) (hB 12 (by omega)) (hB 13 (by omega)) (hB 14 (by omega)) (hB 15 (by omega))) (by decide)
theorem zS_b4 {A B : Nat → Int} (hA : ∀ j, j < 16 → (A j).natAbs ≤ 4) (hB : ∀ j, j < 16 → (B j).natAbs ≤ mvB j) : (zW (zSel 4 A B)).natAbs ≤ 195840 :=
  Nat.le_trans (show (dd (B 0) (B 1) (B 2) (B 3) (B 4) (B 5) (B 6) (B 7) (A 8) (A 9) (A 10) (A 11) (B 12) (B 13) (B 14) (B 15)).natAbs ≤ _ from dd_b (hB 0 (by omega)) (hB 1 (by omega)) (hB 2 (by omega)) (hB 3 (by omega)) (hB 4 (by omega)) (hB 5 (by omega)) (hB 6 (by omega)) (hB 7 (by omega)) (hA 8 (by omega)) (hA 9 (by omega)) (hA 10 (by omega)) (hA 11 (by omega)) (hB 12 (by omega)) (hB 13 (by omega)) (hB 14 (by omega)) (hB 15 (by omega))) (by decide)
theorem zS_b5 {A B : Nat → Int} (hA : ∀ j, j < 16 → (A j).natAbs ≤ 4) (hB : ∀ j, j < 16 → (B j).natAbs ≤ mvB j) : (zW (zSel 5 A B)).natAbs ≤ 120960 :=
  Nat.le_trans (show (dd (A 0) (A 1) (A 2) (A 3) (B 4) (B 5) (B 6) (B 7) (A 8) (A 9) (A 10) (A 11) (B 12) (B 13) (B 14) (B 15)).natAbs ≤ _ from dd_b (hA 0 (by omega)) (hA 1 (by omega)) (hA 2 (by omega)) (hA 3 (by omega)) (hB 4 (by omega)) (hB 5 (by omega)) (hB 6 (by omega)) (hB 7 (by omega)) (hA 8 (by omega)) (hA 9 (by omega)) (hA 10 (by omega)) (hA 11 (by omega)) (hB 12 (by omega)) (hB 13 (by omega)) (hB 14 (by omega)) (hB 15 (by omega))) (by decide)
theorem zS_b6 {A B : Nat → Int} (hA : ∀ j, j < 16 → (A j).natAbs ≤ 4) (hB : ∀ j, j < 16 → (B j).natAbs ≤ mvB j) : (zW (zSel 6 A B)).natAbs ≤ 120960 :=
  Nat.le_trans (show (dd (B 0) (B 1) (B 2) (B 3) (A 4) (A 5) (A 6) (A 7) (A 8) (A 9) (A 10) (A 11) (B 12) (B 13) (B 14) (B 15)).natAbs ≤ _ from dd_b (hB 0 (by omega)) (hB 1 (by omega)) (hB 2 (by omega)) (hB 3 (by omega)) (hA 4 (by omega)) (hA 5 (by omega)) (hA 6 (by omega)) (hA 7 (by omega)) (hA 8 (by omega)) (hA 9 (by omega)) (hA 10 (by omega)) (hA 11 (by omega)) (hB 12 (by omega)) (hB 13 (by omega)) (hB 14 (by omega)) (hB 15 (by omega))) (by decide)
theorem zS_b7 {A B : Nat → Int} (hA : ∀ j, j < 16 → (A j).natAbs ≤ 4) (hB : ∀ j, j < 16 → (B j).natAbs ≤ mvB j) : (zW (zSel 7 A B)).natAbs ≤ 46080 :=
  Nat.le_trans (show (dd (A 0) (A 1) (A 2) (A 3) (A 4) (A 5) (A 6) (A 7) (A 8) (A 9) (A 10) (A 11) (B 12) (B 13) (B 14) (B 15)).natAbs ≤ _ from dd_b (hA 0 (by omega)) (hA 1 (by omega)) (hA 2 (by omega)) (hA 3 (by omega)) (hA 4 (by omega)) (hA 5 (by omega)) (hA 6 (by omega)) (hA 7 (by omega)) (hA 8 (by omega)) (hA 9 (by omega)) (hA 10 (by omega)) (hA 11 (by omega)) (hB 12 (by omega)) (hB 13 (by omega)) (hB 14 (by omega)) (hB 15 (by omega))) (by decide)
theorem zS_b8 {A B : Nat → Int} (hA : ∀ j, j < 16 → (A j).natAbs ≤ 4) (hB : ∀ j, j < 16 → (B j).natAbs ≤ mvB j) : (zW (zSel 8 A B)).natAbs ≤ 36096 :=
  Nat.le_trans (show (dd (B 0) (B 1) (B 2) (B 3) (B 4) (B 5) (B 6) (B 7) (B 8) (B 9) (B 10) (B 11) (A 12) (A 13) (A 14) (A 15)).natAbs ≤ _ from dd_b (hB 0 (by omega)) (hB 1 (by omega)) (hB 2 (by omega)) (hB 3 (by omega)) (hB 4 (by omega)) (hB 5 (by omega)) (hB 6 (by omega)) (hB 7 (by omega)) (hB 8 (by omega)) (hB 9 (by omega)) (hB 10 (by omega)) (hB 11 (by omega)) (hA 12 (by omega)) (hA 13 (by omega)) (hA 14 (by omega)) (hA 15 (by omega))) (by decide)
theorem zS_b9 {A B : Nat → Int} (hA : ∀ j, j < 16 → (A j).natAbs ≤ 4) (hB : ∀ j, j < 16 → (B j).natAbs ≤ mvB j) : (zW (zSel 9 A B)).natAbs ≤ 26112 :=
  Nat.le_trans (show (dd (A 0) (A 1) (A 2) (A 3) (B 4) (B 5) (B 6) (B 7) (B 8) (B 9) (B 10) (B 11) (A 12) (A 13) (A 14) (A 15)).natAbs ≤ _ from dd_b (hA 0 (by omega)) (hA 1 (by omega)) (hA 2 (by omega)) (hA 3 (by omega)) (hB 4 (by omega)) (hB 5 (by omega)) (hB 6 (by omega)) (hB 7 (by omega)) (hB 8 (by omega)) (hB 9 (by omega)) (hB 10 (by omega)) (hB 11 (by omega)) (hA 12 (by omega)) (hA 13 (by omega)) (hA 14 (by omega)) (hA 15 (by omega))) (by decide)
theorem zS_b10 {A B : Nat → Int} (hA : ∀ j, j < 16 → (A j).natAbs ≤ 4) (hB : ∀ j, j < 16 → (B j).natAbs ≤ mvB j) : (zW (zSel 10 A B)).natAbs ≤ 26112 :=
  Nat.le_trans (show (dd (B 0) (B 1) (B 2) (B 3) (A 4) (A 5) (A 6) (A 7) (B 8) (B 9) (B 10) (B 11) (A 12) (A 13) (A 14) (A 15)).natAbs ≤ _ from dd_b (hB 0 (by omega)) (hB 1 (by omega)) (hB 2 (by omega)) (hB 3 (by omega)) (hA 4 (by omega)) (hA 5 (by omega)) (hA 6 (by omega)) (hA 7 (by omega)) (hB 8 (by omega)) (hB 9 (by omega)) (hB 10 (by omega)) (hB 11 (by omega)) (hA 12 (by omega)) (hA 13 (by omega)) (hA 14 (by omega)) (hA 15 (by omega))) (by decide)
theorem zS_b11 {A B : Nat → Int} (hA : ∀ j, j < 16 → (A j).natAbs ≤ 4) (hB : ∀ j, j < 16 → (B j).natAbs ≤ mvB j) : (zW (zSel 11 A B)).natAbs ≤ 16128 :=
  Nat.le_trans (show (dd (A 0) (A 1) (A 2) (A 3) (A 4) (A 5) (A 6) (A 7) (B 8) (B 9) (B 10) (B 11) (A 12) (A 13) (A 14) (A 15)).natAbs ≤ _ from dd_b (hA 0 (by omega)) (hA 1 (by omega)) (hA 2 (by omega)) (hA 3 (by omega)) (hA 4 (by omega)) (hA 5 (by omega)) (hA 6 (by omega)) (hA 7 (by omega)) (hB 8 (by omega)) (hB 9 (by omega)) (hB 10 (by omega)) (hB 11 (by omega)) (hA 12 (by omega)) (hA 13 (by omega)) (hA 14 (by omega)) (hA 15 (by omega))) (by decide)
theorem zS_b12 {A B : Nat → Int} (hA : ∀ j, j < 16 → (A j).natAbs ≤ 4) (hB : ∀ j, j < 16 → (B j).natAbs ≤ mvB j) : (zW (zSel 12 A B)).natAbs ≤ 26112 :=
  Nat.le_trans (show (dd (B 0) (B 1) (B 2) (B 3) (B 4) (B 5) (B 6) (B 7) (A 8) (A 9) (A 10) (A 11) (A 12) (A 13) (A 14) (A 15)).natAbs ≤ _ from dd_b (hB 0 (by omega)) (hB 1 (by omega)) (hB 2 (by omega)) (hB 3 (by omega)) (hB 4 (by omega)) (hB 5 (by omega)) (hB 6 (by omega)) (hB 7 (by omega)) (hA 8 (by omega)) (hA 9 (by omega)) (hA 10 (by omega)) (hA 11 (by omega)) (hA 12 (by omega)) (hA 13 (by omega)) (hA 14 (by omega)) (hA 15 (by omega))) (by decide)
theorem zS_b13 {A B : Nat → Int} (hA : ∀ j, j < 16 → (A j).natAbs ≤ 4) (hB : ∀ j, j < 16 → (B j).natAbs ≤ mvB j) : (zW (zSel 13 A B)).natAbs ≤ 16128 :=
  Nat.le_trans (show (dd (A 0) (A 1) (A 2) (A 3) (B 4) (B 5) (B 6) (B 7) (A 8) (A 9) (A 10) (A 11) (A 12) (A 13) (A 14) (A 15)).natAbs ≤ _ from dd_b (hA 0 (by omega)) (hA 1 (by omega)) (hA 2 (by omega)) (hA 3 (by omega)) (hB 4 (by omega)) (hB 5 (by omega)) (hB 6 (by omega)) (hB 7 (by omega)) (hA 8 (by omega)) (hA 9 (by omega)) (hA 10 (by omega)) (hA 11 (by omega)) (hA 12 (by omega)) (hA 13 (by omega)) (hA 14 (by omega)) (hA 15 (by omega))) (by decide)
theorem zS_b14 {A B : Nat → Int} (hA : ∀ j, j < 16 → (A j).natAbs ≤ 4) (hB : ∀ j, j < 16 → (B j).natAbs ≤ mvB j) : (zW (zSel 14 A B)).natAbs ≤ 16128 :=
  Nat.le_trans (show (dd (B 0) (B 1) (B 2) (B 3) (A 4) (A 5) (A 6) (A 7) (A 8) (A 9) (A 10) (A 11) (A 12) (A 13) (A 14) (A 15)).natAbs ≤ _ from dd_b (hB 0 (by omega)) (hB 1 (by omega)) (hB 2 (by omega)) (hB 3 (by omega)) (hA 4 (by omega)) (hA 5 (by omega)) (hA 6 (by omega)) (hA 7 (by omega)) (hA 8 (by omega)) (hA 9 (by omega)) (hA 10 (by omega)) (hA 11 (by omega)) (hA 12 (by omega)) (hA 13 (by omega)) (hA 14 (by omega)) (hA 15 (by omega))) (by decide)
theorem zS_b15 {A B : Nat → Int} (hA : ∀ j, j < 16 → (A j).natAbs ≤ 4) (hB : ∀ j, j < 16 → (B j).natAbs ≤ mvB j) : (zW (zSel 15 A B)).natAbs ≤ 6144 :=
  Nat.le_trans (show (dd (A 0) (A 1) (A 2) (A 3) (A 4) (A 5) (A 6) (A 7) (A 8) (A 9) (A 10) (A 11) (A 12) (A 13) (A 14) (A 15)).natAbs ≤ _ from dd_b (hA 0 (by omega)) (hA 1 (by omega)) (hA 2 (by omega)) (hA 3 (by omega)) (hA 4 (by omega)) (hA 5 (by omega)) (hA 6 (by omega)) (hA 7 (by omega)) (hA 8 (by omega)) (hA 9 (by omega)) (hA 10 (by omega)) (hA 11 (by omega)) (hA 12 (by omega)) (hA 13 (by omega)) (hA 14 (by omega)) (hA 15 (by omega))) (by decide)
theorem zF_b {A B : Nat → Int} (hA : ∀ j, j < 16 → (A j).natAbs ≤ 4) (hB : ∀ j, j < 16 → (B j).natAbs ≤ mvB j) : (zF A B 0).natAbs ≤ 6144 ∧ (zF A B 1).natAbs ≤ 94464 ∧ (zF A B 2).natAbs ≤ 441216 ∧ (zF A B 3).natAbs ≤ 623616 ∧ (zF A B 4).natAbs ≤ 270720 :=
  ⟨zS_b15 hA hB, na_ (na_ (na_ (zS_b7 hA hB) (zS_b11 hA hB)) (zS_b13 hA hB)) (zS_b14 hA hB), na_ (na_ (na_ (na_ (na_ (zS_b3 hA hB) (zS_b5 hA hB)) (zS_b6 hA hB)) (zS_b9 hA hB)) (zS_b10 hA hB)) (zS_b12 hA hB), na_ (na_ (na_ (zS_b1 hA hB) (zS_b2 hA hB)) (zS_b4 hA hB)) (zS_b8 hA hB), zS_b0 hA hB⟩
theorem mvB_4 {j : Nat} {x : Int} (h : x.natAbs ≤ 4) : x.natAbs ≤ mvB j := by unfold mvB; split <;> omega

