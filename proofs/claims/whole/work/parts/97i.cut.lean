def zCt (z p : Nat → Int) (k x : Nat) : Int := ((((p k) * (p k)) * (z x)) - ((((p k) * (p (x % 4))) * (z (4 * (x / 4) + k))) + (((p k) * (p (x / 4))) * (z (4 * k + x % 4))))) + (((p (x / 4)) * (p (x % 4))) * (z (4 * k + k)))
def ldz (p : Nat → Int) : Nat := if p 0 = 0 then (if p 1 = 0 then (if p 2 = 0 then 3 else 2) else 1) else 0
theorem ldz_e {p : Nat → Int} {ld : Nat} (h : ld < 4) (h0 : ∀ j, j < ld → p j = 0) (h1 : ld < 3 → ¬ p ld = 0) : ldz p = ld := by
  unfold ldz
  match ld, h with
  | 0, _ => rw [if_neg (h1 (by omega))]
  | 1, _ => rw [if_pos (h0 0 (by omega)), if_neg (h1 (by omega))]
  | 2, _ => rw [if_pos (h0 0 (by omega)), if_pos (h0 1 (by omega)), if_neg (h1 (by omega))]
  | 3, _ => rw [if_pos (h0 0 (by omega)), if_pos (h0 1 (by omega)), if_pos (h0 2 (by omega))]
theorem cCt_o {t v : Nat → Int64} {z p : Nat → Int} (ht : ∀ j, j < 16 → t j = Int64.ofInt (z j)) (hv : ∀ j, j < 4 → v j = Int64.ofInt (p j)) {k x : Nat} (hk : k < 4) (hx : x < 16) : cCt t v k x = Int64.ofInt (zCt z p k x) := by
  unfold cCt zCt
  rw [hv k hk, hv (x % 4) (by omega), hv (x / 4) (by omega), ht x hx, ht (4 * (x / 4) + k) (by omega), ht (4 * k + x % 4) (by omega), ht (4 * k + k) (by omega)]
  simp only [Int64.ofInt_add, Int64.ofInt_sub, Int64.ofInt_mul]
theorem zCt_s {z p : Nat → Int} (hs : ∀ a b, a < 4 → b < 4 → z (4 * a + b) = z (4 * b + a)) {k : Nat} (hk : k < 4) : ∀ a b, a < 4 → b < 4 → zCt z p k (4 * a + b) = zCt z p k (4 * b + a) := fun a b ha hb => by
  unfold zCt
  rw [show (4 * a + b) / 4 = a by omega, show (4 * a + b) % 4 = b by omega, show (4 * b + a) / 4 = b by omega, show (4 * b + a) % 4 = a by omega, hs a b ha hb, hs a k ha hk, hs b k hb hk]
  generalize z (4 * b + a) = z1
  generalize z (4 * k + a) = z2
  generalize z (4 * k + b) = z3
  generalize z (4 * k + k) = z4
  grind
theorem zCt_0 {z p : Nat → Int} {k b : Nat} (hb : b < 4) : zCt z p k (4 * k + b) = 0 := by
  unfold zCt
  rw [show (4 * k + b) / 4 = k by omega, show (4 * k + b) % 4 = b by omega]
  generalize z (4 * k + b) = z1
  generalize z (4 * k + k) = z4
  grind
theorem zCt_b {z p : Nat → Int} (hz : ∀ j, j < 16 → (z j).natAbs ≤ 4) (hp : ∀ j, j < 4 → (p j).natAbs ≤ 100) {k x : Nat} (hk : k < 4) (hx : x < 16) : (zCt z p k x).natAbs ≤ 160000 := by
  unfold zCt
  have h1 := hp k hk; have h2 := hp (x % 4) (by omega); have h3 := hp (x / 4) (by omega)
  exact na_ (ns_ (nm_ (nm_ h1 h1) (hz x hx)) (na_ (nm_ (nm_ h1 h2) (hz _ (by omega))) (nm_ (nm_ h1 h3) (hz _ (by omega))))) (nm_ (nm_ h3 h2) (hz _ (by omega)))
theorem zt_w {w : Nat → Int} (h : ∀ a b, a < 4 → b < 4 → w (4 * a + b) = w (4 * b + a)) : ∀ j, j < 16 → Int64.ofInt (w j) = zt w j := fun j hj => by
  unfold zt
  congr 1
  match j, hj with
  | 0, _ => rfl
  | 1, _ => rfl
  | 2, _ => rfl
  | 3, _ => rfl
  | 4, _ => exact h 1 0 (by omega) (by omega)
  | 5, _ => rfl
  | 6, _ => rfl
  | 7, _ => rfl
  | 8, _ => exact h 2 0 (by omega) (by omega)
  | 9, _ => exact h 2 1 (by omega) (by omega)
  | 10, _ => rfl
  | 11, _ => rfl
  | 12, _ => exact h 3 0 (by omega) (by omega)
  | 13, _ => exact h 3 1 (by omega) (by omega)
  | 14, _ => exact h 3 2 (by omega) (by omega)
  | 15, _ => rfl
  | j + 16, h => exact absurd h (by omega)
theorem c3_ok {w : Nat → Int} (hok : zOk w) {a x y b p c : Int} (e1 : w 0 + w 5 + w 10 + w 15 = a + b + c) (e2 : kE2 (w 0) (w 1) (w 2) (w 3) (w 5) (w 6) (w 7) (w 10) (w 11) (w 15) = (a * b - x * x) + (a * c - y * y) + (b * c - p * p)) (e3 : kE3 (w 0) (w 1) (w 2) (w 3) (w 5) (w 6) (w 7) (w 10) (w 11) (w 15) = k3 a x y b p c) (e4 : kE4 (w 0) (w 1) (w 2) (w 3) (w 5) (w 6) (w 7) (w 10) (w 11) (w 15) = 0) {t : Nat → Int64} (t0 : t 0 = Int64.ofInt a) (t1 : t 1 = Int64.ofInt x) (t2 : t 2 = Int64.ofInt y) (t5 : t 5 = Int64.ofInt b) (t6 : t 6 = Int64.ofInt p) (t10 : t 10 = Int64.ofInt c) : cAv (zt w) = mTA t ∧ cBv (zt w) = mTB t := by
  have k := av_ok hok
  rw [k.1, k.2]
  unfold mFA mFB
  have q1 : ((t 0) + (t 5)) + (t 10) = Int64.ofInt (a + b + c) := by rw [t0, t5, t10]; simp only [Int64.ofInt_add]
  have q2 : ((m2 t 0 1) + (m2 t 0 2)) + (m2 t 1 2) = Int64.ofInt ((a * b - x * x) + (a * c - y * y) + (b * c - p * p)) := by
    show ((t 0 * t 5 - t 1 * t 1) + (t 0 * t 10 - t 2 * t 2)) + (t 5 * t 10 - t 6 * t 6) = _
    rw [t0, t1, t2, t5, t6, t10]; simp only [Int64.ofInt_add, Int64.ofInt_sub, Int64.ofInt_mul]
  have q3 : m3 t 0 1 2 = Int64.ofInt (k3 a x y b p c) := by
    show m3o (t 0) (t 1) (t 2) (t 5) (t 6) (t 10) = _
    rw [t0, t1, t2, t5, t6, t10]; simp only [m3o, k3, Int64.ofInt_add, Int64.ofInt_sub, Int64.ofInt_mul]
  obtain ⟨h1, h2, h3, h4⟩ := hok
  rw [m_e1, m_e2, m_e3, m_e4]
  rw [e1] at h1 ⊢
  rw [e2] at h2 ⊢
  rw [e3] at h3 ⊢
  rw [e4]
  unfold mTA mTB
  rw [q1, q2, q3, mA4_s, mB4_s, mA3_s, mB3_s, mSg_o h1, mSg_o h2, mSg_o h3]
  exact sig_3 (sgI_3 _) (sgI_3 _) (sgI_3 _)
def zSn (ld : Nat) (p : Nat → Int) (n : Nat) : Nat → Int := fun i => if i = (if n < ld then n else n + 1) then p ld else if i = ld then -p (if n < ld then n else n + 1) else 0
theorem ng_ {x : Int32} (h : x.toInt.natAbs ≤ 100) : (-x).toInt = -x.toInt := by
  have q : (-x) = Int32.ofInt (-x.toInt) := by rw [Int32.ofInt_neg, Int32.ofInt_toInt]
  rw [q, Int32.toInt_ofInt_of_le (by omega) (by omega)]
theorem zSn_p {v : Nat → Int32} (hv : ∀ j, j < 4 → (pz v j).natAbs ≤ 100) {ld n : Nat} (hn : n < 3) (i : Nat) : pz (mSn ld v n) i = zSn ld (pz v) n i := by
  show (mSn ld v n i).toInt = _
  unfold mSn zSn
  by_cases h : i = (if n < ld then n else n + 1)
  · rw [if_pos h, if_pos h]; rfl
  · rw [if_neg h, if_neg h]
    by_cases h' : i = ld
    · rw [if_pos h', if_pos h']
      exact ng_ (hv _ (by split <;> omega))
    · rw [if_neg h', if_neg h']; rfl
theorem ct_000 (z p : Nat → Int) : vPr z (zSn 0 p 0) (zSn 0 p 0) = zCt z p 0 5 := by
  show (((0 + (-(p 1)) * ((((0 + (z 0) * (-(p 1))) + (z 1) * (p 0)) + (z 2) * 0) + (z 3) * 0)) + (p 0) * ((((0 + (z 4) * (-(p 1))) + (z 5) * (p 0)) + (z 6) * 0) + (z 7) * 0)) + 0 * ((((0 + (z 8) * (-(p 1))) + (z 9) * (p 0)) + (z 10) * 0) + (z 11) * 0)) + 0 * ((((0 + (z 12) * (-(p 1))) + (z 13) * (p 0)) + (z 14) * 0) + (z 15) * 0) = ((((p 0) * (p 0)) * (z 5)) - ((((p 0) * (p 1)) * (z 4)) + (((p 0) * (p 1)) * (z 1)))) + (((p 1) * (p 1)) * (z 0))
  grind
theorem ct_001 (z p : Nat → Int) : vPr z (zSn 0 p 0) (zSn 0 p 1) = zCt z p 0 6 := by
  show (((0 + (-(p 1)) * ((((0 + (z 0) * (-(p 2))) + (z 1) * 0) + (z 2) * (p 0)) + (z 3) * 0)) + (p 0) * ((((0 + (z 4) * (-(p 2))) + (z 5) * 0) + (z 6) * (p 0)) + (z 7) * 0)) + 0 * ((((0 + (z 8) * (-(p 2))) + (z 9) * 0) + (z 10) * (p 0)) + (z 11) * 0)) + 0 * ((((0 + (z 12) * (-(p 2))) + (z 13) * 0) + (z 14) * (p 0)) + (z 15) * 0) = ((((p 0) * (p 0)) * (z 6)) - ((((p 0) * (p 2)) * (z 4)) + (((p 0) * (p 1)) * (z 2)))) + (((p 1) * (p 2)) * (z 0))
  grind
theorem ct_002 (z p : Nat → Int) : vPr z (zSn 0 p 0) (zSn 0 p 2) = zCt z p 0 7 := by
  show (((0 + (-(p 1)) * ((((0 + (z 0) * (-(p 3))) + (z 1) * 0) + (z 2) * 0) + (z 3) * (p 0))) + (p 0) * ((((0 + (z 4) * (-(p 3))) + (z 5) * 0) + (z 6) * 0) + (z 7) * (p 0))) + 0 * ((((0 + (z 8) * (-(p 3))) + (z 9) * 0) + (z 10) * 0) + (z 11) * (p 0))) + 0 * ((((0 + (z 12) * (-(p 3))) + (z 13) * 0) + (z 14) * 0) + (z 15) * (p 0)) = ((((p 0) * (p 0)) * (z 7)) - ((((p 0) * (p 3)) * (z 4)) + (((p 0) * (p 1)) * (z 3)))) + (((p 1) * (p 3)) * (z 0))
  grind
theorem ct_011 (z p : Nat → Int) : vPr z (zSn 0 p 1) (zSn 0 p 1) = zCt z p 0 10 := by
  show (((0 + (-(p 2)) * ((((0 + (z 0) * (-(p 2))) + (z 1) * 0) + (z 2) * (p 0)) + (z 3) * 0)) + 0 * ((((0 + (z 4) * (-(p 2))) + (z 5) * 0) + (z 6) * (p 0)) + (z 7) * 0)) + (p 0) * ((((0 + (z 8) * (-(p 2))) + (z 9) * 0) + (z 10) * (p 0)) + (z 11) * 0)) + 0 * ((((0 + (z 12) * (-(p 2))) + (z 13) * 0) + (z 14) * (p 0)) + (z 15) * 0) = ((((p 0) * (p 0)) * (z 10)) - ((((p 0) * (p 2)) * (z 8)) + (((p 0) * (p 2)) * (z 2)))) + (((p 2) * (p 2)) * (z 0))
  grind
theorem ct_012 (z p : Nat → Int) : vPr z (zSn 0 p 1) (zSn 0 p 2) = zCt z p 0 11 := by
  show (((0 + (-(p 2)) * ((((0 + (z 0) * (-(p 3))) + (z 1) * 0) + (z 2) * 0) + (z 3) * (p 0))) + 0 * ((((0 + (z 4) * (-(p 3))) + (z 5) * 0) + (z 6) * 0) + (z 7) * (p 0))) + (p 0) * ((((0 + (z 8) * (-(p 3))) + (z 9) * 0) + (z 10) * 0) + (z 11) * (p 0))) + 0 * ((((0 + (z 12) * (-(p 3))) + (z 13) * 0) + (z 14) * 0) + (z 15) * (p 0)) = ((((p 0) * (p 0)) * (z 11)) - ((((p 0) * (p 3)) * (z 8)) + (((p 0) * (p 2)) * (z 3)))) + (((p 2) * (p 3)) * (z 0))
  grind
theorem ct_022 (z p : Nat → Int) : vPr z (zSn 0 p 2) (zSn 0 p 2) = zCt z p 0 15 := by
  show (((0 + (-(p 3)) * ((((0 + (z 0) * (-(p 3))) + (z 1) * 0) + (z 2) * 0) + (z 3) * (p 0))) + 0 * ((((0 + (z 4) * (-(p 3))) + (z 5) * 0) + (z 6) * 0) + (z 7) * (p 0))) + 0 * ((((0 + (z 8) * (-(p 3))) + (z 9) * 0) + (z 10) * 0) + (z 11) * (p 0))) + (p 0) * ((((0 + (z 12) * (-(p 3))) + (z 13) * 0) + (z 14) * 0) + (z 15) * (p 0)) = ((((p 0) * (p 0)) * (z 15)) - ((((p 0) * (p 3)) * (z 12)) + (((p 0) * (p 3)) * (z 3)))) + (((p 3) * (p 3)) * (z 0))
  grind
theorem ct_100 (z p : Nat → Int) : vPr z (zSn 1 p 0) (zSn 1 p 0) = zCt z p 1 0 := by
  show (((0 + (p 1) * ((((0 + (z 0) * (p 1)) + (z 1) * (-(p 0))) + (z 2) * 0) + (z 3) * 0)) + (-(p 0)) * ((((0 + (z 4) * (p 1)) + (z 5) * (-(p 0))) + (z 6) * 0) + (z 7) * 0)) + 0 * ((((0 + (z 8) * (p 1)) + (z 9) * (-(p 0))) + (z 10) * 0) + (z 11) * 0)) + 0 * ((((0 + (z 12) * (p 1)) + (z 13) * (-(p 0))) + (z 14) * 0) + (z 15) * 0) = ((((p 1) * (p 1)) * (z 0)) - ((((p 1) * (p 0)) * (z 1)) + (((p 1) * (p 0)) * (z 4)))) + (((p 0) * (p 0)) * (z 5))
  grind
theorem ct_101 (z p : Nat → Int) : vPr z (zSn 1 p 0) (zSn 1 p 1) = zCt z p 1 2 := by
  show (((0 + (p 1) * ((((0 + (z 0) * 0) + (z 1) * (-(p 2))) + (z 2) * (p 1)) + (z 3) * 0)) + (-(p 0)) * ((((0 + (z 4) * 0) + (z 5) * (-(p 2))) + (z 6) * (p 1)) + (z 7) * 0)) + 0 * ((((0 + (z 8) * 0) + (z 9) * (-(p 2))) + (z 10) * (p 1)) + (z 11) * 0)) + 0 * ((((0 + (z 12) * 0) + (z 13) * (-(p 2))) + (z 14) * (p 1)) + (z 15) * 0) = ((((p 1) * (p 1)) * (z 2)) - ((((p 1) * (p 2)) * (z 1)) + (((p 1) * (p 0)) * (z 6)))) + (((p 0) * (p 2)) * (z 5))
  grind
theorem ct_102 (z p : Nat → Int) : vPr z (zSn 1 p 0) (zSn 1 p 2) = zCt z p 1 3 := by
  show (((0 + (p 1) * ((((0 + (z 0) * 0) + (z 1) * (-(p 3))) + (z 2) * 0) + (z 3) * (p 1))) + (-(p 0)) * ((((0 + (z 4) * 0) + (z 5) * (-(p 3))) + (z 6) * 0) + (z 7) * (p 1))) + 0 * ((((0 + (z 8) * 0) + (z 9) * (-(p 3))) + (z 10) * 0) + (z 11) * (p 1))) + 0 * ((((0 + (z 12) * 0) + (z 13) * (-(p 3))) + (z 14) * 0) + (z 15) * (p 1)) = ((((p 1) * (p 1)) * (z 3)) - ((((p 1) * (p 3)) * (z 1)) + (((p 1) * (p 0)) * (z 7)))) + (((p 0) * (p 3)) * (z 5))
  grind
theorem ct_111 (z p : Nat → Int) : vPr z (zSn 1 p 1) (zSn 1 p 1) = zCt z p 1 10 := by
  show (((0 + 0 * ((((0 + (z 0) * 0) + (z 1) * (-(p 2))) + (z 2) * (p 1)) + (z 3) * 0)) + (-(p 2)) * ((((0 + (z 4) * 0) + (z 5) * (-(p 2))) + (z 6) * (p 1)) + (z 7) * 0)) + (p 1) * ((((0 + (z 8) * 0) + (z 9) * (-(p 2))) + (z 10) * (p 1)) + (z 11) * 0)) + 0 * ((((0 + (z 12) * 0) + (z 13) * (-(p 2))) + (z 14) * (p 1)) + (z 15) * 0) = ((((p 1) * (p 1)) * (z 10)) - ((((p 1) * (p 2)) * (z 9)) + (((p 1) * (p 2)) * (z 6)))) + (((p 2) * (p 2)) * (z 5))
  grind
theorem ct_112 (z p : Nat → Int) : vPr z (zSn 1 p 1) (zSn 1 p 2) = zCt z p 1 11 := by
  show (((0 + 0 * ((((0 + (z 0) * 0) + (z 1) * (-(p 3))) + (z 2) * 0) + (z 3) * (p 1))) + (-(p 2)) * ((((0 + (z 4) * 0) + (z 5) * (-(p 3))) + (z 6) * 0) + (z 7) * (p 1))) + (p 1) * ((((0 + (z 8) * 0) + (z 9) * (-(p 3))) + (z 10) * 0) + (z 11) * (p 1))) + 0 * ((((0 + (z 12) * 0) + (z 13) * (-(p 3))) + (z 14) * 0) + (z 15) * (p 1)) = ((((p 1) * (p 1)) * (z 11)) - ((((p 1) * (p 3)) * (z 9)) + (((p 1) * (p 2)) * (z 7)))) + (((p 2) * (p 3)) * (z 5))
  grind
theorem ct_122 (z p : Nat → Int) : vPr z (zSn 1 p 2) (zSn 1 p 2) = zCt z p 1 15 := by
  show (((0 + 0 * ((((0 + (z 0) * 0) + (z 1) * (-(p 3))) + (z 2) * 0) + (z 3) * (p 1))) + (-(p 3)) * ((((0 + (z 4) * 0) + (z 5) * (-(p 3))) + (z 6) * 0) + (z 7) * (p 1))) + 0 * ((((0 + (z 8) * 0) + (z 9) * (-(p 3))) + (z 10) * 0) + (z 11) * (p 1))) + (p 1) * ((((0 + (z 12) * 0) + (z 13) * (-(p 3))) + (z 14) * 0) + (z 15) * (p 1)) = ((((p 1) * (p 1)) * (z 15)) - ((((p 1) * (p 3)) * (z 13)) + (((p 1) * (p 3)) * (z 7)))) + (((p 3) * (p 3)) * (z 5))
  grind
theorem ct_200 (z p : Nat → Int) : vPr z (zSn 2 p 0) (zSn 2 p 0) = zCt z p 2 0 := by
  show (((0 + (p 2) * ((((0 + (z 0) * (p 2)) + (z 1) * 0) + (z 2) * (-(p 0))) + (z 3) * 0)) + 0 * ((((0 + (z 4) * (p 2)) + (z 5) * 0) + (z 6) * (-(p 0))) + (z 7) * 0)) + (-(p 0)) * ((((0 + (z 8) * (p 2)) + (z 9) * 0) + (z 10) * (-(p 0))) + (z 11) * 0)) + 0 * ((((0 + (z 12) * (p 2)) + (z 13) * 0) + (z 14) * (-(p 0))) + (z 15) * 0) = ((((p 2) * (p 2)) * (z 0)) - ((((p 2) * (p 0)) * (z 2)) + (((p 2) * (p 0)) * (z 8)))) + (((p 0) * (p 0)) * (z 10))
  grind
theorem ct_201 (z p : Nat → Int) : vPr z (zSn 2 p 0) (zSn 2 p 1) = zCt z p 2 1 := by
  show (((0 + (p 2) * ((((0 + (z 0) * 0) + (z 1) * (p 2)) + (z 2) * (-(p 1))) + (z 3) * 0)) + 0 * ((((0 + (z 4) * 0) + (z 5) * (p 2)) + (z 6) * (-(p 1))) + (z 7) * 0)) + (-(p 0)) * ((((0 + (z 8) * 0) + (z 9) * (p 2)) + (z 10) * (-(p 1))) + (z 11) * 0)) + 0 * ((((0 + (z 12) * 0) + (z 13) * (p 2)) + (z 14) * (-(p 1))) + (z 15) * 0) = ((((p 2) * (p 2)) * (z 1)) - ((((p 2) * (p 1)) * (z 2)) + (((p 2) * (p 0)) * (z 9)))) + (((p 0) * (p 1)) * (z 10))
  grind
theorem ct_202 (z p : Nat → Int) : vPr z (zSn 2 p 0) (zSn 2 p 2) = zCt z p 2 3 := by
  show (((0 + (p 2) * ((((0 + (z 0) * 0) + (z 1) * 0) + (z 2) * (-(p 3))) + (z 3) * (p 2))) + 0 * ((((0 + (z 4) * 0) + (z 5) * 0) + (z 6) * (-(p 3))) + (z 7) * (p 2))) + (-(p 0)) * ((((0 + (z 8) * 0) + (z 9) * 0) + (z 10) * (-(p 3))) + (z 11) * (p 2))) + 0 * ((((0 + (z 12) * 0) + (z 13) * 0) + (z 14) * (-(p 3))) + (z 15) * (p 2)) = ((((p 2) * (p 2)) * (z 3)) - ((((p 2) * (p 3)) * (z 2)) + (((p 2) * (p 0)) * (z 11)))) + (((p 0) * (p 3)) * (z 10))
  grind
theorem ct_211 (z p : Nat → Int) : vPr z (zSn 2 p 1) (zSn 2 p 1) = zCt z p 2 5 := by
  show (((0 + 0 * ((((0 + (z 0) * 0) + (z 1) * (p 2)) + (z 2) * (-(p 1))) + (z 3) * 0)) + (p 2) * ((((0 + (z 4) * 0) + (z 5) * (p 2)) + (z 6) * (-(p 1))) + (z 7) * 0)) + (-(p 1)) * ((((0 + (z 8) * 0) + (z 9) * (p 2)) + (z 10) * (-(p 1))) + (z 11) * 0)) + 0 * ((((0 + (z 12) * 0) + (z 13) * (p 2)) + (z 14) * (-(p 1))) + (z 15) * 0) = ((((p 2) * (p 2)) * (z 5)) - ((((p 2) * (p 1)) * (z 6)) + (((p 2) * (p 1)) * (z 9)))) + (((p 1) * (p 1)) * (z 10))
  grind
theorem ct_212 (z p : Nat → Int) : vPr z (zSn 2 p 1) (zSn 2 p 2) = zCt z p 2 7 := by
  show (((0 + 0 * ((((0 + (z 0) * 0) + (z 1) * 0) + (z 2) * (-(p 3))) + (z 3) * (p 2))) + (p 2) * ((((0 + (z 4) * 0) + (z 5) * 0) + (z 6) * (-(p 3))) + (z 7) * (p 2))) + (-(p 1)) * ((((0 + (z 8) * 0) + (z 9) * 0) + (z 10) * (-(p 3))) + (z 11) * (p 2))) + 0 * ((((0 + (z 12) * 0) + (z 13) * 0) + (z 14) * (-(p 3))) + (z 15) * (p 2)) = ((((p 2) * (p 2)) * (z 7)) - ((((p 2) * (p 3)) * (z 6)) + (((p 2) * (p 1)) * (z 11)))) + (((p 1) * (p 3)) * (z 10))
  grind
theorem ct_222 (z p : Nat → Int) : vPr z (zSn 2 p 2) (zSn 2 p 2) = zCt z p 2 15 := by
  show (((0 + 0 * ((((0 + (z 0) * 0) + (z 1) * 0) + (z 2) * (-(p 3))) + (z 3) * (p 2))) + 0 * ((((0 + (z 4) * 0) + (z 5) * 0) + (z 6) * (-(p 3))) + (z 7) * (p 2))) + (-(p 3)) * ((((0 + (z 8) * 0) + (z 9) * 0) + (z 10) * (-(p 3))) + (z 11) * (p 2))) + (p 2) * ((((0 + (z 12) * 0) + (z 13) * 0) + (z 14) * (-(p 3))) + (z 15) * (p 2)) = ((((p 2) * (p 2)) * (z 15)) - ((((p 2) * (p 3)) * (z 14)) + (((p 2) * (p 3)) * (z 11)))) + (((p 3) * (p 3)) * (z 10))
  grind
theorem ct_300 (z p : Nat → Int) : vPr z (zSn 3 p 0) (zSn 3 p 0) = zCt z p 3 0 := by
  show (((0 + (p 3) * ((((0 + (z 0) * (p 3)) + (z 1) * 0) + (z 2) * 0) + (z 3) * (-(p 0)))) + 0 * ((((0 + (z 4) * (p 3)) + (z 5) * 0) + (z 6) * 0) + (z 7) * (-(p 0)))) + 0 * ((((0 + (z 8) * (p 3)) + (z 9) * 0) + (z 10) * 0) + (z 11) * (-(p 0)))) + (-(p 0)) * ((((0 + (z 12) * (p 3)) + (z 13) * 0) + (z 14) * 0) + (z 15) * (-(p 0))) = ((((p 3) * (p 3)) * (z 0)) - ((((p 3) * (p 0)) * (z 3)) + (((p 3) * (p 0)) * (z 12)))) + (((p 0) * (p 0)) * (z 15))
  grind
theorem ct_301 (z p : Nat → Int) : vPr z (zSn 3 p 0) (zSn 3 p 1) = zCt z p 3 1 := by
  show (((0 + (p 3) * ((((0 + (z 0) * 0) + (z 1) * (p 3)) + (z 2) * 0) + (z 3) * (-(p 1)))) + 0 * ((((0 + (z 4) * 0) + (z 5) * (p 3)) + (z 6) * 0) + (z 7) * (-(p 1)))) + 0 * ((((0 + (z 8) * 0) + (z 9) * (p 3)) + (z 10) * 0) + (z 11) * (-(p 1)))) + (-(p 0)) * ((((0 + (z 12) * 0) + (z 13) * (p 3)) + (z 14) * 0) + (z 15) * (-(p 1))) = ((((p 3) * (p 3)) * (z 1)) - ((((p 3) * (p 1)) * (z 3)) + (((p 3) * (p 0)) * (z 13)))) + (((p 0) * (p 1)) * (z 15))
  grind
theorem ct_302 (z p : Nat → Int) : vPr z (zSn 3 p 0) (zSn 3 p 2) = zCt z p 3 2 := by
  show (((0 + (p 3) * ((((0 + (z 0) * 0) + (z 1) * 0) + (z 2) * (p 3)) + (z 3) * (-(p 2)))) + 0 * ((((0 + (z 4) * 0) + (z 5) * 0) + (z 6) * (p 3)) + (z 7) * (-(p 2)))) + 0 * ((((0 + (z 8) * 0) + (z 9) * 0) + (z 10) * (p 3)) + (z 11) * (-(p 2)))) + (-(p 0)) * ((((0 + (z 12) * 0) + (z 13) * 0) + (z 14) * (p 3)) + (z 15) * (-(p 2))) = ((((p 3) * (p 3)) * (z 2)) - ((((p 3) * (p 2)) * (z 3)) + (((p 3) * (p 0)) * (z 14)))) + (((p 0) * (p 2)) * (z 15))
  grind
theorem ct_311 (z p : Nat → Int) : vPr z (zSn 3 p 1) (zSn 3 p 1) = zCt z p 3 5 := by
  show (((0 + 0 * ((((0 + (z 0) * 0) + (z 1) * (p 3)) + (z 2) * 0) + (z 3) * (-(p 1)))) + (p 3) * ((((0 + (z 4) * 0) + (z 5) * (p 3)) + (z 6) * 0) + (z 7) * (-(p 1)))) + 0 * ((((0 + (z 8) * 0) + (z 9) * (p 3)) + (z 10) * 0) + (z 11) * (-(p 1)))) + (-(p 1)) * ((((0 + (z 12) * 0) + (z 13) * (p 3)) + (z 14) * 0) + (z 15) * (-(p 1))) = ((((p 3) * (p 3)) * (z 5)) - ((((p 3) * (p 1)) * (z 7)) + (((p 3) * (p 1)) * (z 13)))) + (((p 1) * (p 1)) * (z 15))
  grind
theorem ct_312 (z p : Nat → Int) : vPr z (zSn 3 p 1) (zSn 3 p 2) = zCt z p 3 6 := by
  show (((0 + 0 * ((((0 + (z 0) * 0) + (z 1) * 0) + (z 2) * (p 3)) + (z 3) * (-(p 2)))) + (p 3) * ((((0 + (z 4) * 0) + (z 5) * 0) + (z 6) * (p 3)) + (z 7) * (-(p 2)))) + 0 * ((((0 + (z 8) * 0) + (z 9) * 0) + (z 10) * (p 3)) + (z 11) * (-(p 2)))) + (-(p 1)) * ((((0 + (z 12) * 0) + (z 13) * 0) + (z 14) * (p 3)) + (z 15) * (-(p 2))) = ((((p 3) * (p 3)) * (z 6)) - ((((p 3) * (p 2)) * (z 7)) + (((p 3) * (p 1)) * (z 14)))) + (((p 1) * (p 2)) * (z 15))
  grind
theorem ct_322 (z p : Nat → Int) : vPr z (zSn 3 p 2) (zSn 3 p 2) = zCt z p 3 10 := by
  show (((0 + 0 * ((((0 + (z 0) * 0) + (z 1) * 0) + (z 2) * (p 3)) + (z 3) * (-(p 2)))) + 0 * ((((0 + (z 4) * 0) + (z 5) * 0) + (z 6) * (p 3)) + (z 7) * (-(p 2)))) + (p 3) * ((((0 + (z 8) * 0) + (z 9) * 0) + (z 10) * (p 3)) + (z 11) * (-(p 2)))) + (-(p 2)) * ((((0 + (z 12) * 0) + (z 13) * 0) + (z 14) * (p 3)) + (z 15) * (-(p 2))) = ((((p 3) * (p 3)) * (z 10)) - ((((p 3) * (p 2)) * (z 11)) + (((p 3) * (p 2)) * (z 14)))) + (((p 2) * (p 2)) * (z 15))
  grind
theorem k2_0 (a x y b p c : Int) : kE2 0 0 0 0 a x y b p c = (a * b - x * x) + (a * c - y * y) + (b * c - p * p) := by unfold kE2; grind
theorem k3_0 (a x y b p c : Int) : kE3 0 0 0 0 a x y b p c = k3 a x y b p c := by unfold kE3 k3; grind
theorem k4_0 (a x y b p c : Int) : kE4 0 0 0 0 a x y b p c = 0 := by unfold kE4; grind
theorem k2_1 (a x y b p c : Int) : kE2 a 0 x y 0 0 0 b p c = (a * b - x * x) + (a * c - y * y) + (b * c - p * p) := by unfold kE2; grind
theorem k3_1 (a x y b p c : Int) : kE3 a 0 x y 0 0 0 b p c = k3 a x y b p c := by unfold kE3 k3; grind
theorem k4_1 (a x y b p c : Int) : kE4 a 0 x y 0 0 0 b p c = 0 := by unfold kE4; grind
theorem k2_2 (a x y b p c : Int) : kE2 a x 0 y b 0 p 0 0 c = (a * b - x * x) + (a * c - y * y) + (b * c - p * p) := by unfold kE2; grind
theorem k3_2 (a x y b p c : Int) : kE3 a x 0 y b 0 p 0 0 c = k3 a x y b p c := by unfold kE3 k3; grind
theorem k4_2 (a x y b p c : Int) : kE4 a x 0 y b 0 p 0 0 c = 0 := by unfold kE4; grind
theorem k2_3 (a x y b p c : Int) : kE2 a x y 0 b p 0 c 0 0 = (a * b - x * x) + (a * c - y * y) + (b * c - p * p) := by unfold kE2; grind
theorem k3_3 (a x y b p c : Int) : kE3 a x y 0 b p 0 c 0 0 = k3 a x y b p c := by unfold kE3 k3; grind
theorem k4_3 (a x y b p c : Int) : kE4 a x y 0 b p 0 c 0 0 = 0 := by unfold kE4; grind
theorem cut_r {T v : Nat → Int32} {g : Nat} {z : Nat → Int} (hz : ∀ j, (T (16 * g + j)).toInt = z j) (hb : ∀ j, j < 16 → (z j).natAbs ≤ 4) (hv : ∀ j, j < 4 → (pz v j).natAbs ≤ 100) {ld a b x : Nat} (hld : ld < 4) (ha : a < 3) (hb' : b < 3) (hx : x < 16) (e : vPr z (zSn ld (pz v) a) (zSn ld (pz v) b) = zCt z (pz v) ld x) : Int32.toInt64 (mBo T (mSn ld v a) (mSn ld v b) g) = Int64.ofInt (zCt z (pz v) ld x) := by
  rw [mBo_o, vPr_c (z' := z) (fun j _ => hz j) (fun i _ => zSn_p hv ha i) (fun i _ => zSn_p hv hb' i), e]
  have := zCt_b hb hv hld hx
  exact i2l_3 (by omega)
theorem ct_ok {w : Nat → Int} (B : ∀ x, x < 16 → (w x).natAbs ≤ 160000) (E4 : kE4 (w 0) (w 1) (w 2) (w 3) (w 5) (w 6) (w 7) (w 10) (w 11) (w 15) = 0) : zOk w := by
  have e0 := B 0 (by omega); have e1 := B 1 (by omega); have e2 := B 2 (by omega); have e3 := B 3 (by omega); have e5 := B 5 (by omega); have e6 := B 6 (by omega); have e7 := B 7 (by omega); have e10 := B 10 (by omega); have e11 := B 11 (by omega); have e15 := B 15 (by omega)
  refine ⟨by omega, ?_, ?_, ?_⟩
  · have := kE2_b e0 e1 e2 e3 e5 e6 e7 e10 e11 e15; omega
  · have := kE3_b e0 e1 e2 e3 e5 e6 e7 e10 e11 e15; omega
  · rw [E4]; decide
theorem cut_k {T v : Nat → Int32} {g : Nat} {z : Nat → Int} (hz : ∀ j, (T (16 * g + j)).toInt = z j) (hb : ∀ j, j < 16 → (z j).natAbs ≤ 4) (hs : ∀ a b, a < 4 → b < 4 → z (4 * a + b) = z (4 * b + a)) (hv : ∀ j, j < 4 → (pz v j).natAbs ≤ 100) {ld : Nat} (hld : ld < 4) : cAv (zt (zCt z (pz v) ld)) = mTA (mCu T g ld v) ∧ cBv (zt (zCt z (pz v) ld)) = mTB (mCu T g ld v) := by
  have B : ∀ x, x < 16 → (zCt z (pz v) ld x).natAbs ≤ 160000 := fun x hx => zCt_b hb hv hld hx
  have S := zCt_s (p := pz v) hs hld
  have Z : ∀ b, b < 4 → zCt z (pz v) ld (4 * ld + b) = 0 := fun b hb => zCt_0 hb
  have Z' : ∀ b, b < 4 → zCt z (pz v) ld (4 * b + ld) = 0 := fun b hb => by rw [S b ld hb hld]; exact Z b hb
  match ld, hld with
  | 0, hld =>
    (have cr : ∀ {a b x : Nat}, a < 3 → b < 3 → x < 16 → vPr z (zSn 0 (pz v) a) (zSn 0 (pz v) b) = zCt z (pz v) 0 x → Int32.toInt64 (mBo T (mSn 0 v a) (mSn 0 v b) g) = Int64.ofInt (zCt z (pz v) 0 x) := fun ha hb' hx e => cut_r hz hb hv hld ha hb' hx e
     have r0 := cr (by omega) (by omega) (by omega) (ct_000 z (pz v))
     have r1 := cr (by omega) (by omega) (by omega) (ct_001 z (pz v))
     have r2 := cr (by omega) (by omega) (by omega) (ct_002 z (pz v))
     have r5 := cr (by omega) (by omega) (by omega) (ct_011 z (pz v))
     have r6 := cr (by omega) (by omega) (by omega) (ct_012 z (pz v))
     have r10 := cr (by omega) (by omega) (by omega) (ct_022 z (pz v))
     generalize zCt z (pz v) 0 = w at *
     have z0 : w 0 = 0 := Z 0 (by omega)
     have z1 : w 1 = 0 := Z 1 (by omega)
     have z2 : w 2 = 0 := Z 2 (by omega)
     have z3 : w 3 = 0 := Z 3 (by omega)
     have E2 : kE2 (w 0) (w 1) (w 2) (w 3) (w 5) (w 6) (w 7) (w 10) (w 11) (w 15) = ((w 5) * (w 10) - (w 6) * (w 6)) + ((w 5) * (w 15) - (w 7) * (w 7)) + ((w 10) * (w 15) - (w 11) * (w 11)) := by rw [z0, z1, z2, z3]; exact k2_0 (w 5) (w 6) (w 7) (w 10) (w 11) (w 15)
     have E3 : kE3 (w 0) (w 1) (w 2) (w 3) (w 5) (w 6) (w 7) (w 10) (w 11) (w 15) = k3 (w 5) (w 6) (w 7) (w 10) (w 11) (w 15) := by rw [z0, z1, z2, z3]; exact k3_0 (w 5) (w 6) (w 7) (w 10) (w 11) (w 15)
     have E4 : kE4 (w 0) (w 1) (w 2) (w 3) (w 5) (w 6) (w 7) (w 10) (w 11) (w 15) = 0 := by rw [z0, z1, z2, z3]; exact k4_0 (w 5) (w 6) (w 7) (w 10) (w 11) (w 15)
     have ok : zOk w := ct_ok B E4
     exact c3_ok ok (by omega) E2 E3 E4 r0 r1 r2 r5 r6 r10)
  | 1, hld =>
    (have cr : ∀ {a b x : Nat}, a < 3 → b < 3 → x < 16 → vPr z (zSn 1 (pz v) a) (zSn 1 (pz v) b) = zCt z (pz v) 1 x → Int32.toInt64 (mBo T (mSn 1 v a) (mSn 1 v b) g) = Int64.ofInt (zCt z (pz v) 1 x) := fun ha hb' hx e => cut_r hz hb hv hld ha hb' hx e
     have r0 := cr (by omega) (by omega) (by omega) (ct_100 z (pz v))
     have r1 := cr (by omega) (by omega) (by omega) (ct_101 z (pz v))
     have r2 := cr (by omega) (by omega) (by omega) (ct_102 z (pz v))
     have r5 := cr (by omega) (by omega) (by omega) (ct_111 z (pz v))
     have r6 := cr (by omega) (by omega) (by omega) (ct_112 z (pz v))
     have r10 := cr (by omega) (by omega) (by omega) (ct_122 z (pz v))
     generalize zCt z (pz v) 1 = w at *
     have z1 : w 1 = 0 := Z' 0 (by omega)
     have z5 : w 5 = 0 := Z 1 (by omega)
     have z6 : w 6 = 0 := Z 2 (by omega)
     have z7 : w 7 = 0 := Z 3 (by omega)
     have E2 : kE2 (w 0) (w 1) (w 2) (w 3) (w 5) (w 6) (w 7) (w 10) (w 11) (w 15) = ((w 0) * (w 10) - (w 2) * (w 2)) + ((w 0) * (w 15) - (w 3) * (w 3)) + ((w 10) * (w 15) - (w 11) * (w 11)) := by rw [z1, z5, z6, z7]; exact k2_1 (w 0) (w 2) (w 3) (w 10) (w 11) (w 15)
     have E3 : kE3 (w 0) (w 1) (w 2) (w 3) (w 5) (w 6) (w 7) (w 10) (w 11) (w 15) = k3 (w 0) (w 2) (w 3) (w 10) (w 11) (w 15) := by rw [z1, z5, z6, z7]; exact k3_1 (w 0) (w 2) (w 3) (w 10) (w 11) (w 15)
     have E4 : kE4 (w 0) (w 1) (w 2) (w 3) (w 5) (w 6) (w 7) (w 10) (w 11) (w 15) = 0 := by rw [z1, z5, z6, z7]; exact k4_1 (w 0) (w 2) (w 3) (w 10) (w 11) (w 15)
     have ok : zOk w := ct_ok B E4
     exact c3_ok ok (by omega) E2 E3 E4 r0 r1 r2 r5 r6 r10)
  | 2, hld =>
    (have cr : ∀ {a b x : Nat}, a < 3 → b < 3 → x < 16 → vPr z (zSn 2 (pz v) a) (zSn 2 (pz v) b) = zCt z (pz v) 2 x → Int32.toInt64 (mBo T (mSn 2 v a) (mSn 2 v b) g) = Int64.ofInt (zCt z (pz v) 2 x) := fun ha hb' hx e => cut_r hz hb hv hld ha hb' hx e
     have r0 := cr (by omega) (by omega) (by omega) (ct_200 z (pz v))
     have r1 := cr (by omega) (by omega) (by omega) (ct_201 z (pz v))
     have r2 := cr (by omega) (by omega) (by omega) (ct_202 z (pz v))
     have r5 := cr (by omega) (by omega) (by omega) (ct_211 z (pz v))
     have r6 := cr (by omega) (by omega) (by omega) (ct_212 z (pz v))
     have r10 := cr (by omega) (by omega) (by omega) (ct_222 z (pz v))
     generalize zCt z (pz v) 2 = w at *
     have z2 : w 2 = 0 := Z' 0 (by omega)
     have z6 : w 6 = 0 := Z' 1 (by omega)
     have z10 : w 10 = 0 := Z 2 (by omega)
     have z11 : w 11 = 0 := Z 3 (by omega)
     have E2 : kE2 (w 0) (w 1) (w 2) (w 3) (w 5) (w 6) (w 7) (w 10) (w 11) (w 15) = ((w 0) * (w 5) - (w 1) * (w 1)) + ((w 0) * (w 15) - (w 3) * (w 3)) + ((w 5) * (w 15) - (w 7) * (w 7)) := by rw [z2, z6, z10, z11]; exact k2_2 (w 0) (w 1) (w 3) (w 5) (w 7) (w 15)
     have E3 : kE3 (w 0) (w 1) (w 2) (w 3) (w 5) (w 6) (w 7) (w 10) (w 11) (w 15) = k3 (w 0) (w 1) (w 3) (w 5) (w 7) (w 15) := by rw [z2, z6, z10, z11]; exact k3_2 (w 0) (w 1) (w 3) (w 5) (w 7) (w 15)
     have E4 : kE4 (w 0) (w 1) (w 2) (w 3) (w 5) (w 6) (w 7) (w 10) (w 11) (w 15) = 0 := by rw [z2, z6, z10, z11]; exact k4_2 (w 0) (w 1) (w 3) (w 5) (w 7) (w 15)
     have ok : zOk w := ct_ok B E4
     exact c3_ok ok (by omega) E2 E3 E4 r0 r1 r2 r5 r6 r10)
  | 3, hld =>
    (have cr : ∀ {a b x : Nat}, a < 3 → b < 3 → x < 16 → vPr z (zSn 3 (pz v) a) (zSn 3 (pz v) b) = zCt z (pz v) 3 x → Int32.toInt64 (mBo T (mSn 3 v a) (mSn 3 v b) g) = Int64.ofInt (zCt z (pz v) 3 x) := fun ha hb' hx e => cut_r hz hb hv hld ha hb' hx e
     have r0 := cr (by omega) (by omega) (by omega) (ct_300 z (pz v))
     have r1 := cr (by omega) (by omega) (by omega) (ct_301 z (pz v))
     have r2 := cr (by omega) (by omega) (by omega) (ct_302 z (pz v))
     have r5 := cr (by omega) (by omega) (by omega) (ct_311 z (pz v))
     have r6 := cr (by omega) (by omega) (by omega) (ct_312 z (pz v))
     have r10 := cr (by omega) (by omega) (by omega) (ct_322 z (pz v))
     generalize zCt z (pz v) 3 = w at *
     have z3 : w 3 = 0 := Z' 0 (by omega)
     have z7 : w 7 = 0 := Z' 1 (by omega)
     have z11 : w 11 = 0 := Z' 2 (by omega)
     have z15 : w 15 = 0 := Z 3 (by omega)
     have E2 : kE2 (w 0) (w 1) (w 2) (w 3) (w 5) (w 6) (w 7) (w 10) (w 11) (w 15) = ((w 0) * (w 5) - (w 1) * (w 1)) + ((w 0) * (w 10) - (w 2) * (w 2)) + ((w 5) * (w 10) - (w 6) * (w 6)) := by rw [z3, z7, z11, z15]; exact k2_3 (w 0) (w 1) (w 2) (w 5) (w 6) (w 10)
     have E3 : kE3 (w 0) (w 1) (w 2) (w 3) (w 5) (w 6) (w 7) (w 10) (w 11) (w 15) = k3 (w 0) (w 1) (w 2) (w 5) (w 6) (w 10) := by rw [z3, z7, z11, z15]; exact k3_3 (w 0) (w 1) (w 2) (w 5) (w 6) (w 10)
     have E4 : kE4 (w 0) (w 1) (w 2) (w 3) (w 5) (w 6) (w 7) (w 10) (w 11) (w 15) = 0 := by rw [z3, z7, z11, z15]; exact k4_3 (w 0) (w 1) (w 2) (w 5) (w 6) (w 10)
     have ok : zOk w := ct_ok B E4
     exact c3_ok ok (by omega) E2 E3 E4 r0 r1 r2 r5 r6 r10)
def ctW (s : sG) (g x : Nat) : Nat → Int := zCt (tz s g) (pz (rw_ s x)) (ldz (pz (rw_ s x)))
def ctM (a b : Int32) : Int32 := if ((10 * a) + b) < ((10 * b) + a) then ((10 * b) + a) else ((10 * a) + b)
theorem ctM_all : ∀ a b : Fin 5, (if nI a.val ≤ nI b.val then ((10 * nI b.val) + nI a.val) else ((10 * nI a.val) + nI b.val)) = ctM (nI a.val) (nI b.val) := by decide +kernel
theorem ctT_all : ∀ a b : Fin 5, (if ¬ 3 ≤ (nI a.val + nI b.val) then (1 : Int32) else 0) = if 2 < (nI a.val + nI b.val) then 0 else 1 := by decide +kernel
theorem cut_o {z p : Nat → Int} (hb : ∀ j, j < 16 → (z j).natAbs ≤ 4) (hs : ∀ a b, a < 4 → b < 4 → z (4 * a + b) = z (4 * b + a)) (hv : ∀ j, j < 4 → (p j).natAbs ≤ 100) {ld : Nat} (hld : ld < 4) : zOk (zCt z p ld) := by
  have B : ∀ x, x < 16 → (zCt z p ld x).natAbs ≤ 160000 := fun x hx => zCt_b hb hv hld hx
  have S := zCt_s (p := p) hs hld
  have Z : ∀ b, b < 4 → zCt z p ld (4 * ld + b) = 0 := fun b hb => zCt_0 hb
  have Z' : ∀ b, b < 4 → zCt z p ld (4 * b + ld) = 0 := fun b hb => by rw [S b ld hb hld]; exact Z b hb
  refine ct_ok B ?_
  match ld, hld with
  | 0, hld =>
    (generalize zCt z p 0 = w at *
     have z0 : w 0 = 0 := Z 0 (by omega)
     have z1 : w 1 = 0 := Z 1 (by omega)
     have z2 : w 2 = 0 := Z 2 (by omega)
     have z3 : w 3 = 0 := Z 3 (by omega)
     rw [z0, z1, z2, z3]; exact k4_0 (w 5) (w 6) (w 7) (w 10) (w 11) (w 15))
  | 1, hld =>
    (generalize zCt z p 1 = w at *
     have z1 : w 1 = 0 := Z' 0 (by omega)
     have z5 : w 5 = 0 := Z 1 (by omega)
     have z6 : w 6 = 0 := Z 2 (by omega)
     have z7 : w 7 = 0 := Z 3 (by omega)
     rw [z1, z5, z6, z7]; exact k4_1 (w 0) (w 2) (w 3) (w 10) (w 11) (w 15))
  | 2, hld =>
    (generalize zCt z p 2 = w at *
     have z2 : w 2 = 0 := Z' 0 (by omega)
     have z6 : w 6 = 0 := Z' 1 (by omega)
     have z10 : w 10 = 0 := Z 2 (by omega)
     have z11 : w 11 = 0 := Z 3 (by omega)
     rw [z2, z6, z10, z11]; exact k4_2 (w 0) (w 1) (w 3) (w 5) (w 7) (w 15))
  | 3, hld =>
    (generalize zCt z p 3 = w at *
     have z3 : w 3 = 0 := Z' 0 (by omega)
     have z7 : w 7 = 0 := Z' 1 (by omega)
     have z11 : w 11 = 0 := Z' 2 (by omega)
     have z15 : w 15 = 0 := Z 3 (by omega)
     rw [z3, z7, z11, z15]; exact k4_3 (w 0) (w 1) (w 2) (w 5) (w 6) (w 10))
theorem ct_ab {s : sG} (h : wF s) {g x : Nat} (hg : g < 12) (hp : mRg (rw_ s x) 4 100) : ∃ a b : Fin 5, cAv (zt (ctW s g x)) = nI a.val ∧ cBv (zt (ctW s g x)) = nI b.val := by
  have hld : ldz (pz (rw_ s x)) < 4 := by unfold ldz; split; (split; (split <;> omega); omega); omega
  have ok := cut_o (z := tz s g) (p := pz (rw_ s x)) (tz_b (h.2.1 g hg)) (tz_s (h.2.1 g hg)) (pz_b hp) hld
  unfold ctW
  generalize zCt (tz s g) (pz (rw_ s x)) (ldz (pz (rw_ s x))) = w at ok ⊢
  have k := av_ok ok
  obtain ⟨a, b, hab, ea, eb⟩ := ab_4 (sgI_3 _) (sgI_3 _) (sgI_3 _) (sgI_3 _) (okS_k (w 0) (w 1) (w 2) (w 3) (w 5) (w 6) (w 7) (w 10) (w 11) (w 15))
  refine ⟨a, b, ?_, ?_⟩
  · rw [k.1]; unfold mFA; rw [m_e1, m_e2, m_e3, m_e4, mA4_s, mSg_o ok.1, mSg_o ok.2.1, mSg_o ok.2.2.1, mSg_o ok.2.2.2]; exact ea
  · rw [k.2]; unfold mFB; rw [m_e1, m_e2, m_e3, m_e4, mB4_s, mSg_o ok.1, mSg_o ok.2.1, mSg_o ok.2.2.1, mSg_o ok.2.2.2]; exact eb
noncomputable def F_cut (s : sG) (q a : Int32) : Int32 × sG := match gA s q a with
  | .inl r => r
  | .inr (g, x) => (ctM (cAv (zt (ctW s g x))) (cBv (zt (ctW s g x))), s)
noncomputable def F_touches (s : sG) (q a : Int32) : Int32 × sG := match gA s q a with
  | .inl r => r
  | .inr (g, x) => (if 2 < (cAv (zt (ctW s g x)) + cBv (zt (ctW s g x))) then 0 else 1, s)
theorem W_cut {s : sG} (h : wF s) (a1 a2 : Int32) : wF (F_cut s a1 a2).2 := by
  unfold F_cut
  split
  · rename_i e; exact gA_w h e
  · exact h
theorem W_touches {s : sG} (h : wF s) (a1 a2 : Int32) : wF (F_touches s a1 a2).2 := by
  unfold F_touches
  split
  · rename_i e; exact gA_w h e
  · exact h
theorem p0_ {x : Int32} : x.toInt = 0 ↔ x = 0 := by rw [nb_eq, nb_0]
theorem C_cut {g : ma_G} {I : ma_I} {L : ma_L} {P : ma_P} {s : sG} (hW : wF s) (hC : rC s I L) (q_ s_ : Int32) (k : ∀ I1 L1, rC (F_cut s q_ s_).2 I1 L1 → mS I L I1 L1 → P (some (.int (F_cut s q_ s_).1)) HS I1 L1 RF 146) : CT g yX7_cut cX7_cut 4 (some .int) rX7_cut [.ref 3, .int q_, .int s_] P HS I L RF 146 := by
  obtain ⟨hcM, hcN, hcF, hcK, hcT, hcS, hcG⟩ := id hC
  exact t_X7_cut q_ s_ 
    (fun h1 => by
      have e_ : F_cut s q_ s_ = ((-1), s) := by simp only [F_cut, (show ix 12 q_ = none from (ix_n1 h1 ln_12)), gA]
      rw [e_] at k
      dsimp only at k
      exact k _ _ hC mS_rf)
    (fun j2 h2 e3 j5 h5 e6 h7 => by
      subst e3
      subst e6
      have e_ : F_cut s (nI j2) (nI j5) = ((-3), (sM s 1)) := by simp only [F_cut, ix_s (n := 12) h2, ix_s (n := 8) h5, gA, if_pos (kG_m (hcG j2 (by omega)) h7)]
      rw [e_] at k
      dsimp only at k
      exact k _ _ (rC_R hC (by omega)) (mS_R _ _ _))
    (fun j9 h2 e3 j12 h5 e6 h7 h8 h9 => by
      subst e3
      subst e6
      have e_ : F_cut s (nI j9) (nI j12) = ((-3), (sM s 5)) := by simp only [F_cut, ix_s (n := 12) h2, ix_s (n := 8) h5, gA, if_neg (kG_o (hcG j9 (by omega)) h7), if_neg (kS_o (hcS j12 (by omega)) (Decidable.not_not.mp h8)), if_pos (k4_ (kS_e (hcS j12 (by omega)) (kS_o (hcS j12 (by omega)) (Decidable.not_not.mp h8))) h9)]
      rw [e_] at k
      dsimp only at k
      exact k _ _ (rC_R hC (by omega)) (mS_R _ _ _))
    (fun j18 h2 e3 j21 h5 e6 h7 h8 h9 h10 h11 h12 h13 h14 ld104 h16 h17 h18 L111 h20 K108 h22 h23 => by
      subst e3
      subst e6
      have hp_ : ∀ j, j < 4 → Int32.toInt64 (I (40 + 2 * j21) j) = Int64.ofInt (pz (rw_ s j21) j) := fun j hj => by rw [kS_r (hcS j21 (by omega)) (kS_o (hcS j21 (by omega)) (Decidable.not_not.mp h8)) j (by omega)]; exact i2l_o _
      have ht_ : ∀ j, j < 16 → L (57 + 5 * j18) j = Int64.ofInt (tz s j18 j) := fun j hj => ((hcG j18 (by omega)).2.1 j hj).trans (i2l_o _)
      have rg_ : mRg (rw_ s j21) 4 100 := (mRg_c (f := I (40 + 2 * j21)) (f' := rw_ s j21) (n := 4) (w := 100) (fun j hj => kS_r (hcS j21 (by omega)) (kS_o (hcS j21 (by omega)) (Decidable.not_not.mp h8)) j (by omega))).mp h11
      have pb_ := pz_b rg_
      have hu_ : ∀ j, j < 4 → (ma_up (ma_up L 34 (ma_up (ma_up (ma_up (ma_up (L 34) 0 (Int32.toInt64 ((I (40 + 2 * j21)) 0))) 1 (Int32.toInt64 ((I (40 + 2 * j21)) 1))) 2 (Int32.toInt64 ((I (40 + 2 * j21)) 2))) 3 (Int32.toInt64 ((I (40 + 2 * j21)) 3)))) 35 (ma_up (ma_up (ma_up (ma_up (L 35) 0 (Int32.toInt64 ((I (40 + 2 * j21)) 0))) 1 (Int32.toInt64 ((I (40 + 2 * j21)) 1))) 2 (Int32.toInt64 ((I (40 + 2 * j21)) 2))) 3 (Int32.toInt64 ((I (40 + 2 * j21)) 3)))) 34 j = Int64.ofInt (pz (rw_ s j21) j) := (fun j hj => (up4 (fun j => Int32.toInt64 (I (40 + 2 * j21) j)) j hj).trans (hp_ j hj))
      have ld_ : ldz (pz (rw_ s j21)) = ld104 := ldz_e h16 (fun j hj => (o6_0 (by have := pb_ j (by omega); omega)).mp ((hu_ j (by omega)).symm.trans (h17 j hj))) (fun q z => h18 q ((hu_ ld104 (by omega)).trans ((o6_0 (by have := pb_ ld104 (by omega); omega)).mpr z)))
      have r7_ : ∀ j, j < 16 → L111 7 j = zt (ctW s j18 j21) j := fun j hj => by
        rw [h20, ma_up_s]
        unfold ctW
        rw [ld_, ← zt_w (zCt_s (p := pz (rw_ s j21)) (tz_s (hW.2.1 j18 (by omega))) h16) j hj]
        exact (if_pos hj).trans (cCt_o (z := tz s j18) (fun j hj => by rw [ma_up_n _ _ (by omega), ma_up_n _ _ (by omega)]; exact ht_ j hj) hu_ h16 hj)
      have a_ : ((cSg I 6 (L111 7)) 6) 2 = cAv (zt (ctW s j18 j21)) := cAv_c r7_
      have b_ : ((cSg I 6 (L111 7)) 6) 3 = cBv (zt (ctW s j18 j21)) := by show nI (cRk (L111 7)) - cAv (L111 7) = _; unfold cBv; rw [cAv_c r7_, cRk_c r7_]
      have e_ : F_cut s (nI j18) (nI j21) = ((ctM (cAv (zt (ctW s j18 j21))) (cBv (zt (ctW s j18 j21)))), s) := by simp only [F_cut, ix_s (n := 12) h2, ix_s (n := 8) h5, gA, if_neg (kG_o (hcG j18 (by omega)) h7), if_neg (kS_o (hcS j21 (by omega)) (Decidable.not_not.mp h8)), if_neg (n4_ (kS_e (hcS j21 (by omega)) (kS_o (hcS j21 (by omega)) (Decidable.not_not.mp h8))) h9), cIf_p ((mRg_c (f := I (40 + 2 * j21)) (f' := rw_ s j21) (n := 4) (w := 100) (fun j hj => kS_r (hcS j21 (by omega)) (kS_o (hcS j21 (by omega)) (Decidable.not_not.mp h8)) j (by omega))).mp h11), cIf_n (fun z => h13 ((mZr_c (f := I (40 + 2 * j21)) (f' := rw_ s j21) (n := 4) (fun j hj => kS_r (hcS j21 (by omega)) (kS_o (hcS j21 (by omega)) (Decidable.not_not.mp h8)) j (by omega))).mpr z))]
      rw [e_] at k
      dsimp only at k
      rw [a_, b_]
      exact k _ _ (rC_x hC (fun a ha => ma_up_n _ _ (by omega)) (fun a ha => ((h22 a (by omega)).trans (by rw [h20, ma_up_n _ _ (by omega), ma_up_n _ _ (by omega), ma_up_n _ _ (by omega)])))) ⟨fun a ha => ma_up_n _ _ (by omega), fun a ha => ((h22 a (by omega)).trans (by rw [h20, ma_up_n _ _ (by omega), ma_up_n _ _ (by omega), ma_up_n _ _ (by omega)]))⟩)
    (fun j32 h2 e3 j35 h5 e6 h7 h8 h9 h10 h11 h12 h13 h14 => by
      subst e3
      subst e6
      exact absurd h14 h13)
    (fun j46 h2 e3 j49 h5 e6 h7 h8 h9 h10 h11 h12 h13 => by
      subst e3
      subst e6
      have e_ : F_cut s (nI j46) (nI j49) = ((-3), (sM s 4)) := by simp only [F_cut, ix_s (n := 12) h2, ix_s (n := 8) h5, gA, if_neg (kG_o (hcG j46 (by omega)) h7), if_neg (kS_o (hcS j49 (by omega)) (Decidable.not_not.mp h8)), if_neg (n4_ (kS_e (hcS j49 (by omega)) (kS_o (hcS j49 (by omega)) (Decidable.not_not.mp h8))) h9), cIf_p ((mRg_c (f := I (40 + 2 * j49)) (f' := rw_ s j49) (n := 4) (w := 100) (fun j hj => kS_r (hcS j49 (by omega)) (kS_o (hcS j49 (by omega)) (Decidable.not_not.mp h8)) j (by omega))).mp h11), cIf_p ((mZr_c (f := I (40 + 2 * j49)) (f' := rw_ s j49) (n := 4) (fun j hj => kS_r (hcS j49 (by omega)) (kS_o (hcS j49 (by omega)) (Decidable.not_not.mp h8)) j (by omega))).mp h13)]
      rw [e_] at k
      dsimp only at k
      exact k _ _ (rC_R hC (by omega)) (mS_R _ _ _))
    (fun j59 h2 e3 j62 h5 e6 h7 h8 h9 h10 h11 h12 => by
      subst e3
      subst e6
      exact absurd h11 h12)
    (fun j71 h2 e3 j74 h5 e6 h7 h8 h9 h10 h11 => by
      subst e3
      subst e6
      have e_ : F_cut s (nI j71) (nI j74) = ((-3), (sM s 2)) := by simp only [F_cut, ix_s (n := 12) h2, ix_s (n := 8) h5, gA, if_neg (kG_o (hcG j71 (by omega)) h7), if_neg (kS_o (hcS j74 (by omega)) (Decidable.not_not.mp h8)), if_neg (n4_ (kS_e (hcS j74 (by omega)) (kS_o (hcS j74 (by omega)) (Decidable.not_not.mp h8))) h9), cIf_n (fun z => h11 ((mRg_c (f := I (40 + 2 * j74)) (f' := rw_ s j74) (n := 4) (w := 100) (fun j hj => kS_r (hcS j74 (by omega)) (kS_o (hcS j74 (by omega)) (Decidable.not_not.mp h8)) j (by omega))).mpr z))]
      rw [e_] at k
      dsimp only at k
      exact k _ _ (rC_R hC (by omega)) (mS_R _ _ _))
    (fun j82 h2 e3 j85 h5 e6 h7 h8 h9 h10 => by
      subst e3
      subst e6
      exact absurd (m4_ h10) h9)
    (fun j92 h2 e3 j95 h5 e6 h7 h8 => by
      subst e3
      subst e6
      have e_ : F_cut s (nI j92) (nI j95) = ((-3), (sM s 1)) := by simp only [F_cut, ix_s (n := 12) h2, ix_s (n := 8) h5, gA, if_neg (kG_o (hcG j92 (by omega)) h7), if_pos (kS_m (hcS j95 (by omega)) h8)]
      rw [e_] at k
      dsimp only at k
      exact k _ _ (rC_R hC (by omega)) (mS_R _ _ _))
    (fun j100 h2 e3 h4 => by
      subst e3
      have e_ : F_cut s (nI j100) s_ = ((-1), s) := by simp only [F_cut, ix_s (n := 12) h2, (show ix 8 s_ = none from (ix_n1 h4 ln_8)), gA]
      rw [e_] at k
      dsimp only at k
      exact k _ _ hC mS_rf)
theorem M_cut {g : ma_G} {I : ma_I} {L : ma_L} {P : ma_P} (hW : wF (ob I L))  (q_ s_ : Int32) (k : ∀ I2 L2, ob I2 L2 = (F_cut (ob I L) q_ s_).2 → cS I L I2 L2 → P (some (.int (F_cut (ob I L) q_ s_).1)) HS I2 L2 RF 146) : CT g yX8_cut cX8_cut 4 (some .int) rX8_cut [.ref 115, .int q_, .int s_] P HS I L RF 146 := by
  exact t_X8_cut q_ s_ 
    (fun h1 => by
      have e_ : F_cut (ob I L) q_ s_ = ((-1), (ob I L)) := by simp only [F_cut, (show ix 12 q_ = none from (ix_n2 h1 li_12)), gA]
      rw [e_] at k
      dsimp only at k
      exact k _ _ rfl cS_rf)
    (fun j2 h2 e3 j5 h5 e6 h7 => by
      subst e3
      subst e6
      have e_ : F_cut (ob I L) (nI j2) (nI j5) = ((-3), (sM (ob I L) 1)) := by simp only [F_cut, ix_s (n := 12) h2, ix_s (n := 8) h5, gA, if_pos (show (ob I L).1 122 j2 = 0 from h7)]
      rw [e_] at k
      dsimp only at k
      exact k _ _ (ob_M _ _ _) (cS_M _ _ _))
    (fun j9 h2 e3 j12 h5 e6 h7 h8 h9 j18 j19 h12 h13 h14 ld J K h18 h19 h20 h21 h22 h23 h24 => by
      subst e3
      subst e6
      have rg_ : mRg (rw_ (ob I L) j12) 4 100 := h12.1.2.mp (h12.1.1.elim (fun z => absurd z h13) id)
      have ld_ : ldz (pz (rw_ (ob I L) j12)) = ld := ldz_e h18 (fun j hj => p0_.mpr (h20 j hj)) (fun _ z => h19 (p0_.mp z))
      have ck_ := cut_k (T := I 123) (v := rw_ (ob I L) j12) (g := j9) (z := tz (ob I L) j9) (fun j => rfl) (tz_b (hW.2.1 j9 (by omega))) (tz_s (hW.2.1 j9 (by omega))) (pz_b rg_) h18
      have a_ : (J 115) 9 = cAv (zt (ctW (ob I L) j9 j12)) := by unfold ctW; rw [ld_]; exact h21.trans ck_.1.symm
      have b_ : (J 115) 10 = cBv (zt (ctW (ob I L) j9 j12)) := by unfold ctW; rw [ld_]; exact h22.trans ck_.2.symm
      obtain ⟨va_, vb_, qa_, qb_⟩ := ct_ab hW (g := j9) (by omega) rg_
      have e_ : F_cut (ob I L) (nI j9) (nI j12) = ((ctM (cAv (zt (ctW (ob I L) j9 j12))) (cBv (zt (ctW (ob I L) j9 j12)))), (ob I L)) := by simp only [F_cut, ix_s (n := 12) h2, ix_s (n := 8) h5, gA, if_neg (show ¬ (ob I L).1 122 j9 = 0 from h7), if_neg (kS_w (s := ob I L) h8), if_neg (show ¬ (ob I L).1 117 j12 < 4 from l4_ h9), cIf_p (show mRg (rw_ (ob I L) j12) 4 100 from h12.1.2.mp (h12.1.1.elim (fun z => absurd z h13) id)), cIf_n (show ¬ mZr (rw_ (ob I L) j12) 4 from fun z => absurd (h12.2.2.mpr z) (by rw [h14]; decide))]
      rw [e_] at k
      dsimp only at k
      rw [a_, b_]
      rw [qa_, qb_] at k ⊢
      rw [ctM_all]
      exact k _ _ (by unfold ob; rw [oI_sx h23 rfl rfl, oL_sl h24 rfl]) (cS_sx h23 h24 rfl rfl))
    (fun j23 h2 e3 j26 h5 e6 h7 h8 h9 j32 j33 h12 h13 h14 => by
      subst e3
      subst e6
      have e_ : F_cut (ob I L) (nI j23) (nI j26) = ((-3), (sM (ob I L) 4)) := by simp only [F_cut, ix_s (n := 12) h2, ix_s (n := 8) h5, gA, if_neg (show ¬ (ob I L).1 122 j23 = 0 from h7), if_neg (kS_w (s := ob I L) h8), if_neg (show ¬ (ob I L).1 117 j26 < 4 from l4_ h9), cIf_p (show mRg (rw_ (ob I L) j26) 4 100 from h12.1.2.mp (h12.1.1.elim (fun z => absurd z h13) id)), cIf_p (show mZr (rw_ (ob I L) j26) 4 from h12.2.2.mp (h12.2.1.elim (fun z => absurd z h14) id))]
      rw [e_] at k
      dsimp only at k
      exact k _ _ ((ob_M _ _ _).trans (congrArg (fun z => sM z 4) (ob_126 _ _ _))) (cS_tr (cS_126 _ _ _) (cS_M _ _ _)))
    (fun j37 h2 e3 j40 h5 e6 h7 h8 h9 j46 j47 h12 h13 => by
      subst e3
      subst e6
      have e_ : F_cut (ob I L) (nI j37) (nI j40) = ((-3), (sM (ob I L) 2)) := by simp only [F_cut, ix_s (n := 12) h2, ix_s (n := 8) h5, gA, if_neg (show ¬ (ob I L).1 122 j37 = 0 from h7), if_neg (kS_w (s := ob I L) h8), if_neg (show ¬ (ob I L).1 117 j40 < 4 from l4_ h9), cIf_n (show ¬ mRg (rw_ (ob I L) j40) 4 100 from fun z => absurd (h12.1.2.mpr z) (by rw [h13]; decide))]
      rw [e_] at k
      dsimp only at k
      exact k _ _ ((ob_M _ _ _).trans (congrArg (fun z => sM z 2) (ob_126 _ _ _))) (cS_tr (cS_126 _ _ _) (cS_M _ _ _)))
    (fun j50 h2 e3 j53 h5 e6 h7 h8 h9 => by
      subst e3
      subst e6
      have e_ : F_cut (ob I L) (nI j50) (nI j53) = ((-3), (sM (ob I L) 5)) := by simp only [F_cut, ix_s (n := 12) h2, ix_s (n := 8) h5, gA, if_neg (show ¬ (ob I L).1 122 j50 = 0 from h7), if_neg (kS_w (s := ob I L) h8), if_pos (show (ob I L).1 117 j53 < 4 from m4_ h9)]
      rw [e_] at k
      dsimp only at k
      exact k _ _ (ob_M _ _ _) (cS_M _ _ _))
    (fun j59 h2 e3 j62 h5 e6 h7 h8 => by
      subst e3
      subst e6
      have e_ : F_cut (ob I L) (nI j59) (nI j62) = ((-3), (sM (ob I L) 1)) := by simp only [F_cut, ix_s (n := 12) h2, ix_s (n := 8) h5, gA, if_neg (show ¬ (ob I L).1 122 j59 = 0 from h7), if_pos (kS_y (s := ob I L) h8)]
      rw [e_] at k
      dsimp only at k
      exact k _ _ (ob_M _ _ _) (cS_M _ _ _))
    (fun j67 h2 e3 h4 => by
      subst e3
      have e_ : F_cut (ob I L) (nI j67) s_ = ((-1), (ob I L)) := by simp only [F_cut, ix_s (n := 12) h2, (show ix 8 s_ = none from (ix_n2 h4 li_8)), gA]
      rw [e_] at k
      dsimp only at k
      exact k _ _ rfl cS_rf)
theorem p_cut {g : ma_G} {I : ma_I} {L : ma_L} {P1 : ma_P} (hI : INV I L) (a1 a2 : Int32) (k : ∀ (r : Int32) (I1 : ma_I) (L1 : ma_L), (∀ {P2 : ma_P}, (∀ (I2 : ma_I) (L2 : ma_L), INV I2 L2 → P2 (some (.int r)) HS I2 L2 RF 146) → CT g yX8_cut cX8_cut 4 (some .int) rX8_cut [.ref 115, .int a1, .int a2] P2 HS I1 L1 RF 146) → P1 (some (.int r)) HS I1 L1 RF 146) : CT g yX7_cut cX7_cut 4 (some .int) rX7_cut [.ref 3, .int a1, .int a2] P1 HS I L RF 146 :=
  pair_i (F := F_cut (ob I L) a1 a2) hI (W_cut hI.1 a1 a2) (fun P kk => C_cut hI.1 hI.2 a1 a2 kk) (fun I1 L1 P e kk => M_cut (by rw [e]; exact hI.1)  a1 a2 (by rw [e]; exact kk)) k
theorem C_touches {g : ma_G} {I : ma_I} {L : ma_L} {P : ma_P} {s : sG} (hW : wF s) (hC : rC s I L) (q_ s_ : Int32) (k : ∀ I1 L1, rC (F_touches s q_ s_).2 I1 L1 → mS I L I1 L1 → P (some (.int (F_touches s q_ s_).1)) HS I1 L1 RF 146) : CT g yX7_touches cX7_touches 4 (some .int) rX7_touches [.ref 3, .int q_, .int s_] P HS I L RF 146 := by
  obtain ⟨hcM, hcN, hcF, hcK, hcT, hcS, hcG⟩ := id hC
  exact t_X7_touches q_ s_ 
    (fun h1 => by
      have e_ : F_touches s q_ s_ = ((-1), s) := by simp only [F_touches, (show ix 12 q_ = none from (ix_n1 h1 ln_12)), gA]
      rw [e_] at k
      dsimp only at k
      exact k _ _ hC mS_rf)
    (fun j2 h2 e3 j5 h5 e6 h7 => by
      subst e3
      subst e6
      have e_ : F_touches s (nI j2) (nI j5) = ((-3), (sM s 1)) := by simp only [F_touches, ix_s (n := 12) h2, ix_s (n := 8) h5, gA, if_pos (kG_m (hcG j2 (by omega)) h7)]
      rw [e_] at k
      dsimp only at k
      exact k _ _ (rC_R hC (by omega)) (mS_R _ _ _))
    (fun j9 h2 e3 j12 h5 e6 h7 h8 h9 => by
      subst e3
      subst e6
      have e_ : F_touches s (nI j9) (nI j12) = ((-3), (sM s 5)) := by simp only [F_touches, ix_s (n := 12) h2, ix_s (n := 8) h5, gA, if_neg (kG_o (hcG j9 (by omega)) h7), if_neg (kS_o (hcS j12 (by omega)) (Decidable.not_not.mp h8)), if_pos (k4_ (kS_e (hcS j12 (by omega)) (kS_o (hcS j12 (by omega)) (Decidable.not_not.mp h8))) h9)]
      rw [e_] at k
      dsimp only at k
      exact k _ _ (rC_R hC (by omega)) (mS_R _ _ _))
    (fun j18 h2 e3 j21 h5 e6 h7 h8 h9 h10 h11 h12 h13 h14 ld104 h16 h17 h18 L111 h20 K108 h22 h23 h24 => by
      subst e3
      subst e6
      have hp_ : ∀ j, j < 4 → Int32.toInt64 (I (40 + 2 * j21) j) = Int64.ofInt (pz (rw_ s j21) j) := fun j hj => by rw [kS_r (hcS j21 (by omega)) (kS_o (hcS j21 (by omega)) (Decidable.not_not.mp h8)) j (by omega)]; exact i2l_o _
      have ht_ : ∀ j, j < 16 → L (57 + 5 * j18) j = Int64.ofInt (tz s j18 j) := fun j hj => ((hcG j18 (by omega)).2.1 j hj).trans (i2l_o _)
      have rg_ : mRg (rw_ s j21) 4 100 := (mRg_c (f := I (40 + 2 * j21)) (f' := rw_ s j21) (n := 4) (w := 100) (fun j hj => kS_r (hcS j21 (by omega)) (kS_o (hcS j21 (by omega)) (Decidable.not_not.mp h8)) j (by omega))).mp h11
      have pb_ := pz_b rg_
      have hu_ : ∀ j, j < 4 → (ma_up (ma_up L 34 (ma_up (ma_up (ma_up (ma_up (L 34) 0 (Int32.toInt64 ((I (40 + 2 * j21)) 0))) 1 (Int32.toInt64 ((I (40 + 2 * j21)) 1))) 2 (Int32.toInt64 ((I (40 + 2 * j21)) 2))) 3 (Int32.toInt64 ((I (40 + 2 * j21)) 3)))) 35 (ma_up (ma_up (ma_up (ma_up (L 35) 0 (Int32.toInt64 ((I (40 + 2 * j21)) 0))) 1 (Int32.toInt64 ((I (40 + 2 * j21)) 1))) 2 (Int32.toInt64 ((I (40 + 2 * j21)) 2))) 3 (Int32.toInt64 ((I (40 + 2 * j21)) 3)))) 34 j = Int64.ofInt (pz (rw_ s j21) j) := (fun j hj => (up4 (fun j => Int32.toInt64 (I (40 + 2 * j21) j)) j hj).trans (hp_ j hj))
      have ld_ : ldz (pz (rw_ s j21)) = ld104 := ldz_e h16 (fun j hj => (o6_0 (by have := pb_ j (by omega); omega)).mp ((hu_ j (by omega)).symm.trans (h17 j hj))) (fun q z => h18 q ((hu_ ld104 (by omega)).trans ((o6_0 (by have := pb_ ld104 (by omega); omega)).mpr z)))
      have r7_ : ∀ j, j < 16 → L111 7 j = zt (ctW s j18 j21) j := fun j hj => by
        rw [h20, ma_up_s]
        unfold ctW
        rw [ld_, ← zt_w (zCt_s (p := pz (rw_ s j21)) (tz_s (hW.2.1 j18 (by omega))) h16) j hj]
        exact (if_pos hj).trans (cCt_o (z := tz s j18) (fun j hj => by rw [ma_up_n _ _ (by omega), ma_up_n _ _ (by omega)]; exact ht_ j hj) hu_ h16 hj)
      have a_ : ((cSg I 6 (L111 7)) 6) 2 = cAv (zt (ctW s j18 j21)) := cAv_c r7_
      have b_ : ((cSg I 6 (L111 7)) 6) 3 = cBv (zt (ctW s j18 j21)) := by show nI (cRk (L111 7)) - cAv (L111 7) = _; unfold cBv; rw [cAv_c r7_, cRk_c r7_]
      have tt_ := h24
      rw [a_, b_] at tt_
      have e_ : F_touches s (nI j18) (nI j21) = (0, s) := by simp only [F_touches, ix_s (n := 12) h2, ix_s (n := 8) h5, gA, if_neg (kG_o (hcG j18 (by omega)) h7), if_neg (kS_o (hcS j21 (by omega)) (Decidable.not_not.mp h8)), if_neg (n4_ (kS_e (hcS j21 (by omega)) (kS_o (hcS j21 (by omega)) (Decidable.not_not.mp h8))) h9), cIf_p ((mRg_c (f := I (40 + 2 * j21)) (f' := rw_ s j21) (n := 4) (w := 100) (fun j hj => kS_r (hcS j21 (by omega)) (kS_o (hcS j21 (by omega)) (Decidable.not_not.mp h8)) j (by omega))).mp h11), cIf_n (fun z => h13 ((mZr_c (f := I (40 + 2 * j21)) (f' := rw_ s j21) (n := 4) (fun j hj => kS_r (hcS j21 (by omega)) (kS_o (hcS j21 (by omega)) (Decidable.not_not.mp h8)) j (by omega))).mpr z)), if_pos tt_]
      rw [e_] at k
      dsimp only at k
      exact k _ _ (rC_x hC (fun a ha => ma_up_n _ _ (by omega)) (fun a ha => ((h22 a (by omega)).trans (by rw [h20, ma_up_n _ _ (by omega), ma_up_n _ _ (by omega), ma_up_n _ _ (by omega)])))) ⟨fun a ha => ma_up_n _ _ (by omega), fun a ha => ((h22 a (by omega)).trans (by rw [h20, ma_up_n _ _ (by omega), ma_up_n _ _ (by omega), ma_up_n _ _ (by omega)]))⟩)
    (fun j18 h2 e3 j21 h5 e6 h7 h8 h9 h10 h11 h12 h13 h14 ld104 h16 h17 h18 L111 h20 K108 h22 h23 h24 => by
      subst e3
      subst e6
      have hp_ : ∀ j, j < 4 → Int32.toInt64 (I (40 + 2 * j21) j) = Int64.ofInt (pz (rw_ s j21) j) := fun j hj => by rw [kS_r (hcS j21 (by omega)) (kS_o (hcS j21 (by omega)) (Decidable.not_not.mp h8)) j (by omega)]; exact i2l_o _
      have ht_ : ∀ j, j < 16 → L (57 + 5 * j18) j = Int64.ofInt (tz s j18 j) := fun j hj => ((hcG j18 (by omega)).2.1 j hj).trans (i2l_o _)
      have rg_ : mRg (rw_ s j21) 4 100 := (mRg_c (f := I (40 + 2 * j21)) (f' := rw_ s j21) (n := 4) (w := 100) (fun j hj => kS_r (hcS j21 (by omega)) (kS_o (hcS j21 (by omega)) (Decidable.not_not.mp h8)) j (by omega))).mp h11
      have pb_ := pz_b rg_
      have hu_ : ∀ j, j < 4 → (ma_up (ma_up L 34 (ma_up (ma_up (ma_up (ma_up (L 34) 0 (Int32.toInt64 ((I (40 + 2 * j21)) 0))) 1 (Int32.toInt64 ((I (40 + 2 * j21)) 1))) 2 (Int32.toInt64 ((I (40 + 2 * j21)) 2))) 3 (Int32.toInt64 ((I (40 + 2 * j21)) 3)))) 35 (ma_up (ma_up (ma_up (ma_up (L 35) 0 (Int32.toInt64 ((I (40 + 2 * j21)) 0))) 1 (Int32.toInt64 ((I (40 + 2 * j21)) 1))) 2 (Int32.toInt64 ((I (40 + 2 * j21)) 2))) 3 (Int32.toInt64 ((I (40 + 2 * j21)) 3)))) 34 j = Int64.ofInt (pz (rw_ s j21) j) := (fun j hj => (up4 (fun j => Int32.toInt64 (I (40 + 2 * j21) j)) j hj).trans (hp_ j hj))
      have ld_ : ldz (pz (rw_ s j21)) = ld104 := ldz_e h16 (fun j hj => (o6_0 (by have := pb_ j (by omega); omega)).mp ((hu_ j (by omega)).symm.trans (h17 j hj))) (fun q z => h18 q ((hu_ ld104 (by omega)).trans ((o6_0 (by have := pb_ ld104 (by omega); omega)).mpr z)))
      have r7_ : ∀ j, j < 16 → L111 7 j = zt (ctW s j18 j21) j := fun j hj => by
        rw [h20, ma_up_s]
        unfold ctW
        rw [ld_, ← zt_w (zCt_s (p := pz (rw_ s j21)) (tz_s (hW.2.1 j18 (by omega))) h16) j hj]
        exact (if_pos hj).trans (cCt_o (z := tz s j18) (fun j hj => by rw [ma_up_n _ _ (by omega), ma_up_n _ _ (by omega)]; exact ht_ j hj) hu_ h16 hj)
      have a_ : ((cSg I 6 (L111 7)) 6) 2 = cAv (zt (ctW s j18 j21)) := cAv_c r7_
      have b_ : ((cSg I 6 (L111 7)) 6) 3 = cBv (zt (ctW s j18 j21)) := by show nI (cRk (L111 7)) - cAv (L111 7) = _; unfold cBv; rw [cAv_c r7_, cRk_c r7_]
      have tt_ := h24
      rw [a_, b_] at tt_
      have e_ : F_touches s (nI j18) (nI j21) = (1, s) := by simp only [F_touches, ix_s (n := 12) h2, ix_s (n := 8) h5, gA, if_neg (kG_o (hcG j18 (by omega)) h7), if_neg (kS_o (hcS j21 (by omega)) (Decidable.not_not.mp h8)), if_neg (n4_ (kS_e (hcS j21 (by omega)) (kS_o (hcS j21 (by omega)) (Decidable.not_not.mp h8))) h9), cIf_p ((mRg_c (f := I (40 + 2 * j21)) (f' := rw_ s j21) (n := 4) (w := 100) (fun j hj => kS_r (hcS j21 (by omega)) (kS_o (hcS j21 (by omega)) (Decidable.not_not.mp h8)) j (by omega))).mp h11), cIf_n (fun z => h13 ((mZr_c (f := I (40 + 2 * j21)) (f' := rw_ s j21) (n := 4) (fun j hj => kS_r (hcS j21 (by omega)) (kS_o (hcS j21 (by omega)) (Decidable.not_not.mp h8)) j (by omega))).mpr z)), if_neg tt_]
      rw [e_] at k
      dsimp only at k
      exact k _ _ (rC_x hC (fun a ha => ma_up_n _ _ (by omega)) (fun a ha => ((h22 a (by omega)).trans (by rw [h20, ma_up_n _ _ (by omega), ma_up_n _ _ (by omega), ma_up_n _ _ (by omega)])))) ⟨fun a ha => ma_up_n _ _ (by omega), fun a ha => ((h22 a (by omega)).trans (by rw [h20, ma_up_n _ _ (by omega), ma_up_n _ _ (by omega), ma_up_n _ _ (by omega)]))⟩)
    (fun j32 h2 e3 j35 h5 e6 h7 h8 h9 h10 h11 h12 h13 h14 => by
      subst e3
      subst e6
      exact absurd h14 h13)
    (fun j46 h2 e3 j49 h5 e6 h7 h8 h9 h10 h11 h12 h13 => by
      subst e3
      subst e6
      have e_ : F_touches s (nI j46) (nI j49) = ((-3), (sM s 4)) := by simp only [F_touches, ix_s (n := 12) h2, ix_s (n := 8) h5, gA, if_neg (kG_o (hcG j46 (by omega)) h7), if_neg (kS_o (hcS j49 (by omega)) (Decidable.not_not.mp h8)), if_neg (n4_ (kS_e (hcS j49 (by omega)) (kS_o (hcS j49 (by omega)) (Decidable.not_not.mp h8))) h9), cIf_p ((mRg_c (f := I (40 + 2 * j49)) (f' := rw_ s j49) (n := 4) (w := 100) (fun j hj => kS_r (hcS j49 (by omega)) (kS_o (hcS j49 (by omega)) (Decidable.not_not.mp h8)) j (by omega))).mp h11), cIf_p ((mZr_c (f := I (40 + 2 * j49)) (f' := rw_ s j49) (n := 4) (fun j hj => kS_r (hcS j49 (by omega)) (kS_o (hcS j49 (by omega)) (Decidable.not_not.mp h8)) j (by omega))).mp h13)]
      rw [e_] at k
      dsimp only at k
      exact k _ _ (rC_R hC (by omega)) (mS_R _ _ _))
    (fun j59 h2 e3 j62 h5 e6 h7 h8 h9 h10 h11 h12 => by
      subst e3
      subst e6
      exact absurd h11 h12)
    (fun j71 h2 e3 j74 h5 e6 h7 h8 h9 h10 h11 => by
      subst e3
      subst e6
      have e_ : F_touches s (nI j71) (nI j74) = ((-3), (sM s 2)) := by simp only [F_touches, ix_s (n := 12) h2, ix_s (n := 8) h5, gA, if_neg (kG_o (hcG j71 (by omega)) h7), if_neg (kS_o (hcS j74 (by omega)) (Decidable.not_not.mp h8)), if_neg (n4_ (kS_e (hcS j74 (by omega)) (kS_o (hcS j74 (by omega)) (Decidable.not_not.mp h8))) h9), cIf_n (fun z => h11 ((mRg_c (f := I (40 + 2 * j74)) (f' := rw_ s j74) (n := 4) (w := 100) (fun j hj => kS_r (hcS j74 (by omega)) (kS_o (hcS j74 (by omega)) (Decidable.not_not.mp h8)) j (by omega))).mpr z))]
      rw [e_] at k
      dsimp only at k
      exact k _ _ (rC_R hC (by omega)) (mS_R _ _ _))
    (fun j82 h2 e3 j85 h5 e6 h7 h8 h9 h10 => by
      subst e3
      subst e6
      exact absurd (m4_ h10) h9)
    (fun j92 h2 e3 j95 h5 e6 h7 h8 => by
      subst e3
      subst e6
      have e_ : F_touches s (nI j92) (nI j95) = ((-3), (sM s 1)) := by simp only [F_touches, ix_s (n := 12) h2, ix_s (n := 8) h5, gA, if_neg (kG_o (hcG j92 (by omega)) h7), if_pos (kS_m (hcS j95 (by omega)) h8)]
      rw [e_] at k
      dsimp only at k
      exact k _ _ (rC_R hC (by omega)) (mS_R _ _ _))
    (fun j100 h2 e3 h4 => by
      subst e3
      have e_ : F_touches s (nI j100) s_ = ((-1), s) := by simp only [F_touches, ix_s (n := 12) h2, (show ix 8 s_ = none from (ix_n1 h4 ln_8)), gA]
      rw [e_] at k
      dsimp only at k
      exact k _ _ hC mS_rf)
theorem M_touches {g : ma_G} {I : ma_I} {L : ma_L} {P : ma_P} (hW : wF (ob I L))  (q_ s_ : Int32) (k : ∀ I2 L2, ob I2 L2 = (F_touches (ob I L) q_ s_).2 → cS I L I2 L2 → P (some (.int (F_touches (ob I L) q_ s_).1)) HS I2 L2 RF 146) : CT g yX8_touches cX8_touches 4 (some .int) rX8_touches [.ref 115, .int q_, .int s_] P HS I L RF 146 := by
  exact t_X8_touches q_ s_ 
    (fun h1 => by
      have e_ : F_touches (ob I L) q_ s_ = ((-1), (ob I L)) := by simp only [F_touches, (show ix 12 q_ = none from (ix_n2 h1 li_12)), gA]
      rw [e_] at k
      dsimp only at k
      exact k _ _ rfl cS_rf)
    (fun j2 h2 e3 j5 h5 e6 h7 => by
      subst e3
      subst e6
      have e_ : F_touches (ob I L) (nI j2) (nI j5) = ((-3), (sM (ob I L) 1)) := by simp only [F_touches, ix_s (n := 12) h2, ix_s (n := 8) h5, gA, if_pos (show (ob I L).1 122 j2 = 0 from h7)]
      rw [e_] at k
      dsimp only at k
      exact k _ _ (ob_M _ _ _) (cS_M _ _ _))
    (fun j9 h2 e3 j12 h5 e6 h7 h8 h9 j18 j19 h12 h13 h14 ld J K h18 h19 h20 h21 h22 h23 h24 => by
      subst e3
      subst e6
      have rg_ : mRg (rw_ (ob I L) j12) 4 100 := h12.1.2.mp (h12.1.1.elim (fun z => absurd z h13) id)
      have ld_ : ldz (pz (rw_ (ob I L) j12)) = ld := ldz_e h18 (fun j hj => p0_.mpr (h20 j hj)) (fun _ z => h19 (p0_.mp z))
      have ck_ := cut_k (T := I 123) (v := rw_ (ob I L) j12) (g := j9) (z := tz (ob I L) j9) (fun j => rfl) (tz_b (hW.2.1 j9 (by omega))) (tz_s (hW.2.1 j9 (by omega))) (pz_b rg_) h18
      have a_ : (J 115) 9 = cAv (zt (ctW (ob I L) j9 j12)) := by unfold ctW; rw [ld_]; exact h21.trans ck_.1.symm
      have b_ : (J 115) 10 = cBv (zt (ctW (ob I L) j9 j12)) := by unfold ctW; rw [ld_]; exact h22.trans ck_.2.symm
      obtain ⟨va_, vb_, qa_, qb_⟩ := ct_ab hW (g := j9) (by omega) rg_
      have e_ : F_touches (ob I L) (nI j9) (nI j12) = ((if 2 < ((cAv (zt (ctW (ob I L) j9 j12))) + (cBv (zt (ctW (ob I L) j9 j12)))) then 0 else 1), (ob I L)) := by simp only [F_touches, ix_s (n := 12) h2, ix_s (n := 8) h5, gA, if_neg (show ¬ (ob I L).1 122 j9 = 0 from h7), if_neg (kS_w (s := ob I L) h8), if_neg (show ¬ (ob I L).1 117 j12 < 4 from l4_ h9), cIf_p (show mRg (rw_ (ob I L) j12) 4 100 from h12.1.2.mp (h12.1.1.elim (fun z => absurd z h13) id)), cIf_n (show ¬ mZr (rw_ (ob I L) j12) 4 from fun z => absurd (h12.2.2.mpr z) (by rw [h14]; decide))]
      rw [e_] at k
      dsimp only at k
      rw [a_, b_]
      rw [qa_, qb_] at k ⊢
      rw [ctT_all]
      exact k _ _ (by unfold ob; rw [oI_sx h23 rfl rfl, oL_sl h24 rfl]) (cS_sx h23 h24 rfl rfl))
    (fun j23 h2 e3 j26 h5 e6 h7 h8 h9 j32 j33 h12 h13 h14 => by
      subst e3
      subst e6
      have e_ : F_touches (ob I L) (nI j23) (nI j26) = ((-3), (sM (ob I L) 4)) := by simp only [F_touches, ix_s (n := 12) h2, ix_s (n := 8) h5, gA, if_neg (show ¬ (ob I L).1 122 j23 = 0 from h7), if_neg (kS_w (s := ob I L) h8), if_neg (show ¬ (ob I L).1 117 j26 < 4 from l4_ h9), cIf_p (show mRg (rw_ (ob I L) j26) 4 100 from h12.1.2.mp (h12.1.1.elim (fun z => absurd z h13) id)), cIf_p (show mZr (rw_ (ob I L) j26) 4 from h12.2.2.mp (h12.2.1.elim (fun z => absurd z h14) id))]
      rw [e_] at k
      dsimp only at k
      exact k _ _ ((ob_M _ _ _).trans (congrArg (fun z => sM z 4) (ob_126 _ _ _))) (cS_tr (cS_126 _ _ _) (cS_M _ _ _)))
    (fun j37 h2 e3 j40 h5 e6 h7 h8 h9 j46 j47 h12 h13 => by
      subst e3
      subst e6
      have e_ : F_touches (ob I L) (nI j37) (nI j40) = ((-3), (sM (ob I L) 2)) := by simp only [F_touches, ix_s (n := 12) h2, ix_s (n := 8) h5, gA, if_neg (show ¬ (ob I L).1 122 j37 = 0 from h7), if_neg (kS_w (s := ob I L) h8), if_neg (show ¬ (ob I L).1 117 j40 < 4 from l4_ h9), cIf_n (show ¬ mRg (rw_ (ob I L) j40) 4 100 from fun z => absurd (h12.1.2.mpr z) (by rw [h13]; decide))]
      rw [e_] at k
      dsimp only at k
      exact k _ _ ((ob_M _ _ _).trans (congrArg (fun z => sM z 2) (ob_126 _ _ _))) (cS_tr (cS_126 _ _ _) (cS_M _ _ _)))
    (fun j50 h2 e3 j53 h5 e6 h7 h8 h9 => by
      subst e3
      subst e6
      have e_ : F_touches (ob I L) (nI j50) (nI j53) = ((-3), (sM (ob I L) 5)) := by simp only [F_touches, ix_s (n := 12) h2, ix_s (n := 8) h5, gA, if_neg (show ¬ (ob I L).1 122 j50 = 0 from h7), if_neg (kS_w (s := ob I L) h8), if_pos (show (ob I L).1 117 j53 < 4 from m4_ h9)]
      rw [e_] at k
      dsimp only at k
      exact k _ _ (ob_M _ _ _) (cS_M _ _ _))
    (fun j59 h2 e3 j62 h5 e6 h7 h8 => by
      subst e3
      subst e6
      have e_ : F_touches (ob I L) (nI j59) (nI j62) = ((-3), (sM (ob I L) 1)) := by simp only [F_touches, ix_s (n := 12) h2, ix_s (n := 8) h5, gA, if_neg (show ¬ (ob I L).1 122 j59 = 0 from h7), if_pos (kS_y (s := ob I L) h8)]
      rw [e_] at k
      dsimp only at k
      exact k _ _ (ob_M _ _ _) (cS_M _ _ _))
    (fun j67 h2 e3 h4 => by
      subst e3
      have e_ : F_touches (ob I L) (nI j67) s_ = ((-1), (ob I L)) := by simp only [F_touches, ix_s (n := 12) h2, (show ix 8 s_ = none from (ix_n2 h4 li_8)), gA]
      rw [e_] at k
      dsimp only at k
      exact k _ _ rfl cS_rf)
theorem p_touches {g : ma_G} {I : ma_I} {L : ma_L} {P1 : ma_P} (hI : INV I L) (a1 a2 : Int32) (k : ∀ (r : Int32) (I1 : ma_I) (L1 : ma_L), (∀ {P2 : ma_P}, (∀ (I2 : ma_I) (L2 : ma_L), INV I2 L2 → P2 (some (.int r)) HS I2 L2 RF 146) → CT g yX8_touches cX8_touches 4 (some .int) rX8_touches [.ref 115, .int a1, .int a2] P2 HS I1 L1 RF 146) → P1 (some (.int r)) HS I1 L1 RF 146) : CT g yX7_touches cX7_touches 4 (some .int) rX7_touches [.ref 3, .int a1, .int a2] P1 HS I L RF 146 :=
  pair_i (F := F_touches (ob I L) a1 a2) hI (W_touches hI.1 a1 a2) (fun P kk => C_touches hI.1 hI.2 a1 a2 kk) (fun I1 L1 P e kk => M_touches (by rw [e]; exact hI.1)  a1 a2 (by rw [e]; exact kk)) k
