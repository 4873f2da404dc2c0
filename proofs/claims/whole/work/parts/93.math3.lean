def sy (j : Nat) : Nat := match j with
  | 4 => 1
  | 8 => 2
  | 12 => 3
  | 9 => 6
  | 13 => 7
  | 14 => 11
  | j => j
/-- the symmetric table of the ints z, as long numbers -/
def zt (z : Nat → Int) : Nat → Int64 := fun j => Int64.ofInt (z (sy j))
theorem m_e1 (z : Nat → Int) : (((zt z 0) + (zt z 5)) + (zt z 10)) + (zt z 15) = Int64.ofInt (z 0 + z 5 + z 10 + z 15) := by
  simp only [zt, sy, Int64.ofInt_add]
theorem m_e2 (z : Nat → Int) : (((((m2 (zt z) 0 1) + (m2 (zt z) 0 2)) + (m2 (zt z) 0 3)) + (m2 (zt z) 1 2)) + (m2 (zt z) 1 3)) + (m2 (zt z) 2 3) = Int64.ofInt (kE2 (z 0) (z 1) (z 2) (z 3) (z 5) (z 6) (z 7) (z 10) (z 11) (z 15)) := by
  simp only [m2, zt, sy, kE2, Int64.ofInt_add, Int64.ofInt_sub, Int64.ofInt_mul]
theorem m_e3 (z : Nat → Int) : (((m3 (zt z) 0 1 2) + (m3 (zt z) 0 1 3)) + (m3 (zt z) 0 2 3)) + (m3 (zt z) 1 2 3) = Int64.ofInt (kE3 (z 0) (z 1) (z 2) (z 3) (z 5) (z 6) (z 7) (z 10) (z 11) (z 15)) := by
  simp only [m3, m3o, zt, sy, kE3, k3, Int64.ofInt_add, Int64.ofInt_sub, Int64.ofInt_mul]
theorem m_e4 (z : Nat → Int) : mW (zt z) = Int64.ofInt (kE4 (z 0) (z 1) (z 2) (z 3) (z 5) (z 6) (z 7) (z 10) (z 11) (z 15)) := by
  simp only [mW, zt, sy, kE4, Int64.ofInt_add, Int64.ofInt_sub, Int64.ofInt_mul, Int64.ofInt_neg, Int64.zero_add]
theorem m_3 (z : Nat → Int) : m3 (zt z) 0 1 2 = Int64.ofInt (k3 (z 0) (z 1) (z 2) (z 5) (z 6) (z 10)) := by
  simp only [m3, m3o, zt, sy, k3, Int64.ofInt_add, Int64.ofInt_sub, Int64.ofInt_mul]
theorem m_t2 (z : Nat → Int) : ((m2 (zt z) 0 1) + (m2 (zt z) 0 2)) + (m2 (zt z) 1 2) = Int64.ofInt ((z 0 * z 5 - z 1 * z 1) + (z 0 * z 10 - z 2 * z 2) + (z 5 * z 10 - z 6 * z 6)) := by
  simp only [m2, zt, sy, Int64.ofInt_add, Int64.ofInt_sub, Int64.ofInt_mul]
theorem m_t1 (z : Nat → Int) : ((zt z 0) + (zt z 5)) + (zt z 10) = Int64.ofInt (z 0 + z 5 + z 10) := by
  simp only [zt, sy, Int64.ofInt_add]
theorem c_e1 (z : Nat → Int) : cOw (zt z) 1 = Int64.ofInt (-(z 0 + z 5 + z 10 + z 15)) := by
  simp only [cOw, zt, sy, Int64.ofInt_add, Int64.ofInt_neg]
theorem c_e2 (z : Nat → Int) : cOw (zt z) 2 = Int64.ofInt (kE2 (z 0) (z 1) (z 2) (z 3) (z 5) (z 6) (z 7) (z 10) (z 11) (z 15)) := by
  simp only [cOw, cM2, zt, sy, kE2, Int64.ofInt_add, Int64.ofInt_sub, Int64.ofInt_mul]
theorem c_e3 (z : Nat → Int) : cOw (zt z) 3 = Int64.ofInt (-(kE3 (z 0) (z 1) (z 2) (z 3) (z 5) (z 6) (z 7) (z 10) (z 11) (z 15))) := by
  simp only [cOw, cM3, zt, sy, kE3, k3, Int64.ofInt_add, Int64.ofInt_sub, Int64.ofInt_mul, Int64.ofInt_neg]
theorem c_3 (z : Nat → Int) : cM3 (zt z) 0 1 2 = Int64.ofInt (k3 (z 0) (z 1) (z 2) (z 5) (z 6) (z 10)) := by
  simp only [cM3, zt, sy, k3, Int64.ofInt_add, Int64.ofInt_sub, Int64.ofInt_mul]
def kW (a x y w b p q c r d : Int) : Int := (a * b - x * x) * (c * d - r * r) - (a * p - y * x) * (p * d - q * r) + (a * q - w * x) * (p * r - q * c) + (x * p - y * b) * (y * d - r * w) - (x * q - w * b) * (y * r - c * w) + (y * q - w * p) * (y * q - p * w)
theorem kW_e (a x y w b p q c r d : Int) : kW a x y w b p q c r d = kE4 a x y w b p q c r d := by
  unfold kW kE4; grind
theorem c_w (z : Nat → Int) : cW (zt z) = Int64.ofInt (kE4 (z 0) (z 1) (z 2) (z 3) (z 5) (z 6) (z 7) (z 10) (z 11) (z 15)) := by
  rw [← kW_e]
  simp only [cW, cP2, zt, sy, kW, Int64.ofInt_add, Int64.ofInt_sub, Int64.ofInt_mul]
  grind
theorem c_e4 (z : Nat → Int) : cOw (zt z) 4 = Int64.ofInt (kE4 (z 0) (z 1) (z 2) (z 3) (z 5) (z 6) (z 7) (z 10) (z 11) (z 15)) := c_w z
theorem nm_ {x y : Int} {A B : Nat} (hx : x.natAbs ≤ A) (hy : y.natAbs ≤ B) : (x * y).natAbs ≤ A * B := by rw [Int.natAbs_mul]; exact Nat.mul_le_mul hx hy
theorem na_ {x y : Int} {A B : Nat} (hx : x.natAbs ≤ A) (hy : y.natAbs ≤ B) : (x + y).natAbs ≤ A + B := by omega
theorem ns_ {x y : Int} {A B : Nat} (hx : x.natAbs ≤ A) (hy : y.natAbs ≤ B) : (x - y).natAbs ≤ A + B := by omega
theorem nn_ {x : Int} {A : Nat} (hx : x.natAbs ≤ A) : (-x).natAbs ≤ A := by omega
theorem k3_b {a x y b p c : Int} {B : Nat} (ha : a.natAbs ≤ B) (hx : x.natAbs ≤ B) (hy : y.natAbs ≤ B) (hb : b.natAbs ≤ B) (hp : p.natAbs ≤ B) (hc : c.natAbs ≤ B) : (k3 a x y b p c).natAbs ≤ 6 * (B * (B * B)) := by
  unfold k3
  have h := na_ (ns_ (nm_ ha (ns_ (nm_ hb hc) (nm_ hp hp))) (nm_ hx (ns_ (nm_ hx hc) (nm_ hp hy)))) (nm_ hy (ns_ (nm_ hx hp) (nm_ hb hy)))
  refine Nat.le_trans h (Nat.le_of_eq ?_)
  rw [Nat.mul_add]; omega
theorem kE2_b {a x y w b p q c r d : Int} {B : Nat} (ha : a.natAbs ≤ B) (hx : x.natAbs ≤ B) (hy : y.natAbs ≤ B) (hw : w.natAbs ≤ B) (hb : b.natAbs ≤ B) (hp : p.natAbs ≤ B) (hq : q.natAbs ≤ B) (hc : c.natAbs ≤ B) (hr : r.natAbs ≤ B) (hd : d.natAbs ≤ B) : (kE2 a x y w b p q c r d).natAbs ≤ 12 * (B * B) := by
  unfold kE2
  have h := na_ (na_ (na_ (na_ (na_ (ns_ (nm_ ha hb) (nm_ hx hx)) (ns_ (nm_ ha hc) (nm_ hy hy))) (ns_ (nm_ ha hd) (nm_ hw hw))) (ns_ (nm_ hb hc) (nm_ hp hp))) (ns_ (nm_ hb hd) (nm_ hq hq))) (ns_ (nm_ hc hd) (nm_ hr hr))
  omega
theorem kE3_b {a x y w b p q c r d : Int} {B : Nat} (ha : a.natAbs ≤ B) (hx : x.natAbs ≤ B) (hy : y.natAbs ≤ B) (hw : w.natAbs ≤ B) (hb : b.natAbs ≤ B) (hp : p.natAbs ≤ B) (hq : q.natAbs ≤ B) (hc : c.natAbs ≤ B) (hr : r.natAbs ≤ B) (hd : d.natAbs ≤ B) : (kE3 a x y w b p q c r d).natAbs ≤ 24 * (B * (B * B)) := by
  unfold kE3
  have h := na_ (na_ (na_ (k3_b ha hx hy hb hp hc) (k3_b ha hx hw hb hq hd)) (k3_b ha hy hw hc hr hd)) (k3_b hb hp hq hc hr hd)
  omega
theorem kE4_b {a x y w b p q c r d : Int} {B : Nat} (ha : a.natAbs ≤ B) (hx : x.natAbs ≤ B) (hy : y.natAbs ≤ B) (hw : w.natAbs ≤ B) (hb : b.natAbs ≤ B) (hp : p.natAbs ≤ B) (hq : q.natAbs ≤ B) (hc : c.natAbs ≤ B) (hr : r.natAbs ≤ B) (hd : d.natAbs ≤ B) : (kE4 a x y w b p q c r d).natAbs ≤ 24 * (B * B * (B * B)) := by
  rw [← kW_e]
  unfold kW
  have m {i j k l : Int} (hi : i.natAbs ≤ B) (hj : j.natAbs ≤ B) (hk : k.natAbs ≤ B) (hl : l.natAbs ≤ B) : (i * j - k * l).natAbs ≤ 2 * (B * B) := by have := ns_ (nm_ hi hj) (nm_ hk hl); omega
  have h := na_ (ns_ (na_ (na_ (ns_ (nm_ (m ha hb hx hx) (m hc hd hr hr)) (nm_ (m ha hp hy hx) (m hp hd hq hr))) (nm_ (m ha hq hw hx) (m hp hr hq hc))) (nm_ (m hx hp hy hb) (m hy hd hr hw))) (nm_ (m hx hq hw hb) (m hy hr hc hw))) (nm_ (m hy hq hw hp) (m hy hq hp hw))
  refine Nat.le_trans h (Nat.le_of_eq ?_)
  rw [Nat.mul_mul_mul_comm 2 (B * B) 2 (B * B)]
  omega
/-- all numbers of z are at most B -/
def zB (z : Nat → Int) (B : Nat) : Prop := ∀ j, j < 16 → (z j).natAbs ≤ B
def zOk (z : Nat → Int) : Prop := (z 0 + z 5 + z 10 + z 15).natAbs < 9223372036854775808 ∧ (kE2 (z 0) (z 1) (z 2) (z 3) (z 5) (z 6) (z 7) (z 10) (z 11) (z 15)).natAbs < 9223372036854775808 ∧ (kE3 (z 0) (z 1) (z 2) (z 3) (z 5) (z 6) (z 7) (z 10) (z 11) (z 15)).natAbs < 9223372036854775808 ∧ (kE4 (z 0) (z 1) (z 2) (z 3) (z 5) (z 6) (z 7) (z 10) (z 11) (z 15)).natAbs < 9223372036854775808
theorem zOk_b {z : Nat → Int} {B : Nat} (h : zB z B) (hB : B < 20000) : zOk z := by
  have e0 := h 0 (by omega); have e1 := h 1 (by omega); have e2 := h 2 (by omega); have e3 := h 3 (by omega); have e5 := h 5 (by omega); have e6 := h 6 (by omega); have e7 := h 7 (by omega); have e10 := h 10 (by omega); have e11 := h 11 (by omega); have e15 := h 15 (by omega)
  have q2 : B * B ≤ 20000 * 20000 := Nat.mul_le_mul (by omega) (by omega)
  have q3 : B * (B * B) ≤ 20000 * (20000 * 20000) := Nat.mul_le_mul (by omega) q2
  have q4 : B * B * (B * B) ≤ 20000 * 20000 * (20000 * 20000) := Nat.mul_le_mul q2 q2
  refine ⟨by omega, ?_, ?_, ?_⟩
  · have := kE2_b e0 e1 e2 e3 e5 e6 e7 e10 e11 e15; omega
  · have := kE3_b e0 e1 e2 e3 e5 e6 e7 e10 e11 e15; omega
  · have := kE4_b e0 e1 e2 e3 e5 e6 e7 e10 e11 e15; omega
theorem av_s {z : Nat → Int} (h : zOk z) : (∀ k, k < 5 → mSg (cOw (zt z) k) = fS (sgI (z 0 + z 5 + z 10 + z 15)) (sgI (kE2 (z 0) (z 1) (z 2) (z 3) (z 5) (z 6) (z 7) (z 10) (z 11) (z 15))) (sgI (kE3 (z 0) (z 1) (z 2) (z 3) (z 5) (z 6) (z 7) (z 10) (z 11) (z 15))) (sgI (kE4 (z 0) (z 1) (z 2) (z 3) (z 5) (z 6) (z 7) (z 10) (z 11) (z 15))) k) := fun k hk => by
  match k, hk with
  | 0, _ => exact (by decide : mSg 1 = 1)
  | 1, _ => rw [c_e1, mSg_o (by have := h.1; omega), sgI_n]; rfl
  | 2, _ => rw [c_e2, mSg_o h.2.1]; rfl
  | 3, _ => rw [c_e3, mSg_o (by have := h.2.2.1; omega), sgI_n]; rfl
  | 4, _ => rw [c_e4, mSg_o h.2.2.2]; rfl
theorem rk_s {z : Nat → Int} (h : zOk z) : cRk (zt z) = rkS (sgI (z 0 + z 5 + z 10 + z 15)) (sgI (kE2 (z 0) (z 1) (z 2) (z 3) (z 5) (z 6) (z 7) (z 10) (z 11) (z 15))) (sgI (kE3 (z 0) (z 1) (z 2) (z 3) (z 5) (z 6) (z 7) (z 10) (z 11) (z 15))) (sgI (kE4 (z 0) (z 1) (z 2) (z 3) (z 5) (z 6) (z 7) (z 10) (z 11) (z 15))) := by
  have q : ∀ k, k < 5 → 0 < k → (cOw (zt z) k = 0 ↔ fS (sgI (z 0 + z 5 + z 10 + z 15)) (sgI (kE2 (z 0) (z 1) (z 2) (z 3) (z 5) (z 6) (z 7) (z 10) (z 11) (z 15))) (sgI (kE3 (z 0) (z 1) (z 2) (z 3) (z 5) (z 6) (z 7) (z 10) (z 11) (z 15))) (sgI (kE4 (z 0) (z 1) (z 2) (z 3) (z 5) (z 6) (z 7) (z 10) (z 11) (z 15))) k = 0) := fun k hk _ => by rw [← mSg_0, av_s h k hk]
  have n0 : ∀ s : Int32, (-s = 0) ↔ s = 0 := fun s => ⟨fun h => by have := congrArg (fun x => -x) h; simpa using this, fun h => by rw [h]; rfl⟩
  unfold cRk rkS
  simp only [q 4 (by omega) (by omega), q 3 (by omega) (by omega), q 2 (by omega) (by omega), q 1 (by omega) (by omega), fS, n0]
theorem av_ok {z : Nat → Int} (h : zOk z) : cAv (zt z) = mFA (zt z) ∧ cBv (zt z) = mFB (zt z) := by
  have k := sig_all (sgI_3 _) (sgI_3 _) (sgI_3 _) (sgI_3 _) (okS_k (z 0) (z 1) (z 2) (z 3) (z 5) (z 6) (z 7) (z 10) (z 11) (z 15))
  have e1 : cAv (zt z) = (csG (fS (sgI (z 0 + z 5 + z 10 + z 15)) (sgI (kE2 (z 0) (z 1) (z 2) (z 3) (z 5) (z 6) (z 7) (z 10) (z 11) (z 15))) (sgI (kE3 (z 0) (z 1) (z 2) (z 3) (z 5) (z 6) (z 7) (z 10) (z 11) (z 15))) (sgI (kE4 (z 0) (z 1) (z 2) (z 3) (z 5) (z 6) (z 7) (z 10) (z 11) (z 15)))) 5).1 := by
    unfold cAv; rw [csG_e, csG_c 5 (av_s h)]
  unfold cBv mFA mFB
  rw [rk_s h, e1, m_e1, m_e2, m_e3, m_e4, mA4_s, mB4_s, mSg_o h.1, mSg_o h.2.1, mSg_o h.2.2.1, mSg_o h.2.2.2]
  exact k
def zL (z : Nat → Int) : Nat → Int := fun j => if j = 3 ∨ j = 7 ∨ j = 11 ∨ j = 15 then 0 else z j
theorem cLs_z (z : Nat → Int) : ∀ j, j < 16 → cLs (zt z) j = zt (zL z) j := fun j hj => by
  match j, hj with
  | 0, _ => rfl
  | 1, _ => rfl
  | 2, _ => rfl
  | 3, _ => rfl
  | 4, _ => rfl
  | 5, _ => rfl
  | 6, _ => rfl
  | 7, _ => rfl
  | 8, _ => rfl
  | 9, _ => rfl
  | 10, _ => rfl
  | 11, _ => rfl
  | 12, _ => rfl
  | 13, _ => rfl
  | 14, _ => rfl
  | 15, _ => rfl
  | j + 16, h => exact absurd h (by omega)
theorem lk2 (a x y b p c : Int) : kE2 a x y 0 b p 0 c 0 0 = (a * b - x * x) + (a * c - y * y) + (b * c - p * p) := by unfold kE2; grind
theorem lk3 (a x y b p c : Int) : kE3 a x y 0 b p 0 c 0 0 = k3 a x y b p c := by unfold kE3 k3; grind
theorem lk4 (a x y b p c : Int) : kE4 a x y 0 b p 0 c 0 0 = 0 := by unfold kE4; grind
theorem bv_ok {z : Nat → Int} (h : zOk (zL z)) : cAv (cLs (zt z)) = mTA (zt z) ∧ cBv (cLs (zt z)) = mTB (zt z) := by
  have k := av_ok h
  have c1 : cAv (cLs (zt z)) = cAv (zt (zL z)) := cAv_c (cLs_z z)
  have c2 : cBv (cLs (zt z)) = cBv (zt (zL z)) := by unfold cBv; rw [cRk_c (cLs_z z), c1]
  rw [c1, c2, k.1, k.2]
  unfold mFA mFB mTA mTB
  have z0 : zL z 0 = z 0 := rfl; have z1 : zL z 1 = z 1 := rfl; have z2 : zL z 2 = z 2 := rfl; have z3 : zL z 3 = 0 := rfl; have z5 : zL z 5 = z 5 := rfl; have z6 : zL z 6 = z 6 := rfl; have z7 : zL z 7 = 0 := rfl; have z10 : zL z 10 = z 10 := rfl; have z11 : zL z 11 = 0 := rfl; have z15 : zL z 15 = 0 := rfl
  obtain ⟨h1, h2, h3, h4⟩ := h
  rw [z0, z5, z10, z15, Int.add_zero] at h1
  rw [z0, z1, z2, z3, z5, z6, z7, z10, z11, z15] at h2 h3 h4
  rw [lk2] at h2
  rw [lk3] at h3
  rw [m_e1, m_e2, m_e3, m_e4, m_t1, m_t2, m_3, z0, z1, z2, z3, z5, z6, z7, z10, z11, z15, lk2, lk3, lk4, Int.add_zero, mA4_s, mB4_s, mA3_s, mB3_s, mSg_o h1, mSg_o h2, mSg_o h3]
  exact sig_3 (sgI_3 _) (sgI_3 _) (sgI_3 _)
theorem ab_4 {s1 s2 s3 s4 : Int32} (h1 : in3 s1) (h2 : in3 s2) (h3 : in3 s3) (h4 : in3 s4) (ok : okS s1 s2 s3 s4) : ∃ a b : Fin 5, a.val + b.val ≤ 4 ∧ mA4s s1 s2 s3 s4 = nI a.val ∧ mB4s s1 s2 s3 s4 = nI b.val := by
  unfold okS at ok
  rcases h1 with rfl | rfl | rfl <;> rcases h2 with rfl | rfl | rfl <;> rcases h3 with rfl | rfl | rfl <;> rcases h4 with rfl | rfl | rfl <;> revert ok <;> decide
theorem ab_3 {s1 s2 s3 : Int32} (h1 : in3 s1) (h2 : in3 s2) (h3 : in3 s3) (ok : okS s1 s2 s3 0) : ∃ a b : Fin 4, a.val + b.val ≤ 3 ∧ mA3s s1 s2 s3 = nI a.val ∧ mB3s s1 s2 s3 = nI b.val := by
  unfold okS at ok
  rcases h1 with rfl | rfl | rfl <;> rcases h2 with rfl | rfl | rfl <;> rcases h3 with rfl | rfl | rfl <;> revert ok <;> decide
theorem kd_all : ∀ (a b : Fin 5) (c d : Fin 4), a.val + b.val ≤ 4 → c.val + d.val ≤ 3 → (if (nI a.val = 3 ∧ nI b.val = 1 ∧ nI c.val = 3) ∨ (nI a.val = 1 ∧ nI b.val = 3 ∧ nI d.val = 3) then (3 : Int32) else if nI a.val = 2 ∧ nI b.val = 2 then 4 else if 4 - nI a.val - nI b.val = 1 then 1 else if 4 - nI a.val - nI b.val ≤ 1 then 0 else 2) = mKd (nI a.val) (nI b.val) (nI c.val) (nI d.val) := by decide +kernel
theorem zB_L {z : Nat → Int} {B : Nat} (h : zB z B) : zB (zL z) B := fun j hj => by
  unfold zL
  by_cases q : j = 3 ∨ j = 7 ∨ j = 11 ∨ j = 15
  · rw [if_pos q]; exact Nat.zero_le _
  · rw [if_neg q]; exact h j hj
theorem fc_ok {z : Nat → Int} {B : Nat} (h : zB z B) (hB : B < 20000) (k : Nat) (hk : k < 10) : cFc (zt z) k = mFc (zt z) k := by
  have h4 := zOk_b h hB
  have h3 := zOk_b (zB_L h) hB
  have k4 := av_ok h4
  have k3 := bv_ok h3
  match k, hk with
  | 0, _ =>
    show cKd (cF9 (zt z)) = mKd _ _ _ _
    unfold cKd
    show (if (cAv (zt z) = 3 ∧ cBv (zt z) = 1 ∧ cAv (cLs (zt z)) = 3) ∨ (cAv (zt z) = 1 ∧ cBv (zt z) = 3 ∧ cBv (cLs (zt z)) = 3) then (3 : Int32) else if cAv (zt z) = 2 ∧ cBv (zt z) = 2 then 4 else if 4 - cAv (zt z) - cBv (zt z) = 1 then 1 else if 4 - cAv (zt z) - cBv (zt z) ≤ 1 then 0 else 2) = _
    rw [k4.1, k4.2, k3.1, k3.2]
    obtain ⟨a, b, hab, ea, eb⟩ := ab_4 (sgI_3 _) (sgI_3 _) (sgI_3 _) (sgI_3 _) (okS_k (z 0) (z 1) (z 2) (z 3) (z 5) (z 6) (z 7) (z 10) (z 11) (z 15))
    have fa : mFA (zt z) = nI a.val := by unfold mFA; rw [m_e1, m_e2, m_e3, m_e4, mA4_s, mSg_o h4.1, mSg_o h4.2.1, mSg_o h4.2.2.1, mSg_o h4.2.2.2]; exact ea
    have fb : mFB (zt z) = nI b.val := by unfold mFB; rw [m_e1, m_e2, m_e3, m_e4, mB4_s, mSg_o h4.1, mSg_o h4.2.1, mSg_o h4.2.2.1, mSg_o h4.2.2.2]; exact eb
    have ok3 := okS_k (z 0) (z 1) (z 2) 0 (z 5) (z 6) 0 (z 10) 0 0
    rw [lk2, lk3, lk4, Int.add_zero, show sgI 0 = 0 from rfl] at ok3
    obtain ⟨c, d, hcd, ec, ed⟩ := ab_3 (sgI_3 _) (sgI_3 _) (sgI_3 _) ok3
    obtain ⟨g1, g2, g3, g4⟩ := h3
    have z0 : zL z 0 = z 0 := rfl; have z1 : zL z 1 = z 1 := rfl; have z2 : zL z 2 = z 2 := rfl; have z3 : zL z 3 = 0 := rfl; have z5 : zL z 5 = z 5 := rfl; have z6 : zL z 6 = z 6 := rfl; have z7 : zL z 7 = 0 := rfl; have z10 : zL z 10 = z 10 := rfl; have z11 : zL z 11 = 0 := rfl; have z15 : zL z 15 = 0 := rfl
    rw [z0, z5, z10, z15, Int.add_zero] at g1
    rw [z0, z1, z2, z3, z5, z6, z7, z10, z11, z15] at g2 g3
    rw [lk2] at g2
    rw [lk3] at g3
    have fc : mTA (zt z) = nI c.val := by unfold mTA; rw [m_t1, m_t2, m_3, mA3_s, mSg_o g1, mSg_o g2, mSg_o g3]; exact ec
    have fd : mTB (zt z) = nI d.val := by unfold mTB; rw [m_t1, m_t2, m_3, mB3_s, mSg_o g1, mSg_o g2, mSg_o g3]; exact ed
    rw [fa, fb, fc, fd]
    exact kd_all a b c d hab hcd
  | 1, _ => exact k4.1
  | 2, _ => exact k4.2
  | 3, _ => show 4 - cAv (zt z) - cBv (zt z) = 4 - mFA (zt z) - mFB (zt z); rw [k4.1, k4.2]
  | 4, _ => exact k3.1
  | 5, _ => exact k3.2
  | 6, _ => show 3 - cAv (cLs (zt z)) - cBv (cLs (zt z)) = 3 - mTA (zt z) - mTB (zt z); rw [k3.1, k3.2]
  | 7, _ => show Int64.toInt32 (cW (zt z)) = Int64.toInt32 (mW (zt z)); rw [c_w, m_e4]
  | 8, _ => show Int64.toInt32 (cM3 (zt z) 0 1 2) = Int64.toInt32 (m3 (zt z) 0 1 2); rw [c_3, m_3]
  | 9, _ =>
    show (if cNb (cAv (zt z)) (cBv (zt z)) (cAv (cLs (zt z))) (cBv (cLs (zt z))) < cNb (cBv (zt z)) (cAv (zt z)) (cBv (cLs (zt z))) (cAv (cLs (zt z))) then cNb (cBv (zt z)) (cAv (zt z)) (cBv (cLs (zt z))) (cAv (cLs (zt z))) else cNb (cAv (zt z)) (cBv (zt z)) (cAv (cLs (zt z))) (cBv (cLs (zt z)))) = mNm (mFA (zt z)) (mFB (zt z)) (mTA (zt z)) (mTB (zt z))
    rw [k4.1, k4.2, k3.1, k3.2]
    unfold mNm cNb
    generalize 1000 * mFA (zt z) + 100 * mFB (zt z) + 10 * mTA (zt z) + mTB (zt z) = u
    generalize 1000 * mFB (zt z) + 100 * mFA (zt z) + 10 * mTB (zt z) + mTA (zt z) = v
    by_cases q : u < v
    · rw [if_pos q, if_pos (Int32.le_of_lt q)]
    · rw [if_neg q]
      by_cases q2 : u ≤ v
      · rw [if_pos q2]; rw [nb_lt] at q; rw [nb_le] at q2; rw [nb_eq]; omega
      · rw [if_neg q2]
