theorem finK : ∀ (a b : Fin 5) (c d : Fin 4), a.val + b.val ≤ 4 → c.val + d.val ≤ 3 → mKd (nI a.val) (nI b.val) (nI c.val) (nI d.val) = 3 → (a.val = 3 ∧ b.val = 1 ∧ c.val = 3) ∨ (a.val = 1 ∧ b.val = 3 ∧ d.val = 3) := by decide +kernel
theorem fin4 {s1 s2 s3 s4 : Int32} (h1 : in3 s1) (h2 : in3 s2) (h3 : in3 s3) (h4 : in3 s4) : (mA4s s1 s2 s3 s4 = nI 3 → mB4s s1 s2 s3 s4 = nI 1 → s4 = -1) ∧ (mA4s s1 s2 s3 s4 = nI 1 → mB4s s1 s2 s3 s4 = nI 3 → s4 = -1) := by
  rcases h1 with rfl | rfl | rfl <;> rcases h2 with rfl | rfl | rfl <;> rcases h3 with rfl | rfl | rfl <;> rcases h4 with rfl | rfl | rfl <;> decide
theorem fin3 {s1 s2 s3 : Int32} (h1 : in3 s1) (h2 : in3 s2) (h3 : in3 s3) : (mA3s s1 s2 s3 = nI 3 → s1 = 1 ∧ s2 = 1 ∧ s3 = 1) ∧ (mB3s s1 s2 s3 = nI 3 → s1 = -1 ∧ s2 = 1 ∧ s3 = -1) := by
  rcases h1 with rfl | rfl | rfl <;> rcases h2 with rfl | rfl | rfl <;> rcases h3 with rfl | rfl | rfl <;> decide
theorem sg_p1 {x : Int} (h : sgI x = 1) : 0 < x := (sg_gt x).mp (by rw [h]; decide)
theorem sg_m1 {x : Int} (h : sgI x = -1) : x < 0 := (sg_lt x).mp (by rw [h]; decide)
theorem ball_f {T : Nat → Int32} (hT : tSm T) (h3 : mFc (t64 T) 0 = 3) : (kE4 (zz T 0) (zz T 1) (zz T 2) (zz T 3) (zz T 5) (zz T 6) (zz T 7) (zz T 10) (zz T 11) (zz T 15) < 0) ∧ ((mFc (t64 T) 1 = 3 ∧ mFc (t64 T) 2 = 1 ∧ 0 < zz T 0 + zz T 5 + zz T 10 ∧ 0 < (zz T 0 * zz T 5 - zz T 1 * zz T 1) + (zz T 0 * zz T 10 - zz T 2 * zz T 2) + (zz T 5 * zz T 10 - zz T 6 * zz T 6) ∧ 0 < k3 (zz T 0) (zz T 1) (zz T 2) (zz T 5) (zz T 6) (zz T 10)) ∨ (mFc (t64 T) 1 = 1 ∧ mFc (t64 T) 2 = 3 ∧ zz T 0 + zz T 5 + zz T 10 < 0 ∧ 0 < (zz T 0 * zz T 5 - zz T 1 * zz T 1) + (zz T 0 * zz T 10 - zz T 2 * zz T 2) + (zz T 5 * zz T 10 - zz T 6 * zz T 6) ∧ k3 (zz T 0) (zz T 1) (zz T 2) (zz T 5) (zz T 6) (zz T 10) < 0)) := by
  obtain ⟨a, b, c, d, hab, hcd, fa, fb, fc, fd⟩ := mf_ab hT
  have e1 : mFA (t64 T) = mFA (zt (zz T)) := mFc_c (t64_z hT) 1
  have e2 : mFB (t64 T) = mFB (zt (zz T)) := mFc_c (t64_z hT) 2
  have e3 : mTA (t64 T) = mTA (zt (zz T)) := mFc_c (t64_z hT) 4
  have e4 : mTB (t64 T) = mTB (zt (zz T)) := mFc_c (t64_z hT) 5
  have h3 : mKd (mFA (t64 T)) (mFB (t64 T)) (mTA (t64 T)) (mTB (t64 T)) = 3 := h3
  show _ ∧ ((mFA (t64 T) = 3 ∧ mFB (t64 T) = 1 ∧ _) ∨ (mFA (t64 T) = 1 ∧ mFB (t64 T) = 3 ∧ _))
  rw [fa, fb, fc, fd] at h3
  have K := finK a b c d hab hcd h3
  have hB : zB (zz T) 4 := zz_B hT
  rw [e1] at fa
  rw [e2] at fb
  rw [e3] at fc
  rw [e4] at fd
  rw [e1, e2, fa, fb]
  clear e1 e2 e3 e4
  generalize zz T = z at *
  have h4 := zOk_b hB (by omega)
  have h5 := zOk_b (zB_L hB) (by omega)
  unfold mFA at fa
  unfold mFB at fb
  rw [m_e1, m_e2, m_e3, m_e4, mA4_s, mSg_o h4.1, mSg_o h4.2.1, mSg_o h4.2.2.1, mSg_o h4.2.2.2] at fa
  rw [m_e1, m_e2, m_e3, m_e4, mB4_s, mSg_o h4.1, mSg_o h4.2.1, mSg_o h4.2.2.1, mSg_o h4.2.2.2] at fb
  obtain ⟨g1, g2, g3, g4⟩ := h5
  have z0 : zL z 0 = z 0 := rfl; have z1 : zL z 1 = z 1 := rfl; have z2 : zL z 2 = z 2 := rfl; have z3 : zL z 3 = 0 := rfl; have z5 : zL z 5 = z 5 := rfl; have z6 : zL z 6 = z 6 := rfl; have z7 : zL z 7 = 0 := rfl; have z10 : zL z 10 = z 10 := rfl; have z11 : zL z 11 = 0 := rfl; have z15 : zL z 15 = 0 := rfl
  rw [z0, z5, z10, z15, Int.add_zero] at g1
  rw [z0, z1, z2, z3, z5, z6, z7, z10, z11, z15] at g2 g3
  rw [lk2] at g2
  rw [lk3] at g3
  unfold mTA at fc
  unfold mTB at fd
  rw [m_t1, m_t2, m_3, mA3_s, mSg_o g1, mSg_o g2, mSg_o g3] at fc
  rw [m_t1, m_t2, m_3, mB3_s, mSg_o g1, mSg_o g2, mSg_o g3] at fd
  have q4 := fin4 (sgI_3 (z 0 + z 5 + z 10 + z 15)) (sgI_3 (kE2 (z 0) (z 1) (z 2) (z 3) (z 5) (z 6) (z 7) (z 10) (z 11) (z 15))) (sgI_3 (kE3 (z 0) (z 1) (z 2) (z 3) (z 5) (z 6) (z 7) (z 10) (z 11) (z 15))) (sgI_3 (kE4 (z 0) (z 1) (z 2) (z 3) (z 5) (z 6) (z 7) (z 10) (z 11) (z 15)))
  have q3 := fin3 (sgI_3 (z 0 + z 5 + z 10)) (sgI_3 ((z 0 * z 5 - z 1 * z 1) + (z 0 * z 10 - z 2 * z 2) + (z 5 * z 10 - z 6 * z 6))) (sgI_3 (k3 (z 0) (z 1) (z 2) (z 5) (z 6) (z 10)))
  rcases K with ⟨k1, k2, k3'⟩ | ⟨k1, k2, k3'⟩
  · rw [k1] at fa
    rw [k2] at fb
    rw [k3'] at fc
    obtain ⟨r1, r2, r3⟩ := q3.1 fc
    rw [k1, k2]
    exact ⟨sg_m1 (q4.1 fa fb), Or.inl ⟨rfl, rfl, sg_p1 r1, sg_p1 r2, sg_p1 r3⟩⟩
  · rw [k1] at fa
    rw [k2] at fb
    rw [k3'] at fd
    obtain ⟨r1, r2, r3⟩ := q3.2 fd
    rw [k1, k2]
    exact ⟨sg_m1 (q4.2 fa fb), Or.inr ⟨rfl, rfl, sg_m1 r1, sg_p1 r2, sg_m1 r3⟩⟩
/-- a ball's table, turned so that it is above 0 far away -/
def tau (s : sG) (g : Nat) : Int := (mTn (s.1 124) g).toInt
def BT (s : sG) (g : Nat) : Nat → Int := fun j => tau s g * tz s g j
theorem mTn_pm (F : Nat → Int32) (g : Nat) : mTn F g = 1 ∨ mTn F g = -1 := by unfold mTn; by_cases c : F (10 * g + 1) = 3; (· left; rw [if_neg (fun q => q c)]); (· right; rw [if_pos c])
theorem tau_pm (s : sG) (g : Nat) : tau s g = 1 ∨ tau s g = -1 := by
  unfold tau
  rcases mTn_pm (s.1 124) g with e | e
  · left; rw [e]; decide
  · right; rw [e]; decide
theorem wf_b {s : sG} (h : wF s) {g : Nat} (hg : g < 12) (h3 : s.1 124 (10 * g) = 3) : ∀ k, k < 10 → s.1 124 (10 * g + k) = mFc (t64 (fun j => s.1 123 (16 * g + j))) k := (h.2.2 g hg).2.elim (fun q => by
  have := q.2 0 (by omega)
  rw [Nat.add_zero, h3] at this
  exact absurd this (by decide)) (fun q => q)
theorem BT_s {s : sG} (h : wF s) {g : Nat} (hg : g < 12) : ∀ x y, x < 4 → y < 4 → BT s g (4 * x + y) = BT s g (4 * y + x) := fun x y hx hy => by unfold BT; rw [tz_s (h.2.1 g hg) x y hx hy]
theorem BT_b {s : sG} (h : wF s) {g : Nat} (hg : g < 12) : ∀ j, j < 16 → (BT s g j).natAbs ≤ 4 := fun j hj => by
  have := tz_b (h.2.1 g hg) j hj
  unfold BT
  rcases tau_pm s g with e | e <;> rw [e] <;> omega
theorem BT_pd {s : sG} (h : wF s) {g : Nat} (hg : g < 12) (h3 : s.1 124 (10 * g) = 3) : PD (BT s g 0) (BT s g 1) (BT s g 2) (BT s g 5) (BT s g 6) (BT s g 10) ∧ zW (BT s g) < 0 ∧ (if s.1 124 (10 * g + 1) ≤ s.1 124 (10 * g + 2) then (-1 : Int32) else 1) = mTn (s.1 124) g := by
  have f := wf_b h hg h3
  have b := ball_f (wT_sm (h.2.1 g hg)) (by rw [← f 0 (by omega)]; exact h3)
  rw [← f 1 (by omega), ← f 2 (by omega)] at b
  have ew : zW (BT s g) = kE4 (tz s g 0) (tz s g 1) (tz s g 2) (tz s g 3) (tz s g 5) (tz s g 6) (tz s g 7) (tz s g 10) (tz s g 11) (tz s g 15) := by
    rw [dd_s (BT_s h hg)]
    unfold BT
    rcases tau_pm s g with e | e <;> rw [e] <;> unfold dd kE4 <;> grind
  have bw : zW (BT s g) < 0 := by rw [ew]; exact b.1
  have b2 := b.2
  have zt0 : ∀ j, zz (fun j => s.1 123 (16 * g + j)) j = tz s g j := fun _ => rfl
  simp only [zt0] at b2
  rcases b2 with ⟨r1, r2, r3, r4, r5⟩ | ⟨r1, r2, r3, r4, r5⟩
  · have et : mTn (s.1 124) g = 1 := by unfold mTn; rw [if_neg (fun q => q r1)]
    have e1 : tau s g = 1 := by unfold tau; rw [et]; decide
    refine ⟨?_, bw, by rw [et, r1, r2]; decide⟩
    unfold BT
    rw [e1, Int.one_mul, Int.one_mul, Int.one_mul, Int.one_mul, Int.one_mul, Int.one_mul]
    exact pd_e r3 r4 r5
  · have et : mTn (s.1 124) g = -1 := by unfold mTn; rw [if_pos (fun q => absurd (r1.symm.trans q) (by decide))]
    have e1 : tau s g = -1 := by unfold tau; rw [et]; decide
    refine ⟨?_, bw, by rw [et, r1, r2]; decide⟩
    unfold BT
    rw [e1]
    generalize tz s g 0 = a at *
    generalize tz s g 1 = x at *
    generalize tz s g 2 = y at *
    generalize tz s g 5 = b at *
    generalize tz s g 6 = p at *
    generalize tz s g 10 = c at *
    refine pd_e (by omega) ?_ ?_
    · have : -1 * a * (-1 * b) - -1 * x * (-1 * x) + (-1 * a * (-1 * c) - -1 * y * (-1 * y)) + (-1 * b * (-1 * c) - -1 * p * (-1 * p)) = (a * b - x * x) + (a * c - y * y) + (b * c - p * p) := by grind
      omega
    · have : d3 (-1 * a) (-1 * x) (-1 * y) (-1 * b) (-1 * p) (-1 * c) = -(k3 a x y b p c) := by unfold d3 k3; grind
      omega
def zMv (T : Nat → Int) (x y z : Int) : Nat → Int
  | 3 => T 3 - ((T 0 * x + T 1 * y) + T 2 * z)
  | 7 => T 7 - ((T 4 * x + T 5 * y) + T 6 * z)
  | 11 => T 11 - ((T 8 * x + T 9 * y) + T 10 * z)
  | 12 => T 3 - ((T 0 * x + T 1 * y) + T 2 * z)
  | 13 => T 7 - ((T 4 * x + T 5 * y) + T 6 * z)
  | 14 => T 11 - ((T 8 * x + T 9 * y) + T 10 * z)
  | 15 => ((T 15 + ((x * ((T 3 - ((T 0 * x + T 1 * y) + T 2 * z)) - T 3)) * (-1) - (2 * x) * T 3)) + ((y * ((T 7 - ((T 4 * x + T 5 * y) + T 6 * z)) - T 7)) * (-1) - (2 * y) * T 7)) + ((z * ((T 11 - ((T 8 * x + T 9 * y) + T 10 * z)) - T 11)) * (-1) - (2 * z) * T 11)
  | n => T n
theorem i32_2 : (2 : Int32) = Int32.ofInt 2 := rfl
theorem i32_m : (-1 : Int32) = Int32.ofInt (-1) := rfl
theorem mMv_o {T : Nat → Int32} {t : Nat → Int} (hT : ∀ j, j < 16 → T j = Int32.ofInt (t j)) {tn x y z : Int32} {τ X Y Z : Int} (ht : tn = Int32.ofInt τ) (hx : x = Int32.ofInt X) (hy : y = Int32.ofInt Y) (hz : z = Int32.ofInt Z) : ∀ j, j < 16 → mMv T tn x y z j = Int32.ofInt (zMv (fun j => τ * t j) X Y Z j)
  | 0, _ => by
    unfold mMv
    rw [hT 0 (by omega), ht]
    simp only [zMv, Int32.ofInt_sub, Int32.ofInt_add, Int32.ofInt_mul]
  | 1, _ => by
    unfold mMv
    rw [hT 1 (by omega), ht]
    simp only [zMv, Int32.ofInt_sub, Int32.ofInt_add, Int32.ofInt_mul]
  | 2, _ => by
    unfold mMv
    rw [hT 2 (by omega), ht]
    simp only [zMv, Int32.ofInt_sub, Int32.ofInt_add, Int32.ofInt_mul]
  | 3, _ => by
    unfold mMv
    rw [hT 0 (by omega), hT 1 (by omega), hT 2 (by omega), hT 3 (by omega), ht, hx, hy, hz]
    simp only [zMv, Int32.ofInt_sub, Int32.ofInt_add, Int32.ofInt_mul]
  | 4, _ => by
    unfold mMv
    rw [hT 4 (by omega), ht]
    simp only [zMv, Int32.ofInt_sub, Int32.ofInt_add, Int32.ofInt_mul]
  | 5, _ => by
    unfold mMv
    rw [hT 5 (by omega), ht]
    simp only [zMv, Int32.ofInt_sub, Int32.ofInt_add, Int32.ofInt_mul]
  | 6, _ => by
    unfold mMv
    rw [hT 6 (by omega), ht]
    simp only [zMv, Int32.ofInt_sub, Int32.ofInt_add, Int32.ofInt_mul]
  | 7, _ => by
    unfold mMv
    rw [hT 4 (by omega), hT 5 (by omega), hT 6 (by omega), hT 7 (by omega), ht, hx, hy, hz]
    simp only [zMv, Int32.ofInt_sub, Int32.ofInt_add, Int32.ofInt_mul]
  | 8, _ => by
    unfold mMv
    rw [hT 8 (by omega), ht]
    simp only [zMv, Int32.ofInt_sub, Int32.ofInt_add, Int32.ofInt_mul]
  | 9, _ => by
    unfold mMv
    rw [hT 9 (by omega), ht]
    simp only [zMv, Int32.ofInt_sub, Int32.ofInt_add, Int32.ofInt_mul]
  | 10, _ => by
    unfold mMv
    rw [hT 10 (by omega), ht]
    simp only [zMv, Int32.ofInt_sub, Int32.ofInt_add, Int32.ofInt_mul]
  | 11, _ => by
    unfold mMv
    rw [hT 8 (by omega), hT 9 (by omega), hT 10 (by omega), hT 11 (by omega), ht, hx, hy, hz]
    simp only [zMv, Int32.ofInt_sub, Int32.ofInt_add, Int32.ofInt_mul]
  | 12, _ => by
    unfold mMv
    rw [hT 0 (by omega), hT 1 (by omega), hT 2 (by omega), hT 3 (by omega), ht, hx, hy, hz]
    simp only [zMv, Int32.ofInt_sub, Int32.ofInt_add, Int32.ofInt_mul]
  | 13, _ => by
    unfold mMv
    rw [hT 4 (by omega), hT 5 (by omega), hT 6 (by omega), hT 7 (by omega), ht, hx, hy, hz]
    simp only [zMv, Int32.ofInt_sub, Int32.ofInt_add, Int32.ofInt_mul]
  | 14, _ => by
    unfold mMv
    rw [hT 8 (by omega), hT 9 (by omega), hT 10 (by omega), hT 11 (by omega), ht, hx, hy, hz]
    simp only [zMv, Int32.ofInt_sub, Int32.ofInt_add, Int32.ofInt_mul]
  | 15, _ => by
    unfold mMv
    rw [hT 0 (by omega), hT 1 (by omega), hT 2 (by omega), hT 3 (by omega), hT 4 (by omega), hT 5 (by omega), hT 6 (by omega), hT 7 (by omega), hT 8 (by omega), hT 9 (by omega), hT 10 (by omega), hT 11 (by omega), hT 15 (by omega), ht, hx, hy, hz, i32_2, i32_m]
    simp only [zMv, Int32.ofInt_sub, Int32.ofInt_add, Int32.ofInt_mul]
  | j + 16, h => absurd h (by omega)
theorem zMv_b {T : Nat → Int} (h : ∀ j, j < 16 → (T j).natAbs ≤ 4) {x y z : Int} (hx : x.natAbs ≤ 80) (hy : y.natAbs ≤ 80) (hz : z.natAbs ≤ 80) : ∀ j, j < 16 → (zMv T x y z j).natAbs ≤ 1000000
  | 0, _ => Nat.le_trans (h 0 (by omega)) (by decide)
  | 1, _ => Nat.le_trans (h 1 (by omega)) (by decide)
  | 2, _ => Nat.le_trans (h 2 (by omega)) (by decide)
  | 3, _ => Nat.le_trans (ns_ (h 3 (by omega)) (na_ (na_ (nm_ (h 0 (by omega)) hx) (nm_ (h 1 (by omega)) hy)) (nm_ (h 2 (by omega)) hz))) (by decide)
  | 4, _ => Nat.le_trans (h 4 (by omega)) (by decide)
  | 5, _ => Nat.le_trans (h 5 (by omega)) (by decide)
  | 6, _ => Nat.le_trans (h 6 (by omega)) (by decide)
  | 7, _ => Nat.le_trans (ns_ (h 7 (by omega)) (na_ (na_ (nm_ (h 4 (by omega)) hx) (nm_ (h 5 (by omega)) hy)) (nm_ (h 6 (by omega)) hz))) (by decide)
  | 8, _ => Nat.le_trans (h 8 (by omega)) (by decide)
  | 9, _ => Nat.le_trans (h 9 (by omega)) (by decide)
  | 10, _ => Nat.le_trans (h 10 (by omega)) (by decide)
  | 11, _ => Nat.le_trans (ns_ (h 11 (by omega)) (na_ (na_ (nm_ (h 8 (by omega)) hx) (nm_ (h 9 (by omega)) hy)) (nm_ (h 10 (by omega)) hz))) (by decide)
  | 12, _ => Nat.le_trans (ns_ (h 3 (by omega)) (na_ (na_ (nm_ (h 0 (by omega)) hx) (nm_ (h 1 (by omega)) hy)) (nm_ (h 2 (by omega)) hz))) (by decide)
  | 13, _ => Nat.le_trans (ns_ (h 7 (by omega)) (na_ (na_ (nm_ (h 4 (by omega)) hx) (nm_ (h 5 (by omega)) hy)) (nm_ (h 6 (by omega)) hz))) (by decide)
  | 14, _ => Nat.le_trans (ns_ (h 11 (by omega)) (na_ (na_ (nm_ (h 8 (by omega)) hx) (nm_ (h 9 (by omega)) hy)) (nm_ (h 10 (by omega)) hz))) (by decide)
  | 15, _ => Nat.le_trans (na_ (na_ (na_ (h 15 (by omega)) (ns_ (nm_ (nm_ hx (ns_ (ns_ (h 3 (by omega)) (na_ (na_ (nm_ (h 0 (by omega)) hx) (nm_ (h 1 (by omega)) hy)) (nm_ (h 2 (by omega)) hz))) (h 3 (by omega)))) (show (-1 : Int).natAbs ≤ 1 by decide)) (nm_ (nm_ (k_ 2) hx) (h 3 (by omega))))) (ns_ (nm_ (nm_ hy (ns_ (ns_ (h 7 (by omega)) (na_ (na_ (nm_ (h 4 (by omega)) hx) (nm_ (h 5 (by omega)) hy)) (nm_ (h 6 (by omega)) hz))) (h 7 (by omega)))) (show (-1 : Int).natAbs ≤ 1 by decide)) (nm_ (nm_ (k_ 2) hy) (h 7 (by omega))))) (ns_ (nm_ (nm_ hz (ns_ (ns_ (h 11 (by omega)) (na_ (na_ (nm_ (h 8 (by omega)) hx) (nm_ (h 9 (by omega)) hy)) (nm_ (h 10 (by omega)) hz))) (h 11 (by omega)))) (show (-1 : Int).natAbs ≤ 1 by decide)) (nm_ (nm_ (k_ 2) hz) (h 11 (by omega))))) (by decide)
  | j + 16, h => absurd h (by omega)
theorem pz_mv {T : Nat → Int32} (hT : ∀ j, j < 16 → (T j).toInt.natAbs ≤ 4) {tn x y z : Int32} (ht : tn.toInt = 1 ∨ tn.toInt = -1) (hx : x.toInt.natAbs ≤ 80) (hy : y.toInt.natAbs ≤ 80) (hz : z.toInt.natAbs ≤ 80) : ∀ j, j < 16 → pz (mMv T tn x y z) j = zMv (fun j => tn.toInt * (T j).toInt) x.toInt y.toInt z.toInt j := fun j hj => by
  have b := zMv_b (T := fun j => tn.toInt * (T j).toInt) (fun j hj => by have := hT j hj; rcases ht with e | e <;> rw [e] <;> omega) hx hy hz j hj
  unfold pz
  rw [mMv_o (t := fun j => (T j).toInt) (fun j _ => (Int32.ofInt_toInt _).symm) (Int32.ofInt_toInt _).symm (Int32.ofInt_toInt _).symm (Int32.ofInt_toInt _).symm (Int32.ofInt_toInt _).symm j hj, Int32.toInt_ofInt_of_le (by omega) (by omega)]
theorem zMv_0 (T : Nat → Int) (hs : ∀ x y, x < 4 → y < 4 → T (4 * x + y) = T (4 * y + x)) : ∀ j, j < 16 → zMv T 0 0 0 j = T j := fun j hj => by
  have e12 : T 12 = T 3 := hs 3 0 (by omega) (by omega)
  have e13 : T 13 = T 7 := hs 3 1 (by omega) (by omega)
  have e14 : T 14 = T 11 := hs 3 2 (by omega) (by omega)
  match j, hj with
  | 0, _ => rfl
  | 1, _ => rfl
  | 2, _ => rfl
  | 3, _ => simp only [zMv]; omega
  | 4, _ => rfl
  | 5, _ => rfl
  | 6, _ => rfl
  | 7, _ => simp only [zMv]; omega
  | 8, _ => rfl
  | 9, _ => rfl
  | 10, _ => rfl
  | 11, _ => simp only [zMv]; omega
  | 12, _ => simp only [zMv]; omega
  | 13, _ => simp only [zMv]; omega
  | 14, _ => simp only [zMv]; omega
  | 15, _ => simp only [zMv]; grind
  | j + 16, h => omega
