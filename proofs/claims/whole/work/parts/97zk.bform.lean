theorem zW_c {t t' : Nat → Int} (h : ∀ j, j < 16 → t j = t' j) : zW t = zW t' := by
  unfold zW
  rw [h 0 (by omega), h 1 (by omega), h 2 (by omega), h 3 (by omega), h 4 (by omega), h 5 (by omega), h 6 (by omega), h 7 (by omega), h 8 (by omega), h 9 (by omega), h 10 (by omega), h 11 (by omega), h 12 (by omega), h 13 (by omega), h 14 (by omega), h 15 (by omega)]
theorem zF_c {A A' B B' : Nat → Int} (ha : ∀ j, j < 16 → A j = A' j) (hb : ∀ j, j < 16 → B j = B' j) : zF A B = zF A' B' := by
  have q : ∀ n, zW (zSel n A B) = zW (zSel n A' B') := fun n => zW_c (fun j hj => by unfold zSel; rw [ha j hj, hb j hj])
  funext k
  match k with
  | 0 => exact q 15
  | 1 => show _ + _ + _ + _ = _ + _ + _ + _; rw [q 7, q 11, q 13, q 14]
  | 2 => show _ + _ + _ + _ + _ + _ = _ + _ + _ + _ + _ + _; rw [q 3, q 5, q 6, q 9, q 10, q 12]
  | 3 => show _ + _ + _ + _ = _ + _ + _ + _; rw [q 1, q 2, q 4, q 8]
  | k + 4 => exact q 0
theorem zF_0 (A B : Nat → Int) : zF A B 0 = zW A := by
  show zW (zSel 15 A B) = zW A
  refine zW_c (fun j hj => ?_)
  unfold zSel
  rw [if_pos]
  have : j / 4 = 0 ∨ j / 4 = 1 ∨ j / 4 = 2 ∨ j / 4 = 3 := by omega
  rcases this with e | e | e | e <;> rw [e] <;> decide
theorem zF_40 (A B : Nat → Int) : zF A B 4 = zW B := by
  show zW (zSel 0 A B) = zW B
  refine zW_c (fun j hj => ?_)
  unfold zSel
  rw [if_neg]
  rw [Nat.zero_div]; decide
theorem zMv_s {T : Nat → Int} (hs : ∀ x y, x < 4 → y < 4 → T (4 * x + y) = T (4 * y + x)) (x y z : Int) : ∀ i j, i < 4 → j < 4 → zMv T x y z (4 * i + j) = zMv T x y z (4 * j + i) := fun i j hi hj => by
  have e4 : T 4 = T 1 := hs 1 0 (by omega) (by omega)
  have e8 : T 8 = T 2 := hs 2 0 (by omega) (by omega)
  have e9 : T 9 = T 6 := hs 2 1 (by omega) (by omega)
  match i, hi, j, hj with
  | 0, _, 0, _ => rfl
  | 0, _, 1, _ => exact e4.symm
  | 0, _, 2, _ => exact e8.symm
  | 0, _, 3, _ => rfl
  | 1, _, 0, _ => exact e4
  | 1, _, 1, _ => rfl
  | 1, _, 2, _ => exact e9.symm
  | 1, _, 3, _ => rfl
  | 2, _, 0, _ => exact e8
  | 2, _, 1, _ => exact e9
  | 2, _, 2, _ => rfl
  | 2, _, 3, _ => rfl
  | 3, _, 0, _ => rfl
  | 3, _, 1, _ => rfl
  | 3, _, 2, _ => rfl
  | 3, _, 3, _ => rfl
theorem zMv_w {T : Nat → Int} (hs : ∀ x y, x < 4 → y < 4 → T (4 * x + y) = T (4 * y + x)) (x y z : Int) : zW (zMv T x y z) = zW T := by
  have e4 : T 4 = T 1 := hs 1 0 (by omega) (by omega)
  have e8 : T 8 = T 2 := hs 2 0 (by omega) (by omega)
  have e9 : T 9 = T 6 := hs 2 1 (by omega) (by omega)
  rw [dd_s (zMv_s hs x y z), dd_s hs]
  simp only [zMv]
  rw [e4, e8, e9]
  have b1 := bi_ (T 0) (T 1) (T 2) (T 3) (T 5) (T 6) (T 7) (T 10) (T 11) (T 15) (-x) (-y) (-z) 1
  generalize hm3 : T 3 - (T 0 * x + T 1 * y + T 2 * z) = m3 at *
  generalize hm7 : T 7 - (T 1 * x + T 5 * y + T 6 * z) = m7 at *
  generalize hm11 : T 11 - (T 2 * x + T 6 * y + T 10 * z) = m11 at *
  have f0 : T 0 * -x + T 1 * -y + T 2 * -z + T 3 * 1 = m3 := by rw [← hm3]; grind
  have f1 : T 1 * -x + T 5 * -y + T 6 * -z + T 7 * 1 = m7 := by rw [← hm7]; grind
  have f2 : T 2 * -x + T 6 * -y + T 10 * -z + T 11 * 1 = m11 := by rw [← hm11]; grind
  rw [f0, f1, f2] at b1
  generalize hm15 : T 15 + (x * (m3 - T 3) * -1 - 2 * x * T 3) + (y * (m7 - T 7) * -1 - 2 * y * T 7) + (z * (m11 - T 11) * -1 - 2 * z * T 11) = m15 at *
  have b2 := bi_ (T 0) (T 1) (T 2) m3 (T 5) (T 6) m7 (T 10) m11 m15 0 0 0 1
  have f3 : -x * m3 + -y * m7 + -z * m11 + 1 * (T 3 * -x + T 7 * -y + T 11 * -z + T 15 * 1) = m15 := by rw [← hm15]; grind
  rw [f3] at b1
  have k : ∀ a b c d : Int, a * 0 + b * 0 + c * 0 + d * 1 = d := by intro a b c d; omega
  rw [k, k, k, k] at b2
  have k2 : 0 * m3 + 0 * m7 + 0 * m11 + 1 * m15 = m15 := by omega
  rw [k2] at b2
  omega
theorem zMv_t (T : Nat → Int) (t x y z : Int) : ∀ j, j < 16 → zMv (fun j => t * T j) x y z j = t * zMv T x y z j
  | 0, _ => rfl
  | 1, _ => rfl
  | 2, _ => rfl
  | 3, _ => by simp only [zMv]; grind
  | 4, _ => rfl
  | 5, _ => rfl
  | 6, _ => rfl
  | 7, _ => by simp only [zMv]; grind
  | 8, _ => rfl
  | 9, _ => rfl
  | 10, _ => rfl
  | 11, _ => by simp only [zMv]; grind
  | 12, _ => by simp only [zMv]; grind
  | 13, _ => by simp only [zMv]; grind
  | 14, _ => by simp only [zMv]; grind
  | 15, _ => by simp only [zMv]; grind
  | j + 16, h => absurd h (by omega)
/-- the form of two balls, the second moved -/
def BF (s : sG) (g h : Nat) (x y z : Int) : Nat → Int := zF (BT s g) (zMv (BT s h) x y z)
theorem BF_M {s : sG} (hW : wF s) {g h : Nat} (hg : g < 12) (hh : h < 12) {x y z : Int32} (hx : x.toInt.natAbs ≤ 80) (hy : y.toInt.natAbs ≤ 80) (hz : z.toInt.natAbs ≤ 80) : ∀ j, mFm (mMv (fun k => s.1 123 (16 * g + k)) (mTn (s.1 124) g) 0 0 0) (mMv (fun k => s.1 123 (16 * h + k)) (mTn (s.1 124) h) x y z) j = Int64.ofInt (BF s g h x.toInt y.toInt z.toInt j) := fun j => by
  rw [mFm_o]
  unfold BF
  rw [zF_c (A' := BT s g) (B' := zMv (BT s h) x.toInt y.toInt z.toInt) (fun k hk => ?_) (fun k hk => ?_)]
  · rw [pz_mv (tz_b (hW.2.1 g hg)) (tau_pm s g) (by decide) (by decide) (by decide) k hk]
    show zMv (BT s g) (0 : Int32).toInt (0 : Int32).toInt (0 : Int32).toInt k = _
    rw [nb_0]
    exact zMv_0 _ (BT_s hW hg) k hk
  · exact pz_mv (tz_b (hW.2.1 h hh)) (tau_pm s h) hx hy hz k hk
theorem BF_ok {s : sG} (hW : wF s) {g h : Nat} (hg : g < 12) (hh : h < 12) (kg : s.1 124 (10 * g) = 3) (kh : s.1 124 (10 * h) = 3) {x y z : Int} (h30 : ∀ j, j < 16 → (zMv (BT s h) x y z j).natAbs ≤ 30) : bd (BF s g h x y z) ∧ (¬ BF s g h x y z 0 = 0) ∧ 0 < BF s g h x y z 4 * BF s g h x y z 0 ∧ NBf (BF s g h x y z) := by
  obtain ⟨p1, n1, _⟩ := BT_pd hW hg kg
  obtain ⟨p2, n2, _⟩ := BT_pd hW hh kh
  have e0 : BF s g h x y z 0 = zW (BT s g) := zF_0 _ _
  have e4 : BF s g h x y z 4 = zW (BT s h) := (zF_40 _ _).trans (zMv_w (BT_s hW hh) x y z)
  refine ⟨zF_b (BT_b hW hg) (fun j hj => ?_), by omega, by rw [e0, e4]; exact Int.mul_pos_of_neg_of_neg n2 n1, nb_t (BT_s hW hg) (zMv_s (BT_s hW hh) x y z) p1 p2⟩
  have b := h30 j hj
  have t := BT_b hW hh j hj
  unfold mvB
  by_cases c : j < 12 ∧ j % 4 < 3
  · rw [if_pos c]
    have e : zMv (BT s h) x y z j = BT s h j := by
      have : j = 0 ∨ j = 1 ∨ j = 2 ∨ j = 4 ∨ j = 5 ∨ j = 6 ∨ j = 8 ∨ j = 9 ∨ j = 10 := by omega
      rcases this with e | e | e | e | e | e | e | e | e <;> subst e <;> rfl
    rw [e]; exact t
  · rw [if_neg c]; exact b
theorem okB {F : Nat → Int} (h : bd F) (h0 : ¬ F 0 = 0) : okF F := ⟨h, fun z => absurd z h0⟩
theorem fok_z {f : Nat → Int64} {F : Nat → Int} (hf : ∀ j, f j = Int64.ofInt (F j)) (h : bd F) (h0 : ¬ F 0 = 0) : mFok f := by
  refine ⟨fun j hj => ?_, mPq_z (fun j _ => hf j) (okB h h0), fun q => h0 ?_⟩
  · have := bd_s h j hj
    rw [hf j, o6_toInt (by omega)]; omega
  · have := h.1
    have q0 := q 0 (by omega)
    rw [hf 0, o6_0 (by omega)] at q0
    exact q0
/-- what two balls have -/
def ansB (F : Nat → Int) : Int32 := cMt (fun j => Int64.ofInt (F j))
theorem cMt_e {f f' : Nat → Int64} (h : ∀ j, j < 5 → f j = f' j) : cMt f = cMt f' := by
  rw [← cMt_c h]
  unfold cMt
  have e1 : cIi f = cIi f' := by unfold cIi; rw [h 0 (by omega), h 1 (by omega), h 2 (by omega), h 3 (by omega), h 4 (by omega)]
  have e2 : cJj f = cJj f' := by unfold cJj; rw [h 0 (by omega), h 1 (by omega), h 2 (by omega), h 3 (by omega), h 4 (by omega)]
  rw [e1, e2]
theorem ar_z {f : Nat → Int64} {F : Nat → Int} (hf : ∀ j, f j = Int64.ofInt (F j)) (hb : bd F) (h0 : ¬ F 0 = 0) (h4 : 0 < F 4 * F 0) (nb : NBf F) {bb m0 : Nat} {s : mP} (hd : mPd f bb m0 s) {rl tw : Int32} (hl : (rl, tw) = mLL s.m s.f) : mAo s rl tw = ansB F := by
  rw [ball_ao (fun j _ => hf j) hb h0 h4 nb hd hl]
  exact cMt_e (fun j _ => hf j)
