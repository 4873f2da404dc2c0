theorem nI_o {i : Nat} (h : i < 2147483648) : nI i = Int32.ofInt (i : Int) := by
  have e := congrArg Int32.ofInt (nI_toInt (n := i) h)
  rw [Int32.ofInt_toInt] at e
  exact e
theorem mvk {i : Nat} (hi : i < 21) {x : Int32} (hx : x.toInt.natAbs ≤ 4) : Int32.toInt64 ((-(nI i)) * x) = Int64.ofInt (-((i : Int) * x.toInt)) ∧ (nI i * x).toInt = (i : Int) * x.toInt ∧ ((i : Int) * x.toInt).natAbs ≤ 80 := by
  have b : ((i : Int) * x.toInt).natAbs ≤ 80 := Nat.le_trans (nm_ (show (i : Int).natAbs ≤ 20 by omega) hx) (by decide)
  have e : (-(nI i)) * x = Int32.ofInt (-((i : Int) * x.toInt)) := by
    rw [nI_o (by omega), ← Int.neg_mul, Int32.ofInt_mul, Int32.ofInt_toInt, Int32.ofInt_neg]
  have e2 : nI i * x = Int32.ofInt ((i : Int) * x.toInt) := by
    rw [nI_o (by omega), Int32.ofInt_mul, Int32.ofInt_toInt]
  refine ⟨?_, ?_, b⟩
  · rw [e, i2l_o, Int32.toInt_ofInt_of_le (by omega) (by omega)]
  · rw [e2, Int32.toInt_ofInt_of_le (by omega) (by omega)]
theorem zSh3 {w : Nat → Int} (hs : ∀ a b, a < 4 → b < 4 → w (4 * a + b) = w (4 * b + a)) (x y z : Int) : ∀ j, j < 16 → zSh (zSh (zSh w 0 3 (-x)) 1 3 (-y)) 2 3 (-z) j = zMv w x y z j := fun j hj => by
  have e4 : w 4 = w 1 := hs 1 0 (by omega) (by omega)
  have e8 : w 8 = w 2 := hs 2 0 (by omega) (by omega)
  have e9 : w 9 = w 6 := hs 2 1 (by omega) (by omega)
  have e12 : w 12 = w 3 := hs 3 0 (by omega) (by omega)
  have e13 : w 13 = w 7 := hs 3 1 (by omega) (by omega)
  have e14 : w 14 = w 11 := hs 3 2 (by omega) (by omega)
  match j, hj with
  | 0, _ => rfl
  | 1, _ => rfl
  | 2, _ => rfl
  | 3, _ => simp (config := { decide := true }) only [zSh, zSv, zMv, e4, e8, e9, e12, e13, e14, if_true, if_false, not_true, not_false_eq_true, Nat.reduceMul, Nat.reduceAdd, Nat.reduceDiv, Nat.reduceMod]; grind
  | 4, _ => rfl
  | 5, _ => rfl
  | 6, _ => rfl
  | 7, _ => simp (config := { decide := true }) only [zSh, zSv, zMv, e4, e8, e9, e12, e13, e14, if_true, if_false, not_true, not_false_eq_true, Nat.reduceMul, Nat.reduceAdd, Nat.reduceDiv, Nat.reduceMod]; grind
  | 8, _ => rfl
  | 9, _ => rfl
  | 10, _ => rfl
  | 11, _ => simp (config := { decide := true }) only [zSh, zSv, zMv, e4, e8, e9, e12, e13, e14, if_true, if_false, not_true, not_false_eq_true, Nat.reduceMul, Nat.reduceAdd, Nat.reduceDiv, Nat.reduceMod]; grind
  | 12, _ => simp (config := { decide := true }) only [zSh, zSv, zMv, e4, e8, e9, e12, e13, e14, if_true, if_false, not_true, not_false_eq_true, Nat.reduceMul, Nat.reduceAdd, Nat.reduceDiv, Nat.reduceMod]; grind
  | 13, _ => simp (config := { decide := true }) only [zSh, zSv, zMv, e4, e8, e9, e12, e13, e14, if_true, if_false, not_true, not_false_eq_true, Nat.reduceMul, Nat.reduceAdd, Nat.reduceDiv, Nat.reduceMod]; grind
  | 14, _ => simp (config := { decide := true }) only [zSh, zSv, zMv, e4, e8, e9, e12, e13, e14, if_true, if_false, not_true, not_false_eq_true, Nat.reduceMul, Nat.reduceAdd, Nat.reduceDiv, Nat.reduceMod]; grind
  | 15, _ => simp (config := { decide := true }) only [zSh, zSv, zMv, e4, e8, e9, e12, e13, e14, if_true, if_false, not_true, not_false_eq_true, Nat.reduceMul, Nat.reduceAdd, Nat.reduceDiv, Nat.reduceMod]; grind
  | j + 16, h => omega
theorem cMov_z {f : Nat → Int64} {w : Nat → Int} (hf : ∀ x, x < 16 → f x = Int64.ofInt (w x)) (hs : ∀ a b, a < 4 → b < 4 → w (4 * a + b) = w (4 * b + a)) {m : Nat → Int32} (hm : ∀ j, j < 3 → (m j).toInt.natAbs ≤ 4) {i : Nat} (hi : i < 21) : ∀ j, j < 16 → cMov f m (nI i) j = Int64.ofInt (zMv w ((i : Int) * (m 0).toInt) ((i : Int) * (m 1).toInt) ((i : Int) * (m 2).toInt) j) := fun j hj => by
  unfold cMov
  rw [(mvk hi (hm 0 (by omega))).1, (mvk hi (hm 1 (by omega))).1, (mvk hi (hm 2 (by omega))).1]
  have s1 : ∀ x, x < 16 → cShr f 0 3 (Int64.ofInt (-((i : Int) * (m 0).toInt))) x = Int64.ofInt (zSh w 0 3 (-((i : Int) * (m 0).toInt)) x) := fun x hx => sh_C hf hs (by omega) (by omega) (by omega) hx
  have h1 := fun a b (ha : a < 4) (hb : b < 4) => zSh_s 0 3 (-((i : Int) * (m 0).toInt)) hs ha hb
  have s2 : ∀ x, x < 16 → cShr (cShr f 0 3 (Int64.ofInt (-((i : Int) * (m 0).toInt)))) 1 3 (Int64.ofInt (-((i : Int) * (m 1).toInt))) x = Int64.ofInt (zSh (zSh w 0 3 (-((i : Int) * (m 0).toInt))) 1 3 (-((i : Int) * (m 1).toInt)) x) := fun x hx => sh_C s1 h1 (by omega) (by omega) (by omega) hx
  have h2 := fun a b (ha : a < 4) (hb : b < 4) => zSh_s 1 3 (-((i : Int) * (m 1).toInt)) h1 ha hb
  rw [sh_C s2 h2 (by omega) (by omega) (by omega) hj, zSh3 hs _ _ _ j hj]
/-- the steps of a motion -/
def mI (s : sG) (k : Nat) (a : Nat) : Int := (s.1 118 (16 * k + a)).toInt
def mvP (s : sG) (h k i : Nat) : Prop := ∀ j, j < 16 → (zMv (BT s h) ((i : Int) * mI s k 0) ((i : Int) * mI s k 1) ((i : Int) * mI s k 2) j).natAbs ≤ 30
def mvF (s : sG) (g h k i : Nat) : Nat → Int := BF s g h ((i : Int) * mI s k 0) ((i : Int) * mI s k 1) ((i : Int) * mI s k 2)
def mvS (s : sG) (k : Nat) : Prop := ∀ a, a < 3 → (mI s k a).natAbs ≤ 4
theorem zMv_ab {s : sG} {h : Nat} (x y z : Int) {j : Nat} (hj : j < 16) : (zMv (BT s h) x y z j).natAbs = (zMv (tz s h) x y z j).natAbs := by
  have e : zMv (BT s h) x y z j = tau s h * zMv (tz s h) x y z j := zMv_t (tz s h) (tau s h) x y z j hj
  rw [e]
  rcases tau_pm s h with q | q <;> rw [q] <;> omega
theorem mv_rl {s : sG} (hW : wF s) {f : Nat → Int64} {h k : Nat} (hh : h < 12) (hf : ∀ j, j < 16 → f j = tb s h j) {m : Nat → Int32} (hm : ∀ j, j < 3 → (m j).toInt = mI s k j) (ms : mvS s k) {i : Nat} (hi : i < 21) : (∀ j, j < 16 → cMov f m (nI i) j = Int64.ofInt (zMv (tz s h) ((i : Int) * mI s k 0) ((i : Int) * mI s k 1) ((i : Int) * mI s k 2) j)) ∧ (mRl (cMov f m (nI i)) 30 ↔ mvP s h k i) := by
  have c := cMov_z (f := f) (w := tz s h) (fun x hx => (hf x hx).trans (i2l_o _)) (tz_s (hW.2.1 h hh)) (m := m) (fun j hj => by rw [hm j hj]; exact ms j hj) hi
  rw [hm 0 (by omega), hm 1 (by omega), hm 2 (by omega)] at c
  refine ⟨c, ?_⟩
  have bx : ∀ a, a < 3 → ((i : Int) * mI s k a).natAbs ≤ 80 := fun a ha => Nat.le_trans (nm_ (show (i : Int).natAbs ≤ 20 by omega) (ms a ha)) (by decide)
  have bb := zMv_b (tz_b (hW.2.1 h hh)) (bx 0 (by omega)) (bx 1 (by omega)) (bx 2 (by omega))
  have k1 : Int32.toInt64 (-30) = Int64.ofInt (-30) := by decide
  have k2 : Int32.toInt64 30 = Int64.ofInt 30 := by decide
  have q : ∀ j, j < 16 → (((¬ cMov f m (nI i) j < Int32.toInt64 (-30)) ∧ (¬ Int32.toInt64 30 < cMov f m (nI i) j)) ↔ (zMv (BT s h) ((i : Int) * mI s k 0) ((i : Int) * mI s k 1) ((i : Int) * mI s k 2) j).natAbs ≤ 30) := fun j hj => by
    have b := bb j hj
    rw [zMv_ab _ _ _ hj, c j hj, k1, k2, nb_ltL, nb_ltL, o6_toInt (by omega), o6_toInt (by decide), o6_toInt (by decide)]
    omega
  exact ⟨fun r j hj => (q j hj).mp (r j hj), fun r j hj => (q j hj).mpr (r j hj)⟩
theorem mv_C {s : sG} {I : ma_I} {L : ma_L} (hW : wF s) (hC : ∀ g, g < 12 → rcG s I L g) {g h k : Nat} (hg : g < 12) (hh : h < 12) (kg : s.1 124 (10 * g) = 3) (kh : s.1 124 (10 * h) = 3) {m : Nat → Int32} (hm : ∀ j, j < 3 → (m j).toInt = mI s k j) (ms : mvS s k) {i : Nat} (hi : i < 21) (hp : mvP s h k i) : cMt (cFo (L (57 + 5 * g)) (cMov (L (57 + 5 * h)) m (nI i)) (cBl (I (59 + 5 * g))) (cBl (I (59 + 5 * h)))) = ansB (mvF s g h k i) := by
  have c := (mv_rl hW hh (hC h hh).2.1 hm ms hi).1
  have t1 : cBl (I (59 + 5 * g)) = mTn (s.1 124) g := tn_C hW hC hg kg
  have t2 : cBl (I (59 + 5 * h)) = mTn (s.1 124) h := tn_C hW hC hh kh
  rw [t1, t2]
  have ok := BF_ok hW hg hh kg kh hp
  have e : zF (fun j => tz s g j * (mTn (s.1 124) g).toInt) (fun j => zMv (tz s h) ((i : Int) * mI s k 0) ((i : Int) * mI s k 1) ((i : Int) * mI s k 2) j * (mTn (s.1 124) h).toInt) = mvF s g h k i := by
    unfold mvF BF
    refine zF_c (fun j hj => Int.mul_comm _ _) (fun j hj => ?_)
    have e : zMv (BT s h) ((i : Int) * mI s k 0) ((i : Int) * mI s k 1) ((i : Int) * mI s k 2) j = tau s h * zMv (tz s h) ((i : Int) * mI s k 0) ((i : Int) * mI s k 1) ((i : Int) * mI s k 2) j := zMv_t (tz s h) (tau s h) _ _ _ j hj
    rw [e]
    exact Int.mul_comm _ _
  have q := cFo_z (M := mTn (s.1 124) g) (Q := mTn (s.1 124) h) (A := tz s g) (B := zMv (tz s h) ((i : Int) * mI s k 0) ((i : Int) * mI s k 1) ((i : Int) * mI s k 2)) (mTn_pm _ _) (mTn_pm _ _) (fun j hj => ((hC g hg).2.1 j hj).trans (i2l_o _)) c (fun k hk => by rw [e]; exact Nat.le_trans (bd_s ok.1 k hk) (by decide))
  rw [e] at q
  exact cMt_e q
/-- what the class needs of any motion -/
theorem mv_K {s : sG} {I : ma_I} {L : ma_L} (hW : wF s) (hC : ∀ g, g < 12 → rcG s I L g) : ∀ g h x k, g < 12 → h < 12 → x < 8 → k < 21 → mRl (cMov (L (57 + 5 * h)) (I (40 + 2 * x)) (nI k)) 30 → ∀ m q : Int32, (m = 1 ∨ m = -1) → (q = 1 ∨ q = -1) → cFk (cFo (L (57 + 5 * g)) (cMov (L (57 + 5 * h)) (I (40 + 2 * x)) (nI k)) m q) := fun g h x k hg hh _ _ hr m q hm hq => by
  have k1 : Int32.toInt64 (-30) = Int64.ofInt (-30) := by decide
  have k2 : Int32.toInt64 30 = Int64.ofInt 30 := by decide
  have b30 : ∀ j, j < 16 → (cMov (L (57 + 5 * h)) (I (40 + 2 * x)) (nI k) j).toInt.natAbs ≤ 30 := fun j hj => by
    have r := hr j hj
    rw [k1, k2, nb_ltL, nb_ltL, o6_toInt (by decide), o6_toInt (by decide)] at r
    omega
  have b4 : ∀ j, j < 16 → j < 12 ∧ j % 4 < 3 → (cMov (L (57 + 5 * h)) (I (40 + 2 * x)) (nI k) j).toInt.natAbs ≤ 4 := fun j hj hc => by
    have e : cMov (L (57 + 5 * h)) (I (40 + 2 * x)) (nI k) j = L (57 + 5 * h) j := by
      unfold cMov cShr cKr cKc
      simp only [show ¬ (j / 4 = 3 ∧ j % 4 < 4) by omega, show ¬ (j % 4 = 3 ∧ j / 4 < 4) by omega, if_false]
    rw [e, (hC h hh).2.1 j hj]
    have := tz_b (hW.2.1 h hh) j hj
    unfold tb
    rw [nb_i2l]; exact this
  have t4 : ∀ {v : Int} {M : Int32}, (M = 1 ∨ M = -1) → (v * M.toInt).natAbs = v.natAbs := fun {v M} hM => by
    rcases hM with e | e
    · rw [e, show (1 : Int32).toInt = 1 by decide]; omega
    · rw [e, show (-1 : Int32).toInt = -1 by decide]; omega
  have b := zF_b (A := fun j => tz s g j * m.toInt) (B := fun j => (cMov (L (57 + 5 * h)) (I (40 + 2 * x)) (nI k) j).toInt * q.toInt) (tz4 hW hg hm) (fun j hj => by
    rw [t4 hq]
    unfold mvB
    by_cases c : j < 12 ∧ j % 4 < 3
    · rw [if_pos c]; exact b4 j hj c
    · rw [if_neg c]; exact b30 j hj)
  exact cFk_z (cFo_z hm hq (fun j hj => ((hC g hg).2.1 j hj).trans (i2l_o _)) (fun j _ => (Int64.ofInt_toInt _).symm) (fun k hk => Nat.le_trans (bd_s b k hk) (by decide))) b
theorem mv_M {s : sG} (hW : wF s) {g h k : Nat} (hg : g < 12) (hh : h < 12) (ms : mvS s k) {i : Nat} (hi : i < 21) : (∀ j, mFm (mMv (fun k => s.1 123 (16 * g + k)) (mTn (s.1 124) g) 0 0 0) (mMv (fun k => s.1 123 (16 * h + k)) (mTn (s.1 124) h) (nI i * s.1 118 (16 * k)) (nI i * s.1 118 (16 * k + 1)) (nI i * s.1 118 (16 * k + 2))) j = Int64.ofInt (mvF s g h k i j)) ∧ ∀ j, j < 16 → (mIn30 (mMv (fun k => s.1 123 (16 * h + k)) (mTn (s.1 124) h) (nI i * s.1 118 (16 * k)) (nI i * s.1 118 (16 * k + 1)) (nI i * s.1 118 (16 * k + 2)) j) ↔ (zMv (BT s h) ((i : Int) * mI s k 0) ((i : Int) * mI s k 1) ((i : Int) * mI s k 2) j).natAbs ≤ 30) := by
  have v0 := mvk hi (x := s.1 118 (16 * k)) (ms 0 (by omega))
  have v1 := mvk hi (x := s.1 118 (16 * k + 1)) (ms 1 (by omega))
  have v2 := mvk hi (x := s.1 118 (16 * k + 2)) (ms 2 (by omega))
  have x0 : (nI i * s.1 118 (16 * k)).toInt.natAbs ≤ 80 := by rw [v0.2.1]; exact v0.2.2
  have x1 : (nI i * s.1 118 (16 * k + 1)).toInt.natAbs ≤ 80 := by rw [v1.2.1]; exact v1.2.2
  have x2 : (nI i * s.1 118 (16 * k + 2)).toInt.natAbs ≤ 80 := by rw [v2.2.1]; exact v2.2.2
  have e := BF_M hW hg hh x0 x1 x2
  have e2 := pz_mv (T := fun k => s.1 123 (16 * h + k)) (tz_b (hW.2.1 h hh)) (tau_pm s h) x0 x1 x2
  rw [v0.2.1, v1.2.1, v2.2.1] at e e2
  refine ⟨e, fun j hj => ?_⟩
  have e3 := e2 j hj
  unfold pz at e3
  have e3 : (mMv (fun k => s.1 123 (16 * h + k)) (mTn (s.1 124) h) (nI i * s.1 118 (16 * k)) (nI i * s.1 118 (16 * k + 1)) (nI i * s.1 118 (16 * k + 2)) j).toInt = zMv (BT s h) ((i : Int) * mI s k 0) ((i : Int) * mI s k 1) ((i : Int) * mI s k 2) j := e3
  unfold mIn30
  rw [nb_lt, nb_lt, e3, show (-30 : Int32).toInt = -30 by decide, show (30 : Int32).toInt = 30 by decide]
  omega
/-- the first step that isn't 2 -/
def fsN (M : Nat → Int32) : Nat → Nat → Int32
  | 0, _ => -9
  | d + 1, a => if M a = 2 then fsN M d (a + 1) else nI a
theorem fsN_1 {M : Nat → Int32} : ∀ d a, (∀ i, a ≤ i → i < a + d → M i = 2) → fsN M d a = -9
  | 0, a, _ => rfl
  | d + 1, a, h => by
    unfold fsN
    rw [if_pos (h a (by omega) (by omega)), fsN_1 d (a + 1) (fun i h1 h2 => h i (by omega) (by omega))]
theorem fsN_2 {M : Nat → Int32} : ∀ d a i, a ≤ i → i < a + d → (∀ j, a ≤ j → j < i → M j = 2) → ¬ M i = 2 → fsN M d a = nI i
  | 0, a, i, h1, h2, _, _ => by omega
  | d + 1, a, i, h1, h2, h3, h4 => by
    unfold fsN
    by_cases e : i = a
    · subst e; rw [if_neg h4]
    · rw [if_pos (h3 a (by omega) (by omega)), fsN_2 d (a + 1) i (by omega) (by omega) (fun j q1 q2 => h3 j (by omega) q2) h4]
theorem fsN_c {M M' : Nat → Int32} {n : Nat} {fd : Int32} (h : cFst M n fd) (e : ∀ i, i < n → M i = M' i) : fd = fsN M' n 0 := by
  rcases h with ⟨h1, h2⟩ | ⟨i, h1, h2, h3, h4⟩
  · rw [h1, fsN_1 n 0 (fun i _ hi => by rw [← e i (by omega)]; exact h2 i (by omega))]
  · rw [h2, fsN_2 n 0 i (by omega) (by omega) (fun j _ hj => by rw [← e j (by omega)]; exact h3 j hj) (by rw [← e i h1]; exact h4)]
