theorem mCn1_o (I : ma_I) (w : Int32) : ∀ n, mCn1 (oI I) w n = mCn1 I w n
  | 0 => rfl
  | n + 1 => by unfold mCn1; rw [mCn1_o I w n]; rfl
theorem mCn2_o (I : ma_I) (w x : Int32) : ∀ n, mCn2 (oI I) w x n = mCn2 I w x n
  | 0 => rfl
  | n + 1 => by unfold mCn2; rw [mCn2_o I w x n]; rfl
theorem cn1_0 {s : sG} {I : ma_I} (h : ∀ x, x < 8 → rcS s I x) : ∀ n, n ≤ 8 → mCn1 s.1 0 n = cTs I n
  | 0, _ => rfl
  | n + 1, hn => by
    have r := h n (by omega)
    unfold mCn1 cTs
    rw [cn1_0 h n (by omega)]
    by_cases q : s.1 117 n < 0
    · rw [r.1 q, if_neg (fun z => z.2 q), if_neg (by decide), Int32.add_zero]
    · rw [kS_e r q, if_pos ⟨rfl, q⟩, if_pos (kS_z q)]
theorem cn1_n {s : sG} {w : Int32} (hw : ¬ w = 0) : ∀ n, mCn1 s.1 w n = 0
  | 0 => rfl
  | n + 1 => by
    unfold mCn1
    rw [cn1_n hw n, if_neg (fun z => hw z.1), Int32.add_zero]
theorem cn2_0 {s : sG} (x : Int32) : ∀ n, mCn2 s.1 0 x n = x
  | 0 => rfl
  | n + 1 => by
    unfold mCn2
    rw [cn2_0 x n]
    simp
theorem cn2_1 {s : sG} {I : ma_I} {L : ma_L} (h : ∀ g, g < 12 → rcG s I L g) : ∀ n, n ≤ 12 → mCn2 s.1 1 0 n = cGt I 0 n
  | 0, _ => rfl
  | n + 1, hn => by
    have r := h n (by omega)
    unfold mCn2 cGt
    rw [cn2_1 h n (by omega), r.1, r.2.2 0 (by omega)]
    by_cases q : s.1 122 n = 0
    · simp [q]
    · by_cases q1 : s.1 124 (10 * n) = 1
      · simp [q, q1]
      · by_cases q2 : s.1 124 (10 * n) = 2
        · simp [q, q2]
        · by_cases q3 : s.1 124 (10 * n) = 3
          · simp [q, q3]
          · by_cases q4 : s.1 124 (10 * n) = 4
            · simp [q, q4]
            · simp [q, q1, q2, q3, q4]
theorem cn2_2 {s : sG} {I : ma_I} {L : ma_L} (h : ∀ g, g < 12 → rcG s I L g) : ∀ n, n ≤ 12 → mCn2 s.1 2 0 n = cGt I 3 n
  | 0, _ => rfl
  | n + 1, hn => by
    have r := h n (by omega)
    unfold mCn2 cGt
    rw [cn2_2 h n (by omega), r.1, r.2.2 0 (by omega)]
    by_cases q : s.1 122 n = 0
    · simp [q]
    · by_cases q1 : s.1 124 (10 * n) = 1
      · simp [q, q1]
      · by_cases q2 : s.1 124 (10 * n) = 2
        · simp [q, q2]
        · by_cases q3 : s.1 124 (10 * n) = 3
          · simp [q, q3]
          · by_cases q4 : s.1 124 (10 * n) = 4
            · simp [q, q4]
            · simp [q, q1, q2, q3, q4]
theorem cn2_3 {s : sG} {I : ma_I} {L : ma_L} (h : ∀ g, g < 12 → rcG s I L g) : ∀ n, n ≤ 12 → mCn2 s.1 3 0 n = cGt I 4 n
  | 0, _ => rfl
  | n + 1, hn => by
    have r := h n (by omega)
    unfold mCn2 cGt
    rw [cn2_3 h n (by omega), r.1, r.2.2 0 (by omega)]
    by_cases q : s.1 122 n = 0
    · simp [q]
    · by_cases q1 : s.1 124 (10 * n) = 1
      · simp [q, q1]
      · by_cases q2 : s.1 124 (10 * n) = 2
        · simp [q, q2]
        · by_cases q3 : s.1 124 (10 * n) = 3
          · simp [q, q3]
          · by_cases q4 : s.1 124 (10 * n) = 4
            · simp [q, q4]
            · simp [q, q1, q2, q3, q4]
theorem cn2_4 {s : sG} {I : ma_I} {L : ma_L} (h : ∀ g, g < 12 → rcG s I L g) : ∀ n, n ≤ 12 → mCn2 s.1 4 0 n = cGt I 1 n
  | 0, _ => rfl
  | n + 1, hn => by
    have r := h n (by omega)
    unfold mCn2 cGt
    rw [cn2_4 h n (by omega), r.1, r.2.2 0 (by omega)]
    by_cases q : s.1 122 n = 0
    · simp [q]
    · by_cases q1 : s.1 124 (10 * n) = 1
      · simp [q, q1]
      · by_cases q2 : s.1 124 (10 * n) = 2
        · simp [q, q2]
        · by_cases q3 : s.1 124 (10 * n) = 3
          · simp [q, q3]
          · by_cases q4 : s.1 124 (10 * n) = 4
            · simp [q, q4]
            · simp [q, q1, q2, q3, q4]
def F_count (s : sG) (w : Int32) : Int32 × sG := (if ¬ ((¬ w < 0) ∧ (¬ 4 < w)) then (-1) else mCn2 s.1 w (mCn1 s.1 w 8) 12, s)
theorem W_count {s : sG} (h : wF s) (a1 : Int32) : wF (F_count s a1).2 := h
theorem C_count {g : ma_G} {I : ma_I} {L : ma_L} {P : ma_P} {s : sG} (hW : wF s) (hC : rC s I L) (x_ : Int32) (k : ∀ I1 L1, rC (F_count s x_).2 I1 L1 → mS I L I1 L1 → P (some (.int (F_count s x_).1)) HS I1 L1 RF 146) : CT g yX7_count cX7_count 2 (some .int) rX7_count [.ref 3, .int x_] P HS I L RF 146 := by
  obtain ⟨hcM, hcN, hcF, hcK, hcT, hcS, hcG⟩ := id hC
  exact t_X7_count x_ 
    (fun h1 => by
      have w_ := h1
      subst w_
      have e_ : F_count s 0 = (cTs I 8, s) := by unfold F_count; rw [if_neg (by decide), cn1_0 hcS 8 (by omega), cn2_0]
      rw [e_] at k
      exact k _ _ hC mS_rf)
    (fun h1 => by
      have w_ := h1
      subst w_
      have e_ : F_count s 1 = (cGt I 0 12, s) := by unfold F_count; rw [if_neg (by decide), cn1_n (by decide), cn2_1 hcG 12 (by omega)]
      rw [e_] at k
      exact k _ _ hC mS_rf)
    (fun h1 => by
      have w_ := h1
      subst w_
      have e_ : F_count s 2 = (cGt I 3 12, s) := by unfold F_count; rw [if_neg (by decide), cn1_n (by decide), cn2_2 hcG 12 (by omega)]
      rw [e_] at k
      exact k _ _ hC mS_rf)
    (fun h1 => by
      have w_ := h1
      subst w_
      have e_ : F_count s 3 = (cGt I 4 12, s) := by unfold F_count; rw [if_neg (by decide), cn1_n (by decide), cn2_3 hcG 12 (by omega)]
      rw [e_] at k
      exact k _ _ hC mS_rf)
    (fun h1 => by
      have w_ := h1
      subst w_
      have e_ : F_count s 4 = (cGt I 1 12, s) := by unfold F_count; rw [if_neg (by decide), cn1_n (by decide), cn2_4 hcG 12 (by omega)]
      rw [e_] at k
      exact k _ _ hC mS_rf)
    (fun h1 h2 h3 h4 h5 => by
      have e_ : F_count s x_ = ((-1), s) := by unfold F_count; rw [if_pos]; intro z; rw [nb_lt, nb_lt, nb_0] at z; have q0 := h1; have q1 := h2; have q2 := h3; have q3 := h4; have q4 := h5; rw [nb_eq] at q0 q1 q2 q3 q4; have z0 : (0 : Int32).toInt = 0 := (by decide); have z1 : (1 : Int32).toInt = 1 := (by decide); have z2 : (2 : Int32).toInt = 2 := (by decide); have z3 : (3 : Int32).toInt = 3 := (by decide); have z4 : (4 : Int32).toInt = 4 := (by decide); omega
      rw [e_] at k
      dsimp only at k
      exact k _ _ hC mS_rf)
theorem M_count {g : ma_G} {I : ma_I} {L : ma_L} {P : ma_P} (hW : wF (ob I L))  (w_ : Int32) (k : ∀ I2 L2, ob I2 L2 = (F_count (ob I L) w_).2 → cS I L I2 L2 → P (some (.int (F_count (ob I L) w_).1)) HS I2 L2 RF 146) : CT g yX8_count cX8_count 6 (some .int) rX8_count [.ref 115, .int w_] P HS I L RF 146 := by
  exact t_X8_count w_ 
    (fun x3 h2 x9 h4 => by
      have e_ := k _ _ (show ob I L = (F_count (ob I L) w_).2 from rfl) cS_rf
      refine cast (congrArg (fun v => P (some (.int v)) HS I L RF 146) ?_) e_
      show (if ¬ ((¬ w_ < 0) ∧ (¬ 4 < w_)) then (-1) else mCn2 (oI I) w_ (mCn1 (oI I) w_ 8) 12) = _
      rw [mCn1_o, mCn2_o, h4, h2])
theorem p_count {g : ma_G} {I : ma_I} {L : ma_L} {P1 : ma_P} (hI : INV I L) (a1 : Int32) (k : ∀ (r : Int32) (I1 : ma_I) (L1 : ma_L), (∀ {P2 : ma_P}, (∀ (I2 : ma_I) (L2 : ma_L), INV I2 L2 → P2 (some (.int r)) HS I2 L2 RF 146) → CT g yX8_count cX8_count 6 (some .int) rX8_count [.ref 115, .int a1] P2 HS I1 L1 RF 146) → P1 (some (.int r)) HS I1 L1 RF 146) : CT g yX7_count cX7_count 2 (some .int) rX7_count [.ref 3, .int a1] P1 HS I L RF 146 :=
  pair_i (F := F_count (ob I L) a1) hI (W_count hI.1 a1) (fun P kk => C_count hI.1 hI.2 a1 kk) (fun I1 L1 P e kk => M_count (by rw [e]; exact hI.1)  a1 (by rw [e]; exact kk)) k
