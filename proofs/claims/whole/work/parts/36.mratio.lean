abbrev mFz : Type := Nat × (Nat → Int32) × (Nat → Int32) × (Nat → Int32)
def mRs (F : Nat → Int64) (bb m0 : Nat) (x y : Int32) (s : mFz) : mFz :=
  if lN (Nat.gcd (Int32.toInt64 x).toInt.natAbs (Int32.toInt64 y).toInt.natAbs) = 1 ∧ 0 < mTo F bb m0 (Int32.toInt64 x) (Int32.toInt64 y) then (s.1 + 1, ma_up s.2.1 s.1 x, ma_up s.2.2.1 s.1 y, ma_up s.2.2.2 s.1 (nI (mTo F bb m0 (Int32.toInt64 x) (Int32.toInt64 y)))) else s
theorem mRs_y {F : Nat → Int64} {bb m0 : Nat} {x y : Int32} {n : Nat} {U V T : Nat → Int32} (h : lN (Nat.gcd (Int32.toInt64 x).toInt.natAbs (Int32.toInt64 y).toInt.natAbs) = 1 ∧ 0 < mTo F bb m0 (Int32.toInt64 x) (Int32.toInt64 y)) : mRs F bb m0 x y (n, U, V, T) = (n + 1, ma_up U n x, ma_up V n y, ma_up T n (nI (mTo F bb m0 (Int32.toInt64 x) (Int32.toInt64 y)))) := if_pos h
theorem mRs_n {F : Nat → Int64} {bb m0 : Nat} {x y : Int32} {s : mFz} (h : ¬ (lN (Nat.gcd (Int32.toInt64 x).toInt.natAbs (Int32.toInt64 y).toInt.natAbs) = 1 ∧ 0 < mTo F bb m0 (Int32.toInt64 x) (Int32.toInt64 y))) : mRs F bb m0 x y s = s := if_neg h
def mRm (F : Nat → Int64) (bb m0 : Nat) (y : Int32) : Nat → mFz → mFz
  | 0, s => s
  | i + 1, s => mRs F bb m0 (nI i - 64) y (mRm F bb m0 y i s)
def mRq (F : Nat → Int64) (bb m0 : Nat) : Nat → mFz → mFz
  | 0, s => s
  | q + 1, s => mRm F bb m0 (nI (q + 1)) 129 (mRq F bb m0 q s)
theorem mRs_le (F : Nat → Int64) (bb m0 : Nat) (x y : Int32) (s : mFz) : s.1 ≤ (mRs F bb m0 x y s).1 := by
  unfold mRs
  by_cases c : lN (Nat.gcd (Int32.toInt64 x).toInt.natAbs (Int32.toInt64 y).toInt.natAbs) = 1 ∧ 0 < mTo F bb m0 (Int32.toInt64 x) (Int32.toInt64 y)
  · rw [if_pos c]; exact Nat.le_succ _
  · rw [if_neg c]; exact Nat.le_refl _
theorem mRm_le (F : Nat → Int64) (bb m0 : Nat) (y : Int32) (s : mFz) {i : Nat} : ∀ d, (mRm F bb m0 y i s).1 ≤ (mRm F bb m0 y (i + d) s).1
  | 0 => Nat.le_refl _
  | d + 1 => Nat.le_trans (mRm_le F bb m0 y s d) (mRs_le F bb m0 _ y _)
theorem mRq_le (F : Nat → Int64) (bb m0 : Nat) (s : mFz) {q : Nat} : ∀ d, (mRq F bb m0 q s).1 ≤ (mRq F bb m0 (q + d) s).1
  | 0 => Nat.le_refl _
  | d + 1 => Nat.le_trans (mRq_le F bb m0 s d) (by
      have h := mRm_le F bb m0 (nI (q + d + 1)) (mRq F bb m0 (q + d) s) (i := 0) 129
      rw [Nat.zero_add] at h; exact h)
theorem mRm_at {F : Nat → Int64} {bb m0 q i : Nat} {s : mFz} (hq : q < 64) (hi : i < 130) (h4 : (mRq F bb m0 64 s).1 ≤ 4) : (mRm F bb m0 (nI (q + 1)) i (mRq F bb m0 q s)).1 ≤ 4 := by
  have h1 := mRm_le F bb m0 (nI (q + 1)) (mRq F bb m0 q s) (i := i) (129 - i)
  rw [show i + (129 - i) = 129 by omega] at h1
  have h2 := mRq_le F bb m0 s (q := q + 1) (63 - q)
  rw [show q + 1 + (63 - q) = 64 by omega] at h2
  exact Nat.le_trans h1 (Nat.le_trans h2 h4)
/-- the lower numbers are 1 to 64 -/
def mRv (s : mFz) : Prop := ∀ k, k < s.1 → ∃ y, 1 ≤ y ∧ y ≤ 64 ∧ s.2.2.1 k = nI y
theorem mRs_v {F : Nat → Int64} {bb m0 : Nat} {x : Int32} {y : Nat} {s : mFz} (h1 : 1 ≤ y) (h2 : y ≤ 64) (h : mRv s) : mRv (mRs F bb m0 x (nI y) s) := by
  unfold mRs
  by_cases c : lN (Nat.gcd (Int32.toInt64 x).toInt.natAbs (Int32.toInt64 (nI y)).toInt.natAbs) = 1 ∧ 0 < mTo F bb m0 (Int32.toInt64 x) (Int32.toInt64 (nI y))
  · rw [if_pos c]
    intro k hk
    show ∃ z, 1 ≤ z ∧ z ≤ 64 ∧ ma_up s.2.2.1 s.1 (nI y) k = nI z
    by_cases e : k = s.1
    · rw [e, ma_up_s]; exact ⟨y, h1, h2, rfl⟩
    · rw [ma_up_n _ _ e]; have hk : k < s.1 + 1 := hk; exact h k (by omega)
  · rw [if_neg c]; exact h
theorem mRm_v {F : Nat → Int64} {bb m0 y : Nat} (h1 : 1 ≤ y) (h2 : y ≤ 64) : ∀ (i : Nat) {s : mFz}, mRv s → mRv (mRm F bb m0 (nI y) i s)
  | 0, s, h => h
  | i + 1, s, h => mRs_v h1 h2 (mRm_v h1 h2 i h)
theorem mRq_v {F : Nat → Int64} {bb m0 : Nat} : ∀ (q : Nat) {s : mFz}, q ≤ 64 → mRv s → mRv (mRq F bb m0 q s)
  | 0, s, _, h => h
  | q + 1, s, hq, h => mRm_v (by omega) (by omega) 129 (mRq_v q (by omega) h)
def mBl (U V : Nat → Int32) (k : Nat) : Nat → Int32
  | 0 => 0
  | j + 1 => mBl U V k j + (if ¬ U k * V j ≤ U j * V k then (1 : Int32) else 0)
theorem mTo_congr {F F' : Nat → Int64} {bb m0 : Nat} (hm : m0 + bb = 4) (h : ∀ j, j < 5 → F j = F' j) (u w : Int64) : mTo F bb m0 u w = mTo F' bb m0 u w := by
  unfold mTo; rw [mTk_congr u w m0 (by omega) (fun j hj => h (bb + j) (by omega))]
theorem mTo_lt {F : Nat → Int64} {bb m0 : Nat} (hm : m0 + bb = 4) (u w : Int64) : mTo F bb m0 u w < 5 := by unfold mTo; omega
theorem mv_s (i : Nat) : nI i - 64 + 1 = nI (i + 1) - 64 := by
  rw [← nI_add i 1, Int32.sub_eq_add_neg, Int32.sub_eq_add_neg, Int32.add_assoc, Int32.add_assoc, Int32.add_comm (-64) 1]; rfl
theorem mv_le {i : Nat} (h : i < 129) : ¬ (64 : Int32) < nI i - 64 := by
  have h1 : (nI i).toInt = i := nI_toInt (by omega)
  have h2 : (64 : Int32).toInt = 64 := by decide
  rw [nb_lt, nb_subI (by omega) (by omega)]; omega
theorem nr_0 (I : ma_I) : I = ma_up (ma_up (ma_up (ma_up I 143 (I 143)) 144 (I 144)) 145 (I 145)) 115 (ma_up (I 115) 36 (I 115 36)) := by
  rw [ma_up_self (I 115), ma_up_self I 143, ma_up_self I 144, ma_up_self I 145, ma_up_self]
theorem nr_t (I : ma_I) (U V T : Nat → Int32) (d x : Int32) : ma_up (ma_up (ma_up (ma_up (ma_up I 143 U) 144 V) 145 T) 115 (ma_up (I 115) 36 d)) 115 (ma_up (ma_up (I 115) 36 d) 36 x) = ma_up (ma_up (ma_up (ma_up I 143 U) 144 V) 145 T) 115 (ma_up (I 115) 36 x) := by rw [ma_up_up, ma_up_up]
theorem n32_pos {y : Nat} (h1 : 1 ≤ y) (h2 : y ≤ 64) : (Int32.toInt64 (nI y)).toInt = y := by rw [nb_i2l, nI_toInt (by omega)]
theorem i2l_ne (x : Int32) : (Int32.toInt64 x).toInt ≠ -9223372036854775808 := by rw [nb_i2l]; have := nb_rng x; omega
set_option maxRecDepth 4000 in
theorem t_X8_rational {g : ma_G} {Post : ma_P} {I : ma_I} {L : ma_L}  (q : Int32) (r : Int32) (x : Int32) (hF : ∀ q r, q < 12 → r < 12 → ∀ j, j < 5 → ((mFm (fun k => I 123 (16 * q + k)) (fun k => I 123 (16 * r + k))) j).toInt.natAbs < 2147483648) (hM : ∀ q r, q < 12 → r < 12 → ∀ bb m0 s, mPd (mFm (fun k => I 123 (16 * q + k)) (fun k => I 123 (16 * r + k))) bb m0 s → ∀ U V T, (mRq (mFm (fun k => I 123 (16 * q + k)) (fun k => I 123 (16 * r + k))) bb m0 64 (0, U, V, T)).1 ≤ 4) (k1 : (¬ ((¬ q < 0) ∧ (¬ 11 < q))) → Post (some (.int (-1))) HS I L RF 146) (k2 : ∀ j2 : Nat, (j2 < 12) → q = nI j2 → ∀ j5 : Nat, (j5 < 12) → r = nI j5 → (((I 122) j2) = 0) → Post (some (.int (-3))) HS (mMt I 1) L RF 146) (k3 : ∀ j9 : Nat, (j9 < 12) → q = nI j9 → ∀ j12 : Nat, (j12 < 12) → r = nI j12 → (¬ ((I 122) j9) = 0) → (((I 122) j12) = 0) → Post (some (.int (-3))) HS (mMt I 1) L RF 146) (k4 : ∀ j17 : Nat, (j17 < 12) → q = nI j17 → ∀ j20 : Nat, (j20 < 12) → r = nI j20 → (¬ ((I 122) j17) = 0) → (¬ ((I 122) j20) = 0) → (∀ j, j < 5 → (mFm (fun k => I 123 (16 * j17 + k)) (fun k => I 123 (16 * j20 + k))) j = 0) → ∀ J2 : ma_I, ∀ K1 : ma_L, (mSx [133, 134, 141] [36, 31, 35] I J2) → (mSl [132, 120] L K1) → Post (some (.int (-4))) HS J2 K1 RF 146) (k5 : ∀ j17 : Nat, (j17 < 12) → q = nI j17 → ∀ j20 : Nat, (j20 < 12) → r = nI j20 → (¬ ((I 122) j17) = 0) → (¬ ((I 122) j20) = 0) → ∀ bb : Nat, ∀ m0 : Nat, ∀ s : mP, ∀ J2 : ma_I, ∀ K2 : ma_L, (mPd (mFm (fun k => I 123 (16 * j17 + k)) (fun k => I 123 (16 * j20 + k))) bb m0 s) → (mPJ s bb J2 K2) → (mSx [133, 134, 141] [36, 31, 35] I J2) → (mSl [132, 120, 142, 139, 140] L K2) → ∀ n : Nat, ∀ U : Nat → Int32, ∀ V : Nat → Int32, ∀ T : Nat → Int32, ∀ dd : Int32, ∀ ff : Nat → Int64, ((n, U, V, T) = mRq (mFm (fun k => I 123 (16 * j17 + k)) (fun k => I 123 (16 * j20 + k))) bb m0 64 (0, J2 143, J2 144, J2 145)) → ((¬ x < 0) ∧ (¬ ((nI n) - 1) < x)) → (∀ j, j < n → ¬ mBl U V j n = x) → Post (some (.int (-9))) HS (ma_up (ma_up (ma_up (ma_up J2 143 U) 144 V) 145 T) 115 (ma_up (J2 115) 36 dd)) (ma_up K2 142 ff) RF 146) (k6 : ∀ j17 : Nat, (j17 < 12) → q = nI j17 → ∀ j20 : Nat, (j20 < 12) → r = nI j20 → (¬ ((I 122) j17) = 0) → (¬ ((I 122) j20) = 0) → ∀ bb : Nat, ∀ m0 : Nat, ∀ s : mP, ∀ J2 : ma_I, ∀ K2 : ma_L, (mPd (mFm (fun k => I 123 (16 * j17 + k)) (fun k => I 123 (16 * j20 + k))) bb m0 s) → (mPJ s bb J2 K2) → (mSx [133, 134, 141] [36, 31, 35] I J2) → (mSl [132, 120, 142, 139, 140] L K2) → ∀ n : Nat, ∀ U : Nat → Int32, ∀ V : Nat → Int32, ∀ T : Nat → Int32, ∀ dd : Int32, ∀ ff : Nat → Int64, ((n, U, V, T) = mRq (mFm (fun k => I 123 (16 * j17 + k)) (fun k => I 123 (16 * j20 + k))) bb m0 64 (0, J2 143, J2 144, J2 145)) → ((¬ x < 0) ∧ (¬ ((nI n) - 1) < x)) → ∀ k : Nat, (k < n) → (∀ j, j < k → ¬ mBl U V j n = x) → ((mBl U V k n) = x) → Post (some (.int (T k))) HS (ma_up (ma_up (ma_up (ma_up J2 143 U) 144 V) 145 T) 115 (ma_up (J2 115) 36 dd)) (ma_up (ma_up K2 142 ff) 115 (ma_up (ma_up ((ma_up K2 142 ff) 115) 3 ((Int32.toInt64 (U k)) / (lN (Nat.gcd (Int32.toInt64 (U k)).toInt.natAbs (Int32.toInt64 (V k)).toInt.natAbs)))) 4 ((Int32.toInt64 (V k)) / (lN (Nat.gcd (Int32.toInt64 (U k)).toInt.natAbs (Int32.toInt64 (V k)).toInt.natAbs))))) RF 146) (k7 : ∀ j17 : Nat, (j17 < 12) → q = nI j17 → ∀ j20 : Nat, (j20 < 12) → r = nI j20 → (¬ ((I 122) j17) = 0) → (¬ ((I 122) j20) = 0) → ∀ bb : Nat, ∀ m0 : Nat, ∀ s : mP, ∀ J2 : ma_I, ∀ K2 : ma_L, (mPd (mFm (fun k => I 123 (16 * j17 + k)) (fun k => I 123 (16 * j20 + k))) bb m0 s) → (mPJ s bb J2 K2) → (mSx [133, 134, 141] [36, 31, 35] I J2) → (mSl [132, 120, 142, 139, 140] L K2) → ∀ n : Nat, ∀ U : Nat → Int32, ∀ V : Nat → Int32, ∀ T : Nat → Int32, ∀ dd : Int32, ∀ ff : Nat → Int64, ((n, U, V, T) = mRq (mFm (fun k => I 123 (16 * j17 + k)) (fun k => I 123 (16 * j20 + k))) bb m0 64 (0, J2 143, J2 144, J2 145)) → (¬ ((¬ x < 0) ∧ (¬ ((nI n) - 1) < x))) → Post (some (.int (-9))) HS (ma_up (ma_up (ma_up (ma_up J2 143 U) 144 V) 145 T) 115 (ma_up (J2 115) 36 dd)) (ma_up K2 142 ff) RF 146) (k8 : ∀ j25 : Nat, (j25 < 12) → q = nI j25 → (¬ ((¬ r < 0) ∧ (¬ 11 < r))) → Post (some (.int (-1))) HS I L RF 146) : CT g yX8_rational cX8_rational 9 (some .int) rX8_rational [.ref 115, .int q, .int r, .int x] Post HS I L RF 146 := by
  refine ct_of (lv := [some (.ref 115), some (.int q), some (.int r), some (.int x), none, none, none, none, none]) (by decide) (Nat.le_of_ble_eq_true rfl) rfl ?_
  refine ev_aload_n (pc' := 1) (i := 0) dX8_rational_0 rfl rfl rfl ?_
  refine ev_iload_n (pc' := 2) (i := 1) dX8_rational_1 rfl rfl rfl ?_
  refine ev_iload_n (pc' := 3) (i := 2) dX8_rational_2 rfl rfl rfl ?_
  refine ev_callV (pc' := 6) (rm' := rX8_askedTwo) (b := 115) (av := [.int q, .int r]) (rest := []) co_X8_227 ci_X8_askedTwo cv_X8_askedTwo dX8_rational_3 rfl hs_115 hb_X8 rfl rfl (Nat.le_of_ble_eq_true rfl) ⟨(Nat.le_of_ble_eq_true rfl), (Nat.le_of_ble_eq_true rfl)⟩ ⟨(Nat.le_of_ble_eq_true rfl), (Nat.le_of_ble_eq_true rfl)⟩ ?_
  refine t_X8_askedTwo q r  (fun h1 => ?_) (fun j2 h3 e4 j5 h6 e7 h8 => ?_) (fun j9 h10 e11 j12 h13 e14 h15 h16 => ?_) (fun j17 h18 e19 j20 h21 e22 h23 h24 => ?_) (fun j25 h26 e27 h28 => ?_)
  · skip
    refine ev_istore (pc' := 8) (lv' := [some (.ref 115), some (.int q), some (.int r), some (.int x), some (.int (-1)), none, none, none, none]) dX8_rational_6 rfl (Nat.le_of_ble_eq_true rfl) rfl rfl ?_
    refine ev_iload (pc' := 10) dX8_rational_8 rfl rfl ?_
    refine ev_if_ge (tgt := 16) (pc' := 13) dX8_rational_10 rfl rfl (fun h => absurd h (by decide)) (fun _ => ?_)
    refine ev_iload (pc' := 15) dX8_rational_13 rfl rfl ?_
    refine ev_iret dX8_rational_15 rfl rfl ⟨Nat.le_refl _, Nat.le_refl _⟩ ?_
    exact k1 h1
  · subst e4
    subst e7
    refine ev_istore (pc' := 8) (lv' := [some (.ref 115), some (.int (nI j2)), some (.int (nI j5)), some (.int x), some (.int (-3)), none, none, none, none]) dX8_rational_6 rfl (Nat.le_of_ble_eq_true rfl) rfl rfl ?_
    refine ev_iload (pc' := 10) dX8_rational_8 rfl rfl ?_
    refine ev_if_ge (tgt := 16) (pc' := 13) dX8_rational_10 rfl rfl (fun h => absurd h (by decide)) (fun _ => ?_)
    refine ev_iload (pc' := 15) dX8_rational_13 rfl rfl ?_
    refine ev_iret dX8_rational_15 rfl rfl ⟨Nat.le_refl _, Nat.le_refl _⟩ ?_
    exact k2 j2 h3 rfl j5 h6 rfl h8
  · subst e11
    subst e14
    refine ev_istore (pc' := 8) (lv' := [some (.ref 115), some (.int (nI j9)), some (.int (nI j12)), some (.int x), some (.int (-3)), none, none, none, none]) dX8_rational_6 rfl (Nat.le_of_ble_eq_true rfl) rfl rfl ?_
    refine ev_iload (pc' := 10) dX8_rational_8 rfl rfl ?_
    refine ev_if_ge (tgt := 16) (pc' := 13) dX8_rational_10 rfl rfl (fun h => absurd h (by decide)) (fun _ => ?_)
    refine ev_iload (pc' := 15) dX8_rational_13 rfl rfl ?_
    refine ev_iret dX8_rational_15 rfl rfl ⟨Nat.le_refl _, Nat.le_refl _⟩ ?_
    exact k3 j9 h10 rfl j12 h13 rfl h15 h16
  · subst e19
    subst e22
    refine ev_istore (pc' := 8) (lv' := [some (.ref 115), some (.int (nI j17)), some (.int (nI j20)), some (.int x), some (.int 0), none, none, none, none]) dX8_rational_6 rfl (Nat.le_of_ble_eq_true rfl) rfl rfl ?_
    refine ev_iload (pc' := 10) dX8_rational_8 rfl rfl ?_
    refine ev_if_ge (tgt := 16) (pc' := 13) dX8_rational_10 rfl rfl (fun _ => ?_) (fun h => absurd (by decide) h)
    refine ev_aload_n (pc' := 17) (i := 0) dX8_rational_16 rfl rfl rfl ?_
    refine ev_iload_n (pc' := 18) (i := 1) dX8_rational_17 rfl rfl rfl ?_
    refine ev_iload_n (pc' := 19) (i := 2) dX8_rational_18 rfl rfl rfl ?_
    refine ev_callV (pc' := 22) (rm' := rX8_layPair) (b := 115) (av := [.int (nI j17), .int (nI j20)]) (rest := []) co_X8_256 ci_X8_layPair cv_X8_layPair dX8_rational_19 rfl hs_115 hb_X8 rfl rfl (Nat.le_of_ble_eq_true rfl) ⟨(Nat.le_of_ble_eq_true rfl), (Nat.le_of_ble_eq_true rfl)⟩ ⟨(Nat.le_of_ble_eq_true rfl), (Nat.le_of_ble_eq_true rfl)⟩ ?_
    refine f_X8_layPair j17 j20 (by omega) (by omega) (fun J1 a1 a2 a3 => ?_)
    refine ev_aload_n (pc' := 23) (i := 0) dX8_rational_22 rfl rfl rfl ?_
    refine ev_callV (pc' := 26) (rm' := rX8_layForm) (b := 115) (av := []) (rest := []) co_X8_259 ci_X8_layForm cv_X8_layForm dX8_rational_23 rfl hs_115 hb_X8 rfl rfl (Nat.le_of_ble_eq_true rfl) ⟨(Nat.le_of_ble_eq_true rfl), (Nat.le_of_ble_eq_true rfl)⟩ ⟨(Nat.le_of_ble_eq_true rfl), (Nat.le_of_ble_eq_true rfl)⟩ ?_
    refine f_X8_layForm (fun K1 g0 g1 g2 g3 g4 g5 => ?_)
    refine ev_aload_n (pc' := 27) (i := 0) dX8_rational_26 rfl rfl rfl ?_
    refine ev_callV (pc' := 30) (rm' := rX8_parts) (b := 115) (av := []) (rest := []) co_X8_344 ci_X8_parts cv_X8_parts dX8_rational_27 rfl hs_115 hb_X8 rfl rfl (Nat.le_of_ble_eq_true rfl) ⟨(Nat.le_of_ble_eq_true rfl), (Nat.le_of_ble_eq_true rfl)⟩ ⟨(Nat.le_of_ble_eq_true rfl), (Nat.le_of_ble_eq_true rfl)⟩ ?_
    have hf : ∀ j, j < 5 → K1 132 j = (mFm (fun k => I 123 (16 * j17 + k)) (fun k => I 123 (16 * j20 + k))) j := fun j hj => (mFm_of g0 g1 g2 g3 g4 j hj).trans (congrFun (mFm_congr a1 a2) j)
    refine f_X8_parts (mFm (fun k => I 123 (16 * j17 + k)) (fun k => I 123 (16 * j20 + k))) hf (hF j17 j20 (by omega) (by omega)) (fun z J2 b1 b2 b3 => ?_) (fun bb m0 s J2 K2 h1 h2 h3 h4 => ?_)
    · have y1 : mSx [133, 134, 141] [36, 31, 35] I J2 := (a3.trans b3).le (fun a h => by simp only [List.mem_cons, List.not_mem_nil, or_false, List.cons_append, List.nil_append] at h ⊢; omega) (fun a h => by simp only [List.mem_cons, List.not_mem_nil, or_false, List.cons_append, List.nil_append] at h ⊢; omega)
      refine ev_if_ne (tgt := 36) (pc' := 33) dX8_rational_30 rfl rfl (fun h => absurd (by decide) h) (fun _ => ?_)
      refine ev_bipush (pc' := 35) (v := (-4)) dX8_rational_33 rfl kb_m4 ?_
      refine ev_iret dX8_rational_35 rfl rfl ⟨Nat.le_refl _, Nat.le_refl _⟩ ?_
      exact k4 j17 h18 rfl j20 h21 rfl h23 h24 z J2 K1 y1 g5
    · have y1 : mSx [133, 134, 141] [36, 31, 35] I J2 := a3.trans h3
      have y2 : mSl [132, 120, 142, 139, 140] L K2 := g5.trans h4
      have eT : ∀ u w, mTo (K2 132) bb m0 u w = mTo (mFm (fun k => I 123 (16 * j17 + k)) (fun k => I 123 (16 * j20 + k))) bb m0 u w := mTo_congr h1.1 (fun j hj => (congrFun (h4 132 (by decide)) j).trans (hf j hj))
      have hm0 : m0 + bb = 4 := h1.1
      refine ev_if_ne (tgt := 36) (pc' := 33) dX8_rational_30 rfl rfl (fun _ => ?_) (fun h => absurd h (by decide))
      refine ev_iconst (pc' := 37) (v := 0) dX8_rational_36 rfl ki_0 ?_
      refine ev_istore (pc' := 39) (lv' := [some (.ref 115), some (.int (nI j17)), some (.int (nI j20)), some (.int x), some (.int 0), some (.int 0), none, none, none]) dX8_rational_37 rfl (Nat.le_of_ble_eq_true rfl) rfl rfl ?_
      refine ev_iconst (pc' := 40) (v := 1) dX8_rational_39 rfl ki_1 ?_
      refine ev_istore (pc' := 42) (lv' := [some (.ref 115), some (.int (nI j17)), some (.int (nI j20)), some (.int x), some (.int 0), some (.int 0), some (.int 1), none, none]) dX8_rational_40 rfl (Nat.le_of_ble_eq_true rfl) rfl rfl ?_
      have h4 : (mRq (mFm (fun k => I 123 (16 * j17 + k)) (fun k => I 123 (16 * j20 + k))) bb m0 64 (0, J2 143, J2 144, J2 145)).1 ≤ 4 := hM j17 j20 (by omega) (by omega) bb m0 s h1 _ _ _
      suffices lq : ∀ (d q n : Nat) (U V T : Nat → Int32) (dd : Int32) (ff : Nat → Int64), q + d = 64 → (n, U, V, T) = mRq (mFm (fun k => I 123 (16 * j17 + k)) (fun k => I 123 (16 * j20 + k))) bb m0 q (0, J2 143, J2 144, J2 145) → EV g yX8_rational cX8_rational 9 (some .int) rX8_rational (ma_ZM g rX8_rational Post) 42 [some (.ref 115), some (.int (nI j17)), some (.int (nI j20)), some (.int x), some (.int 0), some (.int (nI n)), some (.int (nI (q + 1))), none, none] [] HS (ma_up (ma_up (ma_up (ma_up J2 143 U) 144 V) 145 T) 115 (ma_up (J2 115) 36 dd)) (ma_up K2 142 ff) RF 146 0 0 by
        refine ev_memI (fun z hz => ?_)
        have hz := hz.trans (nr_0 J2)
        subst hz
        refine ev_memL (fun z hz => ?_)
        have hz : z = ma_up K2 142 (K2 142) := by rw [hz, ma_up_self]
        subst hz
        exact lq 64 0 0 (J2 143) (J2 144) (J2 145) (J2 115 36) (K2 142) rfl rfl
      intro d
      induction d with
      | zero =>
        intro q n U V T dd ff hq hs
        obtain rfl : q = 64 := by omega
        have hn4 : n ≤ 4 := by rw [← hs] at h4; exact h4
        have hV : mRv (n, U, V, T) := by rw [hs]; exact mRq_v 64 (by omega) (fun k hk => absurd hk (Nat.not_lt_zero k))
        refine ev_iload (pc' := 44) dX8_rational_42 rfl rfl ?_
        refine ev_bipush (pc' := 46) (v := 64) dX8_rational_44 rfl kb_64 ?_
        refine ev_icmp_gt (tgt := 133) (pc' := 49) dX8_rational_46 rfl rfl (fun _ => ?_) (fun h => absurd (nx_lt (a := 64) (b := (64 + 1)) (by omega) (by omega)) h)
        refine ev_iload_n (pc' := 134) (i := 3) dX8_rational_133 rfl rfl rfl ?_
        refine ev_iconst (pc' := 135) (v := 0) dX8_rational_134 rfl ki_0 ?_
        refine ev_iload (pc' := 137) dX8_rational_135 rfl rfl ?_
        refine ev_iconst (pc' := 138) (v := 1) dX8_rational_137 rfl ki_1 ?_
        refine ev_isub (pc' := 139) (v := (nI n) - 1) dX8_rational_138 rfl rfl ?_
        refine ev_callS (pc' := 142) (rm' := rX8_in) (av := [.int x, .int 0, .int ((nI n) - 1)]) (rest := []) co_X8_133 cs_X8_in dX8_rational_139 rfl rfl rfl (Nat.le_of_ble_eq_true rfl) ⟨(Nat.le_of_ble_eq_true rfl), (Nat.le_of_ble_eq_true rfl)⟩ ⟨(Nat.le_of_ble_eq_true rfl), (Nat.le_of_ble_eq_true rfl)⟩ ?_
        refine t_X8_in x 0 ((nI n) - 1)  ?_
        refine ev_if_ne_b (tgt := 148) (pc' := 145) dX8_rational_142 rfl rfl (fun c29 => ?_) (fun c29 => ?_)
        · refine ev_iconst (pc' := 149) (v := 0) dX8_rational_148 rfl ki_0 ?_
          refine ev_istore (pc' := 151) (lv' := [some (.ref 115), some (.int (nI j17)), some (.int (nI j20)), some (.int x), some (.int 0), some (.int (nI n)), some (.int 0), none, none]) dX8_rational_149 rfl (Nat.le_of_ble_eq_true rfl) rfl rfl ?_
          suffices lk : ∀ (d k : Nat), k + d = n → (∀ j, j < k → ¬ mBl U V j n = x) → EV g yX8_rational cX8_rational 9 (some .int) rX8_rational (ma_ZM g rX8_rational Post) 151 [some (.ref 115), some (.int (nI j17)), some (.int (nI j20)), some (.int x), some (.int 0), some (.int (nI n)), some (.int (nI k)), none, none] [] HS (ma_up (ma_up (ma_up (ma_up J2 143 U) 144 V) 145 T) 115 (ma_up (J2 115) 36 dd)) (ma_up K2 142 ff) RF 146 0 0 by
            exact lk n 0 (by omega) (fun j hj => absurd hj (Nat.not_lt_zero j))
          intro d3
          induction d3 with
          | zero =>
            intro k hk hB
            obtain rfl : n = k := by omega
            refine ev_iload (pc' := 153) dX8_rational_151 rfl rfl ?_
            refine ev_iload (pc' := 155) dX8_rational_153 rfl rfl ?_
            refine ev_icmp_ge (tgt := 260) (pc' := 158) dX8_rational_155 rfl rfl (fun _ => ?_) (fun h => absurd (nx_le (a := n) (b := n) (by omega) (by omega)) h)
            refine ev_bipush (pc' := 262) (v := (-9)) dX8_rational_260 rfl kb_m9 ?_
            refine ev_iret dX8_rational_262 rfl rfl ⟨Nat.le_refl _, Nat.le_refl _⟩ ?_
            exact k5 j17 h18 rfl j20 h21 rfl h23 h24 bb m0 s J2 K2 h1 h2 y1 y2 n U V T dd ff hs c29 hB
          | succ d3 ih3 =>
            intro k hk hB
            refine ev_iload (pc' := 153) dX8_rational_151 rfl rfl ?_
            refine ev_iload (pc' := 155) dX8_rational_153 rfl rfl ?_
            refine ev_icmp_ge (tgt := 260) (pc' := 158) dX8_rational_155 rfl rfl (fun h => absurd h (nx_nle (a := n) (b := k) (by omega) (by omega))) (fun _ => ?_)
            refine ev_iconst (pc' := 159) (v := 0) dX8_rational_158 rfl ki_0 ?_
            refine ev_istore (pc' := 161) (lv' := [some (.ref 115), some (.int (nI j17)), some (.int (nI j20)), some (.int x), some (.int 0), some (.int (nI n)), some (.int (nI k)), some (.int 0), none]) dX8_rational_159 rfl (Nat.le_of_ble_eq_true rfl) rfl rfl ?_
            refine ev_iconst (pc' := 162) (v := 0) dX8_rational_161 rfl ki_0 ?_
            refine ev_istore (pc' := 164) (lv' := [some (.ref 115), some (.int (nI j17)), some (.int (nI j20)), some (.int x), some (.int 0), some (.int (nI n)), some (.int (nI k)), some (.int 0), some (.int 0)]) dX8_rational_162 rfl (Nat.le_of_ble_eq_true rfl) rfl rfl ?_
            suffices lj : ∀ (d j : Nat), j + d = n → EV g yX8_rational cX8_rational 9 (some .int) rX8_rational (ma_ZM g rX8_rational Post) 164 [some (.ref 115), some (.int (nI j17)), some (.int (nI j20)), some (.int x), some (.int 0), some (.int (nI n)), some (.int (nI k)), some (.int (mBl U V k j)), some (.int (nI j))] [] HS (ma_up (ma_up (ma_up (ma_up J2 143 U) 144 V) 145 T) 115 (ma_up (J2 115) 36 dd)) (ma_up K2 142 ff) RF 146 0 0 from lj n 0 (by omega)
            intro d4
            induction d4 with
            | zero =>
              intro j hj
              obtain rfl : n = j := by omega
              refine ev_iload (pc' := 166) dX8_rational_164 rfl rfl ?_
              refine ev_iload (pc' := 168) dX8_rational_166 rfl rfl ?_
              refine ev_icmp_ge (tgt := 220) (pc' := 171) dX8_rational_168 rfl rfl (fun _ => ?_) (fun h => absurd (nx_le (a := n) (b := n) (by omega) (by omega)) h)
              refine ev_iload (pc' := 222) dX8_rational_220 rfl rfl ?_
              refine ev_iload_n (pc' := 223) (i := 3) dX8_rational_222 rfl rfl rfl ?_
              refine ev_icmp_ne (tgt := 254) (pc' := 226) dX8_rational_223 rfl rfl (fun c30 => ?_) (fun c30 => ?_)
              · refine ev_iinc (pc' := 257) (v := nI (k + 1)) (lv' := [some (.ref 115), some (.int (nI j17)), some (.int (nI j20)), some (.int x), some (.int 0), some (.int (nI n)), some (.int (nI (k + 1))), some (.int (mBl U V k n)), some (.int (nI n))]) dX8_rational_254 rfl rfl (nI_add k 1) (Nat.le_of_ble_eq_true rfl) rfl rfl ?_
                refine ev_goto (tgt := 151) dX8_rational_257 rfl ?_
                refine ev_lvw (lv' := [some (.ref 115), some (.int (nI j17)), some (.int (nI j20)), some (.int x), some (.int 0), some (.int (nI n)), some (.int (nI (k + 1))), none, none]) ⟨rfl, ⟨rfl, ⟨rfl, ⟨rfl, ⟨rfl, ⟨rfl, ⟨rfl, trivial⟩⟩⟩⟩⟩⟩⟩ ?_
                exact ih3 (k + 1) (by omega) (pt_all hB c30)
              · refine ev_aload_n (pc' := 227) (i := 0) dX8_rational_226 rfl rfl rfl ?_
                refine ev_aload_n (pc' := 228) (i := 0) dX8_rational_227 rfl rfl rfl ?_
                refine ev_getR (pc' := 231) fo_X8_97 dX8_rational_228 rfl hs_115 rfl rf_115_40 ?_
                refine ev_iload (pc' := 233) dX8_rational_231 rfl rfl ?_
                refine ev_iald (pc' := 234) (j := k) (v := U k) dX8_rational_233 rfl hs_143 rfl (by omega) (Nat.le_of_ble_eq_true rfl) rfl ?_
                refine ev_i2l (pc' := 235) (v := Int32.toInt64 (U k)) dX8_rational_234 rfl rfl ?_
                refine ev_aload_n (pc' := 236) (i := 0) dX8_rational_235 rfl rfl rfl ?_
                refine ev_getR (pc' := 239) fo_X8_100 dX8_rational_236 rfl hs_115 rfl rf_115_41 ?_
                refine ev_iload (pc' := 241) dX8_rational_239 rfl rfl ?_
                refine ev_iald (pc' := 242) (j := k) (v := V k) dX8_rational_241 rfl hs_144 rfl (by omega) (Nat.le_of_ble_eq_true rfl) rfl ?_
                refine ev_i2l (pc' := 243) (v := Int32.toInt64 (V k)) dX8_rational_242 rfl rfl ?_
                refine ev_aload_n (pc' := 244) (i := 0) dX8_rational_243 rfl rfl rfl ?_
                refine ev_getR (pc' := 247) fo_X8_103 dX8_rational_244 rfl hs_115 rfl rf_115_42 ?_
                refine ev_iload (pc' := 249) dX8_rational_247 rfl rfl ?_
                refine ev_iald (pc' := 250) (j := k) (v := T k) dX8_rational_249 rfl hs_145 rfl (by omega) (Nat.le_of_ble_eq_true rfl) rfl ?_
                refine ev_callV (pc' := 253) (rm' := rX8_share) (b := 115) (av := [.long (Int32.toInt64 (U k)), .long (Int32.toInt64 (V k)), .int (T k)]) (rest := []) co_X8_252 ci_X8_share cv_X8_share dX8_rational_250 rfl hs_115 hb_X8 rfl rfl (Nat.le_of_ble_eq_true rfl) ⟨(Nat.le_of_ble_eq_true rfl), (Nat.le_of_ble_eq_true rfl)⟩ ⟨(Nat.le_of_ble_eq_true rfl), (Nat.le_of_ble_eq_true rfl)⟩ ?_
                obtain ⟨y, hy1, hy2, hy3⟩ := hV k (by omega)
                have hy4 := n32_pos hy1 hy2
                have hy3 : V k = nI y := hy3
                rw [← hy3] at hy4
                refine t_X8_share (Int32.toInt64 (U k)) (Int32.toInt64 (V k)) (T k) (by rw [nb_i2l]; have := nb_rng (U k); omega) (by omega) (by omega) (fun c => ?_) (fun c => absurd (show (0 : Int64) ≤ _ by rw [nb_leL, nb_0L]; omega) c)
                refine ev_iret dX8_rational_253 rfl rfl ⟨Nat.le_refl _, Nat.le_refl _⟩ ?_
                exact k6 j17 h18 rfl j20 h21 rfl h23 h24 bb m0 s J2 K2 h1 h2 y1 y2 n U V T dd ff hs c29 k (by omega) hB c30
            | succ d4 ih4 =>
              intro j hj
              refine ev_iload (pc' := 166) dX8_rational_164 rfl rfl ?_
              refine ev_iload (pc' := 168) dX8_rational_166 rfl rfl ?_
              refine ev_icmp_ge (tgt := 220) (pc' := 171) dX8_rational_168 rfl rfl (fun h => absurd h (nx_nle (a := n) (b := j) (by omega) (by omega))) (fun _ => ?_)
              refine ev_iload (pc' := 173) dX8_rational_171 rfl rfl ?_
              refine ev_aload_n (pc' := 174) (i := 0) dX8_rational_173 rfl rfl rfl ?_
              refine ev_getR (pc' := 177) fo_X8_97 dX8_rational_174 rfl hs_115 rfl rf_115_40 ?_
              refine ev_iload (pc' := 179) dX8_rational_177 rfl rfl ?_
              refine ev_iald (pc' := 180) (j := j) (v := U j) dX8_rational_179 rfl hs_143 rfl (by omega) (Nat.le_of_ble_eq_true rfl) rfl ?_
              refine ev_aload_n (pc' := 181) (i := 0) dX8_rational_180 rfl rfl rfl ?_
              refine ev_getR (pc' := 184) fo_X8_100 dX8_rational_181 rfl hs_115 rfl rf_115_41 ?_
              refine ev_iload (pc' := 186) dX8_rational_184 rfl rfl ?_
              refine ev_iald (pc' := 187) (j := k) (v := V k) dX8_rational_186 rfl hs_144 rfl (by omega) (Nat.le_of_ble_eq_true rfl) rfl ?_
              refine ev_imul (pc' := 188) (v := (U j) * (V k)) dX8_rational_187 rfl rfl ?_
              refine ev_aload_n (pc' := 189) (i := 0) dX8_rational_188 rfl rfl rfl ?_
              refine ev_getR (pc' := 192) fo_X8_97 dX8_rational_189 rfl hs_115 rfl rf_115_40 ?_
              refine ev_iload (pc' := 194) dX8_rational_192 rfl rfl ?_
              refine ev_iald (pc' := 195) (j := k) (v := U k) dX8_rational_194 rfl hs_143 rfl (by omega) (Nat.le_of_ble_eq_true rfl) rfl ?_
              refine ev_aload_n (pc' := 196) (i := 0) dX8_rational_195 rfl rfl rfl ?_
              refine ev_getR (pc' := 199) fo_X8_100 dX8_rational_196 rfl hs_115 rfl rf_115_41 ?_
              refine ev_iload (pc' := 201) dX8_rational_199 rfl rfl ?_
              refine ev_iald (pc' := 202) (j := j) (v := V j) dX8_rational_201 rfl hs_144 rfl (by omega) (Nat.le_of_ble_eq_true rfl) rfl ?_
              refine ev_imul (pc' := 203) (v := (U k) * (V j)) dX8_rational_202 rfl rfl ?_
              suffices K33 : ∀ x32 : Int32, x32 = (if ¬ ((U k) * (V j)) ≤ ((U j) * (V k)) then (1 : Int32) else 0) → EV g yX8_rational cX8_rational 9 (some .int) rX8_rational (ma_ZM g rX8_rational Post) 211 [some (.ref 115), some (.int (nI j17)), some (.int (nI j20)), some (.int x), some (.int 0), some (.int (nI n)), some (.int (nI k)), some (.int (mBl U V k j)), some (.int (nI j))] [.int x32, .int (mBl U V k j)] HS (ma_up (ma_up (ma_up (ma_up J2 143 U) 144 V) 145 T) 115 (ma_up (J2 115) 36 dd)) (ma_up K2 142 ff) RF 146 0 0 by
                refine ev_icmp_ge (tgt := 210) (pc' := 206) dX8_rational_203 rfl rfl (fun c34 => ?_) (fun c34 => ?_)
                · refine ev_iconst (pc' := 211) (v := 0) dX8_rational_210 rfl ki_0 ?_
                  exact K33 _ (if_neg (not_not_intro c34)).symm
                · refine ev_iconst (pc' := 207) (v := 1) dX8_rational_206 rfl ki_1 ?_
                  refine ev_goto (tgt := 211) dX8_rational_207 rfl ?_
                  exact K33 _ (if_pos c34).symm
              intro x32 hx32
              subst hx32
              refine ev_iadd (pc' := 212) (v := (mBl U V k j) + (if ¬ ((U k) * (V j)) ≤ ((U j) * (V k)) then (1 : Int32) else 0)) dX8_rational_211 rfl rfl ?_
              refine ev_istore (pc' := 214) (lv' := [some (.ref 115), some (.int (nI j17)), some (.int (nI j20)), some (.int x), some (.int 0), some (.int (nI n)), some (.int (nI k)), some (.int ((mBl U V k j) + (if ¬ ((U k) * (V j)) ≤ ((U j) * (V k)) then (1 : Int32) else 0))), some (.int (nI j))]) dX8_rational_212 rfl (Nat.le_of_ble_eq_true rfl) rfl rfl ?_
              refine ev_iinc (pc' := 217) (v := nI (j + 1)) (lv' := [some (.ref 115), some (.int (nI j17)), some (.int (nI j20)), some (.int x), some (.int 0), some (.int (nI n)), some (.int (nI k)), some (.int ((mBl U V k j) + (if ¬ ((U k) * (V j)) ≤ ((U j) * (V k)) then (1 : Int32) else 0))), some (.int (nI (j + 1)))]) dX8_rational_214 rfl rfl (nI_add j 1) (Nat.le_of_ble_eq_true rfl) rfl rfl ?_
              refine ev_goto (tgt := 164) dX8_rational_217 rfl ?_
              exact ih4 (j + 1) (by omega)
        · refine ev_bipush (pc' := 147) (v := (-9)) dX8_rational_145 rfl kb_m9 ?_
          refine ev_iret dX8_rational_147 rfl rfl ⟨Nat.le_refl _, Nat.le_refl _⟩ ?_
          exact k7 j17 h18 rfl j20 h21 rfl h23 h24 bb m0 s J2 K2 h1 h2 y1 y2 n U V T dd ff hs c29
      | succ d ih =>
        intro q n U V T dd ff hq hs
        refine ev_iload (pc' := 44) dX8_rational_42 rfl rfl ?_
        refine ev_bipush (pc' := 46) (v := 64) dX8_rational_44 rfl kb_64 ?_
        refine ev_icmp_gt (tgt := 133) (pc' := 49) dX8_rational_46 rfl rfl (fun h => absurd h (nx_nlt (a := 64) (b := (q + 1)) (by omega) (by omega))) (fun _ => ?_)
        refine ev_bipush (pc' := 51) (v := (-64)) dX8_rational_49 rfl kb_m64 ?_
        refine ev_istore (pc' := 53) (lv' := [some (.ref 115), some (.int (nI j17)), some (.int (nI j20)), some (.int x), some (.int 0), some (.int (nI n)), some (.int (nI (q + 1))), some (.int (-64)), none]) dX8_rational_51 rfl (Nat.le_of_ble_eq_true rfl) rfl rfl ?_
        suffices lm : ∀ (e i n1 : Nat) (U1 V1 T1 : Nat → Int32) (dd1 : Int32) (ff1 : Nat → Int64), i + e = 129 → (n1, U1, V1, T1) = mRm (mFm (fun k => I 123 (16 * j17 + k)) (fun k => I 123 (16 * j20 + k))) bb m0 (nI (q + 1)) i (n, U, V, T) → EV g yX8_rational cX8_rational 9 (some .int) rX8_rational (ma_ZM g rX8_rational Post) 53 [some (.ref 115), some (.int (nI j17)), some (.int (nI j20)), some (.int x), some (.int 0), some (.int (nI n1)), some (.int (nI (q + 1))), some (.int (nI i - 64)), none] [] HS (ma_up (ma_up (ma_up (ma_up J2 143 U1) 144 V1) 145 T1) 115 (ma_up (J2 115) 36 dd1)) (ma_up K2 142 ff1) RF 146 0 0 by
          rw [show (-64 : Int32) = nI 0 - 64 by decide]
          exact lm 129 0 n U V T dd ff rfl rfl
        intro e
        induction e with
        | zero =>
          intro i n1 U1 V1 T1 dd1 ff1 hi hs1
          obtain rfl : i = 129 := by omega
          refine ev_iload (pc' := 55) dX8_rational_53 rfl rfl ?_
          refine ev_bipush (pc' := 57) (v := 64) dX8_rational_55 rfl kb_64 ?_
          refine ev_icmp_gt (tgt := 127) (pc' := 60) dX8_rational_57 rfl rfl (fun _ => ?_) (fun h => absurd (by decide) h)
          refine ev_iinc (pc' := 130) (v := nI ((q + 1) + 1)) (lv' := [some (.ref 115), some (.int (nI j17)), some (.int (nI j20)), some (.int x), some (.int 0), some (.int (nI n1)), some (.int (nI ((q + 1) + 1))), some (.int (nI 129 - 64)), none]) dX8_rational_127 rfl rfl (nI_add (q + 1) 1) (Nat.le_of_ble_eq_true rfl) rfl rfl ?_
          refine ev_goto (tgt := 42) dX8_rational_130 rfl ?_
          refine ev_lvw (lv' := [some (.ref 115), some (.int (nI j17)), some (.int (nI j20)), some (.int x), some (.int 0), some (.int (nI n1)), some (.int (nI ((q + 1) + 1))), none, none]) ⟨rfl, ⟨rfl, ⟨rfl, ⟨rfl, ⟨rfl, ⟨rfl, ⟨rfl, trivial⟩⟩⟩⟩⟩⟩⟩ ?_
          exact ih (q + 1) n1 U1 V1 T1 _ _ (by omega) (by show _ = mRm _ _ _ _ _ _; rw [← hs]; exact hs1)
        | succ e ih1 =>
          intro i n1 U1 V1 T1 dd1 ff1 hi hs1
          refine ev_iload (pc' := 55) dX8_rational_53 rfl rfl ?_
          refine ev_bipush (pc' := 57) (v := 64) dX8_rational_55 rfl kb_64 ?_
          refine ev_icmp_gt (tgt := 127) (pc' := 60) dX8_rational_57 rfl rfl (fun h => absurd h (mv_le (by omega))) (fun _ => ?_)
          refine ev_iload (pc' := 62) dX8_rational_60 rfl rfl ?_
          refine ev_i2l (pc' := 63) (v := Int32.toInt64 (nI i - 64)) dX8_rational_62 rfl rfl ?_
          refine ev_iload (pc' := 65) dX8_rational_63 rfl rfl ?_
          refine ev_i2l (pc' := 66) (v := Int32.toInt64 (nI (q + 1))) dX8_rational_65 rfl rfl ?_
          refine ev_callS (pc' := 69) (rm' := rX8_divisor) (av := [.long (Int32.toInt64 (nI i - 64)), .long (Int32.toInt64 (nI (q + 1)))]) (rest := []) co_X8_126 cs_X8_divisor dX8_rational_66 rfl rfl rfl (Nat.le_of_ble_eq_true rfl) ⟨(Nat.le_of_ble_eq_true rfl), (Nat.le_of_ble_eq_true rfl)⟩ ⟨(Nat.le_of_ble_eq_true rfl), (Nat.le_of_ble_eq_true rfl)⟩ ?_
          refine t_X8_divisor (Int32.toInt64 (nI i - 64)) (Int32.toInt64 (nI (q + 1))) (i2l_ne _) (i2l_ne _) ?_
          refine ev_lconst (pc' := 70) (v := 1) dX8_rational_69 rfl kl_1 ?_
          refine ev_lc_ne (p1 := 71) (tgt := 121) (pc' := 74) dX8_rational_70 rfl dX8_rational_71 rfl rfl (fun c35 => ?_) (fun c35 => ?_)
          · refine ev_iinc (pc' := 124) (v := (nI i - 64) + 1) (lv' := [some (.ref 115), some (.int (nI j17)), some (.int (nI j20)), some (.int x), some (.int 0), some (.int (nI n1)), some (.int (nI (q + 1))), some (.int ((nI i - 64) + 1)), none]) dX8_rational_121 rfl rfl rfl (Nat.le_of_ble_eq_true rfl) rfl rfl ?_
            refine ev_goto (tgt := 53) dX8_rational_124 rfl ?_
            rw [mv_s]
            refine ih1 (i + 1) n1 U1 V1 T1 _ _ (by omega) ?_
            show _ = mRs _ _ _ _ _ (mRm _ _ _ _ _ _)
            rw [← hs1, mRs_n (fun z => absurd z.1 c35)]
          · refine ev_aload_n (pc' := 75) (i := 0) dX8_rational_74 rfl rfl rfl ?_
            refine ev_iload (pc' := 77) dX8_rational_75 rfl rfl ?_
            refine ev_i2l (pc' := 78) (v := Int32.toInt64 (nI i - 64)) dX8_rational_77 rfl rfl ?_
            refine ev_iload (pc' := 80) dX8_rational_78 rfl rfl ?_
            refine ev_i2l (pc' := 81) (v := Int32.toInt64 (nI (q + 1))) dX8_rational_80 rfl rfl ?_
            refine ev_callV (pc' := 84) (rm' := rX8_timesOf) (b := 115) (av := [.long (Int32.toInt64 (nI i - 64)), .long (Int32.toInt64 (nI (q + 1)))]) (rest := []) co_X8_357 ci_X8_timesOf cv_X8_timesOf dX8_rational_81 rfl hs_115 hb_X8 rfl rfl (Nat.le_of_ble_eq_true rfl) ⟨(Nat.le_of_ble_eq_true rfl), (Nat.le_of_ble_eq_true rfl)⟩ ⟨(Nat.le_of_ble_eq_true rfl), (Nat.le_of_ble_eq_true rfl)⟩ ?_
            refine t_X8_timesOf (Int32.toInt64 (nI i - 64)) (Int32.toInt64 (nI (q + 1))) bb m0 hm0 h2.2.2.1 (fun z => by have q2 := n32_pos (y := q + 1) (by omega) (by omega); rw [z, nb_0L] at q2; omega) (fun d2 f2 => ?_)
            refine ev_topi (fun z hz => ?_)
            have hz : z = nI (mTo (K2 132) bb m0 (Int32.toInt64 (nI i - 64)) (Int32.toInt64 (nI (q + 1)))) := hz
            rw [eT] at hz
            obtain ⟨k, hk⟩ : ∃ k, k = mTo (mFm (fun k => I 123 (16 * j17 + k)) (fun k => I 123 (16 * j20 + k))) bb m0 (Int32.toInt64 (nI i - 64)) (Int32.toInt64 (nI (q + 1))) := ⟨_, rfl⟩
            have hk5 : k < 5 := by rw [hk]; exact mTo_lt hm0 _ _
            rw [← hk] at hz
            subst hz
            refine ev_memI (fun z hz => ?_)
            have hz := hz.trans (nr_t J2 U1 V1 T1 dd1 d2)
            subst hz
            refine ev_memL (fun z hz => ?_)
            rw [ma_up_up] at hz
            subst hz
            refine ev_istore (pc' := 86) (lv' := [some (.ref 115), some (.int (nI j17)), some (.int (nI j20)), some (.int x), some (.int 0), some (.int (nI n1)), some (.int (nI (q + 1))), some (.int (nI i - 64)), some (.int (nI k))]) dX8_rational_84 rfl (Nat.le_of_ble_eq_true rfl) rfl rfl ?_
            refine ev_iload (pc' := 88) dX8_rational_86 rfl rfl ?_
            refine ev_if_le (tgt := 121) (pc' := 91) dX8_rational_88 rfl rfl (fun c36 => ?_) (fun c36 => ?_)
            · refine ev_iinc (pc' := 124) (v := (nI i - 64) + 1) (lv' := [some (.ref 115), some (.int (nI j17)), some (.int (nI j20)), some (.int x), some (.int 0), some (.int (nI n1)), some (.int (nI (q + 1))), some (.int ((nI i - 64) + 1)), some (.int (nI k))]) dX8_rational_121 rfl rfl rfl (Nat.le_of_ble_eq_true rfl) rfl rfl ?_
              refine ev_goto (tgt := 53) dX8_rational_124 rfl ?_
              refine ev_lvw (lv' := [some (.ref 115), some (.int (nI j17)), some (.int (nI j20)), some (.int x), some (.int 0), some (.int (nI n1)), some (.int (nI (q + 1))), some (.int ((nI i - 64) + 1)), none]) ⟨rfl, ⟨rfl, ⟨rfl, ⟨rfl, ⟨rfl, ⟨rfl, ⟨rfl, ⟨rfl, trivial⟩⟩⟩⟩⟩⟩⟩⟩ ?_
              rw [mv_s]
              refine ih1 (i + 1) n1 U1 V1 T1 _ _ (by omega) ?_
              show _ = mRs _ _ _ _ _ (mRm _ _ _ _ _ _)
              rw [← hs1, mRs_n (fun z => by have z2 := z.2; rw [← hk] at z2; have z3 := c36; rw [tr_le0 hk5] at z3; omega)]
            · have hk0 : 0 < k := by have z3 := c36; rw [tr_le0 hk5] at z3; omega
              have hn3 : n1 < 4 := by
                have z := mRm_at (F := (mFm (fun k => I 123 (16 * j17 + k)) (fun k => I 123 (16 * j20 + k)))) (bb := bb) (m0 := m0) (q := q) (i := i + 1) (s := (0, J2 143, J2 144, J2 145)) (by omega) (by omega) h4
                have z : (mRs (mFm (fun k => I 123 (16 * j17 + k)) (fun k => I 123 (16 * j20 + k))) bb m0 (nI i - 64) (nI (q + 1)) (mRm (mFm (fun k => I 123 (16 * j17 + k)) (fun k => I 123 (16 * j20 + k))) bb m0 (nI (q + 1)) i (mRq (mFm (fun k => I 123 (16 * j17 + k)) (fun k => I 123 (16 * j20 + k))) bb m0 q (0, J2 143, J2 144, J2 145)))).1 ≤ 4 := z
                rw [← hs, ← hs1, mRs_y ⟨c35, by omega⟩] at z
                exact z
              refine ev_aload_n (pc' := 92) (i := 0) dX8_rational_91 rfl rfl rfl ?_
              refine ev_getR (pc' := 95) fo_X8_97 dX8_rational_92 rfl hs_115 rfl rf_115_40 ?_
              refine ev_iload (pc' := 97) dX8_rational_95 rfl rfl ?_
              refine ev_iload (pc' := 99) dX8_rational_97 rfl rfl ?_
              refine ev_iast (pc' := 100) (j := n1) (I' := (ma_up (ma_up (ma_up (ma_up J2 143 (ma_up U1 n1 (nI i - 64))) 144 V1) 145 T1) 115 (ma_up (J2 115) 36 d2))) dX8_rational_99 rfl hs_143 rfl (by omega) (Nat.le_of_ble_eq_true rfl) ((ma_up_comm _ (show 143 ≠ 115 from (by decide)) _ _).trans (congrArg (fun f => ma_up f 115 _) ((ma_up_comm _ (show 143 ≠ 145 from (by decide)) _ _).trans (congrArg (fun f => ma_up f 145 _) ((ma_up_comm _ (show 143 ≠ 144 from (by decide)) _ _).trans (congrArg (fun f => ma_up f 144 _) (ma_up_up _ _ _ _))))))) ?_
              refine ev_aload_n (pc' := 101) (i := 0) dX8_rational_100 rfl rfl rfl ?_
              refine ev_getR (pc' := 104) fo_X8_100 dX8_rational_101 rfl hs_115 rfl rf_115_41 ?_
              refine ev_iload (pc' := 106) dX8_rational_104 rfl rfl ?_
              refine ev_iload (pc' := 108) dX8_rational_106 rfl rfl ?_
              refine ev_iast (pc' := 109) (j := n1) (I' := (ma_up (ma_up (ma_up (ma_up J2 143 (ma_up U1 n1 (nI i - 64))) 144 (ma_up V1 n1 (nI (q + 1)))) 145 T1) 115 (ma_up (J2 115) 36 d2))) dX8_rational_108 rfl hs_144 rfl (by omega) (Nat.le_of_ble_eq_true rfl) ((ma_up_comm _ (show 144 ≠ 115 from (by decide)) _ _).trans (congrArg (fun f => ma_up f 115 _) ((ma_up_comm _ (show 144 ≠ 145 from (by decide)) _ _).trans (congrArg (fun f => ma_up f 145 _) (ma_up_up _ _ _ _))))) ?_
              refine ev_aload_n (pc' := 110) (i := 0) dX8_rational_109 rfl rfl rfl ?_
              refine ev_getR (pc' := 113) fo_X8_103 dX8_rational_110 rfl hs_115 rfl rf_115_42 ?_
              refine ev_iload (pc' := 115) dX8_rational_113 rfl rfl ?_
              refine ev_iload (pc' := 117) dX8_rational_115 rfl rfl ?_
              refine ev_iast (pc' := 118) (j := n1) (I' := (ma_up (ma_up (ma_up (ma_up J2 143 (ma_up U1 n1 (nI i - 64))) 144 (ma_up V1 n1 (nI (q + 1)))) 145 (ma_up T1 n1 (nI k))) 115 (ma_up (J2 115) 36 d2))) dX8_rational_117 rfl hs_145 rfl (by omega) (Nat.le_of_ble_eq_true rfl) ((ma_up_comm _ (show 145 ≠ 115 from (by decide)) _ _).trans (congrArg (fun f => ma_up f 115 _) (ma_up_up _ _ _ _))) ?_
              refine ev_iinc (pc' := 121) (v := nI (n1 + 1)) (lv' := [some (.ref 115), some (.int (nI j17)), some (.int (nI j20)), some (.int x), some (.int 0), some (.int (nI (n1 + 1))), some (.int (nI (q + 1))), some (.int (nI i - 64)), some (.int (nI k))]) dX8_rational_118 rfl rfl (nI_add n1 1) (Nat.le_of_ble_eq_true rfl) rfl rfl ?_
              refine ev_iinc (pc' := 124) (v := (nI i - 64) + 1) (lv' := [some (.ref 115), some (.int (nI j17)), some (.int (nI j20)), some (.int x), some (.int 0), some (.int (nI (n1 + 1))), some (.int (nI (q + 1))), some (.int ((nI i - 64) + 1)), some (.int (nI k))]) dX8_rational_121 rfl rfl rfl (Nat.le_of_ble_eq_true rfl) rfl rfl ?_
              refine ev_goto (tgt := 53) dX8_rational_124 rfl ?_
              refine ev_lvw (lv' := [some (.ref 115), some (.int (nI j17)), some (.int (nI j20)), some (.int x), some (.int 0), some (.int (nI (n1 + 1))), some (.int (nI (q + 1))), some (.int ((nI i - 64) + 1)), none]) ⟨rfl, ⟨rfl, ⟨rfl, ⟨rfl, ⟨rfl, ⟨rfl, ⟨rfl, ⟨rfl, trivial⟩⟩⟩⟩⟩⟩⟩⟩ ?_
              rw [mv_s]
              refine ih1 (i + 1) (n1 + 1) _ _ _ _ _ (by omega) ?_
              show _ = mRs _ _ _ _ _ (mRm _ _ _ _ _ _)
              rw [← hs1, hk, mRs_y ⟨c35, by omega⟩]
  · subst e27
    refine ev_istore (pc' := 8) (lv' := [some (.ref 115), some (.int (nI j25)), some (.int r), some (.int x), some (.int (-1)), none, none, none, none]) dX8_rational_6 rfl (Nat.le_of_ble_eq_true rfl) rfl rfl ?_
    refine ev_iload (pc' := 10) dX8_rational_8 rfl rfl ?_
    refine ev_if_ge (tgt := 16) (pc' := 13) dX8_rational_10 rfl rfl (fun h => absurd h (by decide)) (fun _ => ?_)
    refine ev_iload (pc' := 15) dX8_rational_13 rfl rfl ?_
    refine ev_iret dX8_rational_15 rfl rfl ⟨Nat.le_refl _, Nat.le_refl _⟩ ?_
    exact k8 j25 h26 rfl h28
