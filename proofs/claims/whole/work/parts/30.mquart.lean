theorem n3_0 (L : ma_L) : L = ma_up (ma_up (ma_up L 138 (L 138)) 136 (L 136)) 137 (L 137) := by rw [ma_up_self, ma_up_self, ma_up_self]
theorem n3_6 (L : ma_L) (y z w Y Z : Nat → Int64) : ma_up (ma_up (ma_up (ma_up (ma_up L 138 y) 136 z) 137 w) 138 Y) 136 Z = ma_up (ma_up (ma_up L 138 Y) 136 Z) 137 w := by
  rw [ma_up_comm _ (show 138 ≠ 137 by decide), ma_up_comm _ (show 138 ≠ 136 by decide), ma_up_up, ma_up_comm _ (show 136 ≠ 137 by decide), ma_up_up]
theorem n3_7 (L : ma_L) (y z w Y Z : Nat → Int64) : ma_up (ma_up (ma_up (ma_up (ma_up L 138 y) 136 z) 137 w) 138 Y) 137 Z = ma_up (ma_up (ma_up L 138 Y) 136 z) 137 Z := by
  rw [ma_up_comm _ (show 138 ≠ 137 by decide), ma_up_comm _ (show 138 ≠ 136 by decide), ma_up_up, ma_up_up]
theorem n3_b6 (L : ma_L) (y z w Z : Nat → Int64) : ma_up (ma_up (ma_up (ma_up L 138 y) 136 z) 137 w) 136 Z = ma_up (ma_up (ma_up L 138 y) 136 Z) 137 w := by
  rw [ma_up_comm _ (show 136 ≠ 137 by decide), ma_up_up]
theorem n3_b7 (L : ma_L) (y z w Z : Nat → Int64) : ma_up (ma_up (ma_up (ma_up L 138 y) 136 z) 137 w) 137 Z = ma_up (ma_up (ma_up L 138 y) 136 z) 137 Z := by
  rw [ma_up_up]
theorem cmp_eq {a b k : Nat} (h : a / W30 (k + 1) = b / W30 (k + 1)) (hd : dg a k = dg b k) : a / W30 k = b / W30 k := by
  rw [← div_W, ← div_W] at h
  unfold dg at hd
  omega
theorem cmp_lt {a b k : Nat} (h : a / W30 (k + 1) = b / W30 (k + 1)) (hd : dg a k < dg b k) : a < b := by
  rw [← div_W, ← div_W] at h
  unfold dg at hd
  exact Nat.lt_of_not_le (fun q => absurd (Nat.div_le_div_right (c := W30 k) q) (by omega))
theorem bg_1 (Z : Nat → Int64) : mBg (ma_up (ma_up (ma_up (ma_up (ma_up (ma_up (ma_up (ma_up Z 0 1) 1 0) 2 0) 3 0) 4 0) 5 0) 6 0) 7 0) 1
  | 0, _ => by show (1 : Int64) = lN (dg 1 0); decide
  | 1, _ => by show (0 : Int64) = lN (dg 1 1); decide
  | 2, _ => by show (0 : Int64) = lN (dg 1 2); decide
  | 3, _ => by show (0 : Int64) = lN (dg 1 3); decide
  | 4, _ => by show (0 : Int64) = lN (dg 1 4); decide
  | 5, _ => by show (0 : Int64) = lN (dg 1 5); decide
  | 6, _ => by show (0 : Int64) = lN (dg 1 6); decide
  | 7, _ => by show (0 : Int64) = lN (dg 1 7); decide
  | j + 8, h => by omega
theorem n_X8_begin136 {g : ma_G} {Post : ma_P} {I : ma_I} {L : ma_L} (y z w : Nat → Int64) (k : ∀ Z : Nat → Int64, mBg Z 1 → Post none HS I (ma_up (ma_up (ma_up L 138 y) 136 Z) 137 w) RF 146) : CT g yX8_begin cX8_begin 2 none rX8_begin [.ref 136] Post HS I (ma_up (ma_up (ma_up L 138 y) 136 z) 137 w) RF 146 := by
  refine t_X8_begin136 ?_
  have q := k _ (bg_1 z)
  rw [← n3_b6 L y z w] at q
  exact q
theorem n_X8_times136 {g : ma_G} {Post : ma_P} {I : ma_I} {L : ma_L} (v : Int64) (y z w : Nat → Int64) (n x : Nat) (hv : v = lN x) (hx : x < 9223372036854775808) (hT : mBg z n) (k : ∀ Y Z : Nat → Int64, mBg Z (n * x) → Post none HS I (ma_up (ma_up (ma_up L 138 Y) 136 Z) 137 w) RF 146) : CT g yX8_times cX8_times 16 none rX8_times [.ref 115, .ref 136, .long v] Post HS I (ma_up (ma_up (ma_up L 138 y) 136 z) 137 w) RF 146 := by
  subst hv
  refine t_X8_times136 n x hx hT (fun Y Z h => ?_)
  have q := k Y Z h
  rw [← n3_6 L y z w] at q
  exact q
-- begin
theorem n_X8_begin137 {g : ma_G} {Post : ma_P} {I : ma_I} {L : ma_L} (y z w : Nat → Int64) (k : ∀ Z : Nat → Int64, mBg Z 1 → Post none HS I (ma_up (ma_up (ma_up L 138 y) 136 z) 137 Z) RF 146) : CT g yX8_begin cX8_begin 2 none rX8_begin [.ref 137] Post HS I (ma_up (ma_up (ma_up L 138 y) 136 z) 137 w) RF 146 := by
  refine t_X8_begin137 ?_
  have q := k _ (bg_1 w)
  rw [← n3_b7 L y z w] at q
  exact q
theorem n_X8_times137 {g : ma_G} {Post : ma_P} {I : ma_I} {L : ma_L} (v : Int64) (y z w : Nat → Int64) (n x : Nat) (hv : v = lN x) (hx : x < 9223372036854775808) (hT : mBg w n) (k : ∀ Y Z : Nat → Int64, mBg Z (n * x) → Post none HS I (ma_up (ma_up (ma_up L 138 Y) 136 z) 137 Z) RF 146) : CT g yX8_times cX8_times 16 none rX8_times [.ref 115, .ref 137, .long v] Post HS I (ma_up (ma_up (ma_up L 138 y) 136 z) 137 w) RF 146 := by
  subst hv
  refine t_X8_times137 n x hx hT (fun Y Z h => ?_)
  have q := k Y Z h
  rw [← n3_7 L y z w] at q
  exact q
theorem n_X8_compare {g : ma_G} {Post : ma_P} {I : ma_I} {L : ma_L} (a b : Nat) (ha : a < W30 8) (hb : b < W30 8) (hA : mBg (L 136) a) (hB : mBg (L 137) b) (k1 : a < b → Post (some (.int (-1))) HS I L RF 146) (k2 : a = b → Post (some (.int 0)) HS I L RF 146) (k3 : b < a → Post (some (.int 1)) HS I L RF 146) : CT g yX8_compare cX8_compare 2 (some .int) rX8_compare [.ref 115] Post HS I L RF 146 := by
  have d8 : a / W30 8 = b / W30 8 := by rw [Nat.div_eq_of_lt ha, Nat.div_eq_of_lt hb]
  have dq : ∀ k, k < 8 → L 136 k = L 137 k → dg a k = dg b k := fun k hk h => by
    rw [hA k hk, hB k hk, pk_lEQ (by have := dg_lt a k; omega) (by have := dg_lt b k; omega)] at h; exact h
  refine t_X8_compare ?_ ?_ ?_ ?_ ?_ ?_ ?_ ?_ ?_
  · intro e7 e6 e5 e4 e3 e2 e1 e0
    have d7 := cmp_eq d8 (dq 7 (by omega) e7)
    have d6 := cmp_eq d7 (dq 6 (by omega) e6)
    have d5 := cmp_eq d6 (dq 5 (by omega) e5)
    have d4 := cmp_eq d5 (dq 4 (by omega) e4)
    have d3 := cmp_eq d4 (dq 3 (by omega) e3)
    have d2 := cmp_eq d3 (dq 2 (by omega) e2)
    have d1 := cmp_eq d2 (dq 1 (by omega) e1)
    have d0 := cmp_eq d1 (dq 0 (by omega) e0)
    rw [show W30 0 = 1 from rfl, Nat.div_one, Nat.div_one] at d0
    exact k2 d0
  · intro e7 e6 e5 e4 e3 e2 e1 e0
    have d7 := cmp_eq d8 (dq 7 (by omega) e7)
    have d6 := cmp_eq d7 (dq 6 (by omega) e6)
    have d5 := cmp_eq d6 (dq 5 (by omega) e5)
    have d4 := cmp_eq d5 (dq 4 (by omega) e4)
    have d3 := cmp_eq d4 (dq 3 (by omega) e3)
    have d2 := cmp_eq d3 (dq 2 (by omega) e2)
    have d1 := cmp_eq d2 (dq 1 (by omega) e1)
    have hn : ¬ dg a 0 = dg b 0 := fun q => e0 (by rw [hA 0 (by omega), hB 0 (by omega), q])
    rcases Nat.lt_or_gt_of_ne hn with q | q
    · rw [if_pos (by rw [hA 0 (by omega), hB 0 (by omega), pk_lLE (by have := dg_lt a 0; omega) (by have := dg_lt b 0; omega)]; omega)]
      exact k1 (cmp_lt d1 q)
    · rw [if_neg (by rw [hA 0 (by omega), hB 0 (by omega), pk_lLE (by have := dg_lt a 0; omega) (by have := dg_lt b 0; omega)]; omega)]
      exact k3 (cmp_lt d1.symm q)
  · intro e7 e6 e5 e4 e3 e2 e1
    have d7 := cmp_eq d8 (dq 7 (by omega) e7)
    have d6 := cmp_eq d7 (dq 6 (by omega) e6)
    have d5 := cmp_eq d6 (dq 5 (by omega) e5)
    have d4 := cmp_eq d5 (dq 4 (by omega) e4)
    have d3 := cmp_eq d4 (dq 3 (by omega) e3)
    have d2 := cmp_eq d3 (dq 2 (by omega) e2)
    have hn : ¬ dg a 1 = dg b 1 := fun q => e1 (by rw [hA 1 (by omega), hB 1 (by omega), q])
    rcases Nat.lt_or_gt_of_ne hn with q | q
    · rw [if_pos (by rw [hA 1 (by omega), hB 1 (by omega), pk_lLE (by have := dg_lt a 1; omega) (by have := dg_lt b 1; omega)]; omega)]
      exact k1 (cmp_lt d2 q)
    · rw [if_neg (by rw [hA 1 (by omega), hB 1 (by omega), pk_lLE (by have := dg_lt a 1; omega) (by have := dg_lt b 1; omega)]; omega)]
      exact k3 (cmp_lt d2.symm q)
  · intro e7 e6 e5 e4 e3 e2
    have d7 := cmp_eq d8 (dq 7 (by omega) e7)
    have d6 := cmp_eq d7 (dq 6 (by omega) e6)
    have d5 := cmp_eq d6 (dq 5 (by omega) e5)
    have d4 := cmp_eq d5 (dq 4 (by omega) e4)
    have d3 := cmp_eq d4 (dq 3 (by omega) e3)
    have hn : ¬ dg a 2 = dg b 2 := fun q => e2 (by rw [hA 2 (by omega), hB 2 (by omega), q])
    rcases Nat.lt_or_gt_of_ne hn with q | q
    · rw [if_pos (by rw [hA 2 (by omega), hB 2 (by omega), pk_lLE (by have := dg_lt a 2; omega) (by have := dg_lt b 2; omega)]; omega)]
      exact k1 (cmp_lt d3 q)
    · rw [if_neg (by rw [hA 2 (by omega), hB 2 (by omega), pk_lLE (by have := dg_lt a 2; omega) (by have := dg_lt b 2; omega)]; omega)]
      exact k3 (cmp_lt d3.symm q)
  · intro e7 e6 e5 e4 e3
    have d7 := cmp_eq d8 (dq 7 (by omega) e7)
    have d6 := cmp_eq d7 (dq 6 (by omega) e6)
    have d5 := cmp_eq d6 (dq 5 (by omega) e5)
    have d4 := cmp_eq d5 (dq 4 (by omega) e4)
    have hn : ¬ dg a 3 = dg b 3 := fun q => e3 (by rw [hA 3 (by omega), hB 3 (by omega), q])
    rcases Nat.lt_or_gt_of_ne hn with q | q
    · rw [if_pos (by rw [hA 3 (by omega), hB 3 (by omega), pk_lLE (by have := dg_lt a 3; omega) (by have := dg_lt b 3; omega)]; omega)]
      exact k1 (cmp_lt d4 q)
    · rw [if_neg (by rw [hA 3 (by omega), hB 3 (by omega), pk_lLE (by have := dg_lt a 3; omega) (by have := dg_lt b 3; omega)]; omega)]
      exact k3 (cmp_lt d4.symm q)
  · intro e7 e6 e5 e4
    have d7 := cmp_eq d8 (dq 7 (by omega) e7)
    have d6 := cmp_eq d7 (dq 6 (by omega) e6)
    have d5 := cmp_eq d6 (dq 5 (by omega) e5)
    have hn : ¬ dg a 4 = dg b 4 := fun q => e4 (by rw [hA 4 (by omega), hB 4 (by omega), q])
    rcases Nat.lt_or_gt_of_ne hn with q | q
    · rw [if_pos (by rw [hA 4 (by omega), hB 4 (by omega), pk_lLE (by have := dg_lt a 4; omega) (by have := dg_lt b 4; omega)]; omega)]
      exact k1 (cmp_lt d5 q)
    · rw [if_neg (by rw [hA 4 (by omega), hB 4 (by omega), pk_lLE (by have := dg_lt a 4; omega) (by have := dg_lt b 4; omega)]; omega)]
      exact k3 (cmp_lt d5.symm q)
  · intro e7 e6 e5
    have d7 := cmp_eq d8 (dq 7 (by omega) e7)
    have d6 := cmp_eq d7 (dq 6 (by omega) e6)
    have hn : ¬ dg a 5 = dg b 5 := fun q => e5 (by rw [hA 5 (by omega), hB 5 (by omega), q])
    rcases Nat.lt_or_gt_of_ne hn with q | q
    · rw [if_pos (by rw [hA 5 (by omega), hB 5 (by omega), pk_lLE (by have := dg_lt a 5; omega) (by have := dg_lt b 5; omega)]; omega)]
      exact k1 (cmp_lt d6 q)
    · rw [if_neg (by rw [hA 5 (by omega), hB 5 (by omega), pk_lLE (by have := dg_lt a 5; omega) (by have := dg_lt b 5; omega)]; omega)]
      exact k3 (cmp_lt d6.symm q)
  · intro e7 e6
    have d7 := cmp_eq d8 (dq 7 (by omega) e7)
    have hn : ¬ dg a 6 = dg b 6 := fun q => e6 (by rw [hA 6 (by omega), hB 6 (by omega), q])
    rcases Nat.lt_or_gt_of_ne hn with q | q
    · rw [if_pos (by rw [hA 6 (by omega), hB 6 (by omega), pk_lLE (by have := dg_lt a 6; omega) (by have := dg_lt b 6; omega)]; omega)]
      exact k1 (cmp_lt d7 q)
    · rw [if_neg (by rw [hA 6 (by omega), hB 6 (by omega), pk_lLE (by have := dg_lt a 6; omega) (by have := dg_lt b 6; omega)]; omega)]
      exact k3 (cmp_lt d7.symm q)
  · intro e7
    have hn : ¬ dg a 7 = dg b 7 := fun q => e7 (by rw [hA 7 (by omega), hB 7 (by omega), q])
    rcases Nat.lt_or_gt_of_ne hn with q | q
    · rw [if_pos (by rw [hA 7 (by omega), hB 7 (by omega), pk_lLE (by have := dg_lt a 7; omega) (by have := dg_lt b 7; omega)]; omega)]
      exact k1 (cmp_lt d8 q)
    · rw [if_neg (by rw [hA 7 (by omega), hB 7 (by omega), pk_lLE (by have := dg_lt a 7; omega) (by have := dg_lt b 7; omega)]; omega)]
      exact k3 (cmp_lt d8.symm q)

theorem bg_m {a b A B : Nat} (ha : a < A) (hb : b < B) : a * b < A * B := Nat.mul_lt_mul_of_lt_of_lt ha hb
theorem bg_2 {x y : Nat} (hx : x < 9223372036854775808) (hy : y < 9223372036854775808) : 1 * x * y < W30 8 := by
  rw [Nat.one_mul]
  exact Nat.lt_of_lt_of_le (bg_m hx hy) (by decide)
theorem bg_3 {c x y z : Nat} (hc : c < 17) (hx : x < 9223372036854775808) (hy : y < 9223372036854775808) (hz : z < 9223372036854775808) : 1 * c * x * y * z < W30 8 := by
  rw [Nat.one_mul]
  exact Nat.lt_of_lt_of_le (bg_m (bg_m (bg_m hc hx) hy) hz) (by decide)
def mQi (f : Nat → Int64) : Int64 := 12 * f 0 * f 4 - 3 * f 1 * f 3 + f 2 * f 2
def mQj (f : Nat → Int64) : Int64 := 72 * f 0 * f 2 * f 4 + 9 * f 1 * f 2 * f 3 - 27 * f 0 * f 3 * f 3 - 27 * f 4 * f 1 * f 1 - 2 * f 2 * f 2 * f 2
def mQp (f : Nat → Int64) : Int64 := 8 * f 0 * f 2 - 3 * f 1 * f 1
/-- how many real roots are left of a row of degree 4, and whether each counts twice -/
def mQr (i j p a : Int64) : Int32 × Int32 :=
  if 0 < i ∨ (i = 0 ∧ j = 0) then
    if 4 * i.toInt.natAbs * i.toInt.natAbs * i.toInt.natAbs < j.toInt.natAbs * j.toInt.natAbs then (2, 0)
    else if 4 * i.toInt.natAbs * i.toInt.natAbs * i.toInt.natAbs = j.toInt.natAbs * j.toInt.natAbs then (if p < 0 then 2 else 0, 1)
    else (if p < 0 ∧ 16 * a.toInt.natAbs * a.toInt.natAbs * i.toInt.natAbs < p.toInt.natAbs * p.toInt.natAbs then 4 else 0, 0)
  else (2, 0)
set_option maxRecDepth 4000 in
theorem t_X8_layQuartic {g : ma_G} {Post : ma_P} {I : ma_I} {L : ma_L}   (hj : (mQj (L 142)).toInt ≠ -9223372036854775808) (hp : (mQp (L 142)).toInt ≠ -9223372036854775808) (ha : (L 142 0).toInt ≠ -9223372036854775808) (k : ∀ (Y Z W : Nat → Int64) (rl tw : Int32), (rl, tw) = mQr (mQi (L 142)) (mQj (L 142)) (mQp (L 142)) (L 142 0) → Post none HS (ma_up I 115 (ma_up (ma_up (I 115) 39 tw) 38 rl)) (ma_up (ma_up (ma_up L 138 Y) 136 Z) 137 W) RF 146) : CT g yX8_layQuartic cX8_layQuartic 18 none rX8_layQuartic [.ref 115] Post HS I L RF 146 := by
  refine ct_of (lv := [some (.ref 115), none, none, none, none, none, none, none, none, none, none, none, none, none, none, none, none, none]) (by decide) (Nat.le_of_ble_eq_true rfl) rfl ?_
  refine ev_aload_n (pc' := 1) (i := 0) dX8_layQuartic_0 rfl rfl rfl ?_
  refine ev_getR (pc' := 4) fo_X8_94 dX8_layQuartic_1 rfl hs_115 rfl rf_115_37 ?_
  refine ev_iconst (pc' := 5) (v := 0) dX8_layQuartic_4 rfl ki_0 ?_
  refine ev_lald (pc' := 6) (j := 0) (v := (L 142) 0) dX8_layQuartic_5 rfl hs_142 rfl (Nat.le_of_ble_eq_true rfl) (Nat.le_of_ble_eq_true rfl) rfl ?_
  refine ev_lstore_n (pc' := 7) (i := 1) (lv' := [some (.ref 115), some (.long ((L 142) 0)), none, none, none, none, none, none, none, none, none, none, none, none, none, none, none, none]) dX8_layQuartic_6 rfl rfl (Nat.le_of_ble_eq_true rfl) rfl rfl ?_
  refine ev_aload_n (pc' := 8) (i := 0) dX8_layQuartic_7 rfl rfl rfl ?_
  refine ev_getR (pc' := 11) fo_X8_94 dX8_layQuartic_8 rfl hs_115 rfl rf_115_37 ?_
  refine ev_iconst (pc' := 12) (v := 1) dX8_layQuartic_11 rfl ki_1 ?_
  refine ev_lald (pc' := 13) (j := 1) (v := (L 142) 1) dX8_layQuartic_12 rfl hs_142 rfl (Nat.le_of_ble_eq_true rfl) (Nat.le_of_ble_eq_true rfl) rfl ?_
  refine ev_lstore_n (pc' := 14) (i := 3) (lv' := [some (.ref 115), some (.long ((L 142) 0)), none, some (.long ((L 142) 1)), none, none, none, none, none, none, none, none, none, none, none, none, none, none]) dX8_layQuartic_13 rfl rfl (Nat.le_of_ble_eq_true rfl) rfl rfl ?_
  refine ev_aload_n (pc' := 15) (i := 0) dX8_layQuartic_14 rfl rfl rfl ?_
  refine ev_getR (pc' := 18) fo_X8_94 dX8_layQuartic_15 rfl hs_115 rfl rf_115_37 ?_
  refine ev_iconst (pc' := 19) (v := 2) dX8_layQuartic_18 rfl ki_2 ?_
  refine ev_lald (pc' := 20) (j := 2) (v := (L 142) 2) dX8_layQuartic_19 rfl hs_142 rfl (Nat.le_of_ble_eq_true rfl) (Nat.le_of_ble_eq_true rfl) rfl ?_
  refine ev_lstore (pc' := 22) (lv' := [some (.ref 115), some (.long ((L 142) 0)), none, some (.long ((L 142) 1)), none, some (.long ((L 142) 2)), none, none, none, none, none, none, none, none, none, none, none, none]) dX8_layQuartic_20 rfl (Nat.le_of_ble_eq_true rfl) rfl rfl ?_
  refine ev_aload_n (pc' := 23) (i := 0) dX8_layQuartic_22 rfl rfl rfl ?_
  refine ev_getR (pc' := 26) fo_X8_94 dX8_layQuartic_23 rfl hs_115 rfl rf_115_37 ?_
  refine ev_iconst (pc' := 27) (v := 3) dX8_layQuartic_26 rfl ki_3 ?_
  refine ev_lald (pc' := 28) (j := 3) (v := (L 142) 3) dX8_layQuartic_27 rfl hs_142 rfl (Nat.le_of_ble_eq_true rfl) (Nat.le_of_ble_eq_true rfl) rfl ?_
  refine ev_lstore (pc' := 30) (lv' := [some (.ref 115), some (.long ((L 142) 0)), none, some (.long ((L 142) 1)), none, some (.long ((L 142) 2)), none, some (.long ((L 142) 3)), none, none, none, none, none, none, none, none, none, none]) dX8_layQuartic_28 rfl (Nat.le_of_ble_eq_true rfl) rfl rfl ?_
  refine ev_aload_n (pc' := 31) (i := 0) dX8_layQuartic_30 rfl rfl rfl ?_
  refine ev_getR (pc' := 34) fo_X8_94 dX8_layQuartic_31 rfl hs_115 rfl rf_115_37 ?_
  refine ev_iconst (pc' := 35) (v := 4) dX8_layQuartic_34 rfl ki_4 ?_
  refine ev_lald (pc' := 36) (j := 4) (v := (L 142) 4) dX8_layQuartic_35 rfl hs_142 rfl (Nat.le_of_ble_eq_true rfl) (Nat.le_of_ble_eq_true rfl) rfl ?_
  refine ev_lstore (pc' := 38) (lv' := [some (.ref 115), some (.long ((L 142) 0)), none, some (.long ((L 142) 1)), none, some (.long ((L 142) 2)), none, some (.long ((L 142) 3)), none, some (.long ((L 142) 4)), none, none, none, none, none, none, none, none]) dX8_layQuartic_36 rfl (Nat.le_of_ble_eq_true rfl) rfl rfl ?_
  refine ev_ldc2 (pc' := 41) cl_X8_314 dX8_layQuartic_38 rfl ?_
  refine ev_lload_n (pc' := 42) (i := 1) dX8_layQuartic_41 rfl rfl rfl ?_
  refine ev_lmul (pc' := 43) (v := 12 * ((L 142) 0)) dX8_layQuartic_42 rfl rfl ?_
  refine ev_lload (pc' := 45) dX8_layQuartic_43 rfl rfl ?_
  refine ev_lmul (pc' := 46) (v := (12 * ((L 142) 0)) * ((L 142) 4)) dX8_layQuartic_45 rfl rfl ?_
  refine ev_ldc2 (pc' := 49) cl_X8_316 dX8_layQuartic_46 rfl ?_
  refine ev_lload_n (pc' := 50) (i := 3) dX8_layQuartic_49 rfl rfl rfl ?_
  refine ev_lmul (pc' := 51) (v := 3 * ((L 142) 1)) dX8_layQuartic_50 rfl rfl ?_
  refine ev_lload (pc' := 53) dX8_layQuartic_51 rfl rfl ?_
  refine ev_lmul (pc' := 54) (v := (3 * ((L 142) 1)) * ((L 142) 3)) dX8_layQuartic_53 rfl rfl ?_
  refine ev_lsub (pc' := 55) (v := ((12 * ((L 142) 0)) * ((L 142) 4)) - ((3 * ((L 142) 1)) * ((L 142) 3))) dX8_layQuartic_54 rfl rfl ?_
  refine ev_lload (pc' := 57) dX8_layQuartic_55 rfl rfl ?_
  refine ev_lload (pc' := 59) dX8_layQuartic_57 rfl rfl ?_
  refine ev_lmul (pc' := 60) (v := ((L 142) 2) * ((L 142) 2)) dX8_layQuartic_59 rfl rfl ?_
  refine ev_ladd (pc' := 61) (v := (((12 * ((L 142) 0)) * ((L 142) 4)) - ((3 * ((L 142) 1)) * ((L 142) 3))) + (((L 142) 2) * ((L 142) 2))) dX8_layQuartic_60 rfl rfl ?_
  refine ev_topl (fun x1 hx1 => ?_)
  refine ev_lstore (pc' := 63) (lv' := [some (.ref 115), some (.long ((L 142) 0)), none, some (.long ((L 142) 1)), none, some (.long ((L 142) 2)), none, some (.long ((L 142) 3)), none, some (.long ((L 142) 4)), none, some (.long x1), none, none, none, none, none, none]) dX8_layQuartic_61 rfl (Nat.le_of_ble_eq_true rfl) rfl rfl ?_
  refine ev_ldc2 (pc' := 66) cl_X8_318 dX8_layQuartic_63 rfl ?_
  refine ev_lload_n (pc' := 67) (i := 1) dX8_layQuartic_66 rfl rfl rfl ?_
  refine ev_lmul (pc' := 68) (v := 72 * ((L 142) 0)) dX8_layQuartic_67 rfl rfl ?_
  refine ev_lload (pc' := 70) dX8_layQuartic_68 rfl rfl ?_
  refine ev_lmul (pc' := 71) (v := (72 * ((L 142) 0)) * ((L 142) 2)) dX8_layQuartic_70 rfl rfl ?_
  refine ev_lload (pc' := 73) dX8_layQuartic_71 rfl rfl ?_
  refine ev_lmul (pc' := 74) (v := ((72 * ((L 142) 0)) * ((L 142) 2)) * ((L 142) 4)) dX8_layQuartic_73 rfl rfl ?_
  refine ev_ldc2 (pc' := 77) cl_X8_320 dX8_layQuartic_74 rfl ?_
  refine ev_lload_n (pc' := 78) (i := 3) dX8_layQuartic_77 rfl rfl rfl ?_
  refine ev_lmul (pc' := 79) (v := 9 * ((L 142) 1)) dX8_layQuartic_78 rfl rfl ?_
  refine ev_lload (pc' := 81) dX8_layQuartic_79 rfl rfl ?_
  refine ev_lmul (pc' := 82) (v := (9 * ((L 142) 1)) * ((L 142) 2)) dX8_layQuartic_81 rfl rfl ?_
  refine ev_lload (pc' := 84) dX8_layQuartic_82 rfl rfl ?_
  refine ev_lmul (pc' := 85) (v := ((9 * ((L 142) 1)) * ((L 142) 2)) * ((L 142) 3)) dX8_layQuartic_84 rfl rfl ?_
  refine ev_ladd (pc' := 86) (v := (((72 * ((L 142) 0)) * ((L 142) 2)) * ((L 142) 4)) + (((9 * ((L 142) 1)) * ((L 142) 2)) * ((L 142) 3))) dX8_layQuartic_85 rfl rfl ?_
  refine ev_ldc2 (pc' := 89) cl_X8_312 dX8_layQuartic_86 rfl ?_
  refine ev_lload_n (pc' := 90) (i := 1) dX8_layQuartic_89 rfl rfl rfl ?_
  refine ev_lmul (pc' := 91) (v := 27 * ((L 142) 0)) dX8_layQuartic_90 rfl rfl ?_
  refine ev_lload (pc' := 93) dX8_layQuartic_91 rfl rfl ?_
  refine ev_lmul (pc' := 94) (v := (27 * ((L 142) 0)) * ((L 142) 3)) dX8_layQuartic_93 rfl rfl ?_
  refine ev_lload (pc' := 96) dX8_layQuartic_94 rfl rfl ?_
  refine ev_lmul (pc' := 97) (v := ((27 * ((L 142) 0)) * ((L 142) 3)) * ((L 142) 3)) dX8_layQuartic_96 rfl rfl ?_
  refine ev_lsub (pc' := 98) (v := ((((72 * ((L 142) 0)) * ((L 142) 2)) * ((L 142) 4)) + (((9 * ((L 142) 1)) * ((L 142) 2)) * ((L 142) 3))) - (((27 * ((L 142) 0)) * ((L 142) 3)) * ((L 142) 3))) dX8_layQuartic_97 rfl rfl ?_
  refine ev_ldc2 (pc' := 101) cl_X8_312 dX8_layQuartic_98 rfl ?_
  refine ev_lload (pc' := 103) dX8_layQuartic_101 rfl rfl ?_
  refine ev_lmul (pc' := 104) (v := 27 * ((L 142) 4)) dX8_layQuartic_103 rfl rfl ?_
  refine ev_lload_n (pc' := 105) (i := 3) dX8_layQuartic_104 rfl rfl rfl ?_
  refine ev_lmul (pc' := 106) (v := (27 * ((L 142) 4)) * ((L 142) 1)) dX8_layQuartic_105 rfl rfl ?_
  refine ev_lload_n (pc' := 107) (i := 3) dX8_layQuartic_106 rfl rfl rfl ?_
  refine ev_lmul (pc' := 108) (v := ((27 * ((L 142) 4)) * ((L 142) 1)) * ((L 142) 1)) dX8_layQuartic_107 rfl rfl ?_
  refine ev_lsub (pc' := 109) (v := (((((72 * ((L 142) 0)) * ((L 142) 2)) * ((L 142) 4)) + (((9 * ((L 142) 1)) * ((L 142) 2)) * ((L 142) 3))) - (((27 * ((L 142) 0)) * ((L 142) 3)) * ((L 142) 3))) - (((27 * ((L 142) 4)) * ((L 142) 1)) * ((L 142) 1))) dX8_layQuartic_108 rfl rfl ?_
  refine ev_ldc2 (pc' := 112) cl_X8_322 dX8_layQuartic_109 rfl ?_
  refine ev_lload (pc' := 114) dX8_layQuartic_112 rfl rfl ?_
  refine ev_lmul (pc' := 115) (v := 2 * ((L 142) 2)) dX8_layQuartic_114 rfl rfl ?_
  refine ev_lload (pc' := 117) dX8_layQuartic_115 rfl rfl ?_
  refine ev_lmul (pc' := 118) (v := (2 * ((L 142) 2)) * ((L 142) 2)) dX8_layQuartic_117 rfl rfl ?_
  refine ev_lload (pc' := 120) dX8_layQuartic_118 rfl rfl ?_
  refine ev_lmul (pc' := 121) (v := ((2 * ((L 142) 2)) * ((L 142) 2)) * ((L 142) 2)) dX8_layQuartic_120 rfl rfl ?_
  refine ev_lsub (pc' := 122) (v := ((((((72 * ((L 142) 0)) * ((L 142) 2)) * ((L 142) 4)) + (((9 * ((L 142) 1)) * ((L 142) 2)) * ((L 142) 3))) - (((27 * ((L 142) 0)) * ((L 142) 3)) * ((L 142) 3))) - (((27 * ((L 142) 4)) * ((L 142) 1)) * ((L 142) 1))) - (((2 * ((L 142) 2)) * ((L 142) 2)) * ((L 142) 2))) dX8_layQuartic_121 rfl rfl ?_
  refine ev_topl (fun x2 hx2 => ?_)
  refine ev_lstore (pc' := 124) (lv' := [some (.ref 115), some (.long ((L 142) 0)), none, some (.long ((L 142) 1)), none, some (.long ((L 142) 2)), none, some (.long ((L 142) 3)), none, some (.long ((L 142) 4)), none, some (.long x1), none, some (.long x2), none, none, none, none]) dX8_layQuartic_122 rfl (Nat.le_of_ble_eq_true rfl) rfl rfl ?_
  refine ev_ldc2 (pc' := 127) cl_X8_324 dX8_layQuartic_124 rfl ?_
  refine ev_lload_n (pc' := 128) (i := 1) dX8_layQuartic_127 rfl rfl rfl ?_
  refine ev_lmul (pc' := 129) (v := 8 * ((L 142) 0)) dX8_layQuartic_128 rfl rfl ?_
  refine ev_lload (pc' := 131) dX8_layQuartic_129 rfl rfl ?_
  refine ev_lmul (pc' := 132) (v := (8 * ((L 142) 0)) * ((L 142) 2)) dX8_layQuartic_131 rfl rfl ?_
  refine ev_ldc2 (pc' := 135) cl_X8_316 dX8_layQuartic_132 rfl ?_
  refine ev_lload_n (pc' := 136) (i := 3) dX8_layQuartic_135 rfl rfl rfl ?_
  refine ev_lmul (pc' := 137) (v := 3 * ((L 142) 1)) dX8_layQuartic_136 rfl rfl ?_
  refine ev_lload_n (pc' := 138) (i := 3) dX8_layQuartic_137 rfl rfl rfl ?_
  refine ev_lmul (pc' := 139) (v := (3 * ((L 142) 1)) * ((L 142) 1)) dX8_layQuartic_138 rfl rfl ?_
  refine ev_lsub (pc' := 140) (v := ((8 * ((L 142) 0)) * ((L 142) 2)) - ((3 * ((L 142) 1)) * ((L 142) 1))) dX8_layQuartic_139 rfl rfl ?_
  refine ev_topl (fun x3 hx3 => ?_)
  refine ev_lstore (pc' := 142) (lv' := [some (.ref 115), some (.long ((L 142) 0)), none, some (.long ((L 142) 1)), none, some (.long ((L 142) 2)), none, some (.long ((L 142) 3)), none, some (.long ((L 142) 4)), none, some (.long x1), none, some (.long x2), none, some (.long x3), none, none]) dX8_layQuartic_140 rfl (Nat.le_of_ble_eq_true rfl) rfl rfl ?_
  refine ev_iconst (pc' := 143) (v := (-1)) dX8_layQuartic_142 rfl ki_m1 ?_
  refine ev_istore (pc' := 145) (lv' := [some (.ref 115), some (.long ((L 142) 0)), none, some (.long ((L 142) 1)), none, some (.long ((L 142) 2)), none, some (.long ((L 142) 3)), none, some (.long ((L 142) 4)), none, some (.long x1), none, some (.long x2), none, some (.long x3), none, some (.int (-1))]) dX8_layQuartic_143 rfl (Nat.le_of_ble_eq_true rfl) rfl rfl ?_
  have e1 : x1 = mQi (L 142) := hx1
  have e2 : x2 = mQj (L 142) := hx2
  have e3 : x3 = mQp (L 142) := hx3
  rw [← e2] at hj
  rw [← e3] at hp
  clear hx1 hx2 hx3
  refine ev_memL (fun z hz => ?_)
  rw [n3_0 L] at hz
  subst hz
  refine ev_lload (pc' := 147) dX8_layQuartic_145 rfl rfl ?_
  refine ev_lconst (pc' := 148) (v := 0) dX8_layQuartic_147 rfl kl_0 ?_
  refine ev_lc_gt (p1 := 149) (tgt := 166) (pc' := 152) dX8_layQuartic_148 rfl dX8_layQuartic_149 rfl rfl (fun c4 => ?_) (fun c4 => ?_)
  · have hin : 0 < x1 ∨ (x1 = 0 ∧ x2 = 0) := Or.inl c4
    have hi0 : 0 ≤ x1.toInt := by rcases hin with q | q; (· rw [nb_ltL, nb_0L] at q; omega); (· rw [q.1]; decide)
    have hiN : x1 = lN x1.toInt.natAbs := by have := nb_rngL x1; apply nb_eqL.mpr; rw [lN_toI (by omega)]; omega
    have hiL : x1.toInt.natAbs < 9223372036854775808 := by have := nb_rngL x1; omega
    have hjL : x2.toInt.natAbs < 9223372036854775808 := by have := nb_rngL x2; omega
    have hpL : x3.toInt.natAbs < 9223372036854775808 := by have := nb_rngL x3; omega
    have haL : (L 142 0).toInt.natAbs < 9223372036854775808 := by have := nb_rngL (L 142 0); omega
    refine ev_aload_n (pc' := 167) (i := 0) dX8_layQuartic_166 rfl rfl rfl ?_
    refine ev_getR (pc' := 170) fo_X8_76 dX8_layQuartic_167 rfl hs_115 rfl rf_115_28 ?_
    refine ev_callS (pc' := 173) (rm' := rX8_begin) (av := [.ref 136]) (rest := []) co_X8_326 cs_X8_begin dX8_layQuartic_170 rfl rfl rfl (Nat.le_of_ble_eq_true rfl) ⟨(Nat.le_of_ble_eq_true rfl), (Nat.le_of_ble_eq_true rfl)⟩ ⟨(Nat.le_of_ble_eq_true rfl), (Nat.le_of_ble_eq_true rfl)⟩ ?_
    refine n_X8_begin136 (L 138) (L 136) (L 137) (fun Z5 hZ5 => ?_)
    refine ev_aload_n (pc' := 174) (i := 0) dX8_layQuartic_173 rfl rfl rfl ?_
    refine ev_aload_n (pc' := 175) (i := 0) dX8_layQuartic_174 rfl rfl rfl ?_
    refine ev_getR (pc' := 178) fo_X8_76 dX8_layQuartic_175 rfl hs_115 rfl rf_115_28 ?_
    refine ev_ldc2 (pc' := 181) cl_X8_301 dX8_layQuartic_178 rfl ?_
    refine ev_callV (pc' := 184) (rm' := rX8_times) (b := 115) (av := [.ref 136, .long 4]) (rest := []) co_X8_330 ci_X8_times cv_X8_times dX8_layQuartic_181 rfl hs_115 hb_X8 rfl rfl (Nat.le_of_ble_eq_true rfl) ⟨(Nat.le_of_ble_eq_true rfl), (Nat.le_of_ble_eq_true rfl)⟩ ⟨(Nat.le_of_ble_eq_true rfl), (Nat.le_of_ble_eq_true rfl)⟩ ?_
    refine n_X8_times136 4 (L 138) Z5 (L 137) (1) (4) rfl (by omega) hZ5 (fun Y6 Z7 hZ7 => ?_)
    refine ev_aload_n (pc' := 185) (i := 0) dX8_layQuartic_184 rfl rfl rfl ?_
    refine ev_aload_n (pc' := 186) (i := 0) dX8_layQuartic_185 rfl rfl rfl ?_
    refine ev_getR (pc' := 189) fo_X8_76 dX8_layQuartic_186 rfl hs_115 rfl rf_115_28 ?_
    refine ev_lload (pc' := 191) dX8_layQuartic_189 rfl rfl ?_
    refine ev_callV (pc' := 194) (rm' := rX8_times) (b := 115) (av := [.ref 136, .long x1]) (rest := []) co_X8_330 ci_X8_times cv_X8_times dX8_layQuartic_191 rfl hs_115 hb_X8 rfl rfl (Nat.le_of_ble_eq_true rfl) ⟨(Nat.le_of_ble_eq_true rfl), (Nat.le_of_ble_eq_true rfl)⟩ ⟨(Nat.le_of_ble_eq_true rfl), (Nat.le_of_ble_eq_true rfl)⟩ ?_
    refine n_X8_times136 x1 Y6 Z7 (L 137) (1 * 4) (x1.toInt.natAbs) hiN hiL hZ7 (fun Y8 Z9 hZ9 => ?_)
    refine ev_aload_n (pc' := 195) (i := 0) dX8_layQuartic_194 rfl rfl rfl ?_
    refine ev_aload_n (pc' := 196) (i := 0) dX8_layQuartic_195 rfl rfl rfl ?_
    refine ev_getR (pc' := 199) fo_X8_76 dX8_layQuartic_196 rfl hs_115 rfl rf_115_28 ?_
    refine ev_lload (pc' := 201) dX8_layQuartic_199 rfl rfl ?_
    refine ev_callV (pc' := 204) (rm' := rX8_times) (b := 115) (av := [.ref 136, .long x1]) (rest := []) co_X8_330 ci_X8_times cv_X8_times dX8_layQuartic_201 rfl hs_115 hb_X8 rfl rfl (Nat.le_of_ble_eq_true rfl) ⟨(Nat.le_of_ble_eq_true rfl), (Nat.le_of_ble_eq_true rfl)⟩ ⟨(Nat.le_of_ble_eq_true rfl), (Nat.le_of_ble_eq_true rfl)⟩ ?_
    refine n_X8_times136 x1 Y8 Z9 (L 137) (1 * 4 * x1.toInt.natAbs) (x1.toInt.natAbs) hiN hiL hZ9 (fun Y10 Z11 hZ11 => ?_)
    refine ev_aload_n (pc' := 205) (i := 0) dX8_layQuartic_204 rfl rfl rfl ?_
    refine ev_aload_n (pc' := 206) (i := 0) dX8_layQuartic_205 rfl rfl rfl ?_
    refine ev_getR (pc' := 209) fo_X8_76 dX8_layQuartic_206 rfl hs_115 rfl rf_115_28 ?_
    refine ev_lload (pc' := 211) dX8_layQuartic_209 rfl rfl ?_
    refine ev_callV (pc' := 214) (rm' := rX8_times) (b := 115) (av := [.ref 136, .long x1]) (rest := []) co_X8_330 ci_X8_times cv_X8_times dX8_layQuartic_211 rfl hs_115 hb_X8 rfl rfl (Nat.le_of_ble_eq_true rfl) ⟨(Nat.le_of_ble_eq_true rfl), (Nat.le_of_ble_eq_true rfl)⟩ ⟨(Nat.le_of_ble_eq_true rfl), (Nat.le_of_ble_eq_true rfl)⟩ ?_
    refine n_X8_times136 x1 Y10 Z11 (L 137) (1 * 4 * x1.toInt.natAbs * x1.toInt.natAbs) (x1.toInt.natAbs) hiN hiL hZ11 (fun Y12 Z13 hZ13 => ?_)
    refine ev_aload_n (pc' := 215) (i := 0) dX8_layQuartic_214 rfl rfl rfl ?_
    refine ev_getR (pc' := 218) fo_X8_79 dX8_layQuartic_215 rfl hs_115 rfl rf_115_29 ?_
    refine ev_callS (pc' := 221) (rm' := rX8_begin) (av := [.ref 137]) (rest := []) co_X8_326 cs_X8_begin dX8_layQuartic_218 rfl rfl rfl (Nat.le_of_ble_eq_true rfl) ⟨(Nat.le_of_ble_eq_true rfl), (Nat.le_of_ble_eq_true rfl)⟩ ⟨(Nat.le_of_ble_eq_true rfl), (Nat.le_of_ble_eq_true rfl)⟩ ?_
    refine n_X8_begin137 Y12 Z13 (L 137) (fun Z14 hZ14 => ?_)
    refine ev_aload_n (pc' := 222) (i := 0) dX8_layQuartic_221 rfl rfl rfl ?_
    refine ev_aload_n (pc' := 223) (i := 0) dX8_layQuartic_222 rfl rfl rfl ?_
    refine ev_getR (pc' := 226) fo_X8_79 dX8_layQuartic_223 rfl hs_115 rfl rf_115_29 ?_
    refine ev_lload (pc' := 228) dX8_layQuartic_226 rfl rfl ?_
    refine ev_callS (pc' := 231) (rm' := rX8_size) (av := [.long x2]) (rest := [.ref 137, .ref 115]) co_X8_122 cs_X8_size dX8_layQuartic_228 rfl rfl rfl (Nat.le_of_ble_eq_true rfl) ⟨(Nat.le_of_ble_eq_true rfl), (Nat.le_of_ble_eq_true rfl)⟩ ⟨(Nat.le_of_ble_eq_true rfl), (Nat.le_of_ble_eq_true rfl)⟩ ?_
    refine t_X8_size x2  ?_
    refine ev_callV (pc' := 234) (rm' := rX8_times) (b := 115) (av := [.ref 137, .long (mAb x2)]) (rest := []) co_X8_330 ci_X8_times cv_X8_times dX8_layQuartic_231 rfl hs_115 hb_X8 rfl rfl (Nat.le_of_ble_eq_true rfl) ⟨(Nat.le_of_ble_eq_true rfl), (Nat.le_of_ble_eq_true rfl)⟩ ⟨(Nat.le_of_ble_eq_true rfl), (Nat.le_of_ble_eq_true rfl)⟩ ?_
    refine n_X8_times137 (mAb x2) Y12 Z13 Z14 (1) (x2.toInt.natAbs) (mAb_nat hj) hjL hZ14 (fun Y15 Z16 hZ16 => ?_)
    refine ev_aload_n (pc' := 235) (i := 0) dX8_layQuartic_234 rfl rfl rfl ?_
    refine ev_aload_n (pc' := 236) (i := 0) dX8_layQuartic_235 rfl rfl rfl ?_
    refine ev_getR (pc' := 239) fo_X8_79 dX8_layQuartic_236 rfl hs_115 rfl rf_115_29 ?_
    refine ev_lload (pc' := 241) dX8_layQuartic_239 rfl rfl ?_
    refine ev_callS (pc' := 244) (rm' := rX8_size) (av := [.long x2]) (rest := [.ref 137, .ref 115]) co_X8_122 cs_X8_size dX8_layQuartic_241 rfl rfl rfl (Nat.le_of_ble_eq_true rfl) ⟨(Nat.le_of_ble_eq_true rfl), (Nat.le_of_ble_eq_true rfl)⟩ ⟨(Nat.le_of_ble_eq_true rfl), (Nat.le_of_ble_eq_true rfl)⟩ ?_
    refine t_X8_size x2  ?_
    refine ev_callV (pc' := 247) (rm' := rX8_times) (b := 115) (av := [.ref 137, .long (mAb x2)]) (rest := []) co_X8_330 ci_X8_times cv_X8_times dX8_layQuartic_244 rfl hs_115 hb_X8 rfl rfl (Nat.le_of_ble_eq_true rfl) ⟨(Nat.le_of_ble_eq_true rfl), (Nat.le_of_ble_eq_true rfl)⟩ ⟨(Nat.le_of_ble_eq_true rfl), (Nat.le_of_ble_eq_true rfl)⟩ ?_
    refine n_X8_times137 (mAb x2) Y15 Z13 Z16 (1 * x2.toInt.natAbs) (x2.toInt.natAbs) (mAb_nat hj) hjL hZ16 (fun Y17 Z18 hZ18 => ?_)
    refine ev_aload_n (pc' := 248) (i := 0) dX8_layQuartic_247 rfl rfl rfl ?_
    refine ev_callV (pc' := 251) (rm' := rX8_compare) (b := 115) (av := []) (rest := []) co_X8_334 ci_X8_compare cv_X8_compare dX8_layQuartic_248 rfl hs_115 hb_X8 rfl rfl (Nat.le_of_ble_eq_true rfl) ⟨(Nat.le_of_ble_eq_true rfl), (Nat.le_of_ble_eq_true rfl)⟩ ⟨(Nat.le_of_ble_eq_true rfl), (Nat.le_of_ble_eq_true rfl)⟩ ?_
    refine n_X8_compare (1 * 4 * x1.toInt.natAbs * x1.toInt.natAbs * x1.toInt.natAbs) (1 * x2.toInt.natAbs * x2.toInt.natAbs) (bg_3 (by omega) (by assumption) (by assumption) (by assumption)) (bg_2 (by assumption) (by assumption)) hZ13 hZ18 (fun q19 => ?_) (fun q19 => ?_) (fun q19 => ?_)
    · skip
      refine ev_istore (pc' := 253) (lv' := [some (.ref 115), some (.long ((L 142) 0)), none, some (.long ((L 142) 1)), none, some (.long ((L 142) 2)), none, some (.long ((L 142) 3)), none, some (.long ((L 142) 4)), none, some (.long x1), none, some (.long x2), none, some (.long x3), none, some (.int (-1))]) dX8_layQuartic_251 rfl (Nat.le_of_ble_eq_true rfl) rfl rfl ?_
      refine ev_aload_n (pc' := 254) (i := 0) dX8_layQuartic_253 rfl rfl rfl ?_
      refine ev_iload (pc' := 256) dX8_layQuartic_254 rfl rfl ?_
      refine ev_if_ne (tgt := 263) (pc' := 259) dX8_layQuartic_256 rfl rfl (fun _ => ?_) (fun h => absurd h (by decide))
      refine ev_iconst (pc' := 264) (v := 0) dX8_layQuartic_263 rfl ki_0 ?_
      refine ev_putI (pc' := 267) (I' := (ma_up I 115 (ma_up (I 115) 39 0))) fo_X8_295 dX8_layQuartic_264 rfl hs_115 rfl (fun r hr => by cases hr; rfl) ⟨rfl, rfl⟩ rfl ?_
      refine ev_iload (pc' := 269) dX8_layQuartic_267 rfl rfl ?_
      refine ev_if_ge (tgt := 280) (pc' := 272) dX8_layQuartic_269 rfl rfl (fun h => absurd h (by decide)) (fun _ => ?_)
      refine ev_aload_n (pc' := 273) (i := 0) dX8_layQuartic_272 rfl rfl rfl ?_
      refine ev_iconst (pc' := 274) (v := 2) dX8_layQuartic_273 rfl ki_2 ?_
      refine ev_putI (pc' := 277) (I' := (ma_up I 115 (ma_up (ma_up (I 115) 39 0) 38 2))) fo_X8_298 dX8_layQuartic_274 rfl hs_115 rfl (fun r hr => by cases hr; rfl) ⟨rfl, rfl⟩ (ma_up_up _ _ _ _) ?_
      refine ev_goto (tgt := 412) dX8_layQuartic_277 rfl ?_
      refine ev_vret dX8_layQuartic_412 rfl ⟨Nat.le_refl _, Nat.le_refl _⟩ ?_
      have er : mQr x1 x2 x3 (L 142 0) = (2, 0) := by
        unfold mQr
        rw [if_pos hin]
        have q1 := q19
        rw [Nat.one_mul, Nat.one_mul] at q1
        rw [if_pos q1]
      rw [e1, e2, e3] at er
      exact k _ _ _ _ _ er.symm
    · skip
      refine ev_istore (pc' := 253) (lv' := [some (.ref 115), some (.long ((L 142) 0)), none, some (.long ((L 142) 1)), none, some (.long ((L 142) 2)), none, some (.long ((L 142) 3)), none, some (.long ((L 142) 4)), none, some (.long x1), none, some (.long x2), none, some (.long x3), none, some (.int 0)]) dX8_layQuartic_251 rfl (Nat.le_of_ble_eq_true rfl) rfl rfl ?_
      refine ev_aload_n (pc' := 254) (i := 0) dX8_layQuartic_253 rfl rfl rfl ?_
      refine ev_iload (pc' := 256) dX8_layQuartic_254 rfl rfl ?_
      refine ev_if_ne (tgt := 263) (pc' := 259) dX8_layQuartic_256 rfl rfl (fun h => absurd (by decide) h) (fun _ => ?_)
      refine ev_iconst (pc' := 260) (v := 1) dX8_layQuartic_259 rfl ki_1 ?_
      refine ev_goto (tgt := 264) dX8_layQuartic_260 rfl ?_
      refine ev_putI (pc' := 267) (I' := (ma_up I 115 (ma_up (I 115) 39 1))) fo_X8_295 dX8_layQuartic_264 rfl hs_115 rfl (fun r hr => by cases hr; rfl) ⟨rfl, rfl⟩ rfl ?_
      refine ev_iload (pc' := 269) dX8_layQuartic_267 rfl rfl ?_
      refine ev_if_ge (tgt := 280) (pc' := 272) dX8_layQuartic_269 rfl rfl (fun _ => ?_) (fun h => absurd (by decide) h)
      refine ev_iload (pc' := 282) dX8_layQuartic_280 rfl rfl ?_
      refine ev_if_ne (tgt := 304) (pc' := 285) dX8_layQuartic_282 rfl rfl (fun h => absurd (by decide) h) (fun _ => ?_)
      refine ev_aload_n (pc' := 286) (i := 0) dX8_layQuartic_285 rfl rfl rfl ?_
      refine ev_lload (pc' := 288) dX8_layQuartic_286 rfl rfl ?_
      refine ev_lconst (pc' := 289) (v := 0) dX8_layQuartic_288 rfl kl_0 ?_
      refine ev_lc_ge (p1 := 290) (tgt := 297) (pc' := 293) dX8_layQuartic_289 rfl dX8_layQuartic_290 rfl rfl (fun c20 => ?_) (fun c20 => ?_)
      · refine ev_iconst (pc' := 298) (v := 0) dX8_layQuartic_297 rfl ki_0 ?_
        refine ev_putI (pc' := 301) (I' := (ma_up I 115 (ma_up (ma_up (I 115) 39 1) 38 0))) fo_X8_298 dX8_layQuartic_298 rfl hs_115 rfl (fun r hr => by cases hr; rfl) ⟨rfl, rfl⟩ (ma_up_up _ _ _ _) ?_
        refine ev_goto (tgt := 412) dX8_layQuartic_301 rfl ?_
        refine ev_vret dX8_layQuartic_412 rfl ⟨Nat.le_refl _, Nat.le_refl _⟩ ?_
        have er : mQr x1 x2 x3 (L 142 0) = (0, 1) := by
          unfold mQr
          rw [if_pos hin]
          have q1 := q19
          rw [Nat.one_mul, Nat.one_mul] at q1
          rw [if_neg (by omega), if_pos q1]
          have q2 := c20
          rw [← Int64.not_lt] at q2
          rw [if_neg q2]
        rw [e1, e2, e3] at er
        exact k _ _ _ _ _ er.symm
      · refine ev_iconst (pc' := 294) (v := 2) dX8_layQuartic_293 rfl ki_2 ?_
        refine ev_goto (tgt := 298) dX8_layQuartic_294 rfl ?_
        refine ev_putI (pc' := 301) (I' := (ma_up I 115 (ma_up (ma_up (I 115) 39 1) 38 2))) fo_X8_298 dX8_layQuartic_298 rfl hs_115 rfl (fun r hr => by cases hr; rfl) ⟨rfl, rfl⟩ (ma_up_up _ _ _ _) ?_
        refine ev_goto (tgt := 412) dX8_layQuartic_301 rfl ?_
        refine ev_vret dX8_layQuartic_412 rfl ⟨Nat.le_refl _, Nat.le_refl _⟩ ?_
        have er : mQr x1 x2 x3 (L 142 0) = (2, 1) := by
          unfold mQr
          rw [if_pos hin]
          have q1 := q19
          rw [Nat.one_mul, Nat.one_mul] at q1
          rw [if_neg (by omega), if_pos q1]
          have q2 := c20
          rw [Int64.not_le] at q2
          rw [if_pos q2]
        rw [e1, e2, e3] at er
        exact k _ _ _ _ _ er.symm
    · skip
      refine ev_istore (pc' := 253) (lv' := [some (.ref 115), some (.long ((L 142) 0)), none, some (.long ((L 142) 1)), none, some (.long ((L 142) 2)), none, some (.long ((L 142) 3)), none, some (.long ((L 142) 4)), none, some (.long x1), none, some (.long x2), none, some (.long x3), none, some (.int 1)]) dX8_layQuartic_251 rfl (Nat.le_of_ble_eq_true rfl) rfl rfl ?_
      refine ev_aload_n (pc' := 254) (i := 0) dX8_layQuartic_253 rfl rfl rfl ?_
      refine ev_iload (pc' := 256) dX8_layQuartic_254 rfl rfl ?_
      refine ev_if_ne (tgt := 263) (pc' := 259) dX8_layQuartic_256 rfl rfl (fun _ => ?_) (fun h => absurd h (by decide))
      refine ev_iconst (pc' := 264) (v := 0) dX8_layQuartic_263 rfl ki_0 ?_
      refine ev_putI (pc' := 267) (I' := (ma_up I 115 (ma_up (I 115) 39 0))) fo_X8_295 dX8_layQuartic_264 rfl hs_115 rfl (fun r hr => by cases hr; rfl) ⟨rfl, rfl⟩ rfl ?_
      refine ev_iload (pc' := 269) dX8_layQuartic_267 rfl rfl ?_
      refine ev_if_ge (tgt := 280) (pc' := 272) dX8_layQuartic_269 rfl rfl (fun _ => ?_) (fun h => absurd (by decide) h)
      refine ev_iload (pc' := 282) dX8_layQuartic_280 rfl rfl ?_
      refine ev_if_ne (tgt := 304) (pc' := 285) dX8_layQuartic_282 rfl rfl (fun _ => ?_) (fun h => absurd h (by decide))
      refine ev_aload_n (pc' := 305) (i := 0) dX8_layQuartic_304 rfl rfl rfl ?_
      refine ev_getR (pc' := 308) fo_X8_76 dX8_layQuartic_305 rfl hs_115 rfl rf_115_28 ?_
      refine ev_callS (pc' := 311) (rm' := rX8_begin) (av := [.ref 136]) (rest := []) co_X8_326 cs_X8_begin dX8_layQuartic_308 rfl rfl rfl (Nat.le_of_ble_eq_true rfl) ⟨(Nat.le_of_ble_eq_true rfl), (Nat.le_of_ble_eq_true rfl)⟩ ⟨(Nat.le_of_ble_eq_true rfl), (Nat.le_of_ble_eq_true rfl)⟩ ?_
      refine n_X8_begin136 Y17 Z13 Z18 (fun Z21 hZ21 => ?_)
      refine ev_aload_n (pc' := 312) (i := 0) dX8_layQuartic_311 rfl rfl rfl ?_
      refine ev_aload_n (pc' := 313) (i := 0) dX8_layQuartic_312 rfl rfl rfl ?_
      refine ev_getR (pc' := 316) fo_X8_76 dX8_layQuartic_313 rfl hs_115 rfl rf_115_28 ?_
      refine ev_lload (pc' := 318) dX8_layQuartic_316 rfl rfl ?_
      refine ev_callS (pc' := 321) (rm' := rX8_size) (av := [.long x3]) (rest := [.ref 136, .ref 115]) co_X8_122 cs_X8_size dX8_layQuartic_318 rfl rfl rfl (Nat.le_of_ble_eq_true rfl) ⟨(Nat.le_of_ble_eq_true rfl), (Nat.le_of_ble_eq_true rfl)⟩ ⟨(Nat.le_of_ble_eq_true rfl), (Nat.le_of_ble_eq_true rfl)⟩ ?_
      refine t_X8_size x3  ?_
      refine ev_callV (pc' := 324) (rm' := rX8_times) (b := 115) (av := [.ref 136, .long (mAb x3)]) (rest := []) co_X8_330 ci_X8_times cv_X8_times dX8_layQuartic_321 rfl hs_115 hb_X8 rfl rfl (Nat.le_of_ble_eq_true rfl) ⟨(Nat.le_of_ble_eq_true rfl), (Nat.le_of_ble_eq_true rfl)⟩ ⟨(Nat.le_of_ble_eq_true rfl), (Nat.le_of_ble_eq_true rfl)⟩ ?_
      refine n_X8_times136 (mAb x3) Y17 Z21 Z18 (1) (x3.toInt.natAbs) (mAb_nat hp) hpL hZ21 (fun Y22 Z23 hZ23 => ?_)
      refine ev_aload_n (pc' := 325) (i := 0) dX8_layQuartic_324 rfl rfl rfl ?_
      refine ev_aload_n (pc' := 326) (i := 0) dX8_layQuartic_325 rfl rfl rfl ?_
      refine ev_getR (pc' := 329) fo_X8_76 dX8_layQuartic_326 rfl hs_115 rfl rf_115_28 ?_
      refine ev_lload (pc' := 331) dX8_layQuartic_329 rfl rfl ?_
      refine ev_callS (pc' := 334) (rm' := rX8_size) (av := [.long x3]) (rest := [.ref 136, .ref 115]) co_X8_122 cs_X8_size dX8_layQuartic_331 rfl rfl rfl (Nat.le_of_ble_eq_true rfl) ⟨(Nat.le_of_ble_eq_true rfl), (Nat.le_of_ble_eq_true rfl)⟩ ⟨(Nat.le_of_ble_eq_true rfl), (Nat.le_of_ble_eq_true rfl)⟩ ?_
      refine t_X8_size x3  ?_
      refine ev_callV (pc' := 337) (rm' := rX8_times) (b := 115) (av := [.ref 136, .long (mAb x3)]) (rest := []) co_X8_330 ci_X8_times cv_X8_times dX8_layQuartic_334 rfl hs_115 hb_X8 rfl rfl (Nat.le_of_ble_eq_true rfl) ⟨(Nat.le_of_ble_eq_true rfl), (Nat.le_of_ble_eq_true rfl)⟩ ⟨(Nat.le_of_ble_eq_true rfl), (Nat.le_of_ble_eq_true rfl)⟩ ?_
      refine n_X8_times136 (mAb x3) Y22 Z23 Z18 (1 * x3.toInt.natAbs) (x3.toInt.natAbs) (mAb_nat hp) hpL hZ23 (fun Y24 Z25 hZ25 => ?_)
      refine ev_aload_n (pc' := 338) (i := 0) dX8_layQuartic_337 rfl rfl rfl ?_
      refine ev_getR (pc' := 341) fo_X8_79 dX8_layQuartic_338 rfl hs_115 rfl rf_115_29 ?_
      refine ev_callS (pc' := 344) (rm' := rX8_begin) (av := [.ref 137]) (rest := []) co_X8_326 cs_X8_begin dX8_layQuartic_341 rfl rfl rfl (Nat.le_of_ble_eq_true rfl) ⟨(Nat.le_of_ble_eq_true rfl), (Nat.le_of_ble_eq_true rfl)⟩ ⟨(Nat.le_of_ble_eq_true rfl), (Nat.le_of_ble_eq_true rfl)⟩ ?_
      refine n_X8_begin137 Y24 Z25 Z18 (fun Z26 hZ26 => ?_)
      refine ev_aload_n (pc' := 345) (i := 0) dX8_layQuartic_344 rfl rfl rfl ?_
      refine ev_aload_n (pc' := 346) (i := 0) dX8_layQuartic_345 rfl rfl rfl ?_
      refine ev_getR (pc' := 349) fo_X8_79 dX8_layQuartic_346 rfl hs_115 rfl rf_115_29 ?_
      refine ev_ldc2 (pc' := 352) cl_X8_338 dX8_layQuartic_349 rfl ?_
      refine ev_callV (pc' := 355) (rm' := rX8_times) (b := 115) (av := [.ref 137, .long 16]) (rest := []) co_X8_330 ci_X8_times cv_X8_times dX8_layQuartic_352 rfl hs_115 hb_X8 rfl rfl (Nat.le_of_ble_eq_true rfl) ⟨(Nat.le_of_ble_eq_true rfl), (Nat.le_of_ble_eq_true rfl)⟩ ⟨(Nat.le_of_ble_eq_true rfl), (Nat.le_of_ble_eq_true rfl)⟩ ?_
      refine n_X8_times137 16 Y24 Z25 Z26 (1) (16) rfl (by omega) hZ26 (fun Y27 Z28 hZ28 => ?_)
      refine ev_aload_n (pc' := 356) (i := 0) dX8_layQuartic_355 rfl rfl rfl ?_
      refine ev_aload_n (pc' := 357) (i := 0) dX8_layQuartic_356 rfl rfl rfl ?_
      refine ev_getR (pc' := 360) fo_X8_79 dX8_layQuartic_357 rfl hs_115 rfl rf_115_29 ?_
      refine ev_lload_n (pc' := 361) (i := 1) dX8_layQuartic_360 rfl rfl rfl ?_
      refine ev_callS (pc' := 364) (rm' := rX8_size) (av := [.long ((L 142) 0)]) (rest := [.ref 137, .ref 115]) co_X8_122 cs_X8_size dX8_layQuartic_361 rfl rfl rfl (Nat.le_of_ble_eq_true rfl) ⟨(Nat.le_of_ble_eq_true rfl), (Nat.le_of_ble_eq_true rfl)⟩ ⟨(Nat.le_of_ble_eq_true rfl), (Nat.le_of_ble_eq_true rfl)⟩ ?_
      refine t_X8_size ((L 142) 0)  ?_
      refine ev_callV (pc' := 367) (rm' := rX8_times) (b := 115) (av := [.ref 137, .long (mAb ((L 142) 0))]) (rest := []) co_X8_330 ci_X8_times cv_X8_times dX8_layQuartic_364 rfl hs_115 hb_X8 rfl rfl (Nat.le_of_ble_eq_true rfl) ⟨(Nat.le_of_ble_eq_true rfl), (Nat.le_of_ble_eq_true rfl)⟩ ⟨(Nat.le_of_ble_eq_true rfl), (Nat.le_of_ble_eq_true rfl)⟩ ?_
      refine n_X8_times137 (mAb ((L 142) 0)) Y27 Z25 Z28 (1 * 16) ((L 142 0).toInt.natAbs) (mAb_nat ha) haL hZ28 (fun Y29 Z30 hZ30 => ?_)
      refine ev_aload_n (pc' := 368) (i := 0) dX8_layQuartic_367 rfl rfl rfl ?_
      refine ev_aload_n (pc' := 369) (i := 0) dX8_layQuartic_368 rfl rfl rfl ?_
      refine ev_getR (pc' := 372) fo_X8_79 dX8_layQuartic_369 rfl hs_115 rfl rf_115_29 ?_
      refine ev_lload_n (pc' := 373) (i := 1) dX8_layQuartic_372 rfl rfl rfl ?_
      refine ev_callS (pc' := 376) (rm' := rX8_size) (av := [.long ((L 142) 0)]) (rest := [.ref 137, .ref 115]) co_X8_122 cs_X8_size dX8_layQuartic_373 rfl rfl rfl (Nat.le_of_ble_eq_true rfl) ⟨(Nat.le_of_ble_eq_true rfl), (Nat.le_of_ble_eq_true rfl)⟩ ⟨(Nat.le_of_ble_eq_true rfl), (Nat.le_of_ble_eq_true rfl)⟩ ?_
      refine t_X8_size ((L 142) 0)  ?_
      refine ev_callV (pc' := 379) (rm' := rX8_times) (b := 115) (av := [.ref 137, .long (mAb ((L 142) 0))]) (rest := []) co_X8_330 ci_X8_times cv_X8_times dX8_layQuartic_376 rfl hs_115 hb_X8 rfl rfl (Nat.le_of_ble_eq_true rfl) ⟨(Nat.le_of_ble_eq_true rfl), (Nat.le_of_ble_eq_true rfl)⟩ ⟨(Nat.le_of_ble_eq_true rfl), (Nat.le_of_ble_eq_true rfl)⟩ ?_
      refine n_X8_times137 (mAb ((L 142) 0)) Y29 Z25 Z30 (1 * 16 * (L 142 0).toInt.natAbs) ((L 142 0).toInt.natAbs) (mAb_nat ha) haL hZ30 (fun Y31 Z32 hZ32 => ?_)
      refine ev_aload_n (pc' := 380) (i := 0) dX8_layQuartic_379 rfl rfl rfl ?_
      refine ev_aload_n (pc' := 381) (i := 0) dX8_layQuartic_380 rfl rfl rfl ?_
      refine ev_getR (pc' := 384) fo_X8_79 dX8_layQuartic_381 rfl hs_115 rfl rf_115_29 ?_
      refine ev_lload (pc' := 386) dX8_layQuartic_384 rfl rfl ?_
      refine ev_callV (pc' := 389) (rm' := rX8_times) (b := 115) (av := [.ref 137, .long x1]) (rest := []) co_X8_330 ci_X8_times cv_X8_times dX8_layQuartic_386 rfl hs_115 hb_X8 rfl rfl (Nat.le_of_ble_eq_true rfl) ⟨(Nat.le_of_ble_eq_true rfl), (Nat.le_of_ble_eq_true rfl)⟩ ⟨(Nat.le_of_ble_eq_true rfl), (Nat.le_of_ble_eq_true rfl)⟩ ?_
      refine n_X8_times137 x1 Y31 Z25 Z32 (1 * 16 * (L 142 0).toInt.natAbs * (L 142 0).toInt.natAbs) (x1.toInt.natAbs) hiN hiL hZ32 (fun Y33 Z34 hZ34 => ?_)
      refine ev_aload_n (pc' := 390) (i := 0) dX8_layQuartic_389 rfl rfl rfl ?_
      refine ev_lload (pc' := 392) dX8_layQuartic_390 rfl rfl ?_
      refine ev_lconst (pc' := 393) (v := 0) dX8_layQuartic_392 rfl kl_0 ?_
      refine ev_lc_ge (p1 := 394) (tgt := 408) (pc' := 397) dX8_layQuartic_393 rfl dX8_layQuartic_394 rfl rfl (fun c35 => ?_) (fun c35 => ?_)
      · refine ev_iconst (pc' := 409) (v := 0) dX8_layQuartic_408 rfl ki_0 ?_
        refine ev_putI (pc' := 412) (I' := (ma_up I 115 (ma_up (ma_up (I 115) 39 0) 38 0))) fo_X8_298 dX8_layQuartic_409 rfl hs_115 rfl (fun r hr => by cases hr; rfl) ⟨rfl, rfl⟩ (ma_up_up _ _ _ _) ?_
        refine ev_vret dX8_layQuartic_412 rfl ⟨Nat.le_refl _, Nat.le_refl _⟩ ?_
        have er : mQr x1 x2 x3 (L 142 0) = (0, 0) := by
          unfold mQr
          rw [if_pos hin]
          have q1 := q19
          rw [Nat.one_mul, Nat.one_mul] at q1
          rw [if_neg (by omega), if_neg (by omega)]
          have q2 := c35
          rw [← Int64.not_lt] at q2
          rw [if_neg (fun z => q2 z.1)]
        rw [e1, e2, e3] at er
        exact k _ _ _ _ _ er.symm
      · refine ev_aload_n (pc' := 398) (i := 0) dX8_layQuartic_397 rfl rfl rfl ?_
        refine ev_callV (pc' := 401) (rm' := rX8_compare) (b := 115) (av := []) (rest := [.ref 115]) co_X8_334 ci_X8_compare cv_X8_compare dX8_layQuartic_398 rfl hs_115 hb_X8 rfl rfl (Nat.le_of_ble_eq_true rfl) ⟨(Nat.le_of_ble_eq_true rfl), (Nat.le_of_ble_eq_true rfl)⟩ ⟨(Nat.le_of_ble_eq_true rfl), (Nat.le_of_ble_eq_true rfl)⟩ ?_
        refine n_X8_compare (1 * x3.toInt.natAbs * x3.toInt.natAbs) (1 * 16 * (L 142 0).toInt.natAbs * (L 142 0).toInt.natAbs * x1.toInt.natAbs) (bg_2 (by assumption) (by assumption)) (bg_3 (by omega) (by assumption) (by assumption) (by assumption)) hZ25 hZ34 (fun q36 => ?_) (fun q36 => ?_) (fun q36 => ?_)
        · skip
          refine ev_if_le (tgt := 408) (pc' := 404) dX8_layQuartic_401 rfl rfl (fun _ => ?_) (fun h => absurd (by decide) h)
          refine ev_iconst (pc' := 409) (v := 0) dX8_layQuartic_408 rfl ki_0 ?_
          refine ev_putI (pc' := 412) (I' := (ma_up I 115 (ma_up (ma_up (I 115) 39 0) 38 0))) fo_X8_298 dX8_layQuartic_409 rfl hs_115 rfl (fun r hr => by cases hr; rfl) ⟨rfl, rfl⟩ (ma_up_up _ _ _ _) ?_
          refine ev_vret dX8_layQuartic_412 rfl ⟨Nat.le_refl _, Nat.le_refl _⟩ ?_
          have er : mQr x1 x2 x3 (L 142 0) = (0, 0) := by
            unfold mQr
            rw [if_pos hin]
            have q1 := q19
            rw [Nat.one_mul, Nat.one_mul] at q1
            rw [if_neg (by omega), if_neg (by omega)]
            have q2 := c35
            rw [Int64.not_le] at q2
            have q3 := q36
            rw [Nat.one_mul, Nat.one_mul] at q3
            rw [if_neg (fun z => by have := z.2; omega)]
          rw [e1, e2, e3] at er
          exact k _ _ _ _ _ er.symm
        · skip
          refine ev_if_le (tgt := 408) (pc' := 404) dX8_layQuartic_401 rfl rfl (fun _ => ?_) (fun h => absurd (by decide) h)
          refine ev_iconst (pc' := 409) (v := 0) dX8_layQuartic_408 rfl ki_0 ?_
          refine ev_putI (pc' := 412) (I' := (ma_up I 115 (ma_up (ma_up (I 115) 39 0) 38 0))) fo_X8_298 dX8_layQuartic_409 rfl hs_115 rfl (fun r hr => by cases hr; rfl) ⟨rfl, rfl⟩ (ma_up_up _ _ _ _) ?_
          refine ev_vret dX8_layQuartic_412 rfl ⟨Nat.le_refl _, Nat.le_refl _⟩ ?_
          have er : mQr x1 x2 x3 (L 142 0) = (0, 0) := by
            unfold mQr
            rw [if_pos hin]
            have q1 := q19
            rw [Nat.one_mul, Nat.one_mul] at q1
            rw [if_neg (by omega), if_neg (by omega)]
            have q2 := c35
            rw [Int64.not_le] at q2
            have q3 := q36
            rw [Nat.one_mul, Nat.one_mul] at q3
            rw [if_neg (fun z => by have := z.2; omega)]
          rw [e1, e2, e3] at er
          exact k _ _ _ _ _ er.symm
        · skip
          refine ev_if_le (tgt := 408) (pc' := 404) dX8_layQuartic_401 rfl rfl (fun h => absurd h (by decide)) (fun _ => ?_)
          refine ev_iconst (pc' := 405) (v := 4) dX8_layQuartic_404 rfl ki_4 ?_
          refine ev_goto (tgt := 409) dX8_layQuartic_405 rfl ?_
          refine ev_putI (pc' := 412) (I' := (ma_up I 115 (ma_up (ma_up (I 115) 39 0) 38 4))) fo_X8_298 dX8_layQuartic_409 rfl hs_115 rfl (fun r hr => by cases hr; rfl) ⟨rfl, rfl⟩ (ma_up_up _ _ _ _) ?_
          refine ev_vret dX8_layQuartic_412 rfl ⟨Nat.le_refl _, Nat.le_refl _⟩ ?_
          have er : mQr x1 x2 x3 (L 142 0) = (4, 0) := by
            unfold mQr
            rw [if_pos hin]
            have q1 := q19
            rw [Nat.one_mul, Nat.one_mul] at q1
            rw [if_neg (by omega), if_neg (by omega)]
            have q2 := c35
            rw [Int64.not_le] at q2
            have q3 := q36
            rw [Nat.one_mul, Nat.one_mul] at q3
            rw [if_pos ⟨q2, q3⟩]
          rw [e1, e2, e3] at er
          exact k _ _ _ _ _ er.symm
  · refine ev_lload (pc' := 154) dX8_layQuartic_152 rfl rfl ?_
    refine ev_lconst (pc' := 155) (v := 0) dX8_layQuartic_154 rfl kl_0 ?_
    refine ev_lc_ne (p1 := 156) (tgt := 253) (pc' := 159) dX8_layQuartic_155 rfl dX8_layQuartic_156 rfl rfl (fun c37 => ?_) (fun c37 => ?_)
    · refine ev_aload_n (pc' := 254) (i := 0) dX8_layQuartic_253 rfl rfl rfl ?_
      refine ev_iload (pc' := 256) dX8_layQuartic_254 rfl rfl ?_
      refine ev_if_ne (tgt := 263) (pc' := 259) dX8_layQuartic_256 rfl rfl (fun _ => ?_) (fun h => absurd h (by decide))
      refine ev_iconst (pc' := 264) (v := 0) dX8_layQuartic_263 rfl ki_0 ?_
      refine ev_putI (pc' := 267) (I' := (ma_up I 115 (ma_up (I 115) 39 0))) fo_X8_295 dX8_layQuartic_264 rfl hs_115 rfl (fun r hr => by cases hr; rfl) ⟨rfl, rfl⟩ rfl ?_
      refine ev_iload (pc' := 269) dX8_layQuartic_267 rfl rfl ?_
      refine ev_if_ge (tgt := 280) (pc' := 272) dX8_layQuartic_269 rfl rfl (fun h => absurd h (by decide)) (fun _ => ?_)
      refine ev_aload_n (pc' := 273) (i := 0) dX8_layQuartic_272 rfl rfl rfl ?_
      refine ev_iconst (pc' := 274) (v := 2) dX8_layQuartic_273 rfl ki_2 ?_
      refine ev_putI (pc' := 277) (I' := (ma_up I 115 (ma_up (ma_up (I 115) 39 0) 38 2))) fo_X8_298 dX8_layQuartic_274 rfl hs_115 rfl (fun r hr => by cases hr; rfl) ⟨rfl, rfl⟩ (ma_up_up _ _ _ _) ?_
      refine ev_goto (tgt := 412) dX8_layQuartic_277 rfl ?_
      refine ev_vret dX8_layQuartic_412 rfl ⟨Nat.le_refl _, Nat.le_refl _⟩ ?_
      have er : mQr x1 x2 x3 (L 142 0) = (2, 0) := by
        unfold mQr
        rw [if_neg (by rintro (q | ⟨q1, q2⟩); (· contradiction); (· contradiction))]
      rw [e1, e2, e3] at er
      exact k _ _ _ _ _ er.symm
    · refine ev_lload (pc' := 161) dX8_layQuartic_159 rfl rfl ?_
      refine ev_lconst (pc' := 162) (v := 0) dX8_layQuartic_161 rfl kl_0 ?_
      refine ev_lc_ne (p1 := 163) (tgt := 253) (pc' := 166) dX8_layQuartic_162 rfl dX8_layQuartic_163 rfl rfl (fun c38 => ?_) (fun c38 => ?_)
      · refine ev_aload_n (pc' := 254) (i := 0) dX8_layQuartic_253 rfl rfl rfl ?_
        refine ev_iload (pc' := 256) dX8_layQuartic_254 rfl rfl ?_
        refine ev_if_ne (tgt := 263) (pc' := 259) dX8_layQuartic_256 rfl rfl (fun _ => ?_) (fun h => absurd h (by decide))
        refine ev_iconst (pc' := 264) (v := 0) dX8_layQuartic_263 rfl ki_0 ?_
        refine ev_putI (pc' := 267) (I' := (ma_up I 115 (ma_up (I 115) 39 0))) fo_X8_295 dX8_layQuartic_264 rfl hs_115 rfl (fun r hr => by cases hr; rfl) ⟨rfl, rfl⟩ rfl ?_
        refine ev_iload (pc' := 269) dX8_layQuartic_267 rfl rfl ?_
        refine ev_if_ge (tgt := 280) (pc' := 272) dX8_layQuartic_269 rfl rfl (fun h => absurd h (by decide)) (fun _ => ?_)
        refine ev_aload_n (pc' := 273) (i := 0) dX8_layQuartic_272 rfl rfl rfl ?_
        refine ev_iconst (pc' := 274) (v := 2) dX8_layQuartic_273 rfl ki_2 ?_
        refine ev_putI (pc' := 277) (I' := (ma_up I 115 (ma_up (ma_up (I 115) 39 0) 38 2))) fo_X8_298 dX8_layQuartic_274 rfl hs_115 rfl (fun r hr => by cases hr; rfl) ⟨rfl, rfl⟩ (ma_up_up _ _ _ _) ?_
        refine ev_goto (tgt := 412) dX8_layQuartic_277 rfl ?_
        refine ev_vret dX8_layQuartic_412 rfl ⟨Nat.le_refl _, Nat.le_refl _⟩ ?_
        have er : mQr x1 x2 x3 (L 142 0) = (2, 0) := by
          unfold mQr
          rw [if_neg (by rintro (q | ⟨q1, q2⟩); (· contradiction); (· contradiction))]
        rw [e1, e2, e3] at er
        exact k _ _ _ _ _ er.symm
      · have hin : 0 < x1 ∨ (x1 = 0 ∧ x2 = 0) := Or.inr ⟨c37, c38⟩
        have hi0 : 0 ≤ x1.toInt := by rcases hin with q | q; (· rw [nb_ltL, nb_0L] at q; omega); (· rw [q.1]; decide)
        have hiN : x1 = lN x1.toInt.natAbs := by have := nb_rngL x1; apply nb_eqL.mpr; rw [lN_toI (by omega)]; omega
        have hiL : x1.toInt.natAbs < 9223372036854775808 := by have := nb_rngL x1; omega
        have hjL : x2.toInt.natAbs < 9223372036854775808 := by have := nb_rngL x2; omega
        have hpL : x3.toInt.natAbs < 9223372036854775808 := by have := nb_rngL x3; omega
        have haL : (L 142 0).toInt.natAbs < 9223372036854775808 := by have := nb_rngL (L 142 0); omega
        refine ev_aload_n (pc' := 167) (i := 0) dX8_layQuartic_166 rfl rfl rfl ?_
        refine ev_getR (pc' := 170) fo_X8_76 dX8_layQuartic_167 rfl hs_115 rfl rf_115_28 ?_
        refine ev_callS (pc' := 173) (rm' := rX8_begin) (av := [.ref 136]) (rest := []) co_X8_326 cs_X8_begin dX8_layQuartic_170 rfl rfl rfl (Nat.le_of_ble_eq_true rfl) ⟨(Nat.le_of_ble_eq_true rfl), (Nat.le_of_ble_eq_true rfl)⟩ ⟨(Nat.le_of_ble_eq_true rfl), (Nat.le_of_ble_eq_true rfl)⟩ ?_
        refine n_X8_begin136 (L 138) (L 136) (L 137) (fun Z39 hZ39 => ?_)
        refine ev_aload_n (pc' := 174) (i := 0) dX8_layQuartic_173 rfl rfl rfl ?_
        refine ev_aload_n (pc' := 175) (i := 0) dX8_layQuartic_174 rfl rfl rfl ?_
        refine ev_getR (pc' := 178) fo_X8_76 dX8_layQuartic_175 rfl hs_115 rfl rf_115_28 ?_
        refine ev_ldc2 (pc' := 181) cl_X8_301 dX8_layQuartic_178 rfl ?_
        refine ev_callV (pc' := 184) (rm' := rX8_times) (b := 115) (av := [.ref 136, .long 4]) (rest := []) co_X8_330 ci_X8_times cv_X8_times dX8_layQuartic_181 rfl hs_115 hb_X8 rfl rfl (Nat.le_of_ble_eq_true rfl) ⟨(Nat.le_of_ble_eq_true rfl), (Nat.le_of_ble_eq_true rfl)⟩ ⟨(Nat.le_of_ble_eq_true rfl), (Nat.le_of_ble_eq_true rfl)⟩ ?_
        refine n_X8_times136 4 (L 138) Z39 (L 137) (1) (4) rfl (by omega) hZ39 (fun Y40 Z41 hZ41 => ?_)
        refine ev_aload_n (pc' := 185) (i := 0) dX8_layQuartic_184 rfl rfl rfl ?_
        refine ev_aload_n (pc' := 186) (i := 0) dX8_layQuartic_185 rfl rfl rfl ?_
        refine ev_getR (pc' := 189) fo_X8_76 dX8_layQuartic_186 rfl hs_115 rfl rf_115_28 ?_
        refine ev_lload (pc' := 191) dX8_layQuartic_189 rfl rfl ?_
        refine ev_callV (pc' := 194) (rm' := rX8_times) (b := 115) (av := [.ref 136, .long x1]) (rest := []) co_X8_330 ci_X8_times cv_X8_times dX8_layQuartic_191 rfl hs_115 hb_X8 rfl rfl (Nat.le_of_ble_eq_true rfl) ⟨(Nat.le_of_ble_eq_true rfl), (Nat.le_of_ble_eq_true rfl)⟩ ⟨(Nat.le_of_ble_eq_true rfl), (Nat.le_of_ble_eq_true rfl)⟩ ?_
        refine n_X8_times136 x1 Y40 Z41 (L 137) (1 * 4) (x1.toInt.natAbs) hiN hiL hZ41 (fun Y42 Z43 hZ43 => ?_)
        refine ev_aload_n (pc' := 195) (i := 0) dX8_layQuartic_194 rfl rfl rfl ?_
        refine ev_aload_n (pc' := 196) (i := 0) dX8_layQuartic_195 rfl rfl rfl ?_
        refine ev_getR (pc' := 199) fo_X8_76 dX8_layQuartic_196 rfl hs_115 rfl rf_115_28 ?_
        refine ev_lload (pc' := 201) dX8_layQuartic_199 rfl rfl ?_
        refine ev_callV (pc' := 204) (rm' := rX8_times) (b := 115) (av := [.ref 136, .long x1]) (rest := []) co_X8_330 ci_X8_times cv_X8_times dX8_layQuartic_201 rfl hs_115 hb_X8 rfl rfl (Nat.le_of_ble_eq_true rfl) ⟨(Nat.le_of_ble_eq_true rfl), (Nat.le_of_ble_eq_true rfl)⟩ ⟨(Nat.le_of_ble_eq_true rfl), (Nat.le_of_ble_eq_true rfl)⟩ ?_
        refine n_X8_times136 x1 Y42 Z43 (L 137) (1 * 4 * x1.toInt.natAbs) (x1.toInt.natAbs) hiN hiL hZ43 (fun Y44 Z45 hZ45 => ?_)
        refine ev_aload_n (pc' := 205) (i := 0) dX8_layQuartic_204 rfl rfl rfl ?_
        refine ev_aload_n (pc' := 206) (i := 0) dX8_layQuartic_205 rfl rfl rfl ?_
        refine ev_getR (pc' := 209) fo_X8_76 dX8_layQuartic_206 rfl hs_115 rfl rf_115_28 ?_
        refine ev_lload (pc' := 211) dX8_layQuartic_209 rfl rfl ?_
        refine ev_callV (pc' := 214) (rm' := rX8_times) (b := 115) (av := [.ref 136, .long x1]) (rest := []) co_X8_330 ci_X8_times cv_X8_times dX8_layQuartic_211 rfl hs_115 hb_X8 rfl rfl (Nat.le_of_ble_eq_true rfl) ⟨(Nat.le_of_ble_eq_true rfl), (Nat.le_of_ble_eq_true rfl)⟩ ⟨(Nat.le_of_ble_eq_true rfl), (Nat.le_of_ble_eq_true rfl)⟩ ?_
        refine n_X8_times136 x1 Y44 Z45 (L 137) (1 * 4 * x1.toInt.natAbs * x1.toInt.natAbs) (x1.toInt.natAbs) hiN hiL hZ45 (fun Y46 Z47 hZ47 => ?_)
        refine ev_aload_n (pc' := 215) (i := 0) dX8_layQuartic_214 rfl rfl rfl ?_
        refine ev_getR (pc' := 218) fo_X8_79 dX8_layQuartic_215 rfl hs_115 rfl rf_115_29 ?_
        refine ev_callS (pc' := 221) (rm' := rX8_begin) (av := [.ref 137]) (rest := []) co_X8_326 cs_X8_begin dX8_layQuartic_218 rfl rfl rfl (Nat.le_of_ble_eq_true rfl) ⟨(Nat.le_of_ble_eq_true rfl), (Nat.le_of_ble_eq_true rfl)⟩ ⟨(Nat.le_of_ble_eq_true rfl), (Nat.le_of_ble_eq_true rfl)⟩ ?_
        refine n_X8_begin137 Y46 Z47 (L 137) (fun Z48 hZ48 => ?_)
        refine ev_aload_n (pc' := 222) (i := 0) dX8_layQuartic_221 rfl rfl rfl ?_
        refine ev_aload_n (pc' := 223) (i := 0) dX8_layQuartic_222 rfl rfl rfl ?_
        refine ev_getR (pc' := 226) fo_X8_79 dX8_layQuartic_223 rfl hs_115 rfl rf_115_29 ?_
        refine ev_lload (pc' := 228) dX8_layQuartic_226 rfl rfl ?_
        refine ev_callS (pc' := 231) (rm' := rX8_size) (av := [.long x2]) (rest := [.ref 137, .ref 115]) co_X8_122 cs_X8_size dX8_layQuartic_228 rfl rfl rfl (Nat.le_of_ble_eq_true rfl) ⟨(Nat.le_of_ble_eq_true rfl), (Nat.le_of_ble_eq_true rfl)⟩ ⟨(Nat.le_of_ble_eq_true rfl), (Nat.le_of_ble_eq_true rfl)⟩ ?_
        refine t_X8_size x2  ?_
        refine ev_callV (pc' := 234) (rm' := rX8_times) (b := 115) (av := [.ref 137, .long (mAb x2)]) (rest := []) co_X8_330 ci_X8_times cv_X8_times dX8_layQuartic_231 rfl hs_115 hb_X8 rfl rfl (Nat.le_of_ble_eq_true rfl) ⟨(Nat.le_of_ble_eq_true rfl), (Nat.le_of_ble_eq_true rfl)⟩ ⟨(Nat.le_of_ble_eq_true rfl), (Nat.le_of_ble_eq_true rfl)⟩ ?_
        refine n_X8_times137 (mAb x2) Y46 Z47 Z48 (1) (x2.toInt.natAbs) (mAb_nat hj) hjL hZ48 (fun Y49 Z50 hZ50 => ?_)
        refine ev_aload_n (pc' := 235) (i := 0) dX8_layQuartic_234 rfl rfl rfl ?_
        refine ev_aload_n (pc' := 236) (i := 0) dX8_layQuartic_235 rfl rfl rfl ?_
        refine ev_getR (pc' := 239) fo_X8_79 dX8_layQuartic_236 rfl hs_115 rfl rf_115_29 ?_
        refine ev_lload (pc' := 241) dX8_layQuartic_239 rfl rfl ?_
        refine ev_callS (pc' := 244) (rm' := rX8_size) (av := [.long x2]) (rest := [.ref 137, .ref 115]) co_X8_122 cs_X8_size dX8_layQuartic_241 rfl rfl rfl (Nat.le_of_ble_eq_true rfl) ⟨(Nat.le_of_ble_eq_true rfl), (Nat.le_of_ble_eq_true rfl)⟩ ⟨(Nat.le_of_ble_eq_true rfl), (Nat.le_of_ble_eq_true rfl)⟩ ?_
        refine t_X8_size x2  ?_
        refine ev_callV (pc' := 247) (rm' := rX8_times) (b := 115) (av := [.ref 137, .long (mAb x2)]) (rest := []) co_X8_330 ci_X8_times cv_X8_times dX8_layQuartic_244 rfl hs_115 hb_X8 rfl rfl (Nat.le_of_ble_eq_true rfl) ⟨(Nat.le_of_ble_eq_true rfl), (Nat.le_of_ble_eq_true rfl)⟩ ⟨(Nat.le_of_ble_eq_true rfl), (Nat.le_of_ble_eq_true rfl)⟩ ?_
        refine n_X8_times137 (mAb x2) Y49 Z47 Z50 (1 * x2.toInt.natAbs) (x2.toInt.natAbs) (mAb_nat hj) hjL hZ50 (fun Y51 Z52 hZ52 => ?_)
        refine ev_aload_n (pc' := 248) (i := 0) dX8_layQuartic_247 rfl rfl rfl ?_
        refine ev_callV (pc' := 251) (rm' := rX8_compare) (b := 115) (av := []) (rest := []) co_X8_334 ci_X8_compare cv_X8_compare dX8_layQuartic_248 rfl hs_115 hb_X8 rfl rfl (Nat.le_of_ble_eq_true rfl) ⟨(Nat.le_of_ble_eq_true rfl), (Nat.le_of_ble_eq_true rfl)⟩ ⟨(Nat.le_of_ble_eq_true rfl), (Nat.le_of_ble_eq_true rfl)⟩ ?_
        refine n_X8_compare (1 * 4 * x1.toInt.natAbs * x1.toInt.natAbs * x1.toInt.natAbs) (1 * x2.toInt.natAbs * x2.toInt.natAbs) (bg_3 (by omega) (by assumption) (by assumption) (by assumption)) (bg_2 (by assumption) (by assumption)) hZ47 hZ52 (fun q53 => ?_) (fun q53 => ?_) (fun q53 => ?_)
        · skip
          refine ev_istore (pc' := 253) (lv' := [some (.ref 115), some (.long ((L 142) 0)), none, some (.long ((L 142) 1)), none, some (.long ((L 142) 2)), none, some (.long ((L 142) 3)), none, some (.long ((L 142) 4)), none, some (.long x1), none, some (.long x2), none, some (.long x3), none, some (.int (-1))]) dX8_layQuartic_251 rfl (Nat.le_of_ble_eq_true rfl) rfl rfl ?_
          refine ev_aload_n (pc' := 254) (i := 0) dX8_layQuartic_253 rfl rfl rfl ?_
          refine ev_iload (pc' := 256) dX8_layQuartic_254 rfl rfl ?_
          refine ev_if_ne (tgt := 263) (pc' := 259) dX8_layQuartic_256 rfl rfl (fun _ => ?_) (fun h => absurd h (by decide))
          refine ev_iconst (pc' := 264) (v := 0) dX8_layQuartic_263 rfl ki_0 ?_
          refine ev_putI (pc' := 267) (I' := (ma_up I 115 (ma_up (I 115) 39 0))) fo_X8_295 dX8_layQuartic_264 rfl hs_115 rfl (fun r hr => by cases hr; rfl) ⟨rfl, rfl⟩ rfl ?_
          refine ev_iload (pc' := 269) dX8_layQuartic_267 rfl rfl ?_
          refine ev_if_ge (tgt := 280) (pc' := 272) dX8_layQuartic_269 rfl rfl (fun h => absurd h (by decide)) (fun _ => ?_)
          refine ev_aload_n (pc' := 273) (i := 0) dX8_layQuartic_272 rfl rfl rfl ?_
          refine ev_iconst (pc' := 274) (v := 2) dX8_layQuartic_273 rfl ki_2 ?_
          refine ev_putI (pc' := 277) (I' := (ma_up I 115 (ma_up (ma_up (I 115) 39 0) 38 2))) fo_X8_298 dX8_layQuartic_274 rfl hs_115 rfl (fun r hr => by cases hr; rfl) ⟨rfl, rfl⟩ (ma_up_up _ _ _ _) ?_
          refine ev_goto (tgt := 412) dX8_layQuartic_277 rfl ?_
          refine ev_vret dX8_layQuartic_412 rfl ⟨Nat.le_refl _, Nat.le_refl _⟩ ?_
          have er : mQr x1 x2 x3 (L 142 0) = (2, 0) := by
            unfold mQr
            rw [if_pos hin]
            have q1 := q53
            rw [Nat.one_mul, Nat.one_mul] at q1
            rw [if_pos q1]
          rw [e1, e2, e3] at er
          exact k _ _ _ _ _ er.symm
        · skip
          refine ev_istore (pc' := 253) (lv' := [some (.ref 115), some (.long ((L 142) 0)), none, some (.long ((L 142) 1)), none, some (.long ((L 142) 2)), none, some (.long ((L 142) 3)), none, some (.long ((L 142) 4)), none, some (.long x1), none, some (.long x2), none, some (.long x3), none, some (.int 0)]) dX8_layQuartic_251 rfl (Nat.le_of_ble_eq_true rfl) rfl rfl ?_
          refine ev_aload_n (pc' := 254) (i := 0) dX8_layQuartic_253 rfl rfl rfl ?_
          refine ev_iload (pc' := 256) dX8_layQuartic_254 rfl rfl ?_
          refine ev_if_ne (tgt := 263) (pc' := 259) dX8_layQuartic_256 rfl rfl (fun h => absurd (by decide) h) (fun _ => ?_)
          refine ev_iconst (pc' := 260) (v := 1) dX8_layQuartic_259 rfl ki_1 ?_
          refine ev_goto (tgt := 264) dX8_layQuartic_260 rfl ?_
          refine ev_putI (pc' := 267) (I' := (ma_up I 115 (ma_up (I 115) 39 1))) fo_X8_295 dX8_layQuartic_264 rfl hs_115 rfl (fun r hr => by cases hr; rfl) ⟨rfl, rfl⟩ rfl ?_
          refine ev_iload (pc' := 269) dX8_layQuartic_267 rfl rfl ?_
          refine ev_if_ge (tgt := 280) (pc' := 272) dX8_layQuartic_269 rfl rfl (fun _ => ?_) (fun h => absurd (by decide) h)
          refine ev_iload (pc' := 282) dX8_layQuartic_280 rfl rfl ?_
          refine ev_if_ne (tgt := 304) (pc' := 285) dX8_layQuartic_282 rfl rfl (fun h => absurd (by decide) h) (fun _ => ?_)
          refine ev_aload_n (pc' := 286) (i := 0) dX8_layQuartic_285 rfl rfl rfl ?_
          refine ev_lload (pc' := 288) dX8_layQuartic_286 rfl rfl ?_
          refine ev_lconst (pc' := 289) (v := 0) dX8_layQuartic_288 rfl kl_0 ?_
          refine ev_lc_ge (p1 := 290) (tgt := 297) (pc' := 293) dX8_layQuartic_289 rfl dX8_layQuartic_290 rfl rfl (fun c54 => ?_) (fun c54 => ?_)
          · refine ev_iconst (pc' := 298) (v := 0) dX8_layQuartic_297 rfl ki_0 ?_
            refine ev_putI (pc' := 301) (I' := (ma_up I 115 (ma_up (ma_up (I 115) 39 1) 38 0))) fo_X8_298 dX8_layQuartic_298 rfl hs_115 rfl (fun r hr => by cases hr; rfl) ⟨rfl, rfl⟩ (ma_up_up _ _ _ _) ?_
            refine ev_goto (tgt := 412) dX8_layQuartic_301 rfl ?_
            refine ev_vret dX8_layQuartic_412 rfl ⟨Nat.le_refl _, Nat.le_refl _⟩ ?_
            have er : mQr x1 x2 x3 (L 142 0) = (0, 1) := by
              unfold mQr
              rw [if_pos hin]
              have q1 := q53
              rw [Nat.one_mul, Nat.one_mul] at q1
              rw [if_neg (by omega), if_pos q1]
              have q2 := c54
              rw [← Int64.not_lt] at q2
              rw [if_neg q2]
            rw [e1, e2, e3] at er
            exact k _ _ _ _ _ er.symm
          · refine ev_iconst (pc' := 294) (v := 2) dX8_layQuartic_293 rfl ki_2 ?_
            refine ev_goto (tgt := 298) dX8_layQuartic_294 rfl ?_
            refine ev_putI (pc' := 301) (I' := (ma_up I 115 (ma_up (ma_up (I 115) 39 1) 38 2))) fo_X8_298 dX8_layQuartic_298 rfl hs_115 rfl (fun r hr => by cases hr; rfl) ⟨rfl, rfl⟩ (ma_up_up _ _ _ _) ?_
            refine ev_goto (tgt := 412) dX8_layQuartic_301 rfl ?_
            refine ev_vret dX8_layQuartic_412 rfl ⟨Nat.le_refl _, Nat.le_refl _⟩ ?_
            have er : mQr x1 x2 x3 (L 142 0) = (2, 1) := by
              unfold mQr
              rw [if_pos hin]
              have q1 := q53
              rw [Nat.one_mul, Nat.one_mul] at q1
              rw [if_neg (by omega), if_pos q1]
              have q2 := c54
              rw [Int64.not_le] at q2
              rw [if_pos q2]
            rw [e1, e2, e3] at er
            exact k _ _ _ _ _ er.symm
        · skip
          refine ev_istore (pc' := 253) (lv' := [some (.ref 115), some (.long ((L 142) 0)), none, some (.long ((L 142) 1)), none, some (.long ((L 142) 2)), none, some (.long ((L 142) 3)), none, some (.long ((L 142) 4)), none, some (.long x1), none, some (.long x2), none, some (.long x3), none, some (.int 1)]) dX8_layQuartic_251 rfl (Nat.le_of_ble_eq_true rfl) rfl rfl ?_
          refine ev_aload_n (pc' := 254) (i := 0) dX8_layQuartic_253 rfl rfl rfl ?_
          refine ev_iload (pc' := 256) dX8_layQuartic_254 rfl rfl ?_
          refine ev_if_ne (tgt := 263) (pc' := 259) dX8_layQuartic_256 rfl rfl (fun _ => ?_) (fun h => absurd h (by decide))
          refine ev_iconst (pc' := 264) (v := 0) dX8_layQuartic_263 rfl ki_0 ?_
          refine ev_putI (pc' := 267) (I' := (ma_up I 115 (ma_up (I 115) 39 0))) fo_X8_295 dX8_layQuartic_264 rfl hs_115 rfl (fun r hr => by cases hr; rfl) ⟨rfl, rfl⟩ rfl ?_
          refine ev_iload (pc' := 269) dX8_layQuartic_267 rfl rfl ?_
          refine ev_if_ge (tgt := 280) (pc' := 272) dX8_layQuartic_269 rfl rfl (fun _ => ?_) (fun h => absurd (by decide) h)
          refine ev_iload (pc' := 282) dX8_layQuartic_280 rfl rfl ?_
          refine ev_if_ne (tgt := 304) (pc' := 285) dX8_layQuartic_282 rfl rfl (fun _ => ?_) (fun h => absurd h (by decide))
          refine ev_aload_n (pc' := 305) (i := 0) dX8_layQuartic_304 rfl rfl rfl ?_
          refine ev_getR (pc' := 308) fo_X8_76 dX8_layQuartic_305 rfl hs_115 rfl rf_115_28 ?_
          refine ev_callS (pc' := 311) (rm' := rX8_begin) (av := [.ref 136]) (rest := []) co_X8_326 cs_X8_begin dX8_layQuartic_308 rfl rfl rfl (Nat.le_of_ble_eq_true rfl) ⟨(Nat.le_of_ble_eq_true rfl), (Nat.le_of_ble_eq_true rfl)⟩ ⟨(Nat.le_of_ble_eq_true rfl), (Nat.le_of_ble_eq_true rfl)⟩ ?_
          refine n_X8_begin136 Y51 Z47 Z52 (fun Z55 hZ55 => ?_)
          refine ev_aload_n (pc' := 312) (i := 0) dX8_layQuartic_311 rfl rfl rfl ?_
          refine ev_aload_n (pc' := 313) (i := 0) dX8_layQuartic_312 rfl rfl rfl ?_
          refine ev_getR (pc' := 316) fo_X8_76 dX8_layQuartic_313 rfl hs_115 rfl rf_115_28 ?_
          refine ev_lload (pc' := 318) dX8_layQuartic_316 rfl rfl ?_
          refine ev_callS (pc' := 321) (rm' := rX8_size) (av := [.long x3]) (rest := [.ref 136, .ref 115]) co_X8_122 cs_X8_size dX8_layQuartic_318 rfl rfl rfl (Nat.le_of_ble_eq_true rfl) ⟨(Nat.le_of_ble_eq_true rfl), (Nat.le_of_ble_eq_true rfl)⟩ ⟨(Nat.le_of_ble_eq_true rfl), (Nat.le_of_ble_eq_true rfl)⟩ ?_
          refine t_X8_size x3  ?_
          refine ev_callV (pc' := 324) (rm' := rX8_times) (b := 115) (av := [.ref 136, .long (mAb x3)]) (rest := []) co_X8_330 ci_X8_times cv_X8_times dX8_layQuartic_321 rfl hs_115 hb_X8 rfl rfl (Nat.le_of_ble_eq_true rfl) ⟨(Nat.le_of_ble_eq_true rfl), (Nat.le_of_ble_eq_true rfl)⟩ ⟨(Nat.le_of_ble_eq_true rfl), (Nat.le_of_ble_eq_true rfl)⟩ ?_
          refine n_X8_times136 (mAb x3) Y51 Z55 Z52 (1) (x3.toInt.natAbs) (mAb_nat hp) hpL hZ55 (fun Y56 Z57 hZ57 => ?_)
          refine ev_aload_n (pc' := 325) (i := 0) dX8_layQuartic_324 rfl rfl rfl ?_
          refine ev_aload_n (pc' := 326) (i := 0) dX8_layQuartic_325 rfl rfl rfl ?_
          refine ev_getR (pc' := 329) fo_X8_76 dX8_layQuartic_326 rfl hs_115 rfl rf_115_28 ?_
          refine ev_lload (pc' := 331) dX8_layQuartic_329 rfl rfl ?_
          refine ev_callS (pc' := 334) (rm' := rX8_size) (av := [.long x3]) (rest := [.ref 136, .ref 115]) co_X8_122 cs_X8_size dX8_layQuartic_331 rfl rfl rfl (Nat.le_of_ble_eq_true rfl) ⟨(Nat.le_of_ble_eq_true rfl), (Nat.le_of_ble_eq_true rfl)⟩ ⟨(Nat.le_of_ble_eq_true rfl), (Nat.le_of_ble_eq_true rfl)⟩ ?_
          refine t_X8_size x3  ?_
          refine ev_callV (pc' := 337) (rm' := rX8_times) (b := 115) (av := [.ref 136, .long (mAb x3)]) (rest := []) co_X8_330 ci_X8_times cv_X8_times dX8_layQuartic_334 rfl hs_115 hb_X8 rfl rfl (Nat.le_of_ble_eq_true rfl) ⟨(Nat.le_of_ble_eq_true rfl), (Nat.le_of_ble_eq_true rfl)⟩ ⟨(Nat.le_of_ble_eq_true rfl), (Nat.le_of_ble_eq_true rfl)⟩ ?_
          refine n_X8_times136 (mAb x3) Y56 Z57 Z52 (1 * x3.toInt.natAbs) (x3.toInt.natAbs) (mAb_nat hp) hpL hZ57 (fun Y58 Z59 hZ59 => ?_)
          refine ev_aload_n (pc' := 338) (i := 0) dX8_layQuartic_337 rfl rfl rfl ?_
          refine ev_getR (pc' := 341) fo_X8_79 dX8_layQuartic_338 rfl hs_115 rfl rf_115_29 ?_
          refine ev_callS (pc' := 344) (rm' := rX8_begin) (av := [.ref 137]) (rest := []) co_X8_326 cs_X8_begin dX8_layQuartic_341 rfl rfl rfl (Nat.le_of_ble_eq_true rfl) ⟨(Nat.le_of_ble_eq_true rfl), (Nat.le_of_ble_eq_true rfl)⟩ ⟨(Nat.le_of_ble_eq_true rfl), (Nat.le_of_ble_eq_true rfl)⟩ ?_
          refine n_X8_begin137 Y58 Z59 Z52 (fun Z60 hZ60 => ?_)
          refine ev_aload_n (pc' := 345) (i := 0) dX8_layQuartic_344 rfl rfl rfl ?_
          refine ev_aload_n (pc' := 346) (i := 0) dX8_layQuartic_345 rfl rfl rfl ?_
          refine ev_getR (pc' := 349) fo_X8_79 dX8_layQuartic_346 rfl hs_115 rfl rf_115_29 ?_
          refine ev_ldc2 (pc' := 352) cl_X8_338 dX8_layQuartic_349 rfl ?_
          refine ev_callV (pc' := 355) (rm' := rX8_times) (b := 115) (av := [.ref 137, .long 16]) (rest := []) co_X8_330 ci_X8_times cv_X8_times dX8_layQuartic_352 rfl hs_115 hb_X8 rfl rfl (Nat.le_of_ble_eq_true rfl) ⟨(Nat.le_of_ble_eq_true rfl), (Nat.le_of_ble_eq_true rfl)⟩ ⟨(Nat.le_of_ble_eq_true rfl), (Nat.le_of_ble_eq_true rfl)⟩ ?_
          refine n_X8_times137 16 Y58 Z59 Z60 (1) (16) rfl (by omega) hZ60 (fun Y61 Z62 hZ62 => ?_)
          refine ev_aload_n (pc' := 356) (i := 0) dX8_layQuartic_355 rfl rfl rfl ?_
          refine ev_aload_n (pc' := 357) (i := 0) dX8_layQuartic_356 rfl rfl rfl ?_
          refine ev_getR (pc' := 360) fo_X8_79 dX8_layQuartic_357 rfl hs_115 rfl rf_115_29 ?_
          refine ev_lload_n (pc' := 361) (i := 1) dX8_layQuartic_360 rfl rfl rfl ?_
          refine ev_callS (pc' := 364) (rm' := rX8_size) (av := [.long ((L 142) 0)]) (rest := [.ref 137, .ref 115]) co_X8_122 cs_X8_size dX8_layQuartic_361 rfl rfl rfl (Nat.le_of_ble_eq_true rfl) ⟨(Nat.le_of_ble_eq_true rfl), (Nat.le_of_ble_eq_true rfl)⟩ ⟨(Nat.le_of_ble_eq_true rfl), (Nat.le_of_ble_eq_true rfl)⟩ ?_
          refine t_X8_size ((L 142) 0)  ?_
          refine ev_callV (pc' := 367) (rm' := rX8_times) (b := 115) (av := [.ref 137, .long (mAb ((L 142) 0))]) (rest := []) co_X8_330 ci_X8_times cv_X8_times dX8_layQuartic_364 rfl hs_115 hb_X8 rfl rfl (Nat.le_of_ble_eq_true rfl) ⟨(Nat.le_of_ble_eq_true rfl), (Nat.le_of_ble_eq_true rfl)⟩ ⟨(Nat.le_of_ble_eq_true rfl), (Nat.le_of_ble_eq_true rfl)⟩ ?_
          refine n_X8_times137 (mAb ((L 142) 0)) Y61 Z59 Z62 (1 * 16) ((L 142 0).toInt.natAbs) (mAb_nat ha) haL hZ62 (fun Y63 Z64 hZ64 => ?_)
          refine ev_aload_n (pc' := 368) (i := 0) dX8_layQuartic_367 rfl rfl rfl ?_
          refine ev_aload_n (pc' := 369) (i := 0) dX8_layQuartic_368 rfl rfl rfl ?_
          refine ev_getR (pc' := 372) fo_X8_79 dX8_layQuartic_369 rfl hs_115 rfl rf_115_29 ?_
          refine ev_lload_n (pc' := 373) (i := 1) dX8_layQuartic_372 rfl rfl rfl ?_
          refine ev_callS (pc' := 376) (rm' := rX8_size) (av := [.long ((L 142) 0)]) (rest := [.ref 137, .ref 115]) co_X8_122 cs_X8_size dX8_layQuartic_373 rfl rfl rfl (Nat.le_of_ble_eq_true rfl) ⟨(Nat.le_of_ble_eq_true rfl), (Nat.le_of_ble_eq_true rfl)⟩ ⟨(Nat.le_of_ble_eq_true rfl), (Nat.le_of_ble_eq_true rfl)⟩ ?_
          refine t_X8_size ((L 142) 0)  ?_
          refine ev_callV (pc' := 379) (rm' := rX8_times) (b := 115) (av := [.ref 137, .long (mAb ((L 142) 0))]) (rest := []) co_X8_330 ci_X8_times cv_X8_times dX8_layQuartic_376 rfl hs_115 hb_X8 rfl rfl (Nat.le_of_ble_eq_true rfl) ⟨(Nat.le_of_ble_eq_true rfl), (Nat.le_of_ble_eq_true rfl)⟩ ⟨(Nat.le_of_ble_eq_true rfl), (Nat.le_of_ble_eq_true rfl)⟩ ?_
          refine n_X8_times137 (mAb ((L 142) 0)) Y63 Z59 Z64 (1 * 16 * (L 142 0).toInt.natAbs) ((L 142 0).toInt.natAbs) (mAb_nat ha) haL hZ64 (fun Y65 Z66 hZ66 => ?_)
          refine ev_aload_n (pc' := 380) (i := 0) dX8_layQuartic_379 rfl rfl rfl ?_
          refine ev_aload_n (pc' := 381) (i := 0) dX8_layQuartic_380 rfl rfl rfl ?_
          refine ev_getR (pc' := 384) fo_X8_79 dX8_layQuartic_381 rfl hs_115 rfl rf_115_29 ?_
          refine ev_lload (pc' := 386) dX8_layQuartic_384 rfl rfl ?_
          refine ev_callV (pc' := 389) (rm' := rX8_times) (b := 115) (av := [.ref 137, .long x1]) (rest := []) co_X8_330 ci_X8_times cv_X8_times dX8_layQuartic_386 rfl hs_115 hb_X8 rfl rfl (Nat.le_of_ble_eq_true rfl) ⟨(Nat.le_of_ble_eq_true rfl), (Nat.le_of_ble_eq_true rfl)⟩ ⟨(Nat.le_of_ble_eq_true rfl), (Nat.le_of_ble_eq_true rfl)⟩ ?_
          refine n_X8_times137 x1 Y65 Z59 Z66 (1 * 16 * (L 142 0).toInt.natAbs * (L 142 0).toInt.natAbs) (x1.toInt.natAbs) hiN hiL hZ66 (fun Y67 Z68 hZ68 => ?_)
          refine ev_aload_n (pc' := 390) (i := 0) dX8_layQuartic_389 rfl rfl rfl ?_
          refine ev_lload (pc' := 392) dX8_layQuartic_390 rfl rfl ?_
          refine ev_lconst (pc' := 393) (v := 0) dX8_layQuartic_392 rfl kl_0 ?_
          refine ev_lc_ge (p1 := 394) (tgt := 408) (pc' := 397) dX8_layQuartic_393 rfl dX8_layQuartic_394 rfl rfl (fun c69 => ?_) (fun c69 => ?_)
          · refine ev_iconst (pc' := 409) (v := 0) dX8_layQuartic_408 rfl ki_0 ?_
            refine ev_putI (pc' := 412) (I' := (ma_up I 115 (ma_up (ma_up (I 115) 39 0) 38 0))) fo_X8_298 dX8_layQuartic_409 rfl hs_115 rfl (fun r hr => by cases hr; rfl) ⟨rfl, rfl⟩ (ma_up_up _ _ _ _) ?_
            refine ev_vret dX8_layQuartic_412 rfl ⟨Nat.le_refl _, Nat.le_refl _⟩ ?_
            have er : mQr x1 x2 x3 (L 142 0) = (0, 0) := by
              unfold mQr
              rw [if_pos hin]
              have q1 := q53
              rw [Nat.one_mul, Nat.one_mul] at q1
              rw [if_neg (by omega), if_neg (by omega)]
              have q2 := c69
              rw [← Int64.not_lt] at q2
              rw [if_neg (fun z => q2 z.1)]
            rw [e1, e2, e3] at er
            exact k _ _ _ _ _ er.symm
          · refine ev_aload_n (pc' := 398) (i := 0) dX8_layQuartic_397 rfl rfl rfl ?_
            refine ev_callV (pc' := 401) (rm' := rX8_compare) (b := 115) (av := []) (rest := [.ref 115]) co_X8_334 ci_X8_compare cv_X8_compare dX8_layQuartic_398 rfl hs_115 hb_X8 rfl rfl (Nat.le_of_ble_eq_true rfl) ⟨(Nat.le_of_ble_eq_true rfl), (Nat.le_of_ble_eq_true rfl)⟩ ⟨(Nat.le_of_ble_eq_true rfl), (Nat.le_of_ble_eq_true rfl)⟩ ?_
            refine n_X8_compare (1 * x3.toInt.natAbs * x3.toInt.natAbs) (1 * 16 * (L 142 0).toInt.natAbs * (L 142 0).toInt.natAbs * x1.toInt.natAbs) (bg_2 (by assumption) (by assumption)) (bg_3 (by omega) (by assumption) (by assumption) (by assumption)) hZ59 hZ68 (fun q70 => ?_) (fun q70 => ?_) (fun q70 => ?_)
            · skip
              refine ev_if_le (tgt := 408) (pc' := 404) dX8_layQuartic_401 rfl rfl (fun _ => ?_) (fun h => absurd (by decide) h)
              refine ev_iconst (pc' := 409) (v := 0) dX8_layQuartic_408 rfl ki_0 ?_
              refine ev_putI (pc' := 412) (I' := (ma_up I 115 (ma_up (ma_up (I 115) 39 0) 38 0))) fo_X8_298 dX8_layQuartic_409 rfl hs_115 rfl (fun r hr => by cases hr; rfl) ⟨rfl, rfl⟩ (ma_up_up _ _ _ _) ?_
              refine ev_vret dX8_layQuartic_412 rfl ⟨Nat.le_refl _, Nat.le_refl _⟩ ?_
              have er : mQr x1 x2 x3 (L 142 0) = (0, 0) := by
                unfold mQr
                rw [if_pos hin]
                have q1 := q53
                rw [Nat.one_mul, Nat.one_mul] at q1
                rw [if_neg (by omega), if_neg (by omega)]
                have q2 := c69
                rw [Int64.not_le] at q2
                have q3 := q70
                rw [Nat.one_mul, Nat.one_mul] at q3
                rw [if_neg (fun z => by have := z.2; omega)]
              rw [e1, e2, e3] at er
              exact k _ _ _ _ _ er.symm
            · skip
              refine ev_if_le (tgt := 408) (pc' := 404) dX8_layQuartic_401 rfl rfl (fun _ => ?_) (fun h => absurd (by decide) h)
              refine ev_iconst (pc' := 409) (v := 0) dX8_layQuartic_408 rfl ki_0 ?_
              refine ev_putI (pc' := 412) (I' := (ma_up I 115 (ma_up (ma_up (I 115) 39 0) 38 0))) fo_X8_298 dX8_layQuartic_409 rfl hs_115 rfl (fun r hr => by cases hr; rfl) ⟨rfl, rfl⟩ (ma_up_up _ _ _ _) ?_
              refine ev_vret dX8_layQuartic_412 rfl ⟨Nat.le_refl _, Nat.le_refl _⟩ ?_
              have er : mQr x1 x2 x3 (L 142 0) = (0, 0) := by
                unfold mQr
                rw [if_pos hin]
                have q1 := q53
                rw [Nat.one_mul, Nat.one_mul] at q1
                rw [if_neg (by omega), if_neg (by omega)]
                have q2 := c69
                rw [Int64.not_le] at q2
                have q3 := q70
                rw [Nat.one_mul, Nat.one_mul] at q3
                rw [if_neg (fun z => by have := z.2; omega)]
              rw [e1, e2, e3] at er
              exact k _ _ _ _ _ er.symm
            · skip
              refine ev_if_le (tgt := 408) (pc' := 404) dX8_layQuartic_401 rfl rfl (fun h => absurd h (by decide)) (fun _ => ?_)
              refine ev_iconst (pc' := 405) (v := 4) dX8_layQuartic_404 rfl ki_4 ?_
              refine ev_goto (tgt := 409) dX8_layQuartic_405 rfl ?_
              refine ev_putI (pc' := 412) (I' := (ma_up I 115 (ma_up (ma_up (I 115) 39 0) 38 4))) fo_X8_298 dX8_layQuartic_409 rfl hs_115 rfl (fun r hr => by cases hr; rfl) ⟨rfl, rfl⟩ (ma_up_up _ _ _ _) ?_
              refine ev_vret dX8_layQuartic_412 rfl ⟨Nat.le_refl _, Nat.le_refl _⟩ ?_
              have er : mQr x1 x2 x3 (L 142 0) = (4, 0) := by
                unfold mQr
                rw [if_pos hin]
                have q1 := q53
                rw [Nat.one_mul, Nat.one_mul] at q1
                rw [if_neg (by omega), if_neg (by omega)]
                have q2 := c69
                rw [Int64.not_le] at q2
                have q3 := q70
                rw [Nat.one_mul, Nat.one_mul] at q3
                rw [if_pos ⟨q2, q3⟩]
              rw [e1, e2, e3] at er
              exact k _ _ _ _ _ er.symm
