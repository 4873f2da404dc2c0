/-- the tree of fractions, line k, place j; a and b its ends -/
def mSb (a b : Int32) : Nat → Nat → Int32
  | 0, j => if j = 0 then a else b
  | k + 1, j => if j % 2 = 0 then mSb a b k (j / 2) else mSb a b k (j / 2 + 1) + mSb a b k (j / 2)
theorem tr_step {a b : Int32} {X : Nat → Int32} {k i c : Nat} (h1 : ∀ j, j ≤ i + 1 → X j = mSb a b k j) (h2 : ∀ j, 2 * (i + 1) + 1 ≤ j → j ≤ 2 * c → X j = mSb a b (k + 1) j) :
    (∀ j, j ≤ i → (ma_up (ma_up X (2 * (i + 1)) (X (i + 1))) ((2 * (i + 1)) - 1) ((ma_up X (2 * (i + 1)) (X (i + 1))) (i + 1) + (ma_up X (2 * (i + 1)) (X (i + 1))) i)) j = mSb a b k j) ∧
    (∀ j, 2 * i + 1 ≤ j → j ≤ 2 * c → (ma_up (ma_up X (2 * (i + 1)) (X (i + 1))) ((2 * (i + 1)) - 1) ((ma_up X (2 * (i + 1)) (X (i + 1))) (i + 1) + (ma_up X (2 * (i + 1)) (X (i + 1))) i)) j = mSb a b (k + 1) j) := by
  refine ⟨fun j hj => ?_, fun j hj hc => ?_⟩
  · rw [ma_up_n _ _ (show j ≠ (2 * (i + 1)) - 1 by omega), ma_up_n _ _ (show j ≠ 2 * (i + 1) by omega)]
    exact h1 j (by omega)
  · by_cases e1 : j = (2 * (i + 1)) - 1
    · rw [e1, ma_up_s, ma_up_n _ _ (show i + 1 ≠ 2 * (i + 1) by omega), ma_up_n _ _ (show i ≠ 2 * (i + 1) by omega), h1 (i + 1) (by omega), h1 i (by omega)]
      show _ = (if (2 * (i + 1) - 1) % 2 = 0 then _ else mSb a b k ((2 * (i + 1) - 1) / 2 + 1) + mSb a b k ((2 * (i + 1) - 1) / 2))
      rw [if_neg (by omega), show (2 * (i + 1) - 1) / 2 = i by omega]
    · rw [ma_up_n _ _ e1]
      by_cases e2 : j = 2 * (i + 1)
      · rw [e2, ma_up_s, h1 (i + 1) (by omega)]
        show _ = (if (2 * (i + 1)) % 2 = 0 then mSb a b k ((2 * (i + 1)) / 2) else _)
        rw [if_pos (by omega), show (2 * (i + 1)) / 2 = i + 1 by omega]
      · rw [ma_up_n _ _ e2]
        exact h2 j (by omega) hc
theorem tr_end {a b : Int32} {X : Nat → Int32} {k c : Nat} (h1 : ∀ j, j ≤ 0 → X j = mSb a b k j) (h2 : ∀ j, 2 * 0 + 1 ≤ j → j ≤ 2 * c → X j = mSb a b (k + 1) j) : ∀ j, j ≤ 2 * c → X j = mSb a b (k + 1) j := fun j hj => by
  by_cases e : j = 0
  · subst e; rw [h1 0 (by omega)]; rfl
  · exact h2 j (by omega) hj
set_option maxRecDepth 4000 in
theorem t_X8_layTree {g : ma_G} {Post : ma_P} {I : ma_I} {L : ma_L} (n : Nat) (hn : n < 9) (k0 : ∀ X Y : Nat → Int32, (∀ j, j ≤ 2 ^ n → X j = mSb 0 1 n j) → (∀ j, j ≤ 2 ^ n → Y j = mSb 1 0 n j) → Post (some (.int (nI (2 ^ n + 1)))) HS (ma_up (ma_up I 146 X) 147 Y) L RF 146) : CT g yX8_layTree cX8_layTree 5 (some .int) rX8_layTree [.ref 115, .int (nI n)] Post HS I L RF 146 := by
  refine ct_of (lv := [some (.ref 115), some (.int (nI n)), none, none, none]) (by decide) (Nat.le_of_ble_eq_true rfl) rfl ?_
  refine ev_iconst (pc' := 1) (v := 2) dX8_layTree_0 rfl ki_2 ?_
  refine ev_istore_n (pc' := 2) (i := 2) (lv' := [some (.ref 115), some (.int (nI n)), some (.int 2), none, none]) dX8_layTree_1 rfl rfl (Nat.le_of_ble_eq_true rfl) rfl rfl ?_
  refine ev_aload_n (pc' := 3) (i := 0) dX8_layTree_2 rfl rfl rfl ?_
  refine ev_getR (pc' := 6) fo_X8_106 dX8_layTree_3 rfl hs_115 rfl rf_115_43 ?_
  refine ev_iconst (pc' := 7) (v := 0) dX8_layTree_6 rfl ki_0 ?_
  refine ev_iconst (pc' := 8) (v := 0) dX8_layTree_7 rfl ki_0 ?_
  refine ev_iast (pc' := 9) (j := 0) (I' := (ma_up I 146 (ma_up (I 146) 0 0))) dX8_layTree_8 rfl hs_146 rfl (Nat.le_of_ble_eq_true rfl) (Nat.le_of_ble_eq_true rfl) rfl ?_
  refine ev_aload_n (pc' := 10) (i := 0) dX8_layTree_9 rfl rfl rfl ?_
  refine ev_getR (pc' := 13) fo_X8_109 dX8_layTree_10 rfl hs_115 rfl rf_115_44 ?_
  refine ev_iconst (pc' := 14) (v := 0) dX8_layTree_13 rfl ki_0 ?_
  refine ev_iconst (pc' := 15) (v := 1) dX8_layTree_14 rfl ki_1 ?_
  refine ev_iast (pc' := 16) (j := 0) (I' := (ma_up (ma_up I 146 (ma_up (I 146) 0 0)) 147 (ma_up (I 147) 0 1))) dX8_layTree_15 rfl hs_147 rfl (Nat.le_of_ble_eq_true rfl) (Nat.le_of_ble_eq_true rfl) rfl ?_
  refine ev_aload_n (pc' := 17) (i := 0) dX8_layTree_16 rfl rfl rfl ?_
  refine ev_getR (pc' := 20) fo_X8_106 dX8_layTree_17 rfl hs_115 rfl rf_115_43 ?_
  refine ev_iconst (pc' := 21) (v := 1) dX8_layTree_20 rfl ki_1 ?_
  refine ev_iconst (pc' := 22) (v := 1) dX8_layTree_21 rfl ki_1 ?_
  refine ev_iast (pc' := 23) (j := 1) (I' := (ma_up (ma_up I 146 (ma_up (ma_up (I 146) 0 0) 1 1)) 147 (ma_up (I 147) 0 1))) dX8_layTree_22 rfl hs_146 rfl (Nat.le_of_ble_eq_true rfl) (Nat.le_of_ble_eq_true rfl) ((ma_up_comm _ (show 146 ≠ 147 from (by decide)) _ _).trans (congrArg (fun f => ma_up f 147 _) (ma_up_up _ _ _ _))) ?_
  refine ev_aload_n (pc' := 24) (i := 0) dX8_layTree_23 rfl rfl rfl ?_
  refine ev_getR (pc' := 27) fo_X8_109 dX8_layTree_24 rfl hs_115 rfl rf_115_44 ?_
  refine ev_iconst (pc' := 28) (v := 1) dX8_layTree_27 rfl ki_1 ?_
  refine ev_iconst (pc' := 29) (v := 0) dX8_layTree_28 rfl ki_0 ?_
  refine ev_iast (pc' := 30) (j := 1) (I' := (ma_up (ma_up I 146 (ma_up (ma_up (I 146) 0 0) 1 1)) 147 (ma_up (ma_up (I 147) 0 1) 1 0))) dX8_layTree_29 rfl hs_147 rfl (Nat.le_of_ble_eq_true rfl) (Nat.le_of_ble_eq_true rfl) (ma_up_up _ _ _ _) ?_
  refine ev_iconst (pc' := 31) (v := 0) dX8_layTree_30 rfl ki_0 ?_
  refine ev_istore_n (pc' := 32) (i := 3) (lv' := [some (.ref 115), some (.int (nI n)), some (.int 2), some (.int 0), none]) dX8_layTree_31 rfl rfl (Nat.le_of_ble_eq_true rfl) rfl rfl ?_
  suffices lp : ∀ (d k c : Nat) (X Y : Nat → Int32), k + d = n → c = 2 ^ k → (∀ j, j ≤ c → X j = mSb 0 1 k j) → (∀ j, j ≤ c → Y j = mSb 1 0 k j) → EV g yX8_layTree cX8_layTree 5 (some .int) rX8_layTree (ma_ZM g rX8_layTree Post) 32 [some (.ref 115), some (.int (nI n)), some (.int (nI (c + 1))), some (.int (nI k)), none] [] HS (ma_up (ma_up I 146 X) 147 Y) L RF 146 0 0 by
    refine lp n 0 1 _ _ (by omega) rfl (fun j hj => ?_) (fun j hj => ?_)
    · rcases Nat.le_one_iff_eq_zero_or_eq_one.mp hj with q | q
      · subst q; rfl
      · subst q; rfl
    · rcases Nat.le_one_iff_eq_zero_or_eq_one.mp hj with q | q
      · subst q; rfl
      · subst q; rfl
  intro d
  induction d with
  | zero =>
    intro k c X Y hk hc hX hY
    refine ev_iload_n (pc' := 33) (i := 3) dX8_layTree_32 rfl rfl rfl ?_
    refine ev_iload_n (pc' := 34) (i := 1) dX8_layTree_33 rfl rfl rfl ?_
    refine ev_icmp_ge (tgt := 153) (pc' := 37) dX8_layTree_34 rfl rfl (fun _ => ?_) (fun h => absurd (nx_le (a := n) (b := k) (by omega) (by omega)) h)
    refine ev_iload_n (pc' := 154) (i := 2) dX8_layTree_153 rfl rfl rfl ?_
    refine ev_iret dX8_layTree_154 rfl rfl ⟨Nat.le_refl _, Nat.le_refl _⟩ ?_
    obtain rfl : n = k := by omega
    subst hc
    exact k0 _ _ hX hY
  | succ d ih =>
    intro k c X Y hk hc hX hY
    have hc7 : c ≤ 128 := by rw [hc]; exact Nat.pow_le_pow_right (by omega) (show k ≤ 7 by omega)
    refine ev_iload_n (pc' := 33) (i := 3) dX8_layTree_32 rfl rfl rfl ?_
    refine ev_iload_n (pc' := 34) (i := 1) dX8_layTree_33 rfl rfl rfl ?_
    refine ev_icmp_ge (tgt := 153) (pc' := 37) dX8_layTree_34 rfl rfl (fun h => absurd h (nx_nle (a := n) (b := k) (by omega) (by omega))) (fun _ => ?_)
    refine ev_iload_n (pc' := 38) (i := 2) dX8_layTree_37 rfl rfl rfl ?_
    refine ev_iconst (pc' := 39) (v := 1) dX8_layTree_38 rfl ki_1 ?_
    refine ev_isub (pc' := 40) (v := nI c) dX8_layTree_39 rfl (nI_sub1 (n := c + 1) (Nat.succ_pos _)) ?_
    refine ev_istore (pc' := 42) (lv' := [some (.ref 115), some (.int (nI n)), some (.int (nI (c + 1))), some (.int (nI k)), some (.int (nI c))]) dX8_layTree_40 rfl (Nat.le_of_ble_eq_true rfl) rfl rfl ?_
    suffices li : ∀ (i : Nat) (X1 Y1 : Nat → Int32), i ≤ c → (∀ j, j ≤ i → X1 j = mSb 0 1 k j) → (∀ j, 2 * i + 1 ≤ j → j ≤ 2 * c → X1 j = mSb 0 1 (k + 1) j) → (∀ j, j ≤ i → Y1 j = mSb 1 0 k j) → (∀ j, 2 * i + 1 ≤ j → j ≤ 2 * c → Y1 j = mSb 1 0 (k + 1) j) → EV g yX8_layTree cX8_layTree 5 (some .int) rX8_layTree (ma_ZM g rX8_layTree Post) 42 [some (.ref 115), some (.int (nI n)), some (.int (nI (c + 1))), some (.int (nI k)), some (.int (nI i))] [] HS (ma_up (ma_up I 146 X1) 147 Y1) L RF 146 0 0 from li c X Y (Nat.le_refl _) hX (fun j h1 h2 => by omega) hY (fun j h1 h2 => by omega)
    intro i
    induction i with
    | zero =>
      intro X1 Y1 hi hX1 hX2 hY1 hY2
      refine ev_iload (pc' := 44) dX8_layTree_42 rfl rfl ?_
      refine ev_if_le (tgt := 141) (pc' := 47) dX8_layTree_44 rfl rfl (fun _ => ?_) (fun h => absurd (nx_le (a := 0) (b := 0) (by omega) (by omega)) h)
      refine ev_iconst (pc' := 142) (v := 2) dX8_layTree_141 rfl ki_2 ?_
      refine ev_iload_n (pc' := 143) (i := 2) dX8_layTree_142 rfl rfl rfl ?_
      refine ev_imul (pc' := 144) (v := nI (2 * (c + 1))) dX8_layTree_143 rfl (pk_mul 2 (c + 1)) ?_
      refine ev_iconst (pc' := 145) (v := 1) dX8_layTree_144 rfl ki_1 ?_
      refine ev_isub (pc' := 146) (v := nI ((2 * (c + 1)) - 1)) dX8_layTree_145 rfl (nI_sub1 (by omega)) ?_
      refine ev_eqi (w := nI (2 * c + 1)) (congrArg nI (show 2 * (c + 1) - 1 = 2 * c + 1 by omega)) ?_
      refine ev_istore_n (pc' := 147) (i := 2) (lv' := [some (.ref 115), some (.int (nI n)), some (.int (nI (2 * c + 1))), some (.int (nI k)), some (.int (nI 0))]) dX8_layTree_146 rfl rfl (Nat.le_of_ble_eq_true rfl) rfl rfl ?_
      refine ev_iinc (pc' := 150) (v := nI (k + 1)) (lv' := [some (.ref 115), some (.int (nI n)), some (.int (nI (2 * c + 1))), some (.int (nI (k + 1))), some (.int (nI 0))]) dX8_layTree_147 rfl rfl (nI_add k 1) (Nat.le_of_ble_eq_true rfl) rfl rfl ?_
      refine ev_goto (tgt := 32) dX8_layTree_150 rfl ?_
      refine ev_lvw (lv' := [some (.ref 115), some (.int (nI n)), some (.int (nI (2 * c + 1))), some (.int (nI (k + 1))), none]) ⟨rfl, ⟨rfl, ⟨rfl, ⟨rfl, trivial⟩⟩⟩⟩ ?_
      exact ih (k + 1) (2 * c) _ _ (by omega) (by rw [hc, Nat.pow_succ, Nat.mul_comm]) (tr_end hX1 hX2) (tr_end hY1 hY2)
    | succ i ih2 =>
      intro X1 Y1 hi hX1 hX2 hY1 hY2
      refine ev_iload (pc' := 44) dX8_layTree_42 rfl rfl ?_
      refine ev_if_le (tgt := 141) (pc' := 47) dX8_layTree_44 rfl rfl (fun h => absurd h (nx_nle (a := (i + 1)) (b := 0) (by omega) (by omega))) (fun _ => ?_)
      refine ev_aload_n (pc' := 48) (i := 0) dX8_layTree_47 rfl rfl rfl ?_
      refine ev_getR (pc' := 51) fo_X8_106 dX8_layTree_48 rfl hs_115 rfl rf_115_43 ?_
      refine ev_iconst (pc' := 52) (v := 2) dX8_layTree_51 rfl ki_2 ?_
      refine ev_iload (pc' := 54) dX8_layTree_52 rfl rfl ?_
      refine ev_imul (pc' := 55) (v := nI (2 * (i + 1))) dX8_layTree_54 rfl (pk_mul 2 (i + 1)) ?_
      refine ev_aload_n (pc' := 56) (i := 0) dX8_layTree_55 rfl rfl rfl ?_
      refine ev_getR (pc' := 59) fo_X8_106 dX8_layTree_56 rfl hs_115 rfl rf_115_43 ?_
      refine ev_iload (pc' := 61) dX8_layTree_59 rfl rfl ?_
      refine ev_iald (pc' := 62) (j := i + 1) (v := X1 (i + 1)) dX8_layTree_61 rfl hs_146 rfl (by omega) (Nat.le_of_ble_eq_true rfl) rfl ?_
      refine ev_iast (pc' := 63) (j := 2 * (i + 1)) (I' := (ma_up (ma_up I 146 (ma_up X1 (2 * (i + 1)) (X1 (i + 1)))) 147 Y1)) dX8_layTree_62 rfl hs_146 rfl (by omega) (Nat.le_of_ble_eq_true rfl) ((ma_up_comm _ (show 146 ≠ 147 from (by decide)) _ _).trans (congrArg (fun f => ma_up f 147 _) (ma_up_up _ _ _ _))) ?_
      refine ev_aload_n (pc' := 64) (i := 0) dX8_layTree_63 rfl rfl rfl ?_
      refine ev_getR (pc' := 67) fo_X8_109 dX8_layTree_64 rfl hs_115 rfl rf_115_44 ?_
      refine ev_iconst (pc' := 68) (v := 2) dX8_layTree_67 rfl ki_2 ?_
      refine ev_iload (pc' := 70) dX8_layTree_68 rfl rfl ?_
      refine ev_imul (pc' := 71) (v := nI (2 * (i + 1))) dX8_layTree_70 rfl (pk_mul 2 (i + 1)) ?_
      refine ev_aload_n (pc' := 72) (i := 0) dX8_layTree_71 rfl rfl rfl ?_
      refine ev_getR (pc' := 75) fo_X8_109 dX8_layTree_72 rfl hs_115 rfl rf_115_44 ?_
      refine ev_iload (pc' := 77) dX8_layTree_75 rfl rfl ?_
      refine ev_iald (pc' := 78) (j := i + 1) (v := Y1 (i + 1)) dX8_layTree_77 rfl hs_147 rfl (by omega) (Nat.le_of_ble_eq_true rfl) rfl ?_
      refine ev_iast (pc' := 79) (j := 2 * (i + 1)) (I' := (ma_up (ma_up I 146 (ma_up X1 (2 * (i + 1)) (X1 (i + 1)))) 147 (ma_up Y1 (2 * (i + 1)) (Y1 (i + 1))))) dX8_layTree_78 rfl hs_147 rfl (by omega) (Nat.le_of_ble_eq_true rfl) (ma_up_up _ _ _ _) ?_
      refine ev_aload_n (pc' := 80) (i := 0) dX8_layTree_79 rfl rfl rfl ?_
      refine ev_getR (pc' := 83) fo_X8_106 dX8_layTree_80 rfl hs_115 rfl rf_115_43 ?_
      refine ev_iconst (pc' := 84) (v := 2) dX8_layTree_83 rfl ki_2 ?_
      refine ev_iload (pc' := 86) dX8_layTree_84 rfl rfl ?_
      refine ev_imul (pc' := 87) (v := nI (2 * (i + 1))) dX8_layTree_86 rfl (pk_mul 2 (i + 1)) ?_
      refine ev_iconst (pc' := 88) (v := 1) dX8_layTree_87 rfl ki_1 ?_
      refine ev_isub (pc' := 89) (v := nI ((2 * (i + 1)) - 1)) dX8_layTree_88 rfl (nI_sub1 (by omega)) ?_
      refine ev_aload_n (pc' := 90) (i := 0) dX8_layTree_89 rfl rfl rfl ?_
      refine ev_getR (pc' := 93) fo_X8_106 dX8_layTree_90 rfl hs_115 rfl rf_115_43 ?_
      refine ev_iload (pc' := 95) dX8_layTree_93 rfl rfl ?_
      refine ev_iald (pc' := 96) (j := i + 1) (v := (ma_up X1 (2 * (i + 1)) (X1 (i + 1))) (i + 1)) dX8_layTree_95 rfl hs_146 rfl (by omega) (Nat.le_of_ble_eq_true rfl) rfl ?_
      refine ev_aload_n (pc' := 97) (i := 0) dX8_layTree_96 rfl rfl rfl ?_
      refine ev_getR (pc' := 100) fo_X8_106 dX8_layTree_97 rfl hs_115 rfl rf_115_43 ?_
      refine ev_iload (pc' := 102) dX8_layTree_100 rfl rfl ?_
      refine ev_iconst (pc' := 103) (v := 1) dX8_layTree_102 rfl ki_1 ?_
      refine ev_isub (pc' := 104) (v := nI i) dX8_layTree_103 rfl (nI_sub1 (n := i + 1) (Nat.succ_pos _)) ?_
      refine ev_iald (pc' := 105) (j := i) (v := (ma_up X1 (2 * (i + 1)) (X1 (i + 1))) i) dX8_layTree_104 rfl hs_146 rfl (by omega) (Nat.le_of_ble_eq_true rfl) rfl ?_
      refine ev_iadd (pc' := 106) (v := ((ma_up X1 (2 * (i + 1)) (X1 (i + 1))) (i + 1)) + ((ma_up X1 (2 * (i + 1)) (X1 (i + 1))) i)) dX8_layTree_105 rfl rfl ?_
      refine ev_iast (pc' := 107) (j := (2 * (i + 1)) - 1) (I' := (ma_up (ma_up I 146 (ma_up (ma_up X1 (2 * (i + 1)) (X1 (i + 1))) ((2 * (i + 1)) - 1) (((ma_up X1 (2 * (i + 1)) (X1 (i + 1))) (i + 1)) + ((ma_up X1 (2 * (i + 1)) (X1 (i + 1))) i)))) 147 (ma_up Y1 (2 * (i + 1)) (Y1 (i + 1))))) dX8_layTree_106 rfl hs_146 rfl (by omega) (Nat.le_of_ble_eq_true rfl) ((ma_up_comm _ (show 146 ≠ 147 from (by decide)) _ _).trans (congrArg (fun f => ma_up f 147 _) (ma_up_up _ _ _ _))) ?_
      refine ev_aload_n (pc' := 108) (i := 0) dX8_layTree_107 rfl rfl rfl ?_
      refine ev_getR (pc' := 111) fo_X8_109 dX8_layTree_108 rfl hs_115 rfl rf_115_44 ?_
      refine ev_iconst (pc' := 112) (v := 2) dX8_layTree_111 rfl ki_2 ?_
      refine ev_iload (pc' := 114) dX8_layTree_112 rfl rfl ?_
      refine ev_imul (pc' := 115) (v := nI (2 * (i + 1))) dX8_layTree_114 rfl (pk_mul 2 (i + 1)) ?_
      refine ev_iconst (pc' := 116) (v := 1) dX8_layTree_115 rfl ki_1 ?_
      refine ev_isub (pc' := 117) (v := nI ((2 * (i + 1)) - 1)) dX8_layTree_116 rfl (nI_sub1 (by omega)) ?_
      refine ev_aload_n (pc' := 118) (i := 0) dX8_layTree_117 rfl rfl rfl ?_
      refine ev_getR (pc' := 121) fo_X8_109 dX8_layTree_118 rfl hs_115 rfl rf_115_44 ?_
      refine ev_iload (pc' := 123) dX8_layTree_121 rfl rfl ?_
      refine ev_iald (pc' := 124) (j := i + 1) (v := (ma_up Y1 (2 * (i + 1)) (Y1 (i + 1))) (i + 1)) dX8_layTree_123 rfl hs_147 rfl (by omega) (Nat.le_of_ble_eq_true rfl) rfl ?_
      refine ev_aload_n (pc' := 125) (i := 0) dX8_layTree_124 rfl rfl rfl ?_
      refine ev_getR (pc' := 128) fo_X8_109 dX8_layTree_125 rfl hs_115 rfl rf_115_44 ?_
      refine ev_iload (pc' := 130) dX8_layTree_128 rfl rfl ?_
      refine ev_iconst (pc' := 131) (v := 1) dX8_layTree_130 rfl ki_1 ?_
      refine ev_isub (pc' := 132) (v := nI i) dX8_layTree_131 rfl (nI_sub1 (n := i + 1) (Nat.succ_pos _)) ?_
      refine ev_iald (pc' := 133) (j := i) (v := (ma_up Y1 (2 * (i + 1)) (Y1 (i + 1))) i) dX8_layTree_132 rfl hs_147 rfl (by omega) (Nat.le_of_ble_eq_true rfl) rfl ?_
      refine ev_iadd (pc' := 134) (v := ((ma_up Y1 (2 * (i + 1)) (Y1 (i + 1))) (i + 1)) + ((ma_up Y1 (2 * (i + 1)) (Y1 (i + 1))) i)) dX8_layTree_133 rfl rfl ?_
      refine ev_iast (pc' := 135) (j := (2 * (i + 1)) - 1) (I' := (ma_up (ma_up I 146 (ma_up (ma_up X1 (2 * (i + 1)) (X1 (i + 1))) ((2 * (i + 1)) - 1) (((ma_up X1 (2 * (i + 1)) (X1 (i + 1))) (i + 1)) + ((ma_up X1 (2 * (i + 1)) (X1 (i + 1))) i)))) 147 (ma_up (ma_up Y1 (2 * (i + 1)) (Y1 (i + 1))) ((2 * (i + 1)) - 1) (((ma_up Y1 (2 * (i + 1)) (Y1 (i + 1))) (i + 1)) + ((ma_up Y1 (2 * (i + 1)) (Y1 (i + 1))) i))))) dX8_layTree_134 rfl hs_147 rfl (by omega) (Nat.le_of_ble_eq_true rfl) (ma_up_up _ _ _ _) ?_
      refine ev_iinc (pc' := 138) (v := nI i) (lv' := [some (.ref 115), some (.int (nI n)), some (.int (nI (c + 1))), some (.int (nI k)), some (.int (nI i))]) dX8_layTree_135 rfl rfl (pk_m1 i) (Nat.le_of_ble_eq_true rfl) rfl rfl ?_
      refine ev_goto (tgt := 42) dX8_layTree_138 rfl ?_
      have tX := tr_step (c := c) hX1 hX2
      have tY := tr_step (c := c) hY1 hY2
      exact ih2 _ _ (by omega) tX.1 tX.2 tY.1 tY.2
