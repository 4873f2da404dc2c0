theorem in_sz {x z : Int32} (h : (¬ x < 0) ∧ (¬ (z - 1) < x)) (h0 : 0 ≤ z) (hz : z.toInt ≤ 16) : ∃ m : Nat, m < 16 ∧ ((m : Int) < z.toInt) ∧ x = nI m := by
  obtain ⟨m, hm, rfl⟩ := nI_of h.1
  have h1 : 0 ≤ z.toInt := by simpa using Int32.le_iff_toInt_le.mp h0
  have h2 : (z - 1).toInt = z.toInt - 1 := by
    rw [Int32.toInt_sub]
    have : (1 : Int32).toInt = 1 := by decide
    rw [this]
    apply Int.bmod_eq_of_le <;> omega
  have h3 : ¬ (z - 1).toInt < (nI m).toInt := fun q => h.2 (Int32.lt_iff_toInt_lt.mpr q)
  rw [h2, nI_toInt hm] at h3
  exact ⟨m, by omega, by omega, rfl⟩
def mClr (I : ma_I) (s : Nat) (n : Int32) : ma_I := mfill (ma_up I 117 (ma_up (I 117) s n)) 118 (16 * s) 16 (fun _ => 0)
set_option maxRecDepth 4000 in
theorem t_X8_clear {g : ma_G} {Post : ma_P} {I : ma_I} {L : ma_L}  (s : Nat) (n : Int32) (hs : s < 8) (k : Post none HS (mClr I s n) L RF 146) : CT g yX8_clear cX8_clear 4 none rX8_clear [.ref 115, .int (nI s), .int n] Post HS I L RF 146 := by
  refine ct_of (lv := [some (.ref 115), some (.int (nI s)), some (.int n), none]) (by decide) (Nat.le_of_ble_eq_true rfl) rfl ?_
  refine ev_aload_n (pc' := 1) (i := 0) dX8_clear_0 rfl rfl rfl ?_
  refine ev_getR (pc' := 4) fo_X8_17 dX8_clear_1 rfl hs_115 rfl rf_115_5 ?_
  refine ev_iload_n (pc' := 5) (i := 1) dX8_clear_4 rfl rfl rfl ?_
  refine ev_iload_n (pc' := 6) (i := 2) dX8_clear_5 rfl rfl rfl ?_
  refine ev_iast (pc' := 7) (j := s) (I' := (ma_up I 117 (ma_up (I 117) s n))) dX8_clear_6 rfl hs_117 rfl (by omega) (Nat.le_of_ble_eq_true rfl) rfl ?_
  refine ev_iconst (pc' := 8) (v := 0) dX8_clear_7 rfl ki_0 ?_
  refine ev_istore_n (pc' := 9) (i := 3) (lv' := [some (.ref 115), some (.int (nI s)), some (.int n), some (.int 0)]) dX8_clear_8 rfl rfl (Nat.le_of_ble_eq_true rfl) rfl rfl ?_
  refine ev_memI (fun I4 hI4 => ?_)
  suffices loop1 : ∀ (d2 i5 : Nat) (J3 : ma_I), i5 + d2 = 16 → (J3 = mfill I4 118 (16 * s) i5 (fun _ => 0)) → EV g yX8_clear cX8_clear 4 none rX8_clear (ma_ZM g rX8_clear Post) 9 [some (.ref 115), some (.int (nI s)), some (.int n), some (.int (nI i5))] [] HS J3 L RF 146 0 0 from loop1 (16 - 0) 0 I4 (by omega) (by exact (mfill_0 _ _ _ _).symm)
  intro d2
  induction d2 with
  | zero =>
    intro i5  J3  hi6 hv7
    obtain rfl : i5 = 16 := by omega
    subst hv7
    subst hI4
    refine ev_iload_n (pc' := 10) (i := 3) dX8_clear_9 rfl rfl rfl ?_
    refine ev_bipush (pc' := 12) (v := 16) dX8_clear_10 rfl kb_16 ?_
    refine ev_icmp_ge (tgt := 33) (pc' := 15) dX8_clear_12 rfl rfl (fun _ => ?_) (fun h => absurd (nx_le (a := 16) (b := 16) (by omega) (by omega)) h)
    refine ev_vret dX8_clear_33 rfl ⟨Nat.le_refl _, Nat.le_refl _⟩ ?_
    exact k
  | succ d2 ih =>
    intro i5  J3  hi6 hv7
    refine ev_iload_n (pc' := 10) (i := 3) dX8_clear_9 rfl rfl rfl ?_
    refine ev_bipush (pc' := 12) (v := 16) dX8_clear_10 rfl kb_16 ?_
    refine ev_icmp_ge (tgt := 33) (pc' := 15) dX8_clear_12 rfl rfl (fun h => absurd h (nx_nle (a := 16) (b := i5) (by omega) (by omega))) (fun _ => ?_)
    refine ev_aload_n (pc' := 16) (i := 0) dX8_clear_15 rfl rfl rfl ?_
    refine ev_getR (pc' := 19) fo_X8_20 dX8_clear_16 rfl hs_115 rfl rf_115_6 ?_
    refine ev_bipush (pc' := 21) (v := 16) dX8_clear_19 rfl kb_16 ?_
    refine ev_iload_n (pc' := 22) (i := 1) dX8_clear_21 rfl rfl rfl ?_
    refine ev_imul (pc' := 23) (v := nI (16 * s)) dX8_clear_22 rfl (pk_mul 16 s) ?_
    refine ev_iload_n (pc' := 24) (i := 3) dX8_clear_23 rfl rfl rfl ?_
    refine ev_iadd (pc' := 25) (v := nI ((16 * s) + i5)) dX8_clear_24 rfl (nI_add (16 * s) i5) ?_
    refine ev_iconst (pc' := 26) (v := 0) dX8_clear_25 rfl ki_0 ?_
    refine ev_iast (pc' := 27) (j := (16 * s) + i5) (I' := (ma_up J3 118 (ma_up (J3 118) ((16 * s) + i5) 0))) dX8_clear_26 rfl hs_118 rfl (by omega) (Nat.le_of_ble_eq_true rfl) rfl ?_
    refine ev_iinc (pc' := 30) (v := nI (i5 + 1)) (lv' := [some (.ref 115), some (.int (nI s)), some (.int n), some (.int (nI (i5 + 1)))]) dX8_clear_27 rfl rfl (nI_add i5 1) (Nat.le_of_ble_eq_true rfl) rfl rfl ?_
    refine ev_goto (tgt := 9) dX8_clear_30 rfl ?_
    exact ih (i5 + 1) _ (by omega) (by rw [hv7]; exact mfill_s _ _ _ _ _ rfl rfl)
set_option maxRecDepth 4000 in
theorem t_X8_sheet {g : ma_G} {Post : ma_P} {I : ma_I} {L : ma_L}  (s : Int32) (n : Int32)  (k1 : (¬ ((¬ s < 0) ∧ (¬ 7 < s))) → Post (some (.int (-1))) HS I L RF 146) (k2 : ∀ n2 : Nat, (n2 < 8) → s = nI n2 → (n ≤ 16) → (0 ≤ n) → Post (some (.int n)) HS (mClr I n2 n) L RF 146) (k3 : ∀ n2 : Nat, (n2 < 8) → s = nI n2 → (n ≤ 16) → (¬ 0 ≤ n) → Post (some (.int (-3))) HS (mMt I 5) L RF 146) (k4 : ∀ n2 : Nat, (n2 < 8) → s = nI n2 → (¬ n ≤ 16) → Post (some (.int (-1))) HS I L RF 146) : CT g yX8_sheet cX8_sheet 3 (some .int) rX8_sheet [.ref 115, .int s, .int n] Post HS I L RF 146 := by
  refine ct_of (lv := [some (.ref 115), some (.int s), some (.int n)]) (by decide) (Nat.le_of_ble_eq_true rfl) rfl ?_
  refine ev_iload_n (pc' := 1) (i := 1) dX8_sheet_0 rfl rfl rfl ?_
  refine ev_callS (pc' := 4) (rm' := rX8_isSheet) (av := [.int s]) (rest := []) co_X8_137 cs_X8_isSheet dX8_sheet_1 rfl rfl rfl (Nat.le_of_ble_eq_true rfl) ⟨(Nat.le_of_ble_eq_true rfl), (Nat.le_of_ble_eq_true rfl)⟩ ⟨(Nat.le_of_ble_eq_true rfl), (Nat.le_of_ble_eq_true rfl)⟩ ?_
  refine t_X8_isSheet s  ?_
  refine ev_if_eq_b (tgt := 13) (pc' := 7) dX8_sheet_4 rfl rfl (fun c1 => ?_) (fun c1 => ?_)
  · refine ev_iconst (pc' := 14) (v := (-1)) dX8_sheet_13 rfl ki_m1 ?_
    refine ev_iret dX8_sheet_14 rfl rfl ⟨Nat.le_refl _, Nat.le_refl _⟩ ?_
    exact k1 c1
  · obtain ⟨n2, hn2, en2⟩ := in_of (n := 7) (by omega) rfl c1
    subst en2
    refine ev_iload_n (pc' := 8) (i := 2) dX8_sheet_7 rfl rfl rfl ?_
    refine ev_bipush (pc' := 10) (v := 16) dX8_sheet_8 rfl kb_16 ?_
    refine ev_icmp_le (tgt := 15) (pc' := 13) dX8_sheet_10 rfl rfl (fun c3 => ?_) (fun c3 => ?_)
    · refine ev_iload_n (pc' := 16) (i := 2) dX8_sheet_15 rfl rfl rfl ?_
      refine ev_if_ge (tgt := 25) (pc' := 19) dX8_sheet_16 rfl rfl (fun c4 => ?_) (fun c4 => ?_)
      · refine ev_aload_n (pc' := 26) (i := 0) dX8_sheet_25 rfl rfl rfl ?_
        refine ev_iload_n (pc' := 27) (i := 1) dX8_sheet_26 rfl rfl rfl ?_
        refine ev_iload_n (pc' := 28) (i := 2) dX8_sheet_27 rfl rfl rfl ?_
        refine ev_callV (pc' := 31) (rm' := rX8_clear) (b := 115) (av := [.int (nI n2), .int n]) (rest := []) co_X8_145 ci_X8_clear cv_X8_clear dX8_sheet_28 rfl hs_115 hb_X8 rfl rfl (Nat.le_of_ble_eq_true rfl) ⟨(Nat.le_of_ble_eq_true rfl), (Nat.le_of_ble_eq_true rfl)⟩ ⟨(Nat.le_of_ble_eq_true rfl), (Nat.le_of_ble_eq_true rfl)⟩ ?_
        refine t_X8_clear n2 n (by omega) ?_
        refine ev_iload_n (pc' := 32) (i := 2) dX8_sheet_31 rfl rfl rfl ?_
        refine ev_iret dX8_sheet_32 rfl rfl ⟨Nat.le_refl _, Nat.le_refl _⟩ ?_
        exact k2 n2 hn2 rfl c3 c4
      · refine ev_aload_n (pc' := 20) (i := 0) dX8_sheet_19 rfl rfl rfl ?_
        refine ev_iconst (pc' := 21) (v := 5) dX8_sheet_20 rfl ki_5 ?_
        refine ev_callV (pc' := 24) (rm' := rX8_meets) (b := 115) (av := [.int 5]) (rest := []) co_X8_141 ci_X8_meets cv_X8_meets dX8_sheet_21 rfl hs_115 hb_X8 rfl rfl (Nat.le_of_ble_eq_true rfl) ⟨(Nat.le_of_ble_eq_true rfl), (Nat.le_of_ble_eq_true rfl)⟩ ⟨(Nat.le_of_ble_eq_true rfl), (Nat.le_of_ble_eq_true rfl)⟩ ?_
        refine t_X8_meets 5 (by omega) ?_
        refine ev_mMt 5 ?_
        refine ev_iret dX8_sheet_24 rfl rfl ⟨Nat.le_refl _, Nat.le_refl _⟩ ?_
        exact k3 n2 hn2 rfl c3 c4
    · refine ev_iconst (pc' := 14) (v := (-1)) dX8_sheet_13 rfl ki_m1 ?_
      refine ev_iret dX8_sheet_14 rfl rfl ⟨Nat.le_refl _, Nat.le_refl _⟩ ?_
      exact k4 n2 hn2 rfl c3
set_option maxRecDepth 4000 in
theorem t_X8_lay {g : ma_G} {Post : ma_P} {I : ma_I} {L : ma_L}  (s : Int32) (i : Int32) (v : Int32) (hz : ∀ j, j < 8 → (I 117 j).toInt ≤ 16) (k1 : ∀ j1 : Nat, (j1 < 8) → s = nI j1 → (0 ≤ ((I 117) j1)) → ∀ m : Nat, (m < 16) → ((m : Int) < (I 117 j1).toInt) → i = nI m → Post (some (.int 1)) HS (ma_up (ma_up I 115 (ma_up (I 115) 2 ((I 118) ((16 * j1) + m)))) 118 (ma_up (I 118) ((16 * j1) + m) v)) L RF 146) (k2 : ∀ j1 : Nat, (j1 < 8) → s = nI j1 → (0 ≤ ((I 117) j1)) → (¬ ((¬ i < 0) ∧ (¬ (((I 117) j1) - 1) < i))) → Post (some (.int (-3))) HS (mMt I 2) L RF 146) (k3 : ∀ j5 : Nat, (j5 < 8) → s = nI j5 → (¬ 0 ≤ ((I 117) j5)) → Post (some (.int (-3))) HS (mMt I 1) L RF 146) (k4 : (¬ ((¬ s < 0) ∧ (¬ 7 < s))) → Post (some (.int (-1))) HS I L RF 146) : CT g yX8_lay cX8_lay 5 (some .int) rX8_lay [.ref 115, .int s, .int i, .int v] Post HS I L RF 146 := by
  refine ct_of (lv := [some (.ref 115), some (.int s), some (.int i), some (.int v), none]) (by decide) (Nat.le_of_ble_eq_true rfl) rfl ?_
  refine ev_aload_n (pc' := 1) (i := 0) dX8_lay_0 rfl rfl rfl ?_
  refine ev_iload_n (pc' := 2) (i := 1) dX8_lay_1 rfl rfl rfl ?_
  refine ev_callV (pc' := 5) (rm' := rX8_looked) (b := 115) (av := [.int s]) (rest := []) co_X8_149 ci_X8_looked cv_X8_looked dX8_lay_2 rfl hs_115 hb_X8 rfl rfl (Nat.le_of_ble_eq_true rfl) ⟨(Nat.le_of_ble_eq_true rfl), (Nat.le_of_ble_eq_true rfl)⟩ ⟨(Nat.le_of_ble_eq_true rfl), (Nat.le_of_ble_eq_true rfl)⟩ ?_
  refine t_X8_looked s  (fun j1 h2 e3 h4 => ?_) (fun j5 h6 e7 h8 => ?_) (fun h9 => ?_)
  · subst e3
    refine ev_istore (pc' := 7) (lv' := [some (.ref 115), some (.int (nI j1)), some (.int i), some (.int v), some (.int 0)]) dX8_lay_5 rfl (Nat.le_of_ble_eq_true rfl) rfl rfl ?_
    refine ev_iload (pc' := 9) dX8_lay_7 rfl rfl ?_
    refine ev_if_ge (tgt := 15) (pc' := 12) dX8_lay_9 rfl rfl (fun _ => ?_) (fun h => absurd (by decide) h)
    refine ev_iload_n (pc' := 16) (i := 2) dX8_lay_15 rfl rfl rfl ?_
    refine ev_iconst (pc' := 17) (v := 0) dX8_lay_16 rfl ki_0 ?_
    refine ev_aload_n (pc' := 18) (i := 0) dX8_lay_17 rfl rfl rfl ?_
    refine ev_getR (pc' := 21) fo_X8_17 dX8_lay_18 rfl hs_115 rfl rf_115_5 ?_
    refine ev_iload_n (pc' := 22) (i := 1) dX8_lay_21 rfl rfl rfl ?_
    refine ev_iald (pc' := 23) (j := j1) (v := (I 117) j1) dX8_lay_22 rfl hs_117 rfl (by omega) (Nat.le_of_ble_eq_true rfl) rfl ?_
    refine ev_iconst (pc' := 24) (v := 1) dX8_lay_23 rfl ki_1 ?_
    refine ev_isub (pc' := 25) (v := ((I 117) j1) - 1) dX8_lay_24 rfl rfl ?_
    refine ev_callS (pc' := 28) (rm' := rX8_in) (av := [.int i, .int 0, .int (((I 117) j1) - 1)]) (rest := []) co_X8_133 cs_X8_in dX8_lay_25 rfl rfl rfl (Nat.le_of_ble_eq_true rfl) ⟨(Nat.le_of_ble_eq_true rfl), (Nat.le_of_ble_eq_true rfl)⟩ ⟨(Nat.le_of_ble_eq_true rfl), (Nat.le_of_ble_eq_true rfl)⟩ ?_
    refine t_X8_in i 0 (((I 117) j1) - 1)  ?_
    refine ev_if_ne_b (tgt := 37) (pc' := 31) dX8_lay_28 rfl rfl (fun c10 => ?_) (fun c10 => ?_)
    · obtain ⟨m, hm, hzm, em⟩ := in_sz c10 h4 (hz j1 h2)
      subst em
      refine ev_aload_n (pc' := 38) (i := 0) dX8_lay_37 rfl rfl rfl ?_
      refine ev_aload_n (pc' := 39) (i := 0) dX8_lay_38 rfl rfl rfl ?_
      refine ev_getR (pc' := 42) fo_X8_20 dX8_lay_39 rfl hs_115 rfl rf_115_6 ?_
      refine ev_bipush (pc' := 44) (v := 16) dX8_lay_42 rfl kb_16 ?_
      refine ev_iload_n (pc' := 45) (i := 1) dX8_lay_44 rfl rfl rfl ?_
      refine ev_imul (pc' := 46) (v := nI (16 * j1)) dX8_lay_45 rfl (pk_mul 16 j1) ?_
      refine ev_iload_n (pc' := 47) (i := 2) dX8_lay_46 rfl rfl rfl ?_
      refine ev_iadd (pc' := 48) (v := nI ((16 * j1) + m)) dX8_lay_47 rfl (nI_add (16 * j1) m) ?_
      refine ev_iald (pc' := 49) (j := (16 * j1) + m) (v := (I 118) ((16 * j1) + m)) dX8_lay_48 rfl hs_118 rfl (by omega) (Nat.le_of_ble_eq_true rfl) rfl ?_
      refine ev_putI (pc' := 52) (I' := (ma_up I 115 (ma_up (I 115) 2 ((I 118) ((16 * j1) + m))))) fo_X8_119 dX8_lay_49 rfl hs_115 rfl (fun r hr => by cases hr; rfl) ⟨rfl, rfl⟩ rfl ?_
      refine ev_aload_n (pc' := 53) (i := 0) dX8_lay_52 rfl rfl rfl ?_
      refine ev_getR (pc' := 56) fo_X8_20 dX8_lay_53 rfl hs_115 rfl rf_115_6 ?_
      refine ev_bipush (pc' := 58) (v := 16) dX8_lay_56 rfl kb_16 ?_
      refine ev_iload_n (pc' := 59) (i := 1) dX8_lay_58 rfl rfl rfl ?_
      refine ev_imul (pc' := 60) (v := nI (16 * j1)) dX8_lay_59 rfl (pk_mul 16 j1) ?_
      refine ev_iload_n (pc' := 61) (i := 2) dX8_lay_60 rfl rfl rfl ?_
      refine ev_iadd (pc' := 62) (v := nI ((16 * j1) + m)) dX8_lay_61 rfl (nI_add (16 * j1) m) ?_
      refine ev_iload_n (pc' := 63) (i := 3) dX8_lay_62 rfl rfl rfl ?_
      refine ev_iast (pc' := 64) (j := (16 * j1) + m) (I' := (ma_up (ma_up I 115 (ma_up (I 115) 2 ((I 118) ((16 * j1) + m)))) 118 (ma_up (I 118) ((16 * j1) + m) v))) dX8_lay_63 rfl hs_118 rfl (by omega) (Nat.le_of_ble_eq_true rfl) rfl ?_
      refine ev_iconst (pc' := 65) (v := 1) dX8_lay_64 rfl ki_1 ?_
      refine ev_iret dX8_lay_65 rfl rfl ⟨Nat.le_refl _, Nat.le_refl _⟩ ?_
      exact k1 j1 h2 rfl h4 m hm hzm rfl
    · refine ev_aload_n (pc' := 32) (i := 0) dX8_lay_31 rfl rfl rfl ?_
      refine ev_iconst (pc' := 33) (v := 2) dX8_lay_32 rfl ki_2 ?_
      refine ev_callV (pc' := 36) (rm' := rX8_meets) (b := 115) (av := [.int 2]) (rest := []) co_X8_141 ci_X8_meets cv_X8_meets dX8_lay_33 rfl hs_115 hb_X8 rfl rfl (Nat.le_of_ble_eq_true rfl) ⟨(Nat.le_of_ble_eq_true rfl), (Nat.le_of_ble_eq_true rfl)⟩ ⟨(Nat.le_of_ble_eq_true rfl), (Nat.le_of_ble_eq_true rfl)⟩ ?_
      refine t_X8_meets 2 (by omega) ?_
      refine ev_mMt 2 ?_
      refine ev_iret dX8_lay_36 rfl rfl ⟨Nat.le_refl _, Nat.le_refl _⟩ ?_
      exact k2 j1 h2 rfl h4 c10
  · subst e7
    refine ev_istore (pc' := 7) (lv' := [some (.ref 115), some (.int (nI j5)), some (.int i), some (.int v), some (.int (-3))]) dX8_lay_5 rfl (Nat.le_of_ble_eq_true rfl) rfl rfl ?_
    refine ev_iload (pc' := 9) dX8_lay_7 rfl rfl ?_
    refine ev_if_ge (tgt := 15) (pc' := 12) dX8_lay_9 rfl rfl (fun h => absurd h (by decide)) (fun _ => ?_)
    refine ev_iload (pc' := 14) dX8_lay_12 rfl rfl ?_
    refine ev_iret dX8_lay_14 rfl rfl ⟨Nat.le_refl _, Nat.le_refl _⟩ ?_
    exact k3 j5 h6 rfl h8
  · skip
    refine ev_istore (pc' := 7) (lv' := [some (.ref 115), some (.int s), some (.int i), some (.int v), some (.int (-1))]) dX8_lay_5 rfl (Nat.le_of_ble_eq_true rfl) rfl rfl ?_
    refine ev_iload (pc' := 9) dX8_lay_7 rfl rfl ?_
    refine ev_if_ge (tgt := 15) (pc' := 12) dX8_lay_9 rfl rfl (fun h => absurd h (by decide)) (fun _ => ?_)
    refine ev_iload (pc' := 14) dX8_lay_12 rfl rfl ?_
    refine ev_iret dX8_lay_14 rfl rfl ⟨Nat.le_refl _, Nat.le_refl _⟩ ?_
    exact k4 h9
set_option maxRecDepth 4000 in
theorem t_X8_tear {g : ma_G} {Post : ma_P} {I : ma_I} {L : ma_L}  (s : Int32)  (k1 : ∀ j1 : Nat, (j1 < 8) → s = nI j1 → (0 ≤ ((I 117) j1)) → Post (some (.int 1)) HS (ma_up I 117 (ma_up (I 117) j1 (-9))) L RF 146) (k2 : ∀ j5 : Nat, (j5 < 8) → s = nI j5 → (¬ 0 ≤ ((I 117) j5)) → Post (some (.int (-3))) HS (mMt I 1) L RF 146) (k3 : (¬ ((¬ s < 0) ∧ (¬ 7 < s))) → Post (some (.int (-1))) HS I L RF 146) : CT g yX8_tear cX8_tear 3 (some .int) rX8_tear [.ref 115, .int s] Post HS I L RF 146 := by
  refine ct_of (lv := [some (.ref 115), some (.int s), none]) (by decide) (Nat.le_of_ble_eq_true rfl) rfl ?_
  refine ev_aload_n (pc' := 1) (i := 0) dX8_tear_0 rfl rfl rfl ?_
  refine ev_iload_n (pc' := 2) (i := 1) dX8_tear_1 rfl rfl rfl ?_
  refine ev_callV (pc' := 5) (rm' := rX8_looked) (b := 115) (av := [.int s]) (rest := []) co_X8_149 ci_X8_looked cv_X8_looked dX8_tear_2 rfl hs_115 hb_X8 rfl rfl (Nat.le_of_ble_eq_true rfl) ⟨(Nat.le_of_ble_eq_true rfl), (Nat.le_of_ble_eq_true rfl)⟩ ⟨(Nat.le_of_ble_eq_true rfl), (Nat.le_of_ble_eq_true rfl)⟩ ?_
  refine t_X8_looked s  (fun j1 h2 e3 h4 => ?_) (fun j5 h6 e7 h8 => ?_) (fun h9 => ?_)
  · subst e3
    refine ev_istore_n (pc' := 6) (i := 2) (lv' := [some (.ref 115), some (.int (nI j1)), some (.int 0)]) dX8_tear_5 rfl rfl (Nat.le_of_ble_eq_true rfl) rfl rfl ?_
    refine ev_iload_n (pc' := 7) (i := 2) dX8_tear_6 rfl rfl rfl ?_
    refine ev_if_ge (tgt := 12) (pc' := 10) dX8_tear_7 rfl rfl (fun _ => ?_) (fun h => absurd (by decide) h)
    refine ev_aload_n (pc' := 13) (i := 0) dX8_tear_12 rfl rfl rfl ?_
    refine ev_getR (pc' := 16) fo_X8_17 dX8_tear_13 rfl hs_115 rfl rf_115_5 ?_
    refine ev_iload_n (pc' := 17) (i := 1) dX8_tear_16 rfl rfl rfl ?_
    refine ev_bipush (pc' := 19) (v := (-9)) dX8_tear_17 rfl kb_m9 ?_
    refine ev_iast (pc' := 20) (j := j1) (I' := (ma_up I 117 (ma_up (I 117) j1 (-9)))) dX8_tear_19 rfl hs_117 rfl (by omega) (Nat.le_of_ble_eq_true rfl) rfl ?_
    refine ev_iconst (pc' := 21) (v := 1) dX8_tear_20 rfl ki_1 ?_
    refine ev_iret dX8_tear_21 rfl rfl ⟨Nat.le_refl _, Nat.le_refl _⟩ ?_
    exact k1 j1 h2 rfl h4
  · subst e7
    refine ev_istore_n (pc' := 6) (i := 2) (lv' := [some (.ref 115), some (.int (nI j5)), some (.int (-3))]) dX8_tear_5 rfl rfl (Nat.le_of_ble_eq_true rfl) rfl rfl ?_
    refine ev_iload_n (pc' := 7) (i := 2) dX8_tear_6 rfl rfl rfl ?_
    refine ev_if_ge (tgt := 12) (pc' := 10) dX8_tear_7 rfl rfl (fun h => absurd h (by decide)) (fun _ => ?_)
    refine ev_iload_n (pc' := 11) (i := 2) dX8_tear_10 rfl rfl rfl ?_
    refine ev_iret dX8_tear_11 rfl rfl ⟨Nat.le_refl _, Nat.le_refl _⟩ ?_
    exact k2 j5 h6 rfl h8
  · skip
    refine ev_istore_n (pc' := 6) (i := 2) (lv' := [some (.ref 115), some (.int s), some (.int (-1))]) dX8_tear_5 rfl rfl (Nat.le_of_ble_eq_true rfl) rfl rfl ?_
    refine ev_iload_n (pc' := 7) (i := 2) dX8_tear_6 rfl rfl rfl ?_
    refine ev_if_ge (tgt := 12) (pc' := 10) dX8_tear_7 rfl rfl (fun h => absurd h (by decide)) (fun _ => ?_)
    refine ev_iload_n (pc' := 11) (i := 2) dX8_tear_10 rfl rfl rfl ?_
    refine ev_iret dX8_tear_11 rfl rfl ⟨Nat.le_refl _, Nat.le_refl _⟩ ?_
    exact k3 h9
set_option maxRecDepth 4000 in
theorem t_X8_drop {g : ma_G} {Post : ma_P} {I : ma_I} {L : ma_L}  (q : Int32)  (k1 : ∀ j1 : Nat, (j1 < 12) → q = nI j1 → (((I 122) j1) = 0) → Post (some (.int (-3))) HS (mMt I 1) L RF 146) (k2 : ∀ j5 : Nat, (j5 < 12) → q = nI j5 → (¬ ((I 122) j5) = 0) → Post (some (.int 1)) HS (ma_up I 122 (ma_up (I 122) j5 0)) L RF 146) (k3 : (¬ ((¬ q < 0) ∧ (¬ 11 < q))) → Post (some (.int (-1))) HS I L RF 146) : CT g yX8_drop cX8_drop 3 (some .int) rX8_drop [.ref 115, .int q] Post HS I L RF 146 := by
  refine ct_of (lv := [some (.ref 115), some (.int q), none]) (by decide) (Nat.le_of_ble_eq_true rfl) rfl ?_
  refine ev_aload_n (pc' := 1) (i := 0) dX8_drop_0 rfl rfl rfl ?_
  refine ev_iload_n (pc' := 2) (i := 1) dX8_drop_1 rfl rfl rfl ?_
  refine ev_callV (pc' := 5) (rm' := rX8_askedFor) (b := 115) (av := [.int q]) (rest := []) co_X8_210 ci_X8_askedFor cv_X8_askedFor dX8_drop_2 rfl hs_115 hb_X8 rfl rfl (Nat.le_of_ble_eq_true rfl) ⟨(Nat.le_of_ble_eq_true rfl), (Nat.le_of_ble_eq_true rfl)⟩ ⟨(Nat.le_of_ble_eq_true rfl), (Nat.le_of_ble_eq_true rfl)⟩ ?_
  refine t_X8_askedFor q  (fun j1 h2 e3 h4 => ?_) (fun j5 h6 e7 h8 => ?_) (fun h9 => ?_)
  · subst e3
    refine ev_istore_n (pc' := 6) (i := 2) (lv' := [some (.ref 115), some (.int (nI j1)), some (.int (-3))]) dX8_drop_5 rfl rfl (Nat.le_of_ble_eq_true rfl) rfl rfl ?_
    refine ev_iload_n (pc' := 7) (i := 2) dX8_drop_6 rfl rfl rfl ?_
    refine ev_if_ge (tgt := 12) (pc' := 10) dX8_drop_7 rfl rfl (fun h => absurd h (by decide)) (fun _ => ?_)
    refine ev_iload_n (pc' := 11) (i := 2) dX8_drop_10 rfl rfl rfl ?_
    refine ev_iret dX8_drop_11 rfl rfl ⟨Nat.le_refl _, Nat.le_refl _⟩ ?_
    exact k1 j1 h2 rfl h4
  · subst e7
    refine ev_istore_n (pc' := 6) (i := 2) (lv' := [some (.ref 115), some (.int (nI j5)), some (.int 0)]) dX8_drop_5 rfl rfl (Nat.le_of_ble_eq_true rfl) rfl rfl ?_
    refine ev_iload_n (pc' := 7) (i := 2) dX8_drop_6 rfl rfl rfl ?_
    refine ev_if_ge (tgt := 12) (pc' := 10) dX8_drop_7 rfl rfl (fun _ => ?_) (fun h => absurd (by decide) h)
    refine ev_aload_n (pc' := 13) (i := 0) dX8_drop_12 rfl rfl rfl ?_
    refine ev_getR (pc' := 16) fo_X8_33 dX8_drop_13 rfl hs_115 rfl rf_115_12 ?_
    refine ev_iload_n (pc' := 17) (i := 1) dX8_drop_16 rfl rfl rfl ?_
    refine ev_iconst (pc' := 18) (v := 0) dX8_drop_17 rfl ki_0 ?_
    refine ev_zast (pc' := 19) (j := j5) (I' := (ma_up I 122 (ma_up (I 122) j5 0))) dX8_drop_18 rfl hs_122 rfl (by omega) (Nat.le_of_ble_eq_true rfl) rfl rfl ?_
    refine ev_iconst (pc' := 20) (v := 1) dX8_drop_19 rfl ki_1 ?_
    refine ev_iret dX8_drop_20 rfl rfl ⟨Nat.le_refl _, Nat.le_refl _⟩ ?_
    exact k2 j5 h6 rfl h8
  · skip
    refine ev_istore_n (pc' := 6) (i := 2) (lv' := [some (.ref 115), some (.int q), some (.int (-1))]) dX8_drop_5 rfl rfl (Nat.le_of_ble_eq_true rfl) rfl rfl ?_
    refine ev_iload_n (pc' := 7) (i := 2) dX8_drop_6 rfl rfl rfl ?_
    refine ev_if_ge (tgt := 12) (pc' := 10) dX8_drop_7 rfl rfl (fun h => absurd h (by decide)) (fun _ => ?_)
    refine ev_iload_n (pc' := 11) (i := 2) dX8_drop_10 rfl rfl rfl ?_
    refine ev_iret dX8_drop_11 rfl rfl ⟨Nat.le_refl _, Nat.le_refl _⟩ ?_
    exact k3 h9
set_option maxRecDepth 4000 in
theorem t_X8_told {g : ma_G} {Post : ma_P} {I : ma_I} {L : ma_L}  (q : Int32) (w : Int32)  (k1 : ∀ n2 : Nat, (n2 < 10) → w = nI n2 → ∀ j3 : Nat, (j3 < 12) → q = nI j3 → (((I 122) j3) = 0) → Post (some (.int (-3))) HS (mMt I 1) L RF 146) (k2 : ∀ n2 : Nat, (n2 < 10) → w = nI n2 → ∀ j7 : Nat, (j7 < 12) → q = nI j7 → (¬ ((I 122) j7) = 0) → Post (some (.int 1)) HS (ma_up I 115 (ma_up (I 115) 2 ((I 124) ((10 * j7) + n2)))) L RF 146) (k3 : ∀ n2 : Nat, (n2 < 10) → w = nI n2 → (¬ ((¬ q < 0) ∧ (¬ 11 < q))) → Post (some (.int (-1))) HS I L RF 146) (k4 : (¬ ((¬ w < 0) ∧ (¬ 9 < w))) → Post (some (.int (-1))) HS I L RF 146) : CT g yX8_told cX8_told 4 (some .int) rX8_told [.ref 115, .int q, .int w] Post HS I L RF 146 := by
  refine ct_of (lv := [some (.ref 115), some (.int q), some (.int w), none]) (by decide) (Nat.le_of_ble_eq_true rfl) rfl ?_
  refine ev_iload_n (pc' := 1) (i := 2) dX8_told_0 rfl rfl rfl ?_
  refine ev_iconst (pc' := 2) (v := 0) dX8_told_1 rfl ki_0 ?_
  refine ev_bipush (pc' := 4) (v := 9) dX8_told_2 rfl kb_9 ?_
  refine ev_callS (pc' := 7) (rm' := rX8_in) (av := [.int w, .int 0, .int 9]) (rest := []) co_X8_133 cs_X8_in dX8_told_4 rfl rfl rfl (Nat.le_of_ble_eq_true rfl) ⟨(Nat.le_of_ble_eq_true rfl), (Nat.le_of_ble_eq_true rfl)⟩ ⟨(Nat.le_of_ble_eq_true rfl), (Nat.le_of_ble_eq_true rfl)⟩ ?_
  refine t_X8_in w 0 9  ?_
  refine ev_if_ne_b (tgt := 12) (pc' := 10) dX8_told_7 rfl rfl (fun c1 => ?_) (fun c1 => ?_)
  · obtain ⟨n2, hn2, en2⟩ := in_of (n := 9) (by omega) rfl c1
    subst en2
    refine ev_aload_n (pc' := 13) (i := 0) dX8_told_12 rfl rfl rfl ?_
    refine ev_iload_n (pc' := 14) (i := 1) dX8_told_13 rfl rfl rfl ?_
    refine ev_callV (pc' := 17) (rm' := rX8_askedFor) (b := 115) (av := [.int q]) (rest := []) co_X8_210 ci_X8_askedFor cv_X8_askedFor dX8_told_14 rfl hs_115 hb_X8 rfl rfl (Nat.le_of_ble_eq_true rfl) ⟨(Nat.le_of_ble_eq_true rfl), (Nat.le_of_ble_eq_true rfl)⟩ ⟨(Nat.le_of_ble_eq_true rfl), (Nat.le_of_ble_eq_true rfl)⟩ ?_
    refine t_X8_askedFor q  (fun j3 h4 e5 h6 => ?_) (fun j7 h8 e9 h10 => ?_) (fun h11 => ?_)
    · subst e5
      refine ev_istore_n (pc' := 18) (i := 3) (lv' := [some (.ref 115), some (.int (nI j3)), some (.int (nI n2)), some (.int (-3))]) dX8_told_17 rfl rfl (Nat.le_of_ble_eq_true rfl) rfl rfl ?_
      refine ev_iload_n (pc' := 19) (i := 3) dX8_told_18 rfl rfl rfl ?_
      refine ev_if_ge (tgt := 26) (pc' := 22) dX8_told_19 rfl rfl (fun h => absurd h (by decide)) (fun _ => ?_)
      refine ev_iload_n (pc' := 23) (i := 3) dX8_told_22 rfl rfl rfl ?_
      refine ev_goto (tgt := 42) dX8_told_23 rfl ?_
      refine ev_iret dX8_told_42 rfl rfl ⟨Nat.le_refl _, Nat.le_refl _⟩ ?_
      exact k1 n2 hn2 rfl j3 h4 rfl h6
    · subst e9
      refine ev_istore_n (pc' := 18) (i := 3) (lv' := [some (.ref 115), some (.int (nI j7)), some (.int (nI n2)), some (.int 0)]) dX8_told_17 rfl rfl (Nat.le_of_ble_eq_true rfl) rfl rfl ?_
      refine ev_iload_n (pc' := 19) (i := 3) dX8_told_18 rfl rfl rfl ?_
      refine ev_if_ge (tgt := 26) (pc' := 22) dX8_told_19 rfl rfl (fun _ => ?_) (fun h => absurd (by decide) h)
      refine ev_aload_n (pc' := 27) (i := 0) dX8_told_26 rfl rfl rfl ?_
      refine ev_aload_n (pc' := 28) (i := 0) dX8_told_27 rfl rfl rfl ?_
      refine ev_getR (pc' := 31) fo_X8_40 dX8_told_28 rfl hs_115 rfl rf_115_14 ?_
      refine ev_bipush (pc' := 33) (v := 10) dX8_told_31 rfl kb_10 ?_
      refine ev_iload_n (pc' := 34) (i := 1) dX8_told_33 rfl rfl rfl ?_
      refine ev_imul (pc' := 35) (v := nI (10 * j7)) dX8_told_34 rfl (pk_mul 10 j7) ?_
      refine ev_iload_n (pc' := 36) (i := 2) dX8_told_35 rfl rfl rfl ?_
      refine ev_iadd (pc' := 37) (v := nI ((10 * j7) + n2)) dX8_told_36 rfl (nI_add (10 * j7) n2) ?_
      refine ev_iald (pc' := 38) (j := (10 * j7) + n2) (v := (I 124) ((10 * j7) + n2)) dX8_told_37 rfl hs_124 rfl (by omega) (Nat.le_of_ble_eq_true rfl) rfl ?_
      refine ev_iconst (pc' := 39) (v := 1) dX8_told_38 rfl ki_1 ?_
      refine ev_callV (pc' := 42) (rm' := rX8_ask) (b := 115) (av := [.int ((I 124) ((10 * j7) + n2)), .int 1]) (rest := []) co_X8_213 ci_X8_ask cv_X8_ask dX8_told_39 rfl hs_115 hb_X8 rfl rfl (Nat.le_of_ble_eq_true rfl) ⟨(Nat.le_of_ble_eq_true rfl), (Nat.le_of_ble_eq_true rfl)⟩ ⟨(Nat.le_of_ble_eq_true rfl), (Nat.le_of_ble_eq_true rfl)⟩ ?_
      refine t_X8_ask ((I 124) ((10 * j7) + n2)) 1  ?_
      refine ev_iret dX8_told_42 rfl rfl ⟨Nat.le_refl _, Nat.le_refl _⟩ ?_
      exact k2 n2 hn2 rfl j7 h8 rfl h10
    · skip
      refine ev_istore_n (pc' := 18) (i := 3) (lv' := [some (.ref 115), some (.int q), some (.int (nI n2)), some (.int (-1))]) dX8_told_17 rfl rfl (Nat.le_of_ble_eq_true rfl) rfl rfl ?_
      refine ev_iload_n (pc' := 19) (i := 3) dX8_told_18 rfl rfl rfl ?_
      refine ev_if_ge (tgt := 26) (pc' := 22) dX8_told_19 rfl rfl (fun h => absurd h (by decide)) (fun _ => ?_)
      refine ev_iload_n (pc' := 23) (i := 3) dX8_told_22 rfl rfl rfl ?_
      refine ev_goto (tgt := 42) dX8_told_23 rfl ?_
      refine ev_iret dX8_told_42 rfl rfl ⟨Nat.le_refl _, Nat.le_refl _⟩ ?_
      exact k3 n2 hn2 rfl h11
  · refine ev_iconst (pc' := 11) (v := (-1)) dX8_told_10 rfl ki_m1 ?_
    refine ev_iret dX8_told_11 rfl rfl ⟨Nat.le_refl _, Nat.le_refl _⟩ ?_
    exact k4 c1
set_option maxRecDepth 4000 in
theorem t_X8_table {g : ma_G} {Post : ma_P} {I : ma_I} {L : ma_L}  (q : Int32) (i : Int32) (j : Int32)  (k1 : (¬ ((¬ i < 0) ∧ (¬ 3 < i))) → Post (some (.int (-1))) HS I L RF 146) (k2 : ∀ n2 : Nat, (n2 < 4) → i = nI n2 → ∀ n4 : Nat, (n4 < 4) → j = nI n4 → ∀ j5 : Nat, (j5 < 12) → q = nI j5 → (((I 122) j5) = 0) → Post (some (.int (-3))) HS (mMt I 1) L RF 146) (k3 : ∀ n2 : Nat, (n2 < 4) → i = nI n2 → ∀ n4 : Nat, (n4 < 4) → j = nI n4 → ∀ j9 : Nat, (j9 < 12) → q = nI j9 → (¬ ((I 122) j9) = 0) → Post (some (.int 1)) HS (ma_up I 115 (ma_up (I 115) 2 ((I 123) (((16 * j9) + (4 * n2)) + n4)))) L RF 146) (k4 : ∀ n2 : Nat, (n2 < 4) → i = nI n2 → ∀ n4 : Nat, (n4 < 4) → j = nI n4 → (¬ ((¬ q < 0) ∧ (¬ 11 < q))) → Post (some (.int (-1))) HS I L RF 146) (k5 : ∀ n2 : Nat, (n2 < 4) → i = nI n2 → (¬ ((¬ j < 0) ∧ (¬ 3 < j))) → Post (some (.int (-1))) HS I L RF 146) : CT g yX8_table cX8_table 5 (some .int) rX8_table [.ref 115, .int q, .int i, .int j] Post HS I L RF 146 := by
  refine ct_of (lv := [some (.ref 115), some (.int q), some (.int i), some (.int j), none]) (by decide) (Nat.le_of_ble_eq_true rfl) rfl ?_
  refine ev_iload_n (pc' := 1) (i := 2) dX8_table_0 rfl rfl rfl ?_
  refine ev_iconst (pc' := 2) (v := 0) dX8_table_1 rfl ki_0 ?_
  refine ev_iconst (pc' := 3) (v := 3) dX8_table_2 rfl ki_3 ?_
  refine ev_callS (pc' := 6) (rm' := rX8_in) (av := [.int i, .int 0, .int 3]) (rest := []) co_X8_133 cs_X8_in dX8_table_3 rfl rfl rfl (Nat.le_of_ble_eq_true rfl) ⟨(Nat.le_of_ble_eq_true rfl), (Nat.le_of_ble_eq_true rfl)⟩ ⟨(Nat.le_of_ble_eq_true rfl), (Nat.le_of_ble_eq_true rfl)⟩ ?_
  refine t_X8_in i 0 3  ?_
  refine ev_if_eq_b (tgt := 18) (pc' := 9) dX8_table_6 rfl rfl (fun c1 => ?_) (fun c1 => ?_)
  · refine ev_iconst (pc' := 19) (v := (-1)) dX8_table_18 rfl ki_m1 ?_
    refine ev_iret dX8_table_19 rfl rfl ⟨Nat.le_refl _, Nat.le_refl _⟩ ?_
    exact k1 c1
  · obtain ⟨n2, hn2, en2⟩ := in_of (n := 3) (by omega) rfl c1
    subst en2
    refine ev_iload_n (pc' := 10) (i := 3) dX8_table_9 rfl rfl rfl ?_
    refine ev_iconst (pc' := 11) (v := 0) dX8_table_10 rfl ki_0 ?_
    refine ev_iconst (pc' := 12) (v := 3) dX8_table_11 rfl ki_3 ?_
    refine ev_callS (pc' := 15) (rm' := rX8_in) (av := [.int j, .int 0, .int 3]) (rest := []) co_X8_133 cs_X8_in dX8_table_12 rfl rfl rfl (Nat.le_of_ble_eq_true rfl) ⟨(Nat.le_of_ble_eq_true rfl), (Nat.le_of_ble_eq_true rfl)⟩ ⟨(Nat.le_of_ble_eq_true rfl), (Nat.le_of_ble_eq_true rfl)⟩ ?_
    refine t_X8_in j 0 3  ?_
    refine ev_if_ne_b (tgt := 20) (pc' := 18) dX8_table_15 rfl rfl (fun c3 => ?_) (fun c3 => ?_)
    · obtain ⟨n4, hn4, en4⟩ := in_of (n := 3) (by omega) rfl c3
      subst en4
      refine ev_aload_n (pc' := 21) (i := 0) dX8_table_20 rfl rfl rfl ?_
      refine ev_iload_n (pc' := 22) (i := 1) dX8_table_21 rfl rfl rfl ?_
      refine ev_callV (pc' := 25) (rm' := rX8_askedFor) (b := 115) (av := [.int q]) (rest := []) co_X8_210 ci_X8_askedFor cv_X8_askedFor dX8_table_22 rfl hs_115 hb_X8 rfl rfl (Nat.le_of_ble_eq_true rfl) ⟨(Nat.le_of_ble_eq_true rfl), (Nat.le_of_ble_eq_true rfl)⟩ ⟨(Nat.le_of_ble_eq_true rfl), (Nat.le_of_ble_eq_true rfl)⟩ ?_
      refine t_X8_askedFor q  (fun j5 h6 e7 h8 => ?_) (fun j9 h10 e11 h12 => ?_) (fun h13 => ?_)
      · subst e7
        refine ev_istore (pc' := 27) (lv' := [some (.ref 115), some (.int (nI j5)), some (.int (nI n2)), some (.int (nI n4)), some (.int (-3))]) dX8_table_25 rfl (Nat.le_of_ble_eq_true rfl) rfl rfl ?_
        refine ev_iload (pc' := 29) dX8_table_27 rfl rfl ?_
        refine ev_if_ge (tgt := 37) (pc' := 32) dX8_table_29 rfl rfl (fun h => absurd h (by decide)) (fun _ => ?_)
        refine ev_iload (pc' := 34) dX8_table_32 rfl rfl ?_
        refine ev_goto (tgt := 57) dX8_table_34 rfl ?_
        refine ev_iret dX8_table_57 rfl rfl ⟨Nat.le_refl _, Nat.le_refl _⟩ ?_
        exact k2 n2 hn2 rfl n4 hn4 rfl j5 h6 rfl h8
      · subst e11
        refine ev_istore (pc' := 27) (lv' := [some (.ref 115), some (.int (nI j9)), some (.int (nI n2)), some (.int (nI n4)), some (.int 0)]) dX8_table_25 rfl (Nat.le_of_ble_eq_true rfl) rfl rfl ?_
        refine ev_iload (pc' := 29) dX8_table_27 rfl rfl ?_
        refine ev_if_ge (tgt := 37) (pc' := 32) dX8_table_29 rfl rfl (fun _ => ?_) (fun h => absurd (by decide) h)
        refine ev_aload_n (pc' := 38) (i := 0) dX8_table_37 rfl rfl rfl ?_
        refine ev_aload_n (pc' := 39) (i := 0) dX8_table_38 rfl rfl rfl ?_
        refine ev_getR (pc' := 42) fo_X8_37 dX8_table_39 rfl hs_115 rfl rf_115_13 ?_
        refine ev_bipush (pc' := 44) (v := 16) dX8_table_42 rfl kb_16 ?_
        refine ev_iload_n (pc' := 45) (i := 1) dX8_table_44 rfl rfl rfl ?_
        refine ev_imul (pc' := 46) (v := nI (16 * j9)) dX8_table_45 rfl (pk_mul 16 j9) ?_
        refine ev_iconst (pc' := 47) (v := 4) dX8_table_46 rfl ki_4 ?_
        refine ev_iload_n (pc' := 48) (i := 2) dX8_table_47 rfl rfl rfl ?_
        refine ev_imul (pc' := 49) (v := nI (4 * n2)) dX8_table_48 rfl (pk_mul 4 n2) ?_
        refine ev_iadd (pc' := 50) (v := nI ((16 * j9) + (4 * n2))) dX8_table_49 rfl (nI_add (16 * j9) (4 * n2)) ?_
        refine ev_iload_n (pc' := 51) (i := 3) dX8_table_50 rfl rfl rfl ?_
        refine ev_iadd (pc' := 52) (v := nI (((16 * j9) + (4 * n2)) + n4)) dX8_table_51 rfl (nI_add ((16 * j9) + (4 * n2)) n4) ?_
        refine ev_iald (pc' := 53) (j := ((16 * j9) + (4 * n2)) + n4) (v := (I 123) (((16 * j9) + (4 * n2)) + n4)) dX8_table_52 rfl hs_123 rfl (by omega) (Nat.le_of_ble_eq_true rfl) rfl ?_
        refine ev_iconst (pc' := 54) (v := 1) dX8_table_53 rfl ki_1 ?_
        refine ev_callV (pc' := 57) (rm' := rX8_ask) (b := 115) (av := [.int ((I 123) (((16 * j9) + (4 * n2)) + n4)), .int 1]) (rest := []) co_X8_213 ci_X8_ask cv_X8_ask dX8_table_54 rfl hs_115 hb_X8 rfl rfl (Nat.le_of_ble_eq_true rfl) ⟨(Nat.le_of_ble_eq_true rfl), (Nat.le_of_ble_eq_true rfl)⟩ ⟨(Nat.le_of_ble_eq_true rfl), (Nat.le_of_ble_eq_true rfl)⟩ ?_
        refine t_X8_ask ((I 123) (((16 * j9) + (4 * n2)) + n4)) 1  ?_
        refine ev_iret dX8_table_57 rfl rfl ⟨Nat.le_refl _, Nat.le_refl _⟩ ?_
        exact k3 n2 hn2 rfl n4 hn4 rfl j9 h10 rfl h12
      · skip
        refine ev_istore (pc' := 27) (lv' := [some (.ref 115), some (.int q), some (.int (nI n2)), some (.int (nI n4)), some (.int (-1))]) dX8_table_25 rfl (Nat.le_of_ble_eq_true rfl) rfl rfl ?_
        refine ev_iload (pc' := 29) dX8_table_27 rfl rfl ?_
        refine ev_if_ge (tgt := 37) (pc' := 32) dX8_table_29 rfl rfl (fun h => absurd h (by decide)) (fun _ => ?_)
        refine ev_iload (pc' := 34) dX8_table_32 rfl rfl ?_
        refine ev_goto (tgt := 57) dX8_table_34 rfl ?_
        refine ev_iret dX8_table_57 rfl rfl ⟨Nat.le_refl _, Nat.le_refl _⟩ ?_
        exact k4 n2 hn2 rfl n4 hn4 rfl h13
    · refine ev_iconst (pc' := 19) (v := (-1)) dX8_table_18 rfl ki_m1 ?_
      refine ev_iret dX8_table_19 rfl rfl ⟨Nat.le_refl _, Nat.le_refl _⟩ ?_
      exact k5 n2 hn2 rfl c3
theorem cp_in {x n z : Int32} (hx : ¬ x < 0) (hn : 0 ≤ n) (hz : z.toInt ≤ 16) (h : ¬ (z.toInt64 < x.toInt64 + n.toInt64)) : ∃ a b : Nat, x = nI a ∧ n = nI b ∧ a + b ≤ 16 ∧ ((a + b : Nat) : Int) ≤ z.toInt := by
  obtain ⟨a, ha, rfl⟩ := nI_of hx
  obtain ⟨b, hb, rfl⟩ := nI_of (Int32.not_lt.mpr hn)
  have h1 : ((nI a).toInt64 + (nI b).toInt64).toInt = (a : Int) + b := by
    have e1 : (nI a).toInt64.toInt = (a : Int) := by rw [nb_i2l, nI_toInt ha]
    have e2 : (nI b).toInt64.toInt = (b : Int) := by rw [nb_i2l, nI_toInt hb]
    rw [nb_addL (by omega) (by omega), e1, e2]
  rw [nb_ltL, h1, nb_i2l] at h
  exact ⟨a, b, rfl, rfl, by omega, by omega⟩
set_option maxRecDepth 4000 in
theorem t_X8_copy {g : ma_G} {Post : ma_P} {I : ma_I} {L : ma_L}  (s : Int32) (x : Int32) (t : Int32) (y : Int32) (n : Int32) (hz : ∀ j, j < 8 → (I 117 j).toInt ≤ 16) (k1 : (¬ ((¬ s < 0) ∧ (¬ 7 < s))) → Post (some (.int (-1))) HS I L RF 146) (k2 : ∀ n2 : Nat, (n2 < 8) → s = nI n2 → ∀ n4 : Nat, (n4 < 8) → t = nI n4 → (0 ≤ n) → (((I 117) n2) < 0) → Post (some (.int (-3))) HS (mMt I 1) L RF 146) (k3 : ∀ n2 : Nat, (n2 < 8) → s = nI n2 → ∀ n4 : Nat, (n4 < 8) → t = nI n4 → (0 ≤ n) → (¬ ((I 117) n2) < 0) → (0 ≤ ((I 117) n4)) → (x < 0) → Post (some (.int (-3))) HS (mMt I 2) L RF 146) (k4 : ∀ n2 : Nat, (n2 < 8) → s = nI n2 → ∀ n4 : Nat, (n4 < 8) → t = nI n4 → (0 ≤ n) → (¬ ((I 117) n2) < 0) → (0 ≤ ((I 117) n4)) → (¬ x < 0) → (y < 0) → Post (some (.int (-3))) HS (mMt I 2) L RF 146) (k5 : ∀ n2 : Nat, (n2 < 8) → s = nI n2 → ∀ n4 : Nat, (n4 < 8) → t = nI n4 → (0 ≤ n) → (¬ ((I 117) n2) < 0) → (0 ≤ ((I 117) n4)) → (¬ x < 0) → (¬ y < 0) → ((Int32.toInt64 ((I 117) n2)) < ((Int32.toInt64 x) + (Int32.toInt64 n))) → Post (some (.int (-3))) HS (mMt I 2) L RF 146) (k6 : ∀ n2 : Nat, (n2 < 8) → s = nI n2 → ∀ n4 : Nat, (n4 < 8) → t = nI n4 → (¬ ((I 117) n2) < 0) → (0 ≤ ((I 117) n4)) → ∀ a : Nat, ∀ b : Nat, ∀ c : Nat, (a + c ≤ 16) → (b + c ≤ 16) → (((a + c : Nat) : Int) ≤ (I 117 n2).toInt) → (((b + c : Nat) : Int) ≤ (I 117 n4).toInt) → x = nI a → y = nI b → n = nI c → Post (some (.int 1)) HS (mfill (mfill I 119 0 c (fun k => I 118 (16 * n2 + a + k))) 118 (16 * n4 + b) c (fun k => (mfill I 119 0 c (fun k => I 118 (16 * n2 + a + k))) 119 k)) L RF 146) (k7 : ∀ n2 : Nat, (n2 < 8) → s = nI n2 → ∀ n4 : Nat, (n4 < 8) → t = nI n4 → (0 ≤ n) → (¬ ((I 117) n2) < 0) → (0 ≤ ((I 117) n4)) → (¬ x < 0) → (¬ y < 0) → (¬ (Int32.toInt64 ((I 117) n2)) < ((Int32.toInt64 x) + (Int32.toInt64 n))) → (¬ ((Int32.toInt64 y) + (Int32.toInt64 n)) ≤ (Int32.toInt64 ((I 117) n4))) → Post (some (.int (-3))) HS (mMt I 2) L RF 146) (k8 : ∀ n2 : Nat, (n2 < 8) → s = nI n2 → ∀ n4 : Nat, (n4 < 8) → t = nI n4 → (0 ≤ n) → (¬ ((I 117) n2) < 0) → (¬ 0 ≤ ((I 117) n4)) → Post (some (.int (-3))) HS (mMt I 1) L RF 146) (k9 : ∀ n2 : Nat, (n2 < 8) → s = nI n2 → ∀ n4 : Nat, (n4 < 8) → t = nI n4 → (¬ 0 ≤ n) → Post (some (.int (-3))) HS (mMt I 5) L RF 146) (k10 : ∀ n2 : Nat, (n2 < 8) → s = nI n2 → (¬ ((¬ t < 0) ∧ (¬ 7 < t))) → Post (some (.int (-1))) HS I L RF 146) : CT g yX8_copy cX8_copy 7 (some .int) rX8_copy [.ref 115, .int s, .int x, .int t, .int y, .int n] Post HS I L RF 146 := by
  refine ct_of (lv := [some (.ref 115), some (.int s), some (.int x), some (.int t), some (.int y), some (.int n), none]) (by decide) (Nat.le_of_ble_eq_true rfl) rfl ?_
  refine ev_iload_n (pc' := 1) (i := 1) dX8_copy_0 rfl rfl rfl ?_
  refine ev_callS (pc' := 4) (rm' := rX8_isSheet) (av := [.int s]) (rest := []) co_X8_137 cs_X8_isSheet dX8_copy_1 rfl rfl rfl (Nat.le_of_ble_eq_true rfl) ⟨(Nat.le_of_ble_eq_true rfl), (Nat.le_of_ble_eq_true rfl)⟩ ⟨(Nat.le_of_ble_eq_true rfl), (Nat.le_of_ble_eq_true rfl)⟩ ?_
  refine t_X8_isSheet s  ?_
  refine ev_if_eq_b (tgt := 14) (pc' := 7) dX8_copy_4 rfl rfl (fun c1 => ?_) (fun c1 => ?_)
  · refine ev_iconst (pc' := 15) (v := (-1)) dX8_copy_14 rfl ki_m1 ?_
    refine ev_iret dX8_copy_15 rfl rfl ⟨Nat.le_refl _, Nat.le_refl _⟩ ?_
    exact k1 c1
  · obtain ⟨n2, hn2, en2⟩ := in_of (n := 7) (by omega) rfl c1
    subst en2
    refine ev_iload_n (pc' := 8) (i := 3) dX8_copy_7 rfl rfl rfl ?_
    refine ev_callS (pc' := 11) (rm' := rX8_isSheet) (av := [.int t]) (rest := []) co_X8_137 cs_X8_isSheet dX8_copy_8 rfl rfl rfl (Nat.le_of_ble_eq_true rfl) ⟨(Nat.le_of_ble_eq_true rfl), (Nat.le_of_ble_eq_true rfl)⟩ ⟨(Nat.le_of_ble_eq_true rfl), (Nat.le_of_ble_eq_true rfl)⟩ ?_
    refine t_X8_isSheet t  ?_
    refine ev_if_ne_b (tgt := 16) (pc' := 14) dX8_copy_11 rfl rfl (fun c3 => ?_) (fun c3 => ?_)
    · obtain ⟨n4, hn4, en4⟩ := in_of (n := 7) (by omega) rfl c3
      subst en4
      refine ev_iload (pc' := 18) dX8_copy_16 rfl rfl ?_
      refine ev_if_ge (tgt := 27) (pc' := 21) dX8_copy_18 rfl rfl (fun c5 => ?_) (fun c5 => ?_)
      · refine ev_aload_n (pc' := 28) (i := 0) dX8_copy_27 rfl rfl rfl ?_
        refine ev_getR (pc' := 31) fo_X8_17 dX8_copy_28 rfl hs_115 rfl rf_115_5 ?_
        refine ev_iload_n (pc' := 32) (i := 1) dX8_copy_31 rfl rfl rfl ?_
        refine ev_iald (pc' := 33) (j := n2) (v := (I 117) n2) dX8_copy_32 rfl hs_117 rfl (by omega) (Nat.le_of_ble_eq_true rfl) rfl ?_
        refine ev_if_lt (tgt := 45) (pc' := 36) dX8_copy_33 rfl rfl (fun c6 => ?_) (fun c6 => ?_)
        · refine ev_aload_n (pc' := 46) (i := 0) dX8_copy_45 rfl rfl rfl ?_
          refine ev_iconst (pc' := 47) (v := 1) dX8_copy_46 rfl ki_1 ?_
          refine ev_callV (pc' := 50) (rm' := rX8_meets) (b := 115) (av := [.int 1]) (rest := []) co_X8_141 ci_X8_meets cv_X8_meets dX8_copy_47 rfl hs_115 hb_X8 rfl rfl (Nat.le_of_ble_eq_true rfl) ⟨(Nat.le_of_ble_eq_true rfl), (Nat.le_of_ble_eq_true rfl)⟩ ⟨(Nat.le_of_ble_eq_true rfl), (Nat.le_of_ble_eq_true rfl)⟩ ?_
          refine t_X8_meets 1 (by omega) ?_
          refine ev_mMt 1 ?_
          refine ev_iret dX8_copy_50 rfl rfl ⟨Nat.le_refl _, Nat.le_refl _⟩ ?_
          exact k2 n2 hn2 rfl n4 hn4 rfl c5 c6
        · refine ev_aload_n (pc' := 37) (i := 0) dX8_copy_36 rfl rfl rfl ?_
          refine ev_getR (pc' := 40) fo_X8_17 dX8_copy_37 rfl hs_115 rfl rf_115_5 ?_
          refine ev_iload_n (pc' := 41) (i := 3) dX8_copy_40 rfl rfl rfl ?_
          refine ev_iald (pc' := 42) (j := n4) (v := (I 117) n4) dX8_copy_41 rfl hs_117 rfl (by omega) (Nat.le_of_ble_eq_true rfl) rfl ?_
          refine ev_if_ge (tgt := 51) (pc' := 45) dX8_copy_42 rfl rfl (fun c7 => ?_) (fun c7 => ?_)
          · refine ev_iload_n (pc' := 52) (i := 2) dX8_copy_51 rfl rfl rfl ?_
            refine ev_if_lt (tgt := 95) (pc' := 55) dX8_copy_52 rfl rfl (fun c8 => ?_) (fun c8 => ?_)
            · refine ev_aload_n (pc' := 96) (i := 0) dX8_copy_95 rfl rfl rfl ?_
              refine ev_iconst (pc' := 97) (v := 2) dX8_copy_96 rfl ki_2 ?_
              refine ev_callV (pc' := 100) (rm' := rX8_meets) (b := 115) (av := [.int 2]) (rest := []) co_X8_141 ci_X8_meets cv_X8_meets dX8_copy_97 rfl hs_115 hb_X8 rfl rfl (Nat.le_of_ble_eq_true rfl) ⟨(Nat.le_of_ble_eq_true rfl), (Nat.le_of_ble_eq_true rfl)⟩ ⟨(Nat.le_of_ble_eq_true rfl), (Nat.le_of_ble_eq_true rfl)⟩ ?_
              refine t_X8_meets 2 (by omega) ?_
              refine ev_mMt 2 ?_
              refine ev_iret dX8_copy_100 rfl rfl ⟨Nat.le_refl _, Nat.le_refl _⟩ ?_
              exact k3 n2 hn2 rfl n4 hn4 rfl c5 c6 c7 c8
            · refine ev_iload (pc' := 57) dX8_copy_55 rfl rfl ?_
              refine ev_if_lt (tgt := 95) (pc' := 60) dX8_copy_57 rfl rfl (fun c9 => ?_) (fun c9 => ?_)
              · refine ev_aload_n (pc' := 96) (i := 0) dX8_copy_95 rfl rfl rfl ?_
                refine ev_iconst (pc' := 97) (v := 2) dX8_copy_96 rfl ki_2 ?_
                refine ev_callV (pc' := 100) (rm' := rX8_meets) (b := 115) (av := [.int 2]) (rest := []) co_X8_141 ci_X8_meets cv_X8_meets dX8_copy_97 rfl hs_115 hb_X8 rfl rfl (Nat.le_of_ble_eq_true rfl) ⟨(Nat.le_of_ble_eq_true rfl), (Nat.le_of_ble_eq_true rfl)⟩ ⟨(Nat.le_of_ble_eq_true rfl), (Nat.le_of_ble_eq_true rfl)⟩ ?_
                refine t_X8_meets 2 (by omega) ?_
                refine ev_mMt 2 ?_
                refine ev_iret dX8_copy_100 rfl rfl ⟨Nat.le_refl _, Nat.le_refl _⟩ ?_
                exact k4 n2 hn2 rfl n4 hn4 rfl c5 c6 c7 c8 c9
              · refine ev_iload_n (pc' := 61) (i := 2) dX8_copy_60 rfl rfl rfl ?_
                refine ev_i2l (pc' := 62) (v := Int32.toInt64 x) dX8_copy_61 rfl rfl ?_
                refine ev_iload (pc' := 64) dX8_copy_62 rfl rfl ?_
                refine ev_i2l (pc' := 65) (v := Int32.toInt64 n) dX8_copy_64 rfl rfl ?_
                refine ev_ladd (pc' := 66) (v := (Int32.toInt64 x) + (Int32.toInt64 n)) dX8_copy_65 rfl rfl ?_
                refine ev_aload_n (pc' := 67) (i := 0) dX8_copy_66 rfl rfl rfl ?_
                refine ev_getR (pc' := 70) fo_X8_17 dX8_copy_67 rfl hs_115 rfl rf_115_5 ?_
                refine ev_iload_n (pc' := 71) (i := 1) dX8_copy_70 rfl rfl rfl ?_
                refine ev_iald (pc' := 72) (j := n2) (v := (I 117) n2) dX8_copy_71 rfl hs_117 rfl (by omega) (Nat.le_of_ble_eq_true rfl) rfl ?_
                refine ev_i2l (pc' := 73) (v := Int32.toInt64 ((I 117) n2)) dX8_copy_72 rfl rfl ?_
                refine ev_lc_gt (p1 := 74) (tgt := 95) (pc' := 77) dX8_copy_73 rfl dX8_copy_74 rfl rfl (fun c10 => ?_) (fun c10 => ?_)
                · refine ev_aload_n (pc' := 96) (i := 0) dX8_copy_95 rfl rfl rfl ?_
                  refine ev_iconst (pc' := 97) (v := 2) dX8_copy_96 rfl ki_2 ?_
                  refine ev_callV (pc' := 100) (rm' := rX8_meets) (b := 115) (av := [.int 2]) (rest := []) co_X8_141 ci_X8_meets cv_X8_meets dX8_copy_97 rfl hs_115 hb_X8 rfl rfl (Nat.le_of_ble_eq_true rfl) ⟨(Nat.le_of_ble_eq_true rfl), (Nat.le_of_ble_eq_true rfl)⟩ ⟨(Nat.le_of_ble_eq_true rfl), (Nat.le_of_ble_eq_true rfl)⟩ ?_
                  refine t_X8_meets 2 (by omega) ?_
                  refine ev_mMt 2 ?_
                  refine ev_iret dX8_copy_100 rfl rfl ⟨Nat.le_refl _, Nat.le_refl _⟩ ?_
                  exact k5 n2 hn2 rfl n4 hn4 rfl c5 c6 c7 c8 c9 c10
                · refine ev_iload (pc' := 79) dX8_copy_77 rfl rfl ?_
                  refine ev_i2l (pc' := 80) (v := Int32.toInt64 y) dX8_copy_79 rfl rfl ?_
                  refine ev_iload (pc' := 82) dX8_copy_80 rfl rfl ?_
                  refine ev_i2l (pc' := 83) (v := Int32.toInt64 n) dX8_copy_82 rfl rfl ?_
                  refine ev_ladd (pc' := 84) (v := (Int32.toInt64 y) + (Int32.toInt64 n)) dX8_copy_83 rfl rfl ?_
                  refine ev_aload_n (pc' := 85) (i := 0) dX8_copy_84 rfl rfl rfl ?_
                  refine ev_getR (pc' := 88) fo_X8_17 dX8_copy_85 rfl hs_115 rfl rf_115_5 ?_
                  refine ev_iload_n (pc' := 89) (i := 3) dX8_copy_88 rfl rfl rfl ?_
                  refine ev_iald (pc' := 90) (j := n4) (v := (I 117) n4) dX8_copy_89 rfl hs_117 rfl (by omega) (Nat.le_of_ble_eq_true rfl) rfl ?_
                  refine ev_i2l (pc' := 91) (v := Int32.toInt64 ((I 117) n4)) dX8_copy_90 rfl rfl ?_
                  refine ev_lc_le (p1 := 92) (tgt := 101) (pc' := 95) dX8_copy_91 rfl dX8_copy_92 rfl rfl (fun c11 => ?_) (fun c11 => ?_)
                  · obtain ⟨a, c, ea, ec, hac, hza⟩ := cp_in c8 c5 (hz n2 hn2) c10
                    obtain ⟨b, c2, eb, ec2, hbc, hzb⟩ := cp_in c9 c5 (hz n4 hn4) (Int64.not_lt.mpr c11)
                    subst ec
                    have ec2 := nx_inj ec2 (by omega) (by omega)
                    subst ec2
                    subst ea
                    subst eb
                    refine ev_iconst (pc' := 102) (v := 0) dX8_copy_101 rfl ki_0 ?_
                    refine ev_istore (pc' := 104) (lv' := [some (.ref 115), some (.int (nI n2)), some (.int (nI a)), some (.int (nI n4)), some (.int (nI b)), some (.int (nI c)), some (.int 0)]) dX8_copy_102 rfl (Nat.le_of_ble_eq_true rfl) rfl rfl ?_
                    suffices loop12 : ∀ (d13 i15 : Nat) (J14 : ma_I), i15 + d13 = c → (J14 = mfill I 119 0 i15 (fun k => I 118 (16 * n2 + a + k))) → EV g yX8_copy cX8_copy 7 (some .int) rX8_copy (ma_ZM g rX8_copy Post) 104 [some (.ref 115), some (.int (nI n2)), some (.int (nI a)), some (.int (nI n4)), some (.int (nI b)), some (.int (nI c)), some (.int (nI i15))] [] HS J14 L RF 146 0 0 from loop12 (c - 0) 0 I (by omega) (by exact (mfill_0 _ _ _ _).symm)
                    intro d13
                    induction d13 with
                    | zero =>
                      intro i15  J14  hi16 hv17
                      obtain rfl : c = i15 := by omega
                      subst hv17
                      refine ev_iload (pc' := 106) dX8_copy_104 rfl rfl ?_
                      refine ev_iload (pc' := 108) dX8_copy_106 rfl rfl ?_
                      refine ev_icmp_ge (tgt := 138) (pc' := 111) dX8_copy_108 rfl rfl (fun _ => ?_) (fun h => absurd (nx_le (a := c) (b := c) (by omega) (by omega)) h)
                      refine ev_iconst (pc' := 139) (v := 0) dX8_copy_138 rfl ki_0 ?_
                      refine ev_istore (pc' := 141) (lv' := [some (.ref 115), some (.int (nI n2)), some (.int (nI a)), some (.int (nI n4)), some (.int (nI b)), some (.int (nI c)), some (.int 0)]) dX8_copy_139 rfl (Nat.le_of_ble_eq_true rfl) rfl rfl ?_
                      refine ev_memI (fun I21 hI21 => ?_)
                      suffices loop18 : ∀ (d19 i22 : Nat) (J20 : ma_I), i22 + d19 = c → (J20 = mfill I21 118 (16 * n4 + b) i22 (fun k => I21 119 k)) → EV g yX8_copy cX8_copy 7 (some .int) rX8_copy (ma_ZM g rX8_copy Post) 141 [some (.ref 115), some (.int (nI n2)), some (.int (nI a)), some (.int (nI n4)), some (.int (nI b)), some (.int (nI c)), some (.int (nI i22))] [] HS J20 L RF 146 0 0 from loop18 (c - 0) 0 I21 (by omega) (by exact (mfill_0 _ _ _ _).symm)
                      intro d19
                      induction d19 with
                      | zero =>
                        intro i22  J20  hi23 hv24
                        obtain rfl : c = i22 := by omega
                        subst hv24
                        subst hI21
                        refine ev_iload (pc' := 143) dX8_copy_141 rfl rfl ?_
                        refine ev_iload (pc' := 145) dX8_copy_143 rfl rfl ?_
                        refine ev_icmp_ge (tgt := 176) (pc' := 148) dX8_copy_145 rfl rfl (fun _ => ?_) (fun h => absurd (nx_le (a := c) (b := c) (by omega) (by omega)) h)
                        refine ev_iconst (pc' := 177) (v := 1) dX8_copy_176 rfl ki_1 ?_
                        refine ev_iret dX8_copy_177 rfl rfl ⟨Nat.le_refl _, Nat.le_refl _⟩ ?_
                        exact k6 n2 hn2 rfl n4 hn4 rfl c6 c7 a b c hac hbc hza hzb rfl rfl rfl
                      | succ d19 ih =>
                        intro i22  J20  hi23 hv24
                        refine ev_iload (pc' := 143) dX8_copy_141 rfl rfl ?_
                        refine ev_iload (pc' := 145) dX8_copy_143 rfl rfl ?_
                        refine ev_icmp_ge (tgt := 176) (pc' := 148) dX8_copy_145 rfl rfl (fun h => absurd h (nx_nle (a := c) (b := i22) (by omega) (by omega))) (fun _ => ?_)
                        refine ev_aload_n (pc' := 149) (i := 0) dX8_copy_148 rfl rfl rfl ?_
                        refine ev_getR (pc' := 152) fo_X8_20 dX8_copy_149 rfl hs_115 rfl rf_115_6 ?_
                        refine ev_bipush (pc' := 154) (v := 16) dX8_copy_152 rfl kb_16 ?_
                        refine ev_iload_n (pc' := 155) (i := 3) dX8_copy_154 rfl rfl rfl ?_
                        refine ev_imul (pc' := 156) (v := nI (16 * n4)) dX8_copy_155 rfl (pk_mul 16 n4) ?_
                        refine ev_iload (pc' := 158) dX8_copy_156 rfl rfl ?_
                        refine ev_iadd (pc' := 159) (v := nI ((16 * n4) + b)) dX8_copy_158 rfl (nI_add (16 * n4) b) ?_
                        refine ev_iload (pc' := 161) dX8_copy_159 rfl rfl ?_
                        refine ev_iadd (pc' := 162) (v := nI (((16 * n4) + b) + i22)) dX8_copy_161 rfl (nI_add ((16 * n4) + b) i22) ?_
                        refine ev_aload_n (pc' := 163) (i := 0) dX8_copy_162 rfl rfl rfl ?_
                        refine ev_getR (pc' := 166) fo_X8_23 dX8_copy_163 rfl hs_115 rfl rf_115_7 ?_
                        refine ev_iload (pc' := 168) dX8_copy_166 rfl rfl ?_
                        refine ev_iald (pc' := 169) (j := i22) (v := (J20 119) i22) dX8_copy_168 rfl hs_119 rfl (by omega) (Nat.le_of_ble_eq_true rfl) rfl ?_
                        refine ev_iast (pc' := 170) (j := ((16 * n4) + b) + i22) (I' := (ma_up J20 118 (ma_up (J20 118) (((16 * n4) + b) + i22) ((J20 119) i22)))) dX8_copy_169 rfl hs_118 rfl (by omega) (Nat.le_of_ble_eq_true rfl) rfl ?_
                        refine ev_iinc (pc' := 173) (v := nI (i22 + 1)) (lv' := [some (.ref 115), some (.int (nI n2)), some (.int (nI a)), some (.int (nI n4)), some (.int (nI b)), some (.int (nI c)), some (.int (nI (i22 + 1)))]) dX8_copy_170 rfl rfl (nI_add i22 1) (Nat.le_of_ble_eq_true rfl) rfl rfl ?_
                        refine ev_goto (tgt := 141) dX8_copy_173 rfl ?_
                        exact ih (i22 + 1) _ (by omega) (by rw [hv24]; exact mfill_s _ _ _ _ _ (by omega) rfl)
                    | succ d13 ih =>
                      intro i15  J14  hi16 hv17
                      refine ev_iload (pc' := 106) dX8_copy_104 rfl rfl ?_
                      refine ev_iload (pc' := 108) dX8_copy_106 rfl rfl ?_
                      refine ev_icmp_ge (tgt := 138) (pc' := 111) dX8_copy_108 rfl rfl (fun h => absurd h (nx_nle (a := c) (b := i15) (by omega) (by omega))) (fun _ => ?_)
                      refine ev_aload_n (pc' := 112) (i := 0) dX8_copy_111 rfl rfl rfl ?_
                      refine ev_getR (pc' := 115) fo_X8_23 dX8_copy_112 rfl hs_115 rfl rf_115_7 ?_
                      refine ev_iload (pc' := 117) dX8_copy_115 rfl rfl ?_
                      refine ev_aload_n (pc' := 118) (i := 0) dX8_copy_117 rfl rfl rfl ?_
                      refine ev_getR (pc' := 121) fo_X8_20 dX8_copy_118 rfl hs_115 rfl rf_115_6 ?_
                      refine ev_bipush (pc' := 123) (v := 16) dX8_copy_121 rfl kb_16 ?_
                      refine ev_iload_n (pc' := 124) (i := 1) dX8_copy_123 rfl rfl rfl ?_
                      refine ev_imul (pc' := 125) (v := nI (16 * n2)) dX8_copy_124 rfl (pk_mul 16 n2) ?_
                      refine ev_iload_n (pc' := 126) (i := 2) dX8_copy_125 rfl rfl rfl ?_
                      refine ev_iadd (pc' := 127) (v := nI ((16 * n2) + a)) dX8_copy_126 rfl (nI_add (16 * n2) a) ?_
                      refine ev_iload (pc' := 129) dX8_copy_127 rfl rfl ?_
                      refine ev_iadd (pc' := 130) (v := nI (((16 * n2) + a) + i15)) dX8_copy_129 rfl (nI_add ((16 * n2) + a) i15) ?_
                      refine ev_iald (pc' := 131) (j := ((16 * n2) + a) + i15) (v := (J14 118) (((16 * n2) + a) + i15)) dX8_copy_130 rfl hs_118 rfl (by omega) (Nat.le_of_ble_eq_true rfl) rfl ?_
                      refine ev_iast (pc' := 132) (j := i15) (I' := (ma_up J14 119 (ma_up (J14 119) i15 ((J14 118) (((16 * n2) + a) + i15))))) dX8_copy_131 rfl hs_119 rfl (by omega) (Nat.le_of_ble_eq_true rfl) rfl ?_
                      refine ev_iinc (pc' := 135) (v := nI (i15 + 1)) (lv' := [some (.ref 115), some (.int (nI n2)), some (.int (nI a)), some (.int (nI n4)), some (.int (nI b)), some (.int (nI c)), some (.int (nI (i15 + 1)))]) dX8_copy_132 rfl rfl (nI_add i15 1) (Nat.le_of_ble_eq_true rfl) rfl rfl ?_
                      refine ev_goto (tgt := 104) dX8_copy_135 rfl ?_
                      exact ih (i15 + 1) _ (by omega) (by rw [hv17]; exact mfill_s _ _ _ _ _ (by omega) rfl)
                  · refine ev_aload_n (pc' := 96) (i := 0) dX8_copy_95 rfl rfl rfl ?_
                    refine ev_iconst (pc' := 97) (v := 2) dX8_copy_96 rfl ki_2 ?_
                    refine ev_callV (pc' := 100) (rm' := rX8_meets) (b := 115) (av := [.int 2]) (rest := []) co_X8_141 ci_X8_meets cv_X8_meets dX8_copy_97 rfl hs_115 hb_X8 rfl rfl (Nat.le_of_ble_eq_true rfl) ⟨(Nat.le_of_ble_eq_true rfl), (Nat.le_of_ble_eq_true rfl)⟩ ⟨(Nat.le_of_ble_eq_true rfl), (Nat.le_of_ble_eq_true rfl)⟩ ?_
                    refine t_X8_meets 2 (by omega) ?_
                    refine ev_mMt 2 ?_
                    refine ev_iret dX8_copy_100 rfl rfl ⟨Nat.le_refl _, Nat.le_refl _⟩ ?_
                    exact k7 n2 hn2 rfl n4 hn4 rfl c5 c6 c7 c8 c9 c10 c11
          · refine ev_aload_n (pc' := 46) (i := 0) dX8_copy_45 rfl rfl rfl ?_
            refine ev_iconst (pc' := 47) (v := 1) dX8_copy_46 rfl ki_1 ?_
            refine ev_callV (pc' := 50) (rm' := rX8_meets) (b := 115) (av := [.int 1]) (rest := []) co_X8_141 ci_X8_meets cv_X8_meets dX8_copy_47 rfl hs_115 hb_X8 rfl rfl (Nat.le_of_ble_eq_true rfl) ⟨(Nat.le_of_ble_eq_true rfl), (Nat.le_of_ble_eq_true rfl)⟩ ⟨(Nat.le_of_ble_eq_true rfl), (Nat.le_of_ble_eq_true rfl)⟩ ?_
            refine t_X8_meets 1 (by omega) ?_
            refine ev_mMt 1 ?_
            refine ev_iret dX8_copy_50 rfl rfl ⟨Nat.le_refl _, Nat.le_refl _⟩ ?_
            exact k8 n2 hn2 rfl n4 hn4 rfl c5 c6 c7
      · refine ev_aload_n (pc' := 22) (i := 0) dX8_copy_21 rfl rfl rfl ?_
        refine ev_iconst (pc' := 23) (v := 5) dX8_copy_22 rfl ki_5 ?_
        refine ev_callV (pc' := 26) (rm' := rX8_meets) (b := 115) (av := [.int 5]) (rest := []) co_X8_141 ci_X8_meets cv_X8_meets dX8_copy_23 rfl hs_115 hb_X8 rfl rfl (Nat.le_of_ble_eq_true rfl) ⟨(Nat.le_of_ble_eq_true rfl), (Nat.le_of_ble_eq_true rfl)⟩ ⟨(Nat.le_of_ble_eq_true rfl), (Nat.le_of_ble_eq_true rfl)⟩ ?_
        refine t_X8_meets 5 (by omega) ?_
        refine ev_mMt 5 ?_
        refine ev_iret dX8_copy_26 rfl rfl ⟨Nat.le_refl _, Nat.le_refl _⟩ ?_
        exact k9 n2 hn2 rfl n4 hn4 rfl c5
    · refine ev_iconst (pc' := 15) (v := (-1)) dX8_copy_14 rfl ki_m1 ?_
      refine ev_iret dX8_copy_15 rfl rfl ⟨Nat.le_refl _, Nat.le_refl _⟩ ?_
      exact k10 n2 hn2 rfl c3
