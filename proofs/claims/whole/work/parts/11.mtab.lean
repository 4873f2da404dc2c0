set_option maxRecDepth 4000 in
theorem t_X8_meets {g : ma_G} {Post : ma_P} {I : ma_I} {L : ma_L} (w : Nat) (hw : w < 6) (k : Post (some (.int (-3))) HS (ma_up (ma_up I 115 (ma_up (I 115) 0 (nI w))) 116 (ma_up (I 116) w (((I 116) w) + 1))) L RF 146) : CT g yX8_meets cX8_meets 2 (some .int) rX8_meets [.ref 115, .int (nI w)] Post HS I L RF 146 := by
  refine ct_of (lv := [some (.ref 115), some (.int (nI w))]) (by decide) (Nat.le_of_ble_eq_true rfl) rfl ?_
  refine ev_aload_n (pc' := 1) (i := 0) dX8_meets_0 rfl rfl rfl ?_
  refine ev_iload_n (pc' := 2) (i := 1) dX8_meets_1 rfl rfl rfl ?_
  refine ev_putI (pc' := 5) (I' := (ma_up I 115 (ma_up (I 115) 0 (nI w)))) fo_X8_115 dX8_meets_2 rfl hs_115 rfl (fun r hr => by cases hr; rfl) ⟨rfl, rfl⟩ rfl ?_
  refine ev_aload_n (pc' := 6) (i := 0) dX8_meets_5 rfl rfl rfl ?_
  refine ev_getR (pc' := 9) fo_X8_7 dX8_meets_6 rfl hs_115 rfl rf_115_1 ?_
  refine ev_iload_n (pc' := 10) (i := 1) dX8_meets_9 rfl rfl rfl ?_
  refine ev_dup2 (pc' := 11) dX8_meets_10 rfl rfl rfl ?_
  refine ev_iald (pc' := 12) (j := w) (v := (I 116) w) dX8_meets_11 rfl hs_116 rfl (by omega) (Nat.le_of_ble_eq_true rfl) rfl ?_
  refine ev_iconst (pc' := 13) (v := 1) dX8_meets_12 rfl ki_1 ?_
  refine ev_iadd (pc' := 14) (v := ((I 116) w) + 1) dX8_meets_13 rfl rfl ?_
  refine ev_iast (pc' := 15) (j := w) (I' := (ma_up (ma_up I 115 (ma_up (I 115) 0 (nI w))) 116 (ma_up (I 116) w (((I 116) w) + 1)))) dX8_meets_14 rfl hs_116 rfl (by omega) (Nat.le_of_ble_eq_true rfl) rfl ?_
  refine ev_bipush (pc' := 17) (v := (-3)) dX8_meets_15 rfl kb_m3 ?_
  refine ev_iret dX8_meets_17 rfl rfl ⟨Nat.le_refl _, Nat.le_refl _⟩ ?_
  exact k
def mMt (I : ma_I) (w : Nat) : ma_I := (ma_up (ma_up I 115 (ma_up (I 115) 0 (nI w))) 116 (ma_up (I 116) w ((I 116) w + 1)))
theorem ev_mMt {g : ma_G} {y : MethodName} {cc : ByteArray} {nL : Nat} {ret : Option FieldType} {rm : Room} {Z : ma_Z} {pc : Nat} {lv : List (Option Value)} {st : List Value} {sh : ma_S} {I : ma_I} {L : ma_L} {R : ma_R} {n ce sl : Nat} (w : Nat) (k : EV g y cc nL ret rm Z pc lv st sh (mMt I w) L R n ce sl) : EV g y cc nL ret rm Z pc lv st sh (ma_up (ma_up I 115 (ma_up (I 115) 0 (nI w))) 116 (ma_up (I 116) w ((I 116) w + 1))) L R n ce sl := k
set_option maxRecDepth 4000 in
theorem t_X8_layTable {g : ma_G} {Post : ma_P} {I : ma_I} {L : ma_L}  (q : Nat) (hq : q < 12) (k : Post none HS I (mfill L 120 0 16 (fun k => (I 123 (16 * q + k)).toInt64)) RF 146) : CT g yX8_layTable cX8_layTable 3 none rX8_layTable [.ref 115, .int (nI q)] Post HS I L RF 146 := by
  refine ct_of (lv := [some (.ref 115), some (.int (nI q)), none]) (by decide) (Nat.le_of_ble_eq_true rfl) rfl ?_
  refine ev_iconst (pc' := 1) (v := 0) dX8_layTable_0 rfl ki_0 ?_
  refine ev_istore_n (pc' := 2) (i := 2) (lv' := [some (.ref 115), some (.int (nI q)), some (.int 0)]) dX8_layTable_1 rfl rfl (Nat.le_of_ble_eq_true rfl) rfl rfl ?_
  suffices loop1 : ∀ (d2 i4 : Nat) (K3 : ma_L), i4 + d2 = 16 → (K3 = mfill L 120 0 i4 (fun k => (I 123 (16 * q + k)).toInt64)) → EV g yX8_layTable cX8_layTable 3 none rX8_layTable (ma_ZM g rX8_layTable Post) 2 [some (.ref 115), some (.int (nI q)), some (.int (nI i4))] [] HS I K3 RF 146 0 0 from loop1 (16 - 0) 0 L (by omega) (by exact (mfill_0 _ _ _ _).symm)
  intro d2
  induction d2 with
  | zero =>
    intro i4   K3 hi5 hv6
    obtain rfl : i4 = 16 := by omega
    refine ev_iload_n (pc' := 3) (i := 2) dX8_layTable_2 rfl rfl rfl ?_
    refine ev_bipush (pc' := 5) (v := 16) dX8_layTable_3 rfl kb_16 ?_
    refine ev_icmp_ge (tgt := 32) (pc' := 8) dX8_layTable_5 rfl rfl (fun _ => ?_) (fun h => absurd (nx_le (a := 16) (b := 16) (by omega) (by omega)) h)
    refine ev_vret dX8_layTable_32 rfl ⟨Nat.le_refl _, Nat.le_refl _⟩ ?_
    subst hv6
    exact k
  | succ d2 ih =>
    intro i4   K3 hi5 hv6
    refine ev_iload_n (pc' := 3) (i := 2) dX8_layTable_2 rfl rfl rfl ?_
    refine ev_bipush (pc' := 5) (v := 16) dX8_layTable_3 rfl kb_16 ?_
    refine ev_icmp_ge (tgt := 32) (pc' := 8) dX8_layTable_5 rfl rfl (fun h => absurd h (nx_nle (a := 16) (b := i4) (by omega) (by omega))) (fun _ => ?_)
    refine ev_aload_n (pc' := 9) (i := 0) dX8_layTable_8 rfl rfl rfl ?_
    refine ev_getR (pc' := 12) fo_X8_26 dX8_layTable_9 rfl hs_115 rfl rf_115_8 ?_
    refine ev_iload_n (pc' := 13) (i := 2) dX8_layTable_12 rfl rfl rfl ?_
    refine ev_aload_n (pc' := 14) (i := 0) dX8_layTable_13 rfl rfl rfl ?_
    refine ev_getR (pc' := 17) fo_X8_37 dX8_layTable_14 rfl hs_115 rfl rf_115_13 ?_
    refine ev_bipush (pc' := 19) (v := 16) dX8_layTable_17 rfl kb_16 ?_
    refine ev_iload_n (pc' := 20) (i := 1) dX8_layTable_19 rfl rfl rfl ?_
    refine ev_imul (pc' := 21) (v := nI (16 * q)) dX8_layTable_20 rfl (pk_mul 16 q) ?_
    refine ev_iload_n (pc' := 22) (i := 2) dX8_layTable_21 rfl rfl rfl ?_
    refine ev_iadd (pc' := 23) (v := nI ((16 * q) + i4)) dX8_layTable_22 rfl (nI_add (16 * q) i4) ?_
    refine ev_iald (pc' := 24) (j := (16 * q) + i4) (v := (I 123) ((16 * q) + i4)) dX8_layTable_23 rfl hs_123 rfl (by omega) (Nat.le_of_ble_eq_true rfl) rfl ?_
    refine ev_i2l (pc' := 25) (v := Int32.toInt64 ((I 123) ((16 * q) + i4))) dX8_layTable_24 rfl rfl ?_
    refine ev_last (pc' := 26) (j := i4) (L' := (ma_up K3 120 (ma_up (K3 120) i4 (Int32.toInt64 ((I 123) ((16 * q) + i4)))))) dX8_layTable_25 rfl hs_120 rfl (by omega) (Nat.le_of_ble_eq_true rfl) rfl ?_
    refine ev_iinc (pc' := 29) (v := nI (i4 + 1)) (lv' := [some (.ref 115), some (.int (nI q)), some (.int (nI (i4 + 1)))]) dX8_layTable_26 rfl rfl (nI_add i4 1) (Nat.le_of_ble_eq_true rfl) rfl rfl ?_
    refine ev_goto (tgt := 2) dX8_layTable_29 rfl ?_
    exact ih (i4 + 1) _ (by omega) (by rw [hv6]; exact mfill_s _ _ _ _ _ (by omega) rfl)
theorem in_of {x : Int32} {n : Nat} {m : Int32} (hn : n < 2147483647) (hm : m = nI n) (h : (¬ x < 0) ∧ (¬ m < x)) : ∃ j, j < n + 1 ∧ x = nI j := by
  subst hm
  obtain ⟨j, hj, rfl⟩ := nI_of h.1
  refine ⟨j, ?_, rfl⟩
  rcases Nat.lt_or_ge j (n + 1) with q | q
  · exact q
  · exact absurd (nI_lt q hj) h.2
theorem in_nI {j n : Nat} (h : j < n + 1) (hn : n < 2147483647) : (¬ nI j < 0) ∧ (¬ nI n < nI j) := ⟨nI_pos (by omega), nI_nlt (by omega) (by omega)⟩
theorem in_nI8 {j : Nat} (h : j < 8) : (¬ nI j < 0) ∧ (¬ 7 < nI j) := in_nI (n := 7) h (by omega)
theorem in_nI12 {j : Nat} (h : j < 12) : (¬ nI j < 0) ∧ (¬ 11 < nI j) := in_nI (n := 11) h (by omega)
set_option maxRecDepth 4000 in
theorem t_X8_looked {g : ma_G} {Post : ma_P} {I : ma_I} {L : ma_L}  (s : Int32)  (k1 : ¬ ((¬ s < 0) ∧ (¬ 7 < s)) → Post (some (.int (-1))) HS I L RF 146) (k2 : ∀ j, j < 8 → s = nI j → ¬ 0 ≤ I 117 j → Post (some (.int (-3))) HS (mMt I 1) L RF 146) (k3 : ∀ j, j < 8 → s = nI j → 0 ≤ I 117 j → Post (some (.int 0)) HS I L RF 146) : CT g yX8_looked cX8_looked 2 (some .int) rX8_looked [.ref 115, .int s] Post HS I L RF 146 := by
  refine ct_of (lv := [some (.ref 115), some (.int s)]) (by decide) (Nat.le_of_ble_eq_true rfl) rfl ?_
  refine ev_iload_n (pc' := 1) (i := 1) dX8_looked_0 rfl rfl rfl ?_
  refine ev_callS (pc' := 4) (rm' := rX8_isSheet) (av := [.int s]) (rest := []) co_X8_137 cs_X8_isSheet dX8_looked_1 rfl rfl rfl (Nat.le_of_ble_eq_true rfl) ⟨(Nat.le_of_ble_eq_true rfl), (Nat.le_of_ble_eq_true rfl)⟩ ⟨(Nat.le_of_ble_eq_true rfl), (Nat.le_of_ble_eq_true rfl)⟩ ?_
  refine t_X8_isSheet s  ?_
  refine ev_if_ne_b (tgt := 11) (pc' := 7) dX8_looked_4 rfl rfl (fun c1 => ?_) (fun c1 => ?_)
  · obtain ⟨j, hj, rfl⟩ := in_of (n := 7) (by omega) rfl c1
    refine ev_aload_n (pc' := 12) (i := 0) dX8_looked_11 rfl rfl rfl ?_
    refine ev_getR (pc' := 15) fo_X8_17 dX8_looked_12 rfl hs_115 rfl rf_115_5 ?_
    refine ev_iload_n (pc' := 16) (i := 1) dX8_looked_15 rfl rfl rfl ?_
    refine ev_iald (pc' := 17) (j := j) (v := (I 117) j) dX8_looked_16 rfl hs_117 rfl (by omega) (Nat.le_of_ble_eq_true rfl) rfl ?_
    refine ev_if_ge (tgt := 28) (pc' := 20) dX8_looked_17 rfl rfl (fun c2 => ?_) (fun c2 => ?_)
    · refine ev_iconst (pc' := 29) (v := 0) dX8_looked_28 rfl ki_0 ?_
      refine ev_iret dX8_looked_29 rfl rfl ⟨Nat.le_refl _, Nat.le_refl _⟩ ?_
      exact k3 j hj rfl c2
    · refine ev_aload_n (pc' := 21) (i := 0) dX8_looked_20 rfl rfl rfl ?_
      refine ev_iconst (pc' := 22) (v := 1) dX8_looked_21 rfl ki_1 ?_
      refine ev_callV (pc' := 25) (rm' := rX8_meets) (b := 115) (av := [.int 1]) (rest := []) co_X8_141 ci_X8_meets cv_X8_meets dX8_looked_22 rfl hs_115 hb_X8 rfl rfl (Nat.le_of_ble_eq_true rfl) ⟨(Nat.le_of_ble_eq_true rfl), (Nat.le_of_ble_eq_true rfl)⟩ ⟨(Nat.le_of_ble_eq_true rfl), (Nat.le_of_ble_eq_true rfl)⟩ ?_
      refine t_X8_meets 1 (by omega) ?_
      refine ev_mMt 1 ?_
      refine ev_goto (tgt := 29) dX8_looked_25 rfl ?_
      refine ev_iret dX8_looked_29 rfl rfl ⟨Nat.le_refl _, Nat.le_refl _⟩ ?_
      exact k2 j hj rfl c2
  · refine ev_iconst (pc' := 8) (v := (-1)) dX8_looked_7 rfl ki_m1 ?_
    refine ev_goto (tgt := 29) dX8_looked_8 rfl ?_
    refine ev_iret dX8_looked_29 rfl rfl ⟨Nat.le_refl _, Nat.le_refl _⟩ ?_
    exact k1 c1
set_option maxRecDepth 4000 in
theorem t_X8_askedFor {g : ma_G} {Post : ma_P} {I : ma_I} {L : ma_L}  (s : Int32)  (k1 : ¬ ((¬ s < 0) ∧ (¬ 11 < s)) → Post (some (.int (-1))) HS I L RF 146) (k2 : ∀ j, j < 12 → s = nI j → I 122 j = 0 → Post (some (.int (-3))) HS (mMt I 1) L RF 146) (k3 : ∀ j, j < 12 → s = nI j → ¬ I 122 j = 0 → Post (some (.int 0)) HS I L RF 146) : CT g yX8_askedFor cX8_askedFor 2 (some .int) rX8_askedFor [.ref 115, .int s] Post HS I L RF 146 := by
  refine ct_of (lv := [some (.ref 115), some (.int s)]) (by decide) (Nat.le_of_ble_eq_true rfl) rfl ?_
  refine ev_iload_n (pc' := 1) (i := 1) dX8_askedFor_0 rfl rfl rfl ?_
  refine ev_callS (pc' := 4) (rm' := rX8_isGround) (av := [.int s]) (rest := []) co_X8_181 cs_X8_isGround dX8_askedFor_1 rfl rfl rfl (Nat.le_of_ble_eq_true rfl) ⟨(Nat.le_of_ble_eq_true rfl), (Nat.le_of_ble_eq_true rfl)⟩ ⟨(Nat.le_of_ble_eq_true rfl), (Nat.le_of_ble_eq_true rfl)⟩ ?_
  refine t_X8_isGround s  ?_
  refine ev_if_ne_b (tgt := 11) (pc' := 7) dX8_askedFor_4 rfl rfl (fun c1 => ?_) (fun c1 => ?_)
  · obtain ⟨j, hj, rfl⟩ := in_of (n := 11) (by omega) rfl c1
    refine ev_aload_n (pc' := 12) (i := 0) dX8_askedFor_11 rfl rfl rfl ?_
    refine ev_getR (pc' := 15) fo_X8_33 dX8_askedFor_12 rfl hs_115 rfl rf_115_12 ?_
    refine ev_iload_n (pc' := 16) (i := 1) dX8_askedFor_15 rfl rfl rfl ?_
    refine ev_zald (pc' := 17) (j := j) (v := (I 122) j) dX8_askedFor_16 rfl hs_122 rfl (by omega) (Nat.le_of_ble_eq_true rfl) rfl ?_
    refine ev_if_eq (tgt := 24) (pc' := 20) dX8_askedFor_17 rfl rfl (fun c2 => ?_) (fun c2 => ?_)
    · refine ev_aload_n (pc' := 25) (i := 0) dX8_askedFor_24 rfl rfl rfl ?_
      refine ev_iconst (pc' := 26) (v := 1) dX8_askedFor_25 rfl ki_1 ?_
      refine ev_callV (pc' := 29) (rm' := rX8_meets) (b := 115) (av := [.int 1]) (rest := []) co_X8_141 ci_X8_meets cv_X8_meets dX8_askedFor_26 rfl hs_115 hb_X8 rfl rfl (Nat.le_of_ble_eq_true rfl) ⟨(Nat.le_of_ble_eq_true rfl), (Nat.le_of_ble_eq_true rfl)⟩ ⟨(Nat.le_of_ble_eq_true rfl), (Nat.le_of_ble_eq_true rfl)⟩ ?_
      refine t_X8_meets 1 (by omega) ?_
      refine ev_mMt 1 ?_
      refine ev_iret dX8_askedFor_29 rfl rfl ⟨Nat.le_refl _, Nat.le_refl _⟩ ?_
      exact k2 j hj rfl c2
    · refine ev_iconst (pc' := 21) (v := 0) dX8_askedFor_20 rfl ki_0 ?_
      refine ev_goto (tgt := 29) dX8_askedFor_21 rfl ?_
      refine ev_iret dX8_askedFor_29 rfl rfl ⟨Nat.le_refl _, Nat.le_refl _⟩ ?_
      exact k3 j hj rfl c2
  · refine ev_iconst (pc' := 8) (v := (-1)) dX8_askedFor_7 rfl ki_m1 ?_
    refine ev_goto (tgt := 29) dX8_askedFor_8 rfl ?_
    refine ev_iret dX8_askedFor_29 rfl rfl ⟨Nat.le_refl _, Nat.le_refl _⟩ ?_
    exact k1 c1
set_option maxRecDepth 4000 in
theorem t_X8_askedTwo {g : ma_G} {Post : ma_P} {I : ma_I} {L : ma_L}  (s : Int32) (r : Int32)  (k1 : ¬ (((¬ s < 0) ∧ (¬ 11 < s)) ∧ ((¬ r < 0) ∧ (¬ 11 < r))) → Post (some (.int (-1))) HS I L RF 146) (k2 : ∀ j i, j < 12 → i < 12 → s = nI j → r = nI i → ¬ (¬ I 122 j = 0 ∧ ¬ I 122 i = 0) → Post (some (.int (-3))) HS (mMt I 1) L RF 146) (k3 : ∀ j i, j < 12 → i < 12 → s = nI j → r = nI i → ¬ I 122 j = 0 → ¬ I 122 i = 0 → Post (some (.int 0)) HS I L RF 146) : CT g yX8_askedTwo cX8_askedTwo 3 (some .int) rX8_askedTwo [.ref 115, .int s, .int r] Post HS I L RF 146 := by
  refine ct_of (lv := [some (.ref 115), some (.int s), some (.int r)]) (by decide) (Nat.le_of_ble_eq_true rfl) rfl ?_
  refine ev_iload_n (pc' := 1) (i := 1) dX8_askedTwo_0 rfl rfl rfl ?_
  refine ev_callS (pc' := 4) (rm' := rX8_isGround) (av := [.int s]) (rest := []) co_X8_181 cs_X8_isGround dX8_askedTwo_1 rfl rfl rfl (Nat.le_of_ble_eq_true rfl) ⟨(Nat.le_of_ble_eq_true rfl), (Nat.le_of_ble_eq_true rfl)⟩ ⟨(Nat.le_of_ble_eq_true rfl), (Nat.le_of_ble_eq_true rfl)⟩ ?_
  refine t_X8_isGround s  ?_
  refine ev_if_eq_b (tgt := 14) (pc' := 7) dX8_askedTwo_4 rfl rfl (fun c1 => ?_) (fun c1 => ?_)
  · refine ev_iconst (pc' := 15) (v := (-1)) dX8_askedTwo_14 rfl ki_m1 ?_
    refine ev_goto (tgt := 45) dX8_askedTwo_15 rfl ?_
    refine ev_iret dX8_askedTwo_45 rfl rfl ⟨Nat.le_refl _, Nat.le_refl _⟩ ?_
    exact k1 (fun h => c1 h.1)
  · refine ev_iload_n (pc' := 8) (i := 2) dX8_askedTwo_7 rfl rfl rfl ?_
    refine ev_callS (pc' := 11) (rm' := rX8_isGround) (av := [.int r]) (rest := []) co_X8_181 cs_X8_isGround dX8_askedTwo_8 rfl rfl rfl (Nat.le_of_ble_eq_true rfl) ⟨(Nat.le_of_ble_eq_true rfl), (Nat.le_of_ble_eq_true rfl)⟩ ⟨(Nat.le_of_ble_eq_true rfl), (Nat.le_of_ble_eq_true rfl)⟩ ?_
    refine t_X8_isGround r  ?_
    refine ev_if_ne_b (tgt := 18) (pc' := 14) dX8_askedTwo_11 rfl rfl (fun c2 => ?_) (fun c2 => ?_)
    · obtain ⟨j, hj, ej⟩ := in_of (n := 11) (by omega) rfl c1
      obtain ⟨i, hi, ei⟩ := in_of (n := 11) (by omega) rfl c2
      subst ej
      subst ei
      refine ev_aload_n (pc' := 19) (i := 0) dX8_askedTwo_18 rfl rfl rfl ?_
      refine ev_getR (pc' := 22) fo_X8_33 dX8_askedTwo_19 rfl hs_115 rfl rf_115_12 ?_
      refine ev_iload_n (pc' := 23) (i := 1) dX8_askedTwo_22 rfl rfl rfl ?_
      refine ev_zald (pc' := 24) (j := j) (v := (I 122) j) dX8_askedTwo_23 rfl hs_122 rfl (by omega) (Nat.le_of_ble_eq_true rfl) rfl ?_
      refine ev_if_eq (tgt := 40) (pc' := 27) dX8_askedTwo_24 rfl rfl (fun c3 => ?_) (fun c3 => ?_)
      · refine ev_aload_n (pc' := 41) (i := 0) dX8_askedTwo_40 rfl rfl rfl ?_
        refine ev_iconst (pc' := 42) (v := 1) dX8_askedTwo_41 rfl ki_1 ?_
        refine ev_callV (pc' := 45) (rm' := rX8_meets) (b := 115) (av := [.int 1]) (rest := []) co_X8_141 ci_X8_meets cv_X8_meets dX8_askedTwo_42 rfl hs_115 hb_X8 rfl rfl (Nat.le_of_ble_eq_true rfl) ⟨(Nat.le_of_ble_eq_true rfl), (Nat.le_of_ble_eq_true rfl)⟩ ⟨(Nat.le_of_ble_eq_true rfl), (Nat.le_of_ble_eq_true rfl)⟩ ?_
        refine t_X8_meets 1 (by omega) ?_
        refine ev_mMt 1 ?_
        refine ev_iret dX8_askedTwo_45 rfl rfl ⟨Nat.le_refl _, Nat.le_refl _⟩ ?_
        exact k2 j i hj hi rfl rfl (fun h => h.1 c3)
      · refine ev_aload_n (pc' := 28) (i := 0) dX8_askedTwo_27 rfl rfl rfl ?_
        refine ev_getR (pc' := 31) fo_X8_33 dX8_askedTwo_28 rfl hs_115 rfl rf_115_12 ?_
        refine ev_iload_n (pc' := 32) (i := 2) dX8_askedTwo_31 rfl rfl rfl ?_
        refine ev_zald (pc' := 33) (j := i) (v := (I 122) i) dX8_askedTwo_32 rfl hs_122 rfl (by omega) (Nat.le_of_ble_eq_true rfl) rfl ?_
        refine ev_if_eq (tgt := 40) (pc' := 36) dX8_askedTwo_33 rfl rfl (fun c4 => ?_) (fun c4 => ?_)
        · refine ev_aload_n (pc' := 41) (i := 0) dX8_askedTwo_40 rfl rfl rfl ?_
          refine ev_iconst (pc' := 42) (v := 1) dX8_askedTwo_41 rfl ki_1 ?_
          refine ev_callV (pc' := 45) (rm' := rX8_meets) (b := 115) (av := [.int 1]) (rest := []) co_X8_141 ci_X8_meets cv_X8_meets dX8_askedTwo_42 rfl hs_115 hb_X8 rfl rfl (Nat.le_of_ble_eq_true rfl) ⟨(Nat.le_of_ble_eq_true rfl), (Nat.le_of_ble_eq_true rfl)⟩ ⟨(Nat.le_of_ble_eq_true rfl), (Nat.le_of_ble_eq_true rfl)⟩ ?_
          refine t_X8_meets 1 (by omega) ?_
          refine ev_mMt 1 ?_
          refine ev_iret dX8_askedTwo_45 rfl rfl ⟨Nat.le_refl _, Nat.le_refl _⟩ ?_
          exact k2 j i hj hi rfl rfl (fun h => h.2 c4)
        · refine ev_iconst (pc' := 37) (v := 0) dX8_askedTwo_36 rfl ki_0 ?_
          refine ev_goto (tgt := 45) dX8_askedTwo_37 rfl ?_
          refine ev_iret dX8_askedTwo_45 rfl rfl ⟨Nat.le_refl _, Nat.le_refl _⟩ ?_
          exact k3 j i hj hi rfl rfl c3 c4
    · refine ev_iconst (pc' := 15) (v := (-1)) dX8_askedTwo_14 rfl ki_m1 ?_
      refine ev_goto (tgt := 45) dX8_askedTwo_15 rfl ?_
      refine ev_iret dX8_askedTwo_45 rfl rfl ⟨Nat.le_refl _, Nat.le_refl _⟩ ?_
      exact k1 (fun h => c2 h.2)
set_option maxRecDepth 4000 in
theorem t_X8_worthOf {g : ma_G} {Post : ma_P} {I : ma_I} {L : ma_L} (a : Nat) (ha : HS a = (10, 16)) (k : Post (some (.long ((((0 + (((L a) 0) * (((((L a) 5) * ((((L a) 10) * ((L a) 15)) - (((L a) 11) * ((L a) 14)))) - (((L a) 6) * ((((L a) 9) * ((L a) 15)) - (((L a) 11) * ((L a) 13))))) + (((L a) 7) * ((((L a) 9) * ((L a) 14)) - (((L a) 10) * ((L a) 13))))))) + ((-((L a) 1)) * (((((L a) 4) * ((((L a) 10) * ((L a) 15)) - (((L a) 11) * ((L a) 14)))) - (((L a) 6) * ((((L a) 8) * ((L a) 15)) - (((L a) 11) * ((L a) 12))))) + (((L a) 7) * ((((L a) 8) * ((L a) 14)) - (((L a) 10) * ((L a) 12))))))) + (((L a) 2) * (((((L a) 4) * ((((L a) 9) * ((L a) 15)) - (((L a) 11) * ((L a) 13)))) - (((L a) 5) * ((((L a) 8) * ((L a) 15)) - (((L a) 11) * ((L a) 12))))) + (((L a) 7) * ((((L a) 8) * ((L a) 13)) - (((L a) 9) * ((L a) 12))))))) + ((-((L a) 3)) * (((((L a) 4) * ((((L a) 9) * ((L a) 14)) - (((L a) 10) * ((L a) 13)))) - (((L a) 5) * ((((L a) 8) * ((L a) 14)) - (((L a) 10) * ((L a) 12))))) + (((L a) 6) * ((((L a) 8) * ((L a) 13)) - (((L a) 9) * ((L a) 12))))))))) HS I L RF 146) : CT g yX8_worthOf cX8_worthOf 9 (some .long) rX8_worthOf [.ref a] Post HS I L RF 146 := by
  refine ct_of (lv := [some (.ref a), none, none, none, none, none, none, none, none]) (by decide) (Nat.le_of_ble_eq_true rfl) rfl ?_
  refine ev_lconst (pc' := 1) (v := 0) dX8_worthOf_0 rfl kl_0 ?_
  refine ev_lstore_n (pc' := 2) (i := 1) (lv' := [some (.ref a), some (.long 0), none, none, none, none, none, none, none]) dX8_worthOf_1 rfl rfl (Nat.le_of_ble_eq_true rfl) rfl rfl ?_
  refine ev_iconst (pc' := 3) (v := 0) dX8_worthOf_2 rfl ki_0 ?_
  refine ev_istore_n (pc' := 4) (i := 3) (lv' := [some (.ref a), some (.long 0), none, some (.int 0), none, none, none, none, none]) dX8_worthOf_3 rfl rfl (Nat.le_of_ble_eq_true rfl) rfl rfl ?_
  refine ev_iload_n (pc' := 5) (i := 3) dX8_worthOf_4 rfl rfl rfl ?_
  refine ev_iconst (pc' := 6) (v := 4) dX8_worthOf_5 rfl ki_4 ?_
  refine ev_icmp_ge (tgt := 193) (pc' := 9) dX8_worthOf_6 rfl rfl (fun h => absurd h (by decide)) (fun _ => ?_)
  refine ev_iload_n (pc' := 10) (i := 3) dX8_worthOf_9 rfl rfl rfl ?_
  refine ev_if_ne (tgt := 17) (pc' := 13) dX8_worthOf_10 rfl rfl (fun h => absurd (by decide) h) (fun _ => ?_)
  refine ev_iconst (pc' := 14) (v := 1) dX8_worthOf_13 rfl ki_1 ?_
  refine ev_goto (tgt := 18) dX8_worthOf_14 rfl ?_
  refine ev_istore (pc' := 20) (lv' := [some (.ref a), some (.long 0), none, some (.int 0), some (.int 1), none, none, none, none]) dX8_worthOf_18 rfl (Nat.le_of_ble_eq_true rfl) rfl rfl ?_
  refine ev_iload_n (pc' := 21) (i := 3) dX8_worthOf_20 rfl rfl rfl ?_
  refine ev_iconst (pc' := 22) (v := 2) dX8_worthOf_21 rfl ki_2 ?_
  refine ev_icmp_ge (tgt := 29) (pc' := 25) dX8_worthOf_22 rfl rfl (fun h => absurd h (by decide)) (fun _ => ?_)
  refine ev_iconst (pc' := 26) (v := 2) dX8_worthOf_25 rfl ki_2 ?_
  refine ev_goto (tgt := 30) dX8_worthOf_26 rfl ?_
  refine ev_istore (pc' := 32) (lv' := [some (.ref a), some (.long 0), none, some (.int 0), some (.int 1), some (.int 2), none, none, none]) dX8_worthOf_30 rfl (Nat.le_of_ble_eq_true rfl) rfl rfl ?_
  refine ev_iload_n (pc' := 33) (i := 3) dX8_worthOf_32 rfl rfl rfl ?_
  refine ev_iconst (pc' := 34) (v := 3) dX8_worthOf_33 rfl ki_3 ?_
  refine ev_icmp_ge (tgt := 41) (pc' := 37) dX8_worthOf_34 rfl rfl (fun h => absurd h (by decide)) (fun _ => ?_)
  refine ev_iconst (pc' := 38) (v := 3) dX8_worthOf_37 rfl ki_3 ?_
  refine ev_goto (tgt := 42) dX8_worthOf_38 rfl ?_
  refine ev_istore (pc' := 44) (lv' := [some (.ref a), some (.long 0), none, some (.int 0), some (.int 1), some (.int 2), some (.int 3), none, none]) dX8_worthOf_42 rfl (Nat.le_of_ble_eq_true rfl) rfl rfl ?_
  refine ev_aload_n (pc' := 45) (i := 0) dX8_worthOf_44 rfl rfl rfl ?_
  refine ev_iconst (pc' := 46) (v := 4) dX8_worthOf_45 rfl ki_4 ?_
  refine ev_iload (pc' := 48) dX8_worthOf_46 rfl rfl ?_
  refine ev_iadd (pc' := 49) (v := 5) dX8_worthOf_48 rfl (by decide) ?_
  refine ev_lald (pc' := 50) (j := 5) (v := (L a) 5) dX8_worthOf_49 rfl ha rfl (Nat.le_of_ble_eq_true rfl) (Nat.le_of_ble_eq_true rfl) rfl ?_
  refine ev_aload_n (pc' := 51) (i := 0) dX8_worthOf_50 rfl rfl rfl ?_
  refine ev_bipush (pc' := 53) (v := 8) dX8_worthOf_51 rfl kb_8 ?_
  refine ev_iload (pc' := 55) dX8_worthOf_53 rfl rfl ?_
  refine ev_iadd (pc' := 56) (v := 10) dX8_worthOf_55 rfl (by decide) ?_
  refine ev_lald (pc' := 57) (j := 10) (v := (L a) 10) dX8_worthOf_56 rfl ha rfl (Nat.le_of_ble_eq_true rfl) (Nat.le_of_ble_eq_true rfl) rfl ?_
  refine ev_aload_n (pc' := 58) (i := 0) dX8_worthOf_57 rfl rfl rfl ?_
  refine ev_bipush (pc' := 60) (v := 12) dX8_worthOf_58 rfl kb_12 ?_
  refine ev_iload (pc' := 62) dX8_worthOf_60 rfl rfl ?_
  refine ev_iadd (pc' := 63) (v := 15) dX8_worthOf_62 rfl (by decide) ?_
  refine ev_lald (pc' := 64) (j := 15) (v := (L a) 15) dX8_worthOf_63 rfl ha rfl (Nat.le_of_ble_eq_true rfl) (Nat.le_of_ble_eq_true rfl) rfl ?_
  refine ev_lmul (pc' := 65) (v := ((L a) 10) * ((L a) 15)) dX8_worthOf_64 rfl rfl ?_
  refine ev_aload_n (pc' := 66) (i := 0) dX8_worthOf_65 rfl rfl rfl ?_
  refine ev_bipush (pc' := 68) (v := 8) dX8_worthOf_66 rfl kb_8 ?_
  refine ev_iload (pc' := 70) dX8_worthOf_68 rfl rfl ?_
  refine ev_iadd (pc' := 71) (v := 11) dX8_worthOf_70 rfl (by decide) ?_
  refine ev_lald (pc' := 72) (j := 11) (v := (L a) 11) dX8_worthOf_71 rfl ha rfl (Nat.le_of_ble_eq_true rfl) (Nat.le_of_ble_eq_true rfl) rfl ?_
  refine ev_aload_n (pc' := 73) (i := 0) dX8_worthOf_72 rfl rfl rfl ?_
  refine ev_bipush (pc' := 75) (v := 12) dX8_worthOf_73 rfl kb_12 ?_
  refine ev_iload (pc' := 77) dX8_worthOf_75 rfl rfl ?_
  refine ev_iadd (pc' := 78) (v := 14) dX8_worthOf_77 rfl (by decide) ?_
  refine ev_lald (pc' := 79) (j := 14) (v := (L a) 14) dX8_worthOf_78 rfl ha rfl (Nat.le_of_ble_eq_true rfl) (Nat.le_of_ble_eq_true rfl) rfl ?_
  refine ev_lmul (pc' := 80) (v := ((L a) 11) * ((L a) 14)) dX8_worthOf_79 rfl rfl ?_
  refine ev_lsub (pc' := 81) (v := (((L a) 10) * ((L a) 15)) - (((L a) 11) * ((L a) 14))) dX8_worthOf_80 rfl rfl ?_
  refine ev_lmul (pc' := 82) (v := ((L a) 5) * ((((L a) 10) * ((L a) 15)) - (((L a) 11) * ((L a) 14)))) dX8_worthOf_81 rfl rfl ?_
  refine ev_aload_n (pc' := 83) (i := 0) dX8_worthOf_82 rfl rfl rfl ?_
  refine ev_iconst (pc' := 84) (v := 4) dX8_worthOf_83 rfl ki_4 ?_
  refine ev_iload (pc' := 86) dX8_worthOf_84 rfl rfl ?_
  refine ev_iadd (pc' := 87) (v := 6) dX8_worthOf_86 rfl (by decide) ?_
  refine ev_lald (pc' := 88) (j := 6) (v := (L a) 6) dX8_worthOf_87 rfl ha rfl (Nat.le_of_ble_eq_true rfl) (Nat.le_of_ble_eq_true rfl) rfl ?_
  refine ev_aload_n (pc' := 89) (i := 0) dX8_worthOf_88 rfl rfl rfl ?_
  refine ev_bipush (pc' := 91) (v := 8) dX8_worthOf_89 rfl kb_8 ?_
  refine ev_iload (pc' := 93) dX8_worthOf_91 rfl rfl ?_
  refine ev_iadd (pc' := 94) (v := 9) dX8_worthOf_93 rfl (by decide) ?_
  refine ev_lald (pc' := 95) (j := 9) (v := (L a) 9) dX8_worthOf_94 rfl ha rfl (Nat.le_of_ble_eq_true rfl) (Nat.le_of_ble_eq_true rfl) rfl ?_
  refine ev_aload_n (pc' := 96) (i := 0) dX8_worthOf_95 rfl rfl rfl ?_
  refine ev_bipush (pc' := 98) (v := 12) dX8_worthOf_96 rfl kb_12 ?_
  refine ev_iload (pc' := 100) dX8_worthOf_98 rfl rfl ?_
  refine ev_iadd (pc' := 101) (v := 15) dX8_worthOf_100 rfl (by decide) ?_
  refine ev_lald (pc' := 102) (j := 15) (v := (L a) 15) dX8_worthOf_101 rfl ha rfl (Nat.le_of_ble_eq_true rfl) (Nat.le_of_ble_eq_true rfl) rfl ?_
  refine ev_lmul (pc' := 103) (v := ((L a) 9) * ((L a) 15)) dX8_worthOf_102 rfl rfl ?_
  refine ev_aload_n (pc' := 104) (i := 0) dX8_worthOf_103 rfl rfl rfl ?_
  refine ev_bipush (pc' := 106) (v := 8) dX8_worthOf_104 rfl kb_8 ?_
  refine ev_iload (pc' := 108) dX8_worthOf_106 rfl rfl ?_
  refine ev_iadd (pc' := 109) (v := 11) dX8_worthOf_108 rfl (by decide) ?_
  refine ev_lald (pc' := 110) (j := 11) (v := (L a) 11) dX8_worthOf_109 rfl ha rfl (Nat.le_of_ble_eq_true rfl) (Nat.le_of_ble_eq_true rfl) rfl ?_
  refine ev_aload_n (pc' := 111) (i := 0) dX8_worthOf_110 rfl rfl rfl ?_
  refine ev_bipush (pc' := 113) (v := 12) dX8_worthOf_111 rfl kb_12 ?_
  refine ev_iload (pc' := 115) dX8_worthOf_113 rfl rfl ?_
  refine ev_iadd (pc' := 116) (v := 13) dX8_worthOf_115 rfl (by decide) ?_
  refine ev_lald (pc' := 117) (j := 13) (v := (L a) 13) dX8_worthOf_116 rfl ha rfl (Nat.le_of_ble_eq_true rfl) (Nat.le_of_ble_eq_true rfl) rfl ?_
  refine ev_lmul (pc' := 118) (v := ((L a) 11) * ((L a) 13)) dX8_worthOf_117 rfl rfl ?_
  refine ev_lsub (pc' := 119) (v := (((L a) 9) * ((L a) 15)) - (((L a) 11) * ((L a) 13))) dX8_worthOf_118 rfl rfl ?_
  refine ev_lmul (pc' := 120) (v := ((L a) 6) * ((((L a) 9) * ((L a) 15)) - (((L a) 11) * ((L a) 13)))) dX8_worthOf_119 rfl rfl ?_
  refine ev_lsub (pc' := 121) (v := (((L a) 5) * ((((L a) 10) * ((L a) 15)) - (((L a) 11) * ((L a) 14)))) - (((L a) 6) * ((((L a) 9) * ((L a) 15)) - (((L a) 11) * ((L a) 13))))) dX8_worthOf_120 rfl rfl ?_
  refine ev_aload_n (pc' := 122) (i := 0) dX8_worthOf_121 rfl rfl rfl ?_
  refine ev_iconst (pc' := 123) (v := 4) dX8_worthOf_122 rfl ki_4 ?_
  refine ev_iload (pc' := 125) dX8_worthOf_123 rfl rfl ?_
  refine ev_iadd (pc' := 126) (v := 7) dX8_worthOf_125 rfl (by decide) ?_
  refine ev_lald (pc' := 127) (j := 7) (v := (L a) 7) dX8_worthOf_126 rfl ha rfl (Nat.le_of_ble_eq_true rfl) (Nat.le_of_ble_eq_true rfl) rfl ?_
  refine ev_aload_n (pc' := 128) (i := 0) dX8_worthOf_127 rfl rfl rfl ?_
  refine ev_bipush (pc' := 130) (v := 8) dX8_worthOf_128 rfl kb_8 ?_
  refine ev_iload (pc' := 132) dX8_worthOf_130 rfl rfl ?_
  refine ev_iadd (pc' := 133) (v := 9) dX8_worthOf_132 rfl (by decide) ?_
  refine ev_lald (pc' := 134) (j := 9) (v := (L a) 9) dX8_worthOf_133 rfl ha rfl (Nat.le_of_ble_eq_true rfl) (Nat.le_of_ble_eq_true rfl) rfl ?_
  refine ev_aload_n (pc' := 135) (i := 0) dX8_worthOf_134 rfl rfl rfl ?_
  refine ev_bipush (pc' := 137) (v := 12) dX8_worthOf_135 rfl kb_12 ?_
  refine ev_iload (pc' := 139) dX8_worthOf_137 rfl rfl ?_
  refine ev_iadd (pc' := 140) (v := 14) dX8_worthOf_139 rfl (by decide) ?_
  refine ev_lald (pc' := 141) (j := 14) (v := (L a) 14) dX8_worthOf_140 rfl ha rfl (Nat.le_of_ble_eq_true rfl) (Nat.le_of_ble_eq_true rfl) rfl ?_
  refine ev_lmul (pc' := 142) (v := ((L a) 9) * ((L a) 14)) dX8_worthOf_141 rfl rfl ?_
  refine ev_aload_n (pc' := 143) (i := 0) dX8_worthOf_142 rfl rfl rfl ?_
  refine ev_bipush (pc' := 145) (v := 8) dX8_worthOf_143 rfl kb_8 ?_
  refine ev_iload (pc' := 147) dX8_worthOf_145 rfl rfl ?_
  refine ev_iadd (pc' := 148) (v := 10) dX8_worthOf_147 rfl (by decide) ?_
  refine ev_lald (pc' := 149) (j := 10) (v := (L a) 10) dX8_worthOf_148 rfl ha rfl (Nat.le_of_ble_eq_true rfl) (Nat.le_of_ble_eq_true rfl) rfl ?_
  refine ev_aload_n (pc' := 150) (i := 0) dX8_worthOf_149 rfl rfl rfl ?_
  refine ev_bipush (pc' := 152) (v := 12) dX8_worthOf_150 rfl kb_12 ?_
  refine ev_iload (pc' := 154) dX8_worthOf_152 rfl rfl ?_
  refine ev_iadd (pc' := 155) (v := 13) dX8_worthOf_154 rfl (by decide) ?_
  refine ev_lald (pc' := 156) (j := 13) (v := (L a) 13) dX8_worthOf_155 rfl ha rfl (Nat.le_of_ble_eq_true rfl) (Nat.le_of_ble_eq_true rfl) rfl ?_
  refine ev_lmul (pc' := 157) (v := ((L a) 10) * ((L a) 13)) dX8_worthOf_156 rfl rfl ?_
  refine ev_lsub (pc' := 158) (v := (((L a) 9) * ((L a) 14)) - (((L a) 10) * ((L a) 13))) dX8_worthOf_157 rfl rfl ?_
  refine ev_lmul (pc' := 159) (v := ((L a) 7) * ((((L a) 9) * ((L a) 14)) - (((L a) 10) * ((L a) 13)))) dX8_worthOf_158 rfl rfl ?_
  refine ev_ladd (pc' := 160) (v := ((((L a) 5) * ((((L a) 10) * ((L a) 15)) - (((L a) 11) * ((L a) 14)))) - (((L a) 6) * ((((L a) 9) * ((L a) 15)) - (((L a) 11) * ((L a) 13))))) + (((L a) 7) * ((((L a) 9) * ((L a) 14)) - (((L a) 10) * ((L a) 13))))) dX8_worthOf_159 rfl rfl ?_
  refine ev_lstore (pc' := 162) (lv' := [some (.ref a), some (.long 0), none, some (.int 0), some (.int 1), some (.int 2), some (.int 3), some (.long (((((L a) 5) * ((((L a) 10) * ((L a) 15)) - (((L a) 11) * ((L a) 14)))) - (((L a) 6) * ((((L a) 9) * ((L a) 15)) - (((L a) 11) * ((L a) 13))))) + (((L a) 7) * ((((L a) 9) * ((L a) 14)) - (((L a) 10) * ((L a) 13)))))), none]) dX8_worthOf_160 rfl (Nat.le_of_ble_eq_true rfl) rfl rfl ?_
  refine ev_lload_n (pc' := 163) (i := 1) dX8_worthOf_162 rfl rfl rfl ?_
  refine ev_iload_n (pc' := 164) (i := 3) dX8_worthOf_163 rfl rfl rfl ?_
  refine ev_iconst (pc' := 165) (v := 2) dX8_worthOf_164 rfl ki_2 ?_
  refine ev_irem (pc' := 166) (v := 0) dX8_worthOf_165 rfl (by decide) (by decide) ?_
  refine ev_if_ne (tgt := 178) (pc' := 169) dX8_worthOf_166 rfl rfl (fun h => absurd (by decide) h) (fun _ => ?_)
  refine ev_aload_n (pc' := 170) (i := 0) dX8_worthOf_169 rfl rfl rfl ?_
  refine ev_iload_n (pc' := 171) (i := 3) dX8_worthOf_170 rfl rfl rfl ?_
  refine ev_lald (pc' := 172) (j := 0) (v := (L a) 0) dX8_worthOf_171 rfl ha rfl (Nat.le_of_ble_eq_true rfl) (Nat.le_of_ble_eq_true rfl) rfl ?_
  refine ev_lload (pc' := 174) dX8_worthOf_172 rfl rfl ?_
  refine ev_lmul (pc' := 175) (v := ((L a) 0) * (((((L a) 5) * ((((L a) 10) * ((L a) 15)) - (((L a) 11) * ((L a) 14)))) - (((L a) 6) * ((((L a) 9) * ((L a) 15)) - (((L a) 11) * ((L a) 13))))) + (((L a) 7) * ((((L a) 9) * ((L a) 14)) - (((L a) 10) * ((L a) 13)))))) dX8_worthOf_174 rfl rfl ?_
  refine ev_goto (tgt := 185) dX8_worthOf_175 rfl ?_
  refine ev_ladd (pc' := 186) (v := 0 + (((L a) 0) * (((((L a) 5) * ((((L a) 10) * ((L a) 15)) - (((L a) 11) * ((L a) 14)))) - (((L a) 6) * ((((L a) 9) * ((L a) 15)) - (((L a) 11) * ((L a) 13))))) + (((L a) 7) * ((((L a) 9) * ((L a) 14)) - (((L a) 10) * ((L a) 13))))))) dX8_worthOf_185 rfl rfl ?_
  refine ev_lstore_n (pc' := 187) (i := 1) (lv' := [some (.ref a), some (.long (0 + (((L a) 0) * (((((L a) 5) * ((((L a) 10) * ((L a) 15)) - (((L a) 11) * ((L a) 14)))) - (((L a) 6) * ((((L a) 9) * ((L a) 15)) - (((L a) 11) * ((L a) 13))))) + (((L a) 7) * ((((L a) 9) * ((L a) 14)) - (((L a) 10) * ((L a) 13)))))))), none, some (.int 0), some (.int 1), some (.int 2), some (.int 3), some (.long (((((L a) 5) * ((((L a) 10) * ((L a) 15)) - (((L a) 11) * ((L a) 14)))) - (((L a) 6) * ((((L a) 9) * ((L a) 15)) - (((L a) 11) * ((L a) 13))))) + (((L a) 7) * ((((L a) 9) * ((L a) 14)) - (((L a) 10) * ((L a) 13)))))), none]) dX8_worthOf_186 rfl rfl (Nat.le_of_ble_eq_true rfl) rfl rfl ?_
  refine ev_iinc (pc' := 190) (v := 1) (lv' := [some (.ref a), some (.long (0 + (((L a) 0) * (((((L a) 5) * ((((L a) 10) * ((L a) 15)) - (((L a) 11) * ((L a) 14)))) - (((L a) 6) * ((((L a) 9) * ((L a) 15)) - (((L a) 11) * ((L a) 13))))) + (((L a) 7) * ((((L a) 9) * ((L a) 14)) - (((L a) 10) * ((L a) 13)))))))), none, some (.int 1), some (.int 1), some (.int 2), some (.int 3), some (.long (((((L a) 5) * ((((L a) 10) * ((L a) 15)) - (((L a) 11) * ((L a) 14)))) - (((L a) 6) * ((((L a) 9) * ((L a) 15)) - (((L a) 11) * ((L a) 13))))) + (((L a) 7) * ((((L a) 9) * ((L a) 14)) - (((L a) 10) * ((L a) 13)))))), none]) dX8_worthOf_187 rfl rfl (by decide) (Nat.le_of_ble_eq_true rfl) rfl rfl ?_
  refine ev_goto (tgt := 4) dX8_worthOf_190 rfl ?_
  refine ev_iload_n (pc' := 5) (i := 3) dX8_worthOf_4 rfl rfl rfl ?_
  refine ev_iconst (pc' := 6) (v := 4) dX8_worthOf_5 rfl ki_4 ?_
  refine ev_icmp_ge (tgt := 193) (pc' := 9) dX8_worthOf_6 rfl rfl (fun h => absurd h (by decide)) (fun _ => ?_)
  refine ev_iload_n (pc' := 10) (i := 3) dX8_worthOf_9 rfl rfl rfl ?_
  refine ev_if_ne (tgt := 17) (pc' := 13) dX8_worthOf_10 rfl rfl (fun _ => ?_) (fun h => absurd h (by decide))
  refine ev_iconst (pc' := 18) (v := 0) dX8_worthOf_17 rfl ki_0 ?_
  refine ev_istore (pc' := 20) (lv' := [some (.ref a), some (.long (0 + (((L a) 0) * (((((L a) 5) * ((((L a) 10) * ((L a) 15)) - (((L a) 11) * ((L a) 14)))) - (((L a) 6) * ((((L a) 9) * ((L a) 15)) - (((L a) 11) * ((L a) 13))))) + (((L a) 7) * ((((L a) 9) * ((L a) 14)) - (((L a) 10) * ((L a) 13)))))))), none, some (.int 1), some (.int 0), some (.int 2), some (.int 3), some (.long (((((L a) 5) * ((((L a) 10) * ((L a) 15)) - (((L a) 11) * ((L a) 14)))) - (((L a) 6) * ((((L a) 9) * ((L a) 15)) - (((L a) 11) * ((L a) 13))))) + (((L a) 7) * ((((L a) 9) * ((L a) 14)) - (((L a) 10) * ((L a) 13)))))), none]) dX8_worthOf_18 rfl (Nat.le_of_ble_eq_true rfl) rfl rfl ?_
  refine ev_iload_n (pc' := 21) (i := 3) dX8_worthOf_20 rfl rfl rfl ?_
  refine ev_iconst (pc' := 22) (v := 2) dX8_worthOf_21 rfl ki_2 ?_
  refine ev_icmp_ge (tgt := 29) (pc' := 25) dX8_worthOf_22 rfl rfl (fun h => absurd h (by decide)) (fun _ => ?_)
  refine ev_iconst (pc' := 26) (v := 2) dX8_worthOf_25 rfl ki_2 ?_
  refine ev_goto (tgt := 30) dX8_worthOf_26 rfl ?_
  refine ev_istore (pc' := 32) (lv' := [some (.ref a), some (.long (0 + (((L a) 0) * (((((L a) 5) * ((((L a) 10) * ((L a) 15)) - (((L a) 11) * ((L a) 14)))) - (((L a) 6) * ((((L a) 9) * ((L a) 15)) - (((L a) 11) * ((L a) 13))))) + (((L a) 7) * ((((L a) 9) * ((L a) 14)) - (((L a) 10) * ((L a) 13)))))))), none, some (.int 1), some (.int 0), some (.int 2), some (.int 3), some (.long (((((L a) 5) * ((((L a) 10) * ((L a) 15)) - (((L a) 11) * ((L a) 14)))) - (((L a) 6) * ((((L a) 9) * ((L a) 15)) - (((L a) 11) * ((L a) 13))))) + (((L a) 7) * ((((L a) 9) * ((L a) 14)) - (((L a) 10) * ((L a) 13)))))), none]) dX8_worthOf_30 rfl (Nat.le_of_ble_eq_true rfl) rfl rfl ?_
  refine ev_iload_n (pc' := 33) (i := 3) dX8_worthOf_32 rfl rfl rfl ?_
  refine ev_iconst (pc' := 34) (v := 3) dX8_worthOf_33 rfl ki_3 ?_
  refine ev_icmp_ge (tgt := 41) (pc' := 37) dX8_worthOf_34 rfl rfl (fun h => absurd h (by decide)) (fun _ => ?_)
  refine ev_iconst (pc' := 38) (v := 3) dX8_worthOf_37 rfl ki_3 ?_
  refine ev_goto (tgt := 42) dX8_worthOf_38 rfl ?_
  refine ev_istore (pc' := 44) (lv' := [some (.ref a), some (.long (0 + (((L a) 0) * (((((L a) 5) * ((((L a) 10) * ((L a) 15)) - (((L a) 11) * ((L a) 14)))) - (((L a) 6) * ((((L a) 9) * ((L a) 15)) - (((L a) 11) * ((L a) 13))))) + (((L a) 7) * ((((L a) 9) * ((L a) 14)) - (((L a) 10) * ((L a) 13)))))))), none, some (.int 1), some (.int 0), some (.int 2), some (.int 3), some (.long (((((L a) 5) * ((((L a) 10) * ((L a) 15)) - (((L a) 11) * ((L a) 14)))) - (((L a) 6) * ((((L a) 9) * ((L a) 15)) - (((L a) 11) * ((L a) 13))))) + (((L a) 7) * ((((L a) 9) * ((L a) 14)) - (((L a) 10) * ((L a) 13)))))), none]) dX8_worthOf_42 rfl (Nat.le_of_ble_eq_true rfl) rfl rfl ?_
  refine ev_aload_n (pc' := 45) (i := 0) dX8_worthOf_44 rfl rfl rfl ?_
  refine ev_iconst (pc' := 46) (v := 4) dX8_worthOf_45 rfl ki_4 ?_
  refine ev_iload (pc' := 48) dX8_worthOf_46 rfl rfl ?_
  refine ev_iadd (pc' := 49) (v := 4) dX8_worthOf_48 rfl (by decide) ?_
  refine ev_lald (pc' := 50) (j := 4) (v := (L a) 4) dX8_worthOf_49 rfl ha rfl (Nat.le_of_ble_eq_true rfl) (Nat.le_of_ble_eq_true rfl) rfl ?_
  refine ev_aload_n (pc' := 51) (i := 0) dX8_worthOf_50 rfl rfl rfl ?_
  refine ev_bipush (pc' := 53) (v := 8) dX8_worthOf_51 rfl kb_8 ?_
  refine ev_iload (pc' := 55) dX8_worthOf_53 rfl rfl ?_
  refine ev_iadd (pc' := 56) (v := 10) dX8_worthOf_55 rfl (by decide) ?_
  refine ev_lald (pc' := 57) (j := 10) (v := (L a) 10) dX8_worthOf_56 rfl ha rfl (Nat.le_of_ble_eq_true rfl) (Nat.le_of_ble_eq_true rfl) rfl ?_
  refine ev_aload_n (pc' := 58) (i := 0) dX8_worthOf_57 rfl rfl rfl ?_
  refine ev_bipush (pc' := 60) (v := 12) dX8_worthOf_58 rfl kb_12 ?_
  refine ev_iload (pc' := 62) dX8_worthOf_60 rfl rfl ?_
  refine ev_iadd (pc' := 63) (v := 15) dX8_worthOf_62 rfl (by decide) ?_
  refine ev_lald (pc' := 64) (j := 15) (v := (L a) 15) dX8_worthOf_63 rfl ha rfl (Nat.le_of_ble_eq_true rfl) (Nat.le_of_ble_eq_true rfl) rfl ?_
  refine ev_lmul (pc' := 65) (v := ((L a) 10) * ((L a) 15)) dX8_worthOf_64 rfl rfl ?_
  refine ev_aload_n (pc' := 66) (i := 0) dX8_worthOf_65 rfl rfl rfl ?_
  refine ev_bipush (pc' := 68) (v := 8) dX8_worthOf_66 rfl kb_8 ?_
  refine ev_iload (pc' := 70) dX8_worthOf_68 rfl rfl ?_
  refine ev_iadd (pc' := 71) (v := 11) dX8_worthOf_70 rfl (by decide) ?_
  refine ev_lald (pc' := 72) (j := 11) (v := (L a) 11) dX8_worthOf_71 rfl ha rfl (Nat.le_of_ble_eq_true rfl) (Nat.le_of_ble_eq_true rfl) rfl ?_
  refine ev_aload_n (pc' := 73) (i := 0) dX8_worthOf_72 rfl rfl rfl ?_
  refine ev_bipush (pc' := 75) (v := 12) dX8_worthOf_73 rfl kb_12 ?_
  refine ev_iload (pc' := 77) dX8_worthOf_75 rfl rfl ?_
  refine ev_iadd (pc' := 78) (v := 14) dX8_worthOf_77 rfl (by decide) ?_
  refine ev_lald (pc' := 79) (j := 14) (v := (L a) 14) dX8_worthOf_78 rfl ha rfl (Nat.le_of_ble_eq_true rfl) (Nat.le_of_ble_eq_true rfl) rfl ?_
  refine ev_lmul (pc' := 80) (v := ((L a) 11) * ((L a) 14)) dX8_worthOf_79 rfl rfl ?_
  refine ev_lsub (pc' := 81) (v := (((L a) 10) * ((L a) 15)) - (((L a) 11) * ((L a) 14))) dX8_worthOf_80 rfl rfl ?_
  refine ev_lmul (pc' := 82) (v := ((L a) 4) * ((((L a) 10) * ((L a) 15)) - (((L a) 11) * ((L a) 14)))) dX8_worthOf_81 rfl rfl ?_
  refine ev_aload_n (pc' := 83) (i := 0) dX8_worthOf_82 rfl rfl rfl ?_
  refine ev_iconst (pc' := 84) (v := 4) dX8_worthOf_83 rfl ki_4 ?_
  refine ev_iload (pc' := 86) dX8_worthOf_84 rfl rfl ?_
  refine ev_iadd (pc' := 87) (v := 6) dX8_worthOf_86 rfl (by decide) ?_
  refine ev_lald (pc' := 88) (j := 6) (v := (L a) 6) dX8_worthOf_87 rfl ha rfl (Nat.le_of_ble_eq_true rfl) (Nat.le_of_ble_eq_true rfl) rfl ?_
  refine ev_aload_n (pc' := 89) (i := 0) dX8_worthOf_88 rfl rfl rfl ?_
  refine ev_bipush (pc' := 91) (v := 8) dX8_worthOf_89 rfl kb_8 ?_
  refine ev_iload (pc' := 93) dX8_worthOf_91 rfl rfl ?_
  refine ev_iadd (pc' := 94) (v := 8) dX8_worthOf_93 rfl (by decide) ?_
  refine ev_lald (pc' := 95) (j := 8) (v := (L a) 8) dX8_worthOf_94 rfl ha rfl (Nat.le_of_ble_eq_true rfl) (Nat.le_of_ble_eq_true rfl) rfl ?_
  refine ev_aload_n (pc' := 96) (i := 0) dX8_worthOf_95 rfl rfl rfl ?_
  refine ev_bipush (pc' := 98) (v := 12) dX8_worthOf_96 rfl kb_12 ?_
  refine ev_iload (pc' := 100) dX8_worthOf_98 rfl rfl ?_
  refine ev_iadd (pc' := 101) (v := 15) dX8_worthOf_100 rfl (by decide) ?_
  refine ev_lald (pc' := 102) (j := 15) (v := (L a) 15) dX8_worthOf_101 rfl ha rfl (Nat.le_of_ble_eq_true rfl) (Nat.le_of_ble_eq_true rfl) rfl ?_
  refine ev_lmul (pc' := 103) (v := ((L a) 8) * ((L a) 15)) dX8_worthOf_102 rfl rfl ?_
  refine ev_aload_n (pc' := 104) (i := 0) dX8_worthOf_103 rfl rfl rfl ?_
  refine ev_bipush (pc' := 106) (v := 8) dX8_worthOf_104 rfl kb_8 ?_
  refine ev_iload (pc' := 108) dX8_worthOf_106 rfl rfl ?_
  refine ev_iadd (pc' := 109) (v := 11) dX8_worthOf_108 rfl (by decide) ?_
  refine ev_lald (pc' := 110) (j := 11) (v := (L a) 11) dX8_worthOf_109 rfl ha rfl (Nat.le_of_ble_eq_true rfl) (Nat.le_of_ble_eq_true rfl) rfl ?_
  refine ev_aload_n (pc' := 111) (i := 0) dX8_worthOf_110 rfl rfl rfl ?_
  refine ev_bipush (pc' := 113) (v := 12) dX8_worthOf_111 rfl kb_12 ?_
  refine ev_iload (pc' := 115) dX8_worthOf_113 rfl rfl ?_
  refine ev_iadd (pc' := 116) (v := 12) dX8_worthOf_115 rfl (by decide) ?_
  refine ev_lald (pc' := 117) (j := 12) (v := (L a) 12) dX8_worthOf_116 rfl ha rfl (Nat.le_of_ble_eq_true rfl) (Nat.le_of_ble_eq_true rfl) rfl ?_
  refine ev_lmul (pc' := 118) (v := ((L a) 11) * ((L a) 12)) dX8_worthOf_117 rfl rfl ?_
  refine ev_lsub (pc' := 119) (v := (((L a) 8) * ((L a) 15)) - (((L a) 11) * ((L a) 12))) dX8_worthOf_118 rfl rfl ?_
  refine ev_lmul (pc' := 120) (v := ((L a) 6) * ((((L a) 8) * ((L a) 15)) - (((L a) 11) * ((L a) 12)))) dX8_worthOf_119 rfl rfl ?_
  refine ev_lsub (pc' := 121) (v := (((L a) 4) * ((((L a) 10) * ((L a) 15)) - (((L a) 11) * ((L a) 14)))) - (((L a) 6) * ((((L a) 8) * ((L a) 15)) - (((L a) 11) * ((L a) 12))))) dX8_worthOf_120 rfl rfl ?_
  refine ev_aload_n (pc' := 122) (i := 0) dX8_worthOf_121 rfl rfl rfl ?_
  refine ev_iconst (pc' := 123) (v := 4) dX8_worthOf_122 rfl ki_4 ?_
  refine ev_iload (pc' := 125) dX8_worthOf_123 rfl rfl ?_
  refine ev_iadd (pc' := 126) (v := 7) dX8_worthOf_125 rfl (by decide) ?_
  refine ev_lald (pc' := 127) (j := 7) (v := (L a) 7) dX8_worthOf_126 rfl ha rfl (Nat.le_of_ble_eq_true rfl) (Nat.le_of_ble_eq_true rfl) rfl ?_
  refine ev_aload_n (pc' := 128) (i := 0) dX8_worthOf_127 rfl rfl rfl ?_
  refine ev_bipush (pc' := 130) (v := 8) dX8_worthOf_128 rfl kb_8 ?_
  refine ev_iload (pc' := 132) dX8_worthOf_130 rfl rfl ?_
  refine ev_iadd (pc' := 133) (v := 8) dX8_worthOf_132 rfl (by decide) ?_
  refine ev_lald (pc' := 134) (j := 8) (v := (L a) 8) dX8_worthOf_133 rfl ha rfl (Nat.le_of_ble_eq_true rfl) (Nat.le_of_ble_eq_true rfl) rfl ?_
  refine ev_aload_n (pc' := 135) (i := 0) dX8_worthOf_134 rfl rfl rfl ?_
  refine ev_bipush (pc' := 137) (v := 12) dX8_worthOf_135 rfl kb_12 ?_
  refine ev_iload (pc' := 139) dX8_worthOf_137 rfl rfl ?_
  refine ev_iadd (pc' := 140) (v := 14) dX8_worthOf_139 rfl (by decide) ?_
  refine ev_lald (pc' := 141) (j := 14) (v := (L a) 14) dX8_worthOf_140 rfl ha rfl (Nat.le_of_ble_eq_true rfl) (Nat.le_of_ble_eq_true rfl) rfl ?_
  refine ev_lmul (pc' := 142) (v := ((L a) 8) * ((L a) 14)) dX8_worthOf_141 rfl rfl ?_
  refine ev_aload_n (pc' := 143) (i := 0) dX8_worthOf_142 rfl rfl rfl ?_
  refine ev_bipush (pc' := 145) (v := 8) dX8_worthOf_143 rfl kb_8 ?_
  refine ev_iload (pc' := 147) dX8_worthOf_145 rfl rfl ?_
  refine ev_iadd (pc' := 148) (v := 10) dX8_worthOf_147 rfl (by decide) ?_
  refine ev_lald (pc' := 149) (j := 10) (v := (L a) 10) dX8_worthOf_148 rfl ha rfl (Nat.le_of_ble_eq_true rfl) (Nat.le_of_ble_eq_true rfl) rfl ?_
  refine ev_aload_n (pc' := 150) (i := 0) dX8_worthOf_149 rfl rfl rfl ?_
  refine ev_bipush (pc' := 152) (v := 12) dX8_worthOf_150 rfl kb_12 ?_
  refine ev_iload (pc' := 154) dX8_worthOf_152 rfl rfl ?_
  refine ev_iadd (pc' := 155) (v := 12) dX8_worthOf_154 rfl (by decide) ?_
  refine ev_lald (pc' := 156) (j := 12) (v := (L a) 12) dX8_worthOf_155 rfl ha rfl (Nat.le_of_ble_eq_true rfl) (Nat.le_of_ble_eq_true rfl) rfl ?_
  refine ev_lmul (pc' := 157) (v := ((L a) 10) * ((L a) 12)) dX8_worthOf_156 rfl rfl ?_
  refine ev_lsub (pc' := 158) (v := (((L a) 8) * ((L a) 14)) - (((L a) 10) * ((L a) 12))) dX8_worthOf_157 rfl rfl ?_
  refine ev_lmul (pc' := 159) (v := ((L a) 7) * ((((L a) 8) * ((L a) 14)) - (((L a) 10) * ((L a) 12)))) dX8_worthOf_158 rfl rfl ?_
  refine ev_ladd (pc' := 160) (v := ((((L a) 4) * ((((L a) 10) * ((L a) 15)) - (((L a) 11) * ((L a) 14)))) - (((L a) 6) * ((((L a) 8) * ((L a) 15)) - (((L a) 11) * ((L a) 12))))) + (((L a) 7) * ((((L a) 8) * ((L a) 14)) - (((L a) 10) * ((L a) 12))))) dX8_worthOf_159 rfl rfl ?_
  refine ev_lstore (pc' := 162) (lv' := [some (.ref a), some (.long (0 + (((L a) 0) * (((((L a) 5) * ((((L a) 10) * ((L a) 15)) - (((L a) 11) * ((L a) 14)))) - (((L a) 6) * ((((L a) 9) * ((L a) 15)) - (((L a) 11) * ((L a) 13))))) + (((L a) 7) * ((((L a) 9) * ((L a) 14)) - (((L a) 10) * ((L a) 13)))))))), none, some (.int 1), some (.int 0), some (.int 2), some (.int 3), some (.long (((((L a) 4) * ((((L a) 10) * ((L a) 15)) - (((L a) 11) * ((L a) 14)))) - (((L a) 6) * ((((L a) 8) * ((L a) 15)) - (((L a) 11) * ((L a) 12))))) + (((L a) 7) * ((((L a) 8) * ((L a) 14)) - (((L a) 10) * ((L a) 12)))))), none]) dX8_worthOf_160 rfl (Nat.le_of_ble_eq_true rfl) rfl rfl ?_
  refine ev_lload_n (pc' := 163) (i := 1) dX8_worthOf_162 rfl rfl rfl ?_
  refine ev_iload_n (pc' := 164) (i := 3) dX8_worthOf_163 rfl rfl rfl ?_
  refine ev_iconst (pc' := 165) (v := 2) dX8_worthOf_164 rfl ki_2 ?_
  refine ev_irem (pc' := 166) (v := 1) dX8_worthOf_165 rfl (by decide) (by decide) ?_
  refine ev_if_ne (tgt := 178) (pc' := 169) dX8_worthOf_166 rfl rfl (fun _ => ?_) (fun h => absurd h (by decide))
  refine ev_aload_n (pc' := 179) (i := 0) dX8_worthOf_178 rfl rfl rfl ?_
  refine ev_iload_n (pc' := 180) (i := 3) dX8_worthOf_179 rfl rfl rfl ?_
  refine ev_lald (pc' := 181) (j := 1) (v := (L a) 1) dX8_worthOf_180 rfl ha rfl (Nat.le_of_ble_eq_true rfl) (Nat.le_of_ble_eq_true rfl) rfl ?_
  refine ev_lneg (pc' := 182) (v := -((L a) 1)) dX8_worthOf_181 rfl rfl ?_
  refine ev_lload (pc' := 184) dX8_worthOf_182 rfl rfl ?_
  refine ev_lmul (pc' := 185) (v := (-((L a) 1)) * (((((L a) 4) * ((((L a) 10) * ((L a) 15)) - (((L a) 11) * ((L a) 14)))) - (((L a) 6) * ((((L a) 8) * ((L a) 15)) - (((L a) 11) * ((L a) 12))))) + (((L a) 7) * ((((L a) 8) * ((L a) 14)) - (((L a) 10) * ((L a) 12)))))) dX8_worthOf_184 rfl rfl ?_
  refine ev_ladd (pc' := 186) (v := (0 + (((L a) 0) * (((((L a) 5) * ((((L a) 10) * ((L a) 15)) - (((L a) 11) * ((L a) 14)))) - (((L a) 6) * ((((L a) 9) * ((L a) 15)) - (((L a) 11) * ((L a) 13))))) + (((L a) 7) * ((((L a) 9) * ((L a) 14)) - (((L a) 10) * ((L a) 13))))))) + ((-((L a) 1)) * (((((L a) 4) * ((((L a) 10) * ((L a) 15)) - (((L a) 11) * ((L a) 14)))) - (((L a) 6) * ((((L a) 8) * ((L a) 15)) - (((L a) 11) * ((L a) 12))))) + (((L a) 7) * ((((L a) 8) * ((L a) 14)) - (((L a) 10) * ((L a) 12))))))) dX8_worthOf_185 rfl rfl ?_
  refine ev_lstore_n (pc' := 187) (i := 1) (lv' := [some (.ref a), some (.long ((0 + (((L a) 0) * (((((L a) 5) * ((((L a) 10) * ((L a) 15)) - (((L a) 11) * ((L a) 14)))) - (((L a) 6) * ((((L a) 9) * ((L a) 15)) - (((L a) 11) * ((L a) 13))))) + (((L a) 7) * ((((L a) 9) * ((L a) 14)) - (((L a) 10) * ((L a) 13))))))) + ((-((L a) 1)) * (((((L a) 4) * ((((L a) 10) * ((L a) 15)) - (((L a) 11) * ((L a) 14)))) - (((L a) 6) * ((((L a) 8) * ((L a) 15)) - (((L a) 11) * ((L a) 12))))) + (((L a) 7) * ((((L a) 8) * ((L a) 14)) - (((L a) 10) * ((L a) 12)))))))), none, some (.int 1), some (.int 0), some (.int 2), some (.int 3), some (.long (((((L a) 4) * ((((L a) 10) * ((L a) 15)) - (((L a) 11) * ((L a) 14)))) - (((L a) 6) * ((((L a) 8) * ((L a) 15)) - (((L a) 11) * ((L a) 12))))) + (((L a) 7) * ((((L a) 8) * ((L a) 14)) - (((L a) 10) * ((L a) 12)))))), none]) dX8_worthOf_186 rfl rfl (Nat.le_of_ble_eq_true rfl) rfl rfl ?_
  refine ev_iinc (pc' := 190) (v := 2) (lv' := [some (.ref a), some (.long ((0 + (((L a) 0) * (((((L a) 5) * ((((L a) 10) * ((L a) 15)) - (((L a) 11) * ((L a) 14)))) - (((L a) 6) * ((((L a) 9) * ((L a) 15)) - (((L a) 11) * ((L a) 13))))) + (((L a) 7) * ((((L a) 9) * ((L a) 14)) - (((L a) 10) * ((L a) 13))))))) + ((-((L a) 1)) * (((((L a) 4) * ((((L a) 10) * ((L a) 15)) - (((L a) 11) * ((L a) 14)))) - (((L a) 6) * ((((L a) 8) * ((L a) 15)) - (((L a) 11) * ((L a) 12))))) + (((L a) 7) * ((((L a) 8) * ((L a) 14)) - (((L a) 10) * ((L a) 12)))))))), none, some (.int 2), some (.int 0), some (.int 2), some (.int 3), some (.long (((((L a) 4) * ((((L a) 10) * ((L a) 15)) - (((L a) 11) * ((L a) 14)))) - (((L a) 6) * ((((L a) 8) * ((L a) 15)) - (((L a) 11) * ((L a) 12))))) + (((L a) 7) * ((((L a) 8) * ((L a) 14)) - (((L a) 10) * ((L a) 12)))))), none]) dX8_worthOf_187 rfl rfl (by decide) (Nat.le_of_ble_eq_true rfl) rfl rfl ?_
  refine ev_goto (tgt := 4) dX8_worthOf_190 rfl ?_
  refine ev_iload_n (pc' := 5) (i := 3) dX8_worthOf_4 rfl rfl rfl ?_
  refine ev_iconst (pc' := 6) (v := 4) dX8_worthOf_5 rfl ki_4 ?_
  refine ev_icmp_ge (tgt := 193) (pc' := 9) dX8_worthOf_6 rfl rfl (fun h => absurd h (by decide)) (fun _ => ?_)
  refine ev_iload_n (pc' := 10) (i := 3) dX8_worthOf_9 rfl rfl rfl ?_
  refine ev_if_ne (tgt := 17) (pc' := 13) dX8_worthOf_10 rfl rfl (fun _ => ?_) (fun h => absurd h (by decide))
  refine ev_iconst (pc' := 18) (v := 0) dX8_worthOf_17 rfl ki_0 ?_
  refine ev_istore (pc' := 20) (lv' := [some (.ref a), some (.long ((0 + (((L a) 0) * (((((L a) 5) * ((((L a) 10) * ((L a) 15)) - (((L a) 11) * ((L a) 14)))) - (((L a) 6) * ((((L a) 9) * ((L a) 15)) - (((L a) 11) * ((L a) 13))))) + (((L a) 7) * ((((L a) 9) * ((L a) 14)) - (((L a) 10) * ((L a) 13))))))) + ((-((L a) 1)) * (((((L a) 4) * ((((L a) 10) * ((L a) 15)) - (((L a) 11) * ((L a) 14)))) - (((L a) 6) * ((((L a) 8) * ((L a) 15)) - (((L a) 11) * ((L a) 12))))) + (((L a) 7) * ((((L a) 8) * ((L a) 14)) - (((L a) 10) * ((L a) 12)))))))), none, some (.int 2), some (.int 0), some (.int 2), some (.int 3), some (.long (((((L a) 4) * ((((L a) 10) * ((L a) 15)) - (((L a) 11) * ((L a) 14)))) - (((L a) 6) * ((((L a) 8) * ((L a) 15)) - (((L a) 11) * ((L a) 12))))) + (((L a) 7) * ((((L a) 8) * ((L a) 14)) - (((L a) 10) * ((L a) 12)))))), none]) dX8_worthOf_18 rfl (Nat.le_of_ble_eq_true rfl) rfl rfl ?_
  refine ev_iload_n (pc' := 21) (i := 3) dX8_worthOf_20 rfl rfl rfl ?_
  refine ev_iconst (pc' := 22) (v := 2) dX8_worthOf_21 rfl ki_2 ?_
  refine ev_icmp_ge (tgt := 29) (pc' := 25) dX8_worthOf_22 rfl rfl (fun _ => ?_) (fun h => absurd (by decide) h)
  refine ev_iconst (pc' := 30) (v := 1) dX8_worthOf_29 rfl ki_1 ?_
  refine ev_istore (pc' := 32) (lv' := [some (.ref a), some (.long ((0 + (((L a) 0) * (((((L a) 5) * ((((L a) 10) * ((L a) 15)) - (((L a) 11) * ((L a) 14)))) - (((L a) 6) * ((((L a) 9) * ((L a) 15)) - (((L a) 11) * ((L a) 13))))) + (((L a) 7) * ((((L a) 9) * ((L a) 14)) - (((L a) 10) * ((L a) 13))))))) + ((-((L a) 1)) * (((((L a) 4) * ((((L a) 10) * ((L a) 15)) - (((L a) 11) * ((L a) 14)))) - (((L a) 6) * ((((L a) 8) * ((L a) 15)) - (((L a) 11) * ((L a) 12))))) + (((L a) 7) * ((((L a) 8) * ((L a) 14)) - (((L a) 10) * ((L a) 12)))))))), none, some (.int 2), some (.int 0), some (.int 1), some (.int 3), some (.long (((((L a) 4) * ((((L a) 10) * ((L a) 15)) - (((L a) 11) * ((L a) 14)))) - (((L a) 6) * ((((L a) 8) * ((L a) 15)) - (((L a) 11) * ((L a) 12))))) + (((L a) 7) * ((((L a) 8) * ((L a) 14)) - (((L a) 10) * ((L a) 12)))))), none]) dX8_worthOf_30 rfl (Nat.le_of_ble_eq_true rfl) rfl rfl ?_
  refine ev_iload_n (pc' := 33) (i := 3) dX8_worthOf_32 rfl rfl rfl ?_
  refine ev_iconst (pc' := 34) (v := 3) dX8_worthOf_33 rfl ki_3 ?_
  refine ev_icmp_ge (tgt := 41) (pc' := 37) dX8_worthOf_34 rfl rfl (fun h => absurd h (by decide)) (fun _ => ?_)
  refine ev_iconst (pc' := 38) (v := 3) dX8_worthOf_37 rfl ki_3 ?_
  refine ev_goto (tgt := 42) dX8_worthOf_38 rfl ?_
  refine ev_istore (pc' := 44) (lv' := [some (.ref a), some (.long ((0 + (((L a) 0) * (((((L a) 5) * ((((L a) 10) * ((L a) 15)) - (((L a) 11) * ((L a) 14)))) - (((L a) 6) * ((((L a) 9) * ((L a) 15)) - (((L a) 11) * ((L a) 13))))) + (((L a) 7) * ((((L a) 9) * ((L a) 14)) - (((L a) 10) * ((L a) 13))))))) + ((-((L a) 1)) * (((((L a) 4) * ((((L a) 10) * ((L a) 15)) - (((L a) 11) * ((L a) 14)))) - (((L a) 6) * ((((L a) 8) * ((L a) 15)) - (((L a) 11) * ((L a) 12))))) + (((L a) 7) * ((((L a) 8) * ((L a) 14)) - (((L a) 10) * ((L a) 12)))))))), none, some (.int 2), some (.int 0), some (.int 1), some (.int 3), some (.long (((((L a) 4) * ((((L a) 10) * ((L a) 15)) - (((L a) 11) * ((L a) 14)))) - (((L a) 6) * ((((L a) 8) * ((L a) 15)) - (((L a) 11) * ((L a) 12))))) + (((L a) 7) * ((((L a) 8) * ((L a) 14)) - (((L a) 10) * ((L a) 12)))))), none]) dX8_worthOf_42 rfl (Nat.le_of_ble_eq_true rfl) rfl rfl ?_
  refine ev_aload_n (pc' := 45) (i := 0) dX8_worthOf_44 rfl rfl rfl ?_
  refine ev_iconst (pc' := 46) (v := 4) dX8_worthOf_45 rfl ki_4 ?_
  refine ev_iload (pc' := 48) dX8_worthOf_46 rfl rfl ?_
  refine ev_iadd (pc' := 49) (v := 4) dX8_worthOf_48 rfl (by decide) ?_
  refine ev_lald (pc' := 50) (j := 4) (v := (L a) 4) dX8_worthOf_49 rfl ha rfl (Nat.le_of_ble_eq_true rfl) (Nat.le_of_ble_eq_true rfl) rfl ?_
  refine ev_aload_n (pc' := 51) (i := 0) dX8_worthOf_50 rfl rfl rfl ?_
  refine ev_bipush (pc' := 53) (v := 8) dX8_worthOf_51 rfl kb_8 ?_
  refine ev_iload (pc' := 55) dX8_worthOf_53 rfl rfl ?_
  refine ev_iadd (pc' := 56) (v := 9) dX8_worthOf_55 rfl (by decide) ?_
  refine ev_lald (pc' := 57) (j := 9) (v := (L a) 9) dX8_worthOf_56 rfl ha rfl (Nat.le_of_ble_eq_true rfl) (Nat.le_of_ble_eq_true rfl) rfl ?_
  refine ev_aload_n (pc' := 58) (i := 0) dX8_worthOf_57 rfl rfl rfl ?_
  refine ev_bipush (pc' := 60) (v := 12) dX8_worthOf_58 rfl kb_12 ?_
  refine ev_iload (pc' := 62) dX8_worthOf_60 rfl rfl ?_
  refine ev_iadd (pc' := 63) (v := 15) dX8_worthOf_62 rfl (by decide) ?_
  refine ev_lald (pc' := 64) (j := 15) (v := (L a) 15) dX8_worthOf_63 rfl ha rfl (Nat.le_of_ble_eq_true rfl) (Nat.le_of_ble_eq_true rfl) rfl ?_
  refine ev_lmul (pc' := 65) (v := ((L a) 9) * ((L a) 15)) dX8_worthOf_64 rfl rfl ?_
  refine ev_aload_n (pc' := 66) (i := 0) dX8_worthOf_65 rfl rfl rfl ?_
  refine ev_bipush (pc' := 68) (v := 8) dX8_worthOf_66 rfl kb_8 ?_
  refine ev_iload (pc' := 70) dX8_worthOf_68 rfl rfl ?_
  refine ev_iadd (pc' := 71) (v := 11) dX8_worthOf_70 rfl (by decide) ?_
  refine ev_lald (pc' := 72) (j := 11) (v := (L a) 11) dX8_worthOf_71 rfl ha rfl (Nat.le_of_ble_eq_true rfl) (Nat.le_of_ble_eq_true rfl) rfl ?_
  refine ev_aload_n (pc' := 73) (i := 0) dX8_worthOf_72 rfl rfl rfl ?_
  refine ev_bipush (pc' := 75) (v := 12) dX8_worthOf_73 rfl kb_12 ?_
  refine ev_iload (pc' := 77) dX8_worthOf_75 rfl rfl ?_
  refine ev_iadd (pc' := 78) (v := 13) dX8_worthOf_77 rfl (by decide) ?_
  refine ev_lald (pc' := 79) (j := 13) (v := (L a) 13) dX8_worthOf_78 rfl ha rfl (Nat.le_of_ble_eq_true rfl) (Nat.le_of_ble_eq_true rfl) rfl ?_
  refine ev_lmul (pc' := 80) (v := ((L a) 11) * ((L a) 13)) dX8_worthOf_79 rfl rfl ?_
  refine ev_lsub (pc' := 81) (v := (((L a) 9) * ((L a) 15)) - (((L a) 11) * ((L a) 13))) dX8_worthOf_80 rfl rfl ?_
  refine ev_lmul (pc' := 82) (v := ((L a) 4) * ((((L a) 9) * ((L a) 15)) - (((L a) 11) * ((L a) 13)))) dX8_worthOf_81 rfl rfl ?_
  refine ev_aload_n (pc' := 83) (i := 0) dX8_worthOf_82 rfl rfl rfl ?_
  refine ev_iconst (pc' := 84) (v := 4) dX8_worthOf_83 rfl ki_4 ?_
  refine ev_iload (pc' := 86) dX8_worthOf_84 rfl rfl ?_
  refine ev_iadd (pc' := 87) (v := 5) dX8_worthOf_86 rfl (by decide) ?_
  refine ev_lald (pc' := 88) (j := 5) (v := (L a) 5) dX8_worthOf_87 rfl ha rfl (Nat.le_of_ble_eq_true rfl) (Nat.le_of_ble_eq_true rfl) rfl ?_
  refine ev_aload_n (pc' := 89) (i := 0) dX8_worthOf_88 rfl rfl rfl ?_
  refine ev_bipush (pc' := 91) (v := 8) dX8_worthOf_89 rfl kb_8 ?_
  refine ev_iload (pc' := 93) dX8_worthOf_91 rfl rfl ?_
  refine ev_iadd (pc' := 94) (v := 8) dX8_worthOf_93 rfl (by decide) ?_
  refine ev_lald (pc' := 95) (j := 8) (v := (L a) 8) dX8_worthOf_94 rfl ha rfl (Nat.le_of_ble_eq_true rfl) (Nat.le_of_ble_eq_true rfl) rfl ?_
  refine ev_aload_n (pc' := 96) (i := 0) dX8_worthOf_95 rfl rfl rfl ?_
  refine ev_bipush (pc' := 98) (v := 12) dX8_worthOf_96 rfl kb_12 ?_
  refine ev_iload (pc' := 100) dX8_worthOf_98 rfl rfl ?_
  refine ev_iadd (pc' := 101) (v := 15) dX8_worthOf_100 rfl (by decide) ?_
  refine ev_lald (pc' := 102) (j := 15) (v := (L a) 15) dX8_worthOf_101 rfl ha rfl (Nat.le_of_ble_eq_true rfl) (Nat.le_of_ble_eq_true rfl) rfl ?_
  refine ev_lmul (pc' := 103) (v := ((L a) 8) * ((L a) 15)) dX8_worthOf_102 rfl rfl ?_
  refine ev_aload_n (pc' := 104) (i := 0) dX8_worthOf_103 rfl rfl rfl ?_
  refine ev_bipush (pc' := 106) (v := 8) dX8_worthOf_104 rfl kb_8 ?_
  refine ev_iload (pc' := 108) dX8_worthOf_106 rfl rfl ?_
  refine ev_iadd (pc' := 109) (v := 11) dX8_worthOf_108 rfl (by decide) ?_
  refine ev_lald (pc' := 110) (j := 11) (v := (L a) 11) dX8_worthOf_109 rfl ha rfl (Nat.le_of_ble_eq_true rfl) (Nat.le_of_ble_eq_true rfl) rfl ?_
  refine ev_aload_n (pc' := 111) (i := 0) dX8_worthOf_110 rfl rfl rfl ?_
  refine ev_bipush (pc' := 113) (v := 12) dX8_worthOf_111 rfl kb_12 ?_
  refine ev_iload (pc' := 115) dX8_worthOf_113 rfl rfl ?_
  refine ev_iadd (pc' := 116) (v := 12) dX8_worthOf_115 rfl (by decide) ?_
  refine ev_lald (pc' := 117) (j := 12) (v := (L a) 12) dX8_worthOf_116 rfl ha rfl (Nat.le_of_ble_eq_true rfl) (Nat.le_of_ble_eq_true rfl) rfl ?_
  refine ev_lmul (pc' := 118) (v := ((L a) 11) * ((L a) 12)) dX8_worthOf_117 rfl rfl ?_
  refine ev_lsub (pc' := 119) (v := (((L a) 8) * ((L a) 15)) - (((L a) 11) * ((L a) 12))) dX8_worthOf_118 rfl rfl ?_
  refine ev_lmul (pc' := 120) (v := ((L a) 5) * ((((L a) 8) * ((L a) 15)) - (((L a) 11) * ((L a) 12)))) dX8_worthOf_119 rfl rfl ?_
  refine ev_lsub (pc' := 121) (v := (((L a) 4) * ((((L a) 9) * ((L a) 15)) - (((L a) 11) * ((L a) 13)))) - (((L a) 5) * ((((L a) 8) * ((L a) 15)) - (((L a) 11) * ((L a) 12))))) dX8_worthOf_120 rfl rfl ?_
  refine ev_aload_n (pc' := 122) (i := 0) dX8_worthOf_121 rfl rfl rfl ?_
  refine ev_iconst (pc' := 123) (v := 4) dX8_worthOf_122 rfl ki_4 ?_
  refine ev_iload (pc' := 125) dX8_worthOf_123 rfl rfl ?_
  refine ev_iadd (pc' := 126) (v := 7) dX8_worthOf_125 rfl (by decide) ?_
  refine ev_lald (pc' := 127) (j := 7) (v := (L a) 7) dX8_worthOf_126 rfl ha rfl (Nat.le_of_ble_eq_true rfl) (Nat.le_of_ble_eq_true rfl) rfl ?_
  refine ev_aload_n (pc' := 128) (i := 0) dX8_worthOf_127 rfl rfl rfl ?_
  refine ev_bipush (pc' := 130) (v := 8) dX8_worthOf_128 rfl kb_8 ?_
  refine ev_iload (pc' := 132) dX8_worthOf_130 rfl rfl ?_
  refine ev_iadd (pc' := 133) (v := 8) dX8_worthOf_132 rfl (by decide) ?_
  refine ev_lald (pc' := 134) (j := 8) (v := (L a) 8) dX8_worthOf_133 rfl ha rfl (Nat.le_of_ble_eq_true rfl) (Nat.le_of_ble_eq_true rfl) rfl ?_
  refine ev_aload_n (pc' := 135) (i := 0) dX8_worthOf_134 rfl rfl rfl ?_
  refine ev_bipush (pc' := 137) (v := 12) dX8_worthOf_135 rfl kb_12 ?_
  refine ev_iload (pc' := 139) dX8_worthOf_137 rfl rfl ?_
  refine ev_iadd (pc' := 140) (v := 13) dX8_worthOf_139 rfl (by decide) ?_
  refine ev_lald (pc' := 141) (j := 13) (v := (L a) 13) dX8_worthOf_140 rfl ha rfl (Nat.le_of_ble_eq_true rfl) (Nat.le_of_ble_eq_true rfl) rfl ?_
  refine ev_lmul (pc' := 142) (v := ((L a) 8) * ((L a) 13)) dX8_worthOf_141 rfl rfl ?_
  refine ev_aload_n (pc' := 143) (i := 0) dX8_worthOf_142 rfl rfl rfl ?_
  refine ev_bipush (pc' := 145) (v := 8) dX8_worthOf_143 rfl kb_8 ?_
  refine ev_iload (pc' := 147) dX8_worthOf_145 rfl rfl ?_
  refine ev_iadd (pc' := 148) (v := 9) dX8_worthOf_147 rfl (by decide) ?_
  refine ev_lald (pc' := 149) (j := 9) (v := (L a) 9) dX8_worthOf_148 rfl ha rfl (Nat.le_of_ble_eq_true rfl) (Nat.le_of_ble_eq_true rfl) rfl ?_
  refine ev_aload_n (pc' := 150) (i := 0) dX8_worthOf_149 rfl rfl rfl ?_
  refine ev_bipush (pc' := 152) (v := 12) dX8_worthOf_150 rfl kb_12 ?_
  refine ev_iload (pc' := 154) dX8_worthOf_152 rfl rfl ?_
  refine ev_iadd (pc' := 155) (v := 12) dX8_worthOf_154 rfl (by decide) ?_
  refine ev_lald (pc' := 156) (j := 12) (v := (L a) 12) dX8_worthOf_155 rfl ha rfl (Nat.le_of_ble_eq_true rfl) (Nat.le_of_ble_eq_true rfl) rfl ?_
  refine ev_lmul (pc' := 157) (v := ((L a) 9) * ((L a) 12)) dX8_worthOf_156 rfl rfl ?_
  refine ev_lsub (pc' := 158) (v := (((L a) 8) * ((L a) 13)) - (((L a) 9) * ((L a) 12))) dX8_worthOf_157 rfl rfl ?_
  refine ev_lmul (pc' := 159) (v := ((L a) 7) * ((((L a) 8) * ((L a) 13)) - (((L a) 9) * ((L a) 12)))) dX8_worthOf_158 rfl rfl ?_
  refine ev_ladd (pc' := 160) (v := ((((L a) 4) * ((((L a) 9) * ((L a) 15)) - (((L a) 11) * ((L a) 13)))) - (((L a) 5) * ((((L a) 8) * ((L a) 15)) - (((L a) 11) * ((L a) 12))))) + (((L a) 7) * ((((L a) 8) * ((L a) 13)) - (((L a) 9) * ((L a) 12))))) dX8_worthOf_159 rfl rfl ?_
  refine ev_lstore (pc' := 162) (lv' := [some (.ref a), some (.long ((0 + (((L a) 0) * (((((L a) 5) * ((((L a) 10) * ((L a) 15)) - (((L a) 11) * ((L a) 14)))) - (((L a) 6) * ((((L a) 9) * ((L a) 15)) - (((L a) 11) * ((L a) 13))))) + (((L a) 7) * ((((L a) 9) * ((L a) 14)) - (((L a) 10) * ((L a) 13))))))) + ((-((L a) 1)) * (((((L a) 4) * ((((L a) 10) * ((L a) 15)) - (((L a) 11) * ((L a) 14)))) - (((L a) 6) * ((((L a) 8) * ((L a) 15)) - (((L a) 11) * ((L a) 12))))) + (((L a) 7) * ((((L a) 8) * ((L a) 14)) - (((L a) 10) * ((L a) 12)))))))), none, some (.int 2), some (.int 0), some (.int 1), some (.int 3), some (.long (((((L a) 4) * ((((L a) 9) * ((L a) 15)) - (((L a) 11) * ((L a) 13)))) - (((L a) 5) * ((((L a) 8) * ((L a) 15)) - (((L a) 11) * ((L a) 12))))) + (((L a) 7) * ((((L a) 8) * ((L a) 13)) - (((L a) 9) * ((L a) 12)))))), none]) dX8_worthOf_160 rfl (Nat.le_of_ble_eq_true rfl) rfl rfl ?_
  refine ev_lload_n (pc' := 163) (i := 1) dX8_worthOf_162 rfl rfl rfl ?_
  refine ev_iload_n (pc' := 164) (i := 3) dX8_worthOf_163 rfl rfl rfl ?_
  refine ev_iconst (pc' := 165) (v := 2) dX8_worthOf_164 rfl ki_2 ?_
  refine ev_irem (pc' := 166) (v := 0) dX8_worthOf_165 rfl (by decide) (by decide) ?_
  refine ev_if_ne (tgt := 178) (pc' := 169) dX8_worthOf_166 rfl rfl (fun h => absurd (by decide) h) (fun _ => ?_)
  refine ev_aload_n (pc' := 170) (i := 0) dX8_worthOf_169 rfl rfl rfl ?_
  refine ev_iload_n (pc' := 171) (i := 3) dX8_worthOf_170 rfl rfl rfl ?_
  refine ev_lald (pc' := 172) (j := 2) (v := (L a) 2) dX8_worthOf_171 rfl ha rfl (Nat.le_of_ble_eq_true rfl) (Nat.le_of_ble_eq_true rfl) rfl ?_
  refine ev_lload (pc' := 174) dX8_worthOf_172 rfl rfl ?_
  refine ev_lmul (pc' := 175) (v := ((L a) 2) * (((((L a) 4) * ((((L a) 9) * ((L a) 15)) - (((L a) 11) * ((L a) 13)))) - (((L a) 5) * ((((L a) 8) * ((L a) 15)) - (((L a) 11) * ((L a) 12))))) + (((L a) 7) * ((((L a) 8) * ((L a) 13)) - (((L a) 9) * ((L a) 12)))))) dX8_worthOf_174 rfl rfl ?_
  refine ev_goto (tgt := 185) dX8_worthOf_175 rfl ?_
  refine ev_ladd (pc' := 186) (v := ((0 + (((L a) 0) * (((((L a) 5) * ((((L a) 10) * ((L a) 15)) - (((L a) 11) * ((L a) 14)))) - (((L a) 6) * ((((L a) 9) * ((L a) 15)) - (((L a) 11) * ((L a) 13))))) + (((L a) 7) * ((((L a) 9) * ((L a) 14)) - (((L a) 10) * ((L a) 13))))))) + ((-((L a) 1)) * (((((L a) 4) * ((((L a) 10) * ((L a) 15)) - (((L a) 11) * ((L a) 14)))) - (((L a) 6) * ((((L a) 8) * ((L a) 15)) - (((L a) 11) * ((L a) 12))))) + (((L a) 7) * ((((L a) 8) * ((L a) 14)) - (((L a) 10) * ((L a) 12))))))) + (((L a) 2) * (((((L a) 4) * ((((L a) 9) * ((L a) 15)) - (((L a) 11) * ((L a) 13)))) - (((L a) 5) * ((((L a) 8) * ((L a) 15)) - (((L a) 11) * ((L a) 12))))) + (((L a) 7) * ((((L a) 8) * ((L a) 13)) - (((L a) 9) * ((L a) 12))))))) dX8_worthOf_185 rfl rfl ?_
  refine ev_lstore_n (pc' := 187) (i := 1) (lv' := [some (.ref a), some (.long (((0 + (((L a) 0) * (((((L a) 5) * ((((L a) 10) * ((L a) 15)) - (((L a) 11) * ((L a) 14)))) - (((L a) 6) * ((((L a) 9) * ((L a) 15)) - (((L a) 11) * ((L a) 13))))) + (((L a) 7) * ((((L a) 9) * ((L a) 14)) - (((L a) 10) * ((L a) 13))))))) + ((-((L a) 1)) * (((((L a) 4) * ((((L a) 10) * ((L a) 15)) - (((L a) 11) * ((L a) 14)))) - (((L a) 6) * ((((L a) 8) * ((L a) 15)) - (((L a) 11) * ((L a) 12))))) + (((L a) 7) * ((((L a) 8) * ((L a) 14)) - (((L a) 10) * ((L a) 12))))))) + (((L a) 2) * (((((L a) 4) * ((((L a) 9) * ((L a) 15)) - (((L a) 11) * ((L a) 13)))) - (((L a) 5) * ((((L a) 8) * ((L a) 15)) - (((L a) 11) * ((L a) 12))))) + (((L a) 7) * ((((L a) 8) * ((L a) 13)) - (((L a) 9) * ((L a) 12)))))))), none, some (.int 2), some (.int 0), some (.int 1), some (.int 3), some (.long (((((L a) 4) * ((((L a) 9) * ((L a) 15)) - (((L a) 11) * ((L a) 13)))) - (((L a) 5) * ((((L a) 8) * ((L a) 15)) - (((L a) 11) * ((L a) 12))))) + (((L a) 7) * ((((L a) 8) * ((L a) 13)) - (((L a) 9) * ((L a) 12)))))), none]) dX8_worthOf_186 rfl rfl (Nat.le_of_ble_eq_true rfl) rfl rfl ?_
  refine ev_iinc (pc' := 190) (v := 3) (lv' := [some (.ref a), some (.long (((0 + (((L a) 0) * (((((L a) 5) * ((((L a) 10) * ((L a) 15)) - (((L a) 11) * ((L a) 14)))) - (((L a) 6) * ((((L a) 9) * ((L a) 15)) - (((L a) 11) * ((L a) 13))))) + (((L a) 7) * ((((L a) 9) * ((L a) 14)) - (((L a) 10) * ((L a) 13))))))) + ((-((L a) 1)) * (((((L a) 4) * ((((L a) 10) * ((L a) 15)) - (((L a) 11) * ((L a) 14)))) - (((L a) 6) * ((((L a) 8) * ((L a) 15)) - (((L a) 11) * ((L a) 12))))) + (((L a) 7) * ((((L a) 8) * ((L a) 14)) - (((L a) 10) * ((L a) 12))))))) + (((L a) 2) * (((((L a) 4) * ((((L a) 9) * ((L a) 15)) - (((L a) 11) * ((L a) 13)))) - (((L a) 5) * ((((L a) 8) * ((L a) 15)) - (((L a) 11) * ((L a) 12))))) + (((L a) 7) * ((((L a) 8) * ((L a) 13)) - (((L a) 9) * ((L a) 12)))))))), none, some (.int 3), some (.int 0), some (.int 1), some (.int 3), some (.long (((((L a) 4) * ((((L a) 9) * ((L a) 15)) - (((L a) 11) * ((L a) 13)))) - (((L a) 5) * ((((L a) 8) * ((L a) 15)) - (((L a) 11) * ((L a) 12))))) + (((L a) 7) * ((((L a) 8) * ((L a) 13)) - (((L a) 9) * ((L a) 12)))))), none]) dX8_worthOf_187 rfl rfl (by decide) (Nat.le_of_ble_eq_true rfl) rfl rfl ?_
  refine ev_goto (tgt := 4) dX8_worthOf_190 rfl ?_
  refine ev_iload_n (pc' := 5) (i := 3) dX8_worthOf_4 rfl rfl rfl ?_
  refine ev_iconst (pc' := 6) (v := 4) dX8_worthOf_5 rfl ki_4 ?_
  refine ev_icmp_ge (tgt := 193) (pc' := 9) dX8_worthOf_6 rfl rfl (fun h => absurd h (by decide)) (fun _ => ?_)
  refine ev_iload_n (pc' := 10) (i := 3) dX8_worthOf_9 rfl rfl rfl ?_
  refine ev_if_ne (tgt := 17) (pc' := 13) dX8_worthOf_10 rfl rfl (fun _ => ?_) (fun h => absurd h (by decide))
  refine ev_iconst (pc' := 18) (v := 0) dX8_worthOf_17 rfl ki_0 ?_
  refine ev_istore (pc' := 20) (lv' := [some (.ref a), some (.long (((0 + (((L a) 0) * (((((L a) 5) * ((((L a) 10) * ((L a) 15)) - (((L a) 11) * ((L a) 14)))) - (((L a) 6) * ((((L a) 9) * ((L a) 15)) - (((L a) 11) * ((L a) 13))))) + (((L a) 7) * ((((L a) 9) * ((L a) 14)) - (((L a) 10) * ((L a) 13))))))) + ((-((L a) 1)) * (((((L a) 4) * ((((L a) 10) * ((L a) 15)) - (((L a) 11) * ((L a) 14)))) - (((L a) 6) * ((((L a) 8) * ((L a) 15)) - (((L a) 11) * ((L a) 12))))) + (((L a) 7) * ((((L a) 8) * ((L a) 14)) - (((L a) 10) * ((L a) 12))))))) + (((L a) 2) * (((((L a) 4) * ((((L a) 9) * ((L a) 15)) - (((L a) 11) * ((L a) 13)))) - (((L a) 5) * ((((L a) 8) * ((L a) 15)) - (((L a) 11) * ((L a) 12))))) + (((L a) 7) * ((((L a) 8) * ((L a) 13)) - (((L a) 9) * ((L a) 12)))))))), none, some (.int 3), some (.int 0), some (.int 1), some (.int 3), some (.long (((((L a) 4) * ((((L a) 9) * ((L a) 15)) - (((L a) 11) * ((L a) 13)))) - (((L a) 5) * ((((L a) 8) * ((L a) 15)) - (((L a) 11) * ((L a) 12))))) + (((L a) 7) * ((((L a) 8) * ((L a) 13)) - (((L a) 9) * ((L a) 12)))))), none]) dX8_worthOf_18 rfl (Nat.le_of_ble_eq_true rfl) rfl rfl ?_
  refine ev_iload_n (pc' := 21) (i := 3) dX8_worthOf_20 rfl rfl rfl ?_
  refine ev_iconst (pc' := 22) (v := 2) dX8_worthOf_21 rfl ki_2 ?_
  refine ev_icmp_ge (tgt := 29) (pc' := 25) dX8_worthOf_22 rfl rfl (fun _ => ?_) (fun h => absurd (by decide) h)
  refine ev_iconst (pc' := 30) (v := 1) dX8_worthOf_29 rfl ki_1 ?_
  refine ev_istore (pc' := 32) (lv' := [some (.ref a), some (.long (((0 + (((L a) 0) * (((((L a) 5) * ((((L a) 10) * ((L a) 15)) - (((L a) 11) * ((L a) 14)))) - (((L a) 6) * ((((L a) 9) * ((L a) 15)) - (((L a) 11) * ((L a) 13))))) + (((L a) 7) * ((((L a) 9) * ((L a) 14)) - (((L a) 10) * ((L a) 13))))))) + ((-((L a) 1)) * (((((L a) 4) * ((((L a) 10) * ((L a) 15)) - (((L a) 11) * ((L a) 14)))) - (((L a) 6) * ((((L a) 8) * ((L a) 15)) - (((L a) 11) * ((L a) 12))))) + (((L a) 7) * ((((L a) 8) * ((L a) 14)) - (((L a) 10) * ((L a) 12))))))) + (((L a) 2) * (((((L a) 4) * ((((L a) 9) * ((L a) 15)) - (((L a) 11) * ((L a) 13)))) - (((L a) 5) * ((((L a) 8) * ((L a) 15)) - (((L a) 11) * ((L a) 12))))) + (((L a) 7) * ((((L a) 8) * ((L a) 13)) - (((L a) 9) * ((L a) 12)))))))), none, some (.int 3), some (.int 0), some (.int 1), some (.int 3), some (.long (((((L a) 4) * ((((L a) 9) * ((L a) 15)) - (((L a) 11) * ((L a) 13)))) - (((L a) 5) * ((((L a) 8) * ((L a) 15)) - (((L a) 11) * ((L a) 12))))) + (((L a) 7) * ((((L a) 8) * ((L a) 13)) - (((L a) 9) * ((L a) 12)))))), none]) dX8_worthOf_30 rfl (Nat.le_of_ble_eq_true rfl) rfl rfl ?_
  refine ev_iload_n (pc' := 33) (i := 3) dX8_worthOf_32 rfl rfl rfl ?_
  refine ev_iconst (pc' := 34) (v := 3) dX8_worthOf_33 rfl ki_3 ?_
  refine ev_icmp_ge (tgt := 41) (pc' := 37) dX8_worthOf_34 rfl rfl (fun _ => ?_) (fun h => absurd (by decide) h)
  refine ev_iconst (pc' := 42) (v := 2) dX8_worthOf_41 rfl ki_2 ?_
  refine ev_istore (pc' := 44) (lv' := [some (.ref a), some (.long (((0 + (((L a) 0) * (((((L a) 5) * ((((L a) 10) * ((L a) 15)) - (((L a) 11) * ((L a) 14)))) - (((L a) 6) * ((((L a) 9) * ((L a) 15)) - (((L a) 11) * ((L a) 13))))) + (((L a) 7) * ((((L a) 9) * ((L a) 14)) - (((L a) 10) * ((L a) 13))))))) + ((-((L a) 1)) * (((((L a) 4) * ((((L a) 10) * ((L a) 15)) - (((L a) 11) * ((L a) 14)))) - (((L a) 6) * ((((L a) 8) * ((L a) 15)) - (((L a) 11) * ((L a) 12))))) + (((L a) 7) * ((((L a) 8) * ((L a) 14)) - (((L a) 10) * ((L a) 12))))))) + (((L a) 2) * (((((L a) 4) * ((((L a) 9) * ((L a) 15)) - (((L a) 11) * ((L a) 13)))) - (((L a) 5) * ((((L a) 8) * ((L a) 15)) - (((L a) 11) * ((L a) 12))))) + (((L a) 7) * ((((L a) 8) * ((L a) 13)) - (((L a) 9) * ((L a) 12)))))))), none, some (.int 3), some (.int 0), some (.int 1), some (.int 2), some (.long (((((L a) 4) * ((((L a) 9) * ((L a) 15)) - (((L a) 11) * ((L a) 13)))) - (((L a) 5) * ((((L a) 8) * ((L a) 15)) - (((L a) 11) * ((L a) 12))))) + (((L a) 7) * ((((L a) 8) * ((L a) 13)) - (((L a) 9) * ((L a) 12)))))), none]) dX8_worthOf_42 rfl (Nat.le_of_ble_eq_true rfl) rfl rfl ?_
  refine ev_aload_n (pc' := 45) (i := 0) dX8_worthOf_44 rfl rfl rfl ?_
  refine ev_iconst (pc' := 46) (v := 4) dX8_worthOf_45 rfl ki_4 ?_
  refine ev_iload (pc' := 48) dX8_worthOf_46 rfl rfl ?_
  refine ev_iadd (pc' := 49) (v := 4) dX8_worthOf_48 rfl (by decide) ?_
  refine ev_lald (pc' := 50) (j := 4) (v := (L a) 4) dX8_worthOf_49 rfl ha rfl (Nat.le_of_ble_eq_true rfl) (Nat.le_of_ble_eq_true rfl) rfl ?_
  refine ev_aload_n (pc' := 51) (i := 0) dX8_worthOf_50 rfl rfl rfl ?_
  refine ev_bipush (pc' := 53) (v := 8) dX8_worthOf_51 rfl kb_8 ?_
  refine ev_iload (pc' := 55) dX8_worthOf_53 rfl rfl ?_
  refine ev_iadd (pc' := 56) (v := 9) dX8_worthOf_55 rfl (by decide) ?_
  refine ev_lald (pc' := 57) (j := 9) (v := (L a) 9) dX8_worthOf_56 rfl ha rfl (Nat.le_of_ble_eq_true rfl) (Nat.le_of_ble_eq_true rfl) rfl ?_
  refine ev_aload_n (pc' := 58) (i := 0) dX8_worthOf_57 rfl rfl rfl ?_
  refine ev_bipush (pc' := 60) (v := 12) dX8_worthOf_58 rfl kb_12 ?_
  refine ev_iload (pc' := 62) dX8_worthOf_60 rfl rfl ?_
  refine ev_iadd (pc' := 63) (v := 14) dX8_worthOf_62 rfl (by decide) ?_
  refine ev_lald (pc' := 64) (j := 14) (v := (L a) 14) dX8_worthOf_63 rfl ha rfl (Nat.le_of_ble_eq_true rfl) (Nat.le_of_ble_eq_true rfl) rfl ?_
  refine ev_lmul (pc' := 65) (v := ((L a) 9) * ((L a) 14)) dX8_worthOf_64 rfl rfl ?_
  refine ev_aload_n (pc' := 66) (i := 0) dX8_worthOf_65 rfl rfl rfl ?_
  refine ev_bipush (pc' := 68) (v := 8) dX8_worthOf_66 rfl kb_8 ?_
  refine ev_iload (pc' := 70) dX8_worthOf_68 rfl rfl ?_
  refine ev_iadd (pc' := 71) (v := 10) dX8_worthOf_70 rfl (by decide) ?_
  refine ev_lald (pc' := 72) (j := 10) (v := (L a) 10) dX8_worthOf_71 rfl ha rfl (Nat.le_of_ble_eq_true rfl) (Nat.le_of_ble_eq_true rfl) rfl ?_
  refine ev_aload_n (pc' := 73) (i := 0) dX8_worthOf_72 rfl rfl rfl ?_
  refine ev_bipush (pc' := 75) (v := 12) dX8_worthOf_73 rfl kb_12 ?_
  refine ev_iload (pc' := 77) dX8_worthOf_75 rfl rfl ?_
  refine ev_iadd (pc' := 78) (v := 13) dX8_worthOf_77 rfl (by decide) ?_
  refine ev_lald (pc' := 79) (j := 13) (v := (L a) 13) dX8_worthOf_78 rfl ha rfl (Nat.le_of_ble_eq_true rfl) (Nat.le_of_ble_eq_true rfl) rfl ?_
  refine ev_lmul (pc' := 80) (v := ((L a) 10) * ((L a) 13)) dX8_worthOf_79 rfl rfl ?_
  refine ev_lsub (pc' := 81) (v := (((L a) 9) * ((L a) 14)) - (((L a) 10) * ((L a) 13))) dX8_worthOf_80 rfl rfl ?_
  refine ev_lmul (pc' := 82) (v := ((L a) 4) * ((((L a) 9) * ((L a) 14)) - (((L a) 10) * ((L a) 13)))) dX8_worthOf_81 rfl rfl ?_
  refine ev_aload_n (pc' := 83) (i := 0) dX8_worthOf_82 rfl rfl rfl ?_
  refine ev_iconst (pc' := 84) (v := 4) dX8_worthOf_83 rfl ki_4 ?_
  refine ev_iload (pc' := 86) dX8_worthOf_84 rfl rfl ?_
  refine ev_iadd (pc' := 87) (v := 5) dX8_worthOf_86 rfl (by decide) ?_
  refine ev_lald (pc' := 88) (j := 5) (v := (L a) 5) dX8_worthOf_87 rfl ha rfl (Nat.le_of_ble_eq_true rfl) (Nat.le_of_ble_eq_true rfl) rfl ?_
  refine ev_aload_n (pc' := 89) (i := 0) dX8_worthOf_88 rfl rfl rfl ?_
  refine ev_bipush (pc' := 91) (v := 8) dX8_worthOf_89 rfl kb_8 ?_
  refine ev_iload (pc' := 93) dX8_worthOf_91 rfl rfl ?_
  refine ev_iadd (pc' := 94) (v := 8) dX8_worthOf_93 rfl (by decide) ?_
  refine ev_lald (pc' := 95) (j := 8) (v := (L a) 8) dX8_worthOf_94 rfl ha rfl (Nat.le_of_ble_eq_true rfl) (Nat.le_of_ble_eq_true rfl) rfl ?_
  refine ev_aload_n (pc' := 96) (i := 0) dX8_worthOf_95 rfl rfl rfl ?_
  refine ev_bipush (pc' := 98) (v := 12) dX8_worthOf_96 rfl kb_12 ?_
  refine ev_iload (pc' := 100) dX8_worthOf_98 rfl rfl ?_
  refine ev_iadd (pc' := 101) (v := 14) dX8_worthOf_100 rfl (by decide) ?_
  refine ev_lald (pc' := 102) (j := 14) (v := (L a) 14) dX8_worthOf_101 rfl ha rfl (Nat.le_of_ble_eq_true rfl) (Nat.le_of_ble_eq_true rfl) rfl ?_
  refine ev_lmul (pc' := 103) (v := ((L a) 8) * ((L a) 14)) dX8_worthOf_102 rfl rfl ?_
  refine ev_aload_n (pc' := 104) (i := 0) dX8_worthOf_103 rfl rfl rfl ?_
  refine ev_bipush (pc' := 106) (v := 8) dX8_worthOf_104 rfl kb_8 ?_
  refine ev_iload (pc' := 108) dX8_worthOf_106 rfl rfl ?_
  refine ev_iadd (pc' := 109) (v := 10) dX8_worthOf_108 rfl (by decide) ?_
  refine ev_lald (pc' := 110) (j := 10) (v := (L a) 10) dX8_worthOf_109 rfl ha rfl (Nat.le_of_ble_eq_true rfl) (Nat.le_of_ble_eq_true rfl) rfl ?_
  refine ev_aload_n (pc' := 111) (i := 0) dX8_worthOf_110 rfl rfl rfl ?_
  refine ev_bipush (pc' := 113) (v := 12) dX8_worthOf_111 rfl kb_12 ?_
  refine ev_iload (pc' := 115) dX8_worthOf_113 rfl rfl ?_
  refine ev_iadd (pc' := 116) (v := 12) dX8_worthOf_115 rfl (by decide) ?_
  refine ev_lald (pc' := 117) (j := 12) (v := (L a) 12) dX8_worthOf_116 rfl ha rfl (Nat.le_of_ble_eq_true rfl) (Nat.le_of_ble_eq_true rfl) rfl ?_
  refine ev_lmul (pc' := 118) (v := ((L a) 10) * ((L a) 12)) dX8_worthOf_117 rfl rfl ?_
  refine ev_lsub (pc' := 119) (v := (((L a) 8) * ((L a) 14)) - (((L a) 10) * ((L a) 12))) dX8_worthOf_118 rfl rfl ?_
  refine ev_lmul (pc' := 120) (v := ((L a) 5) * ((((L a) 8) * ((L a) 14)) - (((L a) 10) * ((L a) 12)))) dX8_worthOf_119 rfl rfl ?_
  refine ev_lsub (pc' := 121) (v := (((L a) 4) * ((((L a) 9) * ((L a) 14)) - (((L a) 10) * ((L a) 13)))) - (((L a) 5) * ((((L a) 8) * ((L a) 14)) - (((L a) 10) * ((L a) 12))))) dX8_worthOf_120 rfl rfl ?_
  refine ev_aload_n (pc' := 122) (i := 0) dX8_worthOf_121 rfl rfl rfl ?_
  refine ev_iconst (pc' := 123) (v := 4) dX8_worthOf_122 rfl ki_4 ?_
  refine ev_iload (pc' := 125) dX8_worthOf_123 rfl rfl ?_
  refine ev_iadd (pc' := 126) (v := 6) dX8_worthOf_125 rfl (by decide) ?_
  refine ev_lald (pc' := 127) (j := 6) (v := (L a) 6) dX8_worthOf_126 rfl ha rfl (Nat.le_of_ble_eq_true rfl) (Nat.le_of_ble_eq_true rfl) rfl ?_
  refine ev_aload_n (pc' := 128) (i := 0) dX8_worthOf_127 rfl rfl rfl ?_
  refine ev_bipush (pc' := 130) (v := 8) dX8_worthOf_128 rfl kb_8 ?_
  refine ev_iload (pc' := 132) dX8_worthOf_130 rfl rfl ?_
  refine ev_iadd (pc' := 133) (v := 8) dX8_worthOf_132 rfl (by decide) ?_
  refine ev_lald (pc' := 134) (j := 8) (v := (L a) 8) dX8_worthOf_133 rfl ha rfl (Nat.le_of_ble_eq_true rfl) (Nat.le_of_ble_eq_true rfl) rfl ?_
  refine ev_aload_n (pc' := 135) (i := 0) dX8_worthOf_134 rfl rfl rfl ?_
  refine ev_bipush (pc' := 137) (v := 12) dX8_worthOf_135 rfl kb_12 ?_
  refine ev_iload (pc' := 139) dX8_worthOf_137 rfl rfl ?_
  refine ev_iadd (pc' := 140) (v := 13) dX8_worthOf_139 rfl (by decide) ?_
  refine ev_lald (pc' := 141) (j := 13) (v := (L a) 13) dX8_worthOf_140 rfl ha rfl (Nat.le_of_ble_eq_true rfl) (Nat.le_of_ble_eq_true rfl) rfl ?_
  refine ev_lmul (pc' := 142) (v := ((L a) 8) * ((L a) 13)) dX8_worthOf_141 rfl rfl ?_
  refine ev_aload_n (pc' := 143) (i := 0) dX8_worthOf_142 rfl rfl rfl ?_
  refine ev_bipush (pc' := 145) (v := 8) dX8_worthOf_143 rfl kb_8 ?_
  refine ev_iload (pc' := 147) dX8_worthOf_145 rfl rfl ?_
  refine ev_iadd (pc' := 148) (v := 9) dX8_worthOf_147 rfl (by decide) ?_
  refine ev_lald (pc' := 149) (j := 9) (v := (L a) 9) dX8_worthOf_148 rfl ha rfl (Nat.le_of_ble_eq_true rfl) (Nat.le_of_ble_eq_true rfl) rfl ?_
  refine ev_aload_n (pc' := 150) (i := 0) dX8_worthOf_149 rfl rfl rfl ?_
  refine ev_bipush (pc' := 152) (v := 12) dX8_worthOf_150 rfl kb_12 ?_
  refine ev_iload (pc' := 154) dX8_worthOf_152 rfl rfl ?_
  refine ev_iadd (pc' := 155) (v := 12) dX8_worthOf_154 rfl (by decide) ?_
  refine ev_lald (pc' := 156) (j := 12) (v := (L a) 12) dX8_worthOf_155 rfl ha rfl (Nat.le_of_ble_eq_true rfl) (Nat.le_of_ble_eq_true rfl) rfl ?_
  refine ev_lmul (pc' := 157) (v := ((L a) 9) * ((L a) 12)) dX8_worthOf_156 rfl rfl ?_
  refine ev_lsub (pc' := 158) (v := (((L a) 8) * ((L a) 13)) - (((L a) 9) * ((L a) 12))) dX8_worthOf_157 rfl rfl ?_
  refine ev_lmul (pc' := 159) (v := ((L a) 6) * ((((L a) 8) * ((L a) 13)) - (((L a) 9) * ((L a) 12)))) dX8_worthOf_158 rfl rfl ?_
  refine ev_ladd (pc' := 160) (v := ((((L a) 4) * ((((L a) 9) * ((L a) 14)) - (((L a) 10) * ((L a) 13)))) - (((L a) 5) * ((((L a) 8) * ((L a) 14)) - (((L a) 10) * ((L a) 12))))) + (((L a) 6) * ((((L a) 8) * ((L a) 13)) - (((L a) 9) * ((L a) 12))))) dX8_worthOf_159 rfl rfl ?_
  refine ev_lstore (pc' := 162) (lv' := [some (.ref a), some (.long (((0 + (((L a) 0) * (((((L a) 5) * ((((L a) 10) * ((L a) 15)) - (((L a) 11) * ((L a) 14)))) - (((L a) 6) * ((((L a) 9) * ((L a) 15)) - (((L a) 11) * ((L a) 13))))) + (((L a) 7) * ((((L a) 9) * ((L a) 14)) - (((L a) 10) * ((L a) 13))))))) + ((-((L a) 1)) * (((((L a) 4) * ((((L a) 10) * ((L a) 15)) - (((L a) 11) * ((L a) 14)))) - (((L a) 6) * ((((L a) 8) * ((L a) 15)) - (((L a) 11) * ((L a) 12))))) + (((L a) 7) * ((((L a) 8) * ((L a) 14)) - (((L a) 10) * ((L a) 12))))))) + (((L a) 2) * (((((L a) 4) * ((((L a) 9) * ((L a) 15)) - (((L a) 11) * ((L a) 13)))) - (((L a) 5) * ((((L a) 8) * ((L a) 15)) - (((L a) 11) * ((L a) 12))))) + (((L a) 7) * ((((L a) 8) * ((L a) 13)) - (((L a) 9) * ((L a) 12)))))))), none, some (.int 3), some (.int 0), some (.int 1), some (.int 2), some (.long (((((L a) 4) * ((((L a) 9) * ((L a) 14)) - (((L a) 10) * ((L a) 13)))) - (((L a) 5) * ((((L a) 8) * ((L a) 14)) - (((L a) 10) * ((L a) 12))))) + (((L a) 6) * ((((L a) 8) * ((L a) 13)) - (((L a) 9) * ((L a) 12)))))), none]) dX8_worthOf_160 rfl (Nat.le_of_ble_eq_true rfl) rfl rfl ?_
  refine ev_lload_n (pc' := 163) (i := 1) dX8_worthOf_162 rfl rfl rfl ?_
  refine ev_iload_n (pc' := 164) (i := 3) dX8_worthOf_163 rfl rfl rfl ?_
  refine ev_iconst (pc' := 165) (v := 2) dX8_worthOf_164 rfl ki_2 ?_
  refine ev_irem (pc' := 166) (v := 1) dX8_worthOf_165 rfl (by decide) (by decide) ?_
  refine ev_if_ne (tgt := 178) (pc' := 169) dX8_worthOf_166 rfl rfl (fun _ => ?_) (fun h => absurd h (by decide))
  refine ev_aload_n (pc' := 179) (i := 0) dX8_worthOf_178 rfl rfl rfl ?_
  refine ev_iload_n (pc' := 180) (i := 3) dX8_worthOf_179 rfl rfl rfl ?_
  refine ev_lald (pc' := 181) (j := 3) (v := (L a) 3) dX8_worthOf_180 rfl ha rfl (Nat.le_of_ble_eq_true rfl) (Nat.le_of_ble_eq_true rfl) rfl ?_
  refine ev_lneg (pc' := 182) (v := -((L a) 3)) dX8_worthOf_181 rfl rfl ?_
  refine ev_lload (pc' := 184) dX8_worthOf_182 rfl rfl ?_
  refine ev_lmul (pc' := 185) (v := (-((L a) 3)) * (((((L a) 4) * ((((L a) 9) * ((L a) 14)) - (((L a) 10) * ((L a) 13)))) - (((L a) 5) * ((((L a) 8) * ((L a) 14)) - (((L a) 10) * ((L a) 12))))) + (((L a) 6) * ((((L a) 8) * ((L a) 13)) - (((L a) 9) * ((L a) 12)))))) dX8_worthOf_184 rfl rfl ?_
  refine ev_ladd (pc' := 186) (v := (((0 + (((L a) 0) * (((((L a) 5) * ((((L a) 10) * ((L a) 15)) - (((L a) 11) * ((L a) 14)))) - (((L a) 6) * ((((L a) 9) * ((L a) 15)) - (((L a) 11) * ((L a) 13))))) + (((L a) 7) * ((((L a) 9) * ((L a) 14)) - (((L a) 10) * ((L a) 13))))))) + ((-((L a) 1)) * (((((L a) 4) * ((((L a) 10) * ((L a) 15)) - (((L a) 11) * ((L a) 14)))) - (((L a) 6) * ((((L a) 8) * ((L a) 15)) - (((L a) 11) * ((L a) 12))))) + (((L a) 7) * ((((L a) 8) * ((L a) 14)) - (((L a) 10) * ((L a) 12))))))) + (((L a) 2) * (((((L a) 4) * ((((L a) 9) * ((L a) 15)) - (((L a) 11) * ((L a) 13)))) - (((L a) 5) * ((((L a) 8) * ((L a) 15)) - (((L a) 11) * ((L a) 12))))) + (((L a) 7) * ((((L a) 8) * ((L a) 13)) - (((L a) 9) * ((L a) 12))))))) + ((-((L a) 3)) * (((((L a) 4) * ((((L a) 9) * ((L a) 14)) - (((L a) 10) * ((L a) 13)))) - (((L a) 5) * ((((L a) 8) * ((L a) 14)) - (((L a) 10) * ((L a) 12))))) + (((L a) 6) * ((((L a) 8) * ((L a) 13)) - (((L a) 9) * ((L a) 12))))))) dX8_worthOf_185 rfl rfl ?_
  refine ev_lstore_n (pc' := 187) (i := 1) (lv' := [some (.ref a), some (.long ((((0 + (((L a) 0) * (((((L a) 5) * ((((L a) 10) * ((L a) 15)) - (((L a) 11) * ((L a) 14)))) - (((L a) 6) * ((((L a) 9) * ((L a) 15)) - (((L a) 11) * ((L a) 13))))) + (((L a) 7) * ((((L a) 9) * ((L a) 14)) - (((L a) 10) * ((L a) 13))))))) + ((-((L a) 1)) * (((((L a) 4) * ((((L a) 10) * ((L a) 15)) - (((L a) 11) * ((L a) 14)))) - (((L a) 6) * ((((L a) 8) * ((L a) 15)) - (((L a) 11) * ((L a) 12))))) + (((L a) 7) * ((((L a) 8) * ((L a) 14)) - (((L a) 10) * ((L a) 12))))))) + (((L a) 2) * (((((L a) 4) * ((((L a) 9) * ((L a) 15)) - (((L a) 11) * ((L a) 13)))) - (((L a) 5) * ((((L a) 8) * ((L a) 15)) - (((L a) 11) * ((L a) 12))))) + (((L a) 7) * ((((L a) 8) * ((L a) 13)) - (((L a) 9) * ((L a) 12))))))) + ((-((L a) 3)) * (((((L a) 4) * ((((L a) 9) * ((L a) 14)) - (((L a) 10) * ((L a) 13)))) - (((L a) 5) * ((((L a) 8) * ((L a) 14)) - (((L a) 10) * ((L a) 12))))) + (((L a) 6) * ((((L a) 8) * ((L a) 13)) - (((L a) 9) * ((L a) 12)))))))), none, some (.int 3), some (.int 0), some (.int 1), some (.int 2), some (.long (((((L a) 4) * ((((L a) 9) * ((L a) 14)) - (((L a) 10) * ((L a) 13)))) - (((L a) 5) * ((((L a) 8) * ((L a) 14)) - (((L a) 10) * ((L a) 12))))) + (((L a) 6) * ((((L a) 8) * ((L a) 13)) - (((L a) 9) * ((L a) 12)))))), none]) dX8_worthOf_186 rfl rfl (Nat.le_of_ble_eq_true rfl) rfl rfl ?_
  refine ev_iinc (pc' := 190) (v := 4) (lv' := [some (.ref a), some (.long ((((0 + (((L a) 0) * (((((L a) 5) * ((((L a) 10) * ((L a) 15)) - (((L a) 11) * ((L a) 14)))) - (((L a) 6) * ((((L a) 9) * ((L a) 15)) - (((L a) 11) * ((L a) 13))))) + (((L a) 7) * ((((L a) 9) * ((L a) 14)) - (((L a) 10) * ((L a) 13))))))) + ((-((L a) 1)) * (((((L a) 4) * ((((L a) 10) * ((L a) 15)) - (((L a) 11) * ((L a) 14)))) - (((L a) 6) * ((((L a) 8) * ((L a) 15)) - (((L a) 11) * ((L a) 12))))) + (((L a) 7) * ((((L a) 8) * ((L a) 14)) - (((L a) 10) * ((L a) 12))))))) + (((L a) 2) * (((((L a) 4) * ((((L a) 9) * ((L a) 15)) - (((L a) 11) * ((L a) 13)))) - (((L a) 5) * ((((L a) 8) * ((L a) 15)) - (((L a) 11) * ((L a) 12))))) + (((L a) 7) * ((((L a) 8) * ((L a) 13)) - (((L a) 9) * ((L a) 12))))))) + ((-((L a) 3)) * (((((L a) 4) * ((((L a) 9) * ((L a) 14)) - (((L a) 10) * ((L a) 13)))) - (((L a) 5) * ((((L a) 8) * ((L a) 14)) - (((L a) 10) * ((L a) 12))))) + (((L a) 6) * ((((L a) 8) * ((L a) 13)) - (((L a) 9) * ((L a) 12)))))))), none, some (.int 4), some (.int 0), some (.int 1), some (.int 2), some (.long (((((L a) 4) * ((((L a) 9) * ((L a) 14)) - (((L a) 10) * ((L a) 13)))) - (((L a) 5) * ((((L a) 8) * ((L a) 14)) - (((L a) 10) * ((L a) 12))))) + (((L a) 6) * ((((L a) 8) * ((L a) 13)) - (((L a) 9) * ((L a) 12)))))), none]) dX8_worthOf_187 rfl rfl (by decide) (Nat.le_of_ble_eq_true rfl) rfl rfl ?_
  refine ev_goto (tgt := 4) dX8_worthOf_190 rfl ?_
  refine ev_iload_n (pc' := 5) (i := 3) dX8_worthOf_4 rfl rfl rfl ?_
  refine ev_iconst (pc' := 6) (v := 4) dX8_worthOf_5 rfl ki_4 ?_
  refine ev_icmp_ge (tgt := 193) (pc' := 9) dX8_worthOf_6 rfl rfl (fun _ => ?_) (fun h => absurd (by decide) h)
  refine ev_lload_n (pc' := 194) (i := 1) dX8_worthOf_193 rfl rfl rfl ?_
  refine ev_lret dX8_worthOf_194 rfl ⟨Nat.le_refl _, Nat.le_refl _⟩ ?_
  exact k
