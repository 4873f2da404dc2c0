set_option maxRecDepth 4000 in
theorem t_X8_meets {g : ma_G} {Post : ma_P} {I : ma_I} {L : ma_L} (w : Nat) (hw : w < 6) (k : Post (some (.int (-3))) HS (ma_up (ma_up I 115 (ma_up (I 115) 0 (nI w))) 116 (ma_up (I 116) w (((I 116) w) + 1))) L RF 146) : CT g yX8_meets cX8_meets 2 (some .int) rX8_meets [.ref 115, .int (nI w)] Post HS I L RF 146 := by
  refine ct_of (lv := [some (.ref 115), some (.int (nI w))]) (by decide) (Nat.le_of_ble_eq_true rfl) rfl ?_
  refine ev_aload_n (pc' := 1) (i := 0) dX8_meets_0 rfl rfl rfl ?_
  refine ev_iload_n (pc' := 2) (i := 1) dX8_meets_1 rfl rfl rfl ?_
  refine ev_putI (pc' := 5) (I' := (ma_up I 115 (ma_up (I 115) 0 (nI w)))) fo_X8_115 dX8_meets_2 rfl hs_115 rfl (fun r hr => by cases hr; rfl) ⟨rfl, rfl⟩ rfl ?_
  refine ev_aload_n (pc' := 6) (i := 0) dX8_meets_5 rfl rfl rfl ?_
  refine ev_getR (pc' := 9) fo_X8_7 dX8_meets_6 rfl hs_115 rfl rf_115_1 ?_
  refine ev_iload_n (pc' := 10) (i := 1) dX8_meets_9 rfl rfl rfl ?_
  refine ev_dup2 (pc' := 11) dX8_meets_10 rfl rfl rfl ?_
  refine ev_iald (pc' := 12) (j := w) (v := (I 116) w) dX8_meets_11 rfl hs_116 rfl (by omega) (Nat.le_of_ble_eq_true rfl) rfl ?_
  refine ev_iconst (pc' := 13) (v := 1) dX8_meets_12 rfl ki_1 ?_
  refine ev_iadd (pc' := 14) (v := ((I 116) w) + 1) dX8_meets_13 rfl rfl ?_
  refine ev_iast (pc' := 15) (j := w) (I' := (ma_up (ma_up I 115 (ma_up (I 115) 0 (nI w))) 116 (ma_up (I 116) w (((I 116) w) + 1)))) dX8_meets_14 rfl hs_116 rfl (by omega) (Nat.le_of_ble_eq_true rfl) rfl ?_
  refine ev_bipush (pc' := 17) (v := (-3)) dX8_meets_15 rfl kb_m3 ?_
  refine ev_iret dX8_meets_17 rfl rfl ⟨Nat.le_refl _, Nat.le_refl _⟩ ?_
  exact k
def mMt (I : ma_I) (w : Nat) : ma_I := (ma_up (ma_up I 115 (ma_up (I 115) 0 (nI w))) 116 (ma_up (I 116) w ((I 116) w + 1)))
theorem ev_mMt {g : ma_G} {y : MethodName} {cc : ByteArray} {nL : Nat} {ret : Option FieldType} {rm : Room} {Z : ma_Z} {pc : Nat} {lv : List (Option Value)} {st : List Value} {sh : ma_S} {I : ma_I} {L : ma_L} {R : ma_R} {n ce sl : Nat} (w : Nat) (k : EV g y cc nL ret rm Z pc lv st sh (mMt I w) L R n ce sl) : EV g y cc nL ret rm Z pc lv st sh (ma_up (ma_up I 115 (ma_up (I 115) 0 (nI w))) 116 (ma_up (I 116) w ((I 116) w + 1))) L R n ce sl := k
set_option maxRecDepth 4000 in
theorem t_X8_layTable {g : ma_G} {Post : ma_P} {I : ma_I} {L : ma_L}  (q : Nat) (hq : q < 12) (k : Post none HS I (mfill L 120 0 16 (fun k => (I 123 (16 * q + k)).toInt64)) RF 146) : CT g yX8_layTable cX8_layTable 3 none rX8_layTable [.ref 115, .int (nI q)] Post HS I L RF 146 := by
  refine ct_of (lv := [some (.ref 115), some (.int (nI q)), none]) (by decide) (Nat.le_of_ble_eq_true rfl) rfl ?_
  refine ev_iconst (pc' := 1) (v := 0) dX8_layTable_0 rfl ki_0 ?_
  refine ev_istore_n (pc' := 2) (i := 2) (lv' := [some (.ref 115), some (.int (nI q)), some (.int 0)]) dX8_layTable_1 rfl rfl (Nat.le_of_ble_eq_true rfl) rfl rfl ?_
  suffices loop1 : ∀ (d2 i4 : Nat) (K3 : ma_L), i4 + d2 = 16 → (K3 = mfill L 120 0 i4 (fun k => (I 123 (16 * q + k)).toInt64)) → EV g yX8_layTable cX8_layTable 3 none rX8_layTable (ma_ZM g rX8_layTable Post) 2 [some (.ref 115), some (.int (nI q)), some (.int (nI i4))] [] HS I K3 RF 146 0 0 from loop1 (16 - 0) 0 L (by omega) (by exact (mfill_0 _ _ _ _).symm)
  intro d2
  induction d2 with
  | zero =>
    intro i4   K3 hi5 hv6
    obtain rfl : i4 = 16 := by omega
    subst hv6
    refine ev_iload_n (pc' := 3) (i := 2) dX8_layTable_2 rfl rfl rfl ?_
    refine ev_bipush (pc' := 5) (v := 16) dX8_layTable_3 rfl kb_16 ?_
    refine ev_icmp_ge (tgt := 32) (pc' := 8) dX8_layTable_5 rfl rfl (fun _ => ?_) (fun h => absurd (nx_le (a := 16) (b := 16) (by omega) (by omega)) h)
    refine ev_vret dX8_layTable_32 rfl ⟨Nat.le_refl _, Nat.le_refl _⟩ ?_
    exact k
  | succ d2 ih =>
    intro i4   K3 hi5 hv6
    refine ev_iload_n (pc' := 3) (i := 2) dX8_layTable_2 rfl rfl rfl ?_
    refine ev_bipush (pc' := 5) (v := 16) dX8_layTable_3 rfl kb_16 ?_
    refine ev_icmp_ge (tgt := 32) (pc' := 8) dX8_layTable_5 rfl rfl (fun h => absurd h (nx_nle (a := 16) (b := i4) (by omega) (by omega))) (fun _ => ?_)
    refine ev_aload_n (pc' := 9) (i := 0) dX8_layTable_8 rfl rfl rfl ?_
    refine ev_getR (pc' := 12) fo_X8_26 dX8_layTable_9 rfl hs_115 rfl rf_115_8 ?_
    refine ev_iload_n (pc' := 13) (i := 2) dX8_layTable_12 rfl rfl rfl ?_
    refine ev_aload_n (pc' := 14) (i := 0) dX8_layTable_13 rfl rfl rfl ?_
    refine ev_getR (pc' := 17) fo_X8_37 dX8_layTable_14 rfl hs_115 rfl rf_115_13 ?_
    refine ev_bipush (pc' := 19) (v := 16) dX8_layTable_17 rfl kb_16 ?_
    refine ev_iload_n (pc' := 20) (i := 1) dX8_layTable_19 rfl rfl rfl ?_
    refine ev_imul (pc' := 21) (v := nI (16 * q)) dX8_layTable_20 rfl (pk_mul 16 q) ?_
    refine ev_iload_n (pc' := 22) (i := 2) dX8_layTable_21 rfl rfl rfl ?_
    refine ev_iadd (pc' := 23) (v := nI ((16 * q) + i4)) dX8_layTable_22 rfl (nI_add (16 * q) i4) ?_
    refine ev_iald (pc' := 24) (j := (16 * q) + i4) (v := (I 123) ((16 * q) + i4)) dX8_layTable_23 rfl hs_123 rfl (by omega) (Nat.le_of_ble_eq_true rfl) rfl ?_
    refine ev_i2l (pc' := 25) (v := Int32.toInt64 ((I 123) ((16 * q) + i4))) dX8_layTable_24 rfl rfl ?_
    refine ev_last (pc' := 26) (j := i4) (L' := (ma_up K3 120 (ma_up (K3 120) i4 (Int32.toInt64 ((I 123) ((16 * q) + i4)))))) dX8_layTable_25 rfl hs_120 rfl (by omega) (Nat.le_of_ble_eq_true rfl) rfl ?_
    refine ev_iinc (pc' := 29) (v := nI (i4 + 1)) (lv' := [some (.ref 115), some (.int (nI q)), some (.int (nI (i4 + 1)))]) dX8_layTable_26 rfl rfl (nI_add i4 1) (Nat.le_of_ble_eq_true rfl) rfl rfl ?_
    refine ev_goto (tgt := 2) dX8_layTable_29 rfl ?_
    exact ih (i4 + 1) _ (by omega) (by rw [hv6]; exact mfill_s _ _ _ _ _ (by omega) rfl)
theorem in_of {x : Int32} {n : Nat} {m : Int32} (hn : n < 2147483647) (hm : m = nI n) (h : (¬ x < 0) ∧ (¬ m < x)) : ∃ j, j < n + 1 ∧ x = nI j := by
  subst hm
  obtain ⟨j, hj, rfl⟩ := nI_of h.1
  refine ⟨j, ?_, rfl⟩
  rcases Nat.lt_or_ge j (n + 1) with q | q
  · exact q
  · exact absurd (nI_lt q hj) h.2
theorem in_nI {j n : Nat} (h : j < n + 1) (hn : n < 2147483647) : (¬ nI j < 0) ∧ (¬ nI n < nI j) := ⟨nI_pos (by omega), nI_nlt (by omega) (by omega)⟩
theorem nx_inj {a b : Nat} (h : nI a = nI b) (ha : a < 2147483648) (hb : b < 2147483648) : a = b := (nI_eq ha hb).mp h
theorem in_nI8 {j : Nat} (h : j < 8) : (¬ nI j < 0) ∧ (¬ 7 < nI j) := in_nI (n := 7) h (by omega)
theorem in_nI12 {j : Nat} (h : j < 12) : (¬ nI j < 0) ∧ (¬ 11 < nI j) := in_nI (n := 11) h (by omega)
set_option maxRecDepth 4000 in
theorem t_X8_looked {g : ma_G} {Post : ma_P} {I : ma_I} {L : ma_L}  (s : Int32)  (k1 : ∀ n2 : Nat, (n2 < 8) → s = nI n2 → (0 ≤ ((I 117) n2)) → Post (some (.int 0)) HS I L RF 146) (k2 : ∀ n2 : Nat, (n2 < 8) → s = nI n2 → (¬ 0 ≤ ((I 117) n2)) → Post (some (.int (-3))) HS (mMt I 1) L RF 146) (k3 : (¬ ((¬ s < 0) ∧ (¬ 7 < s))) → Post (some (.int (-1))) HS I L RF 146) : CT g yX8_looked cX8_looked 2 (some .int) rX8_looked [.ref 115, .int s] Post HS I L RF 146 := by
  refine ct_of (lv := [some (.ref 115), some (.int s)]) (by decide) (Nat.le_of_ble_eq_true rfl) rfl ?_
  refine ev_iload_n (pc' := 1) (i := 1) dX8_looked_0 rfl rfl rfl ?_
  refine ev_callS (pc' := 4) (rm' := rX8_isSheet) (av := [.int s]) (rest := []) co_X8_137 cs_X8_isSheet dX8_looked_1 rfl rfl rfl (Nat.le_of_ble_eq_true rfl) ⟨(Nat.le_of_ble_eq_true rfl), (Nat.le_of_ble_eq_true rfl)⟩ ⟨(Nat.le_of_ble_eq_true rfl), (Nat.le_of_ble_eq_true rfl)⟩ ?_
  refine t_X8_isSheet s  ?_
  refine ev_if_ne_b (tgt := 11) (pc' := 7) dX8_looked_4 rfl rfl (fun c1 => ?_) (fun c1 => ?_)
  · obtain ⟨n2, hn2, en2⟩ := in_of (n := 7) (by omega) rfl c1
    subst en2
    refine ev_aload_n (pc' := 12) (i := 0) dX8_looked_11 rfl rfl rfl ?_
    refine ev_getR (pc' := 15) fo_X8_17 dX8_looked_12 rfl hs_115 rfl rf_115_5 ?_
    refine ev_iload_n (pc' := 16) (i := 1) dX8_looked_15 rfl rfl rfl ?_
    refine ev_iald (pc' := 17) (j := n2) (v := (I 117) n2) dX8_looked_16 rfl hs_117 rfl (by omega) (Nat.le_of_ble_eq_true rfl) rfl ?_
    refine ev_if_ge (tgt := 28) (pc' := 20) dX8_looked_17 rfl rfl (fun c3 => ?_) (fun c3 => ?_)
    · refine ev_iconst (pc' := 29) (v := 0) dX8_looked_28 rfl ki_0 ?_
      refine ev_iret dX8_looked_29 rfl rfl ⟨Nat.le_refl _, Nat.le_refl _⟩ ?_
      exact k1 n2 hn2 rfl c3
    · refine ev_aload_n (pc' := 21) (i := 0) dX8_looked_20 rfl rfl rfl ?_
      refine ev_iconst (pc' := 22) (v := 1) dX8_looked_21 rfl ki_1 ?_
      refine ev_callV (pc' := 25) (rm' := rX8_meets) (b := 115) (av := [.int 1]) (rest := []) co_X8_141 ci_X8_meets cv_X8_meets dX8_looked_22 rfl hs_115 hb_X8 rfl rfl (Nat.le_of_ble_eq_true rfl) ⟨(Nat.le_of_ble_eq_true rfl), (Nat.le_of_ble_eq_true rfl)⟩ ⟨(Nat.le_of_ble_eq_true rfl), (Nat.le_of_ble_eq_true rfl)⟩ ?_
      refine t_X8_meets 1 (by omega) ?_
      refine ev_mMt 1 ?_
      refine ev_goto (tgt := 29) dX8_looked_25 rfl ?_
      refine ev_iret dX8_looked_29 rfl rfl ⟨Nat.le_refl _, Nat.le_refl _⟩ ?_
      exact k2 n2 hn2 rfl c3
  · refine ev_iconst (pc' := 8) (v := (-1)) dX8_looked_7 rfl ki_m1 ?_
    refine ev_goto (tgt := 29) dX8_looked_8 rfl ?_
    refine ev_iret dX8_looked_29 rfl rfl ⟨Nat.le_refl _, Nat.le_refl _⟩ ?_
    exact k3 c1
set_option maxRecDepth 4000 in
theorem t_X8_askedFor {g : ma_G} {Post : ma_P} {I : ma_I} {L : ma_L}  (q : Int32)  (k1 : ∀ n2 : Nat, (n2 < 12) → q = nI n2 → (((I 122) n2) = 0) → Post (some (.int (-3))) HS (mMt I 1) L RF 146) (k2 : ∀ n2 : Nat, (n2 < 12) → q = nI n2 → (¬ ((I 122) n2) = 0) → Post (some (.int 0)) HS I L RF 146) (k3 : (¬ ((¬ q < 0) ∧ (¬ 11 < q))) → Post (some (.int (-1))) HS I L RF 146) : CT g yX8_askedFor cX8_askedFor 2 (some .int) rX8_askedFor [.ref 115, .int q] Post HS I L RF 146 := by
  refine ct_of (lv := [some (.ref 115), some (.int q)]) (by decide) (Nat.le_of_ble_eq_true rfl) rfl ?_
  refine ev_iload_n (pc' := 1) (i := 1) dX8_askedFor_0 rfl rfl rfl ?_
  refine ev_callS (pc' := 4) (rm' := rX8_isGround) (av := [.int q]) (rest := []) co_X8_181 cs_X8_isGround dX8_askedFor_1 rfl rfl rfl (Nat.le_of_ble_eq_true rfl) ⟨(Nat.le_of_ble_eq_true rfl), (Nat.le_of_ble_eq_true rfl)⟩ ⟨(Nat.le_of_ble_eq_true rfl), (Nat.le_of_ble_eq_true rfl)⟩ ?_
  refine t_X8_isGround q  ?_
  refine ev_if_ne_b (tgt := 11) (pc' := 7) dX8_askedFor_4 rfl rfl (fun c1 => ?_) (fun c1 => ?_)
  · obtain ⟨n2, hn2, en2⟩ := in_of (n := 11) (by omega) rfl c1
    subst en2
    refine ev_aload_n (pc' := 12) (i := 0) dX8_askedFor_11 rfl rfl rfl ?_
    refine ev_getR (pc' := 15) fo_X8_33 dX8_askedFor_12 rfl hs_115 rfl rf_115_12 ?_
    refine ev_iload_n (pc' := 16) (i := 1) dX8_askedFor_15 rfl rfl rfl ?_
    refine ev_zald (pc' := 17) (j := n2) (v := (I 122) n2) dX8_askedFor_16 rfl hs_122 rfl (by omega) (Nat.le_of_ble_eq_true rfl) rfl ?_
    refine ev_if_eq (tgt := 24) (pc' := 20) dX8_askedFor_17 rfl rfl (fun c3 => ?_) (fun c3 => ?_)
    · refine ev_aload_n (pc' := 25) (i := 0) dX8_askedFor_24 rfl rfl rfl ?_
      refine ev_iconst (pc' := 26) (v := 1) dX8_askedFor_25 rfl ki_1 ?_
      refine ev_callV (pc' := 29) (rm' := rX8_meets) (b := 115) (av := [.int 1]) (rest := []) co_X8_141 ci_X8_meets cv_X8_meets dX8_askedFor_26 rfl hs_115 hb_X8 rfl rfl (Nat.le_of_ble_eq_true rfl) ⟨(Nat.le_of_ble_eq_true rfl), (Nat.le_of_ble_eq_true rfl)⟩ ⟨(Nat.le_of_ble_eq_true rfl), (Nat.le_of_ble_eq_true rfl)⟩ ?_
      refine t_X8_meets 1 (by omega) ?_
      refine ev_mMt 1 ?_
      refine ev_iret dX8_askedFor_29 rfl rfl ⟨Nat.le_refl _, Nat.le_refl _⟩ ?_
      exact k1 n2 hn2 rfl c3
    · refine ev_iconst (pc' := 21) (v := 0) dX8_askedFor_20 rfl ki_0 ?_
      refine ev_goto (tgt := 29) dX8_askedFor_21 rfl ?_
      refine ev_iret dX8_askedFor_29 rfl rfl ⟨Nat.le_refl _, Nat.le_refl _⟩ ?_
      exact k2 n2 hn2 rfl c3
  · refine ev_iconst (pc' := 8) (v := (-1)) dX8_askedFor_7 rfl ki_m1 ?_
    refine ev_goto (tgt := 29) dX8_askedFor_8 rfl ?_
    refine ev_iret dX8_askedFor_29 rfl rfl ⟨Nat.le_refl _, Nat.le_refl _⟩ ?_
    exact k3 c1
set_option maxRecDepth 4000 in
theorem t_X8_askedTwo {g : ma_G} {Post : ma_P} {I : ma_I} {L : ma_L}  (q : Int32) (r : Int32)  (k1 : (¬ ((¬ q < 0) ∧ (¬ 11 < q))) → Post (some (.int (-1))) HS I L RF 146) (k2 : ∀ n2 : Nat, (n2 < 12) → q = nI n2 → ∀ n4 : Nat, (n4 < 12) → r = nI n4 → (((I 122) n2) = 0) → Post (some (.int (-3))) HS (mMt I 1) L RF 146) (k3 : ∀ n2 : Nat, (n2 < 12) → q = nI n2 → ∀ n4 : Nat, (n4 < 12) → r = nI n4 → (¬ ((I 122) n2) = 0) → (((I 122) n4) = 0) → Post (some (.int (-3))) HS (mMt I 1) L RF 146) (k4 : ∀ n2 : Nat, (n2 < 12) → q = nI n2 → ∀ n4 : Nat, (n4 < 12) → r = nI n4 → (¬ ((I 122) n2) = 0) → (¬ ((I 122) n4) = 0) → Post (some (.int 0)) HS I L RF 146) (k5 : ∀ n2 : Nat, (n2 < 12) → q = nI n2 → (¬ ((¬ r < 0) ∧ (¬ 11 < r))) → Post (some (.int (-1))) HS I L RF 146) : CT g yX8_askedTwo cX8_askedTwo 3 (some .int) rX8_askedTwo [.ref 115, .int q, .int r] Post HS I L RF 146 := by
  refine ct_of (lv := [some (.ref 115), some (.int q), some (.int r)]) (by decide) (Nat.le_of_ble_eq_true rfl) rfl ?_
  refine ev_iload_n (pc' := 1) (i := 1) dX8_askedTwo_0 rfl rfl rfl ?_
  refine ev_callS (pc' := 4) (rm' := rX8_isGround) (av := [.int q]) (rest := []) co_X8_181 cs_X8_isGround dX8_askedTwo_1 rfl rfl rfl (Nat.le_of_ble_eq_true rfl) ⟨(Nat.le_of_ble_eq_true rfl), (Nat.le_of_ble_eq_true rfl)⟩ ⟨(Nat.le_of_ble_eq_true rfl), (Nat.le_of_ble_eq_true rfl)⟩ ?_
  refine t_X8_isGround q  ?_
  refine ev_if_eq_b (tgt := 14) (pc' := 7) dX8_askedTwo_4 rfl rfl (fun c1 => ?_) (fun c1 => ?_)
  · refine ev_iconst (pc' := 15) (v := (-1)) dX8_askedTwo_14 rfl ki_m1 ?_
    refine ev_goto (tgt := 45) dX8_askedTwo_15 rfl ?_
    refine ev_iret dX8_askedTwo_45 rfl rfl ⟨Nat.le_refl _, Nat.le_refl _⟩ ?_
    exact k1 c1
  · obtain ⟨n2, hn2, en2⟩ := in_of (n := 11) (by omega) rfl c1
    subst en2
    refine ev_iload_n (pc' := 8) (i := 2) dX8_askedTwo_7 rfl rfl rfl ?_
    refine ev_callS (pc' := 11) (rm' := rX8_isGround) (av := [.int r]) (rest := []) co_X8_181 cs_X8_isGround dX8_askedTwo_8 rfl rfl rfl (Nat.le_of_ble_eq_true rfl) ⟨(Nat.le_of_ble_eq_true rfl), (Nat.le_of_ble_eq_true rfl)⟩ ⟨(Nat.le_of_ble_eq_true rfl), (Nat.le_of_ble_eq_true rfl)⟩ ?_
    refine t_X8_isGround r  ?_
    refine ev_if_ne_b (tgt := 18) (pc' := 14) dX8_askedTwo_11 rfl rfl (fun c3 => ?_) (fun c3 => ?_)
    · obtain ⟨n4, hn4, en4⟩ := in_of (n := 11) (by omega) rfl c3
      subst en4
      refine ev_aload_n (pc' := 19) (i := 0) dX8_askedTwo_18 rfl rfl rfl ?_
      refine ev_getR (pc' := 22) fo_X8_33 dX8_askedTwo_19 rfl hs_115 rfl rf_115_12 ?_
      refine ev_iload_n (pc' := 23) (i := 1) dX8_askedTwo_22 rfl rfl rfl ?_
      refine ev_zald (pc' := 24) (j := n2) (v := (I 122) n2) dX8_askedTwo_23 rfl hs_122 rfl (by omega) (Nat.le_of_ble_eq_true rfl) rfl ?_
      refine ev_if_eq (tgt := 40) (pc' := 27) dX8_askedTwo_24 rfl rfl (fun c5 => ?_) (fun c5 => ?_)
      · refine ev_aload_n (pc' := 41) (i := 0) dX8_askedTwo_40 rfl rfl rfl ?_
        refine ev_iconst (pc' := 42) (v := 1) dX8_askedTwo_41 rfl ki_1 ?_
        refine ev_callV (pc' := 45) (rm' := rX8_meets) (b := 115) (av := [.int 1]) (rest := []) co_X8_141 ci_X8_meets cv_X8_meets dX8_askedTwo_42 rfl hs_115 hb_X8 rfl rfl (Nat.le_of_ble_eq_true rfl) ⟨(Nat.le_of_ble_eq_true rfl), (Nat.le_of_ble_eq_true rfl)⟩ ⟨(Nat.le_of_ble_eq_true rfl), (Nat.le_of_ble_eq_true rfl)⟩ ?_
        refine t_X8_meets 1 (by omega) ?_
        refine ev_mMt 1 ?_
        refine ev_iret dX8_askedTwo_45 rfl rfl ⟨Nat.le_refl _, Nat.le_refl _⟩ ?_
        exact k2 n2 hn2 rfl n4 hn4 rfl c5
      · refine ev_aload_n (pc' := 28) (i := 0) dX8_askedTwo_27 rfl rfl rfl ?_
        refine ev_getR (pc' := 31) fo_X8_33 dX8_askedTwo_28 rfl hs_115 rfl rf_115_12 ?_
        refine ev_iload_n (pc' := 32) (i := 2) dX8_askedTwo_31 rfl rfl rfl ?_
        refine ev_zald (pc' := 33) (j := n4) (v := (I 122) n4) dX8_askedTwo_32 rfl hs_122 rfl (by omega) (Nat.le_of_ble_eq_true rfl) rfl ?_
        refine ev_if_eq (tgt := 40) (pc' := 36) dX8_askedTwo_33 rfl rfl (fun c6 => ?_) (fun c6 => ?_)
        · refine ev_aload_n (pc' := 41) (i := 0) dX8_askedTwo_40 rfl rfl rfl ?_
          refine ev_iconst (pc' := 42) (v := 1) dX8_askedTwo_41 rfl ki_1 ?_
          refine ev_callV (pc' := 45) (rm' := rX8_meets) (b := 115) (av := [.int 1]) (rest := []) co_X8_141 ci_X8_meets cv_X8_meets dX8_askedTwo_42 rfl hs_115 hb_X8 rfl rfl (Nat.le_of_ble_eq_true rfl) ⟨(Nat.le_of_ble_eq_true rfl), (Nat.le_of_ble_eq_true rfl)⟩ ⟨(Nat.le_of_ble_eq_true rfl), (Nat.le_of_ble_eq_true rfl)⟩ ?_
          refine t_X8_meets 1 (by omega) ?_
          refine ev_mMt 1 ?_
          refine ev_iret dX8_askedTwo_45 rfl rfl ⟨Nat.le_refl _, Nat.le_refl _⟩ ?_
          exact k3 n2 hn2 rfl n4 hn4 rfl c5 c6
        · refine ev_iconst (pc' := 37) (v := 0) dX8_askedTwo_36 rfl ki_0 ?_
          refine ev_goto (tgt := 45) dX8_askedTwo_37 rfl ?_
          refine ev_iret dX8_askedTwo_45 rfl rfl ⟨Nat.le_refl _, Nat.le_refl _⟩ ?_
          exact k4 n2 hn2 rfl n4 hn4 rfl c5 c6
    · refine ev_iconst (pc' := 15) (v := (-1)) dX8_askedTwo_14 rfl ki_m1 ?_
      refine ev_goto (tgt := 45) dX8_askedTwo_15 rfl ?_
      refine ev_iret dX8_askedTwo_45 rfl rfl ⟨Nat.le_refl _, Nat.le_refl _⟩ ?_
      exact k5 n2 hn2 rfl c3
def mW (t : Nat → Int64) : Int64 := (((0 + ((t 0) * ((((t 5) * (((t 10) * (t 15)) - ((t 11) * (t 14)))) - ((t 6) * (((t 9) * (t 15)) - ((t 11) * (t 13))))) + ((t 7) * (((t 9) * (t 14)) - ((t 10) * (t 13))))))) + ((-(t 1)) * ((((t 4) * (((t 10) * (t 15)) - ((t 11) * (t 14)))) - ((t 6) * (((t 8) * (t 15)) - ((t 11) * (t 12))))) + ((t 7) * (((t 8) * (t 14)) - ((t 10) * (t 12))))))) + ((t 2) * ((((t 4) * (((t 9) * (t 15)) - ((t 11) * (t 13)))) - ((t 5) * (((t 8) * (t 15)) - ((t 11) * (t 12))))) + ((t 7) * (((t 8) * (t 13)) - ((t 9) * (t 12))))))) + ((-(t 3)) * ((((t 4) * (((t 9) * (t 14)) - ((t 10) * (t 13)))) - ((t 5) * (((t 8) * (t 14)) - ((t 10) * (t 12))))) + ((t 6) * (((t 8) * (t 13)) - ((t 9) * (t 12))))))
set_option maxRecDepth 4000 in
theorem t_X8_worthOf {g : ma_G} {Post : ma_P} {I : ma_I} {L : ma_L} (a : Nat) (ha : HS a = (10, 16)) (k : Post (some (.long (mW (L a)))) HS I L RF 146) : CT g yX8_worthOf cX8_worthOf 9 (some .long) rX8_worthOf [.ref a] Post HS I L RF 146 := by
  refine ct_of (lv := [some (.ref a), none, none, none, none, none, none, none, none]) (by decide) (Nat.le_of_ble_eq_true rfl) rfl ?_
  refine ev_lconst (pc' := 1) (v := 0) dX8_worthOf_0 rfl kl_0 ?_
  refine ev_lstore_n (pc' := 2) (i := 1) (lv' := [some (.ref a), some (.long 0), none, none, none, none, none, none, none]) dX8_worthOf_1 rfl rfl (Nat.le_of_ble_eq_true rfl) rfl rfl ?_
  refine ev_iconst (pc' := 3) (v := 0) dX8_worthOf_2 rfl ki_0 ?_
  refine ev_istore_n (pc' := 4) (i := 3) (lv' := [some (.ref a), some (.long 0), none, some (.int 0), none, none, none, none, none]) dX8_worthOf_3 rfl rfl (Nat.le_of_ble_eq_true rfl) rfl rfl ?_
  refine ev_iload_n (pc' := 5) (i := 3) dX8_worthOf_4 rfl rfl rfl ?_
  refine ev_iconst (pc' := 6) (v := 4) dX8_worthOf_5 rfl ki_4 ?_
  refine ev_icmp_ge (tgt := 193) (pc' := 9) dX8_worthOf_6 rfl rfl (fun h => absurd h (by decide)) (fun _ => ?_)
  refine ev_iload_n (pc' := 10) (i := 3) dX8_worthOf_9 rfl rfl rfl ?_
  refine ev_if_ne (tgt := 17) (pc' := 13) dX8_worthOf_10 rfl rfl (fun h => absurd (by decide) h) (fun _ => ?_)
  refine ev_iconst (pc' := 14) (v := 1) dX8_worthOf_13 rfl ki_1 ?_
  refine ev_goto (tgt := 18) dX8_worthOf_14 rfl ?_
  refine ev_istore (pc' := 20) (lv' := [some (.ref a), some (.long 0), none, some (.int 0), some (.int 1), none, none, none, none]) dX8_worthOf_18 rfl (Nat.le_of_ble_eq_true rfl) rfl rfl ?_
  refine ev_iload_n (pc' := 21) (i := 3) dX8_worthOf_20 rfl rfl rfl ?_
  refine ev_iconst (pc' := 22) (v := 2) dX8_worthOf_21 rfl ki_2 ?_
  refine ev_icmp_ge (tgt := 29) (pc' := 25) dX8_worthOf_22 rfl rfl (fun h => absurd h (by decide)) (fun _ => ?_)
  refine ev_iconst (pc' := 26) (v := 2) dX8_worthOf_25 rfl ki_2 ?_
  refine ev_goto (tgt := 30) dX8_worthOf_26 rfl ?_
  refine ev_istore (pc' := 32) (lv' := [some (.ref a), some (.long 0), none, some (.int 0), some (.int 1), some (.int 2), none, none, none]) dX8_worthOf_30 rfl (Nat.le_of_ble_eq_true rfl) rfl rfl ?_
  refine ev_iload_n (pc' := 33) (i := 3) dX8_worthOf_32 rfl rfl rfl ?_
  refine ev_iconst (pc' := 34) (v := 3) dX8_worthOf_33 rfl ki_3 ?_
  refine ev_icmp_ge (tgt := 41) (pc' := 37) dX8_worthOf_34 rfl rfl (fun h => absurd h (by decide)) (fun _ => ?_)
  refine ev_iconst (pc' := 38) (v := 3) dX8_worthOf_37 rfl ki_3 ?_
  refine ev_goto (tgt := 42) dX8_worthOf_38 rfl ?_
  refine ev_istore (pc' := 44) (lv' := [some (.ref a), some (.long 0), none, some (.int 0), some (.int 1), some (.int 2), some (.int 3), none, none]) dX8_worthOf_42 rfl (Nat.le_of_ble_eq_true rfl) rfl rfl ?_
  refine ev_aload_n (pc' := 45) (i := 0) dX8_worthOf_44 rfl rfl rfl ?_
  refine ev_iconst (pc' := 46) (v := 4) dX8_worthOf_45 rfl ki_4 ?_
  refine ev_iload (pc' := 48) dX8_worthOf_46 rfl rfl ?_
  refine ev_iadd (pc' := 49) (v := 5) dX8_worthOf_48 rfl (by decide) ?_
  refine ev_lald (pc' := 50) (j := 5) (v := (L a) 5) dX8_worthOf_49 rfl ha rfl (Nat.le_of_ble_eq_true rfl) (Nat.le_of_ble_eq_true rfl) rfl ?_
  refine ev_aload_n (pc' := 51) (i := 0) dX8_worthOf_50 rfl rfl rfl ?_
  refine ev_bipush (pc' := 53) (v := 8) dX8_worthOf_51 rfl kb_8 ?_
  refine ev_iload (pc' := 55) dX8_worthOf_53 rfl rfl ?_
  refine ev_iadd (pc' := 56) (v := 10) dX8_worthOf_55 rfl (by decide) ?_
  refine ev_lald (pc' := 57) (j := 10) (v := (L a) 10) dX8_worthOf_56 rfl ha rfl (Nat.le_of_ble_eq_true rfl) (Nat.le_of_ble_eq_true rfl) rfl ?_
  refine ev_aload_n (pc' := 58) (i := 0) dX8_worthOf_57 rfl rfl rfl ?_
  refine ev_bipush (pc' := 60) (v := 12) dX8_worthOf_58 rfl kb_12 ?_
  refine ev_iload (pc' := 62) dX8_worthOf_60 rfl rfl ?_
  refine ev_iadd (pc' := 63) (v := 15) dX8_worthOf_62 rfl (by decide) ?_
  refine ev_lald (pc' := 64) (j := 15) (v := (L a) 15) dX8_worthOf_63 rfl ha rfl (Nat.le_of_ble_eq_true rfl) (Nat.le_of_ble_eq_true rfl) rfl ?_
  refine ev_lmul (pc' := 65) (v := ((L a) 10) * ((L a) 15)) dX8_worthOf_64 rfl rfl ?_
  refine ev_aload_n (pc' := 66) (i := 0) dX8_worthOf_65 rfl rfl rfl ?_
  refine ev_bipush (pc' := 68) (v := 8) dX8_worthOf_66 rfl kb_8 ?_
  refine ev_iload (pc' := 70) dX8_worthOf_68 rfl rfl ?_
  refine ev_iadd (pc' := 71) (v := 11) dX8_worthOf_70 rfl (by decide) ?_
  refine ev_lald (pc' := 72) (j := 11) (v := (L a) 11) dX8_worthOf_71 rfl ha rfl (Nat.le_of_ble_eq_true rfl) (Nat.le_of_ble_eq_true rfl) rfl ?_
  refine ev_aload_n (pc' := 73) (i := 0) dX8_worthOf_72 rfl rfl rfl ?_
  refine ev_bipush (pc' := 75) (v := 12) dX8_worthOf_73 rfl kb_12 ?_
  refine ev_iload (pc' := 77) dX8_worthOf_75 rfl rfl ?_
  refine ev_iadd (pc' := 78) (v := 14) dX8_worthOf_77 rfl (by decide) ?_
  refine ev_lald (pc' := 79) (j := 14) (v := (L a) 14) dX8_worthOf_78 rfl ha rfl (Nat.le_of_ble_eq_true rfl) (Nat.le_of_ble_eq_true rfl) rfl ?_
  refine ev_lmul (pc' := 80) (v := ((L a) 11) * ((L a) 14)) dX8_worthOf_79 rfl rfl ?_
  refine ev_lsub (pc' := 81) (v := (((L a) 10) * ((L a) 15)) - (((L a) 11) * ((L a) 14))) dX8_worthOf_80 rfl rfl ?_
  refine ev_lmul (pc' := 82) (v := ((L a) 5) * ((((L a) 10) * ((L a) 15)) - (((L a) 11) * ((L a) 14)))) dX8_worthOf_81 rfl rfl ?_
  refine ev_aload_n (pc' := 83) (i := 0) dX8_worthOf_82 rfl rfl rfl ?_
  refine ev_iconst (pc' := 84) (v := 4) dX8_worthOf_83 rfl ki_4 ?_
  refine ev_iload (pc' := 86) dX8_worthOf_84 rfl rfl ?_
  refine ev_iadd (pc' := 87) (v := 6) dX8_worthOf_86 rfl (by decide) ?_
  refine ev_lald (pc' := 88) (j := 6) (v := (L a) 6) dX8_worthOf_87 rfl ha rfl (Nat.le_of_ble_eq_true rfl) (Nat.le_of_ble_eq_true rfl) rfl ?_
  refine ev_aload_n (pc' := 89) (i := 0) dX8_worthOf_88 rfl rfl rfl ?_
  refine ev_bipush (pc' := 91) (v := 8) dX8_worthOf_89 rfl kb_8 ?_
  refine ev_iload (pc' := 93) dX8_worthOf_91 rfl rfl ?_
  refine ev_iadd (pc' := 94) (v := 9) dX8_worthOf_93 rfl (by decide) ?_
  refine ev_lald (pc' := 95) (j := 9) (v := (L a) 9) dX8_worthOf_94 rfl ha rfl (Nat.le_of_ble_eq_true rfl) (Nat.le_of_ble_eq_true rfl) rfl ?_
  refine ev_aload_n (pc' := 96) (i := 0) dX8_worthOf_95 rfl rfl rfl ?_
  refine ev_bipush (pc' := 98) (v := 12) dX8_worthOf_96 rfl kb_12 ?_
  refine ev_iload (pc' := 100) dX8_worthOf_98 rfl rfl ?_
  refine ev_iadd (pc' := 101) (v := 15) dX8_worthOf_100 rfl (by decide) ?_
  refine ev_lald (pc' := 102) (j := 15) (v := (L a) 15) dX8_worthOf_101 rfl ha rfl (Nat.le_of_ble_eq_true rfl) (Nat.le_of_ble_eq_true rfl) rfl ?_
  refine ev_lmul (pc' := 103) (v := ((L a) 9) * ((L a) 15)) dX8_worthOf_102 rfl rfl ?_
  refine ev_aload_n (pc' := 104) (i := 0) dX8_worthOf_103 rfl rfl rfl ?_
  refine ev_bipush (pc' := 106) (v := 8) dX8_worthOf_104 rfl kb_8 ?_
  refine ev_iload (pc' := 108) dX8_worthOf_106 rfl rfl ?_
  refine ev_iadd (pc' := 109) (v := 11) dX8_worthOf_108 rfl (by decide) ?_
  refine ev_lald (pc' := 110) (j := 11) (v := (L a) 11) dX8_worthOf_109 rfl ha rfl (Nat.le_of_ble_eq_true rfl) (Nat.le_of_ble_eq_true rfl) rfl ?_
  refine ev_aload_n (pc' := 111) (i := 0) dX8_worthOf_110 rfl rfl rfl ?_
  refine ev_bipush (pc' := 113) (v := 12) dX8_worthOf_111 rfl kb_12 ?_
  refine ev_iload (pc' := 115) dX8_worthOf_113 rfl rfl ?_
  refine ev_iadd (pc' := 116) (v := 13) dX8_worthOf_115 rfl (by decide) ?_
  refine ev_lald (pc' := 117) (j := 13) (v := (L a) 13) dX8_worthOf_116 rfl ha rfl (Nat.le_of_ble_eq_true rfl) (Nat.le_of_ble_eq_true rfl) rfl ?_
  refine ev_lmul (pc' := 118) (v := ((L a) 11) * ((L a) 13)) dX8_worthOf_117 rfl rfl ?_
  refine ev_lsub (pc' := 119) (v := (((L a) 9) * ((L a) 15)) - (((L a) 11) * ((L a) 13))) dX8_worthOf_118 rfl rfl ?_
  refine ev_lmul (pc' := 120) (v := ((L a) 6) * ((((L a) 9) * ((L a) 15)) - (((L a) 11) * ((L a) 13)))) dX8_worthOf_119 rfl rfl ?_
  refine ev_lsub (pc' := 121) (v := (((L a) 5) * ((((L a) 10) * ((L a) 15)) - (((L a) 11) * ((L a) 14)))) - (((L a) 6) * ((((L a) 9) * ((L a) 15)) - (((L a) 11) * ((L a) 13))))) dX8_worthOf_120 rfl rfl ?_
  refine ev_aload_n (pc' := 122) (i := 0) dX8_worthOf_121 rfl rfl rfl ?_
  refine ev_iconst (pc' := 123) (v := 4) dX8_worthOf_122 rfl ki_4 ?_
  refine ev_iload (pc' := 125) dX8_worthOf_123 rfl rfl ?_
  refine ev_iadd (pc' := 126) (v := 7) dX8_worthOf_125 rfl (by decide) ?_
  refine ev_lald (pc' := 127) (j := 7) (v := (L a) 7) dX8_worthOf_126 rfl ha rfl (Nat.le_of_ble_eq_true rfl) (Nat.le_of_ble_eq_true rfl) rfl ?_
  refine ev_aload_n (pc' := 128) (i := 0) dX8_worthOf_127 rfl rfl rfl ?_
  refine ev_bipush (pc' := 130) (v := 8) dX8_worthOf_128 rfl kb_8 ?_
  refine ev_iload (pc' := 132) dX8_worthOf_130 rfl rfl ?_
  refine ev_iadd (pc' := 133) (v := 9) dX8_worthOf_132 rfl (by decide) ?_
  refine ev_lald (pc' := 134) (j := 9) (v := (L a) 9) dX8_worthOf_133 rfl ha rfl (Nat.le_of_ble_eq_true rfl) (Nat.le_of_ble_eq_true rfl) rfl ?_
  refine ev_aload_n (pc' := 135) (i := 0) dX8_worthOf_134 rfl rfl rfl ?_
  refine ev_bipush (pc' := 137) (v := 12) dX8_worthOf_135 rfl kb_12 ?_
  refine ev_iload (pc' := 139) dX8_worthOf_137 rfl rfl ?_
  refine ev_iadd (pc' := 140) (v := 14) dX8_worthOf_139 rfl (by decide) ?_
  refine ev_lald (pc' := 141) (j := 14) (v := (L a) 14) dX8_worthOf_140 rfl ha rfl (Nat.le_of_ble_eq_true rfl) (Nat.le_of_ble_eq_true rfl) rfl ?_
  refine ev_lmul (pc' := 142) (v := ((L a) 9) * ((L a) 14)) dX8_worthOf_141 rfl rfl ?_
  refine ev_aload_n (pc' := 143) (i := 0) dX8_worthOf_142 rfl rfl rfl ?_
  refine ev_bipush (pc' := 145) (v := 8) dX8_worthOf_143 rfl kb_8 ?_
  refine ev_iload (pc' := 147) dX8_worthOf_145 rfl rfl ?_
  refine ev_iadd (pc' := 148) (v := 10) dX8_worthOf_147 rfl (by decide) ?_
  refine ev_lald (pc' := 149) (j := 10) (v := (L a) 10) dX8_worthOf_148 rfl ha rfl (Nat.le_of_ble_eq_true rfl) (Nat.le_of_ble_eq_true rfl) rfl ?_
  refine ev_aload_n (pc' := 150) (i := 0) dX8_worthOf_149 rfl rfl rfl ?_
  refine ev_bipush (pc' := 152) (v := 12) dX8_worthOf_150 rfl kb_12 ?_
  refine ev_iload (pc' := 154) dX8_worthOf_152 rfl rfl ?_
  refine ev_iadd (pc' := 155) (v := 13) dX8_worthOf_154 rfl (by decide) ?_
  refine ev_lald (pc' := 156) (j := 13) (v := (L a) 13) dX8_worthOf_155 rfl ha rfl (Nat.le_of_ble_eq_true rfl) (Nat.le_of_ble_eq_true rfl) rfl ?_
  refine ev_lmul (pc' := 157) (v := ((L a) 10) * ((L a) 13)) dX8_worthOf_156 rfl rfl ?_
  refine ev_lsub (pc' := 158) (v := (((L a) 9) * ((L a) 14)) - (((L a) 10) * ((L a) 13))) dX8_worthOf_157 rfl rfl ?_
  refine ev_lmul (pc' := 159) (v := ((L a) 7) * ((((L a) 9) * ((L a) 14)) - (((L a) 10) * ((L a) 13)))) dX8_worthOf_158 rfl rfl ?_
  refine ev_ladd (pc' := 160) (v := ((((L a) 5) * ((((L a) 10) * ((L a) 15)) - (((L a) 11) * ((L a) 14)))) - (((L a) 6) * ((((L a) 9) * ((L a) 15)) - (((L a) 11) * ((L a) 13))))) + (((L a) 7) * ((((L a) 9) * ((L a) 14)) - (((L a) 10) * ((L a) 13))))) dX8_worthOf_159 rfl rfl ?_
  refine ev_lstore (pc' := 162) (lv' := [some (.ref a), some (.long 0), none, some (.int 0), some (.int 1), some (.int 2), some (.int 3), some (.long (((((L a) 5) * ((((L a) 10) * ((L a) 15)) - (((L a) 11) * ((L a) 14)))) - (((L a) 6) * ((((L a) 9) * ((L a) 15)) - (((L a) 11) * ((L a) 13))))) + (((L a) 7) * ((((L a) 9) * ((L a) 14)) - (((L a) 10) * ((L a) 13)))))), none]) dX8_worthOf_160 rfl (Nat.le_of_ble_eq_true rfl) rfl rfl ?_
  refine ev_lload_n (pc' := 163) (i := 1) dX8_worthOf_162 rfl rfl rfl ?_
  refine ev_iload_n (pc' := 164) (i := 3) dX8_worthOf_163 rfl rfl rfl ?_
  refine ev_iconst (pc' := 165) (v := 2) dX8_worthOf_164 rfl ki_2 ?_
  refine ev_irem (pc' := 166) (v := 0) dX8_worthOf_165 rfl (by decide) (by decide) ?_
  refine ev_if_ne (tgt := 178) (pc' := 169) dX8_worthOf_166 rfl rfl (fun h => absurd (by decide) h) (fun _ => ?_)
  refine ev_aload_n (pc' := 170) (i := 0) dX8_worthOf_169 rfl rfl rfl ?_
  refine ev_iload_n (pc' := 171) (i := 3) dX8_worthOf_170 rfl rfl rfl ?_
  refine ev_lald (pc' := 172) (j := 0) (v := (L a) 0) dX8_worthOf_171 rfl ha rfl (Nat.le_of_ble_eq_true rfl) (Nat.le_of_ble_eq_true rfl) rfl ?_
  refine ev_lload (pc' := 174) dX8_worthOf_172 rfl rfl ?_
  refine ev_lmul (pc' := 175) (v := ((L a) 0) * (((((L a) 5) * ((((L a) 10) * ((L a) 15)) - (((L a) 11) * ((L a) 14)))) - (((L a) 6) * ((((L a) 9) * ((L a) 15)) - (((L a) 11) * ((L a) 13))))) + (((L a) 7) * ((((L a) 9) * ((L a) 14)) - (((L a) 10) * ((L a) 13)))))) dX8_worthOf_174 rfl rfl ?_
  refine ev_goto (tgt := 185) dX8_worthOf_175 rfl ?_
  refine ev_ladd (pc' := 186) (v := 0 + (((L a) 0) * (((((L a) 5) * ((((L a) 10) * ((L a) 15)) - (((L a) 11) * ((L a) 14)))) - (((L a) 6) * ((((L a) 9) * ((L a) 15)) - (((L a) 11) * ((L a) 13))))) + (((L a) 7) * ((((L a) 9) * ((L a) 14)) - (((L a) 10) * ((L a) 13))))))) dX8_worthOf_185 rfl rfl ?_
  refine ev_lstore_n (pc' := 187) (i := 1) (lv' := [some (.ref a), some (.long (0 + (((L a) 0) * (((((L a) 5) * ((((L a) 10) * ((L a) 15)) - (((L a) 11) * ((L a) 14)))) - (((L a) 6) * ((((L a) 9) * ((L a) 15)) - (((L a) 11) * ((L a) 13))))) + (((L a) 7) * ((((L a) 9) * ((L a) 14)) - (((L a) 10) * ((L a) 13)))))))), none, some (.int 0), some (.int 1), some (.int 2), some (.int 3), some (.long (((((L a) 5) * ((((L a) 10) * ((L a) 15)) - (((L a) 11) * ((L a) 14)))) - (((L a) 6) * ((((L a) 9) * ((L a) 15)) - (((L a) 11) * ((L a) 13))))) + (((L a) 7) * ((((L a) 9) * ((L a) 14)) - (((L a) 10) * ((L a) 13)))))), none]) dX8_worthOf_186 rfl rfl (Nat.le_of_ble_eq_true rfl) rfl rfl ?_
  refine ev_iinc (pc' := 190) (v := 1) (lv' := [some (.ref a), some (.long (0 + (((L a) 0) * (((((L a) 5) * ((((L a) 10) * ((L a) 15)) - (((L a) 11) * ((L a) 14)))) - (((L a) 6) * ((((L a) 9) * ((L a) 15)) - (((L a) 11) * ((L a) 13))))) + (((L a) 7) * ((((L a) 9) * ((L a) 14)) - (((L a) 10) * ((L a) 13)))))))), none, some (.int 1), some (.int 1), some (.int 2), some (.int 3), some (.long (((((L a) 5) * ((((L a) 10) * ((L a) 15)) - (((L a) 11) * ((L a) 14)))) - (((L a) 6) * ((((L a) 9) * ((L a) 15)) - (((L a) 11) * ((L a) 13))))) + (((L a) 7) * ((((L a) 9) * ((L a) 14)) - (((L a) 10) * ((L a) 13)))))), none]) dX8_worthOf_187 rfl rfl (by decide) (Nat.le_of_ble_eq_true rfl) rfl rfl ?_
  refine ev_goto (tgt := 4) dX8_worthOf_190 rfl ?_
  refine ev_iload_n (pc' := 5) (i := 3) dX8_worthOf_4 rfl rfl rfl ?_
  refine ev_iconst (pc' := 6) (v := 4) dX8_worthOf_5 rfl ki_4 ?_
  refine ev_icmp_ge (tgt := 193) (pc' := 9) dX8_worthOf_6 rfl rfl (fun h => absurd h (by decide)) (fun _ => ?_)
  refine ev_iload_n (pc' := 10) (i := 3) dX8_worthOf_9 rfl rfl rfl ?_
  refine ev_if_ne (tgt := 17) (pc' := 13) dX8_worthOf_10 rfl rfl (fun _ => ?_) (fun h => absurd h (by decide))
  refine ev_iconst (pc' := 18) (v := 0) dX8_worthOf_17 rfl ki_0 ?_
  refine ev_istore (pc' := 20) (lv' := [some (.ref a), some (.long (0 + (((L a) 0) * (((((L a) 5) * ((((L a) 10) * ((L a) 15)) - (((L a) 11) * ((L a) 14)))) - (((L a) 6) * ((((L a) 9) * ((L a) 15)) - (((L a) 11) * ((L a) 13))))) + (((L a) 7) * ((((L a) 9) * ((L a) 14)) - (((L a) 10) * ((L a) 13)))))))), none, some (.int 1), some (.int 0), some (.int 2), some (.int 3), some (.long (((((L a) 5) * ((((L a) 10) * ((L a) 15)) - (((L a) 11) * ((L a) 14)))) - (((L a) 6) * ((((L a) 9) * ((L a) 15)) - (((L a) 11) * ((L a) 13))))) + (((L a) 7) * ((((L a) 9) * ((L a) 14)) - (((L a) 10) * ((L a) 13)))))), none]) dX8_worthOf_18 rfl (Nat.le_of_ble_eq_true rfl) rfl rfl ?_
  refine ev_iload_n (pc' := 21) (i := 3) dX8_worthOf_20 rfl rfl rfl ?_
  refine ev_iconst (pc' := 22) (v := 2) dX8_worthOf_21 rfl ki_2 ?_
  refine ev_icmp_ge (tgt := 29) (pc' := 25) dX8_worthOf_22 rfl rfl (fun h => absurd h (by decide)) (fun _ => ?_)
  refine ev_iconst (pc' := 26) (v := 2) dX8_worthOf_25 rfl ki_2 ?_
  refine ev_goto (tgt := 30) dX8_worthOf_26 rfl ?_
  refine ev_istore (pc' := 32) (lv' := [some (.ref a), some (.long (0 + (((L a) 0) * (((((L a) 5) * ((((L a) 10) * ((L a) 15)) - (((L a) 11) * ((L a) 14)))) - (((L a) 6) * ((((L a) 9) * ((L a) 15)) - (((L a) 11) * ((L a) 13))))) + (((L a) 7) * ((((L a) 9) * ((L a) 14)) - (((L a) 10) * ((L a) 13)))))))), none, some (.int 1), some (.int 0), some (.int 2), some (.int 3), some (.long (((((L a) 5) * ((((L a) 10) * ((L a) 15)) - (((L a) 11) * ((L a) 14)))) - (((L a) 6) * ((((L a) 9) * ((L a) 15)) - (((L a) 11) * ((L a) 13))))) + (((L a) 7) * ((((L a) 9) * ((L a) 14)) - (((L a) 10) * ((L a) 13)))))), none]) dX8_worthOf_30 rfl (Nat.le_of_ble_eq_true rfl) rfl rfl ?_
  refine ev_iload_n (pc' := 33) (i := 3) dX8_worthOf_32 rfl rfl rfl ?_
  refine ev_iconst (pc' := 34) (v := 3) dX8_worthOf_33 rfl ki_3 ?_
  refine ev_icmp_ge (tgt := 41) (pc' := 37) dX8_worthOf_34 rfl rfl (fun h => absurd h (by decide)) (fun _ => ?_)
  refine ev_iconst (pc' := 38) (v := 3) dX8_worthOf_37 rfl ki_3 ?_
  refine ev_goto (tgt := 42) dX8_worthOf_38 rfl ?_
  refine ev_istore (pc' := 44) (lv' := [some (.ref a), some (.long (0 + (((L a) 0) * (((((L a) 5) * ((((L a) 10) * ((L a) 15)) - (((L a) 11) * ((L a) 14)))) - (((L a) 6) * ((((L a) 9) * ((L a) 15)) - (((L a) 11) * ((L a) 13))))) + (((L a) 7) * ((((L a) 9) * ((L a) 14)) - (((L a) 10) * ((L a) 13)))))))), none, some (.int 1), some (.int 0), some (.int 2), some (.int 3), some (.long (((((L a) 5) * ((((L a) 10) * ((L a) 15)) - (((L a) 11) * ((L a) 14)))) - (((L a) 6) * ((((L a) 9) * ((L a) 15)) - (((L a) 11) * ((L a) 13))))) + (((L a) 7) * ((((L a) 9) * ((L a) 14)) - (((L a) 10) * ((L a) 13)))))), none]) dX8_worthOf_42 rfl (Nat.le_of_ble_eq_true rfl) rfl rfl ?_
  refine ev_aload_n (pc' := 45) (i := 0) dX8_worthOf_44 rfl rfl rfl ?_
  refine ev_iconst (pc' := 46) (v := 4) dX8_worthOf_45 rfl ki_4 ?_
  refine ev_iload (pc' := 48) dX8_worthOf_46 rfl rfl ?_
  refine ev_iadd (pc' := 49) (v := 4) dX8_worthOf_48 rfl (by decide) ?_
  refine ev_lald (pc' := 50) (j := 4) (v := (L a) 4) dX8_worthOf_49 rfl ha rfl (Nat.le_of_ble_eq_true rfl) (Nat.le_of_ble_eq_true rfl) rfl ?_
  refine ev_aload_n (pc' := 51) (i := 0) dX8_worthOf_50 rfl rfl rfl ?_
  refine ev_bipush (pc' := 53) (v := 8) dX8_worthOf_51 rfl kb_8 ?_
  refine ev_iload (pc' := 55) dX8_worthOf_53 rfl rfl ?_
  refine ev_iadd (pc' := 56) (v := 10) dX8_worthOf_55 rfl (by decide) ?_
  refine ev_lald (pc' := 57) (j := 10) (v := (L a) 10) dX8_worthOf_56 rfl ha rfl (Nat.le_of_ble_eq_true rfl) (Nat.le_of_ble_eq_true rfl) rfl ?_
  refine ev_aload_n (pc' := 58) (i := 0) dX8_worthOf_57 rfl rfl rfl ?_
  refine ev_bipush (pc' := 60) (v := 12) dX8_worthOf_58 rfl kb_12 ?_
  refine ev_iload (pc' := 62) dX8_worthOf_60 rfl rfl ?_
  refine ev_iadd (pc' := 63) (v := 15) dX8_worthOf_62 rfl (by decide) ?_
  refine ev_lald (pc' := 64) (j := 15) (v := (L a) 15) dX8_worthOf_63 rfl ha rfl (Nat.le_of_ble_eq_true rfl) (Nat.le_of_ble_eq_true rfl) rfl ?_
  refine ev_lmul (pc' := 65) (v := ((L a) 10) * ((L a) 15)) dX8_worthOf_64 rfl rfl ?_
  refine ev_aload_n (pc' := 66) (i := 0) dX8_worthOf_65 rfl rfl rfl ?_
  refine ev_bipush (pc' := 68) (v := 8) dX8_worthOf_66 rfl kb_8 ?_
  refine ev_iload (pc' := 70) dX8_worthOf_68 rfl rfl ?_
  refine ev_iadd (pc' := 71) (v := 11) dX8_worthOf_70 rfl (by decide) ?_
  refine ev_lald (pc' := 72) (j := 11) (v := (L a) 11) dX8_worthOf_71 rfl ha rfl (Nat.le_of_ble_eq_true rfl) (Nat.le_of_ble_eq_true rfl) rfl ?_
  refine ev_aload_n (pc' := 73) (i := 0) dX8_worthOf_72 rfl rfl rfl ?_
  refine ev_bipush (pc' := 75) (v := 12) dX8_worthOf_73 rfl kb_12 ?_
  refine ev_iload (pc' := 77) dX8_worthOf_75 rfl rfl ?_
  refine ev_iadd (pc' := 78) (v := 14) dX8_worthOf_77 rfl (by decide) ?_
  refine ev_lald (pc' := 79) (j := 14) (v := (L a) 14) dX8_worthOf_78 rfl ha rfl (Nat.le_of_ble_eq_true rfl) (Nat.le_of_ble_eq_true rfl) rfl ?_
  refine ev_lmul (pc' := 80) (v := ((L a) 11) * ((L a) 14)) dX8_worthOf_79 rfl rfl ?_
  refine ev_lsub (pc' := 81) (v := (((L a) 10) * ((L a) 15)) - (((L a) 11) * ((L a) 14))) dX8_worthOf_80 rfl rfl ?_
  refine ev_lmul (pc' := 82) (v := ((L a) 4) * ((((L a) 10) * ((L a) 15)) - (((L a) 11) * ((L a) 14)))) dX8_worthOf_81 rfl rfl ?_
  refine ev_aload_n (pc' := 83) (i := 0) dX8_worthOf_82 rfl rfl rfl ?_
  refine ev_iconst (pc' := 84) (v := 4) dX8_worthOf_83 rfl ki_4 ?_
  refine ev_iload (pc' := 86) dX8_worthOf_84 rfl rfl ?_
  refine ev_iadd (pc' := 87) (v := 6) dX8_worthOf_86 rfl (by decide) ?_
  refine ev_lald (pc' := 88) (j := 6) (v := (L a) 6) dX8_worthOf_87 rfl ha rfl (Nat.le_of_ble_eq_true rfl) (Nat.le_of_ble_eq_true rfl) rfl ?_
  refine ev_aload_n (pc' := 89) (i := 0) dX8_worthOf_88 rfl rfl rfl ?_
  refine ev_bipush (pc' := 91) (v := 8) dX8_worthOf_89 rfl kb_8 ?_
  refine ev_iload (pc' := 93) dX8_worthOf_91 rfl rfl ?_
  refine ev_iadd (pc' := 94) (v := 8) dX8_worthOf_93 rfl (by decide) ?_
  refine ev_lald (pc' := 95) (j := 8) (v := (L a) 8) dX8_worthOf_94 rfl ha rfl (Nat.le_of_ble_eq_true rfl) (Nat.le_of_ble_eq_true rfl) rfl ?_
  refine ev_aload_n (pc' := 96) (i := 0) dX8_worthOf_95 rfl rfl rfl ?_
  refine ev_bipush (pc' := 98) (v := 12) dX8_worthOf_96 rfl kb_12 ?_
  refine ev_iload (pc' := 100) dX8_worthOf_98 rfl rfl ?_
  refine ev_iadd (pc' := 101) (v := 15) dX8_worthOf_100 rfl (by decide) ?_
  refine ev_lald (pc' := 102) (j := 15) (v := (L a) 15) dX8_worthOf_101 rfl ha rfl (Nat.le_of_ble_eq_true rfl) (Nat.le_of_ble_eq_true rfl) rfl ?_
  refine ev_lmul (pc' := 103) (v := ((L a) 8) * ((L a) 15)) dX8_worthOf_102 rfl rfl ?_
  refine ev_aload_n (pc' := 104) (i := 0) dX8_worthOf_103 rfl rfl rfl ?_
  refine ev_bipush (pc' := 106) (v := 8) dX8_worthOf_104 rfl kb_8 ?_
  refine ev_iload (pc' := 108) dX8_worthOf_106 rfl rfl ?_
  refine ev_iadd (pc' := 109) (v := 11) dX8_worthOf_108 rfl (by decide) ?_
  refine ev_lald (pc' := 110) (j := 11) (v := (L a) 11) dX8_worthOf_109 rfl ha rfl (Nat.le_of_ble_eq_true rfl) (Nat.le_of_ble_eq_true rfl) rfl ?_
  refine ev_aload_n (pc' := 111) (i := 0) dX8_worthOf_110 rfl rfl rfl ?_
  refine ev_bipush (pc' := 113) (v := 12) dX8_worthOf_111 rfl kb_12 ?_
  refine ev_iload (pc' := 115) dX8_worthOf_113 rfl rfl ?_
  refine ev_iadd (pc' := 116) (v := 12) dX8_worthOf_115 rfl (by decide) ?_
  refine ev_lald (pc' := 117) (j := 12) (v := (L a) 12) dX8_worthOf_116 rfl ha rfl (Nat.le_of_ble_eq_true rfl) (Nat.le_of_ble_eq_true rfl) rfl ?_
  refine ev_lmul (pc' := 118) (v := ((L a) 11) * ((L a) 12)) dX8_worthOf_117 rfl rfl ?_
  refine ev_lsub (pc' := 119) (v := (((L a) 8) * ((L a) 15)) - (((L a) 11) * ((L a) 12))) dX8_worthOf_118 rfl rfl ?_
  refine ev_lmul (pc' := 120) (v := ((L a) 6) * ((((L a) 8) * ((L a) 15)) - (((L a) 11) * ((L a) 12)))) dX8_worthOf_119 rfl rfl ?_
  refine ev_lsub (pc' := 121) (v := (((L a) 4) * ((((L a) 10) * ((L a) 15)) - (((L a) 11) * ((L a) 14)))) - (((L a) 6) * ((((L a) 8) * ((L a) 15)) - (((L a) 11) * ((L a) 12))))) dX8_worthOf_120 rfl rfl ?_
  refine ev_aload_n (pc' := 122) (i := 0) dX8_worthOf_121 rfl rfl rfl ?_
  refine ev_iconst (pc' := 123) (v := 4) dX8_worthOf_122 rfl ki_4 ?_
  refine ev_iload (pc' := 125) dX8_worthOf_123 rfl rfl ?_
  refine ev_iadd (pc' := 126) (v := 7) dX8_worthOf_125 rfl (by decide) ?_
  refine ev_lald (pc' := 127) (j := 7) (v := (L a) 7) dX8_worthOf_126 rfl ha rfl (Nat.le_of_ble_eq_true rfl) (Nat.le_of_ble_eq_true rfl) rfl ?_
  refine ev_aload_n (pc' := 128) (i := 0) dX8_worthOf_127 rfl rfl rfl ?_
  refine ev_bipush (pc' := 130) (v := 8) dX8_worthOf_128 rfl kb_8 ?_
  refine ev_iload (pc' := 132) dX8_worthOf_130 rfl rfl ?_
  refine ev_iadd (pc' := 133) (v := 8) dX8_worthOf_132 rfl (by decide) ?_
  refine ev_lald (pc' := 134) (j := 8) (v := (L a) 8) dX8_worthOf_133 rfl ha rfl (Nat.le_of_ble_eq_true rfl) (Nat.le_of_ble_eq_true rfl) rfl ?_
  refine ev_aload_n (pc' := 135) (i := 0) dX8_worthOf_134 rfl rfl rfl ?_
  refine ev_bipush (pc' := 137) (v := 12) dX8_worthOf_135 rfl kb_12 ?_
  refine ev_iload (pc' := 139) dX8_worthOf_137 rfl rfl ?_
  refine ev_iadd (pc' := 140) (v := 14) dX8_worthOf_139 rfl (by decide) ?_
  refine ev_lald (pc' := 141) (j := 14) (v := (L a) 14) dX8_worthOf_140 rfl ha rfl (Nat.le_of_ble_eq_true rfl) (Nat.le_of_ble_eq_true rfl) rfl ?_
  refine ev_lmul (pc' := 142) (v := ((L a) 8) * ((L a) 14)) dX8_worthOf_141 rfl rfl ?_
  refine ev_aload_n (pc' := 143) (i := 0) dX8_worthOf_142 rfl rfl rfl ?_
  refine ev_bipush (pc' := 145) (v := 8) dX8_worthOf_143 rfl kb_8 ?_
  refine ev_iload (pc' := 147) dX8_worthOf_145 rfl rfl ?_
  refine ev_iadd (pc' := 148) (v := 10) dX8_worthOf_147 rfl (by decide) ?_
  refine ev_lald (pc' := 149) (j := 10) (v := (L a) 10) dX8_worthOf_148 rfl ha rfl (Nat.le_of_ble_eq_true rfl) (Nat.le_of_ble_eq_true rfl) rfl ?_
  refine ev_aload_n (pc' := 150) (i := 0) dX8_worthOf_149 rfl rfl rfl ?_
  refine ev_bipush (pc' := 152) (v := 12) dX8_worthOf_150 rfl kb_12 ?_
  refine ev_iload (pc' := 154) dX8_worthOf_152 rfl rfl ?_
  refine ev_iadd (pc' := 155) (v := 12) dX8_worthOf_154 rfl (by decide) ?_
  refine ev_lald (pc' := 156) (j := 12) (v := (L a) 12) dX8_worthOf_155 rfl ha rfl (Nat.le_of_ble_eq_true rfl) (Nat.le_of_ble_eq_true rfl) rfl ?_
  refine ev_lmul (pc' := 157) (v := ((L a) 10) * ((L a) 12)) dX8_worthOf_156 rfl rfl ?_
  refine ev_lsub (pc' := 158) (v := (((L a) 8) * ((L a) 14)) - (((L a) 10) * ((L a) 12))) dX8_worthOf_157 rfl rfl ?_
  refine ev_lmul (pc' := 159) (v := ((L a) 7) * ((((L a) 8) * ((L a) 14)) - (((L a) 10) * ((L a) 12)))) dX8_worthOf_158 rfl rfl ?_
  refine ev_ladd (pc' := 160) (v := ((((L a) 4) * ((((L a) 10) * ((L a) 15)) - (((L a) 11) * ((L a) 14)))) - (((L a) 6) * ((((L a) 8) * ((L a) 15)) - (((L a) 11) * ((L a) 12))))) + (((L a) 7) * ((((L a) 8) * ((L a) 14)) - (((L a) 10) * ((L a) 12))))) dX8_worthOf_159 rfl rfl ?_
  refine ev_lstore (pc' := 162) (lv' := [some (.ref a), some (.long (0 + (((L a) 0) * (((((L a) 5) * ((((L a) 10) * ((L a) 15)) - (((L a) 11) * ((L a) 14)))) - (((L a) 6) * ((((L a) 9) * ((L a) 15)) - (((L a) 11) * ((L a) 13))))) + (((L a) 7) * ((((L a) 9) * ((L a) 14)) - (((L a) 10) * ((L a) 13)))))))), none, some (.int 1), some (.int 0), some (.int 2), some (.int 3), some (.long (((((L a) 4) * ((((L a) 10) * ((L a) 15)) - (((L a) 11) * ((L a) 14)))) - (((L a) 6) * ((((L a) 8) * ((L a) 15)) - (((L a) 11) * ((L a) 12))))) + (((L a) 7) * ((((L a) 8) * ((L a) 14)) - (((L a) 10) * ((L a) 12)))))), none]) dX8_worthOf_160 rfl (Nat.le_of_ble_eq_true rfl) rfl rfl ?_
  refine ev_lload_n (pc' := 163) (i := 1) dX8_worthOf_162 rfl rfl rfl ?_
  refine ev_iload_n (pc' := 164) (i := 3) dX8_worthOf_163 rfl rfl rfl ?_
  refine ev_iconst (pc' := 165) (v := 2) dX8_worthOf_164 rfl ki_2 ?_
  refine ev_irem (pc' := 166) (v := 1) dX8_worthOf_165 rfl (by decide) (by decide) ?_
  refine ev_if_ne (tgt := 178) (pc' := 169) dX8_worthOf_166 rfl rfl (fun _ => ?_) (fun h => absurd h (by decide))
  refine ev_aload_n (pc' := 179) (i := 0) dX8_worthOf_178 rfl rfl rfl ?_
  refine ev_iload_n (pc' := 180) (i := 3) dX8_worthOf_179 rfl rfl rfl ?_
  refine ev_lald (pc' := 181) (j := 1) (v := (L a) 1) dX8_worthOf_180 rfl ha rfl (Nat.le_of_ble_eq_true rfl) (Nat.le_of_ble_eq_true rfl) rfl ?_
  refine ev_lneg (pc' := 182) (v := -((L a) 1)) dX8_worthOf_181 rfl rfl ?_
  refine ev_lload (pc' := 184) dX8_worthOf_182 rfl rfl ?_
  refine ev_lmul (pc' := 185) (v := (-((L a) 1)) * (((((L a) 4) * ((((L a) 10) * ((L a) 15)) - (((L a) 11) * ((L a) 14)))) - (((L a) 6) * ((((L a) 8) * ((L a) 15)) - (((L a) 11) * ((L a) 12))))) + (((L a) 7) * ((((L a) 8) * ((L a) 14)) - (((L a) 10) * ((L a) 12)))))) dX8_worthOf_184 rfl rfl ?_
  refine ev_ladd (pc' := 186) (v := (0 + (((L a) 0) * (((((L a) 5) * ((((L a) 10) * ((L a) 15)) - (((L a) 11) * ((L a) 14)))) - (((L a) 6) * ((((L a) 9) * ((L a) 15)) - (((L a) 11) * ((L a) 13))))) + (((L a) 7) * ((((L a) 9) * ((L a) 14)) - (((L a) 10) * ((L a) 13))))))) + ((-((L a) 1)) * (((((L a) 4) * ((((L a) 10) * ((L a) 15)) - (((L a) 11) * ((L a) 14)))) - (((L a) 6) * ((((L a) 8) * ((L a) 15)) - (((L a) 11) * ((L a) 12))))) + (((L a) 7) * ((((L a) 8) * ((L a) 14)) - (((L a) 10) * ((L a) 12))))))) dX8_worthOf_185 rfl rfl ?_
  refine ev_lstore_n (pc' := 187) (i := 1) (lv' := [some (.ref a), some (.long ((0 + (((L a) 0) * (((((L a) 5) * ((((L a) 10) * ((L a) 15)) - (((L a) 11) * ((L a) 14)))) - (((L a) 6) * ((((L a) 9) * ((L a) 15)) - (((L a) 11) * ((L a) 13))))) + (((L a) 7) * ((((L a) 9) * ((L a) 14)) - (((L a) 10) * ((L a) 13))))))) + ((-((L a) 1)) * (((((L a) 4) * ((((L a) 10) * ((L a) 15)) - (((L a) 11) * ((L a) 14)))) - (((L a) 6) * ((((L a) 8) * ((L a) 15)) - (((L a) 11) * ((L a) 12))))) + (((L a) 7) * ((((L a) 8) * ((L a) 14)) - (((L a) 10) * ((L a) 12)))))))), none, some (.int 1), some (.int 0), some (.int 2), some (.int 3), some (.long (((((L a) 4) * ((((L a) 10) * ((L a) 15)) - (((L a) 11) * ((L a) 14)))) - (((L a) 6) * ((((L a) 8) * ((L a) 15)) - (((L a) 11) * ((L a) 12))))) + (((L a) 7) * ((((L a) 8) * ((L a) 14)) - (((L a) 10) * ((L a) 12)))))), none]) dX8_worthOf_186 rfl rfl (Nat.le_of_ble_eq_true rfl) rfl rfl ?_
  refine ev_iinc (pc' := 190) (v := 2) (lv' := [some (.ref a), some (.long ((0 + (((L a) 0) * (((((L a) 5) * ((((L a) 10) * ((L a) 15)) - (((L a) 11) * ((L a) 14)))) - (((L a) 6) * ((((L a) 9) * ((L a) 15)) - (((L a) 11) * ((L a) 13))))) + (((L a) 7) * ((((L a) 9) * ((L a) 14)) - (((L a) 10) * ((L a) 13))))))) + ((-((L a) 1)) * (((((L a) 4) * ((((L a) 10) * ((L a) 15)) - (((L a) 11) * ((L a) 14)))) - (((L a) 6) * ((((L a) 8) * ((L a) 15)) - (((L a) 11) * ((L a) 12))))) + (((L a) 7) * ((((L a) 8) * ((L a) 14)) - (((L a) 10) * ((L a) 12)))))))), none, some (.int 2), some (.int 0), some (.int 2), some (.int 3), some (.long (((((L a) 4) * ((((L a) 10) * ((L a) 15)) - (((L a) 11) * ((L a) 14)))) - (((L a) 6) * ((((L a) 8) * ((L a) 15)) - (((L a) 11) * ((L a) 12))))) + (((L a) 7) * ((((L a) 8) * ((L a) 14)) - (((L a) 10) * ((L a) 12)))))), none]) dX8_worthOf_187 rfl rfl (by decide) (Nat.le_of_ble_eq_true rfl) rfl rfl ?_
  refine ev_goto (tgt := 4) dX8_worthOf_190 rfl ?_
  refine ev_iload_n (pc' := 5) (i := 3) dX8_worthOf_4 rfl rfl rfl ?_
  refine ev_iconst (pc' := 6) (v := 4) dX8_worthOf_5 rfl ki_4 ?_
  refine ev_icmp_ge (tgt := 193) (pc' := 9) dX8_worthOf_6 rfl rfl (fun h => absurd h (by decide)) (fun _ => ?_)
  refine ev_iload_n (pc' := 10) (i := 3) dX8_worthOf_9 rfl rfl rfl ?_
  refine ev_if_ne (tgt := 17) (pc' := 13) dX8_worthOf_10 rfl rfl (fun _ => ?_) (fun h => absurd h (by decide))
  refine ev_iconst (pc' := 18) (v := 0) dX8_worthOf_17 rfl ki_0 ?_
  refine ev_istore (pc' := 20) (lv' := [some (.ref a), some (.long ((0 + (((L a) 0) * (((((L a) 5) * ((((L a) 10) * ((L a) 15)) - (((L a) 11) * ((L a) 14)))) - (((L a) 6) * ((((L a) 9) * ((L a) 15)) - (((L a) 11) * ((L a) 13))))) + (((L a) 7) * ((((L a) 9) * ((L a) 14)) - (((L a) 10) * ((L a) 13))))))) + ((-((L a) 1)) * (((((L a) 4) * ((((L a) 10) * ((L a) 15)) - (((L a) 11) * ((L a) 14)))) - (((L a) 6) * ((((L a) 8) * ((L a) 15)) - (((L a) 11) * ((L a) 12))))) + (((L a) 7) * ((((L a) 8) * ((L a) 14)) - (((L a) 10) * ((L a) 12)))))))), none, some (.int 2), some (.int 0), some (.int 2), some (.int 3), some (.long (((((L a) 4) * ((((L a) 10) * ((L a) 15)) - (((L a) 11) * ((L a) 14)))) - (((L a) 6) * ((((L a) 8) * ((L a) 15)) - (((L a) 11) * ((L a) 12))))) + (((L a) 7) * ((((L a) 8) * ((L a) 14)) - (((L a) 10) * ((L a) 12)))))), none]) dX8_worthOf_18 rfl (Nat.le_of_ble_eq_true rfl) rfl rfl ?_
  refine ev_iload_n (pc' := 21) (i := 3) dX8_worthOf_20 rfl rfl rfl ?_
  refine ev_iconst (pc' := 22) (v := 2) dX8_worthOf_21 rfl ki_2 ?_
  refine ev_icmp_ge (tgt := 29) (pc' := 25) dX8_worthOf_22 rfl rfl (fun _ => ?_) (fun h => absurd (by decide) h)
  refine ev_iconst (pc' := 30) (v := 1) dX8_worthOf_29 rfl ki_1 ?_
  refine ev_istore (pc' := 32) (lv' := [some (.ref a), some (.long ((0 + (((L a) 0) * (((((L a) 5) * ((((L a) 10) * ((L a) 15)) - (((L a) 11) * ((L a) 14)))) - (((L a) 6) * ((((L a) 9) * ((L a) 15)) - (((L a) 11) * ((L a) 13))))) + (((L a) 7) * ((((L a) 9) * ((L a) 14)) - (((L a) 10) * ((L a) 13))))))) + ((-((L a) 1)) * (((((L a) 4) * ((((L a) 10) * ((L a) 15)) - (((L a) 11) * ((L a) 14)))) - (((L a) 6) * ((((L a) 8) * ((L a) 15)) - (((L a) 11) * ((L a) 12))))) + (((L a) 7) * ((((L a) 8) * ((L a) 14)) - (((L a) 10) * ((L a) 12)))))))), none, some (.int 2), some (.int 0), some (.int 1), some (.int 3), some (.long (((((L a) 4) * ((((L a) 10) * ((L a) 15)) - (((L a) 11) * ((L a) 14)))) - (((L a) 6) * ((((L a) 8) * ((L a) 15)) - (((L a) 11) * ((L a) 12))))) + (((L a) 7) * ((((L a) 8) * ((L a) 14)) - (((L a) 10) * ((L a) 12)))))), none]) dX8_worthOf_30 rfl (Nat.le_of_ble_eq_true rfl) rfl rfl ?_
  refine ev_iload_n (pc' := 33) (i := 3) dX8_worthOf_32 rfl rfl rfl ?_
  refine ev_iconst (pc' := 34) (v := 3) dX8_worthOf_33 rfl ki_3 ?_
  refine ev_icmp_ge (tgt := 41) (pc' := 37) dX8_worthOf_34 rfl rfl (fun h => absurd h (by decide)) (fun _ => ?_)
  refine ev_iconst (pc' := 38) (v := 3) dX8_worthOf_37 rfl ki_3 ?_
  refine ev_goto (tgt := 42) dX8_worthOf_38 rfl ?_
  refine ev_istore (pc' := 44) (lv' := [some (.ref a), some (.long ((0 + (((L a) 0) * (((((L a) 5) * ((((L a) 10) * ((L a) 15)) - (((L a) 11) * ((L a) 14)))) - (((L a) 6) * ((((L a) 9) * ((L a) 15)) - (((L a) 11) * ((L a) 13))))) + (((L a) 7) * ((((L a) 9) * ((L a) 14)) - (((L a) 10) * ((L a) 13))))))) + ((-((L a) 1)) * (((((L a) 4) * ((((L a) 10) * ((L a) 15)) - (((L a) 11) * ((L a) 14)))) - (((L a) 6) * ((((L a) 8) * ((L a) 15)) - (((L a) 11) * ((L a) 12))))) + (((L a) 7) * ((((L a) 8) * ((L a) 14)) - (((L a) 10) * ((L a) 12)))))))), none, some (.int 2), some (.int 0), some (.int 1), some (.int 3), some (.long (((((L a) 4) * ((((L a) 10) * ((L a) 15)) - (((L a) 11) * ((L a) 14)))) - (((L a) 6) * ((((L a) 8) * ((L a) 15)) - (((L a) 11) * ((L a) 12))))) + (((L a) 7) * ((((L a) 8) * ((L a) 14)) - (((L a) 10) * ((L a) 12)))))), none]) dX8_worthOf_42 rfl (Nat.le_of_ble_eq_true rfl) rfl rfl ?_
  refine ev_aload_n (pc' := 45) (i := 0) dX8_worthOf_44 rfl rfl rfl ?_
  refine ev_iconst (pc' := 46) (v := 4) dX8_worthOf_45 rfl ki_4 ?_
  refine ev_iload (pc' := 48) dX8_worthOf_46 rfl rfl ?_
  refine ev_iadd (pc' := 49) (v := 4) dX8_worthOf_48 rfl (by decide) ?_
  refine ev_lald (pc' := 50) (j := 4) (v := (L a) 4) dX8_worthOf_49 rfl ha rfl (Nat.le_of_ble_eq_true rfl) (Nat.le_of_ble_eq_true rfl) rfl ?_
  refine ev_aload_n (pc' := 51) (i := 0) dX8_worthOf_50 rfl rfl rfl ?_
  refine ev_bipush (pc' := 53) (v := 8) dX8_worthOf_51 rfl kb_8 ?_
  refine ev_iload (pc' := 55) dX8_worthOf_53 rfl rfl ?_
  refine ev_iadd (pc' := 56) (v := 9) dX8_worthOf_55 rfl (by decide) ?_
  refine ev_lald (pc' := 57) (j := 9) (v := (L a) 9) dX8_worthOf_56 rfl ha rfl (Nat.le_of_ble_eq_true rfl) (Nat.le_of_ble_eq_true rfl) rfl ?_
  refine ev_aload_n (pc' := 58) (i := 0) dX8_worthOf_57 rfl rfl rfl ?_
  refine ev_bipush (pc' := 60) (v := 12) dX8_worthOf_58 rfl kb_12 ?_
  refine ev_iload (pc' := 62) dX8_worthOf_60 rfl rfl ?_
  refine ev_iadd (pc' := 63) (v := 15) dX8_worthOf_62 rfl (by decide) ?_
  refine ev_lald (pc' := 64) (j := 15) (v := (L a) 15) dX8_worthOf_63 rfl ha rfl (Nat.le_of_ble_eq_true rfl) (Nat.le_of_ble_eq_true rfl) rfl ?_
  refine ev_lmul (pc' := 65) (v := ((L a) 9) * ((L a) 15)) dX8_worthOf_64 rfl rfl ?_
  refine ev_aload_n (pc' := 66) (i := 0) dX8_worthOf_65 rfl rfl rfl ?_
  refine ev_bipush (pc' := 68) (v := 8) dX8_worthOf_66 rfl kb_8 ?_
  refine ev_iload (pc' := 70) dX8_worthOf_68 rfl rfl ?_
  refine ev_iadd (pc' := 71) (v := 11) dX8_worthOf_70 rfl (by decide) ?_
  refine ev_lald (pc' := 72) (j := 11) (v := (L a) 11) dX8_worthOf_71 rfl ha rfl (Nat.le_of_ble_eq_true rfl) (Nat.le_of_ble_eq_true rfl) rfl ?_
  refine ev_aload_n (pc' := 73) (i := 0) dX8_worthOf_72 rfl rfl rfl ?_
  refine ev_bipush (pc' := 75) (v := 12) dX8_worthOf_73 rfl kb_12 ?_
  refine ev_iload (pc' := 77) dX8_worthOf_75 rfl rfl ?_
  refine ev_iadd (pc' := 78) (v := 13) dX8_worthOf_77 rfl (by decide) ?_
  refine ev_lald (pc' := 79) (j := 13) (v := (L a) 13) dX8_worthOf_78 rfl ha rfl (Nat.le_of_ble_eq_true rfl) (Nat.le_of_ble_eq_true rfl) rfl ?_
  refine ev_lmul (pc' := 80) (v := ((L a) 11) * ((L a) 13)) dX8_worthOf_79 rfl rfl ?_
  refine ev_lsub (pc' := 81) (v := (((L a) 9) * ((L a) 15)) - (((L a) 11) * ((L a) 13))) dX8_worthOf_80 rfl rfl ?_
  refine ev_lmul (pc' := 82) (v := ((L a) 4) * ((((L a) 9) * ((L a) 15)) - (((L a) 11) * ((L a) 13)))) dX8_worthOf_81 rfl rfl ?_
  refine ev_aload_n (pc' := 83) (i := 0) dX8_worthOf_82 rfl rfl rfl ?_
  refine ev_iconst (pc' := 84) (v := 4) dX8_worthOf_83 rfl ki_4 ?_
  refine ev_iload (pc' := 86) dX8_worthOf_84 rfl rfl ?_
  refine ev_iadd (pc' := 87) (v := 5) dX8_worthOf_86 rfl (by decide) ?_
  refine ev_lald (pc' := 88) (j := 5) (v := (L a) 5) dX8_worthOf_87 rfl ha rfl (Nat.le_of_ble_eq_true rfl) (Nat.le_of_ble_eq_true rfl) rfl ?_
  refine ev_aload_n (pc' := 89) (i := 0) dX8_worthOf_88 rfl rfl rfl ?_
  refine ev_bipush (pc' := 91) (v := 8) dX8_worthOf_89 rfl kb_8 ?_
  refine ev_iload (pc' := 93) dX8_worthOf_91 rfl rfl ?_
  refine ev_iadd (pc' := 94) (v := 8) dX8_worthOf_93 rfl (by decide) ?_
  refine ev_lald (pc' := 95) (j := 8) (v := (L a) 8) dX8_worthOf_94 rfl ha rfl (Nat.le_of_ble_eq_true rfl) (Nat.le_of_ble_eq_true rfl) rfl ?_
  refine ev_aload_n (pc' := 96) (i := 0) dX8_worthOf_95 rfl rfl rfl ?_
  refine ev_bipush (pc' := 98) (v := 12) dX8_worthOf_96 rfl kb_12 ?_
  refine ev_iload (pc' := 100) dX8_worthOf_98 rfl rfl ?_
  refine ev_iadd (pc' := 101) (v := 15) dX8_worthOf_100 rfl (by decide) ?_
  refine ev_lald (pc' := 102) (j := 15) (v := (L a) 15) dX8_worthOf_101 rfl ha rfl (Nat.le_of_ble_eq_true rfl) (Nat.le_of_ble_eq_true rfl) rfl ?_
  refine ev_lmul (pc' := 103) (v := ((L a) 8) * ((L a) 15)) dX8_worthOf_102 rfl rfl ?_
  refine ev_aload_n (pc' := 104) (i := 0) dX8_worthOf_103 rfl rfl rfl ?_
  refine ev_bipush (pc' := 106) (v := 8) dX8_worthOf_104 rfl kb_8 ?_
  refine ev_iload (pc' := 108) dX8_worthOf_106 rfl rfl ?_
  refine ev_iadd (pc' := 109) (v := 11) dX8_worthOf_108 rfl (by decide) ?_
  refine ev_lald (pc' := 110) (j := 11) (v := (L a) 11) dX8_worthOf_109 rfl ha rfl (Nat.le_of_ble_eq_true rfl) (Nat.le_of_ble_eq_true rfl) rfl ?_
  refine ev_aload_n (pc' := 111) (i := 0) dX8_worthOf_110 rfl rfl rfl ?_
  refine ev_bipush (pc' := 113) (v := 12) dX8_worthOf_111 rfl kb_12 ?_
  refine ev_iload (pc' := 115) dX8_worthOf_113 rfl rfl ?_
  refine ev_iadd (pc' := 116) (v := 12) dX8_worthOf_115 rfl (by decide) ?_
  refine ev_lald (pc' := 117) (j := 12) (v := (L a) 12) dX8_worthOf_116 rfl ha rfl (Nat.le_of_ble_eq_true rfl) (Nat.le_of_ble_eq_true rfl) rfl ?_
  refine ev_lmul (pc' := 118) (v := ((L a) 11) * ((L a) 12)) dX8_worthOf_117 rfl rfl ?_
  refine ev_lsub (pc' := 119) (v := (((L a) 8) * ((L a) 15)) - (((L a) 11) * ((L a) 12))) dX8_worthOf_118 rfl rfl ?_
  refine ev_lmul (pc' := 120) (v := ((L a) 5) * ((((L a) 8) * ((L a) 15)) - (((L a) 11) * ((L a) 12)))) dX8_worthOf_119 rfl rfl ?_
  refine ev_lsub (pc' := 121) (v := (((L a) 4) * ((((L a) 9) * ((L a) 15)) - (((L a) 11) * ((L a) 13)))) - (((L a) 5) * ((((L a) 8) * ((L a) 15)) - (((L a) 11) * ((L a) 12))))) dX8_worthOf_120 rfl rfl ?_
  refine ev_aload_n (pc' := 122) (i := 0) dX8_worthOf_121 rfl rfl rfl ?_
  refine ev_iconst (pc' := 123) (v := 4) dX8_worthOf_122 rfl ki_4 ?_
  refine ev_iload (pc' := 125) dX8_worthOf_123 rfl rfl ?_
  refine ev_iadd (pc' := 126) (v := 7) dX8_worthOf_125 rfl (by decide) ?_
  refine ev_lald (pc' := 127) (j := 7) (v := (L a) 7) dX8_worthOf_126 rfl ha rfl (Nat.le_of_ble_eq_true rfl) (Nat.le_of_ble_eq_true rfl) rfl ?_
  refine ev_aload_n (pc' := 128) (i := 0) dX8_worthOf_127 rfl rfl rfl ?_
  refine ev_bipush (pc' := 130) (v := 8) dX8_worthOf_128 rfl kb_8 ?_
  refine ev_iload (pc' := 132) dX8_worthOf_130 rfl rfl ?_
  refine ev_iadd (pc' := 133) (v := 8) dX8_worthOf_132 rfl (by decide) ?_
  refine ev_lald (pc' := 134) (j := 8) (v := (L a) 8) dX8_worthOf_133 rfl ha rfl (Nat.le_of_ble_eq_true rfl) (Nat.le_of_ble_eq_true rfl) rfl ?_
  refine ev_aload_n (pc' := 135) (i := 0) dX8_worthOf_134 rfl rfl rfl ?_
  refine ev_bipush (pc' := 137) (v := 12) dX8_worthOf_135 rfl kb_12 ?_
  refine ev_iload (pc' := 139) dX8_worthOf_137 rfl rfl ?_
  refine ev_iadd (pc' := 140) (v := 13) dX8_worthOf_139 rfl (by decide) ?_
  refine ev_lald (pc' := 141) (j := 13) (v := (L a) 13) dX8_worthOf_140 rfl ha rfl (Nat.le_of_ble_eq_true rfl) (Nat.le_of_ble_eq_true rfl) rfl ?_
  refine ev_lmul (pc' := 142) (v := ((L a) 8) * ((L a) 13)) dX8_worthOf_141 rfl rfl ?_
  refine ev_aload_n (pc' := 143) (i := 0) dX8_worthOf_142 rfl rfl rfl ?_
  refine ev_bipush (pc' := 145) (v := 8) dX8_worthOf_143 rfl kb_8 ?_
  refine ev_iload (pc' := 147) dX8_worthOf_145 rfl rfl ?_
  refine ev_iadd (pc' := 148) (v := 9) dX8_worthOf_147 rfl (by decide) ?_
  refine ev_lald (pc' := 149) (j := 9) (v := (L a) 9) dX8_worthOf_148 rfl ha rfl (Nat.le_of_ble_eq_true rfl) (Nat.le_of_ble_eq_true rfl) rfl ?_
  refine ev_aload_n (pc' := 150) (i := 0) dX8_worthOf_149 rfl rfl rfl ?_
  refine ev_bipush (pc' := 152) (v := 12) dX8_worthOf_150 rfl kb_12 ?_
  refine ev_iload (pc' := 154) dX8_worthOf_152 rfl rfl ?_
  refine ev_iadd (pc' := 155) (v := 12) dX8_worthOf_154 rfl (by decide) ?_
  refine ev_lald (pc' := 156) (j := 12) (v := (L a) 12) dX8_worthOf_155 rfl ha rfl (Nat.le_of_ble_eq_true rfl) (Nat.le_of_ble_eq_true rfl) rfl ?_
  refine ev_lmul (pc' := 157) (v := ((L a) 9) * ((L a) 12)) dX8_worthOf_156 rfl rfl ?_
  refine ev_lsub (pc' := 158) (v := (((L a) 8) * ((L a) 13)) - (((L a) 9) * ((L a) 12))) dX8_worthOf_157 rfl rfl ?_
  refine ev_lmul (pc' := 159) (v := ((L a) 7) * ((((L a) 8) * ((L a) 13)) - (((L a) 9) * ((L a) 12)))) dX8_worthOf_158 rfl rfl ?_
  refine ev_ladd (pc' := 160) (v := ((((L a) 4) * ((((L a) 9) * ((L a) 15)) - (((L a) 11) * ((L a) 13)))) - (((L a) 5) * ((((L a) 8) * ((L a) 15)) - (((L a) 11) * ((L a) 12))))) + (((L a) 7) * ((((L a) 8) * ((L a) 13)) - (((L a) 9) * ((L a) 12))))) dX8_worthOf_159 rfl rfl ?_
  refine ev_lstore (pc' := 162) (lv' := [some (.ref a), some (.long ((0 + (((L a) 0) * (((((L a) 5) * ((((L a) 10) * ((L a) 15)) - (((L a) 11) * ((L a) 14)))) - (((L a) 6) * ((((L a) 9) * ((L a) 15)) - (((L a) 11) * ((L a) 13))))) + (((L a) 7) * ((((L a) 9) * ((L a) 14)) - (((L a) 10) * ((L a) 13))))))) + ((-((L a) 1)) * (((((L a) 4) * ((((L a) 10) * ((L a) 15)) - (((L a) 11) * ((L a) 14)))) - (((L a) 6) * ((((L a) 8) * ((L a) 15)) - (((L a) 11) * ((L a) 12))))) + (((L a) 7) * ((((L a) 8) * ((L a) 14)) - (((L a) 10) * ((L a) 12)))))))), none, some (.int 2), some (.int 0), some (.int 1), some (.int 3), some (.long (((((L a) 4) * ((((L a) 9) * ((L a) 15)) - (((L a) 11) * ((L a) 13)))) - (((L a) 5) * ((((L a) 8) * ((L a) 15)) - (((L a) 11) * ((L a) 12))))) + (((L a) 7) * ((((L a) 8) * ((L a) 13)) - (((L a) 9) * ((L a) 12)))))), none]) dX8_worthOf_160 rfl (Nat.le_of_ble_eq_true rfl) rfl rfl ?_
  refine ev_lload_n (pc' := 163) (i := 1) dX8_worthOf_162 rfl rfl rfl ?_
  refine ev_iload_n (pc' := 164) (i := 3) dX8_worthOf_163 rfl rfl rfl ?_
  refine ev_iconst (pc' := 165) (v := 2) dX8_worthOf_164 rfl ki_2 ?_
  refine ev_irem (pc' := 166) (v := 0) dX8_worthOf_165 rfl (by decide) (by decide) ?_
  refine ev_if_ne (tgt := 178) (pc' := 169) dX8_worthOf_166 rfl rfl (fun h => absurd (by decide) h) (fun _ => ?_)
  refine ev_aload_n (pc' := 170) (i := 0) dX8_worthOf_169 rfl rfl rfl ?_
  refine ev_iload_n (pc' := 171) (i := 3) dX8_worthOf_170 rfl rfl rfl ?_
  refine ev_lald (pc' := 172) (j := 2) (v := (L a) 2) dX8_worthOf_171 rfl ha rfl (Nat.le_of_ble_eq_true rfl) (Nat.le_of_ble_eq_true rfl) rfl ?_
  refine ev_lload (pc' := 174) dX8_worthOf_172 rfl rfl ?_
  refine ev_lmul (pc' := 175) (v := ((L a) 2) * (((((L a) 4) * ((((L a) 9) * ((L a) 15)) - (((L a) 11) * ((L a) 13)))) - (((L a) 5) * ((((L a) 8) * ((L a) 15)) - (((L a) 11) * ((L a) 12))))) + (((L a) 7) * ((((L a) 8) * ((L a) 13)) - (((L a) 9) * ((L a) 12)))))) dX8_worthOf_174 rfl rfl ?_
  refine ev_goto (tgt := 185) dX8_worthOf_175 rfl ?_
  refine ev_ladd (pc' := 186) (v := ((0 + (((L a) 0) * (((((L a) 5) * ((((L a) 10) * ((L a) 15)) - (((L a) 11) * ((L a) 14)))) - (((L a) 6) * ((((L a) 9) * ((L a) 15)) - (((L a) 11) * ((L a) 13))))) + (((L a) 7) * ((((L a) 9) * ((L a) 14)) - (((L a) 10) * ((L a) 13))))))) + ((-((L a) 1)) * (((((L a) 4) * ((((L a) 10) * ((L a) 15)) - (((L a) 11) * ((L a) 14)))) - (((L a) 6) * ((((L a) 8) * ((L a) 15)) - (((L a) 11) * ((L a) 12))))) + (((L a) 7) * ((((L a) 8) * ((L a) 14)) - (((L a) 10) * ((L a) 12))))))) + (((L a) 2) * (((((L a) 4) * ((((L a) 9) * ((L a) 15)) - (((L a) 11) * ((L a) 13)))) - (((L a) 5) * ((((L a) 8) * ((L a) 15)) - (((L a) 11) * ((L a) 12))))) + (((L a) 7) * ((((L a) 8) * ((L a) 13)) - (((L a) 9) * ((L a) 12))))))) dX8_worthOf_185 rfl rfl ?_
  refine ev_lstore_n (pc' := 187) (i := 1) (lv' := [some (.ref a), some (.long (((0 + (((L a) 0) * (((((L a) 5) * ((((L a) 10) * ((L a) 15)) - (((L a) 11) * ((L a) 14)))) - (((L a) 6) * ((((L a) 9) * ((L a) 15)) - (((L a) 11) * ((L a) 13))))) + (((L a) 7) * ((((L a) 9) * ((L a) 14)) - (((L a) 10) * ((L a) 13))))))) + ((-((L a) 1)) * (((((L a) 4) * ((((L a) 10) * ((L a) 15)) - (((L a) 11) * ((L a) 14)))) - (((L a) 6) * ((((L a) 8) * ((L a) 15)) - (((L a) 11) * ((L a) 12))))) + (((L a) 7) * ((((L a) 8) * ((L a) 14)) - (((L a) 10) * ((L a) 12))))))) + (((L a) 2) * (((((L a) 4) * ((((L a) 9) * ((L a) 15)) - (((L a) 11) * ((L a) 13)))) - (((L a) 5) * ((((L a) 8) * ((L a) 15)) - (((L a) 11) * ((L a) 12))))) + (((L a) 7) * ((((L a) 8) * ((L a) 13)) - (((L a) 9) * ((L a) 12)))))))), none, some (.int 2), some (.int 0), some (.int 1), some (.int 3), some (.long (((((L a) 4) * ((((L a) 9) * ((L a) 15)) - (((L a) 11) * ((L a) 13)))) - (((L a) 5) * ((((L a) 8) * ((L a) 15)) - (((L a) 11) * ((L a) 12))))) + (((L a) 7) * ((((L a) 8) * ((L a) 13)) - (((L a) 9) * ((L a) 12)))))), none]) dX8_worthOf_186 rfl rfl (Nat.le_of_ble_eq_true rfl) rfl rfl ?_
  refine ev_iinc (pc' := 190) (v := 3) (lv' := [some (.ref a), some (.long (((0 + (((L a) 0) * (((((L a) 5) * ((((L a) 10) * ((L a) 15)) - (((L a) 11) * ((L a) 14)))) - (((L a) 6) * ((((L a) 9) * ((L a) 15)) - (((L a) 11) * ((L a) 13))))) + (((L a) 7) * ((((L a) 9) * ((L a) 14)) - (((L a) 10) * ((L a) 13))))))) + ((-((L a) 1)) * (((((L a) 4) * ((((L a) 10) * ((L a) 15)) - (((L a) 11) * ((L a) 14)))) - (((L a) 6) * ((((L a) 8) * ((L a) 15)) - (((L a) 11) * ((L a) 12))))) + (((L a) 7) * ((((L a) 8) * ((L a) 14)) - (((L a) 10) * ((L a) 12))))))) + (((L a) 2) * (((((L a) 4) * ((((L a) 9) * ((L a) 15)) - (((L a) 11) * ((L a) 13)))) - (((L a) 5) * ((((L a) 8) * ((L a) 15)) - (((L a) 11) * ((L a) 12))))) + (((L a) 7) * ((((L a) 8) * ((L a) 13)) - (((L a) 9) * ((L a) 12)))))))), none, some (.int 3), some (.int 0), some (.int 1), some (.int 3), some (.long (((((L a) 4) * ((((L a) 9) * ((L a) 15)) - (((L a) 11) * ((L a) 13)))) - (((L a) 5) * ((((L a) 8) * ((L a) 15)) - (((L a) 11) * ((L a) 12))))) + (((L a) 7) * ((((L a) 8) * ((L a) 13)) - (((L a) 9) * ((L a) 12)))))), none]) dX8_worthOf_187 rfl rfl (by decide) (Nat.le_of_ble_eq_true rfl) rfl rfl ?_
  refine ev_goto (tgt := 4) dX8_worthOf_190 rfl ?_
  refine ev_iload_n (pc' := 5) (i := 3) dX8_worthOf_4 rfl rfl rfl ?_
  refine ev_iconst (pc' := 6) (v := 4) dX8_worthOf_5 rfl ki_4 ?_
  refine ev_icmp_ge (tgt := 193) (pc' := 9) dX8_worthOf_6 rfl rfl (fun h => absurd h (by decide)) (fun _ => ?_)
  refine ev_iload_n (pc' := 10) (i := 3) dX8_worthOf_9 rfl rfl rfl ?_
  refine ev_if_ne (tgt := 17) (pc' := 13) dX8_worthOf_10 rfl rfl (fun _ => ?_) (fun h => absurd h (by decide))
  refine ev_iconst (pc' := 18) (v := 0) dX8_worthOf_17 rfl ki_0 ?_
  refine ev_istore (pc' := 20) (lv' := [some (.ref a), some (.long (((0 + (((L a) 0) * (((((L a) 5) * ((((L a) 10) * ((L a) 15)) - (((L a) 11) * ((L a) 14)))) - (((L a) 6) * ((((L a) 9) * ((L a) 15)) - (((L a) 11) * ((L a) 13))))) + (((L a) 7) * ((((L a) 9) * ((L a) 14)) - (((L a) 10) * ((L a) 13))))))) + ((-((L a) 1)) * (((((L a) 4) * ((((L a) 10) * ((L a) 15)) - (((L a) 11) * ((L a) 14)))) - (((L a) 6) * ((((L a) 8) * ((L a) 15)) - (((L a) 11) * ((L a) 12))))) + (((L a) 7) * ((((L a) 8) * ((L a) 14)) - (((L a) 10) * ((L a) 12))))))) + (((L a) 2) * (((((L a) 4) * ((((L a) 9) * ((L a) 15)) - (((L a) 11) * ((L a) 13)))) - (((L a) 5) * ((((L a) 8) * ((L a) 15)) - (((L a) 11) * ((L a) 12))))) + (((L a) 7) * ((((L a) 8) * ((L a) 13)) - (((L a) 9) * ((L a) 12)))))))), none, some (.int 3), some (.int 0), some (.int 1), some (.int 3), some (.long (((((L a) 4) * ((((L a) 9) * ((L a) 15)) - (((L a) 11) * ((L a) 13)))) - (((L a) 5) * ((((L a) 8) * ((L a) 15)) - (((L a) 11) * ((L a) 12))))) + (((L a) 7) * ((((L a) 8) * ((L a) 13)) - (((L a) 9) * ((L a) 12)))))), none]) dX8_worthOf_18 rfl (Nat.le_of_ble_eq_true rfl) rfl rfl ?_
  refine ev_iload_n (pc' := 21) (i := 3) dX8_worthOf_20 rfl rfl rfl ?_
  refine ev_iconst (pc' := 22) (v := 2) dX8_worthOf_21 rfl ki_2 ?_
  refine ev_icmp_ge (tgt := 29) (pc' := 25) dX8_worthOf_22 rfl rfl (fun _ => ?_) (fun h => absurd (by decide) h)
  refine ev_iconst (pc' := 30) (v := 1) dX8_worthOf_29 rfl ki_1 ?_
  refine ev_istore (pc' := 32) (lv' := [some (.ref a), some (.long (((0 + (((L a) 0) * (((((L a) 5) * ((((L a) 10) * ((L a) 15)) - (((L a) 11) * ((L a) 14)))) - (((L a) 6) * ((((L a) 9) * ((L a) 15)) - (((L a) 11) * ((L a) 13))))) + (((L a) 7) * ((((L a) 9) * ((L a) 14)) - (((L a) 10) * ((L a) 13))))))) + ((-((L a) 1)) * (((((L a) 4) * ((((L a) 10) * ((L a) 15)) - (((L a) 11) * ((L a) 14)))) - (((L a) 6) * ((((L a) 8) * ((L a) 15)) - (((L a) 11) * ((L a) 12))))) + (((L a) 7) * ((((L a) 8) * ((L a) 14)) - (((L a) 10) * ((L a) 12))))))) + (((L a) 2) * (((((L a) 4) * ((((L a) 9) * ((L a) 15)) - (((L a) 11) * ((L a) 13)))) - (((L a) 5) * ((((L a) 8) * ((L a) 15)) - (((L a) 11) * ((L a) 12))))) + (((L a) 7) * ((((L a) 8) * ((L a) 13)) - (((L a) 9) * ((L a) 12)))))))), none, some (.int 3), some (.int 0), some (.int 1), some (.int 3), some (.long (((((L a) 4) * ((((L a) 9) * ((L a) 15)) - (((L a) 11) * ((L a) 13)))) - (((L a) 5) * ((((L a) 8) * ((L a) 15)) - (((L a) 11) * ((L a) 12))))) + (((L a) 7) * ((((L a) 8) * ((L a) 13)) - (((L a) 9) * ((L a) 12)))))), none]) dX8_worthOf_30 rfl (Nat.le_of_ble_eq_true rfl) rfl rfl ?_
  refine ev_iload_n (pc' := 33) (i := 3) dX8_worthOf_32 rfl rfl rfl ?_
  refine ev_iconst (pc' := 34) (v := 3) dX8_worthOf_33 rfl ki_3 ?_
  refine ev_icmp_ge (tgt := 41) (pc' := 37) dX8_worthOf_34 rfl rfl (fun _ => ?_) (fun h => absurd (by decide) h)
  refine ev_iconst (pc' := 42) (v := 2) dX8_worthOf_41 rfl ki_2 ?_
  refine ev_istore (pc' := 44) (lv' := [some (.ref a), some (.long (((0 + (((L a) 0) * (((((L a) 5) * ((((L a) 10) * ((L a) 15)) - (((L a) 11) * ((L a) 14)))) - (((L a) 6) * ((((L a) 9) * ((L a) 15)) - (((L a) 11) * ((L a) 13))))) + (((L a) 7) * ((((L a) 9) * ((L a) 14)) - (((L a) 10) * ((L a) 13))))))) + ((-((L a) 1)) * (((((L a) 4) * ((((L a) 10) * ((L a) 15)) - (((L a) 11) * ((L a) 14)))) - (((L a) 6) * ((((L a) 8) * ((L a) 15)) - (((L a) 11) * ((L a) 12))))) + (((L a) 7) * ((((L a) 8) * ((L a) 14)) - (((L a) 10) * ((L a) 12))))))) + (((L a) 2) * (((((L a) 4) * ((((L a) 9) * ((L a) 15)) - (((L a) 11) * ((L a) 13)))) - (((L a) 5) * ((((L a) 8) * ((L a) 15)) - (((L a) 11) * ((L a) 12))))) + (((L a) 7) * ((((L a) 8) * ((L a) 13)) - (((L a) 9) * ((L a) 12)))))))), none, some (.int 3), some (.int 0), some (.int 1), some (.int 2), some (.long (((((L a) 4) * ((((L a) 9) * ((L a) 15)) - (((L a) 11) * ((L a) 13)))) - (((L a) 5) * ((((L a) 8) * ((L a) 15)) - (((L a) 11) * ((L a) 12))))) + (((L a) 7) * ((((L a) 8) * ((L a) 13)) - (((L a) 9) * ((L a) 12)))))), none]) dX8_worthOf_42 rfl (Nat.le_of_ble_eq_true rfl) rfl rfl ?_
  refine ev_aload_n (pc' := 45) (i := 0) dX8_worthOf_44 rfl rfl rfl ?_
  refine ev_iconst (pc' := 46) (v := 4) dX8_worthOf_45 rfl ki_4 ?_
  refine ev_iload (pc' := 48) dX8_worthOf_46 rfl rfl ?_
  refine ev_iadd (pc' := 49) (v := 4) dX8_worthOf_48 rfl (by decide) ?_
  refine ev_lald (pc' := 50) (j := 4) (v := (L a) 4) dX8_worthOf_49 rfl ha rfl (Nat.le_of_ble_eq_true rfl) (Nat.le_of_ble_eq_true rfl) rfl ?_
  refine ev_aload_n (pc' := 51) (i := 0) dX8_worthOf_50 rfl rfl rfl ?_
  refine ev_bipush (pc' := 53) (v := 8) dX8_worthOf_51 rfl kb_8 ?_
  refine ev_iload (pc' := 55) dX8_worthOf_53 rfl rfl ?_
  refine ev_iadd (pc' := 56) (v := 9) dX8_worthOf_55 rfl (by decide) ?_
  refine ev_lald (pc' := 57) (j := 9) (v := (L a) 9) dX8_worthOf_56 rfl ha rfl (Nat.le_of_ble_eq_true rfl) (Nat.le_of_ble_eq_true rfl) rfl ?_
  refine ev_aload_n (pc' := 58) (i := 0) dX8_worthOf_57 rfl rfl rfl ?_
  refine ev_bipush (pc' := 60) (v := 12) dX8_worthOf_58 rfl kb_12 ?_
  refine ev_iload (pc' := 62) dX8_worthOf_60 rfl rfl ?_
  refine ev_iadd (pc' := 63) (v := 14) dX8_worthOf_62 rfl (by decide) ?_
  refine ev_lald (pc' := 64) (j := 14) (v := (L a) 14) dX8_worthOf_63 rfl ha rfl (Nat.le_of_ble_eq_true rfl) (Nat.le_of_ble_eq_true rfl) rfl ?_
  refine ev_lmul (pc' := 65) (v := ((L a) 9) * ((L a) 14)) dX8_worthOf_64 rfl rfl ?_
  refine ev_aload_n (pc' := 66) (i := 0) dX8_worthOf_65 rfl rfl rfl ?_
  refine ev_bipush (pc' := 68) (v := 8) dX8_worthOf_66 rfl kb_8 ?_
  refine ev_iload (pc' := 70) dX8_worthOf_68 rfl rfl ?_
  refine ev_iadd (pc' := 71) (v := 10) dX8_worthOf_70 rfl (by decide) ?_
  refine ev_lald (pc' := 72) (j := 10) (v := (L a) 10) dX8_worthOf_71 rfl ha rfl (Nat.le_of_ble_eq_true rfl) (Nat.le_of_ble_eq_true rfl) rfl ?_
  refine ev_aload_n (pc' := 73) (i := 0) dX8_worthOf_72 rfl rfl rfl ?_
  refine ev_bipush (pc' := 75) (v := 12) dX8_worthOf_73 rfl kb_12 ?_
  refine ev_iload (pc' := 77) dX8_worthOf_75 rfl rfl ?_
  refine ev_iadd (pc' := 78) (v := 13) dX8_worthOf_77 rfl (by decide) ?_
  refine ev_lald (pc' := 79) (j := 13) (v := (L a) 13) dX8_worthOf_78 rfl ha rfl (Nat.le_of_ble_eq_true rfl) (Nat.le_of_ble_eq_true rfl) rfl ?_
  refine ev_lmul (pc' := 80) (v := ((L a) 10) * ((L a) 13)) dX8_worthOf_79 rfl rfl ?_
  refine ev_lsub (pc' := 81) (v := (((L a) 9) * ((L a) 14)) - (((L a) 10) * ((L a) 13))) dX8_worthOf_80 rfl rfl ?_
  refine ev_lmul (pc' := 82) (v := ((L a) 4) * ((((L a) 9) * ((L a) 14)) - (((L a) 10) * ((L a) 13)))) dX8_worthOf_81 rfl rfl ?_
  refine ev_aload_n (pc' := 83) (i := 0) dX8_worthOf_82 rfl rfl rfl ?_
  refine ev_iconst (pc' := 84) (v := 4) dX8_worthOf_83 rfl ki_4 ?_
  refine ev_iload (pc' := 86) dX8_worthOf_84 rfl rfl ?_
  refine ev_iadd (pc' := 87) (v := 5) dX8_worthOf_86 rfl (by decide) ?_
  refine ev_lald (pc' := 88) (j := 5) (v := (L a) 5) dX8_worthOf_87 rfl ha rfl (Nat.le_of_ble_eq_true rfl) (Nat.le_of_ble_eq_true rfl) rfl ?_
  refine ev_aload_n (pc' := 89) (i := 0) dX8_worthOf_88 rfl rfl rfl ?_
  refine ev_bipush (pc' := 91) (v := 8) dX8_worthOf_89 rfl kb_8 ?_
  refine ev_iload (pc' := 93) dX8_worthOf_91 rfl rfl ?_
  refine ev_iadd (pc' := 94) (v := 8) dX8_worthOf_93 rfl (by decide) ?_
  refine ev_lald (pc' := 95) (j := 8) (v := (L a) 8) dX8_worthOf_94 rfl ha rfl (Nat.le_of_ble_eq_true rfl) (Nat.le_of_ble_eq_true rfl) rfl ?_
  refine ev_aload_n (pc' := 96) (i := 0) dX8_worthOf_95 rfl rfl rfl ?_
  refine ev_bipush (pc' := 98) (v := 12) dX8_worthOf_96 rfl kb_12 ?_
  refine ev_iload (pc' := 100) dX8_worthOf_98 rfl rfl ?_
  refine ev_iadd (pc' := 101) (v := 14) dX8_worthOf_100 rfl (by decide) ?_
  refine ev_lald (pc' := 102) (j := 14) (v := (L a) 14) dX8_worthOf_101 rfl ha rfl (Nat.le_of_ble_eq_true rfl) (Nat.le_of_ble_eq_true rfl) rfl ?_
  refine ev_lmul (pc' := 103) (v := ((L a) 8) * ((L a) 14)) dX8_worthOf_102 rfl rfl ?_
  refine ev_aload_n (pc' := 104) (i := 0) dX8_worthOf_103 rfl rfl rfl ?_
  refine ev_bipush (pc' := 106) (v := 8) dX8_worthOf_104 rfl kb_8 ?_
  refine ev_iload (pc' := 108) dX8_worthOf_106 rfl rfl ?_
  refine ev_iadd (pc' := 109) (v := 10) dX8_worthOf_108 rfl (by decide) ?_
  refine ev_lald (pc' := 110) (j := 10) (v := (L a) 10) dX8_worthOf_109 rfl ha rfl (Nat.le_of_ble_eq_true rfl) (Nat.le_of_ble_eq_true rfl) rfl ?_
  refine ev_aload_n (pc' := 111) (i := 0) dX8_worthOf_110 rfl rfl rfl ?_
  refine ev_bipush (pc' := 113) (v := 12) dX8_worthOf_111 rfl kb_12 ?_
  refine ev_iload (pc' := 115) dX8_worthOf_113 rfl rfl ?_
  refine ev_iadd (pc' := 116) (v := 12) dX8_worthOf_115 rfl (by decide) ?_
  refine ev_lald (pc' := 117) (j := 12) (v := (L a) 12) dX8_worthOf_116 rfl ha rfl (Nat.le_of_ble_eq_true rfl) (Nat.le_of_ble_eq_true rfl) rfl ?_
  refine ev_lmul (pc' := 118) (v := ((L a) 10) * ((L a) 12)) dX8_worthOf_117 rfl rfl ?_
  refine ev_lsub (pc' := 119) (v := (((L a) 8) * ((L a) 14)) - (((L a) 10) * ((L a) 12))) dX8_worthOf_118 rfl rfl ?_
  refine ev_lmul (pc' := 120) (v := ((L a) 5) * ((((L a) 8) * ((L a) 14)) - (((L a) 10) * ((L a) 12)))) dX8_worthOf_119 rfl rfl ?_
  refine ev_lsub (pc' := 121) (v := (((L a) 4) * ((((L a) 9) * ((L a) 14)) - (((L a) 10) * ((L a) 13)))) - (((L a) 5) * ((((L a) 8) * ((L a) 14)) - (((L a) 10) * ((L a) 12))))) dX8_worthOf_120 rfl rfl ?_
  refine ev_aload_n (pc' := 122) (i := 0) dX8_worthOf_121 rfl rfl rfl ?_
  refine ev_iconst (pc' := 123) (v := 4) dX8_worthOf_122 rfl ki_4 ?_
  refine ev_iload (pc' := 125) dX8_worthOf_123 rfl rfl ?_
  refine ev_iadd (pc' := 126) (v := 6) dX8_worthOf_125 rfl (by decide) ?_
  refine ev_lald (pc' := 127) (j := 6) (v := (L a) 6) dX8_worthOf_126 rfl ha rfl (Nat.le_of_ble_eq_true rfl) (Nat.le_of_ble_eq_true rfl) rfl ?_
  refine ev_aload_n (pc' := 128) (i := 0) dX8_worthOf_127 rfl rfl rfl ?_
  refine ev_bipush (pc' := 130) (v := 8) dX8_worthOf_128 rfl kb_8 ?_
  refine ev_iload (pc' := 132) dX8_worthOf_130 rfl rfl ?_
  refine ev_iadd (pc' := 133) (v := 8) dX8_worthOf_132 rfl (by decide) ?_
  refine ev_lald (pc' := 134) (j := 8) (v := (L a) 8) dX8_worthOf_133 rfl ha rfl (Nat.le_of_ble_eq_true rfl) (Nat.le_of_ble_eq_true rfl) rfl ?_
  refine ev_aload_n (pc' := 135) (i := 0) dX8_worthOf_134 rfl rfl rfl ?_
  refine ev_bipush (pc' := 137) (v := 12) dX8_worthOf_135 rfl kb_12 ?_
  refine ev_iload (pc' := 139) dX8_worthOf_137 rfl rfl ?_
  refine ev_iadd (pc' := 140) (v := 13) dX8_worthOf_139 rfl (by decide) ?_
  refine ev_lald (pc' := 141) (j := 13) (v := (L a) 13) dX8_worthOf_140 rfl ha rfl (Nat.le_of_ble_eq_true rfl) (Nat.le_of_ble_eq_true rfl) rfl ?_
  refine ev_lmul (pc' := 142) (v := ((L a) 8) * ((L a) 13)) dX8_worthOf_141 rfl rfl ?_
  refine ev_aload_n (pc' := 143) (i := 0) dX8_worthOf_142 rfl rfl rfl ?_
  refine ev_bipush (pc' := 145) (v := 8) dX8_worthOf_143 rfl kb_8 ?_
  refine ev_iload (pc' := 147) dX8_worthOf_145 rfl rfl ?_
  refine ev_iadd (pc' := 148) (v := 9) dX8_worthOf_147 rfl (by decide) ?_
  refine ev_lald (pc' := 149) (j := 9) (v := (L a) 9) dX8_worthOf_148 rfl ha rfl (Nat.le_of_ble_eq_true rfl) (Nat.le_of_ble_eq_true rfl) rfl ?_
  refine ev_aload_n (pc' := 150) (i := 0) dX8_worthOf_149 rfl rfl rfl ?_
  refine ev_bipush (pc' := 152) (v := 12) dX8_worthOf_150 rfl kb_12 ?_
  refine ev_iload (pc' := 154) dX8_worthOf_152 rfl rfl ?_
  refine ev_iadd (pc' := 155) (v := 12) dX8_worthOf_154 rfl (by decide) ?_
  refine ev_lald (pc' := 156) (j := 12) (v := (L a) 12) dX8_worthOf_155 rfl ha rfl (Nat.le_of_ble_eq_true rfl) (Nat.le_of_ble_eq_true rfl) rfl ?_
  refine ev_lmul (pc' := 157) (v := ((L a) 9) * ((L a) 12)) dX8_worthOf_156 rfl rfl ?_
  refine ev_lsub (pc' := 158) (v := (((L a) 8) * ((L a) 13)) - (((L a) 9) * ((L a) 12))) dX8_worthOf_157 rfl rfl ?_
  refine ev_lmul (pc' := 159) (v := ((L a) 6) * ((((L a) 8) * ((L a) 13)) - (((L a) 9) * ((L a) 12)))) dX8_worthOf_158 rfl rfl ?_
  refine ev_ladd (pc' := 160) (v := ((((L a) 4) * ((((L a) 9) * ((L a) 14)) - (((L a) 10) * ((L a) 13)))) - (((L a) 5) * ((((L a) 8) * ((L a) 14)) - (((L a) 10) * ((L a) 12))))) + (((L a) 6) * ((((L a) 8) * ((L a) 13)) - (((L a) 9) * ((L a) 12))))) dX8_worthOf_159 rfl rfl ?_
  refine ev_lstore (pc' := 162) (lv' := [some (.ref a), some (.long (((0 + (((L a) 0) * (((((L a) 5) * ((((L a) 10) * ((L a) 15)) - (((L a) 11) * ((L a) 14)))) - (((L a) 6) * ((((L a) 9) * ((L a) 15)) - (((L a) 11) * ((L a) 13))))) + (((L a) 7) * ((((L a) 9) * ((L a) 14)) - (((L a) 10) * ((L a) 13))))))) + ((-((L a) 1)) * (((((L a) 4) * ((((L a) 10) * ((L a) 15)) - (((L a) 11) * ((L a) 14)))) - (((L a) 6) * ((((L a) 8) * ((L a) 15)) - (((L a) 11) * ((L a) 12))))) + (((L a) 7) * ((((L a) 8) * ((L a) 14)) - (((L a) 10) * ((L a) 12))))))) + (((L a) 2) * (((((L a) 4) * ((((L a) 9) * ((L a) 15)) - (((L a) 11) * ((L a) 13)))) - (((L a) 5) * ((((L a) 8) * ((L a) 15)) - (((L a) 11) * ((L a) 12))))) + (((L a) 7) * ((((L a) 8) * ((L a) 13)) - (((L a) 9) * ((L a) 12)))))))), none, some (.int 3), some (.int 0), some (.int 1), some (.int 2), some (.long (((((L a) 4) * ((((L a) 9) * ((L a) 14)) - (((L a) 10) * ((L a) 13)))) - (((L a) 5) * ((((L a) 8) * ((L a) 14)) - (((L a) 10) * ((L a) 12))))) + (((L a) 6) * ((((L a) 8) * ((L a) 13)) - (((L a) 9) * ((L a) 12)))))), none]) dX8_worthOf_160 rfl (Nat.le_of_ble_eq_true rfl) rfl rfl ?_
  refine ev_lload_n (pc' := 163) (i := 1) dX8_worthOf_162 rfl rfl rfl ?_
  refine ev_iload_n (pc' := 164) (i := 3) dX8_worthOf_163 rfl rfl rfl ?_
  refine ev_iconst (pc' := 165) (v := 2) dX8_worthOf_164 rfl ki_2 ?_
  refine ev_irem (pc' := 166) (v := 1) dX8_worthOf_165 rfl (by decide) (by decide) ?_
  refine ev_if_ne (tgt := 178) (pc' := 169) dX8_worthOf_166 rfl rfl (fun _ => ?_) (fun h => absurd h (by decide))
  refine ev_aload_n (pc' := 179) (i := 0) dX8_worthOf_178 rfl rfl rfl ?_
  refine ev_iload_n (pc' := 180) (i := 3) dX8_worthOf_179 rfl rfl rfl ?_
  refine ev_lald (pc' := 181) (j := 3) (v := (L a) 3) dX8_worthOf_180 rfl ha rfl (Nat.le_of_ble_eq_true rfl) (Nat.le_of_ble_eq_true rfl) rfl ?_
  refine ev_lneg (pc' := 182) (v := -((L a) 3)) dX8_worthOf_181 rfl rfl ?_
  refine ev_lload (pc' := 184) dX8_worthOf_182 rfl rfl ?_
  refine ev_lmul (pc' := 185) (v := (-((L a) 3)) * (((((L a) 4) * ((((L a) 9) * ((L a) 14)) - (((L a) 10) * ((L a) 13)))) - (((L a) 5) * ((((L a) 8) * ((L a) 14)) - (((L a) 10) * ((L a) 12))))) + (((L a) 6) * ((((L a) 8) * ((L a) 13)) - (((L a) 9) * ((L a) 12)))))) dX8_worthOf_184 rfl rfl ?_
  refine ev_ladd (pc' := 186) (v := (((0 + (((L a) 0) * (((((L a) 5) * ((((L a) 10) * ((L a) 15)) - (((L a) 11) * ((L a) 14)))) - (((L a) 6) * ((((L a) 9) * ((L a) 15)) - (((L a) 11) * ((L a) 13))))) + (((L a) 7) * ((((L a) 9) * ((L a) 14)) - (((L a) 10) * ((L a) 13))))))) + ((-((L a) 1)) * (((((L a) 4) * ((((L a) 10) * ((L a) 15)) - (((L a) 11) * ((L a) 14)))) - (((L a) 6) * ((((L a) 8) * ((L a) 15)) - (((L a) 11) * ((L a) 12))))) + (((L a) 7) * ((((L a) 8) * ((L a) 14)) - (((L a) 10) * ((L a) 12))))))) + (((L a) 2) * (((((L a) 4) * ((((L a) 9) * ((L a) 15)) - (((L a) 11) * ((L a) 13)))) - (((L a) 5) * ((((L a) 8) * ((L a) 15)) - (((L a) 11) * ((L a) 12))))) + (((L a) 7) * ((((L a) 8) * ((L a) 13)) - (((L a) 9) * ((L a) 12))))))) + ((-((L a) 3)) * (((((L a) 4) * ((((L a) 9) * ((L a) 14)) - (((L a) 10) * ((L a) 13)))) - (((L a) 5) * ((((L a) 8) * ((L a) 14)) - (((L a) 10) * ((L a) 12))))) + (((L a) 6) * ((((L a) 8) * ((L a) 13)) - (((L a) 9) * ((L a) 12))))))) dX8_worthOf_185 rfl rfl ?_
  refine ev_lstore_n (pc' := 187) (i := 1) (lv' := [some (.ref a), some (.long ((((0 + (((L a) 0) * (((((L a) 5) * ((((L a) 10) * ((L a) 15)) - (((L a) 11) * ((L a) 14)))) - (((L a) 6) * ((((L a) 9) * ((L a) 15)) - (((L a) 11) * ((L a) 13))))) + (((L a) 7) * ((((L a) 9) * ((L a) 14)) - (((L a) 10) * ((L a) 13))))))) + ((-((L a) 1)) * (((((L a) 4) * ((((L a) 10) * ((L a) 15)) - (((L a) 11) * ((L a) 14)))) - (((L a) 6) * ((((L a) 8) * ((L a) 15)) - (((L a) 11) * ((L a) 12))))) + (((L a) 7) * ((((L a) 8) * ((L a) 14)) - (((L a) 10) * ((L a) 12))))))) + (((L a) 2) * (((((L a) 4) * ((((L a) 9) * ((L a) 15)) - (((L a) 11) * ((L a) 13)))) - (((L a) 5) * ((((L a) 8) * ((L a) 15)) - (((L a) 11) * ((L a) 12))))) + (((L a) 7) * ((((L a) 8) * ((L a) 13)) - (((L a) 9) * ((L a) 12))))))) + ((-((L a) 3)) * (((((L a) 4) * ((((L a) 9) * ((L a) 14)) - (((L a) 10) * ((L a) 13)))) - (((L a) 5) * ((((L a) 8) * ((L a) 14)) - (((L a) 10) * ((L a) 12))))) + (((L a) 6) * ((((L a) 8) * ((L a) 13)) - (((L a) 9) * ((L a) 12)))))))), none, some (.int 3), some (.int 0), some (.int 1), some (.int 2), some (.long (((((L a) 4) * ((((L a) 9) * ((L a) 14)) - (((L a) 10) * ((L a) 13)))) - (((L a) 5) * ((((L a) 8) * ((L a) 14)) - (((L a) 10) * ((L a) 12))))) + (((L a) 6) * ((((L a) 8) * ((L a) 13)) - (((L a) 9) * ((L a) 12)))))), none]) dX8_worthOf_186 rfl rfl (Nat.le_of_ble_eq_true rfl) rfl rfl ?_
  refine ev_iinc (pc' := 190) (v := 4) (lv' := [some (.ref a), some (.long ((((0 + (((L a) 0) * (((((L a) 5) * ((((L a) 10) * ((L a) 15)) - (((L a) 11) * ((L a) 14)))) - (((L a) 6) * ((((L a) 9) * ((L a) 15)) - (((L a) 11) * ((L a) 13))))) + (((L a) 7) * ((((L a) 9) * ((L a) 14)) - (((L a) 10) * ((L a) 13))))))) + ((-((L a) 1)) * (((((L a) 4) * ((((L a) 10) * ((L a) 15)) - (((L a) 11) * ((L a) 14)))) - (((L a) 6) * ((((L a) 8) * ((L a) 15)) - (((L a) 11) * ((L a) 12))))) + (((L a) 7) * ((((L a) 8) * ((L a) 14)) - (((L a) 10) * ((L a) 12))))))) + (((L a) 2) * (((((L a) 4) * ((((L a) 9) * ((L a) 15)) - (((L a) 11) * ((L a) 13)))) - (((L a) 5) * ((((L a) 8) * ((L a) 15)) - (((L a) 11) * ((L a) 12))))) + (((L a) 7) * ((((L a) 8) * ((L a) 13)) - (((L a) 9) * ((L a) 12))))))) + ((-((L a) 3)) * (((((L a) 4) * ((((L a) 9) * ((L a) 14)) - (((L a) 10) * ((L a) 13)))) - (((L a) 5) * ((((L a) 8) * ((L a) 14)) - (((L a) 10) * ((L a) 12))))) + (((L a) 6) * ((((L a) 8) * ((L a) 13)) - (((L a) 9) * ((L a) 12)))))))), none, some (.int 4), some (.int 0), some (.int 1), some (.int 2), some (.long (((((L a) 4) * ((((L a) 9) * ((L a) 14)) - (((L a) 10) * ((L a) 13)))) - (((L a) 5) * ((((L a) 8) * ((L a) 14)) - (((L a) 10) * ((L a) 12))))) + (((L a) 6) * ((((L a) 8) * ((L a) 13)) - (((L a) 9) * ((L a) 12)))))), none]) dX8_worthOf_187 rfl rfl (by decide) (Nat.le_of_ble_eq_true rfl) rfl rfl ?_
  refine ev_goto (tgt := 4) dX8_worthOf_190 rfl ?_
  refine ev_iload_n (pc' := 5) (i := 3) dX8_worthOf_4 rfl rfl rfl ?_
  refine ev_iconst (pc' := 6) (v := 4) dX8_worthOf_5 rfl ki_4 ?_
  refine ev_icmp_ge (tgt := 193) (pc' := 9) dX8_worthOf_6 rfl rfl (fun _ => ?_) (fun h => absurd (by decide) h)
  refine ev_lload_n (pc' := 194) (i := 1) dX8_worthOf_193 rfl rfl rfl ?_
  refine ev_lret dX8_worthOf_194 rfl ⟨Nat.le_refl _, Nat.le_refl _⟩ ?_
  exact k
def mA4 (ea eb ec ed : Int64) : Int32 := (((0 + (if (¬ (-(mSg ea)) = 0) ∧ (¬ (-(mSg ea)) = 1) then (1 : Int32) else 0)) + (if (¬ (mSg eb) = 0) ∧ (¬ (mSg eb) = (if (-(mSg ea)) = 0 then 1 else (-(mSg ea)))) then (1 : Int32) else 0)) + (if (¬ (-(mSg ec)) = 0) ∧ (¬ (-(mSg ec)) = (if (mSg eb) = 0 then (if (-(mSg ea)) = 0 then 1 else (-(mSg ea))) else (mSg eb))) then (1 : Int32) else 0)) + (if (¬ (mSg ed) = 0) ∧ (¬ (mSg ed) = (if (-(mSg ec)) = 0 then (if (mSg eb) = 0 then (if (-(mSg ea)) = 0 then 1 else (-(mSg ea))) else (mSg eb)) else (-(mSg ec)))) then (1 : Int32) else 0)
def mB4 (ea eb ec ed : Int64) : Int32 := (((0 + (if (¬ (-(-(mSg ea))) = 0) ∧ (¬ (-(-(mSg ea))) = 1) then (1 : Int32) else 0)) + (if (¬ (mSg eb) = 0) ∧ (¬ (mSg eb) = (if (-(-(mSg ea))) = 0 then 1 else (-(-(mSg ea))))) then (1 : Int32) else 0)) + (if (¬ (-(-(mSg ec))) = 0) ∧ (¬ (-(-(mSg ec))) = (if (mSg eb) = 0 then (if (-(-(mSg ea))) = 0 then 1 else (-(-(mSg ea)))) else (mSg eb))) then (1 : Int32) else 0)) + (if (¬ (mSg ed) = 0) ∧ (¬ (mSg ed) = (if (-(-(mSg ec))) = 0 then (if (mSg eb) = 0 then (if (-(-(mSg ea))) = 0 then 1 else (-(-(mSg ea)))) else (mSg eb)) else (-(-(mSg ec))))) then (1 : Int32) else 0)
set_option maxRecDepth 4000 in
theorem t_X8_laySigns4 {g : ma_G} {Post : ma_P} {I : ma_I} {L : ma_L} (ea : Int64) (eb : Int64) (ec : Int64) (ed : Int64)  (k : Post none HS (ma_up (ma_up I 121 (ma_up (ma_up (ma_up (ma_up (ma_up (I 121) 0 1) 1 (-(mSg ea))) 2 (mSg eb)) 3 (-(mSg ec))) 4 (mSg ed))) 115 (ma_up (ma_up (I 115) 9 (mA4 ea eb ec ed)) 10 (mB4 ea eb ec ed))) L RF 146) : CT g yX8_laySigns cX8_laySigns 15 none rX8_laySigns [.ref 115, .int 4, .long ea, .long eb, .long ec, .long ed] Post HS I L RF 146 := by
  refine ct_of (lv := [some (.ref 115), some (.int 4), some (.long ea), none, some (.long eb), none, some (.long ec), none, some (.long ed), none, none, none, none, none, none]) (by decide) (Nat.le_of_ble_eq_true rfl) rfl ?_
  refine ev_aload_n (pc' := 1) (i := 0) dX8_laySigns_0 rfl rfl rfl ?_
  refine ev_getR (pc' := 4) fo_X8_30 dX8_laySigns_1 rfl hs_115 rfl rf_115_11 ?_
  refine ev_astore (pc' := 6) (lv' := [some (.ref 115), some (.int 4), some (.long ea), none, some (.long eb), none, some (.long ec), none, some (.long ed), none, some (.ref 121), none, none, none, none]) dX8_laySigns_4 rfl (Nat.le_of_ble_eq_true rfl) rfl rfl ?_
  refine ev_aload (pc' := 8) dX8_laySigns_6 rfl rfl ?_
  refine ev_iconst (pc' := 9) (v := 0) dX8_laySigns_8 rfl ki_0 ?_
  refine ev_iconst (pc' := 10) (v := 1) dX8_laySigns_9 rfl ki_1 ?_
  refine ev_iast (pc' := 11) (j := 0) (I' := (ma_up I 121 (ma_up (I 121) 0 1))) dX8_laySigns_10 rfl hs_121 rfl (Nat.le_of_ble_eq_true rfl) (Nat.le_of_ble_eq_true rfl) rfl ?_
  refine ev_aload (pc' := 13) dX8_laySigns_11 rfl rfl ?_
  refine ev_iconst (pc' := 14) (v := 1) dX8_laySigns_13 rfl ki_1 ?_
  refine ev_lload_n (pc' := 15) (i := 2) dX8_laySigns_14 rfl rfl rfl ?_
  refine ev_callS (pc' := 18) (rm' := rX8_sign) (av := [.long ea]) (rest := [.int 1, .ref 121]) co_X8_156 cs_X8_sign dX8_laySigns_15 rfl rfl rfl (Nat.le_of_ble_eq_true rfl) ⟨(Nat.le_of_ble_eq_true rfl), (Nat.le_of_ble_eq_true rfl)⟩ ⟨(Nat.le_of_ble_eq_true rfl), (Nat.le_of_ble_eq_true rfl)⟩ ?_
  refine t_X8_sign ea  ?_
  refine ev_ineg (pc' := 19) (v := -(mSg ea)) dX8_laySigns_18 rfl rfl ?_
  refine ev_iast (pc' := 20) (j := 1) (I' := (ma_up I 121 (ma_up (ma_up (I 121) 0 1) 1 (-(mSg ea))))) dX8_laySigns_19 rfl hs_121 rfl (Nat.le_of_ble_eq_true rfl) (Nat.le_of_ble_eq_true rfl) (ma_up_up _ _ _ _) ?_
  refine ev_aload (pc' := 22) dX8_laySigns_20 rfl rfl ?_
  refine ev_iconst (pc' := 23) (v := 2) dX8_laySigns_22 rfl ki_2 ?_
  refine ev_lload (pc' := 25) dX8_laySigns_23 rfl rfl ?_
  refine ev_callS (pc' := 28) (rm' := rX8_sign) (av := [.long eb]) (rest := [.int 2, .ref 121]) co_X8_156 cs_X8_sign dX8_laySigns_25 rfl rfl rfl (Nat.le_of_ble_eq_true rfl) ⟨(Nat.le_of_ble_eq_true rfl), (Nat.le_of_ble_eq_true rfl)⟩ ⟨(Nat.le_of_ble_eq_true rfl), (Nat.le_of_ble_eq_true rfl)⟩ ?_
  refine t_X8_sign eb  ?_
  refine ev_iast (pc' := 29) (j := 2) (I' := (ma_up I 121 (ma_up (ma_up (ma_up (I 121) 0 1) 1 (-(mSg ea))) 2 (mSg eb)))) dX8_laySigns_28 rfl hs_121 rfl (Nat.le_of_ble_eq_true rfl) (Nat.le_of_ble_eq_true rfl) (ma_up_up _ _ _ _) ?_
  refine ev_aload (pc' := 31) dX8_laySigns_29 rfl rfl ?_
  refine ev_iconst (pc' := 32) (v := 3) dX8_laySigns_31 rfl ki_3 ?_
  refine ev_lload (pc' := 34) dX8_laySigns_32 rfl rfl ?_
  refine ev_callS (pc' := 37) (rm' := rX8_sign) (av := [.long ec]) (rest := [.int 3, .ref 121]) co_X8_156 cs_X8_sign dX8_laySigns_34 rfl rfl rfl (Nat.le_of_ble_eq_true rfl) ⟨(Nat.le_of_ble_eq_true rfl), (Nat.le_of_ble_eq_true rfl)⟩ ⟨(Nat.le_of_ble_eq_true rfl), (Nat.le_of_ble_eq_true rfl)⟩ ?_
  refine t_X8_sign ec  ?_
  refine ev_ineg (pc' := 38) (v := -(mSg ec)) dX8_laySigns_37 rfl rfl ?_
  refine ev_iast (pc' := 39) (j := 3) (I' := (ma_up I 121 (ma_up (ma_up (ma_up (ma_up (I 121) 0 1) 1 (-(mSg ea))) 2 (mSg eb)) 3 (-(mSg ec))))) dX8_laySigns_38 rfl hs_121 rfl (Nat.le_of_ble_eq_true rfl) (Nat.le_of_ble_eq_true rfl) (ma_up_up _ _ _ _) ?_
  refine ev_aload (pc' := 41) dX8_laySigns_39 rfl rfl ?_
  refine ev_iconst (pc' := 42) (v := 4) dX8_laySigns_41 rfl ki_4 ?_
  refine ev_lload (pc' := 44) dX8_laySigns_42 rfl rfl ?_
  refine ev_callS (pc' := 47) (rm' := rX8_sign) (av := [.long ed]) (rest := [.int 4, .ref 121]) co_X8_156 cs_X8_sign dX8_laySigns_44 rfl rfl rfl (Nat.le_of_ble_eq_true rfl) ⟨(Nat.le_of_ble_eq_true rfl), (Nat.le_of_ble_eq_true rfl)⟩ ⟨(Nat.le_of_ble_eq_true rfl), (Nat.le_of_ble_eq_true rfl)⟩ ?_
  refine t_X8_sign ed  ?_
  refine ev_iast (pc' := 48) (j := 4) (I' := (ma_up I 121 (ma_up (ma_up (ma_up (ma_up (ma_up (I 121) 0 1) 1 (-(mSg ea))) 2 (mSg eb)) 3 (-(mSg ec))) 4 (mSg ed)))) dX8_laySigns_47 rfl hs_121 rfl (Nat.le_of_ble_eq_true rfl) (Nat.le_of_ble_eq_true rfl) (ma_up_up _ _ _ _) ?_
  refine ev_aload_n (pc' := 49) (i := 0) dX8_laySigns_48 rfl rfl rfl ?_
  refine ev_iconst (pc' := 50) (v := 0) dX8_laySigns_49 rfl ki_0 ?_
  refine ev_putI (pc' := 53) (I' := (ma_up (ma_up I 121 (ma_up (ma_up (ma_up (ma_up (ma_up (I 121) 0 1) 1 (-(mSg ea))) 2 (mSg eb)) 3 (-(mSg ec))) 4 (mSg ed))) 115 (ma_up (I 115) 9 0))) fo_X8_160 dX8_laySigns_50 rfl hs_115 rfl (fun r hr => by cases hr; rfl) ⟨rfl, rfl⟩ rfl ?_
  refine ev_aload_n (pc' := 54) (i := 0) dX8_laySigns_53 rfl rfl rfl ?_
  refine ev_iconst (pc' := 55) (v := 0) dX8_laySigns_54 rfl ki_0 ?_
  refine ev_putI (pc' := 58) (I' := (ma_up (ma_up I 121 (ma_up (ma_up (ma_up (ma_up (ma_up (I 121) 0 1) 1 (-(mSg ea))) 2 (mSg eb)) 3 (-(mSg ec))) 4 (mSg ed))) 115 (ma_up (ma_up (I 115) 9 0) 10 0))) fo_X8_163 dX8_laySigns_55 rfl hs_115 rfl (fun r hr => by cases hr; rfl) ⟨rfl, rfl⟩ (ma_up_up _ _ _ _) ?_
  refine ev_iconst (pc' := 59) (v := 1) dX8_laySigns_58 rfl ki_1 ?_
  refine ev_istore (pc' := 61) (lv' := [some (.ref 115), some (.int 4), some (.long ea), none, some (.long eb), none, some (.long ec), none, some (.long ed), none, some (.ref 121), some (.int 1), none, none, none]) dX8_laySigns_59 rfl (Nat.le_of_ble_eq_true rfl) rfl rfl ?_
  refine ev_iconst (pc' := 62) (v := 1) dX8_laySigns_61 rfl ki_1 ?_
  refine ev_istore (pc' := 64) (lv' := [some (.ref 115), some (.int 4), some (.long ea), none, some (.long eb), none, some (.long ec), none, some (.long ed), none, some (.ref 121), some (.int 1), some (.int 1), none, none]) dX8_laySigns_62 rfl (Nat.le_of_ble_eq_true rfl) rfl rfl ?_
  refine ev_iconst (pc' := 65) (v := 1) dX8_laySigns_64 rfl ki_1 ?_
  refine ev_istore (pc' := 67) (lv' := [some (.ref 115), some (.int 4), some (.long ea), none, some (.long eb), none, some (.long ec), none, some (.long ed), none, some (.ref 121), some (.int 1), some (.int 1), some (.int 1), none]) dX8_laySigns_65 rfl (Nat.le_of_ble_eq_true rfl) rfl rfl ?_
  refine ev_iload (pc' := 69) dX8_laySigns_67 rfl rfl ?_
  refine ev_iload_n (pc' := 70) (i := 1) dX8_laySigns_69 rfl rfl rfl ?_
  refine ev_icmp_gt (tgt := 194) (pc' := 73) dX8_laySigns_70 rfl rfl (fun h => absurd h (by decide)) (fun _ => ?_)
  refine ev_iload (pc' := 75) dX8_laySigns_73 rfl rfl ?_
  refine ev_iconst (pc' := 76) (v := 2) dX8_laySigns_75 rfl ki_2 ?_
  refine ev_irem (pc' := 77) (v := 1) dX8_laySigns_76 rfl (by decide) (by decide) ?_
  refine ev_if_ne (tgt := 88) (pc' := 80) dX8_laySigns_77 rfl rfl (fun _ => ?_) (fun h => absurd h (by decide))
  refine ev_aload (pc' := 90) dX8_laySigns_88 rfl rfl ?_
  refine ev_iload (pc' := 92) dX8_laySigns_90 rfl rfl ?_
  refine ev_iald (pc' := 93) (j := 1) (v := -(mSg ea)) dX8_laySigns_92 rfl hs_121 rfl (Nat.le_of_ble_eq_true rfl) (Nat.le_of_ble_eq_true rfl) rfl ?_
  refine ev_ineg (pc' := 94) (v := -(-(mSg ea))) dX8_laySigns_93 rfl rfl ?_
  refine ev_istore (pc' := 96) (lv' := [some (.ref 115), some (.int 4), some (.long ea), none, some (.long eb), none, some (.long ec), none, some (.long ed), none, some (.ref 121), some (.int 1), some (.int 1), some (.int 1), some (.int (-(-(mSg ea))))]) dX8_laySigns_94 rfl (Nat.le_of_ble_eq_true rfl) rfl rfl ?_
  refine ev_aload_n (pc' := 97) (i := 0) dX8_laySigns_96 rfl rfl rfl ?_
  refine ev_dup (pc' := 98) dX8_laySigns_97 rfl rfl ?_
  refine ev_getI (pc' := 101) (v := 0) fo_X8_160 dX8_laySigns_98 rfl hs_115 rfl rfl ?_
  refine ev_aload (pc' := 103) dX8_laySigns_101 rfl rfl ?_
  refine ev_iload (pc' := 105) dX8_laySigns_103 rfl rfl ?_
  refine ev_iald (pc' := 106) (j := 1) (v := -(mSg ea)) dX8_laySigns_105 rfl hs_121 rfl (Nat.le_of_ble_eq_true rfl) (Nat.le_of_ble_eq_true rfl) rfl ?_
  suffices K3 : ∀ x2 : Int32, x2 = (if (¬ (-(mSg ea)) = 0) ∧ (¬ (-(mSg ea)) = 1) then (1 : Int32) else 0) → EV g yX8_laySigns cX8_laySigns 15 none rX8_laySigns (ma_ZM g rX8_laySigns Post) 124 [some (.ref 115), some (.int 4), some (.long ea), none, some (.long eb), none, some (.long ec), none, some (.long ed), none, some (.ref 121), some (.int 1), some (.int 1), some (.int 1), some (.int (-(-(mSg ea))))] [.int x2, .int 0, .ref 115] HS (ma_up (ma_up I 121 (ma_up (ma_up (ma_up (ma_up (ma_up (I 121) 0 1) 1 (-(mSg ea))) 2 (mSg eb)) 3 (-(mSg ec))) 4 (mSg ed))) 115 (ma_up (ma_up (I 115) 9 0) 10 0)) L RF 146 0 0 by
    refine ev_if_eq (tgt := 123) (pc' := 109) dX8_laySigns_106 rfl rfl (fun c4 => ?_) (fun c4 => ?_)
    · refine ev_iconst (pc' := 124) (v := 0) dX8_laySigns_123 rfl ki_0 ?_
      exact K3 _ (if_neg (fun h => (not_not_intro c4) h.1)).symm
    · refine ev_aload (pc' := 111) dX8_laySigns_109 rfl rfl ?_
      refine ev_iload (pc' := 113) dX8_laySigns_111 rfl rfl ?_
      refine ev_iald (pc' := 114) (j := 1) (v := -(mSg ea)) dX8_laySigns_113 rfl hs_121 rfl (Nat.le_of_ble_eq_true rfl) (Nat.le_of_ble_eq_true rfl) rfl ?_
      refine ev_iload (pc' := 116) dX8_laySigns_114 rfl rfl ?_
      refine ev_icmp_eq (tgt := 123) (pc' := 119) dX8_laySigns_116 rfl rfl (fun c5 => ?_) (fun c5 => ?_)
      · refine ev_iconst (pc' := 124) (v := 0) dX8_laySigns_123 rfl ki_0 ?_
        exact K3 _ (if_neg (fun h => (not_not_intro c5) h.2)).symm
      · refine ev_iconst (pc' := 120) (v := 1) dX8_laySigns_119 rfl ki_1 ?_
        refine ev_goto (tgt := 124) dX8_laySigns_120 rfl ?_
        exact K3 _ (if_pos (⟨c4, c5⟩)).symm
  intro x2 hx2
  subst hx2
  refine ev_iadd (pc' := 125) (v := 0 + (if (¬ (-(mSg ea)) = 0) ∧ (¬ (-(mSg ea)) = 1) then (1 : Int32) else 0)) dX8_laySigns_124 rfl rfl ?_
  refine ev_putI (pc' := 128) (I' := (ma_up (ma_up I 121 (ma_up (ma_up (ma_up (ma_up (ma_up (I 121) 0 1) 1 (-(mSg ea))) 2 (mSg eb)) 3 (-(mSg ec))) 4 (mSg ed))) 115 (ma_up (ma_up (I 115) 9 (0 + (if (¬ (-(mSg ea)) = 0) ∧ (¬ (-(mSg ea)) = 1) then (1 : Int32) else 0))) 10 0))) fo_X8_160 dX8_laySigns_125 rfl hs_115 rfl (fun r hr => by cases hr; rfl) ⟨rfl, rfl⟩ ((congrArg (ma_up _ 115) ((ma_up_comm _ (show 9 ≠ 10 from (by decide)) _ _).trans (congrArg (fun f => ma_up f 10 _) (ma_up_up _ _ _ _)))).trans (ma_up_up _ _ _ _)) ?_
  refine ev_aload (pc' := 130) dX8_laySigns_128 rfl rfl ?_
  refine ev_iload (pc' := 132) dX8_laySigns_130 rfl rfl ?_
  refine ev_iald (pc' := 133) (j := 1) (v := -(mSg ea)) dX8_laySigns_132 rfl hs_121 rfl (Nat.le_of_ble_eq_true rfl) (Nat.le_of_ble_eq_true rfl) rfl ?_
  suffices K8 : ∀ x7 : Int32, x7 = (if (-(mSg ea)) = 0 then 1 else (-(mSg ea))) → EV g yX8_laySigns cX8_laySigns 15 none rX8_laySigns (ma_ZM g rX8_laySigns Post) 146 [some (.ref 115), some (.int 4), some (.long ea), none, some (.long eb), none, some (.long ec), none, some (.long ed), none, some (.ref 121), some (.int 1), some (.int 1), some (.int 1), some (.int (-(-(mSg ea))))] [.int x7] HS (ma_up (ma_up I 121 (ma_up (ma_up (ma_up (ma_up (ma_up (I 121) 0 1) 1 (-(mSg ea))) 2 (mSg eb)) 3 (-(mSg ec))) 4 (mSg ed))) 115 (ma_up (ma_up (I 115) 9 (0 + (if (¬ (-(mSg ea)) = 0) ∧ (¬ (-(mSg ea)) = 1) then (1 : Int32) else 0))) 10 0)) L RF 146 0 0 by
    refine ev_if_eq (tgt := 144) (pc' := 136) dX8_laySigns_133 rfl rfl (fun c9 => ?_) (fun c9 => ?_)
    · refine ev_iload (pc' := 146) dX8_laySigns_144 rfl rfl ?_
      exact K8 _ (by rw [if_pos c9])
    · refine ev_aload (pc' := 138) dX8_laySigns_136 rfl rfl ?_
      refine ev_iload (pc' := 140) dX8_laySigns_138 rfl rfl ?_
      refine ev_iald (pc' := 141) (j := 1) (v := -(mSg ea)) dX8_laySigns_140 rfl hs_121 rfl (Nat.le_of_ble_eq_true rfl) (Nat.le_of_ble_eq_true rfl) rfl ?_
      refine ev_goto (tgt := 146) dX8_laySigns_141 rfl ?_
      exact K8 _ (by rw [if_neg c9])
  intro x7 hx7
  subst hx7
  refine ev_istore (pc' := 148) (lv' := [some (.ref 115), some (.int 4), some (.long ea), none, some (.long eb), none, some (.long ec), none, some (.long ed), none, some (.ref 121), some (.int (if (-(mSg ea)) = 0 then 1 else (-(mSg ea)))), some (.int 1), some (.int 1), some (.int (-(-(mSg ea))))]) dX8_laySigns_146 rfl (Nat.le_of_ble_eq_true rfl) rfl rfl ?_
  refine ev_aload_n (pc' := 149) (i := 0) dX8_laySigns_148 rfl rfl rfl ?_
  refine ev_dup (pc' := 150) dX8_laySigns_149 rfl rfl ?_
  refine ev_getI (pc' := 153) (v := 0) fo_X8_163 dX8_laySigns_150 rfl hs_115 rfl rfl ?_
  refine ev_iload (pc' := 155) dX8_laySigns_153 rfl rfl ?_
  suffices K12 : ∀ x11 : Int32, x11 = (if (¬ (-(-(mSg ea))) = 0) ∧ (¬ (-(-(mSg ea))) = 1) then (1 : Int32) else 0) → EV g yX8_laySigns cX8_laySigns 15 none rX8_laySigns (ma_ZM g rX8_laySigns Post) 170 [some (.ref 115), some (.int 4), some (.long ea), none, some (.long eb), none, some (.long ec), none, some (.long ed), none, some (.ref 121), some (.int (if (-(mSg ea)) = 0 then 1 else (-(mSg ea)))), some (.int 1), some (.int 1), some (.int (-(-(mSg ea))))] [.int x11, .int 0, .ref 115] HS (ma_up (ma_up I 121 (ma_up (ma_up (ma_up (ma_up (ma_up (I 121) 0 1) 1 (-(mSg ea))) 2 (mSg eb)) 3 (-(mSg ec))) 4 (mSg ed))) 115 (ma_up (ma_up (I 115) 9 (0 + (if (¬ (-(mSg ea)) = 0) ∧ (¬ (-(mSg ea)) = 1) then (1 : Int32) else 0))) 10 0)) L RF 146 0 0 by
    refine ev_if_eq (tgt := 169) (pc' := 158) dX8_laySigns_155 rfl rfl (fun c13 => ?_) (fun c13 => ?_)
    · refine ev_iconst (pc' := 170) (v := 0) dX8_laySigns_169 rfl ki_0 ?_
      exact K12 _ (if_neg (fun h => (not_not_intro c13) h.1)).symm
    · refine ev_iload (pc' := 160) dX8_laySigns_158 rfl rfl ?_
      refine ev_iload (pc' := 162) dX8_laySigns_160 rfl rfl ?_
      refine ev_icmp_eq (tgt := 169) (pc' := 165) dX8_laySigns_162 rfl rfl (fun c14 => ?_) (fun c14 => ?_)
      · refine ev_iconst (pc' := 170) (v := 0) dX8_laySigns_169 rfl ki_0 ?_
        exact K12 _ (if_neg (fun h => (not_not_intro c14) h.2)).symm
      · refine ev_iconst (pc' := 166) (v := 1) dX8_laySigns_165 rfl ki_1 ?_
        refine ev_goto (tgt := 170) dX8_laySigns_166 rfl ?_
        exact K12 _ (if_pos (⟨c13, c14⟩)).symm
  intro x11 hx11
  subst hx11
  refine ev_iadd (pc' := 171) (v := 0 + (if (¬ (-(-(mSg ea))) = 0) ∧ (¬ (-(-(mSg ea))) = 1) then (1 : Int32) else 0)) dX8_laySigns_170 rfl rfl ?_
  refine ev_putI (pc' := 174) (I' := (ma_up (ma_up I 121 (ma_up (ma_up (ma_up (ma_up (ma_up (I 121) 0 1) 1 (-(mSg ea))) 2 (mSg eb)) 3 (-(mSg ec))) 4 (mSg ed))) 115 (ma_up (ma_up (I 115) 9 (0 + (if (¬ (-(mSg ea)) = 0) ∧ (¬ (-(mSg ea)) = 1) then (1 : Int32) else 0))) 10 (0 + (if (¬ (-(-(mSg ea))) = 0) ∧ (¬ (-(-(mSg ea))) = 1) then (1 : Int32) else 0))))) fo_X8_163 dX8_laySigns_171 rfl hs_115 rfl (fun r hr => by cases hr; rfl) ⟨rfl, rfl⟩ ((congrArg (ma_up _ 115) (ma_up_up _ _ _ _)).trans (ma_up_up _ _ _ _)) ?_
  refine ev_iload (pc' := 176) dX8_laySigns_174 rfl rfl ?_
  suffices K17 : ∀ x16 : Int32, x16 = (if (-(-(mSg ea))) = 0 then 1 else (-(-(mSg ea)))) → EV g yX8_laySigns cX8_laySigns 15 none rX8_laySigns (ma_ZM g rX8_laySigns Post) 186 [some (.ref 115), some (.int 4), some (.long ea), none, some (.long eb), none, some (.long ec), none, some (.long ed), none, some (.ref 121), some (.int (if (-(mSg ea)) = 0 then 1 else (-(mSg ea)))), some (.int 1), some (.int 1), some (.int (-(-(mSg ea))))] [.int x16] HS (ma_up (ma_up I 121 (ma_up (ma_up (ma_up (ma_up (ma_up (I 121) 0 1) 1 (-(mSg ea))) 2 (mSg eb)) 3 (-(mSg ec))) 4 (mSg ed))) 115 (ma_up (ma_up (I 115) 9 (0 + (if (¬ (-(mSg ea)) = 0) ∧ (¬ (-(mSg ea)) = 1) then (1 : Int32) else 0))) 10 (0 + (if (¬ (-(-(mSg ea))) = 0) ∧ (¬ (-(-(mSg ea))) = 1) then (1 : Int32) else 0)))) L RF 146 0 0 by
    refine ev_if_eq (tgt := 184) (pc' := 179) dX8_laySigns_176 rfl rfl (fun c18 => ?_) (fun c18 => ?_)
    · refine ev_iload (pc' := 186) dX8_laySigns_184 rfl rfl ?_
      exact K17 _ (by rw [if_pos c18])
    · refine ev_iload (pc' := 181) dX8_laySigns_179 rfl rfl ?_
      refine ev_goto (tgt := 186) dX8_laySigns_181 rfl ?_
      exact K17 _ (by rw [if_neg c18])
  intro x16 hx16
  subst hx16
  refine ev_istore (pc' := 188) (lv' := [some (.ref 115), some (.int 4), some (.long ea), none, some (.long eb), none, some (.long ec), none, some (.long ed), none, some (.ref 121), some (.int (if (-(mSg ea)) = 0 then 1 else (-(mSg ea)))), some (.int (if (-(-(mSg ea))) = 0 then 1 else (-(-(mSg ea))))), some (.int 1), some (.int (-(-(mSg ea))))]) dX8_laySigns_186 rfl (Nat.le_of_ble_eq_true rfl) rfl rfl ?_
  refine ev_iinc (pc' := 191) (v := 2) (lv' := [some (.ref 115), some (.int 4), some (.long ea), none, some (.long eb), none, some (.long ec), none, some (.long ed), none, some (.ref 121), some (.int (if (-(mSg ea)) = 0 then 1 else (-(mSg ea)))), some (.int (if (-(-(mSg ea))) = 0 then 1 else (-(-(mSg ea))))), some (.int 2), some (.int (-(-(mSg ea))))]) dX8_laySigns_188 rfl rfl (by decide) (Nat.le_of_ble_eq_true rfl) rfl rfl ?_
  refine ev_goto (tgt := 67) dX8_laySigns_191 rfl ?_
  refine ev_iload (pc' := 69) dX8_laySigns_67 rfl rfl ?_
  refine ev_iload_n (pc' := 70) (i := 1) dX8_laySigns_69 rfl rfl rfl ?_
  refine ev_icmp_gt (tgt := 194) (pc' := 73) dX8_laySigns_70 rfl rfl (fun h => absurd h (by decide)) (fun _ => ?_)
  refine ev_iload (pc' := 75) dX8_laySigns_73 rfl rfl ?_
  refine ev_iconst (pc' := 76) (v := 2) dX8_laySigns_75 rfl ki_2 ?_
  refine ev_irem (pc' := 77) (v := 0) dX8_laySigns_76 rfl (by decide) (by decide) ?_
  refine ev_if_ne (tgt := 88) (pc' := 80) dX8_laySigns_77 rfl rfl (fun h => absurd (by decide) h) (fun _ => ?_)
  refine ev_aload (pc' := 82) dX8_laySigns_80 rfl rfl ?_
  refine ev_iload (pc' := 84) dX8_laySigns_82 rfl rfl ?_
  refine ev_iald (pc' := 85) (j := 2) (v := mSg eb) dX8_laySigns_84 rfl hs_121 rfl (Nat.le_of_ble_eq_true rfl) (Nat.le_of_ble_eq_true rfl) rfl ?_
  refine ev_goto (tgt := 94) dX8_laySigns_85 rfl ?_
  refine ev_istore (pc' := 96) (lv' := [some (.ref 115), some (.int 4), some (.long ea), none, some (.long eb), none, some (.long ec), none, some (.long ed), none, some (.ref 121), some (.int (if (-(mSg ea)) = 0 then 1 else (-(mSg ea)))), some (.int (if (-(-(mSg ea))) = 0 then 1 else (-(-(mSg ea))))), some (.int 2), some (.int (mSg eb))]) dX8_laySigns_94 rfl (Nat.le_of_ble_eq_true rfl) rfl rfl ?_
  refine ev_aload_n (pc' := 97) (i := 0) dX8_laySigns_96 rfl rfl rfl ?_
  refine ev_dup (pc' := 98) dX8_laySigns_97 rfl rfl ?_
  refine ev_getI (pc' := 101) (v := 0 + (if (¬ (-(mSg ea)) = 0) ∧ (¬ (-(mSg ea)) = 1) then (1 : Int32) else 0)) fo_X8_160 dX8_laySigns_98 rfl hs_115 rfl rfl ?_
  refine ev_aload (pc' := 103) dX8_laySigns_101 rfl rfl ?_
  refine ev_iload (pc' := 105) dX8_laySigns_103 rfl rfl ?_
  refine ev_iald (pc' := 106) (j := 2) (v := mSg eb) dX8_laySigns_105 rfl hs_121 rfl (Nat.le_of_ble_eq_true rfl) (Nat.le_of_ble_eq_true rfl) rfl ?_
  suffices K21 : ∀ x20 : Int32, x20 = (if (¬ (mSg eb) = 0) ∧ (¬ (mSg eb) = (if (-(mSg ea)) = 0 then 1 else (-(mSg ea)))) then (1 : Int32) else 0) → EV g yX8_laySigns cX8_laySigns 15 none rX8_laySigns (ma_ZM g rX8_laySigns Post) 124 [some (.ref 115), some (.int 4), some (.long ea), none, some (.long eb), none, some (.long ec), none, some (.long ed), none, some (.ref 121), some (.int (if (-(mSg ea)) = 0 then 1 else (-(mSg ea)))), some (.int (if (-(-(mSg ea))) = 0 then 1 else (-(-(mSg ea))))), some (.int 2), some (.int (mSg eb))] [.int x20, .int (0 + (if (¬ (-(mSg ea)) = 0) ∧ (¬ (-(mSg ea)) = 1) then (1 : Int32) else 0)), .ref 115] HS (ma_up (ma_up I 121 (ma_up (ma_up (ma_up (ma_up (ma_up (I 121) 0 1) 1 (-(mSg ea))) 2 (mSg eb)) 3 (-(mSg ec))) 4 (mSg ed))) 115 (ma_up (ma_up (I 115) 9 (0 + (if (¬ (-(mSg ea)) = 0) ∧ (¬ (-(mSg ea)) = 1) then (1 : Int32) else 0))) 10 (0 + (if (¬ (-(-(mSg ea))) = 0) ∧ (¬ (-(-(mSg ea))) = 1) then (1 : Int32) else 0)))) L RF 146 0 0 by
    refine ev_if_eq (tgt := 123) (pc' := 109) dX8_laySigns_106 rfl rfl (fun c22 => ?_) (fun c22 => ?_)
    · refine ev_iconst (pc' := 124) (v := 0) dX8_laySigns_123 rfl ki_0 ?_
      exact K21 _ (if_neg (fun h => (not_not_intro c22) h.1)).symm
    · refine ev_aload (pc' := 111) dX8_laySigns_109 rfl rfl ?_
      refine ev_iload (pc' := 113) dX8_laySigns_111 rfl rfl ?_
      refine ev_iald (pc' := 114) (j := 2) (v := mSg eb) dX8_laySigns_113 rfl hs_121 rfl (Nat.le_of_ble_eq_true rfl) (Nat.le_of_ble_eq_true rfl) rfl ?_
      refine ev_iload (pc' := 116) dX8_laySigns_114 rfl rfl ?_
      refine ev_icmp_eq (tgt := 123) (pc' := 119) dX8_laySigns_116 rfl rfl (fun c23 => ?_) (fun c23 => ?_)
      · refine ev_iconst (pc' := 124) (v := 0) dX8_laySigns_123 rfl ki_0 ?_
        exact K21 _ (if_neg (fun h => (not_not_intro c23) h.2)).symm
      · refine ev_iconst (pc' := 120) (v := 1) dX8_laySigns_119 rfl ki_1 ?_
        refine ev_goto (tgt := 124) dX8_laySigns_120 rfl ?_
        exact K21 _ (if_pos (⟨c22, c23⟩)).symm
  intro x20 hx20
  subst hx20
  refine ev_iadd (pc' := 125) (v := (0 + (if (¬ (-(mSg ea)) = 0) ∧ (¬ (-(mSg ea)) = 1) then (1 : Int32) else 0)) + (if (¬ (mSg eb) = 0) ∧ (¬ (mSg eb) = (if (-(mSg ea)) = 0 then 1 else (-(mSg ea)))) then (1 : Int32) else 0)) dX8_laySigns_124 rfl rfl ?_
  refine ev_putI (pc' := 128) (I' := (ma_up (ma_up I 121 (ma_up (ma_up (ma_up (ma_up (ma_up (I 121) 0 1) 1 (-(mSg ea))) 2 (mSg eb)) 3 (-(mSg ec))) 4 (mSg ed))) 115 (ma_up (ma_up (I 115) 9 ((0 + (if (¬ (-(mSg ea)) = 0) ∧ (¬ (-(mSg ea)) = 1) then (1 : Int32) else 0)) + (if (¬ (mSg eb) = 0) ∧ (¬ (mSg eb) = (if (-(mSg ea)) = 0 then 1 else (-(mSg ea)))) then (1 : Int32) else 0))) 10 (0 + (if (¬ (-(-(mSg ea))) = 0) ∧ (¬ (-(-(mSg ea))) = 1) then (1 : Int32) else 0))))) fo_X8_160 dX8_laySigns_125 rfl hs_115 rfl (fun r hr => by cases hr; rfl) ⟨rfl, rfl⟩ ((congrArg (ma_up _ 115) ((ma_up_comm _ (show 9 ≠ 10 from (by decide)) _ _).trans (congrArg (fun f => ma_up f 10 _) (ma_up_up _ _ _ _)))).trans (ma_up_up _ _ _ _)) ?_
  refine ev_aload (pc' := 130) dX8_laySigns_128 rfl rfl ?_
  refine ev_iload (pc' := 132) dX8_laySigns_130 rfl rfl ?_
  refine ev_iald (pc' := 133) (j := 2) (v := mSg eb) dX8_laySigns_132 rfl hs_121 rfl (Nat.le_of_ble_eq_true rfl) (Nat.le_of_ble_eq_true rfl) rfl ?_
  suffices K26 : ∀ x25 : Int32, x25 = (if (mSg eb) = 0 then (if (-(mSg ea)) = 0 then 1 else (-(mSg ea))) else (mSg eb)) → EV g yX8_laySigns cX8_laySigns 15 none rX8_laySigns (ma_ZM g rX8_laySigns Post) 146 [some (.ref 115), some (.int 4), some (.long ea), none, some (.long eb), none, some (.long ec), none, some (.long ed), none, some (.ref 121), some (.int (if (-(mSg ea)) = 0 then 1 else (-(mSg ea)))), some (.int (if (-(-(mSg ea))) = 0 then 1 else (-(-(mSg ea))))), some (.int 2), some (.int (mSg eb))] [.int x25] HS (ma_up (ma_up I 121 (ma_up (ma_up (ma_up (ma_up (ma_up (I 121) 0 1) 1 (-(mSg ea))) 2 (mSg eb)) 3 (-(mSg ec))) 4 (mSg ed))) 115 (ma_up (ma_up (I 115) 9 ((0 + (if (¬ (-(mSg ea)) = 0) ∧ (¬ (-(mSg ea)) = 1) then (1 : Int32) else 0)) + (if (¬ (mSg eb) = 0) ∧ (¬ (mSg eb) = (if (-(mSg ea)) = 0 then 1 else (-(mSg ea)))) then (1 : Int32) else 0))) 10 (0 + (if (¬ (-(-(mSg ea))) = 0) ∧ (¬ (-(-(mSg ea))) = 1) then (1 : Int32) else 0)))) L RF 146 0 0 by
    refine ev_if_eq (tgt := 144) (pc' := 136) dX8_laySigns_133 rfl rfl (fun c27 => ?_) (fun c27 => ?_)
    · refine ev_iload (pc' := 146) dX8_laySigns_144 rfl rfl ?_
      exact K26 _ (by rw [if_pos c27])
    · refine ev_aload (pc' := 138) dX8_laySigns_136 rfl rfl ?_
      refine ev_iload (pc' := 140) dX8_laySigns_138 rfl rfl ?_
      refine ev_iald (pc' := 141) (j := 2) (v := mSg eb) dX8_laySigns_140 rfl hs_121 rfl (Nat.le_of_ble_eq_true rfl) (Nat.le_of_ble_eq_true rfl) rfl ?_
      refine ev_goto (tgt := 146) dX8_laySigns_141 rfl ?_
      exact K26 _ (by rw [if_neg c27])
  intro x25 hx25
  subst hx25
  refine ev_istore (pc' := 148) (lv' := [some (.ref 115), some (.int 4), some (.long ea), none, some (.long eb), none, some (.long ec), none, some (.long ed), none, some (.ref 121), some (.int (if (mSg eb) = 0 then (if (-(mSg ea)) = 0 then 1 else (-(mSg ea))) else (mSg eb))), some (.int (if (-(-(mSg ea))) = 0 then 1 else (-(-(mSg ea))))), some (.int 2), some (.int (mSg eb))]) dX8_laySigns_146 rfl (Nat.le_of_ble_eq_true rfl) rfl rfl ?_
  refine ev_aload_n (pc' := 149) (i := 0) dX8_laySigns_148 rfl rfl rfl ?_
  refine ev_dup (pc' := 150) dX8_laySigns_149 rfl rfl ?_
  refine ev_getI (pc' := 153) (v := 0 + (if (¬ (-(-(mSg ea))) = 0) ∧ (¬ (-(-(mSg ea))) = 1) then (1 : Int32) else 0)) fo_X8_163 dX8_laySigns_150 rfl hs_115 rfl rfl ?_
  refine ev_iload (pc' := 155) dX8_laySigns_153 rfl rfl ?_
  suffices K30 : ∀ x29 : Int32, x29 = (if (¬ (mSg eb) = 0) ∧ (¬ (mSg eb) = (if (-(-(mSg ea))) = 0 then 1 else (-(-(mSg ea))))) then (1 : Int32) else 0) → EV g yX8_laySigns cX8_laySigns 15 none rX8_laySigns (ma_ZM g rX8_laySigns Post) 170 [some (.ref 115), some (.int 4), some (.long ea), none, some (.long eb), none, some (.long ec), none, some (.long ed), none, some (.ref 121), some (.int (if (mSg eb) = 0 then (if (-(mSg ea)) = 0 then 1 else (-(mSg ea))) else (mSg eb))), some (.int (if (-(-(mSg ea))) = 0 then 1 else (-(-(mSg ea))))), some (.int 2), some (.int (mSg eb))] [.int x29, .int (0 + (if (¬ (-(-(mSg ea))) = 0) ∧ (¬ (-(-(mSg ea))) = 1) then (1 : Int32) else 0)), .ref 115] HS (ma_up (ma_up I 121 (ma_up (ma_up (ma_up (ma_up (ma_up (I 121) 0 1) 1 (-(mSg ea))) 2 (mSg eb)) 3 (-(mSg ec))) 4 (mSg ed))) 115 (ma_up (ma_up (I 115) 9 ((0 + (if (¬ (-(mSg ea)) = 0) ∧ (¬ (-(mSg ea)) = 1) then (1 : Int32) else 0)) + (if (¬ (mSg eb) = 0) ∧ (¬ (mSg eb) = (if (-(mSg ea)) = 0 then 1 else (-(mSg ea)))) then (1 : Int32) else 0))) 10 (0 + (if (¬ (-(-(mSg ea))) = 0) ∧ (¬ (-(-(mSg ea))) = 1) then (1 : Int32) else 0)))) L RF 146 0 0 by
    refine ev_if_eq (tgt := 169) (pc' := 158) dX8_laySigns_155 rfl rfl (fun c31 => ?_) (fun c31 => ?_)
    · refine ev_iconst (pc' := 170) (v := 0) dX8_laySigns_169 rfl ki_0 ?_
      exact K30 _ (if_neg (fun h => (not_not_intro c31) h.1)).symm
    · refine ev_iload (pc' := 160) dX8_laySigns_158 rfl rfl ?_
      refine ev_iload (pc' := 162) dX8_laySigns_160 rfl rfl ?_
      refine ev_icmp_eq (tgt := 169) (pc' := 165) dX8_laySigns_162 rfl rfl (fun c32 => ?_) (fun c32 => ?_)
      · refine ev_iconst (pc' := 170) (v := 0) dX8_laySigns_169 rfl ki_0 ?_
        exact K30 _ (if_neg (fun h => (not_not_intro c32) h.2)).symm
      · refine ev_iconst (pc' := 166) (v := 1) dX8_laySigns_165 rfl ki_1 ?_
        refine ev_goto (tgt := 170) dX8_laySigns_166 rfl ?_
        exact K30 _ (if_pos (⟨c31, c32⟩)).symm
  intro x29 hx29
  subst hx29
  refine ev_iadd (pc' := 171) (v := (0 + (if (¬ (-(-(mSg ea))) = 0) ∧ (¬ (-(-(mSg ea))) = 1) then (1 : Int32) else 0)) + (if (¬ (mSg eb) = 0) ∧ (¬ (mSg eb) = (if (-(-(mSg ea))) = 0 then 1 else (-(-(mSg ea))))) then (1 : Int32) else 0)) dX8_laySigns_170 rfl rfl ?_
  refine ev_putI (pc' := 174) (I' := (ma_up (ma_up I 121 (ma_up (ma_up (ma_up (ma_up (ma_up (I 121) 0 1) 1 (-(mSg ea))) 2 (mSg eb)) 3 (-(mSg ec))) 4 (mSg ed))) 115 (ma_up (ma_up (I 115) 9 ((0 + (if (¬ (-(mSg ea)) = 0) ∧ (¬ (-(mSg ea)) = 1) then (1 : Int32) else 0)) + (if (¬ (mSg eb) = 0) ∧ (¬ (mSg eb) = (if (-(mSg ea)) = 0 then 1 else (-(mSg ea)))) then (1 : Int32) else 0))) 10 ((0 + (if (¬ (-(-(mSg ea))) = 0) ∧ (¬ (-(-(mSg ea))) = 1) then (1 : Int32) else 0)) + (if (¬ (mSg eb) = 0) ∧ (¬ (mSg eb) = (if (-(-(mSg ea))) = 0 then 1 else (-(-(mSg ea))))) then (1 : Int32) else 0))))) fo_X8_163 dX8_laySigns_171 rfl hs_115 rfl (fun r hr => by cases hr; rfl) ⟨rfl, rfl⟩ ((congrArg (ma_up _ 115) (ma_up_up _ _ _ _)).trans (ma_up_up _ _ _ _)) ?_
  refine ev_iload (pc' := 176) dX8_laySigns_174 rfl rfl ?_
  suffices K35 : ∀ x34 : Int32, x34 = (if (mSg eb) = 0 then (if (-(-(mSg ea))) = 0 then 1 else (-(-(mSg ea)))) else (mSg eb)) → EV g yX8_laySigns cX8_laySigns 15 none rX8_laySigns (ma_ZM g rX8_laySigns Post) 186 [some (.ref 115), some (.int 4), some (.long ea), none, some (.long eb), none, some (.long ec), none, some (.long ed), none, some (.ref 121), some (.int (if (mSg eb) = 0 then (if (-(mSg ea)) = 0 then 1 else (-(mSg ea))) else (mSg eb))), some (.int (if (-(-(mSg ea))) = 0 then 1 else (-(-(mSg ea))))), some (.int 2), some (.int (mSg eb))] [.int x34] HS (ma_up (ma_up I 121 (ma_up (ma_up (ma_up (ma_up (ma_up (I 121) 0 1) 1 (-(mSg ea))) 2 (mSg eb)) 3 (-(mSg ec))) 4 (mSg ed))) 115 (ma_up (ma_up (I 115) 9 ((0 + (if (¬ (-(mSg ea)) = 0) ∧ (¬ (-(mSg ea)) = 1) then (1 : Int32) else 0)) + (if (¬ (mSg eb) = 0) ∧ (¬ (mSg eb) = (if (-(mSg ea)) = 0 then 1 else (-(mSg ea)))) then (1 : Int32) else 0))) 10 ((0 + (if (¬ (-(-(mSg ea))) = 0) ∧ (¬ (-(-(mSg ea))) = 1) then (1 : Int32) else 0)) + (if (¬ (mSg eb) = 0) ∧ (¬ (mSg eb) = (if (-(-(mSg ea))) = 0 then 1 else (-(-(mSg ea))))) then (1 : Int32) else 0)))) L RF 146 0 0 by
    refine ev_if_eq (tgt := 184) (pc' := 179) dX8_laySigns_176 rfl rfl (fun c36 => ?_) (fun c36 => ?_)
    · refine ev_iload (pc' := 186) dX8_laySigns_184 rfl rfl ?_
      exact K35 _ (by rw [if_pos c36])
    · refine ev_iload (pc' := 181) dX8_laySigns_179 rfl rfl ?_
      refine ev_goto (tgt := 186) dX8_laySigns_181 rfl ?_
      exact K35 _ (by rw [if_neg c36])
  intro x34 hx34
  subst hx34
  refine ev_istore (pc' := 188) (lv' := [some (.ref 115), some (.int 4), some (.long ea), none, some (.long eb), none, some (.long ec), none, some (.long ed), none, some (.ref 121), some (.int (if (mSg eb) = 0 then (if (-(mSg ea)) = 0 then 1 else (-(mSg ea))) else (mSg eb))), some (.int (if (mSg eb) = 0 then (if (-(-(mSg ea))) = 0 then 1 else (-(-(mSg ea)))) else (mSg eb))), some (.int 2), some (.int (mSg eb))]) dX8_laySigns_186 rfl (Nat.le_of_ble_eq_true rfl) rfl rfl ?_
  refine ev_iinc (pc' := 191) (v := 3) (lv' := [some (.ref 115), some (.int 4), some (.long ea), none, some (.long eb), none, some (.long ec), none, some (.long ed), none, some (.ref 121), some (.int (if (mSg eb) = 0 then (if (-(mSg ea)) = 0 then 1 else (-(mSg ea))) else (mSg eb))), some (.int (if (mSg eb) = 0 then (if (-(-(mSg ea))) = 0 then 1 else (-(-(mSg ea)))) else (mSg eb))), some (.int 3), some (.int (mSg eb))]) dX8_laySigns_188 rfl rfl (by decide) (Nat.le_of_ble_eq_true rfl) rfl rfl ?_
  refine ev_goto (tgt := 67) dX8_laySigns_191 rfl ?_
  refine ev_iload (pc' := 69) dX8_laySigns_67 rfl rfl ?_
  refine ev_iload_n (pc' := 70) (i := 1) dX8_laySigns_69 rfl rfl rfl ?_
  refine ev_icmp_gt (tgt := 194) (pc' := 73) dX8_laySigns_70 rfl rfl (fun h => absurd h (by decide)) (fun _ => ?_)
  refine ev_iload (pc' := 75) dX8_laySigns_73 rfl rfl ?_
  refine ev_iconst (pc' := 76) (v := 2) dX8_laySigns_75 rfl ki_2 ?_
  refine ev_irem (pc' := 77) (v := 1) dX8_laySigns_76 rfl (by decide) (by decide) ?_
  refine ev_if_ne (tgt := 88) (pc' := 80) dX8_laySigns_77 rfl rfl (fun _ => ?_) (fun h => absurd h (by decide))
  refine ev_aload (pc' := 90) dX8_laySigns_88 rfl rfl ?_
  refine ev_iload (pc' := 92) dX8_laySigns_90 rfl rfl ?_
  refine ev_iald (pc' := 93) (j := 3) (v := -(mSg ec)) dX8_laySigns_92 rfl hs_121 rfl (Nat.le_of_ble_eq_true rfl) (Nat.le_of_ble_eq_true rfl) rfl ?_
  refine ev_ineg (pc' := 94) (v := -(-(mSg ec))) dX8_laySigns_93 rfl rfl ?_
  refine ev_istore (pc' := 96) (lv' := [some (.ref 115), some (.int 4), some (.long ea), none, some (.long eb), none, some (.long ec), none, some (.long ed), none, some (.ref 121), some (.int (if (mSg eb) = 0 then (if (-(mSg ea)) = 0 then 1 else (-(mSg ea))) else (mSg eb))), some (.int (if (mSg eb) = 0 then (if (-(-(mSg ea))) = 0 then 1 else (-(-(mSg ea)))) else (mSg eb))), some (.int 3), some (.int (-(-(mSg ec))))]) dX8_laySigns_94 rfl (Nat.le_of_ble_eq_true rfl) rfl rfl ?_
  refine ev_aload_n (pc' := 97) (i := 0) dX8_laySigns_96 rfl rfl rfl ?_
  refine ev_dup (pc' := 98) dX8_laySigns_97 rfl rfl ?_
  refine ev_getI (pc' := 101) (v := (0 + (if (¬ (-(mSg ea)) = 0) ∧ (¬ (-(mSg ea)) = 1) then (1 : Int32) else 0)) + (if (¬ (mSg eb) = 0) ∧ (¬ (mSg eb) = (if (-(mSg ea)) = 0 then 1 else (-(mSg ea)))) then (1 : Int32) else 0)) fo_X8_160 dX8_laySigns_98 rfl hs_115 rfl rfl ?_
  refine ev_aload (pc' := 103) dX8_laySigns_101 rfl rfl ?_
  refine ev_iload (pc' := 105) dX8_laySigns_103 rfl rfl ?_
  refine ev_iald (pc' := 106) (j := 3) (v := -(mSg ec)) dX8_laySigns_105 rfl hs_121 rfl (Nat.le_of_ble_eq_true rfl) (Nat.le_of_ble_eq_true rfl) rfl ?_
  suffices K39 : ∀ x38 : Int32, x38 = (if (¬ (-(mSg ec)) = 0) ∧ (¬ (-(mSg ec)) = (if (mSg eb) = 0 then (if (-(mSg ea)) = 0 then 1 else (-(mSg ea))) else (mSg eb))) then (1 : Int32) else 0) → EV g yX8_laySigns cX8_laySigns 15 none rX8_laySigns (ma_ZM g rX8_laySigns Post) 124 [some (.ref 115), some (.int 4), some (.long ea), none, some (.long eb), none, some (.long ec), none, some (.long ed), none, some (.ref 121), some (.int (if (mSg eb) = 0 then (if (-(mSg ea)) = 0 then 1 else (-(mSg ea))) else (mSg eb))), some (.int (if (mSg eb) = 0 then (if (-(-(mSg ea))) = 0 then 1 else (-(-(mSg ea)))) else (mSg eb))), some (.int 3), some (.int (-(-(mSg ec))))] [.int x38, .int ((0 + (if (¬ (-(mSg ea)) = 0) ∧ (¬ (-(mSg ea)) = 1) then (1 : Int32) else 0)) + (if (¬ (mSg eb) = 0) ∧ (¬ (mSg eb) = (if (-(mSg ea)) = 0 then 1 else (-(mSg ea)))) then (1 : Int32) else 0)), .ref 115] HS (ma_up (ma_up I 121 (ma_up (ma_up (ma_up (ma_up (ma_up (I 121) 0 1) 1 (-(mSg ea))) 2 (mSg eb)) 3 (-(mSg ec))) 4 (mSg ed))) 115 (ma_up (ma_up (I 115) 9 ((0 + (if (¬ (-(mSg ea)) = 0) ∧ (¬ (-(mSg ea)) = 1) then (1 : Int32) else 0)) + (if (¬ (mSg eb) = 0) ∧ (¬ (mSg eb) = (if (-(mSg ea)) = 0 then 1 else (-(mSg ea)))) then (1 : Int32) else 0))) 10 ((0 + (if (¬ (-(-(mSg ea))) = 0) ∧ (¬ (-(-(mSg ea))) = 1) then (1 : Int32) else 0)) + (if (¬ (mSg eb) = 0) ∧ (¬ (mSg eb) = (if (-(-(mSg ea))) = 0 then 1 else (-(-(mSg ea))))) then (1 : Int32) else 0)))) L RF 146 0 0 by
    refine ev_if_eq (tgt := 123) (pc' := 109) dX8_laySigns_106 rfl rfl (fun c40 => ?_) (fun c40 => ?_)
    · refine ev_iconst (pc' := 124) (v := 0) dX8_laySigns_123 rfl ki_0 ?_
      exact K39 _ (if_neg (fun h => (not_not_intro c40) h.1)).symm
    · refine ev_aload (pc' := 111) dX8_laySigns_109 rfl rfl ?_
      refine ev_iload (pc' := 113) dX8_laySigns_111 rfl rfl ?_
      refine ev_iald (pc' := 114) (j := 3) (v := -(mSg ec)) dX8_laySigns_113 rfl hs_121 rfl (Nat.le_of_ble_eq_true rfl) (Nat.le_of_ble_eq_true rfl) rfl ?_
      refine ev_iload (pc' := 116) dX8_laySigns_114 rfl rfl ?_
      refine ev_icmp_eq (tgt := 123) (pc' := 119) dX8_laySigns_116 rfl rfl (fun c41 => ?_) (fun c41 => ?_)
      · refine ev_iconst (pc' := 124) (v := 0) dX8_laySigns_123 rfl ki_0 ?_
        exact K39 _ (if_neg (fun h => (not_not_intro c41) h.2)).symm
      · refine ev_iconst (pc' := 120) (v := 1) dX8_laySigns_119 rfl ki_1 ?_
        refine ev_goto (tgt := 124) dX8_laySigns_120 rfl ?_
        exact K39 _ (if_pos (⟨c40, c41⟩)).symm
  intro x38 hx38
  subst hx38
  refine ev_iadd (pc' := 125) (v := ((0 + (if (¬ (-(mSg ea)) = 0) ∧ (¬ (-(mSg ea)) = 1) then (1 : Int32) else 0)) + (if (¬ (mSg eb) = 0) ∧ (¬ (mSg eb) = (if (-(mSg ea)) = 0 then 1 else (-(mSg ea)))) then (1 : Int32) else 0)) + (if (¬ (-(mSg ec)) = 0) ∧ (¬ (-(mSg ec)) = (if (mSg eb) = 0 then (if (-(mSg ea)) = 0 then 1 else (-(mSg ea))) else (mSg eb))) then (1 : Int32) else 0)) dX8_laySigns_124 rfl rfl ?_
  refine ev_putI (pc' := 128) (I' := (ma_up (ma_up I 121 (ma_up (ma_up (ma_up (ma_up (ma_up (I 121) 0 1) 1 (-(mSg ea))) 2 (mSg eb)) 3 (-(mSg ec))) 4 (mSg ed))) 115 (ma_up (ma_up (I 115) 9 (((0 + (if (¬ (-(mSg ea)) = 0) ∧ (¬ (-(mSg ea)) = 1) then (1 : Int32) else 0)) + (if (¬ (mSg eb) = 0) ∧ (¬ (mSg eb) = (if (-(mSg ea)) = 0 then 1 else (-(mSg ea)))) then (1 : Int32) else 0)) + (if (¬ (-(mSg ec)) = 0) ∧ (¬ (-(mSg ec)) = (if (mSg eb) = 0 then (if (-(mSg ea)) = 0 then 1 else (-(mSg ea))) else (mSg eb))) then (1 : Int32) else 0))) 10 ((0 + (if (¬ (-(-(mSg ea))) = 0) ∧ (¬ (-(-(mSg ea))) = 1) then (1 : Int32) else 0)) + (if (¬ (mSg eb) = 0) ∧ (¬ (mSg eb) = (if (-(-(mSg ea))) = 0 then 1 else (-(-(mSg ea))))) then (1 : Int32) else 0))))) fo_X8_160 dX8_laySigns_125 rfl hs_115 rfl (fun r hr => by cases hr; rfl) ⟨rfl, rfl⟩ ((congrArg (ma_up _ 115) ((ma_up_comm _ (show 9 ≠ 10 from (by decide)) _ _).trans (congrArg (fun f => ma_up f 10 _) (ma_up_up _ _ _ _)))).trans (ma_up_up _ _ _ _)) ?_
  refine ev_aload (pc' := 130) dX8_laySigns_128 rfl rfl ?_
  refine ev_iload (pc' := 132) dX8_laySigns_130 rfl rfl ?_
  refine ev_iald (pc' := 133) (j := 3) (v := -(mSg ec)) dX8_laySigns_132 rfl hs_121 rfl (Nat.le_of_ble_eq_true rfl) (Nat.le_of_ble_eq_true rfl) rfl ?_
  suffices K44 : ∀ x43 : Int32, x43 = (if (-(mSg ec)) = 0 then (if (mSg eb) = 0 then (if (-(mSg ea)) = 0 then 1 else (-(mSg ea))) else (mSg eb)) else (-(mSg ec))) → EV g yX8_laySigns cX8_laySigns 15 none rX8_laySigns (ma_ZM g rX8_laySigns Post) 146 [some (.ref 115), some (.int 4), some (.long ea), none, some (.long eb), none, some (.long ec), none, some (.long ed), none, some (.ref 121), some (.int (if (mSg eb) = 0 then (if (-(mSg ea)) = 0 then 1 else (-(mSg ea))) else (mSg eb))), some (.int (if (mSg eb) = 0 then (if (-(-(mSg ea))) = 0 then 1 else (-(-(mSg ea)))) else (mSg eb))), some (.int 3), some (.int (-(-(mSg ec))))] [.int x43] HS (ma_up (ma_up I 121 (ma_up (ma_up (ma_up (ma_up (ma_up (I 121) 0 1) 1 (-(mSg ea))) 2 (mSg eb)) 3 (-(mSg ec))) 4 (mSg ed))) 115 (ma_up (ma_up (I 115) 9 (((0 + (if (¬ (-(mSg ea)) = 0) ∧ (¬ (-(mSg ea)) = 1) then (1 : Int32) else 0)) + (if (¬ (mSg eb) = 0) ∧ (¬ (mSg eb) = (if (-(mSg ea)) = 0 then 1 else (-(mSg ea)))) then (1 : Int32) else 0)) + (if (¬ (-(mSg ec)) = 0) ∧ (¬ (-(mSg ec)) = (if (mSg eb) = 0 then (if (-(mSg ea)) = 0 then 1 else (-(mSg ea))) else (mSg eb))) then (1 : Int32) else 0))) 10 ((0 + (if (¬ (-(-(mSg ea))) = 0) ∧ (¬ (-(-(mSg ea))) = 1) then (1 : Int32) else 0)) + (if (¬ (mSg eb) = 0) ∧ (¬ (mSg eb) = (if (-(-(mSg ea))) = 0 then 1 else (-(-(mSg ea))))) then (1 : Int32) else 0)))) L RF 146 0 0 by
    refine ev_if_eq (tgt := 144) (pc' := 136) dX8_laySigns_133 rfl rfl (fun c45 => ?_) (fun c45 => ?_)
    · refine ev_iload (pc' := 146) dX8_laySigns_144 rfl rfl ?_
      exact K44 _ (by rw [if_pos c45])
    · refine ev_aload (pc' := 138) dX8_laySigns_136 rfl rfl ?_
      refine ev_iload (pc' := 140) dX8_laySigns_138 rfl rfl ?_
      refine ev_iald (pc' := 141) (j := 3) (v := -(mSg ec)) dX8_laySigns_140 rfl hs_121 rfl (Nat.le_of_ble_eq_true rfl) (Nat.le_of_ble_eq_true rfl) rfl ?_
      refine ev_goto (tgt := 146) dX8_laySigns_141 rfl ?_
      exact K44 _ (by rw [if_neg c45])
  intro x43 hx43
  subst hx43
  refine ev_istore (pc' := 148) (lv' := [some (.ref 115), some (.int 4), some (.long ea), none, some (.long eb), none, some (.long ec), none, some (.long ed), none, some (.ref 121), some (.int (if (-(mSg ec)) = 0 then (if (mSg eb) = 0 then (if (-(mSg ea)) = 0 then 1 else (-(mSg ea))) else (mSg eb)) else (-(mSg ec)))), some (.int (if (mSg eb) = 0 then (if (-(-(mSg ea))) = 0 then 1 else (-(-(mSg ea)))) else (mSg eb))), some (.int 3), some (.int (-(-(mSg ec))))]) dX8_laySigns_146 rfl (Nat.le_of_ble_eq_true rfl) rfl rfl ?_
  refine ev_aload_n (pc' := 149) (i := 0) dX8_laySigns_148 rfl rfl rfl ?_
  refine ev_dup (pc' := 150) dX8_laySigns_149 rfl rfl ?_
  refine ev_getI (pc' := 153) (v := (0 + (if (¬ (-(-(mSg ea))) = 0) ∧ (¬ (-(-(mSg ea))) = 1) then (1 : Int32) else 0)) + (if (¬ (mSg eb) = 0) ∧ (¬ (mSg eb) = (if (-(-(mSg ea))) = 0 then 1 else (-(-(mSg ea))))) then (1 : Int32) else 0)) fo_X8_163 dX8_laySigns_150 rfl hs_115 rfl rfl ?_
  refine ev_iload (pc' := 155) dX8_laySigns_153 rfl rfl ?_
  suffices K48 : ∀ x47 : Int32, x47 = (if (¬ (-(-(mSg ec))) = 0) ∧ (¬ (-(-(mSg ec))) = (if (mSg eb) = 0 then (if (-(-(mSg ea))) = 0 then 1 else (-(-(mSg ea)))) else (mSg eb))) then (1 : Int32) else 0) → EV g yX8_laySigns cX8_laySigns 15 none rX8_laySigns (ma_ZM g rX8_laySigns Post) 170 [some (.ref 115), some (.int 4), some (.long ea), none, some (.long eb), none, some (.long ec), none, some (.long ed), none, some (.ref 121), some (.int (if (-(mSg ec)) = 0 then (if (mSg eb) = 0 then (if (-(mSg ea)) = 0 then 1 else (-(mSg ea))) else (mSg eb)) else (-(mSg ec)))), some (.int (if (mSg eb) = 0 then (if (-(-(mSg ea))) = 0 then 1 else (-(-(mSg ea)))) else (mSg eb))), some (.int 3), some (.int (-(-(mSg ec))))] [.int x47, .int ((0 + (if (¬ (-(-(mSg ea))) = 0) ∧ (¬ (-(-(mSg ea))) = 1) then (1 : Int32) else 0)) + (if (¬ (mSg eb) = 0) ∧ (¬ (mSg eb) = (if (-(-(mSg ea))) = 0 then 1 else (-(-(mSg ea))))) then (1 : Int32) else 0)), .ref 115] HS (ma_up (ma_up I 121 (ma_up (ma_up (ma_up (ma_up (ma_up (I 121) 0 1) 1 (-(mSg ea))) 2 (mSg eb)) 3 (-(mSg ec))) 4 (mSg ed))) 115 (ma_up (ma_up (I 115) 9 (((0 + (if (¬ (-(mSg ea)) = 0) ∧ (¬ (-(mSg ea)) = 1) then (1 : Int32) else 0)) + (if (¬ (mSg eb) = 0) ∧ (¬ (mSg eb) = (if (-(mSg ea)) = 0 then 1 else (-(mSg ea)))) then (1 : Int32) else 0)) + (if (¬ (-(mSg ec)) = 0) ∧ (¬ (-(mSg ec)) = (if (mSg eb) = 0 then (if (-(mSg ea)) = 0 then 1 else (-(mSg ea))) else (mSg eb))) then (1 : Int32) else 0))) 10 ((0 + (if (¬ (-(-(mSg ea))) = 0) ∧ (¬ (-(-(mSg ea))) = 1) then (1 : Int32) else 0)) + (if (¬ (mSg eb) = 0) ∧ (¬ (mSg eb) = (if (-(-(mSg ea))) = 0 then 1 else (-(-(mSg ea))))) then (1 : Int32) else 0)))) L RF 146 0 0 by
    refine ev_if_eq (tgt := 169) (pc' := 158) dX8_laySigns_155 rfl rfl (fun c49 => ?_) (fun c49 => ?_)
    · refine ev_iconst (pc' := 170) (v := 0) dX8_laySigns_169 rfl ki_0 ?_
      exact K48 _ (if_neg (fun h => (not_not_intro c49) h.1)).symm
    · refine ev_iload (pc' := 160) dX8_laySigns_158 rfl rfl ?_
      refine ev_iload (pc' := 162) dX8_laySigns_160 rfl rfl ?_
      refine ev_icmp_eq (tgt := 169) (pc' := 165) dX8_laySigns_162 rfl rfl (fun c50 => ?_) (fun c50 => ?_)
      · refine ev_iconst (pc' := 170) (v := 0) dX8_laySigns_169 rfl ki_0 ?_
        exact K48 _ (if_neg (fun h => (not_not_intro c50) h.2)).symm
      · refine ev_iconst (pc' := 166) (v := 1) dX8_laySigns_165 rfl ki_1 ?_
        refine ev_goto (tgt := 170) dX8_laySigns_166 rfl ?_
        exact K48 _ (if_pos (⟨c49, c50⟩)).symm
  intro x47 hx47
  subst hx47
  refine ev_iadd (pc' := 171) (v := ((0 + (if (¬ (-(-(mSg ea))) = 0) ∧ (¬ (-(-(mSg ea))) = 1) then (1 : Int32) else 0)) + (if (¬ (mSg eb) = 0) ∧ (¬ (mSg eb) = (if (-(-(mSg ea))) = 0 then 1 else (-(-(mSg ea))))) then (1 : Int32) else 0)) + (if (¬ (-(-(mSg ec))) = 0) ∧ (¬ (-(-(mSg ec))) = (if (mSg eb) = 0 then (if (-(-(mSg ea))) = 0 then 1 else (-(-(mSg ea)))) else (mSg eb))) then (1 : Int32) else 0)) dX8_laySigns_170 rfl rfl ?_
  refine ev_putI (pc' := 174) (I' := (ma_up (ma_up I 121 (ma_up (ma_up (ma_up (ma_up (ma_up (I 121) 0 1) 1 (-(mSg ea))) 2 (mSg eb)) 3 (-(mSg ec))) 4 (mSg ed))) 115 (ma_up (ma_up (I 115) 9 (((0 + (if (¬ (-(mSg ea)) = 0) ∧ (¬ (-(mSg ea)) = 1) then (1 : Int32) else 0)) + (if (¬ (mSg eb) = 0) ∧ (¬ (mSg eb) = (if (-(mSg ea)) = 0 then 1 else (-(mSg ea)))) then (1 : Int32) else 0)) + (if (¬ (-(mSg ec)) = 0) ∧ (¬ (-(mSg ec)) = (if (mSg eb) = 0 then (if (-(mSg ea)) = 0 then 1 else (-(mSg ea))) else (mSg eb))) then (1 : Int32) else 0))) 10 (((0 + (if (¬ (-(-(mSg ea))) = 0) ∧ (¬ (-(-(mSg ea))) = 1) then (1 : Int32) else 0)) + (if (¬ (mSg eb) = 0) ∧ (¬ (mSg eb) = (if (-(-(mSg ea))) = 0 then 1 else (-(-(mSg ea))))) then (1 : Int32) else 0)) + (if (¬ (-(-(mSg ec))) = 0) ∧ (¬ (-(-(mSg ec))) = (if (mSg eb) = 0 then (if (-(-(mSg ea))) = 0 then 1 else (-(-(mSg ea)))) else (mSg eb))) then (1 : Int32) else 0))))) fo_X8_163 dX8_laySigns_171 rfl hs_115 rfl (fun r hr => by cases hr; rfl) ⟨rfl, rfl⟩ ((congrArg (ma_up _ 115) (ma_up_up _ _ _ _)).trans (ma_up_up _ _ _ _)) ?_
  refine ev_iload (pc' := 176) dX8_laySigns_174 rfl rfl ?_
  suffices K53 : ∀ x52 : Int32, x52 = (if (-(-(mSg ec))) = 0 then (if (mSg eb) = 0 then (if (-(-(mSg ea))) = 0 then 1 else (-(-(mSg ea)))) else (mSg eb)) else (-(-(mSg ec)))) → EV g yX8_laySigns cX8_laySigns 15 none rX8_laySigns (ma_ZM g rX8_laySigns Post) 186 [some (.ref 115), some (.int 4), some (.long ea), none, some (.long eb), none, some (.long ec), none, some (.long ed), none, some (.ref 121), some (.int (if (-(mSg ec)) = 0 then (if (mSg eb) = 0 then (if (-(mSg ea)) = 0 then 1 else (-(mSg ea))) else (mSg eb)) else (-(mSg ec)))), some (.int (if (mSg eb) = 0 then (if (-(-(mSg ea))) = 0 then 1 else (-(-(mSg ea)))) else (mSg eb))), some (.int 3), some (.int (-(-(mSg ec))))] [.int x52] HS (ma_up (ma_up I 121 (ma_up (ma_up (ma_up (ma_up (ma_up (I 121) 0 1) 1 (-(mSg ea))) 2 (mSg eb)) 3 (-(mSg ec))) 4 (mSg ed))) 115 (ma_up (ma_up (I 115) 9 (((0 + (if (¬ (-(mSg ea)) = 0) ∧ (¬ (-(mSg ea)) = 1) then (1 : Int32) else 0)) + (if (¬ (mSg eb) = 0) ∧ (¬ (mSg eb) = (if (-(mSg ea)) = 0 then 1 else (-(mSg ea)))) then (1 : Int32) else 0)) + (if (¬ (-(mSg ec)) = 0) ∧ (¬ (-(mSg ec)) = (if (mSg eb) = 0 then (if (-(mSg ea)) = 0 then 1 else (-(mSg ea))) else (mSg eb))) then (1 : Int32) else 0))) 10 (((0 + (if (¬ (-(-(mSg ea))) = 0) ∧ (¬ (-(-(mSg ea))) = 1) then (1 : Int32) else 0)) + (if (¬ (mSg eb) = 0) ∧ (¬ (mSg eb) = (if (-(-(mSg ea))) = 0 then 1 else (-(-(mSg ea))))) then (1 : Int32) else 0)) + (if (¬ (-(-(mSg ec))) = 0) ∧ (¬ (-(-(mSg ec))) = (if (mSg eb) = 0 then (if (-(-(mSg ea))) = 0 then 1 else (-(-(mSg ea)))) else (mSg eb))) then (1 : Int32) else 0)))) L RF 146 0 0 by
    refine ev_if_eq (tgt := 184) (pc' := 179) dX8_laySigns_176 rfl rfl (fun c54 => ?_) (fun c54 => ?_)
    · refine ev_iload (pc' := 186) dX8_laySigns_184 rfl rfl ?_
      exact K53 _ (by rw [if_pos c54])
    · refine ev_iload (pc' := 181) dX8_laySigns_179 rfl rfl ?_
      refine ev_goto (tgt := 186) dX8_laySigns_181 rfl ?_
      exact K53 _ (by rw [if_neg c54])
  intro x52 hx52
  subst hx52
  refine ev_istore (pc' := 188) (lv' := [some (.ref 115), some (.int 4), some (.long ea), none, some (.long eb), none, some (.long ec), none, some (.long ed), none, some (.ref 121), some (.int (if (-(mSg ec)) = 0 then (if (mSg eb) = 0 then (if (-(mSg ea)) = 0 then 1 else (-(mSg ea))) else (mSg eb)) else (-(mSg ec)))), some (.int (if (-(-(mSg ec))) = 0 then (if (mSg eb) = 0 then (if (-(-(mSg ea))) = 0 then 1 else (-(-(mSg ea)))) else (mSg eb)) else (-(-(mSg ec))))), some (.int 3), some (.int (-(-(mSg ec))))]) dX8_laySigns_186 rfl (Nat.le_of_ble_eq_true rfl) rfl rfl ?_
  refine ev_iinc (pc' := 191) (v := 4) (lv' := [some (.ref 115), some (.int 4), some (.long ea), none, some (.long eb), none, some (.long ec), none, some (.long ed), none, some (.ref 121), some (.int (if (-(mSg ec)) = 0 then (if (mSg eb) = 0 then (if (-(mSg ea)) = 0 then 1 else (-(mSg ea))) else (mSg eb)) else (-(mSg ec)))), some (.int (if (-(-(mSg ec))) = 0 then (if (mSg eb) = 0 then (if (-(-(mSg ea))) = 0 then 1 else (-(-(mSg ea)))) else (mSg eb)) else (-(-(mSg ec))))), some (.int 4), some (.int (-(-(mSg ec))))]) dX8_laySigns_188 rfl rfl (by decide) (Nat.le_of_ble_eq_true rfl) rfl rfl ?_
  refine ev_goto (tgt := 67) dX8_laySigns_191 rfl ?_
  refine ev_iload (pc' := 69) dX8_laySigns_67 rfl rfl ?_
  refine ev_iload_n (pc' := 70) (i := 1) dX8_laySigns_69 rfl rfl rfl ?_
  refine ev_icmp_gt (tgt := 194) (pc' := 73) dX8_laySigns_70 rfl rfl (fun h => absurd h (by decide)) (fun _ => ?_)
  refine ev_iload (pc' := 75) dX8_laySigns_73 rfl rfl ?_
  refine ev_iconst (pc' := 76) (v := 2) dX8_laySigns_75 rfl ki_2 ?_
  refine ev_irem (pc' := 77) (v := 0) dX8_laySigns_76 rfl (by decide) (by decide) ?_
  refine ev_if_ne (tgt := 88) (pc' := 80) dX8_laySigns_77 rfl rfl (fun h => absurd (by decide) h) (fun _ => ?_)
  refine ev_aload (pc' := 82) dX8_laySigns_80 rfl rfl ?_
  refine ev_iload (pc' := 84) dX8_laySigns_82 rfl rfl ?_
  refine ev_iald (pc' := 85) (j := 4) (v := mSg ed) dX8_laySigns_84 rfl hs_121 rfl (Nat.le_of_ble_eq_true rfl) (Nat.le_of_ble_eq_true rfl) rfl ?_
  refine ev_goto (tgt := 94) dX8_laySigns_85 rfl ?_
  refine ev_istore (pc' := 96) (lv' := [some (.ref 115), some (.int 4), some (.long ea), none, some (.long eb), none, some (.long ec), none, some (.long ed), none, some (.ref 121), some (.int (if (-(mSg ec)) = 0 then (if (mSg eb) = 0 then (if (-(mSg ea)) = 0 then 1 else (-(mSg ea))) else (mSg eb)) else (-(mSg ec)))), some (.int (if (-(-(mSg ec))) = 0 then (if (mSg eb) = 0 then (if (-(-(mSg ea))) = 0 then 1 else (-(-(mSg ea)))) else (mSg eb)) else (-(-(mSg ec))))), some (.int 4), some (.int (mSg ed))]) dX8_laySigns_94 rfl (Nat.le_of_ble_eq_true rfl) rfl rfl ?_
  refine ev_aload_n (pc' := 97) (i := 0) dX8_laySigns_96 rfl rfl rfl ?_
  refine ev_dup (pc' := 98) dX8_laySigns_97 rfl rfl ?_
  refine ev_getI (pc' := 101) (v := ((0 + (if (¬ (-(mSg ea)) = 0) ∧ (¬ (-(mSg ea)) = 1) then (1 : Int32) else 0)) + (if (¬ (mSg eb) = 0) ∧ (¬ (mSg eb) = (if (-(mSg ea)) = 0 then 1 else (-(mSg ea)))) then (1 : Int32) else 0)) + (if (¬ (-(mSg ec)) = 0) ∧ (¬ (-(mSg ec)) = (if (mSg eb) = 0 then (if (-(mSg ea)) = 0 then 1 else (-(mSg ea))) else (mSg eb))) then (1 : Int32) else 0)) fo_X8_160 dX8_laySigns_98 rfl hs_115 rfl rfl ?_
  refine ev_aload (pc' := 103) dX8_laySigns_101 rfl rfl ?_
  refine ev_iload (pc' := 105) dX8_laySigns_103 rfl rfl ?_
  refine ev_iald (pc' := 106) (j := 4) (v := mSg ed) dX8_laySigns_105 rfl hs_121 rfl (Nat.le_of_ble_eq_true rfl) (Nat.le_of_ble_eq_true rfl) rfl ?_
  suffices K57 : ∀ x56 : Int32, x56 = (if (¬ (mSg ed) = 0) ∧ (¬ (mSg ed) = (if (-(mSg ec)) = 0 then (if (mSg eb) = 0 then (if (-(mSg ea)) = 0 then 1 else (-(mSg ea))) else (mSg eb)) else (-(mSg ec)))) then (1 : Int32) else 0) → EV g yX8_laySigns cX8_laySigns 15 none rX8_laySigns (ma_ZM g rX8_laySigns Post) 124 [some (.ref 115), some (.int 4), some (.long ea), none, some (.long eb), none, some (.long ec), none, some (.long ed), none, some (.ref 121), some (.int (if (-(mSg ec)) = 0 then (if (mSg eb) = 0 then (if (-(mSg ea)) = 0 then 1 else (-(mSg ea))) else (mSg eb)) else (-(mSg ec)))), some (.int (if (-(-(mSg ec))) = 0 then (if (mSg eb) = 0 then (if (-(-(mSg ea))) = 0 then 1 else (-(-(mSg ea)))) else (mSg eb)) else (-(-(mSg ec))))), some (.int 4), some (.int (mSg ed))] [.int x56, .int (((0 + (if (¬ (-(mSg ea)) = 0) ∧ (¬ (-(mSg ea)) = 1) then (1 : Int32) else 0)) + (if (¬ (mSg eb) = 0) ∧ (¬ (mSg eb) = (if (-(mSg ea)) = 0 then 1 else (-(mSg ea)))) then (1 : Int32) else 0)) + (if (¬ (-(mSg ec)) = 0) ∧ (¬ (-(mSg ec)) = (if (mSg eb) = 0 then (if (-(mSg ea)) = 0 then 1 else (-(mSg ea))) else (mSg eb))) then (1 : Int32) else 0)), .ref 115] HS (ma_up (ma_up I 121 (ma_up (ma_up (ma_up (ma_up (ma_up (I 121) 0 1) 1 (-(mSg ea))) 2 (mSg eb)) 3 (-(mSg ec))) 4 (mSg ed))) 115 (ma_up (ma_up (I 115) 9 (((0 + (if (¬ (-(mSg ea)) = 0) ∧ (¬ (-(mSg ea)) = 1) then (1 : Int32) else 0)) + (if (¬ (mSg eb) = 0) ∧ (¬ (mSg eb) = (if (-(mSg ea)) = 0 then 1 else (-(mSg ea)))) then (1 : Int32) else 0)) + (if (¬ (-(mSg ec)) = 0) ∧ (¬ (-(mSg ec)) = (if (mSg eb) = 0 then (if (-(mSg ea)) = 0 then 1 else (-(mSg ea))) else (mSg eb))) then (1 : Int32) else 0))) 10 (((0 + (if (¬ (-(-(mSg ea))) = 0) ∧ (¬ (-(-(mSg ea))) = 1) then (1 : Int32) else 0)) + (if (¬ (mSg eb) = 0) ∧ (¬ (mSg eb) = (if (-(-(mSg ea))) = 0 then 1 else (-(-(mSg ea))))) then (1 : Int32) else 0)) + (if (¬ (-(-(mSg ec))) = 0) ∧ (¬ (-(-(mSg ec))) = (if (mSg eb) = 0 then (if (-(-(mSg ea))) = 0 then 1 else (-(-(mSg ea)))) else (mSg eb))) then (1 : Int32) else 0)))) L RF 146 0 0 by
    refine ev_if_eq (tgt := 123) (pc' := 109) dX8_laySigns_106 rfl rfl (fun c58 => ?_) (fun c58 => ?_)
    · refine ev_iconst (pc' := 124) (v := 0) dX8_laySigns_123 rfl ki_0 ?_
      exact K57 _ (if_neg (fun h => (not_not_intro c58) h.1)).symm
    · refine ev_aload (pc' := 111) dX8_laySigns_109 rfl rfl ?_
      refine ev_iload (pc' := 113) dX8_laySigns_111 rfl rfl ?_
      refine ev_iald (pc' := 114) (j := 4) (v := mSg ed) dX8_laySigns_113 rfl hs_121 rfl (Nat.le_of_ble_eq_true rfl) (Nat.le_of_ble_eq_true rfl) rfl ?_
      refine ev_iload (pc' := 116) dX8_laySigns_114 rfl rfl ?_
      refine ev_icmp_eq (tgt := 123) (pc' := 119) dX8_laySigns_116 rfl rfl (fun c59 => ?_) (fun c59 => ?_)
      · refine ev_iconst (pc' := 124) (v := 0) dX8_laySigns_123 rfl ki_0 ?_
        exact K57 _ (if_neg (fun h => (not_not_intro c59) h.2)).symm
      · refine ev_iconst (pc' := 120) (v := 1) dX8_laySigns_119 rfl ki_1 ?_
        refine ev_goto (tgt := 124) dX8_laySigns_120 rfl ?_
        exact K57 _ (if_pos (⟨c58, c59⟩)).symm
  intro x56 hx56
  subst hx56
  refine ev_iadd (pc' := 125) (v := (((0 + (if (¬ (-(mSg ea)) = 0) ∧ (¬ (-(mSg ea)) = 1) then (1 : Int32) else 0)) + (if (¬ (mSg eb) = 0) ∧ (¬ (mSg eb) = (if (-(mSg ea)) = 0 then 1 else (-(mSg ea)))) then (1 : Int32) else 0)) + (if (¬ (-(mSg ec)) = 0) ∧ (¬ (-(mSg ec)) = (if (mSg eb) = 0 then (if (-(mSg ea)) = 0 then 1 else (-(mSg ea))) else (mSg eb))) then (1 : Int32) else 0)) + (if (¬ (mSg ed) = 0) ∧ (¬ (mSg ed) = (if (-(mSg ec)) = 0 then (if (mSg eb) = 0 then (if (-(mSg ea)) = 0 then 1 else (-(mSg ea))) else (mSg eb)) else (-(mSg ec)))) then (1 : Int32) else 0)) dX8_laySigns_124 rfl rfl ?_
  refine ev_putI (pc' := 128) (I' := (ma_up (ma_up I 121 (ma_up (ma_up (ma_up (ma_up (ma_up (I 121) 0 1) 1 (-(mSg ea))) 2 (mSg eb)) 3 (-(mSg ec))) 4 (mSg ed))) 115 (ma_up (ma_up (I 115) 9 ((((0 + (if (¬ (-(mSg ea)) = 0) ∧ (¬ (-(mSg ea)) = 1) then (1 : Int32) else 0)) + (if (¬ (mSg eb) = 0) ∧ (¬ (mSg eb) = (if (-(mSg ea)) = 0 then 1 else (-(mSg ea)))) then (1 : Int32) else 0)) + (if (¬ (-(mSg ec)) = 0) ∧ (¬ (-(mSg ec)) = (if (mSg eb) = 0 then (if (-(mSg ea)) = 0 then 1 else (-(mSg ea))) else (mSg eb))) then (1 : Int32) else 0)) + (if (¬ (mSg ed) = 0) ∧ (¬ (mSg ed) = (if (-(mSg ec)) = 0 then (if (mSg eb) = 0 then (if (-(mSg ea)) = 0 then 1 else (-(mSg ea))) else (mSg eb)) else (-(mSg ec)))) then (1 : Int32) else 0))) 10 (((0 + (if (¬ (-(-(mSg ea))) = 0) ∧ (¬ (-(-(mSg ea))) = 1) then (1 : Int32) else 0)) + (if (¬ (mSg eb) = 0) ∧ (¬ (mSg eb) = (if (-(-(mSg ea))) = 0 then 1 else (-(-(mSg ea))))) then (1 : Int32) else 0)) + (if (¬ (-(-(mSg ec))) = 0) ∧ (¬ (-(-(mSg ec))) = (if (mSg eb) = 0 then (if (-(-(mSg ea))) = 0 then 1 else (-(-(mSg ea)))) else (mSg eb))) then (1 : Int32) else 0))))) fo_X8_160 dX8_laySigns_125 rfl hs_115 rfl (fun r hr => by cases hr; rfl) ⟨rfl, rfl⟩ ((congrArg (ma_up _ 115) ((ma_up_comm _ (show 9 ≠ 10 from (by decide)) _ _).trans (congrArg (fun f => ma_up f 10 _) (ma_up_up _ _ _ _)))).trans (ma_up_up _ _ _ _)) ?_
  refine ev_aload (pc' := 130) dX8_laySigns_128 rfl rfl ?_
  refine ev_iload (pc' := 132) dX8_laySigns_130 rfl rfl ?_
  refine ev_iald (pc' := 133) (j := 4) (v := mSg ed) dX8_laySigns_132 rfl hs_121 rfl (Nat.le_of_ble_eq_true rfl) (Nat.le_of_ble_eq_true rfl) rfl ?_
  suffices K62 : ∀ x61 : Int32, x61 = (if (mSg ed) = 0 then (if (-(mSg ec)) = 0 then (if (mSg eb) = 0 then (if (-(mSg ea)) = 0 then 1 else (-(mSg ea))) else (mSg eb)) else (-(mSg ec))) else (mSg ed)) → EV g yX8_laySigns cX8_laySigns 15 none rX8_laySigns (ma_ZM g rX8_laySigns Post) 146 [some (.ref 115), some (.int 4), some (.long ea), none, some (.long eb), none, some (.long ec), none, some (.long ed), none, some (.ref 121), some (.int (if (-(mSg ec)) = 0 then (if (mSg eb) = 0 then (if (-(mSg ea)) = 0 then 1 else (-(mSg ea))) else (mSg eb)) else (-(mSg ec)))), some (.int (if (-(-(mSg ec))) = 0 then (if (mSg eb) = 0 then (if (-(-(mSg ea))) = 0 then 1 else (-(-(mSg ea)))) else (mSg eb)) else (-(-(mSg ec))))), some (.int 4), some (.int (mSg ed))] [.int x61] HS (ma_up (ma_up I 121 (ma_up (ma_up (ma_up (ma_up (ma_up (I 121) 0 1) 1 (-(mSg ea))) 2 (mSg eb)) 3 (-(mSg ec))) 4 (mSg ed))) 115 (ma_up (ma_up (I 115) 9 ((((0 + (if (¬ (-(mSg ea)) = 0) ∧ (¬ (-(mSg ea)) = 1) then (1 : Int32) else 0)) + (if (¬ (mSg eb) = 0) ∧ (¬ (mSg eb) = (if (-(mSg ea)) = 0 then 1 else (-(mSg ea)))) then (1 : Int32) else 0)) + (if (¬ (-(mSg ec)) = 0) ∧ (¬ (-(mSg ec)) = (if (mSg eb) = 0 then (if (-(mSg ea)) = 0 then 1 else (-(mSg ea))) else (mSg eb))) then (1 : Int32) else 0)) + (if (¬ (mSg ed) = 0) ∧ (¬ (mSg ed) = (if (-(mSg ec)) = 0 then (if (mSg eb) = 0 then (if (-(mSg ea)) = 0 then 1 else (-(mSg ea))) else (mSg eb)) else (-(mSg ec)))) then (1 : Int32) else 0))) 10 (((0 + (if (¬ (-(-(mSg ea))) = 0) ∧ (¬ (-(-(mSg ea))) = 1) then (1 : Int32) else 0)) + (if (¬ (mSg eb) = 0) ∧ (¬ (mSg eb) = (if (-(-(mSg ea))) = 0 then 1 else (-(-(mSg ea))))) then (1 : Int32) else 0)) + (if (¬ (-(-(mSg ec))) = 0) ∧ (¬ (-(-(mSg ec))) = (if (mSg eb) = 0 then (if (-(-(mSg ea))) = 0 then 1 else (-(-(mSg ea)))) else (mSg eb))) then (1 : Int32) else 0)))) L RF 146 0 0 by
    refine ev_if_eq (tgt := 144) (pc' := 136) dX8_laySigns_133 rfl rfl (fun c63 => ?_) (fun c63 => ?_)
    · refine ev_iload (pc' := 146) dX8_laySigns_144 rfl rfl ?_
      exact K62 _ (by rw [if_pos c63])
    · refine ev_aload (pc' := 138) dX8_laySigns_136 rfl rfl ?_
      refine ev_iload (pc' := 140) dX8_laySigns_138 rfl rfl ?_
      refine ev_iald (pc' := 141) (j := 4) (v := mSg ed) dX8_laySigns_140 rfl hs_121 rfl (Nat.le_of_ble_eq_true rfl) (Nat.le_of_ble_eq_true rfl) rfl ?_
      refine ev_goto (tgt := 146) dX8_laySigns_141 rfl ?_
      exact K62 _ (by rw [if_neg c63])
  intro x61 hx61
  subst hx61
  refine ev_istore (pc' := 148) (lv' := [some (.ref 115), some (.int 4), some (.long ea), none, some (.long eb), none, some (.long ec), none, some (.long ed), none, some (.ref 121), some (.int (if (mSg ed) = 0 then (if (-(mSg ec)) = 0 then (if (mSg eb) = 0 then (if (-(mSg ea)) = 0 then 1 else (-(mSg ea))) else (mSg eb)) else (-(mSg ec))) else (mSg ed))), some (.int (if (-(-(mSg ec))) = 0 then (if (mSg eb) = 0 then (if (-(-(mSg ea))) = 0 then 1 else (-(-(mSg ea)))) else (mSg eb)) else (-(-(mSg ec))))), some (.int 4), some (.int (mSg ed))]) dX8_laySigns_146 rfl (Nat.le_of_ble_eq_true rfl) rfl rfl ?_
  refine ev_aload_n (pc' := 149) (i := 0) dX8_laySigns_148 rfl rfl rfl ?_
  refine ev_dup (pc' := 150) dX8_laySigns_149 rfl rfl ?_
  refine ev_getI (pc' := 153) (v := ((0 + (if (¬ (-(-(mSg ea))) = 0) ∧ (¬ (-(-(mSg ea))) = 1) then (1 : Int32) else 0)) + (if (¬ (mSg eb) = 0) ∧ (¬ (mSg eb) = (if (-(-(mSg ea))) = 0 then 1 else (-(-(mSg ea))))) then (1 : Int32) else 0)) + (if (¬ (-(-(mSg ec))) = 0) ∧ (¬ (-(-(mSg ec))) = (if (mSg eb) = 0 then (if (-(-(mSg ea))) = 0 then 1 else (-(-(mSg ea)))) else (mSg eb))) then (1 : Int32) else 0)) fo_X8_163 dX8_laySigns_150 rfl hs_115 rfl rfl ?_
  refine ev_iload (pc' := 155) dX8_laySigns_153 rfl rfl ?_
  suffices K66 : ∀ x65 : Int32, x65 = (if (¬ (mSg ed) = 0) ∧ (¬ (mSg ed) = (if (-(-(mSg ec))) = 0 then (if (mSg eb) = 0 then (if (-(-(mSg ea))) = 0 then 1 else (-(-(mSg ea)))) else (mSg eb)) else (-(-(mSg ec))))) then (1 : Int32) else 0) → EV g yX8_laySigns cX8_laySigns 15 none rX8_laySigns (ma_ZM g rX8_laySigns Post) 170 [some (.ref 115), some (.int 4), some (.long ea), none, some (.long eb), none, some (.long ec), none, some (.long ed), none, some (.ref 121), some (.int (if (mSg ed) = 0 then (if (-(mSg ec)) = 0 then (if (mSg eb) = 0 then (if (-(mSg ea)) = 0 then 1 else (-(mSg ea))) else (mSg eb)) else (-(mSg ec))) else (mSg ed))), some (.int (if (-(-(mSg ec))) = 0 then (if (mSg eb) = 0 then (if (-(-(mSg ea))) = 0 then 1 else (-(-(mSg ea)))) else (mSg eb)) else (-(-(mSg ec))))), some (.int 4), some (.int (mSg ed))] [.int x65, .int (((0 + (if (¬ (-(-(mSg ea))) = 0) ∧ (¬ (-(-(mSg ea))) = 1) then (1 : Int32) else 0)) + (if (¬ (mSg eb) = 0) ∧ (¬ (mSg eb) = (if (-(-(mSg ea))) = 0 then 1 else (-(-(mSg ea))))) then (1 : Int32) else 0)) + (if (¬ (-(-(mSg ec))) = 0) ∧ (¬ (-(-(mSg ec))) = (if (mSg eb) = 0 then (if (-(-(mSg ea))) = 0 then 1 else (-(-(mSg ea)))) else (mSg eb))) then (1 : Int32) else 0)), .ref 115] HS (ma_up (ma_up I 121 (ma_up (ma_up (ma_up (ma_up (ma_up (I 121) 0 1) 1 (-(mSg ea))) 2 (mSg eb)) 3 (-(mSg ec))) 4 (mSg ed))) 115 (ma_up (ma_up (I 115) 9 ((((0 + (if (¬ (-(mSg ea)) = 0) ∧ (¬ (-(mSg ea)) = 1) then (1 : Int32) else 0)) + (if (¬ (mSg eb) = 0) ∧ (¬ (mSg eb) = (if (-(mSg ea)) = 0 then 1 else (-(mSg ea)))) then (1 : Int32) else 0)) + (if (¬ (-(mSg ec)) = 0) ∧ (¬ (-(mSg ec)) = (if (mSg eb) = 0 then (if (-(mSg ea)) = 0 then 1 else (-(mSg ea))) else (mSg eb))) then (1 : Int32) else 0)) + (if (¬ (mSg ed) = 0) ∧ (¬ (mSg ed) = (if (-(mSg ec)) = 0 then (if (mSg eb) = 0 then (if (-(mSg ea)) = 0 then 1 else (-(mSg ea))) else (mSg eb)) else (-(mSg ec)))) then (1 : Int32) else 0))) 10 (((0 + (if (¬ (-(-(mSg ea))) = 0) ∧ (¬ (-(-(mSg ea))) = 1) then (1 : Int32) else 0)) + (if (¬ (mSg eb) = 0) ∧ (¬ (mSg eb) = (if (-(-(mSg ea))) = 0 then 1 else (-(-(mSg ea))))) then (1 : Int32) else 0)) + (if (¬ (-(-(mSg ec))) = 0) ∧ (¬ (-(-(mSg ec))) = (if (mSg eb) = 0 then (if (-(-(mSg ea))) = 0 then 1 else (-(-(mSg ea)))) else (mSg eb))) then (1 : Int32) else 0)))) L RF 146 0 0 by
    refine ev_if_eq (tgt := 169) (pc' := 158) dX8_laySigns_155 rfl rfl (fun c67 => ?_) (fun c67 => ?_)
    · refine ev_iconst (pc' := 170) (v := 0) dX8_laySigns_169 rfl ki_0 ?_
      exact K66 _ (if_neg (fun h => (not_not_intro c67) h.1)).symm
    · refine ev_iload (pc' := 160) dX8_laySigns_158 rfl rfl ?_
      refine ev_iload (pc' := 162) dX8_laySigns_160 rfl rfl ?_
      refine ev_icmp_eq (tgt := 169) (pc' := 165) dX8_laySigns_162 rfl rfl (fun c68 => ?_) (fun c68 => ?_)
      · refine ev_iconst (pc' := 170) (v := 0) dX8_laySigns_169 rfl ki_0 ?_
        exact K66 _ (if_neg (fun h => (not_not_intro c68) h.2)).symm
      · refine ev_iconst (pc' := 166) (v := 1) dX8_laySigns_165 rfl ki_1 ?_
        refine ev_goto (tgt := 170) dX8_laySigns_166 rfl ?_
        exact K66 _ (if_pos (⟨c67, c68⟩)).symm
  intro x65 hx65
  subst hx65
  refine ev_iadd (pc' := 171) (v := (((0 + (if (¬ (-(-(mSg ea))) = 0) ∧ (¬ (-(-(mSg ea))) = 1) then (1 : Int32) else 0)) + (if (¬ (mSg eb) = 0) ∧ (¬ (mSg eb) = (if (-(-(mSg ea))) = 0 then 1 else (-(-(mSg ea))))) then (1 : Int32) else 0)) + (if (¬ (-(-(mSg ec))) = 0) ∧ (¬ (-(-(mSg ec))) = (if (mSg eb) = 0 then (if (-(-(mSg ea))) = 0 then 1 else (-(-(mSg ea)))) else (mSg eb))) then (1 : Int32) else 0)) + (if (¬ (mSg ed) = 0) ∧ (¬ (mSg ed) = (if (-(-(mSg ec))) = 0 then (if (mSg eb) = 0 then (if (-(-(mSg ea))) = 0 then 1 else (-(-(mSg ea)))) else (mSg eb)) else (-(-(mSg ec))))) then (1 : Int32) else 0)) dX8_laySigns_170 rfl rfl ?_
  refine ev_putI (pc' := 174) (I' := (ma_up (ma_up I 121 (ma_up (ma_up (ma_up (ma_up (ma_up (I 121) 0 1) 1 (-(mSg ea))) 2 (mSg eb)) 3 (-(mSg ec))) 4 (mSg ed))) 115 (ma_up (ma_up (I 115) 9 ((((0 + (if (¬ (-(mSg ea)) = 0) ∧ (¬ (-(mSg ea)) = 1) then (1 : Int32) else 0)) + (if (¬ (mSg eb) = 0) ∧ (¬ (mSg eb) = (if (-(mSg ea)) = 0 then 1 else (-(mSg ea)))) then (1 : Int32) else 0)) + (if (¬ (-(mSg ec)) = 0) ∧ (¬ (-(mSg ec)) = (if (mSg eb) = 0 then (if (-(mSg ea)) = 0 then 1 else (-(mSg ea))) else (mSg eb))) then (1 : Int32) else 0)) + (if (¬ (mSg ed) = 0) ∧ (¬ (mSg ed) = (if (-(mSg ec)) = 0 then (if (mSg eb) = 0 then (if (-(mSg ea)) = 0 then 1 else (-(mSg ea))) else (mSg eb)) else (-(mSg ec)))) then (1 : Int32) else 0))) 10 ((((0 + (if (¬ (-(-(mSg ea))) = 0) ∧ (¬ (-(-(mSg ea))) = 1) then (1 : Int32) else 0)) + (if (¬ (mSg eb) = 0) ∧ (¬ (mSg eb) = (if (-(-(mSg ea))) = 0 then 1 else (-(-(mSg ea))))) then (1 : Int32) else 0)) + (if (¬ (-(-(mSg ec))) = 0) ∧ (¬ (-(-(mSg ec))) = (if (mSg eb) = 0 then (if (-(-(mSg ea))) = 0 then 1 else (-(-(mSg ea)))) else (mSg eb))) then (1 : Int32) else 0)) + (if (¬ (mSg ed) = 0) ∧ (¬ (mSg ed) = (if (-(-(mSg ec))) = 0 then (if (mSg eb) = 0 then (if (-(-(mSg ea))) = 0 then 1 else (-(-(mSg ea)))) else (mSg eb)) else (-(-(mSg ec))))) then (1 : Int32) else 0))))) fo_X8_163 dX8_laySigns_171 rfl hs_115 rfl (fun r hr => by cases hr; rfl) ⟨rfl, rfl⟩ ((congrArg (ma_up _ 115) (ma_up_up _ _ _ _)).trans (ma_up_up _ _ _ _)) ?_
  refine ev_iload (pc' := 176) dX8_laySigns_174 rfl rfl ?_
  suffices K71 : ∀ x70 : Int32, x70 = (if (mSg ed) = 0 then (if (-(-(mSg ec))) = 0 then (if (mSg eb) = 0 then (if (-(-(mSg ea))) = 0 then 1 else (-(-(mSg ea)))) else (mSg eb)) else (-(-(mSg ec)))) else (mSg ed)) → EV g yX8_laySigns cX8_laySigns 15 none rX8_laySigns (ma_ZM g rX8_laySigns Post) 186 [some (.ref 115), some (.int 4), some (.long ea), none, some (.long eb), none, some (.long ec), none, some (.long ed), none, some (.ref 121), some (.int (if (mSg ed) = 0 then (if (-(mSg ec)) = 0 then (if (mSg eb) = 0 then (if (-(mSg ea)) = 0 then 1 else (-(mSg ea))) else (mSg eb)) else (-(mSg ec))) else (mSg ed))), some (.int (if (-(-(mSg ec))) = 0 then (if (mSg eb) = 0 then (if (-(-(mSg ea))) = 0 then 1 else (-(-(mSg ea)))) else (mSg eb)) else (-(-(mSg ec))))), some (.int 4), some (.int (mSg ed))] [.int x70] HS (ma_up (ma_up I 121 (ma_up (ma_up (ma_up (ma_up (ma_up (I 121) 0 1) 1 (-(mSg ea))) 2 (mSg eb)) 3 (-(mSg ec))) 4 (mSg ed))) 115 (ma_up (ma_up (I 115) 9 ((((0 + (if (¬ (-(mSg ea)) = 0) ∧ (¬ (-(mSg ea)) = 1) then (1 : Int32) else 0)) + (if (¬ (mSg eb) = 0) ∧ (¬ (mSg eb) = (if (-(mSg ea)) = 0 then 1 else (-(mSg ea)))) then (1 : Int32) else 0)) + (if (¬ (-(mSg ec)) = 0) ∧ (¬ (-(mSg ec)) = (if (mSg eb) = 0 then (if (-(mSg ea)) = 0 then 1 else (-(mSg ea))) else (mSg eb))) then (1 : Int32) else 0)) + (if (¬ (mSg ed) = 0) ∧ (¬ (mSg ed) = (if (-(mSg ec)) = 0 then (if (mSg eb) = 0 then (if (-(mSg ea)) = 0 then 1 else (-(mSg ea))) else (mSg eb)) else (-(mSg ec)))) then (1 : Int32) else 0))) 10 ((((0 + (if (¬ (-(-(mSg ea))) = 0) ∧ (¬ (-(-(mSg ea))) = 1) then (1 : Int32) else 0)) + (if (¬ (mSg eb) = 0) ∧ (¬ (mSg eb) = (if (-(-(mSg ea))) = 0 then 1 else (-(-(mSg ea))))) then (1 : Int32) else 0)) + (if (¬ (-(-(mSg ec))) = 0) ∧ (¬ (-(-(mSg ec))) = (if (mSg eb) = 0 then (if (-(-(mSg ea))) = 0 then 1 else (-(-(mSg ea)))) else (mSg eb))) then (1 : Int32) else 0)) + (if (¬ (mSg ed) = 0) ∧ (¬ (mSg ed) = (if (-(-(mSg ec))) = 0 then (if (mSg eb) = 0 then (if (-(-(mSg ea))) = 0 then 1 else (-(-(mSg ea)))) else (mSg eb)) else (-(-(mSg ec))))) then (1 : Int32) else 0)))) L RF 146 0 0 by
    refine ev_if_eq (tgt := 184) (pc' := 179) dX8_laySigns_176 rfl rfl (fun c72 => ?_) (fun c72 => ?_)
    · refine ev_iload (pc' := 186) dX8_laySigns_184 rfl rfl ?_
      exact K71 _ (by rw [if_pos c72])
    · refine ev_iload (pc' := 181) dX8_laySigns_179 rfl rfl ?_
      refine ev_goto (tgt := 186) dX8_laySigns_181 rfl ?_
      exact K71 _ (by rw [if_neg c72])
  intro x70 hx70
  subst hx70
  refine ev_istore (pc' := 188) (lv' := [some (.ref 115), some (.int 4), some (.long ea), none, some (.long eb), none, some (.long ec), none, some (.long ed), none, some (.ref 121), some (.int (if (mSg ed) = 0 then (if (-(mSg ec)) = 0 then (if (mSg eb) = 0 then (if (-(mSg ea)) = 0 then 1 else (-(mSg ea))) else (mSg eb)) else (-(mSg ec))) else (mSg ed))), some (.int (if (mSg ed) = 0 then (if (-(-(mSg ec))) = 0 then (if (mSg eb) = 0 then (if (-(-(mSg ea))) = 0 then 1 else (-(-(mSg ea)))) else (mSg eb)) else (-(-(mSg ec)))) else (mSg ed))), some (.int 4), some (.int (mSg ed))]) dX8_laySigns_186 rfl (Nat.le_of_ble_eq_true rfl) rfl rfl ?_
  refine ev_iinc (pc' := 191) (v := 5) (lv' := [some (.ref 115), some (.int 4), some (.long ea), none, some (.long eb), none, some (.long ec), none, some (.long ed), none, some (.ref 121), some (.int (if (mSg ed) = 0 then (if (-(mSg ec)) = 0 then (if (mSg eb) = 0 then (if (-(mSg ea)) = 0 then 1 else (-(mSg ea))) else (mSg eb)) else (-(mSg ec))) else (mSg ed))), some (.int (if (mSg ed) = 0 then (if (-(-(mSg ec))) = 0 then (if (mSg eb) = 0 then (if (-(-(mSg ea))) = 0 then 1 else (-(-(mSg ea)))) else (mSg eb)) else (-(-(mSg ec)))) else (mSg ed))), some (.int 5), some (.int (mSg ed))]) dX8_laySigns_188 rfl rfl (by decide) (Nat.le_of_ble_eq_true rfl) rfl rfl ?_
  refine ev_goto (tgt := 67) dX8_laySigns_191 rfl ?_
  refine ev_iload (pc' := 69) dX8_laySigns_67 rfl rfl ?_
  refine ev_iload_n (pc' := 70) (i := 1) dX8_laySigns_69 rfl rfl rfl ?_
  refine ev_icmp_gt (tgt := 194) (pc' := 73) dX8_laySigns_70 rfl rfl (fun _ => ?_) (fun h => absurd (by decide) h)
  refine ev_vret dX8_laySigns_194 rfl ⟨Nat.le_refl _, Nat.le_refl _⟩ ?_
  exact k
def mA3 (ea eb ec : Int64) : Int32 := ((0 + (if (¬ (-(mSg ea)) = 0) ∧ (¬ (-(mSg ea)) = 1) then (1 : Int32) else 0)) + (if (¬ (mSg eb) = 0) ∧ (¬ (mSg eb) = (if (-(mSg ea)) = 0 then 1 else (-(mSg ea)))) then (1 : Int32) else 0)) + (if (¬ (-(mSg ec)) = 0) ∧ (¬ (-(mSg ec)) = (if (mSg eb) = 0 then (if (-(mSg ea)) = 0 then 1 else (-(mSg ea))) else (mSg eb))) then (1 : Int32) else 0)
def mB3 (ea eb ec : Int64) : Int32 := ((0 + (if (¬ (-(-(mSg ea))) = 0) ∧ (¬ (-(-(mSg ea))) = 1) then (1 : Int32) else 0)) + (if (¬ (mSg eb) = 0) ∧ (¬ (mSg eb) = (if (-(-(mSg ea))) = 0 then 1 else (-(-(mSg ea))))) then (1 : Int32) else 0)) + (if (¬ (-(-(mSg ec))) = 0) ∧ (¬ (-(-(mSg ec))) = (if (mSg eb) = 0 then (if (-(-(mSg ea))) = 0 then 1 else (-(-(mSg ea)))) else (mSg eb))) then (1 : Int32) else 0)
set_option maxRecDepth 4000 in
theorem t_X8_laySigns3 {g : ma_G} {Post : ma_P} {I : ma_I} {L : ma_L} (ea : Int64) (eb : Int64) (ec : Int64) (ed : Int64)  (k : Post none HS (ma_up (ma_up I 121 (ma_up (ma_up (ma_up (ma_up (ma_up (I 121) 0 1) 1 (-(mSg ea))) 2 (mSg eb)) 3 (-(mSg ec))) 4 (mSg ed))) 115 (ma_up (ma_up (I 115) 9 (mA3 ea eb ec)) 10 (mB3 ea eb ec))) L RF 146) : CT g yX8_laySigns cX8_laySigns 15 none rX8_laySigns [.ref 115, .int 3, .long ea, .long eb, .long ec, .long ed] Post HS I L RF 146 := by
  refine ct_of (lv := [some (.ref 115), some (.int 3), some (.long ea), none, some (.long eb), none, some (.long ec), none, some (.long ed), none, none, none, none, none, none]) (by decide) (Nat.le_of_ble_eq_true rfl) rfl ?_
  refine ev_aload_n (pc' := 1) (i := 0) dX8_laySigns_0 rfl rfl rfl ?_
  refine ev_getR (pc' := 4) fo_X8_30 dX8_laySigns_1 rfl hs_115 rfl rf_115_11 ?_
  refine ev_astore (pc' := 6) (lv' := [some (.ref 115), some (.int 3), some (.long ea), none, some (.long eb), none, some (.long ec), none, some (.long ed), none, some (.ref 121), none, none, none, none]) dX8_laySigns_4 rfl (Nat.le_of_ble_eq_true rfl) rfl rfl ?_
  refine ev_aload (pc' := 8) dX8_laySigns_6 rfl rfl ?_
  refine ev_iconst (pc' := 9) (v := 0) dX8_laySigns_8 rfl ki_0 ?_
  refine ev_iconst (pc' := 10) (v := 1) dX8_laySigns_9 rfl ki_1 ?_
  refine ev_iast (pc' := 11) (j := 0) (I' := (ma_up I 121 (ma_up (I 121) 0 1))) dX8_laySigns_10 rfl hs_121 rfl (Nat.le_of_ble_eq_true rfl) (Nat.le_of_ble_eq_true rfl) rfl ?_
  refine ev_aload (pc' := 13) dX8_laySigns_11 rfl rfl ?_
  refine ev_iconst (pc' := 14) (v := 1) dX8_laySigns_13 rfl ki_1 ?_
  refine ev_lload_n (pc' := 15) (i := 2) dX8_laySigns_14 rfl rfl rfl ?_
  refine ev_callS (pc' := 18) (rm' := rX8_sign) (av := [.long ea]) (rest := [.int 1, .ref 121]) co_X8_156 cs_X8_sign dX8_laySigns_15 rfl rfl rfl (Nat.le_of_ble_eq_true rfl) ⟨(Nat.le_of_ble_eq_true rfl), (Nat.le_of_ble_eq_true rfl)⟩ ⟨(Nat.le_of_ble_eq_true rfl), (Nat.le_of_ble_eq_true rfl)⟩ ?_
  refine t_X8_sign ea  ?_
  refine ev_ineg (pc' := 19) (v := -(mSg ea)) dX8_laySigns_18 rfl rfl ?_
  refine ev_iast (pc' := 20) (j := 1) (I' := (ma_up I 121 (ma_up (ma_up (I 121) 0 1) 1 (-(mSg ea))))) dX8_laySigns_19 rfl hs_121 rfl (Nat.le_of_ble_eq_true rfl) (Nat.le_of_ble_eq_true rfl) (ma_up_up _ _ _ _) ?_
  refine ev_aload (pc' := 22) dX8_laySigns_20 rfl rfl ?_
  refine ev_iconst (pc' := 23) (v := 2) dX8_laySigns_22 rfl ki_2 ?_
  refine ev_lload (pc' := 25) dX8_laySigns_23 rfl rfl ?_
  refine ev_callS (pc' := 28) (rm' := rX8_sign) (av := [.long eb]) (rest := [.int 2, .ref 121]) co_X8_156 cs_X8_sign dX8_laySigns_25 rfl rfl rfl (Nat.le_of_ble_eq_true rfl) ⟨(Nat.le_of_ble_eq_true rfl), (Nat.le_of_ble_eq_true rfl)⟩ ⟨(Nat.le_of_ble_eq_true rfl), (Nat.le_of_ble_eq_true rfl)⟩ ?_
  refine t_X8_sign eb  ?_
  refine ev_iast (pc' := 29) (j := 2) (I' := (ma_up I 121 (ma_up (ma_up (ma_up (I 121) 0 1) 1 (-(mSg ea))) 2 (mSg eb)))) dX8_laySigns_28 rfl hs_121 rfl (Nat.le_of_ble_eq_true rfl) (Nat.le_of_ble_eq_true rfl) (ma_up_up _ _ _ _) ?_
  refine ev_aload (pc' := 31) dX8_laySigns_29 rfl rfl ?_
  refine ev_iconst (pc' := 32) (v := 3) dX8_laySigns_31 rfl ki_3 ?_
  refine ev_lload (pc' := 34) dX8_laySigns_32 rfl rfl ?_
  refine ev_callS (pc' := 37) (rm' := rX8_sign) (av := [.long ec]) (rest := [.int 3, .ref 121]) co_X8_156 cs_X8_sign dX8_laySigns_34 rfl rfl rfl (Nat.le_of_ble_eq_true rfl) ⟨(Nat.le_of_ble_eq_true rfl), (Nat.le_of_ble_eq_true rfl)⟩ ⟨(Nat.le_of_ble_eq_true rfl), (Nat.le_of_ble_eq_true rfl)⟩ ?_
  refine t_X8_sign ec  ?_
  refine ev_ineg (pc' := 38) (v := -(mSg ec)) dX8_laySigns_37 rfl rfl ?_
  refine ev_iast (pc' := 39) (j := 3) (I' := (ma_up I 121 (ma_up (ma_up (ma_up (ma_up (I 121) 0 1) 1 (-(mSg ea))) 2 (mSg eb)) 3 (-(mSg ec))))) dX8_laySigns_38 rfl hs_121 rfl (Nat.le_of_ble_eq_true rfl) (Nat.le_of_ble_eq_true rfl) (ma_up_up _ _ _ _) ?_
  refine ev_aload (pc' := 41) dX8_laySigns_39 rfl rfl ?_
  refine ev_iconst (pc' := 42) (v := 4) dX8_laySigns_41 rfl ki_4 ?_
  refine ev_lload (pc' := 44) dX8_laySigns_42 rfl rfl ?_
  refine ev_callS (pc' := 47) (rm' := rX8_sign) (av := [.long ed]) (rest := [.int 4, .ref 121]) co_X8_156 cs_X8_sign dX8_laySigns_44 rfl rfl rfl (Nat.le_of_ble_eq_true rfl) ⟨(Nat.le_of_ble_eq_true rfl), (Nat.le_of_ble_eq_true rfl)⟩ ⟨(Nat.le_of_ble_eq_true rfl), (Nat.le_of_ble_eq_true rfl)⟩ ?_
  refine t_X8_sign ed  ?_
  refine ev_iast (pc' := 48) (j := 4) (I' := (ma_up I 121 (ma_up (ma_up (ma_up (ma_up (ma_up (I 121) 0 1) 1 (-(mSg ea))) 2 (mSg eb)) 3 (-(mSg ec))) 4 (mSg ed)))) dX8_laySigns_47 rfl hs_121 rfl (Nat.le_of_ble_eq_true rfl) (Nat.le_of_ble_eq_true rfl) (ma_up_up _ _ _ _) ?_
  refine ev_aload_n (pc' := 49) (i := 0) dX8_laySigns_48 rfl rfl rfl ?_
  refine ev_iconst (pc' := 50) (v := 0) dX8_laySigns_49 rfl ki_0 ?_
  refine ev_putI (pc' := 53) (I' := (ma_up (ma_up I 121 (ma_up (ma_up (ma_up (ma_up (ma_up (I 121) 0 1) 1 (-(mSg ea))) 2 (mSg eb)) 3 (-(mSg ec))) 4 (mSg ed))) 115 (ma_up (I 115) 9 0))) fo_X8_160 dX8_laySigns_50 rfl hs_115 rfl (fun r hr => by cases hr; rfl) ⟨rfl, rfl⟩ rfl ?_
  refine ev_aload_n (pc' := 54) (i := 0) dX8_laySigns_53 rfl rfl rfl ?_
  refine ev_iconst (pc' := 55) (v := 0) dX8_laySigns_54 rfl ki_0 ?_
  refine ev_putI (pc' := 58) (I' := (ma_up (ma_up I 121 (ma_up (ma_up (ma_up (ma_up (ma_up (I 121) 0 1) 1 (-(mSg ea))) 2 (mSg eb)) 3 (-(mSg ec))) 4 (mSg ed))) 115 (ma_up (ma_up (I 115) 9 0) 10 0))) fo_X8_163 dX8_laySigns_55 rfl hs_115 rfl (fun r hr => by cases hr; rfl) ⟨rfl, rfl⟩ (ma_up_up _ _ _ _) ?_
  refine ev_iconst (pc' := 59) (v := 1) dX8_laySigns_58 rfl ki_1 ?_
  refine ev_istore (pc' := 61) (lv' := [some (.ref 115), some (.int 3), some (.long ea), none, some (.long eb), none, some (.long ec), none, some (.long ed), none, some (.ref 121), some (.int 1), none, none, none]) dX8_laySigns_59 rfl (Nat.le_of_ble_eq_true rfl) rfl rfl ?_
  refine ev_iconst (pc' := 62) (v := 1) dX8_laySigns_61 rfl ki_1 ?_
  refine ev_istore (pc' := 64) (lv' := [some (.ref 115), some (.int 3), some (.long ea), none, some (.long eb), none, some (.long ec), none, some (.long ed), none, some (.ref 121), some (.int 1), some (.int 1), none, none]) dX8_laySigns_62 rfl (Nat.le_of_ble_eq_true rfl) rfl rfl ?_
  refine ev_iconst (pc' := 65) (v := 1) dX8_laySigns_64 rfl ki_1 ?_
  refine ev_istore (pc' := 67) (lv' := [some (.ref 115), some (.int 3), some (.long ea), none, some (.long eb), none, some (.long ec), none, some (.long ed), none, some (.ref 121), some (.int 1), some (.int 1), some (.int 1), none]) dX8_laySigns_65 rfl (Nat.le_of_ble_eq_true rfl) rfl rfl ?_
  refine ev_iload (pc' := 69) dX8_laySigns_67 rfl rfl ?_
  refine ev_iload_n (pc' := 70) (i := 1) dX8_laySigns_69 rfl rfl rfl ?_
  refine ev_icmp_gt (tgt := 194) (pc' := 73) dX8_laySigns_70 rfl rfl (fun h => absurd h (by decide)) (fun _ => ?_)
  refine ev_iload (pc' := 75) dX8_laySigns_73 rfl rfl ?_
  refine ev_iconst (pc' := 76) (v := 2) dX8_laySigns_75 rfl ki_2 ?_
  refine ev_irem (pc' := 77) (v := 1) dX8_laySigns_76 rfl (by decide) (by decide) ?_
  refine ev_if_ne (tgt := 88) (pc' := 80) dX8_laySigns_77 rfl rfl (fun _ => ?_) (fun h => absurd h (by decide))
  refine ev_aload (pc' := 90) dX8_laySigns_88 rfl rfl ?_
  refine ev_iload (pc' := 92) dX8_laySigns_90 rfl rfl ?_
  refine ev_iald (pc' := 93) (j := 1) (v := -(mSg ea)) dX8_laySigns_92 rfl hs_121 rfl (Nat.le_of_ble_eq_true rfl) (Nat.le_of_ble_eq_true rfl) rfl ?_
  refine ev_ineg (pc' := 94) (v := -(-(mSg ea))) dX8_laySigns_93 rfl rfl ?_
  refine ev_istore (pc' := 96) (lv' := [some (.ref 115), some (.int 3), some (.long ea), none, some (.long eb), none, some (.long ec), none, some (.long ed), none, some (.ref 121), some (.int 1), some (.int 1), some (.int 1), some (.int (-(-(mSg ea))))]) dX8_laySigns_94 rfl (Nat.le_of_ble_eq_true rfl) rfl rfl ?_
  refine ev_aload_n (pc' := 97) (i := 0) dX8_laySigns_96 rfl rfl rfl ?_
  refine ev_dup (pc' := 98) dX8_laySigns_97 rfl rfl ?_
  refine ev_getI (pc' := 101) (v := 0) fo_X8_160 dX8_laySigns_98 rfl hs_115 rfl rfl ?_
  refine ev_aload (pc' := 103) dX8_laySigns_101 rfl rfl ?_
  refine ev_iload (pc' := 105) dX8_laySigns_103 rfl rfl ?_
  refine ev_iald (pc' := 106) (j := 1) (v := -(mSg ea)) dX8_laySigns_105 rfl hs_121 rfl (Nat.le_of_ble_eq_true rfl) (Nat.le_of_ble_eq_true rfl) rfl ?_
  suffices K3 : ∀ x2 : Int32, x2 = (if (¬ (-(mSg ea)) = 0) ∧ (¬ (-(mSg ea)) = 1) then (1 : Int32) else 0) → EV g yX8_laySigns cX8_laySigns 15 none rX8_laySigns (ma_ZM g rX8_laySigns Post) 124 [some (.ref 115), some (.int 3), some (.long ea), none, some (.long eb), none, some (.long ec), none, some (.long ed), none, some (.ref 121), some (.int 1), some (.int 1), some (.int 1), some (.int (-(-(mSg ea))))] [.int x2, .int 0, .ref 115] HS (ma_up (ma_up I 121 (ma_up (ma_up (ma_up (ma_up (ma_up (I 121) 0 1) 1 (-(mSg ea))) 2 (mSg eb)) 3 (-(mSg ec))) 4 (mSg ed))) 115 (ma_up (ma_up (I 115) 9 0) 10 0)) L RF 146 0 0 by
    refine ev_if_eq (tgt := 123) (pc' := 109) dX8_laySigns_106 rfl rfl (fun c4 => ?_) (fun c4 => ?_)
    · refine ev_iconst (pc' := 124) (v := 0) dX8_laySigns_123 rfl ki_0 ?_
      exact K3 _ (if_neg (fun h => (not_not_intro c4) h.1)).symm
    · refine ev_aload (pc' := 111) dX8_laySigns_109 rfl rfl ?_
      refine ev_iload (pc' := 113) dX8_laySigns_111 rfl rfl ?_
      refine ev_iald (pc' := 114) (j := 1) (v := -(mSg ea)) dX8_laySigns_113 rfl hs_121 rfl (Nat.le_of_ble_eq_true rfl) (Nat.le_of_ble_eq_true rfl) rfl ?_
      refine ev_iload (pc' := 116) dX8_laySigns_114 rfl rfl ?_
      refine ev_icmp_eq (tgt := 123) (pc' := 119) dX8_laySigns_116 rfl rfl (fun c5 => ?_) (fun c5 => ?_)
      · refine ev_iconst (pc' := 124) (v := 0) dX8_laySigns_123 rfl ki_0 ?_
        exact K3 _ (if_neg (fun h => (not_not_intro c5) h.2)).symm
      · refine ev_iconst (pc' := 120) (v := 1) dX8_laySigns_119 rfl ki_1 ?_
        refine ev_goto (tgt := 124) dX8_laySigns_120 rfl ?_
        exact K3 _ (if_pos (⟨c4, c5⟩)).symm
  intro x2 hx2
  subst hx2
  refine ev_iadd (pc' := 125) (v := 0 + (if (¬ (-(mSg ea)) = 0) ∧ (¬ (-(mSg ea)) = 1) then (1 : Int32) else 0)) dX8_laySigns_124 rfl rfl ?_
  refine ev_putI (pc' := 128) (I' := (ma_up (ma_up I 121 (ma_up (ma_up (ma_up (ma_up (ma_up (I 121) 0 1) 1 (-(mSg ea))) 2 (mSg eb)) 3 (-(mSg ec))) 4 (mSg ed))) 115 (ma_up (ma_up (I 115) 9 (0 + (if (¬ (-(mSg ea)) = 0) ∧ (¬ (-(mSg ea)) = 1) then (1 : Int32) else 0))) 10 0))) fo_X8_160 dX8_laySigns_125 rfl hs_115 rfl (fun r hr => by cases hr; rfl) ⟨rfl, rfl⟩ ((congrArg (ma_up _ 115) ((ma_up_comm _ (show 9 ≠ 10 from (by decide)) _ _).trans (congrArg (fun f => ma_up f 10 _) (ma_up_up _ _ _ _)))).trans (ma_up_up _ _ _ _)) ?_
  refine ev_aload (pc' := 130) dX8_laySigns_128 rfl rfl ?_
  refine ev_iload (pc' := 132) dX8_laySigns_130 rfl rfl ?_
  refine ev_iald (pc' := 133) (j := 1) (v := -(mSg ea)) dX8_laySigns_132 rfl hs_121 rfl (Nat.le_of_ble_eq_true rfl) (Nat.le_of_ble_eq_true rfl) rfl ?_
  suffices K8 : ∀ x7 : Int32, x7 = (if (-(mSg ea)) = 0 then 1 else (-(mSg ea))) → EV g yX8_laySigns cX8_laySigns 15 none rX8_laySigns (ma_ZM g rX8_laySigns Post) 146 [some (.ref 115), some (.int 3), some (.long ea), none, some (.long eb), none, some (.long ec), none, some (.long ed), none, some (.ref 121), some (.int 1), some (.int 1), some (.int 1), some (.int (-(-(mSg ea))))] [.int x7] HS (ma_up (ma_up I 121 (ma_up (ma_up (ma_up (ma_up (ma_up (I 121) 0 1) 1 (-(mSg ea))) 2 (mSg eb)) 3 (-(mSg ec))) 4 (mSg ed))) 115 (ma_up (ma_up (I 115) 9 (0 + (if (¬ (-(mSg ea)) = 0) ∧ (¬ (-(mSg ea)) = 1) then (1 : Int32) else 0))) 10 0)) L RF 146 0 0 by
    refine ev_if_eq (tgt := 144) (pc' := 136) dX8_laySigns_133 rfl rfl (fun c9 => ?_) (fun c9 => ?_)
    · refine ev_iload (pc' := 146) dX8_laySigns_144 rfl rfl ?_
      exact K8 _ (by rw [if_pos c9])
    · refine ev_aload (pc' := 138) dX8_laySigns_136 rfl rfl ?_
      refine ev_iload (pc' := 140) dX8_laySigns_138 rfl rfl ?_
      refine ev_iald (pc' := 141) (j := 1) (v := -(mSg ea)) dX8_laySigns_140 rfl hs_121 rfl (Nat.le_of_ble_eq_true rfl) (Nat.le_of_ble_eq_true rfl) rfl ?_
      refine ev_goto (tgt := 146) dX8_laySigns_141 rfl ?_
      exact K8 _ (by rw [if_neg c9])
  intro x7 hx7
  subst hx7
  refine ev_istore (pc' := 148) (lv' := [some (.ref 115), some (.int 3), some (.long ea), none, some (.long eb), none, some (.long ec), none, some (.long ed), none, some (.ref 121), some (.int (if (-(mSg ea)) = 0 then 1 else (-(mSg ea)))), some (.int 1), some (.int 1), some (.int (-(-(mSg ea))))]) dX8_laySigns_146 rfl (Nat.le_of_ble_eq_true rfl) rfl rfl ?_
  refine ev_aload_n (pc' := 149) (i := 0) dX8_laySigns_148 rfl rfl rfl ?_
  refine ev_dup (pc' := 150) dX8_laySigns_149 rfl rfl ?_
  refine ev_getI (pc' := 153) (v := 0) fo_X8_163 dX8_laySigns_150 rfl hs_115 rfl rfl ?_
  refine ev_iload (pc' := 155) dX8_laySigns_153 rfl rfl ?_
  suffices K12 : ∀ x11 : Int32, x11 = (if (¬ (-(-(mSg ea))) = 0) ∧ (¬ (-(-(mSg ea))) = 1) then (1 : Int32) else 0) → EV g yX8_laySigns cX8_laySigns 15 none rX8_laySigns (ma_ZM g rX8_laySigns Post) 170 [some (.ref 115), some (.int 3), some (.long ea), none, some (.long eb), none, some (.long ec), none, some (.long ed), none, some (.ref 121), some (.int (if (-(mSg ea)) = 0 then 1 else (-(mSg ea)))), some (.int 1), some (.int 1), some (.int (-(-(mSg ea))))] [.int x11, .int 0, .ref 115] HS (ma_up (ma_up I 121 (ma_up (ma_up (ma_up (ma_up (ma_up (I 121) 0 1) 1 (-(mSg ea))) 2 (mSg eb)) 3 (-(mSg ec))) 4 (mSg ed))) 115 (ma_up (ma_up (I 115) 9 (0 + (if (¬ (-(mSg ea)) = 0) ∧ (¬ (-(mSg ea)) = 1) then (1 : Int32) else 0))) 10 0)) L RF 146 0 0 by
    refine ev_if_eq (tgt := 169) (pc' := 158) dX8_laySigns_155 rfl rfl (fun c13 => ?_) (fun c13 => ?_)
    · refine ev_iconst (pc' := 170) (v := 0) dX8_laySigns_169 rfl ki_0 ?_
      exact K12 _ (if_neg (fun h => (not_not_intro c13) h.1)).symm
    · refine ev_iload (pc' := 160) dX8_laySigns_158 rfl rfl ?_
      refine ev_iload (pc' := 162) dX8_laySigns_160 rfl rfl ?_
      refine ev_icmp_eq (tgt := 169) (pc' := 165) dX8_laySigns_162 rfl rfl (fun c14 => ?_) (fun c14 => ?_)
      · refine ev_iconst (pc' := 170) (v := 0) dX8_laySigns_169 rfl ki_0 ?_
        exact K12 _ (if_neg (fun h => (not_not_intro c14) h.2)).symm
      · refine ev_iconst (pc' := 166) (v := 1) dX8_laySigns_165 rfl ki_1 ?_
        refine ev_goto (tgt := 170) dX8_laySigns_166 rfl ?_
        exact K12 _ (if_pos (⟨c13, c14⟩)).symm
  intro x11 hx11
  subst hx11
  refine ev_iadd (pc' := 171) (v := 0 + (if (¬ (-(-(mSg ea))) = 0) ∧ (¬ (-(-(mSg ea))) = 1) then (1 : Int32) else 0)) dX8_laySigns_170 rfl rfl ?_
  refine ev_putI (pc' := 174) (I' := (ma_up (ma_up I 121 (ma_up (ma_up (ma_up (ma_up (ma_up (I 121) 0 1) 1 (-(mSg ea))) 2 (mSg eb)) 3 (-(mSg ec))) 4 (mSg ed))) 115 (ma_up (ma_up (I 115) 9 (0 + (if (¬ (-(mSg ea)) = 0) ∧ (¬ (-(mSg ea)) = 1) then (1 : Int32) else 0))) 10 (0 + (if (¬ (-(-(mSg ea))) = 0) ∧ (¬ (-(-(mSg ea))) = 1) then (1 : Int32) else 0))))) fo_X8_163 dX8_laySigns_171 rfl hs_115 rfl (fun r hr => by cases hr; rfl) ⟨rfl, rfl⟩ ((congrArg (ma_up _ 115) (ma_up_up _ _ _ _)).trans (ma_up_up _ _ _ _)) ?_
  refine ev_iload (pc' := 176) dX8_laySigns_174 rfl rfl ?_
  suffices K17 : ∀ x16 : Int32, x16 = (if (-(-(mSg ea))) = 0 then 1 else (-(-(mSg ea)))) → EV g yX8_laySigns cX8_laySigns 15 none rX8_laySigns (ma_ZM g rX8_laySigns Post) 186 [some (.ref 115), some (.int 3), some (.long ea), none, some (.long eb), none, some (.long ec), none, some (.long ed), none, some (.ref 121), some (.int (if (-(mSg ea)) = 0 then 1 else (-(mSg ea)))), some (.int 1), some (.int 1), some (.int (-(-(mSg ea))))] [.int x16] HS (ma_up (ma_up I 121 (ma_up (ma_up (ma_up (ma_up (ma_up (I 121) 0 1) 1 (-(mSg ea))) 2 (mSg eb)) 3 (-(mSg ec))) 4 (mSg ed))) 115 (ma_up (ma_up (I 115) 9 (0 + (if (¬ (-(mSg ea)) = 0) ∧ (¬ (-(mSg ea)) = 1) then (1 : Int32) else 0))) 10 (0 + (if (¬ (-(-(mSg ea))) = 0) ∧ (¬ (-(-(mSg ea))) = 1) then (1 : Int32) else 0)))) L RF 146 0 0 by
    refine ev_if_eq (tgt := 184) (pc' := 179) dX8_laySigns_176 rfl rfl (fun c18 => ?_) (fun c18 => ?_)
    · refine ev_iload (pc' := 186) dX8_laySigns_184 rfl rfl ?_
      exact K17 _ (by rw [if_pos c18])
    · refine ev_iload (pc' := 181) dX8_laySigns_179 rfl rfl ?_
      refine ev_goto (tgt := 186) dX8_laySigns_181 rfl ?_
      exact K17 _ (by rw [if_neg c18])
  intro x16 hx16
  subst hx16
  refine ev_istore (pc' := 188) (lv' := [some (.ref 115), some (.int 3), some (.long ea), none, some (.long eb), none, some (.long ec), none, some (.long ed), none, some (.ref 121), some (.int (if (-(mSg ea)) = 0 then 1 else (-(mSg ea)))), some (.int (if (-(-(mSg ea))) = 0 then 1 else (-(-(mSg ea))))), some (.int 1), some (.int (-(-(mSg ea))))]) dX8_laySigns_186 rfl (Nat.le_of_ble_eq_true rfl) rfl rfl ?_
  refine ev_iinc (pc' := 191) (v := 2) (lv' := [some (.ref 115), some (.int 3), some (.long ea), none, some (.long eb), none, some (.long ec), none, some (.long ed), none, some (.ref 121), some (.int (if (-(mSg ea)) = 0 then 1 else (-(mSg ea)))), some (.int (if (-(-(mSg ea))) = 0 then 1 else (-(-(mSg ea))))), some (.int 2), some (.int (-(-(mSg ea))))]) dX8_laySigns_188 rfl rfl (by decide) (Nat.le_of_ble_eq_true rfl) rfl rfl ?_
  refine ev_goto (tgt := 67) dX8_laySigns_191 rfl ?_
  refine ev_iload (pc' := 69) dX8_laySigns_67 rfl rfl ?_
  refine ev_iload_n (pc' := 70) (i := 1) dX8_laySigns_69 rfl rfl rfl ?_
  refine ev_icmp_gt (tgt := 194) (pc' := 73) dX8_laySigns_70 rfl rfl (fun h => absurd h (by decide)) (fun _ => ?_)
  refine ev_iload (pc' := 75) dX8_laySigns_73 rfl rfl ?_
  refine ev_iconst (pc' := 76) (v := 2) dX8_laySigns_75 rfl ki_2 ?_
  refine ev_irem (pc' := 77) (v := 0) dX8_laySigns_76 rfl (by decide) (by decide) ?_
  refine ev_if_ne (tgt := 88) (pc' := 80) dX8_laySigns_77 rfl rfl (fun h => absurd (by decide) h) (fun _ => ?_)
  refine ev_aload (pc' := 82) dX8_laySigns_80 rfl rfl ?_
  refine ev_iload (pc' := 84) dX8_laySigns_82 rfl rfl ?_
  refine ev_iald (pc' := 85) (j := 2) (v := mSg eb) dX8_laySigns_84 rfl hs_121 rfl (Nat.le_of_ble_eq_true rfl) (Nat.le_of_ble_eq_true rfl) rfl ?_
  refine ev_goto (tgt := 94) dX8_laySigns_85 rfl ?_
  refine ev_istore (pc' := 96) (lv' := [some (.ref 115), some (.int 3), some (.long ea), none, some (.long eb), none, some (.long ec), none, some (.long ed), none, some (.ref 121), some (.int (if (-(mSg ea)) = 0 then 1 else (-(mSg ea)))), some (.int (if (-(-(mSg ea))) = 0 then 1 else (-(-(mSg ea))))), some (.int 2), some (.int (mSg eb))]) dX8_laySigns_94 rfl (Nat.le_of_ble_eq_true rfl) rfl rfl ?_
  refine ev_aload_n (pc' := 97) (i := 0) dX8_laySigns_96 rfl rfl rfl ?_
  refine ev_dup (pc' := 98) dX8_laySigns_97 rfl rfl ?_
  refine ev_getI (pc' := 101) (v := 0 + (if (¬ (-(mSg ea)) = 0) ∧ (¬ (-(mSg ea)) = 1) then (1 : Int32) else 0)) fo_X8_160 dX8_laySigns_98 rfl hs_115 rfl rfl ?_
  refine ev_aload (pc' := 103) dX8_laySigns_101 rfl rfl ?_
  refine ev_iload (pc' := 105) dX8_laySigns_103 rfl rfl ?_
  refine ev_iald (pc' := 106) (j := 2) (v := mSg eb) dX8_laySigns_105 rfl hs_121 rfl (Nat.le_of_ble_eq_true rfl) (Nat.le_of_ble_eq_true rfl) rfl ?_
  suffices K21 : ∀ x20 : Int32, x20 = (if (¬ (mSg eb) = 0) ∧ (¬ (mSg eb) = (if (-(mSg ea)) = 0 then 1 else (-(mSg ea)))) then (1 : Int32) else 0) → EV g yX8_laySigns cX8_laySigns 15 none rX8_laySigns (ma_ZM g rX8_laySigns Post) 124 [some (.ref 115), some (.int 3), some (.long ea), none, some (.long eb), none, some (.long ec), none, some (.long ed), none, some (.ref 121), some (.int (if (-(mSg ea)) = 0 then 1 else (-(mSg ea)))), some (.int (if (-(-(mSg ea))) = 0 then 1 else (-(-(mSg ea))))), some (.int 2), some (.int (mSg eb))] [.int x20, .int (0 + (if (¬ (-(mSg ea)) = 0) ∧ (¬ (-(mSg ea)) = 1) then (1 : Int32) else 0)), .ref 115] HS (ma_up (ma_up I 121 (ma_up (ma_up (ma_up (ma_up (ma_up (I 121) 0 1) 1 (-(mSg ea))) 2 (mSg eb)) 3 (-(mSg ec))) 4 (mSg ed))) 115 (ma_up (ma_up (I 115) 9 (0 + (if (¬ (-(mSg ea)) = 0) ∧ (¬ (-(mSg ea)) = 1) then (1 : Int32) else 0))) 10 (0 + (if (¬ (-(-(mSg ea))) = 0) ∧ (¬ (-(-(mSg ea))) = 1) then (1 : Int32) else 0)))) L RF 146 0 0 by
    refine ev_if_eq (tgt := 123) (pc' := 109) dX8_laySigns_106 rfl rfl (fun c22 => ?_) (fun c22 => ?_)
    · refine ev_iconst (pc' := 124) (v := 0) dX8_laySigns_123 rfl ki_0 ?_
      exact K21 _ (if_neg (fun h => (not_not_intro c22) h.1)).symm
    · refine ev_aload (pc' := 111) dX8_laySigns_109 rfl rfl ?_
      refine ev_iload (pc' := 113) dX8_laySigns_111 rfl rfl ?_
      refine ev_iald (pc' := 114) (j := 2) (v := mSg eb) dX8_laySigns_113 rfl hs_121 rfl (Nat.le_of_ble_eq_true rfl) (Nat.le_of_ble_eq_true rfl) rfl ?_
      refine ev_iload (pc' := 116) dX8_laySigns_114 rfl rfl ?_
      refine ev_icmp_eq (tgt := 123) (pc' := 119) dX8_laySigns_116 rfl rfl (fun c23 => ?_) (fun c23 => ?_)
      · refine ev_iconst (pc' := 124) (v := 0) dX8_laySigns_123 rfl ki_0 ?_
        exact K21 _ (if_neg (fun h => (not_not_intro c23) h.2)).symm
      · refine ev_iconst (pc' := 120) (v := 1) dX8_laySigns_119 rfl ki_1 ?_
        refine ev_goto (tgt := 124) dX8_laySigns_120 rfl ?_
        exact K21 _ (if_pos (⟨c22, c23⟩)).symm
  intro x20 hx20
  subst hx20
  refine ev_iadd (pc' := 125) (v := (0 + (if (¬ (-(mSg ea)) = 0) ∧ (¬ (-(mSg ea)) = 1) then (1 : Int32) else 0)) + (if (¬ (mSg eb) = 0) ∧ (¬ (mSg eb) = (if (-(mSg ea)) = 0 then 1 else (-(mSg ea)))) then (1 : Int32) else 0)) dX8_laySigns_124 rfl rfl ?_
  refine ev_putI (pc' := 128) (I' := (ma_up (ma_up I 121 (ma_up (ma_up (ma_up (ma_up (ma_up (I 121) 0 1) 1 (-(mSg ea))) 2 (mSg eb)) 3 (-(mSg ec))) 4 (mSg ed))) 115 (ma_up (ma_up (I 115) 9 ((0 + (if (¬ (-(mSg ea)) = 0) ∧ (¬ (-(mSg ea)) = 1) then (1 : Int32) else 0)) + (if (¬ (mSg eb) = 0) ∧ (¬ (mSg eb) = (if (-(mSg ea)) = 0 then 1 else (-(mSg ea)))) then (1 : Int32) else 0))) 10 (0 + (if (¬ (-(-(mSg ea))) = 0) ∧ (¬ (-(-(mSg ea))) = 1) then (1 : Int32) else 0))))) fo_X8_160 dX8_laySigns_125 rfl hs_115 rfl (fun r hr => by cases hr; rfl) ⟨rfl, rfl⟩ ((congrArg (ma_up _ 115) ((ma_up_comm _ (show 9 ≠ 10 from (by decide)) _ _).trans (congrArg (fun f => ma_up f 10 _) (ma_up_up _ _ _ _)))).trans (ma_up_up _ _ _ _)) ?_
  refine ev_aload (pc' := 130) dX8_laySigns_128 rfl rfl ?_
  refine ev_iload (pc' := 132) dX8_laySigns_130 rfl rfl ?_
  refine ev_iald (pc' := 133) (j := 2) (v := mSg eb) dX8_laySigns_132 rfl hs_121 rfl (Nat.le_of_ble_eq_true rfl) (Nat.le_of_ble_eq_true rfl) rfl ?_
  suffices K26 : ∀ x25 : Int32, x25 = (if (mSg eb) = 0 then (if (-(mSg ea)) = 0 then 1 else (-(mSg ea))) else (mSg eb)) → EV g yX8_laySigns cX8_laySigns 15 none rX8_laySigns (ma_ZM g rX8_laySigns Post) 146 [some (.ref 115), some (.int 3), some (.long ea), none, some (.long eb), none, some (.long ec), none, some (.long ed), none, some (.ref 121), some (.int (if (-(mSg ea)) = 0 then 1 else (-(mSg ea)))), some (.int (if (-(-(mSg ea))) = 0 then 1 else (-(-(mSg ea))))), some (.int 2), some (.int (mSg eb))] [.int x25] HS (ma_up (ma_up I 121 (ma_up (ma_up (ma_up (ma_up (ma_up (I 121) 0 1) 1 (-(mSg ea))) 2 (mSg eb)) 3 (-(mSg ec))) 4 (mSg ed))) 115 (ma_up (ma_up (I 115) 9 ((0 + (if (¬ (-(mSg ea)) = 0) ∧ (¬ (-(mSg ea)) = 1) then (1 : Int32) else 0)) + (if (¬ (mSg eb) = 0) ∧ (¬ (mSg eb) = (if (-(mSg ea)) = 0 then 1 else (-(mSg ea)))) then (1 : Int32) else 0))) 10 (0 + (if (¬ (-(-(mSg ea))) = 0) ∧ (¬ (-(-(mSg ea))) = 1) then (1 : Int32) else 0)))) L RF 146 0 0 by
    refine ev_if_eq (tgt := 144) (pc' := 136) dX8_laySigns_133 rfl rfl (fun c27 => ?_) (fun c27 => ?_)
    · refine ev_iload (pc' := 146) dX8_laySigns_144 rfl rfl ?_
      exact K26 _ (by rw [if_pos c27])
    · refine ev_aload (pc' := 138) dX8_laySigns_136 rfl rfl ?_
      refine ev_iload (pc' := 140) dX8_laySigns_138 rfl rfl ?_
      refine ev_iald (pc' := 141) (j := 2) (v := mSg eb) dX8_laySigns_140 rfl hs_121 rfl (Nat.le_of_ble_eq_true rfl) (Nat.le_of_ble_eq_true rfl) rfl ?_
      refine ev_goto (tgt := 146) dX8_laySigns_141 rfl ?_
      exact K26 _ (by rw [if_neg c27])
  intro x25 hx25
  subst hx25
  refine ev_istore (pc' := 148) (lv' := [some (.ref 115), some (.int 3), some (.long ea), none, some (.long eb), none, some (.long ec), none, some (.long ed), none, some (.ref 121), some (.int (if (mSg eb) = 0 then (if (-(mSg ea)) = 0 then 1 else (-(mSg ea))) else (mSg eb))), some (.int (if (-(-(mSg ea))) = 0 then 1 else (-(-(mSg ea))))), some (.int 2), some (.int (mSg eb))]) dX8_laySigns_146 rfl (Nat.le_of_ble_eq_true rfl) rfl rfl ?_
  refine ev_aload_n (pc' := 149) (i := 0) dX8_laySigns_148 rfl rfl rfl ?_
  refine ev_dup (pc' := 150) dX8_laySigns_149 rfl rfl ?_
  refine ev_getI (pc' := 153) (v := 0 + (if (¬ (-(-(mSg ea))) = 0) ∧ (¬ (-(-(mSg ea))) = 1) then (1 : Int32) else 0)) fo_X8_163 dX8_laySigns_150 rfl hs_115 rfl rfl ?_
  refine ev_iload (pc' := 155) dX8_laySigns_153 rfl rfl ?_
  suffices K30 : ∀ x29 : Int32, x29 = (if (¬ (mSg eb) = 0) ∧ (¬ (mSg eb) = (if (-(-(mSg ea))) = 0 then 1 else (-(-(mSg ea))))) then (1 : Int32) else 0) → EV g yX8_laySigns cX8_laySigns 15 none rX8_laySigns (ma_ZM g rX8_laySigns Post) 170 [some (.ref 115), some (.int 3), some (.long ea), none, some (.long eb), none, some (.long ec), none, some (.long ed), none, some (.ref 121), some (.int (if (mSg eb) = 0 then (if (-(mSg ea)) = 0 then 1 else (-(mSg ea))) else (mSg eb))), some (.int (if (-(-(mSg ea))) = 0 then 1 else (-(-(mSg ea))))), some (.int 2), some (.int (mSg eb))] [.int x29, .int (0 + (if (¬ (-(-(mSg ea))) = 0) ∧ (¬ (-(-(mSg ea))) = 1) then (1 : Int32) else 0)), .ref 115] HS (ma_up (ma_up I 121 (ma_up (ma_up (ma_up (ma_up (ma_up (I 121) 0 1) 1 (-(mSg ea))) 2 (mSg eb)) 3 (-(mSg ec))) 4 (mSg ed))) 115 (ma_up (ma_up (I 115) 9 ((0 + (if (¬ (-(mSg ea)) = 0) ∧ (¬ (-(mSg ea)) = 1) then (1 : Int32) else 0)) + (if (¬ (mSg eb) = 0) ∧ (¬ (mSg eb) = (if (-(mSg ea)) = 0 then 1 else (-(mSg ea)))) then (1 : Int32) else 0))) 10 (0 + (if (¬ (-(-(mSg ea))) = 0) ∧ (¬ (-(-(mSg ea))) = 1) then (1 : Int32) else 0)))) L RF 146 0 0 by
    refine ev_if_eq (tgt := 169) (pc' := 158) dX8_laySigns_155 rfl rfl (fun c31 => ?_) (fun c31 => ?_)
    · refine ev_iconst (pc' := 170) (v := 0) dX8_laySigns_169 rfl ki_0 ?_
      exact K30 _ (if_neg (fun h => (not_not_intro c31) h.1)).symm
    · refine ev_iload (pc' := 160) dX8_laySigns_158 rfl rfl ?_
      refine ev_iload (pc' := 162) dX8_laySigns_160 rfl rfl ?_
      refine ev_icmp_eq (tgt := 169) (pc' := 165) dX8_laySigns_162 rfl rfl (fun c32 => ?_) (fun c32 => ?_)
      · refine ev_iconst (pc' := 170) (v := 0) dX8_laySigns_169 rfl ki_0 ?_
        exact K30 _ (if_neg (fun h => (not_not_intro c32) h.2)).symm
      · refine ev_iconst (pc' := 166) (v := 1) dX8_laySigns_165 rfl ki_1 ?_
        refine ev_goto (tgt := 170) dX8_laySigns_166 rfl ?_
        exact K30 _ (if_pos (⟨c31, c32⟩)).symm
  intro x29 hx29
  subst hx29
  refine ev_iadd (pc' := 171) (v := (0 + (if (¬ (-(-(mSg ea))) = 0) ∧ (¬ (-(-(mSg ea))) = 1) then (1 : Int32) else 0)) + (if (¬ (mSg eb) = 0) ∧ (¬ (mSg eb) = (if (-(-(mSg ea))) = 0 then 1 else (-(-(mSg ea))))) then (1 : Int32) else 0)) dX8_laySigns_170 rfl rfl ?_
  refine ev_putI (pc' := 174) (I' := (ma_up (ma_up I 121 (ma_up (ma_up (ma_up (ma_up (ma_up (I 121) 0 1) 1 (-(mSg ea))) 2 (mSg eb)) 3 (-(mSg ec))) 4 (mSg ed))) 115 (ma_up (ma_up (I 115) 9 ((0 + (if (¬ (-(mSg ea)) = 0) ∧ (¬ (-(mSg ea)) = 1) then (1 : Int32) else 0)) + (if (¬ (mSg eb) = 0) ∧ (¬ (mSg eb) = (if (-(mSg ea)) = 0 then 1 else (-(mSg ea)))) then (1 : Int32) else 0))) 10 ((0 + (if (¬ (-(-(mSg ea))) = 0) ∧ (¬ (-(-(mSg ea))) = 1) then (1 : Int32) else 0)) + (if (¬ (mSg eb) = 0) ∧ (¬ (mSg eb) = (if (-(-(mSg ea))) = 0 then 1 else (-(-(mSg ea))))) then (1 : Int32) else 0))))) fo_X8_163 dX8_laySigns_171 rfl hs_115 rfl (fun r hr => by cases hr; rfl) ⟨rfl, rfl⟩ ((congrArg (ma_up _ 115) (ma_up_up _ _ _ _)).trans (ma_up_up _ _ _ _)) ?_
  refine ev_iload (pc' := 176) dX8_laySigns_174 rfl rfl ?_
  suffices K35 : ∀ x34 : Int32, x34 = (if (mSg eb) = 0 then (if (-(-(mSg ea))) = 0 then 1 else (-(-(mSg ea)))) else (mSg eb)) → EV g yX8_laySigns cX8_laySigns 15 none rX8_laySigns (ma_ZM g rX8_laySigns Post) 186 [some (.ref 115), some (.int 3), some (.long ea), none, some (.long eb), none, some (.long ec), none, some (.long ed), none, some (.ref 121), some (.int (if (mSg eb) = 0 then (if (-(mSg ea)) = 0 then 1 else (-(mSg ea))) else (mSg eb))), some (.int (if (-(-(mSg ea))) = 0 then 1 else (-(-(mSg ea))))), some (.int 2), some (.int (mSg eb))] [.int x34] HS (ma_up (ma_up I 121 (ma_up (ma_up (ma_up (ma_up (ma_up (I 121) 0 1) 1 (-(mSg ea))) 2 (mSg eb)) 3 (-(mSg ec))) 4 (mSg ed))) 115 (ma_up (ma_up (I 115) 9 ((0 + (if (¬ (-(mSg ea)) = 0) ∧ (¬ (-(mSg ea)) = 1) then (1 : Int32) else 0)) + (if (¬ (mSg eb) = 0) ∧ (¬ (mSg eb) = (if (-(mSg ea)) = 0 then 1 else (-(mSg ea)))) then (1 : Int32) else 0))) 10 ((0 + (if (¬ (-(-(mSg ea))) = 0) ∧ (¬ (-(-(mSg ea))) = 1) then (1 : Int32) else 0)) + (if (¬ (mSg eb) = 0) ∧ (¬ (mSg eb) = (if (-(-(mSg ea))) = 0 then 1 else (-(-(mSg ea))))) then (1 : Int32) else 0)))) L RF 146 0 0 by
    refine ev_if_eq (tgt := 184) (pc' := 179) dX8_laySigns_176 rfl rfl (fun c36 => ?_) (fun c36 => ?_)
    · refine ev_iload (pc' := 186) dX8_laySigns_184 rfl rfl ?_
      exact K35 _ (by rw [if_pos c36])
    · refine ev_iload (pc' := 181) dX8_laySigns_179 rfl rfl ?_
      refine ev_goto (tgt := 186) dX8_laySigns_181 rfl ?_
      exact K35 _ (by rw [if_neg c36])
  intro x34 hx34
  subst hx34
  refine ev_istore (pc' := 188) (lv' := [some (.ref 115), some (.int 3), some (.long ea), none, some (.long eb), none, some (.long ec), none, some (.long ed), none, some (.ref 121), some (.int (if (mSg eb) = 0 then (if (-(mSg ea)) = 0 then 1 else (-(mSg ea))) else (mSg eb))), some (.int (if (mSg eb) = 0 then (if (-(-(mSg ea))) = 0 then 1 else (-(-(mSg ea)))) else (mSg eb))), some (.int 2), some (.int (mSg eb))]) dX8_laySigns_186 rfl (Nat.le_of_ble_eq_true rfl) rfl rfl ?_
  refine ev_iinc (pc' := 191) (v := 3) (lv' := [some (.ref 115), some (.int 3), some (.long ea), none, some (.long eb), none, some (.long ec), none, some (.long ed), none, some (.ref 121), some (.int (if (mSg eb) = 0 then (if (-(mSg ea)) = 0 then 1 else (-(mSg ea))) else (mSg eb))), some (.int (if (mSg eb) = 0 then (if (-(-(mSg ea))) = 0 then 1 else (-(-(mSg ea)))) else (mSg eb))), some (.int 3), some (.int (mSg eb))]) dX8_laySigns_188 rfl rfl (by decide) (Nat.le_of_ble_eq_true rfl) rfl rfl ?_
  refine ev_goto (tgt := 67) dX8_laySigns_191 rfl ?_
  refine ev_iload (pc' := 69) dX8_laySigns_67 rfl rfl ?_
  refine ev_iload_n (pc' := 70) (i := 1) dX8_laySigns_69 rfl rfl rfl ?_
  refine ev_icmp_gt (tgt := 194) (pc' := 73) dX8_laySigns_70 rfl rfl (fun h => absurd h (by decide)) (fun _ => ?_)
  refine ev_iload (pc' := 75) dX8_laySigns_73 rfl rfl ?_
  refine ev_iconst (pc' := 76) (v := 2) dX8_laySigns_75 rfl ki_2 ?_
  refine ev_irem (pc' := 77) (v := 1) dX8_laySigns_76 rfl (by decide) (by decide) ?_
  refine ev_if_ne (tgt := 88) (pc' := 80) dX8_laySigns_77 rfl rfl (fun _ => ?_) (fun h => absurd h (by decide))
  refine ev_aload (pc' := 90) dX8_laySigns_88 rfl rfl ?_
  refine ev_iload (pc' := 92) dX8_laySigns_90 rfl rfl ?_
  refine ev_iald (pc' := 93) (j := 3) (v := -(mSg ec)) dX8_laySigns_92 rfl hs_121 rfl (Nat.le_of_ble_eq_true rfl) (Nat.le_of_ble_eq_true rfl) rfl ?_
  refine ev_ineg (pc' := 94) (v := -(-(mSg ec))) dX8_laySigns_93 rfl rfl ?_
  refine ev_istore (pc' := 96) (lv' := [some (.ref 115), some (.int 3), some (.long ea), none, some (.long eb), none, some (.long ec), none, some (.long ed), none, some (.ref 121), some (.int (if (mSg eb) = 0 then (if (-(mSg ea)) = 0 then 1 else (-(mSg ea))) else (mSg eb))), some (.int (if (mSg eb) = 0 then (if (-(-(mSg ea))) = 0 then 1 else (-(-(mSg ea)))) else (mSg eb))), some (.int 3), some (.int (-(-(mSg ec))))]) dX8_laySigns_94 rfl (Nat.le_of_ble_eq_true rfl) rfl rfl ?_
  refine ev_aload_n (pc' := 97) (i := 0) dX8_laySigns_96 rfl rfl rfl ?_
  refine ev_dup (pc' := 98) dX8_laySigns_97 rfl rfl ?_
  refine ev_getI (pc' := 101) (v := (0 + (if (¬ (-(mSg ea)) = 0) ∧ (¬ (-(mSg ea)) = 1) then (1 : Int32) else 0)) + (if (¬ (mSg eb) = 0) ∧ (¬ (mSg eb) = (if (-(mSg ea)) = 0 then 1 else (-(mSg ea)))) then (1 : Int32) else 0)) fo_X8_160 dX8_laySigns_98 rfl hs_115 rfl rfl ?_
  refine ev_aload (pc' := 103) dX8_laySigns_101 rfl rfl ?_
  refine ev_iload (pc' := 105) dX8_laySigns_103 rfl rfl ?_
  refine ev_iald (pc' := 106) (j := 3) (v := -(mSg ec)) dX8_laySigns_105 rfl hs_121 rfl (Nat.le_of_ble_eq_true rfl) (Nat.le_of_ble_eq_true rfl) rfl ?_
  suffices K39 : ∀ x38 : Int32, x38 = (if (¬ (-(mSg ec)) = 0) ∧ (¬ (-(mSg ec)) = (if (mSg eb) = 0 then (if (-(mSg ea)) = 0 then 1 else (-(mSg ea))) else (mSg eb))) then (1 : Int32) else 0) → EV g yX8_laySigns cX8_laySigns 15 none rX8_laySigns (ma_ZM g rX8_laySigns Post) 124 [some (.ref 115), some (.int 3), some (.long ea), none, some (.long eb), none, some (.long ec), none, some (.long ed), none, some (.ref 121), some (.int (if (mSg eb) = 0 then (if (-(mSg ea)) = 0 then 1 else (-(mSg ea))) else (mSg eb))), some (.int (if (mSg eb) = 0 then (if (-(-(mSg ea))) = 0 then 1 else (-(-(mSg ea)))) else (mSg eb))), some (.int 3), some (.int (-(-(mSg ec))))] [.int x38, .int ((0 + (if (¬ (-(mSg ea)) = 0) ∧ (¬ (-(mSg ea)) = 1) then (1 : Int32) else 0)) + (if (¬ (mSg eb) = 0) ∧ (¬ (mSg eb) = (if (-(mSg ea)) = 0 then 1 else (-(mSg ea)))) then (1 : Int32) else 0)), .ref 115] HS (ma_up (ma_up I 121 (ma_up (ma_up (ma_up (ma_up (ma_up (I 121) 0 1) 1 (-(mSg ea))) 2 (mSg eb)) 3 (-(mSg ec))) 4 (mSg ed))) 115 (ma_up (ma_up (I 115) 9 ((0 + (if (¬ (-(mSg ea)) = 0) ∧ (¬ (-(mSg ea)) = 1) then (1 : Int32) else 0)) + (if (¬ (mSg eb) = 0) ∧ (¬ (mSg eb) = (if (-(mSg ea)) = 0 then 1 else (-(mSg ea)))) then (1 : Int32) else 0))) 10 ((0 + (if (¬ (-(-(mSg ea))) = 0) ∧ (¬ (-(-(mSg ea))) = 1) then (1 : Int32) else 0)) + (if (¬ (mSg eb) = 0) ∧ (¬ (mSg eb) = (if (-(-(mSg ea))) = 0 then 1 else (-(-(mSg ea))))) then (1 : Int32) else 0)))) L RF 146 0 0 by
    refine ev_if_eq (tgt := 123) (pc' := 109) dX8_laySigns_106 rfl rfl (fun c40 => ?_) (fun c40 => ?_)
    · refine ev_iconst (pc' := 124) (v := 0) dX8_laySigns_123 rfl ki_0 ?_
      exact K39 _ (if_neg (fun h => (not_not_intro c40) h.1)).symm
    · refine ev_aload (pc' := 111) dX8_laySigns_109 rfl rfl ?_
      refine ev_iload (pc' := 113) dX8_laySigns_111 rfl rfl ?_
      refine ev_iald (pc' := 114) (j := 3) (v := -(mSg ec)) dX8_laySigns_113 rfl hs_121 rfl (Nat.le_of_ble_eq_true rfl) (Nat.le_of_ble_eq_true rfl) rfl ?_
      refine ev_iload (pc' := 116) dX8_laySigns_114 rfl rfl ?_
      refine ev_icmp_eq (tgt := 123) (pc' := 119) dX8_laySigns_116 rfl rfl (fun c41 => ?_) (fun c41 => ?_)
      · refine ev_iconst (pc' := 124) (v := 0) dX8_laySigns_123 rfl ki_0 ?_
        exact K39 _ (if_neg (fun h => (not_not_intro c41) h.2)).symm
      · refine ev_iconst (pc' := 120) (v := 1) dX8_laySigns_119 rfl ki_1 ?_
        refine ev_goto (tgt := 124) dX8_laySigns_120 rfl ?_
        exact K39 _ (if_pos (⟨c40, c41⟩)).symm
  intro x38 hx38
  subst hx38
  refine ev_iadd (pc' := 125) (v := ((0 + (if (¬ (-(mSg ea)) = 0) ∧ (¬ (-(mSg ea)) = 1) then (1 : Int32) else 0)) + (if (¬ (mSg eb) = 0) ∧ (¬ (mSg eb) = (if (-(mSg ea)) = 0 then 1 else (-(mSg ea)))) then (1 : Int32) else 0)) + (if (¬ (-(mSg ec)) = 0) ∧ (¬ (-(mSg ec)) = (if (mSg eb) = 0 then (if (-(mSg ea)) = 0 then 1 else (-(mSg ea))) else (mSg eb))) then (1 : Int32) else 0)) dX8_laySigns_124 rfl rfl ?_
  refine ev_putI (pc' := 128) (I' := (ma_up (ma_up I 121 (ma_up (ma_up (ma_up (ma_up (ma_up (I 121) 0 1) 1 (-(mSg ea))) 2 (mSg eb)) 3 (-(mSg ec))) 4 (mSg ed))) 115 (ma_up (ma_up (I 115) 9 (((0 + (if (¬ (-(mSg ea)) = 0) ∧ (¬ (-(mSg ea)) = 1) then (1 : Int32) else 0)) + (if (¬ (mSg eb) = 0) ∧ (¬ (mSg eb) = (if (-(mSg ea)) = 0 then 1 else (-(mSg ea)))) then (1 : Int32) else 0)) + (if (¬ (-(mSg ec)) = 0) ∧ (¬ (-(mSg ec)) = (if (mSg eb) = 0 then (if (-(mSg ea)) = 0 then 1 else (-(mSg ea))) else (mSg eb))) then (1 : Int32) else 0))) 10 ((0 + (if (¬ (-(-(mSg ea))) = 0) ∧ (¬ (-(-(mSg ea))) = 1) then (1 : Int32) else 0)) + (if (¬ (mSg eb) = 0) ∧ (¬ (mSg eb) = (if (-(-(mSg ea))) = 0 then 1 else (-(-(mSg ea))))) then (1 : Int32) else 0))))) fo_X8_160 dX8_laySigns_125 rfl hs_115 rfl (fun r hr => by cases hr; rfl) ⟨rfl, rfl⟩ ((congrArg (ma_up _ 115) ((ma_up_comm _ (show 9 ≠ 10 from (by decide)) _ _).trans (congrArg (fun f => ma_up f 10 _) (ma_up_up _ _ _ _)))).trans (ma_up_up _ _ _ _)) ?_
  refine ev_aload (pc' := 130) dX8_laySigns_128 rfl rfl ?_
  refine ev_iload (pc' := 132) dX8_laySigns_130 rfl rfl ?_
  refine ev_iald (pc' := 133) (j := 3) (v := -(mSg ec)) dX8_laySigns_132 rfl hs_121 rfl (Nat.le_of_ble_eq_true rfl) (Nat.le_of_ble_eq_true rfl) rfl ?_
  suffices K44 : ∀ x43 : Int32, x43 = (if (-(mSg ec)) = 0 then (if (mSg eb) = 0 then (if (-(mSg ea)) = 0 then 1 else (-(mSg ea))) else (mSg eb)) else (-(mSg ec))) → EV g yX8_laySigns cX8_laySigns 15 none rX8_laySigns (ma_ZM g rX8_laySigns Post) 146 [some (.ref 115), some (.int 3), some (.long ea), none, some (.long eb), none, some (.long ec), none, some (.long ed), none, some (.ref 121), some (.int (if (mSg eb) = 0 then (if (-(mSg ea)) = 0 then 1 else (-(mSg ea))) else (mSg eb))), some (.int (if (mSg eb) = 0 then (if (-(-(mSg ea))) = 0 then 1 else (-(-(mSg ea)))) else (mSg eb))), some (.int 3), some (.int (-(-(mSg ec))))] [.int x43] HS (ma_up (ma_up I 121 (ma_up (ma_up (ma_up (ma_up (ma_up (I 121) 0 1) 1 (-(mSg ea))) 2 (mSg eb)) 3 (-(mSg ec))) 4 (mSg ed))) 115 (ma_up (ma_up (I 115) 9 (((0 + (if (¬ (-(mSg ea)) = 0) ∧ (¬ (-(mSg ea)) = 1) then (1 : Int32) else 0)) + (if (¬ (mSg eb) = 0) ∧ (¬ (mSg eb) = (if (-(mSg ea)) = 0 then 1 else (-(mSg ea)))) then (1 : Int32) else 0)) + (if (¬ (-(mSg ec)) = 0) ∧ (¬ (-(mSg ec)) = (if (mSg eb) = 0 then (if (-(mSg ea)) = 0 then 1 else (-(mSg ea))) else (mSg eb))) then (1 : Int32) else 0))) 10 ((0 + (if (¬ (-(-(mSg ea))) = 0) ∧ (¬ (-(-(mSg ea))) = 1) then (1 : Int32) else 0)) + (if (¬ (mSg eb) = 0) ∧ (¬ (mSg eb) = (if (-(-(mSg ea))) = 0 then 1 else (-(-(mSg ea))))) then (1 : Int32) else 0)))) L RF 146 0 0 by
    refine ev_if_eq (tgt := 144) (pc' := 136) dX8_laySigns_133 rfl rfl (fun c45 => ?_) (fun c45 => ?_)
    · refine ev_iload (pc' := 146) dX8_laySigns_144 rfl rfl ?_
      exact K44 _ (by rw [if_pos c45])
    · refine ev_aload (pc' := 138) dX8_laySigns_136 rfl rfl ?_
      refine ev_iload (pc' := 140) dX8_laySigns_138 rfl rfl ?_
      refine ev_iald (pc' := 141) (j := 3) (v := -(mSg ec)) dX8_laySigns_140 rfl hs_121 rfl (Nat.le_of_ble_eq_true rfl) (Nat.le_of_ble_eq_true rfl) rfl ?_
      refine ev_goto (tgt := 146) dX8_laySigns_141 rfl ?_
      exact K44 _ (by rw [if_neg c45])
  intro x43 hx43
  subst hx43
  refine ev_istore (pc' := 148) (lv' := [some (.ref 115), some (.int 3), some (.long ea), none, some (.long eb), none, some (.long ec), none, some (.long ed), none, some (.ref 121), some (.int (if (-(mSg ec)) = 0 then (if (mSg eb) = 0 then (if (-(mSg ea)) = 0 then 1 else (-(mSg ea))) else (mSg eb)) else (-(mSg ec)))), some (.int (if (mSg eb) = 0 then (if (-(-(mSg ea))) = 0 then 1 else (-(-(mSg ea)))) else (mSg eb))), some (.int 3), some (.int (-(-(mSg ec))))]) dX8_laySigns_146 rfl (Nat.le_of_ble_eq_true rfl) rfl rfl ?_
  refine ev_aload_n (pc' := 149) (i := 0) dX8_laySigns_148 rfl rfl rfl ?_
  refine ev_dup (pc' := 150) dX8_laySigns_149 rfl rfl ?_
  refine ev_getI (pc' := 153) (v := (0 + (if (¬ (-(-(mSg ea))) = 0) ∧ (¬ (-(-(mSg ea))) = 1) then (1 : Int32) else 0)) + (if (¬ (mSg eb) = 0) ∧ (¬ (mSg eb) = (if (-(-(mSg ea))) = 0 then 1 else (-(-(mSg ea))))) then (1 : Int32) else 0)) fo_X8_163 dX8_laySigns_150 rfl hs_115 rfl rfl ?_
  refine ev_iload (pc' := 155) dX8_laySigns_153 rfl rfl ?_
  suffices K48 : ∀ x47 : Int32, x47 = (if (¬ (-(-(mSg ec))) = 0) ∧ (¬ (-(-(mSg ec))) = (if (mSg eb) = 0 then (if (-(-(mSg ea))) = 0 then 1 else (-(-(mSg ea)))) else (mSg eb))) then (1 : Int32) else 0) → EV g yX8_laySigns cX8_laySigns 15 none rX8_laySigns (ma_ZM g rX8_laySigns Post) 170 [some (.ref 115), some (.int 3), some (.long ea), none, some (.long eb), none, some (.long ec), none, some (.long ed), none, some (.ref 121), some (.int (if (-(mSg ec)) = 0 then (if (mSg eb) = 0 then (if (-(mSg ea)) = 0 then 1 else (-(mSg ea))) else (mSg eb)) else (-(mSg ec)))), some (.int (if (mSg eb) = 0 then (if (-(-(mSg ea))) = 0 then 1 else (-(-(mSg ea)))) else (mSg eb))), some (.int 3), some (.int (-(-(mSg ec))))] [.int x47, .int ((0 + (if (¬ (-(-(mSg ea))) = 0) ∧ (¬ (-(-(mSg ea))) = 1) then (1 : Int32) else 0)) + (if (¬ (mSg eb) = 0) ∧ (¬ (mSg eb) = (if (-(-(mSg ea))) = 0 then 1 else (-(-(mSg ea))))) then (1 : Int32) else 0)), .ref 115] HS (ma_up (ma_up I 121 (ma_up (ma_up (ma_up (ma_up (ma_up (I 121) 0 1) 1 (-(mSg ea))) 2 (mSg eb)) 3 (-(mSg ec))) 4 (mSg ed))) 115 (ma_up (ma_up (I 115) 9 (((0 + (if (¬ (-(mSg ea)) = 0) ∧ (¬ (-(mSg ea)) = 1) then (1 : Int32) else 0)) + (if (¬ (mSg eb) = 0) ∧ (¬ (mSg eb) = (if (-(mSg ea)) = 0 then 1 else (-(mSg ea)))) then (1 : Int32) else 0)) + (if (¬ (-(mSg ec)) = 0) ∧ (¬ (-(mSg ec)) = (if (mSg eb) = 0 then (if (-(mSg ea)) = 0 then 1 else (-(mSg ea))) else (mSg eb))) then (1 : Int32) else 0))) 10 ((0 + (if (¬ (-(-(mSg ea))) = 0) ∧ (¬ (-(-(mSg ea))) = 1) then (1 : Int32) else 0)) + (if (¬ (mSg eb) = 0) ∧ (¬ (mSg eb) = (if (-(-(mSg ea))) = 0 then 1 else (-(-(mSg ea))))) then (1 : Int32) else 0)))) L RF 146 0 0 by
    refine ev_if_eq (tgt := 169) (pc' := 158) dX8_laySigns_155 rfl rfl (fun c49 => ?_) (fun c49 => ?_)
    · refine ev_iconst (pc' := 170) (v := 0) dX8_laySigns_169 rfl ki_0 ?_
      exact K48 _ (if_neg (fun h => (not_not_intro c49) h.1)).symm
    · refine ev_iload (pc' := 160) dX8_laySigns_158 rfl rfl ?_
      refine ev_iload (pc' := 162) dX8_laySigns_160 rfl rfl ?_
      refine ev_icmp_eq (tgt := 169) (pc' := 165) dX8_laySigns_162 rfl rfl (fun c50 => ?_) (fun c50 => ?_)
      · refine ev_iconst (pc' := 170) (v := 0) dX8_laySigns_169 rfl ki_0 ?_
        exact K48 _ (if_neg (fun h => (not_not_intro c50) h.2)).symm
      · refine ev_iconst (pc' := 166) (v := 1) dX8_laySigns_165 rfl ki_1 ?_
        refine ev_goto (tgt := 170) dX8_laySigns_166 rfl ?_
        exact K48 _ (if_pos (⟨c49, c50⟩)).symm
  intro x47 hx47
  subst hx47
  refine ev_iadd (pc' := 171) (v := ((0 + (if (¬ (-(-(mSg ea))) = 0) ∧ (¬ (-(-(mSg ea))) = 1) then (1 : Int32) else 0)) + (if (¬ (mSg eb) = 0) ∧ (¬ (mSg eb) = (if (-(-(mSg ea))) = 0 then 1 else (-(-(mSg ea))))) then (1 : Int32) else 0)) + (if (¬ (-(-(mSg ec))) = 0) ∧ (¬ (-(-(mSg ec))) = (if (mSg eb) = 0 then (if (-(-(mSg ea))) = 0 then 1 else (-(-(mSg ea)))) else (mSg eb))) then (1 : Int32) else 0)) dX8_laySigns_170 rfl rfl ?_
  refine ev_putI (pc' := 174) (I' := (ma_up (ma_up I 121 (ma_up (ma_up (ma_up (ma_up (ma_up (I 121) 0 1) 1 (-(mSg ea))) 2 (mSg eb)) 3 (-(mSg ec))) 4 (mSg ed))) 115 (ma_up (ma_up (I 115) 9 (((0 + (if (¬ (-(mSg ea)) = 0) ∧ (¬ (-(mSg ea)) = 1) then (1 : Int32) else 0)) + (if (¬ (mSg eb) = 0) ∧ (¬ (mSg eb) = (if (-(mSg ea)) = 0 then 1 else (-(mSg ea)))) then (1 : Int32) else 0)) + (if (¬ (-(mSg ec)) = 0) ∧ (¬ (-(mSg ec)) = (if (mSg eb) = 0 then (if (-(mSg ea)) = 0 then 1 else (-(mSg ea))) else (mSg eb))) then (1 : Int32) else 0))) 10 (((0 + (if (¬ (-(-(mSg ea))) = 0) ∧ (¬ (-(-(mSg ea))) = 1) then (1 : Int32) else 0)) + (if (¬ (mSg eb) = 0) ∧ (¬ (mSg eb) = (if (-(-(mSg ea))) = 0 then 1 else (-(-(mSg ea))))) then (1 : Int32) else 0)) + (if (¬ (-(-(mSg ec))) = 0) ∧ (¬ (-(-(mSg ec))) = (if (mSg eb) = 0 then (if (-(-(mSg ea))) = 0 then 1 else (-(-(mSg ea)))) else (mSg eb))) then (1 : Int32) else 0))))) fo_X8_163 dX8_laySigns_171 rfl hs_115 rfl (fun r hr => by cases hr; rfl) ⟨rfl, rfl⟩ ((congrArg (ma_up _ 115) (ma_up_up _ _ _ _)).trans (ma_up_up _ _ _ _)) ?_
  refine ev_iload (pc' := 176) dX8_laySigns_174 rfl rfl ?_
  suffices K53 : ∀ x52 : Int32, x52 = (if (-(-(mSg ec))) = 0 then (if (mSg eb) = 0 then (if (-(-(mSg ea))) = 0 then 1 else (-(-(mSg ea)))) else (mSg eb)) else (-(-(mSg ec)))) → EV g yX8_laySigns cX8_laySigns 15 none rX8_laySigns (ma_ZM g rX8_laySigns Post) 186 [some (.ref 115), some (.int 3), some (.long ea), none, some (.long eb), none, some (.long ec), none, some (.long ed), none, some (.ref 121), some (.int (if (-(mSg ec)) = 0 then (if (mSg eb) = 0 then (if (-(mSg ea)) = 0 then 1 else (-(mSg ea))) else (mSg eb)) else (-(mSg ec)))), some (.int (if (mSg eb) = 0 then (if (-(-(mSg ea))) = 0 then 1 else (-(-(mSg ea)))) else (mSg eb))), some (.int 3), some (.int (-(-(mSg ec))))] [.int x52] HS (ma_up (ma_up I 121 (ma_up (ma_up (ma_up (ma_up (ma_up (I 121) 0 1) 1 (-(mSg ea))) 2 (mSg eb)) 3 (-(mSg ec))) 4 (mSg ed))) 115 (ma_up (ma_up (I 115) 9 (((0 + (if (¬ (-(mSg ea)) = 0) ∧ (¬ (-(mSg ea)) = 1) then (1 : Int32) else 0)) + (if (¬ (mSg eb) = 0) ∧ (¬ (mSg eb) = (if (-(mSg ea)) = 0 then 1 else (-(mSg ea)))) then (1 : Int32) else 0)) + (if (¬ (-(mSg ec)) = 0) ∧ (¬ (-(mSg ec)) = (if (mSg eb) = 0 then (if (-(mSg ea)) = 0 then 1 else (-(mSg ea))) else (mSg eb))) then (1 : Int32) else 0))) 10 (((0 + (if (¬ (-(-(mSg ea))) = 0) ∧ (¬ (-(-(mSg ea))) = 1) then (1 : Int32) else 0)) + (if (¬ (mSg eb) = 0) ∧ (¬ (mSg eb) = (if (-(-(mSg ea))) = 0 then 1 else (-(-(mSg ea))))) then (1 : Int32) else 0)) + (if (¬ (-(-(mSg ec))) = 0) ∧ (¬ (-(-(mSg ec))) = (if (mSg eb) = 0 then (if (-(-(mSg ea))) = 0 then 1 else (-(-(mSg ea)))) else (mSg eb))) then (1 : Int32) else 0)))) L RF 146 0 0 by
    refine ev_if_eq (tgt := 184) (pc' := 179) dX8_laySigns_176 rfl rfl (fun c54 => ?_) (fun c54 => ?_)
    · refine ev_iload (pc' := 186) dX8_laySigns_184 rfl rfl ?_
      exact K53 _ (by rw [if_pos c54])
    · refine ev_iload (pc' := 181) dX8_laySigns_179 rfl rfl ?_
      refine ev_goto (tgt := 186) dX8_laySigns_181 rfl ?_
      exact K53 _ (by rw [if_neg c54])
  intro x52 hx52
  subst hx52
  refine ev_istore (pc' := 188) (lv' := [some (.ref 115), some (.int 3), some (.long ea), none, some (.long eb), none, some (.long ec), none, some (.long ed), none, some (.ref 121), some (.int (if (-(mSg ec)) = 0 then (if (mSg eb) = 0 then (if (-(mSg ea)) = 0 then 1 else (-(mSg ea))) else (mSg eb)) else (-(mSg ec)))), some (.int (if (-(-(mSg ec))) = 0 then (if (mSg eb) = 0 then (if (-(-(mSg ea))) = 0 then 1 else (-(-(mSg ea)))) else (mSg eb)) else (-(-(mSg ec))))), some (.int 3), some (.int (-(-(mSg ec))))]) dX8_laySigns_186 rfl (Nat.le_of_ble_eq_true rfl) rfl rfl ?_
  refine ev_iinc (pc' := 191) (v := 4) (lv' := [some (.ref 115), some (.int 3), some (.long ea), none, some (.long eb), none, some (.long ec), none, some (.long ed), none, some (.ref 121), some (.int (if (-(mSg ec)) = 0 then (if (mSg eb) = 0 then (if (-(mSg ea)) = 0 then 1 else (-(mSg ea))) else (mSg eb)) else (-(mSg ec)))), some (.int (if (-(-(mSg ec))) = 0 then (if (mSg eb) = 0 then (if (-(-(mSg ea))) = 0 then 1 else (-(-(mSg ea)))) else (mSg eb)) else (-(-(mSg ec))))), some (.int 4), some (.int (-(-(mSg ec))))]) dX8_laySigns_188 rfl rfl (by decide) (Nat.le_of_ble_eq_true rfl) rfl rfl ?_
  refine ev_goto (tgt := 67) dX8_laySigns_191 rfl ?_
  refine ev_iload (pc' := 69) dX8_laySigns_67 rfl rfl ?_
  refine ev_iload_n (pc' := 70) (i := 1) dX8_laySigns_69 rfl rfl rfl ?_
  refine ev_icmp_gt (tgt := 194) (pc' := 73) dX8_laySigns_70 rfl rfl (fun _ => ?_) (fun h => absurd (by decide) h)
  refine ev_vret dX8_laySigns_194 rfl ⟨Nat.le_refl _, Nat.le_refl _⟩ ?_
  exact k
def mFs1 (t : Nat → Int64) : Int32 := -(mSg ((((t 0) + (t 5)) + (t 10)) + (t 15)))
def mFs2 (t : Nat → Int64) : Int32 := mSg ((((((m2 t 0 1) + (m2 t 0 2)) + (m2 t 0 3)) + (m2 t 1 2)) + (m2 t 1 3)) + (m2 t 2 3))
def mFs3 (t : Nat → Int64) : Int32 := -(mSg ((((m3 t 0 1 2) + (m3 t 0 1 3)) + (m3 t 0 2 3)) + (m3 t 1 2 3)))
def mFs4 (t : Nat → Int64) : Int32 := mSg (mW t)
def mFA (t : Nat → Int64) : Int32 := mA4 ((((t 0) + (t 5)) + (t 10)) + (t 15)) ((((((m2 t 0 1) + (m2 t 0 2)) + (m2 t 0 3)) + (m2 t 1 2)) + (m2 t 1 3)) + (m2 t 2 3)) ((((m3 t 0 1 2) + (m3 t 0 1 3)) + (m3 t 0 2 3)) + (m3 t 1 2 3)) (mW t)
def mFB (t : Nat → Int64) : Int32 := mB4 ((((t 0) + (t 5)) + (t 10)) + (t 15)) ((((((m2 t 0 1) + (m2 t 0 2)) + (m2 t 0 3)) + (m2 t 1 2)) + (m2 t 1 3)) + (m2 t 2 3)) ((((m3 t 0 1 2) + (m3 t 0 1 3)) + (m3 t 0 2 3)) + (m3 t 1 2 3)) (mW t)
set_option maxRecDepth 4000 in
theorem t_X8_layFour {g : ma_G} {Post : ma_P} {I : ma_I} {L : ma_L}   (k : Post none HS (ma_up (ma_up I 121 (ma_up (ma_up (ma_up (ma_up (ma_up (I 121) 0 1) 1 (mFs1 (L 120))) 2 (mFs2 (L 120))) 3 (mFs3 (L 120))) 4 (mFs4 (L 120)))) 115 (ma_up (ma_up (I 115) 9 (mFA (L 120))) 10 (mFB (L 120)))) L RF 146) : CT g yX8_layFour cX8_layFour 7 none rX8_layFour [.ref 115] Post HS I L RF 146 := by
  refine ct_of (lv := [some (.ref 115), none, none, none, none, none, none]) (by decide) (Nat.le_of_ble_eq_true rfl) rfl ?_
  refine ev_aload_n (pc' := 1) (i := 0) dX8_layFour_0 rfl rfl rfl ?_
  refine ev_getR (pc' := 4) fo_X8_26 dX8_layFour_1 rfl hs_115 rfl rf_115_8 ?_
  refine ev_iconst (pc' := 5) (v := 0) dX8_layFour_4 rfl ki_0 ?_
  refine ev_lald (pc' := 6) (j := 0) (v := (L 120) 0) dX8_layFour_5 rfl hs_120 rfl (Nat.le_of_ble_eq_true rfl) (Nat.le_of_ble_eq_true rfl) rfl ?_
  refine ev_aload_n (pc' := 7) (i := 0) dX8_layFour_6 rfl rfl rfl ?_
  refine ev_getR (pc' := 10) fo_X8_26 dX8_layFour_7 rfl hs_115 rfl rf_115_8 ?_
  refine ev_iconst (pc' := 11) (v := 5) dX8_layFour_10 rfl ki_5 ?_
  refine ev_lald (pc' := 12) (j := 5) (v := (L 120) 5) dX8_layFour_11 rfl hs_120 rfl (Nat.le_of_ble_eq_true rfl) (Nat.le_of_ble_eq_true rfl) rfl ?_
  refine ev_ladd (pc' := 13) (v := ((L 120) 0) + ((L 120) 5)) dX8_layFour_12 rfl rfl ?_
  refine ev_aload_n (pc' := 14) (i := 0) dX8_layFour_13 rfl rfl rfl ?_
  refine ev_getR (pc' := 17) fo_X8_26 dX8_layFour_14 rfl hs_115 rfl rf_115_8 ?_
  refine ev_bipush (pc' := 19) (v := 10) dX8_layFour_17 rfl kb_10 ?_
  refine ev_lald (pc' := 20) (j := 10) (v := (L 120) 10) dX8_layFour_19 rfl hs_120 rfl (Nat.le_of_ble_eq_true rfl) (Nat.le_of_ble_eq_true rfl) rfl ?_
  refine ev_ladd (pc' := 21) (v := (((L 120) 0) + ((L 120) 5)) + ((L 120) 10)) dX8_layFour_20 rfl rfl ?_
  refine ev_aload_n (pc' := 22) (i := 0) dX8_layFour_21 rfl rfl rfl ?_
  refine ev_getR (pc' := 25) fo_X8_26 dX8_layFour_22 rfl hs_115 rfl rf_115_8 ?_
  refine ev_bipush (pc' := 27) (v := 15) dX8_layFour_25 rfl kb_15 ?_
  refine ev_lald (pc' := 28) (j := 15) (v := (L 120) 15) dX8_layFour_27 rfl hs_120 rfl (Nat.le_of_ble_eq_true rfl) (Nat.le_of_ble_eq_true rfl) rfl ?_
  refine ev_ladd (pc' := 29) (v := ((((L 120) 0) + ((L 120) 5)) + ((L 120) 10)) + ((L 120) 15)) dX8_layFour_28 rfl rfl ?_
  refine ev_lstore_n (pc' := 30) (i := 1) (lv' := [some (.ref 115), some (.long (((((L 120) 0) + ((L 120) 5)) + ((L 120) 10)) + ((L 120) 15))), none, none, none, none, none]) dX8_layFour_29 rfl rfl (Nat.le_of_ble_eq_true rfl) rfl rfl ?_
  refine ev_aload_n (pc' := 31) (i := 0) dX8_layFour_30 rfl rfl rfl ?_
  refine ev_iconst (pc' := 32) (v := 0) dX8_layFour_31 rfl ki_0 ?_
  refine ev_iconst (pc' := 33) (v := 1) dX8_layFour_32 rfl ki_1 ?_
  refine ev_callV (pc' := 36) (rm' := rX8_two) (b := 115) (av := [.int 0, .int 1]) (rest := []) co_X8_166 ci_X8_two cv_X8_two dX8_layFour_33 rfl hs_115 hb_X8 rfl rfl (Nat.le_of_ble_eq_true rfl) ⟨(Nat.le_of_ble_eq_true rfl), (Nat.le_of_ble_eq_true rfl)⟩ ⟨(Nat.le_of_ble_eq_true rfl), (Nat.le_of_ble_eq_true rfl)⟩ ?_
  refine t_X8_two 0 1 (by omega) (by omega) ?_
  refine ev_aload_n (pc' := 37) (i := 0) dX8_layFour_36 rfl rfl rfl ?_
  refine ev_iconst (pc' := 38) (v := 0) dX8_layFour_37 rfl ki_0 ?_
  refine ev_iconst (pc' := 39) (v := 2) dX8_layFour_38 rfl ki_2 ?_
  refine ev_callV (pc' := 42) (rm' := rX8_two) (b := 115) (av := [.int 0, .int 2]) (rest := [.long (m2 (L 120) 0 1)]) co_X8_166 ci_X8_two cv_X8_two dX8_layFour_39 rfl hs_115 hb_X8 rfl rfl (Nat.le_of_ble_eq_true rfl) ⟨(Nat.le_of_ble_eq_true rfl), (Nat.le_of_ble_eq_true rfl)⟩ ⟨(Nat.le_of_ble_eq_true rfl), (Nat.le_of_ble_eq_true rfl)⟩ ?_
  refine t_X8_two 0 2 (by omega) (by omega) ?_
  refine ev_ladd (pc' := 43) (v := (m2 (L 120) 0 1) + (m2 (L 120) 0 2)) dX8_layFour_42 rfl rfl ?_
  refine ev_aload_n (pc' := 44) (i := 0) dX8_layFour_43 rfl rfl rfl ?_
  refine ev_iconst (pc' := 45) (v := 0) dX8_layFour_44 rfl ki_0 ?_
  refine ev_iconst (pc' := 46) (v := 3) dX8_layFour_45 rfl ki_3 ?_
  refine ev_callV (pc' := 49) (rm' := rX8_two) (b := 115) (av := [.int 0, .int 3]) (rest := [.long ((m2 (L 120) 0 1) + (m2 (L 120) 0 2))]) co_X8_166 ci_X8_two cv_X8_two dX8_layFour_46 rfl hs_115 hb_X8 rfl rfl (Nat.le_of_ble_eq_true rfl) ⟨(Nat.le_of_ble_eq_true rfl), (Nat.le_of_ble_eq_true rfl)⟩ ⟨(Nat.le_of_ble_eq_true rfl), (Nat.le_of_ble_eq_true rfl)⟩ ?_
  refine t_X8_two 0 3 (by omega) (by omega) ?_
  refine ev_ladd (pc' := 50) (v := ((m2 (L 120) 0 1) + (m2 (L 120) 0 2)) + (m2 (L 120) 0 3)) dX8_layFour_49 rfl rfl ?_
  refine ev_aload_n (pc' := 51) (i := 0) dX8_layFour_50 rfl rfl rfl ?_
  refine ev_iconst (pc' := 52) (v := 1) dX8_layFour_51 rfl ki_1 ?_
  refine ev_iconst (pc' := 53) (v := 2) dX8_layFour_52 rfl ki_2 ?_
  refine ev_callV (pc' := 56) (rm' := rX8_two) (b := 115) (av := [.int 1, .int 2]) (rest := [.long (((m2 (L 120) 0 1) + (m2 (L 120) 0 2)) + (m2 (L 120) 0 3))]) co_X8_166 ci_X8_two cv_X8_two dX8_layFour_53 rfl hs_115 hb_X8 rfl rfl (Nat.le_of_ble_eq_true rfl) ⟨(Nat.le_of_ble_eq_true rfl), (Nat.le_of_ble_eq_true rfl)⟩ ⟨(Nat.le_of_ble_eq_true rfl), (Nat.le_of_ble_eq_true rfl)⟩ ?_
  refine t_X8_two 1 2 (by omega) (by omega) ?_
  refine ev_ladd (pc' := 57) (v := (((m2 (L 120) 0 1) + (m2 (L 120) 0 2)) + (m2 (L 120) 0 3)) + (m2 (L 120) 1 2)) dX8_layFour_56 rfl rfl ?_
  refine ev_aload_n (pc' := 58) (i := 0) dX8_layFour_57 rfl rfl rfl ?_
  refine ev_iconst (pc' := 59) (v := 1) dX8_layFour_58 rfl ki_1 ?_
  refine ev_iconst (pc' := 60) (v := 3) dX8_layFour_59 rfl ki_3 ?_
  refine ev_callV (pc' := 63) (rm' := rX8_two) (b := 115) (av := [.int 1, .int 3]) (rest := [.long ((((m2 (L 120) 0 1) + (m2 (L 120) 0 2)) + (m2 (L 120) 0 3)) + (m2 (L 120) 1 2))]) co_X8_166 ci_X8_two cv_X8_two dX8_layFour_60 rfl hs_115 hb_X8 rfl rfl (Nat.le_of_ble_eq_true rfl) ⟨(Nat.le_of_ble_eq_true rfl), (Nat.le_of_ble_eq_true rfl)⟩ ⟨(Nat.le_of_ble_eq_true rfl), (Nat.le_of_ble_eq_true rfl)⟩ ?_
  refine t_X8_two 1 3 (by omega) (by omega) ?_
  refine ev_ladd (pc' := 64) (v := ((((m2 (L 120) 0 1) + (m2 (L 120) 0 2)) + (m2 (L 120) 0 3)) + (m2 (L 120) 1 2)) + (m2 (L 120) 1 3)) dX8_layFour_63 rfl rfl ?_
  refine ev_aload_n (pc' := 65) (i := 0) dX8_layFour_64 rfl rfl rfl ?_
  refine ev_iconst (pc' := 66) (v := 2) dX8_layFour_65 rfl ki_2 ?_
  refine ev_iconst (pc' := 67) (v := 3) dX8_layFour_66 rfl ki_3 ?_
  refine ev_callV (pc' := 70) (rm' := rX8_two) (b := 115) (av := [.int 2, .int 3]) (rest := [.long (((((m2 (L 120) 0 1) + (m2 (L 120) 0 2)) + (m2 (L 120) 0 3)) + (m2 (L 120) 1 2)) + (m2 (L 120) 1 3))]) co_X8_166 ci_X8_two cv_X8_two dX8_layFour_67 rfl hs_115 hb_X8 rfl rfl (Nat.le_of_ble_eq_true rfl) ⟨(Nat.le_of_ble_eq_true rfl), (Nat.le_of_ble_eq_true rfl)⟩ ⟨(Nat.le_of_ble_eq_true rfl), (Nat.le_of_ble_eq_true rfl)⟩ ?_
  refine t_X8_two 2 3 (by omega) (by omega) ?_
  refine ev_ladd (pc' := 71) (v := (((((m2 (L 120) 0 1) + (m2 (L 120) 0 2)) + (m2 (L 120) 0 3)) + (m2 (L 120) 1 2)) + (m2 (L 120) 1 3)) + (m2 (L 120) 2 3)) dX8_layFour_70 rfl rfl ?_
  refine ev_lstore_n (pc' := 72) (i := 3) (lv' := [some (.ref 115), some (.long (((((L 120) 0) + ((L 120) 5)) + ((L 120) 10)) + ((L 120) 15))), none, some (.long ((((((m2 (L 120) 0 1) + (m2 (L 120) 0 2)) + (m2 (L 120) 0 3)) + (m2 (L 120) 1 2)) + (m2 (L 120) 1 3)) + (m2 (L 120) 2 3))), none, none, none]) dX8_layFour_71 rfl rfl (Nat.le_of_ble_eq_true rfl) rfl rfl ?_
  refine ev_aload_n (pc' := 73) (i := 0) dX8_layFour_72 rfl rfl rfl ?_
  refine ev_iconst (pc' := 74) (v := 0) dX8_layFour_73 rfl ki_0 ?_
  refine ev_iconst (pc' := 75) (v := 1) dX8_layFour_74 rfl ki_1 ?_
  refine ev_iconst (pc' := 76) (v := 2) dX8_layFour_75 rfl ki_2 ?_
  refine ev_callV (pc' := 79) (rm' := rX8_three) (b := 115) (av := [.int 0, .int 1, .int 2]) (rest := []) co_X8_169 ci_X8_three cv_X8_three dX8_layFour_76 rfl hs_115 hb_X8 rfl rfl (Nat.le_of_ble_eq_true rfl) ⟨(Nat.le_of_ble_eq_true rfl), (Nat.le_of_ble_eq_true rfl)⟩ ⟨(Nat.le_of_ble_eq_true rfl), (Nat.le_of_ble_eq_true rfl)⟩ ?_
  refine t_X8_three 0 1 2 (by omega) (by omega) (by omega) ?_
  refine ev_aload_n (pc' := 80) (i := 0) dX8_layFour_79 rfl rfl rfl ?_
  refine ev_iconst (pc' := 81) (v := 0) dX8_layFour_80 rfl ki_0 ?_
  refine ev_iconst (pc' := 82) (v := 1) dX8_layFour_81 rfl ki_1 ?_
  refine ev_iconst (pc' := 83) (v := 3) dX8_layFour_82 rfl ki_3 ?_
  refine ev_callV (pc' := 86) (rm' := rX8_three) (b := 115) (av := [.int 0, .int 1, .int 3]) (rest := [.long (m3 (L 120) 0 1 2)]) co_X8_169 ci_X8_three cv_X8_three dX8_layFour_83 rfl hs_115 hb_X8 rfl rfl (Nat.le_of_ble_eq_true rfl) ⟨(Nat.le_of_ble_eq_true rfl), (Nat.le_of_ble_eq_true rfl)⟩ ⟨(Nat.le_of_ble_eq_true rfl), (Nat.le_of_ble_eq_true rfl)⟩ ?_
  refine t_X8_three 0 1 3 (by omega) (by omega) (by omega) ?_
  refine ev_ladd (pc' := 87) (v := (m3 (L 120) 0 1 2) + (m3 (L 120) 0 1 3)) dX8_layFour_86 rfl rfl ?_
  refine ev_aload_n (pc' := 88) (i := 0) dX8_layFour_87 rfl rfl rfl ?_
  refine ev_iconst (pc' := 89) (v := 0) dX8_layFour_88 rfl ki_0 ?_
  refine ev_iconst (pc' := 90) (v := 2) dX8_layFour_89 rfl ki_2 ?_
  refine ev_iconst (pc' := 91) (v := 3) dX8_layFour_90 rfl ki_3 ?_
  refine ev_callV (pc' := 94) (rm' := rX8_three) (b := 115) (av := [.int 0, .int 2, .int 3]) (rest := [.long ((m3 (L 120) 0 1 2) + (m3 (L 120) 0 1 3))]) co_X8_169 ci_X8_three cv_X8_three dX8_layFour_91 rfl hs_115 hb_X8 rfl rfl (Nat.le_of_ble_eq_true rfl) ⟨(Nat.le_of_ble_eq_true rfl), (Nat.le_of_ble_eq_true rfl)⟩ ⟨(Nat.le_of_ble_eq_true rfl), (Nat.le_of_ble_eq_true rfl)⟩ ?_
  refine t_X8_three 0 2 3 (by omega) (by omega) (by omega) ?_
  refine ev_ladd (pc' := 95) (v := ((m3 (L 120) 0 1 2) + (m3 (L 120) 0 1 3)) + (m3 (L 120) 0 2 3)) dX8_layFour_94 rfl rfl ?_
  refine ev_aload_n (pc' := 96) (i := 0) dX8_layFour_95 rfl rfl rfl ?_
  refine ev_iconst (pc' := 97) (v := 1) dX8_layFour_96 rfl ki_1 ?_
  refine ev_iconst (pc' := 98) (v := 2) dX8_layFour_97 rfl ki_2 ?_
  refine ev_iconst (pc' := 99) (v := 3) dX8_layFour_98 rfl ki_3 ?_
  refine ev_callV (pc' := 102) (rm' := rX8_three) (b := 115) (av := [.int 1, .int 2, .int 3]) (rest := [.long (((m3 (L 120) 0 1 2) + (m3 (L 120) 0 1 3)) + (m3 (L 120) 0 2 3))]) co_X8_169 ci_X8_three cv_X8_three dX8_layFour_99 rfl hs_115 hb_X8 rfl rfl (Nat.le_of_ble_eq_true rfl) ⟨(Nat.le_of_ble_eq_true rfl), (Nat.le_of_ble_eq_true rfl)⟩ ⟨(Nat.le_of_ble_eq_true rfl), (Nat.le_of_ble_eq_true rfl)⟩ ?_
  refine t_X8_three 1 2 3 (by omega) (by omega) (by omega) ?_
  refine ev_ladd (pc' := 103) (v := (((m3 (L 120) 0 1 2) + (m3 (L 120) 0 1 3)) + (m3 (L 120) 0 2 3)) + (m3 (L 120) 1 2 3)) dX8_layFour_102 rfl rfl ?_
  refine ev_lstore (pc' := 105) (lv' := [some (.ref 115), some (.long (((((L 120) 0) + ((L 120) 5)) + ((L 120) 10)) + ((L 120) 15))), none, some (.long ((((((m2 (L 120) 0 1) + (m2 (L 120) 0 2)) + (m2 (L 120) 0 3)) + (m2 (L 120) 1 2)) + (m2 (L 120) 1 3)) + (m2 (L 120) 2 3))), none, some (.long ((((m3 (L 120) 0 1 2) + (m3 (L 120) 0 1 3)) + (m3 (L 120) 0 2 3)) + (m3 (L 120) 1 2 3))), none]) dX8_layFour_103 rfl (Nat.le_of_ble_eq_true rfl) rfl rfl ?_
  refine ev_aload_n (pc' := 106) (i := 0) dX8_layFour_105 rfl rfl rfl ?_
  refine ev_iconst (pc' := 107) (v := 4) dX8_layFour_106 rfl ki_4 ?_
  refine ev_lload_n (pc' := 108) (i := 1) dX8_layFour_107 rfl rfl rfl ?_
  refine ev_lload_n (pc' := 109) (i := 3) dX8_layFour_108 rfl rfl rfl ?_
  refine ev_lload (pc' := 111) dX8_layFour_109 rfl rfl ?_
  refine ev_aload_n (pc' := 112) (i := 0) dX8_layFour_111 rfl rfl rfl ?_
  refine ev_getR (pc' := 115) fo_X8_26 dX8_layFour_112 rfl hs_115 rfl rf_115_8 ?_
  refine ev_callS (pc' := 118) (rm' := rX8_worthOf) (av := [.ref 120]) (rest := [.long ((((m3 (L 120) 0 1 2) + (m3 (L 120) 0 1 3)) + (m3 (L 120) 0 2 3)) + (m3 (L 120) 1 2 3)), .long ((((((m2 (L 120) 0 1) + (m2 (L 120) 0 2)) + (m2 (L 120) 0 3)) + (m2 (L 120) 1 2)) + (m2 (L 120) 1 3)) + (m2 (L 120) 2 3)), .long (((((L 120) 0) + ((L 120) 5)) + ((L 120) 10)) + ((L 120) 15)), .int 4, .ref 115]) co_X8_173 cs_X8_worthOf dX8_layFour_115 rfl rfl rfl (Nat.le_of_ble_eq_true rfl) ⟨(Nat.le_of_ble_eq_true rfl), (Nat.le_of_ble_eq_true rfl)⟩ ⟨(Nat.le_of_ble_eq_true rfl), (Nat.le_of_ble_eq_true rfl)⟩ ?_
  refine t_X8_worthOf 120 hs_120 ?_
  refine ev_callV (pc' := 121) (rm' := rX8_laySigns) (b := 115) (av := [.int 4, .long (((((L 120) 0) + ((L 120) 5)) + ((L 120) 10)) + ((L 120) 15)), .long ((((((m2 (L 120) 0 1) + (m2 (L 120) 0 2)) + (m2 (L 120) 0 3)) + (m2 (L 120) 1 2)) + (m2 (L 120) 1 3)) + (m2 (L 120) 2 3)), .long ((((m3 (L 120) 0 1 2) + (m3 (L 120) 0 1 3)) + (m3 (L 120) 0 2 3)) + (m3 (L 120) 1 2 3)), .long (mW (L 120))]) (rest := []) co_X8_177 ci_X8_laySigns cv_X8_laySigns dX8_layFour_118 rfl hs_115 hb_X8 rfl rfl (Nat.le_of_ble_eq_true rfl) ⟨(Nat.le_of_ble_eq_true rfl), (Nat.le_of_ble_eq_true rfl)⟩ ⟨(Nat.le_of_ble_eq_true rfl), (Nat.le_of_ble_eq_true rfl)⟩ ?_
  refine t_X8_laySigns4 (((((L 120) 0) + ((L 120) 5)) + ((L 120) 10)) + ((L 120) 15)) ((((((m2 (L 120) 0 1) + (m2 (L 120) 0 2)) + (m2 (L 120) 0 3)) + (m2 (L 120) 1 2)) + (m2 (L 120) 1 3)) + (m2 (L 120) 2 3)) ((((m3 (L 120) 0 1 2) + (m3 (L 120) 0 1 3)) + (m3 (L 120) 0 2 3)) + (m3 (L 120) 1 2 3)) (mW (L 120))  ?_
  refine ev_vret dX8_layFour_121 rfl ⟨Nat.le_refl _, Nat.le_refl _⟩ ?_
  exact k
def mTs1 (t : Nat → Int64) : Int32 := -(mSg (((t 0) + (t 5)) + (t 10)))
def mTs2 (t : Nat → Int64) : Int32 := mSg (((m2 t 0 1) + (m2 t 0 2)) + (m2 t 1 2))
def mTs3 (t : Nat → Int64) : Int32 := -(mSg (m3 t 0 1 2))
def mTA (t : Nat → Int64) : Int32 := mA3 (((t 0) + (t 5)) + (t 10)) (((m2 t 0 1) + (m2 t 0 2)) + (m2 t 1 2)) (m3 t 0 1 2)
def mTB (t : Nat → Int64) : Int32 := mB3 (((t 0) + (t 5)) + (t 10)) (((m2 t 0 1) + (m2 t 0 2)) + (m2 t 1 2)) (m3 t 0 1 2)
set_option maxRecDepth 4000 in
theorem t_X8_layThree {g : ma_G} {Post : ma_P} {I : ma_I} {L : ma_L}   (k : Post none HS (ma_up (ma_up I 121 (ma_up (ma_up (ma_up (ma_up (ma_up (I 121) 0 1) 1 (mTs1 (L 120))) 2 (mTs2 (L 120))) 3 (mTs3 (L 120))) 4 (mSg 0))) 115 (ma_up (ma_up (I 115) 9 (mTA (L 120))) 10 (mTB (L 120)))) L RF 146) : CT g yX8_layThree cX8_layThree 1 none rX8_layThree [.ref 115] Post HS I L RF 146 := by
  refine ct_of (lv := [some (.ref 115)]) (by decide) (Nat.le_of_ble_eq_true rfl) rfl ?_
  refine ev_aload_n (pc' := 1) (i := 0) dX8_layThree_0 rfl rfl rfl ?_
  refine ev_iconst (pc' := 2) (v := 3) dX8_layThree_1 rfl ki_3 ?_
  refine ev_aload_n (pc' := 3) (i := 0) dX8_layThree_2 rfl rfl rfl ?_
  refine ev_getR (pc' := 6) fo_X8_26 dX8_layThree_3 rfl hs_115 rfl rf_115_8 ?_
  refine ev_iconst (pc' := 7) (v := 0) dX8_layThree_6 rfl ki_0 ?_
  refine ev_lald (pc' := 8) (j := 0) (v := (L 120) 0) dX8_layThree_7 rfl hs_120 rfl (Nat.le_of_ble_eq_true rfl) (Nat.le_of_ble_eq_true rfl) rfl ?_
  refine ev_aload_n (pc' := 9) (i := 0) dX8_layThree_8 rfl rfl rfl ?_
  refine ev_getR (pc' := 12) fo_X8_26 dX8_layThree_9 rfl hs_115 rfl rf_115_8 ?_
  refine ev_iconst (pc' := 13) (v := 5) dX8_layThree_12 rfl ki_5 ?_
  refine ev_lald (pc' := 14) (j := 5) (v := (L 120) 5) dX8_layThree_13 rfl hs_120 rfl (Nat.le_of_ble_eq_true rfl) (Nat.le_of_ble_eq_true rfl) rfl ?_
  refine ev_ladd (pc' := 15) (v := ((L 120) 0) + ((L 120) 5)) dX8_layThree_14 rfl rfl ?_
  refine ev_aload_n (pc' := 16) (i := 0) dX8_layThree_15 rfl rfl rfl ?_
  refine ev_getR (pc' := 19) fo_X8_26 dX8_layThree_16 rfl hs_115 rfl rf_115_8 ?_
  refine ev_bipush (pc' := 21) (v := 10) dX8_layThree_19 rfl kb_10 ?_
  refine ev_lald (pc' := 22) (j := 10) (v := (L 120) 10) dX8_layThree_21 rfl hs_120 rfl (Nat.le_of_ble_eq_true rfl) (Nat.le_of_ble_eq_true rfl) rfl ?_
  refine ev_ladd (pc' := 23) (v := (((L 120) 0) + ((L 120) 5)) + ((L 120) 10)) dX8_layThree_22 rfl rfl ?_
  refine ev_aload_n (pc' := 24) (i := 0) dX8_layThree_23 rfl rfl rfl ?_
  refine ev_iconst (pc' := 25) (v := 0) dX8_layThree_24 rfl ki_0 ?_
  refine ev_iconst (pc' := 26) (v := 1) dX8_layThree_25 rfl ki_1 ?_
  refine ev_callV (pc' := 29) (rm' := rX8_two) (b := 115) (av := [.int 0, .int 1]) (rest := [.long ((((L 120) 0) + ((L 120) 5)) + ((L 120) 10)), .int 3, .ref 115]) co_X8_166 ci_X8_two cv_X8_two dX8_layThree_26 rfl hs_115 hb_X8 rfl rfl (Nat.le_of_ble_eq_true rfl) ⟨(Nat.le_of_ble_eq_true rfl), (Nat.le_of_ble_eq_true rfl)⟩ ⟨(Nat.le_of_ble_eq_true rfl), (Nat.le_of_ble_eq_true rfl)⟩ ?_
  refine t_X8_two 0 1 (by omega) (by omega) ?_
  refine ev_aload_n (pc' := 30) (i := 0) dX8_layThree_29 rfl rfl rfl ?_
  refine ev_iconst (pc' := 31) (v := 0) dX8_layThree_30 rfl ki_0 ?_
  refine ev_iconst (pc' := 32) (v := 2) dX8_layThree_31 rfl ki_2 ?_
  refine ev_callV (pc' := 35) (rm' := rX8_two) (b := 115) (av := [.int 0, .int 2]) (rest := [.long (m2 (L 120) 0 1), .long ((((L 120) 0) + ((L 120) 5)) + ((L 120) 10)), .int 3, .ref 115]) co_X8_166 ci_X8_two cv_X8_two dX8_layThree_32 rfl hs_115 hb_X8 rfl rfl (Nat.le_of_ble_eq_true rfl) ⟨(Nat.le_of_ble_eq_true rfl), (Nat.le_of_ble_eq_true rfl)⟩ ⟨(Nat.le_of_ble_eq_true rfl), (Nat.le_of_ble_eq_true rfl)⟩ ?_
  refine t_X8_two 0 2 (by omega) (by omega) ?_
  refine ev_ladd (pc' := 36) (v := (m2 (L 120) 0 1) + (m2 (L 120) 0 2)) dX8_layThree_35 rfl rfl ?_
  refine ev_aload_n (pc' := 37) (i := 0) dX8_layThree_36 rfl rfl rfl ?_
  refine ev_iconst (pc' := 38) (v := 1) dX8_layThree_37 rfl ki_1 ?_
  refine ev_iconst (pc' := 39) (v := 2) dX8_layThree_38 rfl ki_2 ?_
  refine ev_callV (pc' := 42) (rm' := rX8_two) (b := 115) (av := [.int 1, .int 2]) (rest := [.long ((m2 (L 120) 0 1) + (m2 (L 120) 0 2)), .long ((((L 120) 0) + ((L 120) 5)) + ((L 120) 10)), .int 3, .ref 115]) co_X8_166 ci_X8_two cv_X8_two dX8_layThree_39 rfl hs_115 hb_X8 rfl rfl (Nat.le_of_ble_eq_true rfl) ⟨(Nat.le_of_ble_eq_true rfl), (Nat.le_of_ble_eq_true rfl)⟩ ⟨(Nat.le_of_ble_eq_true rfl), (Nat.le_of_ble_eq_true rfl)⟩ ?_
  refine t_X8_two 1 2 (by omega) (by omega) ?_
  refine ev_ladd (pc' := 43) (v := ((m2 (L 120) 0 1) + (m2 (L 120) 0 2)) + (m2 (L 120) 1 2)) dX8_layThree_42 rfl rfl ?_
  refine ev_aload_n (pc' := 44) (i := 0) dX8_layThree_43 rfl rfl rfl ?_
  refine ev_iconst (pc' := 45) (v := 0) dX8_layThree_44 rfl ki_0 ?_
  refine ev_iconst (pc' := 46) (v := 1) dX8_layThree_45 rfl ki_1 ?_
  refine ev_iconst (pc' := 47) (v := 2) dX8_layThree_46 rfl ki_2 ?_
  refine ev_callV (pc' := 50) (rm' := rX8_three) (b := 115) (av := [.int 0, .int 1, .int 2]) (rest := [.long (((m2 (L 120) 0 1) + (m2 (L 120) 0 2)) + (m2 (L 120) 1 2)), .long ((((L 120) 0) + ((L 120) 5)) + ((L 120) 10)), .int 3, .ref 115]) co_X8_169 ci_X8_three cv_X8_three dX8_layThree_47 rfl hs_115 hb_X8 rfl rfl (Nat.le_of_ble_eq_true rfl) ⟨(Nat.le_of_ble_eq_true rfl), (Nat.le_of_ble_eq_true rfl)⟩ ⟨(Nat.le_of_ble_eq_true rfl), (Nat.le_of_ble_eq_true rfl)⟩ ?_
  refine t_X8_three 0 1 2 (by omega) (by omega) (by omega) ?_
  refine ev_lconst (pc' := 51) (v := 0) dX8_layThree_50 rfl kl_0 ?_
  refine ev_callV (pc' := 54) (rm' := rX8_laySigns) (b := 115) (av := [.int 3, .long ((((L 120) 0) + ((L 120) 5)) + ((L 120) 10)), .long (((m2 (L 120) 0 1) + (m2 (L 120) 0 2)) + (m2 (L 120) 1 2)), .long (m3 (L 120) 0 1 2), .long 0]) (rest := []) co_X8_177 ci_X8_laySigns cv_X8_laySigns dX8_layThree_51 rfl hs_115 hb_X8 rfl rfl (Nat.le_of_ble_eq_true rfl) ⟨(Nat.le_of_ble_eq_true rfl), (Nat.le_of_ble_eq_true rfl)⟩ ⟨(Nat.le_of_ble_eq_true rfl), (Nat.le_of_ble_eq_true rfl)⟩ ?_
  refine t_X8_laySigns3 ((((L 120) 0) + ((L 120) 5)) + ((L 120) 10)) (((m2 (L 120) 0 1) + (m2 (L 120) 0 2)) + (m2 (L 120) 1 2)) (m3 (L 120) 0 1 2) 0  ?_
  refine ev_vret dX8_layThree_54 rfl ⟨Nat.le_refl _, Nat.le_refl _⟩ ?_
  exact k
set_option maxRecDepth 4000 in
theorem t_X8_changes {g : ma_G} {Post : ma_P} {I : ma_I} {L : ma_L} (q : Nat) (hq : q < 12) (k : Post (some (.int (if (¬ ((I 124) ((10 * q) + 1)) ≤ 0) ∧ (¬ ((I 124) ((10 * q) + 2)) ≤ 0) then (1 : Int32) else 0))) HS I L RF 146) : CT g yX8_changes cX8_changes 2 (some .boolean) rX8_changes [.ref 115, .int (nI q)] Post HS I L RF 146 := by
  refine ct_of (lv := [some (.ref 115), some (.int (nI q))]) (by decide) (Nat.le_of_ble_eq_true rfl) rfl ?_
  refine ev_aload_n (pc' := 1) (i := 0) dX8_changes_0 rfl rfl rfl ?_
  refine ev_getR (pc' := 4) fo_X8_40 dX8_changes_1 rfl hs_115 rfl rf_115_14 ?_
  refine ev_bipush (pc' := 6) (v := 10) dX8_changes_4 rfl kb_10 ?_
  refine ev_iload_n (pc' := 7) (i := 1) dX8_changes_6 rfl rfl rfl ?_
  refine ev_imul (pc' := 8) (v := nI (10 * q)) dX8_changes_7 rfl (pk_mul 10 q) ?_
  refine ev_iconst (pc' := 9) (v := 1) dX8_changes_8 rfl ki_1 ?_
  refine ev_iadd (pc' := 10) (v := nI ((10 * q) + 1)) dX8_changes_9 rfl (nI_add (10 * q) 1) ?_
  refine ev_iald (pc' := 11) (j := (10 * q) + 1) (v := (I 124) ((10 * q) + 1)) dX8_changes_10 rfl hs_124 rfl (by omega) (Nat.le_of_ble_eq_true rfl) rfl ?_
  suffices K3 : ∀ x2 : Int32, x2 = (if (¬ ((I 124) ((10 * q) + 1)) ≤ 0) ∧ (¬ ((I 124) ((10 * q) + 2)) ≤ 0) then (1 : Int32) else 0) → EV g yX8_changes cX8_changes 2 (some .boolean) rX8_changes (ma_ZM g rX8_changes Post) 33 [some (.ref 115), some (.int (nI q))] [.int x2] HS I L RF 146 0 0 by
    refine ev_if_le (tgt := 32) (pc' := 14) dX8_changes_11 rfl rfl (fun c4 => ?_) (fun c4 => ?_)
    · refine ev_iconst (pc' := 33) (v := 0) dX8_changes_32 rfl ki_0 ?_
      exact K3 _ (if_neg (fun h => (not_not_intro c4) h.1)).symm
    · refine ev_aload_n (pc' := 15) (i := 0) dX8_changes_14 rfl rfl rfl ?_
      refine ev_getR (pc' := 18) fo_X8_40 dX8_changes_15 rfl hs_115 rfl rf_115_14 ?_
      refine ev_bipush (pc' := 20) (v := 10) dX8_changes_18 rfl kb_10 ?_
      refine ev_iload_n (pc' := 21) (i := 1) dX8_changes_20 rfl rfl rfl ?_
      refine ev_imul (pc' := 22) (v := nI (10 * q)) dX8_changes_21 rfl (pk_mul 10 q) ?_
      refine ev_iconst (pc' := 23) (v := 2) dX8_changes_22 rfl ki_2 ?_
      refine ev_iadd (pc' := 24) (v := nI ((10 * q) + 2)) dX8_changes_23 rfl (nI_add (10 * q) 2) ?_
      refine ev_iald (pc' := 25) (j := (10 * q) + 2) (v := (I 124) ((10 * q) + 2)) dX8_changes_24 rfl hs_124 rfl (by omega) (Nat.le_of_ble_eq_true rfl) rfl ?_
      refine ev_if_le (tgt := 32) (pc' := 28) dX8_changes_25 rfl rfl (fun c5 => ?_) (fun c5 => ?_)
      · refine ev_iconst (pc' := 33) (v := 0) dX8_changes_32 rfl ki_0 ?_
        exact K3 _ (if_neg (fun h => (not_not_intro c5) h.2)).symm
      · refine ev_iconst (pc' := 29) (v := 1) dX8_changes_28 rfl ki_1 ?_
        refine ev_goto (tgt := 33) dX8_changes_29 rfl ?_
        exact K3 _ (if_pos (⟨c4, c5⟩)).symm
  intro x2 hx2
  subst hx2
  refine ev_iret dX8_changes_33 rfl b01_n ⟨Nat.le_refl _, Nat.le_refl _⟩ ?_
  exact k
