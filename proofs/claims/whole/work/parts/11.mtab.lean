set_option maxRecDepth 4000 in
theorem t_X8_layTable {g : ma_G} {Post : ma_P} {I : ma_I} {L : ma_L} (q : Nat) (hq : q < 12) (k : Post none HS I (mfill L 120 0 16 (fun k => (I 123 (16 * q + k)).toInt64)) RF 146) : CT g yX8_layTable cX8_layTable 3 none rX8_layTable [.ref 115, .int (nI q)] Post HS I L RF 146 := by
  refine ct_of (lv := [some (.ref 115), some (.int (nI q)), none]) (by decide) (Nat.le_of_ble_eq_true rfl) rfl ?_
  refine ev_iconst (pc' := 1) (v := 0) dX8_layTable_0 rfl ki_0 ?_
  refine ev_istore_n (pc' := 2) (i := 2) (lv' := [some (.ref 115), some (.int (nI q)), some (.int 0)]) dX8_layTable_1 rfl rfl (Nat.le_of_ble_eq_true rfl) rfl rfl ?_
  suffices loop1 : ∀ (d2 i4 : Nat) (K3 : ma_L), i4 + d2 = 16 → (K3 = mfill L 120 0 i4 (fun k => (I 123 (16 * q + k)).toInt64)) → EV g yX8_layTable cX8_layTable 3 none rX8_layTable (ma_ZM g rX8_layTable Post) 2 [some (.ref 115), some (.int (nI q)), some (.int (nI i4))] [] HS I K3 RF 146 0 0 from loop1 (16 - 0) 0 L (by omega) (by exact (mfill_0 _ _ _ _).symm)
  intro d2
  induction d2 with
  | zero =>
    intro i4   K3 hi5 hv6
    obtain rfl : i4 = 16 := by omega
    refine ev_iload_n (pc' := 3) (i := 2) dX8_layTable_2 rfl rfl rfl ?_
    refine ev_bipush (pc' := 5) (v := 16) dX8_layTable_3 rfl kb_16 ?_
    refine ev_icmp_ge (tgt := 32) (pc' := 8) dX8_layTable_5 rfl rfl (fun _ => ?_) (fun h => absurd (nx_le (a := 16) (b := 16) (by omega) (by omega)) h)
    refine ev_vret dX8_layTable_32 rfl ⟨Nat.le_refl _, Nat.le_refl _⟩ ?_
    subst hv6
    exact k
  | succ d2 ih =>
    intro i4   K3 hi5 hv6
    refine ev_iload_n (pc' := 3) (i := 2) dX8_layTable_2 rfl rfl rfl ?_
    refine ev_bipush (pc' := 5) (v := 16) dX8_layTable_3 rfl kb_16 ?_
    refine ev_icmp_ge (tgt := 32) (pc' := 8) dX8_layTable_5 rfl rfl (fun h => absurd h (nx_nle (a := 16) (b := i4) (by omega) (by omega))) (fun _ => ?_)
    refine ev_aload_n (pc' := 9) (i := 0) dX8_layTable_8 rfl rfl rfl ?_
    refine ev_getR (pc' := 12) fo_X8_26 dX8_layTable_9 rfl hs_115 rfl rf_115_8 ?_
    refine ev_iload_n (pc' := 13) (i := 2) dX8_layTable_12 rfl rfl rfl ?_
    refine ev_aload_n (pc' := 14) (i := 0) dX8_layTable_13 rfl rfl rfl ?_
    refine ev_getR (pc' := 17) fo_X8_37 dX8_layTable_14 rfl hs_115 rfl rf_115_13 ?_
    refine ev_bipush (pc' := 19) (v := 16) dX8_layTable_17 rfl kb_16 ?_
    refine ev_iload_n (pc' := 20) (i := 1) dX8_layTable_19 rfl rfl rfl ?_
    refine ev_imul (pc' := 21) (v := nI (16 * q)) dX8_layTable_20 rfl (pk_mul 16 q) ?_
    refine ev_iload_n (pc' := 22) (i := 2) dX8_layTable_21 rfl rfl rfl ?_
    refine ev_iadd (pc' := 23) (v := nI ((16 * q) + i4)) dX8_layTable_22 rfl (nI_add (16 * q) i4) ?_
    refine ev_iald (pc' := 24) (j := (16 * q) + i4) (v := (I 123) ((16 * q) + i4)) dX8_layTable_23 rfl hs_123 rfl (by omega) (Nat.le_of_ble_eq_true rfl) rfl ?_
    refine ev_i2l (pc' := 25) (v := Int32.toInt64 ((I 123) ((16 * q) + i4))) dX8_layTable_24 rfl rfl ?_
    refine ev_last (pc' := 26) (j := i4) (L' := (ma_up K3 120 (ma_up (K3 120) i4 (Int32.toInt64 ((I 123) ((16 * q) + i4)))))) dX8_layTable_25 rfl hs_120 rfl (by omega) (Nat.le_of_ble_eq_true rfl) rfl ?_
    refine ev_iinc (pc' := 29) (v := nI (i4 + 1)) (lv' := [some (.ref 115), some (.int (nI q)), some (.int (nI (i4 + 1)))]) dX8_layTable_26 rfl rfl (nI_add i4 1) (Nat.le_of_ble_eq_true rfl) rfl rfl ?_
    refine ev_goto (tgt := 2) dX8_layTable_29 rfl ?_
    exact ih (i4 + 1) _ (by omega) (by rw [hv6]; exact mfill_s _ _ _ _ _ (by omega) rfl)
