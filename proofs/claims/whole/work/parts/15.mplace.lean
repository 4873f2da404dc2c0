def mTan (t v : Nat → Int32) (q i : Nat) : Int32 := (((0 + ((t (((16 * q) + (4 * i)) + 0)) * (v 0))) + ((t (((16 * q) + (4 * i)) + 1)) * (v 1))) + ((t (((16 * q) + (4 * i)) + 2)) * (v 2))) + ((t (((16 * q) + (4 * i)) + 3)) * (v 3))
set_option maxRecDepth 4000 in
theorem t_X8_tangentAt {g : ma_G} {Post : ma_P} {I : ma_I} {L : ma_L} (q : Nat) (i : Nat) (a : Nat) (hq : q < 12) (hi : i < 4) (ha : HS a = (9, 4)) (k : Post (some (.int (mTan (I 123) (I a) q i))) HS I L RF 146) : CT g yX8_tangentAt cX8_tangentAt 6 (some .int) rX8_tangentAt [.ref 115, .int (nI q), .int (nI i), .ref a] Post HS I L RF 146 := by
  refine ct_of (lv := [some (.ref 115), some (.int (nI q)), some (.int (nI i)), some (.ref a), none, none]) (by decide) (Nat.le_of_ble_eq_true rfl) rfl ?_
  refine ev_iconst (pc' := 1) (v := 0) dX8_tangentAt_0 rfl ki_0 ?_
  refine ev_istore (pc' := 3) (lv' := [some (.ref 115), some (.int (nI q)), some (.int (nI i)), some (.ref a), some (.int 0), none]) dX8_tangentAt_1 rfl (Nat.le_of_ble_eq_true rfl) rfl rfl ?_
  refine ev_iconst (pc' := 4) (v := 0) dX8_tangentAt_3 rfl ki_0 ?_
  refine ev_istore (pc' := 6) (lv' := [some (.ref 115), some (.int (nI q)), some (.int (nI i)), some (.ref a), some (.int 0), some (.int 0)]) dX8_tangentAt_4 rfl (Nat.le_of_ble_eq_true rfl) rfl rfl ?_
  refine ev_iload (pc' := 8) dX8_tangentAt_6 rfl rfl ?_
  refine ev_iconst (pc' := 9) (v := 4) dX8_tangentAt_8 rfl ki_4 ?_
  refine ev_icmp_ge (tgt := 44) (pc' := 12) dX8_tangentAt_9 rfl rfl (fun h => absurd h (by decide)) (fun _ => ?_)
  refine ev_iload (pc' := 14) dX8_tangentAt_12 rfl rfl ?_
  refine ev_aload_n (pc' := 15) (i := 0) dX8_tangentAt_14 rfl rfl rfl ?_
  refine ev_getR (pc' := 18) fo_X8_37 dX8_tangentAt_15 rfl hs_115 rfl rf_115_13 ?_
  refine ev_bipush (pc' := 20) (v := 16) dX8_tangentAt_18 rfl kb_16 ?_
  refine ev_iload_n (pc' := 21) (i := 1) dX8_tangentAt_20 rfl rfl rfl ?_
  refine ev_imul (pc' := 22) (v := nI (16 * q)) dX8_tangentAt_21 rfl (pk_mul 16 q) ?_
  refine ev_iconst (pc' := 23) (v := 4) dX8_tangentAt_22 rfl ki_4 ?_
  refine ev_iload_n (pc' := 24) (i := 2) dX8_tangentAt_23 rfl rfl rfl ?_
  refine ev_imul (pc' := 25) (v := nI (4 * i)) dX8_tangentAt_24 rfl (pk_mul 4 i) ?_
  refine ev_iadd (pc' := 26) (v := nI ((16 * q) + (4 * i))) dX8_tangentAt_25 rfl (nI_add (16 * q) (4 * i)) ?_
  refine ev_iload (pc' := 28) dX8_tangentAt_26 rfl rfl ?_
  refine ev_iadd (pc' := 29) (v := nI (((16 * q) + (4 * i)) + 0)) dX8_tangentAt_28 rfl (nI_add ((16 * q) + (4 * i)) 0) ?_
  refine ev_iald (pc' := 30) (j := ((16 * q) + (4 * i)) + 0) (v := (I 123) (((16 * q) + (4 * i)) + 0)) dX8_tangentAt_29 rfl hs_123 rfl (by omega) (Nat.le_of_ble_eq_true rfl) rfl ?_
  refine ev_aload_n (pc' := 31) (i := 3) dX8_tangentAt_30 rfl rfl rfl ?_
  refine ev_iload (pc' := 33) dX8_tangentAt_31 rfl rfl ?_
  refine ev_iald (pc' := 34) (j := 0) (v := (I a) 0) dX8_tangentAt_33 rfl ha rfl (Nat.le_of_ble_eq_true rfl) (Nat.le_of_ble_eq_true rfl) rfl ?_
  refine ev_imul (pc' := 35) (v := ((I 123) (((16 * q) + (4 * i)) + 0)) * ((I a) 0)) dX8_tangentAt_34 rfl rfl ?_
  refine ev_iadd (pc' := 36) (v := 0 + (((I 123) (((16 * q) + (4 * i)) + 0)) * ((I a) 0))) dX8_tangentAt_35 rfl rfl ?_
  refine ev_istore (pc' := 38) (lv' := [some (.ref 115), some (.int (nI q)), some (.int (nI i)), some (.ref a), some (.int (0 + (((I 123) (((16 * q) + (4 * i)) + 0)) * ((I a) 0)))), some (.int 0)]) dX8_tangentAt_36 rfl (Nat.le_of_ble_eq_true rfl) rfl rfl ?_
  refine ev_iinc (pc' := 41) (v := 1) (lv' := [some (.ref 115), some (.int (nI q)), some (.int (nI i)), some (.ref a), some (.int (0 + (((I 123) (((16 * q) + (4 * i)) + 0)) * ((I a) 0)))), some (.int 1)]) dX8_tangentAt_38 rfl rfl (by decide) (Nat.le_of_ble_eq_true rfl) rfl rfl ?_
  refine ev_goto (tgt := 6) dX8_tangentAt_41 rfl ?_
  refine ev_iload (pc' := 8) dX8_tangentAt_6 rfl rfl ?_
  refine ev_iconst (pc' := 9) (v := 4) dX8_tangentAt_8 rfl ki_4 ?_
  refine ev_icmp_ge (tgt := 44) (pc' := 12) dX8_tangentAt_9 rfl rfl (fun h => absurd h (by decide)) (fun _ => ?_)
  refine ev_iload (pc' := 14) dX8_tangentAt_12 rfl rfl ?_
  refine ev_aload_n (pc' := 15) (i := 0) dX8_tangentAt_14 rfl rfl rfl ?_
  refine ev_getR (pc' := 18) fo_X8_37 dX8_tangentAt_15 rfl hs_115 rfl rf_115_13 ?_
  refine ev_bipush (pc' := 20) (v := 16) dX8_tangentAt_18 rfl kb_16 ?_
  refine ev_iload_n (pc' := 21) (i := 1) dX8_tangentAt_20 rfl rfl rfl ?_
  refine ev_imul (pc' := 22) (v := nI (16 * q)) dX8_tangentAt_21 rfl (pk_mul 16 q) ?_
  refine ev_iconst (pc' := 23) (v := 4) dX8_tangentAt_22 rfl ki_4 ?_
  refine ev_iload_n (pc' := 24) (i := 2) dX8_tangentAt_23 rfl rfl rfl ?_
  refine ev_imul (pc' := 25) (v := nI (4 * i)) dX8_tangentAt_24 rfl (pk_mul 4 i) ?_
  refine ev_iadd (pc' := 26) (v := nI ((16 * q) + (4 * i))) dX8_tangentAt_25 rfl (nI_add (16 * q) (4 * i)) ?_
  refine ev_iload (pc' := 28) dX8_tangentAt_26 rfl rfl ?_
  refine ev_iadd (pc' := 29) (v := nI (((16 * q) + (4 * i)) + 1)) dX8_tangentAt_28 rfl (nI_add ((16 * q) + (4 * i)) 1) ?_
  refine ev_iald (pc' := 30) (j := ((16 * q) + (4 * i)) + 1) (v := (I 123) (((16 * q) + (4 * i)) + 1)) dX8_tangentAt_29 rfl hs_123 rfl (by omega) (Nat.le_of_ble_eq_true rfl) rfl ?_
  refine ev_aload_n (pc' := 31) (i := 3) dX8_tangentAt_30 rfl rfl rfl ?_
  refine ev_iload (pc' := 33) dX8_tangentAt_31 rfl rfl ?_
  refine ev_iald (pc' := 34) (j := 1) (v := (I a) 1) dX8_tangentAt_33 rfl ha rfl (Nat.le_of_ble_eq_true rfl) (Nat.le_of_ble_eq_true rfl) rfl ?_
  refine ev_imul (pc' := 35) (v := ((I 123) (((16 * q) + (4 * i)) + 1)) * ((I a) 1)) dX8_tangentAt_34 rfl rfl ?_
  refine ev_iadd (pc' := 36) (v := (0 + (((I 123) (((16 * q) + (4 * i)) + 0)) * ((I a) 0))) + (((I 123) (((16 * q) + (4 * i)) + 1)) * ((I a) 1))) dX8_tangentAt_35 rfl rfl ?_
  refine ev_istore (pc' := 38) (lv' := [some (.ref 115), some (.int (nI q)), some (.int (nI i)), some (.ref a), some (.int ((0 + (((I 123) (((16 * q) + (4 * i)) + 0)) * ((I a) 0))) + (((I 123) (((16 * q) + (4 * i)) + 1)) * ((I a) 1)))), some (.int 1)]) dX8_tangentAt_36 rfl (Nat.le_of_ble_eq_true rfl) rfl rfl ?_
  refine ev_iinc (pc' := 41) (v := 2) (lv' := [some (.ref 115), some (.int (nI q)), some (.int (nI i)), some (.ref a), some (.int ((0 + (((I 123) (((16 * q) + (4 * i)) + 0)) * ((I a) 0))) + (((I 123) (((16 * q) + (4 * i)) + 1)) * ((I a) 1)))), some (.int 2)]) dX8_tangentAt_38 rfl rfl (by decide) (Nat.le_of_ble_eq_true rfl) rfl rfl ?_
  refine ev_goto (tgt := 6) dX8_tangentAt_41 rfl ?_
  refine ev_iload (pc' := 8) dX8_tangentAt_6 rfl rfl ?_
  refine ev_iconst (pc' := 9) (v := 4) dX8_tangentAt_8 rfl ki_4 ?_
  refine ev_icmp_ge (tgt := 44) (pc' := 12) dX8_tangentAt_9 rfl rfl (fun h => absurd h (by decide)) (fun _ => ?_)
  refine ev_iload (pc' := 14) dX8_tangentAt_12 rfl rfl ?_
  refine ev_aload_n (pc' := 15) (i := 0) dX8_tangentAt_14 rfl rfl rfl ?_
  refine ev_getR (pc' := 18) fo_X8_37 dX8_tangentAt_15 rfl hs_115 rfl rf_115_13 ?_
  refine ev_bipush (pc' := 20) (v := 16) dX8_tangentAt_18 rfl kb_16 ?_
  refine ev_iload_n (pc' := 21) (i := 1) dX8_tangentAt_20 rfl rfl rfl ?_
  refine ev_imul (pc' := 22) (v := nI (16 * q)) dX8_tangentAt_21 rfl (pk_mul 16 q) ?_
  refine ev_iconst (pc' := 23) (v := 4) dX8_tangentAt_22 rfl ki_4 ?_
  refine ev_iload_n (pc' := 24) (i := 2) dX8_tangentAt_23 rfl rfl rfl ?_
  refine ev_imul (pc' := 25) (v := nI (4 * i)) dX8_tangentAt_24 rfl (pk_mul 4 i) ?_
  refine ev_iadd (pc' := 26) (v := nI ((16 * q) + (4 * i))) dX8_tangentAt_25 rfl (nI_add (16 * q) (4 * i)) ?_
  refine ev_iload (pc' := 28) dX8_tangentAt_26 rfl rfl ?_
  refine ev_iadd (pc' := 29) (v := nI (((16 * q) + (4 * i)) + 2)) dX8_tangentAt_28 rfl (nI_add ((16 * q) + (4 * i)) 2) ?_
  refine ev_iald (pc' := 30) (j := ((16 * q) + (4 * i)) + 2) (v := (I 123) (((16 * q) + (4 * i)) + 2)) dX8_tangentAt_29 rfl hs_123 rfl (by omega) (Nat.le_of_ble_eq_true rfl) rfl ?_
  refine ev_aload_n (pc' := 31) (i := 3) dX8_tangentAt_30 rfl rfl rfl ?_
  refine ev_iload (pc' := 33) dX8_tangentAt_31 rfl rfl ?_
  refine ev_iald (pc' := 34) (j := 2) (v := (I a) 2) dX8_tangentAt_33 rfl ha rfl (Nat.le_of_ble_eq_true rfl) (Nat.le_of_ble_eq_true rfl) rfl ?_
  refine ev_imul (pc' := 35) (v := ((I 123) (((16 * q) + (4 * i)) + 2)) * ((I a) 2)) dX8_tangentAt_34 rfl rfl ?_
  refine ev_iadd (pc' := 36) (v := ((0 + (((I 123) (((16 * q) + (4 * i)) + 0)) * ((I a) 0))) + (((I 123) (((16 * q) + (4 * i)) + 1)) * ((I a) 1))) + (((I 123) (((16 * q) + (4 * i)) + 2)) * ((I a) 2))) dX8_tangentAt_35 rfl rfl ?_
  refine ev_istore (pc' := 38) (lv' := [some (.ref 115), some (.int (nI q)), some (.int (nI i)), some (.ref a), some (.int (((0 + (((I 123) (((16 * q) + (4 * i)) + 0)) * ((I a) 0))) + (((I 123) (((16 * q) + (4 * i)) + 1)) * ((I a) 1))) + (((I 123) (((16 * q) + (4 * i)) + 2)) * ((I a) 2)))), some (.int 2)]) dX8_tangentAt_36 rfl (Nat.le_of_ble_eq_true rfl) rfl rfl ?_
  refine ev_iinc (pc' := 41) (v := 3) (lv' := [some (.ref 115), some (.int (nI q)), some (.int (nI i)), some (.ref a), some (.int (((0 + (((I 123) (((16 * q) + (4 * i)) + 0)) * ((I a) 0))) + (((I 123) (((16 * q) + (4 * i)) + 1)) * ((I a) 1))) + (((I 123) (((16 * q) + (4 * i)) + 2)) * ((I a) 2)))), some (.int 3)]) dX8_tangentAt_38 rfl rfl (by decide) (Nat.le_of_ble_eq_true rfl) rfl rfl ?_
  refine ev_goto (tgt := 6) dX8_tangentAt_41 rfl ?_
  refine ev_iload (pc' := 8) dX8_tangentAt_6 rfl rfl ?_
  refine ev_iconst (pc' := 9) (v := 4) dX8_tangentAt_8 rfl ki_4 ?_
  refine ev_icmp_ge (tgt := 44) (pc' := 12) dX8_tangentAt_9 rfl rfl (fun h => absurd h (by decide)) (fun _ => ?_)
  refine ev_iload (pc' := 14) dX8_tangentAt_12 rfl rfl ?_
  refine ev_aload_n (pc' := 15) (i := 0) dX8_tangentAt_14 rfl rfl rfl ?_
  refine ev_getR (pc' := 18) fo_X8_37 dX8_tangentAt_15 rfl hs_115 rfl rf_115_13 ?_
  refine ev_bipush (pc' := 20) (v := 16) dX8_tangentAt_18 rfl kb_16 ?_
  refine ev_iload_n (pc' := 21) (i := 1) dX8_tangentAt_20 rfl rfl rfl ?_
  refine ev_imul (pc' := 22) (v := nI (16 * q)) dX8_tangentAt_21 rfl (pk_mul 16 q) ?_
  refine ev_iconst (pc' := 23) (v := 4) dX8_tangentAt_22 rfl ki_4 ?_
  refine ev_iload_n (pc' := 24) (i := 2) dX8_tangentAt_23 rfl rfl rfl ?_
  refine ev_imul (pc' := 25) (v := nI (4 * i)) dX8_tangentAt_24 rfl (pk_mul 4 i) ?_
  refine ev_iadd (pc' := 26) (v := nI ((16 * q) + (4 * i))) dX8_tangentAt_25 rfl (nI_add (16 * q) (4 * i)) ?_
  refine ev_iload (pc' := 28) dX8_tangentAt_26 rfl rfl ?_
  refine ev_iadd (pc' := 29) (v := nI (((16 * q) + (4 * i)) + 3)) dX8_tangentAt_28 rfl (nI_add ((16 * q) + (4 * i)) 3) ?_
  refine ev_iald (pc' := 30) (j := ((16 * q) + (4 * i)) + 3) (v := (I 123) (((16 * q) + (4 * i)) + 3)) dX8_tangentAt_29 rfl hs_123 rfl (by omega) (Nat.le_of_ble_eq_true rfl) rfl ?_
  refine ev_aload_n (pc' := 31) (i := 3) dX8_tangentAt_30 rfl rfl rfl ?_
  refine ev_iload (pc' := 33) dX8_tangentAt_31 rfl rfl ?_
  refine ev_iald (pc' := 34) (j := 3) (v := (I a) 3) dX8_tangentAt_33 rfl ha rfl (Nat.le_of_ble_eq_true rfl) (Nat.le_of_ble_eq_true rfl) rfl ?_
  refine ev_imul (pc' := 35) (v := ((I 123) (((16 * q) + (4 * i)) + 3)) * ((I a) 3)) dX8_tangentAt_34 rfl rfl ?_
  refine ev_iadd (pc' := 36) (v := (((0 + (((I 123) (((16 * q) + (4 * i)) + 0)) * ((I a) 0))) + (((I 123) (((16 * q) + (4 * i)) + 1)) * ((I a) 1))) + (((I 123) (((16 * q) + (4 * i)) + 2)) * ((I a) 2))) + (((I 123) (((16 * q) + (4 * i)) + 3)) * ((I a) 3))) dX8_tangentAt_35 rfl rfl ?_
  refine ev_istore (pc' := 38) (lv' := [some (.ref 115), some (.int (nI q)), some (.int (nI i)), some (.ref a), some (.int ((((0 + (((I 123) (((16 * q) + (4 * i)) + 0)) * ((I a) 0))) + (((I 123) (((16 * q) + (4 * i)) + 1)) * ((I a) 1))) + (((I 123) (((16 * q) + (4 * i)) + 2)) * ((I a) 2))) + (((I 123) (((16 * q) + (4 * i)) + 3)) * ((I a) 3)))), some (.int 3)]) dX8_tangentAt_36 rfl (Nat.le_of_ble_eq_true rfl) rfl rfl ?_
  refine ev_iinc (pc' := 41) (v := 4) (lv' := [some (.ref 115), some (.int (nI q)), some (.int (nI i)), some (.ref a), some (.int ((((0 + (((I 123) (((16 * q) + (4 * i)) + 0)) * ((I a) 0))) + (((I 123) (((16 * q) + (4 * i)) + 1)) * ((I a) 1))) + (((I 123) (((16 * q) + (4 * i)) + 2)) * ((I a) 2))) + (((I 123) (((16 * q) + (4 * i)) + 3)) * ((I a) 3)))), some (.int 4)]) dX8_tangentAt_38 rfl rfl (by decide) (Nat.le_of_ble_eq_true rfl) rfl rfl ?_
  refine ev_goto (tgt := 6) dX8_tangentAt_41 rfl ?_
  refine ev_iload (pc' := 8) dX8_tangentAt_6 rfl rfl ?_
  refine ev_iconst (pc' := 9) (v := 4) dX8_tangentAt_8 rfl ki_4 ?_
  refine ev_icmp_ge (tgt := 44) (pc' := 12) dX8_tangentAt_9 rfl rfl (fun _ => ?_) (fun h => absurd (by decide) h)
  refine ev_iload (pc' := 46) dX8_tangentAt_44 rfl rfl ?_
  refine ev_iret dX8_tangentAt_46 rfl rfl ⟨Nat.le_refl _, Nat.le_refl _⟩ ?_
  exact k
def mBo (t u v : Nat → Int32) (q : Nat) : Int32 := (((0 + ((u 0) * (mTan t v q 0))) + ((u 1) * (mTan t v q 1))) + ((u 2) * (mTan t v q 2))) + ((u 3) * (mTan t v q 3))
set_option maxRecDepth 4000 in
theorem t_X8_both {g : ma_G} {Post : ma_P} {I : ma_I} {L : ma_L} (q : Nat) (a : Nat) (b : Nat) (hq : q < 12) (ha : HS a = (9, 4)) (hb : HS b = (9, 4)) (k : Post (some (.int (mBo (I 123) (I a) (I b) q))) HS I L RF 146) : CT g yX8_both cX8_both 6 (some .int) rX8_both [.ref 115, .int (nI q), .ref a, .ref b] Post HS I L RF 146 := by
  refine ct_of (lv := [some (.ref 115), some (.int (nI q)), some (.ref a), some (.ref b), none, none]) (by decide) (Nat.le_of_ble_eq_true rfl) rfl ?_
  refine ev_iconst (pc' := 1) (v := 0) dX8_both_0 rfl ki_0 ?_
  refine ev_istore (pc' := 3) (lv' := [some (.ref 115), some (.int (nI q)), some (.ref a), some (.ref b), some (.int 0), none]) dX8_both_1 rfl (Nat.le_of_ble_eq_true rfl) rfl rfl ?_
  refine ev_iconst (pc' := 4) (v := 0) dX8_both_3 rfl ki_0 ?_
  refine ev_istore (pc' := 6) (lv' := [some (.ref 115), some (.int (nI q)), some (.ref a), some (.ref b), some (.int 0), some (.int 0)]) dX8_both_4 rfl (Nat.le_of_ble_eq_true rfl) rfl rfl ?_
  refine ev_iload (pc' := 8) dX8_both_6 rfl rfl ?_
  refine ev_iconst (pc' := 9) (v := 4) dX8_both_8 rfl ki_4 ?_
  refine ev_icmp_ge (tgt := 36) (pc' := 12) dX8_both_9 rfl rfl (fun h => absurd h (by decide)) (fun _ => ?_)
  refine ev_iload (pc' := 14) dX8_both_12 rfl rfl ?_
  refine ev_aload_n (pc' := 15) (i := 2) dX8_both_14 rfl rfl rfl ?_
  refine ev_iload (pc' := 17) dX8_both_15 rfl rfl ?_
  refine ev_iald (pc' := 18) (j := 0) (v := (I a) 0) dX8_both_17 rfl ha rfl (Nat.le_of_ble_eq_true rfl) (Nat.le_of_ble_eq_true rfl) rfl ?_
  refine ev_aload_n (pc' := 19) (i := 0) dX8_both_18 rfl rfl rfl ?_
  refine ev_iload_n (pc' := 20) (i := 1) dX8_both_19 rfl rfl rfl ?_
  refine ev_iload (pc' := 22) dX8_both_20 rfl rfl ?_
  refine ev_aload_n (pc' := 23) (i := 3) dX8_both_22 rfl rfl rfl ?_
  refine ev_callV (pc' := 26) (rm' := rX8_tangentAt) (b := 115) (av := [.int (nI q), .int 0, .ref b]) (rest := [.int ((I a) 0), .int 0]) co_X8_234 ci_X8_tangentAt cv_X8_tangentAt dX8_both_23 rfl hs_115 hb_X8 rfl rfl (Nat.le_of_ble_eq_true rfl) ⟨(Nat.le_of_ble_eq_true rfl), (Nat.le_of_ble_eq_true rfl)⟩ ⟨(Nat.le_of_ble_eq_true rfl), (Nat.le_of_ble_eq_true rfl)⟩ ?_
  refine t_X8_tangentAt q 0 b (by omega) (by omega) hb ?_
  refine ev_imul (pc' := 27) (v := ((I a) 0) * (mTan (I 123) (I b) q 0)) dX8_both_26 rfl rfl ?_
  refine ev_iadd (pc' := 28) (v := 0 + (((I a) 0) * (mTan (I 123) (I b) q 0))) dX8_both_27 rfl rfl ?_
  refine ev_istore (pc' := 30) (lv' := [some (.ref 115), some (.int (nI q)), some (.ref a), some (.ref b), some (.int (0 + (((I a) 0) * (mTan (I 123) (I b) q 0)))), some (.int 0)]) dX8_both_28 rfl (Nat.le_of_ble_eq_true rfl) rfl rfl ?_
  refine ev_iinc (pc' := 33) (v := 1) (lv' := [some (.ref 115), some (.int (nI q)), some (.ref a), some (.ref b), some (.int (0 + (((I a) 0) * (mTan (I 123) (I b) q 0)))), some (.int 1)]) dX8_both_30 rfl rfl (by decide) (Nat.le_of_ble_eq_true rfl) rfl rfl ?_
  refine ev_goto (tgt := 6) dX8_both_33 rfl ?_
  refine ev_iload (pc' := 8) dX8_both_6 rfl rfl ?_
  refine ev_iconst (pc' := 9) (v := 4) dX8_both_8 rfl ki_4 ?_
  refine ev_icmp_ge (tgt := 36) (pc' := 12) dX8_both_9 rfl rfl (fun h => absurd h (by decide)) (fun _ => ?_)
  refine ev_iload (pc' := 14) dX8_both_12 rfl rfl ?_
  refine ev_aload_n (pc' := 15) (i := 2) dX8_both_14 rfl rfl rfl ?_
  refine ev_iload (pc' := 17) dX8_both_15 rfl rfl ?_
  refine ev_iald (pc' := 18) (j := 1) (v := (I a) 1) dX8_both_17 rfl ha rfl (Nat.le_of_ble_eq_true rfl) (Nat.le_of_ble_eq_true rfl) rfl ?_
  refine ev_aload_n (pc' := 19) (i := 0) dX8_both_18 rfl rfl rfl ?_
  refine ev_iload_n (pc' := 20) (i := 1) dX8_both_19 rfl rfl rfl ?_
  refine ev_iload (pc' := 22) dX8_both_20 rfl rfl ?_
  refine ev_aload_n (pc' := 23) (i := 3) dX8_both_22 rfl rfl rfl ?_
  refine ev_callV (pc' := 26) (rm' := rX8_tangentAt) (b := 115) (av := [.int (nI q), .int 1, .ref b]) (rest := [.int ((I a) 1), .int (0 + (((I a) 0) * (mTan (I 123) (I b) q 0)))]) co_X8_234 ci_X8_tangentAt cv_X8_tangentAt dX8_both_23 rfl hs_115 hb_X8 rfl rfl (Nat.le_of_ble_eq_true rfl) ⟨(Nat.le_of_ble_eq_true rfl), (Nat.le_of_ble_eq_true rfl)⟩ ⟨(Nat.le_of_ble_eq_true rfl), (Nat.le_of_ble_eq_true rfl)⟩ ?_
  refine t_X8_tangentAt q 1 b (by omega) (by omega) hb ?_
  refine ev_imul (pc' := 27) (v := ((I a) 1) * (mTan (I 123) (I b) q 1)) dX8_both_26 rfl rfl ?_
  refine ev_iadd (pc' := 28) (v := (0 + (((I a) 0) * (mTan (I 123) (I b) q 0))) + (((I a) 1) * (mTan (I 123) (I b) q 1))) dX8_both_27 rfl rfl ?_
  refine ev_istore (pc' := 30) (lv' := [some (.ref 115), some (.int (nI q)), some (.ref a), some (.ref b), some (.int ((0 + (((I a) 0) * (mTan (I 123) (I b) q 0))) + (((I a) 1) * (mTan (I 123) (I b) q 1)))), some (.int 1)]) dX8_both_28 rfl (Nat.le_of_ble_eq_true rfl) rfl rfl ?_
  refine ev_iinc (pc' := 33) (v := 2) (lv' := [some (.ref 115), some (.int (nI q)), some (.ref a), some (.ref b), some (.int ((0 + (((I a) 0) * (mTan (I 123) (I b) q 0))) + (((I a) 1) * (mTan (I 123) (I b) q 1)))), some (.int 2)]) dX8_both_30 rfl rfl (by decide) (Nat.le_of_ble_eq_true rfl) rfl rfl ?_
  refine ev_goto (tgt := 6) dX8_both_33 rfl ?_
  refine ev_iload (pc' := 8) dX8_both_6 rfl rfl ?_
  refine ev_iconst (pc' := 9) (v := 4) dX8_both_8 rfl ki_4 ?_
  refine ev_icmp_ge (tgt := 36) (pc' := 12) dX8_both_9 rfl rfl (fun h => absurd h (by decide)) (fun _ => ?_)
  refine ev_iload (pc' := 14) dX8_both_12 rfl rfl ?_
  refine ev_aload_n (pc' := 15) (i := 2) dX8_both_14 rfl rfl rfl ?_
  refine ev_iload (pc' := 17) dX8_both_15 rfl rfl ?_
  refine ev_iald (pc' := 18) (j := 2) (v := (I a) 2) dX8_both_17 rfl ha rfl (Nat.le_of_ble_eq_true rfl) (Nat.le_of_ble_eq_true rfl) rfl ?_
  refine ev_aload_n (pc' := 19) (i := 0) dX8_both_18 rfl rfl rfl ?_
  refine ev_iload_n (pc' := 20) (i := 1) dX8_both_19 rfl rfl rfl ?_
  refine ev_iload (pc' := 22) dX8_both_20 rfl rfl ?_
  refine ev_aload_n (pc' := 23) (i := 3) dX8_both_22 rfl rfl rfl ?_
  refine ev_callV (pc' := 26) (rm' := rX8_tangentAt) (b := 115) (av := [.int (nI q), .int 2, .ref b]) (rest := [.int ((I a) 2), .int ((0 + (((I a) 0) * (mTan (I 123) (I b) q 0))) + (((I a) 1) * (mTan (I 123) (I b) q 1)))]) co_X8_234 ci_X8_tangentAt cv_X8_tangentAt dX8_both_23 rfl hs_115 hb_X8 rfl rfl (Nat.le_of_ble_eq_true rfl) ⟨(Nat.le_of_ble_eq_true rfl), (Nat.le_of_ble_eq_true rfl)⟩ ⟨(Nat.le_of_ble_eq_true rfl), (Nat.le_of_ble_eq_true rfl)⟩ ?_
  refine t_X8_tangentAt q 2 b (by omega) (by omega) hb ?_
  refine ev_imul (pc' := 27) (v := ((I a) 2) * (mTan (I 123) (I b) q 2)) dX8_both_26 rfl rfl ?_
  refine ev_iadd (pc' := 28) (v := ((0 + (((I a) 0) * (mTan (I 123) (I b) q 0))) + (((I a) 1) * (mTan (I 123) (I b) q 1))) + (((I a) 2) * (mTan (I 123) (I b) q 2))) dX8_both_27 rfl rfl ?_
  refine ev_istore (pc' := 30) (lv' := [some (.ref 115), some (.int (nI q)), some (.ref a), some (.ref b), some (.int (((0 + (((I a) 0) * (mTan (I 123) (I b) q 0))) + (((I a) 1) * (mTan (I 123) (I b) q 1))) + (((I a) 2) * (mTan (I 123) (I b) q 2)))), some (.int 2)]) dX8_both_28 rfl (Nat.le_of_ble_eq_true rfl) rfl rfl ?_
  refine ev_iinc (pc' := 33) (v := 3) (lv' := [some (.ref 115), some (.int (nI q)), some (.ref a), some (.ref b), some (.int (((0 + (((I a) 0) * (mTan (I 123) (I b) q 0))) + (((I a) 1) * (mTan (I 123) (I b) q 1))) + (((I a) 2) * (mTan (I 123) (I b) q 2)))), some (.int 3)]) dX8_both_30 rfl rfl (by decide) (Nat.le_of_ble_eq_true rfl) rfl rfl ?_
  refine ev_goto (tgt := 6) dX8_both_33 rfl ?_
  refine ev_iload (pc' := 8) dX8_both_6 rfl rfl ?_
  refine ev_iconst (pc' := 9) (v := 4) dX8_both_8 rfl ki_4 ?_
  refine ev_icmp_ge (tgt := 36) (pc' := 12) dX8_both_9 rfl rfl (fun h => absurd h (by decide)) (fun _ => ?_)
  refine ev_iload (pc' := 14) dX8_both_12 rfl rfl ?_
  refine ev_aload_n (pc' := 15) (i := 2) dX8_both_14 rfl rfl rfl ?_
  refine ev_iload (pc' := 17) dX8_both_15 rfl rfl ?_
  refine ev_iald (pc' := 18) (j := 3) (v := (I a) 3) dX8_both_17 rfl ha rfl (Nat.le_of_ble_eq_true rfl) (Nat.le_of_ble_eq_true rfl) rfl ?_
  refine ev_aload_n (pc' := 19) (i := 0) dX8_both_18 rfl rfl rfl ?_
  refine ev_iload_n (pc' := 20) (i := 1) dX8_both_19 rfl rfl rfl ?_
  refine ev_iload (pc' := 22) dX8_both_20 rfl rfl ?_
  refine ev_aload_n (pc' := 23) (i := 3) dX8_both_22 rfl rfl rfl ?_
  refine ev_callV (pc' := 26) (rm' := rX8_tangentAt) (b := 115) (av := [.int (nI q), .int 3, .ref b]) (rest := [.int ((I a) 3), .int (((0 + (((I a) 0) * (mTan (I 123) (I b) q 0))) + (((I a) 1) * (mTan (I 123) (I b) q 1))) + (((I a) 2) * (mTan (I 123) (I b) q 2)))]) co_X8_234 ci_X8_tangentAt cv_X8_tangentAt dX8_both_23 rfl hs_115 hb_X8 rfl rfl (Nat.le_of_ble_eq_true rfl) ⟨(Nat.le_of_ble_eq_true rfl), (Nat.le_of_ble_eq_true rfl)⟩ ⟨(Nat.le_of_ble_eq_true rfl), (Nat.le_of_ble_eq_true rfl)⟩ ?_
  refine t_X8_tangentAt q 3 b (by omega) (by omega) hb ?_
  refine ev_imul (pc' := 27) (v := ((I a) 3) * (mTan (I 123) (I b) q 3)) dX8_both_26 rfl rfl ?_
  refine ev_iadd (pc' := 28) (v := (((0 + (((I a) 0) * (mTan (I 123) (I b) q 0))) + (((I a) 1) * (mTan (I 123) (I b) q 1))) + (((I a) 2) * (mTan (I 123) (I b) q 2))) + (((I a) 3) * (mTan (I 123) (I b) q 3))) dX8_both_27 rfl rfl ?_
  refine ev_istore (pc' := 30) (lv' := [some (.ref 115), some (.int (nI q)), some (.ref a), some (.ref b), some (.int ((((0 + (((I a) 0) * (mTan (I 123) (I b) q 0))) + (((I a) 1) * (mTan (I 123) (I b) q 1))) + (((I a) 2) * (mTan (I 123) (I b) q 2))) + (((I a) 3) * (mTan (I 123) (I b) q 3)))), some (.int 3)]) dX8_both_28 rfl (Nat.le_of_ble_eq_true rfl) rfl rfl ?_
  refine ev_iinc (pc' := 33) (v := 4) (lv' := [some (.ref 115), some (.int (nI q)), some (.ref a), some (.ref b), some (.int ((((0 + (((I a) 0) * (mTan (I 123) (I b) q 0))) + (((I a) 1) * (mTan (I 123) (I b) q 1))) + (((I a) 2) * (mTan (I 123) (I b) q 2))) + (((I a) 3) * (mTan (I 123) (I b) q 3)))), some (.int 4)]) dX8_both_30 rfl rfl (by decide) (Nat.le_of_ble_eq_true rfl) rfl rfl ?_
  refine ev_goto (tgt := 6) dX8_both_33 rfl ?_
  refine ev_iload (pc' := 8) dX8_both_6 rfl rfl ?_
  refine ev_iconst (pc' := 9) (v := 4) dX8_both_8 rfl ki_4 ?_
  refine ev_icmp_ge (tgt := 36) (pc' := 12) dX8_both_9 rfl rfl (fun _ => ?_) (fun h => absurd (by decide) h)
  refine ev_iload (pc' := 38) dX8_both_36 rfl rfl ?_
  refine ev_iret dX8_both_38 rfl rfl ⟨Nat.le_refl _, Nat.le_refl _⟩ ?_
  exact k
/-- the first four of a sheet: each in reach; all 0 -/
def mGd (f : Nat → Int32) (i : Nat) : Prop := (¬ f i < (-100)) ∧ (¬ 100 < f i)
set_option maxRecDepth 4000 in
theorem t_X8_readFour {g : ma_G} {Post : ma_P} {I : ma_I} {L : ma_L}  (s : Nat) (hs : s < 8) (k1 : (4 ≤ ((I 117) s)) → ∀ x5 : Int32, ∀ y6 : Int32, (((x5 = 0 ∨ x5 = 1) ∧ (x5 = 1 ↔ ∀ j, j < 4 → ((¬ I 118 (16 * s + j) < (-100)) ∧ (¬ 100 < I 118 (16 * s + j))))) ∧ ((y6 = 0 ∨ y6 = 1) ∧ (y6 = 1 ↔ ∀ j, j < 4 → I 118 (16 * s + j) = 0))) → (¬ x5 = 0) → (y6 = 0) → Post (some (.int 0)) HS (mfill I 126 0 4 (fun k => I 118 (16 * s + k))) L RF 146) (k2 : (4 ≤ ((I 117) s)) → ∀ x5 : Int32, ∀ y6 : Int32, (((x5 = 0 ∨ x5 = 1) ∧ (x5 = 1 ↔ ∀ j, j < 4 → ((¬ I 118 (16 * s + j) < (-100)) ∧ (¬ 100 < I 118 (16 * s + j))))) ∧ ((y6 = 0 ∨ y6 = 1) ∧ (y6 = 1 ↔ ∀ j, j < 4 → I 118 (16 * s + j) = 0))) → (¬ x5 = 0) → (¬ y6 = 0) → Post (some (.int (-3))) HS (mMt (mfill I 126 0 4 (fun k => I 118 (16 * s + k))) 4) L RF 146) (k3 : (4 ≤ ((I 117) s)) → ∀ x5 : Int32, ∀ y6 : Int32, (((x5 = 0 ∨ x5 = 1) ∧ (x5 = 1 ↔ ∀ j, j < 4 → ((¬ I 118 (16 * s + j) < (-100)) ∧ (¬ 100 < I 118 (16 * s + j))))) ∧ ((y6 = 0 ∨ y6 = 1) ∧ (y6 = 1 ↔ ∀ j, j < 4 → I 118 (16 * s + j) = 0))) → (x5 = 0) → Post (some (.int (-3))) HS (mMt (mfill I 126 0 4 (fun k => I 118 (16 * s + k))) 2) L RF 146) (k4 : (¬ 4 ≤ ((I 117) s)) → Post (some (.int (-3))) HS (mMt I 5) L RF 146) : CT g yX8_readFour cX8_readFour 6 (some .int) rX8_readFour [.ref 115, .int (nI s), .ref 126] Post HS I L RF 146 := by
  refine ct_of (lv := [some (.ref 115), some (.int (nI s)), some (.ref 126), none, none, none]) (by decide) (Nat.le_of_ble_eq_true rfl) rfl ?_
  refine ev_aload_n (pc' := 1) (i := 0) dX8_readFour_0 rfl rfl rfl ?_
  refine ev_getR (pc' := 4) fo_X8_17 dX8_readFour_1 rfl hs_115 rfl rf_115_5 ?_
  refine ev_iload_n (pc' := 5) (i := 1) dX8_readFour_4 rfl rfl rfl ?_
  refine ev_iald (pc' := 6) (j := s) (v := (I 117) s) dX8_readFour_5 rfl hs_117 rfl (by omega) (Nat.le_of_ble_eq_true rfl) rfl ?_
  refine ev_iconst (pc' := 7) (v := 4) dX8_readFour_6 rfl ki_4 ?_
  refine ev_icmp_ge (tgt := 16) (pc' := 10) dX8_readFour_7 rfl rfl (fun c1 => ?_) (fun c1 => ?_)
  · refine ev_iconst (pc' := 17) (v := 1) dX8_readFour_16 rfl ki_1 ?_
    refine ev_istore_n (pc' := 18) (i := 3) (lv' := [some (.ref 115), some (.int (nI s)), some (.ref 126), some (.int 1), none, none]) dX8_readFour_17 rfl rfl (Nat.le_of_ble_eq_true rfl) rfl rfl ?_
    refine ev_iconst (pc' := 19) (v := 1) dX8_readFour_18 rfl ki_1 ?_
    refine ev_istore (pc' := 21) (lv' := [some (.ref 115), some (.int (nI s)), some (.ref 126), some (.int 1), some (.int 1), none]) dX8_readFour_19 rfl (Nat.le_of_ble_eq_true rfl) rfl rfl ?_
    refine ev_iconst (pc' := 22) (v := 0) dX8_readFour_21 rfl ki_0 ?_
    refine ev_istore (pc' := 24) (lv' := [some (.ref 115), some (.int (nI s)), some (.ref 126), some (.int 1), some (.int 1), some (.int 0)]) dX8_readFour_22 rfl (Nat.le_of_ble_eq_true rfl) rfl rfl ?_
    suffices loop2 : ∀ (d3 i7 : Nat) (x5 : Int32) (y6 : Int32) (J4 : ma_I), i7 + d3 = 4 → (J4 = mfill I 126 0 i7 (fun k => I 118 (16 * s + k)) ∧ (((x5 = 0 ∨ x5 = 1) ∧ (x5 = 1 ↔ ∀ j, j < i7 → ((¬ I 118 (16 * s + j) < (-100)) ∧ (¬ 100 < I 118 (16 * s + j))))) ∧ ((y6 = 0 ∨ y6 = 1) ∧ (y6 = 1 ↔ ∀ j, j < i7 → I 118 (16 * s + j) = 0)))) → EV g yX8_readFour cX8_readFour 6 (some .int) rX8_readFour (ma_ZM g rX8_readFour Post) 24 [some (.ref 115), some (.int (nI s)), some (.ref 126), some (.int x5), some (.int y6), some (.int (nI i7))] [] HS J4 L RF 146 0 0 from loop2 (4 - 0) 0 1 1 I (by omega) (by exact ⟨by (exact (mfill_0 _ _ _ _).symm), by (exact ⟨b_a0, b_a0⟩)⟩)
    intro d3
    induction d3 with
    | zero =>
      intro i7 x5 y6 J4  hi8 hv9
      obtain rfl : i7 = 4 := by omega
      obtain ⟨hjhv9, hv9⟩ := hv9
      subst hjhv9
      refine ev_iload (pc' := 26) dX8_readFour_24 rfl rfl ?_
      refine ev_iconst (pc' := 27) (v := 4) dX8_readFour_26 rfl ki_4 ?_
      refine ev_icmp_ge (tgt := 95) (pc' := 30) dX8_readFour_27 rfl rfl (fun _ => ?_) (fun h => absurd (nx_le (a := 4) (b := 4) (by omega) (by omega)) h)
      refine ev_iload_n (pc' := 96) (i := 3) dX8_readFour_95 rfl rfl rfl ?_
      refine ev_if_ne (tgt := 107) (pc' := 99) dX8_readFour_96 rfl rfl (fun c10 => ?_) (fun c10 => ?_)
      · refine ev_iload (pc' := 109) dX8_readFour_107 rfl rfl ?_
        refine ev_if_eq (tgt := 120) (pc' := 112) dX8_readFour_109 rfl rfl (fun c11 => ?_) (fun c11 => ?_)
        · refine ev_iconst (pc' := 121) (v := 0) dX8_readFour_120 rfl ki_0 ?_
          refine ev_iret dX8_readFour_121 rfl rfl ⟨Nat.le_refl _, Nat.le_refl _⟩ ?_
          exact k1 c1 x5 y6 hv9 c10 c11
        · refine ev_aload_n (pc' := 113) (i := 0) dX8_readFour_112 rfl rfl rfl ?_
          refine ev_iconst (pc' := 114) (v := 4) dX8_readFour_113 rfl ki_4 ?_
          refine ev_callV (pc' := 117) (rm' := rX8_meets) (b := 115) (av := [.int 4]) (rest := []) co_X8_141 ci_X8_meets cv_X8_meets dX8_readFour_114 rfl hs_115 hb_X8 rfl rfl (Nat.le_of_ble_eq_true rfl) ⟨(Nat.le_of_ble_eq_true rfl), (Nat.le_of_ble_eq_true rfl)⟩ ⟨(Nat.le_of_ble_eq_true rfl), (Nat.le_of_ble_eq_true rfl)⟩ ?_
          refine t_X8_meets 4 (by omega) ?_
          refine ev_mMt 4 ?_
          refine ev_goto (tgt := 121) dX8_readFour_117 rfl ?_
          refine ev_iret dX8_readFour_121 rfl rfl ⟨Nat.le_refl _, Nat.le_refl _⟩ ?_
          exact k2 c1 x5 y6 hv9 c10 c11
      · refine ev_aload_n (pc' := 100) (i := 0) dX8_readFour_99 rfl rfl rfl ?_
        refine ev_iconst (pc' := 101) (v := 2) dX8_readFour_100 rfl ki_2 ?_
        refine ev_callV (pc' := 104) (rm' := rX8_meets) (b := 115) (av := [.int 2]) (rest := []) co_X8_141 ci_X8_meets cv_X8_meets dX8_readFour_101 rfl hs_115 hb_X8 rfl rfl (Nat.le_of_ble_eq_true rfl) ⟨(Nat.le_of_ble_eq_true rfl), (Nat.le_of_ble_eq_true rfl)⟩ ⟨(Nat.le_of_ble_eq_true rfl), (Nat.le_of_ble_eq_true rfl)⟩ ?_
        refine t_X8_meets 2 (by omega) ?_
        refine ev_mMt 2 ?_
        refine ev_goto (tgt := 121) dX8_readFour_104 rfl ?_
        refine ev_iret dX8_readFour_121 rfl rfl ⟨Nat.le_refl _, Nat.le_refl _⟩ ?_
        exact k3 c1 x5 y6 hv9 c10
    | succ d3 ih =>
      intro i7 x5 y6 J4  hi8 hv9
      obtain ⟨hjhv9, hv9⟩ := hv9
      subst hjhv9
      refine ev_iload (pc' := 26) dX8_readFour_24 rfl rfl ?_
      refine ev_iconst (pc' := 27) (v := 4) dX8_readFour_26 rfl ki_4 ?_
      refine ev_icmp_ge (tgt := 95) (pc' := 30) dX8_readFour_27 rfl rfl (fun h => absurd h (nx_nle (a := 4) (b := i7) (by omega) (by omega))) (fun _ => ?_)
      refine ev_aload_n (pc' := 31) (i := 2) dX8_readFour_30 rfl rfl rfl ?_
      refine ev_iload (pc' := 33) dX8_readFour_31 rfl rfl ?_
      refine ev_aload_n (pc' := 34) (i := 0) dX8_readFour_33 rfl rfl rfl ?_
      refine ev_getR (pc' := 37) fo_X8_20 dX8_readFour_34 rfl hs_115 rfl rf_115_6 ?_
      refine ev_bipush (pc' := 39) (v := 16) dX8_readFour_37 rfl kb_16 ?_
      refine ev_iload_n (pc' := 40) (i := 1) dX8_readFour_39 rfl rfl rfl ?_
      refine ev_imul (pc' := 41) (v := nI (16 * s)) dX8_readFour_40 rfl (pk_mul 16 s) ?_
      refine ev_iload (pc' := 43) dX8_readFour_41 rfl rfl ?_
      refine ev_iadd (pc' := 44) (v := nI ((16 * s) + i7)) dX8_readFour_43 rfl (nI_add (16 * s) i7) ?_
      refine ev_iald (pc' := 45) (j := (16 * s) + i7) (v := ((mfill I 126 0 i7 (fun k => I 118 (16 * s + k))) 118) ((16 * s) + i7)) dX8_readFour_44 rfl hs_118 rfl (by omega) (Nat.le_of_ble_eq_true rfl) rfl ?_
      refine ev_iast (pc' := 46) (j := i7) (I' := (ma_up (mfill I 126 0 i7 (fun k => I 118 (16 * s + k))) 126 (ma_up ((mfill I 126 0 i7 (fun k => I 118 (16 * s + k))) 126) i7 (((mfill I 126 0 i7 (fun k => I 118 (16 * s + k))) 118) ((16 * s) + i7))))) dX8_readFour_45 rfl hs_126 rfl (by omega) (Nat.le_of_ble_eq_true rfl) rfl ?_
      refine ev_iload_n (pc' := 47) (i := 3) dX8_readFour_46 rfl rfl rfl ?_
      refine ev_if_eq (tgt := 68) (pc' := 50) dX8_readFour_47 rfl rfl (fun c12 => ?_) (fun c12 => ?_)
      · refine ev_iconst (pc' := 69) (v := 0) dX8_readFour_68 rfl ki_0 ?_
        refine ev_istore_n (pc' := 70) (i := 3) (lv' := [some (.ref 115), some (.int (nI s)), some (.ref 126), some (.int 0), some (.int y6), some (.int (nI i7))]) dX8_readFour_69 rfl rfl (Nat.le_of_ble_eq_true rfl) rfl rfl ?_
        refine ev_iload (pc' := 72) dX8_readFour_70 rfl rfl ?_
        suffices K15 : ∀ x14 : Int32, x14 = (if (¬ y6 = 0) ∧ ((((mfill I 126 0 i7 (fun k => I 118 (16 * s + k))) 118) ((16 * s) + i7)) = 0) then (1 : Int32) else 0) → EV g yX8_readFour cX8_readFour 6 (some .int) rX8_readFour (ma_ZM g rX8_readFour Post) 87 [some (.ref 115), some (.int (nI s)), some (.ref 126), some (.int 0), some (.int y6), some (.int (nI i7))] [.int x14] HS (ma_up (mfill I 126 0 i7 (fun k => I 118 (16 * s + k))) 126 (ma_up ((mfill I 126 0 i7 (fun k => I 118 (16 * s + k))) 126) i7 (((mfill I 126 0 i7 (fun k => I 118 (16 * s + k))) 118) ((16 * s) + i7)))) L RF 146 0 0 by
          refine ev_if_eq (tgt := 86) (pc' := 75) dX8_readFour_72 rfl rfl (fun c16 => ?_) (fun c16 => ?_)
          · refine ev_iconst (pc' := 87) (v := 0) dX8_readFour_86 rfl ki_0 ?_
            exact K15 _ (if_neg (fun h => (not_not_intro c16) h.1)).symm
          · refine ev_aload_n (pc' := 76) (i := 2) dX8_readFour_75 rfl rfl rfl ?_
            refine ev_iload (pc' := 78) dX8_readFour_76 rfl rfl ?_
            refine ev_iald (pc' := 79) (j := i7) (v := ((mfill I 126 0 i7 (fun k => I 118 (16 * s + k))) 118) ((16 * s) + i7)) dX8_readFour_78 rfl hs_126 rfl (by omega) (Nat.le_of_ble_eq_true rfl) (ma_up_s _ _ _) ?_
            refine ev_if_ne (tgt := 86) (pc' := 82) dX8_readFour_79 rfl rfl (fun c17 => ?_) (fun c17 => ?_)
            · refine ev_iconst (pc' := 87) (v := 0) dX8_readFour_86 rfl ki_0 ?_
              exact K15 _ (if_neg (fun h => c17 h.2)).symm
            · refine ev_iconst (pc' := 83) (v := 1) dX8_readFour_82 rfl ki_1 ?_
              refine ev_goto (tgt := 87) dX8_readFour_83 rfl ?_
              exact K15 _ (if_pos (⟨c16, c17⟩)).symm
        intro x14 hx14
        subst hx14
        refine ev_istore (pc' := 89) (lv' := [some (.ref 115), some (.int (nI s)), some (.ref 126), some (.int 0), some (.int (if (¬ y6 = 0) ∧ ((((mfill I 126 0 i7 (fun k => I 118 (16 * s + k))) 118) ((16 * s) + i7)) = 0) then (1 : Int32) else 0)), some (.int (nI i7))]) dX8_readFour_87 rfl (Nat.le_of_ble_eq_true rfl) rfl rfl ?_
        refine ev_iinc (pc' := 92) (v := nI (i7 + 1)) (lv' := [some (.ref 115), some (.int (nI s)), some (.ref 126), some (.int 0), some (.int (if (¬ y6 = 0) ∧ ((((mfill I 126 0 i7 (fun k => I 118 (16 * s + k))) 118) ((16 * s) + i7)) = 0) then (1 : Int32) else 0)), some (.int (nI (i7 + 1)))]) dX8_readFour_89 rfl rfl (nI_add i7 1) (Nat.le_of_ble_eq_true rfl) rfl rfl ?_
        refine ev_goto (tgt := 24) dX8_readFour_92 rfl ?_
        exact ih (i7 + 1) _ _ _ (by omega) (by exact ⟨by (exact mfill_s _ _ _ _ _ (by omega) rfl), by (refine ⟨?_, ?_⟩ <;> first | exact b_at (hv9).1 (by assumption) (by assumption) | exact b_at (hv9).2 (by assumption) (by assumption) | exact b_af (hv9).1 (by assumption) | exact b_af (hv9).2 (by assumption) | exact b_ag (by assumption) | exact b_am (hv9).1 | exact b_am (hv9).2 | exact b_ap (hv9).1 (by assumption) | exact b_ap (hv9).2 (by assumption))⟩)
      · refine ev_aload_n (pc' := 51) (i := 2) dX8_readFour_50 rfl rfl rfl ?_
        refine ev_iload (pc' := 53) dX8_readFour_51 rfl rfl ?_
        refine ev_iald (pc' := 54) (j := i7) (v := ((mfill I 126 0 i7 (fun k => I 118 (16 * s + k))) 118) ((16 * s) + i7)) dX8_readFour_53 rfl hs_126 rfl (by omega) (Nat.le_of_ble_eq_true rfl) (ma_up_s _ _ _) ?_
        refine ev_bipush (pc' := 56) (v := (-100)) dX8_readFour_54 rfl kb_m100 ?_
        refine ev_bipush (pc' := 58) (v := 100) dX8_readFour_56 rfl kb_100 ?_
        refine ev_callS (pc' := 61) (rm' := rX8_in) (av := [.int (((mfill I 126 0 i7 (fun k => I 118 (16 * s + k))) 118) ((16 * s) + i7)), .int (-100), .int 100]) (rest := []) co_X8_133 cs_X8_in dX8_readFour_58 rfl rfl rfl (Nat.le_of_ble_eq_true rfl) ⟨(Nat.le_of_ble_eq_true rfl), (Nat.le_of_ble_eq_true rfl)⟩ ⟨(Nat.le_of_ble_eq_true rfl), (Nat.le_of_ble_eq_true rfl)⟩ ?_
        refine t_X8_in (((mfill I 126 0 i7 (fun k => I 118 (16 * s + k))) 118) ((16 * s) + i7)) (-100) 100  ?_
        suffices K20 : ∀ x19 : Int32, x19 = (if (¬ (((mfill I 126 0 i7 (fun k => I 118 (16 * s + k))) 118) ((16 * s) + i7)) < (-100)) ∧ (¬ 100 < (((mfill I 126 0 i7 (fun k => I 118 (16 * s + k))) 118) ((16 * s) + i7))) then (1 : Int32) else 0) → EV g yX8_readFour cX8_readFour 6 (some .int) rX8_readFour (ma_ZM g rX8_readFour Post) 69 [some (.ref 115), some (.int (nI s)), some (.ref 126), some (.int x5), some (.int y6), some (.int (nI i7))] [.int x19] HS (ma_up (mfill I 126 0 i7 (fun k => I 118 (16 * s + k))) 126 (ma_up ((mfill I 126 0 i7 (fun k => I 118 (16 * s + k))) 126) i7 (((mfill I 126 0 i7 (fun k => I 118 (16 * s + k))) 118) ((16 * s) + i7)))) L RF 146 0 0 by
          refine ev_if_eq_b (tgt := 68) (pc' := 64) dX8_readFour_61 rfl rfl (fun c21 => ?_) (fun c21 => ?_)
          · refine ev_iconst (pc' := 69) (v := 0) dX8_readFour_68 rfl ki_0 ?_
            exact K20 _ (if_neg c21).symm
          · refine ev_iconst (pc' := 65) (v := 1) dX8_readFour_64 rfl ki_1 ?_
            refine ev_goto (tgt := 69) dX8_readFour_65 rfl ?_
            exact K20 _ (if_pos c21).symm
        intro x19 hx19
        subst hx19
        refine ev_istore_n (pc' := 70) (i := 3) (lv' := [some (.ref 115), some (.int (nI s)), some (.ref 126), some (.int (if (¬ (((mfill I 126 0 i7 (fun k => I 118 (16 * s + k))) 118) ((16 * s) + i7)) < (-100)) ∧ (¬ 100 < (((mfill I 126 0 i7 (fun k => I 118 (16 * s + k))) 118) ((16 * s) + i7))) then (1 : Int32) else 0)), some (.int y6), some (.int (nI i7))]) dX8_readFour_69 rfl rfl (Nat.le_of_ble_eq_true rfl) rfl rfl ?_
        refine ev_iload (pc' := 72) dX8_readFour_70 rfl rfl ?_
        suffices K24 : ∀ x23 : Int32, x23 = (if (¬ y6 = 0) ∧ ((((mfill I 126 0 i7 (fun k => I 118 (16 * s + k))) 118) ((16 * s) + i7)) = 0) then (1 : Int32) else 0) → EV g yX8_readFour cX8_readFour 6 (some .int) rX8_readFour (ma_ZM g rX8_readFour Post) 87 [some (.ref 115), some (.int (nI s)), some (.ref 126), some (.int (if (¬ (((mfill I 126 0 i7 (fun k => I 118 (16 * s + k))) 118) ((16 * s) + i7)) < (-100)) ∧ (¬ 100 < (((mfill I 126 0 i7 (fun k => I 118 (16 * s + k))) 118) ((16 * s) + i7))) then (1 : Int32) else 0)), some (.int y6), some (.int (nI i7))] [.int x23] HS (ma_up (mfill I 126 0 i7 (fun k => I 118 (16 * s + k))) 126 (ma_up ((mfill I 126 0 i7 (fun k => I 118 (16 * s + k))) 126) i7 (((mfill I 126 0 i7 (fun k => I 118 (16 * s + k))) 118) ((16 * s) + i7)))) L RF 146 0 0 by
          refine ev_if_eq (tgt := 86) (pc' := 75) dX8_readFour_72 rfl rfl (fun c25 => ?_) (fun c25 => ?_)
          · refine ev_iconst (pc' := 87) (v := 0) dX8_readFour_86 rfl ki_0 ?_
            exact K24 _ (if_neg (fun h => (not_not_intro c25) h.1)).symm
          · refine ev_aload_n (pc' := 76) (i := 2) dX8_readFour_75 rfl rfl rfl ?_
            refine ev_iload (pc' := 78) dX8_readFour_76 rfl rfl ?_
            refine ev_iald (pc' := 79) (j := i7) (v := ((mfill I 126 0 i7 (fun k => I 118 (16 * s + k))) 118) ((16 * s) + i7)) dX8_readFour_78 rfl hs_126 rfl (by omega) (Nat.le_of_ble_eq_true rfl) (ma_up_s _ _ _) ?_
            refine ev_if_ne (tgt := 86) (pc' := 82) dX8_readFour_79 rfl rfl (fun c26 => ?_) (fun c26 => ?_)
            · refine ev_iconst (pc' := 87) (v := 0) dX8_readFour_86 rfl ki_0 ?_
              exact K24 _ (if_neg (fun h => c26 h.2)).symm
            · refine ev_iconst (pc' := 83) (v := 1) dX8_readFour_82 rfl ki_1 ?_
              refine ev_goto (tgt := 87) dX8_readFour_83 rfl ?_
              exact K24 _ (if_pos (⟨c25, c26⟩)).symm
        intro x23 hx23
        subst hx23
        refine ev_istore (pc' := 89) (lv' := [some (.ref 115), some (.int (nI s)), some (.ref 126), some (.int (if (¬ (((mfill I 126 0 i7 (fun k => I 118 (16 * s + k))) 118) ((16 * s) + i7)) < (-100)) ∧ (¬ 100 < (((mfill I 126 0 i7 (fun k => I 118 (16 * s + k))) 118) ((16 * s) + i7))) then (1 : Int32) else 0)), some (.int (if (¬ y6 = 0) ∧ ((((mfill I 126 0 i7 (fun k => I 118 (16 * s + k))) 118) ((16 * s) + i7)) = 0) then (1 : Int32) else 0)), some (.int (nI i7))]) dX8_readFour_87 rfl (Nat.le_of_ble_eq_true rfl) rfl rfl ?_
        refine ev_iinc (pc' := 92) (v := nI (i7 + 1)) (lv' := [some (.ref 115), some (.int (nI s)), some (.ref 126), some (.int (if (¬ (((mfill I 126 0 i7 (fun k => I 118 (16 * s + k))) 118) ((16 * s) + i7)) < (-100)) ∧ (¬ 100 < (((mfill I 126 0 i7 (fun k => I 118 (16 * s + k))) 118) ((16 * s) + i7))) then (1 : Int32) else 0)), some (.int (if (¬ y6 = 0) ∧ ((((mfill I 126 0 i7 (fun k => I 118 (16 * s + k))) 118) ((16 * s) + i7)) = 0) then (1 : Int32) else 0)), some (.int (nI (i7 + 1)))]) dX8_readFour_89 rfl rfl (nI_add i7 1) (Nat.le_of_ble_eq_true rfl) rfl rfl ?_
        refine ev_goto (tgt := 24) dX8_readFour_92 rfl ?_
        exact ih (i7 + 1) _ _ _ (by omega) (by exact ⟨by (exact mfill_s _ _ _ _ _ (by omega) rfl), by (refine ⟨?_, ?_⟩ <;> first | exact b_at (hv9).1 (by assumption) (by assumption) | exact b_at (hv9).2 (by assumption) (by assumption) | exact b_af (hv9).1 (by assumption) | exact b_af (hv9).2 (by assumption) | exact b_ag (by assumption) | exact b_am (hv9).1 | exact b_am (hv9).2 | exact b_ap (hv9).1 (by assumption) | exact b_ap (hv9).2 (by assumption))⟩)
  · refine ev_aload_n (pc' := 11) (i := 0) dX8_readFour_10 rfl rfl rfl ?_
    refine ev_iconst (pc' := 12) (v := 5) dX8_readFour_11 rfl ki_5 ?_
    refine ev_callV (pc' := 15) (rm' := rX8_meets) (b := 115) (av := [.int 5]) (rest := []) co_X8_141 ci_X8_meets cv_X8_meets dX8_readFour_12 rfl hs_115 hb_X8 rfl rfl (Nat.le_of_ble_eq_true rfl) ⟨(Nat.le_of_ble_eq_true rfl), (Nat.le_of_ble_eq_true rfl)⟩ ⟨(Nat.le_of_ble_eq_true rfl), (Nat.le_of_ble_eq_true rfl)⟩ ?_
    refine t_X8_meets 5 (by omega) ?_
    refine ev_mMt 5 ?_
    refine ev_iret dX8_readFour_15 rfl rfl ⟨Nat.le_refl _, Nat.le_refl _⟩ ?_
    exact k4 c1
set_option maxRecDepth 4000 in
theorem t_X8_askedPlace {g : ma_G} {Post : ma_P} {I : ma_I} {L : ma_L}  (q : Int32) (s : Int32)  (k1 : (¬ ((¬ q < 0) ∧ (¬ 11 < q))) → Post (some (.int (-1))) HS I L RF 146) (k2 : ∀ n2 : Nat, (n2 < 12) → q = nI n2 → ∀ n4 : Nat, (n4 < 8) → s = nI n4 → (((I 122) n2) = 0) → Post (some (.int (-3))) HS (mMt I 1) L RF 146) (k3 : ∀ n2 : Nat, (n2 < 12) → q = nI n2 → ∀ n4 : Nat, (n4 < 8) → s = nI n4 → (¬ ((I 122) n2) = 0) → (0 ≤ ((I 117) n4)) → (4 ≤ ((I 117) n4)) → ∀ j8 : Int32, ∀ j9 : Int32, (((j8 = 0 ∨ j8 = 1) ∧ (j8 = 1 ↔ ∀ j, j < 4 → ((¬ I 118 (16 * n4 + j) < (-100)) ∧ (¬ 100 < I 118 (16 * n4 + j))))) ∧ ((j9 = 0 ∨ j9 = 1) ∧ (j9 = 1 ↔ ∀ j, j < 4 → I 118 (16 * n4 + j) = 0))) → (¬ j8 = 0) → (j9 = 0) → Post (some (.int 0)) HS (mfill I 126 0 4 (fun k => I 118 (16 * n4 + k))) L RF 146) (k4 : ∀ n2 : Nat, (n2 < 12) → q = nI n2 → ∀ n4 : Nat, (n4 < 8) → s = nI n4 → (¬ ((I 122) n2) = 0) → (0 ≤ ((I 117) n4)) → (4 ≤ ((I 117) n4)) → ∀ j14 : Int32, ∀ j15 : Int32, (((j14 = 0 ∨ j14 = 1) ∧ (j14 = 1 ↔ ∀ j, j < 4 → ((¬ I 118 (16 * n4 + j) < (-100)) ∧ (¬ 100 < I 118 (16 * n4 + j))))) ∧ ((j15 = 0 ∨ j15 = 1) ∧ (j15 = 1 ↔ ∀ j, j < 4 → I 118 (16 * n4 + j) = 0))) → (¬ j14 = 0) → (¬ j15 = 0) → Post (some (.int (-3))) HS (mMt (mfill I 126 0 4 (fun k => I 118 (16 * n4 + k))) 4) L RF 146) (k5 : ∀ n2 : Nat, (n2 < 12) → q = nI n2 → ∀ n4 : Nat, (n4 < 8) → s = nI n4 → (¬ ((I 122) n2) = 0) → (0 ≤ ((I 117) n4)) → (4 ≤ ((I 117) n4)) → ∀ j20 : Int32, ∀ j21 : Int32, (((j20 = 0 ∨ j20 = 1) ∧ (j20 = 1 ↔ ∀ j, j < 4 → ((¬ I 118 (16 * n4 + j) < (-100)) ∧ (¬ 100 < I 118 (16 * n4 + j))))) ∧ ((j21 = 0 ∨ j21 = 1) ∧ (j21 = 1 ↔ ∀ j, j < 4 → I 118 (16 * n4 + j) = 0))) → (j20 = 0) → Post (some (.int (-3))) HS (mMt (mfill I 126 0 4 (fun k => I 118 (16 * n4 + k))) 2) L RF 146) (k6 : ∀ n2 : Nat, (n2 < 12) → q = nI n2 → ∀ n4 : Nat, (n4 < 8) → s = nI n4 → (¬ ((I 122) n2) = 0) → (0 ≤ ((I 117) n4)) → (¬ 4 ≤ ((I 117) n4)) → Post (some (.int (-3))) HS (mMt I 5) L RF 146) (k7 : ∀ n2 : Nat, (n2 < 12) → q = nI n2 → ∀ n4 : Nat, (n4 < 8) → s = nI n4 → (¬ ((I 122) n2) = 0) → (¬ 0 ≤ ((I 117) n4)) → Post (some (.int (-3))) HS (mMt I 1) L RF 146) (k8 : ∀ n2 : Nat, (n2 < 12) → q = nI n2 → (¬ ((¬ s < 0) ∧ (¬ 7 < s))) → Post (some (.int (-1))) HS I L RF 146) : CT g yX8_askedPlace cX8_askedPlace 3 (some .int) rX8_askedPlace [.ref 115, .int q, .int s] Post HS I L RF 146 := by
  refine ct_of (lv := [some (.ref 115), some (.int q), some (.int s)]) (by decide) (Nat.le_of_ble_eq_true rfl) rfl ?_
  refine ev_iload_n (pc' := 1) (i := 1) dX8_askedPlace_0 rfl rfl rfl ?_
  refine ev_callS (pc' := 4) (rm' := rX8_isGround) (av := [.int q]) (rest := []) co_X8_181 cs_X8_isGround dX8_askedPlace_1 rfl rfl rfl (Nat.le_of_ble_eq_true rfl) ⟨(Nat.le_of_ble_eq_true rfl), (Nat.le_of_ble_eq_true rfl)⟩ ⟨(Nat.le_of_ble_eq_true rfl), (Nat.le_of_ble_eq_true rfl)⟩ ?_
  refine t_X8_isGround q  ?_
  refine ev_if_eq_b (tgt := 14) (pc' := 7) dX8_askedPlace_4 rfl rfl (fun c1 => ?_) (fun c1 => ?_)
  · refine ev_iconst (pc' := 15) (v := (-1)) dX8_askedPlace_14 rfl ki_m1 ?_
    refine ev_iret dX8_askedPlace_15 rfl rfl ⟨Nat.le_refl _, Nat.le_refl _⟩ ?_
    exact k1 c1
  · obtain ⟨n2, hn2, en2⟩ := in_of (n := 11) (by omega) rfl c1
    subst en2
    refine ev_iload_n (pc' := 8) (i := 2) dX8_askedPlace_7 rfl rfl rfl ?_
    refine ev_callS (pc' := 11) (rm' := rX8_isSheet) (av := [.int s]) (rest := []) co_X8_137 cs_X8_isSheet dX8_askedPlace_8 rfl rfl rfl (Nat.le_of_ble_eq_true rfl) ⟨(Nat.le_of_ble_eq_true rfl), (Nat.le_of_ble_eq_true rfl)⟩ ⟨(Nat.le_of_ble_eq_true rfl), (Nat.le_of_ble_eq_true rfl)⟩ ?_
    refine t_X8_isSheet s  ?_
    refine ev_if_ne_b (tgt := 16) (pc' := 14) dX8_askedPlace_11 rfl rfl (fun c3 => ?_) (fun c3 => ?_)
    · obtain ⟨n4, hn4, en4⟩ := in_of (n := 7) (by omega) rfl c3
      subst en4
      refine ev_aload_n (pc' := 17) (i := 0) dX8_askedPlace_16 rfl rfl rfl ?_
      refine ev_getR (pc' := 20) fo_X8_33 dX8_askedPlace_17 rfl hs_115 rfl rf_115_12 ?_
      refine ev_iload_n (pc' := 21) (i := 1) dX8_askedPlace_20 rfl rfl rfl ?_
      refine ev_zald (pc' := 22) (j := n2) (v := (I 122) n2) dX8_askedPlace_21 rfl hs_122 rfl (by omega) (Nat.le_of_ble_eq_true rfl) rfl ?_
      refine ev_if_eq (tgt := 34) (pc' := 25) dX8_askedPlace_22 rfl rfl (fun c5 => ?_) (fun c5 => ?_)
      · refine ev_aload_n (pc' := 35) (i := 0) dX8_askedPlace_34 rfl rfl rfl ?_
        refine ev_iconst (pc' := 36) (v := 1) dX8_askedPlace_35 rfl ki_1 ?_
        refine ev_callV (pc' := 39) (rm' := rX8_meets) (b := 115) (av := [.int 1]) (rest := []) co_X8_141 ci_X8_meets cv_X8_meets dX8_askedPlace_36 rfl hs_115 hb_X8 rfl rfl (Nat.le_of_ble_eq_true rfl) ⟨(Nat.le_of_ble_eq_true rfl), (Nat.le_of_ble_eq_true rfl)⟩ ⟨(Nat.le_of_ble_eq_true rfl), (Nat.le_of_ble_eq_true rfl)⟩ ?_
        refine t_X8_meets 1 (by omega) ?_
        refine ev_mMt 1 ?_
        refine ev_goto (tgt := 51) dX8_askedPlace_39 rfl ?_
        refine ev_iret dX8_askedPlace_51 rfl rfl ⟨Nat.le_refl _, Nat.le_refl _⟩ ?_
        exact k2 n2 hn2 rfl n4 hn4 rfl c5
      · refine ev_aload_n (pc' := 26) (i := 0) dX8_askedPlace_25 rfl rfl rfl ?_
        refine ev_getR (pc' := 29) fo_X8_17 dX8_askedPlace_26 rfl hs_115 rfl rf_115_5 ?_
        refine ev_iload_n (pc' := 30) (i := 2) dX8_askedPlace_29 rfl rfl rfl ?_
        refine ev_iald (pc' := 31) (j := n4) (v := (I 117) n4) dX8_askedPlace_30 rfl hs_117 rfl (by omega) (Nat.le_of_ble_eq_true rfl) rfl ?_
        refine ev_if_ge (tgt := 42) (pc' := 34) dX8_askedPlace_31 rfl rfl (fun c6 => ?_) (fun c6 => ?_)
        · refine ev_aload_n (pc' := 43) (i := 0) dX8_askedPlace_42 rfl rfl rfl ?_
          refine ev_iload_n (pc' := 44) (i := 2) dX8_askedPlace_43 rfl rfl rfl ?_
          refine ev_aload_n (pc' := 45) (i := 0) dX8_askedPlace_44 rfl rfl rfl ?_
          refine ev_getR (pc' := 48) fo_X8_46 dX8_askedPlace_45 rfl hs_115 rfl rf_115_16 ?_
          refine ev_callV (pc' := 51) (rm' := rX8_readFour) (b := 115) (av := [.int (nI n4), .ref 126]) (rest := []) co_X8_230 ci_X8_readFour cv_X8_readFour dX8_askedPlace_48 rfl hs_115 hb_X8 rfl rfl (Nat.le_of_ble_eq_true rfl) ⟨(Nat.le_of_ble_eq_true rfl), (Nat.le_of_ble_eq_true rfl)⟩ ⟨(Nat.le_of_ble_eq_true rfl), (Nat.le_of_ble_eq_true rfl)⟩ ?_
          refine t_X8_readFour n4 (by omega) (fun h7 j8 j9 h10 h11 h12 => ?_) (fun h13 j14 j15 h16 h17 h18 => ?_) (fun h19 j20 j21 h22 h23 => ?_) (fun h24 => ?_)
          · skip
            refine ev_iret dX8_askedPlace_51 rfl rfl ⟨Nat.le_refl _, Nat.le_refl _⟩ ?_
            exact k3 n2 hn2 rfl n4 hn4 rfl c5 c6 h7 j8 j9 h10 h11 h12
          · skip
            refine ev_iret dX8_askedPlace_51 rfl rfl ⟨Nat.le_refl _, Nat.le_refl _⟩ ?_
            exact k4 n2 hn2 rfl n4 hn4 rfl c5 c6 h13 j14 j15 h16 h17 h18
          · skip
            refine ev_iret dX8_askedPlace_51 rfl rfl ⟨Nat.le_refl _, Nat.le_refl _⟩ ?_
            exact k5 n2 hn2 rfl n4 hn4 rfl c5 c6 h19 j20 j21 h22 h23
          · skip
            refine ev_iret dX8_askedPlace_51 rfl rfl ⟨Nat.le_refl _, Nat.le_refl _⟩ ?_
            exact k6 n2 hn2 rfl n4 hn4 rfl c5 c6 h24
        · refine ev_aload_n (pc' := 35) (i := 0) dX8_askedPlace_34 rfl rfl rfl ?_
          refine ev_iconst (pc' := 36) (v := 1) dX8_askedPlace_35 rfl ki_1 ?_
          refine ev_callV (pc' := 39) (rm' := rX8_meets) (b := 115) (av := [.int 1]) (rest := []) co_X8_141 ci_X8_meets cv_X8_meets dX8_askedPlace_36 rfl hs_115 hb_X8 rfl rfl (Nat.le_of_ble_eq_true rfl) ⟨(Nat.le_of_ble_eq_true rfl), (Nat.le_of_ble_eq_true rfl)⟩ ⟨(Nat.le_of_ble_eq_true rfl), (Nat.le_of_ble_eq_true rfl)⟩ ?_
          refine t_X8_meets 1 (by omega) ?_
          refine ev_mMt 1 ?_
          refine ev_goto (tgt := 51) dX8_askedPlace_39 rfl ?_
          refine ev_iret dX8_askedPlace_51 rfl rfl ⟨Nat.le_refl _, Nat.le_refl _⟩ ?_
          exact k7 n2 hn2 rfl n4 hn4 rfl c5 c6
    · refine ev_iconst (pc' := 15) (v := (-1)) dX8_askedPlace_14 rfl ki_m1 ?_
      refine ev_iret dX8_askedPlace_15 rfl rfl ⟨Nat.le_refl _, Nat.le_refl _⟩ ?_
      exact k8 n2 hn2 rfl c3
set_option maxRecDepth 4000 in
theorem t_X8_value {g : ma_G} {Post : ma_P} {I : ma_I} {L : ma_L}  (q : Int32) (s : Int32)  (k1 : (¬ ((¬ q < 0) ∧ (¬ 11 < q))) → Post (some (.int (-1))) HS I L RF 146) (k2 : ∀ j2 : Nat, (j2 < 12) → q = nI j2 → ∀ j5 : Nat, (j5 < 8) → s = nI j5 → (((I 122) j2) = 0) → Post (some (.int (-3))) HS (mMt I 1) L RF 146) (k3 : ∀ j9 : Nat, (j9 < 12) → q = nI j9 → ∀ j12 : Nat, (j12 < 8) → s = nI j12 → (¬ ((I 122) j9) = 0) → (0 ≤ ((I 117) j12)) → (4 ≤ ((I 117) j12)) → ∀ j18 : Int32, ∀ j19 : Int32, (((j18 = 0 ∨ j18 = 1) ∧ (j18 = 1 ↔ ∀ j, j < 4 → ((¬ I 118 (16 * j12 + j) < (-100)) ∧ (¬ 100 < I 118 (16 * j12 + j))))) ∧ ((j19 = 0 ∨ j19 = 1) ∧ (j19 = 1 ↔ ∀ j, j < 4 → I 118 (16 * j12 + j) = 0))) → (¬ j18 = 0) → (j19 = 0) → Post (some (.int 1)) HS (ma_up (mfill I 126 0 4 (fun k => I 118 (16 * j12 + k))) 115 (ma_up ((mfill I 126 0 4 (fun k => I 118 (16 * j12 + k))) 115) 2 (mBo ((mfill I 126 0 4 (fun k => I 118 (16 * j12 + k))) 123) ((mfill I 126 0 4 (fun k => I 118 (16 * j12 + k))) 126) ((mfill I 126 0 4 (fun k => I 118 (16 * j12 + k))) 126) j9))) L RF 146) (k4 : ∀ j23 : Nat, (j23 < 12) → q = nI j23 → ∀ j26 : Nat, (j26 < 8) → s = nI j26 → (¬ ((I 122) j23) = 0) → (0 ≤ ((I 117) j26)) → (4 ≤ ((I 117) j26)) → ∀ j32 : Int32, ∀ j33 : Int32, (((j32 = 0 ∨ j32 = 1) ∧ (j32 = 1 ↔ ∀ j, j < 4 → ((¬ I 118 (16 * j26 + j) < (-100)) ∧ (¬ 100 < I 118 (16 * j26 + j))))) ∧ ((j33 = 0 ∨ j33 = 1) ∧ (j33 = 1 ↔ ∀ j, j < 4 → I 118 (16 * j26 + j) = 0))) → (¬ j32 = 0) → (¬ j33 = 0) → Post (some (.int (-3))) HS (mMt (mfill I 126 0 4 (fun k => I 118 (16 * j26 + k))) 4) L RF 146) (k5 : ∀ j37 : Nat, (j37 < 12) → q = nI j37 → ∀ j40 : Nat, (j40 < 8) → s = nI j40 → (¬ ((I 122) j37) = 0) → (0 ≤ ((I 117) j40)) → (4 ≤ ((I 117) j40)) → ∀ j46 : Int32, ∀ j47 : Int32, (((j46 = 0 ∨ j46 = 1) ∧ (j46 = 1 ↔ ∀ j, j < 4 → ((¬ I 118 (16 * j40 + j) < (-100)) ∧ (¬ 100 < I 118 (16 * j40 + j))))) ∧ ((j47 = 0 ∨ j47 = 1) ∧ (j47 = 1 ↔ ∀ j, j < 4 → I 118 (16 * j40 + j) = 0))) → (j46 = 0) → Post (some (.int (-3))) HS (mMt (mfill I 126 0 4 (fun k => I 118 (16 * j40 + k))) 2) L RF 146) (k6 : ∀ j50 : Nat, (j50 < 12) → q = nI j50 → ∀ j53 : Nat, (j53 < 8) → s = nI j53 → (¬ ((I 122) j50) = 0) → (0 ≤ ((I 117) j53)) → (¬ 4 ≤ ((I 117) j53)) → Post (some (.int (-3))) HS (mMt I 5) L RF 146) (k7 : ∀ j59 : Nat, (j59 < 12) → q = nI j59 → ∀ j62 : Nat, (j62 < 8) → s = nI j62 → (¬ ((I 122) j59) = 0) → (¬ 0 ≤ ((I 117) j62)) → Post (some (.int (-3))) HS (mMt I 1) L RF 146) (k8 : ∀ j67 : Nat, (j67 < 12) → q = nI j67 → (¬ ((¬ s < 0) ∧ (¬ 7 < s))) → Post (some (.int (-1))) HS I L RF 146) : CT g yX8_value cX8_value 4 (some .int) rX8_value [.ref 115, .int q, .int s] Post HS I L RF 146 := by
  refine ct_of (lv := [some (.ref 115), some (.int q), some (.int s), none]) (by decide) (Nat.le_of_ble_eq_true rfl) rfl ?_
  refine ev_aload_n (pc' := 1) (i := 0) dX8_value_0 rfl rfl rfl ?_
  refine ev_iload_n (pc' := 2) (i := 1) dX8_value_1 rfl rfl rfl ?_
  refine ev_iload_n (pc' := 3) (i := 2) dX8_value_2 rfl rfl rfl ?_
  refine ev_callV (pc' := 6) (rm' := rX8_askedPlace) (b := 115) (av := [.int q, .int s]) (rest := []) co_X8_238 ci_X8_askedPlace cv_X8_askedPlace dX8_value_3 rfl hs_115 hb_X8 rfl rfl (Nat.le_of_ble_eq_true rfl) ⟨(Nat.le_of_ble_eq_true rfl), (Nat.le_of_ble_eq_true rfl)⟩ ⟨(Nat.le_of_ble_eq_true rfl), (Nat.le_of_ble_eq_true rfl)⟩ ?_
  refine t_X8_askedPlace q s  (fun h1 => ?_) (fun j2 h3 e4 j5 h6 e7 h8 => ?_) (fun j9 h10 e11 j12 h13 e14 h15 h16 h17 j18 j19 h20 h21 h22 => ?_) (fun j23 h24 e25 j26 h27 e28 h29 h30 h31 j32 j33 h34 h35 h36 => ?_) (fun j37 h38 e39 j40 h41 e42 h43 h44 h45 j46 j47 h48 h49 => ?_) (fun j50 h51 e52 j53 h54 e55 h56 h57 h58 => ?_) (fun j59 h60 e61 j62 h63 e64 h65 h66 => ?_) (fun j67 h68 e69 h70 => ?_)
  · skip
    refine ev_istore_n (pc' := 7) (i := 3) (lv' := [some (.ref 115), some (.int q), some (.int s), some (.int (-1))]) dX8_value_6 rfl rfl (Nat.le_of_ble_eq_true rfl) rfl rfl ?_
    refine ev_iload_n (pc' := 8) (i := 3) dX8_value_7 rfl rfl rfl ?_
    refine ev_if_ge (tgt := 15) (pc' := 11) dX8_value_8 rfl rfl (fun h => absurd h (by decide)) (fun _ => ?_)
    refine ev_iload_n (pc' := 12) (i := 3) dX8_value_11 rfl rfl rfl ?_
    refine ev_goto (tgt := 33) dX8_value_12 rfl ?_
    refine ev_iret dX8_value_33 rfl rfl ⟨Nat.le_refl _, Nat.le_refl _⟩ ?_
    exact k1 h1
  · subst e4
    subst e7
    refine ev_istore_n (pc' := 7) (i := 3) (lv' := [some (.ref 115), some (.int (nI j2)), some (.int (nI j5)), some (.int (-3))]) dX8_value_6 rfl rfl (Nat.le_of_ble_eq_true rfl) rfl rfl ?_
    refine ev_iload_n (pc' := 8) (i := 3) dX8_value_7 rfl rfl rfl ?_
    refine ev_if_ge (tgt := 15) (pc' := 11) dX8_value_8 rfl rfl (fun h => absurd h (by decide)) (fun _ => ?_)
    refine ev_iload_n (pc' := 12) (i := 3) dX8_value_11 rfl rfl rfl ?_
    refine ev_goto (tgt := 33) dX8_value_12 rfl ?_
    refine ev_iret dX8_value_33 rfl rfl ⟨Nat.le_refl _, Nat.le_refl _⟩ ?_
    exact k2 j2 h3 rfl j5 h6 rfl h8
  · subst e11
    subst e14
    refine ev_istore_n (pc' := 7) (i := 3) (lv' := [some (.ref 115), some (.int (nI j9)), some (.int (nI j12)), some (.int 0)]) dX8_value_6 rfl rfl (Nat.le_of_ble_eq_true rfl) rfl rfl ?_
    refine ev_iload_n (pc' := 8) (i := 3) dX8_value_7 rfl rfl rfl ?_
    refine ev_if_ge (tgt := 15) (pc' := 11) dX8_value_8 rfl rfl (fun _ => ?_) (fun h => absurd (by decide) h)
    refine ev_aload_n (pc' := 16) (i := 0) dX8_value_15 rfl rfl rfl ?_
    refine ev_aload_n (pc' := 17) (i := 0) dX8_value_16 rfl rfl rfl ?_
    refine ev_iload_n (pc' := 18) (i := 1) dX8_value_17 rfl rfl rfl ?_
    refine ev_aload_n (pc' := 19) (i := 0) dX8_value_18 rfl rfl rfl ?_
    refine ev_getR (pc' := 22) fo_X8_46 dX8_value_19 rfl hs_115 rfl rf_115_16 ?_
    refine ev_aload_n (pc' := 23) (i := 0) dX8_value_22 rfl rfl rfl ?_
    refine ev_getR (pc' := 26) fo_X8_46 dX8_value_23 rfl hs_115 rfl rf_115_16 ?_
    refine ev_callV (pc' := 29) (rm' := rX8_both) (b := 115) (av := [.int (nI j9), .ref 126, .ref 126]) (rest := [.ref 115]) co_X8_241 ci_X8_both cv_X8_both dX8_value_26 rfl hs_115 hb_X8 rfl rfl (Nat.le_of_ble_eq_true rfl) ⟨(Nat.le_of_ble_eq_true rfl), (Nat.le_of_ble_eq_true rfl)⟩ ⟨(Nat.le_of_ble_eq_true rfl), (Nat.le_of_ble_eq_true rfl)⟩ ?_
    refine t_X8_both j9 126 126 (by omega) hs_126 hs_126 ?_
    refine ev_iconst (pc' := 30) (v := 1) dX8_value_29 rfl ki_1 ?_
    refine ev_callV (pc' := 33) (rm' := rX8_ask) (b := 115) (av := [.int (mBo ((mfill I 126 0 4 (fun k => I 118 (16 * j12 + k))) 123) ((mfill I 126 0 4 (fun k => I 118 (16 * j12 + k))) 126) ((mfill I 126 0 4 (fun k => I 118 (16 * j12 + k))) 126) j9), .int 1]) (rest := []) co_X8_213 ci_X8_ask cv_X8_ask dX8_value_30 rfl hs_115 hb_X8 rfl rfl (Nat.le_of_ble_eq_true rfl) ⟨(Nat.le_of_ble_eq_true rfl), (Nat.le_of_ble_eq_true rfl)⟩ ⟨(Nat.le_of_ble_eq_true rfl), (Nat.le_of_ble_eq_true rfl)⟩ ?_
    refine t_X8_ask (mBo ((mfill I 126 0 4 (fun k => I 118 (16 * j12 + k))) 123) ((mfill I 126 0 4 (fun k => I 118 (16 * j12 + k))) 126) ((mfill I 126 0 4 (fun k => I 118 (16 * j12 + k))) 126) j9) 1  ?_
    refine ev_iret dX8_value_33 rfl rfl ⟨Nat.le_refl _, Nat.le_refl _⟩ ?_
    exact k3 j9 h10 rfl j12 h13 rfl h15 h16 h17 j18 j19 h20 h21 h22
  · subst e25
    subst e28
    refine ev_istore_n (pc' := 7) (i := 3) (lv' := [some (.ref 115), some (.int (nI j23)), some (.int (nI j26)), some (.int (-3))]) dX8_value_6 rfl rfl (Nat.le_of_ble_eq_true rfl) rfl rfl ?_
    refine ev_iload_n (pc' := 8) (i := 3) dX8_value_7 rfl rfl rfl ?_
    refine ev_if_ge (tgt := 15) (pc' := 11) dX8_value_8 rfl rfl (fun h => absurd h (by decide)) (fun _ => ?_)
    refine ev_iload_n (pc' := 12) (i := 3) dX8_value_11 rfl rfl rfl ?_
    refine ev_goto (tgt := 33) dX8_value_12 rfl ?_
    refine ev_iret dX8_value_33 rfl rfl ⟨Nat.le_refl _, Nat.le_refl _⟩ ?_
    exact k4 j23 h24 rfl j26 h27 rfl h29 h30 h31 j32 j33 h34 h35 h36
  · subst e39
    subst e42
    refine ev_istore_n (pc' := 7) (i := 3) (lv' := [some (.ref 115), some (.int (nI j37)), some (.int (nI j40)), some (.int (-3))]) dX8_value_6 rfl rfl (Nat.le_of_ble_eq_true rfl) rfl rfl ?_
    refine ev_iload_n (pc' := 8) (i := 3) dX8_value_7 rfl rfl rfl ?_
    refine ev_if_ge (tgt := 15) (pc' := 11) dX8_value_8 rfl rfl (fun h => absurd h (by decide)) (fun _ => ?_)
    refine ev_iload_n (pc' := 12) (i := 3) dX8_value_11 rfl rfl rfl ?_
    refine ev_goto (tgt := 33) dX8_value_12 rfl ?_
    refine ev_iret dX8_value_33 rfl rfl ⟨Nat.le_refl _, Nat.le_refl _⟩ ?_
    exact k5 j37 h38 rfl j40 h41 rfl h43 h44 h45 j46 j47 h48 h49
  · subst e52
    subst e55
    refine ev_istore_n (pc' := 7) (i := 3) (lv' := [some (.ref 115), some (.int (nI j50)), some (.int (nI j53)), some (.int (-3))]) dX8_value_6 rfl rfl (Nat.le_of_ble_eq_true rfl) rfl rfl ?_
    refine ev_iload_n (pc' := 8) (i := 3) dX8_value_7 rfl rfl rfl ?_
    refine ev_if_ge (tgt := 15) (pc' := 11) dX8_value_8 rfl rfl (fun h => absurd h (by decide)) (fun _ => ?_)
    refine ev_iload_n (pc' := 12) (i := 3) dX8_value_11 rfl rfl rfl ?_
    refine ev_goto (tgt := 33) dX8_value_12 rfl ?_
    refine ev_iret dX8_value_33 rfl rfl ⟨Nat.le_refl _, Nat.le_refl _⟩ ?_
    exact k6 j50 h51 rfl j53 h54 rfl h56 h57 h58
  · subst e61
    subst e64
    refine ev_istore_n (pc' := 7) (i := 3) (lv' := [some (.ref 115), some (.int (nI j59)), some (.int (nI j62)), some (.int (-3))]) dX8_value_6 rfl rfl (Nat.le_of_ble_eq_true rfl) rfl rfl ?_
    refine ev_iload_n (pc' := 8) (i := 3) dX8_value_7 rfl rfl rfl ?_
    refine ev_if_ge (tgt := 15) (pc' := 11) dX8_value_8 rfl rfl (fun h => absurd h (by decide)) (fun _ => ?_)
    refine ev_iload_n (pc' := 12) (i := 3) dX8_value_11 rfl rfl rfl ?_
    refine ev_goto (tgt := 33) dX8_value_12 rfl ?_
    refine ev_iret dX8_value_33 rfl rfl ⟨Nat.le_refl _, Nat.le_refl _⟩ ?_
    exact k7 j59 h60 rfl j62 h63 rfl h65 h66
  · subst e69
    refine ev_istore_n (pc' := 7) (i := 3) (lv' := [some (.ref 115), some (.int (nI j67)), some (.int s), some (.int (-1))]) dX8_value_6 rfl rfl (Nat.le_of_ble_eq_true rfl) rfl rfl ?_
    refine ev_iload_n (pc' := 8) (i := 3) dX8_value_7 rfl rfl rfl ?_
    refine ev_if_ge (tgt := 15) (pc' := 11) dX8_value_8 rfl rfl (fun h => absurd h (by decide)) (fun _ => ?_)
    refine ev_iload_n (pc' := 12) (i := 3) dX8_value_11 rfl rfl rfl ?_
    refine ev_goto (tgt := 33) dX8_value_12 rfl ?_
    refine ev_iret dX8_value_33 rfl rfl ⟨Nat.le_refl _, Nat.le_refl _⟩ ?_
    exact k8 j67 h68 rfl h70
