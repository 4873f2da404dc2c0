/-- a table turned by tn and moved by x, y, z -/
def mMv (T : Nat → Int32) (tn x y z : Int32) : Nat → Int32
  | 0 => tn * (T 0)
  | 1 => tn * (T 1)
  | 2 => tn * (T 2)
  | 3 => (tn * (T 3)) - ((((tn * (T 0)) * x) + ((tn * (T 1)) * y)) + ((tn * (T 2)) * z))
  | 4 => tn * (T 4)
  | 5 => tn * (T 5)
  | 6 => tn * (T 6)
  | 7 => (tn * (T 7)) - ((((tn * (T 4)) * x) + ((tn * (T 5)) * y)) + ((tn * (T 6)) * z))
  | 8 => tn * (T 8)
  | 9 => tn * (T 9)
  | 10 => tn * (T 10)
  | 11 => (tn * (T 11)) - ((((tn * (T 8)) * x) + ((tn * (T 9)) * y)) + ((tn * (T 10)) * z))
  | 12 => (tn * (T 3)) - ((((tn * (T 0)) * x) + ((tn * (T 1)) * y)) + ((tn * (T 2)) * z))
  | 13 => (tn * (T 7)) - ((((tn * (T 4)) * x) + ((tn * (T 5)) * y)) + ((tn * (T 6)) * z))
  | 14 => (tn * (T 11)) - ((((tn * (T 8)) * x) + ((tn * (T 9)) * y)) + ((tn * (T 10)) * z))
  | _ => (((tn * (T 15)) + (((x * (((tn * (T 3)) - ((((tn * (T 0)) * x) + ((tn * (T 1)) * y)) + ((tn * (T 2)) * z))) - (tn * (T 3)))) * (-1)) - ((2 * x) * (tn * (T 3))))) + (((y * (((tn * (T 7)) - ((((tn * (T 4)) * x) + ((tn * (T 5)) * y)) + ((tn * (T 6)) * z))) - (tn * (T 7)))) * (-1)) - ((2 * y) * (tn * (T 7))))) + (((z * (((tn * (T 11)) - ((((tn * (T 8)) * x) + ((tn * (T 9)) * y)) + ((tn * (T 10)) * z))) - (tn * (T 11)))) * (-1)) - ((2 * z) * (tn * (T 11))))
def mTn (F : Nat → Int32) (q : Nat) : Int32 := (if ¬ (F ((10 * q) + 1)) = 3 then (-1) else 1)
set_option maxRecDepth 4000 in
theorem t_X8_layMoved133 {g : ma_G} {Post : ma_P} {I : ma_I} {L : ma_L} (q : Nat) (x y z : Int32) (hq : q < 12) (k : ∀ N R : Nat → Int32, (∀ j, j < 16 → R j = mMv (fun k => I 123 (16 * q + k)) (mTn (I 124) q) x y z j) → Post none HS (ma_up (ma_up I 125 N) 133 R) L RF 146) : CT g yX8_layMoved cX8_layMoved 10 none rX8_layMoved [.ref 115, .int (nI q), .ref 133, .int x, .int y, .int z] Post HS I L RF 146 := by
  refine ct_of (lv := [some (.ref 115), some (.int (nI q)), some (.ref 133), some (.int x), some (.int y), some (.int z), none, none, none, none]) (by decide) (Nat.le_of_ble_eq_true rfl) rfl ?_
  refine ev_aload_n (pc' := 1) (i := 0) dX8_layMoved_0 rfl rfl rfl ?_
  refine ev_getR (pc' := 4) fo_X8_40 dX8_layMoved_1 rfl hs_115 rfl rf_115_14 ?_
  refine ev_bipush (pc' := 6) (v := 10) dX8_layMoved_4 rfl kb_10 ?_
  refine ev_iload_n (pc' := 7) (i := 1) dX8_layMoved_6 rfl rfl rfl ?_
  refine ev_imul (pc' := 8) (v := nI (10 * q)) dX8_layMoved_7 rfl (pk_mul 10 q) ?_
  refine ev_iconst (pc' := 9) (v := 1) dX8_layMoved_8 rfl ki_1 ?_
  refine ev_iadd (pc' := 10) (v := nI ((10 * q) + 1)) dX8_layMoved_9 rfl (nI_add (10 * q) 1) ?_
  refine ev_iald (pc' := 11) (j := (10 * q) + 1) (v := (I 124) ((10 * q) + 1)) dX8_layMoved_10 rfl hs_124 rfl (by omega) (Nat.le_of_ble_eq_true rfl) rfl ?_
  refine ev_iconst (pc' := 12) (v := 3) dX8_layMoved_11 rfl ki_3 ?_
  suffices K3 : ∀ x2 : Int32, x2 = (if ¬ ((I 124) ((10 * q) + 1)) = 3 then (-1) else 1) → EV g yX8_layMoved cX8_layMoved 10 none rX8_layMoved (ma_ZM g rX8_layMoved Post) 20 [some (.ref 115), some (.int (nI q)), some (.ref 133), some (.int x), some (.int y), some (.int z), none, none, none, none] [.int x2] HS I L RF 146 0 0 by
    refine ev_icmp_ne (tgt := 19) (pc' := 15) dX8_layMoved_12 rfl rfl (fun c4 => ?_) (fun c4 => ?_)
    · refine ev_iconst (pc' := 20) (v := (-1)) dX8_layMoved_19 rfl ki_m1 ?_
      exact K3 _ (by rw [if_pos c4])
    · refine ev_iconst (pc' := 16) (v := 1) dX8_layMoved_15 rfl ki_1 ?_
      refine ev_goto (tgt := 20) dX8_layMoved_16 rfl ?_
      exact K3 _ (by rw [if_neg (not_not_intro c4)])
  intro x2 hx2
  subst hx2
  refine ev_topi (fun tn htn => ?_)
  refine ev_istore (pc' := 22) (lv' := [some (.ref 115), some (.int (nI q)), some (.ref 133), some (.int x), some (.int y), some (.int z), some (.int tn), none, none, none]) dX8_layMoved_20 rfl (Nat.le_of_ble_eq_true rfl) rfl rfl ?_
  refine ev_iconst (pc' := 23) (v := 0) dX8_layMoved_22 rfl ki_0 ?_
  refine ev_istore (pc' := 25) (lv' := [some (.ref 115), some (.int (nI q)), some (.ref 133), some (.int x), some (.int y), some (.int z), some (.int tn), some (.int 0), none, none]) dX8_layMoved_23 rfl (Nat.le_of_ble_eq_true rfl) rfl rfl ?_
  refine ev_iload (pc' := 27) dX8_layMoved_25 rfl rfl ?_
  refine ev_bipush (pc' := 29) (v := 16) dX8_layMoved_27 rfl kb_16 ?_
  refine ev_icmp_ge (tgt := 60) (pc' := 32) dX8_layMoved_29 rfl rfl (fun h => absurd h (by decide)) (fun _ => ?_)
  refine ev_aload_n (pc' := 33) (i := 0) dX8_layMoved_32 rfl rfl rfl ?_
  refine ev_getR (pc' := 36) fo_X8_43 dX8_layMoved_33 rfl hs_115 rfl rf_115_15 ?_
  refine ev_iload (pc' := 38) dX8_layMoved_36 rfl rfl ?_
  refine ev_iload (pc' := 40) dX8_layMoved_38 rfl rfl ?_
  refine ev_aload_n (pc' := 41) (i := 0) dX8_layMoved_40 rfl rfl rfl ?_
  refine ev_getR (pc' := 44) fo_X8_37 dX8_layMoved_41 rfl hs_115 rfl rf_115_13 ?_
  refine ev_bipush (pc' := 46) (v := 16) dX8_layMoved_44 rfl kb_16 ?_
  refine ev_iload_n (pc' := 47) (i := 1) dX8_layMoved_46 rfl rfl rfl ?_
  refine ev_imul (pc' := 48) (v := nI (16 * q)) dX8_layMoved_47 rfl (pk_mul 16 q) ?_
  refine ev_iload (pc' := 50) dX8_layMoved_48 rfl rfl ?_
  refine ev_iadd (pc' := 51) (v := nI ((16 * q) + 0)) dX8_layMoved_50 rfl (nI_add (16 * q) 0) ?_
  refine ev_iald (pc' := 52) (j := (16 * q) + 0) (v := (I 123) ((16 * q) + 0)) dX8_layMoved_51 rfl hs_123 rfl (by omega) (Nat.le_of_ble_eq_true rfl) rfl ?_
  refine ev_imul (pc' := 53) (v := tn * ((I 123) ((16 * q) + 0))) dX8_layMoved_52 rfl rfl ?_
  refine ev_iast (pc' := 54) (j := 0) (I' := (ma_up I 125 (ma_up (I 125) 0 (tn * ((I 123) ((16 * q) + 0)))))) dX8_layMoved_53 rfl hs_125 rfl (Nat.le_of_ble_eq_true rfl) (Nat.le_of_ble_eq_true rfl) rfl ?_
  refine ev_iinc (pc' := 57) (v := 1) (lv' := [some (.ref 115), some (.int (nI q)), some (.ref 133), some (.int x), some (.int y), some (.int z), some (.int tn), some (.int 1), none, none]) dX8_layMoved_54 rfl rfl (by decide) (Nat.le_of_ble_eq_true rfl) rfl rfl ?_
  refine ev_goto (tgt := 25) dX8_layMoved_57 rfl ?_
  refine ev_iload (pc' := 27) dX8_layMoved_25 rfl rfl ?_
  refine ev_bipush (pc' := 29) (v := 16) dX8_layMoved_27 rfl kb_16 ?_
  refine ev_icmp_ge (tgt := 60) (pc' := 32) dX8_layMoved_29 rfl rfl (fun h => absurd h (by decide)) (fun _ => ?_)
  refine ev_aload_n (pc' := 33) (i := 0) dX8_layMoved_32 rfl rfl rfl ?_
  refine ev_getR (pc' := 36) fo_X8_43 dX8_layMoved_33 rfl hs_115 rfl rf_115_15 ?_
  refine ev_iload (pc' := 38) dX8_layMoved_36 rfl rfl ?_
  refine ev_iload (pc' := 40) dX8_layMoved_38 rfl rfl ?_
  refine ev_aload_n (pc' := 41) (i := 0) dX8_layMoved_40 rfl rfl rfl ?_
  refine ev_getR (pc' := 44) fo_X8_37 dX8_layMoved_41 rfl hs_115 rfl rf_115_13 ?_
  refine ev_bipush (pc' := 46) (v := 16) dX8_layMoved_44 rfl kb_16 ?_
  refine ev_iload_n (pc' := 47) (i := 1) dX8_layMoved_46 rfl rfl rfl ?_
  refine ev_imul (pc' := 48) (v := nI (16 * q)) dX8_layMoved_47 rfl (pk_mul 16 q) ?_
  refine ev_iload (pc' := 50) dX8_layMoved_48 rfl rfl ?_
  refine ev_iadd (pc' := 51) (v := nI ((16 * q) + 1)) dX8_layMoved_50 rfl (nI_add (16 * q) 1) ?_
  refine ev_iald (pc' := 52) (j := (16 * q) + 1) (v := (I 123) ((16 * q) + 1)) dX8_layMoved_51 rfl hs_123 rfl (by omega) (Nat.le_of_ble_eq_true rfl) rfl ?_
  refine ev_imul (pc' := 53) (v := tn * ((I 123) ((16 * q) + 1))) dX8_layMoved_52 rfl rfl ?_
  refine ev_iast (pc' := 54) (j := 1) (I' := (ma_up I 125 (ma_up (ma_up (I 125) 0 (tn * ((I 123) ((16 * q) + 0)))) 1 (tn * ((I 123) ((16 * q) + 1)))))) dX8_layMoved_53 rfl hs_125 rfl (Nat.le_of_ble_eq_true rfl) (Nat.le_of_ble_eq_true rfl) (ma_up_up _ _ _ _) ?_
  refine ev_iinc (pc' := 57) (v := 2) (lv' := [some (.ref 115), some (.int (nI q)), some (.ref 133), some (.int x), some (.int y), some (.int z), some (.int tn), some (.int 2), none, none]) dX8_layMoved_54 rfl rfl (by decide) (Nat.le_of_ble_eq_true rfl) rfl rfl ?_
  refine ev_goto (tgt := 25) dX8_layMoved_57 rfl ?_
  refine ev_iload (pc' := 27) dX8_layMoved_25 rfl rfl ?_
  refine ev_bipush (pc' := 29) (v := 16) dX8_layMoved_27 rfl kb_16 ?_
  refine ev_icmp_ge (tgt := 60) (pc' := 32) dX8_layMoved_29 rfl rfl (fun h => absurd h (by decide)) (fun _ => ?_)
  refine ev_aload_n (pc' := 33) (i := 0) dX8_layMoved_32 rfl rfl rfl ?_
  refine ev_getR (pc' := 36) fo_X8_43 dX8_layMoved_33 rfl hs_115 rfl rf_115_15 ?_
  refine ev_iload (pc' := 38) dX8_layMoved_36 rfl rfl ?_
  refine ev_iload (pc' := 40) dX8_layMoved_38 rfl rfl ?_
  refine ev_aload_n (pc' := 41) (i := 0) dX8_layMoved_40 rfl rfl rfl ?_
  refine ev_getR (pc' := 44) fo_X8_37 dX8_layMoved_41 rfl hs_115 rfl rf_115_13 ?_
  refine ev_bipush (pc' := 46) (v := 16) dX8_layMoved_44 rfl kb_16 ?_
  refine ev_iload_n (pc' := 47) (i := 1) dX8_layMoved_46 rfl rfl rfl ?_
  refine ev_imul (pc' := 48) (v := nI (16 * q)) dX8_layMoved_47 rfl (pk_mul 16 q) ?_
  refine ev_iload (pc' := 50) dX8_layMoved_48 rfl rfl ?_
  refine ev_iadd (pc' := 51) (v := nI ((16 * q) + 2)) dX8_layMoved_50 rfl (nI_add (16 * q) 2) ?_
  refine ev_iald (pc' := 52) (j := (16 * q) + 2) (v := (I 123) ((16 * q) + 2)) dX8_layMoved_51 rfl hs_123 rfl (by omega) (Nat.le_of_ble_eq_true rfl) rfl ?_
  refine ev_imul (pc' := 53) (v := tn * ((I 123) ((16 * q) + 2))) dX8_layMoved_52 rfl rfl ?_
  refine ev_iast (pc' := 54) (j := 2) (I' := (ma_up I 125 (ma_up (ma_up (ma_up (I 125) 0 (tn * ((I 123) ((16 * q) + 0)))) 1 (tn * ((I 123) ((16 * q) + 1)))) 2 (tn * ((I 123) ((16 * q) + 2)))))) dX8_layMoved_53 rfl hs_125 rfl (Nat.le_of_ble_eq_true rfl) (Nat.le_of_ble_eq_true rfl) (ma_up_up _ _ _ _) ?_
  refine ev_iinc (pc' := 57) (v := 3) (lv' := [some (.ref 115), some (.int (nI q)), some (.ref 133), some (.int x), some (.int y), some (.int z), some (.int tn), some (.int 3), none, none]) dX8_layMoved_54 rfl rfl (by decide) (Nat.le_of_ble_eq_true rfl) rfl rfl ?_
  refine ev_goto (tgt := 25) dX8_layMoved_57 rfl ?_
  refine ev_iload (pc' := 27) dX8_layMoved_25 rfl rfl ?_
  refine ev_bipush (pc' := 29) (v := 16) dX8_layMoved_27 rfl kb_16 ?_
  refine ev_icmp_ge (tgt := 60) (pc' := 32) dX8_layMoved_29 rfl rfl (fun h => absurd h (by decide)) (fun _ => ?_)
  refine ev_aload_n (pc' := 33) (i := 0) dX8_layMoved_32 rfl rfl rfl ?_
  refine ev_getR (pc' := 36) fo_X8_43 dX8_layMoved_33 rfl hs_115 rfl rf_115_15 ?_
  refine ev_iload (pc' := 38) dX8_layMoved_36 rfl rfl ?_
  refine ev_iload (pc' := 40) dX8_layMoved_38 rfl rfl ?_
  refine ev_aload_n (pc' := 41) (i := 0) dX8_layMoved_40 rfl rfl rfl ?_
  refine ev_getR (pc' := 44) fo_X8_37 dX8_layMoved_41 rfl hs_115 rfl rf_115_13 ?_
  refine ev_bipush (pc' := 46) (v := 16) dX8_layMoved_44 rfl kb_16 ?_
  refine ev_iload_n (pc' := 47) (i := 1) dX8_layMoved_46 rfl rfl rfl ?_
  refine ev_imul (pc' := 48) (v := nI (16 * q)) dX8_layMoved_47 rfl (pk_mul 16 q) ?_
  refine ev_iload (pc' := 50) dX8_layMoved_48 rfl rfl ?_
  refine ev_iadd (pc' := 51) (v := nI ((16 * q) + 3)) dX8_layMoved_50 rfl (nI_add (16 * q) 3) ?_
  refine ev_iald (pc' := 52) (j := (16 * q) + 3) (v := (I 123) ((16 * q) + 3)) dX8_layMoved_51 rfl hs_123 rfl (by omega) (Nat.le_of_ble_eq_true rfl) rfl ?_
  refine ev_imul (pc' := 53) (v := tn * ((I 123) ((16 * q) + 3))) dX8_layMoved_52 rfl rfl ?_
  refine ev_iast (pc' := 54) (j := 3) (I' := (ma_up I 125 (ma_up (ma_up (ma_up (ma_up (I 125) 0 (tn * ((I 123) ((16 * q) + 0)))) 1 (tn * ((I 123) ((16 * q) + 1)))) 2 (tn * ((I 123) ((16 * q) + 2)))) 3 (tn * ((I 123) ((16 * q) + 3)))))) dX8_layMoved_53 rfl hs_125 rfl (Nat.le_of_ble_eq_true rfl) (Nat.le_of_ble_eq_true rfl) (ma_up_up _ _ _ _) ?_
  refine ev_iinc (pc' := 57) (v := 4) (lv' := [some (.ref 115), some (.int (nI q)), some (.ref 133), some (.int x), some (.int y), some (.int z), some (.int tn), some (.int 4), none, none]) dX8_layMoved_54 rfl rfl (by decide) (Nat.le_of_ble_eq_true rfl) rfl rfl ?_
  refine ev_goto (tgt := 25) dX8_layMoved_57 rfl ?_
  refine ev_iload (pc' := 27) dX8_layMoved_25 rfl rfl ?_
  refine ev_bipush (pc' := 29) (v := 16) dX8_layMoved_27 rfl kb_16 ?_
  refine ev_icmp_ge (tgt := 60) (pc' := 32) dX8_layMoved_29 rfl rfl (fun h => absurd h (by decide)) (fun _ => ?_)
  refine ev_aload_n (pc' := 33) (i := 0) dX8_layMoved_32 rfl rfl rfl ?_
  refine ev_getR (pc' := 36) fo_X8_43 dX8_layMoved_33 rfl hs_115 rfl rf_115_15 ?_
  refine ev_iload (pc' := 38) dX8_layMoved_36 rfl rfl ?_
  refine ev_iload (pc' := 40) dX8_layMoved_38 rfl rfl ?_
  refine ev_aload_n (pc' := 41) (i := 0) dX8_layMoved_40 rfl rfl rfl ?_
  refine ev_getR (pc' := 44) fo_X8_37 dX8_layMoved_41 rfl hs_115 rfl rf_115_13 ?_
  refine ev_bipush (pc' := 46) (v := 16) dX8_layMoved_44 rfl kb_16 ?_
  refine ev_iload_n (pc' := 47) (i := 1) dX8_layMoved_46 rfl rfl rfl ?_
  refine ev_imul (pc' := 48) (v := nI (16 * q)) dX8_layMoved_47 rfl (pk_mul 16 q) ?_
  refine ev_iload (pc' := 50) dX8_layMoved_48 rfl rfl ?_
  refine ev_iadd (pc' := 51) (v := nI ((16 * q) + 4)) dX8_layMoved_50 rfl (nI_add (16 * q) 4) ?_
  refine ev_iald (pc' := 52) (j := (16 * q) + 4) (v := (I 123) ((16 * q) + 4)) dX8_layMoved_51 rfl hs_123 rfl (by omega) (Nat.le_of_ble_eq_true rfl) rfl ?_
  refine ev_imul (pc' := 53) (v := tn * ((I 123) ((16 * q) + 4))) dX8_layMoved_52 rfl rfl ?_
  refine ev_iast (pc' := 54) (j := 4) (I' := (ma_up I 125 (ma_up (ma_up (ma_up (ma_up (ma_up (I 125) 0 (tn * ((I 123) ((16 * q) + 0)))) 1 (tn * ((I 123) ((16 * q) + 1)))) 2 (tn * ((I 123) ((16 * q) + 2)))) 3 (tn * ((I 123) ((16 * q) + 3)))) 4 (tn * ((I 123) ((16 * q) + 4)))))) dX8_layMoved_53 rfl hs_125 rfl (Nat.le_of_ble_eq_true rfl) (Nat.le_of_ble_eq_true rfl) (ma_up_up _ _ _ _) ?_
  refine ev_iinc (pc' := 57) (v := 5) (lv' := [some (.ref 115), some (.int (nI q)), some (.ref 133), some (.int x), some (.int y), some (.int z), some (.int tn), some (.int 5), none, none]) dX8_layMoved_54 rfl rfl (by decide) (Nat.le_of_ble_eq_true rfl) rfl rfl ?_
  refine ev_goto (tgt := 25) dX8_layMoved_57 rfl ?_
  refine ev_iload (pc' := 27) dX8_layMoved_25 rfl rfl ?_
  refine ev_bipush (pc' := 29) (v := 16) dX8_layMoved_27 rfl kb_16 ?_
  refine ev_icmp_ge (tgt := 60) (pc' := 32) dX8_layMoved_29 rfl rfl (fun h => absurd h (by decide)) (fun _ => ?_)
  refine ev_aload_n (pc' := 33) (i := 0) dX8_layMoved_32 rfl rfl rfl ?_
  refine ev_getR (pc' := 36) fo_X8_43 dX8_layMoved_33 rfl hs_115 rfl rf_115_15 ?_
  refine ev_iload (pc' := 38) dX8_layMoved_36 rfl rfl ?_
  refine ev_iload (pc' := 40) dX8_layMoved_38 rfl rfl ?_
  refine ev_aload_n (pc' := 41) (i := 0) dX8_layMoved_40 rfl rfl rfl ?_
  refine ev_getR (pc' := 44) fo_X8_37 dX8_layMoved_41 rfl hs_115 rfl rf_115_13 ?_
  refine ev_bipush (pc' := 46) (v := 16) dX8_layMoved_44 rfl kb_16 ?_
  refine ev_iload_n (pc' := 47) (i := 1) dX8_layMoved_46 rfl rfl rfl ?_
  refine ev_imul (pc' := 48) (v := nI (16 * q)) dX8_layMoved_47 rfl (pk_mul 16 q) ?_
  refine ev_iload (pc' := 50) dX8_layMoved_48 rfl rfl ?_
  refine ev_iadd (pc' := 51) (v := nI ((16 * q) + 5)) dX8_layMoved_50 rfl (nI_add (16 * q) 5) ?_
  refine ev_iald (pc' := 52) (j := (16 * q) + 5) (v := (I 123) ((16 * q) + 5)) dX8_layMoved_51 rfl hs_123 rfl (by omega) (Nat.le_of_ble_eq_true rfl) rfl ?_
  refine ev_imul (pc' := 53) (v := tn * ((I 123) ((16 * q) + 5))) dX8_layMoved_52 rfl rfl ?_
  refine ev_iast (pc' := 54) (j := 5) (I' := (ma_up I 125 (ma_up (ma_up (ma_up (ma_up (ma_up (ma_up (I 125) 0 (tn * ((I 123) ((16 * q) + 0)))) 1 (tn * ((I 123) ((16 * q) + 1)))) 2 (tn * ((I 123) ((16 * q) + 2)))) 3 (tn * ((I 123) ((16 * q) + 3)))) 4 (tn * ((I 123) ((16 * q) + 4)))) 5 (tn * ((I 123) ((16 * q) + 5)))))) dX8_layMoved_53 rfl hs_125 rfl (Nat.le_of_ble_eq_true rfl) (Nat.le_of_ble_eq_true rfl) (ma_up_up _ _ _ _) ?_
  refine ev_iinc (pc' := 57) (v := 6) (lv' := [some (.ref 115), some (.int (nI q)), some (.ref 133), some (.int x), some (.int y), some (.int z), some (.int tn), some (.int 6), none, none]) dX8_layMoved_54 rfl rfl (by decide) (Nat.le_of_ble_eq_true rfl) rfl rfl ?_
  refine ev_goto (tgt := 25) dX8_layMoved_57 rfl ?_
  refine ev_iload (pc' := 27) dX8_layMoved_25 rfl rfl ?_
  refine ev_bipush (pc' := 29) (v := 16) dX8_layMoved_27 rfl kb_16 ?_
  refine ev_icmp_ge (tgt := 60) (pc' := 32) dX8_layMoved_29 rfl rfl (fun h => absurd h (by decide)) (fun _ => ?_)
  refine ev_aload_n (pc' := 33) (i := 0) dX8_layMoved_32 rfl rfl rfl ?_
  refine ev_getR (pc' := 36) fo_X8_43 dX8_layMoved_33 rfl hs_115 rfl rf_115_15 ?_
  refine ev_iload (pc' := 38) dX8_layMoved_36 rfl rfl ?_
  refine ev_iload (pc' := 40) dX8_layMoved_38 rfl rfl ?_
  refine ev_aload_n (pc' := 41) (i := 0) dX8_layMoved_40 rfl rfl rfl ?_
  refine ev_getR (pc' := 44) fo_X8_37 dX8_layMoved_41 rfl hs_115 rfl rf_115_13 ?_
  refine ev_bipush (pc' := 46) (v := 16) dX8_layMoved_44 rfl kb_16 ?_
  refine ev_iload_n (pc' := 47) (i := 1) dX8_layMoved_46 rfl rfl rfl ?_
  refine ev_imul (pc' := 48) (v := nI (16 * q)) dX8_layMoved_47 rfl (pk_mul 16 q) ?_
  refine ev_iload (pc' := 50) dX8_layMoved_48 rfl rfl ?_
  refine ev_iadd (pc' := 51) (v := nI ((16 * q) + 6)) dX8_layMoved_50 rfl (nI_add (16 * q) 6) ?_
  refine ev_iald (pc' := 52) (j := (16 * q) + 6) (v := (I 123) ((16 * q) + 6)) dX8_layMoved_51 rfl hs_123 rfl (by omega) (Nat.le_of_ble_eq_true rfl) rfl ?_
  refine ev_imul (pc' := 53) (v := tn * ((I 123) ((16 * q) + 6))) dX8_layMoved_52 rfl rfl ?_
  refine ev_iast (pc' := 54) (j := 6) (I' := (ma_up I 125 (ma_up (ma_up (ma_up (ma_up (ma_up (ma_up (ma_up (I 125) 0 (tn * ((I 123) ((16 * q) + 0)))) 1 (tn * ((I 123) ((16 * q) + 1)))) 2 (tn * ((I 123) ((16 * q) + 2)))) 3 (tn * ((I 123) ((16 * q) + 3)))) 4 (tn * ((I 123) ((16 * q) + 4)))) 5 (tn * ((I 123) ((16 * q) + 5)))) 6 (tn * ((I 123) ((16 * q) + 6)))))) dX8_layMoved_53 rfl hs_125 rfl (Nat.le_of_ble_eq_true rfl) (Nat.le_of_ble_eq_true rfl) (ma_up_up _ _ _ _) ?_
  refine ev_iinc (pc' := 57) (v := 7) (lv' := [some (.ref 115), some (.int (nI q)), some (.ref 133), some (.int x), some (.int y), some (.int z), some (.int tn), some (.int 7), none, none]) dX8_layMoved_54 rfl rfl (by decide) (Nat.le_of_ble_eq_true rfl) rfl rfl ?_
  refine ev_goto (tgt := 25) dX8_layMoved_57 rfl ?_
  refine ev_iload (pc' := 27) dX8_layMoved_25 rfl rfl ?_
  refine ev_bipush (pc' := 29) (v := 16) dX8_layMoved_27 rfl kb_16 ?_
  refine ev_icmp_ge (tgt := 60) (pc' := 32) dX8_layMoved_29 rfl rfl (fun h => absurd h (by decide)) (fun _ => ?_)
  refine ev_aload_n (pc' := 33) (i := 0) dX8_layMoved_32 rfl rfl rfl ?_
  refine ev_getR (pc' := 36) fo_X8_43 dX8_layMoved_33 rfl hs_115 rfl rf_115_15 ?_
  refine ev_iload (pc' := 38) dX8_layMoved_36 rfl rfl ?_
  refine ev_iload (pc' := 40) dX8_layMoved_38 rfl rfl ?_
  refine ev_aload_n (pc' := 41) (i := 0) dX8_layMoved_40 rfl rfl rfl ?_
  refine ev_getR (pc' := 44) fo_X8_37 dX8_layMoved_41 rfl hs_115 rfl rf_115_13 ?_
  refine ev_bipush (pc' := 46) (v := 16) dX8_layMoved_44 rfl kb_16 ?_
  refine ev_iload_n (pc' := 47) (i := 1) dX8_layMoved_46 rfl rfl rfl ?_
  refine ev_imul (pc' := 48) (v := nI (16 * q)) dX8_layMoved_47 rfl (pk_mul 16 q) ?_
  refine ev_iload (pc' := 50) dX8_layMoved_48 rfl rfl ?_
  refine ev_iadd (pc' := 51) (v := nI ((16 * q) + 7)) dX8_layMoved_50 rfl (nI_add (16 * q) 7) ?_
  refine ev_iald (pc' := 52) (j := (16 * q) + 7) (v := (I 123) ((16 * q) + 7)) dX8_layMoved_51 rfl hs_123 rfl (by omega) (Nat.le_of_ble_eq_true rfl) rfl ?_
  refine ev_imul (pc' := 53) (v := tn * ((I 123) ((16 * q) + 7))) dX8_layMoved_52 rfl rfl ?_
  refine ev_iast (pc' := 54) (j := 7) (I' := (ma_up I 125 (ma_up (ma_up (ma_up (ma_up (ma_up (ma_up (ma_up (ma_up (I 125) 0 (tn * ((I 123) ((16 * q) + 0)))) 1 (tn * ((I 123) ((16 * q) + 1)))) 2 (tn * ((I 123) ((16 * q) + 2)))) 3 (tn * ((I 123) ((16 * q) + 3)))) 4 (tn * ((I 123) ((16 * q) + 4)))) 5 (tn * ((I 123) ((16 * q) + 5)))) 6 (tn * ((I 123) ((16 * q) + 6)))) 7 (tn * ((I 123) ((16 * q) + 7)))))) dX8_layMoved_53 rfl hs_125 rfl (Nat.le_of_ble_eq_true rfl) (Nat.le_of_ble_eq_true rfl) (ma_up_up _ _ _ _) ?_
  refine ev_iinc (pc' := 57) (v := 8) (lv' := [some (.ref 115), some (.int (nI q)), some (.ref 133), some (.int x), some (.int y), some (.int z), some (.int tn), some (.int 8), none, none]) dX8_layMoved_54 rfl rfl (by decide) (Nat.le_of_ble_eq_true rfl) rfl rfl ?_
  refine ev_goto (tgt := 25) dX8_layMoved_57 rfl ?_
  refine ev_iload (pc' := 27) dX8_layMoved_25 rfl rfl ?_
  refine ev_bipush (pc' := 29) (v := 16) dX8_layMoved_27 rfl kb_16 ?_
  refine ev_icmp_ge (tgt := 60) (pc' := 32) dX8_layMoved_29 rfl rfl (fun h => absurd h (by decide)) (fun _ => ?_)
  refine ev_aload_n (pc' := 33) (i := 0) dX8_layMoved_32 rfl rfl rfl ?_
  refine ev_getR (pc' := 36) fo_X8_43 dX8_layMoved_33 rfl hs_115 rfl rf_115_15 ?_
  refine ev_iload (pc' := 38) dX8_layMoved_36 rfl rfl ?_
  refine ev_iload (pc' := 40) dX8_layMoved_38 rfl rfl ?_
  refine ev_aload_n (pc' := 41) (i := 0) dX8_layMoved_40 rfl rfl rfl ?_
  refine ev_getR (pc' := 44) fo_X8_37 dX8_layMoved_41 rfl hs_115 rfl rf_115_13 ?_
  refine ev_bipush (pc' := 46) (v := 16) dX8_layMoved_44 rfl kb_16 ?_
  refine ev_iload_n (pc' := 47) (i := 1) dX8_layMoved_46 rfl rfl rfl ?_
  refine ev_imul (pc' := 48) (v := nI (16 * q)) dX8_layMoved_47 rfl (pk_mul 16 q) ?_
  refine ev_iload (pc' := 50) dX8_layMoved_48 rfl rfl ?_
  refine ev_iadd (pc' := 51) (v := nI ((16 * q) + 8)) dX8_layMoved_50 rfl (nI_add (16 * q) 8) ?_
  refine ev_iald (pc' := 52) (j := (16 * q) + 8) (v := (I 123) ((16 * q) + 8)) dX8_layMoved_51 rfl hs_123 rfl (by omega) (Nat.le_of_ble_eq_true rfl) rfl ?_
  refine ev_imul (pc' := 53) (v := tn * ((I 123) ((16 * q) + 8))) dX8_layMoved_52 rfl rfl ?_
  refine ev_iast (pc' := 54) (j := 8) (I' := (ma_up I 125 (ma_up (ma_up (ma_up (ma_up (ma_up (ma_up (ma_up (ma_up (ma_up (I 125) 0 (tn * ((I 123) ((16 * q) + 0)))) 1 (tn * ((I 123) ((16 * q) + 1)))) 2 (tn * ((I 123) ((16 * q) + 2)))) 3 (tn * ((I 123) ((16 * q) + 3)))) 4 (tn * ((I 123) ((16 * q) + 4)))) 5 (tn * ((I 123) ((16 * q) + 5)))) 6 (tn * ((I 123) ((16 * q) + 6)))) 7 (tn * ((I 123) ((16 * q) + 7)))) 8 (tn * ((I 123) ((16 * q) + 8)))))) dX8_layMoved_53 rfl hs_125 rfl (Nat.le_of_ble_eq_true rfl) (Nat.le_of_ble_eq_true rfl) (ma_up_up _ _ _ _) ?_
  refine ev_iinc (pc' := 57) (v := 9) (lv' := [some (.ref 115), some (.int (nI q)), some (.ref 133), some (.int x), some (.int y), some (.int z), some (.int tn), some (.int 9), none, none]) dX8_layMoved_54 rfl rfl (by decide) (Nat.le_of_ble_eq_true rfl) rfl rfl ?_
  refine ev_goto (tgt := 25) dX8_layMoved_57 rfl ?_
  refine ev_iload (pc' := 27) dX8_layMoved_25 rfl rfl ?_
  refine ev_bipush (pc' := 29) (v := 16) dX8_layMoved_27 rfl kb_16 ?_
  refine ev_icmp_ge (tgt := 60) (pc' := 32) dX8_layMoved_29 rfl rfl (fun h => absurd h (by decide)) (fun _ => ?_)
  refine ev_aload_n (pc' := 33) (i := 0) dX8_layMoved_32 rfl rfl rfl ?_
  refine ev_getR (pc' := 36) fo_X8_43 dX8_layMoved_33 rfl hs_115 rfl rf_115_15 ?_
  refine ev_iload (pc' := 38) dX8_layMoved_36 rfl rfl ?_
  refine ev_iload (pc' := 40) dX8_layMoved_38 rfl rfl ?_
  refine ev_aload_n (pc' := 41) (i := 0) dX8_layMoved_40 rfl rfl rfl ?_
  refine ev_getR (pc' := 44) fo_X8_37 dX8_layMoved_41 rfl hs_115 rfl rf_115_13 ?_
  refine ev_bipush (pc' := 46) (v := 16) dX8_layMoved_44 rfl kb_16 ?_
  refine ev_iload_n (pc' := 47) (i := 1) dX8_layMoved_46 rfl rfl rfl ?_
  refine ev_imul (pc' := 48) (v := nI (16 * q)) dX8_layMoved_47 rfl (pk_mul 16 q) ?_
  refine ev_iload (pc' := 50) dX8_layMoved_48 rfl rfl ?_
  refine ev_iadd (pc' := 51) (v := nI ((16 * q) + 9)) dX8_layMoved_50 rfl (nI_add (16 * q) 9) ?_
  refine ev_iald (pc' := 52) (j := (16 * q) + 9) (v := (I 123) ((16 * q) + 9)) dX8_layMoved_51 rfl hs_123 rfl (by omega) (Nat.le_of_ble_eq_true rfl) rfl ?_
  refine ev_imul (pc' := 53) (v := tn * ((I 123) ((16 * q) + 9))) dX8_layMoved_52 rfl rfl ?_
  refine ev_iast (pc' := 54) (j := 9) (I' := (ma_up I 125 (ma_up (ma_up (ma_up (ma_up (ma_up (ma_up (ma_up (ma_up (ma_up (ma_up (I 125) 0 (tn * ((I 123) ((16 * q) + 0)))) 1 (tn * ((I 123) ((16 * q) + 1)))) 2 (tn * ((I 123) ((16 * q) + 2)))) 3 (tn * ((I 123) ((16 * q) + 3)))) 4 (tn * ((I 123) ((16 * q) + 4)))) 5 (tn * ((I 123) ((16 * q) + 5)))) 6 (tn * ((I 123) ((16 * q) + 6)))) 7 (tn * ((I 123) ((16 * q) + 7)))) 8 (tn * ((I 123) ((16 * q) + 8)))) 9 (tn * ((I 123) ((16 * q) + 9)))))) dX8_layMoved_53 rfl hs_125 rfl (Nat.le_of_ble_eq_true rfl) (Nat.le_of_ble_eq_true rfl) (ma_up_up _ _ _ _) ?_
  refine ev_iinc (pc' := 57) (v := 10) (lv' := [some (.ref 115), some (.int (nI q)), some (.ref 133), some (.int x), some (.int y), some (.int z), some (.int tn), some (.int 10), none, none]) dX8_layMoved_54 rfl rfl (by decide) (Nat.le_of_ble_eq_true rfl) rfl rfl ?_
  refine ev_goto (tgt := 25) dX8_layMoved_57 rfl ?_
  refine ev_iload (pc' := 27) dX8_layMoved_25 rfl rfl ?_
  refine ev_bipush (pc' := 29) (v := 16) dX8_layMoved_27 rfl kb_16 ?_
  refine ev_icmp_ge (tgt := 60) (pc' := 32) dX8_layMoved_29 rfl rfl (fun h => absurd h (by decide)) (fun _ => ?_)
  refine ev_aload_n (pc' := 33) (i := 0) dX8_layMoved_32 rfl rfl rfl ?_
  refine ev_getR (pc' := 36) fo_X8_43 dX8_layMoved_33 rfl hs_115 rfl rf_115_15 ?_
  refine ev_iload (pc' := 38) dX8_layMoved_36 rfl rfl ?_
  refine ev_iload (pc' := 40) dX8_layMoved_38 rfl rfl ?_
  refine ev_aload_n (pc' := 41) (i := 0) dX8_layMoved_40 rfl rfl rfl ?_
  refine ev_getR (pc' := 44) fo_X8_37 dX8_layMoved_41 rfl hs_115 rfl rf_115_13 ?_
  refine ev_bipush (pc' := 46) (v := 16) dX8_layMoved_44 rfl kb_16 ?_
  refine ev_iload_n (pc' := 47) (i := 1) dX8_layMoved_46 rfl rfl rfl ?_
  refine ev_imul (pc' := 48) (v := nI (16 * q)) dX8_layMoved_47 rfl (pk_mul 16 q) ?_
  refine ev_iload (pc' := 50) dX8_layMoved_48 rfl rfl ?_
  refine ev_iadd (pc' := 51) (v := nI ((16 * q) + 10)) dX8_layMoved_50 rfl (nI_add (16 * q) 10) ?_
  refine ev_iald (pc' := 52) (j := (16 * q) + 10) (v := (I 123) ((16 * q) + 10)) dX8_layMoved_51 rfl hs_123 rfl (by omega) (Nat.le_of_ble_eq_true rfl) rfl ?_
  refine ev_imul (pc' := 53) (v := tn * ((I 123) ((16 * q) + 10))) dX8_layMoved_52 rfl rfl ?_
  refine ev_iast (pc' := 54) (j := 10) (I' := (ma_up I 125 (ma_up (ma_up (ma_up (ma_up (ma_up (ma_up (ma_up (ma_up (ma_up (ma_up (ma_up (I 125) 0 (tn * ((I 123) ((16 * q) + 0)))) 1 (tn * ((I 123) ((16 * q) + 1)))) 2 (tn * ((I 123) ((16 * q) + 2)))) 3 (tn * ((I 123) ((16 * q) + 3)))) 4 (tn * ((I 123) ((16 * q) + 4)))) 5 (tn * ((I 123) ((16 * q) + 5)))) 6 (tn * ((I 123) ((16 * q) + 6)))) 7 (tn * ((I 123) ((16 * q) + 7)))) 8 (tn * ((I 123) ((16 * q) + 8)))) 9 (tn * ((I 123) ((16 * q) + 9)))) 10 (tn * ((I 123) ((16 * q) + 10)))))) dX8_layMoved_53 rfl hs_125 rfl (Nat.le_of_ble_eq_true rfl) (Nat.le_of_ble_eq_true rfl) (ma_up_up _ _ _ _) ?_
  refine ev_iinc (pc' := 57) (v := 11) (lv' := [some (.ref 115), some (.int (nI q)), some (.ref 133), some (.int x), some (.int y), some (.int z), some (.int tn), some (.int 11), none, none]) dX8_layMoved_54 rfl rfl (by decide) (Nat.le_of_ble_eq_true rfl) rfl rfl ?_
  refine ev_goto (tgt := 25) dX8_layMoved_57 rfl ?_
  refine ev_iload (pc' := 27) dX8_layMoved_25 rfl rfl ?_
  refine ev_bipush (pc' := 29) (v := 16) dX8_layMoved_27 rfl kb_16 ?_
  refine ev_icmp_ge (tgt := 60) (pc' := 32) dX8_layMoved_29 rfl rfl (fun h => absurd h (by decide)) (fun _ => ?_)
  refine ev_aload_n (pc' := 33) (i := 0) dX8_layMoved_32 rfl rfl rfl ?_
  refine ev_getR (pc' := 36) fo_X8_43 dX8_layMoved_33 rfl hs_115 rfl rf_115_15 ?_
  refine ev_iload (pc' := 38) dX8_layMoved_36 rfl rfl ?_
  refine ev_iload (pc' := 40) dX8_layMoved_38 rfl rfl ?_
  refine ev_aload_n (pc' := 41) (i := 0) dX8_layMoved_40 rfl rfl rfl ?_
  refine ev_getR (pc' := 44) fo_X8_37 dX8_layMoved_41 rfl hs_115 rfl rf_115_13 ?_
  refine ev_bipush (pc' := 46) (v := 16) dX8_layMoved_44 rfl kb_16 ?_
  refine ev_iload_n (pc' := 47) (i := 1) dX8_layMoved_46 rfl rfl rfl ?_
  refine ev_imul (pc' := 48) (v := nI (16 * q)) dX8_layMoved_47 rfl (pk_mul 16 q) ?_
  refine ev_iload (pc' := 50) dX8_layMoved_48 rfl rfl ?_
  refine ev_iadd (pc' := 51) (v := nI ((16 * q) + 11)) dX8_layMoved_50 rfl (nI_add (16 * q) 11) ?_
  refine ev_iald (pc' := 52) (j := (16 * q) + 11) (v := (I 123) ((16 * q) + 11)) dX8_layMoved_51 rfl hs_123 rfl (by omega) (Nat.le_of_ble_eq_true rfl) rfl ?_
  refine ev_imul (pc' := 53) (v := tn * ((I 123) ((16 * q) + 11))) dX8_layMoved_52 rfl rfl ?_
  refine ev_iast (pc' := 54) (j := 11) (I' := (ma_up I 125 (ma_up (ma_up (ma_up (ma_up (ma_up (ma_up (ma_up (ma_up (ma_up (ma_up (ma_up (ma_up (I 125) 0 (tn * ((I 123) ((16 * q) + 0)))) 1 (tn * ((I 123) ((16 * q) + 1)))) 2 (tn * ((I 123) ((16 * q) + 2)))) 3 (tn * ((I 123) ((16 * q) + 3)))) 4 (tn * ((I 123) ((16 * q) + 4)))) 5 (tn * ((I 123) ((16 * q) + 5)))) 6 (tn * ((I 123) ((16 * q) + 6)))) 7 (tn * ((I 123) ((16 * q) + 7)))) 8 (tn * ((I 123) ((16 * q) + 8)))) 9 (tn * ((I 123) ((16 * q) + 9)))) 10 (tn * ((I 123) ((16 * q) + 10)))) 11 (tn * ((I 123) ((16 * q) + 11)))))) dX8_layMoved_53 rfl hs_125 rfl (Nat.le_of_ble_eq_true rfl) (Nat.le_of_ble_eq_true rfl) (ma_up_up _ _ _ _) ?_
  refine ev_iinc (pc' := 57) (v := 12) (lv' := [some (.ref 115), some (.int (nI q)), some (.ref 133), some (.int x), some (.int y), some (.int z), some (.int tn), some (.int 12), none, none]) dX8_layMoved_54 rfl rfl (by decide) (Nat.le_of_ble_eq_true rfl) rfl rfl ?_
  refine ev_goto (tgt := 25) dX8_layMoved_57 rfl ?_
  refine ev_iload (pc' := 27) dX8_layMoved_25 rfl rfl ?_
  refine ev_bipush (pc' := 29) (v := 16) dX8_layMoved_27 rfl kb_16 ?_
  refine ev_icmp_ge (tgt := 60) (pc' := 32) dX8_layMoved_29 rfl rfl (fun h => absurd h (by decide)) (fun _ => ?_)
  refine ev_aload_n (pc' := 33) (i := 0) dX8_layMoved_32 rfl rfl rfl ?_
  refine ev_getR (pc' := 36) fo_X8_43 dX8_layMoved_33 rfl hs_115 rfl rf_115_15 ?_
  refine ev_iload (pc' := 38) dX8_layMoved_36 rfl rfl ?_
  refine ev_iload (pc' := 40) dX8_layMoved_38 rfl rfl ?_
  refine ev_aload_n (pc' := 41) (i := 0) dX8_layMoved_40 rfl rfl rfl ?_
  refine ev_getR (pc' := 44) fo_X8_37 dX8_layMoved_41 rfl hs_115 rfl rf_115_13 ?_
  refine ev_bipush (pc' := 46) (v := 16) dX8_layMoved_44 rfl kb_16 ?_
  refine ev_iload_n (pc' := 47) (i := 1) dX8_layMoved_46 rfl rfl rfl ?_
  refine ev_imul (pc' := 48) (v := nI (16 * q)) dX8_layMoved_47 rfl (pk_mul 16 q) ?_
  refine ev_iload (pc' := 50) dX8_layMoved_48 rfl rfl ?_
  refine ev_iadd (pc' := 51) (v := nI ((16 * q) + 12)) dX8_layMoved_50 rfl (nI_add (16 * q) 12) ?_
  refine ev_iald (pc' := 52) (j := (16 * q) + 12) (v := (I 123) ((16 * q) + 12)) dX8_layMoved_51 rfl hs_123 rfl (by omega) (Nat.le_of_ble_eq_true rfl) rfl ?_
  refine ev_imul (pc' := 53) (v := tn * ((I 123) ((16 * q) + 12))) dX8_layMoved_52 rfl rfl ?_
  refine ev_iast (pc' := 54) (j := 12) (I' := (ma_up I 125 (ma_up (ma_up (ma_up (ma_up (ma_up (ma_up (ma_up (ma_up (ma_up (ma_up (ma_up (ma_up (ma_up (I 125) 0 (tn * ((I 123) ((16 * q) + 0)))) 1 (tn * ((I 123) ((16 * q) + 1)))) 2 (tn * ((I 123) ((16 * q) + 2)))) 3 (tn * ((I 123) ((16 * q) + 3)))) 4 (tn * ((I 123) ((16 * q) + 4)))) 5 (tn * ((I 123) ((16 * q) + 5)))) 6 (tn * ((I 123) ((16 * q) + 6)))) 7 (tn * ((I 123) ((16 * q) + 7)))) 8 (tn * ((I 123) ((16 * q) + 8)))) 9 (tn * ((I 123) ((16 * q) + 9)))) 10 (tn * ((I 123) ((16 * q) + 10)))) 11 (tn * ((I 123) ((16 * q) + 11)))) 12 (tn * ((I 123) ((16 * q) + 12)))))) dX8_layMoved_53 rfl hs_125 rfl (Nat.le_of_ble_eq_true rfl) (Nat.le_of_ble_eq_true rfl) (ma_up_up _ _ _ _) ?_
  refine ev_iinc (pc' := 57) (v := 13) (lv' := [some (.ref 115), some (.int (nI q)), some (.ref 133), some (.int x), some (.int y), some (.int z), some (.int tn), some (.int 13), none, none]) dX8_layMoved_54 rfl rfl (by decide) (Nat.le_of_ble_eq_true rfl) rfl rfl ?_
  refine ev_goto (tgt := 25) dX8_layMoved_57 rfl ?_
  refine ev_iload (pc' := 27) dX8_layMoved_25 rfl rfl ?_
  refine ev_bipush (pc' := 29) (v := 16) dX8_layMoved_27 rfl kb_16 ?_
  refine ev_icmp_ge (tgt := 60) (pc' := 32) dX8_layMoved_29 rfl rfl (fun h => absurd h (by decide)) (fun _ => ?_)
  refine ev_aload_n (pc' := 33) (i := 0) dX8_layMoved_32 rfl rfl rfl ?_
  refine ev_getR (pc' := 36) fo_X8_43 dX8_layMoved_33 rfl hs_115 rfl rf_115_15 ?_
  refine ev_iload (pc' := 38) dX8_layMoved_36 rfl rfl ?_
  refine ev_iload (pc' := 40) dX8_layMoved_38 rfl rfl ?_
  refine ev_aload_n (pc' := 41) (i := 0) dX8_layMoved_40 rfl rfl rfl ?_
  refine ev_getR (pc' := 44) fo_X8_37 dX8_layMoved_41 rfl hs_115 rfl rf_115_13 ?_
  refine ev_bipush (pc' := 46) (v := 16) dX8_layMoved_44 rfl kb_16 ?_
  refine ev_iload_n (pc' := 47) (i := 1) dX8_layMoved_46 rfl rfl rfl ?_
  refine ev_imul (pc' := 48) (v := nI (16 * q)) dX8_layMoved_47 rfl (pk_mul 16 q) ?_
  refine ev_iload (pc' := 50) dX8_layMoved_48 rfl rfl ?_
  refine ev_iadd (pc' := 51) (v := nI ((16 * q) + 13)) dX8_layMoved_50 rfl (nI_add (16 * q) 13) ?_
  refine ev_iald (pc' := 52) (j := (16 * q) + 13) (v := (I 123) ((16 * q) + 13)) dX8_layMoved_51 rfl hs_123 rfl (by omega) (Nat.le_of_ble_eq_true rfl) rfl ?_
  refine ev_imul (pc' := 53) (v := tn * ((I 123) ((16 * q) + 13))) dX8_layMoved_52 rfl rfl ?_
  refine ev_iast (pc' := 54) (j := 13) (I' := (ma_up I 125 (ma_up (ma_up (ma_up (ma_up (ma_up (ma_up (ma_up (ma_up (ma_up (ma_up (ma_up (ma_up (ma_up (ma_up (I 125) 0 (tn * ((I 123) ((16 * q) + 0)))) 1 (tn * ((I 123) ((16 * q) + 1)))) 2 (tn * ((I 123) ((16 * q) + 2)))) 3 (tn * ((I 123) ((16 * q) + 3)))) 4 (tn * ((I 123) ((16 * q) + 4)))) 5 (tn * ((I 123) ((16 * q) + 5)))) 6 (tn * ((I 123) ((16 * q) + 6)))) 7 (tn * ((I 123) ((16 * q) + 7)))) 8 (tn * ((I 123) ((16 * q) + 8)))) 9 (tn * ((I 123) ((16 * q) + 9)))) 10 (tn * ((I 123) ((16 * q) + 10)))) 11 (tn * ((I 123) ((16 * q) + 11)))) 12 (tn * ((I 123) ((16 * q) + 12)))) 13 (tn * ((I 123) ((16 * q) + 13)))))) dX8_layMoved_53 rfl hs_125 rfl (Nat.le_of_ble_eq_true rfl) (Nat.le_of_ble_eq_true rfl) (ma_up_up _ _ _ _) ?_
  refine ev_iinc (pc' := 57) (v := 14) (lv' := [some (.ref 115), some (.int (nI q)), some (.ref 133), some (.int x), some (.int y), some (.int z), some (.int tn), some (.int 14), none, none]) dX8_layMoved_54 rfl rfl (by decide) (Nat.le_of_ble_eq_true rfl) rfl rfl ?_
  refine ev_goto (tgt := 25) dX8_layMoved_57 rfl ?_
  refine ev_iload (pc' := 27) dX8_layMoved_25 rfl rfl ?_
  refine ev_bipush (pc' := 29) (v := 16) dX8_layMoved_27 rfl kb_16 ?_
  refine ev_icmp_ge (tgt := 60) (pc' := 32) dX8_layMoved_29 rfl rfl (fun h => absurd h (by decide)) (fun _ => ?_)
  refine ev_aload_n (pc' := 33) (i := 0) dX8_layMoved_32 rfl rfl rfl ?_
  refine ev_getR (pc' := 36) fo_X8_43 dX8_layMoved_33 rfl hs_115 rfl rf_115_15 ?_
  refine ev_iload (pc' := 38) dX8_layMoved_36 rfl rfl ?_
  refine ev_iload (pc' := 40) dX8_layMoved_38 rfl rfl ?_
  refine ev_aload_n (pc' := 41) (i := 0) dX8_layMoved_40 rfl rfl rfl ?_
  refine ev_getR (pc' := 44) fo_X8_37 dX8_layMoved_41 rfl hs_115 rfl rf_115_13 ?_
  refine ev_bipush (pc' := 46) (v := 16) dX8_layMoved_44 rfl kb_16 ?_
  refine ev_iload_n (pc' := 47) (i := 1) dX8_layMoved_46 rfl rfl rfl ?_
  refine ev_imul (pc' := 48) (v := nI (16 * q)) dX8_layMoved_47 rfl (pk_mul 16 q) ?_
  refine ev_iload (pc' := 50) dX8_layMoved_48 rfl rfl ?_
  refine ev_iadd (pc' := 51) (v := nI ((16 * q) + 14)) dX8_layMoved_50 rfl (nI_add (16 * q) 14) ?_
  refine ev_iald (pc' := 52) (j := (16 * q) + 14) (v := (I 123) ((16 * q) + 14)) dX8_layMoved_51 rfl hs_123 rfl (by omega) (Nat.le_of_ble_eq_true rfl) rfl ?_
  refine ev_imul (pc' := 53) (v := tn * ((I 123) ((16 * q) + 14))) dX8_layMoved_52 rfl rfl ?_
  refine ev_iast (pc' := 54) (j := 14) (I' := (ma_up I 125 (ma_up (ma_up (ma_up (ma_up (ma_up (ma_up (ma_up (ma_up (ma_up (ma_up (ma_up (ma_up (ma_up (ma_up (ma_up (I 125) 0 (tn * ((I 123) ((16 * q) + 0)))) 1 (tn * ((I 123) ((16 * q) + 1)))) 2 (tn * ((I 123) ((16 * q) + 2)))) 3 (tn * ((I 123) ((16 * q) + 3)))) 4 (tn * ((I 123) ((16 * q) + 4)))) 5 (tn * ((I 123) ((16 * q) + 5)))) 6 (tn * ((I 123) ((16 * q) + 6)))) 7 (tn * ((I 123) ((16 * q) + 7)))) 8 (tn * ((I 123) ((16 * q) + 8)))) 9 (tn * ((I 123) ((16 * q) + 9)))) 10 (tn * ((I 123) ((16 * q) + 10)))) 11 (tn * ((I 123) ((16 * q) + 11)))) 12 (tn * ((I 123) ((16 * q) + 12)))) 13 (tn * ((I 123) ((16 * q) + 13)))) 14 (tn * ((I 123) ((16 * q) + 14)))))) dX8_layMoved_53 rfl hs_125 rfl (Nat.le_of_ble_eq_true rfl) (Nat.le_of_ble_eq_true rfl) (ma_up_up _ _ _ _) ?_
  refine ev_iinc (pc' := 57) (v := 15) (lv' := [some (.ref 115), some (.int (nI q)), some (.ref 133), some (.int x), some (.int y), some (.int z), some (.int tn), some (.int 15), none, none]) dX8_layMoved_54 rfl rfl (by decide) (Nat.le_of_ble_eq_true rfl) rfl rfl ?_
  refine ev_goto (tgt := 25) dX8_layMoved_57 rfl ?_
  refine ev_iload (pc' := 27) dX8_layMoved_25 rfl rfl ?_
  refine ev_bipush (pc' := 29) (v := 16) dX8_layMoved_27 rfl kb_16 ?_
  refine ev_icmp_ge (tgt := 60) (pc' := 32) dX8_layMoved_29 rfl rfl (fun h => absurd h (by decide)) (fun _ => ?_)
  refine ev_aload_n (pc' := 33) (i := 0) dX8_layMoved_32 rfl rfl rfl ?_
  refine ev_getR (pc' := 36) fo_X8_43 dX8_layMoved_33 rfl hs_115 rfl rf_115_15 ?_
  refine ev_iload (pc' := 38) dX8_layMoved_36 rfl rfl ?_
  refine ev_iload (pc' := 40) dX8_layMoved_38 rfl rfl ?_
  refine ev_aload_n (pc' := 41) (i := 0) dX8_layMoved_40 rfl rfl rfl ?_
  refine ev_getR (pc' := 44) fo_X8_37 dX8_layMoved_41 rfl hs_115 rfl rf_115_13 ?_
  refine ev_bipush (pc' := 46) (v := 16) dX8_layMoved_44 rfl kb_16 ?_
  refine ev_iload_n (pc' := 47) (i := 1) dX8_layMoved_46 rfl rfl rfl ?_
  refine ev_imul (pc' := 48) (v := nI (16 * q)) dX8_layMoved_47 rfl (pk_mul 16 q) ?_
  refine ev_iload (pc' := 50) dX8_layMoved_48 rfl rfl ?_
  refine ev_iadd (pc' := 51) (v := nI ((16 * q) + 15)) dX8_layMoved_50 rfl (nI_add (16 * q) 15) ?_
  refine ev_iald (pc' := 52) (j := (16 * q) + 15) (v := (I 123) ((16 * q) + 15)) dX8_layMoved_51 rfl hs_123 rfl (by omega) (Nat.le_of_ble_eq_true rfl) rfl ?_
  refine ev_imul (pc' := 53) (v := tn * ((I 123) ((16 * q) + 15))) dX8_layMoved_52 rfl rfl ?_
  refine ev_iast (pc' := 54) (j := 15) (I' := (ma_up I 125 (ma_up (ma_up (ma_up (ma_up (ma_up (ma_up (ma_up (ma_up (ma_up (ma_up (ma_up (ma_up (ma_up (ma_up (ma_up (ma_up (I 125) 0 (tn * ((I 123) ((16 * q) + 0)))) 1 (tn * ((I 123) ((16 * q) + 1)))) 2 (tn * ((I 123) ((16 * q) + 2)))) 3 (tn * ((I 123) ((16 * q) + 3)))) 4 (tn * ((I 123) ((16 * q) + 4)))) 5 (tn * ((I 123) ((16 * q) + 5)))) 6 (tn * ((I 123) ((16 * q) + 6)))) 7 (tn * ((I 123) ((16 * q) + 7)))) 8 (tn * ((I 123) ((16 * q) + 8)))) 9 (tn * ((I 123) ((16 * q) + 9)))) 10 (tn * ((I 123) ((16 * q) + 10)))) 11 (tn * ((I 123) ((16 * q) + 11)))) 12 (tn * ((I 123) ((16 * q) + 12)))) 13 (tn * ((I 123) ((16 * q) + 13)))) 14 (tn * ((I 123) ((16 * q) + 14)))) 15 (tn * ((I 123) ((16 * q) + 15)))))) dX8_layMoved_53 rfl hs_125 rfl (Nat.le_of_ble_eq_true rfl) (Nat.le_of_ble_eq_true rfl) (ma_up_up _ _ _ _) ?_
  refine ev_iinc (pc' := 57) (v := 16) (lv' := [some (.ref 115), some (.int (nI q)), some (.ref 133), some (.int x), some (.int y), some (.int z), some (.int tn), some (.int 16), none, none]) dX8_layMoved_54 rfl rfl (by decide) (Nat.le_of_ble_eq_true rfl) rfl rfl ?_
  refine ev_goto (tgt := 25) dX8_layMoved_57 rfl ?_
  refine ev_iload (pc' := 27) dX8_layMoved_25 rfl rfl ?_
  refine ev_bipush (pc' := 29) (v := 16) dX8_layMoved_27 rfl kb_16 ?_
  refine ev_icmp_ge (tgt := 60) (pc' := 32) dX8_layMoved_29 rfl rfl (fun _ => ?_) (fun h => absurd (by decide) h)
  refine ev_iconst (pc' := 61) (v := 0) dX8_layMoved_60 rfl ki_0 ?_
  refine ev_istore (pc' := 63) (lv' := [some (.ref 115), some (.int (nI q)), some (.ref 133), some (.int x), some (.int y), some (.int z), some (.int tn), some (.int 0), none, none]) dX8_layMoved_61 rfl (Nat.le_of_ble_eq_true rfl) rfl rfl ?_
  refine ev_iload (pc' := 65) dX8_layMoved_63 rfl rfl ?_
  refine ev_iconst (pc' := 66) (v := 3) dX8_layMoved_65 rfl ki_3 ?_
  refine ev_icmp_ge (tgt := 191) (pc' := 69) dX8_layMoved_66 rfl rfl (fun h => absurd h (by decide)) (fun _ => ?_)
  refine ev_aload_n (pc' := 70) (i := 0) dX8_layMoved_69 rfl rfl rfl ?_
  refine ev_getR (pc' := 73) fo_X8_43 dX8_layMoved_70 rfl hs_115 rfl rf_115_15 ?_
  refine ev_iconst (pc' := 74) (v := 4) dX8_layMoved_73 rfl ki_4 ?_
  refine ev_iload (pc' := 76) dX8_layMoved_74 rfl rfl ?_
  refine ev_imul (pc' := 77) (v := 0) dX8_layMoved_76 rfl (by decide) ?_
  refine ev_iald (pc' := 78) (j := 0) (v := tn * ((I 123) ((16 * q) + 0))) dX8_layMoved_77 rfl hs_125 rfl (Nat.le_of_ble_eq_true rfl) (Nat.le_of_ble_eq_true rfl) rfl ?_
  refine ev_iload_n (pc' := 79) (i := 3) dX8_layMoved_78 rfl rfl rfl ?_
  refine ev_imul (pc' := 80) (v := (tn * ((I 123) ((16 * q) + 0))) * x) dX8_layMoved_79 rfl rfl ?_
  refine ev_aload_n (pc' := 81) (i := 0) dX8_layMoved_80 rfl rfl rfl ?_
  refine ev_getR (pc' := 84) fo_X8_43 dX8_layMoved_81 rfl hs_115 rfl rf_115_15 ?_
  refine ev_iconst (pc' := 85) (v := 4) dX8_layMoved_84 rfl ki_4 ?_
  refine ev_iload (pc' := 87) dX8_layMoved_85 rfl rfl ?_
  refine ev_imul (pc' := 88) (v := 0) dX8_layMoved_87 rfl (by decide) ?_
  refine ev_iconst (pc' := 89) (v := 1) dX8_layMoved_88 rfl ki_1 ?_
  refine ev_iadd (pc' := 90) (v := 1) dX8_layMoved_89 rfl (by decide) ?_
  refine ev_iald (pc' := 91) (j := 1) (v := tn * ((I 123) ((16 * q) + 1))) dX8_layMoved_90 rfl hs_125 rfl (Nat.le_of_ble_eq_true rfl) (Nat.le_of_ble_eq_true rfl) rfl ?_
  refine ev_iload (pc' := 93) dX8_layMoved_91 rfl rfl ?_
  refine ev_imul (pc' := 94) (v := (tn * ((I 123) ((16 * q) + 1))) * y) dX8_layMoved_93 rfl rfl ?_
  refine ev_iadd (pc' := 95) (v := ((tn * ((I 123) ((16 * q) + 0))) * x) + ((tn * ((I 123) ((16 * q) + 1))) * y)) dX8_layMoved_94 rfl rfl ?_
  refine ev_aload_n (pc' := 96) (i := 0) dX8_layMoved_95 rfl rfl rfl ?_
  refine ev_getR (pc' := 99) fo_X8_43 dX8_layMoved_96 rfl hs_115 rfl rf_115_15 ?_
  refine ev_iconst (pc' := 100) (v := 4) dX8_layMoved_99 rfl ki_4 ?_
  refine ev_iload (pc' := 102) dX8_layMoved_100 rfl rfl ?_
  refine ev_imul (pc' := 103) (v := 0) dX8_layMoved_102 rfl (by decide) ?_
  refine ev_iconst (pc' := 104) (v := 2) dX8_layMoved_103 rfl ki_2 ?_
  refine ev_iadd (pc' := 105) (v := 2) dX8_layMoved_104 rfl (by decide) ?_
  refine ev_iald (pc' := 106) (j := 2) (v := tn * ((I 123) ((16 * q) + 2))) dX8_layMoved_105 rfl hs_125 rfl (Nat.le_of_ble_eq_true rfl) (Nat.le_of_ble_eq_true rfl) rfl ?_
  refine ev_iload (pc' := 108) dX8_layMoved_106 rfl rfl ?_
  refine ev_imul (pc' := 109) (v := (tn * ((I 123) ((16 * q) + 2))) * z) dX8_layMoved_108 rfl rfl ?_
  refine ev_iadd (pc' := 110) (v := (((tn * ((I 123) ((16 * q) + 0))) * x) + ((tn * ((I 123) ((16 * q) + 1))) * y)) + ((tn * ((I 123) ((16 * q) + 2))) * z)) dX8_layMoved_109 rfl rfl ?_
  refine ev_istore (pc' := 112) (lv' := [some (.ref 115), some (.int (nI q)), some (.ref 133), some (.int x), some (.int y), some (.int z), some (.int tn), some (.int 0), some (.int ((((tn * ((I 123) ((16 * q) + 0))) * x) + ((tn * ((I 123) ((16 * q) + 1))) * y)) + ((tn * ((I 123) ((16 * q) + 2))) * z))), none]) dX8_layMoved_110 rfl (Nat.le_of_ble_eq_true rfl) rfl rfl ?_
  refine ev_aload_n (pc' := 113) (i := 2) dX8_layMoved_112 rfl rfl rfl ?_
  refine ev_iconst (pc' := 114) (v := 4) dX8_layMoved_113 rfl ki_4 ?_
  refine ev_iload (pc' := 116) dX8_layMoved_114 rfl rfl ?_
  refine ev_imul (pc' := 117) (v := 0) dX8_layMoved_116 rfl (by decide) ?_
  refine ev_iconst (pc' := 118) (v := 3) dX8_layMoved_117 rfl ki_3 ?_
  refine ev_iadd (pc' := 119) (v := 3) dX8_layMoved_118 rfl (by decide) ?_
  refine ev_aload_n (pc' := 120) (i := 0) dX8_layMoved_119 rfl rfl rfl ?_
  refine ev_getR (pc' := 123) fo_X8_43 dX8_layMoved_120 rfl hs_115 rfl rf_115_15 ?_
  refine ev_iconst (pc' := 124) (v := 4) dX8_layMoved_123 rfl ki_4 ?_
  refine ev_iload (pc' := 126) dX8_layMoved_124 rfl rfl ?_
  refine ev_imul (pc' := 127) (v := 0) dX8_layMoved_126 rfl (by decide) ?_
  refine ev_iconst (pc' := 128) (v := 3) dX8_layMoved_127 rfl ki_3 ?_
  refine ev_iadd (pc' := 129) (v := 3) dX8_layMoved_128 rfl (by decide) ?_
  refine ev_iald (pc' := 130) (j := 3) (v := tn * ((I 123) ((16 * q) + 3))) dX8_layMoved_129 rfl hs_125 rfl (Nat.le_of_ble_eq_true rfl) (Nat.le_of_ble_eq_true rfl) rfl ?_
  refine ev_iload (pc' := 132) dX8_layMoved_130 rfl rfl ?_
  refine ev_isub (pc' := 133) (v := (tn * ((I 123) ((16 * q) + 3))) - ((((tn * ((I 123) ((16 * q) + 0))) * x) + ((tn * ((I 123) ((16 * q) + 1))) * y)) + ((tn * ((I 123) ((16 * q) + 2))) * z))) dX8_layMoved_132 rfl rfl ?_
  refine ev_iast (pc' := 134) (j := 3) (I' := (ma_up (ma_up I 125 (ma_up (ma_up (ma_up (ma_up (ma_up (ma_up (ma_up (ma_up (ma_up (ma_up (ma_up (ma_up (ma_up (ma_up (ma_up (ma_up (I 125) 0 (tn * ((I 123) ((16 * q) + 0)))) 1 (tn * ((I 123) ((16 * q) + 1)))) 2 (tn * ((I 123) ((16 * q) + 2)))) 3 (tn * ((I 123) ((16 * q) + 3)))) 4 (tn * ((I 123) ((16 * q) + 4)))) 5 (tn * ((I 123) ((16 * q) + 5)))) 6 (tn * ((I 123) ((16 * q) + 6)))) 7 (tn * ((I 123) ((16 * q) + 7)))) 8 (tn * ((I 123) ((16 * q) + 8)))) 9 (tn * ((I 123) ((16 * q) + 9)))) 10 (tn * ((I 123) ((16 * q) + 10)))) 11 (tn * ((I 123) ((16 * q) + 11)))) 12 (tn * ((I 123) ((16 * q) + 12)))) 13 (tn * ((I 123) ((16 * q) + 13)))) 14 (tn * ((I 123) ((16 * q) + 14)))) 15 (tn * ((I 123) ((16 * q) + 15))))) 133 (ma_up (I 133) 3 ((tn * ((I 123) ((16 * q) + 3))) - ((((tn * ((I 123) ((16 * q) + 0))) * x) + ((tn * ((I 123) ((16 * q) + 1))) * y)) + ((tn * ((I 123) ((16 * q) + 2))) * z)))))) dX8_layMoved_133 rfl hs_133 rfl (Nat.le_of_ble_eq_true rfl) (Nat.le_of_ble_eq_true rfl) rfl ?_
  refine ev_aload_n (pc' := 135) (i := 2) dX8_layMoved_134 rfl rfl rfl ?_
  refine ev_bipush (pc' := 137) (v := 12) dX8_layMoved_135 rfl kb_12 ?_
  refine ev_iload (pc' := 139) dX8_layMoved_137 rfl rfl ?_
  refine ev_iadd (pc' := 140) (v := 12) dX8_layMoved_139 rfl (by decide) ?_
  refine ev_aload_n (pc' := 141) (i := 2) dX8_layMoved_140 rfl rfl rfl ?_
  refine ev_iconst (pc' := 142) (v := 4) dX8_layMoved_141 rfl ki_4 ?_
  refine ev_iload (pc' := 144) dX8_layMoved_142 rfl rfl ?_
  refine ev_imul (pc' := 145) (v := 0) dX8_layMoved_144 rfl (by decide) ?_
  refine ev_iconst (pc' := 146) (v := 3) dX8_layMoved_145 rfl ki_3 ?_
  refine ev_iadd (pc' := 147) (v := 3) dX8_layMoved_146 rfl (by decide) ?_
  refine ev_iald (pc' := 148) (j := 3) (v := (tn * ((I 123) ((16 * q) + 3))) - ((((tn * ((I 123) ((16 * q) + 0))) * x) + ((tn * ((I 123) ((16 * q) + 1))) * y)) + ((tn * ((I 123) ((16 * q) + 2))) * z))) dX8_layMoved_147 rfl hs_133 rfl (Nat.le_of_ble_eq_true rfl) (Nat.le_of_ble_eq_true rfl) rfl ?_
  refine ev_iast (pc' := 149) (j := 12) (I' := (ma_up (ma_up I 125 (ma_up (ma_up (ma_up (ma_up (ma_up (ma_up (ma_up (ma_up (ma_up (ma_up (ma_up (ma_up (ma_up (ma_up (ma_up (ma_up (I 125) 0 (tn * ((I 123) ((16 * q) + 0)))) 1 (tn * ((I 123) ((16 * q) + 1)))) 2 (tn * ((I 123) ((16 * q) + 2)))) 3 (tn * ((I 123) ((16 * q) + 3)))) 4 (tn * ((I 123) ((16 * q) + 4)))) 5 (tn * ((I 123) ((16 * q) + 5)))) 6 (tn * ((I 123) ((16 * q) + 6)))) 7 (tn * ((I 123) ((16 * q) + 7)))) 8 (tn * ((I 123) ((16 * q) + 8)))) 9 (tn * ((I 123) ((16 * q) + 9)))) 10 (tn * ((I 123) ((16 * q) + 10)))) 11 (tn * ((I 123) ((16 * q) + 11)))) 12 (tn * ((I 123) ((16 * q) + 12)))) 13 (tn * ((I 123) ((16 * q) + 13)))) 14 (tn * ((I 123) ((16 * q) + 14)))) 15 (tn * ((I 123) ((16 * q) + 15))))) 133 (ma_up (ma_up (I 133) 3 ((tn * ((I 123) ((16 * q) + 3))) - ((((tn * ((I 123) ((16 * q) + 0))) * x) + ((tn * ((I 123) ((16 * q) + 1))) * y)) + ((tn * ((I 123) ((16 * q) + 2))) * z)))) 12 ((tn * ((I 123) ((16 * q) + 3))) - ((((tn * ((I 123) ((16 * q) + 0))) * x) + ((tn * ((I 123) ((16 * q) + 1))) * y)) + ((tn * ((I 123) ((16 * q) + 2))) * z)))))) dX8_layMoved_148 rfl hs_133 rfl (Nat.le_of_ble_eq_true rfl) (Nat.le_of_ble_eq_true rfl) (ma_up_up _ _ _ _) ?_
  refine ev_iconst (pc' := 150) (v := 0) dX8_layMoved_149 rfl ki_0 ?_
  refine ev_istore (pc' := 152) (lv' := [some (.ref 115), some (.int (nI q)), some (.ref 133), some (.int x), some (.int y), some (.int z), some (.int tn), some (.int 0), some (.int ((((tn * ((I 123) ((16 * q) + 0))) * x) + ((tn * ((I 123) ((16 * q) + 1))) * y)) + ((tn * ((I 123) ((16 * q) + 2))) * z))), some (.int 0)]) dX8_layMoved_150 rfl (Nat.le_of_ble_eq_true rfl) rfl rfl ?_
  refine ev_iload (pc' := 154) dX8_layMoved_152 rfl rfl ?_
  refine ev_iconst (pc' := 155) (v := 3) dX8_layMoved_154 rfl ki_3 ?_
  refine ev_icmp_ge (tgt := 185) (pc' := 158) dX8_layMoved_155 rfl rfl (fun h => absurd h (by decide)) (fun _ => ?_)
  refine ev_aload_n (pc' := 159) (i := 2) dX8_layMoved_158 rfl rfl rfl ?_
  refine ev_iconst (pc' := 160) (v := 4) dX8_layMoved_159 rfl ki_4 ?_
  refine ev_iload (pc' := 162) dX8_layMoved_160 rfl rfl ?_
  refine ev_imul (pc' := 163) (v := 0) dX8_layMoved_162 rfl (by decide) ?_
  refine ev_iload (pc' := 165) dX8_layMoved_163 rfl rfl ?_
  refine ev_iadd (pc' := 166) (v := 0) dX8_layMoved_165 rfl (by decide) ?_
  refine ev_aload_n (pc' := 167) (i := 0) dX8_layMoved_166 rfl rfl rfl ?_
  refine ev_getR (pc' := 170) fo_X8_43 dX8_layMoved_167 rfl hs_115 rfl rf_115_15 ?_
  refine ev_iconst (pc' := 171) (v := 4) dX8_layMoved_170 rfl ki_4 ?_
  refine ev_iload (pc' := 173) dX8_layMoved_171 rfl rfl ?_
  refine ev_imul (pc' := 174) (v := 0) dX8_layMoved_173 rfl (by decide) ?_
  refine ev_iload (pc' := 176) dX8_layMoved_174 rfl rfl ?_
  refine ev_iadd (pc' := 177) (v := 0) dX8_layMoved_176 rfl (by decide) ?_
  refine ev_iald (pc' := 178) (j := 0) (v := tn * ((I 123) ((16 * q) + 0))) dX8_layMoved_177 rfl hs_125 rfl (Nat.le_of_ble_eq_true rfl) (Nat.le_of_ble_eq_true rfl) rfl ?_
  refine ev_iast (pc' := 179) (j := 0) (I' := (ma_up (ma_up I 125 (ma_up (ma_up (ma_up (ma_up (ma_up (ma_up (ma_up (ma_up (ma_up (ma_up (ma_up (ma_up (ma_up (ma_up (ma_up (ma_up (I 125) 0 (tn * ((I 123) ((16 * q) + 0)))) 1 (tn * ((I 123) ((16 * q) + 1)))) 2 (tn * ((I 123) ((16 * q) + 2)))) 3 (tn * ((I 123) ((16 * q) + 3)))) 4 (tn * ((I 123) ((16 * q) + 4)))) 5 (tn * ((I 123) ((16 * q) + 5)))) 6 (tn * ((I 123) ((16 * q) + 6)))) 7 (tn * ((I 123) ((16 * q) + 7)))) 8 (tn * ((I 123) ((16 * q) + 8)))) 9 (tn * ((I 123) ((16 * q) + 9)))) 10 (tn * ((I 123) ((16 * q) + 10)))) 11 (tn * ((I 123) ((16 * q) + 11)))) 12 (tn * ((I 123) ((16 * q) + 12)))) 13 (tn * ((I 123) ((16 * q) + 13)))) 14 (tn * ((I 123) ((16 * q) + 14)))) 15 (tn * ((I 123) ((16 * q) + 15))))) 133 (ma_up (ma_up (ma_up (I 133) 3 ((tn * ((I 123) ((16 * q) + 3))) - ((((tn * ((I 123) ((16 * q) + 0))) * x) + ((tn * ((I 123) ((16 * q) + 1))) * y)) + ((tn * ((I 123) ((16 * q) + 2))) * z)))) 12 ((tn * ((I 123) ((16 * q) + 3))) - ((((tn * ((I 123) ((16 * q) + 0))) * x) + ((tn * ((I 123) ((16 * q) + 1))) * y)) + ((tn * ((I 123) ((16 * q) + 2))) * z)))) 0 (tn * ((I 123) ((16 * q) + 0)))))) dX8_layMoved_178 rfl hs_133 rfl (Nat.le_of_ble_eq_true rfl) (Nat.le_of_ble_eq_true rfl) (ma_up_up _ _ _ _) ?_
  refine ev_iinc (pc' := 182) (v := 1) (lv' := [some (.ref 115), some (.int (nI q)), some (.ref 133), some (.int x), some (.int y), some (.int z), some (.int tn), some (.int 0), some (.int ((((tn * ((I 123) ((16 * q) + 0))) * x) + ((tn * ((I 123) ((16 * q) + 1))) * y)) + ((tn * ((I 123) ((16 * q) + 2))) * z))), some (.int 1)]) dX8_layMoved_179 rfl rfl (by decide) (Nat.le_of_ble_eq_true rfl) rfl rfl ?_
  refine ev_goto (tgt := 152) dX8_layMoved_182 rfl ?_
  refine ev_iload (pc' := 154) dX8_layMoved_152 rfl rfl ?_
  refine ev_iconst (pc' := 155) (v := 3) dX8_layMoved_154 rfl ki_3 ?_
  refine ev_icmp_ge (tgt := 185) (pc' := 158) dX8_layMoved_155 rfl rfl (fun h => absurd h (by decide)) (fun _ => ?_)
  refine ev_aload_n (pc' := 159) (i := 2) dX8_layMoved_158 rfl rfl rfl ?_
  refine ev_iconst (pc' := 160) (v := 4) dX8_layMoved_159 rfl ki_4 ?_
  refine ev_iload (pc' := 162) dX8_layMoved_160 rfl rfl ?_
  refine ev_imul (pc' := 163) (v := 0) dX8_layMoved_162 rfl (by decide) ?_
  refine ev_iload (pc' := 165) dX8_layMoved_163 rfl rfl ?_
  refine ev_iadd (pc' := 166) (v := 1) dX8_layMoved_165 rfl (by decide) ?_
  refine ev_aload_n (pc' := 167) (i := 0) dX8_layMoved_166 rfl rfl rfl ?_
  refine ev_getR (pc' := 170) fo_X8_43 dX8_layMoved_167 rfl hs_115 rfl rf_115_15 ?_
  refine ev_iconst (pc' := 171) (v := 4) dX8_layMoved_170 rfl ki_4 ?_
  refine ev_iload (pc' := 173) dX8_layMoved_171 rfl rfl ?_
  refine ev_imul (pc' := 174) (v := 0) dX8_layMoved_173 rfl (by decide) ?_
  refine ev_iload (pc' := 176) dX8_layMoved_174 rfl rfl ?_
  refine ev_iadd (pc' := 177) (v := 1) dX8_layMoved_176 rfl (by decide) ?_
  refine ev_iald (pc' := 178) (j := 1) (v := tn * ((I 123) ((16 * q) + 1))) dX8_layMoved_177 rfl hs_125 rfl (Nat.le_of_ble_eq_true rfl) (Nat.le_of_ble_eq_true rfl) rfl ?_
  refine ev_iast (pc' := 179) (j := 1) (I' := (ma_up (ma_up I 125 (ma_up (ma_up (ma_up (ma_up (ma_up (ma_up (ma_up (ma_up (ma_up (ma_up (ma_up (ma_up (ma_up (ma_up (ma_up (ma_up (I 125) 0 (tn * ((I 123) ((16 * q) + 0)))) 1 (tn * ((I 123) ((16 * q) + 1)))) 2 (tn * ((I 123) ((16 * q) + 2)))) 3 (tn * ((I 123) ((16 * q) + 3)))) 4 (tn * ((I 123) ((16 * q) + 4)))) 5 (tn * ((I 123) ((16 * q) + 5)))) 6 (tn * ((I 123) ((16 * q) + 6)))) 7 (tn * ((I 123) ((16 * q) + 7)))) 8 (tn * ((I 123) ((16 * q) + 8)))) 9 (tn * ((I 123) ((16 * q) + 9)))) 10 (tn * ((I 123) ((16 * q) + 10)))) 11 (tn * ((I 123) ((16 * q) + 11)))) 12 (tn * ((I 123) ((16 * q) + 12)))) 13 (tn * ((I 123) ((16 * q) + 13)))) 14 (tn * ((I 123) ((16 * q) + 14)))) 15 (tn * ((I 123) ((16 * q) + 15))))) 133 (ma_up (ma_up (ma_up (ma_up (I 133) 3 ((tn * ((I 123) ((16 * q) + 3))) - ((((tn * ((I 123) ((16 * q) + 0))) * x) + ((tn * ((I 123) ((16 * q) + 1))) * y)) + ((tn * ((I 123) ((16 * q) + 2))) * z)))) 12 ((tn * ((I 123) ((16 * q) + 3))) - ((((tn * ((I 123) ((16 * q) + 0))) * x) + ((tn * ((I 123) ((16 * q) + 1))) * y)) + ((tn * ((I 123) ((16 * q) + 2))) * z)))) 0 (tn * ((I 123) ((16 * q) + 0)))) 1 (tn * ((I 123) ((16 * q) + 1)))))) dX8_layMoved_178 rfl hs_133 rfl (Nat.le_of_ble_eq_true rfl) (Nat.le_of_ble_eq_true rfl) (ma_up_up _ _ _ _) ?_
  refine ev_iinc (pc' := 182) (v := 2) (lv' := [some (.ref 115), some (.int (nI q)), some (.ref 133), some (.int x), some (.int y), some (.int z), some (.int tn), some (.int 0), some (.int ((((tn * ((I 123) ((16 * q) + 0))) * x) + ((tn * ((I 123) ((16 * q) + 1))) * y)) + ((tn * ((I 123) ((16 * q) + 2))) * z))), some (.int 2)]) dX8_layMoved_179 rfl rfl (by decide) (Nat.le_of_ble_eq_true rfl) rfl rfl ?_
  refine ev_goto (tgt := 152) dX8_layMoved_182 rfl ?_
  refine ev_iload (pc' := 154) dX8_layMoved_152 rfl rfl ?_
  refine ev_iconst (pc' := 155) (v := 3) dX8_layMoved_154 rfl ki_3 ?_
  refine ev_icmp_ge (tgt := 185) (pc' := 158) dX8_layMoved_155 rfl rfl (fun h => absurd h (by decide)) (fun _ => ?_)
  refine ev_aload_n (pc' := 159) (i := 2) dX8_layMoved_158 rfl rfl rfl ?_
  refine ev_iconst (pc' := 160) (v := 4) dX8_layMoved_159 rfl ki_4 ?_
  refine ev_iload (pc' := 162) dX8_layMoved_160 rfl rfl ?_
  refine ev_imul (pc' := 163) (v := 0) dX8_layMoved_162 rfl (by decide) ?_
  refine ev_iload (pc' := 165) dX8_layMoved_163 rfl rfl ?_
  refine ev_iadd (pc' := 166) (v := 2) dX8_layMoved_165 rfl (by decide) ?_
  refine ev_aload_n (pc' := 167) (i := 0) dX8_layMoved_166 rfl rfl rfl ?_
  refine ev_getR (pc' := 170) fo_X8_43 dX8_layMoved_167 rfl hs_115 rfl rf_115_15 ?_
  refine ev_iconst (pc' := 171) (v := 4) dX8_layMoved_170 rfl ki_4 ?_
  refine ev_iload (pc' := 173) dX8_layMoved_171 rfl rfl ?_
  refine ev_imul (pc' := 174) (v := 0) dX8_layMoved_173 rfl (by decide) ?_
  refine ev_iload (pc' := 176) dX8_layMoved_174 rfl rfl ?_
  refine ev_iadd (pc' := 177) (v := 2) dX8_layMoved_176 rfl (by decide) ?_
  refine ev_iald (pc' := 178) (j := 2) (v := tn * ((I 123) ((16 * q) + 2))) dX8_layMoved_177 rfl hs_125 rfl (Nat.le_of_ble_eq_true rfl) (Nat.le_of_ble_eq_true rfl) rfl ?_
  refine ev_iast (pc' := 179) (j := 2) (I' := (ma_up (ma_up I 125 (ma_up (ma_up (ma_up (ma_up (ma_up (ma_up (ma_up (ma_up (ma_up (ma_up (ma_up (ma_up (ma_up (ma_up (ma_up (ma_up (I 125) 0 (tn * ((I 123) ((16 * q) + 0)))) 1 (tn * ((I 123) ((16 * q) + 1)))) 2 (tn * ((I 123) ((16 * q) + 2)))) 3 (tn * ((I 123) ((16 * q) + 3)))) 4 (tn * ((I 123) ((16 * q) + 4)))) 5 (tn * ((I 123) ((16 * q) + 5)))) 6 (tn * ((I 123) ((16 * q) + 6)))) 7 (tn * ((I 123) ((16 * q) + 7)))) 8 (tn * ((I 123) ((16 * q) + 8)))) 9 (tn * ((I 123) ((16 * q) + 9)))) 10 (tn * ((I 123) ((16 * q) + 10)))) 11 (tn * ((I 123) ((16 * q) + 11)))) 12 (tn * ((I 123) ((16 * q) + 12)))) 13 (tn * ((I 123) ((16 * q) + 13)))) 14 (tn * ((I 123) ((16 * q) + 14)))) 15 (tn * ((I 123) ((16 * q) + 15))))) 133 (ma_up (ma_up (ma_up (ma_up (ma_up (I 133) 3 ((tn * ((I 123) ((16 * q) + 3))) - ((((tn * ((I 123) ((16 * q) + 0))) * x) + ((tn * ((I 123) ((16 * q) + 1))) * y)) + ((tn * ((I 123) ((16 * q) + 2))) * z)))) 12 ((tn * ((I 123) ((16 * q) + 3))) - ((((tn * ((I 123) ((16 * q) + 0))) * x) + ((tn * ((I 123) ((16 * q) + 1))) * y)) + ((tn * ((I 123) ((16 * q) + 2))) * z)))) 0 (tn * ((I 123) ((16 * q) + 0)))) 1 (tn * ((I 123) ((16 * q) + 1)))) 2 (tn * ((I 123) ((16 * q) + 2)))))) dX8_layMoved_178 rfl hs_133 rfl (Nat.le_of_ble_eq_true rfl) (Nat.le_of_ble_eq_true rfl) (ma_up_up _ _ _ _) ?_
  refine ev_iinc (pc' := 182) (v := 3) (lv' := [some (.ref 115), some (.int (nI q)), some (.ref 133), some (.int x), some (.int y), some (.int z), some (.int tn), some (.int 0), some (.int ((((tn * ((I 123) ((16 * q) + 0))) * x) + ((tn * ((I 123) ((16 * q) + 1))) * y)) + ((tn * ((I 123) ((16 * q) + 2))) * z))), some (.int 3)]) dX8_layMoved_179 rfl rfl (by decide) (Nat.le_of_ble_eq_true rfl) rfl rfl ?_
  refine ev_goto (tgt := 152) dX8_layMoved_182 rfl ?_
  refine ev_iload (pc' := 154) dX8_layMoved_152 rfl rfl ?_
  refine ev_iconst (pc' := 155) (v := 3) dX8_layMoved_154 rfl ki_3 ?_
  refine ev_icmp_ge (tgt := 185) (pc' := 158) dX8_layMoved_155 rfl rfl (fun _ => ?_) (fun h => absurd (by decide) h)
  refine ev_iinc (pc' := 188) (v := 1) (lv' := [some (.ref 115), some (.int (nI q)), some (.ref 133), some (.int x), some (.int y), some (.int z), some (.int tn), some (.int 1), some (.int ((((tn * ((I 123) ((16 * q) + 0))) * x) + ((tn * ((I 123) ((16 * q) + 1))) * y)) + ((tn * ((I 123) ((16 * q) + 2))) * z))), some (.int 3)]) dX8_layMoved_185 rfl rfl (by decide) (Nat.le_of_ble_eq_true rfl) rfl rfl ?_
  refine ev_goto (tgt := 63) dX8_layMoved_188 rfl ?_
  refine ev_iload (pc' := 65) dX8_layMoved_63 rfl rfl ?_
  refine ev_iconst (pc' := 66) (v := 3) dX8_layMoved_65 rfl ki_3 ?_
  refine ev_icmp_ge (tgt := 191) (pc' := 69) dX8_layMoved_66 rfl rfl (fun h => absurd h (by decide)) (fun _ => ?_)
  refine ev_aload_n (pc' := 70) (i := 0) dX8_layMoved_69 rfl rfl rfl ?_
  refine ev_getR (pc' := 73) fo_X8_43 dX8_layMoved_70 rfl hs_115 rfl rf_115_15 ?_
  refine ev_iconst (pc' := 74) (v := 4) dX8_layMoved_73 rfl ki_4 ?_
  refine ev_iload (pc' := 76) dX8_layMoved_74 rfl rfl ?_
  refine ev_imul (pc' := 77) (v := 4) dX8_layMoved_76 rfl (by decide) ?_
  refine ev_iald (pc' := 78) (j := 4) (v := tn * ((I 123) ((16 * q) + 4))) dX8_layMoved_77 rfl hs_125 rfl (Nat.le_of_ble_eq_true rfl) (Nat.le_of_ble_eq_true rfl) rfl ?_
  refine ev_iload_n (pc' := 79) (i := 3) dX8_layMoved_78 rfl rfl rfl ?_
  refine ev_imul (pc' := 80) (v := (tn * ((I 123) ((16 * q) + 4))) * x) dX8_layMoved_79 rfl rfl ?_
  refine ev_aload_n (pc' := 81) (i := 0) dX8_layMoved_80 rfl rfl rfl ?_
  refine ev_getR (pc' := 84) fo_X8_43 dX8_layMoved_81 rfl hs_115 rfl rf_115_15 ?_
  refine ev_iconst (pc' := 85) (v := 4) dX8_layMoved_84 rfl ki_4 ?_
  refine ev_iload (pc' := 87) dX8_layMoved_85 rfl rfl ?_
  refine ev_imul (pc' := 88) (v := 4) dX8_layMoved_87 rfl (by decide) ?_
  refine ev_iconst (pc' := 89) (v := 1) dX8_layMoved_88 rfl ki_1 ?_
  refine ev_iadd (pc' := 90) (v := 5) dX8_layMoved_89 rfl (by decide) ?_
  refine ev_iald (pc' := 91) (j := 5) (v := tn * ((I 123) ((16 * q) + 5))) dX8_layMoved_90 rfl hs_125 rfl (Nat.le_of_ble_eq_true rfl) (Nat.le_of_ble_eq_true rfl) rfl ?_
  refine ev_iload (pc' := 93) dX8_layMoved_91 rfl rfl ?_
  refine ev_imul (pc' := 94) (v := (tn * ((I 123) ((16 * q) + 5))) * y) dX8_layMoved_93 rfl rfl ?_
  refine ev_iadd (pc' := 95) (v := ((tn * ((I 123) ((16 * q) + 4))) * x) + ((tn * ((I 123) ((16 * q) + 5))) * y)) dX8_layMoved_94 rfl rfl ?_
  refine ev_aload_n (pc' := 96) (i := 0) dX8_layMoved_95 rfl rfl rfl ?_
  refine ev_getR (pc' := 99) fo_X8_43 dX8_layMoved_96 rfl hs_115 rfl rf_115_15 ?_
  refine ev_iconst (pc' := 100) (v := 4) dX8_layMoved_99 rfl ki_4 ?_
  refine ev_iload (pc' := 102) dX8_layMoved_100 rfl rfl ?_
  refine ev_imul (pc' := 103) (v := 4) dX8_layMoved_102 rfl (by decide) ?_
  refine ev_iconst (pc' := 104) (v := 2) dX8_layMoved_103 rfl ki_2 ?_
  refine ev_iadd (pc' := 105) (v := 6) dX8_layMoved_104 rfl (by decide) ?_
  refine ev_iald (pc' := 106) (j := 6) (v := tn * ((I 123) ((16 * q) + 6))) dX8_layMoved_105 rfl hs_125 rfl (Nat.le_of_ble_eq_true rfl) (Nat.le_of_ble_eq_true rfl) rfl ?_
  refine ev_iload (pc' := 108) dX8_layMoved_106 rfl rfl ?_
  refine ev_imul (pc' := 109) (v := (tn * ((I 123) ((16 * q) + 6))) * z) dX8_layMoved_108 rfl rfl ?_
  refine ev_iadd (pc' := 110) (v := (((tn * ((I 123) ((16 * q) + 4))) * x) + ((tn * ((I 123) ((16 * q) + 5))) * y)) + ((tn * ((I 123) ((16 * q) + 6))) * z)) dX8_layMoved_109 rfl rfl ?_
  refine ev_istore (pc' := 112) (lv' := [some (.ref 115), some (.int (nI q)), some (.ref 133), some (.int x), some (.int y), some (.int z), some (.int tn), some (.int 1), some (.int ((((tn * ((I 123) ((16 * q) + 4))) * x) + ((tn * ((I 123) ((16 * q) + 5))) * y)) + ((tn * ((I 123) ((16 * q) + 6))) * z))), some (.int 3)]) dX8_layMoved_110 rfl (Nat.le_of_ble_eq_true rfl) rfl rfl ?_
  refine ev_aload_n (pc' := 113) (i := 2) dX8_layMoved_112 rfl rfl rfl ?_
  refine ev_iconst (pc' := 114) (v := 4) dX8_layMoved_113 rfl ki_4 ?_
  refine ev_iload (pc' := 116) dX8_layMoved_114 rfl rfl ?_
  refine ev_imul (pc' := 117) (v := 4) dX8_layMoved_116 rfl (by decide) ?_
  refine ev_iconst (pc' := 118) (v := 3) dX8_layMoved_117 rfl ki_3 ?_
  refine ev_iadd (pc' := 119) (v := 7) dX8_layMoved_118 rfl (by decide) ?_
  refine ev_aload_n (pc' := 120) (i := 0) dX8_layMoved_119 rfl rfl rfl ?_
  refine ev_getR (pc' := 123) fo_X8_43 dX8_layMoved_120 rfl hs_115 rfl rf_115_15 ?_
  refine ev_iconst (pc' := 124) (v := 4) dX8_layMoved_123 rfl ki_4 ?_
  refine ev_iload (pc' := 126) dX8_layMoved_124 rfl rfl ?_
  refine ev_imul (pc' := 127) (v := 4) dX8_layMoved_126 rfl (by decide) ?_
  refine ev_iconst (pc' := 128) (v := 3) dX8_layMoved_127 rfl ki_3 ?_
  refine ev_iadd (pc' := 129) (v := 7) dX8_layMoved_128 rfl (by decide) ?_
  refine ev_iald (pc' := 130) (j := 7) (v := tn * ((I 123) ((16 * q) + 7))) dX8_layMoved_129 rfl hs_125 rfl (Nat.le_of_ble_eq_true rfl) (Nat.le_of_ble_eq_true rfl) rfl ?_
  refine ev_iload (pc' := 132) dX8_layMoved_130 rfl rfl ?_
  refine ev_isub (pc' := 133) (v := (tn * ((I 123) ((16 * q) + 7))) - ((((tn * ((I 123) ((16 * q) + 4))) * x) + ((tn * ((I 123) ((16 * q) + 5))) * y)) + ((tn * ((I 123) ((16 * q) + 6))) * z))) dX8_layMoved_132 rfl rfl ?_
  refine ev_iast (pc' := 134) (j := 7) (I' := (ma_up (ma_up I 125 (ma_up (ma_up (ma_up (ma_up (ma_up (ma_up (ma_up (ma_up (ma_up (ma_up (ma_up (ma_up (ma_up (ma_up (ma_up (ma_up (I 125) 0 (tn * ((I 123) ((16 * q) + 0)))) 1 (tn * ((I 123) ((16 * q) + 1)))) 2 (tn * ((I 123) ((16 * q) + 2)))) 3 (tn * ((I 123) ((16 * q) + 3)))) 4 (tn * ((I 123) ((16 * q) + 4)))) 5 (tn * ((I 123) ((16 * q) + 5)))) 6 (tn * ((I 123) ((16 * q) + 6)))) 7 (tn * ((I 123) ((16 * q) + 7)))) 8 (tn * ((I 123) ((16 * q) + 8)))) 9 (tn * ((I 123) ((16 * q) + 9)))) 10 (tn * ((I 123) ((16 * q) + 10)))) 11 (tn * ((I 123) ((16 * q) + 11)))) 12 (tn * ((I 123) ((16 * q) + 12)))) 13 (tn * ((I 123) ((16 * q) + 13)))) 14 (tn * ((I 123) ((16 * q) + 14)))) 15 (tn * ((I 123) ((16 * q) + 15))))) 133 (ma_up (ma_up (ma_up (ma_up (ma_up (ma_up (I 133) 3 ((tn * ((I 123) ((16 * q) + 3))) - ((((tn * ((I 123) ((16 * q) + 0))) * x) + ((tn * ((I 123) ((16 * q) + 1))) * y)) + ((tn * ((I 123) ((16 * q) + 2))) * z)))) 12 ((tn * ((I 123) ((16 * q) + 3))) - ((((tn * ((I 123) ((16 * q) + 0))) * x) + ((tn * ((I 123) ((16 * q) + 1))) * y)) + ((tn * ((I 123) ((16 * q) + 2))) * z)))) 0 (tn * ((I 123) ((16 * q) + 0)))) 1 (tn * ((I 123) ((16 * q) + 1)))) 2 (tn * ((I 123) ((16 * q) + 2)))) 7 ((tn * ((I 123) ((16 * q) + 7))) - ((((tn * ((I 123) ((16 * q) + 4))) * x) + ((tn * ((I 123) ((16 * q) + 5))) * y)) + ((tn * ((I 123) ((16 * q) + 6))) * z)))))) dX8_layMoved_133 rfl hs_133 rfl (Nat.le_of_ble_eq_true rfl) (Nat.le_of_ble_eq_true rfl) (ma_up_up _ _ _ _) ?_
  refine ev_aload_n (pc' := 135) (i := 2) dX8_layMoved_134 rfl rfl rfl ?_
  refine ev_bipush (pc' := 137) (v := 12) dX8_layMoved_135 rfl kb_12 ?_
  refine ev_iload (pc' := 139) dX8_layMoved_137 rfl rfl ?_
  refine ev_iadd (pc' := 140) (v := 13) dX8_layMoved_139 rfl (by decide) ?_
  refine ev_aload_n (pc' := 141) (i := 2) dX8_layMoved_140 rfl rfl rfl ?_
  refine ev_iconst (pc' := 142) (v := 4) dX8_layMoved_141 rfl ki_4 ?_
  refine ev_iload (pc' := 144) dX8_layMoved_142 rfl rfl ?_
  refine ev_imul (pc' := 145) (v := 4) dX8_layMoved_144 rfl (by decide) ?_
  refine ev_iconst (pc' := 146) (v := 3) dX8_layMoved_145 rfl ki_3 ?_
  refine ev_iadd (pc' := 147) (v := 7) dX8_layMoved_146 rfl (by decide) ?_
  refine ev_iald (pc' := 148) (j := 7) (v := (tn * ((I 123) ((16 * q) + 7))) - ((((tn * ((I 123) ((16 * q) + 4))) * x) + ((tn * ((I 123) ((16 * q) + 5))) * y)) + ((tn * ((I 123) ((16 * q) + 6))) * z))) dX8_layMoved_147 rfl hs_133 rfl (Nat.le_of_ble_eq_true rfl) (Nat.le_of_ble_eq_true rfl) rfl ?_
  refine ev_iast (pc' := 149) (j := 13) (I' := (ma_up (ma_up I 125 (ma_up (ma_up (ma_up (ma_up (ma_up (ma_up (ma_up (ma_up (ma_up (ma_up (ma_up (ma_up (ma_up (ma_up (ma_up (ma_up (I 125) 0 (tn * ((I 123) ((16 * q) + 0)))) 1 (tn * ((I 123) ((16 * q) + 1)))) 2 (tn * ((I 123) ((16 * q) + 2)))) 3 (tn * ((I 123) ((16 * q) + 3)))) 4 (tn * ((I 123) ((16 * q) + 4)))) 5 (tn * ((I 123) ((16 * q) + 5)))) 6 (tn * ((I 123) ((16 * q) + 6)))) 7 (tn * ((I 123) ((16 * q) + 7)))) 8 (tn * ((I 123) ((16 * q) + 8)))) 9 (tn * ((I 123) ((16 * q) + 9)))) 10 (tn * ((I 123) ((16 * q) + 10)))) 11 (tn * ((I 123) ((16 * q) + 11)))) 12 (tn * ((I 123) ((16 * q) + 12)))) 13 (tn * ((I 123) ((16 * q) + 13)))) 14 (tn * ((I 123) ((16 * q) + 14)))) 15 (tn * ((I 123) ((16 * q) + 15))))) 133 (ma_up (ma_up (ma_up (ma_up (ma_up (ma_up (ma_up (I 133) 3 ((tn * ((I 123) ((16 * q) + 3))) - ((((tn * ((I 123) ((16 * q) + 0))) * x) + ((tn * ((I 123) ((16 * q) + 1))) * y)) + ((tn * ((I 123) ((16 * q) + 2))) * z)))) 12 ((tn * ((I 123) ((16 * q) + 3))) - ((((tn * ((I 123) ((16 * q) + 0))) * x) + ((tn * ((I 123) ((16 * q) + 1))) * y)) + ((tn * ((I 123) ((16 * q) + 2))) * z)))) 0 (tn * ((I 123) ((16 * q) + 0)))) 1 (tn * ((I 123) ((16 * q) + 1)))) 2 (tn * ((I 123) ((16 * q) + 2)))) 7 ((tn * ((I 123) ((16 * q) + 7))) - ((((tn * ((I 123) ((16 * q) + 4))) * x) + ((tn * ((I 123) ((16 * q) + 5))) * y)) + ((tn * ((I 123) ((16 * q) + 6))) * z)))) 13 ((tn * ((I 123) ((16 * q) + 7))) - ((((tn * ((I 123) ((16 * q) + 4))) * x) + ((tn * ((I 123) ((16 * q) + 5))) * y)) + ((tn * ((I 123) ((16 * q) + 6))) * z)))))) dX8_layMoved_148 rfl hs_133 rfl (Nat.le_of_ble_eq_true rfl) (Nat.le_of_ble_eq_true rfl) (ma_up_up _ _ _ _) ?_
  refine ev_iconst (pc' := 150) (v := 0) dX8_layMoved_149 rfl ki_0 ?_
  refine ev_istore (pc' := 152) (lv' := [some (.ref 115), some (.int (nI q)), some (.ref 133), some (.int x), some (.int y), some (.int z), some (.int tn), some (.int 1), some (.int ((((tn * ((I 123) ((16 * q) + 4))) * x) + ((tn * ((I 123) ((16 * q) + 5))) * y)) + ((tn * ((I 123) ((16 * q) + 6))) * z))), some (.int 0)]) dX8_layMoved_150 rfl (Nat.le_of_ble_eq_true rfl) rfl rfl ?_
  refine ev_iload (pc' := 154) dX8_layMoved_152 rfl rfl ?_
  refine ev_iconst (pc' := 155) (v := 3) dX8_layMoved_154 rfl ki_3 ?_
  refine ev_icmp_ge (tgt := 185) (pc' := 158) dX8_layMoved_155 rfl rfl (fun h => absurd h (by decide)) (fun _ => ?_)
  refine ev_aload_n (pc' := 159) (i := 2) dX8_layMoved_158 rfl rfl rfl ?_
  refine ev_iconst (pc' := 160) (v := 4) dX8_layMoved_159 rfl ki_4 ?_
  refine ev_iload (pc' := 162) dX8_layMoved_160 rfl rfl ?_
  refine ev_imul (pc' := 163) (v := 4) dX8_layMoved_162 rfl (by decide) ?_
  refine ev_iload (pc' := 165) dX8_layMoved_163 rfl rfl ?_
  refine ev_iadd (pc' := 166) (v := 4) dX8_layMoved_165 rfl (by decide) ?_
  refine ev_aload_n (pc' := 167) (i := 0) dX8_layMoved_166 rfl rfl rfl ?_
  refine ev_getR (pc' := 170) fo_X8_43 dX8_layMoved_167 rfl hs_115 rfl rf_115_15 ?_
  refine ev_iconst (pc' := 171) (v := 4) dX8_layMoved_170 rfl ki_4 ?_
  refine ev_iload (pc' := 173) dX8_layMoved_171 rfl rfl ?_
  refine ev_imul (pc' := 174) (v := 4) dX8_layMoved_173 rfl (by decide) ?_
  refine ev_iload (pc' := 176) dX8_layMoved_174 rfl rfl ?_
  refine ev_iadd (pc' := 177) (v := 4) dX8_layMoved_176 rfl (by decide) ?_
  refine ev_iald (pc' := 178) (j := 4) (v := tn * ((I 123) ((16 * q) + 4))) dX8_layMoved_177 rfl hs_125 rfl (Nat.le_of_ble_eq_true rfl) (Nat.le_of_ble_eq_true rfl) rfl ?_
  refine ev_iast (pc' := 179) (j := 4) (I' := (ma_up (ma_up I 125 (ma_up (ma_up (ma_up (ma_up (ma_up (ma_up (ma_up (ma_up (ma_up (ma_up (ma_up (ma_up (ma_up (ma_up (ma_up (ma_up (I 125) 0 (tn * ((I 123) ((16 * q) + 0)))) 1 (tn * ((I 123) ((16 * q) + 1)))) 2 (tn * ((I 123) ((16 * q) + 2)))) 3 (tn * ((I 123) ((16 * q) + 3)))) 4 (tn * ((I 123) ((16 * q) + 4)))) 5 (tn * ((I 123) ((16 * q) + 5)))) 6 (tn * ((I 123) ((16 * q) + 6)))) 7 (tn * ((I 123) ((16 * q) + 7)))) 8 (tn * ((I 123) ((16 * q) + 8)))) 9 (tn * ((I 123) ((16 * q) + 9)))) 10 (tn * ((I 123) ((16 * q) + 10)))) 11 (tn * ((I 123) ((16 * q) + 11)))) 12 (tn * ((I 123) ((16 * q) + 12)))) 13 (tn * ((I 123) ((16 * q) + 13)))) 14 (tn * ((I 123) ((16 * q) + 14)))) 15 (tn * ((I 123) ((16 * q) + 15))))) 133 (ma_up (ma_up (ma_up (ma_up (ma_up (ma_up (ma_up (ma_up (I 133) 3 ((tn * ((I 123) ((16 * q) + 3))) - ((((tn * ((I 123) ((16 * q) + 0))) * x) + ((tn * ((I 123) ((16 * q) + 1))) * y)) + ((tn * ((I 123) ((16 * q) + 2))) * z)))) 12 ((tn * ((I 123) ((16 * q) + 3))) - ((((tn * ((I 123) ((16 * q) + 0))) * x) + ((tn * ((I 123) ((16 * q) + 1))) * y)) + ((tn * ((I 123) ((16 * q) + 2))) * z)))) 0 (tn * ((I 123) ((16 * q) + 0)))) 1 (tn * ((I 123) ((16 * q) + 1)))) 2 (tn * ((I 123) ((16 * q) + 2)))) 7 ((tn * ((I 123) ((16 * q) + 7))) - ((((tn * ((I 123) ((16 * q) + 4))) * x) + ((tn * ((I 123) ((16 * q) + 5))) * y)) + ((tn * ((I 123) ((16 * q) + 6))) * z)))) 13 ((tn * ((I 123) ((16 * q) + 7))) - ((((tn * ((I 123) ((16 * q) + 4))) * x) + ((tn * ((I 123) ((16 * q) + 5))) * y)) + ((tn * ((I 123) ((16 * q) + 6))) * z)))) 4 (tn * ((I 123) ((16 * q) + 4)))))) dX8_layMoved_178 rfl hs_133 rfl (Nat.le_of_ble_eq_true rfl) (Nat.le_of_ble_eq_true rfl) (ma_up_up _ _ _ _) ?_
  refine ev_iinc (pc' := 182) (v := 1) (lv' := [some (.ref 115), some (.int (nI q)), some (.ref 133), some (.int x), some (.int y), some (.int z), some (.int tn), some (.int 1), some (.int ((((tn * ((I 123) ((16 * q) + 4))) * x) + ((tn * ((I 123) ((16 * q) + 5))) * y)) + ((tn * ((I 123) ((16 * q) + 6))) * z))), some (.int 1)]) dX8_layMoved_179 rfl rfl (by decide) (Nat.le_of_ble_eq_true rfl) rfl rfl ?_
  refine ev_goto (tgt := 152) dX8_layMoved_182 rfl ?_
  refine ev_iload (pc' := 154) dX8_layMoved_152 rfl rfl ?_
  refine ev_iconst (pc' := 155) (v := 3) dX8_layMoved_154 rfl ki_3 ?_
  refine ev_icmp_ge (tgt := 185) (pc' := 158) dX8_layMoved_155 rfl rfl (fun h => absurd h (by decide)) (fun _ => ?_)
  refine ev_aload_n (pc' := 159) (i := 2) dX8_layMoved_158 rfl rfl rfl ?_
  refine ev_iconst (pc' := 160) (v := 4) dX8_layMoved_159 rfl ki_4 ?_
  refine ev_iload (pc' := 162) dX8_layMoved_160 rfl rfl ?_
  refine ev_imul (pc' := 163) (v := 4) dX8_layMoved_162 rfl (by decide) ?_
  refine ev_iload (pc' := 165) dX8_layMoved_163 rfl rfl ?_
  refine ev_iadd (pc' := 166) (v := 5) dX8_layMoved_165 rfl (by decide) ?_
  refine ev_aload_n (pc' := 167) (i := 0) dX8_layMoved_166 rfl rfl rfl ?_
  refine ev_getR (pc' := 170) fo_X8_43 dX8_layMoved_167 rfl hs_115 rfl rf_115_15 ?_
  refine ev_iconst (pc' := 171) (v := 4) dX8_layMoved_170 rfl ki_4 ?_
  refine ev_iload (pc' := 173) dX8_layMoved_171 rfl rfl ?_
  refine ev_imul (pc' := 174) (v := 4) dX8_layMoved_173 rfl (by decide) ?_
  refine ev_iload (pc' := 176) dX8_layMoved_174 rfl rfl ?_
  refine ev_iadd (pc' := 177) (v := 5) dX8_layMoved_176 rfl (by decide) ?_
  refine ev_iald (pc' := 178) (j := 5) (v := tn * ((I 123) ((16 * q) + 5))) dX8_layMoved_177 rfl hs_125 rfl (Nat.le_of_ble_eq_true rfl) (Nat.le_of_ble_eq_true rfl) rfl ?_
  refine ev_iast (pc' := 179) (j := 5) (I' := (ma_up (ma_up I 125 (ma_up (ma_up (ma_up (ma_up (ma_up (ma_up (ma_up (ma_up (ma_up (ma_up (ma_up (ma_up (ma_up (ma_up (ma_up (ma_up (I 125) 0 (tn * ((I 123) ((16 * q) + 0)))) 1 (tn * ((I 123) ((16 * q) + 1)))) 2 (tn * ((I 123) ((16 * q) + 2)))) 3 (tn * ((I 123) ((16 * q) + 3)))) 4 (tn * ((I 123) ((16 * q) + 4)))) 5 (tn * ((I 123) ((16 * q) + 5)))) 6 (tn * ((I 123) ((16 * q) + 6)))) 7 (tn * ((I 123) ((16 * q) + 7)))) 8 (tn * ((I 123) ((16 * q) + 8)))) 9 (tn * ((I 123) ((16 * q) + 9)))) 10 (tn * ((I 123) ((16 * q) + 10)))) 11 (tn * ((I 123) ((16 * q) + 11)))) 12 (tn * ((I 123) ((16 * q) + 12)))) 13 (tn * ((I 123) ((16 * q) + 13)))) 14 (tn * ((I 123) ((16 * q) + 14)))) 15 (tn * ((I 123) ((16 * q) + 15))))) 133 (ma_up (ma_up (ma_up (ma_up (ma_up (ma_up (ma_up (ma_up (ma_up (I 133) 3 ((tn * ((I 123) ((16 * q) + 3))) - ((((tn * ((I 123) ((16 * q) + 0))) * x) + ((tn * ((I 123) ((16 * q) + 1))) * y)) + ((tn * ((I 123) ((16 * q) + 2))) * z)))) 12 ((tn * ((I 123) ((16 * q) + 3))) - ((((tn * ((I 123) ((16 * q) + 0))) * x) + ((tn * ((I 123) ((16 * q) + 1))) * y)) + ((tn * ((I 123) ((16 * q) + 2))) * z)))) 0 (tn * ((I 123) ((16 * q) + 0)))) 1 (tn * ((I 123) ((16 * q) + 1)))) 2 (tn * ((I 123) ((16 * q) + 2)))) 7 ((tn * ((I 123) ((16 * q) + 7))) - ((((tn * ((I 123) ((16 * q) + 4))) * x) + ((tn * ((I 123) ((16 * q) + 5))) * y)) + ((tn * ((I 123) ((16 * q) + 6))) * z)))) 13 ((tn * ((I 123) ((16 * q) + 7))) - ((((tn * ((I 123) ((16 * q) + 4))) * x) + ((tn * ((I 123) ((16 * q) + 5))) * y)) + ((tn * ((I 123) ((16 * q) + 6))) * z)))) 4 (tn * ((I 123) ((16 * q) + 4)))) 5 (tn * ((I 123) ((16 * q) + 5)))))) dX8_layMoved_178 rfl hs_133 rfl (Nat.le_of_ble_eq_true rfl) (Nat.le_of_ble_eq_true rfl) (ma_up_up _ _ _ _) ?_
  refine ev_iinc (pc' := 182) (v := 2) (lv' := [some (.ref 115), some (.int (nI q)), some (.ref 133), some (.int x), some (.int y), some (.int z), some (.int tn), some (.int 1), some (.int ((((tn * ((I 123) ((16 * q) + 4))) * x) + ((tn * ((I 123) ((16 * q) + 5))) * y)) + ((tn * ((I 123) ((16 * q) + 6))) * z))), some (.int 2)]) dX8_layMoved_179 rfl rfl (by decide) (Nat.le_of_ble_eq_true rfl) rfl rfl ?_
  refine ev_goto (tgt := 152) dX8_layMoved_182 rfl ?_
  refine ev_iload (pc' := 154) dX8_layMoved_152 rfl rfl ?_
  refine ev_iconst (pc' := 155) (v := 3) dX8_layMoved_154 rfl ki_3 ?_
  refine ev_icmp_ge (tgt := 185) (pc' := 158) dX8_layMoved_155 rfl rfl (fun h => absurd h (by decide)) (fun _ => ?_)
  refine ev_aload_n (pc' := 159) (i := 2) dX8_layMoved_158 rfl rfl rfl ?_
  refine ev_iconst (pc' := 160) (v := 4) dX8_layMoved_159 rfl ki_4 ?_
  refine ev_iload (pc' := 162) dX8_layMoved_160 rfl rfl ?_
  refine ev_imul (pc' := 163) (v := 4) dX8_layMoved_162 rfl (by decide) ?_
  refine ev_iload (pc' := 165) dX8_layMoved_163 rfl rfl ?_
  refine ev_iadd (pc' := 166) (v := 6) dX8_layMoved_165 rfl (by decide) ?_
  refine ev_aload_n (pc' := 167) (i := 0) dX8_layMoved_166 rfl rfl rfl ?_
  refine ev_getR (pc' := 170) fo_X8_43 dX8_layMoved_167 rfl hs_115 rfl rf_115_15 ?_
  refine ev_iconst (pc' := 171) (v := 4) dX8_layMoved_170 rfl ki_4 ?_
  refine ev_iload (pc' := 173) dX8_layMoved_171 rfl rfl ?_
  refine ev_imul (pc' := 174) (v := 4) dX8_layMoved_173 rfl (by decide) ?_
  refine ev_iload (pc' := 176) dX8_layMoved_174 rfl rfl ?_
  refine ev_iadd (pc' := 177) (v := 6) dX8_layMoved_176 rfl (by decide) ?_
  refine ev_iald (pc' := 178) (j := 6) (v := tn * ((I 123) ((16 * q) + 6))) dX8_layMoved_177 rfl hs_125 rfl (Nat.le_of_ble_eq_true rfl) (Nat.le_of_ble_eq_true rfl) rfl ?_
  refine ev_iast (pc' := 179) (j := 6) (I' := (ma_up (ma_up I 125 (ma_up (ma_up (ma_up (ma_up (ma_up (ma_up (ma_up (ma_up (ma_up (ma_up (ma_up (ma_up (ma_up (ma_up (ma_up (ma_up (I 125) 0 (tn * ((I 123) ((16 * q) + 0)))) 1 (tn * ((I 123) ((16 * q) + 1)))) 2 (tn * ((I 123) ((16 * q) + 2)))) 3 (tn * ((I 123) ((16 * q) + 3)))) 4 (tn * ((I 123) ((16 * q) + 4)))) 5 (tn * ((I 123) ((16 * q) + 5)))) 6 (tn * ((I 123) ((16 * q) + 6)))) 7 (tn * ((I 123) ((16 * q) + 7)))) 8 (tn * ((I 123) ((16 * q) + 8)))) 9 (tn * ((I 123) ((16 * q) + 9)))) 10 (tn * ((I 123) ((16 * q) + 10)))) 11 (tn * ((I 123) ((16 * q) + 11)))) 12 (tn * ((I 123) ((16 * q) + 12)))) 13 (tn * ((I 123) ((16 * q) + 13)))) 14 (tn * ((I 123) ((16 * q) + 14)))) 15 (tn * ((I 123) ((16 * q) + 15))))) 133 (ma_up (ma_up (ma_up (ma_up (ma_up (ma_up (ma_up (ma_up (ma_up (ma_up (I 133) 3 ((tn * ((I 123) ((16 * q) + 3))) - ((((tn * ((I 123) ((16 * q) + 0))) * x) + ((tn * ((I 123) ((16 * q) + 1))) * y)) + ((tn * ((I 123) ((16 * q) + 2))) * z)))) 12 ((tn * ((I 123) ((16 * q) + 3))) - ((((tn * ((I 123) ((16 * q) + 0))) * x) + ((tn * ((I 123) ((16 * q) + 1))) * y)) + ((tn * ((I 123) ((16 * q) + 2))) * z)))) 0 (tn * ((I 123) ((16 * q) + 0)))) 1 (tn * ((I 123) ((16 * q) + 1)))) 2 (tn * ((I 123) ((16 * q) + 2)))) 7 ((tn * ((I 123) ((16 * q) + 7))) - ((((tn * ((I 123) ((16 * q) + 4))) * x) + ((tn * ((I 123) ((16 * q) + 5))) * y)) + ((tn * ((I 123) ((16 * q) + 6))) * z)))) 13 ((tn * ((I 123) ((16 * q) + 7))) - ((((tn * ((I 123) ((16 * q) + 4))) * x) + ((tn * ((I 123) ((16 * q) + 5))) * y)) + ((tn * ((I 123) ((16 * q) + 6))) * z)))) 4 (tn * ((I 123) ((16 * q) + 4)))) 5 (tn * ((I 123) ((16 * q) + 5)))) 6 (tn * ((I 123) ((16 * q) + 6)))))) dX8_layMoved_178 rfl hs_133 rfl (Nat.le_of_ble_eq_true rfl) (Nat.le_of_ble_eq_true rfl) (ma_up_up _ _ _ _) ?_
  refine ev_iinc (pc' := 182) (v := 3) (lv' := [some (.ref 115), some (.int (nI q)), some (.ref 133), some (.int x), some (.int y), some (.int z), some (.int tn), some (.int 1), some (.int ((((tn * ((I 123) ((16 * q) + 4))) * x) + ((tn * ((I 123) ((16 * q) + 5))) * y)) + ((tn * ((I 123) ((16 * q) + 6))) * z))), some (.int 3)]) dX8_layMoved_179 rfl rfl (by decide) (Nat.le_of_ble_eq_true rfl) rfl rfl ?_
  refine ev_goto (tgt := 152) dX8_layMoved_182 rfl ?_
  refine ev_iload (pc' := 154) dX8_layMoved_152 rfl rfl ?_
  refine ev_iconst (pc' := 155) (v := 3) dX8_layMoved_154 rfl ki_3 ?_
  refine ev_icmp_ge (tgt := 185) (pc' := 158) dX8_layMoved_155 rfl rfl (fun _ => ?_) (fun h => absurd (by decide) h)
  refine ev_iinc (pc' := 188) (v := 2) (lv' := [some (.ref 115), some (.int (nI q)), some (.ref 133), some (.int x), some (.int y), some (.int z), some (.int tn), some (.int 2), some (.int ((((tn * ((I 123) ((16 * q) + 4))) * x) + ((tn * ((I 123) ((16 * q) + 5))) * y)) + ((tn * ((I 123) ((16 * q) + 6))) * z))), some (.int 3)]) dX8_layMoved_185 rfl rfl (by decide) (Nat.le_of_ble_eq_true rfl) rfl rfl ?_
  refine ev_goto (tgt := 63) dX8_layMoved_188 rfl ?_
  refine ev_iload (pc' := 65) dX8_layMoved_63 rfl rfl ?_
  refine ev_iconst (pc' := 66) (v := 3) dX8_layMoved_65 rfl ki_3 ?_
  refine ev_icmp_ge (tgt := 191) (pc' := 69) dX8_layMoved_66 rfl rfl (fun h => absurd h (by decide)) (fun _ => ?_)
  refine ev_aload_n (pc' := 70) (i := 0) dX8_layMoved_69 rfl rfl rfl ?_
  refine ev_getR (pc' := 73) fo_X8_43 dX8_layMoved_70 rfl hs_115 rfl rf_115_15 ?_
  refine ev_iconst (pc' := 74) (v := 4) dX8_layMoved_73 rfl ki_4 ?_
  refine ev_iload (pc' := 76) dX8_layMoved_74 rfl rfl ?_
  refine ev_imul (pc' := 77) (v := 8) dX8_layMoved_76 rfl (by decide) ?_
  refine ev_iald (pc' := 78) (j := 8) (v := tn * ((I 123) ((16 * q) + 8))) dX8_layMoved_77 rfl hs_125 rfl (Nat.le_of_ble_eq_true rfl) (Nat.le_of_ble_eq_true rfl) rfl ?_
  refine ev_iload_n (pc' := 79) (i := 3) dX8_layMoved_78 rfl rfl rfl ?_
  refine ev_imul (pc' := 80) (v := (tn * ((I 123) ((16 * q) + 8))) * x) dX8_layMoved_79 rfl rfl ?_
  refine ev_aload_n (pc' := 81) (i := 0) dX8_layMoved_80 rfl rfl rfl ?_
  refine ev_getR (pc' := 84) fo_X8_43 dX8_layMoved_81 rfl hs_115 rfl rf_115_15 ?_
  refine ev_iconst (pc' := 85) (v := 4) dX8_layMoved_84 rfl ki_4 ?_
  refine ev_iload (pc' := 87) dX8_layMoved_85 rfl rfl ?_
  refine ev_imul (pc' := 88) (v := 8) dX8_layMoved_87 rfl (by decide) ?_
  refine ev_iconst (pc' := 89) (v := 1) dX8_layMoved_88 rfl ki_1 ?_
  refine ev_iadd (pc' := 90) (v := 9) dX8_layMoved_89 rfl (by decide) ?_
  refine ev_iald (pc' := 91) (j := 9) (v := tn * ((I 123) ((16 * q) + 9))) dX8_layMoved_90 rfl hs_125 rfl (Nat.le_of_ble_eq_true rfl) (Nat.le_of_ble_eq_true rfl) rfl ?_
  refine ev_iload (pc' := 93) dX8_layMoved_91 rfl rfl ?_
  refine ev_imul (pc' := 94) (v := (tn * ((I 123) ((16 * q) + 9))) * y) dX8_layMoved_93 rfl rfl ?_
  refine ev_iadd (pc' := 95) (v := ((tn * ((I 123) ((16 * q) + 8))) * x) + ((tn * ((I 123) ((16 * q) + 9))) * y)) dX8_layMoved_94 rfl rfl ?_
  refine ev_aload_n (pc' := 96) (i := 0) dX8_layMoved_95 rfl rfl rfl ?_
  refine ev_getR (pc' := 99) fo_X8_43 dX8_layMoved_96 rfl hs_115 rfl rf_115_15 ?_
  refine ev_iconst (pc' := 100) (v := 4) dX8_layMoved_99 rfl ki_4 ?_
  refine ev_iload (pc' := 102) dX8_layMoved_100 rfl rfl ?_
  refine ev_imul (pc' := 103) (v := 8) dX8_layMoved_102 rfl (by decide) ?_
  refine ev_iconst (pc' := 104) (v := 2) dX8_layMoved_103 rfl ki_2 ?_
  refine ev_iadd (pc' := 105) (v := 10) dX8_layMoved_104 rfl (by decide) ?_
  refine ev_iald (pc' := 106) (j := 10) (v := tn * ((I 123) ((16 * q) + 10))) dX8_layMoved_105 rfl hs_125 rfl (Nat.le_of_ble_eq_true rfl) (Nat.le_of_ble_eq_true rfl) rfl ?_
  refine ev_iload (pc' := 108) dX8_layMoved_106 rfl rfl ?_
  refine ev_imul (pc' := 109) (v := (tn * ((I 123) ((16 * q) + 10))) * z) dX8_layMoved_108 rfl rfl ?_
  refine ev_iadd (pc' := 110) (v := (((tn * ((I 123) ((16 * q) + 8))) * x) + ((tn * ((I 123) ((16 * q) + 9))) * y)) + ((tn * ((I 123) ((16 * q) + 10))) * z)) dX8_layMoved_109 rfl rfl ?_
  refine ev_istore (pc' := 112) (lv' := [some (.ref 115), some (.int (nI q)), some (.ref 133), some (.int x), some (.int y), some (.int z), some (.int tn), some (.int 2), some (.int ((((tn * ((I 123) ((16 * q) + 8))) * x) + ((tn * ((I 123) ((16 * q) + 9))) * y)) + ((tn * ((I 123) ((16 * q) + 10))) * z))), some (.int 3)]) dX8_layMoved_110 rfl (Nat.le_of_ble_eq_true rfl) rfl rfl ?_
  refine ev_aload_n (pc' := 113) (i := 2) dX8_layMoved_112 rfl rfl rfl ?_
  refine ev_iconst (pc' := 114) (v := 4) dX8_layMoved_113 rfl ki_4 ?_
  refine ev_iload (pc' := 116) dX8_layMoved_114 rfl rfl ?_
  refine ev_imul (pc' := 117) (v := 8) dX8_layMoved_116 rfl (by decide) ?_
  refine ev_iconst (pc' := 118) (v := 3) dX8_layMoved_117 rfl ki_3 ?_
  refine ev_iadd (pc' := 119) (v := 11) dX8_layMoved_118 rfl (by decide) ?_
  refine ev_aload_n (pc' := 120) (i := 0) dX8_layMoved_119 rfl rfl rfl ?_
  refine ev_getR (pc' := 123) fo_X8_43 dX8_layMoved_120 rfl hs_115 rfl rf_115_15 ?_
  refine ev_iconst (pc' := 124) (v := 4) dX8_layMoved_123 rfl ki_4 ?_
  refine ev_iload (pc' := 126) dX8_layMoved_124 rfl rfl ?_
  refine ev_imul (pc' := 127) (v := 8) dX8_layMoved_126 rfl (by decide) ?_
  refine ev_iconst (pc' := 128) (v := 3) dX8_layMoved_127 rfl ki_3 ?_
  refine ev_iadd (pc' := 129) (v := 11) dX8_layMoved_128 rfl (by decide) ?_
  refine ev_iald (pc' := 130) (j := 11) (v := tn * ((I 123) ((16 * q) + 11))) dX8_layMoved_129 rfl hs_125 rfl (Nat.le_of_ble_eq_true rfl) (Nat.le_of_ble_eq_true rfl) rfl ?_
  refine ev_iload (pc' := 132) dX8_layMoved_130 rfl rfl ?_
  refine ev_isub (pc' := 133) (v := (tn * ((I 123) ((16 * q) + 11))) - ((((tn * ((I 123) ((16 * q) + 8))) * x) + ((tn * ((I 123) ((16 * q) + 9))) * y)) + ((tn * ((I 123) ((16 * q) + 10))) * z))) dX8_layMoved_132 rfl rfl ?_
  refine ev_iast (pc' := 134) (j := 11) (I' := (ma_up (ma_up I 125 (ma_up (ma_up (ma_up (ma_up (ma_up (ma_up (ma_up (ma_up (ma_up (ma_up (ma_up (ma_up (ma_up (ma_up (ma_up (ma_up (I 125) 0 (tn * ((I 123) ((16 * q) + 0)))) 1 (tn * ((I 123) ((16 * q) + 1)))) 2 (tn * ((I 123) ((16 * q) + 2)))) 3 (tn * ((I 123) ((16 * q) + 3)))) 4 (tn * ((I 123) ((16 * q) + 4)))) 5 (tn * ((I 123) ((16 * q) + 5)))) 6 (tn * ((I 123) ((16 * q) + 6)))) 7 (tn * ((I 123) ((16 * q) + 7)))) 8 (tn * ((I 123) ((16 * q) + 8)))) 9 (tn * ((I 123) ((16 * q) + 9)))) 10 (tn * ((I 123) ((16 * q) + 10)))) 11 (tn * ((I 123) ((16 * q) + 11)))) 12 (tn * ((I 123) ((16 * q) + 12)))) 13 (tn * ((I 123) ((16 * q) + 13)))) 14 (tn * ((I 123) ((16 * q) + 14)))) 15 (tn * ((I 123) ((16 * q) + 15))))) 133 (ma_up (ma_up (ma_up (ma_up (ma_up (ma_up (ma_up (ma_up (ma_up (ma_up (ma_up (I 133) 3 ((tn * ((I 123) ((16 * q) + 3))) - ((((tn * ((I 123) ((16 * q) + 0))) * x) + ((tn * ((I 123) ((16 * q) + 1))) * y)) + ((tn * ((I 123) ((16 * q) + 2))) * z)))) 12 ((tn * ((I 123) ((16 * q) + 3))) - ((((tn * ((I 123) ((16 * q) + 0))) * x) + ((tn * ((I 123) ((16 * q) + 1))) * y)) + ((tn * ((I 123) ((16 * q) + 2))) * z)))) 0 (tn * ((I 123) ((16 * q) + 0)))) 1 (tn * ((I 123) ((16 * q) + 1)))) 2 (tn * ((I 123) ((16 * q) + 2)))) 7 ((tn * ((I 123) ((16 * q) + 7))) - ((((tn * ((I 123) ((16 * q) + 4))) * x) + ((tn * ((I 123) ((16 * q) + 5))) * y)) + ((tn * ((I 123) ((16 * q) + 6))) * z)))) 13 ((tn * ((I 123) ((16 * q) + 7))) - ((((tn * ((I 123) ((16 * q) + 4))) * x) + ((tn * ((I 123) ((16 * q) + 5))) * y)) + ((tn * ((I 123) ((16 * q) + 6))) * z)))) 4 (tn * ((I 123) ((16 * q) + 4)))) 5 (tn * ((I 123) ((16 * q) + 5)))) 6 (tn * ((I 123) ((16 * q) + 6)))) 11 ((tn * ((I 123) ((16 * q) + 11))) - ((((tn * ((I 123) ((16 * q) + 8))) * x) + ((tn * ((I 123) ((16 * q) + 9))) * y)) + ((tn * ((I 123) ((16 * q) + 10))) * z)))))) dX8_layMoved_133 rfl hs_133 rfl (Nat.le_of_ble_eq_true rfl) (Nat.le_of_ble_eq_true rfl) (ma_up_up _ _ _ _) ?_
  refine ev_aload_n (pc' := 135) (i := 2) dX8_layMoved_134 rfl rfl rfl ?_
  refine ev_bipush (pc' := 137) (v := 12) dX8_layMoved_135 rfl kb_12 ?_
  refine ev_iload (pc' := 139) dX8_layMoved_137 rfl rfl ?_
  refine ev_iadd (pc' := 140) (v := 14) dX8_layMoved_139 rfl (by decide) ?_
  refine ev_aload_n (pc' := 141) (i := 2) dX8_layMoved_140 rfl rfl rfl ?_
  refine ev_iconst (pc' := 142) (v := 4) dX8_layMoved_141 rfl ki_4 ?_
  refine ev_iload (pc' := 144) dX8_layMoved_142 rfl rfl ?_
  refine ev_imul (pc' := 145) (v := 8) dX8_layMoved_144 rfl (by decide) ?_
  refine ev_iconst (pc' := 146) (v := 3) dX8_layMoved_145 rfl ki_3 ?_
  refine ev_iadd (pc' := 147) (v := 11) dX8_layMoved_146 rfl (by decide) ?_
  refine ev_iald (pc' := 148) (j := 11) (v := (tn * ((I 123) ((16 * q) + 11))) - ((((tn * ((I 123) ((16 * q) + 8))) * x) + ((tn * ((I 123) ((16 * q) + 9))) * y)) + ((tn * ((I 123) ((16 * q) + 10))) * z))) dX8_layMoved_147 rfl hs_133 rfl (Nat.le_of_ble_eq_true rfl) (Nat.le_of_ble_eq_true rfl) rfl ?_
  refine ev_iast (pc' := 149) (j := 14) (I' := (ma_up (ma_up I 125 (ma_up (ma_up (ma_up (ma_up (ma_up (ma_up (ma_up (ma_up (ma_up (ma_up (ma_up (ma_up (ma_up (ma_up (ma_up (ma_up (I 125) 0 (tn * ((I 123) ((16 * q) + 0)))) 1 (tn * ((I 123) ((16 * q) + 1)))) 2 (tn * ((I 123) ((16 * q) + 2)))) 3 (tn * ((I 123) ((16 * q) + 3)))) 4 (tn * ((I 123) ((16 * q) + 4)))) 5 (tn * ((I 123) ((16 * q) + 5)))) 6 (tn * ((I 123) ((16 * q) + 6)))) 7 (tn * ((I 123) ((16 * q) + 7)))) 8 (tn * ((I 123) ((16 * q) + 8)))) 9 (tn * ((I 123) ((16 * q) + 9)))) 10 (tn * ((I 123) ((16 * q) + 10)))) 11 (tn * ((I 123) ((16 * q) + 11)))) 12 (tn * ((I 123) ((16 * q) + 12)))) 13 (tn * ((I 123) ((16 * q) + 13)))) 14 (tn * ((I 123) ((16 * q) + 14)))) 15 (tn * ((I 123) ((16 * q) + 15))))) 133 (ma_up (ma_up (ma_up (ma_up (ma_up (ma_up (ma_up (ma_up (ma_up (ma_up (ma_up (ma_up (I 133) 3 ((tn * ((I 123) ((16 * q) + 3))) - ((((tn * ((I 123) ((16 * q) + 0))) * x) + ((tn * ((I 123) ((16 * q) + 1))) * y)) + ((tn * ((I 123) ((16 * q) + 2))) * z)))) 12 ((tn * ((I 123) ((16 * q) + 3))) - ((((tn * ((I 123) ((16 * q) + 0))) * x) + ((tn * ((I 123) ((16 * q) + 1))) * y)) + ((tn * ((I 123) ((16 * q) + 2))) * z)))) 0 (tn * ((I 123) ((16 * q) + 0)))) 1 (tn * ((I 123) ((16 * q) + 1)))) 2 (tn * ((I 123) ((16 * q) + 2)))) 7 ((tn * ((I 123) ((16 * q) + 7))) - ((((tn * ((I 123) ((16 * q) + 4))) * x) + ((tn * ((I 123) ((16 * q) + 5))) * y)) + ((tn * ((I 123) ((16 * q) + 6))) * z)))) 13 ((tn * ((I 123) ((16 * q) + 7))) - ((((tn * ((I 123) ((16 * q) + 4))) * x) + ((tn * ((I 123) ((16 * q) + 5))) * y)) + ((tn * ((I 123) ((16 * q) + 6))) * z)))) 4 (tn * ((I 123) ((16 * q) + 4)))) 5 (tn * ((I 123) ((16 * q) + 5)))) 6 (tn * ((I 123) ((16 * q) + 6)))) 11 ((tn * ((I 123) ((16 * q) + 11))) - ((((tn * ((I 123) ((16 * q) + 8))) * x) + ((tn * ((I 123) ((16 * q) + 9))) * y)) + ((tn * ((I 123) ((16 * q) + 10))) * z)))) 14 ((tn * ((I 123) ((16 * q) + 11))) - ((((tn * ((I 123) ((16 * q) + 8))) * x) + ((tn * ((I 123) ((16 * q) + 9))) * y)) + ((tn * ((I 123) ((16 * q) + 10))) * z)))))) dX8_layMoved_148 rfl hs_133 rfl (Nat.le_of_ble_eq_true rfl) (Nat.le_of_ble_eq_true rfl) (ma_up_up _ _ _ _) ?_
  refine ev_iconst (pc' := 150) (v := 0) dX8_layMoved_149 rfl ki_0 ?_
  refine ev_istore (pc' := 152) (lv' := [some (.ref 115), some (.int (nI q)), some (.ref 133), some (.int x), some (.int y), some (.int z), some (.int tn), some (.int 2), some (.int ((((tn * ((I 123) ((16 * q) + 8))) * x) + ((tn * ((I 123) ((16 * q) + 9))) * y)) + ((tn * ((I 123) ((16 * q) + 10))) * z))), some (.int 0)]) dX8_layMoved_150 rfl (Nat.le_of_ble_eq_true rfl) rfl rfl ?_
  refine ev_iload (pc' := 154) dX8_layMoved_152 rfl rfl ?_
  refine ev_iconst (pc' := 155) (v := 3) dX8_layMoved_154 rfl ki_3 ?_
  refine ev_icmp_ge (tgt := 185) (pc' := 158) dX8_layMoved_155 rfl rfl (fun h => absurd h (by decide)) (fun _ => ?_)
  refine ev_aload_n (pc' := 159) (i := 2) dX8_layMoved_158 rfl rfl rfl ?_
  refine ev_iconst (pc' := 160) (v := 4) dX8_layMoved_159 rfl ki_4 ?_
  refine ev_iload (pc' := 162) dX8_layMoved_160 rfl rfl ?_
  refine ev_imul (pc' := 163) (v := 8) dX8_layMoved_162 rfl (by decide) ?_
  refine ev_iload (pc' := 165) dX8_layMoved_163 rfl rfl ?_
  refine ev_iadd (pc' := 166) (v := 8) dX8_layMoved_165 rfl (by decide) ?_
  refine ev_aload_n (pc' := 167) (i := 0) dX8_layMoved_166 rfl rfl rfl ?_
  refine ev_getR (pc' := 170) fo_X8_43 dX8_layMoved_167 rfl hs_115 rfl rf_115_15 ?_
  refine ev_iconst (pc' := 171) (v := 4) dX8_layMoved_170 rfl ki_4 ?_
  refine ev_iload (pc' := 173) dX8_layMoved_171 rfl rfl ?_
  refine ev_imul (pc' := 174) (v := 8) dX8_layMoved_173 rfl (by decide) ?_
  refine ev_iload (pc' := 176) dX8_layMoved_174 rfl rfl ?_
  refine ev_iadd (pc' := 177) (v := 8) dX8_layMoved_176 rfl (by decide) ?_
  refine ev_iald (pc' := 178) (j := 8) (v := tn * ((I 123) ((16 * q) + 8))) dX8_layMoved_177 rfl hs_125 rfl (Nat.le_of_ble_eq_true rfl) (Nat.le_of_ble_eq_true rfl) rfl ?_
  refine ev_iast (pc' := 179) (j := 8) (I' := (ma_up (ma_up I 125 (ma_up (ma_up (ma_up (ma_up (ma_up (ma_up (ma_up (ma_up (ma_up (ma_up (ma_up (ma_up (ma_up (ma_up (ma_up (ma_up (I 125) 0 (tn * ((I 123) ((16 * q) + 0)))) 1 (tn * ((I 123) ((16 * q) + 1)))) 2 (tn * ((I 123) ((16 * q) + 2)))) 3 (tn * ((I 123) ((16 * q) + 3)))) 4 (tn * ((I 123) ((16 * q) + 4)))) 5 (tn * ((I 123) ((16 * q) + 5)))) 6 (tn * ((I 123) ((16 * q) + 6)))) 7 (tn * ((I 123) ((16 * q) + 7)))) 8 (tn * ((I 123) ((16 * q) + 8)))) 9 (tn * ((I 123) ((16 * q) + 9)))) 10 (tn * ((I 123) ((16 * q) + 10)))) 11 (tn * ((I 123) ((16 * q) + 11)))) 12 (tn * ((I 123) ((16 * q) + 12)))) 13 (tn * ((I 123) ((16 * q) + 13)))) 14 (tn * ((I 123) ((16 * q) + 14)))) 15 (tn * ((I 123) ((16 * q) + 15))))) 133 (ma_up (ma_up (ma_up (ma_up (ma_up (ma_up (ma_up (ma_up (ma_up (ma_up (ma_up (ma_up (ma_up (I 133) 3 ((tn * ((I 123) ((16 * q) + 3))) - ((((tn * ((I 123) ((16 * q) + 0))) * x) + ((tn * ((I 123) ((16 * q) + 1))) * y)) + ((tn * ((I 123) ((16 * q) + 2))) * z)))) 12 ((tn * ((I 123) ((16 * q) + 3))) - ((((tn * ((I 123) ((16 * q) + 0))) * x) + ((tn * ((I 123) ((16 * q) + 1))) * y)) + ((tn * ((I 123) ((16 * q) + 2))) * z)))) 0 (tn * ((I 123) ((16 * q) + 0)))) 1 (tn * ((I 123) ((16 * q) + 1)))) 2 (tn * ((I 123) ((16 * q) + 2)))) 7 ((tn * ((I 123) ((16 * q) + 7))) - ((((tn * ((I 123) ((16 * q) + 4))) * x) + ((tn * ((I 123) ((16 * q) + 5))) * y)) + ((tn * ((I 123) ((16 * q) + 6))) * z)))) 13 ((tn * ((I 123) ((16 * q) + 7))) - ((((tn * ((I 123) ((16 * q) + 4))) * x) + ((tn * ((I 123) ((16 * q) + 5))) * y)) + ((tn * ((I 123) ((16 * q) + 6))) * z)))) 4 (tn * ((I 123) ((16 * q) + 4)))) 5 (tn * ((I 123) ((16 * q) + 5)))) 6 (tn * ((I 123) ((16 * q) + 6)))) 11 ((tn * ((I 123) ((16 * q) + 11))) - ((((tn * ((I 123) ((16 * q) + 8))) * x) + ((tn * ((I 123) ((16 * q) + 9))) * y)) + ((tn * ((I 123) ((16 * q) + 10))) * z)))) 14 ((tn * ((I 123) ((16 * q) + 11))) - ((((tn * ((I 123) ((16 * q) + 8))) * x) + ((tn * ((I 123) ((16 * q) + 9))) * y)) + ((tn * ((I 123) ((16 * q) + 10))) * z)))) 8 (tn * ((I 123) ((16 * q) + 8)))))) dX8_layMoved_178 rfl hs_133 rfl (Nat.le_of_ble_eq_true rfl) (Nat.le_of_ble_eq_true rfl) (ma_up_up _ _ _ _) ?_
  refine ev_iinc (pc' := 182) (v := 1) (lv' := [some (.ref 115), some (.int (nI q)), some (.ref 133), some (.int x), some (.int y), some (.int z), some (.int tn), some (.int 2), some (.int ((((tn * ((I 123) ((16 * q) + 8))) * x) + ((tn * ((I 123) ((16 * q) + 9))) * y)) + ((tn * ((I 123) ((16 * q) + 10))) * z))), some (.int 1)]) dX8_layMoved_179 rfl rfl (by decide) (Nat.le_of_ble_eq_true rfl) rfl rfl ?_
  refine ev_goto (tgt := 152) dX8_layMoved_182 rfl ?_
  refine ev_iload (pc' := 154) dX8_layMoved_152 rfl rfl ?_
  refine ev_iconst (pc' := 155) (v := 3) dX8_layMoved_154 rfl ki_3 ?_
  refine ev_icmp_ge (tgt := 185) (pc' := 158) dX8_layMoved_155 rfl rfl (fun h => absurd h (by decide)) (fun _ => ?_)
  refine ev_aload_n (pc' := 159) (i := 2) dX8_layMoved_158 rfl rfl rfl ?_
  refine ev_iconst (pc' := 160) (v := 4) dX8_layMoved_159 rfl ki_4 ?_
  refine ev_iload (pc' := 162) dX8_layMoved_160 rfl rfl ?_
  refine ev_imul (pc' := 163) (v := 8) dX8_layMoved_162 rfl (by decide) ?_
  refine ev_iload (pc' := 165) dX8_layMoved_163 rfl rfl ?_
  refine ev_iadd (pc' := 166) (v := 9) dX8_layMoved_165 rfl (by decide) ?_
  refine ev_aload_n (pc' := 167) (i := 0) dX8_layMoved_166 rfl rfl rfl ?_
  refine ev_getR (pc' := 170) fo_X8_43 dX8_layMoved_167 rfl hs_115 rfl rf_115_15 ?_
  refine ev_iconst (pc' := 171) (v := 4) dX8_layMoved_170 rfl ki_4 ?_
  refine ev_iload (pc' := 173) dX8_layMoved_171 rfl rfl ?_
  refine ev_imul (pc' := 174) (v := 8) dX8_layMoved_173 rfl (by decide) ?_
  refine ev_iload (pc' := 176) dX8_layMoved_174 rfl rfl ?_
  refine ev_iadd (pc' := 177) (v := 9) dX8_layMoved_176 rfl (by decide) ?_
  refine ev_iald (pc' := 178) (j := 9) (v := tn * ((I 123) ((16 * q) + 9))) dX8_layMoved_177 rfl hs_125 rfl (Nat.le_of_ble_eq_true rfl) (Nat.le_of_ble_eq_true rfl) rfl ?_
  refine ev_iast (pc' := 179) (j := 9) (I' := (ma_up (ma_up I 125 (ma_up (ma_up (ma_up (ma_up (ma_up (ma_up (ma_up (ma_up (ma_up (ma_up (ma_up (ma_up (ma_up (ma_up (ma_up (ma_up (I 125) 0 (tn * ((I 123) ((16 * q) + 0)))) 1 (tn * ((I 123) ((16 * q) + 1)))) 2 (tn * ((I 123) ((16 * q) + 2)))) 3 (tn * ((I 123) ((16 * q) + 3)))) 4 (tn * ((I 123) ((16 * q) + 4)))) 5 (tn * ((I 123) ((16 * q) + 5)))) 6 (tn * ((I 123) ((16 * q) + 6)))) 7 (tn * ((I 123) ((16 * q) + 7)))) 8 (tn * ((I 123) ((16 * q) + 8)))) 9 (tn * ((I 123) ((16 * q) + 9)))) 10 (tn * ((I 123) ((16 * q) + 10)))) 11 (tn * ((I 123) ((16 * q) + 11)))) 12 (tn * ((I 123) ((16 * q) + 12)))) 13 (tn * ((I 123) ((16 * q) + 13)))) 14 (tn * ((I 123) ((16 * q) + 14)))) 15 (tn * ((I 123) ((16 * q) + 15))))) 133 (ma_up (ma_up (ma_up (ma_up (ma_up (ma_up (ma_up (ma_up (ma_up (ma_up (ma_up (ma_up (ma_up (ma_up (I 133) 3 ((tn * ((I 123) ((16 * q) + 3))) - ((((tn * ((I 123) ((16 * q) + 0))) * x) + ((tn * ((I 123) ((16 * q) + 1))) * y)) + ((tn * ((I 123) ((16 * q) + 2))) * z)))) 12 ((tn * ((I 123) ((16 * q) + 3))) - ((((tn * ((I 123) ((16 * q) + 0))) * x) + ((tn * ((I 123) ((16 * q) + 1))) * y)) + ((tn * ((I 123) ((16 * q) + 2))) * z)))) 0 (tn * ((I 123) ((16 * q) + 0)))) 1 (tn * ((I 123) ((16 * q) + 1)))) 2 (tn * ((I 123) ((16 * q) + 2)))) 7 ((tn * ((I 123) ((16 * q) + 7))) - ((((tn * ((I 123) ((16 * q) + 4))) * x) + ((tn * ((I 123) ((16 * q) + 5))) * y)) + ((tn * ((I 123) ((16 * q) + 6))) * z)))) 13 ((tn * ((I 123) ((16 * q) + 7))) - ((((tn * ((I 123) ((16 * q) + 4))) * x) + ((tn * ((I 123) ((16 * q) + 5))) * y)) + ((tn * ((I 123) ((16 * q) + 6))) * z)))) 4 (tn * ((I 123) ((16 * q) + 4)))) 5 (tn * ((I 123) ((16 * q) + 5)))) 6 (tn * ((I 123) ((16 * q) + 6)))) 11 ((tn * ((I 123) ((16 * q) + 11))) - ((((tn * ((I 123) ((16 * q) + 8))) * x) + ((tn * ((I 123) ((16 * q) + 9))) * y)) + ((tn * ((I 123) ((16 * q) + 10))) * z)))) 14 ((tn * ((I 123) ((16 * q) + 11))) - ((((tn * ((I 123) ((16 * q) + 8))) * x) + ((tn * ((I 123) ((16 * q) + 9))) * y)) + ((tn * ((I 123) ((16 * q) + 10))) * z)))) 8 (tn * ((I 123) ((16 * q) + 8)))) 9 (tn * ((I 123) ((16 * q) + 9)))))) dX8_layMoved_178 rfl hs_133 rfl (Nat.le_of_ble_eq_true rfl) (Nat.le_of_ble_eq_true rfl) (ma_up_up _ _ _ _) ?_
  refine ev_iinc (pc' := 182) (v := 2) (lv' := [some (.ref 115), some (.int (nI q)), some (.ref 133), some (.int x), some (.int y), some (.int z), some (.int tn), some (.int 2), some (.int ((((tn * ((I 123) ((16 * q) + 8))) * x) + ((tn * ((I 123) ((16 * q) + 9))) * y)) + ((tn * ((I 123) ((16 * q) + 10))) * z))), some (.int 2)]) dX8_layMoved_179 rfl rfl (by decide) (Nat.le_of_ble_eq_true rfl) rfl rfl ?_
  refine ev_goto (tgt := 152) dX8_layMoved_182 rfl ?_
  refine ev_iload (pc' := 154) dX8_layMoved_152 rfl rfl ?_
  refine ev_iconst (pc' := 155) (v := 3) dX8_layMoved_154 rfl ki_3 ?_
  refine ev_icmp_ge (tgt := 185) (pc' := 158) dX8_layMoved_155 rfl rfl (fun h => absurd h (by decide)) (fun _ => ?_)
  refine ev_aload_n (pc' := 159) (i := 2) dX8_layMoved_158 rfl rfl rfl ?_
  refine ev_iconst (pc' := 160) (v := 4) dX8_layMoved_159 rfl ki_4 ?_
  refine ev_iload (pc' := 162) dX8_layMoved_160 rfl rfl ?_
  refine ev_imul (pc' := 163) (v := 8) dX8_layMoved_162 rfl (by decide) ?_
  refine ev_iload (pc' := 165) dX8_layMoved_163 rfl rfl ?_
  refine ev_iadd (pc' := 166) (v := 10) dX8_layMoved_165 rfl (by decide) ?_
  refine ev_aload_n (pc' := 167) (i := 0) dX8_layMoved_166 rfl rfl rfl ?_
  refine ev_getR (pc' := 170) fo_X8_43 dX8_layMoved_167 rfl hs_115 rfl rf_115_15 ?_
  refine ev_iconst (pc' := 171) (v := 4) dX8_layMoved_170 rfl ki_4 ?_
  refine ev_iload (pc' := 173) dX8_layMoved_171 rfl rfl ?_
  refine ev_imul (pc' := 174) (v := 8) dX8_layMoved_173 rfl (by decide) ?_
  refine ev_iload (pc' := 176) dX8_layMoved_174 rfl rfl ?_
  refine ev_iadd (pc' := 177) (v := 10) dX8_layMoved_176 rfl (by decide) ?_
  refine ev_iald (pc' := 178) (j := 10) (v := tn * ((I 123) ((16 * q) + 10))) dX8_layMoved_177 rfl hs_125 rfl (Nat.le_of_ble_eq_true rfl) (Nat.le_of_ble_eq_true rfl) rfl ?_
  refine ev_iast (pc' := 179) (j := 10) (I' := (ma_up (ma_up I 125 (ma_up (ma_up (ma_up (ma_up (ma_up (ma_up (ma_up (ma_up (ma_up (ma_up (ma_up (ma_up (ma_up (ma_up (ma_up (ma_up (I 125) 0 (tn * ((I 123) ((16 * q) + 0)))) 1 (tn * ((I 123) ((16 * q) + 1)))) 2 (tn * ((I 123) ((16 * q) + 2)))) 3 (tn * ((I 123) ((16 * q) + 3)))) 4 (tn * ((I 123) ((16 * q) + 4)))) 5 (tn * ((I 123) ((16 * q) + 5)))) 6 (tn * ((I 123) ((16 * q) + 6)))) 7 (tn * ((I 123) ((16 * q) + 7)))) 8 (tn * ((I 123) ((16 * q) + 8)))) 9 (tn * ((I 123) ((16 * q) + 9)))) 10 (tn * ((I 123) ((16 * q) + 10)))) 11 (tn * ((I 123) ((16 * q) + 11)))) 12 (tn * ((I 123) ((16 * q) + 12)))) 13 (tn * ((I 123) ((16 * q) + 13)))) 14 (tn * ((I 123) ((16 * q) + 14)))) 15 (tn * ((I 123) ((16 * q) + 15))))) 133 (ma_up (ma_up (ma_up (ma_up (ma_up (ma_up (ma_up (ma_up (ma_up (ma_up (ma_up (ma_up (ma_up (ma_up (ma_up (I 133) 3 ((tn * ((I 123) ((16 * q) + 3))) - ((((tn * ((I 123) ((16 * q) + 0))) * x) + ((tn * ((I 123) ((16 * q) + 1))) * y)) + ((tn * ((I 123) ((16 * q) + 2))) * z)))) 12 ((tn * ((I 123) ((16 * q) + 3))) - ((((tn * ((I 123) ((16 * q) + 0))) * x) + ((tn * ((I 123) ((16 * q) + 1))) * y)) + ((tn * ((I 123) ((16 * q) + 2))) * z)))) 0 (tn * ((I 123) ((16 * q) + 0)))) 1 (tn * ((I 123) ((16 * q) + 1)))) 2 (tn * ((I 123) ((16 * q) + 2)))) 7 ((tn * ((I 123) ((16 * q) + 7))) - ((((tn * ((I 123) ((16 * q) + 4))) * x) + ((tn * ((I 123) ((16 * q) + 5))) * y)) + ((tn * ((I 123) ((16 * q) + 6))) * z)))) 13 ((tn * ((I 123) ((16 * q) + 7))) - ((((tn * ((I 123) ((16 * q) + 4))) * x) + ((tn * ((I 123) ((16 * q) + 5))) * y)) + ((tn * ((I 123) ((16 * q) + 6))) * z)))) 4 (tn * ((I 123) ((16 * q) + 4)))) 5 (tn * ((I 123) ((16 * q) + 5)))) 6 (tn * ((I 123) ((16 * q) + 6)))) 11 ((tn * ((I 123) ((16 * q) + 11))) - ((((tn * ((I 123) ((16 * q) + 8))) * x) + ((tn * ((I 123) ((16 * q) + 9))) * y)) + ((tn * ((I 123) ((16 * q) + 10))) * z)))) 14 ((tn * ((I 123) ((16 * q) + 11))) - ((((tn * ((I 123) ((16 * q) + 8))) * x) + ((tn * ((I 123) ((16 * q) + 9))) * y)) + ((tn * ((I 123) ((16 * q) + 10))) * z)))) 8 (tn * ((I 123) ((16 * q) + 8)))) 9 (tn * ((I 123) ((16 * q) + 9)))) 10 (tn * ((I 123) ((16 * q) + 10)))))) dX8_layMoved_178 rfl hs_133 rfl (Nat.le_of_ble_eq_true rfl) (Nat.le_of_ble_eq_true rfl) (ma_up_up _ _ _ _) ?_
  refine ev_iinc (pc' := 182) (v := 3) (lv' := [some (.ref 115), some (.int (nI q)), some (.ref 133), some (.int x), some (.int y), some (.int z), some (.int tn), some (.int 2), some (.int ((((tn * ((I 123) ((16 * q) + 8))) * x) + ((tn * ((I 123) ((16 * q) + 9))) * y)) + ((tn * ((I 123) ((16 * q) + 10))) * z))), some (.int 3)]) dX8_layMoved_179 rfl rfl (by decide) (Nat.le_of_ble_eq_true rfl) rfl rfl ?_
  refine ev_goto (tgt := 152) dX8_layMoved_182 rfl ?_
  refine ev_iload (pc' := 154) dX8_layMoved_152 rfl rfl ?_
  refine ev_iconst (pc' := 155) (v := 3) dX8_layMoved_154 rfl ki_3 ?_
  refine ev_icmp_ge (tgt := 185) (pc' := 158) dX8_layMoved_155 rfl rfl (fun _ => ?_) (fun h => absurd (by decide) h)
  refine ev_iinc (pc' := 188) (v := 3) (lv' := [some (.ref 115), some (.int (nI q)), some (.ref 133), some (.int x), some (.int y), some (.int z), some (.int tn), some (.int 3), some (.int ((((tn * ((I 123) ((16 * q) + 8))) * x) + ((tn * ((I 123) ((16 * q) + 9))) * y)) + ((tn * ((I 123) ((16 * q) + 10))) * z))), some (.int 3)]) dX8_layMoved_185 rfl rfl (by decide) (Nat.le_of_ble_eq_true rfl) rfl rfl ?_
  refine ev_goto (tgt := 63) dX8_layMoved_188 rfl ?_
  refine ev_iload (pc' := 65) dX8_layMoved_63 rfl rfl ?_
  refine ev_iconst (pc' := 66) (v := 3) dX8_layMoved_65 rfl ki_3 ?_
  refine ev_icmp_ge (tgt := 191) (pc' := 69) dX8_layMoved_66 rfl rfl (fun _ => ?_) (fun h => absurd (by decide) h)
  refine ev_aload_n (pc' := 192) (i := 0) dX8_layMoved_191 rfl rfl rfl ?_
  refine ev_getR (pc' := 195) fo_X8_43 dX8_layMoved_192 rfl hs_115 rfl rf_115_15 ?_
  refine ev_bipush (pc' := 197) (v := 15) dX8_layMoved_195 rfl kb_15 ?_
  refine ev_iald (pc' := 198) (j := 15) (v := tn * ((I 123) ((16 * q) + 15))) dX8_layMoved_197 rfl hs_125 rfl (Nat.le_of_ble_eq_true rfl) (Nat.le_of_ble_eq_true rfl) rfl ?_
  refine ev_istore (pc' := 200) (lv' := [some (.ref 115), some (.int (nI q)), some (.ref 133), some (.int x), some (.int y), some (.int z), some (.int tn), some (.int (tn * ((I 123) ((16 * q) + 15)))), some (.int ((((tn * ((I 123) ((16 * q) + 8))) * x) + ((tn * ((I 123) ((16 * q) + 9))) * y)) + ((tn * ((I 123) ((16 * q) + 10))) * z))), some (.int 3)]) dX8_layMoved_198 rfl (Nat.le_of_ble_eq_true rfl) rfl rfl ?_
  refine ev_iconst (pc' := 201) (v := 0) dX8_layMoved_200 rfl ki_0 ?_
  refine ev_istore (pc' := 203) (lv' := [some (.ref 115), some (.int (nI q)), some (.ref 133), some (.int x), some (.int y), some (.int z), some (.int tn), some (.int (tn * ((I 123) ((16 * q) + 15)))), some (.int 0), some (.int 3)]) dX8_layMoved_201 rfl (Nat.le_of_ble_eq_true rfl) rfl rfl ?_
  refine ev_iload (pc' := 205) dX8_layMoved_203 rfl rfl ?_
  refine ev_iconst (pc' := 206) (v := 3) dX8_layMoved_205 rfl ki_3 ?_
  refine ev_icmp_ge (tgt := 286) (pc' := 209) dX8_layMoved_206 rfl rfl (fun h => absurd h (by decide)) (fun _ => ?_)
  refine ev_iload (pc' := 211) dX8_layMoved_209 rfl rfl ?_
  refine ev_if_ne (tgt := 218) (pc' := 214) dX8_layMoved_211 rfl rfl (fun h => absurd (by decide) h) (fun _ => ?_)
  refine ev_iload_n (pc' := 215) (i := 3) dX8_layMoved_214 rfl rfl rfl ?_
  refine ev_goto (tgt := 231) dX8_layMoved_215 rfl ?_
  refine ev_istore (pc' := 233) (lv' := [some (.ref 115), some (.int (nI q)), some (.ref 133), some (.int x), some (.int y), some (.int z), some (.int tn), some (.int (tn * ((I 123) ((16 * q) + 15)))), some (.int 0), some (.int x)]) dX8_layMoved_231 rfl (Nat.le_of_ble_eq_true rfl) rfl rfl ?_
  refine ev_iload (pc' := 235) dX8_layMoved_233 rfl rfl ?_
  refine ev_iload (pc' := 237) dX8_layMoved_235 rfl rfl ?_
  refine ev_aload_n (pc' := 238) (i := 2) dX8_layMoved_237 rfl rfl rfl ?_
  refine ev_iconst (pc' := 239) (v := 4) dX8_layMoved_238 rfl ki_4 ?_
  refine ev_iload (pc' := 241) dX8_layMoved_239 rfl rfl ?_
  refine ev_imul (pc' := 242) (v := 0) dX8_layMoved_241 rfl (by decide) ?_
  refine ev_iconst (pc' := 243) (v := 3) dX8_layMoved_242 rfl ki_3 ?_
  refine ev_iadd (pc' := 244) (v := 3) dX8_layMoved_243 rfl (by decide) ?_
  refine ev_iald (pc' := 245) (j := 3) (v := (tn * ((I 123) ((16 * q) + 3))) - ((((tn * ((I 123) ((16 * q) + 0))) * x) + ((tn * ((I 123) ((16 * q) + 1))) * y)) + ((tn * ((I 123) ((16 * q) + 2))) * z))) dX8_layMoved_244 rfl hs_133 rfl (Nat.le_of_ble_eq_true rfl) (Nat.le_of_ble_eq_true rfl) rfl ?_
  refine ev_aload_n (pc' := 246) (i := 0) dX8_layMoved_245 rfl rfl rfl ?_
  refine ev_getR (pc' := 249) fo_X8_43 dX8_layMoved_246 rfl hs_115 rfl rf_115_15 ?_
  refine ev_iconst (pc' := 250) (v := 4) dX8_layMoved_249 rfl ki_4 ?_
  refine ev_iload (pc' := 252) dX8_layMoved_250 rfl rfl ?_
  refine ev_imul (pc' := 253) (v := 0) dX8_layMoved_252 rfl (by decide) ?_
  refine ev_iconst (pc' := 254) (v := 3) dX8_layMoved_253 rfl ki_3 ?_
  refine ev_iadd (pc' := 255) (v := 3) dX8_layMoved_254 rfl (by decide) ?_
  refine ev_iald (pc' := 256) (j := 3) (v := tn * ((I 123) ((16 * q) + 3))) dX8_layMoved_255 rfl hs_125 rfl (Nat.le_of_ble_eq_true rfl) (Nat.le_of_ble_eq_true rfl) rfl ?_
  refine ev_isub (pc' := 257) (v := ((tn * ((I 123) ((16 * q) + 3))) - ((((tn * ((I 123) ((16 * q) + 0))) * x) + ((tn * ((I 123) ((16 * q) + 1))) * y)) + ((tn * ((I 123) ((16 * q) + 2))) * z))) - (tn * ((I 123) ((16 * q) + 3)))) dX8_layMoved_256 rfl rfl ?_
  refine ev_imul (pc' := 258) (v := x * (((tn * ((I 123) ((16 * q) + 3))) - ((((tn * ((I 123) ((16 * q) + 0))) * x) + ((tn * ((I 123) ((16 * q) + 1))) * y)) + ((tn * ((I 123) ((16 * q) + 2))) * z))) - (tn * ((I 123) ((16 * q) + 3))))) dX8_layMoved_257 rfl rfl ?_
  refine ev_iconst (pc' := 259) (v := (-1)) dX8_layMoved_258 rfl ki_m1 ?_
  refine ev_imul (pc' := 260) (v := (x * (((tn * ((I 123) ((16 * q) + 3))) - ((((tn * ((I 123) ((16 * q) + 0))) * x) + ((tn * ((I 123) ((16 * q) + 1))) * y)) + ((tn * ((I 123) ((16 * q) + 2))) * z))) - (tn * ((I 123) ((16 * q) + 3))))) * (-1)) dX8_layMoved_259 rfl rfl ?_
  refine ev_iconst (pc' := 261) (v := 2) dX8_layMoved_260 rfl ki_2 ?_
  refine ev_iload (pc' := 263) dX8_layMoved_261 rfl rfl ?_
  refine ev_imul (pc' := 264) (v := 2 * x) dX8_layMoved_263 rfl rfl ?_
  refine ev_aload_n (pc' := 265) (i := 0) dX8_layMoved_264 rfl rfl rfl ?_
  refine ev_getR (pc' := 268) fo_X8_43 dX8_layMoved_265 rfl hs_115 rfl rf_115_15 ?_
  refine ev_iconst (pc' := 269) (v := 4) dX8_layMoved_268 rfl ki_4 ?_
  refine ev_iload (pc' := 271) dX8_layMoved_269 rfl rfl ?_
  refine ev_imul (pc' := 272) (v := 0) dX8_layMoved_271 rfl (by decide) ?_
  refine ev_iconst (pc' := 273) (v := 3) dX8_layMoved_272 rfl ki_3 ?_
  refine ev_iadd (pc' := 274) (v := 3) dX8_layMoved_273 rfl (by decide) ?_
  refine ev_iald (pc' := 275) (j := 3) (v := tn * ((I 123) ((16 * q) + 3))) dX8_layMoved_274 rfl hs_125 rfl (Nat.le_of_ble_eq_true rfl) (Nat.le_of_ble_eq_true rfl) rfl ?_
  refine ev_imul (pc' := 276) (v := (2 * x) * (tn * ((I 123) ((16 * q) + 3)))) dX8_layMoved_275 rfl rfl ?_
  refine ev_isub (pc' := 277) (v := ((x * (((tn * ((I 123) ((16 * q) + 3))) - ((((tn * ((I 123) ((16 * q) + 0))) * x) + ((tn * ((I 123) ((16 * q) + 1))) * y)) + ((tn * ((I 123) ((16 * q) + 2))) * z))) - (tn * ((I 123) ((16 * q) + 3))))) * (-1)) - ((2 * x) * (tn * ((I 123) ((16 * q) + 3))))) dX8_layMoved_276 rfl rfl ?_
  refine ev_iadd (pc' := 278) (v := (tn * ((I 123) ((16 * q) + 15))) + (((x * (((tn * ((I 123) ((16 * q) + 3))) - ((((tn * ((I 123) ((16 * q) + 0))) * x) + ((tn * ((I 123) ((16 * q) + 1))) * y)) + ((tn * ((I 123) ((16 * q) + 2))) * z))) - (tn * ((I 123) ((16 * q) + 3))))) * (-1)) - ((2 * x) * (tn * ((I 123) ((16 * q) + 3)))))) dX8_layMoved_277 rfl rfl ?_
  refine ev_istore (pc' := 280) (lv' := [some (.ref 115), some (.int (nI q)), some (.ref 133), some (.int x), some (.int y), some (.int z), some (.int tn), some (.int ((tn * ((I 123) ((16 * q) + 15))) + (((x * (((tn * ((I 123) ((16 * q) + 3))) - ((((tn * ((I 123) ((16 * q) + 0))) * x) + ((tn * ((I 123) ((16 * q) + 1))) * y)) + ((tn * ((I 123) ((16 * q) + 2))) * z))) - (tn * ((I 123) ((16 * q) + 3))))) * (-1)) - ((2 * x) * (tn * ((I 123) ((16 * q) + 3))))))), some (.int 0), some (.int x)]) dX8_layMoved_278 rfl (Nat.le_of_ble_eq_true rfl) rfl rfl ?_
  refine ev_iinc (pc' := 283) (v := 1) (lv' := [some (.ref 115), some (.int (nI q)), some (.ref 133), some (.int x), some (.int y), some (.int z), some (.int tn), some (.int ((tn * ((I 123) ((16 * q) + 15))) + (((x * (((tn * ((I 123) ((16 * q) + 3))) - ((((tn * ((I 123) ((16 * q) + 0))) * x) + ((tn * ((I 123) ((16 * q) + 1))) * y)) + ((tn * ((I 123) ((16 * q) + 2))) * z))) - (tn * ((I 123) ((16 * q) + 3))))) * (-1)) - ((2 * x) * (tn * ((I 123) ((16 * q) + 3))))))), some (.int 1), some (.int x)]) dX8_layMoved_280 rfl rfl (by decide) (Nat.le_of_ble_eq_true rfl) rfl rfl ?_
  refine ev_goto (tgt := 203) dX8_layMoved_283 rfl ?_
  refine ev_iload (pc' := 205) dX8_layMoved_203 rfl rfl ?_
  refine ev_iconst (pc' := 206) (v := 3) dX8_layMoved_205 rfl ki_3 ?_
  refine ev_icmp_ge (tgt := 286) (pc' := 209) dX8_layMoved_206 rfl rfl (fun h => absurd h (by decide)) (fun _ => ?_)
  refine ev_iload (pc' := 211) dX8_layMoved_209 rfl rfl ?_
  refine ev_if_ne (tgt := 218) (pc' := 214) dX8_layMoved_211 rfl rfl (fun _ => ?_) (fun h => absurd h (by decide))
  refine ev_iload (pc' := 220) dX8_layMoved_218 rfl rfl ?_
  refine ev_iconst (pc' := 221) (v := 1) dX8_layMoved_220 rfl ki_1 ?_
  refine ev_icmp_ne (tgt := 229) (pc' := 224) dX8_layMoved_221 rfl rfl (fun h => absurd (by decide) h) (fun _ => ?_)
  refine ev_iload (pc' := 226) dX8_layMoved_224 rfl rfl ?_
  refine ev_goto (tgt := 231) dX8_layMoved_226 rfl ?_
  refine ev_istore (pc' := 233) (lv' := [some (.ref 115), some (.int (nI q)), some (.ref 133), some (.int x), some (.int y), some (.int z), some (.int tn), some (.int ((tn * ((I 123) ((16 * q) + 15))) + (((x * (((tn * ((I 123) ((16 * q) + 3))) - ((((tn * ((I 123) ((16 * q) + 0))) * x) + ((tn * ((I 123) ((16 * q) + 1))) * y)) + ((tn * ((I 123) ((16 * q) + 2))) * z))) - (tn * ((I 123) ((16 * q) + 3))))) * (-1)) - ((2 * x) * (tn * ((I 123) ((16 * q) + 3))))))), some (.int 1), some (.int y)]) dX8_layMoved_231 rfl (Nat.le_of_ble_eq_true rfl) rfl rfl ?_
  refine ev_iload (pc' := 235) dX8_layMoved_233 rfl rfl ?_
  refine ev_iload (pc' := 237) dX8_layMoved_235 rfl rfl ?_
  refine ev_aload_n (pc' := 238) (i := 2) dX8_layMoved_237 rfl rfl rfl ?_
  refine ev_iconst (pc' := 239) (v := 4) dX8_layMoved_238 rfl ki_4 ?_
  refine ev_iload (pc' := 241) dX8_layMoved_239 rfl rfl ?_
  refine ev_imul (pc' := 242) (v := 4) dX8_layMoved_241 rfl (by decide) ?_
  refine ev_iconst (pc' := 243) (v := 3) dX8_layMoved_242 rfl ki_3 ?_
  refine ev_iadd (pc' := 244) (v := 7) dX8_layMoved_243 rfl (by decide) ?_
  refine ev_iald (pc' := 245) (j := 7) (v := (tn * ((I 123) ((16 * q) + 7))) - ((((tn * ((I 123) ((16 * q) + 4))) * x) + ((tn * ((I 123) ((16 * q) + 5))) * y)) + ((tn * ((I 123) ((16 * q) + 6))) * z))) dX8_layMoved_244 rfl hs_133 rfl (Nat.le_of_ble_eq_true rfl) (Nat.le_of_ble_eq_true rfl) rfl ?_
  refine ev_aload_n (pc' := 246) (i := 0) dX8_layMoved_245 rfl rfl rfl ?_
  refine ev_getR (pc' := 249) fo_X8_43 dX8_layMoved_246 rfl hs_115 rfl rf_115_15 ?_
  refine ev_iconst (pc' := 250) (v := 4) dX8_layMoved_249 rfl ki_4 ?_
  refine ev_iload (pc' := 252) dX8_layMoved_250 rfl rfl ?_
  refine ev_imul (pc' := 253) (v := 4) dX8_layMoved_252 rfl (by decide) ?_
  refine ev_iconst (pc' := 254) (v := 3) dX8_layMoved_253 rfl ki_3 ?_
  refine ev_iadd (pc' := 255) (v := 7) dX8_layMoved_254 rfl (by decide) ?_
  refine ev_iald (pc' := 256) (j := 7) (v := tn * ((I 123) ((16 * q) + 7))) dX8_layMoved_255 rfl hs_125 rfl (Nat.le_of_ble_eq_true rfl) (Nat.le_of_ble_eq_true rfl) rfl ?_
  refine ev_isub (pc' := 257) (v := ((tn * ((I 123) ((16 * q) + 7))) - ((((tn * ((I 123) ((16 * q) + 4))) * x) + ((tn * ((I 123) ((16 * q) + 5))) * y)) + ((tn * ((I 123) ((16 * q) + 6))) * z))) - (tn * ((I 123) ((16 * q) + 7)))) dX8_layMoved_256 rfl rfl ?_
  refine ev_imul (pc' := 258) (v := y * (((tn * ((I 123) ((16 * q) + 7))) - ((((tn * ((I 123) ((16 * q) + 4))) * x) + ((tn * ((I 123) ((16 * q) + 5))) * y)) + ((tn * ((I 123) ((16 * q) + 6))) * z))) - (tn * ((I 123) ((16 * q) + 7))))) dX8_layMoved_257 rfl rfl ?_
  refine ev_iconst (pc' := 259) (v := (-1)) dX8_layMoved_258 rfl ki_m1 ?_
  refine ev_imul (pc' := 260) (v := (y * (((tn * ((I 123) ((16 * q) + 7))) - ((((tn * ((I 123) ((16 * q) + 4))) * x) + ((tn * ((I 123) ((16 * q) + 5))) * y)) + ((tn * ((I 123) ((16 * q) + 6))) * z))) - (tn * ((I 123) ((16 * q) + 7))))) * (-1)) dX8_layMoved_259 rfl rfl ?_
  refine ev_iconst (pc' := 261) (v := 2) dX8_layMoved_260 rfl ki_2 ?_
  refine ev_iload (pc' := 263) dX8_layMoved_261 rfl rfl ?_
  refine ev_imul (pc' := 264) (v := 2 * y) dX8_layMoved_263 rfl rfl ?_
  refine ev_aload_n (pc' := 265) (i := 0) dX8_layMoved_264 rfl rfl rfl ?_
  refine ev_getR (pc' := 268) fo_X8_43 dX8_layMoved_265 rfl hs_115 rfl rf_115_15 ?_
  refine ev_iconst (pc' := 269) (v := 4) dX8_layMoved_268 rfl ki_4 ?_
  refine ev_iload (pc' := 271) dX8_layMoved_269 rfl rfl ?_
  refine ev_imul (pc' := 272) (v := 4) dX8_layMoved_271 rfl (by decide) ?_
  refine ev_iconst (pc' := 273) (v := 3) dX8_layMoved_272 rfl ki_3 ?_
  refine ev_iadd (pc' := 274) (v := 7) dX8_layMoved_273 rfl (by decide) ?_
  refine ev_iald (pc' := 275) (j := 7) (v := tn * ((I 123) ((16 * q) + 7))) dX8_layMoved_274 rfl hs_125 rfl (Nat.le_of_ble_eq_true rfl) (Nat.le_of_ble_eq_true rfl) rfl ?_
  refine ev_imul (pc' := 276) (v := (2 * y) * (tn * ((I 123) ((16 * q) + 7)))) dX8_layMoved_275 rfl rfl ?_
  refine ev_isub (pc' := 277) (v := ((y * (((tn * ((I 123) ((16 * q) + 7))) - ((((tn * ((I 123) ((16 * q) + 4))) * x) + ((tn * ((I 123) ((16 * q) + 5))) * y)) + ((tn * ((I 123) ((16 * q) + 6))) * z))) - (tn * ((I 123) ((16 * q) + 7))))) * (-1)) - ((2 * y) * (tn * ((I 123) ((16 * q) + 7))))) dX8_layMoved_276 rfl rfl ?_
  refine ev_iadd (pc' := 278) (v := ((tn * ((I 123) ((16 * q) + 15))) + (((x * (((tn * ((I 123) ((16 * q) + 3))) - ((((tn * ((I 123) ((16 * q) + 0))) * x) + ((tn * ((I 123) ((16 * q) + 1))) * y)) + ((tn * ((I 123) ((16 * q) + 2))) * z))) - (tn * ((I 123) ((16 * q) + 3))))) * (-1)) - ((2 * x) * (tn * ((I 123) ((16 * q) + 3)))))) + (((y * (((tn * ((I 123) ((16 * q) + 7))) - ((((tn * ((I 123) ((16 * q) + 4))) * x) + ((tn * ((I 123) ((16 * q) + 5))) * y)) + ((tn * ((I 123) ((16 * q) + 6))) * z))) - (tn * ((I 123) ((16 * q) + 7))))) * (-1)) - ((2 * y) * (tn * ((I 123) ((16 * q) + 7)))))) dX8_layMoved_277 rfl rfl ?_
  refine ev_istore (pc' := 280) (lv' := [some (.ref 115), some (.int (nI q)), some (.ref 133), some (.int x), some (.int y), some (.int z), some (.int tn), some (.int (((tn * ((I 123) ((16 * q) + 15))) + (((x * (((tn * ((I 123) ((16 * q) + 3))) - ((((tn * ((I 123) ((16 * q) + 0))) * x) + ((tn * ((I 123) ((16 * q) + 1))) * y)) + ((tn * ((I 123) ((16 * q) + 2))) * z))) - (tn * ((I 123) ((16 * q) + 3))))) * (-1)) - ((2 * x) * (tn * ((I 123) ((16 * q) + 3)))))) + (((y * (((tn * ((I 123) ((16 * q) + 7))) - ((((tn * ((I 123) ((16 * q) + 4))) * x) + ((tn * ((I 123) ((16 * q) + 5))) * y)) + ((tn * ((I 123) ((16 * q) + 6))) * z))) - (tn * ((I 123) ((16 * q) + 7))))) * (-1)) - ((2 * y) * (tn * ((I 123) ((16 * q) + 7))))))), some (.int 1), some (.int y)]) dX8_layMoved_278 rfl (Nat.le_of_ble_eq_true rfl) rfl rfl ?_
  refine ev_iinc (pc' := 283) (v := 2) (lv' := [some (.ref 115), some (.int (nI q)), some (.ref 133), some (.int x), some (.int y), some (.int z), some (.int tn), some (.int (((tn * ((I 123) ((16 * q) + 15))) + (((x * (((tn * ((I 123) ((16 * q) + 3))) - ((((tn * ((I 123) ((16 * q) + 0))) * x) + ((tn * ((I 123) ((16 * q) + 1))) * y)) + ((tn * ((I 123) ((16 * q) + 2))) * z))) - (tn * ((I 123) ((16 * q) + 3))))) * (-1)) - ((2 * x) * (tn * ((I 123) ((16 * q) + 3)))))) + (((y * (((tn * ((I 123) ((16 * q) + 7))) - ((((tn * ((I 123) ((16 * q) + 4))) * x) + ((tn * ((I 123) ((16 * q) + 5))) * y)) + ((tn * ((I 123) ((16 * q) + 6))) * z))) - (tn * ((I 123) ((16 * q) + 7))))) * (-1)) - ((2 * y) * (tn * ((I 123) ((16 * q) + 7))))))), some (.int 2), some (.int y)]) dX8_layMoved_280 rfl rfl (by decide) (Nat.le_of_ble_eq_true rfl) rfl rfl ?_
  refine ev_goto (tgt := 203) dX8_layMoved_283 rfl ?_
  refine ev_iload (pc' := 205) dX8_layMoved_203 rfl rfl ?_
  refine ev_iconst (pc' := 206) (v := 3) dX8_layMoved_205 rfl ki_3 ?_
  refine ev_icmp_ge (tgt := 286) (pc' := 209) dX8_layMoved_206 rfl rfl (fun h => absurd h (by decide)) (fun _ => ?_)
  refine ev_iload (pc' := 211) dX8_layMoved_209 rfl rfl ?_
  refine ev_if_ne (tgt := 218) (pc' := 214) dX8_layMoved_211 rfl rfl (fun _ => ?_) (fun h => absurd h (by decide))
  refine ev_iload (pc' := 220) dX8_layMoved_218 rfl rfl ?_
  refine ev_iconst (pc' := 221) (v := 1) dX8_layMoved_220 rfl ki_1 ?_
  refine ev_icmp_ne (tgt := 229) (pc' := 224) dX8_layMoved_221 rfl rfl (fun _ => ?_) (fun h => absurd h (by decide))
  refine ev_iload (pc' := 231) dX8_layMoved_229 rfl rfl ?_
  refine ev_istore (pc' := 233) (lv' := [some (.ref 115), some (.int (nI q)), some (.ref 133), some (.int x), some (.int y), some (.int z), some (.int tn), some (.int (((tn * ((I 123) ((16 * q) + 15))) + (((x * (((tn * ((I 123) ((16 * q) + 3))) - ((((tn * ((I 123) ((16 * q) + 0))) * x) + ((tn * ((I 123) ((16 * q) + 1))) * y)) + ((tn * ((I 123) ((16 * q) + 2))) * z))) - (tn * ((I 123) ((16 * q) + 3))))) * (-1)) - ((2 * x) * (tn * ((I 123) ((16 * q) + 3)))))) + (((y * (((tn * ((I 123) ((16 * q) + 7))) - ((((tn * ((I 123) ((16 * q) + 4))) * x) + ((tn * ((I 123) ((16 * q) + 5))) * y)) + ((tn * ((I 123) ((16 * q) + 6))) * z))) - (tn * ((I 123) ((16 * q) + 7))))) * (-1)) - ((2 * y) * (tn * ((I 123) ((16 * q) + 7))))))), some (.int 2), some (.int z)]) dX8_layMoved_231 rfl (Nat.le_of_ble_eq_true rfl) rfl rfl ?_
  refine ev_iload (pc' := 235) dX8_layMoved_233 rfl rfl ?_
  refine ev_iload (pc' := 237) dX8_layMoved_235 rfl rfl ?_
  refine ev_aload_n (pc' := 238) (i := 2) dX8_layMoved_237 rfl rfl rfl ?_
  refine ev_iconst (pc' := 239) (v := 4) dX8_layMoved_238 rfl ki_4 ?_
  refine ev_iload (pc' := 241) dX8_layMoved_239 rfl rfl ?_
  refine ev_imul (pc' := 242) (v := 8) dX8_layMoved_241 rfl (by decide) ?_
  refine ev_iconst (pc' := 243) (v := 3) dX8_layMoved_242 rfl ki_3 ?_
  refine ev_iadd (pc' := 244) (v := 11) dX8_layMoved_243 rfl (by decide) ?_
  refine ev_iald (pc' := 245) (j := 11) (v := (tn * ((I 123) ((16 * q) + 11))) - ((((tn * ((I 123) ((16 * q) + 8))) * x) + ((tn * ((I 123) ((16 * q) + 9))) * y)) + ((tn * ((I 123) ((16 * q) + 10))) * z))) dX8_layMoved_244 rfl hs_133 rfl (Nat.le_of_ble_eq_true rfl) (Nat.le_of_ble_eq_true rfl) rfl ?_
  refine ev_aload_n (pc' := 246) (i := 0) dX8_layMoved_245 rfl rfl rfl ?_
  refine ev_getR (pc' := 249) fo_X8_43 dX8_layMoved_246 rfl hs_115 rfl rf_115_15 ?_
  refine ev_iconst (pc' := 250) (v := 4) dX8_layMoved_249 rfl ki_4 ?_
  refine ev_iload (pc' := 252) dX8_layMoved_250 rfl rfl ?_
  refine ev_imul (pc' := 253) (v := 8) dX8_layMoved_252 rfl (by decide) ?_
  refine ev_iconst (pc' := 254) (v := 3) dX8_layMoved_253 rfl ki_3 ?_
  refine ev_iadd (pc' := 255) (v := 11) dX8_layMoved_254 rfl (by decide) ?_
  refine ev_iald (pc' := 256) (j := 11) (v := tn * ((I 123) ((16 * q) + 11))) dX8_layMoved_255 rfl hs_125 rfl (Nat.le_of_ble_eq_true rfl) (Nat.le_of_ble_eq_true rfl) rfl ?_
  refine ev_isub (pc' := 257) (v := ((tn * ((I 123) ((16 * q) + 11))) - ((((tn * ((I 123) ((16 * q) + 8))) * x) + ((tn * ((I 123) ((16 * q) + 9))) * y)) + ((tn * ((I 123) ((16 * q) + 10))) * z))) - (tn * ((I 123) ((16 * q) + 11)))) dX8_layMoved_256 rfl rfl ?_
  refine ev_imul (pc' := 258) (v := z * (((tn * ((I 123) ((16 * q) + 11))) - ((((tn * ((I 123) ((16 * q) + 8))) * x) + ((tn * ((I 123) ((16 * q) + 9))) * y)) + ((tn * ((I 123) ((16 * q) + 10))) * z))) - (tn * ((I 123) ((16 * q) + 11))))) dX8_layMoved_257 rfl rfl ?_
  refine ev_iconst (pc' := 259) (v := (-1)) dX8_layMoved_258 rfl ki_m1 ?_
  refine ev_imul (pc' := 260) (v := (z * (((tn * ((I 123) ((16 * q) + 11))) - ((((tn * ((I 123) ((16 * q) + 8))) * x) + ((tn * ((I 123) ((16 * q) + 9))) * y)) + ((tn * ((I 123) ((16 * q) + 10))) * z))) - (tn * ((I 123) ((16 * q) + 11))))) * (-1)) dX8_layMoved_259 rfl rfl ?_
  refine ev_iconst (pc' := 261) (v := 2) dX8_layMoved_260 rfl ki_2 ?_
  refine ev_iload (pc' := 263) dX8_layMoved_261 rfl rfl ?_
  refine ev_imul (pc' := 264) (v := 2 * z) dX8_layMoved_263 rfl rfl ?_
  refine ev_aload_n (pc' := 265) (i := 0) dX8_layMoved_264 rfl rfl rfl ?_
  refine ev_getR (pc' := 268) fo_X8_43 dX8_layMoved_265 rfl hs_115 rfl rf_115_15 ?_
  refine ev_iconst (pc' := 269) (v := 4) dX8_layMoved_268 rfl ki_4 ?_
  refine ev_iload (pc' := 271) dX8_layMoved_269 rfl rfl ?_
  refine ev_imul (pc' := 272) (v := 8) dX8_layMoved_271 rfl (by decide) ?_
  refine ev_iconst (pc' := 273) (v := 3) dX8_layMoved_272 rfl ki_3 ?_
  refine ev_iadd (pc' := 274) (v := 11) dX8_layMoved_273 rfl (by decide) ?_
  refine ev_iald (pc' := 275) (j := 11) (v := tn * ((I 123) ((16 * q) + 11))) dX8_layMoved_274 rfl hs_125 rfl (Nat.le_of_ble_eq_true rfl) (Nat.le_of_ble_eq_true rfl) rfl ?_
  refine ev_imul (pc' := 276) (v := (2 * z) * (tn * ((I 123) ((16 * q) + 11)))) dX8_layMoved_275 rfl rfl ?_
  refine ev_isub (pc' := 277) (v := ((z * (((tn * ((I 123) ((16 * q) + 11))) - ((((tn * ((I 123) ((16 * q) + 8))) * x) + ((tn * ((I 123) ((16 * q) + 9))) * y)) + ((tn * ((I 123) ((16 * q) + 10))) * z))) - (tn * ((I 123) ((16 * q) + 11))))) * (-1)) - ((2 * z) * (tn * ((I 123) ((16 * q) + 11))))) dX8_layMoved_276 rfl rfl ?_
  refine ev_iadd (pc' := 278) (v := (((tn * ((I 123) ((16 * q) + 15))) + (((x * (((tn * ((I 123) ((16 * q) + 3))) - ((((tn * ((I 123) ((16 * q) + 0))) * x) + ((tn * ((I 123) ((16 * q) + 1))) * y)) + ((tn * ((I 123) ((16 * q) + 2))) * z))) - (tn * ((I 123) ((16 * q) + 3))))) * (-1)) - ((2 * x) * (tn * ((I 123) ((16 * q) + 3)))))) + (((y * (((tn * ((I 123) ((16 * q) + 7))) - ((((tn * ((I 123) ((16 * q) + 4))) * x) + ((tn * ((I 123) ((16 * q) + 5))) * y)) + ((tn * ((I 123) ((16 * q) + 6))) * z))) - (tn * ((I 123) ((16 * q) + 7))))) * (-1)) - ((2 * y) * (tn * ((I 123) ((16 * q) + 7)))))) + (((z * (((tn * ((I 123) ((16 * q) + 11))) - ((((tn * ((I 123) ((16 * q) + 8))) * x) + ((tn * ((I 123) ((16 * q) + 9))) * y)) + ((tn * ((I 123) ((16 * q) + 10))) * z))) - (tn * ((I 123) ((16 * q) + 11))))) * (-1)) - ((2 * z) * (tn * ((I 123) ((16 * q) + 11)))))) dX8_layMoved_277 rfl rfl ?_
  refine ev_istore (pc' := 280) (lv' := [some (.ref 115), some (.int (nI q)), some (.ref 133), some (.int x), some (.int y), some (.int z), some (.int tn), some (.int ((((tn * ((I 123) ((16 * q) + 15))) + (((x * (((tn * ((I 123) ((16 * q) + 3))) - ((((tn * ((I 123) ((16 * q) + 0))) * x) + ((tn * ((I 123) ((16 * q) + 1))) * y)) + ((tn * ((I 123) ((16 * q) + 2))) * z))) - (tn * ((I 123) ((16 * q) + 3))))) * (-1)) - ((2 * x) * (tn * ((I 123) ((16 * q) + 3)))))) + (((y * (((tn * ((I 123) ((16 * q) + 7))) - ((((tn * ((I 123) ((16 * q) + 4))) * x) + ((tn * ((I 123) ((16 * q) + 5))) * y)) + ((tn * ((I 123) ((16 * q) + 6))) * z))) - (tn * ((I 123) ((16 * q) + 7))))) * (-1)) - ((2 * y) * (tn * ((I 123) ((16 * q) + 7)))))) + (((z * (((tn * ((I 123) ((16 * q) + 11))) - ((((tn * ((I 123) ((16 * q) + 8))) * x) + ((tn * ((I 123) ((16 * q) + 9))) * y)) + ((tn * ((I 123) ((16 * q) + 10))) * z))) - (tn * ((I 123) ((16 * q) + 11))))) * (-1)) - ((2 * z) * (tn * ((I 123) ((16 * q) + 11))))))), some (.int 2), some (.int z)]) dX8_layMoved_278 rfl (Nat.le_of_ble_eq_true rfl) rfl rfl ?_
  refine ev_iinc (pc' := 283) (v := 3) (lv' := [some (.ref 115), some (.int (nI q)), some (.ref 133), some (.int x), some (.int y), some (.int z), some (.int tn), some (.int ((((tn * ((I 123) ((16 * q) + 15))) + (((x * (((tn * ((I 123) ((16 * q) + 3))) - ((((tn * ((I 123) ((16 * q) + 0))) * x) + ((tn * ((I 123) ((16 * q) + 1))) * y)) + ((tn * ((I 123) ((16 * q) + 2))) * z))) - (tn * ((I 123) ((16 * q) + 3))))) * (-1)) - ((2 * x) * (tn * ((I 123) ((16 * q) + 3)))))) + (((y * (((tn * ((I 123) ((16 * q) + 7))) - ((((tn * ((I 123) ((16 * q) + 4))) * x) + ((tn * ((I 123) ((16 * q) + 5))) * y)) + ((tn * ((I 123) ((16 * q) + 6))) * z))) - (tn * ((I 123) ((16 * q) + 7))))) * (-1)) - ((2 * y) * (tn * ((I 123) ((16 * q) + 7)))))) + (((z * (((tn * ((I 123) ((16 * q) + 11))) - ((((tn * ((I 123) ((16 * q) + 8))) * x) + ((tn * ((I 123) ((16 * q) + 9))) * y)) + ((tn * ((I 123) ((16 * q) + 10))) * z))) - (tn * ((I 123) ((16 * q) + 11))))) * (-1)) - ((2 * z) * (tn * ((I 123) ((16 * q) + 11))))))), some (.int 3), some (.int z)]) dX8_layMoved_280 rfl rfl (by decide) (Nat.le_of_ble_eq_true rfl) rfl rfl ?_
  refine ev_goto (tgt := 203) dX8_layMoved_283 rfl ?_
  refine ev_iload (pc' := 205) dX8_layMoved_203 rfl rfl ?_
  refine ev_iconst (pc' := 206) (v := 3) dX8_layMoved_205 rfl ki_3 ?_
  refine ev_icmp_ge (tgt := 286) (pc' := 209) dX8_layMoved_206 rfl rfl (fun _ => ?_) (fun h => absurd (by decide) h)
  refine ev_aload_n (pc' := 287) (i := 2) dX8_layMoved_286 rfl rfl rfl ?_
  refine ev_bipush (pc' := 289) (v := 15) dX8_layMoved_287 rfl kb_15 ?_
  refine ev_iload (pc' := 291) dX8_layMoved_289 rfl rfl ?_
  refine ev_iast (pc' := 292) (j := 15) (I' := (ma_up (ma_up I 125 (ma_up (ma_up (ma_up (ma_up (ma_up (ma_up (ma_up (ma_up (ma_up (ma_up (ma_up (ma_up (ma_up (ma_up (ma_up (ma_up (I 125) 0 (tn * ((I 123) ((16 * q) + 0)))) 1 (tn * ((I 123) ((16 * q) + 1)))) 2 (tn * ((I 123) ((16 * q) + 2)))) 3 (tn * ((I 123) ((16 * q) + 3)))) 4 (tn * ((I 123) ((16 * q) + 4)))) 5 (tn * ((I 123) ((16 * q) + 5)))) 6 (tn * ((I 123) ((16 * q) + 6)))) 7 (tn * ((I 123) ((16 * q) + 7)))) 8 (tn * ((I 123) ((16 * q) + 8)))) 9 (tn * ((I 123) ((16 * q) + 9)))) 10 (tn * ((I 123) ((16 * q) + 10)))) 11 (tn * ((I 123) ((16 * q) + 11)))) 12 (tn * ((I 123) ((16 * q) + 12)))) 13 (tn * ((I 123) ((16 * q) + 13)))) 14 (tn * ((I 123) ((16 * q) + 14)))) 15 (tn * ((I 123) ((16 * q) + 15))))) 133 (ma_up (ma_up (ma_up (ma_up (ma_up (ma_up (ma_up (ma_up (ma_up (ma_up (ma_up (ma_up (ma_up (ma_up (ma_up (ma_up (I 133) 3 ((tn * ((I 123) ((16 * q) + 3))) - ((((tn * ((I 123) ((16 * q) + 0))) * x) + ((tn * ((I 123) ((16 * q) + 1))) * y)) + ((tn * ((I 123) ((16 * q) + 2))) * z)))) 12 ((tn * ((I 123) ((16 * q) + 3))) - ((((tn * ((I 123) ((16 * q) + 0))) * x) + ((tn * ((I 123) ((16 * q) + 1))) * y)) + ((tn * ((I 123) ((16 * q) + 2))) * z)))) 0 (tn * ((I 123) ((16 * q) + 0)))) 1 (tn * ((I 123) ((16 * q) + 1)))) 2 (tn * ((I 123) ((16 * q) + 2)))) 7 ((tn * ((I 123) ((16 * q) + 7))) - ((((tn * ((I 123) ((16 * q) + 4))) * x) + ((tn * ((I 123) ((16 * q) + 5))) * y)) + ((tn * ((I 123) ((16 * q) + 6))) * z)))) 13 ((tn * ((I 123) ((16 * q) + 7))) - ((((tn * ((I 123) ((16 * q) + 4))) * x) + ((tn * ((I 123) ((16 * q) + 5))) * y)) + ((tn * ((I 123) ((16 * q) + 6))) * z)))) 4 (tn * ((I 123) ((16 * q) + 4)))) 5 (tn * ((I 123) ((16 * q) + 5)))) 6 (tn * ((I 123) ((16 * q) + 6)))) 11 ((tn * ((I 123) ((16 * q) + 11))) - ((((tn * ((I 123) ((16 * q) + 8))) * x) + ((tn * ((I 123) ((16 * q) + 9))) * y)) + ((tn * ((I 123) ((16 * q) + 10))) * z)))) 14 ((tn * ((I 123) ((16 * q) + 11))) - ((((tn * ((I 123) ((16 * q) + 8))) * x) + ((tn * ((I 123) ((16 * q) + 9))) * y)) + ((tn * ((I 123) ((16 * q) + 10))) * z)))) 8 (tn * ((I 123) ((16 * q) + 8)))) 9 (tn * ((I 123) ((16 * q) + 9)))) 10 (tn * ((I 123) ((16 * q) + 10)))) 15 ((((tn * ((I 123) ((16 * q) + 15))) + (((x * (((tn * ((I 123) ((16 * q) + 3))) - ((((tn * ((I 123) ((16 * q) + 0))) * x) + ((tn * ((I 123) ((16 * q) + 1))) * y)) + ((tn * ((I 123) ((16 * q) + 2))) * z))) - (tn * ((I 123) ((16 * q) + 3))))) * (-1)) - ((2 * x) * (tn * ((I 123) ((16 * q) + 3)))))) + (((y * (((tn * ((I 123) ((16 * q) + 7))) - ((((tn * ((I 123) ((16 * q) + 4))) * x) + ((tn * ((I 123) ((16 * q) + 5))) * y)) + ((tn * ((I 123) ((16 * q) + 6))) * z))) - (tn * ((I 123) ((16 * q) + 7))))) * (-1)) - ((2 * y) * (tn * ((I 123) ((16 * q) + 7)))))) + (((z * (((tn * ((I 123) ((16 * q) + 11))) - ((((tn * ((I 123) ((16 * q) + 8))) * x) + ((tn * ((I 123) ((16 * q) + 9))) * y)) + ((tn * ((I 123) ((16 * q) + 10))) * z))) - (tn * ((I 123) ((16 * q) + 11))))) * (-1)) - ((2 * z) * (tn * ((I 123) ((16 * q) + 11))))))))) dX8_layMoved_291 rfl hs_133 rfl (Nat.le_of_ble_eq_true rfl) (Nat.le_of_ble_eq_true rfl) (ma_up_up _ _ _ _) ?_
  refine ev_vret dX8_layMoved_292 rfl ⟨Nat.le_refl _, Nat.le_refl _⟩ ?_
  exact k _ _ (fun j hj => by rw [show mTn (I 124) q = tn from htn.symm]; match j, hj with
    | 0, _ => rfl
    | 1, _ => rfl
    | 2, _ => rfl
    | 3, _ => rfl
    | 4, _ => rfl
    | 5, _ => rfl
    | 6, _ => rfl
    | 7, _ => rfl
    | 8, _ => rfl
    | 9, _ => rfl
    | 10, _ => rfl
    | 11, _ => rfl
    | 12, _ => rfl
    | 13, _ => rfl
    | 14, _ => rfl
    | 15, _ => rfl
    | j + 16, h => exact absurd h (by omega))
set_option maxRecDepth 4000 in
theorem t_X8_layMoved134 {g : ma_G} {Post : ma_P} {I : ma_I} {L : ma_L} (q : Nat) (x y z : Int32) (hq : q < 12) (k : ∀ N R : Nat → Int32, (∀ j, j < 16 → R j = mMv (fun k => I 123 (16 * q + k)) (mTn (I 124) q) x y z j) → Post none HS (ma_up (ma_up I 125 N) 134 R) L RF 146) : CT g yX8_layMoved cX8_layMoved 10 none rX8_layMoved [.ref 115, .int (nI q), .ref 134, .int x, .int y, .int z] Post HS I L RF 146 := by
  refine ct_of (lv := [some (.ref 115), some (.int (nI q)), some (.ref 134), some (.int x), some (.int y), some (.int z), none, none, none, none]) (by decide) (Nat.le_of_ble_eq_true rfl) rfl ?_
  refine ev_aload_n (pc' := 1) (i := 0) dX8_layMoved_0 rfl rfl rfl ?_
  refine ev_getR (pc' := 4) fo_X8_40 dX8_layMoved_1 rfl hs_115 rfl rf_115_14 ?_
  refine ev_bipush (pc' := 6) (v := 10) dX8_layMoved_4 rfl kb_10 ?_
  refine ev_iload_n (pc' := 7) (i := 1) dX8_layMoved_6 rfl rfl rfl ?_
  refine ev_imul (pc' := 8) (v := nI (10 * q)) dX8_layMoved_7 rfl (pk_mul 10 q) ?_
  refine ev_iconst (pc' := 9) (v := 1) dX8_layMoved_8 rfl ki_1 ?_
  refine ev_iadd (pc' := 10) (v := nI ((10 * q) + 1)) dX8_layMoved_9 rfl (nI_add (10 * q) 1) ?_
  refine ev_iald (pc' := 11) (j := (10 * q) + 1) (v := (I 124) ((10 * q) + 1)) dX8_layMoved_10 rfl hs_124 rfl (by omega) (Nat.le_of_ble_eq_true rfl) rfl ?_
  refine ev_iconst (pc' := 12) (v := 3) dX8_layMoved_11 rfl ki_3 ?_
  suffices K3 : ∀ x2 : Int32, x2 = (if ¬ ((I 124) ((10 * q) + 1)) = 3 then (-1) else 1) → EV g yX8_layMoved cX8_layMoved 10 none rX8_layMoved (ma_ZM g rX8_layMoved Post) 20 [some (.ref 115), some (.int (nI q)), some (.ref 134), some (.int x), some (.int y), some (.int z), none, none, none, none] [.int x2] HS I L RF 146 0 0 by
    refine ev_icmp_ne (tgt := 19) (pc' := 15) dX8_layMoved_12 rfl rfl (fun c4 => ?_) (fun c4 => ?_)
    · refine ev_iconst (pc' := 20) (v := (-1)) dX8_layMoved_19 rfl ki_m1 ?_
      exact K3 _ (by rw [if_pos c4])
    · refine ev_iconst (pc' := 16) (v := 1) dX8_layMoved_15 rfl ki_1 ?_
      refine ev_goto (tgt := 20) dX8_layMoved_16 rfl ?_
      exact K3 _ (by rw [if_neg (not_not_intro c4)])
  intro x2 hx2
  subst hx2
  refine ev_topi (fun tn htn => ?_)
  refine ev_istore (pc' := 22) (lv' := [some (.ref 115), some (.int (nI q)), some (.ref 134), some (.int x), some (.int y), some (.int z), some (.int tn), none, none, none]) dX8_layMoved_20 rfl (Nat.le_of_ble_eq_true rfl) rfl rfl ?_
  refine ev_iconst (pc' := 23) (v := 0) dX8_layMoved_22 rfl ki_0 ?_
  refine ev_istore (pc' := 25) (lv' := [some (.ref 115), some (.int (nI q)), some (.ref 134), some (.int x), some (.int y), some (.int z), some (.int tn), some (.int 0), none, none]) dX8_layMoved_23 rfl (Nat.le_of_ble_eq_true rfl) rfl rfl ?_
  refine ev_iload (pc' := 27) dX8_layMoved_25 rfl rfl ?_
  refine ev_bipush (pc' := 29) (v := 16) dX8_layMoved_27 rfl kb_16 ?_
  refine ev_icmp_ge (tgt := 60) (pc' := 32) dX8_layMoved_29 rfl rfl (fun h => absurd h (by decide)) (fun _ => ?_)
  refine ev_aload_n (pc' := 33) (i := 0) dX8_layMoved_32 rfl rfl rfl ?_
  refine ev_getR (pc' := 36) fo_X8_43 dX8_layMoved_33 rfl hs_115 rfl rf_115_15 ?_
  refine ev_iload (pc' := 38) dX8_layMoved_36 rfl rfl ?_
  refine ev_iload (pc' := 40) dX8_layMoved_38 rfl rfl ?_
  refine ev_aload_n (pc' := 41) (i := 0) dX8_layMoved_40 rfl rfl rfl ?_
  refine ev_getR (pc' := 44) fo_X8_37 dX8_layMoved_41 rfl hs_115 rfl rf_115_13 ?_
  refine ev_bipush (pc' := 46) (v := 16) dX8_layMoved_44 rfl kb_16 ?_
  refine ev_iload_n (pc' := 47) (i := 1) dX8_layMoved_46 rfl rfl rfl ?_
  refine ev_imul (pc' := 48) (v := nI (16 * q)) dX8_layMoved_47 rfl (pk_mul 16 q) ?_
  refine ev_iload (pc' := 50) dX8_layMoved_48 rfl rfl ?_
  refine ev_iadd (pc' := 51) (v := nI ((16 * q) + 0)) dX8_layMoved_50 rfl (nI_add (16 * q) 0) ?_
  refine ev_iald (pc' := 52) (j := (16 * q) + 0) (v := (I 123) ((16 * q) + 0)) dX8_layMoved_51 rfl hs_123 rfl (by omega) (Nat.le_of_ble_eq_true rfl) rfl ?_
  refine ev_imul (pc' := 53) (v := tn * ((I 123) ((16 * q) + 0))) dX8_layMoved_52 rfl rfl ?_
  refine ev_iast (pc' := 54) (j := 0) (I' := (ma_up I 125 (ma_up (I 125) 0 (tn * ((I 123) ((16 * q) + 0)))))) dX8_layMoved_53 rfl hs_125 rfl (Nat.le_of_ble_eq_true rfl) (Nat.le_of_ble_eq_true rfl) rfl ?_
  refine ev_iinc (pc' := 57) (v := 1) (lv' := [some (.ref 115), some (.int (nI q)), some (.ref 134), some (.int x), some (.int y), some (.int z), some (.int tn), some (.int 1), none, none]) dX8_layMoved_54 rfl rfl (by decide) (Nat.le_of_ble_eq_true rfl) rfl rfl ?_
  refine ev_goto (tgt := 25) dX8_layMoved_57 rfl ?_
  refine ev_iload (pc' := 27) dX8_layMoved_25 rfl rfl ?_
  refine ev_bipush (pc' := 29) (v := 16) dX8_layMoved_27 rfl kb_16 ?_
  refine ev_icmp_ge (tgt := 60) (pc' := 32) dX8_layMoved_29 rfl rfl (fun h => absurd h (by decide)) (fun _ => ?_)
  refine ev_aload_n (pc' := 33) (i := 0) dX8_layMoved_32 rfl rfl rfl ?_
  refine ev_getR (pc' := 36) fo_X8_43 dX8_layMoved_33 rfl hs_115 rfl rf_115_15 ?_
  refine ev_iload (pc' := 38) dX8_layMoved_36 rfl rfl ?_
  refine ev_iload (pc' := 40) dX8_layMoved_38 rfl rfl ?_
  refine ev_aload_n (pc' := 41) (i := 0) dX8_layMoved_40 rfl rfl rfl ?_
  refine ev_getR (pc' := 44) fo_X8_37 dX8_layMoved_41 rfl hs_115 rfl rf_115_13 ?_
  refine ev_bipush (pc' := 46) (v := 16) dX8_layMoved_44 rfl kb_16 ?_
  refine ev_iload_n (pc' := 47) (i := 1) dX8_layMoved_46 rfl rfl rfl ?_
  refine ev_imul (pc' := 48) (v := nI (16 * q)) dX8_layMoved_47 rfl (pk_mul 16 q) ?_
  refine ev_iload (pc' := 50) dX8_layMoved_48 rfl rfl ?_
  refine ev_iadd (pc' := 51) (v := nI ((16 * q) + 1)) dX8_layMoved_50 rfl (nI_add (16 * q) 1) ?_
  refine ev_iald (pc' := 52) (j := (16 * q) + 1) (v := (I 123) ((16 * q) + 1)) dX8_layMoved_51 rfl hs_123 rfl (by omega) (Nat.le_of_ble_eq_true rfl) rfl ?_
  refine ev_imul (pc' := 53) (v := tn * ((I 123) ((16 * q) + 1))) dX8_layMoved_52 rfl rfl ?_
  refine ev_iast (pc' := 54) (j := 1) (I' := (ma_up I 125 (ma_up (ma_up (I 125) 0 (tn * ((I 123) ((16 * q) + 0)))) 1 (tn * ((I 123) ((16 * q) + 1)))))) dX8_layMoved_53 rfl hs_125 rfl (Nat.le_of_ble_eq_true rfl) (Nat.le_of_ble_eq_true rfl) (ma_up_up _ _ _ _) ?_
  refine ev_iinc (pc' := 57) (v := 2) (lv' := [some (.ref 115), some (.int (nI q)), some (.ref 134), some (.int x), some (.int y), some (.int z), some (.int tn), some (.int 2), none, none]) dX8_layMoved_54 rfl rfl (by decide) (Nat.le_of_ble_eq_true rfl) rfl rfl ?_
  refine ev_goto (tgt := 25) dX8_layMoved_57 rfl ?_
  refine ev_iload (pc' := 27) dX8_layMoved_25 rfl rfl ?_
  refine ev_bipush (pc' := 29) (v := 16) dX8_layMoved_27 rfl kb_16 ?_
  refine ev_icmp_ge (tgt := 60) (pc' := 32) dX8_layMoved_29 rfl rfl (fun h => absurd h (by decide)) (fun _ => ?_)
  refine ev_aload_n (pc' := 33) (i := 0) dX8_layMoved_32 rfl rfl rfl ?_
  refine ev_getR (pc' := 36) fo_X8_43 dX8_layMoved_33 rfl hs_115 rfl rf_115_15 ?_
  refine ev_iload (pc' := 38) dX8_layMoved_36 rfl rfl ?_
  refine ev_iload (pc' := 40) dX8_layMoved_38 rfl rfl ?_
  refine ev_aload_n (pc' := 41) (i := 0) dX8_layMoved_40 rfl rfl rfl ?_
  refine ev_getR (pc' := 44) fo_X8_37 dX8_layMoved_41 rfl hs_115 rfl rf_115_13 ?_
  refine ev_bipush (pc' := 46) (v := 16) dX8_layMoved_44 rfl kb_16 ?_
  refine ev_iload_n (pc' := 47) (i := 1) dX8_layMoved_46 rfl rfl rfl ?_
  refine ev_imul (pc' := 48) (v := nI (16 * q)) dX8_layMoved_47 rfl (pk_mul 16 q) ?_
  refine ev_iload (pc' := 50) dX8_layMoved_48 rfl rfl ?_
  refine ev_iadd (pc' := 51) (v := nI ((16 * q) + 2)) dX8_layMoved_50 rfl (nI_add (16 * q) 2) ?_
  refine ev_iald (pc' := 52) (j := (16 * q) + 2) (v := (I 123) ((16 * q) + 2)) dX8_layMoved_51 rfl hs_123 rfl (by omega) (Nat.le_of_ble_eq_true rfl) rfl ?_
  refine ev_imul (pc' := 53) (v := tn * ((I 123) ((16 * q) + 2))) dX8_layMoved_52 rfl rfl ?_
  refine ev_iast (pc' := 54) (j := 2) (I' := (ma_up I 125 (ma_up (ma_up (ma_up (I 125) 0 (tn * ((I 123) ((16 * q) + 0)))) 1 (tn * ((I 123) ((16 * q) + 1)))) 2 (tn * ((I 123) ((16 * q) + 2)))))) dX8_layMoved_53 rfl hs_125 rfl (Nat.le_of_ble_eq_true rfl) (Nat.le_of_ble_eq_true rfl) (ma_up_up _ _ _ _) ?_
  refine ev_iinc (pc' := 57) (v := 3) (lv' := [some (.ref 115), some (.int (nI q)), some (.ref 134), some (.int x), some (.int y), some (.int z), some (.int tn), some (.int 3), none, none]) dX8_layMoved_54 rfl rfl (by decide) (Nat.le_of_ble_eq_true rfl) rfl rfl ?_
  refine ev_goto (tgt := 25) dX8_layMoved_57 rfl ?_
  refine ev_iload (pc' := 27) dX8_layMoved_25 rfl rfl ?_
  refine ev_bipush (pc' := 29) (v := 16) dX8_layMoved_27 rfl kb_16 ?_
  refine ev_icmp_ge (tgt := 60) (pc' := 32) dX8_layMoved_29 rfl rfl (fun h => absurd h (by decide)) (fun _ => ?_)
  refine ev_aload_n (pc' := 33) (i := 0) dX8_layMoved_32 rfl rfl rfl ?_
  refine ev_getR (pc' := 36) fo_X8_43 dX8_layMoved_33 rfl hs_115 rfl rf_115_15 ?_
  refine ev_iload (pc' := 38) dX8_layMoved_36 rfl rfl ?_
  refine ev_iload (pc' := 40) dX8_layMoved_38 rfl rfl ?_
  refine ev_aload_n (pc' := 41) (i := 0) dX8_layMoved_40 rfl rfl rfl ?_
  refine ev_getR (pc' := 44) fo_X8_37 dX8_layMoved_41 rfl hs_115 rfl rf_115_13 ?_
  refine ev_bipush (pc' := 46) (v := 16) dX8_layMoved_44 rfl kb_16 ?_
  refine ev_iload_n (pc' := 47) (i := 1) dX8_layMoved_46 rfl rfl rfl ?_
  refine ev_imul (pc' := 48) (v := nI (16 * q)) dX8_layMoved_47 rfl (pk_mul 16 q) ?_
  refine ev_iload (pc' := 50) dX8_layMoved_48 rfl rfl ?_
  refine ev_iadd (pc' := 51) (v := nI ((16 * q) + 3)) dX8_layMoved_50 rfl (nI_add (16 * q) 3) ?_
  refine ev_iald (pc' := 52) (j := (16 * q) + 3) (v := (I 123) ((16 * q) + 3)) dX8_layMoved_51 rfl hs_123 rfl (by omega) (Nat.le_of_ble_eq_true rfl) rfl ?_
  refine ev_imul (pc' := 53) (v := tn * ((I 123) ((16 * q) + 3))) dX8_layMoved_52 rfl rfl ?_
  refine ev_iast (pc' := 54) (j := 3) (I' := (ma_up I 125 (ma_up (ma_up (ma_up (ma_up (I 125) 0 (tn * ((I 123) ((16 * q) + 0)))) 1 (tn * ((I 123) ((16 * q) + 1)))) 2 (tn * ((I 123) ((16 * q) + 2)))) 3 (tn * ((I 123) ((16 * q) + 3)))))) dX8_layMoved_53 rfl hs_125 rfl (Nat.le_of_ble_eq_true rfl) (Nat.le_of_ble_eq_true rfl) (ma_up_up _ _ _ _) ?_
  refine ev_iinc (pc' := 57) (v := 4) (lv' := [some (.ref 115), some (.int (nI q)), some (.ref 134), some (.int x), some (.int y), some (.int z), some (.int tn), some (.int 4), none, none]) dX8_layMoved_54 rfl rfl (by decide) (Nat.le_of_ble_eq_true rfl) rfl rfl ?_
  refine ev_goto (tgt := 25) dX8_layMoved_57 rfl ?_
  refine ev_iload (pc' := 27) dX8_layMoved_25 rfl rfl ?_
  refine ev_bipush (pc' := 29) (v := 16) dX8_layMoved_27 rfl kb_16 ?_
  refine ev_icmp_ge (tgt := 60) (pc' := 32) dX8_layMoved_29 rfl rfl (fun h => absurd h (by decide)) (fun _ => ?_)
  refine ev_aload_n (pc' := 33) (i := 0) dX8_layMoved_32 rfl rfl rfl ?_
  refine ev_getR (pc' := 36) fo_X8_43 dX8_layMoved_33 rfl hs_115 rfl rf_115_15 ?_
  refine ev_iload (pc' := 38) dX8_layMoved_36 rfl rfl ?_
  refine ev_iload (pc' := 40) dX8_layMoved_38 rfl rfl ?_
  refine ev_aload_n (pc' := 41) (i := 0) dX8_layMoved_40 rfl rfl rfl ?_
  refine ev_getR (pc' := 44) fo_X8_37 dX8_layMoved_41 rfl hs_115 rfl rf_115_13 ?_
  refine ev_bipush (pc' := 46) (v := 16) dX8_layMoved_44 rfl kb_16 ?_
  refine ev_iload_n (pc' := 47) (i := 1) dX8_layMoved_46 rfl rfl rfl ?_
  refine ev_imul (pc' := 48) (v := nI (16 * q)) dX8_layMoved_47 rfl (pk_mul 16 q) ?_
  refine ev_iload (pc' := 50) dX8_layMoved_48 rfl rfl ?_
  refine ev_iadd (pc' := 51) (v := nI ((16 * q) + 4)) dX8_layMoved_50 rfl (nI_add (16 * q) 4) ?_
  refine ev_iald (pc' := 52) (j := (16 * q) + 4) (v := (I 123) ((16 * q) + 4)) dX8_layMoved_51 rfl hs_123 rfl (by omega) (Nat.le_of_ble_eq_true rfl) rfl ?_
  refine ev_imul (pc' := 53) (v := tn * ((I 123) ((16 * q) + 4))) dX8_layMoved_52 rfl rfl ?_
  refine ev_iast (pc' := 54) (j := 4) (I' := (ma_up I 125 (ma_up (ma_up (ma_up (ma_up (ma_up (I 125) 0 (tn * ((I 123) ((16 * q) + 0)))) 1 (tn * ((I 123) ((16 * q) + 1)))) 2 (tn * ((I 123) ((16 * q) + 2)))) 3 (tn * ((I 123) ((16 * q) + 3)))) 4 (tn * ((I 123) ((16 * q) + 4)))))) dX8_layMoved_53 rfl hs_125 rfl (Nat.le_of_ble_eq_true rfl) (Nat.le_of_ble_eq_true rfl) (ma_up_up _ _ _ _) ?_
  refine ev_iinc (pc' := 57) (v := 5) (lv' := [some (.ref 115), some (.int (nI q)), some (.ref 134), some (.int x), some (.int y), some (.int z), some (.int tn), some (.int 5), none, none]) dX8_layMoved_54 rfl rfl (by decide) (Nat.le_of_ble_eq_true rfl) rfl rfl ?_
  refine ev_goto (tgt := 25) dX8_layMoved_57 rfl ?_
  refine ev_iload (pc' := 27) dX8_layMoved_25 rfl rfl ?_
  refine ev_bipush (pc' := 29) (v := 16) dX8_layMoved_27 rfl kb_16 ?_
  refine ev_icmp_ge (tgt := 60) (pc' := 32) dX8_layMoved_29 rfl rfl (fun h => absurd h (by decide)) (fun _ => ?_)
  refine ev_aload_n (pc' := 33) (i := 0) dX8_layMoved_32 rfl rfl rfl ?_
  refine ev_getR (pc' := 36) fo_X8_43 dX8_layMoved_33 rfl hs_115 rfl rf_115_15 ?_
  refine ev_iload (pc' := 38) dX8_layMoved_36 rfl rfl ?_
  refine ev_iload (pc' := 40) dX8_layMoved_38 rfl rfl ?_
  refine ev_aload_n (pc' := 41) (i := 0) dX8_layMoved_40 rfl rfl rfl ?_
  refine ev_getR (pc' := 44) fo_X8_37 dX8_layMoved_41 rfl hs_115 rfl rf_115_13 ?_
  refine ev_bipush (pc' := 46) (v := 16) dX8_layMoved_44 rfl kb_16 ?_
  refine ev_iload_n (pc' := 47) (i := 1) dX8_layMoved_46 rfl rfl rfl ?_
  refine ev_imul (pc' := 48) (v := nI (16 * q)) dX8_layMoved_47 rfl (pk_mul 16 q) ?_
  refine ev_iload (pc' := 50) dX8_layMoved_48 rfl rfl ?_
  refine ev_iadd (pc' := 51) (v := nI ((16 * q) + 5)) dX8_layMoved_50 rfl (nI_add (16 * q) 5) ?_
  refine ev_iald (pc' := 52) (j := (16 * q) + 5) (v := (I 123) ((16 * q) + 5)) dX8_layMoved_51 rfl hs_123 rfl (by omega) (Nat.le_of_ble_eq_true rfl) rfl ?_
  refine ev_imul (pc' := 53) (v := tn * ((I 123) ((16 * q) + 5))) dX8_layMoved_52 rfl rfl ?_
  refine ev_iast (pc' := 54) (j := 5) (I' := (ma_up I 125 (ma_up (ma_up (ma_up (ma_up (ma_up (ma_up (I 125) 0 (tn * ((I 123) ((16 * q) + 0)))) 1 (tn * ((I 123) ((16 * q) + 1)))) 2 (tn * ((I 123) ((16 * q) + 2)))) 3 (tn * ((I 123) ((16 * q) + 3)))) 4 (tn * ((I 123) ((16 * q) + 4)))) 5 (tn * ((I 123) ((16 * q) + 5)))))) dX8_layMoved_53 rfl hs_125 rfl (Nat.le_of_ble_eq_true rfl) (Nat.le_of_ble_eq_true rfl) (ma_up_up _ _ _ _) ?_
  refine ev_iinc (pc' := 57) (v := 6) (lv' := [some (.ref 115), some (.int (nI q)), some (.ref 134), some (.int x), some (.int y), some (.int z), some (.int tn), some (.int 6), none, none]) dX8_layMoved_54 rfl rfl (by decide) (Nat.le_of_ble_eq_true rfl) rfl rfl ?_
  refine ev_goto (tgt := 25) dX8_layMoved_57 rfl ?_
  refine ev_iload (pc' := 27) dX8_layMoved_25 rfl rfl ?_
  refine ev_bipush (pc' := 29) (v := 16) dX8_layMoved_27 rfl kb_16 ?_
  refine ev_icmp_ge (tgt := 60) (pc' := 32) dX8_layMoved_29 rfl rfl (fun h => absurd h (by decide)) (fun _ => ?_)
  refine ev_aload_n (pc' := 33) (i := 0) dX8_layMoved_32 rfl rfl rfl ?_
  refine ev_getR (pc' := 36) fo_X8_43 dX8_layMoved_33 rfl hs_115 rfl rf_115_15 ?_
  refine ev_iload (pc' := 38) dX8_layMoved_36 rfl rfl ?_
  refine ev_iload (pc' := 40) dX8_layMoved_38 rfl rfl ?_
  refine ev_aload_n (pc' := 41) (i := 0) dX8_layMoved_40 rfl rfl rfl ?_
  refine ev_getR (pc' := 44) fo_X8_37 dX8_layMoved_41 rfl hs_115 rfl rf_115_13 ?_
  refine ev_bipush (pc' := 46) (v := 16) dX8_layMoved_44 rfl kb_16 ?_
  refine ev_iload_n (pc' := 47) (i := 1) dX8_layMoved_46 rfl rfl rfl ?_
  refine ev_imul (pc' := 48) (v := nI (16 * q)) dX8_layMoved_47 rfl (pk_mul 16 q) ?_
  refine ev_iload (pc' := 50) dX8_layMoved_48 rfl rfl ?_
  refine ev_iadd (pc' := 51) (v := nI ((16 * q) + 6)) dX8_layMoved_50 rfl (nI_add (16 * q) 6) ?_
  refine ev_iald (pc' := 52) (j := (16 * q) + 6) (v := (I 123) ((16 * q) + 6)) dX8_layMoved_51 rfl hs_123 rfl (by omega) (Nat.le_of_ble_eq_true rfl) rfl ?_
  refine ev_imul (pc' := 53) (v := tn * ((I 123) ((16 * q) + 6))) dX8_layMoved_52 rfl rfl ?_
  refine ev_iast (pc' := 54) (j := 6) (I' := (ma_up I 125 (ma_up (ma_up (ma_up (ma_up (ma_up (ma_up (ma_up (I 125) 0 (tn * ((I 123) ((16 * q) + 0)))) 1 (tn * ((I 123) ((16 * q) + 1)))) 2 (tn * ((I 123) ((16 * q) + 2)))) 3 (tn * ((I 123) ((16 * q) + 3)))) 4 (tn * ((I 123) ((16 * q) + 4)))) 5 (tn * ((I 123) ((16 * q) + 5)))) 6 (tn * ((I 123) ((16 * q) + 6)))))) dX8_layMoved_53 rfl hs_125 rfl (Nat.le_of_ble_eq_true rfl) (Nat.le_of_ble_eq_true rfl) (ma_up_up _ _ _ _) ?_
  refine ev_iinc (pc' := 57) (v := 7) (lv' := [some (.ref 115), some (.int (nI q)), some (.ref 134), some (.int x), some (.int y), some (.int z), some (.int tn), some (.int 7), none, none]) dX8_layMoved_54 rfl rfl (by decide) (Nat.le_of_ble_eq_true rfl) rfl rfl ?_
  refine ev_goto (tgt := 25) dX8_layMoved_57 rfl ?_
  refine ev_iload (pc' := 27) dX8_layMoved_25 rfl rfl ?_
  refine ev_bipush (pc' := 29) (v := 16) dX8_layMoved_27 rfl kb_16 ?_
  refine ev_icmp_ge (tgt := 60) (pc' := 32) dX8_layMoved_29 rfl rfl (fun h => absurd h (by decide)) (fun _ => ?_)
  refine ev_aload_n (pc' := 33) (i := 0) dX8_layMoved_32 rfl rfl rfl ?_
  refine ev_getR (pc' := 36) fo_X8_43 dX8_layMoved_33 rfl hs_115 rfl rf_115_15 ?_
  refine ev_iload (pc' := 38) dX8_layMoved_36 rfl rfl ?_
  refine ev_iload (pc' := 40) dX8_layMoved_38 rfl rfl ?_
  refine ev_aload_n (pc' := 41) (i := 0) dX8_layMoved_40 rfl rfl rfl ?_
  refine ev_getR (pc' := 44) fo_X8_37 dX8_layMoved_41 rfl hs_115 rfl rf_115_13 ?_
  refine ev_bipush (pc' := 46) (v := 16) dX8_layMoved_44 rfl kb_16 ?_
  refine ev_iload_n (pc' := 47) (i := 1) dX8_layMoved_46 rfl rfl rfl ?_
  refine ev_imul (pc' := 48) (v := nI (16 * q)) dX8_layMoved_47 rfl (pk_mul 16 q) ?_
  refine ev_iload (pc' := 50) dX8_layMoved_48 rfl rfl ?_
  refine ev_iadd (pc' := 51) (v := nI ((16 * q) + 7)) dX8_layMoved_50 rfl (nI_add (16 * q) 7) ?_
  refine ev_iald (pc' := 52) (j := (16 * q) + 7) (v := (I 123) ((16 * q) + 7)) dX8_layMoved_51 rfl hs_123 rfl (by omega) (Nat.le_of_ble_eq_true rfl) rfl ?_
  refine ev_imul (pc' := 53) (v := tn * ((I 123) ((16 * q) + 7))) dX8_layMoved_52 rfl rfl ?_
  refine ev_iast (pc' := 54) (j := 7) (I' := (ma_up I 125 (ma_up (ma_up (ma_up (ma_up (ma_up (ma_up (ma_up (ma_up (I 125) 0 (tn * ((I 123) ((16 * q) + 0)))) 1 (tn * ((I 123) ((16 * q) + 1)))) 2 (tn * ((I 123) ((16 * q) + 2)))) 3 (tn * ((I 123) ((16 * q) + 3)))) 4 (tn * ((I 123) ((16 * q) + 4)))) 5 (tn * ((I 123) ((16 * q) + 5)))) 6 (tn * ((I 123) ((16 * q) + 6)))) 7 (tn * ((I 123) ((16 * q) + 7)))))) dX8_layMoved_53 rfl hs_125 rfl (Nat.le_of_ble_eq_true rfl) (Nat.le_of_ble_eq_true rfl) (ma_up_up _ _ _ _) ?_
  refine ev_iinc (pc' := 57) (v := 8) (lv' := [some (.ref 115), some (.int (nI q)), some (.ref 134), some (.int x), some (.int y), some (.int z), some (.int tn), some (.int 8), none, none]) dX8_layMoved_54 rfl rfl (by decide) (Nat.le_of_ble_eq_true rfl) rfl rfl ?_
  refine ev_goto (tgt := 25) dX8_layMoved_57 rfl ?_
  refine ev_iload (pc' := 27) dX8_layMoved_25 rfl rfl ?_
  refine ev_bipush (pc' := 29) (v := 16) dX8_layMoved_27 rfl kb_16 ?_
  refine ev_icmp_ge (tgt := 60) (pc' := 32) dX8_layMoved_29 rfl rfl (fun h => absurd h (by decide)) (fun _ => ?_)
  refine ev_aload_n (pc' := 33) (i := 0) dX8_layMoved_32 rfl rfl rfl ?_
  refine ev_getR (pc' := 36) fo_X8_43 dX8_layMoved_33 rfl hs_115 rfl rf_115_15 ?_
  refine ev_iload (pc' := 38) dX8_layMoved_36 rfl rfl ?_
  refine ev_iload (pc' := 40) dX8_layMoved_38 rfl rfl ?_
  refine ev_aload_n (pc' := 41) (i := 0) dX8_layMoved_40 rfl rfl rfl ?_
  refine ev_getR (pc' := 44) fo_X8_37 dX8_layMoved_41 rfl hs_115 rfl rf_115_13 ?_
  refine ev_bipush (pc' := 46) (v := 16) dX8_layMoved_44 rfl kb_16 ?_
  refine ev_iload_n (pc' := 47) (i := 1) dX8_layMoved_46 rfl rfl rfl ?_
  refine ev_imul (pc' := 48) (v := nI (16 * q)) dX8_layMoved_47 rfl (pk_mul 16 q) ?_
  refine ev_iload (pc' := 50) dX8_layMoved_48 rfl rfl ?_
  refine ev_iadd (pc' := 51) (v := nI ((16 * q) + 8)) dX8_layMoved_50 rfl (nI_add (16 * q) 8) ?_
  refine ev_iald (pc' := 52) (j := (16 * q) + 8) (v := (I 123) ((16 * q) + 8)) dX8_layMoved_51 rfl hs_123 rfl (by omega) (Nat.le_of_ble_eq_true rfl) rfl ?_
  refine ev_imul (pc' := 53) (v := tn * ((I 123) ((16 * q) + 8))) dX8_layMoved_52 rfl rfl ?_
  refine ev_iast (pc' := 54) (j := 8) (I' := (ma_up I 125 (ma_up (ma_up (ma_up (ma_up (ma_up (ma_up (ma_up (ma_up (ma_up (I 125) 0 (tn * ((I 123) ((16 * q) + 0)))) 1 (tn * ((I 123) ((16 * q) + 1)))) 2 (tn * ((I 123) ((16 * q) + 2)))) 3 (tn * ((I 123) ((16 * q) + 3)))) 4 (tn * ((I 123) ((16 * q) + 4)))) 5 (tn * ((I 123) ((16 * q) + 5)))) 6 (tn * ((I 123) ((16 * q) + 6)))) 7 (tn * ((I 123) ((16 * q) + 7)))) 8 (tn * ((I 123) ((16 * q) + 8)))))) dX8_layMoved_53 rfl hs_125 rfl (Nat.le_of_ble_eq_true rfl) (Nat.le_of_ble_eq_true rfl) (ma_up_up _ _ _ _) ?_
  refine ev_iinc (pc' := 57) (v := 9) (lv' := [some (.ref 115), some (.int (nI q)), some (.ref 134), some (.int x), some (.int y), some (.int z), some (.int tn), some (.int 9), none, none]) dX8_layMoved_54 rfl rfl (by decide) (Nat.le_of_ble_eq_true rfl) rfl rfl ?_
  refine ev_goto (tgt := 25) dX8_layMoved_57 rfl ?_
  refine ev_iload (pc' := 27) dX8_layMoved_25 rfl rfl ?_
  refine ev_bipush (pc' := 29) (v := 16) dX8_layMoved_27 rfl kb_16 ?_
  refine ev_icmp_ge (tgt := 60) (pc' := 32) dX8_layMoved_29 rfl rfl (fun h => absurd h (by decide)) (fun _ => ?_)
  refine ev_aload_n (pc' := 33) (i := 0) dX8_layMoved_32 rfl rfl rfl ?_
  refine ev_getR (pc' := 36) fo_X8_43 dX8_layMoved_33 rfl hs_115 rfl rf_115_15 ?_
  refine ev_iload (pc' := 38) dX8_layMoved_36 rfl rfl ?_
  refine ev_iload (pc' := 40) dX8_layMoved_38 rfl rfl ?_
  refine ev_aload_n (pc' := 41) (i := 0) dX8_layMoved_40 rfl rfl rfl ?_
  refine ev_getR (pc' := 44) fo_X8_37 dX8_layMoved_41 rfl hs_115 rfl rf_115_13 ?_
  refine ev_bipush (pc' := 46) (v := 16) dX8_layMoved_44 rfl kb_16 ?_
  refine ev_iload_n (pc' := 47) (i := 1) dX8_layMoved_46 rfl rfl rfl ?_
  refine ev_imul (pc' := 48) (v := nI (16 * q)) dX8_layMoved_47 rfl (pk_mul 16 q) ?_
  refine ev_iload (pc' := 50) dX8_layMoved_48 rfl rfl ?_
  refine ev_iadd (pc' := 51) (v := nI ((16 * q) + 9)) dX8_layMoved_50 rfl (nI_add (16 * q) 9) ?_
  refine ev_iald (pc' := 52) (j := (16 * q) + 9) (v := (I 123) ((16 * q) + 9)) dX8_layMoved_51 rfl hs_123 rfl (by omega) (Nat.le_of_ble_eq_true rfl) rfl ?_
  refine ev_imul (pc' := 53) (v := tn * ((I 123) ((16 * q) + 9))) dX8_layMoved_52 rfl rfl ?_
  refine ev_iast (pc' := 54) (j := 9) (I' := (ma_up I 125 (ma_up (ma_up (ma_up (ma_up (ma_up (ma_up (ma_up (ma_up (ma_up (ma_up (I 125) 0 (tn * ((I 123) ((16 * q) + 0)))) 1 (tn * ((I 123) ((16 * q) + 1)))) 2 (tn * ((I 123) ((16 * q) + 2)))) 3 (tn * ((I 123) ((16 * q) + 3)))) 4 (tn * ((I 123) ((16 * q) + 4)))) 5 (tn * ((I 123) ((16 * q) + 5)))) 6 (tn * ((I 123) ((16 * q) + 6)))) 7 (tn * ((I 123) ((16 * q) + 7)))) 8 (tn * ((I 123) ((16 * q) + 8)))) 9 (tn * ((I 123) ((16 * q) + 9)))))) dX8_layMoved_53 rfl hs_125 rfl (Nat.le_of_ble_eq_true rfl) (Nat.le_of_ble_eq_true rfl) (ma_up_up _ _ _ _) ?_
  refine ev_iinc (pc' := 57) (v := 10) (lv' := [some (.ref 115), some (.int (nI q)), some (.ref 134), some (.int x), some (.int y), some (.int z), some (.int tn), some (.int 10), none, none]) dX8_layMoved_54 rfl rfl (by decide) (Nat.le_of_ble_eq_true rfl) rfl rfl ?_
  refine ev_goto (tgt := 25) dX8_layMoved_57 rfl ?_
  refine ev_iload (pc' := 27) dX8_layMoved_25 rfl rfl ?_
  refine ev_bipush (pc' := 29) (v := 16) dX8_layMoved_27 rfl kb_16 ?_
  refine ev_icmp_ge (tgt := 60) (pc' := 32) dX8_layMoved_29 rfl rfl (fun h => absurd h (by decide)) (fun _ => ?_)
  refine ev_aload_n (pc' := 33) (i := 0) dX8_layMoved_32 rfl rfl rfl ?_
  refine ev_getR (pc' := 36) fo_X8_43 dX8_layMoved_33 rfl hs_115 rfl rf_115_15 ?_
  refine ev_iload (pc' := 38) dX8_layMoved_36 rfl rfl ?_
  refine ev_iload (pc' := 40) dX8_layMoved_38 rfl rfl ?_
  refine ev_aload_n (pc' := 41) (i := 0) dX8_layMoved_40 rfl rfl rfl ?_
  refine ev_getR (pc' := 44) fo_X8_37 dX8_layMoved_41 rfl hs_115 rfl rf_115_13 ?_
  refine ev_bipush (pc' := 46) (v := 16) dX8_layMoved_44 rfl kb_16 ?_
  refine ev_iload_n (pc' := 47) (i := 1) dX8_layMoved_46 rfl rfl rfl ?_
  refine ev_imul (pc' := 48) (v := nI (16 * q)) dX8_layMoved_47 rfl (pk_mul 16 q) ?_
  refine ev_iload (pc' := 50) dX8_layMoved_48 rfl rfl ?_
  refine ev_iadd (pc' := 51) (v := nI ((16 * q) + 10)) dX8_layMoved_50 rfl (nI_add (16 * q) 10) ?_
  refine ev_iald (pc' := 52) (j := (16 * q) + 10) (v := (I 123) ((16 * q) + 10)) dX8_layMoved_51 rfl hs_123 rfl (by omega) (Nat.le_of_ble_eq_true rfl) rfl ?_
  refine ev_imul (pc' := 53) (v := tn * ((I 123) ((16 * q) + 10))) dX8_layMoved_52 rfl rfl ?_
  refine ev_iast (pc' := 54) (j := 10) (I' := (ma_up I 125 (ma_up (ma_up (ma_up (ma_up (ma_up (ma_up (ma_up (ma_up (ma_up (ma_up (ma_up (I 125) 0 (tn * ((I 123) ((16 * q) + 0)))) 1 (tn * ((I 123) ((16 * q) + 1)))) 2 (tn * ((I 123) ((16 * q) + 2)))) 3 (tn * ((I 123) ((16 * q) + 3)))) 4 (tn * ((I 123) ((16 * q) + 4)))) 5 (tn * ((I 123) ((16 * q) + 5)))) 6 (tn * ((I 123) ((16 * q) + 6)))) 7 (tn * ((I 123) ((16 * q) + 7)))) 8 (tn * ((I 123) ((16 * q) + 8)))) 9 (tn * ((I 123) ((16 * q) + 9)))) 10 (tn * ((I 123) ((16 * q) + 10)))))) dX8_layMoved_53 rfl hs_125 rfl (Nat.le_of_ble_eq_true rfl) (Nat.le_of_ble_eq_true rfl) (ma_up_up _ _ _ _) ?_
  refine ev_iinc (pc' := 57) (v := 11) (lv' := [some (.ref 115), some (.int (nI q)), some (.ref 134), some (.int x), some (.int y), some (.int z), some (.int tn), some (.int 11), none, none]) dX8_layMoved_54 rfl rfl (by decide) (Nat.le_of_ble_eq_true rfl) rfl rfl ?_
  refine ev_goto (tgt := 25) dX8_layMoved_57 rfl ?_
  refine ev_iload (pc' := 27) dX8_layMoved_25 rfl rfl ?_
  refine ev_bipush (pc' := 29) (v := 16) dX8_layMoved_27 rfl kb_16 ?_
  refine ev_icmp_ge (tgt := 60) (pc' := 32) dX8_layMoved_29 rfl rfl (fun h => absurd h (by decide)) (fun _ => ?_)
  refine ev_aload_n (pc' := 33) (i := 0) dX8_layMoved_32 rfl rfl rfl ?_
  refine ev_getR (pc' := 36) fo_X8_43 dX8_layMoved_33 rfl hs_115 rfl rf_115_15 ?_
  refine ev_iload (pc' := 38) dX8_layMoved_36 rfl rfl ?_
  refine ev_iload (pc' := 40) dX8_layMoved_38 rfl rfl ?_
  refine ev_aload_n (pc' := 41) (i := 0) dX8_layMoved_40 rfl rfl rfl ?_
  refine ev_getR (pc' := 44) fo_X8_37 dX8_layMoved_41 rfl hs_115 rfl rf_115_13 ?_
  refine ev_bipush (pc' := 46) (v := 16) dX8_layMoved_44 rfl kb_16 ?_
  refine ev_iload_n (pc' := 47) (i := 1) dX8_layMoved_46 rfl rfl rfl ?_
  refine ev_imul (pc' := 48) (v := nI (16 * q)) dX8_layMoved_47 rfl (pk_mul 16 q) ?_
  refine ev_iload (pc' := 50) dX8_layMoved_48 rfl rfl ?_
  refine ev_iadd (pc' := 51) (v := nI ((16 * q) + 11)) dX8_layMoved_50 rfl (nI_add (16 * q) 11) ?_
  refine ev_iald (pc' := 52) (j := (16 * q) + 11) (v := (I 123) ((16 * q) + 11)) dX8_layMoved_51 rfl hs_123 rfl (by omega) (Nat.le_of_ble_eq_true rfl) rfl ?_
  refine ev_imul (pc' := 53) (v := tn * ((I 123) ((16 * q) + 11))) dX8_layMoved_52 rfl rfl ?_
  refine ev_iast (pc' := 54) (j := 11) (I' := (ma_up I 125 (ma_up (ma_up (ma_up (ma_up (ma_up (ma_up (ma_up (ma_up (ma_up (ma_up (ma_up (ma_up (I 125) 0 (tn * ((I 123) ((16 * q) + 0)))) 1 (tn * ((I 123) ((16 * q) + 1)))) 2 (tn * ((I 123) ((16 * q) + 2)))) 3 (tn * ((I 123) ((16 * q) + 3)))) 4 (tn * ((I 123) ((16 * q) + 4)))) 5 (tn * ((I 123) ((16 * q) + 5)))) 6 (tn * ((I 123) ((16 * q) + 6)))) 7 (tn * ((I 123) ((16 * q) + 7)))) 8 (tn * ((I 123) ((16 * q) + 8)))) 9 (tn * ((I 123) ((16 * q) + 9)))) 10 (tn * ((I 123) ((16 * q) + 10)))) 11 (tn * ((I 123) ((16 * q) + 11)))))) dX8_layMoved_53 rfl hs_125 rfl (Nat.le_of_ble_eq_true rfl) (Nat.le_of_ble_eq_true rfl) (ma_up_up _ _ _ _) ?_
  refine ev_iinc (pc' := 57) (v := 12) (lv' := [some (.ref 115), some (.int (nI q)), some (.ref 134), some (.int x), some (.int y), some (.int z), some (.int tn), some (.int 12), none, none]) dX8_layMoved_54 rfl rfl (by decide) (Nat.le_of_ble_eq_true rfl) rfl rfl ?_
  refine ev_goto (tgt := 25) dX8_layMoved_57 rfl ?_
  refine ev_iload (pc' := 27) dX8_layMoved_25 rfl rfl ?_
  refine ev_bipush (pc' := 29) (v := 16) dX8_layMoved_27 rfl kb_16 ?_
  refine ev_icmp_ge (tgt := 60) (pc' := 32) dX8_layMoved_29 rfl rfl (fun h => absurd h (by decide)) (fun _ => ?_)
  refine ev_aload_n (pc' := 33) (i := 0) dX8_layMoved_32 rfl rfl rfl ?_
  refine ev_getR (pc' := 36) fo_X8_43 dX8_layMoved_33 rfl hs_115 rfl rf_115_15 ?_
  refine ev_iload (pc' := 38) dX8_layMoved_36 rfl rfl ?_
  refine ev_iload (pc' := 40) dX8_layMoved_38 rfl rfl ?_
  refine ev_aload_n (pc' := 41) (i := 0) dX8_layMoved_40 rfl rfl rfl ?_
  refine ev_getR (pc' := 44) fo_X8_37 dX8_layMoved_41 rfl hs_115 rfl rf_115_13 ?_
  refine ev_bipush (pc' := 46) (v := 16) dX8_layMoved_44 rfl kb_16 ?_
  refine ev_iload_n (pc' := 47) (i := 1) dX8_layMoved_46 rfl rfl rfl ?_
  refine ev_imul (pc' := 48) (v := nI (16 * q)) dX8_layMoved_47 rfl (pk_mul 16 q) ?_
  refine ev_iload (pc' := 50) dX8_layMoved_48 rfl rfl ?_
  refine ev_iadd (pc' := 51) (v := nI ((16 * q) + 12)) dX8_layMoved_50 rfl (nI_add (16 * q) 12) ?_
  refine ev_iald (pc' := 52) (j := (16 * q) + 12) (v := (I 123) ((16 * q) + 12)) dX8_layMoved_51 rfl hs_123 rfl (by omega) (Nat.le_of_ble_eq_true rfl) rfl ?_
  refine ev_imul (pc' := 53) (v := tn * ((I 123) ((16 * q) + 12))) dX8_layMoved_52 rfl rfl ?_
  refine ev_iast (pc' := 54) (j := 12) (I' := (ma_up I 125 (ma_up (ma_up (ma_up (ma_up (ma_up (ma_up (ma_up (ma_up (ma_up (ma_up (ma_up (ma_up (ma_up (I 125) 0 (tn * ((I 123) ((16 * q) + 0)))) 1 (tn * ((I 123) ((16 * q) + 1)))) 2 (tn * ((I 123) ((16 * q) + 2)))) 3 (tn * ((I 123) ((16 * q) + 3)))) 4 (tn * ((I 123) ((16 * q) + 4)))) 5 (tn * ((I 123) ((16 * q) + 5)))) 6 (tn * ((I 123) ((16 * q) + 6)))) 7 (tn * ((I 123) ((16 * q) + 7)))) 8 (tn * ((I 123) ((16 * q) + 8)))) 9 (tn * ((I 123) ((16 * q) + 9)))) 10 (tn * ((I 123) ((16 * q) + 10)))) 11 (tn * ((I 123) ((16 * q) + 11)))) 12 (tn * ((I 123) ((16 * q) + 12)))))) dX8_layMoved_53 rfl hs_125 rfl (Nat.le_of_ble_eq_true rfl) (Nat.le_of_ble_eq_true rfl) (ma_up_up _ _ _ _) ?_
  refine ev_iinc (pc' := 57) (v := 13) (lv' := [some (.ref 115), some (.int (nI q)), some (.ref 134), some (.int x), some (.int y), some (.int z), some (.int tn), some (.int 13), none, none]) dX8_layMoved_54 rfl rfl (by decide) (Nat.le_of_ble_eq_true rfl) rfl rfl ?_
  refine ev_goto (tgt := 25) dX8_layMoved_57 rfl ?_
  refine ev_iload (pc' := 27) dX8_layMoved_25 rfl rfl ?_
  refine ev_bipush (pc' := 29) (v := 16) dX8_layMoved_27 rfl kb_16 ?_
  refine ev_icmp_ge (tgt := 60) (pc' := 32) dX8_layMoved_29 rfl rfl (fun h => absurd h (by decide)) (fun _ => ?_)
  refine ev_aload_n (pc' := 33) (i := 0) dX8_layMoved_32 rfl rfl rfl ?_
  refine ev_getR (pc' := 36) fo_X8_43 dX8_layMoved_33 rfl hs_115 rfl rf_115_15 ?_
  refine ev_iload (pc' := 38) dX8_layMoved_36 rfl rfl ?_
  refine ev_iload (pc' := 40) dX8_layMoved_38 rfl rfl ?_
  refine ev_aload_n (pc' := 41) (i := 0) dX8_layMoved_40 rfl rfl rfl ?_
  refine ev_getR (pc' := 44) fo_X8_37 dX8_layMoved_41 rfl hs_115 rfl rf_115_13 ?_
  refine ev_bipush (pc' := 46) (v := 16) dX8_layMoved_44 rfl kb_16 ?_
  refine ev_iload_n (pc' := 47) (i := 1) dX8_layMoved_46 rfl rfl rfl ?_
  refine ev_imul (pc' := 48) (v := nI (16 * q)) dX8_layMoved_47 rfl (pk_mul 16 q) ?_
  refine ev_iload (pc' := 50) dX8_layMoved_48 rfl rfl ?_
  refine ev_iadd (pc' := 51) (v := nI ((16 * q) + 13)) dX8_layMoved_50 rfl (nI_add (16 * q) 13) ?_
  refine ev_iald (pc' := 52) (j := (16 * q) + 13) (v := (I 123) ((16 * q) + 13)) dX8_layMoved_51 rfl hs_123 rfl (by omega) (Nat.le_of_ble_eq_true rfl) rfl ?_
  refine ev_imul (pc' := 53) (v := tn * ((I 123) ((16 * q) + 13))) dX8_layMoved_52 rfl rfl ?_
  refine ev_iast (pc' := 54) (j := 13) (I' := (ma_up I 125 (ma_up (ma_up (ma_up (ma_up (ma_up (ma_up (ma_up (ma_up (ma_up (ma_up (ma_up (ma_up (ma_up (ma_up (I 125) 0 (tn * ((I 123) ((16 * q) + 0)))) 1 (tn * ((I 123) ((16 * q) + 1)))) 2 (tn * ((I 123) ((16 * q) + 2)))) 3 (tn * ((I 123) ((16 * q) + 3)))) 4 (tn * ((I 123) ((16 * q) + 4)))) 5 (tn * ((I 123) ((16 * q) + 5)))) 6 (tn * ((I 123) ((16 * q) + 6)))) 7 (tn * ((I 123) ((16 * q) + 7)))) 8 (tn * ((I 123) ((16 * q) + 8)))) 9 (tn * ((I 123) ((16 * q) + 9)))) 10 (tn * ((I 123) ((16 * q) + 10)))) 11 (tn * ((I 123) ((16 * q) + 11)))) 12 (tn * ((I 123) ((16 * q) + 12)))) 13 (tn * ((I 123) ((16 * q) + 13)))))) dX8_layMoved_53 rfl hs_125 rfl (Nat.le_of_ble_eq_true rfl) (Nat.le_of_ble_eq_true rfl) (ma_up_up _ _ _ _) ?_
  refine ev_iinc (pc' := 57) (v := 14) (lv' := [some (.ref 115), some (.int (nI q)), some (.ref 134), some (.int x), some (.int y), some (.int z), some (.int tn), some (.int 14), none, none]) dX8_layMoved_54 rfl rfl (by decide) (Nat.le_of_ble_eq_true rfl) rfl rfl ?_
  refine ev_goto (tgt := 25) dX8_layMoved_57 rfl ?_
  refine ev_iload (pc' := 27) dX8_layMoved_25 rfl rfl ?_
  refine ev_bipush (pc' := 29) (v := 16) dX8_layMoved_27 rfl kb_16 ?_
  refine ev_icmp_ge (tgt := 60) (pc' := 32) dX8_layMoved_29 rfl rfl (fun h => absurd h (by decide)) (fun _ => ?_)
  refine ev_aload_n (pc' := 33) (i := 0) dX8_layMoved_32 rfl rfl rfl ?_
  refine ev_getR (pc' := 36) fo_X8_43 dX8_layMoved_33 rfl hs_115 rfl rf_115_15 ?_
  refine ev_iload (pc' := 38) dX8_layMoved_36 rfl rfl ?_
  refine ev_iload (pc' := 40) dX8_layMoved_38 rfl rfl ?_
  refine ev_aload_n (pc' := 41) (i := 0) dX8_layMoved_40 rfl rfl rfl ?_
  refine ev_getR (pc' := 44) fo_X8_37 dX8_layMoved_41 rfl hs_115 rfl rf_115_13 ?_
  refine ev_bipush (pc' := 46) (v := 16) dX8_layMoved_44 rfl kb_16 ?_
  refine ev_iload_n (pc' := 47) (i := 1) dX8_layMoved_46 rfl rfl rfl ?_
  refine ev_imul (pc' := 48) (v := nI (16 * q)) dX8_layMoved_47 rfl (pk_mul 16 q) ?_
  refine ev_iload (pc' := 50) dX8_layMoved_48 rfl rfl ?_
  refine ev_iadd (pc' := 51) (v := nI ((16 * q) + 14)) dX8_layMoved_50 rfl (nI_add (16 * q) 14) ?_
  refine ev_iald (pc' := 52) (j := (16 * q) + 14) (v := (I 123) ((16 * q) + 14)) dX8_layMoved_51 rfl hs_123 rfl (by omega) (Nat.le_of_ble_eq_true rfl) rfl ?_
  refine ev_imul (pc' := 53) (v := tn * ((I 123) ((16 * q) + 14))) dX8_layMoved_52 rfl rfl ?_
  refine ev_iast (pc' := 54) (j := 14) (I' := (ma_up I 125 (ma_up (ma_up (ma_up (ma_up (ma_up (ma_up (ma_up (ma_up (ma_up (ma_up (ma_up (ma_up (ma_up (ma_up (ma_up (I 125) 0 (tn * ((I 123) ((16 * q) + 0)))) 1 (tn * ((I 123) ((16 * q) + 1)))) 2 (tn * ((I 123) ((16 * q) + 2)))) 3 (tn * ((I 123) ((16 * q) + 3)))) 4 (tn * ((I 123) ((16 * q) + 4)))) 5 (tn * ((I 123) ((16 * q) + 5)))) 6 (tn * ((I 123) ((16 * q) + 6)))) 7 (tn * ((I 123) ((16 * q) + 7)))) 8 (tn * ((I 123) ((16 * q) + 8)))) 9 (tn * ((I 123) ((16 * q) + 9)))) 10 (tn * ((I 123) ((16 * q) + 10)))) 11 (tn * ((I 123) ((16 * q) + 11)))) 12 (tn * ((I 123) ((16 * q) + 12)))) 13 (tn * ((I 123) ((16 * q) + 13)))) 14 (tn * ((I 123) ((16 * q) + 14)))))) dX8_layMoved_53 rfl hs_125 rfl (Nat.le_of_ble_eq_true rfl) (Nat.le_of_ble_eq_true rfl) (ma_up_up _ _ _ _) ?_
  refine ev_iinc (pc' := 57) (v := 15) (lv' := [some (.ref 115), some (.int (nI q)), some (.ref 134), some (.int x), some (.int y), some (.int z), some (.int tn), some (.int 15), none, none]) dX8_layMoved_54 rfl rfl (by decide) (Nat.le_of_ble_eq_true rfl) rfl rfl ?_
  refine ev_goto (tgt := 25) dX8_layMoved_57 rfl ?_
  refine ev_iload (pc' := 27) dX8_layMoved_25 rfl rfl ?_
  refine ev_bipush (pc' := 29) (v := 16) dX8_layMoved_27 rfl kb_16 ?_
  refine ev_icmp_ge (tgt := 60) (pc' := 32) dX8_layMoved_29 rfl rfl (fun h => absurd h (by decide)) (fun _ => ?_)
  refine ev_aload_n (pc' := 33) (i := 0) dX8_layMoved_32 rfl rfl rfl ?_
  refine ev_getR (pc' := 36) fo_X8_43 dX8_layMoved_33 rfl hs_115 rfl rf_115_15 ?_
  refine ev_iload (pc' := 38) dX8_layMoved_36 rfl rfl ?_
  refine ev_iload (pc' := 40) dX8_layMoved_38 rfl rfl ?_
  refine ev_aload_n (pc' := 41) (i := 0) dX8_layMoved_40 rfl rfl rfl ?_
  refine ev_getR (pc' := 44) fo_X8_37 dX8_layMoved_41 rfl hs_115 rfl rf_115_13 ?_
  refine ev_bipush (pc' := 46) (v := 16) dX8_layMoved_44 rfl kb_16 ?_
  refine ev_iload_n (pc' := 47) (i := 1) dX8_layMoved_46 rfl rfl rfl ?_
  refine ev_imul (pc' := 48) (v := nI (16 * q)) dX8_layMoved_47 rfl (pk_mul 16 q) ?_
  refine ev_iload (pc' := 50) dX8_layMoved_48 rfl rfl ?_
  refine ev_iadd (pc' := 51) (v := nI ((16 * q) + 15)) dX8_layMoved_50 rfl (nI_add (16 * q) 15) ?_
  refine ev_iald (pc' := 52) (j := (16 * q) + 15) (v := (I 123) ((16 * q) + 15)) dX8_layMoved_51 rfl hs_123 rfl (by omega) (Nat.le_of_ble_eq_true rfl) rfl ?_
  refine ev_imul (pc' := 53) (v := tn * ((I 123) ((16 * q) + 15))) dX8_layMoved_52 rfl rfl ?_
  refine ev_iast (pc' := 54) (j := 15) (I' := (ma_up I 125 (ma_up (ma_up (ma_up (ma_up (ma_up (ma_up (ma_up (ma_up (ma_up (ma_up (ma_up (ma_up (ma_up (ma_up (ma_up (ma_up (I 125) 0 (tn * ((I 123) ((16 * q) + 0)))) 1 (tn * ((I 123) ((16 * q) + 1)))) 2 (tn * ((I 123) ((16 * q) + 2)))) 3 (tn * ((I 123) ((16 * q) + 3)))) 4 (tn * ((I 123) ((16 * q) + 4)))) 5 (tn * ((I 123) ((16 * q) + 5)))) 6 (tn * ((I 123) ((16 * q) + 6)))) 7 (tn * ((I 123) ((16 * q) + 7)))) 8 (tn * ((I 123) ((16 * q) + 8)))) 9 (tn * ((I 123) ((16 * q) + 9)))) 10 (tn * ((I 123) ((16 * q) + 10)))) 11 (tn * ((I 123) ((16 * q) + 11)))) 12 (tn * ((I 123) ((16 * q) + 12)))) 13 (tn * ((I 123) ((16 * q) + 13)))) 14 (tn * ((I 123) ((16 * q) + 14)))) 15 (tn * ((I 123) ((16 * q) + 15)))))) dX8_layMoved_53 rfl hs_125 rfl (Nat.le_of_ble_eq_true rfl) (Nat.le_of_ble_eq_true rfl) (ma_up_up _ _ _ _) ?_
  refine ev_iinc (pc' := 57) (v := 16) (lv' := [some (.ref 115), some (.int (nI q)), some (.ref 134), some (.int x), some (.int y), some (.int z), some (.int tn), some (.int 16), none, none]) dX8_layMoved_54 rfl rfl (by decide) (Nat.le_of_ble_eq_true rfl) rfl rfl ?_
  refine ev_goto (tgt := 25) dX8_layMoved_57 rfl ?_
  refine ev_iload (pc' := 27) dX8_layMoved_25 rfl rfl ?_
  refine ev_bipush (pc' := 29) (v := 16) dX8_layMoved_27 rfl kb_16 ?_
  refine ev_icmp_ge (tgt := 60) (pc' := 32) dX8_layMoved_29 rfl rfl (fun _ => ?_) (fun h => absurd (by decide) h)
  refine ev_iconst (pc' := 61) (v := 0) dX8_layMoved_60 rfl ki_0 ?_
  refine ev_istore (pc' := 63) (lv' := [some (.ref 115), some (.int (nI q)), some (.ref 134), some (.int x), some (.int y), some (.int z), some (.int tn), some (.int 0), none, none]) dX8_layMoved_61 rfl (Nat.le_of_ble_eq_true rfl) rfl rfl ?_
  refine ev_iload (pc' := 65) dX8_layMoved_63 rfl rfl ?_
  refine ev_iconst (pc' := 66) (v := 3) dX8_layMoved_65 rfl ki_3 ?_
  refine ev_icmp_ge (tgt := 191) (pc' := 69) dX8_layMoved_66 rfl rfl (fun h => absurd h (by decide)) (fun _ => ?_)
  refine ev_aload_n (pc' := 70) (i := 0) dX8_layMoved_69 rfl rfl rfl ?_
  refine ev_getR (pc' := 73) fo_X8_43 dX8_layMoved_70 rfl hs_115 rfl rf_115_15 ?_
  refine ev_iconst (pc' := 74) (v := 4) dX8_layMoved_73 rfl ki_4 ?_
  refine ev_iload (pc' := 76) dX8_layMoved_74 rfl rfl ?_
  refine ev_imul (pc' := 77) (v := 0) dX8_layMoved_76 rfl (by decide) ?_
  refine ev_iald (pc' := 78) (j := 0) (v := tn * ((I 123) ((16 * q) + 0))) dX8_layMoved_77 rfl hs_125 rfl (Nat.le_of_ble_eq_true rfl) (Nat.le_of_ble_eq_true rfl) rfl ?_
  refine ev_iload_n (pc' := 79) (i := 3) dX8_layMoved_78 rfl rfl rfl ?_
  refine ev_imul (pc' := 80) (v := (tn * ((I 123) ((16 * q) + 0))) * x) dX8_layMoved_79 rfl rfl ?_
  refine ev_aload_n (pc' := 81) (i := 0) dX8_layMoved_80 rfl rfl rfl ?_
  refine ev_getR (pc' := 84) fo_X8_43 dX8_layMoved_81 rfl hs_115 rfl rf_115_15 ?_
  refine ev_iconst (pc' := 85) (v := 4) dX8_layMoved_84 rfl ki_4 ?_
  refine ev_iload (pc' := 87) dX8_layMoved_85 rfl rfl ?_
  refine ev_imul (pc' := 88) (v := 0) dX8_layMoved_87 rfl (by decide) ?_
  refine ev_iconst (pc' := 89) (v := 1) dX8_layMoved_88 rfl ki_1 ?_
  refine ev_iadd (pc' := 90) (v := 1) dX8_layMoved_89 rfl (by decide) ?_
  refine ev_iald (pc' := 91) (j := 1) (v := tn * ((I 123) ((16 * q) + 1))) dX8_layMoved_90 rfl hs_125 rfl (Nat.le_of_ble_eq_true rfl) (Nat.le_of_ble_eq_true rfl) rfl ?_
  refine ev_iload (pc' := 93) dX8_layMoved_91 rfl rfl ?_
  refine ev_imul (pc' := 94) (v := (tn * ((I 123) ((16 * q) + 1))) * y) dX8_layMoved_93 rfl rfl ?_
  refine ev_iadd (pc' := 95) (v := ((tn * ((I 123) ((16 * q) + 0))) * x) + ((tn * ((I 123) ((16 * q) + 1))) * y)) dX8_layMoved_94 rfl rfl ?_
  refine ev_aload_n (pc' := 96) (i := 0) dX8_layMoved_95 rfl rfl rfl ?_
  refine ev_getR (pc' := 99) fo_X8_43 dX8_layMoved_96 rfl hs_115 rfl rf_115_15 ?_
  refine ev_iconst (pc' := 100) (v := 4) dX8_layMoved_99 rfl ki_4 ?_
  refine ev_iload (pc' := 102) dX8_layMoved_100 rfl rfl ?_
  refine ev_imul (pc' := 103) (v := 0) dX8_layMoved_102 rfl (by decide) ?_
  refine ev_iconst (pc' := 104) (v := 2) dX8_layMoved_103 rfl ki_2 ?_
  refine ev_iadd (pc' := 105) (v := 2) dX8_layMoved_104 rfl (by decide) ?_
  refine ev_iald (pc' := 106) (j := 2) (v := tn * ((I 123) ((16 * q) + 2))) dX8_layMoved_105 rfl hs_125 rfl (Nat.le_of_ble_eq_true rfl) (Nat.le_of_ble_eq_true rfl) rfl ?_
  refine ev_iload (pc' := 108) dX8_layMoved_106 rfl rfl ?_
  refine ev_imul (pc' := 109) (v := (tn * ((I 123) ((16 * q) + 2))) * z) dX8_layMoved_108 rfl rfl ?_
  refine ev_iadd (pc' := 110) (v := (((tn * ((I 123) ((16 * q) + 0))) * x) + ((tn * ((I 123) ((16 * q) + 1))) * y)) + ((tn * ((I 123) ((16 * q) + 2))) * z)) dX8_layMoved_109 rfl rfl ?_
  refine ev_istore (pc' := 112) (lv' := [some (.ref 115), some (.int (nI q)), some (.ref 134), some (.int x), some (.int y), some (.int z), some (.int tn), some (.int 0), some (.int ((((tn * ((I 123) ((16 * q) + 0))) * x) + ((tn * ((I 123) ((16 * q) + 1))) * y)) + ((tn * ((I 123) ((16 * q) + 2))) * z))), none]) dX8_layMoved_110 rfl (Nat.le_of_ble_eq_true rfl) rfl rfl ?_
  refine ev_aload_n (pc' := 113) (i := 2) dX8_layMoved_112 rfl rfl rfl ?_
  refine ev_iconst (pc' := 114) (v := 4) dX8_layMoved_113 rfl ki_4 ?_
  refine ev_iload (pc' := 116) dX8_layMoved_114 rfl rfl ?_
  refine ev_imul (pc' := 117) (v := 0) dX8_layMoved_116 rfl (by decide) ?_
  refine ev_iconst (pc' := 118) (v := 3) dX8_layMoved_117 rfl ki_3 ?_
  refine ev_iadd (pc' := 119) (v := 3) dX8_layMoved_118 rfl (by decide) ?_
  refine ev_aload_n (pc' := 120) (i := 0) dX8_layMoved_119 rfl rfl rfl ?_
  refine ev_getR (pc' := 123) fo_X8_43 dX8_layMoved_120 rfl hs_115 rfl rf_115_15 ?_
  refine ev_iconst (pc' := 124) (v := 4) dX8_layMoved_123 rfl ki_4 ?_
  refine ev_iload (pc' := 126) dX8_layMoved_124 rfl rfl ?_
  refine ev_imul (pc' := 127) (v := 0) dX8_layMoved_126 rfl (by decide) ?_
  refine ev_iconst (pc' := 128) (v := 3) dX8_layMoved_127 rfl ki_3 ?_
  refine ev_iadd (pc' := 129) (v := 3) dX8_layMoved_128 rfl (by decide) ?_
  refine ev_iald (pc' := 130) (j := 3) (v := tn * ((I 123) ((16 * q) + 3))) dX8_layMoved_129 rfl hs_125 rfl (Nat.le_of_ble_eq_true rfl) (Nat.le_of_ble_eq_true rfl) rfl ?_
  refine ev_iload (pc' := 132) dX8_layMoved_130 rfl rfl ?_
  refine ev_isub (pc' := 133) (v := (tn * ((I 123) ((16 * q) + 3))) - ((((tn * ((I 123) ((16 * q) + 0))) * x) + ((tn * ((I 123) ((16 * q) + 1))) * y)) + ((tn * ((I 123) ((16 * q) + 2))) * z))) dX8_layMoved_132 rfl rfl ?_
  refine ev_iast (pc' := 134) (j := 3) (I' := (ma_up (ma_up I 125 (ma_up (ma_up (ma_up (ma_up (ma_up (ma_up (ma_up (ma_up (ma_up (ma_up (ma_up (ma_up (ma_up (ma_up (ma_up (ma_up (I 125) 0 (tn * ((I 123) ((16 * q) + 0)))) 1 (tn * ((I 123) ((16 * q) + 1)))) 2 (tn * ((I 123) ((16 * q) + 2)))) 3 (tn * ((I 123) ((16 * q) + 3)))) 4 (tn * ((I 123) ((16 * q) + 4)))) 5 (tn * ((I 123) ((16 * q) + 5)))) 6 (tn * ((I 123) ((16 * q) + 6)))) 7 (tn * ((I 123) ((16 * q) + 7)))) 8 (tn * ((I 123) ((16 * q) + 8)))) 9 (tn * ((I 123) ((16 * q) + 9)))) 10 (tn * ((I 123) ((16 * q) + 10)))) 11 (tn * ((I 123) ((16 * q) + 11)))) 12 (tn * ((I 123) ((16 * q) + 12)))) 13 (tn * ((I 123) ((16 * q) + 13)))) 14 (tn * ((I 123) ((16 * q) + 14)))) 15 (tn * ((I 123) ((16 * q) + 15))))) 134 (ma_up (I 134) 3 ((tn * ((I 123) ((16 * q) + 3))) - ((((tn * ((I 123) ((16 * q) + 0))) * x) + ((tn * ((I 123) ((16 * q) + 1))) * y)) + ((tn * ((I 123) ((16 * q) + 2))) * z)))))) dX8_layMoved_133 rfl hs_134 rfl (Nat.le_of_ble_eq_true rfl) (Nat.le_of_ble_eq_true rfl) rfl ?_
  refine ev_aload_n (pc' := 135) (i := 2) dX8_layMoved_134 rfl rfl rfl ?_
  refine ev_bipush (pc' := 137) (v := 12) dX8_layMoved_135 rfl kb_12 ?_
  refine ev_iload (pc' := 139) dX8_layMoved_137 rfl rfl ?_
  refine ev_iadd (pc' := 140) (v := 12) dX8_layMoved_139 rfl (by decide) ?_
  refine ev_aload_n (pc' := 141) (i := 2) dX8_layMoved_140 rfl rfl rfl ?_
  refine ev_iconst (pc' := 142) (v := 4) dX8_layMoved_141 rfl ki_4 ?_
  refine ev_iload (pc' := 144) dX8_layMoved_142 rfl rfl ?_
  refine ev_imul (pc' := 145) (v := 0) dX8_layMoved_144 rfl (by decide) ?_
  refine ev_iconst (pc' := 146) (v := 3) dX8_layMoved_145 rfl ki_3 ?_
  refine ev_iadd (pc' := 147) (v := 3) dX8_layMoved_146 rfl (by decide) ?_
  refine ev_iald (pc' := 148) (j := 3) (v := (tn * ((I 123) ((16 * q) + 3))) - ((((tn * ((I 123) ((16 * q) + 0))) * x) + ((tn * ((I 123) ((16 * q) + 1))) * y)) + ((tn * ((I 123) ((16 * q) + 2))) * z))) dX8_layMoved_147 rfl hs_134 rfl (Nat.le_of_ble_eq_true rfl) (Nat.le_of_ble_eq_true rfl) rfl ?_
  refine ev_iast (pc' := 149) (j := 12) (I' := (ma_up (ma_up I 125 (ma_up (ma_up (ma_up (ma_up (ma_up (ma_up (ma_up (ma_up (ma_up (ma_up (ma_up (ma_up (ma_up (ma_up (ma_up (ma_up (I 125) 0 (tn * ((I 123) ((16 * q) + 0)))) 1 (tn * ((I 123) ((16 * q) + 1)))) 2 (tn * ((I 123) ((16 * q) + 2)))) 3 (tn * ((I 123) ((16 * q) + 3)))) 4 (tn * ((I 123) ((16 * q) + 4)))) 5 (tn * ((I 123) ((16 * q) + 5)))) 6 (tn * ((I 123) ((16 * q) + 6)))) 7 (tn * ((I 123) ((16 * q) + 7)))) 8 (tn * ((I 123) ((16 * q) + 8)))) 9 (tn * ((I 123) ((16 * q) + 9)))) 10 (tn * ((I 123) ((16 * q) + 10)))) 11 (tn * ((I 123) ((16 * q) + 11)))) 12 (tn * ((I 123) ((16 * q) + 12)))) 13 (tn * ((I 123) ((16 * q) + 13)))) 14 (tn * ((I 123) ((16 * q) + 14)))) 15 (tn * ((I 123) ((16 * q) + 15))))) 134 (ma_up (ma_up (I 134) 3 ((tn * ((I 123) ((16 * q) + 3))) - ((((tn * ((I 123) ((16 * q) + 0))) * x) + ((tn * ((I 123) ((16 * q) + 1))) * y)) + ((tn * ((I 123) ((16 * q) + 2))) * z)))) 12 ((tn * ((I 123) ((16 * q) + 3))) - ((((tn * ((I 123) ((16 * q) + 0))) * x) + ((tn * ((I 123) ((16 * q) + 1))) * y)) + ((tn * ((I 123) ((16 * q) + 2))) * z)))))) dX8_layMoved_148 rfl hs_134 rfl (Nat.le_of_ble_eq_true rfl) (Nat.le_of_ble_eq_true rfl) (ma_up_up _ _ _ _) ?_
  refine ev_iconst (pc' := 150) (v := 0) dX8_layMoved_149 rfl ki_0 ?_
  refine ev_istore (pc' := 152) (lv' := [some (.ref 115), some (.int (nI q)), some (.ref 134), some (.int x), some (.int y), some (.int z), some (.int tn), some (.int 0), some (.int ((((tn * ((I 123) ((16 * q) + 0))) * x) + ((tn * ((I 123) ((16 * q) + 1))) * y)) + ((tn * ((I 123) ((16 * q) + 2))) * z))), some (.int 0)]) dX8_layMoved_150 rfl (Nat.le_of_ble_eq_true rfl) rfl rfl ?_
  refine ev_iload (pc' := 154) dX8_layMoved_152 rfl rfl ?_
  refine ev_iconst (pc' := 155) (v := 3) dX8_layMoved_154 rfl ki_3 ?_
  refine ev_icmp_ge (tgt := 185) (pc' := 158) dX8_layMoved_155 rfl rfl (fun h => absurd h (by decide)) (fun _ => ?_)
  refine ev_aload_n (pc' := 159) (i := 2) dX8_layMoved_158 rfl rfl rfl ?_
  refine ev_iconst (pc' := 160) (v := 4) dX8_layMoved_159 rfl ki_4 ?_
  refine ev_iload (pc' := 162) dX8_layMoved_160 rfl rfl ?_
  refine ev_imul (pc' := 163) (v := 0) dX8_layMoved_162 rfl (by decide) ?_
  refine ev_iload (pc' := 165) dX8_layMoved_163 rfl rfl ?_
  refine ev_iadd (pc' := 166) (v := 0) dX8_layMoved_165 rfl (by decide) ?_
  refine ev_aload_n (pc' := 167) (i := 0) dX8_layMoved_166 rfl rfl rfl ?_
  refine ev_getR (pc' := 170) fo_X8_43 dX8_layMoved_167 rfl hs_115 rfl rf_115_15 ?_
  refine ev_iconst (pc' := 171) (v := 4) dX8_layMoved_170 rfl ki_4 ?_
  refine ev_iload (pc' := 173) dX8_layMoved_171 rfl rfl ?_
  refine ev_imul (pc' := 174) (v := 0) dX8_layMoved_173 rfl (by decide) ?_
  refine ev_iload (pc' := 176) dX8_layMoved_174 rfl rfl ?_
  refine ev_iadd (pc' := 177) (v := 0) dX8_layMoved_176 rfl (by decide) ?_
  refine ev_iald (pc' := 178) (j := 0) (v := tn * ((I 123) ((16 * q) + 0))) dX8_layMoved_177 rfl hs_125 rfl (Nat.le_of_ble_eq_true rfl) (Nat.le_of_ble_eq_true rfl) rfl ?_
  refine ev_iast (pc' := 179) (j := 0) (I' := (ma_up (ma_up I 125 (ma_up (ma_up (ma_up (ma_up (ma_up (ma_up (ma_up (ma_up (ma_up (ma_up (ma_up (ma_up (ma_up (ma_up (ma_up (ma_up (I 125) 0 (tn * ((I 123) ((16 * q) + 0)))) 1 (tn * ((I 123) ((16 * q) + 1)))) 2 (tn * ((I 123) ((16 * q) + 2)))) 3 (tn * ((I 123) ((16 * q) + 3)))) 4 (tn * ((I 123) ((16 * q) + 4)))) 5 (tn * ((I 123) ((16 * q) + 5)))) 6 (tn * ((I 123) ((16 * q) + 6)))) 7 (tn * ((I 123) ((16 * q) + 7)))) 8 (tn * ((I 123) ((16 * q) + 8)))) 9 (tn * ((I 123) ((16 * q) + 9)))) 10 (tn * ((I 123) ((16 * q) + 10)))) 11 (tn * ((I 123) ((16 * q) + 11)))) 12 (tn * ((I 123) ((16 * q) + 12)))) 13 (tn * ((I 123) ((16 * q) + 13)))) 14 (tn * ((I 123) ((16 * q) + 14)))) 15 (tn * ((I 123) ((16 * q) + 15))))) 134 (ma_up (ma_up (ma_up (I 134) 3 ((tn * ((I 123) ((16 * q) + 3))) - ((((tn * ((I 123) ((16 * q) + 0))) * x) + ((tn * ((I 123) ((16 * q) + 1))) * y)) + ((tn * ((I 123) ((16 * q) + 2))) * z)))) 12 ((tn * ((I 123) ((16 * q) + 3))) - ((((tn * ((I 123) ((16 * q) + 0))) * x) + ((tn * ((I 123) ((16 * q) + 1))) * y)) + ((tn * ((I 123) ((16 * q) + 2))) * z)))) 0 (tn * ((I 123) ((16 * q) + 0)))))) dX8_layMoved_178 rfl hs_134 rfl (Nat.le_of_ble_eq_true rfl) (Nat.le_of_ble_eq_true rfl) (ma_up_up _ _ _ _) ?_
  refine ev_iinc (pc' := 182) (v := 1) (lv' := [some (.ref 115), some (.int (nI q)), some (.ref 134), some (.int x), some (.int y), some (.int z), some (.int tn), some (.int 0), some (.int ((((tn * ((I 123) ((16 * q) + 0))) * x) + ((tn * ((I 123) ((16 * q) + 1))) * y)) + ((tn * ((I 123) ((16 * q) + 2))) * z))), some (.int 1)]) dX8_layMoved_179 rfl rfl (by decide) (Nat.le_of_ble_eq_true rfl) rfl rfl ?_
  refine ev_goto (tgt := 152) dX8_layMoved_182 rfl ?_
  refine ev_iload (pc' := 154) dX8_layMoved_152 rfl rfl ?_
  refine ev_iconst (pc' := 155) (v := 3) dX8_layMoved_154 rfl ki_3 ?_
  refine ev_icmp_ge (tgt := 185) (pc' := 158) dX8_layMoved_155 rfl rfl (fun h => absurd h (by decide)) (fun _ => ?_)
  refine ev_aload_n (pc' := 159) (i := 2) dX8_layMoved_158 rfl rfl rfl ?_
  refine ev_iconst (pc' := 160) (v := 4) dX8_layMoved_159 rfl ki_4 ?_
  refine ev_iload (pc' := 162) dX8_layMoved_160 rfl rfl ?_
  refine ev_imul (pc' := 163) (v := 0) dX8_layMoved_162 rfl (by decide) ?_
  refine ev_iload (pc' := 165) dX8_layMoved_163 rfl rfl ?_
  refine ev_iadd (pc' := 166) (v := 1) dX8_layMoved_165 rfl (by decide) ?_
  refine ev_aload_n (pc' := 167) (i := 0) dX8_layMoved_166 rfl rfl rfl ?_
  refine ev_getR (pc' := 170) fo_X8_43 dX8_layMoved_167 rfl hs_115 rfl rf_115_15 ?_
  refine ev_iconst (pc' := 171) (v := 4) dX8_layMoved_170 rfl ki_4 ?_
  refine ev_iload (pc' := 173) dX8_layMoved_171 rfl rfl ?_
  refine ev_imul (pc' := 174) (v := 0) dX8_layMoved_173 rfl (by decide) ?_
  refine ev_iload (pc' := 176) dX8_layMoved_174 rfl rfl ?_
  refine ev_iadd (pc' := 177) (v := 1) dX8_layMoved_176 rfl (by decide) ?_
  refine ev_iald (pc' := 178) (j := 1) (v := tn * ((I 123) ((16 * q) + 1))) dX8_layMoved_177 rfl hs_125 rfl (Nat.le_of_ble_eq_true rfl) (Nat.le_of_ble_eq_true rfl) rfl ?_
  refine ev_iast (pc' := 179) (j := 1) (I' := (ma_up (ma_up I 125 (ma_up (ma_up (ma_up (ma_up (ma_up (ma_up (ma_up (ma_up (ma_up (ma_up (ma_up (ma_up (ma_up (ma_up (ma_up (ma_up (I 125) 0 (tn * ((I 123) ((16 * q) + 0)))) 1 (tn * ((I 123) ((16 * q) + 1)))) 2 (tn * ((I 123) ((16 * q) + 2)))) 3 (tn * ((I 123) ((16 * q) + 3)))) 4 (tn * ((I 123) ((16 * q) + 4)))) 5 (tn * ((I 123) ((16 * q) + 5)))) 6 (tn * ((I 123) ((16 * q) + 6)))) 7 (tn * ((I 123) ((16 * q) + 7)))) 8 (tn * ((I 123) ((16 * q) + 8)))) 9 (tn * ((I 123) ((16 * q) + 9)))) 10 (tn * ((I 123) ((16 * q) + 10)))) 11 (tn * ((I 123) ((16 * q) + 11)))) 12 (tn * ((I 123) ((16 * q) + 12)))) 13 (tn * ((I 123) ((16 * q) + 13)))) 14 (tn * ((I 123) ((16 * q) + 14)))) 15 (tn * ((I 123) ((16 * q) + 15))))) 134 (ma_up (ma_up (ma_up (ma_up (I 134) 3 ((tn * ((I 123) ((16 * q) + 3))) - ((((tn * ((I 123) ((16 * q) + 0))) * x) + ((tn * ((I 123) ((16 * q) + 1))) * y)) + ((tn * ((I 123) ((16 * q) + 2))) * z)))) 12 ((tn * ((I 123) ((16 * q) + 3))) - ((((tn * ((I 123) ((16 * q) + 0))) * x) + ((tn * ((I 123) ((16 * q) + 1))) * y)) + ((tn * ((I 123) ((16 * q) + 2))) * z)))) 0 (tn * ((I 123) ((16 * q) + 0)))) 1 (tn * ((I 123) ((16 * q) + 1)))))) dX8_layMoved_178 rfl hs_134 rfl (Nat.le_of_ble_eq_true rfl) (Nat.le_of_ble_eq_true rfl) (ma_up_up _ _ _ _) ?_
  refine ev_iinc (pc' := 182) (v := 2) (lv' := [some (.ref 115), some (.int (nI q)), some (.ref 134), some (.int x), some (.int y), some (.int z), some (.int tn), some (.int 0), some (.int ((((tn * ((I 123) ((16 * q) + 0))) * x) + ((tn * ((I 123) ((16 * q) + 1))) * y)) + ((tn * ((I 123) ((16 * q) + 2))) * z))), some (.int 2)]) dX8_layMoved_179 rfl rfl (by decide) (Nat.le_of_ble_eq_true rfl) rfl rfl ?_
  refine ev_goto (tgt := 152) dX8_layMoved_182 rfl ?_
  refine ev_iload (pc' := 154) dX8_layMoved_152 rfl rfl ?_
  refine ev_iconst (pc' := 155) (v := 3) dX8_layMoved_154 rfl ki_3 ?_
  refine ev_icmp_ge (tgt := 185) (pc' := 158) dX8_layMoved_155 rfl rfl (fun h => absurd h (by decide)) (fun _ => ?_)
  refine ev_aload_n (pc' := 159) (i := 2) dX8_layMoved_158 rfl rfl rfl ?_
  refine ev_iconst (pc' := 160) (v := 4) dX8_layMoved_159 rfl ki_4 ?_
  refine ev_iload (pc' := 162) dX8_layMoved_160 rfl rfl ?_
  refine ev_imul (pc' := 163) (v := 0) dX8_layMoved_162 rfl (by decide) ?_
  refine ev_iload (pc' := 165) dX8_layMoved_163 rfl rfl ?_
  refine ev_iadd (pc' := 166) (v := 2) dX8_layMoved_165 rfl (by decide) ?_
  refine ev_aload_n (pc' := 167) (i := 0) dX8_layMoved_166 rfl rfl rfl ?_
  refine ev_getR (pc' := 170) fo_X8_43 dX8_layMoved_167 rfl hs_115 rfl rf_115_15 ?_
  refine ev_iconst (pc' := 171) (v := 4) dX8_layMoved_170 rfl ki_4 ?_
  refine ev_iload (pc' := 173) dX8_layMoved_171 rfl rfl ?_
  refine ev_imul (pc' := 174) (v := 0) dX8_layMoved_173 rfl (by decide) ?_
  refine ev_iload (pc' := 176) dX8_layMoved_174 rfl rfl ?_
  refine ev_iadd (pc' := 177) (v := 2) dX8_layMoved_176 rfl (by decide) ?_
  refine ev_iald (pc' := 178) (j := 2) (v := tn * ((I 123) ((16 * q) + 2))) dX8_layMoved_177 rfl hs_125 rfl (Nat.le_of_ble_eq_true rfl) (Nat.le_of_ble_eq_true rfl) rfl ?_
  refine ev_iast (pc' := 179) (j := 2) (I' := (ma_up (ma_up I 125 (ma_up (ma_up (ma_up (ma_up (ma_up (ma_up (ma_up (ma_up (ma_up (ma_up (ma_up (ma_up (ma_up (ma_up (ma_up (ma_up (I 125) 0 (tn * ((I 123) ((16 * q) + 0)))) 1 (tn * ((I 123) ((16 * q) + 1)))) 2 (tn * ((I 123) ((16 * q) + 2)))) 3 (tn * ((I 123) ((16 * q) + 3)))) 4 (tn * ((I 123) ((16 * q) + 4)))) 5 (tn * ((I 123) ((16 * q) + 5)))) 6 (tn * ((I 123) ((16 * q) + 6)))) 7 (tn * ((I 123) ((16 * q) + 7)))) 8 (tn * ((I 123) ((16 * q) + 8)))) 9 (tn * ((I 123) ((16 * q) + 9)))) 10 (tn * ((I 123) ((16 * q) + 10)))) 11 (tn * ((I 123) ((16 * q) + 11)))) 12 (tn * ((I 123) ((16 * q) + 12)))) 13 (tn * ((I 123) ((16 * q) + 13)))) 14 (tn * ((I 123) ((16 * q) + 14)))) 15 (tn * ((I 123) ((16 * q) + 15))))) 134 (ma_up (ma_up (ma_up (ma_up (ma_up (I 134) 3 ((tn * ((I 123) ((16 * q) + 3))) - ((((tn * ((I 123) ((16 * q) + 0))) * x) + ((tn * ((I 123) ((16 * q) + 1))) * y)) + ((tn * ((I 123) ((16 * q) + 2))) * z)))) 12 ((tn * ((I 123) ((16 * q) + 3))) - ((((tn * ((I 123) ((16 * q) + 0))) * x) + ((tn * ((I 123) ((16 * q) + 1))) * y)) + ((tn * ((I 123) ((16 * q) + 2))) * z)))) 0 (tn * ((I 123) ((16 * q) + 0)))) 1 (tn * ((I 123) ((16 * q) + 1)))) 2 (tn * ((I 123) ((16 * q) + 2)))))) dX8_layMoved_178 rfl hs_134 rfl (Nat.le_of_ble_eq_true rfl) (Nat.le_of_ble_eq_true rfl) (ma_up_up _ _ _ _) ?_
  refine ev_iinc (pc' := 182) (v := 3) (lv' := [some (.ref 115), some (.int (nI q)), some (.ref 134), some (.int x), some (.int y), some (.int z), some (.int tn), some (.int 0), some (.int ((((tn * ((I 123) ((16 * q) + 0))) * x) + ((tn * ((I 123) ((16 * q) + 1))) * y)) + ((tn * ((I 123) ((16 * q) + 2))) * z))), some (.int 3)]) dX8_layMoved_179 rfl rfl (by decide) (Nat.le_of_ble_eq_true rfl) rfl rfl ?_
  refine ev_goto (tgt := 152) dX8_layMoved_182 rfl ?_
  refine ev_iload (pc' := 154) dX8_layMoved_152 rfl rfl ?_
  refine ev_iconst (pc' := 155) (v := 3) dX8_layMoved_154 rfl ki_3 ?_
  refine ev_icmp_ge (tgt := 185) (pc' := 158) dX8_layMoved_155 rfl rfl (fun _ => ?_) (fun h => absurd (by decide) h)
  refine ev_iinc (pc' := 188) (v := 1) (lv' := [some (.ref 115), some (.int (nI q)), some (.ref 134), some (.int x), some (.int y), some (.int z), some (.int tn), some (.int 1), some (.int ((((tn * ((I 123) ((16 * q) + 0))) * x) + ((tn * ((I 123) ((16 * q) + 1))) * y)) + ((tn * ((I 123) ((16 * q) + 2))) * z))), some (.int 3)]) dX8_layMoved_185 rfl rfl (by decide) (Nat.le_of_ble_eq_true rfl) rfl rfl ?_
  refine ev_goto (tgt := 63) dX8_layMoved_188 rfl ?_
  refine ev_iload (pc' := 65) dX8_layMoved_63 rfl rfl ?_
  refine ev_iconst (pc' := 66) (v := 3) dX8_layMoved_65 rfl ki_3 ?_
  refine ev_icmp_ge (tgt := 191) (pc' := 69) dX8_layMoved_66 rfl rfl (fun h => absurd h (by decide)) (fun _ => ?_)
  refine ev_aload_n (pc' := 70) (i := 0) dX8_layMoved_69 rfl rfl rfl ?_
  refine ev_getR (pc' := 73) fo_X8_43 dX8_layMoved_70 rfl hs_115 rfl rf_115_15 ?_
  refine ev_iconst (pc' := 74) (v := 4) dX8_layMoved_73 rfl ki_4 ?_
  refine ev_iload (pc' := 76) dX8_layMoved_74 rfl rfl ?_
  refine ev_imul (pc' := 77) (v := 4) dX8_layMoved_76 rfl (by decide) ?_
  refine ev_iald (pc' := 78) (j := 4) (v := tn * ((I 123) ((16 * q) + 4))) dX8_layMoved_77 rfl hs_125 rfl (Nat.le_of_ble_eq_true rfl) (Nat.le_of_ble_eq_true rfl) rfl ?_
  refine ev_iload_n (pc' := 79) (i := 3) dX8_layMoved_78 rfl rfl rfl ?_
  refine ev_imul (pc' := 80) (v := (tn * ((I 123) ((16 * q) + 4))) * x) dX8_layMoved_79 rfl rfl ?_
  refine ev_aload_n (pc' := 81) (i := 0) dX8_layMoved_80 rfl rfl rfl ?_
  refine ev_getR (pc' := 84) fo_X8_43 dX8_layMoved_81 rfl hs_115 rfl rf_115_15 ?_
  refine ev_iconst (pc' := 85) (v := 4) dX8_layMoved_84 rfl ki_4 ?_
  refine ev_iload (pc' := 87) dX8_layMoved_85 rfl rfl ?_
  refine ev_imul (pc' := 88) (v := 4) dX8_layMoved_87 rfl (by decide) ?_
  refine ev_iconst (pc' := 89) (v := 1) dX8_layMoved_88 rfl ki_1 ?_
  refine ev_iadd (pc' := 90) (v := 5) dX8_layMoved_89 rfl (by decide) ?_
  refine ev_iald (pc' := 91) (j := 5) (v := tn * ((I 123) ((16 * q) + 5))) dX8_layMoved_90 rfl hs_125 rfl (Nat.le_of_ble_eq_true rfl) (Nat.le_of_ble_eq_true rfl) rfl ?_
  refine ev_iload (pc' := 93) dX8_layMoved_91 rfl rfl ?_
  refine ev_imul (pc' := 94) (v := (tn * ((I 123) ((16 * q) + 5))) * y) dX8_layMoved_93 rfl rfl ?_
  refine ev_iadd (pc' := 95) (v := ((tn * ((I 123) ((16 * q) + 4))) * x) + ((tn * ((I 123) ((16 * q) + 5))) * y)) dX8_layMoved_94 rfl rfl ?_
  refine ev_aload_n (pc' := 96) (i := 0) dX8_layMoved_95 rfl rfl rfl ?_
  refine ev_getR (pc' := 99) fo_X8_43 dX8_layMoved_96 rfl hs_115 rfl rf_115_15 ?_
  refine ev_iconst (pc' := 100) (v := 4) dX8_layMoved_99 rfl ki_4 ?_
  refine ev_iload (pc' := 102) dX8_layMoved_100 rfl rfl ?_
  refine ev_imul (pc' := 103) (v := 4) dX8_layMoved_102 rfl (by decide) ?_
  refine ev_iconst (pc' := 104) (v := 2) dX8_layMoved_103 rfl ki_2 ?_
  refine ev_iadd (pc' := 105) (v := 6) dX8_layMoved_104 rfl (by decide) ?_
  refine ev_iald (pc' := 106) (j := 6) (v := tn * ((I 123) ((16 * q) + 6))) dX8_layMoved_105 rfl hs_125 rfl (Nat.le_of_ble_eq_true rfl) (Nat.le_of_ble_eq_true rfl) rfl ?_
  refine ev_iload (pc' := 108) dX8_layMoved_106 rfl rfl ?_
  refine ev_imul (pc' := 109) (v := (tn * ((I 123) ((16 * q) + 6))) * z) dX8_layMoved_108 rfl rfl ?_
  refine ev_iadd (pc' := 110) (v := (((tn * ((I 123) ((16 * q) + 4))) * x) + ((tn * ((I 123) ((16 * q) + 5))) * y)) + ((tn * ((I 123) ((16 * q) + 6))) * z)) dX8_layMoved_109 rfl rfl ?_
  refine ev_istore (pc' := 112) (lv' := [some (.ref 115), some (.int (nI q)), some (.ref 134), some (.int x), some (.int y), some (.int z), some (.int tn), some (.int 1), some (.int ((((tn * ((I 123) ((16 * q) + 4))) * x) + ((tn * ((I 123) ((16 * q) + 5))) * y)) + ((tn * ((I 123) ((16 * q) + 6))) * z))), some (.int 3)]) dX8_layMoved_110 rfl (Nat.le_of_ble_eq_true rfl) rfl rfl ?_
  refine ev_aload_n (pc' := 113) (i := 2) dX8_layMoved_112 rfl rfl rfl ?_
  refine ev_iconst (pc' := 114) (v := 4) dX8_layMoved_113 rfl ki_4 ?_
  refine ev_iload (pc' := 116) dX8_layMoved_114 rfl rfl ?_
  refine ev_imul (pc' := 117) (v := 4) dX8_layMoved_116 rfl (by decide) ?_
  refine ev_iconst (pc' := 118) (v := 3) dX8_layMoved_117 rfl ki_3 ?_
  refine ev_iadd (pc' := 119) (v := 7) dX8_layMoved_118 rfl (by decide) ?_
  refine ev_aload_n (pc' := 120) (i := 0) dX8_layMoved_119 rfl rfl rfl ?_
  refine ev_getR (pc' := 123) fo_X8_43 dX8_layMoved_120 rfl hs_115 rfl rf_115_15 ?_
  refine ev_iconst (pc' := 124) (v := 4) dX8_layMoved_123 rfl ki_4 ?_
  refine ev_iload (pc' := 126) dX8_layMoved_124 rfl rfl ?_
  refine ev_imul (pc' := 127) (v := 4) dX8_layMoved_126 rfl (by decide) ?_
  refine ev_iconst (pc' := 128) (v := 3) dX8_layMoved_127 rfl ki_3 ?_
  refine ev_iadd (pc' := 129) (v := 7) dX8_layMoved_128 rfl (by decide) ?_
  refine ev_iald (pc' := 130) (j := 7) (v := tn * ((I 123) ((16 * q) + 7))) dX8_layMoved_129 rfl hs_125 rfl (Nat.le_of_ble_eq_true rfl) (Nat.le_of_ble_eq_true rfl) rfl ?_
  refine ev_iload (pc' := 132) dX8_layMoved_130 rfl rfl ?_
  refine ev_isub (pc' := 133) (v := (tn * ((I 123) ((16 * q) + 7))) - ((((tn * ((I 123) ((16 * q) + 4))) * x) + ((tn * ((I 123) ((16 * q) + 5))) * y)) + ((tn * ((I 123) ((16 * q) + 6))) * z))) dX8_layMoved_132 rfl rfl ?_
  refine ev_iast (pc' := 134) (j := 7) (I' := (ma_up (ma_up I 125 (ma_up (ma_up (ma_up (ma_up (ma_up (ma_up (ma_up (ma_up (ma_up (ma_up (ma_up (ma_up (ma_up (ma_up (ma_up (ma_up (I 125) 0 (tn * ((I 123) ((16 * q) + 0)))) 1 (tn * ((I 123) ((16 * q) + 1)))) 2 (tn * ((I 123) ((16 * q) + 2)))) 3 (tn * ((I 123) ((16 * q) + 3)))) 4 (tn * ((I 123) ((16 * q) + 4)))) 5 (tn * ((I 123) ((16 * q) + 5)))) 6 (tn * ((I 123) ((16 * q) + 6)))) 7 (tn * ((I 123) ((16 * q) + 7)))) 8 (tn * ((I 123) ((16 * q) + 8)))) 9 (tn * ((I 123) ((16 * q) + 9)))) 10 (tn * ((I 123) ((16 * q) + 10)))) 11 (tn * ((I 123) ((16 * q) + 11)))) 12 (tn * ((I 123) ((16 * q) + 12)))) 13 (tn * ((I 123) ((16 * q) + 13)))) 14 (tn * ((I 123) ((16 * q) + 14)))) 15 (tn * ((I 123) ((16 * q) + 15))))) 134 (ma_up (ma_up (ma_up (ma_up (ma_up (ma_up (I 134) 3 ((tn * ((I 123) ((16 * q) + 3))) - ((((tn * ((I 123) ((16 * q) + 0))) * x) + ((tn * ((I 123) ((16 * q) + 1))) * y)) + ((tn * ((I 123) ((16 * q) + 2))) * z)))) 12 ((tn * ((I 123) ((16 * q) + 3))) - ((((tn * ((I 123) ((16 * q) + 0))) * x) + ((tn * ((I 123) ((16 * q) + 1))) * y)) + ((tn * ((I 123) ((16 * q) + 2))) * z)))) 0 (tn * ((I 123) ((16 * q) + 0)))) 1 (tn * ((I 123) ((16 * q) + 1)))) 2 (tn * ((I 123) ((16 * q) + 2)))) 7 ((tn * ((I 123) ((16 * q) + 7))) - ((((tn * ((I 123) ((16 * q) + 4))) * x) + ((tn * ((I 123) ((16 * q) + 5))) * y)) + ((tn * ((I 123) ((16 * q) + 6))) * z)))))) dX8_layMoved_133 rfl hs_134 rfl (Nat.le_of_ble_eq_true rfl) (Nat.le_of_ble_eq_true rfl) (ma_up_up _ _ _ _) ?_
  refine ev_aload_n (pc' := 135) (i := 2) dX8_layMoved_134 rfl rfl rfl ?_
  refine ev_bipush (pc' := 137) (v := 12) dX8_layMoved_135 rfl kb_12 ?_
  refine ev_iload (pc' := 139) dX8_layMoved_137 rfl rfl ?_
  refine ev_iadd (pc' := 140) (v := 13) dX8_layMoved_139 rfl (by decide) ?_
  refine ev_aload_n (pc' := 141) (i := 2) dX8_layMoved_140 rfl rfl rfl ?_
  refine ev_iconst (pc' := 142) (v := 4) dX8_layMoved_141 rfl ki_4 ?_
  refine ev_iload (pc' := 144) dX8_layMoved_142 rfl rfl ?_
  refine ev_imul (pc' := 145) (v := 4) dX8_layMoved_144 rfl (by decide) ?_
  refine ev_iconst (pc' := 146) (v := 3) dX8_layMoved_145 rfl ki_3 ?_
  refine ev_iadd (pc' := 147) (v := 7) dX8_layMoved_146 rfl (by decide) ?_
  refine ev_iald (pc' := 148) (j := 7) (v := (tn * ((I 123) ((16 * q) + 7))) - ((((tn * ((I 123) ((16 * q) + 4))) * x) + ((tn * ((I 123) ((16 * q) + 5))) * y)) + ((tn * ((I 123) ((16 * q) + 6))) * z))) dX8_layMoved_147 rfl hs_134 rfl (Nat.le_of_ble_eq_true rfl) (Nat.le_of_ble_eq_true rfl) rfl ?_
  refine ev_iast (pc' := 149) (j := 13) (I' := (ma_up (ma_up I 125 (ma_up (ma_up (ma_up (ma_up (ma_up (ma_up (ma_up (ma_up (ma_up (ma_up (ma_up (ma_up (ma_up (ma_up (ma_up (ma_up (I 125) 0 (tn * ((I 123) ((16 * q) + 0)))) 1 (tn * ((I 123) ((16 * q) + 1)))) 2 (tn * ((I 123) ((16 * q) + 2)))) 3 (tn * ((I 123) ((16 * q) + 3)))) 4 (tn * ((I 123) ((16 * q) + 4)))) 5 (tn * ((I 123) ((16 * q) + 5)))) 6 (tn * ((I 123) ((16 * q) + 6)))) 7 (tn * ((I 123) ((16 * q) + 7)))) 8 (tn * ((I 123) ((16 * q) + 8)))) 9 (tn * ((I 123) ((16 * q) + 9)))) 10 (tn * ((I 123) ((16 * q) + 10)))) 11 (tn * ((I 123) ((16 * q) + 11)))) 12 (tn * ((I 123) ((16 * q) + 12)))) 13 (tn * ((I 123) ((16 * q) + 13)))) 14 (tn * ((I 123) ((16 * q) + 14)))) 15 (tn * ((I 123) ((16 * q) + 15))))) 134 (ma_up (ma_up (ma_up (ma_up (ma_up (ma_up (ma_up (I 134) 3 ((tn * ((I 123) ((16 * q) + 3))) - ((((tn * ((I 123) ((16 * q) + 0))) * x) + ((tn * ((I 123) ((16 * q) + 1))) * y)) + ((tn * ((I 123) ((16 * q) + 2))) * z)))) 12 ((tn * ((I 123) ((16 * q) + 3))) - ((((tn * ((I 123) ((16 * q) + 0))) * x) + ((tn * ((I 123) ((16 * q) + 1))) * y)) + ((tn * ((I 123) ((16 * q) + 2))) * z)))) 0 (tn * ((I 123) ((16 * q) + 0)))) 1 (tn * ((I 123) ((16 * q) + 1)))) 2 (tn * ((I 123) ((16 * q) + 2)))) 7 ((tn * ((I 123) ((16 * q) + 7))) - ((((tn * ((I 123) ((16 * q) + 4))) * x) + ((tn * ((I 123) ((16 * q) + 5))) * y)) + ((tn * ((I 123) ((16 * q) + 6))) * z)))) 13 ((tn * ((I 123) ((16 * q) + 7))) - ((((tn * ((I 123) ((16 * q) + 4))) * x) + ((tn * ((I 123) ((16 * q) + 5))) * y)) + ((tn * ((I 123) ((16 * q) + 6))) * z)))))) dX8_layMoved_148 rfl hs_134 rfl (Nat.le_of_ble_eq_true rfl) (Nat.le_of_ble_eq_true rfl) (ma_up_up _ _ _ _) ?_
  refine ev_iconst (pc' := 150) (v := 0) dX8_layMoved_149 rfl ki_0 ?_
  refine ev_istore (pc' := 152) (lv' := [some (.ref 115), some (.int (nI q)), some (.ref 134), some (.int x), some (.int y), some (.int z), some (.int tn), some (.int 1), some (.int ((((tn * ((I 123) ((16 * q) + 4))) * x) + ((tn * ((I 123) ((16 * q) + 5))) * y)) + ((tn * ((I 123) ((16 * q) + 6))) * z))), some (.int 0)]) dX8_layMoved_150 rfl (Nat.le_of_ble_eq_true rfl) rfl rfl ?_
  refine ev_iload (pc' := 154) dX8_layMoved_152 rfl rfl ?_
  refine ev_iconst (pc' := 155) (v := 3) dX8_layMoved_154 rfl ki_3 ?_
  refine ev_icmp_ge (tgt := 185) (pc' := 158) dX8_layMoved_155 rfl rfl (fun h => absurd h (by decide)) (fun _ => ?_)
  refine ev_aload_n (pc' := 159) (i := 2) dX8_layMoved_158 rfl rfl rfl ?_
  refine ev_iconst (pc' := 160) (v := 4) dX8_layMoved_159 rfl ki_4 ?_
  refine ev_iload (pc' := 162) dX8_layMoved_160 rfl rfl ?_
  refine ev_imul (pc' := 163) (v := 4) dX8_layMoved_162 rfl (by decide) ?_
  refine ev_iload (pc' := 165) dX8_layMoved_163 rfl rfl ?_
  refine ev_iadd (pc' := 166) (v := 4) dX8_layMoved_165 rfl (by decide) ?_
  refine ev_aload_n (pc' := 167) (i := 0) dX8_layMoved_166 rfl rfl rfl ?_
  refine ev_getR (pc' := 170) fo_X8_43 dX8_layMoved_167 rfl hs_115 rfl rf_115_15 ?_
  refine ev_iconst (pc' := 171) (v := 4) dX8_layMoved_170 rfl ki_4 ?_
  refine ev_iload (pc' := 173) dX8_layMoved_171 rfl rfl ?_
  refine ev_imul (pc' := 174) (v := 4) dX8_layMoved_173 rfl (by decide) ?_
  refine ev_iload (pc' := 176) dX8_layMoved_174 rfl rfl ?_
  refine ev_iadd (pc' := 177) (v := 4) dX8_layMoved_176 rfl (by decide) ?_
  refine ev_iald (pc' := 178) (j := 4) (v := tn * ((I 123) ((16 * q) + 4))) dX8_layMoved_177 rfl hs_125 rfl (Nat.le_of_ble_eq_true rfl) (Nat.le_of_ble_eq_true rfl) rfl ?_
  refine ev_iast (pc' := 179) (j := 4) (I' := (ma_up (ma_up I 125 (ma_up (ma_up (ma_up (ma_up (ma_up (ma_up (ma_up (ma_up (ma_up (ma_up (ma_up (ma_up (ma_up (ma_up (ma_up (ma_up (I 125) 0 (tn * ((I 123) ((16 * q) + 0)))) 1 (tn * ((I 123) ((16 * q) + 1)))) 2 (tn * ((I 123) ((16 * q) + 2)))) 3 (tn * ((I 123) ((16 * q) + 3)))) 4 (tn * ((I 123) ((16 * q) + 4)))) 5 (tn * ((I 123) ((16 * q) + 5)))) 6 (tn * ((I 123) ((16 * q) + 6)))) 7 (tn * ((I 123) ((16 * q) + 7)))) 8 (tn * ((I 123) ((16 * q) + 8)))) 9 (tn * ((I 123) ((16 * q) + 9)))) 10 (tn * ((I 123) ((16 * q) + 10)))) 11 (tn * ((I 123) ((16 * q) + 11)))) 12 (tn * ((I 123) ((16 * q) + 12)))) 13 (tn * ((I 123) ((16 * q) + 13)))) 14 (tn * ((I 123) ((16 * q) + 14)))) 15 (tn * ((I 123) ((16 * q) + 15))))) 134 (ma_up (ma_up (ma_up (ma_up (ma_up (ma_up (ma_up (ma_up (I 134) 3 ((tn * ((I 123) ((16 * q) + 3))) - ((((tn * ((I 123) ((16 * q) + 0))) * x) + ((tn * ((I 123) ((16 * q) + 1))) * y)) + ((tn * ((I 123) ((16 * q) + 2))) * z)))) 12 ((tn * ((I 123) ((16 * q) + 3))) - ((((tn * ((I 123) ((16 * q) + 0))) * x) + ((tn * ((I 123) ((16 * q) + 1))) * y)) + ((tn * ((I 123) ((16 * q) + 2))) * z)))) 0 (tn * ((I 123) ((16 * q) + 0)))) 1 (tn * ((I 123) ((16 * q) + 1)))) 2 (tn * ((I 123) ((16 * q) + 2)))) 7 ((tn * ((I 123) ((16 * q) + 7))) - ((((tn * ((I 123) ((16 * q) + 4))) * x) + ((tn * ((I 123) ((16 * q) + 5))) * y)) + ((tn * ((I 123) ((16 * q) + 6))) * z)))) 13 ((tn * ((I 123) ((16 * q) + 7))) - ((((tn * ((I 123) ((16 * q) + 4))) * x) + ((tn * ((I 123) ((16 * q) + 5))) * y)) + ((tn * ((I 123) ((16 * q) + 6))) * z)))) 4 (tn * ((I 123) ((16 * q) + 4)))))) dX8_layMoved_178 rfl hs_134 rfl (Nat.le_of_ble_eq_true rfl) (Nat.le_of_ble_eq_true rfl) (ma_up_up _ _ _ _) ?_
  refine ev_iinc (pc' := 182) (v := 1) (lv' := [some (.ref 115), some (.int (nI q)), some (.ref 134), some (.int x), some (.int y), some (.int z), some (.int tn), some (.int 1), some (.int ((((tn * ((I 123) ((16 * q) + 4))) * x) + ((tn * ((I 123) ((16 * q) + 5))) * y)) + ((tn * ((I 123) ((16 * q) + 6))) * z))), some (.int 1)]) dX8_layMoved_179 rfl rfl (by decide) (Nat.le_of_ble_eq_true rfl) rfl rfl ?_
  refine ev_goto (tgt := 152) dX8_layMoved_182 rfl ?_
  refine ev_iload (pc' := 154) dX8_layMoved_152 rfl rfl ?_
  refine ev_iconst (pc' := 155) (v := 3) dX8_layMoved_154 rfl ki_3 ?_
  refine ev_icmp_ge (tgt := 185) (pc' := 158) dX8_layMoved_155 rfl rfl (fun h => absurd h (by decide)) (fun _ => ?_)
  refine ev_aload_n (pc' := 159) (i := 2) dX8_layMoved_158 rfl rfl rfl ?_
  refine ev_iconst (pc' := 160) (v := 4) dX8_layMoved_159 rfl ki_4 ?_
  refine ev_iload (pc' := 162) dX8_layMoved_160 rfl rfl ?_
  refine ev_imul (pc' := 163) (v := 4) dX8_layMoved_162 rfl (by decide) ?_
  refine ev_iload (pc' := 165) dX8_layMoved_163 rfl rfl ?_
  refine ev_iadd (pc' := 166) (v := 5) dX8_layMoved_165 rfl (by decide) ?_
  refine ev_aload_n (pc' := 167) (i := 0) dX8_layMoved_166 rfl rfl rfl ?_
  refine ev_getR (pc' := 170) fo_X8_43 dX8_layMoved_167 rfl hs_115 rfl rf_115_15 ?_
  refine ev_iconst (pc' := 171) (v := 4) dX8_layMoved_170 rfl ki_4 ?_
  refine ev_iload (pc' := 173) dX8_layMoved_171 rfl rfl ?_
  refine ev_imul (pc' := 174) (v := 4) dX8_layMoved_173 rfl (by decide) ?_
  refine ev_iload (pc' := 176) dX8_layMoved_174 rfl rfl ?_
  refine ev_iadd (pc' := 177) (v := 5) dX8_layMoved_176 rfl (by decide) ?_
  refine ev_iald (pc' := 178) (j := 5) (v := tn * ((I 123) ((16 * q) + 5))) dX8_layMoved_177 rfl hs_125 rfl (Nat.le_of_ble_eq_true rfl) (Nat.le_of_ble_eq_true rfl) rfl ?_
  refine ev_iast (pc' := 179) (j := 5) (I' := (ma_up (ma_up I 125 (ma_up (ma_up (ma_up (ma_up (ma_up (ma_up (ma_up (ma_up (ma_up (ma_up (ma_up (ma_up (ma_up (ma_up (ma_up (ma_up (I 125) 0 (tn * ((I 123) ((16 * q) + 0)))) 1 (tn * ((I 123) ((16 * q) + 1)))) 2 (tn * ((I 123) ((16 * q) + 2)))) 3 (tn * ((I 123) ((16 * q) + 3)))) 4 (tn * ((I 123) ((16 * q) + 4)))) 5 (tn * ((I 123) ((16 * q) + 5)))) 6 (tn * ((I 123) ((16 * q) + 6)))) 7 (tn * ((I 123) ((16 * q) + 7)))) 8 (tn * ((I 123) ((16 * q) + 8)))) 9 (tn * ((I 123) ((16 * q) + 9)))) 10 (tn * ((I 123) ((16 * q) + 10)))) 11 (tn * ((I 123) ((16 * q) + 11)))) 12 (tn * ((I 123) ((16 * q) + 12)))) 13 (tn * ((I 123) ((16 * q) + 13)))) 14 (tn * ((I 123) ((16 * q) + 14)))) 15 (tn * ((I 123) ((16 * q) + 15))))) 134 (ma_up (ma_up (ma_up (ma_up (ma_up (ma_up (ma_up (ma_up (ma_up (I 134) 3 ((tn * ((I 123) ((16 * q) + 3))) - ((((tn * ((I 123) ((16 * q) + 0))) * x) + ((tn * ((I 123) ((16 * q) + 1))) * y)) + ((tn * ((I 123) ((16 * q) + 2))) * z)))) 12 ((tn * ((I 123) ((16 * q) + 3))) - ((((tn * ((I 123) ((16 * q) + 0))) * x) + ((tn * ((I 123) ((16 * q) + 1))) * y)) + ((tn * ((I 123) ((16 * q) + 2))) * z)))) 0 (tn * ((I 123) ((16 * q) + 0)))) 1 (tn * ((I 123) ((16 * q) + 1)))) 2 (tn * ((I 123) ((16 * q) + 2)))) 7 ((tn * ((I 123) ((16 * q) + 7))) - ((((tn * ((I 123) ((16 * q) + 4))) * x) + ((tn * ((I 123) ((16 * q) + 5))) * y)) + ((tn * ((I 123) ((16 * q) + 6))) * z)))) 13 ((tn * ((I 123) ((16 * q) + 7))) - ((((tn * ((I 123) ((16 * q) + 4))) * x) + ((tn * ((I 123) ((16 * q) + 5))) * y)) + ((tn * ((I 123) ((16 * q) + 6))) * z)))) 4 (tn * ((I 123) ((16 * q) + 4)))) 5 (tn * ((I 123) ((16 * q) + 5)))))) dX8_layMoved_178 rfl hs_134 rfl (Nat.le_of_ble_eq_true rfl) (Nat.le_of_ble_eq_true rfl) (ma_up_up _ _ _ _) ?_
  refine ev_iinc (pc' := 182) (v := 2) (lv' := [some (.ref 115), some (.int (nI q)), some (.ref 134), some (.int x), some (.int y), some (.int z), some (.int tn), some (.int 1), some (.int ((((tn * ((I 123) ((16 * q) + 4))) * x) + ((tn * ((I 123) ((16 * q) + 5))) * y)) + ((tn * ((I 123) ((16 * q) + 6))) * z))), some (.int 2)]) dX8_layMoved_179 rfl rfl (by decide) (Nat.le_of_ble_eq_true rfl) rfl rfl ?_
  refine ev_goto (tgt := 152) dX8_layMoved_182 rfl ?_
  refine ev_iload (pc' := 154) dX8_layMoved_152 rfl rfl ?_
  refine ev_iconst (pc' := 155) (v := 3) dX8_layMoved_154 rfl ki_3 ?_
  refine ev_icmp_ge (tgt := 185) (pc' := 158) dX8_layMoved_155 rfl rfl (fun h => absurd h (by decide)) (fun _ => ?_)
  refine ev_aload_n (pc' := 159) (i := 2) dX8_layMoved_158 rfl rfl rfl ?_
  refine ev_iconst (pc' := 160) (v := 4) dX8_layMoved_159 rfl ki_4 ?_
  refine ev_iload (pc' := 162) dX8_layMoved_160 rfl rfl ?_
  refine ev_imul (pc' := 163) (v := 4) dX8_layMoved_162 rfl (by decide) ?_
  refine ev_iload (pc' := 165) dX8_layMoved_163 rfl rfl ?_
  refine ev_iadd (pc' := 166) (v := 6) dX8_layMoved_165 rfl (by decide) ?_
  refine ev_aload_n (pc' := 167) (i := 0) dX8_layMoved_166 rfl rfl rfl ?_
  refine ev_getR (pc' := 170) fo_X8_43 dX8_layMoved_167 rfl hs_115 rfl rf_115_15 ?_
  refine ev_iconst (pc' := 171) (v := 4) dX8_layMoved_170 rfl ki_4 ?_
  refine ev_iload (pc' := 173) dX8_layMoved_171 rfl rfl ?_
  refine ev_imul (pc' := 174) (v := 4) dX8_layMoved_173 rfl (by decide) ?_
  refine ev_iload (pc' := 176) dX8_layMoved_174 rfl rfl ?_
  refine ev_iadd (pc' := 177) (v := 6) dX8_layMoved_176 rfl (by decide) ?_
  refine ev_iald (pc' := 178) (j := 6) (v := tn * ((I 123) ((16 * q) + 6))) dX8_layMoved_177 rfl hs_125 rfl (Nat.le_of_ble_eq_true rfl) (Nat.le_of_ble_eq_true rfl) rfl ?_
  refine ev_iast (pc' := 179) (j := 6) (I' := (ma_up (ma_up I 125 (ma_up (ma_up (ma_up (ma_up (ma_up (ma_up (ma_up (ma_up (ma_up (ma_up (ma_up (ma_up (ma_up (ma_up (ma_up (ma_up (I 125) 0 (tn * ((I 123) ((16 * q) + 0)))) 1 (tn * ((I 123) ((16 * q) + 1)))) 2 (tn * ((I 123) ((16 * q) + 2)))) 3 (tn * ((I 123) ((16 * q) + 3)))) 4 (tn * ((I 123) ((16 * q) + 4)))) 5 (tn * ((I 123) ((16 * q) + 5)))) 6 (tn * ((I 123) ((16 * q) + 6)))) 7 (tn * ((I 123) ((16 * q) + 7)))) 8 (tn * ((I 123) ((16 * q) + 8)))) 9 (tn * ((I 123) ((16 * q) + 9)))) 10 (tn * ((I 123) ((16 * q) + 10)))) 11 (tn * ((I 123) ((16 * q) + 11)))) 12 (tn * ((I 123) ((16 * q) + 12)))) 13 (tn * ((I 123) ((16 * q) + 13)))) 14 (tn * ((I 123) ((16 * q) + 14)))) 15 (tn * ((I 123) ((16 * q) + 15))))) 134 (ma_up (ma_up (ma_up (ma_up (ma_up (ma_up (ma_up (ma_up (ma_up (ma_up (I 134) 3 ((tn * ((I 123) ((16 * q) + 3))) - ((((tn * ((I 123) ((16 * q) + 0))) * x) + ((tn * ((I 123) ((16 * q) + 1))) * y)) + ((tn * ((I 123) ((16 * q) + 2))) * z)))) 12 ((tn * ((I 123) ((16 * q) + 3))) - ((((tn * ((I 123) ((16 * q) + 0))) * x) + ((tn * ((I 123) ((16 * q) + 1))) * y)) + ((tn * ((I 123) ((16 * q) + 2))) * z)))) 0 (tn * ((I 123) ((16 * q) + 0)))) 1 (tn * ((I 123) ((16 * q) + 1)))) 2 (tn * ((I 123) ((16 * q) + 2)))) 7 ((tn * ((I 123) ((16 * q) + 7))) - ((((tn * ((I 123) ((16 * q) + 4))) * x) + ((tn * ((I 123) ((16 * q) + 5))) * y)) + ((tn * ((I 123) ((16 * q) + 6))) * z)))) 13 ((tn * ((I 123) ((16 * q) + 7))) - ((((tn * ((I 123) ((16 * q) + 4))) * x) + ((tn * ((I 123) ((16 * q) + 5))) * y)) + ((tn * ((I 123) ((16 * q) + 6))) * z)))) 4 (tn * ((I 123) ((16 * q) + 4)))) 5 (tn * ((I 123) ((16 * q) + 5)))) 6 (tn * ((I 123) ((16 * q) + 6)))))) dX8_layMoved_178 rfl hs_134 rfl (Nat.le_of_ble_eq_true rfl) (Nat.le_of_ble_eq_true rfl) (ma_up_up _ _ _ _) ?_
  refine ev_iinc (pc' := 182) (v := 3) (lv' := [some (.ref 115), some (.int (nI q)), some (.ref 134), some (.int x), some (.int y), some (.int z), some (.int tn), some (.int 1), some (.int ((((tn * ((I 123) ((16 * q) + 4))) * x) + ((tn * ((I 123) ((16 * q) + 5))) * y)) + ((tn * ((I 123) ((16 * q) + 6))) * z))), some (.int 3)]) dX8_layMoved_179 rfl rfl (by decide) (Nat.le_of_ble_eq_true rfl) rfl rfl ?_
  refine ev_goto (tgt := 152) dX8_layMoved_182 rfl ?_
  refine ev_iload (pc' := 154) dX8_layMoved_152 rfl rfl ?_
  refine ev_iconst (pc' := 155) (v := 3) dX8_layMoved_154 rfl ki_3 ?_
  refine ev_icmp_ge (tgt := 185) (pc' := 158) dX8_layMoved_155 rfl rfl (fun _ => ?_) (fun h => absurd (by decide) h)
  refine ev_iinc (pc' := 188) (v := 2) (lv' := [some (.ref 115), some (.int (nI q)), some (.ref 134), some (.int x), some (.int y), some (.int z), some (.int tn), some (.int 2), some (.int ((((tn * ((I 123) ((16 * q) + 4))) * x) + ((tn * ((I 123) ((16 * q) + 5))) * y)) + ((tn * ((I 123) ((16 * q) + 6))) * z))), some (.int 3)]) dX8_layMoved_185 rfl rfl (by decide) (Nat.le_of_ble_eq_true rfl) rfl rfl ?_
  refine ev_goto (tgt := 63) dX8_layMoved_188 rfl ?_
  refine ev_iload (pc' := 65) dX8_layMoved_63 rfl rfl ?_
  refine ev_iconst (pc' := 66) (v := 3) dX8_layMoved_65 rfl ki_3 ?_
  refine ev_icmp_ge (tgt := 191) (pc' := 69) dX8_layMoved_66 rfl rfl (fun h => absurd h (by decide)) (fun _ => ?_)
  refine ev_aload_n (pc' := 70) (i := 0) dX8_layMoved_69 rfl rfl rfl ?_
  refine ev_getR (pc' := 73) fo_X8_43 dX8_layMoved_70 rfl hs_115 rfl rf_115_15 ?_
  refine ev_iconst (pc' := 74) (v := 4) dX8_layMoved_73 rfl ki_4 ?_
  refine ev_iload (pc' := 76) dX8_layMoved_74 rfl rfl ?_
  refine ev_imul (pc' := 77) (v := 8) dX8_layMoved_76 rfl (by decide) ?_
  refine ev_iald (pc' := 78) (j := 8) (v := tn * ((I 123) ((16 * q) + 8))) dX8_layMoved_77 rfl hs_125 rfl (Nat.le_of_ble_eq_true rfl) (Nat.le_of_ble_eq_true rfl) rfl ?_
  refine ev_iload_n (pc' := 79) (i := 3) dX8_layMoved_78 rfl rfl rfl ?_
  refine ev_imul (pc' := 80) (v := (tn * ((I 123) ((16 * q) + 8))) * x) dX8_layMoved_79 rfl rfl ?_
  refine ev_aload_n (pc' := 81) (i := 0) dX8_layMoved_80 rfl rfl rfl ?_
  refine ev_getR (pc' := 84) fo_X8_43 dX8_layMoved_81 rfl hs_115 rfl rf_115_15 ?_
  refine ev_iconst (pc' := 85) (v := 4) dX8_layMoved_84 rfl ki_4 ?_
  refine ev_iload (pc' := 87) dX8_layMoved_85 rfl rfl ?_
  refine ev_imul (pc' := 88) (v := 8) dX8_layMoved_87 rfl (by decide) ?_
  refine ev_iconst (pc' := 89) (v := 1) dX8_layMoved_88 rfl ki_1 ?_
  refine ev_iadd (pc' := 90) (v := 9) dX8_layMoved_89 rfl (by decide) ?_
  refine ev_iald (pc' := 91) (j := 9) (v := tn * ((I 123) ((16 * q) + 9))) dX8_layMoved_90 rfl hs_125 rfl (Nat.le_of_ble_eq_true rfl) (Nat.le_of_ble_eq_true rfl) rfl ?_
  refine ev_iload (pc' := 93) dX8_layMoved_91 rfl rfl ?_
  refine ev_imul (pc' := 94) (v := (tn * ((I 123) ((16 * q) + 9))) * y) dX8_layMoved_93 rfl rfl ?_
  refine ev_iadd (pc' := 95) (v := ((tn * ((I 123) ((16 * q) + 8))) * x) + ((tn * ((I 123) ((16 * q) + 9))) * y)) dX8_layMoved_94 rfl rfl ?_
  refine ev_aload_n (pc' := 96) (i := 0) dX8_layMoved_95 rfl rfl rfl ?_
  refine ev_getR (pc' := 99) fo_X8_43 dX8_layMoved_96 rfl hs_115 rfl rf_115_15 ?_
  refine ev_iconst (pc' := 100) (v := 4) dX8_layMoved_99 rfl ki_4 ?_
  refine ev_iload (pc' := 102) dX8_layMoved_100 rfl rfl ?_
  refine ev_imul (pc' := 103) (v := 8) dX8_layMoved_102 rfl (by decide) ?_
  refine ev_iconst (pc' := 104) (v := 2) dX8_layMoved_103 rfl ki_2 ?_
  refine ev_iadd (pc' := 105) (v := 10) dX8_layMoved_104 rfl (by decide) ?_
  refine ev_iald (pc' := 106) (j := 10) (v := tn * ((I 123) ((16 * q) + 10))) dX8_layMoved_105 rfl hs_125 rfl (Nat.le_of_ble_eq_true rfl) (Nat.le_of_ble_eq_true rfl) rfl ?_
  refine ev_iload (pc' := 108) dX8_layMoved_106 rfl rfl ?_
  refine ev_imul (pc' := 109) (v := (tn * ((I 123) ((16 * q) + 10))) * z) dX8_layMoved_108 rfl rfl ?_
  refine ev_iadd (pc' := 110) (v := (((tn * ((I 123) ((16 * q) + 8))) * x) + ((tn * ((I 123) ((16 * q) + 9))) * y)) + ((tn * ((I 123) ((16 * q) + 10))) * z)) dX8_layMoved_109 rfl rfl ?_
  refine ev_istore (pc' := 112) (lv' := [some (.ref 115), some (.int (nI q)), some (.ref 134), some (.int x), some (.int y), some (.int z), some (.int tn), some (.int 2), some (.int ((((tn * ((I 123) ((16 * q) + 8))) * x) + ((tn * ((I 123) ((16 * q) + 9))) * y)) + ((tn * ((I 123) ((16 * q) + 10))) * z))), some (.int 3)]) dX8_layMoved_110 rfl (Nat.le_of_ble_eq_true rfl) rfl rfl ?_
  refine ev_aload_n (pc' := 113) (i := 2) dX8_layMoved_112 rfl rfl rfl ?_
  refine ev_iconst (pc' := 114) (v := 4) dX8_layMoved_113 rfl ki_4 ?_
  refine ev_iload (pc' := 116) dX8_layMoved_114 rfl rfl ?_
  refine ev_imul (pc' := 117) (v := 8) dX8_layMoved_116 rfl (by decide) ?_
  refine ev_iconst (pc' := 118) (v := 3) dX8_layMoved_117 rfl ki_3 ?_
  refine ev_iadd (pc' := 119) (v := 11) dX8_layMoved_118 rfl (by decide) ?_
  refine ev_aload_n (pc' := 120) (i := 0) dX8_layMoved_119 rfl rfl rfl ?_
  refine ev_getR (pc' := 123) fo_X8_43 dX8_layMoved_120 rfl hs_115 rfl rf_115_15 ?_
  refine ev_iconst (pc' := 124) (v := 4) dX8_layMoved_123 rfl ki_4 ?_
  refine ev_iload (pc' := 126) dX8_layMoved_124 rfl rfl ?_
  refine ev_imul (pc' := 127) (v := 8) dX8_layMoved_126 rfl (by decide) ?_
  refine ev_iconst (pc' := 128) (v := 3) dX8_layMoved_127 rfl ki_3 ?_
  refine ev_iadd (pc' := 129) (v := 11) dX8_layMoved_128 rfl (by decide) ?_
  refine ev_iald (pc' := 130) (j := 11) (v := tn * ((I 123) ((16 * q) + 11))) dX8_layMoved_129 rfl hs_125 rfl (Nat.le_of_ble_eq_true rfl) (Nat.le_of_ble_eq_true rfl) rfl ?_
  refine ev_iload (pc' := 132) dX8_layMoved_130 rfl rfl ?_
  refine ev_isub (pc' := 133) (v := (tn * ((I 123) ((16 * q) + 11))) - ((((tn * ((I 123) ((16 * q) + 8))) * x) + ((tn * ((I 123) ((16 * q) + 9))) * y)) + ((tn * ((I 123) ((16 * q) + 10))) * z))) dX8_layMoved_132 rfl rfl ?_
  refine ev_iast (pc' := 134) (j := 11) (I' := (ma_up (ma_up I 125 (ma_up (ma_up (ma_up (ma_up (ma_up (ma_up (ma_up (ma_up (ma_up (ma_up (ma_up (ma_up (ma_up (ma_up (ma_up (ma_up (I 125) 0 (tn * ((I 123) ((16 * q) + 0)))) 1 (tn * ((I 123) ((16 * q) + 1)))) 2 (tn * ((I 123) ((16 * q) + 2)))) 3 (tn * ((I 123) ((16 * q) + 3)))) 4 (tn * ((I 123) ((16 * q) + 4)))) 5 (tn * ((I 123) ((16 * q) + 5)))) 6 (tn * ((I 123) ((16 * q) + 6)))) 7 (tn * ((I 123) ((16 * q) + 7)))) 8 (tn * ((I 123) ((16 * q) + 8)))) 9 (tn * ((I 123) ((16 * q) + 9)))) 10 (tn * ((I 123) ((16 * q) + 10)))) 11 (tn * ((I 123) ((16 * q) + 11)))) 12 (tn * ((I 123) ((16 * q) + 12)))) 13 (tn * ((I 123) ((16 * q) + 13)))) 14 (tn * ((I 123) ((16 * q) + 14)))) 15 (tn * ((I 123) ((16 * q) + 15))))) 134 (ma_up (ma_up (ma_up (ma_up (ma_up (ma_up (ma_up (ma_up (ma_up (ma_up (ma_up (I 134) 3 ((tn * ((I 123) ((16 * q) + 3))) - ((((tn * ((I 123) ((16 * q) + 0))) * x) + ((tn * ((I 123) ((16 * q) + 1))) * y)) + ((tn * ((I 123) ((16 * q) + 2))) * z)))) 12 ((tn * ((I 123) ((16 * q) + 3))) - ((((tn * ((I 123) ((16 * q) + 0))) * x) + ((tn * ((I 123) ((16 * q) + 1))) * y)) + ((tn * ((I 123) ((16 * q) + 2))) * z)))) 0 (tn * ((I 123) ((16 * q) + 0)))) 1 (tn * ((I 123) ((16 * q) + 1)))) 2 (tn * ((I 123) ((16 * q) + 2)))) 7 ((tn * ((I 123) ((16 * q) + 7))) - ((((tn * ((I 123) ((16 * q) + 4))) * x) + ((tn * ((I 123) ((16 * q) + 5))) * y)) + ((tn * ((I 123) ((16 * q) + 6))) * z)))) 13 ((tn * ((I 123) ((16 * q) + 7))) - ((((tn * ((I 123) ((16 * q) + 4))) * x) + ((tn * ((I 123) ((16 * q) + 5))) * y)) + ((tn * ((I 123) ((16 * q) + 6))) * z)))) 4 (tn * ((I 123) ((16 * q) + 4)))) 5 (tn * ((I 123) ((16 * q) + 5)))) 6 (tn * ((I 123) ((16 * q) + 6)))) 11 ((tn * ((I 123) ((16 * q) + 11))) - ((((tn * ((I 123) ((16 * q) + 8))) * x) + ((tn * ((I 123) ((16 * q) + 9))) * y)) + ((tn * ((I 123) ((16 * q) + 10))) * z)))))) dX8_layMoved_133 rfl hs_134 rfl (Nat.le_of_ble_eq_true rfl) (Nat.le_of_ble_eq_true rfl) (ma_up_up _ _ _ _) ?_
  refine ev_aload_n (pc' := 135) (i := 2) dX8_layMoved_134 rfl rfl rfl ?_
  refine ev_bipush (pc' := 137) (v := 12) dX8_layMoved_135 rfl kb_12 ?_
  refine ev_iload (pc' := 139) dX8_layMoved_137 rfl rfl ?_
  refine ev_iadd (pc' := 140) (v := 14) dX8_layMoved_139 rfl (by decide) ?_
  refine ev_aload_n (pc' := 141) (i := 2) dX8_layMoved_140 rfl rfl rfl ?_
  refine ev_iconst (pc' := 142) (v := 4) dX8_layMoved_141 rfl ki_4 ?_
  refine ev_iload (pc' := 144) dX8_layMoved_142 rfl rfl ?_
  refine ev_imul (pc' := 145) (v := 8) dX8_layMoved_144 rfl (by decide) ?_
  refine ev_iconst (pc' := 146) (v := 3) dX8_layMoved_145 rfl ki_3 ?_
  refine ev_iadd (pc' := 147) (v := 11) dX8_layMoved_146 rfl (by decide) ?_
  refine ev_iald (pc' := 148) (j := 11) (v := (tn * ((I 123) ((16 * q) + 11))) - ((((tn * ((I 123) ((16 * q) + 8))) * x) + ((tn * ((I 123) ((16 * q) + 9))) * y)) + ((tn * ((I 123) ((16 * q) + 10))) * z))) dX8_layMoved_147 rfl hs_134 rfl (Nat.le_of_ble_eq_true rfl) (Nat.le_of_ble_eq_true rfl) rfl ?_
  refine ev_iast (pc' := 149) (j := 14) (I' := (ma_up (ma_up I 125 (ma_up (ma_up (ma_up (ma_up (ma_up (ma_up (ma_up (ma_up (ma_up (ma_up (ma_up (ma_up (ma_up (ma_up (ma_up (ma_up (I 125) 0 (tn * ((I 123) ((16 * q) + 0)))) 1 (tn * ((I 123) ((16 * q) + 1)))) 2 (tn * ((I 123) ((16 * q) + 2)))) 3 (tn * ((I 123) ((16 * q) + 3)))) 4 (tn * ((I 123) ((16 * q) + 4)))) 5 (tn * ((I 123) ((16 * q) + 5)))) 6 (tn * ((I 123) ((16 * q) + 6)))) 7 (tn * ((I 123) ((16 * q) + 7)))) 8 (tn * ((I 123) ((16 * q) + 8)))) 9 (tn * ((I 123) ((16 * q) + 9)))) 10 (tn * ((I 123) ((16 * q) + 10)))) 11 (tn * ((I 123) ((16 * q) + 11)))) 12 (tn * ((I 123) ((16 * q) + 12)))) 13 (tn * ((I 123) ((16 * q) + 13)))) 14 (tn * ((I 123) ((16 * q) + 14)))) 15 (tn * ((I 123) ((16 * q) + 15))))) 134 (ma_up (ma_up (ma_up (ma_up (ma_up (ma_up (ma_up (ma_up (ma_up (ma_up (ma_up (ma_up (I 134) 3 ((tn * ((I 123) ((16 * q) + 3))) - ((((tn * ((I 123) ((16 * q) + 0))) * x) + ((tn * ((I 123) ((16 * q) + 1))) * y)) + ((tn * ((I 123) ((16 * q) + 2))) * z)))) 12 ((tn * ((I 123) ((16 * q) + 3))) - ((((tn * ((I 123) ((16 * q) + 0))) * x) + ((tn * ((I 123) ((16 * q) + 1))) * y)) + ((tn * ((I 123) ((16 * q) + 2))) * z)))) 0 (tn * ((I 123) ((16 * q) + 0)))) 1 (tn * ((I 123) ((16 * q) + 1)))) 2 (tn * ((I 123) ((16 * q) + 2)))) 7 ((tn * ((I 123) ((16 * q) + 7))) - ((((tn * ((I 123) ((16 * q) + 4))) * x) + ((tn * ((I 123) ((16 * q) + 5))) * y)) + ((tn * ((I 123) ((16 * q) + 6))) * z)))) 13 ((tn * ((I 123) ((16 * q) + 7))) - ((((tn * ((I 123) ((16 * q) + 4))) * x) + ((tn * ((I 123) ((16 * q) + 5))) * y)) + ((tn * ((I 123) ((16 * q) + 6))) * z)))) 4 (tn * ((I 123) ((16 * q) + 4)))) 5 (tn * ((I 123) ((16 * q) + 5)))) 6 (tn * ((I 123) ((16 * q) + 6)))) 11 ((tn * ((I 123) ((16 * q) + 11))) - ((((tn * ((I 123) ((16 * q) + 8))) * x) + ((tn * ((I 123) ((16 * q) + 9))) * y)) + ((tn * ((I 123) ((16 * q) + 10))) * z)))) 14 ((tn * ((I 123) ((16 * q) + 11))) - ((((tn * ((I 123) ((16 * q) + 8))) * x) + ((tn * ((I 123) ((16 * q) + 9))) * y)) + ((tn * ((I 123) ((16 * q) + 10))) * z)))))) dX8_layMoved_148 rfl hs_134 rfl (Nat.le_of_ble_eq_true rfl) (Nat.le_of_ble_eq_true rfl) (ma_up_up _ _ _ _) ?_
  refine ev_iconst (pc' := 150) (v := 0) dX8_layMoved_149 rfl ki_0 ?_
  refine ev_istore (pc' := 152) (lv' := [some (.ref 115), some (.int (nI q)), some (.ref 134), some (.int x), some (.int y), some (.int z), some (.int tn), some (.int 2), some (.int ((((tn * ((I 123) ((16 * q) + 8))) * x) + ((tn * ((I 123) ((16 * q) + 9))) * y)) + ((tn * ((I 123) ((16 * q) + 10))) * z))), some (.int 0)]) dX8_layMoved_150 rfl (Nat.le_of_ble_eq_true rfl) rfl rfl ?_
  refine ev_iload (pc' := 154) dX8_layMoved_152 rfl rfl ?_
  refine ev_iconst (pc' := 155) (v := 3) dX8_layMoved_154 rfl ki_3 ?_
  refine ev_icmp_ge (tgt := 185) (pc' := 158) dX8_layMoved_155 rfl rfl (fun h => absurd h (by decide)) (fun _ => ?_)
  refine ev_aload_n (pc' := 159) (i := 2) dX8_layMoved_158 rfl rfl rfl ?_
  refine ev_iconst (pc' := 160) (v := 4) dX8_layMoved_159 rfl ki_4 ?_
  refine ev_iload (pc' := 162) dX8_layMoved_160 rfl rfl ?_
  refine ev_imul (pc' := 163) (v := 8) dX8_layMoved_162 rfl (by decide) ?_
  refine ev_iload (pc' := 165) dX8_layMoved_163 rfl rfl ?_
  refine ev_iadd (pc' := 166) (v := 8) dX8_layMoved_165 rfl (by decide) ?_
  refine ev_aload_n (pc' := 167) (i := 0) dX8_layMoved_166 rfl rfl rfl ?_
  refine ev_getR (pc' := 170) fo_X8_43 dX8_layMoved_167 rfl hs_115 rfl rf_115_15 ?_
  refine ev_iconst (pc' := 171) (v := 4) dX8_layMoved_170 rfl ki_4 ?_
  refine ev_iload (pc' := 173) dX8_layMoved_171 rfl rfl ?_
  refine ev_imul (pc' := 174) (v := 8) dX8_layMoved_173 rfl (by decide) ?_
  refine ev_iload (pc' := 176) dX8_layMoved_174 rfl rfl ?_
  refine ev_iadd (pc' := 177) (v := 8) dX8_layMoved_176 rfl (by decide) ?_
  refine ev_iald (pc' := 178) (j := 8) (v := tn * ((I 123) ((16 * q) + 8))) dX8_layMoved_177 rfl hs_125 rfl (Nat.le_of_ble_eq_true rfl) (Nat.le_of_ble_eq_true rfl) rfl ?_
  refine ev_iast (pc' := 179) (j := 8) (I' := (ma_up (ma_up I 125 (ma_up (ma_up (ma_up (ma_up (ma_up (ma_up (ma_up (ma_up (ma_up (ma_up (ma_up (ma_up (ma_up (ma_up (ma_up (ma_up (I 125) 0 (tn * ((I 123) ((16 * q) + 0)))) 1 (tn * ((I 123) ((16 * q) + 1)))) 2 (tn * ((I 123) ((16 * q) + 2)))) 3 (tn * ((I 123) ((16 * q) + 3)))) 4 (tn * ((I 123) ((16 * q) + 4)))) 5 (tn * ((I 123) ((16 * q) + 5)))) 6 (tn * ((I 123) ((16 * q) + 6)))) 7 (tn * ((I 123) ((16 * q) + 7)))) 8 (tn * ((I 123) ((16 * q) + 8)))) 9 (tn * ((I 123) ((16 * q) + 9)))) 10 (tn * ((I 123) ((16 * q) + 10)))) 11 (tn * ((I 123) ((16 * q) + 11)))) 12 (tn * ((I 123) ((16 * q) + 12)))) 13 (tn * ((I 123) ((16 * q) + 13)))) 14 (tn * ((I 123) ((16 * q) + 14)))) 15 (tn * ((I 123) ((16 * q) + 15))))) 134 (ma_up (ma_up (ma_up (ma_up (ma_up (ma_up (ma_up (ma_up (ma_up (ma_up (ma_up (ma_up (ma_up (I 134) 3 ((tn * ((I 123) ((16 * q) + 3))) - ((((tn * ((I 123) ((16 * q) + 0))) * x) + ((tn * ((I 123) ((16 * q) + 1))) * y)) + ((tn * ((I 123) ((16 * q) + 2))) * z)))) 12 ((tn * ((I 123) ((16 * q) + 3))) - ((((tn * ((I 123) ((16 * q) + 0))) * x) + ((tn * ((I 123) ((16 * q) + 1))) * y)) + ((tn * ((I 123) ((16 * q) + 2))) * z)))) 0 (tn * ((I 123) ((16 * q) + 0)))) 1 (tn * ((I 123) ((16 * q) + 1)))) 2 (tn * ((I 123) ((16 * q) + 2)))) 7 ((tn * ((I 123) ((16 * q) + 7))) - ((((tn * ((I 123) ((16 * q) + 4))) * x) + ((tn * ((I 123) ((16 * q) + 5))) * y)) + ((tn * ((I 123) ((16 * q) + 6))) * z)))) 13 ((tn * ((I 123) ((16 * q) + 7))) - ((((tn * ((I 123) ((16 * q) + 4))) * x) + ((tn * ((I 123) ((16 * q) + 5))) * y)) + ((tn * ((I 123) ((16 * q) + 6))) * z)))) 4 (tn * ((I 123) ((16 * q) + 4)))) 5 (tn * ((I 123) ((16 * q) + 5)))) 6 (tn * ((I 123) ((16 * q) + 6)))) 11 ((tn * ((I 123) ((16 * q) + 11))) - ((((tn * ((I 123) ((16 * q) + 8))) * x) + ((tn * ((I 123) ((16 * q) + 9))) * y)) + ((tn * ((I 123) ((16 * q) + 10))) * z)))) 14 ((tn * ((I 123) ((16 * q) + 11))) - ((((tn * ((I 123) ((16 * q) + 8))) * x) + ((tn * ((I 123) ((16 * q) + 9))) * y)) + ((tn * ((I 123) ((16 * q) + 10))) * z)))) 8 (tn * ((I 123) ((16 * q) + 8)))))) dX8_layMoved_178 rfl hs_134 rfl (Nat.le_of_ble_eq_true rfl) (Nat.le_of_ble_eq_true rfl) (ma_up_up _ _ _ _) ?_
  refine ev_iinc (pc' := 182) (v := 1) (lv' := [some (.ref 115), some (.int (nI q)), some (.ref 134), some (.int x), some (.int y), some (.int z), some (.int tn), some (.int 2), some (.int ((((tn * ((I 123) ((16 * q) + 8))) * x) + ((tn * ((I 123) ((16 * q) + 9))) * y)) + ((tn * ((I 123) ((16 * q) + 10))) * z))), some (.int 1)]) dX8_layMoved_179 rfl rfl (by decide) (Nat.le_of_ble_eq_true rfl) rfl rfl ?_
  refine ev_goto (tgt := 152) dX8_layMoved_182 rfl ?_
  refine ev_iload (pc' := 154) dX8_layMoved_152 rfl rfl ?_
  refine ev_iconst (pc' := 155) (v := 3) dX8_layMoved_154 rfl ki_3 ?_
  refine ev_icmp_ge (tgt := 185) (pc' := 158) dX8_layMoved_155 rfl rfl (fun h => absurd h (by decide)) (fun _ => ?_)
  refine ev_aload_n (pc' := 159) (i := 2) dX8_layMoved_158 rfl rfl rfl ?_
  refine ev_iconst (pc' := 160) (v := 4) dX8_layMoved_159 rfl ki_4 ?_
  refine ev_iload (pc' := 162) dX8_layMoved_160 rfl rfl ?_
  refine ev_imul (pc' := 163) (v := 8) dX8_layMoved_162 rfl (by decide) ?_
  refine ev_iload (pc' := 165) dX8_layMoved_163 rfl rfl ?_
  refine ev_iadd (pc' := 166) (v := 9) dX8_layMoved_165 rfl (by decide) ?_
  refine ev_aload_n (pc' := 167) (i := 0) dX8_layMoved_166 rfl rfl rfl ?_
  refine ev_getR (pc' := 170) fo_X8_43 dX8_layMoved_167 rfl hs_115 rfl rf_115_15 ?_
  refine ev_iconst (pc' := 171) (v := 4) dX8_layMoved_170 rfl ki_4 ?_
  refine ev_iload (pc' := 173) dX8_layMoved_171 rfl rfl ?_
  refine ev_imul (pc' := 174) (v := 8) dX8_layMoved_173 rfl (by decide) ?_
  refine ev_iload (pc' := 176) dX8_layMoved_174 rfl rfl ?_
  refine ev_iadd (pc' := 177) (v := 9) dX8_layMoved_176 rfl (by decide) ?_
  refine ev_iald (pc' := 178) (j := 9) (v := tn * ((I 123) ((16 * q) + 9))) dX8_layMoved_177 rfl hs_125 rfl (Nat.le_of_ble_eq_true rfl) (Nat.le_of_ble_eq_true rfl) rfl ?_
  refine ev_iast (pc' := 179) (j := 9) (I' := (ma_up (ma_up I 125 (ma_up (ma_up (ma_up (ma_up (ma_up (ma_up (ma_up (ma_up (ma_up (ma_up (ma_up (ma_up (ma_up (ma_up (ma_up (ma_up (I 125) 0 (tn * ((I 123) ((16 * q) + 0)))) 1 (tn * ((I 123) ((16 * q) + 1)))) 2 (tn * ((I 123) ((16 * q) + 2)))) 3 (tn * ((I 123) ((16 * q) + 3)))) 4 (tn * ((I 123) ((16 * q) + 4)))) 5 (tn * ((I 123) ((16 * q) + 5)))) 6 (tn * ((I 123) ((16 * q) + 6)))) 7 (tn * ((I 123) ((16 * q) + 7)))) 8 (tn * ((I 123) ((16 * q) + 8)))) 9 (tn * ((I 123) ((16 * q) + 9)))) 10 (tn * ((I 123) ((16 * q) + 10)))) 11 (tn * ((I 123) ((16 * q) + 11)))) 12 (tn * ((I 123) ((16 * q) + 12)))) 13 (tn * ((I 123) ((16 * q) + 13)))) 14 (tn * ((I 123) ((16 * q) + 14)))) 15 (tn * ((I 123) ((16 * q) + 15))))) 134 (ma_up (ma_up (ma_up (ma_up (ma_up (ma_up (ma_up (ma_up (ma_up (ma_up (ma_up (ma_up (ma_up (ma_up (I 134) 3 ((tn * ((I 123) ((16 * q) + 3))) - ((((tn * ((I 123) ((16 * q) + 0))) * x) + ((tn * ((I 123) ((16 * q) + 1))) * y)) + ((tn * ((I 123) ((16 * q) + 2))) * z)))) 12 ((tn * ((I 123) ((16 * q) + 3))) - ((((tn * ((I 123) ((16 * q) + 0))) * x) + ((tn * ((I 123) ((16 * q) + 1))) * y)) + ((tn * ((I 123) ((16 * q) + 2))) * z)))) 0 (tn * ((I 123) ((16 * q) + 0)))) 1 (tn * ((I 123) ((16 * q) + 1)))) 2 (tn * ((I 123) ((16 * q) + 2)))) 7 ((tn * ((I 123) ((16 * q) + 7))) - ((((tn * ((I 123) ((16 * q) + 4))) * x) + ((tn * ((I 123) ((16 * q) + 5))) * y)) + ((tn * ((I 123) ((16 * q) + 6))) * z)))) 13 ((tn * ((I 123) ((16 * q) + 7))) - ((((tn * ((I 123) ((16 * q) + 4))) * x) + ((tn * ((I 123) ((16 * q) + 5))) * y)) + ((tn * ((I 123) ((16 * q) + 6))) * z)))) 4 (tn * ((I 123) ((16 * q) + 4)))) 5 (tn * ((I 123) ((16 * q) + 5)))) 6 (tn * ((I 123) ((16 * q) + 6)))) 11 ((tn * ((I 123) ((16 * q) + 11))) - ((((tn * ((I 123) ((16 * q) + 8))) * x) + ((tn * ((I 123) ((16 * q) + 9))) * y)) + ((tn * ((I 123) ((16 * q) + 10))) * z)))) 14 ((tn * ((I 123) ((16 * q) + 11))) - ((((tn * ((I 123) ((16 * q) + 8))) * x) + ((tn * ((I 123) ((16 * q) + 9))) * y)) + ((tn * ((I 123) ((16 * q) + 10))) * z)))) 8 (tn * ((I 123) ((16 * q) + 8)))) 9 (tn * ((I 123) ((16 * q) + 9)))))) dX8_layMoved_178 rfl hs_134 rfl (Nat.le_of_ble_eq_true rfl) (Nat.le_of_ble_eq_true rfl) (ma_up_up _ _ _ _) ?_
  refine ev_iinc (pc' := 182) (v := 2) (lv' := [some (.ref 115), some (.int (nI q)), some (.ref 134), some (.int x), some (.int y), some (.int z), some (.int tn), some (.int 2), some (.int ((((tn * ((I 123) ((16 * q) + 8))) * x) + ((tn * ((I 123) ((16 * q) + 9))) * y)) + ((tn * ((I 123) ((16 * q) + 10))) * z))), some (.int 2)]) dX8_layMoved_179 rfl rfl (by decide) (Nat.le_of_ble_eq_true rfl) rfl rfl ?_
  refine ev_goto (tgt := 152) dX8_layMoved_182 rfl ?_
  refine ev_iload (pc' := 154) dX8_layMoved_152 rfl rfl ?_
  refine ev_iconst (pc' := 155) (v := 3) dX8_layMoved_154 rfl ki_3 ?_
  refine ev_icmp_ge (tgt := 185) (pc' := 158) dX8_layMoved_155 rfl rfl (fun h => absurd h (by decide)) (fun _ => ?_)
  refine ev_aload_n (pc' := 159) (i := 2) dX8_layMoved_158 rfl rfl rfl ?_
  refine ev_iconst (pc' := 160) (v := 4) dX8_layMoved_159 rfl ki_4 ?_
  refine ev_iload (pc' := 162) dX8_layMoved_160 rfl rfl ?_
  refine ev_imul (pc' := 163) (v := 8) dX8_layMoved_162 rfl (by decide) ?_
  refine ev_iload (pc' := 165) dX8_layMoved_163 rfl rfl ?_
  refine ev_iadd (pc' := 166) (v := 10) dX8_layMoved_165 rfl (by decide) ?_
  refine ev_aload_n (pc' := 167) (i := 0) dX8_layMoved_166 rfl rfl rfl ?_
  refine ev_getR (pc' := 170) fo_X8_43 dX8_layMoved_167 rfl hs_115 rfl rf_115_15 ?_
  refine ev_iconst (pc' := 171) (v := 4) dX8_layMoved_170 rfl ki_4 ?_
  refine ev_iload (pc' := 173) dX8_layMoved_171 rfl rfl ?_
  refine ev_imul (pc' := 174) (v := 8) dX8_layMoved_173 rfl (by decide) ?_
  refine ev_iload (pc' := 176) dX8_layMoved_174 rfl rfl ?_
  refine ev_iadd (pc' := 177) (v := 10) dX8_layMoved_176 rfl (by decide) ?_
  refine ev_iald (pc' := 178) (j := 10) (v := tn * ((I 123) ((16 * q) + 10))) dX8_layMoved_177 rfl hs_125 rfl (Nat.le_of_ble_eq_true rfl) (Nat.le_of_ble_eq_true rfl) rfl ?_
  refine ev_iast (pc' := 179) (j := 10) (I' := (ma_up (ma_up I 125 (ma_up (ma_up (ma_up (ma_up (ma_up (ma_up (ma_up (ma_up (ma_up (ma_up (ma_up (ma_up (ma_up (ma_up (ma_up (ma_up (I 125) 0 (tn * ((I 123) ((16 * q) + 0)))) 1 (tn * ((I 123) ((16 * q) + 1)))) 2 (tn * ((I 123) ((16 * q) + 2)))) 3 (tn * ((I 123) ((16 * q) + 3)))) 4 (tn * ((I 123) ((16 * q) + 4)))) 5 (tn * ((I 123) ((16 * q) + 5)))) 6 (tn * ((I 123) ((16 * q) + 6)))) 7 (tn * ((I 123) ((16 * q) + 7)))) 8 (tn * ((I 123) ((16 * q) + 8)))) 9 (tn * ((I 123) ((16 * q) + 9)))) 10 (tn * ((I 123) ((16 * q) + 10)))) 11 (tn * ((I 123) ((16 * q) + 11)))) 12 (tn * ((I 123) ((16 * q) + 12)))) 13 (tn * ((I 123) ((16 * q) + 13)))) 14 (tn * ((I 123) ((16 * q) + 14)))) 15 (tn * ((I 123) ((16 * q) + 15))))) 134 (ma_up (ma_up (ma_up (ma_up (ma_up (ma_up (ma_up (ma_up (ma_up (ma_up (ma_up (ma_up (ma_up (ma_up (ma_up (I 134) 3 ((tn * ((I 123) ((16 * q) + 3))) - ((((tn * ((I 123) ((16 * q) + 0))) * x) + ((tn * ((I 123) ((16 * q) + 1))) * y)) + ((tn * ((I 123) ((16 * q) + 2))) * z)))) 12 ((tn * ((I 123) ((16 * q) + 3))) - ((((tn * ((I 123) ((16 * q) + 0))) * x) + ((tn * ((I 123) ((16 * q) + 1))) * y)) + ((tn * ((I 123) ((16 * q) + 2))) * z)))) 0 (tn * ((I 123) ((16 * q) + 0)))) 1 (tn * ((I 123) ((16 * q) + 1)))) 2 (tn * ((I 123) ((16 * q) + 2)))) 7 ((tn * ((I 123) ((16 * q) + 7))) - ((((tn * ((I 123) ((16 * q) + 4))) * x) + ((tn * ((I 123) ((16 * q) + 5))) * y)) + ((tn * ((I 123) ((16 * q) + 6))) * z)))) 13 ((tn * ((I 123) ((16 * q) + 7))) - ((((tn * ((I 123) ((16 * q) + 4))) * x) + ((tn * ((I 123) ((16 * q) + 5))) * y)) + ((tn * ((I 123) ((16 * q) + 6))) * z)))) 4 (tn * ((I 123) ((16 * q) + 4)))) 5 (tn * ((I 123) ((16 * q) + 5)))) 6 (tn * ((I 123) ((16 * q) + 6)))) 11 ((tn * ((I 123) ((16 * q) + 11))) - ((((tn * ((I 123) ((16 * q) + 8))) * x) + ((tn * ((I 123) ((16 * q) + 9))) * y)) + ((tn * ((I 123) ((16 * q) + 10))) * z)))) 14 ((tn * ((I 123) ((16 * q) + 11))) - ((((tn * ((I 123) ((16 * q) + 8))) * x) + ((tn * ((I 123) ((16 * q) + 9))) * y)) + ((tn * ((I 123) ((16 * q) + 10))) * z)))) 8 (tn * ((I 123) ((16 * q) + 8)))) 9 (tn * ((I 123) ((16 * q) + 9)))) 10 (tn * ((I 123) ((16 * q) + 10)))))) dX8_layMoved_178 rfl hs_134 rfl (Nat.le_of_ble_eq_true rfl) (Nat.le_of_ble_eq_true rfl) (ma_up_up _ _ _ _) ?_
  refine ev_iinc (pc' := 182) (v := 3) (lv' := [some (.ref 115), some (.int (nI q)), some (.ref 134), some (.int x), some (.int y), some (.int z), some (.int tn), some (.int 2), some (.int ((((tn * ((I 123) ((16 * q) + 8))) * x) + ((tn * ((I 123) ((16 * q) + 9))) * y)) + ((tn * ((I 123) ((16 * q) + 10))) * z))), some (.int 3)]) dX8_layMoved_179 rfl rfl (by decide) (Nat.le_of_ble_eq_true rfl) rfl rfl ?_
  refine ev_goto (tgt := 152) dX8_layMoved_182 rfl ?_
  refine ev_iload (pc' := 154) dX8_layMoved_152 rfl rfl ?_
  refine ev_iconst (pc' := 155) (v := 3) dX8_layMoved_154 rfl ki_3 ?_
  refine ev_icmp_ge (tgt := 185) (pc' := 158) dX8_layMoved_155 rfl rfl (fun _ => ?_) (fun h => absurd (by decide) h)
  refine ev_iinc (pc' := 188) (v := 3) (lv' := [some (.ref 115), some (.int (nI q)), some (.ref 134), some (.int x), some (.int y), some (.int z), some (.int tn), some (.int 3), some (.int ((((tn * ((I 123) ((16 * q) + 8))) * x) + ((tn * ((I 123) ((16 * q) + 9))) * y)) + ((tn * ((I 123) ((16 * q) + 10))) * z))), some (.int 3)]) dX8_layMoved_185 rfl rfl (by decide) (Nat.le_of_ble_eq_true rfl) rfl rfl ?_
  refine ev_goto (tgt := 63) dX8_layMoved_188 rfl ?_
  refine ev_iload (pc' := 65) dX8_layMoved_63 rfl rfl ?_
  refine ev_iconst (pc' := 66) (v := 3) dX8_layMoved_65 rfl ki_3 ?_
  refine ev_icmp_ge (tgt := 191) (pc' := 69) dX8_layMoved_66 rfl rfl (fun _ => ?_) (fun h => absurd (by decide) h)
  refine ev_aload_n (pc' := 192) (i := 0) dX8_layMoved_191 rfl rfl rfl ?_
  refine ev_getR (pc' := 195) fo_X8_43 dX8_layMoved_192 rfl hs_115 rfl rf_115_15 ?_
  refine ev_bipush (pc' := 197) (v := 15) dX8_layMoved_195 rfl kb_15 ?_
  refine ev_iald (pc' := 198) (j := 15) (v := tn * ((I 123) ((16 * q) + 15))) dX8_layMoved_197 rfl hs_125 rfl (Nat.le_of_ble_eq_true rfl) (Nat.le_of_ble_eq_true rfl) rfl ?_
  refine ev_istore (pc' := 200) (lv' := [some (.ref 115), some (.int (nI q)), some (.ref 134), some (.int x), some (.int y), some (.int z), some (.int tn), some (.int (tn * ((I 123) ((16 * q) + 15)))), some (.int ((((tn * ((I 123) ((16 * q) + 8))) * x) + ((tn * ((I 123) ((16 * q) + 9))) * y)) + ((tn * ((I 123) ((16 * q) + 10))) * z))), some (.int 3)]) dX8_layMoved_198 rfl (Nat.le_of_ble_eq_true rfl) rfl rfl ?_
  refine ev_iconst (pc' := 201) (v := 0) dX8_layMoved_200 rfl ki_0 ?_
  refine ev_istore (pc' := 203) (lv' := [some (.ref 115), some (.int (nI q)), some (.ref 134), some (.int x), some (.int y), some (.int z), some (.int tn), some (.int (tn * ((I 123) ((16 * q) + 15)))), some (.int 0), some (.int 3)]) dX8_layMoved_201 rfl (Nat.le_of_ble_eq_true rfl) rfl rfl ?_
  refine ev_iload (pc' := 205) dX8_layMoved_203 rfl rfl ?_
  refine ev_iconst (pc' := 206) (v := 3) dX8_layMoved_205 rfl ki_3 ?_
  refine ev_icmp_ge (tgt := 286) (pc' := 209) dX8_layMoved_206 rfl rfl (fun h => absurd h (by decide)) (fun _ => ?_)
  refine ev_iload (pc' := 211) dX8_layMoved_209 rfl rfl ?_
  refine ev_if_ne (tgt := 218) (pc' := 214) dX8_layMoved_211 rfl rfl (fun h => absurd (by decide) h) (fun _ => ?_)
  refine ev_iload_n (pc' := 215) (i := 3) dX8_layMoved_214 rfl rfl rfl ?_
  refine ev_goto (tgt := 231) dX8_layMoved_215 rfl ?_
  refine ev_istore (pc' := 233) (lv' := [some (.ref 115), some (.int (nI q)), some (.ref 134), some (.int x), some (.int y), some (.int z), some (.int tn), some (.int (tn * ((I 123) ((16 * q) + 15)))), some (.int 0), some (.int x)]) dX8_layMoved_231 rfl (Nat.le_of_ble_eq_true rfl) rfl rfl ?_
  refine ev_iload (pc' := 235) dX8_layMoved_233 rfl rfl ?_
  refine ev_iload (pc' := 237) dX8_layMoved_235 rfl rfl ?_
  refine ev_aload_n (pc' := 238) (i := 2) dX8_layMoved_237 rfl rfl rfl ?_
  refine ev_iconst (pc' := 239) (v := 4) dX8_layMoved_238 rfl ki_4 ?_
  refine ev_iload (pc' := 241) dX8_layMoved_239 rfl rfl ?_
  refine ev_imul (pc' := 242) (v := 0) dX8_layMoved_241 rfl (by decide) ?_
  refine ev_iconst (pc' := 243) (v := 3) dX8_layMoved_242 rfl ki_3 ?_
  refine ev_iadd (pc' := 244) (v := 3) dX8_layMoved_243 rfl (by decide) ?_
  refine ev_iald (pc' := 245) (j := 3) (v := (tn * ((I 123) ((16 * q) + 3))) - ((((tn * ((I 123) ((16 * q) + 0))) * x) + ((tn * ((I 123) ((16 * q) + 1))) * y)) + ((tn * ((I 123) ((16 * q) + 2))) * z))) dX8_layMoved_244 rfl hs_134 rfl (Nat.le_of_ble_eq_true rfl) (Nat.le_of_ble_eq_true rfl) rfl ?_
  refine ev_aload_n (pc' := 246) (i := 0) dX8_layMoved_245 rfl rfl rfl ?_
  refine ev_getR (pc' := 249) fo_X8_43 dX8_layMoved_246 rfl hs_115 rfl rf_115_15 ?_
  refine ev_iconst (pc' := 250) (v := 4) dX8_layMoved_249 rfl ki_4 ?_
  refine ev_iload (pc' := 252) dX8_layMoved_250 rfl rfl ?_
  refine ev_imul (pc' := 253) (v := 0) dX8_layMoved_252 rfl (by decide) ?_
  refine ev_iconst (pc' := 254) (v := 3) dX8_layMoved_253 rfl ki_3 ?_
  refine ev_iadd (pc' := 255) (v := 3) dX8_layMoved_254 rfl (by decide) ?_
  refine ev_iald (pc' := 256) (j := 3) (v := tn * ((I 123) ((16 * q) + 3))) dX8_layMoved_255 rfl hs_125 rfl (Nat.le_of_ble_eq_true rfl) (Nat.le_of_ble_eq_true rfl) rfl ?_
  refine ev_isub (pc' := 257) (v := ((tn * ((I 123) ((16 * q) + 3))) - ((((tn * ((I 123) ((16 * q) + 0))) * x) + ((tn * ((I 123) ((16 * q) + 1))) * y)) + ((tn * ((I 123) ((16 * q) + 2))) * z))) - (tn * ((I 123) ((16 * q) + 3)))) dX8_layMoved_256 rfl rfl ?_
  refine ev_imul (pc' := 258) (v := x * (((tn * ((I 123) ((16 * q) + 3))) - ((((tn * ((I 123) ((16 * q) + 0))) * x) + ((tn * ((I 123) ((16 * q) + 1))) * y)) + ((tn * ((I 123) ((16 * q) + 2))) * z))) - (tn * ((I 123) ((16 * q) + 3))))) dX8_layMoved_257 rfl rfl ?_
  refine ev_iconst (pc' := 259) (v := (-1)) dX8_layMoved_258 rfl ki_m1 ?_
  refine ev_imul (pc' := 260) (v := (x * (((tn * ((I 123) ((16 * q) + 3))) - ((((tn * ((I 123) ((16 * q) + 0))) * x) + ((tn * ((I 123) ((16 * q) + 1))) * y)) + ((tn * ((I 123) ((16 * q) + 2))) * z))) - (tn * ((I 123) ((16 * q) + 3))))) * (-1)) dX8_layMoved_259 rfl rfl ?_
  refine ev_iconst (pc' := 261) (v := 2) dX8_layMoved_260 rfl ki_2 ?_
  refine ev_iload (pc' := 263) dX8_layMoved_261 rfl rfl ?_
  refine ev_imul (pc' := 264) (v := 2 * x) dX8_layMoved_263 rfl rfl ?_
  refine ev_aload_n (pc' := 265) (i := 0) dX8_layMoved_264 rfl rfl rfl ?_
  refine ev_getR (pc' := 268) fo_X8_43 dX8_layMoved_265 rfl hs_115 rfl rf_115_15 ?_
  refine ev_iconst (pc' := 269) (v := 4) dX8_layMoved_268 rfl ki_4 ?_
  refine ev_iload (pc' := 271) dX8_layMoved_269 rfl rfl ?_
  refine ev_imul (pc' := 272) (v := 0) dX8_layMoved_271 rfl (by decide) ?_
  refine ev_iconst (pc' := 273) (v := 3) dX8_layMoved_272 rfl ki_3 ?_
  refine ev_iadd (pc' := 274) (v := 3) dX8_layMoved_273 rfl (by decide) ?_
  refine ev_iald (pc' := 275) (j := 3) (v := tn * ((I 123) ((16 * q) + 3))) dX8_layMoved_274 rfl hs_125 rfl (Nat.le_of_ble_eq_true rfl) (Nat.le_of_ble_eq_true rfl) rfl ?_
  refine ev_imul (pc' := 276) (v := (2 * x) * (tn * ((I 123) ((16 * q) + 3)))) dX8_layMoved_275 rfl rfl ?_
  refine ev_isub (pc' := 277) (v := ((x * (((tn * ((I 123) ((16 * q) + 3))) - ((((tn * ((I 123) ((16 * q) + 0))) * x) + ((tn * ((I 123) ((16 * q) + 1))) * y)) + ((tn * ((I 123) ((16 * q) + 2))) * z))) - (tn * ((I 123) ((16 * q) + 3))))) * (-1)) - ((2 * x) * (tn * ((I 123) ((16 * q) + 3))))) dX8_layMoved_276 rfl rfl ?_
  refine ev_iadd (pc' := 278) (v := (tn * ((I 123) ((16 * q) + 15))) + (((x * (((tn * ((I 123) ((16 * q) + 3))) - ((((tn * ((I 123) ((16 * q) + 0))) * x) + ((tn * ((I 123) ((16 * q) + 1))) * y)) + ((tn * ((I 123) ((16 * q) + 2))) * z))) - (tn * ((I 123) ((16 * q) + 3))))) * (-1)) - ((2 * x) * (tn * ((I 123) ((16 * q) + 3)))))) dX8_layMoved_277 rfl rfl ?_
  refine ev_istore (pc' := 280) (lv' := [some (.ref 115), some (.int (nI q)), some (.ref 134), some (.int x), some (.int y), some (.int z), some (.int tn), some (.int ((tn * ((I 123) ((16 * q) + 15))) + (((x * (((tn * ((I 123) ((16 * q) + 3))) - ((((tn * ((I 123) ((16 * q) + 0))) * x) + ((tn * ((I 123) ((16 * q) + 1))) * y)) + ((tn * ((I 123) ((16 * q) + 2))) * z))) - (tn * ((I 123) ((16 * q) + 3))))) * (-1)) - ((2 * x) * (tn * ((I 123) ((16 * q) + 3))))))), some (.int 0), some (.int x)]) dX8_layMoved_278 rfl (Nat.le_of_ble_eq_true rfl) rfl rfl ?_
  refine ev_iinc (pc' := 283) (v := 1) (lv' := [some (.ref 115), some (.int (nI q)), some (.ref 134), some (.int x), some (.int y), some (.int z), some (.int tn), some (.int ((tn * ((I 123) ((16 * q) + 15))) + (((x * (((tn * ((I 123) ((16 * q) + 3))) - ((((tn * ((I 123) ((16 * q) + 0))) * x) + ((tn * ((I 123) ((16 * q) + 1))) * y)) + ((tn * ((I 123) ((16 * q) + 2))) * z))) - (tn * ((I 123) ((16 * q) + 3))))) * (-1)) - ((2 * x) * (tn * ((I 123) ((16 * q) + 3))))))), some (.int 1), some (.int x)]) dX8_layMoved_280 rfl rfl (by decide) (Nat.le_of_ble_eq_true rfl) rfl rfl ?_
  refine ev_goto (tgt := 203) dX8_layMoved_283 rfl ?_
  refine ev_iload (pc' := 205) dX8_layMoved_203 rfl rfl ?_
  refine ev_iconst (pc' := 206) (v := 3) dX8_layMoved_205 rfl ki_3 ?_
  refine ev_icmp_ge (tgt := 286) (pc' := 209) dX8_layMoved_206 rfl rfl (fun h => absurd h (by decide)) (fun _ => ?_)
  refine ev_iload (pc' := 211) dX8_layMoved_209 rfl rfl ?_
  refine ev_if_ne (tgt := 218) (pc' := 214) dX8_layMoved_211 rfl rfl (fun _ => ?_) (fun h => absurd h (by decide))
  refine ev_iload (pc' := 220) dX8_layMoved_218 rfl rfl ?_
  refine ev_iconst (pc' := 221) (v := 1) dX8_layMoved_220 rfl ki_1 ?_
  refine ev_icmp_ne (tgt := 229) (pc' := 224) dX8_layMoved_221 rfl rfl (fun h => absurd (by decide) h) (fun _ => ?_)
  refine ev_iload (pc' := 226) dX8_layMoved_224 rfl rfl ?_
  refine ev_goto (tgt := 231) dX8_layMoved_226 rfl ?_
  refine ev_istore (pc' := 233) (lv' := [some (.ref 115), some (.int (nI q)), some (.ref 134), some (.int x), some (.int y), some (.int z), some (.int tn), some (.int ((tn * ((I 123) ((16 * q) + 15))) + (((x * (((tn * ((I 123) ((16 * q) + 3))) - ((((tn * ((I 123) ((16 * q) + 0))) * x) + ((tn * ((I 123) ((16 * q) + 1))) * y)) + ((tn * ((I 123) ((16 * q) + 2))) * z))) - (tn * ((I 123) ((16 * q) + 3))))) * (-1)) - ((2 * x) * (tn * ((I 123) ((16 * q) + 3))))))), some (.int 1), some (.int y)]) dX8_layMoved_231 rfl (Nat.le_of_ble_eq_true rfl) rfl rfl ?_
  refine ev_iload (pc' := 235) dX8_layMoved_233 rfl rfl ?_
  refine ev_iload (pc' := 237) dX8_layMoved_235 rfl rfl ?_
  refine ev_aload_n (pc' := 238) (i := 2) dX8_layMoved_237 rfl rfl rfl ?_
  refine ev_iconst (pc' := 239) (v := 4) dX8_layMoved_238 rfl ki_4 ?_
  refine ev_iload (pc' := 241) dX8_layMoved_239 rfl rfl ?_
  refine ev_imul (pc' := 242) (v := 4) dX8_layMoved_241 rfl (by decide) ?_
  refine ev_iconst (pc' := 243) (v := 3) dX8_layMoved_242 rfl ki_3 ?_
  refine ev_iadd (pc' := 244) (v := 7) dX8_layMoved_243 rfl (by decide) ?_
  refine ev_iald (pc' := 245) (j := 7) (v := (tn * ((I 123) ((16 * q) + 7))) - ((((tn * ((I 123) ((16 * q) + 4))) * x) + ((tn * ((I 123) ((16 * q) + 5))) * y)) + ((tn * ((I 123) ((16 * q) + 6))) * z))) dX8_layMoved_244 rfl hs_134 rfl (Nat.le_of_ble_eq_true rfl) (Nat.le_of_ble_eq_true rfl) rfl ?_
  refine ev_aload_n (pc' := 246) (i := 0) dX8_layMoved_245 rfl rfl rfl ?_
  refine ev_getR (pc' := 249) fo_X8_43 dX8_layMoved_246 rfl hs_115 rfl rf_115_15 ?_
  refine ev_iconst (pc' := 250) (v := 4) dX8_layMoved_249 rfl ki_4 ?_
  refine ev_iload (pc' := 252) dX8_layMoved_250 rfl rfl ?_
  refine ev_imul (pc' := 253) (v := 4) dX8_layMoved_252 rfl (by decide) ?_
  refine ev_iconst (pc' := 254) (v := 3) dX8_layMoved_253 rfl ki_3 ?_
  refine ev_iadd (pc' := 255) (v := 7) dX8_layMoved_254 rfl (by decide) ?_
  refine ev_iald (pc' := 256) (j := 7) (v := tn * ((I 123) ((16 * q) + 7))) dX8_layMoved_255 rfl hs_125 rfl (Nat.le_of_ble_eq_true rfl) (Nat.le_of_ble_eq_true rfl) rfl ?_
  refine ev_isub (pc' := 257) (v := ((tn * ((I 123) ((16 * q) + 7))) - ((((tn * ((I 123) ((16 * q) + 4))) * x) + ((tn * ((I 123) ((16 * q) + 5))) * y)) + ((tn * ((I 123) ((16 * q) + 6))) * z))) - (tn * ((I 123) ((16 * q) + 7)))) dX8_layMoved_256 rfl rfl ?_
  refine ev_imul (pc' := 258) (v := y * (((tn * ((I 123) ((16 * q) + 7))) - ((((tn * ((I 123) ((16 * q) + 4))) * x) + ((tn * ((I 123) ((16 * q) + 5))) * y)) + ((tn * ((I 123) ((16 * q) + 6))) * z))) - (tn * ((I 123) ((16 * q) + 7))))) dX8_layMoved_257 rfl rfl ?_
  refine ev_iconst (pc' := 259) (v := (-1)) dX8_layMoved_258 rfl ki_m1 ?_
  refine ev_imul (pc' := 260) (v := (y * (((tn * ((I 123) ((16 * q) + 7))) - ((((tn * ((I 123) ((16 * q) + 4))) * x) + ((tn * ((I 123) ((16 * q) + 5))) * y)) + ((tn * ((I 123) ((16 * q) + 6))) * z))) - (tn * ((I 123) ((16 * q) + 7))))) * (-1)) dX8_layMoved_259 rfl rfl ?_
  refine ev_iconst (pc' := 261) (v := 2) dX8_layMoved_260 rfl ki_2 ?_
  refine ev_iload (pc' := 263) dX8_layMoved_261 rfl rfl ?_
  refine ev_imul (pc' := 264) (v := 2 * y) dX8_layMoved_263 rfl rfl ?_
  refine ev_aload_n (pc' := 265) (i := 0) dX8_layMoved_264 rfl rfl rfl ?_
  refine ev_getR (pc' := 268) fo_X8_43 dX8_layMoved_265 rfl hs_115 rfl rf_115_15 ?_
  refine ev_iconst (pc' := 269) (v := 4) dX8_layMoved_268 rfl ki_4 ?_
  refine ev_iload (pc' := 271) dX8_layMoved_269 rfl rfl ?_
  refine ev_imul (pc' := 272) (v := 4) dX8_layMoved_271 rfl (by decide) ?_
  refine ev_iconst (pc' := 273) (v := 3) dX8_layMoved_272 rfl ki_3 ?_
  refine ev_iadd (pc' := 274) (v := 7) dX8_layMoved_273 rfl (by decide) ?_
  refine ev_iald (pc' := 275) (j := 7) (v := tn * ((I 123) ((16 * q) + 7))) dX8_layMoved_274 rfl hs_125 rfl (Nat.le_of_ble_eq_true rfl) (Nat.le_of_ble_eq_true rfl) rfl ?_
  refine ev_imul (pc' := 276) (v := (2 * y) * (tn * ((I 123) ((16 * q) + 7)))) dX8_layMoved_275 rfl rfl ?_
  refine ev_isub (pc' := 277) (v := ((y * (((tn * ((I 123) ((16 * q) + 7))) - ((((tn * ((I 123) ((16 * q) + 4))) * x) + ((tn * ((I 123) ((16 * q) + 5))) * y)) + ((tn * ((I 123) ((16 * q) + 6))) * z))) - (tn * ((I 123) ((16 * q) + 7))))) * (-1)) - ((2 * y) * (tn * ((I 123) ((16 * q) + 7))))) dX8_layMoved_276 rfl rfl ?_
  refine ev_iadd (pc' := 278) (v := ((tn * ((I 123) ((16 * q) + 15))) + (((x * (((tn * ((I 123) ((16 * q) + 3))) - ((((tn * ((I 123) ((16 * q) + 0))) * x) + ((tn * ((I 123) ((16 * q) + 1))) * y)) + ((tn * ((I 123) ((16 * q) + 2))) * z))) - (tn * ((I 123) ((16 * q) + 3))))) * (-1)) - ((2 * x) * (tn * ((I 123) ((16 * q) + 3)))))) + (((y * (((tn * ((I 123) ((16 * q) + 7))) - ((((tn * ((I 123) ((16 * q) + 4))) * x) + ((tn * ((I 123) ((16 * q) + 5))) * y)) + ((tn * ((I 123) ((16 * q) + 6))) * z))) - (tn * ((I 123) ((16 * q) + 7))))) * (-1)) - ((2 * y) * (tn * ((I 123) ((16 * q) + 7)))))) dX8_layMoved_277 rfl rfl ?_
  refine ev_istore (pc' := 280) (lv' := [some (.ref 115), some (.int (nI q)), some (.ref 134), some (.int x), some (.int y), some (.int z), some (.int tn), some (.int (((tn * ((I 123) ((16 * q) + 15))) + (((x * (((tn * ((I 123) ((16 * q) + 3))) - ((((tn * ((I 123) ((16 * q) + 0))) * x) + ((tn * ((I 123) ((16 * q) + 1))) * y)) + ((tn * ((I 123) ((16 * q) + 2))) * z))) - (tn * ((I 123) ((16 * q) + 3))))) * (-1)) - ((2 * x) * (tn * ((I 123) ((16 * q) + 3)))))) + (((y * (((tn * ((I 123) ((16 * q) + 7))) - ((((tn * ((I 123) ((16 * q) + 4))) * x) + ((tn * ((I 123) ((16 * q) + 5))) * y)) + ((tn * ((I 123) ((16 * q) + 6))) * z))) - (tn * ((I 123) ((16 * q) + 7))))) * (-1)) - ((2 * y) * (tn * ((I 123) ((16 * q) + 7))))))), some (.int 1), some (.int y)]) dX8_layMoved_278 rfl (Nat.le_of_ble_eq_true rfl) rfl rfl ?_
  refine ev_iinc (pc' := 283) (v := 2) (lv' := [some (.ref 115), some (.int (nI q)), some (.ref 134), some (.int x), some (.int y), some (.int z), some (.int tn), some (.int (((tn * ((I 123) ((16 * q) + 15))) + (((x * (((tn * ((I 123) ((16 * q) + 3))) - ((((tn * ((I 123) ((16 * q) + 0))) * x) + ((tn * ((I 123) ((16 * q) + 1))) * y)) + ((tn * ((I 123) ((16 * q) + 2))) * z))) - (tn * ((I 123) ((16 * q) + 3))))) * (-1)) - ((2 * x) * (tn * ((I 123) ((16 * q) + 3)))))) + (((y * (((tn * ((I 123) ((16 * q) + 7))) - ((((tn * ((I 123) ((16 * q) + 4))) * x) + ((tn * ((I 123) ((16 * q) + 5))) * y)) + ((tn * ((I 123) ((16 * q) + 6))) * z))) - (tn * ((I 123) ((16 * q) + 7))))) * (-1)) - ((2 * y) * (tn * ((I 123) ((16 * q) + 7))))))), some (.int 2), some (.int y)]) dX8_layMoved_280 rfl rfl (by decide) (Nat.le_of_ble_eq_true rfl) rfl rfl ?_
  refine ev_goto (tgt := 203) dX8_layMoved_283 rfl ?_
  refine ev_iload (pc' := 205) dX8_layMoved_203 rfl rfl ?_
  refine ev_iconst (pc' := 206) (v := 3) dX8_layMoved_205 rfl ki_3 ?_
  refine ev_icmp_ge (tgt := 286) (pc' := 209) dX8_layMoved_206 rfl rfl (fun h => absurd h (by decide)) (fun _ => ?_)
  refine ev_iload (pc' := 211) dX8_layMoved_209 rfl rfl ?_
  refine ev_if_ne (tgt := 218) (pc' := 214) dX8_layMoved_211 rfl rfl (fun _ => ?_) (fun h => absurd h (by decide))
  refine ev_iload (pc' := 220) dX8_layMoved_218 rfl rfl ?_
  refine ev_iconst (pc' := 221) (v := 1) dX8_layMoved_220 rfl ki_1 ?_
  refine ev_icmp_ne (tgt := 229) (pc' := 224) dX8_layMoved_221 rfl rfl (fun _ => ?_) (fun h => absurd h (by decide))
  refine ev_iload (pc' := 231) dX8_layMoved_229 rfl rfl ?_
  refine ev_istore (pc' := 233) (lv' := [some (.ref 115), some (.int (nI q)), some (.ref 134), some (.int x), some (.int y), some (.int z), some (.int tn), some (.int (((tn * ((I 123) ((16 * q) + 15))) + (((x * (((tn * ((I 123) ((16 * q) + 3))) - ((((tn * ((I 123) ((16 * q) + 0))) * x) + ((tn * ((I 123) ((16 * q) + 1))) * y)) + ((tn * ((I 123) ((16 * q) + 2))) * z))) - (tn * ((I 123) ((16 * q) + 3))))) * (-1)) - ((2 * x) * (tn * ((I 123) ((16 * q) + 3)))))) + (((y * (((tn * ((I 123) ((16 * q) + 7))) - ((((tn * ((I 123) ((16 * q) + 4))) * x) + ((tn * ((I 123) ((16 * q) + 5))) * y)) + ((tn * ((I 123) ((16 * q) + 6))) * z))) - (tn * ((I 123) ((16 * q) + 7))))) * (-1)) - ((2 * y) * (tn * ((I 123) ((16 * q) + 7))))))), some (.int 2), some (.int z)]) dX8_layMoved_231 rfl (Nat.le_of_ble_eq_true rfl) rfl rfl ?_
  refine ev_iload (pc' := 235) dX8_layMoved_233 rfl rfl ?_
  refine ev_iload (pc' := 237) dX8_layMoved_235 rfl rfl ?_
  refine ev_aload_n (pc' := 238) (i := 2) dX8_layMoved_237 rfl rfl rfl ?_
  refine ev_iconst (pc' := 239) (v := 4) dX8_layMoved_238 rfl ki_4 ?_
  refine ev_iload (pc' := 241) dX8_layMoved_239 rfl rfl ?_
  refine ev_imul (pc' := 242) (v := 8) dX8_layMoved_241 rfl (by decide) ?_
  refine ev_iconst (pc' := 243) (v := 3) dX8_layMoved_242 rfl ki_3 ?_
  refine ev_iadd (pc' := 244) (v := 11) dX8_layMoved_243 rfl (by decide) ?_
  refine ev_iald (pc' := 245) (j := 11) (v := (tn * ((I 123) ((16 * q) + 11))) - ((((tn * ((I 123) ((16 * q) + 8))) * x) + ((tn * ((I 123) ((16 * q) + 9))) * y)) + ((tn * ((I 123) ((16 * q) + 10))) * z))) dX8_layMoved_244 rfl hs_134 rfl (Nat.le_of_ble_eq_true rfl) (Nat.le_of_ble_eq_true rfl) rfl ?_
  refine ev_aload_n (pc' := 246) (i := 0) dX8_layMoved_245 rfl rfl rfl ?_
  refine ev_getR (pc' := 249) fo_X8_43 dX8_layMoved_246 rfl hs_115 rfl rf_115_15 ?_
  refine ev_iconst (pc' := 250) (v := 4) dX8_layMoved_249 rfl ki_4 ?_
  refine ev_iload (pc' := 252) dX8_layMoved_250 rfl rfl ?_
  refine ev_imul (pc' := 253) (v := 8) dX8_layMoved_252 rfl (by decide) ?_
  refine ev_iconst (pc' := 254) (v := 3) dX8_layMoved_253 rfl ki_3 ?_
  refine ev_iadd (pc' := 255) (v := 11) dX8_layMoved_254 rfl (by decide) ?_
  refine ev_iald (pc' := 256) (j := 11) (v := tn * ((I 123) ((16 * q) + 11))) dX8_layMoved_255 rfl hs_125 rfl (Nat.le_of_ble_eq_true rfl) (Nat.le_of_ble_eq_true rfl) rfl ?_
  refine ev_isub (pc' := 257) (v := ((tn * ((I 123) ((16 * q) + 11))) - ((((tn * ((I 123) ((16 * q) + 8))) * x) + ((tn * ((I 123) ((16 * q) + 9))) * y)) + ((tn * ((I 123) ((16 * q) + 10))) * z))) - (tn * ((I 123) ((16 * q) + 11)))) dX8_layMoved_256 rfl rfl ?_
  refine ev_imul (pc' := 258) (v := z * (((tn * ((I 123) ((16 * q) + 11))) - ((((tn * ((I 123) ((16 * q) + 8))) * x) + ((tn * ((I 123) ((16 * q) + 9))) * y)) + ((tn * ((I 123) ((16 * q) + 10))) * z))) - (tn * ((I 123) ((16 * q) + 11))))) dX8_layMoved_257 rfl rfl ?_
  refine ev_iconst (pc' := 259) (v := (-1)) dX8_layMoved_258 rfl ki_m1 ?_
  refine ev_imul (pc' := 260) (v := (z * (((tn * ((I 123) ((16 * q) + 11))) - ((((tn * ((I 123) ((16 * q) + 8))) * x) + ((tn * ((I 123) ((16 * q) + 9))) * y)) + ((tn * ((I 123) ((16 * q) + 10))) * z))) - (tn * ((I 123) ((16 * q) + 11))))) * (-1)) dX8_layMoved_259 rfl rfl ?_
  refine ev_iconst (pc' := 261) (v := 2) dX8_layMoved_260 rfl ki_2 ?_
  refine ev_iload (pc' := 263) dX8_layMoved_261 rfl rfl ?_
  refine ev_imul (pc' := 264) (v := 2 * z) dX8_layMoved_263 rfl rfl ?_
  refine ev_aload_n (pc' := 265) (i := 0) dX8_layMoved_264 rfl rfl rfl ?_
  refine ev_getR (pc' := 268) fo_X8_43 dX8_layMoved_265 rfl hs_115 rfl rf_115_15 ?_
  refine ev_iconst (pc' := 269) (v := 4) dX8_layMoved_268 rfl ki_4 ?_
  refine ev_iload (pc' := 271) dX8_layMoved_269 rfl rfl ?_
  refine ev_imul (pc' := 272) (v := 8) dX8_layMoved_271 rfl (by decide) ?_
  refine ev_iconst (pc' := 273) (v := 3) dX8_layMoved_272 rfl ki_3 ?_
  refine ev_iadd (pc' := 274) (v := 11) dX8_layMoved_273 rfl (by decide) ?_
  refine ev_iald (pc' := 275) (j := 11) (v := tn * ((I 123) ((16 * q) + 11))) dX8_layMoved_274 rfl hs_125 rfl (Nat.le_of_ble_eq_true rfl) (Nat.le_of_ble_eq_true rfl) rfl ?_
  refine ev_imul (pc' := 276) (v := (2 * z) * (tn * ((I 123) ((16 * q) + 11)))) dX8_layMoved_275 rfl rfl ?_
  refine ev_isub (pc' := 277) (v := ((z * (((tn * ((I 123) ((16 * q) + 11))) - ((((tn * ((I 123) ((16 * q) + 8))) * x) + ((tn * ((I 123) ((16 * q) + 9))) * y)) + ((tn * ((I 123) ((16 * q) + 10))) * z))) - (tn * ((I 123) ((16 * q) + 11))))) * (-1)) - ((2 * z) * (tn * ((I 123) ((16 * q) + 11))))) dX8_layMoved_276 rfl rfl ?_
  refine ev_iadd (pc' := 278) (v := (((tn * ((I 123) ((16 * q) + 15))) + (((x * (((tn * ((I 123) ((16 * q) + 3))) - ((((tn * ((I 123) ((16 * q) + 0))) * x) + ((tn * ((I 123) ((16 * q) + 1))) * y)) + ((tn * ((I 123) ((16 * q) + 2))) * z))) - (tn * ((I 123) ((16 * q) + 3))))) * (-1)) - ((2 * x) * (tn * ((I 123) ((16 * q) + 3)))))) + (((y * (((tn * ((I 123) ((16 * q) + 7))) - ((((tn * ((I 123) ((16 * q) + 4))) * x) + ((tn * ((I 123) ((16 * q) + 5))) * y)) + ((tn * ((I 123) ((16 * q) + 6))) * z))) - (tn * ((I 123) ((16 * q) + 7))))) * (-1)) - ((2 * y) * (tn * ((I 123) ((16 * q) + 7)))))) + (((z * (((tn * ((I 123) ((16 * q) + 11))) - ((((tn * ((I 123) ((16 * q) + 8))) * x) + ((tn * ((I 123) ((16 * q) + 9))) * y)) + ((tn * ((I 123) ((16 * q) + 10))) * z))) - (tn * ((I 123) ((16 * q) + 11))))) * (-1)) - ((2 * z) * (tn * ((I 123) ((16 * q) + 11)))))) dX8_layMoved_277 rfl rfl ?_
  refine ev_istore (pc' := 280) (lv' := [some (.ref 115), some (.int (nI q)), some (.ref 134), some (.int x), some (.int y), some (.int z), some (.int tn), some (.int ((((tn * ((I 123) ((16 * q) + 15))) + (((x * (((tn * ((I 123) ((16 * q) + 3))) - ((((tn * ((I 123) ((16 * q) + 0))) * x) + ((tn * ((I 123) ((16 * q) + 1))) * y)) + ((tn * ((I 123) ((16 * q) + 2))) * z))) - (tn * ((I 123) ((16 * q) + 3))))) * (-1)) - ((2 * x) * (tn * ((I 123) ((16 * q) + 3)))))) + (((y * (((tn * ((I 123) ((16 * q) + 7))) - ((((tn * ((I 123) ((16 * q) + 4))) * x) + ((tn * ((I 123) ((16 * q) + 5))) * y)) + ((tn * ((I 123) ((16 * q) + 6))) * z))) - (tn * ((I 123) ((16 * q) + 7))))) * (-1)) - ((2 * y) * (tn * ((I 123) ((16 * q) + 7)))))) + (((z * (((tn * ((I 123) ((16 * q) + 11))) - ((((tn * ((I 123) ((16 * q) + 8))) * x) + ((tn * ((I 123) ((16 * q) + 9))) * y)) + ((tn * ((I 123) ((16 * q) + 10))) * z))) - (tn * ((I 123) ((16 * q) + 11))))) * (-1)) - ((2 * z) * (tn * ((I 123) ((16 * q) + 11))))))), some (.int 2), some (.int z)]) dX8_layMoved_278 rfl (Nat.le_of_ble_eq_true rfl) rfl rfl ?_
  refine ev_iinc (pc' := 283) (v := 3) (lv' := [some (.ref 115), some (.int (nI q)), some (.ref 134), some (.int x), some (.int y), some (.int z), some (.int tn), some (.int ((((tn * ((I 123) ((16 * q) + 15))) + (((x * (((tn * ((I 123) ((16 * q) + 3))) - ((((tn * ((I 123) ((16 * q) + 0))) * x) + ((tn * ((I 123) ((16 * q) + 1))) * y)) + ((tn * ((I 123) ((16 * q) + 2))) * z))) - (tn * ((I 123) ((16 * q) + 3))))) * (-1)) - ((2 * x) * (tn * ((I 123) ((16 * q) + 3)))))) + (((y * (((tn * ((I 123) ((16 * q) + 7))) - ((((tn * ((I 123) ((16 * q) + 4))) * x) + ((tn * ((I 123) ((16 * q) + 5))) * y)) + ((tn * ((I 123) ((16 * q) + 6))) * z))) - (tn * ((I 123) ((16 * q) + 7))))) * (-1)) - ((2 * y) * (tn * ((I 123) ((16 * q) + 7)))))) + (((z * (((tn * ((I 123) ((16 * q) + 11))) - ((((tn * ((I 123) ((16 * q) + 8))) * x) + ((tn * ((I 123) ((16 * q) + 9))) * y)) + ((tn * ((I 123) ((16 * q) + 10))) * z))) - (tn * ((I 123) ((16 * q) + 11))))) * (-1)) - ((2 * z) * (tn * ((I 123) ((16 * q) + 11))))))), some (.int 3), some (.int z)]) dX8_layMoved_280 rfl rfl (by decide) (Nat.le_of_ble_eq_true rfl) rfl rfl ?_
  refine ev_goto (tgt := 203) dX8_layMoved_283 rfl ?_
  refine ev_iload (pc' := 205) dX8_layMoved_203 rfl rfl ?_
  refine ev_iconst (pc' := 206) (v := 3) dX8_layMoved_205 rfl ki_3 ?_
  refine ev_icmp_ge (tgt := 286) (pc' := 209) dX8_layMoved_206 rfl rfl (fun _ => ?_) (fun h => absurd (by decide) h)
  refine ev_aload_n (pc' := 287) (i := 2) dX8_layMoved_286 rfl rfl rfl ?_
  refine ev_bipush (pc' := 289) (v := 15) dX8_layMoved_287 rfl kb_15 ?_
  refine ev_iload (pc' := 291) dX8_layMoved_289 rfl rfl ?_
  refine ev_iast (pc' := 292) (j := 15) (I' := (ma_up (ma_up I 125 (ma_up (ma_up (ma_up (ma_up (ma_up (ma_up (ma_up (ma_up (ma_up (ma_up (ma_up (ma_up (ma_up (ma_up (ma_up (ma_up (I 125) 0 (tn * ((I 123) ((16 * q) + 0)))) 1 (tn * ((I 123) ((16 * q) + 1)))) 2 (tn * ((I 123) ((16 * q) + 2)))) 3 (tn * ((I 123) ((16 * q) + 3)))) 4 (tn * ((I 123) ((16 * q) + 4)))) 5 (tn * ((I 123) ((16 * q) + 5)))) 6 (tn * ((I 123) ((16 * q) + 6)))) 7 (tn * ((I 123) ((16 * q) + 7)))) 8 (tn * ((I 123) ((16 * q) + 8)))) 9 (tn * ((I 123) ((16 * q) + 9)))) 10 (tn * ((I 123) ((16 * q) + 10)))) 11 (tn * ((I 123) ((16 * q) + 11)))) 12 (tn * ((I 123) ((16 * q) + 12)))) 13 (tn * ((I 123) ((16 * q) + 13)))) 14 (tn * ((I 123) ((16 * q) + 14)))) 15 (tn * ((I 123) ((16 * q) + 15))))) 134 (ma_up (ma_up (ma_up (ma_up (ma_up (ma_up (ma_up (ma_up (ma_up (ma_up (ma_up (ma_up (ma_up (ma_up (ma_up (ma_up (I 134) 3 ((tn * ((I 123) ((16 * q) + 3))) - ((((tn * ((I 123) ((16 * q) + 0))) * x) + ((tn * ((I 123) ((16 * q) + 1))) * y)) + ((tn * ((I 123) ((16 * q) + 2))) * z)))) 12 ((tn * ((I 123) ((16 * q) + 3))) - ((((tn * ((I 123) ((16 * q) + 0))) * x) + ((tn * ((I 123) ((16 * q) + 1))) * y)) + ((tn * ((I 123) ((16 * q) + 2))) * z)))) 0 (tn * ((I 123) ((16 * q) + 0)))) 1 (tn * ((I 123) ((16 * q) + 1)))) 2 (tn * ((I 123) ((16 * q) + 2)))) 7 ((tn * ((I 123) ((16 * q) + 7))) - ((((tn * ((I 123) ((16 * q) + 4))) * x) + ((tn * ((I 123) ((16 * q) + 5))) * y)) + ((tn * ((I 123) ((16 * q) + 6))) * z)))) 13 ((tn * ((I 123) ((16 * q) + 7))) - ((((tn * ((I 123) ((16 * q) + 4))) * x) + ((tn * ((I 123) ((16 * q) + 5))) * y)) + ((tn * ((I 123) ((16 * q) + 6))) * z)))) 4 (tn * ((I 123) ((16 * q) + 4)))) 5 (tn * ((I 123) ((16 * q) + 5)))) 6 (tn * ((I 123) ((16 * q) + 6)))) 11 ((tn * ((I 123) ((16 * q) + 11))) - ((((tn * ((I 123) ((16 * q) + 8))) * x) + ((tn * ((I 123) ((16 * q) + 9))) * y)) + ((tn * ((I 123) ((16 * q) + 10))) * z)))) 14 ((tn * ((I 123) ((16 * q) + 11))) - ((((tn * ((I 123) ((16 * q) + 8))) * x) + ((tn * ((I 123) ((16 * q) + 9))) * y)) + ((tn * ((I 123) ((16 * q) + 10))) * z)))) 8 (tn * ((I 123) ((16 * q) + 8)))) 9 (tn * ((I 123) ((16 * q) + 9)))) 10 (tn * ((I 123) ((16 * q) + 10)))) 15 ((((tn * ((I 123) ((16 * q) + 15))) + (((x * (((tn * ((I 123) ((16 * q) + 3))) - ((((tn * ((I 123) ((16 * q) + 0))) * x) + ((tn * ((I 123) ((16 * q) + 1))) * y)) + ((tn * ((I 123) ((16 * q) + 2))) * z))) - (tn * ((I 123) ((16 * q) + 3))))) * (-1)) - ((2 * x) * (tn * ((I 123) ((16 * q) + 3)))))) + (((y * (((tn * ((I 123) ((16 * q) + 7))) - ((((tn * ((I 123) ((16 * q) + 4))) * x) + ((tn * ((I 123) ((16 * q) + 5))) * y)) + ((tn * ((I 123) ((16 * q) + 6))) * z))) - (tn * ((I 123) ((16 * q) + 7))))) * (-1)) - ((2 * y) * (tn * ((I 123) ((16 * q) + 7)))))) + (((z * (((tn * ((I 123) ((16 * q) + 11))) - ((((tn * ((I 123) ((16 * q) + 8))) * x) + ((tn * ((I 123) ((16 * q) + 9))) * y)) + ((tn * ((I 123) ((16 * q) + 10))) * z))) - (tn * ((I 123) ((16 * q) + 11))))) * (-1)) - ((2 * z) * (tn * ((I 123) ((16 * q) + 11))))))))) dX8_layMoved_291 rfl hs_134 rfl (Nat.le_of_ble_eq_true rfl) (Nat.le_of_ble_eq_true rfl) (ma_up_up _ _ _ _) ?_
  refine ev_vret dX8_layMoved_292 rfl ⟨Nat.le_refl _, Nat.le_refl _⟩ ?_
  exact k _ _ (fun j hj => by rw [show mTn (I 124) q = tn from htn.symm]; match j, hj with
    | 0, _ => rfl
    | 1, _ => rfl
    | 2, _ => rfl
    | 3, _ => rfl
    | 4, _ => rfl
    | 5, _ => rfl
    | 6, _ => rfl
    | 7, _ => rfl
    | 8, _ => rfl
    | 9, _ => rfl
    | 10, _ => rfl
    | 11, _ => rfl
    | 12, _ => rfl
    | 13, _ => rfl
    | 14, _ => rfl
    | 15, _ => rfl
    | j + 16, h => exact absurd h (by omega))
