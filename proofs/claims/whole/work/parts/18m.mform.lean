set_option maxRecDepth 4000 in
theorem t_X8_layForm {g : ma_G} {Post : ma_P} {I : ma_I} {L : ma_L}    (k : ∀ r : Nat → Int64, Post none HS I (ma_up (ma_up L 132 (ma_up (ma_up (ma_up (ma_up (ma_up (L 132) 0 (mSf [15] (I 133) (I 134))) 1 (mSf [7, 11, 13, 14] (I 133) (I 134))) 2 (mSf [3, 5, 6, 9, 10, 12] (I 133) (I 134))) 3 (mSf [1, 2, 4, 8] (I 133) (I 134))) 4 (mSf [0] (I 133) (I 134)))) 120 r) RF 146) : CT g yX8_layForm cX8_layForm 6 none rX8_layForm [.ref 115] Post HS I L RF 146 := by
  refine ct_of (lv := [some (.ref 115), none, none, none, none, none]) (by decide) (Nat.le_of_ble_eq_true rfl) rfl ?_
  refine ev_iconst (pc' := 1) (v := 0) dX8_layForm_0 rfl ki_0 ?_
  refine ev_istore_n (pc' := 2) (i := 1) (lv' := [some (.ref 115), some (.int 0), none, none, none, none]) dX8_layForm_1 rfl rfl (Nat.le_of_ble_eq_true rfl) rfl rfl ?_
  refine ev_iload_n (pc' := 3) (i := 1) dX8_layForm_2 rfl rfl rfl ?_
  refine ev_iconst (pc' := 4) (v := 5) dX8_layForm_3 rfl ki_5 ?_
  refine ev_icmp_ge (tgt := 20) (pc' := 7) dX8_layForm_4 rfl rfl (fun h => absurd h (by decide)) (fun _ => ?_)
  refine ev_aload_n (pc' := 8) (i := 0) dX8_layForm_7 rfl rfl rfl ?_
  refine ev_getR (pc' := 11) fo_X8_64 dX8_layForm_8 rfl hs_115 rfl rf_115_23 ?_
  refine ev_iload_n (pc' := 12) (i := 1) dX8_layForm_11 rfl rfl rfl ?_
  refine ev_lconst (pc' := 13) (v := 0) dX8_layForm_12 rfl kl_0 ?_
  refine ev_last (pc' := 14) (j := 0) (L' := (ma_up L 132 (ma_up (L 132) 0 0))) dX8_layForm_13 rfl hs_132 rfl (Nat.le_of_ble_eq_true rfl) (Nat.le_of_ble_eq_true rfl) rfl ?_
  refine ev_iinc (pc' := 17) (v := 1) (lv' := [some (.ref 115), some (.int 1), none, none, none, none]) dX8_layForm_14 rfl rfl (by decide) (Nat.le_of_ble_eq_true rfl) rfl rfl ?_
  refine ev_goto (tgt := 2) dX8_layForm_17 rfl ?_
  refine ev_iload_n (pc' := 3) (i := 1) dX8_layForm_2 rfl rfl rfl ?_
  refine ev_iconst (pc' := 4) (v := 5) dX8_layForm_3 rfl ki_5 ?_
  refine ev_icmp_ge (tgt := 20) (pc' := 7) dX8_layForm_4 rfl rfl (fun h => absurd h (by decide)) (fun _ => ?_)
  refine ev_aload_n (pc' := 8) (i := 0) dX8_layForm_7 rfl rfl rfl ?_
  refine ev_getR (pc' := 11) fo_X8_64 dX8_layForm_8 rfl hs_115 rfl rf_115_23 ?_
  refine ev_iload_n (pc' := 12) (i := 1) dX8_layForm_11 rfl rfl rfl ?_
  refine ev_lconst (pc' := 13) (v := 0) dX8_layForm_12 rfl kl_0 ?_
  refine ev_last (pc' := 14) (j := 1) (L' := (ma_up L 132 (ma_up (ma_up (L 132) 0 0) 1 0))) dX8_layForm_13 rfl hs_132 rfl (Nat.le_of_ble_eq_true rfl) (Nat.le_of_ble_eq_true rfl) (ma_up_up _ _ _ _) ?_
  refine ev_iinc (pc' := 17) (v := 2) (lv' := [some (.ref 115), some (.int 2), none, none, none, none]) dX8_layForm_14 rfl rfl (by decide) (Nat.le_of_ble_eq_true rfl) rfl rfl ?_
  refine ev_goto (tgt := 2) dX8_layForm_17 rfl ?_
  refine ev_iload_n (pc' := 3) (i := 1) dX8_layForm_2 rfl rfl rfl ?_
  refine ev_iconst (pc' := 4) (v := 5) dX8_layForm_3 rfl ki_5 ?_
  refine ev_icmp_ge (tgt := 20) (pc' := 7) dX8_layForm_4 rfl rfl (fun h => absurd h (by decide)) (fun _ => ?_)
  refine ev_aload_n (pc' := 8) (i := 0) dX8_layForm_7 rfl rfl rfl ?_
  refine ev_getR (pc' := 11) fo_X8_64 dX8_layForm_8 rfl hs_115 rfl rf_115_23 ?_
  refine ev_iload_n (pc' := 12) (i := 1) dX8_layForm_11 rfl rfl rfl ?_
  refine ev_lconst (pc' := 13) (v := 0) dX8_layForm_12 rfl kl_0 ?_
  refine ev_last (pc' := 14) (j := 2) (L' := (ma_up L 132 (ma_up (ma_up (ma_up (L 132) 0 0) 1 0) 2 0))) dX8_layForm_13 rfl hs_132 rfl (Nat.le_of_ble_eq_true rfl) (Nat.le_of_ble_eq_true rfl) (ma_up_up _ _ _ _) ?_
  refine ev_iinc (pc' := 17) (v := 3) (lv' := [some (.ref 115), some (.int 3), none, none, none, none]) dX8_layForm_14 rfl rfl (by decide) (Nat.le_of_ble_eq_true rfl) rfl rfl ?_
  refine ev_goto (tgt := 2) dX8_layForm_17 rfl ?_
  refine ev_iload_n (pc' := 3) (i := 1) dX8_layForm_2 rfl rfl rfl ?_
  refine ev_iconst (pc' := 4) (v := 5) dX8_layForm_3 rfl ki_5 ?_
  refine ev_icmp_ge (tgt := 20) (pc' := 7) dX8_layForm_4 rfl rfl (fun h => absurd h (by decide)) (fun _ => ?_)
  refine ev_aload_n (pc' := 8) (i := 0) dX8_layForm_7 rfl rfl rfl ?_
  refine ev_getR (pc' := 11) fo_X8_64 dX8_layForm_8 rfl hs_115 rfl rf_115_23 ?_
  refine ev_iload_n (pc' := 12) (i := 1) dX8_layForm_11 rfl rfl rfl ?_
  refine ev_lconst (pc' := 13) (v := 0) dX8_layForm_12 rfl kl_0 ?_
  refine ev_last (pc' := 14) (j := 3) (L' := (ma_up L 132 (ma_up (ma_up (ma_up (ma_up (L 132) 0 0) 1 0) 2 0) 3 0))) dX8_layForm_13 rfl hs_132 rfl (Nat.le_of_ble_eq_true rfl) (Nat.le_of_ble_eq_true rfl) (ma_up_up _ _ _ _) ?_
  refine ev_iinc (pc' := 17) (v := 4) (lv' := [some (.ref 115), some (.int 4), none, none, none, none]) dX8_layForm_14 rfl rfl (by decide) (Nat.le_of_ble_eq_true rfl) rfl rfl ?_
  refine ev_goto (tgt := 2) dX8_layForm_17 rfl ?_
  refine ev_iload_n (pc' := 3) (i := 1) dX8_layForm_2 rfl rfl rfl ?_
  refine ev_iconst (pc' := 4) (v := 5) dX8_layForm_3 rfl ki_5 ?_
  refine ev_icmp_ge (tgt := 20) (pc' := 7) dX8_layForm_4 rfl rfl (fun h => absurd h (by decide)) (fun _ => ?_)
  refine ev_aload_n (pc' := 8) (i := 0) dX8_layForm_7 rfl rfl rfl ?_
  refine ev_getR (pc' := 11) fo_X8_64 dX8_layForm_8 rfl hs_115 rfl rf_115_23 ?_
  refine ev_iload_n (pc' := 12) (i := 1) dX8_layForm_11 rfl rfl rfl ?_
  refine ev_lconst (pc' := 13) (v := 0) dX8_layForm_12 rfl kl_0 ?_
  refine ev_last (pc' := 14) (j := 4) (L' := (ma_up L 132 (ma_up (ma_up (ma_up (ma_up (ma_up (L 132) 0 0) 1 0) 2 0) 3 0) 4 0))) dX8_layForm_13 rfl hs_132 rfl (Nat.le_of_ble_eq_true rfl) (Nat.le_of_ble_eq_true rfl) (ma_up_up _ _ _ _) ?_
  refine ev_iinc (pc' := 17) (v := 5) (lv' := [some (.ref 115), some (.int 5), none, none, none, none]) dX8_layForm_14 rfl rfl (by decide) (Nat.le_of_ble_eq_true rfl) rfl rfl ?_
  refine ev_goto (tgt := 2) dX8_layForm_17 rfl ?_
  refine ev_iload_n (pc' := 3) (i := 1) dX8_layForm_2 rfl rfl rfl ?_
  refine ev_iconst (pc' := 4) (v := 5) dX8_layForm_3 rfl ki_5 ?_
  refine ev_icmp_ge (tgt := 20) (pc' := 7) dX8_layForm_4 rfl rfl (fun _ => ?_) (fun h => absurd (by decide) h)
  refine ev_iconst (pc' := 21) (v := 0) dX8_layForm_20 rfl ki_0 ?_
  refine ev_istore_n (pc' := 22) (i := 1) (lv' := [some (.ref 115), some (.int 0), none, none, none, none]) dX8_layForm_21 rfl rfl (Nat.le_of_ble_eq_true rfl) rfl rfl ?_
  refine ev_iload_n (pc' := 23) (i := 1) dX8_layForm_22 rfl rfl rfl ?_
  refine ev_bipush (pc' := 25) (v := 16) dX8_layForm_23 rfl kb_16 ?_
  refine ev_icmp_ge (tgt := 154) (pc' := 28) dX8_layForm_25 rfl rfl (fun h => absurd h (by decide)) (fun _ => ?_)
  refine ev_iconst (pc' := 29) (v := 0) dX8_layForm_28 rfl ki_0 ?_
  refine ev_istore_n (pc' := 30) (i := 2) (lv' := [some (.ref 115), some (.int 0), some (.int 0), none, none, none]) dX8_layForm_29 rfl rfl (Nat.le_of_ble_eq_true rfl) rfl rfl ?_
  refine ev_iconst (pc' := 31) (v := 0) dX8_layForm_30 rfl ki_0 ?_
  refine ev_istore_n (pc' := 32) (i := 3) (lv' := [some (.ref 115), some (.int 0), some (.int 0), some (.int 0), none, none]) dX8_layForm_31 rfl rfl (Nat.le_of_ble_eq_true rfl) rfl rfl ?_
  refine ev_iload_n (pc' := 33) (i := 3) dX8_layForm_32 rfl rfl rfl ?_
  refine ev_iconst (pc' := 34) (v := 4) dX8_layForm_33 rfl ki_4 ?_
  refine ev_icmp_ge (tgt := 130) (pc' := 37) dX8_layForm_34 rfl rfl (fun h => absurd h (by decide)) (fun _ => ?_)
  refine ev_iload_n (pc' := 38) (i := 1) dX8_layForm_37 rfl rfl rfl ?_
  refine ev_iload_n (pc' := 39) (i := 3) dX8_layForm_38 rfl rfl rfl ?_
  refine ev_ishr (pc' := 40) (v := 0) dX8_layForm_39 rfl (by decide) ?_
  refine ev_iconst (pc' := 41) (v := 1) dX8_layForm_40 rfl ki_1 ?_
  refine ev_iand (pc' := 42) (v := 0) dX8_layForm_41 rfl (by decide) ?_
  refine ev_iconst (pc' := 43) (v := 1) dX8_layForm_42 rfl ki_1 ?_
  refine ev_icmp_ne (tgt := 50) (pc' := 46) dX8_layForm_43 rfl rfl (fun _ => ?_) (fun h => absurd h (by decide))
  refine ev_iconst (pc' := 51) (v := 0) dX8_layForm_50 rfl ki_0 ?_
  refine ev_istore (pc' := 53) (lv' := [some (.ref 115), some (.int 0), some (.int 0), some (.int 0), some (.int 0), none]) dX8_layForm_51 rfl (Nat.le_of_ble_eq_true rfl) rfl rfl ?_
  refine ev_iload_n (pc' := 54) (i := 2) dX8_layForm_53 rfl rfl rfl ?_
  refine ev_iload (pc' := 56) dX8_layForm_54 rfl rfl ?_
  refine ev_if_eq (tgt := 63) (pc' := 59) dX8_layForm_56 rfl rfl (fun _ => ?_) (fun h => absurd (by decide) h)
  refine ev_iconst (pc' := 64) (v := 0) dX8_layForm_63 rfl ki_0 ?_
  refine ev_iadd (pc' := 65) (v := 0) dX8_layForm_64 rfl (by decide) ?_
  refine ev_istore_n (pc' := 66) (i := 2) (lv' := [some (.ref 115), some (.int 0), some (.int 0), some (.int 0), some (.int 0), none]) dX8_layForm_65 rfl rfl (Nat.le_of_ble_eq_true rfl) rfl rfl ?_
  refine ev_iconst (pc' := 67) (v := 0) dX8_layForm_66 rfl ki_0 ?_
  refine ev_istore (pc' := 69) (lv' := [some (.ref 115), some (.int 0), some (.int 0), some (.int 0), some (.int 0), some (.int 0)]) dX8_layForm_67 rfl (Nat.le_of_ble_eq_true rfl) rfl rfl ?_
  refine ev_iload (pc' := 71) dX8_layForm_69 rfl rfl ?_
  refine ev_iconst (pc' := 72) (v := 4) dX8_layForm_71 rfl ki_4 ?_
  refine ev_icmp_ge (tgt := 124) (pc' := 75) dX8_layForm_72 rfl rfl (fun h => absurd h (by decide)) (fun _ => ?_)
  refine ev_aload_n (pc' := 76) (i := 0) dX8_layForm_75 rfl rfl rfl ?_
  refine ev_getR (pc' := 79) fo_X8_26 dX8_layForm_76 rfl hs_115 rfl rf_115_8 ?_
  refine ev_iconst (pc' := 80) (v := 4) dX8_layForm_79 rfl ki_4 ?_
  refine ev_iload_n (pc' := 81) (i := 3) dX8_layForm_80 rfl rfl rfl ?_
  refine ev_imul (pc' := 82) (v := 0) dX8_layForm_81 rfl (by decide) ?_
  refine ev_iload (pc' := 84) dX8_layForm_82 rfl rfl ?_
  refine ev_iadd (pc' := 85) (v := 0) dX8_layForm_84 rfl (by decide) ?_
  refine ev_iload (pc' := 87) dX8_layForm_85 rfl rfl ?_
  refine ev_if_eq (tgt := 105) (pc' := 90) dX8_layForm_87 rfl rfl (fun _ => ?_) (fun h => absurd (by decide) h)
  refine ev_aload_n (pc' := 106) (i := 0) dX8_layForm_105 rfl rfl rfl ?_
  refine ev_getR (pc' := 109) fo_X8_70 dX8_layForm_106 rfl hs_115 rfl rf_115_25 ?_
  refine ev_iconst (pc' := 110) (v := 4) dX8_layForm_109 rfl ki_4 ?_
  refine ev_iload_n (pc' := 111) (i := 3) dX8_layForm_110 rfl rfl rfl ?_
  refine ev_imul (pc' := 112) (v := 0) dX8_layForm_111 rfl (by decide) ?_
  refine ev_iload (pc' := 114) dX8_layForm_112 rfl rfl ?_
  refine ev_iadd (pc' := 115) (v := 0) dX8_layForm_114 rfl (by decide) ?_
  refine ev_iald (pc' := 116) (j := 0) (v := (I 134) 0) dX8_layForm_115 rfl hs_134 rfl (Nat.le_of_ble_eq_true rfl) (Nat.le_of_ble_eq_true rfl) rfl ?_
  refine ev_i2l (pc' := 117) (v := Int32.toInt64 ((I 134) 0)) dX8_layForm_116 rfl rfl ?_
  refine ev_last (pc' := 118) (j := 0) (L' := (ma_up (ma_up L 132 (ma_up (ma_up (ma_up (ma_up (ma_up (L 132) 0 0) 1 0) 2 0) 3 0) 4 0)) 120 (ma_up (L 120) 0 (Int32.toInt64 ((I 134) 0))))) dX8_layForm_117 rfl hs_120 rfl (Nat.le_of_ble_eq_true rfl) (Nat.le_of_ble_eq_true rfl) rfl ?_
  refine ev_iinc (pc' := 121) (v := 1) (lv' := [some (.ref 115), some (.int 0), some (.int 0), some (.int 0), some (.int 0), some (.int 1)]) dX8_layForm_118 rfl rfl (by decide) (Nat.le_of_ble_eq_true rfl) rfl rfl ?_
  refine ev_goto (tgt := 69) dX8_layForm_121 rfl ?_
  refine ev_iload (pc' := 71) dX8_layForm_69 rfl rfl ?_
  refine ev_iconst (pc' := 72) (v := 4) dX8_layForm_71 rfl ki_4 ?_
  refine ev_icmp_ge (tgt := 124) (pc' := 75) dX8_layForm_72 rfl rfl (fun h => absurd h (by decide)) (fun _ => ?_)
  refine ev_aload_n (pc' := 76) (i := 0) dX8_layForm_75 rfl rfl rfl ?_
  refine ev_getR (pc' := 79) fo_X8_26 dX8_layForm_76 rfl hs_115 rfl rf_115_8 ?_
  refine ev_iconst (pc' := 80) (v := 4) dX8_layForm_79 rfl ki_4 ?_
  refine ev_iload_n (pc' := 81) (i := 3) dX8_layForm_80 rfl rfl rfl ?_
  refine ev_imul (pc' := 82) (v := 0) dX8_layForm_81 rfl (by decide) ?_
  refine ev_iload (pc' := 84) dX8_layForm_82 rfl rfl ?_
  refine ev_iadd (pc' := 85) (v := 1) dX8_layForm_84 rfl (by decide) ?_
  refine ev_iload (pc' := 87) dX8_layForm_85 rfl rfl ?_
  refine ev_if_eq (tgt := 105) (pc' := 90) dX8_layForm_87 rfl rfl (fun _ => ?_) (fun h => absurd (by decide) h)
  refine ev_aload_n (pc' := 106) (i := 0) dX8_layForm_105 rfl rfl rfl ?_
  refine ev_getR (pc' := 109) fo_X8_70 dX8_layForm_106 rfl hs_115 rfl rf_115_25 ?_
  refine ev_iconst (pc' := 110) (v := 4) dX8_layForm_109 rfl ki_4 ?_
  refine ev_iload_n (pc' := 111) (i := 3) dX8_layForm_110 rfl rfl rfl ?_
  refine ev_imul (pc' := 112) (v := 0) dX8_layForm_111 rfl (by decide) ?_
  refine ev_iload (pc' := 114) dX8_layForm_112 rfl rfl ?_
  refine ev_iadd (pc' := 115) (v := 1) dX8_layForm_114 rfl (by decide) ?_
  refine ev_iald (pc' := 116) (j := 1) (v := (I 134) 1) dX8_layForm_115 rfl hs_134 rfl (Nat.le_of_ble_eq_true rfl) (Nat.le_of_ble_eq_true rfl) rfl ?_
  refine ev_i2l (pc' := 117) (v := Int32.toInt64 ((I 134) 1)) dX8_layForm_116 rfl rfl ?_
  refine ev_last (pc' := 118) (j := 1) (L' := (ma_up (ma_up L 132 (ma_up (ma_up (ma_up (ma_up (ma_up (L 132) 0 0) 1 0) 2 0) 3 0) 4 0)) 120 (ma_up (ma_up (L 120) 0 (Int32.toInt64 ((I 134) 0))) 1 (Int32.toInt64 ((I 134) 1))))) dX8_layForm_117 rfl hs_120 rfl (Nat.le_of_ble_eq_true rfl) (Nat.le_of_ble_eq_true rfl) (ma_up_up _ _ _ _) ?_
  refine ev_iinc (pc' := 121) (v := 2) (lv' := [some (.ref 115), some (.int 0), some (.int 0), some (.int 0), some (.int 0), some (.int 2)]) dX8_layForm_118 rfl rfl (by decide) (Nat.le_of_ble_eq_true rfl) rfl rfl ?_
  refine ev_goto (tgt := 69) dX8_layForm_121 rfl ?_
  refine ev_iload (pc' := 71) dX8_layForm_69 rfl rfl ?_
  refine ev_iconst (pc' := 72) (v := 4) dX8_layForm_71 rfl ki_4 ?_
  refine ev_icmp_ge (tgt := 124) (pc' := 75) dX8_layForm_72 rfl rfl (fun h => absurd h (by decide)) (fun _ => ?_)
  refine ev_aload_n (pc' := 76) (i := 0) dX8_layForm_75 rfl rfl rfl ?_
  refine ev_getR (pc' := 79) fo_X8_26 dX8_layForm_76 rfl hs_115 rfl rf_115_8 ?_
  refine ev_iconst (pc' := 80) (v := 4) dX8_layForm_79 rfl ki_4 ?_
  refine ev_iload_n (pc' := 81) (i := 3) dX8_layForm_80 rfl rfl rfl ?_
  refine ev_imul (pc' := 82) (v := 0) dX8_layForm_81 rfl (by decide) ?_
  refine ev_iload (pc' := 84) dX8_layForm_82 rfl rfl ?_
  refine ev_iadd (pc' := 85) (v := 2) dX8_layForm_84 rfl (by decide) ?_
  refine ev_iload (pc' := 87) dX8_layForm_85 rfl rfl ?_
  refine ev_if_eq (tgt := 105) (pc' := 90) dX8_layForm_87 rfl rfl (fun _ => ?_) (fun h => absurd (by decide) h)
  refine ev_aload_n (pc' := 106) (i := 0) dX8_layForm_105 rfl rfl rfl ?_
  refine ev_getR (pc' := 109) fo_X8_70 dX8_layForm_106 rfl hs_115 rfl rf_115_25 ?_
  refine ev_iconst (pc' := 110) (v := 4) dX8_layForm_109 rfl ki_4 ?_
  refine ev_iload_n (pc' := 111) (i := 3) dX8_layForm_110 rfl rfl rfl ?_
  refine ev_imul (pc' := 112) (v := 0) dX8_layForm_111 rfl (by decide) ?_
  refine ev_iload (pc' := 114) dX8_layForm_112 rfl rfl ?_
  refine ev_iadd (pc' := 115) (v := 2) dX8_layForm_114 rfl (by decide) ?_
  refine ev_iald (pc' := 116) (j := 2) (v := (I 134) 2) dX8_layForm_115 rfl hs_134 rfl (Nat.le_of_ble_eq_true rfl) (Nat.le_of_ble_eq_true rfl) rfl ?_
  refine ev_i2l (pc' := 117) (v := Int32.toInt64 ((I 134) 2)) dX8_layForm_116 rfl rfl ?_
  refine ev_last (pc' := 118) (j := 2) (L' := (ma_up (ma_up L 132 (ma_up (ma_up (ma_up (ma_up (ma_up (L 132) 0 0) 1 0) 2 0) 3 0) 4 0)) 120 (ma_up (ma_up (ma_up (L 120) 0 (Int32.toInt64 ((I 134) 0))) 1 (Int32.toInt64 ((I 134) 1))) 2 (Int32.toInt64 ((I 134) 2))))) dX8_layForm_117 rfl hs_120 rfl (Nat.le_of_ble_eq_true rfl) (Nat.le_of_ble_eq_true rfl) (ma_up_up _ _ _ _) ?_
  refine ev_iinc (pc' := 121) (v := 3) (lv' := [some (.ref 115), some (.int 0), some (.int 0), some (.int 0), some (.int 0), some (.int 3)]) dX8_layForm_118 rfl rfl (by decide) (Nat.le_of_ble_eq_true rfl) rfl rfl ?_
  refine ev_goto (tgt := 69) dX8_layForm_121 rfl ?_
  refine ev_iload (pc' := 71) dX8_layForm_69 rfl rfl ?_
  refine ev_iconst (pc' := 72) (v := 4) dX8_layForm_71 rfl ki_4 ?_
  refine ev_icmp_ge (tgt := 124) (pc' := 75) dX8_layForm_72 rfl rfl (fun h => absurd h (by decide)) (fun _ => ?_)
  refine ev_aload_n (pc' := 76) (i := 0) dX8_layForm_75 rfl rfl rfl ?_
  refine ev_getR (pc' := 79) fo_X8_26 dX8_layForm_76 rfl hs_115 rfl rf_115_8 ?_
  refine ev_iconst (pc' := 80) (v := 4) dX8_layForm_79 rfl ki_4 ?_
  refine ev_iload_n (pc' := 81) (i := 3) dX8_layForm_80 rfl rfl rfl ?_
  refine ev_imul (pc' := 82) (v := 0) dX8_layForm_81 rfl (by decide) ?_
  refine ev_iload (pc' := 84) dX8_layForm_82 rfl rfl ?_
  refine ev_iadd (pc' := 85) (v := 3) dX8_layForm_84 rfl (by decide) ?_
  refine ev_iload (pc' := 87) dX8_layForm_85 rfl rfl ?_
  refine ev_if_eq (tgt := 105) (pc' := 90) dX8_layForm_87 rfl rfl (fun _ => ?_) (fun h => absurd (by decide) h)
  refine ev_aload_n (pc' := 106) (i := 0) dX8_layForm_105 rfl rfl rfl ?_
  refine ev_getR (pc' := 109) fo_X8_70 dX8_layForm_106 rfl hs_115 rfl rf_115_25 ?_
  refine ev_iconst (pc' := 110) (v := 4) dX8_layForm_109 rfl ki_4 ?_
  refine ev_iload_n (pc' := 111) (i := 3) dX8_layForm_110 rfl rfl rfl ?_
  refine ev_imul (pc' := 112) (v := 0) dX8_layForm_111 rfl (by decide) ?_
  refine ev_iload (pc' := 114) dX8_layForm_112 rfl rfl ?_
  refine ev_iadd (pc' := 115) (v := 3) dX8_layForm_114 rfl (by decide) ?_
  refine ev_iald (pc' := 116) (j := 3) (v := (I 134) 3) dX8_layForm_115 rfl hs_134 rfl (Nat.le_of_ble_eq_true rfl) (Nat.le_of_ble_eq_true rfl) rfl ?_
  refine ev_i2l (pc' := 117) (v := Int32.toInt64 ((I 134) 3)) dX8_layForm_116 rfl rfl ?_
  refine ev_last (pc' := 118) (j := 3) (L' := (ma_up (ma_up L 132 (ma_up (ma_up (ma_up (ma_up (ma_up (L 132) 0 0) 1 0) 2 0) 3 0) 4 0)) 120 (ma_up (ma_up (ma_up (ma_up (L 120) 0 (Int32.toInt64 ((I 134) 0))) 1 (Int32.toInt64 ((I 134) 1))) 2 (Int32.toInt64 ((I 134) 2))) 3 (Int32.toInt64 ((I 134) 3))))) dX8_layForm_117 rfl hs_120 rfl (Nat.le_of_ble_eq_true rfl) (Nat.le_of_ble_eq_true rfl) (ma_up_up _ _ _ _) ?_
  refine ev_iinc (pc' := 121) (v := 4) (lv' := [some (.ref 115), some (.int 0), some (.int 0), some (.int 0), some (.int 0), some (.int 4)]) dX8_layForm_118 rfl rfl (by decide) (Nat.le_of_ble_eq_true rfl) rfl rfl ?_
  refine ev_goto (tgt := 69) dX8_layForm_121 rfl ?_
  refine ev_iload (pc' := 71) dX8_layForm_69 rfl rfl ?_
  refine ev_iconst (pc' := 72) (v := 4) dX8_layForm_71 rfl ki_4 ?_
  refine ev_icmp_ge (tgt := 124) (pc' := 75) dX8_layForm_72 rfl rfl (fun _ => ?_) (fun h => absurd (by decide) h)
  refine ev_iinc (pc' := 127) (v := 1) (lv' := [some (.ref 115), some (.int 0), some (.int 0), some (.int 1), some (.int 0), some (.int 4)]) dX8_layForm_124 rfl rfl (by decide) (Nat.le_of_ble_eq_true rfl) rfl rfl ?_
  refine ev_goto (tgt := 32) dX8_layForm_127 rfl ?_
  refine ev_iload_n (pc' := 33) (i := 3) dX8_layForm_32 rfl rfl rfl ?_
  refine ev_iconst (pc' := 34) (v := 4) dX8_layForm_33 rfl ki_4 ?_
  refine ev_icmp_ge (tgt := 130) (pc' := 37) dX8_layForm_34 rfl rfl (fun h => absurd h (by decide)) (fun _ => ?_)
  refine ev_iload_n (pc' := 38) (i := 1) dX8_layForm_37 rfl rfl rfl ?_
  refine ev_iload_n (pc' := 39) (i := 3) dX8_layForm_38 rfl rfl rfl ?_
  refine ev_ishr (pc' := 40) (v := 0) dX8_layForm_39 rfl (by decide) ?_
  refine ev_iconst (pc' := 41) (v := 1) dX8_layForm_40 rfl ki_1 ?_
  refine ev_iand (pc' := 42) (v := 0) dX8_layForm_41 rfl (by decide) ?_
  refine ev_iconst (pc' := 43) (v := 1) dX8_layForm_42 rfl ki_1 ?_
  refine ev_icmp_ne (tgt := 50) (pc' := 46) dX8_layForm_43 rfl rfl (fun _ => ?_) (fun h => absurd h (by decide))
  refine ev_iconst (pc' := 51) (v := 0) dX8_layForm_50 rfl ki_0 ?_
  refine ev_istore (pc' := 53) (lv' := [some (.ref 115), some (.int 0), some (.int 0), some (.int 1), some (.int 0), some (.int 4)]) dX8_layForm_51 rfl (Nat.le_of_ble_eq_true rfl) rfl rfl ?_
  refine ev_iload_n (pc' := 54) (i := 2) dX8_layForm_53 rfl rfl rfl ?_
  refine ev_iload (pc' := 56) dX8_layForm_54 rfl rfl ?_
  refine ev_if_eq (tgt := 63) (pc' := 59) dX8_layForm_56 rfl rfl (fun _ => ?_) (fun h => absurd (by decide) h)
  refine ev_iconst (pc' := 64) (v := 0) dX8_layForm_63 rfl ki_0 ?_
  refine ev_iadd (pc' := 65) (v := 0) dX8_layForm_64 rfl (by decide) ?_
  refine ev_istore_n (pc' := 66) (i := 2) (lv' := [some (.ref 115), some (.int 0), some (.int 0), some (.int 1), some (.int 0), some (.int 4)]) dX8_layForm_65 rfl rfl (Nat.le_of_ble_eq_true rfl) rfl rfl ?_
  refine ev_iconst (pc' := 67) (v := 0) dX8_layForm_66 rfl ki_0 ?_
  refine ev_istore (pc' := 69) (lv' := [some (.ref 115), some (.int 0), some (.int 0), some (.int 1), some (.int 0), some (.int 0)]) dX8_layForm_67 rfl (Nat.le_of_ble_eq_true rfl) rfl rfl ?_
  refine ev_iload (pc' := 71) dX8_layForm_69 rfl rfl ?_
  refine ev_iconst (pc' := 72) (v := 4) dX8_layForm_71 rfl ki_4 ?_
  refine ev_icmp_ge (tgt := 124) (pc' := 75) dX8_layForm_72 rfl rfl (fun h => absurd h (by decide)) (fun _ => ?_)
  refine ev_aload_n (pc' := 76) (i := 0) dX8_layForm_75 rfl rfl rfl ?_
  refine ev_getR (pc' := 79) fo_X8_26 dX8_layForm_76 rfl hs_115 rfl rf_115_8 ?_
  refine ev_iconst (pc' := 80) (v := 4) dX8_layForm_79 rfl ki_4 ?_
  refine ev_iload_n (pc' := 81) (i := 3) dX8_layForm_80 rfl rfl rfl ?_
  refine ev_imul (pc' := 82) (v := 4) dX8_layForm_81 rfl (by decide) ?_
  refine ev_iload (pc' := 84) dX8_layForm_82 rfl rfl ?_
  refine ev_iadd (pc' := 85) (v := 4) dX8_layForm_84 rfl (by decide) ?_
  refine ev_iload (pc' := 87) dX8_layForm_85 rfl rfl ?_
  refine ev_if_eq (tgt := 105) (pc' := 90) dX8_layForm_87 rfl rfl (fun _ => ?_) (fun h => absurd (by decide) h)
  refine ev_aload_n (pc' := 106) (i := 0) dX8_layForm_105 rfl rfl rfl ?_
  refine ev_getR (pc' := 109) fo_X8_70 dX8_layForm_106 rfl hs_115 rfl rf_115_25 ?_
  refine ev_iconst (pc' := 110) (v := 4) dX8_layForm_109 rfl ki_4 ?_
  refine ev_iload_n (pc' := 111) (i := 3) dX8_layForm_110 rfl rfl rfl ?_
  refine ev_imul (pc' := 112) (v := 4) dX8_layForm_111 rfl (by decide) ?_
  refine ev_iload (pc' := 114) dX8_layForm_112 rfl rfl ?_
  refine ev_iadd (pc' := 115) (v := 4) dX8_layForm_114 rfl (by decide) ?_
  refine ev_iald (pc' := 116) (j := 4) (v := (I 134) 4) dX8_layForm_115 rfl hs_134 rfl (Nat.le_of_ble_eq_true rfl) (Nat.le_of_ble_eq_true rfl) rfl ?_
  refine ev_i2l (pc' := 117) (v := Int32.toInt64 ((I 134) 4)) dX8_layForm_116 rfl rfl ?_
  refine ev_last (pc' := 118) (j := 4) (L' := (ma_up (ma_up L 132 (ma_up (ma_up (ma_up (ma_up (ma_up (L 132) 0 0) 1 0) 2 0) 3 0) 4 0)) 120 (ma_up (ma_up (ma_up (ma_up (ma_up (L 120) 0 (Int32.toInt64 ((I 134) 0))) 1 (Int32.toInt64 ((I 134) 1))) 2 (Int32.toInt64 ((I 134) 2))) 3 (Int32.toInt64 ((I 134) 3))) 4 (Int32.toInt64 ((I 134) 4))))) dX8_layForm_117 rfl hs_120 rfl (Nat.le_of_ble_eq_true rfl) (Nat.le_of_ble_eq_true rfl) (ma_up_up _ _ _ _) ?_
  refine ev_iinc (pc' := 121) (v := 1) (lv' := [some (.ref 115), some (.int 0), some (.int 0), some (.int 1), some (.int 0), some (.int 1)]) dX8_layForm_118 rfl rfl (by decide) (Nat.le_of_ble_eq_true rfl) rfl rfl ?_
  refine ev_goto (tgt := 69) dX8_layForm_121 rfl ?_
  refine ev_iload (pc' := 71) dX8_layForm_69 rfl rfl ?_
  refine ev_iconst (pc' := 72) (v := 4) dX8_layForm_71 rfl ki_4 ?_
  refine ev_icmp_ge (tgt := 124) (pc' := 75) dX8_layForm_72 rfl rfl (fun h => absurd h (by decide)) (fun _ => ?_)
  refine ev_aload_n (pc' := 76) (i := 0) dX8_layForm_75 rfl rfl rfl ?_
  refine ev_getR (pc' := 79) fo_X8_26 dX8_layForm_76 rfl hs_115 rfl rf_115_8 ?_
  refine ev_iconst (pc' := 80) (v := 4) dX8_layForm_79 rfl ki_4 ?_
  refine ev_iload_n (pc' := 81) (i := 3) dX8_layForm_80 rfl rfl rfl ?_
  refine ev_imul (pc' := 82) (v := 4) dX8_layForm_81 rfl (by decide) ?_
  refine ev_iload (pc' := 84) dX8_layForm_82 rfl rfl ?_
  refine ev_iadd (pc' := 85) (v := 5) dX8_layForm_84 rfl (by decide) ?_
  refine ev_iload (pc' := 87) dX8_layForm_85 rfl rfl ?_
  refine ev_if_eq (tgt := 105) (pc' := 90) dX8_layForm_87 rfl rfl (fun _ => ?_) (fun h => absurd (by decide) h)
  refine ev_aload_n (pc' := 106) (i := 0) dX8_layForm_105 rfl rfl rfl ?_
  refine ev_getR (pc' := 109) fo_X8_70 dX8_layForm_106 rfl hs_115 rfl rf_115_25 ?_
  refine ev_iconst (pc' := 110) (v := 4) dX8_layForm_109 rfl ki_4 ?_
  refine ev_iload_n (pc' := 111) (i := 3) dX8_layForm_110 rfl rfl rfl ?_
  refine ev_imul (pc' := 112) (v := 4) dX8_layForm_111 rfl (by decide) ?_
  refine ev_iload (pc' := 114) dX8_layForm_112 rfl rfl ?_
  refine ev_iadd (pc' := 115) (v := 5) dX8_layForm_114 rfl (by decide) ?_
  refine ev_iald (pc' := 116) (j := 5) (v := (I 134) 5) dX8_layForm_115 rfl hs_134 rfl (Nat.le_of_ble_eq_true rfl) (Nat.le_of_ble_eq_true rfl) rfl ?_
  refine ev_i2l (pc' := 117) (v := Int32.toInt64 ((I 134) 5)) dX8_layForm_116 rfl rfl ?_
  refine ev_last (pc' := 118) (j := 5) (L' := (ma_up (ma_up L 132 (ma_up (ma_up (ma_up (ma_up (ma_up (L 132) 0 0) 1 0) 2 0) 3 0) 4 0)) 120 (ma_up (ma_up (ma_up (ma_up (ma_up (ma_up (L 120) 0 (Int32.toInt64 ((I 134) 0))) 1 (Int32.toInt64 ((I 134) 1))) 2 (Int32.toInt64 ((I 134) 2))) 3 (Int32.toInt64 ((I 134) 3))) 4 (Int32.toInt64 ((I 134) 4))) 5 (Int32.toInt64 ((I 134) 5))))) dX8_layForm_117 rfl hs_120 rfl (Nat.le_of_ble_eq_true rfl) (Nat.le_of_ble_eq_true rfl) (ma_up_up _ _ _ _) ?_
  refine ev_iinc (pc' := 121) (v := 2) (lv' := [some (.ref 115), some (.int 0), some (.int 0), some (.int 1), some (.int 0), some (.int 2)]) dX8_layForm_118 rfl rfl (by decide) (Nat.le_of_ble_eq_true rfl) rfl rfl ?_
  refine ev_goto (tgt := 69) dX8_layForm_121 rfl ?_
  refine ev_iload (pc' := 71) dX8_layForm_69 rfl rfl ?_
  refine ev_iconst (pc' := 72) (v := 4) dX8_layForm_71 rfl ki_4 ?_
  refine ev_icmp_ge (tgt := 124) (pc' := 75) dX8_layForm_72 rfl rfl (fun h => absurd h (by decide)) (fun _ => ?_)
  refine ev_aload_n (pc' := 76) (i := 0) dX8_layForm_75 rfl rfl rfl ?_
  refine ev_getR (pc' := 79) fo_X8_26 dX8_layForm_76 rfl hs_115 rfl rf_115_8 ?_
  refine ev_iconst (pc' := 80) (v := 4) dX8_layForm_79 rfl ki_4 ?_
  refine ev_iload_n (pc' := 81) (i := 3) dX8_layForm_80 rfl rfl rfl ?_
  refine ev_imul (pc' := 82) (v := 4) dX8_layForm_81 rfl (by decide) ?_
  refine ev_iload (pc' := 84) dX8_layForm_82 rfl rfl ?_
  refine ev_iadd (pc' := 85) (v := 6) dX8_layForm_84 rfl (by decide) ?_
  refine ev_iload (pc' := 87) dX8_layForm_85 rfl rfl ?_
  refine ev_if_eq (tgt := 105) (pc' := 90) dX8_layForm_87 rfl rfl (fun _ => ?_) (fun h => absurd (by decide) h)
  refine ev_aload_n (pc' := 106) (i := 0) dX8_layForm_105 rfl rfl rfl ?_
  refine ev_getR (pc' := 109) fo_X8_70 dX8_layForm_106 rfl hs_115 rfl rf_115_25 ?_
  refine ev_iconst (pc' := 110) (v := 4) dX8_layForm_109 rfl ki_4 ?_
  refine ev_iload_n (pc' := 111) (i := 3) dX8_layForm_110 rfl rfl rfl ?_
  refine ev_imul (pc' := 112) (v := 4) dX8_layForm_111 rfl (by decide) ?_
  refine ev_iload (pc' := 114) dX8_layForm_112 rfl rfl ?_
  refine ev_iadd (pc' := 115) (v := 6) dX8_layForm_114 rfl (by decide) ?_
  refine ev_iald (pc' := 116) (j := 6) (v := (I 134) 6) dX8_layForm_115 rfl hs_134 rfl (Nat.le_of_ble_eq_true rfl) (Nat.le_of_ble_eq_true rfl) rfl ?_
  refine ev_i2l (pc' := 117) (v := Int32.toInt64 ((I 134) 6)) dX8_layForm_116 rfl rfl ?_
  refine ev_last (pc' := 118) (j := 6) (L' := (ma_up (ma_up L 132 (ma_up (ma_up (ma_up (ma_up (ma_up (L 132) 0 0) 1 0) 2 0) 3 0) 4 0)) 120 (ma_up (ma_up (ma_up (ma_up (ma_up (ma_up (ma_up (L 120) 0 (Int32.toInt64 ((I 134) 0))) 1 (Int32.toInt64 ((I 134) 1))) 2 (Int32.toInt64 ((I 134) 2))) 3 (Int32.toInt64 ((I 134) 3))) 4 (Int32.toInt64 ((I 134) 4))) 5 (Int32.toInt64 ((I 134) 5))) 6 (Int32.toInt64 ((I 134) 6))))) dX8_layForm_117 rfl hs_120 rfl (Nat.le_of_ble_eq_true rfl) (Nat.le_of_ble_eq_true rfl) (ma_up_up _ _ _ _) ?_
  refine ev_iinc (pc' := 121) (v := 3) (lv' := [some (.ref 115), some (.int 0), some (.int 0), some (.int 1), some (.int 0), some (.int 3)]) dX8_layForm_118 rfl rfl (by decide) (Nat.le_of_ble_eq_true rfl) rfl rfl ?_
  refine ev_goto (tgt := 69) dX8_layForm_121 rfl ?_
  refine ev_iload (pc' := 71) dX8_layForm_69 rfl rfl ?_
  refine ev_iconst (pc' := 72) (v := 4) dX8_layForm_71 rfl ki_4 ?_
  refine ev_icmp_ge (tgt := 124) (pc' := 75) dX8_layForm_72 rfl rfl (fun h => absurd h (by decide)) (fun _ => ?_)
  refine ev_aload_n (pc' := 76) (i := 0) dX8_layForm_75 rfl rfl rfl ?_
  refine ev_getR (pc' := 79) fo_X8_26 dX8_layForm_76 rfl hs_115 rfl rf_115_8 ?_
  refine ev_iconst (pc' := 80) (v := 4) dX8_layForm_79 rfl ki_4 ?_
  refine ev_iload_n (pc' := 81) (i := 3) dX8_layForm_80 rfl rfl rfl ?_
  refine ev_imul (pc' := 82) (v := 4) dX8_layForm_81 rfl (by decide) ?_
  refine ev_iload (pc' := 84) dX8_layForm_82 rfl rfl ?_
  refine ev_iadd (pc' := 85) (v := 7) dX8_layForm_84 rfl (by decide) ?_
  refine ev_iload (pc' := 87) dX8_layForm_85 rfl rfl ?_
  refine ev_if_eq (tgt := 105) (pc' := 90) dX8_layForm_87 rfl rfl (fun _ => ?_) (fun h => absurd (by decide) h)
  refine ev_aload_n (pc' := 106) (i := 0) dX8_layForm_105 rfl rfl rfl ?_
  refine ev_getR (pc' := 109) fo_X8_70 dX8_layForm_106 rfl hs_115 rfl rf_115_25 ?_
  refine ev_iconst (pc' := 110) (v := 4) dX8_layForm_109 rfl ki_4 ?_
  refine ev_iload_n (pc' := 111) (i := 3) dX8_layForm_110 rfl rfl rfl ?_
  refine ev_imul (pc' := 112) (v := 4) dX8_layForm_111 rfl (by decide) ?_
  refine ev_iload (pc' := 114) dX8_layForm_112 rfl rfl ?_
  refine ev_iadd (pc' := 115) (v := 7) dX8_layForm_114 rfl (by decide) ?_
  refine ev_iald (pc' := 116) (j := 7) (v := (I 134) 7) dX8_layForm_115 rfl hs_134 rfl (Nat.le_of_ble_eq_true rfl) (Nat.le_of_ble_eq_true rfl) rfl ?_
  refine ev_i2l (pc' := 117) (v := Int32.toInt64 ((I 134) 7)) dX8_layForm_116 rfl rfl ?_
  refine ev_last (pc' := 118) (j := 7) (L' := (ma_up (ma_up L 132 (ma_up (ma_up (ma_up (ma_up (ma_up (L 132) 0 0) 1 0) 2 0) 3 0) 4 0)) 120 (ma_up (ma_up (ma_up (ma_up (ma_up (ma_up (ma_up (ma_up (L 120) 0 (Int32.toInt64 ((I 134) 0))) 1 (Int32.toInt64 ((I 134) 1))) 2 (Int32.toInt64 ((I 134) 2))) 3 (Int32.toInt64 ((I 134) 3))) 4 (Int32.toInt64 ((I 134) 4))) 5 (Int32.toInt64 ((I 134) 5))) 6 (Int32.toInt64 ((I 134) 6))) 7 (Int32.toInt64 ((I 134) 7))))) dX8_layForm_117 rfl hs_120 rfl (Nat.le_of_ble_eq_true rfl) (Nat.le_of_ble_eq_true rfl) (ma_up_up _ _ _ _) ?_
  refine ev_iinc (pc' := 121) (v := 4) (lv' := [some (.ref 115), some (.int 0), some (.int 0), some (.int 1), some (.int 0), some (.int 4)]) dX8_layForm_118 rfl rfl (by decide) (Nat.le_of_ble_eq_true rfl) rfl rfl ?_
  refine ev_goto (tgt := 69) dX8_layForm_121 rfl ?_
  refine ev_iload (pc' := 71) dX8_layForm_69 rfl rfl ?_
  refine ev_iconst (pc' := 72) (v := 4) dX8_layForm_71 rfl ki_4 ?_
  refine ev_icmp_ge (tgt := 124) (pc' := 75) dX8_layForm_72 rfl rfl (fun _ => ?_) (fun h => absurd (by decide) h)
  refine ev_iinc (pc' := 127) (v := 2) (lv' := [some (.ref 115), some (.int 0), some (.int 0), some (.int 2), some (.int 0), some (.int 4)]) dX8_layForm_124 rfl rfl (by decide) (Nat.le_of_ble_eq_true rfl) rfl rfl ?_
  refine ev_goto (tgt := 32) dX8_layForm_127 rfl ?_
  refine ev_iload_n (pc' := 33) (i := 3) dX8_layForm_32 rfl rfl rfl ?_
  refine ev_iconst (pc' := 34) (v := 4) dX8_layForm_33 rfl ki_4 ?_
  refine ev_icmp_ge (tgt := 130) (pc' := 37) dX8_layForm_34 rfl rfl (fun h => absurd h (by decide)) (fun _ => ?_)
  refine ev_iload_n (pc' := 38) (i := 1) dX8_layForm_37 rfl rfl rfl ?_
  refine ev_iload_n (pc' := 39) (i := 3) dX8_layForm_38 rfl rfl rfl ?_
  refine ev_ishr (pc' := 40) (v := 0) dX8_layForm_39 rfl (by decide) ?_
  refine ev_iconst (pc' := 41) (v := 1) dX8_layForm_40 rfl ki_1 ?_
  refine ev_iand (pc' := 42) (v := 0) dX8_layForm_41 rfl (by decide) ?_
  refine ev_iconst (pc' := 43) (v := 1) dX8_layForm_42 rfl ki_1 ?_
  refine ev_icmp_ne (tgt := 50) (pc' := 46) dX8_layForm_43 rfl rfl (fun _ => ?_) (fun h => absurd h (by decide))
  refine ev_iconst (pc' := 51) (v := 0) dX8_layForm_50 rfl ki_0 ?_
  refine ev_istore (pc' := 53) (lv' := [some (.ref 115), some (.int 0), some (.int 0), some (.int 2), some (.int 0), some (.int 4)]) dX8_layForm_51 rfl (Nat.le_of_ble_eq_true rfl) rfl rfl ?_
  refine ev_iload_n (pc' := 54) (i := 2) dX8_layForm_53 rfl rfl rfl ?_
  refine ev_iload (pc' := 56) dX8_layForm_54 rfl rfl ?_
  refine ev_if_eq (tgt := 63) (pc' := 59) dX8_layForm_56 rfl rfl (fun _ => ?_) (fun h => absurd (by decide) h)
  refine ev_iconst (pc' := 64) (v := 0) dX8_layForm_63 rfl ki_0 ?_
  refine ev_iadd (pc' := 65) (v := 0) dX8_layForm_64 rfl (by decide) ?_
  refine ev_istore_n (pc' := 66) (i := 2) (lv' := [some (.ref 115), some (.int 0), some (.int 0), some (.int 2), some (.int 0), some (.int 4)]) dX8_layForm_65 rfl rfl (Nat.le_of_ble_eq_true rfl) rfl rfl ?_
  refine ev_iconst (pc' := 67) (v := 0) dX8_layForm_66 rfl ki_0 ?_
  refine ev_istore (pc' := 69) (lv' := [some (.ref 115), some (.int 0), some (.int 0), some (.int 2), some (.int 0), some (.int 0)]) dX8_layForm_67 rfl (Nat.le_of_ble_eq_true rfl) rfl rfl ?_
  refine ev_iload (pc' := 71) dX8_layForm_69 rfl rfl ?_
  refine ev_iconst (pc' := 72) (v := 4) dX8_layForm_71 rfl ki_4 ?_
  refine ev_icmp_ge (tgt := 124) (pc' := 75) dX8_layForm_72 rfl rfl (fun h => absurd h (by decide)) (fun _ => ?_)
  refine ev_aload_n (pc' := 76) (i := 0) dX8_layForm_75 rfl rfl rfl ?_
  refine ev_getR (pc' := 79) fo_X8_26 dX8_layForm_76 rfl hs_115 rfl rf_115_8 ?_
  refine ev_iconst (pc' := 80) (v := 4) dX8_layForm_79 rfl ki_4 ?_
  refine ev_iload_n (pc' := 81) (i := 3) dX8_layForm_80 rfl rfl rfl ?_
  refine ev_imul (pc' := 82) (v := 8) dX8_layForm_81 rfl (by decide) ?_
  refine ev_iload (pc' := 84) dX8_layForm_82 rfl rfl ?_
  refine ev_iadd (pc' := 85) (v := 8) dX8_layForm_84 rfl (by decide) ?_
  refine ev_iload (pc' := 87) dX8_layForm_85 rfl rfl ?_
  refine ev_if_eq (tgt := 105) (pc' := 90) dX8_layForm_87 rfl rfl (fun _ => ?_) (fun h => absurd (by decide) h)
  refine ev_aload_n (pc' := 106) (i := 0) dX8_layForm_105 rfl rfl rfl ?_
  refine ev_getR (pc' := 109) fo_X8_70 dX8_layForm_106 rfl hs_115 rfl rf_115_25 ?_
  refine ev_iconst (pc' := 110) (v := 4) dX8_layForm_109 rfl ki_4 ?_
  refine ev_iload_n (pc' := 111) (i := 3) dX8_layForm_110 rfl rfl rfl ?_
  refine ev_imul (pc' := 112) (v := 8) dX8_layForm_111 rfl (by decide) ?_
  refine ev_iload (pc' := 114) dX8_layForm_112 rfl rfl ?_
  refine ev_iadd (pc' := 115) (v := 8) dX8_layForm_114 rfl (by decide) ?_
  refine ev_iald (pc' := 116) (j := 8) (v := (I 134) 8) dX8_layForm_115 rfl hs_134 rfl (Nat.le_of_ble_eq_true rfl) (Nat.le_of_ble_eq_true rfl) rfl ?_
  refine ev_i2l (pc' := 117) (v := Int32.toInt64 ((I 134) 8)) dX8_layForm_116 rfl rfl ?_
  refine ev_last (pc' := 118) (j := 8) (L' := (ma_up (ma_up L 132 (ma_up (ma_up (ma_up (ma_up (ma_up (L 132) 0 0) 1 0) 2 0) 3 0) 4 0)) 120 (ma_up (ma_up (ma_up (ma_up (ma_up (ma_up (ma_up (ma_up (ma_up (L 120) 0 (Int32.toInt64 ((I 134) 0))) 1 (Int32.toInt64 ((I 134) 1))) 2 (Int32.toInt64 ((I 134) 2))) 3 (Int32.toInt64 ((I 134) 3))) 4 (Int32.toInt64 ((I 134) 4))) 5 (Int32.toInt64 ((I 134) 5))) 6 (Int32.toInt64 ((I 134) 6))) 7 (Int32.toInt64 ((I 134) 7))) 8 (Int32.toInt64 ((I 134) 8))))) dX8_layForm_117 rfl hs_120 rfl (Nat.le_of_ble_eq_true rfl) (Nat.le_of_ble_eq_true rfl) (ma_up_up _ _ _ _) ?_
  refine ev_iinc (pc' := 121) (v := 1) (lv' := [some (.ref 115), some (.int 0), some (.int 0), some (.int 2), some (.int 0), some (.int 1)]) dX8_layForm_118 rfl rfl (by decide) (Nat.le_of_ble_eq_true rfl) rfl rfl ?_
  refine ev_goto (tgt := 69) dX8_layForm_121 rfl ?_
  refine ev_iload (pc' := 71) dX8_layForm_69 rfl rfl ?_
  refine ev_iconst (pc' := 72) (v := 4) dX8_layForm_71 rfl ki_4 ?_
  refine ev_icmp_ge (tgt := 124) (pc' := 75) dX8_layForm_72 rfl rfl (fun h => absurd h (by decide)) (fun _ => ?_)
  refine ev_aload_n (pc' := 76) (i := 0) dX8_layForm_75 rfl rfl rfl ?_
  refine ev_getR (pc' := 79) fo_X8_26 dX8_layForm_76 rfl hs_115 rfl rf_115_8 ?_
  refine ev_iconst (pc' := 80) (v := 4) dX8_layForm_79 rfl ki_4 ?_
  refine ev_iload_n (pc' := 81) (i := 3) dX8_layForm_80 rfl rfl rfl ?_
  refine ev_imul (pc' := 82) (v := 8) dX8_layForm_81 rfl (by decide) ?_
  refine ev_iload (pc' := 84) dX8_layForm_82 rfl rfl ?_
  refine ev_iadd (pc' := 85) (v := 9) dX8_layForm_84 rfl (by decide) ?_
  refine ev_iload (pc' := 87) dX8_layForm_85 rfl rfl ?_
  refine ev_if_eq (tgt := 105) (pc' := 90) dX8_layForm_87 rfl rfl (fun _ => ?_) (fun h => absurd (by decide) h)
  refine ev_aload_n (pc' := 106) (i := 0) dX8_layForm_105 rfl rfl rfl ?_
  refine ev_getR (pc' := 109) fo_X8_70 dX8_layForm_106 rfl hs_115 rfl rf_115_25 ?_
  refine ev_iconst (pc' := 110) (v := 4) dX8_layForm_109 rfl ki_4 ?_
  refine ev_iload_n (pc' := 111) (i := 3) dX8_layForm_110 rfl rfl rfl ?_
  refine ev_imul (pc' := 112) (v := 8) dX8_layForm_111 rfl (by decide) ?_
  refine ev_iload (pc' := 114) dX8_layForm_112 rfl rfl ?_
  refine ev_iadd (pc' := 115) (v := 9) dX8_layForm_114 rfl (by decide) ?_
  refine ev_iald (pc' := 116) (j := 9) (v := (I 134) 9) dX8_layForm_115 rfl hs_134 rfl (Nat.le_of_ble_eq_true rfl) (Nat.le_of_ble_eq_true rfl) rfl ?_
  refine ev_i2l (pc' := 117) (v := Int32.toInt64 ((I 134) 9)) dX8_layForm_116 rfl rfl ?_
  refine ev_last (pc' := 118) (j := 9) (L' := (ma_up (ma_up L 132 (ma_up (ma_up (ma_up (ma_up (ma_up (L 132) 0 0) 1 0) 2 0) 3 0) 4 0)) 120 (ma_up (ma_up (ma_up (ma_up (ma_up (ma_up (ma_up (ma_up (ma_up (ma_up (L 120) 0 (Int32.toInt64 ((I 134) 0))) 1 (Int32.toInt64 ((I 134) 1))) 2 (Int32.toInt64 ((I 134) 2))) 3 (Int32.toInt64 ((I 134) 3))) 4 (Int32.toInt64 ((I 134) 4))) 5 (Int32.toInt64 ((I 134) 5))) 6 (Int32.toInt64 ((I 134) 6))) 7 (Int32.toInt64 ((I 134) 7))) 8 (Int32.toInt64 ((I 134) 8))) 9 (Int32.toInt64 ((I 134) 9))))) dX8_layForm_117 rfl hs_120 rfl (Nat.le_of_ble_eq_true rfl) (Nat.le_of_ble_eq_true rfl) (ma_up_up _ _ _ _) ?_
  refine ev_iinc (pc' := 121) (v := 2) (lv' := [some (.ref 115), some (.int 0), some (.int 0), some (.int 2), some (.int 0), some (.int 2)]) dX8_layForm_118 rfl rfl (by decide) (Nat.le_of_ble_eq_true rfl) rfl rfl ?_
  refine ev_goto (tgt := 69) dX8_layForm_121 rfl ?_
  refine ev_iload (pc' := 71) dX8_layForm_69 rfl rfl ?_
  refine ev_iconst (pc' := 72) (v := 4) dX8_layForm_71 rfl ki_4 ?_
  refine ev_icmp_ge (tgt := 124) (pc' := 75) dX8_layForm_72 rfl rfl (fun h => absurd h (by decide)) (fun _ => ?_)
  refine ev_aload_n (pc' := 76) (i := 0) dX8_layForm_75 rfl rfl rfl ?_
  refine ev_getR (pc' := 79) fo_X8_26 dX8_layForm_76 rfl hs_115 rfl rf_115_8 ?_
  refine ev_iconst (pc' := 80) (v := 4) dX8_layForm_79 rfl ki_4 ?_
  refine ev_iload_n (pc' := 81) (i := 3) dX8_layForm_80 rfl rfl rfl ?_
  refine ev_imul (pc' := 82) (v := 8) dX8_layForm_81 rfl (by decide) ?_
  refine ev_iload (pc' := 84) dX8_layForm_82 rfl rfl ?_
  refine ev_iadd (pc' := 85) (v := 10) dX8_layForm_84 rfl (by decide) ?_
  refine ev_iload (pc' := 87) dX8_layForm_85 rfl rfl ?_
  refine ev_if_eq (tgt := 105) (pc' := 90) dX8_layForm_87 rfl rfl (fun _ => ?_) (fun h => absurd (by decide) h)
  refine ev_aload_n (pc' := 106) (i := 0) dX8_layForm_105 rfl rfl rfl ?_
  refine ev_getR (pc' := 109) fo_X8_70 dX8_layForm_106 rfl hs_115 rfl rf_115_25 ?_
  refine ev_iconst (pc' := 110) (v := 4) dX8_layForm_109 rfl ki_4 ?_
  refine ev_iload_n (pc' := 111) (i := 3) dX8_layForm_110 rfl rfl rfl ?_
  refine ev_imul (pc' := 112) (v := 8) dX8_layForm_111 rfl (by decide) ?_
  refine ev_iload (pc' := 114) dX8_layForm_112 rfl rfl ?_
  refine ev_iadd (pc' := 115) (v := 10) dX8_layForm_114 rfl (by decide) ?_
  refine ev_iald (pc' := 116) (j := 10) (v := (I 134) 10) dX8_layForm_115 rfl hs_134 rfl (Nat.le_of_ble_eq_true rfl) (Nat.le_of_ble_eq_true rfl) rfl ?_
  refine ev_i2l (pc' := 117) (v := Int32.toInt64 ((I 134) 10)) dX8_layForm_116 rfl rfl ?_
  refine ev_last (pc' := 118) (j := 10) (L' := (ma_up (ma_up L 132 (ma_up (ma_up (ma_up (ma_up (ma_up (L 132) 0 0) 1 0) 2 0) 3 0) 4 0)) 120 (ma_up (ma_up (ma_up (ma_up (ma_up (ma_up (ma_up (ma_up (ma_up (ma_up (ma_up (L 120) 0 (Int32.toInt64 ((I 134) 0))) 1 (Int32.toInt64 ((I 134) 1))) 2 (Int32.toInt64 ((I 134) 2))) 3 (Int32.toInt64 ((I 134) 3))) 4 (Int32.toInt64 ((I 134) 4))) 5 (Int32.toInt64 ((I 134) 5))) 6 (Int32.toInt64 ((I 134) 6))) 7 (Int32.toInt64 ((I 134) 7))) 8 (Int32.toInt64 ((I 134) 8))) 9 (Int32.toInt64 ((I 134) 9))) 10 (Int32.toInt64 ((I 134) 10))))) dX8_layForm_117 rfl hs_120 rfl (Nat.le_of_ble_eq_true rfl) (Nat.le_of_ble_eq_true rfl) (ma_up_up _ _ _ _) ?_
  refine ev_iinc (pc' := 121) (v := 3) (lv' := [some (.ref 115), some (.int 0), some (.int 0), some (.int 2), some (.int 0), some (.int 3)]) dX8_layForm_118 rfl rfl (by decide) (Nat.le_of_ble_eq_true rfl) rfl rfl ?_
  refine ev_goto (tgt := 69) dX8_layForm_121 rfl ?_
  refine ev_iload (pc' := 71) dX8_layForm_69 rfl rfl ?_
  refine ev_iconst (pc' := 72) (v := 4) dX8_layForm_71 rfl ki_4 ?_
  refine ev_icmp_ge (tgt := 124) (pc' := 75) dX8_layForm_72 rfl rfl (fun h => absurd h (by decide)) (fun _ => ?_)
  refine ev_aload_n (pc' := 76) (i := 0) dX8_layForm_75 rfl rfl rfl ?_
  refine ev_getR (pc' := 79) fo_X8_26 dX8_layForm_76 rfl hs_115 rfl rf_115_8 ?_
  refine ev_iconst (pc' := 80) (v := 4) dX8_layForm_79 rfl ki_4 ?_
  refine ev_iload_n (pc' := 81) (i := 3) dX8_layForm_80 rfl rfl rfl ?_
  refine ev_imul (pc' := 82) (v := 8) dX8_layForm_81 rfl (by decide) ?_
  refine ev_iload (pc' := 84) dX8_layForm_82 rfl rfl ?_
  refine ev_iadd (pc' := 85) (v := 11) dX8_layForm_84 rfl (by decide) ?_
  refine ev_iload (pc' := 87) dX8_layForm_85 rfl rfl ?_
  refine ev_if_eq (tgt := 105) (pc' := 90) dX8_layForm_87 rfl rfl (fun _ => ?_) (fun h => absurd (by decide) h)
  refine ev_aload_n (pc' := 106) (i := 0) dX8_layForm_105 rfl rfl rfl ?_
  refine ev_getR (pc' := 109) fo_X8_70 dX8_layForm_106 rfl hs_115 rfl rf_115_25 ?_
  refine ev_iconst (pc' := 110) (v := 4) dX8_layForm_109 rfl ki_4 ?_
  refine ev_iload_n (pc' := 111) (i := 3) dX8_layForm_110 rfl rfl rfl ?_
  refine ev_imul (pc' := 112) (v := 8) dX8_layForm_111 rfl (by decide) ?_
  refine ev_iload (pc' := 114) dX8_layForm_112 rfl rfl ?_
  refine ev_iadd (pc' := 115) (v := 11) dX8_layForm_114 rfl (by decide) ?_
  refine ev_iald (pc' := 116) (j := 11) (v := (I 134) 11) dX8_layForm_115 rfl hs_134 rfl (Nat.le_of_ble_eq_true rfl) (Nat.le_of_ble_eq_true rfl) rfl ?_
  refine ev_i2l (pc' := 117) (v := Int32.toInt64 ((I 134) 11)) dX8_layForm_116 rfl rfl ?_
  refine ev_last (pc' := 118) (j := 11) (L' := (ma_up (ma_up L 132 (ma_up (ma_up (ma_up (ma_up (ma_up (L 132) 0 0) 1 0) 2 0) 3 0) 4 0)) 120 (ma_up (ma_up (ma_up (ma_up (ma_up (ma_up (ma_up (ma_up (ma_up (ma_up (ma_up (ma_up (L 120) 0 (Int32.toInt64 ((I 134) 0))) 1 (Int32.toInt64 ((I 134) 1))) 2 (Int32.toInt64 ((I 134) 2))) 3 (Int32.toInt64 ((I 134) 3))) 4 (Int32.toInt64 ((I 134) 4))) 5 (Int32.toInt64 ((I 134) 5))) 6 (Int32.toInt64 ((I 134) 6))) 7 (Int32.toInt64 ((I 134) 7))) 8 (Int32.toInt64 ((I 134) 8))) 9 (Int32.toInt64 ((I 134) 9))) 10 (Int32.toInt64 ((I 134) 10))) 11 (Int32.toInt64 ((I 134) 11))))) dX8_layForm_117 rfl hs_120 rfl (Nat.le_of_ble_eq_true rfl) (Nat.le_of_ble_eq_true rfl) (ma_up_up _ _ _ _) ?_
  refine ev_iinc (pc' := 121) (v := 4) (lv' := [some (.ref 115), some (.int 0), some (.int 0), some (.int 2), some (.int 0), some (.int 4)]) dX8_layForm_118 rfl rfl (by decide) (Nat.le_of_ble_eq_true rfl) rfl rfl ?_
  refine ev_goto (tgt := 69) dX8_layForm_121 rfl ?_
  refine ev_iload (pc' := 71) dX8_layForm_69 rfl rfl ?_
  refine ev_iconst (pc' := 72) (v := 4) dX8_layForm_71 rfl ki_4 ?_
  refine ev_icmp_ge (tgt := 124) (pc' := 75) dX8_layForm_72 rfl rfl (fun _ => ?_) (fun h => absurd (by decide) h)
  refine ev_iinc (pc' := 127) (v := 3) (lv' := [some (.ref 115), some (.int 0), some (.int 0), some (.int 3), some (.int 0), some (.int 4)]) dX8_layForm_124 rfl rfl (by decide) (Nat.le_of_ble_eq_true rfl) rfl rfl ?_
  refine ev_goto (tgt := 32) dX8_layForm_127 rfl ?_
  refine ev_iload_n (pc' := 33) (i := 3) dX8_layForm_32 rfl rfl rfl ?_
  refine ev_iconst (pc' := 34) (v := 4) dX8_layForm_33 rfl ki_4 ?_
  refine ev_icmp_ge (tgt := 130) (pc' := 37) dX8_layForm_34 rfl rfl (fun h => absurd h (by decide)) (fun _ => ?_)
  refine ev_iload_n (pc' := 38) (i := 1) dX8_layForm_37 rfl rfl rfl ?_
  refine ev_iload_n (pc' := 39) (i := 3) dX8_layForm_38 rfl rfl rfl ?_
  refine ev_ishr (pc' := 40) (v := 0) dX8_layForm_39 rfl (by decide) ?_
  refine ev_iconst (pc' := 41) (v := 1) dX8_layForm_40 rfl ki_1 ?_
  refine ev_iand (pc' := 42) (v := 0) dX8_layForm_41 rfl (by decide) ?_
  refine ev_iconst (pc' := 43) (v := 1) dX8_layForm_42 rfl ki_1 ?_
  refine ev_icmp_ne (tgt := 50) (pc' := 46) dX8_layForm_43 rfl rfl (fun _ => ?_) (fun h => absurd h (by decide))
  refine ev_iconst (pc' := 51) (v := 0) dX8_layForm_50 rfl ki_0 ?_
  refine ev_istore (pc' := 53) (lv' := [some (.ref 115), some (.int 0), some (.int 0), some (.int 3), some (.int 0), some (.int 4)]) dX8_layForm_51 rfl (Nat.le_of_ble_eq_true rfl) rfl rfl ?_
  refine ev_iload_n (pc' := 54) (i := 2) dX8_layForm_53 rfl rfl rfl ?_
  refine ev_iload (pc' := 56) dX8_layForm_54 rfl rfl ?_
  refine ev_if_eq (tgt := 63) (pc' := 59) dX8_layForm_56 rfl rfl (fun _ => ?_) (fun h => absurd (by decide) h)
  refine ev_iconst (pc' := 64) (v := 0) dX8_layForm_63 rfl ki_0 ?_
  refine ev_iadd (pc' := 65) (v := 0) dX8_layForm_64 rfl (by decide) ?_
  refine ev_istore_n (pc' := 66) (i := 2) (lv' := [some (.ref 115), some (.int 0), some (.int 0), some (.int 3), some (.int 0), some (.int 4)]) dX8_layForm_65 rfl rfl (Nat.le_of_ble_eq_true rfl) rfl rfl ?_
  refine ev_iconst (pc' := 67) (v := 0) dX8_layForm_66 rfl ki_0 ?_
  refine ev_istore (pc' := 69) (lv' := [some (.ref 115), some (.int 0), some (.int 0), some (.int 3), some (.int 0), some (.int 0)]) dX8_layForm_67 rfl (Nat.le_of_ble_eq_true rfl) rfl rfl ?_
  refine ev_iload (pc' := 71) dX8_layForm_69 rfl rfl ?_
  refine ev_iconst (pc' := 72) (v := 4) dX8_layForm_71 rfl ki_4 ?_
  refine ev_icmp_ge (tgt := 124) (pc' := 75) dX8_layForm_72 rfl rfl (fun h => absurd h (by decide)) (fun _ => ?_)
  refine ev_aload_n (pc' := 76) (i := 0) dX8_layForm_75 rfl rfl rfl ?_
  refine ev_getR (pc' := 79) fo_X8_26 dX8_layForm_76 rfl hs_115 rfl rf_115_8 ?_
  refine ev_iconst (pc' := 80) (v := 4) dX8_layForm_79 rfl ki_4 ?_
  refine ev_iload_n (pc' := 81) (i := 3) dX8_layForm_80 rfl rfl rfl ?_
  refine ev_imul (pc' := 82) (v := 12) dX8_layForm_81 rfl (by decide) ?_
  refine ev_iload (pc' := 84) dX8_layForm_82 rfl rfl ?_
  refine ev_iadd (pc' := 85) (v := 12) dX8_layForm_84 rfl (by decide) ?_
  refine ev_iload (pc' := 87) dX8_layForm_85 rfl rfl ?_
  refine ev_if_eq (tgt := 105) (pc' := 90) dX8_layForm_87 rfl rfl (fun _ => ?_) (fun h => absurd (by decide) h)
  refine ev_aload_n (pc' := 106) (i := 0) dX8_layForm_105 rfl rfl rfl ?_
  refine ev_getR (pc' := 109) fo_X8_70 dX8_layForm_106 rfl hs_115 rfl rf_115_25 ?_
  refine ev_iconst (pc' := 110) (v := 4) dX8_layForm_109 rfl ki_4 ?_
  refine ev_iload_n (pc' := 111) (i := 3) dX8_layForm_110 rfl rfl rfl ?_
  refine ev_imul (pc' := 112) (v := 12) dX8_layForm_111 rfl (by decide) ?_
  refine ev_iload (pc' := 114) dX8_layForm_112 rfl rfl ?_
  refine ev_iadd (pc' := 115) (v := 12) dX8_layForm_114 rfl (by decide) ?_
  refine ev_iald (pc' := 116) (j := 12) (v := (I 134) 12) dX8_layForm_115 rfl hs_134 rfl (Nat.le_of_ble_eq_true rfl) (Nat.le_of_ble_eq_true rfl) rfl ?_
  refine ev_i2l (pc' := 117) (v := Int32.toInt64 ((I 134) 12)) dX8_layForm_116 rfl rfl ?_
  refine ev_last (pc' := 118) (j := 12) (L' := (ma_up (ma_up L 132 (ma_up (ma_up (ma_up (ma_up (ma_up (L 132) 0 0) 1 0) 2 0) 3 0) 4 0)) 120 (ma_up (ma_up (ma_up (ma_up (ma_up (ma_up (ma_up (ma_up (ma_up (ma_up (ma_up (ma_up (ma_up (L 120) 0 (Int32.toInt64 ((I 134) 0))) 1 (Int32.toInt64 ((I 134) 1))) 2 (Int32.toInt64 ((I 134) 2))) 3 (Int32.toInt64 ((I 134) 3))) 4 (Int32.toInt64 ((I 134) 4))) 5 (Int32.toInt64 ((I 134) 5))) 6 (Int32.toInt64 ((I 134) 6))) 7 (Int32.toInt64 ((I 134) 7))) 8 (Int32.toInt64 ((I 134) 8))) 9 (Int32.toInt64 ((I 134) 9))) 10 (Int32.toInt64 ((I 134) 10))) 11 (Int32.toInt64 ((I 134) 11))) 12 (Int32.toInt64 ((I 134) 12))))) dX8_layForm_117 rfl hs_120 rfl (Nat.le_of_ble_eq_true rfl) (Nat.le_of_ble_eq_true rfl) (ma_up_up _ _ _ _) ?_
  refine ev_iinc (pc' := 121) (v := 1) (lv' := [some (.ref 115), some (.int 0), some (.int 0), some (.int 3), some (.int 0), some (.int 1)]) dX8_layForm_118 rfl rfl (by decide) (Nat.le_of_ble_eq_true rfl) rfl rfl ?_
  refine ev_goto (tgt := 69) dX8_layForm_121 rfl ?_
  refine ev_iload (pc' := 71) dX8_layForm_69 rfl rfl ?_
  refine ev_iconst (pc' := 72) (v := 4) dX8_layForm_71 rfl ki_4 ?_
  refine ev_icmp_ge (tgt := 124) (pc' := 75) dX8_layForm_72 rfl rfl (fun h => absurd h (by decide)) (fun _ => ?_)
  refine ev_aload_n (pc' := 76) (i := 0) dX8_layForm_75 rfl rfl rfl ?_
  refine ev_getR (pc' := 79) fo_X8_26 dX8_layForm_76 rfl hs_115 rfl rf_115_8 ?_
  refine ev_iconst (pc' := 80) (v := 4) dX8_layForm_79 rfl ki_4 ?_
  refine ev_iload_n (pc' := 81) (i := 3) dX8_layForm_80 rfl rfl rfl ?_
  refine ev_imul (pc' := 82) (v := 12) dX8_layForm_81 rfl (by decide) ?_
  refine ev_iload (pc' := 84) dX8_layForm_82 rfl rfl ?_
  refine ev_iadd (pc' := 85) (v := 13) dX8_layForm_84 rfl (by decide) ?_
  refine ev_iload (pc' := 87) dX8_layForm_85 rfl rfl ?_
  refine ev_if_eq (tgt := 105) (pc' := 90) dX8_layForm_87 rfl rfl (fun _ => ?_) (fun h => absurd (by decide) h)
  refine ev_aload_n (pc' := 106) (i := 0) dX8_layForm_105 rfl rfl rfl ?_
  refine ev_getR (pc' := 109) fo_X8_70 dX8_layForm_106 rfl hs_115 rfl rf_115_25 ?_
  refine ev_iconst (pc' := 110) (v := 4) dX8_layForm_109 rfl ki_4 ?_
  refine ev_iload_n (pc' := 111) (i := 3) dX8_layForm_110 rfl rfl rfl ?_
  refine ev_imul (pc' := 112) (v := 12) dX8_layForm_111 rfl (by decide) ?_
  refine ev_iload (pc' := 114) dX8_layForm_112 rfl rfl ?_
  refine ev_iadd (pc' := 115) (v := 13) dX8_layForm_114 rfl (by decide) ?_
  refine ev_iald (pc' := 116) (j := 13) (v := (I 134) 13) dX8_layForm_115 rfl hs_134 rfl (Nat.le_of_ble_eq_true rfl) (Nat.le_of_ble_eq_true rfl) rfl ?_
  refine ev_i2l (pc' := 117) (v := Int32.toInt64 ((I 134) 13)) dX8_layForm_116 rfl rfl ?_
  refine ev_last (pc' := 118) (j := 13) (L' := (ma_up (ma_up L 132 (ma_up (ma_up (ma_up (ma_up (ma_up (L 132) 0 0) 1 0) 2 0) 3 0) 4 0)) 120 (ma_up (ma_up (ma_up (ma_up (ma_up (ma_up (ma_up (ma_up (ma_up (ma_up (ma_up (ma_up (ma_up (ma_up (L 120) 0 (Int32.toInt64 ((I 134) 0))) 1 (Int32.toInt64 ((I 134) 1))) 2 (Int32.toInt64 ((I 134) 2))) 3 (Int32.toInt64 ((I 134) 3))) 4 (Int32.toInt64 ((I 134) 4))) 5 (Int32.toInt64 ((I 134) 5))) 6 (Int32.toInt64 ((I 134) 6))) 7 (Int32.toInt64 ((I 134) 7))) 8 (Int32.toInt64 ((I 134) 8))) 9 (Int32.toInt64 ((I 134) 9))) 10 (Int32.toInt64 ((I 134) 10))) 11 (Int32.toInt64 ((I 134) 11))) 12 (Int32.toInt64 ((I 134) 12))) 13 (Int32.toInt64 ((I 134) 13))))) dX8_layForm_117 rfl hs_120 rfl (Nat.le_of_ble_eq_true rfl) (Nat.le_of_ble_eq_true rfl) (ma_up_up _ _ _ _) ?_
  refine ev_iinc (pc' := 121) (v := 2) (lv' := [some (.ref 115), some (.int 0), some (.int 0), some (.int 3), some (.int 0), some (.int 2)]) dX8_layForm_118 rfl rfl (by decide) (Nat.le_of_ble_eq_true rfl) rfl rfl ?_
  refine ev_goto (tgt := 69) dX8_layForm_121 rfl ?_
  refine ev_iload (pc' := 71) dX8_layForm_69 rfl rfl ?_
  refine ev_iconst (pc' := 72) (v := 4) dX8_layForm_71 rfl ki_4 ?_
  refine ev_icmp_ge (tgt := 124) (pc' := 75) dX8_layForm_72 rfl rfl (fun h => absurd h (by decide)) (fun _ => ?_)
  refine ev_aload_n (pc' := 76) (i := 0) dX8_layForm_75 rfl rfl rfl ?_
  refine ev_getR (pc' := 79) fo_X8_26 dX8_layForm_76 rfl hs_115 rfl rf_115_8 ?_
  refine ev_iconst (pc' := 80) (v := 4) dX8_layForm_79 rfl ki_4 ?_
  refine ev_iload_n (pc' := 81) (i := 3) dX8_layForm_80 rfl rfl rfl ?_
  refine ev_imul (pc' := 82) (v := 12) dX8_layForm_81 rfl (by decide) ?_
  refine ev_iload (pc' := 84) dX8_layForm_82 rfl rfl ?_
  refine ev_iadd (pc' := 85) (v := 14) dX8_layForm_84 rfl (by decide) ?_
  refine ev_iload (pc' := 87) dX8_layForm_85 rfl rfl ?_
  refine ev_if_eq (tgt := 105) (pc' := 90) dX8_layForm_87 rfl rfl (fun _ => ?_) (fun h => absurd (by decide) h)
  refine ev_aload_n (pc' := 106) (i := 0) dX8_layForm_105 rfl rfl rfl ?_
  refine ev_getR (pc' := 109) fo_X8_70 dX8_layForm_106 rfl hs_115 rfl rf_115_25 ?_
  refine ev_iconst (pc' := 110) (v := 4) dX8_layForm_109 rfl ki_4 ?_
  refine ev_iload_n (pc' := 111) (i := 3) dX8_layForm_110 rfl rfl rfl ?_
  refine ev_imul (pc' := 112) (v := 12) dX8_layForm_111 rfl (by decide) ?_
  refine ev_iload (pc' := 114) dX8_layForm_112 rfl rfl ?_
  refine ev_iadd (pc' := 115) (v := 14) dX8_layForm_114 rfl (by decide) ?_
  refine ev_iald (pc' := 116) (j := 14) (v := (I 134) 14) dX8_layForm_115 rfl hs_134 rfl (Nat.le_of_ble_eq_true rfl) (Nat.le_of_ble_eq_true rfl) rfl ?_
  refine ev_i2l (pc' := 117) (v := Int32.toInt64 ((I 134) 14)) dX8_layForm_116 rfl rfl ?_
  refine ev_last (pc' := 118) (j := 14) (L' := (ma_up (ma_up L 132 (ma_up (ma_up (ma_up (ma_up (ma_up (L 132) 0 0) 1 0) 2 0) 3 0) 4 0)) 120 (ma_up (ma_up (ma_up (ma_up (ma_up (ma_up (ma_up (ma_up (ma_up (ma_up (ma_up (ma_up (ma_up (ma_up (ma_up (L 120) 0 (Int32.toInt64 ((I 134) 0))) 1 (Int32.toInt64 ((I 134) 1))) 2 (Int32.toInt64 ((I 134) 2))) 3 (Int32.toInt64 ((I 134) 3))) 4 (Int32.toInt64 ((I 134) 4))) 5 (Int32.toInt64 ((I 134) 5))) 6 (Int32.toInt64 ((I 134) 6))) 7 (Int32.toInt64 ((I 134) 7))) 8 (Int32.toInt64 ((I 134) 8))) 9 (Int32.toInt64 ((I 134) 9))) 10 (Int32.toInt64 ((I 134) 10))) 11 (Int32.toInt64 ((I 134) 11))) 12 (Int32.toInt64 ((I 134) 12))) 13 (Int32.toInt64 ((I 134) 13))) 14 (Int32.toInt64 ((I 134) 14))))) dX8_layForm_117 rfl hs_120 rfl (Nat.le_of_ble_eq_true rfl) (Nat.le_of_ble_eq_true rfl) (ma_up_up _ _ _ _) ?_
  refine ev_iinc (pc' := 121) (v := 3) (lv' := [some (.ref 115), some (.int 0), some (.int 0), some (.int 3), some (.int 0), some (.int 3)]) dX8_layForm_118 rfl rfl (by decide) (Nat.le_of_ble_eq_true rfl) rfl rfl ?_
  refine ev_goto (tgt := 69) dX8_layForm_121 rfl ?_
  refine ev_iload (pc' := 71) dX8_layForm_69 rfl rfl ?_
  refine ev_iconst (pc' := 72) (v := 4) dX8_layForm_71 rfl ki_4 ?_
  refine ev_icmp_ge (tgt := 124) (pc' := 75) dX8_layForm_72 rfl rfl (fun h => absurd h (by decide)) (fun _ => ?_)
  refine ev_aload_n (pc' := 76) (i := 0) dX8_layForm_75 rfl rfl rfl ?_
  refine ev_getR (pc' := 79) fo_X8_26 dX8_layForm_76 rfl hs_115 rfl rf_115_8 ?_
  refine ev_iconst (pc' := 80) (v := 4) dX8_layForm_79 rfl ki_4 ?_
  refine ev_iload_n (pc' := 81) (i := 3) dX8_layForm_80 rfl rfl rfl ?_
  refine ev_imul (pc' := 82) (v := 12) dX8_layForm_81 rfl (by decide) ?_
  refine ev_iload (pc' := 84) dX8_layForm_82 rfl rfl ?_
  refine ev_iadd (pc' := 85) (v := 15) dX8_layForm_84 rfl (by decide) ?_
  refine ev_iload (pc' := 87) dX8_layForm_85 rfl rfl ?_
  refine ev_if_eq (tgt := 105) (pc' := 90) dX8_layForm_87 rfl rfl (fun _ => ?_) (fun h => absurd (by decide) h)
  refine ev_aload_n (pc' := 106) (i := 0) dX8_layForm_105 rfl rfl rfl ?_
  refine ev_getR (pc' := 109) fo_X8_70 dX8_layForm_106 rfl hs_115 rfl rf_115_25 ?_
  refine ev_iconst (pc' := 110) (v := 4) dX8_layForm_109 rfl ki_4 ?_
  refine ev_iload_n (pc' := 111) (i := 3) dX8_layForm_110 rfl rfl rfl ?_
  refine ev_imul (pc' := 112) (v := 12) dX8_layForm_111 rfl (by decide) ?_
  refine ev_iload (pc' := 114) dX8_layForm_112 rfl rfl ?_
  refine ev_iadd (pc' := 115) (v := 15) dX8_layForm_114 rfl (by decide) ?_
  refine ev_iald (pc' := 116) (j := 15) (v := (I 134) 15) dX8_layForm_115 rfl hs_134 rfl (Nat.le_of_ble_eq_true rfl) (Nat.le_of_ble_eq_true rfl) rfl ?_
  refine ev_i2l (pc' := 117) (v := Int32.toInt64 ((I 134) 15)) dX8_layForm_116 rfl rfl ?_
  refine ev_last (pc' := 118) (j := 15) (L' := (ma_up (ma_up L 132 (ma_up (ma_up (ma_up (ma_up (ma_up (L 132) 0 0) 1 0) 2 0) 3 0) 4 0)) 120 (ma_up (ma_up (ma_up (ma_up (ma_up (ma_up (ma_up (ma_up (ma_up (ma_up (ma_up (ma_up (ma_up (ma_up (ma_up (ma_up (L 120) 0 (Int32.toInt64 ((I 134) 0))) 1 (Int32.toInt64 ((I 134) 1))) 2 (Int32.toInt64 ((I 134) 2))) 3 (Int32.toInt64 ((I 134) 3))) 4 (Int32.toInt64 ((I 134) 4))) 5 (Int32.toInt64 ((I 134) 5))) 6 (Int32.toInt64 ((I 134) 6))) 7 (Int32.toInt64 ((I 134) 7))) 8 (Int32.toInt64 ((I 134) 8))) 9 (Int32.toInt64 ((I 134) 9))) 10 (Int32.toInt64 ((I 134) 10))) 11 (Int32.toInt64 ((I 134) 11))) 12 (Int32.toInt64 ((I 134) 12))) 13 (Int32.toInt64 ((I 134) 13))) 14 (Int32.toInt64 ((I 134) 14))) 15 (Int32.toInt64 ((I 134) 15))))) dX8_layForm_117 rfl hs_120 rfl (Nat.le_of_ble_eq_true rfl) (Nat.le_of_ble_eq_true rfl) (ma_up_up _ _ _ _) ?_
  refine ev_iinc (pc' := 121) (v := 4) (lv' := [some (.ref 115), some (.int 0), some (.int 0), some (.int 3), some (.int 0), some (.int 4)]) dX8_layForm_118 rfl rfl (by decide) (Nat.le_of_ble_eq_true rfl) rfl rfl ?_
  refine ev_goto (tgt := 69) dX8_layForm_121 rfl ?_
  refine ev_iload (pc' := 71) dX8_layForm_69 rfl rfl ?_
  refine ev_iconst (pc' := 72) (v := 4) dX8_layForm_71 rfl ki_4 ?_
  refine ev_icmp_ge (tgt := 124) (pc' := 75) dX8_layForm_72 rfl rfl (fun _ => ?_) (fun h => absurd (by decide) h)
  refine ev_iinc (pc' := 127) (v := 4) (lv' := [some (.ref 115), some (.int 0), some (.int 0), some (.int 4), some (.int 0), some (.int 4)]) dX8_layForm_124 rfl rfl (by decide) (Nat.le_of_ble_eq_true rfl) rfl rfl ?_
  refine ev_goto (tgt := 32) dX8_layForm_127 rfl ?_
  refine ev_iload_n (pc' := 33) (i := 3) dX8_layForm_32 rfl rfl rfl ?_
  refine ev_iconst (pc' := 34) (v := 4) dX8_layForm_33 rfl ki_4 ?_
  refine ev_icmp_ge (tgt := 130) (pc' := 37) dX8_layForm_34 rfl rfl (fun _ => ?_) (fun h => absurd (by decide) h)
  refine ev_aload_n (pc' := 131) (i := 0) dX8_layForm_130 rfl rfl rfl ?_
  refine ev_getR (pc' := 134) fo_X8_64 dX8_layForm_131 rfl hs_115 rfl rf_115_23 ?_
  refine ev_iconst (pc' := 135) (v := 4) dX8_layForm_134 rfl ki_4 ?_
  refine ev_iload_n (pc' := 136) (i := 2) dX8_layForm_135 rfl rfl rfl ?_
  refine ev_isub (pc' := 137) (v := 4) dX8_layForm_136 rfl (by decide) ?_
  refine ev_dup2 (pc' := 138) dX8_layForm_137 rfl rfl rfl ?_
  refine ev_lald (pc' := 139) (j := 4) (v := 0) dX8_layForm_138 rfl hs_132 rfl (Nat.le_of_ble_eq_true rfl) (Nat.le_of_ble_eq_true rfl) rfl ?_
  refine ev_aload_n (pc' := 140) (i := 0) dX8_layForm_139 rfl rfl rfl ?_
  refine ev_getR (pc' := 143) fo_X8_26 dX8_layForm_140 rfl hs_115 rfl rf_115_8 ?_
  refine ev_callS (pc' := 146) (rm' := rX8_worthOf) (av := [.ref 120]) (rest := [.long 0, .int 4, .ref 132]) co_X8_173 cs_X8_worthOf dX8_layForm_143 rfl rfl rfl (Nat.le_of_ble_eq_true rfl) ⟨(Nat.le_of_ble_eq_true rfl), (Nat.le_of_ble_eq_true rfl)⟩ ⟨(Nat.le_of_ble_eq_true rfl), (Nat.le_of_ble_eq_true rfl)⟩ ?_
  refine t_X8_worthOf 120 hs_120 ?_
  refine ev_eql (w := mW (mSel 0 (I 133) (I 134))) rfl ?_
  refine ev_ladd (pc' := 147) (v := 0 + (mW (mSel 0 (I 133) (I 134)))) dX8_layForm_146 rfl rfl ?_
  refine ev_last (pc' := 148) (j := 4) (L' := (ma_up (ma_up L 132 (ma_up (ma_up (ma_up (ma_up (ma_up (L 132) 0 0) 1 0) 2 0) 3 0) 4 (0 + (mW (mSel 0 (I 133) (I 134)))))) 120 (ma_up (ma_up (ma_up (ma_up (ma_up (ma_up (ma_up (ma_up (ma_up (ma_up (ma_up (ma_up (ma_up (ma_up (ma_up (ma_up (L 120) 0 (Int32.toInt64 ((I 134) 0))) 1 (Int32.toInt64 ((I 134) 1))) 2 (Int32.toInt64 ((I 134) 2))) 3 (Int32.toInt64 ((I 134) 3))) 4 (Int32.toInt64 ((I 134) 4))) 5 (Int32.toInt64 ((I 134) 5))) 6 (Int32.toInt64 ((I 134) 6))) 7 (Int32.toInt64 ((I 134) 7))) 8 (Int32.toInt64 ((I 134) 8))) 9 (Int32.toInt64 ((I 134) 9))) 10 (Int32.toInt64 ((I 134) 10))) 11 (Int32.toInt64 ((I 134) 11))) 12 (Int32.toInt64 ((I 134) 12))) 13 (Int32.toInt64 ((I 134) 13))) 14 (Int32.toInt64 ((I 134) 14))) 15 (Int32.toInt64 ((I 134) 15))))) dX8_layForm_147 rfl hs_132 rfl (Nat.le_of_ble_eq_true rfl) (Nat.le_of_ble_eq_true rfl) ((congrArg (ma_up _ 132) (ma_up_up _ _ _ _)).trans ((ma_up_comm _ (show 132 ≠ 120 from (by decide)) _ _).trans (congrArg (fun f => ma_up f 120 _) (ma_up_up _ _ _ _)))) ?_
  refine ev_iinc (pc' := 151) (v := 1) (lv' := [some (.ref 115), some (.int 1), some (.int 0), some (.int 4), some (.int 0), some (.int 4)]) dX8_layForm_148 rfl rfl (by decide) (Nat.le_of_ble_eq_true rfl) rfl rfl ?_
  refine ev_goto (tgt := 22) dX8_layForm_151 rfl ?_
  refine ev_rowL (fun r1 => ?_)
  refine ev_iload_n (pc' := 23) (i := 1) dX8_layForm_22 rfl rfl rfl ?_
  refine ev_bipush (pc' := 25) (v := 16) dX8_layForm_23 rfl kb_16 ?_
  refine ev_icmp_ge (tgt := 154) (pc' := 28) dX8_layForm_25 rfl rfl (fun h => absurd h (by decide)) (fun _ => ?_)
  refine ev_iconst (pc' := 29) (v := 0) dX8_layForm_28 rfl ki_0 ?_
  refine ev_istore_n (pc' := 30) (i := 2) (lv' := [some (.ref 115), some (.int 1), some (.int 0), some (.int 4), some (.int 0), some (.int 4)]) dX8_layForm_29 rfl rfl (Nat.le_of_ble_eq_true rfl) rfl rfl ?_
  refine ev_iconst (pc' := 31) (v := 0) dX8_layForm_30 rfl ki_0 ?_
  refine ev_istore_n (pc' := 32) (i := 3) (lv' := [some (.ref 115), some (.int 1), some (.int 0), some (.int 0), some (.int 0), some (.int 4)]) dX8_layForm_31 rfl rfl (Nat.le_of_ble_eq_true rfl) rfl rfl ?_
  refine ev_iload_n (pc' := 33) (i := 3) dX8_layForm_32 rfl rfl rfl ?_
  refine ev_iconst (pc' := 34) (v := 4) dX8_layForm_33 rfl ki_4 ?_
  refine ev_icmp_ge (tgt := 130) (pc' := 37) dX8_layForm_34 rfl rfl (fun h => absurd h (by decide)) (fun _ => ?_)
  refine ev_iload_n (pc' := 38) (i := 1) dX8_layForm_37 rfl rfl rfl ?_
  refine ev_iload_n (pc' := 39) (i := 3) dX8_layForm_38 rfl rfl rfl ?_
  refine ev_ishr (pc' := 40) (v := 1) dX8_layForm_39 rfl (by decide) ?_
  refine ev_iconst (pc' := 41) (v := 1) dX8_layForm_40 rfl ki_1 ?_
  refine ev_iand (pc' := 42) (v := 1) dX8_layForm_41 rfl (by decide) ?_
  refine ev_iconst (pc' := 43) (v := 1) dX8_layForm_42 rfl ki_1 ?_
  refine ev_icmp_ne (tgt := 50) (pc' := 46) dX8_layForm_43 rfl rfl (fun h => absurd (by decide) h) (fun _ => ?_)
  refine ev_iconst (pc' := 47) (v := 1) dX8_layForm_46 rfl ki_1 ?_
  refine ev_goto (tgt := 51) dX8_layForm_47 rfl ?_
  refine ev_istore (pc' := 53) (lv' := [some (.ref 115), some (.int 1), some (.int 0), some (.int 0), some (.int 1), some (.int 4)]) dX8_layForm_51 rfl (Nat.le_of_ble_eq_true rfl) rfl rfl ?_
  refine ev_iload_n (pc' := 54) (i := 2) dX8_layForm_53 rfl rfl rfl ?_
  refine ev_iload (pc' := 56) dX8_layForm_54 rfl rfl ?_
  refine ev_if_eq (tgt := 63) (pc' := 59) dX8_layForm_56 rfl rfl (fun h => absurd h (by decide)) (fun _ => ?_)
  refine ev_iconst (pc' := 60) (v := 1) dX8_layForm_59 rfl ki_1 ?_
  refine ev_goto (tgt := 64) dX8_layForm_60 rfl ?_
  refine ev_iadd (pc' := 65) (v := 1) dX8_layForm_64 rfl (by decide) ?_
  refine ev_istore_n (pc' := 66) (i := 2) (lv' := [some (.ref 115), some (.int 1), some (.int 1), some (.int 0), some (.int 1), some (.int 4)]) dX8_layForm_65 rfl rfl (Nat.le_of_ble_eq_true rfl) rfl rfl ?_
  refine ev_iconst (pc' := 67) (v := 0) dX8_layForm_66 rfl ki_0 ?_
  refine ev_istore (pc' := 69) (lv' := [some (.ref 115), some (.int 1), some (.int 1), some (.int 0), some (.int 1), some (.int 0)]) dX8_layForm_67 rfl (Nat.le_of_ble_eq_true rfl) rfl rfl ?_
  refine ev_iload (pc' := 71) dX8_layForm_69 rfl rfl ?_
  refine ev_iconst (pc' := 72) (v := 4) dX8_layForm_71 rfl ki_4 ?_
  refine ev_icmp_ge (tgt := 124) (pc' := 75) dX8_layForm_72 rfl rfl (fun h => absurd h (by decide)) (fun _ => ?_)
  refine ev_aload_n (pc' := 76) (i := 0) dX8_layForm_75 rfl rfl rfl ?_
  refine ev_getR (pc' := 79) fo_X8_26 dX8_layForm_76 rfl hs_115 rfl rf_115_8 ?_
  refine ev_iconst (pc' := 80) (v := 4) dX8_layForm_79 rfl ki_4 ?_
  refine ev_iload_n (pc' := 81) (i := 3) dX8_layForm_80 rfl rfl rfl ?_
  refine ev_imul (pc' := 82) (v := 0) dX8_layForm_81 rfl (by decide) ?_
  refine ev_iload (pc' := 84) dX8_layForm_82 rfl rfl ?_
  refine ev_iadd (pc' := 85) (v := 0) dX8_layForm_84 rfl (by decide) ?_
  refine ev_iload (pc' := 87) dX8_layForm_85 rfl rfl ?_
  refine ev_if_eq (tgt := 105) (pc' := 90) dX8_layForm_87 rfl rfl (fun h => absurd h (by decide)) (fun _ => ?_)
  refine ev_aload_n (pc' := 91) (i := 0) dX8_layForm_90 rfl rfl rfl ?_
  refine ev_getR (pc' := 94) fo_X8_67 dX8_layForm_91 rfl hs_115 rfl rf_115_24 ?_
  refine ev_iconst (pc' := 95) (v := 4) dX8_layForm_94 rfl ki_4 ?_
  refine ev_iload_n (pc' := 96) (i := 3) dX8_layForm_95 rfl rfl rfl ?_
  refine ev_imul (pc' := 97) (v := 0) dX8_layForm_96 rfl (by decide) ?_
  refine ev_iload (pc' := 99) dX8_layForm_97 rfl rfl ?_
  refine ev_iadd (pc' := 100) (v := 0) dX8_layForm_99 rfl (by decide) ?_
  refine ev_iald (pc' := 101) (j := 0) (v := (I 133) 0) dX8_layForm_100 rfl hs_133 rfl (Nat.le_of_ble_eq_true rfl) (Nat.le_of_ble_eq_true rfl) rfl ?_
  refine ev_i2l (pc' := 102) (v := Int32.toInt64 ((I 133) 0)) dX8_layForm_101 rfl rfl ?_
  refine ev_goto (tgt := 117) dX8_layForm_102 rfl ?_
  refine ev_last (pc' := 118) (j := 0) (L' := (ma_up (ma_up L 132 (ma_up (ma_up (ma_up (ma_up (ma_up (L 132) 0 0) 1 0) 2 0) 3 0) 4 (0 + (mW (mSel 0 (I 133) (I 134)))))) 120 (ma_up r1 0 (Int32.toInt64 ((I 133) 0))))) dX8_layForm_117 rfl hs_120 rfl (Nat.le_of_ble_eq_true rfl) (Nat.le_of_ble_eq_true rfl) (ma_up_up _ _ _ _) ?_
  refine ev_iinc (pc' := 121) (v := 1) (lv' := [some (.ref 115), some (.int 1), some (.int 1), some (.int 0), some (.int 1), some (.int 1)]) dX8_layForm_118 rfl rfl (by decide) (Nat.le_of_ble_eq_true rfl) rfl rfl ?_
  refine ev_goto (tgt := 69) dX8_layForm_121 rfl ?_
  refine ev_iload (pc' := 71) dX8_layForm_69 rfl rfl ?_
  refine ev_iconst (pc' := 72) (v := 4) dX8_layForm_71 rfl ki_4 ?_
  refine ev_icmp_ge (tgt := 124) (pc' := 75) dX8_layForm_72 rfl rfl (fun h => absurd h (by decide)) (fun _ => ?_)
  refine ev_aload_n (pc' := 76) (i := 0) dX8_layForm_75 rfl rfl rfl ?_
  refine ev_getR (pc' := 79) fo_X8_26 dX8_layForm_76 rfl hs_115 rfl rf_115_8 ?_
  refine ev_iconst (pc' := 80) (v := 4) dX8_layForm_79 rfl ki_4 ?_
  refine ev_iload_n (pc' := 81) (i := 3) dX8_layForm_80 rfl rfl rfl ?_
  refine ev_imul (pc' := 82) (v := 0) dX8_layForm_81 rfl (by decide) ?_
  refine ev_iload (pc' := 84) dX8_layForm_82 rfl rfl ?_
  refine ev_iadd (pc' := 85) (v := 1) dX8_layForm_84 rfl (by decide) ?_
  refine ev_iload (pc' := 87) dX8_layForm_85 rfl rfl ?_
  refine ev_if_eq (tgt := 105) (pc' := 90) dX8_layForm_87 rfl rfl (fun h => absurd h (by decide)) (fun _ => ?_)
  refine ev_aload_n (pc' := 91) (i := 0) dX8_layForm_90 rfl rfl rfl ?_
  refine ev_getR (pc' := 94) fo_X8_67 dX8_layForm_91 rfl hs_115 rfl rf_115_24 ?_
  refine ev_iconst (pc' := 95) (v := 4) dX8_layForm_94 rfl ki_4 ?_
  refine ev_iload_n (pc' := 96) (i := 3) dX8_layForm_95 rfl rfl rfl ?_
  refine ev_imul (pc' := 97) (v := 0) dX8_layForm_96 rfl (by decide) ?_
  refine ev_iload (pc' := 99) dX8_layForm_97 rfl rfl ?_
  refine ev_iadd (pc' := 100) (v := 1) dX8_layForm_99 rfl (by decide) ?_
  refine ev_iald (pc' := 101) (j := 1) (v := (I 133) 1) dX8_layForm_100 rfl hs_133 rfl (Nat.le_of_ble_eq_true rfl) (Nat.le_of_ble_eq_true rfl) rfl ?_
  refine ev_i2l (pc' := 102) (v := Int32.toInt64 ((I 133) 1)) dX8_layForm_101 rfl rfl ?_
  refine ev_goto (tgt := 117) dX8_layForm_102 rfl ?_
  refine ev_last (pc' := 118) (j := 1) (L' := (ma_up (ma_up L 132 (ma_up (ma_up (ma_up (ma_up (ma_up (L 132) 0 0) 1 0) 2 0) 3 0) 4 (0 + (mW (mSel 0 (I 133) (I 134)))))) 120 (ma_up (ma_up r1 0 (Int32.toInt64 ((I 133) 0))) 1 (Int32.toInt64 ((I 133) 1))))) dX8_layForm_117 rfl hs_120 rfl (Nat.le_of_ble_eq_true rfl) (Nat.le_of_ble_eq_true rfl) (ma_up_up _ _ _ _) ?_
  refine ev_iinc (pc' := 121) (v := 2) (lv' := [some (.ref 115), some (.int 1), some (.int 1), some (.int 0), some (.int 1), some (.int 2)]) dX8_layForm_118 rfl rfl (by decide) (Nat.le_of_ble_eq_true rfl) rfl rfl ?_
  refine ev_goto (tgt := 69) dX8_layForm_121 rfl ?_
  refine ev_iload (pc' := 71) dX8_layForm_69 rfl rfl ?_
  refine ev_iconst (pc' := 72) (v := 4) dX8_layForm_71 rfl ki_4 ?_
  refine ev_icmp_ge (tgt := 124) (pc' := 75) dX8_layForm_72 rfl rfl (fun h => absurd h (by decide)) (fun _ => ?_)
  refine ev_aload_n (pc' := 76) (i := 0) dX8_layForm_75 rfl rfl rfl ?_
  refine ev_getR (pc' := 79) fo_X8_26 dX8_layForm_76 rfl hs_115 rfl rf_115_8 ?_
  refine ev_iconst (pc' := 80) (v := 4) dX8_layForm_79 rfl ki_4 ?_
  refine ev_iload_n (pc' := 81) (i := 3) dX8_layForm_80 rfl rfl rfl ?_
  refine ev_imul (pc' := 82) (v := 0) dX8_layForm_81 rfl (by decide) ?_
  refine ev_iload (pc' := 84) dX8_layForm_82 rfl rfl ?_
  refine ev_iadd (pc' := 85) (v := 2) dX8_layForm_84 rfl (by decide) ?_
  refine ev_iload (pc' := 87) dX8_layForm_85 rfl rfl ?_
  refine ev_if_eq (tgt := 105) (pc' := 90) dX8_layForm_87 rfl rfl (fun h => absurd h (by decide)) (fun _ => ?_)
  refine ev_aload_n (pc' := 91) (i := 0) dX8_layForm_90 rfl rfl rfl ?_
  refine ev_getR (pc' := 94) fo_X8_67 dX8_layForm_91 rfl hs_115 rfl rf_115_24 ?_
  refine ev_iconst (pc' := 95) (v := 4) dX8_layForm_94 rfl ki_4 ?_
  refine ev_iload_n (pc' := 96) (i := 3) dX8_layForm_95 rfl rfl rfl ?_
  refine ev_imul (pc' := 97) (v := 0) dX8_layForm_96 rfl (by decide) ?_
  refine ev_iload (pc' := 99) dX8_layForm_97 rfl rfl ?_
  refine ev_iadd (pc' := 100) (v := 2) dX8_layForm_99 rfl (by decide) ?_
  refine ev_iald (pc' := 101) (j := 2) (v := (I 133) 2) dX8_layForm_100 rfl hs_133 rfl (Nat.le_of_ble_eq_true rfl) (Nat.le_of_ble_eq_true rfl) rfl ?_
  refine ev_i2l (pc' := 102) (v := Int32.toInt64 ((I 133) 2)) dX8_layForm_101 rfl rfl ?_
  refine ev_goto (tgt := 117) dX8_layForm_102 rfl ?_
  refine ev_last (pc' := 118) (j := 2) (L' := (ma_up (ma_up L 132 (ma_up (ma_up (ma_up (ma_up (ma_up (L 132) 0 0) 1 0) 2 0) 3 0) 4 (0 + (mW (mSel 0 (I 133) (I 134)))))) 120 (ma_up (ma_up (ma_up r1 0 (Int32.toInt64 ((I 133) 0))) 1 (Int32.toInt64 ((I 133) 1))) 2 (Int32.toInt64 ((I 133) 2))))) dX8_layForm_117 rfl hs_120 rfl (Nat.le_of_ble_eq_true rfl) (Nat.le_of_ble_eq_true rfl) (ma_up_up _ _ _ _) ?_
  refine ev_iinc (pc' := 121) (v := 3) (lv' := [some (.ref 115), some (.int 1), some (.int 1), some (.int 0), some (.int 1), some (.int 3)]) dX8_layForm_118 rfl rfl (by decide) (Nat.le_of_ble_eq_true rfl) rfl rfl ?_
  refine ev_goto (tgt := 69) dX8_layForm_121 rfl ?_
  refine ev_iload (pc' := 71) dX8_layForm_69 rfl rfl ?_
  refine ev_iconst (pc' := 72) (v := 4) dX8_layForm_71 rfl ki_4 ?_
  refine ev_icmp_ge (tgt := 124) (pc' := 75) dX8_layForm_72 rfl rfl (fun h => absurd h (by decide)) (fun _ => ?_)
  refine ev_aload_n (pc' := 76) (i := 0) dX8_layForm_75 rfl rfl rfl ?_
  refine ev_getR (pc' := 79) fo_X8_26 dX8_layForm_76 rfl hs_115 rfl rf_115_8 ?_
  refine ev_iconst (pc' := 80) (v := 4) dX8_layForm_79 rfl ki_4 ?_
  refine ev_iload_n (pc' := 81) (i := 3) dX8_layForm_80 rfl rfl rfl ?_
  refine ev_imul (pc' := 82) (v := 0) dX8_layForm_81 rfl (by decide) ?_
  refine ev_iload (pc' := 84) dX8_layForm_82 rfl rfl ?_
  refine ev_iadd (pc' := 85) (v := 3) dX8_layForm_84 rfl (by decide) ?_
  refine ev_iload (pc' := 87) dX8_layForm_85 rfl rfl ?_
  refine ev_if_eq (tgt := 105) (pc' := 90) dX8_layForm_87 rfl rfl (fun h => absurd h (by decide)) (fun _ => ?_)
  refine ev_aload_n (pc' := 91) (i := 0) dX8_layForm_90 rfl rfl rfl ?_
  refine ev_getR (pc' := 94) fo_X8_67 dX8_layForm_91 rfl hs_115 rfl rf_115_24 ?_
  refine ev_iconst (pc' := 95) (v := 4) dX8_layForm_94 rfl ki_4 ?_
  refine ev_iload_n (pc' := 96) (i := 3) dX8_layForm_95 rfl rfl rfl ?_
  refine ev_imul (pc' := 97) (v := 0) dX8_layForm_96 rfl (by decide) ?_
  refine ev_iload (pc' := 99) dX8_layForm_97 rfl rfl ?_
  refine ev_iadd (pc' := 100) (v := 3) dX8_layForm_99 rfl (by decide) ?_
  refine ev_iald (pc' := 101) (j := 3) (v := (I 133) 3) dX8_layForm_100 rfl hs_133 rfl (Nat.le_of_ble_eq_true rfl) (Nat.le_of_ble_eq_true rfl) rfl ?_
  refine ev_i2l (pc' := 102) (v := Int32.toInt64 ((I 133) 3)) dX8_layForm_101 rfl rfl ?_
  refine ev_goto (tgt := 117) dX8_layForm_102 rfl ?_
  refine ev_last (pc' := 118) (j := 3) (L' := (ma_up (ma_up L 132 (ma_up (ma_up (ma_up (ma_up (ma_up (L 132) 0 0) 1 0) 2 0) 3 0) 4 (0 + (mW (mSel 0 (I 133) (I 134)))))) 120 (ma_up (ma_up (ma_up (ma_up r1 0 (Int32.toInt64 ((I 133) 0))) 1 (Int32.toInt64 ((I 133) 1))) 2 (Int32.toInt64 ((I 133) 2))) 3 (Int32.toInt64 ((I 133) 3))))) dX8_layForm_117 rfl hs_120 rfl (Nat.le_of_ble_eq_true rfl) (Nat.le_of_ble_eq_true rfl) (ma_up_up _ _ _ _) ?_
  refine ev_iinc (pc' := 121) (v := 4) (lv' := [some (.ref 115), some (.int 1), some (.int 1), some (.int 0), some (.int 1), some (.int 4)]) dX8_layForm_118 rfl rfl (by decide) (Nat.le_of_ble_eq_true rfl) rfl rfl ?_
  refine ev_goto (tgt := 69) dX8_layForm_121 rfl ?_
  refine ev_iload (pc' := 71) dX8_layForm_69 rfl rfl ?_
  refine ev_iconst (pc' := 72) (v := 4) dX8_layForm_71 rfl ki_4 ?_
  refine ev_icmp_ge (tgt := 124) (pc' := 75) dX8_layForm_72 rfl rfl (fun _ => ?_) (fun h => absurd (by decide) h)
  refine ev_iinc (pc' := 127) (v := 1) (lv' := [some (.ref 115), some (.int 1), some (.int 1), some (.int 1), some (.int 1), some (.int 4)]) dX8_layForm_124 rfl rfl (by decide) (Nat.le_of_ble_eq_true rfl) rfl rfl ?_
  refine ev_goto (tgt := 32) dX8_layForm_127 rfl ?_
  refine ev_iload_n (pc' := 33) (i := 3) dX8_layForm_32 rfl rfl rfl ?_
  refine ev_iconst (pc' := 34) (v := 4) dX8_layForm_33 rfl ki_4 ?_
  refine ev_icmp_ge (tgt := 130) (pc' := 37) dX8_layForm_34 rfl rfl (fun h => absurd h (by decide)) (fun _ => ?_)
  refine ev_iload_n (pc' := 38) (i := 1) dX8_layForm_37 rfl rfl rfl ?_
  refine ev_iload_n (pc' := 39) (i := 3) dX8_layForm_38 rfl rfl rfl ?_
  refine ev_ishr (pc' := 40) (v := 0) dX8_layForm_39 rfl (by decide) ?_
  refine ev_iconst (pc' := 41) (v := 1) dX8_layForm_40 rfl ki_1 ?_
  refine ev_iand (pc' := 42) (v := 0) dX8_layForm_41 rfl (by decide) ?_
  refine ev_iconst (pc' := 43) (v := 1) dX8_layForm_42 rfl ki_1 ?_
  refine ev_icmp_ne (tgt := 50) (pc' := 46) dX8_layForm_43 rfl rfl (fun _ => ?_) (fun h => absurd h (by decide))
  refine ev_iconst (pc' := 51) (v := 0) dX8_layForm_50 rfl ki_0 ?_
  refine ev_istore (pc' := 53) (lv' := [some (.ref 115), some (.int 1), some (.int 1), some (.int 1), some (.int 0), some (.int 4)]) dX8_layForm_51 rfl (Nat.le_of_ble_eq_true rfl) rfl rfl ?_
  refine ev_iload_n (pc' := 54) (i := 2) dX8_layForm_53 rfl rfl rfl ?_
  refine ev_iload (pc' := 56) dX8_layForm_54 rfl rfl ?_
  refine ev_if_eq (tgt := 63) (pc' := 59) dX8_layForm_56 rfl rfl (fun _ => ?_) (fun h => absurd (by decide) h)
  refine ev_iconst (pc' := 64) (v := 0) dX8_layForm_63 rfl ki_0 ?_
  refine ev_iadd (pc' := 65) (v := 1) dX8_layForm_64 rfl (by decide) ?_
  refine ev_istore_n (pc' := 66) (i := 2) (lv' := [some (.ref 115), some (.int 1), some (.int 1), some (.int 1), some (.int 0), some (.int 4)]) dX8_layForm_65 rfl rfl (Nat.le_of_ble_eq_true rfl) rfl rfl ?_
  refine ev_iconst (pc' := 67) (v := 0) dX8_layForm_66 rfl ki_0 ?_
  refine ev_istore (pc' := 69) (lv' := [some (.ref 115), some (.int 1), some (.int 1), some (.int 1), some (.int 0), some (.int 0)]) dX8_layForm_67 rfl (Nat.le_of_ble_eq_true rfl) rfl rfl ?_
  refine ev_iload (pc' := 71) dX8_layForm_69 rfl rfl ?_
  refine ev_iconst (pc' := 72) (v := 4) dX8_layForm_71 rfl ki_4 ?_
  refine ev_icmp_ge (tgt := 124) (pc' := 75) dX8_layForm_72 rfl rfl (fun h => absurd h (by decide)) (fun _ => ?_)
  refine ev_aload_n (pc' := 76) (i := 0) dX8_layForm_75 rfl rfl rfl ?_
  refine ev_getR (pc' := 79) fo_X8_26 dX8_layForm_76 rfl hs_115 rfl rf_115_8 ?_
  refine ev_iconst (pc' := 80) (v := 4) dX8_layForm_79 rfl ki_4 ?_
  refine ev_iload_n (pc' := 81) (i := 3) dX8_layForm_80 rfl rfl rfl ?_
  refine ev_imul (pc' := 82) (v := 4) dX8_layForm_81 rfl (by decide) ?_
  refine ev_iload (pc' := 84) dX8_layForm_82 rfl rfl ?_
  refine ev_iadd (pc' := 85) (v := 4) dX8_layForm_84 rfl (by decide) ?_
  refine ev_iload (pc' := 87) dX8_layForm_85 rfl rfl ?_
  refine ev_if_eq (tgt := 105) (pc' := 90) dX8_layForm_87 rfl rfl (fun _ => ?_) (fun h => absurd (by decide) h)
  refine ev_aload_n (pc' := 106) (i := 0) dX8_layForm_105 rfl rfl rfl ?_
  refine ev_getR (pc' := 109) fo_X8_70 dX8_layForm_106 rfl hs_115 rfl rf_115_25 ?_
  refine ev_iconst (pc' := 110) (v := 4) dX8_layForm_109 rfl ki_4 ?_
  refine ev_iload_n (pc' := 111) (i := 3) dX8_layForm_110 rfl rfl rfl ?_
  refine ev_imul (pc' := 112) (v := 4) dX8_layForm_111 rfl (by decide) ?_
  refine ev_iload (pc' := 114) dX8_layForm_112 rfl rfl ?_
  refine ev_iadd (pc' := 115) (v := 4) dX8_layForm_114 rfl (by decide) ?_
  refine ev_iald (pc' := 116) (j := 4) (v := (I 134) 4) dX8_layForm_115 rfl hs_134 rfl (Nat.le_of_ble_eq_true rfl) (Nat.le_of_ble_eq_true rfl) rfl ?_
  refine ev_i2l (pc' := 117) (v := Int32.toInt64 ((I 134) 4)) dX8_layForm_116 rfl rfl ?_
  refine ev_last (pc' := 118) (j := 4) (L' := (ma_up (ma_up L 132 (ma_up (ma_up (ma_up (ma_up (ma_up (L 132) 0 0) 1 0) 2 0) 3 0) 4 (0 + (mW (mSel 0 (I 133) (I 134)))))) 120 (ma_up (ma_up (ma_up (ma_up (ma_up r1 0 (Int32.toInt64 ((I 133) 0))) 1 (Int32.toInt64 ((I 133) 1))) 2 (Int32.toInt64 ((I 133) 2))) 3 (Int32.toInt64 ((I 133) 3))) 4 (Int32.toInt64 ((I 134) 4))))) dX8_layForm_117 rfl hs_120 rfl (Nat.le_of_ble_eq_true rfl) (Nat.le_of_ble_eq_true rfl) (ma_up_up _ _ _ _) ?_
  refine ev_iinc (pc' := 121) (v := 1) (lv' := [some (.ref 115), some (.int 1), some (.int 1), some (.int 1), some (.int 0), some (.int 1)]) dX8_layForm_118 rfl rfl (by decide) (Nat.le_of_ble_eq_true rfl) rfl rfl ?_
  refine ev_goto (tgt := 69) dX8_layForm_121 rfl ?_
  refine ev_iload (pc' := 71) dX8_layForm_69 rfl rfl ?_
  refine ev_iconst (pc' := 72) (v := 4) dX8_layForm_71 rfl ki_4 ?_
  refine ev_icmp_ge (tgt := 124) (pc' := 75) dX8_layForm_72 rfl rfl (fun h => absurd h (by decide)) (fun _ => ?_)
  refine ev_aload_n (pc' := 76) (i := 0) dX8_layForm_75 rfl rfl rfl ?_
  refine ev_getR (pc' := 79) fo_X8_26 dX8_layForm_76 rfl hs_115 rfl rf_115_8 ?_
  refine ev_iconst (pc' := 80) (v := 4) dX8_layForm_79 rfl ki_4 ?_
  refine ev_iload_n (pc' := 81) (i := 3) dX8_layForm_80 rfl rfl rfl ?_
  refine ev_imul (pc' := 82) (v := 4) dX8_layForm_81 rfl (by decide) ?_
  refine ev_iload (pc' := 84) dX8_layForm_82 rfl rfl ?_
  refine ev_iadd (pc' := 85) (v := 5) dX8_layForm_84 rfl (by decide) ?_
  refine ev_iload (pc' := 87) dX8_layForm_85 rfl rfl ?_
  refine ev_if_eq (tgt := 105) (pc' := 90) dX8_layForm_87 rfl rfl (fun _ => ?_) (fun h => absurd (by decide) h)
  refine ev_aload_n (pc' := 106) (i := 0) dX8_layForm_105 rfl rfl rfl ?_
  refine ev_getR (pc' := 109) fo_X8_70 dX8_layForm_106 rfl hs_115 rfl rf_115_25 ?_
  refine ev_iconst (pc' := 110) (v := 4) dX8_layForm_109 rfl ki_4 ?_
  refine ev_iload_n (pc' := 111) (i := 3) dX8_layForm_110 rfl rfl rfl ?_
  refine ev_imul (pc' := 112) (v := 4) dX8_layForm_111 rfl (by decide) ?_
  refine ev_iload (pc' := 114) dX8_layForm_112 rfl rfl ?_
  refine ev_iadd (pc' := 115) (v := 5) dX8_layForm_114 rfl (by decide) ?_
  refine ev_iald (pc' := 116) (j := 5) (v := (I 134) 5) dX8_layForm_115 rfl hs_134 rfl (Nat.le_of_ble_eq_true rfl) (Nat.le_of_ble_eq_true rfl) rfl ?_
  refine ev_i2l (pc' := 117) (v := Int32.toInt64 ((I 134) 5)) dX8_layForm_116 rfl rfl ?_
  refine ev_last (pc' := 118) (j := 5) (L' := (ma_up (ma_up L 132 (ma_up (ma_up (ma_up (ma_up (ma_up (L 132) 0 0) 1 0) 2 0) 3 0) 4 (0 + (mW (mSel 0 (I 133) (I 134)))))) 120 (ma_up (ma_up (ma_up (ma_up (ma_up (ma_up r1 0 (Int32.toInt64 ((I 133) 0))) 1 (Int32.toInt64 ((I 133) 1))) 2 (Int32.toInt64 ((I 133) 2))) 3 (Int32.toInt64 ((I 133) 3))) 4 (Int32.toInt64 ((I 134) 4))) 5 (Int32.toInt64 ((I 134) 5))))) dX8_layForm_117 rfl hs_120 rfl (Nat.le_of_ble_eq_true rfl) (Nat.le_of_ble_eq_true rfl) (ma_up_up _ _ _ _) ?_
  refine ev_iinc (pc' := 121) (v := 2) (lv' := [some (.ref 115), some (.int 1), some (.int 1), some (.int 1), some (.int 0), some (.int 2)]) dX8_layForm_118 rfl rfl (by decide) (Nat.le_of_ble_eq_true rfl) rfl rfl ?_
  refine ev_goto (tgt := 69) dX8_layForm_121 rfl ?_
  refine ev_iload (pc' := 71) dX8_layForm_69 rfl rfl ?_
  refine ev_iconst (pc' := 72) (v := 4) dX8_layForm_71 rfl ki_4 ?_
  refine ev_icmp_ge (tgt := 124) (pc' := 75) dX8_layForm_72 rfl rfl (fun h => absurd h (by decide)) (fun _ => ?_)
  refine ev_aload_n (pc' := 76) (i := 0) dX8_layForm_75 rfl rfl rfl ?_
  refine ev_getR (pc' := 79) fo_X8_26 dX8_layForm_76 rfl hs_115 rfl rf_115_8 ?_
  refine ev_iconst (pc' := 80) (v := 4) dX8_layForm_79 rfl ki_4 ?_
  refine ev_iload_n (pc' := 81) (i := 3) dX8_layForm_80 rfl rfl rfl ?_
  refine ev_imul (pc' := 82) (v := 4) dX8_layForm_81 rfl (by decide) ?_
  refine ev_iload (pc' := 84) dX8_layForm_82 rfl rfl ?_
  refine ev_iadd (pc' := 85) (v := 6) dX8_layForm_84 rfl (by decide) ?_
  refine ev_iload (pc' := 87) dX8_layForm_85 rfl rfl ?_
  refine ev_if_eq (tgt := 105) (pc' := 90) dX8_layForm_87 rfl rfl (fun _ => ?_) (fun h => absurd (by decide) h)
  refine ev_aload_n (pc' := 106) (i := 0) dX8_layForm_105 rfl rfl rfl ?_
  refine ev_getR (pc' := 109) fo_X8_70 dX8_layForm_106 rfl hs_115 rfl rf_115_25 ?_
  refine ev_iconst (pc' := 110) (v := 4) dX8_layForm_109 rfl ki_4 ?_
  refine ev_iload_n (pc' := 111) (i := 3) dX8_layForm_110 rfl rfl rfl ?_
  refine ev_imul (pc' := 112) (v := 4) dX8_layForm_111 rfl (by decide) ?_
  refine ev_iload (pc' := 114) dX8_layForm_112 rfl rfl ?_
  refine ev_iadd (pc' := 115) (v := 6) dX8_layForm_114 rfl (by decide) ?_
  refine ev_iald (pc' := 116) (j := 6) (v := (I 134) 6) dX8_layForm_115 rfl hs_134 rfl (Nat.le_of_ble_eq_true rfl) (Nat.le_of_ble_eq_true rfl) rfl ?_
  refine ev_i2l (pc' := 117) (v := Int32.toInt64 ((I 134) 6)) dX8_layForm_116 rfl rfl ?_
  refine ev_last (pc' := 118) (j := 6) (L' := (ma_up (ma_up L 132 (ma_up (ma_up (ma_up (ma_up (ma_up (L 132) 0 0) 1 0) 2 0) 3 0) 4 (0 + (mW (mSel 0 (I 133) (I 134)))))) 120 (ma_up (ma_up (ma_up (ma_up (ma_up (ma_up (ma_up r1 0 (Int32.toInt64 ((I 133) 0))) 1 (Int32.toInt64 ((I 133) 1))) 2 (Int32.toInt64 ((I 133) 2))) 3 (Int32.toInt64 ((I 133) 3))) 4 (Int32.toInt64 ((I 134) 4))) 5 (Int32.toInt64 ((I 134) 5))) 6 (Int32.toInt64 ((I 134) 6))))) dX8_layForm_117 rfl hs_120 rfl (Nat.le_of_ble_eq_true rfl) (Nat.le_of_ble_eq_true rfl) (ma_up_up _ _ _ _) ?_
  refine ev_iinc (pc' := 121) (v := 3) (lv' := [some (.ref 115), some (.int 1), some (.int 1), some (.int 1), some (.int 0), some (.int 3)]) dX8_layForm_118 rfl rfl (by decide) (Nat.le_of_ble_eq_true rfl) rfl rfl ?_
  refine ev_goto (tgt := 69) dX8_layForm_121 rfl ?_
  refine ev_iload (pc' := 71) dX8_layForm_69 rfl rfl ?_
  refine ev_iconst (pc' := 72) (v := 4) dX8_layForm_71 rfl ki_4 ?_
  refine ev_icmp_ge (tgt := 124) (pc' := 75) dX8_layForm_72 rfl rfl (fun h => absurd h (by decide)) (fun _ => ?_)
  refine ev_aload_n (pc' := 76) (i := 0) dX8_layForm_75 rfl rfl rfl ?_
  refine ev_getR (pc' := 79) fo_X8_26 dX8_layForm_76 rfl hs_115 rfl rf_115_8 ?_
  refine ev_iconst (pc' := 80) (v := 4) dX8_layForm_79 rfl ki_4 ?_
  refine ev_iload_n (pc' := 81) (i := 3) dX8_layForm_80 rfl rfl rfl ?_
  refine ev_imul (pc' := 82) (v := 4) dX8_layForm_81 rfl (by decide) ?_
  refine ev_iload (pc' := 84) dX8_layForm_82 rfl rfl ?_
  refine ev_iadd (pc' := 85) (v := 7) dX8_layForm_84 rfl (by decide) ?_
  refine ev_iload (pc' := 87) dX8_layForm_85 rfl rfl ?_
  refine ev_if_eq (tgt := 105) (pc' := 90) dX8_layForm_87 rfl rfl (fun _ => ?_) (fun h => absurd (by decide) h)
  refine ev_aload_n (pc' := 106) (i := 0) dX8_layForm_105 rfl rfl rfl ?_
  refine ev_getR (pc' := 109) fo_X8_70 dX8_layForm_106 rfl hs_115 rfl rf_115_25 ?_
  refine ev_iconst (pc' := 110) (v := 4) dX8_layForm_109 rfl ki_4 ?_
  refine ev_iload_n (pc' := 111) (i := 3) dX8_layForm_110 rfl rfl rfl ?_
  refine ev_imul (pc' := 112) (v := 4) dX8_layForm_111 rfl (by decide) ?_
  refine ev_iload (pc' := 114) dX8_layForm_112 rfl rfl ?_
  refine ev_iadd (pc' := 115) (v := 7) dX8_layForm_114 rfl (by decide) ?_
  refine ev_iald (pc' := 116) (j := 7) (v := (I 134) 7) dX8_layForm_115 rfl hs_134 rfl (Nat.le_of_ble_eq_true rfl) (Nat.le_of_ble_eq_true rfl) rfl ?_
  refine ev_i2l (pc' := 117) (v := Int32.toInt64 ((I 134) 7)) dX8_layForm_116 rfl rfl ?_
  refine ev_last (pc' := 118) (j := 7) (L' := (ma_up (ma_up L 132 (ma_up (ma_up (ma_up (ma_up (ma_up (L 132) 0 0) 1 0) 2 0) 3 0) 4 (0 + (mW (mSel 0 (I 133) (I 134)))))) 120 (ma_up (ma_up (ma_up (ma_up (ma_up (ma_up (ma_up (ma_up r1 0 (Int32.toInt64 ((I 133) 0))) 1 (Int32.toInt64 ((I 133) 1))) 2 (Int32.toInt64 ((I 133) 2))) 3 (Int32.toInt64 ((I 133) 3))) 4 (Int32.toInt64 ((I 134) 4))) 5 (Int32.toInt64 ((I 134) 5))) 6 (Int32.toInt64 ((I 134) 6))) 7 (Int32.toInt64 ((I 134) 7))))) dX8_layForm_117 rfl hs_120 rfl (Nat.le_of_ble_eq_true rfl) (Nat.le_of_ble_eq_true rfl) (ma_up_up _ _ _ _) ?_
  refine ev_iinc (pc' := 121) (v := 4) (lv' := [some (.ref 115), some (.int 1), some (.int 1), some (.int 1), some (.int 0), some (.int 4)]) dX8_layForm_118 rfl rfl (by decide) (Nat.le_of_ble_eq_true rfl) rfl rfl ?_
  refine ev_goto (tgt := 69) dX8_layForm_121 rfl ?_
  refine ev_iload (pc' := 71) dX8_layForm_69 rfl rfl ?_
  refine ev_iconst (pc' := 72) (v := 4) dX8_layForm_71 rfl ki_4 ?_
  refine ev_icmp_ge (tgt := 124) (pc' := 75) dX8_layForm_72 rfl rfl (fun _ => ?_) (fun h => absurd (by decide) h)
  refine ev_iinc (pc' := 127) (v := 2) (lv' := [some (.ref 115), some (.int 1), some (.int 1), some (.int 2), some (.int 0), some (.int 4)]) dX8_layForm_124 rfl rfl (by decide) (Nat.le_of_ble_eq_true rfl) rfl rfl ?_
  refine ev_goto (tgt := 32) dX8_layForm_127 rfl ?_
  refine ev_iload_n (pc' := 33) (i := 3) dX8_layForm_32 rfl rfl rfl ?_
  refine ev_iconst (pc' := 34) (v := 4) dX8_layForm_33 rfl ki_4 ?_
  refine ev_icmp_ge (tgt := 130) (pc' := 37) dX8_layForm_34 rfl rfl (fun h => absurd h (by decide)) (fun _ => ?_)
  refine ev_iload_n (pc' := 38) (i := 1) dX8_layForm_37 rfl rfl rfl ?_
  refine ev_iload_n (pc' := 39) (i := 3) dX8_layForm_38 rfl rfl rfl ?_
  refine ev_ishr (pc' := 40) (v := 0) dX8_layForm_39 rfl (by decide) ?_
  refine ev_iconst (pc' := 41) (v := 1) dX8_layForm_40 rfl ki_1 ?_
  refine ev_iand (pc' := 42) (v := 0) dX8_layForm_41 rfl (by decide) ?_
  refine ev_iconst (pc' := 43) (v := 1) dX8_layForm_42 rfl ki_1 ?_
  refine ev_icmp_ne (tgt := 50) (pc' := 46) dX8_layForm_43 rfl rfl (fun _ => ?_) (fun h => absurd h (by decide))
  refine ev_iconst (pc' := 51) (v := 0) dX8_layForm_50 rfl ki_0 ?_
  refine ev_istore (pc' := 53) (lv' := [some (.ref 115), some (.int 1), some (.int 1), some (.int 2), some (.int 0), some (.int 4)]) dX8_layForm_51 rfl (Nat.le_of_ble_eq_true rfl) rfl rfl ?_
  refine ev_iload_n (pc' := 54) (i := 2) dX8_layForm_53 rfl rfl rfl ?_
  refine ev_iload (pc' := 56) dX8_layForm_54 rfl rfl ?_
  refine ev_if_eq (tgt := 63) (pc' := 59) dX8_layForm_56 rfl rfl (fun _ => ?_) (fun h => absurd (by decide) h)
  refine ev_iconst (pc' := 64) (v := 0) dX8_layForm_63 rfl ki_0 ?_
  refine ev_iadd (pc' := 65) (v := 1) dX8_layForm_64 rfl (by decide) ?_
  refine ev_istore_n (pc' := 66) (i := 2) (lv' := [some (.ref 115), some (.int 1), some (.int 1), some (.int 2), some (.int 0), some (.int 4)]) dX8_layForm_65 rfl rfl (Nat.le_of_ble_eq_true rfl) rfl rfl ?_
  refine ev_iconst (pc' := 67) (v := 0) dX8_layForm_66 rfl ki_0 ?_
  refine ev_istore (pc' := 69) (lv' := [some (.ref 115), some (.int 1), some (.int 1), some (.int 2), some (.int 0), some (.int 0)]) dX8_layForm_67 rfl (Nat.le_of_ble_eq_true rfl) rfl rfl ?_
  refine ev_iload (pc' := 71) dX8_layForm_69 rfl rfl ?_
  refine ev_iconst (pc' := 72) (v := 4) dX8_layForm_71 rfl ki_4 ?_
  refine ev_icmp_ge (tgt := 124) (pc' := 75) dX8_layForm_72 rfl rfl (fun h => absurd h (by decide)) (fun _ => ?_)
  refine ev_aload_n (pc' := 76) (i := 0) dX8_layForm_75 rfl rfl rfl ?_
  refine ev_getR (pc' := 79) fo_X8_26 dX8_layForm_76 rfl hs_115 rfl rf_115_8 ?_
  refine ev_iconst (pc' := 80) (v := 4) dX8_layForm_79 rfl ki_4 ?_
  refine ev_iload_n (pc' := 81) (i := 3) dX8_layForm_80 rfl rfl rfl ?_
  refine ev_imul (pc' := 82) (v := 8) dX8_layForm_81 rfl (by decide) ?_
  refine ev_iload (pc' := 84) dX8_layForm_82 rfl rfl ?_
  refine ev_iadd (pc' := 85) (v := 8) dX8_layForm_84 rfl (by decide) ?_
  refine ev_iload (pc' := 87) dX8_layForm_85 rfl rfl ?_
  refine ev_if_eq (tgt := 105) (pc' := 90) dX8_layForm_87 rfl rfl (fun _ => ?_) (fun h => absurd (by decide) h)
  refine ev_aload_n (pc' := 106) (i := 0) dX8_layForm_105 rfl rfl rfl ?_
  refine ev_getR (pc' := 109) fo_X8_70 dX8_layForm_106 rfl hs_115 rfl rf_115_25 ?_
  refine ev_iconst (pc' := 110) (v := 4) dX8_layForm_109 rfl ki_4 ?_
  refine ev_iload_n (pc' := 111) (i := 3) dX8_layForm_110 rfl rfl rfl ?_
  refine ev_imul (pc' := 112) (v := 8) dX8_layForm_111 rfl (by decide) ?_
  refine ev_iload (pc' := 114) dX8_layForm_112 rfl rfl ?_
  refine ev_iadd (pc' := 115) (v := 8) dX8_layForm_114 rfl (by decide) ?_
  refine ev_iald (pc' := 116) (j := 8) (v := (I 134) 8) dX8_layForm_115 rfl hs_134 rfl (Nat.le_of_ble_eq_true rfl) (Nat.le_of_ble_eq_true rfl) rfl ?_
  refine ev_i2l (pc' := 117) (v := Int32.toInt64 ((I 134) 8)) dX8_layForm_116 rfl rfl ?_
  refine ev_last (pc' := 118) (j := 8) (L' := (ma_up (ma_up L 132 (ma_up (ma_up (ma_up (ma_up (ma_up (L 132) 0 0) 1 0) 2 0) 3 0) 4 (0 + (mW (mSel 0 (I 133) (I 134)))))) 120 (ma_up (ma_up (ma_up (ma_up (ma_up (ma_up (ma_up (ma_up (ma_up r1 0 (Int32.toInt64 ((I 133) 0))) 1 (Int32.toInt64 ((I 133) 1))) 2 (Int32.toInt64 ((I 133) 2))) 3 (Int32.toInt64 ((I 133) 3))) 4 (Int32.toInt64 ((I 134) 4))) 5 (Int32.toInt64 ((I 134) 5))) 6 (Int32.toInt64 ((I 134) 6))) 7 (Int32.toInt64 ((I 134) 7))) 8 (Int32.toInt64 ((I 134) 8))))) dX8_layForm_117 rfl hs_120 rfl (Nat.le_of_ble_eq_true rfl) (Nat.le_of_ble_eq_true rfl) (ma_up_up _ _ _ _) ?_
  refine ev_iinc (pc' := 121) (v := 1) (lv' := [some (.ref 115), some (.int 1), some (.int 1), some (.int 2), some (.int 0), some (.int 1)]) dX8_layForm_118 rfl rfl (by decide) (Nat.le_of_ble_eq_true rfl) rfl rfl ?_
  refine ev_goto (tgt := 69) dX8_layForm_121 rfl ?_
  refine ev_iload (pc' := 71) dX8_layForm_69 rfl rfl ?_
  refine ev_iconst (pc' := 72) (v := 4) dX8_layForm_71 rfl ki_4 ?_
  refine ev_icmp_ge (tgt := 124) (pc' := 75) dX8_layForm_72 rfl rfl (fun h => absurd h (by decide)) (fun _ => ?_)
  refine ev_aload_n (pc' := 76) (i := 0) dX8_layForm_75 rfl rfl rfl ?_
  refine ev_getR (pc' := 79) fo_X8_26 dX8_layForm_76 rfl hs_115 rfl rf_115_8 ?_
  refine ev_iconst (pc' := 80) (v := 4) dX8_layForm_79 rfl ki_4 ?_
  refine ev_iload_n (pc' := 81) (i := 3) dX8_layForm_80 rfl rfl rfl ?_
  refine ev_imul (pc' := 82) (v := 8) dX8_layForm_81 rfl (by decide) ?_
  refine ev_iload (pc' := 84) dX8_layForm_82 rfl rfl ?_
  refine ev_iadd (pc' := 85) (v := 9) dX8_layForm_84 rfl (by decide) ?_
  refine ev_iload (pc' := 87) dX8_layForm_85 rfl rfl ?_
  refine ev_if_eq (tgt := 105) (pc' := 90) dX8_layForm_87 rfl rfl (fun _ => ?_) (fun h => absurd (by decide) h)
  refine ev_aload_n (pc' := 106) (i := 0) dX8_layForm_105 rfl rfl rfl ?_
  refine ev_getR (pc' := 109) fo_X8_70 dX8_layForm_106 rfl hs_115 rfl rf_115_25 ?_
  refine ev_iconst (pc' := 110) (v := 4) dX8_layForm_109 rfl ki_4 ?_
  refine ev_iload_n (pc' := 111) (i := 3) dX8_layForm_110 rfl rfl rfl ?_
  refine ev_imul (pc' := 112) (v := 8) dX8_layForm_111 rfl (by decide) ?_
  refine ev_iload (pc' := 114) dX8_layForm_112 rfl rfl ?_
  refine ev_iadd (pc' := 115) (v := 9) dX8_layForm_114 rfl (by decide) ?_
  refine ev_iald (pc' := 116) (j := 9) (v := (I 134) 9) dX8_layForm_115 rfl hs_134 rfl (Nat.le_of_ble_eq_true rfl) (Nat.le_of_ble_eq_true rfl) rfl ?_
  refine ev_i2l (pc' := 117) (v := Int32.toInt64 ((I 134) 9)) dX8_layForm_116 rfl rfl ?_
  refine ev_last (pc' := 118) (j := 9) (L' := (ma_up (ma_up L 132 (ma_up (ma_up (ma_up (ma_up (ma_up (L 132) 0 0) 1 0) 2 0) 3 0) 4 (0 + (mW (mSel 0 (I 133) (I 134)))))) 120 (ma_up (ma_up (ma_up (ma_up (ma_up (ma_up (ma_up (ma_up (ma_up (ma_up r1 0 (Int32.toInt64 ((I 133) 0))) 1 (Int32.toInt64 ((I 133) 1))) 2 (Int32.toInt64 ((I 133) 2))) 3 (Int32.toInt64 ((I 133) 3))) 4 (Int32.toInt64 ((I 134) 4))) 5 (Int32.toInt64 ((I 134) 5))) 6 (Int32.toInt64 ((I 134) 6))) 7 (Int32.toInt64 ((I 134) 7))) 8 (Int32.toInt64 ((I 134) 8))) 9 (Int32.toInt64 ((I 134) 9))))) dX8_layForm_117 rfl hs_120 rfl (Nat.le_of_ble_eq_true rfl) (Nat.le_of_ble_eq_true rfl) (ma_up_up _ _ _ _) ?_
  refine ev_iinc (pc' := 121) (v := 2) (lv' := [some (.ref 115), some (.int 1), some (.int 1), some (.int 2), some (.int 0), some (.int 2)]) dX8_layForm_118 rfl rfl (by decide) (Nat.le_of_ble_eq_true rfl) rfl rfl ?_
  refine ev_goto (tgt := 69) dX8_layForm_121 rfl ?_
  refine ev_iload (pc' := 71) dX8_layForm_69 rfl rfl ?_
  refine ev_iconst (pc' := 72) (v := 4) dX8_layForm_71 rfl ki_4 ?_
  refine ev_icmp_ge (tgt := 124) (pc' := 75) dX8_layForm_72 rfl rfl (fun h => absurd h (by decide)) (fun _ => ?_)
  refine ev_aload_n (pc' := 76) (i := 0) dX8_layForm_75 rfl rfl rfl ?_
  refine ev_getR (pc' := 79) fo_X8_26 dX8_layForm_76 rfl hs_115 rfl rf_115_8 ?_
  refine ev_iconst (pc' := 80) (v := 4) dX8_layForm_79 rfl ki_4 ?_
  refine ev_iload_n (pc' := 81) (i := 3) dX8_layForm_80 rfl rfl rfl ?_
  refine ev_imul (pc' := 82) (v := 8) dX8_layForm_81 rfl (by decide) ?_
  refine ev_iload (pc' := 84) dX8_layForm_82 rfl rfl ?_
  refine ev_iadd (pc' := 85) (v := 10) dX8_layForm_84 rfl (by decide) ?_
  refine ev_iload (pc' := 87) dX8_layForm_85 rfl rfl ?_
  refine ev_if_eq (tgt := 105) (pc' := 90) dX8_layForm_87 rfl rfl (fun _ => ?_) (fun h => absurd (by decide) h)
  refine ev_aload_n (pc' := 106) (i := 0) dX8_layForm_105 rfl rfl rfl ?_
  refine ev_getR (pc' := 109) fo_X8_70 dX8_layForm_106 rfl hs_115 rfl rf_115_25 ?_
  refine ev_iconst (pc' := 110) (v := 4) dX8_layForm_109 rfl ki_4 ?_
  refine ev_iload_n (pc' := 111) (i := 3) dX8_layForm_110 rfl rfl rfl ?_
  refine ev_imul (pc' := 112) (v := 8) dX8_layForm_111 rfl (by decide) ?_
  refine ev_iload (pc' := 114) dX8_layForm_112 rfl rfl ?_
  refine ev_iadd (pc' := 115) (v := 10) dX8_layForm_114 rfl (by decide) ?_
  refine ev_iald (pc' := 116) (j := 10) (v := (I 134) 10) dX8_layForm_115 rfl hs_134 rfl (Nat.le_of_ble_eq_true rfl) (Nat.le_of_ble_eq_true rfl) rfl ?_
  refine ev_i2l (pc' := 117) (v := Int32.toInt64 ((I 134) 10)) dX8_layForm_116 rfl rfl ?_
  refine ev_last (pc' := 118) (j := 10) (L' := (ma_up (ma_up L 132 (ma_up (ma_up (ma_up (ma_up (ma_up (L 132) 0 0) 1 0) 2 0) 3 0) 4 (0 + (mW (mSel 0 (I 133) (I 134)))))) 120 (ma_up (ma_up (ma_up (ma_up (ma_up (ma_up (ma_up (ma_up (ma_up (ma_up (ma_up r1 0 (Int32.toInt64 ((I 133) 0))) 1 (Int32.toInt64 ((I 133) 1))) 2 (Int32.toInt64 ((I 133) 2))) 3 (Int32.toInt64 ((I 133) 3))) 4 (Int32.toInt64 ((I 134) 4))) 5 (Int32.toInt64 ((I 134) 5))) 6 (Int32.toInt64 ((I 134) 6))) 7 (Int32.toInt64 ((I 134) 7))) 8 (Int32.toInt64 ((I 134) 8))) 9 (Int32.toInt64 ((I 134) 9))) 10 (Int32.toInt64 ((I 134) 10))))) dX8_layForm_117 rfl hs_120 rfl (Nat.le_of_ble_eq_true rfl) (Nat.le_of_ble_eq_true rfl) (ma_up_up _ _ _ _) ?_
  refine ev_iinc (pc' := 121) (v := 3) (lv' := [some (.ref 115), some (.int 1), some (.int 1), some (.int 2), some (.int 0), some (.int 3)]) dX8_layForm_118 rfl rfl (by decide) (Nat.le_of_ble_eq_true rfl) rfl rfl ?_
  refine ev_goto (tgt := 69) dX8_layForm_121 rfl ?_
  refine ev_iload (pc' := 71) dX8_layForm_69 rfl rfl ?_
  refine ev_iconst (pc' := 72) (v := 4) dX8_layForm_71 rfl ki_4 ?_
  refine ev_icmp_ge (tgt := 124) (pc' := 75) dX8_layForm_72 rfl rfl (fun h => absurd h (by decide)) (fun _ => ?_)
  refine ev_aload_n (pc' := 76) (i := 0) dX8_layForm_75 rfl rfl rfl ?_
  refine ev_getR (pc' := 79) fo_X8_26 dX8_layForm_76 rfl hs_115 rfl rf_115_8 ?_
  refine ev_iconst (pc' := 80) (v := 4) dX8_layForm_79 rfl ki_4 ?_
  refine ev_iload_n (pc' := 81) (i := 3) dX8_layForm_80 rfl rfl rfl ?_
  refine ev_imul (pc' := 82) (v := 8) dX8_layForm_81 rfl (by decide) ?_
  refine ev_iload (pc' := 84) dX8_layForm_82 rfl rfl ?_
  refine ev_iadd (pc' := 85) (v := 11) dX8_layForm_84 rfl (by decide) ?_
  refine ev_iload (pc' := 87) dX8_layForm_85 rfl rfl ?_
  refine ev_if_eq (tgt := 105) (pc' := 90) dX8_layForm_87 rfl rfl (fun _ => ?_) (fun h => absurd (by decide) h)
  refine ev_aload_n (pc' := 106) (i := 0) dX8_layForm_105 rfl rfl rfl ?_
  refine ev_getR (pc' := 109) fo_X8_70 dX8_layForm_106 rfl hs_115 rfl rf_115_25 ?_
  refine ev_iconst (pc' := 110) (v := 4) dX8_layForm_109 rfl ki_4 ?_
  refine ev_iload_n (pc' := 111) (i := 3) dX8_layForm_110 rfl rfl rfl ?_
  refine ev_imul (pc' := 112) (v := 8) dX8_layForm_111 rfl (by decide) ?_
  refine ev_iload (pc' := 114) dX8_layForm_112 rfl rfl ?_
  refine ev_iadd (pc' := 115) (v := 11) dX8_layForm_114 rfl (by decide) ?_
  refine ev_iald (pc' := 116) (j := 11) (v := (I 134) 11) dX8_layForm_115 rfl hs_134 rfl (Nat.le_of_ble_eq_true rfl) (Nat.le_of_ble_eq_true rfl) rfl ?_
  refine ev_i2l (pc' := 117) (v := Int32.toInt64 ((I 134) 11)) dX8_layForm_116 rfl rfl ?_
  refine ev_last (pc' := 118) (j := 11) (L' := (ma_up (ma_up L 132 (ma_up (ma_up (ma_up (ma_up (ma_up (L 132) 0 0) 1 0) 2 0) 3 0) 4 (0 + (mW (mSel 0 (I 133) (I 134)))))) 120 (ma_up (ma_up (ma_up (ma_up (ma_up (ma_up (ma_up (ma_up (ma_up (ma_up (ma_up (ma_up r1 0 (Int32.toInt64 ((I 133) 0))) 1 (Int32.toInt64 ((I 133) 1))) 2 (Int32.toInt64 ((I 133) 2))) 3 (Int32.toInt64 ((I 133) 3))) 4 (Int32.toInt64 ((I 134) 4))) 5 (Int32.toInt64 ((I 134) 5))) 6 (Int32.toInt64 ((I 134) 6))) 7 (Int32.toInt64 ((I 134) 7))) 8 (Int32.toInt64 ((I 134) 8))) 9 (Int32.toInt64 ((I 134) 9))) 10 (Int32.toInt64 ((I 134) 10))) 11 (Int32.toInt64 ((I 134) 11))))) dX8_layForm_117 rfl hs_120 rfl (Nat.le_of_ble_eq_true rfl) (Nat.le_of_ble_eq_true rfl) (ma_up_up _ _ _ _) ?_
  refine ev_iinc (pc' := 121) (v := 4) (lv' := [some (.ref 115), some (.int 1), some (.int 1), some (.int 2), some (.int 0), some (.int 4)]) dX8_layForm_118 rfl rfl (by decide) (Nat.le_of_ble_eq_true rfl) rfl rfl ?_
  refine ev_goto (tgt := 69) dX8_layForm_121 rfl ?_
  refine ev_iload (pc' := 71) dX8_layForm_69 rfl rfl ?_
  refine ev_iconst (pc' := 72) (v := 4) dX8_layForm_71 rfl ki_4 ?_
  refine ev_icmp_ge (tgt := 124) (pc' := 75) dX8_layForm_72 rfl rfl (fun _ => ?_) (fun h => absurd (by decide) h)
  refine ev_iinc (pc' := 127) (v := 3) (lv' := [some (.ref 115), some (.int 1), some (.int 1), some (.int 3), some (.int 0), some (.int 4)]) dX8_layForm_124 rfl rfl (by decide) (Nat.le_of_ble_eq_true rfl) rfl rfl ?_
  refine ev_goto (tgt := 32) dX8_layForm_127 rfl ?_
  refine ev_iload_n (pc' := 33) (i := 3) dX8_layForm_32 rfl rfl rfl ?_
  refine ev_iconst (pc' := 34) (v := 4) dX8_layForm_33 rfl ki_4 ?_
  refine ev_icmp_ge (tgt := 130) (pc' := 37) dX8_layForm_34 rfl rfl (fun h => absurd h (by decide)) (fun _ => ?_)
  refine ev_iload_n (pc' := 38) (i := 1) dX8_layForm_37 rfl rfl rfl ?_
  refine ev_iload_n (pc' := 39) (i := 3) dX8_layForm_38 rfl rfl rfl ?_
  refine ev_ishr (pc' := 40) (v := 0) dX8_layForm_39 rfl (by decide) ?_
  refine ev_iconst (pc' := 41) (v := 1) dX8_layForm_40 rfl ki_1 ?_
  refine ev_iand (pc' := 42) (v := 0) dX8_layForm_41 rfl (by decide) ?_
  refine ev_iconst (pc' := 43) (v := 1) dX8_layForm_42 rfl ki_1 ?_
  refine ev_icmp_ne (tgt := 50) (pc' := 46) dX8_layForm_43 rfl rfl (fun _ => ?_) (fun h => absurd h (by decide))
  refine ev_iconst (pc' := 51) (v := 0) dX8_layForm_50 rfl ki_0 ?_
  refine ev_istore (pc' := 53) (lv' := [some (.ref 115), some (.int 1), some (.int 1), some (.int 3), some (.int 0), some (.int 4)]) dX8_layForm_51 rfl (Nat.le_of_ble_eq_true rfl) rfl rfl ?_
  refine ev_iload_n (pc' := 54) (i := 2) dX8_layForm_53 rfl rfl rfl ?_
  refine ev_iload (pc' := 56) dX8_layForm_54 rfl rfl ?_
  refine ev_if_eq (tgt := 63) (pc' := 59) dX8_layForm_56 rfl rfl (fun _ => ?_) (fun h => absurd (by decide) h)
  refine ev_iconst (pc' := 64) (v := 0) dX8_layForm_63 rfl ki_0 ?_
  refine ev_iadd (pc' := 65) (v := 1) dX8_layForm_64 rfl (by decide) ?_
  refine ev_istore_n (pc' := 66) (i := 2) (lv' := [some (.ref 115), some (.int 1), some (.int 1), some (.int 3), some (.int 0), some (.int 4)]) dX8_layForm_65 rfl rfl (Nat.le_of_ble_eq_true rfl) rfl rfl ?_
  refine ev_iconst (pc' := 67) (v := 0) dX8_layForm_66 rfl ki_0 ?_
  refine ev_istore (pc' := 69) (lv' := [some (.ref 115), some (.int 1), some (.int 1), some (.int 3), some (.int 0), some (.int 0)]) dX8_layForm_67 rfl (Nat.le_of_ble_eq_true rfl) rfl rfl ?_
  refine ev_iload (pc' := 71) dX8_layForm_69 rfl rfl ?_
  refine ev_iconst (pc' := 72) (v := 4) dX8_layForm_71 rfl ki_4 ?_
  refine ev_icmp_ge (tgt := 124) (pc' := 75) dX8_layForm_72 rfl rfl (fun h => absurd h (by decide)) (fun _ => ?_)
  refine ev_aload_n (pc' := 76) (i := 0) dX8_layForm_75 rfl rfl rfl ?_
  refine ev_getR (pc' := 79) fo_X8_26 dX8_layForm_76 rfl hs_115 rfl rf_115_8 ?_
  refine ev_iconst (pc' := 80) (v := 4) dX8_layForm_79 rfl ki_4 ?_
  refine ev_iload_n (pc' := 81) (i := 3) dX8_layForm_80 rfl rfl rfl ?_
  refine ev_imul (pc' := 82) (v := 12) dX8_layForm_81 rfl (by decide) ?_
  refine ev_iload (pc' := 84) dX8_layForm_82 rfl rfl ?_
  refine ev_iadd (pc' := 85) (v := 12) dX8_layForm_84 rfl (by decide) ?_
  refine ev_iload (pc' := 87) dX8_layForm_85 rfl rfl ?_
  refine ev_if_eq (tgt := 105) (pc' := 90) dX8_layForm_87 rfl rfl (fun _ => ?_) (fun h => absurd (by decide) h)
  refine ev_aload_n (pc' := 106) (i := 0) dX8_layForm_105 rfl rfl rfl ?_
  refine ev_getR (pc' := 109) fo_X8_70 dX8_layForm_106 rfl hs_115 rfl rf_115_25 ?_
  refine ev_iconst (pc' := 110) (v := 4) dX8_layForm_109 rfl ki_4 ?_
  refine ev_iload_n (pc' := 111) (i := 3) dX8_layForm_110 rfl rfl rfl ?_
  refine ev_imul (pc' := 112) (v := 12) dX8_layForm_111 rfl (by decide) ?_
  refine ev_iload (pc' := 114) dX8_layForm_112 rfl rfl ?_
  refine ev_iadd (pc' := 115) (v := 12) dX8_layForm_114 rfl (by decide) ?_
  refine ev_iald (pc' := 116) (j := 12) (v := (I 134) 12) dX8_layForm_115 rfl hs_134 rfl (Nat.le_of_ble_eq_true rfl) (Nat.le_of_ble_eq_true rfl) rfl ?_
  refine ev_i2l (pc' := 117) (v := Int32.toInt64 ((I 134) 12)) dX8_layForm_116 rfl rfl ?_
  refine ev_last (pc' := 118) (j := 12) (L' := (ma_up (ma_up L 132 (ma_up (ma_up (ma_up (ma_up (ma_up (L 132) 0 0) 1 0) 2 0) 3 0) 4 (0 + (mW (mSel 0 (I 133) (I 134)))))) 120 (ma_up (ma_up (ma_up (ma_up (ma_up (ma_up (ma_up (ma_up (ma_up (ma_up (ma_up (ma_up (ma_up r1 0 (Int32.toInt64 ((I 133) 0))) 1 (Int32.toInt64 ((I 133) 1))) 2 (Int32.toInt64 ((I 133) 2))) 3 (Int32.toInt64 ((I 133) 3))) 4 (Int32.toInt64 ((I 134) 4))) 5 (Int32.toInt64 ((I 134) 5))) 6 (Int32.toInt64 ((I 134) 6))) 7 (Int32.toInt64 ((I 134) 7))) 8 (Int32.toInt64 ((I 134) 8))) 9 (Int32.toInt64 ((I 134) 9))) 10 (Int32.toInt64 ((I 134) 10))) 11 (Int32.toInt64 ((I 134) 11))) 12 (Int32.toInt64 ((I 134) 12))))) dX8_layForm_117 rfl hs_120 rfl (Nat.le_of_ble_eq_true rfl) (Nat.le_of_ble_eq_true rfl) (ma_up_up _ _ _ _) ?_
  refine ev_iinc (pc' := 121) (v := 1) (lv' := [some (.ref 115), some (.int 1), some (.int 1), some (.int 3), some (.int 0), some (.int 1)]) dX8_layForm_118 rfl rfl (by decide) (Nat.le_of_ble_eq_true rfl) rfl rfl ?_
  refine ev_goto (tgt := 69) dX8_layForm_121 rfl ?_
  refine ev_iload (pc' := 71) dX8_layForm_69 rfl rfl ?_
  refine ev_iconst (pc' := 72) (v := 4) dX8_layForm_71 rfl ki_4 ?_
  refine ev_icmp_ge (tgt := 124) (pc' := 75) dX8_layForm_72 rfl rfl (fun h => absurd h (by decide)) (fun _ => ?_)
  refine ev_aload_n (pc' := 76) (i := 0) dX8_layForm_75 rfl rfl rfl ?_
  refine ev_getR (pc' := 79) fo_X8_26 dX8_layForm_76 rfl hs_115 rfl rf_115_8 ?_
  refine ev_iconst (pc' := 80) (v := 4) dX8_layForm_79 rfl ki_4 ?_
  refine ev_iload_n (pc' := 81) (i := 3) dX8_layForm_80 rfl rfl rfl ?_
  refine ev_imul (pc' := 82) (v := 12) dX8_layForm_81 rfl (by decide) ?_
  refine ev_iload (pc' := 84) dX8_layForm_82 rfl rfl ?_
  refine ev_iadd (pc' := 85) (v := 13) dX8_layForm_84 rfl (by decide) ?_
  refine ev_iload (pc' := 87) dX8_layForm_85 rfl rfl ?_
  refine ev_if_eq (tgt := 105) (pc' := 90) dX8_layForm_87 rfl rfl (fun _ => ?_) (fun h => absurd (by decide) h)
  refine ev_aload_n (pc' := 106) (i := 0) dX8_layForm_105 rfl rfl rfl ?_
  refine ev_getR (pc' := 109) fo_X8_70 dX8_layForm_106 rfl hs_115 rfl rf_115_25 ?_
  refine ev_iconst (pc' := 110) (v := 4) dX8_layForm_109 rfl ki_4 ?_
  refine ev_iload_n (pc' := 111) (i := 3) dX8_layForm_110 rfl rfl rfl ?_
  refine ev_imul (pc' := 112) (v := 12) dX8_layForm_111 rfl (by decide) ?_
  refine ev_iload (pc' := 114) dX8_layForm_112 rfl rfl ?_
  refine ev_iadd (pc' := 115) (v := 13) dX8_layForm_114 rfl (by decide) ?_
  refine ev_iald (pc' := 116) (j := 13) (v := (I 134) 13) dX8_layForm_115 rfl hs_134 rfl (Nat.le_of_ble_eq_true rfl) (Nat.le_of_ble_eq_true rfl) rfl ?_
  refine ev_i2l (pc' := 117) (v := Int32.toInt64 ((I 134) 13)) dX8_layForm_116 rfl rfl ?_
  refine ev_last (pc' := 118) (j := 13) (L' := (ma_up (ma_up L 132 (ma_up (ma_up (ma_up (ma_up (ma_up (L 132) 0 0) 1 0) 2 0) 3 0) 4 (0 + (mW (mSel 0 (I 133) (I 134)))))) 120 (ma_up (ma_up (ma_up (ma_up (ma_up (ma_up (ma_up (ma_up (ma_up (ma_up (ma_up (ma_up (ma_up (ma_up r1 0 (Int32.toInt64 ((I 133) 0))) 1 (Int32.toInt64 ((I 133) 1))) 2 (Int32.toInt64 ((I 133) 2))) 3 (Int32.toInt64 ((I 133) 3))) 4 (Int32.toInt64 ((I 134) 4))) 5 (Int32.toInt64 ((I 134) 5))) 6 (Int32.toInt64 ((I 134) 6))) 7 (Int32.toInt64 ((I 134) 7))) 8 (Int32.toInt64 ((I 134) 8))) 9 (Int32.toInt64 ((I 134) 9))) 10 (Int32.toInt64 ((I 134) 10))) 11 (Int32.toInt64 ((I 134) 11))) 12 (Int32.toInt64 ((I 134) 12))) 13 (Int32.toInt64 ((I 134) 13))))) dX8_layForm_117 rfl hs_120 rfl (Nat.le_of_ble_eq_true rfl) (Nat.le_of_ble_eq_true rfl) (ma_up_up _ _ _ _) ?_
  refine ev_iinc (pc' := 121) (v := 2) (lv' := [some (.ref 115), some (.int 1), some (.int 1), some (.int 3), some (.int 0), some (.int 2)]) dX8_layForm_118 rfl rfl (by decide) (Nat.le_of_ble_eq_true rfl) rfl rfl ?_
  refine ev_goto (tgt := 69) dX8_layForm_121 rfl ?_
  refine ev_iload (pc' := 71) dX8_layForm_69 rfl rfl ?_
  refine ev_iconst (pc' := 72) (v := 4) dX8_layForm_71 rfl ki_4 ?_
  refine ev_icmp_ge (tgt := 124) (pc' := 75) dX8_layForm_72 rfl rfl (fun h => absurd h (by decide)) (fun _ => ?_)
  refine ev_aload_n (pc' := 76) (i := 0) dX8_layForm_75 rfl rfl rfl ?_
  refine ev_getR (pc' := 79) fo_X8_26 dX8_layForm_76 rfl hs_115 rfl rf_115_8 ?_
  refine ev_iconst (pc' := 80) (v := 4) dX8_layForm_79 rfl ki_4 ?_
  refine ev_iload_n (pc' := 81) (i := 3) dX8_layForm_80 rfl rfl rfl ?_
  refine ev_imul (pc' := 82) (v := 12) dX8_layForm_81 rfl (by decide) ?_
  refine ev_iload (pc' := 84) dX8_layForm_82 rfl rfl ?_
  refine ev_iadd (pc' := 85) (v := 14) dX8_layForm_84 rfl (by decide) ?_
  refine ev_iload (pc' := 87) dX8_layForm_85 rfl rfl ?_
  refine ev_if_eq (tgt := 105) (pc' := 90) dX8_layForm_87 rfl rfl (fun _ => ?_) (fun h => absurd (by decide) h)
  refine ev_aload_n (pc' := 106) (i := 0) dX8_layForm_105 rfl rfl rfl ?_
  refine ev_getR (pc' := 109) fo_X8_70 dX8_layForm_106 rfl hs_115 rfl rf_115_25 ?_
  refine ev_iconst (pc' := 110) (v := 4) dX8_layForm_109 rfl ki_4 ?_
  refine ev_iload_n (pc' := 111) (i := 3) dX8_layForm_110 rfl rfl rfl ?_
  refine ev_imul (pc' := 112) (v := 12) dX8_layForm_111 rfl (by decide) ?_
  refine ev_iload (pc' := 114) dX8_layForm_112 rfl rfl ?_
  refine ev_iadd (pc' := 115) (v := 14) dX8_layForm_114 rfl (by decide) ?_
  refine ev_iald (pc' := 116) (j := 14) (v := (I 134) 14) dX8_layForm_115 rfl hs_134 rfl (Nat.le_of_ble_eq_true rfl) (Nat.le_of_ble_eq_true rfl) rfl ?_
  refine ev_i2l (pc' := 117) (v := Int32.toInt64 ((I 134) 14)) dX8_layForm_116 rfl rfl ?_
  refine ev_last (pc' := 118) (j := 14) (L' := (ma_up (ma_up L 132 (ma_up (ma_up (ma_up (ma_up (ma_up (L 132) 0 0) 1 0) 2 0) 3 0) 4 (0 + (mW (mSel 0 (I 133) (I 134)))))) 120 (ma_up (ma_up (ma_up (ma_up (ma_up (ma_up (ma_up (ma_up (ma_up (ma_up (ma_up (ma_up (ma_up (ma_up (ma_up r1 0 (Int32.toInt64 ((I 133) 0))) 1 (Int32.toInt64 ((I 133) 1))) 2 (Int32.toInt64 ((I 133) 2))) 3 (Int32.toInt64 ((I 133) 3))) 4 (Int32.toInt64 ((I 134) 4))) 5 (Int32.toInt64 ((I 134) 5))) 6 (Int32.toInt64 ((I 134) 6))) 7 (Int32.toInt64 ((I 134) 7))) 8 (Int32.toInt64 ((I 134) 8))) 9 (Int32.toInt64 ((I 134) 9))) 10 (Int32.toInt64 ((I 134) 10))) 11 (Int32.toInt64 ((I 134) 11))) 12 (Int32.toInt64 ((I 134) 12))) 13 (Int32.toInt64 ((I 134) 13))) 14 (Int32.toInt64 ((I 134) 14))))) dX8_layForm_117 rfl hs_120 rfl (Nat.le_of_ble_eq_true rfl) (Nat.le_of_ble_eq_true rfl) (ma_up_up _ _ _ _) ?_
  refine ev_iinc (pc' := 121) (v := 3) (lv' := [some (.ref 115), some (.int 1), some (.int 1), some (.int 3), some (.int 0), some (.int 3)]) dX8_layForm_118 rfl rfl (by decide) (Nat.le_of_ble_eq_true rfl) rfl rfl ?_
  refine ev_goto (tgt := 69) dX8_layForm_121 rfl ?_
  refine ev_iload (pc' := 71) dX8_layForm_69 rfl rfl ?_
  refine ev_iconst (pc' := 72) (v := 4) dX8_layForm_71 rfl ki_4 ?_
  refine ev_icmp_ge (tgt := 124) (pc' := 75) dX8_layForm_72 rfl rfl (fun h => absurd h (by decide)) (fun _ => ?_)
  refine ev_aload_n (pc' := 76) (i := 0) dX8_layForm_75 rfl rfl rfl ?_
  refine ev_getR (pc' := 79) fo_X8_26 dX8_layForm_76 rfl hs_115 rfl rf_115_8 ?_
  refine ev_iconst (pc' := 80) (v := 4) dX8_layForm_79 rfl ki_4 ?_
  refine ev_iload_n (pc' := 81) (i := 3) dX8_layForm_80 rfl rfl rfl ?_
  refine ev_imul (pc' := 82) (v := 12) dX8_layForm_81 rfl (by decide) ?_
  refine ev_iload (pc' := 84) dX8_layForm_82 rfl rfl ?_
  refine ev_iadd (pc' := 85) (v := 15) dX8_layForm_84 rfl (by decide) ?_
  refine ev_iload (pc' := 87) dX8_layForm_85 rfl rfl ?_
  refine ev_if_eq (tgt := 105) (pc' := 90) dX8_layForm_87 rfl rfl (fun _ => ?_) (fun h => absurd (by decide) h)
  refine ev_aload_n (pc' := 106) (i := 0) dX8_layForm_105 rfl rfl rfl ?_
  refine ev_getR (pc' := 109) fo_X8_70 dX8_layForm_106 rfl hs_115 rfl rf_115_25 ?_
  refine ev_iconst (pc' := 110) (v := 4) dX8_layForm_109 rfl ki_4 ?_
  refine ev_iload_n (pc' := 111) (i := 3) dX8_layForm_110 rfl rfl rfl ?_
  refine ev_imul (pc' := 112) (v := 12) dX8_layForm_111 rfl (by decide) ?_
  refine ev_iload (pc' := 114) dX8_layForm_112 rfl rfl ?_
  refine ev_iadd (pc' := 115) (v := 15) dX8_layForm_114 rfl (by decide) ?_
  refine ev_iald (pc' := 116) (j := 15) (v := (I 134) 15) dX8_layForm_115 rfl hs_134 rfl (Nat.le_of_ble_eq_true rfl) (Nat.le_of_ble_eq_true rfl) rfl ?_
  refine ev_i2l (pc' := 117) (v := Int32.toInt64 ((I 134) 15)) dX8_layForm_116 rfl rfl ?_
  refine ev_last (pc' := 118) (j := 15) (L' := (ma_up (ma_up L 132 (ma_up (ma_up (ma_up (ma_up (ma_up (L 132) 0 0) 1 0) 2 0) 3 0) 4 (0 + (mW (mSel 0 (I 133) (I 134)))))) 120 (ma_up (ma_up (ma_up (ma_up (ma_up (ma_up (ma_up (ma_up (ma_up (ma_up (ma_up (ma_up (ma_up (ma_up (ma_up (ma_up r1 0 (Int32.toInt64 ((I 133) 0))) 1 (Int32.toInt64 ((I 133) 1))) 2 (Int32.toInt64 ((I 133) 2))) 3 (Int32.toInt64 ((I 133) 3))) 4 (Int32.toInt64 ((I 134) 4))) 5 (Int32.toInt64 ((I 134) 5))) 6 (Int32.toInt64 ((I 134) 6))) 7 (Int32.toInt64 ((I 134) 7))) 8 (Int32.toInt64 ((I 134) 8))) 9 (Int32.toInt64 ((I 134) 9))) 10 (Int32.toInt64 ((I 134) 10))) 11 (Int32.toInt64 ((I 134) 11))) 12 (Int32.toInt64 ((I 134) 12))) 13 (Int32.toInt64 ((I 134) 13))) 14 (Int32.toInt64 ((I 134) 14))) 15 (Int32.toInt64 ((I 134) 15))))) dX8_layForm_117 rfl hs_120 rfl (Nat.le_of_ble_eq_true rfl) (Nat.le_of_ble_eq_true rfl) (ma_up_up _ _ _ _) ?_
  refine ev_iinc (pc' := 121) (v := 4) (lv' := [some (.ref 115), some (.int 1), some (.int 1), some (.int 3), some (.int 0), some (.int 4)]) dX8_layForm_118 rfl rfl (by decide) (Nat.le_of_ble_eq_true rfl) rfl rfl ?_
  refine ev_goto (tgt := 69) dX8_layForm_121 rfl ?_
  refine ev_iload (pc' := 71) dX8_layForm_69 rfl rfl ?_
  refine ev_iconst (pc' := 72) (v := 4) dX8_layForm_71 rfl ki_4 ?_
  refine ev_icmp_ge (tgt := 124) (pc' := 75) dX8_layForm_72 rfl rfl (fun _ => ?_) (fun h => absurd (by decide) h)
  refine ev_iinc (pc' := 127) (v := 4) (lv' := [some (.ref 115), some (.int 1), some (.int 1), some (.int 4), some (.int 0), some (.int 4)]) dX8_layForm_124 rfl rfl (by decide) (Nat.le_of_ble_eq_true rfl) rfl rfl ?_
  refine ev_goto (tgt := 32) dX8_layForm_127 rfl ?_
  refine ev_iload_n (pc' := 33) (i := 3) dX8_layForm_32 rfl rfl rfl ?_
  refine ev_iconst (pc' := 34) (v := 4) dX8_layForm_33 rfl ki_4 ?_
  refine ev_icmp_ge (tgt := 130) (pc' := 37) dX8_layForm_34 rfl rfl (fun _ => ?_) (fun h => absurd (by decide) h)
  refine ev_aload_n (pc' := 131) (i := 0) dX8_layForm_130 rfl rfl rfl ?_
  refine ev_getR (pc' := 134) fo_X8_64 dX8_layForm_131 rfl hs_115 rfl rf_115_23 ?_
  refine ev_iconst (pc' := 135) (v := 4) dX8_layForm_134 rfl ki_4 ?_
  refine ev_iload_n (pc' := 136) (i := 2) dX8_layForm_135 rfl rfl rfl ?_
  refine ev_isub (pc' := 137) (v := 3) dX8_layForm_136 rfl (by decide) ?_
  refine ev_dup2 (pc' := 138) dX8_layForm_137 rfl rfl rfl ?_
  refine ev_lald (pc' := 139) (j := 3) (v := 0) dX8_layForm_138 rfl hs_132 rfl (Nat.le_of_ble_eq_true rfl) (Nat.le_of_ble_eq_true rfl) rfl ?_
  refine ev_aload_n (pc' := 140) (i := 0) dX8_layForm_139 rfl rfl rfl ?_
  refine ev_getR (pc' := 143) fo_X8_26 dX8_layForm_140 rfl hs_115 rfl rf_115_8 ?_
  refine ev_callS (pc' := 146) (rm' := rX8_worthOf) (av := [.ref 120]) (rest := [.long 0, .int 3, .ref 132]) co_X8_173 cs_X8_worthOf dX8_layForm_143 rfl rfl rfl (Nat.le_of_ble_eq_true rfl) ⟨(Nat.le_of_ble_eq_true rfl), (Nat.le_of_ble_eq_true rfl)⟩ ⟨(Nat.le_of_ble_eq_true rfl), (Nat.le_of_ble_eq_true rfl)⟩ ?_
  refine t_X8_worthOf 120 hs_120 ?_
  refine ev_eql (w := mW (mSel 1 (I 133) (I 134))) rfl ?_
  refine ev_ladd (pc' := 147) (v := 0 + (mW (mSel 1 (I 133) (I 134)))) dX8_layForm_146 rfl rfl ?_
  refine ev_last (pc' := 148) (j := 3) (L' := (ma_up (ma_up L 132 (ma_up (ma_up (ma_up (ma_up (ma_up (L 132) 0 0) 1 0) 2 0) 3 (0 + (mW (mSel 1 (I 133) (I 134))))) 4 (0 + (mW (mSel 0 (I 133) (I 134)))))) 120 (ma_up (ma_up (ma_up (ma_up (ma_up (ma_up (ma_up (ma_up (ma_up (ma_up (ma_up (ma_up (ma_up (ma_up (ma_up (ma_up r1 0 (Int32.toInt64 ((I 133) 0))) 1 (Int32.toInt64 ((I 133) 1))) 2 (Int32.toInt64 ((I 133) 2))) 3 (Int32.toInt64 ((I 133) 3))) 4 (Int32.toInt64 ((I 134) 4))) 5 (Int32.toInt64 ((I 134) 5))) 6 (Int32.toInt64 ((I 134) 6))) 7 (Int32.toInt64 ((I 134) 7))) 8 (Int32.toInt64 ((I 134) 8))) 9 (Int32.toInt64 ((I 134) 9))) 10 (Int32.toInt64 ((I 134) 10))) 11 (Int32.toInt64 ((I 134) 11))) 12 (Int32.toInt64 ((I 134) 12))) 13 (Int32.toInt64 ((I 134) 13))) 14 (Int32.toInt64 ((I 134) 14))) 15 (Int32.toInt64 ((I 134) 15))))) dX8_layForm_147 rfl hs_132 rfl (Nat.le_of_ble_eq_true rfl) (Nat.le_of_ble_eq_true rfl) ((congrArg (ma_up _ 132) ((ma_up_comm _ (show 3 ≠ 4 from (by decide)) _ _).trans (congrArg (fun f => ma_up f 4 _) (ma_up_up _ _ _ _)))).trans ((ma_up_comm _ (show 132 ≠ 120 from (by decide)) _ _).trans (congrArg (fun f => ma_up f 120 _) (ma_up_up _ _ _ _)))) ?_
  refine ev_iinc (pc' := 151) (v := 2) (lv' := [some (.ref 115), some (.int 2), some (.int 1), some (.int 4), some (.int 0), some (.int 4)]) dX8_layForm_148 rfl rfl (by decide) (Nat.le_of_ble_eq_true rfl) rfl rfl ?_
  refine ev_goto (tgt := 22) dX8_layForm_151 rfl ?_
  refine ev_rowL (fun r2 => ?_)
  refine ev_iload_n (pc' := 23) (i := 1) dX8_layForm_22 rfl rfl rfl ?_
  refine ev_bipush (pc' := 25) (v := 16) dX8_layForm_23 rfl kb_16 ?_
  refine ev_icmp_ge (tgt := 154) (pc' := 28) dX8_layForm_25 rfl rfl (fun h => absurd h (by decide)) (fun _ => ?_)
  refine ev_iconst (pc' := 29) (v := 0) dX8_layForm_28 rfl ki_0 ?_
  refine ev_istore_n (pc' := 30) (i := 2) (lv' := [some (.ref 115), some (.int 2), some (.int 0), some (.int 4), some (.int 0), some (.int 4)]) dX8_layForm_29 rfl rfl (Nat.le_of_ble_eq_true rfl) rfl rfl ?_
  refine ev_iconst (pc' := 31) (v := 0) dX8_layForm_30 rfl ki_0 ?_
  refine ev_istore_n (pc' := 32) (i := 3) (lv' := [some (.ref 115), some (.int 2), some (.int 0), some (.int 0), some (.int 0), some (.int 4)]) dX8_layForm_31 rfl rfl (Nat.le_of_ble_eq_true rfl) rfl rfl ?_
  refine ev_iload_n (pc' := 33) (i := 3) dX8_layForm_32 rfl rfl rfl ?_
  refine ev_iconst (pc' := 34) (v := 4) dX8_layForm_33 rfl ki_4 ?_
  refine ev_icmp_ge (tgt := 130) (pc' := 37) dX8_layForm_34 rfl rfl (fun h => absurd h (by decide)) (fun _ => ?_)
  refine ev_iload_n (pc' := 38) (i := 1) dX8_layForm_37 rfl rfl rfl ?_
  refine ev_iload_n (pc' := 39) (i := 3) dX8_layForm_38 rfl rfl rfl ?_
  refine ev_ishr (pc' := 40) (v := 2) dX8_layForm_39 rfl (by decide) ?_
  refine ev_iconst (pc' := 41) (v := 1) dX8_layForm_40 rfl ki_1 ?_
  refine ev_iand (pc' := 42) (v := 0) dX8_layForm_41 rfl (by decide) ?_
  refine ev_iconst (pc' := 43) (v := 1) dX8_layForm_42 rfl ki_1 ?_
  refine ev_icmp_ne (tgt := 50) (pc' := 46) dX8_layForm_43 rfl rfl (fun _ => ?_) (fun h => absurd h (by decide))
  refine ev_iconst (pc' := 51) (v := 0) dX8_layForm_50 rfl ki_0 ?_
  refine ev_istore (pc' := 53) (lv' := [some (.ref 115), some (.int 2), some (.int 0), some (.int 0), some (.int 0), some (.int 4)]) dX8_layForm_51 rfl (Nat.le_of_ble_eq_true rfl) rfl rfl ?_
  refine ev_iload_n (pc' := 54) (i := 2) dX8_layForm_53 rfl rfl rfl ?_
  refine ev_iload (pc' := 56) dX8_layForm_54 rfl rfl ?_
  refine ev_if_eq (tgt := 63) (pc' := 59) dX8_layForm_56 rfl rfl (fun _ => ?_) (fun h => absurd (by decide) h)
  refine ev_iconst (pc' := 64) (v := 0) dX8_layForm_63 rfl ki_0 ?_
  refine ev_iadd (pc' := 65) (v := 0) dX8_layForm_64 rfl (by decide) ?_
  refine ev_istore_n (pc' := 66) (i := 2) (lv' := [some (.ref 115), some (.int 2), some (.int 0), some (.int 0), some (.int 0), some (.int 4)]) dX8_layForm_65 rfl rfl (Nat.le_of_ble_eq_true rfl) rfl rfl ?_
  refine ev_iconst (pc' := 67) (v := 0) dX8_layForm_66 rfl ki_0 ?_
  refine ev_istore (pc' := 69) (lv' := [some (.ref 115), some (.int 2), some (.int 0), some (.int 0), some (.int 0), some (.int 0)]) dX8_layForm_67 rfl (Nat.le_of_ble_eq_true rfl) rfl rfl ?_
  refine ev_iload (pc' := 71) dX8_layForm_69 rfl rfl ?_
  refine ev_iconst (pc' := 72) (v := 4) dX8_layForm_71 rfl ki_4 ?_
  refine ev_icmp_ge (tgt := 124) (pc' := 75) dX8_layForm_72 rfl rfl (fun h => absurd h (by decide)) (fun _ => ?_)
  refine ev_aload_n (pc' := 76) (i := 0) dX8_layForm_75 rfl rfl rfl ?_
  refine ev_getR (pc' := 79) fo_X8_26 dX8_layForm_76 rfl hs_115 rfl rf_115_8 ?_
  refine ev_iconst (pc' := 80) (v := 4) dX8_layForm_79 rfl ki_4 ?_
  refine ev_iload_n (pc' := 81) (i := 3) dX8_layForm_80 rfl rfl rfl ?_
  refine ev_imul (pc' := 82) (v := 0) dX8_layForm_81 rfl (by decide) ?_
  refine ev_iload (pc' := 84) dX8_layForm_82 rfl rfl ?_
  refine ev_iadd (pc' := 85) (v := 0) dX8_layForm_84 rfl (by decide) ?_
  refine ev_iload (pc' := 87) dX8_layForm_85 rfl rfl ?_
  refine ev_if_eq (tgt := 105) (pc' := 90) dX8_layForm_87 rfl rfl (fun _ => ?_) (fun h => absurd (by decide) h)
  refine ev_aload_n (pc' := 106) (i := 0) dX8_layForm_105 rfl rfl rfl ?_
  refine ev_getR (pc' := 109) fo_X8_70 dX8_layForm_106 rfl hs_115 rfl rf_115_25 ?_
  refine ev_iconst (pc' := 110) (v := 4) dX8_layForm_109 rfl ki_4 ?_
  refine ev_iload_n (pc' := 111) (i := 3) dX8_layForm_110 rfl rfl rfl ?_
  refine ev_imul (pc' := 112) (v := 0) dX8_layForm_111 rfl (by decide) ?_
  refine ev_iload (pc' := 114) dX8_layForm_112 rfl rfl ?_
  refine ev_iadd (pc' := 115) (v := 0) dX8_layForm_114 rfl (by decide) ?_
  refine ev_iald (pc' := 116) (j := 0) (v := (I 134) 0) dX8_layForm_115 rfl hs_134 rfl (Nat.le_of_ble_eq_true rfl) (Nat.le_of_ble_eq_true rfl) rfl ?_
  refine ev_i2l (pc' := 117) (v := Int32.toInt64 ((I 134) 0)) dX8_layForm_116 rfl rfl ?_
  refine ev_last (pc' := 118) (j := 0) (L' := (ma_up (ma_up L 132 (ma_up (ma_up (ma_up (ma_up (ma_up (L 132) 0 0) 1 0) 2 0) 3 (0 + (mW (mSel 1 (I 133) (I 134))))) 4 (0 + (mW (mSel 0 (I 133) (I 134)))))) 120 (ma_up r2 0 (Int32.toInt64 ((I 134) 0))))) dX8_layForm_117 rfl hs_120 rfl (Nat.le_of_ble_eq_true rfl) (Nat.le_of_ble_eq_true rfl) (ma_up_up _ _ _ _) ?_
  refine ev_iinc (pc' := 121) (v := 1) (lv' := [some (.ref 115), some (.int 2), some (.int 0), some (.int 0), some (.int 0), some (.int 1)]) dX8_layForm_118 rfl rfl (by decide) (Nat.le_of_ble_eq_true rfl) rfl rfl ?_
  refine ev_goto (tgt := 69) dX8_layForm_121 rfl ?_
  refine ev_iload (pc' := 71) dX8_layForm_69 rfl rfl ?_
  refine ev_iconst (pc' := 72) (v := 4) dX8_layForm_71 rfl ki_4 ?_
  refine ev_icmp_ge (tgt := 124) (pc' := 75) dX8_layForm_72 rfl rfl (fun h => absurd h (by decide)) (fun _ => ?_)
  refine ev_aload_n (pc' := 76) (i := 0) dX8_layForm_75 rfl rfl rfl ?_
  refine ev_getR (pc' := 79) fo_X8_26 dX8_layForm_76 rfl hs_115 rfl rf_115_8 ?_
  refine ev_iconst (pc' := 80) (v := 4) dX8_layForm_79 rfl ki_4 ?_
  refine ev_iload_n (pc' := 81) (i := 3) dX8_layForm_80 rfl rfl rfl ?_
  refine ev_imul (pc' := 82) (v := 0) dX8_layForm_81 rfl (by decide) ?_
  refine ev_iload (pc' := 84) dX8_layForm_82 rfl rfl ?_
  refine ev_iadd (pc' := 85) (v := 1) dX8_layForm_84 rfl (by decide) ?_
  refine ev_iload (pc' := 87) dX8_layForm_85 rfl rfl ?_
  refine ev_if_eq (tgt := 105) (pc' := 90) dX8_layForm_87 rfl rfl (fun _ => ?_) (fun h => absurd (by decide) h)
  refine ev_aload_n (pc' := 106) (i := 0) dX8_layForm_105 rfl rfl rfl ?_
  refine ev_getR (pc' := 109) fo_X8_70 dX8_layForm_106 rfl hs_115 rfl rf_115_25 ?_
  refine ev_iconst (pc' := 110) (v := 4) dX8_layForm_109 rfl ki_4 ?_
  refine ev_iload_n (pc' := 111) (i := 3) dX8_layForm_110 rfl rfl rfl ?_
  refine ev_imul (pc' := 112) (v := 0) dX8_layForm_111 rfl (by decide) ?_
  refine ev_iload (pc' := 114) dX8_layForm_112 rfl rfl ?_
  refine ev_iadd (pc' := 115) (v := 1) dX8_layForm_114 rfl (by decide) ?_
  refine ev_iald (pc' := 116) (j := 1) (v := (I 134) 1) dX8_layForm_115 rfl hs_134 rfl (Nat.le_of_ble_eq_true rfl) (Nat.le_of_ble_eq_true rfl) rfl ?_
  refine ev_i2l (pc' := 117) (v := Int32.toInt64 ((I 134) 1)) dX8_layForm_116 rfl rfl ?_
  refine ev_last (pc' := 118) (j := 1) (L' := (ma_up (ma_up L 132 (ma_up (ma_up (ma_up (ma_up (ma_up (L 132) 0 0) 1 0) 2 0) 3 (0 + (mW (mSel 1 (I 133) (I 134))))) 4 (0 + (mW (mSel 0 (I 133) (I 134)))))) 120 (ma_up (ma_up r2 0 (Int32.toInt64 ((I 134) 0))) 1 (Int32.toInt64 ((I 134) 1))))) dX8_layForm_117 rfl hs_120 rfl (Nat.le_of_ble_eq_true rfl) (Nat.le_of_ble_eq_true rfl) (ma_up_up _ _ _ _) ?_
  refine ev_iinc (pc' := 121) (v := 2) (lv' := [some (.ref 115), some (.int 2), some (.int 0), some (.int 0), some (.int 0), some (.int 2)]) dX8_layForm_118 rfl rfl (by decide) (Nat.le_of_ble_eq_true rfl) rfl rfl ?_
  refine ev_goto (tgt := 69) dX8_layForm_121 rfl ?_
  refine ev_iload (pc' := 71) dX8_layForm_69 rfl rfl ?_
  refine ev_iconst (pc' := 72) (v := 4) dX8_layForm_71 rfl ki_4 ?_
  refine ev_icmp_ge (tgt := 124) (pc' := 75) dX8_layForm_72 rfl rfl (fun h => absurd h (by decide)) (fun _ => ?_)
  refine ev_aload_n (pc' := 76) (i := 0) dX8_layForm_75 rfl rfl rfl ?_
  refine ev_getR (pc' := 79) fo_X8_26 dX8_layForm_76 rfl hs_115 rfl rf_115_8 ?_
  refine ev_iconst (pc' := 80) (v := 4) dX8_layForm_79 rfl ki_4 ?_
  refine ev_iload_n (pc' := 81) (i := 3) dX8_layForm_80 rfl rfl rfl ?_
  refine ev_imul (pc' := 82) (v := 0) dX8_layForm_81 rfl (by decide) ?_
  refine ev_iload (pc' := 84) dX8_layForm_82 rfl rfl ?_
  refine ev_iadd (pc' := 85) (v := 2) dX8_layForm_84 rfl (by decide) ?_
  refine ev_iload (pc' := 87) dX8_layForm_85 rfl rfl ?_
  refine ev_if_eq (tgt := 105) (pc' := 90) dX8_layForm_87 rfl rfl (fun _ => ?_) (fun h => absurd (by decide) h)
  refine ev_aload_n (pc' := 106) (i := 0) dX8_layForm_105 rfl rfl rfl ?_
  refine ev_getR (pc' := 109) fo_X8_70 dX8_layForm_106 rfl hs_115 rfl rf_115_25 ?_
  refine ev_iconst (pc' := 110) (v := 4) dX8_layForm_109 rfl ki_4 ?_
  refine ev_iload_n (pc' := 111) (i := 3) dX8_layForm_110 rfl rfl rfl ?_
  refine ev_imul (pc' := 112) (v := 0) dX8_layForm_111 rfl (by decide) ?_
  refine ev_iload (pc' := 114) dX8_layForm_112 rfl rfl ?_
  refine ev_iadd (pc' := 115) (v := 2) dX8_layForm_114 rfl (by decide) ?_
  refine ev_iald (pc' := 116) (j := 2) (v := (I 134) 2) dX8_layForm_115 rfl hs_134 rfl (Nat.le_of_ble_eq_true rfl) (Nat.le_of_ble_eq_true rfl) rfl ?_
  refine ev_i2l (pc' := 117) (v := Int32.toInt64 ((I 134) 2)) dX8_layForm_116 rfl rfl ?_
  refine ev_last (pc' := 118) (j := 2) (L' := (ma_up (ma_up L 132 (ma_up (ma_up (ma_up (ma_up (ma_up (L 132) 0 0) 1 0) 2 0) 3 (0 + (mW (mSel 1 (I 133) (I 134))))) 4 (0 + (mW (mSel 0 (I 133) (I 134)))))) 120 (ma_up (ma_up (ma_up r2 0 (Int32.toInt64 ((I 134) 0))) 1 (Int32.toInt64 ((I 134) 1))) 2 (Int32.toInt64 ((I 134) 2))))) dX8_layForm_117 rfl hs_120 rfl (Nat.le_of_ble_eq_true rfl) (Nat.le_of_ble_eq_true rfl) (ma_up_up _ _ _ _) ?_
  refine ev_iinc (pc' := 121) (v := 3) (lv' := [some (.ref 115), some (.int 2), some (.int 0), some (.int 0), some (.int 0), some (.int 3)]) dX8_layForm_118 rfl rfl (by decide) (Nat.le_of_ble_eq_true rfl) rfl rfl ?_
  refine ev_goto (tgt := 69) dX8_layForm_121 rfl ?_
  refine ev_iload (pc' := 71) dX8_layForm_69 rfl rfl ?_
  refine ev_iconst (pc' := 72) (v := 4) dX8_layForm_71 rfl ki_4 ?_
  refine ev_icmp_ge (tgt := 124) (pc' := 75) dX8_layForm_72 rfl rfl (fun h => absurd h (by decide)) (fun _ => ?_)
  refine ev_aload_n (pc' := 76) (i := 0) dX8_layForm_75 rfl rfl rfl ?_
  refine ev_getR (pc' := 79) fo_X8_26 dX8_layForm_76 rfl hs_115 rfl rf_115_8 ?_
  refine ev_iconst (pc' := 80) (v := 4) dX8_layForm_79 rfl ki_4 ?_
  refine ev_iload_n (pc' := 81) (i := 3) dX8_layForm_80 rfl rfl rfl ?_
  refine ev_imul (pc' := 82) (v := 0) dX8_layForm_81 rfl (by decide) ?_
  refine ev_iload (pc' := 84) dX8_layForm_82 rfl rfl ?_
  refine ev_iadd (pc' := 85) (v := 3) dX8_layForm_84 rfl (by decide) ?_
  refine ev_iload (pc' := 87) dX8_layForm_85 rfl rfl ?_
  refine ev_if_eq (tgt := 105) (pc' := 90) dX8_layForm_87 rfl rfl (fun _ => ?_) (fun h => absurd (by decide) h)
  refine ev_aload_n (pc' := 106) (i := 0) dX8_layForm_105 rfl rfl rfl ?_
  refine ev_getR (pc' := 109) fo_X8_70 dX8_layForm_106 rfl hs_115 rfl rf_115_25 ?_
  refine ev_iconst (pc' := 110) (v := 4) dX8_layForm_109 rfl ki_4 ?_
  refine ev_iload_n (pc' := 111) (i := 3) dX8_layForm_110 rfl rfl rfl ?_
  refine ev_imul (pc' := 112) (v := 0) dX8_layForm_111 rfl (by decide) ?_
  refine ev_iload (pc' := 114) dX8_layForm_112 rfl rfl ?_
  refine ev_iadd (pc' := 115) (v := 3) dX8_layForm_114 rfl (by decide) ?_
  refine ev_iald (pc' := 116) (j := 3) (v := (I 134) 3) dX8_layForm_115 rfl hs_134 rfl (Nat.le_of_ble_eq_true rfl) (Nat.le_of_ble_eq_true rfl) rfl ?_
  refine ev_i2l (pc' := 117) (v := Int32.toInt64 ((I 134) 3)) dX8_layForm_116 rfl rfl ?_
  refine ev_last (pc' := 118) (j := 3) (L' := (ma_up (ma_up L 132 (ma_up (ma_up (ma_up (ma_up (ma_up (L 132) 0 0) 1 0) 2 0) 3 (0 + (mW (mSel 1 (I 133) (I 134))))) 4 (0 + (mW (mSel 0 (I 133) (I 134)))))) 120 (ma_up (ma_up (ma_up (ma_up r2 0 (Int32.toInt64 ((I 134) 0))) 1 (Int32.toInt64 ((I 134) 1))) 2 (Int32.toInt64 ((I 134) 2))) 3 (Int32.toInt64 ((I 134) 3))))) dX8_layForm_117 rfl hs_120 rfl (Nat.le_of_ble_eq_true rfl) (Nat.le_of_ble_eq_true rfl) (ma_up_up _ _ _ _) ?_
  refine ev_iinc (pc' := 121) (v := 4) (lv' := [some (.ref 115), some (.int 2), some (.int 0), some (.int 0), some (.int 0), some (.int 4)]) dX8_layForm_118 rfl rfl (by decide) (Nat.le_of_ble_eq_true rfl) rfl rfl ?_
  refine ev_goto (tgt := 69) dX8_layForm_121 rfl ?_
  refine ev_iload (pc' := 71) dX8_layForm_69 rfl rfl ?_
  refine ev_iconst (pc' := 72) (v := 4) dX8_layForm_71 rfl ki_4 ?_
  refine ev_icmp_ge (tgt := 124) (pc' := 75) dX8_layForm_72 rfl rfl (fun _ => ?_) (fun h => absurd (by decide) h)
  refine ev_iinc (pc' := 127) (v := 1) (lv' := [some (.ref 115), some (.int 2), some (.int 0), some (.int 1), some (.int 0), some (.int 4)]) dX8_layForm_124 rfl rfl (by decide) (Nat.le_of_ble_eq_true rfl) rfl rfl ?_
  refine ev_goto (tgt := 32) dX8_layForm_127 rfl ?_
  refine ev_iload_n (pc' := 33) (i := 3) dX8_layForm_32 rfl rfl rfl ?_
  refine ev_iconst (pc' := 34) (v := 4) dX8_layForm_33 rfl ki_4 ?_
  refine ev_icmp_ge (tgt := 130) (pc' := 37) dX8_layForm_34 rfl rfl (fun h => absurd h (by decide)) (fun _ => ?_)
  refine ev_iload_n (pc' := 38) (i := 1) dX8_layForm_37 rfl rfl rfl ?_
  refine ev_iload_n (pc' := 39) (i := 3) dX8_layForm_38 rfl rfl rfl ?_
  refine ev_ishr (pc' := 40) (v := 1) dX8_layForm_39 rfl (by decide) ?_
  refine ev_iconst (pc' := 41) (v := 1) dX8_layForm_40 rfl ki_1 ?_
  refine ev_iand (pc' := 42) (v := 1) dX8_layForm_41 rfl (by decide) ?_
  refine ev_iconst (pc' := 43) (v := 1) dX8_layForm_42 rfl ki_1 ?_
  refine ev_icmp_ne (tgt := 50) (pc' := 46) dX8_layForm_43 rfl rfl (fun h => absurd (by decide) h) (fun _ => ?_)
  refine ev_iconst (pc' := 47) (v := 1) dX8_layForm_46 rfl ki_1 ?_
  refine ev_goto (tgt := 51) dX8_layForm_47 rfl ?_
  refine ev_istore (pc' := 53) (lv' := [some (.ref 115), some (.int 2), some (.int 0), some (.int 1), some (.int 1), some (.int 4)]) dX8_layForm_51 rfl (Nat.le_of_ble_eq_true rfl) rfl rfl ?_
  refine ev_iload_n (pc' := 54) (i := 2) dX8_layForm_53 rfl rfl rfl ?_
  refine ev_iload (pc' := 56) dX8_layForm_54 rfl rfl ?_
  refine ev_if_eq (tgt := 63) (pc' := 59) dX8_layForm_56 rfl rfl (fun h => absurd h (by decide)) (fun _ => ?_)
  refine ev_iconst (pc' := 60) (v := 1) dX8_layForm_59 rfl ki_1 ?_
  refine ev_goto (tgt := 64) dX8_layForm_60 rfl ?_
  refine ev_iadd (pc' := 65) (v := 1) dX8_layForm_64 rfl (by decide) ?_
  refine ev_istore_n (pc' := 66) (i := 2) (lv' := [some (.ref 115), some (.int 2), some (.int 1), some (.int 1), some (.int 1), some (.int 4)]) dX8_layForm_65 rfl rfl (Nat.le_of_ble_eq_true rfl) rfl rfl ?_
  refine ev_iconst (pc' := 67) (v := 0) dX8_layForm_66 rfl ki_0 ?_
  refine ev_istore (pc' := 69) (lv' := [some (.ref 115), some (.int 2), some (.int 1), some (.int 1), some (.int 1), some (.int 0)]) dX8_layForm_67 rfl (Nat.le_of_ble_eq_true rfl) rfl rfl ?_
  refine ev_iload (pc' := 71) dX8_layForm_69 rfl rfl ?_
  refine ev_iconst (pc' := 72) (v := 4) dX8_layForm_71 rfl ki_4 ?_
  refine ev_icmp_ge (tgt := 124) (pc' := 75) dX8_layForm_72 rfl rfl (fun h => absurd h (by decide)) (fun _ => ?_)
  refine ev_aload_n (pc' := 76) (i := 0) dX8_layForm_75 rfl rfl rfl ?_
  refine ev_getR (pc' := 79) fo_X8_26 dX8_layForm_76 rfl hs_115 rfl rf_115_8 ?_
  refine ev_iconst (pc' := 80) (v := 4) dX8_layForm_79 rfl ki_4 ?_
  refine ev_iload_n (pc' := 81) (i := 3) dX8_layForm_80 rfl rfl rfl ?_
  refine ev_imul (pc' := 82) (v := 4) dX8_layForm_81 rfl (by decide) ?_
  refine ev_iload (pc' := 84) dX8_layForm_82 rfl rfl ?_
  refine ev_iadd (pc' := 85) (v := 4) dX8_layForm_84 rfl (by decide) ?_
  refine ev_iload (pc' := 87) dX8_layForm_85 rfl rfl ?_
  refine ev_if_eq (tgt := 105) (pc' := 90) dX8_layForm_87 rfl rfl (fun h => absurd h (by decide)) (fun _ => ?_)
  refine ev_aload_n (pc' := 91) (i := 0) dX8_layForm_90 rfl rfl rfl ?_
  refine ev_getR (pc' := 94) fo_X8_67 dX8_layForm_91 rfl hs_115 rfl rf_115_24 ?_
  refine ev_iconst (pc' := 95) (v := 4) dX8_layForm_94 rfl ki_4 ?_
  refine ev_iload_n (pc' := 96) (i := 3) dX8_layForm_95 rfl rfl rfl ?_
  refine ev_imul (pc' := 97) (v := 4) dX8_layForm_96 rfl (by decide) ?_
  refine ev_iload (pc' := 99) dX8_layForm_97 rfl rfl ?_
  refine ev_iadd (pc' := 100) (v := 4) dX8_layForm_99 rfl (by decide) ?_
  refine ev_iald (pc' := 101) (j := 4) (v := (I 133) 4) dX8_layForm_100 rfl hs_133 rfl (Nat.le_of_ble_eq_true rfl) (Nat.le_of_ble_eq_true rfl) rfl ?_
  refine ev_i2l (pc' := 102) (v := Int32.toInt64 ((I 133) 4)) dX8_layForm_101 rfl rfl ?_
  refine ev_goto (tgt := 117) dX8_layForm_102 rfl ?_
  refine ev_last (pc' := 118) (j := 4) (L' := (ma_up (ma_up L 132 (ma_up (ma_up (ma_up (ma_up (ma_up (L 132) 0 0) 1 0) 2 0) 3 (0 + (mW (mSel 1 (I 133) (I 134))))) 4 (0 + (mW (mSel 0 (I 133) (I 134)))))) 120 (ma_up (ma_up (ma_up (ma_up (ma_up r2 0 (Int32.toInt64 ((I 134) 0))) 1 (Int32.toInt64 ((I 134) 1))) 2 (Int32.toInt64 ((I 134) 2))) 3 (Int32.toInt64 ((I 134) 3))) 4 (Int32.toInt64 ((I 133) 4))))) dX8_layForm_117 rfl hs_120 rfl (Nat.le_of_ble_eq_true rfl) (Nat.le_of_ble_eq_true rfl) (ma_up_up _ _ _ _) ?_
  refine ev_iinc (pc' := 121) (v := 1) (lv' := [some (.ref 115), some (.int 2), some (.int 1), some (.int 1), some (.int 1), some (.int 1)]) dX8_layForm_118 rfl rfl (by decide) (Nat.le_of_ble_eq_true rfl) rfl rfl ?_
  refine ev_goto (tgt := 69) dX8_layForm_121 rfl ?_
  refine ev_iload (pc' := 71) dX8_layForm_69 rfl rfl ?_
  refine ev_iconst (pc' := 72) (v := 4) dX8_layForm_71 rfl ki_4 ?_
  refine ev_icmp_ge (tgt := 124) (pc' := 75) dX8_layForm_72 rfl rfl (fun h => absurd h (by decide)) (fun _ => ?_)
  refine ev_aload_n (pc' := 76) (i := 0) dX8_layForm_75 rfl rfl rfl ?_
  refine ev_getR (pc' := 79) fo_X8_26 dX8_layForm_76 rfl hs_115 rfl rf_115_8 ?_
  refine ev_iconst (pc' := 80) (v := 4) dX8_layForm_79 rfl ki_4 ?_
  refine ev_iload_n (pc' := 81) (i := 3) dX8_layForm_80 rfl rfl rfl ?_
  refine ev_imul (pc' := 82) (v := 4) dX8_layForm_81 rfl (by decide) ?_
  refine ev_iload (pc' := 84) dX8_layForm_82 rfl rfl ?_
  refine ev_iadd (pc' := 85) (v := 5) dX8_layForm_84 rfl (by decide) ?_
  refine ev_iload (pc' := 87) dX8_layForm_85 rfl rfl ?_
  refine ev_if_eq (tgt := 105) (pc' := 90) dX8_layForm_87 rfl rfl (fun h => absurd h (by decide)) (fun _ => ?_)
  refine ev_aload_n (pc' := 91) (i := 0) dX8_layForm_90 rfl rfl rfl ?_
  refine ev_getR (pc' := 94) fo_X8_67 dX8_layForm_91 rfl hs_115 rfl rf_115_24 ?_
  refine ev_iconst (pc' := 95) (v := 4) dX8_layForm_94 rfl ki_4 ?_
  refine ev_iload_n (pc' := 96) (i := 3) dX8_layForm_95 rfl rfl rfl ?_
  refine ev_imul (pc' := 97) (v := 4) dX8_layForm_96 rfl (by decide) ?_
  refine ev_iload (pc' := 99) dX8_layForm_97 rfl rfl ?_
  refine ev_iadd (pc' := 100) (v := 5) dX8_layForm_99 rfl (by decide) ?_
  refine ev_iald (pc' := 101) (j := 5) (v := (I 133) 5) dX8_layForm_100 rfl hs_133 rfl (Nat.le_of_ble_eq_true rfl) (Nat.le_of_ble_eq_true rfl) rfl ?_
  refine ev_i2l (pc' := 102) (v := Int32.toInt64 ((I 133) 5)) dX8_layForm_101 rfl rfl ?_
  refine ev_goto (tgt := 117) dX8_layForm_102 rfl ?_
  refine ev_last (pc' := 118) (j := 5) (L' := (ma_up (ma_up L 132 (ma_up (ma_up (ma_up (ma_up (ma_up (L 132) 0 0) 1 0) 2 0) 3 (0 + (mW (mSel 1 (I 133) (I 134))))) 4 (0 + (mW (mSel 0 (I 133) (I 134)))))) 120 (ma_up (ma_up (ma_up (ma_up (ma_up (ma_up r2 0 (Int32.toInt64 ((I 134) 0))) 1 (Int32.toInt64 ((I 134) 1))) 2 (Int32.toInt64 ((I 134) 2))) 3 (Int32.toInt64 ((I 134) 3))) 4 (Int32.toInt64 ((I 133) 4))) 5 (Int32.toInt64 ((I 133) 5))))) dX8_layForm_117 rfl hs_120 rfl (Nat.le_of_ble_eq_true rfl) (Nat.le_of_ble_eq_true rfl) (ma_up_up _ _ _ _) ?_
  refine ev_iinc (pc' := 121) (v := 2) (lv' := [some (.ref 115), some (.int 2), some (.int 1), some (.int 1), some (.int 1), some (.int 2)]) dX8_layForm_118 rfl rfl (by decide) (Nat.le_of_ble_eq_true rfl) rfl rfl ?_
  refine ev_goto (tgt := 69) dX8_layForm_121 rfl ?_
  refine ev_iload (pc' := 71) dX8_layForm_69 rfl rfl ?_
  refine ev_iconst (pc' := 72) (v := 4) dX8_layForm_71 rfl ki_4 ?_
  refine ev_icmp_ge (tgt := 124) (pc' := 75) dX8_layForm_72 rfl rfl (fun h => absurd h (by decide)) (fun _ => ?_)
  refine ev_aload_n (pc' := 76) (i := 0) dX8_layForm_75 rfl rfl rfl ?_
  refine ev_getR (pc' := 79) fo_X8_26 dX8_layForm_76 rfl hs_115 rfl rf_115_8 ?_
  refine ev_iconst (pc' := 80) (v := 4) dX8_layForm_79 rfl ki_4 ?_
  refine ev_iload_n (pc' := 81) (i := 3) dX8_layForm_80 rfl rfl rfl ?_
  refine ev_imul (pc' := 82) (v := 4) dX8_layForm_81 rfl (by decide) ?_
  refine ev_iload (pc' := 84) dX8_layForm_82 rfl rfl ?_
  refine ev_iadd (pc' := 85) (v := 6) dX8_layForm_84 rfl (by decide) ?_
  refine ev_iload (pc' := 87) dX8_layForm_85 rfl rfl ?_
  refine ev_if_eq (tgt := 105) (pc' := 90) dX8_layForm_87 rfl rfl (fun h => absurd h (by decide)) (fun _ => ?_)
  refine ev_aload_n (pc' := 91) (i := 0) dX8_layForm_90 rfl rfl rfl ?_
  refine ev_getR (pc' := 94) fo_X8_67 dX8_layForm_91 rfl hs_115 rfl rf_115_24 ?_
  refine ev_iconst (pc' := 95) (v := 4) dX8_layForm_94 rfl ki_4 ?_
  refine ev_iload_n (pc' := 96) (i := 3) dX8_layForm_95 rfl rfl rfl ?_
  refine ev_imul (pc' := 97) (v := 4) dX8_layForm_96 rfl (by decide) ?_
  refine ev_iload (pc' := 99) dX8_layForm_97 rfl rfl ?_
  refine ev_iadd (pc' := 100) (v := 6) dX8_layForm_99 rfl (by decide) ?_
  refine ev_iald (pc' := 101) (j := 6) (v := (I 133) 6) dX8_layForm_100 rfl hs_133 rfl (Nat.le_of_ble_eq_true rfl) (Nat.le_of_ble_eq_true rfl) rfl ?_
  refine ev_i2l (pc' := 102) (v := Int32.toInt64 ((I 133) 6)) dX8_layForm_101 rfl rfl ?_
  refine ev_goto (tgt := 117) dX8_layForm_102 rfl ?_
  refine ev_last (pc' := 118) (j := 6) (L' := (ma_up (ma_up L 132 (ma_up (ma_up (ma_up (ma_up (ma_up (L 132) 0 0) 1 0) 2 0) 3 (0 + (mW (mSel 1 (I 133) (I 134))))) 4 (0 + (mW (mSel 0 (I 133) (I 134)))))) 120 (ma_up (ma_up (ma_up (ma_up (ma_up (ma_up (ma_up r2 0 (Int32.toInt64 ((I 134) 0))) 1 (Int32.toInt64 ((I 134) 1))) 2 (Int32.toInt64 ((I 134) 2))) 3 (Int32.toInt64 ((I 134) 3))) 4 (Int32.toInt64 ((I 133) 4))) 5 (Int32.toInt64 ((I 133) 5))) 6 (Int32.toInt64 ((I 133) 6))))) dX8_layForm_117 rfl hs_120 rfl (Nat.le_of_ble_eq_true rfl) (Nat.le_of_ble_eq_true rfl) (ma_up_up _ _ _ _) ?_
  refine ev_iinc (pc' := 121) (v := 3) (lv' := [some (.ref 115), some (.int 2), some (.int 1), some (.int 1), some (.int 1), some (.int 3)]) dX8_layForm_118 rfl rfl (by decide) (Nat.le_of_ble_eq_true rfl) rfl rfl ?_
  refine ev_goto (tgt := 69) dX8_layForm_121 rfl ?_
  refine ev_iload (pc' := 71) dX8_layForm_69 rfl rfl ?_
  refine ev_iconst (pc' := 72) (v := 4) dX8_layForm_71 rfl ki_4 ?_
  refine ev_icmp_ge (tgt := 124) (pc' := 75) dX8_layForm_72 rfl rfl (fun h => absurd h (by decide)) (fun _ => ?_)
  refine ev_aload_n (pc' := 76) (i := 0) dX8_layForm_75 rfl rfl rfl ?_
  refine ev_getR (pc' := 79) fo_X8_26 dX8_layForm_76 rfl hs_115 rfl rf_115_8 ?_
  refine ev_iconst (pc' := 80) (v := 4) dX8_layForm_79 rfl ki_4 ?_
  refine ev_iload_n (pc' := 81) (i := 3) dX8_layForm_80 rfl rfl rfl ?_
  refine ev_imul (pc' := 82) (v := 4) dX8_layForm_81 rfl (by decide) ?_
  refine ev_iload (pc' := 84) dX8_layForm_82 rfl rfl ?_
  refine ev_iadd (pc' := 85) (v := 7) dX8_layForm_84 rfl (by decide) ?_
  refine ev_iload (pc' := 87) dX8_layForm_85 rfl rfl ?_
  refine ev_if_eq (tgt := 105) (pc' := 90) dX8_layForm_87 rfl rfl (fun h => absurd h (by decide)) (fun _ => ?_)
  refine ev_aload_n (pc' := 91) (i := 0) dX8_layForm_90 rfl rfl rfl ?_
  refine ev_getR (pc' := 94) fo_X8_67 dX8_layForm_91 rfl hs_115 rfl rf_115_24 ?_
  refine ev_iconst (pc' := 95) (v := 4) dX8_layForm_94 rfl ki_4 ?_
  refine ev_iload_n (pc' := 96) (i := 3) dX8_layForm_95 rfl rfl rfl ?_
  refine ev_imul (pc' := 97) (v := 4) dX8_layForm_96 rfl (by decide) ?_
  refine ev_iload (pc' := 99) dX8_layForm_97 rfl rfl ?_
  refine ev_iadd (pc' := 100) (v := 7) dX8_layForm_99 rfl (by decide) ?_
  refine ev_iald (pc' := 101) (j := 7) (v := (I 133) 7) dX8_layForm_100 rfl hs_133 rfl (Nat.le_of_ble_eq_true rfl) (Nat.le_of_ble_eq_true rfl) rfl ?_
  refine ev_i2l (pc' := 102) (v := Int32.toInt64 ((I 133) 7)) dX8_layForm_101 rfl rfl ?_
  refine ev_goto (tgt := 117) dX8_layForm_102 rfl ?_
  refine ev_last (pc' := 118) (j := 7) (L' := (ma_up (ma_up L 132 (ma_up (ma_up (ma_up (ma_up (ma_up (L 132) 0 0) 1 0) 2 0) 3 (0 + (mW (mSel 1 (I 133) (I 134))))) 4 (0 + (mW (mSel 0 (I 133) (I 134)))))) 120 (ma_up (ma_up (ma_up (ma_up (ma_up (ma_up (ma_up (ma_up r2 0 (Int32.toInt64 ((I 134) 0))) 1 (Int32.toInt64 ((I 134) 1))) 2 (Int32.toInt64 ((I 134) 2))) 3 (Int32.toInt64 ((I 134) 3))) 4 (Int32.toInt64 ((I 133) 4))) 5 (Int32.toInt64 ((I 133) 5))) 6 (Int32.toInt64 ((I 133) 6))) 7 (Int32.toInt64 ((I 133) 7))))) dX8_layForm_117 rfl hs_120 rfl (Nat.le_of_ble_eq_true rfl) (Nat.le_of_ble_eq_true rfl) (ma_up_up _ _ _ _) ?_
  refine ev_iinc (pc' := 121) (v := 4) (lv' := [some (.ref 115), some (.int 2), some (.int 1), some (.int 1), some (.int 1), some (.int 4)]) dX8_layForm_118 rfl rfl (by decide) (Nat.le_of_ble_eq_true rfl) rfl rfl ?_
  refine ev_goto (tgt := 69) dX8_layForm_121 rfl ?_
  refine ev_iload (pc' := 71) dX8_layForm_69 rfl rfl ?_
  refine ev_iconst (pc' := 72) (v := 4) dX8_layForm_71 rfl ki_4 ?_
  refine ev_icmp_ge (tgt := 124) (pc' := 75) dX8_layForm_72 rfl rfl (fun _ => ?_) (fun h => absurd (by decide) h)
  refine ev_iinc (pc' := 127) (v := 2) (lv' := [some (.ref 115), some (.int 2), some (.int 1), some (.int 2), some (.int 1), some (.int 4)]) dX8_layForm_124 rfl rfl (by decide) (Nat.le_of_ble_eq_true rfl) rfl rfl ?_
  refine ev_goto (tgt := 32) dX8_layForm_127 rfl ?_
  refine ev_iload_n (pc' := 33) (i := 3) dX8_layForm_32 rfl rfl rfl ?_
  refine ev_iconst (pc' := 34) (v := 4) dX8_layForm_33 rfl ki_4 ?_
  refine ev_icmp_ge (tgt := 130) (pc' := 37) dX8_layForm_34 rfl rfl (fun h => absurd h (by decide)) (fun _ => ?_)
  refine ev_iload_n (pc' := 38) (i := 1) dX8_layForm_37 rfl rfl rfl ?_
  refine ev_iload_n (pc' := 39) (i := 3) dX8_layForm_38 rfl rfl rfl ?_
  refine ev_ishr (pc' := 40) (v := 0) dX8_layForm_39 rfl (by decide) ?_
  refine ev_iconst (pc' := 41) (v := 1) dX8_layForm_40 rfl ki_1 ?_
  refine ev_iand (pc' := 42) (v := 0) dX8_layForm_41 rfl (by decide) ?_
  refine ev_iconst (pc' := 43) (v := 1) dX8_layForm_42 rfl ki_1 ?_
  refine ev_icmp_ne (tgt := 50) (pc' := 46) dX8_layForm_43 rfl rfl (fun _ => ?_) (fun h => absurd h (by decide))
  refine ev_iconst (pc' := 51) (v := 0) dX8_layForm_50 rfl ki_0 ?_
  refine ev_istore (pc' := 53) (lv' := [some (.ref 115), some (.int 2), some (.int 1), some (.int 2), some (.int 0), some (.int 4)]) dX8_layForm_51 rfl (Nat.le_of_ble_eq_true rfl) rfl rfl ?_
  refine ev_iload_n (pc' := 54) (i := 2) dX8_layForm_53 rfl rfl rfl ?_
  refine ev_iload (pc' := 56) dX8_layForm_54 rfl rfl ?_
  refine ev_if_eq (tgt := 63) (pc' := 59) dX8_layForm_56 rfl rfl (fun _ => ?_) (fun h => absurd (by decide) h)
  refine ev_iconst (pc' := 64) (v := 0) dX8_layForm_63 rfl ki_0 ?_
  refine ev_iadd (pc' := 65) (v := 1) dX8_layForm_64 rfl (by decide) ?_
  refine ev_istore_n (pc' := 66) (i := 2) (lv' := [some (.ref 115), some (.int 2), some (.int 1), some (.int 2), some (.int 0), some (.int 4)]) dX8_layForm_65 rfl rfl (Nat.le_of_ble_eq_true rfl) rfl rfl ?_
  refine ev_iconst (pc' := 67) (v := 0) dX8_layForm_66 rfl ki_0 ?_
  refine ev_istore (pc' := 69) (lv' := [some (.ref 115), some (.int 2), some (.int 1), some (.int 2), some (.int 0), some (.int 0)]) dX8_layForm_67 rfl (Nat.le_of_ble_eq_true rfl) rfl rfl ?_
  refine ev_iload (pc' := 71) dX8_layForm_69 rfl rfl ?_
  refine ev_iconst (pc' := 72) (v := 4) dX8_layForm_71 rfl ki_4 ?_
  refine ev_icmp_ge (tgt := 124) (pc' := 75) dX8_layForm_72 rfl rfl (fun h => absurd h (by decide)) (fun _ => ?_)
  refine ev_aload_n (pc' := 76) (i := 0) dX8_layForm_75 rfl rfl rfl ?_
  refine ev_getR (pc' := 79) fo_X8_26 dX8_layForm_76 rfl hs_115 rfl rf_115_8 ?_
  refine ev_iconst (pc' := 80) (v := 4) dX8_layForm_79 rfl ki_4 ?_
  refine ev_iload_n (pc' := 81) (i := 3) dX8_layForm_80 rfl rfl rfl ?_
  refine ev_imul (pc' := 82) (v := 8) dX8_layForm_81 rfl (by decide) ?_
  refine ev_iload (pc' := 84) dX8_layForm_82 rfl rfl ?_
  refine ev_iadd (pc' := 85) (v := 8) dX8_layForm_84 rfl (by decide) ?_
  refine ev_iload (pc' := 87) dX8_layForm_85 rfl rfl ?_
  refine ev_if_eq (tgt := 105) (pc' := 90) dX8_layForm_87 rfl rfl (fun _ => ?_) (fun h => absurd (by decide) h)
  refine ev_aload_n (pc' := 106) (i := 0) dX8_layForm_105 rfl rfl rfl ?_
  refine ev_getR (pc' := 109) fo_X8_70 dX8_layForm_106 rfl hs_115 rfl rf_115_25 ?_
  refine ev_iconst (pc' := 110) (v := 4) dX8_layForm_109 rfl ki_4 ?_
  refine ev_iload_n (pc' := 111) (i := 3) dX8_layForm_110 rfl rfl rfl ?_
  refine ev_imul (pc' := 112) (v := 8) dX8_layForm_111 rfl (by decide) ?_
  refine ev_iload (pc' := 114) dX8_layForm_112 rfl rfl ?_
  refine ev_iadd (pc' := 115) (v := 8) dX8_layForm_114 rfl (by decide) ?_
  refine ev_iald (pc' := 116) (j := 8) (v := (I 134) 8) dX8_layForm_115 rfl hs_134 rfl (Nat.le_of_ble_eq_true rfl) (Nat.le_of_ble_eq_true rfl) rfl ?_
  refine ev_i2l (pc' := 117) (v := Int32.toInt64 ((I 134) 8)) dX8_layForm_116 rfl rfl ?_
  refine ev_last (pc' := 118) (j := 8) (L' := (ma_up (ma_up L 132 (ma_up (ma_up (ma_up (ma_up (ma_up (L 132) 0 0) 1 0) 2 0) 3 (0 + (mW (mSel 1 (I 133) (I 134))))) 4 (0 + (mW (mSel 0 (I 133) (I 134)))))) 120 (ma_up (ma_up (ma_up (ma_up (ma_up (ma_up (ma_up (ma_up (ma_up r2 0 (Int32.toInt64 ((I 134) 0))) 1 (Int32.toInt64 ((I 134) 1))) 2 (Int32.toInt64 ((I 134) 2))) 3 (Int32.toInt64 ((I 134) 3))) 4 (Int32.toInt64 ((I 133) 4))) 5 (Int32.toInt64 ((I 133) 5))) 6 (Int32.toInt64 ((I 133) 6))) 7 (Int32.toInt64 ((I 133) 7))) 8 (Int32.toInt64 ((I 134) 8))))) dX8_layForm_117 rfl hs_120 rfl (Nat.le_of_ble_eq_true rfl) (Nat.le_of_ble_eq_true rfl) (ma_up_up _ _ _ _) ?_
  refine ev_iinc (pc' := 121) (v := 1) (lv' := [some (.ref 115), some (.int 2), some (.int 1), some (.int 2), some (.int 0), some (.int 1)]) dX8_layForm_118 rfl rfl (by decide) (Nat.le_of_ble_eq_true rfl) rfl rfl ?_
  refine ev_goto (tgt := 69) dX8_layForm_121 rfl ?_
  refine ev_iload (pc' := 71) dX8_layForm_69 rfl rfl ?_
  refine ev_iconst (pc' := 72) (v := 4) dX8_layForm_71 rfl ki_4 ?_
  refine ev_icmp_ge (tgt := 124) (pc' := 75) dX8_layForm_72 rfl rfl (fun h => absurd h (by decide)) (fun _ => ?_)
  refine ev_aload_n (pc' := 76) (i := 0) dX8_layForm_75 rfl rfl rfl ?_
  refine ev_getR (pc' := 79) fo_X8_26 dX8_layForm_76 rfl hs_115 rfl rf_115_8 ?_
  refine ev_iconst (pc' := 80) (v := 4) dX8_layForm_79 rfl ki_4 ?_
  refine ev_iload_n (pc' := 81) (i := 3) dX8_layForm_80 rfl rfl rfl ?_
  refine ev_imul (pc' := 82) (v := 8) dX8_layForm_81 rfl (by decide) ?_
  refine ev_iload (pc' := 84) dX8_layForm_82 rfl rfl ?_
  refine ev_iadd (pc' := 85) (v := 9) dX8_layForm_84 rfl (by decide) ?_
  refine ev_iload (pc' := 87) dX8_layForm_85 rfl rfl ?_
  refine ev_if_eq (tgt := 105) (pc' := 90) dX8_layForm_87 rfl rfl (fun _ => ?_) (fun h => absurd (by decide) h)
  refine ev_aload_n (pc' := 106) (i := 0) dX8_layForm_105 rfl rfl rfl ?_
  refine ev_getR (pc' := 109) fo_X8_70 dX8_layForm_106 rfl hs_115 rfl rf_115_25 ?_
  refine ev_iconst (pc' := 110) (v := 4) dX8_layForm_109 rfl ki_4 ?_
  refine ev_iload_n (pc' := 111) (i := 3) dX8_layForm_110 rfl rfl rfl ?_
  refine ev_imul (pc' := 112) (v := 8) dX8_layForm_111 rfl (by decide) ?_
  refine ev_iload (pc' := 114) dX8_layForm_112 rfl rfl ?_
  refine ev_iadd (pc' := 115) (v := 9) dX8_layForm_114 rfl (by decide) ?_
  refine ev_iald (pc' := 116) (j := 9) (v := (I 134) 9) dX8_layForm_115 rfl hs_134 rfl (Nat.le_of_ble_eq_true rfl) (Nat.le_of_ble_eq_true rfl) rfl ?_
  refine ev_i2l (pc' := 117) (v := Int32.toInt64 ((I 134) 9)) dX8_layForm_116 rfl rfl ?_
  refine ev_last (pc' := 118) (j := 9) (L' := (ma_up (ma_up L 132 (ma_up (ma_up (ma_up (ma_up (ma_up (L 132) 0 0) 1 0) 2 0) 3 (0 + (mW (mSel 1 (I 133) (I 134))))) 4 (0 + (mW (mSel 0 (I 133) (I 134)))))) 120 (ma_up (ma_up (ma_up (ma_up (ma_up (ma_up (ma_up (ma_up (ma_up (ma_up r2 0 (Int32.toInt64 ((I 134) 0))) 1 (Int32.toInt64 ((I 134) 1))) 2 (Int32.toInt64 ((I 134) 2))) 3 (Int32.toInt64 ((I 134) 3))) 4 (Int32.toInt64 ((I 133) 4))) 5 (Int32.toInt64 ((I 133) 5))) 6 (Int32.toInt64 ((I 133) 6))) 7 (Int32.toInt64 ((I 133) 7))) 8 (Int32.toInt64 ((I 134) 8))) 9 (Int32.toInt64 ((I 134) 9))))) dX8_layForm_117 rfl hs_120 rfl (Nat.le_of_ble_eq_true rfl) (Nat.le_of_ble_eq_true rfl) (ma_up_up _ _ _ _) ?_
  refine ev_iinc (pc' := 121) (v := 2) (lv' := [some (.ref 115), some (.int 2), some (.int 1), some (.int 2), some (.int 0), some (.int 2)]) dX8_layForm_118 rfl rfl (by decide) (Nat.le_of_ble_eq_true rfl) rfl rfl ?_
  refine ev_goto (tgt := 69) dX8_layForm_121 rfl ?_
  refine ev_iload (pc' := 71) dX8_layForm_69 rfl rfl ?_
  refine ev_iconst (pc' := 72) (v := 4) dX8_layForm_71 rfl ki_4 ?_
  refine ev_icmp_ge (tgt := 124) (pc' := 75) dX8_layForm_72 rfl rfl (fun h => absurd h (by decide)) (fun _ => ?_)
  refine ev_aload_n (pc' := 76) (i := 0) dX8_layForm_75 rfl rfl rfl ?_
  refine ev_getR (pc' := 79) fo_X8_26 dX8_layForm_76 rfl hs_115 rfl rf_115_8 ?_
  refine ev_iconst (pc' := 80) (v := 4) dX8_layForm_79 rfl ki_4 ?_
  refine ev_iload_n (pc' := 81) (i := 3) dX8_layForm_80 rfl rfl rfl ?_
  refine ev_imul (pc' := 82) (v := 8) dX8_layForm_81 rfl (by decide) ?_
  refine ev_iload (pc' := 84) dX8_layForm_82 rfl rfl ?_
  refine ev_iadd (pc' := 85) (v := 10) dX8_layForm_84 rfl (by decide) ?_
  refine ev_iload (pc' := 87) dX8_layForm_85 rfl rfl ?_
  refine ev_if_eq (tgt := 105) (pc' := 90) dX8_layForm_87 rfl rfl (fun _ => ?_) (fun h => absurd (by decide) h)
  refine ev_aload_n (pc' := 106) (i := 0) dX8_layForm_105 rfl rfl rfl ?_
  refine ev_getR (pc' := 109) fo_X8_70 dX8_layForm_106 rfl hs_115 rfl rf_115_25 ?_
  refine ev_iconst (pc' := 110) (v := 4) dX8_layForm_109 rfl ki_4 ?_
  refine ev_iload_n (pc' := 111) (i := 3) dX8_layForm_110 rfl rfl rfl ?_
  refine ev_imul (pc' := 112) (v := 8) dX8_layForm_111 rfl (by decide) ?_
  refine ev_iload (pc' := 114) dX8_layForm_112 rfl rfl ?_
  refine ev_iadd (pc' := 115) (v := 10) dX8_layForm_114 rfl (by decide) ?_
  refine ev_iald (pc' := 116) (j := 10) (v := (I 134) 10) dX8_layForm_115 rfl hs_134 rfl (Nat.le_of_ble_eq_true rfl) (Nat.le_of_ble_eq_true rfl) rfl ?_
  refine ev_i2l (pc' := 117) (v := Int32.toInt64 ((I 134) 10)) dX8_layForm_116 rfl rfl ?_
  refine ev_last (pc' := 118) (j := 10) (L' := (ma_up (ma_up L 132 (ma_up (ma_up (ma_up (ma_up (ma_up (L 132) 0 0) 1 0) 2 0) 3 (0 + (mW (mSel 1 (I 133) (I 134))))) 4 (0 + (mW (mSel 0 (I 133) (I 134)))))) 120 (ma_up (ma_up (ma_up (ma_up (ma_up (ma_up (ma_up (ma_up (ma_up (ma_up (ma_up r2 0 (Int32.toInt64 ((I 134) 0))) 1 (Int32.toInt64 ((I 134) 1))) 2 (Int32.toInt64 ((I 134) 2))) 3 (Int32.toInt64 ((I 134) 3))) 4 (Int32.toInt64 ((I 133) 4))) 5 (Int32.toInt64 ((I 133) 5))) 6 (Int32.toInt64 ((I 133) 6))) 7 (Int32.toInt64 ((I 133) 7))) 8 (Int32.toInt64 ((I 134) 8))) 9 (Int32.toInt64 ((I 134) 9))) 10 (Int32.toInt64 ((I 134) 10))))) dX8_layForm_117 rfl hs_120 rfl (Nat.le_of_ble_eq_true rfl) (Nat.le_of_ble_eq_true rfl) (ma_up_up _ _ _ _) ?_
  refine ev_iinc (pc' := 121) (v := 3) (lv' := [some (.ref 115), some (.int 2), some (.int 1), some (.int 2), some (.int 0), some (.int 3)]) dX8_layForm_118 rfl rfl (by decide) (Nat.le_of_ble_eq_true rfl) rfl rfl ?_
  refine ev_goto (tgt := 69) dX8_layForm_121 rfl ?_
  refine ev_iload (pc' := 71) dX8_layForm_69 rfl rfl ?_
  refine ev_iconst (pc' := 72) (v := 4) dX8_layForm_71 rfl ki_4 ?_
  refine ev_icmp_ge (tgt := 124) (pc' := 75) dX8_layForm_72 rfl rfl (fun h => absurd h (by decide)) (fun _ => ?_)
  refine ev_aload_n (pc' := 76) (i := 0) dX8_layForm_75 rfl rfl rfl ?_
  refine ev_getR (pc' := 79) fo_X8_26 dX8_layForm_76 rfl hs_115 rfl rf_115_8 ?_
  refine ev_iconst (pc' := 80) (v := 4) dX8_layForm_79 rfl ki_4 ?_
  refine ev_iload_n (pc' := 81) (i := 3) dX8_layForm_80 rfl rfl rfl ?_
  refine ev_imul (pc' := 82) (v := 8) dX8_layForm_81 rfl (by decide) ?_
  refine ev_iload (pc' := 84) dX8_layForm_82 rfl rfl ?_
  refine ev_iadd (pc' := 85) (v := 11) dX8_layForm_84 rfl (by decide) ?_
  refine ev_iload (pc' := 87) dX8_layForm_85 rfl rfl ?_
  refine ev_if_eq (tgt := 105) (pc' := 90) dX8_layForm_87 rfl rfl (fun _ => ?_) (fun h => absurd (by decide) h)
  refine ev_aload_n (pc' := 106) (i := 0) dX8_layForm_105 rfl rfl rfl ?_
  refine ev_getR (pc' := 109) fo_X8_70 dX8_layForm_106 rfl hs_115 rfl rf_115_25 ?_
  refine ev_iconst (pc' := 110) (v := 4) dX8_layForm_109 rfl ki_4 ?_
  refine ev_iload_n (pc' := 111) (i := 3) dX8_layForm_110 rfl rfl rfl ?_
  refine ev_imul (pc' := 112) (v := 8) dX8_layForm_111 rfl (by decide) ?_
  refine ev_iload (pc' := 114) dX8_layForm_112 rfl rfl ?_
  refine ev_iadd (pc' := 115) (v := 11) dX8_layForm_114 rfl (by decide) ?_
  refine ev_iald (pc' := 116) (j := 11) (v := (I 134) 11) dX8_layForm_115 rfl hs_134 rfl (Nat.le_of_ble_eq_true rfl) (Nat.le_of_ble_eq_true rfl) rfl ?_
  refine ev_i2l (pc' := 117) (v := Int32.toInt64 ((I 134) 11)) dX8_layForm_116 rfl rfl ?_
  refine ev_last (pc' := 118) (j := 11) (L' := (ma_up (ma_up L 132 (ma_up (ma_up (ma_up (ma_up (ma_up (L 132) 0 0) 1 0) 2 0) 3 (0 + (mW (mSel 1 (I 133) (I 134))))) 4 (0 + (mW (mSel 0 (I 133) (I 134)))))) 120 (ma_up (ma_up (ma_up (ma_up (ma_up (ma_up (ma_up (ma_up (ma_up (ma_up (ma_up (ma_up r2 0 (Int32.toInt64 ((I 134) 0))) 1 (Int32.toInt64 ((I 134) 1))) 2 (Int32.toInt64 ((I 134) 2))) 3 (Int32.toInt64 ((I 134) 3))) 4 (Int32.toInt64 ((I 133) 4))) 5 (Int32.toInt64 ((I 133) 5))) 6 (Int32.toInt64 ((I 133) 6))) 7 (Int32.toInt64 ((I 133) 7))) 8 (Int32.toInt64 ((I 134) 8))) 9 (Int32.toInt64 ((I 134) 9))) 10 (Int32.toInt64 ((I 134) 10))) 11 (Int32.toInt64 ((I 134) 11))))) dX8_layForm_117 rfl hs_120 rfl (Nat.le_of_ble_eq_true rfl) (Nat.le_of_ble_eq_true rfl) (ma_up_up _ _ _ _) ?_
  refine ev_iinc (pc' := 121) (v := 4) (lv' := [some (.ref 115), some (.int 2), some (.int 1), some (.int 2), some (.int 0), some (.int 4)]) dX8_layForm_118 rfl rfl (by decide) (Nat.le_of_ble_eq_true rfl) rfl rfl ?_
  refine ev_goto (tgt := 69) dX8_layForm_121 rfl ?_
  refine ev_iload (pc' := 71) dX8_layForm_69 rfl rfl ?_
  refine ev_iconst (pc' := 72) (v := 4) dX8_layForm_71 rfl ki_4 ?_
  refine ev_icmp_ge (tgt := 124) (pc' := 75) dX8_layForm_72 rfl rfl (fun _ => ?_) (fun h => absurd (by decide) h)
  refine ev_iinc (pc' := 127) (v := 3) (lv' := [some (.ref 115), some (.int 2), some (.int 1), some (.int 3), some (.int 0), some (.int 4)]) dX8_layForm_124 rfl rfl (by decide) (Nat.le_of_ble_eq_true rfl) rfl rfl ?_
  refine ev_goto (tgt := 32) dX8_layForm_127 rfl ?_
  refine ev_iload_n (pc' := 33) (i := 3) dX8_layForm_32 rfl rfl rfl ?_
  refine ev_iconst (pc' := 34) (v := 4) dX8_layForm_33 rfl ki_4 ?_
  refine ev_icmp_ge (tgt := 130) (pc' := 37) dX8_layForm_34 rfl rfl (fun h => absurd h (by decide)) (fun _ => ?_)
  refine ev_iload_n (pc' := 38) (i := 1) dX8_layForm_37 rfl rfl rfl ?_
  refine ev_iload_n (pc' := 39) (i := 3) dX8_layForm_38 rfl rfl rfl ?_
  refine ev_ishr (pc' := 40) (v := 0) dX8_layForm_39 rfl (by decide) ?_
  refine ev_iconst (pc' := 41) (v := 1) dX8_layForm_40 rfl ki_1 ?_
  refine ev_iand (pc' := 42) (v := 0) dX8_layForm_41 rfl (by decide) ?_
  refine ev_iconst (pc' := 43) (v := 1) dX8_layForm_42 rfl ki_1 ?_
  refine ev_icmp_ne (tgt := 50) (pc' := 46) dX8_layForm_43 rfl rfl (fun _ => ?_) (fun h => absurd h (by decide))
  refine ev_iconst (pc' := 51) (v := 0) dX8_layForm_50 rfl ki_0 ?_
  refine ev_istore (pc' := 53) (lv' := [some (.ref 115), some (.int 2), some (.int 1), some (.int 3), some (.int 0), some (.int 4)]) dX8_layForm_51 rfl (Nat.le_of_ble_eq_true rfl) rfl rfl ?_
  refine ev_iload_n (pc' := 54) (i := 2) dX8_layForm_53 rfl rfl rfl ?_
  refine ev_iload (pc' := 56) dX8_layForm_54 rfl rfl ?_
  refine ev_if_eq (tgt := 63) (pc' := 59) dX8_layForm_56 rfl rfl (fun _ => ?_) (fun h => absurd (by decide) h)
  refine ev_iconst (pc' := 64) (v := 0) dX8_layForm_63 rfl ki_0 ?_
  refine ev_iadd (pc' := 65) (v := 1) dX8_layForm_64 rfl (by decide) ?_
  refine ev_istore_n (pc' := 66) (i := 2) (lv' := [some (.ref 115), some (.int 2), some (.int 1), some (.int 3), some (.int 0), some (.int 4)]) dX8_layForm_65 rfl rfl (Nat.le_of_ble_eq_true rfl) rfl rfl ?_
  refine ev_iconst (pc' := 67) (v := 0) dX8_layForm_66 rfl ki_0 ?_
  refine ev_istore (pc' := 69) (lv' := [some (.ref 115), some (.int 2), some (.int 1), some (.int 3), some (.int 0), some (.int 0)]) dX8_layForm_67 rfl (Nat.le_of_ble_eq_true rfl) rfl rfl ?_
  refine ev_iload (pc' := 71) dX8_layForm_69 rfl rfl ?_
  refine ev_iconst (pc' := 72) (v := 4) dX8_layForm_71 rfl ki_4 ?_
  refine ev_icmp_ge (tgt := 124) (pc' := 75) dX8_layForm_72 rfl rfl (fun h => absurd h (by decide)) (fun _ => ?_)
  refine ev_aload_n (pc' := 76) (i := 0) dX8_layForm_75 rfl rfl rfl ?_
  refine ev_getR (pc' := 79) fo_X8_26 dX8_layForm_76 rfl hs_115 rfl rf_115_8 ?_
  refine ev_iconst (pc' := 80) (v := 4) dX8_layForm_79 rfl ki_4 ?_
  refine ev_iload_n (pc' := 81) (i := 3) dX8_layForm_80 rfl rfl rfl ?_
  refine ev_imul (pc' := 82) (v := 12) dX8_layForm_81 rfl (by decide) ?_
  refine ev_iload (pc' := 84) dX8_layForm_82 rfl rfl ?_
  refine ev_iadd (pc' := 85) (v := 12) dX8_layForm_84 rfl (by decide) ?_
  refine ev_iload (pc' := 87) dX8_layForm_85 rfl rfl ?_
  refine ev_if_eq (tgt := 105) (pc' := 90) dX8_layForm_87 rfl rfl (fun _ => ?_) (fun h => absurd (by decide) h)
  refine ev_aload_n (pc' := 106) (i := 0) dX8_layForm_105 rfl rfl rfl ?_
  refine ev_getR (pc' := 109) fo_X8_70 dX8_layForm_106 rfl hs_115 rfl rf_115_25 ?_
  refine ev_iconst (pc' := 110) (v := 4) dX8_layForm_109 rfl ki_4 ?_
  refine ev_iload_n (pc' := 111) (i := 3) dX8_layForm_110 rfl rfl rfl ?_
  refine ev_imul (pc' := 112) (v := 12) dX8_layForm_111 rfl (by decide) ?_
  refine ev_iload (pc' := 114) dX8_layForm_112 rfl rfl ?_
  refine ev_iadd (pc' := 115) (v := 12) dX8_layForm_114 rfl (by decide) ?_
  refine ev_iald (pc' := 116) (j := 12) (v := (I 134) 12) dX8_layForm_115 rfl hs_134 rfl (Nat.le_of_ble_eq_true rfl) (Nat.le_of_ble_eq_true rfl) rfl ?_
  refine ev_i2l (pc' := 117) (v := Int32.toInt64 ((I 134) 12)) dX8_layForm_116 rfl rfl ?_
  refine ev_last (pc' := 118) (j := 12) (L' := (ma_up (ma_up L 132 (ma_up (ma_up (ma_up (ma_up (ma_up (L 132) 0 0) 1 0) 2 0) 3 (0 + (mW (mSel 1 (I 133) (I 134))))) 4 (0 + (mW (mSel 0 (I 133) (I 134)))))) 120 (ma_up (ma_up (ma_up (ma_up (ma_up (ma_up (ma_up (ma_up (ma_up (ma_up (ma_up (ma_up (ma_up r2 0 (Int32.toInt64 ((I 134) 0))) 1 (Int32.toInt64 ((I 134) 1))) 2 (Int32.toInt64 ((I 134) 2))) 3 (Int32.toInt64 ((I 134) 3))) 4 (Int32.toInt64 ((I 133) 4))) 5 (Int32.toInt64 ((I 133) 5))) 6 (Int32.toInt64 ((I 133) 6))) 7 (Int32.toInt64 ((I 133) 7))) 8 (Int32.toInt64 ((I 134) 8))) 9 (Int32.toInt64 ((I 134) 9))) 10 (Int32.toInt64 ((I 134) 10))) 11 (Int32.toInt64 ((I 134) 11))) 12 (Int32.toInt64 ((I 134) 12))))) dX8_layForm_117 rfl hs_120 rfl (Nat.le_of_ble_eq_true rfl) (Nat.le_of_ble_eq_true rfl) (ma_up_up _ _ _ _) ?_
  refine ev_iinc (pc' := 121) (v := 1) (lv' := [some (.ref 115), some (.int 2), some (.int 1), some (.int 3), some (.int 0), some (.int 1)]) dX8_layForm_118 rfl rfl (by decide) (Nat.le_of_ble_eq_true rfl) rfl rfl ?_
  refine ev_goto (tgt := 69) dX8_layForm_121 rfl ?_
  refine ev_iload (pc' := 71) dX8_layForm_69 rfl rfl ?_
  refine ev_iconst (pc' := 72) (v := 4) dX8_layForm_71 rfl ki_4 ?_
  refine ev_icmp_ge (tgt := 124) (pc' := 75) dX8_layForm_72 rfl rfl (fun h => absurd h (by decide)) (fun _ => ?_)
  refine ev_aload_n (pc' := 76) (i := 0) dX8_layForm_75 rfl rfl rfl ?_
  refine ev_getR (pc' := 79) fo_X8_26 dX8_layForm_76 rfl hs_115 rfl rf_115_8 ?_
  refine ev_iconst (pc' := 80) (v := 4) dX8_layForm_79 rfl ki_4 ?_
  refine ev_iload_n (pc' := 81) (i := 3) dX8_layForm_80 rfl rfl rfl ?_
  refine ev_imul (pc' := 82) (v := 12) dX8_layForm_81 rfl (by decide) ?_
  refine ev_iload (pc' := 84) dX8_layForm_82 rfl rfl ?_
  refine ev_iadd (pc' := 85) (v := 13) dX8_layForm_84 rfl (by decide) ?_
  refine ev_iload (pc' := 87) dX8_layForm_85 rfl rfl ?_
  refine ev_if_eq (tgt := 105) (pc' := 90) dX8_layForm_87 rfl rfl (fun _ => ?_) (fun h => absurd (by decide) h)
  refine ev_aload_n (pc' := 106) (i := 0) dX8_layForm_105 rfl rfl rfl ?_
  refine ev_getR (pc' := 109) fo_X8_70 dX8_layForm_106 rfl hs_115 rfl rf_115_25 ?_
  refine ev_iconst (pc' := 110) (v := 4) dX8_layForm_109 rfl ki_4 ?_
  refine ev_iload_n (pc' := 111) (i := 3) dX8_layForm_110 rfl rfl rfl ?_
  refine ev_imul (pc' := 112) (v := 12) dX8_layForm_111 rfl (by decide) ?_
  refine ev_iload (pc' := 114) dX8_layForm_112 rfl rfl ?_
  refine ev_iadd (pc' := 115) (v := 13) dX8_layForm_114 rfl (by decide) ?_
  refine ev_iald (pc' := 116) (j := 13) (v := (I 134) 13) dX8_layForm_115 rfl hs_134 rfl (Nat.le_of_ble_eq_true rfl) (Nat.le_of_ble_eq_true rfl) rfl ?_
  refine ev_i2l (pc' := 117) (v := Int32.toInt64 ((I 134) 13)) dX8_layForm_116 rfl rfl ?_
  refine ev_last (pc' := 118) (j := 13) (L' := (ma_up (ma_up L 132 (ma_up (ma_up (ma_up (ma_up (ma_up (L 132) 0 0) 1 0) 2 0) 3 (0 + (mW (mSel 1 (I 133) (I 134))))) 4 (0 + (mW (mSel 0 (I 133) (I 134)))))) 120 (ma_up (ma_up (ma_up (ma_up (ma_up (ma_up (ma_up (ma_up (ma_up (ma_up (ma_up (ma_up (ma_up (ma_up r2 0 (Int32.toInt64 ((I 134) 0))) 1 (Int32.toInt64 ((I 134) 1))) 2 (Int32.toInt64 ((I 134) 2))) 3 (Int32.toInt64 ((I 134) 3))) 4 (Int32.toInt64 ((I 133) 4))) 5 (Int32.toInt64 ((I 133) 5))) 6 (Int32.toInt64 ((I 133) 6))) 7 (Int32.toInt64 ((I 133) 7))) 8 (Int32.toInt64 ((I 134) 8))) 9 (Int32.toInt64 ((I 134) 9))) 10 (Int32.toInt64 ((I 134) 10))) 11 (Int32.toInt64 ((I 134) 11))) 12 (Int32.toInt64 ((I 134) 12))) 13 (Int32.toInt64 ((I 134) 13))))) dX8_layForm_117 rfl hs_120 rfl (Nat.le_of_ble_eq_true rfl) (Nat.le_of_ble_eq_true rfl) (ma_up_up _ _ _ _) ?_
  refine ev_iinc (pc' := 121) (v := 2) (lv' := [some (.ref 115), some (.int 2), some (.int 1), some (.int 3), some (.int 0), some (.int 2)]) dX8_layForm_118 rfl rfl (by decide) (Nat.le_of_ble_eq_true rfl) rfl rfl ?_
  refine ev_goto (tgt := 69) dX8_layForm_121 rfl ?_
  refine ev_iload (pc' := 71) dX8_layForm_69 rfl rfl ?_
  refine ev_iconst (pc' := 72) (v := 4) dX8_layForm_71 rfl ki_4 ?_
  refine ev_icmp_ge (tgt := 124) (pc' := 75) dX8_layForm_72 rfl rfl (fun h => absurd h (by decide)) (fun _ => ?_)
  refine ev_aload_n (pc' := 76) (i := 0) dX8_layForm_75 rfl rfl rfl ?_
  refine ev_getR (pc' := 79) fo_X8_26 dX8_layForm_76 rfl hs_115 rfl rf_115_8 ?_
  refine ev_iconst (pc' := 80) (v := 4) dX8_layForm_79 rfl ki_4 ?_
  refine ev_iload_n (pc' := 81) (i := 3) dX8_layForm_80 rfl rfl rfl ?_
  refine ev_imul (pc' := 82) (v := 12) dX8_layForm_81 rfl (by decide) ?_
  refine ev_iload (pc' := 84) dX8_layForm_82 rfl rfl ?_
  refine ev_iadd (pc' := 85) (v := 14) dX8_layForm_84 rfl (by decide) ?_
  refine ev_iload (pc' := 87) dX8_layForm_85 rfl rfl ?_
  refine ev_if_eq (tgt := 105) (pc' := 90) dX8_layForm_87 rfl rfl (fun _ => ?_) (fun h => absurd (by decide) h)
  refine ev_aload_n (pc' := 106) (i := 0) dX8_layForm_105 rfl rfl rfl ?_
  refine ev_getR (pc' := 109) fo_X8_70 dX8_layForm_106 rfl hs_115 rfl rf_115_25 ?_
  refine ev_iconst (pc' := 110) (v := 4) dX8_layForm_109 rfl ki_4 ?_
  refine ev_iload_n (pc' := 111) (i := 3) dX8_layForm_110 rfl rfl rfl ?_
  refine ev_imul (pc' := 112) (v := 12) dX8_layForm_111 rfl (by decide) ?_
  refine ev_iload (pc' := 114) dX8_layForm_112 rfl rfl ?_
  refine ev_iadd (pc' := 115) (v := 14) dX8_layForm_114 rfl (by decide) ?_
  refine ev_iald (pc' := 116) (j := 14) (v := (I 134) 14) dX8_layForm_115 rfl hs_134 rfl (Nat.le_of_ble_eq_true rfl) (Nat.le_of_ble_eq_true rfl) rfl ?_
  refine ev_i2l (pc' := 117) (v := Int32.toInt64 ((I 134) 14)) dX8_layForm_116 rfl rfl ?_
  refine ev_last (pc' := 118) (j := 14) (L' := (ma_up (ma_up L 132 (ma_up (ma_up (ma_up (ma_up (ma_up (L 132) 0 0) 1 0) 2 0) 3 (0 + (mW (mSel 1 (I 133) (I 134))))) 4 (0 + (mW (mSel 0 (I 133) (I 134)))))) 120 (ma_up (ma_up (ma_up (ma_up (ma_up (ma_up (ma_up (ma_up (ma_up (ma_up (ma_up (ma_up (ma_up (ma_up (ma_up r2 0 (Int32.toInt64 ((I 134) 0))) 1 (Int32.toInt64 ((I 134) 1))) 2 (Int32.toInt64 ((I 134) 2))) 3 (Int32.toInt64 ((I 134) 3))) 4 (Int32.toInt64 ((I 133) 4))) 5 (Int32.toInt64 ((I 133) 5))) 6 (Int32.toInt64 ((I 133) 6))) 7 (Int32.toInt64 ((I 133) 7))) 8 (Int32.toInt64 ((I 134) 8))) 9 (Int32.toInt64 ((I 134) 9))) 10 (Int32.toInt64 ((I 134) 10))) 11 (Int32.toInt64 ((I 134) 11))) 12 (Int32.toInt64 ((I 134) 12))) 13 (Int32.toInt64 ((I 134) 13))) 14 (Int32.toInt64 ((I 134) 14))))) dX8_layForm_117 rfl hs_120 rfl (Nat.le_of_ble_eq_true rfl) (Nat.le_of_ble_eq_true rfl) (ma_up_up _ _ _ _) ?_
  refine ev_iinc (pc' := 121) (v := 3) (lv' := [some (.ref 115), some (.int 2), some (.int 1), some (.int 3), some (.int 0), some (.int 3)]) dX8_layForm_118 rfl rfl (by decide) (Nat.le_of_ble_eq_true rfl) rfl rfl ?_
  refine ev_goto (tgt := 69) dX8_layForm_121 rfl ?_
  refine ev_iload (pc' := 71) dX8_layForm_69 rfl rfl ?_
  refine ev_iconst (pc' := 72) (v := 4) dX8_layForm_71 rfl ki_4 ?_
  refine ev_icmp_ge (tgt := 124) (pc' := 75) dX8_layForm_72 rfl rfl (fun h => absurd h (by decide)) (fun _ => ?_)
  refine ev_aload_n (pc' := 76) (i := 0) dX8_layForm_75 rfl rfl rfl ?_
  refine ev_getR (pc' := 79) fo_X8_26 dX8_layForm_76 rfl hs_115 rfl rf_115_8 ?_
  refine ev_iconst (pc' := 80) (v := 4) dX8_layForm_79 rfl ki_4 ?_
  refine ev_iload_n (pc' := 81) (i := 3) dX8_layForm_80 rfl rfl rfl ?_
  refine ev_imul (pc' := 82) (v := 12) dX8_layForm_81 rfl (by decide) ?_
  refine ev_iload (pc' := 84) dX8_layForm_82 rfl rfl ?_
  refine ev_iadd (pc' := 85) (v := 15) dX8_layForm_84 rfl (by decide) ?_
  refine ev_iload (pc' := 87) dX8_layForm_85 rfl rfl ?_
  refine ev_if_eq (tgt := 105) (pc' := 90) dX8_layForm_87 rfl rfl (fun _ => ?_) (fun h => absurd (by decide) h)
  refine ev_aload_n (pc' := 106) (i := 0) dX8_layForm_105 rfl rfl rfl ?_
  refine ev_getR (pc' := 109) fo_X8_70 dX8_layForm_106 rfl hs_115 rfl rf_115_25 ?_
  refine ev_iconst (pc' := 110) (v := 4) dX8_layForm_109 rfl ki_4 ?_
  refine ev_iload_n (pc' := 111) (i := 3) dX8_layForm_110 rfl rfl rfl ?_
  refine ev_imul (pc' := 112) (v := 12) dX8_layForm_111 rfl (by decide) ?_
  refine ev_iload (pc' := 114) dX8_layForm_112 rfl rfl ?_
  refine ev_iadd (pc' := 115) (v := 15) dX8_layForm_114 rfl (by decide) ?_
  refine ev_iald (pc' := 116) (j := 15) (v := (I 134) 15) dX8_layForm_115 rfl hs_134 rfl (Nat.le_of_ble_eq_true rfl) (Nat.le_of_ble_eq_true rfl) rfl ?_
  refine ev_i2l (pc' := 117) (v := Int32.toInt64 ((I 134) 15)) dX8_layForm_116 rfl rfl ?_
  refine ev_last (pc' := 118) (j := 15) (L' := (ma_up (ma_up L 132 (ma_up (ma_up (ma_up (ma_up (ma_up (L 132) 0 0) 1 0) 2 0) 3 (0 + (mW (mSel 1 (I 133) (I 134))))) 4 (0 + (mW (mSel 0 (I 133) (I 134)))))) 120 (ma_up (ma_up (ma_up (ma_up (ma_up (ma_up (ma_up (ma_up (ma_up (ma_up (ma_up (ma_up (ma_up (ma_up (ma_up (ma_up r2 0 (Int32.toInt64 ((I 134) 0))) 1 (Int32.toInt64 ((I 134) 1))) 2 (Int32.toInt64 ((I 134) 2))) 3 (Int32.toInt64 ((I 134) 3))) 4 (Int32.toInt64 ((I 133) 4))) 5 (Int32.toInt64 ((I 133) 5))) 6 (Int32.toInt64 ((I 133) 6))) 7 (Int32.toInt64 ((I 133) 7))) 8 (Int32.toInt64 ((I 134) 8))) 9 (Int32.toInt64 ((I 134) 9))) 10 (Int32.toInt64 ((I 134) 10))) 11 (Int32.toInt64 ((I 134) 11))) 12 (Int32.toInt64 ((I 134) 12))) 13 (Int32.toInt64 ((I 134) 13))) 14 (Int32.toInt64 ((I 134) 14))) 15 (Int32.toInt64 ((I 134) 15))))) dX8_layForm_117 rfl hs_120 rfl (Nat.le_of_ble_eq_true rfl) (Nat.le_of_ble_eq_true rfl) (ma_up_up _ _ _ _) ?_
  refine ev_iinc (pc' := 121) (v := 4) (lv' := [some (.ref 115), some (.int 2), some (.int 1), some (.int 3), some (.int 0), some (.int 4)]) dX8_layForm_118 rfl rfl (by decide) (Nat.le_of_ble_eq_true rfl) rfl rfl ?_
  refine ev_goto (tgt := 69) dX8_layForm_121 rfl ?_
  refine ev_iload (pc' := 71) dX8_layForm_69 rfl rfl ?_
  refine ev_iconst (pc' := 72) (v := 4) dX8_layForm_71 rfl ki_4 ?_
  refine ev_icmp_ge (tgt := 124) (pc' := 75) dX8_layForm_72 rfl rfl (fun _ => ?_) (fun h => absurd (by decide) h)
  refine ev_iinc (pc' := 127) (v := 4) (lv' := [some (.ref 115), some (.int 2), some (.int 1), some (.int 4), some (.int 0), some (.int 4)]) dX8_layForm_124 rfl rfl (by decide) (Nat.le_of_ble_eq_true rfl) rfl rfl ?_
  refine ev_goto (tgt := 32) dX8_layForm_127 rfl ?_
  refine ev_iload_n (pc' := 33) (i := 3) dX8_layForm_32 rfl rfl rfl ?_
  refine ev_iconst (pc' := 34) (v := 4) dX8_layForm_33 rfl ki_4 ?_
  refine ev_icmp_ge (tgt := 130) (pc' := 37) dX8_layForm_34 rfl rfl (fun _ => ?_) (fun h => absurd (by decide) h)
  refine ev_aload_n (pc' := 131) (i := 0) dX8_layForm_130 rfl rfl rfl ?_
  refine ev_getR (pc' := 134) fo_X8_64 dX8_layForm_131 rfl hs_115 rfl rf_115_23 ?_
  refine ev_iconst (pc' := 135) (v := 4) dX8_layForm_134 rfl ki_4 ?_
  refine ev_iload_n (pc' := 136) (i := 2) dX8_layForm_135 rfl rfl rfl ?_
  refine ev_isub (pc' := 137) (v := 3) dX8_layForm_136 rfl (by decide) ?_
  refine ev_dup2 (pc' := 138) dX8_layForm_137 rfl rfl rfl ?_
  refine ev_lald (pc' := 139) (j := 3) (v := 0 + (mW (mSel 1 (I 133) (I 134)))) dX8_layForm_138 rfl hs_132 rfl (Nat.le_of_ble_eq_true rfl) (Nat.le_of_ble_eq_true rfl) rfl ?_
  refine ev_aload_n (pc' := 140) (i := 0) dX8_layForm_139 rfl rfl rfl ?_
  refine ev_getR (pc' := 143) fo_X8_26 dX8_layForm_140 rfl hs_115 rfl rf_115_8 ?_
  refine ev_callS (pc' := 146) (rm' := rX8_worthOf) (av := [.ref 120]) (rest := [.long (0 + (mW (mSel 1 (I 133) (I 134)))), .int 3, .ref 132]) co_X8_173 cs_X8_worthOf dX8_layForm_143 rfl rfl rfl (Nat.le_of_ble_eq_true rfl) ⟨(Nat.le_of_ble_eq_true rfl), (Nat.le_of_ble_eq_true rfl)⟩ ⟨(Nat.le_of_ble_eq_true rfl), (Nat.le_of_ble_eq_true rfl)⟩ ?_
  refine t_X8_worthOf 120 hs_120 ?_
  refine ev_eql (w := mW (mSel 2 (I 133) (I 134))) rfl ?_
  refine ev_ladd (pc' := 147) (v := (0 + (mW (mSel 1 (I 133) (I 134)))) + (mW (mSel 2 (I 133) (I 134)))) dX8_layForm_146 rfl rfl ?_
  refine ev_last (pc' := 148) (j := 3) (L' := (ma_up (ma_up L 132 (ma_up (ma_up (ma_up (ma_up (ma_up (L 132) 0 0) 1 0) 2 0) 3 ((0 + (mW (mSel 1 (I 133) (I 134)))) + (mW (mSel 2 (I 133) (I 134))))) 4 (0 + (mW (mSel 0 (I 133) (I 134)))))) 120 (ma_up (ma_up (ma_up (ma_up (ma_up (ma_up (ma_up (ma_up (ma_up (ma_up (ma_up (ma_up (ma_up (ma_up (ma_up (ma_up r2 0 (Int32.toInt64 ((I 134) 0))) 1 (Int32.toInt64 ((I 134) 1))) 2 (Int32.toInt64 ((I 134) 2))) 3 (Int32.toInt64 ((I 134) 3))) 4 (Int32.toInt64 ((I 133) 4))) 5 (Int32.toInt64 ((I 133) 5))) 6 (Int32.toInt64 ((I 133) 6))) 7 (Int32.toInt64 ((I 133) 7))) 8 (Int32.toInt64 ((I 134) 8))) 9 (Int32.toInt64 ((I 134) 9))) 10 (Int32.toInt64 ((I 134) 10))) 11 (Int32.toInt64 ((I 134) 11))) 12 (Int32.toInt64 ((I 134) 12))) 13 (Int32.toInt64 ((I 134) 13))) 14 (Int32.toInt64 ((I 134) 14))) 15 (Int32.toInt64 ((I 134) 15))))) dX8_layForm_147 rfl hs_132 rfl (Nat.le_of_ble_eq_true rfl) (Nat.le_of_ble_eq_true rfl) ((congrArg (ma_up _ 132) ((ma_up_comm _ (show 3 ≠ 4 from (by decide)) _ _).trans (congrArg (fun f => ma_up f 4 _) (ma_up_up _ _ _ _)))).trans ((ma_up_comm _ (show 132 ≠ 120 from (by decide)) _ _).trans (congrArg (fun f => ma_up f 120 _) (ma_up_up _ _ _ _)))) ?_
  refine ev_iinc (pc' := 151) (v := 3) (lv' := [some (.ref 115), some (.int 3), some (.int 1), some (.int 4), some (.int 0), some (.int 4)]) dX8_layForm_148 rfl rfl (by decide) (Nat.le_of_ble_eq_true rfl) rfl rfl ?_
  refine ev_goto (tgt := 22) dX8_layForm_151 rfl ?_
  refine ev_rowL (fun r3 => ?_)
  refine ev_iload_n (pc' := 23) (i := 1) dX8_layForm_22 rfl rfl rfl ?_
  refine ev_bipush (pc' := 25) (v := 16) dX8_layForm_23 rfl kb_16 ?_
  refine ev_icmp_ge (tgt := 154) (pc' := 28) dX8_layForm_25 rfl rfl (fun h => absurd h (by decide)) (fun _ => ?_)
  refine ev_iconst (pc' := 29) (v := 0) dX8_layForm_28 rfl ki_0 ?_
  refine ev_istore_n (pc' := 30) (i := 2) (lv' := [some (.ref 115), some (.int 3), some (.int 0), some (.int 4), some (.int 0), some (.int 4)]) dX8_layForm_29 rfl rfl (Nat.le_of_ble_eq_true rfl) rfl rfl ?_
  refine ev_iconst (pc' := 31) (v := 0) dX8_layForm_30 rfl ki_0 ?_
  refine ev_istore_n (pc' := 32) (i := 3) (lv' := [some (.ref 115), some (.int 3), some (.int 0), some (.int 0), some (.int 0), some (.int 4)]) dX8_layForm_31 rfl rfl (Nat.le_of_ble_eq_true rfl) rfl rfl ?_
  refine ev_iload_n (pc' := 33) (i := 3) dX8_layForm_32 rfl rfl rfl ?_
  refine ev_iconst (pc' := 34) (v := 4) dX8_layForm_33 rfl ki_4 ?_
  refine ev_icmp_ge (tgt := 130) (pc' := 37) dX8_layForm_34 rfl rfl (fun h => absurd h (by decide)) (fun _ => ?_)
  refine ev_iload_n (pc' := 38) (i := 1) dX8_layForm_37 rfl rfl rfl ?_
  refine ev_iload_n (pc' := 39) (i := 3) dX8_layForm_38 rfl rfl rfl ?_
  refine ev_ishr (pc' := 40) (v := 3) dX8_layForm_39 rfl (by decide) ?_
  refine ev_iconst (pc' := 41) (v := 1) dX8_layForm_40 rfl ki_1 ?_
  refine ev_iand (pc' := 42) (v := 1) dX8_layForm_41 rfl (by decide) ?_
  refine ev_iconst (pc' := 43) (v := 1) dX8_layForm_42 rfl ki_1 ?_
  refine ev_icmp_ne (tgt := 50) (pc' := 46) dX8_layForm_43 rfl rfl (fun h => absurd (by decide) h) (fun _ => ?_)
  refine ev_iconst (pc' := 47) (v := 1) dX8_layForm_46 rfl ki_1 ?_
  refine ev_goto (tgt := 51) dX8_layForm_47 rfl ?_
  refine ev_istore (pc' := 53) (lv' := [some (.ref 115), some (.int 3), some (.int 0), some (.int 0), some (.int 1), some (.int 4)]) dX8_layForm_51 rfl (Nat.le_of_ble_eq_true rfl) rfl rfl ?_
  refine ev_iload_n (pc' := 54) (i := 2) dX8_layForm_53 rfl rfl rfl ?_
  refine ev_iload (pc' := 56) dX8_layForm_54 rfl rfl ?_
  refine ev_if_eq (tgt := 63) (pc' := 59) dX8_layForm_56 rfl rfl (fun h => absurd h (by decide)) (fun _ => ?_)
  refine ev_iconst (pc' := 60) (v := 1) dX8_layForm_59 rfl ki_1 ?_
  refine ev_goto (tgt := 64) dX8_layForm_60 rfl ?_
  refine ev_iadd (pc' := 65) (v := 1) dX8_layForm_64 rfl (by decide) ?_
  refine ev_istore_n (pc' := 66) (i := 2) (lv' := [some (.ref 115), some (.int 3), some (.int 1), some (.int 0), some (.int 1), some (.int 4)]) dX8_layForm_65 rfl rfl (Nat.le_of_ble_eq_true rfl) rfl rfl ?_
  refine ev_iconst (pc' := 67) (v := 0) dX8_layForm_66 rfl ki_0 ?_
  refine ev_istore (pc' := 69) (lv' := [some (.ref 115), some (.int 3), some (.int 1), some (.int 0), some (.int 1), some (.int 0)]) dX8_layForm_67 rfl (Nat.le_of_ble_eq_true rfl) rfl rfl ?_
  refine ev_iload (pc' := 71) dX8_layForm_69 rfl rfl ?_
  refine ev_iconst (pc' := 72) (v := 4) dX8_layForm_71 rfl ki_4 ?_
  refine ev_icmp_ge (tgt := 124) (pc' := 75) dX8_layForm_72 rfl rfl (fun h => absurd h (by decide)) (fun _ => ?_)
  refine ev_aload_n (pc' := 76) (i := 0) dX8_layForm_75 rfl rfl rfl ?_
  refine ev_getR (pc' := 79) fo_X8_26 dX8_layForm_76 rfl hs_115 rfl rf_115_8 ?_
  refine ev_iconst (pc' := 80) (v := 4) dX8_layForm_79 rfl ki_4 ?_
  refine ev_iload_n (pc' := 81) (i := 3) dX8_layForm_80 rfl rfl rfl ?_
  refine ev_imul (pc' := 82) (v := 0) dX8_layForm_81 rfl (by decide) ?_
  refine ev_iload (pc' := 84) dX8_layForm_82 rfl rfl ?_
  refine ev_iadd (pc' := 85) (v := 0) dX8_layForm_84 rfl (by decide) ?_
  refine ev_iload (pc' := 87) dX8_layForm_85 rfl rfl ?_
  refine ev_if_eq (tgt := 105) (pc' := 90) dX8_layForm_87 rfl rfl (fun h => absurd h (by decide)) (fun _ => ?_)
  refine ev_aload_n (pc' := 91) (i := 0) dX8_layForm_90 rfl rfl rfl ?_
  refine ev_getR (pc' := 94) fo_X8_67 dX8_layForm_91 rfl hs_115 rfl rf_115_24 ?_
  refine ev_iconst (pc' := 95) (v := 4) dX8_layForm_94 rfl ki_4 ?_
  refine ev_iload_n (pc' := 96) (i := 3) dX8_layForm_95 rfl rfl rfl ?_
  refine ev_imul (pc' := 97) (v := 0) dX8_layForm_96 rfl (by decide) ?_
  refine ev_iload (pc' := 99) dX8_layForm_97 rfl rfl ?_
  refine ev_iadd (pc' := 100) (v := 0) dX8_layForm_99 rfl (by decide) ?_
  refine ev_iald (pc' := 101) (j := 0) (v := (I 133) 0) dX8_layForm_100 rfl hs_133 rfl (Nat.le_of_ble_eq_true rfl) (Nat.le_of_ble_eq_true rfl) rfl ?_
  refine ev_i2l (pc' := 102) (v := Int32.toInt64 ((I 133) 0)) dX8_layForm_101 rfl rfl ?_
  refine ev_goto (tgt := 117) dX8_layForm_102 rfl ?_
  refine ev_last (pc' := 118) (j := 0) (L' := (ma_up (ma_up L 132 (ma_up (ma_up (ma_up (ma_up (ma_up (L 132) 0 0) 1 0) 2 0) 3 ((0 + (mW (mSel 1 (I 133) (I 134)))) + (mW (mSel 2 (I 133) (I 134))))) 4 (0 + (mW (mSel 0 (I 133) (I 134)))))) 120 (ma_up r3 0 (Int32.toInt64 ((I 133) 0))))) dX8_layForm_117 rfl hs_120 rfl (Nat.le_of_ble_eq_true rfl) (Nat.le_of_ble_eq_true rfl) (ma_up_up _ _ _ _) ?_
  refine ev_iinc (pc' := 121) (v := 1) (lv' := [some (.ref 115), some (.int 3), some (.int 1), some (.int 0), some (.int 1), some (.int 1)]) dX8_layForm_118 rfl rfl (by decide) (Nat.le_of_ble_eq_true rfl) rfl rfl ?_
  refine ev_goto (tgt := 69) dX8_layForm_121 rfl ?_
  refine ev_iload (pc' := 71) dX8_layForm_69 rfl rfl ?_
  refine ev_iconst (pc' := 72) (v := 4) dX8_layForm_71 rfl ki_4 ?_
  refine ev_icmp_ge (tgt := 124) (pc' := 75) dX8_layForm_72 rfl rfl (fun h => absurd h (by decide)) (fun _ => ?_)
  refine ev_aload_n (pc' := 76) (i := 0) dX8_layForm_75 rfl rfl rfl ?_
  refine ev_getR (pc' := 79) fo_X8_26 dX8_layForm_76 rfl hs_115 rfl rf_115_8 ?_
  refine ev_iconst (pc' := 80) (v := 4) dX8_layForm_79 rfl ki_4 ?_
  refine ev_iload_n (pc' := 81) (i := 3) dX8_layForm_80 rfl rfl rfl ?_
  refine ev_imul (pc' := 82) (v := 0) dX8_layForm_81 rfl (by decide) ?_
  refine ev_iload (pc' := 84) dX8_layForm_82 rfl rfl ?_
  refine ev_iadd (pc' := 85) (v := 1) dX8_layForm_84 rfl (by decide) ?_
  refine ev_iload (pc' := 87) dX8_layForm_85 rfl rfl ?_
  refine ev_if_eq (tgt := 105) (pc' := 90) dX8_layForm_87 rfl rfl (fun h => absurd h (by decide)) (fun _ => ?_)
  refine ev_aload_n (pc' := 91) (i := 0) dX8_layForm_90 rfl rfl rfl ?_
  refine ev_getR (pc' := 94) fo_X8_67 dX8_layForm_91 rfl hs_115 rfl rf_115_24 ?_
  refine ev_iconst (pc' := 95) (v := 4) dX8_layForm_94 rfl ki_4 ?_
  refine ev_iload_n (pc' := 96) (i := 3) dX8_layForm_95 rfl rfl rfl ?_
  refine ev_imul (pc' := 97) (v := 0) dX8_layForm_96 rfl (by decide) ?_
  refine ev_iload (pc' := 99) dX8_layForm_97 rfl rfl ?_
  refine ev_iadd (pc' := 100) (v := 1) dX8_layForm_99 rfl (by decide) ?_
  refine ev_iald (pc' := 101) (j := 1) (v := (I 133) 1) dX8_layForm_100 rfl hs_133 rfl (Nat.le_of_ble_eq_true rfl) (Nat.le_of_ble_eq_true rfl) rfl ?_
  refine ev_i2l (pc' := 102) (v := Int32.toInt64 ((I 133) 1)) dX8_layForm_101 rfl rfl ?_
  refine ev_goto (tgt := 117) dX8_layForm_102 rfl ?_
  refine ev_last (pc' := 118) (j := 1) (L' := (ma_up (ma_up L 132 (ma_up (ma_up (ma_up (ma_up (ma_up (L 132) 0 0) 1 0) 2 0) 3 ((0 + (mW (mSel 1 (I 133) (I 134)))) + (mW (mSel 2 (I 133) (I 134))))) 4 (0 + (mW (mSel 0 (I 133) (I 134)))))) 120 (ma_up (ma_up r3 0 (Int32.toInt64 ((I 133) 0))) 1 (Int32.toInt64 ((I 133) 1))))) dX8_layForm_117 rfl hs_120 rfl (Nat.le_of_ble_eq_true rfl) (Nat.le_of_ble_eq_true rfl) (ma_up_up _ _ _ _) ?_
  refine ev_iinc (pc' := 121) (v := 2) (lv' := [some (.ref 115), some (.int 3), some (.int 1), some (.int 0), some (.int 1), some (.int 2)]) dX8_layForm_118 rfl rfl (by decide) (Nat.le_of_ble_eq_true rfl) rfl rfl ?_
  refine ev_goto (tgt := 69) dX8_layForm_121 rfl ?_
  refine ev_iload (pc' := 71) dX8_layForm_69 rfl rfl ?_
  refine ev_iconst (pc' := 72) (v := 4) dX8_layForm_71 rfl ki_4 ?_
  refine ev_icmp_ge (tgt := 124) (pc' := 75) dX8_layForm_72 rfl rfl (fun h => absurd h (by decide)) (fun _ => ?_)
  refine ev_aload_n (pc' := 76) (i := 0) dX8_layForm_75 rfl rfl rfl ?_
  refine ev_getR (pc' := 79) fo_X8_26 dX8_layForm_76 rfl hs_115 rfl rf_115_8 ?_
  refine ev_iconst (pc' := 80) (v := 4) dX8_layForm_79 rfl ki_4 ?_
  refine ev_iload_n (pc' := 81) (i := 3) dX8_layForm_80 rfl rfl rfl ?_
  refine ev_imul (pc' := 82) (v := 0) dX8_layForm_81 rfl (by decide) ?_
  refine ev_iload (pc' := 84) dX8_layForm_82 rfl rfl ?_
  refine ev_iadd (pc' := 85) (v := 2) dX8_layForm_84 rfl (by decide) ?_
  refine ev_iload (pc' := 87) dX8_layForm_85 rfl rfl ?_
  refine ev_if_eq (tgt := 105) (pc' := 90) dX8_layForm_87 rfl rfl (fun h => absurd h (by decide)) (fun _ => ?_)
  refine ev_aload_n (pc' := 91) (i := 0) dX8_layForm_90 rfl rfl rfl ?_
  refine ev_getR (pc' := 94) fo_X8_67 dX8_layForm_91 rfl hs_115 rfl rf_115_24 ?_
  refine ev_iconst (pc' := 95) (v := 4) dX8_layForm_94 rfl ki_4 ?_
  refine ev_iload_n (pc' := 96) (i := 3) dX8_layForm_95 rfl rfl rfl ?_
  refine ev_imul (pc' := 97) (v := 0) dX8_layForm_96 rfl (by decide) ?_
  refine ev_iload (pc' := 99) dX8_layForm_97 rfl rfl ?_
  refine ev_iadd (pc' := 100) (v := 2) dX8_layForm_99 rfl (by decide) ?_
  refine ev_iald (pc' := 101) (j := 2) (v := (I 133) 2) dX8_layForm_100 rfl hs_133 rfl (Nat.le_of_ble_eq_true rfl) (Nat.le_of_ble_eq_true rfl) rfl ?_
  refine ev_i2l (pc' := 102) (v := Int32.toInt64 ((I 133) 2)) dX8_layForm_101 rfl rfl ?_
  refine ev_goto (tgt := 117) dX8_layForm_102 rfl ?_
  refine ev_last (pc' := 118) (j := 2) (L' := (ma_up (ma_up L 132 (ma_up (ma_up (ma_up (ma_up (ma_up (L 132) 0 0) 1 0) 2 0) 3 ((0 + (mW (mSel 1 (I 133) (I 134)))) + (mW (mSel 2 (I 133) (I 134))))) 4 (0 + (mW (mSel 0 (I 133) (I 134)))))) 120 (ma_up (ma_up (ma_up r3 0 (Int32.toInt64 ((I 133) 0))) 1 (Int32.toInt64 ((I 133) 1))) 2 (Int32.toInt64 ((I 133) 2))))) dX8_layForm_117 rfl hs_120 rfl (Nat.le_of_ble_eq_true rfl) (Nat.le_of_ble_eq_true rfl) (ma_up_up _ _ _ _) ?_
  refine ev_iinc (pc' := 121) (v := 3) (lv' := [some (.ref 115), some (.int 3), some (.int 1), some (.int 0), some (.int 1), some (.int 3)]) dX8_layForm_118 rfl rfl (by decide) (Nat.le_of_ble_eq_true rfl) rfl rfl ?_
  refine ev_goto (tgt := 69) dX8_layForm_121 rfl ?_
  refine ev_iload (pc' := 71) dX8_layForm_69 rfl rfl ?_
  refine ev_iconst (pc' := 72) (v := 4) dX8_layForm_71 rfl ki_4 ?_
  refine ev_icmp_ge (tgt := 124) (pc' := 75) dX8_layForm_72 rfl rfl (fun h => absurd h (by decide)) (fun _ => ?_)
  refine ev_aload_n (pc' := 76) (i := 0) dX8_layForm_75 rfl rfl rfl ?_
  refine ev_getR (pc' := 79) fo_X8_26 dX8_layForm_76 rfl hs_115 rfl rf_115_8 ?_
  refine ev_iconst (pc' := 80) (v := 4) dX8_layForm_79 rfl ki_4 ?_
  refine ev_iload_n (pc' := 81) (i := 3) dX8_layForm_80 rfl rfl rfl ?_
  refine ev_imul (pc' := 82) (v := 0) dX8_layForm_81 rfl (by decide) ?_
  refine ev_iload (pc' := 84) dX8_layForm_82 rfl rfl ?_
  refine ev_iadd (pc' := 85) (v := 3) dX8_layForm_84 rfl (by decide) ?_
  refine ev_iload (pc' := 87) dX8_layForm_85 rfl rfl ?_
  refine ev_if_eq (tgt := 105) (pc' := 90) dX8_layForm_87 rfl rfl (fun h => absurd h (by decide)) (fun _ => ?_)
  refine ev_aload_n (pc' := 91) (i := 0) dX8_layForm_90 rfl rfl rfl ?_
  refine ev_getR (pc' := 94) fo_X8_67 dX8_layForm_91 rfl hs_115 rfl rf_115_24 ?_
  refine ev_iconst (pc' := 95) (v := 4) dX8_layForm_94 rfl ki_4 ?_
  refine ev_iload_n (pc' := 96) (i := 3) dX8_layForm_95 rfl rfl rfl ?_
  refine ev_imul (pc' := 97) (v := 0) dX8_layForm_96 rfl (by decide) ?_
  refine ev_iload (pc' := 99) dX8_layForm_97 rfl rfl ?_
  refine ev_iadd (pc' := 100) (v := 3) dX8_layForm_99 rfl (by decide) ?_
  refine ev_iald (pc' := 101) (j := 3) (v := (I 133) 3) dX8_layForm_100 rfl hs_133 rfl (Nat.le_of_ble_eq_true rfl) (Nat.le_of_ble_eq_true rfl) rfl ?_
  refine ev_i2l (pc' := 102) (v := Int32.toInt64 ((I 133) 3)) dX8_layForm_101 rfl rfl ?_
  refine ev_goto (tgt := 117) dX8_layForm_102 rfl ?_
  refine ev_last (pc' := 118) (j := 3) (L' := (ma_up (ma_up L 132 (ma_up (ma_up (ma_up (ma_up (ma_up (L 132) 0 0) 1 0) 2 0) 3 ((0 + (mW (mSel 1 (I 133) (I 134)))) + (mW (mSel 2 (I 133) (I 134))))) 4 (0 + (mW (mSel 0 (I 133) (I 134)))))) 120 (ma_up (ma_up (ma_up (ma_up r3 0 (Int32.toInt64 ((I 133) 0))) 1 (Int32.toInt64 ((I 133) 1))) 2 (Int32.toInt64 ((I 133) 2))) 3 (Int32.toInt64 ((I 133) 3))))) dX8_layForm_117 rfl hs_120 rfl (Nat.le_of_ble_eq_true rfl) (Nat.le_of_ble_eq_true rfl) (ma_up_up _ _ _ _) ?_
  refine ev_iinc (pc' := 121) (v := 4) (lv' := [some (.ref 115), some (.int 3), some (.int 1), some (.int 0), some (.int 1), some (.int 4)]) dX8_layForm_118 rfl rfl (by decide) (Nat.le_of_ble_eq_true rfl) rfl rfl ?_
  refine ev_goto (tgt := 69) dX8_layForm_121 rfl ?_
  refine ev_iload (pc' := 71) dX8_layForm_69 rfl rfl ?_
  refine ev_iconst (pc' := 72) (v := 4) dX8_layForm_71 rfl ki_4 ?_
  refine ev_icmp_ge (tgt := 124) (pc' := 75) dX8_layForm_72 rfl rfl (fun _ => ?_) (fun h => absurd (by decide) h)
  refine ev_iinc (pc' := 127) (v := 1) (lv' := [some (.ref 115), some (.int 3), some (.int 1), some (.int 1), some (.int 1), some (.int 4)]) dX8_layForm_124 rfl rfl (by decide) (Nat.le_of_ble_eq_true rfl) rfl rfl ?_
  refine ev_goto (tgt := 32) dX8_layForm_127 rfl ?_
  refine ev_iload_n (pc' := 33) (i := 3) dX8_layForm_32 rfl rfl rfl ?_
  refine ev_iconst (pc' := 34) (v := 4) dX8_layForm_33 rfl ki_4 ?_
  refine ev_icmp_ge (tgt := 130) (pc' := 37) dX8_layForm_34 rfl rfl (fun h => absurd h (by decide)) (fun _ => ?_)
  refine ev_iload_n (pc' := 38) (i := 1) dX8_layForm_37 rfl rfl rfl ?_
  refine ev_iload_n (pc' := 39) (i := 3) dX8_layForm_38 rfl rfl rfl ?_
  refine ev_ishr (pc' := 40) (v := 1) dX8_layForm_39 rfl (by decide) ?_
  refine ev_iconst (pc' := 41) (v := 1) dX8_layForm_40 rfl ki_1 ?_
  refine ev_iand (pc' := 42) (v := 1) dX8_layForm_41 rfl (by decide) ?_
  refine ev_iconst (pc' := 43) (v := 1) dX8_layForm_42 rfl ki_1 ?_
  refine ev_icmp_ne (tgt := 50) (pc' := 46) dX8_layForm_43 rfl rfl (fun h => absurd (by decide) h) (fun _ => ?_)
  refine ev_iconst (pc' := 47) (v := 1) dX8_layForm_46 rfl ki_1 ?_
  refine ev_goto (tgt := 51) dX8_layForm_47 rfl ?_
  refine ev_istore (pc' := 53) (lv' := [some (.ref 115), some (.int 3), some (.int 1), some (.int 1), some (.int 1), some (.int 4)]) dX8_layForm_51 rfl (Nat.le_of_ble_eq_true rfl) rfl rfl ?_
  refine ev_iload_n (pc' := 54) (i := 2) dX8_layForm_53 rfl rfl rfl ?_
  refine ev_iload (pc' := 56) dX8_layForm_54 rfl rfl ?_
  refine ev_if_eq (tgt := 63) (pc' := 59) dX8_layForm_56 rfl rfl (fun h => absurd h (by decide)) (fun _ => ?_)
  refine ev_iconst (pc' := 60) (v := 1) dX8_layForm_59 rfl ki_1 ?_
  refine ev_goto (tgt := 64) dX8_layForm_60 rfl ?_
  refine ev_iadd (pc' := 65) (v := 2) dX8_layForm_64 rfl (by decide) ?_
  refine ev_istore_n (pc' := 66) (i := 2) (lv' := [some (.ref 115), some (.int 3), some (.int 2), some (.int 1), some (.int 1), some (.int 4)]) dX8_layForm_65 rfl rfl (Nat.le_of_ble_eq_true rfl) rfl rfl ?_
  refine ev_iconst (pc' := 67) (v := 0) dX8_layForm_66 rfl ki_0 ?_
  refine ev_istore (pc' := 69) (lv' := [some (.ref 115), some (.int 3), some (.int 2), some (.int 1), some (.int 1), some (.int 0)]) dX8_layForm_67 rfl (Nat.le_of_ble_eq_true rfl) rfl rfl ?_
  refine ev_iload (pc' := 71) dX8_layForm_69 rfl rfl ?_
  refine ev_iconst (pc' := 72) (v := 4) dX8_layForm_71 rfl ki_4 ?_
  refine ev_icmp_ge (tgt := 124) (pc' := 75) dX8_layForm_72 rfl rfl (fun h => absurd h (by decide)) (fun _ => ?_)
  refine ev_aload_n (pc' := 76) (i := 0) dX8_layForm_75 rfl rfl rfl ?_
  refine ev_getR (pc' := 79) fo_X8_26 dX8_layForm_76 rfl hs_115 rfl rf_115_8 ?_
  refine ev_iconst (pc' := 80) (v := 4) dX8_layForm_79 rfl ki_4 ?_
  refine ev_iload_n (pc' := 81) (i := 3) dX8_layForm_80 rfl rfl rfl ?_
  refine ev_imul (pc' := 82) (v := 4) dX8_layForm_81 rfl (by decide) ?_
  refine ev_iload (pc' := 84) dX8_layForm_82 rfl rfl ?_
  refine ev_iadd (pc' := 85) (v := 4) dX8_layForm_84 rfl (by decide) ?_
  refine ev_iload (pc' := 87) dX8_layForm_85 rfl rfl ?_
  refine ev_if_eq (tgt := 105) (pc' := 90) dX8_layForm_87 rfl rfl (fun h => absurd h (by decide)) (fun _ => ?_)
  refine ev_aload_n (pc' := 91) (i := 0) dX8_layForm_90 rfl rfl rfl ?_
  refine ev_getR (pc' := 94) fo_X8_67 dX8_layForm_91 rfl hs_115 rfl rf_115_24 ?_
  refine ev_iconst (pc' := 95) (v := 4) dX8_layForm_94 rfl ki_4 ?_
  refine ev_iload_n (pc' := 96) (i := 3) dX8_layForm_95 rfl rfl rfl ?_
  refine ev_imul (pc' := 97) (v := 4) dX8_layForm_96 rfl (by decide) ?_
  refine ev_iload (pc' := 99) dX8_layForm_97 rfl rfl ?_
  refine ev_iadd (pc' := 100) (v := 4) dX8_layForm_99 rfl (by decide) ?_
  refine ev_iald (pc' := 101) (j := 4) (v := (I 133) 4) dX8_layForm_100 rfl hs_133 rfl (Nat.le_of_ble_eq_true rfl) (Nat.le_of_ble_eq_true rfl) rfl ?_
  refine ev_i2l (pc' := 102) (v := Int32.toInt64 ((I 133) 4)) dX8_layForm_101 rfl rfl ?_
  refine ev_goto (tgt := 117) dX8_layForm_102 rfl ?_
  refine ev_last (pc' := 118) (j := 4) (L' := (ma_up (ma_up L 132 (ma_up (ma_up (ma_up (ma_up (ma_up (L 132) 0 0) 1 0) 2 0) 3 ((0 + (mW (mSel 1 (I 133) (I 134)))) + (mW (mSel 2 (I 133) (I 134))))) 4 (0 + (mW (mSel 0 (I 133) (I 134)))))) 120 (ma_up (ma_up (ma_up (ma_up (ma_up r3 0 (Int32.toInt64 ((I 133) 0))) 1 (Int32.toInt64 ((I 133) 1))) 2 (Int32.toInt64 ((I 133) 2))) 3 (Int32.toInt64 ((I 133) 3))) 4 (Int32.toInt64 ((I 133) 4))))) dX8_layForm_117 rfl hs_120 rfl (Nat.le_of_ble_eq_true rfl) (Nat.le_of_ble_eq_true rfl) (ma_up_up _ _ _ _) ?_
  refine ev_iinc (pc' := 121) (v := 1) (lv' := [some (.ref 115), some (.int 3), some (.int 2), some (.int 1), some (.int 1), some (.int 1)]) dX8_layForm_118 rfl rfl (by decide) (Nat.le_of_ble_eq_true rfl) rfl rfl ?_
  refine ev_goto (tgt := 69) dX8_layForm_121 rfl ?_
  refine ev_iload (pc' := 71) dX8_layForm_69 rfl rfl ?_
  refine ev_iconst (pc' := 72) (v := 4) dX8_layForm_71 rfl ki_4 ?_
  refine ev_icmp_ge (tgt := 124) (pc' := 75) dX8_layForm_72 rfl rfl (fun h => absurd h (by decide)) (fun _ => ?_)
  refine ev_aload_n (pc' := 76) (i := 0) dX8_layForm_75 rfl rfl rfl ?_
  refine ev_getR (pc' := 79) fo_X8_26 dX8_layForm_76 rfl hs_115 rfl rf_115_8 ?_
  refine ev_iconst (pc' := 80) (v := 4) dX8_layForm_79 rfl ki_4 ?_
  refine ev_iload_n (pc' := 81) (i := 3) dX8_layForm_80 rfl rfl rfl ?_
  refine ev_imul (pc' := 82) (v := 4) dX8_layForm_81 rfl (by decide) ?_
  refine ev_iload (pc' := 84) dX8_layForm_82 rfl rfl ?_
  refine ev_iadd (pc' := 85) (v := 5) dX8_layForm_84 rfl (by decide) ?_
  refine ev_iload (pc' := 87) dX8_layForm_85 rfl rfl ?_
  refine ev_if_eq (tgt := 105) (pc' := 90) dX8_layForm_87 rfl rfl (fun h => absurd h (by decide)) (fun _ => ?_)
  refine ev_aload_n (pc' := 91) (i := 0) dX8_layForm_90 rfl rfl rfl ?_
  refine ev_getR (pc' := 94) fo_X8_67 dX8_layForm_91 rfl hs_115 rfl rf_115_24 ?_
  refine ev_iconst (pc' := 95) (v := 4) dX8_layForm_94 rfl ki_4 ?_
  refine ev_iload_n (pc' := 96) (i := 3) dX8_layForm_95 rfl rfl rfl ?_
  refine ev_imul (pc' := 97) (v := 4) dX8_layForm_96 rfl (by decide) ?_
  refine ev_iload (pc' := 99) dX8_layForm_97 rfl rfl ?_
  refine ev_iadd (pc' := 100) (v := 5) dX8_layForm_99 rfl (by decide) ?_
  refine ev_iald (pc' := 101) (j := 5) (v := (I 133) 5) dX8_layForm_100 rfl hs_133 rfl (Nat.le_of_ble_eq_true rfl) (Nat.le_of_ble_eq_true rfl) rfl ?_
  refine ev_i2l (pc' := 102) (v := Int32.toInt64 ((I 133) 5)) dX8_layForm_101 rfl rfl ?_
  refine ev_goto (tgt := 117) dX8_layForm_102 rfl ?_
  refine ev_last (pc' := 118) (j := 5) (L' := (ma_up (ma_up L 132 (ma_up (ma_up (ma_up (ma_up (ma_up (L 132) 0 0) 1 0) 2 0) 3 ((0 + (mW (mSel 1 (I 133) (I 134)))) + (mW (mSel 2 (I 133) (I 134))))) 4 (0 + (mW (mSel 0 (I 133) (I 134)))))) 120 (ma_up (ma_up (ma_up (ma_up (ma_up (ma_up r3 0 (Int32.toInt64 ((I 133) 0))) 1 (Int32.toInt64 ((I 133) 1))) 2 (Int32.toInt64 ((I 133) 2))) 3 (Int32.toInt64 ((I 133) 3))) 4 (Int32.toInt64 ((I 133) 4))) 5 (Int32.toInt64 ((I 133) 5))))) dX8_layForm_117 rfl hs_120 rfl (Nat.le_of_ble_eq_true rfl) (Nat.le_of_ble_eq_true rfl) (ma_up_up _ _ _ _) ?_
  refine ev_iinc (pc' := 121) (v := 2) (lv' := [some (.ref 115), some (.int 3), some (.int 2), some (.int 1), some (.int 1), some (.int 2)]) dX8_layForm_118 rfl rfl (by decide) (Nat.le_of_ble_eq_true rfl) rfl rfl ?_
  refine ev_goto (tgt := 69) dX8_layForm_121 rfl ?_
  refine ev_iload (pc' := 71) dX8_layForm_69 rfl rfl ?_
  refine ev_iconst (pc' := 72) (v := 4) dX8_layForm_71 rfl ki_4 ?_
  refine ev_icmp_ge (tgt := 124) (pc' := 75) dX8_layForm_72 rfl rfl (fun h => absurd h (by decide)) (fun _ => ?_)
  refine ev_aload_n (pc' := 76) (i := 0) dX8_layForm_75 rfl rfl rfl ?_
  refine ev_getR (pc' := 79) fo_X8_26 dX8_layForm_76 rfl hs_115 rfl rf_115_8 ?_
  refine ev_iconst (pc' := 80) (v := 4) dX8_layForm_79 rfl ki_4 ?_
  refine ev_iload_n (pc' := 81) (i := 3) dX8_layForm_80 rfl rfl rfl ?_
  refine ev_imul (pc' := 82) (v := 4) dX8_layForm_81 rfl (by decide) ?_
  refine ev_iload (pc' := 84) dX8_layForm_82 rfl rfl ?_
  refine ev_iadd (pc' := 85) (v := 6) dX8_layForm_84 rfl (by decide) ?_
  refine ev_iload (pc' := 87) dX8_layForm_85 rfl rfl ?_
  refine ev_if_eq (tgt := 105) (pc' := 90) dX8_layForm_87 rfl rfl (fun h => absurd h (by decide)) (fun _ => ?_)
  refine ev_aload_n (pc' := 91) (i := 0) dX8_layForm_90 rfl rfl rfl ?_
  refine ev_getR (pc' := 94) fo_X8_67 dX8_layForm_91 rfl hs_115 rfl rf_115_24 ?_
  refine ev_iconst (pc' := 95) (v := 4) dX8_layForm_94 rfl ki_4 ?_
  refine ev_iload_n (pc' := 96) (i := 3) dX8_layForm_95 rfl rfl rfl ?_
  refine ev_imul (pc' := 97) (v := 4) dX8_layForm_96 rfl (by decide) ?_
  refine ev_iload (pc' := 99) dX8_layForm_97 rfl rfl ?_
  refine ev_iadd (pc' := 100) (v := 6) dX8_layForm_99 rfl (by decide) ?_
  refine ev_iald (pc' := 101) (j := 6) (v := (I 133) 6) dX8_layForm_100 rfl hs_133 rfl (Nat.le_of_ble_eq_true rfl) (Nat.le_of_ble_eq_true rfl) rfl ?_
  refine ev_i2l (pc' := 102) (v := Int32.toInt64 ((I 133) 6)) dX8_layForm_101 rfl rfl ?_
  refine ev_goto (tgt := 117) dX8_layForm_102 rfl ?_
  refine ev_last (pc' := 118) (j := 6) (L' := (ma_up (ma_up L 132 (ma_up (ma_up (ma_up (ma_up (ma_up (L 132) 0 0) 1 0) 2 0) 3 ((0 + (mW (mSel 1 (I 133) (I 134)))) + (mW (mSel 2 (I 133) (I 134))))) 4 (0 + (mW (mSel 0 (I 133) (I 134)))))) 120 (ma_up (ma_up (ma_up (ma_up (ma_up (ma_up (ma_up r3 0 (Int32.toInt64 ((I 133) 0))) 1 (Int32.toInt64 ((I 133) 1))) 2 (Int32.toInt64 ((I 133) 2))) 3 (Int32.toInt64 ((I 133) 3))) 4 (Int32.toInt64 ((I 133) 4))) 5 (Int32.toInt64 ((I 133) 5))) 6 (Int32.toInt64 ((I 133) 6))))) dX8_layForm_117 rfl hs_120 rfl (Nat.le_of_ble_eq_true rfl) (Nat.le_of_ble_eq_true rfl) (ma_up_up _ _ _ _) ?_
  refine ev_iinc (pc' := 121) (v := 3) (lv' := [some (.ref 115), some (.int 3), some (.int 2), some (.int 1), some (.int 1), some (.int 3)]) dX8_layForm_118 rfl rfl (by decide) (Nat.le_of_ble_eq_true rfl) rfl rfl ?_
  refine ev_goto (tgt := 69) dX8_layForm_121 rfl ?_
  refine ev_iload (pc' := 71) dX8_layForm_69 rfl rfl ?_
  refine ev_iconst (pc' := 72) (v := 4) dX8_layForm_71 rfl ki_4 ?_
  refine ev_icmp_ge (tgt := 124) (pc' := 75) dX8_layForm_72 rfl rfl (fun h => absurd h (by decide)) (fun _ => ?_)
  refine ev_aload_n (pc' := 76) (i := 0) dX8_layForm_75 rfl rfl rfl ?_
  refine ev_getR (pc' := 79) fo_X8_26 dX8_layForm_76 rfl hs_115 rfl rf_115_8 ?_
  refine ev_iconst (pc' := 80) (v := 4) dX8_layForm_79 rfl ki_4 ?_
  refine ev_iload_n (pc' := 81) (i := 3) dX8_layForm_80 rfl rfl rfl ?_
  refine ev_imul (pc' := 82) (v := 4) dX8_layForm_81 rfl (by decide) ?_
  refine ev_iload (pc' := 84) dX8_layForm_82 rfl rfl ?_
  refine ev_iadd (pc' := 85) (v := 7) dX8_layForm_84 rfl (by decide) ?_
  refine ev_iload (pc' := 87) dX8_layForm_85 rfl rfl ?_
  refine ev_if_eq (tgt := 105) (pc' := 90) dX8_layForm_87 rfl rfl (fun h => absurd h (by decide)) (fun _ => ?_)
  refine ev_aload_n (pc' := 91) (i := 0) dX8_layForm_90 rfl rfl rfl ?_
  refine ev_getR (pc' := 94) fo_X8_67 dX8_layForm_91 rfl hs_115 rfl rf_115_24 ?_
  refine ev_iconst (pc' := 95) (v := 4) dX8_layForm_94 rfl ki_4 ?_
  refine ev_iload_n (pc' := 96) (i := 3) dX8_layForm_95 rfl rfl rfl ?_
  refine ev_imul (pc' := 97) (v := 4) dX8_layForm_96 rfl (by decide) ?_
  refine ev_iload (pc' := 99) dX8_layForm_97 rfl rfl ?_
  refine ev_iadd (pc' := 100) (v := 7) dX8_layForm_99 rfl (by decide) ?_
  refine ev_iald (pc' := 101) (j := 7) (v := (I 133) 7) dX8_layForm_100 rfl hs_133 rfl (Nat.le_of_ble_eq_true rfl) (Nat.le_of_ble_eq_true rfl) rfl ?_
  refine ev_i2l (pc' := 102) (v := Int32.toInt64 ((I 133) 7)) dX8_layForm_101 rfl rfl ?_
  refine ev_goto (tgt := 117) dX8_layForm_102 rfl ?_
  refine ev_last (pc' := 118) (j := 7) (L' := (ma_up (ma_up L 132 (ma_up (ma_up (ma_up (ma_up (ma_up (L 132) 0 0) 1 0) 2 0) 3 ((0 + (mW (mSel 1 (I 133) (I 134)))) + (mW (mSel 2 (I 133) (I 134))))) 4 (0 + (mW (mSel 0 (I 133) (I 134)))))) 120 (ma_up (ma_up (ma_up (ma_up (ma_up (ma_up (ma_up (ma_up r3 0 (Int32.toInt64 ((I 133) 0))) 1 (Int32.toInt64 ((I 133) 1))) 2 (Int32.toInt64 ((I 133) 2))) 3 (Int32.toInt64 ((I 133) 3))) 4 (Int32.toInt64 ((I 133) 4))) 5 (Int32.toInt64 ((I 133) 5))) 6 (Int32.toInt64 ((I 133) 6))) 7 (Int32.toInt64 ((I 133) 7))))) dX8_layForm_117 rfl hs_120 rfl (Nat.le_of_ble_eq_true rfl) (Nat.le_of_ble_eq_true rfl) (ma_up_up _ _ _ _) ?_
  refine ev_iinc (pc' := 121) (v := 4) (lv' := [some (.ref 115), some (.int 3), some (.int 2), some (.int 1), some (.int 1), some (.int 4)]) dX8_layForm_118 rfl rfl (by decide) (Nat.le_of_ble_eq_true rfl) rfl rfl ?_
  refine ev_goto (tgt := 69) dX8_layForm_121 rfl ?_
  refine ev_iload (pc' := 71) dX8_layForm_69 rfl rfl ?_
  refine ev_iconst (pc' := 72) (v := 4) dX8_layForm_71 rfl ki_4 ?_
  refine ev_icmp_ge (tgt := 124) (pc' := 75) dX8_layForm_72 rfl rfl (fun _ => ?_) (fun h => absurd (by decide) h)
  refine ev_iinc (pc' := 127) (v := 2) (lv' := [some (.ref 115), some (.int 3), some (.int 2), some (.int 2), some (.int 1), some (.int 4)]) dX8_layForm_124 rfl rfl (by decide) (Nat.le_of_ble_eq_true rfl) rfl rfl ?_
  refine ev_goto (tgt := 32) dX8_layForm_127 rfl ?_
  refine ev_iload_n (pc' := 33) (i := 3) dX8_layForm_32 rfl rfl rfl ?_
  refine ev_iconst (pc' := 34) (v := 4) dX8_layForm_33 rfl ki_4 ?_
  refine ev_icmp_ge (tgt := 130) (pc' := 37) dX8_layForm_34 rfl rfl (fun h => absurd h (by decide)) (fun _ => ?_)
  refine ev_iload_n (pc' := 38) (i := 1) dX8_layForm_37 rfl rfl rfl ?_
  refine ev_iload_n (pc' := 39) (i := 3) dX8_layForm_38 rfl rfl rfl ?_
  refine ev_ishr (pc' := 40) (v := 0) dX8_layForm_39 rfl (by decide) ?_
  refine ev_iconst (pc' := 41) (v := 1) dX8_layForm_40 rfl ki_1 ?_
  refine ev_iand (pc' := 42) (v := 0) dX8_layForm_41 rfl (by decide) ?_
  refine ev_iconst (pc' := 43) (v := 1) dX8_layForm_42 rfl ki_1 ?_
  refine ev_icmp_ne (tgt := 50) (pc' := 46) dX8_layForm_43 rfl rfl (fun _ => ?_) (fun h => absurd h (by decide))
  refine ev_iconst (pc' := 51) (v := 0) dX8_layForm_50 rfl ki_0 ?_
  refine ev_istore (pc' := 53) (lv' := [some (.ref 115), some (.int 3), some (.int 2), some (.int 2), some (.int 0), some (.int 4)]) dX8_layForm_51 rfl (Nat.le_of_ble_eq_true rfl) rfl rfl ?_
  refine ev_iload_n (pc' := 54) (i := 2) dX8_layForm_53 rfl rfl rfl ?_
  refine ev_iload (pc' := 56) dX8_layForm_54 rfl rfl ?_
  refine ev_if_eq (tgt := 63) (pc' := 59) dX8_layForm_56 rfl rfl (fun _ => ?_) (fun h => absurd (by decide) h)
  refine ev_iconst (pc' := 64) (v := 0) dX8_layForm_63 rfl ki_0 ?_
  refine ev_iadd (pc' := 65) (v := 2) dX8_layForm_64 rfl (by decide) ?_
  refine ev_istore_n (pc' := 66) (i := 2) (lv' := [some (.ref 115), some (.int 3), some (.int 2), some (.int 2), some (.int 0), some (.int 4)]) dX8_layForm_65 rfl rfl (Nat.le_of_ble_eq_true rfl) rfl rfl ?_
  refine ev_iconst (pc' := 67) (v := 0) dX8_layForm_66 rfl ki_0 ?_
  refine ev_istore (pc' := 69) (lv' := [some (.ref 115), some (.int 3), some (.int 2), some (.int 2), some (.int 0), some (.int 0)]) dX8_layForm_67 rfl (Nat.le_of_ble_eq_true rfl) rfl rfl ?_
  refine ev_iload (pc' := 71) dX8_layForm_69 rfl rfl ?_
  refine ev_iconst (pc' := 72) (v := 4) dX8_layForm_71 rfl ki_4 ?_
  refine ev_icmp_ge (tgt := 124) (pc' := 75) dX8_layForm_72 rfl rfl (fun h => absurd h (by decide)) (fun _ => ?_)
  refine ev_aload_n (pc' := 76) (i := 0) dX8_layForm_75 rfl rfl rfl ?_
  refine ev_getR (pc' := 79) fo_X8_26 dX8_layForm_76 rfl hs_115 rfl rf_115_8 ?_
  refine ev_iconst (pc' := 80) (v := 4) dX8_layForm_79 rfl ki_4 ?_
  refine ev_iload_n (pc' := 81) (i := 3) dX8_layForm_80 rfl rfl rfl ?_
  refine ev_imul (pc' := 82) (v := 8) dX8_layForm_81 rfl (by decide) ?_
  refine ev_iload (pc' := 84) dX8_layForm_82 rfl rfl ?_
  refine ev_iadd (pc' := 85) (v := 8) dX8_layForm_84 rfl (by decide) ?_
  refine ev_iload (pc' := 87) dX8_layForm_85 rfl rfl ?_
  refine ev_if_eq (tgt := 105) (pc' := 90) dX8_layForm_87 rfl rfl (fun _ => ?_) (fun h => absurd (by decide) h)
  refine ev_aload_n (pc' := 106) (i := 0) dX8_layForm_105 rfl rfl rfl ?_
  refine ev_getR (pc' := 109) fo_X8_70 dX8_layForm_106 rfl hs_115 rfl rf_115_25 ?_
  refine ev_iconst (pc' := 110) (v := 4) dX8_layForm_109 rfl ki_4 ?_
  refine ev_iload_n (pc' := 111) (i := 3) dX8_layForm_110 rfl rfl rfl ?_
  refine ev_imul (pc' := 112) (v := 8) dX8_layForm_111 rfl (by decide) ?_
  refine ev_iload (pc' := 114) dX8_layForm_112 rfl rfl ?_
  refine ev_iadd (pc' := 115) (v := 8) dX8_layForm_114 rfl (by decide) ?_
  refine ev_iald (pc' := 116) (j := 8) (v := (I 134) 8) dX8_layForm_115 rfl hs_134 rfl (Nat.le_of_ble_eq_true rfl) (Nat.le_of_ble_eq_true rfl) rfl ?_
  refine ev_i2l (pc' := 117) (v := Int32.toInt64 ((I 134) 8)) dX8_layForm_116 rfl rfl ?_
  refine ev_last (pc' := 118) (j := 8) (L' := (ma_up (ma_up L 132 (ma_up (ma_up (ma_up (ma_up (ma_up (L 132) 0 0) 1 0) 2 0) 3 ((0 + (mW (mSel 1 (I 133) (I 134)))) + (mW (mSel 2 (I 133) (I 134))))) 4 (0 + (mW (mSel 0 (I 133) (I 134)))))) 120 (ma_up (ma_up (ma_up (ma_up (ma_up (ma_up (ma_up (ma_up (ma_up r3 0 (Int32.toInt64 ((I 133) 0))) 1 (Int32.toInt64 ((I 133) 1))) 2 (Int32.toInt64 ((I 133) 2))) 3 (Int32.toInt64 ((I 133) 3))) 4 (Int32.toInt64 ((I 133) 4))) 5 (Int32.toInt64 ((I 133) 5))) 6 (Int32.toInt64 ((I 133) 6))) 7 (Int32.toInt64 ((I 133) 7))) 8 (Int32.toInt64 ((I 134) 8))))) dX8_layForm_117 rfl hs_120 rfl (Nat.le_of_ble_eq_true rfl) (Nat.le_of_ble_eq_true rfl) (ma_up_up _ _ _ _) ?_
  refine ev_iinc (pc' := 121) (v := 1) (lv' := [some (.ref 115), some (.int 3), some (.int 2), some (.int 2), some (.int 0), some (.int 1)]) dX8_layForm_118 rfl rfl (by decide) (Nat.le_of_ble_eq_true rfl) rfl rfl ?_
  refine ev_goto (tgt := 69) dX8_layForm_121 rfl ?_
  refine ev_iload (pc' := 71) dX8_layForm_69 rfl rfl ?_
  refine ev_iconst (pc' := 72) (v := 4) dX8_layForm_71 rfl ki_4 ?_
  refine ev_icmp_ge (tgt := 124) (pc' := 75) dX8_layForm_72 rfl rfl (fun h => absurd h (by decide)) (fun _ => ?_)
  refine ev_aload_n (pc' := 76) (i := 0) dX8_layForm_75 rfl rfl rfl ?_
  refine ev_getR (pc' := 79) fo_X8_26 dX8_layForm_76 rfl hs_115 rfl rf_115_8 ?_
  refine ev_iconst (pc' := 80) (v := 4) dX8_layForm_79 rfl ki_4 ?_
  refine ev_iload_n (pc' := 81) (i := 3) dX8_layForm_80 rfl rfl rfl ?_
  refine ev_imul (pc' := 82) (v := 8) dX8_layForm_81 rfl (by decide) ?_
  refine ev_iload (pc' := 84) dX8_layForm_82 rfl rfl ?_
  refine ev_iadd (pc' := 85) (v := 9) dX8_layForm_84 rfl (by decide) ?_
  refine ev_iload (pc' := 87) dX8_layForm_85 rfl rfl ?_
  refine ev_if_eq (tgt := 105) (pc' := 90) dX8_layForm_87 rfl rfl (fun _ => ?_) (fun h => absurd (by decide) h)
  refine ev_aload_n (pc' := 106) (i := 0) dX8_layForm_105 rfl rfl rfl ?_
  refine ev_getR (pc' := 109) fo_X8_70 dX8_layForm_106 rfl hs_115 rfl rf_115_25 ?_
  refine ev_iconst (pc' := 110) (v := 4) dX8_layForm_109 rfl ki_4 ?_
  refine ev_iload_n (pc' := 111) (i := 3) dX8_layForm_110 rfl rfl rfl ?_
  refine ev_imul (pc' := 112) (v := 8) dX8_layForm_111 rfl (by decide) ?_
  refine ev_iload (pc' := 114) dX8_layForm_112 rfl rfl ?_
  refine ev_iadd (pc' := 115) (v := 9) dX8_layForm_114 rfl (by decide) ?_
  refine ev_iald (pc' := 116) (j := 9) (v := (I 134) 9) dX8_layForm_115 rfl hs_134 rfl (Nat.le_of_ble_eq_true rfl) (Nat.le_of_ble_eq_true rfl) rfl ?_
  refine ev_i2l (pc' := 117) (v := Int32.toInt64 ((I 134) 9)) dX8_layForm_116 rfl rfl ?_
  refine ev_last (pc' := 118) (j := 9) (L' := (ma_up (ma_up L 132 (ma_up (ma_up (ma_up (ma_up (ma_up (L 132) 0 0) 1 0) 2 0) 3 ((0 + (mW (mSel 1 (I 133) (I 134)))) + (mW (mSel 2 (I 133) (I 134))))) 4 (0 + (mW (mSel 0 (I 133) (I 134)))))) 120 (ma_up (ma_up (ma_up (ma_up (ma_up (ma_up (ma_up (ma_up (ma_up (ma_up r3 0 (Int32.toInt64 ((I 133) 0))) 1 (Int32.toInt64 ((I 133) 1))) 2 (Int32.toInt64 ((I 133) 2))) 3 (Int32.toInt64 ((I 133) 3))) 4 (Int32.toInt64 ((I 133) 4))) 5 (Int32.toInt64 ((I 133) 5))) 6 (Int32.toInt64 ((I 133) 6))) 7 (Int32.toInt64 ((I 133) 7))) 8 (Int32.toInt64 ((I 134) 8))) 9 (Int32.toInt64 ((I 134) 9))))) dX8_layForm_117 rfl hs_120 rfl (Nat.le_of_ble_eq_true rfl) (Nat.le_of_ble_eq_true rfl) (ma_up_up _ _ _ _) ?_
  refine ev_iinc (pc' := 121) (v := 2) (lv' := [some (.ref 115), some (.int 3), some (.int 2), some (.int 2), some (.int 0), some (.int 2)]) dX8_layForm_118 rfl rfl (by decide) (Nat.le_of_ble_eq_true rfl) rfl rfl ?_
  refine ev_goto (tgt := 69) dX8_layForm_121 rfl ?_
  refine ev_iload (pc' := 71) dX8_layForm_69 rfl rfl ?_
  refine ev_iconst (pc' := 72) (v := 4) dX8_layForm_71 rfl ki_4 ?_
  refine ev_icmp_ge (tgt := 124) (pc' := 75) dX8_layForm_72 rfl rfl (fun h => absurd h (by decide)) (fun _ => ?_)
  refine ev_aload_n (pc' := 76) (i := 0) dX8_layForm_75 rfl rfl rfl ?_
  refine ev_getR (pc' := 79) fo_X8_26 dX8_layForm_76 rfl hs_115 rfl rf_115_8 ?_
  refine ev_iconst (pc' := 80) (v := 4) dX8_layForm_79 rfl ki_4 ?_
  refine ev_iload_n (pc' := 81) (i := 3) dX8_layForm_80 rfl rfl rfl ?_
  refine ev_imul (pc' := 82) (v := 8) dX8_layForm_81 rfl (by decide) ?_
  refine ev_iload (pc' := 84) dX8_layForm_82 rfl rfl ?_
  refine ev_iadd (pc' := 85) (v := 10) dX8_layForm_84 rfl (by decide) ?_
  refine ev_iload (pc' := 87) dX8_layForm_85 rfl rfl ?_
  refine ev_if_eq (tgt := 105) (pc' := 90) dX8_layForm_87 rfl rfl (fun _ => ?_) (fun h => absurd (by decide) h)
  refine ev_aload_n (pc' := 106) (i := 0) dX8_layForm_105 rfl rfl rfl ?_
  refine ev_getR (pc' := 109) fo_X8_70 dX8_layForm_106 rfl hs_115 rfl rf_115_25 ?_
  refine ev_iconst (pc' := 110) (v := 4) dX8_layForm_109 rfl ki_4 ?_
  refine ev_iload_n (pc' := 111) (i := 3) dX8_layForm_110 rfl rfl rfl ?_
  refine ev_imul (pc' := 112) (v := 8) dX8_layForm_111 rfl (by decide) ?_
  refine ev_iload (pc' := 114) dX8_layForm_112 rfl rfl ?_
  refine ev_iadd (pc' := 115) (v := 10) dX8_layForm_114 rfl (by decide) ?_
  refine ev_iald (pc' := 116) (j := 10) (v := (I 134) 10) dX8_layForm_115 rfl hs_134 rfl (Nat.le_of_ble_eq_true rfl) (Nat.le_of_ble_eq_true rfl) rfl ?_
  refine ev_i2l (pc' := 117) (v := Int32.toInt64 ((I 134) 10)) dX8_layForm_116 rfl rfl ?_
  refine ev_last (pc' := 118) (j := 10) (L' := (ma_up (ma_up L 132 (ma_up (ma_up (ma_up (ma_up (ma_up (L 132) 0 0) 1 0) 2 0) 3 ((0 + (mW (mSel 1 (I 133) (I 134)))) + (mW (mSel 2 (I 133) (I 134))))) 4 (0 + (mW (mSel 0 (I 133) (I 134)))))) 120 (ma_up (ma_up (ma_up (ma_up (ma_up (ma_up (ma_up (ma_up (ma_up (ma_up (ma_up r3 0 (Int32.toInt64 ((I 133) 0))) 1 (Int32.toInt64 ((I 133) 1))) 2 (Int32.toInt64 ((I 133) 2))) 3 (Int32.toInt64 ((I 133) 3))) 4 (Int32.toInt64 ((I 133) 4))) 5 (Int32.toInt64 ((I 133) 5))) 6 (Int32.toInt64 ((I 133) 6))) 7 (Int32.toInt64 ((I 133) 7))) 8 (Int32.toInt64 ((I 134) 8))) 9 (Int32.toInt64 ((I 134) 9))) 10 (Int32.toInt64 ((I 134) 10))))) dX8_layForm_117 rfl hs_120 rfl (Nat.le_of_ble_eq_true rfl) (Nat.le_of_ble_eq_true rfl) (ma_up_up _ _ _ _) ?_
  refine ev_iinc (pc' := 121) (v := 3) (lv' := [some (.ref 115), some (.int 3), some (.int 2), some (.int 2), some (.int 0), some (.int 3)]) dX8_layForm_118 rfl rfl (by decide) (Nat.le_of_ble_eq_true rfl) rfl rfl ?_
  refine ev_goto (tgt := 69) dX8_layForm_121 rfl ?_
  refine ev_iload (pc' := 71) dX8_layForm_69 rfl rfl ?_
  refine ev_iconst (pc' := 72) (v := 4) dX8_layForm_71 rfl ki_4 ?_
  refine ev_icmp_ge (tgt := 124) (pc' := 75) dX8_layForm_72 rfl rfl (fun h => absurd h (by decide)) (fun _ => ?_)
  refine ev_aload_n (pc' := 76) (i := 0) dX8_layForm_75 rfl rfl rfl ?_
  refine ev_getR (pc' := 79) fo_X8_26 dX8_layForm_76 rfl hs_115 rfl rf_115_8 ?_
  refine ev_iconst (pc' := 80) (v := 4) dX8_layForm_79 rfl ki_4 ?_
  refine ev_iload_n (pc' := 81) (i := 3) dX8_layForm_80 rfl rfl rfl ?_
  refine ev_imul (pc' := 82) (v := 8) dX8_layForm_81 rfl (by decide) ?_
  refine ev_iload (pc' := 84) dX8_layForm_82 rfl rfl ?_
  refine ev_iadd (pc' := 85) (v := 11) dX8_layForm_84 rfl (by decide) ?_
  refine ev_iload (pc' := 87) dX8_layForm_85 rfl rfl ?_
  refine ev_if_eq (tgt := 105) (pc' := 90) dX8_layForm_87 rfl rfl (fun _ => ?_) (fun h => absurd (by decide) h)
  refine ev_aload_n (pc' := 106) (i := 0) dX8_layForm_105 rfl rfl rfl ?_
  refine ev_getR (pc' := 109) fo_X8_70 dX8_layForm_106 rfl hs_115 rfl rf_115_25 ?_
  refine ev_iconst (pc' := 110) (v := 4) dX8_layForm_109 rfl ki_4 ?_
  refine ev_iload_n (pc' := 111) (i := 3) dX8_layForm_110 rfl rfl rfl ?_
  refine ev_imul (pc' := 112) (v := 8) dX8_layForm_111 rfl (by decide) ?_
  refine ev_iload (pc' := 114) dX8_layForm_112 rfl rfl ?_
  refine ev_iadd (pc' := 115) (v := 11) dX8_layForm_114 rfl (by decide) ?_
  refine ev_iald (pc' := 116) (j := 11) (v := (I 134) 11) dX8_layForm_115 rfl hs_134 rfl (Nat.le_of_ble_eq_true rfl) (Nat.le_of_ble_eq_true rfl) rfl ?_
  refine ev_i2l (pc' := 117) (v := Int32.toInt64 ((I 134) 11)) dX8_layForm_116 rfl rfl ?_
  refine ev_last (pc' := 118) (j := 11) (L' := (ma_up (ma_up L 132 (ma_up (ma_up (ma_up (ma_up (ma_up (L 132) 0 0) 1 0) 2 0) 3 ((0 + (mW (mSel 1 (I 133) (I 134)))) + (mW (mSel 2 (I 133) (I 134))))) 4 (0 + (mW (mSel 0 (I 133) (I 134)))))) 120 (ma_up (ma_up (ma_up (ma_up (ma_up (ma_up (ma_up (ma_up (ma_up (ma_up (ma_up (ma_up r3 0 (Int32.toInt64 ((I 133) 0))) 1 (Int32.toInt64 ((I 133) 1))) 2 (Int32.toInt64 ((I 133) 2))) 3 (Int32.toInt64 ((I 133) 3))) 4 (Int32.toInt64 ((I 133) 4))) 5 (Int32.toInt64 ((I 133) 5))) 6 (Int32.toInt64 ((I 133) 6))) 7 (Int32.toInt64 ((I 133) 7))) 8 (Int32.toInt64 ((I 134) 8))) 9 (Int32.toInt64 ((I 134) 9))) 10 (Int32.toInt64 ((I 134) 10))) 11 (Int32.toInt64 ((I 134) 11))))) dX8_layForm_117 rfl hs_120 rfl (Nat.le_of_ble_eq_true rfl) (Nat.le_of_ble_eq_true rfl) (ma_up_up _ _ _ _) ?_
  refine ev_iinc (pc' := 121) (v := 4) (lv' := [some (.ref 115), some (.int 3), some (.int 2), some (.int 2), some (.int 0), some (.int 4)]) dX8_layForm_118 rfl rfl (by decide) (Nat.le_of_ble_eq_true rfl) rfl rfl ?_
  refine ev_goto (tgt := 69) dX8_layForm_121 rfl ?_
  refine ev_iload (pc' := 71) dX8_layForm_69 rfl rfl ?_
  refine ev_iconst (pc' := 72) (v := 4) dX8_layForm_71 rfl ki_4 ?_
  refine ev_icmp_ge (tgt := 124) (pc' := 75) dX8_layForm_72 rfl rfl (fun _ => ?_) (fun h => absurd (by decide) h)
  refine ev_iinc (pc' := 127) (v := 3) (lv' := [some (.ref 115), some (.int 3), some (.int 2), some (.int 3), some (.int 0), some (.int 4)]) dX8_layForm_124 rfl rfl (by decide) (Nat.le_of_ble_eq_true rfl) rfl rfl ?_
  refine ev_goto (tgt := 32) dX8_layForm_127 rfl ?_
  refine ev_iload_n (pc' := 33) (i := 3) dX8_layForm_32 rfl rfl rfl ?_
  refine ev_iconst (pc' := 34) (v := 4) dX8_layForm_33 rfl ki_4 ?_
  refine ev_icmp_ge (tgt := 130) (pc' := 37) dX8_layForm_34 rfl rfl (fun h => absurd h (by decide)) (fun _ => ?_)
  refine ev_iload_n (pc' := 38) (i := 1) dX8_layForm_37 rfl rfl rfl ?_
  refine ev_iload_n (pc' := 39) (i := 3) dX8_layForm_38 rfl rfl rfl ?_
  refine ev_ishr (pc' := 40) (v := 0) dX8_layForm_39 rfl (by decide) ?_
  refine ev_iconst (pc' := 41) (v := 1) dX8_layForm_40 rfl ki_1 ?_
  refine ev_iand (pc' := 42) (v := 0) dX8_layForm_41 rfl (by decide) ?_
  refine ev_iconst (pc' := 43) (v := 1) dX8_layForm_42 rfl ki_1 ?_
  refine ev_icmp_ne (tgt := 50) (pc' := 46) dX8_layForm_43 rfl rfl (fun _ => ?_) (fun h => absurd h (by decide))
  refine ev_iconst (pc' := 51) (v := 0) dX8_layForm_50 rfl ki_0 ?_
  refine ev_istore (pc' := 53) (lv' := [some (.ref 115), some (.int 3), some (.int 2), some (.int 3), some (.int 0), some (.int 4)]) dX8_layForm_51 rfl (Nat.le_of_ble_eq_true rfl) rfl rfl ?_
  refine ev_iload_n (pc' := 54) (i := 2) dX8_layForm_53 rfl rfl rfl ?_
  refine ev_iload (pc' := 56) dX8_layForm_54 rfl rfl ?_
  refine ev_if_eq (tgt := 63) (pc' := 59) dX8_layForm_56 rfl rfl (fun _ => ?_) (fun h => absurd (by decide) h)
  refine ev_iconst (pc' := 64) (v := 0) dX8_layForm_63 rfl ki_0 ?_
  refine ev_iadd (pc' := 65) (v := 2) dX8_layForm_64 rfl (by decide) ?_
  refine ev_istore_n (pc' := 66) (i := 2) (lv' := [some (.ref 115), some (.int 3), some (.int 2), some (.int 3), some (.int 0), some (.int 4)]) dX8_layForm_65 rfl rfl (Nat.le_of_ble_eq_true rfl) rfl rfl ?_
  refine ev_iconst (pc' := 67) (v := 0) dX8_layForm_66 rfl ki_0 ?_
  refine ev_istore (pc' := 69) (lv' := [some (.ref 115), some (.int 3), some (.int 2), some (.int 3), some (.int 0), some (.int 0)]) dX8_layForm_67 rfl (Nat.le_of_ble_eq_true rfl) rfl rfl ?_
  refine ev_iload (pc' := 71) dX8_layForm_69 rfl rfl ?_
  refine ev_iconst (pc' := 72) (v := 4) dX8_layForm_71 rfl ki_4 ?_
  refine ev_icmp_ge (tgt := 124) (pc' := 75) dX8_layForm_72 rfl rfl (fun h => absurd h (by decide)) (fun _ => ?_)
  refine ev_aload_n (pc' := 76) (i := 0) dX8_layForm_75 rfl rfl rfl ?_
  refine ev_getR (pc' := 79) fo_X8_26 dX8_layForm_76 rfl hs_115 rfl rf_115_8 ?_
  refine ev_iconst (pc' := 80) (v := 4) dX8_layForm_79 rfl ki_4 ?_
  refine ev_iload_n (pc' := 81) (i := 3) dX8_layForm_80 rfl rfl rfl ?_
  refine ev_imul (pc' := 82) (v := 12) dX8_layForm_81 rfl (by decide) ?_
  refine ev_iload (pc' := 84) dX8_layForm_82 rfl rfl ?_
  refine ev_iadd (pc' := 85) (v := 12) dX8_layForm_84 rfl (by decide) ?_
  refine ev_iload (pc' := 87) dX8_layForm_85 rfl rfl ?_
  refine ev_if_eq (tgt := 105) (pc' := 90) dX8_layForm_87 rfl rfl (fun _ => ?_) (fun h => absurd (by decide) h)
  refine ev_aload_n (pc' := 106) (i := 0) dX8_layForm_105 rfl rfl rfl ?_
  refine ev_getR (pc' := 109) fo_X8_70 dX8_layForm_106 rfl hs_115 rfl rf_115_25 ?_
  refine ev_iconst (pc' := 110) (v := 4) dX8_layForm_109 rfl ki_4 ?_
  refine ev_iload_n (pc' := 111) (i := 3) dX8_layForm_110 rfl rfl rfl ?_
  refine ev_imul (pc' := 112) (v := 12) dX8_layForm_111 rfl (by decide) ?_
  refine ev_iload (pc' := 114) dX8_layForm_112 rfl rfl ?_
  refine ev_iadd (pc' := 115) (v := 12) dX8_layForm_114 rfl (by decide) ?_
  refine ev_iald (pc' := 116) (j := 12) (v := (I 134) 12) dX8_layForm_115 rfl hs_134 rfl (Nat.le_of_ble_eq_true rfl) (Nat.le_of_ble_eq_true rfl) rfl ?_
  refine ev_i2l (pc' := 117) (v := Int32.toInt64 ((I 134) 12)) dX8_layForm_116 rfl rfl ?_
  refine ev_last (pc' := 118) (j := 12) (L' := (ma_up (ma_up L 132 (ma_up (ma_up (ma_up (ma_up (ma_up (L 132) 0 0) 1 0) 2 0) 3 ((0 + (mW (mSel 1 (I 133) (I 134)))) + (mW (mSel 2 (I 133) (I 134))))) 4 (0 + (mW (mSel 0 (I 133) (I 134)))))) 120 (ma_up (ma_up (ma_up (ma_up (ma_up (ma_up (ma_up (ma_up (ma_up (ma_up (ma_up (ma_up (ma_up r3 0 (Int32.toInt64 ((I 133) 0))) 1 (Int32.toInt64 ((I 133) 1))) 2 (Int32.toInt64 ((I 133) 2))) 3 (Int32.toInt64 ((I 133) 3))) 4 (Int32.toInt64 ((I 133) 4))) 5 (Int32.toInt64 ((I 133) 5))) 6 (Int32.toInt64 ((I 133) 6))) 7 (Int32.toInt64 ((I 133) 7))) 8 (Int32.toInt64 ((I 134) 8))) 9 (Int32.toInt64 ((I 134) 9))) 10 (Int32.toInt64 ((I 134) 10))) 11 (Int32.toInt64 ((I 134) 11))) 12 (Int32.toInt64 ((I 134) 12))))) dX8_layForm_117 rfl hs_120 rfl (Nat.le_of_ble_eq_true rfl) (Nat.le_of_ble_eq_true rfl) (ma_up_up _ _ _ _) ?_
  refine ev_iinc (pc' := 121) (v := 1) (lv' := [some (.ref 115), some (.int 3), some (.int 2), some (.int 3), some (.int 0), some (.int 1)]) dX8_layForm_118 rfl rfl (by decide) (Nat.le_of_ble_eq_true rfl) rfl rfl ?_
  refine ev_goto (tgt := 69) dX8_layForm_121 rfl ?_
  refine ev_iload (pc' := 71) dX8_layForm_69 rfl rfl ?_
  refine ev_iconst (pc' := 72) (v := 4) dX8_layForm_71 rfl ki_4 ?_
  refine ev_icmp_ge (tgt := 124) (pc' := 75) dX8_layForm_72 rfl rfl (fun h => absurd h (by decide)) (fun _ => ?_)
  refine ev_aload_n (pc' := 76) (i := 0) dX8_layForm_75 rfl rfl rfl ?_
  refine ev_getR (pc' := 79) fo_X8_26 dX8_layForm_76 rfl hs_115 rfl rf_115_8 ?_
  refine ev_iconst (pc' := 80) (v := 4) dX8_layForm_79 rfl ki_4 ?_
  refine ev_iload_n (pc' := 81) (i := 3) dX8_layForm_80 rfl rfl rfl ?_
  refine ev_imul (pc' := 82) (v := 12) dX8_layForm_81 rfl (by decide) ?_
  refine ev_iload (pc' := 84) dX8_layForm_82 rfl rfl ?_
  refine ev_iadd (pc' := 85) (v := 13) dX8_layForm_84 rfl (by decide) ?_
  refine ev_iload (pc' := 87) dX8_layForm_85 rfl rfl ?_
  refine ev_if_eq (tgt := 105) (pc' := 90) dX8_layForm_87 rfl rfl (fun _ => ?_) (fun h => absurd (by decide) h)
  refine ev_aload_n (pc' := 106) (i := 0) dX8_layForm_105 rfl rfl rfl ?_
  refine ev_getR (pc' := 109) fo_X8_70 dX8_layForm_106 rfl hs_115 rfl rf_115_25 ?_
  refine ev_iconst (pc' := 110) (v := 4) dX8_layForm_109 rfl ki_4 ?_
  refine ev_iload_n (pc' := 111) (i := 3) dX8_layForm_110 rfl rfl rfl ?_
  refine ev_imul (pc' := 112) (v := 12) dX8_layForm_111 rfl (by decide) ?_
  refine ev_iload (pc' := 114) dX8_layForm_112 rfl rfl ?_
  refine ev_iadd (pc' := 115) (v := 13) dX8_layForm_114 rfl (by decide) ?_
  refine ev_iald (pc' := 116) (j := 13) (v := (I 134) 13) dX8_layForm_115 rfl hs_134 rfl (Nat.le_of_ble_eq_true rfl) (Nat.le_of_ble_eq_true rfl) rfl ?_
  refine ev_i2l (pc' := 117) (v := Int32.toInt64 ((I 134) 13)) dX8_layForm_116 rfl rfl ?_
  refine ev_last (pc' := 118) (j := 13) (L' := (ma_up (ma_up L 132 (ma_up (ma_up (ma_up (ma_up (ma_up (L 132) 0 0) 1 0) 2 0) 3 ((0 + (mW (mSel 1 (I 133) (I 134)))) + (mW (mSel 2 (I 133) (I 134))))) 4 (0 + (mW (mSel 0 (I 133) (I 134)))))) 120 (ma_up (ma_up (ma_up (ma_up (ma_up (ma_up (ma_up (ma_up (ma_up (ma_up (ma_up (ma_up (ma_up (ma_up r3 0 (Int32.toInt64 ((I 133) 0))) 1 (Int32.toInt64 ((I 133) 1))) 2 (Int32.toInt64 ((I 133) 2))) 3 (Int32.toInt64 ((I 133) 3))) 4 (Int32.toInt64 ((I 133) 4))) 5 (Int32.toInt64 ((I 133) 5))) 6 (Int32.toInt64 ((I 133) 6))) 7 (Int32.toInt64 ((I 133) 7))) 8 (Int32.toInt64 ((I 134) 8))) 9 (Int32.toInt64 ((I 134) 9))) 10 (Int32.toInt64 ((I 134) 10))) 11 (Int32.toInt64 ((I 134) 11))) 12 (Int32.toInt64 ((I 134) 12))) 13 (Int32.toInt64 ((I 134) 13))))) dX8_layForm_117 rfl hs_120 rfl (Nat.le_of_ble_eq_true rfl) (Nat.le_of_ble_eq_true rfl) (ma_up_up _ _ _ _) ?_
  refine ev_iinc (pc' := 121) (v := 2) (lv' := [some (.ref 115), some (.int 3), some (.int 2), some (.int 3), some (.int 0), some (.int 2)]) dX8_layForm_118 rfl rfl (by decide) (Nat.le_of_ble_eq_true rfl) rfl rfl ?_
  refine ev_goto (tgt := 69) dX8_layForm_121 rfl ?_
  refine ev_iload (pc' := 71) dX8_layForm_69 rfl rfl ?_
  refine ev_iconst (pc' := 72) (v := 4) dX8_layForm_71 rfl ki_4 ?_
  refine ev_icmp_ge (tgt := 124) (pc' := 75) dX8_layForm_72 rfl rfl (fun h => absurd h (by decide)) (fun _ => ?_)
  refine ev_aload_n (pc' := 76) (i := 0) dX8_layForm_75 rfl rfl rfl ?_
  refine ev_getR (pc' := 79) fo_X8_26 dX8_layForm_76 rfl hs_115 rfl rf_115_8 ?_
  refine ev_iconst (pc' := 80) (v := 4) dX8_layForm_79 rfl ki_4 ?_
  refine ev_iload_n (pc' := 81) (i := 3) dX8_layForm_80 rfl rfl rfl ?_
  refine ev_imul (pc' := 82) (v := 12) dX8_layForm_81 rfl (by decide) ?_
  refine ev_iload (pc' := 84) dX8_layForm_82 rfl rfl ?_
  refine ev_iadd (pc' := 85) (v := 14) dX8_layForm_84 rfl (by decide) ?_
  refine ev_iload (pc' := 87) dX8_layForm_85 rfl rfl ?_
  refine ev_if_eq (tgt := 105) (pc' := 90) dX8_layForm_87 rfl rfl (fun _ => ?_) (fun h => absurd (by decide) h)
  refine ev_aload_n (pc' := 106) (i := 0) dX8_layForm_105 rfl rfl rfl ?_
  refine ev_getR (pc' := 109) fo_X8_70 dX8_layForm_106 rfl hs_115 rfl rf_115_25 ?_
  refine ev_iconst (pc' := 110) (v := 4) dX8_layForm_109 rfl ki_4 ?_
  refine ev_iload_n (pc' := 111) (i := 3) dX8_layForm_110 rfl rfl rfl ?_
  refine ev_imul (pc' := 112) (v := 12) dX8_layForm_111 rfl (by decide) ?_
  refine ev_iload (pc' := 114) dX8_layForm_112 rfl rfl ?_
  refine ev_iadd (pc' := 115) (v := 14) dX8_layForm_114 rfl (by decide) ?_
  refine ev_iald (pc' := 116) (j := 14) (v := (I 134) 14) dX8_layForm_115 rfl hs_134 rfl (Nat.le_of_ble_eq_true rfl) (Nat.le_of_ble_eq_true rfl) rfl ?_
  refine ev_i2l (pc' := 117) (v := Int32.toInt64 ((I 134) 14)) dX8_layForm_116 rfl rfl ?_
  refine ev_last (pc' := 118) (j := 14) (L' := (ma_up (ma_up L 132 (ma_up (ma_up (ma_up (ma_up (ma_up (L 132) 0 0) 1 0) 2 0) 3 ((0 + (mW (mSel 1 (I 133) (I 134)))) + (mW (mSel 2 (I 133) (I 134))))) 4 (0 + (mW (mSel 0 (I 133) (I 134)))))) 120 (ma_up (ma_up (ma_up (ma_up (ma_up (ma_up (ma_up (ma_up (ma_up (ma_up (ma_up (ma_up (ma_up (ma_up (ma_up r3 0 (Int32.toInt64 ((I 133) 0))) 1 (Int32.toInt64 ((I 133) 1))) 2 (Int32.toInt64 ((I 133) 2))) 3 (Int32.toInt64 ((I 133) 3))) 4 (Int32.toInt64 ((I 133) 4))) 5 (Int32.toInt64 ((I 133) 5))) 6 (Int32.toInt64 ((I 133) 6))) 7 (Int32.toInt64 ((I 133) 7))) 8 (Int32.toInt64 ((I 134) 8))) 9 (Int32.toInt64 ((I 134) 9))) 10 (Int32.toInt64 ((I 134) 10))) 11 (Int32.toInt64 ((I 134) 11))) 12 (Int32.toInt64 ((I 134) 12))) 13 (Int32.toInt64 ((I 134) 13))) 14 (Int32.toInt64 ((I 134) 14))))) dX8_layForm_117 rfl hs_120 rfl (Nat.le_of_ble_eq_true rfl) (Nat.le_of_ble_eq_true rfl) (ma_up_up _ _ _ _) ?_
  refine ev_iinc (pc' := 121) (v := 3) (lv' := [some (.ref 115), some (.int 3), some (.int 2), some (.int 3), some (.int 0), some (.int 3)]) dX8_layForm_118 rfl rfl (by decide) (Nat.le_of_ble_eq_true rfl) rfl rfl ?_
  refine ev_goto (tgt := 69) dX8_layForm_121 rfl ?_
  refine ev_iload (pc' := 71) dX8_layForm_69 rfl rfl ?_
  refine ev_iconst (pc' := 72) (v := 4) dX8_layForm_71 rfl ki_4 ?_
  refine ev_icmp_ge (tgt := 124) (pc' := 75) dX8_layForm_72 rfl rfl (fun h => absurd h (by decide)) (fun _ => ?_)
  refine ev_aload_n (pc' := 76) (i := 0) dX8_layForm_75 rfl rfl rfl ?_
  refine ev_getR (pc' := 79) fo_X8_26 dX8_layForm_76 rfl hs_115 rfl rf_115_8 ?_
  refine ev_iconst (pc' := 80) (v := 4) dX8_layForm_79 rfl ki_4 ?_
  refine ev_iload_n (pc' := 81) (i := 3) dX8_layForm_80 rfl rfl rfl ?_
  refine ev_imul (pc' := 82) (v := 12) dX8_layForm_81 rfl (by decide) ?_
  refine ev_iload (pc' := 84) dX8_layForm_82 rfl rfl ?_
  refine ev_iadd (pc' := 85) (v := 15) dX8_layForm_84 rfl (by decide) ?_
  refine ev_iload (pc' := 87) dX8_layForm_85 rfl rfl ?_
  refine ev_if_eq (tgt := 105) (pc' := 90) dX8_layForm_87 rfl rfl (fun _ => ?_) (fun h => absurd (by decide) h)
  refine ev_aload_n (pc' := 106) (i := 0) dX8_layForm_105 rfl rfl rfl ?_
  refine ev_getR (pc' := 109) fo_X8_70 dX8_layForm_106 rfl hs_115 rfl rf_115_25 ?_
  refine ev_iconst (pc' := 110) (v := 4) dX8_layForm_109 rfl ki_4 ?_
  refine ev_iload_n (pc' := 111) (i := 3) dX8_layForm_110 rfl rfl rfl ?_
  refine ev_imul (pc' := 112) (v := 12) dX8_layForm_111 rfl (by decide) ?_
  refine ev_iload (pc' := 114) dX8_layForm_112 rfl rfl ?_
  refine ev_iadd (pc' := 115) (v := 15) dX8_layForm_114 rfl (by decide) ?_
  refine ev_iald (pc' := 116) (j := 15) (v := (I 134) 15) dX8_layForm_115 rfl hs_134 rfl (Nat.le_of_ble_eq_true rfl) (Nat.le_of_ble_eq_true rfl) rfl ?_
  refine ev_i2l (pc' := 117) (v := Int32.toInt64 ((I 134) 15)) dX8_layForm_116 rfl rfl ?_
  refine ev_last (pc' := 118) (j := 15) (L' := (ma_up (ma_up L 132 (ma_up (ma_up (ma_up (ma_up (ma_up (L 132) 0 0) 1 0) 2 0) 3 ((0 + (mW (mSel 1 (I 133) (I 134)))) + (mW (mSel 2 (I 133) (I 134))))) 4 (0 + (mW (mSel 0 (I 133) (I 134)))))) 120 (ma_up (ma_up (ma_up (ma_up (ma_up (ma_up (ma_up (ma_up (ma_up (ma_up (ma_up (ma_up (ma_up (ma_up (ma_up (ma_up r3 0 (Int32.toInt64 ((I 133) 0))) 1 (Int32.toInt64 ((I 133) 1))) 2 (Int32.toInt64 ((I 133) 2))) 3 (Int32.toInt64 ((I 133) 3))) 4 (Int32.toInt64 ((I 133) 4))) 5 (Int32.toInt64 ((I 133) 5))) 6 (Int32.toInt64 ((I 133) 6))) 7 (Int32.toInt64 ((I 133) 7))) 8 (Int32.toInt64 ((I 134) 8))) 9 (Int32.toInt64 ((I 134) 9))) 10 (Int32.toInt64 ((I 134) 10))) 11 (Int32.toInt64 ((I 134) 11))) 12 (Int32.toInt64 ((I 134) 12))) 13 (Int32.toInt64 ((I 134) 13))) 14 (Int32.toInt64 ((I 134) 14))) 15 (Int32.toInt64 ((I 134) 15))))) dX8_layForm_117 rfl hs_120 rfl (Nat.le_of_ble_eq_true rfl) (Nat.le_of_ble_eq_true rfl) (ma_up_up _ _ _ _) ?_
  refine ev_iinc (pc' := 121) (v := 4) (lv' := [some (.ref 115), some (.int 3), some (.int 2), some (.int 3), some (.int 0), some (.int 4)]) dX8_layForm_118 rfl rfl (by decide) (Nat.le_of_ble_eq_true rfl) rfl rfl ?_
  refine ev_goto (tgt := 69) dX8_layForm_121 rfl ?_
  refine ev_iload (pc' := 71) dX8_layForm_69 rfl rfl ?_
  refine ev_iconst (pc' := 72) (v := 4) dX8_layForm_71 rfl ki_4 ?_
  refine ev_icmp_ge (tgt := 124) (pc' := 75) dX8_layForm_72 rfl rfl (fun _ => ?_) (fun h => absurd (by decide) h)
  refine ev_iinc (pc' := 127) (v := 4) (lv' := [some (.ref 115), some (.int 3), some (.int 2), some (.int 4), some (.int 0), some (.int 4)]) dX8_layForm_124 rfl rfl (by decide) (Nat.le_of_ble_eq_true rfl) rfl rfl ?_
  refine ev_goto (tgt := 32) dX8_layForm_127 rfl ?_
  refine ev_iload_n (pc' := 33) (i := 3) dX8_layForm_32 rfl rfl rfl ?_
  refine ev_iconst (pc' := 34) (v := 4) dX8_layForm_33 rfl ki_4 ?_
  refine ev_icmp_ge (tgt := 130) (pc' := 37) dX8_layForm_34 rfl rfl (fun _ => ?_) (fun h => absurd (by decide) h)
  refine ev_aload_n (pc' := 131) (i := 0) dX8_layForm_130 rfl rfl rfl ?_
  refine ev_getR (pc' := 134) fo_X8_64 dX8_layForm_131 rfl hs_115 rfl rf_115_23 ?_
  refine ev_iconst (pc' := 135) (v := 4) dX8_layForm_134 rfl ki_4 ?_
  refine ev_iload_n (pc' := 136) (i := 2) dX8_layForm_135 rfl rfl rfl ?_
  refine ev_isub (pc' := 137) (v := 2) dX8_layForm_136 rfl (by decide) ?_
  refine ev_dup2 (pc' := 138) dX8_layForm_137 rfl rfl rfl ?_
  refine ev_lald (pc' := 139) (j := 2) (v := 0) dX8_layForm_138 rfl hs_132 rfl (Nat.le_of_ble_eq_true rfl) (Nat.le_of_ble_eq_true rfl) rfl ?_
  refine ev_aload_n (pc' := 140) (i := 0) dX8_layForm_139 rfl rfl rfl ?_
  refine ev_getR (pc' := 143) fo_X8_26 dX8_layForm_140 rfl hs_115 rfl rf_115_8 ?_
  refine ev_callS (pc' := 146) (rm' := rX8_worthOf) (av := [.ref 120]) (rest := [.long 0, .int 2, .ref 132]) co_X8_173 cs_X8_worthOf dX8_layForm_143 rfl rfl rfl (Nat.le_of_ble_eq_true rfl) ⟨(Nat.le_of_ble_eq_true rfl), (Nat.le_of_ble_eq_true rfl)⟩ ⟨(Nat.le_of_ble_eq_true rfl), (Nat.le_of_ble_eq_true rfl)⟩ ?_
  refine t_X8_worthOf 120 hs_120 ?_
  refine ev_eql (w := mW (mSel 3 (I 133) (I 134))) rfl ?_
  refine ev_ladd (pc' := 147) (v := 0 + (mW (mSel 3 (I 133) (I 134)))) dX8_layForm_146 rfl rfl ?_
  refine ev_last (pc' := 148) (j := 2) (L' := (ma_up (ma_up L 132 (ma_up (ma_up (ma_up (ma_up (ma_up (L 132) 0 0) 1 0) 2 (0 + (mW (mSel 3 (I 133) (I 134))))) 3 ((0 + (mW (mSel 1 (I 133) (I 134)))) + (mW (mSel 2 (I 133) (I 134))))) 4 (0 + (mW (mSel 0 (I 133) (I 134)))))) 120 (ma_up (ma_up (ma_up (ma_up (ma_up (ma_up (ma_up (ma_up (ma_up (ma_up (ma_up (ma_up (ma_up (ma_up (ma_up (ma_up r3 0 (Int32.toInt64 ((I 133) 0))) 1 (Int32.toInt64 ((I 133) 1))) 2 (Int32.toInt64 ((I 133) 2))) 3 (Int32.toInt64 ((I 133) 3))) 4 (Int32.toInt64 ((I 133) 4))) 5 (Int32.toInt64 ((I 133) 5))) 6 (Int32.toInt64 ((I 133) 6))) 7 (Int32.toInt64 ((I 133) 7))) 8 (Int32.toInt64 ((I 134) 8))) 9 (Int32.toInt64 ((I 134) 9))) 10 (Int32.toInt64 ((I 134) 10))) 11 (Int32.toInt64 ((I 134) 11))) 12 (Int32.toInt64 ((I 134) 12))) 13 (Int32.toInt64 ((I 134) 13))) 14 (Int32.toInt64 ((I 134) 14))) 15 (Int32.toInt64 ((I 134) 15))))) dX8_layForm_147 rfl hs_132 rfl (Nat.le_of_ble_eq_true rfl) (Nat.le_of_ble_eq_true rfl) ((congrArg (ma_up _ 132) ((ma_up_comm _ (show 2 ≠ 4 from (by decide)) _ _).trans (congrArg (fun f => ma_up f 4 _) ((ma_up_comm _ (show 2 ≠ 3 from (by decide)) _ _).trans (congrArg (fun f => ma_up f 3 _) (ma_up_up _ _ _ _)))))).trans ((ma_up_comm _ (show 132 ≠ 120 from (by decide)) _ _).trans (congrArg (fun f => ma_up f 120 _) (ma_up_up _ _ _ _)))) ?_
  refine ev_iinc (pc' := 151) (v := 4) (lv' := [some (.ref 115), some (.int 4), some (.int 2), some (.int 4), some (.int 0), some (.int 4)]) dX8_layForm_148 rfl rfl (by decide) (Nat.le_of_ble_eq_true rfl) rfl rfl ?_
  refine ev_goto (tgt := 22) dX8_layForm_151 rfl ?_
  refine ev_rowL (fun r4 => ?_)
  refine ev_iload_n (pc' := 23) (i := 1) dX8_layForm_22 rfl rfl rfl ?_
  refine ev_bipush (pc' := 25) (v := 16) dX8_layForm_23 rfl kb_16 ?_
  refine ev_icmp_ge (tgt := 154) (pc' := 28) dX8_layForm_25 rfl rfl (fun h => absurd h (by decide)) (fun _ => ?_)
  refine ev_iconst (pc' := 29) (v := 0) dX8_layForm_28 rfl ki_0 ?_
  refine ev_istore_n (pc' := 30) (i := 2) (lv' := [some (.ref 115), some (.int 4), some (.int 0), some (.int 4), some (.int 0), some (.int 4)]) dX8_layForm_29 rfl rfl (Nat.le_of_ble_eq_true rfl) rfl rfl ?_
  refine ev_iconst (pc' := 31) (v := 0) dX8_layForm_30 rfl ki_0 ?_
  refine ev_istore_n (pc' := 32) (i := 3) (lv' := [some (.ref 115), some (.int 4), some (.int 0), some (.int 0), some (.int 0), some (.int 4)]) dX8_layForm_31 rfl rfl (Nat.le_of_ble_eq_true rfl) rfl rfl ?_
  refine ev_iload_n (pc' := 33) (i := 3) dX8_layForm_32 rfl rfl rfl ?_
  refine ev_iconst (pc' := 34) (v := 4) dX8_layForm_33 rfl ki_4 ?_
  refine ev_icmp_ge (tgt := 130) (pc' := 37) dX8_layForm_34 rfl rfl (fun h => absurd h (by decide)) (fun _ => ?_)
  refine ev_iload_n (pc' := 38) (i := 1) dX8_layForm_37 rfl rfl rfl ?_
  refine ev_iload_n (pc' := 39) (i := 3) dX8_layForm_38 rfl rfl rfl ?_
  refine ev_ishr (pc' := 40) (v := 4) dX8_layForm_39 rfl (by decide) ?_
  refine ev_iconst (pc' := 41) (v := 1) dX8_layForm_40 rfl ki_1 ?_
  refine ev_iand (pc' := 42) (v := 0) dX8_layForm_41 rfl (by decide) ?_
  refine ev_iconst (pc' := 43) (v := 1) dX8_layForm_42 rfl ki_1 ?_
  refine ev_icmp_ne (tgt := 50) (pc' := 46) dX8_layForm_43 rfl rfl (fun _ => ?_) (fun h => absurd h (by decide))
  refine ev_iconst (pc' := 51) (v := 0) dX8_layForm_50 rfl ki_0 ?_
  refine ev_istore (pc' := 53) (lv' := [some (.ref 115), some (.int 4), some (.int 0), some (.int 0), some (.int 0), some (.int 4)]) dX8_layForm_51 rfl (Nat.le_of_ble_eq_true rfl) rfl rfl ?_
  refine ev_iload_n (pc' := 54) (i := 2) dX8_layForm_53 rfl rfl rfl ?_
  refine ev_iload (pc' := 56) dX8_layForm_54 rfl rfl ?_
  refine ev_if_eq (tgt := 63) (pc' := 59) dX8_layForm_56 rfl rfl (fun _ => ?_) (fun h => absurd (by decide) h)
  refine ev_iconst (pc' := 64) (v := 0) dX8_layForm_63 rfl ki_0 ?_
  refine ev_iadd (pc' := 65) (v := 0) dX8_layForm_64 rfl (by decide) ?_
  refine ev_istore_n (pc' := 66) (i := 2) (lv' := [some (.ref 115), some (.int 4), some (.int 0), some (.int 0), some (.int 0), some (.int 4)]) dX8_layForm_65 rfl rfl (Nat.le_of_ble_eq_true rfl) rfl rfl ?_
  refine ev_iconst (pc' := 67) (v := 0) dX8_layForm_66 rfl ki_0 ?_
  refine ev_istore (pc' := 69) (lv' := [some (.ref 115), some (.int 4), some (.int 0), some (.int 0), some (.int 0), some (.int 0)]) dX8_layForm_67 rfl (Nat.le_of_ble_eq_true rfl) rfl rfl ?_
  refine ev_iload (pc' := 71) dX8_layForm_69 rfl rfl ?_
  refine ev_iconst (pc' := 72) (v := 4) dX8_layForm_71 rfl ki_4 ?_
  refine ev_icmp_ge (tgt := 124) (pc' := 75) dX8_layForm_72 rfl rfl (fun h => absurd h (by decide)) (fun _ => ?_)
  refine ev_aload_n (pc' := 76) (i := 0) dX8_layForm_75 rfl rfl rfl ?_
  refine ev_getR (pc' := 79) fo_X8_26 dX8_layForm_76 rfl hs_115 rfl rf_115_8 ?_
  refine ev_iconst (pc' := 80) (v := 4) dX8_layForm_79 rfl ki_4 ?_
  refine ev_iload_n (pc' := 81) (i := 3) dX8_layForm_80 rfl rfl rfl ?_
  refine ev_imul (pc' := 82) (v := 0) dX8_layForm_81 rfl (by decide) ?_
  refine ev_iload (pc' := 84) dX8_layForm_82 rfl rfl ?_
  refine ev_iadd (pc' := 85) (v := 0) dX8_layForm_84 rfl (by decide) ?_
  refine ev_iload (pc' := 87) dX8_layForm_85 rfl rfl ?_
  refine ev_if_eq (tgt := 105) (pc' := 90) dX8_layForm_87 rfl rfl (fun _ => ?_) (fun h => absurd (by decide) h)
  refine ev_aload_n (pc' := 106) (i := 0) dX8_layForm_105 rfl rfl rfl ?_
  refine ev_getR (pc' := 109) fo_X8_70 dX8_layForm_106 rfl hs_115 rfl rf_115_25 ?_
  refine ev_iconst (pc' := 110) (v := 4) dX8_layForm_109 rfl ki_4 ?_
  refine ev_iload_n (pc' := 111) (i := 3) dX8_layForm_110 rfl rfl rfl ?_
  refine ev_imul (pc' := 112) (v := 0) dX8_layForm_111 rfl (by decide) ?_
  refine ev_iload (pc' := 114) dX8_layForm_112 rfl rfl ?_
  refine ev_iadd (pc' := 115) (v := 0) dX8_layForm_114 rfl (by decide) ?_
  refine ev_iald (pc' := 116) (j := 0) (v := (I 134) 0) dX8_layForm_115 rfl hs_134 rfl (Nat.le_of_ble_eq_true rfl) (Nat.le_of_ble_eq_true rfl) rfl ?_
  refine ev_i2l (pc' := 117) (v := Int32.toInt64 ((I 134) 0)) dX8_layForm_116 rfl rfl ?_
  refine ev_last (pc' := 118) (j := 0) (L' := (ma_up (ma_up L 132 (ma_up (ma_up (ma_up (ma_up (ma_up (L 132) 0 0) 1 0) 2 (0 + (mW (mSel 3 (I 133) (I 134))))) 3 ((0 + (mW (mSel 1 (I 133) (I 134)))) + (mW (mSel 2 (I 133) (I 134))))) 4 (0 + (mW (mSel 0 (I 133) (I 134)))))) 120 (ma_up r4 0 (Int32.toInt64 ((I 134) 0))))) dX8_layForm_117 rfl hs_120 rfl (Nat.le_of_ble_eq_true rfl) (Nat.le_of_ble_eq_true rfl) (ma_up_up _ _ _ _) ?_
  refine ev_iinc (pc' := 121) (v := 1) (lv' := [some (.ref 115), some (.int 4), some (.int 0), some (.int 0), some (.int 0), some (.int 1)]) dX8_layForm_118 rfl rfl (by decide) (Nat.le_of_ble_eq_true rfl) rfl rfl ?_
  refine ev_goto (tgt := 69) dX8_layForm_121 rfl ?_
  refine ev_iload (pc' := 71) dX8_layForm_69 rfl rfl ?_
  refine ev_iconst (pc' := 72) (v := 4) dX8_layForm_71 rfl ki_4 ?_
  refine ev_icmp_ge (tgt := 124) (pc' := 75) dX8_layForm_72 rfl rfl (fun h => absurd h (by decide)) (fun _ => ?_)
  refine ev_aload_n (pc' := 76) (i := 0) dX8_layForm_75 rfl rfl rfl ?_
  refine ev_getR (pc' := 79) fo_X8_26 dX8_layForm_76 rfl hs_115 rfl rf_115_8 ?_
  refine ev_iconst (pc' := 80) (v := 4) dX8_layForm_79 rfl ki_4 ?_
  refine ev_iload_n (pc' := 81) (i := 3) dX8_layForm_80 rfl rfl rfl ?_
  refine ev_imul (pc' := 82) (v := 0) dX8_layForm_81 rfl (by decide) ?_
  refine ev_iload (pc' := 84) dX8_layForm_82 rfl rfl ?_
  refine ev_iadd (pc' := 85) (v := 1) dX8_layForm_84 rfl (by decide) ?_
  refine ev_iload (pc' := 87) dX8_layForm_85 rfl rfl ?_
  refine ev_if_eq (tgt := 105) (pc' := 90) dX8_layForm_87 rfl rfl (fun _ => ?_) (fun h => absurd (by decide) h)
  refine ev_aload_n (pc' := 106) (i := 0) dX8_layForm_105 rfl rfl rfl ?_
  refine ev_getR (pc' := 109) fo_X8_70 dX8_layForm_106 rfl hs_115 rfl rf_115_25 ?_
  refine ev_iconst (pc' := 110) (v := 4) dX8_layForm_109 rfl ki_4 ?_
  refine ev_iload_n (pc' := 111) (i := 3) dX8_layForm_110 rfl rfl rfl ?_
  refine ev_imul (pc' := 112) (v := 0) dX8_layForm_111 rfl (by decide) ?_
  refine ev_iload (pc' := 114) dX8_layForm_112 rfl rfl ?_
  refine ev_iadd (pc' := 115) (v := 1) dX8_layForm_114 rfl (by decide) ?_
  refine ev_iald (pc' := 116) (j := 1) (v := (I 134) 1) dX8_layForm_115 rfl hs_134 rfl (Nat.le_of_ble_eq_true rfl) (Nat.le_of_ble_eq_true rfl) rfl ?_
  refine ev_i2l (pc' := 117) (v := Int32.toInt64 ((I 134) 1)) dX8_layForm_116 rfl rfl ?_
  refine ev_last (pc' := 118) (j := 1) (L' := (ma_up (ma_up L 132 (ma_up (ma_up (ma_up (ma_up (ma_up (L 132) 0 0) 1 0) 2 (0 + (mW (mSel 3 (I 133) (I 134))))) 3 ((0 + (mW (mSel 1 (I 133) (I 134)))) + (mW (mSel 2 (I 133) (I 134))))) 4 (0 + (mW (mSel 0 (I 133) (I 134)))))) 120 (ma_up (ma_up r4 0 (Int32.toInt64 ((I 134) 0))) 1 (Int32.toInt64 ((I 134) 1))))) dX8_layForm_117 rfl hs_120 rfl (Nat.le_of_ble_eq_true rfl) (Nat.le_of_ble_eq_true rfl) (ma_up_up _ _ _ _) ?_
  refine ev_iinc (pc' := 121) (v := 2) (lv' := [some (.ref 115), some (.int 4), some (.int 0), some (.int 0), some (.int 0), some (.int 2)]) dX8_layForm_118 rfl rfl (by decide) (Nat.le_of_ble_eq_true rfl) rfl rfl ?_
  refine ev_goto (tgt := 69) dX8_layForm_121 rfl ?_
  refine ev_iload (pc' := 71) dX8_layForm_69 rfl rfl ?_
  refine ev_iconst (pc' := 72) (v := 4) dX8_layForm_71 rfl ki_4 ?_
  refine ev_icmp_ge (tgt := 124) (pc' := 75) dX8_layForm_72 rfl rfl (fun h => absurd h (by decide)) (fun _ => ?_)
  refine ev_aload_n (pc' := 76) (i := 0) dX8_layForm_75 rfl rfl rfl ?_
  refine ev_getR (pc' := 79) fo_X8_26 dX8_layForm_76 rfl hs_115 rfl rf_115_8 ?_
  refine ev_iconst (pc' := 80) (v := 4) dX8_layForm_79 rfl ki_4 ?_
  refine ev_iload_n (pc' := 81) (i := 3) dX8_layForm_80 rfl rfl rfl ?_
  refine ev_imul (pc' := 82) (v := 0) dX8_layForm_81 rfl (by decide) ?_
  refine ev_iload (pc' := 84) dX8_layForm_82 rfl rfl ?_
  refine ev_iadd (pc' := 85) (v := 2) dX8_layForm_84 rfl (by decide) ?_
  refine ev_iload (pc' := 87) dX8_layForm_85 rfl rfl ?_
  refine ev_if_eq (tgt := 105) (pc' := 90) dX8_layForm_87 rfl rfl (fun _ => ?_) (fun h => absurd (by decide) h)
  refine ev_aload_n (pc' := 106) (i := 0) dX8_layForm_105 rfl rfl rfl ?_
  refine ev_getR (pc' := 109) fo_X8_70 dX8_layForm_106 rfl hs_115 rfl rf_115_25 ?_
  refine ev_iconst (pc' := 110) (v := 4) dX8_layForm_109 rfl ki_4 ?_
  refine ev_iload_n (pc' := 111) (i := 3) dX8_layForm_110 rfl rfl rfl ?_
  refine ev_imul (pc' := 112) (v := 0) dX8_layForm_111 rfl (by decide) ?_
  refine ev_iload (pc' := 114) dX8_layForm_112 rfl rfl ?_
  refine ev_iadd (pc' := 115) (v := 2) dX8_layForm_114 rfl (by decide) ?_
  refine ev_iald (pc' := 116) (j := 2) (v := (I 134) 2) dX8_layForm_115 rfl hs_134 rfl (Nat.le_of_ble_eq_true rfl) (Nat.le_of_ble_eq_true rfl) rfl ?_
  refine ev_i2l (pc' := 117) (v := Int32.toInt64 ((I 134) 2)) dX8_layForm_116 rfl rfl ?_
  refine ev_last (pc' := 118) (j := 2) (L' := (ma_up (ma_up L 132 (ma_up (ma_up (ma_up (ma_up (ma_up (L 132) 0 0) 1 0) 2 (0 + (mW (mSel 3 (I 133) (I 134))))) 3 ((0 + (mW (mSel 1 (I 133) (I 134)))) + (mW (mSel 2 (I 133) (I 134))))) 4 (0 + (mW (mSel 0 (I 133) (I 134)))))) 120 (ma_up (ma_up (ma_up r4 0 (Int32.toInt64 ((I 134) 0))) 1 (Int32.toInt64 ((I 134) 1))) 2 (Int32.toInt64 ((I 134) 2))))) dX8_layForm_117 rfl hs_120 rfl (Nat.le_of_ble_eq_true rfl) (Nat.le_of_ble_eq_true rfl) (ma_up_up _ _ _ _) ?_
  refine ev_iinc (pc' := 121) (v := 3) (lv' := [some (.ref 115), some (.int 4), some (.int 0), some (.int 0), some (.int 0), some (.int 3)]) dX8_layForm_118 rfl rfl (by decide) (Nat.le_of_ble_eq_true rfl) rfl rfl ?_
  refine ev_goto (tgt := 69) dX8_layForm_121 rfl ?_
  refine ev_iload (pc' := 71) dX8_layForm_69 rfl rfl ?_
  refine ev_iconst (pc' := 72) (v := 4) dX8_layForm_71 rfl ki_4 ?_
  refine ev_icmp_ge (tgt := 124) (pc' := 75) dX8_layForm_72 rfl rfl (fun h => absurd h (by decide)) (fun _ => ?_)
  refine ev_aload_n (pc' := 76) (i := 0) dX8_layForm_75 rfl rfl rfl ?_
  refine ev_getR (pc' := 79) fo_X8_26 dX8_layForm_76 rfl hs_115 rfl rf_115_8 ?_
  refine ev_iconst (pc' := 80) (v := 4) dX8_layForm_79 rfl ki_4 ?_
  refine ev_iload_n (pc' := 81) (i := 3) dX8_layForm_80 rfl rfl rfl ?_
  refine ev_imul (pc' := 82) (v := 0) dX8_layForm_81 rfl (by decide) ?_
  refine ev_iload (pc' := 84) dX8_layForm_82 rfl rfl ?_
  refine ev_iadd (pc' := 85) (v := 3) dX8_layForm_84 rfl (by decide) ?_
  refine ev_iload (pc' := 87) dX8_layForm_85 rfl rfl ?_
  refine ev_if_eq (tgt := 105) (pc' := 90) dX8_layForm_87 rfl rfl (fun _ => ?_) (fun h => absurd (by decide) h)
  refine ev_aload_n (pc' := 106) (i := 0) dX8_layForm_105 rfl rfl rfl ?_
  refine ev_getR (pc' := 109) fo_X8_70 dX8_layForm_106 rfl hs_115 rfl rf_115_25 ?_
  refine ev_iconst (pc' := 110) (v := 4) dX8_layForm_109 rfl ki_4 ?_
  refine ev_iload_n (pc' := 111) (i := 3) dX8_layForm_110 rfl rfl rfl ?_
  refine ev_imul (pc' := 112) (v := 0) dX8_layForm_111 rfl (by decide) ?_
  refine ev_iload (pc' := 114) dX8_layForm_112 rfl rfl ?_
  refine ev_iadd (pc' := 115) (v := 3) dX8_layForm_114 rfl (by decide) ?_
  refine ev_iald (pc' := 116) (j := 3) (v := (I 134) 3) dX8_layForm_115 rfl hs_134 rfl (Nat.le_of_ble_eq_true rfl) (Nat.le_of_ble_eq_true rfl) rfl ?_
  refine ev_i2l (pc' := 117) (v := Int32.toInt64 ((I 134) 3)) dX8_layForm_116 rfl rfl ?_
  refine ev_last (pc' := 118) (j := 3) (L' := (ma_up (ma_up L 132 (ma_up (ma_up (ma_up (ma_up (ma_up (L 132) 0 0) 1 0) 2 (0 + (mW (mSel 3 (I 133) (I 134))))) 3 ((0 + (mW (mSel 1 (I 133) (I 134)))) + (mW (mSel 2 (I 133) (I 134))))) 4 (0 + (mW (mSel 0 (I 133) (I 134)))))) 120 (ma_up (ma_up (ma_up (ma_up r4 0 (Int32.toInt64 ((I 134) 0))) 1 (Int32.toInt64 ((I 134) 1))) 2 (Int32.toInt64 ((I 134) 2))) 3 (Int32.toInt64 ((I 134) 3))))) dX8_layForm_117 rfl hs_120 rfl (Nat.le_of_ble_eq_true rfl) (Nat.le_of_ble_eq_true rfl) (ma_up_up _ _ _ _) ?_
  refine ev_iinc (pc' := 121) (v := 4) (lv' := [some (.ref 115), some (.int 4), some (.int 0), some (.int 0), some (.int 0), some (.int 4)]) dX8_layForm_118 rfl rfl (by decide) (Nat.le_of_ble_eq_true rfl) rfl rfl ?_
  refine ev_goto (tgt := 69) dX8_layForm_121 rfl ?_
  refine ev_iload (pc' := 71) dX8_layForm_69 rfl rfl ?_
  refine ev_iconst (pc' := 72) (v := 4) dX8_layForm_71 rfl ki_4 ?_
  refine ev_icmp_ge (tgt := 124) (pc' := 75) dX8_layForm_72 rfl rfl (fun _ => ?_) (fun h => absurd (by decide) h)
  refine ev_iinc (pc' := 127) (v := 1) (lv' := [some (.ref 115), some (.int 4), some (.int 0), some (.int 1), some (.int 0), some (.int 4)]) dX8_layForm_124 rfl rfl (by decide) (Nat.le_of_ble_eq_true rfl) rfl rfl ?_
  refine ev_goto (tgt := 32) dX8_layForm_127 rfl ?_
  refine ev_iload_n (pc' := 33) (i := 3) dX8_layForm_32 rfl rfl rfl ?_
  refine ev_iconst (pc' := 34) (v := 4) dX8_layForm_33 rfl ki_4 ?_
  refine ev_icmp_ge (tgt := 130) (pc' := 37) dX8_layForm_34 rfl rfl (fun h => absurd h (by decide)) (fun _ => ?_)
  refine ev_iload_n (pc' := 38) (i := 1) dX8_layForm_37 rfl rfl rfl ?_
  refine ev_iload_n (pc' := 39) (i := 3) dX8_layForm_38 rfl rfl rfl ?_
  refine ev_ishr (pc' := 40) (v := 2) dX8_layForm_39 rfl (by decide) ?_
  refine ev_iconst (pc' := 41) (v := 1) dX8_layForm_40 rfl ki_1 ?_
  refine ev_iand (pc' := 42) (v := 0) dX8_layForm_41 rfl (by decide) ?_
  refine ev_iconst (pc' := 43) (v := 1) dX8_layForm_42 rfl ki_1 ?_
  refine ev_icmp_ne (tgt := 50) (pc' := 46) dX8_layForm_43 rfl rfl (fun _ => ?_) (fun h => absurd h (by decide))
  refine ev_iconst (pc' := 51) (v := 0) dX8_layForm_50 rfl ki_0 ?_
  refine ev_istore (pc' := 53) (lv' := [some (.ref 115), some (.int 4), some (.int 0), some (.int 1), some (.int 0), some (.int 4)]) dX8_layForm_51 rfl (Nat.le_of_ble_eq_true rfl) rfl rfl ?_
  refine ev_iload_n (pc' := 54) (i := 2) dX8_layForm_53 rfl rfl rfl ?_
  refine ev_iload (pc' := 56) dX8_layForm_54 rfl rfl ?_
  refine ev_if_eq (tgt := 63) (pc' := 59) dX8_layForm_56 rfl rfl (fun _ => ?_) (fun h => absurd (by decide) h)
  refine ev_iconst (pc' := 64) (v := 0) dX8_layForm_63 rfl ki_0 ?_
  refine ev_iadd (pc' := 65) (v := 0) dX8_layForm_64 rfl (by decide) ?_
  refine ev_istore_n (pc' := 66) (i := 2) (lv' := [some (.ref 115), some (.int 4), some (.int 0), some (.int 1), some (.int 0), some (.int 4)]) dX8_layForm_65 rfl rfl (Nat.le_of_ble_eq_true rfl) rfl rfl ?_
  refine ev_iconst (pc' := 67) (v := 0) dX8_layForm_66 rfl ki_0 ?_
  refine ev_istore (pc' := 69) (lv' := [some (.ref 115), some (.int 4), some (.int 0), some (.int 1), some (.int 0), some (.int 0)]) dX8_layForm_67 rfl (Nat.le_of_ble_eq_true rfl) rfl rfl ?_
  refine ev_iload (pc' := 71) dX8_layForm_69 rfl rfl ?_
  refine ev_iconst (pc' := 72) (v := 4) dX8_layForm_71 rfl ki_4 ?_
  refine ev_icmp_ge (tgt := 124) (pc' := 75) dX8_layForm_72 rfl rfl (fun h => absurd h (by decide)) (fun _ => ?_)
  refine ev_aload_n (pc' := 76) (i := 0) dX8_layForm_75 rfl rfl rfl ?_
  refine ev_getR (pc' := 79) fo_X8_26 dX8_layForm_76 rfl hs_115 rfl rf_115_8 ?_
  refine ev_iconst (pc' := 80) (v := 4) dX8_layForm_79 rfl ki_4 ?_
  refine ev_iload_n (pc' := 81) (i := 3) dX8_layForm_80 rfl rfl rfl ?_
  refine ev_imul (pc' := 82) (v := 4) dX8_layForm_81 rfl (by decide) ?_
  refine ev_iload (pc' := 84) dX8_layForm_82 rfl rfl ?_
  refine ev_iadd (pc' := 85) (v := 4) dX8_layForm_84 rfl (by decide) ?_
  refine ev_iload (pc' := 87) dX8_layForm_85 rfl rfl ?_
  refine ev_if_eq (tgt := 105) (pc' := 90) dX8_layForm_87 rfl rfl (fun _ => ?_) (fun h => absurd (by decide) h)
  refine ev_aload_n (pc' := 106) (i := 0) dX8_layForm_105 rfl rfl rfl ?_
  refine ev_getR (pc' := 109) fo_X8_70 dX8_layForm_106 rfl hs_115 rfl rf_115_25 ?_
  refine ev_iconst (pc' := 110) (v := 4) dX8_layForm_109 rfl ki_4 ?_
  refine ev_iload_n (pc' := 111) (i := 3) dX8_layForm_110 rfl rfl rfl ?_
  refine ev_imul (pc' := 112) (v := 4) dX8_layForm_111 rfl (by decide) ?_
  refine ev_iload (pc' := 114) dX8_layForm_112 rfl rfl ?_
  refine ev_iadd (pc' := 115) (v := 4) dX8_layForm_114 rfl (by decide) ?_
  refine ev_iald (pc' := 116) (j := 4) (v := (I 134) 4) dX8_layForm_115 rfl hs_134 rfl (Nat.le_of_ble_eq_true rfl) (Nat.le_of_ble_eq_true rfl) rfl ?_
  refine ev_i2l (pc' := 117) (v := Int32.toInt64 ((I 134) 4)) dX8_layForm_116 rfl rfl ?_
  refine ev_last (pc' := 118) (j := 4) (L' := (ma_up (ma_up L 132 (ma_up (ma_up (ma_up (ma_up (ma_up (L 132) 0 0) 1 0) 2 (0 + (mW (mSel 3 (I 133) (I 134))))) 3 ((0 + (mW (mSel 1 (I 133) (I 134)))) + (mW (mSel 2 (I 133) (I 134))))) 4 (0 + (mW (mSel 0 (I 133) (I 134)))))) 120 (ma_up (ma_up (ma_up (ma_up (ma_up r4 0 (Int32.toInt64 ((I 134) 0))) 1 (Int32.toInt64 ((I 134) 1))) 2 (Int32.toInt64 ((I 134) 2))) 3 (Int32.toInt64 ((I 134) 3))) 4 (Int32.toInt64 ((I 134) 4))))) dX8_layForm_117 rfl hs_120 rfl (Nat.le_of_ble_eq_true rfl) (Nat.le_of_ble_eq_true rfl) (ma_up_up _ _ _ _) ?_
  refine ev_iinc (pc' := 121) (v := 1) (lv' := [some (.ref 115), some (.int 4), some (.int 0), some (.int 1), some (.int 0), some (.int 1)]) dX8_layForm_118 rfl rfl (by decide) (Nat.le_of_ble_eq_true rfl) rfl rfl ?_
  refine ev_goto (tgt := 69) dX8_layForm_121 rfl ?_
  refine ev_iload (pc' := 71) dX8_layForm_69 rfl rfl ?_
  refine ev_iconst (pc' := 72) (v := 4) dX8_layForm_71 rfl ki_4 ?_
  refine ev_icmp_ge (tgt := 124) (pc' := 75) dX8_layForm_72 rfl rfl (fun h => absurd h (by decide)) (fun _ => ?_)
  refine ev_aload_n (pc' := 76) (i := 0) dX8_layForm_75 rfl rfl rfl ?_
  refine ev_getR (pc' := 79) fo_X8_26 dX8_layForm_76 rfl hs_115 rfl rf_115_8 ?_
  refine ev_iconst (pc' := 80) (v := 4) dX8_layForm_79 rfl ki_4 ?_
  refine ev_iload_n (pc' := 81) (i := 3) dX8_layForm_80 rfl rfl rfl ?_
  refine ev_imul (pc' := 82) (v := 4) dX8_layForm_81 rfl (by decide) ?_
  refine ev_iload (pc' := 84) dX8_layForm_82 rfl rfl ?_
  refine ev_iadd (pc' := 85) (v := 5) dX8_layForm_84 rfl (by decide) ?_
  refine ev_iload (pc' := 87) dX8_layForm_85 rfl rfl ?_
  refine ev_if_eq (tgt := 105) (pc' := 90) dX8_layForm_87 rfl rfl (fun _ => ?_) (fun h => absurd (by decide) h)
  refine ev_aload_n (pc' := 106) (i := 0) dX8_layForm_105 rfl rfl rfl ?_
  refine ev_getR (pc' := 109) fo_X8_70 dX8_layForm_106 rfl hs_115 rfl rf_115_25 ?_
  refine ev_iconst (pc' := 110) (v := 4) dX8_layForm_109 rfl ki_4 ?_
  refine ev_iload_n (pc' := 111) (i := 3) dX8_layForm_110 rfl rfl rfl ?_
  refine ev_imul (pc' := 112) (v := 4) dX8_layForm_111 rfl (by decide) ?_
  refine ev_iload (pc' := 114) dX8_layForm_112 rfl rfl ?_
  refine ev_iadd (pc' := 115) (v := 5) dX8_layForm_114 rfl (by decide) ?_
  refine ev_iald (pc' := 116) (j := 5) (v := (I 134) 5) dX8_layForm_115 rfl hs_134 rfl (Nat.le_of_ble_eq_true rfl) (Nat.le_of_ble_eq_true rfl) rfl ?_
  refine ev_i2l (pc' := 117) (v := Int32.toInt64 ((I 134) 5)) dX8_layForm_116 rfl rfl ?_
  refine ev_last (pc' := 118) (j := 5) (L' := (ma_up (ma_up L 132 (ma_up (ma_up (ma_up (ma_up (ma_up (L 132) 0 0) 1 0) 2 (0 + (mW (mSel 3 (I 133) (I 134))))) 3 ((0 + (mW (mSel 1 (I 133) (I 134)))) + (mW (mSel 2 (I 133) (I 134))))) 4 (0 + (mW (mSel 0 (I 133) (I 134)))))) 120 (ma_up (ma_up (ma_up (ma_up (ma_up (ma_up r4 0 (Int32.toInt64 ((I 134) 0))) 1 (Int32.toInt64 ((I 134) 1))) 2 (Int32.toInt64 ((I 134) 2))) 3 (Int32.toInt64 ((I 134) 3))) 4 (Int32.toInt64 ((I 134) 4))) 5 (Int32.toInt64 ((I 134) 5))))) dX8_layForm_117 rfl hs_120 rfl (Nat.le_of_ble_eq_true rfl) (Nat.le_of_ble_eq_true rfl) (ma_up_up _ _ _ _) ?_
  refine ev_iinc (pc' := 121) (v := 2) (lv' := [some (.ref 115), some (.int 4), some (.int 0), some (.int 1), some (.int 0), some (.int 2)]) dX8_layForm_118 rfl rfl (by decide) (Nat.le_of_ble_eq_true rfl) rfl rfl ?_
  refine ev_goto (tgt := 69) dX8_layForm_121 rfl ?_
  refine ev_iload (pc' := 71) dX8_layForm_69 rfl rfl ?_
  refine ev_iconst (pc' := 72) (v := 4) dX8_layForm_71 rfl ki_4 ?_
  refine ev_icmp_ge (tgt := 124) (pc' := 75) dX8_layForm_72 rfl rfl (fun h => absurd h (by decide)) (fun _ => ?_)
  refine ev_aload_n (pc' := 76) (i := 0) dX8_layForm_75 rfl rfl rfl ?_
  refine ev_getR (pc' := 79) fo_X8_26 dX8_layForm_76 rfl hs_115 rfl rf_115_8 ?_
  refine ev_iconst (pc' := 80) (v := 4) dX8_layForm_79 rfl ki_4 ?_
  refine ev_iload_n (pc' := 81) (i := 3) dX8_layForm_80 rfl rfl rfl ?_
  refine ev_imul (pc' := 82) (v := 4) dX8_layForm_81 rfl (by decide) ?_
  refine ev_iload (pc' := 84) dX8_layForm_82 rfl rfl ?_
  refine ev_iadd (pc' := 85) (v := 6) dX8_layForm_84 rfl (by decide) ?_
  refine ev_iload (pc' := 87) dX8_layForm_85 rfl rfl ?_
  refine ev_if_eq (tgt := 105) (pc' := 90) dX8_layForm_87 rfl rfl (fun _ => ?_) (fun h => absurd (by decide) h)
  refine ev_aload_n (pc' := 106) (i := 0) dX8_layForm_105 rfl rfl rfl ?_
  refine ev_getR (pc' := 109) fo_X8_70 dX8_layForm_106 rfl hs_115 rfl rf_115_25 ?_
  refine ev_iconst (pc' := 110) (v := 4) dX8_layForm_109 rfl ki_4 ?_
  refine ev_iload_n (pc' := 111) (i := 3) dX8_layForm_110 rfl rfl rfl ?_
  refine ev_imul (pc' := 112) (v := 4) dX8_layForm_111 rfl (by decide) ?_
  refine ev_iload (pc' := 114) dX8_layForm_112 rfl rfl ?_
  refine ev_iadd (pc' := 115) (v := 6) dX8_layForm_114 rfl (by decide) ?_
  refine ev_iald (pc' := 116) (j := 6) (v := (I 134) 6) dX8_layForm_115 rfl hs_134 rfl (Nat.le_of_ble_eq_true rfl) (Nat.le_of_ble_eq_true rfl) rfl ?_
  refine ev_i2l (pc' := 117) (v := Int32.toInt64 ((I 134) 6)) dX8_layForm_116 rfl rfl ?_
  refine ev_last (pc' := 118) (j := 6) (L' := (ma_up (ma_up L 132 (ma_up (ma_up (ma_up (ma_up (ma_up (L 132) 0 0) 1 0) 2 (0 + (mW (mSel 3 (I 133) (I 134))))) 3 ((0 + (mW (mSel 1 (I 133) (I 134)))) + (mW (mSel 2 (I 133) (I 134))))) 4 (0 + (mW (mSel 0 (I 133) (I 134)))))) 120 (ma_up (ma_up (ma_up (ma_up (ma_up (ma_up (ma_up r4 0 (Int32.toInt64 ((I 134) 0))) 1 (Int32.toInt64 ((I 134) 1))) 2 (Int32.toInt64 ((I 134) 2))) 3 (Int32.toInt64 ((I 134) 3))) 4 (Int32.toInt64 ((I 134) 4))) 5 (Int32.toInt64 ((I 134) 5))) 6 (Int32.toInt64 ((I 134) 6))))) dX8_layForm_117 rfl hs_120 rfl (Nat.le_of_ble_eq_true rfl) (Nat.le_of_ble_eq_true rfl) (ma_up_up _ _ _ _) ?_
  refine ev_iinc (pc' := 121) (v := 3) (lv' := [some (.ref 115), some (.int 4), some (.int 0), some (.int 1), some (.int 0), some (.int 3)]) dX8_layForm_118 rfl rfl (by decide) (Nat.le_of_ble_eq_true rfl) rfl rfl ?_
  refine ev_goto (tgt := 69) dX8_layForm_121 rfl ?_
  refine ev_iload (pc' := 71) dX8_layForm_69 rfl rfl ?_
  refine ev_iconst (pc' := 72) (v := 4) dX8_layForm_71 rfl ki_4 ?_
  refine ev_icmp_ge (tgt := 124) (pc' := 75) dX8_layForm_72 rfl rfl (fun h => absurd h (by decide)) (fun _ => ?_)
  refine ev_aload_n (pc' := 76) (i := 0) dX8_layForm_75 rfl rfl rfl ?_
  refine ev_getR (pc' := 79) fo_X8_26 dX8_layForm_76 rfl hs_115 rfl rf_115_8 ?_
  refine ev_iconst (pc' := 80) (v := 4) dX8_layForm_79 rfl ki_4 ?_
  refine ev_iload_n (pc' := 81) (i := 3) dX8_layForm_80 rfl rfl rfl ?_
  refine ev_imul (pc' := 82) (v := 4) dX8_layForm_81 rfl (by decide) ?_
  refine ev_iload (pc' := 84) dX8_layForm_82 rfl rfl ?_
  refine ev_iadd (pc' := 85) (v := 7) dX8_layForm_84 rfl (by decide) ?_
  refine ev_iload (pc' := 87) dX8_layForm_85 rfl rfl ?_
  refine ev_if_eq (tgt := 105) (pc' := 90) dX8_layForm_87 rfl rfl (fun _ => ?_) (fun h => absurd (by decide) h)
  refine ev_aload_n (pc' := 106) (i := 0) dX8_layForm_105 rfl rfl rfl ?_
  refine ev_getR (pc' := 109) fo_X8_70 dX8_layForm_106 rfl hs_115 rfl rf_115_25 ?_
  refine ev_iconst (pc' := 110) (v := 4) dX8_layForm_109 rfl ki_4 ?_
  refine ev_iload_n (pc' := 111) (i := 3) dX8_layForm_110 rfl rfl rfl ?_
  refine ev_imul (pc' := 112) (v := 4) dX8_layForm_111 rfl (by decide) ?_
  refine ev_iload (pc' := 114) dX8_layForm_112 rfl rfl ?_
  refine ev_iadd (pc' := 115) (v := 7) dX8_layForm_114 rfl (by decide) ?_
  refine ev_iald (pc' := 116) (j := 7) (v := (I 134) 7) dX8_layForm_115 rfl hs_134 rfl (Nat.le_of_ble_eq_true rfl) (Nat.le_of_ble_eq_true rfl) rfl ?_
  refine ev_i2l (pc' := 117) (v := Int32.toInt64 ((I 134) 7)) dX8_layForm_116 rfl rfl ?_
  refine ev_last (pc' := 118) (j := 7) (L' := (ma_up (ma_up L 132 (ma_up (ma_up (ma_up (ma_up (ma_up (L 132) 0 0) 1 0) 2 (0 + (mW (mSel 3 (I 133) (I 134))))) 3 ((0 + (mW (mSel 1 (I 133) (I 134)))) + (mW (mSel 2 (I 133) (I 134))))) 4 (0 + (mW (mSel 0 (I 133) (I 134)))))) 120 (ma_up (ma_up (ma_up (ma_up (ma_up (ma_up (ma_up (ma_up r4 0 (Int32.toInt64 ((I 134) 0))) 1 (Int32.toInt64 ((I 134) 1))) 2 (Int32.toInt64 ((I 134) 2))) 3 (Int32.toInt64 ((I 134) 3))) 4 (Int32.toInt64 ((I 134) 4))) 5 (Int32.toInt64 ((I 134) 5))) 6 (Int32.toInt64 ((I 134) 6))) 7 (Int32.toInt64 ((I 134) 7))))) dX8_layForm_117 rfl hs_120 rfl (Nat.le_of_ble_eq_true rfl) (Nat.le_of_ble_eq_true rfl) (ma_up_up _ _ _ _) ?_
  refine ev_iinc (pc' := 121) (v := 4) (lv' := [some (.ref 115), some (.int 4), some (.int 0), some (.int 1), some (.int 0), some (.int 4)]) dX8_layForm_118 rfl rfl (by decide) (Nat.le_of_ble_eq_true rfl) rfl rfl ?_
  refine ev_goto (tgt := 69) dX8_layForm_121 rfl ?_
  refine ev_iload (pc' := 71) dX8_layForm_69 rfl rfl ?_
  refine ev_iconst (pc' := 72) (v := 4) dX8_layForm_71 rfl ki_4 ?_
  refine ev_icmp_ge (tgt := 124) (pc' := 75) dX8_layForm_72 rfl rfl (fun _ => ?_) (fun h => absurd (by decide) h)
  refine ev_iinc (pc' := 127) (v := 2) (lv' := [some (.ref 115), some (.int 4), some (.int 0), some (.int 2), some (.int 0), some (.int 4)]) dX8_layForm_124 rfl rfl (by decide) (Nat.le_of_ble_eq_true rfl) rfl rfl ?_
  refine ev_goto (tgt := 32) dX8_layForm_127 rfl ?_
  refine ev_iload_n (pc' := 33) (i := 3) dX8_layForm_32 rfl rfl rfl ?_
  refine ev_iconst (pc' := 34) (v := 4) dX8_layForm_33 rfl ki_4 ?_
  refine ev_icmp_ge (tgt := 130) (pc' := 37) dX8_layForm_34 rfl rfl (fun h => absurd h (by decide)) (fun _ => ?_)
  refine ev_iload_n (pc' := 38) (i := 1) dX8_layForm_37 rfl rfl rfl ?_
  refine ev_iload_n (pc' := 39) (i := 3) dX8_layForm_38 rfl rfl rfl ?_
  refine ev_ishr (pc' := 40) (v := 1) dX8_layForm_39 rfl (by decide) ?_
  refine ev_iconst (pc' := 41) (v := 1) dX8_layForm_40 rfl ki_1 ?_
  refine ev_iand (pc' := 42) (v := 1) dX8_layForm_41 rfl (by decide) ?_
  refine ev_iconst (pc' := 43) (v := 1) dX8_layForm_42 rfl ki_1 ?_
  refine ev_icmp_ne (tgt := 50) (pc' := 46) dX8_layForm_43 rfl rfl (fun h => absurd (by decide) h) (fun _ => ?_)
  refine ev_iconst (pc' := 47) (v := 1) dX8_layForm_46 rfl ki_1 ?_
  refine ev_goto (tgt := 51) dX8_layForm_47 rfl ?_
  refine ev_istore (pc' := 53) (lv' := [some (.ref 115), some (.int 4), some (.int 0), some (.int 2), some (.int 1), some (.int 4)]) dX8_layForm_51 rfl (Nat.le_of_ble_eq_true rfl) rfl rfl ?_
  refine ev_iload_n (pc' := 54) (i := 2) dX8_layForm_53 rfl rfl rfl ?_
  refine ev_iload (pc' := 56) dX8_layForm_54 rfl rfl ?_
  refine ev_if_eq (tgt := 63) (pc' := 59) dX8_layForm_56 rfl rfl (fun h => absurd h (by decide)) (fun _ => ?_)
  refine ev_iconst (pc' := 60) (v := 1) dX8_layForm_59 rfl ki_1 ?_
  refine ev_goto (tgt := 64) dX8_layForm_60 rfl ?_
  refine ev_iadd (pc' := 65) (v := 1) dX8_layForm_64 rfl (by decide) ?_
  refine ev_istore_n (pc' := 66) (i := 2) (lv' := [some (.ref 115), some (.int 4), some (.int 1), some (.int 2), some (.int 1), some (.int 4)]) dX8_layForm_65 rfl rfl (Nat.le_of_ble_eq_true rfl) rfl rfl ?_
  refine ev_iconst (pc' := 67) (v := 0) dX8_layForm_66 rfl ki_0 ?_
  refine ev_istore (pc' := 69) (lv' := [some (.ref 115), some (.int 4), some (.int 1), some (.int 2), some (.int 1), some (.int 0)]) dX8_layForm_67 rfl (Nat.le_of_ble_eq_true rfl) rfl rfl ?_
  refine ev_iload (pc' := 71) dX8_layForm_69 rfl rfl ?_
  refine ev_iconst (pc' := 72) (v := 4) dX8_layForm_71 rfl ki_4 ?_
  refine ev_icmp_ge (tgt := 124) (pc' := 75) dX8_layForm_72 rfl rfl (fun h => absurd h (by decide)) (fun _ => ?_)
  refine ev_aload_n (pc' := 76) (i := 0) dX8_layForm_75 rfl rfl rfl ?_
  refine ev_getR (pc' := 79) fo_X8_26 dX8_layForm_76 rfl hs_115 rfl rf_115_8 ?_
  refine ev_iconst (pc' := 80) (v := 4) dX8_layForm_79 rfl ki_4 ?_
  refine ev_iload_n (pc' := 81) (i := 3) dX8_layForm_80 rfl rfl rfl ?_
  refine ev_imul (pc' := 82) (v := 8) dX8_layForm_81 rfl (by decide) ?_
  refine ev_iload (pc' := 84) dX8_layForm_82 rfl rfl ?_
  refine ev_iadd (pc' := 85) (v := 8) dX8_layForm_84 rfl (by decide) ?_
  refine ev_iload (pc' := 87) dX8_layForm_85 rfl rfl ?_
  refine ev_if_eq (tgt := 105) (pc' := 90) dX8_layForm_87 rfl rfl (fun h => absurd h (by decide)) (fun _ => ?_)
  refine ev_aload_n (pc' := 91) (i := 0) dX8_layForm_90 rfl rfl rfl ?_
  refine ev_getR (pc' := 94) fo_X8_67 dX8_layForm_91 rfl hs_115 rfl rf_115_24 ?_
  refine ev_iconst (pc' := 95) (v := 4) dX8_layForm_94 rfl ki_4 ?_
  refine ev_iload_n (pc' := 96) (i := 3) dX8_layForm_95 rfl rfl rfl ?_
  refine ev_imul (pc' := 97) (v := 8) dX8_layForm_96 rfl (by decide) ?_
  refine ev_iload (pc' := 99) dX8_layForm_97 rfl rfl ?_
  refine ev_iadd (pc' := 100) (v := 8) dX8_layForm_99 rfl (by decide) ?_
  refine ev_iald (pc' := 101) (j := 8) (v := (I 133) 8) dX8_layForm_100 rfl hs_133 rfl (Nat.le_of_ble_eq_true rfl) (Nat.le_of_ble_eq_true rfl) rfl ?_
  refine ev_i2l (pc' := 102) (v := Int32.toInt64 ((I 133) 8)) dX8_layForm_101 rfl rfl ?_
  refine ev_goto (tgt := 117) dX8_layForm_102 rfl ?_
  refine ev_last (pc' := 118) (j := 8) (L' := (ma_up (ma_up L 132 (ma_up (ma_up (ma_up (ma_up (ma_up (L 132) 0 0) 1 0) 2 (0 + (mW (mSel 3 (I 133) (I 134))))) 3 ((0 + (mW (mSel 1 (I 133) (I 134)))) + (mW (mSel 2 (I 133) (I 134))))) 4 (0 + (mW (mSel 0 (I 133) (I 134)))))) 120 (ma_up (ma_up (ma_up (ma_up (ma_up (ma_up (ma_up (ma_up (ma_up r4 0 (Int32.toInt64 ((I 134) 0))) 1 (Int32.toInt64 ((I 134) 1))) 2 (Int32.toInt64 ((I 134) 2))) 3 (Int32.toInt64 ((I 134) 3))) 4 (Int32.toInt64 ((I 134) 4))) 5 (Int32.toInt64 ((I 134) 5))) 6 (Int32.toInt64 ((I 134) 6))) 7 (Int32.toInt64 ((I 134) 7))) 8 (Int32.toInt64 ((I 133) 8))))) dX8_layForm_117 rfl hs_120 rfl (Nat.le_of_ble_eq_true rfl) (Nat.le_of_ble_eq_true rfl) (ma_up_up _ _ _ _) ?_
  refine ev_iinc (pc' := 121) (v := 1) (lv' := [some (.ref 115), some (.int 4), some (.int 1), some (.int 2), some (.int 1), some (.int 1)]) dX8_layForm_118 rfl rfl (by decide) (Nat.le_of_ble_eq_true rfl) rfl rfl ?_
  refine ev_goto (tgt := 69) dX8_layForm_121 rfl ?_
  refine ev_iload (pc' := 71) dX8_layForm_69 rfl rfl ?_
  refine ev_iconst (pc' := 72) (v := 4) dX8_layForm_71 rfl ki_4 ?_
  refine ev_icmp_ge (tgt := 124) (pc' := 75) dX8_layForm_72 rfl rfl (fun h => absurd h (by decide)) (fun _ => ?_)
  refine ev_aload_n (pc' := 76) (i := 0) dX8_layForm_75 rfl rfl rfl ?_
  refine ev_getR (pc' := 79) fo_X8_26 dX8_layForm_76 rfl hs_115 rfl rf_115_8 ?_
  refine ev_iconst (pc' := 80) (v := 4) dX8_layForm_79 rfl ki_4 ?_
  refine ev_iload_n (pc' := 81) (i := 3) dX8_layForm_80 rfl rfl rfl ?_
  refine ev_imul (pc' := 82) (v := 8) dX8_layForm_81 rfl (by decide) ?_
  refine ev_iload (pc' := 84) dX8_layForm_82 rfl rfl ?_
  refine ev_iadd (pc' := 85) (v := 9) dX8_layForm_84 rfl (by decide) ?_
  refine ev_iload (pc' := 87) dX8_layForm_85 rfl rfl ?_
  refine ev_if_eq (tgt := 105) (pc' := 90) dX8_layForm_87 rfl rfl (fun h => absurd h (by decide)) (fun _ => ?_)
  refine ev_aload_n (pc' := 91) (i := 0) dX8_layForm_90 rfl rfl rfl ?_
  refine ev_getR (pc' := 94) fo_X8_67 dX8_layForm_91 rfl hs_115 rfl rf_115_24 ?_
  refine ev_iconst (pc' := 95) (v := 4) dX8_layForm_94 rfl ki_4 ?_
  refine ev_iload_n (pc' := 96) (i := 3) dX8_layForm_95 rfl rfl rfl ?_
  refine ev_imul (pc' := 97) (v := 8) dX8_layForm_96 rfl (by decide) ?_
  refine ev_iload (pc' := 99) dX8_layForm_97 rfl rfl ?_
  refine ev_iadd (pc' := 100) (v := 9) dX8_layForm_99 rfl (by decide) ?_
  refine ev_iald (pc' := 101) (j := 9) (v := (I 133) 9) dX8_layForm_100 rfl hs_133 rfl (Nat.le_of_ble_eq_true rfl) (Nat.le_of_ble_eq_true rfl) rfl ?_
  refine ev_i2l (pc' := 102) (v := Int32.toInt64 ((I 133) 9)) dX8_layForm_101 rfl rfl ?_
  refine ev_goto (tgt := 117) dX8_layForm_102 rfl ?_
  refine ev_last (pc' := 118) (j := 9) (L' := (ma_up (ma_up L 132 (ma_up (ma_up (ma_up (ma_up (ma_up (L 132) 0 0) 1 0) 2 (0 + (mW (mSel 3 (I 133) (I 134))))) 3 ((0 + (mW (mSel 1 (I 133) (I 134)))) + (mW (mSel 2 (I 133) (I 134))))) 4 (0 + (mW (mSel 0 (I 133) (I 134)))))) 120 (ma_up (ma_up (ma_up (ma_up (ma_up (ma_up (ma_up (ma_up (ma_up (ma_up r4 0 (Int32.toInt64 ((I 134) 0))) 1 (Int32.toInt64 ((I 134) 1))) 2 (Int32.toInt64 ((I 134) 2))) 3 (Int32.toInt64 ((I 134) 3))) 4 (Int32.toInt64 ((I 134) 4))) 5 (Int32.toInt64 ((I 134) 5))) 6 (Int32.toInt64 ((I 134) 6))) 7 (Int32.toInt64 ((I 134) 7))) 8 (Int32.toInt64 ((I 133) 8))) 9 (Int32.toInt64 ((I 133) 9))))) dX8_layForm_117 rfl hs_120 rfl (Nat.le_of_ble_eq_true rfl) (Nat.le_of_ble_eq_true rfl) (ma_up_up _ _ _ _) ?_
  refine ev_iinc (pc' := 121) (v := 2) (lv' := [some (.ref 115), some (.int 4), some (.int 1), some (.int 2), some (.int 1), some (.int 2)]) dX8_layForm_118 rfl rfl (by decide) (Nat.le_of_ble_eq_true rfl) rfl rfl ?_
  refine ev_goto (tgt := 69) dX8_layForm_121 rfl ?_
  refine ev_iload (pc' := 71) dX8_layForm_69 rfl rfl ?_
  refine ev_iconst (pc' := 72) (v := 4) dX8_layForm_71 rfl ki_4 ?_
  refine ev_icmp_ge (tgt := 124) (pc' := 75) dX8_layForm_72 rfl rfl (fun h => absurd h (by decide)) (fun _ => ?_)
  refine ev_aload_n (pc' := 76) (i := 0) dX8_layForm_75 rfl rfl rfl ?_
  refine ev_getR (pc' := 79) fo_X8_26 dX8_layForm_76 rfl hs_115 rfl rf_115_8 ?_
  refine ev_iconst (pc' := 80) (v := 4) dX8_layForm_79 rfl ki_4 ?_
  refine ev_iload_n (pc' := 81) (i := 3) dX8_layForm_80 rfl rfl rfl ?_
  refine ev_imul (pc' := 82) (v := 8) dX8_layForm_81 rfl (by decide) ?_
  refine ev_iload (pc' := 84) dX8_layForm_82 rfl rfl ?_
  refine ev_iadd (pc' := 85) (v := 10) dX8_layForm_84 rfl (by decide) ?_
  refine ev_iload (pc' := 87) dX8_layForm_85 rfl rfl ?_
  refine ev_if_eq (tgt := 105) (pc' := 90) dX8_layForm_87 rfl rfl (fun h => absurd h (by decide)) (fun _ => ?_)
  refine ev_aload_n (pc' := 91) (i := 0) dX8_layForm_90 rfl rfl rfl ?_
  refine ev_getR (pc' := 94) fo_X8_67 dX8_layForm_91 rfl hs_115 rfl rf_115_24 ?_
  refine ev_iconst (pc' := 95) (v := 4) dX8_layForm_94 rfl ki_4 ?_
  refine ev_iload_n (pc' := 96) (i := 3) dX8_layForm_95 rfl rfl rfl ?_
  refine ev_imul (pc' := 97) (v := 8) dX8_layForm_96 rfl (by decide) ?_
  refine ev_iload (pc' := 99) dX8_layForm_97 rfl rfl ?_
  refine ev_iadd (pc' := 100) (v := 10) dX8_layForm_99 rfl (by decide) ?_
  refine ev_iald (pc' := 101) (j := 10) (v := (I 133) 10) dX8_layForm_100 rfl hs_133 rfl (Nat.le_of_ble_eq_true rfl) (Nat.le_of_ble_eq_true rfl) rfl ?_
  refine ev_i2l (pc' := 102) (v := Int32.toInt64 ((I 133) 10)) dX8_layForm_101 rfl rfl ?_
  refine ev_goto (tgt := 117) dX8_layForm_102 rfl ?_
  refine ev_last (pc' := 118) (j := 10) (L' := (ma_up (ma_up L 132 (ma_up (ma_up (ma_up (ma_up (ma_up (L 132) 0 0) 1 0) 2 (0 + (mW (mSel 3 (I 133) (I 134))))) 3 ((0 + (mW (mSel 1 (I 133) (I 134)))) + (mW (mSel 2 (I 133) (I 134))))) 4 (0 + (mW (mSel 0 (I 133) (I 134)))))) 120 (ma_up (ma_up (ma_up (ma_up (ma_up (ma_up (ma_up (ma_up (ma_up (ma_up (ma_up r4 0 (Int32.toInt64 ((I 134) 0))) 1 (Int32.toInt64 ((I 134) 1))) 2 (Int32.toInt64 ((I 134) 2))) 3 (Int32.toInt64 ((I 134) 3))) 4 (Int32.toInt64 ((I 134) 4))) 5 (Int32.toInt64 ((I 134) 5))) 6 (Int32.toInt64 ((I 134) 6))) 7 (Int32.toInt64 ((I 134) 7))) 8 (Int32.toInt64 ((I 133) 8))) 9 (Int32.toInt64 ((I 133) 9))) 10 (Int32.toInt64 ((I 133) 10))))) dX8_layForm_117 rfl hs_120 rfl (Nat.le_of_ble_eq_true rfl) (Nat.le_of_ble_eq_true rfl) (ma_up_up _ _ _ _) ?_
  refine ev_iinc (pc' := 121) (v := 3) (lv' := [some (.ref 115), some (.int 4), some (.int 1), some (.int 2), some (.int 1), some (.int 3)]) dX8_layForm_118 rfl rfl (by decide) (Nat.le_of_ble_eq_true rfl) rfl rfl ?_
  refine ev_goto (tgt := 69) dX8_layForm_121 rfl ?_
  refine ev_iload (pc' := 71) dX8_layForm_69 rfl rfl ?_
  refine ev_iconst (pc' := 72) (v := 4) dX8_layForm_71 rfl ki_4 ?_
  refine ev_icmp_ge (tgt := 124) (pc' := 75) dX8_layForm_72 rfl rfl (fun h => absurd h (by decide)) (fun _ => ?_)
  refine ev_aload_n (pc' := 76) (i := 0) dX8_layForm_75 rfl rfl rfl ?_
  refine ev_getR (pc' := 79) fo_X8_26 dX8_layForm_76 rfl hs_115 rfl rf_115_8 ?_
  refine ev_iconst (pc' := 80) (v := 4) dX8_layForm_79 rfl ki_4 ?_
  refine ev_iload_n (pc' := 81) (i := 3) dX8_layForm_80 rfl rfl rfl ?_
  refine ev_imul (pc' := 82) (v := 8) dX8_layForm_81 rfl (by decide) ?_
  refine ev_iload (pc' := 84) dX8_layForm_82 rfl rfl ?_
  refine ev_iadd (pc' := 85) (v := 11) dX8_layForm_84 rfl (by decide) ?_
  refine ev_iload (pc' := 87) dX8_layForm_85 rfl rfl ?_
  refine ev_if_eq (tgt := 105) (pc' := 90) dX8_layForm_87 rfl rfl (fun h => absurd h (by decide)) (fun _ => ?_)
  refine ev_aload_n (pc' := 91) (i := 0) dX8_layForm_90 rfl rfl rfl ?_
  refine ev_getR (pc' := 94) fo_X8_67 dX8_layForm_91 rfl hs_115 rfl rf_115_24 ?_
  refine ev_iconst (pc' := 95) (v := 4) dX8_layForm_94 rfl ki_4 ?_
  refine ev_iload_n (pc' := 96) (i := 3) dX8_layForm_95 rfl rfl rfl ?_
  refine ev_imul (pc' := 97) (v := 8) dX8_layForm_96 rfl (by decide) ?_
  refine ev_iload (pc' := 99) dX8_layForm_97 rfl rfl ?_
  refine ev_iadd (pc' := 100) (v := 11) dX8_layForm_99 rfl (by decide) ?_
  refine ev_iald (pc' := 101) (j := 11) (v := (I 133) 11) dX8_layForm_100 rfl hs_133 rfl (Nat.le_of_ble_eq_true rfl) (Nat.le_of_ble_eq_true rfl) rfl ?_
  refine ev_i2l (pc' := 102) (v := Int32.toInt64 ((I 133) 11)) dX8_layForm_101 rfl rfl ?_
  refine ev_goto (tgt := 117) dX8_layForm_102 rfl ?_
  refine ev_last (pc' := 118) (j := 11) (L' := (ma_up (ma_up L 132 (ma_up (ma_up (ma_up (ma_up (ma_up (L 132) 0 0) 1 0) 2 (0 + (mW (mSel 3 (I 133) (I 134))))) 3 ((0 + (mW (mSel 1 (I 133) (I 134)))) + (mW (mSel 2 (I 133) (I 134))))) 4 (0 + (mW (mSel 0 (I 133) (I 134)))))) 120 (ma_up (ma_up (ma_up (ma_up (ma_up (ma_up (ma_up (ma_up (ma_up (ma_up (ma_up (ma_up r4 0 (Int32.toInt64 ((I 134) 0))) 1 (Int32.toInt64 ((I 134) 1))) 2 (Int32.toInt64 ((I 134) 2))) 3 (Int32.toInt64 ((I 134) 3))) 4 (Int32.toInt64 ((I 134) 4))) 5 (Int32.toInt64 ((I 134) 5))) 6 (Int32.toInt64 ((I 134) 6))) 7 (Int32.toInt64 ((I 134) 7))) 8 (Int32.toInt64 ((I 133) 8))) 9 (Int32.toInt64 ((I 133) 9))) 10 (Int32.toInt64 ((I 133) 10))) 11 (Int32.toInt64 ((I 133) 11))))) dX8_layForm_117 rfl hs_120 rfl (Nat.le_of_ble_eq_true rfl) (Nat.le_of_ble_eq_true rfl) (ma_up_up _ _ _ _) ?_
  refine ev_iinc (pc' := 121) (v := 4) (lv' := [some (.ref 115), some (.int 4), some (.int 1), some (.int 2), some (.int 1), some (.int 4)]) dX8_layForm_118 rfl rfl (by decide) (Nat.le_of_ble_eq_true rfl) rfl rfl ?_
  refine ev_goto (tgt := 69) dX8_layForm_121 rfl ?_
  refine ev_iload (pc' := 71) dX8_layForm_69 rfl rfl ?_
  refine ev_iconst (pc' := 72) (v := 4) dX8_layForm_71 rfl ki_4 ?_
  refine ev_icmp_ge (tgt := 124) (pc' := 75) dX8_layForm_72 rfl rfl (fun _ => ?_) (fun h => absurd (by decide) h)
  refine ev_iinc (pc' := 127) (v := 3) (lv' := [some (.ref 115), some (.int 4), some (.int 1), some (.int 3), some (.int 1), some (.int 4)]) dX8_layForm_124 rfl rfl (by decide) (Nat.le_of_ble_eq_true rfl) rfl rfl ?_
  refine ev_goto (tgt := 32) dX8_layForm_127 rfl ?_
  refine ev_iload_n (pc' := 33) (i := 3) dX8_layForm_32 rfl rfl rfl ?_
  refine ev_iconst (pc' := 34) (v := 4) dX8_layForm_33 rfl ki_4 ?_
  refine ev_icmp_ge (tgt := 130) (pc' := 37) dX8_layForm_34 rfl rfl (fun h => absurd h (by decide)) (fun _ => ?_)
  refine ev_iload_n (pc' := 38) (i := 1) dX8_layForm_37 rfl rfl rfl ?_
  refine ev_iload_n (pc' := 39) (i := 3) dX8_layForm_38 rfl rfl rfl ?_
  refine ev_ishr (pc' := 40) (v := 0) dX8_layForm_39 rfl (by decide) ?_
  refine ev_iconst (pc' := 41) (v := 1) dX8_layForm_40 rfl ki_1 ?_
  refine ev_iand (pc' := 42) (v := 0) dX8_layForm_41 rfl (by decide) ?_
  refine ev_iconst (pc' := 43) (v := 1) dX8_layForm_42 rfl ki_1 ?_
  refine ev_icmp_ne (tgt := 50) (pc' := 46) dX8_layForm_43 rfl rfl (fun _ => ?_) (fun h => absurd h (by decide))
  refine ev_iconst (pc' := 51) (v := 0) dX8_layForm_50 rfl ki_0 ?_
  refine ev_istore (pc' := 53) (lv' := [some (.ref 115), some (.int 4), some (.int 1), some (.int 3), some (.int 0), some (.int 4)]) dX8_layForm_51 rfl (Nat.le_of_ble_eq_true rfl) rfl rfl ?_
  refine ev_iload_n (pc' := 54) (i := 2) dX8_layForm_53 rfl rfl rfl ?_
  refine ev_iload (pc' := 56) dX8_layForm_54 rfl rfl ?_
  refine ev_if_eq (tgt := 63) (pc' := 59) dX8_layForm_56 rfl rfl (fun _ => ?_) (fun h => absurd (by decide) h)
  refine ev_iconst (pc' := 64) (v := 0) dX8_layForm_63 rfl ki_0 ?_
  refine ev_iadd (pc' := 65) (v := 1) dX8_layForm_64 rfl (by decide) ?_
  refine ev_istore_n (pc' := 66) (i := 2) (lv' := [some (.ref 115), some (.int 4), some (.int 1), some (.int 3), some (.int 0), some (.int 4)]) dX8_layForm_65 rfl rfl (Nat.le_of_ble_eq_true rfl) rfl rfl ?_
  refine ev_iconst (pc' := 67) (v := 0) dX8_layForm_66 rfl ki_0 ?_
  refine ev_istore (pc' := 69) (lv' := [some (.ref 115), some (.int 4), some (.int 1), some (.int 3), some (.int 0), some (.int 0)]) dX8_layForm_67 rfl (Nat.le_of_ble_eq_true rfl) rfl rfl ?_
  refine ev_iload (pc' := 71) dX8_layForm_69 rfl rfl ?_
  refine ev_iconst (pc' := 72) (v := 4) dX8_layForm_71 rfl ki_4 ?_
  refine ev_icmp_ge (tgt := 124) (pc' := 75) dX8_layForm_72 rfl rfl (fun h => absurd h (by decide)) (fun _ => ?_)
  refine ev_aload_n (pc' := 76) (i := 0) dX8_layForm_75 rfl rfl rfl ?_
  refine ev_getR (pc' := 79) fo_X8_26 dX8_layForm_76 rfl hs_115 rfl rf_115_8 ?_
  refine ev_iconst (pc' := 80) (v := 4) dX8_layForm_79 rfl ki_4 ?_
  refine ev_iload_n (pc' := 81) (i := 3) dX8_layForm_80 rfl rfl rfl ?_
  refine ev_imul (pc' := 82) (v := 12) dX8_layForm_81 rfl (by decide) ?_
  refine ev_iload (pc' := 84) dX8_layForm_82 rfl rfl ?_
  refine ev_iadd (pc' := 85) (v := 12) dX8_layForm_84 rfl (by decide) ?_
  refine ev_iload (pc' := 87) dX8_layForm_85 rfl rfl ?_
  refine ev_if_eq (tgt := 105) (pc' := 90) dX8_layForm_87 rfl rfl (fun _ => ?_) (fun h => absurd (by decide) h)
  refine ev_aload_n (pc' := 106) (i := 0) dX8_layForm_105 rfl rfl rfl ?_
  refine ev_getR (pc' := 109) fo_X8_70 dX8_layForm_106 rfl hs_115 rfl rf_115_25 ?_
  refine ev_iconst (pc' := 110) (v := 4) dX8_layForm_109 rfl ki_4 ?_
  refine ev_iload_n (pc' := 111) (i := 3) dX8_layForm_110 rfl rfl rfl ?_
  refine ev_imul (pc' := 112) (v := 12) dX8_layForm_111 rfl (by decide) ?_
  refine ev_iload (pc' := 114) dX8_layForm_112 rfl rfl ?_
  refine ev_iadd (pc' := 115) (v := 12) dX8_layForm_114 rfl (by decide) ?_
  refine ev_iald (pc' := 116) (j := 12) (v := (I 134) 12) dX8_layForm_115 rfl hs_134 rfl (Nat.le_of_ble_eq_true rfl) (Nat.le_of_ble_eq_true rfl) rfl ?_
  refine ev_i2l (pc' := 117) (v := Int32.toInt64 ((I 134) 12)) dX8_layForm_116 rfl rfl ?_
  refine ev_last (pc' := 118) (j := 12) (L' := (ma_up (ma_up L 132 (ma_up (ma_up (ma_up (ma_up (ma_up (L 132) 0 0) 1 0) 2 (0 + (mW (mSel 3 (I 133) (I 134))))) 3 ((0 + (mW (mSel 1 (I 133) (I 134)))) + (mW (mSel 2 (I 133) (I 134))))) 4 (0 + (mW (mSel 0 (I 133) (I 134)))))) 120 (ma_up (ma_up (ma_up (ma_up (ma_up (ma_up (ma_up (ma_up (ma_up (ma_up (ma_up (ma_up (ma_up r4 0 (Int32.toInt64 ((I 134) 0))) 1 (Int32.toInt64 ((I 134) 1))) 2 (Int32.toInt64 ((I 134) 2))) 3 (Int32.toInt64 ((I 134) 3))) 4 (Int32.toInt64 ((I 134) 4))) 5 (Int32.toInt64 ((I 134) 5))) 6 (Int32.toInt64 ((I 134) 6))) 7 (Int32.toInt64 ((I 134) 7))) 8 (Int32.toInt64 ((I 133) 8))) 9 (Int32.toInt64 ((I 133) 9))) 10 (Int32.toInt64 ((I 133) 10))) 11 (Int32.toInt64 ((I 133) 11))) 12 (Int32.toInt64 ((I 134) 12))))) dX8_layForm_117 rfl hs_120 rfl (Nat.le_of_ble_eq_true rfl) (Nat.le_of_ble_eq_true rfl) (ma_up_up _ _ _ _) ?_
  refine ev_iinc (pc' := 121) (v := 1) (lv' := [some (.ref 115), some (.int 4), some (.int 1), some (.int 3), some (.int 0), some (.int 1)]) dX8_layForm_118 rfl rfl (by decide) (Nat.le_of_ble_eq_true rfl) rfl rfl ?_
  refine ev_goto (tgt := 69) dX8_layForm_121 rfl ?_
  refine ev_iload (pc' := 71) dX8_layForm_69 rfl rfl ?_
  refine ev_iconst (pc' := 72) (v := 4) dX8_layForm_71 rfl ki_4 ?_
  refine ev_icmp_ge (tgt := 124) (pc' := 75) dX8_layForm_72 rfl rfl (fun h => absurd h (by decide)) (fun _ => ?_)
  refine ev_aload_n (pc' := 76) (i := 0) dX8_layForm_75 rfl rfl rfl ?_
  refine ev_getR (pc' := 79) fo_X8_26 dX8_layForm_76 rfl hs_115 rfl rf_115_8 ?_
  refine ev_iconst (pc' := 80) (v := 4) dX8_layForm_79 rfl ki_4 ?_
  refine ev_iload_n (pc' := 81) (i := 3) dX8_layForm_80 rfl rfl rfl ?_
  refine ev_imul (pc' := 82) (v := 12) dX8_layForm_81 rfl (by decide) ?_
  refine ev_iload (pc' := 84) dX8_layForm_82 rfl rfl ?_
  refine ev_iadd (pc' := 85) (v := 13) dX8_layForm_84 rfl (by decide) ?_
  refine ev_iload (pc' := 87) dX8_layForm_85 rfl rfl ?_
  refine ev_if_eq (tgt := 105) (pc' := 90) dX8_layForm_87 rfl rfl (fun _ => ?_) (fun h => absurd (by decide) h)
  refine ev_aload_n (pc' := 106) (i := 0) dX8_layForm_105 rfl rfl rfl ?_
  refine ev_getR (pc' := 109) fo_X8_70 dX8_layForm_106 rfl hs_115 rfl rf_115_25 ?_
  refine ev_iconst (pc' := 110) (v := 4) dX8_layForm_109 rfl ki_4 ?_
  refine ev_iload_n (pc' := 111) (i := 3) dX8_layForm_110 rfl rfl rfl ?_
  refine ev_imul (pc' := 112) (v := 12) dX8_layForm_111 rfl (by decide) ?_
  refine ev_iload (pc' := 114) dX8_layForm_112 rfl rfl ?_
  refine ev_iadd (pc' := 115) (v := 13) dX8_layForm_114 rfl (by decide) ?_
  refine ev_iald (pc' := 116) (j := 13) (v := (I 134) 13) dX8_layForm_115 rfl hs_134 rfl (Nat.le_of_ble_eq_true rfl) (Nat.le_of_ble_eq_true rfl) rfl ?_
  refine ev_i2l (pc' := 117) (v := Int32.toInt64 ((I 134) 13)) dX8_layForm_116 rfl rfl ?_
  refine ev_last (pc' := 118) (j := 13) (L' := (ma_up (ma_up L 132 (ma_up (ma_up (ma_up (ma_up (ma_up (L 132) 0 0) 1 0) 2 (0 + (mW (mSel 3 (I 133) (I 134))))) 3 ((0 + (mW (mSel 1 (I 133) (I 134)))) + (mW (mSel 2 (I 133) (I 134))))) 4 (0 + (mW (mSel 0 (I 133) (I 134)))))) 120 (ma_up (ma_up (ma_up (ma_up (ma_up (ma_up (ma_up (ma_up (ma_up (ma_up (ma_up (ma_up (ma_up (ma_up r4 0 (Int32.toInt64 ((I 134) 0))) 1 (Int32.toInt64 ((I 134) 1))) 2 (Int32.toInt64 ((I 134) 2))) 3 (Int32.toInt64 ((I 134) 3))) 4 (Int32.toInt64 ((I 134) 4))) 5 (Int32.toInt64 ((I 134) 5))) 6 (Int32.toInt64 ((I 134) 6))) 7 (Int32.toInt64 ((I 134) 7))) 8 (Int32.toInt64 ((I 133) 8))) 9 (Int32.toInt64 ((I 133) 9))) 10 (Int32.toInt64 ((I 133) 10))) 11 (Int32.toInt64 ((I 133) 11))) 12 (Int32.toInt64 ((I 134) 12))) 13 (Int32.toInt64 ((I 134) 13))))) dX8_layForm_117 rfl hs_120 rfl (Nat.le_of_ble_eq_true rfl) (Nat.le_of_ble_eq_true rfl) (ma_up_up _ _ _ _) ?_
  refine ev_iinc (pc' := 121) (v := 2) (lv' := [some (.ref 115), some (.int 4), some (.int 1), some (.int 3), some (.int 0), some (.int 2)]) dX8_layForm_118 rfl rfl (by decide) (Nat.le_of_ble_eq_true rfl) rfl rfl ?_
  refine ev_goto (tgt := 69) dX8_layForm_121 rfl ?_
  refine ev_iload (pc' := 71) dX8_layForm_69 rfl rfl ?_
  refine ev_iconst (pc' := 72) (v := 4) dX8_layForm_71 rfl ki_4 ?_
  refine ev_icmp_ge (tgt := 124) (pc' := 75) dX8_layForm_72 rfl rfl (fun h => absurd h (by decide)) (fun _ => ?_)
  refine ev_aload_n (pc' := 76) (i := 0) dX8_layForm_75 rfl rfl rfl ?_
  refine ev_getR (pc' := 79) fo_X8_26 dX8_layForm_76 rfl hs_115 rfl rf_115_8 ?_
  refine ev_iconst (pc' := 80) (v := 4) dX8_layForm_79 rfl ki_4 ?_
  refine ev_iload_n (pc' := 81) (i := 3) dX8_layForm_80 rfl rfl rfl ?_
  refine ev_imul (pc' := 82) (v := 12) dX8_layForm_81 rfl (by decide) ?_
  refine ev_iload (pc' := 84) dX8_layForm_82 rfl rfl ?_
  refine ev_iadd (pc' := 85) (v := 14) dX8_layForm_84 rfl (by decide) ?_
  refine ev_iload (pc' := 87) dX8_layForm_85 rfl rfl ?_
  refine ev_if_eq (tgt := 105) (pc' := 90) dX8_layForm_87 rfl rfl (fun _ => ?_) (fun h => absurd (by decide) h)
  refine ev_aload_n (pc' := 106) (i := 0) dX8_layForm_105 rfl rfl rfl ?_
  refine ev_getR (pc' := 109) fo_X8_70 dX8_layForm_106 rfl hs_115 rfl rf_115_25 ?_
  refine ev_iconst (pc' := 110) (v := 4) dX8_layForm_109 rfl ki_4 ?_
  refine ev_iload_n (pc' := 111) (i := 3) dX8_layForm_110 rfl rfl rfl ?_
  refine ev_imul (pc' := 112) (v := 12) dX8_layForm_111 rfl (by decide) ?_
  refine ev_iload (pc' := 114) dX8_layForm_112 rfl rfl ?_
  refine ev_iadd (pc' := 115) (v := 14) dX8_layForm_114 rfl (by decide) ?_
  refine ev_iald (pc' := 116) (j := 14) (v := (I 134) 14) dX8_layForm_115 rfl hs_134 rfl (Nat.le_of_ble_eq_true rfl) (Nat.le_of_ble_eq_true rfl) rfl ?_
  refine ev_i2l (pc' := 117) (v := Int32.toInt64 ((I 134) 14)) dX8_layForm_116 rfl rfl ?_
  refine ev_last (pc' := 118) (j := 14) (L' := (ma_up (ma_up L 132 (ma_up (ma_up (ma_up (ma_up (ma_up (L 132) 0 0) 1 0) 2 (0 + (mW (mSel 3 (I 133) (I 134))))) 3 ((0 + (mW (mSel 1 (I 133) (I 134)))) + (mW (mSel 2 (I 133) (I 134))))) 4 (0 + (mW (mSel 0 (I 133) (I 134)))))) 120 (ma_up (ma_up (ma_up (ma_up (ma_up (ma_up (ma_up (ma_up (ma_up (ma_up (ma_up (ma_up (ma_up (ma_up (ma_up r4 0 (Int32.toInt64 ((I 134) 0))) 1 (Int32.toInt64 ((I 134) 1))) 2 (Int32.toInt64 ((I 134) 2))) 3 (Int32.toInt64 ((I 134) 3))) 4 (Int32.toInt64 ((I 134) 4))) 5 (Int32.toInt64 ((I 134) 5))) 6 (Int32.toInt64 ((I 134) 6))) 7 (Int32.toInt64 ((I 134) 7))) 8 (Int32.toInt64 ((I 133) 8))) 9 (Int32.toInt64 ((I 133) 9))) 10 (Int32.toInt64 ((I 133) 10))) 11 (Int32.toInt64 ((I 133) 11))) 12 (Int32.toInt64 ((I 134) 12))) 13 (Int32.toInt64 ((I 134) 13))) 14 (Int32.toInt64 ((I 134) 14))))) dX8_layForm_117 rfl hs_120 rfl (Nat.le_of_ble_eq_true rfl) (Nat.le_of_ble_eq_true rfl) (ma_up_up _ _ _ _) ?_
  refine ev_iinc (pc' := 121) (v := 3) (lv' := [some (.ref 115), some (.int 4), some (.int 1), some (.int 3), some (.int 0), some (.int 3)]) dX8_layForm_118 rfl rfl (by decide) (Nat.le_of_ble_eq_true rfl) rfl rfl ?_
  refine ev_goto (tgt := 69) dX8_layForm_121 rfl ?_
  refine ev_iload (pc' := 71) dX8_layForm_69 rfl rfl ?_
  refine ev_iconst (pc' := 72) (v := 4) dX8_layForm_71 rfl ki_4 ?_
  refine ev_icmp_ge (tgt := 124) (pc' := 75) dX8_layForm_72 rfl rfl (fun h => absurd h (by decide)) (fun _ => ?_)
  refine ev_aload_n (pc' := 76) (i := 0) dX8_layForm_75 rfl rfl rfl ?_
  refine ev_getR (pc' := 79) fo_X8_26 dX8_layForm_76 rfl hs_115 rfl rf_115_8 ?_
  refine ev_iconst (pc' := 80) (v := 4) dX8_layForm_79 rfl ki_4 ?_
  refine ev_iload_n (pc' := 81) (i := 3) dX8_layForm_80 rfl rfl rfl ?_
  refine ev_imul (pc' := 82) (v := 12) dX8_layForm_81 rfl (by decide) ?_
  refine ev_iload (pc' := 84) dX8_layForm_82 rfl rfl ?_
  refine ev_iadd (pc' := 85) (v := 15) dX8_layForm_84 rfl (by decide) ?_
  refine ev_iload (pc' := 87) dX8_layForm_85 rfl rfl ?_
  refine ev_if_eq (tgt := 105) (pc' := 90) dX8_layForm_87 rfl rfl (fun _ => ?_) (fun h => absurd (by decide) h)
  refine ev_aload_n (pc' := 106) (i := 0) dX8_layForm_105 rfl rfl rfl ?_
  refine ev_getR (pc' := 109) fo_X8_70 dX8_layForm_106 rfl hs_115 rfl rf_115_25 ?_
  refine ev_iconst (pc' := 110) (v := 4) dX8_layForm_109 rfl ki_4 ?_
  refine ev_iload_n (pc' := 111) (i := 3) dX8_layForm_110 rfl rfl rfl ?_
  refine ev_imul (pc' := 112) (v := 12) dX8_layForm_111 rfl (by decide) ?_
  refine ev_iload (pc' := 114) dX8_layForm_112 rfl rfl ?_
  refine ev_iadd (pc' := 115) (v := 15) dX8_layForm_114 rfl (by decide) ?_
  refine ev_iald (pc' := 116) (j := 15) (v := (I 134) 15) dX8_layForm_115 rfl hs_134 rfl (Nat.le_of_ble_eq_true rfl) (Nat.le_of_ble_eq_true rfl) rfl ?_
  refine ev_i2l (pc' := 117) (v := Int32.toInt64 ((I 134) 15)) dX8_layForm_116 rfl rfl ?_
  refine ev_last (pc' := 118) (j := 15) (L' := (ma_up (ma_up L 132 (ma_up (ma_up (ma_up (ma_up (ma_up (L 132) 0 0) 1 0) 2 (0 + (mW (mSel 3 (I 133) (I 134))))) 3 ((0 + (mW (mSel 1 (I 133) (I 134)))) + (mW (mSel 2 (I 133) (I 134))))) 4 (0 + (mW (mSel 0 (I 133) (I 134)))))) 120 (ma_up (ma_up (ma_up (ma_up (ma_up (ma_up (ma_up (ma_up (ma_up (ma_up (ma_up (ma_up (ma_up (ma_up (ma_up (ma_up r4 0 (Int32.toInt64 ((I 134) 0))) 1 (Int32.toInt64 ((I 134) 1))) 2 (Int32.toInt64 ((I 134) 2))) 3 (Int32.toInt64 ((I 134) 3))) 4 (Int32.toInt64 ((I 134) 4))) 5 (Int32.toInt64 ((I 134) 5))) 6 (Int32.toInt64 ((I 134) 6))) 7 (Int32.toInt64 ((I 134) 7))) 8 (Int32.toInt64 ((I 133) 8))) 9 (Int32.toInt64 ((I 133) 9))) 10 (Int32.toInt64 ((I 133) 10))) 11 (Int32.toInt64 ((I 133) 11))) 12 (Int32.toInt64 ((I 134) 12))) 13 (Int32.toInt64 ((I 134) 13))) 14 (Int32.toInt64 ((I 134) 14))) 15 (Int32.toInt64 ((I 134) 15))))) dX8_layForm_117 rfl hs_120 rfl (Nat.le_of_ble_eq_true rfl) (Nat.le_of_ble_eq_true rfl) (ma_up_up _ _ _ _) ?_
  refine ev_iinc (pc' := 121) (v := 4) (lv' := [some (.ref 115), some (.int 4), some (.int 1), some (.int 3), some (.int 0), some (.int 4)]) dX8_layForm_118 rfl rfl (by decide) (Nat.le_of_ble_eq_true rfl) rfl rfl ?_
  refine ev_goto (tgt := 69) dX8_layForm_121 rfl ?_
  refine ev_iload (pc' := 71) dX8_layForm_69 rfl rfl ?_
  refine ev_iconst (pc' := 72) (v := 4) dX8_layForm_71 rfl ki_4 ?_
  refine ev_icmp_ge (tgt := 124) (pc' := 75) dX8_layForm_72 rfl rfl (fun _ => ?_) (fun h => absurd (by decide) h)
  refine ev_iinc (pc' := 127) (v := 4) (lv' := [some (.ref 115), some (.int 4), some (.int 1), some (.int 4), some (.int 0), some (.int 4)]) dX8_layForm_124 rfl rfl (by decide) (Nat.le_of_ble_eq_true rfl) rfl rfl ?_
  refine ev_goto (tgt := 32) dX8_layForm_127 rfl ?_
  refine ev_iload_n (pc' := 33) (i := 3) dX8_layForm_32 rfl rfl rfl ?_
  refine ev_iconst (pc' := 34) (v := 4) dX8_layForm_33 rfl ki_4 ?_
  refine ev_icmp_ge (tgt := 130) (pc' := 37) dX8_layForm_34 rfl rfl (fun _ => ?_) (fun h => absurd (by decide) h)
  refine ev_aload_n (pc' := 131) (i := 0) dX8_layForm_130 rfl rfl rfl ?_
  refine ev_getR (pc' := 134) fo_X8_64 dX8_layForm_131 rfl hs_115 rfl rf_115_23 ?_
  refine ev_iconst (pc' := 135) (v := 4) dX8_layForm_134 rfl ki_4 ?_
  refine ev_iload_n (pc' := 136) (i := 2) dX8_layForm_135 rfl rfl rfl ?_
  refine ev_isub (pc' := 137) (v := 3) dX8_layForm_136 rfl (by decide) ?_
  refine ev_dup2 (pc' := 138) dX8_layForm_137 rfl rfl rfl ?_
  refine ev_lald (pc' := 139) (j := 3) (v := (0 + (mW (mSel 1 (I 133) (I 134)))) + (mW (mSel 2 (I 133) (I 134)))) dX8_layForm_138 rfl hs_132 rfl (Nat.le_of_ble_eq_true rfl) (Nat.le_of_ble_eq_true rfl) rfl ?_
  refine ev_aload_n (pc' := 140) (i := 0) dX8_layForm_139 rfl rfl rfl ?_
  refine ev_getR (pc' := 143) fo_X8_26 dX8_layForm_140 rfl hs_115 rfl rf_115_8 ?_
  refine ev_callS (pc' := 146) (rm' := rX8_worthOf) (av := [.ref 120]) (rest := [.long ((0 + (mW (mSel 1 (I 133) (I 134)))) + (mW (mSel 2 (I 133) (I 134)))), .int 3, .ref 132]) co_X8_173 cs_X8_worthOf dX8_layForm_143 rfl rfl rfl (Nat.le_of_ble_eq_true rfl) ⟨(Nat.le_of_ble_eq_true rfl), (Nat.le_of_ble_eq_true rfl)⟩ ⟨(Nat.le_of_ble_eq_true rfl), (Nat.le_of_ble_eq_true rfl)⟩ ?_
  refine t_X8_worthOf 120 hs_120 ?_
  refine ev_eql (w := mW (mSel 4 (I 133) (I 134))) rfl ?_
  refine ev_ladd (pc' := 147) (v := ((0 + (mW (mSel 1 (I 133) (I 134)))) + (mW (mSel 2 (I 133) (I 134)))) + (mW (mSel 4 (I 133) (I 134)))) dX8_layForm_146 rfl rfl ?_
  refine ev_last (pc' := 148) (j := 3) (L' := (ma_up (ma_up L 132 (ma_up (ma_up (ma_up (ma_up (ma_up (L 132) 0 0) 1 0) 2 (0 + (mW (mSel 3 (I 133) (I 134))))) 3 (((0 + (mW (mSel 1 (I 133) (I 134)))) + (mW (mSel 2 (I 133) (I 134)))) + (mW (mSel 4 (I 133) (I 134))))) 4 (0 + (mW (mSel 0 (I 133) (I 134)))))) 120 (ma_up (ma_up (ma_up (ma_up (ma_up (ma_up (ma_up (ma_up (ma_up (ma_up (ma_up (ma_up (ma_up (ma_up (ma_up (ma_up r4 0 (Int32.toInt64 ((I 134) 0))) 1 (Int32.toInt64 ((I 134) 1))) 2 (Int32.toInt64 ((I 134) 2))) 3 (Int32.toInt64 ((I 134) 3))) 4 (Int32.toInt64 ((I 134) 4))) 5 (Int32.toInt64 ((I 134) 5))) 6 (Int32.toInt64 ((I 134) 6))) 7 (Int32.toInt64 ((I 134) 7))) 8 (Int32.toInt64 ((I 133) 8))) 9 (Int32.toInt64 ((I 133) 9))) 10 (Int32.toInt64 ((I 133) 10))) 11 (Int32.toInt64 ((I 133) 11))) 12 (Int32.toInt64 ((I 134) 12))) 13 (Int32.toInt64 ((I 134) 13))) 14 (Int32.toInt64 ((I 134) 14))) 15 (Int32.toInt64 ((I 134) 15))))) dX8_layForm_147 rfl hs_132 rfl (Nat.le_of_ble_eq_true rfl) (Nat.le_of_ble_eq_true rfl) ((congrArg (ma_up _ 132) ((ma_up_comm _ (show 3 ≠ 4 from (by decide)) _ _).trans (congrArg (fun f => ma_up f 4 _) (ma_up_up _ _ _ _)))).trans ((ma_up_comm _ (show 132 ≠ 120 from (by decide)) _ _).trans (congrArg (fun f => ma_up f 120 _) (ma_up_up _ _ _ _)))) ?_
  refine ev_iinc (pc' := 151) (v := 5) (lv' := [some (.ref 115), some (.int 5), some (.int 1), some (.int 4), some (.int 0), some (.int 4)]) dX8_layForm_148 rfl rfl (by decide) (Nat.le_of_ble_eq_true rfl) rfl rfl ?_
  refine ev_goto (tgt := 22) dX8_layForm_151 rfl ?_
  refine ev_rowL (fun r5 => ?_)
  refine ev_iload_n (pc' := 23) (i := 1) dX8_layForm_22 rfl rfl rfl ?_
  refine ev_bipush (pc' := 25) (v := 16) dX8_layForm_23 rfl kb_16 ?_
  refine ev_icmp_ge (tgt := 154) (pc' := 28) dX8_layForm_25 rfl rfl (fun h => absurd h (by decide)) (fun _ => ?_)
  refine ev_iconst (pc' := 29) (v := 0) dX8_layForm_28 rfl ki_0 ?_
  refine ev_istore_n (pc' := 30) (i := 2) (lv' := [some (.ref 115), some (.int 5), some (.int 0), some (.int 4), some (.int 0), some (.int 4)]) dX8_layForm_29 rfl rfl (Nat.le_of_ble_eq_true rfl) rfl rfl ?_
  refine ev_iconst (pc' := 31) (v := 0) dX8_layForm_30 rfl ki_0 ?_
  refine ev_istore_n (pc' := 32) (i := 3) (lv' := [some (.ref 115), some (.int 5), some (.int 0), some (.int 0), some (.int 0), some (.int 4)]) dX8_layForm_31 rfl rfl (Nat.le_of_ble_eq_true rfl) rfl rfl ?_
  refine ev_iload_n (pc' := 33) (i := 3) dX8_layForm_32 rfl rfl rfl ?_
  refine ev_iconst (pc' := 34) (v := 4) dX8_layForm_33 rfl ki_4 ?_
  refine ev_icmp_ge (tgt := 130) (pc' := 37) dX8_layForm_34 rfl rfl (fun h => absurd h (by decide)) (fun _ => ?_)
  refine ev_iload_n (pc' := 38) (i := 1) dX8_layForm_37 rfl rfl rfl ?_
  refine ev_iload_n (pc' := 39) (i := 3) dX8_layForm_38 rfl rfl rfl ?_
  refine ev_ishr (pc' := 40) (v := 5) dX8_layForm_39 rfl (by decide) ?_
  refine ev_iconst (pc' := 41) (v := 1) dX8_layForm_40 rfl ki_1 ?_
  refine ev_iand (pc' := 42) (v := 1) dX8_layForm_41 rfl (by decide) ?_
  refine ev_iconst (pc' := 43) (v := 1) dX8_layForm_42 rfl ki_1 ?_
  refine ev_icmp_ne (tgt := 50) (pc' := 46) dX8_layForm_43 rfl rfl (fun h => absurd (by decide) h) (fun _ => ?_)
  refine ev_iconst (pc' := 47) (v := 1) dX8_layForm_46 rfl ki_1 ?_
  refine ev_goto (tgt := 51) dX8_layForm_47 rfl ?_
  refine ev_istore (pc' := 53) (lv' := [some (.ref 115), some (.int 5), some (.int 0), some (.int 0), some (.int 1), some (.int 4)]) dX8_layForm_51 rfl (Nat.le_of_ble_eq_true rfl) rfl rfl ?_
  refine ev_iload_n (pc' := 54) (i := 2) dX8_layForm_53 rfl rfl rfl ?_
  refine ev_iload (pc' := 56) dX8_layForm_54 rfl rfl ?_
  refine ev_if_eq (tgt := 63) (pc' := 59) dX8_layForm_56 rfl rfl (fun h => absurd h (by decide)) (fun _ => ?_)
  refine ev_iconst (pc' := 60) (v := 1) dX8_layForm_59 rfl ki_1 ?_
  refine ev_goto (tgt := 64) dX8_layForm_60 rfl ?_
  refine ev_iadd (pc' := 65) (v := 1) dX8_layForm_64 rfl (by decide) ?_
  refine ev_istore_n (pc' := 66) (i := 2) (lv' := [some (.ref 115), some (.int 5), some (.int 1), some (.int 0), some (.int 1), some (.int 4)]) dX8_layForm_65 rfl rfl (Nat.le_of_ble_eq_true rfl) rfl rfl ?_
  refine ev_iconst (pc' := 67) (v := 0) dX8_layForm_66 rfl ki_0 ?_
  refine ev_istore (pc' := 69) (lv' := [some (.ref 115), some (.int 5), some (.int 1), some (.int 0), some (.int 1), some (.int 0)]) dX8_layForm_67 rfl (Nat.le_of_ble_eq_true rfl) rfl rfl ?_
  refine ev_iload (pc' := 71) dX8_layForm_69 rfl rfl ?_
  refine ev_iconst (pc' := 72) (v := 4) dX8_layForm_71 rfl ki_4 ?_
  refine ev_icmp_ge (tgt := 124) (pc' := 75) dX8_layForm_72 rfl rfl (fun h => absurd h (by decide)) (fun _ => ?_)
  refine ev_aload_n (pc' := 76) (i := 0) dX8_layForm_75 rfl rfl rfl ?_
  refine ev_getR (pc' := 79) fo_X8_26 dX8_layForm_76 rfl hs_115 rfl rf_115_8 ?_
  refine ev_iconst (pc' := 80) (v := 4) dX8_layForm_79 rfl ki_4 ?_
  refine ev_iload_n (pc' := 81) (i := 3) dX8_layForm_80 rfl rfl rfl ?_
  refine ev_imul (pc' := 82) (v := 0) dX8_layForm_81 rfl (by decide) ?_
  refine ev_iload (pc' := 84) dX8_layForm_82 rfl rfl ?_
  refine ev_iadd (pc' := 85) (v := 0) dX8_layForm_84 rfl (by decide) ?_
  refine ev_iload (pc' := 87) dX8_layForm_85 rfl rfl ?_
  refine ev_if_eq (tgt := 105) (pc' := 90) dX8_layForm_87 rfl rfl (fun h => absurd h (by decide)) (fun _ => ?_)
  refine ev_aload_n (pc' := 91) (i := 0) dX8_layForm_90 rfl rfl rfl ?_
  refine ev_getR (pc' := 94) fo_X8_67 dX8_layForm_91 rfl hs_115 rfl rf_115_24 ?_
  refine ev_iconst (pc' := 95) (v := 4) dX8_layForm_94 rfl ki_4 ?_
  refine ev_iload_n (pc' := 96) (i := 3) dX8_layForm_95 rfl rfl rfl ?_
  refine ev_imul (pc' := 97) (v := 0) dX8_layForm_96 rfl (by decide) ?_
  refine ev_iload (pc' := 99) dX8_layForm_97 rfl rfl ?_
  refine ev_iadd (pc' := 100) (v := 0) dX8_layForm_99 rfl (by decide) ?_
  refine ev_iald (pc' := 101) (j := 0) (v := (I 133) 0) dX8_layForm_100 rfl hs_133 rfl (Nat.le_of_ble_eq_true rfl) (Nat.le_of_ble_eq_true rfl) rfl ?_
  refine ev_i2l (pc' := 102) (v := Int32.toInt64 ((I 133) 0)) dX8_layForm_101 rfl rfl ?_
  refine ev_goto (tgt := 117) dX8_layForm_102 rfl ?_
  refine ev_last (pc' := 118) (j := 0) (L' := (ma_up (ma_up L 132 (ma_up (ma_up (ma_up (ma_up (ma_up (L 132) 0 0) 1 0) 2 (0 + (mW (mSel 3 (I 133) (I 134))))) 3 (((0 + (mW (mSel 1 (I 133) (I 134)))) + (mW (mSel 2 (I 133) (I 134)))) + (mW (mSel 4 (I 133) (I 134))))) 4 (0 + (mW (mSel 0 (I 133) (I 134)))))) 120 (ma_up r5 0 (Int32.toInt64 ((I 133) 0))))) dX8_layForm_117 rfl hs_120 rfl (Nat.le_of_ble_eq_true rfl) (Nat.le_of_ble_eq_true rfl) (ma_up_up _ _ _ _) ?_
  refine ev_iinc (pc' := 121) (v := 1) (lv' := [some (.ref 115), some (.int 5), some (.int 1), some (.int 0), some (.int 1), some (.int 1)]) dX8_layForm_118 rfl rfl (by decide) (Nat.le_of_ble_eq_true rfl) rfl rfl ?_
  refine ev_goto (tgt := 69) dX8_layForm_121 rfl ?_
  refine ev_iload (pc' := 71) dX8_layForm_69 rfl rfl ?_
  refine ev_iconst (pc' := 72) (v := 4) dX8_layForm_71 rfl ki_4 ?_
  refine ev_icmp_ge (tgt := 124) (pc' := 75) dX8_layForm_72 rfl rfl (fun h => absurd h (by decide)) (fun _ => ?_)
  refine ev_aload_n (pc' := 76) (i := 0) dX8_layForm_75 rfl rfl rfl ?_
  refine ev_getR (pc' := 79) fo_X8_26 dX8_layForm_76 rfl hs_115 rfl rf_115_8 ?_
  refine ev_iconst (pc' := 80) (v := 4) dX8_layForm_79 rfl ki_4 ?_
  refine ev_iload_n (pc' := 81) (i := 3) dX8_layForm_80 rfl rfl rfl ?_
  refine ev_imul (pc' := 82) (v := 0) dX8_layForm_81 rfl (by decide) ?_
  refine ev_iload (pc' := 84) dX8_layForm_82 rfl rfl ?_
  refine ev_iadd (pc' := 85) (v := 1) dX8_layForm_84 rfl (by decide) ?_
  refine ev_iload (pc' := 87) dX8_layForm_85 rfl rfl ?_
  refine ev_if_eq (tgt := 105) (pc' := 90) dX8_layForm_87 rfl rfl (fun h => absurd h (by decide)) (fun _ => ?_)
  refine ev_aload_n (pc' := 91) (i := 0) dX8_layForm_90 rfl rfl rfl ?_
  refine ev_getR (pc' := 94) fo_X8_67 dX8_layForm_91 rfl hs_115 rfl rf_115_24 ?_
  refine ev_iconst (pc' := 95) (v := 4) dX8_layForm_94 rfl ki_4 ?_
  refine ev_iload_n (pc' := 96) (i := 3) dX8_layForm_95 rfl rfl rfl ?_
  refine ev_imul (pc' := 97) (v := 0) dX8_layForm_96 rfl (by decide) ?_
  refine ev_iload (pc' := 99) dX8_layForm_97 rfl rfl ?_
  refine ev_iadd (pc' := 100) (v := 1) dX8_layForm_99 rfl (by decide) ?_
  refine ev_iald (pc' := 101) (j := 1) (v := (I 133) 1) dX8_layForm_100 rfl hs_133 rfl (Nat.le_of_ble_eq_true rfl) (Nat.le_of_ble_eq_true rfl) rfl ?_
  refine ev_i2l (pc' := 102) (v := Int32.toInt64 ((I 133) 1)) dX8_layForm_101 rfl rfl ?_
  refine ev_goto (tgt := 117) dX8_layForm_102 rfl ?_
  refine ev_last (pc' := 118) (j := 1) (L' := (ma_up (ma_up L 132 (ma_up (ma_up (ma_up (ma_up (ma_up (L 132) 0 0) 1 0) 2 (0 + (mW (mSel 3 (I 133) (I 134))))) 3 (((0 + (mW (mSel 1 (I 133) (I 134)))) + (mW (mSel 2 (I 133) (I 134)))) + (mW (mSel 4 (I 133) (I 134))))) 4 (0 + (mW (mSel 0 (I 133) (I 134)))))) 120 (ma_up (ma_up r5 0 (Int32.toInt64 ((I 133) 0))) 1 (Int32.toInt64 ((I 133) 1))))) dX8_layForm_117 rfl hs_120 rfl (Nat.le_of_ble_eq_true rfl) (Nat.le_of_ble_eq_true rfl) (ma_up_up _ _ _ _) ?_
  refine ev_iinc (pc' := 121) (v := 2) (lv' := [some (.ref 115), some (.int 5), some (.int 1), some (.int 0), some (.int 1), some (.int 2)]) dX8_layForm_118 rfl rfl (by decide) (Nat.le_of_ble_eq_true rfl) rfl rfl ?_
  refine ev_goto (tgt := 69) dX8_layForm_121 rfl ?_
  refine ev_iload (pc' := 71) dX8_layForm_69 rfl rfl ?_
  refine ev_iconst (pc' := 72) (v := 4) dX8_layForm_71 rfl ki_4 ?_
  refine ev_icmp_ge (tgt := 124) (pc' := 75) dX8_layForm_72 rfl rfl (fun h => absurd h (by decide)) (fun _ => ?_)
  refine ev_aload_n (pc' := 76) (i := 0) dX8_layForm_75 rfl rfl rfl ?_
  refine ev_getR (pc' := 79) fo_X8_26 dX8_layForm_76 rfl hs_115 rfl rf_115_8 ?_
  refine ev_iconst (pc' := 80) (v := 4) dX8_layForm_79 rfl ki_4 ?_
  refine ev_iload_n (pc' := 81) (i := 3) dX8_layForm_80 rfl rfl rfl ?_
  refine ev_imul (pc' := 82) (v := 0) dX8_layForm_81 rfl (by decide) ?_
  refine ev_iload (pc' := 84) dX8_layForm_82 rfl rfl ?_
  refine ev_iadd (pc' := 85) (v := 2) dX8_layForm_84 rfl (by decide) ?_
  refine ev_iload (pc' := 87) dX8_layForm_85 rfl rfl ?_
  refine ev_if_eq (tgt := 105) (pc' := 90) dX8_layForm_87 rfl rfl (fun h => absurd h (by decide)) (fun _ => ?_)
  refine ev_aload_n (pc' := 91) (i := 0) dX8_layForm_90 rfl rfl rfl ?_
  refine ev_getR (pc' := 94) fo_X8_67 dX8_layForm_91 rfl hs_115 rfl rf_115_24 ?_
  refine ev_iconst (pc' := 95) (v := 4) dX8_layForm_94 rfl ki_4 ?_
  refine ev_iload_n (pc' := 96) (i := 3) dX8_layForm_95 rfl rfl rfl ?_
  refine ev_imul (pc' := 97) (v := 0) dX8_layForm_96 rfl (by decide) ?_
  refine ev_iload (pc' := 99) dX8_layForm_97 rfl rfl ?_
  refine ev_iadd (pc' := 100) (v := 2) dX8_layForm_99 rfl (by decide) ?_
  refine ev_iald (pc' := 101) (j := 2) (v := (I 133) 2) dX8_layForm_100 rfl hs_133 rfl (Nat.le_of_ble_eq_true rfl) (Nat.le_of_ble_eq_true rfl) rfl ?_
  refine ev_i2l (pc' := 102) (v := Int32.toInt64 ((I 133) 2)) dX8_layForm_101 rfl rfl ?_
  refine ev_goto (tgt := 117) dX8_layForm_102 rfl ?_
  refine ev_last (pc' := 118) (j := 2) (L' := (ma_up (ma_up L 132 (ma_up (ma_up (ma_up (ma_up (ma_up (L 132) 0 0) 1 0) 2 (0 + (mW (mSel 3 (I 133) (I 134))))) 3 (((0 + (mW (mSel 1 (I 133) (I 134)))) + (mW (mSel 2 (I 133) (I 134)))) + (mW (mSel 4 (I 133) (I 134))))) 4 (0 + (mW (mSel 0 (I 133) (I 134)))))) 120 (ma_up (ma_up (ma_up r5 0 (Int32.toInt64 ((I 133) 0))) 1 (Int32.toInt64 ((I 133) 1))) 2 (Int32.toInt64 ((I 133) 2))))) dX8_layForm_117 rfl hs_120 rfl (Nat.le_of_ble_eq_true rfl) (Nat.le_of_ble_eq_true rfl) (ma_up_up _ _ _ _) ?_
  refine ev_iinc (pc' := 121) (v := 3) (lv' := [some (.ref 115), some (.int 5), some (.int 1), some (.int 0), some (.int 1), some (.int 3)]) dX8_layForm_118 rfl rfl (by decide) (Nat.le_of_ble_eq_true rfl) rfl rfl ?_
  refine ev_goto (tgt := 69) dX8_layForm_121 rfl ?_
  refine ev_iload (pc' := 71) dX8_layForm_69 rfl rfl ?_
  refine ev_iconst (pc' := 72) (v := 4) dX8_layForm_71 rfl ki_4 ?_
  refine ev_icmp_ge (tgt := 124) (pc' := 75) dX8_layForm_72 rfl rfl (fun h => absurd h (by decide)) (fun _ => ?_)
  refine ev_aload_n (pc' := 76) (i := 0) dX8_layForm_75 rfl rfl rfl ?_
  refine ev_getR (pc' := 79) fo_X8_26 dX8_layForm_76 rfl hs_115 rfl rf_115_8 ?_
  refine ev_iconst (pc' := 80) (v := 4) dX8_layForm_79 rfl ki_4 ?_
  refine ev_iload_n (pc' := 81) (i := 3) dX8_layForm_80 rfl rfl rfl ?_
  refine ev_imul (pc' := 82) (v := 0) dX8_layForm_81 rfl (by decide) ?_
  refine ev_iload (pc' := 84) dX8_layForm_82 rfl rfl ?_
  refine ev_iadd (pc' := 85) (v := 3) dX8_layForm_84 rfl (by decide) ?_
  refine ev_iload (pc' := 87) dX8_layForm_85 rfl rfl ?_
  refine ev_if_eq (tgt := 105) (pc' := 90) dX8_layForm_87 rfl rfl (fun h => absurd h (by decide)) (fun _ => ?_)
  refine ev_aload_n (pc' := 91) (i := 0) dX8_layForm_90 rfl rfl rfl ?_
  refine ev_getR (pc' := 94) fo_X8_67 dX8_layForm_91 rfl hs_115 rfl rf_115_24 ?_
  refine ev_iconst (pc' := 95) (v := 4) dX8_layForm_94 rfl ki_4 ?_
  refine ev_iload_n (pc' := 96) (i := 3) dX8_layForm_95 rfl rfl rfl ?_
  refine ev_imul (pc' := 97) (v := 0) dX8_layForm_96 rfl (by decide) ?_
  refine ev_iload (pc' := 99) dX8_layForm_97 rfl rfl ?_
  refine ev_iadd (pc' := 100) (v := 3) dX8_layForm_99 rfl (by decide) ?_
  refine ev_iald (pc' := 101) (j := 3) (v := (I 133) 3) dX8_layForm_100 rfl hs_133 rfl (Nat.le_of_ble_eq_true rfl) (Nat.le_of_ble_eq_true rfl) rfl ?_
  refine ev_i2l (pc' := 102) (v := Int32.toInt64 ((I 133) 3)) dX8_layForm_101 rfl rfl ?_
  refine ev_goto (tgt := 117) dX8_layForm_102 rfl ?_
  refine ev_last (pc' := 118) (j := 3) (L' := (ma_up (ma_up L 132 (ma_up (ma_up (ma_up (ma_up (ma_up (L 132) 0 0) 1 0) 2 (0 + (mW (mSel 3 (I 133) (I 134))))) 3 (((0 + (mW (mSel 1 (I 133) (I 134)))) + (mW (mSel 2 (I 133) (I 134)))) + (mW (mSel 4 (I 133) (I 134))))) 4 (0 + (mW (mSel 0 (I 133) (I 134)))))) 120 (ma_up (ma_up (ma_up (ma_up r5 0 (Int32.toInt64 ((I 133) 0))) 1 (Int32.toInt64 ((I 133) 1))) 2 (Int32.toInt64 ((I 133) 2))) 3 (Int32.toInt64 ((I 133) 3))))) dX8_layForm_117 rfl hs_120 rfl (Nat.le_of_ble_eq_true rfl) (Nat.le_of_ble_eq_true rfl) (ma_up_up _ _ _ _) ?_
  refine ev_iinc (pc' := 121) (v := 4) (lv' := [some (.ref 115), some (.int 5), some (.int 1), some (.int 0), some (.int 1), some (.int 4)]) dX8_layForm_118 rfl rfl (by decide) (Nat.le_of_ble_eq_true rfl) rfl rfl ?_
  refine ev_goto (tgt := 69) dX8_layForm_121 rfl ?_
  refine ev_iload (pc' := 71) dX8_layForm_69 rfl rfl ?_
  refine ev_iconst (pc' := 72) (v := 4) dX8_layForm_71 rfl ki_4 ?_
  refine ev_icmp_ge (tgt := 124) (pc' := 75) dX8_layForm_72 rfl rfl (fun _ => ?_) (fun h => absurd (by decide) h)
  refine ev_iinc (pc' := 127) (v := 1) (lv' := [some (.ref 115), some (.int 5), some (.int 1), some (.int 1), some (.int 1), some (.int 4)]) dX8_layForm_124 rfl rfl (by decide) (Nat.le_of_ble_eq_true rfl) rfl rfl ?_
  refine ev_goto (tgt := 32) dX8_layForm_127 rfl ?_
  refine ev_iload_n (pc' := 33) (i := 3) dX8_layForm_32 rfl rfl rfl ?_
  refine ev_iconst (pc' := 34) (v := 4) dX8_layForm_33 rfl ki_4 ?_
  refine ev_icmp_ge (tgt := 130) (pc' := 37) dX8_layForm_34 rfl rfl (fun h => absurd h (by decide)) (fun _ => ?_)
  refine ev_iload_n (pc' := 38) (i := 1) dX8_layForm_37 rfl rfl rfl ?_
  refine ev_iload_n (pc' := 39) (i := 3) dX8_layForm_38 rfl rfl rfl ?_
  refine ev_ishr (pc' := 40) (v := 2) dX8_layForm_39 rfl (by decide) ?_
  refine ev_iconst (pc' := 41) (v := 1) dX8_layForm_40 rfl ki_1 ?_
  refine ev_iand (pc' := 42) (v := 0) dX8_layForm_41 rfl (by decide) ?_
  refine ev_iconst (pc' := 43) (v := 1) dX8_layForm_42 rfl ki_1 ?_
  refine ev_icmp_ne (tgt := 50) (pc' := 46) dX8_layForm_43 rfl rfl (fun _ => ?_) (fun h => absurd h (by decide))
  refine ev_iconst (pc' := 51) (v := 0) dX8_layForm_50 rfl ki_0 ?_
  refine ev_istore (pc' := 53) (lv' := [some (.ref 115), some (.int 5), some (.int 1), some (.int 1), some (.int 0), some (.int 4)]) dX8_layForm_51 rfl (Nat.le_of_ble_eq_true rfl) rfl rfl ?_
  refine ev_iload_n (pc' := 54) (i := 2) dX8_layForm_53 rfl rfl rfl ?_
  refine ev_iload (pc' := 56) dX8_layForm_54 rfl rfl ?_
  refine ev_if_eq (tgt := 63) (pc' := 59) dX8_layForm_56 rfl rfl (fun _ => ?_) (fun h => absurd (by decide) h)
  refine ev_iconst (pc' := 64) (v := 0) dX8_layForm_63 rfl ki_0 ?_
  refine ev_iadd (pc' := 65) (v := 1) dX8_layForm_64 rfl (by decide) ?_
  refine ev_istore_n (pc' := 66) (i := 2) (lv' := [some (.ref 115), some (.int 5), some (.int 1), some (.int 1), some (.int 0), some (.int 4)]) dX8_layForm_65 rfl rfl (Nat.le_of_ble_eq_true rfl) rfl rfl ?_
  refine ev_iconst (pc' := 67) (v := 0) dX8_layForm_66 rfl ki_0 ?_
  refine ev_istore (pc' := 69) (lv' := [some (.ref 115), some (.int 5), some (.int 1), some (.int 1), some (.int 0), some (.int 0)]) dX8_layForm_67 rfl (Nat.le_of_ble_eq_true rfl) rfl rfl ?_
  refine ev_iload (pc' := 71) dX8_layForm_69 rfl rfl ?_
  refine ev_iconst (pc' := 72) (v := 4) dX8_layForm_71 rfl ki_4 ?_
  refine ev_icmp_ge (tgt := 124) (pc' := 75) dX8_layForm_72 rfl rfl (fun h => absurd h (by decide)) (fun _ => ?_)
  refine ev_aload_n (pc' := 76) (i := 0) dX8_layForm_75 rfl rfl rfl ?_
  refine ev_getR (pc' := 79) fo_X8_26 dX8_layForm_76 rfl hs_115 rfl rf_115_8 ?_
  refine ev_iconst (pc' := 80) (v := 4) dX8_layForm_79 rfl ki_4 ?_
  refine ev_iload_n (pc' := 81) (i := 3) dX8_layForm_80 rfl rfl rfl ?_
  refine ev_imul (pc' := 82) (v := 4) dX8_layForm_81 rfl (by decide) ?_
  refine ev_iload (pc' := 84) dX8_layForm_82 rfl rfl ?_
  refine ev_iadd (pc' := 85) (v := 4) dX8_layForm_84 rfl (by decide) ?_
  refine ev_iload (pc' := 87) dX8_layForm_85 rfl rfl ?_
  refine ev_if_eq (tgt := 105) (pc' := 90) dX8_layForm_87 rfl rfl (fun _ => ?_) (fun h => absurd (by decide) h)
  refine ev_aload_n (pc' := 106) (i := 0) dX8_layForm_105 rfl rfl rfl ?_
  refine ev_getR (pc' := 109) fo_X8_70 dX8_layForm_106 rfl hs_115 rfl rf_115_25 ?_
  refine ev_iconst (pc' := 110) (v := 4) dX8_layForm_109 rfl ki_4 ?_
  refine ev_iload_n (pc' := 111) (i := 3) dX8_layForm_110 rfl rfl rfl ?_
  refine ev_imul (pc' := 112) (v := 4) dX8_layForm_111 rfl (by decide) ?_
  refine ev_iload (pc' := 114) dX8_layForm_112 rfl rfl ?_
  refine ev_iadd (pc' := 115) (v := 4) dX8_layForm_114 rfl (by decide) ?_
  refine ev_iald (pc' := 116) (j := 4) (v := (I 134) 4) dX8_layForm_115 rfl hs_134 rfl (Nat.le_of_ble_eq_true rfl) (Nat.le_of_ble_eq_true rfl) rfl ?_
  refine ev_i2l (pc' := 117) (v := Int32.toInt64 ((I 134) 4)) dX8_layForm_116 rfl rfl ?_
  refine ev_last (pc' := 118) (j := 4) (L' := (ma_up (ma_up L 132 (ma_up (ma_up (ma_up (ma_up (ma_up (L 132) 0 0) 1 0) 2 (0 + (mW (mSel 3 (I 133) (I 134))))) 3 (((0 + (mW (mSel 1 (I 133) (I 134)))) + (mW (mSel 2 (I 133) (I 134)))) + (mW (mSel 4 (I 133) (I 134))))) 4 (0 + (mW (mSel 0 (I 133) (I 134)))))) 120 (ma_up (ma_up (ma_up (ma_up (ma_up r5 0 (Int32.toInt64 ((I 133) 0))) 1 (Int32.toInt64 ((I 133) 1))) 2 (Int32.toInt64 ((I 133) 2))) 3 (Int32.toInt64 ((I 133) 3))) 4 (Int32.toInt64 ((I 134) 4))))) dX8_layForm_117 rfl hs_120 rfl (Nat.le_of_ble_eq_true rfl) (Nat.le_of_ble_eq_true rfl) (ma_up_up _ _ _ _) ?_
  refine ev_iinc (pc' := 121) (v := 1) (lv' := [some (.ref 115), some (.int 5), some (.int 1), some (.int 1), some (.int 0), some (.int 1)]) dX8_layForm_118 rfl rfl (by decide) (Nat.le_of_ble_eq_true rfl) rfl rfl ?_
  refine ev_goto (tgt := 69) dX8_layForm_121 rfl ?_
  refine ev_iload (pc' := 71) dX8_layForm_69 rfl rfl ?_
  refine ev_iconst (pc' := 72) (v := 4) dX8_layForm_71 rfl ki_4 ?_
  refine ev_icmp_ge (tgt := 124) (pc' := 75) dX8_layForm_72 rfl rfl (fun h => absurd h (by decide)) (fun _ => ?_)
  refine ev_aload_n (pc' := 76) (i := 0) dX8_layForm_75 rfl rfl rfl ?_
  refine ev_getR (pc' := 79) fo_X8_26 dX8_layForm_76 rfl hs_115 rfl rf_115_8 ?_
  refine ev_iconst (pc' := 80) (v := 4) dX8_layForm_79 rfl ki_4 ?_
  refine ev_iload_n (pc' := 81) (i := 3) dX8_layForm_80 rfl rfl rfl ?_
  refine ev_imul (pc' := 82) (v := 4) dX8_layForm_81 rfl (by decide) ?_
  refine ev_iload (pc' := 84) dX8_layForm_82 rfl rfl ?_
  refine ev_iadd (pc' := 85) (v := 5) dX8_layForm_84 rfl (by decide) ?_
  refine ev_iload (pc' := 87) dX8_layForm_85 rfl rfl ?_
  refine ev_if_eq (tgt := 105) (pc' := 90) dX8_layForm_87 rfl rfl (fun _ => ?_) (fun h => absurd (by decide) h)
  refine ev_aload_n (pc' := 106) (i := 0) dX8_layForm_105 rfl rfl rfl ?_
  refine ev_getR (pc' := 109) fo_X8_70 dX8_layForm_106 rfl hs_115 rfl rf_115_25 ?_
  refine ev_iconst (pc' := 110) (v := 4) dX8_layForm_109 rfl ki_4 ?_
  refine ev_iload_n (pc' := 111) (i := 3) dX8_layForm_110 rfl rfl rfl ?_
  refine ev_imul (pc' := 112) (v := 4) dX8_layForm_111 rfl (by decide) ?_
  refine ev_iload (pc' := 114) dX8_layForm_112 rfl rfl ?_
  refine ev_iadd (pc' := 115) (v := 5) dX8_layForm_114 rfl (by decide) ?_
  refine ev_iald (pc' := 116) (j := 5) (v := (I 134) 5) dX8_layForm_115 rfl hs_134 rfl (Nat.le_of_ble_eq_true rfl) (Nat.le_of_ble_eq_true rfl) rfl ?_
  refine ev_i2l (pc' := 117) (v := Int32.toInt64 ((I 134) 5)) dX8_layForm_116 rfl rfl ?_
  refine ev_last (pc' := 118) (j := 5) (L' := (ma_up (ma_up L 132 (ma_up (ma_up (ma_up (ma_up (ma_up (L 132) 0 0) 1 0) 2 (0 + (mW (mSel 3 (I 133) (I 134))))) 3 (((0 + (mW (mSel 1 (I 133) (I 134)))) + (mW (mSel 2 (I 133) (I 134)))) + (mW (mSel 4 (I 133) (I 134))))) 4 (0 + (mW (mSel 0 (I 133) (I 134)))))) 120 (ma_up (ma_up (ma_up (ma_up (ma_up (ma_up r5 0 (Int32.toInt64 ((I 133) 0))) 1 (Int32.toInt64 ((I 133) 1))) 2 (Int32.toInt64 ((I 133) 2))) 3 (Int32.toInt64 ((I 133) 3))) 4 (Int32.toInt64 ((I 134) 4))) 5 (Int32.toInt64 ((I 134) 5))))) dX8_layForm_117 rfl hs_120 rfl (Nat.le_of_ble_eq_true rfl) (Nat.le_of_ble_eq_true rfl) (ma_up_up _ _ _ _) ?_
  refine ev_iinc (pc' := 121) (v := 2) (lv' := [some (.ref 115), some (.int 5), some (.int 1), some (.int 1), some (.int 0), some (.int 2)]) dX8_layForm_118 rfl rfl (by decide) (Nat.le_of_ble_eq_true rfl) rfl rfl ?_
  refine ev_goto (tgt := 69) dX8_layForm_121 rfl ?_
  refine ev_iload (pc' := 71) dX8_layForm_69 rfl rfl ?_
  refine ev_iconst (pc' := 72) (v := 4) dX8_layForm_71 rfl ki_4 ?_
  refine ev_icmp_ge (tgt := 124) (pc' := 75) dX8_layForm_72 rfl rfl (fun h => absurd h (by decide)) (fun _ => ?_)
  refine ev_aload_n (pc' := 76) (i := 0) dX8_layForm_75 rfl rfl rfl ?_
  refine ev_getR (pc' := 79) fo_X8_26 dX8_layForm_76 rfl hs_115 rfl rf_115_8 ?_
  refine ev_iconst (pc' := 80) (v := 4) dX8_layForm_79 rfl ki_4 ?_
  refine ev_iload_n (pc' := 81) (i := 3) dX8_layForm_80 rfl rfl rfl ?_
  refine ev_imul (pc' := 82) (v := 4) dX8_layForm_81 rfl (by decide) ?_
  refine ev_iload (pc' := 84) dX8_layForm_82 rfl rfl ?_
  refine ev_iadd (pc' := 85) (v := 6) dX8_layForm_84 rfl (by decide) ?_
  refine ev_iload (pc' := 87) dX8_layForm_85 rfl rfl ?_
  refine ev_if_eq (tgt := 105) (pc' := 90) dX8_layForm_87 rfl rfl (fun _ => ?_) (fun h => absurd (by decide) h)
  refine ev_aload_n (pc' := 106) (i := 0) dX8_layForm_105 rfl rfl rfl ?_
  refine ev_getR (pc' := 109) fo_X8_70 dX8_layForm_106 rfl hs_115 rfl rf_115_25 ?_
  refine ev_iconst (pc' := 110) (v := 4) dX8_layForm_109 rfl ki_4 ?_
  refine ev_iload_n (pc' := 111) (i := 3) dX8_layForm_110 rfl rfl rfl ?_
  refine ev_imul (pc' := 112) (v := 4) dX8_layForm_111 rfl (by decide) ?_
  refine ev_iload (pc' := 114) dX8_layForm_112 rfl rfl ?_
  refine ev_iadd (pc' := 115) (v := 6) dX8_layForm_114 rfl (by decide) ?_
  refine ev_iald (pc' := 116) (j := 6) (v := (I 134) 6) dX8_layForm_115 rfl hs_134 rfl (Nat.le_of_ble_eq_true rfl) (Nat.le_of_ble_eq_true rfl) rfl ?_
  refine ev_i2l (pc' := 117) (v := Int32.toInt64 ((I 134) 6)) dX8_layForm_116 rfl rfl ?_
  refine ev_last (pc' := 118) (j := 6) (L' := (ma_up (ma_up L 132 (ma_up (ma_up (ma_up (ma_up (ma_up (L 132) 0 0) 1 0) 2 (0 + (mW (mSel 3 (I 133) (I 134))))) 3 (((0 + (mW (mSel 1 (I 133) (I 134)))) + (mW (mSel 2 (I 133) (I 134)))) + (mW (mSel 4 (I 133) (I 134))))) 4 (0 + (mW (mSel 0 (I 133) (I 134)))))) 120 (ma_up (ma_up (ma_up (ma_up (ma_up (ma_up (ma_up r5 0 (Int32.toInt64 ((I 133) 0))) 1 (Int32.toInt64 ((I 133) 1))) 2 (Int32.toInt64 ((I 133) 2))) 3 (Int32.toInt64 ((I 133) 3))) 4 (Int32.toInt64 ((I 134) 4))) 5 (Int32.toInt64 ((I 134) 5))) 6 (Int32.toInt64 ((I 134) 6))))) dX8_layForm_117 rfl hs_120 rfl (Nat.le_of_ble_eq_true rfl) (Nat.le_of_ble_eq_true rfl) (ma_up_up _ _ _ _) ?_
  refine ev_iinc (pc' := 121) (v := 3) (lv' := [some (.ref 115), some (.int 5), some (.int 1), some (.int 1), some (.int 0), some (.int 3)]) dX8_layForm_118 rfl rfl (by decide) (Nat.le_of_ble_eq_true rfl) rfl rfl ?_
  refine ev_goto (tgt := 69) dX8_layForm_121 rfl ?_
  refine ev_iload (pc' := 71) dX8_layForm_69 rfl rfl ?_
  refine ev_iconst (pc' := 72) (v := 4) dX8_layForm_71 rfl ki_4 ?_
  refine ev_icmp_ge (tgt := 124) (pc' := 75) dX8_layForm_72 rfl rfl (fun h => absurd h (by decide)) (fun _ => ?_)
  refine ev_aload_n (pc' := 76) (i := 0) dX8_layForm_75 rfl rfl rfl ?_
  refine ev_getR (pc' := 79) fo_X8_26 dX8_layForm_76 rfl hs_115 rfl rf_115_8 ?_
  refine ev_iconst (pc' := 80) (v := 4) dX8_layForm_79 rfl ki_4 ?_
  refine ev_iload_n (pc' := 81) (i := 3) dX8_layForm_80 rfl rfl rfl ?_
  refine ev_imul (pc' := 82) (v := 4) dX8_layForm_81 rfl (by decide) ?_
  refine ev_iload (pc' := 84) dX8_layForm_82 rfl rfl ?_
  refine ev_iadd (pc' := 85) (v := 7) dX8_layForm_84 rfl (by decide) ?_
  refine ev_iload (pc' := 87) dX8_layForm_85 rfl rfl ?_
  refine ev_if_eq (tgt := 105) (pc' := 90) dX8_layForm_87 rfl rfl (fun _ => ?_) (fun h => absurd (by decide) h)
  refine ev_aload_n (pc' := 106) (i := 0) dX8_layForm_105 rfl rfl rfl ?_
  refine ev_getR (pc' := 109) fo_X8_70 dX8_layForm_106 rfl hs_115 rfl rf_115_25 ?_
  refine ev_iconst (pc' := 110) (v := 4) dX8_layForm_109 rfl ki_4 ?_
  refine ev_iload_n (pc' := 111) (i := 3) dX8_layForm_110 rfl rfl rfl ?_
  refine ev_imul (pc' := 112) (v := 4) dX8_layForm_111 rfl (by decide) ?_
  refine ev_iload (pc' := 114) dX8_layForm_112 rfl rfl ?_
  refine ev_iadd (pc' := 115) (v := 7) dX8_layForm_114 rfl (by decide) ?_
  refine ev_iald (pc' := 116) (j := 7) (v := (I 134) 7) dX8_layForm_115 rfl hs_134 rfl (Nat.le_of_ble_eq_true rfl) (Nat.le_of_ble_eq_true rfl) rfl ?_
  refine ev_i2l (pc' := 117) (v := Int32.toInt64 ((I 134) 7)) dX8_layForm_116 rfl rfl ?_
  refine ev_last (pc' := 118) (j := 7) (L' := (ma_up (ma_up L 132 (ma_up (ma_up (ma_up (ma_up (ma_up (L 132) 0 0) 1 0) 2 (0 + (mW (mSel 3 (I 133) (I 134))))) 3 (((0 + (mW (mSel 1 (I 133) (I 134)))) + (mW (mSel 2 (I 133) (I 134)))) + (mW (mSel 4 (I 133) (I 134))))) 4 (0 + (mW (mSel 0 (I 133) (I 134)))))) 120 (ma_up (ma_up (ma_up (ma_up (ma_up (ma_up (ma_up (ma_up r5 0 (Int32.toInt64 ((I 133) 0))) 1 (Int32.toInt64 ((I 133) 1))) 2 (Int32.toInt64 ((I 133) 2))) 3 (Int32.toInt64 ((I 133) 3))) 4 (Int32.toInt64 ((I 134) 4))) 5 (Int32.toInt64 ((I 134) 5))) 6 (Int32.toInt64 ((I 134) 6))) 7 (Int32.toInt64 ((I 134) 7))))) dX8_layForm_117 rfl hs_120 rfl (Nat.le_of_ble_eq_true rfl) (Nat.le_of_ble_eq_true rfl) (ma_up_up _ _ _ _) ?_
  refine ev_iinc (pc' := 121) (v := 4) (lv' := [some (.ref 115), some (.int 5), some (.int 1), some (.int 1), some (.int 0), some (.int 4)]) dX8_layForm_118 rfl rfl (by decide) (Nat.le_of_ble_eq_true rfl) rfl rfl ?_
  refine ev_goto (tgt := 69) dX8_layForm_121 rfl ?_
  refine ev_iload (pc' := 71) dX8_layForm_69 rfl rfl ?_
  refine ev_iconst (pc' := 72) (v := 4) dX8_layForm_71 rfl ki_4 ?_
  refine ev_icmp_ge (tgt := 124) (pc' := 75) dX8_layForm_72 rfl rfl (fun _ => ?_) (fun h => absurd (by decide) h)
  refine ev_iinc (pc' := 127) (v := 2) (lv' := [some (.ref 115), some (.int 5), some (.int 1), some (.int 2), some (.int 0), some (.int 4)]) dX8_layForm_124 rfl rfl (by decide) (Nat.le_of_ble_eq_true rfl) rfl rfl ?_
  refine ev_goto (tgt := 32) dX8_layForm_127 rfl ?_
  refine ev_iload_n (pc' := 33) (i := 3) dX8_layForm_32 rfl rfl rfl ?_
  refine ev_iconst (pc' := 34) (v := 4) dX8_layForm_33 rfl ki_4 ?_
  refine ev_icmp_ge (tgt := 130) (pc' := 37) dX8_layForm_34 rfl rfl (fun h => absurd h (by decide)) (fun _ => ?_)
  refine ev_iload_n (pc' := 38) (i := 1) dX8_layForm_37 rfl rfl rfl ?_
  refine ev_iload_n (pc' := 39) (i := 3) dX8_layForm_38 rfl rfl rfl ?_
  refine ev_ishr (pc' := 40) (v := 1) dX8_layForm_39 rfl (by decide) ?_
  refine ev_iconst (pc' := 41) (v := 1) dX8_layForm_40 rfl ki_1 ?_
  refine ev_iand (pc' := 42) (v := 1) dX8_layForm_41 rfl (by decide) ?_
  refine ev_iconst (pc' := 43) (v := 1) dX8_layForm_42 rfl ki_1 ?_
  refine ev_icmp_ne (tgt := 50) (pc' := 46) dX8_layForm_43 rfl rfl (fun h => absurd (by decide) h) (fun _ => ?_)
  refine ev_iconst (pc' := 47) (v := 1) dX8_layForm_46 rfl ki_1 ?_
  refine ev_goto (tgt := 51) dX8_layForm_47 rfl ?_
  refine ev_istore (pc' := 53) (lv' := [some (.ref 115), some (.int 5), some (.int 1), some (.int 2), some (.int 1), some (.int 4)]) dX8_layForm_51 rfl (Nat.le_of_ble_eq_true rfl) rfl rfl ?_
  refine ev_iload_n (pc' := 54) (i := 2) dX8_layForm_53 rfl rfl rfl ?_
  refine ev_iload (pc' := 56) dX8_layForm_54 rfl rfl ?_
  refine ev_if_eq (tgt := 63) (pc' := 59) dX8_layForm_56 rfl rfl (fun h => absurd h (by decide)) (fun _ => ?_)
  refine ev_iconst (pc' := 60) (v := 1) dX8_layForm_59 rfl ki_1 ?_
  refine ev_goto (tgt := 64) dX8_layForm_60 rfl ?_
  refine ev_iadd (pc' := 65) (v := 2) dX8_layForm_64 rfl (by decide) ?_
  refine ev_istore_n (pc' := 66) (i := 2) (lv' := [some (.ref 115), some (.int 5), some (.int 2), some (.int 2), some (.int 1), some (.int 4)]) dX8_layForm_65 rfl rfl (Nat.le_of_ble_eq_true rfl) rfl rfl ?_
  refine ev_iconst (pc' := 67) (v := 0) dX8_layForm_66 rfl ki_0 ?_
  refine ev_istore (pc' := 69) (lv' := [some (.ref 115), some (.int 5), some (.int 2), some (.int 2), some (.int 1), some (.int 0)]) dX8_layForm_67 rfl (Nat.le_of_ble_eq_true rfl) rfl rfl ?_
  refine ev_iload (pc' := 71) dX8_layForm_69 rfl rfl ?_
  refine ev_iconst (pc' := 72) (v := 4) dX8_layForm_71 rfl ki_4 ?_
  refine ev_icmp_ge (tgt := 124) (pc' := 75) dX8_layForm_72 rfl rfl (fun h => absurd h (by decide)) (fun _ => ?_)
  refine ev_aload_n (pc' := 76) (i := 0) dX8_layForm_75 rfl rfl rfl ?_
  refine ev_getR (pc' := 79) fo_X8_26 dX8_layForm_76 rfl hs_115 rfl rf_115_8 ?_
  refine ev_iconst (pc' := 80) (v := 4) dX8_layForm_79 rfl ki_4 ?_
  refine ev_iload_n (pc' := 81) (i := 3) dX8_layForm_80 rfl rfl rfl ?_
  refine ev_imul (pc' := 82) (v := 8) dX8_layForm_81 rfl (by decide) ?_
  refine ev_iload (pc' := 84) dX8_layForm_82 rfl rfl ?_
  refine ev_iadd (pc' := 85) (v := 8) dX8_layForm_84 rfl (by decide) ?_
  refine ev_iload (pc' := 87) dX8_layForm_85 rfl rfl ?_
  refine ev_if_eq (tgt := 105) (pc' := 90) dX8_layForm_87 rfl rfl (fun h => absurd h (by decide)) (fun _ => ?_)
  refine ev_aload_n (pc' := 91) (i := 0) dX8_layForm_90 rfl rfl rfl ?_
  refine ev_getR (pc' := 94) fo_X8_67 dX8_layForm_91 rfl hs_115 rfl rf_115_24 ?_
  refine ev_iconst (pc' := 95) (v := 4) dX8_layForm_94 rfl ki_4 ?_
  refine ev_iload_n (pc' := 96) (i := 3) dX8_layForm_95 rfl rfl rfl ?_
  refine ev_imul (pc' := 97) (v := 8) dX8_layForm_96 rfl (by decide) ?_
  refine ev_iload (pc' := 99) dX8_layForm_97 rfl rfl ?_
  refine ev_iadd (pc' := 100) (v := 8) dX8_layForm_99 rfl (by decide) ?_
  refine ev_iald (pc' := 101) (j := 8) (v := (I 133) 8) dX8_layForm_100 rfl hs_133 rfl (Nat.le_of_ble_eq_true rfl) (Nat.le_of_ble_eq_true rfl) rfl ?_
  refine ev_i2l (pc' := 102) (v := Int32.toInt64 ((I 133) 8)) dX8_layForm_101 rfl rfl ?_
  refine ev_goto (tgt := 117) dX8_layForm_102 rfl ?_
  refine ev_last (pc' := 118) (j := 8) (L' := (ma_up (ma_up L 132 (ma_up (ma_up (ma_up (ma_up (ma_up (L 132) 0 0) 1 0) 2 (0 + (mW (mSel 3 (I 133) (I 134))))) 3 (((0 + (mW (mSel 1 (I 133) (I 134)))) + (mW (mSel 2 (I 133) (I 134)))) + (mW (mSel 4 (I 133) (I 134))))) 4 (0 + (mW (mSel 0 (I 133) (I 134)))))) 120 (ma_up (ma_up (ma_up (ma_up (ma_up (ma_up (ma_up (ma_up (ma_up r5 0 (Int32.toInt64 ((I 133) 0))) 1 (Int32.toInt64 ((I 133) 1))) 2 (Int32.toInt64 ((I 133) 2))) 3 (Int32.toInt64 ((I 133) 3))) 4 (Int32.toInt64 ((I 134) 4))) 5 (Int32.toInt64 ((I 134) 5))) 6 (Int32.toInt64 ((I 134) 6))) 7 (Int32.toInt64 ((I 134) 7))) 8 (Int32.toInt64 ((I 133) 8))))) dX8_layForm_117 rfl hs_120 rfl (Nat.le_of_ble_eq_true rfl) (Nat.le_of_ble_eq_true rfl) (ma_up_up _ _ _ _) ?_
  refine ev_iinc (pc' := 121) (v := 1) (lv' := [some (.ref 115), some (.int 5), some (.int 2), some (.int 2), some (.int 1), some (.int 1)]) dX8_layForm_118 rfl rfl (by decide) (Nat.le_of_ble_eq_true rfl) rfl rfl ?_
  refine ev_goto (tgt := 69) dX8_layForm_121 rfl ?_
  refine ev_iload (pc' := 71) dX8_layForm_69 rfl rfl ?_
  refine ev_iconst (pc' := 72) (v := 4) dX8_layForm_71 rfl ki_4 ?_
  refine ev_icmp_ge (tgt := 124) (pc' := 75) dX8_layForm_72 rfl rfl (fun h => absurd h (by decide)) (fun _ => ?_)
  refine ev_aload_n (pc' := 76) (i := 0) dX8_layForm_75 rfl rfl rfl ?_
  refine ev_getR (pc' := 79) fo_X8_26 dX8_layForm_76 rfl hs_115 rfl rf_115_8 ?_
  refine ev_iconst (pc' := 80) (v := 4) dX8_layForm_79 rfl ki_4 ?_
  refine ev_iload_n (pc' := 81) (i := 3) dX8_layForm_80 rfl rfl rfl ?_
  refine ev_imul (pc' := 82) (v := 8) dX8_layForm_81 rfl (by decide) ?_
  refine ev_iload (pc' := 84) dX8_layForm_82 rfl rfl ?_
  refine ev_iadd (pc' := 85) (v := 9) dX8_layForm_84 rfl (by decide) ?_
  refine ev_iload (pc' := 87) dX8_layForm_85 rfl rfl ?_
  refine ev_if_eq (tgt := 105) (pc' := 90) dX8_layForm_87 rfl rfl (fun h => absurd h (by decide)) (fun _ => ?_)
  refine ev_aload_n (pc' := 91) (i := 0) dX8_layForm_90 rfl rfl rfl ?_
  refine ev_getR (pc' := 94) fo_X8_67 dX8_layForm_91 rfl hs_115 rfl rf_115_24 ?_
  refine ev_iconst (pc' := 95) (v := 4) dX8_layForm_94 rfl ki_4 ?_
  refine ev_iload_n (pc' := 96) (i := 3) dX8_layForm_95 rfl rfl rfl ?_
  refine ev_imul (pc' := 97) (v := 8) dX8_layForm_96 rfl (by decide) ?_
  refine ev_iload (pc' := 99) dX8_layForm_97 rfl rfl ?_
  refine ev_iadd (pc' := 100) (v := 9) dX8_layForm_99 rfl (by decide) ?_
  refine ev_iald (pc' := 101) (j := 9) (v := (I 133) 9) dX8_layForm_100 rfl hs_133 rfl (Nat.le_of_ble_eq_true rfl) (Nat.le_of_ble_eq_true rfl) rfl ?_
  refine ev_i2l (pc' := 102) (v := Int32.toInt64 ((I 133) 9)) dX8_layForm_101 rfl rfl ?_
  refine ev_goto (tgt := 117) dX8_layForm_102 rfl ?_
  refine ev_last (pc' := 118) (j := 9) (L' := (ma_up (ma_up L 132 (ma_up (ma_up (ma_up (ma_up (ma_up (L 132) 0 0) 1 0) 2 (0 + (mW (mSel 3 (I 133) (I 134))))) 3 (((0 + (mW (mSel 1 (I 133) (I 134)))) + (mW (mSel 2 (I 133) (I 134)))) + (mW (mSel 4 (I 133) (I 134))))) 4 (0 + (mW (mSel 0 (I 133) (I 134)))))) 120 (ma_up (ma_up (ma_up (ma_up (ma_up (ma_up (ma_up (ma_up (ma_up (ma_up r5 0 (Int32.toInt64 ((I 133) 0))) 1 (Int32.toInt64 ((I 133) 1))) 2 (Int32.toInt64 ((I 133) 2))) 3 (Int32.toInt64 ((I 133) 3))) 4 (Int32.toInt64 ((I 134) 4))) 5 (Int32.toInt64 ((I 134) 5))) 6 (Int32.toInt64 ((I 134) 6))) 7 (Int32.toInt64 ((I 134) 7))) 8 (Int32.toInt64 ((I 133) 8))) 9 (Int32.toInt64 ((I 133) 9))))) dX8_layForm_117 rfl hs_120 rfl (Nat.le_of_ble_eq_true rfl) (Nat.le_of_ble_eq_true rfl) (ma_up_up _ _ _ _) ?_
  refine ev_iinc (pc' := 121) (v := 2) (lv' := [some (.ref 115), some (.int 5), some (.int 2), some (.int 2), some (.int 1), some (.int 2)]) dX8_layForm_118 rfl rfl (by decide) (Nat.le_of_ble_eq_true rfl) rfl rfl ?_
  refine ev_goto (tgt := 69) dX8_layForm_121 rfl ?_
  refine ev_iload (pc' := 71) dX8_layForm_69 rfl rfl ?_
  refine ev_iconst (pc' := 72) (v := 4) dX8_layForm_71 rfl ki_4 ?_
  refine ev_icmp_ge (tgt := 124) (pc' := 75) dX8_layForm_72 rfl rfl (fun h => absurd h (by decide)) (fun _ => ?_)
  refine ev_aload_n (pc' := 76) (i := 0) dX8_layForm_75 rfl rfl rfl ?_
  refine ev_getR (pc' := 79) fo_X8_26 dX8_layForm_76 rfl hs_115 rfl rf_115_8 ?_
  refine ev_iconst (pc' := 80) (v := 4) dX8_layForm_79 rfl ki_4 ?_
  refine ev_iload_n (pc' := 81) (i := 3) dX8_layForm_80 rfl rfl rfl ?_
  refine ev_imul (pc' := 82) (v := 8) dX8_layForm_81 rfl (by decide) ?_
  refine ev_iload (pc' := 84) dX8_layForm_82 rfl rfl ?_
  refine ev_iadd (pc' := 85) (v := 10) dX8_layForm_84 rfl (by decide) ?_
  refine ev_iload (pc' := 87) dX8_layForm_85 rfl rfl ?_
  refine ev_if_eq (tgt := 105) (pc' := 90) dX8_layForm_87 rfl rfl (fun h => absurd h (by decide)) (fun _ => ?_)
  refine ev_aload_n (pc' := 91) (i := 0) dX8_layForm_90 rfl rfl rfl ?_
  refine ev_getR (pc' := 94) fo_X8_67 dX8_layForm_91 rfl hs_115 rfl rf_115_24 ?_
  refine ev_iconst (pc' := 95) (v := 4) dX8_layForm_94 rfl ki_4 ?_
  refine ev_iload_n (pc' := 96) (i := 3) dX8_layForm_95 rfl rfl rfl ?_
  refine ev_imul (pc' := 97) (v := 8) dX8_layForm_96 rfl (by decide) ?_
  refine ev_iload (pc' := 99) dX8_layForm_97 rfl rfl ?_
  refine ev_iadd (pc' := 100) (v := 10) dX8_layForm_99 rfl (by decide) ?_
  refine ev_iald (pc' := 101) (j := 10) (v := (I 133) 10) dX8_layForm_100 rfl hs_133 rfl (Nat.le_of_ble_eq_true rfl) (Nat.le_of_ble_eq_true rfl) rfl ?_
  refine ev_i2l (pc' := 102) (v := Int32.toInt64 ((I 133) 10)) dX8_layForm_101 rfl rfl ?_
  refine ev_goto (tgt := 117) dX8_layForm_102 rfl ?_
  refine ev_last (pc' := 118) (j := 10) (L' := (ma_up (ma_up L 132 (ma_up (ma_up (ma_up (ma_up (ma_up (L 132) 0 0) 1 0) 2 (0 + (mW (mSel 3 (I 133) (I 134))))) 3 (((0 + (mW (mSel 1 (I 133) (I 134)))) + (mW (mSel 2 (I 133) (I 134)))) + (mW (mSel 4 (I 133) (I 134))))) 4 (0 + (mW (mSel 0 (I 133) (I 134)))))) 120 (ma_up (ma_up (ma_up (ma_up (ma_up (ma_up (ma_up (ma_up (ma_up (ma_up (ma_up r5 0 (Int32.toInt64 ((I 133) 0))) 1 (Int32.toInt64 ((I 133) 1))) 2 (Int32.toInt64 ((I 133) 2))) 3 (Int32.toInt64 ((I 133) 3))) 4 (Int32.toInt64 ((I 134) 4))) 5 (Int32.toInt64 ((I 134) 5))) 6 (Int32.toInt64 ((I 134) 6))) 7 (Int32.toInt64 ((I 134) 7))) 8 (Int32.toInt64 ((I 133) 8))) 9 (Int32.toInt64 ((I 133) 9))) 10 (Int32.toInt64 ((I 133) 10))))) dX8_layForm_117 rfl hs_120 rfl (Nat.le_of_ble_eq_true rfl) (Nat.le_of_ble_eq_true rfl) (ma_up_up _ _ _ _) ?_
  refine ev_iinc (pc' := 121) (v := 3) (lv' := [some (.ref 115), some (.int 5), some (.int 2), some (.int 2), some (.int 1), some (.int 3)]) dX8_layForm_118 rfl rfl (by decide) (Nat.le_of_ble_eq_true rfl) rfl rfl ?_
  refine ev_goto (tgt := 69) dX8_layForm_121 rfl ?_
  refine ev_iload (pc' := 71) dX8_layForm_69 rfl rfl ?_
  refine ev_iconst (pc' := 72) (v := 4) dX8_layForm_71 rfl ki_4 ?_
  refine ev_icmp_ge (tgt := 124) (pc' := 75) dX8_layForm_72 rfl rfl (fun h => absurd h (by decide)) (fun _ => ?_)
  refine ev_aload_n (pc' := 76) (i := 0) dX8_layForm_75 rfl rfl rfl ?_
  refine ev_getR (pc' := 79) fo_X8_26 dX8_layForm_76 rfl hs_115 rfl rf_115_8 ?_
  refine ev_iconst (pc' := 80) (v := 4) dX8_layForm_79 rfl ki_4 ?_
  refine ev_iload_n (pc' := 81) (i := 3) dX8_layForm_80 rfl rfl rfl ?_
  refine ev_imul (pc' := 82) (v := 8) dX8_layForm_81 rfl (by decide) ?_
  refine ev_iload (pc' := 84) dX8_layForm_82 rfl rfl ?_
  refine ev_iadd (pc' := 85) (v := 11) dX8_layForm_84 rfl (by decide) ?_
  refine ev_iload (pc' := 87) dX8_layForm_85 rfl rfl ?_
  refine ev_if_eq (tgt := 105) (pc' := 90) dX8_layForm_87 rfl rfl (fun h => absurd h (by decide)) (fun _ => ?_)
  refine ev_aload_n (pc' := 91) (i := 0) dX8_layForm_90 rfl rfl rfl ?_
  refine ev_getR (pc' := 94) fo_X8_67 dX8_layForm_91 rfl hs_115 rfl rf_115_24 ?_
  refine ev_iconst (pc' := 95) (v := 4) dX8_layForm_94 rfl ki_4 ?_
  refine ev_iload_n (pc' := 96) (i := 3) dX8_layForm_95 rfl rfl rfl ?_
  refine ev_imul (pc' := 97) (v := 8) dX8_layForm_96 rfl (by decide) ?_
  refine ev_iload (pc' := 99) dX8_layForm_97 rfl rfl ?_
  refine ev_iadd (pc' := 100) (v := 11) dX8_layForm_99 rfl (by decide) ?_
  refine ev_iald (pc' := 101) (j := 11) (v := (I 133) 11) dX8_layForm_100 rfl hs_133 rfl (Nat.le_of_ble_eq_true rfl) (Nat.le_of_ble_eq_true rfl) rfl ?_
  refine ev_i2l (pc' := 102) (v := Int32.toInt64 ((I 133) 11)) dX8_layForm_101 rfl rfl ?_
  refine ev_goto (tgt := 117) dX8_layForm_102 rfl ?_
  refine ev_last (pc' := 118) (j := 11) (L' := (ma_up (ma_up L 132 (ma_up (ma_up (ma_up (ma_up (ma_up (L 132) 0 0) 1 0) 2 (0 + (mW (mSel 3 (I 133) (I 134))))) 3 (((0 + (mW (mSel 1 (I 133) (I 134)))) + (mW (mSel 2 (I 133) (I 134)))) + (mW (mSel 4 (I 133) (I 134))))) 4 (0 + (mW (mSel 0 (I 133) (I 134)))))) 120 (ma_up (ma_up (ma_up (ma_up (ma_up (ma_up (ma_up (ma_up (ma_up (ma_up (ma_up (ma_up r5 0 (Int32.toInt64 ((I 133) 0))) 1 (Int32.toInt64 ((I 133) 1))) 2 (Int32.toInt64 ((I 133) 2))) 3 (Int32.toInt64 ((I 133) 3))) 4 (Int32.toInt64 ((I 134) 4))) 5 (Int32.toInt64 ((I 134) 5))) 6 (Int32.toInt64 ((I 134) 6))) 7 (Int32.toInt64 ((I 134) 7))) 8 (Int32.toInt64 ((I 133) 8))) 9 (Int32.toInt64 ((I 133) 9))) 10 (Int32.toInt64 ((I 133) 10))) 11 (Int32.toInt64 ((I 133) 11))))) dX8_layForm_117 rfl hs_120 rfl (Nat.le_of_ble_eq_true rfl) (Nat.le_of_ble_eq_true rfl) (ma_up_up _ _ _ _) ?_
  refine ev_iinc (pc' := 121) (v := 4) (lv' := [some (.ref 115), some (.int 5), some (.int 2), some (.int 2), some (.int 1), some (.int 4)]) dX8_layForm_118 rfl rfl (by decide) (Nat.le_of_ble_eq_true rfl) rfl rfl ?_
  refine ev_goto (tgt := 69) dX8_layForm_121 rfl ?_
  refine ev_iload (pc' := 71) dX8_layForm_69 rfl rfl ?_
  refine ev_iconst (pc' := 72) (v := 4) dX8_layForm_71 rfl ki_4 ?_
  refine ev_icmp_ge (tgt := 124) (pc' := 75) dX8_layForm_72 rfl rfl (fun _ => ?_) (fun h => absurd (by decide) h)
  refine ev_iinc (pc' := 127) (v := 3) (lv' := [some (.ref 115), some (.int 5), some (.int 2), some (.int 3), some (.int 1), some (.int 4)]) dX8_layForm_124 rfl rfl (by decide) (Nat.le_of_ble_eq_true rfl) rfl rfl ?_
  refine ev_goto (tgt := 32) dX8_layForm_127 rfl ?_
  refine ev_iload_n (pc' := 33) (i := 3) dX8_layForm_32 rfl rfl rfl ?_
  refine ev_iconst (pc' := 34) (v := 4) dX8_layForm_33 rfl ki_4 ?_
  refine ev_icmp_ge (tgt := 130) (pc' := 37) dX8_layForm_34 rfl rfl (fun h => absurd h (by decide)) (fun _ => ?_)
  refine ev_iload_n (pc' := 38) (i := 1) dX8_layForm_37 rfl rfl rfl ?_
  refine ev_iload_n (pc' := 39) (i := 3) dX8_layForm_38 rfl rfl rfl ?_
  refine ev_ishr (pc' := 40) (v := 0) dX8_layForm_39 rfl (by decide) ?_
  refine ev_iconst (pc' := 41) (v := 1) dX8_layForm_40 rfl ki_1 ?_
  refine ev_iand (pc' := 42) (v := 0) dX8_layForm_41 rfl (by decide) ?_
  refine ev_iconst (pc' := 43) (v := 1) dX8_layForm_42 rfl ki_1 ?_
  refine ev_icmp_ne (tgt := 50) (pc' := 46) dX8_layForm_43 rfl rfl (fun _ => ?_) (fun h => absurd h (by decide))
  refine ev_iconst (pc' := 51) (v := 0) dX8_layForm_50 rfl ki_0 ?_
  refine ev_istore (pc' := 53) (lv' := [some (.ref 115), some (.int 5), some (.int 2), some (.int 3), some (.int 0), some (.int 4)]) dX8_layForm_51 rfl (Nat.le_of_ble_eq_true rfl) rfl rfl ?_
  refine ev_iload_n (pc' := 54) (i := 2) dX8_layForm_53 rfl rfl rfl ?_
  refine ev_iload (pc' := 56) dX8_layForm_54 rfl rfl ?_
  refine ev_if_eq (tgt := 63) (pc' := 59) dX8_layForm_56 rfl rfl (fun _ => ?_) (fun h => absurd (by decide) h)
  refine ev_iconst (pc' := 64) (v := 0) dX8_layForm_63 rfl ki_0 ?_
  refine ev_iadd (pc' := 65) (v := 2) dX8_layForm_64 rfl (by decide) ?_
  refine ev_istore_n (pc' := 66) (i := 2) (lv' := [some (.ref 115), some (.int 5), some (.int 2), some (.int 3), some (.int 0), some (.int 4)]) dX8_layForm_65 rfl rfl (Nat.le_of_ble_eq_true rfl) rfl rfl ?_
  refine ev_iconst (pc' := 67) (v := 0) dX8_layForm_66 rfl ki_0 ?_
  refine ev_istore (pc' := 69) (lv' := [some (.ref 115), some (.int 5), some (.int 2), some (.int 3), some (.int 0), some (.int 0)]) dX8_layForm_67 rfl (Nat.le_of_ble_eq_true rfl) rfl rfl ?_
  refine ev_iload (pc' := 71) dX8_layForm_69 rfl rfl ?_
  refine ev_iconst (pc' := 72) (v := 4) dX8_layForm_71 rfl ki_4 ?_
  refine ev_icmp_ge (tgt := 124) (pc' := 75) dX8_layForm_72 rfl rfl (fun h => absurd h (by decide)) (fun _ => ?_)
  refine ev_aload_n (pc' := 76) (i := 0) dX8_layForm_75 rfl rfl rfl ?_
  refine ev_getR (pc' := 79) fo_X8_26 dX8_layForm_76 rfl hs_115 rfl rf_115_8 ?_
  refine ev_iconst (pc' := 80) (v := 4) dX8_layForm_79 rfl ki_4 ?_
  refine ev_iload_n (pc' := 81) (i := 3) dX8_layForm_80 rfl rfl rfl ?_
  refine ev_imul (pc' := 82) (v := 12) dX8_layForm_81 rfl (by decide) ?_
  refine ev_iload (pc' := 84) dX8_layForm_82 rfl rfl ?_
  refine ev_iadd (pc' := 85) (v := 12) dX8_layForm_84 rfl (by decide) ?_
  refine ev_iload (pc' := 87) dX8_layForm_85 rfl rfl ?_
  refine ev_if_eq (tgt := 105) (pc' := 90) dX8_layForm_87 rfl rfl (fun _ => ?_) (fun h => absurd (by decide) h)
  refine ev_aload_n (pc' := 106) (i := 0) dX8_layForm_105 rfl rfl rfl ?_
  refine ev_getR (pc' := 109) fo_X8_70 dX8_layForm_106 rfl hs_115 rfl rf_115_25 ?_
  refine ev_iconst (pc' := 110) (v := 4) dX8_layForm_109 rfl ki_4 ?_
  refine ev_iload_n (pc' := 111) (i := 3) dX8_layForm_110 rfl rfl rfl ?_
  refine ev_imul (pc' := 112) (v := 12) dX8_layForm_111 rfl (by decide) ?_
  refine ev_iload (pc' := 114) dX8_layForm_112 rfl rfl ?_
  refine ev_iadd (pc' := 115) (v := 12) dX8_layForm_114 rfl (by decide) ?_
  refine ev_iald (pc' := 116) (j := 12) (v := (I 134) 12) dX8_layForm_115 rfl hs_134 rfl (Nat.le_of_ble_eq_true rfl) (Nat.le_of_ble_eq_true rfl) rfl ?_
  refine ev_i2l (pc' := 117) (v := Int32.toInt64 ((I 134) 12)) dX8_layForm_116 rfl rfl ?_
  refine ev_last (pc' := 118) (j := 12) (L' := (ma_up (ma_up L 132 (ma_up (ma_up (ma_up (ma_up (ma_up (L 132) 0 0) 1 0) 2 (0 + (mW (mSel 3 (I 133) (I 134))))) 3 (((0 + (mW (mSel 1 (I 133) (I 134)))) + (mW (mSel 2 (I 133) (I 134)))) + (mW (mSel 4 (I 133) (I 134))))) 4 (0 + (mW (mSel 0 (I 133) (I 134)))))) 120 (ma_up (ma_up (ma_up (ma_up (ma_up (ma_up (ma_up (ma_up (ma_up (ma_up (ma_up (ma_up (ma_up r5 0 (Int32.toInt64 ((I 133) 0))) 1 (Int32.toInt64 ((I 133) 1))) 2 (Int32.toInt64 ((I 133) 2))) 3 (Int32.toInt64 ((I 133) 3))) 4 (Int32.toInt64 ((I 134) 4))) 5 (Int32.toInt64 ((I 134) 5))) 6 (Int32.toInt64 ((I 134) 6))) 7 (Int32.toInt64 ((I 134) 7))) 8 (Int32.toInt64 ((I 133) 8))) 9 (Int32.toInt64 ((I 133) 9))) 10 (Int32.toInt64 ((I 133) 10))) 11 (Int32.toInt64 ((I 133) 11))) 12 (Int32.toInt64 ((I 134) 12))))) dX8_layForm_117 rfl hs_120 rfl (Nat.le_of_ble_eq_true rfl) (Nat.le_of_ble_eq_true rfl) (ma_up_up _ _ _ _) ?_
  refine ev_iinc (pc' := 121) (v := 1) (lv' := [some (.ref 115), some (.int 5), some (.int 2), some (.int 3), some (.int 0), some (.int 1)]) dX8_layForm_118 rfl rfl (by decide) (Nat.le_of_ble_eq_true rfl) rfl rfl ?_
  refine ev_goto (tgt := 69) dX8_layForm_121 rfl ?_
  refine ev_iload (pc' := 71) dX8_layForm_69 rfl rfl ?_
  refine ev_iconst (pc' := 72) (v := 4) dX8_layForm_71 rfl ki_4 ?_
  refine ev_icmp_ge (tgt := 124) (pc' := 75) dX8_layForm_72 rfl rfl (fun h => absurd h (by decide)) (fun _ => ?_)
  refine ev_aload_n (pc' := 76) (i := 0) dX8_layForm_75 rfl rfl rfl ?_
  refine ev_getR (pc' := 79) fo_X8_26 dX8_layForm_76 rfl hs_115 rfl rf_115_8 ?_
  refine ev_iconst (pc' := 80) (v := 4) dX8_layForm_79 rfl ki_4 ?_
  refine ev_iload_n (pc' := 81) (i := 3) dX8_layForm_80 rfl rfl rfl ?_
  refine ev_imul (pc' := 82) (v := 12) dX8_layForm_81 rfl (by decide) ?_
  refine ev_iload (pc' := 84) dX8_layForm_82 rfl rfl ?_
  refine ev_iadd (pc' := 85) (v := 13) dX8_layForm_84 rfl (by decide) ?_
  refine ev_iload (pc' := 87) dX8_layForm_85 rfl rfl ?_
  refine ev_if_eq (tgt := 105) (pc' := 90) dX8_layForm_87 rfl rfl (fun _ => ?_) (fun h => absurd (by decide) h)
  refine ev_aload_n (pc' := 106) (i := 0) dX8_layForm_105 rfl rfl rfl ?_
  refine ev_getR (pc' := 109) fo_X8_70 dX8_layForm_106 rfl hs_115 rfl rf_115_25 ?_
  refine ev_iconst (pc' := 110) (v := 4) dX8_layForm_109 rfl ki_4 ?_
  refine ev_iload_n (pc' := 111) (i := 3) dX8_layForm_110 rfl rfl rfl ?_
  refine ev_imul (pc' := 112) (v := 12) dX8_layForm_111 rfl (by decide) ?_
  refine ev_iload (pc' := 114) dX8_layForm_112 rfl rfl ?_
  refine ev_iadd (pc' := 115) (v := 13) dX8_layForm_114 rfl (by decide) ?_
  refine ev_iald (pc' := 116) (j := 13) (v := (I 134) 13) dX8_layForm_115 rfl hs_134 rfl (Nat.le_of_ble_eq_true rfl) (Nat.le_of_ble_eq_true rfl) rfl ?_
  refine ev_i2l (pc' := 117) (v := Int32.toInt64 ((I 134) 13)) dX8_layForm_116 rfl rfl ?_
  refine ev_last (pc' := 118) (j := 13) (L' := (ma_up (ma_up L 132 (ma_up (ma_up (ma_up (ma_up (ma_up (L 132) 0 0) 1 0) 2 (0 + (mW (mSel 3 (I 133) (I 134))))) 3 (((0 + (mW (mSel 1 (I 133) (I 134)))) + (mW (mSel 2 (I 133) (I 134)))) + (mW (mSel 4 (I 133) (I 134))))) 4 (0 + (mW (mSel 0 (I 133) (I 134)))))) 120 (ma_up (ma_up (ma_up (ma_up (ma_up (ma_up (ma_up (ma_up (ma_up (ma_up (ma_up (ma_up (ma_up (ma_up r5 0 (Int32.toInt64 ((I 133) 0))) 1 (Int32.toInt64 ((I 133) 1))) 2 (Int32.toInt64 ((I 133) 2))) 3 (Int32.toInt64 ((I 133) 3))) 4 (Int32.toInt64 ((I 134) 4))) 5 (Int32.toInt64 ((I 134) 5))) 6 (Int32.toInt64 ((I 134) 6))) 7 (Int32.toInt64 ((I 134) 7))) 8 (Int32.toInt64 ((I 133) 8))) 9 (Int32.toInt64 ((I 133) 9))) 10 (Int32.toInt64 ((I 133) 10))) 11 (Int32.toInt64 ((I 133) 11))) 12 (Int32.toInt64 ((I 134) 12))) 13 (Int32.toInt64 ((I 134) 13))))) dX8_layForm_117 rfl hs_120 rfl (Nat.le_of_ble_eq_true rfl) (Nat.le_of_ble_eq_true rfl) (ma_up_up _ _ _ _) ?_
  refine ev_iinc (pc' := 121) (v := 2) (lv' := [some (.ref 115), some (.int 5), some (.int 2), some (.int 3), some (.int 0), some (.int 2)]) dX8_layForm_118 rfl rfl (by decide) (Nat.le_of_ble_eq_true rfl) rfl rfl ?_
  refine ev_goto (tgt := 69) dX8_layForm_121 rfl ?_
  refine ev_iload (pc' := 71) dX8_layForm_69 rfl rfl ?_
  refine ev_iconst (pc' := 72) (v := 4) dX8_layForm_71 rfl ki_4 ?_
  refine ev_icmp_ge (tgt := 124) (pc' := 75) dX8_layForm_72 rfl rfl (fun h => absurd h (by decide)) (fun _ => ?_)
  refine ev_aload_n (pc' := 76) (i := 0) dX8_layForm_75 rfl rfl rfl ?_
  refine ev_getR (pc' := 79) fo_X8_26 dX8_layForm_76 rfl hs_115 rfl rf_115_8 ?_
  refine ev_iconst (pc' := 80) (v := 4) dX8_layForm_79 rfl ki_4 ?_
  refine ev_iload_n (pc' := 81) (i := 3) dX8_layForm_80 rfl rfl rfl ?_
  refine ev_imul (pc' := 82) (v := 12) dX8_layForm_81 rfl (by decide) ?_
  refine ev_iload (pc' := 84) dX8_layForm_82 rfl rfl ?_
  refine ev_iadd (pc' := 85) (v := 14) dX8_layForm_84 rfl (by decide) ?_
  refine ev_iload (pc' := 87) dX8_layForm_85 rfl rfl ?_
  refine ev_if_eq (tgt := 105) (pc' := 90) dX8_layForm_87 rfl rfl (fun _ => ?_) (fun h => absurd (by decide) h)
  refine ev_aload_n (pc' := 106) (i := 0) dX8_layForm_105 rfl rfl rfl ?_
  refine ev_getR (pc' := 109) fo_X8_70 dX8_layForm_106 rfl hs_115 rfl rf_115_25 ?_
  refine ev_iconst (pc' := 110) (v := 4) dX8_layForm_109 rfl ki_4 ?_
  refine ev_iload_n (pc' := 111) (i := 3) dX8_layForm_110 rfl rfl rfl ?_
  refine ev_imul (pc' := 112) (v := 12) dX8_layForm_111 rfl (by decide) ?_
  refine ev_iload (pc' := 114) dX8_layForm_112 rfl rfl ?_
  refine ev_iadd (pc' := 115) (v := 14) dX8_layForm_114 rfl (by decide) ?_
  refine ev_iald (pc' := 116) (j := 14) (v := (I 134) 14) dX8_layForm_115 rfl hs_134 rfl (Nat.le_of_ble_eq_true rfl) (Nat.le_of_ble_eq_true rfl) rfl ?_
  refine ev_i2l (pc' := 117) (v := Int32.toInt64 ((I 134) 14)) dX8_layForm_116 rfl rfl ?_
  refine ev_last (pc' := 118) (j := 14) (L' := (ma_up (ma_up L 132 (ma_up (ma_up (ma_up (ma_up (ma_up (L 132) 0 0) 1 0) 2 (0 + (mW (mSel 3 (I 133) (I 134))))) 3 (((0 + (mW (mSel 1 (I 133) (I 134)))) + (mW (mSel 2 (I 133) (I 134)))) + (mW (mSel 4 (I 133) (I 134))))) 4 (0 + (mW (mSel 0 (I 133) (I 134)))))) 120 (ma_up (ma_up (ma_up (ma_up (ma_up (ma_up (ma_up (ma_up (ma_up (ma_up (ma_up (ma_up (ma_up (ma_up (ma_up r5 0 (Int32.toInt64 ((I 133) 0))) 1 (Int32.toInt64 ((I 133) 1))) 2 (Int32.toInt64 ((I 133) 2))) 3 (Int32.toInt64 ((I 133) 3))) 4 (Int32.toInt64 ((I 134) 4))) 5 (Int32.toInt64 ((I 134) 5))) 6 (Int32.toInt64 ((I 134) 6))) 7 (Int32.toInt64 ((I 134) 7))) 8 (Int32.toInt64 ((I 133) 8))) 9 (Int32.toInt64 ((I 133) 9))) 10 (Int32.toInt64 ((I 133) 10))) 11 (Int32.toInt64 ((I 133) 11))) 12 (Int32.toInt64 ((I 134) 12))) 13 (Int32.toInt64 ((I 134) 13))) 14 (Int32.toInt64 ((I 134) 14))))) dX8_layForm_117 rfl hs_120 rfl (Nat.le_of_ble_eq_true rfl) (Nat.le_of_ble_eq_true rfl) (ma_up_up _ _ _ _) ?_
  refine ev_iinc (pc' := 121) (v := 3) (lv' := [some (.ref 115), some (.int 5), some (.int 2), some (.int 3), some (.int 0), some (.int 3)]) dX8_layForm_118 rfl rfl (by decide) (Nat.le_of_ble_eq_true rfl) rfl rfl ?_
  refine ev_goto (tgt := 69) dX8_layForm_121 rfl ?_
  refine ev_iload (pc' := 71) dX8_layForm_69 rfl rfl ?_
  refine ev_iconst (pc' := 72) (v := 4) dX8_layForm_71 rfl ki_4 ?_
  refine ev_icmp_ge (tgt := 124) (pc' := 75) dX8_layForm_72 rfl rfl (fun h => absurd h (by decide)) (fun _ => ?_)
  refine ev_aload_n (pc' := 76) (i := 0) dX8_layForm_75 rfl rfl rfl ?_
  refine ev_getR (pc' := 79) fo_X8_26 dX8_layForm_76 rfl hs_115 rfl rf_115_8 ?_
  refine ev_iconst (pc' := 80) (v := 4) dX8_layForm_79 rfl ki_4 ?_
  refine ev_iload_n (pc' := 81) (i := 3) dX8_layForm_80 rfl rfl rfl ?_
  refine ev_imul (pc' := 82) (v := 12) dX8_layForm_81 rfl (by decide) ?_
  refine ev_iload (pc' := 84) dX8_layForm_82 rfl rfl ?_
  refine ev_iadd (pc' := 85) (v := 15) dX8_layForm_84 rfl (by decide) ?_
  refine ev_iload (pc' := 87) dX8_layForm_85 rfl rfl ?_
  refine ev_if_eq (tgt := 105) (pc' := 90) dX8_layForm_87 rfl rfl (fun _ => ?_) (fun h => absurd (by decide) h)
  refine ev_aload_n (pc' := 106) (i := 0) dX8_layForm_105 rfl rfl rfl ?_
  refine ev_getR (pc' := 109) fo_X8_70 dX8_layForm_106 rfl hs_115 rfl rf_115_25 ?_
  refine ev_iconst (pc' := 110) (v := 4) dX8_layForm_109 rfl ki_4 ?_
  refine ev_iload_n (pc' := 111) (i := 3) dX8_layForm_110 rfl rfl rfl ?_
  refine ev_imul (pc' := 112) (v := 12) dX8_layForm_111 rfl (by decide) ?_
  refine ev_iload (pc' := 114) dX8_layForm_112 rfl rfl ?_
  refine ev_iadd (pc' := 115) (v := 15) dX8_layForm_114 rfl (by decide) ?_
  refine ev_iald (pc' := 116) (j := 15) (v := (I 134) 15) dX8_layForm_115 rfl hs_134 rfl (Nat.le_of_ble_eq_true rfl) (Nat.le_of_ble_eq_true rfl) rfl ?_
  refine ev_i2l (pc' := 117) (v := Int32.toInt64 ((I 134) 15)) dX8_layForm_116 rfl rfl ?_
  refine ev_last (pc' := 118) (j := 15) (L' := (ma_up (ma_up L 132 (ma_up (ma_up (ma_up (ma_up (ma_up (L 132) 0 0) 1 0) 2 (0 + (mW (mSel 3 (I 133) (I 134))))) 3 (((0 + (mW (mSel 1 (I 133) (I 134)))) + (mW (mSel 2 (I 133) (I 134)))) + (mW (mSel 4 (I 133) (I 134))))) 4 (0 + (mW (mSel 0 (I 133) (I 134)))))) 120 (ma_up (ma_up (ma_up (ma_up (ma_up (ma_up (ma_up (ma_up (ma_up (ma_up (ma_up (ma_up (ma_up (ma_up (ma_up (ma_up r5 0 (Int32.toInt64 ((I 133) 0))) 1 (Int32.toInt64 ((I 133) 1))) 2 (Int32.toInt64 ((I 133) 2))) 3 (Int32.toInt64 ((I 133) 3))) 4 (Int32.toInt64 ((I 134) 4))) 5 (Int32.toInt64 ((I 134) 5))) 6 (Int32.toInt64 ((I 134) 6))) 7 (Int32.toInt64 ((I 134) 7))) 8 (Int32.toInt64 ((I 133) 8))) 9 (Int32.toInt64 ((I 133) 9))) 10 (Int32.toInt64 ((I 133) 10))) 11 (Int32.toInt64 ((I 133) 11))) 12 (Int32.toInt64 ((I 134) 12))) 13 (Int32.toInt64 ((I 134) 13))) 14 (Int32.toInt64 ((I 134) 14))) 15 (Int32.toInt64 ((I 134) 15))))) dX8_layForm_117 rfl hs_120 rfl (Nat.le_of_ble_eq_true rfl) (Nat.le_of_ble_eq_true rfl) (ma_up_up _ _ _ _) ?_
  refine ev_iinc (pc' := 121) (v := 4) (lv' := [some (.ref 115), some (.int 5), some (.int 2), some (.int 3), some (.int 0), some (.int 4)]) dX8_layForm_118 rfl rfl (by decide) (Nat.le_of_ble_eq_true rfl) rfl rfl ?_
  refine ev_goto (tgt := 69) dX8_layForm_121 rfl ?_
  refine ev_iload (pc' := 71) dX8_layForm_69 rfl rfl ?_
  refine ev_iconst (pc' := 72) (v := 4) dX8_layForm_71 rfl ki_4 ?_
  refine ev_icmp_ge (tgt := 124) (pc' := 75) dX8_layForm_72 rfl rfl (fun _ => ?_) (fun h => absurd (by decide) h)
  refine ev_iinc (pc' := 127) (v := 4) (lv' := [some (.ref 115), some (.int 5), some (.int 2), some (.int 4), some (.int 0), some (.int 4)]) dX8_layForm_124 rfl rfl (by decide) (Nat.le_of_ble_eq_true rfl) rfl rfl ?_
  refine ev_goto (tgt := 32) dX8_layForm_127 rfl ?_
  refine ev_iload_n (pc' := 33) (i := 3) dX8_layForm_32 rfl rfl rfl ?_
  refine ev_iconst (pc' := 34) (v := 4) dX8_layForm_33 rfl ki_4 ?_
  refine ev_icmp_ge (tgt := 130) (pc' := 37) dX8_layForm_34 rfl rfl (fun _ => ?_) (fun h => absurd (by decide) h)
  refine ev_aload_n (pc' := 131) (i := 0) dX8_layForm_130 rfl rfl rfl ?_
  refine ev_getR (pc' := 134) fo_X8_64 dX8_layForm_131 rfl hs_115 rfl rf_115_23 ?_
  refine ev_iconst (pc' := 135) (v := 4) dX8_layForm_134 rfl ki_4 ?_
  refine ev_iload_n (pc' := 136) (i := 2) dX8_layForm_135 rfl rfl rfl ?_
  refine ev_isub (pc' := 137) (v := 2) dX8_layForm_136 rfl (by decide) ?_
  refine ev_dup2 (pc' := 138) dX8_layForm_137 rfl rfl rfl ?_
  refine ev_lald (pc' := 139) (j := 2) (v := 0 + (mW (mSel 3 (I 133) (I 134)))) dX8_layForm_138 rfl hs_132 rfl (Nat.le_of_ble_eq_true rfl) (Nat.le_of_ble_eq_true rfl) rfl ?_
  refine ev_aload_n (pc' := 140) (i := 0) dX8_layForm_139 rfl rfl rfl ?_
  refine ev_getR (pc' := 143) fo_X8_26 dX8_layForm_140 rfl hs_115 rfl rf_115_8 ?_
  refine ev_callS (pc' := 146) (rm' := rX8_worthOf) (av := [.ref 120]) (rest := [.long (0 + (mW (mSel 3 (I 133) (I 134)))), .int 2, .ref 132]) co_X8_173 cs_X8_worthOf dX8_layForm_143 rfl rfl rfl (Nat.le_of_ble_eq_true rfl) ⟨(Nat.le_of_ble_eq_true rfl), (Nat.le_of_ble_eq_true rfl)⟩ ⟨(Nat.le_of_ble_eq_true rfl), (Nat.le_of_ble_eq_true rfl)⟩ ?_
  refine t_X8_worthOf 120 hs_120 ?_
  refine ev_eql (w := mW (mSel 5 (I 133) (I 134))) rfl ?_
  refine ev_ladd (pc' := 147) (v := (0 + (mW (mSel 3 (I 133) (I 134)))) + (mW (mSel 5 (I 133) (I 134)))) dX8_layForm_146 rfl rfl ?_
  refine ev_last (pc' := 148) (j := 2) (L' := (ma_up (ma_up L 132 (ma_up (ma_up (ma_up (ma_up (ma_up (L 132) 0 0) 1 0) 2 ((0 + (mW (mSel 3 (I 133) (I 134)))) + (mW (mSel 5 (I 133) (I 134))))) 3 (((0 + (mW (mSel 1 (I 133) (I 134)))) + (mW (mSel 2 (I 133) (I 134)))) + (mW (mSel 4 (I 133) (I 134))))) 4 (0 + (mW (mSel 0 (I 133) (I 134)))))) 120 (ma_up (ma_up (ma_up (ma_up (ma_up (ma_up (ma_up (ma_up (ma_up (ma_up (ma_up (ma_up (ma_up (ma_up (ma_up (ma_up r5 0 (Int32.toInt64 ((I 133) 0))) 1 (Int32.toInt64 ((I 133) 1))) 2 (Int32.toInt64 ((I 133) 2))) 3 (Int32.toInt64 ((I 133) 3))) 4 (Int32.toInt64 ((I 134) 4))) 5 (Int32.toInt64 ((I 134) 5))) 6 (Int32.toInt64 ((I 134) 6))) 7 (Int32.toInt64 ((I 134) 7))) 8 (Int32.toInt64 ((I 133) 8))) 9 (Int32.toInt64 ((I 133) 9))) 10 (Int32.toInt64 ((I 133) 10))) 11 (Int32.toInt64 ((I 133) 11))) 12 (Int32.toInt64 ((I 134) 12))) 13 (Int32.toInt64 ((I 134) 13))) 14 (Int32.toInt64 ((I 134) 14))) 15 (Int32.toInt64 ((I 134) 15))))) dX8_layForm_147 rfl hs_132 rfl (Nat.le_of_ble_eq_true rfl) (Nat.le_of_ble_eq_true rfl) ((congrArg (ma_up _ 132) ((ma_up_comm _ (show 2 ≠ 4 from (by decide)) _ _).trans (congrArg (fun f => ma_up f 4 _) ((ma_up_comm _ (show 2 ≠ 3 from (by decide)) _ _).trans (congrArg (fun f => ma_up f 3 _) (ma_up_up _ _ _ _)))))).trans ((ma_up_comm _ (show 132 ≠ 120 from (by decide)) _ _).trans (congrArg (fun f => ma_up f 120 _) (ma_up_up _ _ _ _)))) ?_
  refine ev_iinc (pc' := 151) (v := 6) (lv' := [some (.ref 115), some (.int 6), some (.int 2), some (.int 4), some (.int 0), some (.int 4)]) dX8_layForm_148 rfl rfl (by decide) (Nat.le_of_ble_eq_true rfl) rfl rfl ?_
  refine ev_goto (tgt := 22) dX8_layForm_151 rfl ?_
  refine ev_rowL (fun r6 => ?_)
  refine ev_iload_n (pc' := 23) (i := 1) dX8_layForm_22 rfl rfl rfl ?_
  refine ev_bipush (pc' := 25) (v := 16) dX8_layForm_23 rfl kb_16 ?_
  refine ev_icmp_ge (tgt := 154) (pc' := 28) dX8_layForm_25 rfl rfl (fun h => absurd h (by decide)) (fun _ => ?_)
  refine ev_iconst (pc' := 29) (v := 0) dX8_layForm_28 rfl ki_0 ?_
  refine ev_istore_n (pc' := 30) (i := 2) (lv' := [some (.ref 115), some (.int 6), some (.int 0), some (.int 4), some (.int 0), some (.int 4)]) dX8_layForm_29 rfl rfl (Nat.le_of_ble_eq_true rfl) rfl rfl ?_
  refine ev_iconst (pc' := 31) (v := 0) dX8_layForm_30 rfl ki_0 ?_
  refine ev_istore_n (pc' := 32) (i := 3) (lv' := [some (.ref 115), some (.int 6), some (.int 0), some (.int 0), some (.int 0), some (.int 4)]) dX8_layForm_31 rfl rfl (Nat.le_of_ble_eq_true rfl) rfl rfl ?_
  refine ev_iload_n (pc' := 33) (i := 3) dX8_layForm_32 rfl rfl rfl ?_
  refine ev_iconst (pc' := 34) (v := 4) dX8_layForm_33 rfl ki_4 ?_
  refine ev_icmp_ge (tgt := 130) (pc' := 37) dX8_layForm_34 rfl rfl (fun h => absurd h (by decide)) (fun _ => ?_)
  refine ev_iload_n (pc' := 38) (i := 1) dX8_layForm_37 rfl rfl rfl ?_
  refine ev_iload_n (pc' := 39) (i := 3) dX8_layForm_38 rfl rfl rfl ?_
  refine ev_ishr (pc' := 40) (v := 6) dX8_layForm_39 rfl (by decide) ?_
  refine ev_iconst (pc' := 41) (v := 1) dX8_layForm_40 rfl ki_1 ?_
  refine ev_iand (pc' := 42) (v := 0) dX8_layForm_41 rfl (by decide) ?_
  refine ev_iconst (pc' := 43) (v := 1) dX8_layForm_42 rfl ki_1 ?_
  refine ev_icmp_ne (tgt := 50) (pc' := 46) dX8_layForm_43 rfl rfl (fun _ => ?_) (fun h => absurd h (by decide))
  refine ev_iconst (pc' := 51) (v := 0) dX8_layForm_50 rfl ki_0 ?_
  refine ev_istore (pc' := 53) (lv' := [some (.ref 115), some (.int 6), some (.int 0), some (.int 0), some (.int 0), some (.int 4)]) dX8_layForm_51 rfl (Nat.le_of_ble_eq_true rfl) rfl rfl ?_
  refine ev_iload_n (pc' := 54) (i := 2) dX8_layForm_53 rfl rfl rfl ?_
  refine ev_iload (pc' := 56) dX8_layForm_54 rfl rfl ?_
  refine ev_if_eq (tgt := 63) (pc' := 59) dX8_layForm_56 rfl rfl (fun _ => ?_) (fun h => absurd (by decide) h)
  refine ev_iconst (pc' := 64) (v := 0) dX8_layForm_63 rfl ki_0 ?_
  refine ev_iadd (pc' := 65) (v := 0) dX8_layForm_64 rfl (by decide) ?_
  refine ev_istore_n (pc' := 66) (i := 2) (lv' := [some (.ref 115), some (.int 6), some (.int 0), some (.int 0), some (.int 0), some (.int 4)]) dX8_layForm_65 rfl rfl (Nat.le_of_ble_eq_true rfl) rfl rfl ?_
  refine ev_iconst (pc' := 67) (v := 0) dX8_layForm_66 rfl ki_0 ?_
  refine ev_istore (pc' := 69) (lv' := [some (.ref 115), some (.int 6), some (.int 0), some (.int 0), some (.int 0), some (.int 0)]) dX8_layForm_67 rfl (Nat.le_of_ble_eq_true rfl) rfl rfl ?_
  refine ev_iload (pc' := 71) dX8_layForm_69 rfl rfl ?_
  refine ev_iconst (pc' := 72) (v := 4) dX8_layForm_71 rfl ki_4 ?_
  refine ev_icmp_ge (tgt := 124) (pc' := 75) dX8_layForm_72 rfl rfl (fun h => absurd h (by decide)) (fun _ => ?_)
  refine ev_aload_n (pc' := 76) (i := 0) dX8_layForm_75 rfl rfl rfl ?_
  refine ev_getR (pc' := 79) fo_X8_26 dX8_layForm_76 rfl hs_115 rfl rf_115_8 ?_
  refine ev_iconst (pc' := 80) (v := 4) dX8_layForm_79 rfl ki_4 ?_
  refine ev_iload_n (pc' := 81) (i := 3) dX8_layForm_80 rfl rfl rfl ?_
  refine ev_imul (pc' := 82) (v := 0) dX8_layForm_81 rfl (by decide) ?_
  refine ev_iload (pc' := 84) dX8_layForm_82 rfl rfl ?_
  refine ev_iadd (pc' := 85) (v := 0) dX8_layForm_84 rfl (by decide) ?_
  refine ev_iload (pc' := 87) dX8_layForm_85 rfl rfl ?_
  refine ev_if_eq (tgt := 105) (pc' := 90) dX8_layForm_87 rfl rfl (fun _ => ?_) (fun h => absurd (by decide) h)
  refine ev_aload_n (pc' := 106) (i := 0) dX8_layForm_105 rfl rfl rfl ?_
  refine ev_getR (pc' := 109) fo_X8_70 dX8_layForm_106 rfl hs_115 rfl rf_115_25 ?_
  refine ev_iconst (pc' := 110) (v := 4) dX8_layForm_109 rfl ki_4 ?_
  refine ev_iload_n (pc' := 111) (i := 3) dX8_layForm_110 rfl rfl rfl ?_
  refine ev_imul (pc' := 112) (v := 0) dX8_layForm_111 rfl (by decide) ?_
  refine ev_iload (pc' := 114) dX8_layForm_112 rfl rfl ?_
  refine ev_iadd (pc' := 115) (v := 0) dX8_layForm_114 rfl (by decide) ?_
  refine ev_iald (pc' := 116) (j := 0) (v := (I 134) 0) dX8_layForm_115 rfl hs_134 rfl (Nat.le_of_ble_eq_true rfl) (Nat.le_of_ble_eq_true rfl) rfl ?_
  refine ev_i2l (pc' := 117) (v := Int32.toInt64 ((I 134) 0)) dX8_layForm_116 rfl rfl ?_
  refine ev_last (pc' := 118) (j := 0) (L' := (ma_up (ma_up L 132 (ma_up (ma_up (ma_up (ma_up (ma_up (L 132) 0 0) 1 0) 2 ((0 + (mW (mSel 3 (I 133) (I 134)))) + (mW (mSel 5 (I 133) (I 134))))) 3 (((0 + (mW (mSel 1 (I 133) (I 134)))) + (mW (mSel 2 (I 133) (I 134)))) + (mW (mSel 4 (I 133) (I 134))))) 4 (0 + (mW (mSel 0 (I 133) (I 134)))))) 120 (ma_up r6 0 (Int32.toInt64 ((I 134) 0))))) dX8_layForm_117 rfl hs_120 rfl (Nat.le_of_ble_eq_true rfl) (Nat.le_of_ble_eq_true rfl) (ma_up_up _ _ _ _) ?_
  refine ev_iinc (pc' := 121) (v := 1) (lv' := [some (.ref 115), some (.int 6), some (.int 0), some (.int 0), some (.int 0), some (.int 1)]) dX8_layForm_118 rfl rfl (by decide) (Nat.le_of_ble_eq_true rfl) rfl rfl ?_
  refine ev_goto (tgt := 69) dX8_layForm_121 rfl ?_
  refine ev_iload (pc' := 71) dX8_layForm_69 rfl rfl ?_
  refine ev_iconst (pc' := 72) (v := 4) dX8_layForm_71 rfl ki_4 ?_
  refine ev_icmp_ge (tgt := 124) (pc' := 75) dX8_layForm_72 rfl rfl (fun h => absurd h (by decide)) (fun _ => ?_)
  refine ev_aload_n (pc' := 76) (i := 0) dX8_layForm_75 rfl rfl rfl ?_
  refine ev_getR (pc' := 79) fo_X8_26 dX8_layForm_76 rfl hs_115 rfl rf_115_8 ?_
  refine ev_iconst (pc' := 80) (v := 4) dX8_layForm_79 rfl ki_4 ?_
  refine ev_iload_n (pc' := 81) (i := 3) dX8_layForm_80 rfl rfl rfl ?_
  refine ev_imul (pc' := 82) (v := 0) dX8_layForm_81 rfl (by decide) ?_
  refine ev_iload (pc' := 84) dX8_layForm_82 rfl rfl ?_
  refine ev_iadd (pc' := 85) (v := 1) dX8_layForm_84 rfl (by decide) ?_
  refine ev_iload (pc' := 87) dX8_layForm_85 rfl rfl ?_
  refine ev_if_eq (tgt := 105) (pc' := 90) dX8_layForm_87 rfl rfl (fun _ => ?_) (fun h => absurd (by decide) h)
  refine ev_aload_n (pc' := 106) (i := 0) dX8_layForm_105 rfl rfl rfl ?_
  refine ev_getR (pc' := 109) fo_X8_70 dX8_layForm_106 rfl hs_115 rfl rf_115_25 ?_
  refine ev_iconst (pc' := 110) (v := 4) dX8_layForm_109 rfl ki_4 ?_
  refine ev_iload_n (pc' := 111) (i := 3) dX8_layForm_110 rfl rfl rfl ?_
  refine ev_imul (pc' := 112) (v := 0) dX8_layForm_111 rfl (by decide) ?_
  refine ev_iload (pc' := 114) dX8_layForm_112 rfl rfl ?_
  refine ev_iadd (pc' := 115) (v := 1) dX8_layForm_114 rfl (by decide) ?_
  refine ev_iald (pc' := 116) (j := 1) (v := (I 134) 1) dX8_layForm_115 rfl hs_134 rfl (Nat.le_of_ble_eq_true rfl) (Nat.le_of_ble_eq_true rfl) rfl ?_
  refine ev_i2l (pc' := 117) (v := Int32.toInt64 ((I 134) 1)) dX8_layForm_116 rfl rfl ?_
  refine ev_last (pc' := 118) (j := 1) (L' := (ma_up (ma_up L 132 (ma_up (ma_up (ma_up (ma_up (ma_up (L 132) 0 0) 1 0) 2 ((0 + (mW (mSel 3 (I 133) (I 134)))) + (mW (mSel 5 (I 133) (I 134))))) 3 (((0 + (mW (mSel 1 (I 133) (I 134)))) + (mW (mSel 2 (I 133) (I 134)))) + (mW (mSel 4 (I 133) (I 134))))) 4 (0 + (mW (mSel 0 (I 133) (I 134)))))) 120 (ma_up (ma_up r6 0 (Int32.toInt64 ((I 134) 0))) 1 (Int32.toInt64 ((I 134) 1))))) dX8_layForm_117 rfl hs_120 rfl (Nat.le_of_ble_eq_true rfl) (Nat.le_of_ble_eq_true rfl) (ma_up_up _ _ _ _) ?_
  refine ev_iinc (pc' := 121) (v := 2) (lv' := [some (.ref 115), some (.int 6), some (.int 0), some (.int 0), some (.int 0), some (.int 2)]) dX8_layForm_118 rfl rfl (by decide) (Nat.le_of_ble_eq_true rfl) rfl rfl ?_
  refine ev_goto (tgt := 69) dX8_layForm_121 rfl ?_
  refine ev_iload (pc' := 71) dX8_layForm_69 rfl rfl ?_
  refine ev_iconst (pc' := 72) (v := 4) dX8_layForm_71 rfl ki_4 ?_
  refine ev_icmp_ge (tgt := 124) (pc' := 75) dX8_layForm_72 rfl rfl (fun h => absurd h (by decide)) (fun _ => ?_)
  refine ev_aload_n (pc' := 76) (i := 0) dX8_layForm_75 rfl rfl rfl ?_
  refine ev_getR (pc' := 79) fo_X8_26 dX8_layForm_76 rfl hs_115 rfl rf_115_8 ?_
  refine ev_iconst (pc' := 80) (v := 4) dX8_layForm_79 rfl ki_4 ?_
  refine ev_iload_n (pc' := 81) (i := 3) dX8_layForm_80 rfl rfl rfl ?_
  refine ev_imul (pc' := 82) (v := 0) dX8_layForm_81 rfl (by decide) ?_
  refine ev_iload (pc' := 84) dX8_layForm_82 rfl rfl ?_
  refine ev_iadd (pc' := 85) (v := 2) dX8_layForm_84 rfl (by decide) ?_
  refine ev_iload (pc' := 87) dX8_layForm_85 rfl rfl ?_
  refine ev_if_eq (tgt := 105) (pc' := 90) dX8_layForm_87 rfl rfl (fun _ => ?_) (fun h => absurd (by decide) h)
  refine ev_aload_n (pc' := 106) (i := 0) dX8_layForm_105 rfl rfl rfl ?_
  refine ev_getR (pc' := 109) fo_X8_70 dX8_layForm_106 rfl hs_115 rfl rf_115_25 ?_
  refine ev_iconst (pc' := 110) (v := 4) dX8_layForm_109 rfl ki_4 ?_
  refine ev_iload_n (pc' := 111) (i := 3) dX8_layForm_110 rfl rfl rfl ?_
  refine ev_imul (pc' := 112) (v := 0) dX8_layForm_111 rfl (by decide) ?_
  refine ev_iload (pc' := 114) dX8_layForm_112 rfl rfl ?_
  refine ev_iadd (pc' := 115) (v := 2) dX8_layForm_114 rfl (by decide) ?_
  refine ev_iald (pc' := 116) (j := 2) (v := (I 134) 2) dX8_layForm_115 rfl hs_134 rfl (Nat.le_of_ble_eq_true rfl) (Nat.le_of_ble_eq_true rfl) rfl ?_
  refine ev_i2l (pc' := 117) (v := Int32.toInt64 ((I 134) 2)) dX8_layForm_116 rfl rfl ?_
  refine ev_last (pc' := 118) (j := 2) (L' := (ma_up (ma_up L 132 (ma_up (ma_up (ma_up (ma_up (ma_up (L 132) 0 0) 1 0) 2 ((0 + (mW (mSel 3 (I 133) (I 134)))) + (mW (mSel 5 (I 133) (I 134))))) 3 (((0 + (mW (mSel 1 (I 133) (I 134)))) + (mW (mSel 2 (I 133) (I 134)))) + (mW (mSel 4 (I 133) (I 134))))) 4 (0 + (mW (mSel 0 (I 133) (I 134)))))) 120 (ma_up (ma_up (ma_up r6 0 (Int32.toInt64 ((I 134) 0))) 1 (Int32.toInt64 ((I 134) 1))) 2 (Int32.toInt64 ((I 134) 2))))) dX8_layForm_117 rfl hs_120 rfl (Nat.le_of_ble_eq_true rfl) (Nat.le_of_ble_eq_true rfl) (ma_up_up _ _ _ _) ?_
  refine ev_iinc (pc' := 121) (v := 3) (lv' := [some (.ref 115), some (.int 6), some (.int 0), some (.int 0), some (.int 0), some (.int 3)]) dX8_layForm_118 rfl rfl (by decide) (Nat.le_of_ble_eq_true rfl) rfl rfl ?_
  refine ev_goto (tgt := 69) dX8_layForm_121 rfl ?_
  refine ev_iload (pc' := 71) dX8_layForm_69 rfl rfl ?_
  refine ev_iconst (pc' := 72) (v := 4) dX8_layForm_71 rfl ki_4 ?_
  refine ev_icmp_ge (tgt := 124) (pc' := 75) dX8_layForm_72 rfl rfl (fun h => absurd h (by decide)) (fun _ => ?_)
  refine ev_aload_n (pc' := 76) (i := 0) dX8_layForm_75 rfl rfl rfl ?_
  refine ev_getR (pc' := 79) fo_X8_26 dX8_layForm_76 rfl hs_115 rfl rf_115_8 ?_
  refine ev_iconst (pc' := 80) (v := 4) dX8_layForm_79 rfl ki_4 ?_
  refine ev_iload_n (pc' := 81) (i := 3) dX8_layForm_80 rfl rfl rfl ?_
  refine ev_imul (pc' := 82) (v := 0) dX8_layForm_81 rfl (by decide) ?_
  refine ev_iload (pc' := 84) dX8_layForm_82 rfl rfl ?_
  refine ev_iadd (pc' := 85) (v := 3) dX8_layForm_84 rfl (by decide) ?_
  refine ev_iload (pc' := 87) dX8_layForm_85 rfl rfl ?_
  refine ev_if_eq (tgt := 105) (pc' := 90) dX8_layForm_87 rfl rfl (fun _ => ?_) (fun h => absurd (by decide) h)
  refine ev_aload_n (pc' := 106) (i := 0) dX8_layForm_105 rfl rfl rfl ?_
  refine ev_getR (pc' := 109) fo_X8_70 dX8_layForm_106 rfl hs_115 rfl rf_115_25 ?_
  refine ev_iconst (pc' := 110) (v := 4) dX8_layForm_109 rfl ki_4 ?_
  refine ev_iload_n (pc' := 111) (i := 3) dX8_layForm_110 rfl rfl rfl ?_
  refine ev_imul (pc' := 112) (v := 0) dX8_layForm_111 rfl (by decide) ?_
  refine ev_iload (pc' := 114) dX8_layForm_112 rfl rfl ?_
  refine ev_iadd (pc' := 115) (v := 3) dX8_layForm_114 rfl (by decide) ?_
  refine ev_iald (pc' := 116) (j := 3) (v := (I 134) 3) dX8_layForm_115 rfl hs_134 rfl (Nat.le_of_ble_eq_true rfl) (Nat.le_of_ble_eq_true rfl) rfl ?_
  refine ev_i2l (pc' := 117) (v := Int32.toInt64 ((I 134) 3)) dX8_layForm_116 rfl rfl ?_
  refine ev_last (pc' := 118) (j := 3) (L' := (ma_up (ma_up L 132 (ma_up (ma_up (ma_up (ma_up (ma_up (L 132) 0 0) 1 0) 2 ((0 + (mW (mSel 3 (I 133) (I 134)))) + (mW (mSel 5 (I 133) (I 134))))) 3 (((0 + (mW (mSel 1 (I 133) (I 134)))) + (mW (mSel 2 (I 133) (I 134)))) + (mW (mSel 4 (I 133) (I 134))))) 4 (0 + (mW (mSel 0 (I 133) (I 134)))))) 120 (ma_up (ma_up (ma_up (ma_up r6 0 (Int32.toInt64 ((I 134) 0))) 1 (Int32.toInt64 ((I 134) 1))) 2 (Int32.toInt64 ((I 134) 2))) 3 (Int32.toInt64 ((I 134) 3))))) dX8_layForm_117 rfl hs_120 rfl (Nat.le_of_ble_eq_true rfl) (Nat.le_of_ble_eq_true rfl) (ma_up_up _ _ _ _) ?_
  refine ev_iinc (pc' := 121) (v := 4) (lv' := [some (.ref 115), some (.int 6), some (.int 0), some (.int 0), some (.int 0), some (.int 4)]) dX8_layForm_118 rfl rfl (by decide) (Nat.le_of_ble_eq_true rfl) rfl rfl ?_
  refine ev_goto (tgt := 69) dX8_layForm_121 rfl ?_
  refine ev_iload (pc' := 71) dX8_layForm_69 rfl rfl ?_
  refine ev_iconst (pc' := 72) (v := 4) dX8_layForm_71 rfl ki_4 ?_
  refine ev_icmp_ge (tgt := 124) (pc' := 75) dX8_layForm_72 rfl rfl (fun _ => ?_) (fun h => absurd (by decide) h)
  refine ev_iinc (pc' := 127) (v := 1) (lv' := [some (.ref 115), some (.int 6), some (.int 0), some (.int 1), some (.int 0), some (.int 4)]) dX8_layForm_124 rfl rfl (by decide) (Nat.le_of_ble_eq_true rfl) rfl rfl ?_
  refine ev_goto (tgt := 32) dX8_layForm_127 rfl ?_
  refine ev_iload_n (pc' := 33) (i := 3) dX8_layForm_32 rfl rfl rfl ?_
  refine ev_iconst (pc' := 34) (v := 4) dX8_layForm_33 rfl ki_4 ?_
  refine ev_icmp_ge (tgt := 130) (pc' := 37) dX8_layForm_34 rfl rfl (fun h => absurd h (by decide)) (fun _ => ?_)
  refine ev_iload_n (pc' := 38) (i := 1) dX8_layForm_37 rfl rfl rfl ?_
  refine ev_iload_n (pc' := 39) (i := 3) dX8_layForm_38 rfl rfl rfl ?_
  refine ev_ishr (pc' := 40) (v := 3) dX8_layForm_39 rfl (by decide) ?_
  refine ev_iconst (pc' := 41) (v := 1) dX8_layForm_40 rfl ki_1 ?_
  refine ev_iand (pc' := 42) (v := 1) dX8_layForm_41 rfl (by decide) ?_
  refine ev_iconst (pc' := 43) (v := 1) dX8_layForm_42 rfl ki_1 ?_
  refine ev_icmp_ne (tgt := 50) (pc' := 46) dX8_layForm_43 rfl rfl (fun h => absurd (by decide) h) (fun _ => ?_)
  refine ev_iconst (pc' := 47) (v := 1) dX8_layForm_46 rfl ki_1 ?_
  refine ev_goto (tgt := 51) dX8_layForm_47 rfl ?_
  refine ev_istore (pc' := 53) (lv' := [some (.ref 115), some (.int 6), some (.int 0), some (.int 1), some (.int 1), some (.int 4)]) dX8_layForm_51 rfl (Nat.le_of_ble_eq_true rfl) rfl rfl ?_
  refine ev_iload_n (pc' := 54) (i := 2) dX8_layForm_53 rfl rfl rfl ?_
  refine ev_iload (pc' := 56) dX8_layForm_54 rfl rfl ?_
  refine ev_if_eq (tgt := 63) (pc' := 59) dX8_layForm_56 rfl rfl (fun h => absurd h (by decide)) (fun _ => ?_)
  refine ev_iconst (pc' := 60) (v := 1) dX8_layForm_59 rfl ki_1 ?_
  refine ev_goto (tgt := 64) dX8_layForm_60 rfl ?_
  refine ev_iadd (pc' := 65) (v := 1) dX8_layForm_64 rfl (by decide) ?_
  refine ev_istore_n (pc' := 66) (i := 2) (lv' := [some (.ref 115), some (.int 6), some (.int 1), some (.int 1), some (.int 1), some (.int 4)]) dX8_layForm_65 rfl rfl (Nat.le_of_ble_eq_true rfl) rfl rfl ?_
  refine ev_iconst (pc' := 67) (v := 0) dX8_layForm_66 rfl ki_0 ?_
  refine ev_istore (pc' := 69) (lv' := [some (.ref 115), some (.int 6), some (.int 1), some (.int 1), some (.int 1), some (.int 0)]) dX8_layForm_67 rfl (Nat.le_of_ble_eq_true rfl) rfl rfl ?_
  refine ev_iload (pc' := 71) dX8_layForm_69 rfl rfl ?_
  refine ev_iconst (pc' := 72) (v := 4) dX8_layForm_71 rfl ki_4 ?_
  refine ev_icmp_ge (tgt := 124) (pc' := 75) dX8_layForm_72 rfl rfl (fun h => absurd h (by decide)) (fun _ => ?_)
  refine ev_aload_n (pc' := 76) (i := 0) dX8_layForm_75 rfl rfl rfl ?_
  refine ev_getR (pc' := 79) fo_X8_26 dX8_layForm_76 rfl hs_115 rfl rf_115_8 ?_
  refine ev_iconst (pc' := 80) (v := 4) dX8_layForm_79 rfl ki_4 ?_
  refine ev_iload_n (pc' := 81) (i := 3) dX8_layForm_80 rfl rfl rfl ?_
  refine ev_imul (pc' := 82) (v := 4) dX8_layForm_81 rfl (by decide) ?_
  refine ev_iload (pc' := 84) dX8_layForm_82 rfl rfl ?_
  refine ev_iadd (pc' := 85) (v := 4) dX8_layForm_84 rfl (by decide) ?_
  refine ev_iload (pc' := 87) dX8_layForm_85 rfl rfl ?_
  refine ev_if_eq (tgt := 105) (pc' := 90) dX8_layForm_87 rfl rfl (fun h => absurd h (by decide)) (fun _ => ?_)
  refine ev_aload_n (pc' := 91) (i := 0) dX8_layForm_90 rfl rfl rfl ?_
  refine ev_getR (pc' := 94) fo_X8_67 dX8_layForm_91 rfl hs_115 rfl rf_115_24 ?_
  refine ev_iconst (pc' := 95) (v := 4) dX8_layForm_94 rfl ki_4 ?_
  refine ev_iload_n (pc' := 96) (i := 3) dX8_layForm_95 rfl rfl rfl ?_
  refine ev_imul (pc' := 97) (v := 4) dX8_layForm_96 rfl (by decide) ?_
  refine ev_iload (pc' := 99) dX8_layForm_97 rfl rfl ?_
  refine ev_iadd (pc' := 100) (v := 4) dX8_layForm_99 rfl (by decide) ?_
  refine ev_iald (pc' := 101) (j := 4) (v := (I 133) 4) dX8_layForm_100 rfl hs_133 rfl (Nat.le_of_ble_eq_true rfl) (Nat.le_of_ble_eq_true rfl) rfl ?_
  refine ev_i2l (pc' := 102) (v := Int32.toInt64 ((I 133) 4)) dX8_layForm_101 rfl rfl ?_
  refine ev_goto (tgt := 117) dX8_layForm_102 rfl ?_
  refine ev_last (pc' := 118) (j := 4) (L' := (ma_up (ma_up L 132 (ma_up (ma_up (ma_up (ma_up (ma_up (L 132) 0 0) 1 0) 2 ((0 + (mW (mSel 3 (I 133) (I 134)))) + (mW (mSel 5 (I 133) (I 134))))) 3 (((0 + (mW (mSel 1 (I 133) (I 134)))) + (mW (mSel 2 (I 133) (I 134)))) + (mW (mSel 4 (I 133) (I 134))))) 4 (0 + (mW (mSel 0 (I 133) (I 134)))))) 120 (ma_up (ma_up (ma_up (ma_up (ma_up r6 0 (Int32.toInt64 ((I 134) 0))) 1 (Int32.toInt64 ((I 134) 1))) 2 (Int32.toInt64 ((I 134) 2))) 3 (Int32.toInt64 ((I 134) 3))) 4 (Int32.toInt64 ((I 133) 4))))) dX8_layForm_117 rfl hs_120 rfl (Nat.le_of_ble_eq_true rfl) (Nat.le_of_ble_eq_true rfl) (ma_up_up _ _ _ _) ?_
  refine ev_iinc (pc' := 121) (v := 1) (lv' := [some (.ref 115), some (.int 6), some (.int 1), some (.int 1), some (.int 1), some (.int 1)]) dX8_layForm_118 rfl rfl (by decide) (Nat.le_of_ble_eq_true rfl) rfl rfl ?_
  refine ev_goto (tgt := 69) dX8_layForm_121 rfl ?_
  refine ev_iload (pc' := 71) dX8_layForm_69 rfl rfl ?_
  refine ev_iconst (pc' := 72) (v := 4) dX8_layForm_71 rfl ki_4 ?_
  refine ev_icmp_ge (tgt := 124) (pc' := 75) dX8_layForm_72 rfl rfl (fun h => absurd h (by decide)) (fun _ => ?_)
  refine ev_aload_n (pc' := 76) (i := 0) dX8_layForm_75 rfl rfl rfl ?_
  refine ev_getR (pc' := 79) fo_X8_26 dX8_layForm_76 rfl hs_115 rfl rf_115_8 ?_
  refine ev_iconst (pc' := 80) (v := 4) dX8_layForm_79 rfl ki_4 ?_
  refine ev_iload_n (pc' := 81) (i := 3) dX8_layForm_80 rfl rfl rfl ?_
  refine ev_imul (pc' := 82) (v := 4) dX8_layForm_81 rfl (by decide) ?_
  refine ev_iload (pc' := 84) dX8_layForm_82 rfl rfl ?_
  refine ev_iadd (pc' := 85) (v := 5) dX8_layForm_84 rfl (by decide) ?_
  refine ev_iload (pc' := 87) dX8_layForm_85 rfl rfl ?_
  refine ev_if_eq (tgt := 105) (pc' := 90) dX8_layForm_87 rfl rfl (fun h => absurd h (by decide)) (fun _ => ?_)
  refine ev_aload_n (pc' := 91) (i := 0) dX8_layForm_90 rfl rfl rfl ?_
  refine ev_getR (pc' := 94) fo_X8_67 dX8_layForm_91 rfl hs_115 rfl rf_115_24 ?_
  refine ev_iconst (pc' := 95) (v := 4) dX8_layForm_94 rfl ki_4 ?_
  refine ev_iload_n (pc' := 96) (i := 3) dX8_layForm_95 rfl rfl rfl ?_
  refine ev_imul (pc' := 97) (v := 4) dX8_layForm_96 rfl (by decide) ?_
  refine ev_iload (pc' := 99) dX8_layForm_97 rfl rfl ?_
  refine ev_iadd (pc' := 100) (v := 5) dX8_layForm_99 rfl (by decide) ?_
  refine ev_iald (pc' := 101) (j := 5) (v := (I 133) 5) dX8_layForm_100 rfl hs_133 rfl (Nat.le_of_ble_eq_true rfl) (Nat.le_of_ble_eq_true rfl) rfl ?_
  refine ev_i2l (pc' := 102) (v := Int32.toInt64 ((I 133) 5)) dX8_layForm_101 rfl rfl ?_
  refine ev_goto (tgt := 117) dX8_layForm_102 rfl ?_
  refine ev_last (pc' := 118) (j := 5) (L' := (ma_up (ma_up L 132 (ma_up (ma_up (ma_up (ma_up (ma_up (L 132) 0 0) 1 0) 2 ((0 + (mW (mSel 3 (I 133) (I 134)))) + (mW (mSel 5 (I 133) (I 134))))) 3 (((0 + (mW (mSel 1 (I 133) (I 134)))) + (mW (mSel 2 (I 133) (I 134)))) + (mW (mSel 4 (I 133) (I 134))))) 4 (0 + (mW (mSel 0 (I 133) (I 134)))))) 120 (ma_up (ma_up (ma_up (ma_up (ma_up (ma_up r6 0 (Int32.toInt64 ((I 134) 0))) 1 (Int32.toInt64 ((I 134) 1))) 2 (Int32.toInt64 ((I 134) 2))) 3 (Int32.toInt64 ((I 134) 3))) 4 (Int32.toInt64 ((I 133) 4))) 5 (Int32.toInt64 ((I 133) 5))))) dX8_layForm_117 rfl hs_120 rfl (Nat.le_of_ble_eq_true rfl) (Nat.le_of_ble_eq_true rfl) (ma_up_up _ _ _ _) ?_
  refine ev_iinc (pc' := 121) (v := 2) (lv' := [some (.ref 115), some (.int 6), some (.int 1), some (.int 1), some (.int 1), some (.int 2)]) dX8_layForm_118 rfl rfl (by decide) (Nat.le_of_ble_eq_true rfl) rfl rfl ?_
  refine ev_goto (tgt := 69) dX8_layForm_121 rfl ?_
  refine ev_iload (pc' := 71) dX8_layForm_69 rfl rfl ?_
  refine ev_iconst (pc' := 72) (v := 4) dX8_layForm_71 rfl ki_4 ?_
  refine ev_icmp_ge (tgt := 124) (pc' := 75) dX8_layForm_72 rfl rfl (fun h => absurd h (by decide)) (fun _ => ?_)
  refine ev_aload_n (pc' := 76) (i := 0) dX8_layForm_75 rfl rfl rfl ?_
  refine ev_getR (pc' := 79) fo_X8_26 dX8_layForm_76 rfl hs_115 rfl rf_115_8 ?_
  refine ev_iconst (pc' := 80) (v := 4) dX8_layForm_79 rfl ki_4 ?_
  refine ev_iload_n (pc' := 81) (i := 3) dX8_layForm_80 rfl rfl rfl ?_
  refine ev_imul (pc' := 82) (v := 4) dX8_layForm_81 rfl (by decide) ?_
  refine ev_iload (pc' := 84) dX8_layForm_82 rfl rfl ?_
  refine ev_iadd (pc' := 85) (v := 6) dX8_layForm_84 rfl (by decide) ?_
  refine ev_iload (pc' := 87) dX8_layForm_85 rfl rfl ?_
  refine ev_if_eq (tgt := 105) (pc' := 90) dX8_layForm_87 rfl rfl (fun h => absurd h (by decide)) (fun _ => ?_)
  refine ev_aload_n (pc' := 91) (i := 0) dX8_layForm_90 rfl rfl rfl ?_
  refine ev_getR (pc' := 94) fo_X8_67 dX8_layForm_91 rfl hs_115 rfl rf_115_24 ?_
  refine ev_iconst (pc' := 95) (v := 4) dX8_layForm_94 rfl ki_4 ?_
  refine ev_iload_n (pc' := 96) (i := 3) dX8_layForm_95 rfl rfl rfl ?_
  refine ev_imul (pc' := 97) (v := 4) dX8_layForm_96 rfl (by decide) ?_
  refine ev_iload (pc' := 99) dX8_layForm_97 rfl rfl ?_
  refine ev_iadd (pc' := 100) (v := 6) dX8_layForm_99 rfl (by decide) ?_
  refine ev_iald (pc' := 101) (j := 6) (v := (I 133) 6) dX8_layForm_100 rfl hs_133 rfl (Nat.le_of_ble_eq_true rfl) (Nat.le_of_ble_eq_true rfl) rfl ?_
  refine ev_i2l (pc' := 102) (v := Int32.toInt64 ((I 133) 6)) dX8_layForm_101 rfl rfl ?_
  refine ev_goto (tgt := 117) dX8_layForm_102 rfl ?_
  refine ev_last (pc' := 118) (j := 6) (L' := (ma_up (ma_up L 132 (ma_up (ma_up (ma_up (ma_up (ma_up (L 132) 0 0) 1 0) 2 ((0 + (mW (mSel 3 (I 133) (I 134)))) + (mW (mSel 5 (I 133) (I 134))))) 3 (((0 + (mW (mSel 1 (I 133) (I 134)))) + (mW (mSel 2 (I 133) (I 134)))) + (mW (mSel 4 (I 133) (I 134))))) 4 (0 + (mW (mSel 0 (I 133) (I 134)))))) 120 (ma_up (ma_up (ma_up (ma_up (ma_up (ma_up (ma_up r6 0 (Int32.toInt64 ((I 134) 0))) 1 (Int32.toInt64 ((I 134) 1))) 2 (Int32.toInt64 ((I 134) 2))) 3 (Int32.toInt64 ((I 134) 3))) 4 (Int32.toInt64 ((I 133) 4))) 5 (Int32.toInt64 ((I 133) 5))) 6 (Int32.toInt64 ((I 133) 6))))) dX8_layForm_117 rfl hs_120 rfl (Nat.le_of_ble_eq_true rfl) (Nat.le_of_ble_eq_true rfl) (ma_up_up _ _ _ _) ?_
  refine ev_iinc (pc' := 121) (v := 3) (lv' := [some (.ref 115), some (.int 6), some (.int 1), some (.int 1), some (.int 1), some (.int 3)]) dX8_layForm_118 rfl rfl (by decide) (Nat.le_of_ble_eq_true rfl) rfl rfl ?_
  refine ev_goto (tgt := 69) dX8_layForm_121 rfl ?_
  refine ev_iload (pc' := 71) dX8_layForm_69 rfl rfl ?_
  refine ev_iconst (pc' := 72) (v := 4) dX8_layForm_71 rfl ki_4 ?_
  refine ev_icmp_ge (tgt := 124) (pc' := 75) dX8_layForm_72 rfl rfl (fun h => absurd h (by decide)) (fun _ => ?_)
  refine ev_aload_n (pc' := 76) (i := 0) dX8_layForm_75 rfl rfl rfl ?_
  refine ev_getR (pc' := 79) fo_X8_26 dX8_layForm_76 rfl hs_115 rfl rf_115_8 ?_
  refine ev_iconst (pc' := 80) (v := 4) dX8_layForm_79 rfl ki_4 ?_
  refine ev_iload_n (pc' := 81) (i := 3) dX8_layForm_80 rfl rfl rfl ?_
  refine ev_imul (pc' := 82) (v := 4) dX8_layForm_81 rfl (by decide) ?_
  refine ev_iload (pc' := 84) dX8_layForm_82 rfl rfl ?_
  refine ev_iadd (pc' := 85) (v := 7) dX8_layForm_84 rfl (by decide) ?_
  refine ev_iload (pc' := 87) dX8_layForm_85 rfl rfl ?_
  refine ev_if_eq (tgt := 105) (pc' := 90) dX8_layForm_87 rfl rfl (fun h => absurd h (by decide)) (fun _ => ?_)
  refine ev_aload_n (pc' := 91) (i := 0) dX8_layForm_90 rfl rfl rfl ?_
  refine ev_getR (pc' := 94) fo_X8_67 dX8_layForm_91 rfl hs_115 rfl rf_115_24 ?_
  refine ev_iconst (pc' := 95) (v := 4) dX8_layForm_94 rfl ki_4 ?_
  refine ev_iload_n (pc' := 96) (i := 3) dX8_layForm_95 rfl rfl rfl ?_
  refine ev_imul (pc' := 97) (v := 4) dX8_layForm_96 rfl (by decide) ?_
  refine ev_iload (pc' := 99) dX8_layForm_97 rfl rfl ?_
  refine ev_iadd (pc' := 100) (v := 7) dX8_layForm_99 rfl (by decide) ?_
  refine ev_iald (pc' := 101) (j := 7) (v := (I 133) 7) dX8_layForm_100 rfl hs_133 rfl (Nat.le_of_ble_eq_true rfl) (Nat.le_of_ble_eq_true rfl) rfl ?_
  refine ev_i2l (pc' := 102) (v := Int32.toInt64 ((I 133) 7)) dX8_layForm_101 rfl rfl ?_
  refine ev_goto (tgt := 117) dX8_layForm_102 rfl ?_
  refine ev_last (pc' := 118) (j := 7) (L' := (ma_up (ma_up L 132 (ma_up (ma_up (ma_up (ma_up (ma_up (L 132) 0 0) 1 0) 2 ((0 + (mW (mSel 3 (I 133) (I 134)))) + (mW (mSel 5 (I 133) (I 134))))) 3 (((0 + (mW (mSel 1 (I 133) (I 134)))) + (mW (mSel 2 (I 133) (I 134)))) + (mW (mSel 4 (I 133) (I 134))))) 4 (0 + (mW (mSel 0 (I 133) (I 134)))))) 120 (ma_up (ma_up (ma_up (ma_up (ma_up (ma_up (ma_up (ma_up r6 0 (Int32.toInt64 ((I 134) 0))) 1 (Int32.toInt64 ((I 134) 1))) 2 (Int32.toInt64 ((I 134) 2))) 3 (Int32.toInt64 ((I 134) 3))) 4 (Int32.toInt64 ((I 133) 4))) 5 (Int32.toInt64 ((I 133) 5))) 6 (Int32.toInt64 ((I 133) 6))) 7 (Int32.toInt64 ((I 133) 7))))) dX8_layForm_117 rfl hs_120 rfl (Nat.le_of_ble_eq_true rfl) (Nat.le_of_ble_eq_true rfl) (ma_up_up _ _ _ _) ?_
  refine ev_iinc (pc' := 121) (v := 4) (lv' := [some (.ref 115), some (.int 6), some (.int 1), some (.int 1), some (.int 1), some (.int 4)]) dX8_layForm_118 rfl rfl (by decide) (Nat.le_of_ble_eq_true rfl) rfl rfl ?_
  refine ev_goto (tgt := 69) dX8_layForm_121 rfl ?_
  refine ev_iload (pc' := 71) dX8_layForm_69 rfl rfl ?_
  refine ev_iconst (pc' := 72) (v := 4) dX8_layForm_71 rfl ki_4 ?_
  refine ev_icmp_ge (tgt := 124) (pc' := 75) dX8_layForm_72 rfl rfl (fun _ => ?_) (fun h => absurd (by decide) h)
  refine ev_iinc (pc' := 127) (v := 2) (lv' := [some (.ref 115), some (.int 6), some (.int 1), some (.int 2), some (.int 1), some (.int 4)]) dX8_layForm_124 rfl rfl (by decide) (Nat.le_of_ble_eq_true rfl) rfl rfl ?_
  refine ev_goto (tgt := 32) dX8_layForm_127 rfl ?_
  refine ev_iload_n (pc' := 33) (i := 3) dX8_layForm_32 rfl rfl rfl ?_
  refine ev_iconst (pc' := 34) (v := 4) dX8_layForm_33 rfl ki_4 ?_
  refine ev_icmp_ge (tgt := 130) (pc' := 37) dX8_layForm_34 rfl rfl (fun h => absurd h (by decide)) (fun _ => ?_)
  refine ev_iload_n (pc' := 38) (i := 1) dX8_layForm_37 rfl rfl rfl ?_
  refine ev_iload_n (pc' := 39) (i := 3) dX8_layForm_38 rfl rfl rfl ?_
  refine ev_ishr (pc' := 40) (v := 1) dX8_layForm_39 rfl (by decide) ?_
  refine ev_iconst (pc' := 41) (v := 1) dX8_layForm_40 rfl ki_1 ?_
  refine ev_iand (pc' := 42) (v := 1) dX8_layForm_41 rfl (by decide) ?_
  refine ev_iconst (pc' := 43) (v := 1) dX8_layForm_42 rfl ki_1 ?_
  refine ev_icmp_ne (tgt := 50) (pc' := 46) dX8_layForm_43 rfl rfl (fun h => absurd (by decide) h) (fun _ => ?_)
  refine ev_iconst (pc' := 47) (v := 1) dX8_layForm_46 rfl ki_1 ?_
  refine ev_goto (tgt := 51) dX8_layForm_47 rfl ?_
  refine ev_istore (pc' := 53) (lv' := [some (.ref 115), some (.int 6), some (.int 1), some (.int 2), some (.int 1), some (.int 4)]) dX8_layForm_51 rfl (Nat.le_of_ble_eq_true rfl) rfl rfl ?_
  refine ev_iload_n (pc' := 54) (i := 2) dX8_layForm_53 rfl rfl rfl ?_
  refine ev_iload (pc' := 56) dX8_layForm_54 rfl rfl ?_
  refine ev_if_eq (tgt := 63) (pc' := 59) dX8_layForm_56 rfl rfl (fun h => absurd h (by decide)) (fun _ => ?_)
  refine ev_iconst (pc' := 60) (v := 1) dX8_layForm_59 rfl ki_1 ?_
  refine ev_goto (tgt := 64) dX8_layForm_60 rfl ?_
  refine ev_iadd (pc' := 65) (v := 2) dX8_layForm_64 rfl (by decide) ?_
  refine ev_istore_n (pc' := 66) (i := 2) (lv' := [some (.ref 115), some (.int 6), some (.int 2), some (.int 2), some (.int 1), some (.int 4)]) dX8_layForm_65 rfl rfl (Nat.le_of_ble_eq_true rfl) rfl rfl ?_
  refine ev_iconst (pc' := 67) (v := 0) dX8_layForm_66 rfl ki_0 ?_
  refine ev_istore (pc' := 69) (lv' := [some (.ref 115), some (.int 6), some (.int 2), some (.int 2), some (.int 1), some (.int 0)]) dX8_layForm_67 rfl (Nat.le_of_ble_eq_true rfl) rfl rfl ?_
  refine ev_iload (pc' := 71) dX8_layForm_69 rfl rfl ?_
  refine ev_iconst (pc' := 72) (v := 4) dX8_layForm_71 rfl ki_4 ?_
  refine ev_icmp_ge (tgt := 124) (pc' := 75) dX8_layForm_72 rfl rfl (fun h => absurd h (by decide)) (fun _ => ?_)
  refine ev_aload_n (pc' := 76) (i := 0) dX8_layForm_75 rfl rfl rfl ?_
  refine ev_getR (pc' := 79) fo_X8_26 dX8_layForm_76 rfl hs_115 rfl rf_115_8 ?_
  refine ev_iconst (pc' := 80) (v := 4) dX8_layForm_79 rfl ki_4 ?_
  refine ev_iload_n (pc' := 81) (i := 3) dX8_layForm_80 rfl rfl rfl ?_
  refine ev_imul (pc' := 82) (v := 8) dX8_layForm_81 rfl (by decide) ?_
  refine ev_iload (pc' := 84) dX8_layForm_82 rfl rfl ?_
  refine ev_iadd (pc' := 85) (v := 8) dX8_layForm_84 rfl (by decide) ?_
  refine ev_iload (pc' := 87) dX8_layForm_85 rfl rfl ?_
  refine ev_if_eq (tgt := 105) (pc' := 90) dX8_layForm_87 rfl rfl (fun h => absurd h (by decide)) (fun _ => ?_)
  refine ev_aload_n (pc' := 91) (i := 0) dX8_layForm_90 rfl rfl rfl ?_
  refine ev_getR (pc' := 94) fo_X8_67 dX8_layForm_91 rfl hs_115 rfl rf_115_24 ?_
  refine ev_iconst (pc' := 95) (v := 4) dX8_layForm_94 rfl ki_4 ?_
  refine ev_iload_n (pc' := 96) (i := 3) dX8_layForm_95 rfl rfl rfl ?_
  refine ev_imul (pc' := 97) (v := 8) dX8_layForm_96 rfl (by decide) ?_
  refine ev_iload (pc' := 99) dX8_layForm_97 rfl rfl ?_
  refine ev_iadd (pc' := 100) (v := 8) dX8_layForm_99 rfl (by decide) ?_
  refine ev_iald (pc' := 101) (j := 8) (v := (I 133) 8) dX8_layForm_100 rfl hs_133 rfl (Nat.le_of_ble_eq_true rfl) (Nat.le_of_ble_eq_true rfl) rfl ?_
  refine ev_i2l (pc' := 102) (v := Int32.toInt64 ((I 133) 8)) dX8_layForm_101 rfl rfl ?_
  refine ev_goto (tgt := 117) dX8_layForm_102 rfl ?_
  refine ev_last (pc' := 118) (j := 8) (L' := (ma_up (ma_up L 132 (ma_up (ma_up (ma_up (ma_up (ma_up (L 132) 0 0) 1 0) 2 ((0 + (mW (mSel 3 (I 133) (I 134)))) + (mW (mSel 5 (I 133) (I 134))))) 3 (((0 + (mW (mSel 1 (I 133) (I 134)))) + (mW (mSel 2 (I 133) (I 134)))) + (mW (mSel 4 (I 133) (I 134))))) 4 (0 + (mW (mSel 0 (I 133) (I 134)))))) 120 (ma_up (ma_up (ma_up (ma_up (ma_up (ma_up (ma_up (ma_up (ma_up r6 0 (Int32.toInt64 ((I 134) 0))) 1 (Int32.toInt64 ((I 134) 1))) 2 (Int32.toInt64 ((I 134) 2))) 3 (Int32.toInt64 ((I 134) 3))) 4 (Int32.toInt64 ((I 133) 4))) 5 (Int32.toInt64 ((I 133) 5))) 6 (Int32.toInt64 ((I 133) 6))) 7 (Int32.toInt64 ((I 133) 7))) 8 (Int32.toInt64 ((I 133) 8))))) dX8_layForm_117 rfl hs_120 rfl (Nat.le_of_ble_eq_true rfl) (Nat.le_of_ble_eq_true rfl) (ma_up_up _ _ _ _) ?_
  refine ev_iinc (pc' := 121) (v := 1) (lv' := [some (.ref 115), some (.int 6), some (.int 2), some (.int 2), some (.int 1), some (.int 1)]) dX8_layForm_118 rfl rfl (by decide) (Nat.le_of_ble_eq_true rfl) rfl rfl ?_
  refine ev_goto (tgt := 69) dX8_layForm_121 rfl ?_
  refine ev_iload (pc' := 71) dX8_layForm_69 rfl rfl ?_
  refine ev_iconst (pc' := 72) (v := 4) dX8_layForm_71 rfl ki_4 ?_
  refine ev_icmp_ge (tgt := 124) (pc' := 75) dX8_layForm_72 rfl rfl (fun h => absurd h (by decide)) (fun _ => ?_)
  refine ev_aload_n (pc' := 76) (i := 0) dX8_layForm_75 rfl rfl rfl ?_
  refine ev_getR (pc' := 79) fo_X8_26 dX8_layForm_76 rfl hs_115 rfl rf_115_8 ?_
  refine ev_iconst (pc' := 80) (v := 4) dX8_layForm_79 rfl ki_4 ?_
  refine ev_iload_n (pc' := 81) (i := 3) dX8_layForm_80 rfl rfl rfl ?_
  refine ev_imul (pc' := 82) (v := 8) dX8_layForm_81 rfl (by decide) ?_
  refine ev_iload (pc' := 84) dX8_layForm_82 rfl rfl ?_
  refine ev_iadd (pc' := 85) (v := 9) dX8_layForm_84 rfl (by decide) ?_
  refine ev_iload (pc' := 87) dX8_layForm_85 rfl rfl ?_
  refine ev_if_eq (tgt := 105) (pc' := 90) dX8_layForm_87 rfl rfl (fun h => absurd h (by decide)) (fun _ => ?_)
  refine ev_aload_n (pc' := 91) (i := 0) dX8_layForm_90 rfl rfl rfl ?_
  refine ev_getR (pc' := 94) fo_X8_67 dX8_layForm_91 rfl hs_115 rfl rf_115_24 ?_
  refine ev_iconst (pc' := 95) (v := 4) dX8_layForm_94 rfl ki_4 ?_
  refine ev_iload_n (pc' := 96) (i := 3) dX8_layForm_95 rfl rfl rfl ?_
  refine ev_imul (pc' := 97) (v := 8) dX8_layForm_96 rfl (by decide) ?_
  refine ev_iload (pc' := 99) dX8_layForm_97 rfl rfl ?_
  refine ev_iadd (pc' := 100) (v := 9) dX8_layForm_99 rfl (by decide) ?_
  refine ev_iald (pc' := 101) (j := 9) (v := (I 133) 9) dX8_layForm_100 rfl hs_133 rfl (Nat.le_of_ble_eq_true rfl) (Nat.le_of_ble_eq_true rfl) rfl ?_
  refine ev_i2l (pc' := 102) (v := Int32.toInt64 ((I 133) 9)) dX8_layForm_101 rfl rfl ?_
  refine ev_goto (tgt := 117) dX8_layForm_102 rfl ?_
  refine ev_last (pc' := 118) (j := 9) (L' := (ma_up (ma_up L 132 (ma_up (ma_up (ma_up (ma_up (ma_up (L 132) 0 0) 1 0) 2 ((0 + (mW (mSel 3 (I 133) (I 134)))) + (mW (mSel 5 (I 133) (I 134))))) 3 (((0 + (mW (mSel 1 (I 133) (I 134)))) + (mW (mSel 2 (I 133) (I 134)))) + (mW (mSel 4 (I 133) (I 134))))) 4 (0 + (mW (mSel 0 (I 133) (I 134)))))) 120 (ma_up (ma_up (ma_up (ma_up (ma_up (ma_up (ma_up (ma_up (ma_up (ma_up r6 0 (Int32.toInt64 ((I 134) 0))) 1 (Int32.toInt64 ((I 134) 1))) 2 (Int32.toInt64 ((I 134) 2))) 3 (Int32.toInt64 ((I 134) 3))) 4 (Int32.toInt64 ((I 133) 4))) 5 (Int32.toInt64 ((I 133) 5))) 6 (Int32.toInt64 ((I 133) 6))) 7 (Int32.toInt64 ((I 133) 7))) 8 (Int32.toInt64 ((I 133) 8))) 9 (Int32.toInt64 ((I 133) 9))))) dX8_layForm_117 rfl hs_120 rfl (Nat.le_of_ble_eq_true rfl) (Nat.le_of_ble_eq_true rfl) (ma_up_up _ _ _ _) ?_
  refine ev_iinc (pc' := 121) (v := 2) (lv' := [some (.ref 115), some (.int 6), some (.int 2), some (.int 2), some (.int 1), some (.int 2)]) dX8_layForm_118 rfl rfl (by decide) (Nat.le_of_ble_eq_true rfl) rfl rfl ?_
  refine ev_goto (tgt := 69) dX8_layForm_121 rfl ?_
  refine ev_iload (pc' := 71) dX8_layForm_69 rfl rfl ?_
  refine ev_iconst (pc' := 72) (v := 4) dX8_layForm_71 rfl ki_4 ?_
  refine ev_icmp_ge (tgt := 124) (pc' := 75) dX8_layForm_72 rfl rfl (fun h => absurd h (by decide)) (fun _ => ?_)
  refine ev_aload_n (pc' := 76) (i := 0) dX8_layForm_75 rfl rfl rfl ?_
  refine ev_getR (pc' := 79) fo_X8_26 dX8_layForm_76 rfl hs_115 rfl rf_115_8 ?_
  refine ev_iconst (pc' := 80) (v := 4) dX8_layForm_79 rfl ki_4 ?_
  refine ev_iload_n (pc' := 81) (i := 3) dX8_layForm_80 rfl rfl rfl ?_
  refine ev_imul (pc' := 82) (v := 8) dX8_layForm_81 rfl (by decide) ?_
  refine ev_iload (pc' := 84) dX8_layForm_82 rfl rfl ?_
  refine ev_iadd (pc' := 85) (v := 10) dX8_layForm_84 rfl (by decide) ?_
  refine ev_iload (pc' := 87) dX8_layForm_85 rfl rfl ?_
  refine ev_if_eq (tgt := 105) (pc' := 90) dX8_layForm_87 rfl rfl (fun h => absurd h (by decide)) (fun _ => ?_)
  refine ev_aload_n (pc' := 91) (i := 0) dX8_layForm_90 rfl rfl rfl ?_
  refine ev_getR (pc' := 94) fo_X8_67 dX8_layForm_91 rfl hs_115 rfl rf_115_24 ?_
  refine ev_iconst (pc' := 95) (v := 4) dX8_layForm_94 rfl ki_4 ?_
  refine ev_iload_n (pc' := 96) (i := 3) dX8_layForm_95 rfl rfl rfl ?_
  refine ev_imul (pc' := 97) (v := 8) dX8_layForm_96 rfl (by decide) ?_
  refine ev_iload (pc' := 99) dX8_layForm_97 rfl rfl ?_
  refine ev_iadd (pc' := 100) (v := 10) dX8_layForm_99 rfl (by decide) ?_
  refine ev_iald (pc' := 101) (j := 10) (v := (I 133) 10) dX8_layForm_100 rfl hs_133 rfl (Nat.le_of_ble_eq_true rfl) (Nat.le_of_ble_eq_true rfl) rfl ?_
  refine ev_i2l (pc' := 102) (v := Int32.toInt64 ((I 133) 10)) dX8_layForm_101 rfl rfl ?_
  refine ev_goto (tgt := 117) dX8_layForm_102 rfl ?_
  refine ev_last (pc' := 118) (j := 10) (L' := (ma_up (ma_up L 132 (ma_up (ma_up (ma_up (ma_up (ma_up (L 132) 0 0) 1 0) 2 ((0 + (mW (mSel 3 (I 133) (I 134)))) + (mW (mSel 5 (I 133) (I 134))))) 3 (((0 + (mW (mSel 1 (I 133) (I 134)))) + (mW (mSel 2 (I 133) (I 134)))) + (mW (mSel 4 (I 133) (I 134))))) 4 (0 + (mW (mSel 0 (I 133) (I 134)))))) 120 (ma_up (ma_up (ma_up (ma_up (ma_up (ma_up (ma_up (ma_up (ma_up (ma_up (ma_up r6 0 (Int32.toInt64 ((I 134) 0))) 1 (Int32.toInt64 ((I 134) 1))) 2 (Int32.toInt64 ((I 134) 2))) 3 (Int32.toInt64 ((I 134) 3))) 4 (Int32.toInt64 ((I 133) 4))) 5 (Int32.toInt64 ((I 133) 5))) 6 (Int32.toInt64 ((I 133) 6))) 7 (Int32.toInt64 ((I 133) 7))) 8 (Int32.toInt64 ((I 133) 8))) 9 (Int32.toInt64 ((I 133) 9))) 10 (Int32.toInt64 ((I 133) 10))))) dX8_layForm_117 rfl hs_120 rfl (Nat.le_of_ble_eq_true rfl) (Nat.le_of_ble_eq_true rfl) (ma_up_up _ _ _ _) ?_
  refine ev_iinc (pc' := 121) (v := 3) (lv' := [some (.ref 115), some (.int 6), some (.int 2), some (.int 2), some (.int 1), some (.int 3)]) dX8_layForm_118 rfl rfl (by decide) (Nat.le_of_ble_eq_true rfl) rfl rfl ?_
  refine ev_goto (tgt := 69) dX8_layForm_121 rfl ?_
  refine ev_iload (pc' := 71) dX8_layForm_69 rfl rfl ?_
  refine ev_iconst (pc' := 72) (v := 4) dX8_layForm_71 rfl ki_4 ?_
  refine ev_icmp_ge (tgt := 124) (pc' := 75) dX8_layForm_72 rfl rfl (fun h => absurd h (by decide)) (fun _ => ?_)
  refine ev_aload_n (pc' := 76) (i := 0) dX8_layForm_75 rfl rfl rfl ?_
  refine ev_getR (pc' := 79) fo_X8_26 dX8_layForm_76 rfl hs_115 rfl rf_115_8 ?_
  refine ev_iconst (pc' := 80) (v := 4) dX8_layForm_79 rfl ki_4 ?_
  refine ev_iload_n (pc' := 81) (i := 3) dX8_layForm_80 rfl rfl rfl ?_
  refine ev_imul (pc' := 82) (v := 8) dX8_layForm_81 rfl (by decide) ?_
  refine ev_iload (pc' := 84) dX8_layForm_82 rfl rfl ?_
  refine ev_iadd (pc' := 85) (v := 11) dX8_layForm_84 rfl (by decide) ?_
  refine ev_iload (pc' := 87) dX8_layForm_85 rfl rfl ?_
  refine ev_if_eq (tgt := 105) (pc' := 90) dX8_layForm_87 rfl rfl (fun h => absurd h (by decide)) (fun _ => ?_)
  refine ev_aload_n (pc' := 91) (i := 0) dX8_layForm_90 rfl rfl rfl ?_
  refine ev_getR (pc' := 94) fo_X8_67 dX8_layForm_91 rfl hs_115 rfl rf_115_24 ?_
  refine ev_iconst (pc' := 95) (v := 4) dX8_layForm_94 rfl ki_4 ?_
  refine ev_iload_n (pc' := 96) (i := 3) dX8_layForm_95 rfl rfl rfl ?_
  refine ev_imul (pc' := 97) (v := 8) dX8_layForm_96 rfl (by decide) ?_
  refine ev_iload (pc' := 99) dX8_layForm_97 rfl rfl ?_
  refine ev_iadd (pc' := 100) (v := 11) dX8_layForm_99 rfl (by decide) ?_
  refine ev_iald (pc' := 101) (j := 11) (v := (I 133) 11) dX8_layForm_100 rfl hs_133 rfl (Nat.le_of_ble_eq_true rfl) (Nat.le_of_ble_eq_true rfl) rfl ?_
  refine ev_i2l (pc' := 102) (v := Int32.toInt64 ((I 133) 11)) dX8_layForm_101 rfl rfl ?_
  refine ev_goto (tgt := 117) dX8_layForm_102 rfl ?_
  refine ev_last (pc' := 118) (j := 11) (L' := (ma_up (ma_up L 132 (ma_up (ma_up (ma_up (ma_up (ma_up (L 132) 0 0) 1 0) 2 ((0 + (mW (mSel 3 (I 133) (I 134)))) + (mW (mSel 5 (I 133) (I 134))))) 3 (((0 + (mW (mSel 1 (I 133) (I 134)))) + (mW (mSel 2 (I 133) (I 134)))) + (mW (mSel 4 (I 133) (I 134))))) 4 (0 + (mW (mSel 0 (I 133) (I 134)))))) 120 (ma_up (ma_up (ma_up (ma_up (ma_up (ma_up (ma_up (ma_up (ma_up (ma_up (ma_up (ma_up r6 0 (Int32.toInt64 ((I 134) 0))) 1 (Int32.toInt64 ((I 134) 1))) 2 (Int32.toInt64 ((I 134) 2))) 3 (Int32.toInt64 ((I 134) 3))) 4 (Int32.toInt64 ((I 133) 4))) 5 (Int32.toInt64 ((I 133) 5))) 6 (Int32.toInt64 ((I 133) 6))) 7 (Int32.toInt64 ((I 133) 7))) 8 (Int32.toInt64 ((I 133) 8))) 9 (Int32.toInt64 ((I 133) 9))) 10 (Int32.toInt64 ((I 133) 10))) 11 (Int32.toInt64 ((I 133) 11))))) dX8_layForm_117 rfl hs_120 rfl (Nat.le_of_ble_eq_true rfl) (Nat.le_of_ble_eq_true rfl) (ma_up_up _ _ _ _) ?_
  refine ev_iinc (pc' := 121) (v := 4) (lv' := [some (.ref 115), some (.int 6), some (.int 2), some (.int 2), some (.int 1), some (.int 4)]) dX8_layForm_118 rfl rfl (by decide) (Nat.le_of_ble_eq_true rfl) rfl rfl ?_
  refine ev_goto (tgt := 69) dX8_layForm_121 rfl ?_
  refine ev_iload (pc' := 71) dX8_layForm_69 rfl rfl ?_
  refine ev_iconst (pc' := 72) (v := 4) dX8_layForm_71 rfl ki_4 ?_
  refine ev_icmp_ge (tgt := 124) (pc' := 75) dX8_layForm_72 rfl rfl (fun _ => ?_) (fun h => absurd (by decide) h)
  refine ev_iinc (pc' := 127) (v := 3) (lv' := [some (.ref 115), some (.int 6), some (.int 2), some (.int 3), some (.int 1), some (.int 4)]) dX8_layForm_124 rfl rfl (by decide) (Nat.le_of_ble_eq_true rfl) rfl rfl ?_
  refine ev_goto (tgt := 32) dX8_layForm_127 rfl ?_
  refine ev_iload_n (pc' := 33) (i := 3) dX8_layForm_32 rfl rfl rfl ?_
  refine ev_iconst (pc' := 34) (v := 4) dX8_layForm_33 rfl ki_4 ?_
  refine ev_icmp_ge (tgt := 130) (pc' := 37) dX8_layForm_34 rfl rfl (fun h => absurd h (by decide)) (fun _ => ?_)
  refine ev_iload_n (pc' := 38) (i := 1) dX8_layForm_37 rfl rfl rfl ?_
  refine ev_iload_n (pc' := 39) (i := 3) dX8_layForm_38 rfl rfl rfl ?_
  refine ev_ishr (pc' := 40) (v := 0) dX8_layForm_39 rfl (by decide) ?_
  refine ev_iconst (pc' := 41) (v := 1) dX8_layForm_40 rfl ki_1 ?_
  refine ev_iand (pc' := 42) (v := 0) dX8_layForm_41 rfl (by decide) ?_
  refine ev_iconst (pc' := 43) (v := 1) dX8_layForm_42 rfl ki_1 ?_
  refine ev_icmp_ne (tgt := 50) (pc' := 46) dX8_layForm_43 rfl rfl (fun _ => ?_) (fun h => absurd h (by decide))
  refine ev_iconst (pc' := 51) (v := 0) dX8_layForm_50 rfl ki_0 ?_
  refine ev_istore (pc' := 53) (lv' := [some (.ref 115), some (.int 6), some (.int 2), some (.int 3), some (.int 0), some (.int 4)]) dX8_layForm_51 rfl (Nat.le_of_ble_eq_true rfl) rfl rfl ?_
  refine ev_iload_n (pc' := 54) (i := 2) dX8_layForm_53 rfl rfl rfl ?_
  refine ev_iload (pc' := 56) dX8_layForm_54 rfl rfl ?_
  refine ev_if_eq (tgt := 63) (pc' := 59) dX8_layForm_56 rfl rfl (fun _ => ?_) (fun h => absurd (by decide) h)
  refine ev_iconst (pc' := 64) (v := 0) dX8_layForm_63 rfl ki_0 ?_
  refine ev_iadd (pc' := 65) (v := 2) dX8_layForm_64 rfl (by decide) ?_
  refine ev_istore_n (pc' := 66) (i := 2) (lv' := [some (.ref 115), some (.int 6), some (.int 2), some (.int 3), some (.int 0), some (.int 4)]) dX8_layForm_65 rfl rfl (Nat.le_of_ble_eq_true rfl) rfl rfl ?_
  refine ev_iconst (pc' := 67) (v := 0) dX8_layForm_66 rfl ki_0 ?_
  refine ev_istore (pc' := 69) (lv' := [some (.ref 115), some (.int 6), some (.int 2), some (.int 3), some (.int 0), some (.int 0)]) dX8_layForm_67 rfl (Nat.le_of_ble_eq_true rfl) rfl rfl ?_
  refine ev_iload (pc' := 71) dX8_layForm_69 rfl rfl ?_
  refine ev_iconst (pc' := 72) (v := 4) dX8_layForm_71 rfl ki_4 ?_
  refine ev_icmp_ge (tgt := 124) (pc' := 75) dX8_layForm_72 rfl rfl (fun h => absurd h (by decide)) (fun _ => ?_)
  refine ev_aload_n (pc' := 76) (i := 0) dX8_layForm_75 rfl rfl rfl ?_
  refine ev_getR (pc' := 79) fo_X8_26 dX8_layForm_76 rfl hs_115 rfl rf_115_8 ?_
  refine ev_iconst (pc' := 80) (v := 4) dX8_layForm_79 rfl ki_4 ?_
  refine ev_iload_n (pc' := 81) (i := 3) dX8_layForm_80 rfl rfl rfl ?_
  refine ev_imul (pc' := 82) (v := 12) dX8_layForm_81 rfl (by decide) ?_
  refine ev_iload (pc' := 84) dX8_layForm_82 rfl rfl ?_
  refine ev_iadd (pc' := 85) (v := 12) dX8_layForm_84 rfl (by decide) ?_
  refine ev_iload (pc' := 87) dX8_layForm_85 rfl rfl ?_
  refine ev_if_eq (tgt := 105) (pc' := 90) dX8_layForm_87 rfl rfl (fun _ => ?_) (fun h => absurd (by decide) h)
  refine ev_aload_n (pc' := 106) (i := 0) dX8_layForm_105 rfl rfl rfl ?_
  refine ev_getR (pc' := 109) fo_X8_70 dX8_layForm_106 rfl hs_115 rfl rf_115_25 ?_
  refine ev_iconst (pc' := 110) (v := 4) dX8_layForm_109 rfl ki_4 ?_
  refine ev_iload_n (pc' := 111) (i := 3) dX8_layForm_110 rfl rfl rfl ?_
  refine ev_imul (pc' := 112) (v := 12) dX8_layForm_111 rfl (by decide) ?_
  refine ev_iload (pc' := 114) dX8_layForm_112 rfl rfl ?_
  refine ev_iadd (pc' := 115) (v := 12) dX8_layForm_114 rfl (by decide) ?_
  refine ev_iald (pc' := 116) (j := 12) (v := (I 134) 12) dX8_layForm_115 rfl hs_134 rfl (Nat.le_of_ble_eq_true rfl) (Nat.le_of_ble_eq_true rfl) rfl ?_
  refine ev_i2l (pc' := 117) (v := Int32.toInt64 ((I 134) 12)) dX8_layForm_116 rfl rfl ?_
  refine ev_last (pc' := 118) (j := 12) (L' := (ma_up (ma_up L 132 (ma_up (ma_up (ma_up (ma_up (ma_up (L 132) 0 0) 1 0) 2 ((0 + (mW (mSel 3 (I 133) (I 134)))) + (mW (mSel 5 (I 133) (I 134))))) 3 (((0 + (mW (mSel 1 (I 133) (I 134)))) + (mW (mSel 2 (I 133) (I 134)))) + (mW (mSel 4 (I 133) (I 134))))) 4 (0 + (mW (mSel 0 (I 133) (I 134)))))) 120 (ma_up (ma_up (ma_up (ma_up (ma_up (ma_up (ma_up (ma_up (ma_up (ma_up (ma_up (ma_up (ma_up r6 0 (Int32.toInt64 ((I 134) 0))) 1 (Int32.toInt64 ((I 134) 1))) 2 (Int32.toInt64 ((I 134) 2))) 3 (Int32.toInt64 ((I 134) 3))) 4 (Int32.toInt64 ((I 133) 4))) 5 (Int32.toInt64 ((I 133) 5))) 6 (Int32.toInt64 ((I 133) 6))) 7 (Int32.toInt64 ((I 133) 7))) 8 (Int32.toInt64 ((I 133) 8))) 9 (Int32.toInt64 ((I 133) 9))) 10 (Int32.toInt64 ((I 133) 10))) 11 (Int32.toInt64 ((I 133) 11))) 12 (Int32.toInt64 ((I 134) 12))))) dX8_layForm_117 rfl hs_120 rfl (Nat.le_of_ble_eq_true rfl) (Nat.le_of_ble_eq_true rfl) (ma_up_up _ _ _ _) ?_
  refine ev_iinc (pc' := 121) (v := 1) (lv' := [some (.ref 115), some (.int 6), some (.int 2), some (.int 3), some (.int 0), some (.int 1)]) dX8_layForm_118 rfl rfl (by decide) (Nat.le_of_ble_eq_true rfl) rfl rfl ?_
  refine ev_goto (tgt := 69) dX8_layForm_121 rfl ?_
  refine ev_iload (pc' := 71) dX8_layForm_69 rfl rfl ?_
  refine ev_iconst (pc' := 72) (v := 4) dX8_layForm_71 rfl ki_4 ?_
  refine ev_icmp_ge (tgt := 124) (pc' := 75) dX8_layForm_72 rfl rfl (fun h => absurd h (by decide)) (fun _ => ?_)
  refine ev_aload_n (pc' := 76) (i := 0) dX8_layForm_75 rfl rfl rfl ?_
  refine ev_getR (pc' := 79) fo_X8_26 dX8_layForm_76 rfl hs_115 rfl rf_115_8 ?_
  refine ev_iconst (pc' := 80) (v := 4) dX8_layForm_79 rfl ki_4 ?_
  refine ev_iload_n (pc' := 81) (i := 3) dX8_layForm_80 rfl rfl rfl ?_
  refine ev_imul (pc' := 82) (v := 12) dX8_layForm_81 rfl (by decide) ?_
  refine ev_iload (pc' := 84) dX8_layForm_82 rfl rfl ?_
  refine ev_iadd (pc' := 85) (v := 13) dX8_layForm_84 rfl (by decide) ?_
  refine ev_iload (pc' := 87) dX8_layForm_85 rfl rfl ?_
  refine ev_if_eq (tgt := 105) (pc' := 90) dX8_layForm_87 rfl rfl (fun _ => ?_) (fun h => absurd (by decide) h)
  refine ev_aload_n (pc' := 106) (i := 0) dX8_layForm_105 rfl rfl rfl ?_
  refine ev_getR (pc' := 109) fo_X8_70 dX8_layForm_106 rfl hs_115 rfl rf_115_25 ?_
  refine ev_iconst (pc' := 110) (v := 4) dX8_layForm_109 rfl ki_4 ?_
  refine ev_iload_n (pc' := 111) (i := 3) dX8_layForm_110 rfl rfl rfl ?_
  refine ev_imul (pc' := 112) (v := 12) dX8_layForm_111 rfl (by decide) ?_
  refine ev_iload (pc' := 114) dX8_layForm_112 rfl rfl ?_
  refine ev_iadd (pc' := 115) (v := 13) dX8_layForm_114 rfl (by decide) ?_
  refine ev_iald (pc' := 116) (j := 13) (v := (I 134) 13) dX8_layForm_115 rfl hs_134 rfl (Nat.le_of_ble_eq_true rfl) (Nat.le_of_ble_eq_true rfl) rfl ?_
  refine ev_i2l (pc' := 117) (v := Int32.toInt64 ((I 134) 13)) dX8_layForm_116 rfl rfl ?_
  refine ev_last (pc' := 118) (j := 13) (L' := (ma_up (ma_up L 132 (ma_up (ma_up (ma_up (ma_up (ma_up (L 132) 0 0) 1 0) 2 ((0 + (mW (mSel 3 (I 133) (I 134)))) + (mW (mSel 5 (I 133) (I 134))))) 3 (((0 + (mW (mSel 1 (I 133) (I 134)))) + (mW (mSel 2 (I 133) (I 134)))) + (mW (mSel 4 (I 133) (I 134))))) 4 (0 + (mW (mSel 0 (I 133) (I 134)))))) 120 (ma_up (ma_up (ma_up (ma_up (ma_up (ma_up (ma_up (ma_up (ma_up (ma_up (ma_up (ma_up (ma_up (ma_up r6 0 (Int32.toInt64 ((I 134) 0))) 1 (Int32.toInt64 ((I 134) 1))) 2 (Int32.toInt64 ((I 134) 2))) 3 (Int32.toInt64 ((I 134) 3))) 4 (Int32.toInt64 ((I 133) 4))) 5 (Int32.toInt64 ((I 133) 5))) 6 (Int32.toInt64 ((I 133) 6))) 7 (Int32.toInt64 ((I 133) 7))) 8 (Int32.toInt64 ((I 133) 8))) 9 (Int32.toInt64 ((I 133) 9))) 10 (Int32.toInt64 ((I 133) 10))) 11 (Int32.toInt64 ((I 133) 11))) 12 (Int32.toInt64 ((I 134) 12))) 13 (Int32.toInt64 ((I 134) 13))))) dX8_layForm_117 rfl hs_120 rfl (Nat.le_of_ble_eq_true rfl) (Nat.le_of_ble_eq_true rfl) (ma_up_up _ _ _ _) ?_
  refine ev_iinc (pc' := 121) (v := 2) (lv' := [some (.ref 115), some (.int 6), some (.int 2), some (.int 3), some (.int 0), some (.int 2)]) dX8_layForm_118 rfl rfl (by decide) (Nat.le_of_ble_eq_true rfl) rfl rfl ?_
  refine ev_goto (tgt := 69) dX8_layForm_121 rfl ?_
  refine ev_iload (pc' := 71) dX8_layForm_69 rfl rfl ?_
  refine ev_iconst (pc' := 72) (v := 4) dX8_layForm_71 rfl ki_4 ?_
  refine ev_icmp_ge (tgt := 124) (pc' := 75) dX8_layForm_72 rfl rfl (fun h => absurd h (by decide)) (fun _ => ?_)
  refine ev_aload_n (pc' := 76) (i := 0) dX8_layForm_75 rfl rfl rfl ?_
  refine ev_getR (pc' := 79) fo_X8_26 dX8_layForm_76 rfl hs_115 rfl rf_115_8 ?_
  refine ev_iconst (pc' := 80) (v := 4) dX8_layForm_79 rfl ki_4 ?_
  refine ev_iload_n (pc' := 81) (i := 3) dX8_layForm_80 rfl rfl rfl ?_
  refine ev_imul (pc' := 82) (v := 12) dX8_layForm_81 rfl (by decide) ?_
  refine ev_iload (pc' := 84) dX8_layForm_82 rfl rfl ?_
  refine ev_iadd (pc' := 85) (v := 14) dX8_layForm_84 rfl (by decide) ?_
  refine ev_iload (pc' := 87) dX8_layForm_85 rfl rfl ?_
  refine ev_if_eq (tgt := 105) (pc' := 90) dX8_layForm_87 rfl rfl (fun _ => ?_) (fun h => absurd (by decide) h)
  refine ev_aload_n (pc' := 106) (i := 0) dX8_layForm_105 rfl rfl rfl ?_
  refine ev_getR (pc' := 109) fo_X8_70 dX8_layForm_106 rfl hs_115 rfl rf_115_25 ?_
  refine ev_iconst (pc' := 110) (v := 4) dX8_layForm_109 rfl ki_4 ?_
  refine ev_iload_n (pc' := 111) (i := 3) dX8_layForm_110 rfl rfl rfl ?_
  refine ev_imul (pc' := 112) (v := 12) dX8_layForm_111 rfl (by decide) ?_
  refine ev_iload (pc' := 114) dX8_layForm_112 rfl rfl ?_
  refine ev_iadd (pc' := 115) (v := 14) dX8_layForm_114 rfl (by decide) ?_
  refine ev_iald (pc' := 116) (j := 14) (v := (I 134) 14) dX8_layForm_115 rfl hs_134 rfl (Nat.le_of_ble_eq_true rfl) (Nat.le_of_ble_eq_true rfl) rfl ?_
  refine ev_i2l (pc' := 117) (v := Int32.toInt64 ((I 134) 14)) dX8_layForm_116 rfl rfl ?_
  refine ev_last (pc' := 118) (j := 14) (L' := (ma_up (ma_up L 132 (ma_up (ma_up (ma_up (ma_up (ma_up (L 132) 0 0) 1 0) 2 ((0 + (mW (mSel 3 (I 133) (I 134)))) + (mW (mSel 5 (I 133) (I 134))))) 3 (((0 + (mW (mSel 1 (I 133) (I 134)))) + (mW (mSel 2 (I 133) (I 134)))) + (mW (mSel 4 (I 133) (I 134))))) 4 (0 + (mW (mSel 0 (I 133) (I 134)))))) 120 (ma_up (ma_up (ma_up (ma_up (ma_up (ma_up (ma_up (ma_up (ma_up (ma_up (ma_up (ma_up (ma_up (ma_up (ma_up r6 0 (Int32.toInt64 ((I 134) 0))) 1 (Int32.toInt64 ((I 134) 1))) 2 (Int32.toInt64 ((I 134) 2))) 3 (Int32.toInt64 ((I 134) 3))) 4 (Int32.toInt64 ((I 133) 4))) 5 (Int32.toInt64 ((I 133) 5))) 6 (Int32.toInt64 ((I 133) 6))) 7 (Int32.toInt64 ((I 133) 7))) 8 (Int32.toInt64 ((I 133) 8))) 9 (Int32.toInt64 ((I 133) 9))) 10 (Int32.toInt64 ((I 133) 10))) 11 (Int32.toInt64 ((I 133) 11))) 12 (Int32.toInt64 ((I 134) 12))) 13 (Int32.toInt64 ((I 134) 13))) 14 (Int32.toInt64 ((I 134) 14))))) dX8_layForm_117 rfl hs_120 rfl (Nat.le_of_ble_eq_true rfl) (Nat.le_of_ble_eq_true rfl) (ma_up_up _ _ _ _) ?_
  refine ev_iinc (pc' := 121) (v := 3) (lv' := [some (.ref 115), some (.int 6), some (.int 2), some (.int 3), some (.int 0), some (.int 3)]) dX8_layForm_118 rfl rfl (by decide) (Nat.le_of_ble_eq_true rfl) rfl rfl ?_
  refine ev_goto (tgt := 69) dX8_layForm_121 rfl ?_
  refine ev_iload (pc' := 71) dX8_layForm_69 rfl rfl ?_
  refine ev_iconst (pc' := 72) (v := 4) dX8_layForm_71 rfl ki_4 ?_
  refine ev_icmp_ge (tgt := 124) (pc' := 75) dX8_layForm_72 rfl rfl (fun h => absurd h (by decide)) (fun _ => ?_)
  refine ev_aload_n (pc' := 76) (i := 0) dX8_layForm_75 rfl rfl rfl ?_
  refine ev_getR (pc' := 79) fo_X8_26 dX8_layForm_76 rfl hs_115 rfl rf_115_8 ?_
  refine ev_iconst (pc' := 80) (v := 4) dX8_layForm_79 rfl ki_4 ?_
  refine ev_iload_n (pc' := 81) (i := 3) dX8_layForm_80 rfl rfl rfl ?_
  refine ev_imul (pc' := 82) (v := 12) dX8_layForm_81 rfl (by decide) ?_
  refine ev_iload (pc' := 84) dX8_layForm_82 rfl rfl ?_
  refine ev_iadd (pc' := 85) (v := 15) dX8_layForm_84 rfl (by decide) ?_
  refine ev_iload (pc' := 87) dX8_layForm_85 rfl rfl ?_
  refine ev_if_eq (tgt := 105) (pc' := 90) dX8_layForm_87 rfl rfl (fun _ => ?_) (fun h => absurd (by decide) h)
  refine ev_aload_n (pc' := 106) (i := 0) dX8_layForm_105 rfl rfl rfl ?_
  refine ev_getR (pc' := 109) fo_X8_70 dX8_layForm_106 rfl hs_115 rfl rf_115_25 ?_
  refine ev_iconst (pc' := 110) (v := 4) dX8_layForm_109 rfl ki_4 ?_
  refine ev_iload_n (pc' := 111) (i := 3) dX8_layForm_110 rfl rfl rfl ?_
  refine ev_imul (pc' := 112) (v := 12) dX8_layForm_111 rfl (by decide) ?_
  refine ev_iload (pc' := 114) dX8_layForm_112 rfl rfl ?_
  refine ev_iadd (pc' := 115) (v := 15) dX8_layForm_114 rfl (by decide) ?_
  refine ev_iald (pc' := 116) (j := 15) (v := (I 134) 15) dX8_layForm_115 rfl hs_134 rfl (Nat.le_of_ble_eq_true rfl) (Nat.le_of_ble_eq_true rfl) rfl ?_
  refine ev_i2l (pc' := 117) (v := Int32.toInt64 ((I 134) 15)) dX8_layForm_116 rfl rfl ?_
  refine ev_last (pc' := 118) (j := 15) (L' := (ma_up (ma_up L 132 (ma_up (ma_up (ma_up (ma_up (ma_up (L 132) 0 0) 1 0) 2 ((0 + (mW (mSel 3 (I 133) (I 134)))) + (mW (mSel 5 (I 133) (I 134))))) 3 (((0 + (mW (mSel 1 (I 133) (I 134)))) + (mW (mSel 2 (I 133) (I 134)))) + (mW (mSel 4 (I 133) (I 134))))) 4 (0 + (mW (mSel 0 (I 133) (I 134)))))) 120 (ma_up (ma_up (ma_up (ma_up (ma_up (ma_up (ma_up (ma_up (ma_up (ma_up (ma_up (ma_up (ma_up (ma_up (ma_up (ma_up r6 0 (Int32.toInt64 ((I 134) 0))) 1 (Int32.toInt64 ((I 134) 1))) 2 (Int32.toInt64 ((I 134) 2))) 3 (Int32.toInt64 ((I 134) 3))) 4 (Int32.toInt64 ((I 133) 4))) 5 (Int32.toInt64 ((I 133) 5))) 6 (Int32.toInt64 ((I 133) 6))) 7 (Int32.toInt64 ((I 133) 7))) 8 (Int32.toInt64 ((I 133) 8))) 9 (Int32.toInt64 ((I 133) 9))) 10 (Int32.toInt64 ((I 133) 10))) 11 (Int32.toInt64 ((I 133) 11))) 12 (Int32.toInt64 ((I 134) 12))) 13 (Int32.toInt64 ((I 134) 13))) 14 (Int32.toInt64 ((I 134) 14))) 15 (Int32.toInt64 ((I 134) 15))))) dX8_layForm_117 rfl hs_120 rfl (Nat.le_of_ble_eq_true rfl) (Nat.le_of_ble_eq_true rfl) (ma_up_up _ _ _ _) ?_
  refine ev_iinc (pc' := 121) (v := 4) (lv' := [some (.ref 115), some (.int 6), some (.int 2), some (.int 3), some (.int 0), some (.int 4)]) dX8_layForm_118 rfl rfl (by decide) (Nat.le_of_ble_eq_true rfl) rfl rfl ?_
  refine ev_goto (tgt := 69) dX8_layForm_121 rfl ?_
  refine ev_iload (pc' := 71) dX8_layForm_69 rfl rfl ?_
  refine ev_iconst (pc' := 72) (v := 4) dX8_layForm_71 rfl ki_4 ?_
  refine ev_icmp_ge (tgt := 124) (pc' := 75) dX8_layForm_72 rfl rfl (fun _ => ?_) (fun h => absurd (by decide) h)
  refine ev_iinc (pc' := 127) (v := 4) (lv' := [some (.ref 115), some (.int 6), some (.int 2), some (.int 4), some (.int 0), some (.int 4)]) dX8_layForm_124 rfl rfl (by decide) (Nat.le_of_ble_eq_true rfl) rfl rfl ?_
  refine ev_goto (tgt := 32) dX8_layForm_127 rfl ?_
  refine ev_iload_n (pc' := 33) (i := 3) dX8_layForm_32 rfl rfl rfl ?_
  refine ev_iconst (pc' := 34) (v := 4) dX8_layForm_33 rfl ki_4 ?_
  refine ev_icmp_ge (tgt := 130) (pc' := 37) dX8_layForm_34 rfl rfl (fun _ => ?_) (fun h => absurd (by decide) h)
  refine ev_aload_n (pc' := 131) (i := 0) dX8_layForm_130 rfl rfl rfl ?_
  refine ev_getR (pc' := 134) fo_X8_64 dX8_layForm_131 rfl hs_115 rfl rf_115_23 ?_
  refine ev_iconst (pc' := 135) (v := 4) dX8_layForm_134 rfl ki_4 ?_
  refine ev_iload_n (pc' := 136) (i := 2) dX8_layForm_135 rfl rfl rfl ?_
  refine ev_isub (pc' := 137) (v := 2) dX8_layForm_136 rfl (by decide) ?_
  refine ev_dup2 (pc' := 138) dX8_layForm_137 rfl rfl rfl ?_
  refine ev_lald (pc' := 139) (j := 2) (v := (0 + (mW (mSel 3 (I 133) (I 134)))) + (mW (mSel 5 (I 133) (I 134)))) dX8_layForm_138 rfl hs_132 rfl (Nat.le_of_ble_eq_true rfl) (Nat.le_of_ble_eq_true rfl) rfl ?_
  refine ev_aload_n (pc' := 140) (i := 0) dX8_layForm_139 rfl rfl rfl ?_
  refine ev_getR (pc' := 143) fo_X8_26 dX8_layForm_140 rfl hs_115 rfl rf_115_8 ?_
  refine ev_callS (pc' := 146) (rm' := rX8_worthOf) (av := [.ref 120]) (rest := [.long ((0 + (mW (mSel 3 (I 133) (I 134)))) + (mW (mSel 5 (I 133) (I 134)))), .int 2, .ref 132]) co_X8_173 cs_X8_worthOf dX8_layForm_143 rfl rfl rfl (Nat.le_of_ble_eq_true rfl) ⟨(Nat.le_of_ble_eq_true rfl), (Nat.le_of_ble_eq_true rfl)⟩ ⟨(Nat.le_of_ble_eq_true rfl), (Nat.le_of_ble_eq_true rfl)⟩ ?_
  refine t_X8_worthOf 120 hs_120 ?_
  refine ev_eql (w := mW (mSel 6 (I 133) (I 134))) rfl ?_
  refine ev_ladd (pc' := 147) (v := ((0 + (mW (mSel 3 (I 133) (I 134)))) + (mW (mSel 5 (I 133) (I 134)))) + (mW (mSel 6 (I 133) (I 134)))) dX8_layForm_146 rfl rfl ?_
  refine ev_last (pc' := 148) (j := 2) (L' := (ma_up (ma_up L 132 (ma_up (ma_up (ma_up (ma_up (ma_up (L 132) 0 0) 1 0) 2 (((0 + (mW (mSel 3 (I 133) (I 134)))) + (mW (mSel 5 (I 133) (I 134)))) + (mW (mSel 6 (I 133) (I 134))))) 3 (((0 + (mW (mSel 1 (I 133) (I 134)))) + (mW (mSel 2 (I 133) (I 134)))) + (mW (mSel 4 (I 133) (I 134))))) 4 (0 + (mW (mSel 0 (I 133) (I 134)))))) 120 (ma_up (ma_up (ma_up (ma_up (ma_up (ma_up (ma_up (ma_up (ma_up (ma_up (ma_up (ma_up (ma_up (ma_up (ma_up (ma_up r6 0 (Int32.toInt64 ((I 134) 0))) 1 (Int32.toInt64 ((I 134) 1))) 2 (Int32.toInt64 ((I 134) 2))) 3 (Int32.toInt64 ((I 134) 3))) 4 (Int32.toInt64 ((I 133) 4))) 5 (Int32.toInt64 ((I 133) 5))) 6 (Int32.toInt64 ((I 133) 6))) 7 (Int32.toInt64 ((I 133) 7))) 8 (Int32.toInt64 ((I 133) 8))) 9 (Int32.toInt64 ((I 133) 9))) 10 (Int32.toInt64 ((I 133) 10))) 11 (Int32.toInt64 ((I 133) 11))) 12 (Int32.toInt64 ((I 134) 12))) 13 (Int32.toInt64 ((I 134) 13))) 14 (Int32.toInt64 ((I 134) 14))) 15 (Int32.toInt64 ((I 134) 15))))) dX8_layForm_147 rfl hs_132 rfl (Nat.le_of_ble_eq_true rfl) (Nat.le_of_ble_eq_true rfl) ((congrArg (ma_up _ 132) ((ma_up_comm _ (show 2 ≠ 4 from (by decide)) _ _).trans (congrArg (fun f => ma_up f 4 _) ((ma_up_comm _ (show 2 ≠ 3 from (by decide)) _ _).trans (congrArg (fun f => ma_up f 3 _) (ma_up_up _ _ _ _)))))).trans ((ma_up_comm _ (show 132 ≠ 120 from (by decide)) _ _).trans (congrArg (fun f => ma_up f 120 _) (ma_up_up _ _ _ _)))) ?_
  refine ev_iinc (pc' := 151) (v := 7) (lv' := [some (.ref 115), some (.int 7), some (.int 2), some (.int 4), some (.int 0), some (.int 4)]) dX8_layForm_148 rfl rfl (by decide) (Nat.le_of_ble_eq_true rfl) rfl rfl ?_
  refine ev_goto (tgt := 22) dX8_layForm_151 rfl ?_
  refine ev_rowL (fun r7 => ?_)
  refine ev_iload_n (pc' := 23) (i := 1) dX8_layForm_22 rfl rfl rfl ?_
  refine ev_bipush (pc' := 25) (v := 16) dX8_layForm_23 rfl kb_16 ?_
  refine ev_icmp_ge (tgt := 154) (pc' := 28) dX8_layForm_25 rfl rfl (fun h => absurd h (by decide)) (fun _ => ?_)
  refine ev_iconst (pc' := 29) (v := 0) dX8_layForm_28 rfl ki_0 ?_
  refine ev_istore_n (pc' := 30) (i := 2) (lv' := [some (.ref 115), some (.int 7), some (.int 0), some (.int 4), some (.int 0), some (.int 4)]) dX8_layForm_29 rfl rfl (Nat.le_of_ble_eq_true rfl) rfl rfl ?_
  refine ev_iconst (pc' := 31) (v := 0) dX8_layForm_30 rfl ki_0 ?_
  refine ev_istore_n (pc' := 32) (i := 3) (lv' := [some (.ref 115), some (.int 7), some (.int 0), some (.int 0), some (.int 0), some (.int 4)]) dX8_layForm_31 rfl rfl (Nat.le_of_ble_eq_true rfl) rfl rfl ?_
  refine ev_iload_n (pc' := 33) (i := 3) dX8_layForm_32 rfl rfl rfl ?_
  refine ev_iconst (pc' := 34) (v := 4) dX8_layForm_33 rfl ki_4 ?_
  refine ev_icmp_ge (tgt := 130) (pc' := 37) dX8_layForm_34 rfl rfl (fun h => absurd h (by decide)) (fun _ => ?_)
  refine ev_iload_n (pc' := 38) (i := 1) dX8_layForm_37 rfl rfl rfl ?_
  refine ev_iload_n (pc' := 39) (i := 3) dX8_layForm_38 rfl rfl rfl ?_
  refine ev_ishr (pc' := 40) (v := 7) dX8_layForm_39 rfl (by decide) ?_
  refine ev_iconst (pc' := 41) (v := 1) dX8_layForm_40 rfl ki_1 ?_
  refine ev_iand (pc' := 42) (v := 1) dX8_layForm_41 rfl (by decide) ?_
  refine ev_iconst (pc' := 43) (v := 1) dX8_layForm_42 rfl ki_1 ?_
  refine ev_icmp_ne (tgt := 50) (pc' := 46) dX8_layForm_43 rfl rfl (fun h => absurd (by decide) h) (fun _ => ?_)
  refine ev_iconst (pc' := 47) (v := 1) dX8_layForm_46 rfl ki_1 ?_
  refine ev_goto (tgt := 51) dX8_layForm_47 rfl ?_
  refine ev_istore (pc' := 53) (lv' := [some (.ref 115), some (.int 7), some (.int 0), some (.int 0), some (.int 1), some (.int 4)]) dX8_layForm_51 rfl (Nat.le_of_ble_eq_true rfl) rfl rfl ?_
  refine ev_iload_n (pc' := 54) (i := 2) dX8_layForm_53 rfl rfl rfl ?_
  refine ev_iload (pc' := 56) dX8_layForm_54 rfl rfl ?_
  refine ev_if_eq (tgt := 63) (pc' := 59) dX8_layForm_56 rfl rfl (fun h => absurd h (by decide)) (fun _ => ?_)
  refine ev_iconst (pc' := 60) (v := 1) dX8_layForm_59 rfl ki_1 ?_
  refine ev_goto (tgt := 64) dX8_layForm_60 rfl ?_
  refine ev_iadd (pc' := 65) (v := 1) dX8_layForm_64 rfl (by decide) ?_
  refine ev_istore_n (pc' := 66) (i := 2) (lv' := [some (.ref 115), some (.int 7), some (.int 1), some (.int 0), some (.int 1), some (.int 4)]) dX8_layForm_65 rfl rfl (Nat.le_of_ble_eq_true rfl) rfl rfl ?_
  refine ev_iconst (pc' := 67) (v := 0) dX8_layForm_66 rfl ki_0 ?_
  refine ev_istore (pc' := 69) (lv' := [some (.ref 115), some (.int 7), some (.int 1), some (.int 0), some (.int 1), some (.int 0)]) dX8_layForm_67 rfl (Nat.le_of_ble_eq_true rfl) rfl rfl ?_
  refine ev_iload (pc' := 71) dX8_layForm_69 rfl rfl ?_
  refine ev_iconst (pc' := 72) (v := 4) dX8_layForm_71 rfl ki_4 ?_
  refine ev_icmp_ge (tgt := 124) (pc' := 75) dX8_layForm_72 rfl rfl (fun h => absurd h (by decide)) (fun _ => ?_)
  refine ev_aload_n (pc' := 76) (i := 0) dX8_layForm_75 rfl rfl rfl ?_
  refine ev_getR (pc' := 79) fo_X8_26 dX8_layForm_76 rfl hs_115 rfl rf_115_8 ?_
  refine ev_iconst (pc' := 80) (v := 4) dX8_layForm_79 rfl ki_4 ?_
  refine ev_iload_n (pc' := 81) (i := 3) dX8_layForm_80 rfl rfl rfl ?_
  refine ev_imul (pc' := 82) (v := 0) dX8_layForm_81 rfl (by decide) ?_
  refine ev_iload (pc' := 84) dX8_layForm_82 rfl rfl ?_
  refine ev_iadd (pc' := 85) (v := 0) dX8_layForm_84 rfl (by decide) ?_
  refine ev_iload (pc' := 87) dX8_layForm_85 rfl rfl ?_
  refine ev_if_eq (tgt := 105) (pc' := 90) dX8_layForm_87 rfl rfl (fun h => absurd h (by decide)) (fun _ => ?_)
  refine ev_aload_n (pc' := 91) (i := 0) dX8_layForm_90 rfl rfl rfl ?_
  refine ev_getR (pc' := 94) fo_X8_67 dX8_layForm_91 rfl hs_115 rfl rf_115_24 ?_
  refine ev_iconst (pc' := 95) (v := 4) dX8_layForm_94 rfl ki_4 ?_
  refine ev_iload_n (pc' := 96) (i := 3) dX8_layForm_95 rfl rfl rfl ?_
  refine ev_imul (pc' := 97) (v := 0) dX8_layForm_96 rfl (by decide) ?_
  refine ev_iload (pc' := 99) dX8_layForm_97 rfl rfl ?_
  refine ev_iadd (pc' := 100) (v := 0) dX8_layForm_99 rfl (by decide) ?_
  refine ev_iald (pc' := 101) (j := 0) (v := (I 133) 0) dX8_layForm_100 rfl hs_133 rfl (Nat.le_of_ble_eq_true rfl) (Nat.le_of_ble_eq_true rfl) rfl ?_
  refine ev_i2l (pc' := 102) (v := Int32.toInt64 ((I 133) 0)) dX8_layForm_101 rfl rfl ?_
  refine ev_goto (tgt := 117) dX8_layForm_102 rfl ?_
  refine ev_last (pc' := 118) (j := 0) (L' := (ma_up (ma_up L 132 (ma_up (ma_up (ma_up (ma_up (ma_up (L 132) 0 0) 1 0) 2 (((0 + (mW (mSel 3 (I 133) (I 134)))) + (mW (mSel 5 (I 133) (I 134)))) + (mW (mSel 6 (I 133) (I 134))))) 3 (((0 + (mW (mSel 1 (I 133) (I 134)))) + (mW (mSel 2 (I 133) (I 134)))) + (mW (mSel 4 (I 133) (I 134))))) 4 (0 + (mW (mSel 0 (I 133) (I 134)))))) 120 (ma_up r7 0 (Int32.toInt64 ((I 133) 0))))) dX8_layForm_117 rfl hs_120 rfl (Nat.le_of_ble_eq_true rfl) (Nat.le_of_ble_eq_true rfl) (ma_up_up _ _ _ _) ?_
  refine ev_iinc (pc' := 121) (v := 1) (lv' := [some (.ref 115), some (.int 7), some (.int 1), some (.int 0), some (.int 1), some (.int 1)]) dX8_layForm_118 rfl rfl (by decide) (Nat.le_of_ble_eq_true rfl) rfl rfl ?_
  refine ev_goto (tgt := 69) dX8_layForm_121 rfl ?_
  refine ev_iload (pc' := 71) dX8_layForm_69 rfl rfl ?_
  refine ev_iconst (pc' := 72) (v := 4) dX8_layForm_71 rfl ki_4 ?_
  refine ev_icmp_ge (tgt := 124) (pc' := 75) dX8_layForm_72 rfl rfl (fun h => absurd h (by decide)) (fun _ => ?_)
  refine ev_aload_n (pc' := 76) (i := 0) dX8_layForm_75 rfl rfl rfl ?_
  refine ev_getR (pc' := 79) fo_X8_26 dX8_layForm_76 rfl hs_115 rfl rf_115_8 ?_
  refine ev_iconst (pc' := 80) (v := 4) dX8_layForm_79 rfl ki_4 ?_
  refine ev_iload_n (pc' := 81) (i := 3) dX8_layForm_80 rfl rfl rfl ?_
  refine ev_imul (pc' := 82) (v := 0) dX8_layForm_81 rfl (by decide) ?_
  refine ev_iload (pc' := 84) dX8_layForm_82 rfl rfl ?_
  refine ev_iadd (pc' := 85) (v := 1) dX8_layForm_84 rfl (by decide) ?_
  refine ev_iload (pc' := 87) dX8_layForm_85 rfl rfl ?_
  refine ev_if_eq (tgt := 105) (pc' := 90) dX8_layForm_87 rfl rfl (fun h => absurd h (by decide)) (fun _ => ?_)
  refine ev_aload_n (pc' := 91) (i := 0) dX8_layForm_90 rfl rfl rfl ?_
  refine ev_getR (pc' := 94) fo_X8_67 dX8_layForm_91 rfl hs_115 rfl rf_115_24 ?_
  refine ev_iconst (pc' := 95) (v := 4) dX8_layForm_94 rfl ki_4 ?_
  refine ev_iload_n (pc' := 96) (i := 3) dX8_layForm_95 rfl rfl rfl ?_
  refine ev_imul (pc' := 97) (v := 0) dX8_layForm_96 rfl (by decide) ?_
  refine ev_iload (pc' := 99) dX8_layForm_97 rfl rfl ?_
  refine ev_iadd (pc' := 100) (v := 1) dX8_layForm_99 rfl (by decide) ?_
  refine ev_iald (pc' := 101) (j := 1) (v := (I 133) 1) dX8_layForm_100 rfl hs_133 rfl (Nat.le_of_ble_eq_true rfl) (Nat.le_of_ble_eq_true rfl) rfl ?_
  refine ev_i2l (pc' := 102) (v := Int32.toInt64 ((I 133) 1)) dX8_layForm_101 rfl rfl ?_
  refine ev_goto (tgt := 117) dX8_layForm_102 rfl ?_
  refine ev_last (pc' := 118) (j := 1) (L' := (ma_up (ma_up L 132 (ma_up (ma_up (ma_up (ma_up (ma_up (L 132) 0 0) 1 0) 2 (((0 + (mW (mSel 3 (I 133) (I 134)))) + (mW (mSel 5 (I 133) (I 134)))) + (mW (mSel 6 (I 133) (I 134))))) 3 (((0 + (mW (mSel 1 (I 133) (I 134)))) + (mW (mSel 2 (I 133) (I 134)))) + (mW (mSel 4 (I 133) (I 134))))) 4 (0 + (mW (mSel 0 (I 133) (I 134)))))) 120 (ma_up (ma_up r7 0 (Int32.toInt64 ((I 133) 0))) 1 (Int32.toInt64 ((I 133) 1))))) dX8_layForm_117 rfl hs_120 rfl (Nat.le_of_ble_eq_true rfl) (Nat.le_of_ble_eq_true rfl) (ma_up_up _ _ _ _) ?_
  refine ev_iinc (pc' := 121) (v := 2) (lv' := [some (.ref 115), some (.int 7), some (.int 1), some (.int 0), some (.int 1), some (.int 2)]) dX8_layForm_118 rfl rfl (by decide) (Nat.le_of_ble_eq_true rfl) rfl rfl ?_
  refine ev_goto (tgt := 69) dX8_layForm_121 rfl ?_
  refine ev_iload (pc' := 71) dX8_layForm_69 rfl rfl ?_
  refine ev_iconst (pc' := 72) (v := 4) dX8_layForm_71 rfl ki_4 ?_
  refine ev_icmp_ge (tgt := 124) (pc' := 75) dX8_layForm_72 rfl rfl (fun h => absurd h (by decide)) (fun _ => ?_)
  refine ev_aload_n (pc' := 76) (i := 0) dX8_layForm_75 rfl rfl rfl ?_
  refine ev_getR (pc' := 79) fo_X8_26 dX8_layForm_76 rfl hs_115 rfl rf_115_8 ?_
  refine ev_iconst (pc' := 80) (v := 4) dX8_layForm_79 rfl ki_4 ?_
  refine ev_iload_n (pc' := 81) (i := 3) dX8_layForm_80 rfl rfl rfl ?_
  refine ev_imul (pc' := 82) (v := 0) dX8_layForm_81 rfl (by decide) ?_
  refine ev_iload (pc' := 84) dX8_layForm_82 rfl rfl ?_
  refine ev_iadd (pc' := 85) (v := 2) dX8_layForm_84 rfl (by decide) ?_
  refine ev_iload (pc' := 87) dX8_layForm_85 rfl rfl ?_
  refine ev_if_eq (tgt := 105) (pc' := 90) dX8_layForm_87 rfl rfl (fun h => absurd h (by decide)) (fun _ => ?_)
  refine ev_aload_n (pc' := 91) (i := 0) dX8_layForm_90 rfl rfl rfl ?_
  refine ev_getR (pc' := 94) fo_X8_67 dX8_layForm_91 rfl hs_115 rfl rf_115_24 ?_
  refine ev_iconst (pc' := 95) (v := 4) dX8_layForm_94 rfl ki_4 ?_
  refine ev_iload_n (pc' := 96) (i := 3) dX8_layForm_95 rfl rfl rfl ?_
  refine ev_imul (pc' := 97) (v := 0) dX8_layForm_96 rfl (by decide) ?_
  refine ev_iload (pc' := 99) dX8_layForm_97 rfl rfl ?_
  refine ev_iadd (pc' := 100) (v := 2) dX8_layForm_99 rfl (by decide) ?_
  refine ev_iald (pc' := 101) (j := 2) (v := (I 133) 2) dX8_layForm_100 rfl hs_133 rfl (Nat.le_of_ble_eq_true rfl) (Nat.le_of_ble_eq_true rfl) rfl ?_
  refine ev_i2l (pc' := 102) (v := Int32.toInt64 ((I 133) 2)) dX8_layForm_101 rfl rfl ?_
  refine ev_goto (tgt := 117) dX8_layForm_102 rfl ?_
  refine ev_last (pc' := 118) (j := 2) (L' := (ma_up (ma_up L 132 (ma_up (ma_up (ma_up (ma_up (ma_up (L 132) 0 0) 1 0) 2 (((0 + (mW (mSel 3 (I 133) (I 134)))) + (mW (mSel 5 (I 133) (I 134)))) + (mW (mSel 6 (I 133) (I 134))))) 3 (((0 + (mW (mSel 1 (I 133) (I 134)))) + (mW (mSel 2 (I 133) (I 134)))) + (mW (mSel 4 (I 133) (I 134))))) 4 (0 + (mW (mSel 0 (I 133) (I 134)))))) 120 (ma_up (ma_up (ma_up r7 0 (Int32.toInt64 ((I 133) 0))) 1 (Int32.toInt64 ((I 133) 1))) 2 (Int32.toInt64 ((I 133) 2))))) dX8_layForm_117 rfl hs_120 rfl (Nat.le_of_ble_eq_true rfl) (Nat.le_of_ble_eq_true rfl) (ma_up_up _ _ _ _) ?_
  refine ev_iinc (pc' := 121) (v := 3) (lv' := [some (.ref 115), some (.int 7), some (.int 1), some (.int 0), some (.int 1), some (.int 3)]) dX8_layForm_118 rfl rfl (by decide) (Nat.le_of_ble_eq_true rfl) rfl rfl ?_
  refine ev_goto (tgt := 69) dX8_layForm_121 rfl ?_
  refine ev_iload (pc' := 71) dX8_layForm_69 rfl rfl ?_
  refine ev_iconst (pc' := 72) (v := 4) dX8_layForm_71 rfl ki_4 ?_
  refine ev_icmp_ge (tgt := 124) (pc' := 75) dX8_layForm_72 rfl rfl (fun h => absurd h (by decide)) (fun _ => ?_)
  refine ev_aload_n (pc' := 76) (i := 0) dX8_layForm_75 rfl rfl rfl ?_
  refine ev_getR (pc' := 79) fo_X8_26 dX8_layForm_76 rfl hs_115 rfl rf_115_8 ?_
  refine ev_iconst (pc' := 80) (v := 4) dX8_layForm_79 rfl ki_4 ?_
  refine ev_iload_n (pc' := 81) (i := 3) dX8_layForm_80 rfl rfl rfl ?_
  refine ev_imul (pc' := 82) (v := 0) dX8_layForm_81 rfl (by decide) ?_
  refine ev_iload (pc' := 84) dX8_layForm_82 rfl rfl ?_
  refine ev_iadd (pc' := 85) (v := 3) dX8_layForm_84 rfl (by decide) ?_
  refine ev_iload (pc' := 87) dX8_layForm_85 rfl rfl ?_
  refine ev_if_eq (tgt := 105) (pc' := 90) dX8_layForm_87 rfl rfl (fun h => absurd h (by decide)) (fun _ => ?_)
  refine ev_aload_n (pc' := 91) (i := 0) dX8_layForm_90 rfl rfl rfl ?_
  refine ev_getR (pc' := 94) fo_X8_67 dX8_layForm_91 rfl hs_115 rfl rf_115_24 ?_
  refine ev_iconst (pc' := 95) (v := 4) dX8_layForm_94 rfl ki_4 ?_
  refine ev_iload_n (pc' := 96) (i := 3) dX8_layForm_95 rfl rfl rfl ?_
  refine ev_imul (pc' := 97) (v := 0) dX8_layForm_96 rfl (by decide) ?_
  refine ev_iload (pc' := 99) dX8_layForm_97 rfl rfl ?_
  refine ev_iadd (pc' := 100) (v := 3) dX8_layForm_99 rfl (by decide) ?_
  refine ev_iald (pc' := 101) (j := 3) (v := (I 133) 3) dX8_layForm_100 rfl hs_133 rfl (Nat.le_of_ble_eq_true rfl) (Nat.le_of_ble_eq_true rfl) rfl ?_
  refine ev_i2l (pc' := 102) (v := Int32.toInt64 ((I 133) 3)) dX8_layForm_101 rfl rfl ?_
  refine ev_goto (tgt := 117) dX8_layForm_102 rfl ?_
  refine ev_last (pc' := 118) (j := 3) (L' := (ma_up (ma_up L 132 (ma_up (ma_up (ma_up (ma_up (ma_up (L 132) 0 0) 1 0) 2 (((0 + (mW (mSel 3 (I 133) (I 134)))) + (mW (mSel 5 (I 133) (I 134)))) + (mW (mSel 6 (I 133) (I 134))))) 3 (((0 + (mW (mSel 1 (I 133) (I 134)))) + (mW (mSel 2 (I 133) (I 134)))) + (mW (mSel 4 (I 133) (I 134))))) 4 (0 + (mW (mSel 0 (I 133) (I 134)))))) 120 (ma_up (ma_up (ma_up (ma_up r7 0 (Int32.toInt64 ((I 133) 0))) 1 (Int32.toInt64 ((I 133) 1))) 2 (Int32.toInt64 ((I 133) 2))) 3 (Int32.toInt64 ((I 133) 3))))) dX8_layForm_117 rfl hs_120 rfl (Nat.le_of_ble_eq_true rfl) (Nat.le_of_ble_eq_true rfl) (ma_up_up _ _ _ _) ?_
  refine ev_iinc (pc' := 121) (v := 4) (lv' := [some (.ref 115), some (.int 7), some (.int 1), some (.int 0), some (.int 1), some (.int 4)]) dX8_layForm_118 rfl rfl (by decide) (Nat.le_of_ble_eq_true rfl) rfl rfl ?_
  refine ev_goto (tgt := 69) dX8_layForm_121 rfl ?_
  refine ev_iload (pc' := 71) dX8_layForm_69 rfl rfl ?_
  refine ev_iconst (pc' := 72) (v := 4) dX8_layForm_71 rfl ki_4 ?_
  refine ev_icmp_ge (tgt := 124) (pc' := 75) dX8_layForm_72 rfl rfl (fun _ => ?_) (fun h => absurd (by decide) h)
  refine ev_iinc (pc' := 127) (v := 1) (lv' := [some (.ref 115), some (.int 7), some (.int 1), some (.int 1), some (.int 1), some (.int 4)]) dX8_layForm_124 rfl rfl (by decide) (Nat.le_of_ble_eq_true rfl) rfl rfl ?_
  refine ev_goto (tgt := 32) dX8_layForm_127 rfl ?_
  refine ev_iload_n (pc' := 33) (i := 3) dX8_layForm_32 rfl rfl rfl ?_
  refine ev_iconst (pc' := 34) (v := 4) dX8_layForm_33 rfl ki_4 ?_
  refine ev_icmp_ge (tgt := 130) (pc' := 37) dX8_layForm_34 rfl rfl (fun h => absurd h (by decide)) (fun _ => ?_)
  refine ev_iload_n (pc' := 38) (i := 1) dX8_layForm_37 rfl rfl rfl ?_
  refine ev_iload_n (pc' := 39) (i := 3) dX8_layForm_38 rfl rfl rfl ?_
  refine ev_ishr (pc' := 40) (v := 3) dX8_layForm_39 rfl (by decide) ?_
  refine ev_iconst (pc' := 41) (v := 1) dX8_layForm_40 rfl ki_1 ?_
  refine ev_iand (pc' := 42) (v := 1) dX8_layForm_41 rfl (by decide) ?_
  refine ev_iconst (pc' := 43) (v := 1) dX8_layForm_42 rfl ki_1 ?_
  refine ev_icmp_ne (tgt := 50) (pc' := 46) dX8_layForm_43 rfl rfl (fun h => absurd (by decide) h) (fun _ => ?_)
  refine ev_iconst (pc' := 47) (v := 1) dX8_layForm_46 rfl ki_1 ?_
  refine ev_goto (tgt := 51) dX8_layForm_47 rfl ?_
  refine ev_istore (pc' := 53) (lv' := [some (.ref 115), some (.int 7), some (.int 1), some (.int 1), some (.int 1), some (.int 4)]) dX8_layForm_51 rfl (Nat.le_of_ble_eq_true rfl) rfl rfl ?_
  refine ev_iload_n (pc' := 54) (i := 2) dX8_layForm_53 rfl rfl rfl ?_
  refine ev_iload (pc' := 56) dX8_layForm_54 rfl rfl ?_
  refine ev_if_eq (tgt := 63) (pc' := 59) dX8_layForm_56 rfl rfl (fun h => absurd h (by decide)) (fun _ => ?_)
  refine ev_iconst (pc' := 60) (v := 1) dX8_layForm_59 rfl ki_1 ?_
  refine ev_goto (tgt := 64) dX8_layForm_60 rfl ?_
  refine ev_iadd (pc' := 65) (v := 2) dX8_layForm_64 rfl (by decide) ?_
  refine ev_istore_n (pc' := 66) (i := 2) (lv' := [some (.ref 115), some (.int 7), some (.int 2), some (.int 1), some (.int 1), some (.int 4)]) dX8_layForm_65 rfl rfl (Nat.le_of_ble_eq_true rfl) rfl rfl ?_
  refine ev_iconst (pc' := 67) (v := 0) dX8_layForm_66 rfl ki_0 ?_
  refine ev_istore (pc' := 69) (lv' := [some (.ref 115), some (.int 7), some (.int 2), some (.int 1), some (.int 1), some (.int 0)]) dX8_layForm_67 rfl (Nat.le_of_ble_eq_true rfl) rfl rfl ?_
  refine ev_iload (pc' := 71) dX8_layForm_69 rfl rfl ?_
  refine ev_iconst (pc' := 72) (v := 4) dX8_layForm_71 rfl ki_4 ?_
  refine ev_icmp_ge (tgt := 124) (pc' := 75) dX8_layForm_72 rfl rfl (fun h => absurd h (by decide)) (fun _ => ?_)
  refine ev_aload_n (pc' := 76) (i := 0) dX8_layForm_75 rfl rfl rfl ?_
  refine ev_getR (pc' := 79) fo_X8_26 dX8_layForm_76 rfl hs_115 rfl rf_115_8 ?_
  refine ev_iconst (pc' := 80) (v := 4) dX8_layForm_79 rfl ki_4 ?_
  refine ev_iload_n (pc' := 81) (i := 3) dX8_layForm_80 rfl rfl rfl ?_
  refine ev_imul (pc' := 82) (v := 4) dX8_layForm_81 rfl (by decide) ?_
  refine ev_iload (pc' := 84) dX8_layForm_82 rfl rfl ?_
  refine ev_iadd (pc' := 85) (v := 4) dX8_layForm_84 rfl (by decide) ?_
  refine ev_iload (pc' := 87) dX8_layForm_85 rfl rfl ?_
  refine ev_if_eq (tgt := 105) (pc' := 90) dX8_layForm_87 rfl rfl (fun h => absurd h (by decide)) (fun _ => ?_)
  refine ev_aload_n (pc' := 91) (i := 0) dX8_layForm_90 rfl rfl rfl ?_
  refine ev_getR (pc' := 94) fo_X8_67 dX8_layForm_91 rfl hs_115 rfl rf_115_24 ?_
  refine ev_iconst (pc' := 95) (v := 4) dX8_layForm_94 rfl ki_4 ?_
  refine ev_iload_n (pc' := 96) (i := 3) dX8_layForm_95 rfl rfl rfl ?_
  refine ev_imul (pc' := 97) (v := 4) dX8_layForm_96 rfl (by decide) ?_
  refine ev_iload (pc' := 99) dX8_layForm_97 rfl rfl ?_
  refine ev_iadd (pc' := 100) (v := 4) dX8_layForm_99 rfl (by decide) ?_
  refine ev_iald (pc' := 101) (j := 4) (v := (I 133) 4) dX8_layForm_100 rfl hs_133 rfl (Nat.le_of_ble_eq_true rfl) (Nat.le_of_ble_eq_true rfl) rfl ?_
  refine ev_i2l (pc' := 102) (v := Int32.toInt64 ((I 133) 4)) dX8_layForm_101 rfl rfl ?_
  refine ev_goto (tgt := 117) dX8_layForm_102 rfl ?_
  refine ev_last (pc' := 118) (j := 4) (L' := (ma_up (ma_up L 132 (ma_up (ma_up (ma_up (ma_up (ma_up (L 132) 0 0) 1 0) 2 (((0 + (mW (mSel 3 (I 133) (I 134)))) + (mW (mSel 5 (I 133) (I 134)))) + (mW (mSel 6 (I 133) (I 134))))) 3 (((0 + (mW (mSel 1 (I 133) (I 134)))) + (mW (mSel 2 (I 133) (I 134)))) + (mW (mSel 4 (I 133) (I 134))))) 4 (0 + (mW (mSel 0 (I 133) (I 134)))))) 120 (ma_up (ma_up (ma_up (ma_up (ma_up r7 0 (Int32.toInt64 ((I 133) 0))) 1 (Int32.toInt64 ((I 133) 1))) 2 (Int32.toInt64 ((I 133) 2))) 3 (Int32.toInt64 ((I 133) 3))) 4 (Int32.toInt64 ((I 133) 4))))) dX8_layForm_117 rfl hs_120 rfl (Nat.le_of_ble_eq_true rfl) (Nat.le_of_ble_eq_true rfl) (ma_up_up _ _ _ _) ?_
  refine ev_iinc (pc' := 121) (v := 1) (lv' := [some (.ref 115), some (.int 7), some (.int 2), some (.int 1), some (.int 1), some (.int 1)]) dX8_layForm_118 rfl rfl (by decide) (Nat.le_of_ble_eq_true rfl) rfl rfl ?_
  refine ev_goto (tgt := 69) dX8_layForm_121 rfl ?_
  refine ev_iload (pc' := 71) dX8_layForm_69 rfl rfl ?_
  refine ev_iconst (pc' := 72) (v := 4) dX8_layForm_71 rfl ki_4 ?_
  refine ev_icmp_ge (tgt := 124) (pc' := 75) dX8_layForm_72 rfl rfl (fun h => absurd h (by decide)) (fun _ => ?_)
  refine ev_aload_n (pc' := 76) (i := 0) dX8_layForm_75 rfl rfl rfl ?_
  refine ev_getR (pc' := 79) fo_X8_26 dX8_layForm_76 rfl hs_115 rfl rf_115_8 ?_
  refine ev_iconst (pc' := 80) (v := 4) dX8_layForm_79 rfl ki_4 ?_
  refine ev_iload_n (pc' := 81) (i := 3) dX8_layForm_80 rfl rfl rfl ?_
  refine ev_imul (pc' := 82) (v := 4) dX8_layForm_81 rfl (by decide) ?_
  refine ev_iload (pc' := 84) dX8_layForm_82 rfl rfl ?_
  refine ev_iadd (pc' := 85) (v := 5) dX8_layForm_84 rfl (by decide) ?_
  refine ev_iload (pc' := 87) dX8_layForm_85 rfl rfl ?_
  refine ev_if_eq (tgt := 105) (pc' := 90) dX8_layForm_87 rfl rfl (fun h => absurd h (by decide)) (fun _ => ?_)
  refine ev_aload_n (pc' := 91) (i := 0) dX8_layForm_90 rfl rfl rfl ?_
  refine ev_getR (pc' := 94) fo_X8_67 dX8_layForm_91 rfl hs_115 rfl rf_115_24 ?_
  refine ev_iconst (pc' := 95) (v := 4) dX8_layForm_94 rfl ki_4 ?_
  refine ev_iload_n (pc' := 96) (i := 3) dX8_layForm_95 rfl rfl rfl ?_
  refine ev_imul (pc' := 97) (v := 4) dX8_layForm_96 rfl (by decide) ?_
  refine ev_iload (pc' := 99) dX8_layForm_97 rfl rfl ?_
  refine ev_iadd (pc' := 100) (v := 5) dX8_layForm_99 rfl (by decide) ?_
  refine ev_iald (pc' := 101) (j := 5) (v := (I 133) 5) dX8_layForm_100 rfl hs_133 rfl (Nat.le_of_ble_eq_true rfl) (Nat.le_of_ble_eq_true rfl) rfl ?_
  refine ev_i2l (pc' := 102) (v := Int32.toInt64 ((I 133) 5)) dX8_layForm_101 rfl rfl ?_
  refine ev_goto (tgt := 117) dX8_layForm_102 rfl ?_
  refine ev_last (pc' := 118) (j := 5) (L' := (ma_up (ma_up L 132 (ma_up (ma_up (ma_up (ma_up (ma_up (L 132) 0 0) 1 0) 2 (((0 + (mW (mSel 3 (I 133) (I 134)))) + (mW (mSel 5 (I 133) (I 134)))) + (mW (mSel 6 (I 133) (I 134))))) 3 (((0 + (mW (mSel 1 (I 133) (I 134)))) + (mW (mSel 2 (I 133) (I 134)))) + (mW (mSel 4 (I 133) (I 134))))) 4 (0 + (mW (mSel 0 (I 133) (I 134)))))) 120 (ma_up (ma_up (ma_up (ma_up (ma_up (ma_up r7 0 (Int32.toInt64 ((I 133) 0))) 1 (Int32.toInt64 ((I 133) 1))) 2 (Int32.toInt64 ((I 133) 2))) 3 (Int32.toInt64 ((I 133) 3))) 4 (Int32.toInt64 ((I 133) 4))) 5 (Int32.toInt64 ((I 133) 5))))) dX8_layForm_117 rfl hs_120 rfl (Nat.le_of_ble_eq_true rfl) (Nat.le_of_ble_eq_true rfl) (ma_up_up _ _ _ _) ?_
  refine ev_iinc (pc' := 121) (v := 2) (lv' := [some (.ref 115), some (.int 7), some (.int 2), some (.int 1), some (.int 1), some (.int 2)]) dX8_layForm_118 rfl rfl (by decide) (Nat.le_of_ble_eq_true rfl) rfl rfl ?_
  refine ev_goto (tgt := 69) dX8_layForm_121 rfl ?_
  refine ev_iload (pc' := 71) dX8_layForm_69 rfl rfl ?_
  refine ev_iconst (pc' := 72) (v := 4) dX8_layForm_71 rfl ki_4 ?_
  refine ev_icmp_ge (tgt := 124) (pc' := 75) dX8_layForm_72 rfl rfl (fun h => absurd h (by decide)) (fun _ => ?_)
  refine ev_aload_n (pc' := 76) (i := 0) dX8_layForm_75 rfl rfl rfl ?_
  refine ev_getR (pc' := 79) fo_X8_26 dX8_layForm_76 rfl hs_115 rfl rf_115_8 ?_
  refine ev_iconst (pc' := 80) (v := 4) dX8_layForm_79 rfl ki_4 ?_
  refine ev_iload_n (pc' := 81) (i := 3) dX8_layForm_80 rfl rfl rfl ?_
  refine ev_imul (pc' := 82) (v := 4) dX8_layForm_81 rfl (by decide) ?_
  refine ev_iload (pc' := 84) dX8_layForm_82 rfl rfl ?_
  refine ev_iadd (pc' := 85) (v := 6) dX8_layForm_84 rfl (by decide) ?_
  refine ev_iload (pc' := 87) dX8_layForm_85 rfl rfl ?_
  refine ev_if_eq (tgt := 105) (pc' := 90) dX8_layForm_87 rfl rfl (fun h => absurd h (by decide)) (fun _ => ?_)
  refine ev_aload_n (pc' := 91) (i := 0) dX8_layForm_90 rfl rfl rfl ?_
  refine ev_getR (pc' := 94) fo_X8_67 dX8_layForm_91 rfl hs_115 rfl rf_115_24 ?_
  refine ev_iconst (pc' := 95) (v := 4) dX8_layForm_94 rfl ki_4 ?_
  refine ev_iload_n (pc' := 96) (i := 3) dX8_layForm_95 rfl rfl rfl ?_
  refine ev_imul (pc' := 97) (v := 4) dX8_layForm_96 rfl (by decide) ?_
  refine ev_iload (pc' := 99) dX8_layForm_97 rfl rfl ?_
  refine ev_iadd (pc' := 100) (v := 6) dX8_layForm_99 rfl (by decide) ?_
  refine ev_iald (pc' := 101) (j := 6) (v := (I 133) 6) dX8_layForm_100 rfl hs_133 rfl (Nat.le_of_ble_eq_true rfl) (Nat.le_of_ble_eq_true rfl) rfl ?_
  refine ev_i2l (pc' := 102) (v := Int32.toInt64 ((I 133) 6)) dX8_layForm_101 rfl rfl ?_
  refine ev_goto (tgt := 117) dX8_layForm_102 rfl ?_
  refine ev_last (pc' := 118) (j := 6) (L' := (ma_up (ma_up L 132 (ma_up (ma_up (ma_up (ma_up (ma_up (L 132) 0 0) 1 0) 2 (((0 + (mW (mSel 3 (I 133) (I 134)))) + (mW (mSel 5 (I 133) (I 134)))) + (mW (mSel 6 (I 133) (I 134))))) 3 (((0 + (mW (mSel 1 (I 133) (I 134)))) + (mW (mSel 2 (I 133) (I 134)))) + (mW (mSel 4 (I 133) (I 134))))) 4 (0 + (mW (mSel 0 (I 133) (I 134)))))) 120 (ma_up (ma_up (ma_up (ma_up (ma_up (ma_up (ma_up r7 0 (Int32.toInt64 ((I 133) 0))) 1 (Int32.toInt64 ((I 133) 1))) 2 (Int32.toInt64 ((I 133) 2))) 3 (Int32.toInt64 ((I 133) 3))) 4 (Int32.toInt64 ((I 133) 4))) 5 (Int32.toInt64 ((I 133) 5))) 6 (Int32.toInt64 ((I 133) 6))))) dX8_layForm_117 rfl hs_120 rfl (Nat.le_of_ble_eq_true rfl) (Nat.le_of_ble_eq_true rfl) (ma_up_up _ _ _ _) ?_
  refine ev_iinc (pc' := 121) (v := 3) (lv' := [some (.ref 115), some (.int 7), some (.int 2), some (.int 1), some (.int 1), some (.int 3)]) dX8_layForm_118 rfl rfl (by decide) (Nat.le_of_ble_eq_true rfl) rfl rfl ?_
  refine ev_goto (tgt := 69) dX8_layForm_121 rfl ?_
  refine ev_iload (pc' := 71) dX8_layForm_69 rfl rfl ?_
  refine ev_iconst (pc' := 72) (v := 4) dX8_layForm_71 rfl ki_4 ?_
  refine ev_icmp_ge (tgt := 124) (pc' := 75) dX8_layForm_72 rfl rfl (fun h => absurd h (by decide)) (fun _ => ?_)
  refine ev_aload_n (pc' := 76) (i := 0) dX8_layForm_75 rfl rfl rfl ?_
  refine ev_getR (pc' := 79) fo_X8_26 dX8_layForm_76 rfl hs_115 rfl rf_115_8 ?_
  refine ev_iconst (pc' := 80) (v := 4) dX8_layForm_79 rfl ki_4 ?_
  refine ev_iload_n (pc' := 81) (i := 3) dX8_layForm_80 rfl rfl rfl ?_
  refine ev_imul (pc' := 82) (v := 4) dX8_layForm_81 rfl (by decide) ?_
  refine ev_iload (pc' := 84) dX8_layForm_82 rfl rfl ?_
  refine ev_iadd (pc' := 85) (v := 7) dX8_layForm_84 rfl (by decide) ?_
  refine ev_iload (pc' := 87) dX8_layForm_85 rfl rfl ?_
  refine ev_if_eq (tgt := 105) (pc' := 90) dX8_layForm_87 rfl rfl (fun h => absurd h (by decide)) (fun _ => ?_)
  refine ev_aload_n (pc' := 91) (i := 0) dX8_layForm_90 rfl rfl rfl ?_
  refine ev_getR (pc' := 94) fo_X8_67 dX8_layForm_91 rfl hs_115 rfl rf_115_24 ?_
  refine ev_iconst (pc' := 95) (v := 4) dX8_layForm_94 rfl ki_4 ?_
  refine ev_iload_n (pc' := 96) (i := 3) dX8_layForm_95 rfl rfl rfl ?_
  refine ev_imul (pc' := 97) (v := 4) dX8_layForm_96 rfl (by decide) ?_
  refine ev_iload (pc' := 99) dX8_layForm_97 rfl rfl ?_
  refine ev_iadd (pc' := 100) (v := 7) dX8_layForm_99 rfl (by decide) ?_
  refine ev_iald (pc' := 101) (j := 7) (v := (I 133) 7) dX8_layForm_100 rfl hs_133 rfl (Nat.le_of_ble_eq_true rfl) (Nat.le_of_ble_eq_true rfl) rfl ?_
  refine ev_i2l (pc' := 102) (v := Int32.toInt64 ((I 133) 7)) dX8_layForm_101 rfl rfl ?_
  refine ev_goto (tgt := 117) dX8_layForm_102 rfl ?_
  refine ev_last (pc' := 118) (j := 7) (L' := (ma_up (ma_up L 132 (ma_up (ma_up (ma_up (ma_up (ma_up (L 132) 0 0) 1 0) 2 (((0 + (mW (mSel 3 (I 133) (I 134)))) + (mW (mSel 5 (I 133) (I 134)))) + (mW (mSel 6 (I 133) (I 134))))) 3 (((0 + (mW (mSel 1 (I 133) (I 134)))) + (mW (mSel 2 (I 133) (I 134)))) + (mW (mSel 4 (I 133) (I 134))))) 4 (0 + (mW (mSel 0 (I 133) (I 134)))))) 120 (ma_up (ma_up (ma_up (ma_up (ma_up (ma_up (ma_up (ma_up r7 0 (Int32.toInt64 ((I 133) 0))) 1 (Int32.toInt64 ((I 133) 1))) 2 (Int32.toInt64 ((I 133) 2))) 3 (Int32.toInt64 ((I 133) 3))) 4 (Int32.toInt64 ((I 133) 4))) 5 (Int32.toInt64 ((I 133) 5))) 6 (Int32.toInt64 ((I 133) 6))) 7 (Int32.toInt64 ((I 133) 7))))) dX8_layForm_117 rfl hs_120 rfl (Nat.le_of_ble_eq_true rfl) (Nat.le_of_ble_eq_true rfl) (ma_up_up _ _ _ _) ?_
  refine ev_iinc (pc' := 121) (v := 4) (lv' := [some (.ref 115), some (.int 7), some (.int 2), some (.int 1), some (.int 1), some (.int 4)]) dX8_layForm_118 rfl rfl (by decide) (Nat.le_of_ble_eq_true rfl) rfl rfl ?_
  refine ev_goto (tgt := 69) dX8_layForm_121 rfl ?_
  refine ev_iload (pc' := 71) dX8_layForm_69 rfl rfl ?_
  refine ev_iconst (pc' := 72) (v := 4) dX8_layForm_71 rfl ki_4 ?_
  refine ev_icmp_ge (tgt := 124) (pc' := 75) dX8_layForm_72 rfl rfl (fun _ => ?_) (fun h => absurd (by decide) h)
  refine ev_iinc (pc' := 127) (v := 2) (lv' := [some (.ref 115), some (.int 7), some (.int 2), some (.int 2), some (.int 1), some (.int 4)]) dX8_layForm_124 rfl rfl (by decide) (Nat.le_of_ble_eq_true rfl) rfl rfl ?_
  refine ev_goto (tgt := 32) dX8_layForm_127 rfl ?_
  refine ev_iload_n (pc' := 33) (i := 3) dX8_layForm_32 rfl rfl rfl ?_
  refine ev_iconst (pc' := 34) (v := 4) dX8_layForm_33 rfl ki_4 ?_
  refine ev_icmp_ge (tgt := 130) (pc' := 37) dX8_layForm_34 rfl rfl (fun h => absurd h (by decide)) (fun _ => ?_)
  refine ev_iload_n (pc' := 38) (i := 1) dX8_layForm_37 rfl rfl rfl ?_
  refine ev_iload_n (pc' := 39) (i := 3) dX8_layForm_38 rfl rfl rfl ?_
  refine ev_ishr (pc' := 40) (v := 1) dX8_layForm_39 rfl (by decide) ?_
  refine ev_iconst (pc' := 41) (v := 1) dX8_layForm_40 rfl ki_1 ?_
  refine ev_iand (pc' := 42) (v := 1) dX8_layForm_41 rfl (by decide) ?_
  refine ev_iconst (pc' := 43) (v := 1) dX8_layForm_42 rfl ki_1 ?_
  refine ev_icmp_ne (tgt := 50) (pc' := 46) dX8_layForm_43 rfl rfl (fun h => absurd (by decide) h) (fun _ => ?_)
  refine ev_iconst (pc' := 47) (v := 1) dX8_layForm_46 rfl ki_1 ?_
  refine ev_goto (tgt := 51) dX8_layForm_47 rfl ?_
  refine ev_istore (pc' := 53) (lv' := [some (.ref 115), some (.int 7), some (.int 2), some (.int 2), some (.int 1), some (.int 4)]) dX8_layForm_51 rfl (Nat.le_of_ble_eq_true rfl) rfl rfl ?_
  refine ev_iload_n (pc' := 54) (i := 2) dX8_layForm_53 rfl rfl rfl ?_
  refine ev_iload (pc' := 56) dX8_layForm_54 rfl rfl ?_
  refine ev_if_eq (tgt := 63) (pc' := 59) dX8_layForm_56 rfl rfl (fun h => absurd h (by decide)) (fun _ => ?_)
  refine ev_iconst (pc' := 60) (v := 1) dX8_layForm_59 rfl ki_1 ?_
  refine ev_goto (tgt := 64) dX8_layForm_60 rfl ?_
  refine ev_iadd (pc' := 65) (v := 3) dX8_layForm_64 rfl (by decide) ?_
  refine ev_istore_n (pc' := 66) (i := 2) (lv' := [some (.ref 115), some (.int 7), some (.int 3), some (.int 2), some (.int 1), some (.int 4)]) dX8_layForm_65 rfl rfl (Nat.le_of_ble_eq_true rfl) rfl rfl ?_
  refine ev_iconst (pc' := 67) (v := 0) dX8_layForm_66 rfl ki_0 ?_
  refine ev_istore (pc' := 69) (lv' := [some (.ref 115), some (.int 7), some (.int 3), some (.int 2), some (.int 1), some (.int 0)]) dX8_layForm_67 rfl (Nat.le_of_ble_eq_true rfl) rfl rfl ?_
  refine ev_iload (pc' := 71) dX8_layForm_69 rfl rfl ?_
  refine ev_iconst (pc' := 72) (v := 4) dX8_layForm_71 rfl ki_4 ?_
  refine ev_icmp_ge (tgt := 124) (pc' := 75) dX8_layForm_72 rfl rfl (fun h => absurd h (by decide)) (fun _ => ?_)
  refine ev_aload_n (pc' := 76) (i := 0) dX8_layForm_75 rfl rfl rfl ?_
  refine ev_getR (pc' := 79) fo_X8_26 dX8_layForm_76 rfl hs_115 rfl rf_115_8 ?_
  refine ev_iconst (pc' := 80) (v := 4) dX8_layForm_79 rfl ki_4 ?_
  refine ev_iload_n (pc' := 81) (i := 3) dX8_layForm_80 rfl rfl rfl ?_
  refine ev_imul (pc' := 82) (v := 8) dX8_layForm_81 rfl (by decide) ?_
  refine ev_iload (pc' := 84) dX8_layForm_82 rfl rfl ?_
  refine ev_iadd (pc' := 85) (v := 8) dX8_layForm_84 rfl (by decide) ?_
  refine ev_iload (pc' := 87) dX8_layForm_85 rfl rfl ?_
  refine ev_if_eq (tgt := 105) (pc' := 90) dX8_layForm_87 rfl rfl (fun h => absurd h (by decide)) (fun _ => ?_)
  refine ev_aload_n (pc' := 91) (i := 0) dX8_layForm_90 rfl rfl rfl ?_
  refine ev_getR (pc' := 94) fo_X8_67 dX8_layForm_91 rfl hs_115 rfl rf_115_24 ?_
  refine ev_iconst (pc' := 95) (v := 4) dX8_layForm_94 rfl ki_4 ?_
  refine ev_iload_n (pc' := 96) (i := 3) dX8_layForm_95 rfl rfl rfl ?_
  refine ev_imul (pc' := 97) (v := 8) dX8_layForm_96 rfl (by decide) ?_
  refine ev_iload (pc' := 99) dX8_layForm_97 rfl rfl ?_
  refine ev_iadd (pc' := 100) (v := 8) dX8_layForm_99 rfl (by decide) ?_
  refine ev_iald (pc' := 101) (j := 8) (v := (I 133) 8) dX8_layForm_100 rfl hs_133 rfl (Nat.le_of_ble_eq_true rfl) (Nat.le_of_ble_eq_true rfl) rfl ?_
  refine ev_i2l (pc' := 102) (v := Int32.toInt64 ((I 133) 8)) dX8_layForm_101 rfl rfl ?_
  refine ev_goto (tgt := 117) dX8_layForm_102 rfl ?_
  refine ev_last (pc' := 118) (j := 8) (L' := (ma_up (ma_up L 132 (ma_up (ma_up (ma_up (ma_up (ma_up (L 132) 0 0) 1 0) 2 (((0 + (mW (mSel 3 (I 133) (I 134)))) + (mW (mSel 5 (I 133) (I 134)))) + (mW (mSel 6 (I 133) (I 134))))) 3 (((0 + (mW (mSel 1 (I 133) (I 134)))) + (mW (mSel 2 (I 133) (I 134)))) + (mW (mSel 4 (I 133) (I 134))))) 4 (0 + (mW (mSel 0 (I 133) (I 134)))))) 120 (ma_up (ma_up (ma_up (ma_up (ma_up (ma_up (ma_up (ma_up (ma_up r7 0 (Int32.toInt64 ((I 133) 0))) 1 (Int32.toInt64 ((I 133) 1))) 2 (Int32.toInt64 ((I 133) 2))) 3 (Int32.toInt64 ((I 133) 3))) 4 (Int32.toInt64 ((I 133) 4))) 5 (Int32.toInt64 ((I 133) 5))) 6 (Int32.toInt64 ((I 133) 6))) 7 (Int32.toInt64 ((I 133) 7))) 8 (Int32.toInt64 ((I 133) 8))))) dX8_layForm_117 rfl hs_120 rfl (Nat.le_of_ble_eq_true rfl) (Nat.le_of_ble_eq_true rfl) (ma_up_up _ _ _ _) ?_
  refine ev_iinc (pc' := 121) (v := 1) (lv' := [some (.ref 115), some (.int 7), some (.int 3), some (.int 2), some (.int 1), some (.int 1)]) dX8_layForm_118 rfl rfl (by decide) (Nat.le_of_ble_eq_true rfl) rfl rfl ?_
  refine ev_goto (tgt := 69) dX8_layForm_121 rfl ?_
  refine ev_iload (pc' := 71) dX8_layForm_69 rfl rfl ?_
  refine ev_iconst (pc' := 72) (v := 4) dX8_layForm_71 rfl ki_4 ?_
  refine ev_icmp_ge (tgt := 124) (pc' := 75) dX8_layForm_72 rfl rfl (fun h => absurd h (by decide)) (fun _ => ?_)
  refine ev_aload_n (pc' := 76) (i := 0) dX8_layForm_75 rfl rfl rfl ?_
  refine ev_getR (pc' := 79) fo_X8_26 dX8_layForm_76 rfl hs_115 rfl rf_115_8 ?_
  refine ev_iconst (pc' := 80) (v := 4) dX8_layForm_79 rfl ki_4 ?_
  refine ev_iload_n (pc' := 81) (i := 3) dX8_layForm_80 rfl rfl rfl ?_
  refine ev_imul (pc' := 82) (v := 8) dX8_layForm_81 rfl (by decide) ?_
  refine ev_iload (pc' := 84) dX8_layForm_82 rfl rfl ?_
  refine ev_iadd (pc' := 85) (v := 9) dX8_layForm_84 rfl (by decide) ?_
  refine ev_iload (pc' := 87) dX8_layForm_85 rfl rfl ?_
  refine ev_if_eq (tgt := 105) (pc' := 90) dX8_layForm_87 rfl rfl (fun h => absurd h (by decide)) (fun _ => ?_)
  refine ev_aload_n (pc' := 91) (i := 0) dX8_layForm_90 rfl rfl rfl ?_
  refine ev_getR (pc' := 94) fo_X8_67 dX8_layForm_91 rfl hs_115 rfl rf_115_24 ?_
  refine ev_iconst (pc' := 95) (v := 4) dX8_layForm_94 rfl ki_4 ?_
  refine ev_iload_n (pc' := 96) (i := 3) dX8_layForm_95 rfl rfl rfl ?_
  refine ev_imul (pc' := 97) (v := 8) dX8_layForm_96 rfl (by decide) ?_
  refine ev_iload (pc' := 99) dX8_layForm_97 rfl rfl ?_
  refine ev_iadd (pc' := 100) (v := 9) dX8_layForm_99 rfl (by decide) ?_
  refine ev_iald (pc' := 101) (j := 9) (v := (I 133) 9) dX8_layForm_100 rfl hs_133 rfl (Nat.le_of_ble_eq_true rfl) (Nat.le_of_ble_eq_true rfl) rfl ?_
  refine ev_i2l (pc' := 102) (v := Int32.toInt64 ((I 133) 9)) dX8_layForm_101 rfl rfl ?_
  refine ev_goto (tgt := 117) dX8_layForm_102 rfl ?_
  refine ev_last (pc' := 118) (j := 9) (L' := (ma_up (ma_up L 132 (ma_up (ma_up (ma_up (ma_up (ma_up (L 132) 0 0) 1 0) 2 (((0 + (mW (mSel 3 (I 133) (I 134)))) + (mW (mSel 5 (I 133) (I 134)))) + (mW (mSel 6 (I 133) (I 134))))) 3 (((0 + (mW (mSel 1 (I 133) (I 134)))) + (mW (mSel 2 (I 133) (I 134)))) + (mW (mSel 4 (I 133) (I 134))))) 4 (0 + (mW (mSel 0 (I 133) (I 134)))))) 120 (ma_up (ma_up (ma_up (ma_up (ma_up (ma_up (ma_up (ma_up (ma_up (ma_up r7 0 (Int32.toInt64 ((I 133) 0))) 1 (Int32.toInt64 ((I 133) 1))) 2 (Int32.toInt64 ((I 133) 2))) 3 (Int32.toInt64 ((I 133) 3))) 4 (Int32.toInt64 ((I 133) 4))) 5 (Int32.toInt64 ((I 133) 5))) 6 (Int32.toInt64 ((I 133) 6))) 7 (Int32.toInt64 ((I 133) 7))) 8 (Int32.toInt64 ((I 133) 8))) 9 (Int32.toInt64 ((I 133) 9))))) dX8_layForm_117 rfl hs_120 rfl (Nat.le_of_ble_eq_true rfl) (Nat.le_of_ble_eq_true rfl) (ma_up_up _ _ _ _) ?_
  refine ev_iinc (pc' := 121) (v := 2) (lv' := [some (.ref 115), some (.int 7), some (.int 3), some (.int 2), some (.int 1), some (.int 2)]) dX8_layForm_118 rfl rfl (by decide) (Nat.le_of_ble_eq_true rfl) rfl rfl ?_
  refine ev_goto (tgt := 69) dX8_layForm_121 rfl ?_
  refine ev_iload (pc' := 71) dX8_layForm_69 rfl rfl ?_
  refine ev_iconst (pc' := 72) (v := 4) dX8_layForm_71 rfl ki_4 ?_
  refine ev_icmp_ge (tgt := 124) (pc' := 75) dX8_layForm_72 rfl rfl (fun h => absurd h (by decide)) (fun _ => ?_)
  refine ev_aload_n (pc' := 76) (i := 0) dX8_layForm_75 rfl rfl rfl ?_
  refine ev_getR (pc' := 79) fo_X8_26 dX8_layForm_76 rfl hs_115 rfl rf_115_8 ?_
  refine ev_iconst (pc' := 80) (v := 4) dX8_layForm_79 rfl ki_4 ?_
  refine ev_iload_n (pc' := 81) (i := 3) dX8_layForm_80 rfl rfl rfl ?_
  refine ev_imul (pc' := 82) (v := 8) dX8_layForm_81 rfl (by decide) ?_
  refine ev_iload (pc' := 84) dX8_layForm_82 rfl rfl ?_
  refine ev_iadd (pc' := 85) (v := 10) dX8_layForm_84 rfl (by decide) ?_
  refine ev_iload (pc' := 87) dX8_layForm_85 rfl rfl ?_
  refine ev_if_eq (tgt := 105) (pc' := 90) dX8_layForm_87 rfl rfl (fun h => absurd h (by decide)) (fun _ => ?_)
  refine ev_aload_n (pc' := 91) (i := 0) dX8_layForm_90 rfl rfl rfl ?_
  refine ev_getR (pc' := 94) fo_X8_67 dX8_layForm_91 rfl hs_115 rfl rf_115_24 ?_
  refine ev_iconst (pc' := 95) (v := 4) dX8_layForm_94 rfl ki_4 ?_
  refine ev_iload_n (pc' := 96) (i := 3) dX8_layForm_95 rfl rfl rfl ?_
  refine ev_imul (pc' := 97) (v := 8) dX8_layForm_96 rfl (by decide) ?_
  refine ev_iload (pc' := 99) dX8_layForm_97 rfl rfl ?_
  refine ev_iadd (pc' := 100) (v := 10) dX8_layForm_99 rfl (by decide) ?_
  refine ev_iald (pc' := 101) (j := 10) (v := (I 133) 10) dX8_layForm_100 rfl hs_133 rfl (Nat.le_of_ble_eq_true rfl) (Nat.le_of_ble_eq_true rfl) rfl ?_
  refine ev_i2l (pc' := 102) (v := Int32.toInt64 ((I 133) 10)) dX8_layForm_101 rfl rfl ?_
  refine ev_goto (tgt := 117) dX8_layForm_102 rfl ?_
  refine ev_last (pc' := 118) (j := 10) (L' := (ma_up (ma_up L 132 (ma_up (ma_up (ma_up (ma_up (ma_up (L 132) 0 0) 1 0) 2 (((0 + (mW (mSel 3 (I 133) (I 134)))) + (mW (mSel 5 (I 133) (I 134)))) + (mW (mSel 6 (I 133) (I 134))))) 3 (((0 + (mW (mSel 1 (I 133) (I 134)))) + (mW (mSel 2 (I 133) (I 134)))) + (mW (mSel 4 (I 133) (I 134))))) 4 (0 + (mW (mSel 0 (I 133) (I 134)))))) 120 (ma_up (ma_up (ma_up (ma_up (ma_up (ma_up (ma_up (ma_up (ma_up (ma_up (ma_up r7 0 (Int32.toInt64 ((I 133) 0))) 1 (Int32.toInt64 ((I 133) 1))) 2 (Int32.toInt64 ((I 133) 2))) 3 (Int32.toInt64 ((I 133) 3))) 4 (Int32.toInt64 ((I 133) 4))) 5 (Int32.toInt64 ((I 133) 5))) 6 (Int32.toInt64 ((I 133) 6))) 7 (Int32.toInt64 ((I 133) 7))) 8 (Int32.toInt64 ((I 133) 8))) 9 (Int32.toInt64 ((I 133) 9))) 10 (Int32.toInt64 ((I 133) 10))))) dX8_layForm_117 rfl hs_120 rfl (Nat.le_of_ble_eq_true rfl) (Nat.le_of_ble_eq_true rfl) (ma_up_up _ _ _ _) ?_
  refine ev_iinc (pc' := 121) (v := 3) (lv' := [some (.ref 115), some (.int 7), some (.int 3), some (.int 2), some (.int 1), some (.int 3)]) dX8_layForm_118 rfl rfl (by decide) (Nat.le_of_ble_eq_true rfl) rfl rfl ?_
  refine ev_goto (tgt := 69) dX8_layForm_121 rfl ?_
  refine ev_iload (pc' := 71) dX8_layForm_69 rfl rfl ?_
  refine ev_iconst (pc' := 72) (v := 4) dX8_layForm_71 rfl ki_4 ?_
  refine ev_icmp_ge (tgt := 124) (pc' := 75) dX8_layForm_72 rfl rfl (fun h => absurd h (by decide)) (fun _ => ?_)
  refine ev_aload_n (pc' := 76) (i := 0) dX8_layForm_75 rfl rfl rfl ?_
  refine ev_getR (pc' := 79) fo_X8_26 dX8_layForm_76 rfl hs_115 rfl rf_115_8 ?_
  refine ev_iconst (pc' := 80) (v := 4) dX8_layForm_79 rfl ki_4 ?_
  refine ev_iload_n (pc' := 81) (i := 3) dX8_layForm_80 rfl rfl rfl ?_
  refine ev_imul (pc' := 82) (v := 8) dX8_layForm_81 rfl (by decide) ?_
  refine ev_iload (pc' := 84) dX8_layForm_82 rfl rfl ?_
  refine ev_iadd (pc' := 85) (v := 11) dX8_layForm_84 rfl (by decide) ?_
  refine ev_iload (pc' := 87) dX8_layForm_85 rfl rfl ?_
  refine ev_if_eq (tgt := 105) (pc' := 90) dX8_layForm_87 rfl rfl (fun h => absurd h (by decide)) (fun _ => ?_)
  refine ev_aload_n (pc' := 91) (i := 0) dX8_layForm_90 rfl rfl rfl ?_
  refine ev_getR (pc' := 94) fo_X8_67 dX8_layForm_91 rfl hs_115 rfl rf_115_24 ?_
  refine ev_iconst (pc' := 95) (v := 4) dX8_layForm_94 rfl ki_4 ?_
  refine ev_iload_n (pc' := 96) (i := 3) dX8_layForm_95 rfl rfl rfl ?_
  refine ev_imul (pc' := 97) (v := 8) dX8_layForm_96 rfl (by decide) ?_
  refine ev_iload (pc' := 99) dX8_layForm_97 rfl rfl ?_
  refine ev_iadd (pc' := 100) (v := 11) dX8_layForm_99 rfl (by decide) ?_
  refine ev_iald (pc' := 101) (j := 11) (v := (I 133) 11) dX8_layForm_100 rfl hs_133 rfl (Nat.le_of_ble_eq_true rfl) (Nat.le_of_ble_eq_true rfl) rfl ?_
  refine ev_i2l (pc' := 102) (v := Int32.toInt64 ((I 133) 11)) dX8_layForm_101 rfl rfl ?_
  refine ev_goto (tgt := 117) dX8_layForm_102 rfl ?_
  refine ev_last (pc' := 118) (j := 11) (L' := (ma_up (ma_up L 132 (ma_up (ma_up (ma_up (ma_up (ma_up (L 132) 0 0) 1 0) 2 (((0 + (mW (mSel 3 (I 133) (I 134)))) + (mW (mSel 5 (I 133) (I 134)))) + (mW (mSel 6 (I 133) (I 134))))) 3 (((0 + (mW (mSel 1 (I 133) (I 134)))) + (mW (mSel 2 (I 133) (I 134)))) + (mW (mSel 4 (I 133) (I 134))))) 4 (0 + (mW (mSel 0 (I 133) (I 134)))))) 120 (ma_up (ma_up (ma_up (ma_up (ma_up (ma_up (ma_up (ma_up (ma_up (ma_up (ma_up (ma_up r7 0 (Int32.toInt64 ((I 133) 0))) 1 (Int32.toInt64 ((I 133) 1))) 2 (Int32.toInt64 ((I 133) 2))) 3 (Int32.toInt64 ((I 133) 3))) 4 (Int32.toInt64 ((I 133) 4))) 5 (Int32.toInt64 ((I 133) 5))) 6 (Int32.toInt64 ((I 133) 6))) 7 (Int32.toInt64 ((I 133) 7))) 8 (Int32.toInt64 ((I 133) 8))) 9 (Int32.toInt64 ((I 133) 9))) 10 (Int32.toInt64 ((I 133) 10))) 11 (Int32.toInt64 ((I 133) 11))))) dX8_layForm_117 rfl hs_120 rfl (Nat.le_of_ble_eq_true rfl) (Nat.le_of_ble_eq_true rfl) (ma_up_up _ _ _ _) ?_
  refine ev_iinc (pc' := 121) (v := 4) (lv' := [some (.ref 115), some (.int 7), some (.int 3), some (.int 2), some (.int 1), some (.int 4)]) dX8_layForm_118 rfl rfl (by decide) (Nat.le_of_ble_eq_true rfl) rfl rfl ?_
  refine ev_goto (tgt := 69) dX8_layForm_121 rfl ?_
  refine ev_iload (pc' := 71) dX8_layForm_69 rfl rfl ?_
  refine ev_iconst (pc' := 72) (v := 4) dX8_layForm_71 rfl ki_4 ?_
  refine ev_icmp_ge (tgt := 124) (pc' := 75) dX8_layForm_72 rfl rfl (fun _ => ?_) (fun h => absurd (by decide) h)
  refine ev_iinc (pc' := 127) (v := 3) (lv' := [some (.ref 115), some (.int 7), some (.int 3), some (.int 3), some (.int 1), some (.int 4)]) dX8_layForm_124 rfl rfl (by decide) (Nat.le_of_ble_eq_true rfl) rfl rfl ?_
  refine ev_goto (tgt := 32) dX8_layForm_127 rfl ?_
  refine ev_iload_n (pc' := 33) (i := 3) dX8_layForm_32 rfl rfl rfl ?_
  refine ev_iconst (pc' := 34) (v := 4) dX8_layForm_33 rfl ki_4 ?_
  refine ev_icmp_ge (tgt := 130) (pc' := 37) dX8_layForm_34 rfl rfl (fun h => absurd h (by decide)) (fun _ => ?_)
  refine ev_iload_n (pc' := 38) (i := 1) dX8_layForm_37 rfl rfl rfl ?_
  refine ev_iload_n (pc' := 39) (i := 3) dX8_layForm_38 rfl rfl rfl ?_
  refine ev_ishr (pc' := 40) (v := 0) dX8_layForm_39 rfl (by decide) ?_
  refine ev_iconst (pc' := 41) (v := 1) dX8_layForm_40 rfl ki_1 ?_
  refine ev_iand (pc' := 42) (v := 0) dX8_layForm_41 rfl (by decide) ?_
  refine ev_iconst (pc' := 43) (v := 1) dX8_layForm_42 rfl ki_1 ?_
  refine ev_icmp_ne (tgt := 50) (pc' := 46) dX8_layForm_43 rfl rfl (fun _ => ?_) (fun h => absurd h (by decide))
  refine ev_iconst (pc' := 51) (v := 0) dX8_layForm_50 rfl ki_0 ?_
  refine ev_istore (pc' := 53) (lv' := [some (.ref 115), some (.int 7), some (.int 3), some (.int 3), some (.int 0), some (.int 4)]) dX8_layForm_51 rfl (Nat.le_of_ble_eq_true rfl) rfl rfl ?_
  refine ev_iload_n (pc' := 54) (i := 2) dX8_layForm_53 rfl rfl rfl ?_
  refine ev_iload (pc' := 56) dX8_layForm_54 rfl rfl ?_
  refine ev_if_eq (tgt := 63) (pc' := 59) dX8_layForm_56 rfl rfl (fun _ => ?_) (fun h => absurd (by decide) h)
  refine ev_iconst (pc' := 64) (v := 0) dX8_layForm_63 rfl ki_0 ?_
  refine ev_iadd (pc' := 65) (v := 3) dX8_layForm_64 rfl (by decide) ?_
  refine ev_istore_n (pc' := 66) (i := 2) (lv' := [some (.ref 115), some (.int 7), some (.int 3), some (.int 3), some (.int 0), some (.int 4)]) dX8_layForm_65 rfl rfl (Nat.le_of_ble_eq_true rfl) rfl rfl ?_
  refine ev_iconst (pc' := 67) (v := 0) dX8_layForm_66 rfl ki_0 ?_
  refine ev_istore (pc' := 69) (lv' := [some (.ref 115), some (.int 7), some (.int 3), some (.int 3), some (.int 0), some (.int 0)]) dX8_layForm_67 rfl (Nat.le_of_ble_eq_true rfl) rfl rfl ?_
  refine ev_iload (pc' := 71) dX8_layForm_69 rfl rfl ?_
  refine ev_iconst (pc' := 72) (v := 4) dX8_layForm_71 rfl ki_4 ?_
  refine ev_icmp_ge (tgt := 124) (pc' := 75) dX8_layForm_72 rfl rfl (fun h => absurd h (by decide)) (fun _ => ?_)
  refine ev_aload_n (pc' := 76) (i := 0) dX8_layForm_75 rfl rfl rfl ?_
  refine ev_getR (pc' := 79) fo_X8_26 dX8_layForm_76 rfl hs_115 rfl rf_115_8 ?_
  refine ev_iconst (pc' := 80) (v := 4) dX8_layForm_79 rfl ki_4 ?_
  refine ev_iload_n (pc' := 81) (i := 3) dX8_layForm_80 rfl rfl rfl ?_
  refine ev_imul (pc' := 82) (v := 12) dX8_layForm_81 rfl (by decide) ?_
  refine ev_iload (pc' := 84) dX8_layForm_82 rfl rfl ?_
  refine ev_iadd (pc' := 85) (v := 12) dX8_layForm_84 rfl (by decide) ?_
  refine ev_iload (pc' := 87) dX8_layForm_85 rfl rfl ?_
  refine ev_if_eq (tgt := 105) (pc' := 90) dX8_layForm_87 rfl rfl (fun _ => ?_) (fun h => absurd (by decide) h)
  refine ev_aload_n (pc' := 106) (i := 0) dX8_layForm_105 rfl rfl rfl ?_
  refine ev_getR (pc' := 109) fo_X8_70 dX8_layForm_106 rfl hs_115 rfl rf_115_25 ?_
  refine ev_iconst (pc' := 110) (v := 4) dX8_layForm_109 rfl ki_4 ?_
  refine ev_iload_n (pc' := 111) (i := 3) dX8_layForm_110 rfl rfl rfl ?_
  refine ev_imul (pc' := 112) (v := 12) dX8_layForm_111 rfl (by decide) ?_
  refine ev_iload (pc' := 114) dX8_layForm_112 rfl rfl ?_
  refine ev_iadd (pc' := 115) (v := 12) dX8_layForm_114 rfl (by decide) ?_
  refine ev_iald (pc' := 116) (j := 12) (v := (I 134) 12) dX8_layForm_115 rfl hs_134 rfl (Nat.le_of_ble_eq_true rfl) (Nat.le_of_ble_eq_true rfl) rfl ?_
  refine ev_i2l (pc' := 117) (v := Int32.toInt64 ((I 134) 12)) dX8_layForm_116 rfl rfl ?_
  refine ev_last (pc' := 118) (j := 12) (L' := (ma_up (ma_up L 132 (ma_up (ma_up (ma_up (ma_up (ma_up (L 132) 0 0) 1 0) 2 (((0 + (mW (mSel 3 (I 133) (I 134)))) + (mW (mSel 5 (I 133) (I 134)))) + (mW (mSel 6 (I 133) (I 134))))) 3 (((0 + (mW (mSel 1 (I 133) (I 134)))) + (mW (mSel 2 (I 133) (I 134)))) + (mW (mSel 4 (I 133) (I 134))))) 4 (0 + (mW (mSel 0 (I 133) (I 134)))))) 120 (ma_up (ma_up (ma_up (ma_up (ma_up (ma_up (ma_up (ma_up (ma_up (ma_up (ma_up (ma_up (ma_up r7 0 (Int32.toInt64 ((I 133) 0))) 1 (Int32.toInt64 ((I 133) 1))) 2 (Int32.toInt64 ((I 133) 2))) 3 (Int32.toInt64 ((I 133) 3))) 4 (Int32.toInt64 ((I 133) 4))) 5 (Int32.toInt64 ((I 133) 5))) 6 (Int32.toInt64 ((I 133) 6))) 7 (Int32.toInt64 ((I 133) 7))) 8 (Int32.toInt64 ((I 133) 8))) 9 (Int32.toInt64 ((I 133) 9))) 10 (Int32.toInt64 ((I 133) 10))) 11 (Int32.toInt64 ((I 133) 11))) 12 (Int32.toInt64 ((I 134) 12))))) dX8_layForm_117 rfl hs_120 rfl (Nat.le_of_ble_eq_true rfl) (Nat.le_of_ble_eq_true rfl) (ma_up_up _ _ _ _) ?_
  refine ev_iinc (pc' := 121) (v := 1) (lv' := [some (.ref 115), some (.int 7), some (.int 3), some (.int 3), some (.int 0), some (.int 1)]) dX8_layForm_118 rfl rfl (by decide) (Nat.le_of_ble_eq_true rfl) rfl rfl ?_
  refine ev_goto (tgt := 69) dX8_layForm_121 rfl ?_
  refine ev_iload (pc' := 71) dX8_layForm_69 rfl rfl ?_
  refine ev_iconst (pc' := 72) (v := 4) dX8_layForm_71 rfl ki_4 ?_
  refine ev_icmp_ge (tgt := 124) (pc' := 75) dX8_layForm_72 rfl rfl (fun h => absurd h (by decide)) (fun _ => ?_)
  refine ev_aload_n (pc' := 76) (i := 0) dX8_layForm_75 rfl rfl rfl ?_
  refine ev_getR (pc' := 79) fo_X8_26 dX8_layForm_76 rfl hs_115 rfl rf_115_8 ?_
  refine ev_iconst (pc' := 80) (v := 4) dX8_layForm_79 rfl ki_4 ?_
  refine ev_iload_n (pc' := 81) (i := 3) dX8_layForm_80 rfl rfl rfl ?_
  refine ev_imul (pc' := 82) (v := 12) dX8_layForm_81 rfl (by decide) ?_
  refine ev_iload (pc' := 84) dX8_layForm_82 rfl rfl ?_
  refine ev_iadd (pc' := 85) (v := 13) dX8_layForm_84 rfl (by decide) ?_
  refine ev_iload (pc' := 87) dX8_layForm_85 rfl rfl ?_
  refine ev_if_eq (tgt := 105) (pc' := 90) dX8_layForm_87 rfl rfl (fun _ => ?_) (fun h => absurd (by decide) h)
  refine ev_aload_n (pc' := 106) (i := 0) dX8_layForm_105 rfl rfl rfl ?_
  refine ev_getR (pc' := 109) fo_X8_70 dX8_layForm_106 rfl hs_115 rfl rf_115_25 ?_
  refine ev_iconst (pc' := 110) (v := 4) dX8_layForm_109 rfl ki_4 ?_
  refine ev_iload_n (pc' := 111) (i := 3) dX8_layForm_110 rfl rfl rfl ?_
  refine ev_imul (pc' := 112) (v := 12) dX8_layForm_111 rfl (by decide) ?_
  refine ev_iload (pc' := 114) dX8_layForm_112 rfl rfl ?_
  refine ev_iadd (pc' := 115) (v := 13) dX8_layForm_114 rfl (by decide) ?_
  refine ev_iald (pc' := 116) (j := 13) (v := (I 134) 13) dX8_layForm_115 rfl hs_134 rfl (Nat.le_of_ble_eq_true rfl) (Nat.le_of_ble_eq_true rfl) rfl ?_
  refine ev_i2l (pc' := 117) (v := Int32.toInt64 ((I 134) 13)) dX8_layForm_116 rfl rfl ?_
  refine ev_last (pc' := 118) (j := 13) (L' := (ma_up (ma_up L 132 (ma_up (ma_up (ma_up (ma_up (ma_up (L 132) 0 0) 1 0) 2 (((0 + (mW (mSel 3 (I 133) (I 134)))) + (mW (mSel 5 (I 133) (I 134)))) + (mW (mSel 6 (I 133) (I 134))))) 3 (((0 + (mW (mSel 1 (I 133) (I 134)))) + (mW (mSel 2 (I 133) (I 134)))) + (mW (mSel 4 (I 133) (I 134))))) 4 (0 + (mW (mSel 0 (I 133) (I 134)))))) 120 (ma_up (ma_up (ma_up (ma_up (ma_up (ma_up (ma_up (ma_up (ma_up (ma_up (ma_up (ma_up (ma_up (ma_up r7 0 (Int32.toInt64 ((I 133) 0))) 1 (Int32.toInt64 ((I 133) 1))) 2 (Int32.toInt64 ((I 133) 2))) 3 (Int32.toInt64 ((I 133) 3))) 4 (Int32.toInt64 ((I 133) 4))) 5 (Int32.toInt64 ((I 133) 5))) 6 (Int32.toInt64 ((I 133) 6))) 7 (Int32.toInt64 ((I 133) 7))) 8 (Int32.toInt64 ((I 133) 8))) 9 (Int32.toInt64 ((I 133) 9))) 10 (Int32.toInt64 ((I 133) 10))) 11 (Int32.toInt64 ((I 133) 11))) 12 (Int32.toInt64 ((I 134) 12))) 13 (Int32.toInt64 ((I 134) 13))))) dX8_layForm_117 rfl hs_120 rfl (Nat.le_of_ble_eq_true rfl) (Nat.le_of_ble_eq_true rfl) (ma_up_up _ _ _ _) ?_
  refine ev_iinc (pc' := 121) (v := 2) (lv' := [some (.ref 115), some (.int 7), some (.int 3), some (.int 3), some (.int 0), some (.int 2)]) dX8_layForm_118 rfl rfl (by decide) (Nat.le_of_ble_eq_true rfl) rfl rfl ?_
  refine ev_goto (tgt := 69) dX8_layForm_121 rfl ?_
  refine ev_iload (pc' := 71) dX8_layForm_69 rfl rfl ?_
  refine ev_iconst (pc' := 72) (v := 4) dX8_layForm_71 rfl ki_4 ?_
  refine ev_icmp_ge (tgt := 124) (pc' := 75) dX8_layForm_72 rfl rfl (fun h => absurd h (by decide)) (fun _ => ?_)
  refine ev_aload_n (pc' := 76) (i := 0) dX8_layForm_75 rfl rfl rfl ?_
  refine ev_getR (pc' := 79) fo_X8_26 dX8_layForm_76 rfl hs_115 rfl rf_115_8 ?_
  refine ev_iconst (pc' := 80) (v := 4) dX8_layForm_79 rfl ki_4 ?_
  refine ev_iload_n (pc' := 81) (i := 3) dX8_layForm_80 rfl rfl rfl ?_
  refine ev_imul (pc' := 82) (v := 12) dX8_layForm_81 rfl (by decide) ?_
  refine ev_iload (pc' := 84) dX8_layForm_82 rfl rfl ?_
  refine ev_iadd (pc' := 85) (v := 14) dX8_layForm_84 rfl (by decide) ?_
  refine ev_iload (pc' := 87) dX8_layForm_85 rfl rfl ?_
  refine ev_if_eq (tgt := 105) (pc' := 90) dX8_layForm_87 rfl rfl (fun _ => ?_) (fun h => absurd (by decide) h)
  refine ev_aload_n (pc' := 106) (i := 0) dX8_layForm_105 rfl rfl rfl ?_
  refine ev_getR (pc' := 109) fo_X8_70 dX8_layForm_106 rfl hs_115 rfl rf_115_25 ?_
  refine ev_iconst (pc' := 110) (v := 4) dX8_layForm_109 rfl ki_4 ?_
  refine ev_iload_n (pc' := 111) (i := 3) dX8_layForm_110 rfl rfl rfl ?_
  refine ev_imul (pc' := 112) (v := 12) dX8_layForm_111 rfl (by decide) ?_
  refine ev_iload (pc' := 114) dX8_layForm_112 rfl rfl ?_
  refine ev_iadd (pc' := 115) (v := 14) dX8_layForm_114 rfl (by decide) ?_
  refine ev_iald (pc' := 116) (j := 14) (v := (I 134) 14) dX8_layForm_115 rfl hs_134 rfl (Nat.le_of_ble_eq_true rfl) (Nat.le_of_ble_eq_true rfl) rfl ?_
  refine ev_i2l (pc' := 117) (v := Int32.toInt64 ((I 134) 14)) dX8_layForm_116 rfl rfl ?_
  refine ev_last (pc' := 118) (j := 14) (L' := (ma_up (ma_up L 132 (ma_up (ma_up (ma_up (ma_up (ma_up (L 132) 0 0) 1 0) 2 (((0 + (mW (mSel 3 (I 133) (I 134)))) + (mW (mSel 5 (I 133) (I 134)))) + (mW (mSel 6 (I 133) (I 134))))) 3 (((0 + (mW (mSel 1 (I 133) (I 134)))) + (mW (mSel 2 (I 133) (I 134)))) + (mW (mSel 4 (I 133) (I 134))))) 4 (0 + (mW (mSel 0 (I 133) (I 134)))))) 120 (ma_up (ma_up (ma_up (ma_up (ma_up (ma_up (ma_up (ma_up (ma_up (ma_up (ma_up (ma_up (ma_up (ma_up (ma_up r7 0 (Int32.toInt64 ((I 133) 0))) 1 (Int32.toInt64 ((I 133) 1))) 2 (Int32.toInt64 ((I 133) 2))) 3 (Int32.toInt64 ((I 133) 3))) 4 (Int32.toInt64 ((I 133) 4))) 5 (Int32.toInt64 ((I 133) 5))) 6 (Int32.toInt64 ((I 133) 6))) 7 (Int32.toInt64 ((I 133) 7))) 8 (Int32.toInt64 ((I 133) 8))) 9 (Int32.toInt64 ((I 133) 9))) 10 (Int32.toInt64 ((I 133) 10))) 11 (Int32.toInt64 ((I 133) 11))) 12 (Int32.toInt64 ((I 134) 12))) 13 (Int32.toInt64 ((I 134) 13))) 14 (Int32.toInt64 ((I 134) 14))))) dX8_layForm_117 rfl hs_120 rfl (Nat.le_of_ble_eq_true rfl) (Nat.le_of_ble_eq_true rfl) (ma_up_up _ _ _ _) ?_
  refine ev_iinc (pc' := 121) (v := 3) (lv' := [some (.ref 115), some (.int 7), some (.int 3), some (.int 3), some (.int 0), some (.int 3)]) dX8_layForm_118 rfl rfl (by decide) (Nat.le_of_ble_eq_true rfl) rfl rfl ?_
  refine ev_goto (tgt := 69) dX8_layForm_121 rfl ?_
  refine ev_iload (pc' := 71) dX8_layForm_69 rfl rfl ?_
  refine ev_iconst (pc' := 72) (v := 4) dX8_layForm_71 rfl ki_4 ?_
  refine ev_icmp_ge (tgt := 124) (pc' := 75) dX8_layForm_72 rfl rfl (fun h => absurd h (by decide)) (fun _ => ?_)
  refine ev_aload_n (pc' := 76) (i := 0) dX8_layForm_75 rfl rfl rfl ?_
  refine ev_getR (pc' := 79) fo_X8_26 dX8_layForm_76 rfl hs_115 rfl rf_115_8 ?_
  refine ev_iconst (pc' := 80) (v := 4) dX8_layForm_79 rfl ki_4 ?_
  refine ev_iload_n (pc' := 81) (i := 3) dX8_layForm_80 rfl rfl rfl ?_
  refine ev_imul (pc' := 82) (v := 12) dX8_layForm_81 rfl (by decide) ?_
  refine ev_iload (pc' := 84) dX8_layForm_82 rfl rfl ?_
  refine ev_iadd (pc' := 85) (v := 15) dX8_layForm_84 rfl (by decide) ?_
  refine ev_iload (pc' := 87) dX8_layForm_85 rfl rfl ?_
  refine ev_if_eq (tgt := 105) (pc' := 90) dX8_layForm_87 rfl rfl (fun _ => ?_) (fun h => absurd (by decide) h)
  refine ev_aload_n (pc' := 106) (i := 0) dX8_layForm_105 rfl rfl rfl ?_
  refine ev_getR (pc' := 109) fo_X8_70 dX8_layForm_106 rfl hs_115 rfl rf_115_25 ?_
  refine ev_iconst (pc' := 110) (v := 4) dX8_layForm_109 rfl ki_4 ?_
  refine ev_iload_n (pc' := 111) (i := 3) dX8_layForm_110 rfl rfl rfl ?_
  refine ev_imul (pc' := 112) (v := 12) dX8_layForm_111 rfl (by decide) ?_
  refine ev_iload (pc' := 114) dX8_layForm_112 rfl rfl ?_
  refine ev_iadd (pc' := 115) (v := 15) dX8_layForm_114 rfl (by decide) ?_
  refine ev_iald (pc' := 116) (j := 15) (v := (I 134) 15) dX8_layForm_115 rfl hs_134 rfl (Nat.le_of_ble_eq_true rfl) (Nat.le_of_ble_eq_true rfl) rfl ?_
  refine ev_i2l (pc' := 117) (v := Int32.toInt64 ((I 134) 15)) dX8_layForm_116 rfl rfl ?_
  refine ev_last (pc' := 118) (j := 15) (L' := (ma_up (ma_up L 132 (ma_up (ma_up (ma_up (ma_up (ma_up (L 132) 0 0) 1 0) 2 (((0 + (mW (mSel 3 (I 133) (I 134)))) + (mW (mSel 5 (I 133) (I 134)))) + (mW (mSel 6 (I 133) (I 134))))) 3 (((0 + (mW (mSel 1 (I 133) (I 134)))) + (mW (mSel 2 (I 133) (I 134)))) + (mW (mSel 4 (I 133) (I 134))))) 4 (0 + (mW (mSel 0 (I 133) (I 134)))))) 120 (ma_up (ma_up (ma_up (ma_up (ma_up (ma_up (ma_up (ma_up (ma_up (ma_up (ma_up (ma_up (ma_up (ma_up (ma_up (ma_up r7 0 (Int32.toInt64 ((I 133) 0))) 1 (Int32.toInt64 ((I 133) 1))) 2 (Int32.toInt64 ((I 133) 2))) 3 (Int32.toInt64 ((I 133) 3))) 4 (Int32.toInt64 ((I 133) 4))) 5 (Int32.toInt64 ((I 133) 5))) 6 (Int32.toInt64 ((I 133) 6))) 7 (Int32.toInt64 ((I 133) 7))) 8 (Int32.toInt64 ((I 133) 8))) 9 (Int32.toInt64 ((I 133) 9))) 10 (Int32.toInt64 ((I 133) 10))) 11 (Int32.toInt64 ((I 133) 11))) 12 (Int32.toInt64 ((I 134) 12))) 13 (Int32.toInt64 ((I 134) 13))) 14 (Int32.toInt64 ((I 134) 14))) 15 (Int32.toInt64 ((I 134) 15))))) dX8_layForm_117 rfl hs_120 rfl (Nat.le_of_ble_eq_true rfl) (Nat.le_of_ble_eq_true rfl) (ma_up_up _ _ _ _) ?_
  refine ev_iinc (pc' := 121) (v := 4) (lv' := [some (.ref 115), some (.int 7), some (.int 3), some (.int 3), some (.int 0), some (.int 4)]) dX8_layForm_118 rfl rfl (by decide) (Nat.le_of_ble_eq_true rfl) rfl rfl ?_
  refine ev_goto (tgt := 69) dX8_layForm_121 rfl ?_
  refine ev_iload (pc' := 71) dX8_layForm_69 rfl rfl ?_
  refine ev_iconst (pc' := 72) (v := 4) dX8_layForm_71 rfl ki_4 ?_
  refine ev_icmp_ge (tgt := 124) (pc' := 75) dX8_layForm_72 rfl rfl (fun _ => ?_) (fun h => absurd (by decide) h)
  refine ev_iinc (pc' := 127) (v := 4) (lv' := [some (.ref 115), some (.int 7), some (.int 3), some (.int 4), some (.int 0), some (.int 4)]) dX8_layForm_124 rfl rfl (by decide) (Nat.le_of_ble_eq_true rfl) rfl rfl ?_
  refine ev_goto (tgt := 32) dX8_layForm_127 rfl ?_
  refine ev_iload_n (pc' := 33) (i := 3) dX8_layForm_32 rfl rfl rfl ?_
  refine ev_iconst (pc' := 34) (v := 4) dX8_layForm_33 rfl ki_4 ?_
  refine ev_icmp_ge (tgt := 130) (pc' := 37) dX8_layForm_34 rfl rfl (fun _ => ?_) (fun h => absurd (by decide) h)
  refine ev_aload_n (pc' := 131) (i := 0) dX8_layForm_130 rfl rfl rfl ?_
  refine ev_getR (pc' := 134) fo_X8_64 dX8_layForm_131 rfl hs_115 rfl rf_115_23 ?_
  refine ev_iconst (pc' := 135) (v := 4) dX8_layForm_134 rfl ki_4 ?_
  refine ev_iload_n (pc' := 136) (i := 2) dX8_layForm_135 rfl rfl rfl ?_
  refine ev_isub (pc' := 137) (v := 1) dX8_layForm_136 rfl (by decide) ?_
  refine ev_dup2 (pc' := 138) dX8_layForm_137 rfl rfl rfl ?_
  refine ev_lald (pc' := 139) (j := 1) (v := 0) dX8_layForm_138 rfl hs_132 rfl (Nat.le_of_ble_eq_true rfl) (Nat.le_of_ble_eq_true rfl) rfl ?_
  refine ev_aload_n (pc' := 140) (i := 0) dX8_layForm_139 rfl rfl rfl ?_
  refine ev_getR (pc' := 143) fo_X8_26 dX8_layForm_140 rfl hs_115 rfl rf_115_8 ?_
  refine ev_callS (pc' := 146) (rm' := rX8_worthOf) (av := [.ref 120]) (rest := [.long 0, .int 1, .ref 132]) co_X8_173 cs_X8_worthOf dX8_layForm_143 rfl rfl rfl (Nat.le_of_ble_eq_true rfl) ⟨(Nat.le_of_ble_eq_true rfl), (Nat.le_of_ble_eq_true rfl)⟩ ⟨(Nat.le_of_ble_eq_true rfl), (Nat.le_of_ble_eq_true rfl)⟩ ?_
  refine t_X8_worthOf 120 hs_120 ?_
  refine ev_eql (w := mW (mSel 7 (I 133) (I 134))) rfl ?_
  refine ev_ladd (pc' := 147) (v := 0 + (mW (mSel 7 (I 133) (I 134)))) dX8_layForm_146 rfl rfl ?_
  refine ev_last (pc' := 148) (j := 1) (L' := (ma_up (ma_up L 132 (ma_up (ma_up (ma_up (ma_up (ma_up (L 132) 0 0) 1 (0 + (mW (mSel 7 (I 133) (I 134))))) 2 (((0 + (mW (mSel 3 (I 133) (I 134)))) + (mW (mSel 5 (I 133) (I 134)))) + (mW (mSel 6 (I 133) (I 134))))) 3 (((0 + (mW (mSel 1 (I 133) (I 134)))) + (mW (mSel 2 (I 133) (I 134)))) + (mW (mSel 4 (I 133) (I 134))))) 4 (0 + (mW (mSel 0 (I 133) (I 134)))))) 120 (ma_up (ma_up (ma_up (ma_up (ma_up (ma_up (ma_up (ma_up (ma_up (ma_up (ma_up (ma_up (ma_up (ma_up (ma_up (ma_up r7 0 (Int32.toInt64 ((I 133) 0))) 1 (Int32.toInt64 ((I 133) 1))) 2 (Int32.toInt64 ((I 133) 2))) 3 (Int32.toInt64 ((I 133) 3))) 4 (Int32.toInt64 ((I 133) 4))) 5 (Int32.toInt64 ((I 133) 5))) 6 (Int32.toInt64 ((I 133) 6))) 7 (Int32.toInt64 ((I 133) 7))) 8 (Int32.toInt64 ((I 133) 8))) 9 (Int32.toInt64 ((I 133) 9))) 10 (Int32.toInt64 ((I 133) 10))) 11 (Int32.toInt64 ((I 133) 11))) 12 (Int32.toInt64 ((I 134) 12))) 13 (Int32.toInt64 ((I 134) 13))) 14 (Int32.toInt64 ((I 134) 14))) 15 (Int32.toInt64 ((I 134) 15))))) dX8_layForm_147 rfl hs_132 rfl (Nat.le_of_ble_eq_true rfl) (Nat.le_of_ble_eq_true rfl) ((congrArg (ma_up _ 132) ((ma_up_comm _ (show 1 ≠ 4 from (by decide)) _ _).trans (congrArg (fun f => ma_up f 4 _) ((ma_up_comm _ (show 1 ≠ 3 from (by decide)) _ _).trans (congrArg (fun f => ma_up f 3 _) ((ma_up_comm _ (show 1 ≠ 2 from (by decide)) _ _).trans (congrArg (fun f => ma_up f 2 _) (ma_up_up _ _ _ _)))))))).trans ((ma_up_comm _ (show 132 ≠ 120 from (by decide)) _ _).trans (congrArg (fun f => ma_up f 120 _) (ma_up_up _ _ _ _)))) ?_
  refine ev_iinc (pc' := 151) (v := 8) (lv' := [some (.ref 115), some (.int 8), some (.int 3), some (.int 4), some (.int 0), some (.int 4)]) dX8_layForm_148 rfl rfl (by decide) (Nat.le_of_ble_eq_true rfl) rfl rfl ?_
  refine ev_goto (tgt := 22) dX8_layForm_151 rfl ?_
  refine ev_rowL (fun r8 => ?_)
  refine ev_iload_n (pc' := 23) (i := 1) dX8_layForm_22 rfl rfl rfl ?_
  refine ev_bipush (pc' := 25) (v := 16) dX8_layForm_23 rfl kb_16 ?_
  refine ev_icmp_ge (tgt := 154) (pc' := 28) dX8_layForm_25 rfl rfl (fun h => absurd h (by decide)) (fun _ => ?_)
  refine ev_iconst (pc' := 29) (v := 0) dX8_layForm_28 rfl ki_0 ?_
  refine ev_istore_n (pc' := 30) (i := 2) (lv' := [some (.ref 115), some (.int 8), some (.int 0), some (.int 4), some (.int 0), some (.int 4)]) dX8_layForm_29 rfl rfl (Nat.le_of_ble_eq_true rfl) rfl rfl ?_
  refine ev_iconst (pc' := 31) (v := 0) dX8_layForm_30 rfl ki_0 ?_
  refine ev_istore_n (pc' := 32) (i := 3) (lv' := [some (.ref 115), some (.int 8), some (.int 0), some (.int 0), some (.int 0), some (.int 4)]) dX8_layForm_31 rfl rfl (Nat.le_of_ble_eq_true rfl) rfl rfl ?_
  refine ev_iload_n (pc' := 33) (i := 3) dX8_layForm_32 rfl rfl rfl ?_
  refine ev_iconst (pc' := 34) (v := 4) dX8_layForm_33 rfl ki_4 ?_
  refine ev_icmp_ge (tgt := 130) (pc' := 37) dX8_layForm_34 rfl rfl (fun h => absurd h (by decide)) (fun _ => ?_)
  refine ev_iload_n (pc' := 38) (i := 1) dX8_layForm_37 rfl rfl rfl ?_
  refine ev_iload_n (pc' := 39) (i := 3) dX8_layForm_38 rfl rfl rfl ?_
  refine ev_ishr (pc' := 40) (v := 8) dX8_layForm_39 rfl (by decide) ?_
  refine ev_iconst (pc' := 41) (v := 1) dX8_layForm_40 rfl ki_1 ?_
  refine ev_iand (pc' := 42) (v := 0) dX8_layForm_41 rfl (by decide) ?_
  refine ev_iconst (pc' := 43) (v := 1) dX8_layForm_42 rfl ki_1 ?_
  refine ev_icmp_ne (tgt := 50) (pc' := 46) dX8_layForm_43 rfl rfl (fun _ => ?_) (fun h => absurd h (by decide))
  refine ev_iconst (pc' := 51) (v := 0) dX8_layForm_50 rfl ki_0 ?_
  refine ev_istore (pc' := 53) (lv' := [some (.ref 115), some (.int 8), some (.int 0), some (.int 0), some (.int 0), some (.int 4)]) dX8_layForm_51 rfl (Nat.le_of_ble_eq_true rfl) rfl rfl ?_
  refine ev_iload_n (pc' := 54) (i := 2) dX8_layForm_53 rfl rfl rfl ?_
  refine ev_iload (pc' := 56) dX8_layForm_54 rfl rfl ?_
  refine ev_if_eq (tgt := 63) (pc' := 59) dX8_layForm_56 rfl rfl (fun _ => ?_) (fun h => absurd (by decide) h)
  refine ev_iconst (pc' := 64) (v := 0) dX8_layForm_63 rfl ki_0 ?_
  refine ev_iadd (pc' := 65) (v := 0) dX8_layForm_64 rfl (by decide) ?_
  refine ev_istore_n (pc' := 66) (i := 2) (lv' := [some (.ref 115), some (.int 8), some (.int 0), some (.int 0), some (.int 0), some (.int 4)]) dX8_layForm_65 rfl rfl (Nat.le_of_ble_eq_true rfl) rfl rfl ?_
  refine ev_iconst (pc' := 67) (v := 0) dX8_layForm_66 rfl ki_0 ?_
  refine ev_istore (pc' := 69) (lv' := [some (.ref 115), some (.int 8), some (.int 0), some (.int 0), some (.int 0), some (.int 0)]) dX8_layForm_67 rfl (Nat.le_of_ble_eq_true rfl) rfl rfl ?_
  refine ev_iload (pc' := 71) dX8_layForm_69 rfl rfl ?_
  refine ev_iconst (pc' := 72) (v := 4) dX8_layForm_71 rfl ki_4 ?_
  refine ev_icmp_ge (tgt := 124) (pc' := 75) dX8_layForm_72 rfl rfl (fun h => absurd h (by decide)) (fun _ => ?_)
  refine ev_aload_n (pc' := 76) (i := 0) dX8_layForm_75 rfl rfl rfl ?_
  refine ev_getR (pc' := 79) fo_X8_26 dX8_layForm_76 rfl hs_115 rfl rf_115_8 ?_
  refine ev_iconst (pc' := 80) (v := 4) dX8_layForm_79 rfl ki_4 ?_
  refine ev_iload_n (pc' := 81) (i := 3) dX8_layForm_80 rfl rfl rfl ?_
  refine ev_imul (pc' := 82) (v := 0) dX8_layForm_81 rfl (by decide) ?_
  refine ev_iload (pc' := 84) dX8_layForm_82 rfl rfl ?_
  refine ev_iadd (pc' := 85) (v := 0) dX8_layForm_84 rfl (by decide) ?_
  refine ev_iload (pc' := 87) dX8_layForm_85 rfl rfl ?_
  refine ev_if_eq (tgt := 105) (pc' := 90) dX8_layForm_87 rfl rfl (fun _ => ?_) (fun h => absurd (by decide) h)
  refine ev_aload_n (pc' := 106) (i := 0) dX8_layForm_105 rfl rfl rfl ?_
  refine ev_getR (pc' := 109) fo_X8_70 dX8_layForm_106 rfl hs_115 rfl rf_115_25 ?_
  refine ev_iconst (pc' := 110) (v := 4) dX8_layForm_109 rfl ki_4 ?_
  refine ev_iload_n (pc' := 111) (i := 3) dX8_layForm_110 rfl rfl rfl ?_
  refine ev_imul (pc' := 112) (v := 0) dX8_layForm_111 rfl (by decide) ?_
  refine ev_iload (pc' := 114) dX8_layForm_112 rfl rfl ?_
  refine ev_iadd (pc' := 115) (v := 0) dX8_layForm_114 rfl (by decide) ?_
  refine ev_iald (pc' := 116) (j := 0) (v := (I 134) 0) dX8_layForm_115 rfl hs_134 rfl (Nat.le_of_ble_eq_true rfl) (Nat.le_of_ble_eq_true rfl) rfl ?_
  refine ev_i2l (pc' := 117) (v := Int32.toInt64 ((I 134) 0)) dX8_layForm_116 rfl rfl ?_
  refine ev_last (pc' := 118) (j := 0) (L' := (ma_up (ma_up L 132 (ma_up (ma_up (ma_up (ma_up (ma_up (L 132) 0 0) 1 (0 + (mW (mSel 7 (I 133) (I 134))))) 2 (((0 + (mW (mSel 3 (I 133) (I 134)))) + (mW (mSel 5 (I 133) (I 134)))) + (mW (mSel 6 (I 133) (I 134))))) 3 (((0 + (mW (mSel 1 (I 133) (I 134)))) + (mW (mSel 2 (I 133) (I 134)))) + (mW (mSel 4 (I 133) (I 134))))) 4 (0 + (mW (mSel 0 (I 133) (I 134)))))) 120 (ma_up r8 0 (Int32.toInt64 ((I 134) 0))))) dX8_layForm_117 rfl hs_120 rfl (Nat.le_of_ble_eq_true rfl) (Nat.le_of_ble_eq_true rfl) (ma_up_up _ _ _ _) ?_
  refine ev_iinc (pc' := 121) (v := 1) (lv' := [some (.ref 115), some (.int 8), some (.int 0), some (.int 0), some (.int 0), some (.int 1)]) dX8_layForm_118 rfl rfl (by decide) (Nat.le_of_ble_eq_true rfl) rfl rfl ?_
  refine ev_goto (tgt := 69) dX8_layForm_121 rfl ?_
  refine ev_iload (pc' := 71) dX8_layForm_69 rfl rfl ?_
  refine ev_iconst (pc' := 72) (v := 4) dX8_layForm_71 rfl ki_4 ?_
  refine ev_icmp_ge (tgt := 124) (pc' := 75) dX8_layForm_72 rfl rfl (fun h => absurd h (by decide)) (fun _ => ?_)
  refine ev_aload_n (pc' := 76) (i := 0) dX8_layForm_75 rfl rfl rfl ?_
  refine ev_getR (pc' := 79) fo_X8_26 dX8_layForm_76 rfl hs_115 rfl rf_115_8 ?_
  refine ev_iconst (pc' := 80) (v := 4) dX8_layForm_79 rfl ki_4 ?_
  refine ev_iload_n (pc' := 81) (i := 3) dX8_layForm_80 rfl rfl rfl ?_
  refine ev_imul (pc' := 82) (v := 0) dX8_layForm_81 rfl (by decide) ?_
  refine ev_iload (pc' := 84) dX8_layForm_82 rfl rfl ?_
  refine ev_iadd (pc' := 85) (v := 1) dX8_layForm_84 rfl (by decide) ?_
  refine ev_iload (pc' := 87) dX8_layForm_85 rfl rfl ?_
  refine ev_if_eq (tgt := 105) (pc' := 90) dX8_layForm_87 rfl rfl (fun _ => ?_) (fun h => absurd (by decide) h)
  refine ev_aload_n (pc' := 106) (i := 0) dX8_layForm_105 rfl rfl rfl ?_
  refine ev_getR (pc' := 109) fo_X8_70 dX8_layForm_106 rfl hs_115 rfl rf_115_25 ?_
  refine ev_iconst (pc' := 110) (v := 4) dX8_layForm_109 rfl ki_4 ?_
  refine ev_iload_n (pc' := 111) (i := 3) dX8_layForm_110 rfl rfl rfl ?_
  refine ev_imul (pc' := 112) (v := 0) dX8_layForm_111 rfl (by decide) ?_
  refine ev_iload (pc' := 114) dX8_layForm_112 rfl rfl ?_
  refine ev_iadd (pc' := 115) (v := 1) dX8_layForm_114 rfl (by decide) ?_
  refine ev_iald (pc' := 116) (j := 1) (v := (I 134) 1) dX8_layForm_115 rfl hs_134 rfl (Nat.le_of_ble_eq_true rfl) (Nat.le_of_ble_eq_true rfl) rfl ?_
  refine ev_i2l (pc' := 117) (v := Int32.toInt64 ((I 134) 1)) dX8_layForm_116 rfl rfl ?_
  refine ev_last (pc' := 118) (j := 1) (L' := (ma_up (ma_up L 132 (ma_up (ma_up (ma_up (ma_up (ma_up (L 132) 0 0) 1 (0 + (mW (mSel 7 (I 133) (I 134))))) 2 (((0 + (mW (mSel 3 (I 133) (I 134)))) + (mW (mSel 5 (I 133) (I 134)))) + (mW (mSel 6 (I 133) (I 134))))) 3 (((0 + (mW (mSel 1 (I 133) (I 134)))) + (mW (mSel 2 (I 133) (I 134)))) + (mW (mSel 4 (I 133) (I 134))))) 4 (0 + (mW (mSel 0 (I 133) (I 134)))))) 120 (ma_up (ma_up r8 0 (Int32.toInt64 ((I 134) 0))) 1 (Int32.toInt64 ((I 134) 1))))) dX8_layForm_117 rfl hs_120 rfl (Nat.le_of_ble_eq_true rfl) (Nat.le_of_ble_eq_true rfl) (ma_up_up _ _ _ _) ?_
  refine ev_iinc (pc' := 121) (v := 2) (lv' := [some (.ref 115), some (.int 8), some (.int 0), some (.int 0), some (.int 0), some (.int 2)]) dX8_layForm_118 rfl rfl (by decide) (Nat.le_of_ble_eq_true rfl) rfl rfl ?_
  refine ev_goto (tgt := 69) dX8_layForm_121 rfl ?_
  refine ev_iload (pc' := 71) dX8_layForm_69 rfl rfl ?_
  refine ev_iconst (pc' := 72) (v := 4) dX8_layForm_71 rfl ki_4 ?_
  refine ev_icmp_ge (tgt := 124) (pc' := 75) dX8_layForm_72 rfl rfl (fun h => absurd h (by decide)) (fun _ => ?_)
  refine ev_aload_n (pc' := 76) (i := 0) dX8_layForm_75 rfl rfl rfl ?_
  refine ev_getR (pc' := 79) fo_X8_26 dX8_layForm_76 rfl hs_115 rfl rf_115_8 ?_
  refine ev_iconst (pc' := 80) (v := 4) dX8_layForm_79 rfl ki_4 ?_
  refine ev_iload_n (pc' := 81) (i := 3) dX8_layForm_80 rfl rfl rfl ?_
  refine ev_imul (pc' := 82) (v := 0) dX8_layForm_81 rfl (by decide) ?_
  refine ev_iload (pc' := 84) dX8_layForm_82 rfl rfl ?_
  refine ev_iadd (pc' := 85) (v := 2) dX8_layForm_84 rfl (by decide) ?_
  refine ev_iload (pc' := 87) dX8_layForm_85 rfl rfl ?_
  refine ev_if_eq (tgt := 105) (pc' := 90) dX8_layForm_87 rfl rfl (fun _ => ?_) (fun h => absurd (by decide) h)
  refine ev_aload_n (pc' := 106) (i := 0) dX8_layForm_105 rfl rfl rfl ?_
  refine ev_getR (pc' := 109) fo_X8_70 dX8_layForm_106 rfl hs_115 rfl rf_115_25 ?_
  refine ev_iconst (pc' := 110) (v := 4) dX8_layForm_109 rfl ki_4 ?_
  refine ev_iload_n (pc' := 111) (i := 3) dX8_layForm_110 rfl rfl rfl ?_
  refine ev_imul (pc' := 112) (v := 0) dX8_layForm_111 rfl (by decide) ?_
  refine ev_iload (pc' := 114) dX8_layForm_112 rfl rfl ?_
  refine ev_iadd (pc' := 115) (v := 2) dX8_layForm_114 rfl (by decide) ?_
  refine ev_iald (pc' := 116) (j := 2) (v := (I 134) 2) dX8_layForm_115 rfl hs_134 rfl (Nat.le_of_ble_eq_true rfl) (Nat.le_of_ble_eq_true rfl) rfl ?_
  refine ev_i2l (pc' := 117) (v := Int32.toInt64 ((I 134) 2)) dX8_layForm_116 rfl rfl ?_
  refine ev_last (pc' := 118) (j := 2) (L' := (ma_up (ma_up L 132 (ma_up (ma_up (ma_up (ma_up (ma_up (L 132) 0 0) 1 (0 + (mW (mSel 7 (I 133) (I 134))))) 2 (((0 + (mW (mSel 3 (I 133) (I 134)))) + (mW (mSel 5 (I 133) (I 134)))) + (mW (mSel 6 (I 133) (I 134))))) 3 (((0 + (mW (mSel 1 (I 133) (I 134)))) + (mW (mSel 2 (I 133) (I 134)))) + (mW (mSel 4 (I 133) (I 134))))) 4 (0 + (mW (mSel 0 (I 133) (I 134)))))) 120 (ma_up (ma_up (ma_up r8 0 (Int32.toInt64 ((I 134) 0))) 1 (Int32.toInt64 ((I 134) 1))) 2 (Int32.toInt64 ((I 134) 2))))) dX8_layForm_117 rfl hs_120 rfl (Nat.le_of_ble_eq_true rfl) (Nat.le_of_ble_eq_true rfl) (ma_up_up _ _ _ _) ?_
  refine ev_iinc (pc' := 121) (v := 3) (lv' := [some (.ref 115), some (.int 8), some (.int 0), some (.int 0), some (.int 0), some (.int 3)]) dX8_layForm_118 rfl rfl (by decide) (Nat.le_of_ble_eq_true rfl) rfl rfl ?_
  refine ev_goto (tgt := 69) dX8_layForm_121 rfl ?_
  refine ev_iload (pc' := 71) dX8_layForm_69 rfl rfl ?_
  refine ev_iconst (pc' := 72) (v := 4) dX8_layForm_71 rfl ki_4 ?_
  refine ev_icmp_ge (tgt := 124) (pc' := 75) dX8_layForm_72 rfl rfl (fun h => absurd h (by decide)) (fun _ => ?_)
  refine ev_aload_n (pc' := 76) (i := 0) dX8_layForm_75 rfl rfl rfl ?_
  refine ev_getR (pc' := 79) fo_X8_26 dX8_layForm_76 rfl hs_115 rfl rf_115_8 ?_
  refine ev_iconst (pc' := 80) (v := 4) dX8_layForm_79 rfl ki_4 ?_
  refine ev_iload_n (pc' := 81) (i := 3) dX8_layForm_80 rfl rfl rfl ?_
  refine ev_imul (pc' := 82) (v := 0) dX8_layForm_81 rfl (by decide) ?_
  refine ev_iload (pc' := 84) dX8_layForm_82 rfl rfl ?_
  refine ev_iadd (pc' := 85) (v := 3) dX8_layForm_84 rfl (by decide) ?_
  refine ev_iload (pc' := 87) dX8_layForm_85 rfl rfl ?_
  refine ev_if_eq (tgt := 105) (pc' := 90) dX8_layForm_87 rfl rfl (fun _ => ?_) (fun h => absurd (by decide) h)
  refine ev_aload_n (pc' := 106) (i := 0) dX8_layForm_105 rfl rfl rfl ?_
  refine ev_getR (pc' := 109) fo_X8_70 dX8_layForm_106 rfl hs_115 rfl rf_115_25 ?_
  refine ev_iconst (pc' := 110) (v := 4) dX8_layForm_109 rfl ki_4 ?_
  refine ev_iload_n (pc' := 111) (i := 3) dX8_layForm_110 rfl rfl rfl ?_
  refine ev_imul (pc' := 112) (v := 0) dX8_layForm_111 rfl (by decide) ?_
  refine ev_iload (pc' := 114) dX8_layForm_112 rfl rfl ?_
  refine ev_iadd (pc' := 115) (v := 3) dX8_layForm_114 rfl (by decide) ?_
  refine ev_iald (pc' := 116) (j := 3) (v := (I 134) 3) dX8_layForm_115 rfl hs_134 rfl (Nat.le_of_ble_eq_true rfl) (Nat.le_of_ble_eq_true rfl) rfl ?_
  refine ev_i2l (pc' := 117) (v := Int32.toInt64 ((I 134) 3)) dX8_layForm_116 rfl rfl ?_
  refine ev_last (pc' := 118) (j := 3) (L' := (ma_up (ma_up L 132 (ma_up (ma_up (ma_up (ma_up (ma_up (L 132) 0 0) 1 (0 + (mW (mSel 7 (I 133) (I 134))))) 2 (((0 + (mW (mSel 3 (I 133) (I 134)))) + (mW (mSel 5 (I 133) (I 134)))) + (mW (mSel 6 (I 133) (I 134))))) 3 (((0 + (mW (mSel 1 (I 133) (I 134)))) + (mW (mSel 2 (I 133) (I 134)))) + (mW (mSel 4 (I 133) (I 134))))) 4 (0 + (mW (mSel 0 (I 133) (I 134)))))) 120 (ma_up (ma_up (ma_up (ma_up r8 0 (Int32.toInt64 ((I 134) 0))) 1 (Int32.toInt64 ((I 134) 1))) 2 (Int32.toInt64 ((I 134) 2))) 3 (Int32.toInt64 ((I 134) 3))))) dX8_layForm_117 rfl hs_120 rfl (Nat.le_of_ble_eq_true rfl) (Nat.le_of_ble_eq_true rfl) (ma_up_up _ _ _ _) ?_
  refine ev_iinc (pc' := 121) (v := 4) (lv' := [some (.ref 115), some (.int 8), some (.int 0), some (.int 0), some (.int 0), some (.int 4)]) dX8_layForm_118 rfl rfl (by decide) (Nat.le_of_ble_eq_true rfl) rfl rfl ?_
  refine ev_goto (tgt := 69) dX8_layForm_121 rfl ?_
  refine ev_iload (pc' := 71) dX8_layForm_69 rfl rfl ?_
  refine ev_iconst (pc' := 72) (v := 4) dX8_layForm_71 rfl ki_4 ?_
  refine ev_icmp_ge (tgt := 124) (pc' := 75) dX8_layForm_72 rfl rfl (fun _ => ?_) (fun h => absurd (by decide) h)
  refine ev_iinc (pc' := 127) (v := 1) (lv' := [some (.ref 115), some (.int 8), some (.int 0), some (.int 1), some (.int 0), some (.int 4)]) dX8_layForm_124 rfl rfl (by decide) (Nat.le_of_ble_eq_true rfl) rfl rfl ?_
  refine ev_goto (tgt := 32) dX8_layForm_127 rfl ?_
  refine ev_iload_n (pc' := 33) (i := 3) dX8_layForm_32 rfl rfl rfl ?_
  refine ev_iconst (pc' := 34) (v := 4) dX8_layForm_33 rfl ki_4 ?_
  refine ev_icmp_ge (tgt := 130) (pc' := 37) dX8_layForm_34 rfl rfl (fun h => absurd h (by decide)) (fun _ => ?_)
  refine ev_iload_n (pc' := 38) (i := 1) dX8_layForm_37 rfl rfl rfl ?_
  refine ev_iload_n (pc' := 39) (i := 3) dX8_layForm_38 rfl rfl rfl ?_
  refine ev_ishr (pc' := 40) (v := 4) dX8_layForm_39 rfl (by decide) ?_
  refine ev_iconst (pc' := 41) (v := 1) dX8_layForm_40 rfl ki_1 ?_
  refine ev_iand (pc' := 42) (v := 0) dX8_layForm_41 rfl (by decide) ?_
  refine ev_iconst (pc' := 43) (v := 1) dX8_layForm_42 rfl ki_1 ?_
  refine ev_icmp_ne (tgt := 50) (pc' := 46) dX8_layForm_43 rfl rfl (fun _ => ?_) (fun h => absurd h (by decide))
  refine ev_iconst (pc' := 51) (v := 0) dX8_layForm_50 rfl ki_0 ?_
  refine ev_istore (pc' := 53) (lv' := [some (.ref 115), some (.int 8), some (.int 0), some (.int 1), some (.int 0), some (.int 4)]) dX8_layForm_51 rfl (Nat.le_of_ble_eq_true rfl) rfl rfl ?_
  refine ev_iload_n (pc' := 54) (i := 2) dX8_layForm_53 rfl rfl rfl ?_
  refine ev_iload (pc' := 56) dX8_layForm_54 rfl rfl ?_
  refine ev_if_eq (tgt := 63) (pc' := 59) dX8_layForm_56 rfl rfl (fun _ => ?_) (fun h => absurd (by decide) h)
  refine ev_iconst (pc' := 64) (v := 0) dX8_layForm_63 rfl ki_0 ?_
  refine ev_iadd (pc' := 65) (v := 0) dX8_layForm_64 rfl (by decide) ?_
  refine ev_istore_n (pc' := 66) (i := 2) (lv' := [some (.ref 115), some (.int 8), some (.int 0), some (.int 1), some (.int 0), some (.int 4)]) dX8_layForm_65 rfl rfl (Nat.le_of_ble_eq_true rfl) rfl rfl ?_
  refine ev_iconst (pc' := 67) (v := 0) dX8_layForm_66 rfl ki_0 ?_
  refine ev_istore (pc' := 69) (lv' := [some (.ref 115), some (.int 8), some (.int 0), some (.int 1), some (.int 0), some (.int 0)]) dX8_layForm_67 rfl (Nat.le_of_ble_eq_true rfl) rfl rfl ?_
  refine ev_iload (pc' := 71) dX8_layForm_69 rfl rfl ?_
  refine ev_iconst (pc' := 72) (v := 4) dX8_layForm_71 rfl ki_4 ?_
  refine ev_icmp_ge (tgt := 124) (pc' := 75) dX8_layForm_72 rfl rfl (fun h => absurd h (by decide)) (fun _ => ?_)
  refine ev_aload_n (pc' := 76) (i := 0) dX8_layForm_75 rfl rfl rfl ?_
  refine ev_getR (pc' := 79) fo_X8_26 dX8_layForm_76 rfl hs_115 rfl rf_115_8 ?_
  refine ev_iconst (pc' := 80) (v := 4) dX8_layForm_79 rfl ki_4 ?_
  refine ev_iload_n (pc' := 81) (i := 3) dX8_layForm_80 rfl rfl rfl ?_
  refine ev_imul (pc' := 82) (v := 4) dX8_layForm_81 rfl (by decide) ?_
  refine ev_iload (pc' := 84) dX8_layForm_82 rfl rfl ?_
  refine ev_iadd (pc' := 85) (v := 4) dX8_layForm_84 rfl (by decide) ?_
  refine ev_iload (pc' := 87) dX8_layForm_85 rfl rfl ?_
  refine ev_if_eq (tgt := 105) (pc' := 90) dX8_layForm_87 rfl rfl (fun _ => ?_) (fun h => absurd (by decide) h)
  refine ev_aload_n (pc' := 106) (i := 0) dX8_layForm_105 rfl rfl rfl ?_
  refine ev_getR (pc' := 109) fo_X8_70 dX8_layForm_106 rfl hs_115 rfl rf_115_25 ?_
  refine ev_iconst (pc' := 110) (v := 4) dX8_layForm_109 rfl ki_4 ?_
  refine ev_iload_n (pc' := 111) (i := 3) dX8_layForm_110 rfl rfl rfl ?_
  refine ev_imul (pc' := 112) (v := 4) dX8_layForm_111 rfl (by decide) ?_
  refine ev_iload (pc' := 114) dX8_layForm_112 rfl rfl ?_
  refine ev_iadd (pc' := 115) (v := 4) dX8_layForm_114 rfl (by decide) ?_
  refine ev_iald (pc' := 116) (j := 4) (v := (I 134) 4) dX8_layForm_115 rfl hs_134 rfl (Nat.le_of_ble_eq_true rfl) (Nat.le_of_ble_eq_true rfl) rfl ?_
  refine ev_i2l (pc' := 117) (v := Int32.toInt64 ((I 134) 4)) dX8_layForm_116 rfl rfl ?_
  refine ev_last (pc' := 118) (j := 4) (L' := (ma_up (ma_up L 132 (ma_up (ma_up (ma_up (ma_up (ma_up (L 132) 0 0) 1 (0 + (mW (mSel 7 (I 133) (I 134))))) 2 (((0 + (mW (mSel 3 (I 133) (I 134)))) + (mW (mSel 5 (I 133) (I 134)))) + (mW (mSel 6 (I 133) (I 134))))) 3 (((0 + (mW (mSel 1 (I 133) (I 134)))) + (mW (mSel 2 (I 133) (I 134)))) + (mW (mSel 4 (I 133) (I 134))))) 4 (0 + (mW (mSel 0 (I 133) (I 134)))))) 120 (ma_up (ma_up (ma_up (ma_up (ma_up r8 0 (Int32.toInt64 ((I 134) 0))) 1 (Int32.toInt64 ((I 134) 1))) 2 (Int32.toInt64 ((I 134) 2))) 3 (Int32.toInt64 ((I 134) 3))) 4 (Int32.toInt64 ((I 134) 4))))) dX8_layForm_117 rfl hs_120 rfl (Nat.le_of_ble_eq_true rfl) (Nat.le_of_ble_eq_true rfl) (ma_up_up _ _ _ _) ?_
  refine ev_iinc (pc' := 121) (v := 1) (lv' := [some (.ref 115), some (.int 8), some (.int 0), some (.int 1), some (.int 0), some (.int 1)]) dX8_layForm_118 rfl rfl (by decide) (Nat.le_of_ble_eq_true rfl) rfl rfl ?_
  refine ev_goto (tgt := 69) dX8_layForm_121 rfl ?_
  refine ev_iload (pc' := 71) dX8_layForm_69 rfl rfl ?_
  refine ev_iconst (pc' := 72) (v := 4) dX8_layForm_71 rfl ki_4 ?_
  refine ev_icmp_ge (tgt := 124) (pc' := 75) dX8_layForm_72 rfl rfl (fun h => absurd h (by decide)) (fun _ => ?_)
  refine ev_aload_n (pc' := 76) (i := 0) dX8_layForm_75 rfl rfl rfl ?_
  refine ev_getR (pc' := 79) fo_X8_26 dX8_layForm_76 rfl hs_115 rfl rf_115_8 ?_
  refine ev_iconst (pc' := 80) (v := 4) dX8_layForm_79 rfl ki_4 ?_
  refine ev_iload_n (pc' := 81) (i := 3) dX8_layForm_80 rfl rfl rfl ?_
  refine ev_imul (pc' := 82) (v := 4) dX8_layForm_81 rfl (by decide) ?_
  refine ev_iload (pc' := 84) dX8_layForm_82 rfl rfl ?_
  refine ev_iadd (pc' := 85) (v := 5) dX8_layForm_84 rfl (by decide) ?_
  refine ev_iload (pc' := 87) dX8_layForm_85 rfl rfl ?_
  refine ev_if_eq (tgt := 105) (pc' := 90) dX8_layForm_87 rfl rfl (fun _ => ?_) (fun h => absurd (by decide) h)
  refine ev_aload_n (pc' := 106) (i := 0) dX8_layForm_105 rfl rfl rfl ?_
  refine ev_getR (pc' := 109) fo_X8_70 dX8_layForm_106 rfl hs_115 rfl rf_115_25 ?_
  refine ev_iconst (pc' := 110) (v := 4) dX8_layForm_109 rfl ki_4 ?_
  refine ev_iload_n (pc' := 111) (i := 3) dX8_layForm_110 rfl rfl rfl ?_
  refine ev_imul (pc' := 112) (v := 4) dX8_layForm_111 rfl (by decide) ?_
  refine ev_iload (pc' := 114) dX8_layForm_112 rfl rfl ?_
  refine ev_iadd (pc' := 115) (v := 5) dX8_layForm_114 rfl (by decide) ?_
  refine ev_iald (pc' := 116) (j := 5) (v := (I 134) 5) dX8_layForm_115 rfl hs_134 rfl (Nat.le_of_ble_eq_true rfl) (Nat.le_of_ble_eq_true rfl) rfl ?_
  refine ev_i2l (pc' := 117) (v := Int32.toInt64 ((I 134) 5)) dX8_layForm_116 rfl rfl ?_
  refine ev_last (pc' := 118) (j := 5) (L' := (ma_up (ma_up L 132 (ma_up (ma_up (ma_up (ma_up (ma_up (L 132) 0 0) 1 (0 + (mW (mSel 7 (I 133) (I 134))))) 2 (((0 + (mW (mSel 3 (I 133) (I 134)))) + (mW (mSel 5 (I 133) (I 134)))) + (mW (mSel 6 (I 133) (I 134))))) 3 (((0 + (mW (mSel 1 (I 133) (I 134)))) + (mW (mSel 2 (I 133) (I 134)))) + (mW (mSel 4 (I 133) (I 134))))) 4 (0 + (mW (mSel 0 (I 133) (I 134)))))) 120 (ma_up (ma_up (ma_up (ma_up (ma_up (ma_up r8 0 (Int32.toInt64 ((I 134) 0))) 1 (Int32.toInt64 ((I 134) 1))) 2 (Int32.toInt64 ((I 134) 2))) 3 (Int32.toInt64 ((I 134) 3))) 4 (Int32.toInt64 ((I 134) 4))) 5 (Int32.toInt64 ((I 134) 5))))) dX8_layForm_117 rfl hs_120 rfl (Nat.le_of_ble_eq_true rfl) (Nat.le_of_ble_eq_true rfl) (ma_up_up _ _ _ _) ?_
  refine ev_iinc (pc' := 121) (v := 2) (lv' := [some (.ref 115), some (.int 8), some (.int 0), some (.int 1), some (.int 0), some (.int 2)]) dX8_layForm_118 rfl rfl (by decide) (Nat.le_of_ble_eq_true rfl) rfl rfl ?_
  refine ev_goto (tgt := 69) dX8_layForm_121 rfl ?_
  refine ev_iload (pc' := 71) dX8_layForm_69 rfl rfl ?_
  refine ev_iconst (pc' := 72) (v := 4) dX8_layForm_71 rfl ki_4 ?_
  refine ev_icmp_ge (tgt := 124) (pc' := 75) dX8_layForm_72 rfl rfl (fun h => absurd h (by decide)) (fun _ => ?_)
  refine ev_aload_n (pc' := 76) (i := 0) dX8_layForm_75 rfl rfl rfl ?_
  refine ev_getR (pc' := 79) fo_X8_26 dX8_layForm_76 rfl hs_115 rfl rf_115_8 ?_
  refine ev_iconst (pc' := 80) (v := 4) dX8_layForm_79 rfl ki_4 ?_
  refine ev_iload_n (pc' := 81) (i := 3) dX8_layForm_80 rfl rfl rfl ?_
  refine ev_imul (pc' := 82) (v := 4) dX8_layForm_81 rfl (by decide) ?_
  refine ev_iload (pc' := 84) dX8_layForm_82 rfl rfl ?_
  refine ev_iadd (pc' := 85) (v := 6) dX8_layForm_84 rfl (by decide) ?_
  refine ev_iload (pc' := 87) dX8_layForm_85 rfl rfl ?_
  refine ev_if_eq (tgt := 105) (pc' := 90) dX8_layForm_87 rfl rfl (fun _ => ?_) (fun h => absurd (by decide) h)
  refine ev_aload_n (pc' := 106) (i := 0) dX8_layForm_105 rfl rfl rfl ?_
  refine ev_getR (pc' := 109) fo_X8_70 dX8_layForm_106 rfl hs_115 rfl rf_115_25 ?_
  refine ev_iconst (pc' := 110) (v := 4) dX8_layForm_109 rfl ki_4 ?_
  refine ev_iload_n (pc' := 111) (i := 3) dX8_layForm_110 rfl rfl rfl ?_
  refine ev_imul (pc' := 112) (v := 4) dX8_layForm_111 rfl (by decide) ?_
  refine ev_iload (pc' := 114) dX8_layForm_112 rfl rfl ?_
  refine ev_iadd (pc' := 115) (v := 6) dX8_layForm_114 rfl (by decide) ?_
  refine ev_iald (pc' := 116) (j := 6) (v := (I 134) 6) dX8_layForm_115 rfl hs_134 rfl (Nat.le_of_ble_eq_true rfl) (Nat.le_of_ble_eq_true rfl) rfl ?_
  refine ev_i2l (pc' := 117) (v := Int32.toInt64 ((I 134) 6)) dX8_layForm_116 rfl rfl ?_
  refine ev_last (pc' := 118) (j := 6) (L' := (ma_up (ma_up L 132 (ma_up (ma_up (ma_up (ma_up (ma_up (L 132) 0 0) 1 (0 + (mW (mSel 7 (I 133) (I 134))))) 2 (((0 + (mW (mSel 3 (I 133) (I 134)))) + (mW (mSel 5 (I 133) (I 134)))) + (mW (mSel 6 (I 133) (I 134))))) 3 (((0 + (mW (mSel 1 (I 133) (I 134)))) + (mW (mSel 2 (I 133) (I 134)))) + (mW (mSel 4 (I 133) (I 134))))) 4 (0 + (mW (mSel 0 (I 133) (I 134)))))) 120 (ma_up (ma_up (ma_up (ma_up (ma_up (ma_up (ma_up r8 0 (Int32.toInt64 ((I 134) 0))) 1 (Int32.toInt64 ((I 134) 1))) 2 (Int32.toInt64 ((I 134) 2))) 3 (Int32.toInt64 ((I 134) 3))) 4 (Int32.toInt64 ((I 134) 4))) 5 (Int32.toInt64 ((I 134) 5))) 6 (Int32.toInt64 ((I 134) 6))))) dX8_layForm_117 rfl hs_120 rfl (Nat.le_of_ble_eq_true rfl) (Nat.le_of_ble_eq_true rfl) (ma_up_up _ _ _ _) ?_
  refine ev_iinc (pc' := 121) (v := 3) (lv' := [some (.ref 115), some (.int 8), some (.int 0), some (.int 1), some (.int 0), some (.int 3)]) dX8_layForm_118 rfl rfl (by decide) (Nat.le_of_ble_eq_true rfl) rfl rfl ?_
  refine ev_goto (tgt := 69) dX8_layForm_121 rfl ?_
  refine ev_iload (pc' := 71) dX8_layForm_69 rfl rfl ?_
  refine ev_iconst (pc' := 72) (v := 4) dX8_layForm_71 rfl ki_4 ?_
  refine ev_icmp_ge (tgt := 124) (pc' := 75) dX8_layForm_72 rfl rfl (fun h => absurd h (by decide)) (fun _ => ?_)
  refine ev_aload_n (pc' := 76) (i := 0) dX8_layForm_75 rfl rfl rfl ?_
  refine ev_getR (pc' := 79) fo_X8_26 dX8_layForm_76 rfl hs_115 rfl rf_115_8 ?_
  refine ev_iconst (pc' := 80) (v := 4) dX8_layForm_79 rfl ki_4 ?_
  refine ev_iload_n (pc' := 81) (i := 3) dX8_layForm_80 rfl rfl rfl ?_
  refine ev_imul (pc' := 82) (v := 4) dX8_layForm_81 rfl (by decide) ?_
  refine ev_iload (pc' := 84) dX8_layForm_82 rfl rfl ?_
  refine ev_iadd (pc' := 85) (v := 7) dX8_layForm_84 rfl (by decide) ?_
  refine ev_iload (pc' := 87) dX8_layForm_85 rfl rfl ?_
  refine ev_if_eq (tgt := 105) (pc' := 90) dX8_layForm_87 rfl rfl (fun _ => ?_) (fun h => absurd (by decide) h)
  refine ev_aload_n (pc' := 106) (i := 0) dX8_layForm_105 rfl rfl rfl ?_
  refine ev_getR (pc' := 109) fo_X8_70 dX8_layForm_106 rfl hs_115 rfl rf_115_25 ?_
  refine ev_iconst (pc' := 110) (v := 4) dX8_layForm_109 rfl ki_4 ?_
  refine ev_iload_n (pc' := 111) (i := 3) dX8_layForm_110 rfl rfl rfl ?_
  refine ev_imul (pc' := 112) (v := 4) dX8_layForm_111 rfl (by decide) ?_
  refine ev_iload (pc' := 114) dX8_layForm_112 rfl rfl ?_
  refine ev_iadd (pc' := 115) (v := 7) dX8_layForm_114 rfl (by decide) ?_
  refine ev_iald (pc' := 116) (j := 7) (v := (I 134) 7) dX8_layForm_115 rfl hs_134 rfl (Nat.le_of_ble_eq_true rfl) (Nat.le_of_ble_eq_true rfl) rfl ?_
  refine ev_i2l (pc' := 117) (v := Int32.toInt64 ((I 134) 7)) dX8_layForm_116 rfl rfl ?_
  refine ev_last (pc' := 118) (j := 7) (L' := (ma_up (ma_up L 132 (ma_up (ma_up (ma_up (ma_up (ma_up (L 132) 0 0) 1 (0 + (mW (mSel 7 (I 133) (I 134))))) 2 (((0 + (mW (mSel 3 (I 133) (I 134)))) + (mW (mSel 5 (I 133) (I 134)))) + (mW (mSel 6 (I 133) (I 134))))) 3 (((0 + (mW (mSel 1 (I 133) (I 134)))) + (mW (mSel 2 (I 133) (I 134)))) + (mW (mSel 4 (I 133) (I 134))))) 4 (0 + (mW (mSel 0 (I 133) (I 134)))))) 120 (ma_up (ma_up (ma_up (ma_up (ma_up (ma_up (ma_up (ma_up r8 0 (Int32.toInt64 ((I 134) 0))) 1 (Int32.toInt64 ((I 134) 1))) 2 (Int32.toInt64 ((I 134) 2))) 3 (Int32.toInt64 ((I 134) 3))) 4 (Int32.toInt64 ((I 134) 4))) 5 (Int32.toInt64 ((I 134) 5))) 6 (Int32.toInt64 ((I 134) 6))) 7 (Int32.toInt64 ((I 134) 7))))) dX8_layForm_117 rfl hs_120 rfl (Nat.le_of_ble_eq_true rfl) (Nat.le_of_ble_eq_true rfl) (ma_up_up _ _ _ _) ?_
  refine ev_iinc (pc' := 121) (v := 4) (lv' := [some (.ref 115), some (.int 8), some (.int 0), some (.int 1), some (.int 0), some (.int 4)]) dX8_layForm_118 rfl rfl (by decide) (Nat.le_of_ble_eq_true rfl) rfl rfl ?_
  refine ev_goto (tgt := 69) dX8_layForm_121 rfl ?_
  refine ev_iload (pc' := 71) dX8_layForm_69 rfl rfl ?_
  refine ev_iconst (pc' := 72) (v := 4) dX8_layForm_71 rfl ki_4 ?_
  refine ev_icmp_ge (tgt := 124) (pc' := 75) dX8_layForm_72 rfl rfl (fun _ => ?_) (fun h => absurd (by decide) h)
  refine ev_iinc (pc' := 127) (v := 2) (lv' := [some (.ref 115), some (.int 8), some (.int 0), some (.int 2), some (.int 0), some (.int 4)]) dX8_layForm_124 rfl rfl (by decide) (Nat.le_of_ble_eq_true rfl) rfl rfl ?_
  refine ev_goto (tgt := 32) dX8_layForm_127 rfl ?_
  refine ev_iload_n (pc' := 33) (i := 3) dX8_layForm_32 rfl rfl rfl ?_
  refine ev_iconst (pc' := 34) (v := 4) dX8_layForm_33 rfl ki_4 ?_
  refine ev_icmp_ge (tgt := 130) (pc' := 37) dX8_layForm_34 rfl rfl (fun h => absurd h (by decide)) (fun _ => ?_)
  refine ev_iload_n (pc' := 38) (i := 1) dX8_layForm_37 rfl rfl rfl ?_
  refine ev_iload_n (pc' := 39) (i := 3) dX8_layForm_38 rfl rfl rfl ?_
  refine ev_ishr (pc' := 40) (v := 2) dX8_layForm_39 rfl (by decide) ?_
  refine ev_iconst (pc' := 41) (v := 1) dX8_layForm_40 rfl ki_1 ?_
  refine ev_iand (pc' := 42) (v := 0) dX8_layForm_41 rfl (by decide) ?_
  refine ev_iconst (pc' := 43) (v := 1) dX8_layForm_42 rfl ki_1 ?_
  refine ev_icmp_ne (tgt := 50) (pc' := 46) dX8_layForm_43 rfl rfl (fun _ => ?_) (fun h => absurd h (by decide))
  refine ev_iconst (pc' := 51) (v := 0) dX8_layForm_50 rfl ki_0 ?_
  refine ev_istore (pc' := 53) (lv' := [some (.ref 115), some (.int 8), some (.int 0), some (.int 2), some (.int 0), some (.int 4)]) dX8_layForm_51 rfl (Nat.le_of_ble_eq_true rfl) rfl rfl ?_
  refine ev_iload_n (pc' := 54) (i := 2) dX8_layForm_53 rfl rfl rfl ?_
  refine ev_iload (pc' := 56) dX8_layForm_54 rfl rfl ?_
  refine ev_if_eq (tgt := 63) (pc' := 59) dX8_layForm_56 rfl rfl (fun _ => ?_) (fun h => absurd (by decide) h)
  refine ev_iconst (pc' := 64) (v := 0) dX8_layForm_63 rfl ki_0 ?_
  refine ev_iadd (pc' := 65) (v := 0) dX8_layForm_64 rfl (by decide) ?_
  refine ev_istore_n (pc' := 66) (i := 2) (lv' := [some (.ref 115), some (.int 8), some (.int 0), some (.int 2), some (.int 0), some (.int 4)]) dX8_layForm_65 rfl rfl (Nat.le_of_ble_eq_true rfl) rfl rfl ?_
  refine ev_iconst (pc' := 67) (v := 0) dX8_layForm_66 rfl ki_0 ?_
  refine ev_istore (pc' := 69) (lv' := [some (.ref 115), some (.int 8), some (.int 0), some (.int 2), some (.int 0), some (.int 0)]) dX8_layForm_67 rfl (Nat.le_of_ble_eq_true rfl) rfl rfl ?_
  refine ev_iload (pc' := 71) dX8_layForm_69 rfl rfl ?_
  refine ev_iconst (pc' := 72) (v := 4) dX8_layForm_71 rfl ki_4 ?_
  refine ev_icmp_ge (tgt := 124) (pc' := 75) dX8_layForm_72 rfl rfl (fun h => absurd h (by decide)) (fun _ => ?_)
  refine ev_aload_n (pc' := 76) (i := 0) dX8_layForm_75 rfl rfl rfl ?_
  refine ev_getR (pc' := 79) fo_X8_26 dX8_layForm_76 rfl hs_115 rfl rf_115_8 ?_
  refine ev_iconst (pc' := 80) (v := 4) dX8_layForm_79 rfl ki_4 ?_
  refine ev_iload_n (pc' := 81) (i := 3) dX8_layForm_80 rfl rfl rfl ?_
  refine ev_imul (pc' := 82) (v := 8) dX8_layForm_81 rfl (by decide) ?_
  refine ev_iload (pc' := 84) dX8_layForm_82 rfl rfl ?_
  refine ev_iadd (pc' := 85) (v := 8) dX8_layForm_84 rfl (by decide) ?_
  refine ev_iload (pc' := 87) dX8_layForm_85 rfl rfl ?_
  refine ev_if_eq (tgt := 105) (pc' := 90) dX8_layForm_87 rfl rfl (fun _ => ?_) (fun h => absurd (by decide) h)
  refine ev_aload_n (pc' := 106) (i := 0) dX8_layForm_105 rfl rfl rfl ?_
  refine ev_getR (pc' := 109) fo_X8_70 dX8_layForm_106 rfl hs_115 rfl rf_115_25 ?_
  refine ev_iconst (pc' := 110) (v := 4) dX8_layForm_109 rfl ki_4 ?_
  refine ev_iload_n (pc' := 111) (i := 3) dX8_layForm_110 rfl rfl rfl ?_
  refine ev_imul (pc' := 112) (v := 8) dX8_layForm_111 rfl (by decide) ?_
  refine ev_iload (pc' := 114) dX8_layForm_112 rfl rfl ?_
  refine ev_iadd (pc' := 115) (v := 8) dX8_layForm_114 rfl (by decide) ?_
  refine ev_iald (pc' := 116) (j := 8) (v := (I 134) 8) dX8_layForm_115 rfl hs_134 rfl (Nat.le_of_ble_eq_true rfl) (Nat.le_of_ble_eq_true rfl) rfl ?_
  refine ev_i2l (pc' := 117) (v := Int32.toInt64 ((I 134) 8)) dX8_layForm_116 rfl rfl ?_
  refine ev_last (pc' := 118) (j := 8) (L' := (ma_up (ma_up L 132 (ma_up (ma_up (ma_up (ma_up (ma_up (L 132) 0 0) 1 (0 + (mW (mSel 7 (I 133) (I 134))))) 2 (((0 + (mW (mSel 3 (I 133) (I 134)))) + (mW (mSel 5 (I 133) (I 134)))) + (mW (mSel 6 (I 133) (I 134))))) 3 (((0 + (mW (mSel 1 (I 133) (I 134)))) + (mW (mSel 2 (I 133) (I 134)))) + (mW (mSel 4 (I 133) (I 134))))) 4 (0 + (mW (mSel 0 (I 133) (I 134)))))) 120 (ma_up (ma_up (ma_up (ma_up (ma_up (ma_up (ma_up (ma_up (ma_up r8 0 (Int32.toInt64 ((I 134) 0))) 1 (Int32.toInt64 ((I 134) 1))) 2 (Int32.toInt64 ((I 134) 2))) 3 (Int32.toInt64 ((I 134) 3))) 4 (Int32.toInt64 ((I 134) 4))) 5 (Int32.toInt64 ((I 134) 5))) 6 (Int32.toInt64 ((I 134) 6))) 7 (Int32.toInt64 ((I 134) 7))) 8 (Int32.toInt64 ((I 134) 8))))) dX8_layForm_117 rfl hs_120 rfl (Nat.le_of_ble_eq_true rfl) (Nat.le_of_ble_eq_true rfl) (ma_up_up _ _ _ _) ?_
  refine ev_iinc (pc' := 121) (v := 1) (lv' := [some (.ref 115), some (.int 8), some (.int 0), some (.int 2), some (.int 0), some (.int 1)]) dX8_layForm_118 rfl rfl (by decide) (Nat.le_of_ble_eq_true rfl) rfl rfl ?_
  refine ev_goto (tgt := 69) dX8_layForm_121 rfl ?_
  refine ev_iload (pc' := 71) dX8_layForm_69 rfl rfl ?_
  refine ev_iconst (pc' := 72) (v := 4) dX8_layForm_71 rfl ki_4 ?_
  refine ev_icmp_ge (tgt := 124) (pc' := 75) dX8_layForm_72 rfl rfl (fun h => absurd h (by decide)) (fun _ => ?_)
  refine ev_aload_n (pc' := 76) (i := 0) dX8_layForm_75 rfl rfl rfl ?_
  refine ev_getR (pc' := 79) fo_X8_26 dX8_layForm_76 rfl hs_115 rfl rf_115_8 ?_
  refine ev_iconst (pc' := 80) (v := 4) dX8_layForm_79 rfl ki_4 ?_
  refine ev_iload_n (pc' := 81) (i := 3) dX8_layForm_80 rfl rfl rfl ?_
  refine ev_imul (pc' := 82) (v := 8) dX8_layForm_81 rfl (by decide) ?_
  refine ev_iload (pc' := 84) dX8_layForm_82 rfl rfl ?_
  refine ev_iadd (pc' := 85) (v := 9) dX8_layForm_84 rfl (by decide) ?_
  refine ev_iload (pc' := 87) dX8_layForm_85 rfl rfl ?_
  refine ev_if_eq (tgt := 105) (pc' := 90) dX8_layForm_87 rfl rfl (fun _ => ?_) (fun h => absurd (by decide) h)
  refine ev_aload_n (pc' := 106) (i := 0) dX8_layForm_105 rfl rfl rfl ?_
  refine ev_getR (pc' := 109) fo_X8_70 dX8_layForm_106 rfl hs_115 rfl rf_115_25 ?_
  refine ev_iconst (pc' := 110) (v := 4) dX8_layForm_109 rfl ki_4 ?_
  refine ev_iload_n (pc' := 111) (i := 3) dX8_layForm_110 rfl rfl rfl ?_
  refine ev_imul (pc' := 112) (v := 8) dX8_layForm_111 rfl (by decide) ?_
  refine ev_iload (pc' := 114) dX8_layForm_112 rfl rfl ?_
  refine ev_iadd (pc' := 115) (v := 9) dX8_layForm_114 rfl (by decide) ?_
  refine ev_iald (pc' := 116) (j := 9) (v := (I 134) 9) dX8_layForm_115 rfl hs_134 rfl (Nat.le_of_ble_eq_true rfl) (Nat.le_of_ble_eq_true rfl) rfl ?_
  refine ev_i2l (pc' := 117) (v := Int32.toInt64 ((I 134) 9)) dX8_layForm_116 rfl rfl ?_
  refine ev_last (pc' := 118) (j := 9) (L' := (ma_up (ma_up L 132 (ma_up (ma_up (ma_up (ma_up (ma_up (L 132) 0 0) 1 (0 + (mW (mSel 7 (I 133) (I 134))))) 2 (((0 + (mW (mSel 3 (I 133) (I 134)))) + (mW (mSel 5 (I 133) (I 134)))) + (mW (mSel 6 (I 133) (I 134))))) 3 (((0 + (mW (mSel 1 (I 133) (I 134)))) + (mW (mSel 2 (I 133) (I 134)))) + (mW (mSel 4 (I 133) (I 134))))) 4 (0 + (mW (mSel 0 (I 133) (I 134)))))) 120 (ma_up (ma_up (ma_up (ma_up (ma_up (ma_up (ma_up (ma_up (ma_up (ma_up r8 0 (Int32.toInt64 ((I 134) 0))) 1 (Int32.toInt64 ((I 134) 1))) 2 (Int32.toInt64 ((I 134) 2))) 3 (Int32.toInt64 ((I 134) 3))) 4 (Int32.toInt64 ((I 134) 4))) 5 (Int32.toInt64 ((I 134) 5))) 6 (Int32.toInt64 ((I 134) 6))) 7 (Int32.toInt64 ((I 134) 7))) 8 (Int32.toInt64 ((I 134) 8))) 9 (Int32.toInt64 ((I 134) 9))))) dX8_layForm_117 rfl hs_120 rfl (Nat.le_of_ble_eq_true rfl) (Nat.le_of_ble_eq_true rfl) (ma_up_up _ _ _ _) ?_
  refine ev_iinc (pc' := 121) (v := 2) (lv' := [some (.ref 115), some (.int 8), some (.int 0), some (.int 2), some (.int 0), some (.int 2)]) dX8_layForm_118 rfl rfl (by decide) (Nat.le_of_ble_eq_true rfl) rfl rfl ?_
  refine ev_goto (tgt := 69) dX8_layForm_121 rfl ?_
  refine ev_iload (pc' := 71) dX8_layForm_69 rfl rfl ?_
  refine ev_iconst (pc' := 72) (v := 4) dX8_layForm_71 rfl ki_4 ?_
  refine ev_icmp_ge (tgt := 124) (pc' := 75) dX8_layForm_72 rfl rfl (fun h => absurd h (by decide)) (fun _ => ?_)
  refine ev_aload_n (pc' := 76) (i := 0) dX8_layForm_75 rfl rfl rfl ?_
  refine ev_getR (pc' := 79) fo_X8_26 dX8_layForm_76 rfl hs_115 rfl rf_115_8 ?_
  refine ev_iconst (pc' := 80) (v := 4) dX8_layForm_79 rfl ki_4 ?_
  refine ev_iload_n (pc' := 81) (i := 3) dX8_layForm_80 rfl rfl rfl ?_
  refine ev_imul (pc' := 82) (v := 8) dX8_layForm_81 rfl (by decide) ?_
  refine ev_iload (pc' := 84) dX8_layForm_82 rfl rfl ?_
  refine ev_iadd (pc' := 85) (v := 10) dX8_layForm_84 rfl (by decide) ?_
  refine ev_iload (pc' := 87) dX8_layForm_85 rfl rfl ?_
  refine ev_if_eq (tgt := 105) (pc' := 90) dX8_layForm_87 rfl rfl (fun _ => ?_) (fun h => absurd (by decide) h)
  refine ev_aload_n (pc' := 106) (i := 0) dX8_layForm_105 rfl rfl rfl ?_
  refine ev_getR (pc' := 109) fo_X8_70 dX8_layForm_106 rfl hs_115 rfl rf_115_25 ?_
  refine ev_iconst (pc' := 110) (v := 4) dX8_layForm_109 rfl ki_4 ?_
  refine ev_iload_n (pc' := 111) (i := 3) dX8_layForm_110 rfl rfl rfl ?_
  refine ev_imul (pc' := 112) (v := 8) dX8_layForm_111 rfl (by decide) ?_
  refine ev_iload (pc' := 114) dX8_layForm_112 rfl rfl ?_
  refine ev_iadd (pc' := 115) (v := 10) dX8_layForm_114 rfl (by decide) ?_
  refine ev_iald (pc' := 116) (j := 10) (v := (I 134) 10) dX8_layForm_115 rfl hs_134 rfl (Nat.le_of_ble_eq_true rfl) (Nat.le_of_ble_eq_true rfl) rfl ?_
  refine ev_i2l (pc' := 117) (v := Int32.toInt64 ((I 134) 10)) dX8_layForm_116 rfl rfl ?_
  refine ev_last (pc' := 118) (j := 10) (L' := (ma_up (ma_up L 132 (ma_up (ma_up (ma_up (ma_up (ma_up (L 132) 0 0) 1 (0 + (mW (mSel 7 (I 133) (I 134))))) 2 (((0 + (mW (mSel 3 (I 133) (I 134)))) + (mW (mSel 5 (I 133) (I 134)))) + (mW (mSel 6 (I 133) (I 134))))) 3 (((0 + (mW (mSel 1 (I 133) (I 134)))) + (mW (mSel 2 (I 133) (I 134)))) + (mW (mSel 4 (I 133) (I 134))))) 4 (0 + (mW (mSel 0 (I 133) (I 134)))))) 120 (ma_up (ma_up (ma_up (ma_up (ma_up (ma_up (ma_up (ma_up (ma_up (ma_up (ma_up r8 0 (Int32.toInt64 ((I 134) 0))) 1 (Int32.toInt64 ((I 134) 1))) 2 (Int32.toInt64 ((I 134) 2))) 3 (Int32.toInt64 ((I 134) 3))) 4 (Int32.toInt64 ((I 134) 4))) 5 (Int32.toInt64 ((I 134) 5))) 6 (Int32.toInt64 ((I 134) 6))) 7 (Int32.toInt64 ((I 134) 7))) 8 (Int32.toInt64 ((I 134) 8))) 9 (Int32.toInt64 ((I 134) 9))) 10 (Int32.toInt64 ((I 134) 10))))) dX8_layForm_117 rfl hs_120 rfl (Nat.le_of_ble_eq_true rfl) (Nat.le_of_ble_eq_true rfl) (ma_up_up _ _ _ _) ?_
  refine ev_iinc (pc' := 121) (v := 3) (lv' := [some (.ref 115), some (.int 8), some (.int 0), some (.int 2), some (.int 0), some (.int 3)]) dX8_layForm_118 rfl rfl (by decide) (Nat.le_of_ble_eq_true rfl) rfl rfl ?_
  refine ev_goto (tgt := 69) dX8_layForm_121 rfl ?_
  refine ev_iload (pc' := 71) dX8_layForm_69 rfl rfl ?_
  refine ev_iconst (pc' := 72) (v := 4) dX8_layForm_71 rfl ki_4 ?_
  refine ev_icmp_ge (tgt := 124) (pc' := 75) dX8_layForm_72 rfl rfl (fun h => absurd h (by decide)) (fun _ => ?_)
  refine ev_aload_n (pc' := 76) (i := 0) dX8_layForm_75 rfl rfl rfl ?_
  refine ev_getR (pc' := 79) fo_X8_26 dX8_layForm_76 rfl hs_115 rfl rf_115_8 ?_
  refine ev_iconst (pc' := 80) (v := 4) dX8_layForm_79 rfl ki_4 ?_
  refine ev_iload_n (pc' := 81) (i := 3) dX8_layForm_80 rfl rfl rfl ?_
  refine ev_imul (pc' := 82) (v := 8) dX8_layForm_81 rfl (by decide) ?_
  refine ev_iload (pc' := 84) dX8_layForm_82 rfl rfl ?_
  refine ev_iadd (pc' := 85) (v := 11) dX8_layForm_84 rfl (by decide) ?_
  refine ev_iload (pc' := 87) dX8_layForm_85 rfl rfl ?_
  refine ev_if_eq (tgt := 105) (pc' := 90) dX8_layForm_87 rfl rfl (fun _ => ?_) (fun h => absurd (by decide) h)
  refine ev_aload_n (pc' := 106) (i := 0) dX8_layForm_105 rfl rfl rfl ?_
  refine ev_getR (pc' := 109) fo_X8_70 dX8_layForm_106 rfl hs_115 rfl rf_115_25 ?_
  refine ev_iconst (pc' := 110) (v := 4) dX8_layForm_109 rfl ki_4 ?_
  refine ev_iload_n (pc' := 111) (i := 3) dX8_layForm_110 rfl rfl rfl ?_
  refine ev_imul (pc' := 112) (v := 8) dX8_layForm_111 rfl (by decide) ?_
  refine ev_iload (pc' := 114) dX8_layForm_112 rfl rfl ?_
  refine ev_iadd (pc' := 115) (v := 11) dX8_layForm_114 rfl (by decide) ?_
  refine ev_iald (pc' := 116) (j := 11) (v := (I 134) 11) dX8_layForm_115 rfl hs_134 rfl (Nat.le_of_ble_eq_true rfl) (Nat.le_of_ble_eq_true rfl) rfl ?_
  refine ev_i2l (pc' := 117) (v := Int32.toInt64 ((I 134) 11)) dX8_layForm_116 rfl rfl ?_
  refine ev_last (pc' := 118) (j := 11) (L' := (ma_up (ma_up L 132 (ma_up (ma_up (ma_up (ma_up (ma_up (L 132) 0 0) 1 (0 + (mW (mSel 7 (I 133) (I 134))))) 2 (((0 + (mW (mSel 3 (I 133) (I 134)))) + (mW (mSel 5 (I 133) (I 134)))) + (mW (mSel 6 (I 133) (I 134))))) 3 (((0 + (mW (mSel 1 (I 133) (I 134)))) + (mW (mSel 2 (I 133) (I 134)))) + (mW (mSel 4 (I 133) (I 134))))) 4 (0 + (mW (mSel 0 (I 133) (I 134)))))) 120 (ma_up (ma_up (ma_up (ma_up (ma_up (ma_up (ma_up (ma_up (ma_up (ma_up (ma_up (ma_up r8 0 (Int32.toInt64 ((I 134) 0))) 1 (Int32.toInt64 ((I 134) 1))) 2 (Int32.toInt64 ((I 134) 2))) 3 (Int32.toInt64 ((I 134) 3))) 4 (Int32.toInt64 ((I 134) 4))) 5 (Int32.toInt64 ((I 134) 5))) 6 (Int32.toInt64 ((I 134) 6))) 7 (Int32.toInt64 ((I 134) 7))) 8 (Int32.toInt64 ((I 134) 8))) 9 (Int32.toInt64 ((I 134) 9))) 10 (Int32.toInt64 ((I 134) 10))) 11 (Int32.toInt64 ((I 134) 11))))) dX8_layForm_117 rfl hs_120 rfl (Nat.le_of_ble_eq_true rfl) (Nat.le_of_ble_eq_true rfl) (ma_up_up _ _ _ _) ?_
  refine ev_iinc (pc' := 121) (v := 4) (lv' := [some (.ref 115), some (.int 8), some (.int 0), some (.int 2), some (.int 0), some (.int 4)]) dX8_layForm_118 rfl rfl (by decide) (Nat.le_of_ble_eq_true rfl) rfl rfl ?_
  refine ev_goto (tgt := 69) dX8_layForm_121 rfl ?_
  refine ev_iload (pc' := 71) dX8_layForm_69 rfl rfl ?_
  refine ev_iconst (pc' := 72) (v := 4) dX8_layForm_71 rfl ki_4 ?_
  refine ev_icmp_ge (tgt := 124) (pc' := 75) dX8_layForm_72 rfl rfl (fun _ => ?_) (fun h => absurd (by decide) h)
  refine ev_iinc (pc' := 127) (v := 3) (lv' := [some (.ref 115), some (.int 8), some (.int 0), some (.int 3), some (.int 0), some (.int 4)]) dX8_layForm_124 rfl rfl (by decide) (Nat.le_of_ble_eq_true rfl) rfl rfl ?_
  refine ev_goto (tgt := 32) dX8_layForm_127 rfl ?_
  refine ev_iload_n (pc' := 33) (i := 3) dX8_layForm_32 rfl rfl rfl ?_
  refine ev_iconst (pc' := 34) (v := 4) dX8_layForm_33 rfl ki_4 ?_
  refine ev_icmp_ge (tgt := 130) (pc' := 37) dX8_layForm_34 rfl rfl (fun h => absurd h (by decide)) (fun _ => ?_)
  refine ev_iload_n (pc' := 38) (i := 1) dX8_layForm_37 rfl rfl rfl ?_
  refine ev_iload_n (pc' := 39) (i := 3) dX8_layForm_38 rfl rfl rfl ?_
  refine ev_ishr (pc' := 40) (v := 1) dX8_layForm_39 rfl (by decide) ?_
  refine ev_iconst (pc' := 41) (v := 1) dX8_layForm_40 rfl ki_1 ?_
  refine ev_iand (pc' := 42) (v := 1) dX8_layForm_41 rfl (by decide) ?_
  refine ev_iconst (pc' := 43) (v := 1) dX8_layForm_42 rfl ki_1 ?_
  refine ev_icmp_ne (tgt := 50) (pc' := 46) dX8_layForm_43 rfl rfl (fun h => absurd (by decide) h) (fun _ => ?_)
  refine ev_iconst (pc' := 47) (v := 1) dX8_layForm_46 rfl ki_1 ?_
  refine ev_goto (tgt := 51) dX8_layForm_47 rfl ?_
  refine ev_istore (pc' := 53) (lv' := [some (.ref 115), some (.int 8), some (.int 0), some (.int 3), some (.int 1), some (.int 4)]) dX8_layForm_51 rfl (Nat.le_of_ble_eq_true rfl) rfl rfl ?_
  refine ev_iload_n (pc' := 54) (i := 2) dX8_layForm_53 rfl rfl rfl ?_
  refine ev_iload (pc' := 56) dX8_layForm_54 rfl rfl ?_
  refine ev_if_eq (tgt := 63) (pc' := 59) dX8_layForm_56 rfl rfl (fun h => absurd h (by decide)) (fun _ => ?_)
  refine ev_iconst (pc' := 60) (v := 1) dX8_layForm_59 rfl ki_1 ?_
  refine ev_goto (tgt := 64) dX8_layForm_60 rfl ?_
  refine ev_iadd (pc' := 65) (v := 1) dX8_layForm_64 rfl (by decide) ?_
  refine ev_istore_n (pc' := 66) (i := 2) (lv' := [some (.ref 115), some (.int 8), some (.int 1), some (.int 3), some (.int 1), some (.int 4)]) dX8_layForm_65 rfl rfl (Nat.le_of_ble_eq_true rfl) rfl rfl ?_
  refine ev_iconst (pc' := 67) (v := 0) dX8_layForm_66 rfl ki_0 ?_
  refine ev_istore (pc' := 69) (lv' := [some (.ref 115), some (.int 8), some (.int 1), some (.int 3), some (.int 1), some (.int 0)]) dX8_layForm_67 rfl (Nat.le_of_ble_eq_true rfl) rfl rfl ?_
  refine ev_iload (pc' := 71) dX8_layForm_69 rfl rfl ?_
  refine ev_iconst (pc' := 72) (v := 4) dX8_layForm_71 rfl ki_4 ?_
  refine ev_icmp_ge (tgt := 124) (pc' := 75) dX8_layForm_72 rfl rfl (fun h => absurd h (by decide)) (fun _ => ?_)
  refine ev_aload_n (pc' := 76) (i := 0) dX8_layForm_75 rfl rfl rfl ?_
  refine ev_getR (pc' := 79) fo_X8_26 dX8_layForm_76 rfl hs_115 rfl rf_115_8 ?_
  refine ev_iconst (pc' := 80) (v := 4) dX8_layForm_79 rfl ki_4 ?_
  refine ev_iload_n (pc' := 81) (i := 3) dX8_layForm_80 rfl rfl rfl ?_
  refine ev_imul (pc' := 82) (v := 12) dX8_layForm_81 rfl (by decide) ?_
  refine ev_iload (pc' := 84) dX8_layForm_82 rfl rfl ?_
  refine ev_iadd (pc' := 85) (v := 12) dX8_layForm_84 rfl (by decide) ?_
  refine ev_iload (pc' := 87) dX8_layForm_85 rfl rfl ?_
  refine ev_if_eq (tgt := 105) (pc' := 90) dX8_layForm_87 rfl rfl (fun h => absurd h (by decide)) (fun _ => ?_)
  refine ev_aload_n (pc' := 91) (i := 0) dX8_layForm_90 rfl rfl rfl ?_
  refine ev_getR (pc' := 94) fo_X8_67 dX8_layForm_91 rfl hs_115 rfl rf_115_24 ?_
  refine ev_iconst (pc' := 95) (v := 4) dX8_layForm_94 rfl ki_4 ?_
  refine ev_iload_n (pc' := 96) (i := 3) dX8_layForm_95 rfl rfl rfl ?_
  refine ev_imul (pc' := 97) (v := 12) dX8_layForm_96 rfl (by decide) ?_
  refine ev_iload (pc' := 99) dX8_layForm_97 rfl rfl ?_
  refine ev_iadd (pc' := 100) (v := 12) dX8_layForm_99 rfl (by decide) ?_
  refine ev_iald (pc' := 101) (j := 12) (v := (I 133) 12) dX8_layForm_100 rfl hs_133 rfl (Nat.le_of_ble_eq_true rfl) (Nat.le_of_ble_eq_true rfl) rfl ?_
  refine ev_i2l (pc' := 102) (v := Int32.toInt64 ((I 133) 12)) dX8_layForm_101 rfl rfl ?_
  refine ev_goto (tgt := 117) dX8_layForm_102 rfl ?_
  refine ev_last (pc' := 118) (j := 12) (L' := (ma_up (ma_up L 132 (ma_up (ma_up (ma_up (ma_up (ma_up (L 132) 0 0) 1 (0 + (mW (mSel 7 (I 133) (I 134))))) 2 (((0 + (mW (mSel 3 (I 133) (I 134)))) + (mW (mSel 5 (I 133) (I 134)))) + (mW (mSel 6 (I 133) (I 134))))) 3 (((0 + (mW (mSel 1 (I 133) (I 134)))) + (mW (mSel 2 (I 133) (I 134)))) + (mW (mSel 4 (I 133) (I 134))))) 4 (0 + (mW (mSel 0 (I 133) (I 134)))))) 120 (ma_up (ma_up (ma_up (ma_up (ma_up (ma_up (ma_up (ma_up (ma_up (ma_up (ma_up (ma_up (ma_up r8 0 (Int32.toInt64 ((I 134) 0))) 1 (Int32.toInt64 ((I 134) 1))) 2 (Int32.toInt64 ((I 134) 2))) 3 (Int32.toInt64 ((I 134) 3))) 4 (Int32.toInt64 ((I 134) 4))) 5 (Int32.toInt64 ((I 134) 5))) 6 (Int32.toInt64 ((I 134) 6))) 7 (Int32.toInt64 ((I 134) 7))) 8 (Int32.toInt64 ((I 134) 8))) 9 (Int32.toInt64 ((I 134) 9))) 10 (Int32.toInt64 ((I 134) 10))) 11 (Int32.toInt64 ((I 134) 11))) 12 (Int32.toInt64 ((I 133) 12))))) dX8_layForm_117 rfl hs_120 rfl (Nat.le_of_ble_eq_true rfl) (Nat.le_of_ble_eq_true rfl) (ma_up_up _ _ _ _) ?_
  refine ev_iinc (pc' := 121) (v := 1) (lv' := [some (.ref 115), some (.int 8), some (.int 1), some (.int 3), some (.int 1), some (.int 1)]) dX8_layForm_118 rfl rfl (by decide) (Nat.le_of_ble_eq_true rfl) rfl rfl ?_
  refine ev_goto (tgt := 69) dX8_layForm_121 rfl ?_
  refine ev_iload (pc' := 71) dX8_layForm_69 rfl rfl ?_
  refine ev_iconst (pc' := 72) (v := 4) dX8_layForm_71 rfl ki_4 ?_
  refine ev_icmp_ge (tgt := 124) (pc' := 75) dX8_layForm_72 rfl rfl (fun h => absurd h (by decide)) (fun _ => ?_)
  refine ev_aload_n (pc' := 76) (i := 0) dX8_layForm_75 rfl rfl rfl ?_
  refine ev_getR (pc' := 79) fo_X8_26 dX8_layForm_76 rfl hs_115 rfl rf_115_8 ?_
  refine ev_iconst (pc' := 80) (v := 4) dX8_layForm_79 rfl ki_4 ?_
  refine ev_iload_n (pc' := 81) (i := 3) dX8_layForm_80 rfl rfl rfl ?_
  refine ev_imul (pc' := 82) (v := 12) dX8_layForm_81 rfl (by decide) ?_
  refine ev_iload (pc' := 84) dX8_layForm_82 rfl rfl ?_
  refine ev_iadd (pc' := 85) (v := 13) dX8_layForm_84 rfl (by decide) ?_
  refine ev_iload (pc' := 87) dX8_layForm_85 rfl rfl ?_
  refine ev_if_eq (tgt := 105) (pc' := 90) dX8_layForm_87 rfl rfl (fun h => absurd h (by decide)) (fun _ => ?_)
  refine ev_aload_n (pc' := 91) (i := 0) dX8_layForm_90 rfl rfl rfl ?_
  refine ev_getR (pc' := 94) fo_X8_67 dX8_layForm_91 rfl hs_115 rfl rf_115_24 ?_
  refine ev_iconst (pc' := 95) (v := 4) dX8_layForm_94 rfl ki_4 ?_
  refine ev_iload_n (pc' := 96) (i := 3) dX8_layForm_95 rfl rfl rfl ?_
  refine ev_imul (pc' := 97) (v := 12) dX8_layForm_96 rfl (by decide) ?_
  refine ev_iload (pc' := 99) dX8_layForm_97 rfl rfl ?_
  refine ev_iadd (pc' := 100) (v := 13) dX8_layForm_99 rfl (by decide) ?_
  refine ev_iald (pc' := 101) (j := 13) (v := (I 133) 13) dX8_layForm_100 rfl hs_133 rfl (Nat.le_of_ble_eq_true rfl) (Nat.le_of_ble_eq_true rfl) rfl ?_
  refine ev_i2l (pc' := 102) (v := Int32.toInt64 ((I 133) 13)) dX8_layForm_101 rfl rfl ?_
  refine ev_goto (tgt := 117) dX8_layForm_102 rfl ?_
  refine ev_last (pc' := 118) (j := 13) (L' := (ma_up (ma_up L 132 (ma_up (ma_up (ma_up (ma_up (ma_up (L 132) 0 0) 1 (0 + (mW (mSel 7 (I 133) (I 134))))) 2 (((0 + (mW (mSel 3 (I 133) (I 134)))) + (mW (mSel 5 (I 133) (I 134)))) + (mW (mSel 6 (I 133) (I 134))))) 3 (((0 + (mW (mSel 1 (I 133) (I 134)))) + (mW (mSel 2 (I 133) (I 134)))) + (mW (mSel 4 (I 133) (I 134))))) 4 (0 + (mW (mSel 0 (I 133) (I 134)))))) 120 (ma_up (ma_up (ma_up (ma_up (ma_up (ma_up (ma_up (ma_up (ma_up (ma_up (ma_up (ma_up (ma_up (ma_up r8 0 (Int32.toInt64 ((I 134) 0))) 1 (Int32.toInt64 ((I 134) 1))) 2 (Int32.toInt64 ((I 134) 2))) 3 (Int32.toInt64 ((I 134) 3))) 4 (Int32.toInt64 ((I 134) 4))) 5 (Int32.toInt64 ((I 134) 5))) 6 (Int32.toInt64 ((I 134) 6))) 7 (Int32.toInt64 ((I 134) 7))) 8 (Int32.toInt64 ((I 134) 8))) 9 (Int32.toInt64 ((I 134) 9))) 10 (Int32.toInt64 ((I 134) 10))) 11 (Int32.toInt64 ((I 134) 11))) 12 (Int32.toInt64 ((I 133) 12))) 13 (Int32.toInt64 ((I 133) 13))))) dX8_layForm_117 rfl hs_120 rfl (Nat.le_of_ble_eq_true rfl) (Nat.le_of_ble_eq_true rfl) (ma_up_up _ _ _ _) ?_
  refine ev_iinc (pc' := 121) (v := 2) (lv' := [some (.ref 115), some (.int 8), some (.int 1), some (.int 3), some (.int 1), some (.int 2)]) dX8_layForm_118 rfl rfl (by decide) (Nat.le_of_ble_eq_true rfl) rfl rfl ?_
  refine ev_goto (tgt := 69) dX8_layForm_121 rfl ?_
  refine ev_iload (pc' := 71) dX8_layForm_69 rfl rfl ?_
  refine ev_iconst (pc' := 72) (v := 4) dX8_layForm_71 rfl ki_4 ?_
  refine ev_icmp_ge (tgt := 124) (pc' := 75) dX8_layForm_72 rfl rfl (fun h => absurd h (by decide)) (fun _ => ?_)
  refine ev_aload_n (pc' := 76) (i := 0) dX8_layForm_75 rfl rfl rfl ?_
  refine ev_getR (pc' := 79) fo_X8_26 dX8_layForm_76 rfl hs_115 rfl rf_115_8 ?_
  refine ev_iconst (pc' := 80) (v := 4) dX8_layForm_79 rfl ki_4 ?_
  refine ev_iload_n (pc' := 81) (i := 3) dX8_layForm_80 rfl rfl rfl ?_
  refine ev_imul (pc' := 82) (v := 12) dX8_layForm_81 rfl (by decide) ?_
  refine ev_iload (pc' := 84) dX8_layForm_82 rfl rfl ?_
  refine ev_iadd (pc' := 85) (v := 14) dX8_layForm_84 rfl (by decide) ?_
  refine ev_iload (pc' := 87) dX8_layForm_85 rfl rfl ?_
  refine ev_if_eq (tgt := 105) (pc' := 90) dX8_layForm_87 rfl rfl (fun h => absurd h (by decide)) (fun _ => ?_)
  refine ev_aload_n (pc' := 91) (i := 0) dX8_layForm_90 rfl rfl rfl ?_
  refine ev_getR (pc' := 94) fo_X8_67 dX8_layForm_91 rfl hs_115 rfl rf_115_24 ?_
  refine ev_iconst (pc' := 95) (v := 4) dX8_layForm_94 rfl ki_4 ?_
  refine ev_iload_n (pc' := 96) (i := 3) dX8_layForm_95 rfl rfl rfl ?_
  refine ev_imul (pc' := 97) (v := 12) dX8_layForm_96 rfl (by decide) ?_
  refine ev_iload (pc' := 99) dX8_layForm_97 rfl rfl ?_
  refine ev_iadd (pc' := 100) (v := 14) dX8_layForm_99 rfl (by decide) ?_
  refine ev_iald (pc' := 101) (j := 14) (v := (I 133) 14) dX8_layForm_100 rfl hs_133 rfl (Nat.le_of_ble_eq_true rfl) (Nat.le_of_ble_eq_true rfl) rfl ?_
  refine ev_i2l (pc' := 102) (v := Int32.toInt64 ((I 133) 14)) dX8_layForm_101 rfl rfl ?_
  refine ev_goto (tgt := 117) dX8_layForm_102 rfl ?_
  refine ev_last (pc' := 118) (j := 14) (L' := (ma_up (ma_up L 132 (ma_up (ma_up (ma_up (ma_up (ma_up (L 132) 0 0) 1 (0 + (mW (mSel 7 (I 133) (I 134))))) 2 (((0 + (mW (mSel 3 (I 133) (I 134)))) + (mW (mSel 5 (I 133) (I 134)))) + (mW (mSel 6 (I 133) (I 134))))) 3 (((0 + (mW (mSel 1 (I 133) (I 134)))) + (mW (mSel 2 (I 133) (I 134)))) + (mW (mSel 4 (I 133) (I 134))))) 4 (0 + (mW (mSel 0 (I 133) (I 134)))))) 120 (ma_up (ma_up (ma_up (ma_up (ma_up (ma_up (ma_up (ma_up (ma_up (ma_up (ma_up (ma_up (ma_up (ma_up (ma_up r8 0 (Int32.toInt64 ((I 134) 0))) 1 (Int32.toInt64 ((I 134) 1))) 2 (Int32.toInt64 ((I 134) 2))) 3 (Int32.toInt64 ((I 134) 3))) 4 (Int32.toInt64 ((I 134) 4))) 5 (Int32.toInt64 ((I 134) 5))) 6 (Int32.toInt64 ((I 134) 6))) 7 (Int32.toInt64 ((I 134) 7))) 8 (Int32.toInt64 ((I 134) 8))) 9 (Int32.toInt64 ((I 134) 9))) 10 (Int32.toInt64 ((I 134) 10))) 11 (Int32.toInt64 ((I 134) 11))) 12 (Int32.toInt64 ((I 133) 12))) 13 (Int32.toInt64 ((I 133) 13))) 14 (Int32.toInt64 ((I 133) 14))))) dX8_layForm_117 rfl hs_120 rfl (Nat.le_of_ble_eq_true rfl) (Nat.le_of_ble_eq_true rfl) (ma_up_up _ _ _ _) ?_
  refine ev_iinc (pc' := 121) (v := 3) (lv' := [some (.ref 115), some (.int 8), some (.int 1), some (.int 3), some (.int 1), some (.int 3)]) dX8_layForm_118 rfl rfl (by decide) (Nat.le_of_ble_eq_true rfl) rfl rfl ?_
  refine ev_goto (tgt := 69) dX8_layForm_121 rfl ?_
  refine ev_iload (pc' := 71) dX8_layForm_69 rfl rfl ?_
  refine ev_iconst (pc' := 72) (v := 4) dX8_layForm_71 rfl ki_4 ?_
  refine ev_icmp_ge (tgt := 124) (pc' := 75) dX8_layForm_72 rfl rfl (fun h => absurd h (by decide)) (fun _ => ?_)
  refine ev_aload_n (pc' := 76) (i := 0) dX8_layForm_75 rfl rfl rfl ?_
  refine ev_getR (pc' := 79) fo_X8_26 dX8_layForm_76 rfl hs_115 rfl rf_115_8 ?_
  refine ev_iconst (pc' := 80) (v := 4) dX8_layForm_79 rfl ki_4 ?_
  refine ev_iload_n (pc' := 81) (i := 3) dX8_layForm_80 rfl rfl rfl ?_
  refine ev_imul (pc' := 82) (v := 12) dX8_layForm_81 rfl (by decide) ?_
  refine ev_iload (pc' := 84) dX8_layForm_82 rfl rfl ?_
  refine ev_iadd (pc' := 85) (v := 15) dX8_layForm_84 rfl (by decide) ?_
  refine ev_iload (pc' := 87) dX8_layForm_85 rfl rfl ?_
  refine ev_if_eq (tgt := 105) (pc' := 90) dX8_layForm_87 rfl rfl (fun h => absurd h (by decide)) (fun _ => ?_)
  refine ev_aload_n (pc' := 91) (i := 0) dX8_layForm_90 rfl rfl rfl ?_
  refine ev_getR (pc' := 94) fo_X8_67 dX8_layForm_91 rfl hs_115 rfl rf_115_24 ?_
  refine ev_iconst (pc' := 95) (v := 4) dX8_layForm_94 rfl ki_4 ?_
  refine ev_iload_n (pc' := 96) (i := 3) dX8_layForm_95 rfl rfl rfl ?_
  refine ev_imul (pc' := 97) (v := 12) dX8_layForm_96 rfl (by decide) ?_
  refine ev_iload (pc' := 99) dX8_layForm_97 rfl rfl ?_
  refine ev_iadd (pc' := 100) (v := 15) dX8_layForm_99 rfl (by decide) ?_
  refine ev_iald (pc' := 101) (j := 15) (v := (I 133) 15) dX8_layForm_100 rfl hs_133 rfl (Nat.le_of_ble_eq_true rfl) (Nat.le_of_ble_eq_true rfl) rfl ?_
  refine ev_i2l (pc' := 102) (v := Int32.toInt64 ((I 133) 15)) dX8_layForm_101 rfl rfl ?_
  refine ev_goto (tgt := 117) dX8_layForm_102 rfl ?_
  refine ev_last (pc' := 118) (j := 15) (L' := (ma_up (ma_up L 132 (ma_up (ma_up (ma_up (ma_up (ma_up (L 132) 0 0) 1 (0 + (mW (mSel 7 (I 133) (I 134))))) 2 (((0 + (mW (mSel 3 (I 133) (I 134)))) + (mW (mSel 5 (I 133) (I 134)))) + (mW (mSel 6 (I 133) (I 134))))) 3 (((0 + (mW (mSel 1 (I 133) (I 134)))) + (mW (mSel 2 (I 133) (I 134)))) + (mW (mSel 4 (I 133) (I 134))))) 4 (0 + (mW (mSel 0 (I 133) (I 134)))))) 120 (ma_up (ma_up (ma_up (ma_up (ma_up (ma_up (ma_up (ma_up (ma_up (ma_up (ma_up (ma_up (ma_up (ma_up (ma_up (ma_up r8 0 (Int32.toInt64 ((I 134) 0))) 1 (Int32.toInt64 ((I 134) 1))) 2 (Int32.toInt64 ((I 134) 2))) 3 (Int32.toInt64 ((I 134) 3))) 4 (Int32.toInt64 ((I 134) 4))) 5 (Int32.toInt64 ((I 134) 5))) 6 (Int32.toInt64 ((I 134) 6))) 7 (Int32.toInt64 ((I 134) 7))) 8 (Int32.toInt64 ((I 134) 8))) 9 (Int32.toInt64 ((I 134) 9))) 10 (Int32.toInt64 ((I 134) 10))) 11 (Int32.toInt64 ((I 134) 11))) 12 (Int32.toInt64 ((I 133) 12))) 13 (Int32.toInt64 ((I 133) 13))) 14 (Int32.toInt64 ((I 133) 14))) 15 (Int32.toInt64 ((I 133) 15))))) dX8_layForm_117 rfl hs_120 rfl (Nat.le_of_ble_eq_true rfl) (Nat.le_of_ble_eq_true rfl) (ma_up_up _ _ _ _) ?_
  refine ev_iinc (pc' := 121) (v := 4) (lv' := [some (.ref 115), some (.int 8), some (.int 1), some (.int 3), some (.int 1), some (.int 4)]) dX8_layForm_118 rfl rfl (by decide) (Nat.le_of_ble_eq_true rfl) rfl rfl ?_
  refine ev_goto (tgt := 69) dX8_layForm_121 rfl ?_
  refine ev_iload (pc' := 71) dX8_layForm_69 rfl rfl ?_
  refine ev_iconst (pc' := 72) (v := 4) dX8_layForm_71 rfl ki_4 ?_
  refine ev_icmp_ge (tgt := 124) (pc' := 75) dX8_layForm_72 rfl rfl (fun _ => ?_) (fun h => absurd (by decide) h)
  refine ev_iinc (pc' := 127) (v := 4) (lv' := [some (.ref 115), some (.int 8), some (.int 1), some (.int 4), some (.int 1), some (.int 4)]) dX8_layForm_124 rfl rfl (by decide) (Nat.le_of_ble_eq_true rfl) rfl rfl ?_
  refine ev_goto (tgt := 32) dX8_layForm_127 rfl ?_
  refine ev_iload_n (pc' := 33) (i := 3) dX8_layForm_32 rfl rfl rfl ?_
  refine ev_iconst (pc' := 34) (v := 4) dX8_layForm_33 rfl ki_4 ?_
  refine ev_icmp_ge (tgt := 130) (pc' := 37) dX8_layForm_34 rfl rfl (fun _ => ?_) (fun h => absurd (by decide) h)
  refine ev_aload_n (pc' := 131) (i := 0) dX8_layForm_130 rfl rfl rfl ?_
  refine ev_getR (pc' := 134) fo_X8_64 dX8_layForm_131 rfl hs_115 rfl rf_115_23 ?_
  refine ev_iconst (pc' := 135) (v := 4) dX8_layForm_134 rfl ki_4 ?_
  refine ev_iload_n (pc' := 136) (i := 2) dX8_layForm_135 rfl rfl rfl ?_
  refine ev_isub (pc' := 137) (v := 3) dX8_layForm_136 rfl (by decide) ?_
  refine ev_dup2 (pc' := 138) dX8_layForm_137 rfl rfl rfl ?_
  refine ev_lald (pc' := 139) (j := 3) (v := ((0 + (mW (mSel 1 (I 133) (I 134)))) + (mW (mSel 2 (I 133) (I 134)))) + (mW (mSel 4 (I 133) (I 134)))) dX8_layForm_138 rfl hs_132 rfl (Nat.le_of_ble_eq_true rfl) (Nat.le_of_ble_eq_true rfl) rfl ?_
  refine ev_aload_n (pc' := 140) (i := 0) dX8_layForm_139 rfl rfl rfl ?_
  refine ev_getR (pc' := 143) fo_X8_26 dX8_layForm_140 rfl hs_115 rfl rf_115_8 ?_
  refine ev_callS (pc' := 146) (rm' := rX8_worthOf) (av := [.ref 120]) (rest := [.long (((0 + (mW (mSel 1 (I 133) (I 134)))) + (mW (mSel 2 (I 133) (I 134)))) + (mW (mSel 4 (I 133) (I 134)))), .int 3, .ref 132]) co_X8_173 cs_X8_worthOf dX8_layForm_143 rfl rfl rfl (Nat.le_of_ble_eq_true rfl) ⟨(Nat.le_of_ble_eq_true rfl), (Nat.le_of_ble_eq_true rfl)⟩ ⟨(Nat.le_of_ble_eq_true rfl), (Nat.le_of_ble_eq_true rfl)⟩ ?_
  refine t_X8_worthOf 120 hs_120 ?_
  refine ev_eql (w := mW (mSel 8 (I 133) (I 134))) rfl ?_
  refine ev_ladd (pc' := 147) (v := (((0 + (mW (mSel 1 (I 133) (I 134)))) + (mW (mSel 2 (I 133) (I 134)))) + (mW (mSel 4 (I 133) (I 134)))) + (mW (mSel 8 (I 133) (I 134)))) dX8_layForm_146 rfl rfl ?_
  refine ev_last (pc' := 148) (j := 3) (L' := (ma_up (ma_up L 132 (ma_up (ma_up (ma_up (ma_up (ma_up (L 132) 0 0) 1 (0 + (mW (mSel 7 (I 133) (I 134))))) 2 (((0 + (mW (mSel 3 (I 133) (I 134)))) + (mW (mSel 5 (I 133) (I 134)))) + (mW (mSel 6 (I 133) (I 134))))) 3 ((((0 + (mW (mSel 1 (I 133) (I 134)))) + (mW (mSel 2 (I 133) (I 134)))) + (mW (mSel 4 (I 133) (I 134)))) + (mW (mSel 8 (I 133) (I 134))))) 4 (0 + (mW (mSel 0 (I 133) (I 134)))))) 120 (ma_up (ma_up (ma_up (ma_up (ma_up (ma_up (ma_up (ma_up (ma_up (ma_up (ma_up (ma_up (ma_up (ma_up (ma_up (ma_up r8 0 (Int32.toInt64 ((I 134) 0))) 1 (Int32.toInt64 ((I 134) 1))) 2 (Int32.toInt64 ((I 134) 2))) 3 (Int32.toInt64 ((I 134) 3))) 4 (Int32.toInt64 ((I 134) 4))) 5 (Int32.toInt64 ((I 134) 5))) 6 (Int32.toInt64 ((I 134) 6))) 7 (Int32.toInt64 ((I 134) 7))) 8 (Int32.toInt64 ((I 134) 8))) 9 (Int32.toInt64 ((I 134) 9))) 10 (Int32.toInt64 ((I 134) 10))) 11 (Int32.toInt64 ((I 134) 11))) 12 (Int32.toInt64 ((I 133) 12))) 13 (Int32.toInt64 ((I 133) 13))) 14 (Int32.toInt64 ((I 133) 14))) 15 (Int32.toInt64 ((I 133) 15))))) dX8_layForm_147 rfl hs_132 rfl (Nat.le_of_ble_eq_true rfl) (Nat.le_of_ble_eq_true rfl) ((congrArg (ma_up _ 132) ((ma_up_comm _ (show 3 ≠ 4 from (by decide)) _ _).trans (congrArg (fun f => ma_up f 4 _) (ma_up_up _ _ _ _)))).trans ((ma_up_comm _ (show 132 ≠ 120 from (by decide)) _ _).trans (congrArg (fun f => ma_up f 120 _) (ma_up_up _ _ _ _)))) ?_
  refine ev_iinc (pc' := 151) (v := 9) (lv' := [some (.ref 115), some (.int 9), some (.int 1), some (.int 4), some (.int 1), some (.int 4)]) dX8_layForm_148 rfl rfl (by decide) (Nat.le_of_ble_eq_true rfl) rfl rfl ?_
  refine ev_goto (tgt := 22) dX8_layForm_151 rfl ?_
  refine ev_rowL (fun r9 => ?_)
  refine ev_iload_n (pc' := 23) (i := 1) dX8_layForm_22 rfl rfl rfl ?_
  refine ev_bipush (pc' := 25) (v := 16) dX8_layForm_23 rfl kb_16 ?_
  refine ev_icmp_ge (tgt := 154) (pc' := 28) dX8_layForm_25 rfl rfl (fun h => absurd h (by decide)) (fun _ => ?_)
  refine ev_iconst (pc' := 29) (v := 0) dX8_layForm_28 rfl ki_0 ?_
  refine ev_istore_n (pc' := 30) (i := 2) (lv' := [some (.ref 115), some (.int 9), some (.int 0), some (.int 4), some (.int 1), some (.int 4)]) dX8_layForm_29 rfl rfl (Nat.le_of_ble_eq_true rfl) rfl rfl ?_
  refine ev_iconst (pc' := 31) (v := 0) dX8_layForm_30 rfl ki_0 ?_
  refine ev_istore_n (pc' := 32) (i := 3) (lv' := [some (.ref 115), some (.int 9), some (.int 0), some (.int 0), some (.int 1), some (.int 4)]) dX8_layForm_31 rfl rfl (Nat.le_of_ble_eq_true rfl) rfl rfl ?_
  refine ev_iload_n (pc' := 33) (i := 3) dX8_layForm_32 rfl rfl rfl ?_
  refine ev_iconst (pc' := 34) (v := 4) dX8_layForm_33 rfl ki_4 ?_
  refine ev_icmp_ge (tgt := 130) (pc' := 37) dX8_layForm_34 rfl rfl (fun h => absurd h (by decide)) (fun _ => ?_)
  refine ev_iload_n (pc' := 38) (i := 1) dX8_layForm_37 rfl rfl rfl ?_
  refine ev_iload_n (pc' := 39) (i := 3) dX8_layForm_38 rfl rfl rfl ?_
  refine ev_ishr (pc' := 40) (v := 9) dX8_layForm_39 rfl (by decide) ?_
  refine ev_iconst (pc' := 41) (v := 1) dX8_layForm_40 rfl ki_1 ?_
  refine ev_iand (pc' := 42) (v := 1) dX8_layForm_41 rfl (by decide) ?_
  refine ev_iconst (pc' := 43) (v := 1) dX8_layForm_42 rfl ki_1 ?_
  refine ev_icmp_ne (tgt := 50) (pc' := 46) dX8_layForm_43 rfl rfl (fun h => absurd (by decide) h) (fun _ => ?_)
  refine ev_iconst (pc' := 47) (v := 1) dX8_layForm_46 rfl ki_1 ?_
  refine ev_goto (tgt := 51) dX8_layForm_47 rfl ?_
  refine ev_istore (pc' := 53) (lv' := [some (.ref 115), some (.int 9), some (.int 0), some (.int 0), some (.int 1), some (.int 4)]) dX8_layForm_51 rfl (Nat.le_of_ble_eq_true rfl) rfl rfl ?_
  refine ev_iload_n (pc' := 54) (i := 2) dX8_layForm_53 rfl rfl rfl ?_
  refine ev_iload (pc' := 56) dX8_layForm_54 rfl rfl ?_
  refine ev_if_eq (tgt := 63) (pc' := 59) dX8_layForm_56 rfl rfl (fun h => absurd h (by decide)) (fun _ => ?_)
  refine ev_iconst (pc' := 60) (v := 1) dX8_layForm_59 rfl ki_1 ?_
  refine ev_goto (tgt := 64) dX8_layForm_60 rfl ?_
  refine ev_iadd (pc' := 65) (v := 1) dX8_layForm_64 rfl (by decide) ?_
  refine ev_istore_n (pc' := 66) (i := 2) (lv' := [some (.ref 115), some (.int 9), some (.int 1), some (.int 0), some (.int 1), some (.int 4)]) dX8_layForm_65 rfl rfl (Nat.le_of_ble_eq_true rfl) rfl rfl ?_
  refine ev_iconst (pc' := 67) (v := 0) dX8_layForm_66 rfl ki_0 ?_
  refine ev_istore (pc' := 69) (lv' := [some (.ref 115), some (.int 9), some (.int 1), some (.int 0), some (.int 1), some (.int 0)]) dX8_layForm_67 rfl (Nat.le_of_ble_eq_true rfl) rfl rfl ?_
  refine ev_iload (pc' := 71) dX8_layForm_69 rfl rfl ?_
  refine ev_iconst (pc' := 72) (v := 4) dX8_layForm_71 rfl ki_4 ?_
  refine ev_icmp_ge (tgt := 124) (pc' := 75) dX8_layForm_72 rfl rfl (fun h => absurd h (by decide)) (fun _ => ?_)
  refine ev_aload_n (pc' := 76) (i := 0) dX8_layForm_75 rfl rfl rfl ?_
  refine ev_getR (pc' := 79) fo_X8_26 dX8_layForm_76 rfl hs_115 rfl rf_115_8 ?_
  refine ev_iconst (pc' := 80) (v := 4) dX8_layForm_79 rfl ki_4 ?_
  refine ev_iload_n (pc' := 81) (i := 3) dX8_layForm_80 rfl rfl rfl ?_
  refine ev_imul (pc' := 82) (v := 0) dX8_layForm_81 rfl (by decide) ?_
  refine ev_iload (pc' := 84) dX8_layForm_82 rfl rfl ?_
  refine ev_iadd (pc' := 85) (v := 0) dX8_layForm_84 rfl (by decide) ?_
  refine ev_iload (pc' := 87) dX8_layForm_85 rfl rfl ?_
  refine ev_if_eq (tgt := 105) (pc' := 90) dX8_layForm_87 rfl rfl (fun h => absurd h (by decide)) (fun _ => ?_)
  refine ev_aload_n (pc' := 91) (i := 0) dX8_layForm_90 rfl rfl rfl ?_
  refine ev_getR (pc' := 94) fo_X8_67 dX8_layForm_91 rfl hs_115 rfl rf_115_24 ?_
  refine ev_iconst (pc' := 95) (v := 4) dX8_layForm_94 rfl ki_4 ?_
  refine ev_iload_n (pc' := 96) (i := 3) dX8_layForm_95 rfl rfl rfl ?_
  refine ev_imul (pc' := 97) (v := 0) dX8_layForm_96 rfl (by decide) ?_
  refine ev_iload (pc' := 99) dX8_layForm_97 rfl rfl ?_
  refine ev_iadd (pc' := 100) (v := 0) dX8_layForm_99 rfl (by decide) ?_
  refine ev_iald (pc' := 101) (j := 0) (v := (I 133) 0) dX8_layForm_100 rfl hs_133 rfl (Nat.le_of_ble_eq_true rfl) (Nat.le_of_ble_eq_true rfl) rfl ?_
  refine ev_i2l (pc' := 102) (v := Int32.toInt64 ((I 133) 0)) dX8_layForm_101 rfl rfl ?_
  refine ev_goto (tgt := 117) dX8_layForm_102 rfl ?_
  refine ev_last (pc' := 118) (j := 0) (L' := (ma_up (ma_up L 132 (ma_up (ma_up (ma_up (ma_up (ma_up (L 132) 0 0) 1 (0 + (mW (mSel 7 (I 133) (I 134))))) 2 (((0 + (mW (mSel 3 (I 133) (I 134)))) + (mW (mSel 5 (I 133) (I 134)))) + (mW (mSel 6 (I 133) (I 134))))) 3 ((((0 + (mW (mSel 1 (I 133) (I 134)))) + (mW (mSel 2 (I 133) (I 134)))) + (mW (mSel 4 (I 133) (I 134)))) + (mW (mSel 8 (I 133) (I 134))))) 4 (0 + (mW (mSel 0 (I 133) (I 134)))))) 120 (ma_up r9 0 (Int32.toInt64 ((I 133) 0))))) dX8_layForm_117 rfl hs_120 rfl (Nat.le_of_ble_eq_true rfl) (Nat.le_of_ble_eq_true rfl) (ma_up_up _ _ _ _) ?_
  refine ev_iinc (pc' := 121) (v := 1) (lv' := [some (.ref 115), some (.int 9), some (.int 1), some (.int 0), some (.int 1), some (.int 1)]) dX8_layForm_118 rfl rfl (by decide) (Nat.le_of_ble_eq_true rfl) rfl rfl ?_
  refine ev_goto (tgt := 69) dX8_layForm_121 rfl ?_
  refine ev_iload (pc' := 71) dX8_layForm_69 rfl rfl ?_
  refine ev_iconst (pc' := 72) (v := 4) dX8_layForm_71 rfl ki_4 ?_
  refine ev_icmp_ge (tgt := 124) (pc' := 75) dX8_layForm_72 rfl rfl (fun h => absurd h (by decide)) (fun _ => ?_)
  refine ev_aload_n (pc' := 76) (i := 0) dX8_layForm_75 rfl rfl rfl ?_
  refine ev_getR (pc' := 79) fo_X8_26 dX8_layForm_76 rfl hs_115 rfl rf_115_8 ?_
  refine ev_iconst (pc' := 80) (v := 4) dX8_layForm_79 rfl ki_4 ?_
  refine ev_iload_n (pc' := 81) (i := 3) dX8_layForm_80 rfl rfl rfl ?_
  refine ev_imul (pc' := 82) (v := 0) dX8_layForm_81 rfl (by decide) ?_
  refine ev_iload (pc' := 84) dX8_layForm_82 rfl rfl ?_
  refine ev_iadd (pc' := 85) (v := 1) dX8_layForm_84 rfl (by decide) ?_
  refine ev_iload (pc' := 87) dX8_layForm_85 rfl rfl ?_
  refine ev_if_eq (tgt := 105) (pc' := 90) dX8_layForm_87 rfl rfl (fun h => absurd h (by decide)) (fun _ => ?_)
  refine ev_aload_n (pc' := 91) (i := 0) dX8_layForm_90 rfl rfl rfl ?_
  refine ev_getR (pc' := 94) fo_X8_67 dX8_layForm_91 rfl hs_115 rfl rf_115_24 ?_
  refine ev_iconst (pc' := 95) (v := 4) dX8_layForm_94 rfl ki_4 ?_
  refine ev_iload_n (pc' := 96) (i := 3) dX8_layForm_95 rfl rfl rfl ?_
  refine ev_imul (pc' := 97) (v := 0) dX8_layForm_96 rfl (by decide) ?_
  refine ev_iload (pc' := 99) dX8_layForm_97 rfl rfl ?_
  refine ev_iadd (pc' := 100) (v := 1) dX8_layForm_99 rfl (by decide) ?_
  refine ev_iald (pc' := 101) (j := 1) (v := (I 133) 1) dX8_layForm_100 rfl hs_133 rfl (Nat.le_of_ble_eq_true rfl) (Nat.le_of_ble_eq_true rfl) rfl ?_
  refine ev_i2l (pc' := 102) (v := Int32.toInt64 ((I 133) 1)) dX8_layForm_101 rfl rfl ?_
  refine ev_goto (tgt := 117) dX8_layForm_102 rfl ?_
  refine ev_last (pc' := 118) (j := 1) (L' := (ma_up (ma_up L 132 (ma_up (ma_up (ma_up (ma_up (ma_up (L 132) 0 0) 1 (0 + (mW (mSel 7 (I 133) (I 134))))) 2 (((0 + (mW (mSel 3 (I 133) (I 134)))) + (mW (mSel 5 (I 133) (I 134)))) + (mW (mSel 6 (I 133) (I 134))))) 3 ((((0 + (mW (mSel 1 (I 133) (I 134)))) + (mW (mSel 2 (I 133) (I 134)))) + (mW (mSel 4 (I 133) (I 134)))) + (mW (mSel 8 (I 133) (I 134))))) 4 (0 + (mW (mSel 0 (I 133) (I 134)))))) 120 (ma_up (ma_up r9 0 (Int32.toInt64 ((I 133) 0))) 1 (Int32.toInt64 ((I 133) 1))))) dX8_layForm_117 rfl hs_120 rfl (Nat.le_of_ble_eq_true rfl) (Nat.le_of_ble_eq_true rfl) (ma_up_up _ _ _ _) ?_
  refine ev_iinc (pc' := 121) (v := 2) (lv' := [some (.ref 115), some (.int 9), some (.int 1), some (.int 0), some (.int 1), some (.int 2)]) dX8_layForm_118 rfl rfl (by decide) (Nat.le_of_ble_eq_true rfl) rfl rfl ?_
  refine ev_goto (tgt := 69) dX8_layForm_121 rfl ?_
  refine ev_iload (pc' := 71) dX8_layForm_69 rfl rfl ?_
  refine ev_iconst (pc' := 72) (v := 4) dX8_layForm_71 rfl ki_4 ?_
  refine ev_icmp_ge (tgt := 124) (pc' := 75) dX8_layForm_72 rfl rfl (fun h => absurd h (by decide)) (fun _ => ?_)
  refine ev_aload_n (pc' := 76) (i := 0) dX8_layForm_75 rfl rfl rfl ?_
  refine ev_getR (pc' := 79) fo_X8_26 dX8_layForm_76 rfl hs_115 rfl rf_115_8 ?_
  refine ev_iconst (pc' := 80) (v := 4) dX8_layForm_79 rfl ki_4 ?_
  refine ev_iload_n (pc' := 81) (i := 3) dX8_layForm_80 rfl rfl rfl ?_
  refine ev_imul (pc' := 82) (v := 0) dX8_layForm_81 rfl (by decide) ?_
  refine ev_iload (pc' := 84) dX8_layForm_82 rfl rfl ?_
  refine ev_iadd (pc' := 85) (v := 2) dX8_layForm_84 rfl (by decide) ?_
  refine ev_iload (pc' := 87) dX8_layForm_85 rfl rfl ?_
  refine ev_if_eq (tgt := 105) (pc' := 90) dX8_layForm_87 rfl rfl (fun h => absurd h (by decide)) (fun _ => ?_)
  refine ev_aload_n (pc' := 91) (i := 0) dX8_layForm_90 rfl rfl rfl ?_
  refine ev_getR (pc' := 94) fo_X8_67 dX8_layForm_91 rfl hs_115 rfl rf_115_24 ?_
  refine ev_iconst (pc' := 95) (v := 4) dX8_layForm_94 rfl ki_4 ?_
  refine ev_iload_n (pc' := 96) (i := 3) dX8_layForm_95 rfl rfl rfl ?_
  refine ev_imul (pc' := 97) (v := 0) dX8_layForm_96 rfl (by decide) ?_
  refine ev_iload (pc' := 99) dX8_layForm_97 rfl rfl ?_
  refine ev_iadd (pc' := 100) (v := 2) dX8_layForm_99 rfl (by decide) ?_
  refine ev_iald (pc' := 101) (j := 2) (v := (I 133) 2) dX8_layForm_100 rfl hs_133 rfl (Nat.le_of_ble_eq_true rfl) (Nat.le_of_ble_eq_true rfl) rfl ?_
  refine ev_i2l (pc' := 102) (v := Int32.toInt64 ((I 133) 2)) dX8_layForm_101 rfl rfl ?_
  refine ev_goto (tgt := 117) dX8_layForm_102 rfl ?_
  refine ev_last (pc' := 118) (j := 2) (L' := (ma_up (ma_up L 132 (ma_up (ma_up (ma_up (ma_up (ma_up (L 132) 0 0) 1 (0 + (mW (mSel 7 (I 133) (I 134))))) 2 (((0 + (mW (mSel 3 (I 133) (I 134)))) + (mW (mSel 5 (I 133) (I 134)))) + (mW (mSel 6 (I 133) (I 134))))) 3 ((((0 + (mW (mSel 1 (I 133) (I 134)))) + (mW (mSel 2 (I 133) (I 134)))) + (mW (mSel 4 (I 133) (I 134)))) + (mW (mSel 8 (I 133) (I 134))))) 4 (0 + (mW (mSel 0 (I 133) (I 134)))))) 120 (ma_up (ma_up (ma_up r9 0 (Int32.toInt64 ((I 133) 0))) 1 (Int32.toInt64 ((I 133) 1))) 2 (Int32.toInt64 ((I 133) 2))))) dX8_layForm_117 rfl hs_120 rfl (Nat.le_of_ble_eq_true rfl) (Nat.le_of_ble_eq_true rfl) (ma_up_up _ _ _ _) ?_
  refine ev_iinc (pc' := 121) (v := 3) (lv' := [some (.ref 115), some (.int 9), some (.int 1), some (.int 0), some (.int 1), some (.int 3)]) dX8_layForm_118 rfl rfl (by decide) (Nat.le_of_ble_eq_true rfl) rfl rfl ?_
  refine ev_goto (tgt := 69) dX8_layForm_121 rfl ?_
  refine ev_iload (pc' := 71) dX8_layForm_69 rfl rfl ?_
  refine ev_iconst (pc' := 72) (v := 4) dX8_layForm_71 rfl ki_4 ?_
  refine ev_icmp_ge (tgt := 124) (pc' := 75) dX8_layForm_72 rfl rfl (fun h => absurd h (by decide)) (fun _ => ?_)
  refine ev_aload_n (pc' := 76) (i := 0) dX8_layForm_75 rfl rfl rfl ?_
  refine ev_getR (pc' := 79) fo_X8_26 dX8_layForm_76 rfl hs_115 rfl rf_115_8 ?_
  refine ev_iconst (pc' := 80) (v := 4) dX8_layForm_79 rfl ki_4 ?_
  refine ev_iload_n (pc' := 81) (i := 3) dX8_layForm_80 rfl rfl rfl ?_
  refine ev_imul (pc' := 82) (v := 0) dX8_layForm_81 rfl (by decide) ?_
  refine ev_iload (pc' := 84) dX8_layForm_82 rfl rfl ?_
  refine ev_iadd (pc' := 85) (v := 3) dX8_layForm_84 rfl (by decide) ?_
  refine ev_iload (pc' := 87) dX8_layForm_85 rfl rfl ?_
  refine ev_if_eq (tgt := 105) (pc' := 90) dX8_layForm_87 rfl rfl (fun h => absurd h (by decide)) (fun _ => ?_)
  refine ev_aload_n (pc' := 91) (i := 0) dX8_layForm_90 rfl rfl rfl ?_
  refine ev_getR (pc' := 94) fo_X8_67 dX8_layForm_91 rfl hs_115 rfl rf_115_24 ?_
  refine ev_iconst (pc' := 95) (v := 4) dX8_layForm_94 rfl ki_4 ?_
  refine ev_iload_n (pc' := 96) (i := 3) dX8_layForm_95 rfl rfl rfl ?_
  refine ev_imul (pc' := 97) (v := 0) dX8_layForm_96 rfl (by decide) ?_
  refine ev_iload (pc' := 99) dX8_layForm_97 rfl rfl ?_
  refine ev_iadd (pc' := 100) (v := 3) dX8_layForm_99 rfl (by decide) ?_
  refine ev_iald (pc' := 101) (j := 3) (v := (I 133) 3) dX8_layForm_100 rfl hs_133 rfl (Nat.le_of_ble_eq_true rfl) (Nat.le_of_ble_eq_true rfl) rfl ?_
  refine ev_i2l (pc' := 102) (v := Int32.toInt64 ((I 133) 3)) dX8_layForm_101 rfl rfl ?_
  refine ev_goto (tgt := 117) dX8_layForm_102 rfl ?_
  refine ev_last (pc' := 118) (j := 3) (L' := (ma_up (ma_up L 132 (ma_up (ma_up (ma_up (ma_up (ma_up (L 132) 0 0) 1 (0 + (mW (mSel 7 (I 133) (I 134))))) 2 (((0 + (mW (mSel 3 (I 133) (I 134)))) + (mW (mSel 5 (I 133) (I 134)))) + (mW (mSel 6 (I 133) (I 134))))) 3 ((((0 + (mW (mSel 1 (I 133) (I 134)))) + (mW (mSel 2 (I 133) (I 134)))) + (mW (mSel 4 (I 133) (I 134)))) + (mW (mSel 8 (I 133) (I 134))))) 4 (0 + (mW (mSel 0 (I 133) (I 134)))))) 120 (ma_up (ma_up (ma_up (ma_up r9 0 (Int32.toInt64 ((I 133) 0))) 1 (Int32.toInt64 ((I 133) 1))) 2 (Int32.toInt64 ((I 133) 2))) 3 (Int32.toInt64 ((I 133) 3))))) dX8_layForm_117 rfl hs_120 rfl (Nat.le_of_ble_eq_true rfl) (Nat.le_of_ble_eq_true rfl) (ma_up_up _ _ _ _) ?_
  refine ev_iinc (pc' := 121) (v := 4) (lv' := [some (.ref 115), some (.int 9), some (.int 1), some (.int 0), some (.int 1), some (.int 4)]) dX8_layForm_118 rfl rfl (by decide) (Nat.le_of_ble_eq_true rfl) rfl rfl ?_
  refine ev_goto (tgt := 69) dX8_layForm_121 rfl ?_
  refine ev_iload (pc' := 71) dX8_layForm_69 rfl rfl ?_
  refine ev_iconst (pc' := 72) (v := 4) dX8_layForm_71 rfl ki_4 ?_
  refine ev_icmp_ge (tgt := 124) (pc' := 75) dX8_layForm_72 rfl rfl (fun _ => ?_) (fun h => absurd (by decide) h)
  refine ev_iinc (pc' := 127) (v := 1) (lv' := [some (.ref 115), some (.int 9), some (.int 1), some (.int 1), some (.int 1), some (.int 4)]) dX8_layForm_124 rfl rfl (by decide) (Nat.le_of_ble_eq_true rfl) rfl rfl ?_
  refine ev_goto (tgt := 32) dX8_layForm_127 rfl ?_
  refine ev_iload_n (pc' := 33) (i := 3) dX8_layForm_32 rfl rfl rfl ?_
  refine ev_iconst (pc' := 34) (v := 4) dX8_layForm_33 rfl ki_4 ?_
  refine ev_icmp_ge (tgt := 130) (pc' := 37) dX8_layForm_34 rfl rfl (fun h => absurd h (by decide)) (fun _ => ?_)
  refine ev_iload_n (pc' := 38) (i := 1) dX8_layForm_37 rfl rfl rfl ?_
  refine ev_iload_n (pc' := 39) (i := 3) dX8_layForm_38 rfl rfl rfl ?_
  refine ev_ishr (pc' := 40) (v := 4) dX8_layForm_39 rfl (by decide) ?_
  refine ev_iconst (pc' := 41) (v := 1) dX8_layForm_40 rfl ki_1 ?_
  refine ev_iand (pc' := 42) (v := 0) dX8_layForm_41 rfl (by decide) ?_
  refine ev_iconst (pc' := 43) (v := 1) dX8_layForm_42 rfl ki_1 ?_
  refine ev_icmp_ne (tgt := 50) (pc' := 46) dX8_layForm_43 rfl rfl (fun _ => ?_) (fun h => absurd h (by decide))
  refine ev_iconst (pc' := 51) (v := 0) dX8_layForm_50 rfl ki_0 ?_
  refine ev_istore (pc' := 53) (lv' := [some (.ref 115), some (.int 9), some (.int 1), some (.int 1), some (.int 0), some (.int 4)]) dX8_layForm_51 rfl (Nat.le_of_ble_eq_true rfl) rfl rfl ?_
  refine ev_iload_n (pc' := 54) (i := 2) dX8_layForm_53 rfl rfl rfl ?_
  refine ev_iload (pc' := 56) dX8_layForm_54 rfl rfl ?_
  refine ev_if_eq (tgt := 63) (pc' := 59) dX8_layForm_56 rfl rfl (fun _ => ?_) (fun h => absurd (by decide) h)
  refine ev_iconst (pc' := 64) (v := 0) dX8_layForm_63 rfl ki_0 ?_
  refine ev_iadd (pc' := 65) (v := 1) dX8_layForm_64 rfl (by decide) ?_
  refine ev_istore_n (pc' := 66) (i := 2) (lv' := [some (.ref 115), some (.int 9), some (.int 1), some (.int 1), some (.int 0), some (.int 4)]) dX8_layForm_65 rfl rfl (Nat.le_of_ble_eq_true rfl) rfl rfl ?_
  refine ev_iconst (pc' := 67) (v := 0) dX8_layForm_66 rfl ki_0 ?_
  refine ev_istore (pc' := 69) (lv' := [some (.ref 115), some (.int 9), some (.int 1), some (.int 1), some (.int 0), some (.int 0)]) dX8_layForm_67 rfl (Nat.le_of_ble_eq_true rfl) rfl rfl ?_
  refine ev_iload (pc' := 71) dX8_layForm_69 rfl rfl ?_
  refine ev_iconst (pc' := 72) (v := 4) dX8_layForm_71 rfl ki_4 ?_
  refine ev_icmp_ge (tgt := 124) (pc' := 75) dX8_layForm_72 rfl rfl (fun h => absurd h (by decide)) (fun _ => ?_)
  refine ev_aload_n (pc' := 76) (i := 0) dX8_layForm_75 rfl rfl rfl ?_
  refine ev_getR (pc' := 79) fo_X8_26 dX8_layForm_76 rfl hs_115 rfl rf_115_8 ?_
  refine ev_iconst (pc' := 80) (v := 4) dX8_layForm_79 rfl ki_4 ?_
  refine ev_iload_n (pc' := 81) (i := 3) dX8_layForm_80 rfl rfl rfl ?_
  refine ev_imul (pc' := 82) (v := 4) dX8_layForm_81 rfl (by decide) ?_
  refine ev_iload (pc' := 84) dX8_layForm_82 rfl rfl ?_
  refine ev_iadd (pc' := 85) (v := 4) dX8_layForm_84 rfl (by decide) ?_
  refine ev_iload (pc' := 87) dX8_layForm_85 rfl rfl ?_
  refine ev_if_eq (tgt := 105) (pc' := 90) dX8_layForm_87 rfl rfl (fun _ => ?_) (fun h => absurd (by decide) h)
  refine ev_aload_n (pc' := 106) (i := 0) dX8_layForm_105 rfl rfl rfl ?_
  refine ev_getR (pc' := 109) fo_X8_70 dX8_layForm_106 rfl hs_115 rfl rf_115_25 ?_
  refine ev_iconst (pc' := 110) (v := 4) dX8_layForm_109 rfl ki_4 ?_
  refine ev_iload_n (pc' := 111) (i := 3) dX8_layForm_110 rfl rfl rfl ?_
  refine ev_imul (pc' := 112) (v := 4) dX8_layForm_111 rfl (by decide) ?_
  refine ev_iload (pc' := 114) dX8_layForm_112 rfl rfl ?_
  refine ev_iadd (pc' := 115) (v := 4) dX8_layForm_114 rfl (by decide) ?_
  refine ev_iald (pc' := 116) (j := 4) (v := (I 134) 4) dX8_layForm_115 rfl hs_134 rfl (Nat.le_of_ble_eq_true rfl) (Nat.le_of_ble_eq_true rfl) rfl ?_
  refine ev_i2l (pc' := 117) (v := Int32.toInt64 ((I 134) 4)) dX8_layForm_116 rfl rfl ?_
  refine ev_last (pc' := 118) (j := 4) (L' := (ma_up (ma_up L 132 (ma_up (ma_up (ma_up (ma_up (ma_up (L 132) 0 0) 1 (0 + (mW (mSel 7 (I 133) (I 134))))) 2 (((0 + (mW (mSel 3 (I 133) (I 134)))) + (mW (mSel 5 (I 133) (I 134)))) + (mW (mSel 6 (I 133) (I 134))))) 3 ((((0 + (mW (mSel 1 (I 133) (I 134)))) + (mW (mSel 2 (I 133) (I 134)))) + (mW (mSel 4 (I 133) (I 134)))) + (mW (mSel 8 (I 133) (I 134))))) 4 (0 + (mW (mSel 0 (I 133) (I 134)))))) 120 (ma_up (ma_up (ma_up (ma_up (ma_up r9 0 (Int32.toInt64 ((I 133) 0))) 1 (Int32.toInt64 ((I 133) 1))) 2 (Int32.toInt64 ((I 133) 2))) 3 (Int32.toInt64 ((I 133) 3))) 4 (Int32.toInt64 ((I 134) 4))))) dX8_layForm_117 rfl hs_120 rfl (Nat.le_of_ble_eq_true rfl) (Nat.le_of_ble_eq_true rfl) (ma_up_up _ _ _ _) ?_
  refine ev_iinc (pc' := 121) (v := 1) (lv' := [some (.ref 115), some (.int 9), some (.int 1), some (.int 1), some (.int 0), some (.int 1)]) dX8_layForm_118 rfl rfl (by decide) (Nat.le_of_ble_eq_true rfl) rfl rfl ?_
  refine ev_goto (tgt := 69) dX8_layForm_121 rfl ?_
  refine ev_iload (pc' := 71) dX8_layForm_69 rfl rfl ?_
  refine ev_iconst (pc' := 72) (v := 4) dX8_layForm_71 rfl ki_4 ?_
  refine ev_icmp_ge (tgt := 124) (pc' := 75) dX8_layForm_72 rfl rfl (fun h => absurd h (by decide)) (fun _ => ?_)
  refine ev_aload_n (pc' := 76) (i := 0) dX8_layForm_75 rfl rfl rfl ?_
  refine ev_getR (pc' := 79) fo_X8_26 dX8_layForm_76 rfl hs_115 rfl rf_115_8 ?_
  refine ev_iconst (pc' := 80) (v := 4) dX8_layForm_79 rfl ki_4 ?_
  refine ev_iload_n (pc' := 81) (i := 3) dX8_layForm_80 rfl rfl rfl ?_
  refine ev_imul (pc' := 82) (v := 4) dX8_layForm_81 rfl (by decide) ?_
  refine ev_iload (pc' := 84) dX8_layForm_82 rfl rfl ?_
  refine ev_iadd (pc' := 85) (v := 5) dX8_layForm_84 rfl (by decide) ?_
  refine ev_iload (pc' := 87) dX8_layForm_85 rfl rfl ?_
  refine ev_if_eq (tgt := 105) (pc' := 90) dX8_layForm_87 rfl rfl (fun _ => ?_) (fun h => absurd (by decide) h)
  refine ev_aload_n (pc' := 106) (i := 0) dX8_layForm_105 rfl rfl rfl ?_
  refine ev_getR (pc' := 109) fo_X8_70 dX8_layForm_106 rfl hs_115 rfl rf_115_25 ?_
  refine ev_iconst (pc' := 110) (v := 4) dX8_layForm_109 rfl ki_4 ?_
  refine ev_iload_n (pc' := 111) (i := 3) dX8_layForm_110 rfl rfl rfl ?_
  refine ev_imul (pc' := 112) (v := 4) dX8_layForm_111 rfl (by decide) ?_
  refine ev_iload (pc' := 114) dX8_layForm_112 rfl rfl ?_
  refine ev_iadd (pc' := 115) (v := 5) dX8_layForm_114 rfl (by decide) ?_
  refine ev_iald (pc' := 116) (j := 5) (v := (I 134) 5) dX8_layForm_115 rfl hs_134 rfl (Nat.le_of_ble_eq_true rfl) (Nat.le_of_ble_eq_true rfl) rfl ?_
  refine ev_i2l (pc' := 117) (v := Int32.toInt64 ((I 134) 5)) dX8_layForm_116 rfl rfl ?_
  refine ev_last (pc' := 118) (j := 5) (L' := (ma_up (ma_up L 132 (ma_up (ma_up (ma_up (ma_up (ma_up (L 132) 0 0) 1 (0 + (mW (mSel 7 (I 133) (I 134))))) 2 (((0 + (mW (mSel 3 (I 133) (I 134)))) + (mW (mSel 5 (I 133) (I 134)))) + (mW (mSel 6 (I 133) (I 134))))) 3 ((((0 + (mW (mSel 1 (I 133) (I 134)))) + (mW (mSel 2 (I 133) (I 134)))) + (mW (mSel 4 (I 133) (I 134)))) + (mW (mSel 8 (I 133) (I 134))))) 4 (0 + (mW (mSel 0 (I 133) (I 134)))))) 120 (ma_up (ma_up (ma_up (ma_up (ma_up (ma_up r9 0 (Int32.toInt64 ((I 133) 0))) 1 (Int32.toInt64 ((I 133) 1))) 2 (Int32.toInt64 ((I 133) 2))) 3 (Int32.toInt64 ((I 133) 3))) 4 (Int32.toInt64 ((I 134) 4))) 5 (Int32.toInt64 ((I 134) 5))))) dX8_layForm_117 rfl hs_120 rfl (Nat.le_of_ble_eq_true rfl) (Nat.le_of_ble_eq_true rfl) (ma_up_up _ _ _ _) ?_
  refine ev_iinc (pc' := 121) (v := 2) (lv' := [some (.ref 115), some (.int 9), some (.int 1), some (.int 1), some (.int 0), some (.int 2)]) dX8_layForm_118 rfl rfl (by decide) (Nat.le_of_ble_eq_true rfl) rfl rfl ?_
  refine ev_goto (tgt := 69) dX8_layForm_121 rfl ?_
  refine ev_iload (pc' := 71) dX8_layForm_69 rfl rfl ?_
  refine ev_iconst (pc' := 72) (v := 4) dX8_layForm_71 rfl ki_4 ?_
  refine ev_icmp_ge (tgt := 124) (pc' := 75) dX8_layForm_72 rfl rfl (fun h => absurd h (by decide)) (fun _ => ?_)
  refine ev_aload_n (pc' := 76) (i := 0) dX8_layForm_75 rfl rfl rfl ?_
  refine ev_getR (pc' := 79) fo_X8_26 dX8_layForm_76 rfl hs_115 rfl rf_115_8 ?_
  refine ev_iconst (pc' := 80) (v := 4) dX8_layForm_79 rfl ki_4 ?_
  refine ev_iload_n (pc' := 81) (i := 3) dX8_layForm_80 rfl rfl rfl ?_
  refine ev_imul (pc' := 82) (v := 4) dX8_layForm_81 rfl (by decide) ?_
  refine ev_iload (pc' := 84) dX8_layForm_82 rfl rfl ?_
  refine ev_iadd (pc' := 85) (v := 6) dX8_layForm_84 rfl (by decide) ?_
  refine ev_iload (pc' := 87) dX8_layForm_85 rfl rfl ?_
  refine ev_if_eq (tgt := 105) (pc' := 90) dX8_layForm_87 rfl rfl (fun _ => ?_) (fun h => absurd (by decide) h)
  refine ev_aload_n (pc' := 106) (i := 0) dX8_layForm_105 rfl rfl rfl ?_
  refine ev_getR (pc' := 109) fo_X8_70 dX8_layForm_106 rfl hs_115 rfl rf_115_25 ?_
  refine ev_iconst (pc' := 110) (v := 4) dX8_layForm_109 rfl ki_4 ?_
  refine ev_iload_n (pc' := 111) (i := 3) dX8_layForm_110 rfl rfl rfl ?_
  refine ev_imul (pc' := 112) (v := 4) dX8_layForm_111 rfl (by decide) ?_
  refine ev_iload (pc' := 114) dX8_layForm_112 rfl rfl ?_
  refine ev_iadd (pc' := 115) (v := 6) dX8_layForm_114 rfl (by decide) ?_
  refine ev_iald (pc' := 116) (j := 6) (v := (I 134) 6) dX8_layForm_115 rfl hs_134 rfl (Nat.le_of_ble_eq_true rfl) (Nat.le_of_ble_eq_true rfl) rfl ?_
  refine ev_i2l (pc' := 117) (v := Int32.toInt64 ((I 134) 6)) dX8_layForm_116 rfl rfl ?_
  refine ev_last (pc' := 118) (j := 6) (L' := (ma_up (ma_up L 132 (ma_up (ma_up (ma_up (ma_up (ma_up (L 132) 0 0) 1 (0 + (mW (mSel 7 (I 133) (I 134))))) 2 (((0 + (mW (mSel 3 (I 133) (I 134)))) + (mW (mSel 5 (I 133) (I 134)))) + (mW (mSel 6 (I 133) (I 134))))) 3 ((((0 + (mW (mSel 1 (I 133) (I 134)))) + (mW (mSel 2 (I 133) (I 134)))) + (mW (mSel 4 (I 133) (I 134)))) + (mW (mSel 8 (I 133) (I 134))))) 4 (0 + (mW (mSel 0 (I 133) (I 134)))))) 120 (ma_up (ma_up (ma_up (ma_up (ma_up (ma_up (ma_up r9 0 (Int32.toInt64 ((I 133) 0))) 1 (Int32.toInt64 ((I 133) 1))) 2 (Int32.toInt64 ((I 133) 2))) 3 (Int32.toInt64 ((I 133) 3))) 4 (Int32.toInt64 ((I 134) 4))) 5 (Int32.toInt64 ((I 134) 5))) 6 (Int32.toInt64 ((I 134) 6))))) dX8_layForm_117 rfl hs_120 rfl (Nat.le_of_ble_eq_true rfl) (Nat.le_of_ble_eq_true rfl) (ma_up_up _ _ _ _) ?_
  refine ev_iinc (pc' := 121) (v := 3) (lv' := [some (.ref 115), some (.int 9), some (.int 1), some (.int 1), some (.int 0), some (.int 3)]) dX8_layForm_118 rfl rfl (by decide) (Nat.le_of_ble_eq_true rfl) rfl rfl ?_
  refine ev_goto (tgt := 69) dX8_layForm_121 rfl ?_
  refine ev_iload (pc' := 71) dX8_layForm_69 rfl rfl ?_
  refine ev_iconst (pc' := 72) (v := 4) dX8_layForm_71 rfl ki_4 ?_
  refine ev_icmp_ge (tgt := 124) (pc' := 75) dX8_layForm_72 rfl rfl (fun h => absurd h (by decide)) (fun _ => ?_)
  refine ev_aload_n (pc' := 76) (i := 0) dX8_layForm_75 rfl rfl rfl ?_
  refine ev_getR (pc' := 79) fo_X8_26 dX8_layForm_76 rfl hs_115 rfl rf_115_8 ?_
  refine ev_iconst (pc' := 80) (v := 4) dX8_layForm_79 rfl ki_4 ?_
  refine ev_iload_n (pc' := 81) (i := 3) dX8_layForm_80 rfl rfl rfl ?_
  refine ev_imul (pc' := 82) (v := 4) dX8_layForm_81 rfl (by decide) ?_
  refine ev_iload (pc' := 84) dX8_layForm_82 rfl rfl ?_
  refine ev_iadd (pc' := 85) (v := 7) dX8_layForm_84 rfl (by decide) ?_
  refine ev_iload (pc' := 87) dX8_layForm_85 rfl rfl ?_
  refine ev_if_eq (tgt := 105) (pc' := 90) dX8_layForm_87 rfl rfl (fun _ => ?_) (fun h => absurd (by decide) h)
  refine ev_aload_n (pc' := 106) (i := 0) dX8_layForm_105 rfl rfl rfl ?_
  refine ev_getR (pc' := 109) fo_X8_70 dX8_layForm_106 rfl hs_115 rfl rf_115_25 ?_
  refine ev_iconst (pc' := 110) (v := 4) dX8_layForm_109 rfl ki_4 ?_
  refine ev_iload_n (pc' := 111) (i := 3) dX8_layForm_110 rfl rfl rfl ?_
  refine ev_imul (pc' := 112) (v := 4) dX8_layForm_111 rfl (by decide) ?_
  refine ev_iload (pc' := 114) dX8_layForm_112 rfl rfl ?_
  refine ev_iadd (pc' := 115) (v := 7) dX8_layForm_114 rfl (by decide) ?_
  refine ev_iald (pc' := 116) (j := 7) (v := (I 134) 7) dX8_layForm_115 rfl hs_134 rfl (Nat.le_of_ble_eq_true rfl) (Nat.le_of_ble_eq_true rfl) rfl ?_
  refine ev_i2l (pc' := 117) (v := Int32.toInt64 ((I 134) 7)) dX8_layForm_116 rfl rfl ?_
  refine ev_last (pc' := 118) (j := 7) (L' := (ma_up (ma_up L 132 (ma_up (ma_up (ma_up (ma_up (ma_up (L 132) 0 0) 1 (0 + (mW (mSel 7 (I 133) (I 134))))) 2 (((0 + (mW (mSel 3 (I 133) (I 134)))) + (mW (mSel 5 (I 133) (I 134)))) + (mW (mSel 6 (I 133) (I 134))))) 3 ((((0 + (mW (mSel 1 (I 133) (I 134)))) + (mW (mSel 2 (I 133) (I 134)))) + (mW (mSel 4 (I 133) (I 134)))) + (mW (mSel 8 (I 133) (I 134))))) 4 (0 + (mW (mSel 0 (I 133) (I 134)))))) 120 (ma_up (ma_up (ma_up (ma_up (ma_up (ma_up (ma_up (ma_up r9 0 (Int32.toInt64 ((I 133) 0))) 1 (Int32.toInt64 ((I 133) 1))) 2 (Int32.toInt64 ((I 133) 2))) 3 (Int32.toInt64 ((I 133) 3))) 4 (Int32.toInt64 ((I 134) 4))) 5 (Int32.toInt64 ((I 134) 5))) 6 (Int32.toInt64 ((I 134) 6))) 7 (Int32.toInt64 ((I 134) 7))))) dX8_layForm_117 rfl hs_120 rfl (Nat.le_of_ble_eq_true rfl) (Nat.le_of_ble_eq_true rfl) (ma_up_up _ _ _ _) ?_
  refine ev_iinc (pc' := 121) (v := 4) (lv' := [some (.ref 115), some (.int 9), some (.int 1), some (.int 1), some (.int 0), some (.int 4)]) dX8_layForm_118 rfl rfl (by decide) (Nat.le_of_ble_eq_true rfl) rfl rfl ?_
  refine ev_goto (tgt := 69) dX8_layForm_121 rfl ?_
  refine ev_iload (pc' := 71) dX8_layForm_69 rfl rfl ?_
  refine ev_iconst (pc' := 72) (v := 4) dX8_layForm_71 rfl ki_4 ?_
  refine ev_icmp_ge (tgt := 124) (pc' := 75) dX8_layForm_72 rfl rfl (fun _ => ?_) (fun h => absurd (by decide) h)
  refine ev_iinc (pc' := 127) (v := 2) (lv' := [some (.ref 115), some (.int 9), some (.int 1), some (.int 2), some (.int 0), some (.int 4)]) dX8_layForm_124 rfl rfl (by decide) (Nat.le_of_ble_eq_true rfl) rfl rfl ?_
  refine ev_goto (tgt := 32) dX8_layForm_127 rfl ?_
  refine ev_iload_n (pc' := 33) (i := 3) dX8_layForm_32 rfl rfl rfl ?_
  refine ev_iconst (pc' := 34) (v := 4) dX8_layForm_33 rfl ki_4 ?_
  refine ev_icmp_ge (tgt := 130) (pc' := 37) dX8_layForm_34 rfl rfl (fun h => absurd h (by decide)) (fun _ => ?_)
  refine ev_iload_n (pc' := 38) (i := 1) dX8_layForm_37 rfl rfl rfl ?_
  refine ev_iload_n (pc' := 39) (i := 3) dX8_layForm_38 rfl rfl rfl ?_
  refine ev_ishr (pc' := 40) (v := 2) dX8_layForm_39 rfl (by decide) ?_
  refine ev_iconst (pc' := 41) (v := 1) dX8_layForm_40 rfl ki_1 ?_
  refine ev_iand (pc' := 42) (v := 0) dX8_layForm_41 rfl (by decide) ?_
  refine ev_iconst (pc' := 43) (v := 1) dX8_layForm_42 rfl ki_1 ?_
  refine ev_icmp_ne (tgt := 50) (pc' := 46) dX8_layForm_43 rfl rfl (fun _ => ?_) (fun h => absurd h (by decide))
  refine ev_iconst (pc' := 51) (v := 0) dX8_layForm_50 rfl ki_0 ?_
  refine ev_istore (pc' := 53) (lv' := [some (.ref 115), some (.int 9), some (.int 1), some (.int 2), some (.int 0), some (.int 4)]) dX8_layForm_51 rfl (Nat.le_of_ble_eq_true rfl) rfl rfl ?_
  refine ev_iload_n (pc' := 54) (i := 2) dX8_layForm_53 rfl rfl rfl ?_
  refine ev_iload (pc' := 56) dX8_layForm_54 rfl rfl ?_
  refine ev_if_eq (tgt := 63) (pc' := 59) dX8_layForm_56 rfl rfl (fun _ => ?_) (fun h => absurd (by decide) h)
  refine ev_iconst (pc' := 64) (v := 0) dX8_layForm_63 rfl ki_0 ?_
  refine ev_iadd (pc' := 65) (v := 1) dX8_layForm_64 rfl (by decide) ?_
  refine ev_istore_n (pc' := 66) (i := 2) (lv' := [some (.ref 115), some (.int 9), some (.int 1), some (.int 2), some (.int 0), some (.int 4)]) dX8_layForm_65 rfl rfl (Nat.le_of_ble_eq_true rfl) rfl rfl ?_
  refine ev_iconst (pc' := 67) (v := 0) dX8_layForm_66 rfl ki_0 ?_
  refine ev_istore (pc' := 69) (lv' := [some (.ref 115), some (.int 9), some (.int 1), some (.int 2), some (.int 0), some (.int 0)]) dX8_layForm_67 rfl (Nat.le_of_ble_eq_true rfl) rfl rfl ?_
  refine ev_iload (pc' := 71) dX8_layForm_69 rfl rfl ?_
  refine ev_iconst (pc' := 72) (v := 4) dX8_layForm_71 rfl ki_4 ?_
  refine ev_icmp_ge (tgt := 124) (pc' := 75) dX8_layForm_72 rfl rfl (fun h => absurd h (by decide)) (fun _ => ?_)
  refine ev_aload_n (pc' := 76) (i := 0) dX8_layForm_75 rfl rfl rfl ?_
  refine ev_getR (pc' := 79) fo_X8_26 dX8_layForm_76 rfl hs_115 rfl rf_115_8 ?_
  refine ev_iconst (pc' := 80) (v := 4) dX8_layForm_79 rfl ki_4 ?_
  refine ev_iload_n (pc' := 81) (i := 3) dX8_layForm_80 rfl rfl rfl ?_
  refine ev_imul (pc' := 82) (v := 8) dX8_layForm_81 rfl (by decide) ?_
  refine ev_iload (pc' := 84) dX8_layForm_82 rfl rfl ?_
  refine ev_iadd (pc' := 85) (v := 8) dX8_layForm_84 rfl (by decide) ?_
  refine ev_iload (pc' := 87) dX8_layForm_85 rfl rfl ?_
  refine ev_if_eq (tgt := 105) (pc' := 90) dX8_layForm_87 rfl rfl (fun _ => ?_) (fun h => absurd (by decide) h)
  refine ev_aload_n (pc' := 106) (i := 0) dX8_layForm_105 rfl rfl rfl ?_
  refine ev_getR (pc' := 109) fo_X8_70 dX8_layForm_106 rfl hs_115 rfl rf_115_25 ?_
  refine ev_iconst (pc' := 110) (v := 4) dX8_layForm_109 rfl ki_4 ?_
  refine ev_iload_n (pc' := 111) (i := 3) dX8_layForm_110 rfl rfl rfl ?_
  refine ev_imul (pc' := 112) (v := 8) dX8_layForm_111 rfl (by decide) ?_
  refine ev_iload (pc' := 114) dX8_layForm_112 rfl rfl ?_
  refine ev_iadd (pc' := 115) (v := 8) dX8_layForm_114 rfl (by decide) ?_
  refine ev_iald (pc' := 116) (j := 8) (v := (I 134) 8) dX8_layForm_115 rfl hs_134 rfl (Nat.le_of_ble_eq_true rfl) (Nat.le_of_ble_eq_true rfl) rfl ?_
  refine ev_i2l (pc' := 117) (v := Int32.toInt64 ((I 134) 8)) dX8_layForm_116 rfl rfl ?_
  refine ev_last (pc' := 118) (j := 8) (L' := (ma_up (ma_up L 132 (ma_up (ma_up (ma_up (ma_up (ma_up (L 132) 0 0) 1 (0 + (mW (mSel 7 (I 133) (I 134))))) 2 (((0 + (mW (mSel 3 (I 133) (I 134)))) + (mW (mSel 5 (I 133) (I 134)))) + (mW (mSel 6 (I 133) (I 134))))) 3 ((((0 + (mW (mSel 1 (I 133) (I 134)))) + (mW (mSel 2 (I 133) (I 134)))) + (mW (mSel 4 (I 133) (I 134)))) + (mW (mSel 8 (I 133) (I 134))))) 4 (0 + (mW (mSel 0 (I 133) (I 134)))))) 120 (ma_up (ma_up (ma_up (ma_up (ma_up (ma_up (ma_up (ma_up (ma_up r9 0 (Int32.toInt64 ((I 133) 0))) 1 (Int32.toInt64 ((I 133) 1))) 2 (Int32.toInt64 ((I 133) 2))) 3 (Int32.toInt64 ((I 133) 3))) 4 (Int32.toInt64 ((I 134) 4))) 5 (Int32.toInt64 ((I 134) 5))) 6 (Int32.toInt64 ((I 134) 6))) 7 (Int32.toInt64 ((I 134) 7))) 8 (Int32.toInt64 ((I 134) 8))))) dX8_layForm_117 rfl hs_120 rfl (Nat.le_of_ble_eq_true rfl) (Nat.le_of_ble_eq_true rfl) (ma_up_up _ _ _ _) ?_
  refine ev_iinc (pc' := 121) (v := 1) (lv' := [some (.ref 115), some (.int 9), some (.int 1), some (.int 2), some (.int 0), some (.int 1)]) dX8_layForm_118 rfl rfl (by decide) (Nat.le_of_ble_eq_true rfl) rfl rfl ?_
  refine ev_goto (tgt := 69) dX8_layForm_121 rfl ?_
  refine ev_iload (pc' := 71) dX8_layForm_69 rfl rfl ?_
  refine ev_iconst (pc' := 72) (v := 4) dX8_layForm_71 rfl ki_4 ?_
  refine ev_icmp_ge (tgt := 124) (pc' := 75) dX8_layForm_72 rfl rfl (fun h => absurd h (by decide)) (fun _ => ?_)
  refine ev_aload_n (pc' := 76) (i := 0) dX8_layForm_75 rfl rfl rfl ?_
  refine ev_getR (pc' := 79) fo_X8_26 dX8_layForm_76 rfl hs_115 rfl rf_115_8 ?_
  refine ev_iconst (pc' := 80) (v := 4) dX8_layForm_79 rfl ki_4 ?_
  refine ev_iload_n (pc' := 81) (i := 3) dX8_layForm_80 rfl rfl rfl ?_
  refine ev_imul (pc' := 82) (v := 8) dX8_layForm_81 rfl (by decide) ?_
  refine ev_iload (pc' := 84) dX8_layForm_82 rfl rfl ?_
  refine ev_iadd (pc' := 85) (v := 9) dX8_layForm_84 rfl (by decide) ?_
  refine ev_iload (pc' := 87) dX8_layForm_85 rfl rfl ?_
  refine ev_if_eq (tgt := 105) (pc' := 90) dX8_layForm_87 rfl rfl (fun _ => ?_) (fun h => absurd (by decide) h)
  refine ev_aload_n (pc' := 106) (i := 0) dX8_layForm_105 rfl rfl rfl ?_
  refine ev_getR (pc' := 109) fo_X8_70 dX8_layForm_106 rfl hs_115 rfl rf_115_25 ?_
  refine ev_iconst (pc' := 110) (v := 4) dX8_layForm_109 rfl ki_4 ?_
  refine ev_iload_n (pc' := 111) (i := 3) dX8_layForm_110 rfl rfl rfl ?_
  refine ev_imul (pc' := 112) (v := 8) dX8_layForm_111 rfl (by decide) ?_
  refine ev_iload (pc' := 114) dX8_layForm_112 rfl rfl ?_
  refine ev_iadd (pc' := 115) (v := 9) dX8_layForm_114 rfl (by decide) ?_
  refine ev_iald (pc' := 116) (j := 9) (v := (I 134) 9) dX8_layForm_115 rfl hs_134 rfl (Nat.le_of_ble_eq_true rfl) (Nat.le_of_ble_eq_true rfl) rfl ?_
  refine ev_i2l (pc' := 117) (v := Int32.toInt64 ((I 134) 9)) dX8_layForm_116 rfl rfl ?_
  refine ev_last (pc' := 118) (j := 9) (L' := (ma_up (ma_up L 132 (ma_up (ma_up (ma_up (ma_up (ma_up (L 132) 0 0) 1 (0 + (mW (mSel 7 (I 133) (I 134))))) 2 (((0 + (mW (mSel 3 (I 133) (I 134)))) + (mW (mSel 5 (I 133) (I 134)))) + (mW (mSel 6 (I 133) (I 134))))) 3 ((((0 + (mW (mSel 1 (I 133) (I 134)))) + (mW (mSel 2 (I 133) (I 134)))) + (mW (mSel 4 (I 133) (I 134)))) + (mW (mSel 8 (I 133) (I 134))))) 4 (0 + (mW (mSel 0 (I 133) (I 134)))))) 120 (ma_up (ma_up (ma_up (ma_up (ma_up (ma_up (ma_up (ma_up (ma_up (ma_up r9 0 (Int32.toInt64 ((I 133) 0))) 1 (Int32.toInt64 ((I 133) 1))) 2 (Int32.toInt64 ((I 133) 2))) 3 (Int32.toInt64 ((I 133) 3))) 4 (Int32.toInt64 ((I 134) 4))) 5 (Int32.toInt64 ((I 134) 5))) 6 (Int32.toInt64 ((I 134) 6))) 7 (Int32.toInt64 ((I 134) 7))) 8 (Int32.toInt64 ((I 134) 8))) 9 (Int32.toInt64 ((I 134) 9))))) dX8_layForm_117 rfl hs_120 rfl (Nat.le_of_ble_eq_true rfl) (Nat.le_of_ble_eq_true rfl) (ma_up_up _ _ _ _) ?_
  refine ev_iinc (pc' := 121) (v := 2) (lv' := [some (.ref 115), some (.int 9), some (.int 1), some (.int 2), some (.int 0), some (.int 2)]) dX8_layForm_118 rfl rfl (by decide) (Nat.le_of_ble_eq_true rfl) rfl rfl ?_
  refine ev_goto (tgt := 69) dX8_layForm_121 rfl ?_
  refine ev_iload (pc' := 71) dX8_layForm_69 rfl rfl ?_
  refine ev_iconst (pc' := 72) (v := 4) dX8_layForm_71 rfl ki_4 ?_
  refine ev_icmp_ge (tgt := 124) (pc' := 75) dX8_layForm_72 rfl rfl (fun h => absurd h (by decide)) (fun _ => ?_)
  refine ev_aload_n (pc' := 76) (i := 0) dX8_layForm_75 rfl rfl rfl ?_
  refine ev_getR (pc' := 79) fo_X8_26 dX8_layForm_76 rfl hs_115 rfl rf_115_8 ?_
  refine ev_iconst (pc' := 80) (v := 4) dX8_layForm_79 rfl ki_4 ?_
  refine ev_iload_n (pc' := 81) (i := 3) dX8_layForm_80 rfl rfl rfl ?_
  refine ev_imul (pc' := 82) (v := 8) dX8_layForm_81 rfl (by decide) ?_
  refine ev_iload (pc' := 84) dX8_layForm_82 rfl rfl ?_
  refine ev_iadd (pc' := 85) (v := 10) dX8_layForm_84 rfl (by decide) ?_
  refine ev_iload (pc' := 87) dX8_layForm_85 rfl rfl ?_
  refine ev_if_eq (tgt := 105) (pc' := 90) dX8_layForm_87 rfl rfl (fun _ => ?_) (fun h => absurd (by decide) h)
  refine ev_aload_n (pc' := 106) (i := 0) dX8_layForm_105 rfl rfl rfl ?_
  refine ev_getR (pc' := 109) fo_X8_70 dX8_layForm_106 rfl hs_115 rfl rf_115_25 ?_
  refine ev_iconst (pc' := 110) (v := 4) dX8_layForm_109 rfl ki_4 ?_
  refine ev_iload_n (pc' := 111) (i := 3) dX8_layForm_110 rfl rfl rfl ?_
  refine ev_imul (pc' := 112) (v := 8) dX8_layForm_111 rfl (by decide) ?_
  refine ev_iload (pc' := 114) dX8_layForm_112 rfl rfl ?_
  refine ev_iadd (pc' := 115) (v := 10) dX8_layForm_114 rfl (by decide) ?_
  refine ev_iald (pc' := 116) (j := 10) (v := (I 134) 10) dX8_layForm_115 rfl hs_134 rfl (Nat.le_of_ble_eq_true rfl) (Nat.le_of_ble_eq_true rfl) rfl ?_
  refine ev_i2l (pc' := 117) (v := Int32.toInt64 ((I 134) 10)) dX8_layForm_116 rfl rfl ?_
  refine ev_last (pc' := 118) (j := 10) (L' := (ma_up (ma_up L 132 (ma_up (ma_up (ma_up (ma_up (ma_up (L 132) 0 0) 1 (0 + (mW (mSel 7 (I 133) (I 134))))) 2 (((0 + (mW (mSel 3 (I 133) (I 134)))) + (mW (mSel 5 (I 133) (I 134)))) + (mW (mSel 6 (I 133) (I 134))))) 3 ((((0 + (mW (mSel 1 (I 133) (I 134)))) + (mW (mSel 2 (I 133) (I 134)))) + (mW (mSel 4 (I 133) (I 134)))) + (mW (mSel 8 (I 133) (I 134))))) 4 (0 + (mW (mSel 0 (I 133) (I 134)))))) 120 (ma_up (ma_up (ma_up (ma_up (ma_up (ma_up (ma_up (ma_up (ma_up (ma_up (ma_up r9 0 (Int32.toInt64 ((I 133) 0))) 1 (Int32.toInt64 ((I 133) 1))) 2 (Int32.toInt64 ((I 133) 2))) 3 (Int32.toInt64 ((I 133) 3))) 4 (Int32.toInt64 ((I 134) 4))) 5 (Int32.toInt64 ((I 134) 5))) 6 (Int32.toInt64 ((I 134) 6))) 7 (Int32.toInt64 ((I 134) 7))) 8 (Int32.toInt64 ((I 134) 8))) 9 (Int32.toInt64 ((I 134) 9))) 10 (Int32.toInt64 ((I 134) 10))))) dX8_layForm_117 rfl hs_120 rfl (Nat.le_of_ble_eq_true rfl) (Nat.le_of_ble_eq_true rfl) (ma_up_up _ _ _ _) ?_
  refine ev_iinc (pc' := 121) (v := 3) (lv' := [some (.ref 115), some (.int 9), some (.int 1), some (.int 2), some (.int 0), some (.int 3)]) dX8_layForm_118 rfl rfl (by decide) (Nat.le_of_ble_eq_true rfl) rfl rfl ?_
  refine ev_goto (tgt := 69) dX8_layForm_121 rfl ?_
  refine ev_iload (pc' := 71) dX8_layForm_69 rfl rfl ?_
  refine ev_iconst (pc' := 72) (v := 4) dX8_layForm_71 rfl ki_4 ?_
  refine ev_icmp_ge (tgt := 124) (pc' := 75) dX8_layForm_72 rfl rfl (fun h => absurd h (by decide)) (fun _ => ?_)
  refine ev_aload_n (pc' := 76) (i := 0) dX8_layForm_75 rfl rfl rfl ?_
  refine ev_getR (pc' := 79) fo_X8_26 dX8_layForm_76 rfl hs_115 rfl rf_115_8 ?_
  refine ev_iconst (pc' := 80) (v := 4) dX8_layForm_79 rfl ki_4 ?_
  refine ev_iload_n (pc' := 81) (i := 3) dX8_layForm_80 rfl rfl rfl ?_
  refine ev_imul (pc' := 82) (v := 8) dX8_layForm_81 rfl (by decide) ?_
  refine ev_iload (pc' := 84) dX8_layForm_82 rfl rfl ?_
  refine ev_iadd (pc' := 85) (v := 11) dX8_layForm_84 rfl (by decide) ?_
  refine ev_iload (pc' := 87) dX8_layForm_85 rfl rfl ?_
  refine ev_if_eq (tgt := 105) (pc' := 90) dX8_layForm_87 rfl rfl (fun _ => ?_) (fun h => absurd (by decide) h)
  refine ev_aload_n (pc' := 106) (i := 0) dX8_layForm_105 rfl rfl rfl ?_
  refine ev_getR (pc' := 109) fo_X8_70 dX8_layForm_106 rfl hs_115 rfl rf_115_25 ?_
  refine ev_iconst (pc' := 110) (v := 4) dX8_layForm_109 rfl ki_4 ?_
  refine ev_iload_n (pc' := 111) (i := 3) dX8_layForm_110 rfl rfl rfl ?_
  refine ev_imul (pc' := 112) (v := 8) dX8_layForm_111 rfl (by decide) ?_
  refine ev_iload (pc' := 114) dX8_layForm_112 rfl rfl ?_
  refine ev_iadd (pc' := 115) (v := 11) dX8_layForm_114 rfl (by decide) ?_
  refine ev_iald (pc' := 116) (j := 11) (v := (I 134) 11) dX8_layForm_115 rfl hs_134 rfl (Nat.le_of_ble_eq_true rfl) (Nat.le_of_ble_eq_true rfl) rfl ?_
  refine ev_i2l (pc' := 117) (v := Int32.toInt64 ((I 134) 11)) dX8_layForm_116 rfl rfl ?_
  refine ev_last (pc' := 118) (j := 11) (L' := (ma_up (ma_up L 132 (ma_up (ma_up (ma_up (ma_up (ma_up (L 132) 0 0) 1 (0 + (mW (mSel 7 (I 133) (I 134))))) 2 (((0 + (mW (mSel 3 (I 133) (I 134)))) + (mW (mSel 5 (I 133) (I 134)))) + (mW (mSel 6 (I 133) (I 134))))) 3 ((((0 + (mW (mSel 1 (I 133) (I 134)))) + (mW (mSel 2 (I 133) (I 134)))) + (mW (mSel 4 (I 133) (I 134)))) + (mW (mSel 8 (I 133) (I 134))))) 4 (0 + (mW (mSel 0 (I 133) (I 134)))))) 120 (ma_up (ma_up (ma_up (ma_up (ma_up (ma_up (ma_up (ma_up (ma_up (ma_up (ma_up (ma_up r9 0 (Int32.toInt64 ((I 133) 0))) 1 (Int32.toInt64 ((I 133) 1))) 2 (Int32.toInt64 ((I 133) 2))) 3 (Int32.toInt64 ((I 133) 3))) 4 (Int32.toInt64 ((I 134) 4))) 5 (Int32.toInt64 ((I 134) 5))) 6 (Int32.toInt64 ((I 134) 6))) 7 (Int32.toInt64 ((I 134) 7))) 8 (Int32.toInt64 ((I 134) 8))) 9 (Int32.toInt64 ((I 134) 9))) 10 (Int32.toInt64 ((I 134) 10))) 11 (Int32.toInt64 ((I 134) 11))))) dX8_layForm_117 rfl hs_120 rfl (Nat.le_of_ble_eq_true rfl) (Nat.le_of_ble_eq_true rfl) (ma_up_up _ _ _ _) ?_
  refine ev_iinc (pc' := 121) (v := 4) (lv' := [some (.ref 115), some (.int 9), some (.int 1), some (.int 2), some (.int 0), some (.int 4)]) dX8_layForm_118 rfl rfl (by decide) (Nat.le_of_ble_eq_true rfl) rfl rfl ?_
  refine ev_goto (tgt := 69) dX8_layForm_121 rfl ?_
  refine ev_iload (pc' := 71) dX8_layForm_69 rfl rfl ?_
  refine ev_iconst (pc' := 72) (v := 4) dX8_layForm_71 rfl ki_4 ?_
  refine ev_icmp_ge (tgt := 124) (pc' := 75) dX8_layForm_72 rfl rfl (fun _ => ?_) (fun h => absurd (by decide) h)
  refine ev_iinc (pc' := 127) (v := 3) (lv' := [some (.ref 115), some (.int 9), some (.int 1), some (.int 3), some (.int 0), some (.int 4)]) dX8_layForm_124 rfl rfl (by decide) (Nat.le_of_ble_eq_true rfl) rfl rfl ?_
  refine ev_goto (tgt := 32) dX8_layForm_127 rfl ?_
  refine ev_iload_n (pc' := 33) (i := 3) dX8_layForm_32 rfl rfl rfl ?_
  refine ev_iconst (pc' := 34) (v := 4) dX8_layForm_33 rfl ki_4 ?_
  refine ev_icmp_ge (tgt := 130) (pc' := 37) dX8_layForm_34 rfl rfl (fun h => absurd h (by decide)) (fun _ => ?_)
  refine ev_iload_n (pc' := 38) (i := 1) dX8_layForm_37 rfl rfl rfl ?_
  refine ev_iload_n (pc' := 39) (i := 3) dX8_layForm_38 rfl rfl rfl ?_
  refine ev_ishr (pc' := 40) (v := 1) dX8_layForm_39 rfl (by decide) ?_
  refine ev_iconst (pc' := 41) (v := 1) dX8_layForm_40 rfl ki_1 ?_
  refine ev_iand (pc' := 42) (v := 1) dX8_layForm_41 rfl (by decide) ?_
  refine ev_iconst (pc' := 43) (v := 1) dX8_layForm_42 rfl ki_1 ?_
  refine ev_icmp_ne (tgt := 50) (pc' := 46) dX8_layForm_43 rfl rfl (fun h => absurd (by decide) h) (fun _ => ?_)
  refine ev_iconst (pc' := 47) (v := 1) dX8_layForm_46 rfl ki_1 ?_
  refine ev_goto (tgt := 51) dX8_layForm_47 rfl ?_
  refine ev_istore (pc' := 53) (lv' := [some (.ref 115), some (.int 9), some (.int 1), some (.int 3), some (.int 1), some (.int 4)]) dX8_layForm_51 rfl (Nat.le_of_ble_eq_true rfl) rfl rfl ?_
  refine ev_iload_n (pc' := 54) (i := 2) dX8_layForm_53 rfl rfl rfl ?_
  refine ev_iload (pc' := 56) dX8_layForm_54 rfl rfl ?_
  refine ev_if_eq (tgt := 63) (pc' := 59) dX8_layForm_56 rfl rfl (fun h => absurd h (by decide)) (fun _ => ?_)
  refine ev_iconst (pc' := 60) (v := 1) dX8_layForm_59 rfl ki_1 ?_
  refine ev_goto (tgt := 64) dX8_layForm_60 rfl ?_
  refine ev_iadd (pc' := 65) (v := 2) dX8_layForm_64 rfl (by decide) ?_
  refine ev_istore_n (pc' := 66) (i := 2) (lv' := [some (.ref 115), some (.int 9), some (.int 2), some (.int 3), some (.int 1), some (.int 4)]) dX8_layForm_65 rfl rfl (Nat.le_of_ble_eq_true rfl) rfl rfl ?_
  refine ev_iconst (pc' := 67) (v := 0) dX8_layForm_66 rfl ki_0 ?_
  refine ev_istore (pc' := 69) (lv' := [some (.ref 115), some (.int 9), some (.int 2), some (.int 3), some (.int 1), some (.int 0)]) dX8_layForm_67 rfl (Nat.le_of_ble_eq_true rfl) rfl rfl ?_
  refine ev_iload (pc' := 71) dX8_layForm_69 rfl rfl ?_
  refine ev_iconst (pc' := 72) (v := 4) dX8_layForm_71 rfl ki_4 ?_
  refine ev_icmp_ge (tgt := 124) (pc' := 75) dX8_layForm_72 rfl rfl (fun h => absurd h (by decide)) (fun _ => ?_)
  refine ev_aload_n (pc' := 76) (i := 0) dX8_layForm_75 rfl rfl rfl ?_
  refine ev_getR (pc' := 79) fo_X8_26 dX8_layForm_76 rfl hs_115 rfl rf_115_8 ?_
  refine ev_iconst (pc' := 80) (v := 4) dX8_layForm_79 rfl ki_4 ?_
  refine ev_iload_n (pc' := 81) (i := 3) dX8_layForm_80 rfl rfl rfl ?_
  refine ev_imul (pc' := 82) (v := 12) dX8_layForm_81 rfl (by decide) ?_
  refine ev_iload (pc' := 84) dX8_layForm_82 rfl rfl ?_
  refine ev_iadd (pc' := 85) (v := 12) dX8_layForm_84 rfl (by decide) ?_
  refine ev_iload (pc' := 87) dX8_layForm_85 rfl rfl ?_
  refine ev_if_eq (tgt := 105) (pc' := 90) dX8_layForm_87 rfl rfl (fun h => absurd h (by decide)) (fun _ => ?_)
  refine ev_aload_n (pc' := 91) (i := 0) dX8_layForm_90 rfl rfl rfl ?_
  refine ev_getR (pc' := 94) fo_X8_67 dX8_layForm_91 rfl hs_115 rfl rf_115_24 ?_
  refine ev_iconst (pc' := 95) (v := 4) dX8_layForm_94 rfl ki_4 ?_
  refine ev_iload_n (pc' := 96) (i := 3) dX8_layForm_95 rfl rfl rfl ?_
  refine ev_imul (pc' := 97) (v := 12) dX8_layForm_96 rfl (by decide) ?_
  refine ev_iload (pc' := 99) dX8_layForm_97 rfl rfl ?_
  refine ev_iadd (pc' := 100) (v := 12) dX8_layForm_99 rfl (by decide) ?_
  refine ev_iald (pc' := 101) (j := 12) (v := (I 133) 12) dX8_layForm_100 rfl hs_133 rfl (Nat.le_of_ble_eq_true rfl) (Nat.le_of_ble_eq_true rfl) rfl ?_
  refine ev_i2l (pc' := 102) (v := Int32.toInt64 ((I 133) 12)) dX8_layForm_101 rfl rfl ?_
  refine ev_goto (tgt := 117) dX8_layForm_102 rfl ?_
  refine ev_last (pc' := 118) (j := 12) (L' := (ma_up (ma_up L 132 (ma_up (ma_up (ma_up (ma_up (ma_up (L 132) 0 0) 1 (0 + (mW (mSel 7 (I 133) (I 134))))) 2 (((0 + (mW (mSel 3 (I 133) (I 134)))) + (mW (mSel 5 (I 133) (I 134)))) + (mW (mSel 6 (I 133) (I 134))))) 3 ((((0 + (mW (mSel 1 (I 133) (I 134)))) + (mW (mSel 2 (I 133) (I 134)))) + (mW (mSel 4 (I 133) (I 134)))) + (mW (mSel 8 (I 133) (I 134))))) 4 (0 + (mW (mSel 0 (I 133) (I 134)))))) 120 (ma_up (ma_up (ma_up (ma_up (ma_up (ma_up (ma_up (ma_up (ma_up (ma_up (ma_up (ma_up (ma_up r9 0 (Int32.toInt64 ((I 133) 0))) 1 (Int32.toInt64 ((I 133) 1))) 2 (Int32.toInt64 ((I 133) 2))) 3 (Int32.toInt64 ((I 133) 3))) 4 (Int32.toInt64 ((I 134) 4))) 5 (Int32.toInt64 ((I 134) 5))) 6 (Int32.toInt64 ((I 134) 6))) 7 (Int32.toInt64 ((I 134) 7))) 8 (Int32.toInt64 ((I 134) 8))) 9 (Int32.toInt64 ((I 134) 9))) 10 (Int32.toInt64 ((I 134) 10))) 11 (Int32.toInt64 ((I 134) 11))) 12 (Int32.toInt64 ((I 133) 12))))) dX8_layForm_117 rfl hs_120 rfl (Nat.le_of_ble_eq_true rfl) (Nat.le_of_ble_eq_true rfl) (ma_up_up _ _ _ _) ?_
  refine ev_iinc (pc' := 121) (v := 1) (lv' := [some (.ref 115), some (.int 9), some (.int 2), some (.int 3), some (.int 1), some (.int 1)]) dX8_layForm_118 rfl rfl (by decide) (Nat.le_of_ble_eq_true rfl) rfl rfl ?_
  refine ev_goto (tgt := 69) dX8_layForm_121 rfl ?_
  refine ev_iload (pc' := 71) dX8_layForm_69 rfl rfl ?_
  refine ev_iconst (pc' := 72) (v := 4) dX8_layForm_71 rfl ki_4 ?_
  refine ev_icmp_ge (tgt := 124) (pc' := 75) dX8_layForm_72 rfl rfl (fun h => absurd h (by decide)) (fun _ => ?_)
  refine ev_aload_n (pc' := 76) (i := 0) dX8_layForm_75 rfl rfl rfl ?_
  refine ev_getR (pc' := 79) fo_X8_26 dX8_layForm_76 rfl hs_115 rfl rf_115_8 ?_
  refine ev_iconst (pc' := 80) (v := 4) dX8_layForm_79 rfl ki_4 ?_
  refine ev_iload_n (pc' := 81) (i := 3) dX8_layForm_80 rfl rfl rfl ?_
  refine ev_imul (pc' := 82) (v := 12) dX8_layForm_81 rfl (by decide) ?_
  refine ev_iload (pc' := 84) dX8_layForm_82 rfl rfl ?_
  refine ev_iadd (pc' := 85) (v := 13) dX8_layForm_84 rfl (by decide) ?_
  refine ev_iload (pc' := 87) dX8_layForm_85 rfl rfl ?_
  refine ev_if_eq (tgt := 105) (pc' := 90) dX8_layForm_87 rfl rfl (fun h => absurd h (by decide)) (fun _ => ?_)
  refine ev_aload_n (pc' := 91) (i := 0) dX8_layForm_90 rfl rfl rfl ?_
  refine ev_getR (pc' := 94) fo_X8_67 dX8_layForm_91 rfl hs_115 rfl rf_115_24 ?_
  refine ev_iconst (pc' := 95) (v := 4) dX8_layForm_94 rfl ki_4 ?_
  refine ev_iload_n (pc' := 96) (i := 3) dX8_layForm_95 rfl rfl rfl ?_
  refine ev_imul (pc' := 97) (v := 12) dX8_layForm_96 rfl (by decide) ?_
  refine ev_iload (pc' := 99) dX8_layForm_97 rfl rfl ?_
  refine ev_iadd (pc' := 100) (v := 13) dX8_layForm_99 rfl (by decide) ?_
  refine ev_iald (pc' := 101) (j := 13) (v := (I 133) 13) dX8_layForm_100 rfl hs_133 rfl (Nat.le_of_ble_eq_true rfl) (Nat.le_of_ble_eq_true rfl) rfl ?_
  refine ev_i2l (pc' := 102) (v := Int32.toInt64 ((I 133) 13)) dX8_layForm_101 rfl rfl ?_
  refine ev_goto (tgt := 117) dX8_layForm_102 rfl ?_
  refine ev_last (pc' := 118) (j := 13) (L' := (ma_up (ma_up L 132 (ma_up (ma_up (ma_up (ma_up (ma_up (L 132) 0 0) 1 (0 + (mW (mSel 7 (I 133) (I 134))))) 2 (((0 + (mW (mSel 3 (I 133) (I 134)))) + (mW (mSel 5 (I 133) (I 134)))) + (mW (mSel 6 (I 133) (I 134))))) 3 ((((0 + (mW (mSel 1 (I 133) (I 134)))) + (mW (mSel 2 (I 133) (I 134)))) + (mW (mSel 4 (I 133) (I 134)))) + (mW (mSel 8 (I 133) (I 134))))) 4 (0 + (mW (mSel 0 (I 133) (I 134)))))) 120 (ma_up (ma_up (ma_up (ma_up (ma_up (ma_up (ma_up (ma_up (ma_up (ma_up (ma_up (ma_up (ma_up (ma_up r9 0 (Int32.toInt64 ((I 133) 0))) 1 (Int32.toInt64 ((I 133) 1))) 2 (Int32.toInt64 ((I 133) 2))) 3 (Int32.toInt64 ((I 133) 3))) 4 (Int32.toInt64 ((I 134) 4))) 5 (Int32.toInt64 ((I 134) 5))) 6 (Int32.toInt64 ((I 134) 6))) 7 (Int32.toInt64 ((I 134) 7))) 8 (Int32.toInt64 ((I 134) 8))) 9 (Int32.toInt64 ((I 134) 9))) 10 (Int32.toInt64 ((I 134) 10))) 11 (Int32.toInt64 ((I 134) 11))) 12 (Int32.toInt64 ((I 133) 12))) 13 (Int32.toInt64 ((I 133) 13))))) dX8_layForm_117 rfl hs_120 rfl (Nat.le_of_ble_eq_true rfl) (Nat.le_of_ble_eq_true rfl) (ma_up_up _ _ _ _) ?_
  refine ev_iinc (pc' := 121) (v := 2) (lv' := [some (.ref 115), some (.int 9), some (.int 2), some (.int 3), some (.int 1), some (.int 2)]) dX8_layForm_118 rfl rfl (by decide) (Nat.le_of_ble_eq_true rfl) rfl rfl ?_
  refine ev_goto (tgt := 69) dX8_layForm_121 rfl ?_
  refine ev_iload (pc' := 71) dX8_layForm_69 rfl rfl ?_
  refine ev_iconst (pc' := 72) (v := 4) dX8_layForm_71 rfl ki_4 ?_
  refine ev_icmp_ge (tgt := 124) (pc' := 75) dX8_layForm_72 rfl rfl (fun h => absurd h (by decide)) (fun _ => ?_)
  refine ev_aload_n (pc' := 76) (i := 0) dX8_layForm_75 rfl rfl rfl ?_
  refine ev_getR (pc' := 79) fo_X8_26 dX8_layForm_76 rfl hs_115 rfl rf_115_8 ?_
  refine ev_iconst (pc' := 80) (v := 4) dX8_layForm_79 rfl ki_4 ?_
  refine ev_iload_n (pc' := 81) (i := 3) dX8_layForm_80 rfl rfl rfl ?_
  refine ev_imul (pc' := 82) (v := 12) dX8_layForm_81 rfl (by decide) ?_
  refine ev_iload (pc' := 84) dX8_layForm_82 rfl rfl ?_
  refine ev_iadd (pc' := 85) (v := 14) dX8_layForm_84 rfl (by decide) ?_
  refine ev_iload (pc' := 87) dX8_layForm_85 rfl rfl ?_
  refine ev_if_eq (tgt := 105) (pc' := 90) dX8_layForm_87 rfl rfl (fun h => absurd h (by decide)) (fun _ => ?_)
  refine ev_aload_n (pc' := 91) (i := 0) dX8_layForm_90 rfl rfl rfl ?_
  refine ev_getR (pc' := 94) fo_X8_67 dX8_layForm_91 rfl hs_115 rfl rf_115_24 ?_
  refine ev_iconst (pc' := 95) (v := 4) dX8_layForm_94 rfl ki_4 ?_
  refine ev_iload_n (pc' := 96) (i := 3) dX8_layForm_95 rfl rfl rfl ?_
  refine ev_imul (pc' := 97) (v := 12) dX8_layForm_96 rfl (by decide) ?_
  refine ev_iload (pc' := 99) dX8_layForm_97 rfl rfl ?_
  refine ev_iadd (pc' := 100) (v := 14) dX8_layForm_99 rfl (by decide) ?_
  refine ev_iald (pc' := 101) (j := 14) (v := (I 133) 14) dX8_layForm_100 rfl hs_133 rfl (Nat.le_of_ble_eq_true rfl) (Nat.le_of_ble_eq_true rfl) rfl ?_
  refine ev_i2l (pc' := 102) (v := Int32.toInt64 ((I 133) 14)) dX8_layForm_101 rfl rfl ?_
  refine ev_goto (tgt := 117) dX8_layForm_102 rfl ?_
  refine ev_last (pc' := 118) (j := 14) (L' := (ma_up (ma_up L 132 (ma_up (ma_up (ma_up (ma_up (ma_up (L 132) 0 0) 1 (0 + (mW (mSel 7 (I 133) (I 134))))) 2 (((0 + (mW (mSel 3 (I 133) (I 134)))) + (mW (mSel 5 (I 133) (I 134)))) + (mW (mSel 6 (I 133) (I 134))))) 3 ((((0 + (mW (mSel 1 (I 133) (I 134)))) + (mW (mSel 2 (I 133) (I 134)))) + (mW (mSel 4 (I 133) (I 134)))) + (mW (mSel 8 (I 133) (I 134))))) 4 (0 + (mW (mSel 0 (I 133) (I 134)))))) 120 (ma_up (ma_up (ma_up (ma_up (ma_up (ma_up (ma_up (ma_up (ma_up (ma_up (ma_up (ma_up (ma_up (ma_up (ma_up r9 0 (Int32.toInt64 ((I 133) 0))) 1 (Int32.toInt64 ((I 133) 1))) 2 (Int32.toInt64 ((I 133) 2))) 3 (Int32.toInt64 ((I 133) 3))) 4 (Int32.toInt64 ((I 134) 4))) 5 (Int32.toInt64 ((I 134) 5))) 6 (Int32.toInt64 ((I 134) 6))) 7 (Int32.toInt64 ((I 134) 7))) 8 (Int32.toInt64 ((I 134) 8))) 9 (Int32.toInt64 ((I 134) 9))) 10 (Int32.toInt64 ((I 134) 10))) 11 (Int32.toInt64 ((I 134) 11))) 12 (Int32.toInt64 ((I 133) 12))) 13 (Int32.toInt64 ((I 133) 13))) 14 (Int32.toInt64 ((I 133) 14))))) dX8_layForm_117 rfl hs_120 rfl (Nat.le_of_ble_eq_true rfl) (Nat.le_of_ble_eq_true rfl) (ma_up_up _ _ _ _) ?_
  refine ev_iinc (pc' := 121) (v := 3) (lv' := [some (.ref 115), some (.int 9), some (.int 2), some (.int 3), some (.int 1), some (.int 3)]) dX8_layForm_118 rfl rfl (by decide) (Nat.le_of_ble_eq_true rfl) rfl rfl ?_
  refine ev_goto (tgt := 69) dX8_layForm_121 rfl ?_
  refine ev_iload (pc' := 71) dX8_layForm_69 rfl rfl ?_
  refine ev_iconst (pc' := 72) (v := 4) dX8_layForm_71 rfl ki_4 ?_
  refine ev_icmp_ge (tgt := 124) (pc' := 75) dX8_layForm_72 rfl rfl (fun h => absurd h (by decide)) (fun _ => ?_)
  refine ev_aload_n (pc' := 76) (i := 0) dX8_layForm_75 rfl rfl rfl ?_
  refine ev_getR (pc' := 79) fo_X8_26 dX8_layForm_76 rfl hs_115 rfl rf_115_8 ?_
  refine ev_iconst (pc' := 80) (v := 4) dX8_layForm_79 rfl ki_4 ?_
  refine ev_iload_n (pc' := 81) (i := 3) dX8_layForm_80 rfl rfl rfl ?_
  refine ev_imul (pc' := 82) (v := 12) dX8_layForm_81 rfl (by decide) ?_
  refine ev_iload (pc' := 84) dX8_layForm_82 rfl rfl ?_
  refine ev_iadd (pc' := 85) (v := 15) dX8_layForm_84 rfl (by decide) ?_
  refine ev_iload (pc' := 87) dX8_layForm_85 rfl rfl ?_
  refine ev_if_eq (tgt := 105) (pc' := 90) dX8_layForm_87 rfl rfl (fun h => absurd h (by decide)) (fun _ => ?_)
  refine ev_aload_n (pc' := 91) (i := 0) dX8_layForm_90 rfl rfl rfl ?_
  refine ev_getR (pc' := 94) fo_X8_67 dX8_layForm_91 rfl hs_115 rfl rf_115_24 ?_
  refine ev_iconst (pc' := 95) (v := 4) dX8_layForm_94 rfl ki_4 ?_
  refine ev_iload_n (pc' := 96) (i := 3) dX8_layForm_95 rfl rfl rfl ?_
  refine ev_imul (pc' := 97) (v := 12) dX8_layForm_96 rfl (by decide) ?_
  refine ev_iload (pc' := 99) dX8_layForm_97 rfl rfl ?_
  refine ev_iadd (pc' := 100) (v := 15) dX8_layForm_99 rfl (by decide) ?_
  refine ev_iald (pc' := 101) (j := 15) (v := (I 133) 15) dX8_layForm_100 rfl hs_133 rfl (Nat.le_of_ble_eq_true rfl) (Nat.le_of_ble_eq_true rfl) rfl ?_
  refine ev_i2l (pc' := 102) (v := Int32.toInt64 ((I 133) 15)) dX8_layForm_101 rfl rfl ?_
  refine ev_goto (tgt := 117) dX8_layForm_102 rfl ?_
  refine ev_last (pc' := 118) (j := 15) (L' := (ma_up (ma_up L 132 (ma_up (ma_up (ma_up (ma_up (ma_up (L 132) 0 0) 1 (0 + (mW (mSel 7 (I 133) (I 134))))) 2 (((0 + (mW (mSel 3 (I 133) (I 134)))) + (mW (mSel 5 (I 133) (I 134)))) + (mW (mSel 6 (I 133) (I 134))))) 3 ((((0 + (mW (mSel 1 (I 133) (I 134)))) + (mW (mSel 2 (I 133) (I 134)))) + (mW (mSel 4 (I 133) (I 134)))) + (mW (mSel 8 (I 133) (I 134))))) 4 (0 + (mW (mSel 0 (I 133) (I 134)))))) 120 (ma_up (ma_up (ma_up (ma_up (ma_up (ma_up (ma_up (ma_up (ma_up (ma_up (ma_up (ma_up (ma_up (ma_up (ma_up (ma_up r9 0 (Int32.toInt64 ((I 133) 0))) 1 (Int32.toInt64 ((I 133) 1))) 2 (Int32.toInt64 ((I 133) 2))) 3 (Int32.toInt64 ((I 133) 3))) 4 (Int32.toInt64 ((I 134) 4))) 5 (Int32.toInt64 ((I 134) 5))) 6 (Int32.toInt64 ((I 134) 6))) 7 (Int32.toInt64 ((I 134) 7))) 8 (Int32.toInt64 ((I 134) 8))) 9 (Int32.toInt64 ((I 134) 9))) 10 (Int32.toInt64 ((I 134) 10))) 11 (Int32.toInt64 ((I 134) 11))) 12 (Int32.toInt64 ((I 133) 12))) 13 (Int32.toInt64 ((I 133) 13))) 14 (Int32.toInt64 ((I 133) 14))) 15 (Int32.toInt64 ((I 133) 15))))) dX8_layForm_117 rfl hs_120 rfl (Nat.le_of_ble_eq_true rfl) (Nat.le_of_ble_eq_true rfl) (ma_up_up _ _ _ _) ?_
  refine ev_iinc (pc' := 121) (v := 4) (lv' := [some (.ref 115), some (.int 9), some (.int 2), some (.int 3), some (.int 1), some (.int 4)]) dX8_layForm_118 rfl rfl (by decide) (Nat.le_of_ble_eq_true rfl) rfl rfl ?_
  refine ev_goto (tgt := 69) dX8_layForm_121 rfl ?_
  refine ev_iload (pc' := 71) dX8_layForm_69 rfl rfl ?_
  refine ev_iconst (pc' := 72) (v := 4) dX8_layForm_71 rfl ki_4 ?_
  refine ev_icmp_ge (tgt := 124) (pc' := 75) dX8_layForm_72 rfl rfl (fun _ => ?_) (fun h => absurd (by decide) h)
  refine ev_iinc (pc' := 127) (v := 4) (lv' := [some (.ref 115), some (.int 9), some (.int 2), some (.int 4), some (.int 1), some (.int 4)]) dX8_layForm_124 rfl rfl (by decide) (Nat.le_of_ble_eq_true rfl) rfl rfl ?_
  refine ev_goto (tgt := 32) dX8_layForm_127 rfl ?_
  refine ev_iload_n (pc' := 33) (i := 3) dX8_layForm_32 rfl rfl rfl ?_
  refine ev_iconst (pc' := 34) (v := 4) dX8_layForm_33 rfl ki_4 ?_
  refine ev_icmp_ge (tgt := 130) (pc' := 37) dX8_layForm_34 rfl rfl (fun _ => ?_) (fun h => absurd (by decide) h)
  refine ev_aload_n (pc' := 131) (i := 0) dX8_layForm_130 rfl rfl rfl ?_
  refine ev_getR (pc' := 134) fo_X8_64 dX8_layForm_131 rfl hs_115 rfl rf_115_23 ?_
  refine ev_iconst (pc' := 135) (v := 4) dX8_layForm_134 rfl ki_4 ?_
  refine ev_iload_n (pc' := 136) (i := 2) dX8_layForm_135 rfl rfl rfl ?_
  refine ev_isub (pc' := 137) (v := 2) dX8_layForm_136 rfl (by decide) ?_
  refine ev_dup2 (pc' := 138) dX8_layForm_137 rfl rfl rfl ?_
  refine ev_lald (pc' := 139) (j := 2) (v := ((0 + (mW (mSel 3 (I 133) (I 134)))) + (mW (mSel 5 (I 133) (I 134)))) + (mW (mSel 6 (I 133) (I 134)))) dX8_layForm_138 rfl hs_132 rfl (Nat.le_of_ble_eq_true rfl) (Nat.le_of_ble_eq_true rfl) rfl ?_
  refine ev_aload_n (pc' := 140) (i := 0) dX8_layForm_139 rfl rfl rfl ?_
  refine ev_getR (pc' := 143) fo_X8_26 dX8_layForm_140 rfl hs_115 rfl rf_115_8 ?_
  refine ev_callS (pc' := 146) (rm' := rX8_worthOf) (av := [.ref 120]) (rest := [.long (((0 + (mW (mSel 3 (I 133) (I 134)))) + (mW (mSel 5 (I 133) (I 134)))) + (mW (mSel 6 (I 133) (I 134)))), .int 2, .ref 132]) co_X8_173 cs_X8_worthOf dX8_layForm_143 rfl rfl rfl (Nat.le_of_ble_eq_true rfl) ⟨(Nat.le_of_ble_eq_true rfl), (Nat.le_of_ble_eq_true rfl)⟩ ⟨(Nat.le_of_ble_eq_true rfl), (Nat.le_of_ble_eq_true rfl)⟩ ?_
  refine t_X8_worthOf 120 hs_120 ?_
  refine ev_eql (w := mW (mSel 9 (I 133) (I 134))) rfl ?_
  refine ev_ladd (pc' := 147) (v := (((0 + (mW (mSel 3 (I 133) (I 134)))) + (mW (mSel 5 (I 133) (I 134)))) + (mW (mSel 6 (I 133) (I 134)))) + (mW (mSel 9 (I 133) (I 134)))) dX8_layForm_146 rfl rfl ?_
  refine ev_last (pc' := 148) (j := 2) (L' := (ma_up (ma_up L 132 (ma_up (ma_up (ma_up (ma_up (ma_up (L 132) 0 0) 1 (0 + (mW (mSel 7 (I 133) (I 134))))) 2 ((((0 + (mW (mSel 3 (I 133) (I 134)))) + (mW (mSel 5 (I 133) (I 134)))) + (mW (mSel 6 (I 133) (I 134)))) + (mW (mSel 9 (I 133) (I 134))))) 3 ((((0 + (mW (mSel 1 (I 133) (I 134)))) + (mW (mSel 2 (I 133) (I 134)))) + (mW (mSel 4 (I 133) (I 134)))) + (mW (mSel 8 (I 133) (I 134))))) 4 (0 + (mW (mSel 0 (I 133) (I 134)))))) 120 (ma_up (ma_up (ma_up (ma_up (ma_up (ma_up (ma_up (ma_up (ma_up (ma_up (ma_up (ma_up (ma_up (ma_up (ma_up (ma_up r9 0 (Int32.toInt64 ((I 133) 0))) 1 (Int32.toInt64 ((I 133) 1))) 2 (Int32.toInt64 ((I 133) 2))) 3 (Int32.toInt64 ((I 133) 3))) 4 (Int32.toInt64 ((I 134) 4))) 5 (Int32.toInt64 ((I 134) 5))) 6 (Int32.toInt64 ((I 134) 6))) 7 (Int32.toInt64 ((I 134) 7))) 8 (Int32.toInt64 ((I 134) 8))) 9 (Int32.toInt64 ((I 134) 9))) 10 (Int32.toInt64 ((I 134) 10))) 11 (Int32.toInt64 ((I 134) 11))) 12 (Int32.toInt64 ((I 133) 12))) 13 (Int32.toInt64 ((I 133) 13))) 14 (Int32.toInt64 ((I 133) 14))) 15 (Int32.toInt64 ((I 133) 15))))) dX8_layForm_147 rfl hs_132 rfl (Nat.le_of_ble_eq_true rfl) (Nat.le_of_ble_eq_true rfl) ((congrArg (ma_up _ 132) ((ma_up_comm _ (show 2 ≠ 4 from (by decide)) _ _).trans (congrArg (fun f => ma_up f 4 _) ((ma_up_comm _ (show 2 ≠ 3 from (by decide)) _ _).trans (congrArg (fun f => ma_up f 3 _) (ma_up_up _ _ _ _)))))).trans ((ma_up_comm _ (show 132 ≠ 120 from (by decide)) _ _).trans (congrArg (fun f => ma_up f 120 _) (ma_up_up _ _ _ _)))) ?_
  refine ev_iinc (pc' := 151) (v := 10) (lv' := [some (.ref 115), some (.int 10), some (.int 2), some (.int 4), some (.int 1), some (.int 4)]) dX8_layForm_148 rfl rfl (by decide) (Nat.le_of_ble_eq_true rfl) rfl rfl ?_
  refine ev_goto (tgt := 22) dX8_layForm_151 rfl ?_
  refine ev_rowL (fun r10 => ?_)
  refine ev_iload_n (pc' := 23) (i := 1) dX8_layForm_22 rfl rfl rfl ?_
  refine ev_bipush (pc' := 25) (v := 16) dX8_layForm_23 rfl kb_16 ?_
  refine ev_icmp_ge (tgt := 154) (pc' := 28) dX8_layForm_25 rfl rfl (fun h => absurd h (by decide)) (fun _ => ?_)
  refine ev_iconst (pc' := 29) (v := 0) dX8_layForm_28 rfl ki_0 ?_
  refine ev_istore_n (pc' := 30) (i := 2) (lv' := [some (.ref 115), some (.int 10), some (.int 0), some (.int 4), some (.int 1), some (.int 4)]) dX8_layForm_29 rfl rfl (Nat.le_of_ble_eq_true rfl) rfl rfl ?_
  refine ev_iconst (pc' := 31) (v := 0) dX8_layForm_30 rfl ki_0 ?_
  refine ev_istore_n (pc' := 32) (i := 3) (lv' := [some (.ref 115), some (.int 10), some (.int 0), some (.int 0), some (.int 1), some (.int 4)]) dX8_layForm_31 rfl rfl (Nat.le_of_ble_eq_true rfl) rfl rfl ?_
  refine ev_iload_n (pc' := 33) (i := 3) dX8_layForm_32 rfl rfl rfl ?_
  refine ev_iconst (pc' := 34) (v := 4) dX8_layForm_33 rfl ki_4 ?_
  refine ev_icmp_ge (tgt := 130) (pc' := 37) dX8_layForm_34 rfl rfl (fun h => absurd h (by decide)) (fun _ => ?_)
  refine ev_iload_n (pc' := 38) (i := 1) dX8_layForm_37 rfl rfl rfl ?_
  refine ev_iload_n (pc' := 39) (i := 3) dX8_layForm_38 rfl rfl rfl ?_
  refine ev_ishr (pc' := 40) (v := 10) dX8_layForm_39 rfl (by decide) ?_
  refine ev_iconst (pc' := 41) (v := 1) dX8_layForm_40 rfl ki_1 ?_
  refine ev_iand (pc' := 42) (v := 0) dX8_layForm_41 rfl (by decide) ?_
  refine ev_iconst (pc' := 43) (v := 1) dX8_layForm_42 rfl ki_1 ?_
  refine ev_icmp_ne (tgt := 50) (pc' := 46) dX8_layForm_43 rfl rfl (fun _ => ?_) (fun h => absurd h (by decide))
  refine ev_iconst (pc' := 51) (v := 0) dX8_layForm_50 rfl ki_0 ?_
  refine ev_istore (pc' := 53) (lv' := [some (.ref 115), some (.int 10), some (.int 0), some (.int 0), some (.int 0), some (.int 4)]) dX8_layForm_51 rfl (Nat.le_of_ble_eq_true rfl) rfl rfl ?_
  refine ev_iload_n (pc' := 54) (i := 2) dX8_layForm_53 rfl rfl rfl ?_
  refine ev_iload (pc' := 56) dX8_layForm_54 rfl rfl ?_
  refine ev_if_eq (tgt := 63) (pc' := 59) dX8_layForm_56 rfl rfl (fun _ => ?_) (fun h => absurd (by decide) h)
  refine ev_iconst (pc' := 64) (v := 0) dX8_layForm_63 rfl ki_0 ?_
  refine ev_iadd (pc' := 65) (v := 0) dX8_layForm_64 rfl (by decide) ?_
  refine ev_istore_n (pc' := 66) (i := 2) (lv' := [some (.ref 115), some (.int 10), some (.int 0), some (.int 0), some (.int 0), some (.int 4)]) dX8_layForm_65 rfl rfl (Nat.le_of_ble_eq_true rfl) rfl rfl ?_
  refine ev_iconst (pc' := 67) (v := 0) dX8_layForm_66 rfl ki_0 ?_
  refine ev_istore (pc' := 69) (lv' := [some (.ref 115), some (.int 10), some (.int 0), some (.int 0), some (.int 0), some (.int 0)]) dX8_layForm_67 rfl (Nat.le_of_ble_eq_true rfl) rfl rfl ?_
  refine ev_iload (pc' := 71) dX8_layForm_69 rfl rfl ?_
  refine ev_iconst (pc' := 72) (v := 4) dX8_layForm_71 rfl ki_4 ?_
  refine ev_icmp_ge (tgt := 124) (pc' := 75) dX8_layForm_72 rfl rfl (fun h => absurd h (by decide)) (fun _ => ?_)
  refine ev_aload_n (pc' := 76) (i := 0) dX8_layForm_75 rfl rfl rfl ?_
  refine ev_getR (pc' := 79) fo_X8_26 dX8_layForm_76 rfl hs_115 rfl rf_115_8 ?_
  refine ev_iconst (pc' := 80) (v := 4) dX8_layForm_79 rfl ki_4 ?_
  refine ev_iload_n (pc' := 81) (i := 3) dX8_layForm_80 rfl rfl rfl ?_
  refine ev_imul (pc' := 82) (v := 0) dX8_layForm_81 rfl (by decide) ?_
  refine ev_iload (pc' := 84) dX8_layForm_82 rfl rfl ?_
  refine ev_iadd (pc' := 85) (v := 0) dX8_layForm_84 rfl (by decide) ?_
  refine ev_iload (pc' := 87) dX8_layForm_85 rfl rfl ?_
  refine ev_if_eq (tgt := 105) (pc' := 90) dX8_layForm_87 rfl rfl (fun _ => ?_) (fun h => absurd (by decide) h)
  refine ev_aload_n (pc' := 106) (i := 0) dX8_layForm_105 rfl rfl rfl ?_
  refine ev_getR (pc' := 109) fo_X8_70 dX8_layForm_106 rfl hs_115 rfl rf_115_25 ?_
  refine ev_iconst (pc' := 110) (v := 4) dX8_layForm_109 rfl ki_4 ?_
  refine ev_iload_n (pc' := 111) (i := 3) dX8_layForm_110 rfl rfl rfl ?_
  refine ev_imul (pc' := 112) (v := 0) dX8_layForm_111 rfl (by decide) ?_
  refine ev_iload (pc' := 114) dX8_layForm_112 rfl rfl ?_
  refine ev_iadd (pc' := 115) (v := 0) dX8_layForm_114 rfl (by decide) ?_
  refine ev_iald (pc' := 116) (j := 0) (v := (I 134) 0) dX8_layForm_115 rfl hs_134 rfl (Nat.le_of_ble_eq_true rfl) (Nat.le_of_ble_eq_true rfl) rfl ?_
  refine ev_i2l (pc' := 117) (v := Int32.toInt64 ((I 134) 0)) dX8_layForm_116 rfl rfl ?_
  refine ev_last (pc' := 118) (j := 0) (L' := (ma_up (ma_up L 132 (ma_up (ma_up (ma_up (ma_up (ma_up (L 132) 0 0) 1 (0 + (mW (mSel 7 (I 133) (I 134))))) 2 ((((0 + (mW (mSel 3 (I 133) (I 134)))) + (mW (mSel 5 (I 133) (I 134)))) + (mW (mSel 6 (I 133) (I 134)))) + (mW (mSel 9 (I 133) (I 134))))) 3 ((((0 + (mW (mSel 1 (I 133) (I 134)))) + (mW (mSel 2 (I 133) (I 134)))) + (mW (mSel 4 (I 133) (I 134)))) + (mW (mSel 8 (I 133) (I 134))))) 4 (0 + (mW (mSel 0 (I 133) (I 134)))))) 120 (ma_up r10 0 (Int32.toInt64 ((I 134) 0))))) dX8_layForm_117 rfl hs_120 rfl (Nat.le_of_ble_eq_true rfl) (Nat.le_of_ble_eq_true rfl) (ma_up_up _ _ _ _) ?_
  refine ev_iinc (pc' := 121) (v := 1) (lv' := [some (.ref 115), some (.int 10), some (.int 0), some (.int 0), some (.int 0), some (.int 1)]) dX8_layForm_118 rfl rfl (by decide) (Nat.le_of_ble_eq_true rfl) rfl rfl ?_
  refine ev_goto (tgt := 69) dX8_layForm_121 rfl ?_
  refine ev_iload (pc' := 71) dX8_layForm_69 rfl rfl ?_
  refine ev_iconst (pc' := 72) (v := 4) dX8_layForm_71 rfl ki_4 ?_
  refine ev_icmp_ge (tgt := 124) (pc' := 75) dX8_layForm_72 rfl rfl (fun h => absurd h (by decide)) (fun _ => ?_)
  refine ev_aload_n (pc' := 76) (i := 0) dX8_layForm_75 rfl rfl rfl ?_
  refine ev_getR (pc' := 79) fo_X8_26 dX8_layForm_76 rfl hs_115 rfl rf_115_8 ?_
  refine ev_iconst (pc' := 80) (v := 4) dX8_layForm_79 rfl ki_4 ?_
  refine ev_iload_n (pc' := 81) (i := 3) dX8_layForm_80 rfl rfl rfl ?_
  refine ev_imul (pc' := 82) (v := 0) dX8_layForm_81 rfl (by decide) ?_
  refine ev_iload (pc' := 84) dX8_layForm_82 rfl rfl ?_
  refine ev_iadd (pc' := 85) (v := 1) dX8_layForm_84 rfl (by decide) ?_
  refine ev_iload (pc' := 87) dX8_layForm_85 rfl rfl ?_
  refine ev_if_eq (tgt := 105) (pc' := 90) dX8_layForm_87 rfl rfl (fun _ => ?_) (fun h => absurd (by decide) h)
  refine ev_aload_n (pc' := 106) (i := 0) dX8_layForm_105 rfl rfl rfl ?_
  refine ev_getR (pc' := 109) fo_X8_70 dX8_layForm_106 rfl hs_115 rfl rf_115_25 ?_
  refine ev_iconst (pc' := 110) (v := 4) dX8_layForm_109 rfl ki_4 ?_
  refine ev_iload_n (pc' := 111) (i := 3) dX8_layForm_110 rfl rfl rfl ?_
  refine ev_imul (pc' := 112) (v := 0) dX8_layForm_111 rfl (by decide) ?_
  refine ev_iload (pc' := 114) dX8_layForm_112 rfl rfl ?_
  refine ev_iadd (pc' := 115) (v := 1) dX8_layForm_114 rfl (by decide) ?_
  refine ev_iald (pc' := 116) (j := 1) (v := (I 134) 1) dX8_layForm_115 rfl hs_134 rfl (Nat.le_of_ble_eq_true rfl) (Nat.le_of_ble_eq_true rfl) rfl ?_
  refine ev_i2l (pc' := 117) (v := Int32.toInt64 ((I 134) 1)) dX8_layForm_116 rfl rfl ?_
  refine ev_last (pc' := 118) (j := 1) (L' := (ma_up (ma_up L 132 (ma_up (ma_up (ma_up (ma_up (ma_up (L 132) 0 0) 1 (0 + (mW (mSel 7 (I 133) (I 134))))) 2 ((((0 + (mW (mSel 3 (I 133) (I 134)))) + (mW (mSel 5 (I 133) (I 134)))) + (mW (mSel 6 (I 133) (I 134)))) + (mW (mSel 9 (I 133) (I 134))))) 3 ((((0 + (mW (mSel 1 (I 133) (I 134)))) + (mW (mSel 2 (I 133) (I 134)))) + (mW (mSel 4 (I 133) (I 134)))) + (mW (mSel 8 (I 133) (I 134))))) 4 (0 + (mW (mSel 0 (I 133) (I 134)))))) 120 (ma_up (ma_up r10 0 (Int32.toInt64 ((I 134) 0))) 1 (Int32.toInt64 ((I 134) 1))))) dX8_layForm_117 rfl hs_120 rfl (Nat.le_of_ble_eq_true rfl) (Nat.le_of_ble_eq_true rfl) (ma_up_up _ _ _ _) ?_
  refine ev_iinc (pc' := 121) (v := 2) (lv' := [some (.ref 115), some (.int 10), some (.int 0), some (.int 0), some (.int 0), some (.int 2)]) dX8_layForm_118 rfl rfl (by decide) (Nat.le_of_ble_eq_true rfl) rfl rfl ?_
  refine ev_goto (tgt := 69) dX8_layForm_121 rfl ?_
  refine ev_iload (pc' := 71) dX8_layForm_69 rfl rfl ?_
  refine ev_iconst (pc' := 72) (v := 4) dX8_layForm_71 rfl ki_4 ?_
  refine ev_icmp_ge (tgt := 124) (pc' := 75) dX8_layForm_72 rfl rfl (fun h => absurd h (by decide)) (fun _ => ?_)
  refine ev_aload_n (pc' := 76) (i := 0) dX8_layForm_75 rfl rfl rfl ?_
  refine ev_getR (pc' := 79) fo_X8_26 dX8_layForm_76 rfl hs_115 rfl rf_115_8 ?_
  refine ev_iconst (pc' := 80) (v := 4) dX8_layForm_79 rfl ki_4 ?_
  refine ev_iload_n (pc' := 81) (i := 3) dX8_layForm_80 rfl rfl rfl ?_
  refine ev_imul (pc' := 82) (v := 0) dX8_layForm_81 rfl (by decide) ?_
  refine ev_iload (pc' := 84) dX8_layForm_82 rfl rfl ?_
  refine ev_iadd (pc' := 85) (v := 2) dX8_layForm_84 rfl (by decide) ?_
  refine ev_iload (pc' := 87) dX8_layForm_85 rfl rfl ?_
  refine ev_if_eq (tgt := 105) (pc' := 90) dX8_layForm_87 rfl rfl (fun _ => ?_) (fun h => absurd (by decide) h)
  refine ev_aload_n (pc' := 106) (i := 0) dX8_layForm_105 rfl rfl rfl ?_
  refine ev_getR (pc' := 109) fo_X8_70 dX8_layForm_106 rfl hs_115 rfl rf_115_25 ?_
  refine ev_iconst (pc' := 110) (v := 4) dX8_layForm_109 rfl ki_4 ?_
  refine ev_iload_n (pc' := 111) (i := 3) dX8_layForm_110 rfl rfl rfl ?_
  refine ev_imul (pc' := 112) (v := 0) dX8_layForm_111 rfl (by decide) ?_
  refine ev_iload (pc' := 114) dX8_layForm_112 rfl rfl ?_
  refine ev_iadd (pc' := 115) (v := 2) dX8_layForm_114 rfl (by decide) ?_
  refine ev_iald (pc' := 116) (j := 2) (v := (I 134) 2) dX8_layForm_115 rfl hs_134 rfl (Nat.le_of_ble_eq_true rfl) (Nat.le_of_ble_eq_true rfl) rfl ?_
  refine ev_i2l (pc' := 117) (v := Int32.toInt64 ((I 134) 2)) dX8_layForm_116 rfl rfl ?_
  refine ev_last (pc' := 118) (j := 2) (L' := (ma_up (ma_up L 132 (ma_up (ma_up (ma_up (ma_up (ma_up (L 132) 0 0) 1 (0 + (mW (mSel 7 (I 133) (I 134))))) 2 ((((0 + (mW (mSel 3 (I 133) (I 134)))) + (mW (mSel 5 (I 133) (I 134)))) + (mW (mSel 6 (I 133) (I 134)))) + (mW (mSel 9 (I 133) (I 134))))) 3 ((((0 + (mW (mSel 1 (I 133) (I 134)))) + (mW (mSel 2 (I 133) (I 134)))) + (mW (mSel 4 (I 133) (I 134)))) + (mW (mSel 8 (I 133) (I 134))))) 4 (0 + (mW (mSel 0 (I 133) (I 134)))))) 120 (ma_up (ma_up (ma_up r10 0 (Int32.toInt64 ((I 134) 0))) 1 (Int32.toInt64 ((I 134) 1))) 2 (Int32.toInt64 ((I 134) 2))))) dX8_layForm_117 rfl hs_120 rfl (Nat.le_of_ble_eq_true rfl) (Nat.le_of_ble_eq_true rfl) (ma_up_up _ _ _ _) ?_
  refine ev_iinc (pc' := 121) (v := 3) (lv' := [some (.ref 115), some (.int 10), some (.int 0), some (.int 0), some (.int 0), some (.int 3)]) dX8_layForm_118 rfl rfl (by decide) (Nat.le_of_ble_eq_true rfl) rfl rfl ?_
  refine ev_goto (tgt := 69) dX8_layForm_121 rfl ?_
  refine ev_iload (pc' := 71) dX8_layForm_69 rfl rfl ?_
  refine ev_iconst (pc' := 72) (v := 4) dX8_layForm_71 rfl ki_4 ?_
  refine ev_icmp_ge (tgt := 124) (pc' := 75) dX8_layForm_72 rfl rfl (fun h => absurd h (by decide)) (fun _ => ?_)
  refine ev_aload_n (pc' := 76) (i := 0) dX8_layForm_75 rfl rfl rfl ?_
  refine ev_getR (pc' := 79) fo_X8_26 dX8_layForm_76 rfl hs_115 rfl rf_115_8 ?_
  refine ev_iconst (pc' := 80) (v := 4) dX8_layForm_79 rfl ki_4 ?_
  refine ev_iload_n (pc' := 81) (i := 3) dX8_layForm_80 rfl rfl rfl ?_
  refine ev_imul (pc' := 82) (v := 0) dX8_layForm_81 rfl (by decide) ?_
  refine ev_iload (pc' := 84) dX8_layForm_82 rfl rfl ?_
  refine ev_iadd (pc' := 85) (v := 3) dX8_layForm_84 rfl (by decide) ?_
  refine ev_iload (pc' := 87) dX8_layForm_85 rfl rfl ?_
  refine ev_if_eq (tgt := 105) (pc' := 90) dX8_layForm_87 rfl rfl (fun _ => ?_) (fun h => absurd (by decide) h)
  refine ev_aload_n (pc' := 106) (i := 0) dX8_layForm_105 rfl rfl rfl ?_
  refine ev_getR (pc' := 109) fo_X8_70 dX8_layForm_106 rfl hs_115 rfl rf_115_25 ?_
  refine ev_iconst (pc' := 110) (v := 4) dX8_layForm_109 rfl ki_4 ?_
  refine ev_iload_n (pc' := 111) (i := 3) dX8_layForm_110 rfl rfl rfl ?_
  refine ev_imul (pc' := 112) (v := 0) dX8_layForm_111 rfl (by decide) ?_
  refine ev_iload (pc' := 114) dX8_layForm_112 rfl rfl ?_
  refine ev_iadd (pc' := 115) (v := 3) dX8_layForm_114 rfl (by decide) ?_
  refine ev_iald (pc' := 116) (j := 3) (v := (I 134) 3) dX8_layForm_115 rfl hs_134 rfl (Nat.le_of_ble_eq_true rfl) (Nat.le_of_ble_eq_true rfl) rfl ?_
  refine ev_i2l (pc' := 117) (v := Int32.toInt64 ((I 134) 3)) dX8_layForm_116 rfl rfl ?_
  refine ev_last (pc' := 118) (j := 3) (L' := (ma_up (ma_up L 132 (ma_up (ma_up (ma_up (ma_up (ma_up (L 132) 0 0) 1 (0 + (mW (mSel 7 (I 133) (I 134))))) 2 ((((0 + (mW (mSel 3 (I 133) (I 134)))) + (mW (mSel 5 (I 133) (I 134)))) + (mW (mSel 6 (I 133) (I 134)))) + (mW (mSel 9 (I 133) (I 134))))) 3 ((((0 + (mW (mSel 1 (I 133) (I 134)))) + (mW (mSel 2 (I 133) (I 134)))) + (mW (mSel 4 (I 133) (I 134)))) + (mW (mSel 8 (I 133) (I 134))))) 4 (0 + (mW (mSel 0 (I 133) (I 134)))))) 120 (ma_up (ma_up (ma_up (ma_up r10 0 (Int32.toInt64 ((I 134) 0))) 1 (Int32.toInt64 ((I 134) 1))) 2 (Int32.toInt64 ((I 134) 2))) 3 (Int32.toInt64 ((I 134) 3))))) dX8_layForm_117 rfl hs_120 rfl (Nat.le_of_ble_eq_true rfl) (Nat.le_of_ble_eq_true rfl) (ma_up_up _ _ _ _) ?_
  refine ev_iinc (pc' := 121) (v := 4) (lv' := [some (.ref 115), some (.int 10), some (.int 0), some (.int 0), some (.int 0), some (.int 4)]) dX8_layForm_118 rfl rfl (by decide) (Nat.le_of_ble_eq_true rfl) rfl rfl ?_
  refine ev_goto (tgt := 69) dX8_layForm_121 rfl ?_
  refine ev_iload (pc' := 71) dX8_layForm_69 rfl rfl ?_
  refine ev_iconst (pc' := 72) (v := 4) dX8_layForm_71 rfl ki_4 ?_
  refine ev_icmp_ge (tgt := 124) (pc' := 75) dX8_layForm_72 rfl rfl (fun _ => ?_) (fun h => absurd (by decide) h)
  refine ev_iinc (pc' := 127) (v := 1) (lv' := [some (.ref 115), some (.int 10), some (.int 0), some (.int 1), some (.int 0), some (.int 4)]) dX8_layForm_124 rfl rfl (by decide) (Nat.le_of_ble_eq_true rfl) rfl rfl ?_
  refine ev_goto (tgt := 32) dX8_layForm_127 rfl ?_
  refine ev_iload_n (pc' := 33) (i := 3) dX8_layForm_32 rfl rfl rfl ?_
  refine ev_iconst (pc' := 34) (v := 4) dX8_layForm_33 rfl ki_4 ?_
  refine ev_icmp_ge (tgt := 130) (pc' := 37) dX8_layForm_34 rfl rfl (fun h => absurd h (by decide)) (fun _ => ?_)
  refine ev_iload_n (pc' := 38) (i := 1) dX8_layForm_37 rfl rfl rfl ?_
  refine ev_iload_n (pc' := 39) (i := 3) dX8_layForm_38 rfl rfl rfl ?_
  refine ev_ishr (pc' := 40) (v := 5) dX8_layForm_39 rfl (by decide) ?_
  refine ev_iconst (pc' := 41) (v := 1) dX8_layForm_40 rfl ki_1 ?_
  refine ev_iand (pc' := 42) (v := 1) dX8_layForm_41 rfl (by decide) ?_
  refine ev_iconst (pc' := 43) (v := 1) dX8_layForm_42 rfl ki_1 ?_
  refine ev_icmp_ne (tgt := 50) (pc' := 46) dX8_layForm_43 rfl rfl (fun h => absurd (by decide) h) (fun _ => ?_)
  refine ev_iconst (pc' := 47) (v := 1) dX8_layForm_46 rfl ki_1 ?_
  refine ev_goto (tgt := 51) dX8_layForm_47 rfl ?_
  refine ev_istore (pc' := 53) (lv' := [some (.ref 115), some (.int 10), some (.int 0), some (.int 1), some (.int 1), some (.int 4)]) dX8_layForm_51 rfl (Nat.le_of_ble_eq_true rfl) rfl rfl ?_
  refine ev_iload_n (pc' := 54) (i := 2) dX8_layForm_53 rfl rfl rfl ?_
  refine ev_iload (pc' := 56) dX8_layForm_54 rfl rfl ?_
  refine ev_if_eq (tgt := 63) (pc' := 59) dX8_layForm_56 rfl rfl (fun h => absurd h (by decide)) (fun _ => ?_)
  refine ev_iconst (pc' := 60) (v := 1) dX8_layForm_59 rfl ki_1 ?_
  refine ev_goto (tgt := 64) dX8_layForm_60 rfl ?_
  refine ev_iadd (pc' := 65) (v := 1) dX8_layForm_64 rfl (by decide) ?_
  refine ev_istore_n (pc' := 66) (i := 2) (lv' := [some (.ref 115), some (.int 10), some (.int 1), some (.int 1), some (.int 1), some (.int 4)]) dX8_layForm_65 rfl rfl (Nat.le_of_ble_eq_true rfl) rfl rfl ?_
  refine ev_iconst (pc' := 67) (v := 0) dX8_layForm_66 rfl ki_0 ?_
  refine ev_istore (pc' := 69) (lv' := [some (.ref 115), some (.int 10), some (.int 1), some (.int 1), some (.int 1), some (.int 0)]) dX8_layForm_67 rfl (Nat.le_of_ble_eq_true rfl) rfl rfl ?_
  refine ev_iload (pc' := 71) dX8_layForm_69 rfl rfl ?_
  refine ev_iconst (pc' := 72) (v := 4) dX8_layForm_71 rfl ki_4 ?_
  refine ev_icmp_ge (tgt := 124) (pc' := 75) dX8_layForm_72 rfl rfl (fun h => absurd h (by decide)) (fun _ => ?_)
  refine ev_aload_n (pc' := 76) (i := 0) dX8_layForm_75 rfl rfl rfl ?_
  refine ev_getR (pc' := 79) fo_X8_26 dX8_layForm_76 rfl hs_115 rfl rf_115_8 ?_
  refine ev_iconst (pc' := 80) (v := 4) dX8_layForm_79 rfl ki_4 ?_
  refine ev_iload_n (pc' := 81) (i := 3) dX8_layForm_80 rfl rfl rfl ?_
  refine ev_imul (pc' := 82) (v := 4) dX8_layForm_81 rfl (by decide) ?_
  refine ev_iload (pc' := 84) dX8_layForm_82 rfl rfl ?_
  refine ev_iadd (pc' := 85) (v := 4) dX8_layForm_84 rfl (by decide) ?_
  refine ev_iload (pc' := 87) dX8_layForm_85 rfl rfl ?_
  refine ev_if_eq (tgt := 105) (pc' := 90) dX8_layForm_87 rfl rfl (fun h => absurd h (by decide)) (fun _ => ?_)
  refine ev_aload_n (pc' := 91) (i := 0) dX8_layForm_90 rfl rfl rfl ?_
  refine ev_getR (pc' := 94) fo_X8_67 dX8_layForm_91 rfl hs_115 rfl rf_115_24 ?_
  refine ev_iconst (pc' := 95) (v := 4) dX8_layForm_94 rfl ki_4 ?_
  refine ev_iload_n (pc' := 96) (i := 3) dX8_layForm_95 rfl rfl rfl ?_
  refine ev_imul (pc' := 97) (v := 4) dX8_layForm_96 rfl (by decide) ?_
  refine ev_iload (pc' := 99) dX8_layForm_97 rfl rfl ?_
  refine ev_iadd (pc' := 100) (v := 4) dX8_layForm_99 rfl (by decide) ?_
  refine ev_iald (pc' := 101) (j := 4) (v := (I 133) 4) dX8_layForm_100 rfl hs_133 rfl (Nat.le_of_ble_eq_true rfl) (Nat.le_of_ble_eq_true rfl) rfl ?_
  refine ev_i2l (pc' := 102) (v := Int32.toInt64 ((I 133) 4)) dX8_layForm_101 rfl rfl ?_
  refine ev_goto (tgt := 117) dX8_layForm_102 rfl ?_
  refine ev_last (pc' := 118) (j := 4) (L' := (ma_up (ma_up L 132 (ma_up (ma_up (ma_up (ma_up (ma_up (L 132) 0 0) 1 (0 + (mW (mSel 7 (I 133) (I 134))))) 2 ((((0 + (mW (mSel 3 (I 133) (I 134)))) + (mW (mSel 5 (I 133) (I 134)))) + (mW (mSel 6 (I 133) (I 134)))) + (mW (mSel 9 (I 133) (I 134))))) 3 ((((0 + (mW (mSel 1 (I 133) (I 134)))) + (mW (mSel 2 (I 133) (I 134)))) + (mW (mSel 4 (I 133) (I 134)))) + (mW (mSel 8 (I 133) (I 134))))) 4 (0 + (mW (mSel 0 (I 133) (I 134)))))) 120 (ma_up (ma_up (ma_up (ma_up (ma_up r10 0 (Int32.toInt64 ((I 134) 0))) 1 (Int32.toInt64 ((I 134) 1))) 2 (Int32.toInt64 ((I 134) 2))) 3 (Int32.toInt64 ((I 134) 3))) 4 (Int32.toInt64 ((I 133) 4))))) dX8_layForm_117 rfl hs_120 rfl (Nat.le_of_ble_eq_true rfl) (Nat.le_of_ble_eq_true rfl) (ma_up_up _ _ _ _) ?_
  refine ev_iinc (pc' := 121) (v := 1) (lv' := [some (.ref 115), some (.int 10), some (.int 1), some (.int 1), some (.int 1), some (.int 1)]) dX8_layForm_118 rfl rfl (by decide) (Nat.le_of_ble_eq_true rfl) rfl rfl ?_
  refine ev_goto (tgt := 69) dX8_layForm_121 rfl ?_
  refine ev_iload (pc' := 71) dX8_layForm_69 rfl rfl ?_
  refine ev_iconst (pc' := 72) (v := 4) dX8_layForm_71 rfl ki_4 ?_
  refine ev_icmp_ge (tgt := 124) (pc' := 75) dX8_layForm_72 rfl rfl (fun h => absurd h (by decide)) (fun _ => ?_)
  refine ev_aload_n (pc' := 76) (i := 0) dX8_layForm_75 rfl rfl rfl ?_
  refine ev_getR (pc' := 79) fo_X8_26 dX8_layForm_76 rfl hs_115 rfl rf_115_8 ?_
  refine ev_iconst (pc' := 80) (v := 4) dX8_layForm_79 rfl ki_4 ?_
  refine ev_iload_n (pc' := 81) (i := 3) dX8_layForm_80 rfl rfl rfl ?_
  refine ev_imul (pc' := 82) (v := 4) dX8_layForm_81 rfl (by decide) ?_
  refine ev_iload (pc' := 84) dX8_layForm_82 rfl rfl ?_
  refine ev_iadd (pc' := 85) (v := 5) dX8_layForm_84 rfl (by decide) ?_
  refine ev_iload (pc' := 87) dX8_layForm_85 rfl rfl ?_
  refine ev_if_eq (tgt := 105) (pc' := 90) dX8_layForm_87 rfl rfl (fun h => absurd h (by decide)) (fun _ => ?_)
  refine ev_aload_n (pc' := 91) (i := 0) dX8_layForm_90 rfl rfl rfl ?_
  refine ev_getR (pc' := 94) fo_X8_67 dX8_layForm_91 rfl hs_115 rfl rf_115_24 ?_
  refine ev_iconst (pc' := 95) (v := 4) dX8_layForm_94 rfl ki_4 ?_
  refine ev_iload_n (pc' := 96) (i := 3) dX8_layForm_95 rfl rfl rfl ?_
  refine ev_imul (pc' := 97) (v := 4) dX8_layForm_96 rfl (by decide) ?_
  refine ev_iload (pc' := 99) dX8_layForm_97 rfl rfl ?_
  refine ev_iadd (pc' := 100) (v := 5) dX8_layForm_99 rfl (by decide) ?_
  refine ev_iald (pc' := 101) (j := 5) (v := (I 133) 5) dX8_layForm_100 rfl hs_133 rfl (Nat.le_of_ble_eq_true rfl) (Nat.le_of_ble_eq_true rfl) rfl ?_
  refine ev_i2l (pc' := 102) (v := Int32.toInt64 ((I 133) 5)) dX8_layForm_101 rfl rfl ?_
  refine ev_goto (tgt := 117) dX8_layForm_102 rfl ?_
  refine ev_last (pc' := 118) (j := 5) (L' := (ma_up (ma_up L 132 (ma_up (ma_up (ma_up (ma_up (ma_up (L 132) 0 0) 1 (0 + (mW (mSel 7 (I 133) (I 134))))) 2 ((((0 + (mW (mSel 3 (I 133) (I 134)))) + (mW (mSel 5 (I 133) (I 134)))) + (mW (mSel 6 (I 133) (I 134)))) + (mW (mSel 9 (I 133) (I 134))))) 3 ((((0 + (mW (mSel 1 (I 133) (I 134)))) + (mW (mSel 2 (I 133) (I 134)))) + (mW (mSel 4 (I 133) (I 134)))) + (mW (mSel 8 (I 133) (I 134))))) 4 (0 + (mW (mSel 0 (I 133) (I 134)))))) 120 (ma_up (ma_up (ma_up (ma_up (ma_up (ma_up r10 0 (Int32.toInt64 ((I 134) 0))) 1 (Int32.toInt64 ((I 134) 1))) 2 (Int32.toInt64 ((I 134) 2))) 3 (Int32.toInt64 ((I 134) 3))) 4 (Int32.toInt64 ((I 133) 4))) 5 (Int32.toInt64 ((I 133) 5))))) dX8_layForm_117 rfl hs_120 rfl (Nat.le_of_ble_eq_true rfl) (Nat.le_of_ble_eq_true rfl) (ma_up_up _ _ _ _) ?_
  refine ev_iinc (pc' := 121) (v := 2) (lv' := [some (.ref 115), some (.int 10), some (.int 1), some (.int 1), some (.int 1), some (.int 2)]) dX8_layForm_118 rfl rfl (by decide) (Nat.le_of_ble_eq_true rfl) rfl rfl ?_
  refine ev_goto (tgt := 69) dX8_layForm_121 rfl ?_
  refine ev_iload (pc' := 71) dX8_layForm_69 rfl rfl ?_
  refine ev_iconst (pc' := 72) (v := 4) dX8_layForm_71 rfl ki_4 ?_
  refine ev_icmp_ge (tgt := 124) (pc' := 75) dX8_layForm_72 rfl rfl (fun h => absurd h (by decide)) (fun _ => ?_)
  refine ev_aload_n (pc' := 76) (i := 0) dX8_layForm_75 rfl rfl rfl ?_
  refine ev_getR (pc' := 79) fo_X8_26 dX8_layForm_76 rfl hs_115 rfl rf_115_8 ?_
  refine ev_iconst (pc' := 80) (v := 4) dX8_layForm_79 rfl ki_4 ?_
  refine ev_iload_n (pc' := 81) (i := 3) dX8_layForm_80 rfl rfl rfl ?_
  refine ev_imul (pc' := 82) (v := 4) dX8_layForm_81 rfl (by decide) ?_
  refine ev_iload (pc' := 84) dX8_layForm_82 rfl rfl ?_
  refine ev_iadd (pc' := 85) (v := 6) dX8_layForm_84 rfl (by decide) ?_
  refine ev_iload (pc' := 87) dX8_layForm_85 rfl rfl ?_
  refine ev_if_eq (tgt := 105) (pc' := 90) dX8_layForm_87 rfl rfl (fun h => absurd h (by decide)) (fun _ => ?_)
  refine ev_aload_n (pc' := 91) (i := 0) dX8_layForm_90 rfl rfl rfl ?_
  refine ev_getR (pc' := 94) fo_X8_67 dX8_layForm_91 rfl hs_115 rfl rf_115_24 ?_
  refine ev_iconst (pc' := 95) (v := 4) dX8_layForm_94 rfl ki_4 ?_
  refine ev_iload_n (pc' := 96) (i := 3) dX8_layForm_95 rfl rfl rfl ?_
  refine ev_imul (pc' := 97) (v := 4) dX8_layForm_96 rfl (by decide) ?_
  refine ev_iload (pc' := 99) dX8_layForm_97 rfl rfl ?_
  refine ev_iadd (pc' := 100) (v := 6) dX8_layForm_99 rfl (by decide) ?_
  refine ev_iald (pc' := 101) (j := 6) (v := (I 133) 6) dX8_layForm_100 rfl hs_133 rfl (Nat.le_of_ble_eq_true rfl) (Nat.le_of_ble_eq_true rfl) rfl ?_
  refine ev_i2l (pc' := 102) (v := Int32.toInt64 ((I 133) 6)) dX8_layForm_101 rfl rfl ?_
  refine ev_goto (tgt := 117) dX8_layForm_102 rfl ?_
  refine ev_last (pc' := 118) (j := 6) (L' := (ma_up (ma_up L 132 (ma_up (ma_up (ma_up (ma_up (ma_up (L 132) 0 0) 1 (0 + (mW (mSel 7 (I 133) (I 134))))) 2 ((((0 + (mW (mSel 3 (I 133) (I 134)))) + (mW (mSel 5 (I 133) (I 134)))) + (mW (mSel 6 (I 133) (I 134)))) + (mW (mSel 9 (I 133) (I 134))))) 3 ((((0 + (mW (mSel 1 (I 133) (I 134)))) + (mW (mSel 2 (I 133) (I 134)))) + (mW (mSel 4 (I 133) (I 134)))) + (mW (mSel 8 (I 133) (I 134))))) 4 (0 + (mW (mSel 0 (I 133) (I 134)))))) 120 (ma_up (ma_up (ma_up (ma_up (ma_up (ma_up (ma_up r10 0 (Int32.toInt64 ((I 134) 0))) 1 (Int32.toInt64 ((I 134) 1))) 2 (Int32.toInt64 ((I 134) 2))) 3 (Int32.toInt64 ((I 134) 3))) 4 (Int32.toInt64 ((I 133) 4))) 5 (Int32.toInt64 ((I 133) 5))) 6 (Int32.toInt64 ((I 133) 6))))) dX8_layForm_117 rfl hs_120 rfl (Nat.le_of_ble_eq_true rfl) (Nat.le_of_ble_eq_true rfl) (ma_up_up _ _ _ _) ?_
  refine ev_iinc (pc' := 121) (v := 3) (lv' := [some (.ref 115), some (.int 10), some (.int 1), some (.int 1), some (.int 1), some (.int 3)]) dX8_layForm_118 rfl rfl (by decide) (Nat.le_of_ble_eq_true rfl) rfl rfl ?_
  refine ev_goto (tgt := 69) dX8_layForm_121 rfl ?_
  refine ev_iload (pc' := 71) dX8_layForm_69 rfl rfl ?_
  refine ev_iconst (pc' := 72) (v := 4) dX8_layForm_71 rfl ki_4 ?_
  refine ev_icmp_ge (tgt := 124) (pc' := 75) dX8_layForm_72 rfl rfl (fun h => absurd h (by decide)) (fun _ => ?_)
  refine ev_aload_n (pc' := 76) (i := 0) dX8_layForm_75 rfl rfl rfl ?_
  refine ev_getR (pc' := 79) fo_X8_26 dX8_layForm_76 rfl hs_115 rfl rf_115_8 ?_
  refine ev_iconst (pc' := 80) (v := 4) dX8_layForm_79 rfl ki_4 ?_
  refine ev_iload_n (pc' := 81) (i := 3) dX8_layForm_80 rfl rfl rfl ?_
  refine ev_imul (pc' := 82) (v := 4) dX8_layForm_81 rfl (by decide) ?_
  refine ev_iload (pc' := 84) dX8_layForm_82 rfl rfl ?_
  refine ev_iadd (pc' := 85) (v := 7) dX8_layForm_84 rfl (by decide) ?_
  refine ev_iload (pc' := 87) dX8_layForm_85 rfl rfl ?_
  refine ev_if_eq (tgt := 105) (pc' := 90) dX8_layForm_87 rfl rfl (fun h => absurd h (by decide)) (fun _ => ?_)
  refine ev_aload_n (pc' := 91) (i := 0) dX8_layForm_90 rfl rfl rfl ?_
  refine ev_getR (pc' := 94) fo_X8_67 dX8_layForm_91 rfl hs_115 rfl rf_115_24 ?_
  refine ev_iconst (pc' := 95) (v := 4) dX8_layForm_94 rfl ki_4 ?_
  refine ev_iload_n (pc' := 96) (i := 3) dX8_layForm_95 rfl rfl rfl ?_
  refine ev_imul (pc' := 97) (v := 4) dX8_layForm_96 rfl (by decide) ?_
  refine ev_iload (pc' := 99) dX8_layForm_97 rfl rfl ?_
  refine ev_iadd (pc' := 100) (v := 7) dX8_layForm_99 rfl (by decide) ?_
  refine ev_iald (pc' := 101) (j := 7) (v := (I 133) 7) dX8_layForm_100 rfl hs_133 rfl (Nat.le_of_ble_eq_true rfl) (Nat.le_of_ble_eq_true rfl) rfl ?_
  refine ev_i2l (pc' := 102) (v := Int32.toInt64 ((I 133) 7)) dX8_layForm_101 rfl rfl ?_
  refine ev_goto (tgt := 117) dX8_layForm_102 rfl ?_
  refine ev_last (pc' := 118) (j := 7) (L' := (ma_up (ma_up L 132 (ma_up (ma_up (ma_up (ma_up (ma_up (L 132) 0 0) 1 (0 + (mW (mSel 7 (I 133) (I 134))))) 2 ((((0 + (mW (mSel 3 (I 133) (I 134)))) + (mW (mSel 5 (I 133) (I 134)))) + (mW (mSel 6 (I 133) (I 134)))) + (mW (mSel 9 (I 133) (I 134))))) 3 ((((0 + (mW (mSel 1 (I 133) (I 134)))) + (mW (mSel 2 (I 133) (I 134)))) + (mW (mSel 4 (I 133) (I 134)))) + (mW (mSel 8 (I 133) (I 134))))) 4 (0 + (mW (mSel 0 (I 133) (I 134)))))) 120 (ma_up (ma_up (ma_up (ma_up (ma_up (ma_up (ma_up (ma_up r10 0 (Int32.toInt64 ((I 134) 0))) 1 (Int32.toInt64 ((I 134) 1))) 2 (Int32.toInt64 ((I 134) 2))) 3 (Int32.toInt64 ((I 134) 3))) 4 (Int32.toInt64 ((I 133) 4))) 5 (Int32.toInt64 ((I 133) 5))) 6 (Int32.toInt64 ((I 133) 6))) 7 (Int32.toInt64 ((I 133) 7))))) dX8_layForm_117 rfl hs_120 rfl (Nat.le_of_ble_eq_true rfl) (Nat.le_of_ble_eq_true rfl) (ma_up_up _ _ _ _) ?_
  refine ev_iinc (pc' := 121) (v := 4) (lv' := [some (.ref 115), some (.int 10), some (.int 1), some (.int 1), some (.int 1), some (.int 4)]) dX8_layForm_118 rfl rfl (by decide) (Nat.le_of_ble_eq_true rfl) rfl rfl ?_
  refine ev_goto (tgt := 69) dX8_layForm_121 rfl ?_
  refine ev_iload (pc' := 71) dX8_layForm_69 rfl rfl ?_
  refine ev_iconst (pc' := 72) (v := 4) dX8_layForm_71 rfl ki_4 ?_
  refine ev_icmp_ge (tgt := 124) (pc' := 75) dX8_layForm_72 rfl rfl (fun _ => ?_) (fun h => absurd (by decide) h)
  refine ev_iinc (pc' := 127) (v := 2) (lv' := [some (.ref 115), some (.int 10), some (.int 1), some (.int 2), some (.int 1), some (.int 4)]) dX8_layForm_124 rfl rfl (by decide) (Nat.le_of_ble_eq_true rfl) rfl rfl ?_
  refine ev_goto (tgt := 32) dX8_layForm_127 rfl ?_
  refine ev_iload_n (pc' := 33) (i := 3) dX8_layForm_32 rfl rfl rfl ?_
  refine ev_iconst (pc' := 34) (v := 4) dX8_layForm_33 rfl ki_4 ?_
  refine ev_icmp_ge (tgt := 130) (pc' := 37) dX8_layForm_34 rfl rfl (fun h => absurd h (by decide)) (fun _ => ?_)
  refine ev_iload_n (pc' := 38) (i := 1) dX8_layForm_37 rfl rfl rfl ?_
  refine ev_iload_n (pc' := 39) (i := 3) dX8_layForm_38 rfl rfl rfl ?_
  refine ev_ishr (pc' := 40) (v := 2) dX8_layForm_39 rfl (by decide) ?_
  refine ev_iconst (pc' := 41) (v := 1) dX8_layForm_40 rfl ki_1 ?_
  refine ev_iand (pc' := 42) (v := 0) dX8_layForm_41 rfl (by decide) ?_
  refine ev_iconst (pc' := 43) (v := 1) dX8_layForm_42 rfl ki_1 ?_
  refine ev_icmp_ne (tgt := 50) (pc' := 46) dX8_layForm_43 rfl rfl (fun _ => ?_) (fun h => absurd h (by decide))
  refine ev_iconst (pc' := 51) (v := 0) dX8_layForm_50 rfl ki_0 ?_
  refine ev_istore (pc' := 53) (lv' := [some (.ref 115), some (.int 10), some (.int 1), some (.int 2), some (.int 0), some (.int 4)]) dX8_layForm_51 rfl (Nat.le_of_ble_eq_true rfl) rfl rfl ?_
  refine ev_iload_n (pc' := 54) (i := 2) dX8_layForm_53 rfl rfl rfl ?_
  refine ev_iload (pc' := 56) dX8_layForm_54 rfl rfl ?_
  refine ev_if_eq (tgt := 63) (pc' := 59) dX8_layForm_56 rfl rfl (fun _ => ?_) (fun h => absurd (by decide) h)
  refine ev_iconst (pc' := 64) (v := 0) dX8_layForm_63 rfl ki_0 ?_
  refine ev_iadd (pc' := 65) (v := 1) dX8_layForm_64 rfl (by decide) ?_
  refine ev_istore_n (pc' := 66) (i := 2) (lv' := [some (.ref 115), some (.int 10), some (.int 1), some (.int 2), some (.int 0), some (.int 4)]) dX8_layForm_65 rfl rfl (Nat.le_of_ble_eq_true rfl) rfl rfl ?_
  refine ev_iconst (pc' := 67) (v := 0) dX8_layForm_66 rfl ki_0 ?_
  refine ev_istore (pc' := 69) (lv' := [some (.ref 115), some (.int 10), some (.int 1), some (.int 2), some (.int 0), some (.int 0)]) dX8_layForm_67 rfl (Nat.le_of_ble_eq_true rfl) rfl rfl ?_
  refine ev_iload (pc' := 71) dX8_layForm_69 rfl rfl ?_
  refine ev_iconst (pc' := 72) (v := 4) dX8_layForm_71 rfl ki_4 ?_
  refine ev_icmp_ge (tgt := 124) (pc' := 75) dX8_layForm_72 rfl rfl (fun h => absurd h (by decide)) (fun _ => ?_)
  refine ev_aload_n (pc' := 76) (i := 0) dX8_layForm_75 rfl rfl rfl ?_
  refine ev_getR (pc' := 79) fo_X8_26 dX8_layForm_76 rfl hs_115 rfl rf_115_8 ?_
  refine ev_iconst (pc' := 80) (v := 4) dX8_layForm_79 rfl ki_4 ?_
  refine ev_iload_n (pc' := 81) (i := 3) dX8_layForm_80 rfl rfl rfl ?_
  refine ev_imul (pc' := 82) (v := 8) dX8_layForm_81 rfl (by decide) ?_
  refine ev_iload (pc' := 84) dX8_layForm_82 rfl rfl ?_
  refine ev_iadd (pc' := 85) (v := 8) dX8_layForm_84 rfl (by decide) ?_
  refine ev_iload (pc' := 87) dX8_layForm_85 rfl rfl ?_
  refine ev_if_eq (tgt := 105) (pc' := 90) dX8_layForm_87 rfl rfl (fun _ => ?_) (fun h => absurd (by decide) h)
  refine ev_aload_n (pc' := 106) (i := 0) dX8_layForm_105 rfl rfl rfl ?_
  refine ev_getR (pc' := 109) fo_X8_70 dX8_layForm_106 rfl hs_115 rfl rf_115_25 ?_
  refine ev_iconst (pc' := 110) (v := 4) dX8_layForm_109 rfl ki_4 ?_
  refine ev_iload_n (pc' := 111) (i := 3) dX8_layForm_110 rfl rfl rfl ?_
  refine ev_imul (pc' := 112) (v := 8) dX8_layForm_111 rfl (by decide) ?_
  refine ev_iload (pc' := 114) dX8_layForm_112 rfl rfl ?_
  refine ev_iadd (pc' := 115) (v := 8) dX8_layForm_114 rfl (by decide) ?_
  refine ev_iald (pc' := 116) (j := 8) (v := (I 134) 8) dX8_layForm_115 rfl hs_134 rfl (Nat.le_of_ble_eq_true rfl) (Nat.le_of_ble_eq_true rfl) rfl ?_
  refine ev_i2l (pc' := 117) (v := Int32.toInt64 ((I 134) 8)) dX8_layForm_116 rfl rfl ?_
  refine ev_last (pc' := 118) (j := 8) (L' := (ma_up (ma_up L 132 (ma_up (ma_up (ma_up (ma_up (ma_up (L 132) 0 0) 1 (0 + (mW (mSel 7 (I 133) (I 134))))) 2 ((((0 + (mW (mSel 3 (I 133) (I 134)))) + (mW (mSel 5 (I 133) (I 134)))) + (mW (mSel 6 (I 133) (I 134)))) + (mW (mSel 9 (I 133) (I 134))))) 3 ((((0 + (mW (mSel 1 (I 133) (I 134)))) + (mW (mSel 2 (I 133) (I 134)))) + (mW (mSel 4 (I 133) (I 134)))) + (mW (mSel 8 (I 133) (I 134))))) 4 (0 + (mW (mSel 0 (I 133) (I 134)))))) 120 (ma_up (ma_up (ma_up (ma_up (ma_up (ma_up (ma_up (ma_up (ma_up r10 0 (Int32.toInt64 ((I 134) 0))) 1 (Int32.toInt64 ((I 134) 1))) 2 (Int32.toInt64 ((I 134) 2))) 3 (Int32.toInt64 ((I 134) 3))) 4 (Int32.toInt64 ((I 133) 4))) 5 (Int32.toInt64 ((I 133) 5))) 6 (Int32.toInt64 ((I 133) 6))) 7 (Int32.toInt64 ((I 133) 7))) 8 (Int32.toInt64 ((I 134) 8))))) dX8_layForm_117 rfl hs_120 rfl (Nat.le_of_ble_eq_true rfl) (Nat.le_of_ble_eq_true rfl) (ma_up_up _ _ _ _) ?_
  refine ev_iinc (pc' := 121) (v := 1) (lv' := [some (.ref 115), some (.int 10), some (.int 1), some (.int 2), some (.int 0), some (.int 1)]) dX8_layForm_118 rfl rfl (by decide) (Nat.le_of_ble_eq_true rfl) rfl rfl ?_
  refine ev_goto (tgt := 69) dX8_layForm_121 rfl ?_
  refine ev_iload (pc' := 71) dX8_layForm_69 rfl rfl ?_
  refine ev_iconst (pc' := 72) (v := 4) dX8_layForm_71 rfl ki_4 ?_
  refine ev_icmp_ge (tgt := 124) (pc' := 75) dX8_layForm_72 rfl rfl (fun h => absurd h (by decide)) (fun _ => ?_)
  refine ev_aload_n (pc' := 76) (i := 0) dX8_layForm_75 rfl rfl rfl ?_
  refine ev_getR (pc' := 79) fo_X8_26 dX8_layForm_76 rfl hs_115 rfl rf_115_8 ?_
  refine ev_iconst (pc' := 80) (v := 4) dX8_layForm_79 rfl ki_4 ?_
  refine ev_iload_n (pc' := 81) (i := 3) dX8_layForm_80 rfl rfl rfl ?_
  refine ev_imul (pc' := 82) (v := 8) dX8_layForm_81 rfl (by decide) ?_
  refine ev_iload (pc' := 84) dX8_layForm_82 rfl rfl ?_
  refine ev_iadd (pc' := 85) (v := 9) dX8_layForm_84 rfl (by decide) ?_
  refine ev_iload (pc' := 87) dX8_layForm_85 rfl rfl ?_
  refine ev_if_eq (tgt := 105) (pc' := 90) dX8_layForm_87 rfl rfl (fun _ => ?_) (fun h => absurd (by decide) h)
  refine ev_aload_n (pc' := 106) (i := 0) dX8_layForm_105 rfl rfl rfl ?_
  refine ev_getR (pc' := 109) fo_X8_70 dX8_layForm_106 rfl hs_115 rfl rf_115_25 ?_
  refine ev_iconst (pc' := 110) (v := 4) dX8_layForm_109 rfl ki_4 ?_
  refine ev_iload_n (pc' := 111) (i := 3) dX8_layForm_110 rfl rfl rfl ?_
  refine ev_imul (pc' := 112) (v := 8) dX8_layForm_111 rfl (by decide) ?_
  refine ev_iload (pc' := 114) dX8_layForm_112 rfl rfl ?_
  refine ev_iadd (pc' := 115) (v := 9) dX8_layForm_114 rfl (by decide) ?_
  refine ev_iald (pc' := 116) (j := 9) (v := (I 134) 9) dX8_layForm_115 rfl hs_134 rfl (Nat.le_of_ble_eq_true rfl) (Nat.le_of_ble_eq_true rfl) rfl ?_
  refine ev_i2l (pc' := 117) (v := Int32.toInt64 ((I 134) 9)) dX8_layForm_116 rfl rfl ?_
  refine ev_last (pc' := 118) (j := 9) (L' := (ma_up (ma_up L 132 (ma_up (ma_up (ma_up (ma_up (ma_up (L 132) 0 0) 1 (0 + (mW (mSel 7 (I 133) (I 134))))) 2 ((((0 + (mW (mSel 3 (I 133) (I 134)))) + (mW (mSel 5 (I 133) (I 134)))) + (mW (mSel 6 (I 133) (I 134)))) + (mW (mSel 9 (I 133) (I 134))))) 3 ((((0 + (mW (mSel 1 (I 133) (I 134)))) + (mW (mSel 2 (I 133) (I 134)))) + (mW (mSel 4 (I 133) (I 134)))) + (mW (mSel 8 (I 133) (I 134))))) 4 (0 + (mW (mSel 0 (I 133) (I 134)))))) 120 (ma_up (ma_up (ma_up (ma_up (ma_up (ma_up (ma_up (ma_up (ma_up (ma_up r10 0 (Int32.toInt64 ((I 134) 0))) 1 (Int32.toInt64 ((I 134) 1))) 2 (Int32.toInt64 ((I 134) 2))) 3 (Int32.toInt64 ((I 134) 3))) 4 (Int32.toInt64 ((I 133) 4))) 5 (Int32.toInt64 ((I 133) 5))) 6 (Int32.toInt64 ((I 133) 6))) 7 (Int32.toInt64 ((I 133) 7))) 8 (Int32.toInt64 ((I 134) 8))) 9 (Int32.toInt64 ((I 134) 9))))) dX8_layForm_117 rfl hs_120 rfl (Nat.le_of_ble_eq_true rfl) (Nat.le_of_ble_eq_true rfl) (ma_up_up _ _ _ _) ?_
  refine ev_iinc (pc' := 121) (v := 2) (lv' := [some (.ref 115), some (.int 10), some (.int 1), some (.int 2), some (.int 0), some (.int 2)]) dX8_layForm_118 rfl rfl (by decide) (Nat.le_of_ble_eq_true rfl) rfl rfl ?_
  refine ev_goto (tgt := 69) dX8_layForm_121 rfl ?_
  refine ev_iload (pc' := 71) dX8_layForm_69 rfl rfl ?_
  refine ev_iconst (pc' := 72) (v := 4) dX8_layForm_71 rfl ki_4 ?_
  refine ev_icmp_ge (tgt := 124) (pc' := 75) dX8_layForm_72 rfl rfl (fun h => absurd h (by decide)) (fun _ => ?_)
  refine ev_aload_n (pc' := 76) (i := 0) dX8_layForm_75 rfl rfl rfl ?_
  refine ev_getR (pc' := 79) fo_X8_26 dX8_layForm_76 rfl hs_115 rfl rf_115_8 ?_
  refine ev_iconst (pc' := 80) (v := 4) dX8_layForm_79 rfl ki_4 ?_
  refine ev_iload_n (pc' := 81) (i := 3) dX8_layForm_80 rfl rfl rfl ?_
  refine ev_imul (pc' := 82) (v := 8) dX8_layForm_81 rfl (by decide) ?_
  refine ev_iload (pc' := 84) dX8_layForm_82 rfl rfl ?_
  refine ev_iadd (pc' := 85) (v := 10) dX8_layForm_84 rfl (by decide) ?_
  refine ev_iload (pc' := 87) dX8_layForm_85 rfl rfl ?_
  refine ev_if_eq (tgt := 105) (pc' := 90) dX8_layForm_87 rfl rfl (fun _ => ?_) (fun h => absurd (by decide) h)
  refine ev_aload_n (pc' := 106) (i := 0) dX8_layForm_105 rfl rfl rfl ?_
  refine ev_getR (pc' := 109) fo_X8_70 dX8_layForm_106 rfl hs_115 rfl rf_115_25 ?_
  refine ev_iconst (pc' := 110) (v := 4) dX8_layForm_109 rfl ki_4 ?_
  refine ev_iload_n (pc' := 111) (i := 3) dX8_layForm_110 rfl rfl rfl ?_
  refine ev_imul (pc' := 112) (v := 8) dX8_layForm_111 rfl (by decide) ?_
  refine ev_iload (pc' := 114) dX8_layForm_112 rfl rfl ?_
  refine ev_iadd (pc' := 115) (v := 10) dX8_layForm_114 rfl (by decide) ?_
  refine ev_iald (pc' := 116) (j := 10) (v := (I 134) 10) dX8_layForm_115 rfl hs_134 rfl (Nat.le_of_ble_eq_true rfl) (Nat.le_of_ble_eq_true rfl) rfl ?_
  refine ev_i2l (pc' := 117) (v := Int32.toInt64 ((I 134) 10)) dX8_layForm_116 rfl rfl ?_
  refine ev_last (pc' := 118) (j := 10) (L' := (ma_up (ma_up L 132 (ma_up (ma_up (ma_up (ma_up (ma_up (L 132) 0 0) 1 (0 + (mW (mSel 7 (I 133) (I 134))))) 2 ((((0 + (mW (mSel 3 (I 133) (I 134)))) + (mW (mSel 5 (I 133) (I 134)))) + (mW (mSel 6 (I 133) (I 134)))) + (mW (mSel 9 (I 133) (I 134))))) 3 ((((0 + (mW (mSel 1 (I 133) (I 134)))) + (mW (mSel 2 (I 133) (I 134)))) + (mW (mSel 4 (I 133) (I 134)))) + (mW (mSel 8 (I 133) (I 134))))) 4 (0 + (mW (mSel 0 (I 133) (I 134)))))) 120 (ma_up (ma_up (ma_up (ma_up (ma_up (ma_up (ma_up (ma_up (ma_up (ma_up (ma_up r10 0 (Int32.toInt64 ((I 134) 0))) 1 (Int32.toInt64 ((I 134) 1))) 2 (Int32.toInt64 ((I 134) 2))) 3 (Int32.toInt64 ((I 134) 3))) 4 (Int32.toInt64 ((I 133) 4))) 5 (Int32.toInt64 ((I 133) 5))) 6 (Int32.toInt64 ((I 133) 6))) 7 (Int32.toInt64 ((I 133) 7))) 8 (Int32.toInt64 ((I 134) 8))) 9 (Int32.toInt64 ((I 134) 9))) 10 (Int32.toInt64 ((I 134) 10))))) dX8_layForm_117 rfl hs_120 rfl (Nat.le_of_ble_eq_true rfl) (Nat.le_of_ble_eq_true rfl) (ma_up_up _ _ _ _) ?_
  refine ev_iinc (pc' := 121) (v := 3) (lv' := [some (.ref 115), some (.int 10), some (.int 1), some (.int 2), some (.int 0), some (.int 3)]) dX8_layForm_118 rfl rfl (by decide) (Nat.le_of_ble_eq_true rfl) rfl rfl ?_
  refine ev_goto (tgt := 69) dX8_layForm_121 rfl ?_
  refine ev_iload (pc' := 71) dX8_layForm_69 rfl rfl ?_
  refine ev_iconst (pc' := 72) (v := 4) dX8_layForm_71 rfl ki_4 ?_
  refine ev_icmp_ge (tgt := 124) (pc' := 75) dX8_layForm_72 rfl rfl (fun h => absurd h (by decide)) (fun _ => ?_)
  refine ev_aload_n (pc' := 76) (i := 0) dX8_layForm_75 rfl rfl rfl ?_
  refine ev_getR (pc' := 79) fo_X8_26 dX8_layForm_76 rfl hs_115 rfl rf_115_8 ?_
  refine ev_iconst (pc' := 80) (v := 4) dX8_layForm_79 rfl ki_4 ?_
  refine ev_iload_n (pc' := 81) (i := 3) dX8_layForm_80 rfl rfl rfl ?_
  refine ev_imul (pc' := 82) (v := 8) dX8_layForm_81 rfl (by decide) ?_
  refine ev_iload (pc' := 84) dX8_layForm_82 rfl rfl ?_
  refine ev_iadd (pc' := 85) (v := 11) dX8_layForm_84 rfl (by decide) ?_
  refine ev_iload (pc' := 87) dX8_layForm_85 rfl rfl ?_
  refine ev_if_eq (tgt := 105) (pc' := 90) dX8_layForm_87 rfl rfl (fun _ => ?_) (fun h => absurd (by decide) h)
  refine ev_aload_n (pc' := 106) (i := 0) dX8_layForm_105 rfl rfl rfl ?_
  refine ev_getR (pc' := 109) fo_X8_70 dX8_layForm_106 rfl hs_115 rfl rf_115_25 ?_
  refine ev_iconst (pc' := 110) (v := 4) dX8_layForm_109 rfl ki_4 ?_
  refine ev_iload_n (pc' := 111) (i := 3) dX8_layForm_110 rfl rfl rfl ?_
  refine ev_imul (pc' := 112) (v := 8) dX8_layForm_111 rfl (by decide) ?_
  refine ev_iload (pc' := 114) dX8_layForm_112 rfl rfl ?_
  refine ev_iadd (pc' := 115) (v := 11) dX8_layForm_114 rfl (by decide) ?_
  refine ev_iald (pc' := 116) (j := 11) (v := (I 134) 11) dX8_layForm_115 rfl hs_134 rfl (Nat.le_of_ble_eq_true rfl) (Nat.le_of_ble_eq_true rfl) rfl ?_
  refine ev_i2l (pc' := 117) (v := Int32.toInt64 ((I 134) 11)) dX8_layForm_116 rfl rfl ?_
  refine ev_last (pc' := 118) (j := 11) (L' := (ma_up (ma_up L 132 (ma_up (ma_up (ma_up (ma_up (ma_up (L 132) 0 0) 1 (0 + (mW (mSel 7 (I 133) (I 134))))) 2 ((((0 + (mW (mSel 3 (I 133) (I 134)))) + (mW (mSel 5 (I 133) (I 134)))) + (mW (mSel 6 (I 133) (I 134)))) + (mW (mSel 9 (I 133) (I 134))))) 3 ((((0 + (mW (mSel 1 (I 133) (I 134)))) + (mW (mSel 2 (I 133) (I 134)))) + (mW (mSel 4 (I 133) (I 134)))) + (mW (mSel 8 (I 133) (I 134))))) 4 (0 + (mW (mSel 0 (I 133) (I 134)))))) 120 (ma_up (ma_up (ma_up (ma_up (ma_up (ma_up (ma_up (ma_up (ma_up (ma_up (ma_up (ma_up r10 0 (Int32.toInt64 ((I 134) 0))) 1 (Int32.toInt64 ((I 134) 1))) 2 (Int32.toInt64 ((I 134) 2))) 3 (Int32.toInt64 ((I 134) 3))) 4 (Int32.toInt64 ((I 133) 4))) 5 (Int32.toInt64 ((I 133) 5))) 6 (Int32.toInt64 ((I 133) 6))) 7 (Int32.toInt64 ((I 133) 7))) 8 (Int32.toInt64 ((I 134) 8))) 9 (Int32.toInt64 ((I 134) 9))) 10 (Int32.toInt64 ((I 134) 10))) 11 (Int32.toInt64 ((I 134) 11))))) dX8_layForm_117 rfl hs_120 rfl (Nat.le_of_ble_eq_true rfl) (Nat.le_of_ble_eq_true rfl) (ma_up_up _ _ _ _) ?_
  refine ev_iinc (pc' := 121) (v := 4) (lv' := [some (.ref 115), some (.int 10), some (.int 1), some (.int 2), some (.int 0), some (.int 4)]) dX8_layForm_118 rfl rfl (by decide) (Nat.le_of_ble_eq_true rfl) rfl rfl ?_
  refine ev_goto (tgt := 69) dX8_layForm_121 rfl ?_
  refine ev_iload (pc' := 71) dX8_layForm_69 rfl rfl ?_
  refine ev_iconst (pc' := 72) (v := 4) dX8_layForm_71 rfl ki_4 ?_
  refine ev_icmp_ge (tgt := 124) (pc' := 75) dX8_layForm_72 rfl rfl (fun _ => ?_) (fun h => absurd (by decide) h)
  refine ev_iinc (pc' := 127) (v := 3) (lv' := [some (.ref 115), some (.int 10), some (.int 1), some (.int 3), some (.int 0), some (.int 4)]) dX8_layForm_124 rfl rfl (by decide) (Nat.le_of_ble_eq_true rfl) rfl rfl ?_
  refine ev_goto (tgt := 32) dX8_layForm_127 rfl ?_
  refine ev_iload_n (pc' := 33) (i := 3) dX8_layForm_32 rfl rfl rfl ?_
  refine ev_iconst (pc' := 34) (v := 4) dX8_layForm_33 rfl ki_4 ?_
  refine ev_icmp_ge (tgt := 130) (pc' := 37) dX8_layForm_34 rfl rfl (fun h => absurd h (by decide)) (fun _ => ?_)
  refine ev_iload_n (pc' := 38) (i := 1) dX8_layForm_37 rfl rfl rfl ?_
  refine ev_iload_n (pc' := 39) (i := 3) dX8_layForm_38 rfl rfl rfl ?_
  refine ev_ishr (pc' := 40) (v := 1) dX8_layForm_39 rfl (by decide) ?_
  refine ev_iconst (pc' := 41) (v := 1) dX8_layForm_40 rfl ki_1 ?_
  refine ev_iand (pc' := 42) (v := 1) dX8_layForm_41 rfl (by decide) ?_
  refine ev_iconst (pc' := 43) (v := 1) dX8_layForm_42 rfl ki_1 ?_
  refine ev_icmp_ne (tgt := 50) (pc' := 46) dX8_layForm_43 rfl rfl (fun h => absurd (by decide) h) (fun _ => ?_)
  refine ev_iconst (pc' := 47) (v := 1) dX8_layForm_46 rfl ki_1 ?_
  refine ev_goto (tgt := 51) dX8_layForm_47 rfl ?_
  refine ev_istore (pc' := 53) (lv' := [some (.ref 115), some (.int 10), some (.int 1), some (.int 3), some (.int 1), some (.int 4)]) dX8_layForm_51 rfl (Nat.le_of_ble_eq_true rfl) rfl rfl ?_
  refine ev_iload_n (pc' := 54) (i := 2) dX8_layForm_53 rfl rfl rfl ?_
  refine ev_iload (pc' := 56) dX8_layForm_54 rfl rfl ?_
  refine ev_if_eq (tgt := 63) (pc' := 59) dX8_layForm_56 rfl rfl (fun h => absurd h (by decide)) (fun _ => ?_)
  refine ev_iconst (pc' := 60) (v := 1) dX8_layForm_59 rfl ki_1 ?_
  refine ev_goto (tgt := 64) dX8_layForm_60 rfl ?_
  refine ev_iadd (pc' := 65) (v := 2) dX8_layForm_64 rfl (by decide) ?_
  refine ev_istore_n (pc' := 66) (i := 2) (lv' := [some (.ref 115), some (.int 10), some (.int 2), some (.int 3), some (.int 1), some (.int 4)]) dX8_layForm_65 rfl rfl (Nat.le_of_ble_eq_true rfl) rfl rfl ?_
  refine ev_iconst (pc' := 67) (v := 0) dX8_layForm_66 rfl ki_0 ?_
  refine ev_istore (pc' := 69) (lv' := [some (.ref 115), some (.int 10), some (.int 2), some (.int 3), some (.int 1), some (.int 0)]) dX8_layForm_67 rfl (Nat.le_of_ble_eq_true rfl) rfl rfl ?_
  refine ev_iload (pc' := 71) dX8_layForm_69 rfl rfl ?_
  refine ev_iconst (pc' := 72) (v := 4) dX8_layForm_71 rfl ki_4 ?_
  refine ev_icmp_ge (tgt := 124) (pc' := 75) dX8_layForm_72 rfl rfl (fun h => absurd h (by decide)) (fun _ => ?_)
  refine ev_aload_n (pc' := 76) (i := 0) dX8_layForm_75 rfl rfl rfl ?_
  refine ev_getR (pc' := 79) fo_X8_26 dX8_layForm_76 rfl hs_115 rfl rf_115_8 ?_
  refine ev_iconst (pc' := 80) (v := 4) dX8_layForm_79 rfl ki_4 ?_
  refine ev_iload_n (pc' := 81) (i := 3) dX8_layForm_80 rfl rfl rfl ?_
  refine ev_imul (pc' := 82) (v := 12) dX8_layForm_81 rfl (by decide) ?_
  refine ev_iload (pc' := 84) dX8_layForm_82 rfl rfl ?_
  refine ev_iadd (pc' := 85) (v := 12) dX8_layForm_84 rfl (by decide) ?_
  refine ev_iload (pc' := 87) dX8_layForm_85 rfl rfl ?_
  refine ev_if_eq (tgt := 105) (pc' := 90) dX8_layForm_87 rfl rfl (fun h => absurd h (by decide)) (fun _ => ?_)
  refine ev_aload_n (pc' := 91) (i := 0) dX8_layForm_90 rfl rfl rfl ?_
  refine ev_getR (pc' := 94) fo_X8_67 dX8_layForm_91 rfl hs_115 rfl rf_115_24 ?_
  refine ev_iconst (pc' := 95) (v := 4) dX8_layForm_94 rfl ki_4 ?_
  refine ev_iload_n (pc' := 96) (i := 3) dX8_layForm_95 rfl rfl rfl ?_
  refine ev_imul (pc' := 97) (v := 12) dX8_layForm_96 rfl (by decide) ?_
  refine ev_iload (pc' := 99) dX8_layForm_97 rfl rfl ?_
  refine ev_iadd (pc' := 100) (v := 12) dX8_layForm_99 rfl (by decide) ?_
  refine ev_iald (pc' := 101) (j := 12) (v := (I 133) 12) dX8_layForm_100 rfl hs_133 rfl (Nat.le_of_ble_eq_true rfl) (Nat.le_of_ble_eq_true rfl) rfl ?_
  refine ev_i2l (pc' := 102) (v := Int32.toInt64 ((I 133) 12)) dX8_layForm_101 rfl rfl ?_
  refine ev_goto (tgt := 117) dX8_layForm_102 rfl ?_
  refine ev_last (pc' := 118) (j := 12) (L' := (ma_up (ma_up L 132 (ma_up (ma_up (ma_up (ma_up (ma_up (L 132) 0 0) 1 (0 + (mW (mSel 7 (I 133) (I 134))))) 2 ((((0 + (mW (mSel 3 (I 133) (I 134)))) + (mW (mSel 5 (I 133) (I 134)))) + (mW (mSel 6 (I 133) (I 134)))) + (mW (mSel 9 (I 133) (I 134))))) 3 ((((0 + (mW (mSel 1 (I 133) (I 134)))) + (mW (mSel 2 (I 133) (I 134)))) + (mW (mSel 4 (I 133) (I 134)))) + (mW (mSel 8 (I 133) (I 134))))) 4 (0 + (mW (mSel 0 (I 133) (I 134)))))) 120 (ma_up (ma_up (ma_up (ma_up (ma_up (ma_up (ma_up (ma_up (ma_up (ma_up (ma_up (ma_up (ma_up r10 0 (Int32.toInt64 ((I 134) 0))) 1 (Int32.toInt64 ((I 134) 1))) 2 (Int32.toInt64 ((I 134) 2))) 3 (Int32.toInt64 ((I 134) 3))) 4 (Int32.toInt64 ((I 133) 4))) 5 (Int32.toInt64 ((I 133) 5))) 6 (Int32.toInt64 ((I 133) 6))) 7 (Int32.toInt64 ((I 133) 7))) 8 (Int32.toInt64 ((I 134) 8))) 9 (Int32.toInt64 ((I 134) 9))) 10 (Int32.toInt64 ((I 134) 10))) 11 (Int32.toInt64 ((I 134) 11))) 12 (Int32.toInt64 ((I 133) 12))))) dX8_layForm_117 rfl hs_120 rfl (Nat.le_of_ble_eq_true rfl) (Nat.le_of_ble_eq_true rfl) (ma_up_up _ _ _ _) ?_
  refine ev_iinc (pc' := 121) (v := 1) (lv' := [some (.ref 115), some (.int 10), some (.int 2), some (.int 3), some (.int 1), some (.int 1)]) dX8_layForm_118 rfl rfl (by decide) (Nat.le_of_ble_eq_true rfl) rfl rfl ?_
  refine ev_goto (tgt := 69) dX8_layForm_121 rfl ?_
  refine ev_iload (pc' := 71) dX8_layForm_69 rfl rfl ?_
  refine ev_iconst (pc' := 72) (v := 4) dX8_layForm_71 rfl ki_4 ?_
  refine ev_icmp_ge (tgt := 124) (pc' := 75) dX8_layForm_72 rfl rfl (fun h => absurd h (by decide)) (fun _ => ?_)
  refine ev_aload_n (pc' := 76) (i := 0) dX8_layForm_75 rfl rfl rfl ?_
  refine ev_getR (pc' := 79) fo_X8_26 dX8_layForm_76 rfl hs_115 rfl rf_115_8 ?_
  refine ev_iconst (pc' := 80) (v := 4) dX8_layForm_79 rfl ki_4 ?_
  refine ev_iload_n (pc' := 81) (i := 3) dX8_layForm_80 rfl rfl rfl ?_
  refine ev_imul (pc' := 82) (v := 12) dX8_layForm_81 rfl (by decide) ?_
  refine ev_iload (pc' := 84) dX8_layForm_82 rfl rfl ?_
  refine ev_iadd (pc' := 85) (v := 13) dX8_layForm_84 rfl (by decide) ?_
  refine ev_iload (pc' := 87) dX8_layForm_85 rfl rfl ?_
  refine ev_if_eq (tgt := 105) (pc' := 90) dX8_layForm_87 rfl rfl (fun h => absurd h (by decide)) (fun _ => ?_)
  refine ev_aload_n (pc' := 91) (i := 0) dX8_layForm_90 rfl rfl rfl ?_
  refine ev_getR (pc' := 94) fo_X8_67 dX8_layForm_91 rfl hs_115 rfl rf_115_24 ?_
  refine ev_iconst (pc' := 95) (v := 4) dX8_layForm_94 rfl ki_4 ?_
  refine ev_iload_n (pc' := 96) (i := 3) dX8_layForm_95 rfl rfl rfl ?_
  refine ev_imul (pc' := 97) (v := 12) dX8_layForm_96 rfl (by decide) ?_
  refine ev_iload (pc' := 99) dX8_layForm_97 rfl rfl ?_
  refine ev_iadd (pc' := 100) (v := 13) dX8_layForm_99 rfl (by decide) ?_
  refine ev_iald (pc' := 101) (j := 13) (v := (I 133) 13) dX8_layForm_100 rfl hs_133 rfl (Nat.le_of_ble_eq_true rfl) (Nat.le_of_ble_eq_true rfl) rfl ?_
  refine ev_i2l (pc' := 102) (v := Int32.toInt64 ((I 133) 13)) dX8_layForm_101 rfl rfl ?_
  refine ev_goto (tgt := 117) dX8_layForm_102 rfl ?_
  refine ev_last (pc' := 118) (j := 13) (L' := (ma_up (ma_up L 132 (ma_up (ma_up (ma_up (ma_up (ma_up (L 132) 0 0) 1 (0 + (mW (mSel 7 (I 133) (I 134))))) 2 ((((0 + (mW (mSel 3 (I 133) (I 134)))) + (mW (mSel 5 (I 133) (I 134)))) + (mW (mSel 6 (I 133) (I 134)))) + (mW (mSel 9 (I 133) (I 134))))) 3 ((((0 + (mW (mSel 1 (I 133) (I 134)))) + (mW (mSel 2 (I 133) (I 134)))) + (mW (mSel 4 (I 133) (I 134)))) + (mW (mSel 8 (I 133) (I 134))))) 4 (0 + (mW (mSel 0 (I 133) (I 134)))))) 120 (ma_up (ma_up (ma_up (ma_up (ma_up (ma_up (ma_up (ma_up (ma_up (ma_up (ma_up (ma_up (ma_up (ma_up r10 0 (Int32.toInt64 ((I 134) 0))) 1 (Int32.toInt64 ((I 134) 1))) 2 (Int32.toInt64 ((I 134) 2))) 3 (Int32.toInt64 ((I 134) 3))) 4 (Int32.toInt64 ((I 133) 4))) 5 (Int32.toInt64 ((I 133) 5))) 6 (Int32.toInt64 ((I 133) 6))) 7 (Int32.toInt64 ((I 133) 7))) 8 (Int32.toInt64 ((I 134) 8))) 9 (Int32.toInt64 ((I 134) 9))) 10 (Int32.toInt64 ((I 134) 10))) 11 (Int32.toInt64 ((I 134) 11))) 12 (Int32.toInt64 ((I 133) 12))) 13 (Int32.toInt64 ((I 133) 13))))) dX8_layForm_117 rfl hs_120 rfl (Nat.le_of_ble_eq_true rfl) (Nat.le_of_ble_eq_true rfl) (ma_up_up _ _ _ _) ?_
  refine ev_iinc (pc' := 121) (v := 2) (lv' := [some (.ref 115), some (.int 10), some (.int 2), some (.int 3), some (.int 1), some (.int 2)]) dX8_layForm_118 rfl rfl (by decide) (Nat.le_of_ble_eq_true rfl) rfl rfl ?_
  refine ev_goto (tgt := 69) dX8_layForm_121 rfl ?_
  refine ev_iload (pc' := 71) dX8_layForm_69 rfl rfl ?_
  refine ev_iconst (pc' := 72) (v := 4) dX8_layForm_71 rfl ki_4 ?_
  refine ev_icmp_ge (tgt := 124) (pc' := 75) dX8_layForm_72 rfl rfl (fun h => absurd h (by decide)) (fun _ => ?_)
  refine ev_aload_n (pc' := 76) (i := 0) dX8_layForm_75 rfl rfl rfl ?_
  refine ev_getR (pc' := 79) fo_X8_26 dX8_layForm_76 rfl hs_115 rfl rf_115_8 ?_
  refine ev_iconst (pc' := 80) (v := 4) dX8_layForm_79 rfl ki_4 ?_
  refine ev_iload_n (pc' := 81) (i := 3) dX8_layForm_80 rfl rfl rfl ?_
  refine ev_imul (pc' := 82) (v := 12) dX8_layForm_81 rfl (by decide) ?_
  refine ev_iload (pc' := 84) dX8_layForm_82 rfl rfl ?_
  refine ev_iadd (pc' := 85) (v := 14) dX8_layForm_84 rfl (by decide) ?_
  refine ev_iload (pc' := 87) dX8_layForm_85 rfl rfl ?_
  refine ev_if_eq (tgt := 105) (pc' := 90) dX8_layForm_87 rfl rfl (fun h => absurd h (by decide)) (fun _ => ?_)
  refine ev_aload_n (pc' := 91) (i := 0) dX8_layForm_90 rfl rfl rfl ?_
  refine ev_getR (pc' := 94) fo_X8_67 dX8_layForm_91 rfl hs_115 rfl rf_115_24 ?_
  refine ev_iconst (pc' := 95) (v := 4) dX8_layForm_94 rfl ki_4 ?_
  refine ev_iload_n (pc' := 96) (i := 3) dX8_layForm_95 rfl rfl rfl ?_
  refine ev_imul (pc' := 97) (v := 12) dX8_layForm_96 rfl (by decide) ?_
  refine ev_iload (pc' := 99) dX8_layForm_97 rfl rfl ?_
  refine ev_iadd (pc' := 100) (v := 14) dX8_layForm_99 rfl (by decide) ?_
  refine ev_iald (pc' := 101) (j := 14) (v := (I 133) 14) dX8_layForm_100 rfl hs_133 rfl (Nat.le_of_ble_eq_true rfl) (Nat.le_of_ble_eq_true rfl) rfl ?_
  refine ev_i2l (pc' := 102) (v := Int32.toInt64 ((I 133) 14)) dX8_layForm_101 rfl rfl ?_
  refine ev_goto (tgt := 117) dX8_layForm_102 rfl ?_
  refine ev_last (pc' := 118) (j := 14) (L' := (ma_up (ma_up L 132 (ma_up (ma_up (ma_up (ma_up (ma_up (L 132) 0 0) 1 (0 + (mW (mSel 7 (I 133) (I 134))))) 2 ((((0 + (mW (mSel 3 (I 133) (I 134)))) + (mW (mSel 5 (I 133) (I 134)))) + (mW (mSel 6 (I 133) (I 134)))) + (mW (mSel 9 (I 133) (I 134))))) 3 ((((0 + (mW (mSel 1 (I 133) (I 134)))) + (mW (mSel 2 (I 133) (I 134)))) + (mW (mSel 4 (I 133) (I 134)))) + (mW (mSel 8 (I 133) (I 134))))) 4 (0 + (mW (mSel 0 (I 133) (I 134)))))) 120 (ma_up (ma_up (ma_up (ma_up (ma_up (ma_up (ma_up (ma_up (ma_up (ma_up (ma_up (ma_up (ma_up (ma_up (ma_up r10 0 (Int32.toInt64 ((I 134) 0))) 1 (Int32.toInt64 ((I 134) 1))) 2 (Int32.toInt64 ((I 134) 2))) 3 (Int32.toInt64 ((I 134) 3))) 4 (Int32.toInt64 ((I 133) 4))) 5 (Int32.toInt64 ((I 133) 5))) 6 (Int32.toInt64 ((I 133) 6))) 7 (Int32.toInt64 ((I 133) 7))) 8 (Int32.toInt64 ((I 134) 8))) 9 (Int32.toInt64 ((I 134) 9))) 10 (Int32.toInt64 ((I 134) 10))) 11 (Int32.toInt64 ((I 134) 11))) 12 (Int32.toInt64 ((I 133) 12))) 13 (Int32.toInt64 ((I 133) 13))) 14 (Int32.toInt64 ((I 133) 14))))) dX8_layForm_117 rfl hs_120 rfl (Nat.le_of_ble_eq_true rfl) (Nat.le_of_ble_eq_true rfl) (ma_up_up _ _ _ _) ?_
  refine ev_iinc (pc' := 121) (v := 3) (lv' := [some (.ref 115), some (.int 10), some (.int 2), some (.int 3), some (.int 1), some (.int 3)]) dX8_layForm_118 rfl rfl (by decide) (Nat.le_of_ble_eq_true rfl) rfl rfl ?_
  refine ev_goto (tgt := 69) dX8_layForm_121 rfl ?_
  refine ev_iload (pc' := 71) dX8_layForm_69 rfl rfl ?_
  refine ev_iconst (pc' := 72) (v := 4) dX8_layForm_71 rfl ki_4 ?_
  refine ev_icmp_ge (tgt := 124) (pc' := 75) dX8_layForm_72 rfl rfl (fun h => absurd h (by decide)) (fun _ => ?_)
  refine ev_aload_n (pc' := 76) (i := 0) dX8_layForm_75 rfl rfl rfl ?_
  refine ev_getR (pc' := 79) fo_X8_26 dX8_layForm_76 rfl hs_115 rfl rf_115_8 ?_
  refine ev_iconst (pc' := 80) (v := 4) dX8_layForm_79 rfl ki_4 ?_
  refine ev_iload_n (pc' := 81) (i := 3) dX8_layForm_80 rfl rfl rfl ?_
  refine ev_imul (pc' := 82) (v := 12) dX8_layForm_81 rfl (by decide) ?_
  refine ev_iload (pc' := 84) dX8_layForm_82 rfl rfl ?_
  refine ev_iadd (pc' := 85) (v := 15) dX8_layForm_84 rfl (by decide) ?_
  refine ev_iload (pc' := 87) dX8_layForm_85 rfl rfl ?_
  refine ev_if_eq (tgt := 105) (pc' := 90) dX8_layForm_87 rfl rfl (fun h => absurd h (by decide)) (fun _ => ?_)
  refine ev_aload_n (pc' := 91) (i := 0) dX8_layForm_90 rfl rfl rfl ?_
  refine ev_getR (pc' := 94) fo_X8_67 dX8_layForm_91 rfl hs_115 rfl rf_115_24 ?_
  refine ev_iconst (pc' := 95) (v := 4) dX8_layForm_94 rfl ki_4 ?_
  refine ev_iload_n (pc' := 96) (i := 3) dX8_layForm_95 rfl rfl rfl ?_
  refine ev_imul (pc' := 97) (v := 12) dX8_layForm_96 rfl (by decide) ?_
  refine ev_iload (pc' := 99) dX8_layForm_97 rfl rfl ?_
  refine ev_iadd (pc' := 100) (v := 15) dX8_layForm_99 rfl (by decide) ?_
  refine ev_iald (pc' := 101) (j := 15) (v := (I 133) 15) dX8_layForm_100 rfl hs_133 rfl (Nat.le_of_ble_eq_true rfl) (Nat.le_of_ble_eq_true rfl) rfl ?_
  refine ev_i2l (pc' := 102) (v := Int32.toInt64 ((I 133) 15)) dX8_layForm_101 rfl rfl ?_
  refine ev_goto (tgt := 117) dX8_layForm_102 rfl ?_
  refine ev_last (pc' := 118) (j := 15) (L' := (ma_up (ma_up L 132 (ma_up (ma_up (ma_up (ma_up (ma_up (L 132) 0 0) 1 (0 + (mW (mSel 7 (I 133) (I 134))))) 2 ((((0 + (mW (mSel 3 (I 133) (I 134)))) + (mW (mSel 5 (I 133) (I 134)))) + (mW (mSel 6 (I 133) (I 134)))) + (mW (mSel 9 (I 133) (I 134))))) 3 ((((0 + (mW (mSel 1 (I 133) (I 134)))) + (mW (mSel 2 (I 133) (I 134)))) + (mW (mSel 4 (I 133) (I 134)))) + (mW (mSel 8 (I 133) (I 134))))) 4 (0 + (mW (mSel 0 (I 133) (I 134)))))) 120 (ma_up (ma_up (ma_up (ma_up (ma_up (ma_up (ma_up (ma_up (ma_up (ma_up (ma_up (ma_up (ma_up (ma_up (ma_up (ma_up r10 0 (Int32.toInt64 ((I 134) 0))) 1 (Int32.toInt64 ((I 134) 1))) 2 (Int32.toInt64 ((I 134) 2))) 3 (Int32.toInt64 ((I 134) 3))) 4 (Int32.toInt64 ((I 133) 4))) 5 (Int32.toInt64 ((I 133) 5))) 6 (Int32.toInt64 ((I 133) 6))) 7 (Int32.toInt64 ((I 133) 7))) 8 (Int32.toInt64 ((I 134) 8))) 9 (Int32.toInt64 ((I 134) 9))) 10 (Int32.toInt64 ((I 134) 10))) 11 (Int32.toInt64 ((I 134) 11))) 12 (Int32.toInt64 ((I 133) 12))) 13 (Int32.toInt64 ((I 133) 13))) 14 (Int32.toInt64 ((I 133) 14))) 15 (Int32.toInt64 ((I 133) 15))))) dX8_layForm_117 rfl hs_120 rfl (Nat.le_of_ble_eq_true rfl) (Nat.le_of_ble_eq_true rfl) (ma_up_up _ _ _ _) ?_
  refine ev_iinc (pc' := 121) (v := 4) (lv' := [some (.ref 115), some (.int 10), some (.int 2), some (.int 3), some (.int 1), some (.int 4)]) dX8_layForm_118 rfl rfl (by decide) (Nat.le_of_ble_eq_true rfl) rfl rfl ?_
  refine ev_goto (tgt := 69) dX8_layForm_121 rfl ?_
  refine ev_iload (pc' := 71) dX8_layForm_69 rfl rfl ?_
  refine ev_iconst (pc' := 72) (v := 4) dX8_layForm_71 rfl ki_4 ?_
  refine ev_icmp_ge (tgt := 124) (pc' := 75) dX8_layForm_72 rfl rfl (fun _ => ?_) (fun h => absurd (by decide) h)
  refine ev_iinc (pc' := 127) (v := 4) (lv' := [some (.ref 115), some (.int 10), some (.int 2), some (.int 4), some (.int 1), some (.int 4)]) dX8_layForm_124 rfl rfl (by decide) (Nat.le_of_ble_eq_true rfl) rfl rfl ?_
  refine ev_goto (tgt := 32) dX8_layForm_127 rfl ?_
  refine ev_iload_n (pc' := 33) (i := 3) dX8_layForm_32 rfl rfl rfl ?_
  refine ev_iconst (pc' := 34) (v := 4) dX8_layForm_33 rfl ki_4 ?_
  refine ev_icmp_ge (tgt := 130) (pc' := 37) dX8_layForm_34 rfl rfl (fun _ => ?_) (fun h => absurd (by decide) h)
  refine ev_aload_n (pc' := 131) (i := 0) dX8_layForm_130 rfl rfl rfl ?_
  refine ev_getR (pc' := 134) fo_X8_64 dX8_layForm_131 rfl hs_115 rfl rf_115_23 ?_
  refine ev_iconst (pc' := 135) (v := 4) dX8_layForm_134 rfl ki_4 ?_
  refine ev_iload_n (pc' := 136) (i := 2) dX8_layForm_135 rfl rfl rfl ?_
  refine ev_isub (pc' := 137) (v := 2) dX8_layForm_136 rfl (by decide) ?_
  refine ev_dup2 (pc' := 138) dX8_layForm_137 rfl rfl rfl ?_
  refine ev_lald (pc' := 139) (j := 2) (v := (((0 + (mW (mSel 3 (I 133) (I 134)))) + (mW (mSel 5 (I 133) (I 134)))) + (mW (mSel 6 (I 133) (I 134)))) + (mW (mSel 9 (I 133) (I 134)))) dX8_layForm_138 rfl hs_132 rfl (Nat.le_of_ble_eq_true rfl) (Nat.le_of_ble_eq_true rfl) rfl ?_
  refine ev_aload_n (pc' := 140) (i := 0) dX8_layForm_139 rfl rfl rfl ?_
  refine ev_getR (pc' := 143) fo_X8_26 dX8_layForm_140 rfl hs_115 rfl rf_115_8 ?_
  refine ev_callS (pc' := 146) (rm' := rX8_worthOf) (av := [.ref 120]) (rest := [.long ((((0 + (mW (mSel 3 (I 133) (I 134)))) + (mW (mSel 5 (I 133) (I 134)))) + (mW (mSel 6 (I 133) (I 134)))) + (mW (mSel 9 (I 133) (I 134)))), .int 2, .ref 132]) co_X8_173 cs_X8_worthOf dX8_layForm_143 rfl rfl rfl (Nat.le_of_ble_eq_true rfl) ⟨(Nat.le_of_ble_eq_true rfl), (Nat.le_of_ble_eq_true rfl)⟩ ⟨(Nat.le_of_ble_eq_true rfl), (Nat.le_of_ble_eq_true rfl)⟩ ?_
  refine t_X8_worthOf 120 hs_120 ?_
  refine ev_eql (w := mW (mSel 10 (I 133) (I 134))) rfl ?_
  refine ev_ladd (pc' := 147) (v := ((((0 + (mW (mSel 3 (I 133) (I 134)))) + (mW (mSel 5 (I 133) (I 134)))) + (mW (mSel 6 (I 133) (I 134)))) + (mW (mSel 9 (I 133) (I 134)))) + (mW (mSel 10 (I 133) (I 134)))) dX8_layForm_146 rfl rfl ?_
  refine ev_last (pc' := 148) (j := 2) (L' := (ma_up (ma_up L 132 (ma_up (ma_up (ma_up (ma_up (ma_up (L 132) 0 0) 1 (0 + (mW (mSel 7 (I 133) (I 134))))) 2 (((((0 + (mW (mSel 3 (I 133) (I 134)))) + (mW (mSel 5 (I 133) (I 134)))) + (mW (mSel 6 (I 133) (I 134)))) + (mW (mSel 9 (I 133) (I 134)))) + (mW (mSel 10 (I 133) (I 134))))) 3 ((((0 + (mW (mSel 1 (I 133) (I 134)))) + (mW (mSel 2 (I 133) (I 134)))) + (mW (mSel 4 (I 133) (I 134)))) + (mW (mSel 8 (I 133) (I 134))))) 4 (0 + (mW (mSel 0 (I 133) (I 134)))))) 120 (ma_up (ma_up (ma_up (ma_up (ma_up (ma_up (ma_up (ma_up (ma_up (ma_up (ma_up (ma_up (ma_up (ma_up (ma_up (ma_up r10 0 (Int32.toInt64 ((I 134) 0))) 1 (Int32.toInt64 ((I 134) 1))) 2 (Int32.toInt64 ((I 134) 2))) 3 (Int32.toInt64 ((I 134) 3))) 4 (Int32.toInt64 ((I 133) 4))) 5 (Int32.toInt64 ((I 133) 5))) 6 (Int32.toInt64 ((I 133) 6))) 7 (Int32.toInt64 ((I 133) 7))) 8 (Int32.toInt64 ((I 134) 8))) 9 (Int32.toInt64 ((I 134) 9))) 10 (Int32.toInt64 ((I 134) 10))) 11 (Int32.toInt64 ((I 134) 11))) 12 (Int32.toInt64 ((I 133) 12))) 13 (Int32.toInt64 ((I 133) 13))) 14 (Int32.toInt64 ((I 133) 14))) 15 (Int32.toInt64 ((I 133) 15))))) dX8_layForm_147 rfl hs_132 rfl (Nat.le_of_ble_eq_true rfl) (Nat.le_of_ble_eq_true rfl) ((congrArg (ma_up _ 132) ((ma_up_comm _ (show 2 ≠ 4 from (by decide)) _ _).trans (congrArg (fun f => ma_up f 4 _) ((ma_up_comm _ (show 2 ≠ 3 from (by decide)) _ _).trans (congrArg (fun f => ma_up f 3 _) (ma_up_up _ _ _ _)))))).trans ((ma_up_comm _ (show 132 ≠ 120 from (by decide)) _ _).trans (congrArg (fun f => ma_up f 120 _) (ma_up_up _ _ _ _)))) ?_
  refine ev_iinc (pc' := 151) (v := 11) (lv' := [some (.ref 115), some (.int 11), some (.int 2), some (.int 4), some (.int 1), some (.int 4)]) dX8_layForm_148 rfl rfl (by decide) (Nat.le_of_ble_eq_true rfl) rfl rfl ?_
  refine ev_goto (tgt := 22) dX8_layForm_151 rfl ?_
  refine ev_rowL (fun r11 => ?_)
  refine ev_iload_n (pc' := 23) (i := 1) dX8_layForm_22 rfl rfl rfl ?_
  refine ev_bipush (pc' := 25) (v := 16) dX8_layForm_23 rfl kb_16 ?_
  refine ev_icmp_ge (tgt := 154) (pc' := 28) dX8_layForm_25 rfl rfl (fun h => absurd h (by decide)) (fun _ => ?_)
  refine ev_iconst (pc' := 29) (v := 0) dX8_layForm_28 rfl ki_0 ?_
  refine ev_istore_n (pc' := 30) (i := 2) (lv' := [some (.ref 115), some (.int 11), some (.int 0), some (.int 4), some (.int 1), some (.int 4)]) dX8_layForm_29 rfl rfl (Nat.le_of_ble_eq_true rfl) rfl rfl ?_
  refine ev_iconst (pc' := 31) (v := 0) dX8_layForm_30 rfl ki_0 ?_
  refine ev_istore_n (pc' := 32) (i := 3) (lv' := [some (.ref 115), some (.int 11), some (.int 0), some (.int 0), some (.int 1), some (.int 4)]) dX8_layForm_31 rfl rfl (Nat.le_of_ble_eq_true rfl) rfl rfl ?_
  refine ev_iload_n (pc' := 33) (i := 3) dX8_layForm_32 rfl rfl rfl ?_
  refine ev_iconst (pc' := 34) (v := 4) dX8_layForm_33 rfl ki_4 ?_
  refine ev_icmp_ge (tgt := 130) (pc' := 37) dX8_layForm_34 rfl rfl (fun h => absurd h (by decide)) (fun _ => ?_)
  refine ev_iload_n (pc' := 38) (i := 1) dX8_layForm_37 rfl rfl rfl ?_
  refine ev_iload_n (pc' := 39) (i := 3) dX8_layForm_38 rfl rfl rfl ?_
  refine ev_ishr (pc' := 40) (v := 11) dX8_layForm_39 rfl (by decide) ?_
  refine ev_iconst (pc' := 41) (v := 1) dX8_layForm_40 rfl ki_1 ?_
  refine ev_iand (pc' := 42) (v := 1) dX8_layForm_41 rfl (by decide) ?_
  refine ev_iconst (pc' := 43) (v := 1) dX8_layForm_42 rfl ki_1 ?_
  refine ev_icmp_ne (tgt := 50) (pc' := 46) dX8_layForm_43 rfl rfl (fun h => absurd (by decide) h) (fun _ => ?_)
  refine ev_iconst (pc' := 47) (v := 1) dX8_layForm_46 rfl ki_1 ?_
  refine ev_goto (tgt := 51) dX8_layForm_47 rfl ?_
  refine ev_istore (pc' := 53) (lv' := [some (.ref 115), some (.int 11), some (.int 0), some (.int 0), some (.int 1), some (.int 4)]) dX8_layForm_51 rfl (Nat.le_of_ble_eq_true rfl) rfl rfl ?_
  refine ev_iload_n (pc' := 54) (i := 2) dX8_layForm_53 rfl rfl rfl ?_
  refine ev_iload (pc' := 56) dX8_layForm_54 rfl rfl ?_
  refine ev_if_eq (tgt := 63) (pc' := 59) dX8_layForm_56 rfl rfl (fun h => absurd h (by decide)) (fun _ => ?_)
  refine ev_iconst (pc' := 60) (v := 1) dX8_layForm_59 rfl ki_1 ?_
  refine ev_goto (tgt := 64) dX8_layForm_60 rfl ?_
  refine ev_iadd (pc' := 65) (v := 1) dX8_layForm_64 rfl (by decide) ?_
  refine ev_istore_n (pc' := 66) (i := 2) (lv' := [some (.ref 115), some (.int 11), some (.int 1), some (.int 0), some (.int 1), some (.int 4)]) dX8_layForm_65 rfl rfl (Nat.le_of_ble_eq_true rfl) rfl rfl ?_
  refine ev_iconst (pc' := 67) (v := 0) dX8_layForm_66 rfl ki_0 ?_
  refine ev_istore (pc' := 69) (lv' := [some (.ref 115), some (.int 11), some (.int 1), some (.int 0), some (.int 1), some (.int 0)]) dX8_layForm_67 rfl (Nat.le_of_ble_eq_true rfl) rfl rfl ?_
  refine ev_iload (pc' := 71) dX8_layForm_69 rfl rfl ?_
  refine ev_iconst (pc' := 72) (v := 4) dX8_layForm_71 rfl ki_4 ?_
  refine ev_icmp_ge (tgt := 124) (pc' := 75) dX8_layForm_72 rfl rfl (fun h => absurd h (by decide)) (fun _ => ?_)
  refine ev_aload_n (pc' := 76) (i := 0) dX8_layForm_75 rfl rfl rfl ?_
  refine ev_getR (pc' := 79) fo_X8_26 dX8_layForm_76 rfl hs_115 rfl rf_115_8 ?_
  refine ev_iconst (pc' := 80) (v := 4) dX8_layForm_79 rfl ki_4 ?_
  refine ev_iload_n (pc' := 81) (i := 3) dX8_layForm_80 rfl rfl rfl ?_
  refine ev_imul (pc' := 82) (v := 0) dX8_layForm_81 rfl (by decide) ?_
  refine ev_iload (pc' := 84) dX8_layForm_82 rfl rfl ?_
  refine ev_iadd (pc' := 85) (v := 0) dX8_layForm_84 rfl (by decide) ?_
  refine ev_iload (pc' := 87) dX8_layForm_85 rfl rfl ?_
  refine ev_if_eq (tgt := 105) (pc' := 90) dX8_layForm_87 rfl rfl (fun h => absurd h (by decide)) (fun _ => ?_)
  refine ev_aload_n (pc' := 91) (i := 0) dX8_layForm_90 rfl rfl rfl ?_
  refine ev_getR (pc' := 94) fo_X8_67 dX8_layForm_91 rfl hs_115 rfl rf_115_24 ?_
  refine ev_iconst (pc' := 95) (v := 4) dX8_layForm_94 rfl ki_4 ?_
  refine ev_iload_n (pc' := 96) (i := 3) dX8_layForm_95 rfl rfl rfl ?_
  refine ev_imul (pc' := 97) (v := 0) dX8_layForm_96 rfl (by decide) ?_
  refine ev_iload (pc' := 99) dX8_layForm_97 rfl rfl ?_
  refine ev_iadd (pc' := 100) (v := 0) dX8_layForm_99 rfl (by decide) ?_
  refine ev_iald (pc' := 101) (j := 0) (v := (I 133) 0) dX8_layForm_100 rfl hs_133 rfl (Nat.le_of_ble_eq_true rfl) (Nat.le_of_ble_eq_true rfl) rfl ?_
  refine ev_i2l (pc' := 102) (v := Int32.toInt64 ((I 133) 0)) dX8_layForm_101 rfl rfl ?_
  refine ev_goto (tgt := 117) dX8_layForm_102 rfl ?_
  refine ev_last (pc' := 118) (j := 0) (L' := (ma_up (ma_up L 132 (ma_up (ma_up (ma_up (ma_up (ma_up (L 132) 0 0) 1 (0 + (mW (mSel 7 (I 133) (I 134))))) 2 (((((0 + (mW (mSel 3 (I 133) (I 134)))) + (mW (mSel 5 (I 133) (I 134)))) + (mW (mSel 6 (I 133) (I 134)))) + (mW (mSel 9 (I 133) (I 134)))) + (mW (mSel 10 (I 133) (I 134))))) 3 ((((0 + (mW (mSel 1 (I 133) (I 134)))) + (mW (mSel 2 (I 133) (I 134)))) + (mW (mSel 4 (I 133) (I 134)))) + (mW (mSel 8 (I 133) (I 134))))) 4 (0 + (mW (mSel 0 (I 133) (I 134)))))) 120 (ma_up r11 0 (Int32.toInt64 ((I 133) 0))))) dX8_layForm_117 rfl hs_120 rfl (Nat.le_of_ble_eq_true rfl) (Nat.le_of_ble_eq_true rfl) (ma_up_up _ _ _ _) ?_
  refine ev_iinc (pc' := 121) (v := 1) (lv' := [some (.ref 115), some (.int 11), some (.int 1), some (.int 0), some (.int 1), some (.int 1)]) dX8_layForm_118 rfl rfl (by decide) (Nat.le_of_ble_eq_true rfl) rfl rfl ?_
  refine ev_goto (tgt := 69) dX8_layForm_121 rfl ?_
  refine ev_iload (pc' := 71) dX8_layForm_69 rfl rfl ?_
  refine ev_iconst (pc' := 72) (v := 4) dX8_layForm_71 rfl ki_4 ?_
  refine ev_icmp_ge (tgt := 124) (pc' := 75) dX8_layForm_72 rfl rfl (fun h => absurd h (by decide)) (fun _ => ?_)
  refine ev_aload_n (pc' := 76) (i := 0) dX8_layForm_75 rfl rfl rfl ?_
  refine ev_getR (pc' := 79) fo_X8_26 dX8_layForm_76 rfl hs_115 rfl rf_115_8 ?_
  refine ev_iconst (pc' := 80) (v := 4) dX8_layForm_79 rfl ki_4 ?_
  refine ev_iload_n (pc' := 81) (i := 3) dX8_layForm_80 rfl rfl rfl ?_
  refine ev_imul (pc' := 82) (v := 0) dX8_layForm_81 rfl (by decide) ?_
  refine ev_iload (pc' := 84) dX8_layForm_82 rfl rfl ?_
  refine ev_iadd (pc' := 85) (v := 1) dX8_layForm_84 rfl (by decide) ?_
  refine ev_iload (pc' := 87) dX8_layForm_85 rfl rfl ?_
  refine ev_if_eq (tgt := 105) (pc' := 90) dX8_layForm_87 rfl rfl (fun h => absurd h (by decide)) (fun _ => ?_)
  refine ev_aload_n (pc' := 91) (i := 0) dX8_layForm_90 rfl rfl rfl ?_
  refine ev_getR (pc' := 94) fo_X8_67 dX8_layForm_91 rfl hs_115 rfl rf_115_24 ?_
  refine ev_iconst (pc' := 95) (v := 4) dX8_layForm_94 rfl ki_4 ?_
  refine ev_iload_n (pc' := 96) (i := 3) dX8_layForm_95 rfl rfl rfl ?_
  refine ev_imul (pc' := 97) (v := 0) dX8_layForm_96 rfl (by decide) ?_
  refine ev_iload (pc' := 99) dX8_layForm_97 rfl rfl ?_
  refine ev_iadd (pc' := 100) (v := 1) dX8_layForm_99 rfl (by decide) ?_
  refine ev_iald (pc' := 101) (j := 1) (v := (I 133) 1) dX8_layForm_100 rfl hs_133 rfl (Nat.le_of_ble_eq_true rfl) (Nat.le_of_ble_eq_true rfl) rfl ?_
  refine ev_i2l (pc' := 102) (v := Int32.toInt64 ((I 133) 1)) dX8_layForm_101 rfl rfl ?_
  refine ev_goto (tgt := 117) dX8_layForm_102 rfl ?_
  refine ev_last (pc' := 118) (j := 1) (L' := (ma_up (ma_up L 132 (ma_up (ma_up (ma_up (ma_up (ma_up (L 132) 0 0) 1 (0 + (mW (mSel 7 (I 133) (I 134))))) 2 (((((0 + (mW (mSel 3 (I 133) (I 134)))) + (mW (mSel 5 (I 133) (I 134)))) + (mW (mSel 6 (I 133) (I 134)))) + (mW (mSel 9 (I 133) (I 134)))) + (mW (mSel 10 (I 133) (I 134))))) 3 ((((0 + (mW (mSel 1 (I 133) (I 134)))) + (mW (mSel 2 (I 133) (I 134)))) + (mW (mSel 4 (I 133) (I 134)))) + (mW (mSel 8 (I 133) (I 134))))) 4 (0 + (mW (mSel 0 (I 133) (I 134)))))) 120 (ma_up (ma_up r11 0 (Int32.toInt64 ((I 133) 0))) 1 (Int32.toInt64 ((I 133) 1))))) dX8_layForm_117 rfl hs_120 rfl (Nat.le_of_ble_eq_true rfl) (Nat.le_of_ble_eq_true rfl) (ma_up_up _ _ _ _) ?_
  refine ev_iinc (pc' := 121) (v := 2) (lv' := [some (.ref 115), some (.int 11), some (.int 1), some (.int 0), some (.int 1), some (.int 2)]) dX8_layForm_118 rfl rfl (by decide) (Nat.le_of_ble_eq_true rfl) rfl rfl ?_
  refine ev_goto (tgt := 69) dX8_layForm_121 rfl ?_
  refine ev_iload (pc' := 71) dX8_layForm_69 rfl rfl ?_
  refine ev_iconst (pc' := 72) (v := 4) dX8_layForm_71 rfl ki_4 ?_
  refine ev_icmp_ge (tgt := 124) (pc' := 75) dX8_layForm_72 rfl rfl (fun h => absurd h (by decide)) (fun _ => ?_)
  refine ev_aload_n (pc' := 76) (i := 0) dX8_layForm_75 rfl rfl rfl ?_
  refine ev_getR (pc' := 79) fo_X8_26 dX8_layForm_76 rfl hs_115 rfl rf_115_8 ?_
  refine ev_iconst (pc' := 80) (v := 4) dX8_layForm_79 rfl ki_4 ?_
  refine ev_iload_n (pc' := 81) (i := 3) dX8_layForm_80 rfl rfl rfl ?_
  refine ev_imul (pc' := 82) (v := 0) dX8_layForm_81 rfl (by decide) ?_
  refine ev_iload (pc' := 84) dX8_layForm_82 rfl rfl ?_
  refine ev_iadd (pc' := 85) (v := 2) dX8_layForm_84 rfl (by decide) ?_
  refine ev_iload (pc' := 87) dX8_layForm_85 rfl rfl ?_
  refine ev_if_eq (tgt := 105) (pc' := 90) dX8_layForm_87 rfl rfl (fun h => absurd h (by decide)) (fun _ => ?_)
  refine ev_aload_n (pc' := 91) (i := 0) dX8_layForm_90 rfl rfl rfl ?_
  refine ev_getR (pc' := 94) fo_X8_67 dX8_layForm_91 rfl hs_115 rfl rf_115_24 ?_
  refine ev_iconst (pc' := 95) (v := 4) dX8_layForm_94 rfl ki_4 ?_
  refine ev_iload_n (pc' := 96) (i := 3) dX8_layForm_95 rfl rfl rfl ?_
  refine ev_imul (pc' := 97) (v := 0) dX8_layForm_96 rfl (by decide) ?_
  refine ev_iload (pc' := 99) dX8_layForm_97 rfl rfl ?_
  refine ev_iadd (pc' := 100) (v := 2) dX8_layForm_99 rfl (by decide) ?_
  refine ev_iald (pc' := 101) (j := 2) (v := (I 133) 2) dX8_layForm_100 rfl hs_133 rfl (Nat.le_of_ble_eq_true rfl) (Nat.le_of_ble_eq_true rfl) rfl ?_
  refine ev_i2l (pc' := 102) (v := Int32.toInt64 ((I 133) 2)) dX8_layForm_101 rfl rfl ?_
  refine ev_goto (tgt := 117) dX8_layForm_102 rfl ?_
  refine ev_last (pc' := 118) (j := 2) (L' := (ma_up (ma_up L 132 (ma_up (ma_up (ma_up (ma_up (ma_up (L 132) 0 0) 1 (0 + (mW (mSel 7 (I 133) (I 134))))) 2 (((((0 + (mW (mSel 3 (I 133) (I 134)))) + (mW (mSel 5 (I 133) (I 134)))) + (mW (mSel 6 (I 133) (I 134)))) + (mW (mSel 9 (I 133) (I 134)))) + (mW (mSel 10 (I 133) (I 134))))) 3 ((((0 + (mW (mSel 1 (I 133) (I 134)))) + (mW (mSel 2 (I 133) (I 134)))) + (mW (mSel 4 (I 133) (I 134)))) + (mW (mSel 8 (I 133) (I 134))))) 4 (0 + (mW (mSel 0 (I 133) (I 134)))))) 120 (ma_up (ma_up (ma_up r11 0 (Int32.toInt64 ((I 133) 0))) 1 (Int32.toInt64 ((I 133) 1))) 2 (Int32.toInt64 ((I 133) 2))))) dX8_layForm_117 rfl hs_120 rfl (Nat.le_of_ble_eq_true rfl) (Nat.le_of_ble_eq_true rfl) (ma_up_up _ _ _ _) ?_
  refine ev_iinc (pc' := 121) (v := 3) (lv' := [some (.ref 115), some (.int 11), some (.int 1), some (.int 0), some (.int 1), some (.int 3)]) dX8_layForm_118 rfl rfl (by decide) (Nat.le_of_ble_eq_true rfl) rfl rfl ?_
  refine ev_goto (tgt := 69) dX8_layForm_121 rfl ?_
  refine ev_iload (pc' := 71) dX8_layForm_69 rfl rfl ?_
  refine ev_iconst (pc' := 72) (v := 4) dX8_layForm_71 rfl ki_4 ?_
  refine ev_icmp_ge (tgt := 124) (pc' := 75) dX8_layForm_72 rfl rfl (fun h => absurd h (by decide)) (fun _ => ?_)
  refine ev_aload_n (pc' := 76) (i := 0) dX8_layForm_75 rfl rfl rfl ?_
  refine ev_getR (pc' := 79) fo_X8_26 dX8_layForm_76 rfl hs_115 rfl rf_115_8 ?_
  refine ev_iconst (pc' := 80) (v := 4) dX8_layForm_79 rfl ki_4 ?_
  refine ev_iload_n (pc' := 81) (i := 3) dX8_layForm_80 rfl rfl rfl ?_
  refine ev_imul (pc' := 82) (v := 0) dX8_layForm_81 rfl (by decide) ?_
  refine ev_iload (pc' := 84) dX8_layForm_82 rfl rfl ?_
  refine ev_iadd (pc' := 85) (v := 3) dX8_layForm_84 rfl (by decide) ?_
  refine ev_iload (pc' := 87) dX8_layForm_85 rfl rfl ?_
  refine ev_if_eq (tgt := 105) (pc' := 90) dX8_layForm_87 rfl rfl (fun h => absurd h (by decide)) (fun _ => ?_)
  refine ev_aload_n (pc' := 91) (i := 0) dX8_layForm_90 rfl rfl rfl ?_
  refine ev_getR (pc' := 94) fo_X8_67 dX8_layForm_91 rfl hs_115 rfl rf_115_24 ?_
  refine ev_iconst (pc' := 95) (v := 4) dX8_layForm_94 rfl ki_4 ?_
  refine ev_iload_n (pc' := 96) (i := 3) dX8_layForm_95 rfl rfl rfl ?_
  refine ev_imul (pc' := 97) (v := 0) dX8_layForm_96 rfl (by decide) ?_
  refine ev_iload (pc' := 99) dX8_layForm_97 rfl rfl ?_
  refine ev_iadd (pc' := 100) (v := 3) dX8_layForm_99 rfl (by decide) ?_
  refine ev_iald (pc' := 101) (j := 3) (v := (I 133) 3) dX8_layForm_100 rfl hs_133 rfl (Nat.le_of_ble_eq_true rfl) (Nat.le_of_ble_eq_true rfl) rfl ?_
  refine ev_i2l (pc' := 102) (v := Int32.toInt64 ((I 133) 3)) dX8_layForm_101 rfl rfl ?_
  refine ev_goto (tgt := 117) dX8_layForm_102 rfl ?_
  refine ev_last (pc' := 118) (j := 3) (L' := (ma_up (ma_up L 132 (ma_up (ma_up (ma_up (ma_up (ma_up (L 132) 0 0) 1 (0 + (mW (mSel 7 (I 133) (I 134))))) 2 (((((0 + (mW (mSel 3 (I 133) (I 134)))) + (mW (mSel 5 (I 133) (I 134)))) + (mW (mSel 6 (I 133) (I 134)))) + (mW (mSel 9 (I 133) (I 134)))) + (mW (mSel 10 (I 133) (I 134))))) 3 ((((0 + (mW (mSel 1 (I 133) (I 134)))) + (mW (mSel 2 (I 133) (I 134)))) + (mW (mSel 4 (I 133) (I 134)))) + (mW (mSel 8 (I 133) (I 134))))) 4 (0 + (mW (mSel 0 (I 133) (I 134)))))) 120 (ma_up (ma_up (ma_up (ma_up r11 0 (Int32.toInt64 ((I 133) 0))) 1 (Int32.toInt64 ((I 133) 1))) 2 (Int32.toInt64 ((I 133) 2))) 3 (Int32.toInt64 ((I 133) 3))))) dX8_layForm_117 rfl hs_120 rfl (Nat.le_of_ble_eq_true rfl) (Nat.le_of_ble_eq_true rfl) (ma_up_up _ _ _ _) ?_
  refine ev_iinc (pc' := 121) (v := 4) (lv' := [some (.ref 115), some (.int 11), some (.int 1), some (.int 0), some (.int 1), some (.int 4)]) dX8_layForm_118 rfl rfl (by decide) (Nat.le_of_ble_eq_true rfl) rfl rfl ?_
  refine ev_goto (tgt := 69) dX8_layForm_121 rfl ?_
  refine ev_iload (pc' := 71) dX8_layForm_69 rfl rfl ?_
  refine ev_iconst (pc' := 72) (v := 4) dX8_layForm_71 rfl ki_4 ?_
  refine ev_icmp_ge (tgt := 124) (pc' := 75) dX8_layForm_72 rfl rfl (fun _ => ?_) (fun h => absurd (by decide) h)
  refine ev_iinc (pc' := 127) (v := 1) (lv' := [some (.ref 115), some (.int 11), some (.int 1), some (.int 1), some (.int 1), some (.int 4)]) dX8_layForm_124 rfl rfl (by decide) (Nat.le_of_ble_eq_true rfl) rfl rfl ?_
  refine ev_goto (tgt := 32) dX8_layForm_127 rfl ?_
  refine ev_iload_n (pc' := 33) (i := 3) dX8_layForm_32 rfl rfl rfl ?_
  refine ev_iconst (pc' := 34) (v := 4) dX8_layForm_33 rfl ki_4 ?_
  refine ev_icmp_ge (tgt := 130) (pc' := 37) dX8_layForm_34 rfl rfl (fun h => absurd h (by decide)) (fun _ => ?_)
  refine ev_iload_n (pc' := 38) (i := 1) dX8_layForm_37 rfl rfl rfl ?_
  refine ev_iload_n (pc' := 39) (i := 3) dX8_layForm_38 rfl rfl rfl ?_
  refine ev_ishr (pc' := 40) (v := 5) dX8_layForm_39 rfl (by decide) ?_
  refine ev_iconst (pc' := 41) (v := 1) dX8_layForm_40 rfl ki_1 ?_
  refine ev_iand (pc' := 42) (v := 1) dX8_layForm_41 rfl (by decide) ?_
  refine ev_iconst (pc' := 43) (v := 1) dX8_layForm_42 rfl ki_1 ?_
  refine ev_icmp_ne (tgt := 50) (pc' := 46) dX8_layForm_43 rfl rfl (fun h => absurd (by decide) h) (fun _ => ?_)
  refine ev_iconst (pc' := 47) (v := 1) dX8_layForm_46 rfl ki_1 ?_
  refine ev_goto (tgt := 51) dX8_layForm_47 rfl ?_
  refine ev_istore (pc' := 53) (lv' := [some (.ref 115), some (.int 11), some (.int 1), some (.int 1), some (.int 1), some (.int 4)]) dX8_layForm_51 rfl (Nat.le_of_ble_eq_true rfl) rfl rfl ?_
  refine ev_iload_n (pc' := 54) (i := 2) dX8_layForm_53 rfl rfl rfl ?_
  refine ev_iload (pc' := 56) dX8_layForm_54 rfl rfl ?_
  refine ev_if_eq (tgt := 63) (pc' := 59) dX8_layForm_56 rfl rfl (fun h => absurd h (by decide)) (fun _ => ?_)
  refine ev_iconst (pc' := 60) (v := 1) dX8_layForm_59 rfl ki_1 ?_
  refine ev_goto (tgt := 64) dX8_layForm_60 rfl ?_
  refine ev_iadd (pc' := 65) (v := 2) dX8_layForm_64 rfl (by decide) ?_
  refine ev_istore_n (pc' := 66) (i := 2) (lv' := [some (.ref 115), some (.int 11), some (.int 2), some (.int 1), some (.int 1), some (.int 4)]) dX8_layForm_65 rfl rfl (Nat.le_of_ble_eq_true rfl) rfl rfl ?_
  refine ev_iconst (pc' := 67) (v := 0) dX8_layForm_66 rfl ki_0 ?_
  refine ev_istore (pc' := 69) (lv' := [some (.ref 115), some (.int 11), some (.int 2), some (.int 1), some (.int 1), some (.int 0)]) dX8_layForm_67 rfl (Nat.le_of_ble_eq_true rfl) rfl rfl ?_
  refine ev_iload (pc' := 71) dX8_layForm_69 rfl rfl ?_
  refine ev_iconst (pc' := 72) (v := 4) dX8_layForm_71 rfl ki_4 ?_
  refine ev_icmp_ge (tgt := 124) (pc' := 75) dX8_layForm_72 rfl rfl (fun h => absurd h (by decide)) (fun _ => ?_)
  refine ev_aload_n (pc' := 76) (i := 0) dX8_layForm_75 rfl rfl rfl ?_
  refine ev_getR (pc' := 79) fo_X8_26 dX8_layForm_76 rfl hs_115 rfl rf_115_8 ?_
  refine ev_iconst (pc' := 80) (v := 4) dX8_layForm_79 rfl ki_4 ?_
  refine ev_iload_n (pc' := 81) (i := 3) dX8_layForm_80 rfl rfl rfl ?_
  refine ev_imul (pc' := 82) (v := 4) dX8_layForm_81 rfl (by decide) ?_
  refine ev_iload (pc' := 84) dX8_layForm_82 rfl rfl ?_
  refine ev_iadd (pc' := 85) (v := 4) dX8_layForm_84 rfl (by decide) ?_
  refine ev_iload (pc' := 87) dX8_layForm_85 rfl rfl ?_
  refine ev_if_eq (tgt := 105) (pc' := 90) dX8_layForm_87 rfl rfl (fun h => absurd h (by decide)) (fun _ => ?_)
  refine ev_aload_n (pc' := 91) (i := 0) dX8_layForm_90 rfl rfl rfl ?_
  refine ev_getR (pc' := 94) fo_X8_67 dX8_layForm_91 rfl hs_115 rfl rf_115_24 ?_
  refine ev_iconst (pc' := 95) (v := 4) dX8_layForm_94 rfl ki_4 ?_
  refine ev_iload_n (pc' := 96) (i := 3) dX8_layForm_95 rfl rfl rfl ?_
  refine ev_imul (pc' := 97) (v := 4) dX8_layForm_96 rfl (by decide) ?_
  refine ev_iload (pc' := 99) dX8_layForm_97 rfl rfl ?_
  refine ev_iadd (pc' := 100) (v := 4) dX8_layForm_99 rfl (by decide) ?_
  refine ev_iald (pc' := 101) (j := 4) (v := (I 133) 4) dX8_layForm_100 rfl hs_133 rfl (Nat.le_of_ble_eq_true rfl) (Nat.le_of_ble_eq_true rfl) rfl ?_
  refine ev_i2l (pc' := 102) (v := Int32.toInt64 ((I 133) 4)) dX8_layForm_101 rfl rfl ?_
  refine ev_goto (tgt := 117) dX8_layForm_102 rfl ?_
  refine ev_last (pc' := 118) (j := 4) (L' := (ma_up (ma_up L 132 (ma_up (ma_up (ma_up (ma_up (ma_up (L 132) 0 0) 1 (0 + (mW (mSel 7 (I 133) (I 134))))) 2 (((((0 + (mW (mSel 3 (I 133) (I 134)))) + (mW (mSel 5 (I 133) (I 134)))) + (mW (mSel 6 (I 133) (I 134)))) + (mW (mSel 9 (I 133) (I 134)))) + (mW (mSel 10 (I 133) (I 134))))) 3 ((((0 + (mW (mSel 1 (I 133) (I 134)))) + (mW (mSel 2 (I 133) (I 134)))) + (mW (mSel 4 (I 133) (I 134)))) + (mW (mSel 8 (I 133) (I 134))))) 4 (0 + (mW (mSel 0 (I 133) (I 134)))))) 120 (ma_up (ma_up (ma_up (ma_up (ma_up r11 0 (Int32.toInt64 ((I 133) 0))) 1 (Int32.toInt64 ((I 133) 1))) 2 (Int32.toInt64 ((I 133) 2))) 3 (Int32.toInt64 ((I 133) 3))) 4 (Int32.toInt64 ((I 133) 4))))) dX8_layForm_117 rfl hs_120 rfl (Nat.le_of_ble_eq_true rfl) (Nat.le_of_ble_eq_true rfl) (ma_up_up _ _ _ _) ?_
  refine ev_iinc (pc' := 121) (v := 1) (lv' := [some (.ref 115), some (.int 11), some (.int 2), some (.int 1), some (.int 1), some (.int 1)]) dX8_layForm_118 rfl rfl (by decide) (Nat.le_of_ble_eq_true rfl) rfl rfl ?_
  refine ev_goto (tgt := 69) dX8_layForm_121 rfl ?_
  refine ev_iload (pc' := 71) dX8_layForm_69 rfl rfl ?_
  refine ev_iconst (pc' := 72) (v := 4) dX8_layForm_71 rfl ki_4 ?_
  refine ev_icmp_ge (tgt := 124) (pc' := 75) dX8_layForm_72 rfl rfl (fun h => absurd h (by decide)) (fun _ => ?_)
  refine ev_aload_n (pc' := 76) (i := 0) dX8_layForm_75 rfl rfl rfl ?_
  refine ev_getR (pc' := 79) fo_X8_26 dX8_layForm_76 rfl hs_115 rfl rf_115_8 ?_
  refine ev_iconst (pc' := 80) (v := 4) dX8_layForm_79 rfl ki_4 ?_
  refine ev_iload_n (pc' := 81) (i := 3) dX8_layForm_80 rfl rfl rfl ?_
  refine ev_imul (pc' := 82) (v := 4) dX8_layForm_81 rfl (by decide) ?_
  refine ev_iload (pc' := 84) dX8_layForm_82 rfl rfl ?_
  refine ev_iadd (pc' := 85) (v := 5) dX8_layForm_84 rfl (by decide) ?_
  refine ev_iload (pc' := 87) dX8_layForm_85 rfl rfl ?_
  refine ev_if_eq (tgt := 105) (pc' := 90) dX8_layForm_87 rfl rfl (fun h => absurd h (by decide)) (fun _ => ?_)
  refine ev_aload_n (pc' := 91) (i := 0) dX8_layForm_90 rfl rfl rfl ?_
  refine ev_getR (pc' := 94) fo_X8_67 dX8_layForm_91 rfl hs_115 rfl rf_115_24 ?_
  refine ev_iconst (pc' := 95) (v := 4) dX8_layForm_94 rfl ki_4 ?_
  refine ev_iload_n (pc' := 96) (i := 3) dX8_layForm_95 rfl rfl rfl ?_
  refine ev_imul (pc' := 97) (v := 4) dX8_layForm_96 rfl (by decide) ?_
  refine ev_iload (pc' := 99) dX8_layForm_97 rfl rfl ?_
  refine ev_iadd (pc' := 100) (v := 5) dX8_layForm_99 rfl (by decide) ?_
  refine ev_iald (pc' := 101) (j := 5) (v := (I 133) 5) dX8_layForm_100 rfl hs_133 rfl (Nat.le_of_ble_eq_true rfl) (Nat.le_of_ble_eq_true rfl) rfl ?_
  refine ev_i2l (pc' := 102) (v := Int32.toInt64 ((I 133) 5)) dX8_layForm_101 rfl rfl ?_
  refine ev_goto (tgt := 117) dX8_layForm_102 rfl ?_
  refine ev_last (pc' := 118) (j := 5) (L' := (ma_up (ma_up L 132 (ma_up (ma_up (ma_up (ma_up (ma_up (L 132) 0 0) 1 (0 + (mW (mSel 7 (I 133) (I 134))))) 2 (((((0 + (mW (mSel 3 (I 133) (I 134)))) + (mW (mSel 5 (I 133) (I 134)))) + (mW (mSel 6 (I 133) (I 134)))) + (mW (mSel 9 (I 133) (I 134)))) + (mW (mSel 10 (I 133) (I 134))))) 3 ((((0 + (mW (mSel 1 (I 133) (I 134)))) + (mW (mSel 2 (I 133) (I 134)))) + (mW (mSel 4 (I 133) (I 134)))) + (mW (mSel 8 (I 133) (I 134))))) 4 (0 + (mW (mSel 0 (I 133) (I 134)))))) 120 (ma_up (ma_up (ma_up (ma_up (ma_up (ma_up r11 0 (Int32.toInt64 ((I 133) 0))) 1 (Int32.toInt64 ((I 133) 1))) 2 (Int32.toInt64 ((I 133) 2))) 3 (Int32.toInt64 ((I 133) 3))) 4 (Int32.toInt64 ((I 133) 4))) 5 (Int32.toInt64 ((I 133) 5))))) dX8_layForm_117 rfl hs_120 rfl (Nat.le_of_ble_eq_true rfl) (Nat.le_of_ble_eq_true rfl) (ma_up_up _ _ _ _) ?_
  refine ev_iinc (pc' := 121) (v := 2) (lv' := [some (.ref 115), some (.int 11), some (.int 2), some (.int 1), some (.int 1), some (.int 2)]) dX8_layForm_118 rfl rfl (by decide) (Nat.le_of_ble_eq_true rfl) rfl rfl ?_
  refine ev_goto (tgt := 69) dX8_layForm_121 rfl ?_
  refine ev_iload (pc' := 71) dX8_layForm_69 rfl rfl ?_
  refine ev_iconst (pc' := 72) (v := 4) dX8_layForm_71 rfl ki_4 ?_
  refine ev_icmp_ge (tgt := 124) (pc' := 75) dX8_layForm_72 rfl rfl (fun h => absurd h (by decide)) (fun _ => ?_)
  refine ev_aload_n (pc' := 76) (i := 0) dX8_layForm_75 rfl rfl rfl ?_
  refine ev_getR (pc' := 79) fo_X8_26 dX8_layForm_76 rfl hs_115 rfl rf_115_8 ?_
  refine ev_iconst (pc' := 80) (v := 4) dX8_layForm_79 rfl ki_4 ?_
  refine ev_iload_n (pc' := 81) (i := 3) dX8_layForm_80 rfl rfl rfl ?_
  refine ev_imul (pc' := 82) (v := 4) dX8_layForm_81 rfl (by decide) ?_
  refine ev_iload (pc' := 84) dX8_layForm_82 rfl rfl ?_
  refine ev_iadd (pc' := 85) (v := 6) dX8_layForm_84 rfl (by decide) ?_
  refine ev_iload (pc' := 87) dX8_layForm_85 rfl rfl ?_
  refine ev_if_eq (tgt := 105) (pc' := 90) dX8_layForm_87 rfl rfl (fun h => absurd h (by decide)) (fun _ => ?_)
  refine ev_aload_n (pc' := 91) (i := 0) dX8_layForm_90 rfl rfl rfl ?_
  refine ev_getR (pc' := 94) fo_X8_67 dX8_layForm_91 rfl hs_115 rfl rf_115_24 ?_
  refine ev_iconst (pc' := 95) (v := 4) dX8_layForm_94 rfl ki_4 ?_
  refine ev_iload_n (pc' := 96) (i := 3) dX8_layForm_95 rfl rfl rfl ?_
  refine ev_imul (pc' := 97) (v := 4) dX8_layForm_96 rfl (by decide) ?_
  refine ev_iload (pc' := 99) dX8_layForm_97 rfl rfl ?_
  refine ev_iadd (pc' := 100) (v := 6) dX8_layForm_99 rfl (by decide) ?_
  refine ev_iald (pc' := 101) (j := 6) (v := (I 133) 6) dX8_layForm_100 rfl hs_133 rfl (Nat.le_of_ble_eq_true rfl) (Nat.le_of_ble_eq_true rfl) rfl ?_
  refine ev_i2l (pc' := 102) (v := Int32.toInt64 ((I 133) 6)) dX8_layForm_101 rfl rfl ?_
  refine ev_goto (tgt := 117) dX8_layForm_102 rfl ?_
  refine ev_last (pc' := 118) (j := 6) (L' := (ma_up (ma_up L 132 (ma_up (ma_up (ma_up (ma_up (ma_up (L 132) 0 0) 1 (0 + (mW (mSel 7 (I 133) (I 134))))) 2 (((((0 + (mW (mSel 3 (I 133) (I 134)))) + (mW (mSel 5 (I 133) (I 134)))) + (mW (mSel 6 (I 133) (I 134)))) + (mW (mSel 9 (I 133) (I 134)))) + (mW (mSel 10 (I 133) (I 134))))) 3 ((((0 + (mW (mSel 1 (I 133) (I 134)))) + (mW (mSel 2 (I 133) (I 134)))) + (mW (mSel 4 (I 133) (I 134)))) + (mW (mSel 8 (I 133) (I 134))))) 4 (0 + (mW (mSel 0 (I 133) (I 134)))))) 120 (ma_up (ma_up (ma_up (ma_up (ma_up (ma_up (ma_up r11 0 (Int32.toInt64 ((I 133) 0))) 1 (Int32.toInt64 ((I 133) 1))) 2 (Int32.toInt64 ((I 133) 2))) 3 (Int32.toInt64 ((I 133) 3))) 4 (Int32.toInt64 ((I 133) 4))) 5 (Int32.toInt64 ((I 133) 5))) 6 (Int32.toInt64 ((I 133) 6))))) dX8_layForm_117 rfl hs_120 rfl (Nat.le_of_ble_eq_true rfl) (Nat.le_of_ble_eq_true rfl) (ma_up_up _ _ _ _) ?_
  refine ev_iinc (pc' := 121) (v := 3) (lv' := [some (.ref 115), some (.int 11), some (.int 2), some (.int 1), some (.int 1), some (.int 3)]) dX8_layForm_118 rfl rfl (by decide) (Nat.le_of_ble_eq_true rfl) rfl rfl ?_
  refine ev_goto (tgt := 69) dX8_layForm_121 rfl ?_
  refine ev_iload (pc' := 71) dX8_layForm_69 rfl rfl ?_
  refine ev_iconst (pc' := 72) (v := 4) dX8_layForm_71 rfl ki_4 ?_
  refine ev_icmp_ge (tgt := 124) (pc' := 75) dX8_layForm_72 rfl rfl (fun h => absurd h (by decide)) (fun _ => ?_)
  refine ev_aload_n (pc' := 76) (i := 0) dX8_layForm_75 rfl rfl rfl ?_
  refine ev_getR (pc' := 79) fo_X8_26 dX8_layForm_76 rfl hs_115 rfl rf_115_8 ?_
  refine ev_iconst (pc' := 80) (v := 4) dX8_layForm_79 rfl ki_4 ?_
  refine ev_iload_n (pc' := 81) (i := 3) dX8_layForm_80 rfl rfl rfl ?_
  refine ev_imul (pc' := 82) (v := 4) dX8_layForm_81 rfl (by decide) ?_
  refine ev_iload (pc' := 84) dX8_layForm_82 rfl rfl ?_
  refine ev_iadd (pc' := 85) (v := 7) dX8_layForm_84 rfl (by decide) ?_
  refine ev_iload (pc' := 87) dX8_layForm_85 rfl rfl ?_
  refine ev_if_eq (tgt := 105) (pc' := 90) dX8_layForm_87 rfl rfl (fun h => absurd h (by decide)) (fun _ => ?_)
  refine ev_aload_n (pc' := 91) (i := 0) dX8_layForm_90 rfl rfl rfl ?_
  refine ev_getR (pc' := 94) fo_X8_67 dX8_layForm_91 rfl hs_115 rfl rf_115_24 ?_
  refine ev_iconst (pc' := 95) (v := 4) dX8_layForm_94 rfl ki_4 ?_
  refine ev_iload_n (pc' := 96) (i := 3) dX8_layForm_95 rfl rfl rfl ?_
  refine ev_imul (pc' := 97) (v := 4) dX8_layForm_96 rfl (by decide) ?_
  refine ev_iload (pc' := 99) dX8_layForm_97 rfl rfl ?_
  refine ev_iadd (pc' := 100) (v := 7) dX8_layForm_99 rfl (by decide) ?_
  refine ev_iald (pc' := 101) (j := 7) (v := (I 133) 7) dX8_layForm_100 rfl hs_133 rfl (Nat.le_of_ble_eq_true rfl) (Nat.le_of_ble_eq_true rfl) rfl ?_
  refine ev_i2l (pc' := 102) (v := Int32.toInt64 ((I 133) 7)) dX8_layForm_101 rfl rfl ?_
  refine ev_goto (tgt := 117) dX8_layForm_102 rfl ?_
  refine ev_last (pc' := 118) (j := 7) (L' := (ma_up (ma_up L 132 (ma_up (ma_up (ma_up (ma_up (ma_up (L 132) 0 0) 1 (0 + (mW (mSel 7 (I 133) (I 134))))) 2 (((((0 + (mW (mSel 3 (I 133) (I 134)))) + (mW (mSel 5 (I 133) (I 134)))) + (mW (mSel 6 (I 133) (I 134)))) + (mW (mSel 9 (I 133) (I 134)))) + (mW (mSel 10 (I 133) (I 134))))) 3 ((((0 + (mW (mSel 1 (I 133) (I 134)))) + (mW (mSel 2 (I 133) (I 134)))) + (mW (mSel 4 (I 133) (I 134)))) + (mW (mSel 8 (I 133) (I 134))))) 4 (0 + (mW (mSel 0 (I 133) (I 134)))))) 120 (ma_up (ma_up (ma_up (ma_up (ma_up (ma_up (ma_up (ma_up r11 0 (Int32.toInt64 ((I 133) 0))) 1 (Int32.toInt64 ((I 133) 1))) 2 (Int32.toInt64 ((I 133) 2))) 3 (Int32.toInt64 ((I 133) 3))) 4 (Int32.toInt64 ((I 133) 4))) 5 (Int32.toInt64 ((I 133) 5))) 6 (Int32.toInt64 ((I 133) 6))) 7 (Int32.toInt64 ((I 133) 7))))) dX8_layForm_117 rfl hs_120 rfl (Nat.le_of_ble_eq_true rfl) (Nat.le_of_ble_eq_true rfl) (ma_up_up _ _ _ _) ?_
  refine ev_iinc (pc' := 121) (v := 4) (lv' := [some (.ref 115), some (.int 11), some (.int 2), some (.int 1), some (.int 1), some (.int 4)]) dX8_layForm_118 rfl rfl (by decide) (Nat.le_of_ble_eq_true rfl) rfl rfl ?_
  refine ev_goto (tgt := 69) dX8_layForm_121 rfl ?_
  refine ev_iload (pc' := 71) dX8_layForm_69 rfl rfl ?_
  refine ev_iconst (pc' := 72) (v := 4) dX8_layForm_71 rfl ki_4 ?_
  refine ev_icmp_ge (tgt := 124) (pc' := 75) dX8_layForm_72 rfl rfl (fun _ => ?_) (fun h => absurd (by decide) h)
  refine ev_iinc (pc' := 127) (v := 2) (lv' := [some (.ref 115), some (.int 11), some (.int 2), some (.int 2), some (.int 1), some (.int 4)]) dX8_layForm_124 rfl rfl (by decide) (Nat.le_of_ble_eq_true rfl) rfl rfl ?_
  refine ev_goto (tgt := 32) dX8_layForm_127 rfl ?_
  refine ev_iload_n (pc' := 33) (i := 3) dX8_layForm_32 rfl rfl rfl ?_
  refine ev_iconst (pc' := 34) (v := 4) dX8_layForm_33 rfl ki_4 ?_
  refine ev_icmp_ge (tgt := 130) (pc' := 37) dX8_layForm_34 rfl rfl (fun h => absurd h (by decide)) (fun _ => ?_)
  refine ev_iload_n (pc' := 38) (i := 1) dX8_layForm_37 rfl rfl rfl ?_
  refine ev_iload_n (pc' := 39) (i := 3) dX8_layForm_38 rfl rfl rfl ?_
  refine ev_ishr (pc' := 40) (v := 2) dX8_layForm_39 rfl (by decide) ?_
  refine ev_iconst (pc' := 41) (v := 1) dX8_layForm_40 rfl ki_1 ?_
  refine ev_iand (pc' := 42) (v := 0) dX8_layForm_41 rfl (by decide) ?_
  refine ev_iconst (pc' := 43) (v := 1) dX8_layForm_42 rfl ki_1 ?_
  refine ev_icmp_ne (tgt := 50) (pc' := 46) dX8_layForm_43 rfl rfl (fun _ => ?_) (fun h => absurd h (by decide))
  refine ev_iconst (pc' := 51) (v := 0) dX8_layForm_50 rfl ki_0 ?_
  refine ev_istore (pc' := 53) (lv' := [some (.ref 115), some (.int 11), some (.int 2), some (.int 2), some (.int 0), some (.int 4)]) dX8_layForm_51 rfl (Nat.le_of_ble_eq_true rfl) rfl rfl ?_
  refine ev_iload_n (pc' := 54) (i := 2) dX8_layForm_53 rfl rfl rfl ?_
  refine ev_iload (pc' := 56) dX8_layForm_54 rfl rfl ?_
  refine ev_if_eq (tgt := 63) (pc' := 59) dX8_layForm_56 rfl rfl (fun _ => ?_) (fun h => absurd (by decide) h)
  refine ev_iconst (pc' := 64) (v := 0) dX8_layForm_63 rfl ki_0 ?_
  refine ev_iadd (pc' := 65) (v := 2) dX8_layForm_64 rfl (by decide) ?_
  refine ev_istore_n (pc' := 66) (i := 2) (lv' := [some (.ref 115), some (.int 11), some (.int 2), some (.int 2), some (.int 0), some (.int 4)]) dX8_layForm_65 rfl rfl (Nat.le_of_ble_eq_true rfl) rfl rfl ?_
  refine ev_iconst (pc' := 67) (v := 0) dX8_layForm_66 rfl ki_0 ?_
  refine ev_istore (pc' := 69) (lv' := [some (.ref 115), some (.int 11), some (.int 2), some (.int 2), some (.int 0), some (.int 0)]) dX8_layForm_67 rfl (Nat.le_of_ble_eq_true rfl) rfl rfl ?_
  refine ev_iload (pc' := 71) dX8_layForm_69 rfl rfl ?_
  refine ev_iconst (pc' := 72) (v := 4) dX8_layForm_71 rfl ki_4 ?_
  refine ev_icmp_ge (tgt := 124) (pc' := 75) dX8_layForm_72 rfl rfl (fun h => absurd h (by decide)) (fun _ => ?_)
  refine ev_aload_n (pc' := 76) (i := 0) dX8_layForm_75 rfl rfl rfl ?_
  refine ev_getR (pc' := 79) fo_X8_26 dX8_layForm_76 rfl hs_115 rfl rf_115_8 ?_
  refine ev_iconst (pc' := 80) (v := 4) dX8_layForm_79 rfl ki_4 ?_
  refine ev_iload_n (pc' := 81) (i := 3) dX8_layForm_80 rfl rfl rfl ?_
  refine ev_imul (pc' := 82) (v := 8) dX8_layForm_81 rfl (by decide) ?_
  refine ev_iload (pc' := 84) dX8_layForm_82 rfl rfl ?_
  refine ev_iadd (pc' := 85) (v := 8) dX8_layForm_84 rfl (by decide) ?_
  refine ev_iload (pc' := 87) dX8_layForm_85 rfl rfl ?_
  refine ev_if_eq (tgt := 105) (pc' := 90) dX8_layForm_87 rfl rfl (fun _ => ?_) (fun h => absurd (by decide) h)
  refine ev_aload_n (pc' := 106) (i := 0) dX8_layForm_105 rfl rfl rfl ?_
  refine ev_getR (pc' := 109) fo_X8_70 dX8_layForm_106 rfl hs_115 rfl rf_115_25 ?_
  refine ev_iconst (pc' := 110) (v := 4) dX8_layForm_109 rfl ki_4 ?_
  refine ev_iload_n (pc' := 111) (i := 3) dX8_layForm_110 rfl rfl rfl ?_
  refine ev_imul (pc' := 112) (v := 8) dX8_layForm_111 rfl (by decide) ?_
  refine ev_iload (pc' := 114) dX8_layForm_112 rfl rfl ?_
  refine ev_iadd (pc' := 115) (v := 8) dX8_layForm_114 rfl (by decide) ?_
  refine ev_iald (pc' := 116) (j := 8) (v := (I 134) 8) dX8_layForm_115 rfl hs_134 rfl (Nat.le_of_ble_eq_true rfl) (Nat.le_of_ble_eq_true rfl) rfl ?_
  refine ev_i2l (pc' := 117) (v := Int32.toInt64 ((I 134) 8)) dX8_layForm_116 rfl rfl ?_
  refine ev_last (pc' := 118) (j := 8) (L' := (ma_up (ma_up L 132 (ma_up (ma_up (ma_up (ma_up (ma_up (L 132) 0 0) 1 (0 + (mW (mSel 7 (I 133) (I 134))))) 2 (((((0 + (mW (mSel 3 (I 133) (I 134)))) + (mW (mSel 5 (I 133) (I 134)))) + (mW (mSel 6 (I 133) (I 134)))) + (mW (mSel 9 (I 133) (I 134)))) + (mW (mSel 10 (I 133) (I 134))))) 3 ((((0 + (mW (mSel 1 (I 133) (I 134)))) + (mW (mSel 2 (I 133) (I 134)))) + (mW (mSel 4 (I 133) (I 134)))) + (mW (mSel 8 (I 133) (I 134))))) 4 (0 + (mW (mSel 0 (I 133) (I 134)))))) 120 (ma_up (ma_up (ma_up (ma_up (ma_up (ma_up (ma_up (ma_up (ma_up r11 0 (Int32.toInt64 ((I 133) 0))) 1 (Int32.toInt64 ((I 133) 1))) 2 (Int32.toInt64 ((I 133) 2))) 3 (Int32.toInt64 ((I 133) 3))) 4 (Int32.toInt64 ((I 133) 4))) 5 (Int32.toInt64 ((I 133) 5))) 6 (Int32.toInt64 ((I 133) 6))) 7 (Int32.toInt64 ((I 133) 7))) 8 (Int32.toInt64 ((I 134) 8))))) dX8_layForm_117 rfl hs_120 rfl (Nat.le_of_ble_eq_true rfl) (Nat.le_of_ble_eq_true rfl) (ma_up_up _ _ _ _) ?_
  refine ev_iinc (pc' := 121) (v := 1) (lv' := [some (.ref 115), some (.int 11), some (.int 2), some (.int 2), some (.int 0), some (.int 1)]) dX8_layForm_118 rfl rfl (by decide) (Nat.le_of_ble_eq_true rfl) rfl rfl ?_
  refine ev_goto (tgt := 69) dX8_layForm_121 rfl ?_
  refine ev_iload (pc' := 71) dX8_layForm_69 rfl rfl ?_
  refine ev_iconst (pc' := 72) (v := 4) dX8_layForm_71 rfl ki_4 ?_
  refine ev_icmp_ge (tgt := 124) (pc' := 75) dX8_layForm_72 rfl rfl (fun h => absurd h (by decide)) (fun _ => ?_)
  refine ev_aload_n (pc' := 76) (i := 0) dX8_layForm_75 rfl rfl rfl ?_
  refine ev_getR (pc' := 79) fo_X8_26 dX8_layForm_76 rfl hs_115 rfl rf_115_8 ?_
  refine ev_iconst (pc' := 80) (v := 4) dX8_layForm_79 rfl ki_4 ?_
  refine ev_iload_n (pc' := 81) (i := 3) dX8_layForm_80 rfl rfl rfl ?_
  refine ev_imul (pc' := 82) (v := 8) dX8_layForm_81 rfl (by decide) ?_
  refine ev_iload (pc' := 84) dX8_layForm_82 rfl rfl ?_
  refine ev_iadd (pc' := 85) (v := 9) dX8_layForm_84 rfl (by decide) ?_
  refine ev_iload (pc' := 87) dX8_layForm_85 rfl rfl ?_
  refine ev_if_eq (tgt := 105) (pc' := 90) dX8_layForm_87 rfl rfl (fun _ => ?_) (fun h => absurd (by decide) h)
  refine ev_aload_n (pc' := 106) (i := 0) dX8_layForm_105 rfl rfl rfl ?_
  refine ev_getR (pc' := 109) fo_X8_70 dX8_layForm_106 rfl hs_115 rfl rf_115_25 ?_
  refine ev_iconst (pc' := 110) (v := 4) dX8_layForm_109 rfl ki_4 ?_
  refine ev_iload_n (pc' := 111) (i := 3) dX8_layForm_110 rfl rfl rfl ?_
  refine ev_imul (pc' := 112) (v := 8) dX8_layForm_111 rfl (by decide) ?_
  refine ev_iload (pc' := 114) dX8_layForm_112 rfl rfl ?_
  refine ev_iadd (pc' := 115) (v := 9) dX8_layForm_114 rfl (by decide) ?_
  refine ev_iald (pc' := 116) (j := 9) (v := (I 134) 9) dX8_layForm_115 rfl hs_134 rfl (Nat.le_of_ble_eq_true rfl) (Nat.le_of_ble_eq_true rfl) rfl ?_
  refine ev_i2l (pc' := 117) (v := Int32.toInt64 ((I 134) 9)) dX8_layForm_116 rfl rfl ?_
  refine ev_last (pc' := 118) (j := 9) (L' := (ma_up (ma_up L 132 (ma_up (ma_up (ma_up (ma_up (ma_up (L 132) 0 0) 1 (0 + (mW (mSel 7 (I 133) (I 134))))) 2 (((((0 + (mW (mSel 3 (I 133) (I 134)))) + (mW (mSel 5 (I 133) (I 134)))) + (mW (mSel 6 (I 133) (I 134)))) + (mW (mSel 9 (I 133) (I 134)))) + (mW (mSel 10 (I 133) (I 134))))) 3 ((((0 + (mW (mSel 1 (I 133) (I 134)))) + (mW (mSel 2 (I 133) (I 134)))) + (mW (mSel 4 (I 133) (I 134)))) + (mW (mSel 8 (I 133) (I 134))))) 4 (0 + (mW (mSel 0 (I 133) (I 134)))))) 120 (ma_up (ma_up (ma_up (ma_up (ma_up (ma_up (ma_up (ma_up (ma_up (ma_up r11 0 (Int32.toInt64 ((I 133) 0))) 1 (Int32.toInt64 ((I 133) 1))) 2 (Int32.toInt64 ((I 133) 2))) 3 (Int32.toInt64 ((I 133) 3))) 4 (Int32.toInt64 ((I 133) 4))) 5 (Int32.toInt64 ((I 133) 5))) 6 (Int32.toInt64 ((I 133) 6))) 7 (Int32.toInt64 ((I 133) 7))) 8 (Int32.toInt64 ((I 134) 8))) 9 (Int32.toInt64 ((I 134) 9))))) dX8_layForm_117 rfl hs_120 rfl (Nat.le_of_ble_eq_true rfl) (Nat.le_of_ble_eq_true rfl) (ma_up_up _ _ _ _) ?_
  refine ev_iinc (pc' := 121) (v := 2) (lv' := [some (.ref 115), some (.int 11), some (.int 2), some (.int 2), some (.int 0), some (.int 2)]) dX8_layForm_118 rfl rfl (by decide) (Nat.le_of_ble_eq_true rfl) rfl rfl ?_
  refine ev_goto (tgt := 69) dX8_layForm_121 rfl ?_
  refine ev_iload (pc' := 71) dX8_layForm_69 rfl rfl ?_
  refine ev_iconst (pc' := 72) (v := 4) dX8_layForm_71 rfl ki_4 ?_
  refine ev_icmp_ge (tgt := 124) (pc' := 75) dX8_layForm_72 rfl rfl (fun h => absurd h (by decide)) (fun _ => ?_)
  refine ev_aload_n (pc' := 76) (i := 0) dX8_layForm_75 rfl rfl rfl ?_
  refine ev_getR (pc' := 79) fo_X8_26 dX8_layForm_76 rfl hs_115 rfl rf_115_8 ?_
  refine ev_iconst (pc' := 80) (v := 4) dX8_layForm_79 rfl ki_4 ?_
  refine ev_iload_n (pc' := 81) (i := 3) dX8_layForm_80 rfl rfl rfl ?_
  refine ev_imul (pc' := 82) (v := 8) dX8_layForm_81 rfl (by decide) ?_
  refine ev_iload (pc' := 84) dX8_layForm_82 rfl rfl ?_
  refine ev_iadd (pc' := 85) (v := 10) dX8_layForm_84 rfl (by decide) ?_
  refine ev_iload (pc' := 87) dX8_layForm_85 rfl rfl ?_
  refine ev_if_eq (tgt := 105) (pc' := 90) dX8_layForm_87 rfl rfl (fun _ => ?_) (fun h => absurd (by decide) h)
  refine ev_aload_n (pc' := 106) (i := 0) dX8_layForm_105 rfl rfl rfl ?_
  refine ev_getR (pc' := 109) fo_X8_70 dX8_layForm_106 rfl hs_115 rfl rf_115_25 ?_
  refine ev_iconst (pc' := 110) (v := 4) dX8_layForm_109 rfl ki_4 ?_
  refine ev_iload_n (pc' := 111) (i := 3) dX8_layForm_110 rfl rfl rfl ?_
  refine ev_imul (pc' := 112) (v := 8) dX8_layForm_111 rfl (by decide) ?_
  refine ev_iload (pc' := 114) dX8_layForm_112 rfl rfl ?_
  refine ev_iadd (pc' := 115) (v := 10) dX8_layForm_114 rfl (by decide) ?_
  refine ev_iald (pc' := 116) (j := 10) (v := (I 134) 10) dX8_layForm_115 rfl hs_134 rfl (Nat.le_of_ble_eq_true rfl) (Nat.le_of_ble_eq_true rfl) rfl ?_
  refine ev_i2l (pc' := 117) (v := Int32.toInt64 ((I 134) 10)) dX8_layForm_116 rfl rfl ?_
  refine ev_last (pc' := 118) (j := 10) (L' := (ma_up (ma_up L 132 (ma_up (ma_up (ma_up (ma_up (ma_up (L 132) 0 0) 1 (0 + (mW (mSel 7 (I 133) (I 134))))) 2 (((((0 + (mW (mSel 3 (I 133) (I 134)))) + (mW (mSel 5 (I 133) (I 134)))) + (mW (mSel 6 (I 133) (I 134)))) + (mW (mSel 9 (I 133) (I 134)))) + (mW (mSel 10 (I 133) (I 134))))) 3 ((((0 + (mW (mSel 1 (I 133) (I 134)))) + (mW (mSel 2 (I 133) (I 134)))) + (mW (mSel 4 (I 133) (I 134)))) + (mW (mSel 8 (I 133) (I 134))))) 4 (0 + (mW (mSel 0 (I 133) (I 134)))))) 120 (ma_up (ma_up (ma_up (ma_up (ma_up (ma_up (ma_up (ma_up (ma_up (ma_up (ma_up r11 0 (Int32.toInt64 ((I 133) 0))) 1 (Int32.toInt64 ((I 133) 1))) 2 (Int32.toInt64 ((I 133) 2))) 3 (Int32.toInt64 ((I 133) 3))) 4 (Int32.toInt64 ((I 133) 4))) 5 (Int32.toInt64 ((I 133) 5))) 6 (Int32.toInt64 ((I 133) 6))) 7 (Int32.toInt64 ((I 133) 7))) 8 (Int32.toInt64 ((I 134) 8))) 9 (Int32.toInt64 ((I 134) 9))) 10 (Int32.toInt64 ((I 134) 10))))) dX8_layForm_117 rfl hs_120 rfl (Nat.le_of_ble_eq_true rfl) (Nat.le_of_ble_eq_true rfl) (ma_up_up _ _ _ _) ?_
  refine ev_iinc (pc' := 121) (v := 3) (lv' := [some (.ref 115), some (.int 11), some (.int 2), some (.int 2), some (.int 0), some (.int 3)]) dX8_layForm_118 rfl rfl (by decide) (Nat.le_of_ble_eq_true rfl) rfl rfl ?_
  refine ev_goto (tgt := 69) dX8_layForm_121 rfl ?_
  refine ev_iload (pc' := 71) dX8_layForm_69 rfl rfl ?_
  refine ev_iconst (pc' := 72) (v := 4) dX8_layForm_71 rfl ki_4 ?_
  refine ev_icmp_ge (tgt := 124) (pc' := 75) dX8_layForm_72 rfl rfl (fun h => absurd h (by decide)) (fun _ => ?_)
  refine ev_aload_n (pc' := 76) (i := 0) dX8_layForm_75 rfl rfl rfl ?_
  refine ev_getR (pc' := 79) fo_X8_26 dX8_layForm_76 rfl hs_115 rfl rf_115_8 ?_
  refine ev_iconst (pc' := 80) (v := 4) dX8_layForm_79 rfl ki_4 ?_
  refine ev_iload_n (pc' := 81) (i := 3) dX8_layForm_80 rfl rfl rfl ?_
  refine ev_imul (pc' := 82) (v := 8) dX8_layForm_81 rfl (by decide) ?_
  refine ev_iload (pc' := 84) dX8_layForm_82 rfl rfl ?_
  refine ev_iadd (pc' := 85) (v := 11) dX8_layForm_84 rfl (by decide) ?_
  refine ev_iload (pc' := 87) dX8_layForm_85 rfl rfl ?_
  refine ev_if_eq (tgt := 105) (pc' := 90) dX8_layForm_87 rfl rfl (fun _ => ?_) (fun h => absurd (by decide) h)
  refine ev_aload_n (pc' := 106) (i := 0) dX8_layForm_105 rfl rfl rfl ?_
  refine ev_getR (pc' := 109) fo_X8_70 dX8_layForm_106 rfl hs_115 rfl rf_115_25 ?_
  refine ev_iconst (pc' := 110) (v := 4) dX8_layForm_109 rfl ki_4 ?_
  refine ev_iload_n (pc' := 111) (i := 3) dX8_layForm_110 rfl rfl rfl ?_
  refine ev_imul (pc' := 112) (v := 8) dX8_layForm_111 rfl (by decide) ?_
  refine ev_iload (pc' := 114) dX8_layForm_112 rfl rfl ?_
  refine ev_iadd (pc' := 115) (v := 11) dX8_layForm_114 rfl (by decide) ?_
  refine ev_iald (pc' := 116) (j := 11) (v := (I 134) 11) dX8_layForm_115 rfl hs_134 rfl (Nat.le_of_ble_eq_true rfl) (Nat.le_of_ble_eq_true rfl) rfl ?_
  refine ev_i2l (pc' := 117) (v := Int32.toInt64 ((I 134) 11)) dX8_layForm_116 rfl rfl ?_
  refine ev_last (pc' := 118) (j := 11) (L' := (ma_up (ma_up L 132 (ma_up (ma_up (ma_up (ma_up (ma_up (L 132) 0 0) 1 (0 + (mW (mSel 7 (I 133) (I 134))))) 2 (((((0 + (mW (mSel 3 (I 133) (I 134)))) + (mW (mSel 5 (I 133) (I 134)))) + (mW (mSel 6 (I 133) (I 134)))) + (mW (mSel 9 (I 133) (I 134)))) + (mW (mSel 10 (I 133) (I 134))))) 3 ((((0 + (mW (mSel 1 (I 133) (I 134)))) + (mW (mSel 2 (I 133) (I 134)))) + (mW (mSel 4 (I 133) (I 134)))) + (mW (mSel 8 (I 133) (I 134))))) 4 (0 + (mW (mSel 0 (I 133) (I 134)))))) 120 (ma_up (ma_up (ma_up (ma_up (ma_up (ma_up (ma_up (ma_up (ma_up (ma_up (ma_up (ma_up r11 0 (Int32.toInt64 ((I 133) 0))) 1 (Int32.toInt64 ((I 133) 1))) 2 (Int32.toInt64 ((I 133) 2))) 3 (Int32.toInt64 ((I 133) 3))) 4 (Int32.toInt64 ((I 133) 4))) 5 (Int32.toInt64 ((I 133) 5))) 6 (Int32.toInt64 ((I 133) 6))) 7 (Int32.toInt64 ((I 133) 7))) 8 (Int32.toInt64 ((I 134) 8))) 9 (Int32.toInt64 ((I 134) 9))) 10 (Int32.toInt64 ((I 134) 10))) 11 (Int32.toInt64 ((I 134) 11))))) dX8_layForm_117 rfl hs_120 rfl (Nat.le_of_ble_eq_true rfl) (Nat.le_of_ble_eq_true rfl) (ma_up_up _ _ _ _) ?_
  refine ev_iinc (pc' := 121) (v := 4) (lv' := [some (.ref 115), some (.int 11), some (.int 2), some (.int 2), some (.int 0), some (.int 4)]) dX8_layForm_118 rfl rfl (by decide) (Nat.le_of_ble_eq_true rfl) rfl rfl ?_
  refine ev_goto (tgt := 69) dX8_layForm_121 rfl ?_
  refine ev_iload (pc' := 71) dX8_layForm_69 rfl rfl ?_
  refine ev_iconst (pc' := 72) (v := 4) dX8_layForm_71 rfl ki_4 ?_
  refine ev_icmp_ge (tgt := 124) (pc' := 75) dX8_layForm_72 rfl rfl (fun _ => ?_) (fun h => absurd (by decide) h)
  refine ev_iinc (pc' := 127) (v := 3) (lv' := [some (.ref 115), some (.int 11), some (.int 2), some (.int 3), some (.int 0), some (.int 4)]) dX8_layForm_124 rfl rfl (by decide) (Nat.le_of_ble_eq_true rfl) rfl rfl ?_
  refine ev_goto (tgt := 32) dX8_layForm_127 rfl ?_
  refine ev_iload_n (pc' := 33) (i := 3) dX8_layForm_32 rfl rfl rfl ?_
  refine ev_iconst (pc' := 34) (v := 4) dX8_layForm_33 rfl ki_4 ?_
  refine ev_icmp_ge (tgt := 130) (pc' := 37) dX8_layForm_34 rfl rfl (fun h => absurd h (by decide)) (fun _ => ?_)
  refine ev_iload_n (pc' := 38) (i := 1) dX8_layForm_37 rfl rfl rfl ?_
  refine ev_iload_n (pc' := 39) (i := 3) dX8_layForm_38 rfl rfl rfl ?_
  refine ev_ishr (pc' := 40) (v := 1) dX8_layForm_39 rfl (by decide) ?_
  refine ev_iconst (pc' := 41) (v := 1) dX8_layForm_40 rfl ki_1 ?_
  refine ev_iand (pc' := 42) (v := 1) dX8_layForm_41 rfl (by decide) ?_
  refine ev_iconst (pc' := 43) (v := 1) dX8_layForm_42 rfl ki_1 ?_
  refine ev_icmp_ne (tgt := 50) (pc' := 46) dX8_layForm_43 rfl rfl (fun h => absurd (by decide) h) (fun _ => ?_)
  refine ev_iconst (pc' := 47) (v := 1) dX8_layForm_46 rfl ki_1 ?_
  refine ev_goto (tgt := 51) dX8_layForm_47 rfl ?_
  refine ev_istore (pc' := 53) (lv' := [some (.ref 115), some (.int 11), some (.int 2), some (.int 3), some (.int 1), some (.int 4)]) dX8_layForm_51 rfl (Nat.le_of_ble_eq_true rfl) rfl rfl ?_
  refine ev_iload_n (pc' := 54) (i := 2) dX8_layForm_53 rfl rfl rfl ?_
  refine ev_iload (pc' := 56) dX8_layForm_54 rfl rfl ?_
  refine ev_if_eq (tgt := 63) (pc' := 59) dX8_layForm_56 rfl rfl (fun h => absurd h (by decide)) (fun _ => ?_)
  refine ev_iconst (pc' := 60) (v := 1) dX8_layForm_59 rfl ki_1 ?_
  refine ev_goto (tgt := 64) dX8_layForm_60 rfl ?_
  refine ev_iadd (pc' := 65) (v := 3) dX8_layForm_64 rfl (by decide) ?_
  refine ev_istore_n (pc' := 66) (i := 2) (lv' := [some (.ref 115), some (.int 11), some (.int 3), some (.int 3), some (.int 1), some (.int 4)]) dX8_layForm_65 rfl rfl (Nat.le_of_ble_eq_true rfl) rfl rfl ?_
  refine ev_iconst (pc' := 67) (v := 0) dX8_layForm_66 rfl ki_0 ?_
  refine ev_istore (pc' := 69) (lv' := [some (.ref 115), some (.int 11), some (.int 3), some (.int 3), some (.int 1), some (.int 0)]) dX8_layForm_67 rfl (Nat.le_of_ble_eq_true rfl) rfl rfl ?_
  refine ev_iload (pc' := 71) dX8_layForm_69 rfl rfl ?_
  refine ev_iconst (pc' := 72) (v := 4) dX8_layForm_71 rfl ki_4 ?_
  refine ev_icmp_ge (tgt := 124) (pc' := 75) dX8_layForm_72 rfl rfl (fun h => absurd h (by decide)) (fun _ => ?_)
  refine ev_aload_n (pc' := 76) (i := 0) dX8_layForm_75 rfl rfl rfl ?_
  refine ev_getR (pc' := 79) fo_X8_26 dX8_layForm_76 rfl hs_115 rfl rf_115_8 ?_
  refine ev_iconst (pc' := 80) (v := 4) dX8_layForm_79 rfl ki_4 ?_
  refine ev_iload_n (pc' := 81) (i := 3) dX8_layForm_80 rfl rfl rfl ?_
  refine ev_imul (pc' := 82) (v := 12) dX8_layForm_81 rfl (by decide) ?_
  refine ev_iload (pc' := 84) dX8_layForm_82 rfl rfl ?_
  refine ev_iadd (pc' := 85) (v := 12) dX8_layForm_84 rfl (by decide) ?_
  refine ev_iload (pc' := 87) dX8_layForm_85 rfl rfl ?_
  refine ev_if_eq (tgt := 105) (pc' := 90) dX8_layForm_87 rfl rfl (fun h => absurd h (by decide)) (fun _ => ?_)
  refine ev_aload_n (pc' := 91) (i := 0) dX8_layForm_90 rfl rfl rfl ?_
  refine ev_getR (pc' := 94) fo_X8_67 dX8_layForm_91 rfl hs_115 rfl rf_115_24 ?_
  refine ev_iconst (pc' := 95) (v := 4) dX8_layForm_94 rfl ki_4 ?_
  refine ev_iload_n (pc' := 96) (i := 3) dX8_layForm_95 rfl rfl rfl ?_
  refine ev_imul (pc' := 97) (v := 12) dX8_layForm_96 rfl (by decide) ?_
  refine ev_iload (pc' := 99) dX8_layForm_97 rfl rfl ?_
  refine ev_iadd (pc' := 100) (v := 12) dX8_layForm_99 rfl (by decide) ?_
  refine ev_iald (pc' := 101) (j := 12) (v := (I 133) 12) dX8_layForm_100 rfl hs_133 rfl (Nat.le_of_ble_eq_true rfl) (Nat.le_of_ble_eq_true rfl) rfl ?_
  refine ev_i2l (pc' := 102) (v := Int32.toInt64 ((I 133) 12)) dX8_layForm_101 rfl rfl ?_
  refine ev_goto (tgt := 117) dX8_layForm_102 rfl ?_
  refine ev_last (pc' := 118) (j := 12) (L' := (ma_up (ma_up L 132 (ma_up (ma_up (ma_up (ma_up (ma_up (L 132) 0 0) 1 (0 + (mW (mSel 7 (I 133) (I 134))))) 2 (((((0 + (mW (mSel 3 (I 133) (I 134)))) + (mW (mSel 5 (I 133) (I 134)))) + (mW (mSel 6 (I 133) (I 134)))) + (mW (mSel 9 (I 133) (I 134)))) + (mW (mSel 10 (I 133) (I 134))))) 3 ((((0 + (mW (mSel 1 (I 133) (I 134)))) + (mW (mSel 2 (I 133) (I 134)))) + (mW (mSel 4 (I 133) (I 134)))) + (mW (mSel 8 (I 133) (I 134))))) 4 (0 + (mW (mSel 0 (I 133) (I 134)))))) 120 (ma_up (ma_up (ma_up (ma_up (ma_up (ma_up (ma_up (ma_up (ma_up (ma_up (ma_up (ma_up (ma_up r11 0 (Int32.toInt64 ((I 133) 0))) 1 (Int32.toInt64 ((I 133) 1))) 2 (Int32.toInt64 ((I 133) 2))) 3 (Int32.toInt64 ((I 133) 3))) 4 (Int32.toInt64 ((I 133) 4))) 5 (Int32.toInt64 ((I 133) 5))) 6 (Int32.toInt64 ((I 133) 6))) 7 (Int32.toInt64 ((I 133) 7))) 8 (Int32.toInt64 ((I 134) 8))) 9 (Int32.toInt64 ((I 134) 9))) 10 (Int32.toInt64 ((I 134) 10))) 11 (Int32.toInt64 ((I 134) 11))) 12 (Int32.toInt64 ((I 133) 12))))) dX8_layForm_117 rfl hs_120 rfl (Nat.le_of_ble_eq_true rfl) (Nat.le_of_ble_eq_true rfl) (ma_up_up _ _ _ _) ?_
  refine ev_iinc (pc' := 121) (v := 1) (lv' := [some (.ref 115), some (.int 11), some (.int 3), some (.int 3), some (.int 1), some (.int 1)]) dX8_layForm_118 rfl rfl (by decide) (Nat.le_of_ble_eq_true rfl) rfl rfl ?_
  refine ev_goto (tgt := 69) dX8_layForm_121 rfl ?_
  refine ev_iload (pc' := 71) dX8_layForm_69 rfl rfl ?_
  refine ev_iconst (pc' := 72) (v := 4) dX8_layForm_71 rfl ki_4 ?_
  refine ev_icmp_ge (tgt := 124) (pc' := 75) dX8_layForm_72 rfl rfl (fun h => absurd h (by decide)) (fun _ => ?_)
  refine ev_aload_n (pc' := 76) (i := 0) dX8_layForm_75 rfl rfl rfl ?_
  refine ev_getR (pc' := 79) fo_X8_26 dX8_layForm_76 rfl hs_115 rfl rf_115_8 ?_
  refine ev_iconst (pc' := 80) (v := 4) dX8_layForm_79 rfl ki_4 ?_
  refine ev_iload_n (pc' := 81) (i := 3) dX8_layForm_80 rfl rfl rfl ?_
  refine ev_imul (pc' := 82) (v := 12) dX8_layForm_81 rfl (by decide) ?_
  refine ev_iload (pc' := 84) dX8_layForm_82 rfl rfl ?_
  refine ev_iadd (pc' := 85) (v := 13) dX8_layForm_84 rfl (by decide) ?_
  refine ev_iload (pc' := 87) dX8_layForm_85 rfl rfl ?_
  refine ev_if_eq (tgt := 105) (pc' := 90) dX8_layForm_87 rfl rfl (fun h => absurd h (by decide)) (fun _ => ?_)
  refine ev_aload_n (pc' := 91) (i := 0) dX8_layForm_90 rfl rfl rfl ?_
  refine ev_getR (pc' := 94) fo_X8_67 dX8_layForm_91 rfl hs_115 rfl rf_115_24 ?_
  refine ev_iconst (pc' := 95) (v := 4) dX8_layForm_94 rfl ki_4 ?_
  refine ev_iload_n (pc' := 96) (i := 3) dX8_layForm_95 rfl rfl rfl ?_
  refine ev_imul (pc' := 97) (v := 12) dX8_layForm_96 rfl (by decide) ?_
  refine ev_iload (pc' := 99) dX8_layForm_97 rfl rfl ?_
  refine ev_iadd (pc' := 100) (v := 13) dX8_layForm_99 rfl (by decide) ?_
  refine ev_iald (pc' := 101) (j := 13) (v := (I 133) 13) dX8_layForm_100 rfl hs_133 rfl (Nat.le_of_ble_eq_true rfl) (Nat.le_of_ble_eq_true rfl) rfl ?_
  refine ev_i2l (pc' := 102) (v := Int32.toInt64 ((I 133) 13)) dX8_layForm_101 rfl rfl ?_
  refine ev_goto (tgt := 117) dX8_layForm_102 rfl ?_
  refine ev_last (pc' := 118) (j := 13) (L' := (ma_up (ma_up L 132 (ma_up (ma_up (ma_up (ma_up (ma_up (L 132) 0 0) 1 (0 + (mW (mSel 7 (I 133) (I 134))))) 2 (((((0 + (mW (mSel 3 (I 133) (I 134)))) + (mW (mSel 5 (I 133) (I 134)))) + (mW (mSel 6 (I 133) (I 134)))) + (mW (mSel 9 (I 133) (I 134)))) + (mW (mSel 10 (I 133) (I 134))))) 3 ((((0 + (mW (mSel 1 (I 133) (I 134)))) + (mW (mSel 2 (I 133) (I 134)))) + (mW (mSel 4 (I 133) (I 134)))) + (mW (mSel 8 (I 133) (I 134))))) 4 (0 + (mW (mSel 0 (I 133) (I 134)))))) 120 (ma_up (ma_up (ma_up (ma_up (ma_up (ma_up (ma_up (ma_up (ma_up (ma_up (ma_up (ma_up (ma_up (ma_up r11 0 (Int32.toInt64 ((I 133) 0))) 1 (Int32.toInt64 ((I 133) 1))) 2 (Int32.toInt64 ((I 133) 2))) 3 (Int32.toInt64 ((I 133) 3))) 4 (Int32.toInt64 ((I 133) 4))) 5 (Int32.toInt64 ((I 133) 5))) 6 (Int32.toInt64 ((I 133) 6))) 7 (Int32.toInt64 ((I 133) 7))) 8 (Int32.toInt64 ((I 134) 8))) 9 (Int32.toInt64 ((I 134) 9))) 10 (Int32.toInt64 ((I 134) 10))) 11 (Int32.toInt64 ((I 134) 11))) 12 (Int32.toInt64 ((I 133) 12))) 13 (Int32.toInt64 ((I 133) 13))))) dX8_layForm_117 rfl hs_120 rfl (Nat.le_of_ble_eq_true rfl) (Nat.le_of_ble_eq_true rfl) (ma_up_up _ _ _ _) ?_
  refine ev_iinc (pc' := 121) (v := 2) (lv' := [some (.ref 115), some (.int 11), some (.int 3), some (.int 3), some (.int 1), some (.int 2)]) dX8_layForm_118 rfl rfl (by decide) (Nat.le_of_ble_eq_true rfl) rfl rfl ?_
  refine ev_goto (tgt := 69) dX8_layForm_121 rfl ?_
  refine ev_iload (pc' := 71) dX8_layForm_69 rfl rfl ?_
  refine ev_iconst (pc' := 72) (v := 4) dX8_layForm_71 rfl ki_4 ?_
  refine ev_icmp_ge (tgt := 124) (pc' := 75) dX8_layForm_72 rfl rfl (fun h => absurd h (by decide)) (fun _ => ?_)
  refine ev_aload_n (pc' := 76) (i := 0) dX8_layForm_75 rfl rfl rfl ?_
  refine ev_getR (pc' := 79) fo_X8_26 dX8_layForm_76 rfl hs_115 rfl rf_115_8 ?_
  refine ev_iconst (pc' := 80) (v := 4) dX8_layForm_79 rfl ki_4 ?_
  refine ev_iload_n (pc' := 81) (i := 3) dX8_layForm_80 rfl rfl rfl ?_
  refine ev_imul (pc' := 82) (v := 12) dX8_layForm_81 rfl (by decide) ?_
  refine ev_iload (pc' := 84) dX8_layForm_82 rfl rfl ?_
  refine ev_iadd (pc' := 85) (v := 14) dX8_layForm_84 rfl (by decide) ?_
  refine ev_iload (pc' := 87) dX8_layForm_85 rfl rfl ?_
  refine ev_if_eq (tgt := 105) (pc' := 90) dX8_layForm_87 rfl rfl (fun h => absurd h (by decide)) (fun _ => ?_)
  refine ev_aload_n (pc' := 91) (i := 0) dX8_layForm_90 rfl rfl rfl ?_
  refine ev_getR (pc' := 94) fo_X8_67 dX8_layForm_91 rfl hs_115 rfl rf_115_24 ?_
  refine ev_iconst (pc' := 95) (v := 4) dX8_layForm_94 rfl ki_4 ?_
  refine ev_iload_n (pc' := 96) (i := 3) dX8_layForm_95 rfl rfl rfl ?_
  refine ev_imul (pc' := 97) (v := 12) dX8_layForm_96 rfl (by decide) ?_
  refine ev_iload (pc' := 99) dX8_layForm_97 rfl rfl ?_
  refine ev_iadd (pc' := 100) (v := 14) dX8_layForm_99 rfl (by decide) ?_
  refine ev_iald (pc' := 101) (j := 14) (v := (I 133) 14) dX8_layForm_100 rfl hs_133 rfl (Nat.le_of_ble_eq_true rfl) (Nat.le_of_ble_eq_true rfl) rfl ?_
  refine ev_i2l (pc' := 102) (v := Int32.toInt64 ((I 133) 14)) dX8_layForm_101 rfl rfl ?_
  refine ev_goto (tgt := 117) dX8_layForm_102 rfl ?_
  refine ev_last (pc' := 118) (j := 14) (L' := (ma_up (ma_up L 132 (ma_up (ma_up (ma_up (ma_up (ma_up (L 132) 0 0) 1 (0 + (mW (mSel 7 (I 133) (I 134))))) 2 (((((0 + (mW (mSel 3 (I 133) (I 134)))) + (mW (mSel 5 (I 133) (I 134)))) + (mW (mSel 6 (I 133) (I 134)))) + (mW (mSel 9 (I 133) (I 134)))) + (mW (mSel 10 (I 133) (I 134))))) 3 ((((0 + (mW (mSel 1 (I 133) (I 134)))) + (mW (mSel 2 (I 133) (I 134)))) + (mW (mSel 4 (I 133) (I 134)))) + (mW (mSel 8 (I 133) (I 134))))) 4 (0 + (mW (mSel 0 (I 133) (I 134)))))) 120 (ma_up (ma_up (ma_up (ma_up (ma_up (ma_up (ma_up (ma_up (ma_up (ma_up (ma_up (ma_up (ma_up (ma_up (ma_up r11 0 (Int32.toInt64 ((I 133) 0))) 1 (Int32.toInt64 ((I 133) 1))) 2 (Int32.toInt64 ((I 133) 2))) 3 (Int32.toInt64 ((I 133) 3))) 4 (Int32.toInt64 ((I 133) 4))) 5 (Int32.toInt64 ((I 133) 5))) 6 (Int32.toInt64 ((I 133) 6))) 7 (Int32.toInt64 ((I 133) 7))) 8 (Int32.toInt64 ((I 134) 8))) 9 (Int32.toInt64 ((I 134) 9))) 10 (Int32.toInt64 ((I 134) 10))) 11 (Int32.toInt64 ((I 134) 11))) 12 (Int32.toInt64 ((I 133) 12))) 13 (Int32.toInt64 ((I 133) 13))) 14 (Int32.toInt64 ((I 133) 14))))) dX8_layForm_117 rfl hs_120 rfl (Nat.le_of_ble_eq_true rfl) (Nat.le_of_ble_eq_true rfl) (ma_up_up _ _ _ _) ?_
  refine ev_iinc (pc' := 121) (v := 3) (lv' := [some (.ref 115), some (.int 11), some (.int 3), some (.int 3), some (.int 1), some (.int 3)]) dX8_layForm_118 rfl rfl (by decide) (Nat.le_of_ble_eq_true rfl) rfl rfl ?_
  refine ev_goto (tgt := 69) dX8_layForm_121 rfl ?_
  refine ev_iload (pc' := 71) dX8_layForm_69 rfl rfl ?_
  refine ev_iconst (pc' := 72) (v := 4) dX8_layForm_71 rfl ki_4 ?_
  refine ev_icmp_ge (tgt := 124) (pc' := 75) dX8_layForm_72 rfl rfl (fun h => absurd h (by decide)) (fun _ => ?_)
  refine ev_aload_n (pc' := 76) (i := 0) dX8_layForm_75 rfl rfl rfl ?_
  refine ev_getR (pc' := 79) fo_X8_26 dX8_layForm_76 rfl hs_115 rfl rf_115_8 ?_
  refine ev_iconst (pc' := 80) (v := 4) dX8_layForm_79 rfl ki_4 ?_
  refine ev_iload_n (pc' := 81) (i := 3) dX8_layForm_80 rfl rfl rfl ?_
  refine ev_imul (pc' := 82) (v := 12) dX8_layForm_81 rfl (by decide) ?_
  refine ev_iload (pc' := 84) dX8_layForm_82 rfl rfl ?_
  refine ev_iadd (pc' := 85) (v := 15) dX8_layForm_84 rfl (by decide) ?_
  refine ev_iload (pc' := 87) dX8_layForm_85 rfl rfl ?_
  refine ev_if_eq (tgt := 105) (pc' := 90) dX8_layForm_87 rfl rfl (fun h => absurd h (by decide)) (fun _ => ?_)
  refine ev_aload_n (pc' := 91) (i := 0) dX8_layForm_90 rfl rfl rfl ?_
  refine ev_getR (pc' := 94) fo_X8_67 dX8_layForm_91 rfl hs_115 rfl rf_115_24 ?_
  refine ev_iconst (pc' := 95) (v := 4) dX8_layForm_94 rfl ki_4 ?_
  refine ev_iload_n (pc' := 96) (i := 3) dX8_layForm_95 rfl rfl rfl ?_
  refine ev_imul (pc' := 97) (v := 12) dX8_layForm_96 rfl (by decide) ?_
  refine ev_iload (pc' := 99) dX8_layForm_97 rfl rfl ?_
  refine ev_iadd (pc' := 100) (v := 15) dX8_layForm_99 rfl (by decide) ?_
  refine ev_iald (pc' := 101) (j := 15) (v := (I 133) 15) dX8_layForm_100 rfl hs_133 rfl (Nat.le_of_ble_eq_true rfl) (Nat.le_of_ble_eq_true rfl) rfl ?_
  refine ev_i2l (pc' := 102) (v := Int32.toInt64 ((I 133) 15)) dX8_layForm_101 rfl rfl ?_
  refine ev_goto (tgt := 117) dX8_layForm_102 rfl ?_
  refine ev_last (pc' := 118) (j := 15) (L' := (ma_up (ma_up L 132 (ma_up (ma_up (ma_up (ma_up (ma_up (L 132) 0 0) 1 (0 + (mW (mSel 7 (I 133) (I 134))))) 2 (((((0 + (mW (mSel 3 (I 133) (I 134)))) + (mW (mSel 5 (I 133) (I 134)))) + (mW (mSel 6 (I 133) (I 134)))) + (mW (mSel 9 (I 133) (I 134)))) + (mW (mSel 10 (I 133) (I 134))))) 3 ((((0 + (mW (mSel 1 (I 133) (I 134)))) + (mW (mSel 2 (I 133) (I 134)))) + (mW (mSel 4 (I 133) (I 134)))) + (mW (mSel 8 (I 133) (I 134))))) 4 (0 + (mW (mSel 0 (I 133) (I 134)))))) 120 (ma_up (ma_up (ma_up (ma_up (ma_up (ma_up (ma_up (ma_up (ma_up (ma_up (ma_up (ma_up (ma_up (ma_up (ma_up (ma_up r11 0 (Int32.toInt64 ((I 133) 0))) 1 (Int32.toInt64 ((I 133) 1))) 2 (Int32.toInt64 ((I 133) 2))) 3 (Int32.toInt64 ((I 133) 3))) 4 (Int32.toInt64 ((I 133) 4))) 5 (Int32.toInt64 ((I 133) 5))) 6 (Int32.toInt64 ((I 133) 6))) 7 (Int32.toInt64 ((I 133) 7))) 8 (Int32.toInt64 ((I 134) 8))) 9 (Int32.toInt64 ((I 134) 9))) 10 (Int32.toInt64 ((I 134) 10))) 11 (Int32.toInt64 ((I 134) 11))) 12 (Int32.toInt64 ((I 133) 12))) 13 (Int32.toInt64 ((I 133) 13))) 14 (Int32.toInt64 ((I 133) 14))) 15 (Int32.toInt64 ((I 133) 15))))) dX8_layForm_117 rfl hs_120 rfl (Nat.le_of_ble_eq_true rfl) (Nat.le_of_ble_eq_true rfl) (ma_up_up _ _ _ _) ?_
  refine ev_iinc (pc' := 121) (v := 4) (lv' := [some (.ref 115), some (.int 11), some (.int 3), some (.int 3), some (.int 1), some (.int 4)]) dX8_layForm_118 rfl rfl (by decide) (Nat.le_of_ble_eq_true rfl) rfl rfl ?_
  refine ev_goto (tgt := 69) dX8_layForm_121 rfl ?_
  refine ev_iload (pc' := 71) dX8_layForm_69 rfl rfl ?_
  refine ev_iconst (pc' := 72) (v := 4) dX8_layForm_71 rfl ki_4 ?_
  refine ev_icmp_ge (tgt := 124) (pc' := 75) dX8_layForm_72 rfl rfl (fun _ => ?_) (fun h => absurd (by decide) h)
  refine ev_iinc (pc' := 127) (v := 4) (lv' := [some (.ref 115), some (.int 11), some (.int 3), some (.int 4), some (.int 1), some (.int 4)]) dX8_layForm_124 rfl rfl (by decide) (Nat.le_of_ble_eq_true rfl) rfl rfl ?_
  refine ev_goto (tgt := 32) dX8_layForm_127 rfl ?_
  refine ev_iload_n (pc' := 33) (i := 3) dX8_layForm_32 rfl rfl rfl ?_
  refine ev_iconst (pc' := 34) (v := 4) dX8_layForm_33 rfl ki_4 ?_
  refine ev_icmp_ge (tgt := 130) (pc' := 37) dX8_layForm_34 rfl rfl (fun _ => ?_) (fun h => absurd (by decide) h)
  refine ev_aload_n (pc' := 131) (i := 0) dX8_layForm_130 rfl rfl rfl ?_
  refine ev_getR (pc' := 134) fo_X8_64 dX8_layForm_131 rfl hs_115 rfl rf_115_23 ?_
  refine ev_iconst (pc' := 135) (v := 4) dX8_layForm_134 rfl ki_4 ?_
  refine ev_iload_n (pc' := 136) (i := 2) dX8_layForm_135 rfl rfl rfl ?_
  refine ev_isub (pc' := 137) (v := 1) dX8_layForm_136 rfl (by decide) ?_
  refine ev_dup2 (pc' := 138) dX8_layForm_137 rfl rfl rfl ?_
  refine ev_lald (pc' := 139) (j := 1) (v := 0 + (mW (mSel 7 (I 133) (I 134)))) dX8_layForm_138 rfl hs_132 rfl (Nat.le_of_ble_eq_true rfl) (Nat.le_of_ble_eq_true rfl) rfl ?_
  refine ev_aload_n (pc' := 140) (i := 0) dX8_layForm_139 rfl rfl rfl ?_
  refine ev_getR (pc' := 143) fo_X8_26 dX8_layForm_140 rfl hs_115 rfl rf_115_8 ?_
  refine ev_callS (pc' := 146) (rm' := rX8_worthOf) (av := [.ref 120]) (rest := [.long (0 + (mW (mSel 7 (I 133) (I 134)))), .int 1, .ref 132]) co_X8_173 cs_X8_worthOf dX8_layForm_143 rfl rfl rfl (Nat.le_of_ble_eq_true rfl) ⟨(Nat.le_of_ble_eq_true rfl), (Nat.le_of_ble_eq_true rfl)⟩ ⟨(Nat.le_of_ble_eq_true rfl), (Nat.le_of_ble_eq_true rfl)⟩ ?_
  refine t_X8_worthOf 120 hs_120 ?_
  refine ev_eql (w := mW (mSel 11 (I 133) (I 134))) rfl ?_
  refine ev_ladd (pc' := 147) (v := (0 + (mW (mSel 7 (I 133) (I 134)))) + (mW (mSel 11 (I 133) (I 134)))) dX8_layForm_146 rfl rfl ?_
  refine ev_last (pc' := 148) (j := 1) (L' := (ma_up (ma_up L 132 (ma_up (ma_up (ma_up (ma_up (ma_up (L 132) 0 0) 1 ((0 + (mW (mSel 7 (I 133) (I 134)))) + (mW (mSel 11 (I 133) (I 134))))) 2 (((((0 + (mW (mSel 3 (I 133) (I 134)))) + (mW (mSel 5 (I 133) (I 134)))) + (mW (mSel 6 (I 133) (I 134)))) + (mW (mSel 9 (I 133) (I 134)))) + (mW (mSel 10 (I 133) (I 134))))) 3 ((((0 + (mW (mSel 1 (I 133) (I 134)))) + (mW (mSel 2 (I 133) (I 134)))) + (mW (mSel 4 (I 133) (I 134)))) + (mW (mSel 8 (I 133) (I 134))))) 4 (0 + (mW (mSel 0 (I 133) (I 134)))))) 120 (ma_up (ma_up (ma_up (ma_up (ma_up (ma_up (ma_up (ma_up (ma_up (ma_up (ma_up (ma_up (ma_up (ma_up (ma_up (ma_up r11 0 (Int32.toInt64 ((I 133) 0))) 1 (Int32.toInt64 ((I 133) 1))) 2 (Int32.toInt64 ((I 133) 2))) 3 (Int32.toInt64 ((I 133) 3))) 4 (Int32.toInt64 ((I 133) 4))) 5 (Int32.toInt64 ((I 133) 5))) 6 (Int32.toInt64 ((I 133) 6))) 7 (Int32.toInt64 ((I 133) 7))) 8 (Int32.toInt64 ((I 134) 8))) 9 (Int32.toInt64 ((I 134) 9))) 10 (Int32.toInt64 ((I 134) 10))) 11 (Int32.toInt64 ((I 134) 11))) 12 (Int32.toInt64 ((I 133) 12))) 13 (Int32.toInt64 ((I 133) 13))) 14 (Int32.toInt64 ((I 133) 14))) 15 (Int32.toInt64 ((I 133) 15))))) dX8_layForm_147 rfl hs_132 rfl (Nat.le_of_ble_eq_true rfl) (Nat.le_of_ble_eq_true rfl) ((congrArg (ma_up _ 132) ((ma_up_comm _ (show 1 ≠ 4 from (by decide)) _ _).trans (congrArg (fun f => ma_up f 4 _) ((ma_up_comm _ (show 1 ≠ 3 from (by decide)) _ _).trans (congrArg (fun f => ma_up f 3 _) ((ma_up_comm _ (show 1 ≠ 2 from (by decide)) _ _).trans (congrArg (fun f => ma_up f 2 _) (ma_up_up _ _ _ _)))))))).trans ((ma_up_comm _ (show 132 ≠ 120 from (by decide)) _ _).trans (congrArg (fun f => ma_up f 120 _) (ma_up_up _ _ _ _)))) ?_
  refine ev_iinc (pc' := 151) (v := 12) (lv' := [some (.ref 115), some (.int 12), some (.int 3), some (.int 4), some (.int 1), some (.int 4)]) dX8_layForm_148 rfl rfl (by decide) (Nat.le_of_ble_eq_true rfl) rfl rfl ?_
  refine ev_goto (tgt := 22) dX8_layForm_151 rfl ?_
  refine ev_rowL (fun r12 => ?_)
  refine ev_iload_n (pc' := 23) (i := 1) dX8_layForm_22 rfl rfl rfl ?_
  refine ev_bipush (pc' := 25) (v := 16) dX8_layForm_23 rfl kb_16 ?_
  refine ev_icmp_ge (tgt := 154) (pc' := 28) dX8_layForm_25 rfl rfl (fun h => absurd h (by decide)) (fun _ => ?_)
  refine ev_iconst (pc' := 29) (v := 0) dX8_layForm_28 rfl ki_0 ?_
  refine ev_istore_n (pc' := 30) (i := 2) (lv' := [some (.ref 115), some (.int 12), some (.int 0), some (.int 4), some (.int 1), some (.int 4)]) dX8_layForm_29 rfl rfl (Nat.le_of_ble_eq_true rfl) rfl rfl ?_
  refine ev_iconst (pc' := 31) (v := 0) dX8_layForm_30 rfl ki_0 ?_
  refine ev_istore_n (pc' := 32) (i := 3) (lv' := [some (.ref 115), some (.int 12), some (.int 0), some (.int 0), some (.int 1), some (.int 4)]) dX8_layForm_31 rfl rfl (Nat.le_of_ble_eq_true rfl) rfl rfl ?_
  refine ev_iload_n (pc' := 33) (i := 3) dX8_layForm_32 rfl rfl rfl ?_
  refine ev_iconst (pc' := 34) (v := 4) dX8_layForm_33 rfl ki_4 ?_
  refine ev_icmp_ge (tgt := 130) (pc' := 37) dX8_layForm_34 rfl rfl (fun h => absurd h (by decide)) (fun _ => ?_)
  refine ev_iload_n (pc' := 38) (i := 1) dX8_layForm_37 rfl rfl rfl ?_
  refine ev_iload_n (pc' := 39) (i := 3) dX8_layForm_38 rfl rfl rfl ?_
  refine ev_ishr (pc' := 40) (v := 12) dX8_layForm_39 rfl (by decide) ?_
  refine ev_iconst (pc' := 41) (v := 1) dX8_layForm_40 rfl ki_1 ?_
  refine ev_iand (pc' := 42) (v := 0) dX8_layForm_41 rfl (by decide) ?_
  refine ev_iconst (pc' := 43) (v := 1) dX8_layForm_42 rfl ki_1 ?_
  refine ev_icmp_ne (tgt := 50) (pc' := 46) dX8_layForm_43 rfl rfl (fun _ => ?_) (fun h => absurd h (by decide))
  refine ev_iconst (pc' := 51) (v := 0) dX8_layForm_50 rfl ki_0 ?_
  refine ev_istore (pc' := 53) (lv' := [some (.ref 115), some (.int 12), some (.int 0), some (.int 0), some (.int 0), some (.int 4)]) dX8_layForm_51 rfl (Nat.le_of_ble_eq_true rfl) rfl rfl ?_
  refine ev_iload_n (pc' := 54) (i := 2) dX8_layForm_53 rfl rfl rfl ?_
  refine ev_iload (pc' := 56) dX8_layForm_54 rfl rfl ?_
  refine ev_if_eq (tgt := 63) (pc' := 59) dX8_layForm_56 rfl rfl (fun _ => ?_) (fun h => absurd (by decide) h)
  refine ev_iconst (pc' := 64) (v := 0) dX8_layForm_63 rfl ki_0 ?_
  refine ev_iadd (pc' := 65) (v := 0) dX8_layForm_64 rfl (by decide) ?_
  refine ev_istore_n (pc' := 66) (i := 2) (lv' := [some (.ref 115), some (.int 12), some (.int 0), some (.int 0), some (.int 0), some (.int 4)]) dX8_layForm_65 rfl rfl (Nat.le_of_ble_eq_true rfl) rfl rfl ?_
  refine ev_iconst (pc' := 67) (v := 0) dX8_layForm_66 rfl ki_0 ?_
  refine ev_istore (pc' := 69) (lv' := [some (.ref 115), some (.int 12), some (.int 0), some (.int 0), some (.int 0), some (.int 0)]) dX8_layForm_67 rfl (Nat.le_of_ble_eq_true rfl) rfl rfl ?_
  refine ev_iload (pc' := 71) dX8_layForm_69 rfl rfl ?_
  refine ev_iconst (pc' := 72) (v := 4) dX8_layForm_71 rfl ki_4 ?_
  refine ev_icmp_ge (tgt := 124) (pc' := 75) dX8_layForm_72 rfl rfl (fun h => absurd h (by decide)) (fun _ => ?_)
  refine ev_aload_n (pc' := 76) (i := 0) dX8_layForm_75 rfl rfl rfl ?_
  refine ev_getR (pc' := 79) fo_X8_26 dX8_layForm_76 rfl hs_115 rfl rf_115_8 ?_
  refine ev_iconst (pc' := 80) (v := 4) dX8_layForm_79 rfl ki_4 ?_
  refine ev_iload_n (pc' := 81) (i := 3) dX8_layForm_80 rfl rfl rfl ?_
  refine ev_imul (pc' := 82) (v := 0) dX8_layForm_81 rfl (by decide) ?_
  refine ev_iload (pc' := 84) dX8_layForm_82 rfl rfl ?_
  refine ev_iadd (pc' := 85) (v := 0) dX8_layForm_84 rfl (by decide) ?_
  refine ev_iload (pc' := 87) dX8_layForm_85 rfl rfl ?_
  refine ev_if_eq (tgt := 105) (pc' := 90) dX8_layForm_87 rfl rfl (fun _ => ?_) (fun h => absurd (by decide) h)
  refine ev_aload_n (pc' := 106) (i := 0) dX8_layForm_105 rfl rfl rfl ?_
  refine ev_getR (pc' := 109) fo_X8_70 dX8_layForm_106 rfl hs_115 rfl rf_115_25 ?_
  refine ev_iconst (pc' := 110) (v := 4) dX8_layForm_109 rfl ki_4 ?_
  refine ev_iload_n (pc' := 111) (i := 3) dX8_layForm_110 rfl rfl rfl ?_
  refine ev_imul (pc' := 112) (v := 0) dX8_layForm_111 rfl (by decide) ?_
  refine ev_iload (pc' := 114) dX8_layForm_112 rfl rfl ?_
  refine ev_iadd (pc' := 115) (v := 0) dX8_layForm_114 rfl (by decide) ?_
  refine ev_iald (pc' := 116) (j := 0) (v := (I 134) 0) dX8_layForm_115 rfl hs_134 rfl (Nat.le_of_ble_eq_true rfl) (Nat.le_of_ble_eq_true rfl) rfl ?_
  refine ev_i2l (pc' := 117) (v := Int32.toInt64 ((I 134) 0)) dX8_layForm_116 rfl rfl ?_
  refine ev_last (pc' := 118) (j := 0) (L' := (ma_up (ma_up L 132 (ma_up (ma_up (ma_up (ma_up (ma_up (L 132) 0 0) 1 ((0 + (mW (mSel 7 (I 133) (I 134)))) + (mW (mSel 11 (I 133) (I 134))))) 2 (((((0 + (mW (mSel 3 (I 133) (I 134)))) + (mW (mSel 5 (I 133) (I 134)))) + (mW (mSel 6 (I 133) (I 134)))) + (mW (mSel 9 (I 133) (I 134)))) + (mW (mSel 10 (I 133) (I 134))))) 3 ((((0 + (mW (mSel 1 (I 133) (I 134)))) + (mW (mSel 2 (I 133) (I 134)))) + (mW (mSel 4 (I 133) (I 134)))) + (mW (mSel 8 (I 133) (I 134))))) 4 (0 + (mW (mSel 0 (I 133) (I 134)))))) 120 (ma_up r12 0 (Int32.toInt64 ((I 134) 0))))) dX8_layForm_117 rfl hs_120 rfl (Nat.le_of_ble_eq_true rfl) (Nat.le_of_ble_eq_true rfl) (ma_up_up _ _ _ _) ?_
  refine ev_iinc (pc' := 121) (v := 1) (lv' := [some (.ref 115), some (.int 12), some (.int 0), some (.int 0), some (.int 0), some (.int 1)]) dX8_layForm_118 rfl rfl (by decide) (Nat.le_of_ble_eq_true rfl) rfl rfl ?_
  refine ev_goto (tgt := 69) dX8_layForm_121 rfl ?_
  refine ev_iload (pc' := 71) dX8_layForm_69 rfl rfl ?_
  refine ev_iconst (pc' := 72) (v := 4) dX8_layForm_71 rfl ki_4 ?_
  refine ev_icmp_ge (tgt := 124) (pc' := 75) dX8_layForm_72 rfl rfl (fun h => absurd h (by decide)) (fun _ => ?_)
  refine ev_aload_n (pc' := 76) (i := 0) dX8_layForm_75 rfl rfl rfl ?_
  refine ev_getR (pc' := 79) fo_X8_26 dX8_layForm_76 rfl hs_115 rfl rf_115_8 ?_
  refine ev_iconst (pc' := 80) (v := 4) dX8_layForm_79 rfl ki_4 ?_
  refine ev_iload_n (pc' := 81) (i := 3) dX8_layForm_80 rfl rfl rfl ?_
  refine ev_imul (pc' := 82) (v := 0) dX8_layForm_81 rfl (by decide) ?_
  refine ev_iload (pc' := 84) dX8_layForm_82 rfl rfl ?_
  refine ev_iadd (pc' := 85) (v := 1) dX8_layForm_84 rfl (by decide) ?_
  refine ev_iload (pc' := 87) dX8_layForm_85 rfl rfl ?_
  refine ev_if_eq (tgt := 105) (pc' := 90) dX8_layForm_87 rfl rfl (fun _ => ?_) (fun h => absurd (by decide) h)
  refine ev_aload_n (pc' := 106) (i := 0) dX8_layForm_105 rfl rfl rfl ?_
  refine ev_getR (pc' := 109) fo_X8_70 dX8_layForm_106 rfl hs_115 rfl rf_115_25 ?_
  refine ev_iconst (pc' := 110) (v := 4) dX8_layForm_109 rfl ki_4 ?_
  refine ev_iload_n (pc' := 111) (i := 3) dX8_layForm_110 rfl rfl rfl ?_
  refine ev_imul (pc' := 112) (v := 0) dX8_layForm_111 rfl (by decide) ?_
  refine ev_iload (pc' := 114) dX8_layForm_112 rfl rfl ?_
  refine ev_iadd (pc' := 115) (v := 1) dX8_layForm_114 rfl (by decide) ?_
  refine ev_iald (pc' := 116) (j := 1) (v := (I 134) 1) dX8_layForm_115 rfl hs_134 rfl (Nat.le_of_ble_eq_true rfl) (Nat.le_of_ble_eq_true rfl) rfl ?_
  refine ev_i2l (pc' := 117) (v := Int32.toInt64 ((I 134) 1)) dX8_layForm_116 rfl rfl ?_
  refine ev_last (pc' := 118) (j := 1) (L' := (ma_up (ma_up L 132 (ma_up (ma_up (ma_up (ma_up (ma_up (L 132) 0 0) 1 ((0 + (mW (mSel 7 (I 133) (I 134)))) + (mW (mSel 11 (I 133) (I 134))))) 2 (((((0 + (mW (mSel 3 (I 133) (I 134)))) + (mW (mSel 5 (I 133) (I 134)))) + (mW (mSel 6 (I 133) (I 134)))) + (mW (mSel 9 (I 133) (I 134)))) + (mW (mSel 10 (I 133) (I 134))))) 3 ((((0 + (mW (mSel 1 (I 133) (I 134)))) + (mW (mSel 2 (I 133) (I 134)))) + (mW (mSel 4 (I 133) (I 134)))) + (mW (mSel 8 (I 133) (I 134))))) 4 (0 + (mW (mSel 0 (I 133) (I 134)))))) 120 (ma_up (ma_up r12 0 (Int32.toInt64 ((I 134) 0))) 1 (Int32.toInt64 ((I 134) 1))))) dX8_layForm_117 rfl hs_120 rfl (Nat.le_of_ble_eq_true rfl) (Nat.le_of_ble_eq_true rfl) (ma_up_up _ _ _ _) ?_
  refine ev_iinc (pc' := 121) (v := 2) (lv' := [some (.ref 115), some (.int 12), some (.int 0), some (.int 0), some (.int 0), some (.int 2)]) dX8_layForm_118 rfl rfl (by decide) (Nat.le_of_ble_eq_true rfl) rfl rfl ?_
  refine ev_goto (tgt := 69) dX8_layForm_121 rfl ?_
  refine ev_iload (pc' := 71) dX8_layForm_69 rfl rfl ?_
  refine ev_iconst (pc' := 72) (v := 4) dX8_layForm_71 rfl ki_4 ?_
  refine ev_icmp_ge (tgt := 124) (pc' := 75) dX8_layForm_72 rfl rfl (fun h => absurd h (by decide)) (fun _ => ?_)
  refine ev_aload_n (pc' := 76) (i := 0) dX8_layForm_75 rfl rfl rfl ?_
  refine ev_getR (pc' := 79) fo_X8_26 dX8_layForm_76 rfl hs_115 rfl rf_115_8 ?_
  refine ev_iconst (pc' := 80) (v := 4) dX8_layForm_79 rfl ki_4 ?_
  refine ev_iload_n (pc' := 81) (i := 3) dX8_layForm_80 rfl rfl rfl ?_
  refine ev_imul (pc' := 82) (v := 0) dX8_layForm_81 rfl (by decide) ?_
  refine ev_iload (pc' := 84) dX8_layForm_82 rfl rfl ?_
  refine ev_iadd (pc' := 85) (v := 2) dX8_layForm_84 rfl (by decide) ?_
  refine ev_iload (pc' := 87) dX8_layForm_85 rfl rfl ?_
  refine ev_if_eq (tgt := 105) (pc' := 90) dX8_layForm_87 rfl rfl (fun _ => ?_) (fun h => absurd (by decide) h)
  refine ev_aload_n (pc' := 106) (i := 0) dX8_layForm_105 rfl rfl rfl ?_
  refine ev_getR (pc' := 109) fo_X8_70 dX8_layForm_106 rfl hs_115 rfl rf_115_25 ?_
  refine ev_iconst (pc' := 110) (v := 4) dX8_layForm_109 rfl ki_4 ?_
  refine ev_iload_n (pc' := 111) (i := 3) dX8_layForm_110 rfl rfl rfl ?_
  refine ev_imul (pc' := 112) (v := 0) dX8_layForm_111 rfl (by decide) ?_
  refine ev_iload (pc' := 114) dX8_layForm_112 rfl rfl ?_
  refine ev_iadd (pc' := 115) (v := 2) dX8_layForm_114 rfl (by decide) ?_
  refine ev_iald (pc' := 116) (j := 2) (v := (I 134) 2) dX8_layForm_115 rfl hs_134 rfl (Nat.le_of_ble_eq_true rfl) (Nat.le_of_ble_eq_true rfl) rfl ?_
  refine ev_i2l (pc' := 117) (v := Int32.toInt64 ((I 134) 2)) dX8_layForm_116 rfl rfl ?_
  refine ev_last (pc' := 118) (j := 2) (L' := (ma_up (ma_up L 132 (ma_up (ma_up (ma_up (ma_up (ma_up (L 132) 0 0) 1 ((0 + (mW (mSel 7 (I 133) (I 134)))) + (mW (mSel 11 (I 133) (I 134))))) 2 (((((0 + (mW (mSel 3 (I 133) (I 134)))) + (mW (mSel 5 (I 133) (I 134)))) + (mW (mSel 6 (I 133) (I 134)))) + (mW (mSel 9 (I 133) (I 134)))) + (mW (mSel 10 (I 133) (I 134))))) 3 ((((0 + (mW (mSel 1 (I 133) (I 134)))) + (mW (mSel 2 (I 133) (I 134)))) + (mW (mSel 4 (I 133) (I 134)))) + (mW (mSel 8 (I 133) (I 134))))) 4 (0 + (mW (mSel 0 (I 133) (I 134)))))) 120 (ma_up (ma_up (ma_up r12 0 (Int32.toInt64 ((I 134) 0))) 1 (Int32.toInt64 ((I 134) 1))) 2 (Int32.toInt64 ((I 134) 2))))) dX8_layForm_117 rfl hs_120 rfl (Nat.le_of_ble_eq_true rfl) (Nat.le_of_ble_eq_true rfl) (ma_up_up _ _ _ _) ?_
  refine ev_iinc (pc' := 121) (v := 3) (lv' := [some (.ref 115), some (.int 12), some (.int 0), some (.int 0), some (.int 0), some (.int 3)]) dX8_layForm_118 rfl rfl (by decide) (Nat.le_of_ble_eq_true rfl) rfl rfl ?_
  refine ev_goto (tgt := 69) dX8_layForm_121 rfl ?_
  refine ev_iload (pc' := 71) dX8_layForm_69 rfl rfl ?_
  refine ev_iconst (pc' := 72) (v := 4) dX8_layForm_71 rfl ki_4 ?_
  refine ev_icmp_ge (tgt := 124) (pc' := 75) dX8_layForm_72 rfl rfl (fun h => absurd h (by decide)) (fun _ => ?_)
  refine ev_aload_n (pc' := 76) (i := 0) dX8_layForm_75 rfl rfl rfl ?_
  refine ev_getR (pc' := 79) fo_X8_26 dX8_layForm_76 rfl hs_115 rfl rf_115_8 ?_
  refine ev_iconst (pc' := 80) (v := 4) dX8_layForm_79 rfl ki_4 ?_
  refine ev_iload_n (pc' := 81) (i := 3) dX8_layForm_80 rfl rfl rfl ?_
  refine ev_imul (pc' := 82) (v := 0) dX8_layForm_81 rfl (by decide) ?_
  refine ev_iload (pc' := 84) dX8_layForm_82 rfl rfl ?_
  refine ev_iadd (pc' := 85) (v := 3) dX8_layForm_84 rfl (by decide) ?_
  refine ev_iload (pc' := 87) dX8_layForm_85 rfl rfl ?_
  refine ev_if_eq (tgt := 105) (pc' := 90) dX8_layForm_87 rfl rfl (fun _ => ?_) (fun h => absurd (by decide) h)
  refine ev_aload_n (pc' := 106) (i := 0) dX8_layForm_105 rfl rfl rfl ?_
  refine ev_getR (pc' := 109) fo_X8_70 dX8_layForm_106 rfl hs_115 rfl rf_115_25 ?_
  refine ev_iconst (pc' := 110) (v := 4) dX8_layForm_109 rfl ki_4 ?_
  refine ev_iload_n (pc' := 111) (i := 3) dX8_layForm_110 rfl rfl rfl ?_
  refine ev_imul (pc' := 112) (v := 0) dX8_layForm_111 rfl (by decide) ?_
  refine ev_iload (pc' := 114) dX8_layForm_112 rfl rfl ?_
  refine ev_iadd (pc' := 115) (v := 3) dX8_layForm_114 rfl (by decide) ?_
  refine ev_iald (pc' := 116) (j := 3) (v := (I 134) 3) dX8_layForm_115 rfl hs_134 rfl (Nat.le_of_ble_eq_true rfl) (Nat.le_of_ble_eq_true rfl) rfl ?_
  refine ev_i2l (pc' := 117) (v := Int32.toInt64 ((I 134) 3)) dX8_layForm_116 rfl rfl ?_
  refine ev_last (pc' := 118) (j := 3) (L' := (ma_up (ma_up L 132 (ma_up (ma_up (ma_up (ma_up (ma_up (L 132) 0 0) 1 ((0 + (mW (mSel 7 (I 133) (I 134)))) + (mW (mSel 11 (I 133) (I 134))))) 2 (((((0 + (mW (mSel 3 (I 133) (I 134)))) + (mW (mSel 5 (I 133) (I 134)))) + (mW (mSel 6 (I 133) (I 134)))) + (mW (mSel 9 (I 133) (I 134)))) + (mW (mSel 10 (I 133) (I 134))))) 3 ((((0 + (mW (mSel 1 (I 133) (I 134)))) + (mW (mSel 2 (I 133) (I 134)))) + (mW (mSel 4 (I 133) (I 134)))) + (mW (mSel 8 (I 133) (I 134))))) 4 (0 + (mW (mSel 0 (I 133) (I 134)))))) 120 (ma_up (ma_up (ma_up (ma_up r12 0 (Int32.toInt64 ((I 134) 0))) 1 (Int32.toInt64 ((I 134) 1))) 2 (Int32.toInt64 ((I 134) 2))) 3 (Int32.toInt64 ((I 134) 3))))) dX8_layForm_117 rfl hs_120 rfl (Nat.le_of_ble_eq_true rfl) (Nat.le_of_ble_eq_true rfl) (ma_up_up _ _ _ _) ?_
  refine ev_iinc (pc' := 121) (v := 4) (lv' := [some (.ref 115), some (.int 12), some (.int 0), some (.int 0), some (.int 0), some (.int 4)]) dX8_layForm_118 rfl rfl (by decide) (Nat.le_of_ble_eq_true rfl) rfl rfl ?_
  refine ev_goto (tgt := 69) dX8_layForm_121 rfl ?_
  refine ev_iload (pc' := 71) dX8_layForm_69 rfl rfl ?_
  refine ev_iconst (pc' := 72) (v := 4) dX8_layForm_71 rfl ki_4 ?_
  refine ev_icmp_ge (tgt := 124) (pc' := 75) dX8_layForm_72 rfl rfl (fun _ => ?_) (fun h => absurd (by decide) h)
  refine ev_iinc (pc' := 127) (v := 1) (lv' := [some (.ref 115), some (.int 12), some (.int 0), some (.int 1), some (.int 0), some (.int 4)]) dX8_layForm_124 rfl rfl (by decide) (Nat.le_of_ble_eq_true rfl) rfl rfl ?_
  refine ev_goto (tgt := 32) dX8_layForm_127 rfl ?_
  refine ev_iload_n (pc' := 33) (i := 3) dX8_layForm_32 rfl rfl rfl ?_
  refine ev_iconst (pc' := 34) (v := 4) dX8_layForm_33 rfl ki_4 ?_
  refine ev_icmp_ge (tgt := 130) (pc' := 37) dX8_layForm_34 rfl rfl (fun h => absurd h (by decide)) (fun _ => ?_)
  refine ev_iload_n (pc' := 38) (i := 1) dX8_layForm_37 rfl rfl rfl ?_
  refine ev_iload_n (pc' := 39) (i := 3) dX8_layForm_38 rfl rfl rfl ?_
  refine ev_ishr (pc' := 40) (v := 6) dX8_layForm_39 rfl (by decide) ?_
  refine ev_iconst (pc' := 41) (v := 1) dX8_layForm_40 rfl ki_1 ?_
  refine ev_iand (pc' := 42) (v := 0) dX8_layForm_41 rfl (by decide) ?_
  refine ev_iconst (pc' := 43) (v := 1) dX8_layForm_42 rfl ki_1 ?_
  refine ev_icmp_ne (tgt := 50) (pc' := 46) dX8_layForm_43 rfl rfl (fun _ => ?_) (fun h => absurd h (by decide))
  refine ev_iconst (pc' := 51) (v := 0) dX8_layForm_50 rfl ki_0 ?_
  refine ev_istore (pc' := 53) (lv' := [some (.ref 115), some (.int 12), some (.int 0), some (.int 1), some (.int 0), some (.int 4)]) dX8_layForm_51 rfl (Nat.le_of_ble_eq_true rfl) rfl rfl ?_
  refine ev_iload_n (pc' := 54) (i := 2) dX8_layForm_53 rfl rfl rfl ?_
  refine ev_iload (pc' := 56) dX8_layForm_54 rfl rfl ?_
  refine ev_if_eq (tgt := 63) (pc' := 59) dX8_layForm_56 rfl rfl (fun _ => ?_) (fun h => absurd (by decide) h)
  refine ev_iconst (pc' := 64) (v := 0) dX8_layForm_63 rfl ki_0 ?_
  refine ev_iadd (pc' := 65) (v := 0) dX8_layForm_64 rfl (by decide) ?_
  refine ev_istore_n (pc' := 66) (i := 2) (lv' := [some (.ref 115), some (.int 12), some (.int 0), some (.int 1), some (.int 0), some (.int 4)]) dX8_layForm_65 rfl rfl (Nat.le_of_ble_eq_true rfl) rfl rfl ?_
  refine ev_iconst (pc' := 67) (v := 0) dX8_layForm_66 rfl ki_0 ?_
  refine ev_istore (pc' := 69) (lv' := [some (.ref 115), some (.int 12), some (.int 0), some (.int 1), some (.int 0), some (.int 0)]) dX8_layForm_67 rfl (Nat.le_of_ble_eq_true rfl) rfl rfl ?_
  refine ev_iload (pc' := 71) dX8_layForm_69 rfl rfl ?_
  refine ev_iconst (pc' := 72) (v := 4) dX8_layForm_71 rfl ki_4 ?_
  refine ev_icmp_ge (tgt := 124) (pc' := 75) dX8_layForm_72 rfl rfl (fun h => absurd h (by decide)) (fun _ => ?_)
  refine ev_aload_n (pc' := 76) (i := 0) dX8_layForm_75 rfl rfl rfl ?_
  refine ev_getR (pc' := 79) fo_X8_26 dX8_layForm_76 rfl hs_115 rfl rf_115_8 ?_
  refine ev_iconst (pc' := 80) (v := 4) dX8_layForm_79 rfl ki_4 ?_
  refine ev_iload_n (pc' := 81) (i := 3) dX8_layForm_80 rfl rfl rfl ?_
  refine ev_imul (pc' := 82) (v := 4) dX8_layForm_81 rfl (by decide) ?_
  refine ev_iload (pc' := 84) dX8_layForm_82 rfl rfl ?_
  refine ev_iadd (pc' := 85) (v := 4) dX8_layForm_84 rfl (by decide) ?_
  refine ev_iload (pc' := 87) dX8_layForm_85 rfl rfl ?_
  refine ev_if_eq (tgt := 105) (pc' := 90) dX8_layForm_87 rfl rfl (fun _ => ?_) (fun h => absurd (by decide) h)
  refine ev_aload_n (pc' := 106) (i := 0) dX8_layForm_105 rfl rfl rfl ?_
  refine ev_getR (pc' := 109) fo_X8_70 dX8_layForm_106 rfl hs_115 rfl rf_115_25 ?_
  refine ev_iconst (pc' := 110) (v := 4) dX8_layForm_109 rfl ki_4 ?_
  refine ev_iload_n (pc' := 111) (i := 3) dX8_layForm_110 rfl rfl rfl ?_
  refine ev_imul (pc' := 112) (v := 4) dX8_layForm_111 rfl (by decide) ?_
  refine ev_iload (pc' := 114) dX8_layForm_112 rfl rfl ?_
  refine ev_iadd (pc' := 115) (v := 4) dX8_layForm_114 rfl (by decide) ?_
  refine ev_iald (pc' := 116) (j := 4) (v := (I 134) 4) dX8_layForm_115 rfl hs_134 rfl (Nat.le_of_ble_eq_true rfl) (Nat.le_of_ble_eq_true rfl) rfl ?_
  refine ev_i2l (pc' := 117) (v := Int32.toInt64 ((I 134) 4)) dX8_layForm_116 rfl rfl ?_
  refine ev_last (pc' := 118) (j := 4) (L' := (ma_up (ma_up L 132 (ma_up (ma_up (ma_up (ma_up (ma_up (L 132) 0 0) 1 ((0 + (mW (mSel 7 (I 133) (I 134)))) + (mW (mSel 11 (I 133) (I 134))))) 2 (((((0 + (mW (mSel 3 (I 133) (I 134)))) + (mW (mSel 5 (I 133) (I 134)))) + (mW (mSel 6 (I 133) (I 134)))) + (mW (mSel 9 (I 133) (I 134)))) + (mW (mSel 10 (I 133) (I 134))))) 3 ((((0 + (mW (mSel 1 (I 133) (I 134)))) + (mW (mSel 2 (I 133) (I 134)))) + (mW (mSel 4 (I 133) (I 134)))) + (mW (mSel 8 (I 133) (I 134))))) 4 (0 + (mW (mSel 0 (I 133) (I 134)))))) 120 (ma_up (ma_up (ma_up (ma_up (ma_up r12 0 (Int32.toInt64 ((I 134) 0))) 1 (Int32.toInt64 ((I 134) 1))) 2 (Int32.toInt64 ((I 134) 2))) 3 (Int32.toInt64 ((I 134) 3))) 4 (Int32.toInt64 ((I 134) 4))))) dX8_layForm_117 rfl hs_120 rfl (Nat.le_of_ble_eq_true rfl) (Nat.le_of_ble_eq_true rfl) (ma_up_up _ _ _ _) ?_
  refine ev_iinc (pc' := 121) (v := 1) (lv' := [some (.ref 115), some (.int 12), some (.int 0), some (.int 1), some (.int 0), some (.int 1)]) dX8_layForm_118 rfl rfl (by decide) (Nat.le_of_ble_eq_true rfl) rfl rfl ?_
  refine ev_goto (tgt := 69) dX8_layForm_121 rfl ?_
  refine ev_iload (pc' := 71) dX8_layForm_69 rfl rfl ?_
  refine ev_iconst (pc' := 72) (v := 4) dX8_layForm_71 rfl ki_4 ?_
  refine ev_icmp_ge (tgt := 124) (pc' := 75) dX8_layForm_72 rfl rfl (fun h => absurd h (by decide)) (fun _ => ?_)
  refine ev_aload_n (pc' := 76) (i := 0) dX8_layForm_75 rfl rfl rfl ?_
  refine ev_getR (pc' := 79) fo_X8_26 dX8_layForm_76 rfl hs_115 rfl rf_115_8 ?_
  refine ev_iconst (pc' := 80) (v := 4) dX8_layForm_79 rfl ki_4 ?_
  refine ev_iload_n (pc' := 81) (i := 3) dX8_layForm_80 rfl rfl rfl ?_
  refine ev_imul (pc' := 82) (v := 4) dX8_layForm_81 rfl (by decide) ?_
  refine ev_iload (pc' := 84) dX8_layForm_82 rfl rfl ?_
  refine ev_iadd (pc' := 85) (v := 5) dX8_layForm_84 rfl (by decide) ?_
  refine ev_iload (pc' := 87) dX8_layForm_85 rfl rfl ?_
  refine ev_if_eq (tgt := 105) (pc' := 90) dX8_layForm_87 rfl rfl (fun _ => ?_) (fun h => absurd (by decide) h)
  refine ev_aload_n (pc' := 106) (i := 0) dX8_layForm_105 rfl rfl rfl ?_
  refine ev_getR (pc' := 109) fo_X8_70 dX8_layForm_106 rfl hs_115 rfl rf_115_25 ?_
  refine ev_iconst (pc' := 110) (v := 4) dX8_layForm_109 rfl ki_4 ?_
  refine ev_iload_n (pc' := 111) (i := 3) dX8_layForm_110 rfl rfl rfl ?_
  refine ev_imul (pc' := 112) (v := 4) dX8_layForm_111 rfl (by decide) ?_
  refine ev_iload (pc' := 114) dX8_layForm_112 rfl rfl ?_
  refine ev_iadd (pc' := 115) (v := 5) dX8_layForm_114 rfl (by decide) ?_
  refine ev_iald (pc' := 116) (j := 5) (v := (I 134) 5) dX8_layForm_115 rfl hs_134 rfl (Nat.le_of_ble_eq_true rfl) (Nat.le_of_ble_eq_true rfl) rfl ?_
  refine ev_i2l (pc' := 117) (v := Int32.toInt64 ((I 134) 5)) dX8_layForm_116 rfl rfl ?_
  refine ev_last (pc' := 118) (j := 5) (L' := (ma_up (ma_up L 132 (ma_up (ma_up (ma_up (ma_up (ma_up (L 132) 0 0) 1 ((0 + (mW (mSel 7 (I 133) (I 134)))) + (mW (mSel 11 (I 133) (I 134))))) 2 (((((0 + (mW (mSel 3 (I 133) (I 134)))) + (mW (mSel 5 (I 133) (I 134)))) + (mW (mSel 6 (I 133) (I 134)))) + (mW (mSel 9 (I 133) (I 134)))) + (mW (mSel 10 (I 133) (I 134))))) 3 ((((0 + (mW (mSel 1 (I 133) (I 134)))) + (mW (mSel 2 (I 133) (I 134)))) + (mW (mSel 4 (I 133) (I 134)))) + (mW (mSel 8 (I 133) (I 134))))) 4 (0 + (mW (mSel 0 (I 133) (I 134)))))) 120 (ma_up (ma_up (ma_up (ma_up (ma_up (ma_up r12 0 (Int32.toInt64 ((I 134) 0))) 1 (Int32.toInt64 ((I 134) 1))) 2 (Int32.toInt64 ((I 134) 2))) 3 (Int32.toInt64 ((I 134) 3))) 4 (Int32.toInt64 ((I 134) 4))) 5 (Int32.toInt64 ((I 134) 5))))) dX8_layForm_117 rfl hs_120 rfl (Nat.le_of_ble_eq_true rfl) (Nat.le_of_ble_eq_true rfl) (ma_up_up _ _ _ _) ?_
  refine ev_iinc (pc' := 121) (v := 2) (lv' := [some (.ref 115), some (.int 12), some (.int 0), some (.int 1), some (.int 0), some (.int 2)]) dX8_layForm_118 rfl rfl (by decide) (Nat.le_of_ble_eq_true rfl) rfl rfl ?_
  refine ev_goto (tgt := 69) dX8_layForm_121 rfl ?_
  refine ev_iload (pc' := 71) dX8_layForm_69 rfl rfl ?_
  refine ev_iconst (pc' := 72) (v := 4) dX8_layForm_71 rfl ki_4 ?_
  refine ev_icmp_ge (tgt := 124) (pc' := 75) dX8_layForm_72 rfl rfl (fun h => absurd h (by decide)) (fun _ => ?_)
  refine ev_aload_n (pc' := 76) (i := 0) dX8_layForm_75 rfl rfl rfl ?_
  refine ev_getR (pc' := 79) fo_X8_26 dX8_layForm_76 rfl hs_115 rfl rf_115_8 ?_
  refine ev_iconst (pc' := 80) (v := 4) dX8_layForm_79 rfl ki_4 ?_
  refine ev_iload_n (pc' := 81) (i := 3) dX8_layForm_80 rfl rfl rfl ?_
  refine ev_imul (pc' := 82) (v := 4) dX8_layForm_81 rfl (by decide) ?_
  refine ev_iload (pc' := 84) dX8_layForm_82 rfl rfl ?_
  refine ev_iadd (pc' := 85) (v := 6) dX8_layForm_84 rfl (by decide) ?_
  refine ev_iload (pc' := 87) dX8_layForm_85 rfl rfl ?_
  refine ev_if_eq (tgt := 105) (pc' := 90) dX8_layForm_87 rfl rfl (fun _ => ?_) (fun h => absurd (by decide) h)
  refine ev_aload_n (pc' := 106) (i := 0) dX8_layForm_105 rfl rfl rfl ?_
  refine ev_getR (pc' := 109) fo_X8_70 dX8_layForm_106 rfl hs_115 rfl rf_115_25 ?_
  refine ev_iconst (pc' := 110) (v := 4) dX8_layForm_109 rfl ki_4 ?_
  refine ev_iload_n (pc' := 111) (i := 3) dX8_layForm_110 rfl rfl rfl ?_
  refine ev_imul (pc' := 112) (v := 4) dX8_layForm_111 rfl (by decide) ?_
  refine ev_iload (pc' := 114) dX8_layForm_112 rfl rfl ?_
  refine ev_iadd (pc' := 115) (v := 6) dX8_layForm_114 rfl (by decide) ?_
  refine ev_iald (pc' := 116) (j := 6) (v := (I 134) 6) dX8_layForm_115 rfl hs_134 rfl (Nat.le_of_ble_eq_true rfl) (Nat.le_of_ble_eq_true rfl) rfl ?_
  refine ev_i2l (pc' := 117) (v := Int32.toInt64 ((I 134) 6)) dX8_layForm_116 rfl rfl ?_
  refine ev_last (pc' := 118) (j := 6) (L' := (ma_up (ma_up L 132 (ma_up (ma_up (ma_up (ma_up (ma_up (L 132) 0 0) 1 ((0 + (mW (mSel 7 (I 133) (I 134)))) + (mW (mSel 11 (I 133) (I 134))))) 2 (((((0 + (mW (mSel 3 (I 133) (I 134)))) + (mW (mSel 5 (I 133) (I 134)))) + (mW (mSel 6 (I 133) (I 134)))) + (mW (mSel 9 (I 133) (I 134)))) + (mW (mSel 10 (I 133) (I 134))))) 3 ((((0 + (mW (mSel 1 (I 133) (I 134)))) + (mW (mSel 2 (I 133) (I 134)))) + (mW (mSel 4 (I 133) (I 134)))) + (mW (mSel 8 (I 133) (I 134))))) 4 (0 + (mW (mSel 0 (I 133) (I 134)))))) 120 (ma_up (ma_up (ma_up (ma_up (ma_up (ma_up (ma_up r12 0 (Int32.toInt64 ((I 134) 0))) 1 (Int32.toInt64 ((I 134) 1))) 2 (Int32.toInt64 ((I 134) 2))) 3 (Int32.toInt64 ((I 134) 3))) 4 (Int32.toInt64 ((I 134) 4))) 5 (Int32.toInt64 ((I 134) 5))) 6 (Int32.toInt64 ((I 134) 6))))) dX8_layForm_117 rfl hs_120 rfl (Nat.le_of_ble_eq_true rfl) (Nat.le_of_ble_eq_true rfl) (ma_up_up _ _ _ _) ?_
  refine ev_iinc (pc' := 121) (v := 3) (lv' := [some (.ref 115), some (.int 12), some (.int 0), some (.int 1), some (.int 0), some (.int 3)]) dX8_layForm_118 rfl rfl (by decide) (Nat.le_of_ble_eq_true rfl) rfl rfl ?_
  refine ev_goto (tgt := 69) dX8_layForm_121 rfl ?_
  refine ev_iload (pc' := 71) dX8_layForm_69 rfl rfl ?_
  refine ev_iconst (pc' := 72) (v := 4) dX8_layForm_71 rfl ki_4 ?_
  refine ev_icmp_ge (tgt := 124) (pc' := 75) dX8_layForm_72 rfl rfl (fun h => absurd h (by decide)) (fun _ => ?_)
  refine ev_aload_n (pc' := 76) (i := 0) dX8_layForm_75 rfl rfl rfl ?_
  refine ev_getR (pc' := 79) fo_X8_26 dX8_layForm_76 rfl hs_115 rfl rf_115_8 ?_
  refine ev_iconst (pc' := 80) (v := 4) dX8_layForm_79 rfl ki_4 ?_
  refine ev_iload_n (pc' := 81) (i := 3) dX8_layForm_80 rfl rfl rfl ?_
  refine ev_imul (pc' := 82) (v := 4) dX8_layForm_81 rfl (by decide) ?_
  refine ev_iload (pc' := 84) dX8_layForm_82 rfl rfl ?_
  refine ev_iadd (pc' := 85) (v := 7) dX8_layForm_84 rfl (by decide) ?_
  refine ev_iload (pc' := 87) dX8_layForm_85 rfl rfl ?_
  refine ev_if_eq (tgt := 105) (pc' := 90) dX8_layForm_87 rfl rfl (fun _ => ?_) (fun h => absurd (by decide) h)
  refine ev_aload_n (pc' := 106) (i := 0) dX8_layForm_105 rfl rfl rfl ?_
  refine ev_getR (pc' := 109) fo_X8_70 dX8_layForm_106 rfl hs_115 rfl rf_115_25 ?_
  refine ev_iconst (pc' := 110) (v := 4) dX8_layForm_109 rfl ki_4 ?_
  refine ev_iload_n (pc' := 111) (i := 3) dX8_layForm_110 rfl rfl rfl ?_
  refine ev_imul (pc' := 112) (v := 4) dX8_layForm_111 rfl (by decide) ?_
  refine ev_iload (pc' := 114) dX8_layForm_112 rfl rfl ?_
  refine ev_iadd (pc' := 115) (v := 7) dX8_layForm_114 rfl (by decide) ?_
  refine ev_iald (pc' := 116) (j := 7) (v := (I 134) 7) dX8_layForm_115 rfl hs_134 rfl (Nat.le_of_ble_eq_true rfl) (Nat.le_of_ble_eq_true rfl) rfl ?_
  refine ev_i2l (pc' := 117) (v := Int32.toInt64 ((I 134) 7)) dX8_layForm_116 rfl rfl ?_
  refine ev_last (pc' := 118) (j := 7) (L' := (ma_up (ma_up L 132 (ma_up (ma_up (ma_up (ma_up (ma_up (L 132) 0 0) 1 ((0 + (mW (mSel 7 (I 133) (I 134)))) + (mW (mSel 11 (I 133) (I 134))))) 2 (((((0 + (mW (mSel 3 (I 133) (I 134)))) + (mW (mSel 5 (I 133) (I 134)))) + (mW (mSel 6 (I 133) (I 134)))) + (mW (mSel 9 (I 133) (I 134)))) + (mW (mSel 10 (I 133) (I 134))))) 3 ((((0 + (mW (mSel 1 (I 133) (I 134)))) + (mW (mSel 2 (I 133) (I 134)))) + (mW (mSel 4 (I 133) (I 134)))) + (mW (mSel 8 (I 133) (I 134))))) 4 (0 + (mW (mSel 0 (I 133) (I 134)))))) 120 (ma_up (ma_up (ma_up (ma_up (ma_up (ma_up (ma_up (ma_up r12 0 (Int32.toInt64 ((I 134) 0))) 1 (Int32.toInt64 ((I 134) 1))) 2 (Int32.toInt64 ((I 134) 2))) 3 (Int32.toInt64 ((I 134) 3))) 4 (Int32.toInt64 ((I 134) 4))) 5 (Int32.toInt64 ((I 134) 5))) 6 (Int32.toInt64 ((I 134) 6))) 7 (Int32.toInt64 ((I 134) 7))))) dX8_layForm_117 rfl hs_120 rfl (Nat.le_of_ble_eq_true rfl) (Nat.le_of_ble_eq_true rfl) (ma_up_up _ _ _ _) ?_
  refine ev_iinc (pc' := 121) (v := 4) (lv' := [some (.ref 115), some (.int 12), some (.int 0), some (.int 1), some (.int 0), some (.int 4)]) dX8_layForm_118 rfl rfl (by decide) (Nat.le_of_ble_eq_true rfl) rfl rfl ?_
  refine ev_goto (tgt := 69) dX8_layForm_121 rfl ?_
  refine ev_iload (pc' := 71) dX8_layForm_69 rfl rfl ?_
  refine ev_iconst (pc' := 72) (v := 4) dX8_layForm_71 rfl ki_4 ?_
  refine ev_icmp_ge (tgt := 124) (pc' := 75) dX8_layForm_72 rfl rfl (fun _ => ?_) (fun h => absurd (by decide) h)
  refine ev_iinc (pc' := 127) (v := 2) (lv' := [some (.ref 115), some (.int 12), some (.int 0), some (.int 2), some (.int 0), some (.int 4)]) dX8_layForm_124 rfl rfl (by decide) (Nat.le_of_ble_eq_true rfl) rfl rfl ?_
  refine ev_goto (tgt := 32) dX8_layForm_127 rfl ?_
  refine ev_iload_n (pc' := 33) (i := 3) dX8_layForm_32 rfl rfl rfl ?_
  refine ev_iconst (pc' := 34) (v := 4) dX8_layForm_33 rfl ki_4 ?_
  refine ev_icmp_ge (tgt := 130) (pc' := 37) dX8_layForm_34 rfl rfl (fun h => absurd h (by decide)) (fun _ => ?_)
  refine ev_iload_n (pc' := 38) (i := 1) dX8_layForm_37 rfl rfl rfl ?_
  refine ev_iload_n (pc' := 39) (i := 3) dX8_layForm_38 rfl rfl rfl ?_
  refine ev_ishr (pc' := 40) (v := 3) dX8_layForm_39 rfl (by decide) ?_
  refine ev_iconst (pc' := 41) (v := 1) dX8_layForm_40 rfl ki_1 ?_
  refine ev_iand (pc' := 42) (v := 1) dX8_layForm_41 rfl (by decide) ?_
  refine ev_iconst (pc' := 43) (v := 1) dX8_layForm_42 rfl ki_1 ?_
  refine ev_icmp_ne (tgt := 50) (pc' := 46) dX8_layForm_43 rfl rfl (fun h => absurd (by decide) h) (fun _ => ?_)
  refine ev_iconst (pc' := 47) (v := 1) dX8_layForm_46 rfl ki_1 ?_
  refine ev_goto (tgt := 51) dX8_layForm_47 rfl ?_
  refine ev_istore (pc' := 53) (lv' := [some (.ref 115), some (.int 12), some (.int 0), some (.int 2), some (.int 1), some (.int 4)]) dX8_layForm_51 rfl (Nat.le_of_ble_eq_true rfl) rfl rfl ?_
  refine ev_iload_n (pc' := 54) (i := 2) dX8_layForm_53 rfl rfl rfl ?_
  refine ev_iload (pc' := 56) dX8_layForm_54 rfl rfl ?_
  refine ev_if_eq (tgt := 63) (pc' := 59) dX8_layForm_56 rfl rfl (fun h => absurd h (by decide)) (fun _ => ?_)
  refine ev_iconst (pc' := 60) (v := 1) dX8_layForm_59 rfl ki_1 ?_
  refine ev_goto (tgt := 64) dX8_layForm_60 rfl ?_
  refine ev_iadd (pc' := 65) (v := 1) dX8_layForm_64 rfl (by decide) ?_
  refine ev_istore_n (pc' := 66) (i := 2) (lv' := [some (.ref 115), some (.int 12), some (.int 1), some (.int 2), some (.int 1), some (.int 4)]) dX8_layForm_65 rfl rfl (Nat.le_of_ble_eq_true rfl) rfl rfl ?_
  refine ev_iconst (pc' := 67) (v := 0) dX8_layForm_66 rfl ki_0 ?_
  refine ev_istore (pc' := 69) (lv' := [some (.ref 115), some (.int 12), some (.int 1), some (.int 2), some (.int 1), some (.int 0)]) dX8_layForm_67 rfl (Nat.le_of_ble_eq_true rfl) rfl rfl ?_
  refine ev_iload (pc' := 71) dX8_layForm_69 rfl rfl ?_
  refine ev_iconst (pc' := 72) (v := 4) dX8_layForm_71 rfl ki_4 ?_
  refine ev_icmp_ge (tgt := 124) (pc' := 75) dX8_layForm_72 rfl rfl (fun h => absurd h (by decide)) (fun _ => ?_)
  refine ev_aload_n (pc' := 76) (i := 0) dX8_layForm_75 rfl rfl rfl ?_
  refine ev_getR (pc' := 79) fo_X8_26 dX8_layForm_76 rfl hs_115 rfl rf_115_8 ?_
  refine ev_iconst (pc' := 80) (v := 4) dX8_layForm_79 rfl ki_4 ?_
  refine ev_iload_n (pc' := 81) (i := 3) dX8_layForm_80 rfl rfl rfl ?_
  refine ev_imul (pc' := 82) (v := 8) dX8_layForm_81 rfl (by decide) ?_
  refine ev_iload (pc' := 84) dX8_layForm_82 rfl rfl ?_
  refine ev_iadd (pc' := 85) (v := 8) dX8_layForm_84 rfl (by decide) ?_
  refine ev_iload (pc' := 87) dX8_layForm_85 rfl rfl ?_
  refine ev_if_eq (tgt := 105) (pc' := 90) dX8_layForm_87 rfl rfl (fun h => absurd h (by decide)) (fun _ => ?_)
  refine ev_aload_n (pc' := 91) (i := 0) dX8_layForm_90 rfl rfl rfl ?_
  refine ev_getR (pc' := 94) fo_X8_67 dX8_layForm_91 rfl hs_115 rfl rf_115_24 ?_
  refine ev_iconst (pc' := 95) (v := 4) dX8_layForm_94 rfl ki_4 ?_
  refine ev_iload_n (pc' := 96) (i := 3) dX8_layForm_95 rfl rfl rfl ?_
  refine ev_imul (pc' := 97) (v := 8) dX8_layForm_96 rfl (by decide) ?_
  refine ev_iload (pc' := 99) dX8_layForm_97 rfl rfl ?_
  refine ev_iadd (pc' := 100) (v := 8) dX8_layForm_99 rfl (by decide) ?_
  refine ev_iald (pc' := 101) (j := 8) (v := (I 133) 8) dX8_layForm_100 rfl hs_133 rfl (Nat.le_of_ble_eq_true rfl) (Nat.le_of_ble_eq_true rfl) rfl ?_
  refine ev_i2l (pc' := 102) (v := Int32.toInt64 ((I 133) 8)) dX8_layForm_101 rfl rfl ?_
  refine ev_goto (tgt := 117) dX8_layForm_102 rfl ?_
  refine ev_last (pc' := 118) (j := 8) (L' := (ma_up (ma_up L 132 (ma_up (ma_up (ma_up (ma_up (ma_up (L 132) 0 0) 1 ((0 + (mW (mSel 7 (I 133) (I 134)))) + (mW (mSel 11 (I 133) (I 134))))) 2 (((((0 + (mW (mSel 3 (I 133) (I 134)))) + (mW (mSel 5 (I 133) (I 134)))) + (mW (mSel 6 (I 133) (I 134)))) + (mW (mSel 9 (I 133) (I 134)))) + (mW (mSel 10 (I 133) (I 134))))) 3 ((((0 + (mW (mSel 1 (I 133) (I 134)))) + (mW (mSel 2 (I 133) (I 134)))) + (mW (mSel 4 (I 133) (I 134)))) + (mW (mSel 8 (I 133) (I 134))))) 4 (0 + (mW (mSel 0 (I 133) (I 134)))))) 120 (ma_up (ma_up (ma_up (ma_up (ma_up (ma_up (ma_up (ma_up (ma_up r12 0 (Int32.toInt64 ((I 134) 0))) 1 (Int32.toInt64 ((I 134) 1))) 2 (Int32.toInt64 ((I 134) 2))) 3 (Int32.toInt64 ((I 134) 3))) 4 (Int32.toInt64 ((I 134) 4))) 5 (Int32.toInt64 ((I 134) 5))) 6 (Int32.toInt64 ((I 134) 6))) 7 (Int32.toInt64 ((I 134) 7))) 8 (Int32.toInt64 ((I 133) 8))))) dX8_layForm_117 rfl hs_120 rfl (Nat.le_of_ble_eq_true rfl) (Nat.le_of_ble_eq_true rfl) (ma_up_up _ _ _ _) ?_
  refine ev_iinc (pc' := 121) (v := 1) (lv' := [some (.ref 115), some (.int 12), some (.int 1), some (.int 2), some (.int 1), some (.int 1)]) dX8_layForm_118 rfl rfl (by decide) (Nat.le_of_ble_eq_true rfl) rfl rfl ?_
  refine ev_goto (tgt := 69) dX8_layForm_121 rfl ?_
  refine ev_iload (pc' := 71) dX8_layForm_69 rfl rfl ?_
  refine ev_iconst (pc' := 72) (v := 4) dX8_layForm_71 rfl ki_4 ?_
  refine ev_icmp_ge (tgt := 124) (pc' := 75) dX8_layForm_72 rfl rfl (fun h => absurd h (by decide)) (fun _ => ?_)
  refine ev_aload_n (pc' := 76) (i := 0) dX8_layForm_75 rfl rfl rfl ?_
  refine ev_getR (pc' := 79) fo_X8_26 dX8_layForm_76 rfl hs_115 rfl rf_115_8 ?_
  refine ev_iconst (pc' := 80) (v := 4) dX8_layForm_79 rfl ki_4 ?_
  refine ev_iload_n (pc' := 81) (i := 3) dX8_layForm_80 rfl rfl rfl ?_
  refine ev_imul (pc' := 82) (v := 8) dX8_layForm_81 rfl (by decide) ?_
  refine ev_iload (pc' := 84) dX8_layForm_82 rfl rfl ?_
  refine ev_iadd (pc' := 85) (v := 9) dX8_layForm_84 rfl (by decide) ?_
  refine ev_iload (pc' := 87) dX8_layForm_85 rfl rfl ?_
  refine ev_if_eq (tgt := 105) (pc' := 90) dX8_layForm_87 rfl rfl (fun h => absurd h (by decide)) (fun _ => ?_)
  refine ev_aload_n (pc' := 91) (i := 0) dX8_layForm_90 rfl rfl rfl ?_
  refine ev_getR (pc' := 94) fo_X8_67 dX8_layForm_91 rfl hs_115 rfl rf_115_24 ?_
  refine ev_iconst (pc' := 95) (v := 4) dX8_layForm_94 rfl ki_4 ?_
  refine ev_iload_n (pc' := 96) (i := 3) dX8_layForm_95 rfl rfl rfl ?_
  refine ev_imul (pc' := 97) (v := 8) dX8_layForm_96 rfl (by decide) ?_
  refine ev_iload (pc' := 99) dX8_layForm_97 rfl rfl ?_
  refine ev_iadd (pc' := 100) (v := 9) dX8_layForm_99 rfl (by decide) ?_
  refine ev_iald (pc' := 101) (j := 9) (v := (I 133) 9) dX8_layForm_100 rfl hs_133 rfl (Nat.le_of_ble_eq_true rfl) (Nat.le_of_ble_eq_true rfl) rfl ?_
  refine ev_i2l (pc' := 102) (v := Int32.toInt64 ((I 133) 9)) dX8_layForm_101 rfl rfl ?_
  refine ev_goto (tgt := 117) dX8_layForm_102 rfl ?_
  refine ev_last (pc' := 118) (j := 9) (L' := (ma_up (ma_up L 132 (ma_up (ma_up (ma_up (ma_up (ma_up (L 132) 0 0) 1 ((0 + (mW (mSel 7 (I 133) (I 134)))) + (mW (mSel 11 (I 133) (I 134))))) 2 (((((0 + (mW (mSel 3 (I 133) (I 134)))) + (mW (mSel 5 (I 133) (I 134)))) + (mW (mSel 6 (I 133) (I 134)))) + (mW (mSel 9 (I 133) (I 134)))) + (mW (mSel 10 (I 133) (I 134))))) 3 ((((0 + (mW (mSel 1 (I 133) (I 134)))) + (mW (mSel 2 (I 133) (I 134)))) + (mW (mSel 4 (I 133) (I 134)))) + (mW (mSel 8 (I 133) (I 134))))) 4 (0 + (mW (mSel 0 (I 133) (I 134)))))) 120 (ma_up (ma_up (ma_up (ma_up (ma_up (ma_up (ma_up (ma_up (ma_up (ma_up r12 0 (Int32.toInt64 ((I 134) 0))) 1 (Int32.toInt64 ((I 134) 1))) 2 (Int32.toInt64 ((I 134) 2))) 3 (Int32.toInt64 ((I 134) 3))) 4 (Int32.toInt64 ((I 134) 4))) 5 (Int32.toInt64 ((I 134) 5))) 6 (Int32.toInt64 ((I 134) 6))) 7 (Int32.toInt64 ((I 134) 7))) 8 (Int32.toInt64 ((I 133) 8))) 9 (Int32.toInt64 ((I 133) 9))))) dX8_layForm_117 rfl hs_120 rfl (Nat.le_of_ble_eq_true rfl) (Nat.le_of_ble_eq_true rfl) (ma_up_up _ _ _ _) ?_
  refine ev_iinc (pc' := 121) (v := 2) (lv' := [some (.ref 115), some (.int 12), some (.int 1), some (.int 2), some (.int 1), some (.int 2)]) dX8_layForm_118 rfl rfl (by decide) (Nat.le_of_ble_eq_true rfl) rfl rfl ?_
  refine ev_goto (tgt := 69) dX8_layForm_121 rfl ?_
  refine ev_iload (pc' := 71) dX8_layForm_69 rfl rfl ?_
  refine ev_iconst (pc' := 72) (v := 4) dX8_layForm_71 rfl ki_4 ?_
  refine ev_icmp_ge (tgt := 124) (pc' := 75) dX8_layForm_72 rfl rfl (fun h => absurd h (by decide)) (fun _ => ?_)
  refine ev_aload_n (pc' := 76) (i := 0) dX8_layForm_75 rfl rfl rfl ?_
  refine ev_getR (pc' := 79) fo_X8_26 dX8_layForm_76 rfl hs_115 rfl rf_115_8 ?_
  refine ev_iconst (pc' := 80) (v := 4) dX8_layForm_79 rfl ki_4 ?_
  refine ev_iload_n (pc' := 81) (i := 3) dX8_layForm_80 rfl rfl rfl ?_
  refine ev_imul (pc' := 82) (v := 8) dX8_layForm_81 rfl (by decide) ?_
  refine ev_iload (pc' := 84) dX8_layForm_82 rfl rfl ?_
  refine ev_iadd (pc' := 85) (v := 10) dX8_layForm_84 rfl (by decide) ?_
  refine ev_iload (pc' := 87) dX8_layForm_85 rfl rfl ?_
  refine ev_if_eq (tgt := 105) (pc' := 90) dX8_layForm_87 rfl rfl (fun h => absurd h (by decide)) (fun _ => ?_)
  refine ev_aload_n (pc' := 91) (i := 0) dX8_layForm_90 rfl rfl rfl ?_
  refine ev_getR (pc' := 94) fo_X8_67 dX8_layForm_91 rfl hs_115 rfl rf_115_24 ?_
  refine ev_iconst (pc' := 95) (v := 4) dX8_layForm_94 rfl ki_4 ?_
  refine ev_iload_n (pc' := 96) (i := 3) dX8_layForm_95 rfl rfl rfl ?_
  refine ev_imul (pc' := 97) (v := 8) dX8_layForm_96 rfl (by decide) ?_
  refine ev_iload (pc' := 99) dX8_layForm_97 rfl rfl ?_
  refine ev_iadd (pc' := 100) (v := 10) dX8_layForm_99 rfl (by decide) ?_
  refine ev_iald (pc' := 101) (j := 10) (v := (I 133) 10) dX8_layForm_100 rfl hs_133 rfl (Nat.le_of_ble_eq_true rfl) (Nat.le_of_ble_eq_true rfl) rfl ?_
  refine ev_i2l (pc' := 102) (v := Int32.toInt64 ((I 133) 10)) dX8_layForm_101 rfl rfl ?_
  refine ev_goto (tgt := 117) dX8_layForm_102 rfl ?_
  refine ev_last (pc' := 118) (j := 10) (L' := (ma_up (ma_up L 132 (ma_up (ma_up (ma_up (ma_up (ma_up (L 132) 0 0) 1 ((0 + (mW (mSel 7 (I 133) (I 134)))) + (mW (mSel 11 (I 133) (I 134))))) 2 (((((0 + (mW (mSel 3 (I 133) (I 134)))) + (mW (mSel 5 (I 133) (I 134)))) + (mW (mSel 6 (I 133) (I 134)))) + (mW (mSel 9 (I 133) (I 134)))) + (mW (mSel 10 (I 133) (I 134))))) 3 ((((0 + (mW (mSel 1 (I 133) (I 134)))) + (mW (mSel 2 (I 133) (I 134)))) + (mW (mSel 4 (I 133) (I 134)))) + (mW (mSel 8 (I 133) (I 134))))) 4 (0 + (mW (mSel 0 (I 133) (I 134)))))) 120 (ma_up (ma_up (ma_up (ma_up (ma_up (ma_up (ma_up (ma_up (ma_up (ma_up (ma_up r12 0 (Int32.toInt64 ((I 134) 0))) 1 (Int32.toInt64 ((I 134) 1))) 2 (Int32.toInt64 ((I 134) 2))) 3 (Int32.toInt64 ((I 134) 3))) 4 (Int32.toInt64 ((I 134) 4))) 5 (Int32.toInt64 ((I 134) 5))) 6 (Int32.toInt64 ((I 134) 6))) 7 (Int32.toInt64 ((I 134) 7))) 8 (Int32.toInt64 ((I 133) 8))) 9 (Int32.toInt64 ((I 133) 9))) 10 (Int32.toInt64 ((I 133) 10))))) dX8_layForm_117 rfl hs_120 rfl (Nat.le_of_ble_eq_true rfl) (Nat.le_of_ble_eq_true rfl) (ma_up_up _ _ _ _) ?_
  refine ev_iinc (pc' := 121) (v := 3) (lv' := [some (.ref 115), some (.int 12), some (.int 1), some (.int 2), some (.int 1), some (.int 3)]) dX8_layForm_118 rfl rfl (by decide) (Nat.le_of_ble_eq_true rfl) rfl rfl ?_
  refine ev_goto (tgt := 69) dX8_layForm_121 rfl ?_
  refine ev_iload (pc' := 71) dX8_layForm_69 rfl rfl ?_
  refine ev_iconst (pc' := 72) (v := 4) dX8_layForm_71 rfl ki_4 ?_
  refine ev_icmp_ge (tgt := 124) (pc' := 75) dX8_layForm_72 rfl rfl (fun h => absurd h (by decide)) (fun _ => ?_)
  refine ev_aload_n (pc' := 76) (i := 0) dX8_layForm_75 rfl rfl rfl ?_
  refine ev_getR (pc' := 79) fo_X8_26 dX8_layForm_76 rfl hs_115 rfl rf_115_8 ?_
  refine ev_iconst (pc' := 80) (v := 4) dX8_layForm_79 rfl ki_4 ?_
  refine ev_iload_n (pc' := 81) (i := 3) dX8_layForm_80 rfl rfl rfl ?_
  refine ev_imul (pc' := 82) (v := 8) dX8_layForm_81 rfl (by decide) ?_
  refine ev_iload (pc' := 84) dX8_layForm_82 rfl rfl ?_
  refine ev_iadd (pc' := 85) (v := 11) dX8_layForm_84 rfl (by decide) ?_
  refine ev_iload (pc' := 87) dX8_layForm_85 rfl rfl ?_
  refine ev_if_eq (tgt := 105) (pc' := 90) dX8_layForm_87 rfl rfl (fun h => absurd h (by decide)) (fun _ => ?_)
  refine ev_aload_n (pc' := 91) (i := 0) dX8_layForm_90 rfl rfl rfl ?_
  refine ev_getR (pc' := 94) fo_X8_67 dX8_layForm_91 rfl hs_115 rfl rf_115_24 ?_
  refine ev_iconst (pc' := 95) (v := 4) dX8_layForm_94 rfl ki_4 ?_
  refine ev_iload_n (pc' := 96) (i := 3) dX8_layForm_95 rfl rfl rfl ?_
  refine ev_imul (pc' := 97) (v := 8) dX8_layForm_96 rfl (by decide) ?_
  refine ev_iload (pc' := 99) dX8_layForm_97 rfl rfl ?_
  refine ev_iadd (pc' := 100) (v := 11) dX8_layForm_99 rfl (by decide) ?_
  refine ev_iald (pc' := 101) (j := 11) (v := (I 133) 11) dX8_layForm_100 rfl hs_133 rfl (Nat.le_of_ble_eq_true rfl) (Nat.le_of_ble_eq_true rfl) rfl ?_
  refine ev_i2l (pc' := 102) (v := Int32.toInt64 ((I 133) 11)) dX8_layForm_101 rfl rfl ?_
  refine ev_goto (tgt := 117) dX8_layForm_102 rfl ?_
  refine ev_last (pc' := 118) (j := 11) (L' := (ma_up (ma_up L 132 (ma_up (ma_up (ma_up (ma_up (ma_up (L 132) 0 0) 1 ((0 + (mW (mSel 7 (I 133) (I 134)))) + (mW (mSel 11 (I 133) (I 134))))) 2 (((((0 + (mW (mSel 3 (I 133) (I 134)))) + (mW (mSel 5 (I 133) (I 134)))) + (mW (mSel 6 (I 133) (I 134)))) + (mW (mSel 9 (I 133) (I 134)))) + (mW (mSel 10 (I 133) (I 134))))) 3 ((((0 + (mW (mSel 1 (I 133) (I 134)))) + (mW (mSel 2 (I 133) (I 134)))) + (mW (mSel 4 (I 133) (I 134)))) + (mW (mSel 8 (I 133) (I 134))))) 4 (0 + (mW (mSel 0 (I 133) (I 134)))))) 120 (ma_up (ma_up (ma_up (ma_up (ma_up (ma_up (ma_up (ma_up (ma_up (ma_up (ma_up (ma_up r12 0 (Int32.toInt64 ((I 134) 0))) 1 (Int32.toInt64 ((I 134) 1))) 2 (Int32.toInt64 ((I 134) 2))) 3 (Int32.toInt64 ((I 134) 3))) 4 (Int32.toInt64 ((I 134) 4))) 5 (Int32.toInt64 ((I 134) 5))) 6 (Int32.toInt64 ((I 134) 6))) 7 (Int32.toInt64 ((I 134) 7))) 8 (Int32.toInt64 ((I 133) 8))) 9 (Int32.toInt64 ((I 133) 9))) 10 (Int32.toInt64 ((I 133) 10))) 11 (Int32.toInt64 ((I 133) 11))))) dX8_layForm_117 rfl hs_120 rfl (Nat.le_of_ble_eq_true rfl) (Nat.le_of_ble_eq_true rfl) (ma_up_up _ _ _ _) ?_
  refine ev_iinc (pc' := 121) (v := 4) (lv' := [some (.ref 115), some (.int 12), some (.int 1), some (.int 2), some (.int 1), some (.int 4)]) dX8_layForm_118 rfl rfl (by decide) (Nat.le_of_ble_eq_true rfl) rfl rfl ?_
  refine ev_goto (tgt := 69) dX8_layForm_121 rfl ?_
  refine ev_iload (pc' := 71) dX8_layForm_69 rfl rfl ?_
  refine ev_iconst (pc' := 72) (v := 4) dX8_layForm_71 rfl ki_4 ?_
  refine ev_icmp_ge (tgt := 124) (pc' := 75) dX8_layForm_72 rfl rfl (fun _ => ?_) (fun h => absurd (by decide) h)
  refine ev_iinc (pc' := 127) (v := 3) (lv' := [some (.ref 115), some (.int 12), some (.int 1), some (.int 3), some (.int 1), some (.int 4)]) dX8_layForm_124 rfl rfl (by decide) (Nat.le_of_ble_eq_true rfl) rfl rfl ?_
  refine ev_goto (tgt := 32) dX8_layForm_127 rfl ?_
  refine ev_iload_n (pc' := 33) (i := 3) dX8_layForm_32 rfl rfl rfl ?_
  refine ev_iconst (pc' := 34) (v := 4) dX8_layForm_33 rfl ki_4 ?_
  refine ev_icmp_ge (tgt := 130) (pc' := 37) dX8_layForm_34 rfl rfl (fun h => absurd h (by decide)) (fun _ => ?_)
  refine ev_iload_n (pc' := 38) (i := 1) dX8_layForm_37 rfl rfl rfl ?_
  refine ev_iload_n (pc' := 39) (i := 3) dX8_layForm_38 rfl rfl rfl ?_
  refine ev_ishr (pc' := 40) (v := 1) dX8_layForm_39 rfl (by decide) ?_
  refine ev_iconst (pc' := 41) (v := 1) dX8_layForm_40 rfl ki_1 ?_
  refine ev_iand (pc' := 42) (v := 1) dX8_layForm_41 rfl (by decide) ?_
  refine ev_iconst (pc' := 43) (v := 1) dX8_layForm_42 rfl ki_1 ?_
  refine ev_icmp_ne (tgt := 50) (pc' := 46) dX8_layForm_43 rfl rfl (fun h => absurd (by decide) h) (fun _ => ?_)
  refine ev_iconst (pc' := 47) (v := 1) dX8_layForm_46 rfl ki_1 ?_
  refine ev_goto (tgt := 51) dX8_layForm_47 rfl ?_
  refine ev_istore (pc' := 53) (lv' := [some (.ref 115), some (.int 12), some (.int 1), some (.int 3), some (.int 1), some (.int 4)]) dX8_layForm_51 rfl (Nat.le_of_ble_eq_true rfl) rfl rfl ?_
  refine ev_iload_n (pc' := 54) (i := 2) dX8_layForm_53 rfl rfl rfl ?_
  refine ev_iload (pc' := 56) dX8_layForm_54 rfl rfl ?_
  refine ev_if_eq (tgt := 63) (pc' := 59) dX8_layForm_56 rfl rfl (fun h => absurd h (by decide)) (fun _ => ?_)
  refine ev_iconst (pc' := 60) (v := 1) dX8_layForm_59 rfl ki_1 ?_
  refine ev_goto (tgt := 64) dX8_layForm_60 rfl ?_
  refine ev_iadd (pc' := 65) (v := 2) dX8_layForm_64 rfl (by decide) ?_
  refine ev_istore_n (pc' := 66) (i := 2) (lv' := [some (.ref 115), some (.int 12), some (.int 2), some (.int 3), some (.int 1), some (.int 4)]) dX8_layForm_65 rfl rfl (Nat.le_of_ble_eq_true rfl) rfl rfl ?_
  refine ev_iconst (pc' := 67) (v := 0) dX8_layForm_66 rfl ki_0 ?_
  refine ev_istore (pc' := 69) (lv' := [some (.ref 115), some (.int 12), some (.int 2), some (.int 3), some (.int 1), some (.int 0)]) dX8_layForm_67 rfl (Nat.le_of_ble_eq_true rfl) rfl rfl ?_
  refine ev_iload (pc' := 71) dX8_layForm_69 rfl rfl ?_
  refine ev_iconst (pc' := 72) (v := 4) dX8_layForm_71 rfl ki_4 ?_
  refine ev_icmp_ge (tgt := 124) (pc' := 75) dX8_layForm_72 rfl rfl (fun h => absurd h (by decide)) (fun _ => ?_)
  refine ev_aload_n (pc' := 76) (i := 0) dX8_layForm_75 rfl rfl rfl ?_
  refine ev_getR (pc' := 79) fo_X8_26 dX8_layForm_76 rfl hs_115 rfl rf_115_8 ?_
  refine ev_iconst (pc' := 80) (v := 4) dX8_layForm_79 rfl ki_4 ?_
  refine ev_iload_n (pc' := 81) (i := 3) dX8_layForm_80 rfl rfl rfl ?_
  refine ev_imul (pc' := 82) (v := 12) dX8_layForm_81 rfl (by decide) ?_
  refine ev_iload (pc' := 84) dX8_layForm_82 rfl rfl ?_
  refine ev_iadd (pc' := 85) (v := 12) dX8_layForm_84 rfl (by decide) ?_
  refine ev_iload (pc' := 87) dX8_layForm_85 rfl rfl ?_
  refine ev_if_eq (tgt := 105) (pc' := 90) dX8_layForm_87 rfl rfl (fun h => absurd h (by decide)) (fun _ => ?_)
  refine ev_aload_n (pc' := 91) (i := 0) dX8_layForm_90 rfl rfl rfl ?_
  refine ev_getR (pc' := 94) fo_X8_67 dX8_layForm_91 rfl hs_115 rfl rf_115_24 ?_
  refine ev_iconst (pc' := 95) (v := 4) dX8_layForm_94 rfl ki_4 ?_
  refine ev_iload_n (pc' := 96) (i := 3) dX8_layForm_95 rfl rfl rfl ?_
  refine ev_imul (pc' := 97) (v := 12) dX8_layForm_96 rfl (by decide) ?_
  refine ev_iload (pc' := 99) dX8_layForm_97 rfl rfl ?_
  refine ev_iadd (pc' := 100) (v := 12) dX8_layForm_99 rfl (by decide) ?_
  refine ev_iald (pc' := 101) (j := 12) (v := (I 133) 12) dX8_layForm_100 rfl hs_133 rfl (Nat.le_of_ble_eq_true rfl) (Nat.le_of_ble_eq_true rfl) rfl ?_
  refine ev_i2l (pc' := 102) (v := Int32.toInt64 ((I 133) 12)) dX8_layForm_101 rfl rfl ?_
  refine ev_goto (tgt := 117) dX8_layForm_102 rfl ?_
  refine ev_last (pc' := 118) (j := 12) (L' := (ma_up (ma_up L 132 (ma_up (ma_up (ma_up (ma_up (ma_up (L 132) 0 0) 1 ((0 + (mW (mSel 7 (I 133) (I 134)))) + (mW (mSel 11 (I 133) (I 134))))) 2 (((((0 + (mW (mSel 3 (I 133) (I 134)))) + (mW (mSel 5 (I 133) (I 134)))) + (mW (mSel 6 (I 133) (I 134)))) + (mW (mSel 9 (I 133) (I 134)))) + (mW (mSel 10 (I 133) (I 134))))) 3 ((((0 + (mW (mSel 1 (I 133) (I 134)))) + (mW (mSel 2 (I 133) (I 134)))) + (mW (mSel 4 (I 133) (I 134)))) + (mW (mSel 8 (I 133) (I 134))))) 4 (0 + (mW (mSel 0 (I 133) (I 134)))))) 120 (ma_up (ma_up (ma_up (ma_up (ma_up (ma_up (ma_up (ma_up (ma_up (ma_up (ma_up (ma_up (ma_up r12 0 (Int32.toInt64 ((I 134) 0))) 1 (Int32.toInt64 ((I 134) 1))) 2 (Int32.toInt64 ((I 134) 2))) 3 (Int32.toInt64 ((I 134) 3))) 4 (Int32.toInt64 ((I 134) 4))) 5 (Int32.toInt64 ((I 134) 5))) 6 (Int32.toInt64 ((I 134) 6))) 7 (Int32.toInt64 ((I 134) 7))) 8 (Int32.toInt64 ((I 133) 8))) 9 (Int32.toInt64 ((I 133) 9))) 10 (Int32.toInt64 ((I 133) 10))) 11 (Int32.toInt64 ((I 133) 11))) 12 (Int32.toInt64 ((I 133) 12))))) dX8_layForm_117 rfl hs_120 rfl (Nat.le_of_ble_eq_true rfl) (Nat.le_of_ble_eq_true rfl) (ma_up_up _ _ _ _) ?_
  refine ev_iinc (pc' := 121) (v := 1) (lv' := [some (.ref 115), some (.int 12), some (.int 2), some (.int 3), some (.int 1), some (.int 1)]) dX8_layForm_118 rfl rfl (by decide) (Nat.le_of_ble_eq_true rfl) rfl rfl ?_
  refine ev_goto (tgt := 69) dX8_layForm_121 rfl ?_
  refine ev_iload (pc' := 71) dX8_layForm_69 rfl rfl ?_
  refine ev_iconst (pc' := 72) (v := 4) dX8_layForm_71 rfl ki_4 ?_
  refine ev_icmp_ge (tgt := 124) (pc' := 75) dX8_layForm_72 rfl rfl (fun h => absurd h (by decide)) (fun _ => ?_)
  refine ev_aload_n (pc' := 76) (i := 0) dX8_layForm_75 rfl rfl rfl ?_
  refine ev_getR (pc' := 79) fo_X8_26 dX8_layForm_76 rfl hs_115 rfl rf_115_8 ?_
  refine ev_iconst (pc' := 80) (v := 4) dX8_layForm_79 rfl ki_4 ?_
  refine ev_iload_n (pc' := 81) (i := 3) dX8_layForm_80 rfl rfl rfl ?_
  refine ev_imul (pc' := 82) (v := 12) dX8_layForm_81 rfl (by decide) ?_
  refine ev_iload (pc' := 84) dX8_layForm_82 rfl rfl ?_
  refine ev_iadd (pc' := 85) (v := 13) dX8_layForm_84 rfl (by decide) ?_
  refine ev_iload (pc' := 87) dX8_layForm_85 rfl rfl ?_
  refine ev_if_eq (tgt := 105) (pc' := 90) dX8_layForm_87 rfl rfl (fun h => absurd h (by decide)) (fun _ => ?_)
  refine ev_aload_n (pc' := 91) (i := 0) dX8_layForm_90 rfl rfl rfl ?_
  refine ev_getR (pc' := 94) fo_X8_67 dX8_layForm_91 rfl hs_115 rfl rf_115_24 ?_
  refine ev_iconst (pc' := 95) (v := 4) dX8_layForm_94 rfl ki_4 ?_
  refine ev_iload_n (pc' := 96) (i := 3) dX8_layForm_95 rfl rfl rfl ?_
  refine ev_imul (pc' := 97) (v := 12) dX8_layForm_96 rfl (by decide) ?_
  refine ev_iload (pc' := 99) dX8_layForm_97 rfl rfl ?_
  refine ev_iadd (pc' := 100) (v := 13) dX8_layForm_99 rfl (by decide) ?_
  refine ev_iald (pc' := 101) (j := 13) (v := (I 133) 13) dX8_layForm_100 rfl hs_133 rfl (Nat.le_of_ble_eq_true rfl) (Nat.le_of_ble_eq_true rfl) rfl ?_
  refine ev_i2l (pc' := 102) (v := Int32.toInt64 ((I 133) 13)) dX8_layForm_101 rfl rfl ?_
  refine ev_goto (tgt := 117) dX8_layForm_102 rfl ?_
  refine ev_last (pc' := 118) (j := 13) (L' := (ma_up (ma_up L 132 (ma_up (ma_up (ma_up (ma_up (ma_up (L 132) 0 0) 1 ((0 + (mW (mSel 7 (I 133) (I 134)))) + (mW (mSel 11 (I 133) (I 134))))) 2 (((((0 + (mW (mSel 3 (I 133) (I 134)))) + (mW (mSel 5 (I 133) (I 134)))) + (mW (mSel 6 (I 133) (I 134)))) + (mW (mSel 9 (I 133) (I 134)))) + (mW (mSel 10 (I 133) (I 134))))) 3 ((((0 + (mW (mSel 1 (I 133) (I 134)))) + (mW (mSel 2 (I 133) (I 134)))) + (mW (mSel 4 (I 133) (I 134)))) + (mW (mSel 8 (I 133) (I 134))))) 4 (0 + (mW (mSel 0 (I 133) (I 134)))))) 120 (ma_up (ma_up (ma_up (ma_up (ma_up (ma_up (ma_up (ma_up (ma_up (ma_up (ma_up (ma_up (ma_up (ma_up r12 0 (Int32.toInt64 ((I 134) 0))) 1 (Int32.toInt64 ((I 134) 1))) 2 (Int32.toInt64 ((I 134) 2))) 3 (Int32.toInt64 ((I 134) 3))) 4 (Int32.toInt64 ((I 134) 4))) 5 (Int32.toInt64 ((I 134) 5))) 6 (Int32.toInt64 ((I 134) 6))) 7 (Int32.toInt64 ((I 134) 7))) 8 (Int32.toInt64 ((I 133) 8))) 9 (Int32.toInt64 ((I 133) 9))) 10 (Int32.toInt64 ((I 133) 10))) 11 (Int32.toInt64 ((I 133) 11))) 12 (Int32.toInt64 ((I 133) 12))) 13 (Int32.toInt64 ((I 133) 13))))) dX8_layForm_117 rfl hs_120 rfl (Nat.le_of_ble_eq_true rfl) (Nat.le_of_ble_eq_true rfl) (ma_up_up _ _ _ _) ?_
  refine ev_iinc (pc' := 121) (v := 2) (lv' := [some (.ref 115), some (.int 12), some (.int 2), some (.int 3), some (.int 1), some (.int 2)]) dX8_layForm_118 rfl rfl (by decide) (Nat.le_of_ble_eq_true rfl) rfl rfl ?_
  refine ev_goto (tgt := 69) dX8_layForm_121 rfl ?_
  refine ev_iload (pc' := 71) dX8_layForm_69 rfl rfl ?_
  refine ev_iconst (pc' := 72) (v := 4) dX8_layForm_71 rfl ki_4 ?_
  refine ev_icmp_ge (tgt := 124) (pc' := 75) dX8_layForm_72 rfl rfl (fun h => absurd h (by decide)) (fun _ => ?_)
  refine ev_aload_n (pc' := 76) (i := 0) dX8_layForm_75 rfl rfl rfl ?_
  refine ev_getR (pc' := 79) fo_X8_26 dX8_layForm_76 rfl hs_115 rfl rf_115_8 ?_
  refine ev_iconst (pc' := 80) (v := 4) dX8_layForm_79 rfl ki_4 ?_
  refine ev_iload_n (pc' := 81) (i := 3) dX8_layForm_80 rfl rfl rfl ?_
  refine ev_imul (pc' := 82) (v := 12) dX8_layForm_81 rfl (by decide) ?_
  refine ev_iload (pc' := 84) dX8_layForm_82 rfl rfl ?_
  refine ev_iadd (pc' := 85) (v := 14) dX8_layForm_84 rfl (by decide) ?_
  refine ev_iload (pc' := 87) dX8_layForm_85 rfl rfl ?_
  refine ev_if_eq (tgt := 105) (pc' := 90) dX8_layForm_87 rfl rfl (fun h => absurd h (by decide)) (fun _ => ?_)
  refine ev_aload_n (pc' := 91) (i := 0) dX8_layForm_90 rfl rfl rfl ?_
  refine ev_getR (pc' := 94) fo_X8_67 dX8_layForm_91 rfl hs_115 rfl rf_115_24 ?_
  refine ev_iconst (pc' := 95) (v := 4) dX8_layForm_94 rfl ki_4 ?_
  refine ev_iload_n (pc' := 96) (i := 3) dX8_layForm_95 rfl rfl rfl ?_
  refine ev_imul (pc' := 97) (v := 12) dX8_layForm_96 rfl (by decide) ?_
  refine ev_iload (pc' := 99) dX8_layForm_97 rfl rfl ?_
  refine ev_iadd (pc' := 100) (v := 14) dX8_layForm_99 rfl (by decide) ?_
  refine ev_iald (pc' := 101) (j := 14) (v := (I 133) 14) dX8_layForm_100 rfl hs_133 rfl (Nat.le_of_ble_eq_true rfl) (Nat.le_of_ble_eq_true rfl) rfl ?_
  refine ev_i2l (pc' := 102) (v := Int32.toInt64 ((I 133) 14)) dX8_layForm_101 rfl rfl ?_
  refine ev_goto (tgt := 117) dX8_layForm_102 rfl ?_
  refine ev_last (pc' := 118) (j := 14) (L' := (ma_up (ma_up L 132 (ma_up (ma_up (ma_up (ma_up (ma_up (L 132) 0 0) 1 ((0 + (mW (mSel 7 (I 133) (I 134)))) + (mW (mSel 11 (I 133) (I 134))))) 2 (((((0 + (mW (mSel 3 (I 133) (I 134)))) + (mW (mSel 5 (I 133) (I 134)))) + (mW (mSel 6 (I 133) (I 134)))) + (mW (mSel 9 (I 133) (I 134)))) + (mW (mSel 10 (I 133) (I 134))))) 3 ((((0 + (mW (mSel 1 (I 133) (I 134)))) + (mW (mSel 2 (I 133) (I 134)))) + (mW (mSel 4 (I 133) (I 134)))) + (mW (mSel 8 (I 133) (I 134))))) 4 (0 + (mW (mSel 0 (I 133) (I 134)))))) 120 (ma_up (ma_up (ma_up (ma_up (ma_up (ma_up (ma_up (ma_up (ma_up (ma_up (ma_up (ma_up (ma_up (ma_up (ma_up r12 0 (Int32.toInt64 ((I 134) 0))) 1 (Int32.toInt64 ((I 134) 1))) 2 (Int32.toInt64 ((I 134) 2))) 3 (Int32.toInt64 ((I 134) 3))) 4 (Int32.toInt64 ((I 134) 4))) 5 (Int32.toInt64 ((I 134) 5))) 6 (Int32.toInt64 ((I 134) 6))) 7 (Int32.toInt64 ((I 134) 7))) 8 (Int32.toInt64 ((I 133) 8))) 9 (Int32.toInt64 ((I 133) 9))) 10 (Int32.toInt64 ((I 133) 10))) 11 (Int32.toInt64 ((I 133) 11))) 12 (Int32.toInt64 ((I 133) 12))) 13 (Int32.toInt64 ((I 133) 13))) 14 (Int32.toInt64 ((I 133) 14))))) dX8_layForm_117 rfl hs_120 rfl (Nat.le_of_ble_eq_true rfl) (Nat.le_of_ble_eq_true rfl) (ma_up_up _ _ _ _) ?_
  refine ev_iinc (pc' := 121) (v := 3) (lv' := [some (.ref 115), some (.int 12), some (.int 2), some (.int 3), some (.int 1), some (.int 3)]) dX8_layForm_118 rfl rfl (by decide) (Nat.le_of_ble_eq_true rfl) rfl rfl ?_
  refine ev_goto (tgt := 69) dX8_layForm_121 rfl ?_
  refine ev_iload (pc' := 71) dX8_layForm_69 rfl rfl ?_
  refine ev_iconst (pc' := 72) (v := 4) dX8_layForm_71 rfl ki_4 ?_
  refine ev_icmp_ge (tgt := 124) (pc' := 75) dX8_layForm_72 rfl rfl (fun h => absurd h (by decide)) (fun _ => ?_)
  refine ev_aload_n (pc' := 76) (i := 0) dX8_layForm_75 rfl rfl rfl ?_
  refine ev_getR (pc' := 79) fo_X8_26 dX8_layForm_76 rfl hs_115 rfl rf_115_8 ?_
  refine ev_iconst (pc' := 80) (v := 4) dX8_layForm_79 rfl ki_4 ?_
  refine ev_iload_n (pc' := 81) (i := 3) dX8_layForm_80 rfl rfl rfl ?_
  refine ev_imul (pc' := 82) (v := 12) dX8_layForm_81 rfl (by decide) ?_
  refine ev_iload (pc' := 84) dX8_layForm_82 rfl rfl ?_
  refine ev_iadd (pc' := 85) (v := 15) dX8_layForm_84 rfl (by decide) ?_
  refine ev_iload (pc' := 87) dX8_layForm_85 rfl rfl ?_
  refine ev_if_eq (tgt := 105) (pc' := 90) dX8_layForm_87 rfl rfl (fun h => absurd h (by decide)) (fun _ => ?_)
  refine ev_aload_n (pc' := 91) (i := 0) dX8_layForm_90 rfl rfl rfl ?_
  refine ev_getR (pc' := 94) fo_X8_67 dX8_layForm_91 rfl hs_115 rfl rf_115_24 ?_
  refine ev_iconst (pc' := 95) (v := 4) dX8_layForm_94 rfl ki_4 ?_
  refine ev_iload_n (pc' := 96) (i := 3) dX8_layForm_95 rfl rfl rfl ?_
  refine ev_imul (pc' := 97) (v := 12) dX8_layForm_96 rfl (by decide) ?_
  refine ev_iload (pc' := 99) dX8_layForm_97 rfl rfl ?_
  refine ev_iadd (pc' := 100) (v := 15) dX8_layForm_99 rfl (by decide) ?_
  refine ev_iald (pc' := 101) (j := 15) (v := (I 133) 15) dX8_layForm_100 rfl hs_133 rfl (Nat.le_of_ble_eq_true rfl) (Nat.le_of_ble_eq_true rfl) rfl ?_
  refine ev_i2l (pc' := 102) (v := Int32.toInt64 ((I 133) 15)) dX8_layForm_101 rfl rfl ?_
  refine ev_goto (tgt := 117) dX8_layForm_102 rfl ?_
  refine ev_last (pc' := 118) (j := 15) (L' := (ma_up (ma_up L 132 (ma_up (ma_up (ma_up (ma_up (ma_up (L 132) 0 0) 1 ((0 + (mW (mSel 7 (I 133) (I 134)))) + (mW (mSel 11 (I 133) (I 134))))) 2 (((((0 + (mW (mSel 3 (I 133) (I 134)))) + (mW (mSel 5 (I 133) (I 134)))) + (mW (mSel 6 (I 133) (I 134)))) + (mW (mSel 9 (I 133) (I 134)))) + (mW (mSel 10 (I 133) (I 134))))) 3 ((((0 + (mW (mSel 1 (I 133) (I 134)))) + (mW (mSel 2 (I 133) (I 134)))) + (mW (mSel 4 (I 133) (I 134)))) + (mW (mSel 8 (I 133) (I 134))))) 4 (0 + (mW (mSel 0 (I 133) (I 134)))))) 120 (ma_up (ma_up (ma_up (ma_up (ma_up (ma_up (ma_up (ma_up (ma_up (ma_up (ma_up (ma_up (ma_up (ma_up (ma_up (ma_up r12 0 (Int32.toInt64 ((I 134) 0))) 1 (Int32.toInt64 ((I 134) 1))) 2 (Int32.toInt64 ((I 134) 2))) 3 (Int32.toInt64 ((I 134) 3))) 4 (Int32.toInt64 ((I 134) 4))) 5 (Int32.toInt64 ((I 134) 5))) 6 (Int32.toInt64 ((I 134) 6))) 7 (Int32.toInt64 ((I 134) 7))) 8 (Int32.toInt64 ((I 133) 8))) 9 (Int32.toInt64 ((I 133) 9))) 10 (Int32.toInt64 ((I 133) 10))) 11 (Int32.toInt64 ((I 133) 11))) 12 (Int32.toInt64 ((I 133) 12))) 13 (Int32.toInt64 ((I 133) 13))) 14 (Int32.toInt64 ((I 133) 14))) 15 (Int32.toInt64 ((I 133) 15))))) dX8_layForm_117 rfl hs_120 rfl (Nat.le_of_ble_eq_true rfl) (Nat.le_of_ble_eq_true rfl) (ma_up_up _ _ _ _) ?_
  refine ev_iinc (pc' := 121) (v := 4) (lv' := [some (.ref 115), some (.int 12), some (.int 2), some (.int 3), some (.int 1), some (.int 4)]) dX8_layForm_118 rfl rfl (by decide) (Nat.le_of_ble_eq_true rfl) rfl rfl ?_
  refine ev_goto (tgt := 69) dX8_layForm_121 rfl ?_
  refine ev_iload (pc' := 71) dX8_layForm_69 rfl rfl ?_
  refine ev_iconst (pc' := 72) (v := 4) dX8_layForm_71 rfl ki_4 ?_
  refine ev_icmp_ge (tgt := 124) (pc' := 75) dX8_layForm_72 rfl rfl (fun _ => ?_) (fun h => absurd (by decide) h)
  refine ev_iinc (pc' := 127) (v := 4) (lv' := [some (.ref 115), some (.int 12), some (.int 2), some (.int 4), some (.int 1), some (.int 4)]) dX8_layForm_124 rfl rfl (by decide) (Nat.le_of_ble_eq_true rfl) rfl rfl ?_
  refine ev_goto (tgt := 32) dX8_layForm_127 rfl ?_
  refine ev_iload_n (pc' := 33) (i := 3) dX8_layForm_32 rfl rfl rfl ?_
  refine ev_iconst (pc' := 34) (v := 4) dX8_layForm_33 rfl ki_4 ?_
  refine ev_icmp_ge (tgt := 130) (pc' := 37) dX8_layForm_34 rfl rfl (fun _ => ?_) (fun h => absurd (by decide) h)
  refine ev_aload_n (pc' := 131) (i := 0) dX8_layForm_130 rfl rfl rfl ?_
  refine ev_getR (pc' := 134) fo_X8_64 dX8_layForm_131 rfl hs_115 rfl rf_115_23 ?_
  refine ev_iconst (pc' := 135) (v := 4) dX8_layForm_134 rfl ki_4 ?_
  refine ev_iload_n (pc' := 136) (i := 2) dX8_layForm_135 rfl rfl rfl ?_
  refine ev_isub (pc' := 137) (v := 2) dX8_layForm_136 rfl (by decide) ?_
  refine ev_dup2 (pc' := 138) dX8_layForm_137 rfl rfl rfl ?_
  refine ev_lald (pc' := 139) (j := 2) (v := ((((0 + (mW (mSel 3 (I 133) (I 134)))) + (mW (mSel 5 (I 133) (I 134)))) + (mW (mSel 6 (I 133) (I 134)))) + (mW (mSel 9 (I 133) (I 134)))) + (mW (mSel 10 (I 133) (I 134)))) dX8_layForm_138 rfl hs_132 rfl (Nat.le_of_ble_eq_true rfl) (Nat.le_of_ble_eq_true rfl) rfl ?_
  refine ev_aload_n (pc' := 140) (i := 0) dX8_layForm_139 rfl rfl rfl ?_
  refine ev_getR (pc' := 143) fo_X8_26 dX8_layForm_140 rfl hs_115 rfl rf_115_8 ?_
  refine ev_callS (pc' := 146) (rm' := rX8_worthOf) (av := [.ref 120]) (rest := [.long (((((0 + (mW (mSel 3 (I 133) (I 134)))) + (mW (mSel 5 (I 133) (I 134)))) + (mW (mSel 6 (I 133) (I 134)))) + (mW (mSel 9 (I 133) (I 134)))) + (mW (mSel 10 (I 133) (I 134)))), .int 2, .ref 132]) co_X8_173 cs_X8_worthOf dX8_layForm_143 rfl rfl rfl (Nat.le_of_ble_eq_true rfl) ⟨(Nat.le_of_ble_eq_true rfl), (Nat.le_of_ble_eq_true rfl)⟩ ⟨(Nat.le_of_ble_eq_true rfl), (Nat.le_of_ble_eq_true rfl)⟩ ?_
  refine t_X8_worthOf 120 hs_120 ?_
  refine ev_eql (w := mW (mSel 12 (I 133) (I 134))) rfl ?_
  refine ev_ladd (pc' := 147) (v := (((((0 + (mW (mSel 3 (I 133) (I 134)))) + (mW (mSel 5 (I 133) (I 134)))) + (mW (mSel 6 (I 133) (I 134)))) + (mW (mSel 9 (I 133) (I 134)))) + (mW (mSel 10 (I 133) (I 134)))) + (mW (mSel 12 (I 133) (I 134)))) dX8_layForm_146 rfl rfl ?_
  refine ev_last (pc' := 148) (j := 2) (L' := (ma_up (ma_up L 132 (ma_up (ma_up (ma_up (ma_up (ma_up (L 132) 0 0) 1 ((0 + (mW (mSel 7 (I 133) (I 134)))) + (mW (mSel 11 (I 133) (I 134))))) 2 ((((((0 + (mW (mSel 3 (I 133) (I 134)))) + (mW (mSel 5 (I 133) (I 134)))) + (mW (mSel 6 (I 133) (I 134)))) + (mW (mSel 9 (I 133) (I 134)))) + (mW (mSel 10 (I 133) (I 134)))) + (mW (mSel 12 (I 133) (I 134))))) 3 ((((0 + (mW (mSel 1 (I 133) (I 134)))) + (mW (mSel 2 (I 133) (I 134)))) + (mW (mSel 4 (I 133) (I 134)))) + (mW (mSel 8 (I 133) (I 134))))) 4 (0 + (mW (mSel 0 (I 133) (I 134)))))) 120 (ma_up (ma_up (ma_up (ma_up (ma_up (ma_up (ma_up (ma_up (ma_up (ma_up (ma_up (ma_up (ma_up (ma_up (ma_up (ma_up r12 0 (Int32.toInt64 ((I 134) 0))) 1 (Int32.toInt64 ((I 134) 1))) 2 (Int32.toInt64 ((I 134) 2))) 3 (Int32.toInt64 ((I 134) 3))) 4 (Int32.toInt64 ((I 134) 4))) 5 (Int32.toInt64 ((I 134) 5))) 6 (Int32.toInt64 ((I 134) 6))) 7 (Int32.toInt64 ((I 134) 7))) 8 (Int32.toInt64 ((I 133) 8))) 9 (Int32.toInt64 ((I 133) 9))) 10 (Int32.toInt64 ((I 133) 10))) 11 (Int32.toInt64 ((I 133) 11))) 12 (Int32.toInt64 ((I 133) 12))) 13 (Int32.toInt64 ((I 133) 13))) 14 (Int32.toInt64 ((I 133) 14))) 15 (Int32.toInt64 ((I 133) 15))))) dX8_layForm_147 rfl hs_132 rfl (Nat.le_of_ble_eq_true rfl) (Nat.le_of_ble_eq_true rfl) ((congrArg (ma_up _ 132) ((ma_up_comm _ (show 2 ≠ 4 from (by decide)) _ _).trans (congrArg (fun f => ma_up f 4 _) ((ma_up_comm _ (show 2 ≠ 3 from (by decide)) _ _).trans (congrArg (fun f => ma_up f 3 _) (ma_up_up _ _ _ _)))))).trans ((ma_up_comm _ (show 132 ≠ 120 from (by decide)) _ _).trans (congrArg (fun f => ma_up f 120 _) (ma_up_up _ _ _ _)))) ?_
  refine ev_iinc (pc' := 151) (v := 13) (lv' := [some (.ref 115), some (.int 13), some (.int 2), some (.int 4), some (.int 1), some (.int 4)]) dX8_layForm_148 rfl rfl (by decide) (Nat.le_of_ble_eq_true rfl) rfl rfl ?_
  refine ev_goto (tgt := 22) dX8_layForm_151 rfl ?_
  refine ev_rowL (fun r13 => ?_)
  refine ev_iload_n (pc' := 23) (i := 1) dX8_layForm_22 rfl rfl rfl ?_
  refine ev_bipush (pc' := 25) (v := 16) dX8_layForm_23 rfl kb_16 ?_
  refine ev_icmp_ge (tgt := 154) (pc' := 28) dX8_layForm_25 rfl rfl (fun h => absurd h (by decide)) (fun _ => ?_)
  refine ev_iconst (pc' := 29) (v := 0) dX8_layForm_28 rfl ki_0 ?_
  refine ev_istore_n (pc' := 30) (i := 2) (lv' := [some (.ref 115), some (.int 13), some (.int 0), some (.int 4), some (.int 1), some (.int 4)]) dX8_layForm_29 rfl rfl (Nat.le_of_ble_eq_true rfl) rfl rfl ?_
  refine ev_iconst (pc' := 31) (v := 0) dX8_layForm_30 rfl ki_0 ?_
  refine ev_istore_n (pc' := 32) (i := 3) (lv' := [some (.ref 115), some (.int 13), some (.int 0), some (.int 0), some (.int 1), some (.int 4)]) dX8_layForm_31 rfl rfl (Nat.le_of_ble_eq_true rfl) rfl rfl ?_
  refine ev_iload_n (pc' := 33) (i := 3) dX8_layForm_32 rfl rfl rfl ?_
  refine ev_iconst (pc' := 34) (v := 4) dX8_layForm_33 rfl ki_4 ?_
  refine ev_icmp_ge (tgt := 130) (pc' := 37) dX8_layForm_34 rfl rfl (fun h => absurd h (by decide)) (fun _ => ?_)
  refine ev_iload_n (pc' := 38) (i := 1) dX8_layForm_37 rfl rfl rfl ?_
  refine ev_iload_n (pc' := 39) (i := 3) dX8_layForm_38 rfl rfl rfl ?_
  refine ev_ishr (pc' := 40) (v := 13) dX8_layForm_39 rfl (by decide) ?_
  refine ev_iconst (pc' := 41) (v := 1) dX8_layForm_40 rfl ki_1 ?_
  refine ev_iand (pc' := 42) (v := 1) dX8_layForm_41 rfl (by decide) ?_
  refine ev_iconst (pc' := 43) (v := 1) dX8_layForm_42 rfl ki_1 ?_
  refine ev_icmp_ne (tgt := 50) (pc' := 46) dX8_layForm_43 rfl rfl (fun h => absurd (by decide) h) (fun _ => ?_)
  refine ev_iconst (pc' := 47) (v := 1) dX8_layForm_46 rfl ki_1 ?_
  refine ev_goto (tgt := 51) dX8_layForm_47 rfl ?_
  refine ev_istore (pc' := 53) (lv' := [some (.ref 115), some (.int 13), some (.int 0), some (.int 0), some (.int 1), some (.int 4)]) dX8_layForm_51 rfl (Nat.le_of_ble_eq_true rfl) rfl rfl ?_
  refine ev_iload_n (pc' := 54) (i := 2) dX8_layForm_53 rfl rfl rfl ?_
  refine ev_iload (pc' := 56) dX8_layForm_54 rfl rfl ?_
  refine ev_if_eq (tgt := 63) (pc' := 59) dX8_layForm_56 rfl rfl (fun h => absurd h (by decide)) (fun _ => ?_)
  refine ev_iconst (pc' := 60) (v := 1) dX8_layForm_59 rfl ki_1 ?_
  refine ev_goto (tgt := 64) dX8_layForm_60 rfl ?_
  refine ev_iadd (pc' := 65) (v := 1) dX8_layForm_64 rfl (by decide) ?_
  refine ev_istore_n (pc' := 66) (i := 2) (lv' := [some (.ref 115), some (.int 13), some (.int 1), some (.int 0), some (.int 1), some (.int 4)]) dX8_layForm_65 rfl rfl (Nat.le_of_ble_eq_true rfl) rfl rfl ?_
  refine ev_iconst (pc' := 67) (v := 0) dX8_layForm_66 rfl ki_0 ?_
  refine ev_istore (pc' := 69) (lv' := [some (.ref 115), some (.int 13), some (.int 1), some (.int 0), some (.int 1), some (.int 0)]) dX8_layForm_67 rfl (Nat.le_of_ble_eq_true rfl) rfl rfl ?_
  refine ev_iload (pc' := 71) dX8_layForm_69 rfl rfl ?_
  refine ev_iconst (pc' := 72) (v := 4) dX8_layForm_71 rfl ki_4 ?_
  refine ev_icmp_ge (tgt := 124) (pc' := 75) dX8_layForm_72 rfl rfl (fun h => absurd h (by decide)) (fun _ => ?_)
  refine ev_aload_n (pc' := 76) (i := 0) dX8_layForm_75 rfl rfl rfl ?_
  refine ev_getR (pc' := 79) fo_X8_26 dX8_layForm_76 rfl hs_115 rfl rf_115_8 ?_
  refine ev_iconst (pc' := 80) (v := 4) dX8_layForm_79 rfl ki_4 ?_
  refine ev_iload_n (pc' := 81) (i := 3) dX8_layForm_80 rfl rfl rfl ?_
  refine ev_imul (pc' := 82) (v := 0) dX8_layForm_81 rfl (by decide) ?_
  refine ev_iload (pc' := 84) dX8_layForm_82 rfl rfl ?_
  refine ev_iadd (pc' := 85) (v := 0) dX8_layForm_84 rfl (by decide) ?_
  refine ev_iload (pc' := 87) dX8_layForm_85 rfl rfl ?_
  refine ev_if_eq (tgt := 105) (pc' := 90) dX8_layForm_87 rfl rfl (fun h => absurd h (by decide)) (fun _ => ?_)
  refine ev_aload_n (pc' := 91) (i := 0) dX8_layForm_90 rfl rfl rfl ?_
  refine ev_getR (pc' := 94) fo_X8_67 dX8_layForm_91 rfl hs_115 rfl rf_115_24 ?_
  refine ev_iconst (pc' := 95) (v := 4) dX8_layForm_94 rfl ki_4 ?_
  refine ev_iload_n (pc' := 96) (i := 3) dX8_layForm_95 rfl rfl rfl ?_
  refine ev_imul (pc' := 97) (v := 0) dX8_layForm_96 rfl (by decide) ?_
  refine ev_iload (pc' := 99) dX8_layForm_97 rfl rfl ?_
  refine ev_iadd (pc' := 100) (v := 0) dX8_layForm_99 rfl (by decide) ?_
  refine ev_iald (pc' := 101) (j := 0) (v := (I 133) 0) dX8_layForm_100 rfl hs_133 rfl (Nat.le_of_ble_eq_true rfl) (Nat.le_of_ble_eq_true rfl) rfl ?_
  refine ev_i2l (pc' := 102) (v := Int32.toInt64 ((I 133) 0)) dX8_layForm_101 rfl rfl ?_
  refine ev_goto (tgt := 117) dX8_layForm_102 rfl ?_
  refine ev_last (pc' := 118) (j := 0) (L' := (ma_up (ma_up L 132 (ma_up (ma_up (ma_up (ma_up (ma_up (L 132) 0 0) 1 ((0 + (mW (mSel 7 (I 133) (I 134)))) + (mW (mSel 11 (I 133) (I 134))))) 2 ((((((0 + (mW (mSel 3 (I 133) (I 134)))) + (mW (mSel 5 (I 133) (I 134)))) + (mW (mSel 6 (I 133) (I 134)))) + (mW (mSel 9 (I 133) (I 134)))) + (mW (mSel 10 (I 133) (I 134)))) + (mW (mSel 12 (I 133) (I 134))))) 3 ((((0 + (mW (mSel 1 (I 133) (I 134)))) + (mW (mSel 2 (I 133) (I 134)))) + (mW (mSel 4 (I 133) (I 134)))) + (mW (mSel 8 (I 133) (I 134))))) 4 (0 + (mW (mSel 0 (I 133) (I 134)))))) 120 (ma_up r13 0 (Int32.toInt64 ((I 133) 0))))) dX8_layForm_117 rfl hs_120 rfl (Nat.le_of_ble_eq_true rfl) (Nat.le_of_ble_eq_true rfl) (ma_up_up _ _ _ _) ?_
  refine ev_iinc (pc' := 121) (v := 1) (lv' := [some (.ref 115), some (.int 13), some (.int 1), some (.int 0), some (.int 1), some (.int 1)]) dX8_layForm_118 rfl rfl (by decide) (Nat.le_of_ble_eq_true rfl) rfl rfl ?_
  refine ev_goto (tgt := 69) dX8_layForm_121 rfl ?_
  refine ev_iload (pc' := 71) dX8_layForm_69 rfl rfl ?_
  refine ev_iconst (pc' := 72) (v := 4) dX8_layForm_71 rfl ki_4 ?_
  refine ev_icmp_ge (tgt := 124) (pc' := 75) dX8_layForm_72 rfl rfl (fun h => absurd h (by decide)) (fun _ => ?_)
  refine ev_aload_n (pc' := 76) (i := 0) dX8_layForm_75 rfl rfl rfl ?_
  refine ev_getR (pc' := 79) fo_X8_26 dX8_layForm_76 rfl hs_115 rfl rf_115_8 ?_
  refine ev_iconst (pc' := 80) (v := 4) dX8_layForm_79 rfl ki_4 ?_
  refine ev_iload_n (pc' := 81) (i := 3) dX8_layForm_80 rfl rfl rfl ?_
  refine ev_imul (pc' := 82) (v := 0) dX8_layForm_81 rfl (by decide) ?_
  refine ev_iload (pc' := 84) dX8_layForm_82 rfl rfl ?_
  refine ev_iadd (pc' := 85) (v := 1) dX8_layForm_84 rfl (by decide) ?_
  refine ev_iload (pc' := 87) dX8_layForm_85 rfl rfl ?_
  refine ev_if_eq (tgt := 105) (pc' := 90) dX8_layForm_87 rfl rfl (fun h => absurd h (by decide)) (fun _ => ?_)
  refine ev_aload_n (pc' := 91) (i := 0) dX8_layForm_90 rfl rfl rfl ?_
  refine ev_getR (pc' := 94) fo_X8_67 dX8_layForm_91 rfl hs_115 rfl rf_115_24 ?_
  refine ev_iconst (pc' := 95) (v := 4) dX8_layForm_94 rfl ki_4 ?_
  refine ev_iload_n (pc' := 96) (i := 3) dX8_layForm_95 rfl rfl rfl ?_
  refine ev_imul (pc' := 97) (v := 0) dX8_layForm_96 rfl (by decide) ?_
  refine ev_iload (pc' := 99) dX8_layForm_97 rfl rfl ?_
  refine ev_iadd (pc' := 100) (v := 1) dX8_layForm_99 rfl (by decide) ?_
  refine ev_iald (pc' := 101) (j := 1) (v := (I 133) 1) dX8_layForm_100 rfl hs_133 rfl (Nat.le_of_ble_eq_true rfl) (Nat.le_of_ble_eq_true rfl) rfl ?_
  refine ev_i2l (pc' := 102) (v := Int32.toInt64 ((I 133) 1)) dX8_layForm_101 rfl rfl ?_
  refine ev_goto (tgt := 117) dX8_layForm_102 rfl ?_
  refine ev_last (pc' := 118) (j := 1) (L' := (ma_up (ma_up L 132 (ma_up (ma_up (ma_up (ma_up (ma_up (L 132) 0 0) 1 ((0 + (mW (mSel 7 (I 133) (I 134)))) + (mW (mSel 11 (I 133) (I 134))))) 2 ((((((0 + (mW (mSel 3 (I 133) (I 134)))) + (mW (mSel 5 (I 133) (I 134)))) + (mW (mSel 6 (I 133) (I 134)))) + (mW (mSel 9 (I 133) (I 134)))) + (mW (mSel 10 (I 133) (I 134)))) + (mW (mSel 12 (I 133) (I 134))))) 3 ((((0 + (mW (mSel 1 (I 133) (I 134)))) + (mW (mSel 2 (I 133) (I 134)))) + (mW (mSel 4 (I 133) (I 134)))) + (mW (mSel 8 (I 133) (I 134))))) 4 (0 + (mW (mSel 0 (I 133) (I 134)))))) 120 (ma_up (ma_up r13 0 (Int32.toInt64 ((I 133) 0))) 1 (Int32.toInt64 ((I 133) 1))))) dX8_layForm_117 rfl hs_120 rfl (Nat.le_of_ble_eq_true rfl) (Nat.le_of_ble_eq_true rfl) (ma_up_up _ _ _ _) ?_
  refine ev_iinc (pc' := 121) (v := 2) (lv' := [some (.ref 115), some (.int 13), some (.int 1), some (.int 0), some (.int 1), some (.int 2)]) dX8_layForm_118 rfl rfl (by decide) (Nat.le_of_ble_eq_true rfl) rfl rfl ?_
  refine ev_goto (tgt := 69) dX8_layForm_121 rfl ?_
  refine ev_iload (pc' := 71) dX8_layForm_69 rfl rfl ?_
  refine ev_iconst (pc' := 72) (v := 4) dX8_layForm_71 rfl ki_4 ?_
  refine ev_icmp_ge (tgt := 124) (pc' := 75) dX8_layForm_72 rfl rfl (fun h => absurd h (by decide)) (fun _ => ?_)
  refine ev_aload_n (pc' := 76) (i := 0) dX8_layForm_75 rfl rfl rfl ?_
  refine ev_getR (pc' := 79) fo_X8_26 dX8_layForm_76 rfl hs_115 rfl rf_115_8 ?_
  refine ev_iconst (pc' := 80) (v := 4) dX8_layForm_79 rfl ki_4 ?_
  refine ev_iload_n (pc' := 81) (i := 3) dX8_layForm_80 rfl rfl rfl ?_
  refine ev_imul (pc' := 82) (v := 0) dX8_layForm_81 rfl (by decide) ?_
  refine ev_iload (pc' := 84) dX8_layForm_82 rfl rfl ?_
  refine ev_iadd (pc' := 85) (v := 2) dX8_layForm_84 rfl (by decide) ?_
  refine ev_iload (pc' := 87) dX8_layForm_85 rfl rfl ?_
  refine ev_if_eq (tgt := 105) (pc' := 90) dX8_layForm_87 rfl rfl (fun h => absurd h (by decide)) (fun _ => ?_)
  refine ev_aload_n (pc' := 91) (i := 0) dX8_layForm_90 rfl rfl rfl ?_
  refine ev_getR (pc' := 94) fo_X8_67 dX8_layForm_91 rfl hs_115 rfl rf_115_24 ?_
  refine ev_iconst (pc' := 95) (v := 4) dX8_layForm_94 rfl ki_4 ?_
  refine ev_iload_n (pc' := 96) (i := 3) dX8_layForm_95 rfl rfl rfl ?_
  refine ev_imul (pc' := 97) (v := 0) dX8_layForm_96 rfl (by decide) ?_
  refine ev_iload (pc' := 99) dX8_layForm_97 rfl rfl ?_
  refine ev_iadd (pc' := 100) (v := 2) dX8_layForm_99 rfl (by decide) ?_
  refine ev_iald (pc' := 101) (j := 2) (v := (I 133) 2) dX8_layForm_100 rfl hs_133 rfl (Nat.le_of_ble_eq_true rfl) (Nat.le_of_ble_eq_true rfl) rfl ?_
  refine ev_i2l (pc' := 102) (v := Int32.toInt64 ((I 133) 2)) dX8_layForm_101 rfl rfl ?_
  refine ev_goto (tgt := 117) dX8_layForm_102 rfl ?_
  refine ev_last (pc' := 118) (j := 2) (L' := (ma_up (ma_up L 132 (ma_up (ma_up (ma_up (ma_up (ma_up (L 132) 0 0) 1 ((0 + (mW (mSel 7 (I 133) (I 134)))) + (mW (mSel 11 (I 133) (I 134))))) 2 ((((((0 + (mW (mSel 3 (I 133) (I 134)))) + (mW (mSel 5 (I 133) (I 134)))) + (mW (mSel 6 (I 133) (I 134)))) + (mW (mSel 9 (I 133) (I 134)))) + (mW (mSel 10 (I 133) (I 134)))) + (mW (mSel 12 (I 133) (I 134))))) 3 ((((0 + (mW (mSel 1 (I 133) (I 134)))) + (mW (mSel 2 (I 133) (I 134)))) + (mW (mSel 4 (I 133) (I 134)))) + (mW (mSel 8 (I 133) (I 134))))) 4 (0 + (mW (mSel 0 (I 133) (I 134)))))) 120 (ma_up (ma_up (ma_up r13 0 (Int32.toInt64 ((I 133) 0))) 1 (Int32.toInt64 ((I 133) 1))) 2 (Int32.toInt64 ((I 133) 2))))) dX8_layForm_117 rfl hs_120 rfl (Nat.le_of_ble_eq_true rfl) (Nat.le_of_ble_eq_true rfl) (ma_up_up _ _ _ _) ?_
  refine ev_iinc (pc' := 121) (v := 3) (lv' := [some (.ref 115), some (.int 13), some (.int 1), some (.int 0), some (.int 1), some (.int 3)]) dX8_layForm_118 rfl rfl (by decide) (Nat.le_of_ble_eq_true rfl) rfl rfl ?_
  refine ev_goto (tgt := 69) dX8_layForm_121 rfl ?_
  refine ev_iload (pc' := 71) dX8_layForm_69 rfl rfl ?_
  refine ev_iconst (pc' := 72) (v := 4) dX8_layForm_71 rfl ki_4 ?_
  refine ev_icmp_ge (tgt := 124) (pc' := 75) dX8_layForm_72 rfl rfl (fun h => absurd h (by decide)) (fun _ => ?_)
  refine ev_aload_n (pc' := 76) (i := 0) dX8_layForm_75 rfl rfl rfl ?_
  refine ev_getR (pc' := 79) fo_X8_26 dX8_layForm_76 rfl hs_115 rfl rf_115_8 ?_
  refine ev_iconst (pc' := 80) (v := 4) dX8_layForm_79 rfl ki_4 ?_
  refine ev_iload_n (pc' := 81) (i := 3) dX8_layForm_80 rfl rfl rfl ?_
  refine ev_imul (pc' := 82) (v := 0) dX8_layForm_81 rfl (by decide) ?_
  refine ev_iload (pc' := 84) dX8_layForm_82 rfl rfl ?_
  refine ev_iadd (pc' := 85) (v := 3) dX8_layForm_84 rfl (by decide) ?_
  refine ev_iload (pc' := 87) dX8_layForm_85 rfl rfl ?_
  refine ev_if_eq (tgt := 105) (pc' := 90) dX8_layForm_87 rfl rfl (fun h => absurd h (by decide)) (fun _ => ?_)
  refine ev_aload_n (pc' := 91) (i := 0) dX8_layForm_90 rfl rfl rfl ?_
  refine ev_getR (pc' := 94) fo_X8_67 dX8_layForm_91 rfl hs_115 rfl rf_115_24 ?_
  refine ev_iconst (pc' := 95) (v := 4) dX8_layForm_94 rfl ki_4 ?_
  refine ev_iload_n (pc' := 96) (i := 3) dX8_layForm_95 rfl rfl rfl ?_
  refine ev_imul (pc' := 97) (v := 0) dX8_layForm_96 rfl (by decide) ?_
  refine ev_iload (pc' := 99) dX8_layForm_97 rfl rfl ?_
  refine ev_iadd (pc' := 100) (v := 3) dX8_layForm_99 rfl (by decide) ?_
  refine ev_iald (pc' := 101) (j := 3) (v := (I 133) 3) dX8_layForm_100 rfl hs_133 rfl (Nat.le_of_ble_eq_true rfl) (Nat.le_of_ble_eq_true rfl) rfl ?_
  refine ev_i2l (pc' := 102) (v := Int32.toInt64 ((I 133) 3)) dX8_layForm_101 rfl rfl ?_
  refine ev_goto (tgt := 117) dX8_layForm_102 rfl ?_
  refine ev_last (pc' := 118) (j := 3) (L' := (ma_up (ma_up L 132 (ma_up (ma_up (ma_up (ma_up (ma_up (L 132) 0 0) 1 ((0 + (mW (mSel 7 (I 133) (I 134)))) + (mW (mSel 11 (I 133) (I 134))))) 2 ((((((0 + (mW (mSel 3 (I 133) (I 134)))) + (mW (mSel 5 (I 133) (I 134)))) + (mW (mSel 6 (I 133) (I 134)))) + (mW (mSel 9 (I 133) (I 134)))) + (mW (mSel 10 (I 133) (I 134)))) + (mW (mSel 12 (I 133) (I 134))))) 3 ((((0 + (mW (mSel 1 (I 133) (I 134)))) + (mW (mSel 2 (I 133) (I 134)))) + (mW (mSel 4 (I 133) (I 134)))) + (mW (mSel 8 (I 133) (I 134))))) 4 (0 + (mW (mSel 0 (I 133) (I 134)))))) 120 (ma_up (ma_up (ma_up (ma_up r13 0 (Int32.toInt64 ((I 133) 0))) 1 (Int32.toInt64 ((I 133) 1))) 2 (Int32.toInt64 ((I 133) 2))) 3 (Int32.toInt64 ((I 133) 3))))) dX8_layForm_117 rfl hs_120 rfl (Nat.le_of_ble_eq_true rfl) (Nat.le_of_ble_eq_true rfl) (ma_up_up _ _ _ _) ?_
  refine ev_iinc (pc' := 121) (v := 4) (lv' := [some (.ref 115), some (.int 13), some (.int 1), some (.int 0), some (.int 1), some (.int 4)]) dX8_layForm_118 rfl rfl (by decide) (Nat.le_of_ble_eq_true rfl) rfl rfl ?_
  refine ev_goto (tgt := 69) dX8_layForm_121 rfl ?_
  refine ev_iload (pc' := 71) dX8_layForm_69 rfl rfl ?_
  refine ev_iconst (pc' := 72) (v := 4) dX8_layForm_71 rfl ki_4 ?_
  refine ev_icmp_ge (tgt := 124) (pc' := 75) dX8_layForm_72 rfl rfl (fun _ => ?_) (fun h => absurd (by decide) h)
  refine ev_iinc (pc' := 127) (v := 1) (lv' := [some (.ref 115), some (.int 13), some (.int 1), some (.int 1), some (.int 1), some (.int 4)]) dX8_layForm_124 rfl rfl (by decide) (Nat.le_of_ble_eq_true rfl) rfl rfl ?_
  refine ev_goto (tgt := 32) dX8_layForm_127 rfl ?_
  refine ev_iload_n (pc' := 33) (i := 3) dX8_layForm_32 rfl rfl rfl ?_
  refine ev_iconst (pc' := 34) (v := 4) dX8_layForm_33 rfl ki_4 ?_
  refine ev_icmp_ge (tgt := 130) (pc' := 37) dX8_layForm_34 rfl rfl (fun h => absurd h (by decide)) (fun _ => ?_)
  refine ev_iload_n (pc' := 38) (i := 1) dX8_layForm_37 rfl rfl rfl ?_
  refine ev_iload_n (pc' := 39) (i := 3) dX8_layForm_38 rfl rfl rfl ?_
  refine ev_ishr (pc' := 40) (v := 6) dX8_layForm_39 rfl (by decide) ?_
  refine ev_iconst (pc' := 41) (v := 1) dX8_layForm_40 rfl ki_1 ?_
  refine ev_iand (pc' := 42) (v := 0) dX8_layForm_41 rfl (by decide) ?_
  refine ev_iconst (pc' := 43) (v := 1) dX8_layForm_42 rfl ki_1 ?_
  refine ev_icmp_ne (tgt := 50) (pc' := 46) dX8_layForm_43 rfl rfl (fun _ => ?_) (fun h => absurd h (by decide))
  refine ev_iconst (pc' := 51) (v := 0) dX8_layForm_50 rfl ki_0 ?_
  refine ev_istore (pc' := 53) (lv' := [some (.ref 115), some (.int 13), some (.int 1), some (.int 1), some (.int 0), some (.int 4)]) dX8_layForm_51 rfl (Nat.le_of_ble_eq_true rfl) rfl rfl ?_
  refine ev_iload_n (pc' := 54) (i := 2) dX8_layForm_53 rfl rfl rfl ?_
  refine ev_iload (pc' := 56) dX8_layForm_54 rfl rfl ?_
  refine ev_if_eq (tgt := 63) (pc' := 59) dX8_layForm_56 rfl rfl (fun _ => ?_) (fun h => absurd (by decide) h)
  refine ev_iconst (pc' := 64) (v := 0) dX8_layForm_63 rfl ki_0 ?_
  refine ev_iadd (pc' := 65) (v := 1) dX8_layForm_64 rfl (by decide) ?_
  refine ev_istore_n (pc' := 66) (i := 2) (lv' := [some (.ref 115), some (.int 13), some (.int 1), some (.int 1), some (.int 0), some (.int 4)]) dX8_layForm_65 rfl rfl (Nat.le_of_ble_eq_true rfl) rfl rfl ?_
  refine ev_iconst (pc' := 67) (v := 0) dX8_layForm_66 rfl ki_0 ?_
  refine ev_istore (pc' := 69) (lv' := [some (.ref 115), some (.int 13), some (.int 1), some (.int 1), some (.int 0), some (.int 0)]) dX8_layForm_67 rfl (Nat.le_of_ble_eq_true rfl) rfl rfl ?_
  refine ev_iload (pc' := 71) dX8_layForm_69 rfl rfl ?_
  refine ev_iconst (pc' := 72) (v := 4) dX8_layForm_71 rfl ki_4 ?_
  refine ev_icmp_ge (tgt := 124) (pc' := 75) dX8_layForm_72 rfl rfl (fun h => absurd h (by decide)) (fun _ => ?_)
  refine ev_aload_n (pc' := 76) (i := 0) dX8_layForm_75 rfl rfl rfl ?_
  refine ev_getR (pc' := 79) fo_X8_26 dX8_layForm_76 rfl hs_115 rfl rf_115_8 ?_
  refine ev_iconst (pc' := 80) (v := 4) dX8_layForm_79 rfl ki_4 ?_
  refine ev_iload_n (pc' := 81) (i := 3) dX8_layForm_80 rfl rfl rfl ?_
  refine ev_imul (pc' := 82) (v := 4) dX8_layForm_81 rfl (by decide) ?_
  refine ev_iload (pc' := 84) dX8_layForm_82 rfl rfl ?_
  refine ev_iadd (pc' := 85) (v := 4) dX8_layForm_84 rfl (by decide) ?_
  refine ev_iload (pc' := 87) dX8_layForm_85 rfl rfl ?_
  refine ev_if_eq (tgt := 105) (pc' := 90) dX8_layForm_87 rfl rfl (fun _ => ?_) (fun h => absurd (by decide) h)
  refine ev_aload_n (pc' := 106) (i := 0) dX8_layForm_105 rfl rfl rfl ?_
  refine ev_getR (pc' := 109) fo_X8_70 dX8_layForm_106 rfl hs_115 rfl rf_115_25 ?_
  refine ev_iconst (pc' := 110) (v := 4) dX8_layForm_109 rfl ki_4 ?_
  refine ev_iload_n (pc' := 111) (i := 3) dX8_layForm_110 rfl rfl rfl ?_
  refine ev_imul (pc' := 112) (v := 4) dX8_layForm_111 rfl (by decide) ?_
  refine ev_iload (pc' := 114) dX8_layForm_112 rfl rfl ?_
  refine ev_iadd (pc' := 115) (v := 4) dX8_layForm_114 rfl (by decide) ?_
  refine ev_iald (pc' := 116) (j := 4) (v := (I 134) 4) dX8_layForm_115 rfl hs_134 rfl (Nat.le_of_ble_eq_true rfl) (Nat.le_of_ble_eq_true rfl) rfl ?_
  refine ev_i2l (pc' := 117) (v := Int32.toInt64 ((I 134) 4)) dX8_layForm_116 rfl rfl ?_
  refine ev_last (pc' := 118) (j := 4) (L' := (ma_up (ma_up L 132 (ma_up (ma_up (ma_up (ma_up (ma_up (L 132) 0 0) 1 ((0 + (mW (mSel 7 (I 133) (I 134)))) + (mW (mSel 11 (I 133) (I 134))))) 2 ((((((0 + (mW (mSel 3 (I 133) (I 134)))) + (mW (mSel 5 (I 133) (I 134)))) + (mW (mSel 6 (I 133) (I 134)))) + (mW (mSel 9 (I 133) (I 134)))) + (mW (mSel 10 (I 133) (I 134)))) + (mW (mSel 12 (I 133) (I 134))))) 3 ((((0 + (mW (mSel 1 (I 133) (I 134)))) + (mW (mSel 2 (I 133) (I 134)))) + (mW (mSel 4 (I 133) (I 134)))) + (mW (mSel 8 (I 133) (I 134))))) 4 (0 + (mW (mSel 0 (I 133) (I 134)))))) 120 (ma_up (ma_up (ma_up (ma_up (ma_up r13 0 (Int32.toInt64 ((I 133) 0))) 1 (Int32.toInt64 ((I 133) 1))) 2 (Int32.toInt64 ((I 133) 2))) 3 (Int32.toInt64 ((I 133) 3))) 4 (Int32.toInt64 ((I 134) 4))))) dX8_layForm_117 rfl hs_120 rfl (Nat.le_of_ble_eq_true rfl) (Nat.le_of_ble_eq_true rfl) (ma_up_up _ _ _ _) ?_
  refine ev_iinc (pc' := 121) (v := 1) (lv' := [some (.ref 115), some (.int 13), some (.int 1), some (.int 1), some (.int 0), some (.int 1)]) dX8_layForm_118 rfl rfl (by decide) (Nat.le_of_ble_eq_true rfl) rfl rfl ?_
  refine ev_goto (tgt := 69) dX8_layForm_121 rfl ?_
  refine ev_iload (pc' := 71) dX8_layForm_69 rfl rfl ?_
  refine ev_iconst (pc' := 72) (v := 4) dX8_layForm_71 rfl ki_4 ?_
  refine ev_icmp_ge (tgt := 124) (pc' := 75) dX8_layForm_72 rfl rfl (fun h => absurd h (by decide)) (fun _ => ?_)
  refine ev_aload_n (pc' := 76) (i := 0) dX8_layForm_75 rfl rfl rfl ?_
  refine ev_getR (pc' := 79) fo_X8_26 dX8_layForm_76 rfl hs_115 rfl rf_115_8 ?_
  refine ev_iconst (pc' := 80) (v := 4) dX8_layForm_79 rfl ki_4 ?_
  refine ev_iload_n (pc' := 81) (i := 3) dX8_layForm_80 rfl rfl rfl ?_
  refine ev_imul (pc' := 82) (v := 4) dX8_layForm_81 rfl (by decide) ?_
  refine ev_iload (pc' := 84) dX8_layForm_82 rfl rfl ?_
  refine ev_iadd (pc' := 85) (v := 5) dX8_layForm_84 rfl (by decide) ?_
  refine ev_iload (pc' := 87) dX8_layForm_85 rfl rfl ?_
  refine ev_if_eq (tgt := 105) (pc' := 90) dX8_layForm_87 rfl rfl (fun _ => ?_) (fun h => absurd (by decide) h)
  refine ev_aload_n (pc' := 106) (i := 0) dX8_layForm_105 rfl rfl rfl ?_
  refine ev_getR (pc' := 109) fo_X8_70 dX8_layForm_106 rfl hs_115 rfl rf_115_25 ?_
  refine ev_iconst (pc' := 110) (v := 4) dX8_layForm_109 rfl ki_4 ?_
  refine ev_iload_n (pc' := 111) (i := 3) dX8_layForm_110 rfl rfl rfl ?_
  refine ev_imul (pc' := 112) (v := 4) dX8_layForm_111 rfl (by decide) ?_
  refine ev_iload (pc' := 114) dX8_layForm_112 rfl rfl ?_
  refine ev_iadd (pc' := 115) (v := 5) dX8_layForm_114 rfl (by decide) ?_
  refine ev_iald (pc' := 116) (j := 5) (v := (I 134) 5) dX8_layForm_115 rfl hs_134 rfl (Nat.le_of_ble_eq_true rfl) (Nat.le_of_ble_eq_true rfl) rfl ?_
  refine ev_i2l (pc' := 117) (v := Int32.toInt64 ((I 134) 5)) dX8_layForm_116 rfl rfl ?_
  refine ev_last (pc' := 118) (j := 5) (L' := (ma_up (ma_up L 132 (ma_up (ma_up (ma_up (ma_up (ma_up (L 132) 0 0) 1 ((0 + (mW (mSel 7 (I 133) (I 134)))) + (mW (mSel 11 (I 133) (I 134))))) 2 ((((((0 + (mW (mSel 3 (I 133) (I 134)))) + (mW (mSel 5 (I 133) (I 134)))) + (mW (mSel 6 (I 133) (I 134)))) + (mW (mSel 9 (I 133) (I 134)))) + (mW (mSel 10 (I 133) (I 134)))) + (mW (mSel 12 (I 133) (I 134))))) 3 ((((0 + (mW (mSel 1 (I 133) (I 134)))) + (mW (mSel 2 (I 133) (I 134)))) + (mW (mSel 4 (I 133) (I 134)))) + (mW (mSel 8 (I 133) (I 134))))) 4 (0 + (mW (mSel 0 (I 133) (I 134)))))) 120 (ma_up (ma_up (ma_up (ma_up (ma_up (ma_up r13 0 (Int32.toInt64 ((I 133) 0))) 1 (Int32.toInt64 ((I 133) 1))) 2 (Int32.toInt64 ((I 133) 2))) 3 (Int32.toInt64 ((I 133) 3))) 4 (Int32.toInt64 ((I 134) 4))) 5 (Int32.toInt64 ((I 134) 5))))) dX8_layForm_117 rfl hs_120 rfl (Nat.le_of_ble_eq_true rfl) (Nat.le_of_ble_eq_true rfl) (ma_up_up _ _ _ _) ?_
  refine ev_iinc (pc' := 121) (v := 2) (lv' := [some (.ref 115), some (.int 13), some (.int 1), some (.int 1), some (.int 0), some (.int 2)]) dX8_layForm_118 rfl rfl (by decide) (Nat.le_of_ble_eq_true rfl) rfl rfl ?_
  refine ev_goto (tgt := 69) dX8_layForm_121 rfl ?_
  refine ev_iload (pc' := 71) dX8_layForm_69 rfl rfl ?_
  refine ev_iconst (pc' := 72) (v := 4) dX8_layForm_71 rfl ki_4 ?_
  refine ev_icmp_ge (tgt := 124) (pc' := 75) dX8_layForm_72 rfl rfl (fun h => absurd h (by decide)) (fun _ => ?_)
  refine ev_aload_n (pc' := 76) (i := 0) dX8_layForm_75 rfl rfl rfl ?_
  refine ev_getR (pc' := 79) fo_X8_26 dX8_layForm_76 rfl hs_115 rfl rf_115_8 ?_
  refine ev_iconst (pc' := 80) (v := 4) dX8_layForm_79 rfl ki_4 ?_
  refine ev_iload_n (pc' := 81) (i := 3) dX8_layForm_80 rfl rfl rfl ?_
  refine ev_imul (pc' := 82) (v := 4) dX8_layForm_81 rfl (by decide) ?_
  refine ev_iload (pc' := 84) dX8_layForm_82 rfl rfl ?_
  refine ev_iadd (pc' := 85) (v := 6) dX8_layForm_84 rfl (by decide) ?_
  refine ev_iload (pc' := 87) dX8_layForm_85 rfl rfl ?_
  refine ev_if_eq (tgt := 105) (pc' := 90) dX8_layForm_87 rfl rfl (fun _ => ?_) (fun h => absurd (by decide) h)
  refine ev_aload_n (pc' := 106) (i := 0) dX8_layForm_105 rfl rfl rfl ?_
  refine ev_getR (pc' := 109) fo_X8_70 dX8_layForm_106 rfl hs_115 rfl rf_115_25 ?_
  refine ev_iconst (pc' := 110) (v := 4) dX8_layForm_109 rfl ki_4 ?_
  refine ev_iload_n (pc' := 111) (i := 3) dX8_layForm_110 rfl rfl rfl ?_
  refine ev_imul (pc' := 112) (v := 4) dX8_layForm_111 rfl (by decide) ?_
  refine ev_iload (pc' := 114) dX8_layForm_112 rfl rfl ?_
  refine ev_iadd (pc' := 115) (v := 6) dX8_layForm_114 rfl (by decide) ?_
  refine ev_iald (pc' := 116) (j := 6) (v := (I 134) 6) dX8_layForm_115 rfl hs_134 rfl (Nat.le_of_ble_eq_true rfl) (Nat.le_of_ble_eq_true rfl) rfl ?_
  refine ev_i2l (pc' := 117) (v := Int32.toInt64 ((I 134) 6)) dX8_layForm_116 rfl rfl ?_
  refine ev_last (pc' := 118) (j := 6) (L' := (ma_up (ma_up L 132 (ma_up (ma_up (ma_up (ma_up (ma_up (L 132) 0 0) 1 ((0 + (mW (mSel 7 (I 133) (I 134)))) + (mW (mSel 11 (I 133) (I 134))))) 2 ((((((0 + (mW (mSel 3 (I 133) (I 134)))) + (mW (mSel 5 (I 133) (I 134)))) + (mW (mSel 6 (I 133) (I 134)))) + (mW (mSel 9 (I 133) (I 134)))) + (mW (mSel 10 (I 133) (I 134)))) + (mW (mSel 12 (I 133) (I 134))))) 3 ((((0 + (mW (mSel 1 (I 133) (I 134)))) + (mW (mSel 2 (I 133) (I 134)))) + (mW (mSel 4 (I 133) (I 134)))) + (mW (mSel 8 (I 133) (I 134))))) 4 (0 + (mW (mSel 0 (I 133) (I 134)))))) 120 (ma_up (ma_up (ma_up (ma_up (ma_up (ma_up (ma_up r13 0 (Int32.toInt64 ((I 133) 0))) 1 (Int32.toInt64 ((I 133) 1))) 2 (Int32.toInt64 ((I 133) 2))) 3 (Int32.toInt64 ((I 133) 3))) 4 (Int32.toInt64 ((I 134) 4))) 5 (Int32.toInt64 ((I 134) 5))) 6 (Int32.toInt64 ((I 134) 6))))) dX8_layForm_117 rfl hs_120 rfl (Nat.le_of_ble_eq_true rfl) (Nat.le_of_ble_eq_true rfl) (ma_up_up _ _ _ _) ?_
  refine ev_iinc (pc' := 121) (v := 3) (lv' := [some (.ref 115), some (.int 13), some (.int 1), some (.int 1), some (.int 0), some (.int 3)]) dX8_layForm_118 rfl rfl (by decide) (Nat.le_of_ble_eq_true rfl) rfl rfl ?_
  refine ev_goto (tgt := 69) dX8_layForm_121 rfl ?_
  refine ev_iload (pc' := 71) dX8_layForm_69 rfl rfl ?_
  refine ev_iconst (pc' := 72) (v := 4) dX8_layForm_71 rfl ki_4 ?_
  refine ev_icmp_ge (tgt := 124) (pc' := 75) dX8_layForm_72 rfl rfl (fun h => absurd h (by decide)) (fun _ => ?_)
  refine ev_aload_n (pc' := 76) (i := 0) dX8_layForm_75 rfl rfl rfl ?_
  refine ev_getR (pc' := 79) fo_X8_26 dX8_layForm_76 rfl hs_115 rfl rf_115_8 ?_
  refine ev_iconst (pc' := 80) (v := 4) dX8_layForm_79 rfl ki_4 ?_
  refine ev_iload_n (pc' := 81) (i := 3) dX8_layForm_80 rfl rfl rfl ?_
  refine ev_imul (pc' := 82) (v := 4) dX8_layForm_81 rfl (by decide) ?_
  refine ev_iload (pc' := 84) dX8_layForm_82 rfl rfl ?_
  refine ev_iadd (pc' := 85) (v := 7) dX8_layForm_84 rfl (by decide) ?_
  refine ev_iload (pc' := 87) dX8_layForm_85 rfl rfl ?_
  refine ev_if_eq (tgt := 105) (pc' := 90) dX8_layForm_87 rfl rfl (fun _ => ?_) (fun h => absurd (by decide) h)
  refine ev_aload_n (pc' := 106) (i := 0) dX8_layForm_105 rfl rfl rfl ?_
  refine ev_getR (pc' := 109) fo_X8_70 dX8_layForm_106 rfl hs_115 rfl rf_115_25 ?_
  refine ev_iconst (pc' := 110) (v := 4) dX8_layForm_109 rfl ki_4 ?_
  refine ev_iload_n (pc' := 111) (i := 3) dX8_layForm_110 rfl rfl rfl ?_
  refine ev_imul (pc' := 112) (v := 4) dX8_layForm_111 rfl (by decide) ?_
  refine ev_iload (pc' := 114) dX8_layForm_112 rfl rfl ?_
  refine ev_iadd (pc' := 115) (v := 7) dX8_layForm_114 rfl (by decide) ?_
  refine ev_iald (pc' := 116) (j := 7) (v := (I 134) 7) dX8_layForm_115 rfl hs_134 rfl (Nat.le_of_ble_eq_true rfl) (Nat.le_of_ble_eq_true rfl) rfl ?_
  refine ev_i2l (pc' := 117) (v := Int32.toInt64 ((I 134) 7)) dX8_layForm_116 rfl rfl ?_
  refine ev_last (pc' := 118) (j := 7) (L' := (ma_up (ma_up L 132 (ma_up (ma_up (ma_up (ma_up (ma_up (L 132) 0 0) 1 ((0 + (mW (mSel 7 (I 133) (I 134)))) + (mW (mSel 11 (I 133) (I 134))))) 2 ((((((0 + (mW (mSel 3 (I 133) (I 134)))) + (mW (mSel 5 (I 133) (I 134)))) + (mW (mSel 6 (I 133) (I 134)))) + (mW (mSel 9 (I 133) (I 134)))) + (mW (mSel 10 (I 133) (I 134)))) + (mW (mSel 12 (I 133) (I 134))))) 3 ((((0 + (mW (mSel 1 (I 133) (I 134)))) + (mW (mSel 2 (I 133) (I 134)))) + (mW (mSel 4 (I 133) (I 134)))) + (mW (mSel 8 (I 133) (I 134))))) 4 (0 + (mW (mSel 0 (I 133) (I 134)))))) 120 (ma_up (ma_up (ma_up (ma_up (ma_up (ma_up (ma_up (ma_up r13 0 (Int32.toInt64 ((I 133) 0))) 1 (Int32.toInt64 ((I 133) 1))) 2 (Int32.toInt64 ((I 133) 2))) 3 (Int32.toInt64 ((I 133) 3))) 4 (Int32.toInt64 ((I 134) 4))) 5 (Int32.toInt64 ((I 134) 5))) 6 (Int32.toInt64 ((I 134) 6))) 7 (Int32.toInt64 ((I 134) 7))))) dX8_layForm_117 rfl hs_120 rfl (Nat.le_of_ble_eq_true rfl) (Nat.le_of_ble_eq_true rfl) (ma_up_up _ _ _ _) ?_
  refine ev_iinc (pc' := 121) (v := 4) (lv' := [some (.ref 115), some (.int 13), some (.int 1), some (.int 1), some (.int 0), some (.int 4)]) dX8_layForm_118 rfl rfl (by decide) (Nat.le_of_ble_eq_true rfl) rfl rfl ?_
  refine ev_goto (tgt := 69) dX8_layForm_121 rfl ?_
  refine ev_iload (pc' := 71) dX8_layForm_69 rfl rfl ?_
  refine ev_iconst (pc' := 72) (v := 4) dX8_layForm_71 rfl ki_4 ?_
  refine ev_icmp_ge (tgt := 124) (pc' := 75) dX8_layForm_72 rfl rfl (fun _ => ?_) (fun h => absurd (by decide) h)
  refine ev_iinc (pc' := 127) (v := 2) (lv' := [some (.ref 115), some (.int 13), some (.int 1), some (.int 2), some (.int 0), some (.int 4)]) dX8_layForm_124 rfl rfl (by decide) (Nat.le_of_ble_eq_true rfl) rfl rfl ?_
  refine ev_goto (tgt := 32) dX8_layForm_127 rfl ?_
  refine ev_iload_n (pc' := 33) (i := 3) dX8_layForm_32 rfl rfl rfl ?_
  refine ev_iconst (pc' := 34) (v := 4) dX8_layForm_33 rfl ki_4 ?_
  refine ev_icmp_ge (tgt := 130) (pc' := 37) dX8_layForm_34 rfl rfl (fun h => absurd h (by decide)) (fun _ => ?_)
  refine ev_iload_n (pc' := 38) (i := 1) dX8_layForm_37 rfl rfl rfl ?_
  refine ev_iload_n (pc' := 39) (i := 3) dX8_layForm_38 rfl rfl rfl ?_
  refine ev_ishr (pc' := 40) (v := 3) dX8_layForm_39 rfl (by decide) ?_
  refine ev_iconst (pc' := 41) (v := 1) dX8_layForm_40 rfl ki_1 ?_
  refine ev_iand (pc' := 42) (v := 1) dX8_layForm_41 rfl (by decide) ?_
  refine ev_iconst (pc' := 43) (v := 1) dX8_layForm_42 rfl ki_1 ?_
  refine ev_icmp_ne (tgt := 50) (pc' := 46) dX8_layForm_43 rfl rfl (fun h => absurd (by decide) h) (fun _ => ?_)
  refine ev_iconst (pc' := 47) (v := 1) dX8_layForm_46 rfl ki_1 ?_
  refine ev_goto (tgt := 51) dX8_layForm_47 rfl ?_
  refine ev_istore (pc' := 53) (lv' := [some (.ref 115), some (.int 13), some (.int 1), some (.int 2), some (.int 1), some (.int 4)]) dX8_layForm_51 rfl (Nat.le_of_ble_eq_true rfl) rfl rfl ?_
  refine ev_iload_n (pc' := 54) (i := 2) dX8_layForm_53 rfl rfl rfl ?_
  refine ev_iload (pc' := 56) dX8_layForm_54 rfl rfl ?_
  refine ev_if_eq (tgt := 63) (pc' := 59) dX8_layForm_56 rfl rfl (fun h => absurd h (by decide)) (fun _ => ?_)
  refine ev_iconst (pc' := 60) (v := 1) dX8_layForm_59 rfl ki_1 ?_
  refine ev_goto (tgt := 64) dX8_layForm_60 rfl ?_
  refine ev_iadd (pc' := 65) (v := 2) dX8_layForm_64 rfl (by decide) ?_
  refine ev_istore_n (pc' := 66) (i := 2) (lv' := [some (.ref 115), some (.int 13), some (.int 2), some (.int 2), some (.int 1), some (.int 4)]) dX8_layForm_65 rfl rfl (Nat.le_of_ble_eq_true rfl) rfl rfl ?_
  refine ev_iconst (pc' := 67) (v := 0) dX8_layForm_66 rfl ki_0 ?_
  refine ev_istore (pc' := 69) (lv' := [some (.ref 115), some (.int 13), some (.int 2), some (.int 2), some (.int 1), some (.int 0)]) dX8_layForm_67 rfl (Nat.le_of_ble_eq_true rfl) rfl rfl ?_
  refine ev_iload (pc' := 71) dX8_layForm_69 rfl rfl ?_
  refine ev_iconst (pc' := 72) (v := 4) dX8_layForm_71 rfl ki_4 ?_
  refine ev_icmp_ge (tgt := 124) (pc' := 75) dX8_layForm_72 rfl rfl (fun h => absurd h (by decide)) (fun _ => ?_)
  refine ev_aload_n (pc' := 76) (i := 0) dX8_layForm_75 rfl rfl rfl ?_
  refine ev_getR (pc' := 79) fo_X8_26 dX8_layForm_76 rfl hs_115 rfl rf_115_8 ?_
  refine ev_iconst (pc' := 80) (v := 4) dX8_layForm_79 rfl ki_4 ?_
  refine ev_iload_n (pc' := 81) (i := 3) dX8_layForm_80 rfl rfl rfl ?_
  refine ev_imul (pc' := 82) (v := 8) dX8_layForm_81 rfl (by decide) ?_
  refine ev_iload (pc' := 84) dX8_layForm_82 rfl rfl ?_
  refine ev_iadd (pc' := 85) (v := 8) dX8_layForm_84 rfl (by decide) ?_
  refine ev_iload (pc' := 87) dX8_layForm_85 rfl rfl ?_
  refine ev_if_eq (tgt := 105) (pc' := 90) dX8_layForm_87 rfl rfl (fun h => absurd h (by decide)) (fun _ => ?_)
  refine ev_aload_n (pc' := 91) (i := 0) dX8_layForm_90 rfl rfl rfl ?_
  refine ev_getR (pc' := 94) fo_X8_67 dX8_layForm_91 rfl hs_115 rfl rf_115_24 ?_
  refine ev_iconst (pc' := 95) (v := 4) dX8_layForm_94 rfl ki_4 ?_
  refine ev_iload_n (pc' := 96) (i := 3) dX8_layForm_95 rfl rfl rfl ?_
  refine ev_imul (pc' := 97) (v := 8) dX8_layForm_96 rfl (by decide) ?_
  refine ev_iload (pc' := 99) dX8_layForm_97 rfl rfl ?_
  refine ev_iadd (pc' := 100) (v := 8) dX8_layForm_99 rfl (by decide) ?_
  refine ev_iald (pc' := 101) (j := 8) (v := (I 133) 8) dX8_layForm_100 rfl hs_133 rfl (Nat.le_of_ble_eq_true rfl) (Nat.le_of_ble_eq_true rfl) rfl ?_
  refine ev_i2l (pc' := 102) (v := Int32.toInt64 ((I 133) 8)) dX8_layForm_101 rfl rfl ?_
  refine ev_goto (tgt := 117) dX8_layForm_102 rfl ?_
  refine ev_last (pc' := 118) (j := 8) (L' := (ma_up (ma_up L 132 (ma_up (ma_up (ma_up (ma_up (ma_up (L 132) 0 0) 1 ((0 + (mW (mSel 7 (I 133) (I 134)))) + (mW (mSel 11 (I 133) (I 134))))) 2 ((((((0 + (mW (mSel 3 (I 133) (I 134)))) + (mW (mSel 5 (I 133) (I 134)))) + (mW (mSel 6 (I 133) (I 134)))) + (mW (mSel 9 (I 133) (I 134)))) + (mW (mSel 10 (I 133) (I 134)))) + (mW (mSel 12 (I 133) (I 134))))) 3 ((((0 + (mW (mSel 1 (I 133) (I 134)))) + (mW (mSel 2 (I 133) (I 134)))) + (mW (mSel 4 (I 133) (I 134)))) + (mW (mSel 8 (I 133) (I 134))))) 4 (0 + (mW (mSel 0 (I 133) (I 134)))))) 120 (ma_up (ma_up (ma_up (ma_up (ma_up (ma_up (ma_up (ma_up (ma_up r13 0 (Int32.toInt64 ((I 133) 0))) 1 (Int32.toInt64 ((I 133) 1))) 2 (Int32.toInt64 ((I 133) 2))) 3 (Int32.toInt64 ((I 133) 3))) 4 (Int32.toInt64 ((I 134) 4))) 5 (Int32.toInt64 ((I 134) 5))) 6 (Int32.toInt64 ((I 134) 6))) 7 (Int32.toInt64 ((I 134) 7))) 8 (Int32.toInt64 ((I 133) 8))))) dX8_layForm_117 rfl hs_120 rfl (Nat.le_of_ble_eq_true rfl) (Nat.le_of_ble_eq_true rfl) (ma_up_up _ _ _ _) ?_
  refine ev_iinc (pc' := 121) (v := 1) (lv' := [some (.ref 115), some (.int 13), some (.int 2), some (.int 2), some (.int 1), some (.int 1)]) dX8_layForm_118 rfl rfl (by decide) (Nat.le_of_ble_eq_true rfl) rfl rfl ?_
  refine ev_goto (tgt := 69) dX8_layForm_121 rfl ?_
  refine ev_iload (pc' := 71) dX8_layForm_69 rfl rfl ?_
  refine ev_iconst (pc' := 72) (v := 4) dX8_layForm_71 rfl ki_4 ?_
  refine ev_icmp_ge (tgt := 124) (pc' := 75) dX8_layForm_72 rfl rfl (fun h => absurd h (by decide)) (fun _ => ?_)
  refine ev_aload_n (pc' := 76) (i := 0) dX8_layForm_75 rfl rfl rfl ?_
  refine ev_getR (pc' := 79) fo_X8_26 dX8_layForm_76 rfl hs_115 rfl rf_115_8 ?_
  refine ev_iconst (pc' := 80) (v := 4) dX8_layForm_79 rfl ki_4 ?_
  refine ev_iload_n (pc' := 81) (i := 3) dX8_layForm_80 rfl rfl rfl ?_
  refine ev_imul (pc' := 82) (v := 8) dX8_layForm_81 rfl (by decide) ?_
  refine ev_iload (pc' := 84) dX8_layForm_82 rfl rfl ?_
  refine ev_iadd (pc' := 85) (v := 9) dX8_layForm_84 rfl (by decide) ?_
  refine ev_iload (pc' := 87) dX8_layForm_85 rfl rfl ?_
  refine ev_if_eq (tgt := 105) (pc' := 90) dX8_layForm_87 rfl rfl (fun h => absurd h (by decide)) (fun _ => ?_)
  refine ev_aload_n (pc' := 91) (i := 0) dX8_layForm_90 rfl rfl rfl ?_
  refine ev_getR (pc' := 94) fo_X8_67 dX8_layForm_91 rfl hs_115 rfl rf_115_24 ?_
  refine ev_iconst (pc' := 95) (v := 4) dX8_layForm_94 rfl ki_4 ?_
  refine ev_iload_n (pc' := 96) (i := 3) dX8_layForm_95 rfl rfl rfl ?_
  refine ev_imul (pc' := 97) (v := 8) dX8_layForm_96 rfl (by decide) ?_
  refine ev_iload (pc' := 99) dX8_layForm_97 rfl rfl ?_
  refine ev_iadd (pc' := 100) (v := 9) dX8_layForm_99 rfl (by decide) ?_
  refine ev_iald (pc' := 101) (j := 9) (v := (I 133) 9) dX8_layForm_100 rfl hs_133 rfl (Nat.le_of_ble_eq_true rfl) (Nat.le_of_ble_eq_true rfl) rfl ?_
  refine ev_i2l (pc' := 102) (v := Int32.toInt64 ((I 133) 9)) dX8_layForm_101 rfl rfl ?_
  refine ev_goto (tgt := 117) dX8_layForm_102 rfl ?_
  refine ev_last (pc' := 118) (j := 9) (L' := (ma_up (ma_up L 132 (ma_up (ma_up (ma_up (ma_up (ma_up (L 132) 0 0) 1 ((0 + (mW (mSel 7 (I 133) (I 134)))) + (mW (mSel 11 (I 133) (I 134))))) 2 ((((((0 + (mW (mSel 3 (I 133) (I 134)))) + (mW (mSel 5 (I 133) (I 134)))) + (mW (mSel 6 (I 133) (I 134)))) + (mW (mSel 9 (I 133) (I 134)))) + (mW (mSel 10 (I 133) (I 134)))) + (mW (mSel 12 (I 133) (I 134))))) 3 ((((0 + (mW (mSel 1 (I 133) (I 134)))) + (mW (mSel 2 (I 133) (I 134)))) + (mW (mSel 4 (I 133) (I 134)))) + (mW (mSel 8 (I 133) (I 134))))) 4 (0 + (mW (mSel 0 (I 133) (I 134)))))) 120 (ma_up (ma_up (ma_up (ma_up (ma_up (ma_up (ma_up (ma_up (ma_up (ma_up r13 0 (Int32.toInt64 ((I 133) 0))) 1 (Int32.toInt64 ((I 133) 1))) 2 (Int32.toInt64 ((I 133) 2))) 3 (Int32.toInt64 ((I 133) 3))) 4 (Int32.toInt64 ((I 134) 4))) 5 (Int32.toInt64 ((I 134) 5))) 6 (Int32.toInt64 ((I 134) 6))) 7 (Int32.toInt64 ((I 134) 7))) 8 (Int32.toInt64 ((I 133) 8))) 9 (Int32.toInt64 ((I 133) 9))))) dX8_layForm_117 rfl hs_120 rfl (Nat.le_of_ble_eq_true rfl) (Nat.le_of_ble_eq_true rfl) (ma_up_up _ _ _ _) ?_
  refine ev_iinc (pc' := 121) (v := 2) (lv' := [some (.ref 115), some (.int 13), some (.int 2), some (.int 2), some (.int 1), some (.int 2)]) dX8_layForm_118 rfl rfl (by decide) (Nat.le_of_ble_eq_true rfl) rfl rfl ?_
  refine ev_goto (tgt := 69) dX8_layForm_121 rfl ?_
  refine ev_iload (pc' := 71) dX8_layForm_69 rfl rfl ?_
  refine ev_iconst (pc' := 72) (v := 4) dX8_layForm_71 rfl ki_4 ?_
  refine ev_icmp_ge (tgt := 124) (pc' := 75) dX8_layForm_72 rfl rfl (fun h => absurd h (by decide)) (fun _ => ?_)
  refine ev_aload_n (pc' := 76) (i := 0) dX8_layForm_75 rfl rfl rfl ?_
  refine ev_getR (pc' := 79) fo_X8_26 dX8_layForm_76 rfl hs_115 rfl rf_115_8 ?_
  refine ev_iconst (pc' := 80) (v := 4) dX8_layForm_79 rfl ki_4 ?_
  refine ev_iload_n (pc' := 81) (i := 3) dX8_layForm_80 rfl rfl rfl ?_
  refine ev_imul (pc' := 82) (v := 8) dX8_layForm_81 rfl (by decide) ?_
  refine ev_iload (pc' := 84) dX8_layForm_82 rfl rfl ?_
  refine ev_iadd (pc' := 85) (v := 10) dX8_layForm_84 rfl (by decide) ?_
  refine ev_iload (pc' := 87) dX8_layForm_85 rfl rfl ?_
  refine ev_if_eq (tgt := 105) (pc' := 90) dX8_layForm_87 rfl rfl (fun h => absurd h (by decide)) (fun _ => ?_)
  refine ev_aload_n (pc' := 91) (i := 0) dX8_layForm_90 rfl rfl rfl ?_
  refine ev_getR (pc' := 94) fo_X8_67 dX8_layForm_91 rfl hs_115 rfl rf_115_24 ?_
  refine ev_iconst (pc' := 95) (v := 4) dX8_layForm_94 rfl ki_4 ?_
  refine ev_iload_n (pc' := 96) (i := 3) dX8_layForm_95 rfl rfl rfl ?_
  refine ev_imul (pc' := 97) (v := 8) dX8_layForm_96 rfl (by decide) ?_
  refine ev_iload (pc' := 99) dX8_layForm_97 rfl rfl ?_
  refine ev_iadd (pc' := 100) (v := 10) dX8_layForm_99 rfl (by decide) ?_
  refine ev_iald (pc' := 101) (j := 10) (v := (I 133) 10) dX8_layForm_100 rfl hs_133 rfl (Nat.le_of_ble_eq_true rfl) (Nat.le_of_ble_eq_true rfl) rfl ?_
  refine ev_i2l (pc' := 102) (v := Int32.toInt64 ((I 133) 10)) dX8_layForm_101 rfl rfl ?_
  refine ev_goto (tgt := 117) dX8_layForm_102 rfl ?_
  refine ev_last (pc' := 118) (j := 10) (L' := (ma_up (ma_up L 132 (ma_up (ma_up (ma_up (ma_up (ma_up (L 132) 0 0) 1 ((0 + (mW (mSel 7 (I 133) (I 134)))) + (mW (mSel 11 (I 133) (I 134))))) 2 ((((((0 + (mW (mSel 3 (I 133) (I 134)))) + (mW (mSel 5 (I 133) (I 134)))) + (mW (mSel 6 (I 133) (I 134)))) + (mW (mSel 9 (I 133) (I 134)))) + (mW (mSel 10 (I 133) (I 134)))) + (mW (mSel 12 (I 133) (I 134))))) 3 ((((0 + (mW (mSel 1 (I 133) (I 134)))) + (mW (mSel 2 (I 133) (I 134)))) + (mW (mSel 4 (I 133) (I 134)))) + (mW (mSel 8 (I 133) (I 134))))) 4 (0 + (mW (mSel 0 (I 133) (I 134)))))) 120 (ma_up (ma_up (ma_up (ma_up (ma_up (ma_up (ma_up (ma_up (ma_up (ma_up (ma_up r13 0 (Int32.toInt64 ((I 133) 0))) 1 (Int32.toInt64 ((I 133) 1))) 2 (Int32.toInt64 ((I 133) 2))) 3 (Int32.toInt64 ((I 133) 3))) 4 (Int32.toInt64 ((I 134) 4))) 5 (Int32.toInt64 ((I 134) 5))) 6 (Int32.toInt64 ((I 134) 6))) 7 (Int32.toInt64 ((I 134) 7))) 8 (Int32.toInt64 ((I 133) 8))) 9 (Int32.toInt64 ((I 133) 9))) 10 (Int32.toInt64 ((I 133) 10))))) dX8_layForm_117 rfl hs_120 rfl (Nat.le_of_ble_eq_true rfl) (Nat.le_of_ble_eq_true rfl) (ma_up_up _ _ _ _) ?_
  refine ev_iinc (pc' := 121) (v := 3) (lv' := [some (.ref 115), some (.int 13), some (.int 2), some (.int 2), some (.int 1), some (.int 3)]) dX8_layForm_118 rfl rfl (by decide) (Nat.le_of_ble_eq_true rfl) rfl rfl ?_
  refine ev_goto (tgt := 69) dX8_layForm_121 rfl ?_
  refine ev_iload (pc' := 71) dX8_layForm_69 rfl rfl ?_
  refine ev_iconst (pc' := 72) (v := 4) dX8_layForm_71 rfl ki_4 ?_
  refine ev_icmp_ge (tgt := 124) (pc' := 75) dX8_layForm_72 rfl rfl (fun h => absurd h (by decide)) (fun _ => ?_)
  refine ev_aload_n (pc' := 76) (i := 0) dX8_layForm_75 rfl rfl rfl ?_
  refine ev_getR (pc' := 79) fo_X8_26 dX8_layForm_76 rfl hs_115 rfl rf_115_8 ?_
  refine ev_iconst (pc' := 80) (v := 4) dX8_layForm_79 rfl ki_4 ?_
  refine ev_iload_n (pc' := 81) (i := 3) dX8_layForm_80 rfl rfl rfl ?_
  refine ev_imul (pc' := 82) (v := 8) dX8_layForm_81 rfl (by decide) ?_
  refine ev_iload (pc' := 84) dX8_layForm_82 rfl rfl ?_
  refine ev_iadd (pc' := 85) (v := 11) dX8_layForm_84 rfl (by decide) ?_
  refine ev_iload (pc' := 87) dX8_layForm_85 rfl rfl ?_
  refine ev_if_eq (tgt := 105) (pc' := 90) dX8_layForm_87 rfl rfl (fun h => absurd h (by decide)) (fun _ => ?_)
  refine ev_aload_n (pc' := 91) (i := 0) dX8_layForm_90 rfl rfl rfl ?_
  refine ev_getR (pc' := 94) fo_X8_67 dX8_layForm_91 rfl hs_115 rfl rf_115_24 ?_
  refine ev_iconst (pc' := 95) (v := 4) dX8_layForm_94 rfl ki_4 ?_
  refine ev_iload_n (pc' := 96) (i := 3) dX8_layForm_95 rfl rfl rfl ?_
  refine ev_imul (pc' := 97) (v := 8) dX8_layForm_96 rfl (by decide) ?_
  refine ev_iload (pc' := 99) dX8_layForm_97 rfl rfl ?_
  refine ev_iadd (pc' := 100) (v := 11) dX8_layForm_99 rfl (by decide) ?_
  refine ev_iald (pc' := 101) (j := 11) (v := (I 133) 11) dX8_layForm_100 rfl hs_133 rfl (Nat.le_of_ble_eq_true rfl) (Nat.le_of_ble_eq_true rfl) rfl ?_
  refine ev_i2l (pc' := 102) (v := Int32.toInt64 ((I 133) 11)) dX8_layForm_101 rfl rfl ?_
  refine ev_goto (tgt := 117) dX8_layForm_102 rfl ?_
  refine ev_last (pc' := 118) (j := 11) (L' := (ma_up (ma_up L 132 (ma_up (ma_up (ma_up (ma_up (ma_up (L 132) 0 0) 1 ((0 + (mW (mSel 7 (I 133) (I 134)))) + (mW (mSel 11 (I 133) (I 134))))) 2 ((((((0 + (mW (mSel 3 (I 133) (I 134)))) + (mW (mSel 5 (I 133) (I 134)))) + (mW (mSel 6 (I 133) (I 134)))) + (mW (mSel 9 (I 133) (I 134)))) + (mW (mSel 10 (I 133) (I 134)))) + (mW (mSel 12 (I 133) (I 134))))) 3 ((((0 + (mW (mSel 1 (I 133) (I 134)))) + (mW (mSel 2 (I 133) (I 134)))) + (mW (mSel 4 (I 133) (I 134)))) + (mW (mSel 8 (I 133) (I 134))))) 4 (0 + (mW (mSel 0 (I 133) (I 134)))))) 120 (ma_up (ma_up (ma_up (ma_up (ma_up (ma_up (ma_up (ma_up (ma_up (ma_up (ma_up (ma_up r13 0 (Int32.toInt64 ((I 133) 0))) 1 (Int32.toInt64 ((I 133) 1))) 2 (Int32.toInt64 ((I 133) 2))) 3 (Int32.toInt64 ((I 133) 3))) 4 (Int32.toInt64 ((I 134) 4))) 5 (Int32.toInt64 ((I 134) 5))) 6 (Int32.toInt64 ((I 134) 6))) 7 (Int32.toInt64 ((I 134) 7))) 8 (Int32.toInt64 ((I 133) 8))) 9 (Int32.toInt64 ((I 133) 9))) 10 (Int32.toInt64 ((I 133) 10))) 11 (Int32.toInt64 ((I 133) 11))))) dX8_layForm_117 rfl hs_120 rfl (Nat.le_of_ble_eq_true rfl) (Nat.le_of_ble_eq_true rfl) (ma_up_up _ _ _ _) ?_
  refine ev_iinc (pc' := 121) (v := 4) (lv' := [some (.ref 115), some (.int 13), some (.int 2), some (.int 2), some (.int 1), some (.int 4)]) dX8_layForm_118 rfl rfl (by decide) (Nat.le_of_ble_eq_true rfl) rfl rfl ?_
  refine ev_goto (tgt := 69) dX8_layForm_121 rfl ?_
  refine ev_iload (pc' := 71) dX8_layForm_69 rfl rfl ?_
  refine ev_iconst (pc' := 72) (v := 4) dX8_layForm_71 rfl ki_4 ?_
  refine ev_icmp_ge (tgt := 124) (pc' := 75) dX8_layForm_72 rfl rfl (fun _ => ?_) (fun h => absurd (by decide) h)
  refine ev_iinc (pc' := 127) (v := 3) (lv' := [some (.ref 115), some (.int 13), some (.int 2), some (.int 3), some (.int 1), some (.int 4)]) dX8_layForm_124 rfl rfl (by decide) (Nat.le_of_ble_eq_true rfl) rfl rfl ?_
  refine ev_goto (tgt := 32) dX8_layForm_127 rfl ?_
  refine ev_iload_n (pc' := 33) (i := 3) dX8_layForm_32 rfl rfl rfl ?_
  refine ev_iconst (pc' := 34) (v := 4) dX8_layForm_33 rfl ki_4 ?_
  refine ev_icmp_ge (tgt := 130) (pc' := 37) dX8_layForm_34 rfl rfl (fun h => absurd h (by decide)) (fun _ => ?_)
  refine ev_iload_n (pc' := 38) (i := 1) dX8_layForm_37 rfl rfl rfl ?_
  refine ev_iload_n (pc' := 39) (i := 3) dX8_layForm_38 rfl rfl rfl ?_
  refine ev_ishr (pc' := 40) (v := 1) dX8_layForm_39 rfl (by decide) ?_
  refine ev_iconst (pc' := 41) (v := 1) dX8_layForm_40 rfl ki_1 ?_
  refine ev_iand (pc' := 42) (v := 1) dX8_layForm_41 rfl (by decide) ?_
  refine ev_iconst (pc' := 43) (v := 1) dX8_layForm_42 rfl ki_1 ?_
  refine ev_icmp_ne (tgt := 50) (pc' := 46) dX8_layForm_43 rfl rfl (fun h => absurd (by decide) h) (fun _ => ?_)
  refine ev_iconst (pc' := 47) (v := 1) dX8_layForm_46 rfl ki_1 ?_
  refine ev_goto (tgt := 51) dX8_layForm_47 rfl ?_
  refine ev_istore (pc' := 53) (lv' := [some (.ref 115), some (.int 13), some (.int 2), some (.int 3), some (.int 1), some (.int 4)]) dX8_layForm_51 rfl (Nat.le_of_ble_eq_true rfl) rfl rfl ?_
  refine ev_iload_n (pc' := 54) (i := 2) dX8_layForm_53 rfl rfl rfl ?_
  refine ev_iload (pc' := 56) dX8_layForm_54 rfl rfl ?_
  refine ev_if_eq (tgt := 63) (pc' := 59) dX8_layForm_56 rfl rfl (fun h => absurd h (by decide)) (fun _ => ?_)
  refine ev_iconst (pc' := 60) (v := 1) dX8_layForm_59 rfl ki_1 ?_
  refine ev_goto (tgt := 64) dX8_layForm_60 rfl ?_
  refine ev_iadd (pc' := 65) (v := 3) dX8_layForm_64 rfl (by decide) ?_
  refine ev_istore_n (pc' := 66) (i := 2) (lv' := [some (.ref 115), some (.int 13), some (.int 3), some (.int 3), some (.int 1), some (.int 4)]) dX8_layForm_65 rfl rfl (Nat.le_of_ble_eq_true rfl) rfl rfl ?_
  refine ev_iconst (pc' := 67) (v := 0) dX8_layForm_66 rfl ki_0 ?_
  refine ev_istore (pc' := 69) (lv' := [some (.ref 115), some (.int 13), some (.int 3), some (.int 3), some (.int 1), some (.int 0)]) dX8_layForm_67 rfl (Nat.le_of_ble_eq_true rfl) rfl rfl ?_
  refine ev_iload (pc' := 71) dX8_layForm_69 rfl rfl ?_
  refine ev_iconst (pc' := 72) (v := 4) dX8_layForm_71 rfl ki_4 ?_
  refine ev_icmp_ge (tgt := 124) (pc' := 75) dX8_layForm_72 rfl rfl (fun h => absurd h (by decide)) (fun _ => ?_)
  refine ev_aload_n (pc' := 76) (i := 0) dX8_layForm_75 rfl rfl rfl ?_
  refine ev_getR (pc' := 79) fo_X8_26 dX8_layForm_76 rfl hs_115 rfl rf_115_8 ?_
  refine ev_iconst (pc' := 80) (v := 4) dX8_layForm_79 rfl ki_4 ?_
  refine ev_iload_n (pc' := 81) (i := 3) dX8_layForm_80 rfl rfl rfl ?_
  refine ev_imul (pc' := 82) (v := 12) dX8_layForm_81 rfl (by decide) ?_
  refine ev_iload (pc' := 84) dX8_layForm_82 rfl rfl ?_
  refine ev_iadd (pc' := 85) (v := 12) dX8_layForm_84 rfl (by decide) ?_
  refine ev_iload (pc' := 87) dX8_layForm_85 rfl rfl ?_
  refine ev_if_eq (tgt := 105) (pc' := 90) dX8_layForm_87 rfl rfl (fun h => absurd h (by decide)) (fun _ => ?_)
  refine ev_aload_n (pc' := 91) (i := 0) dX8_layForm_90 rfl rfl rfl ?_
  refine ev_getR (pc' := 94) fo_X8_67 dX8_layForm_91 rfl hs_115 rfl rf_115_24 ?_
  refine ev_iconst (pc' := 95) (v := 4) dX8_layForm_94 rfl ki_4 ?_
  refine ev_iload_n (pc' := 96) (i := 3) dX8_layForm_95 rfl rfl rfl ?_
  refine ev_imul (pc' := 97) (v := 12) dX8_layForm_96 rfl (by decide) ?_
  refine ev_iload (pc' := 99) dX8_layForm_97 rfl rfl ?_
  refine ev_iadd (pc' := 100) (v := 12) dX8_layForm_99 rfl (by decide) ?_
  refine ev_iald (pc' := 101) (j := 12) (v := (I 133) 12) dX8_layForm_100 rfl hs_133 rfl (Nat.le_of_ble_eq_true rfl) (Nat.le_of_ble_eq_true rfl) rfl ?_
  refine ev_i2l (pc' := 102) (v := Int32.toInt64 ((I 133) 12)) dX8_layForm_101 rfl rfl ?_
  refine ev_goto (tgt := 117) dX8_layForm_102 rfl ?_
  refine ev_last (pc' := 118) (j := 12) (L' := (ma_up (ma_up L 132 (ma_up (ma_up (ma_up (ma_up (ma_up (L 132) 0 0) 1 ((0 + (mW (mSel 7 (I 133) (I 134)))) + (mW (mSel 11 (I 133) (I 134))))) 2 ((((((0 + (mW (mSel 3 (I 133) (I 134)))) + (mW (mSel 5 (I 133) (I 134)))) + (mW (mSel 6 (I 133) (I 134)))) + (mW (mSel 9 (I 133) (I 134)))) + (mW (mSel 10 (I 133) (I 134)))) + (mW (mSel 12 (I 133) (I 134))))) 3 ((((0 + (mW (mSel 1 (I 133) (I 134)))) + (mW (mSel 2 (I 133) (I 134)))) + (mW (mSel 4 (I 133) (I 134)))) + (mW (mSel 8 (I 133) (I 134))))) 4 (0 + (mW (mSel 0 (I 133) (I 134)))))) 120 (ma_up (ma_up (ma_up (ma_up (ma_up (ma_up (ma_up (ma_up (ma_up (ma_up (ma_up (ma_up (ma_up r13 0 (Int32.toInt64 ((I 133) 0))) 1 (Int32.toInt64 ((I 133) 1))) 2 (Int32.toInt64 ((I 133) 2))) 3 (Int32.toInt64 ((I 133) 3))) 4 (Int32.toInt64 ((I 134) 4))) 5 (Int32.toInt64 ((I 134) 5))) 6 (Int32.toInt64 ((I 134) 6))) 7 (Int32.toInt64 ((I 134) 7))) 8 (Int32.toInt64 ((I 133) 8))) 9 (Int32.toInt64 ((I 133) 9))) 10 (Int32.toInt64 ((I 133) 10))) 11 (Int32.toInt64 ((I 133) 11))) 12 (Int32.toInt64 ((I 133) 12))))) dX8_layForm_117 rfl hs_120 rfl (Nat.le_of_ble_eq_true rfl) (Nat.le_of_ble_eq_true rfl) (ma_up_up _ _ _ _) ?_
  refine ev_iinc (pc' := 121) (v := 1) (lv' := [some (.ref 115), some (.int 13), some (.int 3), some (.int 3), some (.int 1), some (.int 1)]) dX8_layForm_118 rfl rfl (by decide) (Nat.le_of_ble_eq_true rfl) rfl rfl ?_
  refine ev_goto (tgt := 69) dX8_layForm_121 rfl ?_
  refine ev_iload (pc' := 71) dX8_layForm_69 rfl rfl ?_
  refine ev_iconst (pc' := 72) (v := 4) dX8_layForm_71 rfl ki_4 ?_
  refine ev_icmp_ge (tgt := 124) (pc' := 75) dX8_layForm_72 rfl rfl (fun h => absurd h (by decide)) (fun _ => ?_)
  refine ev_aload_n (pc' := 76) (i := 0) dX8_layForm_75 rfl rfl rfl ?_
  refine ev_getR (pc' := 79) fo_X8_26 dX8_layForm_76 rfl hs_115 rfl rf_115_8 ?_
  refine ev_iconst (pc' := 80) (v := 4) dX8_layForm_79 rfl ki_4 ?_
  refine ev_iload_n (pc' := 81) (i := 3) dX8_layForm_80 rfl rfl rfl ?_
  refine ev_imul (pc' := 82) (v := 12) dX8_layForm_81 rfl (by decide) ?_
  refine ev_iload (pc' := 84) dX8_layForm_82 rfl rfl ?_
  refine ev_iadd (pc' := 85) (v := 13) dX8_layForm_84 rfl (by decide) ?_
  refine ev_iload (pc' := 87) dX8_layForm_85 rfl rfl ?_
  refine ev_if_eq (tgt := 105) (pc' := 90) dX8_layForm_87 rfl rfl (fun h => absurd h (by decide)) (fun _ => ?_)
  refine ev_aload_n (pc' := 91) (i := 0) dX8_layForm_90 rfl rfl rfl ?_
  refine ev_getR (pc' := 94) fo_X8_67 dX8_layForm_91 rfl hs_115 rfl rf_115_24 ?_
  refine ev_iconst (pc' := 95) (v := 4) dX8_layForm_94 rfl ki_4 ?_
  refine ev_iload_n (pc' := 96) (i := 3) dX8_layForm_95 rfl rfl rfl ?_
  refine ev_imul (pc' := 97) (v := 12) dX8_layForm_96 rfl (by decide) ?_
  refine ev_iload (pc' := 99) dX8_layForm_97 rfl rfl ?_
  refine ev_iadd (pc' := 100) (v := 13) dX8_layForm_99 rfl (by decide) ?_
  refine ev_iald (pc' := 101) (j := 13) (v := (I 133) 13) dX8_layForm_100 rfl hs_133 rfl (Nat.le_of_ble_eq_true rfl) (Nat.le_of_ble_eq_true rfl) rfl ?_
  refine ev_i2l (pc' := 102) (v := Int32.toInt64 ((I 133) 13)) dX8_layForm_101 rfl rfl ?_
  refine ev_goto (tgt := 117) dX8_layForm_102 rfl ?_
  refine ev_last (pc' := 118) (j := 13) (L' := (ma_up (ma_up L 132 (ma_up (ma_up (ma_up (ma_up (ma_up (L 132) 0 0) 1 ((0 + (mW (mSel 7 (I 133) (I 134)))) + (mW (mSel 11 (I 133) (I 134))))) 2 ((((((0 + (mW (mSel 3 (I 133) (I 134)))) + (mW (mSel 5 (I 133) (I 134)))) + (mW (mSel 6 (I 133) (I 134)))) + (mW (mSel 9 (I 133) (I 134)))) + (mW (mSel 10 (I 133) (I 134)))) + (mW (mSel 12 (I 133) (I 134))))) 3 ((((0 + (mW (mSel 1 (I 133) (I 134)))) + (mW (mSel 2 (I 133) (I 134)))) + (mW (mSel 4 (I 133) (I 134)))) + (mW (mSel 8 (I 133) (I 134))))) 4 (0 + (mW (mSel 0 (I 133) (I 134)))))) 120 (ma_up (ma_up (ma_up (ma_up (ma_up (ma_up (ma_up (ma_up (ma_up (ma_up (ma_up (ma_up (ma_up (ma_up r13 0 (Int32.toInt64 ((I 133) 0))) 1 (Int32.toInt64 ((I 133) 1))) 2 (Int32.toInt64 ((I 133) 2))) 3 (Int32.toInt64 ((I 133) 3))) 4 (Int32.toInt64 ((I 134) 4))) 5 (Int32.toInt64 ((I 134) 5))) 6 (Int32.toInt64 ((I 134) 6))) 7 (Int32.toInt64 ((I 134) 7))) 8 (Int32.toInt64 ((I 133) 8))) 9 (Int32.toInt64 ((I 133) 9))) 10 (Int32.toInt64 ((I 133) 10))) 11 (Int32.toInt64 ((I 133) 11))) 12 (Int32.toInt64 ((I 133) 12))) 13 (Int32.toInt64 ((I 133) 13))))) dX8_layForm_117 rfl hs_120 rfl (Nat.le_of_ble_eq_true rfl) (Nat.le_of_ble_eq_true rfl) (ma_up_up _ _ _ _) ?_
  refine ev_iinc (pc' := 121) (v := 2) (lv' := [some (.ref 115), some (.int 13), some (.int 3), some (.int 3), some (.int 1), some (.int 2)]) dX8_layForm_118 rfl rfl (by decide) (Nat.le_of_ble_eq_true rfl) rfl rfl ?_
  refine ev_goto (tgt := 69) dX8_layForm_121 rfl ?_
  refine ev_iload (pc' := 71) dX8_layForm_69 rfl rfl ?_
  refine ev_iconst (pc' := 72) (v := 4) dX8_layForm_71 rfl ki_4 ?_
  refine ev_icmp_ge (tgt := 124) (pc' := 75) dX8_layForm_72 rfl rfl (fun h => absurd h (by decide)) (fun _ => ?_)
  refine ev_aload_n (pc' := 76) (i := 0) dX8_layForm_75 rfl rfl rfl ?_
  refine ev_getR (pc' := 79) fo_X8_26 dX8_layForm_76 rfl hs_115 rfl rf_115_8 ?_
  refine ev_iconst (pc' := 80) (v := 4) dX8_layForm_79 rfl ki_4 ?_
  refine ev_iload_n (pc' := 81) (i := 3) dX8_layForm_80 rfl rfl rfl ?_
  refine ev_imul (pc' := 82) (v := 12) dX8_layForm_81 rfl (by decide) ?_
  refine ev_iload (pc' := 84) dX8_layForm_82 rfl rfl ?_
  refine ev_iadd (pc' := 85) (v := 14) dX8_layForm_84 rfl (by decide) ?_
  refine ev_iload (pc' := 87) dX8_layForm_85 rfl rfl ?_
  refine ev_if_eq (tgt := 105) (pc' := 90) dX8_layForm_87 rfl rfl (fun h => absurd h (by decide)) (fun _ => ?_)
  refine ev_aload_n (pc' := 91) (i := 0) dX8_layForm_90 rfl rfl rfl ?_
  refine ev_getR (pc' := 94) fo_X8_67 dX8_layForm_91 rfl hs_115 rfl rf_115_24 ?_
  refine ev_iconst (pc' := 95) (v := 4) dX8_layForm_94 rfl ki_4 ?_
  refine ev_iload_n (pc' := 96) (i := 3) dX8_layForm_95 rfl rfl rfl ?_
  refine ev_imul (pc' := 97) (v := 12) dX8_layForm_96 rfl (by decide) ?_
  refine ev_iload (pc' := 99) dX8_layForm_97 rfl rfl ?_
  refine ev_iadd (pc' := 100) (v := 14) dX8_layForm_99 rfl (by decide) ?_
  refine ev_iald (pc' := 101) (j := 14) (v := (I 133) 14) dX8_layForm_100 rfl hs_133 rfl (Nat.le_of_ble_eq_true rfl) (Nat.le_of_ble_eq_true rfl) rfl ?_
  refine ev_i2l (pc' := 102) (v := Int32.toInt64 ((I 133) 14)) dX8_layForm_101 rfl rfl ?_
  refine ev_goto (tgt := 117) dX8_layForm_102 rfl ?_
  refine ev_last (pc' := 118) (j := 14) (L' := (ma_up (ma_up L 132 (ma_up (ma_up (ma_up (ma_up (ma_up (L 132) 0 0) 1 ((0 + (mW (mSel 7 (I 133) (I 134)))) + (mW (mSel 11 (I 133) (I 134))))) 2 ((((((0 + (mW (mSel 3 (I 133) (I 134)))) + (mW (mSel 5 (I 133) (I 134)))) + (mW (mSel 6 (I 133) (I 134)))) + (mW (mSel 9 (I 133) (I 134)))) + (mW (mSel 10 (I 133) (I 134)))) + (mW (mSel 12 (I 133) (I 134))))) 3 ((((0 + (mW (mSel 1 (I 133) (I 134)))) + (mW (mSel 2 (I 133) (I 134)))) + (mW (mSel 4 (I 133) (I 134)))) + (mW (mSel 8 (I 133) (I 134))))) 4 (0 + (mW (mSel 0 (I 133) (I 134)))))) 120 (ma_up (ma_up (ma_up (ma_up (ma_up (ma_up (ma_up (ma_up (ma_up (ma_up (ma_up (ma_up (ma_up (ma_up (ma_up r13 0 (Int32.toInt64 ((I 133) 0))) 1 (Int32.toInt64 ((I 133) 1))) 2 (Int32.toInt64 ((I 133) 2))) 3 (Int32.toInt64 ((I 133) 3))) 4 (Int32.toInt64 ((I 134) 4))) 5 (Int32.toInt64 ((I 134) 5))) 6 (Int32.toInt64 ((I 134) 6))) 7 (Int32.toInt64 ((I 134) 7))) 8 (Int32.toInt64 ((I 133) 8))) 9 (Int32.toInt64 ((I 133) 9))) 10 (Int32.toInt64 ((I 133) 10))) 11 (Int32.toInt64 ((I 133) 11))) 12 (Int32.toInt64 ((I 133) 12))) 13 (Int32.toInt64 ((I 133) 13))) 14 (Int32.toInt64 ((I 133) 14))))) dX8_layForm_117 rfl hs_120 rfl (Nat.le_of_ble_eq_true rfl) (Nat.le_of_ble_eq_true rfl) (ma_up_up _ _ _ _) ?_
  refine ev_iinc (pc' := 121) (v := 3) (lv' := [some (.ref 115), some (.int 13), some (.int 3), some (.int 3), some (.int 1), some (.int 3)]) dX8_layForm_118 rfl rfl (by decide) (Nat.le_of_ble_eq_true rfl) rfl rfl ?_
  refine ev_goto (tgt := 69) dX8_layForm_121 rfl ?_
  refine ev_iload (pc' := 71) dX8_layForm_69 rfl rfl ?_
  refine ev_iconst (pc' := 72) (v := 4) dX8_layForm_71 rfl ki_4 ?_
  refine ev_icmp_ge (tgt := 124) (pc' := 75) dX8_layForm_72 rfl rfl (fun h => absurd h (by decide)) (fun _ => ?_)
  refine ev_aload_n (pc' := 76) (i := 0) dX8_layForm_75 rfl rfl rfl ?_
  refine ev_getR (pc' := 79) fo_X8_26 dX8_layForm_76 rfl hs_115 rfl rf_115_8 ?_
  refine ev_iconst (pc' := 80) (v := 4) dX8_layForm_79 rfl ki_4 ?_
  refine ev_iload_n (pc' := 81) (i := 3) dX8_layForm_80 rfl rfl rfl ?_
  refine ev_imul (pc' := 82) (v := 12) dX8_layForm_81 rfl (by decide) ?_
  refine ev_iload (pc' := 84) dX8_layForm_82 rfl rfl ?_
  refine ev_iadd (pc' := 85) (v := 15) dX8_layForm_84 rfl (by decide) ?_
  refine ev_iload (pc' := 87) dX8_layForm_85 rfl rfl ?_
  refine ev_if_eq (tgt := 105) (pc' := 90) dX8_layForm_87 rfl rfl (fun h => absurd h (by decide)) (fun _ => ?_)
  refine ev_aload_n (pc' := 91) (i := 0) dX8_layForm_90 rfl rfl rfl ?_
  refine ev_getR (pc' := 94) fo_X8_67 dX8_layForm_91 rfl hs_115 rfl rf_115_24 ?_
  refine ev_iconst (pc' := 95) (v := 4) dX8_layForm_94 rfl ki_4 ?_
  refine ev_iload_n (pc' := 96) (i := 3) dX8_layForm_95 rfl rfl rfl ?_
  refine ev_imul (pc' := 97) (v := 12) dX8_layForm_96 rfl (by decide) ?_
  refine ev_iload (pc' := 99) dX8_layForm_97 rfl rfl ?_
  refine ev_iadd (pc' := 100) (v := 15) dX8_layForm_99 rfl (by decide) ?_
  refine ev_iald (pc' := 101) (j := 15) (v := (I 133) 15) dX8_layForm_100 rfl hs_133 rfl (Nat.le_of_ble_eq_true rfl) (Nat.le_of_ble_eq_true rfl) rfl ?_
  refine ev_i2l (pc' := 102) (v := Int32.toInt64 ((I 133) 15)) dX8_layForm_101 rfl rfl ?_
  refine ev_goto (tgt := 117) dX8_layForm_102 rfl ?_
  refine ev_last (pc' := 118) (j := 15) (L' := (ma_up (ma_up L 132 (ma_up (ma_up (ma_up (ma_up (ma_up (L 132) 0 0) 1 ((0 + (mW (mSel 7 (I 133) (I 134)))) + (mW (mSel 11 (I 133) (I 134))))) 2 ((((((0 + (mW (mSel 3 (I 133) (I 134)))) + (mW (mSel 5 (I 133) (I 134)))) + (mW (mSel 6 (I 133) (I 134)))) + (mW (mSel 9 (I 133) (I 134)))) + (mW (mSel 10 (I 133) (I 134)))) + (mW (mSel 12 (I 133) (I 134))))) 3 ((((0 + (mW (mSel 1 (I 133) (I 134)))) + (mW (mSel 2 (I 133) (I 134)))) + (mW (mSel 4 (I 133) (I 134)))) + (mW (mSel 8 (I 133) (I 134))))) 4 (0 + (mW (mSel 0 (I 133) (I 134)))))) 120 (ma_up (ma_up (ma_up (ma_up (ma_up (ma_up (ma_up (ma_up (ma_up (ma_up (ma_up (ma_up (ma_up (ma_up (ma_up (ma_up r13 0 (Int32.toInt64 ((I 133) 0))) 1 (Int32.toInt64 ((I 133) 1))) 2 (Int32.toInt64 ((I 133) 2))) 3 (Int32.toInt64 ((I 133) 3))) 4 (Int32.toInt64 ((I 134) 4))) 5 (Int32.toInt64 ((I 134) 5))) 6 (Int32.toInt64 ((I 134) 6))) 7 (Int32.toInt64 ((I 134) 7))) 8 (Int32.toInt64 ((I 133) 8))) 9 (Int32.toInt64 ((I 133) 9))) 10 (Int32.toInt64 ((I 133) 10))) 11 (Int32.toInt64 ((I 133) 11))) 12 (Int32.toInt64 ((I 133) 12))) 13 (Int32.toInt64 ((I 133) 13))) 14 (Int32.toInt64 ((I 133) 14))) 15 (Int32.toInt64 ((I 133) 15))))) dX8_layForm_117 rfl hs_120 rfl (Nat.le_of_ble_eq_true rfl) (Nat.le_of_ble_eq_true rfl) (ma_up_up _ _ _ _) ?_
  refine ev_iinc (pc' := 121) (v := 4) (lv' := [some (.ref 115), some (.int 13), some (.int 3), some (.int 3), some (.int 1), some (.int 4)]) dX8_layForm_118 rfl rfl (by decide) (Nat.le_of_ble_eq_true rfl) rfl rfl ?_
  refine ev_goto (tgt := 69) dX8_layForm_121 rfl ?_
  refine ev_iload (pc' := 71) dX8_layForm_69 rfl rfl ?_
  refine ev_iconst (pc' := 72) (v := 4) dX8_layForm_71 rfl ki_4 ?_
  refine ev_icmp_ge (tgt := 124) (pc' := 75) dX8_layForm_72 rfl rfl (fun _ => ?_) (fun h => absurd (by decide) h)
  refine ev_iinc (pc' := 127) (v := 4) (lv' := [some (.ref 115), some (.int 13), some (.int 3), some (.int 4), some (.int 1), some (.int 4)]) dX8_layForm_124 rfl rfl (by decide) (Nat.le_of_ble_eq_true rfl) rfl rfl ?_
  refine ev_goto (tgt := 32) dX8_layForm_127 rfl ?_
  refine ev_iload_n (pc' := 33) (i := 3) dX8_layForm_32 rfl rfl rfl ?_
  refine ev_iconst (pc' := 34) (v := 4) dX8_layForm_33 rfl ki_4 ?_
  refine ev_icmp_ge (tgt := 130) (pc' := 37) dX8_layForm_34 rfl rfl (fun _ => ?_) (fun h => absurd (by decide) h)
  refine ev_aload_n (pc' := 131) (i := 0) dX8_layForm_130 rfl rfl rfl ?_
  refine ev_getR (pc' := 134) fo_X8_64 dX8_layForm_131 rfl hs_115 rfl rf_115_23 ?_
  refine ev_iconst (pc' := 135) (v := 4) dX8_layForm_134 rfl ki_4 ?_
  refine ev_iload_n (pc' := 136) (i := 2) dX8_layForm_135 rfl rfl rfl ?_
  refine ev_isub (pc' := 137) (v := 1) dX8_layForm_136 rfl (by decide) ?_
  refine ev_dup2 (pc' := 138) dX8_layForm_137 rfl rfl rfl ?_
  refine ev_lald (pc' := 139) (j := 1) (v := (0 + (mW (mSel 7 (I 133) (I 134)))) + (mW (mSel 11 (I 133) (I 134)))) dX8_layForm_138 rfl hs_132 rfl (Nat.le_of_ble_eq_true rfl) (Nat.le_of_ble_eq_true rfl) rfl ?_
  refine ev_aload_n (pc' := 140) (i := 0) dX8_layForm_139 rfl rfl rfl ?_
  refine ev_getR (pc' := 143) fo_X8_26 dX8_layForm_140 rfl hs_115 rfl rf_115_8 ?_
  refine ev_callS (pc' := 146) (rm' := rX8_worthOf) (av := [.ref 120]) (rest := [.long ((0 + (mW (mSel 7 (I 133) (I 134)))) + (mW (mSel 11 (I 133) (I 134)))), .int 1, .ref 132]) co_X8_173 cs_X8_worthOf dX8_layForm_143 rfl rfl rfl (Nat.le_of_ble_eq_true rfl) ⟨(Nat.le_of_ble_eq_true rfl), (Nat.le_of_ble_eq_true rfl)⟩ ⟨(Nat.le_of_ble_eq_true rfl), (Nat.le_of_ble_eq_true rfl)⟩ ?_
  refine t_X8_worthOf 120 hs_120 ?_
  refine ev_eql (w := mW (mSel 13 (I 133) (I 134))) rfl ?_
  refine ev_ladd (pc' := 147) (v := ((0 + (mW (mSel 7 (I 133) (I 134)))) + (mW (mSel 11 (I 133) (I 134)))) + (mW (mSel 13 (I 133) (I 134)))) dX8_layForm_146 rfl rfl ?_
  refine ev_last (pc' := 148) (j := 1) (L' := (ma_up (ma_up L 132 (ma_up (ma_up (ma_up (ma_up (ma_up (L 132) 0 0) 1 (((0 + (mW (mSel 7 (I 133) (I 134)))) + (mW (mSel 11 (I 133) (I 134)))) + (mW (mSel 13 (I 133) (I 134))))) 2 ((((((0 + (mW (mSel 3 (I 133) (I 134)))) + (mW (mSel 5 (I 133) (I 134)))) + (mW (mSel 6 (I 133) (I 134)))) + (mW (mSel 9 (I 133) (I 134)))) + (mW (mSel 10 (I 133) (I 134)))) + (mW (mSel 12 (I 133) (I 134))))) 3 ((((0 + (mW (mSel 1 (I 133) (I 134)))) + (mW (mSel 2 (I 133) (I 134)))) + (mW (mSel 4 (I 133) (I 134)))) + (mW (mSel 8 (I 133) (I 134))))) 4 (0 + (mW (mSel 0 (I 133) (I 134)))))) 120 (ma_up (ma_up (ma_up (ma_up (ma_up (ma_up (ma_up (ma_up (ma_up (ma_up (ma_up (ma_up (ma_up (ma_up (ma_up (ma_up r13 0 (Int32.toInt64 ((I 133) 0))) 1 (Int32.toInt64 ((I 133) 1))) 2 (Int32.toInt64 ((I 133) 2))) 3 (Int32.toInt64 ((I 133) 3))) 4 (Int32.toInt64 ((I 134) 4))) 5 (Int32.toInt64 ((I 134) 5))) 6 (Int32.toInt64 ((I 134) 6))) 7 (Int32.toInt64 ((I 134) 7))) 8 (Int32.toInt64 ((I 133) 8))) 9 (Int32.toInt64 ((I 133) 9))) 10 (Int32.toInt64 ((I 133) 10))) 11 (Int32.toInt64 ((I 133) 11))) 12 (Int32.toInt64 ((I 133) 12))) 13 (Int32.toInt64 ((I 133) 13))) 14 (Int32.toInt64 ((I 133) 14))) 15 (Int32.toInt64 ((I 133) 15))))) dX8_layForm_147 rfl hs_132 rfl (Nat.le_of_ble_eq_true rfl) (Nat.le_of_ble_eq_true rfl) ((congrArg (ma_up _ 132) ((ma_up_comm _ (show 1 ≠ 4 from (by decide)) _ _).trans (congrArg (fun f => ma_up f 4 _) ((ma_up_comm _ (show 1 ≠ 3 from (by decide)) _ _).trans (congrArg (fun f => ma_up f 3 _) ((ma_up_comm _ (show 1 ≠ 2 from (by decide)) _ _).trans (congrArg (fun f => ma_up f 2 _) (ma_up_up _ _ _ _)))))))).trans ((ma_up_comm _ (show 132 ≠ 120 from (by decide)) _ _).trans (congrArg (fun f => ma_up f 120 _) (ma_up_up _ _ _ _)))) ?_
  refine ev_iinc (pc' := 151) (v := 14) (lv' := [some (.ref 115), some (.int 14), some (.int 3), some (.int 4), some (.int 1), some (.int 4)]) dX8_layForm_148 rfl rfl (by decide) (Nat.le_of_ble_eq_true rfl) rfl rfl ?_
  refine ev_goto (tgt := 22) dX8_layForm_151 rfl ?_
  refine ev_rowL (fun r14 => ?_)
  refine ev_iload_n (pc' := 23) (i := 1) dX8_layForm_22 rfl rfl rfl ?_
  refine ev_bipush (pc' := 25) (v := 16) dX8_layForm_23 rfl kb_16 ?_
  refine ev_icmp_ge (tgt := 154) (pc' := 28) dX8_layForm_25 rfl rfl (fun h => absurd h (by decide)) (fun _ => ?_)
  refine ev_iconst (pc' := 29) (v := 0) dX8_layForm_28 rfl ki_0 ?_
  refine ev_istore_n (pc' := 30) (i := 2) (lv' := [some (.ref 115), some (.int 14), some (.int 0), some (.int 4), some (.int 1), some (.int 4)]) dX8_layForm_29 rfl rfl (Nat.le_of_ble_eq_true rfl) rfl rfl ?_
  refine ev_iconst (pc' := 31) (v := 0) dX8_layForm_30 rfl ki_0 ?_
  refine ev_istore_n (pc' := 32) (i := 3) (lv' := [some (.ref 115), some (.int 14), some (.int 0), some (.int 0), some (.int 1), some (.int 4)]) dX8_layForm_31 rfl rfl (Nat.le_of_ble_eq_true rfl) rfl rfl ?_
  refine ev_iload_n (pc' := 33) (i := 3) dX8_layForm_32 rfl rfl rfl ?_
  refine ev_iconst (pc' := 34) (v := 4) dX8_layForm_33 rfl ki_4 ?_
  refine ev_icmp_ge (tgt := 130) (pc' := 37) dX8_layForm_34 rfl rfl (fun h => absurd h (by decide)) (fun _ => ?_)
  refine ev_iload_n (pc' := 38) (i := 1) dX8_layForm_37 rfl rfl rfl ?_
  refine ev_iload_n (pc' := 39) (i := 3) dX8_layForm_38 rfl rfl rfl ?_
  refine ev_ishr (pc' := 40) (v := 14) dX8_layForm_39 rfl (by decide) ?_
  refine ev_iconst (pc' := 41) (v := 1) dX8_layForm_40 rfl ki_1 ?_
  refine ev_iand (pc' := 42) (v := 0) dX8_layForm_41 rfl (by decide) ?_
  refine ev_iconst (pc' := 43) (v := 1) dX8_layForm_42 rfl ki_1 ?_
  refine ev_icmp_ne (tgt := 50) (pc' := 46) dX8_layForm_43 rfl rfl (fun _ => ?_) (fun h => absurd h (by decide))
  refine ev_iconst (pc' := 51) (v := 0) dX8_layForm_50 rfl ki_0 ?_
  refine ev_istore (pc' := 53) (lv' := [some (.ref 115), some (.int 14), some (.int 0), some (.int 0), some (.int 0), some (.int 4)]) dX8_layForm_51 rfl (Nat.le_of_ble_eq_true rfl) rfl rfl ?_
  refine ev_iload_n (pc' := 54) (i := 2) dX8_layForm_53 rfl rfl rfl ?_
  refine ev_iload (pc' := 56) dX8_layForm_54 rfl rfl ?_
  refine ev_if_eq (tgt := 63) (pc' := 59) dX8_layForm_56 rfl rfl (fun _ => ?_) (fun h => absurd (by decide) h)
  refine ev_iconst (pc' := 64) (v := 0) dX8_layForm_63 rfl ki_0 ?_
  refine ev_iadd (pc' := 65) (v := 0) dX8_layForm_64 rfl (by decide) ?_
  refine ev_istore_n (pc' := 66) (i := 2) (lv' := [some (.ref 115), some (.int 14), some (.int 0), some (.int 0), some (.int 0), some (.int 4)]) dX8_layForm_65 rfl rfl (Nat.le_of_ble_eq_true rfl) rfl rfl ?_
  refine ev_iconst (pc' := 67) (v := 0) dX8_layForm_66 rfl ki_0 ?_
  refine ev_istore (pc' := 69) (lv' := [some (.ref 115), some (.int 14), some (.int 0), some (.int 0), some (.int 0), some (.int 0)]) dX8_layForm_67 rfl (Nat.le_of_ble_eq_true rfl) rfl rfl ?_
  refine ev_iload (pc' := 71) dX8_layForm_69 rfl rfl ?_
  refine ev_iconst (pc' := 72) (v := 4) dX8_layForm_71 rfl ki_4 ?_
  refine ev_icmp_ge (tgt := 124) (pc' := 75) dX8_layForm_72 rfl rfl (fun h => absurd h (by decide)) (fun _ => ?_)
  refine ev_aload_n (pc' := 76) (i := 0) dX8_layForm_75 rfl rfl rfl ?_
  refine ev_getR (pc' := 79) fo_X8_26 dX8_layForm_76 rfl hs_115 rfl rf_115_8 ?_
  refine ev_iconst (pc' := 80) (v := 4) dX8_layForm_79 rfl ki_4 ?_
  refine ev_iload_n (pc' := 81) (i := 3) dX8_layForm_80 rfl rfl rfl ?_
  refine ev_imul (pc' := 82) (v := 0) dX8_layForm_81 rfl (by decide) ?_
  refine ev_iload (pc' := 84) dX8_layForm_82 rfl rfl ?_
  refine ev_iadd (pc' := 85) (v := 0) dX8_layForm_84 rfl (by decide) ?_
  refine ev_iload (pc' := 87) dX8_layForm_85 rfl rfl ?_
  refine ev_if_eq (tgt := 105) (pc' := 90) dX8_layForm_87 rfl rfl (fun _ => ?_) (fun h => absurd (by decide) h)
  refine ev_aload_n (pc' := 106) (i := 0) dX8_layForm_105 rfl rfl rfl ?_
  refine ev_getR (pc' := 109) fo_X8_70 dX8_layForm_106 rfl hs_115 rfl rf_115_25 ?_
  refine ev_iconst (pc' := 110) (v := 4) dX8_layForm_109 rfl ki_4 ?_
  refine ev_iload_n (pc' := 111) (i := 3) dX8_layForm_110 rfl rfl rfl ?_
  refine ev_imul (pc' := 112) (v := 0) dX8_layForm_111 rfl (by decide) ?_
  refine ev_iload (pc' := 114) dX8_layForm_112 rfl rfl ?_
  refine ev_iadd (pc' := 115) (v := 0) dX8_layForm_114 rfl (by decide) ?_
  refine ev_iald (pc' := 116) (j := 0) (v := (I 134) 0) dX8_layForm_115 rfl hs_134 rfl (Nat.le_of_ble_eq_true rfl) (Nat.le_of_ble_eq_true rfl) rfl ?_
  refine ev_i2l (pc' := 117) (v := Int32.toInt64 ((I 134) 0)) dX8_layForm_116 rfl rfl ?_
  refine ev_last (pc' := 118) (j := 0) (L' := (ma_up (ma_up L 132 (ma_up (ma_up (ma_up (ma_up (ma_up (L 132) 0 0) 1 (((0 + (mW (mSel 7 (I 133) (I 134)))) + (mW (mSel 11 (I 133) (I 134)))) + (mW (mSel 13 (I 133) (I 134))))) 2 ((((((0 + (mW (mSel 3 (I 133) (I 134)))) + (mW (mSel 5 (I 133) (I 134)))) + (mW (mSel 6 (I 133) (I 134)))) + (mW (mSel 9 (I 133) (I 134)))) + (mW (mSel 10 (I 133) (I 134)))) + (mW (mSel 12 (I 133) (I 134))))) 3 ((((0 + (mW (mSel 1 (I 133) (I 134)))) + (mW (mSel 2 (I 133) (I 134)))) + (mW (mSel 4 (I 133) (I 134)))) + (mW (mSel 8 (I 133) (I 134))))) 4 (0 + (mW (mSel 0 (I 133) (I 134)))))) 120 (ma_up r14 0 (Int32.toInt64 ((I 134) 0))))) dX8_layForm_117 rfl hs_120 rfl (Nat.le_of_ble_eq_true rfl) (Nat.le_of_ble_eq_true rfl) (ma_up_up _ _ _ _) ?_
  refine ev_iinc (pc' := 121) (v := 1) (lv' := [some (.ref 115), some (.int 14), some (.int 0), some (.int 0), some (.int 0), some (.int 1)]) dX8_layForm_118 rfl rfl (by decide) (Nat.le_of_ble_eq_true rfl) rfl rfl ?_
  refine ev_goto (tgt := 69) dX8_layForm_121 rfl ?_
  refine ev_iload (pc' := 71) dX8_layForm_69 rfl rfl ?_
  refine ev_iconst (pc' := 72) (v := 4) dX8_layForm_71 rfl ki_4 ?_
  refine ev_icmp_ge (tgt := 124) (pc' := 75) dX8_layForm_72 rfl rfl (fun h => absurd h (by decide)) (fun _ => ?_)
  refine ev_aload_n (pc' := 76) (i := 0) dX8_layForm_75 rfl rfl rfl ?_
  refine ev_getR (pc' := 79) fo_X8_26 dX8_layForm_76 rfl hs_115 rfl rf_115_8 ?_
  refine ev_iconst (pc' := 80) (v := 4) dX8_layForm_79 rfl ki_4 ?_
  refine ev_iload_n (pc' := 81) (i := 3) dX8_layForm_80 rfl rfl rfl ?_
  refine ev_imul (pc' := 82) (v := 0) dX8_layForm_81 rfl (by decide) ?_
  refine ev_iload (pc' := 84) dX8_layForm_82 rfl rfl ?_
  refine ev_iadd (pc' := 85) (v := 1) dX8_layForm_84 rfl (by decide) ?_
  refine ev_iload (pc' := 87) dX8_layForm_85 rfl rfl ?_
  refine ev_if_eq (tgt := 105) (pc' := 90) dX8_layForm_87 rfl rfl (fun _ => ?_) (fun h => absurd (by decide) h)
  refine ev_aload_n (pc' := 106) (i := 0) dX8_layForm_105 rfl rfl rfl ?_
  refine ev_getR (pc' := 109) fo_X8_70 dX8_layForm_106 rfl hs_115 rfl rf_115_25 ?_
  refine ev_iconst (pc' := 110) (v := 4) dX8_layForm_109 rfl ki_4 ?_
  refine ev_iload_n (pc' := 111) (i := 3) dX8_layForm_110 rfl rfl rfl ?_
  refine ev_imul (pc' := 112) (v := 0) dX8_layForm_111 rfl (by decide) ?_
  refine ev_iload (pc' := 114) dX8_layForm_112 rfl rfl ?_
  refine ev_iadd (pc' := 115) (v := 1) dX8_layForm_114 rfl (by decide) ?_
  refine ev_iald (pc' := 116) (j := 1) (v := (I 134) 1) dX8_layForm_115 rfl hs_134 rfl (Nat.le_of_ble_eq_true rfl) (Nat.le_of_ble_eq_true rfl) rfl ?_
  refine ev_i2l (pc' := 117) (v := Int32.toInt64 ((I 134) 1)) dX8_layForm_116 rfl rfl ?_
  refine ev_last (pc' := 118) (j := 1) (L' := (ma_up (ma_up L 132 (ma_up (ma_up (ma_up (ma_up (ma_up (L 132) 0 0) 1 (((0 + (mW (mSel 7 (I 133) (I 134)))) + (mW (mSel 11 (I 133) (I 134)))) + (mW (mSel 13 (I 133) (I 134))))) 2 ((((((0 + (mW (mSel 3 (I 133) (I 134)))) + (mW (mSel 5 (I 133) (I 134)))) + (mW (mSel 6 (I 133) (I 134)))) + (mW (mSel 9 (I 133) (I 134)))) + (mW (mSel 10 (I 133) (I 134)))) + (mW (mSel 12 (I 133) (I 134))))) 3 ((((0 + (mW (mSel 1 (I 133) (I 134)))) + (mW (mSel 2 (I 133) (I 134)))) + (mW (mSel 4 (I 133) (I 134)))) + (mW (mSel 8 (I 133) (I 134))))) 4 (0 + (mW (mSel 0 (I 133) (I 134)))))) 120 (ma_up (ma_up r14 0 (Int32.toInt64 ((I 134) 0))) 1 (Int32.toInt64 ((I 134) 1))))) dX8_layForm_117 rfl hs_120 rfl (Nat.le_of_ble_eq_true rfl) (Nat.le_of_ble_eq_true rfl) (ma_up_up _ _ _ _) ?_
  refine ev_iinc (pc' := 121) (v := 2) (lv' := [some (.ref 115), some (.int 14), some (.int 0), some (.int 0), some (.int 0), some (.int 2)]) dX8_layForm_118 rfl rfl (by decide) (Nat.le_of_ble_eq_true rfl) rfl rfl ?_
  refine ev_goto (tgt := 69) dX8_layForm_121 rfl ?_
  refine ev_iload (pc' := 71) dX8_layForm_69 rfl rfl ?_
  refine ev_iconst (pc' := 72) (v := 4) dX8_layForm_71 rfl ki_4 ?_
  refine ev_icmp_ge (tgt := 124) (pc' := 75) dX8_layForm_72 rfl rfl (fun h => absurd h (by decide)) (fun _ => ?_)
  refine ev_aload_n (pc' := 76) (i := 0) dX8_layForm_75 rfl rfl rfl ?_
  refine ev_getR (pc' := 79) fo_X8_26 dX8_layForm_76 rfl hs_115 rfl rf_115_8 ?_
  refine ev_iconst (pc' := 80) (v := 4) dX8_layForm_79 rfl ki_4 ?_
  refine ev_iload_n (pc' := 81) (i := 3) dX8_layForm_80 rfl rfl rfl ?_
  refine ev_imul (pc' := 82) (v := 0) dX8_layForm_81 rfl (by decide) ?_
  refine ev_iload (pc' := 84) dX8_layForm_82 rfl rfl ?_
  refine ev_iadd (pc' := 85) (v := 2) dX8_layForm_84 rfl (by decide) ?_
  refine ev_iload (pc' := 87) dX8_layForm_85 rfl rfl ?_
  refine ev_if_eq (tgt := 105) (pc' := 90) dX8_layForm_87 rfl rfl (fun _ => ?_) (fun h => absurd (by decide) h)
  refine ev_aload_n (pc' := 106) (i := 0) dX8_layForm_105 rfl rfl rfl ?_
  refine ev_getR (pc' := 109) fo_X8_70 dX8_layForm_106 rfl hs_115 rfl rf_115_25 ?_
  refine ev_iconst (pc' := 110) (v := 4) dX8_layForm_109 rfl ki_4 ?_
  refine ev_iload_n (pc' := 111) (i := 3) dX8_layForm_110 rfl rfl rfl ?_
  refine ev_imul (pc' := 112) (v := 0) dX8_layForm_111 rfl (by decide) ?_
  refine ev_iload (pc' := 114) dX8_layForm_112 rfl rfl ?_
  refine ev_iadd (pc' := 115) (v := 2) dX8_layForm_114 rfl (by decide) ?_
  refine ev_iald (pc' := 116) (j := 2) (v := (I 134) 2) dX8_layForm_115 rfl hs_134 rfl (Nat.le_of_ble_eq_true rfl) (Nat.le_of_ble_eq_true rfl) rfl ?_
  refine ev_i2l (pc' := 117) (v := Int32.toInt64 ((I 134) 2)) dX8_layForm_116 rfl rfl ?_
  refine ev_last (pc' := 118) (j := 2) (L' := (ma_up (ma_up L 132 (ma_up (ma_up (ma_up (ma_up (ma_up (L 132) 0 0) 1 (((0 + (mW (mSel 7 (I 133) (I 134)))) + (mW (mSel 11 (I 133) (I 134)))) + (mW (mSel 13 (I 133) (I 134))))) 2 ((((((0 + (mW (mSel 3 (I 133) (I 134)))) + (mW (mSel 5 (I 133) (I 134)))) + (mW (mSel 6 (I 133) (I 134)))) + (mW (mSel 9 (I 133) (I 134)))) + (mW (mSel 10 (I 133) (I 134)))) + (mW (mSel 12 (I 133) (I 134))))) 3 ((((0 + (mW (mSel 1 (I 133) (I 134)))) + (mW (mSel 2 (I 133) (I 134)))) + (mW (mSel 4 (I 133) (I 134)))) + (mW (mSel 8 (I 133) (I 134))))) 4 (0 + (mW (mSel 0 (I 133) (I 134)))))) 120 (ma_up (ma_up (ma_up r14 0 (Int32.toInt64 ((I 134) 0))) 1 (Int32.toInt64 ((I 134) 1))) 2 (Int32.toInt64 ((I 134) 2))))) dX8_layForm_117 rfl hs_120 rfl (Nat.le_of_ble_eq_true rfl) (Nat.le_of_ble_eq_true rfl) (ma_up_up _ _ _ _) ?_
  refine ev_iinc (pc' := 121) (v := 3) (lv' := [some (.ref 115), some (.int 14), some (.int 0), some (.int 0), some (.int 0), some (.int 3)]) dX8_layForm_118 rfl rfl (by decide) (Nat.le_of_ble_eq_true rfl) rfl rfl ?_
  refine ev_goto (tgt := 69) dX8_layForm_121 rfl ?_
  refine ev_iload (pc' := 71) dX8_layForm_69 rfl rfl ?_
  refine ev_iconst (pc' := 72) (v := 4) dX8_layForm_71 rfl ki_4 ?_
  refine ev_icmp_ge (tgt := 124) (pc' := 75) dX8_layForm_72 rfl rfl (fun h => absurd h (by decide)) (fun _ => ?_)
  refine ev_aload_n (pc' := 76) (i := 0) dX8_layForm_75 rfl rfl rfl ?_
  refine ev_getR (pc' := 79) fo_X8_26 dX8_layForm_76 rfl hs_115 rfl rf_115_8 ?_
  refine ev_iconst (pc' := 80) (v := 4) dX8_layForm_79 rfl ki_4 ?_
  refine ev_iload_n (pc' := 81) (i := 3) dX8_layForm_80 rfl rfl rfl ?_
  refine ev_imul (pc' := 82) (v := 0) dX8_layForm_81 rfl (by decide) ?_
  refine ev_iload (pc' := 84) dX8_layForm_82 rfl rfl ?_
  refine ev_iadd (pc' := 85) (v := 3) dX8_layForm_84 rfl (by decide) ?_
  refine ev_iload (pc' := 87) dX8_layForm_85 rfl rfl ?_
  refine ev_if_eq (tgt := 105) (pc' := 90) dX8_layForm_87 rfl rfl (fun _ => ?_) (fun h => absurd (by decide) h)
  refine ev_aload_n (pc' := 106) (i := 0) dX8_layForm_105 rfl rfl rfl ?_
  refine ev_getR (pc' := 109) fo_X8_70 dX8_layForm_106 rfl hs_115 rfl rf_115_25 ?_
  refine ev_iconst (pc' := 110) (v := 4) dX8_layForm_109 rfl ki_4 ?_
  refine ev_iload_n (pc' := 111) (i := 3) dX8_layForm_110 rfl rfl rfl ?_
  refine ev_imul (pc' := 112) (v := 0) dX8_layForm_111 rfl (by decide) ?_
  refine ev_iload (pc' := 114) dX8_layForm_112 rfl rfl ?_
  refine ev_iadd (pc' := 115) (v := 3) dX8_layForm_114 rfl (by decide) ?_
  refine ev_iald (pc' := 116) (j := 3) (v := (I 134) 3) dX8_layForm_115 rfl hs_134 rfl (Nat.le_of_ble_eq_true rfl) (Nat.le_of_ble_eq_true rfl) rfl ?_
  refine ev_i2l (pc' := 117) (v := Int32.toInt64 ((I 134) 3)) dX8_layForm_116 rfl rfl ?_
  refine ev_last (pc' := 118) (j := 3) (L' := (ma_up (ma_up L 132 (ma_up (ma_up (ma_up (ma_up (ma_up (L 132) 0 0) 1 (((0 + (mW (mSel 7 (I 133) (I 134)))) + (mW (mSel 11 (I 133) (I 134)))) + (mW (mSel 13 (I 133) (I 134))))) 2 ((((((0 + (mW (mSel 3 (I 133) (I 134)))) + (mW (mSel 5 (I 133) (I 134)))) + (mW (mSel 6 (I 133) (I 134)))) + (mW (mSel 9 (I 133) (I 134)))) + (mW (mSel 10 (I 133) (I 134)))) + (mW (mSel 12 (I 133) (I 134))))) 3 ((((0 + (mW (mSel 1 (I 133) (I 134)))) + (mW (mSel 2 (I 133) (I 134)))) + (mW (mSel 4 (I 133) (I 134)))) + (mW (mSel 8 (I 133) (I 134))))) 4 (0 + (mW (mSel 0 (I 133) (I 134)))))) 120 (ma_up (ma_up (ma_up (ma_up r14 0 (Int32.toInt64 ((I 134) 0))) 1 (Int32.toInt64 ((I 134) 1))) 2 (Int32.toInt64 ((I 134) 2))) 3 (Int32.toInt64 ((I 134) 3))))) dX8_layForm_117 rfl hs_120 rfl (Nat.le_of_ble_eq_true rfl) (Nat.le_of_ble_eq_true rfl) (ma_up_up _ _ _ _) ?_
  refine ev_iinc (pc' := 121) (v := 4) (lv' := [some (.ref 115), some (.int 14), some (.int 0), some (.int 0), some (.int 0), some (.int 4)]) dX8_layForm_118 rfl rfl (by decide) (Nat.le_of_ble_eq_true rfl) rfl rfl ?_
  refine ev_goto (tgt := 69) dX8_layForm_121 rfl ?_
  refine ev_iload (pc' := 71) dX8_layForm_69 rfl rfl ?_
  refine ev_iconst (pc' := 72) (v := 4) dX8_layForm_71 rfl ki_4 ?_
  refine ev_icmp_ge (tgt := 124) (pc' := 75) dX8_layForm_72 rfl rfl (fun _ => ?_) (fun h => absurd (by decide) h)
  refine ev_iinc (pc' := 127) (v := 1) (lv' := [some (.ref 115), some (.int 14), some (.int 0), some (.int 1), some (.int 0), some (.int 4)]) dX8_layForm_124 rfl rfl (by decide) (Nat.le_of_ble_eq_true rfl) rfl rfl ?_
  refine ev_goto (tgt := 32) dX8_layForm_127 rfl ?_
  refine ev_iload_n (pc' := 33) (i := 3) dX8_layForm_32 rfl rfl rfl ?_
  refine ev_iconst (pc' := 34) (v := 4) dX8_layForm_33 rfl ki_4 ?_
  refine ev_icmp_ge (tgt := 130) (pc' := 37) dX8_layForm_34 rfl rfl (fun h => absurd h (by decide)) (fun _ => ?_)
  refine ev_iload_n (pc' := 38) (i := 1) dX8_layForm_37 rfl rfl rfl ?_
  refine ev_iload_n (pc' := 39) (i := 3) dX8_layForm_38 rfl rfl rfl ?_
  refine ev_ishr (pc' := 40) (v := 7) dX8_layForm_39 rfl (by decide) ?_
  refine ev_iconst (pc' := 41) (v := 1) dX8_layForm_40 rfl ki_1 ?_
  refine ev_iand (pc' := 42) (v := 1) dX8_layForm_41 rfl (by decide) ?_
  refine ev_iconst (pc' := 43) (v := 1) dX8_layForm_42 rfl ki_1 ?_
  refine ev_icmp_ne (tgt := 50) (pc' := 46) dX8_layForm_43 rfl rfl (fun h => absurd (by decide) h) (fun _ => ?_)
  refine ev_iconst (pc' := 47) (v := 1) dX8_layForm_46 rfl ki_1 ?_
  refine ev_goto (tgt := 51) dX8_layForm_47 rfl ?_
  refine ev_istore (pc' := 53) (lv' := [some (.ref 115), some (.int 14), some (.int 0), some (.int 1), some (.int 1), some (.int 4)]) dX8_layForm_51 rfl (Nat.le_of_ble_eq_true rfl) rfl rfl ?_
  refine ev_iload_n (pc' := 54) (i := 2) dX8_layForm_53 rfl rfl rfl ?_
  refine ev_iload (pc' := 56) dX8_layForm_54 rfl rfl ?_
  refine ev_if_eq (tgt := 63) (pc' := 59) dX8_layForm_56 rfl rfl (fun h => absurd h (by decide)) (fun _ => ?_)
  refine ev_iconst (pc' := 60) (v := 1) dX8_layForm_59 rfl ki_1 ?_
  refine ev_goto (tgt := 64) dX8_layForm_60 rfl ?_
  refine ev_iadd (pc' := 65) (v := 1) dX8_layForm_64 rfl (by decide) ?_
  refine ev_istore_n (pc' := 66) (i := 2) (lv' := [some (.ref 115), some (.int 14), some (.int 1), some (.int 1), some (.int 1), some (.int 4)]) dX8_layForm_65 rfl rfl (Nat.le_of_ble_eq_true rfl) rfl rfl ?_
  refine ev_iconst (pc' := 67) (v := 0) dX8_layForm_66 rfl ki_0 ?_
  refine ev_istore (pc' := 69) (lv' := [some (.ref 115), some (.int 14), some (.int 1), some (.int 1), some (.int 1), some (.int 0)]) dX8_layForm_67 rfl (Nat.le_of_ble_eq_true rfl) rfl rfl ?_
  refine ev_iload (pc' := 71) dX8_layForm_69 rfl rfl ?_
  refine ev_iconst (pc' := 72) (v := 4) dX8_layForm_71 rfl ki_4 ?_
  refine ev_icmp_ge (tgt := 124) (pc' := 75) dX8_layForm_72 rfl rfl (fun h => absurd h (by decide)) (fun _ => ?_)
  refine ev_aload_n (pc' := 76) (i := 0) dX8_layForm_75 rfl rfl rfl ?_
  refine ev_getR (pc' := 79) fo_X8_26 dX8_layForm_76 rfl hs_115 rfl rf_115_8 ?_
  refine ev_iconst (pc' := 80) (v := 4) dX8_layForm_79 rfl ki_4 ?_
  refine ev_iload_n (pc' := 81) (i := 3) dX8_layForm_80 rfl rfl rfl ?_
  refine ev_imul (pc' := 82) (v := 4) dX8_layForm_81 rfl (by decide) ?_
  refine ev_iload (pc' := 84) dX8_layForm_82 rfl rfl ?_
  refine ev_iadd (pc' := 85) (v := 4) dX8_layForm_84 rfl (by decide) ?_
  refine ev_iload (pc' := 87) dX8_layForm_85 rfl rfl ?_
  refine ev_if_eq (tgt := 105) (pc' := 90) dX8_layForm_87 rfl rfl (fun h => absurd h (by decide)) (fun _ => ?_)
  refine ev_aload_n (pc' := 91) (i := 0) dX8_layForm_90 rfl rfl rfl ?_
  refine ev_getR (pc' := 94) fo_X8_67 dX8_layForm_91 rfl hs_115 rfl rf_115_24 ?_
  refine ev_iconst (pc' := 95) (v := 4) dX8_layForm_94 rfl ki_4 ?_
  refine ev_iload_n (pc' := 96) (i := 3) dX8_layForm_95 rfl rfl rfl ?_
  refine ev_imul (pc' := 97) (v := 4) dX8_layForm_96 rfl (by decide) ?_
  refine ev_iload (pc' := 99) dX8_layForm_97 rfl rfl ?_
  refine ev_iadd (pc' := 100) (v := 4) dX8_layForm_99 rfl (by decide) ?_
  refine ev_iald (pc' := 101) (j := 4) (v := (I 133) 4) dX8_layForm_100 rfl hs_133 rfl (Nat.le_of_ble_eq_true rfl) (Nat.le_of_ble_eq_true rfl) rfl ?_
  refine ev_i2l (pc' := 102) (v := Int32.toInt64 ((I 133) 4)) dX8_layForm_101 rfl rfl ?_
  refine ev_goto (tgt := 117) dX8_layForm_102 rfl ?_
  refine ev_last (pc' := 118) (j := 4) (L' := (ma_up (ma_up L 132 (ma_up (ma_up (ma_up (ma_up (ma_up (L 132) 0 0) 1 (((0 + (mW (mSel 7 (I 133) (I 134)))) + (mW (mSel 11 (I 133) (I 134)))) + (mW (mSel 13 (I 133) (I 134))))) 2 ((((((0 + (mW (mSel 3 (I 133) (I 134)))) + (mW (mSel 5 (I 133) (I 134)))) + (mW (mSel 6 (I 133) (I 134)))) + (mW (mSel 9 (I 133) (I 134)))) + (mW (mSel 10 (I 133) (I 134)))) + (mW (mSel 12 (I 133) (I 134))))) 3 ((((0 + (mW (mSel 1 (I 133) (I 134)))) + (mW (mSel 2 (I 133) (I 134)))) + (mW (mSel 4 (I 133) (I 134)))) + (mW (mSel 8 (I 133) (I 134))))) 4 (0 + (mW (mSel 0 (I 133) (I 134)))))) 120 (ma_up (ma_up (ma_up (ma_up (ma_up r14 0 (Int32.toInt64 ((I 134) 0))) 1 (Int32.toInt64 ((I 134) 1))) 2 (Int32.toInt64 ((I 134) 2))) 3 (Int32.toInt64 ((I 134) 3))) 4 (Int32.toInt64 ((I 133) 4))))) dX8_layForm_117 rfl hs_120 rfl (Nat.le_of_ble_eq_true rfl) (Nat.le_of_ble_eq_true rfl) (ma_up_up _ _ _ _) ?_
  refine ev_iinc (pc' := 121) (v := 1) (lv' := [some (.ref 115), some (.int 14), some (.int 1), some (.int 1), some (.int 1), some (.int 1)]) dX8_layForm_118 rfl rfl (by decide) (Nat.le_of_ble_eq_true rfl) rfl rfl ?_
  refine ev_goto (tgt := 69) dX8_layForm_121 rfl ?_
  refine ev_iload (pc' := 71) dX8_layForm_69 rfl rfl ?_
  refine ev_iconst (pc' := 72) (v := 4) dX8_layForm_71 rfl ki_4 ?_
  refine ev_icmp_ge (tgt := 124) (pc' := 75) dX8_layForm_72 rfl rfl (fun h => absurd h (by decide)) (fun _ => ?_)
  refine ev_aload_n (pc' := 76) (i := 0) dX8_layForm_75 rfl rfl rfl ?_
  refine ev_getR (pc' := 79) fo_X8_26 dX8_layForm_76 rfl hs_115 rfl rf_115_8 ?_
  refine ev_iconst (pc' := 80) (v := 4) dX8_layForm_79 rfl ki_4 ?_
  refine ev_iload_n (pc' := 81) (i := 3) dX8_layForm_80 rfl rfl rfl ?_
  refine ev_imul (pc' := 82) (v := 4) dX8_layForm_81 rfl (by decide) ?_
  refine ev_iload (pc' := 84) dX8_layForm_82 rfl rfl ?_
  refine ev_iadd (pc' := 85) (v := 5) dX8_layForm_84 rfl (by decide) ?_
  refine ev_iload (pc' := 87) dX8_layForm_85 rfl rfl ?_
  refine ev_if_eq (tgt := 105) (pc' := 90) dX8_layForm_87 rfl rfl (fun h => absurd h (by decide)) (fun _ => ?_)
  refine ev_aload_n (pc' := 91) (i := 0) dX8_layForm_90 rfl rfl rfl ?_
  refine ev_getR (pc' := 94) fo_X8_67 dX8_layForm_91 rfl hs_115 rfl rf_115_24 ?_
  refine ev_iconst (pc' := 95) (v := 4) dX8_layForm_94 rfl ki_4 ?_
  refine ev_iload_n (pc' := 96) (i := 3) dX8_layForm_95 rfl rfl rfl ?_
  refine ev_imul (pc' := 97) (v := 4) dX8_layForm_96 rfl (by decide) ?_
  refine ev_iload (pc' := 99) dX8_layForm_97 rfl rfl ?_
  refine ev_iadd (pc' := 100) (v := 5) dX8_layForm_99 rfl (by decide) ?_
  refine ev_iald (pc' := 101) (j := 5) (v := (I 133) 5) dX8_layForm_100 rfl hs_133 rfl (Nat.le_of_ble_eq_true rfl) (Nat.le_of_ble_eq_true rfl) rfl ?_
  refine ev_i2l (pc' := 102) (v := Int32.toInt64 ((I 133) 5)) dX8_layForm_101 rfl rfl ?_
  refine ev_goto (tgt := 117) dX8_layForm_102 rfl ?_
  refine ev_last (pc' := 118) (j := 5) (L' := (ma_up (ma_up L 132 (ma_up (ma_up (ma_up (ma_up (ma_up (L 132) 0 0) 1 (((0 + (mW (mSel 7 (I 133) (I 134)))) + (mW (mSel 11 (I 133) (I 134)))) + (mW (mSel 13 (I 133) (I 134))))) 2 ((((((0 + (mW (mSel 3 (I 133) (I 134)))) + (mW (mSel 5 (I 133) (I 134)))) + (mW (mSel 6 (I 133) (I 134)))) + (mW (mSel 9 (I 133) (I 134)))) + (mW (mSel 10 (I 133) (I 134)))) + (mW (mSel 12 (I 133) (I 134))))) 3 ((((0 + (mW (mSel 1 (I 133) (I 134)))) + (mW (mSel 2 (I 133) (I 134)))) + (mW (mSel 4 (I 133) (I 134)))) + (mW (mSel 8 (I 133) (I 134))))) 4 (0 + (mW (mSel 0 (I 133) (I 134)))))) 120 (ma_up (ma_up (ma_up (ma_up (ma_up (ma_up r14 0 (Int32.toInt64 ((I 134) 0))) 1 (Int32.toInt64 ((I 134) 1))) 2 (Int32.toInt64 ((I 134) 2))) 3 (Int32.toInt64 ((I 134) 3))) 4 (Int32.toInt64 ((I 133) 4))) 5 (Int32.toInt64 ((I 133) 5))))) dX8_layForm_117 rfl hs_120 rfl (Nat.le_of_ble_eq_true rfl) (Nat.le_of_ble_eq_true rfl) (ma_up_up _ _ _ _) ?_
  refine ev_iinc (pc' := 121) (v := 2) (lv' := [some (.ref 115), some (.int 14), some (.int 1), some (.int 1), some (.int 1), some (.int 2)]) dX8_layForm_118 rfl rfl (by decide) (Nat.le_of_ble_eq_true rfl) rfl rfl ?_
  refine ev_goto (tgt := 69) dX8_layForm_121 rfl ?_
  refine ev_iload (pc' := 71) dX8_layForm_69 rfl rfl ?_
  refine ev_iconst (pc' := 72) (v := 4) dX8_layForm_71 rfl ki_4 ?_
  refine ev_icmp_ge (tgt := 124) (pc' := 75) dX8_layForm_72 rfl rfl (fun h => absurd h (by decide)) (fun _ => ?_)
  refine ev_aload_n (pc' := 76) (i := 0) dX8_layForm_75 rfl rfl rfl ?_
  refine ev_getR (pc' := 79) fo_X8_26 dX8_layForm_76 rfl hs_115 rfl rf_115_8 ?_
  refine ev_iconst (pc' := 80) (v := 4) dX8_layForm_79 rfl ki_4 ?_
  refine ev_iload_n (pc' := 81) (i := 3) dX8_layForm_80 rfl rfl rfl ?_
  refine ev_imul (pc' := 82) (v := 4) dX8_layForm_81 rfl (by decide) ?_
  refine ev_iload (pc' := 84) dX8_layForm_82 rfl rfl ?_
  refine ev_iadd (pc' := 85) (v := 6) dX8_layForm_84 rfl (by decide) ?_
  refine ev_iload (pc' := 87) dX8_layForm_85 rfl rfl ?_
  refine ev_if_eq (tgt := 105) (pc' := 90) dX8_layForm_87 rfl rfl (fun h => absurd h (by decide)) (fun _ => ?_)
  refine ev_aload_n (pc' := 91) (i := 0) dX8_layForm_90 rfl rfl rfl ?_
  refine ev_getR (pc' := 94) fo_X8_67 dX8_layForm_91 rfl hs_115 rfl rf_115_24 ?_
  refine ev_iconst (pc' := 95) (v := 4) dX8_layForm_94 rfl ki_4 ?_
  refine ev_iload_n (pc' := 96) (i := 3) dX8_layForm_95 rfl rfl rfl ?_
  refine ev_imul (pc' := 97) (v := 4) dX8_layForm_96 rfl (by decide) ?_
  refine ev_iload (pc' := 99) dX8_layForm_97 rfl rfl ?_
  refine ev_iadd (pc' := 100) (v := 6) dX8_layForm_99 rfl (by decide) ?_
  refine ev_iald (pc' := 101) (j := 6) (v := (I 133) 6) dX8_layForm_100 rfl hs_133 rfl (Nat.le_of_ble_eq_true rfl) (Nat.le_of_ble_eq_true rfl) rfl ?_
  refine ev_i2l (pc' := 102) (v := Int32.toInt64 ((I 133) 6)) dX8_layForm_101 rfl rfl ?_
  refine ev_goto (tgt := 117) dX8_layForm_102 rfl ?_
  refine ev_last (pc' := 118) (j := 6) (L' := (ma_up (ma_up L 132 (ma_up (ma_up (ma_up (ma_up (ma_up (L 132) 0 0) 1 (((0 + (mW (mSel 7 (I 133) (I 134)))) + (mW (mSel 11 (I 133) (I 134)))) + (mW (mSel 13 (I 133) (I 134))))) 2 ((((((0 + (mW (mSel 3 (I 133) (I 134)))) + (mW (mSel 5 (I 133) (I 134)))) + (mW (mSel 6 (I 133) (I 134)))) + (mW (mSel 9 (I 133) (I 134)))) + (mW (mSel 10 (I 133) (I 134)))) + (mW (mSel 12 (I 133) (I 134))))) 3 ((((0 + (mW (mSel 1 (I 133) (I 134)))) + (mW (mSel 2 (I 133) (I 134)))) + (mW (mSel 4 (I 133) (I 134)))) + (mW (mSel 8 (I 133) (I 134))))) 4 (0 + (mW (mSel 0 (I 133) (I 134)))))) 120 (ma_up (ma_up (ma_up (ma_up (ma_up (ma_up (ma_up r14 0 (Int32.toInt64 ((I 134) 0))) 1 (Int32.toInt64 ((I 134) 1))) 2 (Int32.toInt64 ((I 134) 2))) 3 (Int32.toInt64 ((I 134) 3))) 4 (Int32.toInt64 ((I 133) 4))) 5 (Int32.toInt64 ((I 133) 5))) 6 (Int32.toInt64 ((I 133) 6))))) dX8_layForm_117 rfl hs_120 rfl (Nat.le_of_ble_eq_true rfl) (Nat.le_of_ble_eq_true rfl) (ma_up_up _ _ _ _) ?_
  refine ev_iinc (pc' := 121) (v := 3) (lv' := [some (.ref 115), some (.int 14), some (.int 1), some (.int 1), some (.int 1), some (.int 3)]) dX8_layForm_118 rfl rfl (by decide) (Nat.le_of_ble_eq_true rfl) rfl rfl ?_
  refine ev_goto (tgt := 69) dX8_layForm_121 rfl ?_
  refine ev_iload (pc' := 71) dX8_layForm_69 rfl rfl ?_
  refine ev_iconst (pc' := 72) (v := 4) dX8_layForm_71 rfl ki_4 ?_
  refine ev_icmp_ge (tgt := 124) (pc' := 75) dX8_layForm_72 rfl rfl (fun h => absurd h (by decide)) (fun _ => ?_)
  refine ev_aload_n (pc' := 76) (i := 0) dX8_layForm_75 rfl rfl rfl ?_
  refine ev_getR (pc' := 79) fo_X8_26 dX8_layForm_76 rfl hs_115 rfl rf_115_8 ?_
  refine ev_iconst (pc' := 80) (v := 4) dX8_layForm_79 rfl ki_4 ?_
  refine ev_iload_n (pc' := 81) (i := 3) dX8_layForm_80 rfl rfl rfl ?_
  refine ev_imul (pc' := 82) (v := 4) dX8_layForm_81 rfl (by decide) ?_
  refine ev_iload (pc' := 84) dX8_layForm_82 rfl rfl ?_
  refine ev_iadd (pc' := 85) (v := 7) dX8_layForm_84 rfl (by decide) ?_
  refine ev_iload (pc' := 87) dX8_layForm_85 rfl rfl ?_
  refine ev_if_eq (tgt := 105) (pc' := 90) dX8_layForm_87 rfl rfl (fun h => absurd h (by decide)) (fun _ => ?_)
  refine ev_aload_n (pc' := 91) (i := 0) dX8_layForm_90 rfl rfl rfl ?_
  refine ev_getR (pc' := 94) fo_X8_67 dX8_layForm_91 rfl hs_115 rfl rf_115_24 ?_
  refine ev_iconst (pc' := 95) (v := 4) dX8_layForm_94 rfl ki_4 ?_
  refine ev_iload_n (pc' := 96) (i := 3) dX8_layForm_95 rfl rfl rfl ?_
  refine ev_imul (pc' := 97) (v := 4) dX8_layForm_96 rfl (by decide) ?_
  refine ev_iload (pc' := 99) dX8_layForm_97 rfl rfl ?_
  refine ev_iadd (pc' := 100) (v := 7) dX8_layForm_99 rfl (by decide) ?_
  refine ev_iald (pc' := 101) (j := 7) (v := (I 133) 7) dX8_layForm_100 rfl hs_133 rfl (Nat.le_of_ble_eq_true rfl) (Nat.le_of_ble_eq_true rfl) rfl ?_
  refine ev_i2l (pc' := 102) (v := Int32.toInt64 ((I 133) 7)) dX8_layForm_101 rfl rfl ?_
  refine ev_goto (tgt := 117) dX8_layForm_102 rfl ?_
  refine ev_last (pc' := 118) (j := 7) (L' := (ma_up (ma_up L 132 (ma_up (ma_up (ma_up (ma_up (ma_up (L 132) 0 0) 1 (((0 + (mW (mSel 7 (I 133) (I 134)))) + (mW (mSel 11 (I 133) (I 134)))) + (mW (mSel 13 (I 133) (I 134))))) 2 ((((((0 + (mW (mSel 3 (I 133) (I 134)))) + (mW (mSel 5 (I 133) (I 134)))) + (mW (mSel 6 (I 133) (I 134)))) + (mW (mSel 9 (I 133) (I 134)))) + (mW (mSel 10 (I 133) (I 134)))) + (mW (mSel 12 (I 133) (I 134))))) 3 ((((0 + (mW (mSel 1 (I 133) (I 134)))) + (mW (mSel 2 (I 133) (I 134)))) + (mW (mSel 4 (I 133) (I 134)))) + (mW (mSel 8 (I 133) (I 134))))) 4 (0 + (mW (mSel 0 (I 133) (I 134)))))) 120 (ma_up (ma_up (ma_up (ma_up (ma_up (ma_up (ma_up (ma_up r14 0 (Int32.toInt64 ((I 134) 0))) 1 (Int32.toInt64 ((I 134) 1))) 2 (Int32.toInt64 ((I 134) 2))) 3 (Int32.toInt64 ((I 134) 3))) 4 (Int32.toInt64 ((I 133) 4))) 5 (Int32.toInt64 ((I 133) 5))) 6 (Int32.toInt64 ((I 133) 6))) 7 (Int32.toInt64 ((I 133) 7))))) dX8_layForm_117 rfl hs_120 rfl (Nat.le_of_ble_eq_true rfl) (Nat.le_of_ble_eq_true rfl) (ma_up_up _ _ _ _) ?_
  refine ev_iinc (pc' := 121) (v := 4) (lv' := [some (.ref 115), some (.int 14), some (.int 1), some (.int 1), some (.int 1), some (.int 4)]) dX8_layForm_118 rfl rfl (by decide) (Nat.le_of_ble_eq_true rfl) rfl rfl ?_
  refine ev_goto (tgt := 69) dX8_layForm_121 rfl ?_
  refine ev_iload (pc' := 71) dX8_layForm_69 rfl rfl ?_
  refine ev_iconst (pc' := 72) (v := 4) dX8_layForm_71 rfl ki_4 ?_
  refine ev_icmp_ge (tgt := 124) (pc' := 75) dX8_layForm_72 rfl rfl (fun _ => ?_) (fun h => absurd (by decide) h)
  refine ev_iinc (pc' := 127) (v := 2) (lv' := [some (.ref 115), some (.int 14), some (.int 1), some (.int 2), some (.int 1), some (.int 4)]) dX8_layForm_124 rfl rfl (by decide) (Nat.le_of_ble_eq_true rfl) rfl rfl ?_
  refine ev_goto (tgt := 32) dX8_layForm_127 rfl ?_
  refine ev_iload_n (pc' := 33) (i := 3) dX8_layForm_32 rfl rfl rfl ?_
  refine ev_iconst (pc' := 34) (v := 4) dX8_layForm_33 rfl ki_4 ?_
  refine ev_icmp_ge (tgt := 130) (pc' := 37) dX8_layForm_34 rfl rfl (fun h => absurd h (by decide)) (fun _ => ?_)
  refine ev_iload_n (pc' := 38) (i := 1) dX8_layForm_37 rfl rfl rfl ?_
  refine ev_iload_n (pc' := 39) (i := 3) dX8_layForm_38 rfl rfl rfl ?_
  refine ev_ishr (pc' := 40) (v := 3) dX8_layForm_39 rfl (by decide) ?_
  refine ev_iconst (pc' := 41) (v := 1) dX8_layForm_40 rfl ki_1 ?_
  refine ev_iand (pc' := 42) (v := 1) dX8_layForm_41 rfl (by decide) ?_
  refine ev_iconst (pc' := 43) (v := 1) dX8_layForm_42 rfl ki_1 ?_
  refine ev_icmp_ne (tgt := 50) (pc' := 46) dX8_layForm_43 rfl rfl (fun h => absurd (by decide) h) (fun _ => ?_)
  refine ev_iconst (pc' := 47) (v := 1) dX8_layForm_46 rfl ki_1 ?_
  refine ev_goto (tgt := 51) dX8_layForm_47 rfl ?_
  refine ev_istore (pc' := 53) (lv' := [some (.ref 115), some (.int 14), some (.int 1), some (.int 2), some (.int 1), some (.int 4)]) dX8_layForm_51 rfl (Nat.le_of_ble_eq_true rfl) rfl rfl ?_
  refine ev_iload_n (pc' := 54) (i := 2) dX8_layForm_53 rfl rfl rfl ?_
  refine ev_iload (pc' := 56) dX8_layForm_54 rfl rfl ?_
  refine ev_if_eq (tgt := 63) (pc' := 59) dX8_layForm_56 rfl rfl (fun h => absurd h (by decide)) (fun _ => ?_)
  refine ev_iconst (pc' := 60) (v := 1) dX8_layForm_59 rfl ki_1 ?_
  refine ev_goto (tgt := 64) dX8_layForm_60 rfl ?_
  refine ev_iadd (pc' := 65) (v := 2) dX8_layForm_64 rfl (by decide) ?_
  refine ev_istore_n (pc' := 66) (i := 2) (lv' := [some (.ref 115), some (.int 14), some (.int 2), some (.int 2), some (.int 1), some (.int 4)]) dX8_layForm_65 rfl rfl (Nat.le_of_ble_eq_true rfl) rfl rfl ?_
  refine ev_iconst (pc' := 67) (v := 0) dX8_layForm_66 rfl ki_0 ?_
  refine ev_istore (pc' := 69) (lv' := [some (.ref 115), some (.int 14), some (.int 2), some (.int 2), some (.int 1), some (.int 0)]) dX8_layForm_67 rfl (Nat.le_of_ble_eq_true rfl) rfl rfl ?_
  refine ev_iload (pc' := 71) dX8_layForm_69 rfl rfl ?_
  refine ev_iconst (pc' := 72) (v := 4) dX8_layForm_71 rfl ki_4 ?_
  refine ev_icmp_ge (tgt := 124) (pc' := 75) dX8_layForm_72 rfl rfl (fun h => absurd h (by decide)) (fun _ => ?_)
  refine ev_aload_n (pc' := 76) (i := 0) dX8_layForm_75 rfl rfl rfl ?_
  refine ev_getR (pc' := 79) fo_X8_26 dX8_layForm_76 rfl hs_115 rfl rf_115_8 ?_
  refine ev_iconst (pc' := 80) (v := 4) dX8_layForm_79 rfl ki_4 ?_
  refine ev_iload_n (pc' := 81) (i := 3) dX8_layForm_80 rfl rfl rfl ?_
  refine ev_imul (pc' := 82) (v := 8) dX8_layForm_81 rfl (by decide) ?_
  refine ev_iload (pc' := 84) dX8_layForm_82 rfl rfl ?_
  refine ev_iadd (pc' := 85) (v := 8) dX8_layForm_84 rfl (by decide) ?_
  refine ev_iload (pc' := 87) dX8_layForm_85 rfl rfl ?_
  refine ev_if_eq (tgt := 105) (pc' := 90) dX8_layForm_87 rfl rfl (fun h => absurd h (by decide)) (fun _ => ?_)
  refine ev_aload_n (pc' := 91) (i := 0) dX8_layForm_90 rfl rfl rfl ?_
  refine ev_getR (pc' := 94) fo_X8_67 dX8_layForm_91 rfl hs_115 rfl rf_115_24 ?_
  refine ev_iconst (pc' := 95) (v := 4) dX8_layForm_94 rfl ki_4 ?_
  refine ev_iload_n (pc' := 96) (i := 3) dX8_layForm_95 rfl rfl rfl ?_
  refine ev_imul (pc' := 97) (v := 8) dX8_layForm_96 rfl (by decide) ?_
  refine ev_iload (pc' := 99) dX8_layForm_97 rfl rfl ?_
  refine ev_iadd (pc' := 100) (v := 8) dX8_layForm_99 rfl (by decide) ?_
  refine ev_iald (pc' := 101) (j := 8) (v := (I 133) 8) dX8_layForm_100 rfl hs_133 rfl (Nat.le_of_ble_eq_true rfl) (Nat.le_of_ble_eq_true rfl) rfl ?_
  refine ev_i2l (pc' := 102) (v := Int32.toInt64 ((I 133) 8)) dX8_layForm_101 rfl rfl ?_
  refine ev_goto (tgt := 117) dX8_layForm_102 rfl ?_
  refine ev_last (pc' := 118) (j := 8) (L' := (ma_up (ma_up L 132 (ma_up (ma_up (ma_up (ma_up (ma_up (L 132) 0 0) 1 (((0 + (mW (mSel 7 (I 133) (I 134)))) + (mW (mSel 11 (I 133) (I 134)))) + (mW (mSel 13 (I 133) (I 134))))) 2 ((((((0 + (mW (mSel 3 (I 133) (I 134)))) + (mW (mSel 5 (I 133) (I 134)))) + (mW (mSel 6 (I 133) (I 134)))) + (mW (mSel 9 (I 133) (I 134)))) + (mW (mSel 10 (I 133) (I 134)))) + (mW (mSel 12 (I 133) (I 134))))) 3 ((((0 + (mW (mSel 1 (I 133) (I 134)))) + (mW (mSel 2 (I 133) (I 134)))) + (mW (mSel 4 (I 133) (I 134)))) + (mW (mSel 8 (I 133) (I 134))))) 4 (0 + (mW (mSel 0 (I 133) (I 134)))))) 120 (ma_up (ma_up (ma_up (ma_up (ma_up (ma_up (ma_up (ma_up (ma_up r14 0 (Int32.toInt64 ((I 134) 0))) 1 (Int32.toInt64 ((I 134) 1))) 2 (Int32.toInt64 ((I 134) 2))) 3 (Int32.toInt64 ((I 134) 3))) 4 (Int32.toInt64 ((I 133) 4))) 5 (Int32.toInt64 ((I 133) 5))) 6 (Int32.toInt64 ((I 133) 6))) 7 (Int32.toInt64 ((I 133) 7))) 8 (Int32.toInt64 ((I 133) 8))))) dX8_layForm_117 rfl hs_120 rfl (Nat.le_of_ble_eq_true rfl) (Nat.le_of_ble_eq_true rfl) (ma_up_up _ _ _ _) ?_
  refine ev_iinc (pc' := 121) (v := 1) (lv' := [some (.ref 115), some (.int 14), some (.int 2), some (.int 2), some (.int 1), some (.int 1)]) dX8_layForm_118 rfl rfl (by decide) (Nat.le_of_ble_eq_true rfl) rfl rfl ?_
  refine ev_goto (tgt := 69) dX8_layForm_121 rfl ?_
  refine ev_iload (pc' := 71) dX8_layForm_69 rfl rfl ?_
  refine ev_iconst (pc' := 72) (v := 4) dX8_layForm_71 rfl ki_4 ?_
  refine ev_icmp_ge (tgt := 124) (pc' := 75) dX8_layForm_72 rfl rfl (fun h => absurd h (by decide)) (fun _ => ?_)
  refine ev_aload_n (pc' := 76) (i := 0) dX8_layForm_75 rfl rfl rfl ?_
  refine ev_getR (pc' := 79) fo_X8_26 dX8_layForm_76 rfl hs_115 rfl rf_115_8 ?_
  refine ev_iconst (pc' := 80) (v := 4) dX8_layForm_79 rfl ki_4 ?_
  refine ev_iload_n (pc' := 81) (i := 3) dX8_layForm_80 rfl rfl rfl ?_
  refine ev_imul (pc' := 82) (v := 8) dX8_layForm_81 rfl (by decide) ?_
  refine ev_iload (pc' := 84) dX8_layForm_82 rfl rfl ?_
  refine ev_iadd (pc' := 85) (v := 9) dX8_layForm_84 rfl (by decide) ?_
  refine ev_iload (pc' := 87) dX8_layForm_85 rfl rfl ?_
  refine ev_if_eq (tgt := 105) (pc' := 90) dX8_layForm_87 rfl rfl (fun h => absurd h (by decide)) (fun _ => ?_)
  refine ev_aload_n (pc' := 91) (i := 0) dX8_layForm_90 rfl rfl rfl ?_
  refine ev_getR (pc' := 94) fo_X8_67 dX8_layForm_91 rfl hs_115 rfl rf_115_24 ?_
  refine ev_iconst (pc' := 95) (v := 4) dX8_layForm_94 rfl ki_4 ?_
  refine ev_iload_n (pc' := 96) (i := 3) dX8_layForm_95 rfl rfl rfl ?_
  refine ev_imul (pc' := 97) (v := 8) dX8_layForm_96 rfl (by decide) ?_
  refine ev_iload (pc' := 99) dX8_layForm_97 rfl rfl ?_
  refine ev_iadd (pc' := 100) (v := 9) dX8_layForm_99 rfl (by decide) ?_
  refine ev_iald (pc' := 101) (j := 9) (v := (I 133) 9) dX8_layForm_100 rfl hs_133 rfl (Nat.le_of_ble_eq_true rfl) (Nat.le_of_ble_eq_true rfl) rfl ?_
  refine ev_i2l (pc' := 102) (v := Int32.toInt64 ((I 133) 9)) dX8_layForm_101 rfl rfl ?_
  refine ev_goto (tgt := 117) dX8_layForm_102 rfl ?_
  refine ev_last (pc' := 118) (j := 9) (L' := (ma_up (ma_up L 132 (ma_up (ma_up (ma_up (ma_up (ma_up (L 132) 0 0) 1 (((0 + (mW (mSel 7 (I 133) (I 134)))) + (mW (mSel 11 (I 133) (I 134)))) + (mW (mSel 13 (I 133) (I 134))))) 2 ((((((0 + (mW (mSel 3 (I 133) (I 134)))) + (mW (mSel 5 (I 133) (I 134)))) + (mW (mSel 6 (I 133) (I 134)))) + (mW (mSel 9 (I 133) (I 134)))) + (mW (mSel 10 (I 133) (I 134)))) + (mW (mSel 12 (I 133) (I 134))))) 3 ((((0 + (mW (mSel 1 (I 133) (I 134)))) + (mW (mSel 2 (I 133) (I 134)))) + (mW (mSel 4 (I 133) (I 134)))) + (mW (mSel 8 (I 133) (I 134))))) 4 (0 + (mW (mSel 0 (I 133) (I 134)))))) 120 (ma_up (ma_up (ma_up (ma_up (ma_up (ma_up (ma_up (ma_up (ma_up (ma_up r14 0 (Int32.toInt64 ((I 134) 0))) 1 (Int32.toInt64 ((I 134) 1))) 2 (Int32.toInt64 ((I 134) 2))) 3 (Int32.toInt64 ((I 134) 3))) 4 (Int32.toInt64 ((I 133) 4))) 5 (Int32.toInt64 ((I 133) 5))) 6 (Int32.toInt64 ((I 133) 6))) 7 (Int32.toInt64 ((I 133) 7))) 8 (Int32.toInt64 ((I 133) 8))) 9 (Int32.toInt64 ((I 133) 9))))) dX8_layForm_117 rfl hs_120 rfl (Nat.le_of_ble_eq_true rfl) (Nat.le_of_ble_eq_true rfl) (ma_up_up _ _ _ _) ?_
  refine ev_iinc (pc' := 121) (v := 2) (lv' := [some (.ref 115), some (.int 14), some (.int 2), some (.int 2), some (.int 1), some (.int 2)]) dX8_layForm_118 rfl rfl (by decide) (Nat.le_of_ble_eq_true rfl) rfl rfl ?_
  refine ev_goto (tgt := 69) dX8_layForm_121 rfl ?_
  refine ev_iload (pc' := 71) dX8_layForm_69 rfl rfl ?_
  refine ev_iconst (pc' := 72) (v := 4) dX8_layForm_71 rfl ki_4 ?_
  refine ev_icmp_ge (tgt := 124) (pc' := 75) dX8_layForm_72 rfl rfl (fun h => absurd h (by decide)) (fun _ => ?_)
  refine ev_aload_n (pc' := 76) (i := 0) dX8_layForm_75 rfl rfl rfl ?_
  refine ev_getR (pc' := 79) fo_X8_26 dX8_layForm_76 rfl hs_115 rfl rf_115_8 ?_
  refine ev_iconst (pc' := 80) (v := 4) dX8_layForm_79 rfl ki_4 ?_
  refine ev_iload_n (pc' := 81) (i := 3) dX8_layForm_80 rfl rfl rfl ?_
  refine ev_imul (pc' := 82) (v := 8) dX8_layForm_81 rfl (by decide) ?_
  refine ev_iload (pc' := 84) dX8_layForm_82 rfl rfl ?_
  refine ev_iadd (pc' := 85) (v := 10) dX8_layForm_84 rfl (by decide) ?_
  refine ev_iload (pc' := 87) dX8_layForm_85 rfl rfl ?_
  refine ev_if_eq (tgt := 105) (pc' := 90) dX8_layForm_87 rfl rfl (fun h => absurd h (by decide)) (fun _ => ?_)
  refine ev_aload_n (pc' := 91) (i := 0) dX8_layForm_90 rfl rfl rfl ?_
  refine ev_getR (pc' := 94) fo_X8_67 dX8_layForm_91 rfl hs_115 rfl rf_115_24 ?_
  refine ev_iconst (pc' := 95) (v := 4) dX8_layForm_94 rfl ki_4 ?_
  refine ev_iload_n (pc' := 96) (i := 3) dX8_layForm_95 rfl rfl rfl ?_
  refine ev_imul (pc' := 97) (v := 8) dX8_layForm_96 rfl (by decide) ?_
  refine ev_iload (pc' := 99) dX8_layForm_97 rfl rfl ?_
  refine ev_iadd (pc' := 100) (v := 10) dX8_layForm_99 rfl (by decide) ?_
  refine ev_iald (pc' := 101) (j := 10) (v := (I 133) 10) dX8_layForm_100 rfl hs_133 rfl (Nat.le_of_ble_eq_true rfl) (Nat.le_of_ble_eq_true rfl) rfl ?_
  refine ev_i2l (pc' := 102) (v := Int32.toInt64 ((I 133) 10)) dX8_layForm_101 rfl rfl ?_
  refine ev_goto (tgt := 117) dX8_layForm_102 rfl ?_
  refine ev_last (pc' := 118) (j := 10) (L' := (ma_up (ma_up L 132 (ma_up (ma_up (ma_up (ma_up (ma_up (L 132) 0 0) 1 (((0 + (mW (mSel 7 (I 133) (I 134)))) + (mW (mSel 11 (I 133) (I 134)))) + (mW (mSel 13 (I 133) (I 134))))) 2 ((((((0 + (mW (mSel 3 (I 133) (I 134)))) + (mW (mSel 5 (I 133) (I 134)))) + (mW (mSel 6 (I 133) (I 134)))) + (mW (mSel 9 (I 133) (I 134)))) + (mW (mSel 10 (I 133) (I 134)))) + (mW (mSel 12 (I 133) (I 134))))) 3 ((((0 + (mW (mSel 1 (I 133) (I 134)))) + (mW (mSel 2 (I 133) (I 134)))) + (mW (mSel 4 (I 133) (I 134)))) + (mW (mSel 8 (I 133) (I 134))))) 4 (0 + (mW (mSel 0 (I 133) (I 134)))))) 120 (ma_up (ma_up (ma_up (ma_up (ma_up (ma_up (ma_up (ma_up (ma_up (ma_up (ma_up r14 0 (Int32.toInt64 ((I 134) 0))) 1 (Int32.toInt64 ((I 134) 1))) 2 (Int32.toInt64 ((I 134) 2))) 3 (Int32.toInt64 ((I 134) 3))) 4 (Int32.toInt64 ((I 133) 4))) 5 (Int32.toInt64 ((I 133) 5))) 6 (Int32.toInt64 ((I 133) 6))) 7 (Int32.toInt64 ((I 133) 7))) 8 (Int32.toInt64 ((I 133) 8))) 9 (Int32.toInt64 ((I 133) 9))) 10 (Int32.toInt64 ((I 133) 10))))) dX8_layForm_117 rfl hs_120 rfl (Nat.le_of_ble_eq_true rfl) (Nat.le_of_ble_eq_true rfl) (ma_up_up _ _ _ _) ?_
  refine ev_iinc (pc' := 121) (v := 3) (lv' := [some (.ref 115), some (.int 14), some (.int 2), some (.int 2), some (.int 1), some (.int 3)]) dX8_layForm_118 rfl rfl (by decide) (Nat.le_of_ble_eq_true rfl) rfl rfl ?_
  refine ev_goto (tgt := 69) dX8_layForm_121 rfl ?_
  refine ev_iload (pc' := 71) dX8_layForm_69 rfl rfl ?_
  refine ev_iconst (pc' := 72) (v := 4) dX8_layForm_71 rfl ki_4 ?_
  refine ev_icmp_ge (tgt := 124) (pc' := 75) dX8_layForm_72 rfl rfl (fun h => absurd h (by decide)) (fun _ => ?_)
  refine ev_aload_n (pc' := 76) (i := 0) dX8_layForm_75 rfl rfl rfl ?_
  refine ev_getR (pc' := 79) fo_X8_26 dX8_layForm_76 rfl hs_115 rfl rf_115_8 ?_
  refine ev_iconst (pc' := 80) (v := 4) dX8_layForm_79 rfl ki_4 ?_
  refine ev_iload_n (pc' := 81) (i := 3) dX8_layForm_80 rfl rfl rfl ?_
  refine ev_imul (pc' := 82) (v := 8) dX8_layForm_81 rfl (by decide) ?_
  refine ev_iload (pc' := 84) dX8_layForm_82 rfl rfl ?_
  refine ev_iadd (pc' := 85) (v := 11) dX8_layForm_84 rfl (by decide) ?_
  refine ev_iload (pc' := 87) dX8_layForm_85 rfl rfl ?_
  refine ev_if_eq (tgt := 105) (pc' := 90) dX8_layForm_87 rfl rfl (fun h => absurd h (by decide)) (fun _ => ?_)
  refine ev_aload_n (pc' := 91) (i := 0) dX8_layForm_90 rfl rfl rfl ?_
  refine ev_getR (pc' := 94) fo_X8_67 dX8_layForm_91 rfl hs_115 rfl rf_115_24 ?_
  refine ev_iconst (pc' := 95) (v := 4) dX8_layForm_94 rfl ki_4 ?_
  refine ev_iload_n (pc' := 96) (i := 3) dX8_layForm_95 rfl rfl rfl ?_
  refine ev_imul (pc' := 97) (v := 8) dX8_layForm_96 rfl (by decide) ?_
  refine ev_iload (pc' := 99) dX8_layForm_97 rfl rfl ?_
  refine ev_iadd (pc' := 100) (v := 11) dX8_layForm_99 rfl (by decide) ?_
  refine ev_iald (pc' := 101) (j := 11) (v := (I 133) 11) dX8_layForm_100 rfl hs_133 rfl (Nat.le_of_ble_eq_true rfl) (Nat.le_of_ble_eq_true rfl) rfl ?_
  refine ev_i2l (pc' := 102) (v := Int32.toInt64 ((I 133) 11)) dX8_layForm_101 rfl rfl ?_
  refine ev_goto (tgt := 117) dX8_layForm_102 rfl ?_
  refine ev_last (pc' := 118) (j := 11) (L' := (ma_up (ma_up L 132 (ma_up (ma_up (ma_up (ma_up (ma_up (L 132) 0 0) 1 (((0 + (mW (mSel 7 (I 133) (I 134)))) + (mW (mSel 11 (I 133) (I 134)))) + (mW (mSel 13 (I 133) (I 134))))) 2 ((((((0 + (mW (mSel 3 (I 133) (I 134)))) + (mW (mSel 5 (I 133) (I 134)))) + (mW (mSel 6 (I 133) (I 134)))) + (mW (mSel 9 (I 133) (I 134)))) + (mW (mSel 10 (I 133) (I 134)))) + (mW (mSel 12 (I 133) (I 134))))) 3 ((((0 + (mW (mSel 1 (I 133) (I 134)))) + (mW (mSel 2 (I 133) (I 134)))) + (mW (mSel 4 (I 133) (I 134)))) + (mW (mSel 8 (I 133) (I 134))))) 4 (0 + (mW (mSel 0 (I 133) (I 134)))))) 120 (ma_up (ma_up (ma_up (ma_up (ma_up (ma_up (ma_up (ma_up (ma_up (ma_up (ma_up (ma_up r14 0 (Int32.toInt64 ((I 134) 0))) 1 (Int32.toInt64 ((I 134) 1))) 2 (Int32.toInt64 ((I 134) 2))) 3 (Int32.toInt64 ((I 134) 3))) 4 (Int32.toInt64 ((I 133) 4))) 5 (Int32.toInt64 ((I 133) 5))) 6 (Int32.toInt64 ((I 133) 6))) 7 (Int32.toInt64 ((I 133) 7))) 8 (Int32.toInt64 ((I 133) 8))) 9 (Int32.toInt64 ((I 133) 9))) 10 (Int32.toInt64 ((I 133) 10))) 11 (Int32.toInt64 ((I 133) 11))))) dX8_layForm_117 rfl hs_120 rfl (Nat.le_of_ble_eq_true rfl) (Nat.le_of_ble_eq_true rfl) (ma_up_up _ _ _ _) ?_
  refine ev_iinc (pc' := 121) (v := 4) (lv' := [some (.ref 115), some (.int 14), some (.int 2), some (.int 2), some (.int 1), some (.int 4)]) dX8_layForm_118 rfl rfl (by decide) (Nat.le_of_ble_eq_true rfl) rfl rfl ?_
  refine ev_goto (tgt := 69) dX8_layForm_121 rfl ?_
  refine ev_iload (pc' := 71) dX8_layForm_69 rfl rfl ?_
  refine ev_iconst (pc' := 72) (v := 4) dX8_layForm_71 rfl ki_4 ?_
  refine ev_icmp_ge (tgt := 124) (pc' := 75) dX8_layForm_72 rfl rfl (fun _ => ?_) (fun h => absurd (by decide) h)
  refine ev_iinc (pc' := 127) (v := 3) (lv' := [some (.ref 115), some (.int 14), some (.int 2), some (.int 3), some (.int 1), some (.int 4)]) dX8_layForm_124 rfl rfl (by decide) (Nat.le_of_ble_eq_true rfl) rfl rfl ?_
  refine ev_goto (tgt := 32) dX8_layForm_127 rfl ?_
  refine ev_iload_n (pc' := 33) (i := 3) dX8_layForm_32 rfl rfl rfl ?_
  refine ev_iconst (pc' := 34) (v := 4) dX8_layForm_33 rfl ki_4 ?_
  refine ev_icmp_ge (tgt := 130) (pc' := 37) dX8_layForm_34 rfl rfl (fun h => absurd h (by decide)) (fun _ => ?_)
  refine ev_iload_n (pc' := 38) (i := 1) dX8_layForm_37 rfl rfl rfl ?_
  refine ev_iload_n (pc' := 39) (i := 3) dX8_layForm_38 rfl rfl rfl ?_
  refine ev_ishr (pc' := 40) (v := 1) dX8_layForm_39 rfl (by decide) ?_
  refine ev_iconst (pc' := 41) (v := 1) dX8_layForm_40 rfl ki_1 ?_
  refine ev_iand (pc' := 42) (v := 1) dX8_layForm_41 rfl (by decide) ?_
  refine ev_iconst (pc' := 43) (v := 1) dX8_layForm_42 rfl ki_1 ?_
  refine ev_icmp_ne (tgt := 50) (pc' := 46) dX8_layForm_43 rfl rfl (fun h => absurd (by decide) h) (fun _ => ?_)
  refine ev_iconst (pc' := 47) (v := 1) dX8_layForm_46 rfl ki_1 ?_
  refine ev_goto (tgt := 51) dX8_layForm_47 rfl ?_
  refine ev_istore (pc' := 53) (lv' := [some (.ref 115), some (.int 14), some (.int 2), some (.int 3), some (.int 1), some (.int 4)]) dX8_layForm_51 rfl (Nat.le_of_ble_eq_true rfl) rfl rfl ?_
  refine ev_iload_n (pc' := 54) (i := 2) dX8_layForm_53 rfl rfl rfl ?_
  refine ev_iload (pc' := 56) dX8_layForm_54 rfl rfl ?_
  refine ev_if_eq (tgt := 63) (pc' := 59) dX8_layForm_56 rfl rfl (fun h => absurd h (by decide)) (fun _ => ?_)
  refine ev_iconst (pc' := 60) (v := 1) dX8_layForm_59 rfl ki_1 ?_
  refine ev_goto (tgt := 64) dX8_layForm_60 rfl ?_
  refine ev_iadd (pc' := 65) (v := 3) dX8_layForm_64 rfl (by decide) ?_
  refine ev_istore_n (pc' := 66) (i := 2) (lv' := [some (.ref 115), some (.int 14), some (.int 3), some (.int 3), some (.int 1), some (.int 4)]) dX8_layForm_65 rfl rfl (Nat.le_of_ble_eq_true rfl) rfl rfl ?_
  refine ev_iconst (pc' := 67) (v := 0) dX8_layForm_66 rfl ki_0 ?_
  refine ev_istore (pc' := 69) (lv' := [some (.ref 115), some (.int 14), some (.int 3), some (.int 3), some (.int 1), some (.int 0)]) dX8_layForm_67 rfl (Nat.le_of_ble_eq_true rfl) rfl rfl ?_
  refine ev_iload (pc' := 71) dX8_layForm_69 rfl rfl ?_
  refine ev_iconst (pc' := 72) (v := 4) dX8_layForm_71 rfl ki_4 ?_
  refine ev_icmp_ge (tgt := 124) (pc' := 75) dX8_layForm_72 rfl rfl (fun h => absurd h (by decide)) (fun _ => ?_)
  refine ev_aload_n (pc' := 76) (i := 0) dX8_layForm_75 rfl rfl rfl ?_
  refine ev_getR (pc' := 79) fo_X8_26 dX8_layForm_76 rfl hs_115 rfl rf_115_8 ?_
  refine ev_iconst (pc' := 80) (v := 4) dX8_layForm_79 rfl ki_4 ?_
  refine ev_iload_n (pc' := 81) (i := 3) dX8_layForm_80 rfl rfl rfl ?_
  refine ev_imul (pc' := 82) (v := 12) dX8_layForm_81 rfl (by decide) ?_
  refine ev_iload (pc' := 84) dX8_layForm_82 rfl rfl ?_
  refine ev_iadd (pc' := 85) (v := 12) dX8_layForm_84 rfl (by decide) ?_
  refine ev_iload (pc' := 87) dX8_layForm_85 rfl rfl ?_
  refine ev_if_eq (tgt := 105) (pc' := 90) dX8_layForm_87 rfl rfl (fun h => absurd h (by decide)) (fun _ => ?_)
  refine ev_aload_n (pc' := 91) (i := 0) dX8_layForm_90 rfl rfl rfl ?_
  refine ev_getR (pc' := 94) fo_X8_67 dX8_layForm_91 rfl hs_115 rfl rf_115_24 ?_
  refine ev_iconst (pc' := 95) (v := 4) dX8_layForm_94 rfl ki_4 ?_
  refine ev_iload_n (pc' := 96) (i := 3) dX8_layForm_95 rfl rfl rfl ?_
  refine ev_imul (pc' := 97) (v := 12) dX8_layForm_96 rfl (by decide) ?_
  refine ev_iload (pc' := 99) dX8_layForm_97 rfl rfl ?_
  refine ev_iadd (pc' := 100) (v := 12) dX8_layForm_99 rfl (by decide) ?_
  refine ev_iald (pc' := 101) (j := 12) (v := (I 133) 12) dX8_layForm_100 rfl hs_133 rfl (Nat.le_of_ble_eq_true rfl) (Nat.le_of_ble_eq_true rfl) rfl ?_
  refine ev_i2l (pc' := 102) (v := Int32.toInt64 ((I 133) 12)) dX8_layForm_101 rfl rfl ?_
  refine ev_goto (tgt := 117) dX8_layForm_102 rfl ?_
  refine ev_last (pc' := 118) (j := 12) (L' := (ma_up (ma_up L 132 (ma_up (ma_up (ma_up (ma_up (ma_up (L 132) 0 0) 1 (((0 + (mW (mSel 7 (I 133) (I 134)))) + (mW (mSel 11 (I 133) (I 134)))) + (mW (mSel 13 (I 133) (I 134))))) 2 ((((((0 + (mW (mSel 3 (I 133) (I 134)))) + (mW (mSel 5 (I 133) (I 134)))) + (mW (mSel 6 (I 133) (I 134)))) + (mW (mSel 9 (I 133) (I 134)))) + (mW (mSel 10 (I 133) (I 134)))) + (mW (mSel 12 (I 133) (I 134))))) 3 ((((0 + (mW (mSel 1 (I 133) (I 134)))) + (mW (mSel 2 (I 133) (I 134)))) + (mW (mSel 4 (I 133) (I 134)))) + (mW (mSel 8 (I 133) (I 134))))) 4 (0 + (mW (mSel 0 (I 133) (I 134)))))) 120 (ma_up (ma_up (ma_up (ma_up (ma_up (ma_up (ma_up (ma_up (ma_up (ma_up (ma_up (ma_up (ma_up r14 0 (Int32.toInt64 ((I 134) 0))) 1 (Int32.toInt64 ((I 134) 1))) 2 (Int32.toInt64 ((I 134) 2))) 3 (Int32.toInt64 ((I 134) 3))) 4 (Int32.toInt64 ((I 133) 4))) 5 (Int32.toInt64 ((I 133) 5))) 6 (Int32.toInt64 ((I 133) 6))) 7 (Int32.toInt64 ((I 133) 7))) 8 (Int32.toInt64 ((I 133) 8))) 9 (Int32.toInt64 ((I 133) 9))) 10 (Int32.toInt64 ((I 133) 10))) 11 (Int32.toInt64 ((I 133) 11))) 12 (Int32.toInt64 ((I 133) 12))))) dX8_layForm_117 rfl hs_120 rfl (Nat.le_of_ble_eq_true rfl) (Nat.le_of_ble_eq_true rfl) (ma_up_up _ _ _ _) ?_
  refine ev_iinc (pc' := 121) (v := 1) (lv' := [some (.ref 115), some (.int 14), some (.int 3), some (.int 3), some (.int 1), some (.int 1)]) dX8_layForm_118 rfl rfl (by decide) (Nat.le_of_ble_eq_true rfl) rfl rfl ?_
  refine ev_goto (tgt := 69) dX8_layForm_121 rfl ?_
  refine ev_iload (pc' := 71) dX8_layForm_69 rfl rfl ?_
  refine ev_iconst (pc' := 72) (v := 4) dX8_layForm_71 rfl ki_4 ?_
  refine ev_icmp_ge (tgt := 124) (pc' := 75) dX8_layForm_72 rfl rfl (fun h => absurd h (by decide)) (fun _ => ?_)
  refine ev_aload_n (pc' := 76) (i := 0) dX8_layForm_75 rfl rfl rfl ?_
  refine ev_getR (pc' := 79) fo_X8_26 dX8_layForm_76 rfl hs_115 rfl rf_115_8 ?_
  refine ev_iconst (pc' := 80) (v := 4) dX8_layForm_79 rfl ki_4 ?_
  refine ev_iload_n (pc' := 81) (i := 3) dX8_layForm_80 rfl rfl rfl ?_
  refine ev_imul (pc' := 82) (v := 12) dX8_layForm_81 rfl (by decide) ?_
  refine ev_iload (pc' := 84) dX8_layForm_82 rfl rfl ?_
  refine ev_iadd (pc' := 85) (v := 13) dX8_layForm_84 rfl (by decide) ?_
  refine ev_iload (pc' := 87) dX8_layForm_85 rfl rfl ?_
  refine ev_if_eq (tgt := 105) (pc' := 90) dX8_layForm_87 rfl rfl (fun h => absurd h (by decide)) (fun _ => ?_)
  refine ev_aload_n (pc' := 91) (i := 0) dX8_layForm_90 rfl rfl rfl ?_
  refine ev_getR (pc' := 94) fo_X8_67 dX8_layForm_91 rfl hs_115 rfl rf_115_24 ?_
  refine ev_iconst (pc' := 95) (v := 4) dX8_layForm_94 rfl ki_4 ?_
  refine ev_iload_n (pc' := 96) (i := 3) dX8_layForm_95 rfl rfl rfl ?_
  refine ev_imul (pc' := 97) (v := 12) dX8_layForm_96 rfl (by decide) ?_
  refine ev_iload (pc' := 99) dX8_layForm_97 rfl rfl ?_
  refine ev_iadd (pc' := 100) (v := 13) dX8_layForm_99 rfl (by decide) ?_
  refine ev_iald (pc' := 101) (j := 13) (v := (I 133) 13) dX8_layForm_100 rfl hs_133 rfl (Nat.le_of_ble_eq_true rfl) (Nat.le_of_ble_eq_true rfl) rfl ?_
  refine ev_i2l (pc' := 102) (v := Int32.toInt64 ((I 133) 13)) dX8_layForm_101 rfl rfl ?_
  refine ev_goto (tgt := 117) dX8_layForm_102 rfl ?_
  refine ev_last (pc' := 118) (j := 13) (L' := (ma_up (ma_up L 132 (ma_up (ma_up (ma_up (ma_up (ma_up (L 132) 0 0) 1 (((0 + (mW (mSel 7 (I 133) (I 134)))) + (mW (mSel 11 (I 133) (I 134)))) + (mW (mSel 13 (I 133) (I 134))))) 2 ((((((0 + (mW (mSel 3 (I 133) (I 134)))) + (mW (mSel 5 (I 133) (I 134)))) + (mW (mSel 6 (I 133) (I 134)))) + (mW (mSel 9 (I 133) (I 134)))) + (mW (mSel 10 (I 133) (I 134)))) + (mW (mSel 12 (I 133) (I 134))))) 3 ((((0 + (mW (mSel 1 (I 133) (I 134)))) + (mW (mSel 2 (I 133) (I 134)))) + (mW (mSel 4 (I 133) (I 134)))) + (mW (mSel 8 (I 133) (I 134))))) 4 (0 + (mW (mSel 0 (I 133) (I 134)))))) 120 (ma_up (ma_up (ma_up (ma_up (ma_up (ma_up (ma_up (ma_up (ma_up (ma_up (ma_up (ma_up (ma_up (ma_up r14 0 (Int32.toInt64 ((I 134) 0))) 1 (Int32.toInt64 ((I 134) 1))) 2 (Int32.toInt64 ((I 134) 2))) 3 (Int32.toInt64 ((I 134) 3))) 4 (Int32.toInt64 ((I 133) 4))) 5 (Int32.toInt64 ((I 133) 5))) 6 (Int32.toInt64 ((I 133) 6))) 7 (Int32.toInt64 ((I 133) 7))) 8 (Int32.toInt64 ((I 133) 8))) 9 (Int32.toInt64 ((I 133) 9))) 10 (Int32.toInt64 ((I 133) 10))) 11 (Int32.toInt64 ((I 133) 11))) 12 (Int32.toInt64 ((I 133) 12))) 13 (Int32.toInt64 ((I 133) 13))))) dX8_layForm_117 rfl hs_120 rfl (Nat.le_of_ble_eq_true rfl) (Nat.le_of_ble_eq_true rfl) (ma_up_up _ _ _ _) ?_
  refine ev_iinc (pc' := 121) (v := 2) (lv' := [some (.ref 115), some (.int 14), some (.int 3), some (.int 3), some (.int 1), some (.int 2)]) dX8_layForm_118 rfl rfl (by decide) (Nat.le_of_ble_eq_true rfl) rfl rfl ?_
  refine ev_goto (tgt := 69) dX8_layForm_121 rfl ?_
  refine ev_iload (pc' := 71) dX8_layForm_69 rfl rfl ?_
  refine ev_iconst (pc' := 72) (v := 4) dX8_layForm_71 rfl ki_4 ?_
  refine ev_icmp_ge (tgt := 124) (pc' := 75) dX8_layForm_72 rfl rfl (fun h => absurd h (by decide)) (fun _ => ?_)
  refine ev_aload_n (pc' := 76) (i := 0) dX8_layForm_75 rfl rfl rfl ?_
  refine ev_getR (pc' := 79) fo_X8_26 dX8_layForm_76 rfl hs_115 rfl rf_115_8 ?_
  refine ev_iconst (pc' := 80) (v := 4) dX8_layForm_79 rfl ki_4 ?_
  refine ev_iload_n (pc' := 81) (i := 3) dX8_layForm_80 rfl rfl rfl ?_
  refine ev_imul (pc' := 82) (v := 12) dX8_layForm_81 rfl (by decide) ?_
  refine ev_iload (pc' := 84) dX8_layForm_82 rfl rfl ?_
  refine ev_iadd (pc' := 85) (v := 14) dX8_layForm_84 rfl (by decide) ?_
  refine ev_iload (pc' := 87) dX8_layForm_85 rfl rfl ?_
  refine ev_if_eq (tgt := 105) (pc' := 90) dX8_layForm_87 rfl rfl (fun h => absurd h (by decide)) (fun _ => ?_)
  refine ev_aload_n (pc' := 91) (i := 0) dX8_layForm_90 rfl rfl rfl ?_
  refine ev_getR (pc' := 94) fo_X8_67 dX8_layForm_91 rfl hs_115 rfl rf_115_24 ?_
  refine ev_iconst (pc' := 95) (v := 4) dX8_layForm_94 rfl ki_4 ?_
  refine ev_iload_n (pc' := 96) (i := 3) dX8_layForm_95 rfl rfl rfl ?_
  refine ev_imul (pc' := 97) (v := 12) dX8_layForm_96 rfl (by decide) ?_
  refine ev_iload (pc' := 99) dX8_layForm_97 rfl rfl ?_
  refine ev_iadd (pc' := 100) (v := 14) dX8_layForm_99 rfl (by decide) ?_
  refine ev_iald (pc' := 101) (j := 14) (v := (I 133) 14) dX8_layForm_100 rfl hs_133 rfl (Nat.le_of_ble_eq_true rfl) (Nat.le_of_ble_eq_true rfl) rfl ?_
  refine ev_i2l (pc' := 102) (v := Int32.toInt64 ((I 133) 14)) dX8_layForm_101 rfl rfl ?_
  refine ev_goto (tgt := 117) dX8_layForm_102 rfl ?_
  refine ev_last (pc' := 118) (j := 14) (L' := (ma_up (ma_up L 132 (ma_up (ma_up (ma_up (ma_up (ma_up (L 132) 0 0) 1 (((0 + (mW (mSel 7 (I 133) (I 134)))) + (mW (mSel 11 (I 133) (I 134)))) + (mW (mSel 13 (I 133) (I 134))))) 2 ((((((0 + (mW (mSel 3 (I 133) (I 134)))) + (mW (mSel 5 (I 133) (I 134)))) + (mW (mSel 6 (I 133) (I 134)))) + (mW (mSel 9 (I 133) (I 134)))) + (mW (mSel 10 (I 133) (I 134)))) + (mW (mSel 12 (I 133) (I 134))))) 3 ((((0 + (mW (mSel 1 (I 133) (I 134)))) + (mW (mSel 2 (I 133) (I 134)))) + (mW (mSel 4 (I 133) (I 134)))) + (mW (mSel 8 (I 133) (I 134))))) 4 (0 + (mW (mSel 0 (I 133) (I 134)))))) 120 (ma_up (ma_up (ma_up (ma_up (ma_up (ma_up (ma_up (ma_up (ma_up (ma_up (ma_up (ma_up (ma_up (ma_up (ma_up r14 0 (Int32.toInt64 ((I 134) 0))) 1 (Int32.toInt64 ((I 134) 1))) 2 (Int32.toInt64 ((I 134) 2))) 3 (Int32.toInt64 ((I 134) 3))) 4 (Int32.toInt64 ((I 133) 4))) 5 (Int32.toInt64 ((I 133) 5))) 6 (Int32.toInt64 ((I 133) 6))) 7 (Int32.toInt64 ((I 133) 7))) 8 (Int32.toInt64 ((I 133) 8))) 9 (Int32.toInt64 ((I 133) 9))) 10 (Int32.toInt64 ((I 133) 10))) 11 (Int32.toInt64 ((I 133) 11))) 12 (Int32.toInt64 ((I 133) 12))) 13 (Int32.toInt64 ((I 133) 13))) 14 (Int32.toInt64 ((I 133) 14))))) dX8_layForm_117 rfl hs_120 rfl (Nat.le_of_ble_eq_true rfl) (Nat.le_of_ble_eq_true rfl) (ma_up_up _ _ _ _) ?_
  refine ev_iinc (pc' := 121) (v := 3) (lv' := [some (.ref 115), some (.int 14), some (.int 3), some (.int 3), some (.int 1), some (.int 3)]) dX8_layForm_118 rfl rfl (by decide) (Nat.le_of_ble_eq_true rfl) rfl rfl ?_
  refine ev_goto (tgt := 69) dX8_layForm_121 rfl ?_
  refine ev_iload (pc' := 71) dX8_layForm_69 rfl rfl ?_
  refine ev_iconst (pc' := 72) (v := 4) dX8_layForm_71 rfl ki_4 ?_
  refine ev_icmp_ge (tgt := 124) (pc' := 75) dX8_layForm_72 rfl rfl (fun h => absurd h (by decide)) (fun _ => ?_)
  refine ev_aload_n (pc' := 76) (i := 0) dX8_layForm_75 rfl rfl rfl ?_
  refine ev_getR (pc' := 79) fo_X8_26 dX8_layForm_76 rfl hs_115 rfl rf_115_8 ?_
  refine ev_iconst (pc' := 80) (v := 4) dX8_layForm_79 rfl ki_4 ?_
  refine ev_iload_n (pc' := 81) (i := 3) dX8_layForm_80 rfl rfl rfl ?_
  refine ev_imul (pc' := 82) (v := 12) dX8_layForm_81 rfl (by decide) ?_
  refine ev_iload (pc' := 84) dX8_layForm_82 rfl rfl ?_
  refine ev_iadd (pc' := 85) (v := 15) dX8_layForm_84 rfl (by decide) ?_
  refine ev_iload (pc' := 87) dX8_layForm_85 rfl rfl ?_
  refine ev_if_eq (tgt := 105) (pc' := 90) dX8_layForm_87 rfl rfl (fun h => absurd h (by decide)) (fun _ => ?_)
  refine ev_aload_n (pc' := 91) (i := 0) dX8_layForm_90 rfl rfl rfl ?_
  refine ev_getR (pc' := 94) fo_X8_67 dX8_layForm_91 rfl hs_115 rfl rf_115_24 ?_
  refine ev_iconst (pc' := 95) (v := 4) dX8_layForm_94 rfl ki_4 ?_
  refine ev_iload_n (pc' := 96) (i := 3) dX8_layForm_95 rfl rfl rfl ?_
  refine ev_imul (pc' := 97) (v := 12) dX8_layForm_96 rfl (by decide) ?_
  refine ev_iload (pc' := 99) dX8_layForm_97 rfl rfl ?_
  refine ev_iadd (pc' := 100) (v := 15) dX8_layForm_99 rfl (by decide) ?_
  refine ev_iald (pc' := 101) (j := 15) (v := (I 133) 15) dX8_layForm_100 rfl hs_133 rfl (Nat.le_of_ble_eq_true rfl) (Nat.le_of_ble_eq_true rfl) rfl ?_
  refine ev_i2l (pc' := 102) (v := Int32.toInt64 ((I 133) 15)) dX8_layForm_101 rfl rfl ?_
  refine ev_goto (tgt := 117) dX8_layForm_102 rfl ?_
  refine ev_last (pc' := 118) (j := 15) (L' := (ma_up (ma_up L 132 (ma_up (ma_up (ma_up (ma_up (ma_up (L 132) 0 0) 1 (((0 + (mW (mSel 7 (I 133) (I 134)))) + (mW (mSel 11 (I 133) (I 134)))) + (mW (mSel 13 (I 133) (I 134))))) 2 ((((((0 + (mW (mSel 3 (I 133) (I 134)))) + (mW (mSel 5 (I 133) (I 134)))) + (mW (mSel 6 (I 133) (I 134)))) + (mW (mSel 9 (I 133) (I 134)))) + (mW (mSel 10 (I 133) (I 134)))) + (mW (mSel 12 (I 133) (I 134))))) 3 ((((0 + (mW (mSel 1 (I 133) (I 134)))) + (mW (mSel 2 (I 133) (I 134)))) + (mW (mSel 4 (I 133) (I 134)))) + (mW (mSel 8 (I 133) (I 134))))) 4 (0 + (mW (mSel 0 (I 133) (I 134)))))) 120 (ma_up (ma_up (ma_up (ma_up (ma_up (ma_up (ma_up (ma_up (ma_up (ma_up (ma_up (ma_up (ma_up (ma_up (ma_up (ma_up r14 0 (Int32.toInt64 ((I 134) 0))) 1 (Int32.toInt64 ((I 134) 1))) 2 (Int32.toInt64 ((I 134) 2))) 3 (Int32.toInt64 ((I 134) 3))) 4 (Int32.toInt64 ((I 133) 4))) 5 (Int32.toInt64 ((I 133) 5))) 6 (Int32.toInt64 ((I 133) 6))) 7 (Int32.toInt64 ((I 133) 7))) 8 (Int32.toInt64 ((I 133) 8))) 9 (Int32.toInt64 ((I 133) 9))) 10 (Int32.toInt64 ((I 133) 10))) 11 (Int32.toInt64 ((I 133) 11))) 12 (Int32.toInt64 ((I 133) 12))) 13 (Int32.toInt64 ((I 133) 13))) 14 (Int32.toInt64 ((I 133) 14))) 15 (Int32.toInt64 ((I 133) 15))))) dX8_layForm_117 rfl hs_120 rfl (Nat.le_of_ble_eq_true rfl) (Nat.le_of_ble_eq_true rfl) (ma_up_up _ _ _ _) ?_
  refine ev_iinc (pc' := 121) (v := 4) (lv' := [some (.ref 115), some (.int 14), some (.int 3), some (.int 3), some (.int 1), some (.int 4)]) dX8_layForm_118 rfl rfl (by decide) (Nat.le_of_ble_eq_true rfl) rfl rfl ?_
  refine ev_goto (tgt := 69) dX8_layForm_121 rfl ?_
  refine ev_iload (pc' := 71) dX8_layForm_69 rfl rfl ?_
  refine ev_iconst (pc' := 72) (v := 4) dX8_layForm_71 rfl ki_4 ?_
  refine ev_icmp_ge (tgt := 124) (pc' := 75) dX8_layForm_72 rfl rfl (fun _ => ?_) (fun h => absurd (by decide) h)
  refine ev_iinc (pc' := 127) (v := 4) (lv' := [some (.ref 115), some (.int 14), some (.int 3), some (.int 4), some (.int 1), some (.int 4)]) dX8_layForm_124 rfl rfl (by decide) (Nat.le_of_ble_eq_true rfl) rfl rfl ?_
  refine ev_goto (tgt := 32) dX8_layForm_127 rfl ?_
  refine ev_iload_n (pc' := 33) (i := 3) dX8_layForm_32 rfl rfl rfl ?_
  refine ev_iconst (pc' := 34) (v := 4) dX8_layForm_33 rfl ki_4 ?_
  refine ev_icmp_ge (tgt := 130) (pc' := 37) dX8_layForm_34 rfl rfl (fun _ => ?_) (fun h => absurd (by decide) h)
  refine ev_aload_n (pc' := 131) (i := 0) dX8_layForm_130 rfl rfl rfl ?_
  refine ev_getR (pc' := 134) fo_X8_64 dX8_layForm_131 rfl hs_115 rfl rf_115_23 ?_
  refine ev_iconst (pc' := 135) (v := 4) dX8_layForm_134 rfl ki_4 ?_
  refine ev_iload_n (pc' := 136) (i := 2) dX8_layForm_135 rfl rfl rfl ?_
  refine ev_isub (pc' := 137) (v := 1) dX8_layForm_136 rfl (by decide) ?_
  refine ev_dup2 (pc' := 138) dX8_layForm_137 rfl rfl rfl ?_
  refine ev_lald (pc' := 139) (j := 1) (v := ((0 + (mW (mSel 7 (I 133) (I 134)))) + (mW (mSel 11 (I 133) (I 134)))) + (mW (mSel 13 (I 133) (I 134)))) dX8_layForm_138 rfl hs_132 rfl (Nat.le_of_ble_eq_true rfl) (Nat.le_of_ble_eq_true rfl) rfl ?_
  refine ev_aload_n (pc' := 140) (i := 0) dX8_layForm_139 rfl rfl rfl ?_
  refine ev_getR (pc' := 143) fo_X8_26 dX8_layForm_140 rfl hs_115 rfl rf_115_8 ?_
  refine ev_callS (pc' := 146) (rm' := rX8_worthOf) (av := [.ref 120]) (rest := [.long (((0 + (mW (mSel 7 (I 133) (I 134)))) + (mW (mSel 11 (I 133) (I 134)))) + (mW (mSel 13 (I 133) (I 134)))), .int 1, .ref 132]) co_X8_173 cs_X8_worthOf dX8_layForm_143 rfl rfl rfl (Nat.le_of_ble_eq_true rfl) ⟨(Nat.le_of_ble_eq_true rfl), (Nat.le_of_ble_eq_true rfl)⟩ ⟨(Nat.le_of_ble_eq_true rfl), (Nat.le_of_ble_eq_true rfl)⟩ ?_
  refine t_X8_worthOf 120 hs_120 ?_
  refine ev_eql (w := mW (mSel 14 (I 133) (I 134))) rfl ?_
  refine ev_ladd (pc' := 147) (v := (((0 + (mW (mSel 7 (I 133) (I 134)))) + (mW (mSel 11 (I 133) (I 134)))) + (mW (mSel 13 (I 133) (I 134)))) + (mW (mSel 14 (I 133) (I 134)))) dX8_layForm_146 rfl rfl ?_
  refine ev_last (pc' := 148) (j := 1) (L' := (ma_up (ma_up L 132 (ma_up (ma_up (ma_up (ma_up (ma_up (L 132) 0 0) 1 ((((0 + (mW (mSel 7 (I 133) (I 134)))) + (mW (mSel 11 (I 133) (I 134)))) + (mW (mSel 13 (I 133) (I 134)))) + (mW (mSel 14 (I 133) (I 134))))) 2 ((((((0 + (mW (mSel 3 (I 133) (I 134)))) + (mW (mSel 5 (I 133) (I 134)))) + (mW (mSel 6 (I 133) (I 134)))) + (mW (mSel 9 (I 133) (I 134)))) + (mW (mSel 10 (I 133) (I 134)))) + (mW (mSel 12 (I 133) (I 134))))) 3 ((((0 + (mW (mSel 1 (I 133) (I 134)))) + (mW (mSel 2 (I 133) (I 134)))) + (mW (mSel 4 (I 133) (I 134)))) + (mW (mSel 8 (I 133) (I 134))))) 4 (0 + (mW (mSel 0 (I 133) (I 134)))))) 120 (ma_up (ma_up (ma_up (ma_up (ma_up (ma_up (ma_up (ma_up (ma_up (ma_up (ma_up (ma_up (ma_up (ma_up (ma_up (ma_up r14 0 (Int32.toInt64 ((I 134) 0))) 1 (Int32.toInt64 ((I 134) 1))) 2 (Int32.toInt64 ((I 134) 2))) 3 (Int32.toInt64 ((I 134) 3))) 4 (Int32.toInt64 ((I 133) 4))) 5 (Int32.toInt64 ((I 133) 5))) 6 (Int32.toInt64 ((I 133) 6))) 7 (Int32.toInt64 ((I 133) 7))) 8 (Int32.toInt64 ((I 133) 8))) 9 (Int32.toInt64 ((I 133) 9))) 10 (Int32.toInt64 ((I 133) 10))) 11 (Int32.toInt64 ((I 133) 11))) 12 (Int32.toInt64 ((I 133) 12))) 13 (Int32.toInt64 ((I 133) 13))) 14 (Int32.toInt64 ((I 133) 14))) 15 (Int32.toInt64 ((I 133) 15))))) dX8_layForm_147 rfl hs_132 rfl (Nat.le_of_ble_eq_true rfl) (Nat.le_of_ble_eq_true rfl) ((congrArg (ma_up _ 132) ((ma_up_comm _ (show 1 ≠ 4 from (by decide)) _ _).trans (congrArg (fun f => ma_up f 4 _) ((ma_up_comm _ (show 1 ≠ 3 from (by decide)) _ _).trans (congrArg (fun f => ma_up f 3 _) ((ma_up_comm _ (show 1 ≠ 2 from (by decide)) _ _).trans (congrArg (fun f => ma_up f 2 _) (ma_up_up _ _ _ _)))))))).trans ((ma_up_comm _ (show 132 ≠ 120 from (by decide)) _ _).trans (congrArg (fun f => ma_up f 120 _) (ma_up_up _ _ _ _)))) ?_
  refine ev_iinc (pc' := 151) (v := 15) (lv' := [some (.ref 115), some (.int 15), some (.int 3), some (.int 4), some (.int 1), some (.int 4)]) dX8_layForm_148 rfl rfl (by decide) (Nat.le_of_ble_eq_true rfl) rfl rfl ?_
  refine ev_goto (tgt := 22) dX8_layForm_151 rfl ?_
  refine ev_rowL (fun r15 => ?_)
  refine ev_iload_n (pc' := 23) (i := 1) dX8_layForm_22 rfl rfl rfl ?_
  refine ev_bipush (pc' := 25) (v := 16) dX8_layForm_23 rfl kb_16 ?_
  refine ev_icmp_ge (tgt := 154) (pc' := 28) dX8_layForm_25 rfl rfl (fun h => absurd h (by decide)) (fun _ => ?_)
  refine ev_iconst (pc' := 29) (v := 0) dX8_layForm_28 rfl ki_0 ?_
  refine ev_istore_n (pc' := 30) (i := 2) (lv' := [some (.ref 115), some (.int 15), some (.int 0), some (.int 4), some (.int 1), some (.int 4)]) dX8_layForm_29 rfl rfl (Nat.le_of_ble_eq_true rfl) rfl rfl ?_
  refine ev_iconst (pc' := 31) (v := 0) dX8_layForm_30 rfl ki_0 ?_
  refine ev_istore_n (pc' := 32) (i := 3) (lv' := [some (.ref 115), some (.int 15), some (.int 0), some (.int 0), some (.int 1), some (.int 4)]) dX8_layForm_31 rfl rfl (Nat.le_of_ble_eq_true rfl) rfl rfl ?_
  refine ev_iload_n (pc' := 33) (i := 3) dX8_layForm_32 rfl rfl rfl ?_
  refine ev_iconst (pc' := 34) (v := 4) dX8_layForm_33 rfl ki_4 ?_
  refine ev_icmp_ge (tgt := 130) (pc' := 37) dX8_layForm_34 rfl rfl (fun h => absurd h (by decide)) (fun _ => ?_)
  refine ev_iload_n (pc' := 38) (i := 1) dX8_layForm_37 rfl rfl rfl ?_
  refine ev_iload_n (pc' := 39) (i := 3) dX8_layForm_38 rfl rfl rfl ?_
  refine ev_ishr (pc' := 40) (v := 15) dX8_layForm_39 rfl (by decide) ?_
  refine ev_iconst (pc' := 41) (v := 1) dX8_layForm_40 rfl ki_1 ?_
  refine ev_iand (pc' := 42) (v := 1) dX8_layForm_41 rfl (by decide) ?_
  refine ev_iconst (pc' := 43) (v := 1) dX8_layForm_42 rfl ki_1 ?_
  refine ev_icmp_ne (tgt := 50) (pc' := 46) dX8_layForm_43 rfl rfl (fun h => absurd (by decide) h) (fun _ => ?_)
  refine ev_iconst (pc' := 47) (v := 1) dX8_layForm_46 rfl ki_1 ?_
  refine ev_goto (tgt := 51) dX8_layForm_47 rfl ?_
  refine ev_istore (pc' := 53) (lv' := [some (.ref 115), some (.int 15), some (.int 0), some (.int 0), some (.int 1), some (.int 4)]) dX8_layForm_51 rfl (Nat.le_of_ble_eq_true rfl) rfl rfl ?_
  refine ev_iload_n (pc' := 54) (i := 2) dX8_layForm_53 rfl rfl rfl ?_
  refine ev_iload (pc' := 56) dX8_layForm_54 rfl rfl ?_
  refine ev_if_eq (tgt := 63) (pc' := 59) dX8_layForm_56 rfl rfl (fun h => absurd h (by decide)) (fun _ => ?_)
  refine ev_iconst (pc' := 60) (v := 1) dX8_layForm_59 rfl ki_1 ?_
  refine ev_goto (tgt := 64) dX8_layForm_60 rfl ?_
  refine ev_iadd (pc' := 65) (v := 1) dX8_layForm_64 rfl (by decide) ?_
  refine ev_istore_n (pc' := 66) (i := 2) (lv' := [some (.ref 115), some (.int 15), some (.int 1), some (.int 0), some (.int 1), some (.int 4)]) dX8_layForm_65 rfl rfl (Nat.le_of_ble_eq_true rfl) rfl rfl ?_
  refine ev_iconst (pc' := 67) (v := 0) dX8_layForm_66 rfl ki_0 ?_
  refine ev_istore (pc' := 69) (lv' := [some (.ref 115), some (.int 15), some (.int 1), some (.int 0), some (.int 1), some (.int 0)]) dX8_layForm_67 rfl (Nat.le_of_ble_eq_true rfl) rfl rfl ?_
  refine ev_iload (pc' := 71) dX8_layForm_69 rfl rfl ?_
  refine ev_iconst (pc' := 72) (v := 4) dX8_layForm_71 rfl ki_4 ?_
  refine ev_icmp_ge (tgt := 124) (pc' := 75) dX8_layForm_72 rfl rfl (fun h => absurd h (by decide)) (fun _ => ?_)
  refine ev_aload_n (pc' := 76) (i := 0) dX8_layForm_75 rfl rfl rfl ?_
  refine ev_getR (pc' := 79) fo_X8_26 dX8_layForm_76 rfl hs_115 rfl rf_115_8 ?_
  refine ev_iconst (pc' := 80) (v := 4) dX8_layForm_79 rfl ki_4 ?_
  refine ev_iload_n (pc' := 81) (i := 3) dX8_layForm_80 rfl rfl rfl ?_
  refine ev_imul (pc' := 82) (v := 0) dX8_layForm_81 rfl (by decide) ?_
  refine ev_iload (pc' := 84) dX8_layForm_82 rfl rfl ?_
  refine ev_iadd (pc' := 85) (v := 0) dX8_layForm_84 rfl (by decide) ?_
  refine ev_iload (pc' := 87) dX8_layForm_85 rfl rfl ?_
  refine ev_if_eq (tgt := 105) (pc' := 90) dX8_layForm_87 rfl rfl (fun h => absurd h (by decide)) (fun _ => ?_)
  refine ev_aload_n (pc' := 91) (i := 0) dX8_layForm_90 rfl rfl rfl ?_
  refine ev_getR (pc' := 94) fo_X8_67 dX8_layForm_91 rfl hs_115 rfl rf_115_24 ?_
  refine ev_iconst (pc' := 95) (v := 4) dX8_layForm_94 rfl ki_4 ?_
  refine ev_iload_n (pc' := 96) (i := 3) dX8_layForm_95 rfl rfl rfl ?_
  refine ev_imul (pc' := 97) (v := 0) dX8_layForm_96 rfl (by decide) ?_
  refine ev_iload (pc' := 99) dX8_layForm_97 rfl rfl ?_
  refine ev_iadd (pc' := 100) (v := 0) dX8_layForm_99 rfl (by decide) ?_
  refine ev_iald (pc' := 101) (j := 0) (v := (I 133) 0) dX8_layForm_100 rfl hs_133 rfl (Nat.le_of_ble_eq_true rfl) (Nat.le_of_ble_eq_true rfl) rfl ?_
  refine ev_i2l (pc' := 102) (v := Int32.toInt64 ((I 133) 0)) dX8_layForm_101 rfl rfl ?_
  refine ev_goto (tgt := 117) dX8_layForm_102 rfl ?_
  refine ev_last (pc' := 118) (j := 0) (L' := (ma_up (ma_up L 132 (ma_up (ma_up (ma_up (ma_up (ma_up (L 132) 0 0) 1 ((((0 + (mW (mSel 7 (I 133) (I 134)))) + (mW (mSel 11 (I 133) (I 134)))) + (mW (mSel 13 (I 133) (I 134)))) + (mW (mSel 14 (I 133) (I 134))))) 2 ((((((0 + (mW (mSel 3 (I 133) (I 134)))) + (mW (mSel 5 (I 133) (I 134)))) + (mW (mSel 6 (I 133) (I 134)))) + (mW (mSel 9 (I 133) (I 134)))) + (mW (mSel 10 (I 133) (I 134)))) + (mW (mSel 12 (I 133) (I 134))))) 3 ((((0 + (mW (mSel 1 (I 133) (I 134)))) + (mW (mSel 2 (I 133) (I 134)))) + (mW (mSel 4 (I 133) (I 134)))) + (mW (mSel 8 (I 133) (I 134))))) 4 (0 + (mW (mSel 0 (I 133) (I 134)))))) 120 (ma_up r15 0 (Int32.toInt64 ((I 133) 0))))) dX8_layForm_117 rfl hs_120 rfl (Nat.le_of_ble_eq_true rfl) (Nat.le_of_ble_eq_true rfl) (ma_up_up _ _ _ _) ?_
  refine ev_iinc (pc' := 121) (v := 1) (lv' := [some (.ref 115), some (.int 15), some (.int 1), some (.int 0), some (.int 1), some (.int 1)]) dX8_layForm_118 rfl rfl (by decide) (Nat.le_of_ble_eq_true rfl) rfl rfl ?_
  refine ev_goto (tgt := 69) dX8_layForm_121 rfl ?_
  refine ev_iload (pc' := 71) dX8_layForm_69 rfl rfl ?_
  refine ev_iconst (pc' := 72) (v := 4) dX8_layForm_71 rfl ki_4 ?_
  refine ev_icmp_ge (tgt := 124) (pc' := 75) dX8_layForm_72 rfl rfl (fun h => absurd h (by decide)) (fun _ => ?_)
  refine ev_aload_n (pc' := 76) (i := 0) dX8_layForm_75 rfl rfl rfl ?_
  refine ev_getR (pc' := 79) fo_X8_26 dX8_layForm_76 rfl hs_115 rfl rf_115_8 ?_
  refine ev_iconst (pc' := 80) (v := 4) dX8_layForm_79 rfl ki_4 ?_
  refine ev_iload_n (pc' := 81) (i := 3) dX8_layForm_80 rfl rfl rfl ?_
  refine ev_imul (pc' := 82) (v := 0) dX8_layForm_81 rfl (by decide) ?_
  refine ev_iload (pc' := 84) dX8_layForm_82 rfl rfl ?_
  refine ev_iadd (pc' := 85) (v := 1) dX8_layForm_84 rfl (by decide) ?_
  refine ev_iload (pc' := 87) dX8_layForm_85 rfl rfl ?_
  refine ev_if_eq (tgt := 105) (pc' := 90) dX8_layForm_87 rfl rfl (fun h => absurd h (by decide)) (fun _ => ?_)
  refine ev_aload_n (pc' := 91) (i := 0) dX8_layForm_90 rfl rfl rfl ?_
  refine ev_getR (pc' := 94) fo_X8_67 dX8_layForm_91 rfl hs_115 rfl rf_115_24 ?_
  refine ev_iconst (pc' := 95) (v := 4) dX8_layForm_94 rfl ki_4 ?_
  refine ev_iload_n (pc' := 96) (i := 3) dX8_layForm_95 rfl rfl rfl ?_
  refine ev_imul (pc' := 97) (v := 0) dX8_layForm_96 rfl (by decide) ?_
  refine ev_iload (pc' := 99) dX8_layForm_97 rfl rfl ?_
  refine ev_iadd (pc' := 100) (v := 1) dX8_layForm_99 rfl (by decide) ?_
  refine ev_iald (pc' := 101) (j := 1) (v := (I 133) 1) dX8_layForm_100 rfl hs_133 rfl (Nat.le_of_ble_eq_true rfl) (Nat.le_of_ble_eq_true rfl) rfl ?_
  refine ev_i2l (pc' := 102) (v := Int32.toInt64 ((I 133) 1)) dX8_layForm_101 rfl rfl ?_
  refine ev_goto (tgt := 117) dX8_layForm_102 rfl ?_
  refine ev_last (pc' := 118) (j := 1) (L' := (ma_up (ma_up L 132 (ma_up (ma_up (ma_up (ma_up (ma_up (L 132) 0 0) 1 ((((0 + (mW (mSel 7 (I 133) (I 134)))) + (mW (mSel 11 (I 133) (I 134)))) + (mW (mSel 13 (I 133) (I 134)))) + (mW (mSel 14 (I 133) (I 134))))) 2 ((((((0 + (mW (mSel 3 (I 133) (I 134)))) + (mW (mSel 5 (I 133) (I 134)))) + (mW (mSel 6 (I 133) (I 134)))) + (mW (mSel 9 (I 133) (I 134)))) + (mW (mSel 10 (I 133) (I 134)))) + (mW (mSel 12 (I 133) (I 134))))) 3 ((((0 + (mW (mSel 1 (I 133) (I 134)))) + (mW (mSel 2 (I 133) (I 134)))) + (mW (mSel 4 (I 133) (I 134)))) + (mW (mSel 8 (I 133) (I 134))))) 4 (0 + (mW (mSel 0 (I 133) (I 134)))))) 120 (ma_up (ma_up r15 0 (Int32.toInt64 ((I 133) 0))) 1 (Int32.toInt64 ((I 133) 1))))) dX8_layForm_117 rfl hs_120 rfl (Nat.le_of_ble_eq_true rfl) (Nat.le_of_ble_eq_true rfl) (ma_up_up _ _ _ _) ?_
  refine ev_iinc (pc' := 121) (v := 2) (lv' := [some (.ref 115), some (.int 15), some (.int 1), some (.int 0), some (.int 1), some (.int 2)]) dX8_layForm_118 rfl rfl (by decide) (Nat.le_of_ble_eq_true rfl) rfl rfl ?_
  refine ev_goto (tgt := 69) dX8_layForm_121 rfl ?_
  refine ev_iload (pc' := 71) dX8_layForm_69 rfl rfl ?_
  refine ev_iconst (pc' := 72) (v := 4) dX8_layForm_71 rfl ki_4 ?_
  refine ev_icmp_ge (tgt := 124) (pc' := 75) dX8_layForm_72 rfl rfl (fun h => absurd h (by decide)) (fun _ => ?_)
  refine ev_aload_n (pc' := 76) (i := 0) dX8_layForm_75 rfl rfl rfl ?_
  refine ev_getR (pc' := 79) fo_X8_26 dX8_layForm_76 rfl hs_115 rfl rf_115_8 ?_
  refine ev_iconst (pc' := 80) (v := 4) dX8_layForm_79 rfl ki_4 ?_
  refine ev_iload_n (pc' := 81) (i := 3) dX8_layForm_80 rfl rfl rfl ?_
  refine ev_imul (pc' := 82) (v := 0) dX8_layForm_81 rfl (by decide) ?_
  refine ev_iload (pc' := 84) dX8_layForm_82 rfl rfl ?_
  refine ev_iadd (pc' := 85) (v := 2) dX8_layForm_84 rfl (by decide) ?_
  refine ev_iload (pc' := 87) dX8_layForm_85 rfl rfl ?_
  refine ev_if_eq (tgt := 105) (pc' := 90) dX8_layForm_87 rfl rfl (fun h => absurd h (by decide)) (fun _ => ?_)
  refine ev_aload_n (pc' := 91) (i := 0) dX8_layForm_90 rfl rfl rfl ?_
  refine ev_getR (pc' := 94) fo_X8_67 dX8_layForm_91 rfl hs_115 rfl rf_115_24 ?_
  refine ev_iconst (pc' := 95) (v := 4) dX8_layForm_94 rfl ki_4 ?_
  refine ev_iload_n (pc' := 96) (i := 3) dX8_layForm_95 rfl rfl rfl ?_
  refine ev_imul (pc' := 97) (v := 0) dX8_layForm_96 rfl (by decide) ?_
  refine ev_iload (pc' := 99) dX8_layForm_97 rfl rfl ?_
  refine ev_iadd (pc' := 100) (v := 2) dX8_layForm_99 rfl (by decide) ?_
  refine ev_iald (pc' := 101) (j := 2) (v := (I 133) 2) dX8_layForm_100 rfl hs_133 rfl (Nat.le_of_ble_eq_true rfl) (Nat.le_of_ble_eq_true rfl) rfl ?_
  refine ev_i2l (pc' := 102) (v := Int32.toInt64 ((I 133) 2)) dX8_layForm_101 rfl rfl ?_
  refine ev_goto (tgt := 117) dX8_layForm_102 rfl ?_
  refine ev_last (pc' := 118) (j := 2) (L' := (ma_up (ma_up L 132 (ma_up (ma_up (ma_up (ma_up (ma_up (L 132) 0 0) 1 ((((0 + (mW (mSel 7 (I 133) (I 134)))) + (mW (mSel 11 (I 133) (I 134)))) + (mW (mSel 13 (I 133) (I 134)))) + (mW (mSel 14 (I 133) (I 134))))) 2 ((((((0 + (mW (mSel 3 (I 133) (I 134)))) + (mW (mSel 5 (I 133) (I 134)))) + (mW (mSel 6 (I 133) (I 134)))) + (mW (mSel 9 (I 133) (I 134)))) + (mW (mSel 10 (I 133) (I 134)))) + (mW (mSel 12 (I 133) (I 134))))) 3 ((((0 + (mW (mSel 1 (I 133) (I 134)))) + (mW (mSel 2 (I 133) (I 134)))) + (mW (mSel 4 (I 133) (I 134)))) + (mW (mSel 8 (I 133) (I 134))))) 4 (0 + (mW (mSel 0 (I 133) (I 134)))))) 120 (ma_up (ma_up (ma_up r15 0 (Int32.toInt64 ((I 133) 0))) 1 (Int32.toInt64 ((I 133) 1))) 2 (Int32.toInt64 ((I 133) 2))))) dX8_layForm_117 rfl hs_120 rfl (Nat.le_of_ble_eq_true rfl) (Nat.le_of_ble_eq_true rfl) (ma_up_up _ _ _ _) ?_
  refine ev_iinc (pc' := 121) (v := 3) (lv' := [some (.ref 115), some (.int 15), some (.int 1), some (.int 0), some (.int 1), some (.int 3)]) dX8_layForm_118 rfl rfl (by decide) (Nat.le_of_ble_eq_true rfl) rfl rfl ?_
  refine ev_goto (tgt := 69) dX8_layForm_121 rfl ?_
  refine ev_iload (pc' := 71) dX8_layForm_69 rfl rfl ?_
  refine ev_iconst (pc' := 72) (v := 4) dX8_layForm_71 rfl ki_4 ?_
  refine ev_icmp_ge (tgt := 124) (pc' := 75) dX8_layForm_72 rfl rfl (fun h => absurd h (by decide)) (fun _ => ?_)
  refine ev_aload_n (pc' := 76) (i := 0) dX8_layForm_75 rfl rfl rfl ?_
  refine ev_getR (pc' := 79) fo_X8_26 dX8_layForm_76 rfl hs_115 rfl rf_115_8 ?_
  refine ev_iconst (pc' := 80) (v := 4) dX8_layForm_79 rfl ki_4 ?_
  refine ev_iload_n (pc' := 81) (i := 3) dX8_layForm_80 rfl rfl rfl ?_
  refine ev_imul (pc' := 82) (v := 0) dX8_layForm_81 rfl (by decide) ?_
  refine ev_iload (pc' := 84) dX8_layForm_82 rfl rfl ?_
  refine ev_iadd (pc' := 85) (v := 3) dX8_layForm_84 rfl (by decide) ?_
  refine ev_iload (pc' := 87) dX8_layForm_85 rfl rfl ?_
  refine ev_if_eq (tgt := 105) (pc' := 90) dX8_layForm_87 rfl rfl (fun h => absurd h (by decide)) (fun _ => ?_)
  refine ev_aload_n (pc' := 91) (i := 0) dX8_layForm_90 rfl rfl rfl ?_
  refine ev_getR (pc' := 94) fo_X8_67 dX8_layForm_91 rfl hs_115 rfl rf_115_24 ?_
  refine ev_iconst (pc' := 95) (v := 4) dX8_layForm_94 rfl ki_4 ?_
  refine ev_iload_n (pc' := 96) (i := 3) dX8_layForm_95 rfl rfl rfl ?_
  refine ev_imul (pc' := 97) (v := 0) dX8_layForm_96 rfl (by decide) ?_
  refine ev_iload (pc' := 99) dX8_layForm_97 rfl rfl ?_
  refine ev_iadd (pc' := 100) (v := 3) dX8_layForm_99 rfl (by decide) ?_
  refine ev_iald (pc' := 101) (j := 3) (v := (I 133) 3) dX8_layForm_100 rfl hs_133 rfl (Nat.le_of_ble_eq_true rfl) (Nat.le_of_ble_eq_true rfl) rfl ?_
  refine ev_i2l (pc' := 102) (v := Int32.toInt64 ((I 133) 3)) dX8_layForm_101 rfl rfl ?_
  refine ev_goto (tgt := 117) dX8_layForm_102 rfl ?_
  refine ev_last (pc' := 118) (j := 3) (L' := (ma_up (ma_up L 132 (ma_up (ma_up (ma_up (ma_up (ma_up (L 132) 0 0) 1 ((((0 + (mW (mSel 7 (I 133) (I 134)))) + (mW (mSel 11 (I 133) (I 134)))) + (mW (mSel 13 (I 133) (I 134)))) + (mW (mSel 14 (I 133) (I 134))))) 2 ((((((0 + (mW (mSel 3 (I 133) (I 134)))) + (mW (mSel 5 (I 133) (I 134)))) + (mW (mSel 6 (I 133) (I 134)))) + (mW (mSel 9 (I 133) (I 134)))) + (mW (mSel 10 (I 133) (I 134)))) + (mW (mSel 12 (I 133) (I 134))))) 3 ((((0 + (mW (mSel 1 (I 133) (I 134)))) + (mW (mSel 2 (I 133) (I 134)))) + (mW (mSel 4 (I 133) (I 134)))) + (mW (mSel 8 (I 133) (I 134))))) 4 (0 + (mW (mSel 0 (I 133) (I 134)))))) 120 (ma_up (ma_up (ma_up (ma_up r15 0 (Int32.toInt64 ((I 133) 0))) 1 (Int32.toInt64 ((I 133) 1))) 2 (Int32.toInt64 ((I 133) 2))) 3 (Int32.toInt64 ((I 133) 3))))) dX8_layForm_117 rfl hs_120 rfl (Nat.le_of_ble_eq_true rfl) (Nat.le_of_ble_eq_true rfl) (ma_up_up _ _ _ _) ?_
  refine ev_iinc (pc' := 121) (v := 4) (lv' := [some (.ref 115), some (.int 15), some (.int 1), some (.int 0), some (.int 1), some (.int 4)]) dX8_layForm_118 rfl rfl (by decide) (Nat.le_of_ble_eq_true rfl) rfl rfl ?_
  refine ev_goto (tgt := 69) dX8_layForm_121 rfl ?_
  refine ev_iload (pc' := 71) dX8_layForm_69 rfl rfl ?_
  refine ev_iconst (pc' := 72) (v := 4) dX8_layForm_71 rfl ki_4 ?_
  refine ev_icmp_ge (tgt := 124) (pc' := 75) dX8_layForm_72 rfl rfl (fun _ => ?_) (fun h => absurd (by decide) h)
  refine ev_iinc (pc' := 127) (v := 1) (lv' := [some (.ref 115), some (.int 15), some (.int 1), some (.int 1), some (.int 1), some (.int 4)]) dX8_layForm_124 rfl rfl (by decide) (Nat.le_of_ble_eq_true rfl) rfl rfl ?_
  refine ev_goto (tgt := 32) dX8_layForm_127 rfl ?_
  refine ev_iload_n (pc' := 33) (i := 3) dX8_layForm_32 rfl rfl rfl ?_
  refine ev_iconst (pc' := 34) (v := 4) dX8_layForm_33 rfl ki_4 ?_
  refine ev_icmp_ge (tgt := 130) (pc' := 37) dX8_layForm_34 rfl rfl (fun h => absurd h (by decide)) (fun _ => ?_)
  refine ev_iload_n (pc' := 38) (i := 1) dX8_layForm_37 rfl rfl rfl ?_
  refine ev_iload_n (pc' := 39) (i := 3) dX8_layForm_38 rfl rfl rfl ?_
  refine ev_ishr (pc' := 40) (v := 7) dX8_layForm_39 rfl (by decide) ?_
  refine ev_iconst (pc' := 41) (v := 1) dX8_layForm_40 rfl ki_1 ?_
  refine ev_iand (pc' := 42) (v := 1) dX8_layForm_41 rfl (by decide) ?_
  refine ev_iconst (pc' := 43) (v := 1) dX8_layForm_42 rfl ki_1 ?_
  refine ev_icmp_ne (tgt := 50) (pc' := 46) dX8_layForm_43 rfl rfl (fun h => absurd (by decide) h) (fun _ => ?_)
  refine ev_iconst (pc' := 47) (v := 1) dX8_layForm_46 rfl ki_1 ?_
  refine ev_goto (tgt := 51) dX8_layForm_47 rfl ?_
  refine ev_istore (pc' := 53) (lv' := [some (.ref 115), some (.int 15), some (.int 1), some (.int 1), some (.int 1), some (.int 4)]) dX8_layForm_51 rfl (Nat.le_of_ble_eq_true rfl) rfl rfl ?_
  refine ev_iload_n (pc' := 54) (i := 2) dX8_layForm_53 rfl rfl rfl ?_
  refine ev_iload (pc' := 56) dX8_layForm_54 rfl rfl ?_
  refine ev_if_eq (tgt := 63) (pc' := 59) dX8_layForm_56 rfl rfl (fun h => absurd h (by decide)) (fun _ => ?_)
  refine ev_iconst (pc' := 60) (v := 1) dX8_layForm_59 rfl ki_1 ?_
  refine ev_goto (tgt := 64) dX8_layForm_60 rfl ?_
  refine ev_iadd (pc' := 65) (v := 2) dX8_layForm_64 rfl (by decide) ?_
  refine ev_istore_n (pc' := 66) (i := 2) (lv' := [some (.ref 115), some (.int 15), some (.int 2), some (.int 1), some (.int 1), some (.int 4)]) dX8_layForm_65 rfl rfl (Nat.le_of_ble_eq_true rfl) rfl rfl ?_
  refine ev_iconst (pc' := 67) (v := 0) dX8_layForm_66 rfl ki_0 ?_
  refine ev_istore (pc' := 69) (lv' := [some (.ref 115), some (.int 15), some (.int 2), some (.int 1), some (.int 1), some (.int 0)]) dX8_layForm_67 rfl (Nat.le_of_ble_eq_true rfl) rfl rfl ?_
  refine ev_iload (pc' := 71) dX8_layForm_69 rfl rfl ?_
  refine ev_iconst (pc' := 72) (v := 4) dX8_layForm_71 rfl ki_4 ?_
  refine ev_icmp_ge (tgt := 124) (pc' := 75) dX8_layForm_72 rfl rfl (fun h => absurd h (by decide)) (fun _ => ?_)
  refine ev_aload_n (pc' := 76) (i := 0) dX8_layForm_75 rfl rfl rfl ?_
  refine ev_getR (pc' := 79) fo_X8_26 dX8_layForm_76 rfl hs_115 rfl rf_115_8 ?_
  refine ev_iconst (pc' := 80) (v := 4) dX8_layForm_79 rfl ki_4 ?_
  refine ev_iload_n (pc' := 81) (i := 3) dX8_layForm_80 rfl rfl rfl ?_
  refine ev_imul (pc' := 82) (v := 4) dX8_layForm_81 rfl (by decide) ?_
  refine ev_iload (pc' := 84) dX8_layForm_82 rfl rfl ?_
  refine ev_iadd (pc' := 85) (v := 4) dX8_layForm_84 rfl (by decide) ?_
  refine ev_iload (pc' := 87) dX8_layForm_85 rfl rfl ?_
  refine ev_if_eq (tgt := 105) (pc' := 90) dX8_layForm_87 rfl rfl (fun h => absurd h (by decide)) (fun _ => ?_)
  refine ev_aload_n (pc' := 91) (i := 0) dX8_layForm_90 rfl rfl rfl ?_
  refine ev_getR (pc' := 94) fo_X8_67 dX8_layForm_91 rfl hs_115 rfl rf_115_24 ?_
  refine ev_iconst (pc' := 95) (v := 4) dX8_layForm_94 rfl ki_4 ?_
  refine ev_iload_n (pc' := 96) (i := 3) dX8_layForm_95 rfl rfl rfl ?_
  refine ev_imul (pc' := 97) (v := 4) dX8_layForm_96 rfl (by decide) ?_
  refine ev_iload (pc' := 99) dX8_layForm_97 rfl rfl ?_
  refine ev_iadd (pc' := 100) (v := 4) dX8_layForm_99 rfl (by decide) ?_
  refine ev_iald (pc' := 101) (j := 4) (v := (I 133) 4) dX8_layForm_100 rfl hs_133 rfl (Nat.le_of_ble_eq_true rfl) (Nat.le_of_ble_eq_true rfl) rfl ?_
  refine ev_i2l (pc' := 102) (v := Int32.toInt64 ((I 133) 4)) dX8_layForm_101 rfl rfl ?_
  refine ev_goto (tgt := 117) dX8_layForm_102 rfl ?_
  refine ev_last (pc' := 118) (j := 4) (L' := (ma_up (ma_up L 132 (ma_up (ma_up (ma_up (ma_up (ma_up (L 132) 0 0) 1 ((((0 + (mW (mSel 7 (I 133) (I 134)))) + (mW (mSel 11 (I 133) (I 134)))) + (mW (mSel 13 (I 133) (I 134)))) + (mW (mSel 14 (I 133) (I 134))))) 2 ((((((0 + (mW (mSel 3 (I 133) (I 134)))) + (mW (mSel 5 (I 133) (I 134)))) + (mW (mSel 6 (I 133) (I 134)))) + (mW (mSel 9 (I 133) (I 134)))) + (mW (mSel 10 (I 133) (I 134)))) + (mW (mSel 12 (I 133) (I 134))))) 3 ((((0 + (mW (mSel 1 (I 133) (I 134)))) + (mW (mSel 2 (I 133) (I 134)))) + (mW (mSel 4 (I 133) (I 134)))) + (mW (mSel 8 (I 133) (I 134))))) 4 (0 + (mW (mSel 0 (I 133) (I 134)))))) 120 (ma_up (ma_up (ma_up (ma_up (ma_up r15 0 (Int32.toInt64 ((I 133) 0))) 1 (Int32.toInt64 ((I 133) 1))) 2 (Int32.toInt64 ((I 133) 2))) 3 (Int32.toInt64 ((I 133) 3))) 4 (Int32.toInt64 ((I 133) 4))))) dX8_layForm_117 rfl hs_120 rfl (Nat.le_of_ble_eq_true rfl) (Nat.le_of_ble_eq_true rfl) (ma_up_up _ _ _ _) ?_
  refine ev_iinc (pc' := 121) (v := 1) (lv' := [some (.ref 115), some (.int 15), some (.int 2), some (.int 1), some (.int 1), some (.int 1)]) dX8_layForm_118 rfl rfl (by decide) (Nat.le_of_ble_eq_true rfl) rfl rfl ?_
  refine ev_goto (tgt := 69) dX8_layForm_121 rfl ?_
  refine ev_iload (pc' := 71) dX8_layForm_69 rfl rfl ?_
  refine ev_iconst (pc' := 72) (v := 4) dX8_layForm_71 rfl ki_4 ?_
  refine ev_icmp_ge (tgt := 124) (pc' := 75) dX8_layForm_72 rfl rfl (fun h => absurd h (by decide)) (fun _ => ?_)
  refine ev_aload_n (pc' := 76) (i := 0) dX8_layForm_75 rfl rfl rfl ?_
  refine ev_getR (pc' := 79) fo_X8_26 dX8_layForm_76 rfl hs_115 rfl rf_115_8 ?_
  refine ev_iconst (pc' := 80) (v := 4) dX8_layForm_79 rfl ki_4 ?_
  refine ev_iload_n (pc' := 81) (i := 3) dX8_layForm_80 rfl rfl rfl ?_
  refine ev_imul (pc' := 82) (v := 4) dX8_layForm_81 rfl (by decide) ?_
  refine ev_iload (pc' := 84) dX8_layForm_82 rfl rfl ?_
  refine ev_iadd (pc' := 85) (v := 5) dX8_layForm_84 rfl (by decide) ?_
  refine ev_iload (pc' := 87) dX8_layForm_85 rfl rfl ?_
  refine ev_if_eq (tgt := 105) (pc' := 90) dX8_layForm_87 rfl rfl (fun h => absurd h (by decide)) (fun _ => ?_)
  refine ev_aload_n (pc' := 91) (i := 0) dX8_layForm_90 rfl rfl rfl ?_
  refine ev_getR (pc' := 94) fo_X8_67 dX8_layForm_91 rfl hs_115 rfl rf_115_24 ?_
  refine ev_iconst (pc' := 95) (v := 4) dX8_layForm_94 rfl ki_4 ?_
  refine ev_iload_n (pc' := 96) (i := 3) dX8_layForm_95 rfl rfl rfl ?_
  refine ev_imul (pc' := 97) (v := 4) dX8_layForm_96 rfl (by decide) ?_
  refine ev_iload (pc' := 99) dX8_layForm_97 rfl rfl ?_
  refine ev_iadd (pc' := 100) (v := 5) dX8_layForm_99 rfl (by decide) ?_
  refine ev_iald (pc' := 101) (j := 5) (v := (I 133) 5) dX8_layForm_100 rfl hs_133 rfl (Nat.le_of_ble_eq_true rfl) (Nat.le_of_ble_eq_true rfl) rfl ?_
  refine ev_i2l (pc' := 102) (v := Int32.toInt64 ((I 133) 5)) dX8_layForm_101 rfl rfl ?_
  refine ev_goto (tgt := 117) dX8_layForm_102 rfl ?_
  refine ev_last (pc' := 118) (j := 5) (L' := (ma_up (ma_up L 132 (ma_up (ma_up (ma_up (ma_up (ma_up (L 132) 0 0) 1 ((((0 + (mW (mSel 7 (I 133) (I 134)))) + (mW (mSel 11 (I 133) (I 134)))) + (mW (mSel 13 (I 133) (I 134)))) + (mW (mSel 14 (I 133) (I 134))))) 2 ((((((0 + (mW (mSel 3 (I 133) (I 134)))) + (mW (mSel 5 (I 133) (I 134)))) + (mW (mSel 6 (I 133) (I 134)))) + (mW (mSel 9 (I 133) (I 134)))) + (mW (mSel 10 (I 133) (I 134)))) + (mW (mSel 12 (I 133) (I 134))))) 3 ((((0 + (mW (mSel 1 (I 133) (I 134)))) + (mW (mSel 2 (I 133) (I 134)))) + (mW (mSel 4 (I 133) (I 134)))) + (mW (mSel 8 (I 133) (I 134))))) 4 (0 + (mW (mSel 0 (I 133) (I 134)))))) 120 (ma_up (ma_up (ma_up (ma_up (ma_up (ma_up r15 0 (Int32.toInt64 ((I 133) 0))) 1 (Int32.toInt64 ((I 133) 1))) 2 (Int32.toInt64 ((I 133) 2))) 3 (Int32.toInt64 ((I 133) 3))) 4 (Int32.toInt64 ((I 133) 4))) 5 (Int32.toInt64 ((I 133) 5))))) dX8_layForm_117 rfl hs_120 rfl (Nat.le_of_ble_eq_true rfl) (Nat.le_of_ble_eq_true rfl) (ma_up_up _ _ _ _) ?_
  refine ev_iinc (pc' := 121) (v := 2) (lv' := [some (.ref 115), some (.int 15), some (.int 2), some (.int 1), some (.int 1), some (.int 2)]) dX8_layForm_118 rfl rfl (by decide) (Nat.le_of_ble_eq_true rfl) rfl rfl ?_
  refine ev_goto (tgt := 69) dX8_layForm_121 rfl ?_
  refine ev_iload (pc' := 71) dX8_layForm_69 rfl rfl ?_
  refine ev_iconst (pc' := 72) (v := 4) dX8_layForm_71 rfl ki_4 ?_
  refine ev_icmp_ge (tgt := 124) (pc' := 75) dX8_layForm_72 rfl rfl (fun h => absurd h (by decide)) (fun _ => ?_)
  refine ev_aload_n (pc' := 76) (i := 0) dX8_layForm_75 rfl rfl rfl ?_
  refine ev_getR (pc' := 79) fo_X8_26 dX8_layForm_76 rfl hs_115 rfl rf_115_8 ?_
  refine ev_iconst (pc' := 80) (v := 4) dX8_layForm_79 rfl ki_4 ?_
  refine ev_iload_n (pc' := 81) (i := 3) dX8_layForm_80 rfl rfl rfl ?_
  refine ev_imul (pc' := 82) (v := 4) dX8_layForm_81 rfl (by decide) ?_
  refine ev_iload (pc' := 84) dX8_layForm_82 rfl rfl ?_
  refine ev_iadd (pc' := 85) (v := 6) dX8_layForm_84 rfl (by decide) ?_
  refine ev_iload (pc' := 87) dX8_layForm_85 rfl rfl ?_
  refine ev_if_eq (tgt := 105) (pc' := 90) dX8_layForm_87 rfl rfl (fun h => absurd h (by decide)) (fun _ => ?_)
  refine ev_aload_n (pc' := 91) (i := 0) dX8_layForm_90 rfl rfl rfl ?_
  refine ev_getR (pc' := 94) fo_X8_67 dX8_layForm_91 rfl hs_115 rfl rf_115_24 ?_
  refine ev_iconst (pc' := 95) (v := 4) dX8_layForm_94 rfl ki_4 ?_
  refine ev_iload_n (pc' := 96) (i := 3) dX8_layForm_95 rfl rfl rfl ?_
  refine ev_imul (pc' := 97) (v := 4) dX8_layForm_96 rfl (by decide) ?_
  refine ev_iload (pc' := 99) dX8_layForm_97 rfl rfl ?_
  refine ev_iadd (pc' := 100) (v := 6) dX8_layForm_99 rfl (by decide) ?_
  refine ev_iald (pc' := 101) (j := 6) (v := (I 133) 6) dX8_layForm_100 rfl hs_133 rfl (Nat.le_of_ble_eq_true rfl) (Nat.le_of_ble_eq_true rfl) rfl ?_
  refine ev_i2l (pc' := 102) (v := Int32.toInt64 ((I 133) 6)) dX8_layForm_101 rfl rfl ?_
  refine ev_goto (tgt := 117) dX8_layForm_102 rfl ?_
  refine ev_last (pc' := 118) (j := 6) (L' := (ma_up (ma_up L 132 (ma_up (ma_up (ma_up (ma_up (ma_up (L 132) 0 0) 1 ((((0 + (mW (mSel 7 (I 133) (I 134)))) + (mW (mSel 11 (I 133) (I 134)))) + (mW (mSel 13 (I 133) (I 134)))) + (mW (mSel 14 (I 133) (I 134))))) 2 ((((((0 + (mW (mSel 3 (I 133) (I 134)))) + (mW (mSel 5 (I 133) (I 134)))) + (mW (mSel 6 (I 133) (I 134)))) + (mW (mSel 9 (I 133) (I 134)))) + (mW (mSel 10 (I 133) (I 134)))) + (mW (mSel 12 (I 133) (I 134))))) 3 ((((0 + (mW (mSel 1 (I 133) (I 134)))) + (mW (mSel 2 (I 133) (I 134)))) + (mW (mSel 4 (I 133) (I 134)))) + (mW (mSel 8 (I 133) (I 134))))) 4 (0 + (mW (mSel 0 (I 133) (I 134)))))) 120 (ma_up (ma_up (ma_up (ma_up (ma_up (ma_up (ma_up r15 0 (Int32.toInt64 ((I 133) 0))) 1 (Int32.toInt64 ((I 133) 1))) 2 (Int32.toInt64 ((I 133) 2))) 3 (Int32.toInt64 ((I 133) 3))) 4 (Int32.toInt64 ((I 133) 4))) 5 (Int32.toInt64 ((I 133) 5))) 6 (Int32.toInt64 ((I 133) 6))))) dX8_layForm_117 rfl hs_120 rfl (Nat.le_of_ble_eq_true rfl) (Nat.le_of_ble_eq_true rfl) (ma_up_up _ _ _ _) ?_
  refine ev_iinc (pc' := 121) (v := 3) (lv' := [some (.ref 115), some (.int 15), some (.int 2), some (.int 1), some (.int 1), some (.int 3)]) dX8_layForm_118 rfl rfl (by decide) (Nat.le_of_ble_eq_true rfl) rfl rfl ?_
  refine ev_goto (tgt := 69) dX8_layForm_121 rfl ?_
  refine ev_iload (pc' := 71) dX8_layForm_69 rfl rfl ?_
  refine ev_iconst (pc' := 72) (v := 4) dX8_layForm_71 rfl ki_4 ?_
  refine ev_icmp_ge (tgt := 124) (pc' := 75) dX8_layForm_72 rfl rfl (fun h => absurd h (by decide)) (fun _ => ?_)
  refine ev_aload_n (pc' := 76) (i := 0) dX8_layForm_75 rfl rfl rfl ?_
  refine ev_getR (pc' := 79) fo_X8_26 dX8_layForm_76 rfl hs_115 rfl rf_115_8 ?_
  refine ev_iconst (pc' := 80) (v := 4) dX8_layForm_79 rfl ki_4 ?_
  refine ev_iload_n (pc' := 81) (i := 3) dX8_layForm_80 rfl rfl rfl ?_
  refine ev_imul (pc' := 82) (v := 4) dX8_layForm_81 rfl (by decide) ?_
  refine ev_iload (pc' := 84) dX8_layForm_82 rfl rfl ?_
  refine ev_iadd (pc' := 85) (v := 7) dX8_layForm_84 rfl (by decide) ?_
  refine ev_iload (pc' := 87) dX8_layForm_85 rfl rfl ?_
  refine ev_if_eq (tgt := 105) (pc' := 90) dX8_layForm_87 rfl rfl (fun h => absurd h (by decide)) (fun _ => ?_)
  refine ev_aload_n (pc' := 91) (i := 0) dX8_layForm_90 rfl rfl rfl ?_
  refine ev_getR (pc' := 94) fo_X8_67 dX8_layForm_91 rfl hs_115 rfl rf_115_24 ?_
  refine ev_iconst (pc' := 95) (v := 4) dX8_layForm_94 rfl ki_4 ?_
  refine ev_iload_n (pc' := 96) (i := 3) dX8_layForm_95 rfl rfl rfl ?_
  refine ev_imul (pc' := 97) (v := 4) dX8_layForm_96 rfl (by decide) ?_
  refine ev_iload (pc' := 99) dX8_layForm_97 rfl rfl ?_
  refine ev_iadd (pc' := 100) (v := 7) dX8_layForm_99 rfl (by decide) ?_
  refine ev_iald (pc' := 101) (j := 7) (v := (I 133) 7) dX8_layForm_100 rfl hs_133 rfl (Nat.le_of_ble_eq_true rfl) (Nat.le_of_ble_eq_true rfl) rfl ?_
  refine ev_i2l (pc' := 102) (v := Int32.toInt64 ((I 133) 7)) dX8_layForm_101 rfl rfl ?_
  refine ev_goto (tgt := 117) dX8_layForm_102 rfl ?_
  refine ev_last (pc' := 118) (j := 7) (L' := (ma_up (ma_up L 132 (ma_up (ma_up (ma_up (ma_up (ma_up (L 132) 0 0) 1 ((((0 + (mW (mSel 7 (I 133) (I 134)))) + (mW (mSel 11 (I 133) (I 134)))) + (mW (mSel 13 (I 133) (I 134)))) + (mW (mSel 14 (I 133) (I 134))))) 2 ((((((0 + (mW (mSel 3 (I 133) (I 134)))) + (mW (mSel 5 (I 133) (I 134)))) + (mW (mSel 6 (I 133) (I 134)))) + (mW (mSel 9 (I 133) (I 134)))) + (mW (mSel 10 (I 133) (I 134)))) + (mW (mSel 12 (I 133) (I 134))))) 3 ((((0 + (mW (mSel 1 (I 133) (I 134)))) + (mW (mSel 2 (I 133) (I 134)))) + (mW (mSel 4 (I 133) (I 134)))) + (mW (mSel 8 (I 133) (I 134))))) 4 (0 + (mW (mSel 0 (I 133) (I 134)))))) 120 (ma_up (ma_up (ma_up (ma_up (ma_up (ma_up (ma_up (ma_up r15 0 (Int32.toInt64 ((I 133) 0))) 1 (Int32.toInt64 ((I 133) 1))) 2 (Int32.toInt64 ((I 133) 2))) 3 (Int32.toInt64 ((I 133) 3))) 4 (Int32.toInt64 ((I 133) 4))) 5 (Int32.toInt64 ((I 133) 5))) 6 (Int32.toInt64 ((I 133) 6))) 7 (Int32.toInt64 ((I 133) 7))))) dX8_layForm_117 rfl hs_120 rfl (Nat.le_of_ble_eq_true rfl) (Nat.le_of_ble_eq_true rfl) (ma_up_up _ _ _ _) ?_
  refine ev_iinc (pc' := 121) (v := 4) (lv' := [some (.ref 115), some (.int 15), some (.int 2), some (.int 1), some (.int 1), some (.int 4)]) dX8_layForm_118 rfl rfl (by decide) (Nat.le_of_ble_eq_true rfl) rfl rfl ?_
  refine ev_goto (tgt := 69) dX8_layForm_121 rfl ?_
  refine ev_iload (pc' := 71) dX8_layForm_69 rfl rfl ?_
  refine ev_iconst (pc' := 72) (v := 4) dX8_layForm_71 rfl ki_4 ?_
  refine ev_icmp_ge (tgt := 124) (pc' := 75) dX8_layForm_72 rfl rfl (fun _ => ?_) (fun h => absurd (by decide) h)
  refine ev_iinc (pc' := 127) (v := 2) (lv' := [some (.ref 115), some (.int 15), some (.int 2), some (.int 2), some (.int 1), some (.int 4)]) dX8_layForm_124 rfl rfl (by decide) (Nat.le_of_ble_eq_true rfl) rfl rfl ?_
  refine ev_goto (tgt := 32) dX8_layForm_127 rfl ?_
  refine ev_iload_n (pc' := 33) (i := 3) dX8_layForm_32 rfl rfl rfl ?_
  refine ev_iconst (pc' := 34) (v := 4) dX8_layForm_33 rfl ki_4 ?_
  refine ev_icmp_ge (tgt := 130) (pc' := 37) dX8_layForm_34 rfl rfl (fun h => absurd h (by decide)) (fun _ => ?_)
  refine ev_iload_n (pc' := 38) (i := 1) dX8_layForm_37 rfl rfl rfl ?_
  refine ev_iload_n (pc' := 39) (i := 3) dX8_layForm_38 rfl rfl rfl ?_
  refine ev_ishr (pc' := 40) (v := 3) dX8_layForm_39 rfl (by decide) ?_
  refine ev_iconst (pc' := 41) (v := 1) dX8_layForm_40 rfl ki_1 ?_
  refine ev_iand (pc' := 42) (v := 1) dX8_layForm_41 rfl (by decide) ?_
  refine ev_iconst (pc' := 43) (v := 1) dX8_layForm_42 rfl ki_1 ?_
  refine ev_icmp_ne (tgt := 50) (pc' := 46) dX8_layForm_43 rfl rfl (fun h => absurd (by decide) h) (fun _ => ?_)
  refine ev_iconst (pc' := 47) (v := 1) dX8_layForm_46 rfl ki_1 ?_
  refine ev_goto (tgt := 51) dX8_layForm_47 rfl ?_
  refine ev_istore (pc' := 53) (lv' := [some (.ref 115), some (.int 15), some (.int 2), some (.int 2), some (.int 1), some (.int 4)]) dX8_layForm_51 rfl (Nat.le_of_ble_eq_true rfl) rfl rfl ?_
  refine ev_iload_n (pc' := 54) (i := 2) dX8_layForm_53 rfl rfl rfl ?_
  refine ev_iload (pc' := 56) dX8_layForm_54 rfl rfl ?_
  refine ev_if_eq (tgt := 63) (pc' := 59) dX8_layForm_56 rfl rfl (fun h => absurd h (by decide)) (fun _ => ?_)
  refine ev_iconst (pc' := 60) (v := 1) dX8_layForm_59 rfl ki_1 ?_
  refine ev_goto (tgt := 64) dX8_layForm_60 rfl ?_
  refine ev_iadd (pc' := 65) (v := 3) dX8_layForm_64 rfl (by decide) ?_
  refine ev_istore_n (pc' := 66) (i := 2) (lv' := [some (.ref 115), some (.int 15), some (.int 3), some (.int 2), some (.int 1), some (.int 4)]) dX8_layForm_65 rfl rfl (Nat.le_of_ble_eq_true rfl) rfl rfl ?_
  refine ev_iconst (pc' := 67) (v := 0) dX8_layForm_66 rfl ki_0 ?_
  refine ev_istore (pc' := 69) (lv' := [some (.ref 115), some (.int 15), some (.int 3), some (.int 2), some (.int 1), some (.int 0)]) dX8_layForm_67 rfl (Nat.le_of_ble_eq_true rfl) rfl rfl ?_
  refine ev_iload (pc' := 71) dX8_layForm_69 rfl rfl ?_
  refine ev_iconst (pc' := 72) (v := 4) dX8_layForm_71 rfl ki_4 ?_
  refine ev_icmp_ge (tgt := 124) (pc' := 75) dX8_layForm_72 rfl rfl (fun h => absurd h (by decide)) (fun _ => ?_)
  refine ev_aload_n (pc' := 76) (i := 0) dX8_layForm_75 rfl rfl rfl ?_
  refine ev_getR (pc' := 79) fo_X8_26 dX8_layForm_76 rfl hs_115 rfl rf_115_8 ?_
  refine ev_iconst (pc' := 80) (v := 4) dX8_layForm_79 rfl ki_4 ?_
  refine ev_iload_n (pc' := 81) (i := 3) dX8_layForm_80 rfl rfl rfl ?_
  refine ev_imul (pc' := 82) (v := 8) dX8_layForm_81 rfl (by decide) ?_
  refine ev_iload (pc' := 84) dX8_layForm_82 rfl rfl ?_
  refine ev_iadd (pc' := 85) (v := 8) dX8_layForm_84 rfl (by decide) ?_
  refine ev_iload (pc' := 87) dX8_layForm_85 rfl rfl ?_
  refine ev_if_eq (tgt := 105) (pc' := 90) dX8_layForm_87 rfl rfl (fun h => absurd h (by decide)) (fun _ => ?_)
  refine ev_aload_n (pc' := 91) (i := 0) dX8_layForm_90 rfl rfl rfl ?_
  refine ev_getR (pc' := 94) fo_X8_67 dX8_layForm_91 rfl hs_115 rfl rf_115_24 ?_
  refine ev_iconst (pc' := 95) (v := 4) dX8_layForm_94 rfl ki_4 ?_
  refine ev_iload_n (pc' := 96) (i := 3) dX8_layForm_95 rfl rfl rfl ?_
  refine ev_imul (pc' := 97) (v := 8) dX8_layForm_96 rfl (by decide) ?_
  refine ev_iload (pc' := 99) dX8_layForm_97 rfl rfl ?_
  refine ev_iadd (pc' := 100) (v := 8) dX8_layForm_99 rfl (by decide) ?_
  refine ev_iald (pc' := 101) (j := 8) (v := (I 133) 8) dX8_layForm_100 rfl hs_133 rfl (Nat.le_of_ble_eq_true rfl) (Nat.le_of_ble_eq_true rfl) rfl ?_
  refine ev_i2l (pc' := 102) (v := Int32.toInt64 ((I 133) 8)) dX8_layForm_101 rfl rfl ?_
  refine ev_goto (tgt := 117) dX8_layForm_102 rfl ?_
  refine ev_last (pc' := 118) (j := 8) (L' := (ma_up (ma_up L 132 (ma_up (ma_up (ma_up (ma_up (ma_up (L 132) 0 0) 1 ((((0 + (mW (mSel 7 (I 133) (I 134)))) + (mW (mSel 11 (I 133) (I 134)))) + (mW (mSel 13 (I 133) (I 134)))) + (mW (mSel 14 (I 133) (I 134))))) 2 ((((((0 + (mW (mSel 3 (I 133) (I 134)))) + (mW (mSel 5 (I 133) (I 134)))) + (mW (mSel 6 (I 133) (I 134)))) + (mW (mSel 9 (I 133) (I 134)))) + (mW (mSel 10 (I 133) (I 134)))) + (mW (mSel 12 (I 133) (I 134))))) 3 ((((0 + (mW (mSel 1 (I 133) (I 134)))) + (mW (mSel 2 (I 133) (I 134)))) + (mW (mSel 4 (I 133) (I 134)))) + (mW (mSel 8 (I 133) (I 134))))) 4 (0 + (mW (mSel 0 (I 133) (I 134)))))) 120 (ma_up (ma_up (ma_up (ma_up (ma_up (ma_up (ma_up (ma_up (ma_up r15 0 (Int32.toInt64 ((I 133) 0))) 1 (Int32.toInt64 ((I 133) 1))) 2 (Int32.toInt64 ((I 133) 2))) 3 (Int32.toInt64 ((I 133) 3))) 4 (Int32.toInt64 ((I 133) 4))) 5 (Int32.toInt64 ((I 133) 5))) 6 (Int32.toInt64 ((I 133) 6))) 7 (Int32.toInt64 ((I 133) 7))) 8 (Int32.toInt64 ((I 133) 8))))) dX8_layForm_117 rfl hs_120 rfl (Nat.le_of_ble_eq_true rfl) (Nat.le_of_ble_eq_true rfl) (ma_up_up _ _ _ _) ?_
  refine ev_iinc (pc' := 121) (v := 1) (lv' := [some (.ref 115), some (.int 15), some (.int 3), some (.int 2), some (.int 1), some (.int 1)]) dX8_layForm_118 rfl rfl (by decide) (Nat.le_of_ble_eq_true rfl) rfl rfl ?_
  refine ev_goto (tgt := 69) dX8_layForm_121 rfl ?_
  refine ev_iload (pc' := 71) dX8_layForm_69 rfl rfl ?_
  refine ev_iconst (pc' := 72) (v := 4) dX8_layForm_71 rfl ki_4 ?_
  refine ev_icmp_ge (tgt := 124) (pc' := 75) dX8_layForm_72 rfl rfl (fun h => absurd h (by decide)) (fun _ => ?_)
  refine ev_aload_n (pc' := 76) (i := 0) dX8_layForm_75 rfl rfl rfl ?_
  refine ev_getR (pc' := 79) fo_X8_26 dX8_layForm_76 rfl hs_115 rfl rf_115_8 ?_
  refine ev_iconst (pc' := 80) (v := 4) dX8_layForm_79 rfl ki_4 ?_
  refine ev_iload_n (pc' := 81) (i := 3) dX8_layForm_80 rfl rfl rfl ?_
  refine ev_imul (pc' := 82) (v := 8) dX8_layForm_81 rfl (by decide) ?_
  refine ev_iload (pc' := 84) dX8_layForm_82 rfl rfl ?_
  refine ev_iadd (pc' := 85) (v := 9) dX8_layForm_84 rfl (by decide) ?_
  refine ev_iload (pc' := 87) dX8_layForm_85 rfl rfl ?_
  refine ev_if_eq (tgt := 105) (pc' := 90) dX8_layForm_87 rfl rfl (fun h => absurd h (by decide)) (fun _ => ?_)
  refine ev_aload_n (pc' := 91) (i := 0) dX8_layForm_90 rfl rfl rfl ?_
  refine ev_getR (pc' := 94) fo_X8_67 dX8_layForm_91 rfl hs_115 rfl rf_115_24 ?_
  refine ev_iconst (pc' := 95) (v := 4) dX8_layForm_94 rfl ki_4 ?_
  refine ev_iload_n (pc' := 96) (i := 3) dX8_layForm_95 rfl rfl rfl ?_
  refine ev_imul (pc' := 97) (v := 8) dX8_layForm_96 rfl (by decide) ?_
  refine ev_iload (pc' := 99) dX8_layForm_97 rfl rfl ?_
  refine ev_iadd (pc' := 100) (v := 9) dX8_layForm_99 rfl (by decide) ?_
  refine ev_iald (pc' := 101) (j := 9) (v := (I 133) 9) dX8_layForm_100 rfl hs_133 rfl (Nat.le_of_ble_eq_true rfl) (Nat.le_of_ble_eq_true rfl) rfl ?_
  refine ev_i2l (pc' := 102) (v := Int32.toInt64 ((I 133) 9)) dX8_layForm_101 rfl rfl ?_
  refine ev_goto (tgt := 117) dX8_layForm_102 rfl ?_
  refine ev_last (pc' := 118) (j := 9) (L' := (ma_up (ma_up L 132 (ma_up (ma_up (ma_up (ma_up (ma_up (L 132) 0 0) 1 ((((0 + (mW (mSel 7 (I 133) (I 134)))) + (mW (mSel 11 (I 133) (I 134)))) + (mW (mSel 13 (I 133) (I 134)))) + (mW (mSel 14 (I 133) (I 134))))) 2 ((((((0 + (mW (mSel 3 (I 133) (I 134)))) + (mW (mSel 5 (I 133) (I 134)))) + (mW (mSel 6 (I 133) (I 134)))) + (mW (mSel 9 (I 133) (I 134)))) + (mW (mSel 10 (I 133) (I 134)))) + (mW (mSel 12 (I 133) (I 134))))) 3 ((((0 + (mW (mSel 1 (I 133) (I 134)))) + (mW (mSel 2 (I 133) (I 134)))) + (mW (mSel 4 (I 133) (I 134)))) + (mW (mSel 8 (I 133) (I 134))))) 4 (0 + (mW (mSel 0 (I 133) (I 134)))))) 120 (ma_up (ma_up (ma_up (ma_up (ma_up (ma_up (ma_up (ma_up (ma_up (ma_up r15 0 (Int32.toInt64 ((I 133) 0))) 1 (Int32.toInt64 ((I 133) 1))) 2 (Int32.toInt64 ((I 133) 2))) 3 (Int32.toInt64 ((I 133) 3))) 4 (Int32.toInt64 ((I 133) 4))) 5 (Int32.toInt64 ((I 133) 5))) 6 (Int32.toInt64 ((I 133) 6))) 7 (Int32.toInt64 ((I 133) 7))) 8 (Int32.toInt64 ((I 133) 8))) 9 (Int32.toInt64 ((I 133) 9))))) dX8_layForm_117 rfl hs_120 rfl (Nat.le_of_ble_eq_true rfl) (Nat.le_of_ble_eq_true rfl) (ma_up_up _ _ _ _) ?_
  refine ev_iinc (pc' := 121) (v := 2) (lv' := [some (.ref 115), some (.int 15), some (.int 3), some (.int 2), some (.int 1), some (.int 2)]) dX8_layForm_118 rfl rfl (by decide) (Nat.le_of_ble_eq_true rfl) rfl rfl ?_
  refine ev_goto (tgt := 69) dX8_layForm_121 rfl ?_
  refine ev_iload (pc' := 71) dX8_layForm_69 rfl rfl ?_
  refine ev_iconst (pc' := 72) (v := 4) dX8_layForm_71 rfl ki_4 ?_
  refine ev_icmp_ge (tgt := 124) (pc' := 75) dX8_layForm_72 rfl rfl (fun h => absurd h (by decide)) (fun _ => ?_)
  refine ev_aload_n (pc' := 76) (i := 0) dX8_layForm_75 rfl rfl rfl ?_
  refine ev_getR (pc' := 79) fo_X8_26 dX8_layForm_76 rfl hs_115 rfl rf_115_8 ?_
  refine ev_iconst (pc' := 80) (v := 4) dX8_layForm_79 rfl ki_4 ?_
  refine ev_iload_n (pc' := 81) (i := 3) dX8_layForm_80 rfl rfl rfl ?_
  refine ev_imul (pc' := 82) (v := 8) dX8_layForm_81 rfl (by decide) ?_
  refine ev_iload (pc' := 84) dX8_layForm_82 rfl rfl ?_
  refine ev_iadd (pc' := 85) (v := 10) dX8_layForm_84 rfl (by decide) ?_
  refine ev_iload (pc' := 87) dX8_layForm_85 rfl rfl ?_
  refine ev_if_eq (tgt := 105) (pc' := 90) dX8_layForm_87 rfl rfl (fun h => absurd h (by decide)) (fun _ => ?_)
  refine ev_aload_n (pc' := 91) (i := 0) dX8_layForm_90 rfl rfl rfl ?_
  refine ev_getR (pc' := 94) fo_X8_67 dX8_layForm_91 rfl hs_115 rfl rf_115_24 ?_
  refine ev_iconst (pc' := 95) (v := 4) dX8_layForm_94 rfl ki_4 ?_
  refine ev_iload_n (pc' := 96) (i := 3) dX8_layForm_95 rfl rfl rfl ?_
  refine ev_imul (pc' := 97) (v := 8) dX8_layForm_96 rfl (by decide) ?_
  refine ev_iload (pc' := 99) dX8_layForm_97 rfl rfl ?_
  refine ev_iadd (pc' := 100) (v := 10) dX8_layForm_99 rfl (by decide) ?_
  refine ev_iald (pc' := 101) (j := 10) (v := (I 133) 10) dX8_layForm_100 rfl hs_133 rfl (Nat.le_of_ble_eq_true rfl) (Nat.le_of_ble_eq_true rfl) rfl ?_
  refine ev_i2l (pc' := 102) (v := Int32.toInt64 ((I 133) 10)) dX8_layForm_101 rfl rfl ?_
  refine ev_goto (tgt := 117) dX8_layForm_102 rfl ?_
  refine ev_last (pc' := 118) (j := 10) (L' := (ma_up (ma_up L 132 (ma_up (ma_up (ma_up (ma_up (ma_up (L 132) 0 0) 1 ((((0 + (mW (mSel 7 (I 133) (I 134)))) + (mW (mSel 11 (I 133) (I 134)))) + (mW (mSel 13 (I 133) (I 134)))) + (mW (mSel 14 (I 133) (I 134))))) 2 ((((((0 + (mW (mSel 3 (I 133) (I 134)))) + (mW (mSel 5 (I 133) (I 134)))) + (mW (mSel 6 (I 133) (I 134)))) + (mW (mSel 9 (I 133) (I 134)))) + (mW (mSel 10 (I 133) (I 134)))) + (mW (mSel 12 (I 133) (I 134))))) 3 ((((0 + (mW (mSel 1 (I 133) (I 134)))) + (mW (mSel 2 (I 133) (I 134)))) + (mW (mSel 4 (I 133) (I 134)))) + (mW (mSel 8 (I 133) (I 134))))) 4 (0 + (mW (mSel 0 (I 133) (I 134)))))) 120 (ma_up (ma_up (ma_up (ma_up (ma_up (ma_up (ma_up (ma_up (ma_up (ma_up (ma_up r15 0 (Int32.toInt64 ((I 133) 0))) 1 (Int32.toInt64 ((I 133) 1))) 2 (Int32.toInt64 ((I 133) 2))) 3 (Int32.toInt64 ((I 133) 3))) 4 (Int32.toInt64 ((I 133) 4))) 5 (Int32.toInt64 ((I 133) 5))) 6 (Int32.toInt64 ((I 133) 6))) 7 (Int32.toInt64 ((I 133) 7))) 8 (Int32.toInt64 ((I 133) 8))) 9 (Int32.toInt64 ((I 133) 9))) 10 (Int32.toInt64 ((I 133) 10))))) dX8_layForm_117 rfl hs_120 rfl (Nat.le_of_ble_eq_true rfl) (Nat.le_of_ble_eq_true rfl) (ma_up_up _ _ _ _) ?_
  refine ev_iinc (pc' := 121) (v := 3) (lv' := [some (.ref 115), some (.int 15), some (.int 3), some (.int 2), some (.int 1), some (.int 3)]) dX8_layForm_118 rfl rfl (by decide) (Nat.le_of_ble_eq_true rfl) rfl rfl ?_
  refine ev_goto (tgt := 69) dX8_layForm_121 rfl ?_
  refine ev_iload (pc' := 71) dX8_layForm_69 rfl rfl ?_
  refine ev_iconst (pc' := 72) (v := 4) dX8_layForm_71 rfl ki_4 ?_
  refine ev_icmp_ge (tgt := 124) (pc' := 75) dX8_layForm_72 rfl rfl (fun h => absurd h (by decide)) (fun _ => ?_)
  refine ev_aload_n (pc' := 76) (i := 0) dX8_layForm_75 rfl rfl rfl ?_
  refine ev_getR (pc' := 79) fo_X8_26 dX8_layForm_76 rfl hs_115 rfl rf_115_8 ?_
  refine ev_iconst (pc' := 80) (v := 4) dX8_layForm_79 rfl ki_4 ?_
  refine ev_iload_n (pc' := 81) (i := 3) dX8_layForm_80 rfl rfl rfl ?_
  refine ev_imul (pc' := 82) (v := 8) dX8_layForm_81 rfl (by decide) ?_
  refine ev_iload (pc' := 84) dX8_layForm_82 rfl rfl ?_
  refine ev_iadd (pc' := 85) (v := 11) dX8_layForm_84 rfl (by decide) ?_
  refine ev_iload (pc' := 87) dX8_layForm_85 rfl rfl ?_
  refine ev_if_eq (tgt := 105) (pc' := 90) dX8_layForm_87 rfl rfl (fun h => absurd h (by decide)) (fun _ => ?_)
  refine ev_aload_n (pc' := 91) (i := 0) dX8_layForm_90 rfl rfl rfl ?_
  refine ev_getR (pc' := 94) fo_X8_67 dX8_layForm_91 rfl hs_115 rfl rf_115_24 ?_
  refine ev_iconst (pc' := 95) (v := 4) dX8_layForm_94 rfl ki_4 ?_
  refine ev_iload_n (pc' := 96) (i := 3) dX8_layForm_95 rfl rfl rfl ?_
  refine ev_imul (pc' := 97) (v := 8) dX8_layForm_96 rfl (by decide) ?_
  refine ev_iload (pc' := 99) dX8_layForm_97 rfl rfl ?_
  refine ev_iadd (pc' := 100) (v := 11) dX8_layForm_99 rfl (by decide) ?_
  refine ev_iald (pc' := 101) (j := 11) (v := (I 133) 11) dX8_layForm_100 rfl hs_133 rfl (Nat.le_of_ble_eq_true rfl) (Nat.le_of_ble_eq_true rfl) rfl ?_
  refine ev_i2l (pc' := 102) (v := Int32.toInt64 ((I 133) 11)) dX8_layForm_101 rfl rfl ?_
  refine ev_goto (tgt := 117) dX8_layForm_102 rfl ?_
  refine ev_last (pc' := 118) (j := 11) (L' := (ma_up (ma_up L 132 (ma_up (ma_up (ma_up (ma_up (ma_up (L 132) 0 0) 1 ((((0 + (mW (mSel 7 (I 133) (I 134)))) + (mW (mSel 11 (I 133) (I 134)))) + (mW (mSel 13 (I 133) (I 134)))) + (mW (mSel 14 (I 133) (I 134))))) 2 ((((((0 + (mW (mSel 3 (I 133) (I 134)))) + (mW (mSel 5 (I 133) (I 134)))) + (mW (mSel 6 (I 133) (I 134)))) + (mW (mSel 9 (I 133) (I 134)))) + (mW (mSel 10 (I 133) (I 134)))) + (mW (mSel 12 (I 133) (I 134))))) 3 ((((0 + (mW (mSel 1 (I 133) (I 134)))) + (mW (mSel 2 (I 133) (I 134)))) + (mW (mSel 4 (I 133) (I 134)))) + (mW (mSel 8 (I 133) (I 134))))) 4 (0 + (mW (mSel 0 (I 133) (I 134)))))) 120 (ma_up (ma_up (ma_up (ma_up (ma_up (ma_up (ma_up (ma_up (ma_up (ma_up (ma_up (ma_up r15 0 (Int32.toInt64 ((I 133) 0))) 1 (Int32.toInt64 ((I 133) 1))) 2 (Int32.toInt64 ((I 133) 2))) 3 (Int32.toInt64 ((I 133) 3))) 4 (Int32.toInt64 ((I 133) 4))) 5 (Int32.toInt64 ((I 133) 5))) 6 (Int32.toInt64 ((I 133) 6))) 7 (Int32.toInt64 ((I 133) 7))) 8 (Int32.toInt64 ((I 133) 8))) 9 (Int32.toInt64 ((I 133) 9))) 10 (Int32.toInt64 ((I 133) 10))) 11 (Int32.toInt64 ((I 133) 11))))) dX8_layForm_117 rfl hs_120 rfl (Nat.le_of_ble_eq_true rfl) (Nat.le_of_ble_eq_true rfl) (ma_up_up _ _ _ _) ?_
  refine ev_iinc (pc' := 121) (v := 4) (lv' := [some (.ref 115), some (.int 15), some (.int 3), some (.int 2), some (.int 1), some (.int 4)]) dX8_layForm_118 rfl rfl (by decide) (Nat.le_of_ble_eq_true rfl) rfl rfl ?_
  refine ev_goto (tgt := 69) dX8_layForm_121 rfl ?_
  refine ev_iload (pc' := 71) dX8_layForm_69 rfl rfl ?_
  refine ev_iconst (pc' := 72) (v := 4) dX8_layForm_71 rfl ki_4 ?_
  refine ev_icmp_ge (tgt := 124) (pc' := 75) dX8_layForm_72 rfl rfl (fun _ => ?_) (fun h => absurd (by decide) h)
  refine ev_iinc (pc' := 127) (v := 3) (lv' := [some (.ref 115), some (.int 15), some (.int 3), some (.int 3), some (.int 1), some (.int 4)]) dX8_layForm_124 rfl rfl (by decide) (Nat.le_of_ble_eq_true rfl) rfl rfl ?_
  refine ev_goto (tgt := 32) dX8_layForm_127 rfl ?_
  refine ev_iload_n (pc' := 33) (i := 3) dX8_layForm_32 rfl rfl rfl ?_
  refine ev_iconst (pc' := 34) (v := 4) dX8_layForm_33 rfl ki_4 ?_
  refine ev_icmp_ge (tgt := 130) (pc' := 37) dX8_layForm_34 rfl rfl (fun h => absurd h (by decide)) (fun _ => ?_)
  refine ev_iload_n (pc' := 38) (i := 1) dX8_layForm_37 rfl rfl rfl ?_
  refine ev_iload_n (pc' := 39) (i := 3) dX8_layForm_38 rfl rfl rfl ?_
  refine ev_ishr (pc' := 40) (v := 1) dX8_layForm_39 rfl (by decide) ?_
  refine ev_iconst (pc' := 41) (v := 1) dX8_layForm_40 rfl ki_1 ?_
  refine ev_iand (pc' := 42) (v := 1) dX8_layForm_41 rfl (by decide) ?_
  refine ev_iconst (pc' := 43) (v := 1) dX8_layForm_42 rfl ki_1 ?_
  refine ev_icmp_ne (tgt := 50) (pc' := 46) dX8_layForm_43 rfl rfl (fun h => absurd (by decide) h) (fun _ => ?_)
  refine ev_iconst (pc' := 47) (v := 1) dX8_layForm_46 rfl ki_1 ?_
  refine ev_goto (tgt := 51) dX8_layForm_47 rfl ?_
  refine ev_istore (pc' := 53) (lv' := [some (.ref 115), some (.int 15), some (.int 3), some (.int 3), some (.int 1), some (.int 4)]) dX8_layForm_51 rfl (Nat.le_of_ble_eq_true rfl) rfl rfl ?_
  refine ev_iload_n (pc' := 54) (i := 2) dX8_layForm_53 rfl rfl rfl ?_
  refine ev_iload (pc' := 56) dX8_layForm_54 rfl rfl ?_
  refine ev_if_eq (tgt := 63) (pc' := 59) dX8_layForm_56 rfl rfl (fun h => absurd h (by decide)) (fun _ => ?_)
  refine ev_iconst (pc' := 60) (v := 1) dX8_layForm_59 rfl ki_1 ?_
  refine ev_goto (tgt := 64) dX8_layForm_60 rfl ?_
  refine ev_iadd (pc' := 65) (v := 4) dX8_layForm_64 rfl (by decide) ?_
  refine ev_istore_n (pc' := 66) (i := 2) (lv' := [some (.ref 115), some (.int 15), some (.int 4), some (.int 3), some (.int 1), some (.int 4)]) dX8_layForm_65 rfl rfl (Nat.le_of_ble_eq_true rfl) rfl rfl ?_
  refine ev_iconst (pc' := 67) (v := 0) dX8_layForm_66 rfl ki_0 ?_
  refine ev_istore (pc' := 69) (lv' := [some (.ref 115), some (.int 15), some (.int 4), some (.int 3), some (.int 1), some (.int 0)]) dX8_layForm_67 rfl (Nat.le_of_ble_eq_true rfl) rfl rfl ?_
  refine ev_iload (pc' := 71) dX8_layForm_69 rfl rfl ?_
  refine ev_iconst (pc' := 72) (v := 4) dX8_layForm_71 rfl ki_4 ?_
  refine ev_icmp_ge (tgt := 124) (pc' := 75) dX8_layForm_72 rfl rfl (fun h => absurd h (by decide)) (fun _ => ?_)
  refine ev_aload_n (pc' := 76) (i := 0) dX8_layForm_75 rfl rfl rfl ?_
  refine ev_getR (pc' := 79) fo_X8_26 dX8_layForm_76 rfl hs_115 rfl rf_115_8 ?_
  refine ev_iconst (pc' := 80) (v := 4) dX8_layForm_79 rfl ki_4 ?_
  refine ev_iload_n (pc' := 81) (i := 3) dX8_layForm_80 rfl rfl rfl ?_
  refine ev_imul (pc' := 82) (v := 12) dX8_layForm_81 rfl (by decide) ?_
  refine ev_iload (pc' := 84) dX8_layForm_82 rfl rfl ?_
  refine ev_iadd (pc' := 85) (v := 12) dX8_layForm_84 rfl (by decide) ?_
  refine ev_iload (pc' := 87) dX8_layForm_85 rfl rfl ?_
  refine ev_if_eq (tgt := 105) (pc' := 90) dX8_layForm_87 rfl rfl (fun h => absurd h (by decide)) (fun _ => ?_)
  refine ev_aload_n (pc' := 91) (i := 0) dX8_layForm_90 rfl rfl rfl ?_
  refine ev_getR (pc' := 94) fo_X8_67 dX8_layForm_91 rfl hs_115 rfl rf_115_24 ?_
  refine ev_iconst (pc' := 95) (v := 4) dX8_layForm_94 rfl ki_4 ?_
  refine ev_iload_n (pc' := 96) (i := 3) dX8_layForm_95 rfl rfl rfl ?_
  refine ev_imul (pc' := 97) (v := 12) dX8_layForm_96 rfl (by decide) ?_
  refine ev_iload (pc' := 99) dX8_layForm_97 rfl rfl ?_
  refine ev_iadd (pc' := 100) (v := 12) dX8_layForm_99 rfl (by decide) ?_
  refine ev_iald (pc' := 101) (j := 12) (v := (I 133) 12) dX8_layForm_100 rfl hs_133 rfl (Nat.le_of_ble_eq_true rfl) (Nat.le_of_ble_eq_true rfl) rfl ?_
  refine ev_i2l (pc' := 102) (v := Int32.toInt64 ((I 133) 12)) dX8_layForm_101 rfl rfl ?_
  refine ev_goto (tgt := 117) dX8_layForm_102 rfl ?_
  refine ev_last (pc' := 118) (j := 12) (L' := (ma_up (ma_up L 132 (ma_up (ma_up (ma_up (ma_up (ma_up (L 132) 0 0) 1 ((((0 + (mW (mSel 7 (I 133) (I 134)))) + (mW (mSel 11 (I 133) (I 134)))) + (mW (mSel 13 (I 133) (I 134)))) + (mW (mSel 14 (I 133) (I 134))))) 2 ((((((0 + (mW (mSel 3 (I 133) (I 134)))) + (mW (mSel 5 (I 133) (I 134)))) + (mW (mSel 6 (I 133) (I 134)))) + (mW (mSel 9 (I 133) (I 134)))) + (mW (mSel 10 (I 133) (I 134)))) + (mW (mSel 12 (I 133) (I 134))))) 3 ((((0 + (mW (mSel 1 (I 133) (I 134)))) + (mW (mSel 2 (I 133) (I 134)))) + (mW (mSel 4 (I 133) (I 134)))) + (mW (mSel 8 (I 133) (I 134))))) 4 (0 + (mW (mSel 0 (I 133) (I 134)))))) 120 (ma_up (ma_up (ma_up (ma_up (ma_up (ma_up (ma_up (ma_up (ma_up (ma_up (ma_up (ma_up (ma_up r15 0 (Int32.toInt64 ((I 133) 0))) 1 (Int32.toInt64 ((I 133) 1))) 2 (Int32.toInt64 ((I 133) 2))) 3 (Int32.toInt64 ((I 133) 3))) 4 (Int32.toInt64 ((I 133) 4))) 5 (Int32.toInt64 ((I 133) 5))) 6 (Int32.toInt64 ((I 133) 6))) 7 (Int32.toInt64 ((I 133) 7))) 8 (Int32.toInt64 ((I 133) 8))) 9 (Int32.toInt64 ((I 133) 9))) 10 (Int32.toInt64 ((I 133) 10))) 11 (Int32.toInt64 ((I 133) 11))) 12 (Int32.toInt64 ((I 133) 12))))) dX8_layForm_117 rfl hs_120 rfl (Nat.le_of_ble_eq_true rfl) (Nat.le_of_ble_eq_true rfl) (ma_up_up _ _ _ _) ?_
  refine ev_iinc (pc' := 121) (v := 1) (lv' := [some (.ref 115), some (.int 15), some (.int 4), some (.int 3), some (.int 1), some (.int 1)]) dX8_layForm_118 rfl rfl (by decide) (Nat.le_of_ble_eq_true rfl) rfl rfl ?_
  refine ev_goto (tgt := 69) dX8_layForm_121 rfl ?_
  refine ev_iload (pc' := 71) dX8_layForm_69 rfl rfl ?_
  refine ev_iconst (pc' := 72) (v := 4) dX8_layForm_71 rfl ki_4 ?_
  refine ev_icmp_ge (tgt := 124) (pc' := 75) dX8_layForm_72 rfl rfl (fun h => absurd h (by decide)) (fun _ => ?_)
  refine ev_aload_n (pc' := 76) (i := 0) dX8_layForm_75 rfl rfl rfl ?_
  refine ev_getR (pc' := 79) fo_X8_26 dX8_layForm_76 rfl hs_115 rfl rf_115_8 ?_
  refine ev_iconst (pc' := 80) (v := 4) dX8_layForm_79 rfl ki_4 ?_
  refine ev_iload_n (pc' := 81) (i := 3) dX8_layForm_80 rfl rfl rfl ?_
  refine ev_imul (pc' := 82) (v := 12) dX8_layForm_81 rfl (by decide) ?_
  refine ev_iload (pc' := 84) dX8_layForm_82 rfl rfl ?_
  refine ev_iadd (pc' := 85) (v := 13) dX8_layForm_84 rfl (by decide) ?_
  refine ev_iload (pc' := 87) dX8_layForm_85 rfl rfl ?_
  refine ev_if_eq (tgt := 105) (pc' := 90) dX8_layForm_87 rfl rfl (fun h => absurd h (by decide)) (fun _ => ?_)
  refine ev_aload_n (pc' := 91) (i := 0) dX8_layForm_90 rfl rfl rfl ?_
  refine ev_getR (pc' := 94) fo_X8_67 dX8_layForm_91 rfl hs_115 rfl rf_115_24 ?_
  refine ev_iconst (pc' := 95) (v := 4) dX8_layForm_94 rfl ki_4 ?_
  refine ev_iload_n (pc' := 96) (i := 3) dX8_layForm_95 rfl rfl rfl ?_
  refine ev_imul (pc' := 97) (v := 12) dX8_layForm_96 rfl (by decide) ?_
  refine ev_iload (pc' := 99) dX8_layForm_97 rfl rfl ?_
  refine ev_iadd (pc' := 100) (v := 13) dX8_layForm_99 rfl (by decide) ?_
  refine ev_iald (pc' := 101) (j := 13) (v := (I 133) 13) dX8_layForm_100 rfl hs_133 rfl (Nat.le_of_ble_eq_true rfl) (Nat.le_of_ble_eq_true rfl) rfl ?_
  refine ev_i2l (pc' := 102) (v := Int32.toInt64 ((I 133) 13)) dX8_layForm_101 rfl rfl ?_
  refine ev_goto (tgt := 117) dX8_layForm_102 rfl ?_
  refine ev_last (pc' := 118) (j := 13) (L' := (ma_up (ma_up L 132 (ma_up (ma_up (ma_up (ma_up (ma_up (L 132) 0 0) 1 ((((0 + (mW (mSel 7 (I 133) (I 134)))) + (mW (mSel 11 (I 133) (I 134)))) + (mW (mSel 13 (I 133) (I 134)))) + (mW (mSel 14 (I 133) (I 134))))) 2 ((((((0 + (mW (mSel 3 (I 133) (I 134)))) + (mW (mSel 5 (I 133) (I 134)))) + (mW (mSel 6 (I 133) (I 134)))) + (mW (mSel 9 (I 133) (I 134)))) + (mW (mSel 10 (I 133) (I 134)))) + (mW (mSel 12 (I 133) (I 134))))) 3 ((((0 + (mW (mSel 1 (I 133) (I 134)))) + (mW (mSel 2 (I 133) (I 134)))) + (mW (mSel 4 (I 133) (I 134)))) + (mW (mSel 8 (I 133) (I 134))))) 4 (0 + (mW (mSel 0 (I 133) (I 134)))))) 120 (ma_up (ma_up (ma_up (ma_up (ma_up (ma_up (ma_up (ma_up (ma_up (ma_up (ma_up (ma_up (ma_up (ma_up r15 0 (Int32.toInt64 ((I 133) 0))) 1 (Int32.toInt64 ((I 133) 1))) 2 (Int32.toInt64 ((I 133) 2))) 3 (Int32.toInt64 ((I 133) 3))) 4 (Int32.toInt64 ((I 133) 4))) 5 (Int32.toInt64 ((I 133) 5))) 6 (Int32.toInt64 ((I 133) 6))) 7 (Int32.toInt64 ((I 133) 7))) 8 (Int32.toInt64 ((I 133) 8))) 9 (Int32.toInt64 ((I 133) 9))) 10 (Int32.toInt64 ((I 133) 10))) 11 (Int32.toInt64 ((I 133) 11))) 12 (Int32.toInt64 ((I 133) 12))) 13 (Int32.toInt64 ((I 133) 13))))) dX8_layForm_117 rfl hs_120 rfl (Nat.le_of_ble_eq_true rfl) (Nat.le_of_ble_eq_true rfl) (ma_up_up _ _ _ _) ?_
  refine ev_iinc (pc' := 121) (v := 2) (lv' := [some (.ref 115), some (.int 15), some (.int 4), some (.int 3), some (.int 1), some (.int 2)]) dX8_layForm_118 rfl rfl (by decide) (Nat.le_of_ble_eq_true rfl) rfl rfl ?_
  refine ev_goto (tgt := 69) dX8_layForm_121 rfl ?_
  refine ev_iload (pc' := 71) dX8_layForm_69 rfl rfl ?_
  refine ev_iconst (pc' := 72) (v := 4) dX8_layForm_71 rfl ki_4 ?_
  refine ev_icmp_ge (tgt := 124) (pc' := 75) dX8_layForm_72 rfl rfl (fun h => absurd h (by decide)) (fun _ => ?_)
  refine ev_aload_n (pc' := 76) (i := 0) dX8_layForm_75 rfl rfl rfl ?_
  refine ev_getR (pc' := 79) fo_X8_26 dX8_layForm_76 rfl hs_115 rfl rf_115_8 ?_
  refine ev_iconst (pc' := 80) (v := 4) dX8_layForm_79 rfl ki_4 ?_
  refine ev_iload_n (pc' := 81) (i := 3) dX8_layForm_80 rfl rfl rfl ?_
  refine ev_imul (pc' := 82) (v := 12) dX8_layForm_81 rfl (by decide) ?_
  refine ev_iload (pc' := 84) dX8_layForm_82 rfl rfl ?_
  refine ev_iadd (pc' := 85) (v := 14) dX8_layForm_84 rfl (by decide) ?_
  refine ev_iload (pc' := 87) dX8_layForm_85 rfl rfl ?_
  refine ev_if_eq (tgt := 105) (pc' := 90) dX8_layForm_87 rfl rfl (fun h => absurd h (by decide)) (fun _ => ?_)
  refine ev_aload_n (pc' := 91) (i := 0) dX8_layForm_90 rfl rfl rfl ?_
  refine ev_getR (pc' := 94) fo_X8_67 dX8_layForm_91 rfl hs_115 rfl rf_115_24 ?_
  refine ev_iconst (pc' := 95) (v := 4) dX8_layForm_94 rfl ki_4 ?_
  refine ev_iload_n (pc' := 96) (i := 3) dX8_layForm_95 rfl rfl rfl ?_
  refine ev_imul (pc' := 97) (v := 12) dX8_layForm_96 rfl (by decide) ?_
  refine ev_iload (pc' := 99) dX8_layForm_97 rfl rfl ?_
  refine ev_iadd (pc' := 100) (v := 14) dX8_layForm_99 rfl (by decide) ?_
  refine ev_iald (pc' := 101) (j := 14) (v := (I 133) 14) dX8_layForm_100 rfl hs_133 rfl (Nat.le_of_ble_eq_true rfl) (Nat.le_of_ble_eq_true rfl) rfl ?_
  refine ev_i2l (pc' := 102) (v := Int32.toInt64 ((I 133) 14)) dX8_layForm_101 rfl rfl ?_
  refine ev_goto (tgt := 117) dX8_layForm_102 rfl ?_
  refine ev_last (pc' := 118) (j := 14) (L' := (ma_up (ma_up L 132 (ma_up (ma_up (ma_up (ma_up (ma_up (L 132) 0 0) 1 ((((0 + (mW (mSel 7 (I 133) (I 134)))) + (mW (mSel 11 (I 133) (I 134)))) + (mW (mSel 13 (I 133) (I 134)))) + (mW (mSel 14 (I 133) (I 134))))) 2 ((((((0 + (mW (mSel 3 (I 133) (I 134)))) + (mW (mSel 5 (I 133) (I 134)))) + (mW (mSel 6 (I 133) (I 134)))) + (mW (mSel 9 (I 133) (I 134)))) + (mW (mSel 10 (I 133) (I 134)))) + (mW (mSel 12 (I 133) (I 134))))) 3 ((((0 + (mW (mSel 1 (I 133) (I 134)))) + (mW (mSel 2 (I 133) (I 134)))) + (mW (mSel 4 (I 133) (I 134)))) + (mW (mSel 8 (I 133) (I 134))))) 4 (0 + (mW (mSel 0 (I 133) (I 134)))))) 120 (ma_up (ma_up (ma_up (ma_up (ma_up (ma_up (ma_up (ma_up (ma_up (ma_up (ma_up (ma_up (ma_up (ma_up (ma_up r15 0 (Int32.toInt64 ((I 133) 0))) 1 (Int32.toInt64 ((I 133) 1))) 2 (Int32.toInt64 ((I 133) 2))) 3 (Int32.toInt64 ((I 133) 3))) 4 (Int32.toInt64 ((I 133) 4))) 5 (Int32.toInt64 ((I 133) 5))) 6 (Int32.toInt64 ((I 133) 6))) 7 (Int32.toInt64 ((I 133) 7))) 8 (Int32.toInt64 ((I 133) 8))) 9 (Int32.toInt64 ((I 133) 9))) 10 (Int32.toInt64 ((I 133) 10))) 11 (Int32.toInt64 ((I 133) 11))) 12 (Int32.toInt64 ((I 133) 12))) 13 (Int32.toInt64 ((I 133) 13))) 14 (Int32.toInt64 ((I 133) 14))))) dX8_layForm_117 rfl hs_120 rfl (Nat.le_of_ble_eq_true rfl) (Nat.le_of_ble_eq_true rfl) (ma_up_up _ _ _ _) ?_
  refine ev_iinc (pc' := 121) (v := 3) (lv' := [some (.ref 115), some (.int 15), some (.int 4), some (.int 3), some (.int 1), some (.int 3)]) dX8_layForm_118 rfl rfl (by decide) (Nat.le_of_ble_eq_true rfl) rfl rfl ?_
  refine ev_goto (tgt := 69) dX8_layForm_121 rfl ?_
  refine ev_iload (pc' := 71) dX8_layForm_69 rfl rfl ?_
  refine ev_iconst (pc' := 72) (v := 4) dX8_layForm_71 rfl ki_4 ?_
  refine ev_icmp_ge (tgt := 124) (pc' := 75) dX8_layForm_72 rfl rfl (fun h => absurd h (by decide)) (fun _ => ?_)
  refine ev_aload_n (pc' := 76) (i := 0) dX8_layForm_75 rfl rfl rfl ?_
  refine ev_getR (pc' := 79) fo_X8_26 dX8_layForm_76 rfl hs_115 rfl rf_115_8 ?_
  refine ev_iconst (pc' := 80) (v := 4) dX8_layForm_79 rfl ki_4 ?_
  refine ev_iload_n (pc' := 81) (i := 3) dX8_layForm_80 rfl rfl rfl ?_
  refine ev_imul (pc' := 82) (v := 12) dX8_layForm_81 rfl (by decide) ?_
  refine ev_iload (pc' := 84) dX8_layForm_82 rfl rfl ?_
  refine ev_iadd (pc' := 85) (v := 15) dX8_layForm_84 rfl (by decide) ?_
  refine ev_iload (pc' := 87) dX8_layForm_85 rfl rfl ?_
  refine ev_if_eq (tgt := 105) (pc' := 90) dX8_layForm_87 rfl rfl (fun h => absurd h (by decide)) (fun _ => ?_)
  refine ev_aload_n (pc' := 91) (i := 0) dX8_layForm_90 rfl rfl rfl ?_
  refine ev_getR (pc' := 94) fo_X8_67 dX8_layForm_91 rfl hs_115 rfl rf_115_24 ?_
  refine ev_iconst (pc' := 95) (v := 4) dX8_layForm_94 rfl ki_4 ?_
  refine ev_iload_n (pc' := 96) (i := 3) dX8_layForm_95 rfl rfl rfl ?_
  refine ev_imul (pc' := 97) (v := 12) dX8_layForm_96 rfl (by decide) ?_
  refine ev_iload (pc' := 99) dX8_layForm_97 rfl rfl ?_
  refine ev_iadd (pc' := 100) (v := 15) dX8_layForm_99 rfl (by decide) ?_
  refine ev_iald (pc' := 101) (j := 15) (v := (I 133) 15) dX8_layForm_100 rfl hs_133 rfl (Nat.le_of_ble_eq_true rfl) (Nat.le_of_ble_eq_true rfl) rfl ?_
  refine ev_i2l (pc' := 102) (v := Int32.toInt64 ((I 133) 15)) dX8_layForm_101 rfl rfl ?_
  refine ev_goto (tgt := 117) dX8_layForm_102 rfl ?_
  refine ev_last (pc' := 118) (j := 15) (L' := (ma_up (ma_up L 132 (ma_up (ma_up (ma_up (ma_up (ma_up (L 132) 0 0) 1 ((((0 + (mW (mSel 7 (I 133) (I 134)))) + (mW (mSel 11 (I 133) (I 134)))) + (mW (mSel 13 (I 133) (I 134)))) + (mW (mSel 14 (I 133) (I 134))))) 2 ((((((0 + (mW (mSel 3 (I 133) (I 134)))) + (mW (mSel 5 (I 133) (I 134)))) + (mW (mSel 6 (I 133) (I 134)))) + (mW (mSel 9 (I 133) (I 134)))) + (mW (mSel 10 (I 133) (I 134)))) + (mW (mSel 12 (I 133) (I 134))))) 3 ((((0 + (mW (mSel 1 (I 133) (I 134)))) + (mW (mSel 2 (I 133) (I 134)))) + (mW (mSel 4 (I 133) (I 134)))) + (mW (mSel 8 (I 133) (I 134))))) 4 (0 + (mW (mSel 0 (I 133) (I 134)))))) 120 (ma_up (ma_up (ma_up (ma_up (ma_up (ma_up (ma_up (ma_up (ma_up (ma_up (ma_up (ma_up (ma_up (ma_up (ma_up (ma_up r15 0 (Int32.toInt64 ((I 133) 0))) 1 (Int32.toInt64 ((I 133) 1))) 2 (Int32.toInt64 ((I 133) 2))) 3 (Int32.toInt64 ((I 133) 3))) 4 (Int32.toInt64 ((I 133) 4))) 5 (Int32.toInt64 ((I 133) 5))) 6 (Int32.toInt64 ((I 133) 6))) 7 (Int32.toInt64 ((I 133) 7))) 8 (Int32.toInt64 ((I 133) 8))) 9 (Int32.toInt64 ((I 133) 9))) 10 (Int32.toInt64 ((I 133) 10))) 11 (Int32.toInt64 ((I 133) 11))) 12 (Int32.toInt64 ((I 133) 12))) 13 (Int32.toInt64 ((I 133) 13))) 14 (Int32.toInt64 ((I 133) 14))) 15 (Int32.toInt64 ((I 133) 15))))) dX8_layForm_117 rfl hs_120 rfl (Nat.le_of_ble_eq_true rfl) (Nat.le_of_ble_eq_true rfl) (ma_up_up _ _ _ _) ?_
  refine ev_iinc (pc' := 121) (v := 4) (lv' := [some (.ref 115), some (.int 15), some (.int 4), some (.int 3), some (.int 1), some (.int 4)]) dX8_layForm_118 rfl rfl (by decide) (Nat.le_of_ble_eq_true rfl) rfl rfl ?_
  refine ev_goto (tgt := 69) dX8_layForm_121 rfl ?_
  refine ev_iload (pc' := 71) dX8_layForm_69 rfl rfl ?_
  refine ev_iconst (pc' := 72) (v := 4) dX8_layForm_71 rfl ki_4 ?_
  refine ev_icmp_ge (tgt := 124) (pc' := 75) dX8_layForm_72 rfl rfl (fun _ => ?_) (fun h => absurd (by decide) h)
  refine ev_iinc (pc' := 127) (v := 4) (lv' := [some (.ref 115), some (.int 15), some (.int 4), some (.int 4), some (.int 1), some (.int 4)]) dX8_layForm_124 rfl rfl (by decide) (Nat.le_of_ble_eq_true rfl) rfl rfl ?_
  refine ev_goto (tgt := 32) dX8_layForm_127 rfl ?_
  refine ev_iload_n (pc' := 33) (i := 3) dX8_layForm_32 rfl rfl rfl ?_
  refine ev_iconst (pc' := 34) (v := 4) dX8_layForm_33 rfl ki_4 ?_
  refine ev_icmp_ge (tgt := 130) (pc' := 37) dX8_layForm_34 rfl rfl (fun _ => ?_) (fun h => absurd (by decide) h)
  refine ev_aload_n (pc' := 131) (i := 0) dX8_layForm_130 rfl rfl rfl ?_
  refine ev_getR (pc' := 134) fo_X8_64 dX8_layForm_131 rfl hs_115 rfl rf_115_23 ?_
  refine ev_iconst (pc' := 135) (v := 4) dX8_layForm_134 rfl ki_4 ?_
  refine ev_iload_n (pc' := 136) (i := 2) dX8_layForm_135 rfl rfl rfl ?_
  refine ev_isub (pc' := 137) (v := 0) dX8_layForm_136 rfl (by decide) ?_
  refine ev_dup2 (pc' := 138) dX8_layForm_137 rfl rfl rfl ?_
  refine ev_lald (pc' := 139) (j := 0) (v := 0) dX8_layForm_138 rfl hs_132 rfl (Nat.le_of_ble_eq_true rfl) (Nat.le_of_ble_eq_true rfl) rfl ?_
  refine ev_aload_n (pc' := 140) (i := 0) dX8_layForm_139 rfl rfl rfl ?_
  refine ev_getR (pc' := 143) fo_X8_26 dX8_layForm_140 rfl hs_115 rfl rf_115_8 ?_
  refine ev_callS (pc' := 146) (rm' := rX8_worthOf) (av := [.ref 120]) (rest := [.long 0, .int 0, .ref 132]) co_X8_173 cs_X8_worthOf dX8_layForm_143 rfl rfl rfl (Nat.le_of_ble_eq_true rfl) ⟨(Nat.le_of_ble_eq_true rfl), (Nat.le_of_ble_eq_true rfl)⟩ ⟨(Nat.le_of_ble_eq_true rfl), (Nat.le_of_ble_eq_true rfl)⟩ ?_
  refine t_X8_worthOf 120 hs_120 ?_
  refine ev_eql (w := mW (mSel 15 (I 133) (I 134))) rfl ?_
  refine ev_ladd (pc' := 147) (v := 0 + (mW (mSel 15 (I 133) (I 134)))) dX8_layForm_146 rfl rfl ?_
  refine ev_last (pc' := 148) (j := 0) (L' := (ma_up (ma_up L 132 (ma_up (ma_up (ma_up (ma_up (ma_up (L 132) 0 (0 + (mW (mSel 15 (I 133) (I 134))))) 1 ((((0 + (mW (mSel 7 (I 133) (I 134)))) + (mW (mSel 11 (I 133) (I 134)))) + (mW (mSel 13 (I 133) (I 134)))) + (mW (mSel 14 (I 133) (I 134))))) 2 ((((((0 + (mW (mSel 3 (I 133) (I 134)))) + (mW (mSel 5 (I 133) (I 134)))) + (mW (mSel 6 (I 133) (I 134)))) + (mW (mSel 9 (I 133) (I 134)))) + (mW (mSel 10 (I 133) (I 134)))) + (mW (mSel 12 (I 133) (I 134))))) 3 ((((0 + (mW (mSel 1 (I 133) (I 134)))) + (mW (mSel 2 (I 133) (I 134)))) + (mW (mSel 4 (I 133) (I 134)))) + (mW (mSel 8 (I 133) (I 134))))) 4 (0 + (mW (mSel 0 (I 133) (I 134)))))) 120 (ma_up (ma_up (ma_up (ma_up (ma_up (ma_up (ma_up (ma_up (ma_up (ma_up (ma_up (ma_up (ma_up (ma_up (ma_up (ma_up r15 0 (Int32.toInt64 ((I 133) 0))) 1 (Int32.toInt64 ((I 133) 1))) 2 (Int32.toInt64 ((I 133) 2))) 3 (Int32.toInt64 ((I 133) 3))) 4 (Int32.toInt64 ((I 133) 4))) 5 (Int32.toInt64 ((I 133) 5))) 6 (Int32.toInt64 ((I 133) 6))) 7 (Int32.toInt64 ((I 133) 7))) 8 (Int32.toInt64 ((I 133) 8))) 9 (Int32.toInt64 ((I 133) 9))) 10 (Int32.toInt64 ((I 133) 10))) 11 (Int32.toInt64 ((I 133) 11))) 12 (Int32.toInt64 ((I 133) 12))) 13 (Int32.toInt64 ((I 133) 13))) 14 (Int32.toInt64 ((I 133) 14))) 15 (Int32.toInt64 ((I 133) 15))))) dX8_layForm_147 rfl hs_132 rfl (Nat.le_of_ble_eq_true rfl) (Nat.le_of_ble_eq_true rfl) ((congrArg (ma_up _ 132) ((ma_up_comm _ (show 0 ≠ 4 from (by decide)) _ _).trans (congrArg (fun f => ma_up f 4 _) ((ma_up_comm _ (show 0 ≠ 3 from (by decide)) _ _).trans (congrArg (fun f => ma_up f 3 _) ((ma_up_comm _ (show 0 ≠ 2 from (by decide)) _ _).trans (congrArg (fun f => ma_up f 2 _) ((ma_up_comm _ (show 0 ≠ 1 from (by decide)) _ _).trans (congrArg (fun f => ma_up f 1 _) (ma_up_up _ _ _ _)))))))))).trans ((ma_up_comm _ (show 132 ≠ 120 from (by decide)) _ _).trans (congrArg (fun f => ma_up f 120 _) (ma_up_up _ _ _ _)))) ?_
  refine ev_iinc (pc' := 151) (v := 16) (lv' := [some (.ref 115), some (.int 16), some (.int 4), some (.int 4), some (.int 1), some (.int 4)]) dX8_layForm_148 rfl rfl (by decide) (Nat.le_of_ble_eq_true rfl) rfl rfl ?_
  refine ev_goto (tgt := 22) dX8_layForm_151 rfl ?_
  refine ev_rowL (fun r16 => ?_)
  refine ev_iload_n (pc' := 23) (i := 1) dX8_layForm_22 rfl rfl rfl ?_
  refine ev_bipush (pc' := 25) (v := 16) dX8_layForm_23 rfl kb_16 ?_
  refine ev_icmp_ge (tgt := 154) (pc' := 28) dX8_layForm_25 rfl rfl (fun _ => ?_) (fun h => absurd (by decide) h)
  refine ev_vret dX8_layForm_154 rfl ⟨Nat.le_refl _, Nat.le_refl _⟩ ?_
  exact k _
