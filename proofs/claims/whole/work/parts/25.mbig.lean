set_option maxRecDepth 4000 in
theorem t_X8_threeRoots {g : ma_G} {Post : ma_P} {I : ma_I} {L : ma_L}   (k : Post (some (.int (if ¬ ((((((((18 * ((L 142) 0)) * ((L 142) 1)) * ((L 142) 2)) * ((L 142) 3)) - ((((4 * ((L 142) 1)) * ((L 142) 1)) * ((L 142) 1)) * ((L 142) 3))) + (((((L 142) 1) * ((L 142) 1)) * ((L 142) 2)) * ((L 142) 2))) - ((((4 * ((L 142) 0)) * ((L 142) 2)) * ((L 142) 2)) * ((L 142) 2))) - ((((27 * ((L 142) 0)) * ((L 142) 0)) * ((L 142) 3)) * ((L 142) 3))) ≤ 0 then (1 : Int32) else 0))) HS I L RF 146) : CT g yX8_threeRoots cX8_threeRoots 9 (some .boolean) rX8_threeRoots [.ref 115] Post HS I L RF 146 := by
  refine ct_of (lv := [some (.ref 115), none, none, none, none, none, none, none, none]) (by decide) (Nat.le_of_ble_eq_true rfl) rfl ?_
  refine ev_aload_n (pc' := 1) (i := 0) dX8_threeRoots_0 rfl rfl rfl ?_
  refine ev_getR (pc' := 4) fo_X8_94 dX8_threeRoots_1 rfl hs_115 rfl rf_115_37 ?_
  refine ev_iconst (pc' := 5) (v := 0) dX8_threeRoots_4 rfl ki_0 ?_
  refine ev_lald (pc' := 6) (j := 0) (v := (L 142) 0) dX8_threeRoots_5 rfl hs_142 rfl (Nat.le_of_ble_eq_true rfl) (Nat.le_of_ble_eq_true rfl) rfl ?_
  refine ev_lstore_n (pc' := 7) (i := 1) (lv' := [some (.ref 115), some (.long ((L 142) 0)), none, none, none, none, none, none, none]) dX8_threeRoots_6 rfl rfl (Nat.le_of_ble_eq_true rfl) rfl rfl ?_
  refine ev_aload_n (pc' := 8) (i := 0) dX8_threeRoots_7 rfl rfl rfl ?_
  refine ev_getR (pc' := 11) fo_X8_94 dX8_threeRoots_8 rfl hs_115 rfl rf_115_37 ?_
  refine ev_iconst (pc' := 12) (v := 1) dX8_threeRoots_11 rfl ki_1 ?_
  refine ev_lald (pc' := 13) (j := 1) (v := (L 142) 1) dX8_threeRoots_12 rfl hs_142 rfl (Nat.le_of_ble_eq_true rfl) (Nat.le_of_ble_eq_true rfl) rfl ?_
  refine ev_lstore_n (pc' := 14) (i := 3) (lv' := [some (.ref 115), some (.long ((L 142) 0)), none, some (.long ((L 142) 1)), none, none, none, none, none]) dX8_threeRoots_13 rfl rfl (Nat.le_of_ble_eq_true rfl) rfl rfl ?_
  refine ev_aload_n (pc' := 15) (i := 0) dX8_threeRoots_14 rfl rfl rfl ?_
  refine ev_getR (pc' := 18) fo_X8_94 dX8_threeRoots_15 rfl hs_115 rfl rf_115_37 ?_
  refine ev_iconst (pc' := 19) (v := 2) dX8_threeRoots_18 rfl ki_2 ?_
  refine ev_lald (pc' := 20) (j := 2) (v := (L 142) 2) dX8_threeRoots_19 rfl hs_142 rfl (Nat.le_of_ble_eq_true rfl) (Nat.le_of_ble_eq_true rfl) rfl ?_
  refine ev_lstore (pc' := 22) (lv' := [some (.ref 115), some (.long ((L 142) 0)), none, some (.long ((L 142) 1)), none, some (.long ((L 142) 2)), none, none, none]) dX8_threeRoots_20 rfl (Nat.le_of_ble_eq_true rfl) rfl rfl ?_
  refine ev_aload_n (pc' := 23) (i := 0) dX8_threeRoots_22 rfl rfl rfl ?_
  refine ev_getR (pc' := 26) fo_X8_94 dX8_threeRoots_23 rfl hs_115 rfl rf_115_37 ?_
  refine ev_iconst (pc' := 27) (v := 3) dX8_threeRoots_26 rfl ki_3 ?_
  refine ev_lald (pc' := 28) (j := 3) (v := (L 142) 3) dX8_threeRoots_27 rfl hs_142 rfl (Nat.le_of_ble_eq_true rfl) (Nat.le_of_ble_eq_true rfl) rfl ?_
  refine ev_lstore (pc' := 30) (lv' := [some (.ref 115), some (.long ((L 142) 0)), none, some (.long ((L 142) 1)), none, some (.long ((L 142) 2)), none, some (.long ((L 142) 3)), none]) dX8_threeRoots_28 rfl (Nat.le_of_ble_eq_true rfl) rfl rfl ?_
  refine ev_ldc2 (pc' := 33) cl_X8_310 dX8_threeRoots_30 rfl ?_
  refine ev_lload_n (pc' := 34) (i := 1) dX8_threeRoots_33 rfl rfl rfl ?_
  refine ev_lmul (pc' := 35) (v := 18 * ((L 142) 0)) dX8_threeRoots_34 rfl rfl ?_
  refine ev_lload_n (pc' := 36) (i := 3) dX8_threeRoots_35 rfl rfl rfl ?_
  refine ev_lmul (pc' := 37) (v := (18 * ((L 142) 0)) * ((L 142) 1)) dX8_threeRoots_36 rfl rfl ?_
  refine ev_lload (pc' := 39) dX8_threeRoots_37 rfl rfl ?_
  refine ev_lmul (pc' := 40) (v := ((18 * ((L 142) 0)) * ((L 142) 1)) * ((L 142) 2)) dX8_threeRoots_39 rfl rfl ?_
  refine ev_lload (pc' := 42) dX8_threeRoots_40 rfl rfl ?_
  refine ev_lmul (pc' := 43) (v := (((18 * ((L 142) 0)) * ((L 142) 1)) * ((L 142) 2)) * ((L 142) 3)) dX8_threeRoots_42 rfl rfl ?_
  refine ev_ldc2 (pc' := 46) cl_X8_301 dX8_threeRoots_43 rfl ?_
  refine ev_lload_n (pc' := 47) (i := 3) dX8_threeRoots_46 rfl rfl rfl ?_
  refine ev_lmul (pc' := 48) (v := 4 * ((L 142) 1)) dX8_threeRoots_47 rfl rfl ?_
  refine ev_lload_n (pc' := 49) (i := 3) dX8_threeRoots_48 rfl rfl rfl ?_
  refine ev_lmul (pc' := 50) (v := (4 * ((L 142) 1)) * ((L 142) 1)) dX8_threeRoots_49 rfl rfl ?_
  refine ev_lload_n (pc' := 51) (i := 3) dX8_threeRoots_50 rfl rfl rfl ?_
  refine ev_lmul (pc' := 52) (v := ((4 * ((L 142) 1)) * ((L 142) 1)) * ((L 142) 1)) dX8_threeRoots_51 rfl rfl ?_
  refine ev_lload (pc' := 54) dX8_threeRoots_52 rfl rfl ?_
  refine ev_lmul (pc' := 55) (v := (((4 * ((L 142) 1)) * ((L 142) 1)) * ((L 142) 1)) * ((L 142) 3)) dX8_threeRoots_54 rfl rfl ?_
  refine ev_lsub (pc' := 56) (v := ((((18 * ((L 142) 0)) * ((L 142) 1)) * ((L 142) 2)) * ((L 142) 3)) - ((((4 * ((L 142) 1)) * ((L 142) 1)) * ((L 142) 1)) * ((L 142) 3))) dX8_threeRoots_55 rfl rfl ?_
  refine ev_lload_n (pc' := 57) (i := 3) dX8_threeRoots_56 rfl rfl rfl ?_
  refine ev_lload_n (pc' := 58) (i := 3) dX8_threeRoots_57 rfl rfl rfl ?_
  refine ev_lmul (pc' := 59) (v := ((L 142) 1) * ((L 142) 1)) dX8_threeRoots_58 rfl rfl ?_
  refine ev_lload (pc' := 61) dX8_threeRoots_59 rfl rfl ?_
  refine ev_lmul (pc' := 62) (v := (((L 142) 1) * ((L 142) 1)) * ((L 142) 2)) dX8_threeRoots_61 rfl rfl ?_
  refine ev_lload (pc' := 64) dX8_threeRoots_62 rfl rfl ?_
  refine ev_lmul (pc' := 65) (v := ((((L 142) 1) * ((L 142) 1)) * ((L 142) 2)) * ((L 142) 2)) dX8_threeRoots_64 rfl rfl ?_
  refine ev_ladd (pc' := 66) (v := (((((18 * ((L 142) 0)) * ((L 142) 1)) * ((L 142) 2)) * ((L 142) 3)) - ((((4 * ((L 142) 1)) * ((L 142) 1)) * ((L 142) 1)) * ((L 142) 3))) + (((((L 142) 1) * ((L 142) 1)) * ((L 142) 2)) * ((L 142) 2))) dX8_threeRoots_65 rfl rfl ?_
  refine ev_ldc2 (pc' := 69) cl_X8_301 dX8_threeRoots_66 rfl ?_
  refine ev_lload_n (pc' := 70) (i := 1) dX8_threeRoots_69 rfl rfl rfl ?_
  refine ev_lmul (pc' := 71) (v := 4 * ((L 142) 0)) dX8_threeRoots_70 rfl rfl ?_
  refine ev_lload (pc' := 73) dX8_threeRoots_71 rfl rfl ?_
  refine ev_lmul (pc' := 74) (v := (4 * ((L 142) 0)) * ((L 142) 2)) dX8_threeRoots_73 rfl rfl ?_
  refine ev_lload (pc' := 76) dX8_threeRoots_74 rfl rfl ?_
  refine ev_lmul (pc' := 77) (v := ((4 * ((L 142) 0)) * ((L 142) 2)) * ((L 142) 2)) dX8_threeRoots_76 rfl rfl ?_
  refine ev_lload (pc' := 79) dX8_threeRoots_77 rfl rfl ?_
  refine ev_lmul (pc' := 80) (v := (((4 * ((L 142) 0)) * ((L 142) 2)) * ((L 142) 2)) * ((L 142) 2)) dX8_threeRoots_79 rfl rfl ?_
  refine ev_lsub (pc' := 81) (v := ((((((18 * ((L 142) 0)) * ((L 142) 1)) * ((L 142) 2)) * ((L 142) 3)) - ((((4 * ((L 142) 1)) * ((L 142) 1)) * ((L 142) 1)) * ((L 142) 3))) + (((((L 142) 1) * ((L 142) 1)) * ((L 142) 2)) * ((L 142) 2))) - ((((4 * ((L 142) 0)) * ((L 142) 2)) * ((L 142) 2)) * ((L 142) 2))) dX8_threeRoots_80 rfl rfl ?_
  refine ev_ldc2 (pc' := 84) cl_X8_312 dX8_threeRoots_81 rfl ?_
  refine ev_lload_n (pc' := 85) (i := 1) dX8_threeRoots_84 rfl rfl rfl ?_
  refine ev_lmul (pc' := 86) (v := 27 * ((L 142) 0)) dX8_threeRoots_85 rfl rfl ?_
  refine ev_lload_n (pc' := 87) (i := 1) dX8_threeRoots_86 rfl rfl rfl ?_
  refine ev_lmul (pc' := 88) (v := (27 * ((L 142) 0)) * ((L 142) 0)) dX8_threeRoots_87 rfl rfl ?_
  refine ev_lload (pc' := 90) dX8_threeRoots_88 rfl rfl ?_
  refine ev_lmul (pc' := 91) (v := ((27 * ((L 142) 0)) * ((L 142) 0)) * ((L 142) 3)) dX8_threeRoots_90 rfl rfl ?_
  refine ev_lload (pc' := 93) dX8_threeRoots_91 rfl rfl ?_
  refine ev_lmul (pc' := 94) (v := (((27 * ((L 142) 0)) * ((L 142) 0)) * ((L 142) 3)) * ((L 142) 3)) dX8_threeRoots_93 rfl rfl ?_
  refine ev_lsub (pc' := 95) (v := (((((((18 * ((L 142) 0)) * ((L 142) 1)) * ((L 142) 2)) * ((L 142) 3)) - ((((4 * ((L 142) 1)) * ((L 142) 1)) * ((L 142) 1)) * ((L 142) 3))) + (((((L 142) 1) * ((L 142) 1)) * ((L 142) 2)) * ((L 142) 2))) - ((((4 * ((L 142) 0)) * ((L 142) 2)) * ((L 142) 2)) * ((L 142) 2))) - ((((27 * ((L 142) 0)) * ((L 142) 0)) * ((L 142) 3)) * ((L 142) 3))) dX8_threeRoots_94 rfl rfl ?_
  refine ev_lconst (pc' := 96) (v := 0) dX8_threeRoots_95 rfl kl_0 ?_
  suffices K3 : ∀ x2 : Int32, x2 = (if ¬ ((((((((18 * ((L 142) 0)) * ((L 142) 1)) * ((L 142) 2)) * ((L 142) 3)) - ((((4 * ((L 142) 1)) * ((L 142) 1)) * ((L 142) 1)) * ((L 142) 3))) + (((((L 142) 1) * ((L 142) 1)) * ((L 142) 2)) * ((L 142) 2))) - ((((4 * ((L 142) 0)) * ((L 142) 2)) * ((L 142) 2)) * ((L 142) 2))) - ((((27 * ((L 142) 0)) * ((L 142) 0)) * ((L 142) 3)) * ((L 142) 3))) ≤ 0 then (1 : Int32) else 0) → EV g yX8_threeRoots cX8_threeRoots 9 (some .boolean) rX8_threeRoots (ma_ZM g rX8_threeRoots Post) 105 [some (.ref 115), some (.long ((L 142) 0)), none, some (.long ((L 142) 1)), none, some (.long ((L 142) 2)), none, some (.long ((L 142) 3)), none] [.int x2] HS I L RF 146 0 0 by
    refine ev_lc_le (p1 := 97) (tgt := 104) (pc' := 100) dX8_threeRoots_96 rfl dX8_threeRoots_97 rfl rfl (fun c4 => ?_) (fun c4 => ?_)
    · refine ev_iconst (pc' := 105) (v := 0) dX8_threeRoots_104 rfl ki_0 ?_
      exact K3 _ (if_neg (not_not_intro c4)).symm
    · refine ev_iconst (pc' := 101) (v := 1) dX8_threeRoots_100 rfl ki_1 ?_
      refine ev_goto (tgt := 105) dX8_threeRoots_101 rfl ?_
      exact K3 _ (if_pos c4).symm
  intro x2 hx2
  subst hx2
  refine ev_iret dX8_threeRoots_105 rfl b01_n ⟨Nat.le_refl _, Nat.le_refl _⟩ ?_
  exact k
set_option maxRecDepth 4000 in
theorem t_X8_begin136 {g : ma_G} {Post : ma_P} {I : ma_I} {L : ma_L}   (k : Post none HS I (ma_up L 136 (ma_up (ma_up (ma_up (ma_up (ma_up (ma_up (ma_up (ma_up (L 136) 0 1) 1 0) 2 0) 3 0) 4 0) 5 0) 6 0) 7 0)) RF 146) : CT g yX8_begin cX8_begin 2 none rX8_begin [.ref 136] Post HS I L RF 146 := by
  refine ct_of (lv := [some (.ref 136), none]) (by decide) (Nat.le_of_ble_eq_true rfl) rfl ?_
  refine ev_iconst (pc' := 1) (v := 0) dX8_begin_0 rfl ki_0 ?_
  refine ev_istore_n (pc' := 2) (i := 1) (lv' := [some (.ref 136), some (.int 0)]) dX8_begin_1 rfl rfl (Nat.le_of_ble_eq_true rfl) rfl rfl ?_
  refine ev_iload_n (pc' := 3) (i := 1) dX8_begin_2 rfl rfl rfl ?_
  refine ev_bipush (pc' := 5) (v := 8) dX8_begin_3 rfl kb_8 ?_
  refine ev_icmp_ge (tgt := 26) (pc' := 8) dX8_begin_5 rfl rfl (fun h => absurd h (by decide)) (fun _ => ?_)
  refine ev_aload_n (pc' := 9) (i := 0) dX8_begin_8 rfl rfl rfl ?_
  refine ev_iload_n (pc' := 10) (i := 1) dX8_begin_9 rfl rfl rfl ?_
  refine ev_iload_n (pc' := 11) (i := 1) dX8_begin_10 rfl rfl rfl ?_
  refine ev_if_ne (tgt := 18) (pc' := 14) dX8_begin_11 rfl rfl (fun h => absurd (by decide) h) (fun _ => ?_)
  refine ev_lconst (pc' := 15) (v := 1) dX8_begin_14 rfl kl_1 ?_
  refine ev_goto (tgt := 19) dX8_begin_15 rfl ?_
  refine ev_last (pc' := 20) (j := 0) (L' := (ma_up L 136 (ma_up (L 136) 0 1))) dX8_begin_19 rfl hs_136 rfl (Nat.le_of_ble_eq_true rfl) (Nat.le_of_ble_eq_true rfl) rfl ?_
  refine ev_iinc (pc' := 23) (v := 1) (lv' := [some (.ref 136), some (.int 1)]) dX8_begin_20 rfl rfl (by decide) (Nat.le_of_ble_eq_true rfl) rfl rfl ?_
  refine ev_goto (tgt := 2) dX8_begin_23 rfl ?_
  refine ev_iload_n (pc' := 3) (i := 1) dX8_begin_2 rfl rfl rfl ?_
  refine ev_bipush (pc' := 5) (v := 8) dX8_begin_3 rfl kb_8 ?_
  refine ev_icmp_ge (tgt := 26) (pc' := 8) dX8_begin_5 rfl rfl (fun h => absurd h (by decide)) (fun _ => ?_)
  refine ev_aload_n (pc' := 9) (i := 0) dX8_begin_8 rfl rfl rfl ?_
  refine ev_iload_n (pc' := 10) (i := 1) dX8_begin_9 rfl rfl rfl ?_
  refine ev_iload_n (pc' := 11) (i := 1) dX8_begin_10 rfl rfl rfl ?_
  refine ev_if_ne (tgt := 18) (pc' := 14) dX8_begin_11 rfl rfl (fun _ => ?_) (fun h => absurd h (by decide))
  refine ev_lconst (pc' := 19) (v := 0) dX8_begin_18 rfl kl_0 ?_
  refine ev_last (pc' := 20) (j := 1) (L' := (ma_up L 136 (ma_up (ma_up (L 136) 0 1) 1 0))) dX8_begin_19 rfl hs_136 rfl (Nat.le_of_ble_eq_true rfl) (Nat.le_of_ble_eq_true rfl) (ma_up_up _ _ _ _) ?_
  refine ev_iinc (pc' := 23) (v := 2) (lv' := [some (.ref 136), some (.int 2)]) dX8_begin_20 rfl rfl (by decide) (Nat.le_of_ble_eq_true rfl) rfl rfl ?_
  refine ev_goto (tgt := 2) dX8_begin_23 rfl ?_
  refine ev_iload_n (pc' := 3) (i := 1) dX8_begin_2 rfl rfl rfl ?_
  refine ev_bipush (pc' := 5) (v := 8) dX8_begin_3 rfl kb_8 ?_
  refine ev_icmp_ge (tgt := 26) (pc' := 8) dX8_begin_5 rfl rfl (fun h => absurd h (by decide)) (fun _ => ?_)
  refine ev_aload_n (pc' := 9) (i := 0) dX8_begin_8 rfl rfl rfl ?_
  refine ev_iload_n (pc' := 10) (i := 1) dX8_begin_9 rfl rfl rfl ?_
  refine ev_iload_n (pc' := 11) (i := 1) dX8_begin_10 rfl rfl rfl ?_
  refine ev_if_ne (tgt := 18) (pc' := 14) dX8_begin_11 rfl rfl (fun _ => ?_) (fun h => absurd h (by decide))
  refine ev_lconst (pc' := 19) (v := 0) dX8_begin_18 rfl kl_0 ?_
  refine ev_last (pc' := 20) (j := 2) (L' := (ma_up L 136 (ma_up (ma_up (ma_up (L 136) 0 1) 1 0) 2 0))) dX8_begin_19 rfl hs_136 rfl (Nat.le_of_ble_eq_true rfl) (Nat.le_of_ble_eq_true rfl) (ma_up_up _ _ _ _) ?_
  refine ev_iinc (pc' := 23) (v := 3) (lv' := [some (.ref 136), some (.int 3)]) dX8_begin_20 rfl rfl (by decide) (Nat.le_of_ble_eq_true rfl) rfl rfl ?_
  refine ev_goto (tgt := 2) dX8_begin_23 rfl ?_
  refine ev_iload_n (pc' := 3) (i := 1) dX8_begin_2 rfl rfl rfl ?_
  refine ev_bipush (pc' := 5) (v := 8) dX8_begin_3 rfl kb_8 ?_
  refine ev_icmp_ge (tgt := 26) (pc' := 8) dX8_begin_5 rfl rfl (fun h => absurd h (by decide)) (fun _ => ?_)
  refine ev_aload_n (pc' := 9) (i := 0) dX8_begin_8 rfl rfl rfl ?_
  refine ev_iload_n (pc' := 10) (i := 1) dX8_begin_9 rfl rfl rfl ?_
  refine ev_iload_n (pc' := 11) (i := 1) dX8_begin_10 rfl rfl rfl ?_
  refine ev_if_ne (tgt := 18) (pc' := 14) dX8_begin_11 rfl rfl (fun _ => ?_) (fun h => absurd h (by decide))
  refine ev_lconst (pc' := 19) (v := 0) dX8_begin_18 rfl kl_0 ?_
  refine ev_last (pc' := 20) (j := 3) (L' := (ma_up L 136 (ma_up (ma_up (ma_up (ma_up (L 136) 0 1) 1 0) 2 0) 3 0))) dX8_begin_19 rfl hs_136 rfl (Nat.le_of_ble_eq_true rfl) (Nat.le_of_ble_eq_true rfl) (ma_up_up _ _ _ _) ?_
  refine ev_iinc (pc' := 23) (v := 4) (lv' := [some (.ref 136), some (.int 4)]) dX8_begin_20 rfl rfl (by decide) (Nat.le_of_ble_eq_true rfl) rfl rfl ?_
  refine ev_goto (tgt := 2) dX8_begin_23 rfl ?_
  refine ev_iload_n (pc' := 3) (i := 1) dX8_begin_2 rfl rfl rfl ?_
  refine ev_bipush (pc' := 5) (v := 8) dX8_begin_3 rfl kb_8 ?_
  refine ev_icmp_ge (tgt := 26) (pc' := 8) dX8_begin_5 rfl rfl (fun h => absurd h (by decide)) (fun _ => ?_)
  refine ev_aload_n (pc' := 9) (i := 0) dX8_begin_8 rfl rfl rfl ?_
  refine ev_iload_n (pc' := 10) (i := 1) dX8_begin_9 rfl rfl rfl ?_
  refine ev_iload_n (pc' := 11) (i := 1) dX8_begin_10 rfl rfl rfl ?_
  refine ev_if_ne (tgt := 18) (pc' := 14) dX8_begin_11 rfl rfl (fun _ => ?_) (fun h => absurd h (by decide))
  refine ev_lconst (pc' := 19) (v := 0) dX8_begin_18 rfl kl_0 ?_
  refine ev_last (pc' := 20) (j := 4) (L' := (ma_up L 136 (ma_up (ma_up (ma_up (ma_up (ma_up (L 136) 0 1) 1 0) 2 0) 3 0) 4 0))) dX8_begin_19 rfl hs_136 rfl (Nat.le_of_ble_eq_true rfl) (Nat.le_of_ble_eq_true rfl) (ma_up_up _ _ _ _) ?_
  refine ev_iinc (pc' := 23) (v := 5) (lv' := [some (.ref 136), some (.int 5)]) dX8_begin_20 rfl rfl (by decide) (Nat.le_of_ble_eq_true rfl) rfl rfl ?_
  refine ev_goto (tgt := 2) dX8_begin_23 rfl ?_
  refine ev_iload_n (pc' := 3) (i := 1) dX8_begin_2 rfl rfl rfl ?_
  refine ev_bipush (pc' := 5) (v := 8) dX8_begin_3 rfl kb_8 ?_
  refine ev_icmp_ge (tgt := 26) (pc' := 8) dX8_begin_5 rfl rfl (fun h => absurd h (by decide)) (fun _ => ?_)
  refine ev_aload_n (pc' := 9) (i := 0) dX8_begin_8 rfl rfl rfl ?_
  refine ev_iload_n (pc' := 10) (i := 1) dX8_begin_9 rfl rfl rfl ?_
  refine ev_iload_n (pc' := 11) (i := 1) dX8_begin_10 rfl rfl rfl ?_
  refine ev_if_ne (tgt := 18) (pc' := 14) dX8_begin_11 rfl rfl (fun _ => ?_) (fun h => absurd h (by decide))
  refine ev_lconst (pc' := 19) (v := 0) dX8_begin_18 rfl kl_0 ?_
  refine ev_last (pc' := 20) (j := 5) (L' := (ma_up L 136 (ma_up (ma_up (ma_up (ma_up (ma_up (ma_up (L 136) 0 1) 1 0) 2 0) 3 0) 4 0) 5 0))) dX8_begin_19 rfl hs_136 rfl (Nat.le_of_ble_eq_true rfl) (Nat.le_of_ble_eq_true rfl) (ma_up_up _ _ _ _) ?_
  refine ev_iinc (pc' := 23) (v := 6) (lv' := [some (.ref 136), some (.int 6)]) dX8_begin_20 rfl rfl (by decide) (Nat.le_of_ble_eq_true rfl) rfl rfl ?_
  refine ev_goto (tgt := 2) dX8_begin_23 rfl ?_
  refine ev_iload_n (pc' := 3) (i := 1) dX8_begin_2 rfl rfl rfl ?_
  refine ev_bipush (pc' := 5) (v := 8) dX8_begin_3 rfl kb_8 ?_
  refine ev_icmp_ge (tgt := 26) (pc' := 8) dX8_begin_5 rfl rfl (fun h => absurd h (by decide)) (fun _ => ?_)
  refine ev_aload_n (pc' := 9) (i := 0) dX8_begin_8 rfl rfl rfl ?_
  refine ev_iload_n (pc' := 10) (i := 1) dX8_begin_9 rfl rfl rfl ?_
  refine ev_iload_n (pc' := 11) (i := 1) dX8_begin_10 rfl rfl rfl ?_
  refine ev_if_ne (tgt := 18) (pc' := 14) dX8_begin_11 rfl rfl (fun _ => ?_) (fun h => absurd h (by decide))
  refine ev_lconst (pc' := 19) (v := 0) dX8_begin_18 rfl kl_0 ?_
  refine ev_last (pc' := 20) (j := 6) (L' := (ma_up L 136 (ma_up (ma_up (ma_up (ma_up (ma_up (ma_up (ma_up (L 136) 0 1) 1 0) 2 0) 3 0) 4 0) 5 0) 6 0))) dX8_begin_19 rfl hs_136 rfl (Nat.le_of_ble_eq_true rfl) (Nat.le_of_ble_eq_true rfl) (ma_up_up _ _ _ _) ?_
  refine ev_iinc (pc' := 23) (v := 7) (lv' := [some (.ref 136), some (.int 7)]) dX8_begin_20 rfl rfl (by decide) (Nat.le_of_ble_eq_true rfl) rfl rfl ?_
  refine ev_goto (tgt := 2) dX8_begin_23 rfl ?_
  refine ev_iload_n (pc' := 3) (i := 1) dX8_begin_2 rfl rfl rfl ?_
  refine ev_bipush (pc' := 5) (v := 8) dX8_begin_3 rfl kb_8 ?_
  refine ev_icmp_ge (tgt := 26) (pc' := 8) dX8_begin_5 rfl rfl (fun h => absurd h (by decide)) (fun _ => ?_)
  refine ev_aload_n (pc' := 9) (i := 0) dX8_begin_8 rfl rfl rfl ?_
  refine ev_iload_n (pc' := 10) (i := 1) dX8_begin_9 rfl rfl rfl ?_
  refine ev_iload_n (pc' := 11) (i := 1) dX8_begin_10 rfl rfl rfl ?_
  refine ev_if_ne (tgt := 18) (pc' := 14) dX8_begin_11 rfl rfl (fun _ => ?_) (fun h => absurd h (by decide))
  refine ev_lconst (pc' := 19) (v := 0) dX8_begin_18 rfl kl_0 ?_
  refine ev_last (pc' := 20) (j := 7) (L' := (ma_up L 136 (ma_up (ma_up (ma_up (ma_up (ma_up (ma_up (ma_up (ma_up (L 136) 0 1) 1 0) 2 0) 3 0) 4 0) 5 0) 6 0) 7 0))) dX8_begin_19 rfl hs_136 rfl (Nat.le_of_ble_eq_true rfl) (Nat.le_of_ble_eq_true rfl) (ma_up_up _ _ _ _) ?_
  refine ev_iinc (pc' := 23) (v := 8) (lv' := [some (.ref 136), some (.int 8)]) dX8_begin_20 rfl rfl (by decide) (Nat.le_of_ble_eq_true rfl) rfl rfl ?_
  refine ev_goto (tgt := 2) dX8_begin_23 rfl ?_
  refine ev_iload_n (pc' := 3) (i := 1) dX8_begin_2 rfl rfl rfl ?_
  refine ev_bipush (pc' := 5) (v := 8) dX8_begin_3 rfl kb_8 ?_
  refine ev_icmp_ge (tgt := 26) (pc' := 8) dX8_begin_5 rfl rfl (fun _ => ?_) (fun h => absurd (by decide) h)
  refine ev_vret dX8_begin_26 rfl ⟨Nat.le_refl _, Nat.le_refl _⟩ ?_
  exact k
set_option maxRecDepth 4000 in
theorem t_X8_begin137 {g : ma_G} {Post : ma_P} {I : ma_I} {L : ma_L}   (k : Post none HS I (ma_up L 137 (ma_up (ma_up (ma_up (ma_up (ma_up (ma_up (ma_up (ma_up (L 137) 0 1) 1 0) 2 0) 3 0) 4 0) 5 0) 6 0) 7 0)) RF 146) : CT g yX8_begin cX8_begin 2 none rX8_begin [.ref 137] Post HS I L RF 146 := by
  refine ct_of (lv := [some (.ref 137), none]) (by decide) (Nat.le_of_ble_eq_true rfl) rfl ?_
  refine ev_iconst (pc' := 1) (v := 0) dX8_begin_0 rfl ki_0 ?_
  refine ev_istore_n (pc' := 2) (i := 1) (lv' := [some (.ref 137), some (.int 0)]) dX8_begin_1 rfl rfl (Nat.le_of_ble_eq_true rfl) rfl rfl ?_
  refine ev_iload_n (pc' := 3) (i := 1) dX8_begin_2 rfl rfl rfl ?_
  refine ev_bipush (pc' := 5) (v := 8) dX8_begin_3 rfl kb_8 ?_
  refine ev_icmp_ge (tgt := 26) (pc' := 8) dX8_begin_5 rfl rfl (fun h => absurd h (by decide)) (fun _ => ?_)
  refine ev_aload_n (pc' := 9) (i := 0) dX8_begin_8 rfl rfl rfl ?_
  refine ev_iload_n (pc' := 10) (i := 1) dX8_begin_9 rfl rfl rfl ?_
  refine ev_iload_n (pc' := 11) (i := 1) dX8_begin_10 rfl rfl rfl ?_
  refine ev_if_ne (tgt := 18) (pc' := 14) dX8_begin_11 rfl rfl (fun h => absurd (by decide) h) (fun _ => ?_)
  refine ev_lconst (pc' := 15) (v := 1) dX8_begin_14 rfl kl_1 ?_
  refine ev_goto (tgt := 19) dX8_begin_15 rfl ?_
  refine ev_last (pc' := 20) (j := 0) (L' := (ma_up L 137 (ma_up (L 137) 0 1))) dX8_begin_19 rfl hs_137 rfl (Nat.le_of_ble_eq_true rfl) (Nat.le_of_ble_eq_true rfl) rfl ?_
  refine ev_iinc (pc' := 23) (v := 1) (lv' := [some (.ref 137), some (.int 1)]) dX8_begin_20 rfl rfl (by decide) (Nat.le_of_ble_eq_true rfl) rfl rfl ?_
  refine ev_goto (tgt := 2) dX8_begin_23 rfl ?_
  refine ev_iload_n (pc' := 3) (i := 1) dX8_begin_2 rfl rfl rfl ?_
  refine ev_bipush (pc' := 5) (v := 8) dX8_begin_3 rfl kb_8 ?_
  refine ev_icmp_ge (tgt := 26) (pc' := 8) dX8_begin_5 rfl rfl (fun h => absurd h (by decide)) (fun _ => ?_)
  refine ev_aload_n (pc' := 9) (i := 0) dX8_begin_8 rfl rfl rfl ?_
  refine ev_iload_n (pc' := 10) (i := 1) dX8_begin_9 rfl rfl rfl ?_
  refine ev_iload_n (pc' := 11) (i := 1) dX8_begin_10 rfl rfl rfl ?_
  refine ev_if_ne (tgt := 18) (pc' := 14) dX8_begin_11 rfl rfl (fun _ => ?_) (fun h => absurd h (by decide))
  refine ev_lconst (pc' := 19) (v := 0) dX8_begin_18 rfl kl_0 ?_
  refine ev_last (pc' := 20) (j := 1) (L' := (ma_up L 137 (ma_up (ma_up (L 137) 0 1) 1 0))) dX8_begin_19 rfl hs_137 rfl (Nat.le_of_ble_eq_true rfl) (Nat.le_of_ble_eq_true rfl) (ma_up_up _ _ _ _) ?_
  refine ev_iinc (pc' := 23) (v := 2) (lv' := [some (.ref 137), some (.int 2)]) dX8_begin_20 rfl rfl (by decide) (Nat.le_of_ble_eq_true rfl) rfl rfl ?_
  refine ev_goto (tgt := 2) dX8_begin_23 rfl ?_
  refine ev_iload_n (pc' := 3) (i := 1) dX8_begin_2 rfl rfl rfl ?_
  refine ev_bipush (pc' := 5) (v := 8) dX8_begin_3 rfl kb_8 ?_
  refine ev_icmp_ge (tgt := 26) (pc' := 8) dX8_begin_5 rfl rfl (fun h => absurd h (by decide)) (fun _ => ?_)
  refine ev_aload_n (pc' := 9) (i := 0) dX8_begin_8 rfl rfl rfl ?_
  refine ev_iload_n (pc' := 10) (i := 1) dX8_begin_9 rfl rfl rfl ?_
  refine ev_iload_n (pc' := 11) (i := 1) dX8_begin_10 rfl rfl rfl ?_
  refine ev_if_ne (tgt := 18) (pc' := 14) dX8_begin_11 rfl rfl (fun _ => ?_) (fun h => absurd h (by decide))
  refine ev_lconst (pc' := 19) (v := 0) dX8_begin_18 rfl kl_0 ?_
  refine ev_last (pc' := 20) (j := 2) (L' := (ma_up L 137 (ma_up (ma_up (ma_up (L 137) 0 1) 1 0) 2 0))) dX8_begin_19 rfl hs_137 rfl (Nat.le_of_ble_eq_true rfl) (Nat.le_of_ble_eq_true rfl) (ma_up_up _ _ _ _) ?_
  refine ev_iinc (pc' := 23) (v := 3) (lv' := [some (.ref 137), some (.int 3)]) dX8_begin_20 rfl rfl (by decide) (Nat.le_of_ble_eq_true rfl) rfl rfl ?_
  refine ev_goto (tgt := 2) dX8_begin_23 rfl ?_
  refine ev_iload_n (pc' := 3) (i := 1) dX8_begin_2 rfl rfl rfl ?_
  refine ev_bipush (pc' := 5) (v := 8) dX8_begin_3 rfl kb_8 ?_
  refine ev_icmp_ge (tgt := 26) (pc' := 8) dX8_begin_5 rfl rfl (fun h => absurd h (by decide)) (fun _ => ?_)
  refine ev_aload_n (pc' := 9) (i := 0) dX8_begin_8 rfl rfl rfl ?_
  refine ev_iload_n (pc' := 10) (i := 1) dX8_begin_9 rfl rfl rfl ?_
  refine ev_iload_n (pc' := 11) (i := 1) dX8_begin_10 rfl rfl rfl ?_
  refine ev_if_ne (tgt := 18) (pc' := 14) dX8_begin_11 rfl rfl (fun _ => ?_) (fun h => absurd h (by decide))
  refine ev_lconst (pc' := 19) (v := 0) dX8_begin_18 rfl kl_0 ?_
  refine ev_last (pc' := 20) (j := 3) (L' := (ma_up L 137 (ma_up (ma_up (ma_up (ma_up (L 137) 0 1) 1 0) 2 0) 3 0))) dX8_begin_19 rfl hs_137 rfl (Nat.le_of_ble_eq_true rfl) (Nat.le_of_ble_eq_true rfl) (ma_up_up _ _ _ _) ?_
  refine ev_iinc (pc' := 23) (v := 4) (lv' := [some (.ref 137), some (.int 4)]) dX8_begin_20 rfl rfl (by decide) (Nat.le_of_ble_eq_true rfl) rfl rfl ?_
  refine ev_goto (tgt := 2) dX8_begin_23 rfl ?_
  refine ev_iload_n (pc' := 3) (i := 1) dX8_begin_2 rfl rfl rfl ?_
  refine ev_bipush (pc' := 5) (v := 8) dX8_begin_3 rfl kb_8 ?_
  refine ev_icmp_ge (tgt := 26) (pc' := 8) dX8_begin_5 rfl rfl (fun h => absurd h (by decide)) (fun _ => ?_)
  refine ev_aload_n (pc' := 9) (i := 0) dX8_begin_8 rfl rfl rfl ?_
  refine ev_iload_n (pc' := 10) (i := 1) dX8_begin_9 rfl rfl rfl ?_
  refine ev_iload_n (pc' := 11) (i := 1) dX8_begin_10 rfl rfl rfl ?_
  refine ev_if_ne (tgt := 18) (pc' := 14) dX8_begin_11 rfl rfl (fun _ => ?_) (fun h => absurd h (by decide))
  refine ev_lconst (pc' := 19) (v := 0) dX8_begin_18 rfl kl_0 ?_
  refine ev_last (pc' := 20) (j := 4) (L' := (ma_up L 137 (ma_up (ma_up (ma_up (ma_up (ma_up (L 137) 0 1) 1 0) 2 0) 3 0) 4 0))) dX8_begin_19 rfl hs_137 rfl (Nat.le_of_ble_eq_true rfl) (Nat.le_of_ble_eq_true rfl) (ma_up_up _ _ _ _) ?_
  refine ev_iinc (pc' := 23) (v := 5) (lv' := [some (.ref 137), some (.int 5)]) dX8_begin_20 rfl rfl (by decide) (Nat.le_of_ble_eq_true rfl) rfl rfl ?_
  refine ev_goto (tgt := 2) dX8_begin_23 rfl ?_
  refine ev_iload_n (pc' := 3) (i := 1) dX8_begin_2 rfl rfl rfl ?_
  refine ev_bipush (pc' := 5) (v := 8) dX8_begin_3 rfl kb_8 ?_
  refine ev_icmp_ge (tgt := 26) (pc' := 8) dX8_begin_5 rfl rfl (fun h => absurd h (by decide)) (fun _ => ?_)
  refine ev_aload_n (pc' := 9) (i := 0) dX8_begin_8 rfl rfl rfl ?_
  refine ev_iload_n (pc' := 10) (i := 1) dX8_begin_9 rfl rfl rfl ?_
  refine ev_iload_n (pc' := 11) (i := 1) dX8_begin_10 rfl rfl rfl ?_
  refine ev_if_ne (tgt := 18) (pc' := 14) dX8_begin_11 rfl rfl (fun _ => ?_) (fun h => absurd h (by decide))
  refine ev_lconst (pc' := 19) (v := 0) dX8_begin_18 rfl kl_0 ?_
  refine ev_last (pc' := 20) (j := 5) (L' := (ma_up L 137 (ma_up (ma_up (ma_up (ma_up (ma_up (ma_up (L 137) 0 1) 1 0) 2 0) 3 0) 4 0) 5 0))) dX8_begin_19 rfl hs_137 rfl (Nat.le_of_ble_eq_true rfl) (Nat.le_of_ble_eq_true rfl) (ma_up_up _ _ _ _) ?_
  refine ev_iinc (pc' := 23) (v := 6) (lv' := [some (.ref 137), some (.int 6)]) dX8_begin_20 rfl rfl (by decide) (Nat.le_of_ble_eq_true rfl) rfl rfl ?_
  refine ev_goto (tgt := 2) dX8_begin_23 rfl ?_
  refine ev_iload_n (pc' := 3) (i := 1) dX8_begin_2 rfl rfl rfl ?_
  refine ev_bipush (pc' := 5) (v := 8) dX8_begin_3 rfl kb_8 ?_
  refine ev_icmp_ge (tgt := 26) (pc' := 8) dX8_begin_5 rfl rfl (fun h => absurd h (by decide)) (fun _ => ?_)
  refine ev_aload_n (pc' := 9) (i := 0) dX8_begin_8 rfl rfl rfl ?_
  refine ev_iload_n (pc' := 10) (i := 1) dX8_begin_9 rfl rfl rfl ?_
  refine ev_iload_n (pc' := 11) (i := 1) dX8_begin_10 rfl rfl rfl ?_
  refine ev_if_ne (tgt := 18) (pc' := 14) dX8_begin_11 rfl rfl (fun _ => ?_) (fun h => absurd h (by decide))
  refine ev_lconst (pc' := 19) (v := 0) dX8_begin_18 rfl kl_0 ?_
  refine ev_last (pc' := 20) (j := 6) (L' := (ma_up L 137 (ma_up (ma_up (ma_up (ma_up (ma_up (ma_up (ma_up (L 137) 0 1) 1 0) 2 0) 3 0) 4 0) 5 0) 6 0))) dX8_begin_19 rfl hs_137 rfl (Nat.le_of_ble_eq_true rfl) (Nat.le_of_ble_eq_true rfl) (ma_up_up _ _ _ _) ?_
  refine ev_iinc (pc' := 23) (v := 7) (lv' := [some (.ref 137), some (.int 7)]) dX8_begin_20 rfl rfl (by decide) (Nat.le_of_ble_eq_true rfl) rfl rfl ?_
  refine ev_goto (tgt := 2) dX8_begin_23 rfl ?_
  refine ev_iload_n (pc' := 3) (i := 1) dX8_begin_2 rfl rfl rfl ?_
  refine ev_bipush (pc' := 5) (v := 8) dX8_begin_3 rfl kb_8 ?_
  refine ev_icmp_ge (tgt := 26) (pc' := 8) dX8_begin_5 rfl rfl (fun h => absurd h (by decide)) (fun _ => ?_)
  refine ev_aload_n (pc' := 9) (i := 0) dX8_begin_8 rfl rfl rfl ?_
  refine ev_iload_n (pc' := 10) (i := 1) dX8_begin_9 rfl rfl rfl ?_
  refine ev_iload_n (pc' := 11) (i := 1) dX8_begin_10 rfl rfl rfl ?_
  refine ev_if_ne (tgt := 18) (pc' := 14) dX8_begin_11 rfl rfl (fun _ => ?_) (fun h => absurd h (by decide))
  refine ev_lconst (pc' := 19) (v := 0) dX8_begin_18 rfl kl_0 ?_
  refine ev_last (pc' := 20) (j := 7) (L' := (ma_up L 137 (ma_up (ma_up (ma_up (ma_up (ma_up (ma_up (ma_up (ma_up (L 137) 0 1) 1 0) 2 0) 3 0) 4 0) 5 0) 6 0) 7 0))) dX8_begin_19 rfl hs_137 rfl (Nat.le_of_ble_eq_true rfl) (Nat.le_of_ble_eq_true rfl) (ma_up_up _ _ _ _) ?_
  refine ev_iinc (pc' := 23) (v := 8) (lv' := [some (.ref 137), some (.int 8)]) dX8_begin_20 rfl rfl (by decide) (Nat.le_of_ble_eq_true rfl) rfl rfl ?_
  refine ev_goto (tgt := 2) dX8_begin_23 rfl ?_
  refine ev_iload_n (pc' := 3) (i := 1) dX8_begin_2 rfl rfl rfl ?_
  refine ev_bipush (pc' := 5) (v := 8) dX8_begin_3 rfl kb_8 ?_
  refine ev_icmp_ge (tgt := 26) (pc' := 8) dX8_begin_5 rfl rfl (fun _ => ?_) (fun h => absurd (by decide) h)
  refine ev_vret dX8_begin_26 rfl ⟨Nat.le_refl _, Nat.le_refl _⟩ ?_
  exact k
set_option maxRecDepth 4000 in
theorem t_X8_compare {g : ma_G} {Post : ma_P} {I : ma_I} {L : ma_L}    (k1 : (((L 136) 7) = ((L 137) 7)) → (((L 136) 6) = ((L 137) 6)) → (((L 136) 5) = ((L 137) 5)) → (((L 136) 4) = ((L 137) 4)) → (((L 136) 3) = ((L 137) 3)) → (((L 136) 2) = ((L 137) 2)) → (((L 136) 1) = ((L 137) 1)) → (((L 136) 0) = ((L 137) 0)) → Post (some (.int 0)) HS I L RF 146) (k2 : (((L 136) 7) = ((L 137) 7)) → (((L 136) 6) = ((L 137) 6)) → (((L 136) 5) = ((L 137) 5)) → (((L 136) 4) = ((L 137) 4)) → (((L 136) 3) = ((L 137) 3)) → (((L 136) 2) = ((L 137) 2)) → (((L 136) 1) = ((L 137) 1)) → (¬ ((L 136) 0) = ((L 137) 0)) → Post (some (.int (if ((L 136) 0) ≤ ((L 137) 0) then (-1) else 1))) HS I L RF 146) (k3 : (((L 136) 7) = ((L 137) 7)) → (((L 136) 6) = ((L 137) 6)) → (((L 136) 5) = ((L 137) 5)) → (((L 136) 4) = ((L 137) 4)) → (((L 136) 3) = ((L 137) 3)) → (((L 136) 2) = ((L 137) 2)) → (¬ ((L 136) 1) = ((L 137) 1)) → Post (some (.int (if ((L 136) 1) ≤ ((L 137) 1) then (-1) else 1))) HS I L RF 146) (k4 : (((L 136) 7) = ((L 137) 7)) → (((L 136) 6) = ((L 137) 6)) → (((L 136) 5) = ((L 137) 5)) → (((L 136) 4) = ((L 137) 4)) → (((L 136) 3) = ((L 137) 3)) → (¬ ((L 136) 2) = ((L 137) 2)) → Post (some (.int (if ((L 136) 2) ≤ ((L 137) 2) then (-1) else 1))) HS I L RF 146) (k5 : (((L 136) 7) = ((L 137) 7)) → (((L 136) 6) = ((L 137) 6)) → (((L 136) 5) = ((L 137) 5)) → (((L 136) 4) = ((L 137) 4)) → (¬ ((L 136) 3) = ((L 137) 3)) → Post (some (.int (if ((L 136) 3) ≤ ((L 137) 3) then (-1) else 1))) HS I L RF 146) (k6 : (((L 136) 7) = ((L 137) 7)) → (((L 136) 6) = ((L 137) 6)) → (((L 136) 5) = ((L 137) 5)) → (¬ ((L 136) 4) = ((L 137) 4)) → Post (some (.int (if ((L 136) 4) ≤ ((L 137) 4) then (-1) else 1))) HS I L RF 146) (k7 : (((L 136) 7) = ((L 137) 7)) → (((L 136) 6) = ((L 137) 6)) → (¬ ((L 136) 5) = ((L 137) 5)) → Post (some (.int (if ((L 136) 5) ≤ ((L 137) 5) then (-1) else 1))) HS I L RF 146) (k8 : (((L 136) 7) = ((L 137) 7)) → (¬ ((L 136) 6) = ((L 137) 6)) → Post (some (.int (if ((L 136) 6) ≤ ((L 137) 6) then (-1) else 1))) HS I L RF 146) (k9 : (¬ ((L 136) 7) = ((L 137) 7)) → Post (some (.int (if ((L 136) 7) ≤ ((L 137) 7) then (-1) else 1))) HS I L RF 146) : CT g yX8_compare cX8_compare 2 (some .int) rX8_compare [.ref 115] Post HS I L RF 146 := by
  refine ct_of (lv := [some (.ref 115), none]) (by decide) (Nat.le_of_ble_eq_true rfl) rfl ?_
  refine ev_bipush (pc' := 2) (v := 7) dX8_compare_0 rfl kb_7 ?_
  refine ev_istore_n (pc' := 3) (i := 1) (lv' := [some (.ref 115), some (.int 7)]) dX8_compare_2 rfl rfl (Nat.le_of_ble_eq_true rfl) rfl rfl ?_
  refine ev_iload_n (pc' := 4) (i := 1) dX8_compare_3 rfl rfl rfl ?_
  refine ev_if_lt (tgt := 51) (pc' := 7) dX8_compare_4 rfl rfl (fun h => absurd h (by decide)) (fun _ => ?_)
  refine ev_aload_n (pc' := 8) (i := 0) dX8_compare_7 rfl rfl rfl ?_
  refine ev_getR (pc' := 11) fo_X8_76 dX8_compare_8 rfl hs_115 rfl rf_115_28 ?_
  refine ev_iload_n (pc' := 12) (i := 1) dX8_compare_11 rfl rfl rfl ?_
  refine ev_lald (pc' := 13) (j := 7) (v := (L 136) 7) dX8_compare_12 rfl hs_136 rfl (Nat.le_of_ble_eq_true rfl) (Nat.le_of_ble_eq_true rfl) rfl ?_
  refine ev_aload_n (pc' := 14) (i := 0) dX8_compare_13 rfl rfl rfl ?_
  refine ev_getR (pc' := 17) fo_X8_79 dX8_compare_14 rfl hs_115 rfl rf_115_29 ?_
  refine ev_iload_n (pc' := 18) (i := 1) dX8_compare_17 rfl rfl rfl ?_
  refine ev_lald (pc' := 19) (j := 7) (v := (L 137) 7) dX8_compare_18 rfl hs_137 rfl (Nat.le_of_ble_eq_true rfl) (Nat.le_of_ble_eq_true rfl) rfl ?_
  refine ev_lc_eq (p1 := 20) (tgt := 45) (pc' := 23) dX8_compare_19 rfl dX8_compare_20 rfl rfl (fun c1 => ?_) (fun c1 => ?_)
  · refine ev_iinc (pc' := 48) (v := 6) (lv' := [some (.ref 115), some (.int 6)]) dX8_compare_45 rfl rfl (by decide) (Nat.le_of_ble_eq_true rfl) rfl rfl ?_
    refine ev_goto (tgt := 3) dX8_compare_48 rfl ?_
    refine ev_iload_n (pc' := 4) (i := 1) dX8_compare_3 rfl rfl rfl ?_
    refine ev_if_lt (tgt := 51) (pc' := 7) dX8_compare_4 rfl rfl (fun h => absurd h (by decide)) (fun _ => ?_)
    refine ev_aload_n (pc' := 8) (i := 0) dX8_compare_7 rfl rfl rfl ?_
    refine ev_getR (pc' := 11) fo_X8_76 dX8_compare_8 rfl hs_115 rfl rf_115_28 ?_
    refine ev_iload_n (pc' := 12) (i := 1) dX8_compare_11 rfl rfl rfl ?_
    refine ev_lald (pc' := 13) (j := 6) (v := (L 136) 6) dX8_compare_12 rfl hs_136 rfl (Nat.le_of_ble_eq_true rfl) (Nat.le_of_ble_eq_true rfl) rfl ?_
    refine ev_aload_n (pc' := 14) (i := 0) dX8_compare_13 rfl rfl rfl ?_
    refine ev_getR (pc' := 17) fo_X8_79 dX8_compare_14 rfl hs_115 rfl rf_115_29 ?_
    refine ev_iload_n (pc' := 18) (i := 1) dX8_compare_17 rfl rfl rfl ?_
    refine ev_lald (pc' := 19) (j := 6) (v := (L 137) 6) dX8_compare_18 rfl hs_137 rfl (Nat.le_of_ble_eq_true rfl) (Nat.le_of_ble_eq_true rfl) rfl ?_
    refine ev_lc_eq (p1 := 20) (tgt := 45) (pc' := 23) dX8_compare_19 rfl dX8_compare_20 rfl rfl (fun c2 => ?_) (fun c2 => ?_)
    · refine ev_iinc (pc' := 48) (v := 5) (lv' := [some (.ref 115), some (.int 5)]) dX8_compare_45 rfl rfl (by decide) (Nat.le_of_ble_eq_true rfl) rfl rfl ?_
      refine ev_goto (tgt := 3) dX8_compare_48 rfl ?_
      refine ev_iload_n (pc' := 4) (i := 1) dX8_compare_3 rfl rfl rfl ?_
      refine ev_if_lt (tgt := 51) (pc' := 7) dX8_compare_4 rfl rfl (fun h => absurd h (by decide)) (fun _ => ?_)
      refine ev_aload_n (pc' := 8) (i := 0) dX8_compare_7 rfl rfl rfl ?_
      refine ev_getR (pc' := 11) fo_X8_76 dX8_compare_8 rfl hs_115 rfl rf_115_28 ?_
      refine ev_iload_n (pc' := 12) (i := 1) dX8_compare_11 rfl rfl rfl ?_
      refine ev_lald (pc' := 13) (j := 5) (v := (L 136) 5) dX8_compare_12 rfl hs_136 rfl (Nat.le_of_ble_eq_true rfl) (Nat.le_of_ble_eq_true rfl) rfl ?_
      refine ev_aload_n (pc' := 14) (i := 0) dX8_compare_13 rfl rfl rfl ?_
      refine ev_getR (pc' := 17) fo_X8_79 dX8_compare_14 rfl hs_115 rfl rf_115_29 ?_
      refine ev_iload_n (pc' := 18) (i := 1) dX8_compare_17 rfl rfl rfl ?_
      refine ev_lald (pc' := 19) (j := 5) (v := (L 137) 5) dX8_compare_18 rfl hs_137 rfl (Nat.le_of_ble_eq_true rfl) (Nat.le_of_ble_eq_true rfl) rfl ?_
      refine ev_lc_eq (p1 := 20) (tgt := 45) (pc' := 23) dX8_compare_19 rfl dX8_compare_20 rfl rfl (fun c3 => ?_) (fun c3 => ?_)
      · refine ev_iinc (pc' := 48) (v := 4) (lv' := [some (.ref 115), some (.int 4)]) dX8_compare_45 rfl rfl (by decide) (Nat.le_of_ble_eq_true rfl) rfl rfl ?_
        refine ev_goto (tgt := 3) dX8_compare_48 rfl ?_
        refine ev_iload_n (pc' := 4) (i := 1) dX8_compare_3 rfl rfl rfl ?_
        refine ev_if_lt (tgt := 51) (pc' := 7) dX8_compare_4 rfl rfl (fun h => absurd h (by decide)) (fun _ => ?_)
        refine ev_aload_n (pc' := 8) (i := 0) dX8_compare_7 rfl rfl rfl ?_
        refine ev_getR (pc' := 11) fo_X8_76 dX8_compare_8 rfl hs_115 rfl rf_115_28 ?_
        refine ev_iload_n (pc' := 12) (i := 1) dX8_compare_11 rfl rfl rfl ?_
        refine ev_lald (pc' := 13) (j := 4) (v := (L 136) 4) dX8_compare_12 rfl hs_136 rfl (Nat.le_of_ble_eq_true rfl) (Nat.le_of_ble_eq_true rfl) rfl ?_
        refine ev_aload_n (pc' := 14) (i := 0) dX8_compare_13 rfl rfl rfl ?_
        refine ev_getR (pc' := 17) fo_X8_79 dX8_compare_14 rfl hs_115 rfl rf_115_29 ?_
        refine ev_iload_n (pc' := 18) (i := 1) dX8_compare_17 rfl rfl rfl ?_
        refine ev_lald (pc' := 19) (j := 4) (v := (L 137) 4) dX8_compare_18 rfl hs_137 rfl (Nat.le_of_ble_eq_true rfl) (Nat.le_of_ble_eq_true rfl) rfl ?_
        refine ev_lc_eq (p1 := 20) (tgt := 45) (pc' := 23) dX8_compare_19 rfl dX8_compare_20 rfl rfl (fun c4 => ?_) (fun c4 => ?_)
        · refine ev_iinc (pc' := 48) (v := 3) (lv' := [some (.ref 115), some (.int 3)]) dX8_compare_45 rfl rfl (by decide) (Nat.le_of_ble_eq_true rfl) rfl rfl ?_
          refine ev_goto (tgt := 3) dX8_compare_48 rfl ?_
          refine ev_iload_n (pc' := 4) (i := 1) dX8_compare_3 rfl rfl rfl ?_
          refine ev_if_lt (tgt := 51) (pc' := 7) dX8_compare_4 rfl rfl (fun h => absurd h (by decide)) (fun _ => ?_)
          refine ev_aload_n (pc' := 8) (i := 0) dX8_compare_7 rfl rfl rfl ?_
          refine ev_getR (pc' := 11) fo_X8_76 dX8_compare_8 rfl hs_115 rfl rf_115_28 ?_
          refine ev_iload_n (pc' := 12) (i := 1) dX8_compare_11 rfl rfl rfl ?_
          refine ev_lald (pc' := 13) (j := 3) (v := (L 136) 3) dX8_compare_12 rfl hs_136 rfl (Nat.le_of_ble_eq_true rfl) (Nat.le_of_ble_eq_true rfl) rfl ?_
          refine ev_aload_n (pc' := 14) (i := 0) dX8_compare_13 rfl rfl rfl ?_
          refine ev_getR (pc' := 17) fo_X8_79 dX8_compare_14 rfl hs_115 rfl rf_115_29 ?_
          refine ev_iload_n (pc' := 18) (i := 1) dX8_compare_17 rfl rfl rfl ?_
          refine ev_lald (pc' := 19) (j := 3) (v := (L 137) 3) dX8_compare_18 rfl hs_137 rfl (Nat.le_of_ble_eq_true rfl) (Nat.le_of_ble_eq_true rfl) rfl ?_
          refine ev_lc_eq (p1 := 20) (tgt := 45) (pc' := 23) dX8_compare_19 rfl dX8_compare_20 rfl rfl (fun c5 => ?_) (fun c5 => ?_)
          · refine ev_iinc (pc' := 48) (v := 2) (lv' := [some (.ref 115), some (.int 2)]) dX8_compare_45 rfl rfl (by decide) (Nat.le_of_ble_eq_true rfl) rfl rfl ?_
            refine ev_goto (tgt := 3) dX8_compare_48 rfl ?_
            refine ev_iload_n (pc' := 4) (i := 1) dX8_compare_3 rfl rfl rfl ?_
            refine ev_if_lt (tgt := 51) (pc' := 7) dX8_compare_4 rfl rfl (fun h => absurd h (by decide)) (fun _ => ?_)
            refine ev_aload_n (pc' := 8) (i := 0) dX8_compare_7 rfl rfl rfl ?_
            refine ev_getR (pc' := 11) fo_X8_76 dX8_compare_8 rfl hs_115 rfl rf_115_28 ?_
            refine ev_iload_n (pc' := 12) (i := 1) dX8_compare_11 rfl rfl rfl ?_
            refine ev_lald (pc' := 13) (j := 2) (v := (L 136) 2) dX8_compare_12 rfl hs_136 rfl (Nat.le_of_ble_eq_true rfl) (Nat.le_of_ble_eq_true rfl) rfl ?_
            refine ev_aload_n (pc' := 14) (i := 0) dX8_compare_13 rfl rfl rfl ?_
            refine ev_getR (pc' := 17) fo_X8_79 dX8_compare_14 rfl hs_115 rfl rf_115_29 ?_
            refine ev_iload_n (pc' := 18) (i := 1) dX8_compare_17 rfl rfl rfl ?_
            refine ev_lald (pc' := 19) (j := 2) (v := (L 137) 2) dX8_compare_18 rfl hs_137 rfl (Nat.le_of_ble_eq_true rfl) (Nat.le_of_ble_eq_true rfl) rfl ?_
            refine ev_lc_eq (p1 := 20) (tgt := 45) (pc' := 23) dX8_compare_19 rfl dX8_compare_20 rfl rfl (fun c6 => ?_) (fun c6 => ?_)
            · refine ev_iinc (pc' := 48) (v := 1) (lv' := [some (.ref 115), some (.int 1)]) dX8_compare_45 rfl rfl (by decide) (Nat.le_of_ble_eq_true rfl) rfl rfl ?_
              refine ev_goto (tgt := 3) dX8_compare_48 rfl ?_
              refine ev_iload_n (pc' := 4) (i := 1) dX8_compare_3 rfl rfl rfl ?_
              refine ev_if_lt (tgt := 51) (pc' := 7) dX8_compare_4 rfl rfl (fun h => absurd h (by decide)) (fun _ => ?_)
              refine ev_aload_n (pc' := 8) (i := 0) dX8_compare_7 rfl rfl rfl ?_
              refine ev_getR (pc' := 11) fo_X8_76 dX8_compare_8 rfl hs_115 rfl rf_115_28 ?_
              refine ev_iload_n (pc' := 12) (i := 1) dX8_compare_11 rfl rfl rfl ?_
              refine ev_lald (pc' := 13) (j := 1) (v := (L 136) 1) dX8_compare_12 rfl hs_136 rfl (Nat.le_of_ble_eq_true rfl) (Nat.le_of_ble_eq_true rfl) rfl ?_
              refine ev_aload_n (pc' := 14) (i := 0) dX8_compare_13 rfl rfl rfl ?_
              refine ev_getR (pc' := 17) fo_X8_79 dX8_compare_14 rfl hs_115 rfl rf_115_29 ?_
              refine ev_iload_n (pc' := 18) (i := 1) dX8_compare_17 rfl rfl rfl ?_
              refine ev_lald (pc' := 19) (j := 1) (v := (L 137) 1) dX8_compare_18 rfl hs_137 rfl (Nat.le_of_ble_eq_true rfl) (Nat.le_of_ble_eq_true rfl) rfl ?_
              refine ev_lc_eq (p1 := 20) (tgt := 45) (pc' := 23) dX8_compare_19 rfl dX8_compare_20 rfl rfl (fun c7 => ?_) (fun c7 => ?_)
              · refine ev_iinc (pc' := 48) (v := 0) (lv' := [some (.ref 115), some (.int 0)]) dX8_compare_45 rfl rfl (by decide) (Nat.le_of_ble_eq_true rfl) rfl rfl ?_
                refine ev_goto (tgt := 3) dX8_compare_48 rfl ?_
                refine ev_iload_n (pc' := 4) (i := 1) dX8_compare_3 rfl rfl rfl ?_
                refine ev_if_lt (tgt := 51) (pc' := 7) dX8_compare_4 rfl rfl (fun h => absurd h (by decide)) (fun _ => ?_)
                refine ev_aload_n (pc' := 8) (i := 0) dX8_compare_7 rfl rfl rfl ?_
                refine ev_getR (pc' := 11) fo_X8_76 dX8_compare_8 rfl hs_115 rfl rf_115_28 ?_
                refine ev_iload_n (pc' := 12) (i := 1) dX8_compare_11 rfl rfl rfl ?_
                refine ev_lald (pc' := 13) (j := 0) (v := (L 136) 0) dX8_compare_12 rfl hs_136 rfl (Nat.le_of_ble_eq_true rfl) (Nat.le_of_ble_eq_true rfl) rfl ?_
                refine ev_aload_n (pc' := 14) (i := 0) dX8_compare_13 rfl rfl rfl ?_
                refine ev_getR (pc' := 17) fo_X8_79 dX8_compare_14 rfl hs_115 rfl rf_115_29 ?_
                refine ev_iload_n (pc' := 18) (i := 1) dX8_compare_17 rfl rfl rfl ?_
                refine ev_lald (pc' := 19) (j := 0) (v := (L 137) 0) dX8_compare_18 rfl hs_137 rfl (Nat.le_of_ble_eq_true rfl) (Nat.le_of_ble_eq_true rfl) rfl ?_
                refine ev_lc_eq (p1 := 20) (tgt := 45) (pc' := 23) dX8_compare_19 rfl dX8_compare_20 rfl rfl (fun c8 => ?_) (fun c8 => ?_)
                · refine ev_iinc (pc' := 48) (v := (-1)) (lv' := [some (.ref 115), some (.int (-1))]) dX8_compare_45 rfl rfl (by decide) (Nat.le_of_ble_eq_true rfl) rfl rfl ?_
                  refine ev_goto (tgt := 3) dX8_compare_48 rfl ?_
                  refine ev_iload_n (pc' := 4) (i := 1) dX8_compare_3 rfl rfl rfl ?_
                  refine ev_if_lt (tgt := 51) (pc' := 7) dX8_compare_4 rfl rfl (fun _ => ?_) (fun h => absurd (by decide) h)
                  refine ev_iconst (pc' := 52) (v := 0) dX8_compare_51 rfl ki_0 ?_
                  refine ev_iret dX8_compare_52 rfl rfl ⟨Nat.le_refl _, Nat.le_refl _⟩ ?_
                  exact k1 c1 c2 c3 c4 c5 c6 c7 c8
                · refine ev_aload_n (pc' := 24) (i := 0) dX8_compare_23 rfl rfl rfl ?_
                  refine ev_getR (pc' := 27) fo_X8_76 dX8_compare_24 rfl hs_115 rfl rf_115_28 ?_
                  refine ev_iload_n (pc' := 28) (i := 1) dX8_compare_27 rfl rfl rfl ?_
                  refine ev_lald (pc' := 29) (j := 0) (v := (L 136) 0) dX8_compare_28 rfl hs_136 rfl (Nat.le_of_ble_eq_true rfl) (Nat.le_of_ble_eq_true rfl) rfl ?_
                  refine ev_aload_n (pc' := 30) (i := 0) dX8_compare_29 rfl rfl rfl ?_
                  refine ev_getR (pc' := 33) fo_X8_79 dX8_compare_30 rfl hs_115 rfl rf_115_29 ?_
                  refine ev_iload_n (pc' := 34) (i := 1) dX8_compare_33 rfl rfl rfl ?_
                  refine ev_lald (pc' := 35) (j := 0) (v := (L 137) 0) dX8_compare_34 rfl hs_137 rfl (Nat.le_of_ble_eq_true rfl) (Nat.le_of_ble_eq_true rfl) rfl ?_
                  suffices K11 : ∀ x10 : Int32, x10 = (if ((L 136) 0) ≤ ((L 137) 0) then (-1) else 1) → EV g yX8_compare cX8_compare 2 (some .int) rX8_compare (ma_ZM g rX8_compare Post) 44 [some (.ref 115), some (.int 0)] [.int x10] HS I L RF 146 0 0 by
                    refine ev_lc_le (p1 := 36) (tgt := 43) (pc' := 39) dX8_compare_35 rfl dX8_compare_36 rfl rfl (fun c12 => ?_) (fun c12 => ?_)
                    · refine ev_iconst (pc' := 44) (v := (-1)) dX8_compare_43 rfl ki_m1 ?_
                      exact K11 _ (by rw [if_pos c12])
                    · refine ev_iconst (pc' := 40) (v := 1) dX8_compare_39 rfl ki_1 ?_
                      refine ev_goto (tgt := 44) dX8_compare_40 rfl ?_
                      exact K11 _ (by rw [if_neg c12])
                  intro x10 hx10
                  subst hx10
                  refine ev_iret dX8_compare_44 rfl rfl ⟨Nat.le_refl _, Nat.le_refl _⟩ ?_
                  exact k2 c1 c2 c3 c4 c5 c6 c7 c8
              · refine ev_aload_n (pc' := 24) (i := 0) dX8_compare_23 rfl rfl rfl ?_
                refine ev_getR (pc' := 27) fo_X8_76 dX8_compare_24 rfl hs_115 rfl rf_115_28 ?_
                refine ev_iload_n (pc' := 28) (i := 1) dX8_compare_27 rfl rfl rfl ?_
                refine ev_lald (pc' := 29) (j := 1) (v := (L 136) 1) dX8_compare_28 rfl hs_136 rfl (Nat.le_of_ble_eq_true rfl) (Nat.le_of_ble_eq_true rfl) rfl ?_
                refine ev_aload_n (pc' := 30) (i := 0) dX8_compare_29 rfl rfl rfl ?_
                refine ev_getR (pc' := 33) fo_X8_79 dX8_compare_30 rfl hs_115 rfl rf_115_29 ?_
                refine ev_iload_n (pc' := 34) (i := 1) dX8_compare_33 rfl rfl rfl ?_
                refine ev_lald (pc' := 35) (j := 1) (v := (L 137) 1) dX8_compare_34 rfl hs_137 rfl (Nat.le_of_ble_eq_true rfl) (Nat.le_of_ble_eq_true rfl) rfl ?_
                suffices K15 : ∀ x14 : Int32, x14 = (if ((L 136) 1) ≤ ((L 137) 1) then (-1) else 1) → EV g yX8_compare cX8_compare 2 (some .int) rX8_compare (ma_ZM g rX8_compare Post) 44 [some (.ref 115), some (.int 1)] [.int x14] HS I L RF 146 0 0 by
                  refine ev_lc_le (p1 := 36) (tgt := 43) (pc' := 39) dX8_compare_35 rfl dX8_compare_36 rfl rfl (fun c16 => ?_) (fun c16 => ?_)
                  · refine ev_iconst (pc' := 44) (v := (-1)) dX8_compare_43 rfl ki_m1 ?_
                    exact K15 _ (by rw [if_pos c16])
                  · refine ev_iconst (pc' := 40) (v := 1) dX8_compare_39 rfl ki_1 ?_
                    refine ev_goto (tgt := 44) dX8_compare_40 rfl ?_
                    exact K15 _ (by rw [if_neg c16])
                intro x14 hx14
                subst hx14
                refine ev_iret dX8_compare_44 rfl rfl ⟨Nat.le_refl _, Nat.le_refl _⟩ ?_
                exact k3 c1 c2 c3 c4 c5 c6 c7
            · refine ev_aload_n (pc' := 24) (i := 0) dX8_compare_23 rfl rfl rfl ?_
              refine ev_getR (pc' := 27) fo_X8_76 dX8_compare_24 rfl hs_115 rfl rf_115_28 ?_
              refine ev_iload_n (pc' := 28) (i := 1) dX8_compare_27 rfl rfl rfl ?_
              refine ev_lald (pc' := 29) (j := 2) (v := (L 136) 2) dX8_compare_28 rfl hs_136 rfl (Nat.le_of_ble_eq_true rfl) (Nat.le_of_ble_eq_true rfl) rfl ?_
              refine ev_aload_n (pc' := 30) (i := 0) dX8_compare_29 rfl rfl rfl ?_
              refine ev_getR (pc' := 33) fo_X8_79 dX8_compare_30 rfl hs_115 rfl rf_115_29 ?_
              refine ev_iload_n (pc' := 34) (i := 1) dX8_compare_33 rfl rfl rfl ?_
              refine ev_lald (pc' := 35) (j := 2) (v := (L 137) 2) dX8_compare_34 rfl hs_137 rfl (Nat.le_of_ble_eq_true rfl) (Nat.le_of_ble_eq_true rfl) rfl ?_
              suffices K19 : ∀ x18 : Int32, x18 = (if ((L 136) 2) ≤ ((L 137) 2) then (-1) else 1) → EV g yX8_compare cX8_compare 2 (some .int) rX8_compare (ma_ZM g rX8_compare Post) 44 [some (.ref 115), some (.int 2)] [.int x18] HS I L RF 146 0 0 by
                refine ev_lc_le (p1 := 36) (tgt := 43) (pc' := 39) dX8_compare_35 rfl dX8_compare_36 rfl rfl (fun c20 => ?_) (fun c20 => ?_)
                · refine ev_iconst (pc' := 44) (v := (-1)) dX8_compare_43 rfl ki_m1 ?_
                  exact K19 _ (by rw [if_pos c20])
                · refine ev_iconst (pc' := 40) (v := 1) dX8_compare_39 rfl ki_1 ?_
                  refine ev_goto (tgt := 44) dX8_compare_40 rfl ?_
                  exact K19 _ (by rw [if_neg c20])
              intro x18 hx18
              subst hx18
              refine ev_iret dX8_compare_44 rfl rfl ⟨Nat.le_refl _, Nat.le_refl _⟩ ?_
              exact k4 c1 c2 c3 c4 c5 c6
          · refine ev_aload_n (pc' := 24) (i := 0) dX8_compare_23 rfl rfl rfl ?_
            refine ev_getR (pc' := 27) fo_X8_76 dX8_compare_24 rfl hs_115 rfl rf_115_28 ?_
            refine ev_iload_n (pc' := 28) (i := 1) dX8_compare_27 rfl rfl rfl ?_
            refine ev_lald (pc' := 29) (j := 3) (v := (L 136) 3) dX8_compare_28 rfl hs_136 rfl (Nat.le_of_ble_eq_true rfl) (Nat.le_of_ble_eq_true rfl) rfl ?_
            refine ev_aload_n (pc' := 30) (i := 0) dX8_compare_29 rfl rfl rfl ?_
            refine ev_getR (pc' := 33) fo_X8_79 dX8_compare_30 rfl hs_115 rfl rf_115_29 ?_
            refine ev_iload_n (pc' := 34) (i := 1) dX8_compare_33 rfl rfl rfl ?_
            refine ev_lald (pc' := 35) (j := 3) (v := (L 137) 3) dX8_compare_34 rfl hs_137 rfl (Nat.le_of_ble_eq_true rfl) (Nat.le_of_ble_eq_true rfl) rfl ?_
            suffices K23 : ∀ x22 : Int32, x22 = (if ((L 136) 3) ≤ ((L 137) 3) then (-1) else 1) → EV g yX8_compare cX8_compare 2 (some .int) rX8_compare (ma_ZM g rX8_compare Post) 44 [some (.ref 115), some (.int 3)] [.int x22] HS I L RF 146 0 0 by
              refine ev_lc_le (p1 := 36) (tgt := 43) (pc' := 39) dX8_compare_35 rfl dX8_compare_36 rfl rfl (fun c24 => ?_) (fun c24 => ?_)
              · refine ev_iconst (pc' := 44) (v := (-1)) dX8_compare_43 rfl ki_m1 ?_
                exact K23 _ (by rw [if_pos c24])
              · refine ev_iconst (pc' := 40) (v := 1) dX8_compare_39 rfl ki_1 ?_
                refine ev_goto (tgt := 44) dX8_compare_40 rfl ?_
                exact K23 _ (by rw [if_neg c24])
            intro x22 hx22
            subst hx22
            refine ev_iret dX8_compare_44 rfl rfl ⟨Nat.le_refl _, Nat.le_refl _⟩ ?_
            exact k5 c1 c2 c3 c4 c5
        · refine ev_aload_n (pc' := 24) (i := 0) dX8_compare_23 rfl rfl rfl ?_
          refine ev_getR (pc' := 27) fo_X8_76 dX8_compare_24 rfl hs_115 rfl rf_115_28 ?_
          refine ev_iload_n (pc' := 28) (i := 1) dX8_compare_27 rfl rfl rfl ?_
          refine ev_lald (pc' := 29) (j := 4) (v := (L 136) 4) dX8_compare_28 rfl hs_136 rfl (Nat.le_of_ble_eq_true rfl) (Nat.le_of_ble_eq_true rfl) rfl ?_
          refine ev_aload_n (pc' := 30) (i := 0) dX8_compare_29 rfl rfl rfl ?_
          refine ev_getR (pc' := 33) fo_X8_79 dX8_compare_30 rfl hs_115 rfl rf_115_29 ?_
          refine ev_iload_n (pc' := 34) (i := 1) dX8_compare_33 rfl rfl rfl ?_
          refine ev_lald (pc' := 35) (j := 4) (v := (L 137) 4) dX8_compare_34 rfl hs_137 rfl (Nat.le_of_ble_eq_true rfl) (Nat.le_of_ble_eq_true rfl) rfl ?_
          suffices K27 : ∀ x26 : Int32, x26 = (if ((L 136) 4) ≤ ((L 137) 4) then (-1) else 1) → EV g yX8_compare cX8_compare 2 (some .int) rX8_compare (ma_ZM g rX8_compare Post) 44 [some (.ref 115), some (.int 4)] [.int x26] HS I L RF 146 0 0 by
            refine ev_lc_le (p1 := 36) (tgt := 43) (pc' := 39) dX8_compare_35 rfl dX8_compare_36 rfl rfl (fun c28 => ?_) (fun c28 => ?_)
            · refine ev_iconst (pc' := 44) (v := (-1)) dX8_compare_43 rfl ki_m1 ?_
              exact K27 _ (by rw [if_pos c28])
            · refine ev_iconst (pc' := 40) (v := 1) dX8_compare_39 rfl ki_1 ?_
              refine ev_goto (tgt := 44) dX8_compare_40 rfl ?_
              exact K27 _ (by rw [if_neg c28])
          intro x26 hx26
          subst hx26
          refine ev_iret dX8_compare_44 rfl rfl ⟨Nat.le_refl _, Nat.le_refl _⟩ ?_
          exact k6 c1 c2 c3 c4
      · refine ev_aload_n (pc' := 24) (i := 0) dX8_compare_23 rfl rfl rfl ?_
        refine ev_getR (pc' := 27) fo_X8_76 dX8_compare_24 rfl hs_115 rfl rf_115_28 ?_
        refine ev_iload_n (pc' := 28) (i := 1) dX8_compare_27 rfl rfl rfl ?_
        refine ev_lald (pc' := 29) (j := 5) (v := (L 136) 5) dX8_compare_28 rfl hs_136 rfl (Nat.le_of_ble_eq_true rfl) (Nat.le_of_ble_eq_true rfl) rfl ?_
        refine ev_aload_n (pc' := 30) (i := 0) dX8_compare_29 rfl rfl rfl ?_
        refine ev_getR (pc' := 33) fo_X8_79 dX8_compare_30 rfl hs_115 rfl rf_115_29 ?_
        refine ev_iload_n (pc' := 34) (i := 1) dX8_compare_33 rfl rfl rfl ?_
        refine ev_lald (pc' := 35) (j := 5) (v := (L 137) 5) dX8_compare_34 rfl hs_137 rfl (Nat.le_of_ble_eq_true rfl) (Nat.le_of_ble_eq_true rfl) rfl ?_
        suffices K31 : ∀ x30 : Int32, x30 = (if ((L 136) 5) ≤ ((L 137) 5) then (-1) else 1) → EV g yX8_compare cX8_compare 2 (some .int) rX8_compare (ma_ZM g rX8_compare Post) 44 [some (.ref 115), some (.int 5)] [.int x30] HS I L RF 146 0 0 by
          refine ev_lc_le (p1 := 36) (tgt := 43) (pc' := 39) dX8_compare_35 rfl dX8_compare_36 rfl rfl (fun c32 => ?_) (fun c32 => ?_)
          · refine ev_iconst (pc' := 44) (v := (-1)) dX8_compare_43 rfl ki_m1 ?_
            exact K31 _ (by rw [if_pos c32])
          · refine ev_iconst (pc' := 40) (v := 1) dX8_compare_39 rfl ki_1 ?_
            refine ev_goto (tgt := 44) dX8_compare_40 rfl ?_
            exact K31 _ (by rw [if_neg c32])
        intro x30 hx30
        subst hx30
        refine ev_iret dX8_compare_44 rfl rfl ⟨Nat.le_refl _, Nat.le_refl _⟩ ?_
        exact k7 c1 c2 c3
    · refine ev_aload_n (pc' := 24) (i := 0) dX8_compare_23 rfl rfl rfl ?_
      refine ev_getR (pc' := 27) fo_X8_76 dX8_compare_24 rfl hs_115 rfl rf_115_28 ?_
      refine ev_iload_n (pc' := 28) (i := 1) dX8_compare_27 rfl rfl rfl ?_
      refine ev_lald (pc' := 29) (j := 6) (v := (L 136) 6) dX8_compare_28 rfl hs_136 rfl (Nat.le_of_ble_eq_true rfl) (Nat.le_of_ble_eq_true rfl) rfl ?_
      refine ev_aload_n (pc' := 30) (i := 0) dX8_compare_29 rfl rfl rfl ?_
      refine ev_getR (pc' := 33) fo_X8_79 dX8_compare_30 rfl hs_115 rfl rf_115_29 ?_
      refine ev_iload_n (pc' := 34) (i := 1) dX8_compare_33 rfl rfl rfl ?_
      refine ev_lald (pc' := 35) (j := 6) (v := (L 137) 6) dX8_compare_34 rfl hs_137 rfl (Nat.le_of_ble_eq_true rfl) (Nat.le_of_ble_eq_true rfl) rfl ?_
      suffices K35 : ∀ x34 : Int32, x34 = (if ((L 136) 6) ≤ ((L 137) 6) then (-1) else 1) → EV g yX8_compare cX8_compare 2 (some .int) rX8_compare (ma_ZM g rX8_compare Post) 44 [some (.ref 115), some (.int 6)] [.int x34] HS I L RF 146 0 0 by
        refine ev_lc_le (p1 := 36) (tgt := 43) (pc' := 39) dX8_compare_35 rfl dX8_compare_36 rfl rfl (fun c36 => ?_) (fun c36 => ?_)
        · refine ev_iconst (pc' := 44) (v := (-1)) dX8_compare_43 rfl ki_m1 ?_
          exact K35 _ (by rw [if_pos c36])
        · refine ev_iconst (pc' := 40) (v := 1) dX8_compare_39 rfl ki_1 ?_
          refine ev_goto (tgt := 44) dX8_compare_40 rfl ?_
          exact K35 _ (by rw [if_neg c36])
      intro x34 hx34
      subst hx34
      refine ev_iret dX8_compare_44 rfl rfl ⟨Nat.le_refl _, Nat.le_refl _⟩ ?_
      exact k8 c1 c2
  · refine ev_aload_n (pc' := 24) (i := 0) dX8_compare_23 rfl rfl rfl ?_
    refine ev_getR (pc' := 27) fo_X8_76 dX8_compare_24 rfl hs_115 rfl rf_115_28 ?_
    refine ev_iload_n (pc' := 28) (i := 1) dX8_compare_27 rfl rfl rfl ?_
    refine ev_lald (pc' := 29) (j := 7) (v := (L 136) 7) dX8_compare_28 rfl hs_136 rfl (Nat.le_of_ble_eq_true rfl) (Nat.le_of_ble_eq_true rfl) rfl ?_
    refine ev_aload_n (pc' := 30) (i := 0) dX8_compare_29 rfl rfl rfl ?_
    refine ev_getR (pc' := 33) fo_X8_79 dX8_compare_30 rfl hs_115 rfl rf_115_29 ?_
    refine ev_iload_n (pc' := 34) (i := 1) dX8_compare_33 rfl rfl rfl ?_
    refine ev_lald (pc' := 35) (j := 7) (v := (L 137) 7) dX8_compare_34 rfl hs_137 rfl (Nat.le_of_ble_eq_true rfl) (Nat.le_of_ble_eq_true rfl) rfl ?_
    suffices K39 : ∀ x38 : Int32, x38 = (if ((L 136) 7) ≤ ((L 137) 7) then (-1) else 1) → EV g yX8_compare cX8_compare 2 (some .int) rX8_compare (ma_ZM g rX8_compare Post) 44 [some (.ref 115), some (.int 7)] [.int x38] HS I L RF 146 0 0 by
      refine ev_lc_le (p1 := 36) (tgt := 43) (pc' := 39) dX8_compare_35 rfl dX8_compare_36 rfl rfl (fun c40 => ?_) (fun c40 => ?_)
      · refine ev_iconst (pc' := 44) (v := (-1)) dX8_compare_43 rfl ki_m1 ?_
        exact K39 _ (by rw [if_pos c40])
      · refine ev_iconst (pc' := 40) (v := 1) dX8_compare_39 rfl ki_1 ?_
        refine ev_goto (tgt := 44) dX8_compare_40 rfl ?_
        exact K39 _ (by rw [if_neg c40])
    intro x38 hx38
    subst hx38
    refine ev_iret dX8_compare_44 rfl rfl ⟨Nat.le_refl _, Nat.le_refl _⟩ ?_
    exact k9 c1
