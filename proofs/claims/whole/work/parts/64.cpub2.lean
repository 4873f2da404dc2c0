set_option maxRecDepth 4000 in
theorem t_X7_placesFinding {g : ma_G} {Post : ma_P} {I : ma_I} {L : ma_L}  (a : Nat) (d : Nat) (b : Nat) (ha : HS a = (3, 2)) (hr : RF a 0 = b) (hb : HS b = (9, 16)) (hab : a ≠ b) (e : Nat) (hd : HS d = (3, 2)) (hrd : RF d 0 = e) (he : HS e = (9, 16)) (hde : d ≠ e) (k1 : (((I a) 1) < 4) → Post (some (.int 5)) HS I L RF 146) (k2 : (¬ ((I a) 1) < 4) → (4 ≤ ((I d) 1)) → (mRg (I b) 4 100) → (mRg (I e) 4 100) → (¬ (mZr (I b) 4)) → (¬ (mZr (I e) 4)) → Post (some (.int 0)) HS I (ma_up (ma_up L 34 (ma_up (ma_up (ma_up (ma_up (L 34) 0 (Int32.toInt64 ((I b) 0))) 1 (Int32.toInt64 ((I b) 1))) 2 (Int32.toInt64 ((I b) 2))) 3 (Int32.toInt64 ((I b) 3)))) 35 (ma_up (ma_up (ma_up (ma_up (L 35) 0 (Int32.toInt64 ((I e) 0))) 1 (Int32.toInt64 ((I e) 1))) 2 (Int32.toInt64 ((I e) 2))) 3 (Int32.toInt64 ((I e) 3)))) RF 146) (k3 : (¬ ((I a) 1) < 4) → (4 ≤ ((I d) 1)) → (mRg (I b) 4 100) → (mRg (I e) 4 100) → (¬ (mZr (I b) 4)) → (mZr (I e) 4) → Post (some (.int 4)) HS I L RF 146) (k4 : (¬ ((I a) 1) < 4) → (4 ≤ ((I d) 1)) → (mRg (I b) 4 100) → (mRg (I e) 4 100) → (mZr (I b) 4) → Post (some (.int 4)) HS I L RF 146) (k5 : (¬ ((I a) 1) < 4) → (4 ≤ ((I d) 1)) → (mRg (I b) 4 100) → (¬ (mRg (I e) 4 100)) → Post (some (.int 2)) HS I L RF 146) (k6 : (¬ ((I a) 1) < 4) → (4 ≤ ((I d) 1)) → (¬ (mRg (I b) 4 100)) → Post (some (.int 2)) HS I L RF 146) (k7 : (¬ ((I a) 1) < 4) → (¬ 4 ≤ ((I d) 1)) → Post (some (.int 5)) HS I L RF 146) : CT g yX7_placesFinding cX7_placesFinding 4 (some .int) rX7_placesFinding [.ref 3, .ref a, .ref d] Post HS I L RF 146 := by
  refine ct_of (lv := [some (.ref 3), some (.ref a), some (.ref d), none]) (by decide) (Nat.le_of_ble_eq_true rfl) rfl ?_
  refine ev_aload_n (pc' := 1) (i := 1) dX7_placesFinding_0 rfl rfl rfl ?_
  refine ev_getI (pc' := 4) (v := (I a) 1) fo_X7_91 dX7_placesFinding_1 rfl ha rfl rfl ?_
  refine ev_iconst (pc' := 5) (v := 4) dX7_placesFinding_4 rfl ki_4 ?_
  refine ev_icmp_lt (tgt := 16) (pc' := 8) dX7_placesFinding_5 rfl rfl (fun c1 => ?_) (fun c1 => ?_)
  · refine ev_iconst (pc' := 17) (v := 5) dX7_placesFinding_16 rfl ki_5 ?_
    refine ev_iret dX7_placesFinding_17 rfl rfl ⟨Nat.le_refl _, Nat.le_refl _⟩ ?_
    exact k1 c1
  · refine ev_aload_n (pc' := 9) (i := 2) dX7_placesFinding_8 rfl rfl rfl ?_
    refine ev_getI (pc' := 12) (v := (I d) 1) fo_X7_91 dX7_placesFinding_9 rfl hd rfl rfl ?_
    refine ev_iconst (pc' := 13) (v := 4) dX7_placesFinding_12 rfl ki_4 ?_
    refine ev_icmp_ge (tgt := 18) (pc' := 16) dX7_placesFinding_13 rfl rfl (fun c2 => ?_) (fun c2 => ?_)
    · refine ev_aload_n (pc' := 19) (i := 1) dX7_placesFinding_18 rfl rfl rfl ?_
      refine ev_iconst (pc' := 20) (v := 4) dX7_placesFinding_19 rfl ki_4 ?_
      refine ev_bipush (pc' := 22) (v := 100) dX7_placesFinding_20 rfl kb_100 ?_
      refine ev_callV (pc' := 25) (rm' := rX3_goesBeyond) (b := a) (av := [.int 4, .int 100]) (rest := []) co_X7_117 ci_X3_goesBeyond cv_X3_goesBeyond dX7_placesFinding_22 rfl ha hb_X3 rfl rfl (Nat.le_of_ble_eq_true rfl) ⟨(Nat.le_of_ble_eq_true rfl), (Nat.le_of_ble_eq_true rfl)⟩ ⟨(Nat.le_of_ble_eq_true rfl), (Nat.le_of_ble_eq_true rfl)⟩ ?_
      refine t_X3_goesBeyond a b ha hr hb (by omega) 4 100 (by omega) (fun h3 => ?_) (fun h3 => ?_)
      · skip
        refine ev_if_ne (tgt := 38) (pc' := 28) dX7_placesFinding_25 rfl rfl (fun h => absurd (by decide) h) (fun _ => ?_)
        refine ev_aload_n (pc' := 29) (i := 2) dX7_placesFinding_28 rfl rfl rfl ?_
        refine ev_iconst (pc' := 30) (v := 4) dX7_placesFinding_29 rfl ki_4 ?_
        refine ev_bipush (pc' := 32) (v := 100) dX7_placesFinding_30 rfl kb_100 ?_
        refine ev_callV (pc' := 35) (rm' := rX3_goesBeyond) (b := d) (av := [.int 4, .int 100]) (rest := []) co_X7_117 ci_X3_goesBeyond cv_X3_goesBeyond dX7_placesFinding_32 rfl hd hb_X3 rfl rfl (Nat.le_of_ble_eq_true rfl) ⟨(Nat.le_of_ble_eq_true rfl), (Nat.le_of_ble_eq_true rfl)⟩ ⟨(Nat.le_of_ble_eq_true rfl), (Nat.le_of_ble_eq_true rfl)⟩ ?_
        refine t_X3_goesBeyond d e hd hrd he (by omega) 4 100 (by omega) (fun h4 => ?_) (fun h4 => ?_)
        · skip
          refine ev_if_eq (tgt := 40) (pc' := 38) dX7_placesFinding_35 rfl rfl (fun _ => ?_) (fun h => absurd (by decide) h)
          refine ev_aload_n (pc' := 41) (i := 1) dX7_placesFinding_40 rfl rfl rfl ?_
          refine ev_iconst (pc' := 42) (v := 4) dX7_placesFinding_41 rfl ki_4 ?_
          refine ev_callV (pc' := 45) (rm' := rX3_isBlank) (b := a) (av := [.int 4]) (rest := []) co_X7_120 ci_X3_isBlank cv_X3_isBlank dX7_placesFinding_42 rfl ha hb_X3 rfl rfl (Nat.le_of_ble_eq_true rfl) ⟨(Nat.le_of_ble_eq_true rfl), (Nat.le_of_ble_eq_true rfl)⟩ ⟨(Nat.le_of_ble_eq_true rfl), (Nat.le_of_ble_eq_true rfl)⟩ ?_
          refine t_X3_isBlank a b ha hr hb (by omega) 4  (by omega) (fun h5 => ?_) (fun h5 => ?_)
          · skip
            refine ev_if_ne (tgt := 56) (pc' := 48) dX7_placesFinding_45 rfl rfl (fun h => absurd (by decide) h) (fun _ => ?_)
            refine ev_aload_n (pc' := 49) (i := 2) dX7_placesFinding_48 rfl rfl rfl ?_
            refine ev_iconst (pc' := 50) (v := 4) dX7_placesFinding_49 rfl ki_4 ?_
            refine ev_callV (pc' := 53) (rm' := rX3_isBlank) (b := d) (av := [.int 4]) (rest := []) co_X7_120 ci_X3_isBlank cv_X3_isBlank dX7_placesFinding_50 rfl hd hb_X3 rfl rfl (Nat.le_of_ble_eq_true rfl) ⟨(Nat.le_of_ble_eq_true rfl), (Nat.le_of_ble_eq_true rfl)⟩ ⟨(Nat.le_of_ble_eq_true rfl), (Nat.le_of_ble_eq_true rfl)⟩ ?_
            refine t_X3_isBlank d e hd hrd he (by omega) 4  (by omega) (fun h6 => ?_) (fun h6 => ?_)
            · skip
              refine ev_if_eq (tgt := 58) (pc' := 56) dX7_placesFinding_53 rfl rfl (fun _ => ?_) (fun h => absurd (by decide) h)
              refine ev_iconst (pc' := 59) (v := 0) dX7_placesFinding_58 rfl ki_0 ?_
              refine ev_istore_n (pc' := 60) (i := 3) (lv' := [some (.ref 3), some (.ref a), some (.ref d), some (.int 0)]) dX7_placesFinding_59 rfl rfl (Nat.le_of_ble_eq_true rfl) rfl rfl ?_
              refine ev_iload_n (pc' := 61) (i := 3) dX7_placesFinding_60 rfl rfl rfl ?_
              refine ev_iconst (pc' := 62) (v := 4) dX7_placesFinding_61 rfl ki_4 ?_
              refine ev_icmp_ge (tgt := 97) (pc' := 65) dX7_placesFinding_62 rfl rfl (fun h => absurd h (by decide)) (fun _ => ?_)
              refine ev_aload_n (pc' := 66) (i := 0) dX7_placesFinding_65 rfl rfl rfl ?_
              refine ev_getR (pc' := 69) fo_X7_52 dX7_placesFinding_66 rfl hs_3 rfl rf_3_7 ?_
              refine ev_iload_n (pc' := 70) (i := 3) dX7_placesFinding_69 rfl rfl rfl ?_
              refine ev_aload_n (pc' := 71) (i := 1) dX7_placesFinding_70 rfl rfl rfl ?_
              refine ev_getR (pc' := 74) fo_X7_95 dX7_placesFinding_71 rfl ha rfl hr ?_
              refine ev_iload_n (pc' := 75) (i := 3) dX7_placesFinding_74 rfl rfl rfl ?_
              refine ev_iald (pc' := 76) (j := 0) (v := (I b) 0) dX7_placesFinding_75 rfl hb rfl (Nat.le_of_ble_eq_true rfl) (Nat.le_of_ble_eq_true rfl) rfl ?_
              refine ev_i2l (pc' := 77) (v := Int32.toInt64 ((I b) 0)) dX7_placesFinding_76 rfl rfl ?_
              refine ev_last (pc' := 78) (j := 0) (L' := (ma_up L 34 (ma_up (L 34) 0 (Int32.toInt64 ((I b) 0))))) dX7_placesFinding_77 rfl hs_34 rfl (Nat.le_of_ble_eq_true rfl) (Nat.le_of_ble_eq_true rfl) rfl ?_
              refine ev_aload_n (pc' := 79) (i := 0) dX7_placesFinding_78 rfl rfl rfl ?_
              refine ev_getR (pc' := 82) fo_X7_56 dX7_placesFinding_79 rfl hs_3 rfl rf_3_8 ?_
              refine ev_iload_n (pc' := 83) (i := 3) dX7_placesFinding_82 rfl rfl rfl ?_
              refine ev_aload_n (pc' := 84) (i := 2) dX7_placesFinding_83 rfl rfl rfl ?_
              refine ev_getR (pc' := 87) fo_X7_95 dX7_placesFinding_84 rfl hd rfl hrd ?_
              refine ev_iload_n (pc' := 88) (i := 3) dX7_placesFinding_87 rfl rfl rfl ?_
              refine ev_iald (pc' := 89) (j := 0) (v := (I e) 0) dX7_placesFinding_88 rfl he rfl (Nat.le_of_ble_eq_true rfl) (Nat.le_of_ble_eq_true rfl) rfl ?_
              refine ev_i2l (pc' := 90) (v := Int32.toInt64 ((I e) 0)) dX7_placesFinding_89 rfl rfl ?_
              refine ev_last (pc' := 91) (j := 0) (L' := (ma_up (ma_up L 34 (ma_up (L 34) 0 (Int32.toInt64 ((I b) 0)))) 35 (ma_up (L 35) 0 (Int32.toInt64 ((I e) 0))))) dX7_placesFinding_90 rfl hs_35 rfl (Nat.le_of_ble_eq_true rfl) (Nat.le_of_ble_eq_true rfl) rfl ?_
              refine ev_iinc (pc' := 94) (v := 1) (lv' := [some (.ref 3), some (.ref a), some (.ref d), some (.int 1)]) dX7_placesFinding_91 rfl rfl (by decide) (Nat.le_of_ble_eq_true rfl) rfl rfl ?_
              refine ev_goto (tgt := 60) dX7_placesFinding_94 rfl ?_
              refine ev_iload_n (pc' := 61) (i := 3) dX7_placesFinding_60 rfl rfl rfl ?_
              refine ev_iconst (pc' := 62) (v := 4) dX7_placesFinding_61 rfl ki_4 ?_
              refine ev_icmp_ge (tgt := 97) (pc' := 65) dX7_placesFinding_62 rfl rfl (fun h => absurd h (by decide)) (fun _ => ?_)
              refine ev_aload_n (pc' := 66) (i := 0) dX7_placesFinding_65 rfl rfl rfl ?_
              refine ev_getR (pc' := 69) fo_X7_52 dX7_placesFinding_66 rfl hs_3 rfl rf_3_7 ?_
              refine ev_iload_n (pc' := 70) (i := 3) dX7_placesFinding_69 rfl rfl rfl ?_
              refine ev_aload_n (pc' := 71) (i := 1) dX7_placesFinding_70 rfl rfl rfl ?_
              refine ev_getR (pc' := 74) fo_X7_95 dX7_placesFinding_71 rfl ha rfl hr ?_
              refine ev_iload_n (pc' := 75) (i := 3) dX7_placesFinding_74 rfl rfl rfl ?_
              refine ev_iald (pc' := 76) (j := 1) (v := (I b) 1) dX7_placesFinding_75 rfl hb rfl (Nat.le_of_ble_eq_true rfl) (Nat.le_of_ble_eq_true rfl) rfl ?_
              refine ev_i2l (pc' := 77) (v := Int32.toInt64 ((I b) 1)) dX7_placesFinding_76 rfl rfl ?_
              refine ev_last (pc' := 78) (j := 1) (L' := (ma_up (ma_up L 34 (ma_up (ma_up (L 34) 0 (Int32.toInt64 ((I b) 0))) 1 (Int32.toInt64 ((I b) 1)))) 35 (ma_up (L 35) 0 (Int32.toInt64 ((I e) 0))))) dX7_placesFinding_77 rfl hs_34 rfl (Nat.le_of_ble_eq_true rfl) (Nat.le_of_ble_eq_true rfl) ((ma_up_comm _ (show 34 ≠ 35 from (by decide)) _ _).trans (congrArg (fun f => ma_up f 35 _) (ma_up_up _ _ _ _))) ?_
              refine ev_aload_n (pc' := 79) (i := 0) dX7_placesFinding_78 rfl rfl rfl ?_
              refine ev_getR (pc' := 82) fo_X7_56 dX7_placesFinding_79 rfl hs_3 rfl rf_3_8 ?_
              refine ev_iload_n (pc' := 83) (i := 3) dX7_placesFinding_82 rfl rfl rfl ?_
              refine ev_aload_n (pc' := 84) (i := 2) dX7_placesFinding_83 rfl rfl rfl ?_
              refine ev_getR (pc' := 87) fo_X7_95 dX7_placesFinding_84 rfl hd rfl hrd ?_
              refine ev_iload_n (pc' := 88) (i := 3) dX7_placesFinding_87 rfl rfl rfl ?_
              refine ev_iald (pc' := 89) (j := 1) (v := (I e) 1) dX7_placesFinding_88 rfl he rfl (Nat.le_of_ble_eq_true rfl) (Nat.le_of_ble_eq_true rfl) rfl ?_
              refine ev_i2l (pc' := 90) (v := Int32.toInt64 ((I e) 1)) dX7_placesFinding_89 rfl rfl ?_
              refine ev_last (pc' := 91) (j := 1) (L' := (ma_up (ma_up L 34 (ma_up (ma_up (L 34) 0 (Int32.toInt64 ((I b) 0))) 1 (Int32.toInt64 ((I b) 1)))) 35 (ma_up (ma_up (L 35) 0 (Int32.toInt64 ((I e) 0))) 1 (Int32.toInt64 ((I e) 1))))) dX7_placesFinding_90 rfl hs_35 rfl (Nat.le_of_ble_eq_true rfl) (Nat.le_of_ble_eq_true rfl) (ma_up_up _ _ _ _) ?_
              refine ev_iinc (pc' := 94) (v := 2) (lv' := [some (.ref 3), some (.ref a), some (.ref d), some (.int 2)]) dX7_placesFinding_91 rfl rfl (by decide) (Nat.le_of_ble_eq_true rfl) rfl rfl ?_
              refine ev_goto (tgt := 60) dX7_placesFinding_94 rfl ?_
              refine ev_iload_n (pc' := 61) (i := 3) dX7_placesFinding_60 rfl rfl rfl ?_
              refine ev_iconst (pc' := 62) (v := 4) dX7_placesFinding_61 rfl ki_4 ?_
              refine ev_icmp_ge (tgt := 97) (pc' := 65) dX7_placesFinding_62 rfl rfl (fun h => absurd h (by decide)) (fun _ => ?_)
              refine ev_aload_n (pc' := 66) (i := 0) dX7_placesFinding_65 rfl rfl rfl ?_
              refine ev_getR (pc' := 69) fo_X7_52 dX7_placesFinding_66 rfl hs_3 rfl rf_3_7 ?_
              refine ev_iload_n (pc' := 70) (i := 3) dX7_placesFinding_69 rfl rfl rfl ?_
              refine ev_aload_n (pc' := 71) (i := 1) dX7_placesFinding_70 rfl rfl rfl ?_
              refine ev_getR (pc' := 74) fo_X7_95 dX7_placesFinding_71 rfl ha rfl hr ?_
              refine ev_iload_n (pc' := 75) (i := 3) dX7_placesFinding_74 rfl rfl rfl ?_
              refine ev_iald (pc' := 76) (j := 2) (v := (I b) 2) dX7_placesFinding_75 rfl hb rfl (Nat.le_of_ble_eq_true rfl) (Nat.le_of_ble_eq_true rfl) rfl ?_
              refine ev_i2l (pc' := 77) (v := Int32.toInt64 ((I b) 2)) dX7_placesFinding_76 rfl rfl ?_
              refine ev_last (pc' := 78) (j := 2) (L' := (ma_up (ma_up L 34 (ma_up (ma_up (ma_up (L 34) 0 (Int32.toInt64 ((I b) 0))) 1 (Int32.toInt64 ((I b) 1))) 2 (Int32.toInt64 ((I b) 2)))) 35 (ma_up (ma_up (L 35) 0 (Int32.toInt64 ((I e) 0))) 1 (Int32.toInt64 ((I e) 1))))) dX7_placesFinding_77 rfl hs_34 rfl (Nat.le_of_ble_eq_true rfl) (Nat.le_of_ble_eq_true rfl) ((ma_up_comm _ (show 34 ≠ 35 from (by decide)) _ _).trans (congrArg (fun f => ma_up f 35 _) (ma_up_up _ _ _ _))) ?_
              refine ev_aload_n (pc' := 79) (i := 0) dX7_placesFinding_78 rfl rfl rfl ?_
              refine ev_getR (pc' := 82) fo_X7_56 dX7_placesFinding_79 rfl hs_3 rfl rf_3_8 ?_
              refine ev_iload_n (pc' := 83) (i := 3) dX7_placesFinding_82 rfl rfl rfl ?_
              refine ev_aload_n (pc' := 84) (i := 2) dX7_placesFinding_83 rfl rfl rfl ?_
              refine ev_getR (pc' := 87) fo_X7_95 dX7_placesFinding_84 rfl hd rfl hrd ?_
              refine ev_iload_n (pc' := 88) (i := 3) dX7_placesFinding_87 rfl rfl rfl ?_
              refine ev_iald (pc' := 89) (j := 2) (v := (I e) 2) dX7_placesFinding_88 rfl he rfl (Nat.le_of_ble_eq_true rfl) (Nat.le_of_ble_eq_true rfl) rfl ?_
              refine ev_i2l (pc' := 90) (v := Int32.toInt64 ((I e) 2)) dX7_placesFinding_89 rfl rfl ?_
              refine ev_last (pc' := 91) (j := 2) (L' := (ma_up (ma_up L 34 (ma_up (ma_up (ma_up (L 34) 0 (Int32.toInt64 ((I b) 0))) 1 (Int32.toInt64 ((I b) 1))) 2 (Int32.toInt64 ((I b) 2)))) 35 (ma_up (ma_up (ma_up (L 35) 0 (Int32.toInt64 ((I e) 0))) 1 (Int32.toInt64 ((I e) 1))) 2 (Int32.toInt64 ((I e) 2))))) dX7_placesFinding_90 rfl hs_35 rfl (Nat.le_of_ble_eq_true rfl) (Nat.le_of_ble_eq_true rfl) (ma_up_up _ _ _ _) ?_
              refine ev_iinc (pc' := 94) (v := 3) (lv' := [some (.ref 3), some (.ref a), some (.ref d), some (.int 3)]) dX7_placesFinding_91 rfl rfl (by decide) (Nat.le_of_ble_eq_true rfl) rfl rfl ?_
              refine ev_goto (tgt := 60) dX7_placesFinding_94 rfl ?_
              refine ev_iload_n (pc' := 61) (i := 3) dX7_placesFinding_60 rfl rfl rfl ?_
              refine ev_iconst (pc' := 62) (v := 4) dX7_placesFinding_61 rfl ki_4 ?_
              refine ev_icmp_ge (tgt := 97) (pc' := 65) dX7_placesFinding_62 rfl rfl (fun h => absurd h (by decide)) (fun _ => ?_)
              refine ev_aload_n (pc' := 66) (i := 0) dX7_placesFinding_65 rfl rfl rfl ?_
              refine ev_getR (pc' := 69) fo_X7_52 dX7_placesFinding_66 rfl hs_3 rfl rf_3_7 ?_
              refine ev_iload_n (pc' := 70) (i := 3) dX7_placesFinding_69 rfl rfl rfl ?_
              refine ev_aload_n (pc' := 71) (i := 1) dX7_placesFinding_70 rfl rfl rfl ?_
              refine ev_getR (pc' := 74) fo_X7_95 dX7_placesFinding_71 rfl ha rfl hr ?_
              refine ev_iload_n (pc' := 75) (i := 3) dX7_placesFinding_74 rfl rfl rfl ?_
              refine ev_iald (pc' := 76) (j := 3) (v := (I b) 3) dX7_placesFinding_75 rfl hb rfl (Nat.le_of_ble_eq_true rfl) (Nat.le_of_ble_eq_true rfl) rfl ?_
              refine ev_i2l (pc' := 77) (v := Int32.toInt64 ((I b) 3)) dX7_placesFinding_76 rfl rfl ?_
              refine ev_last (pc' := 78) (j := 3) (L' := (ma_up (ma_up L 34 (ma_up (ma_up (ma_up (ma_up (L 34) 0 (Int32.toInt64 ((I b) 0))) 1 (Int32.toInt64 ((I b) 1))) 2 (Int32.toInt64 ((I b) 2))) 3 (Int32.toInt64 ((I b) 3)))) 35 (ma_up (ma_up (ma_up (L 35) 0 (Int32.toInt64 ((I e) 0))) 1 (Int32.toInt64 ((I e) 1))) 2 (Int32.toInt64 ((I e) 2))))) dX7_placesFinding_77 rfl hs_34 rfl (Nat.le_of_ble_eq_true rfl) (Nat.le_of_ble_eq_true rfl) ((ma_up_comm _ (show 34 ≠ 35 from (by decide)) _ _).trans (congrArg (fun f => ma_up f 35 _) (ma_up_up _ _ _ _))) ?_
              refine ev_aload_n (pc' := 79) (i := 0) dX7_placesFinding_78 rfl rfl rfl ?_
              refine ev_getR (pc' := 82) fo_X7_56 dX7_placesFinding_79 rfl hs_3 rfl rf_3_8 ?_
              refine ev_iload_n (pc' := 83) (i := 3) dX7_placesFinding_82 rfl rfl rfl ?_
              refine ev_aload_n (pc' := 84) (i := 2) dX7_placesFinding_83 rfl rfl rfl ?_
              refine ev_getR (pc' := 87) fo_X7_95 dX7_placesFinding_84 rfl hd rfl hrd ?_
              refine ev_iload_n (pc' := 88) (i := 3) dX7_placesFinding_87 rfl rfl rfl ?_
              refine ev_iald (pc' := 89) (j := 3) (v := (I e) 3) dX7_placesFinding_88 rfl he rfl (Nat.le_of_ble_eq_true rfl) (Nat.le_of_ble_eq_true rfl) rfl ?_
              refine ev_i2l (pc' := 90) (v := Int32.toInt64 ((I e) 3)) dX7_placesFinding_89 rfl rfl ?_
              refine ev_last (pc' := 91) (j := 3) (L' := (ma_up (ma_up L 34 (ma_up (ma_up (ma_up (ma_up (L 34) 0 (Int32.toInt64 ((I b) 0))) 1 (Int32.toInt64 ((I b) 1))) 2 (Int32.toInt64 ((I b) 2))) 3 (Int32.toInt64 ((I b) 3)))) 35 (ma_up (ma_up (ma_up (ma_up (L 35) 0 (Int32.toInt64 ((I e) 0))) 1 (Int32.toInt64 ((I e) 1))) 2 (Int32.toInt64 ((I e) 2))) 3 (Int32.toInt64 ((I e) 3))))) dX7_placesFinding_90 rfl hs_35 rfl (Nat.le_of_ble_eq_true rfl) (Nat.le_of_ble_eq_true rfl) (ma_up_up _ _ _ _) ?_
              refine ev_iinc (pc' := 94) (v := 4) (lv' := [some (.ref 3), some (.ref a), some (.ref d), some (.int 4)]) dX7_placesFinding_91 rfl rfl (by decide) (Nat.le_of_ble_eq_true rfl) rfl rfl ?_
              refine ev_goto (tgt := 60) dX7_placesFinding_94 rfl ?_
              refine ev_iload_n (pc' := 61) (i := 3) dX7_placesFinding_60 rfl rfl rfl ?_
              refine ev_iconst (pc' := 62) (v := 4) dX7_placesFinding_61 rfl ki_4 ?_
              refine ev_icmp_ge (tgt := 97) (pc' := 65) dX7_placesFinding_62 rfl rfl (fun _ => ?_) (fun h => absurd (by decide) h)
              refine ev_iconst (pc' := 98) (v := 0) dX7_placesFinding_97 rfl ki_0 ?_
              refine ev_iret dX7_placesFinding_98 rfl rfl ⟨Nat.le_refl _, Nat.le_refl _⟩ ?_
              exact k2 c1 c2 h3 h4 h5 h6
            · skip
              refine ev_if_eq (tgt := 58) (pc' := 56) dX7_placesFinding_53 rfl rfl (fun h => absurd h (by decide)) (fun _ => ?_)
              refine ev_iconst (pc' := 57) (v := 4) dX7_placesFinding_56 rfl ki_4 ?_
              refine ev_iret dX7_placesFinding_57 rfl rfl ⟨Nat.le_refl _, Nat.le_refl _⟩ ?_
              exact k3 c1 c2 h3 h4 h5 h6
          · skip
            refine ev_if_ne (tgt := 56) (pc' := 48) dX7_placesFinding_45 rfl rfl (fun _ => ?_) (fun h => absurd h (by decide))
            refine ev_iconst (pc' := 57) (v := 4) dX7_placesFinding_56 rfl ki_4 ?_
            refine ev_iret dX7_placesFinding_57 rfl rfl ⟨Nat.le_refl _, Nat.le_refl _⟩ ?_
            exact k4 c1 c2 h3 h4 h5
        · skip
          refine ev_if_eq (tgt := 40) (pc' := 38) dX7_placesFinding_35 rfl rfl (fun h => absurd h (by decide)) (fun _ => ?_)
          refine ev_iconst (pc' := 39) (v := 2) dX7_placesFinding_38 rfl ki_2 ?_
          refine ev_iret dX7_placesFinding_39 rfl rfl ⟨Nat.le_refl _, Nat.le_refl _⟩ ?_
          exact k5 c1 c2 h3 h4
      · skip
        refine ev_if_ne (tgt := 38) (pc' := 28) dX7_placesFinding_25 rfl rfl (fun _ => ?_) (fun h => absurd h (by decide))
        refine ev_iconst (pc' := 39) (v := 2) dX7_placesFinding_38 rfl ki_2 ?_
        refine ev_iret dX7_placesFinding_39 rfl rfl ⟨Nat.le_refl _, Nat.le_refl _⟩ ?_
        exact k6 c1 c2 h3
    · refine ev_iconst (pc' := 17) (v := 5) dX7_placesFinding_16 rfl ki_5 ?_
      refine ev_iret dX7_placesFinding_17 rfl rfl ⟨Nat.le_refl _, Nat.le_refl _⟩ ?_
      exact k7 c1 c2
set_option maxRecDepth 4000 in
theorem t_X7_refusedAt {g : ma_G} {Post : ma_P} {I : ma_I} {L : ma_L}  (q : Int32) (s : Int32)  (k1 : ((q < 0) ∨ (¬ q < 12)) → Post (some (.int (-1))) HS I L RF 146) (k2 : ∀ n2 : Nat, (n2 < 12) → q = nI n2 → ∀ n4 : Nat, (n4 < 8) → s = nI n4 → (((I (55 + 5 * n2)) 0) = 0) → Post (some (.int (-3))) HS (cRf I 1) L RF 146) (k3 : ∀ n2 : Nat, (n2 < 12) → q = nI n2 → ∀ n4 : Nat, (n4 < 8) → s = nI n4 → (¬ ((I (55 + 5 * n2)) 0) = 0) → (¬ (¬ 0 ≤ ((I (39 + 2 * n4)) 1))) → (((I (39 + 2 * n4)) 1) < 4) → Post (some (.int (-3))) HS (cRf I 5) L RF 146) (k4 : ∀ n2 : Nat, (n2 < 12) → q = nI n2 → ∀ n4 : Nat, (n4 < 8) → s = nI n4 → (¬ ((I (55 + 5 * n2)) 0) = 0) → (¬ (¬ 0 ≤ ((I (39 + 2 * n4)) 1))) → (¬ ((I (39 + 2 * n4)) 1) < 4) → (4 ≤ ((I (39 + 2 * n4)) 1)) → (mRg (I (40 + 2 * n4)) 4 100) → (mRg (I (40 + 2 * n4)) 4 100) → (¬ (mZr (I (40 + 2 * n4)) 4)) → (¬ (mZr (I (40 + 2 * n4)) 4)) → Post (some (.int 0)) HS I (ma_up (ma_up L 34 (ma_up (ma_up (ma_up (ma_up (L 34) 0 (Int32.toInt64 ((I (40 + 2 * n4)) 0))) 1 (Int32.toInt64 ((I (40 + 2 * n4)) 1))) 2 (Int32.toInt64 ((I (40 + 2 * n4)) 2))) 3 (Int32.toInt64 ((I (40 + 2 * n4)) 3)))) 35 (ma_up (ma_up (ma_up (ma_up (L 35) 0 (Int32.toInt64 ((I (40 + 2 * n4)) 0))) 1 (Int32.toInt64 ((I (40 + 2 * n4)) 1))) 2 (Int32.toInt64 ((I (40 + 2 * n4)) 2))) 3 (Int32.toInt64 ((I (40 + 2 * n4)) 3)))) RF 146) (k5 : ∀ n2 : Nat, (n2 < 12) → q = nI n2 → ∀ n4 : Nat, (n4 < 8) → s = nI n4 → (¬ ((I (55 + 5 * n2)) 0) = 0) → (¬ (¬ 0 ≤ ((I (39 + 2 * n4)) 1))) → (¬ ((I (39 + 2 * n4)) 1) < 4) → (4 ≤ ((I (39 + 2 * n4)) 1)) → (mRg (I (40 + 2 * n4)) 4 100) → (mRg (I (40 + 2 * n4)) 4 100) → (¬ (mZr (I (40 + 2 * n4)) 4)) → (mZr (I (40 + 2 * n4)) 4) → Post (some (.int (-3))) HS (cRf I 4) L RF 146) (k6 : ∀ n2 : Nat, (n2 < 12) → q = nI n2 → ∀ n4 : Nat, (n4 < 8) → s = nI n4 → (¬ ((I (55 + 5 * n2)) 0) = 0) → (¬ (¬ 0 ≤ ((I (39 + 2 * n4)) 1))) → (¬ ((I (39 + 2 * n4)) 1) < 4) → (4 ≤ ((I (39 + 2 * n4)) 1)) → (mRg (I (40 + 2 * n4)) 4 100) → (mRg (I (40 + 2 * n4)) 4 100) → (mZr (I (40 + 2 * n4)) 4) → Post (some (.int (-3))) HS (cRf I 4) L RF 146) (k7 : ∀ n2 : Nat, (n2 < 12) → q = nI n2 → ∀ n4 : Nat, (n4 < 8) → s = nI n4 → (¬ ((I (55 + 5 * n2)) 0) = 0) → (¬ (¬ 0 ≤ ((I (39 + 2 * n4)) 1))) → (¬ ((I (39 + 2 * n4)) 1) < 4) → (4 ≤ ((I (39 + 2 * n4)) 1)) → (mRg (I (40 + 2 * n4)) 4 100) → (¬ (mRg (I (40 + 2 * n4)) 4 100)) → Post (some (.int (-3))) HS (cRf I 2) L RF 146) (k8 : ∀ n2 : Nat, (n2 < 12) → q = nI n2 → ∀ n4 : Nat, (n4 < 8) → s = nI n4 → (¬ ((I (55 + 5 * n2)) 0) = 0) → (¬ (¬ 0 ≤ ((I (39 + 2 * n4)) 1))) → (¬ ((I (39 + 2 * n4)) 1) < 4) → (4 ≤ ((I (39 + 2 * n4)) 1)) → (¬ (mRg (I (40 + 2 * n4)) 4 100)) → Post (some (.int (-3))) HS (cRf I 2) L RF 146) (k9 : ∀ n2 : Nat, (n2 < 12) → q = nI n2 → ∀ n4 : Nat, (n4 < 8) → s = nI n4 → (¬ ((I (55 + 5 * n2)) 0) = 0) → (¬ (¬ 0 ≤ ((I (39 + 2 * n4)) 1))) → (¬ ((I (39 + 2 * n4)) 1) < 4) → (¬ 4 ≤ ((I (39 + 2 * n4)) 1)) → Post (some (.int (-3))) HS (cRf I 5) L RF 146) (k10 : ∀ n2 : Nat, (n2 < 12) → q = nI n2 → ∀ n4 : Nat, (n4 < 8) → s = nI n4 → (¬ ((I (55 + 5 * n2)) 0) = 0) → (¬ 0 ≤ ((I (39 + 2 * n4)) 1)) → Post (some (.int (-3))) HS (cRf I 1) L RF 146) (k11 : ∀ n2 : Nat, (n2 < 12) → q = nI n2 → ((s < 0) ∨ (¬ s < 8)) → Post (some (.int (-1))) HS I L RF 146) : CT g yX7_refusedAt cX7_refusedAt 4 (some .int) rX7_refusedAt [.ref 3, .int q, .int s] Post HS I L RF 146 := by
  refine ct_of (lv := [some (.ref 3), some (.int q), some (.int s), none]) (by decide) (Nat.le_of_ble_eq_true rfl) rfl ?_
  refine ev_iload_n (pc' := 1) (i := 1) dX7_refusedAt_0 rfl rfl rfl ?_
  refine ev_callS (pc' := 4) (rm' := rX7_noGround) (av := [.int q]) (rest := []) co_X7_114 cs_X7_noGround dX7_refusedAt_1 rfl rfl rfl (Nat.le_of_ble_eq_true rfl) ⟨(Nat.le_of_ble_eq_true rfl), (Nat.le_of_ble_eq_true rfl)⟩ ⟨(Nat.le_of_ble_eq_true rfl), (Nat.le_of_ble_eq_true rfl)⟩ ?_
  refine t_X7_noGround q  ?_
  refine ev_if_ne_b (tgt := 14) (pc' := 7) dX7_refusedAt_4 rfl rfl (fun c1 => ?_) (fun c1 => ?_)
  · refine ev_iconst (pc' := 15) (v := (-1)) dX7_refusedAt_14 rfl ki_m1 ?_
    refine ev_iret dX7_refusedAt_15 rfl rfl ⟨Nat.le_refl _, Nat.le_refl _⟩ ?_
    exact k1 c1
  · obtain ⟨n2, hn2, en2⟩ := in_ofn (n := 12) (by omega) rfl c1
    subst en2
    refine ev_iload_n (pc' := 8) (i := 2) dX7_refusedAt_7 rfl rfl rfl ?_
    refine ev_callS (pc' := 11) (rm' := rX7_noSheet) (av := [.int s]) (rest := []) co_X7_75 cs_X7_noSheet dX7_refusedAt_8 rfl rfl rfl (Nat.le_of_ble_eq_true rfl) ⟨(Nat.le_of_ble_eq_true rfl), (Nat.le_of_ble_eq_true rfl)⟩ ⟨(Nat.le_of_ble_eq_true rfl), (Nat.le_of_ble_eq_true rfl)⟩ ?_
    refine t_X7_noSheet s  ?_
    refine ev_if_eq_b (tgt := 16) (pc' := 14) dX7_refusedAt_11 rfl rfl (fun c3 => ?_) (fun c3 => ?_)
    · obtain ⟨n4, hn4, en4⟩ := in_ofn (n := 8) (by omega) rfl c3
      subst en4
      refine ev_aload_n (pc' := 17) (i := 0) dX7_refusedAt_16 rfl rfl rfl ?_
      refine ev_getR (pc' := 20) fo_X7_17 dX7_refusedAt_17 rfl hs_3 rfl rf_3_1 ?_
      refine ev_iload_n (pc' := 21) (i := 1) dX7_refusedAt_20 rfl rfl rfl ?_
      refine ev_aald (pc' := 22) (j := n2) (b := 55 + 5 * n2) dX7_refusedAt_21 rfl hs_5 (Or.inr rfl) rfl (by omega) (Nat.le_of_ble_eq_true rfl) (hs_ground n2 (by omega)).2.2.2.2.2.2.2.2.2 ?_
      refine ev_getI (pc' := 25) (v := (I (55 + 5 * n2)) 0) fo_X7_134 dX7_refusedAt_22 rfl (hs_ground n2 (by omega)).1 rfl rfl ?_
      refine ev_if_eq (tgt := 40) (pc' := 28) dX7_refusedAt_25 rfl rfl (fun c5 => ?_) (fun c5 => ?_)
      · refine ev_aload_n (pc' := 41) (i := 0) dX7_refusedAt_40 rfl rfl rfl ?_
        refine ev_iconst (pc' := 42) (v := 1) dX7_refusedAt_41 rfl ki_1 ?_
        refine ev_callV (pc' := 45) (rm' := rX7_refuse) (b := 3) (av := [.int 1]) (rest := []) co_X7_79 ci_X7_refuse cv_X7_refuse dX7_refusedAt_42 rfl hs_3 hb_X7 rfl rfl (Nat.le_of_ble_eq_true rfl) ⟨(Nat.le_of_ble_eq_true rfl), (Nat.le_of_ble_eq_true rfl)⟩ ⟨(Nat.le_of_ble_eq_true rfl), (Nat.le_of_ble_eq_true rfl)⟩ ?_
        refine t_X7_refuse1 ?_
        refine ev_cRf 1 ?_
        refine ev_iret dX7_refusedAt_45 rfl rfl ⟨Nat.le_refl _, Nat.le_refl _⟩ ?_
        exact k2 n2 hn2 rfl n4 hn4 rfl c5
      · refine ev_aload_n (pc' := 29) (i := 0) dX7_refusedAt_28 rfl rfl rfl ?_
        refine ev_getR (pc' := 32) fo_X7_11 dX7_refusedAt_29 rfl hs_3 rfl rf_3_0 ?_
        refine ev_iload_n (pc' := 33) (i := 2) dX7_refusedAt_32 rfl rfl rfl ?_
        refine ev_aald (pc' := 34) (j := n4) (b := 39 + 2 * n4) dX7_refusedAt_33 rfl hs_4 (Or.inl rfl) rfl (by omega) (Nat.le_of_ble_eq_true rfl) (hs_sheet n4 (by omega)).2.2.2 ?_
        refine ev_callV (pc' := 37) (rm' := rX3_missing) (b := 39 + 2 * n4) (av := []) (rest := []) co_X7_87 ci_X3_missing cv_X3_missing dX7_refusedAt_34 rfl (hs_sheet n4 (by omega)).1 hb_X3 rfl rfl (Nat.le_of_ble_eq_true rfl) ⟨(Nat.le_of_ble_eq_true rfl), (Nat.le_of_ble_eq_true rfl)⟩ ⟨(Nat.le_of_ble_eq_true rfl), (Nat.le_of_ble_eq_true rfl)⟩ ?_
        refine t_X3_missing (39 + 2 * n4) (40 + 2 * n4) (hs_sheet n4 (by omega)).1 (hs_sheet n4 (by omega)).2.2.1 (hs_sheet n4 (by omega)).2.1 (by omega) ?_
        refine ev_if_eq_b (tgt := 46) (pc' := 40) dX7_refusedAt_37 rfl rfl (fun c6 => ?_) (fun c6 => ?_)
        · refine ev_aload_n (pc' := 47) (i := 0) dX7_refusedAt_46 rfl rfl rfl ?_
          refine ev_aload_n (pc' := 48) (i := 0) dX7_refusedAt_47 rfl rfl rfl ?_
          refine ev_getR (pc' := 51) fo_X7_11 dX7_refusedAt_48 rfl hs_3 rfl rf_3_0 ?_
          refine ev_iload_n (pc' := 52) (i := 2) dX7_refusedAt_51 rfl rfl rfl ?_
          refine ev_aald (pc' := 53) (j := n4) (b := 39 + 2 * n4) dX7_refusedAt_52 rfl hs_4 (Or.inl rfl) rfl (by omega) (Nat.le_of_ble_eq_true rfl) (hs_sheet n4 (by omega)).2.2.2 ?_
          refine ev_aload_n (pc' := 54) (i := 0) dX7_refusedAt_53 rfl rfl rfl ?_
          refine ev_getR (pc' := 57) fo_X7_11 dX7_refusedAt_54 rfl hs_3 rfl rf_3_0 ?_
          refine ev_iload_n (pc' := 58) (i := 2) dX7_refusedAt_57 rfl rfl rfl ?_
          refine ev_aald (pc' := 59) (j := n4) (b := 39 + 2 * n4) dX7_refusedAt_58 rfl hs_4 (Or.inl rfl) rfl (by omega) (Nat.le_of_ble_eq_true rfl) (hs_sheet n4 (by omega)).2.2.2 ?_
          refine ev_callV (pc' := 62) (rm' := rX7_placesFinding) (b := 3) (av := [.ref (39 + 2 * n4), .ref (39 + 2 * n4)]) (rest := []) co_X7_214 ci_X7_placesFinding cv_X7_placesFinding dX7_refusedAt_59 rfl hs_3 hb_X7 rfl rfl (Nat.le_of_ble_eq_true rfl) ⟨(Nat.le_of_ble_eq_true rfl), (Nat.le_of_ble_eq_true rfl)⟩ ⟨(Nat.le_of_ble_eq_true rfl), (Nat.le_of_ble_eq_true rfl)⟩ ?_
          refine t_X7_placesFinding (39 + 2 * n4) (39 + 2 * n4) (40 + 2 * n4) (hs_sheet n4 (by omega)).1 (hs_sheet n4 (by omega)).2.2.1 (hs_sheet n4 (by omega)).2.1 (by omega) (40 + 2 * n4) (hs_sheet n4 (by omega)).1 (hs_sheet n4 (by omega)).2.2.1 (hs_sheet n4 (by omega)).2.1 (by omega) (fun h7 => ?_) (fun h8 h9 h10 h11 h12 h13 => ?_) (fun h14 h15 h16 h17 h18 h19 => ?_) (fun h20 h21 h22 h23 h24 => ?_) (fun h25 h26 h27 h28 => ?_) (fun h29 h30 h31 => ?_) (fun h32 h33 => ?_)
          · skip
            refine ev_istore_n (pc' := 63) (i := 3) (lv' := [some (.ref 3), some (.int (nI n2)), some (.int (nI n4)), some (.int 5)]) dX7_refusedAt_62 rfl rfl (Nat.le_of_ble_eq_true rfl) rfl rfl ?_
            refine ev_iload_n (pc' := 64) (i := 3) dX7_refusedAt_63 rfl rfl rfl ?_
            refine ev_if_ne (tgt := 71) (pc' := 67) dX7_refusedAt_64 rfl rfl (fun _ => ?_) (fun h => absurd h (by decide))
            refine ev_aload_n (pc' := 72) (i := 0) dX7_refusedAt_71 rfl rfl rfl ?_
            refine ev_iload_n (pc' := 73) (i := 3) dX7_refusedAt_72 rfl rfl rfl ?_
            refine ev_callV (pc' := 76) (rm' := rX7_refuse) (b := 3) (av := [.int 5]) (rest := []) co_X7_79 ci_X7_refuse cv_X7_refuse dX7_refusedAt_73 rfl hs_3 hb_X7 rfl rfl (Nat.le_of_ble_eq_true rfl) ⟨(Nat.le_of_ble_eq_true rfl), (Nat.le_of_ble_eq_true rfl)⟩ ⟨(Nat.le_of_ble_eq_true rfl), (Nat.le_of_ble_eq_true rfl)⟩ ?_
            refine t_X7_refuse5 ?_
            refine ev_cRf 5 ?_
            refine ev_iret dX7_refusedAt_76 rfl rfl ⟨Nat.le_refl _, Nat.le_refl _⟩ ?_
            exact k3 n2 hn2 rfl n4 hn4 rfl c5 c6 h7
          · skip
            refine ev_istore_n (pc' := 63) (i := 3) (lv' := [some (.ref 3), some (.int (nI n2)), some (.int (nI n4)), some (.int 0)]) dX7_refusedAt_62 rfl rfl (Nat.le_of_ble_eq_true rfl) rfl rfl ?_
            refine ev_iload_n (pc' := 64) (i := 3) dX7_refusedAt_63 rfl rfl rfl ?_
            refine ev_if_ne (tgt := 71) (pc' := 67) dX7_refusedAt_64 rfl rfl (fun h => absurd (by decide) h) (fun _ => ?_)
            refine ev_iconst (pc' := 68) (v := 0) dX7_refusedAt_67 rfl ki_0 ?_
            refine ev_goto (tgt := 76) dX7_refusedAt_68 rfl ?_
            refine ev_iret dX7_refusedAt_76 rfl rfl ⟨Nat.le_refl _, Nat.le_refl _⟩ ?_
            exact k4 n2 hn2 rfl n4 hn4 rfl c5 c6 h8 h9 h10 h11 h12 h13
          · skip
            refine ev_istore_n (pc' := 63) (i := 3) (lv' := [some (.ref 3), some (.int (nI n2)), some (.int (nI n4)), some (.int 4)]) dX7_refusedAt_62 rfl rfl (Nat.le_of_ble_eq_true rfl) rfl rfl ?_
            refine ev_iload_n (pc' := 64) (i := 3) dX7_refusedAt_63 rfl rfl rfl ?_
            refine ev_if_ne (tgt := 71) (pc' := 67) dX7_refusedAt_64 rfl rfl (fun _ => ?_) (fun h => absurd h (by decide))
            refine ev_aload_n (pc' := 72) (i := 0) dX7_refusedAt_71 rfl rfl rfl ?_
            refine ev_iload_n (pc' := 73) (i := 3) dX7_refusedAt_72 rfl rfl rfl ?_
            refine ev_callV (pc' := 76) (rm' := rX7_refuse) (b := 3) (av := [.int 4]) (rest := []) co_X7_79 ci_X7_refuse cv_X7_refuse dX7_refusedAt_73 rfl hs_3 hb_X7 rfl rfl (Nat.le_of_ble_eq_true rfl) ⟨(Nat.le_of_ble_eq_true rfl), (Nat.le_of_ble_eq_true rfl)⟩ ⟨(Nat.le_of_ble_eq_true rfl), (Nat.le_of_ble_eq_true rfl)⟩ ?_
            refine t_X7_refuse4 ?_
            refine ev_cRf 4 ?_
            refine ev_iret dX7_refusedAt_76 rfl rfl ⟨Nat.le_refl _, Nat.le_refl _⟩ ?_
            exact k5 n2 hn2 rfl n4 hn4 rfl c5 c6 h14 h15 h16 h17 h18 h19
          · skip
            refine ev_istore_n (pc' := 63) (i := 3) (lv' := [some (.ref 3), some (.int (nI n2)), some (.int (nI n4)), some (.int 4)]) dX7_refusedAt_62 rfl rfl (Nat.le_of_ble_eq_true rfl) rfl rfl ?_
            refine ev_iload_n (pc' := 64) (i := 3) dX7_refusedAt_63 rfl rfl rfl ?_
            refine ev_if_ne (tgt := 71) (pc' := 67) dX7_refusedAt_64 rfl rfl (fun _ => ?_) (fun h => absurd h (by decide))
            refine ev_aload_n (pc' := 72) (i := 0) dX7_refusedAt_71 rfl rfl rfl ?_
            refine ev_iload_n (pc' := 73) (i := 3) dX7_refusedAt_72 rfl rfl rfl ?_
            refine ev_callV (pc' := 76) (rm' := rX7_refuse) (b := 3) (av := [.int 4]) (rest := []) co_X7_79 ci_X7_refuse cv_X7_refuse dX7_refusedAt_73 rfl hs_3 hb_X7 rfl rfl (Nat.le_of_ble_eq_true rfl) ⟨(Nat.le_of_ble_eq_true rfl), (Nat.le_of_ble_eq_true rfl)⟩ ⟨(Nat.le_of_ble_eq_true rfl), (Nat.le_of_ble_eq_true rfl)⟩ ?_
            refine t_X7_refuse4 ?_
            refine ev_cRf 4 ?_
            refine ev_iret dX7_refusedAt_76 rfl rfl ⟨Nat.le_refl _, Nat.le_refl _⟩ ?_
            exact k6 n2 hn2 rfl n4 hn4 rfl c5 c6 h20 h21 h22 h23 h24
          · skip
            refine ev_istore_n (pc' := 63) (i := 3) (lv' := [some (.ref 3), some (.int (nI n2)), some (.int (nI n4)), some (.int 2)]) dX7_refusedAt_62 rfl rfl (Nat.le_of_ble_eq_true rfl) rfl rfl ?_
            refine ev_iload_n (pc' := 64) (i := 3) dX7_refusedAt_63 rfl rfl rfl ?_
            refine ev_if_ne (tgt := 71) (pc' := 67) dX7_refusedAt_64 rfl rfl (fun _ => ?_) (fun h => absurd h (by decide))
            refine ev_aload_n (pc' := 72) (i := 0) dX7_refusedAt_71 rfl rfl rfl ?_
            refine ev_iload_n (pc' := 73) (i := 3) dX7_refusedAt_72 rfl rfl rfl ?_
            refine ev_callV (pc' := 76) (rm' := rX7_refuse) (b := 3) (av := [.int 2]) (rest := []) co_X7_79 ci_X7_refuse cv_X7_refuse dX7_refusedAt_73 rfl hs_3 hb_X7 rfl rfl (Nat.le_of_ble_eq_true rfl) ⟨(Nat.le_of_ble_eq_true rfl), (Nat.le_of_ble_eq_true rfl)⟩ ⟨(Nat.le_of_ble_eq_true rfl), (Nat.le_of_ble_eq_true rfl)⟩ ?_
            refine t_X7_refuse2 ?_
            refine ev_cRf 2 ?_
            refine ev_iret dX7_refusedAt_76 rfl rfl ⟨Nat.le_refl _, Nat.le_refl _⟩ ?_
            exact k7 n2 hn2 rfl n4 hn4 rfl c5 c6 h25 h26 h27 h28
          · skip
            refine ev_istore_n (pc' := 63) (i := 3) (lv' := [some (.ref 3), some (.int (nI n2)), some (.int (nI n4)), some (.int 2)]) dX7_refusedAt_62 rfl rfl (Nat.le_of_ble_eq_true rfl) rfl rfl ?_
            refine ev_iload_n (pc' := 64) (i := 3) dX7_refusedAt_63 rfl rfl rfl ?_
            refine ev_if_ne (tgt := 71) (pc' := 67) dX7_refusedAt_64 rfl rfl (fun _ => ?_) (fun h => absurd h (by decide))
            refine ev_aload_n (pc' := 72) (i := 0) dX7_refusedAt_71 rfl rfl rfl ?_
            refine ev_iload_n (pc' := 73) (i := 3) dX7_refusedAt_72 rfl rfl rfl ?_
            refine ev_callV (pc' := 76) (rm' := rX7_refuse) (b := 3) (av := [.int 2]) (rest := []) co_X7_79 ci_X7_refuse cv_X7_refuse dX7_refusedAt_73 rfl hs_3 hb_X7 rfl rfl (Nat.le_of_ble_eq_true rfl) ⟨(Nat.le_of_ble_eq_true rfl), (Nat.le_of_ble_eq_true rfl)⟩ ⟨(Nat.le_of_ble_eq_true rfl), (Nat.le_of_ble_eq_true rfl)⟩ ?_
            refine t_X7_refuse2 ?_
            refine ev_cRf 2 ?_
            refine ev_iret dX7_refusedAt_76 rfl rfl ⟨Nat.le_refl _, Nat.le_refl _⟩ ?_
            exact k8 n2 hn2 rfl n4 hn4 rfl c5 c6 h29 h30 h31
          · skip
            refine ev_istore_n (pc' := 63) (i := 3) (lv' := [some (.ref 3), some (.int (nI n2)), some (.int (nI n4)), some (.int 5)]) dX7_refusedAt_62 rfl rfl (Nat.le_of_ble_eq_true rfl) rfl rfl ?_
            refine ev_iload_n (pc' := 64) (i := 3) dX7_refusedAt_63 rfl rfl rfl ?_
            refine ev_if_ne (tgt := 71) (pc' := 67) dX7_refusedAt_64 rfl rfl (fun _ => ?_) (fun h => absurd h (by decide))
            refine ev_aload_n (pc' := 72) (i := 0) dX7_refusedAt_71 rfl rfl rfl ?_
            refine ev_iload_n (pc' := 73) (i := 3) dX7_refusedAt_72 rfl rfl rfl ?_
            refine ev_callV (pc' := 76) (rm' := rX7_refuse) (b := 3) (av := [.int 5]) (rest := []) co_X7_79 ci_X7_refuse cv_X7_refuse dX7_refusedAt_73 rfl hs_3 hb_X7 rfl rfl (Nat.le_of_ble_eq_true rfl) ⟨(Nat.le_of_ble_eq_true rfl), (Nat.le_of_ble_eq_true rfl)⟩ ⟨(Nat.le_of_ble_eq_true rfl), (Nat.le_of_ble_eq_true rfl)⟩ ?_
            refine t_X7_refuse5 ?_
            refine ev_cRf 5 ?_
            refine ev_iret dX7_refusedAt_76 rfl rfl ⟨Nat.le_refl _, Nat.le_refl _⟩ ?_
            exact k9 n2 hn2 rfl n4 hn4 rfl c5 c6 h32 h33
        · refine ev_aload_n (pc' := 41) (i := 0) dX7_refusedAt_40 rfl rfl rfl ?_
          refine ev_iconst (pc' := 42) (v := 1) dX7_refusedAt_41 rfl ki_1 ?_
          refine ev_callV (pc' := 45) (rm' := rX7_refuse) (b := 3) (av := [.int 1]) (rest := []) co_X7_79 ci_X7_refuse cv_X7_refuse dX7_refusedAt_42 rfl hs_3 hb_X7 rfl rfl (Nat.le_of_ble_eq_true rfl) ⟨(Nat.le_of_ble_eq_true rfl), (Nat.le_of_ble_eq_true rfl)⟩ ⟨(Nat.le_of_ble_eq_true rfl), (Nat.le_of_ble_eq_true rfl)⟩ ?_
          refine t_X7_refuse1 ?_
          refine ev_cRf 1 ?_
          refine ev_iret dX7_refusedAt_45 rfl rfl ⟨Nat.le_refl _, Nat.le_refl _⟩ ?_
          exact k10 n2 hn2 rfl n4 hn4 rfl c5 c6
    · refine ev_iconst (pc' := 15) (v := (-1)) dX7_refusedAt_14 rfl ki_m1 ?_
      refine ev_iret dX7_refusedAt_15 rfl rfl ⟨Nat.le_refl _, Nat.le_refl _⟩ ?_
      exact k11 n2 hn2 rfl c3
def cOn (u v : Nat → Int64) : Prop := ((u 0) * (v 1)) = ((u 1) * (v 0)) ∧ ((u 0) * (v 2)) = ((u 2) * (v 0)) ∧ ((u 0) * (v 3)) = ((u 3) * (v 0)) ∧ ((u 1) * (v 2)) = ((u 2) * (v 1)) ∧ ((u 1) * (v 3)) = ((u 3) * (v 1)) ∧ ((u 2) * (v 3)) = ((u 3) * (v 2))
set_option maxRecDepth 4000 in
theorem t_X7_onePlaceAlone {g : ma_G} {Post : ma_P} {I : ma_I} {L : ma_L} (k0 : ¬ cOn (L 34) (L 35) → Post (some (.int 0)) HS I L RF 146) (k1 : cOn (L 34) (L 35) → Post (some (.int 1)) HS I L RF 146) : CT g yX7_onePlaceAlone cX7_onePlaceAlone 4 (some .boolean) rX7_onePlaceAlone [.ref 34, .ref 35] Post HS I L RF 146 := by
  refine ct_of (lv := [some (.ref 34), some (.ref 35), none, none]) (by decide) (Nat.le_of_ble_eq_true rfl) rfl ?_
  refine ev_iconst (pc' := 1) (v := 0) dX7_onePlaceAlone_0 rfl ki_0 ?_
  refine ev_istore_n (pc' := 2) (i := 2) (lv' := [some (.ref 34), some (.ref 35), some (.int 0), none]) dX7_onePlaceAlone_1 rfl rfl (Nat.le_of_ble_eq_true rfl) rfl rfl ?_
  refine ev_iload_n (pc' := 3) (i := 2) dX7_onePlaceAlone_2 rfl rfl rfl ?_
  refine ev_iconst (pc' := 4) (v := 4) dX7_onePlaceAlone_3 rfl ki_4 ?_
  refine ev_icmp_ge (tgt := 48) (pc' := 7) dX7_onePlaceAlone_4 rfl rfl (fun h => absurd h (by decide)) (fun _ => ?_)
  refine ev_iload_n (pc' := 8) (i := 2) dX7_onePlaceAlone_7 rfl rfl rfl ?_
  refine ev_iconst (pc' := 9) (v := 1) dX7_onePlaceAlone_8 rfl ki_1 ?_
  refine ev_iadd (pc' := 10) (v := 1) dX7_onePlaceAlone_9 rfl (by decide) ?_
  refine ev_istore_n (pc' := 11) (i := 3) (lv' := [some (.ref 34), some (.ref 35), some (.int 0), some (.int 1)]) dX7_onePlaceAlone_10 rfl rfl (Nat.le_of_ble_eq_true rfl) rfl rfl ?_
  refine ev_iload_n (pc' := 12) (i := 3) dX7_onePlaceAlone_11 rfl rfl rfl ?_
  refine ev_iconst (pc' := 13) (v := 4) dX7_onePlaceAlone_12 rfl ki_4 ?_
  refine ev_icmp_ge (tgt := 42) (pc' := 16) dX7_onePlaceAlone_13 rfl rfl (fun h => absurd h (by decide)) (fun _ => ?_)
  refine ev_aload_n (pc' := 17) (i := 0) dX7_onePlaceAlone_16 rfl rfl rfl ?_
  refine ev_iload_n (pc' := 18) (i := 2) dX7_onePlaceAlone_17 rfl rfl rfl ?_
  refine ev_lald (pc' := 19) (j := 0) (v := (L 34) 0) dX7_onePlaceAlone_18 rfl hs_34 rfl (Nat.le_of_ble_eq_true rfl) (Nat.le_of_ble_eq_true rfl) rfl ?_
  refine ev_aload_n (pc' := 20) (i := 1) dX7_onePlaceAlone_19 rfl rfl rfl ?_
  refine ev_iload_n (pc' := 21) (i := 3) dX7_onePlaceAlone_20 rfl rfl rfl ?_
  refine ev_lald (pc' := 22) (j := 1) (v := (L 35) 1) dX7_onePlaceAlone_21 rfl hs_35 rfl (Nat.le_of_ble_eq_true rfl) (Nat.le_of_ble_eq_true rfl) rfl ?_
  refine ev_lmul (pc' := 23) (v := ((L 34) 0) * ((L 35) 1)) dX7_onePlaceAlone_22 rfl rfl ?_
  refine ev_aload_n (pc' := 24) (i := 0) dX7_onePlaceAlone_23 rfl rfl rfl ?_
  refine ev_iload_n (pc' := 25) (i := 3) dX7_onePlaceAlone_24 rfl rfl rfl ?_
  refine ev_lald (pc' := 26) (j := 1) (v := (L 34) 1) dX7_onePlaceAlone_25 rfl hs_34 rfl (Nat.le_of_ble_eq_true rfl) (Nat.le_of_ble_eq_true rfl) rfl ?_
  refine ev_aload_n (pc' := 27) (i := 1) dX7_onePlaceAlone_26 rfl rfl rfl ?_
  refine ev_iload_n (pc' := 28) (i := 2) dX7_onePlaceAlone_27 rfl rfl rfl ?_
  refine ev_lald (pc' := 29) (j := 0) (v := (L 35) 0) dX7_onePlaceAlone_28 rfl hs_35 rfl (Nat.le_of_ble_eq_true rfl) (Nat.le_of_ble_eq_true rfl) rfl ?_
  refine ev_lmul (pc' := 30) (v := ((L 34) 1) * ((L 35) 0)) dX7_onePlaceAlone_29 rfl rfl ?_
  refine ev_lc_eq (p1 := 31) (tgt := 36) (pc' := 34) dX7_onePlaceAlone_30 rfl dX7_onePlaceAlone_31 rfl rfl (fun c1 => ?_) (fun c1 => ?_)
  · refine ev_iinc (pc' := 39) (v := 2) (lv' := [some (.ref 34), some (.ref 35), some (.int 0), some (.int 2)]) dX7_onePlaceAlone_36 rfl rfl (by decide) (Nat.le_of_ble_eq_true rfl) rfl rfl ?_
    refine ev_goto (tgt := 11) dX7_onePlaceAlone_39 rfl ?_
    refine ev_iload_n (pc' := 12) (i := 3) dX7_onePlaceAlone_11 rfl rfl rfl ?_
    refine ev_iconst (pc' := 13) (v := 4) dX7_onePlaceAlone_12 rfl ki_4 ?_
    refine ev_icmp_ge (tgt := 42) (pc' := 16) dX7_onePlaceAlone_13 rfl rfl (fun h => absurd h (by decide)) (fun _ => ?_)
    refine ev_aload_n (pc' := 17) (i := 0) dX7_onePlaceAlone_16 rfl rfl rfl ?_
    refine ev_iload_n (pc' := 18) (i := 2) dX7_onePlaceAlone_17 rfl rfl rfl ?_
    refine ev_lald (pc' := 19) (j := 0) (v := (L 34) 0) dX7_onePlaceAlone_18 rfl hs_34 rfl (Nat.le_of_ble_eq_true rfl) (Nat.le_of_ble_eq_true rfl) rfl ?_
    refine ev_aload_n (pc' := 20) (i := 1) dX7_onePlaceAlone_19 rfl rfl rfl ?_
    refine ev_iload_n (pc' := 21) (i := 3) dX7_onePlaceAlone_20 rfl rfl rfl ?_
    refine ev_lald (pc' := 22) (j := 2) (v := (L 35) 2) dX7_onePlaceAlone_21 rfl hs_35 rfl (Nat.le_of_ble_eq_true rfl) (Nat.le_of_ble_eq_true rfl) rfl ?_
    refine ev_lmul (pc' := 23) (v := ((L 34) 0) * ((L 35) 2)) dX7_onePlaceAlone_22 rfl rfl ?_
    refine ev_aload_n (pc' := 24) (i := 0) dX7_onePlaceAlone_23 rfl rfl rfl ?_
    refine ev_iload_n (pc' := 25) (i := 3) dX7_onePlaceAlone_24 rfl rfl rfl ?_
    refine ev_lald (pc' := 26) (j := 2) (v := (L 34) 2) dX7_onePlaceAlone_25 rfl hs_34 rfl (Nat.le_of_ble_eq_true rfl) (Nat.le_of_ble_eq_true rfl) rfl ?_
    refine ev_aload_n (pc' := 27) (i := 1) dX7_onePlaceAlone_26 rfl rfl rfl ?_
    refine ev_iload_n (pc' := 28) (i := 2) dX7_onePlaceAlone_27 rfl rfl rfl ?_
    refine ev_lald (pc' := 29) (j := 0) (v := (L 35) 0) dX7_onePlaceAlone_28 rfl hs_35 rfl (Nat.le_of_ble_eq_true rfl) (Nat.le_of_ble_eq_true rfl) rfl ?_
    refine ev_lmul (pc' := 30) (v := ((L 34) 2) * ((L 35) 0)) dX7_onePlaceAlone_29 rfl rfl ?_
    refine ev_lc_eq (p1 := 31) (tgt := 36) (pc' := 34) dX7_onePlaceAlone_30 rfl dX7_onePlaceAlone_31 rfl rfl (fun c2 => ?_) (fun c2 => ?_)
    · refine ev_iinc (pc' := 39) (v := 3) (lv' := [some (.ref 34), some (.ref 35), some (.int 0), some (.int 3)]) dX7_onePlaceAlone_36 rfl rfl (by decide) (Nat.le_of_ble_eq_true rfl) rfl rfl ?_
      refine ev_goto (tgt := 11) dX7_onePlaceAlone_39 rfl ?_
      refine ev_iload_n (pc' := 12) (i := 3) dX7_onePlaceAlone_11 rfl rfl rfl ?_
      refine ev_iconst (pc' := 13) (v := 4) dX7_onePlaceAlone_12 rfl ki_4 ?_
      refine ev_icmp_ge (tgt := 42) (pc' := 16) dX7_onePlaceAlone_13 rfl rfl (fun h => absurd h (by decide)) (fun _ => ?_)
      refine ev_aload_n (pc' := 17) (i := 0) dX7_onePlaceAlone_16 rfl rfl rfl ?_
      refine ev_iload_n (pc' := 18) (i := 2) dX7_onePlaceAlone_17 rfl rfl rfl ?_
      refine ev_lald (pc' := 19) (j := 0) (v := (L 34) 0) dX7_onePlaceAlone_18 rfl hs_34 rfl (Nat.le_of_ble_eq_true rfl) (Nat.le_of_ble_eq_true rfl) rfl ?_
      refine ev_aload_n (pc' := 20) (i := 1) dX7_onePlaceAlone_19 rfl rfl rfl ?_
      refine ev_iload_n (pc' := 21) (i := 3) dX7_onePlaceAlone_20 rfl rfl rfl ?_
      refine ev_lald (pc' := 22) (j := 3) (v := (L 35) 3) dX7_onePlaceAlone_21 rfl hs_35 rfl (Nat.le_of_ble_eq_true rfl) (Nat.le_of_ble_eq_true rfl) rfl ?_
      refine ev_lmul (pc' := 23) (v := ((L 34) 0) * ((L 35) 3)) dX7_onePlaceAlone_22 rfl rfl ?_
      refine ev_aload_n (pc' := 24) (i := 0) dX7_onePlaceAlone_23 rfl rfl rfl ?_
      refine ev_iload_n (pc' := 25) (i := 3) dX7_onePlaceAlone_24 rfl rfl rfl ?_
      refine ev_lald (pc' := 26) (j := 3) (v := (L 34) 3) dX7_onePlaceAlone_25 rfl hs_34 rfl (Nat.le_of_ble_eq_true rfl) (Nat.le_of_ble_eq_true rfl) rfl ?_
      refine ev_aload_n (pc' := 27) (i := 1) dX7_onePlaceAlone_26 rfl rfl rfl ?_
      refine ev_iload_n (pc' := 28) (i := 2) dX7_onePlaceAlone_27 rfl rfl rfl ?_
      refine ev_lald (pc' := 29) (j := 0) (v := (L 35) 0) dX7_onePlaceAlone_28 rfl hs_35 rfl (Nat.le_of_ble_eq_true rfl) (Nat.le_of_ble_eq_true rfl) rfl ?_
      refine ev_lmul (pc' := 30) (v := ((L 34) 3) * ((L 35) 0)) dX7_onePlaceAlone_29 rfl rfl ?_
      refine ev_lc_eq (p1 := 31) (tgt := 36) (pc' := 34) dX7_onePlaceAlone_30 rfl dX7_onePlaceAlone_31 rfl rfl (fun c3 => ?_) (fun c3 => ?_)
      · refine ev_iinc (pc' := 39) (v := 4) (lv' := [some (.ref 34), some (.ref 35), some (.int 0), some (.int 4)]) dX7_onePlaceAlone_36 rfl rfl (by decide) (Nat.le_of_ble_eq_true rfl) rfl rfl ?_
        refine ev_goto (tgt := 11) dX7_onePlaceAlone_39 rfl ?_
        refine ev_iload_n (pc' := 12) (i := 3) dX7_onePlaceAlone_11 rfl rfl rfl ?_
        refine ev_iconst (pc' := 13) (v := 4) dX7_onePlaceAlone_12 rfl ki_4 ?_
        refine ev_icmp_ge (tgt := 42) (pc' := 16) dX7_onePlaceAlone_13 rfl rfl (fun _ => ?_) (fun h => absurd (by decide) h)
        refine ev_iinc (pc' := 45) (v := 1) (lv' := [some (.ref 34), some (.ref 35), some (.int 1), some (.int 4)]) dX7_onePlaceAlone_42 rfl rfl (by decide) (Nat.le_of_ble_eq_true rfl) rfl rfl ?_
        refine ev_goto (tgt := 2) dX7_onePlaceAlone_45 rfl ?_
        refine ev_iload_n (pc' := 3) (i := 2) dX7_onePlaceAlone_2 rfl rfl rfl ?_
        refine ev_iconst (pc' := 4) (v := 4) dX7_onePlaceAlone_3 rfl ki_4 ?_
        refine ev_icmp_ge (tgt := 48) (pc' := 7) dX7_onePlaceAlone_4 rfl rfl (fun h => absurd h (by decide)) (fun _ => ?_)
        refine ev_iload_n (pc' := 8) (i := 2) dX7_onePlaceAlone_7 rfl rfl rfl ?_
        refine ev_iconst (pc' := 9) (v := 1) dX7_onePlaceAlone_8 rfl ki_1 ?_
        refine ev_iadd (pc' := 10) (v := 2) dX7_onePlaceAlone_9 rfl (by decide) ?_
        refine ev_istore_n (pc' := 11) (i := 3) (lv' := [some (.ref 34), some (.ref 35), some (.int 1), some (.int 2)]) dX7_onePlaceAlone_10 rfl rfl (Nat.le_of_ble_eq_true rfl) rfl rfl ?_
        refine ev_iload_n (pc' := 12) (i := 3) dX7_onePlaceAlone_11 rfl rfl rfl ?_
        refine ev_iconst (pc' := 13) (v := 4) dX7_onePlaceAlone_12 rfl ki_4 ?_
        refine ev_icmp_ge (tgt := 42) (pc' := 16) dX7_onePlaceAlone_13 rfl rfl (fun h => absurd h (by decide)) (fun _ => ?_)
        refine ev_aload_n (pc' := 17) (i := 0) dX7_onePlaceAlone_16 rfl rfl rfl ?_
        refine ev_iload_n (pc' := 18) (i := 2) dX7_onePlaceAlone_17 rfl rfl rfl ?_
        refine ev_lald (pc' := 19) (j := 1) (v := (L 34) 1) dX7_onePlaceAlone_18 rfl hs_34 rfl (Nat.le_of_ble_eq_true rfl) (Nat.le_of_ble_eq_true rfl) rfl ?_
        refine ev_aload_n (pc' := 20) (i := 1) dX7_onePlaceAlone_19 rfl rfl rfl ?_
        refine ev_iload_n (pc' := 21) (i := 3) dX7_onePlaceAlone_20 rfl rfl rfl ?_
        refine ev_lald (pc' := 22) (j := 2) (v := (L 35) 2) dX7_onePlaceAlone_21 rfl hs_35 rfl (Nat.le_of_ble_eq_true rfl) (Nat.le_of_ble_eq_true rfl) rfl ?_
        refine ev_lmul (pc' := 23) (v := ((L 34) 1) * ((L 35) 2)) dX7_onePlaceAlone_22 rfl rfl ?_
        refine ev_aload_n (pc' := 24) (i := 0) dX7_onePlaceAlone_23 rfl rfl rfl ?_
        refine ev_iload_n (pc' := 25) (i := 3) dX7_onePlaceAlone_24 rfl rfl rfl ?_
        refine ev_lald (pc' := 26) (j := 2) (v := (L 34) 2) dX7_onePlaceAlone_25 rfl hs_34 rfl (Nat.le_of_ble_eq_true rfl) (Nat.le_of_ble_eq_true rfl) rfl ?_
        refine ev_aload_n (pc' := 27) (i := 1) dX7_onePlaceAlone_26 rfl rfl rfl ?_
        refine ev_iload_n (pc' := 28) (i := 2) dX7_onePlaceAlone_27 rfl rfl rfl ?_
        refine ev_lald (pc' := 29) (j := 1) (v := (L 35) 1) dX7_onePlaceAlone_28 rfl hs_35 rfl (Nat.le_of_ble_eq_true rfl) (Nat.le_of_ble_eq_true rfl) rfl ?_
        refine ev_lmul (pc' := 30) (v := ((L 34) 2) * ((L 35) 1)) dX7_onePlaceAlone_29 rfl rfl ?_
        refine ev_lc_eq (p1 := 31) (tgt := 36) (pc' := 34) dX7_onePlaceAlone_30 rfl dX7_onePlaceAlone_31 rfl rfl (fun c4 => ?_) (fun c4 => ?_)
        · refine ev_iinc (pc' := 39) (v := 3) (lv' := [some (.ref 34), some (.ref 35), some (.int 1), some (.int 3)]) dX7_onePlaceAlone_36 rfl rfl (by decide) (Nat.le_of_ble_eq_true rfl) rfl rfl ?_
          refine ev_goto (tgt := 11) dX7_onePlaceAlone_39 rfl ?_
          refine ev_iload_n (pc' := 12) (i := 3) dX7_onePlaceAlone_11 rfl rfl rfl ?_
          refine ev_iconst (pc' := 13) (v := 4) dX7_onePlaceAlone_12 rfl ki_4 ?_
          refine ev_icmp_ge (tgt := 42) (pc' := 16) dX7_onePlaceAlone_13 rfl rfl (fun h => absurd h (by decide)) (fun _ => ?_)
          refine ev_aload_n (pc' := 17) (i := 0) dX7_onePlaceAlone_16 rfl rfl rfl ?_
          refine ev_iload_n (pc' := 18) (i := 2) dX7_onePlaceAlone_17 rfl rfl rfl ?_
          refine ev_lald (pc' := 19) (j := 1) (v := (L 34) 1) dX7_onePlaceAlone_18 rfl hs_34 rfl (Nat.le_of_ble_eq_true rfl) (Nat.le_of_ble_eq_true rfl) rfl ?_
          refine ev_aload_n (pc' := 20) (i := 1) dX7_onePlaceAlone_19 rfl rfl rfl ?_
          refine ev_iload_n (pc' := 21) (i := 3) dX7_onePlaceAlone_20 rfl rfl rfl ?_
          refine ev_lald (pc' := 22) (j := 3) (v := (L 35) 3) dX7_onePlaceAlone_21 rfl hs_35 rfl (Nat.le_of_ble_eq_true rfl) (Nat.le_of_ble_eq_true rfl) rfl ?_
          refine ev_lmul (pc' := 23) (v := ((L 34) 1) * ((L 35) 3)) dX7_onePlaceAlone_22 rfl rfl ?_
          refine ev_aload_n (pc' := 24) (i := 0) dX7_onePlaceAlone_23 rfl rfl rfl ?_
          refine ev_iload_n (pc' := 25) (i := 3) dX7_onePlaceAlone_24 rfl rfl rfl ?_
          refine ev_lald (pc' := 26) (j := 3) (v := (L 34) 3) dX7_onePlaceAlone_25 rfl hs_34 rfl (Nat.le_of_ble_eq_true rfl) (Nat.le_of_ble_eq_true rfl) rfl ?_
          refine ev_aload_n (pc' := 27) (i := 1) dX7_onePlaceAlone_26 rfl rfl rfl ?_
          refine ev_iload_n (pc' := 28) (i := 2) dX7_onePlaceAlone_27 rfl rfl rfl ?_
          refine ev_lald (pc' := 29) (j := 1) (v := (L 35) 1) dX7_onePlaceAlone_28 rfl hs_35 rfl (Nat.le_of_ble_eq_true rfl) (Nat.le_of_ble_eq_true rfl) rfl ?_
          refine ev_lmul (pc' := 30) (v := ((L 34) 3) * ((L 35) 1)) dX7_onePlaceAlone_29 rfl rfl ?_
          refine ev_lc_eq (p1 := 31) (tgt := 36) (pc' := 34) dX7_onePlaceAlone_30 rfl dX7_onePlaceAlone_31 rfl rfl (fun c5 => ?_) (fun c5 => ?_)
          · refine ev_iinc (pc' := 39) (v := 4) (lv' := [some (.ref 34), some (.ref 35), some (.int 1), some (.int 4)]) dX7_onePlaceAlone_36 rfl rfl (by decide) (Nat.le_of_ble_eq_true rfl) rfl rfl ?_
            refine ev_goto (tgt := 11) dX7_onePlaceAlone_39 rfl ?_
            refine ev_iload_n (pc' := 12) (i := 3) dX7_onePlaceAlone_11 rfl rfl rfl ?_
            refine ev_iconst (pc' := 13) (v := 4) dX7_onePlaceAlone_12 rfl ki_4 ?_
            refine ev_icmp_ge (tgt := 42) (pc' := 16) dX7_onePlaceAlone_13 rfl rfl (fun _ => ?_) (fun h => absurd (by decide) h)
            refine ev_iinc (pc' := 45) (v := 2) (lv' := [some (.ref 34), some (.ref 35), some (.int 2), some (.int 4)]) dX7_onePlaceAlone_42 rfl rfl (by decide) (Nat.le_of_ble_eq_true rfl) rfl rfl ?_
            refine ev_goto (tgt := 2) dX7_onePlaceAlone_45 rfl ?_
            refine ev_iload_n (pc' := 3) (i := 2) dX7_onePlaceAlone_2 rfl rfl rfl ?_
            refine ev_iconst (pc' := 4) (v := 4) dX7_onePlaceAlone_3 rfl ki_4 ?_
            refine ev_icmp_ge (tgt := 48) (pc' := 7) dX7_onePlaceAlone_4 rfl rfl (fun h => absurd h (by decide)) (fun _ => ?_)
            refine ev_iload_n (pc' := 8) (i := 2) dX7_onePlaceAlone_7 rfl rfl rfl ?_
            refine ev_iconst (pc' := 9) (v := 1) dX7_onePlaceAlone_8 rfl ki_1 ?_
            refine ev_iadd (pc' := 10) (v := 3) dX7_onePlaceAlone_9 rfl (by decide) ?_
            refine ev_istore_n (pc' := 11) (i := 3) (lv' := [some (.ref 34), some (.ref 35), some (.int 2), some (.int 3)]) dX7_onePlaceAlone_10 rfl rfl (Nat.le_of_ble_eq_true rfl) rfl rfl ?_
            refine ev_iload_n (pc' := 12) (i := 3) dX7_onePlaceAlone_11 rfl rfl rfl ?_
            refine ev_iconst (pc' := 13) (v := 4) dX7_onePlaceAlone_12 rfl ki_4 ?_
            refine ev_icmp_ge (tgt := 42) (pc' := 16) dX7_onePlaceAlone_13 rfl rfl (fun h => absurd h (by decide)) (fun _ => ?_)
            refine ev_aload_n (pc' := 17) (i := 0) dX7_onePlaceAlone_16 rfl rfl rfl ?_
            refine ev_iload_n (pc' := 18) (i := 2) dX7_onePlaceAlone_17 rfl rfl rfl ?_
            refine ev_lald (pc' := 19) (j := 2) (v := (L 34) 2) dX7_onePlaceAlone_18 rfl hs_34 rfl (Nat.le_of_ble_eq_true rfl) (Nat.le_of_ble_eq_true rfl) rfl ?_
            refine ev_aload_n (pc' := 20) (i := 1) dX7_onePlaceAlone_19 rfl rfl rfl ?_
            refine ev_iload_n (pc' := 21) (i := 3) dX7_onePlaceAlone_20 rfl rfl rfl ?_
            refine ev_lald (pc' := 22) (j := 3) (v := (L 35) 3) dX7_onePlaceAlone_21 rfl hs_35 rfl (Nat.le_of_ble_eq_true rfl) (Nat.le_of_ble_eq_true rfl) rfl ?_
            refine ev_lmul (pc' := 23) (v := ((L 34) 2) * ((L 35) 3)) dX7_onePlaceAlone_22 rfl rfl ?_
            refine ev_aload_n (pc' := 24) (i := 0) dX7_onePlaceAlone_23 rfl rfl rfl ?_
            refine ev_iload_n (pc' := 25) (i := 3) dX7_onePlaceAlone_24 rfl rfl rfl ?_
            refine ev_lald (pc' := 26) (j := 3) (v := (L 34) 3) dX7_onePlaceAlone_25 rfl hs_34 rfl (Nat.le_of_ble_eq_true rfl) (Nat.le_of_ble_eq_true rfl) rfl ?_
            refine ev_aload_n (pc' := 27) (i := 1) dX7_onePlaceAlone_26 rfl rfl rfl ?_
            refine ev_iload_n (pc' := 28) (i := 2) dX7_onePlaceAlone_27 rfl rfl rfl ?_
            refine ev_lald (pc' := 29) (j := 2) (v := (L 35) 2) dX7_onePlaceAlone_28 rfl hs_35 rfl (Nat.le_of_ble_eq_true rfl) (Nat.le_of_ble_eq_true rfl) rfl ?_
            refine ev_lmul (pc' := 30) (v := ((L 34) 3) * ((L 35) 2)) dX7_onePlaceAlone_29 rfl rfl ?_
            refine ev_lc_eq (p1 := 31) (tgt := 36) (pc' := 34) dX7_onePlaceAlone_30 rfl dX7_onePlaceAlone_31 rfl rfl (fun c6 => ?_) (fun c6 => ?_)
            · refine ev_iinc (pc' := 39) (v := 4) (lv' := [some (.ref 34), some (.ref 35), some (.int 2), some (.int 4)]) dX7_onePlaceAlone_36 rfl rfl (by decide) (Nat.le_of_ble_eq_true rfl) rfl rfl ?_
              refine ev_goto (tgt := 11) dX7_onePlaceAlone_39 rfl ?_
              refine ev_iload_n (pc' := 12) (i := 3) dX7_onePlaceAlone_11 rfl rfl rfl ?_
              refine ev_iconst (pc' := 13) (v := 4) dX7_onePlaceAlone_12 rfl ki_4 ?_
              refine ev_icmp_ge (tgt := 42) (pc' := 16) dX7_onePlaceAlone_13 rfl rfl (fun _ => ?_) (fun h => absurd (by decide) h)
              refine ev_iinc (pc' := 45) (v := 3) (lv' := [some (.ref 34), some (.ref 35), some (.int 3), some (.int 4)]) dX7_onePlaceAlone_42 rfl rfl (by decide) (Nat.le_of_ble_eq_true rfl) rfl rfl ?_
              refine ev_goto (tgt := 2) dX7_onePlaceAlone_45 rfl ?_
              refine ev_iload_n (pc' := 3) (i := 2) dX7_onePlaceAlone_2 rfl rfl rfl ?_
              refine ev_iconst (pc' := 4) (v := 4) dX7_onePlaceAlone_3 rfl ki_4 ?_
              refine ev_icmp_ge (tgt := 48) (pc' := 7) dX7_onePlaceAlone_4 rfl rfl (fun h => absurd h (by decide)) (fun _ => ?_)
              refine ev_iload_n (pc' := 8) (i := 2) dX7_onePlaceAlone_7 rfl rfl rfl ?_
              refine ev_iconst (pc' := 9) (v := 1) dX7_onePlaceAlone_8 rfl ki_1 ?_
              refine ev_iadd (pc' := 10) (v := 4) dX7_onePlaceAlone_9 rfl (by decide) ?_
              refine ev_istore_n (pc' := 11) (i := 3) (lv' := [some (.ref 34), some (.ref 35), some (.int 3), some (.int 4)]) dX7_onePlaceAlone_10 rfl rfl (Nat.le_of_ble_eq_true rfl) rfl rfl ?_
              refine ev_iload_n (pc' := 12) (i := 3) dX7_onePlaceAlone_11 rfl rfl rfl ?_
              refine ev_iconst (pc' := 13) (v := 4) dX7_onePlaceAlone_12 rfl ki_4 ?_
              refine ev_icmp_ge (tgt := 42) (pc' := 16) dX7_onePlaceAlone_13 rfl rfl (fun _ => ?_) (fun h => absurd (by decide) h)
              refine ev_iinc (pc' := 45) (v := 4) (lv' := [some (.ref 34), some (.ref 35), some (.int 4), some (.int 4)]) dX7_onePlaceAlone_42 rfl rfl (by decide) (Nat.le_of_ble_eq_true rfl) rfl rfl ?_
              refine ev_goto (tgt := 2) dX7_onePlaceAlone_45 rfl ?_
              refine ev_iload_n (pc' := 3) (i := 2) dX7_onePlaceAlone_2 rfl rfl rfl ?_
              refine ev_iconst (pc' := 4) (v := 4) dX7_onePlaceAlone_3 rfl ki_4 ?_
              refine ev_icmp_ge (tgt := 48) (pc' := 7) dX7_onePlaceAlone_4 rfl rfl (fun _ => ?_) (fun h => absurd (by decide) h)
              refine ev_iconst (pc' := 49) (v := 1) dX7_onePlaceAlone_48 rfl ki_1 ?_
              refine ev_iret dX7_onePlaceAlone_49 rfl rfl ⟨Nat.le_refl _, Nat.le_refl _⟩ ?_
              exact k1 ⟨c1, c2, c3, c4, c5, c6⟩
            · refine ev_iconst (pc' := 35) (v := 0) dX7_onePlaceAlone_34 rfl ki_0 ?_
              refine ev_iret dX7_onePlaceAlone_35 rfl rfl ⟨Nat.le_refl _, Nat.le_refl _⟩ ?_
              exact k0 (fun q => absurd q.2.2.2.2.2 c6)
          · refine ev_iconst (pc' := 35) (v := 0) dX7_onePlaceAlone_34 rfl ki_0 ?_
            refine ev_iret dX7_onePlaceAlone_35 rfl rfl ⟨Nat.le_refl _, Nat.le_refl _⟩ ?_
            exact k0 (fun q => absurd q.2.2.2.2.1 c5)
        · refine ev_iconst (pc' := 35) (v := 0) dX7_onePlaceAlone_34 rfl ki_0 ?_
          refine ev_iret dX7_onePlaceAlone_35 rfl rfl ⟨Nat.le_refl _, Nat.le_refl _⟩ ?_
          exact k0 (fun q => absurd q.2.2.2.1 c4)
      · refine ev_iconst (pc' := 35) (v := 0) dX7_onePlaceAlone_34 rfl ki_0 ?_
        refine ev_iret dX7_onePlaceAlone_35 rfl rfl ⟨Nat.le_refl _, Nat.le_refl _⟩ ?_
        exact k0 (fun q => absurd q.2.2.1 c3)
    · refine ev_iconst (pc' := 35) (v := 0) dX7_onePlaceAlone_34 rfl ki_0 ?_
      refine ev_iret dX7_onePlaceAlone_35 rfl rfl ⟨Nat.le_refl _, Nat.le_refl _⟩ ?_
      exact k0 (fun q => absurd q.2.1 c2)
  · refine ev_iconst (pc' := 35) (v := 0) dX7_onePlaceAlone_34 rfl ki_0 ?_
    refine ev_iret dX7_onePlaceAlone_35 rfl rfl ⟨Nat.le_refl _, Nat.le_refl _⟩ ?_
    exact k0 (fun q => absurd q.1 c1)
set_option maxRecDepth 4000 in
theorem t_X7_same {g : ma_G} {Post : ma_P} {I : ma_I} {L : ma_L}  (q : Int32) (r : Int32)  (k1 : ((q < 0) ∨ (¬ q < 12)) → Post (some (.int (-1))) HS I L RF 146) (k2 : ∀ j2 : Nat, (j2 < 12) → q = nI j2 → ∀ j5 : Nat, (j5 < 12) → r = nI j5 → (((I (55 + 5 * j2)) 0) = 0) → Post (some (.int (-3))) HS (cRf I 1) L RF 146) (k3 : ∀ j9 : Nat, (j9 < 12) → q = nI j9 → ∀ j12 : Nat, (j12 < 12) → r = nI j12 → (¬ ((I (55 + 5 * j9)) 0) = 0) → (¬ ((I (55 + 5 * j12)) 0) = 0) → (¬ ((I (59 + 5 * j9)) 1) = ((I (59 + 5 * j12)) 1)) → (¬ ((I (59 + 5 * j9)) 1) = ((I (59 + 5 * j12)) 2)) → Post (some (.int 0)) HS I L RF 146) (k4 : ∀ j9 : Nat, (j9 < 12) → q = nI j9 → ∀ j12 : Nat, (j12 < 12) → r = nI j12 → (¬ ((I (55 + 5 * j9)) 0) = 0) → (¬ ((I (55 + 5 * j12)) 0) = 0) → (¬ ((I (59 + 5 * j9)) 1) = ((I (59 + 5 * j12)) 1)) → (((I (59 + 5 * j9)) 1) = ((I (59 + 5 * j12)) 2)) → (¬ ((I (59 + 5 * j9)) 2) = ((I (59 + 5 * j12)) 1)) → Post (some (.int 0)) HS I L RF 146) (k5 : ∀ j9 : Nat, (j9 < 12) → q = nI j9 → ∀ j12 : Nat, (j12 < 12) → r = nI j12 → (¬ ((I (55 + 5 * j9)) 0) = 0) → (¬ ((I (55 + 5 * j12)) 0) = 0) → (¬ ((I (59 + 5 * j9)) 1) = ((I (59 + 5 * j12)) 1)) → (((I (59 + 5 * j9)) 1) = ((I (59 + 5 * j12)) 2)) → (((I (59 + 5 * j9)) 2) = ((I (59 + 5 * j12)) 1)) → Post (some (.int 1)) HS I L RF 146) (k6 : ∀ j9 : Nat, (j9 < 12) → q = nI j9 → ∀ j12 : Nat, (j12 < 12) → r = nI j12 → (¬ ((I (55 + 5 * j9)) 0) = 0) → (¬ ((I (55 + 5 * j12)) 0) = 0) → (((I (59 + 5 * j9)) 1) = ((I (59 + 5 * j12)) 1)) → (¬ ((I (59 + 5 * j9)) 2) = ((I (59 + 5 * j12)) 2)) → (¬ ((I (59 + 5 * j9)) 1) = ((I (59 + 5 * j12)) 2)) → Post (some (.int 0)) HS I L RF 146) (k7 : ∀ j9 : Nat, (j9 < 12) → q = nI j9 → ∀ j12 : Nat, (j12 < 12) → r = nI j12 → (¬ ((I (55 + 5 * j9)) 0) = 0) → (¬ ((I (55 + 5 * j12)) 0) = 0) → (((I (59 + 5 * j9)) 1) = ((I (59 + 5 * j12)) 1)) → (¬ ((I (59 + 5 * j9)) 2) = ((I (59 + 5 * j12)) 2)) → (((I (59 + 5 * j9)) 1) = ((I (59 + 5 * j12)) 2)) → (¬ ((I (59 + 5 * j9)) 2) = ((I (59 + 5 * j12)) 1)) → Post (some (.int 0)) HS I L RF 146) (k8 : ∀ j9 : Nat, (j9 < 12) → q = nI j9 → ∀ j12 : Nat, (j12 < 12) → r = nI j12 → (¬ ((I (55 + 5 * j9)) 0) = 0) → (¬ ((I (55 + 5 * j12)) 0) = 0) → (((I (59 + 5 * j9)) 1) = ((I (59 + 5 * j12)) 1)) → (¬ ((I (59 + 5 * j9)) 2) = ((I (59 + 5 * j12)) 2)) → (((I (59 + 5 * j9)) 1) = ((I (59 + 5 * j12)) 2)) → (((I (59 + 5 * j9)) 2) = ((I (59 + 5 * j12)) 1)) → Post (some (.int 1)) HS I L RF 146) (k9 : ∀ j9 : Nat, (j9 < 12) → q = nI j9 → ∀ j12 : Nat, (j12 < 12) → r = nI j12 → (¬ ((I (55 + 5 * j9)) 0) = 0) → (¬ ((I (55 + 5 * j12)) 0) = 0) → (((I (59 + 5 * j9)) 1) = ((I (59 + 5 * j12)) 1)) → (((I (59 + 5 * j9)) 2) = ((I (59 + 5 * j12)) 2)) → (¬ ((I (59 + 5 * j9)) 1) = ((I (59 + 5 * j12)) 2)) → Post (some (.int 1)) HS I L RF 146) (k10 : ∀ j9 : Nat, (j9 < 12) → q = nI j9 → ∀ j12 : Nat, (j12 < 12) → r = nI j12 → (¬ ((I (55 + 5 * j9)) 0) = 0) → (¬ ((I (55 + 5 * j12)) 0) = 0) → (((I (59 + 5 * j9)) 1) = ((I (59 + 5 * j12)) 1)) → (((I (59 + 5 * j9)) 2) = ((I (59 + 5 * j12)) 2)) → (((I (59 + 5 * j9)) 1) = ((I (59 + 5 * j12)) 2)) → (¬ ((I (59 + 5 * j9)) 2) = ((I (59 + 5 * j12)) 1)) → Post (some (.int 1)) HS I L RF 146) (k11 : ∀ j9 : Nat, (j9 < 12) → q = nI j9 → ∀ j12 : Nat, (j12 < 12) → r = nI j12 → (¬ ((I (55 + 5 * j9)) 0) = 0) → (¬ ((I (55 + 5 * j12)) 0) = 0) → (((I (59 + 5 * j9)) 1) = ((I (59 + 5 * j12)) 1)) → (((I (59 + 5 * j9)) 2) = ((I (59 + 5 * j12)) 2)) → (((I (59 + 5 * j9)) 1) = ((I (59 + 5 * j12)) 2)) → (((I (59 + 5 * j9)) 2) = ((I (59 + 5 * j12)) 1)) → Post (some (.int 1)) HS I L RF 146) (k12 : ∀ j17 : Nat, (j17 < 12) → q = nI j17 → ∀ j20 : Nat, (j20 < 12) → r = nI j20 → (¬ ((I (55 + 5 * j17)) 0) = 0) → (((I (55 + 5 * j20)) 0) = 0) → Post (some (.int (-3))) HS (cRf I 1) L RF 146) (k13 : ∀ j25 : Nat, (j25 < 12) → q = nI j25 → ((r < 0) ∨ (¬ r < 12)) → Post (some (.int (-1))) HS I L RF 146) : CT g yX7_same cX7_same 8 (some .int) rX7_same [.ref 3, .int q, .int r] Post HS I L RF 146 := by
  refine ct_of (lv := [some (.ref 3), some (.int q), some (.int r), none, none, none, none, none]) (by decide) (Nat.le_of_ble_eq_true rfl) rfl ?_
  refine ev_aload_n (pc' := 1) (i := 0) dX7_same_0 rfl rfl rfl ?_
  refine ev_iload_n (pc' := 2) (i := 1) dX7_same_1 rfl rfl rfl ?_
  refine ev_iload_n (pc' := 3) (i := 2) dX7_same_2 rfl rfl rfl ?_
  refine ev_callV (pc' := 6) (rm' := rX7_refusedPair) (b := 3) (av := [.int q, .int r]) (rest := []) co_X7_196 ci_X7_refusedPair cv_X7_refusedPair dX7_same_3 rfl hs_3 hb_X7 rfl rfl (Nat.le_of_ble_eq_true rfl) ⟨(Nat.le_of_ble_eq_true rfl), (Nat.le_of_ble_eq_true rfl)⟩ ⟨(Nat.le_of_ble_eq_true rfl), (Nat.le_of_ble_eq_true rfl)⟩ ?_
  refine t_X7_refusedPair q r  (fun h1 => ?_) (fun j2 h3 e4 j5 h6 e7 h8 => ?_) (fun j9 h10 e11 j12 h13 e14 h15 h16 => ?_) (fun j17 h18 e19 j20 h21 e22 h23 h24 => ?_) (fun j25 h26 e27 h28 => ?_)
  · skip
    refine ev_istore_n (pc' := 7) (i := 3) (lv' := [some (.ref 3), some (.int q), some (.int r), some (.int (-1)), none, none, none, none]) dX7_same_6 rfl rfl (Nat.le_of_ble_eq_true rfl) rfl rfl ?_
    refine ev_iload_n (pc' := 8) (i := 3) dX7_same_7 rfl rfl rfl ?_
    refine ev_if_eq (tgt := 13) (pc' := 11) dX7_same_8 rfl rfl (fun h => absurd h (by decide)) (fun _ => ?_)
    refine ev_iload_n (pc' := 12) (i := 3) dX7_same_11 rfl rfl rfl ?_
    refine ev_iret dX7_same_12 rfl rfl ⟨Nat.le_refl _, Nat.le_refl _⟩ ?_
    exact k1 h1
  · subst e4
    subst e7
    refine ev_istore_n (pc' := 7) (i := 3) (lv' := [some (.ref 3), some (.int (nI j2)), some (.int (nI j5)), some (.int (-3)), none, none, none, none]) dX7_same_6 rfl rfl (Nat.le_of_ble_eq_true rfl) rfl rfl ?_
    refine ev_iload_n (pc' := 8) (i := 3) dX7_same_7 rfl rfl rfl ?_
    refine ev_if_eq (tgt := 13) (pc' := 11) dX7_same_8 rfl rfl (fun h => absurd h (by decide)) (fun _ => ?_)
    refine ev_iload_n (pc' := 12) (i := 3) dX7_same_11 rfl rfl rfl ?_
    refine ev_iret dX7_same_12 rfl rfl ⟨Nat.le_refl _, Nat.le_refl _⟩ ?_
    exact k2 j2 h3 rfl j5 h6 rfl h8
  · subst e11
    subst e14
    refine ev_istore_n (pc' := 7) (i := 3) (lv' := [some (.ref 3), some (.int (nI j9)), some (.int (nI j12)), some (.int 0), none, none, none, none]) dX7_same_6 rfl rfl (Nat.le_of_ble_eq_true rfl) rfl rfl ?_
    refine ev_iload_n (pc' := 8) (i := 3) dX7_same_7 rfl rfl rfl ?_
    refine ev_if_eq (tgt := 13) (pc' := 11) dX7_same_8 rfl rfl (fun _ => ?_) (fun h => absurd (by decide) h)
    refine ev_aload_n (pc' := 14) (i := 0) dX7_same_13 rfl rfl rfl ?_
    refine ev_getR (pc' := 17) fo_X7_17 dX7_same_14 rfl hs_3 rfl rf_3_1 ?_
    refine ev_iload_n (pc' := 18) (i := 1) dX7_same_17 rfl rfl rfl ?_
    refine ev_aald (pc' := 19) (j := j9) (b := 55 + 5 * j9) dX7_same_18 rfl hs_5 (Or.inr rfl) rfl (by omega) (Nat.le_of_ble_eq_true rfl) (hs_ground j9 (by omega)).2.2.2.2.2.2.2.2.2 ?_
    refine ev_astore (pc' := 21) (lv' := [some (.ref 3), some (.int (nI j9)), some (.int (nI j12)), some (.int 0), some (.ref (55 + 5 * j9)), none, none, none]) dX7_same_19 rfl (Nat.le_of_ble_eq_true rfl) rfl rfl ?_
    refine ev_aload_n (pc' := 22) (i := 0) dX7_same_21 rfl rfl rfl ?_
    refine ev_getR (pc' := 25) fo_X7_17 dX7_same_22 rfl hs_3 rfl rf_3_1 ?_
    refine ev_iload_n (pc' := 26) (i := 2) dX7_same_25 rfl rfl rfl ?_
    refine ev_aald (pc' := 27) (j := j12) (b := 55 + 5 * j12) dX7_same_26 rfl hs_5 (Or.inr rfl) rfl (by omega) (Nat.le_of_ble_eq_true rfl) (hs_ground j12 (by omega)).2.2.2.2.2.2.2.2.2 ?_
    refine ev_astore (pc' := 29) (lv' := [some (.ref 3), some (.int (nI j9)), some (.int (nI j12)), some (.int 0), some (.ref (55 + 5 * j9)), some (.ref (55 + 5 * j12)), none, none]) dX7_same_27 rfl (Nat.le_of_ble_eq_true rfl) rfl rfl ?_
    refine ev_aload (pc' := 31) dX7_same_29 rfl rfl ?_
    refine ev_callV (pc' := 34) (rm' := rX1_above) (b := 55 + 5 * j9) (av := []) (rest := []) co_X7_164 ci_X1_above cv_X1_above dX7_same_31 rfl (hs_ground j9 (by omega)).1 hb_X1 rfl rfl (Nat.le_of_ble_eq_true rfl) ⟨(Nat.le_of_ble_eq_true rfl), (Nat.le_of_ble_eq_true rfl)⟩ ⟨(Nat.le_of_ble_eq_true rfl), (Nat.le_of_ble_eq_true rfl)⟩ ?_
    refine t_X1_above (55 + 5 * j9) (56 + 5 * j9) (59 + 5 * j9) (hs_ground j9 (by omega)).1 (hs_ground j9 (by omega)).2.2.2.2.2.1 (hs_ground j9 (by omega)).2.2.2.2.2.2.1 (hs_ground j9 (by omega)).2.2.2.2.1 ?_
    refine ev_aload (pc' := 36) dX7_same_34 rfl rfl ?_
    refine ev_callV (pc' := 39) (rm' := rX1_above) (b := 55 + 5 * j12) (av := []) (rest := [.int ((I (59 + 5 * j9)) 1)]) co_X7_164 ci_X1_above cv_X1_above dX7_same_36 rfl (hs_ground j12 (by omega)).1 hb_X1 rfl rfl (Nat.le_of_ble_eq_true rfl) ⟨(Nat.le_of_ble_eq_true rfl), (Nat.le_of_ble_eq_true rfl)⟩ ⟨(Nat.le_of_ble_eq_true rfl), (Nat.le_of_ble_eq_true rfl)⟩ ?_
    refine t_X1_above (55 + 5 * j12) (56 + 5 * j12) (59 + 5 * j12) (hs_ground j12 (by omega)).1 (hs_ground j12 (by omega)).2.2.2.2.2.1 (hs_ground j12 (by omega)).2.2.2.2.2.2.1 (hs_ground j12 (by omega)).2.2.2.2.1 ?_
    refine ev_icmp_ne (tgt := 59) (pc' := 42) dX7_same_39 rfl rfl (fun c29 => ?_) (fun c29 => ?_)
    · refine ev_iconst (pc' := 60) (v := 0) dX7_same_59 rfl ki_0 ?_
      refine ev_istore (pc' := 62) (lv' := [some (.ref 3), some (.int (nI j9)), some (.int (nI j12)), some (.int 0), some (.ref (55 + 5 * j9)), some (.ref (55 + 5 * j12)), some (.int 0), none]) dX7_same_60 rfl (Nat.le_of_ble_eq_true rfl) rfl rfl ?_
      refine ev_aload (pc' := 64) dX7_same_62 rfl rfl ?_
      refine ev_callV (pc' := 67) (rm' := rX1_above) (b := 55 + 5 * j9) (av := []) (rest := []) co_X7_164 ci_X1_above cv_X1_above dX7_same_64 rfl (hs_ground j9 (by omega)).1 hb_X1 rfl rfl (Nat.le_of_ble_eq_true rfl) ⟨(Nat.le_of_ble_eq_true rfl), (Nat.le_of_ble_eq_true rfl)⟩ ⟨(Nat.le_of_ble_eq_true rfl), (Nat.le_of_ble_eq_true rfl)⟩ ?_
      refine t_X1_above (55 + 5 * j9) (56 + 5 * j9) (59 + 5 * j9) (hs_ground j9 (by omega)).1 (hs_ground j9 (by omega)).2.2.2.2.2.1 (hs_ground j9 (by omega)).2.2.2.2.2.2.1 (hs_ground j9 (by omega)).2.2.2.2.1 ?_
      refine ev_aload (pc' := 69) dX7_same_67 rfl rfl ?_
      refine ev_callV (pc' := 72) (rm' := rX1_below) (b := 55 + 5 * j12) (av := []) (rest := [.int ((I (59 + 5 * j9)) 1)]) co_X7_167 ci_X1_below cv_X1_below dX7_same_69 rfl (hs_ground j12 (by omega)).1 hb_X1 rfl rfl (Nat.le_of_ble_eq_true rfl) ⟨(Nat.le_of_ble_eq_true rfl), (Nat.le_of_ble_eq_true rfl)⟩ ⟨(Nat.le_of_ble_eq_true rfl), (Nat.le_of_ble_eq_true rfl)⟩ ?_
      refine t_X1_below (55 + 5 * j12) (56 + 5 * j12) (59 + 5 * j12) (hs_ground j12 (by omega)).1 (hs_ground j12 (by omega)).2.2.2.2.2.1 (hs_ground j12 (by omega)).2.2.2.2.2.2.1 (hs_ground j12 (by omega)).2.2.2.2.1 ?_
      refine ev_icmp_ne (tgt := 92) (pc' := 75) dX7_same_72 rfl rfl (fun c30 => ?_) (fun c30 => ?_)
      · refine ev_iconst (pc' := 93) (v := 0) dX7_same_92 rfl ki_0 ?_
        refine ev_istore (pc' := 95) (lv' := [some (.ref 3), some (.int (nI j9)), some (.int (nI j12)), some (.int 0), some (.ref (55 + 5 * j9)), some (.ref (55 + 5 * j12)), some (.int 0), some (.int 0)]) dX7_same_93 rfl (Nat.le_of_ble_eq_true rfl) rfl rfl ?_
        refine ev_iload (pc' := 97) dX7_same_95 rfl rfl ?_
        refine ev_if_ne (tgt := 105) (pc' := 100) dX7_same_97 rfl rfl (fun h => absurd (by decide) h) (fun _ => ?_)
        refine ev_iload (pc' := 102) dX7_same_100 rfl rfl ?_
        refine ev_if_eq (tgt := 109) (pc' := 105) dX7_same_102 rfl rfl (fun _ => ?_) (fun h => absurd (by decide) h)
        refine ev_iconst (pc' := 110) (v := 0) dX7_same_109 rfl ki_0 ?_
        refine ev_callS (pc' := 113) (rm' := rX7_oneIf) (av := [.int 0]) (rest := []) co_X7_160 cs_X7_oneIf dX7_same_110 rfl rfl rfl (Nat.le_of_ble_eq_true rfl) ⟨(Nat.le_of_ble_eq_true rfl), (Nat.le_of_ble_eq_true rfl)⟩ ⟨(Nat.le_of_ble_eq_true rfl), (Nat.le_of_ble_eq_true rfl)⟩ ?_
        refine t_X7_oneIf 0 ?_
        refine ev_eqi (w := 0) (by decide) ?_
        refine ev_iret dX7_same_113 rfl rfl ⟨Nat.le_refl _, Nat.le_refl _⟩ ?_
        exact k3 j9 h10 rfl j12 h13 rfl h15 h16 c29 c30
      · refine ev_aload (pc' := 77) dX7_same_75 rfl rfl ?_
        refine ev_callV (pc' := 80) (rm' := rX1_below) (b := 55 + 5 * j9) (av := []) (rest := []) co_X7_167 ci_X1_below cv_X1_below dX7_same_77 rfl (hs_ground j9 (by omega)).1 hb_X1 rfl rfl (Nat.le_of_ble_eq_true rfl) ⟨(Nat.le_of_ble_eq_true rfl), (Nat.le_of_ble_eq_true rfl)⟩ ⟨(Nat.le_of_ble_eq_true rfl), (Nat.le_of_ble_eq_true rfl)⟩ ?_
        refine t_X1_below (55 + 5 * j9) (56 + 5 * j9) (59 + 5 * j9) (hs_ground j9 (by omega)).1 (hs_ground j9 (by omega)).2.2.2.2.2.1 (hs_ground j9 (by omega)).2.2.2.2.2.2.1 (hs_ground j9 (by omega)).2.2.2.2.1 ?_
        refine ev_aload (pc' := 82) dX7_same_80 rfl rfl ?_
        refine ev_callV (pc' := 85) (rm' := rX1_above) (b := 55 + 5 * j12) (av := []) (rest := [.int ((I (59 + 5 * j9)) 2)]) co_X7_164 ci_X1_above cv_X1_above dX7_same_82 rfl (hs_ground j12 (by omega)).1 hb_X1 rfl rfl (Nat.le_of_ble_eq_true rfl) ⟨(Nat.le_of_ble_eq_true rfl), (Nat.le_of_ble_eq_true rfl)⟩ ⟨(Nat.le_of_ble_eq_true rfl), (Nat.le_of_ble_eq_true rfl)⟩ ?_
        refine t_X1_above (55 + 5 * j12) (56 + 5 * j12) (59 + 5 * j12) (hs_ground j12 (by omega)).1 (hs_ground j12 (by omega)).2.2.2.2.2.1 (hs_ground j12 (by omega)).2.2.2.2.2.2.1 (hs_ground j12 (by omega)).2.2.2.2.1 ?_
        refine ev_icmp_ne (tgt := 92) (pc' := 88) dX7_same_85 rfl rfl (fun c31 => ?_) (fun c31 => ?_)
        · refine ev_iconst (pc' := 93) (v := 0) dX7_same_92 rfl ki_0 ?_
          refine ev_istore (pc' := 95) (lv' := [some (.ref 3), some (.int (nI j9)), some (.int (nI j12)), some (.int 0), some (.ref (55 + 5 * j9)), some (.ref (55 + 5 * j12)), some (.int 0), some (.int 0)]) dX7_same_93 rfl (Nat.le_of_ble_eq_true rfl) rfl rfl ?_
          refine ev_iload (pc' := 97) dX7_same_95 rfl rfl ?_
          refine ev_if_ne (tgt := 105) (pc' := 100) dX7_same_97 rfl rfl (fun h => absurd (by decide) h) (fun _ => ?_)
          refine ev_iload (pc' := 102) dX7_same_100 rfl rfl ?_
          refine ev_if_eq (tgt := 109) (pc' := 105) dX7_same_102 rfl rfl (fun _ => ?_) (fun h => absurd (by decide) h)
          refine ev_iconst (pc' := 110) (v := 0) dX7_same_109 rfl ki_0 ?_
          refine ev_callS (pc' := 113) (rm' := rX7_oneIf) (av := [.int 0]) (rest := []) co_X7_160 cs_X7_oneIf dX7_same_110 rfl rfl rfl (Nat.le_of_ble_eq_true rfl) ⟨(Nat.le_of_ble_eq_true rfl), (Nat.le_of_ble_eq_true rfl)⟩ ⟨(Nat.le_of_ble_eq_true rfl), (Nat.le_of_ble_eq_true rfl)⟩ ?_
          refine t_X7_oneIf 0 ?_
          refine ev_eqi (w := 0) (by decide) ?_
          refine ev_iret dX7_same_113 rfl rfl ⟨Nat.le_refl _, Nat.le_refl _⟩ ?_
          exact k4 j9 h10 rfl j12 h13 rfl h15 h16 c29 c30 c31
        · refine ev_iconst (pc' := 89) (v := 1) dX7_same_88 rfl ki_1 ?_
          refine ev_goto (tgt := 93) dX7_same_89 rfl ?_
          refine ev_istore (pc' := 95) (lv' := [some (.ref 3), some (.int (nI j9)), some (.int (nI j12)), some (.int 0), some (.ref (55 + 5 * j9)), some (.ref (55 + 5 * j12)), some (.int 0), some (.int 1)]) dX7_same_93 rfl (Nat.le_of_ble_eq_true rfl) rfl rfl ?_
          refine ev_iload (pc' := 97) dX7_same_95 rfl rfl ?_
          refine ev_if_ne (tgt := 105) (pc' := 100) dX7_same_97 rfl rfl (fun h => absurd (by decide) h) (fun _ => ?_)
          refine ev_iload (pc' := 102) dX7_same_100 rfl rfl ?_
          refine ev_if_eq (tgt := 109) (pc' := 105) dX7_same_102 rfl rfl (fun h => absurd h (by decide)) (fun _ => ?_)
          refine ev_iconst (pc' := 106) (v := 1) dX7_same_105 rfl ki_1 ?_
          refine ev_goto (tgt := 110) dX7_same_106 rfl ?_
          refine ev_callS (pc' := 113) (rm' := rX7_oneIf) (av := [.int 1]) (rest := []) co_X7_160 cs_X7_oneIf dX7_same_110 rfl rfl rfl (Nat.le_of_ble_eq_true rfl) ⟨(Nat.le_of_ble_eq_true rfl), (Nat.le_of_ble_eq_true rfl)⟩ ⟨(Nat.le_of_ble_eq_true rfl), (Nat.le_of_ble_eq_true rfl)⟩ ?_
          refine t_X7_oneIf 1 ?_
          refine ev_eqi (w := 1) (by decide) ?_
          refine ev_iret dX7_same_113 rfl rfl ⟨Nat.le_refl _, Nat.le_refl _⟩ ?_
          exact k5 j9 h10 rfl j12 h13 rfl h15 h16 c29 c30 c31
    · refine ev_aload (pc' := 44) dX7_same_42 rfl rfl ?_
      refine ev_callV (pc' := 47) (rm' := rX1_below) (b := 55 + 5 * j9) (av := []) (rest := []) co_X7_167 ci_X1_below cv_X1_below dX7_same_44 rfl (hs_ground j9 (by omega)).1 hb_X1 rfl rfl (Nat.le_of_ble_eq_true rfl) ⟨(Nat.le_of_ble_eq_true rfl), (Nat.le_of_ble_eq_true rfl)⟩ ⟨(Nat.le_of_ble_eq_true rfl), (Nat.le_of_ble_eq_true rfl)⟩ ?_
      refine t_X1_below (55 + 5 * j9) (56 + 5 * j9) (59 + 5 * j9) (hs_ground j9 (by omega)).1 (hs_ground j9 (by omega)).2.2.2.2.2.1 (hs_ground j9 (by omega)).2.2.2.2.2.2.1 (hs_ground j9 (by omega)).2.2.2.2.1 ?_
      refine ev_aload (pc' := 49) dX7_same_47 rfl rfl ?_
      refine ev_callV (pc' := 52) (rm' := rX1_below) (b := 55 + 5 * j12) (av := []) (rest := [.int ((I (59 + 5 * j9)) 2)]) co_X7_167 ci_X1_below cv_X1_below dX7_same_49 rfl (hs_ground j12 (by omega)).1 hb_X1 rfl rfl (Nat.le_of_ble_eq_true rfl) ⟨(Nat.le_of_ble_eq_true rfl), (Nat.le_of_ble_eq_true rfl)⟩ ⟨(Nat.le_of_ble_eq_true rfl), (Nat.le_of_ble_eq_true rfl)⟩ ?_
      refine t_X1_below (55 + 5 * j12) (56 + 5 * j12) (59 + 5 * j12) (hs_ground j12 (by omega)).1 (hs_ground j12 (by omega)).2.2.2.2.2.1 (hs_ground j12 (by omega)).2.2.2.2.2.2.1 (hs_ground j12 (by omega)).2.2.2.2.1 ?_
      refine ev_icmp_ne (tgt := 59) (pc' := 55) dX7_same_52 rfl rfl (fun c32 => ?_) (fun c32 => ?_)
      · refine ev_iconst (pc' := 60) (v := 0) dX7_same_59 rfl ki_0 ?_
        refine ev_istore (pc' := 62) (lv' := [some (.ref 3), some (.int (nI j9)), some (.int (nI j12)), some (.int 0), some (.ref (55 + 5 * j9)), some (.ref (55 + 5 * j12)), some (.int 0), none]) dX7_same_60 rfl (Nat.le_of_ble_eq_true rfl) rfl rfl ?_
        refine ev_aload (pc' := 64) dX7_same_62 rfl rfl ?_
        refine ev_callV (pc' := 67) (rm' := rX1_above) (b := 55 + 5 * j9) (av := []) (rest := []) co_X7_164 ci_X1_above cv_X1_above dX7_same_64 rfl (hs_ground j9 (by omega)).1 hb_X1 rfl rfl (Nat.le_of_ble_eq_true rfl) ⟨(Nat.le_of_ble_eq_true rfl), (Nat.le_of_ble_eq_true rfl)⟩ ⟨(Nat.le_of_ble_eq_true rfl), (Nat.le_of_ble_eq_true rfl)⟩ ?_
        refine t_X1_above (55 + 5 * j9) (56 + 5 * j9) (59 + 5 * j9) (hs_ground j9 (by omega)).1 (hs_ground j9 (by omega)).2.2.2.2.2.1 (hs_ground j9 (by omega)).2.2.2.2.2.2.1 (hs_ground j9 (by omega)).2.2.2.2.1 ?_
        refine ev_aload (pc' := 69) dX7_same_67 rfl rfl ?_
        refine ev_callV (pc' := 72) (rm' := rX1_below) (b := 55 + 5 * j12) (av := []) (rest := [.int ((I (59 + 5 * j9)) 1)]) co_X7_167 ci_X1_below cv_X1_below dX7_same_69 rfl (hs_ground j12 (by omega)).1 hb_X1 rfl rfl (Nat.le_of_ble_eq_true rfl) ⟨(Nat.le_of_ble_eq_true rfl), (Nat.le_of_ble_eq_true rfl)⟩ ⟨(Nat.le_of_ble_eq_true rfl), (Nat.le_of_ble_eq_true rfl)⟩ ?_
        refine t_X1_below (55 + 5 * j12) (56 + 5 * j12) (59 + 5 * j12) (hs_ground j12 (by omega)).1 (hs_ground j12 (by omega)).2.2.2.2.2.1 (hs_ground j12 (by omega)).2.2.2.2.2.2.1 (hs_ground j12 (by omega)).2.2.2.2.1 ?_
        refine ev_icmp_ne (tgt := 92) (pc' := 75) dX7_same_72 rfl rfl (fun c33 => ?_) (fun c33 => ?_)
        · refine ev_iconst (pc' := 93) (v := 0) dX7_same_92 rfl ki_0 ?_
          refine ev_istore (pc' := 95) (lv' := [some (.ref 3), some (.int (nI j9)), some (.int (nI j12)), some (.int 0), some (.ref (55 + 5 * j9)), some (.ref (55 + 5 * j12)), some (.int 0), some (.int 0)]) dX7_same_93 rfl (Nat.le_of_ble_eq_true rfl) rfl rfl ?_
          refine ev_iload (pc' := 97) dX7_same_95 rfl rfl ?_
          refine ev_if_ne (tgt := 105) (pc' := 100) dX7_same_97 rfl rfl (fun h => absurd (by decide) h) (fun _ => ?_)
          refine ev_iload (pc' := 102) dX7_same_100 rfl rfl ?_
          refine ev_if_eq (tgt := 109) (pc' := 105) dX7_same_102 rfl rfl (fun _ => ?_) (fun h => absurd (by decide) h)
          refine ev_iconst (pc' := 110) (v := 0) dX7_same_109 rfl ki_0 ?_
          refine ev_callS (pc' := 113) (rm' := rX7_oneIf) (av := [.int 0]) (rest := []) co_X7_160 cs_X7_oneIf dX7_same_110 rfl rfl rfl (Nat.le_of_ble_eq_true rfl) ⟨(Nat.le_of_ble_eq_true rfl), (Nat.le_of_ble_eq_true rfl)⟩ ⟨(Nat.le_of_ble_eq_true rfl), (Nat.le_of_ble_eq_true rfl)⟩ ?_
          refine t_X7_oneIf 0 ?_
          refine ev_eqi (w := 0) (by decide) ?_
          refine ev_iret dX7_same_113 rfl rfl ⟨Nat.le_refl _, Nat.le_refl _⟩ ?_
          exact k6 j9 h10 rfl j12 h13 rfl h15 h16 c29 c32 c33
        · refine ev_aload (pc' := 77) dX7_same_75 rfl rfl ?_
          refine ev_callV (pc' := 80) (rm' := rX1_below) (b := 55 + 5 * j9) (av := []) (rest := []) co_X7_167 ci_X1_below cv_X1_below dX7_same_77 rfl (hs_ground j9 (by omega)).1 hb_X1 rfl rfl (Nat.le_of_ble_eq_true rfl) ⟨(Nat.le_of_ble_eq_true rfl), (Nat.le_of_ble_eq_true rfl)⟩ ⟨(Nat.le_of_ble_eq_true rfl), (Nat.le_of_ble_eq_true rfl)⟩ ?_
          refine t_X1_below (55 + 5 * j9) (56 + 5 * j9) (59 + 5 * j9) (hs_ground j9 (by omega)).1 (hs_ground j9 (by omega)).2.2.2.2.2.1 (hs_ground j9 (by omega)).2.2.2.2.2.2.1 (hs_ground j9 (by omega)).2.2.2.2.1 ?_
          refine ev_aload (pc' := 82) dX7_same_80 rfl rfl ?_
          refine ev_callV (pc' := 85) (rm' := rX1_above) (b := 55 + 5 * j12) (av := []) (rest := [.int ((I (59 + 5 * j9)) 2)]) co_X7_164 ci_X1_above cv_X1_above dX7_same_82 rfl (hs_ground j12 (by omega)).1 hb_X1 rfl rfl (Nat.le_of_ble_eq_true rfl) ⟨(Nat.le_of_ble_eq_true rfl), (Nat.le_of_ble_eq_true rfl)⟩ ⟨(Nat.le_of_ble_eq_true rfl), (Nat.le_of_ble_eq_true rfl)⟩ ?_
          refine t_X1_above (55 + 5 * j12) (56 + 5 * j12) (59 + 5 * j12) (hs_ground j12 (by omega)).1 (hs_ground j12 (by omega)).2.2.2.2.2.1 (hs_ground j12 (by omega)).2.2.2.2.2.2.1 (hs_ground j12 (by omega)).2.2.2.2.1 ?_
          refine ev_icmp_ne (tgt := 92) (pc' := 88) dX7_same_85 rfl rfl (fun c34 => ?_) (fun c34 => ?_)
          · refine ev_iconst (pc' := 93) (v := 0) dX7_same_92 rfl ki_0 ?_
            refine ev_istore (pc' := 95) (lv' := [some (.ref 3), some (.int (nI j9)), some (.int (nI j12)), some (.int 0), some (.ref (55 + 5 * j9)), some (.ref (55 + 5 * j12)), some (.int 0), some (.int 0)]) dX7_same_93 rfl (Nat.le_of_ble_eq_true rfl) rfl rfl ?_
            refine ev_iload (pc' := 97) dX7_same_95 rfl rfl ?_
            refine ev_if_ne (tgt := 105) (pc' := 100) dX7_same_97 rfl rfl (fun h => absurd (by decide) h) (fun _ => ?_)
            refine ev_iload (pc' := 102) dX7_same_100 rfl rfl ?_
            refine ev_if_eq (tgt := 109) (pc' := 105) dX7_same_102 rfl rfl (fun _ => ?_) (fun h => absurd (by decide) h)
            refine ev_iconst (pc' := 110) (v := 0) dX7_same_109 rfl ki_0 ?_
            refine ev_callS (pc' := 113) (rm' := rX7_oneIf) (av := [.int 0]) (rest := []) co_X7_160 cs_X7_oneIf dX7_same_110 rfl rfl rfl (Nat.le_of_ble_eq_true rfl) ⟨(Nat.le_of_ble_eq_true rfl), (Nat.le_of_ble_eq_true rfl)⟩ ⟨(Nat.le_of_ble_eq_true rfl), (Nat.le_of_ble_eq_true rfl)⟩ ?_
            refine t_X7_oneIf 0 ?_
            refine ev_eqi (w := 0) (by decide) ?_
            refine ev_iret dX7_same_113 rfl rfl ⟨Nat.le_refl _, Nat.le_refl _⟩ ?_
            exact k7 j9 h10 rfl j12 h13 rfl h15 h16 c29 c32 c33 c34
          · refine ev_iconst (pc' := 89) (v := 1) dX7_same_88 rfl ki_1 ?_
            refine ev_goto (tgt := 93) dX7_same_89 rfl ?_
            refine ev_istore (pc' := 95) (lv' := [some (.ref 3), some (.int (nI j9)), some (.int (nI j12)), some (.int 0), some (.ref (55 + 5 * j9)), some (.ref (55 + 5 * j12)), some (.int 0), some (.int 1)]) dX7_same_93 rfl (Nat.le_of_ble_eq_true rfl) rfl rfl ?_
            refine ev_iload (pc' := 97) dX7_same_95 rfl rfl ?_
            refine ev_if_ne (tgt := 105) (pc' := 100) dX7_same_97 rfl rfl (fun h => absurd (by decide) h) (fun _ => ?_)
            refine ev_iload (pc' := 102) dX7_same_100 rfl rfl ?_
            refine ev_if_eq (tgt := 109) (pc' := 105) dX7_same_102 rfl rfl (fun h => absurd h (by decide)) (fun _ => ?_)
            refine ev_iconst (pc' := 106) (v := 1) dX7_same_105 rfl ki_1 ?_
            refine ev_goto (tgt := 110) dX7_same_106 rfl ?_
            refine ev_callS (pc' := 113) (rm' := rX7_oneIf) (av := [.int 1]) (rest := []) co_X7_160 cs_X7_oneIf dX7_same_110 rfl rfl rfl (Nat.le_of_ble_eq_true rfl) ⟨(Nat.le_of_ble_eq_true rfl), (Nat.le_of_ble_eq_true rfl)⟩ ⟨(Nat.le_of_ble_eq_true rfl), (Nat.le_of_ble_eq_true rfl)⟩ ?_
            refine t_X7_oneIf 1 ?_
            refine ev_eqi (w := 1) (by decide) ?_
            refine ev_iret dX7_same_113 rfl rfl ⟨Nat.le_refl _, Nat.le_refl _⟩ ?_
            exact k8 j9 h10 rfl j12 h13 rfl h15 h16 c29 c32 c33 c34
      · refine ev_iconst (pc' := 56) (v := 1) dX7_same_55 rfl ki_1 ?_
        refine ev_goto (tgt := 60) dX7_same_56 rfl ?_
        refine ev_istore (pc' := 62) (lv' := [some (.ref 3), some (.int (nI j9)), some (.int (nI j12)), some (.int 0), some (.ref (55 + 5 * j9)), some (.ref (55 + 5 * j12)), some (.int 1), none]) dX7_same_60 rfl (Nat.le_of_ble_eq_true rfl) rfl rfl ?_
        refine ev_aload (pc' := 64) dX7_same_62 rfl rfl ?_
        refine ev_callV (pc' := 67) (rm' := rX1_above) (b := 55 + 5 * j9) (av := []) (rest := []) co_X7_164 ci_X1_above cv_X1_above dX7_same_64 rfl (hs_ground j9 (by omega)).1 hb_X1 rfl rfl (Nat.le_of_ble_eq_true rfl) ⟨(Nat.le_of_ble_eq_true rfl), (Nat.le_of_ble_eq_true rfl)⟩ ⟨(Nat.le_of_ble_eq_true rfl), (Nat.le_of_ble_eq_true rfl)⟩ ?_
        refine t_X1_above (55 + 5 * j9) (56 + 5 * j9) (59 + 5 * j9) (hs_ground j9 (by omega)).1 (hs_ground j9 (by omega)).2.2.2.2.2.1 (hs_ground j9 (by omega)).2.2.2.2.2.2.1 (hs_ground j9 (by omega)).2.2.2.2.1 ?_
        refine ev_aload (pc' := 69) dX7_same_67 rfl rfl ?_
        refine ev_callV (pc' := 72) (rm' := rX1_below) (b := 55 + 5 * j12) (av := []) (rest := [.int ((I (59 + 5 * j9)) 1)]) co_X7_167 ci_X1_below cv_X1_below dX7_same_69 rfl (hs_ground j12 (by omega)).1 hb_X1 rfl rfl (Nat.le_of_ble_eq_true rfl) ⟨(Nat.le_of_ble_eq_true rfl), (Nat.le_of_ble_eq_true rfl)⟩ ⟨(Nat.le_of_ble_eq_true rfl), (Nat.le_of_ble_eq_true rfl)⟩ ?_
        refine t_X1_below (55 + 5 * j12) (56 + 5 * j12) (59 + 5 * j12) (hs_ground j12 (by omega)).1 (hs_ground j12 (by omega)).2.2.2.2.2.1 (hs_ground j12 (by omega)).2.2.2.2.2.2.1 (hs_ground j12 (by omega)).2.2.2.2.1 ?_
        refine ev_icmp_ne (tgt := 92) (pc' := 75) dX7_same_72 rfl rfl (fun c35 => ?_) (fun c35 => ?_)
        · refine ev_iconst (pc' := 93) (v := 0) dX7_same_92 rfl ki_0 ?_
          refine ev_istore (pc' := 95) (lv' := [some (.ref 3), some (.int (nI j9)), some (.int (nI j12)), some (.int 0), some (.ref (55 + 5 * j9)), some (.ref (55 + 5 * j12)), some (.int 1), some (.int 0)]) dX7_same_93 rfl (Nat.le_of_ble_eq_true rfl) rfl rfl ?_
          refine ev_iload (pc' := 97) dX7_same_95 rfl rfl ?_
          refine ev_if_ne (tgt := 105) (pc' := 100) dX7_same_97 rfl rfl (fun _ => ?_) (fun h => absurd h (by decide))
          refine ev_iconst (pc' := 106) (v := 1) dX7_same_105 rfl ki_1 ?_
          refine ev_goto (tgt := 110) dX7_same_106 rfl ?_
          refine ev_callS (pc' := 113) (rm' := rX7_oneIf) (av := [.int 1]) (rest := []) co_X7_160 cs_X7_oneIf dX7_same_110 rfl rfl rfl (Nat.le_of_ble_eq_true rfl) ⟨(Nat.le_of_ble_eq_true rfl), (Nat.le_of_ble_eq_true rfl)⟩ ⟨(Nat.le_of_ble_eq_true rfl), (Nat.le_of_ble_eq_true rfl)⟩ ?_
          refine t_X7_oneIf 1 ?_
          refine ev_eqi (w := 1) (by decide) ?_
          refine ev_iret dX7_same_113 rfl rfl ⟨Nat.le_refl _, Nat.le_refl _⟩ ?_
          exact k9 j9 h10 rfl j12 h13 rfl h15 h16 c29 c32 c35
        · refine ev_aload (pc' := 77) dX7_same_75 rfl rfl ?_
          refine ev_callV (pc' := 80) (rm' := rX1_below) (b := 55 + 5 * j9) (av := []) (rest := []) co_X7_167 ci_X1_below cv_X1_below dX7_same_77 rfl (hs_ground j9 (by omega)).1 hb_X1 rfl rfl (Nat.le_of_ble_eq_true rfl) ⟨(Nat.le_of_ble_eq_true rfl), (Nat.le_of_ble_eq_true rfl)⟩ ⟨(Nat.le_of_ble_eq_true rfl), (Nat.le_of_ble_eq_true rfl)⟩ ?_
          refine t_X1_below (55 + 5 * j9) (56 + 5 * j9) (59 + 5 * j9) (hs_ground j9 (by omega)).1 (hs_ground j9 (by omega)).2.2.2.2.2.1 (hs_ground j9 (by omega)).2.2.2.2.2.2.1 (hs_ground j9 (by omega)).2.2.2.2.1 ?_
          refine ev_aload (pc' := 82) dX7_same_80 rfl rfl ?_
          refine ev_callV (pc' := 85) (rm' := rX1_above) (b := 55 + 5 * j12) (av := []) (rest := [.int ((I (59 + 5 * j9)) 2)]) co_X7_164 ci_X1_above cv_X1_above dX7_same_82 rfl (hs_ground j12 (by omega)).1 hb_X1 rfl rfl (Nat.le_of_ble_eq_true rfl) ⟨(Nat.le_of_ble_eq_true rfl), (Nat.le_of_ble_eq_true rfl)⟩ ⟨(Nat.le_of_ble_eq_true rfl), (Nat.le_of_ble_eq_true rfl)⟩ ?_
          refine t_X1_above (55 + 5 * j12) (56 + 5 * j12) (59 + 5 * j12) (hs_ground j12 (by omega)).1 (hs_ground j12 (by omega)).2.2.2.2.2.1 (hs_ground j12 (by omega)).2.2.2.2.2.2.1 (hs_ground j12 (by omega)).2.2.2.2.1 ?_
          refine ev_icmp_ne (tgt := 92) (pc' := 88) dX7_same_85 rfl rfl (fun c36 => ?_) (fun c36 => ?_)
          · refine ev_iconst (pc' := 93) (v := 0) dX7_same_92 rfl ki_0 ?_
            refine ev_istore (pc' := 95) (lv' := [some (.ref 3), some (.int (nI j9)), some (.int (nI j12)), some (.int 0), some (.ref (55 + 5 * j9)), some (.ref (55 + 5 * j12)), some (.int 1), some (.int 0)]) dX7_same_93 rfl (Nat.le_of_ble_eq_true rfl) rfl rfl ?_
            refine ev_iload (pc' := 97) dX7_same_95 rfl rfl ?_
            refine ev_if_ne (tgt := 105) (pc' := 100) dX7_same_97 rfl rfl (fun _ => ?_) (fun h => absurd h (by decide))
            refine ev_iconst (pc' := 106) (v := 1) dX7_same_105 rfl ki_1 ?_
            refine ev_goto (tgt := 110) dX7_same_106 rfl ?_
            refine ev_callS (pc' := 113) (rm' := rX7_oneIf) (av := [.int 1]) (rest := []) co_X7_160 cs_X7_oneIf dX7_same_110 rfl rfl rfl (Nat.le_of_ble_eq_true rfl) ⟨(Nat.le_of_ble_eq_true rfl), (Nat.le_of_ble_eq_true rfl)⟩ ⟨(Nat.le_of_ble_eq_true rfl), (Nat.le_of_ble_eq_true rfl)⟩ ?_
            refine t_X7_oneIf 1 ?_
            refine ev_eqi (w := 1) (by decide) ?_
            refine ev_iret dX7_same_113 rfl rfl ⟨Nat.le_refl _, Nat.le_refl _⟩ ?_
            exact k10 j9 h10 rfl j12 h13 rfl h15 h16 c29 c32 c35 c36
          · refine ev_iconst (pc' := 89) (v := 1) dX7_same_88 rfl ki_1 ?_
            refine ev_goto (tgt := 93) dX7_same_89 rfl ?_
            refine ev_istore (pc' := 95) (lv' := [some (.ref 3), some (.int (nI j9)), some (.int (nI j12)), some (.int 0), some (.ref (55 + 5 * j9)), some (.ref (55 + 5 * j12)), some (.int 1), some (.int 1)]) dX7_same_93 rfl (Nat.le_of_ble_eq_true rfl) rfl rfl ?_
            refine ev_iload (pc' := 97) dX7_same_95 rfl rfl ?_
            refine ev_if_ne (tgt := 105) (pc' := 100) dX7_same_97 rfl rfl (fun _ => ?_) (fun h => absurd h (by decide))
            refine ev_iconst (pc' := 106) (v := 1) dX7_same_105 rfl ki_1 ?_
            refine ev_goto (tgt := 110) dX7_same_106 rfl ?_
            refine ev_callS (pc' := 113) (rm' := rX7_oneIf) (av := [.int 1]) (rest := []) co_X7_160 cs_X7_oneIf dX7_same_110 rfl rfl rfl (Nat.le_of_ble_eq_true rfl) ⟨(Nat.le_of_ble_eq_true rfl), (Nat.le_of_ble_eq_true rfl)⟩ ⟨(Nat.le_of_ble_eq_true rfl), (Nat.le_of_ble_eq_true rfl)⟩ ?_
            refine t_X7_oneIf 1 ?_
            refine ev_eqi (w := 1) (by decide) ?_
            refine ev_iret dX7_same_113 rfl rfl ⟨Nat.le_refl _, Nat.le_refl _⟩ ?_
            exact k11 j9 h10 rfl j12 h13 rfl h15 h16 c29 c32 c35 c36
  · subst e19
    subst e22
    refine ev_istore_n (pc' := 7) (i := 3) (lv' := [some (.ref 3), some (.int (nI j17)), some (.int (nI j20)), some (.int (-3)), none, none, none, none]) dX7_same_6 rfl rfl (Nat.le_of_ble_eq_true rfl) rfl rfl ?_
    refine ev_iload_n (pc' := 8) (i := 3) dX7_same_7 rfl rfl rfl ?_
    refine ev_if_eq (tgt := 13) (pc' := 11) dX7_same_8 rfl rfl (fun h => absurd h (by decide)) (fun _ => ?_)
    refine ev_iload_n (pc' := 12) (i := 3) dX7_same_11 rfl rfl rfl ?_
    refine ev_iret dX7_same_12 rfl rfl ⟨Nat.le_refl _, Nat.le_refl _⟩ ?_
    exact k12 j17 h18 rfl j20 h21 rfl h23 h24
  · subst e27
    refine ev_istore_n (pc' := 7) (i := 3) (lv' := [some (.ref 3), some (.int (nI j25)), some (.int r), some (.int (-1)), none, none, none, none]) dX7_same_6 rfl rfl (Nat.le_of_ble_eq_true rfl) rfl rfl ?_
    refine ev_iload_n (pc' := 8) (i := 3) dX7_same_7 rfl rfl rfl ?_
    refine ev_if_eq (tgt := 13) (pc' := 11) dX7_same_8 rfl rfl (fun h => absurd h (by decide)) (fun _ => ?_)
    refine ev_iload_n (pc' := 12) (i := 3) dX7_same_11 rfl rfl rfl ?_
    refine ev_iret dX7_same_12 rfl rfl ⟨Nat.le_refl _, Nat.le_refl _⟩ ?_
    exact k13 j25 h26 rfl h28
set_option maxRecDepth 4000 in
theorem t_X7_alike {g : ma_G} {Post : ma_P} {I : ma_I} {L : ma_L}  (q : Int32) (r : Int32)  (k1 : ((q < 0) ∨ (¬ q < 12)) → Post (some (.int (-1))) HS I L RF 146) (k2 : ∀ j2 : Nat, (j2 < 12) → q = nI j2 → ∀ j5 : Nat, (j5 < 12) → r = nI j5 → (((I (55 + 5 * j2)) 0) = 0) → Post (some (.int (-3))) HS (cRf I 1) L RF 146) (k3 : ∀ j9 : Nat, (j9 < 12) → q = nI j9 → ∀ j12 : Nat, (j12 < 12) → r = nI j12 → (¬ ((I (55 + 5 * j9)) 0) = 0) → (¬ ((I (55 + 5 * j12)) 0) = 0) → (¬ ((I (59 + 5 * j9)) 9) = ((I (59 + 5 * j12)) 9)) → Post (some (.int 0)) HS I L RF 146) (k4 : ∀ j9 : Nat, (j9 < 12) → q = nI j9 → ∀ j12 : Nat, (j12 < 12) → r = nI j12 → (¬ ((I (55 + 5 * j9)) 0) = 0) → (¬ ((I (55 + 5 * j12)) 0) = 0) → (((I (59 + 5 * j9)) 9) = ((I (59 + 5 * j12)) 9)) → Post (some (.int 1)) HS I L RF 146) (k5 : ∀ j17 : Nat, (j17 < 12) → q = nI j17 → ∀ j20 : Nat, (j20 < 12) → r = nI j20 → (¬ ((I (55 + 5 * j17)) 0) = 0) → (((I (55 + 5 * j20)) 0) = 0) → Post (some (.int (-3))) HS (cRf I 1) L RF 146) (k6 : ∀ j25 : Nat, (j25 < 12) → q = nI j25 → ((r < 0) ∨ (¬ r < 12)) → Post (some (.int (-1))) HS I L RF 146) : CT g yX7_alike cX7_alike 4 (some .int) rX7_alike [.ref 3, .int q, .int r] Post HS I L RF 146 := by
  refine ct_of (lv := [some (.ref 3), some (.int q), some (.int r), none]) (by decide) (Nat.le_of_ble_eq_true rfl) rfl ?_
  refine ev_aload_n (pc' := 1) (i := 0) dX7_alike_0 rfl rfl rfl ?_
  refine ev_iload_n (pc' := 2) (i := 1) dX7_alike_1 rfl rfl rfl ?_
  refine ev_iload_n (pc' := 3) (i := 2) dX7_alike_2 rfl rfl rfl ?_
  refine ev_callV (pc' := 6) (rm' := rX7_refusedPair) (b := 3) (av := [.int q, .int r]) (rest := []) co_X7_196 ci_X7_refusedPair cv_X7_refusedPair dX7_alike_3 rfl hs_3 hb_X7 rfl rfl (Nat.le_of_ble_eq_true rfl) ⟨(Nat.le_of_ble_eq_true rfl), (Nat.le_of_ble_eq_true rfl)⟩ ⟨(Nat.le_of_ble_eq_true rfl), (Nat.le_of_ble_eq_true rfl)⟩ ?_
  refine t_X7_refusedPair q r  (fun h1 => ?_) (fun j2 h3 e4 j5 h6 e7 h8 => ?_) (fun j9 h10 e11 j12 h13 e14 h15 h16 => ?_) (fun j17 h18 e19 j20 h21 e22 h23 h24 => ?_) (fun j25 h26 e27 h28 => ?_)
  · skip
    refine ev_istore_n (pc' := 7) (i := 3) (lv' := [some (.ref 3), some (.int q), some (.int r), some (.int (-1))]) dX7_alike_6 rfl rfl (Nat.le_of_ble_eq_true rfl) rfl rfl ?_
    refine ev_iload_n (pc' := 8) (i := 3) dX7_alike_7 rfl rfl rfl ?_
    refine ev_if_eq (tgt := 13) (pc' := 11) dX7_alike_8 rfl rfl (fun h => absurd h (by decide)) (fun _ => ?_)
    refine ev_iload_n (pc' := 12) (i := 3) dX7_alike_11 rfl rfl rfl ?_
    refine ev_iret dX7_alike_12 rfl rfl ⟨Nat.le_refl _, Nat.le_refl _⟩ ?_
    exact k1 h1
  · subst e4
    subst e7
    refine ev_istore_n (pc' := 7) (i := 3) (lv' := [some (.ref 3), some (.int (nI j2)), some (.int (nI j5)), some (.int (-3))]) dX7_alike_6 rfl rfl (Nat.le_of_ble_eq_true rfl) rfl rfl ?_
    refine ev_iload_n (pc' := 8) (i := 3) dX7_alike_7 rfl rfl rfl ?_
    refine ev_if_eq (tgt := 13) (pc' := 11) dX7_alike_8 rfl rfl (fun h => absurd h (by decide)) (fun _ => ?_)
    refine ev_iload_n (pc' := 12) (i := 3) dX7_alike_11 rfl rfl rfl ?_
    refine ev_iret dX7_alike_12 rfl rfl ⟨Nat.le_refl _, Nat.le_refl _⟩ ?_
    exact k2 j2 h3 rfl j5 h6 rfl h8
  · subst e11
    subst e14
    refine ev_istore_n (pc' := 7) (i := 3) (lv' := [some (.ref 3), some (.int (nI j9)), some (.int (nI j12)), some (.int 0)]) dX7_alike_6 rfl rfl (Nat.le_of_ble_eq_true rfl) rfl rfl ?_
    refine ev_iload_n (pc' := 8) (i := 3) dX7_alike_7 rfl rfl rfl ?_
    refine ev_if_eq (tgt := 13) (pc' := 11) dX7_alike_8 rfl rfl (fun _ => ?_) (fun h => absurd (by decide) h)
    refine ev_aload_n (pc' := 14) (i := 0) dX7_alike_13 rfl rfl rfl ?_
    refine ev_getR (pc' := 17) fo_X7_17 dX7_alike_14 rfl hs_3 rfl rf_3_1 ?_
    refine ev_iload_n (pc' := 18) (i := 1) dX7_alike_17 rfl rfl rfl ?_
    refine ev_aald (pc' := 19) (j := j9) (b := 55 + 5 * j9) dX7_alike_18 rfl hs_5 (Or.inr rfl) rfl (by omega) (Nat.le_of_ble_eq_true rfl) (hs_ground j9 (by omega)).2.2.2.2.2.2.2.2.2 ?_
    refine ev_callV (pc' := 22) (rm' := rX1_name) (b := 55 + 5 * j9) (av := []) (rest := []) co_X7_200 ci_X1_name cv_X1_name dX7_alike_19 rfl (hs_ground j9 (by omega)).1 hb_X1 rfl rfl (Nat.le_of_ble_eq_true rfl) ⟨(Nat.le_of_ble_eq_true rfl), (Nat.le_of_ble_eq_true rfl)⟩ ⟨(Nat.le_of_ble_eq_true rfl), (Nat.le_of_ble_eq_true rfl)⟩ ?_
    refine t_X1_name (55 + 5 * j9) (56 + 5 * j9) (59 + 5 * j9) (hs_ground j9 (by omega)).1 (hs_ground j9 (by omega)).2.2.2.2.2.1 (hs_ground j9 (by omega)).2.2.2.2.2.2.1 (hs_ground j9 (by omega)).2.2.2.2.1 ?_
    refine ev_aload_n (pc' := 23) (i := 0) dX7_alike_22 rfl rfl rfl ?_
    refine ev_getR (pc' := 26) fo_X7_17 dX7_alike_23 rfl hs_3 rfl rf_3_1 ?_
    refine ev_iload_n (pc' := 27) (i := 2) dX7_alike_26 rfl rfl rfl ?_
    refine ev_aald (pc' := 28) (j := j12) (b := 55 + 5 * j12) dX7_alike_27 rfl hs_5 (Or.inr rfl) rfl (by omega) (Nat.le_of_ble_eq_true rfl) (hs_ground j12 (by omega)).2.2.2.2.2.2.2.2.2 ?_
    refine ev_callV (pc' := 31) (rm' := rX1_name) (b := 55 + 5 * j12) (av := []) (rest := [.int ((I (59 + 5 * j9)) 9)]) co_X7_200 ci_X1_name cv_X1_name dX7_alike_28 rfl (hs_ground j12 (by omega)).1 hb_X1 rfl rfl (Nat.le_of_ble_eq_true rfl) ⟨(Nat.le_of_ble_eq_true rfl), (Nat.le_of_ble_eq_true rfl)⟩ ⟨(Nat.le_of_ble_eq_true rfl), (Nat.le_of_ble_eq_true rfl)⟩ ?_
    refine t_X1_name (55 + 5 * j12) (56 + 5 * j12) (59 + 5 * j12) (hs_ground j12 (by omega)).1 (hs_ground j12 (by omega)).2.2.2.2.2.1 (hs_ground j12 (by omega)).2.2.2.2.2.2.1 (hs_ground j12 (by omega)).2.2.2.2.1 ?_
    refine ev_icmp_ne (tgt := 38) (pc' := 34) dX7_alike_31 rfl rfl (fun c29 => ?_) (fun c29 => ?_)
    · refine ev_iconst (pc' := 39) (v := 0) dX7_alike_38 rfl ki_0 ?_
      refine ev_callS (pc' := 42) (rm' := rX7_oneIf) (av := [.int 0]) (rest := []) co_X7_160 cs_X7_oneIf dX7_alike_39 rfl rfl rfl (Nat.le_of_ble_eq_true rfl) ⟨(Nat.le_of_ble_eq_true rfl), (Nat.le_of_ble_eq_true rfl)⟩ ⟨(Nat.le_of_ble_eq_true rfl), (Nat.le_of_ble_eq_true rfl)⟩ ?_
      refine t_X7_oneIf 0 ?_
      refine ev_eqi (w := 0) (by decide) ?_
      refine ev_iret dX7_alike_42 rfl rfl ⟨Nat.le_refl _, Nat.le_refl _⟩ ?_
      exact k3 j9 h10 rfl j12 h13 rfl h15 h16 c29
    · refine ev_iconst (pc' := 35) (v := 1) dX7_alike_34 rfl ki_1 ?_
      refine ev_goto (tgt := 39) dX7_alike_35 rfl ?_
      refine ev_callS (pc' := 42) (rm' := rX7_oneIf) (av := [.int 1]) (rest := []) co_X7_160 cs_X7_oneIf dX7_alike_39 rfl rfl rfl (Nat.le_of_ble_eq_true rfl) ⟨(Nat.le_of_ble_eq_true rfl), (Nat.le_of_ble_eq_true rfl)⟩ ⟨(Nat.le_of_ble_eq_true rfl), (Nat.le_of_ble_eq_true rfl)⟩ ?_
      refine t_X7_oneIf 1 ?_
      refine ev_eqi (w := 1) (by decide) ?_
      refine ev_iret dX7_alike_42 rfl rfl ⟨Nat.le_refl _, Nat.le_refl _⟩ ?_
      exact k4 j9 h10 rfl j12 h13 rfl h15 h16 c29
  · subst e19
    subst e22
    refine ev_istore_n (pc' := 7) (i := 3) (lv' := [some (.ref 3), some (.int (nI j17)), some (.int (nI j20)), some (.int (-3))]) dX7_alike_6 rfl rfl (Nat.le_of_ble_eq_true rfl) rfl rfl ?_
    refine ev_iload_n (pc' := 8) (i := 3) dX7_alike_7 rfl rfl rfl ?_
    refine ev_if_eq (tgt := 13) (pc' := 11) dX7_alike_8 rfl rfl (fun h => absurd h (by decide)) (fun _ => ?_)
    refine ev_iload_n (pc' := 12) (i := 3) dX7_alike_11 rfl rfl rfl ?_
    refine ev_iret dX7_alike_12 rfl rfl ⟨Nat.le_refl _, Nat.le_refl _⟩ ?_
    exact k5 j17 h18 rfl j20 h21 rfl h23 h24
  · subst e27
    refine ev_istore_n (pc' := 7) (i := 3) (lv' := [some (.ref 3), some (.int (nI j25)), some (.int r), some (.int (-1))]) dX7_alike_6 rfl rfl (Nat.le_of_ble_eq_true rfl) rfl rfl ?_
    refine ev_iload_n (pc' := 8) (i := 3) dX7_alike_7 rfl rfl rfl ?_
    refine ev_if_eq (tgt := 13) (pc' := 11) dX7_alike_8 rfl rfl (fun h => absurd h (by decide)) (fun _ => ?_)
    refine ev_iload_n (pc' := 12) (i := 3) dX7_alike_11 rfl rfl rfl ?_
    refine ev_iret dX7_alike_12 rfl rfl ⟨Nat.le_refl _, Nat.le_refl _⟩ ?_
    exact k6 j25 h26 rfl h28
set_option maxRecDepth 4000 in
theorem t_X7_value {g : ma_G} {Post : ma_P} {I : ma_I} {L : ma_L}  (q : Int32) (s : Int32)  (k1 : ((q < 0) ∨ (¬ q < 12)) → Post (some (.int (-1))) HS I L RF 146) (k2 : ∀ j2 : Nat, (j2 < 12) → q = nI j2 → ∀ j5 : Nat, (j5 < 8) → s = nI j5 → (((I (55 + 5 * j2)) 0) = 0) → Post (some (.int (-3))) HS (cRf I 1) L RF 146) (k3 : ∀ j9 : Nat, (j9 < 12) → q = nI j9 → ∀ j12 : Nat, (j12 < 8) → s = nI j12 → (¬ ((I (55 + 5 * j9)) 0) = 0) → (¬ (¬ 0 ≤ ((I (39 + 2 * j12)) 1))) → (((I (39 + 2 * j12)) 1) < 4) → Post (some (.int (-3))) HS (cRf I 5) L RF 146) (k4 : ∀ j18 : Nat, (j18 < 12) → q = nI j18 → ∀ j21 : Nat, (j21 < 8) → s = nI j21 → (¬ ((I (55 + 5 * j18)) 0) = 0) → (¬ (¬ 0 ≤ ((I (39 + 2 * j21)) 1))) → (¬ ((I (39 + 2 * j21)) 1) < 4) → (4 ≤ ((I (39 + 2 * j21)) 1)) → (mRg (I (40 + 2 * j21)) 4 100) → (mRg (I (40 + 2 * j21)) 4 100) → (¬ (mZr (I (40 + 2 * j21)) 4)) → (¬ (mZr (I (40 + 2 * j21)) 4)) → Post (some (.int 1)) HS (ma_up I 3 (ma_up (I 3) 13 (Int64.toInt32 (cPr ((ma_up (ma_up L 34 (ma_up (ma_up (ma_up (ma_up (L 34) 0 (Int32.toInt64 ((I (40 + 2 * j21)) 0))) 1 (Int32.toInt64 ((I (40 + 2 * j21)) 1))) 2 (Int32.toInt64 ((I (40 + 2 * j21)) 2))) 3 (Int32.toInt64 ((I (40 + 2 * j21)) 3)))) 35 (ma_up (ma_up (ma_up (ma_up (L 35) 0 (Int32.toInt64 ((I (40 + 2 * j21)) 0))) 1 (Int32.toInt64 ((I (40 + 2 * j21)) 1))) 2 (Int32.toInt64 ((I (40 + 2 * j21)) 2))) 3 (Int32.toInt64 ((I (40 + 2 * j21)) 3)))) (57 + 5 * j18)) ((ma_up (ma_up L 34 (ma_up (ma_up (ma_up (ma_up (L 34) 0 (Int32.toInt64 ((I (40 + 2 * j21)) 0))) 1 (Int32.toInt64 ((I (40 + 2 * j21)) 1))) 2 (Int32.toInt64 ((I (40 + 2 * j21)) 2))) 3 (Int32.toInt64 ((I (40 + 2 * j21)) 3)))) 35 (ma_up (ma_up (ma_up (ma_up (L 35) 0 (Int32.toInt64 ((I (40 + 2 * j21)) 0))) 1 (Int32.toInt64 ((I (40 + 2 * j21)) 1))) 2 (Int32.toInt64 ((I (40 + 2 * j21)) 2))) 3 (Int32.toInt64 ((I (40 + 2 * j21)) 3)))) 34) ((ma_up (ma_up L 34 (ma_up (ma_up (ma_up (ma_up (L 34) 0 (Int32.toInt64 ((I (40 + 2 * j21)) 0))) 1 (Int32.toInt64 ((I (40 + 2 * j21)) 1))) 2 (Int32.toInt64 ((I (40 + 2 * j21)) 2))) 3 (Int32.toInt64 ((I (40 + 2 * j21)) 3)))) 35 (ma_up (ma_up (ma_up (ma_up (L 35) 0 (Int32.toInt64 ((I (40 + 2 * j21)) 0))) 1 (Int32.toInt64 ((I (40 + 2 * j21)) 1))) 2 (Int32.toInt64 ((I (40 + 2 * j21)) 2))) 3 (Int32.toInt64 ((I (40 + 2 * j21)) 3)))) 34))))) (ma_up (ma_up L 34 (ma_up (ma_up (ma_up (ma_up (L 34) 0 (Int32.toInt64 ((I (40 + 2 * j21)) 0))) 1 (Int32.toInt64 ((I (40 + 2 * j21)) 1))) 2 (Int32.toInt64 ((I (40 + 2 * j21)) 2))) 3 (Int32.toInt64 ((I (40 + 2 * j21)) 3)))) 35 (ma_up (ma_up (ma_up (ma_up (L 35) 0 (Int32.toInt64 ((I (40 + 2 * j21)) 0))) 1 (Int32.toInt64 ((I (40 + 2 * j21)) 1))) 2 (Int32.toInt64 ((I (40 + 2 * j21)) 2))) 3 (Int32.toInt64 ((I (40 + 2 * j21)) 3)))) RF 146) (k5 : ∀ j32 : Nat, (j32 < 12) → q = nI j32 → ∀ j35 : Nat, (j35 < 8) → s = nI j35 → (¬ ((I (55 + 5 * j32)) 0) = 0) → (¬ (¬ 0 ≤ ((I (39 + 2 * j35)) 1))) → (¬ ((I (39 + 2 * j35)) 1) < 4) → (4 ≤ ((I (39 + 2 * j35)) 1)) → (mRg (I (40 + 2 * j35)) 4 100) → (mRg (I (40 + 2 * j35)) 4 100) → (¬ (mZr (I (40 + 2 * j35)) 4)) → (mZr (I (40 + 2 * j35)) 4) → Post (some (.int (-3))) HS (cRf I 4) L RF 146) (k6 : ∀ j46 : Nat, (j46 < 12) → q = nI j46 → ∀ j49 : Nat, (j49 < 8) → s = nI j49 → (¬ ((I (55 + 5 * j46)) 0) = 0) → (¬ (¬ 0 ≤ ((I (39 + 2 * j49)) 1))) → (¬ ((I (39 + 2 * j49)) 1) < 4) → (4 ≤ ((I (39 + 2 * j49)) 1)) → (mRg (I (40 + 2 * j49)) 4 100) → (mRg (I (40 + 2 * j49)) 4 100) → (mZr (I (40 + 2 * j49)) 4) → Post (some (.int (-3))) HS (cRf I 4) L RF 146) (k7 : ∀ j59 : Nat, (j59 < 12) → q = nI j59 → ∀ j62 : Nat, (j62 < 8) → s = nI j62 → (¬ ((I (55 + 5 * j59)) 0) = 0) → (¬ (¬ 0 ≤ ((I (39 + 2 * j62)) 1))) → (¬ ((I (39 + 2 * j62)) 1) < 4) → (4 ≤ ((I (39 + 2 * j62)) 1)) → (mRg (I (40 + 2 * j62)) 4 100) → (¬ (mRg (I (40 + 2 * j62)) 4 100)) → Post (some (.int (-3))) HS (cRf I 2) L RF 146) (k8 : ∀ j71 : Nat, (j71 < 12) → q = nI j71 → ∀ j74 : Nat, (j74 < 8) → s = nI j74 → (¬ ((I (55 + 5 * j71)) 0) = 0) → (¬ (¬ 0 ≤ ((I (39 + 2 * j74)) 1))) → (¬ ((I (39 + 2 * j74)) 1) < 4) → (4 ≤ ((I (39 + 2 * j74)) 1)) → (¬ (mRg (I (40 + 2 * j74)) 4 100)) → Post (some (.int (-3))) HS (cRf I 2) L RF 146) (k9 : ∀ j82 : Nat, (j82 < 12) → q = nI j82 → ∀ j85 : Nat, (j85 < 8) → s = nI j85 → (¬ ((I (55 + 5 * j82)) 0) = 0) → (¬ (¬ 0 ≤ ((I (39 + 2 * j85)) 1))) → (¬ ((I (39 + 2 * j85)) 1) < 4) → (¬ 4 ≤ ((I (39 + 2 * j85)) 1)) → Post (some (.int (-3))) HS (cRf I 5) L RF 146) (k10 : ∀ j92 : Nat, (j92 < 12) → q = nI j92 → ∀ j95 : Nat, (j95 < 8) → s = nI j95 → (¬ ((I (55 + 5 * j92)) 0) = 0) → (¬ 0 ≤ ((I (39 + 2 * j95)) 1)) → Post (some (.int (-3))) HS (cRf I 1) L RF 146) (k11 : ∀ j100 : Nat, (j100 < 12) → q = nI j100 → ((s < 0) ∨ (¬ s < 8)) → Post (some (.int (-1))) HS I L RF 146) : CT g yX7_value cX7_value 4 (some .int) rX7_value [.ref 3, .int q, .int s] Post HS I L RF 146 := by
  refine ct_of (lv := [some (.ref 3), some (.int q), some (.int s), none]) (by decide) (Nat.le_of_ble_eq_true rfl) rfl ?_
  refine ev_aload_n (pc' := 1) (i := 0) dX7_value_0 rfl rfl rfl ?_
  refine ev_iload_n (pc' := 2) (i := 1) dX7_value_1 rfl rfl rfl ?_
  refine ev_iload_n (pc' := 3) (i := 2) dX7_value_2 rfl rfl rfl ?_
  refine ev_callV (pc' := 6) (rm' := rX7_refusedAt) (b := 3) (av := [.int q, .int s]) (rest := []) co_X7_203 ci_X7_refusedAt cv_X7_refusedAt dX7_value_3 rfl hs_3 hb_X7 rfl rfl (Nat.le_of_ble_eq_true rfl) ⟨(Nat.le_of_ble_eq_true rfl), (Nat.le_of_ble_eq_true rfl)⟩ ⟨(Nat.le_of_ble_eq_true rfl), (Nat.le_of_ble_eq_true rfl)⟩ ?_
  refine t_X7_refusedAt q s  (fun h1 => ?_) (fun j2 h3 e4 j5 h6 e7 h8 => ?_) (fun j9 h10 e11 j12 h13 e14 h15 h16 h17 => ?_) (fun j18 h19 e20 j21 h22 e23 h24 h25 h26 h27 h28 h29 h30 h31 => ?_) (fun j32 h33 e34 j35 h36 e37 h38 h39 h40 h41 h42 h43 h44 h45 => ?_) (fun j46 h47 e48 j49 h50 e51 h52 h53 h54 h55 h56 h57 h58 => ?_) (fun j59 h60 e61 j62 h63 e64 h65 h66 h67 h68 h69 h70 => ?_) (fun j71 h72 e73 j74 h75 e76 h77 h78 h79 h80 h81 => ?_) (fun j82 h83 e84 j85 h86 e87 h88 h89 h90 h91 => ?_) (fun j92 h93 e94 j95 h96 e97 h98 h99 => ?_) (fun j100 h101 e102 h103 => ?_)
  · skip
    refine ev_istore_n (pc' := 7) (i := 3) (lv' := [some (.ref 3), some (.int q), some (.int s), some (.int (-1))]) dX7_value_6 rfl rfl (Nat.le_of_ble_eq_true rfl) rfl rfl ?_
    refine ev_iload_n (pc' := 8) (i := 3) dX7_value_7 rfl rfl rfl ?_
    refine ev_if_eq (tgt := 13) (pc' := 11) dX7_value_8 rfl rfl (fun h => absurd h (by decide)) (fun _ => ?_)
    refine ev_iload_n (pc' := 12) (i := 3) dX7_value_11 rfl rfl rfl ?_
    refine ev_iret dX7_value_12 rfl rfl ⟨Nat.le_refl _, Nat.le_refl _⟩ ?_
    exact k1 h1
  · subst e4
    subst e7
    refine ev_istore_n (pc' := 7) (i := 3) (lv' := [some (.ref 3), some (.int (nI j2)), some (.int (nI j5)), some (.int (-3))]) dX7_value_6 rfl rfl (Nat.le_of_ble_eq_true rfl) rfl rfl ?_
    refine ev_iload_n (pc' := 8) (i := 3) dX7_value_7 rfl rfl rfl ?_
    refine ev_if_eq (tgt := 13) (pc' := 11) dX7_value_8 rfl rfl (fun h => absurd h (by decide)) (fun _ => ?_)
    refine ev_iload_n (pc' := 12) (i := 3) dX7_value_11 rfl rfl rfl ?_
    refine ev_iret dX7_value_12 rfl rfl ⟨Nat.le_refl _, Nat.le_refl _⟩ ?_
    exact k2 j2 h3 rfl j5 h6 rfl h8
  · subst e11
    subst e14
    refine ev_istore_n (pc' := 7) (i := 3) (lv' := [some (.ref 3), some (.int (nI j9)), some (.int (nI j12)), some (.int (-3))]) dX7_value_6 rfl rfl (Nat.le_of_ble_eq_true rfl) rfl rfl ?_
    refine ev_iload_n (pc' := 8) (i := 3) dX7_value_7 rfl rfl rfl ?_
    refine ev_if_eq (tgt := 13) (pc' := 11) dX7_value_8 rfl rfl (fun h => absurd h (by decide)) (fun _ => ?_)
    refine ev_iload_n (pc' := 12) (i := 3) dX7_value_11 rfl rfl rfl ?_
    refine ev_iret dX7_value_12 rfl rfl ⟨Nat.le_refl _, Nat.le_refl _⟩ ?_
    exact k3 j9 h10 rfl j12 h13 rfl h15 h16 h17
  · subst e20
    subst e23
    refine ev_istore_n (pc' := 7) (i := 3) (lv' := [some (.ref 3), some (.int (nI j18)), some (.int (nI j21)), some (.int 0)]) dX7_value_6 rfl rfl (Nat.le_of_ble_eq_true rfl) rfl rfl ?_
    refine ev_iload_n (pc' := 8) (i := 3) dX7_value_7 rfl rfl rfl ?_
    refine ev_if_eq (tgt := 13) (pc' := 11) dX7_value_8 rfl rfl (fun _ => ?_) (fun h => absurd (by decide) h)
    refine ev_aload_n (pc' := 14) (i := 0) dX7_value_13 rfl rfl rfl ?_
    refine ev_aload_n (pc' := 15) (i := 0) dX7_value_14 rfl rfl rfl ?_
    refine ev_getR (pc' := 18) fo_X7_17 dX7_value_15 rfl hs_3 rfl rf_3_1 ?_
    refine ev_iload_n (pc' := 19) (i := 1) dX7_value_18 rfl rfl rfl ?_
    refine ev_aald (pc' := 20) (j := j18) (b := 55 + 5 * j18) dX7_value_19 rfl hs_5 (Or.inr rfl) rfl (by omega) (Nat.le_of_ble_eq_true rfl) (hs_ground j18 (by omega)).2.2.2.2.2.2.2.2.2 ?_
    refine ev_getR (pc' := 23) fo_X7_141 dX7_value_20 rfl (hs_ground j18 (by omega)).1 rfl (hs_ground j18 (by omega)).2.2.2.2.2.1 ?_
    refine ev_aload_n (pc' := 24) (i := 0) dX7_value_23 rfl rfl rfl ?_
    refine ev_getR (pc' := 27) fo_X7_52 dX7_value_24 rfl hs_3 rfl rf_3_7 ?_
    refine ev_aload_n (pc' := 28) (i := 0) dX7_value_27 rfl rfl rfl ?_
    refine ev_getR (pc' := 31) fo_X7_52 dX7_value_28 rfl hs_3 rfl rf_3_7 ?_
    refine ev_callV (pc' := 34) (rm' := rX4_product) (b := 56 + 5 * j18) (av := [.ref 34, .ref 34]) (rest := [.ref 3]) co_X7_206 ci_X4_product cv_X4_product dX7_value_31 rfl (hs_ground j18 (by omega)).2.1 hb_X4 rfl rfl (Nat.le_of_ble_eq_true rfl) ⟨(Nat.le_of_ble_eq_true rfl), (Nat.le_of_ble_eq_true rfl)⟩ ⟨(Nat.le_of_ble_eq_true rfl), (Nat.le_of_ble_eq_true rfl)⟩ ?_
    refine t_X4_product (56 + 5 * j18) (57 + 5 * j18) (hs_ground j18 (by omega)).2.1 (hs_ground j18 (by omega)).2.2.2.2.2.2.2.1 (hs_ground j18 (by omega)).2.2.1 34 34 hs_34 hs_34 ?_
    refine ev_l2i (pc' := 35) (v := Int64.toInt32 (cPr ((ma_up (ma_up L 34 (ma_up (ma_up (ma_up (ma_up (L 34) 0 (Int32.toInt64 ((I (40 + 2 * j21)) 0))) 1 (Int32.toInt64 ((I (40 + 2 * j21)) 1))) 2 (Int32.toInt64 ((I (40 + 2 * j21)) 2))) 3 (Int32.toInt64 ((I (40 + 2 * j21)) 3)))) 35 (ma_up (ma_up (ma_up (ma_up (L 35) 0 (Int32.toInt64 ((I (40 + 2 * j21)) 0))) 1 (Int32.toInt64 ((I (40 + 2 * j21)) 1))) 2 (Int32.toInt64 ((I (40 + 2 * j21)) 2))) 3 (Int32.toInt64 ((I (40 + 2 * j21)) 3)))) (57 + 5 * j18)) ((ma_up (ma_up L 34 (ma_up (ma_up (ma_up (ma_up (L 34) 0 (Int32.toInt64 ((I (40 + 2 * j21)) 0))) 1 (Int32.toInt64 ((I (40 + 2 * j21)) 1))) 2 (Int32.toInt64 ((I (40 + 2 * j21)) 2))) 3 (Int32.toInt64 ((I (40 + 2 * j21)) 3)))) 35 (ma_up (ma_up (ma_up (ma_up (L 35) 0 (Int32.toInt64 ((I (40 + 2 * j21)) 0))) 1 (Int32.toInt64 ((I (40 + 2 * j21)) 1))) 2 (Int32.toInt64 ((I (40 + 2 * j21)) 2))) 3 (Int32.toInt64 ((I (40 + 2 * j21)) 3)))) 34) ((ma_up (ma_up L 34 (ma_up (ma_up (ma_up (ma_up (L 34) 0 (Int32.toInt64 ((I (40 + 2 * j21)) 0))) 1 (Int32.toInt64 ((I (40 + 2 * j21)) 1))) 2 (Int32.toInt64 ((I (40 + 2 * j21)) 2))) 3 (Int32.toInt64 ((I (40 + 2 * j21)) 3)))) 35 (ma_up (ma_up (ma_up (ma_up (L 35) 0 (Int32.toInt64 ((I (40 + 2 * j21)) 0))) 1 (Int32.toInt64 ((I (40 + 2 * j21)) 1))) 2 (Int32.toInt64 ((I (40 + 2 * j21)) 2))) 3 (Int32.toInt64 ((I (40 + 2 * j21)) 3)))) 34))) dX7_value_34 rfl rfl ?_
    refine ev_putI (pc' := 38) (I' := (ma_up I 3 (ma_up (I 3) 13 (Int64.toInt32 (cPr ((ma_up (ma_up L 34 (ma_up (ma_up (ma_up (ma_up (L 34) 0 (Int32.toInt64 ((I (40 + 2 * j21)) 0))) 1 (Int32.toInt64 ((I (40 + 2 * j21)) 1))) 2 (Int32.toInt64 ((I (40 + 2 * j21)) 2))) 3 (Int32.toInt64 ((I (40 + 2 * j21)) 3)))) 35 (ma_up (ma_up (ma_up (ma_up (L 35) 0 (Int32.toInt64 ((I (40 + 2 * j21)) 0))) 1 (Int32.toInt64 ((I (40 + 2 * j21)) 1))) 2 (Int32.toInt64 ((I (40 + 2 * j21)) 2))) 3 (Int32.toInt64 ((I (40 + 2 * j21)) 3)))) (57 + 5 * j18)) ((ma_up (ma_up L 34 (ma_up (ma_up (ma_up (ma_up (L 34) 0 (Int32.toInt64 ((I (40 + 2 * j21)) 0))) 1 (Int32.toInt64 ((I (40 + 2 * j21)) 1))) 2 (Int32.toInt64 ((I (40 + 2 * j21)) 2))) 3 (Int32.toInt64 ((I (40 + 2 * j21)) 3)))) 35 (ma_up (ma_up (ma_up (ma_up (L 35) 0 (Int32.toInt64 ((I (40 + 2 * j21)) 0))) 1 (Int32.toInt64 ((I (40 + 2 * j21)) 1))) 2 (Int32.toInt64 ((I (40 + 2 * j21)) 2))) 3 (Int32.toInt64 ((I (40 + 2 * j21)) 3)))) 34) ((ma_up (ma_up L 34 (ma_up (ma_up (ma_up (ma_up (L 34) 0 (Int32.toInt64 ((I (40 + 2 * j21)) 0))) 1 (Int32.toInt64 ((I (40 + 2 * j21)) 1))) 2 (Int32.toInt64 ((I (40 + 2 * j21)) 2))) 3 (Int32.toInt64 ((I (40 + 2 * j21)) 3)))) 35 (ma_up (ma_up (ma_up (ma_up (L 35) 0 (Int32.toInt64 ((I (40 + 2 * j21)) 0))) 1 (Int32.toInt64 ((I (40 + 2 * j21)) 1))) 2 (Int32.toInt64 ((I (40 + 2 * j21)) 2))) 3 (Int32.toInt64 ((I (40 + 2 * j21)) 3)))) 34)))))) fo_X7_98 dX7_value_35 rfl hs_3 rfl (fun r hr => by cases hr; rfl) ⟨rfl, rfl⟩ rfl ?_
    refine ev_iconst (pc' := 39) (v := 1) dX7_value_38 rfl ki_1 ?_
    refine ev_iret dX7_value_39 rfl rfl ⟨Nat.le_refl _, Nat.le_refl _⟩ ?_
    exact k4 j18 h19 rfl j21 h22 rfl h24 h25 h26 h27 h28 h29 h30 h31
  · subst e34
    subst e37
    refine ev_istore_n (pc' := 7) (i := 3) (lv' := [some (.ref 3), some (.int (nI j32)), some (.int (nI j35)), some (.int (-3))]) dX7_value_6 rfl rfl (Nat.le_of_ble_eq_true rfl) rfl rfl ?_
    refine ev_iload_n (pc' := 8) (i := 3) dX7_value_7 rfl rfl rfl ?_
    refine ev_if_eq (tgt := 13) (pc' := 11) dX7_value_8 rfl rfl (fun h => absurd h (by decide)) (fun _ => ?_)
    refine ev_iload_n (pc' := 12) (i := 3) dX7_value_11 rfl rfl rfl ?_
    refine ev_iret dX7_value_12 rfl rfl ⟨Nat.le_refl _, Nat.le_refl _⟩ ?_
    exact k5 j32 h33 rfl j35 h36 rfl h38 h39 h40 h41 h42 h43 h44 h45
  · subst e48
    subst e51
    refine ev_istore_n (pc' := 7) (i := 3) (lv' := [some (.ref 3), some (.int (nI j46)), some (.int (nI j49)), some (.int (-3))]) dX7_value_6 rfl rfl (Nat.le_of_ble_eq_true rfl) rfl rfl ?_
    refine ev_iload_n (pc' := 8) (i := 3) dX7_value_7 rfl rfl rfl ?_
    refine ev_if_eq (tgt := 13) (pc' := 11) dX7_value_8 rfl rfl (fun h => absurd h (by decide)) (fun _ => ?_)
    refine ev_iload_n (pc' := 12) (i := 3) dX7_value_11 rfl rfl rfl ?_
    refine ev_iret dX7_value_12 rfl rfl ⟨Nat.le_refl _, Nat.le_refl _⟩ ?_
    exact k6 j46 h47 rfl j49 h50 rfl h52 h53 h54 h55 h56 h57 h58
  · subst e61
    subst e64
    refine ev_istore_n (pc' := 7) (i := 3) (lv' := [some (.ref 3), some (.int (nI j59)), some (.int (nI j62)), some (.int (-3))]) dX7_value_6 rfl rfl (Nat.le_of_ble_eq_true rfl) rfl rfl ?_
    refine ev_iload_n (pc' := 8) (i := 3) dX7_value_7 rfl rfl rfl ?_
    refine ev_if_eq (tgt := 13) (pc' := 11) dX7_value_8 rfl rfl (fun h => absurd h (by decide)) (fun _ => ?_)
    refine ev_iload_n (pc' := 12) (i := 3) dX7_value_11 rfl rfl rfl ?_
    refine ev_iret dX7_value_12 rfl rfl ⟨Nat.le_refl _, Nat.le_refl _⟩ ?_
    exact k7 j59 h60 rfl j62 h63 rfl h65 h66 h67 h68 h69 h70
  · subst e73
    subst e76
    refine ev_istore_n (pc' := 7) (i := 3) (lv' := [some (.ref 3), some (.int (nI j71)), some (.int (nI j74)), some (.int (-3))]) dX7_value_6 rfl rfl (Nat.le_of_ble_eq_true rfl) rfl rfl ?_
    refine ev_iload_n (pc' := 8) (i := 3) dX7_value_7 rfl rfl rfl ?_
    refine ev_if_eq (tgt := 13) (pc' := 11) dX7_value_8 rfl rfl (fun h => absurd h (by decide)) (fun _ => ?_)
    refine ev_iload_n (pc' := 12) (i := 3) dX7_value_11 rfl rfl rfl ?_
    refine ev_iret dX7_value_12 rfl rfl ⟨Nat.le_refl _, Nat.le_refl _⟩ ?_
    exact k8 j71 h72 rfl j74 h75 rfl h77 h78 h79 h80 h81
  · subst e84
    subst e87
    refine ev_istore_n (pc' := 7) (i := 3) (lv' := [some (.ref 3), some (.int (nI j82)), some (.int (nI j85)), some (.int (-3))]) dX7_value_6 rfl rfl (Nat.le_of_ble_eq_true rfl) rfl rfl ?_
    refine ev_iload_n (pc' := 8) (i := 3) dX7_value_7 rfl rfl rfl ?_
    refine ev_if_eq (tgt := 13) (pc' := 11) dX7_value_8 rfl rfl (fun h => absurd h (by decide)) (fun _ => ?_)
    refine ev_iload_n (pc' := 12) (i := 3) dX7_value_11 rfl rfl rfl ?_
    refine ev_iret dX7_value_12 rfl rfl ⟨Nat.le_refl _, Nat.le_refl _⟩ ?_
    exact k9 j82 h83 rfl j85 h86 rfl h88 h89 h90 h91
  · subst e94
    subst e97
    refine ev_istore_n (pc' := 7) (i := 3) (lv' := [some (.ref 3), some (.int (nI j92)), some (.int (nI j95)), some (.int (-3))]) dX7_value_6 rfl rfl (Nat.le_of_ble_eq_true rfl) rfl rfl ?_
    refine ev_iload_n (pc' := 8) (i := 3) dX7_value_7 rfl rfl rfl ?_
    refine ev_if_eq (tgt := 13) (pc' := 11) dX7_value_8 rfl rfl (fun h => absurd h (by decide)) (fun _ => ?_)
    refine ev_iload_n (pc' := 12) (i := 3) dX7_value_11 rfl rfl rfl ?_
    refine ev_iret dX7_value_12 rfl rfl ⟨Nat.le_refl _, Nat.le_refl _⟩ ?_
    exact k10 j92 h93 rfl j95 h96 rfl h98 h99
  · subst e102
    refine ev_istore_n (pc' := 7) (i := 3) (lv' := [some (.ref 3), some (.int (nI j100)), some (.int s), some (.int (-1))]) dX7_value_6 rfl rfl (Nat.le_of_ble_eq_true rfl) rfl rfl ?_
    refine ev_iload_n (pc' := 8) (i := 3) dX7_value_7 rfl rfl rfl ?_
    refine ev_if_eq (tgt := 13) (pc' := 11) dX7_value_8 rfl rfl (fun h => absurd h (by decide)) (fun _ => ?_)
    refine ev_iload_n (pc' := 12) (i := 3) dX7_value_11 rfl rfl rfl ?_
    refine ev_iret dX7_value_12 rfl rfl ⟨Nat.le_refl _, Nat.le_refl _⟩ ?_
    exact k11 j100 h101 rfl h103
