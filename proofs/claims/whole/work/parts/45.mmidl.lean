def mMd (T : Nat → Int32) (i : Nat) : Int64 := ((((if ¬ 0 = (nI i) then (Int32.toInt64 (T 0)) else (Int32.toInt64 (-(T 3)))) * (((if ¬ 1 = (nI i) then (Int32.toInt64 (T 5)) else (Int32.toInt64 (-(T 7)))) * (if ¬ 2 = (nI i) then (Int32.toInt64 (T 10)) else (Int32.toInt64 (-(T 11))))) - ((if ¬ 2 = (nI i) then (Int32.toInt64 (T 6)) else (Int32.toInt64 (-(T 7)))) * (if ¬ 1 = (nI i) then (Int32.toInt64 (T 9)) else (Int32.toInt64 (-(T 11))))))) - ((if ¬ 1 = (nI i) then (Int32.toInt64 (T 1)) else (Int32.toInt64 (-(T 3)))) * (((if ¬ 0 = (nI i) then (Int32.toInt64 (T 4)) else (Int32.toInt64 (-(T 7)))) * (if ¬ 2 = (nI i) then (Int32.toInt64 (T 10)) else (Int32.toInt64 (-(T 11))))) - ((if ¬ 2 = (nI i) then (Int32.toInt64 (T 6)) else (Int32.toInt64 (-(T 7)))) * (if ¬ 0 = (nI i) then (Int32.toInt64 (T 8)) else (Int32.toInt64 (-(T 11)))))))) + ((if ¬ 2 = (nI i) then (Int32.toInt64 (T 2)) else (Int32.toInt64 (-(T 3)))) * (((if ¬ 0 = (nI i) then (Int32.toInt64 (T 4)) else (Int32.toInt64 (-(T 7)))) * (if ¬ 1 = (nI i) then (Int32.toInt64 (T 9)) else (Int32.toInt64 (-(T 11))))) - ((if ¬ 1 = (nI i) then (Int32.toInt64 (T 5)) else (Int32.toInt64 (-(T 7)))) * (if ¬ 0 = (nI i) then (Int32.toInt64 (T 8)) else (Int32.toInt64 (-(T 11))))))))
set_option maxRecDepth 4000 in
theorem t_X8_middle {g : ma_G} {Post : ma_P} {I : ma_I} {L : ma_L}  (q : Int32) (i : Int32) (hU : ∀ q i, q < 12 → i < 3 → (mMd (fun k => I 123 (16 * q + k)) i).toInt ≠ -9223372036854775808) (k1 : ∀ n2 : Nat, (n2 < 3) → i = nI n2 → ∀ j3 : Nat, (j3 < 12) → q = nI j3 → (((I 122) j3) = 0) → Post (some (.int (-3))) HS (mMt I 1) L RF 146) (k2 : ∀ n2 : Nat, (n2 < 3) → i = nI n2 → ∀ j7 : Nat, (j7 < 12) → q = nI j7 → (¬ ((I 122) j7) = 0) → (¬ (Int32.toInt64 ((I 124) ((10 * j7) + 8))) = 0) → ∀ K13 : ma_L, (∀ j, j < 16 → K13 120 j = (I 123 (16 * j7 + j)).toInt64) → (mSl [120] L K13) → ∀ r52 : Nat → Int64, (0 ≤ (Int32.toInt64 ((I 124) ((10 * j7) + 8)))) → Post (some (.int 1)) HS I (ma_up (ma_up K13 120 r52) 115 (ma_up (ma_up ((ma_up K13 120 r52) 115) 3 ((mMd (fun k => I 123 (16 * j7 + k)) n2) / (lN (Nat.gcd (mMd (fun k => I 123 (16 * j7 + k)) n2).toInt.natAbs (Int32.toInt64 ((I 124) ((10 * j7) + 8))).toInt.natAbs)))) 4 ((Int32.toInt64 ((I 124) ((10 * j7) + 8))) / (lN (Nat.gcd (mMd (fun k => I 123 (16 * j7 + k)) n2).toInt.natAbs (Int32.toInt64 ((I 124) ((10 * j7) + 8))).toInt.natAbs))))) RF 146) (k3 : ∀ n2 : Nat, (n2 < 3) → i = nI n2 → ∀ j7 : Nat, (j7 < 12) → q = nI j7 → (¬ ((I 122) j7) = 0) → (¬ (Int32.toInt64 ((I 124) ((10 * j7) + 8))) = 0) → ∀ K13 : ma_L, (∀ j, j < 16 → K13 120 j = (I 123 (16 * j7 + j)).toInt64) → (mSl [120] L K13) → ∀ r52 : Nat → Int64, (¬ 0 ≤ (Int32.toInt64 ((I 124) ((10 * j7) + 8)))) → Post (some (.int 1)) HS I (ma_up (ma_up K13 120 r52) 115 (ma_up (ma_up ((ma_up K13 120 r52) 115) 3 ((mMd (fun k => I 123 (16 * j7 + k)) n2) / (-(lN (Nat.gcd (mMd (fun k => I 123 (16 * j7 + k)) n2).toInt.natAbs (Int32.toInt64 ((I 124) ((10 * j7) + 8))).toInt.natAbs))))) 4 ((Int32.toInt64 ((I 124) ((10 * j7) + 8))) / (-(lN (Nat.gcd (mMd (fun k => I 123 (16 * j7 + k)) n2).toInt.natAbs (Int32.toInt64 ((I 124) ((10 * j7) + 8))).toInt.natAbs)))))) RF 146) (k4 : ∀ n2 : Nat, (n2 < 3) → i = nI n2 → ∀ j7 : Nat, (j7 < 12) → q = nI j7 → (¬ ((I 122) j7) = 0) → ((Int32.toInt64 ((I 124) ((10 * j7) + 8))) = 0) → Post (some (.int (-3))) HS (mMt I 4) L RF 146) (k5 : ∀ n2 : Nat, (n2 < 3) → i = nI n2 → (¬ ((¬ q < 0) ∧ (¬ 11 < q))) → Post (some (.int (-1))) HS I L RF 146) (k6 : (¬ ((¬ i < 0) ∧ (¬ 2 < i))) → Post (some (.int (-1))) HS I L RF 146) : CT g yX8_middle cX8_middle 8 (some .int) rX8_middle [.ref 115, .int q, .int i] Post HS I L RF 146 := by
  refine ct_of (lv := [some (.ref 115), some (.int q), some (.int i), none, none, none, none, none]) (by decide) (Nat.le_of_ble_eq_true rfl) rfl ?_
  refine ev_iload_n (pc' := 1) (i := 2) dX8_middle_0 rfl rfl rfl ?_
  refine ev_iconst (pc' := 2) (v := 0) dX8_middle_1 rfl ki_0 ?_
  refine ev_iconst (pc' := 3) (v := 2) dX8_middle_2 rfl ki_2 ?_
  refine ev_callS (pc' := 6) (rm' := rX8_in) (av := [.int i, .int 0, .int 2]) (rest := []) co_X8_133 cs_X8_in dX8_middle_3 rfl rfl rfl (Nat.le_of_ble_eq_true rfl) ⟨(Nat.le_of_ble_eq_true rfl), (Nat.le_of_ble_eq_true rfl)⟩ ⟨(Nat.le_of_ble_eq_true rfl), (Nat.le_of_ble_eq_true rfl)⟩ ?_
  refine t_X8_in i 0 2  ?_
  refine ev_if_ne_b (tgt := 11) (pc' := 9) dX8_middle_6 rfl rfl (fun c1 => ?_) (fun c1 => ?_)
  · obtain ⟨n2, hn2, en2⟩ := in_of (n := 2) (by omega) rfl c1
    subst en2
    refine ev_aload_n (pc' := 12) (i := 0) dX8_middle_11 rfl rfl rfl ?_
    refine ev_iload_n (pc' := 13) (i := 1) dX8_middle_12 rfl rfl rfl ?_
    refine ev_callV (pc' := 16) (rm' := rX8_askedFor) (b := 115) (av := [.int q]) (rest := []) co_X8_210 ci_X8_askedFor cv_X8_askedFor dX8_middle_13 rfl hs_115 hb_X8 rfl rfl (Nat.le_of_ble_eq_true rfl) ⟨(Nat.le_of_ble_eq_true rfl), (Nat.le_of_ble_eq_true rfl)⟩ ⟨(Nat.le_of_ble_eq_true rfl), (Nat.le_of_ble_eq_true rfl)⟩ ?_
    refine t_X8_askedFor q  (fun j3 h4 e5 h6 => ?_) (fun j7 h8 e9 h10 => ?_) (fun h11 => ?_)
    · subst e5
      refine ev_istore_n (pc' := 17) (i := 3) (lv' := [some (.ref 115), some (.int (nI j3)), some (.int (nI n2)), some (.int (-3)), none, none, none, none]) dX8_middle_16 rfl rfl (Nat.le_of_ble_eq_true rfl) rfl rfl ?_
      refine ev_iload_n (pc' := 18) (i := 3) dX8_middle_17 rfl rfl rfl ?_
      refine ev_if_ge (tgt := 23) (pc' := 21) dX8_middle_18 rfl rfl (fun h => absurd h (by decide)) (fun _ => ?_)
      refine ev_iload_n (pc' := 22) (i := 3) dX8_middle_21 rfl rfl rfl ?_
      refine ev_iret dX8_middle_22 rfl rfl ⟨Nat.le_refl _, Nat.le_refl _⟩ ?_
      exact k1 n2 hn2 rfl j3 h4 rfl h6
    · subst e9
      refine ev_istore_n (pc' := 17) (i := 3) (lv' := [some (.ref 115), some (.int (nI j7)), some (.int (nI n2)), some (.int 0), none, none, none, none]) dX8_middle_16 rfl rfl (Nat.le_of_ble_eq_true rfl) rfl rfl ?_
      refine ev_iload_n (pc' := 18) (i := 3) dX8_middle_17 rfl rfl rfl ?_
      refine ev_if_ge (tgt := 23) (pc' := 21) dX8_middle_18 rfl rfl (fun _ => ?_) (fun h => absurd (by decide) h)
      refine ev_aload_n (pc' := 24) (i := 0) dX8_middle_23 rfl rfl rfl ?_
      refine ev_getR (pc' := 27) fo_X8_40 dX8_middle_24 rfl hs_115 rfl rf_115_14 ?_
      refine ev_bipush (pc' := 29) (v := 10) dX8_middle_27 rfl kb_10 ?_
      refine ev_iload_n (pc' := 30) (i := 1) dX8_middle_29 rfl rfl rfl ?_
      refine ev_imul (pc' := 31) (v := nI (10 * j7)) dX8_middle_30 rfl (pk_mul 10 j7) ?_
      refine ev_bipush (pc' := 33) (v := 8) dX8_middle_31 rfl kb_8 ?_
      refine ev_iadd (pc' := 34) (v := nI ((10 * j7) + 8)) dX8_middle_33 rfl (nI_add (10 * j7) 8) ?_
      refine ev_iald (pc' := 35) (j := (10 * j7) + 8) (v := (I 124) ((10 * j7) + 8)) dX8_middle_34 rfl hs_124 rfl (by omega) (Nat.le_of_ble_eq_true rfl) rfl ?_
      refine ev_i2l (pc' := 36) (v := Int32.toInt64 ((I 124) ((10 * j7) + 8))) dX8_middle_35 rfl rfl ?_
      refine ev_lstore (pc' := 38) (lv' := [some (.ref 115), some (.int (nI j7)), some (.int (nI n2)), some (.int 0), some (.long (Int32.toInt64 ((I 124) ((10 * j7) + 8)))), none, none, none]) dX8_middle_36 rfl (Nat.le_of_ble_eq_true rfl) rfl rfl ?_
      refine ev_lload (pc' := 40) dX8_middle_38 rfl rfl ?_
      refine ev_lconst (pc' := 41) (v := 0) dX8_middle_40 rfl kl_0 ?_
      refine ev_lc_ne (p1 := 42) (tgt := 51) (pc' := 45) dX8_middle_41 rfl dX8_middle_42 rfl rfl (fun c12 => ?_) (fun c12 => ?_)
      · refine ev_aload_n (pc' := 52) (i := 0) dX8_middle_51 rfl rfl rfl ?_
        refine ev_iload_n (pc' := 53) (i := 1) dX8_middle_52 rfl rfl rfl ?_
        refine ev_callV (pc' := 56) (rm' := rX8_layTable) (b := 115) (av := [.int (nI j7)]) (rest := []) co_X8_184 ci_X8_layTable cv_X8_layTable dX8_middle_53 rfl hs_115 hb_X8 rfl rfl (Nat.le_of_ble_eq_true rfl) ⟨(Nat.le_of_ble_eq_true rfl), (Nat.le_of_ble_eq_true rfl)⟩ ⟨(Nat.le_of_ble_eq_true rfl), (Nat.le_of_ble_eq_true rfl)⟩ ?_
        refine f_X8_layTable j7 (by omega) (fun K13 f14 f15 => ?_)
        refine ev_iconst (pc' := 57) (v := 0) dX8_middle_56 rfl ki_0 ?_
        refine ev_istore (pc' := 59) (lv' := [some (.ref 115), some (.int (nI j7)), some (.int (nI n2)), some (.int 0), some (.long (Int32.toInt64 ((I 124) ((10 * j7) + 8)))), none, some (.int 0), none]) dX8_middle_57 rfl (Nat.le_of_ble_eq_true rfl) rfl rfl ?_
        refine ev_iload (pc' := 61) dX8_middle_59 rfl rfl ?_
        refine ev_iconst (pc' := 62) (v := 3) dX8_middle_61 rfl ki_3 ?_
        refine ev_icmp_ge (tgt := 143) (pc' := 65) dX8_middle_62 rfl rfl (fun h => absurd h (by decide)) (fun _ => ?_)
        refine ev_iconst (pc' := 66) (v := 0) dX8_middle_65 rfl ki_0 ?_
        refine ev_istore (pc' := 68) (lv' := [some (.ref 115), some (.int (nI j7)), some (.int (nI n2)), some (.int 0), some (.long (Int32.toInt64 ((I 124) ((10 * j7) + 8)))), none, some (.int 0), some (.int 0)]) dX8_middle_66 rfl (Nat.le_of_ble_eq_true rfl) rfl rfl ?_
        refine ev_iload (pc' := 70) dX8_middle_68 rfl rfl ?_
        refine ev_iconst (pc' := 71) (v := 3) dX8_middle_70 rfl ki_3 ?_
        refine ev_icmp_ge (tgt := 137) (pc' := 74) dX8_middle_71 rfl rfl (fun h => absurd h (by decide)) (fun _ => ?_)
        refine ev_aload_n (pc' := 75) (i := 0) dX8_middle_74 rfl rfl rfl ?_
        refine ev_getR (pc' := 78) fo_X8_26 dX8_middle_75 rfl hs_115 rfl rf_115_8 ?_
        refine ev_iconst (pc' := 79) (v := 4) dX8_middle_78 rfl ki_4 ?_
        refine ev_iload (pc' := 81) dX8_middle_79 rfl rfl ?_
        refine ev_imul (pc' := 82) (v := 0) dX8_middle_81 rfl (by decide) ?_
        refine ev_iload (pc' := 84) dX8_middle_82 rfl rfl ?_
        refine ev_iadd (pc' := 85) (v := 0) dX8_middle_84 rfl (by decide) ?_
        refine ev_iload (pc' := 87) dX8_middle_85 rfl rfl ?_
        refine ev_iload_n (pc' := 88) (i := 2) dX8_middle_87 rfl rfl rfl ?_
        suffices K18 : ∀ x17 : Int64, x17 = (if ¬ 0 = (nI n2) then (Int32.toInt64 ((I 123) (((16 * j7) + 0) + 0))) else (Int32.toInt64 (-((I 123) (((16 * j7) + 0) + 3))))) → EV g yX8_middle cX8_middle 8 (some .int) rX8_middle (ma_ZM g rX8_middle Post) 130 [some (.ref 115), some (.int (nI j7)), some (.int (nI n2)), some (.int 0), some (.long (Int32.toInt64 ((I 124) ((10 * j7) + 8)))), none, some (.int 0), some (.int 0)] [.long x17, .int 0, .ref 120] HS I K13 RF 146 0 0 by
          refine ev_icmp_ne (tgt := 112) (pc' := 91) dX8_middle_88 rfl rfl (fun c19 => ?_) (fun c19 => ?_)
          · refine ev_aload_n (pc' := 113) (i := 0) dX8_middle_112 rfl rfl rfl ?_
            refine ev_getR (pc' := 116) fo_X8_37 dX8_middle_113 rfl hs_115 rfl rf_115_13 ?_
            refine ev_bipush (pc' := 118) (v := 16) dX8_middle_116 rfl kb_16 ?_
            refine ev_iload_n (pc' := 119) (i := 1) dX8_middle_118 rfl rfl rfl ?_
            refine ev_imul (pc' := 120) (v := nI (16 * j7)) dX8_middle_119 rfl (pk_mul 16 j7) ?_
            refine ev_iconst (pc' := 121) (v := 4) dX8_middle_120 rfl ki_4 ?_
            refine ev_iload (pc' := 123) dX8_middle_121 rfl rfl ?_
            refine ev_imul (pc' := 124) (v := 0) dX8_middle_123 rfl (by decide) ?_
            refine ev_iadd (pc' := 125) (v := nI ((16 * j7) + 0)) dX8_middle_124 rfl (nI_add (16 * j7) 0) ?_
            refine ev_iload (pc' := 127) dX8_middle_125 rfl rfl ?_
            refine ev_iadd (pc' := 128) (v := nI (((16 * j7) + 0) + 0)) dX8_middle_127 rfl (nI_add ((16 * j7) + 0) 0) ?_
            refine ev_iald (pc' := 129) (j := ((16 * j7) + 0) + 0) (v := (I 123) (((16 * j7) + 0) + 0)) dX8_middle_128 rfl hs_123 rfl (by omega) (Nat.le_of_ble_eq_true rfl) rfl ?_
            refine ev_i2l (pc' := 130) (v := Int32.toInt64 ((I 123) (((16 * j7) + 0) + 0))) dX8_middle_129 rfl rfl ?_
            exact K18 _ (by rw [if_pos c19])
          · refine ev_aload_n (pc' := 92) (i := 0) dX8_middle_91 rfl rfl rfl ?_
            refine ev_getR (pc' := 95) fo_X8_37 dX8_middle_92 rfl hs_115 rfl rf_115_13 ?_
            refine ev_bipush (pc' := 97) (v := 16) dX8_middle_95 rfl kb_16 ?_
            refine ev_iload_n (pc' := 98) (i := 1) dX8_middle_97 rfl rfl rfl ?_
            refine ev_imul (pc' := 99) (v := nI (16 * j7)) dX8_middle_98 rfl (pk_mul 16 j7) ?_
            refine ev_iconst (pc' := 100) (v := 4) dX8_middle_99 rfl ki_4 ?_
            refine ev_iload (pc' := 102) dX8_middle_100 rfl rfl ?_
            refine ev_imul (pc' := 103) (v := 0) dX8_middle_102 rfl (by decide) ?_
            refine ev_iadd (pc' := 104) (v := nI ((16 * j7) + 0)) dX8_middle_103 rfl (nI_add (16 * j7) 0) ?_
            refine ev_iconst (pc' := 105) (v := 3) dX8_middle_104 rfl ki_3 ?_
            refine ev_iadd (pc' := 106) (v := nI (((16 * j7) + 0) + 3)) dX8_middle_105 rfl (nI_add ((16 * j7) + 0) 3) ?_
            refine ev_iald (pc' := 107) (j := ((16 * j7) + 0) + 3) (v := (I 123) (((16 * j7) + 0) + 3)) dX8_middle_106 rfl hs_123 rfl (by omega) (Nat.le_of_ble_eq_true rfl) rfl ?_
            refine ev_ineg (pc' := 108) (v := -((I 123) (((16 * j7) + 0) + 3))) dX8_middle_107 rfl rfl ?_
            refine ev_i2l (pc' := 109) (v := Int32.toInt64 (-((I 123) (((16 * j7) + 0) + 3)))) dX8_middle_108 rfl rfl ?_
            refine ev_goto (tgt := 130) dX8_middle_109 rfl ?_
            exact K18 _ (by rw [if_neg (not_not_intro c19)])
        intro x17 hx17
        subst hx17
        refine ev_last (pc' := 131) (j := 0) (L' := (ma_up K13 120 (ma_up (K13 120) 0 (if ¬ 0 = (nI n2) then (Int32.toInt64 ((I 123) (((16 * j7) + 0) + 0))) else (Int32.toInt64 (-((I 123) (((16 * j7) + 0) + 3)))))))) dX8_middle_130 rfl hs_120 rfl (Nat.le_of_ble_eq_true rfl) (Nat.le_of_ble_eq_true rfl) rfl ?_
        refine ev_iinc (pc' := 134) (v := 1) (lv' := [some (.ref 115), some (.int (nI j7)), some (.int (nI n2)), some (.int 0), some (.long (Int32.toInt64 ((I 124) ((10 * j7) + 8)))), none, some (.int 0), some (.int 1)]) dX8_middle_131 rfl rfl (by decide) (Nat.le_of_ble_eq_true rfl) rfl rfl ?_
        refine ev_goto (tgt := 68) dX8_middle_134 rfl ?_
        refine ev_iload (pc' := 70) dX8_middle_68 rfl rfl ?_
        refine ev_iconst (pc' := 71) (v := 3) dX8_middle_70 rfl ki_3 ?_
        refine ev_icmp_ge (tgt := 137) (pc' := 74) dX8_middle_71 rfl rfl (fun h => absurd h (by decide)) (fun _ => ?_)
        refine ev_aload_n (pc' := 75) (i := 0) dX8_middle_74 rfl rfl rfl ?_
        refine ev_getR (pc' := 78) fo_X8_26 dX8_middle_75 rfl hs_115 rfl rf_115_8 ?_
        refine ev_iconst (pc' := 79) (v := 4) dX8_middle_78 rfl ki_4 ?_
        refine ev_iload (pc' := 81) dX8_middle_79 rfl rfl ?_
        refine ev_imul (pc' := 82) (v := 0) dX8_middle_81 rfl (by decide) ?_
        refine ev_iload (pc' := 84) dX8_middle_82 rfl rfl ?_
        refine ev_iadd (pc' := 85) (v := 1) dX8_middle_84 rfl (by decide) ?_
        refine ev_iload (pc' := 87) dX8_middle_85 rfl rfl ?_
        refine ev_iload_n (pc' := 88) (i := 2) dX8_middle_87 rfl rfl rfl ?_
        suffices K22 : ∀ x21 : Int64, x21 = (if ¬ 1 = (nI n2) then (Int32.toInt64 ((I 123) (((16 * j7) + 0) + 1))) else (Int32.toInt64 (-((I 123) (((16 * j7) + 0) + 3))))) → EV g yX8_middle cX8_middle 8 (some .int) rX8_middle (ma_ZM g rX8_middle Post) 130 [some (.ref 115), some (.int (nI j7)), some (.int (nI n2)), some (.int 0), some (.long (Int32.toInt64 ((I 124) ((10 * j7) + 8)))), none, some (.int 0), some (.int 1)] [.long x21, .int 1, .ref 120] HS I (ma_up K13 120 (ma_up (K13 120) 0 (if ¬ 0 = (nI n2) then (Int32.toInt64 ((I 123) (((16 * j7) + 0) + 0))) else (Int32.toInt64 (-((I 123) (((16 * j7) + 0) + 3))))))) RF 146 0 0 by
          refine ev_icmp_ne (tgt := 112) (pc' := 91) dX8_middle_88 rfl rfl (fun c23 => ?_) (fun c23 => ?_)
          · refine ev_aload_n (pc' := 113) (i := 0) dX8_middle_112 rfl rfl rfl ?_
            refine ev_getR (pc' := 116) fo_X8_37 dX8_middle_113 rfl hs_115 rfl rf_115_13 ?_
            refine ev_bipush (pc' := 118) (v := 16) dX8_middle_116 rfl kb_16 ?_
            refine ev_iload_n (pc' := 119) (i := 1) dX8_middle_118 rfl rfl rfl ?_
            refine ev_imul (pc' := 120) (v := nI (16 * j7)) dX8_middle_119 rfl (pk_mul 16 j7) ?_
            refine ev_iconst (pc' := 121) (v := 4) dX8_middle_120 rfl ki_4 ?_
            refine ev_iload (pc' := 123) dX8_middle_121 rfl rfl ?_
            refine ev_imul (pc' := 124) (v := 0) dX8_middle_123 rfl (by decide) ?_
            refine ev_iadd (pc' := 125) (v := nI ((16 * j7) + 0)) dX8_middle_124 rfl (nI_add (16 * j7) 0) ?_
            refine ev_iload (pc' := 127) dX8_middle_125 rfl rfl ?_
            refine ev_iadd (pc' := 128) (v := nI (((16 * j7) + 0) + 1)) dX8_middle_127 rfl (nI_add ((16 * j7) + 0) 1) ?_
            refine ev_iald (pc' := 129) (j := ((16 * j7) + 0) + 1) (v := (I 123) (((16 * j7) + 0) + 1)) dX8_middle_128 rfl hs_123 rfl (by omega) (Nat.le_of_ble_eq_true rfl) rfl ?_
            refine ev_i2l (pc' := 130) (v := Int32.toInt64 ((I 123) (((16 * j7) + 0) + 1))) dX8_middle_129 rfl rfl ?_
            exact K22 _ (by rw [if_pos c23])
          · refine ev_aload_n (pc' := 92) (i := 0) dX8_middle_91 rfl rfl rfl ?_
            refine ev_getR (pc' := 95) fo_X8_37 dX8_middle_92 rfl hs_115 rfl rf_115_13 ?_
            refine ev_bipush (pc' := 97) (v := 16) dX8_middle_95 rfl kb_16 ?_
            refine ev_iload_n (pc' := 98) (i := 1) dX8_middle_97 rfl rfl rfl ?_
            refine ev_imul (pc' := 99) (v := nI (16 * j7)) dX8_middle_98 rfl (pk_mul 16 j7) ?_
            refine ev_iconst (pc' := 100) (v := 4) dX8_middle_99 rfl ki_4 ?_
            refine ev_iload (pc' := 102) dX8_middle_100 rfl rfl ?_
            refine ev_imul (pc' := 103) (v := 0) dX8_middle_102 rfl (by decide) ?_
            refine ev_iadd (pc' := 104) (v := nI ((16 * j7) + 0)) dX8_middle_103 rfl (nI_add (16 * j7) 0) ?_
            refine ev_iconst (pc' := 105) (v := 3) dX8_middle_104 rfl ki_3 ?_
            refine ev_iadd (pc' := 106) (v := nI (((16 * j7) + 0) + 3)) dX8_middle_105 rfl (nI_add ((16 * j7) + 0) 3) ?_
            refine ev_iald (pc' := 107) (j := ((16 * j7) + 0) + 3) (v := (I 123) (((16 * j7) + 0) + 3)) dX8_middle_106 rfl hs_123 rfl (by omega) (Nat.le_of_ble_eq_true rfl) rfl ?_
            refine ev_ineg (pc' := 108) (v := -((I 123) (((16 * j7) + 0) + 3))) dX8_middle_107 rfl rfl ?_
            refine ev_i2l (pc' := 109) (v := Int32.toInt64 (-((I 123) (((16 * j7) + 0) + 3)))) dX8_middle_108 rfl rfl ?_
            refine ev_goto (tgt := 130) dX8_middle_109 rfl ?_
            exact K22 _ (by rw [if_neg (not_not_intro c23)])
        intro x21 hx21
        subst hx21
        refine ev_last (pc' := 131) (j := 1) (L' := (ma_up K13 120 (ma_up (ma_up (K13 120) 0 (if ¬ 0 = (nI n2) then (Int32.toInt64 ((I 123) (((16 * j7) + 0) + 0))) else (Int32.toInt64 (-((I 123) (((16 * j7) + 0) + 3)))))) 1 (if ¬ 1 = (nI n2) then (Int32.toInt64 ((I 123) (((16 * j7) + 0) + 1))) else (Int32.toInt64 (-((I 123) (((16 * j7) + 0) + 3)))))))) dX8_middle_130 rfl hs_120 rfl (Nat.le_of_ble_eq_true rfl) (Nat.le_of_ble_eq_true rfl) (ma_up_up _ _ _ _) ?_
        refine ev_iinc (pc' := 134) (v := 2) (lv' := [some (.ref 115), some (.int (nI j7)), some (.int (nI n2)), some (.int 0), some (.long (Int32.toInt64 ((I 124) ((10 * j7) + 8)))), none, some (.int 0), some (.int 2)]) dX8_middle_131 rfl rfl (by decide) (Nat.le_of_ble_eq_true rfl) rfl rfl ?_
        refine ev_goto (tgt := 68) dX8_middle_134 rfl ?_
        refine ev_iload (pc' := 70) dX8_middle_68 rfl rfl ?_
        refine ev_iconst (pc' := 71) (v := 3) dX8_middle_70 rfl ki_3 ?_
        refine ev_icmp_ge (tgt := 137) (pc' := 74) dX8_middle_71 rfl rfl (fun h => absurd h (by decide)) (fun _ => ?_)
        refine ev_aload_n (pc' := 75) (i := 0) dX8_middle_74 rfl rfl rfl ?_
        refine ev_getR (pc' := 78) fo_X8_26 dX8_middle_75 rfl hs_115 rfl rf_115_8 ?_
        refine ev_iconst (pc' := 79) (v := 4) dX8_middle_78 rfl ki_4 ?_
        refine ev_iload (pc' := 81) dX8_middle_79 rfl rfl ?_
        refine ev_imul (pc' := 82) (v := 0) dX8_middle_81 rfl (by decide) ?_
        refine ev_iload (pc' := 84) dX8_middle_82 rfl rfl ?_
        refine ev_iadd (pc' := 85) (v := 2) dX8_middle_84 rfl (by decide) ?_
        refine ev_iload (pc' := 87) dX8_middle_85 rfl rfl ?_
        refine ev_iload_n (pc' := 88) (i := 2) dX8_middle_87 rfl rfl rfl ?_
        suffices K26 : ∀ x25 : Int64, x25 = (if ¬ 2 = (nI n2) then (Int32.toInt64 ((I 123) (((16 * j7) + 0) + 2))) else (Int32.toInt64 (-((I 123) (((16 * j7) + 0) + 3))))) → EV g yX8_middle cX8_middle 8 (some .int) rX8_middle (ma_ZM g rX8_middle Post) 130 [some (.ref 115), some (.int (nI j7)), some (.int (nI n2)), some (.int 0), some (.long (Int32.toInt64 ((I 124) ((10 * j7) + 8)))), none, some (.int 0), some (.int 2)] [.long x25, .int 2, .ref 120] HS I (ma_up K13 120 (ma_up (ma_up (K13 120) 0 (if ¬ 0 = (nI n2) then (Int32.toInt64 ((I 123) (((16 * j7) + 0) + 0))) else (Int32.toInt64 (-((I 123) (((16 * j7) + 0) + 3)))))) 1 (if ¬ 1 = (nI n2) then (Int32.toInt64 ((I 123) (((16 * j7) + 0) + 1))) else (Int32.toInt64 (-((I 123) (((16 * j7) + 0) + 3))))))) RF 146 0 0 by
          refine ev_icmp_ne (tgt := 112) (pc' := 91) dX8_middle_88 rfl rfl (fun c27 => ?_) (fun c27 => ?_)
          · refine ev_aload_n (pc' := 113) (i := 0) dX8_middle_112 rfl rfl rfl ?_
            refine ev_getR (pc' := 116) fo_X8_37 dX8_middle_113 rfl hs_115 rfl rf_115_13 ?_
            refine ev_bipush (pc' := 118) (v := 16) dX8_middle_116 rfl kb_16 ?_
            refine ev_iload_n (pc' := 119) (i := 1) dX8_middle_118 rfl rfl rfl ?_
            refine ev_imul (pc' := 120) (v := nI (16 * j7)) dX8_middle_119 rfl (pk_mul 16 j7) ?_
            refine ev_iconst (pc' := 121) (v := 4) dX8_middle_120 rfl ki_4 ?_
            refine ev_iload (pc' := 123) dX8_middle_121 rfl rfl ?_
            refine ev_imul (pc' := 124) (v := 0) dX8_middle_123 rfl (by decide) ?_
            refine ev_iadd (pc' := 125) (v := nI ((16 * j7) + 0)) dX8_middle_124 rfl (nI_add (16 * j7) 0) ?_
            refine ev_iload (pc' := 127) dX8_middle_125 rfl rfl ?_
            refine ev_iadd (pc' := 128) (v := nI (((16 * j7) + 0) + 2)) dX8_middle_127 rfl (nI_add ((16 * j7) + 0) 2) ?_
            refine ev_iald (pc' := 129) (j := ((16 * j7) + 0) + 2) (v := (I 123) (((16 * j7) + 0) + 2)) dX8_middle_128 rfl hs_123 rfl (by omega) (Nat.le_of_ble_eq_true rfl) rfl ?_
            refine ev_i2l (pc' := 130) (v := Int32.toInt64 ((I 123) (((16 * j7) + 0) + 2))) dX8_middle_129 rfl rfl ?_
            exact K26 _ (by rw [if_pos c27])
          · refine ev_aload_n (pc' := 92) (i := 0) dX8_middle_91 rfl rfl rfl ?_
            refine ev_getR (pc' := 95) fo_X8_37 dX8_middle_92 rfl hs_115 rfl rf_115_13 ?_
            refine ev_bipush (pc' := 97) (v := 16) dX8_middle_95 rfl kb_16 ?_
            refine ev_iload_n (pc' := 98) (i := 1) dX8_middle_97 rfl rfl rfl ?_
            refine ev_imul (pc' := 99) (v := nI (16 * j7)) dX8_middle_98 rfl (pk_mul 16 j7) ?_
            refine ev_iconst (pc' := 100) (v := 4) dX8_middle_99 rfl ki_4 ?_
            refine ev_iload (pc' := 102) dX8_middle_100 rfl rfl ?_
            refine ev_imul (pc' := 103) (v := 0) dX8_middle_102 rfl (by decide) ?_
            refine ev_iadd (pc' := 104) (v := nI ((16 * j7) + 0)) dX8_middle_103 rfl (nI_add (16 * j7) 0) ?_
            refine ev_iconst (pc' := 105) (v := 3) dX8_middle_104 rfl ki_3 ?_
            refine ev_iadd (pc' := 106) (v := nI (((16 * j7) + 0) + 3)) dX8_middle_105 rfl (nI_add ((16 * j7) + 0) 3) ?_
            refine ev_iald (pc' := 107) (j := ((16 * j7) + 0) + 3) (v := (I 123) (((16 * j7) + 0) + 3)) dX8_middle_106 rfl hs_123 rfl (by omega) (Nat.le_of_ble_eq_true rfl) rfl ?_
            refine ev_ineg (pc' := 108) (v := -((I 123) (((16 * j7) + 0) + 3))) dX8_middle_107 rfl rfl ?_
            refine ev_i2l (pc' := 109) (v := Int32.toInt64 (-((I 123) (((16 * j7) + 0) + 3)))) dX8_middle_108 rfl rfl ?_
            refine ev_goto (tgt := 130) dX8_middle_109 rfl ?_
            exact K26 _ (by rw [if_neg (not_not_intro c27)])
        intro x25 hx25
        subst hx25
        refine ev_last (pc' := 131) (j := 2) (L' := (ma_up K13 120 (ma_up (ma_up (ma_up (K13 120) 0 (if ¬ 0 = (nI n2) then (Int32.toInt64 ((I 123) (((16 * j7) + 0) + 0))) else (Int32.toInt64 (-((I 123) (((16 * j7) + 0) + 3)))))) 1 (if ¬ 1 = (nI n2) then (Int32.toInt64 ((I 123) (((16 * j7) + 0) + 1))) else (Int32.toInt64 (-((I 123) (((16 * j7) + 0) + 3)))))) 2 (if ¬ 2 = (nI n2) then (Int32.toInt64 ((I 123) (((16 * j7) + 0) + 2))) else (Int32.toInt64 (-((I 123) (((16 * j7) + 0) + 3)))))))) dX8_middle_130 rfl hs_120 rfl (Nat.le_of_ble_eq_true rfl) (Nat.le_of_ble_eq_true rfl) (ma_up_up _ _ _ _) ?_
        refine ev_iinc (pc' := 134) (v := 3) (lv' := [some (.ref 115), some (.int (nI j7)), some (.int (nI n2)), some (.int 0), some (.long (Int32.toInt64 ((I 124) ((10 * j7) + 8)))), none, some (.int 0), some (.int 3)]) dX8_middle_131 rfl rfl (by decide) (Nat.le_of_ble_eq_true rfl) rfl rfl ?_
        refine ev_goto (tgt := 68) dX8_middle_134 rfl ?_
        refine ev_iload (pc' := 70) dX8_middle_68 rfl rfl ?_
        refine ev_iconst (pc' := 71) (v := 3) dX8_middle_70 rfl ki_3 ?_
        refine ev_icmp_ge (tgt := 137) (pc' := 74) dX8_middle_71 rfl rfl (fun _ => ?_) (fun h => absurd (by decide) h)
        refine ev_iinc (pc' := 140) (v := 1) (lv' := [some (.ref 115), some (.int (nI j7)), some (.int (nI n2)), some (.int 0), some (.long (Int32.toInt64 ((I 124) ((10 * j7) + 8)))), none, some (.int 1), some (.int 3)]) dX8_middle_137 rfl rfl (by decide) (Nat.le_of_ble_eq_true rfl) rfl rfl ?_
        refine ev_goto (tgt := 59) dX8_middle_140 rfl ?_
        refine ev_iload (pc' := 61) dX8_middle_59 rfl rfl ?_
        refine ev_iconst (pc' := 62) (v := 3) dX8_middle_61 rfl ki_3 ?_
        refine ev_icmp_ge (tgt := 143) (pc' := 65) dX8_middle_62 rfl rfl (fun h => absurd h (by decide)) (fun _ => ?_)
        refine ev_iconst (pc' := 66) (v := 0) dX8_middle_65 rfl ki_0 ?_
        refine ev_istore (pc' := 68) (lv' := [some (.ref 115), some (.int (nI j7)), some (.int (nI n2)), some (.int 0), some (.long (Int32.toInt64 ((I 124) ((10 * j7) + 8)))), none, some (.int 1), some (.int 0)]) dX8_middle_66 rfl (Nat.le_of_ble_eq_true rfl) rfl rfl ?_
        refine ev_iload (pc' := 70) dX8_middle_68 rfl rfl ?_
        refine ev_iconst (pc' := 71) (v := 3) dX8_middle_70 rfl ki_3 ?_
        refine ev_icmp_ge (tgt := 137) (pc' := 74) dX8_middle_71 rfl rfl (fun h => absurd h (by decide)) (fun _ => ?_)
        refine ev_aload_n (pc' := 75) (i := 0) dX8_middle_74 rfl rfl rfl ?_
        refine ev_getR (pc' := 78) fo_X8_26 dX8_middle_75 rfl hs_115 rfl rf_115_8 ?_
        refine ev_iconst (pc' := 79) (v := 4) dX8_middle_78 rfl ki_4 ?_
        refine ev_iload (pc' := 81) dX8_middle_79 rfl rfl ?_
        refine ev_imul (pc' := 82) (v := 4) dX8_middle_81 rfl (by decide) ?_
        refine ev_iload (pc' := 84) dX8_middle_82 rfl rfl ?_
        refine ev_iadd (pc' := 85) (v := 4) dX8_middle_84 rfl (by decide) ?_
        refine ev_iload (pc' := 87) dX8_middle_85 rfl rfl ?_
        refine ev_iload_n (pc' := 88) (i := 2) dX8_middle_87 rfl rfl rfl ?_
        suffices K30 : ∀ x29 : Int64, x29 = (if ¬ 0 = (nI n2) then (Int32.toInt64 ((I 123) (((16 * j7) + 4) + 0))) else (Int32.toInt64 (-((I 123) (((16 * j7) + 4) + 3))))) → EV g yX8_middle cX8_middle 8 (some .int) rX8_middle (ma_ZM g rX8_middle Post) 130 [some (.ref 115), some (.int (nI j7)), some (.int (nI n2)), some (.int 0), some (.long (Int32.toInt64 ((I 124) ((10 * j7) + 8)))), none, some (.int 1), some (.int 0)] [.long x29, .int 4, .ref 120] HS I (ma_up K13 120 (ma_up (ma_up (ma_up (K13 120) 0 (if ¬ 0 = (nI n2) then (Int32.toInt64 ((I 123) (((16 * j7) + 0) + 0))) else (Int32.toInt64 (-((I 123) (((16 * j7) + 0) + 3)))))) 1 (if ¬ 1 = (nI n2) then (Int32.toInt64 ((I 123) (((16 * j7) + 0) + 1))) else (Int32.toInt64 (-((I 123) (((16 * j7) + 0) + 3)))))) 2 (if ¬ 2 = (nI n2) then (Int32.toInt64 ((I 123) (((16 * j7) + 0) + 2))) else (Int32.toInt64 (-((I 123) (((16 * j7) + 0) + 3))))))) RF 146 0 0 by
          refine ev_icmp_ne (tgt := 112) (pc' := 91) dX8_middle_88 rfl rfl (fun c31 => ?_) (fun c31 => ?_)
          · refine ev_aload_n (pc' := 113) (i := 0) dX8_middle_112 rfl rfl rfl ?_
            refine ev_getR (pc' := 116) fo_X8_37 dX8_middle_113 rfl hs_115 rfl rf_115_13 ?_
            refine ev_bipush (pc' := 118) (v := 16) dX8_middle_116 rfl kb_16 ?_
            refine ev_iload_n (pc' := 119) (i := 1) dX8_middle_118 rfl rfl rfl ?_
            refine ev_imul (pc' := 120) (v := nI (16 * j7)) dX8_middle_119 rfl (pk_mul 16 j7) ?_
            refine ev_iconst (pc' := 121) (v := 4) dX8_middle_120 rfl ki_4 ?_
            refine ev_iload (pc' := 123) dX8_middle_121 rfl rfl ?_
            refine ev_imul (pc' := 124) (v := 4) dX8_middle_123 rfl (by decide) ?_
            refine ev_iadd (pc' := 125) (v := nI ((16 * j7) + 4)) dX8_middle_124 rfl (nI_add (16 * j7) 4) ?_
            refine ev_iload (pc' := 127) dX8_middle_125 rfl rfl ?_
            refine ev_iadd (pc' := 128) (v := nI (((16 * j7) + 4) + 0)) dX8_middle_127 rfl (nI_add ((16 * j7) + 4) 0) ?_
            refine ev_iald (pc' := 129) (j := ((16 * j7) + 4) + 0) (v := (I 123) (((16 * j7) + 4) + 0)) dX8_middle_128 rfl hs_123 rfl (by omega) (Nat.le_of_ble_eq_true rfl) rfl ?_
            refine ev_i2l (pc' := 130) (v := Int32.toInt64 ((I 123) (((16 * j7) + 4) + 0))) dX8_middle_129 rfl rfl ?_
            exact K30 _ (by rw [if_pos c31])
          · refine ev_aload_n (pc' := 92) (i := 0) dX8_middle_91 rfl rfl rfl ?_
            refine ev_getR (pc' := 95) fo_X8_37 dX8_middle_92 rfl hs_115 rfl rf_115_13 ?_
            refine ev_bipush (pc' := 97) (v := 16) dX8_middle_95 rfl kb_16 ?_
            refine ev_iload_n (pc' := 98) (i := 1) dX8_middle_97 rfl rfl rfl ?_
            refine ev_imul (pc' := 99) (v := nI (16 * j7)) dX8_middle_98 rfl (pk_mul 16 j7) ?_
            refine ev_iconst (pc' := 100) (v := 4) dX8_middle_99 rfl ki_4 ?_
            refine ev_iload (pc' := 102) dX8_middle_100 rfl rfl ?_
            refine ev_imul (pc' := 103) (v := 4) dX8_middle_102 rfl (by decide) ?_
            refine ev_iadd (pc' := 104) (v := nI ((16 * j7) + 4)) dX8_middle_103 rfl (nI_add (16 * j7) 4) ?_
            refine ev_iconst (pc' := 105) (v := 3) dX8_middle_104 rfl ki_3 ?_
            refine ev_iadd (pc' := 106) (v := nI (((16 * j7) + 4) + 3)) dX8_middle_105 rfl (nI_add ((16 * j7) + 4) 3) ?_
            refine ev_iald (pc' := 107) (j := ((16 * j7) + 4) + 3) (v := (I 123) (((16 * j7) + 4) + 3)) dX8_middle_106 rfl hs_123 rfl (by omega) (Nat.le_of_ble_eq_true rfl) rfl ?_
            refine ev_ineg (pc' := 108) (v := -((I 123) (((16 * j7) + 4) + 3))) dX8_middle_107 rfl rfl ?_
            refine ev_i2l (pc' := 109) (v := Int32.toInt64 (-((I 123) (((16 * j7) + 4) + 3)))) dX8_middle_108 rfl rfl ?_
            refine ev_goto (tgt := 130) dX8_middle_109 rfl ?_
            exact K30 _ (by rw [if_neg (not_not_intro c31)])
        intro x29 hx29
        subst hx29
        refine ev_last (pc' := 131) (j := 4) (L' := (ma_up K13 120 (ma_up (ma_up (ma_up (ma_up (K13 120) 0 (if ¬ 0 = (nI n2) then (Int32.toInt64 ((I 123) (((16 * j7) + 0) + 0))) else (Int32.toInt64 (-((I 123) (((16 * j7) + 0) + 3)))))) 1 (if ¬ 1 = (nI n2) then (Int32.toInt64 ((I 123) (((16 * j7) + 0) + 1))) else (Int32.toInt64 (-((I 123) (((16 * j7) + 0) + 3)))))) 2 (if ¬ 2 = (nI n2) then (Int32.toInt64 ((I 123) (((16 * j7) + 0) + 2))) else (Int32.toInt64 (-((I 123) (((16 * j7) + 0) + 3)))))) 4 (if ¬ 0 = (nI n2) then (Int32.toInt64 ((I 123) (((16 * j7) + 4) + 0))) else (Int32.toInt64 (-((I 123) (((16 * j7) + 4) + 3)))))))) dX8_middle_130 rfl hs_120 rfl (Nat.le_of_ble_eq_true rfl) (Nat.le_of_ble_eq_true rfl) (ma_up_up _ _ _ _) ?_
        refine ev_iinc (pc' := 134) (v := 1) (lv' := [some (.ref 115), some (.int (nI j7)), some (.int (nI n2)), some (.int 0), some (.long (Int32.toInt64 ((I 124) ((10 * j7) + 8)))), none, some (.int 1), some (.int 1)]) dX8_middle_131 rfl rfl (by decide) (Nat.le_of_ble_eq_true rfl) rfl rfl ?_
        refine ev_goto (tgt := 68) dX8_middle_134 rfl ?_
        refine ev_iload (pc' := 70) dX8_middle_68 rfl rfl ?_
        refine ev_iconst (pc' := 71) (v := 3) dX8_middle_70 rfl ki_3 ?_
        refine ev_icmp_ge (tgt := 137) (pc' := 74) dX8_middle_71 rfl rfl (fun h => absurd h (by decide)) (fun _ => ?_)
        refine ev_aload_n (pc' := 75) (i := 0) dX8_middle_74 rfl rfl rfl ?_
        refine ev_getR (pc' := 78) fo_X8_26 dX8_middle_75 rfl hs_115 rfl rf_115_8 ?_
        refine ev_iconst (pc' := 79) (v := 4) dX8_middle_78 rfl ki_4 ?_
        refine ev_iload (pc' := 81) dX8_middle_79 rfl rfl ?_
        refine ev_imul (pc' := 82) (v := 4) dX8_middle_81 rfl (by decide) ?_
        refine ev_iload (pc' := 84) dX8_middle_82 rfl rfl ?_
        refine ev_iadd (pc' := 85) (v := 5) dX8_middle_84 rfl (by decide) ?_
        refine ev_iload (pc' := 87) dX8_middle_85 rfl rfl ?_
        refine ev_iload_n (pc' := 88) (i := 2) dX8_middle_87 rfl rfl rfl ?_
        suffices K34 : ∀ x33 : Int64, x33 = (if ¬ 1 = (nI n2) then (Int32.toInt64 ((I 123) (((16 * j7) + 4) + 1))) else (Int32.toInt64 (-((I 123) (((16 * j7) + 4) + 3))))) → EV g yX8_middle cX8_middle 8 (some .int) rX8_middle (ma_ZM g rX8_middle Post) 130 [some (.ref 115), some (.int (nI j7)), some (.int (nI n2)), some (.int 0), some (.long (Int32.toInt64 ((I 124) ((10 * j7) + 8)))), none, some (.int 1), some (.int 1)] [.long x33, .int 5, .ref 120] HS I (ma_up K13 120 (ma_up (ma_up (ma_up (ma_up (K13 120) 0 (if ¬ 0 = (nI n2) then (Int32.toInt64 ((I 123) (((16 * j7) + 0) + 0))) else (Int32.toInt64 (-((I 123) (((16 * j7) + 0) + 3)))))) 1 (if ¬ 1 = (nI n2) then (Int32.toInt64 ((I 123) (((16 * j7) + 0) + 1))) else (Int32.toInt64 (-((I 123) (((16 * j7) + 0) + 3)))))) 2 (if ¬ 2 = (nI n2) then (Int32.toInt64 ((I 123) (((16 * j7) + 0) + 2))) else (Int32.toInt64 (-((I 123) (((16 * j7) + 0) + 3)))))) 4 (if ¬ 0 = (nI n2) then (Int32.toInt64 ((I 123) (((16 * j7) + 4) + 0))) else (Int32.toInt64 (-((I 123) (((16 * j7) + 4) + 3))))))) RF 146 0 0 by
          refine ev_icmp_ne (tgt := 112) (pc' := 91) dX8_middle_88 rfl rfl (fun c35 => ?_) (fun c35 => ?_)
          · refine ev_aload_n (pc' := 113) (i := 0) dX8_middle_112 rfl rfl rfl ?_
            refine ev_getR (pc' := 116) fo_X8_37 dX8_middle_113 rfl hs_115 rfl rf_115_13 ?_
            refine ev_bipush (pc' := 118) (v := 16) dX8_middle_116 rfl kb_16 ?_
            refine ev_iload_n (pc' := 119) (i := 1) dX8_middle_118 rfl rfl rfl ?_
            refine ev_imul (pc' := 120) (v := nI (16 * j7)) dX8_middle_119 rfl (pk_mul 16 j7) ?_
            refine ev_iconst (pc' := 121) (v := 4) dX8_middle_120 rfl ki_4 ?_
            refine ev_iload (pc' := 123) dX8_middle_121 rfl rfl ?_
            refine ev_imul (pc' := 124) (v := 4) dX8_middle_123 rfl (by decide) ?_
            refine ev_iadd (pc' := 125) (v := nI ((16 * j7) + 4)) dX8_middle_124 rfl (nI_add (16 * j7) 4) ?_
            refine ev_iload (pc' := 127) dX8_middle_125 rfl rfl ?_
            refine ev_iadd (pc' := 128) (v := nI (((16 * j7) + 4) + 1)) dX8_middle_127 rfl (nI_add ((16 * j7) + 4) 1) ?_
            refine ev_iald (pc' := 129) (j := ((16 * j7) + 4) + 1) (v := (I 123) (((16 * j7) + 4) + 1)) dX8_middle_128 rfl hs_123 rfl (by omega) (Nat.le_of_ble_eq_true rfl) rfl ?_
            refine ev_i2l (pc' := 130) (v := Int32.toInt64 ((I 123) (((16 * j7) + 4) + 1))) dX8_middle_129 rfl rfl ?_
            exact K34 _ (by rw [if_pos c35])
          · refine ev_aload_n (pc' := 92) (i := 0) dX8_middle_91 rfl rfl rfl ?_
            refine ev_getR (pc' := 95) fo_X8_37 dX8_middle_92 rfl hs_115 rfl rf_115_13 ?_
            refine ev_bipush (pc' := 97) (v := 16) dX8_middle_95 rfl kb_16 ?_
            refine ev_iload_n (pc' := 98) (i := 1) dX8_middle_97 rfl rfl rfl ?_
            refine ev_imul (pc' := 99) (v := nI (16 * j7)) dX8_middle_98 rfl (pk_mul 16 j7) ?_
            refine ev_iconst (pc' := 100) (v := 4) dX8_middle_99 rfl ki_4 ?_
            refine ev_iload (pc' := 102) dX8_middle_100 rfl rfl ?_
            refine ev_imul (pc' := 103) (v := 4) dX8_middle_102 rfl (by decide) ?_
            refine ev_iadd (pc' := 104) (v := nI ((16 * j7) + 4)) dX8_middle_103 rfl (nI_add (16 * j7) 4) ?_
            refine ev_iconst (pc' := 105) (v := 3) dX8_middle_104 rfl ki_3 ?_
            refine ev_iadd (pc' := 106) (v := nI (((16 * j7) + 4) + 3)) dX8_middle_105 rfl (nI_add ((16 * j7) + 4) 3) ?_
            refine ev_iald (pc' := 107) (j := ((16 * j7) + 4) + 3) (v := (I 123) (((16 * j7) + 4) + 3)) dX8_middle_106 rfl hs_123 rfl (by omega) (Nat.le_of_ble_eq_true rfl) rfl ?_
            refine ev_ineg (pc' := 108) (v := -((I 123) (((16 * j7) + 4) + 3))) dX8_middle_107 rfl rfl ?_
            refine ev_i2l (pc' := 109) (v := Int32.toInt64 (-((I 123) (((16 * j7) + 4) + 3)))) dX8_middle_108 rfl rfl ?_
            refine ev_goto (tgt := 130) dX8_middle_109 rfl ?_
            exact K34 _ (by rw [if_neg (not_not_intro c35)])
        intro x33 hx33
        subst hx33
        refine ev_last (pc' := 131) (j := 5) (L' := (ma_up K13 120 (ma_up (ma_up (ma_up (ma_up (ma_up (K13 120) 0 (if ¬ 0 = (nI n2) then (Int32.toInt64 ((I 123) (((16 * j7) + 0) + 0))) else (Int32.toInt64 (-((I 123) (((16 * j7) + 0) + 3)))))) 1 (if ¬ 1 = (nI n2) then (Int32.toInt64 ((I 123) (((16 * j7) + 0) + 1))) else (Int32.toInt64 (-((I 123) (((16 * j7) + 0) + 3)))))) 2 (if ¬ 2 = (nI n2) then (Int32.toInt64 ((I 123) (((16 * j7) + 0) + 2))) else (Int32.toInt64 (-((I 123) (((16 * j7) + 0) + 3)))))) 4 (if ¬ 0 = (nI n2) then (Int32.toInt64 ((I 123) (((16 * j7) + 4) + 0))) else (Int32.toInt64 (-((I 123) (((16 * j7) + 4) + 3)))))) 5 (if ¬ 1 = (nI n2) then (Int32.toInt64 ((I 123) (((16 * j7) + 4) + 1))) else (Int32.toInt64 (-((I 123) (((16 * j7) + 4) + 3)))))))) dX8_middle_130 rfl hs_120 rfl (Nat.le_of_ble_eq_true rfl) (Nat.le_of_ble_eq_true rfl) (ma_up_up _ _ _ _) ?_
        refine ev_iinc (pc' := 134) (v := 2) (lv' := [some (.ref 115), some (.int (nI j7)), some (.int (nI n2)), some (.int 0), some (.long (Int32.toInt64 ((I 124) ((10 * j7) + 8)))), none, some (.int 1), some (.int 2)]) dX8_middle_131 rfl rfl (by decide) (Nat.le_of_ble_eq_true rfl) rfl rfl ?_
        refine ev_goto (tgt := 68) dX8_middle_134 rfl ?_
        refine ev_iload (pc' := 70) dX8_middle_68 rfl rfl ?_
        refine ev_iconst (pc' := 71) (v := 3) dX8_middle_70 rfl ki_3 ?_
        refine ev_icmp_ge (tgt := 137) (pc' := 74) dX8_middle_71 rfl rfl (fun h => absurd h (by decide)) (fun _ => ?_)
        refine ev_aload_n (pc' := 75) (i := 0) dX8_middle_74 rfl rfl rfl ?_
        refine ev_getR (pc' := 78) fo_X8_26 dX8_middle_75 rfl hs_115 rfl rf_115_8 ?_
        refine ev_iconst (pc' := 79) (v := 4) dX8_middle_78 rfl ki_4 ?_
        refine ev_iload (pc' := 81) dX8_middle_79 rfl rfl ?_
        refine ev_imul (pc' := 82) (v := 4) dX8_middle_81 rfl (by decide) ?_
        refine ev_iload (pc' := 84) dX8_middle_82 rfl rfl ?_
        refine ev_iadd (pc' := 85) (v := 6) dX8_middle_84 rfl (by decide) ?_
        refine ev_iload (pc' := 87) dX8_middle_85 rfl rfl ?_
        refine ev_iload_n (pc' := 88) (i := 2) dX8_middle_87 rfl rfl rfl ?_
        suffices K38 : ∀ x37 : Int64, x37 = (if ¬ 2 = (nI n2) then (Int32.toInt64 ((I 123) (((16 * j7) + 4) + 2))) else (Int32.toInt64 (-((I 123) (((16 * j7) + 4) + 3))))) → EV g yX8_middle cX8_middle 8 (some .int) rX8_middle (ma_ZM g rX8_middle Post) 130 [some (.ref 115), some (.int (nI j7)), some (.int (nI n2)), some (.int 0), some (.long (Int32.toInt64 ((I 124) ((10 * j7) + 8)))), none, some (.int 1), some (.int 2)] [.long x37, .int 6, .ref 120] HS I (ma_up K13 120 (ma_up (ma_up (ma_up (ma_up (ma_up (K13 120) 0 (if ¬ 0 = (nI n2) then (Int32.toInt64 ((I 123) (((16 * j7) + 0) + 0))) else (Int32.toInt64 (-((I 123) (((16 * j7) + 0) + 3)))))) 1 (if ¬ 1 = (nI n2) then (Int32.toInt64 ((I 123) (((16 * j7) + 0) + 1))) else (Int32.toInt64 (-((I 123) (((16 * j7) + 0) + 3)))))) 2 (if ¬ 2 = (nI n2) then (Int32.toInt64 ((I 123) (((16 * j7) + 0) + 2))) else (Int32.toInt64 (-((I 123) (((16 * j7) + 0) + 3)))))) 4 (if ¬ 0 = (nI n2) then (Int32.toInt64 ((I 123) (((16 * j7) + 4) + 0))) else (Int32.toInt64 (-((I 123) (((16 * j7) + 4) + 3)))))) 5 (if ¬ 1 = (nI n2) then (Int32.toInt64 ((I 123) (((16 * j7) + 4) + 1))) else (Int32.toInt64 (-((I 123) (((16 * j7) + 4) + 3))))))) RF 146 0 0 by
          refine ev_icmp_ne (tgt := 112) (pc' := 91) dX8_middle_88 rfl rfl (fun c39 => ?_) (fun c39 => ?_)
          · refine ev_aload_n (pc' := 113) (i := 0) dX8_middle_112 rfl rfl rfl ?_
            refine ev_getR (pc' := 116) fo_X8_37 dX8_middle_113 rfl hs_115 rfl rf_115_13 ?_
            refine ev_bipush (pc' := 118) (v := 16) dX8_middle_116 rfl kb_16 ?_
            refine ev_iload_n (pc' := 119) (i := 1) dX8_middle_118 rfl rfl rfl ?_
            refine ev_imul (pc' := 120) (v := nI (16 * j7)) dX8_middle_119 rfl (pk_mul 16 j7) ?_
            refine ev_iconst (pc' := 121) (v := 4) dX8_middle_120 rfl ki_4 ?_
            refine ev_iload (pc' := 123) dX8_middle_121 rfl rfl ?_
            refine ev_imul (pc' := 124) (v := 4) dX8_middle_123 rfl (by decide) ?_
            refine ev_iadd (pc' := 125) (v := nI ((16 * j7) + 4)) dX8_middle_124 rfl (nI_add (16 * j7) 4) ?_
            refine ev_iload (pc' := 127) dX8_middle_125 rfl rfl ?_
            refine ev_iadd (pc' := 128) (v := nI (((16 * j7) + 4) + 2)) dX8_middle_127 rfl (nI_add ((16 * j7) + 4) 2) ?_
            refine ev_iald (pc' := 129) (j := ((16 * j7) + 4) + 2) (v := (I 123) (((16 * j7) + 4) + 2)) dX8_middle_128 rfl hs_123 rfl (by omega) (Nat.le_of_ble_eq_true rfl) rfl ?_
            refine ev_i2l (pc' := 130) (v := Int32.toInt64 ((I 123) (((16 * j7) + 4) + 2))) dX8_middle_129 rfl rfl ?_
            exact K38 _ (by rw [if_pos c39])
          · refine ev_aload_n (pc' := 92) (i := 0) dX8_middle_91 rfl rfl rfl ?_
            refine ev_getR (pc' := 95) fo_X8_37 dX8_middle_92 rfl hs_115 rfl rf_115_13 ?_
            refine ev_bipush (pc' := 97) (v := 16) dX8_middle_95 rfl kb_16 ?_
            refine ev_iload_n (pc' := 98) (i := 1) dX8_middle_97 rfl rfl rfl ?_
            refine ev_imul (pc' := 99) (v := nI (16 * j7)) dX8_middle_98 rfl (pk_mul 16 j7) ?_
            refine ev_iconst (pc' := 100) (v := 4) dX8_middle_99 rfl ki_4 ?_
            refine ev_iload (pc' := 102) dX8_middle_100 rfl rfl ?_
            refine ev_imul (pc' := 103) (v := 4) dX8_middle_102 rfl (by decide) ?_
            refine ev_iadd (pc' := 104) (v := nI ((16 * j7) + 4)) dX8_middle_103 rfl (nI_add (16 * j7) 4) ?_
            refine ev_iconst (pc' := 105) (v := 3) dX8_middle_104 rfl ki_3 ?_
            refine ev_iadd (pc' := 106) (v := nI (((16 * j7) + 4) + 3)) dX8_middle_105 rfl (nI_add ((16 * j7) + 4) 3) ?_
            refine ev_iald (pc' := 107) (j := ((16 * j7) + 4) + 3) (v := (I 123) (((16 * j7) + 4) + 3)) dX8_middle_106 rfl hs_123 rfl (by omega) (Nat.le_of_ble_eq_true rfl) rfl ?_
            refine ev_ineg (pc' := 108) (v := -((I 123) (((16 * j7) + 4) + 3))) dX8_middle_107 rfl rfl ?_
            refine ev_i2l (pc' := 109) (v := Int32.toInt64 (-((I 123) (((16 * j7) + 4) + 3)))) dX8_middle_108 rfl rfl ?_
            refine ev_goto (tgt := 130) dX8_middle_109 rfl ?_
            exact K38 _ (by rw [if_neg (not_not_intro c39)])
        intro x37 hx37
        subst hx37
        refine ev_last (pc' := 131) (j := 6) (L' := (ma_up K13 120 (ma_up (ma_up (ma_up (ma_up (ma_up (ma_up (K13 120) 0 (if ¬ 0 = (nI n2) then (Int32.toInt64 ((I 123) (((16 * j7) + 0) + 0))) else (Int32.toInt64 (-((I 123) (((16 * j7) + 0) + 3)))))) 1 (if ¬ 1 = (nI n2) then (Int32.toInt64 ((I 123) (((16 * j7) + 0) + 1))) else (Int32.toInt64 (-((I 123) (((16 * j7) + 0) + 3)))))) 2 (if ¬ 2 = (nI n2) then (Int32.toInt64 ((I 123) (((16 * j7) + 0) + 2))) else (Int32.toInt64 (-((I 123) (((16 * j7) + 0) + 3)))))) 4 (if ¬ 0 = (nI n2) then (Int32.toInt64 ((I 123) (((16 * j7) + 4) + 0))) else (Int32.toInt64 (-((I 123) (((16 * j7) + 4) + 3)))))) 5 (if ¬ 1 = (nI n2) then (Int32.toInt64 ((I 123) (((16 * j7) + 4) + 1))) else (Int32.toInt64 (-((I 123) (((16 * j7) + 4) + 3)))))) 6 (if ¬ 2 = (nI n2) then (Int32.toInt64 ((I 123) (((16 * j7) + 4) + 2))) else (Int32.toInt64 (-((I 123) (((16 * j7) + 4) + 3)))))))) dX8_middle_130 rfl hs_120 rfl (Nat.le_of_ble_eq_true rfl) (Nat.le_of_ble_eq_true rfl) (ma_up_up _ _ _ _) ?_
        refine ev_iinc (pc' := 134) (v := 3) (lv' := [some (.ref 115), some (.int (nI j7)), some (.int (nI n2)), some (.int 0), some (.long (Int32.toInt64 ((I 124) ((10 * j7) + 8)))), none, some (.int 1), some (.int 3)]) dX8_middle_131 rfl rfl (by decide) (Nat.le_of_ble_eq_true rfl) rfl rfl ?_
        refine ev_goto (tgt := 68) dX8_middle_134 rfl ?_
        refine ev_iload (pc' := 70) dX8_middle_68 rfl rfl ?_
        refine ev_iconst (pc' := 71) (v := 3) dX8_middle_70 rfl ki_3 ?_
        refine ev_icmp_ge (tgt := 137) (pc' := 74) dX8_middle_71 rfl rfl (fun _ => ?_) (fun h => absurd (by decide) h)
        refine ev_iinc (pc' := 140) (v := 2) (lv' := [some (.ref 115), some (.int (nI j7)), some (.int (nI n2)), some (.int 0), some (.long (Int32.toInt64 ((I 124) ((10 * j7) + 8)))), none, some (.int 2), some (.int 3)]) dX8_middle_137 rfl rfl (by decide) (Nat.le_of_ble_eq_true rfl) rfl rfl ?_
        refine ev_goto (tgt := 59) dX8_middle_140 rfl ?_
        refine ev_iload (pc' := 61) dX8_middle_59 rfl rfl ?_
        refine ev_iconst (pc' := 62) (v := 3) dX8_middle_61 rfl ki_3 ?_
        refine ev_icmp_ge (tgt := 143) (pc' := 65) dX8_middle_62 rfl rfl (fun h => absurd h (by decide)) (fun _ => ?_)
        refine ev_iconst (pc' := 66) (v := 0) dX8_middle_65 rfl ki_0 ?_
        refine ev_istore (pc' := 68) (lv' := [some (.ref 115), some (.int (nI j7)), some (.int (nI n2)), some (.int 0), some (.long (Int32.toInt64 ((I 124) ((10 * j7) + 8)))), none, some (.int 2), some (.int 0)]) dX8_middle_66 rfl (Nat.le_of_ble_eq_true rfl) rfl rfl ?_
        refine ev_iload (pc' := 70) dX8_middle_68 rfl rfl ?_
        refine ev_iconst (pc' := 71) (v := 3) dX8_middle_70 rfl ki_3 ?_
        refine ev_icmp_ge (tgt := 137) (pc' := 74) dX8_middle_71 rfl rfl (fun h => absurd h (by decide)) (fun _ => ?_)
        refine ev_aload_n (pc' := 75) (i := 0) dX8_middle_74 rfl rfl rfl ?_
        refine ev_getR (pc' := 78) fo_X8_26 dX8_middle_75 rfl hs_115 rfl rf_115_8 ?_
        refine ev_iconst (pc' := 79) (v := 4) dX8_middle_78 rfl ki_4 ?_
        refine ev_iload (pc' := 81) dX8_middle_79 rfl rfl ?_
        refine ev_imul (pc' := 82) (v := 8) dX8_middle_81 rfl (by decide) ?_
        refine ev_iload (pc' := 84) dX8_middle_82 rfl rfl ?_
        refine ev_iadd (pc' := 85) (v := 8) dX8_middle_84 rfl (by decide) ?_
        refine ev_iload (pc' := 87) dX8_middle_85 rfl rfl ?_
        refine ev_iload_n (pc' := 88) (i := 2) dX8_middle_87 rfl rfl rfl ?_
        suffices K42 : ∀ x41 : Int64, x41 = (if ¬ 0 = (nI n2) then (Int32.toInt64 ((I 123) (((16 * j7) + 8) + 0))) else (Int32.toInt64 (-((I 123) (((16 * j7) + 8) + 3))))) → EV g yX8_middle cX8_middle 8 (some .int) rX8_middle (ma_ZM g rX8_middle Post) 130 [some (.ref 115), some (.int (nI j7)), some (.int (nI n2)), some (.int 0), some (.long (Int32.toInt64 ((I 124) ((10 * j7) + 8)))), none, some (.int 2), some (.int 0)] [.long x41, .int 8, .ref 120] HS I (ma_up K13 120 (ma_up (ma_up (ma_up (ma_up (ma_up (ma_up (K13 120) 0 (if ¬ 0 = (nI n2) then (Int32.toInt64 ((I 123) (((16 * j7) + 0) + 0))) else (Int32.toInt64 (-((I 123) (((16 * j7) + 0) + 3)))))) 1 (if ¬ 1 = (nI n2) then (Int32.toInt64 ((I 123) (((16 * j7) + 0) + 1))) else (Int32.toInt64 (-((I 123) (((16 * j7) + 0) + 3)))))) 2 (if ¬ 2 = (nI n2) then (Int32.toInt64 ((I 123) (((16 * j7) + 0) + 2))) else (Int32.toInt64 (-((I 123) (((16 * j7) + 0) + 3)))))) 4 (if ¬ 0 = (nI n2) then (Int32.toInt64 ((I 123) (((16 * j7) + 4) + 0))) else (Int32.toInt64 (-((I 123) (((16 * j7) + 4) + 3)))))) 5 (if ¬ 1 = (nI n2) then (Int32.toInt64 ((I 123) (((16 * j7) + 4) + 1))) else (Int32.toInt64 (-((I 123) (((16 * j7) + 4) + 3)))))) 6 (if ¬ 2 = (nI n2) then (Int32.toInt64 ((I 123) (((16 * j7) + 4) + 2))) else (Int32.toInt64 (-((I 123) (((16 * j7) + 4) + 3))))))) RF 146 0 0 by
          refine ev_icmp_ne (tgt := 112) (pc' := 91) dX8_middle_88 rfl rfl (fun c43 => ?_) (fun c43 => ?_)
          · refine ev_aload_n (pc' := 113) (i := 0) dX8_middle_112 rfl rfl rfl ?_
            refine ev_getR (pc' := 116) fo_X8_37 dX8_middle_113 rfl hs_115 rfl rf_115_13 ?_
            refine ev_bipush (pc' := 118) (v := 16) dX8_middle_116 rfl kb_16 ?_
            refine ev_iload_n (pc' := 119) (i := 1) dX8_middle_118 rfl rfl rfl ?_
            refine ev_imul (pc' := 120) (v := nI (16 * j7)) dX8_middle_119 rfl (pk_mul 16 j7) ?_
            refine ev_iconst (pc' := 121) (v := 4) dX8_middle_120 rfl ki_4 ?_
            refine ev_iload (pc' := 123) dX8_middle_121 rfl rfl ?_
            refine ev_imul (pc' := 124) (v := 8) dX8_middle_123 rfl (by decide) ?_
            refine ev_iadd (pc' := 125) (v := nI ((16 * j7) + 8)) dX8_middle_124 rfl (nI_add (16 * j7) 8) ?_
            refine ev_iload (pc' := 127) dX8_middle_125 rfl rfl ?_
            refine ev_iadd (pc' := 128) (v := nI (((16 * j7) + 8) + 0)) dX8_middle_127 rfl (nI_add ((16 * j7) + 8) 0) ?_
            refine ev_iald (pc' := 129) (j := ((16 * j7) + 8) + 0) (v := (I 123) (((16 * j7) + 8) + 0)) dX8_middle_128 rfl hs_123 rfl (by omega) (Nat.le_of_ble_eq_true rfl) rfl ?_
            refine ev_i2l (pc' := 130) (v := Int32.toInt64 ((I 123) (((16 * j7) + 8) + 0))) dX8_middle_129 rfl rfl ?_
            exact K42 _ (by rw [if_pos c43])
          · refine ev_aload_n (pc' := 92) (i := 0) dX8_middle_91 rfl rfl rfl ?_
            refine ev_getR (pc' := 95) fo_X8_37 dX8_middle_92 rfl hs_115 rfl rf_115_13 ?_
            refine ev_bipush (pc' := 97) (v := 16) dX8_middle_95 rfl kb_16 ?_
            refine ev_iload_n (pc' := 98) (i := 1) dX8_middle_97 rfl rfl rfl ?_
            refine ev_imul (pc' := 99) (v := nI (16 * j7)) dX8_middle_98 rfl (pk_mul 16 j7) ?_
            refine ev_iconst (pc' := 100) (v := 4) dX8_middle_99 rfl ki_4 ?_
            refine ev_iload (pc' := 102) dX8_middle_100 rfl rfl ?_
            refine ev_imul (pc' := 103) (v := 8) dX8_middle_102 rfl (by decide) ?_
            refine ev_iadd (pc' := 104) (v := nI ((16 * j7) + 8)) dX8_middle_103 rfl (nI_add (16 * j7) 8) ?_
            refine ev_iconst (pc' := 105) (v := 3) dX8_middle_104 rfl ki_3 ?_
            refine ev_iadd (pc' := 106) (v := nI (((16 * j7) + 8) + 3)) dX8_middle_105 rfl (nI_add ((16 * j7) + 8) 3) ?_
            refine ev_iald (pc' := 107) (j := ((16 * j7) + 8) + 3) (v := (I 123) (((16 * j7) + 8) + 3)) dX8_middle_106 rfl hs_123 rfl (by omega) (Nat.le_of_ble_eq_true rfl) rfl ?_
            refine ev_ineg (pc' := 108) (v := -((I 123) (((16 * j7) + 8) + 3))) dX8_middle_107 rfl rfl ?_
            refine ev_i2l (pc' := 109) (v := Int32.toInt64 (-((I 123) (((16 * j7) + 8) + 3)))) dX8_middle_108 rfl rfl ?_
            refine ev_goto (tgt := 130) dX8_middle_109 rfl ?_
            exact K42 _ (by rw [if_neg (not_not_intro c43)])
        intro x41 hx41
        subst hx41
        refine ev_last (pc' := 131) (j := 8) (L' := (ma_up K13 120 (ma_up (ma_up (ma_up (ma_up (ma_up (ma_up (ma_up (K13 120) 0 (if ¬ 0 = (nI n2) then (Int32.toInt64 ((I 123) (((16 * j7) + 0) + 0))) else (Int32.toInt64 (-((I 123) (((16 * j7) + 0) + 3)))))) 1 (if ¬ 1 = (nI n2) then (Int32.toInt64 ((I 123) (((16 * j7) + 0) + 1))) else (Int32.toInt64 (-((I 123) (((16 * j7) + 0) + 3)))))) 2 (if ¬ 2 = (nI n2) then (Int32.toInt64 ((I 123) (((16 * j7) + 0) + 2))) else (Int32.toInt64 (-((I 123) (((16 * j7) + 0) + 3)))))) 4 (if ¬ 0 = (nI n2) then (Int32.toInt64 ((I 123) (((16 * j7) + 4) + 0))) else (Int32.toInt64 (-((I 123) (((16 * j7) + 4) + 3)))))) 5 (if ¬ 1 = (nI n2) then (Int32.toInt64 ((I 123) (((16 * j7) + 4) + 1))) else (Int32.toInt64 (-((I 123) (((16 * j7) + 4) + 3)))))) 6 (if ¬ 2 = (nI n2) then (Int32.toInt64 ((I 123) (((16 * j7) + 4) + 2))) else (Int32.toInt64 (-((I 123) (((16 * j7) + 4) + 3)))))) 8 (if ¬ 0 = (nI n2) then (Int32.toInt64 ((I 123) (((16 * j7) + 8) + 0))) else (Int32.toInt64 (-((I 123) (((16 * j7) + 8) + 3)))))))) dX8_middle_130 rfl hs_120 rfl (Nat.le_of_ble_eq_true rfl) (Nat.le_of_ble_eq_true rfl) (ma_up_up _ _ _ _) ?_
        refine ev_iinc (pc' := 134) (v := 1) (lv' := [some (.ref 115), some (.int (nI j7)), some (.int (nI n2)), some (.int 0), some (.long (Int32.toInt64 ((I 124) ((10 * j7) + 8)))), none, some (.int 2), some (.int 1)]) dX8_middle_131 rfl rfl (by decide) (Nat.le_of_ble_eq_true rfl) rfl rfl ?_
        refine ev_goto (tgt := 68) dX8_middle_134 rfl ?_
        refine ev_iload (pc' := 70) dX8_middle_68 rfl rfl ?_
        refine ev_iconst (pc' := 71) (v := 3) dX8_middle_70 rfl ki_3 ?_
        refine ev_icmp_ge (tgt := 137) (pc' := 74) dX8_middle_71 rfl rfl (fun h => absurd h (by decide)) (fun _ => ?_)
        refine ev_aload_n (pc' := 75) (i := 0) dX8_middle_74 rfl rfl rfl ?_
        refine ev_getR (pc' := 78) fo_X8_26 dX8_middle_75 rfl hs_115 rfl rf_115_8 ?_
        refine ev_iconst (pc' := 79) (v := 4) dX8_middle_78 rfl ki_4 ?_
        refine ev_iload (pc' := 81) dX8_middle_79 rfl rfl ?_
        refine ev_imul (pc' := 82) (v := 8) dX8_middle_81 rfl (by decide) ?_
        refine ev_iload (pc' := 84) dX8_middle_82 rfl rfl ?_
        refine ev_iadd (pc' := 85) (v := 9) dX8_middle_84 rfl (by decide) ?_
        refine ev_iload (pc' := 87) dX8_middle_85 rfl rfl ?_
        refine ev_iload_n (pc' := 88) (i := 2) dX8_middle_87 rfl rfl rfl ?_
        suffices K46 : ∀ x45 : Int64, x45 = (if ¬ 1 = (nI n2) then (Int32.toInt64 ((I 123) (((16 * j7) + 8) + 1))) else (Int32.toInt64 (-((I 123) (((16 * j7) + 8) + 3))))) → EV g yX8_middle cX8_middle 8 (some .int) rX8_middle (ma_ZM g rX8_middle Post) 130 [some (.ref 115), some (.int (nI j7)), some (.int (nI n2)), some (.int 0), some (.long (Int32.toInt64 ((I 124) ((10 * j7) + 8)))), none, some (.int 2), some (.int 1)] [.long x45, .int 9, .ref 120] HS I (ma_up K13 120 (ma_up (ma_up (ma_up (ma_up (ma_up (ma_up (ma_up (K13 120) 0 (if ¬ 0 = (nI n2) then (Int32.toInt64 ((I 123) (((16 * j7) + 0) + 0))) else (Int32.toInt64 (-((I 123) (((16 * j7) + 0) + 3)))))) 1 (if ¬ 1 = (nI n2) then (Int32.toInt64 ((I 123) (((16 * j7) + 0) + 1))) else (Int32.toInt64 (-((I 123) (((16 * j7) + 0) + 3)))))) 2 (if ¬ 2 = (nI n2) then (Int32.toInt64 ((I 123) (((16 * j7) + 0) + 2))) else (Int32.toInt64 (-((I 123) (((16 * j7) + 0) + 3)))))) 4 (if ¬ 0 = (nI n2) then (Int32.toInt64 ((I 123) (((16 * j7) + 4) + 0))) else (Int32.toInt64 (-((I 123) (((16 * j7) + 4) + 3)))))) 5 (if ¬ 1 = (nI n2) then (Int32.toInt64 ((I 123) (((16 * j7) + 4) + 1))) else (Int32.toInt64 (-((I 123) (((16 * j7) + 4) + 3)))))) 6 (if ¬ 2 = (nI n2) then (Int32.toInt64 ((I 123) (((16 * j7) + 4) + 2))) else (Int32.toInt64 (-((I 123) (((16 * j7) + 4) + 3)))))) 8 (if ¬ 0 = (nI n2) then (Int32.toInt64 ((I 123) (((16 * j7) + 8) + 0))) else (Int32.toInt64 (-((I 123) (((16 * j7) + 8) + 3))))))) RF 146 0 0 by
          refine ev_icmp_ne (tgt := 112) (pc' := 91) dX8_middle_88 rfl rfl (fun c47 => ?_) (fun c47 => ?_)
          · refine ev_aload_n (pc' := 113) (i := 0) dX8_middle_112 rfl rfl rfl ?_
            refine ev_getR (pc' := 116) fo_X8_37 dX8_middle_113 rfl hs_115 rfl rf_115_13 ?_
            refine ev_bipush (pc' := 118) (v := 16) dX8_middle_116 rfl kb_16 ?_
            refine ev_iload_n (pc' := 119) (i := 1) dX8_middle_118 rfl rfl rfl ?_
            refine ev_imul (pc' := 120) (v := nI (16 * j7)) dX8_middle_119 rfl (pk_mul 16 j7) ?_
            refine ev_iconst (pc' := 121) (v := 4) dX8_middle_120 rfl ki_4 ?_
            refine ev_iload (pc' := 123) dX8_middle_121 rfl rfl ?_
            refine ev_imul (pc' := 124) (v := 8) dX8_middle_123 rfl (by decide) ?_
            refine ev_iadd (pc' := 125) (v := nI ((16 * j7) + 8)) dX8_middle_124 rfl (nI_add (16 * j7) 8) ?_
            refine ev_iload (pc' := 127) dX8_middle_125 rfl rfl ?_
            refine ev_iadd (pc' := 128) (v := nI (((16 * j7) + 8) + 1)) dX8_middle_127 rfl (nI_add ((16 * j7) + 8) 1) ?_
            refine ev_iald (pc' := 129) (j := ((16 * j7) + 8) + 1) (v := (I 123) (((16 * j7) + 8) + 1)) dX8_middle_128 rfl hs_123 rfl (by omega) (Nat.le_of_ble_eq_true rfl) rfl ?_
            refine ev_i2l (pc' := 130) (v := Int32.toInt64 ((I 123) (((16 * j7) + 8) + 1))) dX8_middle_129 rfl rfl ?_
            exact K46 _ (by rw [if_pos c47])
          · refine ev_aload_n (pc' := 92) (i := 0) dX8_middle_91 rfl rfl rfl ?_
            refine ev_getR (pc' := 95) fo_X8_37 dX8_middle_92 rfl hs_115 rfl rf_115_13 ?_
            refine ev_bipush (pc' := 97) (v := 16) dX8_middle_95 rfl kb_16 ?_
            refine ev_iload_n (pc' := 98) (i := 1) dX8_middle_97 rfl rfl rfl ?_
            refine ev_imul (pc' := 99) (v := nI (16 * j7)) dX8_middle_98 rfl (pk_mul 16 j7) ?_
            refine ev_iconst (pc' := 100) (v := 4) dX8_middle_99 rfl ki_4 ?_
            refine ev_iload (pc' := 102) dX8_middle_100 rfl rfl ?_
            refine ev_imul (pc' := 103) (v := 8) dX8_middle_102 rfl (by decide) ?_
            refine ev_iadd (pc' := 104) (v := nI ((16 * j7) + 8)) dX8_middle_103 rfl (nI_add (16 * j7) 8) ?_
            refine ev_iconst (pc' := 105) (v := 3) dX8_middle_104 rfl ki_3 ?_
            refine ev_iadd (pc' := 106) (v := nI (((16 * j7) + 8) + 3)) dX8_middle_105 rfl (nI_add ((16 * j7) + 8) 3) ?_
            refine ev_iald (pc' := 107) (j := ((16 * j7) + 8) + 3) (v := (I 123) (((16 * j7) + 8) + 3)) dX8_middle_106 rfl hs_123 rfl (by omega) (Nat.le_of_ble_eq_true rfl) rfl ?_
            refine ev_ineg (pc' := 108) (v := -((I 123) (((16 * j7) + 8) + 3))) dX8_middle_107 rfl rfl ?_
            refine ev_i2l (pc' := 109) (v := Int32.toInt64 (-((I 123) (((16 * j7) + 8) + 3)))) dX8_middle_108 rfl rfl ?_
            refine ev_goto (tgt := 130) dX8_middle_109 rfl ?_
            exact K46 _ (by rw [if_neg (not_not_intro c47)])
        intro x45 hx45
        subst hx45
        refine ev_last (pc' := 131) (j := 9) (L' := (ma_up K13 120 (ma_up (ma_up (ma_up (ma_up (ma_up (ma_up (ma_up (ma_up (K13 120) 0 (if ¬ 0 = (nI n2) then (Int32.toInt64 ((I 123) (((16 * j7) + 0) + 0))) else (Int32.toInt64 (-((I 123) (((16 * j7) + 0) + 3)))))) 1 (if ¬ 1 = (nI n2) then (Int32.toInt64 ((I 123) (((16 * j7) + 0) + 1))) else (Int32.toInt64 (-((I 123) (((16 * j7) + 0) + 3)))))) 2 (if ¬ 2 = (nI n2) then (Int32.toInt64 ((I 123) (((16 * j7) + 0) + 2))) else (Int32.toInt64 (-((I 123) (((16 * j7) + 0) + 3)))))) 4 (if ¬ 0 = (nI n2) then (Int32.toInt64 ((I 123) (((16 * j7) + 4) + 0))) else (Int32.toInt64 (-((I 123) (((16 * j7) + 4) + 3)))))) 5 (if ¬ 1 = (nI n2) then (Int32.toInt64 ((I 123) (((16 * j7) + 4) + 1))) else (Int32.toInt64 (-((I 123) (((16 * j7) + 4) + 3)))))) 6 (if ¬ 2 = (nI n2) then (Int32.toInt64 ((I 123) (((16 * j7) + 4) + 2))) else (Int32.toInt64 (-((I 123) (((16 * j7) + 4) + 3)))))) 8 (if ¬ 0 = (nI n2) then (Int32.toInt64 ((I 123) (((16 * j7) + 8) + 0))) else (Int32.toInt64 (-((I 123) (((16 * j7) + 8) + 3)))))) 9 (if ¬ 1 = (nI n2) then (Int32.toInt64 ((I 123) (((16 * j7) + 8) + 1))) else (Int32.toInt64 (-((I 123) (((16 * j7) + 8) + 3)))))))) dX8_middle_130 rfl hs_120 rfl (Nat.le_of_ble_eq_true rfl) (Nat.le_of_ble_eq_true rfl) (ma_up_up _ _ _ _) ?_
        refine ev_iinc (pc' := 134) (v := 2) (lv' := [some (.ref 115), some (.int (nI j7)), some (.int (nI n2)), some (.int 0), some (.long (Int32.toInt64 ((I 124) ((10 * j7) + 8)))), none, some (.int 2), some (.int 2)]) dX8_middle_131 rfl rfl (by decide) (Nat.le_of_ble_eq_true rfl) rfl rfl ?_
        refine ev_goto (tgt := 68) dX8_middle_134 rfl ?_
        refine ev_iload (pc' := 70) dX8_middle_68 rfl rfl ?_
        refine ev_iconst (pc' := 71) (v := 3) dX8_middle_70 rfl ki_3 ?_
        refine ev_icmp_ge (tgt := 137) (pc' := 74) dX8_middle_71 rfl rfl (fun h => absurd h (by decide)) (fun _ => ?_)
        refine ev_aload_n (pc' := 75) (i := 0) dX8_middle_74 rfl rfl rfl ?_
        refine ev_getR (pc' := 78) fo_X8_26 dX8_middle_75 rfl hs_115 rfl rf_115_8 ?_
        refine ev_iconst (pc' := 79) (v := 4) dX8_middle_78 rfl ki_4 ?_
        refine ev_iload (pc' := 81) dX8_middle_79 rfl rfl ?_
        refine ev_imul (pc' := 82) (v := 8) dX8_middle_81 rfl (by decide) ?_
        refine ev_iload (pc' := 84) dX8_middle_82 rfl rfl ?_
        refine ev_iadd (pc' := 85) (v := 10) dX8_middle_84 rfl (by decide) ?_
        refine ev_iload (pc' := 87) dX8_middle_85 rfl rfl ?_
        refine ev_iload_n (pc' := 88) (i := 2) dX8_middle_87 rfl rfl rfl ?_
        suffices K50 : ∀ x49 : Int64, x49 = (if ¬ 2 = (nI n2) then (Int32.toInt64 ((I 123) (((16 * j7) + 8) + 2))) else (Int32.toInt64 (-((I 123) (((16 * j7) + 8) + 3))))) → EV g yX8_middle cX8_middle 8 (some .int) rX8_middle (ma_ZM g rX8_middle Post) 130 [some (.ref 115), some (.int (nI j7)), some (.int (nI n2)), some (.int 0), some (.long (Int32.toInt64 ((I 124) ((10 * j7) + 8)))), none, some (.int 2), some (.int 2)] [.long x49, .int 10, .ref 120] HS I (ma_up K13 120 (ma_up (ma_up (ma_up (ma_up (ma_up (ma_up (ma_up (ma_up (K13 120) 0 (if ¬ 0 = (nI n2) then (Int32.toInt64 ((I 123) (((16 * j7) + 0) + 0))) else (Int32.toInt64 (-((I 123) (((16 * j7) + 0) + 3)))))) 1 (if ¬ 1 = (nI n2) then (Int32.toInt64 ((I 123) (((16 * j7) + 0) + 1))) else (Int32.toInt64 (-((I 123) (((16 * j7) + 0) + 3)))))) 2 (if ¬ 2 = (nI n2) then (Int32.toInt64 ((I 123) (((16 * j7) + 0) + 2))) else (Int32.toInt64 (-((I 123) (((16 * j7) + 0) + 3)))))) 4 (if ¬ 0 = (nI n2) then (Int32.toInt64 ((I 123) (((16 * j7) + 4) + 0))) else (Int32.toInt64 (-((I 123) (((16 * j7) + 4) + 3)))))) 5 (if ¬ 1 = (nI n2) then (Int32.toInt64 ((I 123) (((16 * j7) + 4) + 1))) else (Int32.toInt64 (-((I 123) (((16 * j7) + 4) + 3)))))) 6 (if ¬ 2 = (nI n2) then (Int32.toInt64 ((I 123) (((16 * j7) + 4) + 2))) else (Int32.toInt64 (-((I 123) (((16 * j7) + 4) + 3)))))) 8 (if ¬ 0 = (nI n2) then (Int32.toInt64 ((I 123) (((16 * j7) + 8) + 0))) else (Int32.toInt64 (-((I 123) (((16 * j7) + 8) + 3)))))) 9 (if ¬ 1 = (nI n2) then (Int32.toInt64 ((I 123) (((16 * j7) + 8) + 1))) else (Int32.toInt64 (-((I 123) (((16 * j7) + 8) + 3))))))) RF 146 0 0 by
          refine ev_icmp_ne (tgt := 112) (pc' := 91) dX8_middle_88 rfl rfl (fun c51 => ?_) (fun c51 => ?_)
          · refine ev_aload_n (pc' := 113) (i := 0) dX8_middle_112 rfl rfl rfl ?_
            refine ev_getR (pc' := 116) fo_X8_37 dX8_middle_113 rfl hs_115 rfl rf_115_13 ?_
            refine ev_bipush (pc' := 118) (v := 16) dX8_middle_116 rfl kb_16 ?_
            refine ev_iload_n (pc' := 119) (i := 1) dX8_middle_118 rfl rfl rfl ?_
            refine ev_imul (pc' := 120) (v := nI (16 * j7)) dX8_middle_119 rfl (pk_mul 16 j7) ?_
            refine ev_iconst (pc' := 121) (v := 4) dX8_middle_120 rfl ki_4 ?_
            refine ev_iload (pc' := 123) dX8_middle_121 rfl rfl ?_
            refine ev_imul (pc' := 124) (v := 8) dX8_middle_123 rfl (by decide) ?_
            refine ev_iadd (pc' := 125) (v := nI ((16 * j7) + 8)) dX8_middle_124 rfl (nI_add (16 * j7) 8) ?_
            refine ev_iload (pc' := 127) dX8_middle_125 rfl rfl ?_
            refine ev_iadd (pc' := 128) (v := nI (((16 * j7) + 8) + 2)) dX8_middle_127 rfl (nI_add ((16 * j7) + 8) 2) ?_
            refine ev_iald (pc' := 129) (j := ((16 * j7) + 8) + 2) (v := (I 123) (((16 * j7) + 8) + 2)) dX8_middle_128 rfl hs_123 rfl (by omega) (Nat.le_of_ble_eq_true rfl) rfl ?_
            refine ev_i2l (pc' := 130) (v := Int32.toInt64 ((I 123) (((16 * j7) + 8) + 2))) dX8_middle_129 rfl rfl ?_
            exact K50 _ (by rw [if_pos c51])
          · refine ev_aload_n (pc' := 92) (i := 0) dX8_middle_91 rfl rfl rfl ?_
            refine ev_getR (pc' := 95) fo_X8_37 dX8_middle_92 rfl hs_115 rfl rf_115_13 ?_
            refine ev_bipush (pc' := 97) (v := 16) dX8_middle_95 rfl kb_16 ?_
            refine ev_iload_n (pc' := 98) (i := 1) dX8_middle_97 rfl rfl rfl ?_
            refine ev_imul (pc' := 99) (v := nI (16 * j7)) dX8_middle_98 rfl (pk_mul 16 j7) ?_
            refine ev_iconst (pc' := 100) (v := 4) dX8_middle_99 rfl ki_4 ?_
            refine ev_iload (pc' := 102) dX8_middle_100 rfl rfl ?_
            refine ev_imul (pc' := 103) (v := 8) dX8_middle_102 rfl (by decide) ?_
            refine ev_iadd (pc' := 104) (v := nI ((16 * j7) + 8)) dX8_middle_103 rfl (nI_add (16 * j7) 8) ?_
            refine ev_iconst (pc' := 105) (v := 3) dX8_middle_104 rfl ki_3 ?_
            refine ev_iadd (pc' := 106) (v := nI (((16 * j7) + 8) + 3)) dX8_middle_105 rfl (nI_add ((16 * j7) + 8) 3) ?_
            refine ev_iald (pc' := 107) (j := ((16 * j7) + 8) + 3) (v := (I 123) (((16 * j7) + 8) + 3)) dX8_middle_106 rfl hs_123 rfl (by omega) (Nat.le_of_ble_eq_true rfl) rfl ?_
            refine ev_ineg (pc' := 108) (v := -((I 123) (((16 * j7) + 8) + 3))) dX8_middle_107 rfl rfl ?_
            refine ev_i2l (pc' := 109) (v := Int32.toInt64 (-((I 123) (((16 * j7) + 8) + 3)))) dX8_middle_108 rfl rfl ?_
            refine ev_goto (tgt := 130) dX8_middle_109 rfl ?_
            exact K50 _ (by rw [if_neg (not_not_intro c51)])
        intro x49 hx49
        subst hx49
        refine ev_last (pc' := 131) (j := 10) (L' := (ma_up K13 120 (ma_up (ma_up (ma_up (ma_up (ma_up (ma_up (ma_up (ma_up (ma_up (K13 120) 0 (if ¬ 0 = (nI n2) then (Int32.toInt64 ((I 123) (((16 * j7) + 0) + 0))) else (Int32.toInt64 (-((I 123) (((16 * j7) + 0) + 3)))))) 1 (if ¬ 1 = (nI n2) then (Int32.toInt64 ((I 123) (((16 * j7) + 0) + 1))) else (Int32.toInt64 (-((I 123) (((16 * j7) + 0) + 3)))))) 2 (if ¬ 2 = (nI n2) then (Int32.toInt64 ((I 123) (((16 * j7) + 0) + 2))) else (Int32.toInt64 (-((I 123) (((16 * j7) + 0) + 3)))))) 4 (if ¬ 0 = (nI n2) then (Int32.toInt64 ((I 123) (((16 * j7) + 4) + 0))) else (Int32.toInt64 (-((I 123) (((16 * j7) + 4) + 3)))))) 5 (if ¬ 1 = (nI n2) then (Int32.toInt64 ((I 123) (((16 * j7) + 4) + 1))) else (Int32.toInt64 (-((I 123) (((16 * j7) + 4) + 3)))))) 6 (if ¬ 2 = (nI n2) then (Int32.toInt64 ((I 123) (((16 * j7) + 4) + 2))) else (Int32.toInt64 (-((I 123) (((16 * j7) + 4) + 3)))))) 8 (if ¬ 0 = (nI n2) then (Int32.toInt64 ((I 123) (((16 * j7) + 8) + 0))) else (Int32.toInt64 (-((I 123) (((16 * j7) + 8) + 3)))))) 9 (if ¬ 1 = (nI n2) then (Int32.toInt64 ((I 123) (((16 * j7) + 8) + 1))) else (Int32.toInt64 (-((I 123) (((16 * j7) + 8) + 3)))))) 10 (if ¬ 2 = (nI n2) then (Int32.toInt64 ((I 123) (((16 * j7) + 8) + 2))) else (Int32.toInt64 (-((I 123) (((16 * j7) + 8) + 3)))))))) dX8_middle_130 rfl hs_120 rfl (Nat.le_of_ble_eq_true rfl) (Nat.le_of_ble_eq_true rfl) (ma_up_up _ _ _ _) ?_
        refine ev_iinc (pc' := 134) (v := 3) (lv' := [some (.ref 115), some (.int (nI j7)), some (.int (nI n2)), some (.int 0), some (.long (Int32.toInt64 ((I 124) ((10 * j7) + 8)))), none, some (.int 2), some (.int 3)]) dX8_middle_131 rfl rfl (by decide) (Nat.le_of_ble_eq_true rfl) rfl rfl ?_
        refine ev_goto (tgt := 68) dX8_middle_134 rfl ?_
        refine ev_iload (pc' := 70) dX8_middle_68 rfl rfl ?_
        refine ev_iconst (pc' := 71) (v := 3) dX8_middle_70 rfl ki_3 ?_
        refine ev_icmp_ge (tgt := 137) (pc' := 74) dX8_middle_71 rfl rfl (fun _ => ?_) (fun h => absurd (by decide) h)
        refine ev_iinc (pc' := 140) (v := 3) (lv' := [some (.ref 115), some (.int (nI j7)), some (.int (nI n2)), some (.int 0), some (.long (Int32.toInt64 ((I 124) ((10 * j7) + 8)))), none, some (.int 3), some (.int 3)]) dX8_middle_137 rfl rfl (by decide) (Nat.le_of_ble_eq_true rfl) rfl rfl ?_
        refine ev_goto (tgt := 59) dX8_middle_140 rfl ?_
        refine ev_iload (pc' := 61) dX8_middle_59 rfl rfl ?_
        refine ev_iconst (pc' := 62) (v := 3) dX8_middle_61 rfl ki_3 ?_
        refine ev_icmp_ge (tgt := 143) (pc' := 65) dX8_middle_62 rfl rfl (fun _ => ?_) (fun h => absurd (by decide) h)
        refine ev_aload_n (pc' := 144) (i := 0) dX8_middle_143 rfl rfl rfl ?_
        refine ev_getR (pc' := 147) fo_X8_26 dX8_middle_144 rfl hs_115 rfl rf_115_8 ?_
        refine ev_iconst (pc' := 148) (v := 0) dX8_middle_147 rfl ki_0 ?_
        refine ev_lald (pc' := 149) (j := 0) (v := (if ¬ 0 = (nI n2) then (Int32.toInt64 ((I 123) (((16 * j7) + 0) + 0))) else (Int32.toInt64 (-((I 123) (((16 * j7) + 0) + 3)))))) dX8_middle_148 rfl hs_120 rfl (Nat.le_of_ble_eq_true rfl) (Nat.le_of_ble_eq_true rfl) rfl ?_
        refine ev_aload_n (pc' := 150) (i := 0) dX8_middle_149 rfl rfl rfl ?_
        refine ev_getR (pc' := 153) fo_X8_26 dX8_middle_150 rfl hs_115 rfl rf_115_8 ?_
        refine ev_iconst (pc' := 154) (v := 5) dX8_middle_153 rfl ki_5 ?_
        refine ev_lald (pc' := 155) (j := 5) (v := (if ¬ 1 = (nI n2) then (Int32.toInt64 ((I 123) (((16 * j7) + 4) + 1))) else (Int32.toInt64 (-((I 123) (((16 * j7) + 4) + 3)))))) dX8_middle_154 rfl hs_120 rfl (Nat.le_of_ble_eq_true rfl) (Nat.le_of_ble_eq_true rfl) rfl ?_
        refine ev_aload_n (pc' := 156) (i := 0) dX8_middle_155 rfl rfl rfl ?_
        refine ev_getR (pc' := 159) fo_X8_26 dX8_middle_156 rfl hs_115 rfl rf_115_8 ?_
        refine ev_bipush (pc' := 161) (v := 10) dX8_middle_159 rfl kb_10 ?_
        refine ev_lald (pc' := 162) (j := 10) (v := (if ¬ 2 = (nI n2) then (Int32.toInt64 ((I 123) (((16 * j7) + 8) + 2))) else (Int32.toInt64 (-((I 123) (((16 * j7) + 8) + 3)))))) dX8_middle_161 rfl hs_120 rfl (Nat.le_of_ble_eq_true rfl) (Nat.le_of_ble_eq_true rfl) rfl ?_
        refine ev_lmul (pc' := 163) (v := (if ¬ 1 = (nI n2) then (Int32.toInt64 ((I 123) (((16 * j7) + 4) + 1))) else (Int32.toInt64 (-((I 123) (((16 * j7) + 4) + 3))))) * (if ¬ 2 = (nI n2) then (Int32.toInt64 ((I 123) (((16 * j7) + 8) + 2))) else (Int32.toInt64 (-((I 123) (((16 * j7) + 8) + 3)))))) dX8_middle_162 rfl rfl ?_
        refine ev_aload_n (pc' := 164) (i := 0) dX8_middle_163 rfl rfl rfl ?_
        refine ev_getR (pc' := 167) fo_X8_26 dX8_middle_164 rfl hs_115 rfl rf_115_8 ?_
        refine ev_bipush (pc' := 169) (v := 6) dX8_middle_167 rfl kb_6 ?_
        refine ev_lald (pc' := 170) (j := 6) (v := (if ¬ 2 = (nI n2) then (Int32.toInt64 ((I 123) (((16 * j7) + 4) + 2))) else (Int32.toInt64 (-((I 123) (((16 * j7) + 4) + 3)))))) dX8_middle_169 rfl hs_120 rfl (Nat.le_of_ble_eq_true rfl) (Nat.le_of_ble_eq_true rfl) rfl ?_
        refine ev_aload_n (pc' := 171) (i := 0) dX8_middle_170 rfl rfl rfl ?_
        refine ev_getR (pc' := 174) fo_X8_26 dX8_middle_171 rfl hs_115 rfl rf_115_8 ?_
        refine ev_bipush (pc' := 176) (v := 9) dX8_middle_174 rfl kb_9 ?_
        refine ev_lald (pc' := 177) (j := 9) (v := (if ¬ 1 = (nI n2) then (Int32.toInt64 ((I 123) (((16 * j7) + 8) + 1))) else (Int32.toInt64 (-((I 123) (((16 * j7) + 8) + 3)))))) dX8_middle_176 rfl hs_120 rfl (Nat.le_of_ble_eq_true rfl) (Nat.le_of_ble_eq_true rfl) rfl ?_
        refine ev_lmul (pc' := 178) (v := (if ¬ 2 = (nI n2) then (Int32.toInt64 ((I 123) (((16 * j7) + 4) + 2))) else (Int32.toInt64 (-((I 123) (((16 * j7) + 4) + 3))))) * (if ¬ 1 = (nI n2) then (Int32.toInt64 ((I 123) (((16 * j7) + 8) + 1))) else (Int32.toInt64 (-((I 123) (((16 * j7) + 8) + 3)))))) dX8_middle_177 rfl rfl ?_
        refine ev_lsub (pc' := 179) (v := ((if ¬ 1 = (nI n2) then (Int32.toInt64 ((I 123) (((16 * j7) + 4) + 1))) else (Int32.toInt64 (-((I 123) (((16 * j7) + 4) + 3))))) * (if ¬ 2 = (nI n2) then (Int32.toInt64 ((I 123) (((16 * j7) + 8) + 2))) else (Int32.toInt64 (-((I 123) (((16 * j7) + 8) + 3)))))) - ((if ¬ 2 = (nI n2) then (Int32.toInt64 ((I 123) (((16 * j7) + 4) + 2))) else (Int32.toInt64 (-((I 123) (((16 * j7) + 4) + 3))))) * (if ¬ 1 = (nI n2) then (Int32.toInt64 ((I 123) (((16 * j7) + 8) + 1))) else (Int32.toInt64 (-((I 123) (((16 * j7) + 8) + 3))))))) dX8_middle_178 rfl rfl ?_
        refine ev_lmul (pc' := 180) (v := (if ¬ 0 = (nI n2) then (Int32.toInt64 ((I 123) (((16 * j7) + 0) + 0))) else (Int32.toInt64 (-((I 123) (((16 * j7) + 0) + 3))))) * (((if ¬ 1 = (nI n2) then (Int32.toInt64 ((I 123) (((16 * j7) + 4) + 1))) else (Int32.toInt64 (-((I 123) (((16 * j7) + 4) + 3))))) * (if ¬ 2 = (nI n2) then (Int32.toInt64 ((I 123) (((16 * j7) + 8) + 2))) else (Int32.toInt64 (-((I 123) (((16 * j7) + 8) + 3)))))) - ((if ¬ 2 = (nI n2) then (Int32.toInt64 ((I 123) (((16 * j7) + 4) + 2))) else (Int32.toInt64 (-((I 123) (((16 * j7) + 4) + 3))))) * (if ¬ 1 = (nI n2) then (Int32.toInt64 ((I 123) (((16 * j7) + 8) + 1))) else (Int32.toInt64 (-((I 123) (((16 * j7) + 8) + 3)))))))) dX8_middle_179 rfl rfl ?_
        refine ev_aload_n (pc' := 181) (i := 0) dX8_middle_180 rfl rfl rfl ?_
        refine ev_getR (pc' := 184) fo_X8_26 dX8_middle_181 rfl hs_115 rfl rf_115_8 ?_
        refine ev_iconst (pc' := 185) (v := 1) dX8_middle_184 rfl ki_1 ?_
        refine ev_lald (pc' := 186) (j := 1) (v := (if ¬ 1 = (nI n2) then (Int32.toInt64 ((I 123) (((16 * j7) + 0) + 1))) else (Int32.toInt64 (-((I 123) (((16 * j7) + 0) + 3)))))) dX8_middle_185 rfl hs_120 rfl (Nat.le_of_ble_eq_true rfl) (Nat.le_of_ble_eq_true rfl) rfl ?_
        refine ev_aload_n (pc' := 187) (i := 0) dX8_middle_186 rfl rfl rfl ?_
        refine ev_getR (pc' := 190) fo_X8_26 dX8_middle_187 rfl hs_115 rfl rf_115_8 ?_
        refine ev_iconst (pc' := 191) (v := 4) dX8_middle_190 rfl ki_4 ?_
        refine ev_lald (pc' := 192) (j := 4) (v := (if ¬ 0 = (nI n2) then (Int32.toInt64 ((I 123) (((16 * j7) + 4) + 0))) else (Int32.toInt64 (-((I 123) (((16 * j7) + 4) + 3)))))) dX8_middle_191 rfl hs_120 rfl (Nat.le_of_ble_eq_true rfl) (Nat.le_of_ble_eq_true rfl) rfl ?_
        refine ev_aload_n (pc' := 193) (i := 0) dX8_middle_192 rfl rfl rfl ?_
        refine ev_getR (pc' := 196) fo_X8_26 dX8_middle_193 rfl hs_115 rfl rf_115_8 ?_
        refine ev_bipush (pc' := 198) (v := 10) dX8_middle_196 rfl kb_10 ?_
        refine ev_lald (pc' := 199) (j := 10) (v := (if ¬ 2 = (nI n2) then (Int32.toInt64 ((I 123) (((16 * j7) + 8) + 2))) else (Int32.toInt64 (-((I 123) (((16 * j7) + 8) + 3)))))) dX8_middle_198 rfl hs_120 rfl (Nat.le_of_ble_eq_true rfl) (Nat.le_of_ble_eq_true rfl) rfl ?_
        refine ev_lmul (pc' := 200) (v := (if ¬ 0 = (nI n2) then (Int32.toInt64 ((I 123) (((16 * j7) + 4) + 0))) else (Int32.toInt64 (-((I 123) (((16 * j7) + 4) + 3))))) * (if ¬ 2 = (nI n2) then (Int32.toInt64 ((I 123) (((16 * j7) + 8) + 2))) else (Int32.toInt64 (-((I 123) (((16 * j7) + 8) + 3)))))) dX8_middle_199 rfl rfl ?_
        refine ev_aload_n (pc' := 201) (i := 0) dX8_middle_200 rfl rfl rfl ?_
        refine ev_getR (pc' := 204) fo_X8_26 dX8_middle_201 rfl hs_115 rfl rf_115_8 ?_
        refine ev_bipush (pc' := 206) (v := 6) dX8_middle_204 rfl kb_6 ?_
        refine ev_lald (pc' := 207) (j := 6) (v := (if ¬ 2 = (nI n2) then (Int32.toInt64 ((I 123) (((16 * j7) + 4) + 2))) else (Int32.toInt64 (-((I 123) (((16 * j7) + 4) + 3)))))) dX8_middle_206 rfl hs_120 rfl (Nat.le_of_ble_eq_true rfl) (Nat.le_of_ble_eq_true rfl) rfl ?_
        refine ev_aload_n (pc' := 208) (i := 0) dX8_middle_207 rfl rfl rfl ?_
        refine ev_getR (pc' := 211) fo_X8_26 dX8_middle_208 rfl hs_115 rfl rf_115_8 ?_
        refine ev_bipush (pc' := 213) (v := 8) dX8_middle_211 rfl kb_8 ?_
        refine ev_lald (pc' := 214) (j := 8) (v := (if ¬ 0 = (nI n2) then (Int32.toInt64 ((I 123) (((16 * j7) + 8) + 0))) else (Int32.toInt64 (-((I 123) (((16 * j7) + 8) + 3)))))) dX8_middle_213 rfl hs_120 rfl (Nat.le_of_ble_eq_true rfl) (Nat.le_of_ble_eq_true rfl) rfl ?_
        refine ev_lmul (pc' := 215) (v := (if ¬ 2 = (nI n2) then (Int32.toInt64 ((I 123) (((16 * j7) + 4) + 2))) else (Int32.toInt64 (-((I 123) (((16 * j7) + 4) + 3))))) * (if ¬ 0 = (nI n2) then (Int32.toInt64 ((I 123) (((16 * j7) + 8) + 0))) else (Int32.toInt64 (-((I 123) (((16 * j7) + 8) + 3)))))) dX8_middle_214 rfl rfl ?_
        refine ev_lsub (pc' := 216) (v := ((if ¬ 0 = (nI n2) then (Int32.toInt64 ((I 123) (((16 * j7) + 4) + 0))) else (Int32.toInt64 (-((I 123) (((16 * j7) + 4) + 3))))) * (if ¬ 2 = (nI n2) then (Int32.toInt64 ((I 123) (((16 * j7) + 8) + 2))) else (Int32.toInt64 (-((I 123) (((16 * j7) + 8) + 3)))))) - ((if ¬ 2 = (nI n2) then (Int32.toInt64 ((I 123) (((16 * j7) + 4) + 2))) else (Int32.toInt64 (-((I 123) (((16 * j7) + 4) + 3))))) * (if ¬ 0 = (nI n2) then (Int32.toInt64 ((I 123) (((16 * j7) + 8) + 0))) else (Int32.toInt64 (-((I 123) (((16 * j7) + 8) + 3))))))) dX8_middle_215 rfl rfl ?_
        refine ev_lmul (pc' := 217) (v := (if ¬ 1 = (nI n2) then (Int32.toInt64 ((I 123) (((16 * j7) + 0) + 1))) else (Int32.toInt64 (-((I 123) (((16 * j7) + 0) + 3))))) * (((if ¬ 0 = (nI n2) then (Int32.toInt64 ((I 123) (((16 * j7) + 4) + 0))) else (Int32.toInt64 (-((I 123) (((16 * j7) + 4) + 3))))) * (if ¬ 2 = (nI n2) then (Int32.toInt64 ((I 123) (((16 * j7) + 8) + 2))) else (Int32.toInt64 (-((I 123) (((16 * j7) + 8) + 3)))))) - ((if ¬ 2 = (nI n2) then (Int32.toInt64 ((I 123) (((16 * j7) + 4) + 2))) else (Int32.toInt64 (-((I 123) (((16 * j7) + 4) + 3))))) * (if ¬ 0 = (nI n2) then (Int32.toInt64 ((I 123) (((16 * j7) + 8) + 0))) else (Int32.toInt64 (-((I 123) (((16 * j7) + 8) + 3)))))))) dX8_middle_216 rfl rfl ?_
        refine ev_lsub (pc' := 218) (v := ((if ¬ 0 = (nI n2) then (Int32.toInt64 ((I 123) (((16 * j7) + 0) + 0))) else (Int32.toInt64 (-((I 123) (((16 * j7) + 0) + 3))))) * (((if ¬ 1 = (nI n2) then (Int32.toInt64 ((I 123) (((16 * j7) + 4) + 1))) else (Int32.toInt64 (-((I 123) (((16 * j7) + 4) + 3))))) * (if ¬ 2 = (nI n2) then (Int32.toInt64 ((I 123) (((16 * j7) + 8) + 2))) else (Int32.toInt64 (-((I 123) (((16 * j7) + 8) + 3)))))) - ((if ¬ 2 = (nI n2) then (Int32.toInt64 ((I 123) (((16 * j7) + 4) + 2))) else (Int32.toInt64 (-((I 123) (((16 * j7) + 4) + 3))))) * (if ¬ 1 = (nI n2) then (Int32.toInt64 ((I 123) (((16 * j7) + 8) + 1))) else (Int32.toInt64 (-((I 123) (((16 * j7) + 8) + 3)))))))) - ((if ¬ 1 = (nI n2) then (Int32.toInt64 ((I 123) (((16 * j7) + 0) + 1))) else (Int32.toInt64 (-((I 123) (((16 * j7) + 0) + 3))))) * (((if ¬ 0 = (nI n2) then (Int32.toInt64 ((I 123) (((16 * j7) + 4) + 0))) else (Int32.toInt64 (-((I 123) (((16 * j7) + 4) + 3))))) * (if ¬ 2 = (nI n2) then (Int32.toInt64 ((I 123) (((16 * j7) + 8) + 2))) else (Int32.toInt64 (-((I 123) (((16 * j7) + 8) + 3)))))) - ((if ¬ 2 = (nI n2) then (Int32.toInt64 ((I 123) (((16 * j7) + 4) + 2))) else (Int32.toInt64 (-((I 123) (((16 * j7) + 4) + 3))))) * (if ¬ 0 = (nI n2) then (Int32.toInt64 ((I 123) (((16 * j7) + 8) + 0))) else (Int32.toInt64 (-((I 123) (((16 * j7) + 8) + 3))))))))) dX8_middle_217 rfl rfl ?_
        refine ev_aload_n (pc' := 219) (i := 0) dX8_middle_218 rfl rfl rfl ?_
        refine ev_getR (pc' := 222) fo_X8_26 dX8_middle_219 rfl hs_115 rfl rf_115_8 ?_
        refine ev_iconst (pc' := 223) (v := 2) dX8_middle_222 rfl ki_2 ?_
        refine ev_lald (pc' := 224) (j := 2) (v := (if ¬ 2 = (nI n2) then (Int32.toInt64 ((I 123) (((16 * j7) + 0) + 2))) else (Int32.toInt64 (-((I 123) (((16 * j7) + 0) + 3)))))) dX8_middle_223 rfl hs_120 rfl (Nat.le_of_ble_eq_true rfl) (Nat.le_of_ble_eq_true rfl) rfl ?_
        refine ev_aload_n (pc' := 225) (i := 0) dX8_middle_224 rfl rfl rfl ?_
        refine ev_getR (pc' := 228) fo_X8_26 dX8_middle_225 rfl hs_115 rfl rf_115_8 ?_
        refine ev_iconst (pc' := 229) (v := 4) dX8_middle_228 rfl ki_4 ?_
        refine ev_lald (pc' := 230) (j := 4) (v := (if ¬ 0 = (nI n2) then (Int32.toInt64 ((I 123) (((16 * j7) + 4) + 0))) else (Int32.toInt64 (-((I 123) (((16 * j7) + 4) + 3)))))) dX8_middle_229 rfl hs_120 rfl (Nat.le_of_ble_eq_true rfl) (Nat.le_of_ble_eq_true rfl) rfl ?_
        refine ev_aload_n (pc' := 231) (i := 0) dX8_middle_230 rfl rfl rfl ?_
        refine ev_getR (pc' := 234) fo_X8_26 dX8_middle_231 rfl hs_115 rfl rf_115_8 ?_
        refine ev_bipush (pc' := 236) (v := 9) dX8_middle_234 rfl kb_9 ?_
        refine ev_lald (pc' := 237) (j := 9) (v := (if ¬ 1 = (nI n2) then (Int32.toInt64 ((I 123) (((16 * j7) + 8) + 1))) else (Int32.toInt64 (-((I 123) (((16 * j7) + 8) + 3)))))) dX8_middle_236 rfl hs_120 rfl (Nat.le_of_ble_eq_true rfl) (Nat.le_of_ble_eq_true rfl) rfl ?_
        refine ev_lmul (pc' := 238) (v := (if ¬ 0 = (nI n2) then (Int32.toInt64 ((I 123) (((16 * j7) + 4) + 0))) else (Int32.toInt64 (-((I 123) (((16 * j7) + 4) + 3))))) * (if ¬ 1 = (nI n2) then (Int32.toInt64 ((I 123) (((16 * j7) + 8) + 1))) else (Int32.toInt64 (-((I 123) (((16 * j7) + 8) + 3)))))) dX8_middle_237 rfl rfl ?_
        refine ev_aload_n (pc' := 239) (i := 0) dX8_middle_238 rfl rfl rfl ?_
        refine ev_getR (pc' := 242) fo_X8_26 dX8_middle_239 rfl hs_115 rfl rf_115_8 ?_
        refine ev_iconst (pc' := 243) (v := 5) dX8_middle_242 rfl ki_5 ?_
        refine ev_lald (pc' := 244) (j := 5) (v := (if ¬ 1 = (nI n2) then (Int32.toInt64 ((I 123) (((16 * j7) + 4) + 1))) else (Int32.toInt64 (-((I 123) (((16 * j7) + 4) + 3)))))) dX8_middle_243 rfl hs_120 rfl (Nat.le_of_ble_eq_true rfl) (Nat.le_of_ble_eq_true rfl) rfl ?_
        refine ev_aload_n (pc' := 245) (i := 0) dX8_middle_244 rfl rfl rfl ?_
        refine ev_getR (pc' := 248) fo_X8_26 dX8_middle_245 rfl hs_115 rfl rf_115_8 ?_
        refine ev_bipush (pc' := 250) (v := 8) dX8_middle_248 rfl kb_8 ?_
        refine ev_lald (pc' := 251) (j := 8) (v := (if ¬ 0 = (nI n2) then (Int32.toInt64 ((I 123) (((16 * j7) + 8) + 0))) else (Int32.toInt64 (-((I 123) (((16 * j7) + 8) + 3)))))) dX8_middle_250 rfl hs_120 rfl (Nat.le_of_ble_eq_true rfl) (Nat.le_of_ble_eq_true rfl) rfl ?_
        refine ev_lmul (pc' := 252) (v := (if ¬ 1 = (nI n2) then (Int32.toInt64 ((I 123) (((16 * j7) + 4) + 1))) else (Int32.toInt64 (-((I 123) (((16 * j7) + 4) + 3))))) * (if ¬ 0 = (nI n2) then (Int32.toInt64 ((I 123) (((16 * j7) + 8) + 0))) else (Int32.toInt64 (-((I 123) (((16 * j7) + 8) + 3)))))) dX8_middle_251 rfl rfl ?_
        refine ev_lsub (pc' := 253) (v := ((if ¬ 0 = (nI n2) then (Int32.toInt64 ((I 123) (((16 * j7) + 4) + 0))) else (Int32.toInt64 (-((I 123) (((16 * j7) + 4) + 3))))) * (if ¬ 1 = (nI n2) then (Int32.toInt64 ((I 123) (((16 * j7) + 8) + 1))) else (Int32.toInt64 (-((I 123) (((16 * j7) + 8) + 3)))))) - ((if ¬ 1 = (nI n2) then (Int32.toInt64 ((I 123) (((16 * j7) + 4) + 1))) else (Int32.toInt64 (-((I 123) (((16 * j7) + 4) + 3))))) * (if ¬ 0 = (nI n2) then (Int32.toInt64 ((I 123) (((16 * j7) + 8) + 0))) else (Int32.toInt64 (-((I 123) (((16 * j7) + 8) + 3))))))) dX8_middle_252 rfl rfl ?_
        refine ev_lmul (pc' := 254) (v := (if ¬ 2 = (nI n2) then (Int32.toInt64 ((I 123) (((16 * j7) + 0) + 2))) else (Int32.toInt64 (-((I 123) (((16 * j7) + 0) + 3))))) * (((if ¬ 0 = (nI n2) then (Int32.toInt64 ((I 123) (((16 * j7) + 4) + 0))) else (Int32.toInt64 (-((I 123) (((16 * j7) + 4) + 3))))) * (if ¬ 1 = (nI n2) then (Int32.toInt64 ((I 123) (((16 * j7) + 8) + 1))) else (Int32.toInt64 (-((I 123) (((16 * j7) + 8) + 3)))))) - ((if ¬ 1 = (nI n2) then (Int32.toInt64 ((I 123) (((16 * j7) + 4) + 1))) else (Int32.toInt64 (-((I 123) (((16 * j7) + 4) + 3))))) * (if ¬ 0 = (nI n2) then (Int32.toInt64 ((I 123) (((16 * j7) + 8) + 0))) else (Int32.toInt64 (-((I 123) (((16 * j7) + 8) + 3)))))))) dX8_middle_253 rfl rfl ?_
        refine ev_ladd (pc' := 255) (v := (((if ¬ 0 = (nI n2) then (Int32.toInt64 ((I 123) (((16 * j7) + 0) + 0))) else (Int32.toInt64 (-((I 123) (((16 * j7) + 0) + 3))))) * (((if ¬ 1 = (nI n2) then (Int32.toInt64 ((I 123) (((16 * j7) + 4) + 1))) else (Int32.toInt64 (-((I 123) (((16 * j7) + 4) + 3))))) * (if ¬ 2 = (nI n2) then (Int32.toInt64 ((I 123) (((16 * j7) + 8) + 2))) else (Int32.toInt64 (-((I 123) (((16 * j7) + 8) + 3)))))) - ((if ¬ 2 = (nI n2) then (Int32.toInt64 ((I 123) (((16 * j7) + 4) + 2))) else (Int32.toInt64 (-((I 123) (((16 * j7) + 4) + 3))))) * (if ¬ 1 = (nI n2) then (Int32.toInt64 ((I 123) (((16 * j7) + 8) + 1))) else (Int32.toInt64 (-((I 123) (((16 * j7) + 8) + 3)))))))) - ((if ¬ 1 = (nI n2) then (Int32.toInt64 ((I 123) (((16 * j7) + 0) + 1))) else (Int32.toInt64 (-((I 123) (((16 * j7) + 0) + 3))))) * (((if ¬ 0 = (nI n2) then (Int32.toInt64 ((I 123) (((16 * j7) + 4) + 0))) else (Int32.toInt64 (-((I 123) (((16 * j7) + 4) + 3))))) * (if ¬ 2 = (nI n2) then (Int32.toInt64 ((I 123) (((16 * j7) + 8) + 2))) else (Int32.toInt64 (-((I 123) (((16 * j7) + 8) + 3)))))) - ((if ¬ 2 = (nI n2) then (Int32.toInt64 ((I 123) (((16 * j7) + 4) + 2))) else (Int32.toInt64 (-((I 123) (((16 * j7) + 4) + 3))))) * (if ¬ 0 = (nI n2) then (Int32.toInt64 ((I 123) (((16 * j7) + 8) + 0))) else (Int32.toInt64 (-((I 123) (((16 * j7) + 8) + 3))))))))) + ((if ¬ 2 = (nI n2) then (Int32.toInt64 ((I 123) (((16 * j7) + 0) + 2))) else (Int32.toInt64 (-((I 123) (((16 * j7) + 0) + 3))))) * (((if ¬ 0 = (nI n2) then (Int32.toInt64 ((I 123) (((16 * j7) + 4) + 0))) else (Int32.toInt64 (-((I 123) (((16 * j7) + 4) + 3))))) * (if ¬ 1 = (nI n2) then (Int32.toInt64 ((I 123) (((16 * j7) + 8) + 1))) else (Int32.toInt64 (-((I 123) (((16 * j7) + 8) + 3)))))) - ((if ¬ 1 = (nI n2) then (Int32.toInt64 ((I 123) (((16 * j7) + 4) + 1))) else (Int32.toInt64 (-((I 123) (((16 * j7) + 4) + 3))))) * (if ¬ 0 = (nI n2) then (Int32.toInt64 ((I 123) (((16 * j7) + 8) + 0))) else (Int32.toInt64 (-((I 123) (((16 * j7) + 8) + 3))))))))) dX8_middle_254 rfl rfl ?_
        refine ev_eql (w := mMd (fun k => I 123 (16 * j7 + k)) n2) rfl ?_
        refine ev_rowL (fun r52 => ?_)
        refine ev_lstore (pc' := 257) (lv' := [some (.ref 115), some (.int (nI j7)), some (.int (nI n2)), some (.int 0), some (.long (Int32.toInt64 ((I 124) ((10 * j7) + 8)))), none, some (.long (mMd (fun k => I 123 (16 * j7 + k)) n2)), none]) dX8_middle_255 rfl (Nat.le_of_ble_eq_true rfl) rfl rfl ?_
        refine ev_aload_n (pc' := 258) (i := 0) dX8_middle_257 rfl rfl rfl ?_
        refine ev_lload (pc' := 260) dX8_middle_258 rfl rfl ?_
        refine ev_lload (pc' := 262) dX8_middle_260 rfl rfl ?_
        refine ev_iconst (pc' := 263) (v := 1) dX8_middle_262 rfl ki_1 ?_
        refine ev_callV (pc' := 266) (rm' := rX8_share) (b := 115) (av := [.long (mMd (fun k => I 123 (16 * j7 + k)) n2), .long (Int32.toInt64 ((I 124) ((10 * j7) + 8))), .int 1]) (rest := []) co_X8_252 ci_X8_share cv_X8_share dX8_middle_263 rfl hs_115 hb_X8 rfl rfl (Nat.le_of_ble_eq_true rfl) ⟨(Nat.le_of_ble_eq_true rfl), (Nat.le_of_ble_eq_true rfl)⟩ ⟨(Nat.le_of_ble_eq_true rfl), (Nat.le_of_ble_eq_true rfl)⟩ ?_
        have hl0 : (Int32.toInt64 ((I 124) ((10 * j7) + 8))).toInt ≠ 0 := fun z => absurd (nb_eqL.mpr (z.trans nb_0L.symm)) (by assumption)
        refine t_X8_share (mMd (fun k => I 123 (16 * j7 + k)) n2) (Int32.toInt64 ((I 124) ((10 * j7) + 8))) 1 (hU j7 n2 (by omega) (by omega)) (i2l_ne _) hl0 (fun c => ?_) (fun c => ?_)
        · skip
          refine ev_iret dX8_middle_266 rfl rfl ⟨Nat.le_refl _, Nat.le_refl _⟩ ?_
          exact k2 n2 hn2 rfl j7 h8 rfl h10 c12 K13 f14 f15 r52 c
        · skip
          refine ev_iret dX8_middle_266 rfl rfl ⟨Nat.le_refl _, Nat.le_refl _⟩ ?_
          exact k3 n2 hn2 rfl j7 h8 rfl h10 c12 K13 f14 f15 r52 c
      · refine ev_aload_n (pc' := 46) (i := 0) dX8_middle_45 rfl rfl rfl ?_
        refine ev_iconst (pc' := 47) (v := 4) dX8_middle_46 rfl ki_4 ?_
        refine ev_callV (pc' := 50) (rm' := rX8_meets) (b := 115) (av := [.int 4]) (rest := []) co_X8_141 ci_X8_meets cv_X8_meets dX8_middle_47 rfl hs_115 hb_X8 rfl rfl (Nat.le_of_ble_eq_true rfl) ⟨(Nat.le_of_ble_eq_true rfl), (Nat.le_of_ble_eq_true rfl)⟩ ⟨(Nat.le_of_ble_eq_true rfl), (Nat.le_of_ble_eq_true rfl)⟩ ?_
        refine t_X8_meets 4 (by omega) ?_
        refine ev_mMt 4 ?_
        refine ev_iret dX8_middle_50 rfl rfl ⟨Nat.le_refl _, Nat.le_refl _⟩ ?_
        exact k4 n2 hn2 rfl j7 h8 rfl h10 c12
    · skip
      refine ev_istore_n (pc' := 17) (i := 3) (lv' := [some (.ref 115), some (.int q), some (.int (nI n2)), some (.int (-1)), none, none, none, none]) dX8_middle_16 rfl rfl (Nat.le_of_ble_eq_true rfl) rfl rfl ?_
      refine ev_iload_n (pc' := 18) (i := 3) dX8_middle_17 rfl rfl rfl ?_
      refine ev_if_ge (tgt := 23) (pc' := 21) dX8_middle_18 rfl rfl (fun h => absurd h (by decide)) (fun _ => ?_)
      refine ev_iload_n (pc' := 22) (i := 3) dX8_middle_21 rfl rfl rfl ?_
      refine ev_iret dX8_middle_22 rfl rfl ⟨Nat.le_refl _, Nat.le_refl _⟩ ?_
      exact k5 n2 hn2 rfl h11
  · refine ev_iconst (pc' := 10) (v := (-1)) dX8_middle_9 rfl ki_m1 ?_
    refine ev_iret dX8_middle_10 rfl rfl ⟨Nat.le_refl _, Nat.le_refl _⟩ ?_
    exact k6 c1
