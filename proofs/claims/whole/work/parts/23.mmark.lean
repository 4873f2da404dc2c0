set_option maxRecDepth 4000 in
theorem t_X8_mark {g : ma_G} {Post : ma_P} {I : ma_I} {L : ma_L}  (q : Int32) (c : Int32) (hw : ∀ j, j < 12 → (I 124 (10 * j + 7)).toInt ≤ 4096) (k1 : ∀ n2 : Nat, (1 ≤ n2) → (n2 < 5) → c = nI n2 → ∀ j3 : Nat, (j3 < 12) → q = nI j3 → (((I 122) j3) = 0) → Post (some (.int (-3))) HS (mMt I 1) L RF 146) (k2 : ∀ n2 : Nat, (1 ≤ n2) → (n2 < 5) → c = nI n2 → ∀ j7 : Nat, (j7 < 12) → q = nI j7 → (¬ ((I 122) j7) = 0) → (((I 124) (10 * j7)) = (nI n2)) → ∀ x13 : Int32, (x13 = nI n2) → (x13 = 1) → Post (some (.int ((I 124) ((10 * j7) + 3)))) HS I L RF 146) (k3 : ∀ n2 : Nat, (1 ≤ n2) → (n2 < 5) → c = nI n2 → ∀ j7 : Nat, (j7 < 12) → q = nI j7 → (¬ ((I 122) j7) = 0) → (((I 124) (10 * j7)) = (nI n2)) → ∀ x13 : Int32, (x13 = nI n2) → (x13 = 2) → Post (some (.int (if (¬ ((I 124) ((10 * j7) + 1)) ≤ 0) ∧ (¬ ((I 124) ((10 * j7) + 2)) ≤ 0) then (1 : Int32) else 0))) HS I L RF 146) (k4 : ∀ n2 : Nat, (1 ≤ n2) → (n2 < 5) → c = nI n2 → ∀ j7 : Nat, (j7 < 12) → q = nI j7 → (¬ ((I 122) j7) = 0) → (((I 124) (10 * j7)) = (nI n2)) → ∀ x13 : Int32, (x13 = nI n2) → (x13 = 3) → Post (some (.int (if ((I 124) ((10 * j7) + 1)) = 3 then (1 : Int32) else 0))) HS I L RF 146) (k5 : ∀ n2 : Nat, (1 ≤ n2) → (n2 < 5) → c = nI n2 → ∀ j7 : Nat, (j7 < 12) → q = nI j7 → (¬ ((I 122) j7) = 0) → (((I 124) (10 * j7)) = (nI n2)) → ∀ x13 : Int32, (x13 = nI n2) → (¬ x13 = 1) → (¬ x13 = 2) → (¬ x13 = 3) → ∀ r25 : Int32, (r25 = 0 ∨ r25 = 1) → (r25 = 1 ↔ ∃ j : Nat, ((j * j : Nat) : Int) = ((I 124) ((10 * j7) + 7)).toInt) → Post (some (.int (if ¬ r25 = 0 then (1 : Int32) else 0))) HS I L RF 146) (k6 : ∀ n2 : Nat, (1 ≤ n2) → (n2 < 5) → c = nI n2 → ∀ j7 : Nat, (j7 < 12) → q = nI j7 → (¬ ((I 122) j7) = 0) → (¬ ((I 124) (10 * j7)) = (nI n2)) → (¬ (nI n2) = 1) → Post (some (.int (-3))) HS (mMt I 3) L RF 146) (k7 : ∀ n2 : Nat, (1 ≤ n2) → (n2 < 5) → c = nI n2 → ∀ j7 : Nat, (j7 < 12) → q = nI j7 → (¬ ((I 122) j7) = 0) → (¬ ((I 124) (10 * j7)) = (nI n2)) → ((nI n2) = 1) → (((I 124) (10 * j7)) = 2) → ∀ x34 : Int32, (x34 = nI n2) → (x34 = 1) → Post (some (.int ((I 124) ((10 * j7) + 3)))) HS I L RF 146) (k8 : ∀ n2 : Nat, (1 ≤ n2) → (n2 < 5) → c = nI n2 → ∀ j7 : Nat, (j7 < 12) → q = nI j7 → (¬ ((I 122) j7) = 0) → (¬ ((I 124) (10 * j7)) = (nI n2)) → ((nI n2) = 1) → (((I 124) (10 * j7)) = 2) → ∀ x34 : Int32, (x34 = nI n2) → (x34 = 2) → Post (some (.int (if (¬ ((I 124) ((10 * j7) + 1)) ≤ 0) ∧ (¬ ((I 124) ((10 * j7) + 2)) ≤ 0) then (1 : Int32) else 0))) HS I L RF 146) (k9 : ∀ n2 : Nat, (1 ≤ n2) → (n2 < 5) → c = nI n2 → ∀ j7 : Nat, (j7 < 12) → q = nI j7 → (¬ ((I 122) j7) = 0) → (¬ ((I 124) (10 * j7)) = (nI n2)) → ((nI n2) = 1) → (((I 124) (10 * j7)) = 2) → ∀ x34 : Int32, (x34 = nI n2) → (x34 = 3) → Post (some (.int (if ((I 124) ((10 * j7) + 1)) = 3 then (1 : Int32) else 0))) HS I L RF 146) (k10 : ∀ n2 : Nat, (1 ≤ n2) → (n2 < 5) → c = nI n2 → ∀ j7 : Nat, (j7 < 12) → q = nI j7 → (¬ ((I 122) j7) = 0) → (¬ ((I 124) (10 * j7)) = (nI n2)) → ((nI n2) = 1) → (((I 124) (10 * j7)) = 2) → ∀ x34 : Int32, (x34 = nI n2) → (¬ x34 = 1) → (¬ x34 = 2) → (¬ x34 = 3) → ∀ r46 : Int32, (r46 = 0 ∨ r46 = 1) → (r46 = 1 ↔ ∃ j : Nat, ((j * j : Nat) : Int) = ((I 124) ((10 * j7) + 7)).toInt) → Post (some (.int (if ¬ r46 = 0 then (1 : Int32) else 0))) HS I L RF 146) (k11 : ∀ n2 : Nat, (1 ≤ n2) → (n2 < 5) → c = nI n2 → ∀ j7 : Nat, (j7 < 12) → q = nI j7 → (¬ ((I 122) j7) = 0) → (¬ ((I 124) (10 * j7)) = (nI n2)) → ((nI n2) = 1) → (¬ ((I 124) (10 * j7)) = 2) → Post (some (.int (-3))) HS (mMt I 3) L RF 146) (k12 : ∀ n2 : Nat, (1 ≤ n2) → (n2 < 5) → c = nI n2 → (¬ ((¬ q < 0) ∧ (¬ 11 < q))) → Post (some (.int (-1))) HS I L RF 146) (k13 : (¬ ((¬ c < 1) ∧ (¬ 4 < c))) → Post (some (.int (-1))) HS I L RF 146) : CT g yX8_mark cX8_mark 5 (some .int) rX8_mark [.ref 115, .int q, .int c] Post HS I L RF 146 := by
  refine ct_of (lv := [some (.ref 115), some (.int q), some (.int c), none, none]) (by decide) (Nat.le_of_ble_eq_true rfl) rfl ?_
  refine ev_iload_n (pc' := 1) (i := 2) dX8_mark_0 rfl rfl rfl ?_
  refine ev_iconst (pc' := 2) (v := 1) dX8_mark_1 rfl ki_1 ?_
  refine ev_iconst (pc' := 3) (v := 4) dX8_mark_2 rfl ki_4 ?_
  refine ev_callS (pc' := 6) (rm' := rX8_in) (av := [.int c, .int 1, .int 4]) (rest := []) co_X8_133 cs_X8_in dX8_mark_3 rfl rfl rfl (Nat.le_of_ble_eq_true rfl) ⟨(Nat.le_of_ble_eq_true rfl), (Nat.le_of_ble_eq_true rfl)⟩ ⟨(Nat.le_of_ble_eq_true rfl), (Nat.le_of_ble_eq_true rfl)⟩ ?_
  refine t_X8_in c 1 4  ?_
  refine ev_if_ne_b (tgt := 11) (pc' := 9) dX8_mark_6 rfl rfl (fun c1 => ?_) (fun c1 => ?_)
  · obtain ⟨n2, gn2, hn2, en2⟩ := in_of2 (n := 4) (l := 1) (by omega) rfl rfl c1
    subst en2
    refine ev_aload_n (pc' := 12) (i := 0) dX8_mark_11 rfl rfl rfl ?_
    refine ev_iload_n (pc' := 13) (i := 1) dX8_mark_12 rfl rfl rfl ?_
    refine ev_callV (pc' := 16) (rm' := rX8_askedFor) (b := 115) (av := [.int q]) (rest := []) co_X8_210 ci_X8_askedFor cv_X8_askedFor dX8_mark_13 rfl hs_115 hb_X8 rfl rfl (Nat.le_of_ble_eq_true rfl) ⟨(Nat.le_of_ble_eq_true rfl), (Nat.le_of_ble_eq_true rfl)⟩ ⟨(Nat.le_of_ble_eq_true rfl), (Nat.le_of_ble_eq_true rfl)⟩ ?_
    refine t_X8_askedFor q  (fun j3 h4 e5 h6 => ?_) (fun j7 h8 e9 h10 => ?_) (fun h11 => ?_)
    · subst e5
      refine ev_istore_n (pc' := 17) (i := 3) (lv' := [some (.ref 115), some (.int (nI j3)), some (.int (nI n2)), some (.int (-3)), none]) dX8_mark_16 rfl rfl (Nat.le_of_ble_eq_true rfl) rfl rfl ?_
      refine ev_iload_n (pc' := 18) (i := 3) dX8_mark_17 rfl rfl rfl ?_
      refine ev_if_ge (tgt := 23) (pc' := 21) dX8_mark_18 rfl rfl (fun h => absurd h (by decide)) (fun _ => ?_)
      refine ev_iload_n (pc' := 22) (i := 3) dX8_mark_21 rfl rfl rfl ?_
      refine ev_iret dX8_mark_22 rfl rfl ⟨Nat.le_refl _, Nat.le_refl _⟩ ?_
      exact k1 n2 gn2 hn2 rfl j3 h4 rfl h6
    · subst e9
      refine ev_istore_n (pc' := 17) (i := 3) (lv' := [some (.ref 115), some (.int (nI j7)), some (.int (nI n2)), some (.int 0), none]) dX8_mark_16 rfl rfl (Nat.le_of_ble_eq_true rfl) rfl rfl ?_
      refine ev_iload_n (pc' := 18) (i := 3) dX8_mark_17 rfl rfl rfl ?_
      refine ev_if_ge (tgt := 23) (pc' := 21) dX8_mark_18 rfl rfl (fun _ => ?_) (fun h => absurd (by decide) h)
      refine ev_bipush (pc' := 25) (v := 10) dX8_mark_23 rfl kb_10 ?_
      refine ev_iload_n (pc' := 26) (i := 1) dX8_mark_25 rfl rfl rfl ?_
      refine ev_imul (pc' := 27) (v := nI (10 * j7)) dX8_mark_26 rfl (pk_mul 10 j7) ?_
      refine ev_istore (pc' := 29) (lv' := [some (.ref 115), some (.int (nI j7)), some (.int (nI n2)), some (.int 0), some (.int (nI (10 * j7)))]) dX8_mark_27 rfl (Nat.le_of_ble_eq_true rfl) rfl rfl ?_
      refine ev_aload_n (pc' := 30) (i := 0) dX8_mark_29 rfl rfl rfl ?_
      refine ev_getR (pc' := 33) fo_X8_40 dX8_mark_30 rfl hs_115 rfl rf_115_14 ?_
      refine ev_iload (pc' := 35) dX8_mark_33 rfl rfl ?_
      refine ev_iald (pc' := 36) (j := 10 * j7) (v := (I 124) (10 * j7)) dX8_mark_35 rfl hs_124 rfl (by omega) (Nat.le_of_ble_eq_true rfl) rfl ?_
      refine ev_iload_n (pc' := 37) (i := 2) dX8_mark_36 rfl rfl rfl ?_
      refine ev_icmp_eq (tgt := 62) (pc' := 40) dX8_mark_37 rfl rfl (fun c12 => ?_) (fun c12 => ?_)
      · refine ev_iload_n (pc' := 63) (i := 2) dX8_mark_62 rfl rfl rfl ?_
        refine ev_topi (fun x13 hx13 => ?_)
        by_cases c14 : x13 = 1
        · refine ev_tswIn (off := 25) (tgt := 88) dX8_mark_63 (by rw [c14]; decide) (by rw [c14]; decide) (by rw [c14]; rfl) rfl ?_
          refine ev_aload_n (pc' := 89) (i := 0) dX8_mark_88 rfl rfl rfl ?_
          refine ev_getR (pc' := 92) fo_X8_40 dX8_mark_89 rfl hs_115 rfl rf_115_14 ?_
          refine ev_iload (pc' := 94) dX8_mark_92 rfl rfl ?_
          refine ev_iconst (pc' := 95) (v := 3) dX8_mark_94 rfl ki_3 ?_
          refine ev_iadd (pc' := 96) (v := nI ((10 * j7) + 3)) dX8_mark_95 rfl (nI_add (10 * j7) 3) ?_
          refine ev_iald (pc' := 97) (j := (10 * j7) + 3) (v := (I 124) ((10 * j7) + 3)) dX8_mark_96 rfl hs_124 rfl (by omega) (Nat.le_of_ble_eq_true rfl) rfl ?_
          refine ev_iret dX8_mark_97 rfl rfl ⟨Nat.le_refl _, Nat.le_refl _⟩ ?_
          exact k2 n2 gn2 hn2 rfl j7 h8 rfl h10 c12 x13 hx13 c14
        by_cases c15 : x13 = 2
        · refine ev_tswIn (off := 35) (tgt := 98) dX8_mark_63 (by rw [c15]; decide) (by rw [c15]; decide) (by rw [c15]; rfl) rfl ?_
          refine ev_aload_n (pc' := 99) (i := 0) dX8_mark_98 rfl rfl rfl ?_
          refine ev_iload_n (pc' := 100) (i := 1) dX8_mark_99 rfl rfl rfl ?_
          refine ev_callV (pc' := 103) (rm' := rX8_changes) (b := 115) (av := [.int (nI j7)]) (rest := []) co_X8_217 ci_X8_changes cv_X8_changes dX8_mark_100 rfl hs_115 hb_X8 rfl rfl (Nat.le_of_ble_eq_true rfl) ⟨(Nat.le_of_ble_eq_true rfl), (Nat.le_of_ble_eq_true rfl)⟩ ⟨(Nat.le_of_ble_eq_true rfl), (Nat.le_of_ble_eq_true rfl)⟩ ?_
          refine t_X8_changes j7 (by omega) ?_
          suffices K18 : ∀ x17 : Int32, x17 = (if (¬ ((I 124) ((10 * j7) + 1)) ≤ 0) ∧ (¬ ((I 124) ((10 * j7) + 2)) ≤ 0) then (1 : Int32) else 0) → EV g yX8_mark cX8_mark 5 (some .int) rX8_mark (ma_ZM g rX8_mark Post) 111 [some (.ref 115), some (.int (nI j7)), some (.int (nI n2)), some (.int 0), some (.int (nI (10 * j7)))] [.int x17] HS I L RF 146 0 0 by
            refine ev_if_eq_b (tgt := 110) (pc' := 106) dX8_mark_103 rfl rfl (fun c19 => ?_) (fun c19 => ?_)
            · refine ev_iconst (pc' := 111) (v := 0) dX8_mark_110 rfl ki_0 ?_
              exact K18 _ (if_neg c19).symm
            · refine ev_iconst (pc' := 107) (v := 1) dX8_mark_106 rfl ki_1 ?_
              refine ev_goto (tgt := 111) dX8_mark_107 rfl ?_
              exact K18 _ (if_pos c19).symm
          intro x17 hx17
          subst hx17
          refine ev_iret dX8_mark_111 rfl rfl ⟨Nat.le_refl _, Nat.le_refl _⟩ ?_
          exact k3 n2 gn2 hn2 rfl j7 h8 rfl h10 c12 x13 hx13 c15
        by_cases c20 : x13 = 3
        · refine ev_tswIn (off := 49) (tgt := 112) dX8_mark_63 (by rw [c20]; decide) (by rw [c20]; decide) (by rw [c20]; rfl) rfl ?_
          refine ev_aload_n (pc' := 113) (i := 0) dX8_mark_112 rfl rfl rfl ?_
          refine ev_getR (pc' := 116) fo_X8_40 dX8_mark_113 rfl hs_115 rfl rf_115_14 ?_
          refine ev_iload (pc' := 118) dX8_mark_116 rfl rfl ?_
          refine ev_iconst (pc' := 119) (v := 1) dX8_mark_118 rfl ki_1 ?_
          refine ev_iadd (pc' := 120) (v := nI ((10 * j7) + 1)) dX8_mark_119 rfl (nI_add (10 * j7) 1) ?_
          refine ev_iald (pc' := 121) (j := (10 * j7) + 1) (v := (I 124) ((10 * j7) + 1)) dX8_mark_120 rfl hs_124 rfl (by omega) (Nat.le_of_ble_eq_true rfl) rfl ?_
          refine ev_iconst (pc' := 122) (v := 3) dX8_mark_121 rfl ki_3 ?_
          suffices K23 : ∀ x22 : Int32, x22 = (if ((I 124) ((10 * j7) + 1)) = 3 then (1 : Int32) else 0) → EV g yX8_mark cX8_mark 5 (some .int) rX8_mark (ma_ZM g rX8_mark Post) 130 [some (.ref 115), some (.int (nI j7)), some (.int (nI n2)), some (.int 0), some (.int (nI (10 * j7)))] [.int x22] HS I L RF 146 0 0 by
            refine ev_icmp_ne (tgt := 129) (pc' := 125) dX8_mark_122 rfl rfl (fun c24 => ?_) (fun c24 => ?_)
            · refine ev_iconst (pc' := 130) (v := 0) dX8_mark_129 rfl ki_0 ?_
              exact K23 _ (if_neg c24).symm
            · refine ev_iconst (pc' := 126) (v := 1) dX8_mark_125 rfl ki_1 ?_
              refine ev_goto (tgt := 130) dX8_mark_126 rfl ?_
              exact K23 _ (if_pos c24).symm
          intro x22 hx22
          subst hx22
          refine ev_iret dX8_mark_130 rfl rfl ⟨Nat.le_refl _, Nat.le_refl _⟩ ?_
          exact k4 n2 gn2 hn2 rfl j7 h8 rfl h10 c12 x13 hx13 c20
        refine ev_tswOut (tgt := 131) dX8_mark_63 (by have q0 : ¬ (x13).toInt = 1 := fun q => c14 (nb_eq.mpr (q.trans (by decide))); have q1 : ¬ (x13).toInt = 2 := fun q => c15 (nb_eq.mpr (q.trans (by decide))); have q2 : ¬ (x13).toInt = 3 := fun q => c20 (nb_eq.mpr (q.trans (by decide))); omega) rfl ?_
        refine ev_aload_n (pc' := 132) (i := 0) dX8_mark_131 rfl rfl rfl ?_
        refine ev_getR (pc' := 135) fo_X8_40 dX8_mark_132 rfl hs_115 rfl rf_115_14 ?_
        refine ev_iload (pc' := 137) dX8_mark_135 rfl rfl ?_
        refine ev_bipush (pc' := 139) (v := 7) dX8_mark_137 rfl kb_7 ?_
        refine ev_iadd (pc' := 140) (v := nI ((10 * j7) + 7)) dX8_mark_139 rfl (nI_add (10 * j7) 7) ?_
        refine ev_iald (pc' := 141) (j := (10 * j7) + 7) (v := (I 124) ((10 * j7) + 7)) dX8_mark_140 rfl hs_124 rfl (by omega) (Nat.le_of_ble_eq_true rfl) rfl ?_
        refine ev_callS (pc' := 144) (rm' := rX8_isSquare) (av := [.int ((I 124) ((10 * j7) + 7))]) (rest := []) co_X8_220 cs_X8_isSquare dX8_mark_141 rfl rfl rfl (Nat.le_of_ble_eq_true rfl) ⟨(Nat.le_of_ble_eq_true rfl), (Nat.le_of_ble_eq_true rfl)⟩ ⟨(Nat.le_of_ble_eq_true rfl), (Nat.le_of_ble_eq_true rfl)⟩ ?_
        refine t_X8_isSquare ((I 124) ((10 * j7) + 7)) (hw _ (by omega)) (fun r25 f26 f27 => ?_)
        suffices K30 : ∀ x29 : Int32, x29 = (if ¬ r25 = 0 then (1 : Int32) else 0) → EV g yX8_mark cX8_mark 5 (some .int) rX8_mark (ma_ZM g rX8_mark Post) 152 [some (.ref 115), some (.int (nI j7)), some (.int (nI n2)), some (.int 0), some (.int (nI (10 * j7)))] [.int x29] HS I L RF 146 0 0 by
          refine ev_if_eq (tgt := 151) (pc' := 147) dX8_mark_144 rfl rfl (fun c31 => ?_) (fun c31 => ?_)
          · refine ev_iconst (pc' := 152) (v := 0) dX8_mark_151 rfl ki_0 ?_
            exact K30 _ (if_neg (not_not_intro c31)).symm
          · refine ev_iconst (pc' := 148) (v := 1) dX8_mark_147 rfl ki_1 ?_
            refine ev_goto (tgt := 152) dX8_mark_148 rfl ?_
            exact K30 _ (if_pos c31).symm
        intro x29 hx29
        subst hx29
        refine ev_iret dX8_mark_152 rfl rfl ⟨Nat.le_refl _, Nat.le_refl _⟩ ?_
        exact k5 n2 gn2 hn2 rfl j7 h8 rfl h10 c12 x13 hx13 c14 c15 c20 r25 f26 f27
      · refine ev_iload_n (pc' := 41) (i := 2) dX8_mark_40 rfl rfl rfl ?_
        refine ev_iconst (pc' := 42) (v := 1) dX8_mark_41 rfl ki_1 ?_
        refine ev_icmp_ne (tgt := 56) (pc' := 45) dX8_mark_42 rfl rfl (fun c32 => ?_) (fun c32 => ?_)
        · refine ev_aload_n (pc' := 57) (i := 0) dX8_mark_56 rfl rfl rfl ?_
          refine ev_iconst (pc' := 58) (v := 3) dX8_mark_57 rfl ki_3 ?_
          refine ev_callV (pc' := 61) (rm' := rX8_meets) (b := 115) (av := [.int 3]) (rest := []) co_X8_141 ci_X8_meets cv_X8_meets dX8_mark_58 rfl hs_115 hb_X8 rfl rfl (Nat.le_of_ble_eq_true rfl) ⟨(Nat.le_of_ble_eq_true rfl), (Nat.le_of_ble_eq_true rfl)⟩ ⟨(Nat.le_of_ble_eq_true rfl), (Nat.le_of_ble_eq_true rfl)⟩ ?_
          refine t_X8_meets 3 (by omega) ?_
          refine ev_mMt 3 ?_
          refine ev_iret dX8_mark_61 rfl rfl ⟨Nat.le_refl _, Nat.le_refl _⟩ ?_
          exact k6 n2 gn2 hn2 rfl j7 h8 rfl h10 c12 c32
        · refine ev_aload_n (pc' := 46) (i := 0) dX8_mark_45 rfl rfl rfl ?_
          refine ev_getR (pc' := 49) fo_X8_40 dX8_mark_46 rfl hs_115 rfl rf_115_14 ?_
          refine ev_iload (pc' := 51) dX8_mark_49 rfl rfl ?_
          refine ev_iald (pc' := 52) (j := 10 * j7) (v := (I 124) (10 * j7)) dX8_mark_51 rfl hs_124 rfl (by omega) (Nat.le_of_ble_eq_true rfl) rfl ?_
          refine ev_iconst (pc' := 53) (v := 2) dX8_mark_52 rfl ki_2 ?_
          refine ev_icmp_eq (tgt := 62) (pc' := 56) dX8_mark_53 rfl rfl (fun c33 => ?_) (fun c33 => ?_)
          · refine ev_iload_n (pc' := 63) (i := 2) dX8_mark_62 rfl rfl rfl ?_
            refine ev_topi (fun x34 hx34 => ?_)
            by_cases c35 : x34 = 1
            · refine ev_tswIn (off := 25) (tgt := 88) dX8_mark_63 (by rw [c35]; decide) (by rw [c35]; decide) (by rw [c35]; rfl) rfl ?_
              refine ev_aload_n (pc' := 89) (i := 0) dX8_mark_88 rfl rfl rfl ?_
              refine ev_getR (pc' := 92) fo_X8_40 dX8_mark_89 rfl hs_115 rfl rf_115_14 ?_
              refine ev_iload (pc' := 94) dX8_mark_92 rfl rfl ?_
              refine ev_iconst (pc' := 95) (v := 3) dX8_mark_94 rfl ki_3 ?_
              refine ev_iadd (pc' := 96) (v := nI ((10 * j7) + 3)) dX8_mark_95 rfl (nI_add (10 * j7) 3) ?_
              refine ev_iald (pc' := 97) (j := (10 * j7) + 3) (v := (I 124) ((10 * j7) + 3)) dX8_mark_96 rfl hs_124 rfl (by omega) (Nat.le_of_ble_eq_true rfl) rfl ?_
              refine ev_iret dX8_mark_97 rfl rfl ⟨Nat.le_refl _, Nat.le_refl _⟩ ?_
              exact k7 n2 gn2 hn2 rfl j7 h8 rfl h10 c12 c32 c33 x34 hx34 c35
            by_cases c36 : x34 = 2
            · refine ev_tswIn (off := 35) (tgt := 98) dX8_mark_63 (by rw [c36]; decide) (by rw [c36]; decide) (by rw [c36]; rfl) rfl ?_
              refine ev_aload_n (pc' := 99) (i := 0) dX8_mark_98 rfl rfl rfl ?_
              refine ev_iload_n (pc' := 100) (i := 1) dX8_mark_99 rfl rfl rfl ?_
              refine ev_callV (pc' := 103) (rm' := rX8_changes) (b := 115) (av := [.int (nI j7)]) (rest := []) co_X8_217 ci_X8_changes cv_X8_changes dX8_mark_100 rfl hs_115 hb_X8 rfl rfl (Nat.le_of_ble_eq_true rfl) ⟨(Nat.le_of_ble_eq_true rfl), (Nat.le_of_ble_eq_true rfl)⟩ ⟨(Nat.le_of_ble_eq_true rfl), (Nat.le_of_ble_eq_true rfl)⟩ ?_
              refine t_X8_changes j7 (by omega) ?_
              suffices K39 : ∀ x38 : Int32, x38 = (if (¬ ((I 124) ((10 * j7) + 1)) ≤ 0) ∧ (¬ ((I 124) ((10 * j7) + 2)) ≤ 0) then (1 : Int32) else 0) → EV g yX8_mark cX8_mark 5 (some .int) rX8_mark (ma_ZM g rX8_mark Post) 111 [some (.ref 115), some (.int (nI j7)), some (.int (nI n2)), some (.int 0), some (.int (nI (10 * j7)))] [.int x38] HS I L RF 146 0 0 by
                refine ev_if_eq_b (tgt := 110) (pc' := 106) dX8_mark_103 rfl rfl (fun c40 => ?_) (fun c40 => ?_)
                · refine ev_iconst (pc' := 111) (v := 0) dX8_mark_110 rfl ki_0 ?_
                  exact K39 _ (if_neg c40).symm
                · refine ev_iconst (pc' := 107) (v := 1) dX8_mark_106 rfl ki_1 ?_
                  refine ev_goto (tgt := 111) dX8_mark_107 rfl ?_
                  exact K39 _ (if_pos c40).symm
              intro x38 hx38
              subst hx38
              refine ev_iret dX8_mark_111 rfl rfl ⟨Nat.le_refl _, Nat.le_refl _⟩ ?_
              exact k8 n2 gn2 hn2 rfl j7 h8 rfl h10 c12 c32 c33 x34 hx34 c36
            by_cases c41 : x34 = 3
            · refine ev_tswIn (off := 49) (tgt := 112) dX8_mark_63 (by rw [c41]; decide) (by rw [c41]; decide) (by rw [c41]; rfl) rfl ?_
              refine ev_aload_n (pc' := 113) (i := 0) dX8_mark_112 rfl rfl rfl ?_
              refine ev_getR (pc' := 116) fo_X8_40 dX8_mark_113 rfl hs_115 rfl rf_115_14 ?_
              refine ev_iload (pc' := 118) dX8_mark_116 rfl rfl ?_
              refine ev_iconst (pc' := 119) (v := 1) dX8_mark_118 rfl ki_1 ?_
              refine ev_iadd (pc' := 120) (v := nI ((10 * j7) + 1)) dX8_mark_119 rfl (nI_add (10 * j7) 1) ?_
              refine ev_iald (pc' := 121) (j := (10 * j7) + 1) (v := (I 124) ((10 * j7) + 1)) dX8_mark_120 rfl hs_124 rfl (by omega) (Nat.le_of_ble_eq_true rfl) rfl ?_
              refine ev_iconst (pc' := 122) (v := 3) dX8_mark_121 rfl ki_3 ?_
              suffices K44 : ∀ x43 : Int32, x43 = (if ((I 124) ((10 * j7) + 1)) = 3 then (1 : Int32) else 0) → EV g yX8_mark cX8_mark 5 (some .int) rX8_mark (ma_ZM g rX8_mark Post) 130 [some (.ref 115), some (.int (nI j7)), some (.int (nI n2)), some (.int 0), some (.int (nI (10 * j7)))] [.int x43] HS I L RF 146 0 0 by
                refine ev_icmp_ne (tgt := 129) (pc' := 125) dX8_mark_122 rfl rfl (fun c45 => ?_) (fun c45 => ?_)
                · refine ev_iconst (pc' := 130) (v := 0) dX8_mark_129 rfl ki_0 ?_
                  exact K44 _ (if_neg c45).symm
                · refine ev_iconst (pc' := 126) (v := 1) dX8_mark_125 rfl ki_1 ?_
                  refine ev_goto (tgt := 130) dX8_mark_126 rfl ?_
                  exact K44 _ (if_pos c45).symm
              intro x43 hx43
              subst hx43
              refine ev_iret dX8_mark_130 rfl rfl ⟨Nat.le_refl _, Nat.le_refl _⟩ ?_
              exact k9 n2 gn2 hn2 rfl j7 h8 rfl h10 c12 c32 c33 x34 hx34 c41
            refine ev_tswOut (tgt := 131) dX8_mark_63 (by have q0 : ¬ (x34).toInt = 1 := fun q => c35 (nb_eq.mpr (q.trans (by decide))); have q1 : ¬ (x34).toInt = 2 := fun q => c36 (nb_eq.mpr (q.trans (by decide))); have q2 : ¬ (x34).toInt = 3 := fun q => c41 (nb_eq.mpr (q.trans (by decide))); omega) rfl ?_
            refine ev_aload_n (pc' := 132) (i := 0) dX8_mark_131 rfl rfl rfl ?_
            refine ev_getR (pc' := 135) fo_X8_40 dX8_mark_132 rfl hs_115 rfl rf_115_14 ?_
            refine ev_iload (pc' := 137) dX8_mark_135 rfl rfl ?_
            refine ev_bipush (pc' := 139) (v := 7) dX8_mark_137 rfl kb_7 ?_
            refine ev_iadd (pc' := 140) (v := nI ((10 * j7) + 7)) dX8_mark_139 rfl (nI_add (10 * j7) 7) ?_
            refine ev_iald (pc' := 141) (j := (10 * j7) + 7) (v := (I 124) ((10 * j7) + 7)) dX8_mark_140 rfl hs_124 rfl (by omega) (Nat.le_of_ble_eq_true rfl) rfl ?_
            refine ev_callS (pc' := 144) (rm' := rX8_isSquare) (av := [.int ((I 124) ((10 * j7) + 7))]) (rest := []) co_X8_220 cs_X8_isSquare dX8_mark_141 rfl rfl rfl (Nat.le_of_ble_eq_true rfl) ⟨(Nat.le_of_ble_eq_true rfl), (Nat.le_of_ble_eq_true rfl)⟩ ⟨(Nat.le_of_ble_eq_true rfl), (Nat.le_of_ble_eq_true rfl)⟩ ?_
            refine t_X8_isSquare ((I 124) ((10 * j7) + 7)) (hw _ (by omega)) (fun r46 f47 f48 => ?_)
            suffices K51 : ∀ x50 : Int32, x50 = (if ¬ r46 = 0 then (1 : Int32) else 0) → EV g yX8_mark cX8_mark 5 (some .int) rX8_mark (ma_ZM g rX8_mark Post) 152 [some (.ref 115), some (.int (nI j7)), some (.int (nI n2)), some (.int 0), some (.int (nI (10 * j7)))] [.int x50] HS I L RF 146 0 0 by
              refine ev_if_eq (tgt := 151) (pc' := 147) dX8_mark_144 rfl rfl (fun c52 => ?_) (fun c52 => ?_)
              · refine ev_iconst (pc' := 152) (v := 0) dX8_mark_151 rfl ki_0 ?_
                exact K51 _ (if_neg (not_not_intro c52)).symm
              · refine ev_iconst (pc' := 148) (v := 1) dX8_mark_147 rfl ki_1 ?_
                refine ev_goto (tgt := 152) dX8_mark_148 rfl ?_
                exact K51 _ (if_pos c52).symm
            intro x50 hx50
            subst hx50
            refine ev_iret dX8_mark_152 rfl rfl ⟨Nat.le_refl _, Nat.le_refl _⟩ ?_
            exact k10 n2 gn2 hn2 rfl j7 h8 rfl h10 c12 c32 c33 x34 hx34 c35 c36 c41 r46 f47 f48
          · refine ev_aload_n (pc' := 57) (i := 0) dX8_mark_56 rfl rfl rfl ?_
            refine ev_iconst (pc' := 58) (v := 3) dX8_mark_57 rfl ki_3 ?_
            refine ev_callV (pc' := 61) (rm' := rX8_meets) (b := 115) (av := [.int 3]) (rest := []) co_X8_141 ci_X8_meets cv_X8_meets dX8_mark_58 rfl hs_115 hb_X8 rfl rfl (Nat.le_of_ble_eq_true rfl) ⟨(Nat.le_of_ble_eq_true rfl), (Nat.le_of_ble_eq_true rfl)⟩ ⟨(Nat.le_of_ble_eq_true rfl), (Nat.le_of_ble_eq_true rfl)⟩ ?_
            refine t_X8_meets 3 (by omega) ?_
            refine ev_mMt 3 ?_
            refine ev_iret dX8_mark_61 rfl rfl ⟨Nat.le_refl _, Nat.le_refl _⟩ ?_
            exact k11 n2 gn2 hn2 rfl j7 h8 rfl h10 c12 c32 c33
    · skip
      refine ev_istore_n (pc' := 17) (i := 3) (lv' := [some (.ref 115), some (.int q), some (.int (nI n2)), some (.int (-1)), none]) dX8_mark_16 rfl rfl (Nat.le_of_ble_eq_true rfl) rfl rfl ?_
      refine ev_iload_n (pc' := 18) (i := 3) dX8_mark_17 rfl rfl rfl ?_
      refine ev_if_ge (tgt := 23) (pc' := 21) dX8_mark_18 rfl rfl (fun h => absurd h (by decide)) (fun _ => ?_)
      refine ev_iload_n (pc' := 22) (i := 3) dX8_mark_21 rfl rfl rfl ?_
      refine ev_iret dX8_mark_22 rfl rfl ⟨Nat.le_refl _, Nat.le_refl _⟩ ?_
      exact k12 n2 gn2 hn2 rfl h11
  · refine ev_iconst (pc' := 10) (v := (-1)) dX8_mark_9 rfl ki_m1 ?_
    refine ev_iret dX8_mark_10 rfl rfl ⟨Nat.le_refl _, Nat.le_refl _⟩ ?_
    exact k13 c1
set_option maxRecDepth 4000 in
theorem t_X8_mix {g : ma_G} {Post : ma_P} {I : ma_I} {L : ma_L} (v : Int32)  (k : Post none HS I (ma_up L 115 (ma_up (L 115) 47 ((31 * ((L 115) 47)) + (Int32.toInt64 v)))) RF 146) : CT g yX8_mix cX8_mix 2 none rX8_mix [.ref 115, .int v] Post HS I L RF 146 := by
  refine ct_of (lv := [some (.ref 115), some (.int v)]) (by decide) (Nat.le_of_ble_eq_true rfl) rfl ?_
  refine ev_aload_n (pc' := 1) (i := 0) dX8_mix_0 rfl rfl rfl ?_
  refine ev_ldc2 (pc' := 4) cl_X8_382 dX8_mix_1 rfl ?_
  refine ev_aload_n (pc' := 5) (i := 0) dX8_mix_4 rfl rfl rfl ?_
  refine ev_getL (pc' := 8) (v := (L 115) 47) fo_X8_384 dX8_mix_5 rfl hs_115 rfl rfl ?_
  refine ev_lmul (pc' := 9) (v := 31 * ((L 115) 47)) dX8_mix_8 rfl rfl ?_
  refine ev_iload_n (pc' := 10) (i := 1) dX8_mix_9 rfl rfl rfl ?_
  refine ev_i2l (pc' := 11) (v := Int32.toInt64 v) dX8_mix_10 rfl rfl ?_
  refine ev_ladd (pc' := 12) (v := (31 * ((L 115) 47)) + (Int32.toInt64 v)) dX8_mix_11 rfl rfl ?_
  refine ev_putL (pc' := 15) (L' := (ma_up L 115 (ma_up (L 115) 47 ((31 * ((L 115) 47)) + (Int32.toInt64 v))))) fo_X8_384 dX8_mix_12 rfl hs_115 rfl (fun r hr => by cases hr; rfl) rfl ?_
  refine ev_vret dX8_mix_15 rfl ⟨Nat.le_refl _, Nat.le_refl _⟩ ?_
  exact k
