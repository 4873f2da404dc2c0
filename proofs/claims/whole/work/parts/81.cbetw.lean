theorem cS_n {n : Nat} (h1 : 1 ≤ n) (h8 : n < 9) : ∃ c s, c + 1 = 2 ^ n ∧ s * 2 ^ n = 256 ∧ c < 256 := by
  have hp := Nat.pow_pos (n := n) (show 0 < 2 by omega)
  refine ⟨2 ^ n - 1, 2 ^ (8 - n), by omega, ?_, ?_⟩
  · rw [← Nat.pow_add, show 8 - n + n = 8 by omega]
  · have : 2 ^ n ≤ 2 ^ 8 := Nat.pow_le_pow_right (by omega) (by omega)
    omega
set_option maxRecDepth 4000 in
theorem t_X7_between {g : ma_G} {Post : ma_P} {I : ma_I} {L : ma_L}  (q : Int32) (r : Int32) (n : Int32) (hP : ∀ g h, g < 12 → h < 12 → cFk (cFo (L (57 + 5 * g)) (L (57 + 5 * h)) 1 1)) (hX : ∀ j, j ≤ 256 → I 27 j = mSb 0 1 8 j) (hY : ∀ j, j ≤ 256 → I 28 j = mSb 1 0 8 j) (k1 : (n < 1) → Post (some (.int (-1))) HS I L RF 146) (k2 : ∀ n3 : Nat, (1 ≤ n3) → (n3 < 9) → n = nI n3 → ((q < 0) ∨ (¬ q < 12)) → Post (some (.int (-1))) HS I L RF 146) (k3 : ∀ n3 : Nat, (1 ≤ n3) → (n3 < 9) → n = nI n3 → ∀ j5 : Nat, (j5 < 12) → q = nI j5 → ∀ j8 : Nat, (j8 < 12) → r = nI j8 → (((I (55 + 5 * j5)) 0) = 0) → Post (some (.int (-3))) HS (cRf I 1) L RF 146) (k4 : ∀ n3 : Nat, (1 ≤ n3) → (n3 < 9) → n = nI n3 → ∀ j12 : Nat, (j12 < 12) → q = nI j12 → ∀ j15 : Nat, (j15 < 12) → r = nI j15 → (¬ ((I (55 + 5 * j12)) 0) = 0) → (¬ ((I (55 + 5 * j15)) 0) = 0) → ∀ j20 : Nat → Int64, ∀ j21 : Nat → Int64, (∀ j, j < 5 → j21 j = (cFo (L (57 + 5 * j12)) (L (57 + 5 * j15)) 1 1) j) → ∀ L1 : ma_L, (L1 = (ma_up (ma_up (ma_up L 16 j20) 13 j21) 12 (ma_up (ma_up (L 12) 5 (cIi (cFo (L (57 + 5 * j12)) (L (57 + 5 * j15)) 1 1))) 6 (cJj (cFo (L (57 + 5 * j12)) (L (57 + 5 * j15)) 1 1))))) → ∀ c : Nat, (c + 1 = 2 ^ n3) → ∀ s2 : Int32, ∀ s3 : Int32, ∀ s4 : Int32, ∀ JJ : ma_I, ∀ KK : ma_L, ((JJ 26 3, s2, s3, s4, JJ 26 4) = cBt (L1 13) (L1 (57 + 5 * j12)) (L1 (57 + 5 * j15)) n3 c (2 * c + 1)) → (∀ x, x ≠ 26 → x ≠ 29 → JJ x = I x) → (∀ x, x ≠ 30 → x ≠ 31 → KK x = L1 x) → (∀ j, j < 5 → KK 13 j = 0) → Post (some (.int (-6))) HS (ma_up JJ 3 (ma_up (JJ 3) 13 ((JJ 26) 3))) KK RF 146) (k5 : ∀ n3 : Nat, (1 ≤ n3) → (n3 < 9) → n = nI n3 → ∀ j12 : Nat, (j12 < 12) → q = nI j12 → ∀ j15 : Nat, (j15 < 12) → r = nI j15 → (¬ ((I (55 + 5 * j12)) 0) = 0) → (¬ ((I (55 + 5 * j15)) 0) = 0) → ∀ j20 : Nat → Int64, ∀ j21 : Nat → Int64, (∀ j, j < 5 → j21 j = (cFo (L (57 + 5 * j12)) (L (57 + 5 * j15)) 1 1) j) → ∀ L1 : ma_L, (L1 = (ma_up (ma_up (ma_up L 16 j20) 13 j21) 12 (ma_up (ma_up (L 12) 5 (cIi (cFo (L (57 + 5 * j12)) (L (57 + 5 * j15)) 1 1))) 6 (cJj (cFo (L (57 + 5 * j12)) (L (57 + 5 * j15)) 1 1))))) → ∀ c : Nat, (c + 1 = 2 ^ n3) → ∀ s2 : Int32, ∀ s3 : Int32, ∀ s4 : Int32, ∀ JJ : ma_I, ∀ KK : ma_L, ((JJ 26 3, s2, s3, s4, JJ 26 4) = cBt (L1 13) (L1 (57 + 5 * j12)) (L1 (57 + 5 * j15)) n3 c (2 * c + 1)) → (∀ x, x ≠ 26 → x ≠ 29 → JJ x = I x) → (∀ x, x ≠ 30 → x ≠ 31 → KK x = L1 x) → (¬ (∀ j, j < 5 → KK 13 j = 0)) → ∀ Y36 : Nat → Int64, ∀ Z37 : Nat → Int64, ∀ V38 : Nat → Int64, ∀ W39 : Nat → Int64, (¬ ((JJ 26) 4) = (if (KK 13) 0 = 0 then cS1 (cFig (KK 13) ((KK 12) 5) ((KK 12) 6)) else cS0 (cFig (KK 13) ((KK 12) 5) ((KK 12) 6)))) → Post (some (.int (-6))) HS (ma_up JJ 3 (ma_up (JJ 3) 13 ((JJ 26) 3))) (ma_up (ma_up (ma_up (ma_up KK 20 Y36) 19 Z37) 23 V38) 22 W39) RF 146) (k6 : ∀ n3 : Nat, (1 ≤ n3) → (n3 < 9) → n = nI n3 → ∀ j12 : Nat, (j12 < 12) → q = nI j12 → ∀ j15 : Nat, (j15 < 12) → r = nI j15 → (¬ ((I (55 + 5 * j12)) 0) = 0) → (¬ ((I (55 + 5 * j15)) 0) = 0) → ∀ j20 : Nat → Int64, ∀ j21 : Nat → Int64, (∀ j, j < 5 → j21 j = (cFo (L (57 + 5 * j12)) (L (57 + 5 * j15)) 1 1) j) → ∀ L1 : ma_L, (L1 = (ma_up (ma_up (ma_up L 16 j20) 13 j21) 12 (ma_up (ma_up (L 12) 5 (cIi (cFo (L (57 + 5 * j12)) (L (57 + 5 * j15)) 1 1))) 6 (cJj (cFo (L (57 + 5 * j12)) (L (57 + 5 * j15)) 1 1))))) → ∀ c : Nat, (c + 1 = 2 ^ n3) → ∀ s2 : Int32, ∀ s3 : Int32, ∀ s4 : Int32, ∀ JJ : ma_I, ∀ KK : ma_L, ((JJ 26 3, s2, s3, s4, JJ 26 4) = cBt (L1 13) (L1 (57 + 5 * j12)) (L1 (57 + 5 * j15)) n3 c (2 * c + 1)) → (∀ x, x ≠ 26 → x ≠ 29 → JJ x = I x) → (∀ x, x ≠ 30 → x ≠ 31 → KK x = L1 x) → (¬ (∀ j, j < 5 → KK 13 j = 0)) → ∀ Y36 : Nat → Int64, ∀ Z37 : Nat → Int64, ∀ V38 : Nat → Int64, ∀ W39 : Nat → Int64, (((JJ 26) 4) = (if (KK 13) 0 = 0 then cS1 (cFig (KK 13) ((KK 12) 5) ((KK 12) 6)) else cS0 (cFig (KK 13) ((KK 12) 5) ((KK 12) 6)))) → Post (some (.int ((JJ 26) 3))) HS (ma_up JJ 3 (ma_up (JJ 3) 13 ((JJ 26) 3))) (ma_up (ma_up (ma_up (ma_up KK 20 Y36) 19 Z37) 23 V38) 22 W39) RF 146) (k7 : ∀ n3 : Nat, (1 ≤ n3) → (n3 < 9) → n = nI n3 → ∀ j23 : Nat, (j23 < 12) → q = nI j23 → ∀ j26 : Nat, (j26 < 12) → r = nI j26 → (¬ ((I (55 + 5 * j23)) 0) = 0) → (((I (55 + 5 * j26)) 0) = 0) → Post (some (.int (-3))) HS (cRf I 1) L RF 146) (k8 : ∀ n3 : Nat, (1 ≤ n3) → (n3 < 9) → n = nI n3 → ∀ j31 : Nat, (j31 < 12) → q = nI j31 → ((r < 0) ∨ (¬ r < 12)) → Post (some (.int (-1))) HS I L RF 146) (k9 : (¬ n < 1) → (¬ n ≤ 8) → Post (some (.int (-1))) HS I L RF 146) : CT g yX7_between cX7_between 6 (some .int) rX7_between [.ref 3, .int q, .int r, .int n] Post HS I L RF 146 := by
  refine ct_of (lv := [some (.ref 3), some (.int q), some (.int r), some (.int n), none, none]) (by decide) (Nat.le_of_ble_eq_true rfl) rfl ?_
  refine ev_iload_n (pc' := 1) (i := 3) dX7_between_0 rfl rfl rfl ?_
  refine ev_iconst (pc' := 2) (v := 1) dX7_between_1 rfl ki_1 ?_
  refine ev_icmp_lt (tgt := 11) (pc' := 5) dX7_between_2 rfl rfl (fun c1 => ?_) (fun c1 => ?_)
  · refine ev_iconst (pc' := 12) (v := (-1)) dX7_between_11 rfl ki_m1 ?_
    refine ev_iret dX7_between_12 rfl rfl ⟨Nat.le_refl _, Nat.le_refl _⟩ ?_
    exact k1 c1
  · refine ev_iload_n (pc' := 6) (i := 3) dX7_between_5 rfl rfl rfl ?_
    refine ev_bipush (pc' := 8) (v := 8) dX7_between_6 rfl kb_8 ?_
    refine ev_icmp_le (tgt := 13) (pc' := 11) dX7_between_8 rfl rfl (fun c2 => ?_) (fun c2 => ?_)
    · obtain ⟨n3, gn3, hn3, en3⟩ := nat_of (x := n) (lo := 1) (hi := 9) (by have q := c1; rw [nb_lt] at q; have z : (1 : Int32).toInt = 1 := (by decide); omega) (by have q := c2; rw [nb_le] at q; have z : (8 : Int32).toInt = 8 := (by decide); omega) (by omega)
      subst en3
      refine ev_aload_n (pc' := 14) (i := 0) dX7_between_13 rfl rfl rfl ?_
      refine ev_iload_n (pc' := 15) (i := 1) dX7_between_14 rfl rfl rfl ?_
      refine ev_iload_n (pc' := 16) (i := 2) dX7_between_15 rfl rfl rfl ?_
      refine ev_callV (pc' := 19) (rm' := rX7_refusedPencil) (b := 3) (av := [.int q, .int r]) (rest := []) co_X7_266 ci_X7_refusedPencil cv_X7_refusedPencil dX7_between_16 rfl hs_3 hb_X7 rfl rfl (Nat.le_of_ble_eq_true rfl) ⟨(Nat.le_of_ble_eq_true rfl), (Nat.le_of_ble_eq_true rfl)⟩ ⟨(Nat.le_of_ble_eq_true rfl), (Nat.le_of_ble_eq_true rfl)⟩ ?_
      refine t_X7_refusedPencil q r  (fun h4 => ?_) (fun j5 h6 e7 j8 h9 e10 h11 => ?_) (fun j12 h13 e14 j15 h16 e17 h18 h19 j20 j21 h22 => ?_) (fun j23 h24 e25 j26 h27 e28 h29 h30 => ?_) (fun j31 h32 e33 h34 => ?_)
      · skip
        refine ev_istore (pc' := 21) (lv' := [some (.ref 3), some (.int q), some (.int r), some (.int (nI n3)), some (.int (-1)), none]) dX7_between_19 rfl (Nat.le_of_ble_eq_true rfl) rfl rfl ?_
        refine ev_iload (pc' := 23) dX7_between_21 rfl rfl ?_
        refine ev_if_eq (tgt := 29) (pc' := 26) dX7_between_23 rfl rfl (fun h => absurd h (by decide)) (fun _ => ?_)
        refine ev_iload (pc' := 28) dX7_between_26 rfl rfl ?_
        refine ev_iret dX7_between_28 rfl rfl ⟨Nat.le_refl _, Nat.le_refl _⟩ ?_
        exact k2 n3 gn3 hn3 rfl h4
      · subst e7
        subst e10
        refine ev_istore (pc' := 21) (lv' := [some (.ref 3), some (.int (nI j5)), some (.int (nI j8)), some (.int (nI n3)), some (.int (-3)), none]) dX7_between_19 rfl (Nat.le_of_ble_eq_true rfl) rfl rfl ?_
        refine ev_iload (pc' := 23) dX7_between_21 rfl rfl ?_
        refine ev_if_eq (tgt := 29) (pc' := 26) dX7_between_23 rfl rfl (fun h => absurd h (by decide)) (fun _ => ?_)
        refine ev_iload (pc' := 28) dX7_between_26 rfl rfl ?_
        refine ev_iret dX7_between_28 rfl rfl ⟨Nat.le_refl _, Nat.le_refl _⟩ ?_
        exact k3 n3 gn3 hn3 rfl j5 h6 rfl j8 h9 rfl h11
      · subst e14
        subst e17
        refine ev_istore (pc' := 21) (lv' := [some (.ref 3), some (.int (nI j12)), some (.int (nI j15)), some (.int (nI n3)), some (.int 0), none]) dX7_between_19 rfl (Nat.le_of_ble_eq_true rfl) rfl rfl ?_
        refine ev_iload (pc' := 23) dX7_between_21 rfl rfl ?_
        refine ev_if_eq (tgt := 29) (pc' := 26) dX7_between_23 rfl rfl (fun _ => ?_) (fun h => absurd (by decide) h)
        refine ev_aload_n (pc' := 30) (i := 0) dX7_between_29 rfl rfl rfl ?_
        refine ev_getR (pc' := 33) fo_X7_41 dX7_between_30 rfl hs_3 rfl rf_3_5 ?_
        refine ev_aload_n (pc' := 34) (i := 0) dX7_between_33 rfl rfl rfl ?_
        refine ev_getR (pc' := 37) fo_X7_34 dX7_between_34 rfl hs_3 rfl rf_3_4 ?_
        refine ev_aload_n (pc' := 38) (i := 0) dX7_between_37 rfl rfl rfl ?_
        refine ev_getR (pc' := 41) fo_X7_17 dX7_between_38 rfl hs_3 rfl rf_3_1 ?_
        refine ev_iload_n (pc' := 42) (i := 1) dX7_between_41 rfl rfl rfl ?_
        refine ev_aald (pc' := 43) (j := j12) (b := 55 + 5 * j12) dX7_between_42 rfl hs_5 (Or.inr rfl) rfl (by omega) (Nat.le_of_ble_eq_true rfl) (hs_ground j12 (by omega)).2.2.2.2.2.2.2.2.2 ?_
        refine ev_getR (pc' := 46) fo_X7_141 dX7_between_43 rfl (hs_ground j12 (by omega)).1 rfl (hs_ground j12 (by omega)).2.2.2.2.2.1 ?_
        refine ev_aload_n (pc' := 47) (i := 0) dX7_between_46 rfl rfl rfl ?_
        refine ev_getR (pc' := 50) fo_X7_17 dX7_between_47 rfl hs_3 rfl rf_3_1 ?_
        refine ev_iload_n (pc' := 51) (i := 2) dX7_between_50 rfl rfl rfl ?_
        refine ev_aald (pc' := 52) (j := j15) (b := 55 + 5 * j15) dX7_between_51 rfl hs_5 (Or.inr rfl) rfl (by omega) (Nat.le_of_ble_eq_true rfl) (hs_ground j15 (by omega)).2.2.2.2.2.2.2.2.2 ?_
        refine ev_getR (pc' := 55) fo_X7_141 dX7_between_52 rfl (hs_ground j15 (by omega)).1 rfl (hs_ground j15 (by omega)).2.2.2.2.2.1 ?_
        refine ev_iload_n (pc' := 56) (i := 3) dX7_between_55 rfl rfl rfl ?_
        refine ev_callV (pc' := 59) (rm' := rX5_walk) (b := 26) (av := [.ref 12, .ref (56 + 5 * j12), .ref (56 + 5 * j15), .int (nI n3)]) (rest := []) co_X7_298 ci_X5_walk cv_X5_walk dX7_between_56 rfl hs_26 hb_X5 rfl rfl (Nat.le_of_ble_eq_true rfl) ⟨(Nat.le_of_ble_eq_true rfl), (Nat.le_of_ble_eq_true rfl)⟩ ⟨(Nat.le_of_ble_eq_true rfl), (Nat.le_of_ble_eq_true rfl)⟩ ?_
        refine ct_memL (fun L1 hL1 => ?_)
        obtain ⟨c, s, hc, hs0, hc3⟩ := cS_n (n := n3) (by omega) (by omega)
        refine t_X5_walk (56 + 5 * j12) (56 + 5 * j15) (57 + 5 * j12) (57 + 5 * j15) (hs_ground j12 (by omega)).2.1 (hs_ground j12 (by omega)).2.2.2.2.2.2.2.1 (hs_ground j12 (by omega)).2.2.1 (by omega) (by omega) (hs_ground j15 (by omega)).2.1 (hs_ground j15 (by omega)).2.2.2.2.2.2.2.1 (hs_ground j15 (by omega)).2.2.1 (by omega) (by omega) n3 c s (by omega) hc hs0 hX hY (fun s2 s3 s4 JJ KK hbt hJ hK => ?_)
        refine ev_aload_n (pc' := 60) (i := 0) dX7_between_59 rfl rfl rfl ?_
        refine ev_aload_n (pc' := 61) (i := 0) dX7_between_60 rfl rfl rfl ?_
        refine ev_getR (pc' := 64) fo_X7_41 dX7_between_61 rfl hs_3 rfl rf_3_5 ?_
        refine ev_getI (pc' := 67) (v := (JJ 26) 3) fo_X7_302 dX7_between_64 rfl hs_26 rfl rfl ?_
        refine ev_putI (pc' := 70) (I' := (ma_up JJ 3 (ma_up (JJ 3) 13 ((JJ 26) 3)))) fo_X7_98 dX7_between_67 rfl hs_3 rfl (fun r hr => by cases hr; rfl) ⟨rfl, rfl⟩ rfl ?_
        refine ev_aload_n (pc' := 71) (i := 0) dX7_between_70 rfl rfl rfl ?_
        refine ev_getR (pc' := 74) fo_X7_34 dX7_between_71 rfl hs_3 rfl rf_3_4 ?_
        refine ev_callV (pc' := 77) (rm' := rX0_isNought) (b := 12) (av := []) (rest := []) co_X7_273 ci_X0_isNought cv_X0_isNought dX7_between_74 rfl hs_12 hb_X0 rfl rfl (Nat.le_of_ble_eq_true rfl) ⟨(Nat.le_of_ble_eq_true rfl), (Nat.le_of_ble_eq_true rfl)⟩ ⟨(Nat.le_of_ble_eq_true rfl), (Nat.le_of_ble_eq_true rfl)⟩ ?_
        refine u_X0_isNought (fun h35 => ?_) (fun h35 => ?_)
        · skip
          refine ev_if_ne (tgt := 101) (pc' := 80) dX7_between_77 rfl rfl (fun _ => ?_) (fun h => absurd h (by decide))
          refine ev_iconst (pc' := 102) (v := 0) dX7_between_101 rfl ki_0 ?_
          refine ev_istore (pc' := 104) (lv' := [some (.ref 3), some (.int (nI j12)), some (.int (nI j15)), some (.int (nI n3)), some (.int 0), some (.int 0)]) dX7_between_102 rfl (Nat.le_of_ble_eq_true rfl) rfl rfl ?_
          refine ev_iload (pc' := 106) dX7_between_104 rfl rfl ?_
          refine ev_if_eq (tgt := 119) (pc' := 109) dX7_between_106 rfl rfl (fun _ => ?_) (fun h => absurd (by decide) h)
          refine ev_bipush (pc' := 121) (v := (-6)) dX7_between_119 rfl kb_m6 ?_
          refine ev_iret dX7_between_121 rfl rfl ⟨Nat.le_refl _, Nat.le_refl _⟩ ?_
          exact k4 n3 gn3 hn3 rfl j12 h13 rfl j15 h16 rfl h18 h19 j20 j21 h22 L1 hL1 c hc s2 s3 s4 JJ KK hbt hJ hK h35
        · skip
          refine ev_if_ne (tgt := 101) (pc' := 80) dX7_between_77 rfl rfl (fun h => absurd (by decide) h) (fun _ => ?_)
          refine ev_aload_n (pc' := 81) (i := 0) dX7_between_80 rfl rfl rfl ?_
          refine ev_getR (pc' := 84) fo_X7_41 dX7_between_81 rfl hs_3 rfl rf_3_5 ?_
          refine ev_getI (pc' := 87) (v := (JJ 26) 4) fo_X7_304 dX7_between_84 rfl hs_26 rfl rfl ?_
          refine ev_aload_n (pc' := 88) (i := 0) dX7_between_87 rfl rfl rfl ?_
          refine ev_getR (pc' := 91) fo_X7_34 dX7_between_88 rfl hs_3 rfl rf_3_4 ?_
          refine ev_callV (pc' := 94) (rm' := rX0_singleRoots) (b := 12) (av := []) (rest := [.int ((JJ 26) 4)]) co_X7_307 ci_X0_singleRoots cv_X0_singleRoots dX7_between_91 rfl hs_12 hb_X0 rfl rfl (Nat.le_of_ble_eq_true rfl) ⟨(Nat.le_of_ble_eq_true rfl), (Nat.le_of_ble_eq_true rfl)⟩ ⟨(Nat.le_of_ble_eq_true rfl), (Nat.le_of_ble_eq_true rfl)⟩ ?_
          have e12 : KK 12 = L1 12 := hK 12 (by decide) (by decide)
          have e13 : KK 13 = L1 13 := hK 13 (by decide) (by decide)
          have hI : ((KK 12) 5).toInt.natAbs < 288230376151711744 := by rw [e12, hL1]; exact (hP j12 j15 (by omega) (by omega)).1
          have hJ2 : ((KK 12) 6).toInt ≠ -9223372036854775808 := by rw [e12, hL1]; exact (hP j12 j15 (by omega) (by omega)).2.1
          have hA : ((KK 13) 0).toInt.natAbs < 288230376151711744 := by rw [e13, hL1]; show (j21 0).toInt.natAbs < _; rw [h22 0 (by omega)]; exact (hP j12 j15 (by omega) (by omega)).2.2.1
          have hE : (((8 * ((KK 13) 0)) * ((KK 13) 2)) - ((3 * ((KK 13) 1)) * ((KK 13) 1))).toInt ≠ -9223372036854775808 := by rw [e13, hL1]; show (((8 * (j21 0)) * (j21 2)) - ((3 * (j21 1)) * (j21 1))).toInt ≠ _; rw [h22 0 (by omega), h22 1 (by omega), h22 2 (by omega)]; exact (hP j12 j15 (by omega) (by omega)).2.2.2
          refine t_X0_singleRoots hI hJ2 hA hE (fun Y36 Z37 V38 W39 => ?_)
          refine ev_icmp_ne (tgt := 101) (pc' := 97) dX7_between_94 rfl rfl (fun c40 => ?_) (fun c40 => ?_)
          · refine ev_iconst (pc' := 102) (v := 0) dX7_between_101 rfl ki_0 ?_
            refine ev_istore (pc' := 104) (lv' := [some (.ref 3), some (.int (nI j12)), some (.int (nI j15)), some (.int (nI n3)), some (.int 0), some (.int 0)]) dX7_between_102 rfl (Nat.le_of_ble_eq_true rfl) rfl rfl ?_
            refine ev_iload (pc' := 106) dX7_between_104 rfl rfl ?_
            refine ev_if_eq (tgt := 119) (pc' := 109) dX7_between_106 rfl rfl (fun _ => ?_) (fun h => absurd (by decide) h)
            refine ev_bipush (pc' := 121) (v := (-6)) dX7_between_119 rfl kb_m6 ?_
            refine ev_iret dX7_between_121 rfl rfl ⟨Nat.le_refl _, Nat.le_refl _⟩ ?_
            exact k5 n3 gn3 hn3 rfl j12 h13 rfl j15 h16 rfl h18 h19 j20 j21 h22 L1 hL1 c hc s2 s3 s4 JJ KK hbt hJ hK h35 Y36 Z37 V38 W39 c40
          · refine ev_iconst (pc' := 98) (v := 1) dX7_between_97 rfl ki_1 ?_
            refine ev_goto (tgt := 102) dX7_between_98 rfl ?_
            refine ev_istore (pc' := 104) (lv' := [some (.ref 3), some (.int (nI j12)), some (.int (nI j15)), some (.int (nI n3)), some (.int 0), some (.int 1)]) dX7_between_102 rfl (Nat.le_of_ble_eq_true rfl) rfl rfl ?_
            refine ev_iload (pc' := 106) dX7_between_104 rfl rfl ?_
            refine ev_if_eq (tgt := 119) (pc' := 109) dX7_between_106 rfl rfl (fun h => absurd h (by decide)) (fun _ => ?_)
            refine ev_aload_n (pc' := 110) (i := 0) dX7_between_109 rfl rfl rfl ?_
            refine ev_getR (pc' := 113) fo_X7_41 dX7_between_110 rfl hs_3 rfl rf_3_5 ?_
            refine ev_getI (pc' := 116) (v := (JJ 26) 3) fo_X7_302 dX7_between_113 rfl hs_26 rfl rfl ?_
            refine ev_goto (tgt := 121) dX7_between_116 rfl ?_
            refine ev_iret dX7_between_121 rfl rfl ⟨Nat.le_refl _, Nat.le_refl _⟩ ?_
            exact k6 n3 gn3 hn3 rfl j12 h13 rfl j15 h16 rfl h18 h19 j20 j21 h22 L1 hL1 c hc s2 s3 s4 JJ KK hbt hJ hK h35 Y36 Z37 V38 W39 c40
      · subst e25
        subst e28
        refine ev_istore (pc' := 21) (lv' := [some (.ref 3), some (.int (nI j23)), some (.int (nI j26)), some (.int (nI n3)), some (.int (-3)), none]) dX7_between_19 rfl (Nat.le_of_ble_eq_true rfl) rfl rfl ?_
        refine ev_iload (pc' := 23) dX7_between_21 rfl rfl ?_
        refine ev_if_eq (tgt := 29) (pc' := 26) dX7_between_23 rfl rfl (fun h => absurd h (by decide)) (fun _ => ?_)
        refine ev_iload (pc' := 28) dX7_between_26 rfl rfl ?_
        refine ev_iret dX7_between_28 rfl rfl ⟨Nat.le_refl _, Nat.le_refl _⟩ ?_
        exact k7 n3 gn3 hn3 rfl j23 h24 rfl j26 h27 rfl h29 h30
      · subst e33
        refine ev_istore (pc' := 21) (lv' := [some (.ref 3), some (.int (nI j31)), some (.int r), some (.int (nI n3)), some (.int (-1)), none]) dX7_between_19 rfl (Nat.le_of_ble_eq_true rfl) rfl rfl ?_
        refine ev_iload (pc' := 23) dX7_between_21 rfl rfl ?_
        refine ev_if_eq (tgt := 29) (pc' := 26) dX7_between_23 rfl rfl (fun h => absurd h (by decide)) (fun _ => ?_)
        refine ev_iload (pc' := 28) dX7_between_26 rfl rfl ?_
        refine ev_iret dX7_between_28 rfl rfl ⟨Nat.le_refl _, Nat.le_refl _⟩ ?_
        exact k8 n3 gn3 hn3 rfl j31 h32 rfl h34
    · refine ev_iconst (pc' := 12) (v := (-1)) dX7_between_11 rfl ki_m1 ?_
      refine ev_iret dX7_between_12 rfl rfl ⟨Nat.le_refl _, Nat.le_refl _⟩ ?_
      exact k9 c1 c2
