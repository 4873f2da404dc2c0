set_option maxRecDepth 4000 in
theorem t_X7_ground {g : ma_G} {Post : ma_P} {I : ma_I} {L : ma_L}  (q : Int32) (s : Int32)  (k1 : ((q < 0) ∨ (¬ q < 12)) → Post (some (.int (-1))) HS I L RF 146) (k2 : ∀ n2 : Nat, (n2 < 12) → q = nI n2 → ∀ n4 : Nat, (n4 < 8) → s = nI n4 → (¬ (¬ 0 ≤ ((I (39 + 2 * n4)) 1))) → (mRg (I (40 + 2 * n4)) 10 4) → (¬ (mZr (I (40 + 2 * n4)) 10)) → ∀ R8 : Nat → Int64, (∀ j, j < 16 → R8 j = cTe (I (40 + 2 * n4)) j) → ∀ L9 : ma_L, (L9 = (ma_up L 7 R8)) → ∀ J10 : ma_I, ∀ K11 : ma_L, (∀ j, j < 10 → J10 (59 + 5 * n2) j = cFc (L9 7) j) → (J10 (55 + 5 * n2) 0 = 1) → (∀ x, x ≠ 55 + 5 * n2 → x ≠ 56 + 5 * n2 → x ≠ 9 → x ≠ 59 + 5 * n2 → J10 x = I x) → (∀ k, k ≠ 0 → J10 (55 + 5 * n2) k = I (55 + 5 * n2) k) → (∀ j, j < 16 → K11 (57 + 5 * n2) j = L9 7 j) → (∀ x, x ≠ 57 + 5 * n2 → x ≠ 58 + 5 * n2 → x ≠ 10 → x ≠ 11 → K11 x = L9 x) → (∀ k, k ≠ 2 → k ≠ 3 → J10 (56 + 5 * n2) k = I (56 + 5 * n2) k) → (∀ k, k ≠ 2 → k ≠ 3 → J10 9 k = I 9 k) → Post (some (.int (cFc (L9 7) 0))) HS J10 K11 RF 146) (k3 : ∀ n2 : Nat, (n2 < 12) → q = nI n2 → ∀ n4 : Nat, (n4 < 8) → s = nI n4 → (¬ (¬ 0 ≤ ((I (39 + 2 * n4)) 1))) → (mRg (I (40 + 2 * n4)) 10 4) → (mZr (I (40 + 2 * n4)) 10) → Post (some (.int (-3))) HS (cRf I 4) L RF 146) (k4 : ∀ n2 : Nat, (n2 < 12) → q = nI n2 → ∀ n4 : Nat, (n4 < 8) → s = nI n4 → (¬ (¬ 0 ≤ ((I (39 + 2 * n4)) 1))) → (¬ (mRg (I (40 + 2 * n4)) 10 4)) → Post (some (.int (-3))) HS (cRf I 2) L RF 146) (k5 : ∀ n2 : Nat, (n2 < 12) → q = nI n2 → ∀ n4 : Nat, (n4 < 8) → s = nI n4 → (¬ 0 ≤ ((I (39 + 2 * n4)) 1)) → Post (some (.int (-3))) HS (cRf I 1) L RF 146) (k6 : ∀ n2 : Nat, (n2 < 12) → q = nI n2 → ((s < 0) ∨ (¬ s < 8)) → Post (some (.int (-1))) HS I L RF 146) : CT g yX7_ground cX7_ground 4 (some .int) rX7_ground [.ref 3, .int q, .int s] Post HS I L RF 146 := by
  refine ct_of (lv := [some (.ref 3), some (.int q), some (.int s), none]) (by decide) (Nat.le_of_ble_eq_true rfl) rfl ?_
  refine ev_iload_n (pc' := 1) (i := 1) dX7_ground_0 rfl rfl rfl ?_
  refine ev_callS (pc' := 4) (rm' := rX7_noGround) (av := [.int q]) (rest := []) co_X7_114 cs_X7_noGround dX7_ground_1 rfl rfl rfl (Nat.le_of_ble_eq_true rfl) ⟨(Nat.le_of_ble_eq_true rfl), (Nat.le_of_ble_eq_true rfl)⟩ ⟨(Nat.le_of_ble_eq_true rfl), (Nat.le_of_ble_eq_true rfl)⟩ ?_
  refine t_X7_noGround q  ?_
  refine ev_if_ne_b (tgt := 14) (pc' := 7) dX7_ground_4 rfl rfl (fun c1 => ?_) (fun c1 => ?_)
  · refine ev_iconst (pc' := 15) (v := (-1)) dX7_ground_14 rfl ki_m1 ?_
    refine ev_iret dX7_ground_15 rfl rfl ⟨Nat.le_refl _, Nat.le_refl _⟩ ?_
    exact k1 c1
  · obtain ⟨n2, hn2, en2⟩ := in_ofn (n := 12) (by omega) rfl c1
    subst en2
    refine ev_iload_n (pc' := 8) (i := 2) dX7_ground_7 rfl rfl rfl ?_
    refine ev_callS (pc' := 11) (rm' := rX7_noSheet) (av := [.int s]) (rest := []) co_X7_75 cs_X7_noSheet dX7_ground_8 rfl rfl rfl (Nat.le_of_ble_eq_true rfl) ⟨(Nat.le_of_ble_eq_true rfl), (Nat.le_of_ble_eq_true rfl)⟩ ⟨(Nat.le_of_ble_eq_true rfl), (Nat.le_of_ble_eq_true rfl)⟩ ?_
    refine t_X7_noSheet s  ?_
    refine ev_if_eq_b (tgt := 16) (pc' := 14) dX7_ground_11 rfl rfl (fun c3 => ?_) (fun c3 => ?_)
    · obtain ⟨n4, hn4, en4⟩ := in_ofn (n := 8) (by omega) rfl c3
      subst en4
      refine ev_aload_n (pc' := 17) (i := 0) dX7_ground_16 rfl rfl rfl ?_
      refine ev_getR (pc' := 20) fo_X7_11 dX7_ground_17 rfl hs_3 rfl rf_3_0 ?_
      refine ev_iload_n (pc' := 21) (i := 2) dX7_ground_20 rfl rfl rfl ?_
      refine ev_aald (pc' := 22) (j := n4) (b := 39 + 2 * n4) dX7_ground_21 rfl hs_4 (Or.inl rfl) rfl (by omega) (Nat.le_of_ble_eq_true rfl) (hs_sheet n4 (by omega)).2.2.2 ?_
      refine ev_astore_n (pc' := 23) (i := 3) (lv' := [some (.ref 3), some (.int (nI n2)), some (.int (nI n4)), some (.ref (39 + 2 * n4))]) dX7_ground_22 rfl rfl (Nat.le_of_ble_eq_true rfl) rfl rfl ?_
      refine ev_aload_n (pc' := 24) (i := 3) dX7_ground_23 rfl rfl rfl ?_
      refine ev_callV (pc' := 27) (rm' := rX3_missing) (b := 39 + 2 * n4) (av := []) (rest := []) co_X7_87 ci_X3_missing cv_X3_missing dX7_ground_24 rfl (hs_sheet n4 (by omega)).1 hb_X3 rfl rfl (Nat.le_of_ble_eq_true rfl) ⟨(Nat.le_of_ble_eq_true rfl), (Nat.le_of_ble_eq_true rfl)⟩ ⟨(Nat.le_of_ble_eq_true rfl), (Nat.le_of_ble_eq_true rfl)⟩ ?_
      refine t_X3_missing (39 + 2 * n4) (40 + 2 * n4) (hs_sheet n4 (by omega)).1 (hs_sheet n4 (by omega)).2.2.1 (hs_sheet n4 (by omega)).2.1 (by omega) ?_
      refine ev_if_eq_b (tgt := 36) (pc' := 30) dX7_ground_27 rfl rfl (fun c5 => ?_) (fun c5 => ?_)
      · refine ev_aload_n (pc' := 37) (i := 3) dX7_ground_36 rfl rfl rfl ?_
        refine ev_bipush (pc' := 39) (v := 10) dX7_ground_37 rfl kb_10 ?_
        refine ev_iconst (pc' := 40) (v := 4) dX7_ground_39 rfl ki_4 ?_
        refine ev_callV (pc' := 43) (rm' := rX3_goesBeyond) (b := 39 + 2 * n4) (av := [.int 10, .int 4]) (rest := []) co_X7_117 ci_X3_goesBeyond cv_X3_goesBeyond dX7_ground_40 rfl (hs_sheet n4 (by omega)).1 hb_X3 rfl rfl (Nat.le_of_ble_eq_true rfl) ⟨(Nat.le_of_ble_eq_true rfl), (Nat.le_of_ble_eq_true rfl)⟩ ⟨(Nat.le_of_ble_eq_true rfl), (Nat.le_of_ble_eq_true rfl)⟩ ?_
        refine t_X3_goesBeyond (39 + 2 * n4) (40 + 2 * n4) (hs_sheet n4 (by omega)).1 (hs_sheet n4 (by omega)).2.2.1 (hs_sheet n4 (by omega)).2.1 (by omega) 10 4 (by omega) (fun h6 => ?_) (fun h6 => ?_)
        · skip
          refine ev_if_eq (tgt := 52) (pc' := 46) dX7_ground_43 rfl rfl (fun _ => ?_) (fun h => absurd (by decide) h)
          refine ev_aload_n (pc' := 53) (i := 3) dX7_ground_52 rfl rfl rfl ?_
          refine ev_bipush (pc' := 55) (v := 10) dX7_ground_53 rfl kb_10 ?_
          refine ev_callV (pc' := 58) (rm' := rX3_isBlank) (b := 39 + 2 * n4) (av := [.int 10]) (rest := []) co_X7_120 ci_X3_isBlank cv_X3_isBlank dX7_ground_55 rfl (hs_sheet n4 (by omega)).1 hb_X3 rfl rfl (Nat.le_of_ble_eq_true rfl) ⟨(Nat.le_of_ble_eq_true rfl), (Nat.le_of_ble_eq_true rfl)⟩ ⟨(Nat.le_of_ble_eq_true rfl), (Nat.le_of_ble_eq_true rfl)⟩ ?_
          refine t_X3_isBlank (39 + 2 * n4) (40 + 2 * n4) (hs_sheet n4 (by omega)).1 (hs_sheet n4 (by omega)).2.2.1 (hs_sheet n4 (by omega)).2.1 (by omega) 10  (by omega) (fun h7 => ?_) (fun h7 => ?_)
          · skip
            refine ev_if_eq (tgt := 67) (pc' := 61) dX7_ground_58 rfl rfl (fun _ => ?_) (fun h => absurd (by decide) h)
            refine ev_aload_n (pc' := 68) (i := 0) dX7_ground_67 rfl rfl rfl ?_
            refine ev_getR (pc' := 71) fo_X7_24 dX7_ground_68 rfl hs_3 rfl rf_3_2 ?_
            refine ev_aload_n (pc' := 72) (i := 3) dX7_ground_71 rfl rfl rfl ?_
            refine ev_getR (pc' := 75) fo_X7_95 dX7_ground_72 rfl (hs_sheet n4 (by omega)).1 rfl (hs_sheet n4 (by omega)).2.2.1 ?_
            refine ev_callV (pc' := 78) (rm' := rX4_readTen) (b := 6) (av := [.ref (40 + 2 * n4)]) (rest := []) co_X7_123 ci_X4_readTen cv_X4_readTen dX7_ground_75 rfl hs_6 hb_X4 rfl rfl (Nat.le_of_ble_eq_true rfl) ⟨(Nat.le_of_ble_eq_true rfl), (Nat.le_of_ble_eq_true rfl)⟩ ⟨(Nat.le_of_ble_eq_true rfl), (Nat.le_of_ble_eq_true rfl)⟩ ?_
            refine t_X4_readTen (40 + 2 * n4) (hs_sheet n4 (by omega)).2.1 (fun R8 hR8 => ?_)
            refine ev_aload_n (pc' := 79) (i := 0) dX7_ground_78 rfl rfl rfl ?_
            refine ev_getR (pc' := 82) fo_X7_17 dX7_ground_79 rfl hs_3 rfl rf_3_1 ?_
            refine ev_iload_n (pc' := 83) (i := 1) dX7_ground_82 rfl rfl rfl ?_
            refine ev_aald (pc' := 84) (j := n2) (b := 55 + 5 * n2) dX7_ground_83 rfl hs_5 (Or.inr rfl) rfl (by omega) (Nat.le_of_ble_eq_true rfl) (hs_ground n2 (by omega)).2.2.2.2.2.2.2.2.2 ?_
            refine ev_aload_n (pc' := 85) (i := 0) dX7_ground_84 rfl rfl rfl ?_
            refine ev_getR (pc' := 88) fo_X7_24 dX7_ground_85 rfl hs_3 rfl rf_3_2 ?_
            refine ev_aload_n (pc' := 89) (i := 0) dX7_ground_88 rfl rfl rfl ?_
            refine ev_getR (pc' := 92) fo_X7_28 dX7_ground_89 rfl hs_3 rfl rf_3_3 ?_
            refine ev_callV (pc' := 95) (rm' := rX1_becomes) (b := 55 + 5 * n2) (av := [.ref 6, .ref 9]) (rest := []) co_X7_127 ci_X1_becomes cv_X1_becomes dX7_ground_92 rfl (hs_ground n2 (by omega)).1 hb_X1 rfl rfl (Nat.le_of_ble_eq_true rfl) ⟨(Nat.le_of_ble_eq_true rfl), (Nat.le_of_ble_eq_true rfl)⟩ ⟨(Nat.le_of_ble_eq_true rfl), (Nat.le_of_ble_eq_true rfl)⟩ ?_
            refine ct_memL (fun L9 hL9 => ?_)
            refine t_X1_becomes (55 + 5 * n2) (56 + 5 * n2) (59 + 5 * n2) (hs_ground n2 (by omega)).1 (hs_ground n2 (by omega)).2.2.2.2.2.1 (hs_ground n2 (by omega)).2.2.2.2.2.2.1 (hs_ground n2 (by omega)).2.2.2.2.1 (57 + 5 * n2) (58 + 5 * n2) (hs_ground n2 (by omega)).2.1 (hs_ground n2 (by omega)).2.2.2.2.2.2.2.1 (hs_ground n2 (by omega)).2.2.1 (hs_ground n2 (by omega)).2.2.2.2.2.2.2.2.1 (hs_ground n2 (by omega)).2.2.2.1 (by omega) (by omega) (fun J10 K11 b12 b13 b14 b15 b16 b17 b18 b19 => ?_)
            refine ev_iret dX7_ground_95 rfl rfl ⟨Nat.le_refl _, Nat.le_refl _⟩ ?_
            exact k2 n2 hn2 rfl n4 hn4 rfl c5 h6 h7 R8 hR8 L9 hL9 J10 K11 b12 b13 b14 b15 b16 b17 b18 b19
          · skip
            refine ev_if_eq (tgt := 67) (pc' := 61) dX7_ground_58 rfl rfl (fun h => absurd h (by decide)) (fun _ => ?_)
            refine ev_aload_n (pc' := 62) (i := 0) dX7_ground_61 rfl rfl rfl ?_
            refine ev_iconst (pc' := 63) (v := 4) dX7_ground_62 rfl ki_4 ?_
            refine ev_callV (pc' := 66) (rm' := rX7_refuse) (b := 3) (av := [.int 4]) (rest := []) co_X7_79 ci_X7_refuse cv_X7_refuse dX7_ground_63 rfl hs_3 hb_X7 rfl rfl (Nat.le_of_ble_eq_true rfl) ⟨(Nat.le_of_ble_eq_true rfl), (Nat.le_of_ble_eq_true rfl)⟩ ⟨(Nat.le_of_ble_eq_true rfl), (Nat.le_of_ble_eq_true rfl)⟩ ?_
            refine t_X7_refuse4 ?_
            refine ev_cRf 4 ?_
            refine ev_iret dX7_ground_66 rfl rfl ⟨Nat.le_refl _, Nat.le_refl _⟩ ?_
            exact k3 n2 hn2 rfl n4 hn4 rfl c5 h6 h7
        · skip
          refine ev_if_eq (tgt := 52) (pc' := 46) dX7_ground_43 rfl rfl (fun h => absurd h (by decide)) (fun _ => ?_)
          refine ev_aload_n (pc' := 47) (i := 0) dX7_ground_46 rfl rfl rfl ?_
          refine ev_iconst (pc' := 48) (v := 2) dX7_ground_47 rfl ki_2 ?_
          refine ev_callV (pc' := 51) (rm' := rX7_refuse) (b := 3) (av := [.int 2]) (rest := []) co_X7_79 ci_X7_refuse cv_X7_refuse dX7_ground_48 rfl hs_3 hb_X7 rfl rfl (Nat.le_of_ble_eq_true rfl) ⟨(Nat.le_of_ble_eq_true rfl), (Nat.le_of_ble_eq_true rfl)⟩ ⟨(Nat.le_of_ble_eq_true rfl), (Nat.le_of_ble_eq_true rfl)⟩ ?_
          refine t_X7_refuse2 ?_
          refine ev_cRf 2 ?_
          refine ev_iret dX7_ground_51 rfl rfl ⟨Nat.le_refl _, Nat.le_refl _⟩ ?_
          exact k4 n2 hn2 rfl n4 hn4 rfl c5 h6
      · refine ev_aload_n (pc' := 31) (i := 0) dX7_ground_30 rfl rfl rfl ?_
        refine ev_iconst (pc' := 32) (v := 1) dX7_ground_31 rfl ki_1 ?_
        refine ev_callV (pc' := 35) (rm' := rX7_refuse) (b := 3) (av := [.int 1]) (rest := []) co_X7_79 ci_X7_refuse cv_X7_refuse dX7_ground_32 rfl hs_3 hb_X7 rfl rfl (Nat.le_of_ble_eq_true rfl) ⟨(Nat.le_of_ble_eq_true rfl), (Nat.le_of_ble_eq_true rfl)⟩ ⟨(Nat.le_of_ble_eq_true rfl), (Nat.le_of_ble_eq_true rfl)⟩ ?_
        refine t_X7_refuse1 ?_
        refine ev_cRf 1 ?_
        refine ev_iret dX7_ground_35 rfl rfl ⟨Nat.le_refl _, Nat.le_refl _⟩ ?_
        exact k5 n2 hn2 rfl n4 hn4 rfl c5
    · refine ev_iconst (pc' := 15) (v := (-1)) dX7_ground_14 rfl ki_m1 ?_
      refine ev_iret dX7_ground_15 rfl rfl ⟨Nat.le_refl _, Nat.le_refl _⟩ ?_
      exact k6 n2 hn2 rfl c3
set_option maxRecDepth 4000 in
theorem t_X7_turn {g : ma_G} {Post : ma_P} {I : ma_I} {L : ma_L}  (q : Int32)  (k1 : ((q < 0) ∨ (¬ q < 12)) → Post (some (.int (-1))) HS I L RF 146) (k2 : ∀ j2 : Nat, (j2 < 12) → q = nI j2 → (j2 < 12) → (((I (55 + 5 * j2)) 0) = 0) → Post (some (.int (-3))) HS (cRf I 1) L RF 146) (k3 : ∀ j7 : Nat, (j7 < 12) → q = nI j7 → (j7 < 12) → (¬ ((I (55 + 5 * j7)) 0) = 0) → (¬ ((I (55 + 5 * j7)) 0) = 0) → ∀ L23 : ma_L, (L23 = (cSu L 7 (57 + 5 * j7) (57 + 5 * j7) (-1) 0)) → ∀ J24 : ma_I, ∀ K25 : ma_L, (∀ j, j < 10 → J24 (59 + 5 * j7) j = cFc (L23 7) j) → (J24 (55 + 5 * j7) 0 = 1) → (∀ x, x ≠ 55 + 5 * j7 → x ≠ 56 + 5 * j7 → x ≠ 9 → x ≠ 59 + 5 * j7 → J24 x = I x) → (∀ k, k ≠ 0 → J24 (55 + 5 * j7) k = I (55 + 5 * j7) k) → (∀ j, j < 16 → K25 (57 + 5 * j7) j = L23 7 j) → (∀ x, x ≠ 57 + 5 * j7 → x ≠ 58 + 5 * j7 → x ≠ 10 → x ≠ 11 → K25 x = L23 x) → (∀ k, k ≠ 2 → k ≠ 3 → J24 (56 + 5 * j7) k = I (56 + 5 * j7) k) → (∀ k, k ≠ 2 → k ≠ 3 → J24 9 k = I 9 k) → Post (some (.int (cFc (L23 7) 0))) HS J24 K25 RF 146) (k4 : ∀ j13 : Nat, (j13 < 12) → q = nI j13 → (j13 < 12) → (¬ ((I (55 + 5 * j13)) 0) = 0) → (((I (55 + 5 * j13)) 0) = 0) → Post (some (.int (-3))) HS (cRf I 1) L RF 146) (k5 : ∀ j19 : Nat, (j19 < 12) → q = nI j19 → ((q < 0) ∨ (¬ q < 12)) → Post (some (.int (-1))) HS I L RF 146) : CT g yX7_turn cX7_turn 4 (some .int) rX7_turn [.ref 3, .int q] Post HS I L RF 146 := by
  refine ct_of (lv := [some (.ref 3), some (.int q), none, none]) (by decide) (Nat.le_of_ble_eq_true rfl) rfl ?_
  refine ev_aload_n (pc' := 1) (i := 0) dX7_turn_0 rfl rfl rfl ?_
  refine ev_iload_n (pc' := 2) (i := 1) dX7_turn_1 rfl rfl rfl ?_
  refine ev_callV (pc' := 5) (rm' := rX7_refusedGround) (b := 3) (av := [.int q]) (rest := []) co_X7_131 ci_X7_refusedGround cv_X7_refusedGround dX7_turn_2 rfl hs_3 hb_X7 rfl rfl (Nat.le_of_ble_eq_true rfl) ⟨(Nat.le_of_ble_eq_true rfl), (Nat.le_of_ble_eq_true rfl)⟩ ⟨(Nat.le_of_ble_eq_true rfl), (Nat.le_of_ble_eq_true rfl)⟩ ?_
  refine t_X7_refusedGround q  (fun h1 => ?_) (fun j2 h3 e4 h5 h6 => ?_) (fun j7 h8 e9 h10 h11 h12 => ?_) (fun j13 h14 e15 h16 h17 h18 => ?_) (fun j19 h20 e21 h22 => ?_)
  · skip
    refine ev_istore_n (pc' := 6) (i := 2) (lv' := [some (.ref 3), some (.int q), some (.int (-1)), none]) dX7_turn_5 rfl rfl (Nat.le_of_ble_eq_true rfl) rfl rfl ?_
    refine ev_iload_n (pc' := 7) (i := 2) dX7_turn_6 rfl rfl rfl ?_
    refine ev_if_eq (tgt := 12) (pc' := 10) dX7_turn_7 rfl rfl (fun h => absurd h (by decide)) (fun _ => ?_)
    refine ev_iload_n (pc' := 11) (i := 2) dX7_turn_10 rfl rfl rfl ?_
    refine ev_iret dX7_turn_11 rfl rfl ⟨Nat.le_refl _, Nat.le_refl _⟩ ?_
    exact k1 h1
  · subst e4
    refine ev_istore_n (pc' := 6) (i := 2) (lv' := [some (.ref 3), some (.int (nI j2)), some (.int (-3)), none]) dX7_turn_5 rfl rfl (Nat.le_of_ble_eq_true rfl) rfl rfl ?_
    refine ev_iload_n (pc' := 7) (i := 2) dX7_turn_6 rfl rfl rfl ?_
    refine ev_if_eq (tgt := 12) (pc' := 10) dX7_turn_7 rfl rfl (fun h => absurd h (by decide)) (fun _ => ?_)
    refine ev_iload_n (pc' := 11) (i := 2) dX7_turn_10 rfl rfl rfl ?_
    refine ev_iret dX7_turn_11 rfl rfl ⟨Nat.le_refl _, Nat.le_refl _⟩ ?_
    exact k2 j2 h3 rfl h5 h6
  · subst e9
    refine ev_istore_n (pc' := 6) (i := 2) (lv' := [some (.ref 3), some (.int (nI j7)), some (.int 0), none]) dX7_turn_5 rfl rfl (Nat.le_of_ble_eq_true rfl) rfl rfl ?_
    refine ev_iload_n (pc' := 7) (i := 2) dX7_turn_6 rfl rfl rfl ?_
    refine ev_if_eq (tgt := 12) (pc' := 10) dX7_turn_7 rfl rfl (fun _ => ?_) (fun h => absurd (by decide) h)
    refine ev_aload_n (pc' := 13) (i := 0) dX7_turn_12 rfl rfl rfl ?_
    refine ev_getR (pc' := 16) fo_X7_17 dX7_turn_13 rfl hs_3 rfl rf_3_1 ?_
    refine ev_iload_n (pc' := 17) (i := 1) dX7_turn_16 rfl rfl rfl ?_
    refine ev_aald (pc' := 18) (j := j7) (b := 55 + 5 * j7) dX7_turn_17 rfl hs_5 (Or.inr rfl) rfl (by omega) (Nat.le_of_ble_eq_true rfl) (hs_ground j7 (by omega)).2.2.2.2.2.2.2.2.2 ?_
    refine ev_getR (pc' := 21) fo_X7_141 dX7_turn_18 rfl (hs_ground j7 (by omega)).1 rfl (hs_ground j7 (by omega)).2.2.2.2.2.1 ?_
    refine ev_astore_n (pc' := 22) (i := 3) (lv' := [some (.ref 3), some (.int (nI j7)), some (.int 0), some (.ref (56 + 5 * j7))]) dX7_turn_21 rfl rfl (Nat.le_of_ble_eq_true rfl) rfl rfl ?_
    refine ev_aload_n (pc' := 23) (i := 0) dX7_turn_22 rfl rfl rfl ?_
    refine ev_getR (pc' := 26) fo_X7_24 dX7_turn_23 rfl hs_3 rfl rf_3_2 ?_
    refine ev_aload_n (pc' := 27) (i := 3) dX7_turn_26 rfl rfl rfl ?_
    refine ev_ldc2 (pc' := 30) cl_X7_176 dX7_turn_27 rfl ?_
    refine ev_aload_n (pc' := 31) (i := 3) dX7_turn_30 rfl rfl rfl ?_
    refine ev_lconst (pc' := 32) (v := 0) dX7_turn_31 rfl kl_0 ?_
    refine ev_callV (pc' := 35) (rm' := rX4_sumOf) (b := 6) (av := [.ref (56 + 5 * j7), .long (-1), .ref (56 + 5 * j7), .long 0]) (rest := []) co_X7_178 ci_X4_sumOf cv_X4_sumOf dX7_turn_32 rfl hs_6 hb_X4 rfl rfl (Nat.le_of_ble_eq_true rfl) ⟨(Nat.le_of_ble_eq_true rfl), (Nat.le_of_ble_eq_true rfl)⟩ ⟨(Nat.le_of_ble_eq_true rfl), (Nat.le_of_ble_eq_true rfl)⟩ ?_
    refine t_X4_sumOf 6 7 hs_6 rf_6_0 hs_7 (56 + 5 * j7) (-1) (56 + 5 * j7) 0 (57 + 5 * j7) (57 + 5 * j7) (hs_ground j7 (by omega)).2.1 (hs_ground j7 (by omega)).2.2.2.2.2.2.2.1 (hs_ground j7 (by omega)).2.2.1 (by omega) (hs_ground j7 (by omega)).2.1 (hs_ground j7 (by omega)).2.2.2.2.2.2.2.1 (hs_ground j7 (by omega)).2.2.1 (by omega) ?_
    refine ev_aload_n (pc' := 36) (i := 0) dX7_turn_35 rfl rfl rfl ?_
    refine ev_getR (pc' := 39) fo_X7_17 dX7_turn_36 rfl hs_3 rfl rf_3_1 ?_
    refine ev_iload_n (pc' := 40) (i := 1) dX7_turn_39 rfl rfl rfl ?_
    refine ev_aald (pc' := 41) (j := j7) (b := 55 + 5 * j7) dX7_turn_40 rfl hs_5 (Or.inr rfl) rfl (by omega) (Nat.le_of_ble_eq_true rfl) (hs_ground j7 (by omega)).2.2.2.2.2.2.2.2.2 ?_
    refine ev_aload_n (pc' := 42) (i := 0) dX7_turn_41 rfl rfl rfl ?_
    refine ev_getR (pc' := 45) fo_X7_24 dX7_turn_42 rfl hs_3 rfl rf_3_2 ?_
    refine ev_aload_n (pc' := 46) (i := 0) dX7_turn_45 rfl rfl rfl ?_
    refine ev_getR (pc' := 49) fo_X7_28 dX7_turn_46 rfl hs_3 rfl rf_3_3 ?_
    refine ev_callV (pc' := 52) (rm' := rX1_becomes) (b := 55 + 5 * j7) (av := [.ref 6, .ref 9]) (rest := []) co_X7_127 ci_X1_becomes cv_X1_becomes dX7_turn_49 rfl (hs_ground j7 (by omega)).1 hb_X1 rfl rfl (Nat.le_of_ble_eq_true rfl) ⟨(Nat.le_of_ble_eq_true rfl), (Nat.le_of_ble_eq_true rfl)⟩ ⟨(Nat.le_of_ble_eq_true rfl), (Nat.le_of_ble_eq_true rfl)⟩ ?_
    refine ct_memL (fun L23 hL23 => ?_)
    refine t_X1_becomes (55 + 5 * j7) (56 + 5 * j7) (59 + 5 * j7) (hs_ground j7 (by omega)).1 (hs_ground j7 (by omega)).2.2.2.2.2.1 (hs_ground j7 (by omega)).2.2.2.2.2.2.1 (hs_ground j7 (by omega)).2.2.2.2.1 (57 + 5 * j7) (58 + 5 * j7) (hs_ground j7 (by omega)).2.1 (hs_ground j7 (by omega)).2.2.2.2.2.2.2.1 (hs_ground j7 (by omega)).2.2.1 (hs_ground j7 (by omega)).2.2.2.2.2.2.2.2.1 (hs_ground j7 (by omega)).2.2.2.1 (by omega) (by omega) (fun J24 K25 b26 b27 b28 b29 b30 b31 b32 b33 => ?_)
    refine ev_iret dX7_turn_52 rfl rfl ⟨Nat.le_refl _, Nat.le_refl _⟩ ?_
    exact k3 j7 h8 rfl h10 h11 h12 L23 hL23 J24 K25 b26 b27 b28 b29 b30 b31 b32 b33
  · subst e15
    refine ev_istore_n (pc' := 6) (i := 2) (lv' := [some (.ref 3), some (.int (nI j13)), some (.int (-3)), none]) dX7_turn_5 rfl rfl (Nat.le_of_ble_eq_true rfl) rfl rfl ?_
    refine ev_iload_n (pc' := 7) (i := 2) dX7_turn_6 rfl rfl rfl ?_
    refine ev_if_eq (tgt := 12) (pc' := 10) dX7_turn_7 rfl rfl (fun h => absurd h (by decide)) (fun _ => ?_)
    refine ev_iload_n (pc' := 11) (i := 2) dX7_turn_10 rfl rfl rfl ?_
    refine ev_iret dX7_turn_11 rfl rfl ⟨Nat.le_refl _, Nat.le_refl _⟩ ?_
    exact k4 j13 h14 rfl h16 h17 h18
  · subst e21
    refine ev_istore_n (pc' := 6) (i := 2) (lv' := [some (.ref 3), some (.int (nI j19)), some (.int (-1)), none]) dX7_turn_5 rfl rfl (Nat.le_of_ble_eq_true rfl) rfl rfl ?_
    refine ev_iload_n (pc' := 7) (i := 2) dX7_turn_6 rfl rfl rfl ?_
    refine ev_if_eq (tgt := 12) (pc' := 10) dX7_turn_7 rfl rfl (fun h => absurd h (by decide)) (fun _ => ?_)
    refine ev_iload_n (pc' := 11) (i := 2) dX7_turn_10 rfl rfl rfl ?_
    refine ev_iret dX7_turn_11 rfl rfl ⟨Nat.le_refl _, Nat.le_refl _⟩ ?_
    exact k5 j19 h20 rfl h22
set_option maxRecDepth 4000 in
theorem t_X7_swap {g : ma_G} {Post : ma_P} {I : ma_I} {L : ma_L}  (q : Int32) (i : Int32) (j : Int32)  (k1 : ((i < 0) ∨ (¬ i < 4)) → Post (some (.int (-1))) HS I L RF 146) (k2 : ∀ n2 : Nat, (n2 < 4) → i = nI n2 → ∀ n4 : Nat, (n4 < 4) → j = nI n4 → ((q < 0) ∨ (¬ q < 12)) → Post (some (.int (-1))) HS I L RF 146) (k3 : ∀ n2 : Nat, (n2 < 4) → i = nI n2 → ∀ n4 : Nat, (n4 < 4) → j = nI n4 → ∀ j6 : Nat, (j6 < 12) → q = nI j6 → (j6 < 12) → (((I (55 + 5 * j6)) 0) = 0) → Post (some (.int (-3))) HS (cRf I 1) L RF 146) (k4 : ∀ n2 : Nat, (n2 < 4) → i = nI n2 → ∀ n4 : Nat, (n4 < 4) → j = nI n4 → ∀ j11 : Nat, (j11 < 12) → q = nI j11 → (j11 < 12) → (¬ ((I (55 + 5 * j11)) 0) = 0) → (¬ ((I (55 + 5 * j11)) 0) = 0) → ∀ L27 : ma_L, (L27 = (ma_up (cBe L 7 (57 + 5 * j11)) 7 (cSwp ((cBe L 7 (57 + 5 * j11)) 7) n2 n4))) → ∀ J28 : ma_I, ∀ K29 : ma_L, (∀ j, j < 10 → J28 (59 + 5 * j11) j = cFc (L27 7) j) → (J28 (55 + 5 * j11) 0 = 1) → (∀ x, x ≠ 55 + 5 * j11 → x ≠ 56 + 5 * j11 → x ≠ 9 → x ≠ 59 + 5 * j11 → J28 x = I x) → (∀ k, k ≠ 0 → J28 (55 + 5 * j11) k = I (55 + 5 * j11) k) → (∀ j, j < 16 → K29 (57 + 5 * j11) j = L27 7 j) → (∀ x, x ≠ 57 + 5 * j11 → x ≠ 58 + 5 * j11 → x ≠ 10 → x ≠ 11 → K29 x = L27 x) → (∀ k, k ≠ 2 → k ≠ 3 → J28 (56 + 5 * j11) k = I (56 + 5 * j11) k) → (∀ k, k ≠ 2 → k ≠ 3 → J28 9 k = I 9 k) → Post (some (.int (cFc (L27 7) 0))) HS J28 K29 RF 146) (k5 : ∀ n2 : Nat, (n2 < 4) → i = nI n2 → ∀ n4 : Nat, (n4 < 4) → j = nI n4 → ∀ j17 : Nat, (j17 < 12) → q = nI j17 → (j17 < 12) → (¬ ((I (55 + 5 * j17)) 0) = 0) → (((I (55 + 5 * j17)) 0) = 0) → Post (some (.int (-3))) HS (cRf I 1) L RF 146) (k6 : ∀ n2 : Nat, (n2 < 4) → i = nI n2 → ∀ n4 : Nat, (n4 < 4) → j = nI n4 → ∀ j23 : Nat, (j23 < 12) → q = nI j23 → ((q < 0) ∨ (¬ q < 12)) → Post (some (.int (-1))) HS I L RF 146) (k7 : ∀ n2 : Nat, (n2 < 4) → i = nI n2 → ((j < 0) ∨ (¬ j < 4)) → Post (some (.int (-1))) HS I L RF 146) : CT g yX7_swap cX7_swap 5 (some .int) rX7_swap [.ref 3, .int q, .int i, .int j] Post HS I L RF 146 := by
  refine ct_of (lv := [some (.ref 3), some (.int q), some (.int i), some (.int j), none]) (by decide) (Nat.le_of_ble_eq_true rfl) rfl ?_
  refine ev_iload_n (pc' := 1) (i := 2) dX7_swap_0 rfl rfl rfl ?_
  refine ev_callS (pc' := 4) (rm' := rX7_noLetter) (av := [.int i]) (rest := []) co_X7_138 cs_X7_noLetter dX7_swap_1 rfl rfl rfl (Nat.le_of_ble_eq_true rfl) ⟨(Nat.le_of_ble_eq_true rfl), (Nat.le_of_ble_eq_true rfl)⟩ ⟨(Nat.le_of_ble_eq_true rfl), (Nat.le_of_ble_eq_true rfl)⟩ ?_
  refine t_X7_noLetter i  ?_
  refine ev_if_ne_b (tgt := 14) (pc' := 7) dX7_swap_4 rfl rfl (fun c1 => ?_) (fun c1 => ?_)
  · refine ev_iconst (pc' := 15) (v := (-1)) dX7_swap_14 rfl ki_m1 ?_
    refine ev_iret dX7_swap_15 rfl rfl ⟨Nat.le_refl _, Nat.le_refl _⟩ ?_
    exact k1 c1
  · obtain ⟨n2, hn2, en2⟩ := in_ofn (n := 4) (by omega) rfl c1
    subst en2
    refine ev_iload_n (pc' := 8) (i := 3) dX7_swap_7 rfl rfl rfl ?_
    refine ev_callS (pc' := 11) (rm' := rX7_noLetter) (av := [.int j]) (rest := []) co_X7_138 cs_X7_noLetter dX7_swap_8 rfl rfl rfl (Nat.le_of_ble_eq_true rfl) ⟨(Nat.le_of_ble_eq_true rfl), (Nat.le_of_ble_eq_true rfl)⟩ ⟨(Nat.le_of_ble_eq_true rfl), (Nat.le_of_ble_eq_true rfl)⟩ ?_
    refine t_X7_noLetter j  ?_
    refine ev_if_eq_b (tgt := 16) (pc' := 14) dX7_swap_11 rfl rfl (fun c3 => ?_) (fun c3 => ?_)
    · obtain ⟨n4, hn4, en4⟩ := in_ofn (n := 4) (by omega) rfl c3
      subst en4
      refine ev_aload_n (pc' := 17) (i := 0) dX7_swap_16 rfl rfl rfl ?_
      refine ev_iload_n (pc' := 18) (i := 1) dX7_swap_17 rfl rfl rfl ?_
      refine ev_callV (pc' := 21) (rm' := rX7_refusedGround) (b := 3) (av := [.int q]) (rest := []) co_X7_131 ci_X7_refusedGround cv_X7_refusedGround dX7_swap_18 rfl hs_3 hb_X7 rfl rfl (Nat.le_of_ble_eq_true rfl) ⟨(Nat.le_of_ble_eq_true rfl), (Nat.le_of_ble_eq_true rfl)⟩ ⟨(Nat.le_of_ble_eq_true rfl), (Nat.le_of_ble_eq_true rfl)⟩ ?_
      refine t_X7_refusedGround q  (fun h5 => ?_) (fun j6 h7 e8 h9 h10 => ?_) (fun j11 h12 e13 h14 h15 h16 => ?_) (fun j17 h18 e19 h20 h21 h22 => ?_) (fun j23 h24 e25 h26 => ?_)
      · skip
        refine ev_istore (pc' := 23) (lv' := [some (.ref 3), some (.int q), some (.int (nI n2)), some (.int (nI n4)), some (.int (-1))]) dX7_swap_21 rfl (Nat.le_of_ble_eq_true rfl) rfl rfl ?_
        refine ev_iload (pc' := 25) dX7_swap_23 rfl rfl ?_
        refine ev_if_eq (tgt := 31) (pc' := 28) dX7_swap_25 rfl rfl (fun h => absurd h (by decide)) (fun _ => ?_)
        refine ev_iload (pc' := 30) dX7_swap_28 rfl rfl ?_
        refine ev_iret dX7_swap_30 rfl rfl ⟨Nat.le_refl _, Nat.le_refl _⟩ ?_
        exact k2 n2 hn2 rfl n4 hn4 rfl h5
      · subst e8
        refine ev_istore (pc' := 23) (lv' := [some (.ref 3), some (.int (nI j6)), some (.int (nI n2)), some (.int (nI n4)), some (.int (-3))]) dX7_swap_21 rfl (Nat.le_of_ble_eq_true rfl) rfl rfl ?_
        refine ev_iload (pc' := 25) dX7_swap_23 rfl rfl ?_
        refine ev_if_eq (tgt := 31) (pc' := 28) dX7_swap_25 rfl rfl (fun h => absurd h (by decide)) (fun _ => ?_)
        refine ev_iload (pc' := 30) dX7_swap_28 rfl rfl ?_
        refine ev_iret dX7_swap_30 rfl rfl ⟨Nat.le_refl _, Nat.le_refl _⟩ ?_
        exact k3 n2 hn2 rfl n4 hn4 rfl j6 h7 rfl h9 h10
      · subst e13
        refine ev_istore (pc' := 23) (lv' := [some (.ref 3), some (.int (nI j11)), some (.int (nI n2)), some (.int (nI n4)), some (.int 0)]) dX7_swap_21 rfl (Nat.le_of_ble_eq_true rfl) rfl rfl ?_
        refine ev_iload (pc' := 25) dX7_swap_23 rfl rfl ?_
        refine ev_if_eq (tgt := 31) (pc' := 28) dX7_swap_25 rfl rfl (fun _ => ?_) (fun h => absurd (by decide) h)
        refine ev_aload_n (pc' := 32) (i := 0) dX7_swap_31 rfl rfl rfl ?_
        refine ev_getR (pc' := 35) fo_X7_24 dX7_swap_32 rfl hs_3 rfl rf_3_2 ?_
        refine ev_aload_n (pc' := 36) (i := 0) dX7_swap_35 rfl rfl rfl ?_
        refine ev_getR (pc' := 39) fo_X7_17 dX7_swap_36 rfl hs_3 rfl rf_3_1 ?_
        refine ev_iload_n (pc' := 40) (i := 1) dX7_swap_39 rfl rfl rfl ?_
        refine ev_aald (pc' := 41) (j := j11) (b := 55 + 5 * j11) dX7_swap_40 rfl hs_5 (Or.inr rfl) rfl (by omega) (Nat.le_of_ble_eq_true rfl) (hs_ground j11 (by omega)).2.2.2.2.2.2.2.2.2 ?_
        refine ev_getR (pc' := 44) fo_X7_141 dX7_swap_41 rfl (hs_ground j11 (by omega)).1 rfl (hs_ground j11 (by omega)).2.2.2.2.2.1 ?_
        refine ev_callV (pc' := 47) (rm' := rX4_become) (b := 6) (av := [.ref (56 + 5 * j11)]) (rest := []) co_X7_182 ci_X4_become cv_X4_become dX7_swap_44 rfl hs_6 hb_X4 rfl rfl (Nat.le_of_ble_eq_true rfl) ⟨(Nat.le_of_ble_eq_true rfl), (Nat.le_of_ble_eq_true rfl)⟩ ⟨(Nat.le_of_ble_eq_true rfl), (Nat.le_of_ble_eq_true rfl)⟩ ?_
        refine t_X4_become 6 7 hs_6 rf_6_0 hs_7 (56 + 5 * j11) (57 + 5 * j11) (hs_ground j11 (by omega)).2.1 (hs_ground j11 (by omega)).2.2.2.2.2.2.2.1 (hs_ground j11 (by omega)).2.2.1 (by omega) ?_
        refine ev_aload_n (pc' := 48) (i := 0) dX7_swap_47 rfl rfl rfl ?_
        refine ev_getR (pc' := 51) fo_X7_24 dX7_swap_48 rfl hs_3 rfl rf_3_2 ?_
        refine ev_iload_n (pc' := 52) (i := 2) dX7_swap_51 rfl rfl rfl ?_
        refine ev_iload_n (pc' := 53) (i := 3) dX7_swap_52 rfl rfl rfl ?_
        refine ev_callV (pc' := 56) (rm' := rX4_swapLetters) (b := 6) (av := [.int (nI n2), .int (nI n4)]) (rest := []) co_X7_192 ci_X4_swapLetters cv_X4_swapLetters dX7_swap_53 rfl hs_6 hb_X4 rfl rfl (Nat.le_of_ble_eq_true rfl) ⟨(Nat.le_of_ble_eq_true rfl), (Nat.le_of_ble_eq_true rfl)⟩ ⟨(Nat.le_of_ble_eq_true rfl), (Nat.le_of_ble_eq_true rfl)⟩ ?_
        refine t_X4_swapLetters n2 n4 (by omega) (by omega) ?_
        refine ev_aload_n (pc' := 57) (i := 0) dX7_swap_56 rfl rfl rfl ?_
        refine ev_getR (pc' := 60) fo_X7_17 dX7_swap_57 rfl hs_3 rfl rf_3_1 ?_
        refine ev_iload_n (pc' := 61) (i := 1) dX7_swap_60 rfl rfl rfl ?_
        refine ev_aald (pc' := 62) (j := j11) (b := 55 + 5 * j11) dX7_swap_61 rfl hs_5 (Or.inr rfl) rfl (by omega) (Nat.le_of_ble_eq_true rfl) (hs_ground j11 (by omega)).2.2.2.2.2.2.2.2.2 ?_
        refine ev_aload_n (pc' := 63) (i := 0) dX7_swap_62 rfl rfl rfl ?_
        refine ev_getR (pc' := 66) fo_X7_24 dX7_swap_63 rfl hs_3 rfl rf_3_2 ?_
        refine ev_aload_n (pc' := 67) (i := 0) dX7_swap_66 rfl rfl rfl ?_
        refine ev_getR (pc' := 70) fo_X7_28 dX7_swap_67 rfl hs_3 rfl rf_3_3 ?_
        refine ev_callV (pc' := 73) (rm' := rX1_becomes) (b := 55 + 5 * j11) (av := [.ref 6, .ref 9]) (rest := []) co_X7_127 ci_X1_becomes cv_X1_becomes dX7_swap_70 rfl (hs_ground j11 (by omega)).1 hb_X1 rfl rfl (Nat.le_of_ble_eq_true rfl) ⟨(Nat.le_of_ble_eq_true rfl), (Nat.le_of_ble_eq_true rfl)⟩ ⟨(Nat.le_of_ble_eq_true rfl), (Nat.le_of_ble_eq_true rfl)⟩ ?_
        refine ct_memL (fun L27 hL27 => ?_)
        refine t_X1_becomes (55 + 5 * j11) (56 + 5 * j11) (59 + 5 * j11) (hs_ground j11 (by omega)).1 (hs_ground j11 (by omega)).2.2.2.2.2.1 (hs_ground j11 (by omega)).2.2.2.2.2.2.1 (hs_ground j11 (by omega)).2.2.2.2.1 (57 + 5 * j11) (58 + 5 * j11) (hs_ground j11 (by omega)).2.1 (hs_ground j11 (by omega)).2.2.2.2.2.2.2.1 (hs_ground j11 (by omega)).2.2.1 (hs_ground j11 (by omega)).2.2.2.2.2.2.2.2.1 (hs_ground j11 (by omega)).2.2.2.1 (by omega) (by omega) (fun J28 K29 b30 b31 b32 b33 b34 b35 b36 b37 => ?_)
        refine ev_iret dX7_swap_73 rfl rfl ⟨Nat.le_refl _, Nat.le_refl _⟩ ?_
        exact k4 n2 hn2 rfl n4 hn4 rfl j11 h12 rfl h14 h15 h16 L27 hL27 J28 K29 b30 b31 b32 b33 b34 b35 b36 b37
      · subst e19
        refine ev_istore (pc' := 23) (lv' := [some (.ref 3), some (.int (nI j17)), some (.int (nI n2)), some (.int (nI n4)), some (.int (-3))]) dX7_swap_21 rfl (Nat.le_of_ble_eq_true rfl) rfl rfl ?_
        refine ev_iload (pc' := 25) dX7_swap_23 rfl rfl ?_
        refine ev_if_eq (tgt := 31) (pc' := 28) dX7_swap_25 rfl rfl (fun h => absurd h (by decide)) (fun _ => ?_)
        refine ev_iload (pc' := 30) dX7_swap_28 rfl rfl ?_
        refine ev_iret dX7_swap_30 rfl rfl ⟨Nat.le_refl _, Nat.le_refl _⟩ ?_
        exact k5 n2 hn2 rfl n4 hn4 rfl j17 h18 rfl h20 h21 h22
      · subst e25
        refine ev_istore (pc' := 23) (lv' := [some (.ref 3), some (.int (nI j23)), some (.int (nI n2)), some (.int (nI n4)), some (.int (-1))]) dX7_swap_21 rfl (Nat.le_of_ble_eq_true rfl) rfl rfl ?_
        refine ev_iload (pc' := 25) dX7_swap_23 rfl rfl ?_
        refine ev_if_eq (tgt := 31) (pc' := 28) dX7_swap_25 rfl rfl (fun h => absurd h (by decide)) (fun _ => ?_)
        refine ev_iload (pc' := 30) dX7_swap_28 rfl rfl ?_
        refine ev_iret dX7_swap_30 rfl rfl ⟨Nat.le_refl _, Nat.le_refl _⟩ ?_
        exact k6 n2 hn2 rfl n4 hn4 rfl j23 h24 rfl h26
    · refine ev_iconst (pc' := 15) (v := (-1)) dX7_swap_14 rfl ki_m1 ?_
      refine ev_iret dX7_swap_15 rfl rfl ⟨Nat.le_refl _, Nat.le_refl _⟩ ?_
      exact k7 n2 hn2 rfl c3
