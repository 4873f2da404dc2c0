set_option maxRecDepth 4000 in
theorem t_X7_refusedPair {g : ma_G} {Post : ma_P} {I : ma_I} {L : ma_L}  (q : Int32) (r : Int32)  (k1 : ((q < 0) ∨ (¬ q < 12)) → Post (some (.int (-1))) HS I L RF 146) (k2 : ∀ n2 : Nat, (n2 < 12) → q = nI n2 → ∀ n4 : Nat, (n4 < 12) → r = nI n4 → (((I (55 + 5 * n2)) 0) = 0) → Post (some (.int (-3))) HS (cRf I 1) L RF 146) (k3 : ∀ n2 : Nat, (n2 < 12) → q = nI n2 → ∀ n4 : Nat, (n4 < 12) → r = nI n4 → (¬ ((I (55 + 5 * n2)) 0) = 0) → (¬ ((I (55 + 5 * n4)) 0) = 0) → Post (some (.int 0)) HS I L RF 146) (k4 : ∀ n2 : Nat, (n2 < 12) → q = nI n2 → ∀ n4 : Nat, (n4 < 12) → r = nI n4 → (¬ ((I (55 + 5 * n2)) 0) = 0) → (((I (55 + 5 * n4)) 0) = 0) → Post (some (.int (-3))) HS (cRf I 1) L RF 146) (k5 : ∀ n2 : Nat, (n2 < 12) → q = nI n2 → ((r < 0) ∨ (¬ r < 12)) → Post (some (.int (-1))) HS I L RF 146) : CT g yX7_refusedPair cX7_refusedPair 3 (some .int) rX7_refusedPair [.ref 3, .int q, .int r] Post HS I L RF 146 := by
  refine ct_of (lv := [some (.ref 3), some (.int q), some (.int r)]) (by decide) (Nat.le_of_ble_eq_true rfl) rfl ?_
  refine ev_iload_n (pc' := 1) (i := 1) dX7_refusedPair_0 rfl rfl rfl ?_
  refine ev_callS (pc' := 4) (rm' := rX7_noGround) (av := [.int q]) (rest := []) co_X7_114 cs_X7_noGround dX7_refusedPair_1 rfl rfl rfl (Nat.le_of_ble_eq_true rfl) ⟨(Nat.le_of_ble_eq_true rfl), (Nat.le_of_ble_eq_true rfl)⟩ ⟨(Nat.le_of_ble_eq_true rfl), (Nat.le_of_ble_eq_true rfl)⟩ ?_
  refine t_X7_noGround q  ?_
  refine ev_if_ne_b (tgt := 14) (pc' := 7) dX7_refusedPair_4 rfl rfl (fun c1 => ?_) (fun c1 => ?_)
  · refine ev_iconst (pc' := 15) (v := (-1)) dX7_refusedPair_14 rfl ki_m1 ?_
    refine ev_iret dX7_refusedPair_15 rfl rfl ⟨Nat.le_refl _, Nat.le_refl _⟩ ?_
    exact k1 c1
  · obtain ⟨n2, hn2, en2⟩ := in_ofn (n := 12) (by omega) rfl c1
    subst en2
    refine ev_iload_n (pc' := 8) (i := 2) dX7_refusedPair_7 rfl rfl rfl ?_
    refine ev_callS (pc' := 11) (rm' := rX7_noGround) (av := [.int r]) (rest := []) co_X7_114 cs_X7_noGround dX7_refusedPair_8 rfl rfl rfl (Nat.le_of_ble_eq_true rfl) ⟨(Nat.le_of_ble_eq_true rfl), (Nat.le_of_ble_eq_true rfl)⟩ ⟨(Nat.le_of_ble_eq_true rfl), (Nat.le_of_ble_eq_true rfl)⟩ ?_
    refine t_X7_noGround r  ?_
    refine ev_if_eq_b (tgt := 16) (pc' := 14) dX7_refusedPair_11 rfl rfl (fun c3 => ?_) (fun c3 => ?_)
    · obtain ⟨n4, hn4, en4⟩ := in_ofn (n := 12) (by omega) rfl c3
      subst en4
      refine ev_aload_n (pc' := 17) (i := 0) dX7_refusedPair_16 rfl rfl rfl ?_
      refine ev_getR (pc' := 20) fo_X7_17 dX7_refusedPair_17 rfl hs_3 rfl rf_3_1 ?_
      refine ev_iload_n (pc' := 21) (i := 1) dX7_refusedPair_20 rfl rfl rfl ?_
      refine ev_aald (pc' := 22) (j := n2) (b := 55 + 5 * n2) dX7_refusedPair_21 rfl hs_5 (Or.inr rfl) rfl (by omega) (Nat.le_of_ble_eq_true rfl) (hs_ground n2 (by omega)).2.2.2.2.2.2.2.2.2 ?_
      refine ev_getI (pc' := 25) (v := (I (55 + 5 * n2)) 0) fo_X7_134 dX7_refusedPair_22 rfl (hs_ground n2 (by omega)).1 rfl rfl ?_
      refine ev_if_eq (tgt := 40) (pc' := 28) dX7_refusedPair_25 rfl rfl (fun c5 => ?_) (fun c5 => ?_)
      · refine ev_aload_n (pc' := 41) (i := 0) dX7_refusedPair_40 rfl rfl rfl ?_
        refine ev_iconst (pc' := 42) (v := 1) dX7_refusedPair_41 rfl ki_1 ?_
        refine ev_callV (pc' := 45) (rm' := rX7_refuse) (b := 3) (av := [.int 1]) (rest := []) co_X7_79 ci_X7_refuse cv_X7_refuse dX7_refusedPair_42 rfl hs_3 hb_X7 rfl rfl (Nat.le_of_ble_eq_true rfl) ⟨(Nat.le_of_ble_eq_true rfl), (Nat.le_of_ble_eq_true rfl)⟩ ⟨(Nat.le_of_ble_eq_true rfl), (Nat.le_of_ble_eq_true rfl)⟩ ?_
        refine t_X7_refuse1 ?_
        refine ev_cRf 1 ?_
        refine ev_iret dX7_refusedPair_45 rfl rfl ⟨Nat.le_refl _, Nat.le_refl _⟩ ?_
        exact k2 n2 hn2 rfl n4 hn4 rfl c5
      · refine ev_aload_n (pc' := 29) (i := 0) dX7_refusedPair_28 rfl rfl rfl ?_
        refine ev_getR (pc' := 32) fo_X7_17 dX7_refusedPair_29 rfl hs_3 rfl rf_3_1 ?_
        refine ev_iload_n (pc' := 33) (i := 2) dX7_refusedPair_32 rfl rfl rfl ?_
        refine ev_aald (pc' := 34) (j := n4) (b := 55 + 5 * n4) dX7_refusedPair_33 rfl hs_5 (Or.inr rfl) rfl (by omega) (Nat.le_of_ble_eq_true rfl) (hs_ground n4 (by omega)).2.2.2.2.2.2.2.2.2 ?_
        refine ev_getI (pc' := 37) (v := (I (55 + 5 * n4)) 0) fo_X7_134 dX7_refusedPair_34 rfl (hs_ground n4 (by omega)).1 rfl rfl ?_
        refine ev_if_ne (tgt := 46) (pc' := 40) dX7_refusedPair_37 rfl rfl (fun c6 => ?_) (fun c6 => ?_)
        · refine ev_iconst (pc' := 47) (v := 0) dX7_refusedPair_46 rfl ki_0 ?_
          refine ev_iret dX7_refusedPair_47 rfl rfl ⟨Nat.le_refl _, Nat.le_refl _⟩ ?_
          exact k3 n2 hn2 rfl n4 hn4 rfl c5 c6
        · refine ev_aload_n (pc' := 41) (i := 0) dX7_refusedPair_40 rfl rfl rfl ?_
          refine ev_iconst (pc' := 42) (v := 1) dX7_refusedPair_41 rfl ki_1 ?_
          refine ev_callV (pc' := 45) (rm' := rX7_refuse) (b := 3) (av := [.int 1]) (rest := []) co_X7_79 ci_X7_refuse cv_X7_refuse dX7_refusedPair_42 rfl hs_3 hb_X7 rfl rfl (Nat.le_of_ble_eq_true rfl) ⟨(Nat.le_of_ble_eq_true rfl), (Nat.le_of_ble_eq_true rfl)⟩ ⟨(Nat.le_of_ble_eq_true rfl), (Nat.le_of_ble_eq_true rfl)⟩ ?_
          refine t_X7_refuse1 ?_
          refine ev_cRf 1 ?_
          refine ev_iret dX7_refusedPair_45 rfl rfl ⟨Nat.le_refl _, Nat.le_refl _⟩ ?_
          exact k4 n2 hn2 rfl n4 hn4 rfl c5 c6
    · refine ev_iconst (pc' := 15) (v := (-1)) dX7_refusedPair_14 rfl ki_m1 ?_
      refine ev_iret dX7_refusedPair_15 rfl rfl ⟨Nat.le_refl _, Nat.le_refl _⟩ ?_
      exact k5 n2 hn2 rfl c3
set_option maxRecDepth 4000 in
theorem t_X7_refusedGround {g : ma_G} {Post : ma_P} {I : ma_I} {L : ma_L}  (q : Int32)  (k1 : ((q < 0) ∨ (¬ q < 12)) → Post (some (.int (-1))) HS I L RF 146) (k2 : ∀ j2 : Nat, (j2 < 12) → q = nI j2 → (j2 < 12) → (((I (55 + 5 * j2)) 0) = 0) → Post (some (.int (-3))) HS (cRf I 1) L RF 146) (k3 : ∀ j9 : Nat, (j9 < 12) → q = nI j9 → (j9 < 12) → (¬ ((I (55 + 5 * j9)) 0) = 0) → (¬ ((I (55 + 5 * j9)) 0) = 0) → Post (some (.int 0)) HS I L RF 146) (k4 : ∀ j17 : Nat, (j17 < 12) → q = nI j17 → (j17 < 12) → (¬ ((I (55 + 5 * j17)) 0) = 0) → (((I (55 + 5 * j17)) 0) = 0) → Post (some (.int (-3))) HS (cRf I 1) L RF 146) (k5 : ∀ j25 : Nat, (j25 < 12) → q = nI j25 → ((q < 0) ∨ (¬ q < 12)) → Post (some (.int (-1))) HS I L RF 146) : CT g yX7_refusedGround cX7_refusedGround 2 (some .int) rX7_refusedGround [.ref 3, .int q] Post HS I L RF 146 := by
  refine ct_of (lv := [some (.ref 3), some (.int q)]) (by decide) (Nat.le_of_ble_eq_true rfl) rfl ?_
  refine ev_aload_n (pc' := 1) (i := 0) dX7_refusedGround_0 rfl rfl rfl ?_
  refine ev_iload_n (pc' := 2) (i := 1) dX7_refusedGround_1 rfl rfl rfl ?_
  refine ev_iload_n (pc' := 3) (i := 1) dX7_refusedGround_2 rfl rfl rfl ?_
  refine ev_callV (pc' := 6) (rm' := rX7_refusedPair) (b := 3) (av := [.int q, .int q]) (rest := []) co_X7_196 ci_X7_refusedPair cv_X7_refusedPair dX7_refusedGround_3 rfl hs_3 hb_X7 rfl rfl (Nat.le_of_ble_eq_true rfl) ⟨(Nat.le_of_ble_eq_true rfl), (Nat.le_of_ble_eq_true rfl)⟩ ⟨(Nat.le_of_ble_eq_true rfl), (Nat.le_of_ble_eq_true rfl)⟩ ?_
  refine t_X7_refusedPair q q  (fun h1 => ?_) (fun j2 h3 e4 j5 h6 e7 h8 => ?_) (fun j9 h10 e11 j12 h13 e14 h15 h16 => ?_) (fun j17 h18 e19 j20 h21 e22 h23 h24 => ?_) (fun j25 h26 e27 h28 => ?_)
  · skip
    refine ev_iret dX7_refusedGround_6 rfl rfl ⟨Nat.le_refl _, Nat.le_refl _⟩ ?_
    exact k1 h1
  · subst e4
    have e7 := nx_inj e7 (by omega) (by omega)
    subst e7
    refine ev_iret dX7_refusedGround_6 rfl rfl ⟨Nat.le_refl _, Nat.le_refl _⟩ ?_
    exact k2 j2 h3 rfl h6 h8
  · subst e11
    have e14 := nx_inj e14 (by omega) (by omega)
    subst e14
    refine ev_iret dX7_refusedGround_6 rfl rfl ⟨Nat.le_refl _, Nat.le_refl _⟩ ?_
    exact k3 j9 h10 rfl h13 h15 h16
  · subst e19
    have e22 := nx_inj e22 (by omega) (by omega)
    subst e22
    refine ev_iret dX7_refusedGround_6 rfl rfl ⟨Nat.le_refl _, Nat.le_refl _⟩ ?_
    exact k4 j17 h18 rfl h21 h23 h24
  · subst e27
    refine ev_iret dX7_refusedGround_6 rfl rfl ⟨Nat.le_refl _, Nat.le_refl _⟩ ?_
    exact k5 j25 h26 rfl h28
set_option maxRecDepth 4000 in
theorem t_X7_asked {g : ma_G} {Post : ma_P} {I : ma_I} {L : ma_L}   (k : Post (some (.int ((I 3) 13))) HS I L RF 146) : CT g yX7_asked cX7_asked 1 (some .int) rX7_asked [.ref 3] Post HS I L RF 146 := by
  refine ct_of (lv := [some (.ref 3)]) (by decide) (Nat.le_of_ble_eq_true rfl) rfl ?_
  refine ev_aload_n (pc' := 1) (i := 0) dX7_asked_0 rfl rfl rfl ?_
  refine ev_getI (pc' := 4) (v := (I 3) 13) fo_X7_98 dX7_asked_1 rfl hs_3 rfl rfl ?_
  refine ev_iret dX7_asked_4 rfl rfl ⟨Nat.le_refl _, Nat.le_refl _⟩ ?_
  exact k
set_option maxRecDepth 4000 in
theorem t_X7_upper {g : ma_G} {Post : ma_P} {I : ma_I} {L : ma_L}   (k : Post (some (.long ((L 3) 14))) HS I L RF 146) : CT g yX7_upper cX7_upper 1 (some .long) rX7_upper [.ref 3] Post HS I L RF 146 := by
  refine ct_of (lv := [some (.ref 3)]) (by decide) (Nat.le_of_ble_eq_true rfl) rfl ?_
  refine ev_aload_n (pc' := 1) (i := 0) dX7_upper_0 rfl rfl rfl ?_
  refine ev_getL (pc' := 4) (v := (L 3) 14) fo_X7_328 dX7_upper_1 rfl hs_3 rfl rfl ?_
  refine ev_lret dX7_upper_4 rfl ⟨Nat.le_refl _, Nat.le_refl _⟩ ?_
  exact k
set_option maxRecDepth 4000 in
theorem t_X7_lower {g : ma_G} {Post : ma_P} {I : ma_I} {L : ma_L}   (k : Post (some (.long ((L 3) 15))) HS I L RF 146) : CT g yX7_lower cX7_lower 1 (some .long) rX7_lower [.ref 3] Post HS I L RF 146 := by
  refine ct_of (lv := [some (.ref 3)]) (by decide) (Nat.le_of_ble_eq_true rfl) rfl ?_
  refine ev_aload_n (pc' := 1) (i := 0) dX7_lower_0 rfl rfl rfl ?_
  refine ev_getL (pc' := 4) (v := (L 3) 15) fo_X7_66 dX7_lower_1 rfl hs_3 rfl rfl ?_
  refine ev_lret dX7_lower_4 rfl ⟨Nat.le_refl _, Nat.le_refl _⟩ ?_
  exact k
set_option maxRecDepth 4000 in
theorem t_X7_finding {g : ma_G} {Post : ma_P} {I : ma_I} {L : ma_L}   (k : Post (some (.int ((I 3) 16))) HS I L RF 146) : CT g yX7_finding cX7_finding 1 (some .int) rX7_finding [.ref 3] Post HS I L RF 146 := by
  refine ct_of (lv := [some (.ref 3)]) (by decide) (Nat.le_of_ble_eq_true rfl) rfl ?_
  refine ev_aload_n (pc' := 1) (i := 0) dX7_finding_0 rfl rfl rfl ?_
  refine ev_getI (pc' := 4) (v := (I 3) 16) fo_X7_337 dX7_finding_1 rfl hs_3 rfl rfl ?_
  refine ev_iret dX7_finding_4 rfl rfl ⟨Nat.le_refl _, Nat.le_refl _⟩ ?_
  exact k
set_option maxRecDepth 4000 in
theorem t_X7_findings {g : ma_G} {Post : ma_P} {I : ma_I} {L : ma_L}  (f : Int32)  (k1 : (f < 1) → Post (some (.int (-1))) HS I L RF 146) (k2 : ∀ n3 : Nat, (1 ≤ n3) → (n3 < 6) → f = nI n3 → Post (some (.int ((I 38) n3))) HS I L RF 146) (k3 : (¬ f < 1) → (¬ f ≤ 5) → Post (some (.int (-1))) HS I L RF 146) : CT g yX7_findings cX7_findings 2 (some .int) rX7_findings [.ref 3, .int f] Post HS I L RF 146 := by
  refine ct_of (lv := [some (.ref 3), some (.int f)]) (by decide) (Nat.le_of_ble_eq_true rfl) rfl ?_
  refine ev_iload_n (pc' := 1) (i := 1) dX7_findings_0 rfl rfl rfl ?_
  refine ev_iconst (pc' := 2) (v := 1) dX7_findings_1 rfl ki_1 ?_
  refine ev_icmp_lt (tgt := 10) (pc' := 5) dX7_findings_2 rfl rfl (fun c1 => ?_) (fun c1 => ?_)
  · refine ev_iconst (pc' := 11) (v := (-1)) dX7_findings_10 rfl ki_m1 ?_
    refine ev_iret dX7_findings_11 rfl rfl ⟨Nat.le_refl _, Nat.le_refl _⟩ ?_
    exact k1 c1
  · refine ev_iload_n (pc' := 6) (i := 1) dX7_findings_5 rfl rfl rfl ?_
    refine ev_iconst (pc' := 7) (v := 5) dX7_findings_6 rfl ki_5 ?_
    refine ev_icmp_le (tgt := 12) (pc' := 10) dX7_findings_7 rfl rfl (fun c2 => ?_) (fun c2 => ?_)
    · refine ev_aload_n (pc' := 13) (i := 0) dX7_findings_12 rfl rfl rfl ?_
      refine ev_getR (pc' := 16) fo_X7_70 dX7_findings_13 rfl hs_3 rfl rf_3_17 ?_
      refine ev_iload_n (pc' := 17) (i := 1) dX7_findings_16 rfl rfl rfl ?_
      obtain ⟨n3, gn3, hn3, en3⟩ := nat_of (x := f) (lo := 1) (hi := 6) (by have q := c1; rw [nb_lt] at q; have z : (1 : Int32).toInt = 1 := (by decide); omega) (by have q := c2; rw [nb_le] at q; have z : (5 : Int32).toInt = 5 := (by decide); omega) (by omega)
      subst en3
      refine ev_iald (pc' := 18) (j := n3) (v := (I 38) n3) dX7_findings_17 rfl hs_38 rfl (by omega) (Nat.le_of_ble_eq_true rfl) rfl ?_
      refine ev_iret dX7_findings_18 rfl rfl ⟨Nat.le_refl _, Nat.le_refl _⟩ ?_
      exact k2 n3 gn3 hn3 rfl
    · refine ev_iconst (pc' := 11) (v := (-1)) dX7_findings_10 rfl ki_m1 ?_
      refine ev_iret dX7_findings_11 rfl rfl ⟨Nat.le_refl _, Nat.le_refl _⟩ ?_
      exact k3 c1 c2
set_option maxRecDepth 4000 in
theorem t_X7_lineTold {g : ma_G} {Post : ma_P} {I : ma_I} {L : ma_L}  (f : Int32)  (k1 : (f < 0) → Post (some (.int (-1))) HS I L RF 146) (k2 : (¬ ((I 3) 10) = 0) → ∀ n4 : Nat, (0 ≤ n4) → (n4 < 3) → f = nI n4 → Post (some (.int 1)) HS (ma_up I 3 (ma_up (I 3) 13 ((I 36) n4))) L RF 146) (k3 : (¬ f < 0) → (f ≤ 2) → (((I 3) 10) = 0) → Post (some (.int (-4))) HS I L RF 146) (k4 : (¬ f < 0) → (¬ f ≤ 2) → Post (some (.int (-1))) HS I L RF 146) : CT g yX7_lineTold cX7_lineTold 2 (some .int) rX7_lineTold [.ref 3, .int f] Post HS I L RF 146 := by
  refine ct_of (lv := [some (.ref 3), some (.int f)]) (by decide) (Nat.le_of_ble_eq_true rfl) rfl ?_
  refine ev_iload_n (pc' := 1) (i := 1) dX7_lineTold_0 rfl rfl rfl ?_
  refine ev_if_lt (tgt := 9) (pc' := 4) dX7_lineTold_1 rfl rfl (fun c1 => ?_) (fun c1 => ?_)
  · refine ev_iconst (pc' := 10) (v := (-1)) dX7_lineTold_9 rfl ki_m1 ?_
    refine ev_iret dX7_lineTold_10 rfl rfl ⟨Nat.le_refl _, Nat.le_refl _⟩ ?_
    exact k1 c1
  · refine ev_iload_n (pc' := 5) (i := 1) dX7_lineTold_4 rfl rfl rfl ?_
    refine ev_iconst (pc' := 6) (v := 2) dX7_lineTold_5 rfl ki_2 ?_
    refine ev_icmp_le (tgt := 11) (pc' := 9) dX7_lineTold_6 rfl rfl (fun c2 => ?_) (fun c2 => ?_)
    · refine ev_aload_n (pc' := 12) (i := 0) dX7_lineTold_11 rfl rfl rfl ?_
      refine ev_getI (pc' := 15) (v := (I 3) 10) fo_X7_222 dX7_lineTold_12 rfl hs_3 rfl rfl ?_
      refine ev_if_ne (tgt := 21) (pc' := 18) dX7_lineTold_15 rfl rfl (fun c3 => ?_) (fun c3 => ?_)
      · refine ev_aload_n (pc' := 22) (i := 0) dX7_lineTold_21 rfl rfl rfl ?_
        refine ev_aload_n (pc' := 23) (i := 0) dX7_lineTold_22 rfl rfl rfl ?_
        refine ev_getR (pc' := 26) fo_X7_59 dX7_lineTold_23 rfl hs_3 rfl rf_3_9 ?_
        refine ev_iload_n (pc' := 27) (i := 1) dX7_lineTold_26 rfl rfl rfl ?_
        obtain ⟨n4, gn4, hn4, en4⟩ := nat_of (x := f) (lo := 0) (hi := 3) (by have q := c1; rw [nb_lt] at q; have z : (0 : Int32).toInt = 0 := (by decide); omega) (by have q := c2; rw [nb_le] at q; have z : (2 : Int32).toInt = 2 := (by decide); omega) (by omega)
        subst en4
        refine ev_iald (pc' := 28) (j := n4) (v := (I 36) n4) dX7_lineTold_27 rfl hs_36 rfl (by omega) (Nat.le_of_ble_eq_true rfl) rfl ?_
        refine ev_putI (pc' := 31) (I' := (ma_up I 3 (ma_up (I 3) 13 ((I 36) n4)))) fo_X7_98 dX7_lineTold_28 rfl hs_3 rfl (fun r hr => by cases hr; rfl) ⟨rfl, rfl⟩ rfl ?_
        refine ev_iconst (pc' := 32) (v := 1) dX7_lineTold_31 rfl ki_1 ?_
        refine ev_iret dX7_lineTold_32 rfl rfl ⟨Nat.le_refl _, Nat.le_refl _⟩ ?_
        exact k2 c3 n4 gn4 hn4 rfl
      · refine ev_bipush (pc' := 20) (v := (-4)) dX7_lineTold_18 rfl kb_m4 ?_
        refine ev_iret dX7_lineTold_20 rfl rfl ⟨Nat.le_refl _, Nat.le_refl _⟩ ?_
        exact k3 c1 c2 c3
    · refine ev_iconst (pc' := 10) (v := (-1)) dX7_lineTold_9 rfl ki_m1 ?_
      refine ev_iret dX7_lineTold_10 rfl rfl ⟨Nat.le_refl _, Nat.le_refl _⟩ ?_
      exact k4 c1 c2
set_option maxRecDepth 4000 in
theorem t_X7_formTold {g : ma_G} {Post : ma_P} {I : ma_I} {L : ma_L}  (f : Int32)  (k1 : (f < 0) → Post (some (.int (-1))) HS I L RF 146) (k2 : (¬ ((I 3) 12) = 0) → ∀ n4 : Nat, (0 ≤ n4) → (n4 < 5) → f = nI n4 → Post (some (.int 1)) HS (ma_up I 3 (ma_up (I 3) 13 ((I 37) n4))) L RF 146) (k3 : (¬ f < 0) → (f ≤ 4) → (((I 3) 12) = 0) → Post (some (.int (-4))) HS I L RF 146) (k4 : (¬ f < 0) → (¬ f ≤ 4) → Post (some (.int (-1))) HS I L RF 146) : CT g yX7_formTold cX7_formTold 2 (some .int) rX7_formTold [.ref 3, .int f] Post HS I L RF 146 := by
  refine ct_of (lv := [some (.ref 3), some (.int f)]) (by decide) (Nat.le_of_ble_eq_true rfl) rfl ?_
  refine ev_iload_n (pc' := 1) (i := 1) dX7_formTold_0 rfl rfl rfl ?_
  refine ev_if_lt (tgt := 9) (pc' := 4) dX7_formTold_1 rfl rfl (fun c1 => ?_) (fun c1 => ?_)
  · refine ev_iconst (pc' := 10) (v := (-1)) dX7_formTold_9 rfl ki_m1 ?_
    refine ev_iret dX7_formTold_10 rfl rfl ⟨Nat.le_refl _, Nat.le_refl _⟩ ?_
    exact k1 c1
  · refine ev_iload_n (pc' := 5) (i := 1) dX7_formTold_4 rfl rfl rfl ?_
    refine ev_iconst (pc' := 6) (v := 4) dX7_formTold_5 rfl ki_4 ?_
    refine ev_icmp_le (tgt := 11) (pc' := 9) dX7_formTold_6 rfl rfl (fun c2 => ?_) (fun c2 => ?_)
    · refine ev_aload_n (pc' := 12) (i := 0) dX7_formTold_11 rfl rfl rfl ?_
      refine ev_getI (pc' := 15) (v := (I 3) 12) fo_X7_270 dX7_formTold_12 rfl hs_3 rfl rfl ?_
      refine ev_if_ne (tgt := 21) (pc' := 18) dX7_formTold_15 rfl rfl (fun c3 => ?_) (fun c3 => ?_)
      · refine ev_aload_n (pc' := 22) (i := 0) dX7_formTold_21 rfl rfl rfl ?_
        refine ev_aload_n (pc' := 23) (i := 0) dX7_formTold_22 rfl rfl rfl ?_
        refine ev_getR (pc' := 26) fo_X7_63 dX7_formTold_23 rfl hs_3 rfl rf_3_11 ?_
        refine ev_iload_n (pc' := 27) (i := 1) dX7_formTold_26 rfl rfl rfl ?_
        obtain ⟨n4, gn4, hn4, en4⟩ := nat_of (x := f) (lo := 0) (hi := 5) (by have q := c1; rw [nb_lt] at q; have z : (0 : Int32).toInt = 0 := (by decide); omega) (by have q := c2; rw [nb_le] at q; have z : (4 : Int32).toInt = 4 := (by decide); omega) (by omega)
        subst en4
        refine ev_iald (pc' := 28) (j := n4) (v := (I 37) n4) dX7_formTold_27 rfl hs_37 rfl (by omega) (Nat.le_of_ble_eq_true rfl) rfl ?_
        refine ev_putI (pc' := 31) (I' := (ma_up I 3 (ma_up (I 3) 13 ((I 37) n4)))) fo_X7_98 dX7_formTold_28 rfl hs_3 rfl (fun r hr => by cases hr; rfl) ⟨rfl, rfl⟩ rfl ?_
        refine ev_iconst (pc' := 32) (v := 1) dX7_formTold_31 rfl ki_1 ?_
        refine ev_iret dX7_formTold_32 rfl rfl ⟨Nat.le_refl _, Nat.le_refl _⟩ ?_
        exact k2 c3 n4 gn4 hn4 rfl
      · refine ev_bipush (pc' := 20) (v := (-4)) dX7_formTold_18 rfl kb_m4 ?_
        refine ev_iret dX7_formTold_20 rfl rfl ⟨Nat.le_refl _, Nat.le_refl _⟩ ?_
        exact k3 c1 c2 c3
    · refine ev_iconst (pc' := 10) (v := (-1)) dX7_formTold_9 rfl ki_m1 ?_
      refine ev_iret dX7_formTold_10 rfl rfl ⟨Nat.le_refl _, Nat.le_refl _⟩ ?_
      exact k4 c1 c2
set_option maxRecDepth 4000 in
theorem t_X7_drop {g : ma_G} {Post : ma_P} {I : ma_I} {L : ma_L}  (q : Int32)  (k1 : ((q < 0) ∨ (¬ q < 12)) → Post (some (.int (-1))) HS I L RF 146) (k2 : ∀ j2 : Nat, (j2 < 12) → q = nI j2 → (j2 < 12) → (((I (55 + 5 * j2)) 0) = 0) → Post (some (.int (-3))) HS (cRf I 1) L RF 146) (k3 : ∀ j7 : Nat, (j7 < 12) → q = nI j7 → (j7 < 12) → (¬ ((I (55 + 5 * j7)) 0) = 0) → (¬ ((I (55 + 5 * j7)) 0) = 0) → Post (some (.int 1)) HS (ma_up I (55 + 5 * j7) (ma_up (I (55 + 5 * j7)) 0 0)) L RF 146) (k4 : ∀ j13 : Nat, (j13 < 12) → q = nI j13 → (j13 < 12) → (¬ ((I (55 + 5 * j13)) 0) = 0) → (((I (55 + 5 * j13)) 0) = 0) → Post (some (.int (-3))) HS (cRf I 1) L RF 146) (k5 : ∀ j19 : Nat, (j19 < 12) → q = nI j19 → ((q < 0) ∨ (¬ q < 12)) → Post (some (.int (-1))) HS I L RF 146) : CT g yX7_drop cX7_drop 3 (some .int) rX7_drop [.ref 3, .int q] Post HS I L RF 146 := by
  refine ct_of (lv := [some (.ref 3), some (.int q), none]) (by decide) (Nat.le_of_ble_eq_true rfl) rfl ?_
  refine ev_aload_n (pc' := 1) (i := 0) dX7_drop_0 rfl rfl rfl ?_
  refine ev_iload_n (pc' := 2) (i := 1) dX7_drop_1 rfl rfl rfl ?_
  refine ev_callV (pc' := 5) (rm' := rX7_refusedGround) (b := 3) (av := [.int q]) (rest := []) co_X7_131 ci_X7_refusedGround cv_X7_refusedGround dX7_drop_2 rfl hs_3 hb_X7 rfl rfl (Nat.le_of_ble_eq_true rfl) ⟨(Nat.le_of_ble_eq_true rfl), (Nat.le_of_ble_eq_true rfl)⟩ ⟨(Nat.le_of_ble_eq_true rfl), (Nat.le_of_ble_eq_true rfl)⟩ ?_
  refine t_X7_refusedGround q  (fun h1 => ?_) (fun j2 h3 e4 h5 h6 => ?_) (fun j7 h8 e9 h10 h11 h12 => ?_) (fun j13 h14 e15 h16 h17 h18 => ?_) (fun j19 h20 e21 h22 => ?_)
  · skip
    refine ev_istore_n (pc' := 6) (i := 2) (lv' := [some (.ref 3), some (.int q), some (.int (-1))]) dX7_drop_5 rfl rfl (Nat.le_of_ble_eq_true rfl) rfl rfl ?_
    refine ev_iload_n (pc' := 7) (i := 2) dX7_drop_6 rfl rfl rfl ?_
    refine ev_if_eq (tgt := 12) (pc' := 10) dX7_drop_7 rfl rfl (fun h => absurd h (by decide)) (fun _ => ?_)
    refine ev_iload_n (pc' := 11) (i := 2) dX7_drop_10 rfl rfl rfl ?_
    refine ev_iret dX7_drop_11 rfl rfl ⟨Nat.le_refl _, Nat.le_refl _⟩ ?_
    exact k1 h1
  · subst e4
    refine ev_istore_n (pc' := 6) (i := 2) (lv' := [some (.ref 3), some (.int (nI j2)), some (.int (-3))]) dX7_drop_5 rfl rfl (Nat.le_of_ble_eq_true rfl) rfl rfl ?_
    refine ev_iload_n (pc' := 7) (i := 2) dX7_drop_6 rfl rfl rfl ?_
    refine ev_if_eq (tgt := 12) (pc' := 10) dX7_drop_7 rfl rfl (fun h => absurd h (by decide)) (fun _ => ?_)
    refine ev_iload_n (pc' := 11) (i := 2) dX7_drop_10 rfl rfl rfl ?_
    refine ev_iret dX7_drop_11 rfl rfl ⟨Nat.le_refl _, Nat.le_refl _⟩ ?_
    exact k2 j2 h3 rfl h5 h6
  · subst e9
    refine ev_istore_n (pc' := 6) (i := 2) (lv' := [some (.ref 3), some (.int (nI j7)), some (.int 0)]) dX7_drop_5 rfl rfl (Nat.le_of_ble_eq_true rfl) rfl rfl ?_
    refine ev_iload_n (pc' := 7) (i := 2) dX7_drop_6 rfl rfl rfl ?_
    refine ev_if_eq (tgt := 12) (pc' := 10) dX7_drop_7 rfl rfl (fun _ => ?_) (fun h => absurd (by decide) h)
    refine ev_aload_n (pc' := 13) (i := 0) dX7_drop_12 rfl rfl rfl ?_
    refine ev_getR (pc' := 16) fo_X7_17 dX7_drop_13 rfl hs_3 rfl rf_3_1 ?_
    refine ev_iload_n (pc' := 17) (i := 1) dX7_drop_16 rfl rfl rfl ?_
    refine ev_aald (pc' := 18) (j := j7) (b := 55 + 5 * j7) dX7_drop_17 rfl hs_5 (Or.inr rfl) rfl (by omega) (Nat.le_of_ble_eq_true rfl) (hs_ground j7 (by omega)).2.2.2.2.2.2.2.2.2 ?_
    refine ev_iconst (pc' := 19) (v := 0) dX7_drop_18 rfl ki_0 ?_
    refine ev_putI (pc' := 22) (I' := (ma_up I (55 + 5 * j7) (ma_up (I (55 + 5 * j7)) 0 0))) fo_X7_134 dX7_drop_19 rfl (hs_ground j7 (by omega)).1 rfl (fun r hr => by cases hr; rfl) ⟨rfl, rfl⟩ rfl ?_
    refine ev_iconst (pc' := 23) (v := 1) dX7_drop_22 rfl ki_1 ?_
    refine ev_iret dX7_drop_23 rfl rfl ⟨Nat.le_refl _, Nat.le_refl _⟩ ?_
    exact k3 j7 h8 rfl h10 h11 h12
  · subst e15
    refine ev_istore_n (pc' := 6) (i := 2) (lv' := [some (.ref 3), some (.int (nI j13)), some (.int (-3))]) dX7_drop_5 rfl rfl (Nat.le_of_ble_eq_true rfl) rfl rfl ?_
    refine ev_iload_n (pc' := 7) (i := 2) dX7_drop_6 rfl rfl rfl ?_
    refine ev_if_eq (tgt := 12) (pc' := 10) dX7_drop_7 rfl rfl (fun h => absurd h (by decide)) (fun _ => ?_)
    refine ev_iload_n (pc' := 11) (i := 2) dX7_drop_10 rfl rfl rfl ?_
    refine ev_iret dX7_drop_11 rfl rfl ⟨Nat.le_refl _, Nat.le_refl _⟩ ?_
    exact k4 j13 h14 rfl h16 h17 h18
  · subst e21
    refine ev_istore_n (pc' := 6) (i := 2) (lv' := [some (.ref 3), some (.int (nI j19)), some (.int (-1))]) dX7_drop_5 rfl rfl (Nat.le_of_ble_eq_true rfl) rfl rfl ?_
    refine ev_iload_n (pc' := 7) (i := 2) dX7_drop_6 rfl rfl rfl ?_
    refine ev_if_eq (tgt := 12) (pc' := 10) dX7_drop_7 rfl rfl (fun h => absurd h (by decide)) (fun _ => ?_)
    refine ev_iload_n (pc' := 11) (i := 2) dX7_drop_10 rfl rfl rfl ?_
    refine ev_iret dX7_drop_11 rfl rfl ⟨Nat.le_refl _, Nat.le_refl _⟩ ?_
    exact k5 j19 h20 rfl h22
set_option maxRecDepth 4000 in
theorem t_X7_told {g : ma_G} {Post : ma_P} {I : ma_I} {L : ma_L}  (q : Int32) (f : Int32)  (k1 : (f < 0) → Post (some (.int (-1))) HS I L RF 146) (k2 : (¬ f < 0) → (f < 10) → ((q < 0) ∨ (¬ q < 12)) → Post (some (.int (-1))) HS I L RF 146) (k3 : (¬ f < 0) → (f < 10) → ∀ j4 : Nat, (j4 < 12) → q = nI j4 → (j4 < 12) → (((I (55 + 5 * j4)) 0) = 0) → Post (some (.int (-3))) HS (cRf I 1) L RF 146) (k4 : ∀ j9 : Nat, (j9 < 12) → q = nI j9 → (j9 < 12) → (¬ ((I (55 + 5 * j9)) 0) = 0) → (¬ ((I (55 + 5 * j9)) 0) = 0) → ∀ n25 : Nat, (0 ≤ n25) → (n25 < 10) → f = nI n25 → Post (some (.int 1)) HS (ma_up I 3 (ma_up (I 3) 13 ((I (59 + 5 * j9)) n25))) L RF 146) (k5 : (¬ f < 0) → (f < 10) → ∀ j15 : Nat, (j15 < 12) → q = nI j15 → (j15 < 12) → (¬ ((I (55 + 5 * j15)) 0) = 0) → (((I (55 + 5 * j15)) 0) = 0) → Post (some (.int (-3))) HS (cRf I 1) L RF 146) (k6 : (¬ f < 0) → (f < 10) → ∀ j21 : Nat, (j21 < 12) → q = nI j21 → ((q < 0) ∨ (¬ q < 12)) → Post (some (.int (-1))) HS I L RF 146) (k7 : (¬ f < 0) → (¬ f < 10) → Post (some (.int (-1))) HS I L RF 146) : CT g yX7_told cX7_told 4 (some .int) rX7_told [.ref 3, .int q, .int f] Post HS I L RF 146 := by
  refine ct_of (lv := [some (.ref 3), some (.int q), some (.int f), none]) (by decide) (Nat.le_of_ble_eq_true rfl) rfl ?_
  refine ev_iload_n (pc' := 1) (i := 2) dX7_told_0 rfl rfl rfl ?_
  refine ev_if_lt (tgt := 10) (pc' := 4) dX7_told_1 rfl rfl (fun c1 => ?_) (fun c1 => ?_)
  · refine ev_iconst (pc' := 11) (v := (-1)) dX7_told_10 rfl ki_m1 ?_
    refine ev_iret dX7_told_11 rfl rfl ⟨Nat.le_refl _, Nat.le_refl _⟩ ?_
    exact k1 c1
  · refine ev_iload_n (pc' := 5) (i := 2) dX7_told_4 rfl rfl rfl ?_
    refine ev_bipush (pc' := 7) (v := 10) dX7_told_5 rfl kb_10 ?_
    refine ev_icmp_lt (tgt := 12) (pc' := 10) dX7_told_7 rfl rfl (fun c2 => ?_) (fun c2 => ?_)
    · refine ev_aload_n (pc' := 13) (i := 0) dX7_told_12 rfl rfl rfl ?_
      refine ev_iload_n (pc' := 14) (i := 1) dX7_told_13 rfl rfl rfl ?_
      refine ev_callV (pc' := 17) (rm' := rX7_refusedGround) (b := 3) (av := [.int q]) (rest := []) co_X7_131 ci_X7_refusedGround cv_X7_refusedGround dX7_told_14 rfl hs_3 hb_X7 rfl rfl (Nat.le_of_ble_eq_true rfl) ⟨(Nat.le_of_ble_eq_true rfl), (Nat.le_of_ble_eq_true rfl)⟩ ⟨(Nat.le_of_ble_eq_true rfl), (Nat.le_of_ble_eq_true rfl)⟩ ?_
      refine t_X7_refusedGround q  (fun h3 => ?_) (fun j4 h5 e6 h7 h8 => ?_) (fun j9 h10 e11 h12 h13 h14 => ?_) (fun j15 h16 e17 h18 h19 h20 => ?_) (fun j21 h22 e23 h24 => ?_)
      · skip
        refine ev_istore_n (pc' := 18) (i := 3) (lv' := [some (.ref 3), some (.int q), some (.int f), some (.int (-1))]) dX7_told_17 rfl rfl (Nat.le_of_ble_eq_true rfl) rfl rfl ?_
        refine ev_iload_n (pc' := 19) (i := 3) dX7_told_18 rfl rfl rfl ?_
        refine ev_if_eq (tgt := 24) (pc' := 22) dX7_told_19 rfl rfl (fun h => absurd h (by decide)) (fun _ => ?_)
        refine ev_iload_n (pc' := 23) (i := 3) dX7_told_22 rfl rfl rfl ?_
        refine ev_iret dX7_told_23 rfl rfl ⟨Nat.le_refl _, Nat.le_refl _⟩ ?_
        exact k2 c1 c2 h3
      · subst e6
        refine ev_istore_n (pc' := 18) (i := 3) (lv' := [some (.ref 3), some (.int (nI j4)), some (.int f), some (.int (-3))]) dX7_told_17 rfl rfl (Nat.le_of_ble_eq_true rfl) rfl rfl ?_
        refine ev_iload_n (pc' := 19) (i := 3) dX7_told_18 rfl rfl rfl ?_
        refine ev_if_eq (tgt := 24) (pc' := 22) dX7_told_19 rfl rfl (fun h => absurd h (by decide)) (fun _ => ?_)
        refine ev_iload_n (pc' := 23) (i := 3) dX7_told_22 rfl rfl rfl ?_
        refine ev_iret dX7_told_23 rfl rfl ⟨Nat.le_refl _, Nat.le_refl _⟩ ?_
        exact k3 c1 c2 j4 h5 rfl h7 h8
      · subst e11
        refine ev_istore_n (pc' := 18) (i := 3) (lv' := [some (.ref 3), some (.int (nI j9)), some (.int f), some (.int 0)]) dX7_told_17 rfl rfl (Nat.le_of_ble_eq_true rfl) rfl rfl ?_
        refine ev_iload_n (pc' := 19) (i := 3) dX7_told_18 rfl rfl rfl ?_
        refine ev_if_eq (tgt := 24) (pc' := 22) dX7_told_19 rfl rfl (fun _ => ?_) (fun h => absurd (by decide) h)
        refine ev_aload_n (pc' := 25) (i := 0) dX7_told_24 rfl rfl rfl ?_
        refine ev_aload_n (pc' := 26) (i := 0) dX7_told_25 rfl rfl rfl ?_
        refine ev_getR (pc' := 29) fo_X7_17 dX7_told_26 rfl hs_3 rfl rf_3_1 ?_
        refine ev_iload_n (pc' := 30) (i := 1) dX7_told_29 rfl rfl rfl ?_
        refine ev_aald (pc' := 31) (j := j9) (b := 55 + 5 * j9) dX7_told_30 rfl hs_5 (Or.inr rfl) rfl (by omega) (Nat.le_of_ble_eq_true rfl) (hs_ground j9 (by omega)).2.2.2.2.2.2.2.2.2 ?_
        refine ev_getR (pc' := 34) fo_X7_147 dX7_told_31 rfl (hs_ground j9 (by omega)).1 rfl (hs_ground j9 (by omega)).2.2.2.2.2.2.1 ?_
        refine ev_iload_n (pc' := 35) (i := 2) dX7_told_34 rfl rfl rfl ?_
        obtain ⟨n25, gn25, hn25, en25⟩ := nat_of (x := f) (lo := 0) (hi := 10) (by have q := c1; rw [nb_lt] at q; have z : (0 : Int32).toInt = 0 := (by decide); omega) (by have q := c2; rw [nb_lt] at q; have z : (10 : Int32).toInt = 10 := (by decide); omega) (by omega)
        subst en25
        refine ev_iald (pc' := 36) (j := n25) (v := (I (59 + 5 * j9)) n25) dX7_told_35 rfl (hs_ground j9 (by omega)).2.2.2.2.1 rfl (by omega) (Nat.le_of_ble_eq_true rfl) rfl ?_
        refine ev_putI (pc' := 39) (I' := (ma_up I 3 (ma_up (I 3) 13 ((I (59 + 5 * j9)) n25)))) fo_X7_98 dX7_told_36 rfl hs_3 rfl (fun r hr => by cases hr; rfl) ⟨rfl, rfl⟩ rfl ?_
        refine ev_iconst (pc' := 40) (v := 1) dX7_told_39 rfl ki_1 ?_
        refine ev_iret dX7_told_40 rfl rfl ⟨Nat.le_refl _, Nat.le_refl _⟩ ?_
        exact k4 j9 h10 rfl h12 h13 h14 n25 gn25 hn25 rfl
      · subst e17
        refine ev_istore_n (pc' := 18) (i := 3) (lv' := [some (.ref 3), some (.int (nI j15)), some (.int f), some (.int (-3))]) dX7_told_17 rfl rfl (Nat.le_of_ble_eq_true rfl) rfl rfl ?_
        refine ev_iload_n (pc' := 19) (i := 3) dX7_told_18 rfl rfl rfl ?_
        refine ev_if_eq (tgt := 24) (pc' := 22) dX7_told_19 rfl rfl (fun h => absurd h (by decide)) (fun _ => ?_)
        refine ev_iload_n (pc' := 23) (i := 3) dX7_told_22 rfl rfl rfl ?_
        refine ev_iret dX7_told_23 rfl rfl ⟨Nat.le_refl _, Nat.le_refl _⟩ ?_
        exact k5 c1 c2 j15 h16 rfl h18 h19 h20
      · subst e23
        refine ev_istore_n (pc' := 18) (i := 3) (lv' := [some (.ref 3), some (.int (nI j21)), some (.int f), some (.int (-1))]) dX7_told_17 rfl rfl (Nat.le_of_ble_eq_true rfl) rfl rfl ?_
        refine ev_iload_n (pc' := 19) (i := 3) dX7_told_18 rfl rfl rfl ?_
        refine ev_if_eq (tgt := 24) (pc' := 22) dX7_told_19 rfl rfl (fun h => absurd h (by decide)) (fun _ => ?_)
        refine ev_iload_n (pc' := 23) (i := 3) dX7_told_22 rfl rfl rfl ?_
        refine ev_iret dX7_told_23 rfl rfl ⟨Nat.le_refl _, Nat.le_refl _⟩ ?_
        exact k6 c1 c2 j21 h22 rfl h24
    · refine ev_iconst (pc' := 11) (v := (-1)) dX7_told_10 rfl ki_m1 ?_
      refine ev_iret dX7_told_11 rfl rfl ⟨Nat.le_refl _, Nat.le_refl _⟩ ?_
      exact k7 c1 c2
set_option maxRecDepth 4000 in
theorem t_X7_table {g : ma_G} {Post : ma_P} {I : ma_I} {L : ma_L}  (q : Int32) (i : Int32) (j : Int32)  (k1 : ((i < 0) ∨ (¬ i < 4)) → Post (some (.int (-1))) HS I L RF 146) (k2 : ∀ n2 : Nat, (n2 < 4) → i = nI n2 → ∀ n4 : Nat, (n4 < 4) → j = nI n4 → ((q < 0) ∨ (¬ q < 12)) → Post (some (.int (-1))) HS I L RF 146) (k3 : ∀ n2 : Nat, (n2 < 4) → i = nI n2 → ∀ n4 : Nat, (n4 < 4) → j = nI n4 → ∀ j6 : Nat, (j6 < 12) → q = nI j6 → (j6 < 12) → (((I (55 + 5 * j6)) 0) = 0) → Post (some (.int (-3))) HS (cRf I 1) L RF 146) (k4 : ∀ n2 : Nat, (n2 < 4) → i = nI n2 → ∀ n4 : Nat, (n4 < 4) → j = nI n4 → ∀ j11 : Nat, (j11 < 12) → q = nI j11 → (j11 < 12) → (¬ ((I (55 + 5 * j11)) 0) = 0) → (¬ ((I (55 + 5 * j11)) 0) = 0) → Post (some (.int 1)) HS (ma_up I 3 (ma_up (I 3) 13 (Int64.toInt32 ((L (57 + 5 * j11)) ((4 * n2) + n4))))) L RF 146) (k5 : ∀ n2 : Nat, (n2 < 4) → i = nI n2 → ∀ n4 : Nat, (n4 < 4) → j = nI n4 → ∀ j17 : Nat, (j17 < 12) → q = nI j17 → (j17 < 12) → (¬ ((I (55 + 5 * j17)) 0) = 0) → (((I (55 + 5 * j17)) 0) = 0) → Post (some (.int (-3))) HS (cRf I 1) L RF 146) (k6 : ∀ n2 : Nat, (n2 < 4) → i = nI n2 → ∀ n4 : Nat, (n4 < 4) → j = nI n4 → ∀ j23 : Nat, (j23 < 12) → q = nI j23 → ((q < 0) ∨ (¬ q < 12)) → Post (some (.int (-1))) HS I L RF 146) (k7 : ∀ n2 : Nat, (n2 < 4) → i = nI n2 → ((j < 0) ∨ (¬ j < 4)) → Post (some (.int (-1))) HS I L RF 146) : CT g yX7_table cX7_table 5 (some .int) rX7_table [.ref 3, .int q, .int i, .int j] Post HS I L RF 146 := by
  refine ct_of (lv := [some (.ref 3), some (.int q), some (.int i), some (.int j), none]) (by decide) (Nat.le_of_ble_eq_true rfl) rfl ?_
  refine ev_iload_n (pc' := 1) (i := 2) dX7_table_0 rfl rfl rfl ?_
  refine ev_callS (pc' := 4) (rm' := rX7_noLetter) (av := [.int i]) (rest := []) co_X7_138 cs_X7_noLetter dX7_table_1 rfl rfl rfl (Nat.le_of_ble_eq_true rfl) ⟨(Nat.le_of_ble_eq_true rfl), (Nat.le_of_ble_eq_true rfl)⟩ ⟨(Nat.le_of_ble_eq_true rfl), (Nat.le_of_ble_eq_true rfl)⟩ ?_
  refine t_X7_noLetter i  ?_
  refine ev_if_ne_b (tgt := 14) (pc' := 7) dX7_table_4 rfl rfl (fun c1 => ?_) (fun c1 => ?_)
  · refine ev_iconst (pc' := 15) (v := (-1)) dX7_table_14 rfl ki_m1 ?_
    refine ev_iret dX7_table_15 rfl rfl ⟨Nat.le_refl _, Nat.le_refl _⟩ ?_
    exact k1 c1
  · obtain ⟨n2, hn2, en2⟩ := in_ofn (n := 4) (by omega) rfl c1
    subst en2
    refine ev_iload_n (pc' := 8) (i := 3) dX7_table_7 rfl rfl rfl ?_
    refine ev_callS (pc' := 11) (rm' := rX7_noLetter) (av := [.int j]) (rest := []) co_X7_138 cs_X7_noLetter dX7_table_8 rfl rfl rfl (Nat.le_of_ble_eq_true rfl) ⟨(Nat.le_of_ble_eq_true rfl), (Nat.le_of_ble_eq_true rfl)⟩ ⟨(Nat.le_of_ble_eq_true rfl), (Nat.le_of_ble_eq_true rfl)⟩ ?_
    refine t_X7_noLetter j  ?_
    refine ev_if_eq_b (tgt := 16) (pc' := 14) dX7_table_11 rfl rfl (fun c3 => ?_) (fun c3 => ?_)
    · obtain ⟨n4, hn4, en4⟩ := in_ofn (n := 4) (by omega) rfl c3
      subst en4
      refine ev_aload_n (pc' := 17) (i := 0) dX7_table_16 rfl rfl rfl ?_
      refine ev_iload_n (pc' := 18) (i := 1) dX7_table_17 rfl rfl rfl ?_
      refine ev_callV (pc' := 21) (rm' := rX7_refusedGround) (b := 3) (av := [.int q]) (rest := []) co_X7_131 ci_X7_refusedGround cv_X7_refusedGround dX7_table_18 rfl hs_3 hb_X7 rfl rfl (Nat.le_of_ble_eq_true rfl) ⟨(Nat.le_of_ble_eq_true rfl), (Nat.le_of_ble_eq_true rfl)⟩ ⟨(Nat.le_of_ble_eq_true rfl), (Nat.le_of_ble_eq_true rfl)⟩ ?_
      refine t_X7_refusedGround q  (fun h5 => ?_) (fun j6 h7 e8 h9 h10 => ?_) (fun j11 h12 e13 h14 h15 h16 => ?_) (fun j17 h18 e19 h20 h21 h22 => ?_) (fun j23 h24 e25 h26 => ?_)
      · skip
        refine ev_istore (pc' := 23) (lv' := [some (.ref 3), some (.int q), some (.int (nI n2)), some (.int (nI n4)), some (.int (-1))]) dX7_table_21 rfl (Nat.le_of_ble_eq_true rfl) rfl rfl ?_
        refine ev_iload (pc' := 25) dX7_table_23 rfl rfl ?_
        refine ev_if_eq (tgt := 31) (pc' := 28) dX7_table_25 rfl rfl (fun h => absurd h (by decide)) (fun _ => ?_)
        refine ev_iload (pc' := 30) dX7_table_28 rfl rfl ?_
        refine ev_iret dX7_table_30 rfl rfl ⟨Nat.le_refl _, Nat.le_refl _⟩ ?_
        exact k2 n2 hn2 rfl n4 hn4 rfl h5
      · subst e8
        refine ev_istore (pc' := 23) (lv' := [some (.ref 3), some (.int (nI j6)), some (.int (nI n2)), some (.int (nI n4)), some (.int (-3))]) dX7_table_21 rfl (Nat.le_of_ble_eq_true rfl) rfl rfl ?_
        refine ev_iload (pc' := 25) dX7_table_23 rfl rfl ?_
        refine ev_if_eq (tgt := 31) (pc' := 28) dX7_table_25 rfl rfl (fun h => absurd h (by decide)) (fun _ => ?_)
        refine ev_iload (pc' := 30) dX7_table_28 rfl rfl ?_
        refine ev_iret dX7_table_30 rfl rfl ⟨Nat.le_refl _, Nat.le_refl _⟩ ?_
        exact k3 n2 hn2 rfl n4 hn4 rfl j6 h7 rfl h9 h10
      · subst e13
        refine ev_istore (pc' := 23) (lv' := [some (.ref 3), some (.int (nI j11)), some (.int (nI n2)), some (.int (nI n4)), some (.int 0)]) dX7_table_21 rfl (Nat.le_of_ble_eq_true rfl) rfl rfl ?_
        refine ev_iload (pc' := 25) dX7_table_23 rfl rfl ?_
        refine ev_if_eq (tgt := 31) (pc' := 28) dX7_table_25 rfl rfl (fun _ => ?_) (fun h => absurd (by decide) h)
        refine ev_aload_n (pc' := 32) (i := 0) dX7_table_31 rfl rfl rfl ?_
        refine ev_aload_n (pc' := 33) (i := 0) dX7_table_32 rfl rfl rfl ?_
        refine ev_getR (pc' := 36) fo_X7_17 dX7_table_33 rfl hs_3 rfl rf_3_1 ?_
        refine ev_iload_n (pc' := 37) (i := 1) dX7_table_36 rfl rfl rfl ?_
        refine ev_aald (pc' := 38) (j := j11) (b := 55 + 5 * j11) dX7_table_37 rfl hs_5 (Or.inr rfl) rfl (by omega) (Nat.le_of_ble_eq_true rfl) (hs_ground j11 (by omega)).2.2.2.2.2.2.2.2.2 ?_
        refine ev_getR (pc' := 41) fo_X7_141 dX7_table_38 rfl (hs_ground j11 (by omega)).1 rfl (hs_ground j11 (by omega)).2.2.2.2.2.1 ?_
        refine ev_getR (pc' := 44) fo_X7_144 dX7_table_41 rfl (hs_ground j11 (by omega)).2.1 rfl (hs_ground j11 (by omega)).2.2.2.2.2.2.2.1 ?_
        refine ev_iconst (pc' := 45) (v := 4) dX7_table_44 rfl ki_4 ?_
        refine ev_iload_n (pc' := 46) (i := 2) dX7_table_45 rfl rfl rfl ?_
        refine ev_imul (pc' := 47) (v := nI (4 * n2)) dX7_table_46 rfl (pk_mul 4 n2) ?_
        refine ev_iload_n (pc' := 48) (i := 3) dX7_table_47 rfl rfl rfl ?_
        refine ev_iadd (pc' := 49) (v := nI ((4 * n2) + n4)) dX7_table_48 rfl (nI_add (4 * n2) n4) ?_
        refine ev_lald (pc' := 50) (j := (4 * n2) + n4) (v := (L (57 + 5 * j11)) ((4 * n2) + n4)) dX7_table_49 rfl (hs_ground j11 (by omega)).2.2.1 rfl (by omega) (Nat.le_of_ble_eq_true rfl) rfl ?_
        refine ev_l2i (pc' := 51) (v := Int64.toInt32 ((L (57 + 5 * j11)) ((4 * n2) + n4))) dX7_table_50 rfl rfl ?_
        refine ev_putI (pc' := 54) (I' := (ma_up I 3 (ma_up (I 3) 13 (Int64.toInt32 ((L (57 + 5 * j11)) ((4 * n2) + n4)))))) fo_X7_98 dX7_table_51 rfl hs_3 rfl (fun r hr => by cases hr; rfl) ⟨rfl, rfl⟩ rfl ?_
        refine ev_iconst (pc' := 55) (v := 1) dX7_table_54 rfl ki_1 ?_
        refine ev_iret dX7_table_55 rfl rfl ⟨Nat.le_refl _, Nat.le_refl _⟩ ?_
        exact k4 n2 hn2 rfl n4 hn4 rfl j11 h12 rfl h14 h15 h16
      · subst e19
        refine ev_istore (pc' := 23) (lv' := [some (.ref 3), some (.int (nI j17)), some (.int (nI n2)), some (.int (nI n4)), some (.int (-3))]) dX7_table_21 rfl (Nat.le_of_ble_eq_true rfl) rfl rfl ?_
        refine ev_iload (pc' := 25) dX7_table_23 rfl rfl ?_
        refine ev_if_eq (tgt := 31) (pc' := 28) dX7_table_25 rfl rfl (fun h => absurd h (by decide)) (fun _ => ?_)
        refine ev_iload (pc' := 30) dX7_table_28 rfl rfl ?_
        refine ev_iret dX7_table_30 rfl rfl ⟨Nat.le_refl _, Nat.le_refl _⟩ ?_
        exact k5 n2 hn2 rfl n4 hn4 rfl j17 h18 rfl h20 h21 h22
      · subst e25
        refine ev_istore (pc' := 23) (lv' := [some (.ref 3), some (.int (nI j23)), some (.int (nI n2)), some (.int (nI n4)), some (.int (-1))]) dX7_table_21 rfl (Nat.le_of_ble_eq_true rfl) rfl rfl ?_
        refine ev_iload (pc' := 25) dX7_table_23 rfl rfl ?_
        refine ev_if_eq (tgt := 31) (pc' := 28) dX7_table_25 rfl rfl (fun h => absurd h (by decide)) (fun _ => ?_)
        refine ev_iload (pc' := 30) dX7_table_28 rfl rfl ?_
        refine ev_iret dX7_table_30 rfl rfl ⟨Nat.le_refl _, Nat.le_refl _⟩ ?_
        exact k6 n2 hn2 rfl n4 hn4 rfl j23 h24 rfl h26
    · refine ev_iconst (pc' := 15) (v := (-1)) dX7_table_14 rfl ki_m1 ?_
      refine ev_iret dX7_table_15 rfl rfl ⟨Nat.le_refl _, Nat.le_refl _⟩ ?_
      exact k7 n2 hn2 rfl c3
set_option maxRecDepth 4000 in
theorem t_X7_sheet {g : ma_G} {Post : ma_P} {I : ma_I} {L : ma_L}  (s : Int32) (n : Int32)  (k1 : ((s < 0) ∨ (¬ s < 8)) → Post (some (.int (-1))) HS I L RF 146) (k2 : ∀ n2 : Nat, (n2 < 8) → s = nI n2 → (n ≤ 16) → (0 ≤ n) → Post (some (.int n)) HS (cBg I (39 + 2 * n2) (40 + 2 * n2) n) L RF 146) (k3 : ∀ n2 : Nat, (n2 < 8) → s = nI n2 → (n ≤ 16) → (¬ 0 ≤ n) → Post (some (.int (-3))) HS (cRf I 5) L RF 146) (k4 : ∀ n2 : Nat, (n2 < 8) → s = nI n2 → (¬ n ≤ 16) → Post (some (.int (-1))) HS I L RF 146) : CT g yX7_sheet cX7_sheet 3 (some .int) rX7_sheet [.ref 3, .int s, .int n] Post HS I L RF 146 := by
  refine ct_of (lv := [some (.ref 3), some (.int s), some (.int n)]) (by decide) (Nat.le_of_ble_eq_true rfl) rfl ?_
  refine ev_iload_n (pc' := 1) (i := 1) dX7_sheet_0 rfl rfl rfl ?_
  refine ev_callS (pc' := 4) (rm' := rX7_noSheet) (av := [.int s]) (rest := []) co_X7_75 cs_X7_noSheet dX7_sheet_1 rfl rfl rfl (Nat.le_of_ble_eq_true rfl) ⟨(Nat.le_of_ble_eq_true rfl), (Nat.le_of_ble_eq_true rfl)⟩ ⟨(Nat.le_of_ble_eq_true rfl), (Nat.le_of_ble_eq_true rfl)⟩ ?_
  refine t_X7_noSheet s  ?_
  refine ev_if_ne_b (tgt := 13) (pc' := 7) dX7_sheet_4 rfl rfl (fun c1 => ?_) (fun c1 => ?_)
  · refine ev_iconst (pc' := 14) (v := (-1)) dX7_sheet_13 rfl ki_m1 ?_
    refine ev_iret dX7_sheet_14 rfl rfl ⟨Nat.le_refl _, Nat.le_refl _⟩ ?_
    exact k1 c1
  · obtain ⟨n2, hn2, en2⟩ := in_ofn (n := 8) (by omega) rfl c1
    subst en2
    refine ev_iload_n (pc' := 8) (i := 2) dX7_sheet_7 rfl rfl rfl ?_
    refine ev_bipush (pc' := 10) (v := 16) dX7_sheet_8 rfl kb_16 ?_
    refine ev_icmp_le (tgt := 15) (pc' := 13) dX7_sheet_10 rfl rfl (fun c3 => ?_) (fun c3 => ?_)
    · refine ev_iload_n (pc' := 16) (i := 2) dX7_sheet_15 rfl rfl rfl ?_
      refine ev_if_ge (tgt := 25) (pc' := 19) dX7_sheet_16 rfl rfl (fun c4 => ?_) (fun c4 => ?_)
      · refine ev_aload_n (pc' := 26) (i := 0) dX7_sheet_25 rfl rfl rfl ?_
        refine ev_getR (pc' := 29) fo_X7_11 dX7_sheet_26 rfl hs_3 rfl rf_3_0 ?_
        refine ev_iload_n (pc' := 30) (i := 1) dX7_sheet_29 rfl rfl rfl ?_
        refine ev_aald (pc' := 31) (j := n2) (b := 39 + 2 * n2) dX7_sheet_30 rfl hs_4 (Or.inl rfl) rfl (by omega) (Nat.le_of_ble_eq_true rfl) (hs_sheet n2 (by omega)).2.2.2 ?_
        refine ev_iload_n (pc' := 32) (i := 2) dX7_sheet_31 rfl rfl rfl ?_
        refine ev_callV (pc' := 35) (rm' := rX3_begin) (b := 39 + 2 * n2) (av := [.int n]) (rest := []) co_X7_83 ci_X3_begin cv_X3_begin dX7_sheet_32 rfl (hs_sheet n2 (by omega)).1 hb_X3 rfl rfl (Nat.le_of_ble_eq_true rfl) ⟨(Nat.le_of_ble_eq_true rfl), (Nat.le_of_ble_eq_true rfl)⟩ ⟨(Nat.le_of_ble_eq_true rfl), (Nat.le_of_ble_eq_true rfl)⟩ ?_
        refine t_X3_begin (39 + 2 * n2) (40 + 2 * n2) (hs_sheet n2 (by omega)).1 (hs_sheet n2 (by omega)).2.2.1 (hs_sheet n2 (by omega)).2.1 (by omega) n ?_
        refine ev_iload_n (pc' := 36) (i := 2) dX7_sheet_35 rfl rfl rfl ?_
        refine ev_iret dX7_sheet_36 rfl rfl ⟨Nat.le_refl _, Nat.le_refl _⟩ ?_
        exact k2 n2 hn2 rfl c3 c4
      · refine ev_aload_n (pc' := 20) (i := 0) dX7_sheet_19 rfl rfl rfl ?_
        refine ev_iconst (pc' := 21) (v := 5) dX7_sheet_20 rfl ki_5 ?_
        refine ev_callV (pc' := 24) (rm' := rX7_refuse) (b := 3) (av := [.int 5]) (rest := []) co_X7_79 ci_X7_refuse cv_X7_refuse dX7_sheet_21 rfl hs_3 hb_X7 rfl rfl (Nat.le_of_ble_eq_true rfl) ⟨(Nat.le_of_ble_eq_true rfl), (Nat.le_of_ble_eq_true rfl)⟩ ⟨(Nat.le_of_ble_eq_true rfl), (Nat.le_of_ble_eq_true rfl)⟩ ?_
        refine t_X7_refuse5 ?_
        refine ev_cRf 5 ?_
        refine ev_iret dX7_sheet_24 rfl rfl ⟨Nat.le_refl _, Nat.le_refl _⟩ ?_
        exact k3 n2 hn2 rfl c3 c4
    · refine ev_iconst (pc' := 14) (v := (-1)) dX7_sheet_13 rfl ki_m1 ?_
      refine ev_iret dX7_sheet_14 rfl rfl ⟨Nat.le_refl _, Nat.le_refl _⟩ ?_
      exact k4 n2 hn2 rfl c3
set_option maxRecDepth 4000 in
theorem t_X7_tear {g : ma_G} {Post : ma_P} {I : ma_I} {L : ma_L}  (s : Int32)  (k1 : ∀ n2 : Nat, (n2 < 8) → s = nI n2 → (¬ (¬ 0 ≤ ((I (39 + 2 * n2)) 1))) → Post (some (.int 1)) HS (cBg I (39 + 2 * n2) (40 + 2 * n2) (-1)) L RF 146) (k2 : ∀ n2 : Nat, (n2 < 8) → s = nI n2 → (¬ 0 ≤ ((I (39 + 2 * n2)) 1)) → Post (some (.int (-3))) HS (cRf I 1) L RF 146) (k3 : ((s < 0) ∨ (¬ s < 8)) → Post (some (.int (-1))) HS I L RF 146) : CT g yX7_tear cX7_tear 2 (some .int) rX7_tear [.ref 3, .int s] Post HS I L RF 146 := by
  refine ct_of (lv := [some (.ref 3), some (.int s)]) (by decide) (Nat.le_of_ble_eq_true rfl) rfl ?_
  refine ev_iload_n (pc' := 1) (i := 1) dX7_tear_0 rfl rfl rfl ?_
  refine ev_callS (pc' := 4) (rm' := rX7_noSheet) (av := [.int s]) (rest := []) co_X7_75 cs_X7_noSheet dX7_tear_1 rfl rfl rfl (Nat.le_of_ble_eq_true rfl) ⟨(Nat.le_of_ble_eq_true rfl), (Nat.le_of_ble_eq_true rfl)⟩ ⟨(Nat.le_of_ble_eq_true rfl), (Nat.le_of_ble_eq_true rfl)⟩ ?_
  refine t_X7_noSheet s  ?_
  refine ev_if_eq_b (tgt := 9) (pc' := 7) dX7_tear_4 rfl rfl (fun c1 => ?_) (fun c1 => ?_)
  · obtain ⟨n2, hn2, en2⟩ := in_ofn (n := 8) (by omega) rfl c1
    subst en2
    refine ev_aload_n (pc' := 10) (i := 0) dX7_tear_9 rfl rfl rfl ?_
    refine ev_getR (pc' := 13) fo_X7_11 dX7_tear_10 rfl hs_3 rfl rf_3_0 ?_
    refine ev_iload_n (pc' := 14) (i := 1) dX7_tear_13 rfl rfl rfl ?_
    refine ev_aald (pc' := 15) (j := n2) (b := 39 + 2 * n2) dX7_tear_14 rfl hs_4 (Or.inl rfl) rfl (by omega) (Nat.le_of_ble_eq_true rfl) (hs_sheet n2 (by omega)).2.2.2 ?_
    refine ev_callV (pc' := 18) (rm' := rX3_missing) (b := 39 + 2 * n2) (av := []) (rest := []) co_X7_87 ci_X3_missing cv_X3_missing dX7_tear_15 rfl (hs_sheet n2 (by omega)).1 hb_X3 rfl rfl (Nat.le_of_ble_eq_true rfl) ⟨(Nat.le_of_ble_eq_true rfl), (Nat.le_of_ble_eq_true rfl)⟩ ⟨(Nat.le_of_ble_eq_true rfl), (Nat.le_of_ble_eq_true rfl)⟩ ?_
    refine t_X3_missing (39 + 2 * n2) (40 + 2 * n2) (hs_sheet n2 (by omega)).1 (hs_sheet n2 (by omega)).2.2.1 (hs_sheet n2 (by omega)).2.1 (by omega) ?_
    refine ev_if_eq_b (tgt := 27) (pc' := 21) dX7_tear_18 rfl rfl (fun c3 => ?_) (fun c3 => ?_)
    · refine ev_aload_n (pc' := 28) (i := 0) dX7_tear_27 rfl rfl rfl ?_
      refine ev_getR (pc' := 31) fo_X7_11 dX7_tear_28 rfl hs_3 rfl rf_3_0 ?_
      refine ev_iload_n (pc' := 32) (i := 1) dX7_tear_31 rfl rfl rfl ?_
      refine ev_aald (pc' := 33) (j := n2) (b := 39 + 2 * n2) dX7_tear_32 rfl hs_4 (Or.inl rfl) rfl (by omega) (Nat.le_of_ble_eq_true rfl) (hs_sheet n2 (by omega)).2.2.2 ?_
      refine ev_callV (pc' := 36) (rm' := rX3_end) (b := 39 + 2 * n2) (av := []) (rest := []) co_X7_101 ci_X3_end cv_X3_end dX7_tear_33 rfl (hs_sheet n2 (by omega)).1 hb_X3 rfl rfl (Nat.le_of_ble_eq_true rfl) ⟨(Nat.le_of_ble_eq_true rfl), (Nat.le_of_ble_eq_true rfl)⟩ ⟨(Nat.le_of_ble_eq_true rfl), (Nat.le_of_ble_eq_true rfl)⟩ ?_
      refine t_X3_end (39 + 2 * n2) (40 + 2 * n2) (hs_sheet n2 (by omega)).1 (hs_sheet n2 (by omega)).2.2.1 (hs_sheet n2 (by omega)).2.1 (by omega)  ?_
      refine ev_iconst (pc' := 37) (v := 1) dX7_tear_36 rfl ki_1 ?_
      refine ev_iret dX7_tear_37 rfl rfl ⟨Nat.le_refl _, Nat.le_refl _⟩ ?_
      exact k1 n2 hn2 rfl c3
    · refine ev_aload_n (pc' := 22) (i := 0) dX7_tear_21 rfl rfl rfl ?_
      refine ev_iconst (pc' := 23) (v := 1) dX7_tear_22 rfl ki_1 ?_
      refine ev_callV (pc' := 26) (rm' := rX7_refuse) (b := 3) (av := [.int 1]) (rest := []) co_X7_79 ci_X7_refuse cv_X7_refuse dX7_tear_23 rfl hs_3 hb_X7 rfl rfl (Nat.le_of_ble_eq_true rfl) ⟨(Nat.le_of_ble_eq_true rfl), (Nat.le_of_ble_eq_true rfl)⟩ ⟨(Nat.le_of_ble_eq_true rfl), (Nat.le_of_ble_eq_true rfl)⟩ ?_
      refine t_X7_refuse1 ?_
      refine ev_cRf 1 ?_
      refine ev_iret dX7_tear_26 rfl rfl ⟨Nat.le_refl _, Nat.le_refl _⟩ ?_
      exact k2 n2 hn2 rfl c3
  · refine ev_iconst (pc' := 8) (v := (-1)) dX7_tear_7 rfl ki_m1 ?_
    refine ev_iret dX7_tear_8 rfl rfl ⟨Nat.le_refl _, Nat.le_refl _⟩ ?_
    exact k3 c1
