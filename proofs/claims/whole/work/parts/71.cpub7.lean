set_option maxRecDepth 4000 in
theorem t_X7_shared {g : ma_G} {Post : ma_P} {I : ma_I} {L : ma_L}  (q : Int32) (r : Int32) (n : Int32)  (k1 : (n < 0) → Post (some (.int (-1))) HS I L RF 146) (k2 : ∀ n3 : Nat, (0 ≤ n3) → (n3 < 11) → n = nI n3 → ((q < 0) ∨ (¬ q < 12)) → Post (some (.int (-1))) HS I L RF 146) (k3 : ∀ n3 : Nat, (0 ≤ n3) → (n3 < 11) → n = nI n3 → ∀ j5 : Nat, (j5 < 12) → q = nI j5 → ∀ j8 : Nat, (j8 < 12) → r = nI j8 → (((I (55 + 5 * j5)) 0) = 0) → Post (some (.int (-3))) HS (cRf I 1) L RF 146) (k4 : ∀ n3 : Nat, (0 ≤ n3) → (n3 < 11) → n = nI n3 → ∀ j12 : Nat, (j12 < 12) → q = nI j12 → ∀ j15 : Nat, (j15 < 12) → r = nI j15 → (¬ ((I (55 + 5 * j12)) 0) = 0) → (¬ ((I (55 + 5 * j15)) 0) = 0) → ∀ m32 : Nat, ∀ P33 : Nat → Int32, ∀ K34 : ma_L, (m32 ≤ 9261) → (∀ x, x ≠ 56 + 5 * j12 → x ≠ 56 + 5 * j15 → x ≠ 56 + 5 * j15 → K34 x = L x) → ((m32, P33) = cKx (L (57 + 5 * j12)) (L (57 + 5 * j15)) (L (57 + 5 * j15)) n3 (2 * n3 + 1) (0, I 33)) → Post (some (.int (nI m32))) HS (ma_up (ma_up I 32 (ma_up (I 32) 1 (nI m32))) 33 P33) K34 RF 146) (k5 : ∀ n3 : Nat, (0 ≤ n3) → (n3 < 11) → n = nI n3 → ∀ j20 : Nat, (j20 < 12) → q = nI j20 → ∀ j23 : Nat, (j23 < 12) → r = nI j23 → (¬ ((I (55 + 5 * j20)) 0) = 0) → (((I (55 + 5 * j23)) 0) = 0) → Post (some (.int (-3))) HS (cRf I 1) L RF 146) (k6 : ∀ n3 : Nat, (0 ≤ n3) → (n3 < 11) → n = nI n3 → ∀ j28 : Nat, (j28 < 12) → q = nI j28 → ((r < 0) ∨ (¬ r < 12)) → Post (some (.int (-1))) HS I L RF 146) (k7 : (¬ n < 0) → (¬ n ≤ 10) → Post (some (.int (-1))) HS I L RF 146) : CT g yX7_shared cX7_shared 5 (some .int) rX7_shared [.ref 3, .int q, .int r, .int n] Post HS I L RF 146 := by
  refine ct_of (lv := [some (.ref 3), some (.int q), some (.int r), some (.int n), none]) (by decide) (Nat.le_of_ble_eq_true rfl) rfl ?_
  refine ev_iload_n (pc' := 1) (i := 3) dX7_shared_0 rfl rfl rfl ?_
  refine ev_if_lt (tgt := 10) (pc' := 4) dX7_shared_1 rfl rfl (fun c1 => ?_) (fun c1 => ?_)
  · refine ev_iconst (pc' := 11) (v := (-1)) dX7_shared_10 rfl ki_m1 ?_
    refine ev_iret dX7_shared_11 rfl rfl ⟨Nat.le_refl _, Nat.le_refl _⟩ ?_
    exact k1 c1
  · refine ev_iload_n (pc' := 5) (i := 3) dX7_shared_4 rfl rfl rfl ?_
    refine ev_bipush (pc' := 7) (v := 10) dX7_shared_5 rfl kb_10 ?_
    refine ev_icmp_le (tgt := 12) (pc' := 10) dX7_shared_7 rfl rfl (fun c2 => ?_) (fun c2 => ?_)
    · obtain ⟨n3, gn3, hn3, en3⟩ := nat_of (x := n) (lo := 0) (hi := 11) (by have q := c1; rw [nb_lt] at q; have z : (0 : Int32).toInt = 0 := (by decide); omega) (by have q := c2; rw [nb_le] at q; have z : (10 : Int32).toInt = 10 := (by decide); omega) (by omega)
      subst en3
      refine ev_aload_n (pc' := 13) (i := 0) dX7_shared_12 rfl rfl rfl ?_
      refine ev_iload_n (pc' := 14) (i := 1) dX7_shared_13 rfl rfl rfl ?_
      refine ev_iload_n (pc' := 15) (i := 2) dX7_shared_14 rfl rfl rfl ?_
      refine ev_callV (pc' := 18) (rm' := rX7_refusedPair) (b := 3) (av := [.int q, .int r]) (rest := []) co_X7_196 ci_X7_refusedPair cv_X7_refusedPair dX7_shared_15 rfl hs_3 hb_X7 rfl rfl (Nat.le_of_ble_eq_true rfl) ⟨(Nat.le_of_ble_eq_true rfl), (Nat.le_of_ble_eq_true rfl)⟩ ⟨(Nat.le_of_ble_eq_true rfl), (Nat.le_of_ble_eq_true rfl)⟩ ?_
      refine t_X7_refusedPair q r  (fun h4 => ?_) (fun j5 h6 e7 j8 h9 e10 h11 => ?_) (fun j12 h13 e14 j15 h16 e17 h18 h19 => ?_) (fun j20 h21 e22 j23 h24 e25 h26 h27 => ?_) (fun j28 h29 e30 h31 => ?_)
      · skip
        refine ev_istore (pc' := 20) (lv' := [some (.ref 3), some (.int q), some (.int r), some (.int (nI n3)), some (.int (-1))]) dX7_shared_18 rfl (Nat.le_of_ble_eq_true rfl) rfl rfl ?_
        refine ev_iload (pc' := 22) dX7_shared_20 rfl rfl ?_
        refine ev_if_eq (tgt := 28) (pc' := 25) dX7_shared_22 rfl rfl (fun h => absurd h (by decide)) (fun _ => ?_)
        refine ev_iload (pc' := 27) dX7_shared_25 rfl rfl ?_
        refine ev_iret dX7_shared_27 rfl rfl ⟨Nat.le_refl _, Nat.le_refl _⟩ ?_
        exact k2 n3 gn3 hn3 rfl h4
      · subst e7
        subst e10
        refine ev_istore (pc' := 20) (lv' := [some (.ref 3), some (.int (nI j5)), some (.int (nI j8)), some (.int (nI n3)), some (.int (-3))]) dX7_shared_18 rfl (Nat.le_of_ble_eq_true rfl) rfl rfl ?_
        refine ev_iload (pc' := 22) dX7_shared_20 rfl rfl ?_
        refine ev_if_eq (tgt := 28) (pc' := 25) dX7_shared_22 rfl rfl (fun h => absurd h (by decide)) (fun _ => ?_)
        refine ev_iload (pc' := 27) dX7_shared_25 rfl rfl ?_
        refine ev_iret dX7_shared_27 rfl rfl ⟨Nat.le_refl _, Nat.le_refl _⟩ ?_
        exact k3 n3 gn3 hn3 rfl j5 h6 rfl j8 h9 rfl h11
      · subst e14
        subst e17
        refine ev_istore (pc' := 20) (lv' := [some (.ref 3), some (.int (nI j12)), some (.int (nI j15)), some (.int (nI n3)), some (.int 0)]) dX7_shared_18 rfl (Nat.le_of_ble_eq_true rfl) rfl rfl ?_
        refine ev_iload (pc' := 22) dX7_shared_20 rfl rfl ?_
        refine ev_if_eq (tgt := 28) (pc' := 25) dX7_shared_22 rfl rfl (fun _ => ?_) (fun h => absurd (by decide) h)
        refine ev_aload_n (pc' := 29) (i := 0) dX7_shared_28 rfl rfl rfl ?_
        refine ev_getR (pc' := 32) fo_X7_48 dX7_shared_29 rfl hs_3 rfl rf_3_6 ?_
        refine ev_aload_n (pc' := 33) (i := 0) dX7_shared_32 rfl rfl rfl ?_
        refine ev_getR (pc' := 36) fo_X7_17 dX7_shared_33 rfl hs_3 rfl rf_3_1 ?_
        refine ev_iload_n (pc' := 37) (i := 1) dX7_shared_36 rfl rfl rfl ?_
        refine ev_aald (pc' := 38) (j := j12) (b := 55 + 5 * j12) dX7_shared_37 rfl hs_5 (Or.inr rfl) rfl (by omega) (Nat.le_of_ble_eq_true rfl) (hs_ground j12 (by omega)).2.2.2.2.2.2.2.2.2 ?_
        refine ev_getR (pc' := 41) fo_X7_141 dX7_shared_38 rfl (hs_ground j12 (by omega)).1 rfl (hs_ground j12 (by omega)).2.2.2.2.2.1 ?_
        refine ev_aload_n (pc' := 42) (i := 0) dX7_shared_41 rfl rfl rfl ?_
        refine ev_getR (pc' := 45) fo_X7_17 dX7_shared_42 rfl hs_3 rfl rf_3_1 ?_
        refine ev_iload_n (pc' := 46) (i := 2) dX7_shared_45 rfl rfl rfl ?_
        refine ev_aald (pc' := 47) (j := j15) (b := 55 + 5 * j15) dX7_shared_46 rfl hs_5 (Or.inr rfl) rfl (by omega) (Nat.le_of_ble_eq_true rfl) (hs_ground j15 (by omega)).2.2.2.2.2.2.2.2.2 ?_
        refine ev_getR (pc' := 50) fo_X7_141 dX7_shared_47 rfl (hs_ground j15 (by omega)).1 rfl (hs_ground j15 (by omega)).2.2.2.2.2.1 ?_
        refine ev_aload_n (pc' := 51) (i := 0) dX7_shared_50 rfl rfl rfl ?_
        refine ev_getR (pc' := 54) fo_X7_17 dX7_shared_51 rfl hs_3 rfl rf_3_1 ?_
        refine ev_iload_n (pc' := 55) (i := 2) dX7_shared_54 rfl rfl rfl ?_
        refine ev_aald (pc' := 56) (j := j15) (b := 55 + 5 * j15) dX7_shared_55 rfl hs_5 (Or.inr rfl) rfl (by omega) (Nat.le_of_ble_eq_true rfl) (hs_ground j15 (by omega)).2.2.2.2.2.2.2.2.2 ?_
        refine ev_getR (pc' := 59) fo_X7_141 dX7_shared_56 rfl (hs_ground j15 (by omega)).1 rfl (hs_ground j15 (by omega)).2.2.2.2.2.1 ?_
        refine ev_iload_n (pc' := 60) (i := 3) dX7_shared_59 rfl rfl rfl ?_
        refine ev_callV (pc' := 63) (rm' := rX2_seek) (b := 32) (av := [.ref (56 + 5 * j12), .ref (56 + 5 * j15), .ref (56 + 5 * j15), .int (nI n3)]) (rest := []) co_X7_318 ci_X2_seek cv_X2_seek dX7_shared_60 rfl hs_32 hb_X2 rfl rfl (Nat.le_of_ble_eq_true rfl) ⟨(Nat.le_of_ble_eq_true rfl), (Nat.le_of_ble_eq_true rfl)⟩ ⟨(Nat.le_of_ble_eq_true rfl), (Nat.le_of_ble_eq_true rfl)⟩ ?_
        refine t_X2_seek (56 + 5 * j12) (56 + 5 * j15) (56 + 5 * j15) n3 (57 + 5 * j12) (hs_ground j12 (by omega)).2.1 (hs_ground j12 (by omega)).2.2.2.2.2.2.2.1 (hs_ground j12 (by omega)).2.2.1 (57 + 5 * j15) (hs_ground j15 (by omega)).2.1 (hs_ground j15 (by omega)).2.2.2.2.2.2.2.1 (hs_ground j15 (by omega)).2.2.1 (57 + 5 * j15) (hs_ground j15 (by omega)).2.1 (hs_ground j15 (by omega)).2.2.2.2.2.2.2.1 (hs_ground j15 (by omega)).2.2.1 ⟨by omega, by omega, by omega⟩ ⟨by omega, by omega, by omega⟩ ⟨by omega, by omega, by omega⟩ (fun q => by omega) (fun q => by omega) (fun q => by omega) (by omega) (fun m32 P33 K34 h35 h36 h37 => ?_)
        refine ev_iret dX7_shared_63 rfl rfl ⟨Nat.le_refl _, Nat.le_refl _⟩ ?_
        exact k4 n3 gn3 hn3 rfl j12 h13 rfl j15 h16 rfl h18 h19 m32 P33 K34 h35 h36 h37
      · subst e22
        subst e25
        refine ev_istore (pc' := 20) (lv' := [some (.ref 3), some (.int (nI j20)), some (.int (nI j23)), some (.int (nI n3)), some (.int (-3))]) dX7_shared_18 rfl (Nat.le_of_ble_eq_true rfl) rfl rfl ?_
        refine ev_iload (pc' := 22) dX7_shared_20 rfl rfl ?_
        refine ev_if_eq (tgt := 28) (pc' := 25) dX7_shared_22 rfl rfl (fun h => absurd h (by decide)) (fun _ => ?_)
        refine ev_iload (pc' := 27) dX7_shared_25 rfl rfl ?_
        refine ev_iret dX7_shared_27 rfl rfl ⟨Nat.le_refl _, Nat.le_refl _⟩ ?_
        exact k5 n3 gn3 hn3 rfl j20 h21 rfl j23 h24 rfl h26 h27
      · subst e30
        refine ev_istore (pc' := 20) (lv' := [some (.ref 3), some (.int (nI j28)), some (.int r), some (.int (nI n3)), some (.int (-1))]) dX7_shared_18 rfl (Nat.le_of_ble_eq_true rfl) rfl rfl ?_
        refine ev_iload (pc' := 22) dX7_shared_20 rfl rfl ?_
        refine ev_if_eq (tgt := 28) (pc' := 25) dX7_shared_22 rfl rfl (fun h => absurd h (by decide)) (fun _ => ?_)
        refine ev_iload (pc' := 27) dX7_shared_25 rfl rfl ?_
        refine ev_iret dX7_shared_27 rfl rfl ⟨Nat.le_refl _, Nat.le_refl _⟩ ?_
        exact k6 n3 gn3 hn3 rfl j28 h29 rfl h31
    · refine ev_iconst (pc' := 11) (v := (-1)) dX7_shared_10 rfl ki_m1 ?_
      refine ev_iret dX7_shared_11 rfl rfl ⟨Nat.le_refl _, Nat.le_refl _⟩ ?_
      exact k7 c1 c2
set_option maxRecDepth 4000 in
theorem t_X7_shared3 {g : ma_G} {Post : ma_P} {I : ma_I} {L : ma_L}  (q : Int32) (r : Int32) (s : Int32) (n : Int32)  (k1 : ((q < 0) ∨ (¬ q < 12)) → Post (some (.int (-1))) HS I L RF 146) (k2 : ∀ n2 : Nat, (n2 < 12) → q = nI n2 → ((r < 0) ∨ (¬ r < 12)) → Post (some (.int (-1))) HS I L RF 146) (k3 : ∀ n2 : Nat, (n2 < 12) → q = nI n2 → ∀ n4 : Nat, (n4 < 12) → r = nI n4 → ((s < 0) ∨ (¬ s < 12)) → Post (some (.int (-1))) HS I L RF 146) (k4 : ∀ n2 : Nat, (n2 < 12) → q = nI n2 → ∀ n4 : Nat, (n4 < 12) → r = nI n4 → ∀ n6 : Nat, (n6 < 12) → s = nI n6 → (n < 0) → Post (some (.int (-1))) HS I L RF 146) (k5 : ∀ n2 : Nat, (n2 < 12) → q = nI n2 → ∀ n4 : Nat, (n4 < 12) → r = nI n4 → ∀ n6 : Nat, (n6 < 12) → s = nI n6 → ∀ n9 : Nat, (0 ≤ n9) → (n9 < 11) → n = nI n9 → (((I (55 + 5 * n2)) 0) = 0) → Post (some (.int (-3))) HS (cRf I 1) L RF 146) (k6 : ∀ n2 : Nat, (n2 < 12) → q = nI n2 → ∀ n4 : Nat, (n4 < 12) → r = nI n4 → ∀ n6 : Nat, (n6 < 12) → s = nI n6 → ∀ n9 : Nat, (0 ≤ n9) → (n9 < 11) → n = nI n9 → (¬ ((I (55 + 5 * n2)) 0) = 0) → (((I (55 + 5 * n4)) 0) = 0) → Post (some (.int (-3))) HS (cRf I 1) L RF 146) (k7 : ∀ n2 : Nat, (n2 < 12) → q = nI n2 → ∀ n4 : Nat, (n4 < 12) → r = nI n4 → ∀ n6 : Nat, (n6 < 12) → s = nI n6 → ∀ n9 : Nat, (0 ≤ n9) → (n9 < 11) → n = nI n9 → (¬ ((I (55 + 5 * n2)) 0) = 0) → (¬ ((I (55 + 5 * n4)) 0) = 0) → (¬ ((I (55 + 5 * n6)) 0) = 0) → ∀ m13 : Nat, ∀ P14 : Nat → Int32, ∀ K15 : ma_L, (m13 ≤ 9261) → (∀ x, x ≠ 56 + 5 * n2 → x ≠ 56 + 5 * n4 → x ≠ 56 + 5 * n6 → K15 x = L x) → ((m13, P14) = cKx (L (57 + 5 * n2)) (L (57 + 5 * n4)) (L (57 + 5 * n6)) n9 (2 * n9 + 1) (0, I 33)) → Post (some (.int (nI m13))) HS (ma_up (ma_up I 32 (ma_up (I 32) 1 (nI m13))) 33 P14) K15 RF 146) (k8 : ∀ n2 : Nat, (n2 < 12) → q = nI n2 → ∀ n4 : Nat, (n4 < 12) → r = nI n4 → ∀ n6 : Nat, (n6 < 12) → s = nI n6 → ∀ n9 : Nat, (0 ≤ n9) → (n9 < 11) → n = nI n9 → (¬ ((I (55 + 5 * n2)) 0) = 0) → (¬ ((I (55 + 5 * n4)) 0) = 0) → (((I (55 + 5 * n6)) 0) = 0) → Post (some (.int (-3))) HS (cRf I 1) L RF 146) (k9 : ∀ n2 : Nat, (n2 < 12) → q = nI n2 → ∀ n4 : Nat, (n4 < 12) → r = nI n4 → ∀ n6 : Nat, (n6 < 12) → s = nI n6 → (¬ n < 0) → (¬ n ≤ 10) → Post (some (.int (-1))) HS I L RF 146) : CT g yX7_shared3 cX7_shared3 5 (some .int) rX7_shared3 [.ref 3, .int q, .int r, .int s, .int n] Post HS I L RF 146 := by
  refine ct_of (lv := [some (.ref 3), some (.int q), some (.int r), some (.int s), some (.int n)]) (by decide) (Nat.le_of_ble_eq_true rfl) rfl ?_
  refine ev_iload_n (pc' := 1) (i := 1) dX7_shared3_0 rfl rfl rfl ?_
  refine ev_callS (pc' := 4) (rm' := rX7_noGround) (av := [.int q]) (rest := []) co_X7_114 cs_X7_noGround dX7_shared3_1 rfl rfl rfl (Nat.le_of_ble_eq_true rfl) ⟨(Nat.le_of_ble_eq_true rfl), (Nat.le_of_ble_eq_true rfl)⟩ ⟨(Nat.le_of_ble_eq_true rfl), (Nat.le_of_ble_eq_true rfl)⟩ ?_
  refine t_X7_noGround q  ?_
  refine ev_if_ne_b (tgt := 33) (pc' := 7) dX7_shared3_4 rfl rfl (fun c1 => ?_) (fun c1 => ?_)
  · refine ev_iconst (pc' := 34) (v := (-1)) dX7_shared3_33 rfl ki_m1 ?_
    refine ev_iret dX7_shared3_34 rfl rfl ⟨Nat.le_refl _, Nat.le_refl _⟩ ?_
    exact k1 c1
  · obtain ⟨n2, hn2, en2⟩ := in_ofn (n := 12) (by omega) rfl c1
    subst en2
    refine ev_iload_n (pc' := 8) (i := 2) dX7_shared3_7 rfl rfl rfl ?_
    refine ev_callS (pc' := 11) (rm' := rX7_noGround) (av := [.int r]) (rest := []) co_X7_114 cs_X7_noGround dX7_shared3_8 rfl rfl rfl (Nat.le_of_ble_eq_true rfl) ⟨(Nat.le_of_ble_eq_true rfl), (Nat.le_of_ble_eq_true rfl)⟩ ⟨(Nat.le_of_ble_eq_true rfl), (Nat.le_of_ble_eq_true rfl)⟩ ?_
    refine t_X7_noGround r  ?_
    refine ev_if_ne_b (tgt := 33) (pc' := 14) dX7_shared3_11 rfl rfl (fun c3 => ?_) (fun c3 => ?_)
    · refine ev_iconst (pc' := 34) (v := (-1)) dX7_shared3_33 rfl ki_m1 ?_
      refine ev_iret dX7_shared3_34 rfl rfl ⟨Nat.le_refl _, Nat.le_refl _⟩ ?_
      exact k2 n2 hn2 rfl c3
    · obtain ⟨n4, hn4, en4⟩ := in_ofn (n := 12) (by omega) rfl c3
      subst en4
      refine ev_iload_n (pc' := 15) (i := 3) dX7_shared3_14 rfl rfl rfl ?_
      refine ev_callS (pc' := 18) (rm' := rX7_noGround) (av := [.int s]) (rest := []) co_X7_114 cs_X7_noGround dX7_shared3_15 rfl rfl rfl (Nat.le_of_ble_eq_true rfl) ⟨(Nat.le_of_ble_eq_true rfl), (Nat.le_of_ble_eq_true rfl)⟩ ⟨(Nat.le_of_ble_eq_true rfl), (Nat.le_of_ble_eq_true rfl)⟩ ?_
      refine t_X7_noGround s  ?_
      refine ev_if_ne_b (tgt := 33) (pc' := 21) dX7_shared3_18 rfl rfl (fun c5 => ?_) (fun c5 => ?_)
      · refine ev_iconst (pc' := 34) (v := (-1)) dX7_shared3_33 rfl ki_m1 ?_
        refine ev_iret dX7_shared3_34 rfl rfl ⟨Nat.le_refl _, Nat.le_refl _⟩ ?_
        exact k3 n2 hn2 rfl n4 hn4 rfl c5
      · obtain ⟨n6, hn6, en6⟩ := in_ofn (n := 12) (by omega) rfl c5
        subst en6
        refine ev_iload (pc' := 23) dX7_shared3_21 rfl rfl ?_
        refine ev_if_lt (tgt := 33) (pc' := 26) dX7_shared3_23 rfl rfl (fun c7 => ?_) (fun c7 => ?_)
        · refine ev_iconst (pc' := 34) (v := (-1)) dX7_shared3_33 rfl ki_m1 ?_
          refine ev_iret dX7_shared3_34 rfl rfl ⟨Nat.le_refl _, Nat.le_refl _⟩ ?_
          exact k4 n2 hn2 rfl n4 hn4 rfl n6 hn6 rfl c7
        · refine ev_iload (pc' := 28) dX7_shared3_26 rfl rfl ?_
          refine ev_bipush (pc' := 30) (v := 10) dX7_shared3_28 rfl kb_10 ?_
          refine ev_icmp_le (tgt := 35) (pc' := 33) dX7_shared3_30 rfl rfl (fun c8 => ?_) (fun c8 => ?_)
          · obtain ⟨n9, gn9, hn9, en9⟩ := nat_of (x := n) (lo := 0) (hi := 11) (by have q := c7; rw [nb_lt] at q; have z : (0 : Int32).toInt = 0 := (by decide); omega) (by have q := c8; rw [nb_le] at q; have z : (10 : Int32).toInt = 10 := (by decide); omega) (by omega)
            subst en9
            refine ev_aload_n (pc' := 36) (i := 0) dX7_shared3_35 rfl rfl rfl ?_
            refine ev_getR (pc' := 39) fo_X7_17 dX7_shared3_36 rfl hs_3 rfl rf_3_1 ?_
            refine ev_iload_n (pc' := 40) (i := 1) dX7_shared3_39 rfl rfl rfl ?_
            refine ev_aald (pc' := 41) (j := n2) (b := 55 + 5 * n2) dX7_shared3_40 rfl hs_5 (Or.inr rfl) rfl (by omega) (Nat.le_of_ble_eq_true rfl) (hs_ground n2 (by omega)).2.2.2.2.2.2.2.2.2 ?_
            refine ev_getI (pc' := 44) (v := (I (55 + 5 * n2)) 0) fo_X7_134 dX7_shared3_41 rfl (hs_ground n2 (by omega)).1 rfl rfl ?_
            refine ev_if_eq (tgt := 71) (pc' := 47) dX7_shared3_44 rfl rfl (fun c10 => ?_) (fun c10 => ?_)
            · refine ev_aload_n (pc' := 72) (i := 0) dX7_shared3_71 rfl rfl rfl ?_
              refine ev_iconst (pc' := 73) (v := 1) dX7_shared3_72 rfl ki_1 ?_
              refine ev_callV (pc' := 76) (rm' := rX7_refuse) (b := 3) (av := [.int 1]) (rest := []) co_X7_79 ci_X7_refuse cv_X7_refuse dX7_shared3_73 rfl hs_3 hb_X7 rfl rfl (Nat.le_of_ble_eq_true rfl) ⟨(Nat.le_of_ble_eq_true rfl), (Nat.le_of_ble_eq_true rfl)⟩ ⟨(Nat.le_of_ble_eq_true rfl), (Nat.le_of_ble_eq_true rfl)⟩ ?_
              refine t_X7_refuse1 ?_
              refine ev_cRf 1 ?_
              refine ev_iret dX7_shared3_76 rfl rfl ⟨Nat.le_refl _, Nat.le_refl _⟩ ?_
              exact k5 n2 hn2 rfl n4 hn4 rfl n6 hn6 rfl n9 gn9 hn9 rfl c10
            · refine ev_aload_n (pc' := 48) (i := 0) dX7_shared3_47 rfl rfl rfl ?_
              refine ev_getR (pc' := 51) fo_X7_17 dX7_shared3_48 rfl hs_3 rfl rf_3_1 ?_
              refine ev_iload_n (pc' := 52) (i := 2) dX7_shared3_51 rfl rfl rfl ?_
              refine ev_aald (pc' := 53) (j := n4) (b := 55 + 5 * n4) dX7_shared3_52 rfl hs_5 (Or.inr rfl) rfl (by omega) (Nat.le_of_ble_eq_true rfl) (hs_ground n4 (by omega)).2.2.2.2.2.2.2.2.2 ?_
              refine ev_getI (pc' := 56) (v := (I (55 + 5 * n4)) 0) fo_X7_134 dX7_shared3_53 rfl (hs_ground n4 (by omega)).1 rfl rfl ?_
              refine ev_if_eq (tgt := 71) (pc' := 59) dX7_shared3_56 rfl rfl (fun c11 => ?_) (fun c11 => ?_)
              · refine ev_aload_n (pc' := 72) (i := 0) dX7_shared3_71 rfl rfl rfl ?_
                refine ev_iconst (pc' := 73) (v := 1) dX7_shared3_72 rfl ki_1 ?_
                refine ev_callV (pc' := 76) (rm' := rX7_refuse) (b := 3) (av := [.int 1]) (rest := []) co_X7_79 ci_X7_refuse cv_X7_refuse dX7_shared3_73 rfl hs_3 hb_X7 rfl rfl (Nat.le_of_ble_eq_true rfl) ⟨(Nat.le_of_ble_eq_true rfl), (Nat.le_of_ble_eq_true rfl)⟩ ⟨(Nat.le_of_ble_eq_true rfl), (Nat.le_of_ble_eq_true rfl)⟩ ?_
                refine t_X7_refuse1 ?_
                refine ev_cRf 1 ?_
                refine ev_iret dX7_shared3_76 rfl rfl ⟨Nat.le_refl _, Nat.le_refl _⟩ ?_
                exact k6 n2 hn2 rfl n4 hn4 rfl n6 hn6 rfl n9 gn9 hn9 rfl c10 c11
              · refine ev_aload_n (pc' := 60) (i := 0) dX7_shared3_59 rfl rfl rfl ?_
                refine ev_getR (pc' := 63) fo_X7_17 dX7_shared3_60 rfl hs_3 rfl rf_3_1 ?_
                refine ev_iload_n (pc' := 64) (i := 3) dX7_shared3_63 rfl rfl rfl ?_
                refine ev_aald (pc' := 65) (j := n6) (b := 55 + 5 * n6) dX7_shared3_64 rfl hs_5 (Or.inr rfl) rfl (by omega) (Nat.le_of_ble_eq_true rfl) (hs_ground n6 (by omega)).2.2.2.2.2.2.2.2.2 ?_
                refine ev_getI (pc' := 68) (v := (I (55 + 5 * n6)) 0) fo_X7_134 dX7_shared3_65 rfl (hs_ground n6 (by omega)).1 rfl rfl ?_
                refine ev_if_ne (tgt := 77) (pc' := 71) dX7_shared3_68 rfl rfl (fun c12 => ?_) (fun c12 => ?_)
                · refine ev_aload_n (pc' := 78) (i := 0) dX7_shared3_77 rfl rfl rfl ?_
                  refine ev_getR (pc' := 81) fo_X7_48 dX7_shared3_78 rfl hs_3 rfl rf_3_6 ?_
                  refine ev_aload_n (pc' := 82) (i := 0) dX7_shared3_81 rfl rfl rfl ?_
                  refine ev_getR (pc' := 85) fo_X7_17 dX7_shared3_82 rfl hs_3 rfl rf_3_1 ?_
                  refine ev_iload_n (pc' := 86) (i := 1) dX7_shared3_85 rfl rfl rfl ?_
                  refine ev_aald (pc' := 87) (j := n2) (b := 55 + 5 * n2) dX7_shared3_86 rfl hs_5 (Or.inr rfl) rfl (by omega) (Nat.le_of_ble_eq_true rfl) (hs_ground n2 (by omega)).2.2.2.2.2.2.2.2.2 ?_
                  refine ev_getR (pc' := 90) fo_X7_141 dX7_shared3_87 rfl (hs_ground n2 (by omega)).1 rfl (hs_ground n2 (by omega)).2.2.2.2.2.1 ?_
                  refine ev_aload_n (pc' := 91) (i := 0) dX7_shared3_90 rfl rfl rfl ?_
                  refine ev_getR (pc' := 94) fo_X7_17 dX7_shared3_91 rfl hs_3 rfl rf_3_1 ?_
                  refine ev_iload_n (pc' := 95) (i := 2) dX7_shared3_94 rfl rfl rfl ?_
                  refine ev_aald (pc' := 96) (j := n4) (b := 55 + 5 * n4) dX7_shared3_95 rfl hs_5 (Or.inr rfl) rfl (by omega) (Nat.le_of_ble_eq_true rfl) (hs_ground n4 (by omega)).2.2.2.2.2.2.2.2.2 ?_
                  refine ev_getR (pc' := 99) fo_X7_141 dX7_shared3_96 rfl (hs_ground n4 (by omega)).1 rfl (hs_ground n4 (by omega)).2.2.2.2.2.1 ?_
                  refine ev_aload_n (pc' := 100) (i := 0) dX7_shared3_99 rfl rfl rfl ?_
                  refine ev_getR (pc' := 103) fo_X7_17 dX7_shared3_100 rfl hs_3 rfl rf_3_1 ?_
                  refine ev_iload_n (pc' := 104) (i := 3) dX7_shared3_103 rfl rfl rfl ?_
                  refine ev_aald (pc' := 105) (j := n6) (b := 55 + 5 * n6) dX7_shared3_104 rfl hs_5 (Or.inr rfl) rfl (by omega) (Nat.le_of_ble_eq_true rfl) (hs_ground n6 (by omega)).2.2.2.2.2.2.2.2.2 ?_
                  refine ev_getR (pc' := 108) fo_X7_141 dX7_shared3_105 rfl (hs_ground n6 (by omega)).1 rfl (hs_ground n6 (by omega)).2.2.2.2.2.1 ?_
                  refine ev_iload (pc' := 110) dX7_shared3_108 rfl rfl ?_
                  refine ev_callV (pc' := 113) (rm' := rX2_seek) (b := 32) (av := [.ref (56 + 5 * n2), .ref (56 + 5 * n4), .ref (56 + 5 * n6), .int (nI n9)]) (rest := []) co_X7_318 ci_X2_seek cv_X2_seek dX7_shared3_110 rfl hs_32 hb_X2 rfl rfl (Nat.le_of_ble_eq_true rfl) ⟨(Nat.le_of_ble_eq_true rfl), (Nat.le_of_ble_eq_true rfl)⟩ ⟨(Nat.le_of_ble_eq_true rfl), (Nat.le_of_ble_eq_true rfl)⟩ ?_
                  refine t_X2_seek (56 + 5 * n2) (56 + 5 * n4) (56 + 5 * n6) n9 (57 + 5 * n2) (hs_ground n2 (by omega)).2.1 (hs_ground n2 (by omega)).2.2.2.2.2.2.2.1 (hs_ground n2 (by omega)).2.2.1 (57 + 5 * n4) (hs_ground n4 (by omega)).2.1 (hs_ground n4 (by omega)).2.2.2.2.2.2.2.1 (hs_ground n4 (by omega)).2.2.1 (57 + 5 * n6) (hs_ground n6 (by omega)).2.1 (hs_ground n6 (by omega)).2.2.2.2.2.2.2.1 (hs_ground n6 (by omega)).2.2.1 ⟨by omega, by omega, by omega⟩ ⟨by omega, by omega, by omega⟩ ⟨by omega, by omega, by omega⟩ (fun q => by omega) (fun q => by omega) (fun q => by omega) (by omega) (fun m13 P14 K15 h16 h17 h18 => ?_)
                  refine ev_iret dX7_shared3_113 rfl rfl ⟨Nat.le_refl _, Nat.le_refl _⟩ ?_
                  exact k7 n2 hn2 rfl n4 hn4 rfl n6 hn6 rfl n9 gn9 hn9 rfl c10 c11 c12 m13 P14 K15 h16 h17 h18
                · refine ev_aload_n (pc' := 72) (i := 0) dX7_shared3_71 rfl rfl rfl ?_
                  refine ev_iconst (pc' := 73) (v := 1) dX7_shared3_72 rfl ki_1 ?_
                  refine ev_callV (pc' := 76) (rm' := rX7_refuse) (b := 3) (av := [.int 1]) (rest := []) co_X7_79 ci_X7_refuse cv_X7_refuse dX7_shared3_73 rfl hs_3 hb_X7 rfl rfl (Nat.le_of_ble_eq_true rfl) ⟨(Nat.le_of_ble_eq_true rfl), (Nat.le_of_ble_eq_true rfl)⟩ ⟨(Nat.le_of_ble_eq_true rfl), (Nat.le_of_ble_eq_true rfl)⟩ ?_
                  refine t_X7_refuse1 ?_
                  refine ev_cRf 1 ?_
                  refine ev_iret dX7_shared3_76 rfl rfl ⟨Nat.le_refl _, Nat.le_refl _⟩ ?_
                  exact k8 n2 hn2 rfl n4 hn4 rfl n6 hn6 rfl n9 gn9 hn9 rfl c10 c11 c12
          · refine ev_iconst (pc' := 34) (v := (-1)) dX7_shared3_33 rfl ki_m1 ?_
            refine ev_iret dX7_shared3_34 rfl rfl ⟨Nat.le_refl _, Nat.le_refl _⟩ ?_
            exact k9 n2 hn2 rfl n4 hn4 rfl n6 hn6 rfl c7 c8
set_option maxRecDepth 4000 in
theorem t_X7_tangent {g : ma_G} {Post : ma_P} {I : ma_I} {L : ma_L}  (q : Int32) (s : Int32) (t : Int32)  (k1 : ∀ n2 : Nat, (n2 < 8) → t = nI n2 → ((q < 0) ∨ (¬ q < 12)) → Post (some (.int (-1))) HS I L RF 146) (k2 : ∀ n2 : Nat, (n2 < 8) → t = nI n2 → ∀ j4 : Nat, (j4 < 12) → q = nI j4 → ∀ j7 : Nat, (j7 < 8) → s = nI j7 → (((I (55 + 5 * j4)) 0) = 0) → Post (some (.int (-3))) HS (cRf I 1) L RF 146) (k3 : ∀ n2 : Nat, (n2 < 8) → t = nI n2 → ∀ j11 : Nat, (j11 < 12) → q = nI j11 → ∀ j14 : Nat, (j14 < 8) → s = nI j14 → (¬ ((I (55 + 5 * j11)) 0) = 0) → (¬ (¬ 0 ≤ ((I (39 + 2 * j14)) 1))) → (((I (39 + 2 * j14)) 1) < 4) → Post (some (.int (-3))) HS (cRf I 5) L RF 146) (k4 : ∀ n2 : Nat, (n2 < 8) → t = nI n2 → ∀ j20 : Nat, (j20 < 12) → q = nI j20 → ∀ j23 : Nat, (j23 < 8) → s = nI j23 → (¬ ((I (55 + 5 * j20)) 0) = 0) → (¬ (¬ 0 ≤ ((I (39 + 2 * j23)) 1))) → (¬ ((I (39 + 2 * j23)) 1) < 4) → (4 ≤ ((I (39 + 2 * j23)) 1)) → (mRg (I (40 + 2 * j23)) 4 100) → (mRg (I (40 + 2 * j23)) 4 100) → (¬ (mZr (I (40 + 2 * j23)) 4)) → (¬ (mZr (I (40 + 2 * j23)) 4)) → ∀ J106 : ma_I, (J106 = (cBg I (39 + 2 * n2) (40 + 2 * n2) 4)) → ∀ J107 : ma_I, (J107 = (ma_up J106 (40 + 2 * n2) (ma_up (J106 (40 + 2 * n2)) 0 (Int64.toInt32 (cPn ((ma_up (ma_up L 34 (ma_up (ma_up (ma_up (ma_up (L 34) 0 (Int32.toInt64 ((I (40 + 2 * j23)) 0))) 1 (Int32.toInt64 ((I (40 + 2 * j23)) 1))) 2 (Int32.toInt64 ((I (40 + 2 * j23)) 2))) 3 (Int32.toInt64 ((I (40 + 2 * j23)) 3)))) 35 (ma_up (ma_up (ma_up (ma_up (L 35) 0 (Int32.toInt64 ((I (40 + 2 * j23)) 0))) 1 (Int32.toInt64 ((I (40 + 2 * j23)) 1))) 2 (Int32.toInt64 ((I (40 + 2 * j23)) 2))) 3 (Int32.toInt64 ((I (40 + 2 * j23)) 3)))) (57 + 5 * j20)) ((ma_up (ma_up L 34 (ma_up (ma_up (ma_up (ma_up (L 34) 0 (Int32.toInt64 ((I (40 + 2 * j23)) 0))) 1 (Int32.toInt64 ((I (40 + 2 * j23)) 1))) 2 (Int32.toInt64 ((I (40 + 2 * j23)) 2))) 3 (Int32.toInt64 ((I (40 + 2 * j23)) 3)))) 35 (ma_up (ma_up (ma_up (ma_up (L 35) 0 (Int32.toInt64 ((I (40 + 2 * j23)) 0))) 1 (Int32.toInt64 ((I (40 + 2 * j23)) 1))) 2 (Int32.toInt64 ((I (40 + 2 * j23)) 2))) 3 (Int32.toInt64 ((I (40 + 2 * j23)) 3)))) 34) 0))))) → ∀ J108 : ma_I, (J108 = (ma_up J107 (40 + 2 * n2) (ma_up (J107 (40 + 2 * n2)) 1 (Int64.toInt32 (cPn ((ma_up (ma_up L 34 (ma_up (ma_up (ma_up (ma_up (L 34) 0 (Int32.toInt64 ((I (40 + 2 * j23)) 0))) 1 (Int32.toInt64 ((I (40 + 2 * j23)) 1))) 2 (Int32.toInt64 ((I (40 + 2 * j23)) 2))) 3 (Int32.toInt64 ((I (40 + 2 * j23)) 3)))) 35 (ma_up (ma_up (ma_up (ma_up (L 35) 0 (Int32.toInt64 ((I (40 + 2 * j23)) 0))) 1 (Int32.toInt64 ((I (40 + 2 * j23)) 1))) 2 (Int32.toInt64 ((I (40 + 2 * j23)) 2))) 3 (Int32.toInt64 ((I (40 + 2 * j23)) 3)))) (57 + 5 * j20)) ((ma_up (ma_up L 34 (ma_up (ma_up (ma_up (ma_up (L 34) 0 (Int32.toInt64 ((I (40 + 2 * j23)) 0))) 1 (Int32.toInt64 ((I (40 + 2 * j23)) 1))) 2 (Int32.toInt64 ((I (40 + 2 * j23)) 2))) 3 (Int32.toInt64 ((I (40 + 2 * j23)) 3)))) 35 (ma_up (ma_up (ma_up (ma_up (L 35) 0 (Int32.toInt64 ((I (40 + 2 * j23)) 0))) 1 (Int32.toInt64 ((I (40 + 2 * j23)) 1))) 2 (Int32.toInt64 ((I (40 + 2 * j23)) 2))) 3 (Int32.toInt64 ((I (40 + 2 * j23)) 3)))) 34) 1))))) → ∀ J109 : ma_I, (J109 = (ma_up J108 (40 + 2 * n2) (ma_up (J108 (40 + 2 * n2)) 2 (Int64.toInt32 (cPn ((ma_up (ma_up L 34 (ma_up (ma_up (ma_up (ma_up (L 34) 0 (Int32.toInt64 ((I (40 + 2 * j23)) 0))) 1 (Int32.toInt64 ((I (40 + 2 * j23)) 1))) 2 (Int32.toInt64 ((I (40 + 2 * j23)) 2))) 3 (Int32.toInt64 ((I (40 + 2 * j23)) 3)))) 35 (ma_up (ma_up (ma_up (ma_up (L 35) 0 (Int32.toInt64 ((I (40 + 2 * j23)) 0))) 1 (Int32.toInt64 ((I (40 + 2 * j23)) 1))) 2 (Int32.toInt64 ((I (40 + 2 * j23)) 2))) 3 (Int32.toInt64 ((I (40 + 2 * j23)) 3)))) (57 + 5 * j20)) ((ma_up (ma_up L 34 (ma_up (ma_up (ma_up (ma_up (L 34) 0 (Int32.toInt64 ((I (40 + 2 * j23)) 0))) 1 (Int32.toInt64 ((I (40 + 2 * j23)) 1))) 2 (Int32.toInt64 ((I (40 + 2 * j23)) 2))) 3 (Int32.toInt64 ((I (40 + 2 * j23)) 3)))) 35 (ma_up (ma_up (ma_up (ma_up (L 35) 0 (Int32.toInt64 ((I (40 + 2 * j23)) 0))) 1 (Int32.toInt64 ((I (40 + 2 * j23)) 1))) 2 (Int32.toInt64 ((I (40 + 2 * j23)) 2))) 3 (Int32.toInt64 ((I (40 + 2 * j23)) 3)))) 34) 2))))) → ∀ J110 : ma_I, (J110 = (ma_up J109 (40 + 2 * n2) (ma_up (J109 (40 + 2 * n2)) 3 (Int64.toInt32 (cPn ((ma_up (ma_up L 34 (ma_up (ma_up (ma_up (ma_up (L 34) 0 (Int32.toInt64 ((I (40 + 2 * j23)) 0))) 1 (Int32.toInt64 ((I (40 + 2 * j23)) 1))) 2 (Int32.toInt64 ((I (40 + 2 * j23)) 2))) 3 (Int32.toInt64 ((I (40 + 2 * j23)) 3)))) 35 (ma_up (ma_up (ma_up (ma_up (L 35) 0 (Int32.toInt64 ((I (40 + 2 * j23)) 0))) 1 (Int32.toInt64 ((I (40 + 2 * j23)) 1))) 2 (Int32.toInt64 ((I (40 + 2 * j23)) 2))) 3 (Int32.toInt64 ((I (40 + 2 * j23)) 3)))) (57 + 5 * j20)) ((ma_up (ma_up L 34 (ma_up (ma_up (ma_up (ma_up (L 34) 0 (Int32.toInt64 ((I (40 + 2 * j23)) 0))) 1 (Int32.toInt64 ((I (40 + 2 * j23)) 1))) 2 (Int32.toInt64 ((I (40 + 2 * j23)) 2))) 3 (Int32.toInt64 ((I (40 + 2 * j23)) 3)))) 35 (ma_up (ma_up (ma_up (ma_up (L 35) 0 (Int32.toInt64 ((I (40 + 2 * j23)) 0))) 1 (Int32.toInt64 ((I (40 + 2 * j23)) 1))) 2 (Int32.toInt64 ((I (40 + 2 * j23)) 2))) 3 (Int32.toInt64 ((I (40 + 2 * j23)) 3)))) 34) 3))))) → Post (some (.int 1)) HS J110 (ma_up (ma_up L 34 (ma_up (ma_up (ma_up (ma_up (L 34) 0 (Int32.toInt64 ((I (40 + 2 * j23)) 0))) 1 (Int32.toInt64 ((I (40 + 2 * j23)) 1))) 2 (Int32.toInt64 ((I (40 + 2 * j23)) 2))) 3 (Int32.toInt64 ((I (40 + 2 * j23)) 3)))) 35 (ma_up (ma_up (ma_up (ma_up (L 35) 0 (Int32.toInt64 ((I (40 + 2 * j23)) 0))) 1 (Int32.toInt64 ((I (40 + 2 * j23)) 1))) 2 (Int32.toInt64 ((I (40 + 2 * j23)) 2))) 3 (Int32.toInt64 ((I (40 + 2 * j23)) 3)))) RF 146) (k5 : ∀ n2 : Nat, (n2 < 8) → t = nI n2 → ∀ j34 : Nat, (j34 < 12) → q = nI j34 → ∀ j37 : Nat, (j37 < 8) → s = nI j37 → (¬ ((I (55 + 5 * j34)) 0) = 0) → (¬ (¬ 0 ≤ ((I (39 + 2 * j37)) 1))) → (¬ ((I (39 + 2 * j37)) 1) < 4) → (4 ≤ ((I (39 + 2 * j37)) 1)) → (mRg (I (40 + 2 * j37)) 4 100) → (mRg (I (40 + 2 * j37)) 4 100) → (¬ (mZr (I (40 + 2 * j37)) 4)) → (mZr (I (40 + 2 * j37)) 4) → Post (some (.int (-3))) HS (cRf I 4) L RF 146) (k6 : ∀ n2 : Nat, (n2 < 8) → t = nI n2 → ∀ j48 : Nat, (j48 < 12) → q = nI j48 → ∀ j51 : Nat, (j51 < 8) → s = nI j51 → (¬ ((I (55 + 5 * j48)) 0) = 0) → (¬ (¬ 0 ≤ ((I (39 + 2 * j51)) 1))) → (¬ ((I (39 + 2 * j51)) 1) < 4) → (4 ≤ ((I (39 + 2 * j51)) 1)) → (mRg (I (40 + 2 * j51)) 4 100) → (mRg (I (40 + 2 * j51)) 4 100) → (mZr (I (40 + 2 * j51)) 4) → Post (some (.int (-3))) HS (cRf I 4) L RF 146) (k7 : ∀ n2 : Nat, (n2 < 8) → t = nI n2 → ∀ j61 : Nat, (j61 < 12) → q = nI j61 → ∀ j64 : Nat, (j64 < 8) → s = nI j64 → (¬ ((I (55 + 5 * j61)) 0) = 0) → (¬ (¬ 0 ≤ ((I (39 + 2 * j64)) 1))) → (¬ ((I (39 + 2 * j64)) 1) < 4) → (4 ≤ ((I (39 + 2 * j64)) 1)) → (mRg (I (40 + 2 * j64)) 4 100) → (¬ (mRg (I (40 + 2 * j64)) 4 100)) → Post (some (.int (-3))) HS (cRf I 2) L RF 146) (k8 : ∀ n2 : Nat, (n2 < 8) → t = nI n2 → ∀ j73 : Nat, (j73 < 12) → q = nI j73 → ∀ j76 : Nat, (j76 < 8) → s = nI j76 → (¬ ((I (55 + 5 * j73)) 0) = 0) → (¬ (¬ 0 ≤ ((I (39 + 2 * j76)) 1))) → (¬ ((I (39 + 2 * j76)) 1) < 4) → (4 ≤ ((I (39 + 2 * j76)) 1)) → (¬ (mRg (I (40 + 2 * j76)) 4 100)) → Post (some (.int (-3))) HS (cRf I 2) L RF 146) (k9 : ∀ n2 : Nat, (n2 < 8) → t = nI n2 → ∀ j84 : Nat, (j84 < 12) → q = nI j84 → ∀ j87 : Nat, (j87 < 8) → s = nI j87 → (¬ ((I (55 + 5 * j84)) 0) = 0) → (¬ (¬ 0 ≤ ((I (39 + 2 * j87)) 1))) → (¬ ((I (39 + 2 * j87)) 1) < 4) → (¬ 4 ≤ ((I (39 + 2 * j87)) 1)) → Post (some (.int (-3))) HS (cRf I 5) L RF 146) (k10 : ∀ n2 : Nat, (n2 < 8) → t = nI n2 → ∀ j94 : Nat, (j94 < 12) → q = nI j94 → ∀ j97 : Nat, (j97 < 8) → s = nI j97 → (¬ ((I (55 + 5 * j94)) 0) = 0) → (¬ 0 ≤ ((I (39 + 2 * j97)) 1)) → Post (some (.int (-3))) HS (cRf I 1) L RF 146) (k11 : ∀ n2 : Nat, (n2 < 8) → t = nI n2 → ∀ j102 : Nat, (j102 < 12) → q = nI j102 → ((s < 0) ∨ (¬ s < 8)) → Post (some (.int (-1))) HS I L RF 146) (k12 : ((t < 0) ∨ (¬ t < 8)) → Post (some (.int (-1))) HS I L RF 146) : CT g yX7_tangent cX7_tangent 7 (some .int) rX7_tangent [.ref 3, .int q, .int s, .int t] Post HS I L RF 146 := by
  refine ct_of (lv := [some (.ref 3), some (.int q), some (.int s), some (.int t), none, none, none]) (by decide) (Nat.le_of_ble_eq_true rfl) rfl ?_
  refine ev_iload_n (pc' := 1) (i := 3) dX7_tangent_0 rfl rfl rfl ?_
  refine ev_callS (pc' := 4) (rm' := rX7_noSheet) (av := [.int t]) (rest := []) co_X7_75 cs_X7_noSheet dX7_tangent_1 rfl rfl rfl (Nat.le_of_ble_eq_true rfl) ⟨(Nat.le_of_ble_eq_true rfl), (Nat.le_of_ble_eq_true rfl)⟩ ⟨(Nat.le_of_ble_eq_true rfl), (Nat.le_of_ble_eq_true rfl)⟩ ?_
  refine t_X7_noSheet t  ?_
  refine ev_if_eq_b (tgt := 9) (pc' := 7) dX7_tangent_4 rfl rfl (fun c1 => ?_) (fun c1 => ?_)
  · obtain ⟨n2, hn2, en2⟩ := in_ofn (n := 8) (by omega) rfl c1
    subst en2
    refine ev_aload_n (pc' := 10) (i := 0) dX7_tangent_9 rfl rfl rfl ?_
    refine ev_iload_n (pc' := 11) (i := 1) dX7_tangent_10 rfl rfl rfl ?_
    refine ev_iload_n (pc' := 12) (i := 2) dX7_tangent_11 rfl rfl rfl ?_
    refine ev_callV (pc' := 15) (rm' := rX7_refusedAt) (b := 3) (av := [.int q, .int s]) (rest := []) co_X7_203 ci_X7_refusedAt cv_X7_refusedAt dX7_tangent_12 rfl hs_3 hb_X7 rfl rfl (Nat.le_of_ble_eq_true rfl) ⟨(Nat.le_of_ble_eq_true rfl), (Nat.le_of_ble_eq_true rfl)⟩ ⟨(Nat.le_of_ble_eq_true rfl), (Nat.le_of_ble_eq_true rfl)⟩ ?_
    refine t_X7_refusedAt q s  (fun h3 => ?_) (fun j4 h5 e6 j7 h8 e9 h10 => ?_) (fun j11 h12 e13 j14 h15 e16 h17 h18 h19 => ?_) (fun j20 h21 e22 j23 h24 e25 h26 h27 h28 h29 h30 h31 h32 h33 => ?_) (fun j34 h35 e36 j37 h38 e39 h40 h41 h42 h43 h44 h45 h46 h47 => ?_) (fun j48 h49 e50 j51 h52 e53 h54 h55 h56 h57 h58 h59 h60 => ?_) (fun j61 h62 e63 j64 h65 e66 h67 h68 h69 h70 h71 h72 => ?_) (fun j73 h74 e75 j76 h77 e78 h79 h80 h81 h82 h83 => ?_) (fun j84 h85 e86 j87 h88 e89 h90 h91 h92 h93 => ?_) (fun j94 h95 e96 j97 h98 e99 h100 h101 => ?_) (fun j102 h103 e104 h105 => ?_)
    · skip
      refine ev_istore (pc' := 17) (lv' := [some (.ref 3), some (.int q), some (.int s), some (.int (nI n2)), some (.int (-1)), none, none]) dX7_tangent_15 rfl (Nat.le_of_ble_eq_true rfl) rfl rfl ?_
      refine ev_iload (pc' := 19) dX7_tangent_17 rfl rfl ?_
      refine ev_if_eq (tgt := 25) (pc' := 22) dX7_tangent_19 rfl rfl (fun h => absurd h (by decide)) (fun _ => ?_)
      refine ev_iload (pc' := 24) dX7_tangent_22 rfl rfl ?_
      refine ev_iret dX7_tangent_24 rfl rfl ⟨Nat.le_refl _, Nat.le_refl _⟩ ?_
      exact k1 n2 hn2 rfl h3
    · subst e6
      subst e9
      refine ev_istore (pc' := 17) (lv' := [some (.ref 3), some (.int (nI j4)), some (.int (nI j7)), some (.int (nI n2)), some (.int (-3)), none, none]) dX7_tangent_15 rfl (Nat.le_of_ble_eq_true rfl) rfl rfl ?_
      refine ev_iload (pc' := 19) dX7_tangent_17 rfl rfl ?_
      refine ev_if_eq (tgt := 25) (pc' := 22) dX7_tangent_19 rfl rfl (fun h => absurd h (by decide)) (fun _ => ?_)
      refine ev_iload (pc' := 24) dX7_tangent_22 rfl rfl ?_
      refine ev_iret dX7_tangent_24 rfl rfl ⟨Nat.le_refl _, Nat.le_refl _⟩ ?_
      exact k2 n2 hn2 rfl j4 h5 rfl j7 h8 rfl h10
    · subst e13
      subst e16
      refine ev_istore (pc' := 17) (lv' := [some (.ref 3), some (.int (nI j11)), some (.int (nI j14)), some (.int (nI n2)), some (.int (-3)), none, none]) dX7_tangent_15 rfl (Nat.le_of_ble_eq_true rfl) rfl rfl ?_
      refine ev_iload (pc' := 19) dX7_tangent_17 rfl rfl ?_
      refine ev_if_eq (tgt := 25) (pc' := 22) dX7_tangent_19 rfl rfl (fun h => absurd h (by decide)) (fun _ => ?_)
      refine ev_iload (pc' := 24) dX7_tangent_22 rfl rfl ?_
      refine ev_iret dX7_tangent_24 rfl rfl ⟨Nat.le_refl _, Nat.le_refl _⟩ ?_
      exact k3 n2 hn2 rfl j11 h12 rfl j14 h15 rfl h17 h18 h19
    · subst e22
      subst e25
      refine ev_istore (pc' := 17) (lv' := [some (.ref 3), some (.int (nI j20)), some (.int (nI j23)), some (.int (nI n2)), some (.int 0), none, none]) dX7_tangent_15 rfl (Nat.le_of_ble_eq_true rfl) rfl rfl ?_
      refine ev_iload (pc' := 19) dX7_tangent_17 rfl rfl ?_
      refine ev_if_eq (tgt := 25) (pc' := 22) dX7_tangent_19 rfl rfl (fun _ => ?_) (fun h => absurd (by decide) h)
      refine ev_aload_n (pc' := 26) (i := 0) dX7_tangent_25 rfl rfl rfl ?_
      refine ev_getR (pc' := 29) fo_X7_11 dX7_tangent_26 rfl hs_3 rfl rf_3_0 ?_
      refine ev_iload_n (pc' := 30) (i := 3) dX7_tangent_29 rfl rfl rfl ?_
      refine ev_aald (pc' := 31) (j := n2) (b := 39 + 2 * n2) dX7_tangent_30 rfl hs_4 (Or.inl rfl) rfl (by omega) (Nat.le_of_ble_eq_true rfl) (hs_sheet n2 (by omega)).2.2.2 ?_
      refine ev_astore (pc' := 33) (lv' := [some (.ref 3), some (.int (nI j20)), some (.int (nI j23)), some (.int (nI n2)), some (.int 0), some (.ref (39 + 2 * n2)), none]) dX7_tangent_31 rfl (Nat.le_of_ble_eq_true rfl) rfl rfl ?_
      refine ev_aload (pc' := 35) dX7_tangent_33 rfl rfl ?_
      refine ev_iconst (pc' := 36) (v := 4) dX7_tangent_35 rfl ki_4 ?_
      refine ev_callV (pc' := 39) (rm' := rX3_begin) (b := 39 + 2 * n2) (av := [.int 4]) (rest := []) co_X7_83 ci_X3_begin cv_X3_begin dX7_tangent_36 rfl (hs_sheet n2 (by omega)).1 hb_X3 rfl rfl (Nat.le_of_ble_eq_true rfl) ⟨(Nat.le_of_ble_eq_true rfl), (Nat.le_of_ble_eq_true rfl)⟩ ⟨(Nat.le_of_ble_eq_true rfl), (Nat.le_of_ble_eq_true rfl)⟩ ?_
      refine t_X3_begin (39 + 2 * n2) (40 + 2 * n2) (hs_sheet n2 (by omega)).1 (hs_sheet n2 (by omega)).2.2.1 (hs_sheet n2 (by omega)).2.1 (by omega) 4 ?_
      refine ev_iconst (pc' := 40) (v := 0) dX7_tangent_39 rfl ki_0 ?_
      refine ev_istore (pc' := 42) (lv' := [some (.ref 3), some (.int (nI j20)), some (.int (nI j23)), some (.int (nI n2)), some (.int 0), some (.ref (39 + 2 * n2)), some (.int 0)]) dX7_tangent_40 rfl (Nat.le_of_ble_eq_true rfl) rfl rfl ?_
      refine ev_memI (fun J106 hJ106 => ?_)
      refine ev_iload (pc' := 44) dX7_tangent_42 rfl rfl ?_
      refine ev_iconst (pc' := 45) (v := 4) dX7_tangent_44 rfl ki_4 ?_
      refine ev_icmp_ge (tgt := 81) (pc' := 48) dX7_tangent_45 rfl rfl (fun h => absurd h (by decide)) (fun _ => ?_)
      refine ev_aload (pc' := 50) dX7_tangent_48 rfl rfl ?_
      refine ev_getR (pc' := 53) fo_X7_95 dX7_tangent_50 rfl (hs_sheet n2 (by omega)).1 rfl (hs_sheet n2 (by omega)).2.2.1 ?_
      refine ev_iload (pc' := 55) dX7_tangent_53 rfl rfl ?_
      refine ev_aload_n (pc' := 56) (i := 0) dX7_tangent_55 rfl rfl rfl ?_
      refine ev_getR (pc' := 59) fo_X7_17 dX7_tangent_56 rfl hs_3 rfl rf_3_1 ?_
      refine ev_iload_n (pc' := 60) (i := 1) dX7_tangent_59 rfl rfl rfl ?_
      refine ev_aald (pc' := 61) (j := j20) (b := 55 + 5 * j20) dX7_tangent_60 rfl hs_5 (Or.inr rfl) rfl (by omega) (Nat.le_of_ble_eq_true rfl) (hs_ground j20 (by omega)).2.2.2.2.2.2.2.2.2 ?_
      refine ev_getR (pc' := 64) fo_X7_141 dX7_tangent_61 rfl (hs_ground j20 (by omega)).1 rfl (hs_ground j20 (by omega)).2.2.2.2.2.1 ?_
      refine ev_iload (pc' := 66) dX7_tangent_64 rfl rfl ?_
      refine ev_aload_n (pc' := 67) (i := 0) dX7_tangent_66 rfl rfl rfl ?_
      refine ev_getR (pc' := 70) fo_X7_52 dX7_tangent_67 rfl hs_3 rfl rf_3_7 ?_
      refine ev_callV (pc' := 73) (rm' := rX4_poleNumber) (b := 56 + 5 * j20) (av := [.int 0, .ref 34]) (rest := [.int 0, .ref (40 + 2 * n2)]) co_X7_210 ci_X4_poleNumber cv_X4_poleNumber dX7_tangent_70 rfl (hs_ground j20 (by omega)).2.1 hb_X4 rfl rfl (Nat.le_of_ble_eq_true rfl) ⟨(Nat.le_of_ble_eq_true rfl), (Nat.le_of_ble_eq_true rfl)⟩ ⟨(Nat.le_of_ble_eq_true rfl), (Nat.le_of_ble_eq_true rfl)⟩ ?_
      refine t_X4_poleNumber (56 + 5 * j20) (57 + 5 * j20) (hs_ground j20 (by omega)).2.1 (hs_ground j20 (by omega)).2.2.2.2.2.2.2.1 (hs_ground j20 (by omega)).2.2.1 0 34 (by omega) hs_34 ?_
      refine ev_l2i (pc' := 74) (v := Int64.toInt32 (cPn ((ma_up (ma_up L 34 (ma_up (ma_up (ma_up (ma_up (L 34) 0 (Int32.toInt64 ((I (40 + 2 * j23)) 0))) 1 (Int32.toInt64 ((I (40 + 2 * j23)) 1))) 2 (Int32.toInt64 ((I (40 + 2 * j23)) 2))) 3 (Int32.toInt64 ((I (40 + 2 * j23)) 3)))) 35 (ma_up (ma_up (ma_up (ma_up (L 35) 0 (Int32.toInt64 ((I (40 + 2 * j23)) 0))) 1 (Int32.toInt64 ((I (40 + 2 * j23)) 1))) 2 (Int32.toInt64 ((I (40 + 2 * j23)) 2))) 3 (Int32.toInt64 ((I (40 + 2 * j23)) 3)))) (57 + 5 * j20)) ((ma_up (ma_up L 34 (ma_up (ma_up (ma_up (ma_up (L 34) 0 (Int32.toInt64 ((I (40 + 2 * j23)) 0))) 1 (Int32.toInt64 ((I (40 + 2 * j23)) 1))) 2 (Int32.toInt64 ((I (40 + 2 * j23)) 2))) 3 (Int32.toInt64 ((I (40 + 2 * j23)) 3)))) 35 (ma_up (ma_up (ma_up (ma_up (L 35) 0 (Int32.toInt64 ((I (40 + 2 * j23)) 0))) 1 (Int32.toInt64 ((I (40 + 2 * j23)) 1))) 2 (Int32.toInt64 ((I (40 + 2 * j23)) 2))) 3 (Int32.toInt64 ((I (40 + 2 * j23)) 3)))) 34) 0)) dX7_tangent_73 rfl rfl ?_
      refine ev_iast (pc' := 75) (j := 0) (I' := (ma_up J106 (40 + 2 * n2) (ma_up (J106 (40 + 2 * n2)) 0 (Int64.toInt32 (cPn ((ma_up (ma_up L 34 (ma_up (ma_up (ma_up (ma_up (L 34) 0 (Int32.toInt64 ((I (40 + 2 * j23)) 0))) 1 (Int32.toInt64 ((I (40 + 2 * j23)) 1))) 2 (Int32.toInt64 ((I (40 + 2 * j23)) 2))) 3 (Int32.toInt64 ((I (40 + 2 * j23)) 3)))) 35 (ma_up (ma_up (ma_up (ma_up (L 35) 0 (Int32.toInt64 ((I (40 + 2 * j23)) 0))) 1 (Int32.toInt64 ((I (40 + 2 * j23)) 1))) 2 (Int32.toInt64 ((I (40 + 2 * j23)) 2))) 3 (Int32.toInt64 ((I (40 + 2 * j23)) 3)))) (57 + 5 * j20)) ((ma_up (ma_up L 34 (ma_up (ma_up (ma_up (ma_up (L 34) 0 (Int32.toInt64 ((I (40 + 2 * j23)) 0))) 1 (Int32.toInt64 ((I (40 + 2 * j23)) 1))) 2 (Int32.toInt64 ((I (40 + 2 * j23)) 2))) 3 (Int32.toInt64 ((I (40 + 2 * j23)) 3)))) 35 (ma_up (ma_up (ma_up (ma_up (L 35) 0 (Int32.toInt64 ((I (40 + 2 * j23)) 0))) 1 (Int32.toInt64 ((I (40 + 2 * j23)) 1))) 2 (Int32.toInt64 ((I (40 + 2 * j23)) 2))) 3 (Int32.toInt64 ((I (40 + 2 * j23)) 3)))) 34) 0))))) dX7_tangent_74 rfl (hs_sheet n2 (by omega)).2.1 rfl (Nat.le_of_ble_eq_true rfl) (Nat.le_of_ble_eq_true rfl) rfl ?_
      refine ev_iinc (pc' := 78) (v := 1) (lv' := [some (.ref 3), some (.int (nI j20)), some (.int (nI j23)), some (.int (nI n2)), some (.int 0), some (.ref (39 + 2 * n2)), some (.int 1)]) dX7_tangent_75 rfl rfl (by decide) (Nat.le_of_ble_eq_true rfl) rfl rfl ?_
      refine ev_goto (tgt := 42) dX7_tangent_78 rfl ?_
      refine ev_memI (fun J107 hJ107 => ?_)
      refine ev_iload (pc' := 44) dX7_tangent_42 rfl rfl ?_
      refine ev_iconst (pc' := 45) (v := 4) dX7_tangent_44 rfl ki_4 ?_
      refine ev_icmp_ge (tgt := 81) (pc' := 48) dX7_tangent_45 rfl rfl (fun h => absurd h (by decide)) (fun _ => ?_)
      refine ev_aload (pc' := 50) dX7_tangent_48 rfl rfl ?_
      refine ev_getR (pc' := 53) fo_X7_95 dX7_tangent_50 rfl (hs_sheet n2 (by omega)).1 rfl (hs_sheet n2 (by omega)).2.2.1 ?_
      refine ev_iload (pc' := 55) dX7_tangent_53 rfl rfl ?_
      refine ev_aload_n (pc' := 56) (i := 0) dX7_tangent_55 rfl rfl rfl ?_
      refine ev_getR (pc' := 59) fo_X7_17 dX7_tangent_56 rfl hs_3 rfl rf_3_1 ?_
      refine ev_iload_n (pc' := 60) (i := 1) dX7_tangent_59 rfl rfl rfl ?_
      refine ev_aald (pc' := 61) (j := j20) (b := 55 + 5 * j20) dX7_tangent_60 rfl hs_5 (Or.inr rfl) rfl (by omega) (Nat.le_of_ble_eq_true rfl) (hs_ground j20 (by omega)).2.2.2.2.2.2.2.2.2 ?_
      refine ev_getR (pc' := 64) fo_X7_141 dX7_tangent_61 rfl (hs_ground j20 (by omega)).1 rfl (hs_ground j20 (by omega)).2.2.2.2.2.1 ?_
      refine ev_iload (pc' := 66) dX7_tangent_64 rfl rfl ?_
      refine ev_aload_n (pc' := 67) (i := 0) dX7_tangent_66 rfl rfl rfl ?_
      refine ev_getR (pc' := 70) fo_X7_52 dX7_tangent_67 rfl hs_3 rfl rf_3_7 ?_
      refine ev_callV (pc' := 73) (rm' := rX4_poleNumber) (b := 56 + 5 * j20) (av := [.int 1, .ref 34]) (rest := [.int 1, .ref (40 + 2 * n2)]) co_X7_210 ci_X4_poleNumber cv_X4_poleNumber dX7_tangent_70 rfl (hs_ground j20 (by omega)).2.1 hb_X4 rfl rfl (Nat.le_of_ble_eq_true rfl) ⟨(Nat.le_of_ble_eq_true rfl), (Nat.le_of_ble_eq_true rfl)⟩ ⟨(Nat.le_of_ble_eq_true rfl), (Nat.le_of_ble_eq_true rfl)⟩ ?_
      refine t_X4_poleNumber (56 + 5 * j20) (57 + 5 * j20) (hs_ground j20 (by omega)).2.1 (hs_ground j20 (by omega)).2.2.2.2.2.2.2.1 (hs_ground j20 (by omega)).2.2.1 1 34 (by omega) hs_34 ?_
      refine ev_l2i (pc' := 74) (v := Int64.toInt32 (cPn ((ma_up (ma_up L 34 (ma_up (ma_up (ma_up (ma_up (L 34) 0 (Int32.toInt64 ((I (40 + 2 * j23)) 0))) 1 (Int32.toInt64 ((I (40 + 2 * j23)) 1))) 2 (Int32.toInt64 ((I (40 + 2 * j23)) 2))) 3 (Int32.toInt64 ((I (40 + 2 * j23)) 3)))) 35 (ma_up (ma_up (ma_up (ma_up (L 35) 0 (Int32.toInt64 ((I (40 + 2 * j23)) 0))) 1 (Int32.toInt64 ((I (40 + 2 * j23)) 1))) 2 (Int32.toInt64 ((I (40 + 2 * j23)) 2))) 3 (Int32.toInt64 ((I (40 + 2 * j23)) 3)))) (57 + 5 * j20)) ((ma_up (ma_up L 34 (ma_up (ma_up (ma_up (ma_up (L 34) 0 (Int32.toInt64 ((I (40 + 2 * j23)) 0))) 1 (Int32.toInt64 ((I (40 + 2 * j23)) 1))) 2 (Int32.toInt64 ((I (40 + 2 * j23)) 2))) 3 (Int32.toInt64 ((I (40 + 2 * j23)) 3)))) 35 (ma_up (ma_up (ma_up (ma_up (L 35) 0 (Int32.toInt64 ((I (40 + 2 * j23)) 0))) 1 (Int32.toInt64 ((I (40 + 2 * j23)) 1))) 2 (Int32.toInt64 ((I (40 + 2 * j23)) 2))) 3 (Int32.toInt64 ((I (40 + 2 * j23)) 3)))) 34) 1)) dX7_tangent_73 rfl rfl ?_
      refine ev_iast (pc' := 75) (j := 1) (I' := (ma_up J107 (40 + 2 * n2) (ma_up (J107 (40 + 2 * n2)) 1 (Int64.toInt32 (cPn ((ma_up (ma_up L 34 (ma_up (ma_up (ma_up (ma_up (L 34) 0 (Int32.toInt64 ((I (40 + 2 * j23)) 0))) 1 (Int32.toInt64 ((I (40 + 2 * j23)) 1))) 2 (Int32.toInt64 ((I (40 + 2 * j23)) 2))) 3 (Int32.toInt64 ((I (40 + 2 * j23)) 3)))) 35 (ma_up (ma_up (ma_up (ma_up (L 35) 0 (Int32.toInt64 ((I (40 + 2 * j23)) 0))) 1 (Int32.toInt64 ((I (40 + 2 * j23)) 1))) 2 (Int32.toInt64 ((I (40 + 2 * j23)) 2))) 3 (Int32.toInt64 ((I (40 + 2 * j23)) 3)))) (57 + 5 * j20)) ((ma_up (ma_up L 34 (ma_up (ma_up (ma_up (ma_up (L 34) 0 (Int32.toInt64 ((I (40 + 2 * j23)) 0))) 1 (Int32.toInt64 ((I (40 + 2 * j23)) 1))) 2 (Int32.toInt64 ((I (40 + 2 * j23)) 2))) 3 (Int32.toInt64 ((I (40 + 2 * j23)) 3)))) 35 (ma_up (ma_up (ma_up (ma_up (L 35) 0 (Int32.toInt64 ((I (40 + 2 * j23)) 0))) 1 (Int32.toInt64 ((I (40 + 2 * j23)) 1))) 2 (Int32.toInt64 ((I (40 + 2 * j23)) 2))) 3 (Int32.toInt64 ((I (40 + 2 * j23)) 3)))) 34) 1))))) dX7_tangent_74 rfl (hs_sheet n2 (by omega)).2.1 rfl (Nat.le_of_ble_eq_true rfl) (Nat.le_of_ble_eq_true rfl) rfl ?_
      refine ev_iinc (pc' := 78) (v := 2) (lv' := [some (.ref 3), some (.int (nI j20)), some (.int (nI j23)), some (.int (nI n2)), some (.int 0), some (.ref (39 + 2 * n2)), some (.int 2)]) dX7_tangent_75 rfl rfl (by decide) (Nat.le_of_ble_eq_true rfl) rfl rfl ?_
      refine ev_goto (tgt := 42) dX7_tangent_78 rfl ?_
      refine ev_memI (fun J108 hJ108 => ?_)
      refine ev_iload (pc' := 44) dX7_tangent_42 rfl rfl ?_
      refine ev_iconst (pc' := 45) (v := 4) dX7_tangent_44 rfl ki_4 ?_
      refine ev_icmp_ge (tgt := 81) (pc' := 48) dX7_tangent_45 rfl rfl (fun h => absurd h (by decide)) (fun _ => ?_)
      refine ev_aload (pc' := 50) dX7_tangent_48 rfl rfl ?_
      refine ev_getR (pc' := 53) fo_X7_95 dX7_tangent_50 rfl (hs_sheet n2 (by omega)).1 rfl (hs_sheet n2 (by omega)).2.2.1 ?_
      refine ev_iload (pc' := 55) dX7_tangent_53 rfl rfl ?_
      refine ev_aload_n (pc' := 56) (i := 0) dX7_tangent_55 rfl rfl rfl ?_
      refine ev_getR (pc' := 59) fo_X7_17 dX7_tangent_56 rfl hs_3 rfl rf_3_1 ?_
      refine ev_iload_n (pc' := 60) (i := 1) dX7_tangent_59 rfl rfl rfl ?_
      refine ev_aald (pc' := 61) (j := j20) (b := 55 + 5 * j20) dX7_tangent_60 rfl hs_5 (Or.inr rfl) rfl (by omega) (Nat.le_of_ble_eq_true rfl) (hs_ground j20 (by omega)).2.2.2.2.2.2.2.2.2 ?_
      refine ev_getR (pc' := 64) fo_X7_141 dX7_tangent_61 rfl (hs_ground j20 (by omega)).1 rfl (hs_ground j20 (by omega)).2.2.2.2.2.1 ?_
      refine ev_iload (pc' := 66) dX7_tangent_64 rfl rfl ?_
      refine ev_aload_n (pc' := 67) (i := 0) dX7_tangent_66 rfl rfl rfl ?_
      refine ev_getR (pc' := 70) fo_X7_52 dX7_tangent_67 rfl hs_3 rfl rf_3_7 ?_
      refine ev_callV (pc' := 73) (rm' := rX4_poleNumber) (b := 56 + 5 * j20) (av := [.int 2, .ref 34]) (rest := [.int 2, .ref (40 + 2 * n2)]) co_X7_210 ci_X4_poleNumber cv_X4_poleNumber dX7_tangent_70 rfl (hs_ground j20 (by omega)).2.1 hb_X4 rfl rfl (Nat.le_of_ble_eq_true rfl) ⟨(Nat.le_of_ble_eq_true rfl), (Nat.le_of_ble_eq_true rfl)⟩ ⟨(Nat.le_of_ble_eq_true rfl), (Nat.le_of_ble_eq_true rfl)⟩ ?_
      refine t_X4_poleNumber (56 + 5 * j20) (57 + 5 * j20) (hs_ground j20 (by omega)).2.1 (hs_ground j20 (by omega)).2.2.2.2.2.2.2.1 (hs_ground j20 (by omega)).2.2.1 2 34 (by omega) hs_34 ?_
      refine ev_l2i (pc' := 74) (v := Int64.toInt32 (cPn ((ma_up (ma_up L 34 (ma_up (ma_up (ma_up (ma_up (L 34) 0 (Int32.toInt64 ((I (40 + 2 * j23)) 0))) 1 (Int32.toInt64 ((I (40 + 2 * j23)) 1))) 2 (Int32.toInt64 ((I (40 + 2 * j23)) 2))) 3 (Int32.toInt64 ((I (40 + 2 * j23)) 3)))) 35 (ma_up (ma_up (ma_up (ma_up (L 35) 0 (Int32.toInt64 ((I (40 + 2 * j23)) 0))) 1 (Int32.toInt64 ((I (40 + 2 * j23)) 1))) 2 (Int32.toInt64 ((I (40 + 2 * j23)) 2))) 3 (Int32.toInt64 ((I (40 + 2 * j23)) 3)))) (57 + 5 * j20)) ((ma_up (ma_up L 34 (ma_up (ma_up (ma_up (ma_up (L 34) 0 (Int32.toInt64 ((I (40 + 2 * j23)) 0))) 1 (Int32.toInt64 ((I (40 + 2 * j23)) 1))) 2 (Int32.toInt64 ((I (40 + 2 * j23)) 2))) 3 (Int32.toInt64 ((I (40 + 2 * j23)) 3)))) 35 (ma_up (ma_up (ma_up (ma_up (L 35) 0 (Int32.toInt64 ((I (40 + 2 * j23)) 0))) 1 (Int32.toInt64 ((I (40 + 2 * j23)) 1))) 2 (Int32.toInt64 ((I (40 + 2 * j23)) 2))) 3 (Int32.toInt64 ((I (40 + 2 * j23)) 3)))) 34) 2)) dX7_tangent_73 rfl rfl ?_
      refine ev_iast (pc' := 75) (j := 2) (I' := (ma_up J108 (40 + 2 * n2) (ma_up (J108 (40 + 2 * n2)) 2 (Int64.toInt32 (cPn ((ma_up (ma_up L 34 (ma_up (ma_up (ma_up (ma_up (L 34) 0 (Int32.toInt64 ((I (40 + 2 * j23)) 0))) 1 (Int32.toInt64 ((I (40 + 2 * j23)) 1))) 2 (Int32.toInt64 ((I (40 + 2 * j23)) 2))) 3 (Int32.toInt64 ((I (40 + 2 * j23)) 3)))) 35 (ma_up (ma_up (ma_up (ma_up (L 35) 0 (Int32.toInt64 ((I (40 + 2 * j23)) 0))) 1 (Int32.toInt64 ((I (40 + 2 * j23)) 1))) 2 (Int32.toInt64 ((I (40 + 2 * j23)) 2))) 3 (Int32.toInt64 ((I (40 + 2 * j23)) 3)))) (57 + 5 * j20)) ((ma_up (ma_up L 34 (ma_up (ma_up (ma_up (ma_up (L 34) 0 (Int32.toInt64 ((I (40 + 2 * j23)) 0))) 1 (Int32.toInt64 ((I (40 + 2 * j23)) 1))) 2 (Int32.toInt64 ((I (40 + 2 * j23)) 2))) 3 (Int32.toInt64 ((I (40 + 2 * j23)) 3)))) 35 (ma_up (ma_up (ma_up (ma_up (L 35) 0 (Int32.toInt64 ((I (40 + 2 * j23)) 0))) 1 (Int32.toInt64 ((I (40 + 2 * j23)) 1))) 2 (Int32.toInt64 ((I (40 + 2 * j23)) 2))) 3 (Int32.toInt64 ((I (40 + 2 * j23)) 3)))) 34) 2))))) dX7_tangent_74 rfl (hs_sheet n2 (by omega)).2.1 rfl (Nat.le_of_ble_eq_true rfl) (Nat.le_of_ble_eq_true rfl) rfl ?_
      refine ev_iinc (pc' := 78) (v := 3) (lv' := [some (.ref 3), some (.int (nI j20)), some (.int (nI j23)), some (.int (nI n2)), some (.int 0), some (.ref (39 + 2 * n2)), some (.int 3)]) dX7_tangent_75 rfl rfl (by decide) (Nat.le_of_ble_eq_true rfl) rfl rfl ?_
      refine ev_goto (tgt := 42) dX7_tangent_78 rfl ?_
      refine ev_memI (fun J109 hJ109 => ?_)
      refine ev_iload (pc' := 44) dX7_tangent_42 rfl rfl ?_
      refine ev_iconst (pc' := 45) (v := 4) dX7_tangent_44 rfl ki_4 ?_
      refine ev_icmp_ge (tgt := 81) (pc' := 48) dX7_tangent_45 rfl rfl (fun h => absurd h (by decide)) (fun _ => ?_)
      refine ev_aload (pc' := 50) dX7_tangent_48 rfl rfl ?_
      refine ev_getR (pc' := 53) fo_X7_95 dX7_tangent_50 rfl (hs_sheet n2 (by omega)).1 rfl (hs_sheet n2 (by omega)).2.2.1 ?_
      refine ev_iload (pc' := 55) dX7_tangent_53 rfl rfl ?_
      refine ev_aload_n (pc' := 56) (i := 0) dX7_tangent_55 rfl rfl rfl ?_
      refine ev_getR (pc' := 59) fo_X7_17 dX7_tangent_56 rfl hs_3 rfl rf_3_1 ?_
      refine ev_iload_n (pc' := 60) (i := 1) dX7_tangent_59 rfl rfl rfl ?_
      refine ev_aald (pc' := 61) (j := j20) (b := 55 + 5 * j20) dX7_tangent_60 rfl hs_5 (Or.inr rfl) rfl (by omega) (Nat.le_of_ble_eq_true rfl) (hs_ground j20 (by omega)).2.2.2.2.2.2.2.2.2 ?_
      refine ev_getR (pc' := 64) fo_X7_141 dX7_tangent_61 rfl (hs_ground j20 (by omega)).1 rfl (hs_ground j20 (by omega)).2.2.2.2.2.1 ?_
      refine ev_iload (pc' := 66) dX7_tangent_64 rfl rfl ?_
      refine ev_aload_n (pc' := 67) (i := 0) dX7_tangent_66 rfl rfl rfl ?_
      refine ev_getR (pc' := 70) fo_X7_52 dX7_tangent_67 rfl hs_3 rfl rf_3_7 ?_
      refine ev_callV (pc' := 73) (rm' := rX4_poleNumber) (b := 56 + 5 * j20) (av := [.int 3, .ref 34]) (rest := [.int 3, .ref (40 + 2 * n2)]) co_X7_210 ci_X4_poleNumber cv_X4_poleNumber dX7_tangent_70 rfl (hs_ground j20 (by omega)).2.1 hb_X4 rfl rfl (Nat.le_of_ble_eq_true rfl) ⟨(Nat.le_of_ble_eq_true rfl), (Nat.le_of_ble_eq_true rfl)⟩ ⟨(Nat.le_of_ble_eq_true rfl), (Nat.le_of_ble_eq_true rfl)⟩ ?_
      refine t_X4_poleNumber (56 + 5 * j20) (57 + 5 * j20) (hs_ground j20 (by omega)).2.1 (hs_ground j20 (by omega)).2.2.2.2.2.2.2.1 (hs_ground j20 (by omega)).2.2.1 3 34 (by omega) hs_34 ?_
      refine ev_l2i (pc' := 74) (v := Int64.toInt32 (cPn ((ma_up (ma_up L 34 (ma_up (ma_up (ma_up (ma_up (L 34) 0 (Int32.toInt64 ((I (40 + 2 * j23)) 0))) 1 (Int32.toInt64 ((I (40 + 2 * j23)) 1))) 2 (Int32.toInt64 ((I (40 + 2 * j23)) 2))) 3 (Int32.toInt64 ((I (40 + 2 * j23)) 3)))) 35 (ma_up (ma_up (ma_up (ma_up (L 35) 0 (Int32.toInt64 ((I (40 + 2 * j23)) 0))) 1 (Int32.toInt64 ((I (40 + 2 * j23)) 1))) 2 (Int32.toInt64 ((I (40 + 2 * j23)) 2))) 3 (Int32.toInt64 ((I (40 + 2 * j23)) 3)))) (57 + 5 * j20)) ((ma_up (ma_up L 34 (ma_up (ma_up (ma_up (ma_up (L 34) 0 (Int32.toInt64 ((I (40 + 2 * j23)) 0))) 1 (Int32.toInt64 ((I (40 + 2 * j23)) 1))) 2 (Int32.toInt64 ((I (40 + 2 * j23)) 2))) 3 (Int32.toInt64 ((I (40 + 2 * j23)) 3)))) 35 (ma_up (ma_up (ma_up (ma_up (L 35) 0 (Int32.toInt64 ((I (40 + 2 * j23)) 0))) 1 (Int32.toInt64 ((I (40 + 2 * j23)) 1))) 2 (Int32.toInt64 ((I (40 + 2 * j23)) 2))) 3 (Int32.toInt64 ((I (40 + 2 * j23)) 3)))) 34) 3)) dX7_tangent_73 rfl rfl ?_
      refine ev_iast (pc' := 75) (j := 3) (I' := (ma_up J109 (40 + 2 * n2) (ma_up (J109 (40 + 2 * n2)) 3 (Int64.toInt32 (cPn ((ma_up (ma_up L 34 (ma_up (ma_up (ma_up (ma_up (L 34) 0 (Int32.toInt64 ((I (40 + 2 * j23)) 0))) 1 (Int32.toInt64 ((I (40 + 2 * j23)) 1))) 2 (Int32.toInt64 ((I (40 + 2 * j23)) 2))) 3 (Int32.toInt64 ((I (40 + 2 * j23)) 3)))) 35 (ma_up (ma_up (ma_up (ma_up (L 35) 0 (Int32.toInt64 ((I (40 + 2 * j23)) 0))) 1 (Int32.toInt64 ((I (40 + 2 * j23)) 1))) 2 (Int32.toInt64 ((I (40 + 2 * j23)) 2))) 3 (Int32.toInt64 ((I (40 + 2 * j23)) 3)))) (57 + 5 * j20)) ((ma_up (ma_up L 34 (ma_up (ma_up (ma_up (ma_up (L 34) 0 (Int32.toInt64 ((I (40 + 2 * j23)) 0))) 1 (Int32.toInt64 ((I (40 + 2 * j23)) 1))) 2 (Int32.toInt64 ((I (40 + 2 * j23)) 2))) 3 (Int32.toInt64 ((I (40 + 2 * j23)) 3)))) 35 (ma_up (ma_up (ma_up (ma_up (L 35) 0 (Int32.toInt64 ((I (40 + 2 * j23)) 0))) 1 (Int32.toInt64 ((I (40 + 2 * j23)) 1))) 2 (Int32.toInt64 ((I (40 + 2 * j23)) 2))) 3 (Int32.toInt64 ((I (40 + 2 * j23)) 3)))) 34) 3))))) dX7_tangent_74 rfl (hs_sheet n2 (by omega)).2.1 rfl (Nat.le_of_ble_eq_true rfl) (Nat.le_of_ble_eq_true rfl) rfl ?_
      refine ev_iinc (pc' := 78) (v := 4) (lv' := [some (.ref 3), some (.int (nI j20)), some (.int (nI j23)), some (.int (nI n2)), some (.int 0), some (.ref (39 + 2 * n2)), some (.int 4)]) dX7_tangent_75 rfl rfl (by decide) (Nat.le_of_ble_eq_true rfl) rfl rfl ?_
      refine ev_goto (tgt := 42) dX7_tangent_78 rfl ?_
      refine ev_memI (fun J110 hJ110 => ?_)
      refine ev_iload (pc' := 44) dX7_tangent_42 rfl rfl ?_
      refine ev_iconst (pc' := 45) (v := 4) dX7_tangent_44 rfl ki_4 ?_
      refine ev_icmp_ge (tgt := 81) (pc' := 48) dX7_tangent_45 rfl rfl (fun _ => ?_) (fun h => absurd (by decide) h)
      refine ev_iconst (pc' := 82) (v := 1) dX7_tangent_81 rfl ki_1 ?_
      refine ev_iret dX7_tangent_82 rfl rfl ⟨Nat.le_refl _, Nat.le_refl _⟩ ?_
      exact k4 n2 hn2 rfl j20 h21 rfl j23 h24 rfl h26 h27 h28 h29 h30 h31 h32 h33 J106 hJ106 J107 hJ107 J108 hJ108 J109 hJ109 J110 hJ110
    · subst e36
      subst e39
      refine ev_istore (pc' := 17) (lv' := [some (.ref 3), some (.int (nI j34)), some (.int (nI j37)), some (.int (nI n2)), some (.int (-3)), none, none]) dX7_tangent_15 rfl (Nat.le_of_ble_eq_true rfl) rfl rfl ?_
      refine ev_iload (pc' := 19) dX7_tangent_17 rfl rfl ?_
      refine ev_if_eq (tgt := 25) (pc' := 22) dX7_tangent_19 rfl rfl (fun h => absurd h (by decide)) (fun _ => ?_)
      refine ev_iload (pc' := 24) dX7_tangent_22 rfl rfl ?_
      refine ev_iret dX7_tangent_24 rfl rfl ⟨Nat.le_refl _, Nat.le_refl _⟩ ?_
      exact k5 n2 hn2 rfl j34 h35 rfl j37 h38 rfl h40 h41 h42 h43 h44 h45 h46 h47
    · subst e50
      subst e53
      refine ev_istore (pc' := 17) (lv' := [some (.ref 3), some (.int (nI j48)), some (.int (nI j51)), some (.int (nI n2)), some (.int (-3)), none, none]) dX7_tangent_15 rfl (Nat.le_of_ble_eq_true rfl) rfl rfl ?_
      refine ev_iload (pc' := 19) dX7_tangent_17 rfl rfl ?_
      refine ev_if_eq (tgt := 25) (pc' := 22) dX7_tangent_19 rfl rfl (fun h => absurd h (by decide)) (fun _ => ?_)
      refine ev_iload (pc' := 24) dX7_tangent_22 rfl rfl ?_
      refine ev_iret dX7_tangent_24 rfl rfl ⟨Nat.le_refl _, Nat.le_refl _⟩ ?_
      exact k6 n2 hn2 rfl j48 h49 rfl j51 h52 rfl h54 h55 h56 h57 h58 h59 h60
    · subst e63
      subst e66
      refine ev_istore (pc' := 17) (lv' := [some (.ref 3), some (.int (nI j61)), some (.int (nI j64)), some (.int (nI n2)), some (.int (-3)), none, none]) dX7_tangent_15 rfl (Nat.le_of_ble_eq_true rfl) rfl rfl ?_
      refine ev_iload (pc' := 19) dX7_tangent_17 rfl rfl ?_
      refine ev_if_eq (tgt := 25) (pc' := 22) dX7_tangent_19 rfl rfl (fun h => absurd h (by decide)) (fun _ => ?_)
      refine ev_iload (pc' := 24) dX7_tangent_22 rfl rfl ?_
      refine ev_iret dX7_tangent_24 rfl rfl ⟨Nat.le_refl _, Nat.le_refl _⟩ ?_
      exact k7 n2 hn2 rfl j61 h62 rfl j64 h65 rfl h67 h68 h69 h70 h71 h72
    · subst e75
      subst e78
      refine ev_istore (pc' := 17) (lv' := [some (.ref 3), some (.int (nI j73)), some (.int (nI j76)), some (.int (nI n2)), some (.int (-3)), none, none]) dX7_tangent_15 rfl (Nat.le_of_ble_eq_true rfl) rfl rfl ?_
      refine ev_iload (pc' := 19) dX7_tangent_17 rfl rfl ?_
      refine ev_if_eq (tgt := 25) (pc' := 22) dX7_tangent_19 rfl rfl (fun h => absurd h (by decide)) (fun _ => ?_)
      refine ev_iload (pc' := 24) dX7_tangent_22 rfl rfl ?_
      refine ev_iret dX7_tangent_24 rfl rfl ⟨Nat.le_refl _, Nat.le_refl _⟩ ?_
      exact k8 n2 hn2 rfl j73 h74 rfl j76 h77 rfl h79 h80 h81 h82 h83
    · subst e86
      subst e89
      refine ev_istore (pc' := 17) (lv' := [some (.ref 3), some (.int (nI j84)), some (.int (nI j87)), some (.int (nI n2)), some (.int (-3)), none, none]) dX7_tangent_15 rfl (Nat.le_of_ble_eq_true rfl) rfl rfl ?_
      refine ev_iload (pc' := 19) dX7_tangent_17 rfl rfl ?_
      refine ev_if_eq (tgt := 25) (pc' := 22) dX7_tangent_19 rfl rfl (fun h => absurd h (by decide)) (fun _ => ?_)
      refine ev_iload (pc' := 24) dX7_tangent_22 rfl rfl ?_
      refine ev_iret dX7_tangent_24 rfl rfl ⟨Nat.le_refl _, Nat.le_refl _⟩ ?_
      exact k9 n2 hn2 rfl j84 h85 rfl j87 h88 rfl h90 h91 h92 h93
    · subst e96
      subst e99
      refine ev_istore (pc' := 17) (lv' := [some (.ref 3), some (.int (nI j94)), some (.int (nI j97)), some (.int (nI n2)), some (.int (-3)), none, none]) dX7_tangent_15 rfl (Nat.le_of_ble_eq_true rfl) rfl rfl ?_
      refine ev_iload (pc' := 19) dX7_tangent_17 rfl rfl ?_
      refine ev_if_eq (tgt := 25) (pc' := 22) dX7_tangent_19 rfl rfl (fun h => absurd h (by decide)) (fun _ => ?_)
      refine ev_iload (pc' := 24) dX7_tangent_22 rfl rfl ?_
      refine ev_iret dX7_tangent_24 rfl rfl ⟨Nat.le_refl _, Nat.le_refl _⟩ ?_
      exact k10 n2 hn2 rfl j94 h95 rfl j97 h98 rfl h100 h101
    · subst e104
      refine ev_istore (pc' := 17) (lv' := [some (.ref 3), some (.int (nI j102)), some (.int s), some (.int (nI n2)), some (.int (-1)), none, none]) dX7_tangent_15 rfl (Nat.le_of_ble_eq_true rfl) rfl rfl ?_
      refine ev_iload (pc' := 19) dX7_tangent_17 rfl rfl ?_
      refine ev_if_eq (tgt := 25) (pc' := 22) dX7_tangent_19 rfl rfl (fun h => absurd h (by decide)) (fun _ => ?_)
      refine ev_iload (pc' := 24) dX7_tangent_22 rfl rfl ?_
      refine ev_iret dX7_tangent_24 rfl rfl ⟨Nat.le_refl _, Nat.le_refl _⟩ ?_
      exact k11 n2 hn2 rfl j102 h103 rfl h105
  · refine ev_iconst (pc' := 8) (v := (-1)) dX7_tangent_7 rfl ki_m1 ?_
    refine ev_iret dX7_tangent_8 rfl rfl ⟨Nat.le_refl _, Nat.le_refl _⟩ ?_
    exact k12 c1
