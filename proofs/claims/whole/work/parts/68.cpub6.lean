theorem ac_i : Cond.initialized "java/lang/System" ∈ lw_tbl := tb_in_J10
theorem sz_nat {i z : Int32} (hz : z.toInt ≤ 16) (h0 : ¬ i < 0) (h1 : i < z) : ∃ n, n < 16 ∧ i = nI n := by
  rw [nb_lt, nb_0] at h0
  rw [nb_lt] at h1
  obtain ⟨n, _, h, e⟩ := nat_of (x := i) (lo := 0) (hi := 16) (by omega) (by omega) (by omega)
  exact ⟨n, h, e⟩
theorem hf_nat {i n z : Int32} (hz : z.toInt ≤ 16) (h : (¬ i < 0) ∧ ((¬ n < 0) ∧ ((¬ z < n) ∧ (¬ (z - n) < i)))) : ∃ a b, a + b ≤ 16 ∧ i = nI a ∧ n = nI b := by
  obtain ⟨h1, h2, h3, h4⟩ := h
  rw [nb_lt, nb_0] at h1 h2
  rw [nb_lt] at h3 h4
  rw [nb_subI (by omega) (by omega)] at h4
  obtain ⟨b, _, hb, eb⟩ := nat_of (x := n) (lo := 0) (hi := 17) (by omega) (by omega) (by omega)
  obtain ⟨a, _, ha, ea⟩ := nat_of (x := i) (lo := 0) (hi := 17) (by omega) (by omega) (by omega)
  have q1 : n.toInt = b := by rw [eb, nI_toInt (by omega)]
  have q2 : i.toInt = a := by rw [ea, nI_toInt (by omega)]
  exact ⟨a, b, by omega, ea, eb⟩
set_option maxRecDepth 4000 in
theorem t_X7_lay {g : ma_G} {Post : ma_P} {I : ma_I} {L : ma_L}  (s : Int32) (i : Int32) (v : Int32) (hS : ∀ s, s < 8 → (I (39 + 2 * s) 1).toInt ≤ 16) (k1 : ∀ n2 : Nat, (n2 < 8) → s = nI n2 → (¬ (¬ 0 ≤ ((I (39 + 2 * n2)) 1))) → (i < 0) → Post (some (.int (-3))) HS (cRf I 2) L RF 146) (k2 : ∀ n2 : Nat, (n2 < 8) → s = nI n2 → (¬ (¬ 0 ≤ ((I (39 + 2 * n2)) 1))) → ∀ m : Nat, (m < 16) → i = nI m → ((nI m) < ((I (39 + 2 * n2)) 1)) → ∀ J6 : ma_I, (J6 = (ma_up I 3 (ma_up (I 3) 13 ((I (40 + 2 * n2)) m)))) → Post (some (.int 1)) HS (ma_up J6 (40 + 2 * n2) (ma_up (J6 (40 + 2 * n2)) m v)) L RF 146) (k3 : ∀ n2 : Nat, (n2 < 8) → s = nI n2 → (¬ (¬ 0 ≤ ((I (39 + 2 * n2)) 1))) → (¬ i < 0) → (¬ i < ((I (39 + 2 * n2)) 1)) → Post (some (.int (-3))) HS (cRf I 2) L RF 146) (k4 : ∀ n2 : Nat, (n2 < 8) → s = nI n2 → (¬ 0 ≤ ((I (39 + 2 * n2)) 1)) → Post (some (.int (-3))) HS (cRf I 1) L RF 146) (k5 : ((s < 0) ∨ (¬ s < 8)) → Post (some (.int (-1))) HS I L RF 146) : CT g yX7_lay cX7_lay 5 (some .int) rX7_lay [.ref 3, .int s, .int i, .int v] Post HS I L RF 146 := by
  refine ct_of (lv := [some (.ref 3), some (.int s), some (.int i), some (.int v), none]) (by decide) (Nat.le_of_ble_eq_true rfl) rfl ?_
  refine ev_iload_n (pc' := 1) (i := 1) dX7_lay_0 rfl rfl rfl ?_
  refine ev_callS (pc' := 4) (rm' := rX7_noSheet) (av := [.int s]) (rest := []) co_X7_75 cs_X7_noSheet dX7_lay_1 rfl rfl rfl (Nat.le_of_ble_eq_true rfl) ⟨(Nat.le_of_ble_eq_true rfl), (Nat.le_of_ble_eq_true rfl)⟩ ⟨(Nat.le_of_ble_eq_true rfl), (Nat.le_of_ble_eq_true rfl)⟩ ?_
  refine t_X7_noSheet s  ?_
  refine ev_if_eq_b (tgt := 9) (pc' := 7) dX7_lay_4 rfl rfl (fun c1 => ?_) (fun c1 => ?_)
  · obtain ⟨n2, hn2, en2⟩ := in_ofn (n := 8) (by omega) rfl c1
    subst en2
    refine ev_aload_n (pc' := 10) (i := 0) dX7_lay_9 rfl rfl rfl ?_
    refine ev_getR (pc' := 13) fo_X7_11 dX7_lay_10 rfl hs_3 rfl rf_3_0 ?_
    refine ev_iload_n (pc' := 14) (i := 1) dX7_lay_13 rfl rfl rfl ?_
    refine ev_aald (pc' := 15) (j := n2) (b := 39 + 2 * n2) dX7_lay_14 rfl hs_4 (Or.inl rfl) rfl (by omega) (Nat.le_of_ble_eq_true rfl) (hs_sheet n2 (by omega)).2.2.2 ?_
    refine ev_astore (pc' := 17) (lv' := [some (.ref 3), some (.int (nI n2)), some (.int i), some (.int v), some (.ref (39 + 2 * n2))]) dX7_lay_15 rfl (Nat.le_of_ble_eq_true rfl) rfl rfl ?_
    refine ev_aload (pc' := 19) dX7_lay_17 rfl rfl ?_
    refine ev_callV (pc' := 22) (rm' := rX3_missing) (b := 39 + 2 * n2) (av := []) (rest := []) co_X7_87 ci_X3_missing cv_X3_missing dX7_lay_19 rfl (hs_sheet n2 (by omega)).1 hb_X3 rfl rfl (Nat.le_of_ble_eq_true rfl) ⟨(Nat.le_of_ble_eq_true rfl), (Nat.le_of_ble_eq_true rfl)⟩ ⟨(Nat.le_of_ble_eq_true rfl), (Nat.le_of_ble_eq_true rfl)⟩ ?_
    refine t_X3_missing (39 + 2 * n2) (40 + 2 * n2) (hs_sheet n2 (by omega)).1 (hs_sheet n2 (by omega)).2.2.1 (hs_sheet n2 (by omega)).2.1 (by omega) ?_
    refine ev_if_eq_b (tgt := 31) (pc' := 25) dX7_lay_22 rfl rfl (fun c3 => ?_) (fun c3 => ?_)
    · refine ev_iload_n (pc' := 32) (i := 2) dX7_lay_31 rfl rfl rfl ?_
      refine ev_if_lt (tgt := 44) (pc' := 35) dX7_lay_32 rfl rfl (fun c4 => ?_) (fun c4 => ?_)
      · refine ev_aload_n (pc' := 45) (i := 0) dX7_lay_44 rfl rfl rfl ?_
        refine ev_iconst (pc' := 46) (v := 2) dX7_lay_45 rfl ki_2 ?_
        refine ev_callV (pc' := 49) (rm' := rX7_refuse) (b := 3) (av := [.int 2]) (rest := []) co_X7_79 ci_X7_refuse cv_X7_refuse dX7_lay_46 rfl hs_3 hb_X7 rfl rfl (Nat.le_of_ble_eq_true rfl) ⟨(Nat.le_of_ble_eq_true rfl), (Nat.le_of_ble_eq_true rfl)⟩ ⟨(Nat.le_of_ble_eq_true rfl), (Nat.le_of_ble_eq_true rfl)⟩ ?_
        refine t_X7_refuse2 ?_
        refine ev_cRf 2 ?_
        refine ev_iret dX7_lay_49 rfl rfl ⟨Nat.le_refl _, Nat.le_refl _⟩ ?_
        exact k1 n2 hn2 rfl c3 c4
      · refine ev_iload_n (pc' := 36) (i := 2) dX7_lay_35 rfl rfl rfl ?_
        refine ev_aload (pc' := 38) dX7_lay_36 rfl rfl ?_
        refine ev_getI (pc' := 41) (v := (I (39 + 2 * n2)) 1) fo_X7_91 dX7_lay_38 rfl (hs_sheet n2 (by omega)).1 rfl rfl ?_
        refine ev_icmp_lt (tgt := 50) (pc' := 44) dX7_lay_41 rfl rfl (fun c5 => ?_) (fun c5 => ?_)
        · obtain ⟨m, hm, em⟩ := sz_nat (hS n2 (by omega)) c4 c5
          subst em
          refine ev_aload_n (pc' := 51) (i := 0) dX7_lay_50 rfl rfl rfl ?_
          refine ev_aload (pc' := 53) dX7_lay_51 rfl rfl ?_
          refine ev_getR (pc' := 56) fo_X7_95 dX7_lay_53 rfl (hs_sheet n2 (by omega)).1 rfl (hs_sheet n2 (by omega)).2.2.1 ?_
          refine ev_iload_n (pc' := 57) (i := 2) dX7_lay_56 rfl rfl rfl ?_
          refine ev_iald (pc' := 58) (j := m) (v := (I (40 + 2 * n2)) m) dX7_lay_57 rfl (hs_sheet n2 (by omega)).2.1 rfl (by omega) (Nat.le_of_ble_eq_true rfl) rfl ?_
          refine ev_putI (pc' := 61) (I' := (ma_up I 3 (ma_up (I 3) 13 ((I (40 + 2 * n2)) m)))) fo_X7_98 dX7_lay_58 rfl hs_3 rfl (fun r hr => by cases hr; rfl) ⟨rfl, rfl⟩ rfl ?_
          refine ev_memI (fun J6 hJ6 => ?_)
          refine ev_aload (pc' := 63) dX7_lay_61 rfl rfl ?_
          refine ev_getR (pc' := 66) fo_X7_95 dX7_lay_63 rfl (hs_sheet n2 (by omega)).1 rfl (hs_sheet n2 (by omega)).2.2.1 ?_
          refine ev_iload_n (pc' := 67) (i := 2) dX7_lay_66 rfl rfl rfl ?_
          refine ev_iload_n (pc' := 68) (i := 3) dX7_lay_67 rfl rfl rfl ?_
          refine ev_iast (pc' := 69) (j := m) (I' := (ma_up J6 (40 + 2 * n2) (ma_up (J6 (40 + 2 * n2)) m v))) dX7_lay_68 rfl (hs_sheet n2 (by omega)).2.1 rfl (by omega) (Nat.le_of_ble_eq_true rfl) rfl ?_
          refine ev_iconst (pc' := 70) (v := 1) dX7_lay_69 rfl ki_1 ?_
          refine ev_iret dX7_lay_70 rfl rfl ⟨Nat.le_refl _, Nat.le_refl _⟩ ?_
          exact k2 n2 hn2 rfl c3 m hm rfl c5 J6 hJ6
        · refine ev_aload_n (pc' := 45) (i := 0) dX7_lay_44 rfl rfl rfl ?_
          refine ev_iconst (pc' := 46) (v := 2) dX7_lay_45 rfl ki_2 ?_
          refine ev_callV (pc' := 49) (rm' := rX7_refuse) (b := 3) (av := [.int 2]) (rest := []) co_X7_79 ci_X7_refuse cv_X7_refuse dX7_lay_46 rfl hs_3 hb_X7 rfl rfl (Nat.le_of_ble_eq_true rfl) ⟨(Nat.le_of_ble_eq_true rfl), (Nat.le_of_ble_eq_true rfl)⟩ ⟨(Nat.le_of_ble_eq_true rfl), (Nat.le_of_ble_eq_true rfl)⟩ ?_
          refine t_X7_refuse2 ?_
          refine ev_cRf 2 ?_
          refine ev_iret dX7_lay_49 rfl rfl ⟨Nat.le_refl _, Nat.le_refl _⟩ ?_
          exact k3 n2 hn2 rfl c3 c4 c5
    · refine ev_aload_n (pc' := 26) (i := 0) dX7_lay_25 rfl rfl rfl ?_
      refine ev_iconst (pc' := 27) (v := 1) dX7_lay_26 rfl ki_1 ?_
      refine ev_callV (pc' := 30) (rm' := rX7_refuse) (b := 3) (av := [.int 1]) (rest := []) co_X7_79 ci_X7_refuse cv_X7_refuse dX7_lay_27 rfl hs_3 hb_X7 rfl rfl (Nat.le_of_ble_eq_true rfl) ⟨(Nat.le_of_ble_eq_true rfl), (Nat.le_of_ble_eq_true rfl)⟩ ⟨(Nat.le_of_ble_eq_true rfl), (Nat.le_of_ble_eq_true rfl)⟩ ?_
      refine t_X7_refuse1 ?_
      refine ev_cRf 1 ?_
      refine ev_iret dX7_lay_30 rfl rfl ⟨Nat.le_refl _, Nat.le_refl _⟩ ?_
      exact k4 n2 hn2 rfl c3
  · refine ev_iconst (pc' := 8) (v := (-1)) dX7_lay_7 rfl ki_m1 ?_
    refine ev_iret dX7_lay_8 rfl rfl ⟨Nat.le_refl _, Nat.le_refl _⟩ ?_
    exact k5 c1
set_option maxRecDepth 4000 in
theorem t_X7_copy {g : ma_G} {Post : ma_P} {I : ma_I} {L : ma_L}  (s : Int32) (i : Int32) (t : Int32) (j : Int32) (n : Int32) (hS : ∀ s, s < 8 → (I (39 + 2 * s) 1).toInt ≤ 16) (k1 : ((s < 0) ∨ (¬ s < 8)) → Post (some (.int (-1))) HS I L RF 146) (k2 : ∀ n2 : Nat, (n2 < 8) → s = nI n2 → ∀ n4 : Nat, (n4 < 8) → t = nI n4 → (0 ≤ n) → (¬ 0 ≤ ((I (39 + 2 * n2)) 1)) → Post (some (.int (-3))) HS (cRf I 1) L RF 146) (k3 : ∀ n2 : Nat, (n2 < 8) → s = nI n2 → ∀ n4 : Nat, (n4 < 8) → t = nI n4 → (0 ≤ n) → (¬ (¬ 0 ≤ ((I (39 + 2 * n2)) 1))) → (¬ (¬ 0 ≤ ((I (39 + 2 * n4)) 1))) → (¬ ((¬ i < 0) ∧ ((¬ n < 0) ∧ ((¬ ((I (39 + 2 * n2)) 1) < n) ∧ (¬ (((I (39 + 2 * n2)) 1) - n) < i))))) → Post (some (.int (-3))) HS (cRf I 2) L RF 146) (k4 : ∀ n2 : Nat, (n2 < 8) → s = nI n2 → ∀ n4 : Nat, (n4 < 8) → t = nI n4 → (¬ (¬ 0 ≤ ((I (39 + 2 * n2)) 1))) → (¬ (¬ 0 ≤ ((I (39 + 2 * n4)) 1))) → ∀ a1 : Nat, ∀ b1 : Nat, ∀ a2 : Nat, (a1 + b1 ≤ 16) → (a2 + b1 ≤ 16) → i = nI a1 → j = nI a2 → n = nI b1 → (0 ≤ (nI b1)) → ((¬ (nI a1) < 0) ∧ ((¬ (nI b1) < 0) ∧ ((¬ ((I (39 + 2 * n2)) 1) < (nI b1)) ∧ (¬ (((I (39 + 2 * n2)) 1) - (nI b1)) < (nI a1))))) → ((¬ (nI a2) < 0) ∧ ((¬ (nI b1) < 0) ∧ ((¬ ((I (39 + 2 * n4)) 1) < (nI b1)) ∧ (¬ (((I (39 + 2 * n4)) 1) - (nI b1)) < (nI a2))))) → Post (some (.int 1)) HS (ma_up I (40 + 2 * n4) (va_cpy (I (40 + 2 * n2)) (I (40 + 2 * n4)) a1 a2 b1)) L RF 146) (k5 : ∀ n2 : Nat, (n2 < 8) → s = nI n2 → ∀ n4 : Nat, (n4 < 8) → t = nI n4 → (0 ≤ n) → (¬ (¬ 0 ≤ ((I (39 + 2 * n2)) 1))) → (¬ (¬ 0 ≤ ((I (39 + 2 * n4)) 1))) → ((¬ i < 0) ∧ ((¬ n < 0) ∧ ((¬ ((I (39 + 2 * n2)) 1) < n) ∧ (¬ (((I (39 + 2 * n2)) 1) - n) < i)))) → (¬ ((¬ j < 0) ∧ ((¬ n < 0) ∧ ((¬ ((I (39 + 2 * n4)) 1) < n) ∧ (¬ (((I (39 + 2 * n4)) 1) - n) < j))))) → Post (some (.int (-3))) HS (cRf I 2) L RF 146) (k6 : ∀ n2 : Nat, (n2 < 8) → s = nI n2 → ∀ n4 : Nat, (n4 < 8) → t = nI n4 → (0 ≤ n) → (¬ (¬ 0 ≤ ((I (39 + 2 * n2)) 1))) → (¬ 0 ≤ ((I (39 + 2 * n4)) 1)) → Post (some (.int (-3))) HS (cRf I 1) L RF 146) (k7 : ∀ n2 : Nat, (n2 < 8) → s = nI n2 → ∀ n4 : Nat, (n4 < 8) → t = nI n4 → (¬ 0 ≤ n) → Post (some (.int (-3))) HS (cRf I 5) L RF 146) (k8 : ∀ n2 : Nat, (n2 < 8) → s = nI n2 → ((t < 0) ∨ (¬ t < 8)) → Post (some (.int (-1))) HS I L RF 146) : CT g yX7_copy cX7_copy 8 (some .int) rX7_copy [.ref 3, .int s, .int i, .int t, .int j, .int n] Post HS I L RF 146 := by
  refine ct_of (lv := [some (.ref 3), some (.int s), some (.int i), some (.int t), some (.int j), some (.int n), none, none]) (by decide) (Nat.le_of_ble_eq_true rfl) rfl ?_
  refine ev_iload_n (pc' := 1) (i := 1) dX7_copy_0 rfl rfl rfl ?_
  refine ev_callS (pc' := 4) (rm' := rX7_noSheet) (av := [.int s]) (rest := []) co_X7_75 cs_X7_noSheet dX7_copy_1 rfl rfl rfl (Nat.le_of_ble_eq_true rfl) ⟨(Nat.le_of_ble_eq_true rfl), (Nat.le_of_ble_eq_true rfl)⟩ ⟨(Nat.le_of_ble_eq_true rfl), (Nat.le_of_ble_eq_true rfl)⟩ ?_
  refine t_X7_noSheet s  ?_
  refine ev_if_ne_b (tgt := 14) (pc' := 7) dX7_copy_4 rfl rfl (fun c1 => ?_) (fun c1 => ?_)
  · refine ev_iconst (pc' := 15) (v := (-1)) dX7_copy_14 rfl ki_m1 ?_
    refine ev_iret dX7_copy_15 rfl rfl ⟨Nat.le_refl _, Nat.le_refl _⟩ ?_
    exact k1 c1
  · obtain ⟨n2, hn2, en2⟩ := in_ofn (n := 8) (by omega) rfl c1
    subst en2
    refine ev_iload_n (pc' := 8) (i := 3) dX7_copy_7 rfl rfl rfl ?_
    refine ev_callS (pc' := 11) (rm' := rX7_noSheet) (av := [.int t]) (rest := []) co_X7_75 cs_X7_noSheet dX7_copy_8 rfl rfl rfl (Nat.le_of_ble_eq_true rfl) ⟨(Nat.le_of_ble_eq_true rfl), (Nat.le_of_ble_eq_true rfl)⟩ ⟨(Nat.le_of_ble_eq_true rfl), (Nat.le_of_ble_eq_true rfl)⟩ ?_
    refine t_X7_noSheet t  ?_
    refine ev_if_eq_b (tgt := 16) (pc' := 14) dX7_copy_11 rfl rfl (fun c3 => ?_) (fun c3 => ?_)
    · obtain ⟨n4, hn4, en4⟩ := in_ofn (n := 8) (by omega) rfl c3
      subst en4
      refine ev_iload (pc' := 18) dX7_copy_16 rfl rfl ?_
      refine ev_if_ge (tgt := 27) (pc' := 21) dX7_copy_18 rfl rfl (fun c5 => ?_) (fun c5 => ?_)
      · refine ev_aload_n (pc' := 28) (i := 0) dX7_copy_27 rfl rfl rfl ?_
        refine ev_getR (pc' := 31) fo_X7_11 dX7_copy_28 rfl hs_3 rfl rf_3_0 ?_
        refine ev_iload_n (pc' := 32) (i := 1) dX7_copy_31 rfl rfl rfl ?_
        refine ev_aald (pc' := 33) (j := n2) (b := 39 + 2 * n2) dX7_copy_32 rfl hs_4 (Or.inl rfl) rfl (by omega) (Nat.le_of_ble_eq_true rfl) (hs_sheet n2 (by omega)).2.2.2 ?_
        refine ev_astore (pc' := 35) (lv' := [some (.ref 3), some (.int (nI n2)), some (.int i), some (.int (nI n4)), some (.int j), some (.int n), some (.ref (39 + 2 * n2)), none]) dX7_copy_33 rfl (Nat.le_of_ble_eq_true rfl) rfl rfl ?_
        refine ev_aload_n (pc' := 36) (i := 0) dX7_copy_35 rfl rfl rfl ?_
        refine ev_getR (pc' := 39) fo_X7_11 dX7_copy_36 rfl hs_3 rfl rf_3_0 ?_
        refine ev_iload_n (pc' := 40) (i := 3) dX7_copy_39 rfl rfl rfl ?_
        refine ev_aald (pc' := 41) (j := n4) (b := 39 + 2 * n4) dX7_copy_40 rfl hs_4 (Or.inl rfl) rfl (by omega) (Nat.le_of_ble_eq_true rfl) (hs_sheet n4 (by omega)).2.2.2 ?_
        refine ev_astore (pc' := 43) (lv' := [some (.ref 3), some (.int (nI n2)), some (.int i), some (.int (nI n4)), some (.int j), some (.int n), some (.ref (39 + 2 * n2)), some (.ref (39 + 2 * n4))]) dX7_copy_41 rfl (Nat.le_of_ble_eq_true rfl) rfl rfl ?_
        refine ev_aload (pc' := 45) dX7_copy_43 rfl rfl ?_
        refine ev_callV (pc' := 48) (rm' := rX3_missing) (b := 39 + 2 * n2) (av := []) (rest := []) co_X7_87 ci_X3_missing cv_X3_missing dX7_copy_45 rfl (hs_sheet n2 (by omega)).1 hb_X3 rfl rfl (Nat.le_of_ble_eq_true rfl) ⟨(Nat.le_of_ble_eq_true rfl), (Nat.le_of_ble_eq_true rfl)⟩ ⟨(Nat.le_of_ble_eq_true rfl), (Nat.le_of_ble_eq_true rfl)⟩ ?_
        refine t_X3_missing (39 + 2 * n2) (40 + 2 * n2) (hs_sheet n2 (by omega)).1 (hs_sheet n2 (by omega)).2.2.1 (hs_sheet n2 (by omega)).2.1 (by omega) ?_
        refine ev_if_ne_b (tgt := 59) (pc' := 51) dX7_copy_48 rfl rfl (fun c6 => ?_) (fun c6 => ?_)
        · refine ev_aload_n (pc' := 60) (i := 0) dX7_copy_59 rfl rfl rfl ?_
          refine ev_iconst (pc' := 61) (v := 1) dX7_copy_60 rfl ki_1 ?_
          refine ev_callV (pc' := 64) (rm' := rX7_refuse) (b := 3) (av := [.int 1]) (rest := []) co_X7_79 ci_X7_refuse cv_X7_refuse dX7_copy_61 rfl hs_3 hb_X7 rfl rfl (Nat.le_of_ble_eq_true rfl) ⟨(Nat.le_of_ble_eq_true rfl), (Nat.le_of_ble_eq_true rfl)⟩ ⟨(Nat.le_of_ble_eq_true rfl), (Nat.le_of_ble_eq_true rfl)⟩ ?_
          refine t_X7_refuse1 ?_
          refine ev_cRf 1 ?_
          refine ev_iret dX7_copy_64 rfl rfl ⟨Nat.le_refl _, Nat.le_refl _⟩ ?_
          exact k2 n2 hn2 rfl n4 hn4 rfl c5 c6
        · refine ev_aload (pc' := 53) dX7_copy_51 rfl rfl ?_
          refine ev_callV (pc' := 56) (rm' := rX3_missing) (b := 39 + 2 * n4) (av := []) (rest := []) co_X7_87 ci_X3_missing cv_X3_missing dX7_copy_53 rfl (hs_sheet n4 (by omega)).1 hb_X3 rfl rfl (Nat.le_of_ble_eq_true rfl) ⟨(Nat.le_of_ble_eq_true rfl), (Nat.le_of_ble_eq_true rfl)⟩ ⟨(Nat.le_of_ble_eq_true rfl), (Nat.le_of_ble_eq_true rfl)⟩ ?_
          refine t_X3_missing (39 + 2 * n4) (40 + 2 * n4) (hs_sheet n4 (by omega)).1 (hs_sheet n4 (by omega)).2.2.1 (hs_sheet n4 (by omega)).2.1 (by omega) ?_
          refine ev_if_eq_b (tgt := 65) (pc' := 59) dX7_copy_56 rfl rfl (fun c7 => ?_) (fun c7 => ?_)
          · refine ev_aload (pc' := 67) dX7_copy_65 rfl rfl ?_
            refine ev_iload_n (pc' := 68) (i := 2) dX7_copy_67 rfl rfl rfl ?_
            refine ev_iload (pc' := 70) dX7_copy_68 rfl rfl ?_
            refine ev_callV (pc' := 73) (rm' := rX3_hasFrom) (b := 39 + 2 * n2) (av := [.int i, .int n]) (rest := []) co_X7_104 ci_X3_hasFrom cv_X3_hasFrom dX7_copy_70 rfl (hs_sheet n2 (by omega)).1 hb_X3 rfl rfl (Nat.le_of_ble_eq_true rfl) ⟨(Nat.le_of_ble_eq_true rfl), (Nat.le_of_ble_eq_true rfl)⟩ ⟨(Nat.le_of_ble_eq_true rfl), (Nat.le_of_ble_eq_true rfl)⟩ ?_
            refine t_X3_hasFrom (39 + 2 * n2) (40 + 2 * n2) (hs_sheet n2 (by omega)).1 (hs_sheet n2 (by omega)).2.2.1 (hs_sheet n2 (by omega)).2.1 (by omega) i n ?_
            refine ev_if_eq_b (tgt := 88) (pc' := 76) dX7_copy_73 rfl rfl (fun c8 => ?_) (fun c8 => ?_)
            · refine ev_aload_n (pc' := 89) (i := 0) dX7_copy_88 rfl rfl rfl ?_
              refine ev_iconst (pc' := 90) (v := 2) dX7_copy_89 rfl ki_2 ?_
              refine ev_callV (pc' := 93) (rm' := rX7_refuse) (b := 3) (av := [.int 2]) (rest := []) co_X7_79 ci_X7_refuse cv_X7_refuse dX7_copy_90 rfl hs_3 hb_X7 rfl rfl (Nat.le_of_ble_eq_true rfl) ⟨(Nat.le_of_ble_eq_true rfl), (Nat.le_of_ble_eq_true rfl)⟩ ⟨(Nat.le_of_ble_eq_true rfl), (Nat.le_of_ble_eq_true rfl)⟩ ?_
              refine t_X7_refuse2 ?_
              refine ev_cRf 2 ?_
              refine ev_iret dX7_copy_93 rfl rfl ⟨Nat.le_refl _, Nat.le_refl _⟩ ?_
              exact k3 n2 hn2 rfl n4 hn4 rfl c5 c6 c7 c8
            · refine ev_aload (pc' := 78) dX7_copy_76 rfl rfl ?_
              refine ev_iload (pc' := 80) dX7_copy_78 rfl rfl ?_
              refine ev_iload (pc' := 82) dX7_copy_80 rfl rfl ?_
              refine ev_callV (pc' := 85) (rm' := rX3_hasFrom) (b := 39 + 2 * n4) (av := [.int j, .int n]) (rest := []) co_X7_104 ci_X3_hasFrom cv_X3_hasFrom dX7_copy_82 rfl (hs_sheet n4 (by omega)).1 hb_X3 rfl rfl (Nat.le_of_ble_eq_true rfl) ⟨(Nat.le_of_ble_eq_true rfl), (Nat.le_of_ble_eq_true rfl)⟩ ⟨(Nat.le_of_ble_eq_true rfl), (Nat.le_of_ble_eq_true rfl)⟩ ?_
              refine t_X3_hasFrom (39 + 2 * n4) (40 + 2 * n4) (hs_sheet n4 (by omega)).1 (hs_sheet n4 (by omega)).2.2.1 (hs_sheet n4 (by omega)).2.1 (by omega) j n ?_
              refine ev_if_ne_b (tgt := 94) (pc' := 88) dX7_copy_85 rfl rfl (fun c9 => ?_) (fun c9 => ?_)
              · obtain ⟨a1, b1, hab1, e1, e2⟩ := hf_nat (hS n2 (by omega)) c8
                obtain ⟨a2, b2, hab2, e3, e4⟩ := hf_nat (hS n4 (by omega)) c9
                have e5 : b1 = b2 := nx_inj (e2.symm.trans e4) (by omega) (by omega)
                subst e5
                subst e1
                subst e3
                subst e2
                refine ev_aload (pc' := 96) dX7_copy_94 rfl rfl ?_
                refine ev_getR (pc' := 99) fo_X7_95 dX7_copy_96 rfl (hs_sheet n2 (by omega)).1 rfl (hs_sheet n2 (by omega)).2.2.1 ?_
                refine ev_iload_n (pc' := 100) (i := 2) dX7_copy_99 rfl rfl rfl ?_
                refine ev_aload (pc' := 102) dX7_copy_100 rfl rfl ?_
                refine ev_getR (pc' := 105) fo_X7_95 dX7_copy_102 rfl (hs_sheet n4 (by omega)).1 rfl (hs_sheet n4 (by omega)).2.2.1 ?_
                refine ev_iload (pc' := 107) dX7_copy_105 rfl rfl ?_
                refine ev_iload (pc' := 109) dX7_copy_107 rfl rfl ?_
                refine ev_copy (pc' := 112) (I' := (ma_up I (40 + 2 * n4) (va_cpy (I (40 + 2 * n2)) (I (40 + 2 * n4)) a1 a2 b1))) ac_X7_108 ac_n ac_s ac_i dX7_copy_109 rfl (hs_sheet n2 (by omega)).2.1 (hs_sheet n4 (by omega)).2.1 rfl rfl rfl (by omega) (by omega) (Nat.le_of_ble_eq_true rfl) (Nat.le_of_ble_eq_true rfl) (Nat.le_of_ble_eq_true rfl) (Nat.le_of_ble_eq_true rfl) rfl ?_
                refine ev_iconst (pc' := 113) (v := 1) dX7_copy_112 rfl ki_1 ?_
                refine ev_iret dX7_copy_113 rfl rfl ⟨Nat.le_refl _, Nat.le_refl _⟩ ?_
                exact k4 n2 hn2 rfl n4 hn4 rfl c6 c7 a1 b1 a2 hab1 hab2 rfl rfl rfl c5 c8 c9
              · refine ev_aload_n (pc' := 89) (i := 0) dX7_copy_88 rfl rfl rfl ?_
                refine ev_iconst (pc' := 90) (v := 2) dX7_copy_89 rfl ki_2 ?_
                refine ev_callV (pc' := 93) (rm' := rX7_refuse) (b := 3) (av := [.int 2]) (rest := []) co_X7_79 ci_X7_refuse cv_X7_refuse dX7_copy_90 rfl hs_3 hb_X7 rfl rfl (Nat.le_of_ble_eq_true rfl) ⟨(Nat.le_of_ble_eq_true rfl), (Nat.le_of_ble_eq_true rfl)⟩ ⟨(Nat.le_of_ble_eq_true rfl), (Nat.le_of_ble_eq_true rfl)⟩ ?_
                refine t_X7_refuse2 ?_
                refine ev_cRf 2 ?_
                refine ev_iret dX7_copy_93 rfl rfl ⟨Nat.le_refl _, Nat.le_refl _⟩ ?_
                exact k5 n2 hn2 rfl n4 hn4 rfl c5 c6 c7 c8 c9
          · refine ev_aload_n (pc' := 60) (i := 0) dX7_copy_59 rfl rfl rfl ?_
            refine ev_iconst (pc' := 61) (v := 1) dX7_copy_60 rfl ki_1 ?_
            refine ev_callV (pc' := 64) (rm' := rX7_refuse) (b := 3) (av := [.int 1]) (rest := []) co_X7_79 ci_X7_refuse cv_X7_refuse dX7_copy_61 rfl hs_3 hb_X7 rfl rfl (Nat.le_of_ble_eq_true rfl) ⟨(Nat.le_of_ble_eq_true rfl), (Nat.le_of_ble_eq_true rfl)⟩ ⟨(Nat.le_of_ble_eq_true rfl), (Nat.le_of_ble_eq_true rfl)⟩ ?_
            refine t_X7_refuse1 ?_
            refine ev_cRf 1 ?_
            refine ev_iret dX7_copy_64 rfl rfl ⟨Nat.le_refl _, Nat.le_refl _⟩ ?_
            exact k6 n2 hn2 rfl n4 hn4 rfl c5 c6 c7
      · refine ev_aload_n (pc' := 22) (i := 0) dX7_copy_21 rfl rfl rfl ?_
        refine ev_iconst (pc' := 23) (v := 5) dX7_copy_22 rfl ki_5 ?_
        refine ev_callV (pc' := 26) (rm' := rX7_refuse) (b := 3) (av := [.int 5]) (rest := []) co_X7_79 ci_X7_refuse cv_X7_refuse dX7_copy_23 rfl hs_3 hb_X7 rfl rfl (Nat.le_of_ble_eq_true rfl) ⟨(Nat.le_of_ble_eq_true rfl), (Nat.le_of_ble_eq_true rfl)⟩ ⟨(Nat.le_of_ble_eq_true rfl), (Nat.le_of_ble_eq_true rfl)⟩ ?_
        refine t_X7_refuse5 ?_
        refine ev_cRf 5 ?_
        refine ev_iret dX7_copy_26 rfl rfl ⟨Nat.le_refl _, Nat.le_refl _⟩ ?_
        exact k7 n2 hn2 rfl n4 hn4 rfl c5
    · refine ev_iconst (pc' := 15) (v := (-1)) dX7_copy_14 rfl ki_m1 ?_
      refine ev_iret dX7_copy_15 rfl rfl ⟨Nat.le_refl _, Nat.le_refl _⟩ ?_
      exact k8 n2 hn2 rfl c3
set_option maxRecDepth 4000 in
theorem t_X7_place {g : ma_G} {Post : ma_P} {I : ma_I} {L : ma_L}  (i : Int32) (k : Int32)  (k1 : (k < 0) → Post (some (.int (-1))) HS I L RF 146) (k2 : (¬ k < 0) → (k ≤ 2) → (i < 0) → Post (some (.int (-9))) HS I L RF 146) (k3 : (¬ k < 0) → (k ≤ 2) → (¬ i < 0) → (100 ≤ i) → Post (some (.int (-9))) HS I L RF 146) (k4 : ∀ n6 : Nat, (0 ≤ n6) → (n6 < 100) → i = nI n6 → ((nI n6) < ((I 32) 1)) → ∀ n7 : Nat, (0 ≤ n7) → (n7 < 3) → k = nI n7 → Post (some (.int 1)) HS (ma_up I 3 (ma_up (I 3) 13 ((I 33) ((3 * n6) + n7)))) L RF 146) (k5 : (¬ k < 0) → (k ≤ 2) → (¬ i < 0) → (¬ 100 ≤ i) → (¬ i < ((I 32) 1)) → Post (some (.int (-9))) HS I L RF 146) (k6 : (¬ k < 0) → (¬ k ≤ 2) → Post (some (.int (-1))) HS I L RF 146) : CT g yX7_place cX7_place 3 (some .int) rX7_place [.ref 3, .int i, .int k] Post HS I L RF 146 := by
  refine ct_of (lv := [some (.ref 3), some (.int i), some (.int k)]) (by decide) (Nat.le_of_ble_eq_true rfl) rfl ?_
  refine ev_iload_n (pc' := 1) (i := 2) dX7_place_0 rfl rfl rfl ?_
  refine ev_if_lt (tgt := 9) (pc' := 4) dX7_place_1 rfl rfl (fun c1 => ?_) (fun c1 => ?_)
  · refine ev_iconst (pc' := 10) (v := (-1)) dX7_place_9 rfl ki_m1 ?_
    refine ev_iret dX7_place_10 rfl rfl ⟨Nat.le_refl _, Nat.le_refl _⟩ ?_
    exact k1 c1
  · refine ev_iload_n (pc' := 5) (i := 2) dX7_place_4 rfl rfl rfl ?_
    refine ev_iconst (pc' := 6) (v := 2) dX7_place_5 rfl ki_2 ?_
    refine ev_icmp_le (tgt := 11) (pc' := 9) dX7_place_6 rfl rfl (fun c2 => ?_) (fun c2 => ?_)
    · refine ev_iload_n (pc' := 12) (i := 1) dX7_place_11 rfl rfl rfl ?_
      refine ev_if_lt (tgt := 32) (pc' := 15) dX7_place_12 rfl rfl (fun c3 => ?_) (fun c3 => ?_)
      · refine ev_bipush (pc' := 34) (v := (-9)) dX7_place_32 rfl kb_m9 ?_
        refine ev_iret dX7_place_34 rfl rfl ⟨Nat.le_refl _, Nat.le_refl _⟩ ?_
        exact k2 c1 c2 c3
      · refine ev_iload_n (pc' := 16) (i := 1) dX7_place_15 rfl rfl rfl ?_
        refine ev_bipush (pc' := 18) (v := 100) dX7_place_16 rfl kb_100 ?_
        refine ev_icmp_ge (tgt := 32) (pc' := 21) dX7_place_18 rfl rfl (fun c4 => ?_) (fun c4 => ?_)
        · refine ev_bipush (pc' := 34) (v := (-9)) dX7_place_32 rfl kb_m9 ?_
          refine ev_iret dX7_place_34 rfl rfl ⟨Nat.le_refl _, Nat.le_refl _⟩ ?_
          exact k3 c1 c2 c3 c4
        · refine ev_iload_n (pc' := 22) (i := 1) dX7_place_21 rfl rfl rfl ?_
          refine ev_aload_n (pc' := 23) (i := 0) dX7_place_22 rfl rfl rfl ?_
          refine ev_getR (pc' := 26) fo_X7_48 dX7_place_23 rfl hs_3 rfl rf_3_6 ?_
          refine ev_getI (pc' := 29) (v := (I 32) 1) fo_X7_322 dX7_place_26 rfl hs_32 rfl rfl ?_
          refine ev_icmp_lt (tgt := 35) (pc' := 32) dX7_place_29 rfl rfl (fun c5 => ?_) (fun c5 => ?_)
          · obtain ⟨n6, gn6, hn6, en6⟩ := nat_of (x := i) (lo := 0) (hi := 100) (by have q := c3; rw [nb_lt] at q; have z : (0 : Int32).toInt = 0 := (by decide); omega) (by have q := c4; rw [nb_le] at q; have z : (100 : Int32).toInt = 100 := (by decide); omega) (by omega)
            subst en6
            obtain ⟨n7, gn7, hn7, en7⟩ := nat_of (x := k) (lo := 0) (hi := 3) (by have q := c1; rw [nb_lt] at q; have z : (0 : Int32).toInt = 0 := (by decide); omega) (by have q := c2; rw [nb_le] at q; have z : (2 : Int32).toInt = 2 := (by decide); omega) (by omega)
            subst en7
            refine ev_aload_n (pc' := 36) (i := 0) dX7_place_35 rfl rfl rfl ?_
            refine ev_aload_n (pc' := 37) (i := 0) dX7_place_36 rfl rfl rfl ?_
            refine ev_getR (pc' := 40) fo_X7_48 dX7_place_37 rfl hs_3 rfl rf_3_6 ?_
            refine ev_getR (pc' := 43) fo_X7_325 dX7_place_40 rfl hs_32 rfl rf_32_0 ?_
            refine ev_iconst (pc' := 44) (v := 3) dX7_place_43 rfl ki_3 ?_
            refine ev_iload_n (pc' := 45) (i := 1) dX7_place_44 rfl rfl rfl ?_
            refine ev_imul (pc' := 46) (v := nI (3 * n6)) dX7_place_45 rfl (pk_mul 3 n6) ?_
            refine ev_iload_n (pc' := 47) (i := 2) dX7_place_46 rfl rfl rfl ?_
            refine ev_iadd (pc' := 48) (v := nI ((3 * n6) + n7)) dX7_place_47 rfl (nI_add (3 * n6) n7) ?_
            refine ev_iald (pc' := 49) (j := (3 * n6) + n7) (v := (I 33) ((3 * n6) + n7)) dX7_place_48 rfl hs_33 rfl (by omega) (Nat.le_of_ble_eq_true rfl) rfl ?_
            refine ev_putI (pc' := 52) (I' := (ma_up I 3 (ma_up (I 3) 13 ((I 33) ((3 * n6) + n7))))) fo_X7_98 dX7_place_49 rfl hs_3 rfl (fun r hr => by cases hr; rfl) ⟨rfl, rfl⟩ rfl ?_
            refine ev_iconst (pc' := 53) (v := 1) dX7_place_52 rfl ki_1 ?_
            refine ev_iret dX7_place_53 rfl rfl ⟨Nat.le_refl _, Nat.le_refl _⟩ ?_
            exact k4 n6 gn6 hn6 rfl c5 n7 gn7 hn7 rfl
          · refine ev_bipush (pc' := 34) (v := (-9)) dX7_place_32 rfl kb_m9 ?_
            refine ev_iret dX7_place_34 rfl rfl ⟨Nat.le_refl _, Nat.le_refl _⟩ ?_
            exact k5 c1 c2 c3 c4 c5
    · refine ev_iconst (pc' := 10) (v := (-1)) dX7_place_9 rfl ki_m1 ?_
      refine ev_iret dX7_place_10 rfl rfl ⟨Nat.le_refl _, Nat.le_refl _⟩ ?_
      exact k6 c1 c2
def cTs (I : ma_I) : Nat → Int32
  | 0 => 0
  | s + 1 => if 0 ≤ (I (39 + 2 * s)) 1 then cTs I s + 1 else cTs I s
def cGt (I : ma_I) (x : Int32) : Nat → Int32
  | 0 => 0
  | g + 1 => if (¬ (I (55 + 5 * g)) 0 = 0) ∧ (x = 0 ∨ (I (59 + 5 * g)) 0 = x ∨ (x = 1 ∧ (I (59 + 5 * g)) 0 = 2)) then cGt I x g + 1 else cGt I x g
set_option maxRecDepth 4000 in
theorem t_X7_sheetsThere {g : ma_G} {Post : ma_P} {I : ma_I} {L : ma_L}    (k : Post (some (.int (cTs I 8))) HS I L RF 146) : CT g yX7_sheetsThere cX7_sheetsThere 3 (some .int) rX7_sheetsThere [.ref 3] Post HS I L RF 146 := by
  refine ct_of (lv := [some (.ref 3), none, none]) (by decide) (Nat.le_of_ble_eq_true rfl) rfl ?_
  refine ev_iconst (pc' := 1) (v := 0) dX7_sheetsThere_0 rfl ki_0 ?_
  refine ev_istore_n (pc' := 2) (i := 1) (lv' := [some (.ref 3), some (.int 0), none]) dX7_sheetsThere_1 rfl rfl (Nat.le_of_ble_eq_true rfl) rfl rfl ?_
  refine ev_iconst (pc' := 3) (v := 0) dX7_sheetsThere_2 rfl ki_0 ?_
  refine ev_istore_n (pc' := 4) (i := 2) (lv' := [some (.ref 3), some (.int 0), some (.int 0)]) dX7_sheetsThere_3 rfl rfl (Nat.le_of_ble_eq_true rfl) rfl rfl ?_
  suffices lp : ∀ (d s : Nat), s + d = 8 → EV g yX7_sheetsThere cX7_sheetsThere 3 (some .int) rX7_sheetsThere (ma_ZM g rX7_sheetsThere Post) 4 [some (.ref 3), some (.int (cTs I s)), some (.int (nI s))] [] HS I L RF 146 0 0 from lp 8 0 rfl
  intro d
  induction d with
  | zero =>
    intro s hs
    obtain rfl : s = 8 := by omega
    refine ev_iload_n (pc' := 5) (i := 2) dX7_sheetsThere_4 rfl rfl rfl ?_
    refine ev_bipush (pc' := 7) (v := 8) dX7_sheetsThere_5 rfl kb_8 ?_
    refine ev_icmp_ge (tgt := 31) (pc' := 10) dX7_sheetsThere_7 rfl rfl (fun _ => ?_) (fun h => absurd (nx_le (a := 8) (b := 8) (by omega) (by omega)) h)
    refine ev_iload_n (pc' := 32) (i := 1) dX7_sheetsThere_31 rfl rfl rfl ?_
    refine ev_iret dX7_sheetsThere_32 rfl rfl ⟨Nat.le_refl _, Nat.le_refl _⟩ ?_
    exact k
  | succ d ih =>
    intro s hs
    refine ev_iload_n (pc' := 5) (i := 2) dX7_sheetsThere_4 rfl rfl rfl ?_
    refine ev_bipush (pc' := 7) (v := 8) dX7_sheetsThere_5 rfl kb_8 ?_
    refine ev_icmp_ge (tgt := 31) (pc' := 10) dX7_sheetsThere_7 rfl rfl (fun h => absurd h (nx_nle (a := 8) (b := s) (by omega) (by omega))) (fun _ => ?_)
    refine ev_aload_n (pc' := 11) (i := 0) dX7_sheetsThere_10 rfl rfl rfl ?_
    refine ev_getR (pc' := 14) fo_X7_11 dX7_sheetsThere_11 rfl hs_3 rfl rf_3_0 ?_
    refine ev_iload_n (pc' := 15) (i := 2) dX7_sheetsThere_14 rfl rfl rfl ?_
    refine ev_aald (pc' := 16) (j := s) (b := 39 + 2 * s) dX7_sheetsThere_15 rfl hs_4 (Or.inl rfl) rfl (by omega) (Nat.le_of_ble_eq_true rfl) (hs_sheet s (by omega)).2.2.2 ?_
    refine ev_callV (pc' := 19) (rm' := rX3_missing) (b := 39 + 2 * s) (av := []) (rest := []) co_X7_87 ci_X3_missing cv_X3_missing dX7_sheetsThere_16 rfl (hs_sheet s (by omega)).1 hb_X3 rfl rfl (Nat.le_of_ble_eq_true rfl) ⟨(Nat.le_of_ble_eq_true rfl), (Nat.le_of_ble_eq_true rfl)⟩ ⟨(Nat.le_of_ble_eq_true rfl), (Nat.le_of_ble_eq_true rfl)⟩ ?_
    refine t_X3_missing (39 + 2 * s) (40 + 2 * s) (hs_sheet s (by omega)).1 (hs_sheet s (by omega)).2.2.1 (hs_sheet s (by omega)).2.1 (by omega) ?_
    refine ev_if_ne_b (tgt := 25) (pc' := 22) dX7_sheetsThere_19 rfl rfl (fun c1 => ?_) (fun c1 => ?_)
    · refine ev_iinc (pc' := 28) (v := nI (s + 1)) (lv' := [some (.ref 3), some (.int (cTs I s)), some (.int (nI (s + 1)))]) dX7_sheetsThere_25 rfl rfl (nI_add s 1) (Nat.le_of_ble_eq_true rfl) rfl rfl ?_
      refine ev_goto (tgt := 4) dX7_sheetsThere_28 rfl ?_
      have e : cTs I (s + 1) = cTs I s := if_neg c1
      rw [← e]
      exact ih (s + 1) (by omega)
    · refine ev_iinc (pc' := 25) (v := (cTs I s) + 1) (lv' := [some (.ref 3), some (.int ((cTs I s) + 1)), some (.int (nI s))]) dX7_sheetsThere_22 rfl rfl rfl (Nat.le_of_ble_eq_true rfl) rfl rfl ?_
      refine ev_iinc (pc' := 28) (v := nI (s + 1)) (lv' := [some (.ref 3), some (.int ((cTs I s) + 1)), some (.int (nI (s + 1)))]) dX7_sheetsThere_25 rfl rfl (nI_add s 1) (Nat.le_of_ble_eq_true rfl) rfl rfl ?_
      refine ev_goto (tgt := 4) dX7_sheetsThere_28 rfl ?_
      have e : cTs I (s + 1) = cTs I s + 1 := if_pos (Decidable.not_not.mp c1)
      rw [← e]
      exact ih (s + 1) (by omega)
set_option maxRecDepth 4000 in
theorem t_X7_groundsThere {g : ma_G} {Post : ma_P} {I : ma_I} {L : ma_L}  (x : Int32)  (k : Post (some (.int (cGt I x 12))) HS I L RF 146) : CT g yX7_groundsThere cX7_groundsThere 4 (some .int) rX7_groundsThere [.ref 3, .int x] Post HS I L RF 146 := by
  refine ct_of (lv := [some (.ref 3), some (.int x), none, none]) (by decide) (Nat.le_of_ble_eq_true rfl) rfl ?_
  refine ev_iconst (pc' := 1) (v := 0) dX7_groundsThere_0 rfl ki_0 ?_
  refine ev_istore_n (pc' := 2) (i := 2) (lv' := [some (.ref 3), some (.int x), some (.int 0), none]) dX7_groundsThere_1 rfl rfl (Nat.le_of_ble_eq_true rfl) rfl rfl ?_
  refine ev_iconst (pc' := 3) (v := 0) dX7_groundsThere_2 rfl ki_0 ?_
  refine ev_istore_n (pc' := 4) (i := 3) (lv' := [some (.ref 3), some (.int x), some (.int 0), some (.int 0)]) dX7_groundsThere_3 rfl rfl (Nat.le_of_ble_eq_true rfl) rfl rfl ?_
  suffices lp : ∀ (d q : Nat), q + d = 12 → EV g yX7_groundsThere cX7_groundsThere 4 (some .int) rX7_groundsThere (ma_ZM g rX7_groundsThere Post) 4 [some (.ref 3), some (.int x), some (.int (cGt I x q)), some (.int (nI q))] [] HS I L RF 146 0 0 from lp 12 0 rfl
  intro d
  induction d with
  | zero =>
    intro q hq
    obtain rfl : q = 12 := by omega
    refine ev_iload_n (pc' := 5) (i := 3) dX7_groundsThere_4 rfl rfl rfl ?_
    refine ev_bipush (pc' := 7) (v := 12) dX7_groundsThere_5 rfl kb_12 ?_
    refine ev_icmp_ge (tgt := 44) (pc' := 10) dX7_groundsThere_7 rfl rfl (fun _ => ?_) (fun h => absurd (nx_le (a := 12) (b := 12) (by omega) (by omega)) h)
    refine ev_iload_n (pc' := 45) (i := 2) dX7_groundsThere_44 rfl rfl rfl ?_
    refine ev_iret dX7_groundsThere_45 rfl rfl ⟨Nat.le_refl _, Nat.le_refl _⟩ ?_
    exact k
  | succ d ih =>
    intro q hq
    refine ev_iload_n (pc' := 5) (i := 3) dX7_groundsThere_4 rfl rfl rfl ?_
    refine ev_bipush (pc' := 7) (v := 12) dX7_groundsThere_5 rfl kb_12 ?_
    refine ev_icmp_ge (tgt := 44) (pc' := 10) dX7_groundsThere_7 rfl rfl (fun h => absurd h (nx_nle (a := 12) (b := q) (by omega) (by omega))) (fun _ => ?_)
    refine ev_aload_n (pc' := 11) (i := 0) dX7_groundsThere_10 rfl rfl rfl ?_
    refine ev_getR (pc' := 14) fo_X7_17 dX7_groundsThere_11 rfl hs_3 rfl rf_3_1 ?_
    refine ev_iload_n (pc' := 15) (i := 3) dX7_groundsThere_14 rfl rfl rfl ?_
    refine ev_aald (pc' := 16) (j := q) (b := 55 + 5 * q) dX7_groundsThere_15 rfl hs_5 (Or.inr rfl) rfl (by omega) (Nat.le_of_ble_eq_true rfl) (hs_ground q (by omega)).2.2.2.2.2.2.2.2.2 ?_
    refine ev_getI (pc' := 19) (v := (I (55 + 5 * q)) 0) fo_X7_134 dX7_groundsThere_16 rfl (hs_ground q (by omega)).1 rfl rfl ?_
    refine ev_if_eq (tgt := 38) (pc' := 22) dX7_groundsThere_19 rfl rfl (fun c1 => ?_) (fun c1 => ?_)
    · refine ev_iinc (pc' := 41) (v := nI (q + 1)) (lv' := [some (.ref 3), some (.int x), some (.int (cGt I x q)), some (.int (nI (q + 1)))]) dX7_groundsThere_38 rfl rfl (nI_add q 1) (Nat.le_of_ble_eq_true rfl) rfl rfl ?_
      refine ev_goto (tgt := 4) dX7_groundsThere_41 rfl ?_
      have e : cGt I x (q + 1) = cGt I x q := if_neg (fun z => z.1 c1)
      rw [← e]
      exact ih (q + 1) (by omega)
    · refine ev_aload_n (pc' := 23) (i := 0) dX7_groundsThere_22 rfl rfl rfl ?_
      refine ev_getR (pc' := 26) fo_X7_17 dX7_groundsThere_23 rfl hs_3 rfl rf_3_1 ?_
      refine ev_iload_n (pc' := 27) (i := 3) dX7_groundsThere_26 rfl rfl rfl ?_
      refine ev_aald (pc' := 28) (j := q) (b := 55 + 5 * q) dX7_groundsThere_27 rfl hs_5 (Or.inr rfl) rfl (by omega) (Nat.le_of_ble_eq_true rfl) (hs_ground q (by omega)).2.2.2.2.2.2.2.2.2 ?_
      refine ev_iload_n (pc' := 29) (i := 1) dX7_groundsThere_28 rfl rfl rfl ?_
      refine ev_callV (pc' := 32) (rm' := rX1_is) (b := 55 + 5 * q) (av := [.int x]) (rest := []) co_X7_150 ci_X1_is cv_X1_is dX7_groundsThere_29 rfl (hs_ground q (by omega)).1 hb_X1 rfl rfl (Nat.le_of_ble_eq_true rfl) ⟨(Nat.le_of_ble_eq_true rfl), (Nat.le_of_ble_eq_true rfl)⟩ ⟨(Nat.le_of_ble_eq_true rfl), (Nat.le_of_ble_eq_true rfl)⟩ ?_
      refine t_X1_is (55 + 5 * q) (56 + 5 * q) (59 + 5 * q) (hs_ground q (by omega)).1 (hs_ground q (by omega)).2.2.2.2.2.1 (hs_ground q (by omega)).2.2.2.2.2.2.1 (hs_ground q (by omega)).2.2.2.2.1 x (fun h2 => ?_) (fun h2 => ?_)
      · skip
        refine ev_if_eq (tgt := 38) (pc' := 35) dX7_groundsThere_32 rfl rfl (fun _ => ?_) (fun h => absurd (by decide) h)
        refine ev_iinc (pc' := 41) (v := nI (q + 1)) (lv' := [some (.ref 3), some (.int x), some (.int (cGt I x q)), some (.int (nI (q + 1)))]) dX7_groundsThere_38 rfl rfl (nI_add q 1) (Nat.le_of_ble_eq_true rfl) rfl rfl ?_
        refine ev_goto (tgt := 4) dX7_groundsThere_41 rfl ?_
        have e : cGt I x (q + 1) = cGt I x q := if_neg (fun z => h2 z.2)
        rw [← e]
        exact ih (q + 1) (by omega)
      · skip
        refine ev_if_eq (tgt := 38) (pc' := 35) dX7_groundsThere_32 rfl rfl (fun h => absurd h (by decide)) (fun _ => ?_)
        refine ev_iinc (pc' := 38) (v := (cGt I x q) + 1) (lv' := [some (.ref 3), some (.int x), some (.int ((cGt I x q) + 1)), some (.int (nI q))]) dX7_groundsThere_35 rfl rfl rfl (Nat.le_of_ble_eq_true rfl) rfl rfl ?_
        refine ev_iinc (pc' := 41) (v := nI (q + 1)) (lv' := [some (.ref 3), some (.int x), some (.int ((cGt I x q) + 1)), some (.int (nI (q + 1)))]) dX7_groundsThere_38 rfl rfl (nI_add q 1) (Nat.le_of_ble_eq_true rfl) rfl rfl ?_
        refine ev_goto (tgt := 4) dX7_groundsThere_41 rfl ?_
        have e : cGt I x (q + 1) = cGt I x q + 1 := if_pos ⟨c1, h2⟩
        rw [← e]
        exact ih (q + 1) (by omega)
set_option maxRecDepth 4000 in
theorem t_X7_count {g : ma_G} {Post : ma_P} {I : ma_I} {L : ma_L}  (x : Int32)  (k1 : (x = 0) → Post (some (.int (cTs I 8))) HS I L RF 146) (k2 : (x = 1) → Post (some (.int (cGt I 0 12))) HS I L RF 146) (k3 : (x = 2) → Post (some (.int (cGt I 3 12))) HS I L RF 146) (k4 : (x = 3) → Post (some (.int (cGt I 4 12))) HS I L RF 146) (k5 : (x = 4) → Post (some (.int (cGt I 1 12))) HS I L RF 146) (k6 : (¬ x = 0) → (¬ x = 1) → (¬ x = 2) → (¬ x = 3) → (¬ x = 4) → Post (some (.int (-1))) HS I L RF 146) : CT g yX7_count cX7_count 2 (some .int) rX7_count [.ref 3, .int x] Post HS I L RF 146 := by
  refine ct_of (lv := [some (.ref 3), some (.int x)]) (by decide) (Nat.le_of_ble_eq_true rfl) rfl ?_
  refine ev_iload_n (pc' := 1) (i := 1) dX7_count_0 rfl rfl rfl ?_
  by_cases c1 : x = 0
  · refine ev_tswIn (off := 35) (tgt := 36) dX7_count_1 (by rw [c1]; decide) (by rw [c1]; decide) (by rw [c1]; rfl) rfl ?_
    refine ev_aload_n (pc' := 37) (i := 0) dX7_count_36 rfl rfl rfl ?_
    refine ev_callV (pc' := 40) (rm' := rX7_sheetsThere) (b := 3) (av := []) (rest := []) co_X7_331 ci_X7_sheetsThere cv_X7_sheetsThere dX7_count_37 rfl hs_3 hb_X7 rfl rfl (Nat.le_of_ble_eq_true rfl) ⟨(Nat.le_of_ble_eq_true rfl), (Nat.le_of_ble_eq_true rfl)⟩ ⟨(Nat.le_of_ble_eq_true rfl), (Nat.le_of_ble_eq_true rfl)⟩ ?_
    refine t_X7_sheetsThere   ?_
    refine ev_iret dX7_count_40 rfl rfl ⟨Nat.le_refl _, Nat.le_refl _⟩ ?_
    exact k1 c1
  by_cases c2 : x = 1
  · refine ev_tswIn (off := 40) (tgt := 41) dX7_count_1 (by rw [c2]; decide) (by rw [c2]; decide) (by rw [c2]; rfl) rfl ?_
    refine ev_aload_n (pc' := 42) (i := 0) dX7_count_41 rfl rfl rfl ?_
    refine ev_iconst (pc' := 43) (v := 0) dX7_count_42 rfl ki_0 ?_
    refine ev_callV (pc' := 46) (rm' := rX7_groundsThere) (b := 3) (av := [.int 0]) (rest := []) co_X7_334 ci_X7_groundsThere cv_X7_groundsThere dX7_count_43 rfl hs_3 hb_X7 rfl rfl (Nat.le_of_ble_eq_true rfl) ⟨(Nat.le_of_ble_eq_true rfl), (Nat.le_of_ble_eq_true rfl)⟩ ⟨(Nat.le_of_ble_eq_true rfl), (Nat.le_of_ble_eq_true rfl)⟩ ?_
    refine t_X7_groundsThere 0  ?_
    refine ev_iret dX7_count_46 rfl rfl ⟨Nat.le_refl _, Nat.le_refl _⟩ ?_
    exact k2 c2
  by_cases c3 : x = 2
  · refine ev_tswIn (off := 46) (tgt := 47) dX7_count_1 (by rw [c3]; decide) (by rw [c3]; decide) (by rw [c3]; rfl) rfl ?_
    refine ev_aload_n (pc' := 48) (i := 0) dX7_count_47 rfl rfl rfl ?_
    refine ev_iconst (pc' := 49) (v := 3) dX7_count_48 rfl ki_3 ?_
    refine ev_callV (pc' := 52) (rm' := rX7_groundsThere) (b := 3) (av := [.int 3]) (rest := []) co_X7_334 ci_X7_groundsThere cv_X7_groundsThere dX7_count_49 rfl hs_3 hb_X7 rfl rfl (Nat.le_of_ble_eq_true rfl) ⟨(Nat.le_of_ble_eq_true rfl), (Nat.le_of_ble_eq_true rfl)⟩ ⟨(Nat.le_of_ble_eq_true rfl), (Nat.le_of_ble_eq_true rfl)⟩ ?_
    refine t_X7_groundsThere 3  ?_
    refine ev_iret dX7_count_52 rfl rfl ⟨Nat.le_refl _, Nat.le_refl _⟩ ?_
    exact k3 c3
  by_cases c4 : x = 3
  · refine ev_tswIn (off := 52) (tgt := 53) dX7_count_1 (by rw [c4]; decide) (by rw [c4]; decide) (by rw [c4]; rfl) rfl ?_
    refine ev_aload_n (pc' := 54) (i := 0) dX7_count_53 rfl rfl rfl ?_
    refine ev_iconst (pc' := 55) (v := 4) dX7_count_54 rfl ki_4 ?_
    refine ev_callV (pc' := 58) (rm' := rX7_groundsThere) (b := 3) (av := [.int 4]) (rest := []) co_X7_334 ci_X7_groundsThere cv_X7_groundsThere dX7_count_55 rfl hs_3 hb_X7 rfl rfl (Nat.le_of_ble_eq_true rfl) ⟨(Nat.le_of_ble_eq_true rfl), (Nat.le_of_ble_eq_true rfl)⟩ ⟨(Nat.le_of_ble_eq_true rfl), (Nat.le_of_ble_eq_true rfl)⟩ ?_
    refine t_X7_groundsThere 4  ?_
    refine ev_iret dX7_count_58 rfl rfl ⟨Nat.le_refl _, Nat.le_refl _⟩ ?_
    exact k4 c4
  by_cases c5 : x = 4
  · refine ev_tswIn (off := 58) (tgt := 59) dX7_count_1 (by rw [c5]; decide) (by rw [c5]; decide) (by rw [c5]; rfl) rfl ?_
    refine ev_aload_n (pc' := 60) (i := 0) dX7_count_59 rfl rfl rfl ?_
    refine ev_iconst (pc' := 61) (v := 1) dX7_count_60 rfl ki_1 ?_
    refine ev_callV (pc' := 64) (rm' := rX7_groundsThere) (b := 3) (av := [.int 1]) (rest := []) co_X7_334 ci_X7_groundsThere cv_X7_groundsThere dX7_count_61 rfl hs_3 hb_X7 rfl rfl (Nat.le_of_ble_eq_true rfl) ⟨(Nat.le_of_ble_eq_true rfl), (Nat.le_of_ble_eq_true rfl)⟩ ⟨(Nat.le_of_ble_eq_true rfl), (Nat.le_of_ble_eq_true rfl)⟩ ?_
    refine t_X7_groundsThere 1  ?_
    refine ev_iret dX7_count_64 rfl rfl ⟨Nat.le_refl _, Nat.le_refl _⟩ ?_
    exact k5 c5
  refine ev_tswOut (tgt := 65) dX7_count_1 (by have q0 : ¬ (x).toInt = 0 := fun q => c1 (nb_eq.mpr (q.trans (by decide))); have q1 : ¬ (x).toInt = 1 := fun q => c2 (nb_eq.mpr (q.trans (by decide))); have q2 : ¬ (x).toInt = 2 := fun q => c3 (nb_eq.mpr (q.trans (by decide))); have q3 : ¬ (x).toInt = 3 := fun q => c4 (nb_eq.mpr (q.trans (by decide))); have q4 : ¬ (x).toInt = 4 := fun q => c5 (nb_eq.mpr (q.trans (by decide))); omega) rfl ?_
  refine ev_iconst (pc' := 66) (v := (-1)) dX7_count_65 rfl ki_m1 ?_
  refine ev_iret dX7_count_66 rfl rfl ⟨Nat.le_refl _, Nat.le_refl _⟩ ?_
  exact k6 c1 c2 c3 c4 c5
