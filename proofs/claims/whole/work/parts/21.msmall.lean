theorem in_of2 {x : Int32} {n l : Nat} {m o : Int32} (hn : n < 2147483647 ∧ l < 2147483648) (hm : m = nI n) (ho : o = nI l) (h : (¬ x < o) ∧ (¬ m < x)) : ∃ j, l ≤ j ∧ j < n + 1 ∧ x = nI j := by
  subst hm; subst ho
  have hl : l < 2147483648 := hn.2
  · have h0 : ¬ x < 0 := by
      have h1 := h.1
      rw [nb_lt, nI_toInt hl] at h1
      rw [nb_lt, nb_0]
      omega
    obtain ⟨j, hj, rfl⟩ := nI_of h0
    refine ⟨j, ?_, ?_, rfl⟩
    · rcases Nat.lt_or_ge j l with q | q
      · exact absurd (nI_lt q hl) h.1
      · exact q
    · rcases Nat.lt_or_ge j (n + 1) with q | q
      · exact q
      · exact absurd (nI_lt q hj) h.2
theorem in_kp {x z : Int32} (h : (¬ x < 0) ∧ (¬ (z - 1) < x)) (h0 : 0 ≤ z.toInt) (hz : z.toInt ≤ 100) : ∃ m : Nat, m < 100 ∧ ((m : Int) < z.toInt) ∧ x = nI m := by
  obtain ⟨m, hm, rfl⟩ := nI_of h.1
  have h2 : (z - 1).toInt = z.toInt - 1 := by
    have : (1 : Int32).toInt = 1 := by decide
    rw [nb_subI (by omega) (by omega), this]
  have h3 : ¬ (z - 1).toInt < (nI m).toInt := fun q => h.2 (nb_lt.mpr q)
  rw [h2, nI_toInt hm] at h3
  exact ⟨m, by omega, by omega, rfl⟩
set_option maxRecDepth 4000 in
theorem t_X8_asked {g : ma_G} {Post : ma_P} {I : ma_I} {L : ma_L}   (k : Post (some (.int ((I 115) 2))) HS I L RF 146) : CT g yX8_asked cX8_asked 1 (some .int) rX8_asked [.ref 115] Post HS I L RF 146 := by
  refine ct_of (lv := [some (.ref 115)]) (by decide) (Nat.le_of_ble_eq_true rfl) rfl ?_
  refine ev_aload_n (pc' := 1) (i := 0) dX8_asked_0 rfl rfl rfl ?_
  refine ev_getI (pc' := 4) (v := (I 115) 2) fo_X8_119 dX8_asked_1 rfl hs_115 rfl rfl ?_
  refine ev_iret dX8_asked_4 rfl rfl ⟨Nat.le_refl _, Nat.le_refl _⟩ ?_
  exact k
set_option maxRecDepth 4000 in
theorem t_X8_upper {g : ma_G} {Post : ma_P} {I : ma_I} {L : ma_L}   (k : Post (some (.long ((L 115) 3))) HS I L RF 146) : CT g yX8_upper cX8_upper 1 (some .long) rX8_upper [.ref 115] Post HS I L RF 146 := by
  refine ct_of (lv := [some (.ref 115)]) (by decide) (Nat.le_of_ble_eq_true rfl) rfl ?_
  refine ev_aload_n (pc' := 1) (i := 0) dX8_upper_0 rfl rfl rfl ?_
  refine ev_getL (pc' := 4) (v := (L 115) 3) fo_X8_130 dX8_upper_1 rfl hs_115 rfl rfl ?_
  refine ev_lret dX8_upper_4 rfl ⟨Nat.le_refl _, Nat.le_refl _⟩ ?_
  exact k
set_option maxRecDepth 4000 in
theorem t_X8_lower {g : ma_G} {Post : ma_P} {I : ma_I} {L : ma_L}   (k : Post (some (.long ((L 115) 4))) HS I L RF 146) : CT g yX8_lower cX8_lower 1 (some .long) rX8_lower [.ref 115] Post HS I L RF 146 := by
  refine ct_of (lv := [some (.ref 115)]) (by decide) (Nat.le_of_ble_eq_true rfl) rfl ?_
  refine ev_aload_n (pc' := 1) (i := 0) dX8_lower_0 rfl rfl rfl ?_
  refine ev_getL (pc' := 4) (v := (L 115) 4) fo_X8_13 dX8_lower_1 rfl hs_115 rfl rfl ?_
  refine ev_lret dX8_lower_4 rfl ⟨Nat.le_refl _, Nat.le_refl _⟩ ?_
  exact k
set_option maxRecDepth 4000 in
theorem t_X8_finding {g : ma_G} {Post : ma_P} {I : ma_I} {L : ma_L}   (k : Post (some (.int ((I 115) 0))) HS I L RF 146) : CT g yX8_finding cX8_finding 1 (some .int) rX8_finding [.ref 115] Post HS I L RF 146 := by
  refine ct_of (lv := [some (.ref 115)]) (by decide) (Nat.le_of_ble_eq_true rfl) rfl ?_
  refine ev_aload_n (pc' := 1) (i := 0) dX8_finding_0 rfl rfl rfl ?_
  refine ev_getI (pc' := 4) (v := (I 115) 0) fo_X8_115 dX8_finding_1 rfl hs_115 rfl rfl ?_
  refine ev_iret dX8_finding_4 rfl rfl ⟨Nat.le_refl _, Nat.le_refl _⟩ ?_
  exact k
set_option maxRecDepth 4000 in
theorem t_X8_findings {g : ma_G} {Post : ma_P} {I : ma_I} {L : ma_L}  (w : Int32)  (k1 : (¬ ((¬ w < 1) ∧ (¬ 5 < w))) → Post (some (.int (-1))) HS I L RF 146) (k2 : ∀ n2 : Nat, (1 ≤ n2) → (n2 < 6) → w = nI n2 → Post (some (.int ((I 116) n2))) HS I L RF 146) : CT g yX8_findings cX8_findings 2 (some .int) rX8_findings [.ref 115, .int w] Post HS I L RF 146 := by
  refine ct_of (lv := [some (.ref 115), some (.int w)]) (by decide) (Nat.le_of_ble_eq_true rfl) rfl ?_
  refine ev_iload_n (pc' := 1) (i := 1) dX8_findings_0 rfl rfl rfl ?_
  refine ev_iconst (pc' := 2) (v := 1) dX8_findings_1 rfl ki_1 ?_
  refine ev_iconst (pc' := 3) (v := 5) dX8_findings_2 rfl ki_5 ?_
  refine ev_callS (pc' := 6) (rm' := rX8_in) (av := [.int w, .int 1, .int 5]) (rest := []) co_X8_133 cs_X8_in dX8_findings_3 rfl rfl rfl (Nat.le_of_ble_eq_true rfl) ⟨(Nat.le_of_ble_eq_true rfl), (Nat.le_of_ble_eq_true rfl)⟩ ⟨(Nat.le_of_ble_eq_true rfl), (Nat.le_of_ble_eq_true rfl)⟩ ?_
  refine t_X8_in w 1 5  ?_
  refine ev_if_eq_b (tgt := 18) (pc' := 9) dX8_findings_6 rfl rfl (fun c1 => ?_) (fun c1 => ?_)
  · refine ev_iconst (pc' := 19) (v := (-1)) dX8_findings_18 rfl ki_m1 ?_
    refine ev_iret dX8_findings_19 rfl rfl ⟨Nat.le_refl _, Nat.le_refl _⟩ ?_
    exact k1 c1
  · obtain ⟨n2, gn2, hn2, en2⟩ := in_of2 (n := 5) (l := 1) (by omega) rfl rfl c1
    subst en2
    refine ev_aload_n (pc' := 10) (i := 0) dX8_findings_9 rfl rfl rfl ?_
    refine ev_getR (pc' := 13) fo_X8_7 dX8_findings_10 rfl hs_115 rfl rf_115_1 ?_
    refine ev_iload_n (pc' := 14) (i := 1) dX8_findings_13 rfl rfl rfl ?_
    refine ev_iald (pc' := 15) (j := n2) (v := (I 116) n2) dX8_findings_14 rfl hs_116 rfl (by omega) (Nat.le_of_ble_eq_true rfl) rfl ?_
    refine ev_goto (tgt := 19) dX8_findings_15 rfl ?_
    refine ev_iret dX8_findings_19 rfl rfl ⟨Nat.le_refl _, Nat.le_refl _⟩ ?_
    exact k2 n2 gn2 hn2 rfl
set_option maxRecDepth 4000 in
theorem t_X8_place {g : ma_G} {Post : ma_P} {I : ma_I} {L : ma_L}  (i : Int32) (w : Int32) (hk : 0 ≤ (I 115 45).toInt ∧ (I 115 45).toInt ≤ 100) (k1 : ∀ n2 : Nat, (n2 < 3) → w = nI n2 → (¬ ((¬ i < 0) ∧ (¬ (((I 115) 45) - 1) < i))) → Post (some (.int (-9))) HS I L RF 146) (k2 : ∀ n2 : Nat, (n2 < 3) → w = nI n2 → ∀ m : Nat, (m < 100) → ((m : Int) < (I 115 45).toInt) → i = nI m → Post (some (.int 1)) HS (ma_up I 115 (ma_up (I 115) 2 ((I 148) ((3 * m) + n2)))) L RF 146) (k3 : (¬ ((¬ w < 0) ∧ (¬ 2 < w))) → Post (some (.int (-1))) HS I L RF 146) : CT g yX8_place cX8_place 3 (some .int) rX8_place [.ref 115, .int i, .int w] Post HS I L RF 146 := by
  refine ct_of (lv := [some (.ref 115), some (.int i), some (.int w)]) (by decide) (Nat.le_of_ble_eq_true rfl) rfl ?_
  refine ev_iload_n (pc' := 1) (i := 2) dX8_place_0 rfl rfl rfl ?_
  refine ev_iconst (pc' := 2) (v := 0) dX8_place_1 rfl ki_0 ?_
  refine ev_iconst (pc' := 3) (v := 2) dX8_place_2 rfl ki_2 ?_
  refine ev_callS (pc' := 6) (rm' := rX8_in) (av := [.int w, .int 0, .int 2]) (rest := []) co_X8_133 cs_X8_in dX8_place_3 rfl rfl rfl (Nat.le_of_ble_eq_true rfl) ⟨(Nat.le_of_ble_eq_true rfl), (Nat.le_of_ble_eq_true rfl)⟩ ⟨(Nat.le_of_ble_eq_true rfl), (Nat.le_of_ble_eq_true rfl)⟩ ?_
  refine t_X8_in w 0 2  ?_
  refine ev_if_ne_b (tgt := 13) (pc' := 9) dX8_place_6 rfl rfl (fun c1 => ?_) (fun c1 => ?_)
  · obtain ⟨n2, hn2, en2⟩ := in_of (n := 2) (by omega) rfl c1
    subst en2
    refine ev_iload_n (pc' := 14) (i := 1) dX8_place_13 rfl rfl rfl ?_
    refine ev_iconst (pc' := 15) (v := 0) dX8_place_14 rfl ki_0 ?_
    refine ev_aload_n (pc' := 16) (i := 0) dX8_place_15 rfl rfl rfl ?_
    refine ev_getI (pc' := 19) (v := (I 115) 45) fo_X8_376 dX8_place_16 rfl hs_115 rfl rfl ?_
    refine ev_iconst (pc' := 20) (v := 1) dX8_place_19 rfl ki_1 ?_
    refine ev_isub (pc' := 21) (v := ((I 115) 45) - 1) dX8_place_20 rfl rfl ?_
    refine ev_callS (pc' := 24) (rm' := rX8_in) (av := [.int i, .int 0, .int (((I 115) 45) - 1)]) (rest := []) co_X8_133 cs_X8_in dX8_place_21 rfl rfl rfl (Nat.le_of_ble_eq_true rfl) ⟨(Nat.le_of_ble_eq_true rfl), (Nat.le_of_ble_eq_true rfl)⟩ ⟨(Nat.le_of_ble_eq_true rfl), (Nat.le_of_ble_eq_true rfl)⟩ ?_
    refine t_X8_in i 0 (((I 115) 45) - 1)  ?_
    refine ev_if_eq_b (tgt := 45) (pc' := 27) dX8_place_24 rfl rfl (fun c3 => ?_) (fun c3 => ?_)
    · refine ev_bipush (pc' := 47) (v := (-9)) dX8_place_45 rfl kb_m9 ?_
      refine ev_iret dX8_place_47 rfl rfl ⟨Nat.le_refl _, Nat.le_refl _⟩ ?_
      exact k1 n2 hn2 rfl c3
    · refine ev_aload_n (pc' := 28) (i := 0) dX8_place_27 rfl rfl rfl ?_
      refine ev_aload_n (pc' := 29) (i := 0) dX8_place_28 rfl rfl rfl ?_
      obtain ⟨m, hm, hz, em⟩ := in_kp c3 hk.1 hk.2
      subst em
      refine ev_getR (pc' := 32) fo_X8_112 dX8_place_29 rfl hs_115 rfl rf_115_46 ?_
      refine ev_iconst (pc' := 33) (v := 3) dX8_place_32 rfl ki_3 ?_
      refine ev_iload_n (pc' := 34) (i := 1) dX8_place_33 rfl rfl rfl ?_
      refine ev_imul (pc' := 35) (v := nI (3 * m)) dX8_place_34 rfl (pk_mul 3 m) ?_
      refine ev_iload_n (pc' := 36) (i := 2) dX8_place_35 rfl rfl rfl ?_
      refine ev_iadd (pc' := 37) (v := nI ((3 * m) + n2)) dX8_place_36 rfl (nI_add (3 * m) n2) ?_
      refine ev_iald (pc' := 38) (j := (3 * m) + n2) (v := (I 148) ((3 * m) + n2)) dX8_place_37 rfl hs_148 rfl (by omega) (Nat.le_of_ble_eq_true rfl) rfl ?_
      refine ev_iconst (pc' := 39) (v := 1) dX8_place_38 rfl ki_1 ?_
      refine ev_callV (pc' := 42) (rm' := rX8_ask) (b := 115) (av := [.int ((I 148) ((3 * m) + n2)), .int 1]) (rest := []) co_X8_213 ci_X8_ask cv_X8_ask dX8_place_39 rfl hs_115 hb_X8 rfl rfl (Nat.le_of_ble_eq_true rfl) ⟨(Nat.le_of_ble_eq_true rfl), (Nat.le_of_ble_eq_true rfl)⟩ ⟨(Nat.le_of_ble_eq_true rfl), (Nat.le_of_ble_eq_true rfl)⟩ ?_
      refine t_X8_ask ((I 148) ((3 * m) + n2)) 1  ?_
      refine ev_goto (tgt := 47) dX8_place_42 rfl ?_
      refine ev_iret dX8_place_47 rfl rfl ⟨Nat.le_refl _, Nat.le_refl _⟩ ?_
      exact k2 n2 hn2 rfl m hm hz rfl
  · refine ev_iconst (pc' := 10) (v := (-1)) dX8_place_9 rfl ki_m1 ?_
    refine ev_goto (tgt := 47) dX8_place_10 rfl ?_
    refine ev_iret dX8_place_47 rfl rfl ⟨Nat.le_refl _, Nat.le_refl _⟩ ?_
    exact k3 c1
set_option maxRecDepth 4000 in
theorem t_X8_lines {g : ma_G} {Post : ma_P} {I : ma_I} {L : ma_L}  (q : Int32) (s : Int32)  (k1 : (¬ ((¬ q < 0) ∧ (¬ 11 < q))) → Post (some (.int (-1))) HS I L RF 146) (k2 : ∀ j2 : Nat, (j2 < 12) → q = nI j2 → ∀ j5 : Nat, (j5 < 8) → s = nI j5 → (((I 122) j2) = 0) → Post (some (.int (-3))) HS (mMt I 1) L RF 146) (k3 : ∀ j9 : Nat, (j9 < 12) → q = nI j9 → ∀ j12 : Nat, (j12 < 8) → s = nI j12 → (¬ ((I 122) j9) = 0) → (0 ≤ ((I 117) j12)) → (4 ≤ ((I 117) j12)) → ∀ j18 : Int32, ∀ j19 : Int32, (((j18 = 0 ∨ j18 = 1) ∧ (j18 = 1 ↔ ∀ j, j < 4 → ((¬ I 118 (16 * j12 + j) < (-100)) ∧ (¬ 100 < I 118 (16 * j12 + j))))) ∧ ((j19 = 0 ∨ j19 = 1) ∧ (j19 = 1 ↔ ∀ j, j < 4 → I 118 (16 * j12 + j) = 0))) → (¬ j18 = 0) → (j19 = 0) → ((mBo ((mfill I 126 0 4 (fun k => I 118 (16 * j12 + k))) 123) ((mfill I 126 0 4 (fun k => I 118 (16 * j12 + k))) 126) ((mfill I 126 0 4 (fun k => I 118 (16 * j12 + k))) 126) j9) = 0) → ∀ I75 : ma_I, (I75 = (mfill I 126 0 4 (fun k => I 118 (16 * j12 + k)))) → ∀ x74 : Int32, ((x74 = 0 ∨ x74 = 1) ∧ (x74 = 1 ↔ ∀ j, j < 4 → mTan (I75 123) (I75 126) j9 j = 0)) → ∀ x79 : Int32, (x79 = (I75 124) (10 * j9)) → (x79 = 1) → Post (some (.int (if (¬ ((I75 124) ((10 * j9) + 1)) ≤ 0) ∧ (¬ ((I75 124) ((10 * j9) + 2)) ≤ 0) then (if x74 = 0 then 1 else 9) else 0))) HS I75 L RF 146) (k4 : ∀ j9 : Nat, (j9 < 12) → q = nI j9 → ∀ j12 : Nat, (j12 < 8) → s = nI j12 → (¬ ((I 122) j9) = 0) → (0 ≤ ((I 117) j12)) → (4 ≤ ((I 117) j12)) → ∀ j18 : Int32, ∀ j19 : Int32, (((j18 = 0 ∨ j18 = 1) ∧ (j18 = 1 ↔ ∀ j, j < 4 → ((¬ I 118 (16 * j12 + j) < (-100)) ∧ (¬ 100 < I 118 (16 * j12 + j))))) ∧ ((j19 = 0 ∨ j19 = 1) ∧ (j19 = 1 ↔ ∀ j, j < 4 → I 118 (16 * j12 + j) = 0))) → (¬ j18 = 0) → (j19 = 0) → ((mBo ((mfill I 126 0 4 (fun k => I 118 (16 * j12 + k))) 123) ((mfill I 126 0 4 (fun k => I 118 (16 * j12 + k))) 126) ((mfill I 126 0 4 (fun k => I 118 (16 * j12 + k))) 126) j9) = 0) → ∀ I75 : ma_I, (I75 = (mfill I 126 0 4 (fun k => I 118 (16 * j12 + k)))) → ∀ x74 : Int32, ((x74 = 0 ∨ x74 = 1) ∧ (x74 = 1 ↔ ∀ j, j < 4 → mTan (I75 123) (I75 126) j9 j = 0)) → ∀ x79 : Int32, (x79 = (I75 124) (10 * j9)) → (x79 = 2) → (¬ ((I75 124) ((10 * j9) + 3)) = 2) → Post (some (.int 9)) HS I75 L RF 146) (k5 : ∀ j9 : Nat, (j9 < 12) → q = nI j9 → ∀ j12 : Nat, (j12 < 8) → s = nI j12 → (¬ ((I 122) j9) = 0) → (0 ≤ ((I 117) j12)) → (4 ≤ ((I 117) j12)) → ∀ j18 : Int32, ∀ j19 : Int32, (((j18 = 0 ∨ j18 = 1) ∧ (j18 = 1 ↔ ∀ j, j < 4 → ((¬ I 118 (16 * j12 + j) < (-100)) ∧ (¬ 100 < I 118 (16 * j12 + j))))) ∧ ((j19 = 0 ∨ j19 = 1) ∧ (j19 = 1 ↔ ∀ j, j < 4 → I 118 (16 * j12 + j) = 0))) → (¬ j18 = 0) → (j19 = 0) → ((mBo ((mfill I 126 0 4 (fun k => I 118 (16 * j12 + k))) 123) ((mfill I 126 0 4 (fun k => I 118 (16 * j12 + k))) 126) ((mfill I 126 0 4 (fun k => I 118 (16 * j12 + k))) 126) j9) = 0) → ∀ I75 : ma_I, (I75 = (mfill I 126 0 4 (fun k => I 118 (16 * j12 + k)))) → ∀ x74 : Int32, ((x74 = 0 ∨ x74 = 1) ∧ (x74 = 1 ↔ ∀ j, j < 4 → mTan (I75 123) (I75 126) j9 j = 0)) → ∀ x79 : Int32, (x79 = (I75 124) (10 * j9)) → (x79 = 2) → (((I75 124) ((10 * j9) + 3)) = 2) → Post (some (.int (if (¬ ((I75 124) ((10 * j9) + 1)) ≤ 0) ∧ (¬ ((I75 124) ((10 * j9) + 2)) ≤ 0) then 9 else 1))) HS I75 L RF 146) (k6 : ∀ j9 : Nat, (j9 < 12) → q = nI j9 → ∀ j12 : Nat, (j12 < 8) → s = nI j12 → (¬ ((I 122) j9) = 0) → (0 ≤ ((I 117) j12)) → (4 ≤ ((I 117) j12)) → ∀ j18 : Int32, ∀ j19 : Int32, (((j18 = 0 ∨ j18 = 1) ∧ (j18 = 1 ↔ ∀ j, j < 4 → ((¬ I 118 (16 * j12 + j) < (-100)) ∧ (¬ 100 < I 118 (16 * j12 + j))))) ∧ ((j19 = 0 ∨ j19 = 1) ∧ (j19 = 1 ↔ ∀ j, j < 4 → I 118 (16 * j12 + j) = 0))) → (¬ j18 = 0) → (j19 = 0) → ((mBo ((mfill I 126 0 4 (fun k => I 118 (16 * j12 + k))) 123) ((mfill I 126 0 4 (fun k => I 118 (16 * j12 + k))) 126) ((mfill I 126 0 4 (fun k => I 118 (16 * j12 + k))) 126) j9) = 0) → ∀ I75 : ma_I, (I75 = (mfill I 126 0 4 (fun k => I 118 (16 * j12 + k)))) → ∀ x74 : Int32, ((x74 = 0 ∨ x74 = 1) ∧ (x74 = 1 ↔ ∀ j, j < 4 → mTan (I75 123) (I75 126) j9 j = 0)) → ∀ x79 : Int32, (x79 = (I75 124) (10 * j9)) → (x79 = 3) → Post (some (.int 0)) HS I75 L RF 146) (k7 : ∀ j9 : Nat, (j9 < 12) → q = nI j9 → ∀ j12 : Nat, (j12 < 8) → s = nI j12 → (¬ ((I 122) j9) = 0) → (0 ≤ ((I 117) j12)) → (4 ≤ ((I 117) j12)) → ∀ j18 : Int32, ∀ j19 : Int32, (((j18 = 0 ∨ j18 = 1) ∧ (j18 = 1 ↔ ∀ j, j < 4 → ((¬ I 118 (16 * j12 + j) < (-100)) ∧ (¬ 100 < I 118 (16 * j12 + j))))) ∧ ((j19 = 0 ∨ j19 = 1) ∧ (j19 = 1 ↔ ∀ j, j < 4 → I 118 (16 * j12 + j) = 0))) → (¬ j18 = 0) → (j19 = 0) → ((mBo ((mfill I 126 0 4 (fun k => I 118 (16 * j12 + k))) 123) ((mfill I 126 0 4 (fun k => I 118 (16 * j12 + k))) 126) ((mfill I 126 0 4 (fun k => I 118 (16 * j12 + k))) 126) j9) = 0) → ∀ I75 : ma_I, (I75 = (mfill I 126 0 4 (fun k => I 118 (16 * j12 + k)))) → ∀ x74 : Int32, ((x74 = 0 ∨ x74 = 1) ∧ (x74 = 1 ↔ ∀ j, j < 4 → mTan (I75 123) (I75 126) j9 j = 0)) → ∀ x79 : Int32, (x79 = (I75 124) (10 * j9)) → (x79 = 4) → Post (some (.int 2)) HS I75 L RF 146) (k8 : ∀ j9 : Nat, (j9 < 12) → q = nI j9 → ∀ j12 : Nat, (j12 < 8) → s = nI j12 → (¬ ((I 122) j9) = 0) → (0 ≤ ((I 117) j12)) → (4 ≤ ((I 117) j12)) → ∀ j18 : Int32, ∀ j19 : Int32, (((j18 = 0 ∨ j18 = 1) ∧ (j18 = 1 ↔ ∀ j, j < 4 → ((¬ I 118 (16 * j12 + j) < (-100)) ∧ (¬ 100 < I 118 (16 * j12 + j))))) ∧ ((j19 = 0 ∨ j19 = 1) ∧ (j19 = 1 ↔ ∀ j, j < 4 → I 118 (16 * j12 + j) = 0))) → (¬ j18 = 0) → (j19 = 0) → ((mBo ((mfill I 126 0 4 (fun k => I 118 (16 * j12 + k))) 123) ((mfill I 126 0 4 (fun k => I 118 (16 * j12 + k))) 126) ((mfill I 126 0 4 (fun k => I 118 (16 * j12 + k))) 126) j9) = 0) → ∀ I75 : ma_I, (I75 = (mfill I 126 0 4 (fun k => I 118 (16 * j12 + k)))) → ∀ x74 : Int32, ((x74 = 0 ∨ x74 = 1) ∧ (x74 = 1 ↔ ∀ j, j < 4 → mTan (I75 123) (I75 126) j9 j = 0)) → ∀ x79 : Int32, (x79 = (I75 124) (10 * j9)) → (¬ x79 = 1) → (¬ x79 = 2) → (¬ x79 = 3) → (¬ x79 = 4) → Post (some (.int 0)) HS I75 L RF 146) (k9 : ∀ j9 : Nat, (j9 < 12) → q = nI j9 → ∀ j12 : Nat, (j12 < 8) → s = nI j12 → (¬ ((I 122) j9) = 0) → (0 ≤ ((I 117) j12)) → (4 ≤ ((I 117) j12)) → ∀ j18 : Int32, ∀ j19 : Int32, (((j18 = 0 ∨ j18 = 1) ∧ (j18 = 1 ↔ ∀ j, j < 4 → ((¬ I 118 (16 * j12 + j) < (-100)) ∧ (¬ 100 < I 118 (16 * j12 + j))))) ∧ ((j19 = 0 ∨ j19 = 1) ∧ (j19 = 1 ↔ ∀ j, j < 4 → I 118 (16 * j12 + j) = 0))) → (¬ j18 = 0) → (j19 = 0) → (¬ (mBo ((mfill I 126 0 4 (fun k => I 118 (16 * j12 + k))) 123) ((mfill I 126 0 4 (fun k => I 118 (16 * j12 + k))) 126) ((mfill I 126 0 4 (fun k => I 118 (16 * j12 + k))) 126) j9) = 0) → Post (some (.int 0)) HS (mfill I 126 0 4 (fun k => I 118 (16 * j12 + k))) L RF 146) (k10 : ∀ j23 : Nat, (j23 < 12) → q = nI j23 → ∀ j26 : Nat, (j26 < 8) → s = nI j26 → (¬ ((I 122) j23) = 0) → (0 ≤ ((I 117) j26)) → (4 ≤ ((I 117) j26)) → ∀ j32 : Int32, ∀ j33 : Int32, (((j32 = 0 ∨ j32 = 1) ∧ (j32 = 1 ↔ ∀ j, j < 4 → ((¬ I 118 (16 * j26 + j) < (-100)) ∧ (¬ 100 < I 118 (16 * j26 + j))))) ∧ ((j33 = 0 ∨ j33 = 1) ∧ (j33 = 1 ↔ ∀ j, j < 4 → I 118 (16 * j26 + j) = 0))) → (¬ j32 = 0) → (¬ j33 = 0) → Post (some (.int (-3))) HS (mMt (mfill I 126 0 4 (fun k => I 118 (16 * j26 + k))) 4) L RF 146) (k11 : ∀ j37 : Nat, (j37 < 12) → q = nI j37 → ∀ j40 : Nat, (j40 < 8) → s = nI j40 → (¬ ((I 122) j37) = 0) → (0 ≤ ((I 117) j40)) → (4 ≤ ((I 117) j40)) → ∀ j46 : Int32, ∀ j47 : Int32, (((j46 = 0 ∨ j46 = 1) ∧ (j46 = 1 ↔ ∀ j, j < 4 → ((¬ I 118 (16 * j40 + j) < (-100)) ∧ (¬ 100 < I 118 (16 * j40 + j))))) ∧ ((j47 = 0 ∨ j47 = 1) ∧ (j47 = 1 ↔ ∀ j, j < 4 → I 118 (16 * j40 + j) = 0))) → (j46 = 0) → Post (some (.int (-3))) HS (mMt (mfill I 126 0 4 (fun k => I 118 (16 * j40 + k))) 2) L RF 146) (k12 : ∀ j50 : Nat, (j50 < 12) → q = nI j50 → ∀ j53 : Nat, (j53 < 8) → s = nI j53 → (¬ ((I 122) j50) = 0) → (0 ≤ ((I 117) j53)) → (¬ 4 ≤ ((I 117) j53)) → Post (some (.int (-3))) HS (mMt I 5) L RF 146) (k13 : ∀ j59 : Nat, (j59 < 12) → q = nI j59 → ∀ j62 : Nat, (j62 < 8) → s = nI j62 → (¬ ((I 122) j59) = 0) → (¬ 0 ≤ ((I 117) j62)) → Post (some (.int (-3))) HS (mMt I 1) L RF 146) (k14 : ∀ j67 : Nat, (j67 < 12) → q = nI j67 → (¬ ((¬ s < 0) ∧ (¬ 7 < s))) → Post (some (.int (-1))) HS I L RF 146) : CT g yX8_lines cX8_lines 6 (some .int) rX8_lines [.ref 115, .int q, .int s] Post HS I L RF 146 := by
  refine ct_of (lv := [some (.ref 115), some (.int q), some (.int s), none, none, none]) (by decide) (Nat.le_of_ble_eq_true rfl) rfl ?_
  refine ev_aload_n (pc' := 1) (i := 0) dX8_lines_0 rfl rfl rfl ?_
  refine ev_iload_n (pc' := 2) (i := 1) dX8_lines_1 rfl rfl rfl ?_
  refine ev_iload_n (pc' := 3) (i := 2) dX8_lines_2 rfl rfl rfl ?_
  refine ev_callV (pc' := 6) (rm' := rX8_askedPlace) (b := 115) (av := [.int q, .int s]) (rest := []) co_X8_238 ci_X8_askedPlace cv_X8_askedPlace dX8_lines_3 rfl hs_115 hb_X8 rfl rfl (Nat.le_of_ble_eq_true rfl) ⟨(Nat.le_of_ble_eq_true rfl), (Nat.le_of_ble_eq_true rfl)⟩ ⟨(Nat.le_of_ble_eq_true rfl), (Nat.le_of_ble_eq_true rfl)⟩ ?_
  refine t_X8_askedPlace q s  (fun h1 => ?_) (fun j2 h3 e4 j5 h6 e7 h8 => ?_) (fun j9 h10 e11 j12 h13 e14 h15 h16 h17 j18 j19 h20 h21 h22 => ?_) (fun j23 h24 e25 j26 h27 e28 h29 h30 h31 j32 j33 h34 h35 h36 => ?_) (fun j37 h38 e39 j40 h41 e42 h43 h44 h45 j46 j47 h48 h49 => ?_) (fun j50 h51 e52 j53 h54 e55 h56 h57 h58 => ?_) (fun j59 h60 e61 j62 h63 e64 h65 h66 => ?_) (fun j67 h68 e69 h70 => ?_)
  · skip
    refine ev_istore_n (pc' := 7) (i := 3) (lv' := [some (.ref 115), some (.int q), some (.int s), some (.int (-1)), none, none]) dX8_lines_6 rfl rfl (Nat.le_of_ble_eq_true rfl) rfl rfl ?_
    refine ev_iload_n (pc' := 8) (i := 3) dX8_lines_7 rfl rfl rfl ?_
    refine ev_if_ge (tgt := 13) (pc' := 11) dX8_lines_8 rfl rfl (fun h => absurd h (by decide)) (fun _ => ?_)
    refine ev_iload_n (pc' := 12) (i := 3) dX8_lines_11 rfl rfl rfl ?_
    refine ev_iret dX8_lines_12 rfl rfl ⟨Nat.le_refl _, Nat.le_refl _⟩ ?_
    exact k1 h1
  · subst e4
    subst e7
    refine ev_istore_n (pc' := 7) (i := 3) (lv' := [some (.ref 115), some (.int (nI j2)), some (.int (nI j5)), some (.int (-3)), none, none]) dX8_lines_6 rfl rfl (Nat.le_of_ble_eq_true rfl) rfl rfl ?_
    refine ev_iload_n (pc' := 8) (i := 3) dX8_lines_7 rfl rfl rfl ?_
    refine ev_if_ge (tgt := 13) (pc' := 11) dX8_lines_8 rfl rfl (fun h => absurd h (by decide)) (fun _ => ?_)
    refine ev_iload_n (pc' := 12) (i := 3) dX8_lines_11 rfl rfl rfl ?_
    refine ev_iret dX8_lines_12 rfl rfl ⟨Nat.le_refl _, Nat.le_refl _⟩ ?_
    exact k2 j2 h3 rfl j5 h6 rfl h8
  · subst e11
    subst e14
    refine ev_istore_n (pc' := 7) (i := 3) (lv' := [some (.ref 115), some (.int (nI j9)), some (.int (nI j12)), some (.int 0), none, none]) dX8_lines_6 rfl rfl (Nat.le_of_ble_eq_true rfl) rfl rfl ?_
    refine ev_iload_n (pc' := 8) (i := 3) dX8_lines_7 rfl rfl rfl ?_
    refine ev_if_ge (tgt := 13) (pc' := 11) dX8_lines_8 rfl rfl (fun _ => ?_) (fun h => absurd (by decide) h)
    refine ev_aload_n (pc' := 14) (i := 0) dX8_lines_13 rfl rfl rfl ?_
    refine ev_iload_n (pc' := 15) (i := 1) dX8_lines_14 rfl rfl rfl ?_
    refine ev_aload_n (pc' := 16) (i := 0) dX8_lines_15 rfl rfl rfl ?_
    refine ev_getR (pc' := 19) fo_X8_46 dX8_lines_16 rfl hs_115 rfl rf_115_16 ?_
    refine ev_aload_n (pc' := 20) (i := 0) dX8_lines_19 rfl rfl rfl ?_
    refine ev_getR (pc' := 23) fo_X8_46 dX8_lines_20 rfl hs_115 rfl rf_115_16 ?_
    refine ev_callV (pc' := 26) (rm' := rX8_both) (b := 115) (av := [.int (nI j9), .ref 126, .ref 126]) (rest := []) co_X8_241 ci_X8_both cv_X8_both dX8_lines_23 rfl hs_115 hb_X8 rfl rfl (Nat.le_of_ble_eq_true rfl) ⟨(Nat.le_of_ble_eq_true rfl), (Nat.le_of_ble_eq_true rfl)⟩ ⟨(Nat.le_of_ble_eq_true rfl), (Nat.le_of_ble_eq_true rfl)⟩ ?_
    refine t_X8_both j9 126 126 (by omega) hs_126 hs_126 ?_
    refine ev_if_eq (tgt := 31) (pc' := 29) dX8_lines_26 rfl rfl (fun c71 => ?_) (fun c71 => ?_)
    · refine ev_iconst (pc' := 32) (v := 1) dX8_lines_31 rfl ki_1 ?_
      refine ev_istore (pc' := 34) (lv' := [some (.ref 115), some (.int (nI j9)), some (.int (nI j12)), some (.int 0), some (.int 1), none]) dX8_lines_32 rfl (Nat.le_of_ble_eq_true rfl) rfl rfl ?_
      refine ev_iconst (pc' := 35) (v := 0) dX8_lines_34 rfl ki_0 ?_
      refine ev_istore (pc' := 37) (lv' := [some (.ref 115), some (.int (nI j9)), some (.int (nI j12)), some (.int 0), some (.int 1), some (.int 0)]) dX8_lines_35 rfl (Nat.le_of_ble_eq_true rfl) rfl rfl ?_
      refine ev_memI (fun I75 hI75 => ?_)
      suffices loop72 : ∀ (d73 i76 : Nat) (x74 : Int32), i76 + d73 = 4 → ((x74 = 0 ∨ x74 = 1) ∧ (x74 = 1 ↔ ∀ j, j < i76 → mTan (I75 123) (I75 126) j9 j = 0)) → EV g yX8_lines cX8_lines 6 (some .int) rX8_lines (ma_ZM g rX8_lines Post) 37 [some (.ref 115), some (.int (nI j9)), some (.int (nI j12)), some (.int 0), some (.int x74), some (.int (nI i76))] [] HS I75 L RF 146 0 0 from loop72 (4 - 0) 0 1 (by omega) (by exact b_a0)
      intro d73
      induction d73 with
      | zero =>
        intro i76 x74   hi77 hv78
        obtain rfl : i76 = 4 := by omega
        refine ev_iload (pc' := 39) dX8_lines_37 rfl rfl ?_
        refine ev_iconst (pc' := 40) (v := 4) dX8_lines_39 rfl ki_4 ?_
        refine ev_icmp_ge (tgt := 75) (pc' := 43) dX8_lines_40 rfl rfl (fun _ => ?_) (fun h => absurd (nx_le (a := 4) (b := 4) (by omega) (by omega)) h)
        refine ev_bipush (pc' := 77) (v := 10) dX8_lines_75 rfl kb_10 ?_
        refine ev_iload_n (pc' := 78) (i := 1) dX8_lines_77 rfl rfl rfl ?_
        refine ev_imul (pc' := 79) (v := nI (10 * j9)) dX8_lines_78 rfl (pk_mul 10 j9) ?_
        refine ev_istore (pc' := 81) (lv' := [some (.ref 115), some (.int (nI j9)), some (.int (nI j12)), some (.int 0), some (.int x74), some (.int (nI (10 * j9)))]) dX8_lines_79 rfl (Nat.le_of_ble_eq_true rfl) rfl rfl ?_
        refine ev_aload_n (pc' := 82) (i := 0) dX8_lines_81 rfl rfl rfl ?_
        refine ev_getR (pc' := 85) fo_X8_40 dX8_lines_82 rfl hs_115 rfl rf_115_14 ?_
        refine ev_iload (pc' := 87) dX8_lines_85 rfl rfl ?_
        refine ev_iald (pc' := 88) (j := 10 * j9) (v := (I75 124) (10 * j9)) dX8_lines_87 rfl hs_124 rfl (by omega) (Nat.le_of_ble_eq_true rfl) rfl ?_
        refine ev_topi (fun x79 hx79 => ?_)
        by_cases c80 : x79 = 1
        · refine ev_tswIn (off := 34) (tgt := 122) dX8_lines_88 (by rw [c80]; decide) (by rw [c80]; decide) (by rw [c80]; rfl) rfl ?_
          refine ev_aload_n (pc' := 123) (i := 0) dX8_lines_122 rfl rfl rfl ?_
          refine ev_iload_n (pc' := 124) (i := 1) dX8_lines_123 rfl rfl rfl ?_
          refine ev_callV (pc' := 127) (rm' := rX8_changes) (b := 115) (av := [.int (nI j9)]) (rest := []) co_X8_217 ci_X8_changes cv_X8_changes dX8_lines_124 rfl hs_115 hb_X8 rfl rfl (Nat.le_of_ble_eq_true rfl) ⟨(Nat.le_of_ble_eq_true rfl), (Nat.le_of_ble_eq_true rfl)⟩ ⟨(Nat.le_of_ble_eq_true rfl), (Nat.le_of_ble_eq_true rfl)⟩ ?_
          refine t_X8_changes j9 (by omega) ?_
          suffices K83 : ∀ x82 : Int32, x82 = (if (¬ ((I75 124) ((10 * j9) + 1)) ≤ 0) ∧ (¬ ((I75 124) ((10 * j9) + 2)) ≤ 0) then (if x74 = 0 then 1 else 9) else 0) → EV g yX8_lines cX8_lines 6 (some .int) rX8_lines (ma_ZM g rX8_lines Post) 145 [some (.ref 115), some (.int (nI j9)), some (.int (nI j12)), some (.int 0), some (.int x74), some (.int (nI (10 * j9)))] [.int x82] HS I75 L RF 146 0 0 by
            refine ev_if_ne_b (tgt := 134) (pc' := 130) dX8_lines_127 rfl rfl (fun c84 => ?_) (fun c84 => ?_)
            · refine ev_iload (pc' := 136) dX8_lines_134 rfl rfl ?_
              refine ev_if_eq (tgt := 144) (pc' := 139) dX8_lines_136 rfl rfl (fun c85 => ?_) (fun c85 => ?_)
              · refine ev_iconst (pc' := 145) (v := 1) dX8_lines_144 rfl ki_1 ?_
                exact K83 _ (by rw [if_pos c84, if_pos c85])
              · refine ev_bipush (pc' := 141) (v := 9) dX8_lines_139 rfl kb_9 ?_
                refine ev_goto (tgt := 145) dX8_lines_141 rfl ?_
                exact K83 _ (by rw [if_pos c84, if_neg c85])
            · refine ev_iconst (pc' := 131) (v := 0) dX8_lines_130 rfl ki_0 ?_
              refine ev_goto (tgt := 145) dX8_lines_131 rfl ?_
              exact K83 _ (by rw [if_neg c84])
          intro x82 hx82
          subst hx82
          refine ev_iret dX8_lines_145 rfl rfl ⟨Nat.le_refl _, Nat.le_refl _⟩ ?_
          exact k3 j9 h10 rfl j12 h13 rfl h15 h16 h17 j18 j19 h20 h21 h22 c71 I75 hI75 x74 hv78 x79 hx79 c80
        by_cases c86 : x79 = 2
        · refine ev_tswIn (off := 58) (tgt := 146) dX8_lines_88 (by rw [c86]; decide) (by rw [c86]; decide) (by rw [c86]; rfl) rfl ?_
          refine ev_aload_n (pc' := 147) (i := 0) dX8_lines_146 rfl rfl rfl ?_
          refine ev_getR (pc' := 150) fo_X8_40 dX8_lines_147 rfl hs_115 rfl rf_115_14 ?_
          refine ev_iload (pc' := 152) dX8_lines_150 rfl rfl ?_
          refine ev_iconst (pc' := 153) (v := 3) dX8_lines_152 rfl ki_3 ?_
          refine ev_iadd (pc' := 154) (v := nI ((10 * j9) + 3)) dX8_lines_153 rfl (nI_add (10 * j9) 3) ?_
          refine ev_iald (pc' := 155) (j := (10 * j9) + 3) (v := (I75 124) ((10 * j9) + 3)) dX8_lines_154 rfl hs_124 rfl (by omega) (Nat.le_of_ble_eq_true rfl) rfl ?_
          refine ev_iconst (pc' := 156) (v := 2) dX8_lines_155 rfl ki_2 ?_
          refine ev_icmp_ne (tgt := 171) (pc' := 159) dX8_lines_156 rfl rfl (fun c87 => ?_) (fun c87 => ?_)
          · refine ev_bipush (pc' := 173) (v := 9) dX8_lines_171 rfl kb_9 ?_
            refine ev_iret dX8_lines_173 rfl rfl ⟨Nat.le_refl _, Nat.le_refl _⟩ ?_
            exact k4 j9 h10 rfl j12 h13 rfl h15 h16 h17 j18 j19 h20 h21 h22 c71 I75 hI75 x74 hv78 x79 hx79 c86 c87
          · refine ev_aload_n (pc' := 160) (i := 0) dX8_lines_159 rfl rfl rfl ?_
            refine ev_iload_n (pc' := 161) (i := 1) dX8_lines_160 rfl rfl rfl ?_
            refine ev_callV (pc' := 164) (rm' := rX8_changes) (b := 115) (av := [.int (nI j9)]) (rest := []) co_X8_217 ci_X8_changes cv_X8_changes dX8_lines_161 rfl hs_115 hb_X8 rfl rfl (Nat.le_of_ble_eq_true rfl) ⟨(Nat.le_of_ble_eq_true rfl), (Nat.le_of_ble_eq_true rfl)⟩ ⟨(Nat.le_of_ble_eq_true rfl), (Nat.le_of_ble_eq_true rfl)⟩ ?_
            refine t_X8_changes j9 (by omega) ?_
            suffices K90 : ∀ x89 : Int32, x89 = (if (¬ ((I75 124) ((10 * j9) + 1)) ≤ 0) ∧ (¬ ((I75 124) ((10 * j9) + 2)) ≤ 0) then 9 else 1) → EV g yX8_lines cX8_lines 6 (some .int) rX8_lines (ma_ZM g rX8_lines Post) 173 [some (.ref 115), some (.int (nI j9)), some (.int (nI j12)), some (.int 0), some (.int x74), some (.int (nI (10 * j9)))] [.int x89] HS I75 L RF 146 0 0 by
              refine ev_if_ne_b (tgt := 171) (pc' := 167) dX8_lines_164 rfl rfl (fun c91 => ?_) (fun c91 => ?_)
              · refine ev_bipush (pc' := 173) (v := 9) dX8_lines_171 rfl kb_9 ?_
                exact K90 _ (by rw [if_pos c91])
              · refine ev_iconst (pc' := 168) (v := 1) dX8_lines_167 rfl ki_1 ?_
                refine ev_goto (tgt := 173) dX8_lines_168 rfl ?_
                exact K90 _ (by rw [if_neg c91])
            intro x89 hx89
            subst hx89
            refine ev_iret dX8_lines_173 rfl rfl ⟨Nat.le_refl _, Nat.le_refl _⟩ ?_
            exact k5 j9 h10 rfl j12 h13 rfl h15 h16 h17 j18 j19 h20 h21 h22 c71 I75 hI75 x74 hv78 x79 hx79 c86 c87
        by_cases c92 : x79 = 3
        · refine ev_tswIn (off := 86) (tgt := 174) dX8_lines_88 (by rw [c92]; decide) (by rw [c92]; decide) (by rw [c92]; rfl) rfl ?_
          refine ev_iconst (pc' := 175) (v := 0) dX8_lines_174 rfl ki_0 ?_
          refine ev_iret dX8_lines_175 rfl rfl ⟨Nat.le_refl _, Nat.le_refl _⟩ ?_
          exact k6 j9 h10 rfl j12 h13 rfl h15 h16 h17 j18 j19 h20 h21 h22 c71 I75 hI75 x74 hv78 x79 hx79 c92
        by_cases c93 : x79 = 4
        · refine ev_tswIn (off := 32) (tgt := 120) dX8_lines_88 (by rw [c93]; decide) (by rw [c93]; decide) (by rw [c93]; rfl) rfl ?_
          refine ev_iconst (pc' := 121) (v := 2) dX8_lines_120 rfl ki_2 ?_
          refine ev_iret dX8_lines_121 rfl rfl ⟨Nat.le_refl _, Nat.le_refl _⟩ ?_
          exact k7 j9 h10 rfl j12 h13 rfl h15 h16 h17 j18 j19 h20 h21 h22 c71 I75 hI75 x74 hv78 x79 hx79 c93
        refine ev_tswOut (tgt := 174) dX8_lines_88 (by have q0 : ¬ (x79).toInt = 1 := fun q => c80 (nb_eq.mpr (q.trans (by decide))); have q1 : ¬ (x79).toInt = 2 := fun q => c86 (nb_eq.mpr (q.trans (by decide))); have q2 : ¬ (x79).toInt = 3 := fun q => c92 (nb_eq.mpr (q.trans (by decide))); have q3 : ¬ (x79).toInt = 4 := fun q => c93 (nb_eq.mpr (q.trans (by decide))); omega) rfl ?_
        refine ev_iconst (pc' := 175) (v := 0) dX8_lines_174 rfl ki_0 ?_
        refine ev_iret dX8_lines_175 rfl rfl ⟨Nat.le_refl _, Nat.le_refl _⟩ ?_
        exact k8 j9 h10 rfl j12 h13 rfl h15 h16 h17 j18 j19 h20 h21 h22 c71 I75 hI75 x74 hv78 x79 hx79 c80 c86 c92 c93
      | succ d73 ih =>
        intro i76 x74   hi77 hv78
        refine ev_iload (pc' := 39) dX8_lines_37 rfl rfl ?_
        refine ev_iconst (pc' := 40) (v := 4) dX8_lines_39 rfl ki_4 ?_
        refine ev_icmp_ge (tgt := 75) (pc' := 43) dX8_lines_40 rfl rfl (fun h => absurd h (nx_nle (a := 4) (b := i76) (by omega) (by omega))) (fun _ => ?_)
        refine ev_iload (pc' := 45) dX8_lines_43 rfl rfl ?_
        refine ev_if_eq (tgt := 66) (pc' := 48) dX8_lines_45 rfl rfl (fun c94 => ?_) (fun c94 => ?_)
        · refine ev_iconst (pc' := 67) (v := 0) dX8_lines_66 rfl ki_0 ?_
          refine ev_istore (pc' := 69) (lv' := [some (.ref 115), some (.int (nI j9)), some (.int (nI j12)), some (.int 0), some (.int 0), some (.int (nI i76))]) dX8_lines_67 rfl (Nat.le_of_ble_eq_true rfl) rfl rfl ?_
          refine ev_iinc (pc' := 72) (v := nI (i76 + 1)) (lv' := [some (.ref 115), some (.int (nI j9)), some (.int (nI j12)), some (.int 0), some (.int 0), some (.int (nI (i76 + 1)))]) dX8_lines_69 rfl rfl (nI_add i76 1) (Nat.le_of_ble_eq_true rfl) rfl rfl ?_
          refine ev_goto (tgt := 37) dX8_lines_72 rfl ?_
          exact ih (i76 + 1) _ (by omega) (by first | exact b_at hv78 (by assumption) (by assumption) | exact b_af hv78 (by assumption) | exact b_ag (by assumption) | exact b_am hv78 | exact b_ap hv78 (by assumption))
        · refine ev_aload_n (pc' := 49) (i := 0) dX8_lines_48 rfl rfl rfl ?_
          refine ev_iload_n (pc' := 50) (i := 1) dX8_lines_49 rfl rfl rfl ?_
          refine ev_iload (pc' := 52) dX8_lines_50 rfl rfl ?_
          refine ev_aload_n (pc' := 53) (i := 0) dX8_lines_52 rfl rfl rfl ?_
          refine ev_getR (pc' := 56) fo_X8_46 dX8_lines_53 rfl hs_115 rfl rf_115_16 ?_
          refine ev_callV (pc' := 59) (rm' := rX8_tangentAt) (b := 115) (av := [.int (nI j9), .int (nI i76), .ref 126]) (rest := []) co_X8_234 ci_X8_tangentAt cv_X8_tangentAt dX8_lines_56 rfl hs_115 hb_X8 rfl rfl (Nat.le_of_ble_eq_true rfl) ⟨(Nat.le_of_ble_eq_true rfl), (Nat.le_of_ble_eq_true rfl)⟩ ⟨(Nat.le_of_ble_eq_true rfl), (Nat.le_of_ble_eq_true rfl)⟩ ?_
          refine t_X8_tangentAt j9 i76 126 (by omega) (by omega) hs_126 ?_
          suffices K97 : ∀ x96 : Int32, x96 = (if (mTan (I75 123) (I75 126) j9 i76) = 0 then (1 : Int32) else 0) → EV g yX8_lines cX8_lines 6 (some .int) rX8_lines (ma_ZM g rX8_lines Post) 67 [some (.ref 115), some (.int (nI j9)), some (.int (nI j12)), some (.int 0), some (.int x74), some (.int (nI i76))] [.int x96] HS I75 L RF 146 0 0 by
            refine ev_if_ne (tgt := 66) (pc' := 62) dX8_lines_59 rfl rfl (fun c98 => ?_) (fun c98 => ?_)
            · refine ev_iconst (pc' := 67) (v := 0) dX8_lines_66 rfl ki_0 ?_
              exact K97 _ (if_neg c98).symm
            · refine ev_iconst (pc' := 63) (v := 1) dX8_lines_62 rfl ki_1 ?_
              refine ev_goto (tgt := 67) dX8_lines_63 rfl ?_
              exact K97 _ (if_pos c98).symm
          intro x96 hx96
          subst hx96
          refine ev_istore (pc' := 69) (lv' := [some (.ref 115), some (.int (nI j9)), some (.int (nI j12)), some (.int 0), some (.int (if (mTan (I75 123) (I75 126) j9 i76) = 0 then (1 : Int32) else 0)), some (.int (nI i76))]) dX8_lines_67 rfl (Nat.le_of_ble_eq_true rfl) rfl rfl ?_
          refine ev_iinc (pc' := 72) (v := nI (i76 + 1)) (lv' := [some (.ref 115), some (.int (nI j9)), some (.int (nI j12)), some (.int 0), some (.int (if (mTan (I75 123) (I75 126) j9 i76) = 0 then (1 : Int32) else 0)), some (.int (nI (i76 + 1)))]) dX8_lines_69 rfl rfl (nI_add i76 1) (Nat.le_of_ble_eq_true rfl) rfl rfl ?_
          refine ev_goto (tgt := 37) dX8_lines_72 rfl ?_
          exact ih (i76 + 1) _ (by omega) (by first | exact b_at hv78 (by assumption) (by assumption) | exact b_af hv78 (by assumption) | exact b_ag (by assumption) | exact b_am hv78 | exact b_ap hv78 (by assumption))
    · refine ev_iconst (pc' := 30) (v := 0) dX8_lines_29 rfl ki_0 ?_
      refine ev_iret dX8_lines_30 rfl rfl ⟨Nat.le_refl _, Nat.le_refl _⟩ ?_
      exact k9 j9 h10 rfl j12 h13 rfl h15 h16 h17 j18 j19 h20 h21 h22 c71
  · subst e25
    subst e28
    refine ev_istore_n (pc' := 7) (i := 3) (lv' := [some (.ref 115), some (.int (nI j23)), some (.int (nI j26)), some (.int (-3)), none, none]) dX8_lines_6 rfl rfl (Nat.le_of_ble_eq_true rfl) rfl rfl ?_
    refine ev_iload_n (pc' := 8) (i := 3) dX8_lines_7 rfl rfl rfl ?_
    refine ev_if_ge (tgt := 13) (pc' := 11) dX8_lines_8 rfl rfl (fun h => absurd h (by decide)) (fun _ => ?_)
    refine ev_iload_n (pc' := 12) (i := 3) dX8_lines_11 rfl rfl rfl ?_
    refine ev_iret dX8_lines_12 rfl rfl ⟨Nat.le_refl _, Nat.le_refl _⟩ ?_
    exact k10 j23 h24 rfl j26 h27 rfl h29 h30 h31 j32 j33 h34 h35 h36
  · subst e39
    subst e42
    refine ev_istore_n (pc' := 7) (i := 3) (lv' := [some (.ref 115), some (.int (nI j37)), some (.int (nI j40)), some (.int (-3)), none, none]) dX8_lines_6 rfl rfl (Nat.le_of_ble_eq_true rfl) rfl rfl ?_
    refine ev_iload_n (pc' := 8) (i := 3) dX8_lines_7 rfl rfl rfl ?_
    refine ev_if_ge (tgt := 13) (pc' := 11) dX8_lines_8 rfl rfl (fun h => absurd h (by decide)) (fun _ => ?_)
    refine ev_iload_n (pc' := 12) (i := 3) dX8_lines_11 rfl rfl rfl ?_
    refine ev_iret dX8_lines_12 rfl rfl ⟨Nat.le_refl _, Nat.le_refl _⟩ ?_
    exact k11 j37 h38 rfl j40 h41 rfl h43 h44 h45 j46 j47 h48 h49
  · subst e52
    subst e55
    refine ev_istore_n (pc' := 7) (i := 3) (lv' := [some (.ref 115), some (.int (nI j50)), some (.int (nI j53)), some (.int (-3)), none, none]) dX8_lines_6 rfl rfl (Nat.le_of_ble_eq_true rfl) rfl rfl ?_
    refine ev_iload_n (pc' := 8) (i := 3) dX8_lines_7 rfl rfl rfl ?_
    refine ev_if_ge (tgt := 13) (pc' := 11) dX8_lines_8 rfl rfl (fun h => absurd h (by decide)) (fun _ => ?_)
    refine ev_iload_n (pc' := 12) (i := 3) dX8_lines_11 rfl rfl rfl ?_
    refine ev_iret dX8_lines_12 rfl rfl ⟨Nat.le_refl _, Nat.le_refl _⟩ ?_
    exact k12 j50 h51 rfl j53 h54 rfl h56 h57 h58
  · subst e61
    subst e64
    refine ev_istore_n (pc' := 7) (i := 3) (lv' := [some (.ref 115), some (.int (nI j59)), some (.int (nI j62)), some (.int (-3)), none, none]) dX8_lines_6 rfl rfl (Nat.le_of_ble_eq_true rfl) rfl rfl ?_
    refine ev_iload_n (pc' := 8) (i := 3) dX8_lines_7 rfl rfl rfl ?_
    refine ev_if_ge (tgt := 13) (pc' := 11) dX8_lines_8 rfl rfl (fun h => absurd h (by decide)) (fun _ => ?_)
    refine ev_iload_n (pc' := 12) (i := 3) dX8_lines_11 rfl rfl rfl ?_
    refine ev_iret dX8_lines_12 rfl rfl ⟨Nat.le_refl _, Nat.le_refl _⟩ ?_
    exact k13 j59 h60 rfl j62 h63 rfl h65 h66
  · subst e69
    refine ev_istore_n (pc' := 7) (i := 3) (lv' := [some (.ref 115), some (.int (nI j67)), some (.int s), some (.int (-1)), none, none]) dX8_lines_6 rfl rfl (Nat.le_of_ble_eq_true rfl) rfl rfl ?_
    refine ev_iload_n (pc' := 8) (i := 3) dX8_lines_7 rfl rfl rfl ?_
    refine ev_if_ge (tgt := 13) (pc' := 11) dX8_lines_8 rfl rfl (fun h => absurd h (by decide)) (fun _ => ?_)
    refine ev_iload_n (pc' := 12) (i := 3) dX8_lines_11 rfl rfl rfl ?_
    refine ev_iret dX8_lines_12 rfl rfl ⟨Nat.le_refl _, Nat.le_refl _⟩ ?_
    exact k14 j67 h68 rfl h70
