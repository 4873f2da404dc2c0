theorem f_X8_layForm {g : ma_G} {Post : ma_P} {I : ma_I} {L : ma_L}   (k : ∀ (K : ma_L), (K 132 0 = mSf [15] (I 133) (I 134)) → (K 132 1 = mSf [7, 11, 13, 14] (I 133) (I 134)) → (K 132 2 = mSf [3, 5, 6, 9, 10, 12] (I 133) (I 134)) → (K 132 3 = mSf [1, 2, 4, 8] (I 133) (I 134)) → (K 132 4 = mSf [0] (I 133) (I 134)) → (mSl [132, 120] L K) → Post none HS I K RF 146) : CT g yX8_layForm cX8_layForm 6 none rX8_layForm [.ref 115] Post HS I L RF 146 := by
  refine t_X8_layForm (fun r => k _ rfl rfl rfl rfl rfl (fun a h => ?_))
  simp only [List.mem_cons, List.not_mem_nil, or_false, not_or] at h
  rw [ma_up_n _ _ h.2, ma_up_n _ _ h.1]
set_option maxRecDepth 4000 in
theorem t_X8_form {g : ma_G} {Post : ma_P} {I : ma_I} {L : ma_L}  (q : Int32) (r : Int32)  (k1 : (¬ ((¬ q < 0) ∧ (¬ 11 < q))) → Post (some (.int (-1))) HS I L RF 146) (k2 : ∀ j2 : Nat, (j2 < 12) → q = nI j2 → ∀ j5 : Nat, (j5 < 12) → r = nI j5 → (((I 122) j2) = 0) → Post (some (.int (-3))) HS (mMt I 1) L RF 146) (k3 : ∀ j9 : Nat, (j9 < 12) → q = nI j9 → ∀ j12 : Nat, (j12 < 12) → r = nI j12 → (¬ ((I 122) j9) = 0) → (((I 122) j12) = 0) → Post (some (.int (-3))) HS (mMt I 1) L RF 146) (k4 : ∀ j17 : Nat, (j17 < 12) → q = nI j17 → ∀ j20 : Nat, (j20 < 12) → r = nI j20 → (¬ ((I 122) j17) = 0) → (¬ ((I 122) j20) = 0) → ∀ J29 : ma_I, (∀ j, j < 16 → J29 133 j = I 123 (16 * j17 + j)) → (∀ j, j < 16 → J29 134 j = I 123 (16 * j20 + j)) → (mSx [133, 134] [] I J29) → ∀ K33 : ma_L, (K33 132 0 = mSf [15] (J29 133) (J29 134)) → (K33 132 1 = mSf [7, 11, 13, 14] (J29 133) (J29 134)) → (K33 132 2 = mSf [3, 5, 6, 9, 10, 12] (J29 133) (J29 134)) → (K33 132 3 = mSf [1, 2, 4, 8] (J29 133) (J29 134)) → (K33 132 4 = mSf [0] (J29 133) (J29 134)) → (mSl [132, 120] L K33) → Post (some (.int (((((0 + (if ¬ ((K33 132) 0) = 0 then (1 : Int32) else 0)) + (if ¬ ((K33 132) 1) = 0 then (1 : Int32) else 0)) + (if ¬ ((K33 132) 2) = 0 then (1 : Int32) else 0)) + (if ¬ ((K33 132) 3) = 0 then (1 : Int32) else 0)) + (if ¬ ((K33 132) 4) = 0 then (1 : Int32) else 0)))) HS (ma_up J29 115 (ma_up (J29 115) 26 1)) (ma_up K33 135 (ma_up (ma_up (ma_up (ma_up (ma_up (K33 135) 0 ((K33 132) 0)) 1 ((K33 132) 1)) 2 ((K33 132) 2)) 3 ((K33 132) 3)) 4 ((K33 132) 4))) RF 146) (k5 : ∀ j25 : Nat, (j25 < 12) → q = nI j25 → (¬ ((¬ r < 0) ∧ (¬ 11 < r))) → Post (some (.int (-1))) HS I L RF 146) : CT g yX8_form cX8_form 6 (some .int) rX8_form [.ref 115, .int q, .int r] Post HS I L RF 146 := by
  refine ct_of (lv := [some (.ref 115), some (.int q), some (.int r), none, none, none]) (by decide) (Nat.le_of_ble_eq_true rfl) rfl ?_
  refine ev_aload_n (pc' := 1) (i := 0) dX8_form_0 rfl rfl rfl ?_
  refine ev_iload_n (pc' := 2) (i := 1) dX8_form_1 rfl rfl rfl ?_
  refine ev_iload_n (pc' := 3) (i := 2) dX8_form_2 rfl rfl rfl ?_
  refine ev_callV (pc' := 6) (rm' := rX8_askedTwo) (b := 115) (av := [.int q, .int r]) (rest := []) co_X8_227 ci_X8_askedTwo cv_X8_askedTwo dX8_form_3 rfl hs_115 hb_X8 rfl rfl (Nat.le_of_ble_eq_true rfl) ⟨(Nat.le_of_ble_eq_true rfl), (Nat.le_of_ble_eq_true rfl)⟩ ⟨(Nat.le_of_ble_eq_true rfl), (Nat.le_of_ble_eq_true rfl)⟩ ?_
  refine t_X8_askedTwo q r  (fun h1 => ?_) (fun j2 h3 e4 j5 h6 e7 h8 => ?_) (fun j9 h10 e11 j12 h13 e14 h15 h16 => ?_) (fun j17 h18 e19 j20 h21 e22 h23 h24 => ?_) (fun j25 h26 e27 h28 => ?_)
  · skip
    refine ev_istore_n (pc' := 7) (i := 3) (lv' := [some (.ref 115), some (.int q), some (.int r), some (.int (-1)), none, none]) dX8_form_6 rfl rfl (Nat.le_of_ble_eq_true rfl) rfl rfl ?_
    refine ev_iload_n (pc' := 8) (i := 3) dX8_form_7 rfl rfl rfl ?_
    refine ev_if_ge (tgt := 13) (pc' := 11) dX8_form_8 rfl rfl (fun h => absurd h (by decide)) (fun _ => ?_)
    refine ev_iload_n (pc' := 12) (i := 3) dX8_form_11 rfl rfl rfl ?_
    refine ev_iret dX8_form_12 rfl rfl ⟨Nat.le_refl _, Nat.le_refl _⟩ ?_
    exact k1 h1
  · subst e4
    subst e7
    refine ev_istore_n (pc' := 7) (i := 3) (lv' := [some (.ref 115), some (.int (nI j2)), some (.int (nI j5)), some (.int (-3)), none, none]) dX8_form_6 rfl rfl (Nat.le_of_ble_eq_true rfl) rfl rfl ?_
    refine ev_iload_n (pc' := 8) (i := 3) dX8_form_7 rfl rfl rfl ?_
    refine ev_if_ge (tgt := 13) (pc' := 11) dX8_form_8 rfl rfl (fun h => absurd h (by decide)) (fun _ => ?_)
    refine ev_iload_n (pc' := 12) (i := 3) dX8_form_11 rfl rfl rfl ?_
    refine ev_iret dX8_form_12 rfl rfl ⟨Nat.le_refl _, Nat.le_refl _⟩ ?_
    exact k2 j2 h3 rfl j5 h6 rfl h8
  · subst e11
    subst e14
    refine ev_istore_n (pc' := 7) (i := 3) (lv' := [some (.ref 115), some (.int (nI j9)), some (.int (nI j12)), some (.int (-3)), none, none]) dX8_form_6 rfl rfl (Nat.le_of_ble_eq_true rfl) rfl rfl ?_
    refine ev_iload_n (pc' := 8) (i := 3) dX8_form_7 rfl rfl rfl ?_
    refine ev_if_ge (tgt := 13) (pc' := 11) dX8_form_8 rfl rfl (fun h => absurd h (by decide)) (fun _ => ?_)
    refine ev_iload_n (pc' := 12) (i := 3) dX8_form_11 rfl rfl rfl ?_
    refine ev_iret dX8_form_12 rfl rfl ⟨Nat.le_refl _, Nat.le_refl _⟩ ?_
    exact k3 j9 h10 rfl j12 h13 rfl h15 h16
  · subst e19
    subst e22
    refine ev_istore_n (pc' := 7) (i := 3) (lv' := [some (.ref 115), some (.int (nI j17)), some (.int (nI j20)), some (.int 0), none, none]) dX8_form_6 rfl rfl (Nat.le_of_ble_eq_true rfl) rfl rfl ?_
    refine ev_iload_n (pc' := 8) (i := 3) dX8_form_7 rfl rfl rfl ?_
    refine ev_if_ge (tgt := 13) (pc' := 11) dX8_form_8 rfl rfl (fun _ => ?_) (fun h => absurd (by decide) h)
    refine ev_aload_n (pc' := 14) (i := 0) dX8_form_13 rfl rfl rfl ?_
    refine ev_iload_n (pc' := 15) (i := 1) dX8_form_14 rfl rfl rfl ?_
    refine ev_iload_n (pc' := 16) (i := 2) dX8_form_15 rfl rfl rfl ?_
    refine ev_callV (pc' := 19) (rm' := rX8_layPair) (b := 115) (av := [.int (nI j17), .int (nI j20)]) (rest := []) co_X8_256 ci_X8_layPair cv_X8_layPair dX8_form_16 rfl hs_115 hb_X8 rfl rfl (Nat.le_of_ble_eq_true rfl) ⟨(Nat.le_of_ble_eq_true rfl), (Nat.le_of_ble_eq_true rfl)⟩ ⟨(Nat.le_of_ble_eq_true rfl), (Nat.le_of_ble_eq_true rfl)⟩ ?_
    refine f_X8_layPair j17 j20 (by omega) (by omega) (fun J29 f30 f31 f32 => ?_)
    refine ev_aload_n (pc' := 20) (i := 0) dX8_form_19 rfl rfl rfl ?_
    refine ev_callV (pc' := 23) (rm' := rX8_layForm) (b := 115) (av := []) (rest := []) co_X8_259 ci_X8_layForm cv_X8_layForm dX8_form_20 rfl hs_115 hb_X8 rfl rfl (Nat.le_of_ble_eq_true rfl) ⟨(Nat.le_of_ble_eq_true rfl), (Nat.le_of_ble_eq_true rfl)⟩ ⟨(Nat.le_of_ble_eq_true rfl), (Nat.le_of_ble_eq_true rfl)⟩ ?_
    refine f_X8_layForm   (fun K33 f34 f35 f36 f37 f38 f39 => ?_)
    refine ev_aload_n (pc' := 24) (i := 0) dX8_form_23 rfl rfl rfl ?_
    refine ev_iconst (pc' := 25) (v := 1) dX8_form_24 rfl ki_1 ?_
    refine ev_putI (pc' := 28) (I' := (ma_up J29 115 (ma_up (J29 115) 26 1))) fo_X8_262 dX8_form_25 rfl hs_115 rfl (fun r hr => by cases hr; rfl) ⟨rfl, rfl⟩ rfl ?_
    refine ev_iconst (pc' := 29) (v := 0) dX8_form_28 rfl ki_0 ?_
    refine ev_istore (pc' := 31) (lv' := [some (.ref 115), some (.int (nI j17)), some (.int (nI j20)), some (.int 0), some (.int 0), none]) dX8_form_29 rfl (Nat.le_of_ble_eq_true rfl) rfl rfl ?_
    refine ev_iconst (pc' := 32) (v := 0) dX8_form_31 rfl ki_0 ?_
    refine ev_istore (pc' := 34) (lv' := [some (.ref 115), some (.int (nI j17)), some (.int (nI j20)), some (.int 0), some (.int 0), some (.int 0)]) dX8_form_32 rfl (Nat.le_of_ble_eq_true rfl) rfl rfl ?_
    refine ev_iload (pc' := 36) dX8_form_34 rfl rfl ?_
    refine ev_iconst (pc' := 37) (v := 5) dX8_form_36 rfl ki_5 ?_
    refine ev_icmp_ge (tgt := 82) (pc' := 40) dX8_form_37 rfl rfl (fun h => absurd h (by decide)) (fun _ => ?_)
    refine ev_aload_n (pc' := 41) (i := 0) dX8_form_40 rfl rfl rfl ?_
    refine ev_getR (pc' := 44) fo_X8_73 dX8_form_41 rfl hs_115 rfl rf_115_27 ?_
    refine ev_iload (pc' := 46) dX8_form_44 rfl rfl ?_
    refine ev_aload_n (pc' := 47) (i := 0) dX8_form_46 rfl rfl rfl ?_
    refine ev_getR (pc' := 50) fo_X8_64 dX8_form_47 rfl hs_115 rfl rf_115_23 ?_
    refine ev_iload (pc' := 52) dX8_form_50 rfl rfl ?_
    refine ev_lald (pc' := 53) (j := 0) (v := (K33 132) 0) dX8_form_52 rfl hs_132 rfl (Nat.le_of_ble_eq_true rfl) (Nat.le_of_ble_eq_true rfl) rfl ?_
    refine ev_last (pc' := 54) (j := 0) (L' := (ma_up K33 135 (ma_up (K33 135) 0 ((K33 132) 0)))) dX8_form_53 rfl hs_135 rfl (Nat.le_of_ble_eq_true rfl) (Nat.le_of_ble_eq_true rfl) rfl ?_
    refine ev_iload (pc' := 56) dX8_form_54 rfl rfl ?_
    refine ev_aload_n (pc' := 57) (i := 0) dX8_form_56 rfl rfl rfl ?_
    refine ev_getR (pc' := 60) fo_X8_64 dX8_form_57 rfl hs_115 rfl rf_115_23 ?_
    refine ev_iload (pc' := 62) dX8_form_60 rfl rfl ?_
    refine ev_lald (pc' := 63) (j := 0) (v := (K33 132) 0) dX8_form_62 rfl hs_132 rfl (Nat.le_of_ble_eq_true rfl) (Nat.le_of_ble_eq_true rfl) rfl ?_
    refine ev_lconst (pc' := 64) (v := 0) dX8_form_63 rfl kl_0 ?_
    suffices K42 : ∀ x41 : Int32, x41 = (if ¬ ((K33 132) 0) = 0 then (1 : Int32) else 0) → EV g yX8_form cX8_form 6 (some .int) rX8_form (ma_ZM g rX8_form Post) 73 [some (.ref 115), some (.int (nI j17)), some (.int (nI j20)), some (.int 0), some (.int 0), some (.int 0)] [.int x41, .int 0] HS (ma_up J29 115 (ma_up (J29 115) 26 1)) (ma_up K33 135 (ma_up (K33 135) 0 ((K33 132) 0))) RF 146 0 0 by
      refine ev_lc_ne (p1 := 65) (tgt := 72) (pc' := 68) dX8_form_64 rfl dX8_form_65 rfl rfl (fun c43 => ?_) (fun c43 => ?_)
      · refine ev_iconst (pc' := 73) (v := 1) dX8_form_72 rfl ki_1 ?_
        exact K42 _ (if_pos c43).symm
      · refine ev_iconst (pc' := 69) (v := 0) dX8_form_68 rfl ki_0 ?_
        refine ev_goto (tgt := 73) dX8_form_69 rfl ?_
        exact K42 _ (if_neg (not_not_intro c43)).symm
    intro x41 hx41
    subst hx41
    refine ev_iadd (pc' := 74) (v := 0 + (if ¬ ((K33 132) 0) = 0 then (1 : Int32) else 0)) dX8_form_73 rfl rfl ?_
    refine ev_istore (pc' := 76) (lv' := [some (.ref 115), some (.int (nI j17)), some (.int (nI j20)), some (.int 0), some (.int (0 + (if ¬ ((K33 132) 0) = 0 then (1 : Int32) else 0))), some (.int 0)]) dX8_form_74 rfl (Nat.le_of_ble_eq_true rfl) rfl rfl ?_
    refine ev_iinc (pc' := 79) (v := 1) (lv' := [some (.ref 115), some (.int (nI j17)), some (.int (nI j20)), some (.int 0), some (.int (0 + (if ¬ ((K33 132) 0) = 0 then (1 : Int32) else 0))), some (.int 1)]) dX8_form_76 rfl rfl (by decide) (Nat.le_of_ble_eq_true rfl) rfl rfl ?_
    refine ev_goto (tgt := 34) dX8_form_79 rfl ?_
    refine ev_iload (pc' := 36) dX8_form_34 rfl rfl ?_
    refine ev_iconst (pc' := 37) (v := 5) dX8_form_36 rfl ki_5 ?_
    refine ev_icmp_ge (tgt := 82) (pc' := 40) dX8_form_37 rfl rfl (fun h => absurd h (by decide)) (fun _ => ?_)
    refine ev_aload_n (pc' := 41) (i := 0) dX8_form_40 rfl rfl rfl ?_
    refine ev_getR (pc' := 44) fo_X8_73 dX8_form_41 rfl hs_115 rfl rf_115_27 ?_
    refine ev_iload (pc' := 46) dX8_form_44 rfl rfl ?_
    refine ev_aload_n (pc' := 47) (i := 0) dX8_form_46 rfl rfl rfl ?_
    refine ev_getR (pc' := 50) fo_X8_64 dX8_form_47 rfl hs_115 rfl rf_115_23 ?_
    refine ev_iload (pc' := 52) dX8_form_50 rfl rfl ?_
    refine ev_lald (pc' := 53) (j := 1) (v := (K33 132) 1) dX8_form_52 rfl hs_132 rfl (Nat.le_of_ble_eq_true rfl) (Nat.le_of_ble_eq_true rfl) rfl ?_
    refine ev_last (pc' := 54) (j := 1) (L' := (ma_up K33 135 (ma_up (ma_up (K33 135) 0 ((K33 132) 0)) 1 ((K33 132) 1)))) dX8_form_53 rfl hs_135 rfl (Nat.le_of_ble_eq_true rfl) (Nat.le_of_ble_eq_true rfl) (ma_up_up _ _ _ _) ?_
    refine ev_iload (pc' := 56) dX8_form_54 rfl rfl ?_
    refine ev_aload_n (pc' := 57) (i := 0) dX8_form_56 rfl rfl rfl ?_
    refine ev_getR (pc' := 60) fo_X8_64 dX8_form_57 rfl hs_115 rfl rf_115_23 ?_
    refine ev_iload (pc' := 62) dX8_form_60 rfl rfl ?_
    refine ev_lald (pc' := 63) (j := 1) (v := (K33 132) 1) dX8_form_62 rfl hs_132 rfl (Nat.le_of_ble_eq_true rfl) (Nat.le_of_ble_eq_true rfl) rfl ?_
    refine ev_lconst (pc' := 64) (v := 0) dX8_form_63 rfl kl_0 ?_
    suffices K46 : ∀ x45 : Int32, x45 = (if ¬ ((K33 132) 1) = 0 then (1 : Int32) else 0) → EV g yX8_form cX8_form 6 (some .int) rX8_form (ma_ZM g rX8_form Post) 73 [some (.ref 115), some (.int (nI j17)), some (.int (nI j20)), some (.int 0), some (.int (0 + (if ¬ ((K33 132) 0) = 0 then (1 : Int32) else 0))), some (.int 1)] [.int x45, .int (0 + (if ¬ ((K33 132) 0) = 0 then (1 : Int32) else 0))] HS (ma_up J29 115 (ma_up (J29 115) 26 1)) (ma_up K33 135 (ma_up (ma_up (K33 135) 0 ((K33 132) 0)) 1 ((K33 132) 1))) RF 146 0 0 by
      refine ev_lc_ne (p1 := 65) (tgt := 72) (pc' := 68) dX8_form_64 rfl dX8_form_65 rfl rfl (fun c47 => ?_) (fun c47 => ?_)
      · refine ev_iconst (pc' := 73) (v := 1) dX8_form_72 rfl ki_1 ?_
        exact K46 _ (if_pos c47).symm
      · refine ev_iconst (pc' := 69) (v := 0) dX8_form_68 rfl ki_0 ?_
        refine ev_goto (tgt := 73) dX8_form_69 rfl ?_
        exact K46 _ (if_neg (not_not_intro c47)).symm
    intro x45 hx45
    subst hx45
    refine ev_iadd (pc' := 74) (v := (0 + (if ¬ ((K33 132) 0) = 0 then (1 : Int32) else 0)) + (if ¬ ((K33 132) 1) = 0 then (1 : Int32) else 0)) dX8_form_73 rfl rfl ?_
    refine ev_istore (pc' := 76) (lv' := [some (.ref 115), some (.int (nI j17)), some (.int (nI j20)), some (.int 0), some (.int ((0 + (if ¬ ((K33 132) 0) = 0 then (1 : Int32) else 0)) + (if ¬ ((K33 132) 1) = 0 then (1 : Int32) else 0))), some (.int 1)]) dX8_form_74 rfl (Nat.le_of_ble_eq_true rfl) rfl rfl ?_
    refine ev_iinc (pc' := 79) (v := 2) (lv' := [some (.ref 115), some (.int (nI j17)), some (.int (nI j20)), some (.int 0), some (.int ((0 + (if ¬ ((K33 132) 0) = 0 then (1 : Int32) else 0)) + (if ¬ ((K33 132) 1) = 0 then (1 : Int32) else 0))), some (.int 2)]) dX8_form_76 rfl rfl (by decide) (Nat.le_of_ble_eq_true rfl) rfl rfl ?_
    refine ev_goto (tgt := 34) dX8_form_79 rfl ?_
    refine ev_iload (pc' := 36) dX8_form_34 rfl rfl ?_
    refine ev_iconst (pc' := 37) (v := 5) dX8_form_36 rfl ki_5 ?_
    refine ev_icmp_ge (tgt := 82) (pc' := 40) dX8_form_37 rfl rfl (fun h => absurd h (by decide)) (fun _ => ?_)
    refine ev_aload_n (pc' := 41) (i := 0) dX8_form_40 rfl rfl rfl ?_
    refine ev_getR (pc' := 44) fo_X8_73 dX8_form_41 rfl hs_115 rfl rf_115_27 ?_
    refine ev_iload (pc' := 46) dX8_form_44 rfl rfl ?_
    refine ev_aload_n (pc' := 47) (i := 0) dX8_form_46 rfl rfl rfl ?_
    refine ev_getR (pc' := 50) fo_X8_64 dX8_form_47 rfl hs_115 rfl rf_115_23 ?_
    refine ev_iload (pc' := 52) dX8_form_50 rfl rfl ?_
    refine ev_lald (pc' := 53) (j := 2) (v := (K33 132) 2) dX8_form_52 rfl hs_132 rfl (Nat.le_of_ble_eq_true rfl) (Nat.le_of_ble_eq_true rfl) rfl ?_
    refine ev_last (pc' := 54) (j := 2) (L' := (ma_up K33 135 (ma_up (ma_up (ma_up (K33 135) 0 ((K33 132) 0)) 1 ((K33 132) 1)) 2 ((K33 132) 2)))) dX8_form_53 rfl hs_135 rfl (Nat.le_of_ble_eq_true rfl) (Nat.le_of_ble_eq_true rfl) (ma_up_up _ _ _ _) ?_
    refine ev_iload (pc' := 56) dX8_form_54 rfl rfl ?_
    refine ev_aload_n (pc' := 57) (i := 0) dX8_form_56 rfl rfl rfl ?_
    refine ev_getR (pc' := 60) fo_X8_64 dX8_form_57 rfl hs_115 rfl rf_115_23 ?_
    refine ev_iload (pc' := 62) dX8_form_60 rfl rfl ?_
    refine ev_lald (pc' := 63) (j := 2) (v := (K33 132) 2) dX8_form_62 rfl hs_132 rfl (Nat.le_of_ble_eq_true rfl) (Nat.le_of_ble_eq_true rfl) rfl ?_
    refine ev_lconst (pc' := 64) (v := 0) dX8_form_63 rfl kl_0 ?_
    suffices K50 : ∀ x49 : Int32, x49 = (if ¬ ((K33 132) 2) = 0 then (1 : Int32) else 0) → EV g yX8_form cX8_form 6 (some .int) rX8_form (ma_ZM g rX8_form Post) 73 [some (.ref 115), some (.int (nI j17)), some (.int (nI j20)), some (.int 0), some (.int ((0 + (if ¬ ((K33 132) 0) = 0 then (1 : Int32) else 0)) + (if ¬ ((K33 132) 1) = 0 then (1 : Int32) else 0))), some (.int 2)] [.int x49, .int ((0 + (if ¬ ((K33 132) 0) = 0 then (1 : Int32) else 0)) + (if ¬ ((K33 132) 1) = 0 then (1 : Int32) else 0))] HS (ma_up J29 115 (ma_up (J29 115) 26 1)) (ma_up K33 135 (ma_up (ma_up (ma_up (K33 135) 0 ((K33 132) 0)) 1 ((K33 132) 1)) 2 ((K33 132) 2))) RF 146 0 0 by
      refine ev_lc_ne (p1 := 65) (tgt := 72) (pc' := 68) dX8_form_64 rfl dX8_form_65 rfl rfl (fun c51 => ?_) (fun c51 => ?_)
      · refine ev_iconst (pc' := 73) (v := 1) dX8_form_72 rfl ki_1 ?_
        exact K50 _ (if_pos c51).symm
      · refine ev_iconst (pc' := 69) (v := 0) dX8_form_68 rfl ki_0 ?_
        refine ev_goto (tgt := 73) dX8_form_69 rfl ?_
        exact K50 _ (if_neg (not_not_intro c51)).symm
    intro x49 hx49
    subst hx49
    refine ev_iadd (pc' := 74) (v := ((0 + (if ¬ ((K33 132) 0) = 0 then (1 : Int32) else 0)) + (if ¬ ((K33 132) 1) = 0 then (1 : Int32) else 0)) + (if ¬ ((K33 132) 2) = 0 then (1 : Int32) else 0)) dX8_form_73 rfl rfl ?_
    refine ev_istore (pc' := 76) (lv' := [some (.ref 115), some (.int (nI j17)), some (.int (nI j20)), some (.int 0), some (.int (((0 + (if ¬ ((K33 132) 0) = 0 then (1 : Int32) else 0)) + (if ¬ ((K33 132) 1) = 0 then (1 : Int32) else 0)) + (if ¬ ((K33 132) 2) = 0 then (1 : Int32) else 0))), some (.int 2)]) dX8_form_74 rfl (Nat.le_of_ble_eq_true rfl) rfl rfl ?_
    refine ev_iinc (pc' := 79) (v := 3) (lv' := [some (.ref 115), some (.int (nI j17)), some (.int (nI j20)), some (.int 0), some (.int (((0 + (if ¬ ((K33 132) 0) = 0 then (1 : Int32) else 0)) + (if ¬ ((K33 132) 1) = 0 then (1 : Int32) else 0)) + (if ¬ ((K33 132) 2) = 0 then (1 : Int32) else 0))), some (.int 3)]) dX8_form_76 rfl rfl (by decide) (Nat.le_of_ble_eq_true rfl) rfl rfl ?_
    refine ev_goto (tgt := 34) dX8_form_79 rfl ?_
    refine ev_iload (pc' := 36) dX8_form_34 rfl rfl ?_
    refine ev_iconst (pc' := 37) (v := 5) dX8_form_36 rfl ki_5 ?_
    refine ev_icmp_ge (tgt := 82) (pc' := 40) dX8_form_37 rfl rfl (fun h => absurd h (by decide)) (fun _ => ?_)
    refine ev_aload_n (pc' := 41) (i := 0) dX8_form_40 rfl rfl rfl ?_
    refine ev_getR (pc' := 44) fo_X8_73 dX8_form_41 rfl hs_115 rfl rf_115_27 ?_
    refine ev_iload (pc' := 46) dX8_form_44 rfl rfl ?_
    refine ev_aload_n (pc' := 47) (i := 0) dX8_form_46 rfl rfl rfl ?_
    refine ev_getR (pc' := 50) fo_X8_64 dX8_form_47 rfl hs_115 rfl rf_115_23 ?_
    refine ev_iload (pc' := 52) dX8_form_50 rfl rfl ?_
    refine ev_lald (pc' := 53) (j := 3) (v := (K33 132) 3) dX8_form_52 rfl hs_132 rfl (Nat.le_of_ble_eq_true rfl) (Nat.le_of_ble_eq_true rfl) rfl ?_
    refine ev_last (pc' := 54) (j := 3) (L' := (ma_up K33 135 (ma_up (ma_up (ma_up (ma_up (K33 135) 0 ((K33 132) 0)) 1 ((K33 132) 1)) 2 ((K33 132) 2)) 3 ((K33 132) 3)))) dX8_form_53 rfl hs_135 rfl (Nat.le_of_ble_eq_true rfl) (Nat.le_of_ble_eq_true rfl) (ma_up_up _ _ _ _) ?_
    refine ev_iload (pc' := 56) dX8_form_54 rfl rfl ?_
    refine ev_aload_n (pc' := 57) (i := 0) dX8_form_56 rfl rfl rfl ?_
    refine ev_getR (pc' := 60) fo_X8_64 dX8_form_57 rfl hs_115 rfl rf_115_23 ?_
    refine ev_iload (pc' := 62) dX8_form_60 rfl rfl ?_
    refine ev_lald (pc' := 63) (j := 3) (v := (K33 132) 3) dX8_form_62 rfl hs_132 rfl (Nat.le_of_ble_eq_true rfl) (Nat.le_of_ble_eq_true rfl) rfl ?_
    refine ev_lconst (pc' := 64) (v := 0) dX8_form_63 rfl kl_0 ?_
    suffices K54 : ∀ x53 : Int32, x53 = (if ¬ ((K33 132) 3) = 0 then (1 : Int32) else 0) → EV g yX8_form cX8_form 6 (some .int) rX8_form (ma_ZM g rX8_form Post) 73 [some (.ref 115), some (.int (nI j17)), some (.int (nI j20)), some (.int 0), some (.int (((0 + (if ¬ ((K33 132) 0) = 0 then (1 : Int32) else 0)) + (if ¬ ((K33 132) 1) = 0 then (1 : Int32) else 0)) + (if ¬ ((K33 132) 2) = 0 then (1 : Int32) else 0))), some (.int 3)] [.int x53, .int (((0 + (if ¬ ((K33 132) 0) = 0 then (1 : Int32) else 0)) + (if ¬ ((K33 132) 1) = 0 then (1 : Int32) else 0)) + (if ¬ ((K33 132) 2) = 0 then (1 : Int32) else 0))] HS (ma_up J29 115 (ma_up (J29 115) 26 1)) (ma_up K33 135 (ma_up (ma_up (ma_up (ma_up (K33 135) 0 ((K33 132) 0)) 1 ((K33 132) 1)) 2 ((K33 132) 2)) 3 ((K33 132) 3))) RF 146 0 0 by
      refine ev_lc_ne (p1 := 65) (tgt := 72) (pc' := 68) dX8_form_64 rfl dX8_form_65 rfl rfl (fun c55 => ?_) (fun c55 => ?_)
      · refine ev_iconst (pc' := 73) (v := 1) dX8_form_72 rfl ki_1 ?_
        exact K54 _ (if_pos c55).symm
      · refine ev_iconst (pc' := 69) (v := 0) dX8_form_68 rfl ki_0 ?_
        refine ev_goto (tgt := 73) dX8_form_69 rfl ?_
        exact K54 _ (if_neg (not_not_intro c55)).symm
    intro x53 hx53
    subst hx53
    refine ev_iadd (pc' := 74) (v := (((0 + (if ¬ ((K33 132) 0) = 0 then (1 : Int32) else 0)) + (if ¬ ((K33 132) 1) = 0 then (1 : Int32) else 0)) + (if ¬ ((K33 132) 2) = 0 then (1 : Int32) else 0)) + (if ¬ ((K33 132) 3) = 0 then (1 : Int32) else 0)) dX8_form_73 rfl rfl ?_
    refine ev_istore (pc' := 76) (lv' := [some (.ref 115), some (.int (nI j17)), some (.int (nI j20)), some (.int 0), some (.int ((((0 + (if ¬ ((K33 132) 0) = 0 then (1 : Int32) else 0)) + (if ¬ ((K33 132) 1) = 0 then (1 : Int32) else 0)) + (if ¬ ((K33 132) 2) = 0 then (1 : Int32) else 0)) + (if ¬ ((K33 132) 3) = 0 then (1 : Int32) else 0))), some (.int 3)]) dX8_form_74 rfl (Nat.le_of_ble_eq_true rfl) rfl rfl ?_
    refine ev_iinc (pc' := 79) (v := 4) (lv' := [some (.ref 115), some (.int (nI j17)), some (.int (nI j20)), some (.int 0), some (.int ((((0 + (if ¬ ((K33 132) 0) = 0 then (1 : Int32) else 0)) + (if ¬ ((K33 132) 1) = 0 then (1 : Int32) else 0)) + (if ¬ ((K33 132) 2) = 0 then (1 : Int32) else 0)) + (if ¬ ((K33 132) 3) = 0 then (1 : Int32) else 0))), some (.int 4)]) dX8_form_76 rfl rfl (by decide) (Nat.le_of_ble_eq_true rfl) rfl rfl ?_
    refine ev_goto (tgt := 34) dX8_form_79 rfl ?_
    refine ev_iload (pc' := 36) dX8_form_34 rfl rfl ?_
    refine ev_iconst (pc' := 37) (v := 5) dX8_form_36 rfl ki_5 ?_
    refine ev_icmp_ge (tgt := 82) (pc' := 40) dX8_form_37 rfl rfl (fun h => absurd h (by decide)) (fun _ => ?_)
    refine ev_aload_n (pc' := 41) (i := 0) dX8_form_40 rfl rfl rfl ?_
    refine ev_getR (pc' := 44) fo_X8_73 dX8_form_41 rfl hs_115 rfl rf_115_27 ?_
    refine ev_iload (pc' := 46) dX8_form_44 rfl rfl ?_
    refine ev_aload_n (pc' := 47) (i := 0) dX8_form_46 rfl rfl rfl ?_
    refine ev_getR (pc' := 50) fo_X8_64 dX8_form_47 rfl hs_115 rfl rf_115_23 ?_
    refine ev_iload (pc' := 52) dX8_form_50 rfl rfl ?_
    refine ev_lald (pc' := 53) (j := 4) (v := (K33 132) 4) dX8_form_52 rfl hs_132 rfl (Nat.le_of_ble_eq_true rfl) (Nat.le_of_ble_eq_true rfl) rfl ?_
    refine ev_last (pc' := 54) (j := 4) (L' := (ma_up K33 135 (ma_up (ma_up (ma_up (ma_up (ma_up (K33 135) 0 ((K33 132) 0)) 1 ((K33 132) 1)) 2 ((K33 132) 2)) 3 ((K33 132) 3)) 4 ((K33 132) 4)))) dX8_form_53 rfl hs_135 rfl (Nat.le_of_ble_eq_true rfl) (Nat.le_of_ble_eq_true rfl) (ma_up_up _ _ _ _) ?_
    refine ev_iload (pc' := 56) dX8_form_54 rfl rfl ?_
    refine ev_aload_n (pc' := 57) (i := 0) dX8_form_56 rfl rfl rfl ?_
    refine ev_getR (pc' := 60) fo_X8_64 dX8_form_57 rfl hs_115 rfl rf_115_23 ?_
    refine ev_iload (pc' := 62) dX8_form_60 rfl rfl ?_
    refine ev_lald (pc' := 63) (j := 4) (v := (K33 132) 4) dX8_form_62 rfl hs_132 rfl (Nat.le_of_ble_eq_true rfl) (Nat.le_of_ble_eq_true rfl) rfl ?_
    refine ev_lconst (pc' := 64) (v := 0) dX8_form_63 rfl kl_0 ?_
    suffices K58 : ∀ x57 : Int32, x57 = (if ¬ ((K33 132) 4) = 0 then (1 : Int32) else 0) → EV g yX8_form cX8_form 6 (some .int) rX8_form (ma_ZM g rX8_form Post) 73 [some (.ref 115), some (.int (nI j17)), some (.int (nI j20)), some (.int 0), some (.int ((((0 + (if ¬ ((K33 132) 0) = 0 then (1 : Int32) else 0)) + (if ¬ ((K33 132) 1) = 0 then (1 : Int32) else 0)) + (if ¬ ((K33 132) 2) = 0 then (1 : Int32) else 0)) + (if ¬ ((K33 132) 3) = 0 then (1 : Int32) else 0))), some (.int 4)] [.int x57, .int ((((0 + (if ¬ ((K33 132) 0) = 0 then (1 : Int32) else 0)) + (if ¬ ((K33 132) 1) = 0 then (1 : Int32) else 0)) + (if ¬ ((K33 132) 2) = 0 then (1 : Int32) else 0)) + (if ¬ ((K33 132) 3) = 0 then (1 : Int32) else 0))] HS (ma_up J29 115 (ma_up (J29 115) 26 1)) (ma_up K33 135 (ma_up (ma_up (ma_up (ma_up (ma_up (K33 135) 0 ((K33 132) 0)) 1 ((K33 132) 1)) 2 ((K33 132) 2)) 3 ((K33 132) 3)) 4 ((K33 132) 4))) RF 146 0 0 by
      refine ev_lc_ne (p1 := 65) (tgt := 72) (pc' := 68) dX8_form_64 rfl dX8_form_65 rfl rfl (fun c59 => ?_) (fun c59 => ?_)
      · refine ev_iconst (pc' := 73) (v := 1) dX8_form_72 rfl ki_1 ?_
        exact K58 _ (if_pos c59).symm
      · refine ev_iconst (pc' := 69) (v := 0) dX8_form_68 rfl ki_0 ?_
        refine ev_goto (tgt := 73) dX8_form_69 rfl ?_
        exact K58 _ (if_neg (not_not_intro c59)).symm
    intro x57 hx57
    subst hx57
    refine ev_iadd (pc' := 74) (v := ((((0 + (if ¬ ((K33 132) 0) = 0 then (1 : Int32) else 0)) + (if ¬ ((K33 132) 1) = 0 then (1 : Int32) else 0)) + (if ¬ ((K33 132) 2) = 0 then (1 : Int32) else 0)) + (if ¬ ((K33 132) 3) = 0 then (1 : Int32) else 0)) + (if ¬ ((K33 132) 4) = 0 then (1 : Int32) else 0)) dX8_form_73 rfl rfl ?_
    refine ev_istore (pc' := 76) (lv' := [some (.ref 115), some (.int (nI j17)), some (.int (nI j20)), some (.int 0), some (.int (((((0 + (if ¬ ((K33 132) 0) = 0 then (1 : Int32) else 0)) + (if ¬ ((K33 132) 1) = 0 then (1 : Int32) else 0)) + (if ¬ ((K33 132) 2) = 0 then (1 : Int32) else 0)) + (if ¬ ((K33 132) 3) = 0 then (1 : Int32) else 0)) + (if ¬ ((K33 132) 4) = 0 then (1 : Int32) else 0))), some (.int 4)]) dX8_form_74 rfl (Nat.le_of_ble_eq_true rfl) rfl rfl ?_
    refine ev_iinc (pc' := 79) (v := 5) (lv' := [some (.ref 115), some (.int (nI j17)), some (.int (nI j20)), some (.int 0), some (.int (((((0 + (if ¬ ((K33 132) 0) = 0 then (1 : Int32) else 0)) + (if ¬ ((K33 132) 1) = 0 then (1 : Int32) else 0)) + (if ¬ ((K33 132) 2) = 0 then (1 : Int32) else 0)) + (if ¬ ((K33 132) 3) = 0 then (1 : Int32) else 0)) + (if ¬ ((K33 132) 4) = 0 then (1 : Int32) else 0))), some (.int 5)]) dX8_form_76 rfl rfl (by decide) (Nat.le_of_ble_eq_true rfl) rfl rfl ?_
    refine ev_goto (tgt := 34) dX8_form_79 rfl ?_
    refine ev_iload (pc' := 36) dX8_form_34 rfl rfl ?_
    refine ev_iconst (pc' := 37) (v := 5) dX8_form_36 rfl ki_5 ?_
    refine ev_icmp_ge (tgt := 82) (pc' := 40) dX8_form_37 rfl rfl (fun _ => ?_) (fun h => absurd (by decide) h)
    refine ev_iload (pc' := 84) dX8_form_82 rfl rfl ?_
    refine ev_iret dX8_form_84 rfl rfl ⟨Nat.le_refl _, Nat.le_refl _⟩ ?_
    exact k4 j17 h18 rfl j20 h21 rfl h23 h24 J29 f30 f31 f32 K33 f34 f35 f36 f37 f38 f39
  · subst e27
    refine ev_istore_n (pc' := 7) (i := 3) (lv' := [some (.ref 115), some (.int (nI j25)), some (.int r), some (.int (-1)), none, none]) dX8_form_6 rfl rfl (Nat.le_of_ble_eq_true rfl) rfl rfl ?_
    refine ev_iload_n (pc' := 8) (i := 3) dX8_form_7 rfl rfl rfl ?_
    refine ev_if_ge (tgt := 13) (pc' := 11) dX8_form_8 rfl rfl (fun h => absurd h (by decide)) (fun _ => ?_)
    refine ev_iload_n (pc' := 12) (i := 3) dX8_form_11 rfl rfl rfl ?_
    refine ev_iret dX8_form_12 rfl rfl ⟨Nat.le_refl _, Nat.le_refl _⟩ ?_
    exact k5 j25 h26 rfl h28
set_option maxRecDepth 4000 in
theorem t_X8_formTold {g : ma_G} {Post : ma_P} {I : ma_I} {L : ma_L}  (i : Int32)  (k1 : ∀ n2 : Nat, (n2 < 5) → i = nI n2 → (((I 115) 26) = 0) → Post (some (.int (-4))) HS I L RF 146) (k2 : ∀ n2 : Nat, (n2 < 5) → i = nI n2 → (¬ ((I 115) 26) = 0) → Post (some (.int 1)) HS (ma_up I 115 (ma_up (I 115) 2 (Int64.toInt32 ((L 135) n2)))) L RF 146) (k3 : (¬ ((¬ i < 0) ∧ (¬ 4 < i))) → Post (some (.int (-1))) HS I L RF 146) : CT g yX8_formTold cX8_formTold 2 (some .int) rX8_formTold [.ref 115, .int i] Post HS I L RF 146 := by
  refine ct_of (lv := [some (.ref 115), some (.int i)]) (by decide) (Nat.le_of_ble_eq_true rfl) rfl ?_
  refine ev_iload_n (pc' := 1) (i := 1) dX8_formTold_0 rfl rfl rfl ?_
  refine ev_iconst (pc' := 2) (v := 0) dX8_formTold_1 rfl ki_0 ?_
  refine ev_iconst (pc' := 3) (v := 4) dX8_formTold_2 rfl ki_4 ?_
  refine ev_callS (pc' := 6) (rm' := rX8_in) (av := [.int i, .int 0, .int 4]) (rest := []) co_X8_133 cs_X8_in dX8_formTold_3 rfl rfl rfl (Nat.le_of_ble_eq_true rfl) ⟨(Nat.le_of_ble_eq_true rfl), (Nat.le_of_ble_eq_true rfl)⟩ ⟨(Nat.le_of_ble_eq_true rfl), (Nat.le_of_ble_eq_true rfl)⟩ ?_
  refine t_X8_in i 0 4  ?_
  refine ev_if_ne_b (tgt := 13) (pc' := 9) dX8_formTold_6 rfl rfl (fun c1 => ?_) (fun c1 => ?_)
  · obtain ⟨n2, hn2, en2⟩ := in_of (n := 4) (by omega) rfl c1
    subst en2
    refine ev_aload_n (pc' := 14) (i := 0) dX8_formTold_13 rfl rfl rfl ?_
    refine ev_getI (pc' := 17) (v := (I 115) 26) fo_X8_262 dX8_formTold_14 rfl hs_115 rfl rfl ?_
    refine ev_if_eq (tgt := 35) (pc' := 20) dX8_formTold_17 rfl rfl (fun c3 => ?_) (fun c3 => ?_)
    · refine ev_bipush (pc' := 37) (v := (-4)) dX8_formTold_35 rfl kb_m4 ?_
      refine ev_iret dX8_formTold_37 rfl rfl ⟨Nat.le_refl _, Nat.le_refl _⟩ ?_
      exact k1 n2 hn2 rfl c3
    · refine ev_aload_n (pc' := 21) (i := 0) dX8_formTold_20 rfl rfl rfl ?_
      refine ev_aload_n (pc' := 22) (i := 0) dX8_formTold_21 rfl rfl rfl ?_
      refine ev_getR (pc' := 25) fo_X8_73 dX8_formTold_22 rfl hs_115 rfl rf_115_27 ?_
      refine ev_iload_n (pc' := 26) (i := 1) dX8_formTold_25 rfl rfl rfl ?_
      refine ev_lald (pc' := 27) (j := n2) (v := (L 135) n2) dX8_formTold_26 rfl hs_135 rfl (by omega) (Nat.le_of_ble_eq_true rfl) rfl ?_
      refine ev_l2i (pc' := 28) (v := Int64.toInt32 ((L 135) n2)) dX8_formTold_27 rfl rfl ?_
      refine ev_iconst (pc' := 29) (v := 1) dX8_formTold_28 rfl ki_1 ?_
      refine ev_callV (pc' := 32) (rm' := rX8_ask) (b := 115) (av := [.int (Int64.toInt32 ((L 135) n2)), .int 1]) (rest := []) co_X8_213 ci_X8_ask cv_X8_ask dX8_formTold_29 rfl hs_115 hb_X8 rfl rfl (Nat.le_of_ble_eq_true rfl) ⟨(Nat.le_of_ble_eq_true rfl), (Nat.le_of_ble_eq_true rfl)⟩ ⟨(Nat.le_of_ble_eq_true rfl), (Nat.le_of_ble_eq_true rfl)⟩ ?_
      refine t_X8_ask (Int64.toInt32 ((L 135) n2)) 1  ?_
      refine ev_goto (tgt := 37) dX8_formTold_32 rfl ?_
      refine ev_iret dX8_formTold_37 rfl rfl ⟨Nat.le_refl _, Nat.le_refl _⟩ ?_
      exact k2 n2 hn2 rfl c3
  · refine ev_iconst (pc' := 10) (v := (-1)) dX8_formTold_9 rfl ki_m1 ?_
    refine ev_goto (tgt := 37) dX8_formTold_10 rfl ?_
    refine ev_iret dX8_formTold_37 rfl rfl ⟨Nat.le_refl _, Nat.le_refl _⟩ ?_
    exact k3 c1
set_option maxRecDepth 4000 in
theorem t_X8_isBall {g : ma_G} {Post : ma_P} {I : ma_I} {L : ma_L} (q : Nat) (hq : q < 12) (k : Post (some (.int (if ((I 124) (10 * q)) = 3 then (1 : Int32) else 0))) HS I L RF 146) : CT g yX8_isBall cX8_isBall 2 (some .boolean) rX8_isBall [.ref 115, .int (nI q)] Post HS I L RF 146 := by
  refine ct_of (lv := [some (.ref 115), some (.int (nI q))]) (by decide) (Nat.le_of_ble_eq_true rfl) rfl ?_
  refine ev_aload_n (pc' := 1) (i := 0) dX8_isBall_0 rfl rfl rfl ?_
  refine ev_getR (pc' := 4) fo_X8_40 dX8_isBall_1 rfl hs_115 rfl rf_115_14 ?_
  refine ev_bipush (pc' := 6) (v := 10) dX8_isBall_4 rfl kb_10 ?_
  refine ev_iload_n (pc' := 7) (i := 1) dX8_isBall_6 rfl rfl rfl ?_
  refine ev_imul (pc' := 8) (v := nI (10 * q)) dX8_isBall_7 rfl (pk_mul 10 q) ?_
  refine ev_iald (pc' := 9) (j := 10 * q) (v := (I 124) (10 * q)) dX8_isBall_8 rfl hs_124 rfl (by omega) (Nat.le_of_ble_eq_true rfl) rfl ?_
  refine ev_iconst (pc' := 10) (v := 3) dX8_isBall_9 rfl ki_3 ?_
  suffices K3 : ∀ x2 : Int32, x2 = (if ((I 124) (10 * q)) = 3 then (1 : Int32) else 0) → EV g yX8_isBall cX8_isBall 2 (some .boolean) rX8_isBall (ma_ZM g rX8_isBall Post) 18 [some (.ref 115), some (.int (nI q))] [.int x2] HS I L RF 146 0 0 by
    refine ev_icmp_ne (tgt := 17) (pc' := 13) dX8_isBall_10 rfl rfl (fun c4 => ?_) (fun c4 => ?_)
    · refine ev_iconst (pc' := 18) (v := 0) dX8_isBall_17 rfl ki_0 ?_
      exact K3 _ (if_neg c4).symm
    · refine ev_iconst (pc' := 14) (v := 1) dX8_isBall_13 rfl ki_1 ?_
      refine ev_goto (tgt := 18) dX8_isBall_14 rfl ?_
      exact K3 _ (if_pos c4).symm
  intro x2 hx2
  subst hx2
  refine ev_iret dX8_isBall_18 rfl b01_n ⟨Nat.le_refl _, Nat.le_refl _⟩ ?_
  exact k
