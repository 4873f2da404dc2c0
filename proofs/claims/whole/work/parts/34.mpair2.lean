theorem mSl.le {A A' : List Nat} {L K : ma_L} (h : mSl A L K) (ha : ∀ a, a ∈ A → a ∈ A') : mSl A' L K := fun a h2 => h a (fun q => h2 (ha a q))
set_option maxRecDepth 4000 in
theorem t_X8_partsPair {g : ma_G} {Post : ma_P} {I : ma_I} {L : ma_L}  (q : Nat) (r : Nat) (hq : q < 12) (hr : r < 12) (hF : ∀ j, j < 5 → ((mFm (fun k => I 123 (16 * q + k)) (fun k => I 123 (16 * r + k))) j).toInt.natAbs < 2147483648) (hQ : mPq (mFm (fun k => I 123 (16 * q + k)) (fun k => I 123 (16 * r + k)))) (k0 : (∀ j, j < 5 → (mFm (fun k => I 123 (16 * q + k)) (fun k => I 123 (16 * r + k))) j = 0) → ∀ (J : ma_I) (K : ma_L), J 115 31 = 0 → J 115 35 = 5 → (∀ j, j < 16 → J 133 j = I 123 (16 * q + j)) → (∀ j, j < 16 → J 134 j = I 123 (16 * r + j)) → mSx [133, 134, 141] [36, 31, 35, 38, 39] I J → mSl [132, 120, 142, 139, 140, 138, 136, 137] L K → Post (some (.int 0)) HS J K RF 146) (k1 : ∀ (bb m0 : Nat) (s : mP) (rl tw : Int32) (J : ma_I) (K : ma_L), mPd (mFm (fun k => I 123 (16 * q + k)) (fun k => I 123 (16 * r + k))) bb m0 s → (rl, tw) = mLL s.m s.f → mPJ s bb J K → J 115 38 = rl → J 115 39 = tw → (∀ j, j < 16 → J 133 j = I 123 (16 * q + j)) → (∀ j, j < 16 → J 134 j = I 123 (16 * r + j)) → mSx [133, 134, 141] [36, 31, 35, 38, 39] I J → mSl [132, 120, 142, 139, 140, 138, 136, 137] L K → Post (some (.int 1)) HS J K RF 146) : CT g yX8_partsPair cX8_partsPair 3 (some .boolean) rX8_partsPair [.ref 115, .int (nI q), .int (nI r)] Post HS I L RF 146 := by
  refine ct_of (lv := [some (.ref 115), some (.int (nI q)), some (.int (nI r))]) (by decide) (Nat.le_of_ble_eq_true rfl) rfl ?_
  refine ev_aload_n (pc' := 1) (i := 0) dX8_partsPair_0 rfl rfl rfl ?_
  refine ev_iload_n (pc' := 2) (i := 1) dX8_partsPair_1 rfl rfl rfl ?_
  refine ev_iload_n (pc' := 3) (i := 2) dX8_partsPair_2 rfl rfl rfl ?_
  refine ev_callV (pc' := 6) (rm' := rX8_layPair) (b := 115) (av := [.int (nI q), .int (nI r)]) (rest := []) co_X8_256 ci_X8_layPair cv_X8_layPair dX8_partsPair_3 rfl hs_115 hb_X8 rfl rfl (Nat.le_of_ble_eq_true rfl) ⟨(Nat.le_of_ble_eq_true rfl), (Nat.le_of_ble_eq_true rfl)⟩ ⟨(Nat.le_of_ble_eq_true rfl), (Nat.le_of_ble_eq_true rfl)⟩ ?_
  refine f_X8_layPair q r (by omega) (by omega) (fun J1 a1 a2 a3 => ?_)
  refine ev_aload_n (pc' := 7) (i := 0) dX8_partsPair_6 rfl rfl rfl ?_
  refine ev_callV (pc' := 10) (rm' := rX8_layForm) (b := 115) (av := []) (rest := []) co_X8_259 ci_X8_layForm cv_X8_layForm dX8_partsPair_7 rfl hs_115 hb_X8 rfl rfl (Nat.le_of_ble_eq_true rfl) ⟨(Nat.le_of_ble_eq_true rfl), (Nat.le_of_ble_eq_true rfl)⟩ ⟨(Nat.le_of_ble_eq_true rfl), (Nat.le_of_ble_eq_true rfl)⟩ ?_
  refine f_X8_layForm (fun K1 g0 g1 g2 g3 g4 g5 => ?_)
  refine ev_aload_n (pc' := 11) (i := 0) dX8_partsPair_10 rfl rfl rfl ?_
  refine ev_callV (pc' := 14) (rm' := rX8_parts) (b := 115) (av := []) (rest := []) co_X8_344 ci_X8_parts cv_X8_parts dX8_partsPair_11 rfl hs_115 hb_X8 rfl rfl (Nat.le_of_ble_eq_true rfl) ⟨(Nat.le_of_ble_eq_true rfl), (Nat.le_of_ble_eq_true rfl)⟩ ⟨(Nat.le_of_ble_eq_true rfl), (Nat.le_of_ble_eq_true rfl)⟩ ?_
  have hf : ∀ j, j < 5 → K1 132 j = (mFm (fun k => I 123 (16 * q + k)) (fun k => I 123 (16 * r + k))) j := fun j hj => (mFm_of g0 g1 g2 g3 g4 j hj).trans (congrFun (mFm_congr a1 a2) j)
  refine f_X8_parts (mFm (fun k => I 123 (16 * q + k)) (fun k => I 123 (16 * r + k))) hf hF (fun z J2 b1 b2 b3 => ?_) (fun bb m0 s J2 K2 h1 h2 h3 h4 => ?_)
  · skip
    refine ev_if_ne (tgt := 19) (pc' := 17) dX8_partsPair_14 rfl rfl (fun h => absurd (by decide) h) (fun _ => ?_)
    refine ev_iconst (pc' := 18) (v := 0) dX8_partsPair_17 rfl ki_0 ?_
    refine ev_iret dX8_partsPair_18 rfl rfl ⟨Nat.le_refl _, Nat.le_refl _⟩ ?_
    exact k0 z J2 K1 b1 b2 (fun j hj => (congrFun (b3.1 133 (by decide) (by decide)) j).trans (a1 j hj)) (fun j hj => (congrFun (b3.1 134 (by decide) (by decide)) j).trans (a2 j hj)) ((a3.trans b3).le (fun a h => by simp only [List.mem_cons, List.not_mem_nil, or_false, List.cons_append, List.nil_append] at h ⊢; omega) (fun a h => by simp only [List.mem_cons, List.not_mem_nil, or_false, List.cons_append, List.nil_append] at h ⊢; omega)) (g5.le (fun a h => by simp only [List.mem_cons, List.not_mem_nil, or_false, List.cons_append, List.nil_append] at h ⊢; omega))
  · skip
    refine ev_if_ne (tgt := 19) (pc' := 17) dX8_partsPair_14 rfl rfl (fun _ => ?_) (fun h => absurd h (by decide))
    refine ev_aload_n (pc' := 20) (i := 0) dX8_partsPair_19 rfl rfl rfl ?_
    refine ev_callV (pc' := 23) (rm' := rX8_layLeft) (b := 115) (av := []) (rest := []) co_X8_347 ci_X8_layLeft cv_X8_layLeft dX8_partsPair_20 rfl hs_115 hb_X8 rfl rfl (Nat.le_of_ble_eq_true rfl) ⟨(Nat.le_of_ble_eq_true rfl), (Nat.le_of_ble_eq_true rfl)⟩ ⟨(Nat.le_of_ble_eq_true rfl), (Nat.le_of_ble_eq_true rfl)⟩ ?_
    refine f_X8_layLeft s.m (by have := mPd_in h1; omega) h2.1 (fun q => by rw [h2.2.2.2.1]; exact hQ _ _ _ h1 q) (fun J3 K3 rl tw e1 e2 e3 e4 e5 => ?_)
    refine ev_iconst (pc' := 24) (v := 1) dX8_partsPair_23 rfl ki_1 ?_
    refine ev_iret dX8_partsPair_24 rfl rfl ⟨Nat.le_refl _, Nat.le_refl _⟩ ?_
    have p3 : J3 133 = J1 133 := (e4.1 133 (by decide) (by decide)).trans (h3.1 133 (by decide) (by decide))
    have p4 : J3 134 = J1 134 := (e4.1 134 (by decide) (by decide)).trans (h3.1 134 (by decide) (by decide))
    exact k1 bb m0 s rl tw J3 K3 h1 (by rw [← h2.2.2.2.1]; exact e1) ⟨(e4.2 36 (by decide)).trans h2.1, (e4.2 31 (by decide)).trans h2.2.1, (e4.2 35 (by decide)).trans h2.2.2.1, (e5 142 (by decide)).trans h2.2.2.2.1, (e5 139 (by decide)).trans h2.2.2.2.2.1, (e5 140 (by decide)).trans h2.2.2.2.2.2.1, (e4.1 141 (by decide) (by decide)).trans h2.2.2.2.2.2.2⟩ e2 e3 (fun j hj => (congrFun p3 j).trans (a1 j hj)) (fun j hj => (congrFun p4 j).trans (a2 j hj)) ((a3.trans h3).trans e4) ((g5.trans h4).trans e5)
set_option maxRecDepth 4000 in
theorem t_X8_roots {g : ma_G} {Post : ma_P} {I : ma_I} {L : ma_L}  (q : Int32) (r : Int32) (hF : ∀ q r, q < 12 → r < 12 → ∀ j, j < 5 → ((mFm (fun k => I 123 (16 * q + k)) (fun k => I 123 (16 * r + k))) j).toInt.natAbs < 2147483648) (hQ : ∀ q r, q < 12 → r < 12 → mPq (mFm (fun k => I 123 (16 * q + k)) (fun k => I 123 (16 * r + k)))) (k1 : (¬ ((¬ q < 0) ∧ (¬ 11 < q))) → Post (some (.int (-1))) HS I L RF 146) (k2 : ∀ j2 : Nat, (j2 < 12) → q = nI j2 → ∀ j5 : Nat, (j5 < 12) → r = nI j5 → (((I 122) j2) = 0) → Post (some (.int (-3))) HS (mMt I 1) L RF 146) (k3 : ∀ j9 : Nat, (j9 < 12) → q = nI j9 → ∀ j12 : Nat, (j12 < 12) → r = nI j12 → (¬ ((I 122) j9) = 0) → (((I 122) j12) = 0) → Post (some (.int (-3))) HS (mMt I 1) L RF 146) (k4 : ∀ j17 : Nat, (j17 < 12) → q = nI j17 → ∀ j20 : Nat, (j20 < 12) → r = nI j20 → (¬ ((I 122) j17) = 0) → (¬ ((I 122) j20) = 0) → (∀ j, j < 5 → (mFm (fun k => I 123 (16 * j17 + k)) (fun k => I 123 (16 * j20 + k))) j = 0) → ∀ J : ma_I, ∀ K : ma_L, (J 115 31 = 0) → (J 115 35 = 5) → (∀ j, j < 16 → J 133 j = I 123 (16 * j17 + j)) → (∀ j, j < 16 → J 134 j = I 123 (16 * j20 + j)) → (mSx [133, 134, 141] [36, 31, 35, 38, 39] I J) → (mSl [132, 120, 142, 139, 140, 138, 136, 137] L K) → Post (some (.int 9)) HS J K RF 146) (k5 : ∀ j17 : Nat, (j17 < 12) → q = nI j17 → ∀ j20 : Nat, (j20 < 12) → r = nI j20 → (¬ ((I 122) j17) = 0) → (¬ ((I 122) j20) = 0) → ∀ bb : Nat, ∀ m0 : Nat, ∀ s : mP, ∀ rl : Int32, ∀ tw : Int32, ∀ J : ma_I, ∀ K : ma_L, (mPd (mFm (fun k => I 123 (16 * j17 + k)) (fun k => I 123 (16 * j20 + k))) bb m0 s) → ((rl, tw) = mLL s.m s.f) → (mPJ s bb J K) → (J 115 38 = rl) → (J 115 39 = tw) → (∀ j, j < 16 → J 133 j = I 123 (16 * j17 + j)) → (∀ j, j < 16 → J 134 j = I 123 (16 * j20 + j)) → (mSx [133, 134, 141] [36, 31, 35, 38, 39] I J) → (mSl [132, 120, 142, 139, 140, 138, 136, 137] L K) → Post (some (.int ((((J 115) 31) + ((J 115) 38)) + (if ¬ ((J 115) 35) ≤ 0 then (1 : Int32) else 0)))) HS J K RF 146) (k6 : ∀ j25 : Nat, (j25 < 12) → q = nI j25 → (¬ ((¬ r < 0) ∧ (¬ 11 < r))) → Post (some (.int (-1))) HS I L RF 146) : CT g yX8_roots cX8_roots 4 (some .int) rX8_roots [.ref 115, .int q, .int r] Post HS I L RF 146 := by
  refine ct_of (lv := [some (.ref 115), some (.int q), some (.int r), none]) (by decide) (Nat.le_of_ble_eq_true rfl) rfl ?_
  refine ev_aload_n (pc' := 1) (i := 0) dX8_roots_0 rfl rfl rfl ?_
  refine ev_iload_n (pc' := 2) (i := 1) dX8_roots_1 rfl rfl rfl ?_
  refine ev_iload_n (pc' := 3) (i := 2) dX8_roots_2 rfl rfl rfl ?_
  refine ev_callV (pc' := 6) (rm' := rX8_askedTwo) (b := 115) (av := [.int q, .int r]) (rest := []) co_X8_227 ci_X8_askedTwo cv_X8_askedTwo dX8_roots_3 rfl hs_115 hb_X8 rfl rfl (Nat.le_of_ble_eq_true rfl) ⟨(Nat.le_of_ble_eq_true rfl), (Nat.le_of_ble_eq_true rfl)⟩ ⟨(Nat.le_of_ble_eq_true rfl), (Nat.le_of_ble_eq_true rfl)⟩ ?_
  refine t_X8_askedTwo q r  (fun h1 => ?_) (fun j2 h3 e4 j5 h6 e7 h8 => ?_) (fun j9 h10 e11 j12 h13 e14 h15 h16 => ?_) (fun j17 h18 e19 j20 h21 e22 h23 h24 => ?_) (fun j25 h26 e27 h28 => ?_)
  · skip
    refine ev_istore_n (pc' := 7) (i := 3) (lv' := [some (.ref 115), some (.int q), some (.int r), some (.int (-1))]) dX8_roots_6 rfl rfl (Nat.le_of_ble_eq_true rfl) rfl rfl ?_
    refine ev_iload_n (pc' := 8) (i := 3) dX8_roots_7 rfl rfl rfl ?_
    refine ev_if_ge (tgt := 13) (pc' := 11) dX8_roots_8 rfl rfl (fun h => absurd h (by decide)) (fun _ => ?_)
    refine ev_iload_n (pc' := 12) (i := 3) dX8_roots_11 rfl rfl rfl ?_
    refine ev_iret dX8_roots_12 rfl rfl ⟨Nat.le_refl _, Nat.le_refl _⟩ ?_
    exact k1 h1
  · subst e4
    subst e7
    refine ev_istore_n (pc' := 7) (i := 3) (lv' := [some (.ref 115), some (.int (nI j2)), some (.int (nI j5)), some (.int (-3))]) dX8_roots_6 rfl rfl (Nat.le_of_ble_eq_true rfl) rfl rfl ?_
    refine ev_iload_n (pc' := 8) (i := 3) dX8_roots_7 rfl rfl rfl ?_
    refine ev_if_ge (tgt := 13) (pc' := 11) dX8_roots_8 rfl rfl (fun h => absurd h (by decide)) (fun _ => ?_)
    refine ev_iload_n (pc' := 12) (i := 3) dX8_roots_11 rfl rfl rfl ?_
    refine ev_iret dX8_roots_12 rfl rfl ⟨Nat.le_refl _, Nat.le_refl _⟩ ?_
    exact k2 j2 h3 rfl j5 h6 rfl h8
  · subst e11
    subst e14
    refine ev_istore_n (pc' := 7) (i := 3) (lv' := [some (.ref 115), some (.int (nI j9)), some (.int (nI j12)), some (.int (-3))]) dX8_roots_6 rfl rfl (Nat.le_of_ble_eq_true rfl) rfl rfl ?_
    refine ev_iload_n (pc' := 8) (i := 3) dX8_roots_7 rfl rfl rfl ?_
    refine ev_if_ge (tgt := 13) (pc' := 11) dX8_roots_8 rfl rfl (fun h => absurd h (by decide)) (fun _ => ?_)
    refine ev_iload_n (pc' := 12) (i := 3) dX8_roots_11 rfl rfl rfl ?_
    refine ev_iret dX8_roots_12 rfl rfl ⟨Nat.le_refl _, Nat.le_refl _⟩ ?_
    exact k3 j9 h10 rfl j12 h13 rfl h15 h16
  · subst e19
    subst e22
    refine ev_istore_n (pc' := 7) (i := 3) (lv' := [some (.ref 115), some (.int (nI j17)), some (.int (nI j20)), some (.int 0)]) dX8_roots_6 rfl rfl (Nat.le_of_ble_eq_true rfl) rfl rfl ?_
    refine ev_iload_n (pc' := 8) (i := 3) dX8_roots_7 rfl rfl rfl ?_
    refine ev_if_ge (tgt := 13) (pc' := 11) dX8_roots_8 rfl rfl (fun _ => ?_) (fun h => absurd (by decide) h)
    refine ev_aload_n (pc' := 14) (i := 0) dX8_roots_13 rfl rfl rfl ?_
    refine ev_iload_n (pc' := 15) (i := 1) dX8_roots_14 rfl rfl rfl ?_
    refine ev_iload_n (pc' := 16) (i := 2) dX8_roots_15 rfl rfl rfl ?_
    refine ev_callV (pc' := 19) (rm' := rX8_partsPair) (b := 115) (av := [.int (nI j17), .int (nI j20)]) (rest := []) co_X8_350 ci_X8_partsPair cv_X8_partsPair dX8_roots_16 rfl hs_115 hb_X8 rfl rfl (Nat.le_of_ble_eq_true rfl) ⟨(Nat.le_of_ble_eq_true rfl), (Nat.le_of_ble_eq_true rfl)⟩ ⟨(Nat.le_of_ble_eq_true rfl), (Nat.le_of_ble_eq_true rfl)⟩ ?_
    refine t_X8_partsPair j17 j20 (by omega) (by omega) (hF j17 j20 (by omega) (by omega)) (hQ j17 j20 (by omega) (by omega)) (fun z J K b1 b2 a1 a2 a3 a4 => ?_) (fun bb m0 s rl tw J K h1 h2 h3 h4 h5 a1 a2 a3 a4 => ?_)
    · skip
      refine ev_if_eq (tgt := 47) (pc' := 22) dX8_roots_19 rfl rfl (fun _ => ?_) (fun h => absurd (by decide) h)
      refine ev_bipush (pc' := 49) (v := 9) dX8_roots_47 rfl kb_9 ?_
      refine ev_iret dX8_roots_49 rfl rfl ⟨Nat.le_refl _, Nat.le_refl _⟩ ?_
      exact k4 j17 h18 rfl j20 h21 rfl h23 h24 z J K b1 b2 a1 a2 a3 a4
    · skip
      refine ev_if_eq (tgt := 47) (pc' := 22) dX8_roots_19 rfl rfl (fun h => absurd h (by decide)) (fun _ => ?_)
      refine ev_aload_n (pc' := 23) (i := 0) dX8_roots_22 rfl rfl rfl ?_
      refine ev_getI (pc' := 26) (v := (J 115) 31) fo_X8_277 dX8_roots_23 rfl hs_115 rfl rfl ?_
      refine ev_aload_n (pc' := 27) (i := 0) dX8_roots_26 rfl rfl rfl ?_
      refine ev_getI (pc' := 30) (v := (J 115) 38) fo_X8_298 dX8_roots_27 rfl hs_115 rfl rfl ?_
      refine ev_iadd (pc' := 31) (v := ((J 115) 31) + ((J 115) 38)) dX8_roots_30 rfl rfl ?_
      refine ev_aload_n (pc' := 32) (i := 0) dX8_roots_31 rfl rfl rfl ?_
      refine ev_getI (pc' := 35) (v := (J 115) 35) fo_X8_280 dX8_roots_32 rfl hs_115 rfl rfl ?_
      suffices K31 : ∀ x30 : Int32, x30 = (if ¬ ((J 115) 35) ≤ 0 then (1 : Int32) else 0) → EV g yX8_roots cX8_roots 4 (some .int) rX8_roots (ma_ZM g rX8_roots Post) 43 [some (.ref 115), some (.int (nI j17)), some (.int (nI j20)), some (.int 0)] [.int x30, .int (((J 115) 31) + ((J 115) 38))] HS J K RF 146 0 0 by
        refine ev_if_le (tgt := 42) (pc' := 38) dX8_roots_35 rfl rfl (fun c32 => ?_) (fun c32 => ?_)
        · refine ev_iconst (pc' := 43) (v := 0) dX8_roots_42 rfl ki_0 ?_
          exact K31 _ (if_neg (not_not_intro c32)).symm
        · refine ev_iconst (pc' := 39) (v := 1) dX8_roots_38 rfl ki_1 ?_
          refine ev_goto (tgt := 43) dX8_roots_39 rfl ?_
          exact K31 _ (if_pos c32).symm
      intro x30 hx30
      subst hx30
      refine ev_iadd (pc' := 44) (v := (((J 115) 31) + ((J 115) 38)) + (if ¬ ((J 115) 35) ≤ 0 then (1 : Int32) else 0)) dX8_roots_43 rfl rfl ?_
      refine ev_goto (tgt := 49) dX8_roots_44 rfl ?_
      refine ev_iret dX8_roots_49 rfl rfl ⟨Nat.le_refl _, Nat.le_refl _⟩ ?_
      exact k5 j17 h18 rfl j20 h21 rfl h23 h24 bb m0 s rl tw J K h1 h2 h3 h4 h5 a1 a2 a3 a4
  · subst e27
    refine ev_istore_n (pc' := 7) (i := 3) (lv' := [some (.ref 115), some (.int (nI j25)), some (.int r), some (.int (-1))]) dX8_roots_6 rfl rfl (Nat.le_of_ble_eq_true rfl) rfl rfl ?_
    refine ev_iload_n (pc' := 8) (i := 3) dX8_roots_7 rfl rfl rfl ?_
    refine ev_if_ge (tgt := 13) (pc' := 11) dX8_roots_8 rfl rfl (fun h => absurd h (by decide)) (fun _ => ?_)
    refine ev_iload_n (pc' := 12) (i := 3) dX8_roots_11 rfl rfl rfl ?_
    refine ev_iret dX8_roots_12 rfl rfl ⟨Nat.le_refl _, Nat.le_refl _⟩ ?_
    exact k6 j25 h26 rfl h28
set_option maxRecDepth 4000 in
theorem t_X8_pattern {g : ma_G} {Post : ma_P} {I : ma_I} {L : ma_L}  (q : Int32) (r : Int32) (hF : ∀ q r, q < 12 → r < 12 → ∀ j, j < 5 → ((mFm (fun k => I 123 (16 * q + k)) (fun k => I 123 (16 * r + k))) j).toInt.natAbs < 2147483648) (hQ : ∀ q r, q < 12 → r < 12 → mPq (mFm (fun k => I 123 (16 * q + k)) (fun k => I 123 (16 * r + k)))) (k1 : (¬ ((¬ q < 0) ∧ (¬ 11 < q))) → Post (some (.int (-1))) HS I L RF 146) (k2 : ∀ j2 : Nat, (j2 < 12) → q = nI j2 → ∀ j5 : Nat, (j5 < 12) → r = nI j5 → (((I 122) j2) = 0) → Post (some (.int (-3))) HS (mMt I 1) L RF 146) (k3 : ∀ j9 : Nat, (j9 < 12) → q = nI j9 → ∀ j12 : Nat, (j12 < 12) → r = nI j12 → (¬ ((I 122) j9) = 0) → (((I 122) j12) = 0) → Post (some (.int (-3))) HS (mMt I 1) L RF 146) (k4 : ∀ j17 : Nat, (j17 < 12) → q = nI j17 → ∀ j20 : Nat, (j20 < 12) → r = nI j20 → (¬ ((I 122) j17) = 0) → (¬ ((I 122) j20) = 0) → (∀ j, j < 5 → (mFm (fun k => I 123 (16 * j17 + k)) (fun k => I 123 (16 * j20 + k))) j = 0) → ∀ J : ma_I, ∀ K : ma_L, (J 115 31 = 0) → (J 115 35 = 5) → (∀ j, j < 16 → J 133 j = I 123 (16 * j17 + j)) → (∀ j, j < 16 → J 134 j = I 123 (16 * j20 + j)) → (mSx [133, 134, 141] [36, 31, 35, 38, 39] I J) → (mSl [132, 120, 142, 139, 140, 138, 136, 137] L K) → Post (some (.int 0)) HS J K RF 146) (k5 : ∀ j17 : Nat, (j17 < 12) → q = nI j17 → ∀ j20 : Nat, (j20 < 12) → r = nI j20 → (¬ ((I 122) j17) = 0) → (¬ ((I 122) j20) = 0) → ∀ bb : Nat, ∀ m0 : Nat, ∀ s : mP, ∀ rl : Int32, ∀ tw : Int32, ∀ J : ma_I, ∀ K : ma_L, (mPd (mFm (fun k => I 123 (16 * j17 + k)) (fun k => I 123 (16 * j20 + k))) bb m0 s) → ((rl, tw) = mLL s.m s.f) → (mPJ s bb J K) → (J 115 38 = rl) → (J 115 39 = tw) → (∀ j, j < 16 → J 133 j = I 123 (16 * j17 + j)) → (∀ j, j < 16 → J 134 j = I 123 (16 * j20 + j)) → (mSx [133, 134, 141] [36, 31, 35, 38, 39] I J) → (mSl [132, 120, 142, 139, 140, 138, 136, 137] L K) → ∀ n : Nat, (n < 5) → (rl = nI n) → Post (some (.int (mPat s.m s.r (nI n) (J 115 39) (J 115 35) n (K 142) (K 139) (K 140) (J 141)))) HS J K RF 146) (k6 : ∀ j25 : Nat, (j25 < 12) → q = nI j25 → (¬ ((¬ r < 0) ∧ (¬ 11 < r))) → Post (some (.int (-1))) HS I L RF 146) : CT g yX8_pattern cX8_pattern 4 (some .int) rX8_pattern [.ref 115, .int q, .int r] Post HS I L RF 146 := by
  refine ct_of (lv := [some (.ref 115), some (.int q), some (.int r), none]) (by decide) (Nat.le_of_ble_eq_true rfl) rfl ?_
  refine ev_aload_n (pc' := 1) (i := 0) dX8_pattern_0 rfl rfl rfl ?_
  refine ev_iload_n (pc' := 2) (i := 1) dX8_pattern_1 rfl rfl rfl ?_
  refine ev_iload_n (pc' := 3) (i := 2) dX8_pattern_2 rfl rfl rfl ?_
  refine ev_callV (pc' := 6) (rm' := rX8_askedTwo) (b := 115) (av := [.int q, .int r]) (rest := []) co_X8_227 ci_X8_askedTwo cv_X8_askedTwo dX8_pattern_3 rfl hs_115 hb_X8 rfl rfl (Nat.le_of_ble_eq_true rfl) ⟨(Nat.le_of_ble_eq_true rfl), (Nat.le_of_ble_eq_true rfl)⟩ ⟨(Nat.le_of_ble_eq_true rfl), (Nat.le_of_ble_eq_true rfl)⟩ ?_
  refine t_X8_askedTwo q r  (fun h1 => ?_) (fun j2 h3 e4 j5 h6 e7 h8 => ?_) (fun j9 h10 e11 j12 h13 e14 h15 h16 => ?_) (fun j17 h18 e19 j20 h21 e22 h23 h24 => ?_) (fun j25 h26 e27 h28 => ?_)
  · skip
    refine ev_istore_n (pc' := 7) (i := 3) (lv' := [some (.ref 115), some (.int q), some (.int r), some (.int (-1))]) dX8_pattern_6 rfl rfl (Nat.le_of_ble_eq_true rfl) rfl rfl ?_
    refine ev_iload_n (pc' := 8) (i := 3) dX8_pattern_7 rfl rfl rfl ?_
    refine ev_if_ge (tgt := 13) (pc' := 11) dX8_pattern_8 rfl rfl (fun h => absurd h (by decide)) (fun _ => ?_)
    refine ev_iload_n (pc' := 12) (i := 3) dX8_pattern_11 rfl rfl rfl ?_
    refine ev_iret dX8_pattern_12 rfl rfl ⟨Nat.le_refl _, Nat.le_refl _⟩ ?_
    exact k1 h1
  · subst e4
    subst e7
    refine ev_istore_n (pc' := 7) (i := 3) (lv' := [some (.ref 115), some (.int (nI j2)), some (.int (nI j5)), some (.int (-3))]) dX8_pattern_6 rfl rfl (Nat.le_of_ble_eq_true rfl) rfl rfl ?_
    refine ev_iload_n (pc' := 8) (i := 3) dX8_pattern_7 rfl rfl rfl ?_
    refine ev_if_ge (tgt := 13) (pc' := 11) dX8_pattern_8 rfl rfl (fun h => absurd h (by decide)) (fun _ => ?_)
    refine ev_iload_n (pc' := 12) (i := 3) dX8_pattern_11 rfl rfl rfl ?_
    refine ev_iret dX8_pattern_12 rfl rfl ⟨Nat.le_refl _, Nat.le_refl _⟩ ?_
    exact k2 j2 h3 rfl j5 h6 rfl h8
  · subst e11
    subst e14
    refine ev_istore_n (pc' := 7) (i := 3) (lv' := [some (.ref 115), some (.int (nI j9)), some (.int (nI j12)), some (.int (-3))]) dX8_pattern_6 rfl rfl (Nat.le_of_ble_eq_true rfl) rfl rfl ?_
    refine ev_iload_n (pc' := 8) (i := 3) dX8_pattern_7 rfl rfl rfl ?_
    refine ev_if_ge (tgt := 13) (pc' := 11) dX8_pattern_8 rfl rfl (fun h => absurd h (by decide)) (fun _ => ?_)
    refine ev_iload_n (pc' := 12) (i := 3) dX8_pattern_11 rfl rfl rfl ?_
    refine ev_iret dX8_pattern_12 rfl rfl ⟨Nat.le_refl _, Nat.le_refl _⟩ ?_
    exact k3 j9 h10 rfl j12 h13 rfl h15 h16
  · subst e19
    subst e22
    refine ev_istore_n (pc' := 7) (i := 3) (lv' := [some (.ref 115), some (.int (nI j17)), some (.int (nI j20)), some (.int 0)]) dX8_pattern_6 rfl rfl (Nat.le_of_ble_eq_true rfl) rfl rfl ?_
    refine ev_iload_n (pc' := 8) (i := 3) dX8_pattern_7 rfl rfl rfl ?_
    refine ev_if_ge (tgt := 13) (pc' := 11) dX8_pattern_8 rfl rfl (fun _ => ?_) (fun h => absurd (by decide) h)
    refine ev_aload_n (pc' := 14) (i := 0) dX8_pattern_13 rfl rfl rfl ?_
    refine ev_iload_n (pc' := 15) (i := 1) dX8_pattern_14 rfl rfl rfl ?_
    refine ev_iload_n (pc' := 16) (i := 2) dX8_pattern_15 rfl rfl rfl ?_
    refine ev_callV (pc' := 19) (rm' := rX8_partsPair) (b := 115) (av := [.int (nI j17), .int (nI j20)]) (rest := []) co_X8_350 ci_X8_partsPair cv_X8_partsPair dX8_pattern_16 rfl hs_115 hb_X8 rfl rfl (Nat.le_of_ble_eq_true rfl) ⟨(Nat.le_of_ble_eq_true rfl), (Nat.le_of_ble_eq_true rfl)⟩ ⟨(Nat.le_of_ble_eq_true rfl), (Nat.le_of_ble_eq_true rfl)⟩ ?_
    refine t_X8_partsPair j17 j20 (by omega) (by omega) (hF j17 j20 (by omega) (by omega)) (hQ j17 j20 (by omega) (by omega)) (fun z J K b1 b2 a1 a2 a3 a4 => ?_) (fun bb m0 s rl tw J K h1 h2 h3 h4 h5 a1 a2 a3 a4 => ?_)
    · skip
      refine ev_if_eq (tgt := 29) (pc' := 22) dX8_pattern_19 rfl rfl (fun _ => ?_) (fun h => absurd (by decide) h)
      refine ev_iconst (pc' := 30) (v := 0) dX8_pattern_29 rfl ki_0 ?_
      refine ev_iret dX8_pattern_30 rfl rfl ⟨Nat.le_refl _, Nat.le_refl _⟩ ?_
      exact k4 j17 h18 rfl j20 h21 rfl h23 h24 z J K b1 b2 a1 a2 a3 a4
    · skip
      refine ev_if_eq (tgt := 29) (pc' := 22) dX8_pattern_19 rfl rfl (fun h => absurd h (by decide)) (fun _ => ?_)
      refine ev_aload_n (pc' := 23) (i := 0) dX8_pattern_22 rfl rfl rfl ?_
      refine ev_callV (pc' := 26) (rm' := rX8_patternOf) (b := 115) (av := []) (rest := []) co_X8_354 ci_X8_patternOf cv_X8_patternOf dX8_pattern_23 rfl hs_115 hb_X8 rfl rfl (Nat.le_of_ble_eq_true rfl) ⟨(Nat.le_of_ble_eq_true rfl), (Nat.le_of_ble_eq_true rfl)⟩ ⟨(Nat.le_of_ble_eq_true rfl), (Nat.le_of_ble_eq_true rfl)⟩ ?_
      obtain ⟨n, hn5, hn⟩ := mLL_rl (m := s.m) (by have := mPd_in h1; omega) s.f
      rw [← h2] at hn
      refine t_X8_patternOf s.m s.r n (by have := mPd_in h1; omega) (by have := mPd_in h1; omega) hn5 h3.1 h3.2.1 (h4.trans hn) ?_
      refine ev_goto (tgt := 30) dX8_pattern_26 rfl ?_
      refine ev_iret dX8_pattern_30 rfl rfl ⟨Nat.le_refl _, Nat.le_refl _⟩ ?_
      exact k5 j17 h18 rfl j20 h21 rfl h23 h24 bb m0 s rl tw J K h1 h2 h3 h4 h5 a1 a2 a3 a4 n hn5 hn
  · subst e27
    refine ev_istore_n (pc' := 7) (i := 3) (lv' := [some (.ref 115), some (.int (nI j25)), some (.int r), some (.int (-1))]) dX8_pattern_6 rfl rfl (Nat.le_of_ble_eq_true rfl) rfl rfl ?_
    refine ev_iload_n (pc' := 8) (i := 3) dX8_pattern_7 rfl rfl rfl ?_
    refine ev_if_ge (tgt := 13) (pc' := 11) dX8_pattern_8 rfl rfl (fun h => absurd h (by decide)) (fun _ => ?_)
    refine ev_iload_n (pc' := 12) (i := 3) dX8_pattern_11 rfl rfl rfl ?_
    refine ev_iret dX8_pattern_12 rfl rfl ⟨Nat.le_refl _, Nat.le_refl _⟩ ?_
    exact k6 j25 h26 rfl h28
