def mChN (a i j : Nat) : Nat := if a = i then j else if a = j then i else a
theorem mChN_lt {a i j n : Nat} (ha : a < n) (hi : i < n) (hj : j < n) : mChN a i j < n := by
  unfold mChN
  split
  · exact hj
  · split
    · exact hi
    · exact ha
theorem mCh_N {a i j : Nat} (ha : a < 4) (hi : i < 4) (hj : j < 4) : mCh (nI a) (nI i) (nI j) = nI (mChN a i j) := by
  unfold mCh mChN
  by_cases h1 : a = i
  · subst h1; simp
  · have g1 : ¬ nI a = nI i := nx_ne h1 (by omega) (by omega)
    by_cases h2 : a = j
    · subst h2; simp [h1, g1]
    · have g2 : ¬ nI a = nI j := nx_ne h2 (by omega) (by omega)
      simp [h1, h2, g1, g2]
theorem u_X8_changed {g : ma_G} {Post : ma_P} {I : ma_I} {L : ma_L} (a i j : Nat) (ha : a < 4) (hi : i < 4) (hj : j < 4) (k : mChN a i j < 4 → Post (some (.int (nI (mChN a i j)))) HS I L RF 146) : CT g yX8_changed cX8_changed 3 (some .int) rX8_changed [.int (nI a), .int (nI i), .int (nI j)] Post HS I L RF 146 := t_X8_changed _ _ _ (by rw [mCh_N ha hi hj]; exact k (mChN_lt ha hi hj))
set_option maxRecDepth 4000 in
theorem t_X8_turn {g : ma_G} {Post : ma_P} {I : ma_I} {L : ma_L}  (q : Int32)  (k1 : ∀ j1 : Nat, (j1 < 12) → q = nI j1 → (((I 122) j1) = 0) → Post (some (.int (-3))) HS (mMt I 1) L RF 146) (k2 : ∀ j5 : Nat, (j5 < 12) → q = nI j5 → (¬ ((I 122) j5) = 0) → ∀ I16 : ma_I, (I16 = (mfill I 123 (16 * j5) 16 (fun k => -(I 123 (16 * j5 + k))))) → ∀ r17 : Int32, ∀ J18 : ma_I, ∀ K19 : ma_L, (∀ j, J18 124 j = if 10 * j5 ≤ j ∧ j < 10 * j5 + 10 then mFc (K19 120) (j - 10 * j5) else I16 124 j) → (∀ j, j < 16 → K19 120 j = (I16 123 (16 * j5 + j)).toInt64) → (mSl [120] L K19) → (mSx [121, 124] [9, 10] I16 J18) → (r17 = mFc (K19 120) 0) → Post (some (.int r17)) HS J18 K19 RF 146) (k3 : (¬ ((¬ q < 0) ∧ (¬ 11 < q))) → Post (some (.int (-1))) HS I L RF 146) : CT g yX8_turn cX8_turn 4 (some .int) rX8_turn [.ref 115, .int q] Post HS I L RF 146 := by
  refine ct_of (lv := [some (.ref 115), some (.int q), none, none]) (by decide) (Nat.le_of_ble_eq_true rfl) rfl ?_
  refine ev_aload_n (pc' := 1) (i := 0) dX8_turn_0 rfl rfl rfl ?_
  refine ev_iload_n (pc' := 2) (i := 1) dX8_turn_1 rfl rfl rfl ?_
  refine ev_callV (pc' := 5) (rm' := rX8_askedFor) (b := 115) (av := [.int q]) (rest := []) co_X8_210 ci_X8_askedFor cv_X8_askedFor dX8_turn_2 rfl hs_115 hb_X8 rfl rfl (Nat.le_of_ble_eq_true rfl) ⟨(Nat.le_of_ble_eq_true rfl), (Nat.le_of_ble_eq_true rfl)⟩ ⟨(Nat.le_of_ble_eq_true rfl), (Nat.le_of_ble_eq_true rfl)⟩ ?_
  refine t_X8_askedFor q  (fun j1 h2 e3 h4 => ?_) (fun j5 h6 e7 h8 => ?_) (fun h9 => ?_)
  · subst e3
    refine ev_istore_n (pc' := 6) (i := 2) (lv' := [some (.ref 115), some (.int (nI j1)), some (.int (-3)), none]) dX8_turn_5 rfl rfl (Nat.le_of_ble_eq_true rfl) rfl rfl ?_
    refine ev_iload_n (pc' := 7) (i := 2) dX8_turn_6 rfl rfl rfl ?_
    refine ev_if_ge (tgt := 12) (pc' := 10) dX8_turn_7 rfl rfl (fun h => absurd h (by decide)) (fun _ => ?_)
    refine ev_iload_n (pc' := 11) (i := 2) dX8_turn_10 rfl rfl rfl ?_
    refine ev_iret dX8_turn_11 rfl rfl ⟨Nat.le_refl _, Nat.le_refl _⟩ ?_
    exact k1 j1 h2 rfl h4
  · subst e7
    refine ev_istore_n (pc' := 6) (i := 2) (lv' := [some (.ref 115), some (.int (nI j5)), some (.int 0), none]) dX8_turn_5 rfl rfl (Nat.le_of_ble_eq_true rfl) rfl rfl ?_
    refine ev_iload_n (pc' := 7) (i := 2) dX8_turn_6 rfl rfl rfl ?_
    refine ev_if_ge (tgt := 12) (pc' := 10) dX8_turn_7 rfl rfl (fun _ => ?_) (fun h => absurd (by decide) h)
    refine ev_iconst (pc' := 13) (v := 0) dX8_turn_12 rfl ki_0 ?_
    refine ev_istore_n (pc' := 14) (i := 3) (lv' := [some (.ref 115), some (.int (nI j5)), some (.int 0), some (.int 0)]) dX8_turn_13 rfl rfl (Nat.le_of_ble_eq_true rfl) rfl rfl ?_
    suffices loop10 : ∀ (d11 i13 : Nat) (J12 : ma_I), i13 + d11 = 16 → (J12 = mfill I 123 (16 * j5) i13 (fun k => -(I 123 (16 * j5 + k)))) → EV g yX8_turn cX8_turn 4 (some .int) rX8_turn (ma_ZM g rX8_turn Post) 14 [some (.ref 115), some (.int (nI j5)), some (.int 0), some (.int (nI i13))] [] HS J12 L RF 146 0 0 from loop10 (16 - 0) 0 I (by omega) (by exact (mfill_0 _ _ _ _).symm)
    intro d11
    induction d11 with
    | zero =>
      intro i13  J12  hi14 hv15
      obtain rfl : i13 = 16 := by omega
      subst hv15
      refine ev_iload_n (pc' := 15) (i := 3) dX8_turn_14 rfl rfl rfl ?_
      refine ev_bipush (pc' := 17) (v := 16) dX8_turn_15 rfl kb_16 ?_
      refine ev_icmp_ge (tgt := 49) (pc' := 20) dX8_turn_17 rfl rfl (fun _ => ?_) (fun h => absurd (nx_le (a := 16) (b := 16) (by omega) (by omega)) h)
      refine ev_aload_n (pc' := 50) (i := 0) dX8_turn_49 rfl rfl rfl ?_
      refine ev_iload_n (pc' := 51) (i := 1) dX8_turn_50 rfl rfl rfl ?_
      refine ev_callV (pc' := 54) (rm' := rX8_setFacts) (b := 115) (av := [.int (nI j5)]) (rest := []) co_X8_207 ci_X8_setFacts cv_X8_setFacts dX8_turn_51 rfl hs_115 hb_X8 rfl rfl (Nat.le_of_ble_eq_true rfl) ⟨(Nat.le_of_ble_eq_true rfl), (Nat.le_of_ble_eq_true rfl)⟩ ⟨(Nat.le_of_ble_eq_true rfl), (Nat.le_of_ble_eq_true rfl)⟩ ?_
      refine ct_memI (fun I16 hI16 => ?_)
      refine f_X8_setFacts j5 (by omega) (fun r17 J18 K19 f20 f21 f22 f23 f24 => ?_)
      refine ev_iret dX8_turn_54 rfl rfl ⟨Nat.le_refl _, Nat.le_refl _⟩ ?_
      exact k2 j5 h6 rfl h8 I16 hI16 r17 J18 K19 f20 f21 f22 f23 f24
    | succ d11 ih =>
      intro i13  J12  hi14 hv15
      refine ev_iload_n (pc' := 15) (i := 3) dX8_turn_14 rfl rfl rfl ?_
      refine ev_bipush (pc' := 17) (v := 16) dX8_turn_15 rfl kb_16 ?_
      refine ev_icmp_ge (tgt := 49) (pc' := 20) dX8_turn_17 rfl rfl (fun h => absurd h (nx_nle (a := 16) (b := i13) (by omega) (by omega))) (fun _ => ?_)
      refine ev_aload_n (pc' := 21) (i := 0) dX8_turn_20 rfl rfl rfl ?_
      refine ev_getR (pc' := 24) fo_X8_37 dX8_turn_21 rfl hs_115 rfl rf_115_13 ?_
      refine ev_bipush (pc' := 26) (v := 16) dX8_turn_24 rfl kb_16 ?_
      refine ev_iload_n (pc' := 27) (i := 1) dX8_turn_26 rfl rfl rfl ?_
      refine ev_imul (pc' := 28) (v := nI (16 * j5)) dX8_turn_27 rfl (pk_mul 16 j5) ?_
      refine ev_iload_n (pc' := 29) (i := 3) dX8_turn_28 rfl rfl rfl ?_
      refine ev_iadd (pc' := 30) (v := nI ((16 * j5) + i13)) dX8_turn_29 rfl (nI_add (16 * j5) i13) ?_
      refine ev_aload_n (pc' := 31) (i := 0) dX8_turn_30 rfl rfl rfl ?_
      refine ev_getR (pc' := 34) fo_X8_37 dX8_turn_31 rfl hs_115 rfl rf_115_13 ?_
      refine ev_bipush (pc' := 36) (v := 16) dX8_turn_34 rfl kb_16 ?_
      refine ev_iload_n (pc' := 37) (i := 1) dX8_turn_36 rfl rfl rfl ?_
      refine ev_imul (pc' := 38) (v := nI (16 * j5)) dX8_turn_37 rfl (pk_mul 16 j5) ?_
      refine ev_iload_n (pc' := 39) (i := 3) dX8_turn_38 rfl rfl rfl ?_
      refine ev_iadd (pc' := 40) (v := nI ((16 * j5) + i13)) dX8_turn_39 rfl (nI_add (16 * j5) i13) ?_
      refine ev_iald (pc' := 41) (j := (16 * j5) + i13) (v := (J12 123) ((16 * j5) + i13)) dX8_turn_40 rfl hs_123 rfl (by omega) (Nat.le_of_ble_eq_true rfl) rfl ?_
      refine ev_ineg (pc' := 42) (v := -((J12 123) ((16 * j5) + i13))) dX8_turn_41 rfl rfl ?_
      refine ev_iast (pc' := 43) (j := (16 * j5) + i13) (I' := (ma_up J12 123 (ma_up (J12 123) ((16 * j5) + i13) (-((J12 123) ((16 * j5) + i13)))))) dX8_turn_42 rfl hs_123 rfl (by omega) (Nat.le_of_ble_eq_true rfl) rfl ?_
      refine ev_iinc (pc' := 46) (v := nI (i13 + 1)) (lv' := [some (.ref 115), some (.int (nI j5)), some (.int 0), some (.int (nI (i13 + 1)))]) dX8_turn_43 rfl rfl (nI_add i13 1) (Nat.le_of_ble_eq_true rfl) rfl rfl ?_
      refine ev_goto (tgt := 14) dX8_turn_46 rfl ?_
      exact ih (i13 + 1) _ (by omega) (by rw [hv15]; exact mfill_s _ _ _ _ _ rfl (by rw [mfill_at, if_neg (by omega)]))
  · skip
    refine ev_istore_n (pc' := 6) (i := 2) (lv' := [some (.ref 115), some (.int q), some (.int (-1)), none]) dX8_turn_5 rfl rfl (Nat.le_of_ble_eq_true rfl) rfl rfl ?_
    refine ev_iload_n (pc' := 7) (i := 2) dX8_turn_6 rfl rfl rfl ?_
    refine ev_if_ge (tgt := 12) (pc' := 10) dX8_turn_7 rfl rfl (fun h => absurd h (by decide)) (fun _ => ?_)
    refine ev_iload_n (pc' := 11) (i := 2) dX8_turn_10 rfl rfl rfl ?_
    refine ev_iret dX8_turn_11 rfl rfl ⟨Nat.le_refl _, Nat.le_refl _⟩ ?_
    exact k3 h9
set_option maxRecDepth 4000 in
theorem t_X8_swap {g : ma_G} {Post : ma_P} {I : ma_I} {L : ma_L}  (q : Int32) (x : Int32) (y : Int32)  (k1 : (¬ ((¬ x < 0) ∧ (¬ 3 < x))) → Post (some (.int (-1))) HS I L RF 146) (k2 : ∀ n2 : Nat, (n2 < 4) → x = nI n2 → ∀ n4 : Nat, (n4 < 4) → y = nI n4 → ∀ j5 : Nat, (j5 < 12) → q = nI j5 → (((I 122) j5) = 0) → Post (some (.int (-3))) HS (mMt I 1) L RF 146) (k3 : ∀ n2 : Nat, (n2 < 4) → x = nI n2 → ∀ n4 : Nat, (n4 < 4) → y = nI n4 → ∀ j9 : Nat, (j9 < 12) → q = nI j9 → (¬ ((I 122) j9) = 0) → ∀ I27 : ma_I, (I27 = (mfill (mfill I 125 0 16 (fun k => I 123 (16 * j9 + 4 * mChN (k / 4) n2 n4 + mChN (k % 4) n2 n4))) 123 (16 * j9) 16 (fun k => (mfill I 125 0 16 (fun k => I 123 (16 * j9 + 4 * mChN (k / 4) n2 n4 + mChN (k % 4) n2 n4))) 125 k))) → ∀ r28 : Int32, ∀ J29 : ma_I, ∀ K30 : ma_L, (∀ j, J29 124 j = if 10 * j9 ≤ j ∧ j < 10 * j9 + 10 then mFc (K30 120) (j - 10 * j9) else I27 124 j) → (∀ j, j < 16 → K30 120 j = (I27 123 (16 * j9 + j)).toInt64) → (mSl [120] L K30) → (mSx [121, 124] [9, 10] I27 J29) → (r28 = mFc (K30 120) 0) → Post (some (.int r28)) HS J29 K30 RF 146) (k4 : ∀ n2 : Nat, (n2 < 4) → x = nI n2 → ∀ n4 : Nat, (n4 < 4) → y = nI n4 → (¬ ((¬ q < 0) ∧ (¬ 11 < q))) → Post (some (.int (-1))) HS I L RF 146) (k5 : ∀ n2 : Nat, (n2 < 4) → x = nI n2 → (¬ ((¬ y < 0) ∧ (¬ 3 < y))) → Post (some (.int (-1))) HS I L RF 146) : CT g yX8_swap cX8_swap 6 (some .int) rX8_swap [.ref 115, .int q, .int x, .int y] Post HS I L RF 146 := by
  refine ct_of (lv := [some (.ref 115), some (.int q), some (.int x), some (.int y), none, none]) (by decide) (Nat.le_of_ble_eq_true rfl) rfl ?_
  refine ev_iload_n (pc' := 1) (i := 2) dX8_swap_0 rfl rfl rfl ?_
  refine ev_iconst (pc' := 2) (v := 0) dX8_swap_1 rfl ki_0 ?_
  refine ev_iconst (pc' := 3) (v := 3) dX8_swap_2 rfl ki_3 ?_
  refine ev_callS (pc' := 6) (rm' := rX8_in) (av := [.int x, .int 0, .int 3]) (rest := []) co_X8_133 cs_X8_in dX8_swap_3 rfl rfl rfl (Nat.le_of_ble_eq_true rfl) ⟨(Nat.le_of_ble_eq_true rfl), (Nat.le_of_ble_eq_true rfl)⟩ ⟨(Nat.le_of_ble_eq_true rfl), (Nat.le_of_ble_eq_true rfl)⟩ ?_
  refine t_X8_in x 0 3  ?_
  refine ev_if_eq_b (tgt := 18) (pc' := 9) dX8_swap_6 rfl rfl (fun c1 => ?_) (fun c1 => ?_)
  · refine ev_iconst (pc' := 19) (v := (-1)) dX8_swap_18 rfl ki_m1 ?_
    refine ev_iret dX8_swap_19 rfl rfl ⟨Nat.le_refl _, Nat.le_refl _⟩ ?_
    exact k1 c1
  · obtain ⟨n2, hn2, en2⟩ := in_of (n := 3) (by omega) rfl c1
    subst en2
    refine ev_iload_n (pc' := 10) (i := 3) dX8_swap_9 rfl rfl rfl ?_
    refine ev_iconst (pc' := 11) (v := 0) dX8_swap_10 rfl ki_0 ?_
    refine ev_iconst (pc' := 12) (v := 3) dX8_swap_11 rfl ki_3 ?_
    refine ev_callS (pc' := 15) (rm' := rX8_in) (av := [.int y, .int 0, .int 3]) (rest := []) co_X8_133 cs_X8_in dX8_swap_12 rfl rfl rfl (Nat.le_of_ble_eq_true rfl) ⟨(Nat.le_of_ble_eq_true rfl), (Nat.le_of_ble_eq_true rfl)⟩ ⟨(Nat.le_of_ble_eq_true rfl), (Nat.le_of_ble_eq_true rfl)⟩ ?_
    refine t_X8_in y 0 3  ?_
    refine ev_if_ne_b (tgt := 20) (pc' := 18) dX8_swap_15 rfl rfl (fun c3 => ?_) (fun c3 => ?_)
    · obtain ⟨n4, hn4, en4⟩ := in_of (n := 3) (by omega) rfl c3
      subst en4
      refine ev_aload_n (pc' := 21) (i := 0) dX8_swap_20 rfl rfl rfl ?_
      refine ev_iload_n (pc' := 22) (i := 1) dX8_swap_21 rfl rfl rfl ?_
      refine ev_callV (pc' := 25) (rm' := rX8_askedFor) (b := 115) (av := [.int q]) (rest := []) co_X8_210 ci_X8_askedFor cv_X8_askedFor dX8_swap_22 rfl hs_115 hb_X8 rfl rfl (Nat.le_of_ble_eq_true rfl) ⟨(Nat.le_of_ble_eq_true rfl), (Nat.le_of_ble_eq_true rfl)⟩ ⟨(Nat.le_of_ble_eq_true rfl), (Nat.le_of_ble_eq_true rfl)⟩ ?_
      refine t_X8_askedFor q  (fun j5 h6 e7 h8 => ?_) (fun j9 h10 e11 h12 => ?_) (fun h13 => ?_)
      · subst e7
        refine ev_istore (pc' := 27) (lv' := [some (.ref 115), some (.int (nI j5)), some (.int (nI n2)), some (.int (nI n4)), some (.int (-3)), none]) dX8_swap_25 rfl (Nat.le_of_ble_eq_true rfl) rfl rfl ?_
        refine ev_iload (pc' := 29) dX8_swap_27 rfl rfl ?_
        refine ev_if_ge (tgt := 35) (pc' := 32) dX8_swap_29 rfl rfl (fun h => absurd h (by decide)) (fun _ => ?_)
        refine ev_iload (pc' := 34) dX8_swap_32 rfl rfl ?_
        refine ev_iret dX8_swap_34 rfl rfl ⟨Nat.le_refl _, Nat.le_refl _⟩ ?_
        exact k2 n2 hn2 rfl n4 hn4 rfl j5 h6 rfl h8
      · subst e11
        refine ev_istore (pc' := 27) (lv' := [some (.ref 115), some (.int (nI j9)), some (.int (nI n2)), some (.int (nI n4)), some (.int 0), none]) dX8_swap_25 rfl (Nat.le_of_ble_eq_true rfl) rfl rfl ?_
        refine ev_iload (pc' := 29) dX8_swap_27 rfl rfl ?_
        refine ev_if_ge (tgt := 35) (pc' := 32) dX8_swap_29 rfl rfl (fun _ => ?_) (fun h => absurd (by decide) h)
        refine ev_iconst (pc' := 36) (v := 0) dX8_swap_35 rfl ki_0 ?_
        refine ev_istore (pc' := 38) (lv' := [some (.ref 115), some (.int (nI j9)), some (.int (nI n2)), some (.int (nI n4)), some (.int 0), some (.int 0)]) dX8_swap_36 rfl (Nat.le_of_ble_eq_true rfl) rfl rfl ?_
        suffices loop14 : ∀ (d15 i17 : Nat) (J16 : ma_I), i17 + d15 = 16 → (J16 = mfill I 125 0 i17 (fun k => I 123 (16 * j9 + 4 * mChN (k / 4) n2 n4 + mChN (k % 4) n2 n4))) → EV g yX8_swap cX8_swap 6 (some .int) rX8_swap (ma_ZM g rX8_swap Post) 38 [some (.ref 115), some (.int (nI j9)), some (.int (nI n2)), some (.int (nI n4)), some (.int 0), some (.int (nI i17))] [] HS J16 L RF 146 0 0 from loop14 (16 - 0) 0 I (by omega) (by exact (mfill_0 _ _ _ _).symm)
        intro d15
        induction d15 with
        | zero =>
          intro i17  J16  hi18 hv19
          obtain rfl : i17 = 16 := by omega
          subst hv19
          refine ev_iload (pc' := 40) dX8_swap_38 rfl rfl ?_
          refine ev_bipush (pc' := 42) (v := 16) dX8_swap_40 rfl kb_16 ?_
          refine ev_icmp_ge (tgt := 89) (pc' := 45) dX8_swap_42 rfl rfl (fun _ => ?_) (fun h => absurd (nx_le (a := 16) (b := 16) (by omega) (by omega)) h)
          refine ev_iconst (pc' := 90) (v := 0) dX8_swap_89 rfl ki_0 ?_
          refine ev_istore (pc' := 92) (lv' := [some (.ref 115), some (.int (nI j9)), some (.int (nI n2)), some (.int (nI n4)), some (.int 0), some (.int 0)]) dX8_swap_90 rfl (Nat.le_of_ble_eq_true rfl) rfl rfl ?_
          refine ev_memI (fun I23 hI23 => ?_)
          suffices loop20 : ∀ (d21 i24 : Nat) (J22 : ma_I), i24 + d21 = 16 → (J22 = mfill I23 123 (16 * j9) i24 (fun k => I23 125 k)) → EV g yX8_swap cX8_swap 6 (some .int) rX8_swap (ma_ZM g rX8_swap Post) 92 [some (.ref 115), some (.int (nI j9)), some (.int (nI n2)), some (.int (nI n4)), some (.int 0), some (.int (nI i24))] [] HS J22 L RF 146 0 0 from loop20 (16 - 0) 0 I23 (by omega) (by exact (mfill_0 _ _ _ _).symm)
          intro d21
          induction d21 with
          | zero =>
            intro i24  J22  hi25 hv26
            obtain rfl : i24 = 16 := by omega
            subst hv26
            subst hI23
            refine ev_iload (pc' := 94) dX8_swap_92 rfl rfl ?_
            refine ev_bipush (pc' := 96) (v := 16) dX8_swap_94 rfl kb_16 ?_
            refine ev_icmp_ge (tgt := 124) (pc' := 99) dX8_swap_96 rfl rfl (fun _ => ?_) (fun h => absurd (nx_le (a := 16) (b := 16) (by omega) (by omega)) h)
            refine ev_aload_n (pc' := 125) (i := 0) dX8_swap_124 rfl rfl rfl ?_
            refine ev_iload_n (pc' := 126) (i := 1) dX8_swap_125 rfl rfl rfl ?_
            refine ev_callV (pc' := 129) (rm' := rX8_setFacts) (b := 115) (av := [.int (nI j9)]) (rest := []) co_X8_207 ci_X8_setFacts cv_X8_setFacts dX8_swap_126 rfl hs_115 hb_X8 rfl rfl (Nat.le_of_ble_eq_true rfl) ⟨(Nat.le_of_ble_eq_true rfl), (Nat.le_of_ble_eq_true rfl)⟩ ⟨(Nat.le_of_ble_eq_true rfl), (Nat.le_of_ble_eq_true rfl)⟩ ?_
            refine ct_memI (fun I27 hI27 => ?_)
            refine f_X8_setFacts j9 (by omega) (fun r28 J29 K30 f31 f32 f33 f34 f35 => ?_)
            refine ev_iret dX8_swap_129 rfl rfl ⟨Nat.le_refl _, Nat.le_refl _⟩ ?_
            exact k3 n2 hn2 rfl n4 hn4 rfl j9 h10 rfl h12 I27 hI27 r28 J29 K30 f31 f32 f33 f34 f35
          | succ d21 ih =>
            intro i24  J22  hi25 hv26
            refine ev_iload (pc' := 94) dX8_swap_92 rfl rfl ?_
            refine ev_bipush (pc' := 96) (v := 16) dX8_swap_94 rfl kb_16 ?_
            refine ev_icmp_ge (tgt := 124) (pc' := 99) dX8_swap_96 rfl rfl (fun h => absurd h (nx_nle (a := 16) (b := i24) (by omega) (by omega))) (fun _ => ?_)
            refine ev_aload_n (pc' := 100) (i := 0) dX8_swap_99 rfl rfl rfl ?_
            refine ev_getR (pc' := 103) fo_X8_37 dX8_swap_100 rfl hs_115 rfl rf_115_13 ?_
            refine ev_bipush (pc' := 105) (v := 16) dX8_swap_103 rfl kb_16 ?_
            refine ev_iload_n (pc' := 106) (i := 1) dX8_swap_105 rfl rfl rfl ?_
            refine ev_imul (pc' := 107) (v := nI (16 * j9)) dX8_swap_106 rfl (pk_mul 16 j9) ?_
            refine ev_iload (pc' := 109) dX8_swap_107 rfl rfl ?_
            refine ev_iadd (pc' := 110) (v := nI ((16 * j9) + i24)) dX8_swap_109 rfl (nI_add (16 * j9) i24) ?_
            refine ev_aload_n (pc' := 111) (i := 0) dX8_swap_110 rfl rfl rfl ?_
            refine ev_getR (pc' := 114) fo_X8_43 dX8_swap_111 rfl hs_115 rfl rf_115_15 ?_
            refine ev_iload (pc' := 116) dX8_swap_114 rfl rfl ?_
            refine ev_iald (pc' := 117) (j := i24) (v := (J22 125) i24) dX8_swap_116 rfl hs_125 rfl (by omega) (Nat.le_of_ble_eq_true rfl) rfl ?_
            refine ev_iast (pc' := 118) (j := (16 * j9) + i24) (I' := (ma_up J22 123 (ma_up (J22 123) ((16 * j9) + i24) ((J22 125) i24)))) dX8_swap_117 rfl hs_123 rfl (by omega) (Nat.le_of_ble_eq_true rfl) rfl ?_
            refine ev_iinc (pc' := 121) (v := nI (i24 + 1)) (lv' := [some (.ref 115), some (.int (nI j9)), some (.int (nI n2)), some (.int (nI n4)), some (.int 0), some (.int (nI (i24 + 1)))]) dX8_swap_118 rfl rfl (nI_add i24 1) (Nat.le_of_ble_eq_true rfl) rfl rfl ?_
            refine ev_goto (tgt := 92) dX8_swap_121 rfl ?_
            exact ih (i24 + 1) _ (by omega) (by rw [hv26]; exact mfill_s _ _ _ _ _ rfl rfl)
        | succ d15 ih =>
          intro i17  J16  hi18 hv19
          refine ev_iload (pc' := 40) dX8_swap_38 rfl rfl ?_
          refine ev_bipush (pc' := 42) (v := 16) dX8_swap_40 rfl kb_16 ?_
          refine ev_icmp_ge (tgt := 89) (pc' := 45) dX8_swap_42 rfl rfl (fun h => absurd h (nx_nle (a := 16) (b := i17) (by omega) (by omega))) (fun _ => ?_)
          refine ev_aload_n (pc' := 46) (i := 0) dX8_swap_45 rfl rfl rfl ?_
          refine ev_getR (pc' := 49) fo_X8_43 dX8_swap_46 rfl hs_115 rfl rf_115_15 ?_
          refine ev_iload (pc' := 51) dX8_swap_49 rfl rfl ?_
          refine ev_aload_n (pc' := 52) (i := 0) dX8_swap_51 rfl rfl rfl ?_
          refine ev_getR (pc' := 55) fo_X8_37 dX8_swap_52 rfl hs_115 rfl rf_115_13 ?_
          refine ev_bipush (pc' := 57) (v := 16) dX8_swap_55 rfl kb_16 ?_
          refine ev_iload_n (pc' := 58) (i := 1) dX8_swap_57 rfl rfl rfl ?_
          refine ev_imul (pc' := 59) (v := nI (16 * j9)) dX8_swap_58 rfl (pk_mul 16 j9) ?_
          refine ev_iconst (pc' := 60) (v := 4) dX8_swap_59 rfl ki_4 ?_
          refine ev_iload (pc' := 62) dX8_swap_60 rfl rfl ?_
          refine ev_iconst (pc' := 63) (v := 4) dX8_swap_62 rfl ki_4 ?_
          refine ev_idiv (pc' := 64) (v := nI (i17 / 4)) dX8_swap_63 rfl (by decide) (pk_div (a := i17) (d := 4) (by omega) (by omega) (by omega)) ?_
          refine ev_iload_n (pc' := 65) (i := 2) dX8_swap_64 rfl rfl rfl ?_
          refine ev_iload_n (pc' := 66) (i := 3) dX8_swap_65 rfl rfl rfl ?_
          refine ev_callS (pc' := 69) (rm' := rX8_changed) (av := [.int (nI (i17 / 4)), .int (nI n2), .int (nI n4)]) (rest := [.int 4, .int (nI (16 * j9)), .ref 123, .int (nI i17), .ref 125]) co_X8_223 cs_X8_changed dX8_swap_66 rfl rfl rfl (Nat.le_of_ble_eq_true rfl) ⟨(Nat.le_of_ble_eq_true rfl), (Nat.le_of_ble_eq_true rfl)⟩ ⟨(Nat.le_of_ble_eq_true rfl), (Nat.le_of_ble_eq_true rfl)⟩ ?_
          refine u_X8_changed (i17 / 4) n2 n4 (by omega) (by omega) (by omega) (fun hc36 => ?_)
          refine ev_imul (pc' := 70) (v := nI (4 * (mChN (i17 / 4) n2 n4))) dX8_swap_69 rfl (pk_mul 4 (mChN (i17 / 4) n2 n4)) ?_
          refine ev_iadd (pc' := 71) (v := nI ((16 * j9) + (4 * (mChN (i17 / 4) n2 n4)))) dX8_swap_70 rfl (nI_add (16 * j9) (4 * (mChN (i17 / 4) n2 n4))) ?_
          refine ev_iload (pc' := 73) dX8_swap_71 rfl rfl ?_
          refine ev_iconst (pc' := 74) (v := 4) dX8_swap_73 rfl ki_4 ?_
          refine ev_irem (pc' := 75) (v := nI (i17 % 4)) dX8_swap_74 rfl (by decide) (pk_rem (a := i17) (d := 4) (by omega) (by omega) (by omega)) ?_
          refine ev_iload_n (pc' := 76) (i := 2) dX8_swap_75 rfl rfl rfl ?_
          refine ev_iload_n (pc' := 77) (i := 3) dX8_swap_76 rfl rfl rfl ?_
          refine ev_callS (pc' := 80) (rm' := rX8_changed) (av := [.int (nI (i17 % 4)), .int (nI n2), .int (nI n4)]) (rest := [.int (nI ((16 * j9) + (4 * (mChN (i17 / 4) n2 n4)))), .ref 123, .int (nI i17), .ref 125]) co_X8_223 cs_X8_changed dX8_swap_77 rfl rfl rfl (Nat.le_of_ble_eq_true rfl) ⟨(Nat.le_of_ble_eq_true rfl), (Nat.le_of_ble_eq_true rfl)⟩ ⟨(Nat.le_of_ble_eq_true rfl), (Nat.le_of_ble_eq_true rfl)⟩ ?_
          refine u_X8_changed (i17 % 4) n2 n4 (by omega) (by omega) (by omega) (fun hc37 => ?_)
          refine ev_iadd (pc' := 81) (v := nI (((16 * j9) + (4 * (mChN (i17 / 4) n2 n4))) + (mChN (i17 % 4) n2 n4))) dX8_swap_80 rfl (nI_add ((16 * j9) + (4 * (mChN (i17 / 4) n2 n4))) (mChN (i17 % 4) n2 n4)) ?_
          refine ev_iald (pc' := 82) (j := ((16 * j9) + (4 * (mChN (i17 / 4) n2 n4))) + (mChN (i17 % 4) n2 n4)) (v := (J16 123) (((16 * j9) + (4 * (mChN (i17 / 4) n2 n4))) + (mChN (i17 % 4) n2 n4))) dX8_swap_81 rfl hs_123 rfl (by omega) (Nat.le_of_ble_eq_true rfl) rfl ?_
          refine ev_iast (pc' := 83) (j := i17) (I' := (ma_up J16 125 (ma_up (J16 125) i17 ((J16 123) (((16 * j9) + (4 * (mChN (i17 / 4) n2 n4))) + (mChN (i17 % 4) n2 n4)))))) dX8_swap_82 rfl hs_125 rfl (by omega) (Nat.le_of_ble_eq_true rfl) rfl ?_
          refine ev_iinc (pc' := 86) (v := nI (i17 + 1)) (lv' := [some (.ref 115), some (.int (nI j9)), some (.int (nI n2)), some (.int (nI n4)), some (.int 0), some (.int (nI (i17 + 1)))]) dX8_swap_83 rfl rfl (nI_add i17 1) (Nat.le_of_ble_eq_true rfl) rfl rfl ?_
          refine ev_goto (tgt := 38) dX8_swap_86 rfl ?_
          exact ih (i17 + 1) _ (by omega) (by rw [hv19]; exact mfill_s _ _ _ _ _ (by omega) rfl)
      · skip
        refine ev_istore (pc' := 27) (lv' := [some (.ref 115), some (.int q), some (.int (nI n2)), some (.int (nI n4)), some (.int (-1)), none]) dX8_swap_25 rfl (Nat.le_of_ble_eq_true rfl) rfl rfl ?_
        refine ev_iload (pc' := 29) dX8_swap_27 rfl rfl ?_
        refine ev_if_ge (tgt := 35) (pc' := 32) dX8_swap_29 rfl rfl (fun h => absurd h (by decide)) (fun _ => ?_)
        refine ev_iload (pc' := 34) dX8_swap_32 rfl rfl ?_
        refine ev_iret dX8_swap_34 rfl rfl ⟨Nat.le_refl _, Nat.le_refl _⟩ ?_
        exact k4 n2 hn2 rfl n4 hn4 rfl h13
    · refine ev_iconst (pc' := 19) (v := (-1)) dX8_swap_18 rfl ki_m1 ?_
      refine ev_iret dX8_swap_19 rfl rfl ⟨Nat.le_refl _, Nat.le_refl _⟩ ?_
      exact k5 n2 hn2 rfl c3
set_option maxRecDepth 4000 in
theorem t_X8_shear {g : ma_G} {Post : ma_P} {I : ma_I} {L : ma_L}  (q : Int32) (x : Int32) (y : Int32) (z : Int32)  (k1 : (¬ ((¬ x < 0) ∧ (¬ 3 < x))) → Post (some (.int (-1))) HS I L RF 146) (k2 : ∀ n2 : Nat, (n2 < 4) → x = nI n2 → (¬ ((¬ y < 0) ∧ (¬ 3 < y))) → Post (some (.int (-1))) HS I L RF 146) (k3 : ∀ n2 : Nat, (n2 < 4) → x = nI n2 → ∀ n4 : Nat, (n4 < 4) → y = nI n4 → ((nI n2) = (nI n4)) → Post (some (.int (-1))) HS I L RF 146) (k4 : ∀ n2 : Nat, (n2 < 4) → x = nI n2 → ∀ n4 : Nat, (n4 < 4) → y = nI n4 → (¬ (nI n2) = (nI n4)) → ((¬ z < (-2)) ∧ (¬ 2 < z)) → ∀ j7 : Nat, (j7 < 12) → q = nI j7 → (((I 122) j7) = 0) → Post (some (.int (-3))) HS (mMt I 1) L RF 146) (k5 : ∀ n2 : Nat, (n2 < 4) → x = nI n2 → ∀ n4 : Nat, (n4 < 4) → y = nI n4 → (¬ (nI n2) = (nI n4)) → ((¬ z < (-2)) ∧ (¬ 2 < z)) → ∀ j11 : Nat, (j11 < 12) → q = nI j11 → (¬ ((I 122) j11) = 0) → ∀ I41 : ma_I, (I41 = (ma_up (mfill I 125 0 16 (fun k => I 123 (16 * j11 + k))) 125 (ma_up (ma_up (ma_up (ma_up (ma_up (ma_up (ma_up (ma_up ((mfill I 125 0 16 (fun k => I 123 (16 * j11 + k))) 125) ((4 * n4) + 0) (if ¬ 0 = (nI n4) then ((((mfill I 125 0 16 (fun k => I 123 (16 * j11 + k))) 123) (((16 * j11) + (4 * n4)) + 0)) + (z * (((mfill I 125 0 16 (fun k => I 123 (16 * j11 + k))) 123) (((16 * j11) + (4 * n2)) + 0)))) else (((((mfill I 125 0 16 (fun k => I 123 (16 * j11 + k))) 123) ((16 * j11) + (5 * n4))) + ((2 * z) * (((mfill I 125 0 16 (fun k => I 123 (16 * j11 + k))) 123) (((16 * j11) + (4 * n2)) + n4)))) + ((z * z) * (((mfill I 125 0 16 (fun k => I 123 (16 * j11 + k))) 123) ((16 * j11) + (5 * n2))))))) (0 + n4) (if ¬ 0 = (nI n4) then ((((mfill I 125 0 16 (fun k => I 123 (16 * j11 + k))) 123) (((16 * j11) + (4 * n4)) + 0)) + (z * (((mfill I 125 0 16 (fun k => I 123 (16 * j11 + k))) 123) (((16 * j11) + (4 * n2)) + 0)))) else (((((mfill I 125 0 16 (fun k => I 123 (16 * j11 + k))) 123) ((16 * j11) + (5 * n4))) + ((2 * z) * (((mfill I 125 0 16 (fun k => I 123 (16 * j11 + k))) 123) (((16 * j11) + (4 * n2)) + n4)))) + ((z * z) * (((mfill I 125 0 16 (fun k => I 123 (16 * j11 + k))) 123) ((16 * j11) + (5 * n2))))))) ((4 * n4) + 1) (if ¬ 1 = (nI n4) then ((((mfill I 125 0 16 (fun k => I 123 (16 * j11 + k))) 123) (((16 * j11) + (4 * n4)) + 1)) + (z * (((mfill I 125 0 16 (fun k => I 123 (16 * j11 + k))) 123) (((16 * j11) + (4 * n2)) + 1)))) else (((((mfill I 125 0 16 (fun k => I 123 (16 * j11 + k))) 123) ((16 * j11) + (5 * n4))) + ((2 * z) * (((mfill I 125 0 16 (fun k => I 123 (16 * j11 + k))) 123) (((16 * j11) + (4 * n2)) + n4)))) + ((z * z) * (((mfill I 125 0 16 (fun k => I 123 (16 * j11 + k))) 123) ((16 * j11) + (5 * n2))))))) (4 + n4) (if ¬ 1 = (nI n4) then ((((mfill I 125 0 16 (fun k => I 123 (16 * j11 + k))) 123) (((16 * j11) + (4 * n4)) + 1)) + (z * (((mfill I 125 0 16 (fun k => I 123 (16 * j11 + k))) 123) (((16 * j11) + (4 * n2)) + 1)))) else (((((mfill I 125 0 16 (fun k => I 123 (16 * j11 + k))) 123) ((16 * j11) + (5 * n4))) + ((2 * z) * (((mfill I 125 0 16 (fun k => I 123 (16 * j11 + k))) 123) (((16 * j11) + (4 * n2)) + n4)))) + ((z * z) * (((mfill I 125 0 16 (fun k => I 123 (16 * j11 + k))) 123) ((16 * j11) + (5 * n2))))))) ((4 * n4) + 2) (if ¬ 2 = (nI n4) then ((((mfill I 125 0 16 (fun k => I 123 (16 * j11 + k))) 123) (((16 * j11) + (4 * n4)) + 2)) + (z * (((mfill I 125 0 16 (fun k => I 123 (16 * j11 + k))) 123) (((16 * j11) + (4 * n2)) + 2)))) else (((((mfill I 125 0 16 (fun k => I 123 (16 * j11 + k))) 123) ((16 * j11) + (5 * n4))) + ((2 * z) * (((mfill I 125 0 16 (fun k => I 123 (16 * j11 + k))) 123) (((16 * j11) + (4 * n2)) + n4)))) + ((z * z) * (((mfill I 125 0 16 (fun k => I 123 (16 * j11 + k))) 123) ((16 * j11) + (5 * n2))))))) (8 + n4) (if ¬ 2 = (nI n4) then ((((mfill I 125 0 16 (fun k => I 123 (16 * j11 + k))) 123) (((16 * j11) + (4 * n4)) + 2)) + (z * (((mfill I 125 0 16 (fun k => I 123 (16 * j11 + k))) 123) (((16 * j11) + (4 * n2)) + 2)))) else (((((mfill I 125 0 16 (fun k => I 123 (16 * j11 + k))) 123) ((16 * j11) + (5 * n4))) + ((2 * z) * (((mfill I 125 0 16 (fun k => I 123 (16 * j11 + k))) 123) (((16 * j11) + (4 * n2)) + n4)))) + ((z * z) * (((mfill I 125 0 16 (fun k => I 123 (16 * j11 + k))) 123) ((16 * j11) + (5 * n2))))))) ((4 * n4) + 3) (if ¬ 3 = (nI n4) then ((((mfill I 125 0 16 (fun k => I 123 (16 * j11 + k))) 123) (((16 * j11) + (4 * n4)) + 3)) + (z * (((mfill I 125 0 16 (fun k => I 123 (16 * j11 + k))) 123) (((16 * j11) + (4 * n2)) + 3)))) else (((((mfill I 125 0 16 (fun k => I 123 (16 * j11 + k))) 123) ((16 * j11) + (5 * n4))) + ((2 * z) * (((mfill I 125 0 16 (fun k => I 123 (16 * j11 + k))) 123) (((16 * j11) + (4 * n2)) + n4)))) + ((z * z) * (((mfill I 125 0 16 (fun k => I 123 (16 * j11 + k))) 123) ((16 * j11) + (5 * n2))))))) (12 + n4) (if ¬ 3 = (nI n4) then ((((mfill I 125 0 16 (fun k => I 123 (16 * j11 + k))) 123) (((16 * j11) + (4 * n4)) + 3)) + (z * (((mfill I 125 0 16 (fun k => I 123 (16 * j11 + k))) 123) (((16 * j11) + (4 * n2)) + 3)))) else (((((mfill I 125 0 16 (fun k => I 123 (16 * j11 + k))) 123) ((16 * j11) + (5 * n4))) + ((2 * z) * (((mfill I 125 0 16 (fun k => I 123 (16 * j11 + k))) 123) (((16 * j11) + (4 * n2)) + n4)))) + ((z * z) * (((mfill I 125 0 16 (fun k => I 123 (16 * j11 + k))) 123) ((16 * j11) + (5 * n2))))))))) → ∀ x40 : Int32, ((x40 = 0 ∨ x40 = 1) ∧ (x40 = 1 ↔ ∀ j, j < 16 → ((¬ I41 125 j < (-4)) ∧ (¬ 4 < I41 125 j)))) → (¬ x40 = 0) → ∀ I52 : ma_I, (I52 = (mfill I41 123 (16 * j11) 16 (fun k => I41 125 k))) → ∀ r53 : Int32, ∀ J54 : ma_I, ∀ K55 : ma_L, (∀ j, J54 124 j = if 10 * j11 ≤ j ∧ j < 10 * j11 + 10 then mFc (K55 120) (j - 10 * j11) else I52 124 j) → (∀ j, j < 16 → K55 120 j = (I52 123 (16 * j11 + j)).toInt64) → (mSl [120] L K55) → (mSx [121, 124] [9, 10] I52 J54) → (r53 = mFc (K55 120) 0) → Post (some (.int r53)) HS J54 K55 RF 146) (k6 : ∀ n2 : Nat, (n2 < 4) → x = nI n2 → ∀ n4 : Nat, (n4 < 4) → y = nI n4 → (¬ (nI n2) = (nI n4)) → ((¬ z < (-2)) ∧ (¬ 2 < z)) → ∀ j11 : Nat, (j11 < 12) → q = nI j11 → (¬ ((I 122) j11) = 0) → ∀ I41 : ma_I, (I41 = (ma_up (mfill I 125 0 16 (fun k => I 123 (16 * j11 + k))) 125 (ma_up (ma_up (ma_up (ma_up (ma_up (ma_up (ma_up (ma_up ((mfill I 125 0 16 (fun k => I 123 (16 * j11 + k))) 125) ((4 * n4) + 0) (if ¬ 0 = (nI n4) then ((((mfill I 125 0 16 (fun k => I 123 (16 * j11 + k))) 123) (((16 * j11) + (4 * n4)) + 0)) + (z * (((mfill I 125 0 16 (fun k => I 123 (16 * j11 + k))) 123) (((16 * j11) + (4 * n2)) + 0)))) else (((((mfill I 125 0 16 (fun k => I 123 (16 * j11 + k))) 123) ((16 * j11) + (5 * n4))) + ((2 * z) * (((mfill I 125 0 16 (fun k => I 123 (16 * j11 + k))) 123) (((16 * j11) + (4 * n2)) + n4)))) + ((z * z) * (((mfill I 125 0 16 (fun k => I 123 (16 * j11 + k))) 123) ((16 * j11) + (5 * n2))))))) (0 + n4) (if ¬ 0 = (nI n4) then ((((mfill I 125 0 16 (fun k => I 123 (16 * j11 + k))) 123) (((16 * j11) + (4 * n4)) + 0)) + (z * (((mfill I 125 0 16 (fun k => I 123 (16 * j11 + k))) 123) (((16 * j11) + (4 * n2)) + 0)))) else (((((mfill I 125 0 16 (fun k => I 123 (16 * j11 + k))) 123) ((16 * j11) + (5 * n4))) + ((2 * z) * (((mfill I 125 0 16 (fun k => I 123 (16 * j11 + k))) 123) (((16 * j11) + (4 * n2)) + n4)))) + ((z * z) * (((mfill I 125 0 16 (fun k => I 123 (16 * j11 + k))) 123) ((16 * j11) + (5 * n2))))))) ((4 * n4) + 1) (if ¬ 1 = (nI n4) then ((((mfill I 125 0 16 (fun k => I 123 (16 * j11 + k))) 123) (((16 * j11) + (4 * n4)) + 1)) + (z * (((mfill I 125 0 16 (fun k => I 123 (16 * j11 + k))) 123) (((16 * j11) + (4 * n2)) + 1)))) else (((((mfill I 125 0 16 (fun k => I 123 (16 * j11 + k))) 123) ((16 * j11) + (5 * n4))) + ((2 * z) * (((mfill I 125 0 16 (fun k => I 123 (16 * j11 + k))) 123) (((16 * j11) + (4 * n2)) + n4)))) + ((z * z) * (((mfill I 125 0 16 (fun k => I 123 (16 * j11 + k))) 123) ((16 * j11) + (5 * n2))))))) (4 + n4) (if ¬ 1 = (nI n4) then ((((mfill I 125 0 16 (fun k => I 123 (16 * j11 + k))) 123) (((16 * j11) + (4 * n4)) + 1)) + (z * (((mfill I 125 0 16 (fun k => I 123 (16 * j11 + k))) 123) (((16 * j11) + (4 * n2)) + 1)))) else (((((mfill I 125 0 16 (fun k => I 123 (16 * j11 + k))) 123) ((16 * j11) + (5 * n4))) + ((2 * z) * (((mfill I 125 0 16 (fun k => I 123 (16 * j11 + k))) 123) (((16 * j11) + (4 * n2)) + n4)))) + ((z * z) * (((mfill I 125 0 16 (fun k => I 123 (16 * j11 + k))) 123) ((16 * j11) + (5 * n2))))))) ((4 * n4) + 2) (if ¬ 2 = (nI n4) then ((((mfill I 125 0 16 (fun k => I 123 (16 * j11 + k))) 123) (((16 * j11) + (4 * n4)) + 2)) + (z * (((mfill I 125 0 16 (fun k => I 123 (16 * j11 + k))) 123) (((16 * j11) + (4 * n2)) + 2)))) else (((((mfill I 125 0 16 (fun k => I 123 (16 * j11 + k))) 123) ((16 * j11) + (5 * n4))) + ((2 * z) * (((mfill I 125 0 16 (fun k => I 123 (16 * j11 + k))) 123) (((16 * j11) + (4 * n2)) + n4)))) + ((z * z) * (((mfill I 125 0 16 (fun k => I 123 (16 * j11 + k))) 123) ((16 * j11) + (5 * n2))))))) (8 + n4) (if ¬ 2 = (nI n4) then ((((mfill I 125 0 16 (fun k => I 123 (16 * j11 + k))) 123) (((16 * j11) + (4 * n4)) + 2)) + (z * (((mfill I 125 0 16 (fun k => I 123 (16 * j11 + k))) 123) (((16 * j11) + (4 * n2)) + 2)))) else (((((mfill I 125 0 16 (fun k => I 123 (16 * j11 + k))) 123) ((16 * j11) + (5 * n4))) + ((2 * z) * (((mfill I 125 0 16 (fun k => I 123 (16 * j11 + k))) 123) (((16 * j11) + (4 * n2)) + n4)))) + ((z * z) * (((mfill I 125 0 16 (fun k => I 123 (16 * j11 + k))) 123) ((16 * j11) + (5 * n2))))))) ((4 * n4) + 3) (if ¬ 3 = (nI n4) then ((((mfill I 125 0 16 (fun k => I 123 (16 * j11 + k))) 123) (((16 * j11) + (4 * n4)) + 3)) + (z * (((mfill I 125 0 16 (fun k => I 123 (16 * j11 + k))) 123) (((16 * j11) + (4 * n2)) + 3)))) else (((((mfill I 125 0 16 (fun k => I 123 (16 * j11 + k))) 123) ((16 * j11) + (5 * n4))) + ((2 * z) * (((mfill I 125 0 16 (fun k => I 123 (16 * j11 + k))) 123) (((16 * j11) + (4 * n2)) + n4)))) + ((z * z) * (((mfill I 125 0 16 (fun k => I 123 (16 * j11 + k))) 123) ((16 * j11) + (5 * n2))))))) (12 + n4) (if ¬ 3 = (nI n4) then ((((mfill I 125 0 16 (fun k => I 123 (16 * j11 + k))) 123) (((16 * j11) + (4 * n4)) + 3)) + (z * (((mfill I 125 0 16 (fun k => I 123 (16 * j11 + k))) 123) (((16 * j11) + (4 * n2)) + 3)))) else (((((mfill I 125 0 16 (fun k => I 123 (16 * j11 + k))) 123) ((16 * j11) + (5 * n4))) + ((2 * z) * (((mfill I 125 0 16 (fun k => I 123 (16 * j11 + k))) 123) (((16 * j11) + (4 * n2)) + n4)))) + ((z * z) * (((mfill I 125 0 16 (fun k => I 123 (16 * j11 + k))) 123) ((16 * j11) + (5 * n2))))))))) → ∀ x40 : Int32, ((x40 = 0 ∨ x40 = 1) ∧ (x40 = 1 ↔ ∀ j, j < 16 → ((¬ I41 125 j < (-4)) ∧ (¬ 4 < I41 125 j)))) → (x40 = 0) → Post (some (.int (-3))) HS (mMt I41 2) L RF 146) (k7 : ∀ n2 : Nat, (n2 < 4) → x = nI n2 → ∀ n4 : Nat, (n4 < 4) → y = nI n4 → (¬ (nI n2) = (nI n4)) → ((¬ z < (-2)) ∧ (¬ 2 < z)) → (¬ ((¬ q < 0) ∧ (¬ 11 < q))) → Post (some (.int (-1))) HS I L RF 146) (k8 : ∀ n2 : Nat, (n2 < 4) → x = nI n2 → ∀ n4 : Nat, (n4 < 4) → y = nI n4 → (¬ (nI n2) = (nI n4)) → (¬ ((¬ z < (-2)) ∧ (¬ 2 < z))) → Post (some (.int (-1))) HS I L RF 146) : CT g yX8_shear cX8_shear 9 (some .int) rX8_shear [.ref 115, .int q, .int x, .int y, .int z] Post HS I L RF 146 := by
  refine ct_of (lv := [some (.ref 115), some (.int q), some (.int x), some (.int y), some (.int z), none, none, none, none]) (by decide) (Nat.le_of_ble_eq_true rfl) rfl ?_
  refine ev_iload_n (pc' := 1) (i := 2) dX8_shear_0 rfl rfl rfl ?_
  refine ev_iconst (pc' := 2) (v := 0) dX8_shear_1 rfl ki_0 ?_
  refine ev_iconst (pc' := 3) (v := 3) dX8_shear_2 rfl ki_3 ?_
  refine ev_callS (pc' := 6) (rm' := rX8_in) (av := [.int x, .int 0, .int 3]) (rest := []) co_X8_133 cs_X8_in dX8_shear_3 rfl rfl rfl (Nat.le_of_ble_eq_true rfl) ⟨(Nat.le_of_ble_eq_true rfl), (Nat.le_of_ble_eq_true rfl)⟩ ⟨(Nat.le_of_ble_eq_true rfl), (Nat.le_of_ble_eq_true rfl)⟩ ?_
  refine t_X8_in x 0 3  ?_
  refine ev_if_eq_b (tgt := 34) (pc' := 9) dX8_shear_6 rfl rfl (fun c1 => ?_) (fun c1 => ?_)
  · refine ev_iconst (pc' := 35) (v := (-1)) dX8_shear_34 rfl ki_m1 ?_
    refine ev_iret dX8_shear_35 rfl rfl ⟨Nat.le_refl _, Nat.le_refl _⟩ ?_
    exact k1 c1
  · obtain ⟨n2, hn2, en2⟩ := in_of (n := 3) (by omega) rfl c1
    subst en2
    refine ev_iload_n (pc' := 10) (i := 3) dX8_shear_9 rfl rfl rfl ?_
    refine ev_iconst (pc' := 11) (v := 0) dX8_shear_10 rfl ki_0 ?_
    refine ev_iconst (pc' := 12) (v := 3) dX8_shear_11 rfl ki_3 ?_
    refine ev_callS (pc' := 15) (rm' := rX8_in) (av := [.int y, .int 0, .int 3]) (rest := []) co_X8_133 cs_X8_in dX8_shear_12 rfl rfl rfl (Nat.le_of_ble_eq_true rfl) ⟨(Nat.le_of_ble_eq_true rfl), (Nat.le_of_ble_eq_true rfl)⟩ ⟨(Nat.le_of_ble_eq_true rfl), (Nat.le_of_ble_eq_true rfl)⟩ ?_
    refine t_X8_in y 0 3  ?_
    refine ev_if_eq_b (tgt := 34) (pc' := 18) dX8_shear_15 rfl rfl (fun c3 => ?_) (fun c3 => ?_)
    · refine ev_iconst (pc' := 35) (v := (-1)) dX8_shear_34 rfl ki_m1 ?_
      refine ev_iret dX8_shear_35 rfl rfl ⟨Nat.le_refl _, Nat.le_refl _⟩ ?_
      exact k2 n2 hn2 rfl c3
    · obtain ⟨n4, hn4, en4⟩ := in_of (n := 3) (by omega) rfl c3
      subst en4
      refine ev_iload_n (pc' := 19) (i := 2) dX8_shear_18 rfl rfl rfl ?_
      refine ev_iload_n (pc' := 20) (i := 3) dX8_shear_19 rfl rfl rfl ?_
      refine ev_icmp_eq (tgt := 34) (pc' := 23) dX8_shear_20 rfl rfl (fun c5 => ?_) (fun c5 => ?_)
      · refine ev_iconst (pc' := 35) (v := (-1)) dX8_shear_34 rfl ki_m1 ?_
        refine ev_iret dX8_shear_35 rfl rfl ⟨Nat.le_refl _, Nat.le_refl _⟩ ?_
        exact k3 n2 hn2 rfl n4 hn4 rfl c5
      · refine ev_iload (pc' := 25) dX8_shear_23 rfl rfl ?_
        refine ev_bipush (pc' := 27) (v := (-2)) dX8_shear_25 rfl kb_m2 ?_
        refine ev_iconst (pc' := 28) (v := 2) dX8_shear_27 rfl ki_2 ?_
        refine ev_callS (pc' := 31) (rm' := rX8_in) (av := [.int z, .int (-2), .int 2]) (rest := []) co_X8_133 cs_X8_in dX8_shear_28 rfl rfl rfl (Nat.le_of_ble_eq_true rfl) ⟨(Nat.le_of_ble_eq_true rfl), (Nat.le_of_ble_eq_true rfl)⟩ ⟨(Nat.le_of_ble_eq_true rfl), (Nat.le_of_ble_eq_true rfl)⟩ ?_
        refine t_X8_in z (-2) 2  ?_
        refine ev_if_ne_b (tgt := 36) (pc' := 34) dX8_shear_31 rfl rfl (fun c6 => ?_) (fun c6 => ?_)
        · refine ev_aload_n (pc' := 37) (i := 0) dX8_shear_36 rfl rfl rfl ?_
          refine ev_iload_n (pc' := 38) (i := 1) dX8_shear_37 rfl rfl rfl ?_
          refine ev_callV (pc' := 41) (rm' := rX8_askedFor) (b := 115) (av := [.int q]) (rest := []) co_X8_210 ci_X8_askedFor cv_X8_askedFor dX8_shear_38 rfl hs_115 hb_X8 rfl rfl (Nat.le_of_ble_eq_true rfl) ⟨(Nat.le_of_ble_eq_true rfl), (Nat.le_of_ble_eq_true rfl)⟩ ⟨(Nat.le_of_ble_eq_true rfl), (Nat.le_of_ble_eq_true rfl)⟩ ?_
          refine t_X8_askedFor q  (fun j7 h8 e9 h10 => ?_) (fun j11 h12 e13 h14 => ?_) (fun h15 => ?_)
          · subst e9
            refine ev_istore (pc' := 43) (lv' := [some (.ref 115), some (.int (nI j7)), some (.int (nI n2)), some (.int (nI n4)), some (.int z), some (.int (-3)), none, none, none]) dX8_shear_41 rfl (Nat.le_of_ble_eq_true rfl) rfl rfl ?_
            refine ev_iload (pc' := 45) dX8_shear_43 rfl rfl ?_
            refine ev_if_ge (tgt := 51) (pc' := 48) dX8_shear_45 rfl rfl (fun h => absurd h (by decide)) (fun _ => ?_)
            refine ev_iload (pc' := 50) dX8_shear_48 rfl rfl ?_
            refine ev_iret dX8_shear_50 rfl rfl ⟨Nat.le_refl _, Nat.le_refl _⟩ ?_
            exact k4 n2 hn2 rfl n4 hn4 rfl c5 c6 j7 h8 rfl h10
          · subst e13
            refine ev_istore (pc' := 43) (lv' := [some (.ref 115), some (.int (nI j11)), some (.int (nI n2)), some (.int (nI n4)), some (.int z), some (.int 0), none, none, none]) dX8_shear_41 rfl (Nat.le_of_ble_eq_true rfl) rfl rfl ?_
            refine ev_iload (pc' := 45) dX8_shear_43 rfl rfl ?_
            refine ev_if_ge (tgt := 51) (pc' := 48) dX8_shear_45 rfl rfl (fun _ => ?_) (fun h => absurd (by decide) h)
            refine ev_bipush (pc' := 53) (v := 16) dX8_shear_51 rfl kb_16 ?_
            refine ev_iload_n (pc' := 54) (i := 1) dX8_shear_53 rfl rfl rfl ?_
            refine ev_imul (pc' := 55) (v := nI (16 * j11)) dX8_shear_54 rfl (pk_mul 16 j11) ?_
            refine ev_istore (pc' := 57) (lv' := [some (.ref 115), some (.int (nI j11)), some (.int (nI n2)), some (.int (nI n4)), some (.int z), some (.int 0), some (.int (nI (16 * j11))), none, none]) dX8_shear_55 rfl (Nat.le_of_ble_eq_true rfl) rfl rfl ?_
            refine ev_iconst (pc' := 58) (v := 0) dX8_shear_57 rfl ki_0 ?_
            refine ev_istore (pc' := 60) (lv' := [some (.ref 115), some (.int (nI j11)), some (.int (nI n2)), some (.int (nI n4)), some (.int z), some (.int 0), some (.int (nI (16 * j11))), some (.int 0), none]) dX8_shear_58 rfl (Nat.le_of_ble_eq_true rfl) rfl rfl ?_
            suffices loop16 : ∀ (d17 i19 : Nat) (J18 : ma_I), i19 + d17 = 16 → (J18 = mfill I 125 0 i19 (fun k => I 123 (16 * j11 + k))) → EV g yX8_shear cX8_shear 9 (some .int) rX8_shear (ma_ZM g rX8_shear Post) 60 [some (.ref 115), some (.int (nI j11)), some (.int (nI n2)), some (.int (nI n4)), some (.int z), some (.int 0), some (.int (nI (16 * j11))), some (.int (nI i19)), none] [] HS J18 L RF 146 0 0 from loop16 (16 - 0) 0 I (by omega) (by exact (mfill_0 _ _ _ _).symm)
            intro d17
            induction d17 with
            | zero =>
              intro i19  J18  hi20 hv21
              obtain rfl : i19 = 16 := by omega
              subst hv21
              refine ev_iload (pc' := 62) dX8_shear_60 rfl rfl ?_
              refine ev_bipush (pc' := 64) (v := 16) dX8_shear_62 rfl kb_16 ?_
              refine ev_icmp_ge (tgt := 90) (pc' := 67) dX8_shear_64 rfl rfl (fun _ => ?_) (fun h => absurd (nx_le (a := 16) (b := 16) (by omega) (by omega)) h)
              refine ev_iconst (pc' := 91) (v := 0) dX8_shear_90 rfl ki_0 ?_
              refine ev_istore (pc' := 93) (lv' := [some (.ref 115), some (.int (nI j11)), some (.int (nI n2)), some (.int (nI n4)), some (.int z), some (.int 0), some (.int (nI (16 * j11))), some (.int 0), none]) dX8_shear_91 rfl (Nat.le_of_ble_eq_true rfl) rfl rfl ?_
              refine ev_iload (pc' := 95) dX8_shear_93 rfl rfl ?_
              refine ev_iconst (pc' := 96) (v := 4) dX8_shear_95 rfl ki_4 ?_
              refine ev_icmp_ge (tgt := 222) (pc' := 99) dX8_shear_96 rfl rfl (fun h => absurd h (by decide)) (fun _ => ?_)
              refine ev_iload (pc' := 101) dX8_shear_99 rfl rfl ?_
              refine ev_iload_n (pc' := 102) (i := 3) dX8_shear_101 rfl rfl rfl ?_
              suffices K24 : ∀ x23 : Int32, x23 = (if ¬ 0 = (nI n4) then ((((mfill I 125 0 16 (fun k => I 123 (16 * j11 + k))) 123) (((16 * j11) + (4 * n4)) + 0)) + (z * (((mfill I 125 0 16 (fun k => I 123 (16 * j11 + k))) 123) (((16 * j11) + (4 * n2)) + 0)))) else (((((mfill I 125 0 16 (fun k => I 123 (16 * j11 + k))) 123) ((16 * j11) + (5 * n4))) + ((2 * z) * (((mfill I 125 0 16 (fun k => I 123 (16 * j11 + k))) 123) (((16 * j11) + (4 * n2)) + n4)))) + ((z * z) * (((mfill I 125 0 16 (fun k => I 123 (16 * j11 + k))) 123) ((16 * j11) + (5 * n2)))))) → EV g yX8_shear cX8_shear 9 (some .int) rX8_shear (ma_ZM g rX8_shear Post) 188 [some (.ref 115), some (.int (nI j11)), some (.int (nI n2)), some (.int (nI n4)), some (.int z), some (.int 0), some (.int (nI (16 * j11))), some (.int 0), none] [.int x23] HS (mfill I 125 0 16 (fun k => I 123 (16 * j11 + k))) L RF 146 0 0 by
                refine ev_icmp_ne (tgt := 156) (pc' := 105) dX8_shear_102 rfl rfl (fun c25 => ?_) (fun c25 => ?_)
                · refine ev_aload_n (pc' := 157) (i := 0) dX8_shear_156 rfl rfl rfl ?_
                  refine ev_getR (pc' := 160) fo_X8_37 dX8_shear_157 rfl hs_115 rfl rf_115_13 ?_
                  refine ev_iload (pc' := 162) dX8_shear_160 rfl rfl ?_
                  refine ev_iconst (pc' := 163) (v := 4) dX8_shear_162 rfl ki_4 ?_
                  refine ev_iload_n (pc' := 164) (i := 3) dX8_shear_163 rfl rfl rfl ?_
                  refine ev_imul (pc' := 165) (v := nI (4 * n4)) dX8_shear_164 rfl (pk_mul 4 n4) ?_
                  refine ev_iadd (pc' := 166) (v := nI ((16 * j11) + (4 * n4))) dX8_shear_165 rfl (nI_add (16 * j11) (4 * n4)) ?_
                  refine ev_iload (pc' := 168) dX8_shear_166 rfl rfl ?_
                  refine ev_iadd (pc' := 169) (v := nI (((16 * j11) + (4 * n4)) + 0)) dX8_shear_168 rfl (nI_add ((16 * j11) + (4 * n4)) 0) ?_
                  refine ev_iald (pc' := 170) (j := ((16 * j11) + (4 * n4)) + 0) (v := ((mfill I 125 0 16 (fun k => I 123 (16 * j11 + k))) 123) (((16 * j11) + (4 * n4)) + 0)) dX8_shear_169 rfl hs_123 rfl (by omega) (Nat.le_of_ble_eq_true rfl) rfl ?_
                  refine ev_iload (pc' := 172) dX8_shear_170 rfl rfl ?_
                  refine ev_aload_n (pc' := 173) (i := 0) dX8_shear_172 rfl rfl rfl ?_
                  refine ev_getR (pc' := 176) fo_X8_37 dX8_shear_173 rfl hs_115 rfl rf_115_13 ?_
                  refine ev_iload (pc' := 178) dX8_shear_176 rfl rfl ?_
                  refine ev_iconst (pc' := 179) (v := 4) dX8_shear_178 rfl ki_4 ?_
                  refine ev_iload_n (pc' := 180) (i := 2) dX8_shear_179 rfl rfl rfl ?_
                  refine ev_imul (pc' := 181) (v := nI (4 * n2)) dX8_shear_180 rfl (pk_mul 4 n2) ?_
                  refine ev_iadd (pc' := 182) (v := nI ((16 * j11) + (4 * n2))) dX8_shear_181 rfl (nI_add (16 * j11) (4 * n2)) ?_
                  refine ev_iload (pc' := 184) dX8_shear_182 rfl rfl ?_
                  refine ev_iadd (pc' := 185) (v := nI (((16 * j11) + (4 * n2)) + 0)) dX8_shear_184 rfl (nI_add ((16 * j11) + (4 * n2)) 0) ?_
                  refine ev_iald (pc' := 186) (j := ((16 * j11) + (4 * n2)) + 0) (v := ((mfill I 125 0 16 (fun k => I 123 (16 * j11 + k))) 123) (((16 * j11) + (4 * n2)) + 0)) dX8_shear_185 rfl hs_123 rfl (by omega) (Nat.le_of_ble_eq_true rfl) rfl ?_
                  refine ev_imul (pc' := 187) (v := z * (((mfill I 125 0 16 (fun k => I 123 (16 * j11 + k))) 123) (((16 * j11) + (4 * n2)) + 0))) dX8_shear_186 rfl rfl ?_
                  refine ev_iadd (pc' := 188) (v := (((mfill I 125 0 16 (fun k => I 123 (16 * j11 + k))) 123) (((16 * j11) + (4 * n4)) + 0)) + (z * (((mfill I 125 0 16 (fun k => I 123 (16 * j11 + k))) 123) (((16 * j11) + (4 * n2)) + 0)))) dX8_shear_187 rfl rfl ?_
                  exact K24 _ (by rw [if_pos c25])
                · refine ev_aload_n (pc' := 106) (i := 0) dX8_shear_105 rfl rfl rfl ?_
                  refine ev_getR (pc' := 109) fo_X8_37 dX8_shear_106 rfl hs_115 rfl rf_115_13 ?_
                  refine ev_iload (pc' := 111) dX8_shear_109 rfl rfl ?_
                  refine ev_iconst (pc' := 112) (v := 5) dX8_shear_111 rfl ki_5 ?_
                  refine ev_iload_n (pc' := 113) (i := 3) dX8_shear_112 rfl rfl rfl ?_
                  refine ev_imul (pc' := 114) (v := nI (5 * n4)) dX8_shear_113 rfl (pk_mul 5 n4) ?_
                  refine ev_iadd (pc' := 115) (v := nI ((16 * j11) + (5 * n4))) dX8_shear_114 rfl (nI_add (16 * j11) (5 * n4)) ?_
                  refine ev_iald (pc' := 116) (j := (16 * j11) + (5 * n4)) (v := ((mfill I 125 0 16 (fun k => I 123 (16 * j11 + k))) 123) ((16 * j11) + (5 * n4))) dX8_shear_115 rfl hs_123 rfl (by omega) (Nat.le_of_ble_eq_true rfl) rfl ?_
                  refine ev_iconst (pc' := 117) (v := 2) dX8_shear_116 rfl ki_2 ?_
                  refine ev_iload (pc' := 119) dX8_shear_117 rfl rfl ?_
                  refine ev_imul (pc' := 120) (v := 2 * z) dX8_shear_119 rfl rfl ?_
                  refine ev_aload_n (pc' := 121) (i := 0) dX8_shear_120 rfl rfl rfl ?_
                  refine ev_getR (pc' := 124) fo_X8_37 dX8_shear_121 rfl hs_115 rfl rf_115_13 ?_
                  refine ev_iload (pc' := 126) dX8_shear_124 rfl rfl ?_
                  refine ev_iconst (pc' := 127) (v := 4) dX8_shear_126 rfl ki_4 ?_
                  refine ev_iload_n (pc' := 128) (i := 2) dX8_shear_127 rfl rfl rfl ?_
                  refine ev_imul (pc' := 129) (v := nI (4 * n2)) dX8_shear_128 rfl (pk_mul 4 n2) ?_
                  refine ev_iadd (pc' := 130) (v := nI ((16 * j11) + (4 * n2))) dX8_shear_129 rfl (nI_add (16 * j11) (4 * n2)) ?_
                  refine ev_iload_n (pc' := 131) (i := 3) dX8_shear_130 rfl rfl rfl ?_
                  refine ev_iadd (pc' := 132) (v := nI (((16 * j11) + (4 * n2)) + n4)) dX8_shear_131 rfl (nI_add ((16 * j11) + (4 * n2)) n4) ?_
                  refine ev_iald (pc' := 133) (j := ((16 * j11) + (4 * n2)) + n4) (v := ((mfill I 125 0 16 (fun k => I 123 (16 * j11 + k))) 123) (((16 * j11) + (4 * n2)) + n4)) dX8_shear_132 rfl hs_123 rfl (by omega) (Nat.le_of_ble_eq_true rfl) rfl ?_
                  refine ev_imul (pc' := 134) (v := (2 * z) * (((mfill I 125 0 16 (fun k => I 123 (16 * j11 + k))) 123) (((16 * j11) + (4 * n2)) + n4))) dX8_shear_133 rfl rfl ?_
                  refine ev_iadd (pc' := 135) (v := (((mfill I 125 0 16 (fun k => I 123 (16 * j11 + k))) 123) ((16 * j11) + (5 * n4))) + ((2 * z) * (((mfill I 125 0 16 (fun k => I 123 (16 * j11 + k))) 123) (((16 * j11) + (4 * n2)) + n4)))) dX8_shear_134 rfl rfl ?_
                  refine ev_iload (pc' := 137) dX8_shear_135 rfl rfl ?_
                  refine ev_iload (pc' := 139) dX8_shear_137 rfl rfl ?_
                  refine ev_imul (pc' := 140) (v := z * z) dX8_shear_139 rfl rfl ?_
                  refine ev_aload_n (pc' := 141) (i := 0) dX8_shear_140 rfl rfl rfl ?_
                  refine ev_getR (pc' := 144) fo_X8_37 dX8_shear_141 rfl hs_115 rfl rf_115_13 ?_
                  refine ev_iload (pc' := 146) dX8_shear_144 rfl rfl ?_
                  refine ev_iconst (pc' := 147) (v := 5) dX8_shear_146 rfl ki_5 ?_
                  refine ev_iload_n (pc' := 148) (i := 2) dX8_shear_147 rfl rfl rfl ?_
                  refine ev_imul (pc' := 149) (v := nI (5 * n2)) dX8_shear_148 rfl (pk_mul 5 n2) ?_
                  refine ev_iadd (pc' := 150) (v := nI ((16 * j11) + (5 * n2))) dX8_shear_149 rfl (nI_add (16 * j11) (5 * n2)) ?_
                  refine ev_iald (pc' := 151) (j := (16 * j11) + (5 * n2)) (v := ((mfill I 125 0 16 (fun k => I 123 (16 * j11 + k))) 123) ((16 * j11) + (5 * n2))) dX8_shear_150 rfl hs_123 rfl (by omega) (Nat.le_of_ble_eq_true rfl) rfl ?_
                  refine ev_imul (pc' := 152) (v := (z * z) * (((mfill I 125 0 16 (fun k => I 123 (16 * j11 + k))) 123) ((16 * j11) + (5 * n2)))) dX8_shear_151 rfl rfl ?_
                  refine ev_iadd (pc' := 153) (v := ((((mfill I 125 0 16 (fun k => I 123 (16 * j11 + k))) 123) ((16 * j11) + (5 * n4))) + ((2 * z) * (((mfill I 125 0 16 (fun k => I 123 (16 * j11 + k))) 123) (((16 * j11) + (4 * n2)) + n4)))) + ((z * z) * (((mfill I 125 0 16 (fun k => I 123 (16 * j11 + k))) 123) ((16 * j11) + (5 * n2))))) dX8_shear_152 rfl rfl ?_
                  refine ev_goto (tgt := 188) dX8_shear_153 rfl ?_
                  exact K24 _ (by rw [if_neg (not_not_intro c25)])
              intro x23 hx23
              subst hx23
              refine ev_istore (pc' := 190) (lv' := [some (.ref 115), some (.int (nI j11)), some (.int (nI n2)), some (.int (nI n4)), some (.int z), some (.int 0), some (.int (nI (16 * j11))), some (.int 0), some (.int (if ¬ 0 = (nI n4) then ((((mfill I 125 0 16 (fun k => I 123 (16 * j11 + k))) 123) (((16 * j11) + (4 * n4)) + 0)) + (z * (((mfill I 125 0 16 (fun k => I 123 (16 * j11 + k))) 123) (((16 * j11) + (4 * n2)) + 0)))) else (((((mfill I 125 0 16 (fun k => I 123 (16 * j11 + k))) 123) ((16 * j11) + (5 * n4))) + ((2 * z) * (((mfill I 125 0 16 (fun k => I 123 (16 * j11 + k))) 123) (((16 * j11) + (4 * n2)) + n4)))) + ((z * z) * (((mfill I 125 0 16 (fun k => I 123 (16 * j11 + k))) 123) ((16 * j11) + (5 * n2)))))))]) dX8_shear_188 rfl (Nat.le_of_ble_eq_true rfl) rfl rfl ?_
              refine ev_aload_n (pc' := 191) (i := 0) dX8_shear_190 rfl rfl rfl ?_
              refine ev_getR (pc' := 194) fo_X8_43 dX8_shear_191 rfl hs_115 rfl rf_115_15 ?_
              refine ev_iconst (pc' := 195) (v := 4) dX8_shear_194 rfl ki_4 ?_
              refine ev_iload_n (pc' := 196) (i := 3) dX8_shear_195 rfl rfl rfl ?_
              refine ev_imul (pc' := 197) (v := nI (4 * n4)) dX8_shear_196 rfl (pk_mul 4 n4) ?_
              refine ev_iload (pc' := 199) dX8_shear_197 rfl rfl ?_
              refine ev_iadd (pc' := 200) (v := nI ((4 * n4) + 0)) dX8_shear_199 rfl (nI_add (4 * n4) 0) ?_
              refine ev_iload (pc' := 202) dX8_shear_200 rfl rfl ?_
              refine ev_iast (pc' := 203) (j := (4 * n4) + 0) (I' := (ma_up (mfill I 125 0 16 (fun k => I 123 (16 * j11 + k))) 125 (ma_up ((mfill I 125 0 16 (fun k => I 123 (16 * j11 + k))) 125) ((4 * n4) + 0) (if ¬ 0 = (nI n4) then ((((mfill I 125 0 16 (fun k => I 123 (16 * j11 + k))) 123) (((16 * j11) + (4 * n4)) + 0)) + (z * (((mfill I 125 0 16 (fun k => I 123 (16 * j11 + k))) 123) (((16 * j11) + (4 * n2)) + 0)))) else (((((mfill I 125 0 16 (fun k => I 123 (16 * j11 + k))) 123) ((16 * j11) + (5 * n4))) + ((2 * z) * (((mfill I 125 0 16 (fun k => I 123 (16 * j11 + k))) 123) (((16 * j11) + (4 * n2)) + n4)))) + ((z * z) * (((mfill I 125 0 16 (fun k => I 123 (16 * j11 + k))) 123) ((16 * j11) + (5 * n2))))))))) dX8_shear_202 rfl hs_125 rfl (by omega) (Nat.le_of_ble_eq_true rfl) rfl ?_
              refine ev_aload_n (pc' := 204) (i := 0) dX8_shear_203 rfl rfl rfl ?_
              refine ev_getR (pc' := 207) fo_X8_43 dX8_shear_204 rfl hs_115 rfl rf_115_15 ?_
              refine ev_iconst (pc' := 208) (v := 4) dX8_shear_207 rfl ki_4 ?_
              refine ev_iload (pc' := 210) dX8_shear_208 rfl rfl ?_
              refine ev_imul (pc' := 211) (v := 0) dX8_shear_210 rfl (by decide) ?_
              refine ev_iload_n (pc' := 212) (i := 3) dX8_shear_211 rfl rfl rfl ?_
              refine ev_iadd (pc' := 213) (v := nI (0 + n4)) dX8_shear_212 rfl (nI_add 0 n4) ?_
              refine ev_iload (pc' := 215) dX8_shear_213 rfl rfl ?_
              refine ev_iast (pc' := 216) (j := 0 + n4) (I' := (ma_up (mfill I 125 0 16 (fun k => I 123 (16 * j11 + k))) 125 (ma_up (ma_up ((mfill I 125 0 16 (fun k => I 123 (16 * j11 + k))) 125) ((4 * n4) + 0) (if ¬ 0 = (nI n4) then ((((mfill I 125 0 16 (fun k => I 123 (16 * j11 + k))) 123) (((16 * j11) + (4 * n4)) + 0)) + (z * (((mfill I 125 0 16 (fun k => I 123 (16 * j11 + k))) 123) (((16 * j11) + (4 * n2)) + 0)))) else (((((mfill I 125 0 16 (fun k => I 123 (16 * j11 + k))) 123) ((16 * j11) + (5 * n4))) + ((2 * z) * (((mfill I 125 0 16 (fun k => I 123 (16 * j11 + k))) 123) (((16 * j11) + (4 * n2)) + n4)))) + ((z * z) * (((mfill I 125 0 16 (fun k => I 123 (16 * j11 + k))) 123) ((16 * j11) + (5 * n2))))))) (0 + n4) (if ¬ 0 = (nI n4) then ((((mfill I 125 0 16 (fun k => I 123 (16 * j11 + k))) 123) (((16 * j11) + (4 * n4)) + 0)) + (z * (((mfill I 125 0 16 (fun k => I 123 (16 * j11 + k))) 123) (((16 * j11) + (4 * n2)) + 0)))) else (((((mfill I 125 0 16 (fun k => I 123 (16 * j11 + k))) 123) ((16 * j11) + (5 * n4))) + ((2 * z) * (((mfill I 125 0 16 (fun k => I 123 (16 * j11 + k))) 123) (((16 * j11) + (4 * n2)) + n4)))) + ((z * z) * (((mfill I 125 0 16 (fun k => I 123 (16 * j11 + k))) 123) ((16 * j11) + (5 * n2))))))))) dX8_shear_215 rfl hs_125 rfl (by omega) (Nat.le_of_ble_eq_true rfl) (ma_up_up _ _ _ _) ?_
              refine ev_iinc (pc' := 219) (v := 1) (lv' := [some (.ref 115), some (.int (nI j11)), some (.int (nI n2)), some (.int (nI n4)), some (.int z), some (.int 0), some (.int (nI (16 * j11))), some (.int 1), some (.int (if ¬ 0 = (nI n4) then ((((mfill I 125 0 16 (fun k => I 123 (16 * j11 + k))) 123) (((16 * j11) + (4 * n4)) + 0)) + (z * (((mfill I 125 0 16 (fun k => I 123 (16 * j11 + k))) 123) (((16 * j11) + (4 * n2)) + 0)))) else (((((mfill I 125 0 16 (fun k => I 123 (16 * j11 + k))) 123) ((16 * j11) + (5 * n4))) + ((2 * z) * (((mfill I 125 0 16 (fun k => I 123 (16 * j11 + k))) 123) (((16 * j11) + (4 * n2)) + n4)))) + ((z * z) * (((mfill I 125 0 16 (fun k => I 123 (16 * j11 + k))) 123) ((16 * j11) + (5 * n2)))))))]) dX8_shear_216 rfl rfl (by decide) (Nat.le_of_ble_eq_true rfl) rfl rfl ?_
              refine ev_goto (tgt := 93) dX8_shear_219 rfl ?_
              refine ev_iload (pc' := 95) dX8_shear_93 rfl rfl ?_
              refine ev_iconst (pc' := 96) (v := 4) dX8_shear_95 rfl ki_4 ?_
              refine ev_icmp_ge (tgt := 222) (pc' := 99) dX8_shear_96 rfl rfl (fun h => absurd h (by decide)) (fun _ => ?_)
              refine ev_iload (pc' := 101) dX8_shear_99 rfl rfl ?_
              refine ev_iload_n (pc' := 102) (i := 3) dX8_shear_101 rfl rfl rfl ?_
              suffices K28 : ∀ x27 : Int32, x27 = (if ¬ 1 = (nI n4) then ((((mfill I 125 0 16 (fun k => I 123 (16 * j11 + k))) 123) (((16 * j11) + (4 * n4)) + 1)) + (z * (((mfill I 125 0 16 (fun k => I 123 (16 * j11 + k))) 123) (((16 * j11) + (4 * n2)) + 1)))) else (((((mfill I 125 0 16 (fun k => I 123 (16 * j11 + k))) 123) ((16 * j11) + (5 * n4))) + ((2 * z) * (((mfill I 125 0 16 (fun k => I 123 (16 * j11 + k))) 123) (((16 * j11) + (4 * n2)) + n4)))) + ((z * z) * (((mfill I 125 0 16 (fun k => I 123 (16 * j11 + k))) 123) ((16 * j11) + (5 * n2)))))) → EV g yX8_shear cX8_shear 9 (some .int) rX8_shear (ma_ZM g rX8_shear Post) 188 [some (.ref 115), some (.int (nI j11)), some (.int (nI n2)), some (.int (nI n4)), some (.int z), some (.int 0), some (.int (nI (16 * j11))), some (.int 1), some (.int (if ¬ 0 = (nI n4) then ((((mfill I 125 0 16 (fun k => I 123 (16 * j11 + k))) 123) (((16 * j11) + (4 * n4)) + 0)) + (z * (((mfill I 125 0 16 (fun k => I 123 (16 * j11 + k))) 123) (((16 * j11) + (4 * n2)) + 0)))) else (((((mfill I 125 0 16 (fun k => I 123 (16 * j11 + k))) 123) ((16 * j11) + (5 * n4))) + ((2 * z) * (((mfill I 125 0 16 (fun k => I 123 (16 * j11 + k))) 123) (((16 * j11) + (4 * n2)) + n4)))) + ((z * z) * (((mfill I 125 0 16 (fun k => I 123 (16 * j11 + k))) 123) ((16 * j11) + (5 * n2)))))))] [.int x27] HS (ma_up (mfill I 125 0 16 (fun k => I 123 (16 * j11 + k))) 125 (ma_up (ma_up ((mfill I 125 0 16 (fun k => I 123 (16 * j11 + k))) 125) ((4 * n4) + 0) (if ¬ 0 = (nI n4) then ((((mfill I 125 0 16 (fun k => I 123 (16 * j11 + k))) 123) (((16 * j11) + (4 * n4)) + 0)) + (z * (((mfill I 125 0 16 (fun k => I 123 (16 * j11 + k))) 123) (((16 * j11) + (4 * n2)) + 0)))) else (((((mfill I 125 0 16 (fun k => I 123 (16 * j11 + k))) 123) ((16 * j11) + (5 * n4))) + ((2 * z) * (((mfill I 125 0 16 (fun k => I 123 (16 * j11 + k))) 123) (((16 * j11) + (4 * n2)) + n4)))) + ((z * z) * (((mfill I 125 0 16 (fun k => I 123 (16 * j11 + k))) 123) ((16 * j11) + (5 * n2))))))) (0 + n4) (if ¬ 0 = (nI n4) then ((((mfill I 125 0 16 (fun k => I 123 (16 * j11 + k))) 123) (((16 * j11) + (4 * n4)) + 0)) + (z * (((mfill I 125 0 16 (fun k => I 123 (16 * j11 + k))) 123) (((16 * j11) + (4 * n2)) + 0)))) else (((((mfill I 125 0 16 (fun k => I 123 (16 * j11 + k))) 123) ((16 * j11) + (5 * n4))) + ((2 * z) * (((mfill I 125 0 16 (fun k => I 123 (16 * j11 + k))) 123) (((16 * j11) + (4 * n2)) + n4)))) + ((z * z) * (((mfill I 125 0 16 (fun k => I 123 (16 * j11 + k))) 123) ((16 * j11) + (5 * n2)))))))) L RF 146 0 0 by
                refine ev_icmp_ne (tgt := 156) (pc' := 105) dX8_shear_102 rfl rfl (fun c29 => ?_) (fun c29 => ?_)
                · refine ev_aload_n (pc' := 157) (i := 0) dX8_shear_156 rfl rfl rfl ?_
                  refine ev_getR (pc' := 160) fo_X8_37 dX8_shear_157 rfl hs_115 rfl rf_115_13 ?_
                  refine ev_iload (pc' := 162) dX8_shear_160 rfl rfl ?_
                  refine ev_iconst (pc' := 163) (v := 4) dX8_shear_162 rfl ki_4 ?_
                  refine ev_iload_n (pc' := 164) (i := 3) dX8_shear_163 rfl rfl rfl ?_
                  refine ev_imul (pc' := 165) (v := nI (4 * n4)) dX8_shear_164 rfl (pk_mul 4 n4) ?_
                  refine ev_iadd (pc' := 166) (v := nI ((16 * j11) + (4 * n4))) dX8_shear_165 rfl (nI_add (16 * j11) (4 * n4)) ?_
                  refine ev_iload (pc' := 168) dX8_shear_166 rfl rfl ?_
                  refine ev_iadd (pc' := 169) (v := nI (((16 * j11) + (4 * n4)) + 1)) dX8_shear_168 rfl (nI_add ((16 * j11) + (4 * n4)) 1) ?_
                  refine ev_iald (pc' := 170) (j := ((16 * j11) + (4 * n4)) + 1) (v := ((mfill I 125 0 16 (fun k => I 123 (16 * j11 + k))) 123) (((16 * j11) + (4 * n4)) + 1)) dX8_shear_169 rfl hs_123 rfl (by omega) (Nat.le_of_ble_eq_true rfl) rfl ?_
                  refine ev_iload (pc' := 172) dX8_shear_170 rfl rfl ?_
                  refine ev_aload_n (pc' := 173) (i := 0) dX8_shear_172 rfl rfl rfl ?_
                  refine ev_getR (pc' := 176) fo_X8_37 dX8_shear_173 rfl hs_115 rfl rf_115_13 ?_
                  refine ev_iload (pc' := 178) dX8_shear_176 rfl rfl ?_
                  refine ev_iconst (pc' := 179) (v := 4) dX8_shear_178 rfl ki_4 ?_
                  refine ev_iload_n (pc' := 180) (i := 2) dX8_shear_179 rfl rfl rfl ?_
                  refine ev_imul (pc' := 181) (v := nI (4 * n2)) dX8_shear_180 rfl (pk_mul 4 n2) ?_
                  refine ev_iadd (pc' := 182) (v := nI ((16 * j11) + (4 * n2))) dX8_shear_181 rfl (nI_add (16 * j11) (4 * n2)) ?_
                  refine ev_iload (pc' := 184) dX8_shear_182 rfl rfl ?_
                  refine ev_iadd (pc' := 185) (v := nI (((16 * j11) + (4 * n2)) + 1)) dX8_shear_184 rfl (nI_add ((16 * j11) + (4 * n2)) 1) ?_
                  refine ev_iald (pc' := 186) (j := ((16 * j11) + (4 * n2)) + 1) (v := ((mfill I 125 0 16 (fun k => I 123 (16 * j11 + k))) 123) (((16 * j11) + (4 * n2)) + 1)) dX8_shear_185 rfl hs_123 rfl (by omega) (Nat.le_of_ble_eq_true rfl) rfl ?_
                  refine ev_imul (pc' := 187) (v := z * (((mfill I 125 0 16 (fun k => I 123 (16 * j11 + k))) 123) (((16 * j11) + (4 * n2)) + 1))) dX8_shear_186 rfl rfl ?_
                  refine ev_iadd (pc' := 188) (v := (((mfill I 125 0 16 (fun k => I 123 (16 * j11 + k))) 123) (((16 * j11) + (4 * n4)) + 1)) + (z * (((mfill I 125 0 16 (fun k => I 123 (16 * j11 + k))) 123) (((16 * j11) + (4 * n2)) + 1)))) dX8_shear_187 rfl rfl ?_
                  exact K28 _ (by rw [if_pos c29])
                · refine ev_aload_n (pc' := 106) (i := 0) dX8_shear_105 rfl rfl rfl ?_
                  refine ev_getR (pc' := 109) fo_X8_37 dX8_shear_106 rfl hs_115 rfl rf_115_13 ?_
                  refine ev_iload (pc' := 111) dX8_shear_109 rfl rfl ?_
                  refine ev_iconst (pc' := 112) (v := 5) dX8_shear_111 rfl ki_5 ?_
                  refine ev_iload_n (pc' := 113) (i := 3) dX8_shear_112 rfl rfl rfl ?_
                  refine ev_imul (pc' := 114) (v := nI (5 * n4)) dX8_shear_113 rfl (pk_mul 5 n4) ?_
                  refine ev_iadd (pc' := 115) (v := nI ((16 * j11) + (5 * n4))) dX8_shear_114 rfl (nI_add (16 * j11) (5 * n4)) ?_
                  refine ev_iald (pc' := 116) (j := (16 * j11) + (5 * n4)) (v := ((mfill I 125 0 16 (fun k => I 123 (16 * j11 + k))) 123) ((16 * j11) + (5 * n4))) dX8_shear_115 rfl hs_123 rfl (by omega) (Nat.le_of_ble_eq_true rfl) rfl ?_
                  refine ev_iconst (pc' := 117) (v := 2) dX8_shear_116 rfl ki_2 ?_
                  refine ev_iload (pc' := 119) dX8_shear_117 rfl rfl ?_
                  refine ev_imul (pc' := 120) (v := 2 * z) dX8_shear_119 rfl rfl ?_
                  refine ev_aload_n (pc' := 121) (i := 0) dX8_shear_120 rfl rfl rfl ?_
                  refine ev_getR (pc' := 124) fo_X8_37 dX8_shear_121 rfl hs_115 rfl rf_115_13 ?_
                  refine ev_iload (pc' := 126) dX8_shear_124 rfl rfl ?_
                  refine ev_iconst (pc' := 127) (v := 4) dX8_shear_126 rfl ki_4 ?_
                  refine ev_iload_n (pc' := 128) (i := 2) dX8_shear_127 rfl rfl rfl ?_
                  refine ev_imul (pc' := 129) (v := nI (4 * n2)) dX8_shear_128 rfl (pk_mul 4 n2) ?_
                  refine ev_iadd (pc' := 130) (v := nI ((16 * j11) + (4 * n2))) dX8_shear_129 rfl (nI_add (16 * j11) (4 * n2)) ?_
                  refine ev_iload_n (pc' := 131) (i := 3) dX8_shear_130 rfl rfl rfl ?_
                  refine ev_iadd (pc' := 132) (v := nI (((16 * j11) + (4 * n2)) + n4)) dX8_shear_131 rfl (nI_add ((16 * j11) + (4 * n2)) n4) ?_
                  refine ev_iald (pc' := 133) (j := ((16 * j11) + (4 * n2)) + n4) (v := ((mfill I 125 0 16 (fun k => I 123 (16 * j11 + k))) 123) (((16 * j11) + (4 * n2)) + n4)) dX8_shear_132 rfl hs_123 rfl (by omega) (Nat.le_of_ble_eq_true rfl) rfl ?_
                  refine ev_imul (pc' := 134) (v := (2 * z) * (((mfill I 125 0 16 (fun k => I 123 (16 * j11 + k))) 123) (((16 * j11) + (4 * n2)) + n4))) dX8_shear_133 rfl rfl ?_
                  refine ev_iadd (pc' := 135) (v := (((mfill I 125 0 16 (fun k => I 123 (16 * j11 + k))) 123) ((16 * j11) + (5 * n4))) + ((2 * z) * (((mfill I 125 0 16 (fun k => I 123 (16 * j11 + k))) 123) (((16 * j11) + (4 * n2)) + n4)))) dX8_shear_134 rfl rfl ?_
                  refine ev_iload (pc' := 137) dX8_shear_135 rfl rfl ?_
                  refine ev_iload (pc' := 139) dX8_shear_137 rfl rfl ?_
                  refine ev_imul (pc' := 140) (v := z * z) dX8_shear_139 rfl rfl ?_
                  refine ev_aload_n (pc' := 141) (i := 0) dX8_shear_140 rfl rfl rfl ?_
                  refine ev_getR (pc' := 144) fo_X8_37 dX8_shear_141 rfl hs_115 rfl rf_115_13 ?_
                  refine ev_iload (pc' := 146) dX8_shear_144 rfl rfl ?_
                  refine ev_iconst (pc' := 147) (v := 5) dX8_shear_146 rfl ki_5 ?_
                  refine ev_iload_n (pc' := 148) (i := 2) dX8_shear_147 rfl rfl rfl ?_
                  refine ev_imul (pc' := 149) (v := nI (5 * n2)) dX8_shear_148 rfl (pk_mul 5 n2) ?_
                  refine ev_iadd (pc' := 150) (v := nI ((16 * j11) + (5 * n2))) dX8_shear_149 rfl (nI_add (16 * j11) (5 * n2)) ?_
                  refine ev_iald (pc' := 151) (j := (16 * j11) + (5 * n2)) (v := ((mfill I 125 0 16 (fun k => I 123 (16 * j11 + k))) 123) ((16 * j11) + (5 * n2))) dX8_shear_150 rfl hs_123 rfl (by omega) (Nat.le_of_ble_eq_true rfl) rfl ?_
                  refine ev_imul (pc' := 152) (v := (z * z) * (((mfill I 125 0 16 (fun k => I 123 (16 * j11 + k))) 123) ((16 * j11) + (5 * n2)))) dX8_shear_151 rfl rfl ?_
                  refine ev_iadd (pc' := 153) (v := ((((mfill I 125 0 16 (fun k => I 123 (16 * j11 + k))) 123) ((16 * j11) + (5 * n4))) + ((2 * z) * (((mfill I 125 0 16 (fun k => I 123 (16 * j11 + k))) 123) (((16 * j11) + (4 * n2)) + n4)))) + ((z * z) * (((mfill I 125 0 16 (fun k => I 123 (16 * j11 + k))) 123) ((16 * j11) + (5 * n2))))) dX8_shear_152 rfl rfl ?_
                  refine ev_goto (tgt := 188) dX8_shear_153 rfl ?_
                  exact K28 _ (by rw [if_neg (not_not_intro c29)])
              intro x27 hx27
              subst hx27
              refine ev_istore (pc' := 190) (lv' := [some (.ref 115), some (.int (nI j11)), some (.int (nI n2)), some (.int (nI n4)), some (.int z), some (.int 0), some (.int (nI (16 * j11))), some (.int 1), some (.int (if ¬ 1 = (nI n4) then ((((mfill I 125 0 16 (fun k => I 123 (16 * j11 + k))) 123) (((16 * j11) + (4 * n4)) + 1)) + (z * (((mfill I 125 0 16 (fun k => I 123 (16 * j11 + k))) 123) (((16 * j11) + (4 * n2)) + 1)))) else (((((mfill I 125 0 16 (fun k => I 123 (16 * j11 + k))) 123) ((16 * j11) + (5 * n4))) + ((2 * z) * (((mfill I 125 0 16 (fun k => I 123 (16 * j11 + k))) 123) (((16 * j11) + (4 * n2)) + n4)))) + ((z * z) * (((mfill I 125 0 16 (fun k => I 123 (16 * j11 + k))) 123) ((16 * j11) + (5 * n2)))))))]) dX8_shear_188 rfl (Nat.le_of_ble_eq_true rfl) rfl rfl ?_
              refine ev_aload_n (pc' := 191) (i := 0) dX8_shear_190 rfl rfl rfl ?_
              refine ev_getR (pc' := 194) fo_X8_43 dX8_shear_191 rfl hs_115 rfl rf_115_15 ?_
              refine ev_iconst (pc' := 195) (v := 4) dX8_shear_194 rfl ki_4 ?_
              refine ev_iload_n (pc' := 196) (i := 3) dX8_shear_195 rfl rfl rfl ?_
              refine ev_imul (pc' := 197) (v := nI (4 * n4)) dX8_shear_196 rfl (pk_mul 4 n4) ?_
              refine ev_iload (pc' := 199) dX8_shear_197 rfl rfl ?_
              refine ev_iadd (pc' := 200) (v := nI ((4 * n4) + 1)) dX8_shear_199 rfl (nI_add (4 * n4) 1) ?_
              refine ev_iload (pc' := 202) dX8_shear_200 rfl rfl ?_
              refine ev_iast (pc' := 203) (j := (4 * n4) + 1) (I' := (ma_up (mfill I 125 0 16 (fun k => I 123 (16 * j11 + k))) 125 (ma_up (ma_up (ma_up ((mfill I 125 0 16 (fun k => I 123 (16 * j11 + k))) 125) ((4 * n4) + 0) (if ¬ 0 = (nI n4) then ((((mfill I 125 0 16 (fun k => I 123 (16 * j11 + k))) 123) (((16 * j11) + (4 * n4)) + 0)) + (z * (((mfill I 125 0 16 (fun k => I 123 (16 * j11 + k))) 123) (((16 * j11) + (4 * n2)) + 0)))) else (((((mfill I 125 0 16 (fun k => I 123 (16 * j11 + k))) 123) ((16 * j11) + (5 * n4))) + ((2 * z) * (((mfill I 125 0 16 (fun k => I 123 (16 * j11 + k))) 123) (((16 * j11) + (4 * n2)) + n4)))) + ((z * z) * (((mfill I 125 0 16 (fun k => I 123 (16 * j11 + k))) 123) ((16 * j11) + (5 * n2))))))) (0 + n4) (if ¬ 0 = (nI n4) then ((((mfill I 125 0 16 (fun k => I 123 (16 * j11 + k))) 123) (((16 * j11) + (4 * n4)) + 0)) + (z * (((mfill I 125 0 16 (fun k => I 123 (16 * j11 + k))) 123) (((16 * j11) + (4 * n2)) + 0)))) else (((((mfill I 125 0 16 (fun k => I 123 (16 * j11 + k))) 123) ((16 * j11) + (5 * n4))) + ((2 * z) * (((mfill I 125 0 16 (fun k => I 123 (16 * j11 + k))) 123) (((16 * j11) + (4 * n2)) + n4)))) + ((z * z) * (((mfill I 125 0 16 (fun k => I 123 (16 * j11 + k))) 123) ((16 * j11) + (5 * n2))))))) ((4 * n4) + 1) (if ¬ 1 = (nI n4) then ((((mfill I 125 0 16 (fun k => I 123 (16 * j11 + k))) 123) (((16 * j11) + (4 * n4)) + 1)) + (z * (((mfill I 125 0 16 (fun k => I 123 (16 * j11 + k))) 123) (((16 * j11) + (4 * n2)) + 1)))) else (((((mfill I 125 0 16 (fun k => I 123 (16 * j11 + k))) 123) ((16 * j11) + (5 * n4))) + ((2 * z) * (((mfill I 125 0 16 (fun k => I 123 (16 * j11 + k))) 123) (((16 * j11) + (4 * n2)) + n4)))) + ((z * z) * (((mfill I 125 0 16 (fun k => I 123 (16 * j11 + k))) 123) ((16 * j11) + (5 * n2))))))))) dX8_shear_202 rfl hs_125 rfl (by omega) (Nat.le_of_ble_eq_true rfl) (ma_up_up _ _ _ _) ?_
              refine ev_aload_n (pc' := 204) (i := 0) dX8_shear_203 rfl rfl rfl ?_
              refine ev_getR (pc' := 207) fo_X8_43 dX8_shear_204 rfl hs_115 rfl rf_115_15 ?_
              refine ev_iconst (pc' := 208) (v := 4) dX8_shear_207 rfl ki_4 ?_
              refine ev_iload (pc' := 210) dX8_shear_208 rfl rfl ?_
              refine ev_imul (pc' := 211) (v := 4) dX8_shear_210 rfl (by decide) ?_
              refine ev_iload_n (pc' := 212) (i := 3) dX8_shear_211 rfl rfl rfl ?_
              refine ev_iadd (pc' := 213) (v := nI (4 + n4)) dX8_shear_212 rfl (nI_add 4 n4) ?_
              refine ev_iload (pc' := 215) dX8_shear_213 rfl rfl ?_
              refine ev_iast (pc' := 216) (j := 4 + n4) (I' := (ma_up (mfill I 125 0 16 (fun k => I 123 (16 * j11 + k))) 125 (ma_up (ma_up (ma_up (ma_up ((mfill I 125 0 16 (fun k => I 123 (16 * j11 + k))) 125) ((4 * n4) + 0) (if ¬ 0 = (nI n4) then ((((mfill I 125 0 16 (fun k => I 123 (16 * j11 + k))) 123) (((16 * j11) + (4 * n4)) + 0)) + (z * (((mfill I 125 0 16 (fun k => I 123 (16 * j11 + k))) 123) (((16 * j11) + (4 * n2)) + 0)))) else (((((mfill I 125 0 16 (fun k => I 123 (16 * j11 + k))) 123) ((16 * j11) + (5 * n4))) + ((2 * z) * (((mfill I 125 0 16 (fun k => I 123 (16 * j11 + k))) 123) (((16 * j11) + (4 * n2)) + n4)))) + ((z * z) * (((mfill I 125 0 16 (fun k => I 123 (16 * j11 + k))) 123) ((16 * j11) + (5 * n2))))))) (0 + n4) (if ¬ 0 = (nI n4) then ((((mfill I 125 0 16 (fun k => I 123 (16 * j11 + k))) 123) (((16 * j11) + (4 * n4)) + 0)) + (z * (((mfill I 125 0 16 (fun k => I 123 (16 * j11 + k))) 123) (((16 * j11) + (4 * n2)) + 0)))) else (((((mfill I 125 0 16 (fun k => I 123 (16 * j11 + k))) 123) ((16 * j11) + (5 * n4))) + ((2 * z) * (((mfill I 125 0 16 (fun k => I 123 (16 * j11 + k))) 123) (((16 * j11) + (4 * n2)) + n4)))) + ((z * z) * (((mfill I 125 0 16 (fun k => I 123 (16 * j11 + k))) 123) ((16 * j11) + (5 * n2))))))) ((4 * n4) + 1) (if ¬ 1 = (nI n4) then ((((mfill I 125 0 16 (fun k => I 123 (16 * j11 + k))) 123) (((16 * j11) + (4 * n4)) + 1)) + (z * (((mfill I 125 0 16 (fun k => I 123 (16 * j11 + k))) 123) (((16 * j11) + (4 * n2)) + 1)))) else (((((mfill I 125 0 16 (fun k => I 123 (16 * j11 + k))) 123) ((16 * j11) + (5 * n4))) + ((2 * z) * (((mfill I 125 0 16 (fun k => I 123 (16 * j11 + k))) 123) (((16 * j11) + (4 * n2)) + n4)))) + ((z * z) * (((mfill I 125 0 16 (fun k => I 123 (16 * j11 + k))) 123) ((16 * j11) + (5 * n2))))))) (4 + n4) (if ¬ 1 = (nI n4) then ((((mfill I 125 0 16 (fun k => I 123 (16 * j11 + k))) 123) (((16 * j11) + (4 * n4)) + 1)) + (z * (((mfill I 125 0 16 (fun k => I 123 (16 * j11 + k))) 123) (((16 * j11) + (4 * n2)) + 1)))) else (((((mfill I 125 0 16 (fun k => I 123 (16 * j11 + k))) 123) ((16 * j11) + (5 * n4))) + ((2 * z) * (((mfill I 125 0 16 (fun k => I 123 (16 * j11 + k))) 123) (((16 * j11) + (4 * n2)) + n4)))) + ((z * z) * (((mfill I 125 0 16 (fun k => I 123 (16 * j11 + k))) 123) ((16 * j11) + (5 * n2))))))))) dX8_shear_215 rfl hs_125 rfl (by omega) (Nat.le_of_ble_eq_true rfl) (ma_up_up _ _ _ _) ?_
              refine ev_iinc (pc' := 219) (v := 2) (lv' := [some (.ref 115), some (.int (nI j11)), some (.int (nI n2)), some (.int (nI n4)), some (.int z), some (.int 0), some (.int (nI (16 * j11))), some (.int 2), some (.int (if ¬ 1 = (nI n4) then ((((mfill I 125 0 16 (fun k => I 123 (16 * j11 + k))) 123) (((16 * j11) + (4 * n4)) + 1)) + (z * (((mfill I 125 0 16 (fun k => I 123 (16 * j11 + k))) 123) (((16 * j11) + (4 * n2)) + 1)))) else (((((mfill I 125 0 16 (fun k => I 123 (16 * j11 + k))) 123) ((16 * j11) + (5 * n4))) + ((2 * z) * (((mfill I 125 0 16 (fun k => I 123 (16 * j11 + k))) 123) (((16 * j11) + (4 * n2)) + n4)))) + ((z * z) * (((mfill I 125 0 16 (fun k => I 123 (16 * j11 + k))) 123) ((16 * j11) + (5 * n2)))))))]) dX8_shear_216 rfl rfl (by decide) (Nat.le_of_ble_eq_true rfl) rfl rfl ?_
              refine ev_goto (tgt := 93) dX8_shear_219 rfl ?_
              refine ev_iload (pc' := 95) dX8_shear_93 rfl rfl ?_
              refine ev_iconst (pc' := 96) (v := 4) dX8_shear_95 rfl ki_4 ?_
              refine ev_icmp_ge (tgt := 222) (pc' := 99) dX8_shear_96 rfl rfl (fun h => absurd h (by decide)) (fun _ => ?_)
              refine ev_iload (pc' := 101) dX8_shear_99 rfl rfl ?_
              refine ev_iload_n (pc' := 102) (i := 3) dX8_shear_101 rfl rfl rfl ?_
              suffices K32 : ∀ x31 : Int32, x31 = (if ¬ 2 = (nI n4) then ((((mfill I 125 0 16 (fun k => I 123 (16 * j11 + k))) 123) (((16 * j11) + (4 * n4)) + 2)) + (z * (((mfill I 125 0 16 (fun k => I 123 (16 * j11 + k))) 123) (((16 * j11) + (4 * n2)) + 2)))) else (((((mfill I 125 0 16 (fun k => I 123 (16 * j11 + k))) 123) ((16 * j11) + (5 * n4))) + ((2 * z) * (((mfill I 125 0 16 (fun k => I 123 (16 * j11 + k))) 123) (((16 * j11) + (4 * n2)) + n4)))) + ((z * z) * (((mfill I 125 0 16 (fun k => I 123 (16 * j11 + k))) 123) ((16 * j11) + (5 * n2)))))) → EV g yX8_shear cX8_shear 9 (some .int) rX8_shear (ma_ZM g rX8_shear Post) 188 [some (.ref 115), some (.int (nI j11)), some (.int (nI n2)), some (.int (nI n4)), some (.int z), some (.int 0), some (.int (nI (16 * j11))), some (.int 2), some (.int (if ¬ 1 = (nI n4) then ((((mfill I 125 0 16 (fun k => I 123 (16 * j11 + k))) 123) (((16 * j11) + (4 * n4)) + 1)) + (z * (((mfill I 125 0 16 (fun k => I 123 (16 * j11 + k))) 123) (((16 * j11) + (4 * n2)) + 1)))) else (((((mfill I 125 0 16 (fun k => I 123 (16 * j11 + k))) 123) ((16 * j11) + (5 * n4))) + ((2 * z) * (((mfill I 125 0 16 (fun k => I 123 (16 * j11 + k))) 123) (((16 * j11) + (4 * n2)) + n4)))) + ((z * z) * (((mfill I 125 0 16 (fun k => I 123 (16 * j11 + k))) 123) ((16 * j11) + (5 * n2)))))))] [.int x31] HS (ma_up (mfill I 125 0 16 (fun k => I 123 (16 * j11 + k))) 125 (ma_up (ma_up (ma_up (ma_up ((mfill I 125 0 16 (fun k => I 123 (16 * j11 + k))) 125) ((4 * n4) + 0) (if ¬ 0 = (nI n4) then ((((mfill I 125 0 16 (fun k => I 123 (16 * j11 + k))) 123) (((16 * j11) + (4 * n4)) + 0)) + (z * (((mfill I 125 0 16 (fun k => I 123 (16 * j11 + k))) 123) (((16 * j11) + (4 * n2)) + 0)))) else (((((mfill I 125 0 16 (fun k => I 123 (16 * j11 + k))) 123) ((16 * j11) + (5 * n4))) + ((2 * z) * (((mfill I 125 0 16 (fun k => I 123 (16 * j11 + k))) 123) (((16 * j11) + (4 * n2)) + n4)))) + ((z * z) * (((mfill I 125 0 16 (fun k => I 123 (16 * j11 + k))) 123) ((16 * j11) + (5 * n2))))))) (0 + n4) (if ¬ 0 = (nI n4) then ((((mfill I 125 0 16 (fun k => I 123 (16 * j11 + k))) 123) (((16 * j11) + (4 * n4)) + 0)) + (z * (((mfill I 125 0 16 (fun k => I 123 (16 * j11 + k))) 123) (((16 * j11) + (4 * n2)) + 0)))) else (((((mfill I 125 0 16 (fun k => I 123 (16 * j11 + k))) 123) ((16 * j11) + (5 * n4))) + ((2 * z) * (((mfill I 125 0 16 (fun k => I 123 (16 * j11 + k))) 123) (((16 * j11) + (4 * n2)) + n4)))) + ((z * z) * (((mfill I 125 0 16 (fun k => I 123 (16 * j11 + k))) 123) ((16 * j11) + (5 * n2))))))) ((4 * n4) + 1) (if ¬ 1 = (nI n4) then ((((mfill I 125 0 16 (fun k => I 123 (16 * j11 + k))) 123) (((16 * j11) + (4 * n4)) + 1)) + (z * (((mfill I 125 0 16 (fun k => I 123 (16 * j11 + k))) 123) (((16 * j11) + (4 * n2)) + 1)))) else (((((mfill I 125 0 16 (fun k => I 123 (16 * j11 + k))) 123) ((16 * j11) + (5 * n4))) + ((2 * z) * (((mfill I 125 0 16 (fun k => I 123 (16 * j11 + k))) 123) (((16 * j11) + (4 * n2)) + n4)))) + ((z * z) * (((mfill I 125 0 16 (fun k => I 123 (16 * j11 + k))) 123) ((16 * j11) + (5 * n2))))))) (4 + n4) (if ¬ 1 = (nI n4) then ((((mfill I 125 0 16 (fun k => I 123 (16 * j11 + k))) 123) (((16 * j11) + (4 * n4)) + 1)) + (z * (((mfill I 125 0 16 (fun k => I 123 (16 * j11 + k))) 123) (((16 * j11) + (4 * n2)) + 1)))) else (((((mfill I 125 0 16 (fun k => I 123 (16 * j11 + k))) 123) ((16 * j11) + (5 * n4))) + ((2 * z) * (((mfill I 125 0 16 (fun k => I 123 (16 * j11 + k))) 123) (((16 * j11) + (4 * n2)) + n4)))) + ((z * z) * (((mfill I 125 0 16 (fun k => I 123 (16 * j11 + k))) 123) ((16 * j11) + (5 * n2)))))))) L RF 146 0 0 by
                refine ev_icmp_ne (tgt := 156) (pc' := 105) dX8_shear_102 rfl rfl (fun c33 => ?_) (fun c33 => ?_)
                · refine ev_aload_n (pc' := 157) (i := 0) dX8_shear_156 rfl rfl rfl ?_
                  refine ev_getR (pc' := 160) fo_X8_37 dX8_shear_157 rfl hs_115 rfl rf_115_13 ?_
                  refine ev_iload (pc' := 162) dX8_shear_160 rfl rfl ?_
                  refine ev_iconst (pc' := 163) (v := 4) dX8_shear_162 rfl ki_4 ?_
                  refine ev_iload_n (pc' := 164) (i := 3) dX8_shear_163 rfl rfl rfl ?_
                  refine ev_imul (pc' := 165) (v := nI (4 * n4)) dX8_shear_164 rfl (pk_mul 4 n4) ?_
                  refine ev_iadd (pc' := 166) (v := nI ((16 * j11) + (4 * n4))) dX8_shear_165 rfl (nI_add (16 * j11) (4 * n4)) ?_
                  refine ev_iload (pc' := 168) dX8_shear_166 rfl rfl ?_
                  refine ev_iadd (pc' := 169) (v := nI (((16 * j11) + (4 * n4)) + 2)) dX8_shear_168 rfl (nI_add ((16 * j11) + (4 * n4)) 2) ?_
                  refine ev_iald (pc' := 170) (j := ((16 * j11) + (4 * n4)) + 2) (v := ((mfill I 125 0 16 (fun k => I 123 (16 * j11 + k))) 123) (((16 * j11) + (4 * n4)) + 2)) dX8_shear_169 rfl hs_123 rfl (by omega) (Nat.le_of_ble_eq_true rfl) rfl ?_
                  refine ev_iload (pc' := 172) dX8_shear_170 rfl rfl ?_
                  refine ev_aload_n (pc' := 173) (i := 0) dX8_shear_172 rfl rfl rfl ?_
                  refine ev_getR (pc' := 176) fo_X8_37 dX8_shear_173 rfl hs_115 rfl rf_115_13 ?_
                  refine ev_iload (pc' := 178) dX8_shear_176 rfl rfl ?_
                  refine ev_iconst (pc' := 179) (v := 4) dX8_shear_178 rfl ki_4 ?_
                  refine ev_iload_n (pc' := 180) (i := 2) dX8_shear_179 rfl rfl rfl ?_
                  refine ev_imul (pc' := 181) (v := nI (4 * n2)) dX8_shear_180 rfl (pk_mul 4 n2) ?_
                  refine ev_iadd (pc' := 182) (v := nI ((16 * j11) + (4 * n2))) dX8_shear_181 rfl (nI_add (16 * j11) (4 * n2)) ?_
                  refine ev_iload (pc' := 184) dX8_shear_182 rfl rfl ?_
                  refine ev_iadd (pc' := 185) (v := nI (((16 * j11) + (4 * n2)) + 2)) dX8_shear_184 rfl (nI_add ((16 * j11) + (4 * n2)) 2) ?_
                  refine ev_iald (pc' := 186) (j := ((16 * j11) + (4 * n2)) + 2) (v := ((mfill I 125 0 16 (fun k => I 123 (16 * j11 + k))) 123) (((16 * j11) + (4 * n2)) + 2)) dX8_shear_185 rfl hs_123 rfl (by omega) (Nat.le_of_ble_eq_true rfl) rfl ?_
                  refine ev_imul (pc' := 187) (v := z * (((mfill I 125 0 16 (fun k => I 123 (16 * j11 + k))) 123) (((16 * j11) + (4 * n2)) + 2))) dX8_shear_186 rfl rfl ?_
                  refine ev_iadd (pc' := 188) (v := (((mfill I 125 0 16 (fun k => I 123 (16 * j11 + k))) 123) (((16 * j11) + (4 * n4)) + 2)) + (z * (((mfill I 125 0 16 (fun k => I 123 (16 * j11 + k))) 123) (((16 * j11) + (4 * n2)) + 2)))) dX8_shear_187 rfl rfl ?_
                  exact K32 _ (by rw [if_pos c33])
                · refine ev_aload_n (pc' := 106) (i := 0) dX8_shear_105 rfl rfl rfl ?_
                  refine ev_getR (pc' := 109) fo_X8_37 dX8_shear_106 rfl hs_115 rfl rf_115_13 ?_
                  refine ev_iload (pc' := 111) dX8_shear_109 rfl rfl ?_
                  refine ev_iconst (pc' := 112) (v := 5) dX8_shear_111 rfl ki_5 ?_
                  refine ev_iload_n (pc' := 113) (i := 3) dX8_shear_112 rfl rfl rfl ?_
                  refine ev_imul (pc' := 114) (v := nI (5 * n4)) dX8_shear_113 rfl (pk_mul 5 n4) ?_
                  refine ev_iadd (pc' := 115) (v := nI ((16 * j11) + (5 * n4))) dX8_shear_114 rfl (nI_add (16 * j11) (5 * n4)) ?_
                  refine ev_iald (pc' := 116) (j := (16 * j11) + (5 * n4)) (v := ((mfill I 125 0 16 (fun k => I 123 (16 * j11 + k))) 123) ((16 * j11) + (5 * n4))) dX8_shear_115 rfl hs_123 rfl (by omega) (Nat.le_of_ble_eq_true rfl) rfl ?_
                  refine ev_iconst (pc' := 117) (v := 2) dX8_shear_116 rfl ki_2 ?_
                  refine ev_iload (pc' := 119) dX8_shear_117 rfl rfl ?_
                  refine ev_imul (pc' := 120) (v := 2 * z) dX8_shear_119 rfl rfl ?_
                  refine ev_aload_n (pc' := 121) (i := 0) dX8_shear_120 rfl rfl rfl ?_
                  refine ev_getR (pc' := 124) fo_X8_37 dX8_shear_121 rfl hs_115 rfl rf_115_13 ?_
                  refine ev_iload (pc' := 126) dX8_shear_124 rfl rfl ?_
                  refine ev_iconst (pc' := 127) (v := 4) dX8_shear_126 rfl ki_4 ?_
                  refine ev_iload_n (pc' := 128) (i := 2) dX8_shear_127 rfl rfl rfl ?_
                  refine ev_imul (pc' := 129) (v := nI (4 * n2)) dX8_shear_128 rfl (pk_mul 4 n2) ?_
                  refine ev_iadd (pc' := 130) (v := nI ((16 * j11) + (4 * n2))) dX8_shear_129 rfl (nI_add (16 * j11) (4 * n2)) ?_
                  refine ev_iload_n (pc' := 131) (i := 3) dX8_shear_130 rfl rfl rfl ?_
                  refine ev_iadd (pc' := 132) (v := nI (((16 * j11) + (4 * n2)) + n4)) dX8_shear_131 rfl (nI_add ((16 * j11) + (4 * n2)) n4) ?_
                  refine ev_iald (pc' := 133) (j := ((16 * j11) + (4 * n2)) + n4) (v := ((mfill I 125 0 16 (fun k => I 123 (16 * j11 + k))) 123) (((16 * j11) + (4 * n2)) + n4)) dX8_shear_132 rfl hs_123 rfl (by omega) (Nat.le_of_ble_eq_true rfl) rfl ?_
                  refine ev_imul (pc' := 134) (v := (2 * z) * (((mfill I 125 0 16 (fun k => I 123 (16 * j11 + k))) 123) (((16 * j11) + (4 * n2)) + n4))) dX8_shear_133 rfl rfl ?_
                  refine ev_iadd (pc' := 135) (v := (((mfill I 125 0 16 (fun k => I 123 (16 * j11 + k))) 123) ((16 * j11) + (5 * n4))) + ((2 * z) * (((mfill I 125 0 16 (fun k => I 123 (16 * j11 + k))) 123) (((16 * j11) + (4 * n2)) + n4)))) dX8_shear_134 rfl rfl ?_
                  refine ev_iload (pc' := 137) dX8_shear_135 rfl rfl ?_
                  refine ev_iload (pc' := 139) dX8_shear_137 rfl rfl ?_
                  refine ev_imul (pc' := 140) (v := z * z) dX8_shear_139 rfl rfl ?_
                  refine ev_aload_n (pc' := 141) (i := 0) dX8_shear_140 rfl rfl rfl ?_
                  refine ev_getR (pc' := 144) fo_X8_37 dX8_shear_141 rfl hs_115 rfl rf_115_13 ?_
                  refine ev_iload (pc' := 146) dX8_shear_144 rfl rfl ?_
                  refine ev_iconst (pc' := 147) (v := 5) dX8_shear_146 rfl ki_5 ?_
                  refine ev_iload_n (pc' := 148) (i := 2) dX8_shear_147 rfl rfl rfl ?_
                  refine ev_imul (pc' := 149) (v := nI (5 * n2)) dX8_shear_148 rfl (pk_mul 5 n2) ?_
                  refine ev_iadd (pc' := 150) (v := nI ((16 * j11) + (5 * n2))) dX8_shear_149 rfl (nI_add (16 * j11) (5 * n2)) ?_
                  refine ev_iald (pc' := 151) (j := (16 * j11) + (5 * n2)) (v := ((mfill I 125 0 16 (fun k => I 123 (16 * j11 + k))) 123) ((16 * j11) + (5 * n2))) dX8_shear_150 rfl hs_123 rfl (by omega) (Nat.le_of_ble_eq_true rfl) rfl ?_
                  refine ev_imul (pc' := 152) (v := (z * z) * (((mfill I 125 0 16 (fun k => I 123 (16 * j11 + k))) 123) ((16 * j11) + (5 * n2)))) dX8_shear_151 rfl rfl ?_
                  refine ev_iadd (pc' := 153) (v := ((((mfill I 125 0 16 (fun k => I 123 (16 * j11 + k))) 123) ((16 * j11) + (5 * n4))) + ((2 * z) * (((mfill I 125 0 16 (fun k => I 123 (16 * j11 + k))) 123) (((16 * j11) + (4 * n2)) + n4)))) + ((z * z) * (((mfill I 125 0 16 (fun k => I 123 (16 * j11 + k))) 123) ((16 * j11) + (5 * n2))))) dX8_shear_152 rfl rfl ?_
                  refine ev_goto (tgt := 188) dX8_shear_153 rfl ?_
                  exact K32 _ (by rw [if_neg (not_not_intro c33)])
              intro x31 hx31
              subst hx31
              refine ev_istore (pc' := 190) (lv' := [some (.ref 115), some (.int (nI j11)), some (.int (nI n2)), some (.int (nI n4)), some (.int z), some (.int 0), some (.int (nI (16 * j11))), some (.int 2), some (.int (if ¬ 2 = (nI n4) then ((((mfill I 125 0 16 (fun k => I 123 (16 * j11 + k))) 123) (((16 * j11) + (4 * n4)) + 2)) + (z * (((mfill I 125 0 16 (fun k => I 123 (16 * j11 + k))) 123) (((16 * j11) + (4 * n2)) + 2)))) else (((((mfill I 125 0 16 (fun k => I 123 (16 * j11 + k))) 123) ((16 * j11) + (5 * n4))) + ((2 * z) * (((mfill I 125 0 16 (fun k => I 123 (16 * j11 + k))) 123) (((16 * j11) + (4 * n2)) + n4)))) + ((z * z) * (((mfill I 125 0 16 (fun k => I 123 (16 * j11 + k))) 123) ((16 * j11) + (5 * n2)))))))]) dX8_shear_188 rfl (Nat.le_of_ble_eq_true rfl) rfl rfl ?_
              refine ev_aload_n (pc' := 191) (i := 0) dX8_shear_190 rfl rfl rfl ?_
              refine ev_getR (pc' := 194) fo_X8_43 dX8_shear_191 rfl hs_115 rfl rf_115_15 ?_
              refine ev_iconst (pc' := 195) (v := 4) dX8_shear_194 rfl ki_4 ?_
              refine ev_iload_n (pc' := 196) (i := 3) dX8_shear_195 rfl rfl rfl ?_
              refine ev_imul (pc' := 197) (v := nI (4 * n4)) dX8_shear_196 rfl (pk_mul 4 n4) ?_
              refine ev_iload (pc' := 199) dX8_shear_197 rfl rfl ?_
              refine ev_iadd (pc' := 200) (v := nI ((4 * n4) + 2)) dX8_shear_199 rfl (nI_add (4 * n4) 2) ?_
              refine ev_iload (pc' := 202) dX8_shear_200 rfl rfl ?_
              refine ev_iast (pc' := 203) (j := (4 * n4) + 2) (I' := (ma_up (mfill I 125 0 16 (fun k => I 123 (16 * j11 + k))) 125 (ma_up (ma_up (ma_up (ma_up (ma_up ((mfill I 125 0 16 (fun k => I 123 (16 * j11 + k))) 125) ((4 * n4) + 0) (if ¬ 0 = (nI n4) then ((((mfill I 125 0 16 (fun k => I 123 (16 * j11 + k))) 123) (((16 * j11) + (4 * n4)) + 0)) + (z * (((mfill I 125 0 16 (fun k => I 123 (16 * j11 + k))) 123) (((16 * j11) + (4 * n2)) + 0)))) else (((((mfill I 125 0 16 (fun k => I 123 (16 * j11 + k))) 123) ((16 * j11) + (5 * n4))) + ((2 * z) * (((mfill I 125 0 16 (fun k => I 123 (16 * j11 + k))) 123) (((16 * j11) + (4 * n2)) + n4)))) + ((z * z) * (((mfill I 125 0 16 (fun k => I 123 (16 * j11 + k))) 123) ((16 * j11) + (5 * n2))))))) (0 + n4) (if ¬ 0 = (nI n4) then ((((mfill I 125 0 16 (fun k => I 123 (16 * j11 + k))) 123) (((16 * j11) + (4 * n4)) + 0)) + (z * (((mfill I 125 0 16 (fun k => I 123 (16 * j11 + k))) 123) (((16 * j11) + (4 * n2)) + 0)))) else (((((mfill I 125 0 16 (fun k => I 123 (16 * j11 + k))) 123) ((16 * j11) + (5 * n4))) + ((2 * z) * (((mfill I 125 0 16 (fun k => I 123 (16 * j11 + k))) 123) (((16 * j11) + (4 * n2)) + n4)))) + ((z * z) * (((mfill I 125 0 16 (fun k => I 123 (16 * j11 + k))) 123) ((16 * j11) + (5 * n2))))))) ((4 * n4) + 1) (if ¬ 1 = (nI n4) then ((((mfill I 125 0 16 (fun k => I 123 (16 * j11 + k))) 123) (((16 * j11) + (4 * n4)) + 1)) + (z * (((mfill I 125 0 16 (fun k => I 123 (16 * j11 + k))) 123) (((16 * j11) + (4 * n2)) + 1)))) else (((((mfill I 125 0 16 (fun k => I 123 (16 * j11 + k))) 123) ((16 * j11) + (5 * n4))) + ((2 * z) * (((mfill I 125 0 16 (fun k => I 123 (16 * j11 + k))) 123) (((16 * j11) + (4 * n2)) + n4)))) + ((z * z) * (((mfill I 125 0 16 (fun k => I 123 (16 * j11 + k))) 123) ((16 * j11) + (5 * n2))))))) (4 + n4) (if ¬ 1 = (nI n4) then ((((mfill I 125 0 16 (fun k => I 123 (16 * j11 + k))) 123) (((16 * j11) + (4 * n4)) + 1)) + (z * (((mfill I 125 0 16 (fun k => I 123 (16 * j11 + k))) 123) (((16 * j11) + (4 * n2)) + 1)))) else (((((mfill I 125 0 16 (fun k => I 123 (16 * j11 + k))) 123) ((16 * j11) + (5 * n4))) + ((2 * z) * (((mfill I 125 0 16 (fun k => I 123 (16 * j11 + k))) 123) (((16 * j11) + (4 * n2)) + n4)))) + ((z * z) * (((mfill I 125 0 16 (fun k => I 123 (16 * j11 + k))) 123) ((16 * j11) + (5 * n2))))))) ((4 * n4) + 2) (if ¬ 2 = (nI n4) then ((((mfill I 125 0 16 (fun k => I 123 (16 * j11 + k))) 123) (((16 * j11) + (4 * n4)) + 2)) + (z * (((mfill I 125 0 16 (fun k => I 123 (16 * j11 + k))) 123) (((16 * j11) + (4 * n2)) + 2)))) else (((((mfill I 125 0 16 (fun k => I 123 (16 * j11 + k))) 123) ((16 * j11) + (5 * n4))) + ((2 * z) * (((mfill I 125 0 16 (fun k => I 123 (16 * j11 + k))) 123) (((16 * j11) + (4 * n2)) + n4)))) + ((z * z) * (((mfill I 125 0 16 (fun k => I 123 (16 * j11 + k))) 123) ((16 * j11) + (5 * n2))))))))) dX8_shear_202 rfl hs_125 rfl (by omega) (Nat.le_of_ble_eq_true rfl) (ma_up_up _ _ _ _) ?_
              refine ev_aload_n (pc' := 204) (i := 0) dX8_shear_203 rfl rfl rfl ?_
              refine ev_getR (pc' := 207) fo_X8_43 dX8_shear_204 rfl hs_115 rfl rf_115_15 ?_
              refine ev_iconst (pc' := 208) (v := 4) dX8_shear_207 rfl ki_4 ?_
              refine ev_iload (pc' := 210) dX8_shear_208 rfl rfl ?_
              refine ev_imul (pc' := 211) (v := 8) dX8_shear_210 rfl (by decide) ?_
              refine ev_iload_n (pc' := 212) (i := 3) dX8_shear_211 rfl rfl rfl ?_
              refine ev_iadd (pc' := 213) (v := nI (8 + n4)) dX8_shear_212 rfl (nI_add 8 n4) ?_
              refine ev_iload (pc' := 215) dX8_shear_213 rfl rfl ?_
              refine ev_iast (pc' := 216) (j := 8 + n4) (I' := (ma_up (mfill I 125 0 16 (fun k => I 123 (16 * j11 + k))) 125 (ma_up (ma_up (ma_up (ma_up (ma_up (ma_up ((mfill I 125 0 16 (fun k => I 123 (16 * j11 + k))) 125) ((4 * n4) + 0) (if ¬ 0 = (nI n4) then ((((mfill I 125 0 16 (fun k => I 123 (16 * j11 + k))) 123) (((16 * j11) + (4 * n4)) + 0)) + (z * (((mfill I 125 0 16 (fun k => I 123 (16 * j11 + k))) 123) (((16 * j11) + (4 * n2)) + 0)))) else (((((mfill I 125 0 16 (fun k => I 123 (16 * j11 + k))) 123) ((16 * j11) + (5 * n4))) + ((2 * z) * (((mfill I 125 0 16 (fun k => I 123 (16 * j11 + k))) 123) (((16 * j11) + (4 * n2)) + n4)))) + ((z * z) * (((mfill I 125 0 16 (fun k => I 123 (16 * j11 + k))) 123) ((16 * j11) + (5 * n2))))))) (0 + n4) (if ¬ 0 = (nI n4) then ((((mfill I 125 0 16 (fun k => I 123 (16 * j11 + k))) 123) (((16 * j11) + (4 * n4)) + 0)) + (z * (((mfill I 125 0 16 (fun k => I 123 (16 * j11 + k))) 123) (((16 * j11) + (4 * n2)) + 0)))) else (((((mfill I 125 0 16 (fun k => I 123 (16 * j11 + k))) 123) ((16 * j11) + (5 * n4))) + ((2 * z) * (((mfill I 125 0 16 (fun k => I 123 (16 * j11 + k))) 123) (((16 * j11) + (4 * n2)) + n4)))) + ((z * z) * (((mfill I 125 0 16 (fun k => I 123 (16 * j11 + k))) 123) ((16 * j11) + (5 * n2))))))) ((4 * n4) + 1) (if ¬ 1 = (nI n4) then ((((mfill I 125 0 16 (fun k => I 123 (16 * j11 + k))) 123) (((16 * j11) + (4 * n4)) + 1)) + (z * (((mfill I 125 0 16 (fun k => I 123 (16 * j11 + k))) 123) (((16 * j11) + (4 * n2)) + 1)))) else (((((mfill I 125 0 16 (fun k => I 123 (16 * j11 + k))) 123) ((16 * j11) + (5 * n4))) + ((2 * z) * (((mfill I 125 0 16 (fun k => I 123 (16 * j11 + k))) 123) (((16 * j11) + (4 * n2)) + n4)))) + ((z * z) * (((mfill I 125 0 16 (fun k => I 123 (16 * j11 + k))) 123) ((16 * j11) + (5 * n2))))))) (4 + n4) (if ¬ 1 = (nI n4) then ((((mfill I 125 0 16 (fun k => I 123 (16 * j11 + k))) 123) (((16 * j11) + (4 * n4)) + 1)) + (z * (((mfill I 125 0 16 (fun k => I 123 (16 * j11 + k))) 123) (((16 * j11) + (4 * n2)) + 1)))) else (((((mfill I 125 0 16 (fun k => I 123 (16 * j11 + k))) 123) ((16 * j11) + (5 * n4))) + ((2 * z) * (((mfill I 125 0 16 (fun k => I 123 (16 * j11 + k))) 123) (((16 * j11) + (4 * n2)) + n4)))) + ((z * z) * (((mfill I 125 0 16 (fun k => I 123 (16 * j11 + k))) 123) ((16 * j11) + (5 * n2))))))) ((4 * n4) + 2) (if ¬ 2 = (nI n4) then ((((mfill I 125 0 16 (fun k => I 123 (16 * j11 + k))) 123) (((16 * j11) + (4 * n4)) + 2)) + (z * (((mfill I 125 0 16 (fun k => I 123 (16 * j11 + k))) 123) (((16 * j11) + (4 * n2)) + 2)))) else (((((mfill I 125 0 16 (fun k => I 123 (16 * j11 + k))) 123) ((16 * j11) + (5 * n4))) + ((2 * z) * (((mfill I 125 0 16 (fun k => I 123 (16 * j11 + k))) 123) (((16 * j11) + (4 * n2)) + n4)))) + ((z * z) * (((mfill I 125 0 16 (fun k => I 123 (16 * j11 + k))) 123) ((16 * j11) + (5 * n2))))))) (8 + n4) (if ¬ 2 = (nI n4) then ((((mfill I 125 0 16 (fun k => I 123 (16 * j11 + k))) 123) (((16 * j11) + (4 * n4)) + 2)) + (z * (((mfill I 125 0 16 (fun k => I 123 (16 * j11 + k))) 123) (((16 * j11) + (4 * n2)) + 2)))) else (((((mfill I 125 0 16 (fun k => I 123 (16 * j11 + k))) 123) ((16 * j11) + (5 * n4))) + ((2 * z) * (((mfill I 125 0 16 (fun k => I 123 (16 * j11 + k))) 123) (((16 * j11) + (4 * n2)) + n4)))) + ((z * z) * (((mfill I 125 0 16 (fun k => I 123 (16 * j11 + k))) 123) ((16 * j11) + (5 * n2))))))))) dX8_shear_215 rfl hs_125 rfl (by omega) (Nat.le_of_ble_eq_true rfl) (ma_up_up _ _ _ _) ?_
              refine ev_iinc (pc' := 219) (v := 3) (lv' := [some (.ref 115), some (.int (nI j11)), some (.int (nI n2)), some (.int (nI n4)), some (.int z), some (.int 0), some (.int (nI (16 * j11))), some (.int 3), some (.int (if ¬ 2 = (nI n4) then ((((mfill I 125 0 16 (fun k => I 123 (16 * j11 + k))) 123) (((16 * j11) + (4 * n4)) + 2)) + (z * (((mfill I 125 0 16 (fun k => I 123 (16 * j11 + k))) 123) (((16 * j11) + (4 * n2)) + 2)))) else (((((mfill I 125 0 16 (fun k => I 123 (16 * j11 + k))) 123) ((16 * j11) + (5 * n4))) + ((2 * z) * (((mfill I 125 0 16 (fun k => I 123 (16 * j11 + k))) 123) (((16 * j11) + (4 * n2)) + n4)))) + ((z * z) * (((mfill I 125 0 16 (fun k => I 123 (16 * j11 + k))) 123) ((16 * j11) + (5 * n2)))))))]) dX8_shear_216 rfl rfl (by decide) (Nat.le_of_ble_eq_true rfl) rfl rfl ?_
              refine ev_goto (tgt := 93) dX8_shear_219 rfl ?_
              refine ev_iload (pc' := 95) dX8_shear_93 rfl rfl ?_
              refine ev_iconst (pc' := 96) (v := 4) dX8_shear_95 rfl ki_4 ?_
              refine ev_icmp_ge (tgt := 222) (pc' := 99) dX8_shear_96 rfl rfl (fun h => absurd h (by decide)) (fun _ => ?_)
              refine ev_iload (pc' := 101) dX8_shear_99 rfl rfl ?_
              refine ev_iload_n (pc' := 102) (i := 3) dX8_shear_101 rfl rfl rfl ?_
              suffices K36 : ∀ x35 : Int32, x35 = (if ¬ 3 = (nI n4) then ((((mfill I 125 0 16 (fun k => I 123 (16 * j11 + k))) 123) (((16 * j11) + (4 * n4)) + 3)) + (z * (((mfill I 125 0 16 (fun k => I 123 (16 * j11 + k))) 123) (((16 * j11) + (4 * n2)) + 3)))) else (((((mfill I 125 0 16 (fun k => I 123 (16 * j11 + k))) 123) ((16 * j11) + (5 * n4))) + ((2 * z) * (((mfill I 125 0 16 (fun k => I 123 (16 * j11 + k))) 123) (((16 * j11) + (4 * n2)) + n4)))) + ((z * z) * (((mfill I 125 0 16 (fun k => I 123 (16 * j11 + k))) 123) ((16 * j11) + (5 * n2)))))) → EV g yX8_shear cX8_shear 9 (some .int) rX8_shear (ma_ZM g rX8_shear Post) 188 [some (.ref 115), some (.int (nI j11)), some (.int (nI n2)), some (.int (nI n4)), some (.int z), some (.int 0), some (.int (nI (16 * j11))), some (.int 3), some (.int (if ¬ 2 = (nI n4) then ((((mfill I 125 0 16 (fun k => I 123 (16 * j11 + k))) 123) (((16 * j11) + (4 * n4)) + 2)) + (z * (((mfill I 125 0 16 (fun k => I 123 (16 * j11 + k))) 123) (((16 * j11) + (4 * n2)) + 2)))) else (((((mfill I 125 0 16 (fun k => I 123 (16 * j11 + k))) 123) ((16 * j11) + (5 * n4))) + ((2 * z) * (((mfill I 125 0 16 (fun k => I 123 (16 * j11 + k))) 123) (((16 * j11) + (4 * n2)) + n4)))) + ((z * z) * (((mfill I 125 0 16 (fun k => I 123 (16 * j11 + k))) 123) ((16 * j11) + (5 * n2)))))))] [.int x35] HS (ma_up (mfill I 125 0 16 (fun k => I 123 (16 * j11 + k))) 125 (ma_up (ma_up (ma_up (ma_up (ma_up (ma_up ((mfill I 125 0 16 (fun k => I 123 (16 * j11 + k))) 125) ((4 * n4) + 0) (if ¬ 0 = (nI n4) then ((((mfill I 125 0 16 (fun k => I 123 (16 * j11 + k))) 123) (((16 * j11) + (4 * n4)) + 0)) + (z * (((mfill I 125 0 16 (fun k => I 123 (16 * j11 + k))) 123) (((16 * j11) + (4 * n2)) + 0)))) else (((((mfill I 125 0 16 (fun k => I 123 (16 * j11 + k))) 123) ((16 * j11) + (5 * n4))) + ((2 * z) * (((mfill I 125 0 16 (fun k => I 123 (16 * j11 + k))) 123) (((16 * j11) + (4 * n2)) + n4)))) + ((z * z) * (((mfill I 125 0 16 (fun k => I 123 (16 * j11 + k))) 123) ((16 * j11) + (5 * n2))))))) (0 + n4) (if ¬ 0 = (nI n4) then ((((mfill I 125 0 16 (fun k => I 123 (16 * j11 + k))) 123) (((16 * j11) + (4 * n4)) + 0)) + (z * (((mfill I 125 0 16 (fun k => I 123 (16 * j11 + k))) 123) (((16 * j11) + (4 * n2)) + 0)))) else (((((mfill I 125 0 16 (fun k => I 123 (16 * j11 + k))) 123) ((16 * j11) + (5 * n4))) + ((2 * z) * (((mfill I 125 0 16 (fun k => I 123 (16 * j11 + k))) 123) (((16 * j11) + (4 * n2)) + n4)))) + ((z * z) * (((mfill I 125 0 16 (fun k => I 123 (16 * j11 + k))) 123) ((16 * j11) + (5 * n2))))))) ((4 * n4) + 1) (if ¬ 1 = (nI n4) then ((((mfill I 125 0 16 (fun k => I 123 (16 * j11 + k))) 123) (((16 * j11) + (4 * n4)) + 1)) + (z * (((mfill I 125 0 16 (fun k => I 123 (16 * j11 + k))) 123) (((16 * j11) + (4 * n2)) + 1)))) else (((((mfill I 125 0 16 (fun k => I 123 (16 * j11 + k))) 123) ((16 * j11) + (5 * n4))) + ((2 * z) * (((mfill I 125 0 16 (fun k => I 123 (16 * j11 + k))) 123) (((16 * j11) + (4 * n2)) + n4)))) + ((z * z) * (((mfill I 125 0 16 (fun k => I 123 (16 * j11 + k))) 123) ((16 * j11) + (5 * n2))))))) (4 + n4) (if ¬ 1 = (nI n4) then ((((mfill I 125 0 16 (fun k => I 123 (16 * j11 + k))) 123) (((16 * j11) + (4 * n4)) + 1)) + (z * (((mfill I 125 0 16 (fun k => I 123 (16 * j11 + k))) 123) (((16 * j11) + (4 * n2)) + 1)))) else (((((mfill I 125 0 16 (fun k => I 123 (16 * j11 + k))) 123) ((16 * j11) + (5 * n4))) + ((2 * z) * (((mfill I 125 0 16 (fun k => I 123 (16 * j11 + k))) 123) (((16 * j11) + (4 * n2)) + n4)))) + ((z * z) * (((mfill I 125 0 16 (fun k => I 123 (16 * j11 + k))) 123) ((16 * j11) + (5 * n2))))))) ((4 * n4) + 2) (if ¬ 2 = (nI n4) then ((((mfill I 125 0 16 (fun k => I 123 (16 * j11 + k))) 123) (((16 * j11) + (4 * n4)) + 2)) + (z * (((mfill I 125 0 16 (fun k => I 123 (16 * j11 + k))) 123) (((16 * j11) + (4 * n2)) + 2)))) else (((((mfill I 125 0 16 (fun k => I 123 (16 * j11 + k))) 123) ((16 * j11) + (5 * n4))) + ((2 * z) * (((mfill I 125 0 16 (fun k => I 123 (16 * j11 + k))) 123) (((16 * j11) + (4 * n2)) + n4)))) + ((z * z) * (((mfill I 125 0 16 (fun k => I 123 (16 * j11 + k))) 123) ((16 * j11) + (5 * n2))))))) (8 + n4) (if ¬ 2 = (nI n4) then ((((mfill I 125 0 16 (fun k => I 123 (16 * j11 + k))) 123) (((16 * j11) + (4 * n4)) + 2)) + (z * (((mfill I 125 0 16 (fun k => I 123 (16 * j11 + k))) 123) (((16 * j11) + (4 * n2)) + 2)))) else (((((mfill I 125 0 16 (fun k => I 123 (16 * j11 + k))) 123) ((16 * j11) + (5 * n4))) + ((2 * z) * (((mfill I 125 0 16 (fun k => I 123 (16 * j11 + k))) 123) (((16 * j11) + (4 * n2)) + n4)))) + ((z * z) * (((mfill I 125 0 16 (fun k => I 123 (16 * j11 + k))) 123) ((16 * j11) + (5 * n2)))))))) L RF 146 0 0 by
                refine ev_icmp_ne (tgt := 156) (pc' := 105) dX8_shear_102 rfl rfl (fun c37 => ?_) (fun c37 => ?_)
                · refine ev_aload_n (pc' := 157) (i := 0) dX8_shear_156 rfl rfl rfl ?_
                  refine ev_getR (pc' := 160) fo_X8_37 dX8_shear_157 rfl hs_115 rfl rf_115_13 ?_
                  refine ev_iload (pc' := 162) dX8_shear_160 rfl rfl ?_
                  refine ev_iconst (pc' := 163) (v := 4) dX8_shear_162 rfl ki_4 ?_
                  refine ev_iload_n (pc' := 164) (i := 3) dX8_shear_163 rfl rfl rfl ?_
                  refine ev_imul (pc' := 165) (v := nI (4 * n4)) dX8_shear_164 rfl (pk_mul 4 n4) ?_
                  refine ev_iadd (pc' := 166) (v := nI ((16 * j11) + (4 * n4))) dX8_shear_165 rfl (nI_add (16 * j11) (4 * n4)) ?_
                  refine ev_iload (pc' := 168) dX8_shear_166 rfl rfl ?_
                  refine ev_iadd (pc' := 169) (v := nI (((16 * j11) + (4 * n4)) + 3)) dX8_shear_168 rfl (nI_add ((16 * j11) + (4 * n4)) 3) ?_
                  refine ev_iald (pc' := 170) (j := ((16 * j11) + (4 * n4)) + 3) (v := ((mfill I 125 0 16 (fun k => I 123 (16 * j11 + k))) 123) (((16 * j11) + (4 * n4)) + 3)) dX8_shear_169 rfl hs_123 rfl (by omega) (Nat.le_of_ble_eq_true rfl) rfl ?_
                  refine ev_iload (pc' := 172) dX8_shear_170 rfl rfl ?_
                  refine ev_aload_n (pc' := 173) (i := 0) dX8_shear_172 rfl rfl rfl ?_
                  refine ev_getR (pc' := 176) fo_X8_37 dX8_shear_173 rfl hs_115 rfl rf_115_13 ?_
                  refine ev_iload (pc' := 178) dX8_shear_176 rfl rfl ?_
                  refine ev_iconst (pc' := 179) (v := 4) dX8_shear_178 rfl ki_4 ?_
                  refine ev_iload_n (pc' := 180) (i := 2) dX8_shear_179 rfl rfl rfl ?_
                  refine ev_imul (pc' := 181) (v := nI (4 * n2)) dX8_shear_180 rfl (pk_mul 4 n2) ?_
                  refine ev_iadd (pc' := 182) (v := nI ((16 * j11) + (4 * n2))) dX8_shear_181 rfl (nI_add (16 * j11) (4 * n2)) ?_
                  refine ev_iload (pc' := 184) dX8_shear_182 rfl rfl ?_
                  refine ev_iadd (pc' := 185) (v := nI (((16 * j11) + (4 * n2)) + 3)) dX8_shear_184 rfl (nI_add ((16 * j11) + (4 * n2)) 3) ?_
                  refine ev_iald (pc' := 186) (j := ((16 * j11) + (4 * n2)) + 3) (v := ((mfill I 125 0 16 (fun k => I 123 (16 * j11 + k))) 123) (((16 * j11) + (4 * n2)) + 3)) dX8_shear_185 rfl hs_123 rfl (by omega) (Nat.le_of_ble_eq_true rfl) rfl ?_
                  refine ev_imul (pc' := 187) (v := z * (((mfill I 125 0 16 (fun k => I 123 (16 * j11 + k))) 123) (((16 * j11) + (4 * n2)) + 3))) dX8_shear_186 rfl rfl ?_
                  refine ev_iadd (pc' := 188) (v := (((mfill I 125 0 16 (fun k => I 123 (16 * j11 + k))) 123) (((16 * j11) + (4 * n4)) + 3)) + (z * (((mfill I 125 0 16 (fun k => I 123 (16 * j11 + k))) 123) (((16 * j11) + (4 * n2)) + 3)))) dX8_shear_187 rfl rfl ?_
                  exact K36 _ (by rw [if_pos c37])
                · refine ev_aload_n (pc' := 106) (i := 0) dX8_shear_105 rfl rfl rfl ?_
                  refine ev_getR (pc' := 109) fo_X8_37 dX8_shear_106 rfl hs_115 rfl rf_115_13 ?_
                  refine ev_iload (pc' := 111) dX8_shear_109 rfl rfl ?_
                  refine ev_iconst (pc' := 112) (v := 5) dX8_shear_111 rfl ki_5 ?_
                  refine ev_iload_n (pc' := 113) (i := 3) dX8_shear_112 rfl rfl rfl ?_
                  refine ev_imul (pc' := 114) (v := nI (5 * n4)) dX8_shear_113 rfl (pk_mul 5 n4) ?_
                  refine ev_iadd (pc' := 115) (v := nI ((16 * j11) + (5 * n4))) dX8_shear_114 rfl (nI_add (16 * j11) (5 * n4)) ?_
                  refine ev_iald (pc' := 116) (j := (16 * j11) + (5 * n4)) (v := ((mfill I 125 0 16 (fun k => I 123 (16 * j11 + k))) 123) ((16 * j11) + (5 * n4))) dX8_shear_115 rfl hs_123 rfl (by omega) (Nat.le_of_ble_eq_true rfl) rfl ?_
                  refine ev_iconst (pc' := 117) (v := 2) dX8_shear_116 rfl ki_2 ?_
                  refine ev_iload (pc' := 119) dX8_shear_117 rfl rfl ?_
                  refine ev_imul (pc' := 120) (v := 2 * z) dX8_shear_119 rfl rfl ?_
                  refine ev_aload_n (pc' := 121) (i := 0) dX8_shear_120 rfl rfl rfl ?_
                  refine ev_getR (pc' := 124) fo_X8_37 dX8_shear_121 rfl hs_115 rfl rf_115_13 ?_
                  refine ev_iload (pc' := 126) dX8_shear_124 rfl rfl ?_
                  refine ev_iconst (pc' := 127) (v := 4) dX8_shear_126 rfl ki_4 ?_
                  refine ev_iload_n (pc' := 128) (i := 2) dX8_shear_127 rfl rfl rfl ?_
                  refine ev_imul (pc' := 129) (v := nI (4 * n2)) dX8_shear_128 rfl (pk_mul 4 n2) ?_
                  refine ev_iadd (pc' := 130) (v := nI ((16 * j11) + (4 * n2))) dX8_shear_129 rfl (nI_add (16 * j11) (4 * n2)) ?_
                  refine ev_iload_n (pc' := 131) (i := 3) dX8_shear_130 rfl rfl rfl ?_
                  refine ev_iadd (pc' := 132) (v := nI (((16 * j11) + (4 * n2)) + n4)) dX8_shear_131 rfl (nI_add ((16 * j11) + (4 * n2)) n4) ?_
                  refine ev_iald (pc' := 133) (j := ((16 * j11) + (4 * n2)) + n4) (v := ((mfill I 125 0 16 (fun k => I 123 (16 * j11 + k))) 123) (((16 * j11) + (4 * n2)) + n4)) dX8_shear_132 rfl hs_123 rfl (by omega) (Nat.le_of_ble_eq_true rfl) rfl ?_
                  refine ev_imul (pc' := 134) (v := (2 * z) * (((mfill I 125 0 16 (fun k => I 123 (16 * j11 + k))) 123) (((16 * j11) + (4 * n2)) + n4))) dX8_shear_133 rfl rfl ?_
                  refine ev_iadd (pc' := 135) (v := (((mfill I 125 0 16 (fun k => I 123 (16 * j11 + k))) 123) ((16 * j11) + (5 * n4))) + ((2 * z) * (((mfill I 125 0 16 (fun k => I 123 (16 * j11 + k))) 123) (((16 * j11) + (4 * n2)) + n4)))) dX8_shear_134 rfl rfl ?_
                  refine ev_iload (pc' := 137) dX8_shear_135 rfl rfl ?_
                  refine ev_iload (pc' := 139) dX8_shear_137 rfl rfl ?_
                  refine ev_imul (pc' := 140) (v := z * z) dX8_shear_139 rfl rfl ?_
                  refine ev_aload_n (pc' := 141) (i := 0) dX8_shear_140 rfl rfl rfl ?_
                  refine ev_getR (pc' := 144) fo_X8_37 dX8_shear_141 rfl hs_115 rfl rf_115_13 ?_
                  refine ev_iload (pc' := 146) dX8_shear_144 rfl rfl ?_
                  refine ev_iconst (pc' := 147) (v := 5) dX8_shear_146 rfl ki_5 ?_
                  refine ev_iload_n (pc' := 148) (i := 2) dX8_shear_147 rfl rfl rfl ?_
                  refine ev_imul (pc' := 149) (v := nI (5 * n2)) dX8_shear_148 rfl (pk_mul 5 n2) ?_
                  refine ev_iadd (pc' := 150) (v := nI ((16 * j11) + (5 * n2))) dX8_shear_149 rfl (nI_add (16 * j11) (5 * n2)) ?_
                  refine ev_iald (pc' := 151) (j := (16 * j11) + (5 * n2)) (v := ((mfill I 125 0 16 (fun k => I 123 (16 * j11 + k))) 123) ((16 * j11) + (5 * n2))) dX8_shear_150 rfl hs_123 rfl (by omega) (Nat.le_of_ble_eq_true rfl) rfl ?_
                  refine ev_imul (pc' := 152) (v := (z * z) * (((mfill I 125 0 16 (fun k => I 123 (16 * j11 + k))) 123) ((16 * j11) + (5 * n2)))) dX8_shear_151 rfl rfl ?_
                  refine ev_iadd (pc' := 153) (v := ((((mfill I 125 0 16 (fun k => I 123 (16 * j11 + k))) 123) ((16 * j11) + (5 * n4))) + ((2 * z) * (((mfill I 125 0 16 (fun k => I 123 (16 * j11 + k))) 123) (((16 * j11) + (4 * n2)) + n4)))) + ((z * z) * (((mfill I 125 0 16 (fun k => I 123 (16 * j11 + k))) 123) ((16 * j11) + (5 * n2))))) dX8_shear_152 rfl rfl ?_
                  refine ev_goto (tgt := 188) dX8_shear_153 rfl ?_
                  exact K36 _ (by rw [if_neg (not_not_intro c37)])
              intro x35 hx35
              subst hx35
              refine ev_istore (pc' := 190) (lv' := [some (.ref 115), some (.int (nI j11)), some (.int (nI n2)), some (.int (nI n4)), some (.int z), some (.int 0), some (.int (nI (16 * j11))), some (.int 3), some (.int (if ¬ 3 = (nI n4) then ((((mfill I 125 0 16 (fun k => I 123 (16 * j11 + k))) 123) (((16 * j11) + (4 * n4)) + 3)) + (z * (((mfill I 125 0 16 (fun k => I 123 (16 * j11 + k))) 123) (((16 * j11) + (4 * n2)) + 3)))) else (((((mfill I 125 0 16 (fun k => I 123 (16 * j11 + k))) 123) ((16 * j11) + (5 * n4))) + ((2 * z) * (((mfill I 125 0 16 (fun k => I 123 (16 * j11 + k))) 123) (((16 * j11) + (4 * n2)) + n4)))) + ((z * z) * (((mfill I 125 0 16 (fun k => I 123 (16 * j11 + k))) 123) ((16 * j11) + (5 * n2)))))))]) dX8_shear_188 rfl (Nat.le_of_ble_eq_true rfl) rfl rfl ?_
              refine ev_aload_n (pc' := 191) (i := 0) dX8_shear_190 rfl rfl rfl ?_
              refine ev_getR (pc' := 194) fo_X8_43 dX8_shear_191 rfl hs_115 rfl rf_115_15 ?_
              refine ev_iconst (pc' := 195) (v := 4) dX8_shear_194 rfl ki_4 ?_
              refine ev_iload_n (pc' := 196) (i := 3) dX8_shear_195 rfl rfl rfl ?_
              refine ev_imul (pc' := 197) (v := nI (4 * n4)) dX8_shear_196 rfl (pk_mul 4 n4) ?_
              refine ev_iload (pc' := 199) dX8_shear_197 rfl rfl ?_
              refine ev_iadd (pc' := 200) (v := nI ((4 * n4) + 3)) dX8_shear_199 rfl (nI_add (4 * n4) 3) ?_
              refine ev_iload (pc' := 202) dX8_shear_200 rfl rfl ?_
              refine ev_iast (pc' := 203) (j := (4 * n4) + 3) (I' := (ma_up (mfill I 125 0 16 (fun k => I 123 (16 * j11 + k))) 125 (ma_up (ma_up (ma_up (ma_up (ma_up (ma_up (ma_up ((mfill I 125 0 16 (fun k => I 123 (16 * j11 + k))) 125) ((4 * n4) + 0) (if ¬ 0 = (nI n4) then ((((mfill I 125 0 16 (fun k => I 123 (16 * j11 + k))) 123) (((16 * j11) + (4 * n4)) + 0)) + (z * (((mfill I 125 0 16 (fun k => I 123 (16 * j11 + k))) 123) (((16 * j11) + (4 * n2)) + 0)))) else (((((mfill I 125 0 16 (fun k => I 123 (16 * j11 + k))) 123) ((16 * j11) + (5 * n4))) + ((2 * z) * (((mfill I 125 0 16 (fun k => I 123 (16 * j11 + k))) 123) (((16 * j11) + (4 * n2)) + n4)))) + ((z * z) * (((mfill I 125 0 16 (fun k => I 123 (16 * j11 + k))) 123) ((16 * j11) + (5 * n2))))))) (0 + n4) (if ¬ 0 = (nI n4) then ((((mfill I 125 0 16 (fun k => I 123 (16 * j11 + k))) 123) (((16 * j11) + (4 * n4)) + 0)) + (z * (((mfill I 125 0 16 (fun k => I 123 (16 * j11 + k))) 123) (((16 * j11) + (4 * n2)) + 0)))) else (((((mfill I 125 0 16 (fun k => I 123 (16 * j11 + k))) 123) ((16 * j11) + (5 * n4))) + ((2 * z) * (((mfill I 125 0 16 (fun k => I 123 (16 * j11 + k))) 123) (((16 * j11) + (4 * n2)) + n4)))) + ((z * z) * (((mfill I 125 0 16 (fun k => I 123 (16 * j11 + k))) 123) ((16 * j11) + (5 * n2))))))) ((4 * n4) + 1) (if ¬ 1 = (nI n4) then ((((mfill I 125 0 16 (fun k => I 123 (16 * j11 + k))) 123) (((16 * j11) + (4 * n4)) + 1)) + (z * (((mfill I 125 0 16 (fun k => I 123 (16 * j11 + k))) 123) (((16 * j11) + (4 * n2)) + 1)))) else (((((mfill I 125 0 16 (fun k => I 123 (16 * j11 + k))) 123) ((16 * j11) + (5 * n4))) + ((2 * z) * (((mfill I 125 0 16 (fun k => I 123 (16 * j11 + k))) 123) (((16 * j11) + (4 * n2)) + n4)))) + ((z * z) * (((mfill I 125 0 16 (fun k => I 123 (16 * j11 + k))) 123) ((16 * j11) + (5 * n2))))))) (4 + n4) (if ¬ 1 = (nI n4) then ((((mfill I 125 0 16 (fun k => I 123 (16 * j11 + k))) 123) (((16 * j11) + (4 * n4)) + 1)) + (z * (((mfill I 125 0 16 (fun k => I 123 (16 * j11 + k))) 123) (((16 * j11) + (4 * n2)) + 1)))) else (((((mfill I 125 0 16 (fun k => I 123 (16 * j11 + k))) 123) ((16 * j11) + (5 * n4))) + ((2 * z) * (((mfill I 125 0 16 (fun k => I 123 (16 * j11 + k))) 123) (((16 * j11) + (4 * n2)) + n4)))) + ((z * z) * (((mfill I 125 0 16 (fun k => I 123 (16 * j11 + k))) 123) ((16 * j11) + (5 * n2))))))) ((4 * n4) + 2) (if ¬ 2 = (nI n4) then ((((mfill I 125 0 16 (fun k => I 123 (16 * j11 + k))) 123) (((16 * j11) + (4 * n4)) + 2)) + (z * (((mfill I 125 0 16 (fun k => I 123 (16 * j11 + k))) 123) (((16 * j11) + (4 * n2)) + 2)))) else (((((mfill I 125 0 16 (fun k => I 123 (16 * j11 + k))) 123) ((16 * j11) + (5 * n4))) + ((2 * z) * (((mfill I 125 0 16 (fun k => I 123 (16 * j11 + k))) 123) (((16 * j11) + (4 * n2)) + n4)))) + ((z * z) * (((mfill I 125 0 16 (fun k => I 123 (16 * j11 + k))) 123) ((16 * j11) + (5 * n2))))))) (8 + n4) (if ¬ 2 = (nI n4) then ((((mfill I 125 0 16 (fun k => I 123 (16 * j11 + k))) 123) (((16 * j11) + (4 * n4)) + 2)) + (z * (((mfill I 125 0 16 (fun k => I 123 (16 * j11 + k))) 123) (((16 * j11) + (4 * n2)) + 2)))) else (((((mfill I 125 0 16 (fun k => I 123 (16 * j11 + k))) 123) ((16 * j11) + (5 * n4))) + ((2 * z) * (((mfill I 125 0 16 (fun k => I 123 (16 * j11 + k))) 123) (((16 * j11) + (4 * n2)) + n4)))) + ((z * z) * (((mfill I 125 0 16 (fun k => I 123 (16 * j11 + k))) 123) ((16 * j11) + (5 * n2))))))) ((4 * n4) + 3) (if ¬ 3 = (nI n4) then ((((mfill I 125 0 16 (fun k => I 123 (16 * j11 + k))) 123) (((16 * j11) + (4 * n4)) + 3)) + (z * (((mfill I 125 0 16 (fun k => I 123 (16 * j11 + k))) 123) (((16 * j11) + (4 * n2)) + 3)))) else (((((mfill I 125 0 16 (fun k => I 123 (16 * j11 + k))) 123) ((16 * j11) + (5 * n4))) + ((2 * z) * (((mfill I 125 0 16 (fun k => I 123 (16 * j11 + k))) 123) (((16 * j11) + (4 * n2)) + n4)))) + ((z * z) * (((mfill I 125 0 16 (fun k => I 123 (16 * j11 + k))) 123) ((16 * j11) + (5 * n2))))))))) dX8_shear_202 rfl hs_125 rfl (by omega) (Nat.le_of_ble_eq_true rfl) (ma_up_up _ _ _ _) ?_
              refine ev_aload_n (pc' := 204) (i := 0) dX8_shear_203 rfl rfl rfl ?_
              refine ev_getR (pc' := 207) fo_X8_43 dX8_shear_204 rfl hs_115 rfl rf_115_15 ?_
              refine ev_iconst (pc' := 208) (v := 4) dX8_shear_207 rfl ki_4 ?_
              refine ev_iload (pc' := 210) dX8_shear_208 rfl rfl ?_
              refine ev_imul (pc' := 211) (v := 12) dX8_shear_210 rfl (by decide) ?_
              refine ev_iload_n (pc' := 212) (i := 3) dX8_shear_211 rfl rfl rfl ?_
              refine ev_iadd (pc' := 213) (v := nI (12 + n4)) dX8_shear_212 rfl (nI_add 12 n4) ?_
              refine ev_iload (pc' := 215) dX8_shear_213 rfl rfl ?_
              refine ev_iast (pc' := 216) (j := 12 + n4) (I' := (ma_up (mfill I 125 0 16 (fun k => I 123 (16 * j11 + k))) 125 (ma_up (ma_up (ma_up (ma_up (ma_up (ma_up (ma_up (ma_up ((mfill I 125 0 16 (fun k => I 123 (16 * j11 + k))) 125) ((4 * n4) + 0) (if ¬ 0 = (nI n4) then ((((mfill I 125 0 16 (fun k => I 123 (16 * j11 + k))) 123) (((16 * j11) + (4 * n4)) + 0)) + (z * (((mfill I 125 0 16 (fun k => I 123 (16 * j11 + k))) 123) (((16 * j11) + (4 * n2)) + 0)))) else (((((mfill I 125 0 16 (fun k => I 123 (16 * j11 + k))) 123) ((16 * j11) + (5 * n4))) + ((2 * z) * (((mfill I 125 0 16 (fun k => I 123 (16 * j11 + k))) 123) (((16 * j11) + (4 * n2)) + n4)))) + ((z * z) * (((mfill I 125 0 16 (fun k => I 123 (16 * j11 + k))) 123) ((16 * j11) + (5 * n2))))))) (0 + n4) (if ¬ 0 = (nI n4) then ((((mfill I 125 0 16 (fun k => I 123 (16 * j11 + k))) 123) (((16 * j11) + (4 * n4)) + 0)) + (z * (((mfill I 125 0 16 (fun k => I 123 (16 * j11 + k))) 123) (((16 * j11) + (4 * n2)) + 0)))) else (((((mfill I 125 0 16 (fun k => I 123 (16 * j11 + k))) 123) ((16 * j11) + (5 * n4))) + ((2 * z) * (((mfill I 125 0 16 (fun k => I 123 (16 * j11 + k))) 123) (((16 * j11) + (4 * n2)) + n4)))) + ((z * z) * (((mfill I 125 0 16 (fun k => I 123 (16 * j11 + k))) 123) ((16 * j11) + (5 * n2))))))) ((4 * n4) + 1) (if ¬ 1 = (nI n4) then ((((mfill I 125 0 16 (fun k => I 123 (16 * j11 + k))) 123) (((16 * j11) + (4 * n4)) + 1)) + (z * (((mfill I 125 0 16 (fun k => I 123 (16 * j11 + k))) 123) (((16 * j11) + (4 * n2)) + 1)))) else (((((mfill I 125 0 16 (fun k => I 123 (16 * j11 + k))) 123) ((16 * j11) + (5 * n4))) + ((2 * z) * (((mfill I 125 0 16 (fun k => I 123 (16 * j11 + k))) 123) (((16 * j11) + (4 * n2)) + n4)))) + ((z * z) * (((mfill I 125 0 16 (fun k => I 123 (16 * j11 + k))) 123) ((16 * j11) + (5 * n2))))))) (4 + n4) (if ¬ 1 = (nI n4) then ((((mfill I 125 0 16 (fun k => I 123 (16 * j11 + k))) 123) (((16 * j11) + (4 * n4)) + 1)) + (z * (((mfill I 125 0 16 (fun k => I 123 (16 * j11 + k))) 123) (((16 * j11) + (4 * n2)) + 1)))) else (((((mfill I 125 0 16 (fun k => I 123 (16 * j11 + k))) 123) ((16 * j11) + (5 * n4))) + ((2 * z) * (((mfill I 125 0 16 (fun k => I 123 (16 * j11 + k))) 123) (((16 * j11) + (4 * n2)) + n4)))) + ((z * z) * (((mfill I 125 0 16 (fun k => I 123 (16 * j11 + k))) 123) ((16 * j11) + (5 * n2))))))) ((4 * n4) + 2) (if ¬ 2 = (nI n4) then ((((mfill I 125 0 16 (fun k => I 123 (16 * j11 + k))) 123) (((16 * j11) + (4 * n4)) + 2)) + (z * (((mfill I 125 0 16 (fun k => I 123 (16 * j11 + k))) 123) (((16 * j11) + (4 * n2)) + 2)))) else (((((mfill I 125 0 16 (fun k => I 123 (16 * j11 + k))) 123) ((16 * j11) + (5 * n4))) + ((2 * z) * (((mfill I 125 0 16 (fun k => I 123 (16 * j11 + k))) 123) (((16 * j11) + (4 * n2)) + n4)))) + ((z * z) * (((mfill I 125 0 16 (fun k => I 123 (16 * j11 + k))) 123) ((16 * j11) + (5 * n2))))))) (8 + n4) (if ¬ 2 = (nI n4) then ((((mfill I 125 0 16 (fun k => I 123 (16 * j11 + k))) 123) (((16 * j11) + (4 * n4)) + 2)) + (z * (((mfill I 125 0 16 (fun k => I 123 (16 * j11 + k))) 123) (((16 * j11) + (4 * n2)) + 2)))) else (((((mfill I 125 0 16 (fun k => I 123 (16 * j11 + k))) 123) ((16 * j11) + (5 * n4))) + ((2 * z) * (((mfill I 125 0 16 (fun k => I 123 (16 * j11 + k))) 123) (((16 * j11) + (4 * n2)) + n4)))) + ((z * z) * (((mfill I 125 0 16 (fun k => I 123 (16 * j11 + k))) 123) ((16 * j11) + (5 * n2))))))) ((4 * n4) + 3) (if ¬ 3 = (nI n4) then ((((mfill I 125 0 16 (fun k => I 123 (16 * j11 + k))) 123) (((16 * j11) + (4 * n4)) + 3)) + (z * (((mfill I 125 0 16 (fun k => I 123 (16 * j11 + k))) 123) (((16 * j11) + (4 * n2)) + 3)))) else (((((mfill I 125 0 16 (fun k => I 123 (16 * j11 + k))) 123) ((16 * j11) + (5 * n4))) + ((2 * z) * (((mfill I 125 0 16 (fun k => I 123 (16 * j11 + k))) 123) (((16 * j11) + (4 * n2)) + n4)))) + ((z * z) * (((mfill I 125 0 16 (fun k => I 123 (16 * j11 + k))) 123) ((16 * j11) + (5 * n2))))))) (12 + n4) (if ¬ 3 = (nI n4) then ((((mfill I 125 0 16 (fun k => I 123 (16 * j11 + k))) 123) (((16 * j11) + (4 * n4)) + 3)) + (z * (((mfill I 125 0 16 (fun k => I 123 (16 * j11 + k))) 123) (((16 * j11) + (4 * n2)) + 3)))) else (((((mfill I 125 0 16 (fun k => I 123 (16 * j11 + k))) 123) ((16 * j11) + (5 * n4))) + ((2 * z) * (((mfill I 125 0 16 (fun k => I 123 (16 * j11 + k))) 123) (((16 * j11) + (4 * n2)) + n4)))) + ((z * z) * (((mfill I 125 0 16 (fun k => I 123 (16 * j11 + k))) 123) ((16 * j11) + (5 * n2))))))))) dX8_shear_215 rfl hs_125 rfl (by omega) (Nat.le_of_ble_eq_true rfl) (ma_up_up _ _ _ _) ?_
              refine ev_iinc (pc' := 219) (v := 4) (lv' := [some (.ref 115), some (.int (nI j11)), some (.int (nI n2)), some (.int (nI n4)), some (.int z), some (.int 0), some (.int (nI (16 * j11))), some (.int 4), some (.int (if ¬ 3 = (nI n4) then ((((mfill I 125 0 16 (fun k => I 123 (16 * j11 + k))) 123) (((16 * j11) + (4 * n4)) + 3)) + (z * (((mfill I 125 0 16 (fun k => I 123 (16 * j11 + k))) 123) (((16 * j11) + (4 * n2)) + 3)))) else (((((mfill I 125 0 16 (fun k => I 123 (16 * j11 + k))) 123) ((16 * j11) + (5 * n4))) + ((2 * z) * (((mfill I 125 0 16 (fun k => I 123 (16 * j11 + k))) 123) (((16 * j11) + (4 * n2)) + n4)))) + ((z * z) * (((mfill I 125 0 16 (fun k => I 123 (16 * j11 + k))) 123) ((16 * j11) + (5 * n2)))))))]) dX8_shear_216 rfl rfl (by decide) (Nat.le_of_ble_eq_true rfl) rfl rfl ?_
              refine ev_goto (tgt := 93) dX8_shear_219 rfl ?_
              refine ev_iload (pc' := 95) dX8_shear_93 rfl rfl ?_
              refine ev_iconst (pc' := 96) (v := 4) dX8_shear_95 rfl ki_4 ?_
              refine ev_icmp_ge (tgt := 222) (pc' := 99) dX8_shear_96 rfl rfl (fun _ => ?_) (fun h => absurd (by decide) h)
              refine ev_iconst (pc' := 223) (v := 1) dX8_shear_222 rfl ki_1 ?_
              refine ev_istore (pc' := 225) (lv' := [some (.ref 115), some (.int (nI j11)), some (.int (nI n2)), some (.int (nI n4)), some (.int z), some (.int 0), some (.int (nI (16 * j11))), some (.int 1), some (.int (if ¬ 3 = (nI n4) then ((((mfill I 125 0 16 (fun k => I 123 (16 * j11 + k))) 123) (((16 * j11) + (4 * n4)) + 3)) + (z * (((mfill I 125 0 16 (fun k => I 123 (16 * j11 + k))) 123) (((16 * j11) + (4 * n2)) + 3)))) else (((((mfill I 125 0 16 (fun k => I 123 (16 * j11 + k))) 123) ((16 * j11) + (5 * n4))) + ((2 * z) * (((mfill I 125 0 16 (fun k => I 123 (16 * j11 + k))) 123) (((16 * j11) + (4 * n2)) + n4)))) + ((z * z) * (((mfill I 125 0 16 (fun k => I 123 (16 * j11 + k))) 123) ((16 * j11) + (5 * n2)))))))]) dX8_shear_223 rfl (Nat.le_of_ble_eq_true rfl) rfl rfl ?_
              refine ev_iconst (pc' := 226) (v := 0) dX8_shear_225 rfl ki_0 ?_
              refine ev_istore (pc' := 228) (lv' := [some (.ref 115), some (.int (nI j11)), some (.int (nI n2)), some (.int (nI n4)), some (.int z), some (.int 0), some (.int (nI (16 * j11))), some (.int 1), some (.int 0)]) dX8_shear_226 rfl (Nat.le_of_ble_eq_true rfl) rfl rfl ?_
              refine ev_memI (fun I41 hI41 => ?_)
              suffices loop38 : ∀ (d39 i42 : Nat) (x40 : Int32), i42 + d39 = 16 → ((x40 = 0 ∨ x40 = 1) ∧ (x40 = 1 ↔ ∀ j, j < i42 → ((¬ I41 125 j < (-4)) ∧ (¬ 4 < I41 125 j)))) → EV g yX8_shear cX8_shear 9 (some .int) rX8_shear (ma_ZM g rX8_shear Post) 228 [some (.ref 115), some (.int (nI j11)), some (.int (nI n2)), some (.int (nI n4)), some (.int z), some (.int 0), some (.int (nI (16 * j11))), some (.int x40), some (.int (nI i42))] [] HS I41 L RF 146 0 0 from loop38 (16 - 0) 0 1 (by omega) (by exact b_a0)
              intro d39
              induction d39 with
              | zero =>
                intro i42 x40   hi43 hv44
                obtain rfl : i42 = 16 := by omega
                refine ev_iload (pc' := 230) dX8_shear_228 rfl rfl ?_
                refine ev_bipush (pc' := 232) (v := 16) dX8_shear_230 rfl kb_16 ?_
                refine ev_icmp_ge (tgt := 266) (pc' := 235) dX8_shear_232 rfl rfl (fun _ => ?_) (fun h => absurd (nx_le (a := 16) (b := 16) (by omega) (by omega)) h)
                refine ev_iload (pc' := 268) dX8_shear_266 rfl rfl ?_
                refine ev_if_ne (tgt := 277) (pc' := 271) dX8_shear_268 rfl rfl (fun c45 => ?_) (fun c45 => ?_)
                · refine ev_iconst (pc' := 278) (v := 0) dX8_shear_277 rfl ki_0 ?_
                  refine ev_istore (pc' := 280) (lv' := [some (.ref 115), some (.int (nI j11)), some (.int (nI n2)), some (.int (nI n4)), some (.int z), some (.int 0), some (.int (nI (16 * j11))), some (.int x40), some (.int 0)]) dX8_shear_278 rfl (Nat.le_of_ble_eq_true rfl) rfl rfl ?_
                  suffices loop46 : ∀ (d47 i49 : Nat) (J48 : ma_I), i49 + d47 = 16 → (J48 = mfill I41 123 (16 * j11) i49 (fun k => I41 125 k)) → EV g yX8_shear cX8_shear 9 (some .int) rX8_shear (ma_ZM g rX8_shear Post) 280 [some (.ref 115), some (.int (nI j11)), some (.int (nI n2)), some (.int (nI n4)), some (.int z), some (.int 0), some (.int (nI (16 * j11))), some (.int x40), some (.int (nI i49))] [] HS J48 L RF 146 0 0 from loop46 (16 - 0) 0 I41 (by omega) (by exact (mfill_0 _ _ _ _).symm)
                  intro d47
                  induction d47 with
                  | zero =>
                    intro i49  J48  hi50 hv51
                    obtain rfl : i49 = 16 := by omega
                    subst hv51
                    refine ev_iload (pc' := 282) dX8_shear_280 rfl rfl ?_
                    refine ev_bipush (pc' := 284) (v := 16) dX8_shear_282 rfl kb_16 ?_
                    refine ev_icmp_ge (tgt := 310) (pc' := 287) dX8_shear_284 rfl rfl (fun _ => ?_) (fun h => absurd (nx_le (a := 16) (b := 16) (by omega) (by omega)) h)
                    refine ev_aload_n (pc' := 311) (i := 0) dX8_shear_310 rfl rfl rfl ?_
                    refine ev_iload_n (pc' := 312) (i := 1) dX8_shear_311 rfl rfl rfl ?_
                    refine ev_callV (pc' := 315) (rm' := rX8_setFacts) (b := 115) (av := [.int (nI j11)]) (rest := []) co_X8_207 ci_X8_setFacts cv_X8_setFacts dX8_shear_312 rfl hs_115 hb_X8 rfl rfl (Nat.le_of_ble_eq_true rfl) ⟨(Nat.le_of_ble_eq_true rfl), (Nat.le_of_ble_eq_true rfl)⟩ ⟨(Nat.le_of_ble_eq_true rfl), (Nat.le_of_ble_eq_true rfl)⟩ ?_
                    refine ct_memI (fun I52 hI52 => ?_)
                    refine f_X8_setFacts j11 (by omega) (fun r53 J54 K55 f56 f57 f58 f59 f60 => ?_)
                    refine ev_iret dX8_shear_315 rfl rfl ⟨Nat.le_refl _, Nat.le_refl _⟩ ?_
                    exact k5 n2 hn2 rfl n4 hn4 rfl c5 c6 j11 h12 rfl h14 I41 hI41 x40 hv44 c45 I52 hI52 r53 J54 K55 f56 f57 f58 f59 f60
                  | succ d47 ih =>
                    intro i49  J48  hi50 hv51
                    refine ev_iload (pc' := 282) dX8_shear_280 rfl rfl ?_
                    refine ev_bipush (pc' := 284) (v := 16) dX8_shear_282 rfl kb_16 ?_
                    refine ev_icmp_ge (tgt := 310) (pc' := 287) dX8_shear_284 rfl rfl (fun h => absurd h (nx_nle (a := 16) (b := i49) (by omega) (by omega))) (fun _ => ?_)
                    refine ev_aload_n (pc' := 288) (i := 0) dX8_shear_287 rfl rfl rfl ?_
                    refine ev_getR (pc' := 291) fo_X8_37 dX8_shear_288 rfl hs_115 rfl rf_115_13 ?_
                    refine ev_iload (pc' := 293) dX8_shear_291 rfl rfl ?_
                    refine ev_iload (pc' := 295) dX8_shear_293 rfl rfl ?_
                    refine ev_iadd (pc' := 296) (v := nI ((16 * j11) + i49)) dX8_shear_295 rfl (nI_add (16 * j11) i49) ?_
                    refine ev_aload_n (pc' := 297) (i := 0) dX8_shear_296 rfl rfl rfl ?_
                    refine ev_getR (pc' := 300) fo_X8_43 dX8_shear_297 rfl hs_115 rfl rf_115_15 ?_
                    refine ev_iload (pc' := 302) dX8_shear_300 rfl rfl ?_
                    refine ev_iald (pc' := 303) (j := i49) (v := (J48 125) i49) dX8_shear_302 rfl hs_125 rfl (by omega) (Nat.le_of_ble_eq_true rfl) rfl ?_
                    refine ev_iast (pc' := 304) (j := (16 * j11) + i49) (I' := (ma_up J48 123 (ma_up (J48 123) ((16 * j11) + i49) ((J48 125) i49)))) dX8_shear_303 rfl hs_123 rfl (by omega) (Nat.le_of_ble_eq_true rfl) rfl ?_
                    refine ev_iinc (pc' := 307) (v := nI (i49 + 1)) (lv' := [some (.ref 115), some (.int (nI j11)), some (.int (nI n2)), some (.int (nI n4)), some (.int z), some (.int 0), some (.int (nI (16 * j11))), some (.int x40), some (.int (nI (i49 + 1)))]) dX8_shear_304 rfl rfl (nI_add i49 1) (Nat.le_of_ble_eq_true rfl) rfl rfl ?_
                    refine ev_goto (tgt := 280) dX8_shear_307 rfl ?_
                    exact ih (i49 + 1) _ (by omega) (by rw [hv51]; exact mfill_s _ _ _ _ _ rfl rfl)
                · refine ev_aload_n (pc' := 272) (i := 0) dX8_shear_271 rfl rfl rfl ?_
                  refine ev_iconst (pc' := 273) (v := 2) dX8_shear_272 rfl ki_2 ?_
                  refine ev_callV (pc' := 276) (rm' := rX8_meets) (b := 115) (av := [.int 2]) (rest := []) co_X8_141 ci_X8_meets cv_X8_meets dX8_shear_273 rfl hs_115 hb_X8 rfl rfl (Nat.le_of_ble_eq_true rfl) ⟨(Nat.le_of_ble_eq_true rfl), (Nat.le_of_ble_eq_true rfl)⟩ ⟨(Nat.le_of_ble_eq_true rfl), (Nat.le_of_ble_eq_true rfl)⟩ ?_
                  refine t_X8_meets 2 (by omega) ?_
                  refine ev_mMt 2 ?_
                  refine ev_iret dX8_shear_276 rfl rfl ⟨Nat.le_refl _, Nat.le_refl _⟩ ?_
                  exact k6 n2 hn2 rfl n4 hn4 rfl c5 c6 j11 h12 rfl h14 I41 hI41 x40 hv44 c45
              | succ d39 ih =>
                intro i42 x40   hi43 hv44
                refine ev_iload (pc' := 230) dX8_shear_228 rfl rfl ?_
                refine ev_bipush (pc' := 232) (v := 16) dX8_shear_230 rfl kb_16 ?_
                refine ev_icmp_ge (tgt := 266) (pc' := 235) dX8_shear_232 rfl rfl (fun h => absurd h (nx_nle (a := 16) (b := i42) (by omega) (by omega))) (fun _ => ?_)
                refine ev_iload (pc' := 237) dX8_shear_235 rfl rfl ?_
                refine ev_if_eq (tgt := 257) (pc' := 240) dX8_shear_237 rfl rfl (fun c61 => ?_) (fun c61 => ?_)
                · refine ev_iconst (pc' := 258) (v := 0) dX8_shear_257 rfl ki_0 ?_
                  refine ev_istore (pc' := 260) (lv' := [some (.ref 115), some (.int (nI j11)), some (.int (nI n2)), some (.int (nI n4)), some (.int z), some (.int 0), some (.int (nI (16 * j11))), some (.int 0), some (.int (nI i42))]) dX8_shear_258 rfl (Nat.le_of_ble_eq_true rfl) rfl rfl ?_
                  refine ev_iinc (pc' := 263) (v := nI (i42 + 1)) (lv' := [some (.ref 115), some (.int (nI j11)), some (.int (nI n2)), some (.int (nI n4)), some (.int z), some (.int 0), some (.int (nI (16 * j11))), some (.int 0), some (.int (nI (i42 + 1)))]) dX8_shear_260 rfl rfl (nI_add i42 1) (Nat.le_of_ble_eq_true rfl) rfl rfl ?_
                  refine ev_goto (tgt := 228) dX8_shear_263 rfl ?_
                  exact ih (i42 + 1) _ (by omega) (by first | exact b_at hv44 (by assumption) (by assumption) | exact b_af hv44 (by assumption) | exact b_ag (by assumption) | exact b_am hv44 | exact b_ap hv44 (by assumption))
                · refine ev_aload_n (pc' := 241) (i := 0) dX8_shear_240 rfl rfl rfl ?_
                  refine ev_getR (pc' := 244) fo_X8_43 dX8_shear_241 rfl hs_115 rfl rf_115_15 ?_
                  refine ev_iload (pc' := 246) dX8_shear_244 rfl rfl ?_
                  refine ev_iald (pc' := 247) (j := i42) (v := (I41 125) i42) dX8_shear_246 rfl hs_125 rfl (by omega) (Nat.le_of_ble_eq_true rfl) rfl ?_
                  refine ev_callS (pc' := 250) (rm' := rX8_isSmall) (av := [.int ((I41 125) i42)]) (rest := []) co_X8_198 cs_X8_isSmall dX8_shear_247 rfl rfl rfl (Nat.le_of_ble_eq_true rfl) ⟨(Nat.le_of_ble_eq_true rfl), (Nat.le_of_ble_eq_true rfl)⟩ ⟨(Nat.le_of_ble_eq_true rfl), (Nat.le_of_ble_eq_true rfl)⟩ ?_
                  refine t_X8_isSmall ((I41 125) i42)  ?_
                  suffices K64 : ∀ x63 : Int32, x63 = (if (¬ ((I41 125) i42) < (-4)) ∧ (¬ 4 < ((I41 125) i42)) then (1 : Int32) else 0) → EV g yX8_shear cX8_shear 9 (some .int) rX8_shear (ma_ZM g rX8_shear Post) 258 [some (.ref 115), some (.int (nI j11)), some (.int (nI n2)), some (.int (nI n4)), some (.int z), some (.int 0), some (.int (nI (16 * j11))), some (.int x40), some (.int (nI i42))] [.int x63] HS I41 L RF 146 0 0 by
                    refine ev_if_eq_b (tgt := 257) (pc' := 253) dX8_shear_250 rfl rfl (fun c65 => ?_) (fun c65 => ?_)
                    · refine ev_iconst (pc' := 258) (v := 0) dX8_shear_257 rfl ki_0 ?_
                      exact K64 _ (if_neg c65).symm
                    · refine ev_iconst (pc' := 254) (v := 1) dX8_shear_253 rfl ki_1 ?_
                      refine ev_goto (tgt := 258) dX8_shear_254 rfl ?_
                      exact K64 _ (if_pos c65).symm
                  intro x63 hx63
                  subst hx63
                  refine ev_istore (pc' := 260) (lv' := [some (.ref 115), some (.int (nI j11)), some (.int (nI n2)), some (.int (nI n4)), some (.int z), some (.int 0), some (.int (nI (16 * j11))), some (.int (if (¬ ((I41 125) i42) < (-4)) ∧ (¬ 4 < ((I41 125) i42)) then (1 : Int32) else 0)), some (.int (nI i42))]) dX8_shear_258 rfl (Nat.le_of_ble_eq_true rfl) rfl rfl ?_
                  refine ev_iinc (pc' := 263) (v := nI (i42 + 1)) (lv' := [some (.ref 115), some (.int (nI j11)), some (.int (nI n2)), some (.int (nI n4)), some (.int z), some (.int 0), some (.int (nI (16 * j11))), some (.int (if (¬ ((I41 125) i42) < (-4)) ∧ (¬ 4 < ((I41 125) i42)) then (1 : Int32) else 0)), some (.int (nI (i42 + 1)))]) dX8_shear_260 rfl rfl (nI_add i42 1) (Nat.le_of_ble_eq_true rfl) rfl rfl ?_
                  refine ev_goto (tgt := 228) dX8_shear_263 rfl ?_
                  exact ih (i42 + 1) _ (by omega) (by first | exact b_at hv44 (by assumption) (by assumption) | exact b_af hv44 (by assumption) | exact b_ag (by assumption) | exact b_am hv44 | exact b_ap hv44 (by assumption))
            | succ d17 ih =>
              intro i19  J18  hi20 hv21
              refine ev_iload (pc' := 62) dX8_shear_60 rfl rfl ?_
              refine ev_bipush (pc' := 64) (v := 16) dX8_shear_62 rfl kb_16 ?_
              refine ev_icmp_ge (tgt := 90) (pc' := 67) dX8_shear_64 rfl rfl (fun h => absurd h (nx_nle (a := 16) (b := i19) (by omega) (by omega))) (fun _ => ?_)
              refine ev_aload_n (pc' := 68) (i := 0) dX8_shear_67 rfl rfl rfl ?_
              refine ev_getR (pc' := 71) fo_X8_43 dX8_shear_68 rfl hs_115 rfl rf_115_15 ?_
              refine ev_iload (pc' := 73) dX8_shear_71 rfl rfl ?_
              refine ev_aload_n (pc' := 74) (i := 0) dX8_shear_73 rfl rfl rfl ?_
              refine ev_getR (pc' := 77) fo_X8_37 dX8_shear_74 rfl hs_115 rfl rf_115_13 ?_
              refine ev_iload (pc' := 79) dX8_shear_77 rfl rfl ?_
              refine ev_iload (pc' := 81) dX8_shear_79 rfl rfl ?_
              refine ev_iadd (pc' := 82) (v := nI ((16 * j11) + i19)) dX8_shear_81 rfl (nI_add (16 * j11) i19) ?_
              refine ev_iald (pc' := 83) (j := (16 * j11) + i19) (v := (J18 123) ((16 * j11) + i19)) dX8_shear_82 rfl hs_123 rfl (by omega) (Nat.le_of_ble_eq_true rfl) rfl ?_
              refine ev_iast (pc' := 84) (j := i19) (I' := (ma_up J18 125 (ma_up (J18 125) i19 ((J18 123) ((16 * j11) + i19))))) dX8_shear_83 rfl hs_125 rfl (by omega) (Nat.le_of_ble_eq_true rfl) rfl ?_
              refine ev_iinc (pc' := 87) (v := nI (i19 + 1)) (lv' := [some (.ref 115), some (.int (nI j11)), some (.int (nI n2)), some (.int (nI n4)), some (.int z), some (.int 0), some (.int (nI (16 * j11))), some (.int (nI (i19 + 1))), none]) dX8_shear_84 rfl rfl (nI_add i19 1) (Nat.le_of_ble_eq_true rfl) rfl rfl ?_
              refine ev_goto (tgt := 60) dX8_shear_87 rfl ?_
              exact ih (i19 + 1) _ (by omega) (by rw [hv21]; exact mfill_s _ _ _ _ _ (by omega) rfl)
          · skip
            refine ev_istore (pc' := 43) (lv' := [some (.ref 115), some (.int q), some (.int (nI n2)), some (.int (nI n4)), some (.int z), some (.int (-1)), none, none, none]) dX8_shear_41 rfl (Nat.le_of_ble_eq_true rfl) rfl rfl ?_
            refine ev_iload (pc' := 45) dX8_shear_43 rfl rfl ?_
            refine ev_if_ge (tgt := 51) (pc' := 48) dX8_shear_45 rfl rfl (fun h => absurd h (by decide)) (fun _ => ?_)
            refine ev_iload (pc' := 50) dX8_shear_48 rfl rfl ?_
            refine ev_iret dX8_shear_50 rfl rfl ⟨Nat.le_refl _, Nat.le_refl _⟩ ?_
            exact k7 n2 hn2 rfl n4 hn4 rfl c5 c6 h15
        · refine ev_iconst (pc' := 35) (v := (-1)) dX8_shear_34 rfl ki_m1 ?_
          refine ev_iret dX8_shear_35 rfl rfl ⟨Nat.le_refl _, Nat.le_refl _⟩ ?_
          exact k8 n2 hn2 rfl n4 hn4 rfl c5 c6
