set_option maxRecDepth 4000 in
theorem t_X8_first {g : ma_G} {Post : ma_P} {I : ma_I} {L : ma_L}  (q : Int32) (r : Int32) (s : Int32) (n : Int32) (hok : ∀ q r, q < 12 → r < 12 → I 124 (10 * q) = 3 → I 124 (10 * r) = 3 → ∀ s k, s < 8 → k < 21 → (((¬ (I 118 (16 * s)) < -4) ∧ (¬ 4 < (I 118 (16 * s)))) ∧ ((¬ (I 118 (16 * s + 1)) < -4) ∧ (¬ 4 < (I 118 (16 * s + 1)))) ∧ ((¬ (I 118 (16 * s + 2)) < -4) ∧ (¬ 4 < (I 118 (16 * s + 2))))) → (∀ j, j < 16 → mIn30 ((mMv (fun k => I 123 (16 * r + k)) (mTn (I 124) r) (nI k * (I 118 (16 * s))) (nI k * (I 118 (16 * s + 1))) (nI k * (I 118 (16 * s + 2)))) j)) → mFok (mFm (mMv (fun k => I 123 (16 * q + k)) (mTn (I 124) q) 0 0 0) (mMv (fun k => I 123 (16 * r + k)) (mTn (I 124) r) (nI k * (I 118 (16 * s))) (nI k * (I 118 (16 * s + 1))) (nI k * (I 118 (16 * s + 2)))))) (k1 : (¬ ((¬ q < 0) ∧ (¬ 11 < q))) → Post (some (.int (-1))) HS I L RF 146) (k2 : ∀ n2 : Nat, (n2 < 12) → q = nI n2 → (¬ ((¬ r < 0) ∧ (¬ 11 < r))) → Post (some (.int (-1))) HS I L RF 146) (k3 : ∀ n2 : Nat, (n2 < 12) → q = nI n2 → ∀ n4 : Nat, (n4 < 12) → r = nI n4 → ((nI n2) = (nI n4)) → Post (some (.int (-1))) HS I L RF 146) (k4 : ∀ n2 : Nat, (n2 < 12) → q = nI n2 → ∀ n4 : Nat, (n4 < 12) → r = nI n4 → (¬ (nI n2) = (nI n4)) → (¬ ((¬ s < 0) ∧ (¬ 7 < s))) → Post (some (.int (-1))) HS I L RF 146) (k5 : ∀ n2 : Nat, (n2 < 12) → q = nI n2 → ∀ n4 : Nat, (n4 < 12) → r = nI n4 → (¬ (nI n2) = (nI n4)) → ∀ n7 : Nat, (n7 < 8) → s = nI n7 → ∀ n9 : Nat, (n9 < 21) → n = nI n9 → (((I 122) n2) = 0) → Post (some (.int (-3))) HS (mMt I 1) L RF 146) (k6 : ∀ n2 : Nat, (n2 < 12) → q = nI n2 → ∀ n4 : Nat, (n4 < 12) → r = nI n4 → (¬ (nI n2) = (nI n4)) → ∀ n7 : Nat, (n7 < 8) → s = nI n7 → ∀ n9 : Nat, (n9 < 21) → n = nI n9 → (¬ ((I 122) n2) = 0) → (((I 122) n4) = 0) → Post (some (.int (-3))) HS (mMt I 1) L RF 146) (k7 : ∀ n2 : Nat, (n2 < 12) → q = nI n2 → ∀ n4 : Nat, (n4 < 12) → r = nI n4 → (¬ (nI n2) = (nI n4)) → ∀ n7 : Nat, (n7 < 8) → s = nI n7 → ∀ n9 : Nat, (n9 < 21) → n = nI n9 → (¬ ((I 122) n2) = 0) → (¬ ((I 122) n4) = 0) → (0 ≤ ((I 117) n7)) → (¬ (((I 124) (10 * n2)) = 3)) → Post (some (.int (-3))) HS (mMt I 3) L RF 146) (k8 : ∀ n2 : Nat, (n2 < 12) → q = nI n2 → ∀ n4 : Nat, (n4 < 12) → r = nI n4 → (¬ (nI n2) = (nI n4)) → ∀ n7 : Nat, (n7 < 8) → s = nI n7 → ∀ n9 : Nat, (n9 < 21) → n = nI n9 → (¬ ((I 122) n2) = 0) → (¬ ((I 122) n4) = 0) → (0 ≤ ((I 117) n7)) → (((I 124) (10 * n2)) = 3) → (((I 124) (10 * n4)) = 3) → (3 ≤ ((I 117) n7)) → (¬ ((¬ ((I 118) (16 * n7)) < (-4)) ∧ (¬ 4 < ((I 118) (16 * n7))))) → Post (some (.int (-3))) HS (mMt I 2) L RF 146) (k9 : ∀ n2 : Nat, (n2 < 12) → q = nI n2 → ∀ n4 : Nat, (n4 < 12) → r = nI n4 → (¬ (nI n2) = (nI n4)) → ∀ n7 : Nat, (n7 < 8) → s = nI n7 → ∀ n9 : Nat, (n9 < 21) → n = nI n9 → (¬ ((I 122) n2) = 0) → (¬ ((I 122) n4) = 0) → (0 ≤ ((I 117) n7)) → (((I 124) (10 * n2)) = 3) → (((I 124) (10 * n4)) = 3) → (3 ≤ ((I 117) n7)) → ((¬ ((I 118) (16 * n7)) < (-4)) ∧ (¬ 4 < ((I 118) (16 * n7)))) → (¬ ((¬ ((I 118) ((16 * n7) + 1)) < (-4)) ∧ (¬ 4 < ((I 118) ((16 * n7) + 1))))) → Post (some (.int (-3))) HS (mMt I 2) L RF 146) (k10 : ∀ n2 : Nat, (n2 < 12) → q = nI n2 → ∀ n4 : Nat, (n4 < 12) → r = nI n4 → (¬ (nI n2) = (nI n4)) → ∀ n7 : Nat, (n7 < 8) → s = nI n7 → ∀ n9 : Nat, (n9 < 21) → n = nI n9 → (¬ ((I 122) n2) = 0) → (¬ ((I 122) n4) = 0) → (0 ≤ ((I 117) n7)) → (((I 124) (10 * n2)) = 3) → (((I 124) (10 * n4)) = 3) → (3 ≤ ((I 117) n7)) → ((¬ ((I 118) (16 * n7)) < (-4)) ∧ (¬ 4 < ((I 118) (16 * n7)))) → ((¬ ((I 118) ((16 * n7) + 1)) < (-4)) ∧ (¬ 4 < ((I 118) ((16 * n7) + 1)))) → ((¬ ((I 118) ((16 * n7) + 2)) < (-4)) ∧ (¬ 4 < ((I 118) ((16 * n7) + 2)))) → ∀ N : Nat → Int32, ∀ R : Nat → Int32, (∀ i, i < n9 + 1 → ∀ j, j < 16 → mIn30 ((mMv (fun k => I 123 (16 * n4 + k)) (mTn (I 124) n4) (nI i * ((I 118) (16 * n7))) (nI i * ((I 118) ((16 * n7) + 1))) (nI i * ((I 118) ((16 * n7) + 2)))) j)) → ∀ N19 : Nat → Int32, ∀ R20 : Nat → Int32, ∀ JJ : ma_I, ∀ KK : ma_L, (∀ i, i < n9 + 1 → mAr (mFm (mMv (fun k => I 123 (16 * n2 + k)) (mTn (I 124) n2) 0 0 0) (mMv (fun k => I 123 (16 * n4 + k)) (mTn (I 124) n4) (nI i * ((I 118) (16 * n7))) (nI i * ((I 118) ((16 * n7) + 1))) (nI i * ((I 118) ((16 * n7) + 2))))) 2) → (mSx [125, 134, 133, 141] [36, 31, 35, 38, 39] I JJ) → (mSl [132, 120, 142, 139, 140, 138, 136, 137] L KK) → Post (some (.int (-9))) HS JJ KK RF 146) (k11 : ∀ n2 : Nat, (n2 < 12) → q = nI n2 → ∀ n4 : Nat, (n4 < 12) → r = nI n4 → (¬ (nI n2) = (nI n4)) → ∀ n7 : Nat, (n7 < 8) → s = nI n7 → ∀ n9 : Nat, (n9 < 21) → n = nI n9 → (¬ ((I 122) n2) = 0) → (¬ ((I 122) n4) = 0) → (0 ≤ ((I 117) n7)) → (((I 124) (10 * n2)) = 3) → (((I 124) (10 * n4)) = 3) → (3 ≤ ((I 117) n7)) → ((¬ ((I 118) (16 * n7)) < (-4)) ∧ (¬ 4 < ((I 118) (16 * n7)))) → ((¬ ((I 118) ((16 * n7) + 1)) < (-4)) ∧ (¬ 4 < ((I 118) ((16 * n7) + 1)))) → ((¬ ((I 118) ((16 * n7) + 2)) < (-4)) ∧ (¬ 4 < ((I 118) ((16 * n7) + 2)))) → ∀ N : Nat → Int32, ∀ R : Nat → Int32, (∀ i, i < n9 + 1 → ∀ j, j < 16 → mIn30 ((mMv (fun k => I 123 (16 * n4 + k)) (mTn (I 124) n4) (nI i * ((I 118) (16 * n7))) (nI i * ((I 118) ((16 * n7) + 1))) (nI i * ((I 118) ((16 * n7) + 2)))) j)) → ∀ N19 : Nat → Int32, ∀ R20 : Nat → Int32, ∀ JJ : ma_I, ∀ KK : ma_L, ∀ k : Nat, (k < n9 + 1) → (∀ i, i < k → mAr (mFm (mMv (fun k => I 123 (16 * n2 + k)) (mTn (I 124) n2) 0 0 0) (mMv (fun k => I 123 (16 * n4 + k)) (mTn (I 124) n4) (nI i * ((I 118) (16 * n7))) (nI i * ((I 118) ((16 * n7) + 1))) (nI i * ((I 118) ((16 * n7) + 2))))) 2) → ∀ bb : Nat, ∀ m0 : Nat, ∀ s : mP, ∀ rl : Int32, ∀ tw : Int32, ∀ J : ma_I, ∀ K : ma_L, (mPd (mFm (mMv (fun k => I 123 (16 * n2 + k)) (mTn (I 124) n2) 0 0 0) (mMv (fun k => I 123 (16 * n4 + k)) (mTn (I 124) n4) (nI k * ((I 118) (16 * n7))) (nI k * ((I 118) ((16 * n7) + 1))) (nI k * ((I 118) ((16 * n7) + 2))))) bb m0 s) → ((rl, tw) = mLL s.m s.f) → (mSx [125, 134, 133, 141] [36, 31, 35, 38, 39] I J) → (mSl [132, 120, 142, 139, 140, 138, 136, 137] L K) → (¬ (mAo s rl tw) = 2) → Post (some (.int (nI k))) HS J K RF 146) (k12 : ∀ n2 : Nat, (n2 < 12) → q = nI n2 → ∀ n4 : Nat, (n4 < 12) → r = nI n4 → (¬ (nI n2) = (nI n4)) → ∀ n7 : Nat, (n7 < 8) → s = nI n7 → ∀ n9 : Nat, (n9 < 21) → n = nI n9 → (¬ ((I 122) n2) = 0) → (¬ ((I 122) n4) = 0) → (0 ≤ ((I 117) n7)) → (((I 124) (10 * n2)) = 3) → (((I 124) (10 * n4)) = 3) → (3 ≤ ((I 117) n7)) → ((¬ ((I 118) (16 * n7)) < (-4)) ∧ (¬ 4 < ((I 118) (16 * n7)))) → ((¬ ((I 118) ((16 * n7) + 1)) < (-4)) ∧ (¬ 4 < ((I 118) ((16 * n7) + 1)))) → ((¬ ((I 118) ((16 * n7) + 2)) < (-4)) ∧ (¬ 4 < ((I 118) ((16 * n7) + 2)))) → ∀ N : Nat → Int32, ∀ R : Nat → Int32, ∀ k : Nat, (k < n9 + 1) → (∀ i, i < k → ∀ j, j < 16 → mIn30 ((mMv (fun k => I 123 (16 * n4 + k)) (mTn (I 124) n4) (nI i * ((I 118) (16 * n7))) (nI i * ((I 118) ((16 * n7) + 1))) (nI i * ((I 118) ((16 * n7) + 2)))) j)) → ∀ N24 : Nat → Int32, ∀ R25 : Nat → Int32, ∀ i : Nat, (i < 16) → (¬ ((¬ ((mMv (fun k => I 123 (16 * n4 + k)) (mTn (I 124) n4) (nI k * ((I 118) (16 * n7))) (nI k * ((I 118) ((16 * n7) + 1))) (nI k * ((I 118) ((16 * n7) + 2)))) i) < (-30)) ∧ (¬ 30 < ((mMv (fun k => I 123 (16 * n4 + k)) (mTn (I 124) n4) (nI k * ((I 118) (16 * n7))) (nI k * ((I 118) ((16 * n7) + 1))) (nI k * ((I 118) ((16 * n7) + 2)))) i)))) → Post (some (.int (-6))) HS (ma_up (ma_up I 125 N24) 134 R25) L RF 146) (k13 : ∀ n2 : Nat, (n2 < 12) → q = nI n2 → ∀ n4 : Nat, (n4 < 12) → r = nI n4 → (¬ (nI n2) = (nI n4)) → ∀ n7 : Nat, (n7 < 8) → s = nI n7 → ∀ n9 : Nat, (n9 < 21) → n = nI n9 → (¬ ((I 122) n2) = 0) → (¬ ((I 122) n4) = 0) → (0 ≤ ((I 117) n7)) → (((I 124) (10 * n2)) = 3) → (((I 124) (10 * n4)) = 3) → (3 ≤ ((I 117) n7)) → ((¬ ((I 118) (16 * n7)) < (-4)) ∧ (¬ 4 < ((I 118) (16 * n7)))) → ((¬ ((I 118) ((16 * n7) + 1)) < (-4)) ∧ (¬ 4 < ((I 118) ((16 * n7) + 1)))) → (¬ ((¬ ((I 118) ((16 * n7) + 2)) < (-4)) ∧ (¬ 4 < ((I 118) ((16 * n7) + 2))))) → Post (some (.int (-3))) HS (mMt I 2) L RF 146) (k14 : ∀ n2 : Nat, (n2 < 12) → q = nI n2 → ∀ n4 : Nat, (n4 < 12) → r = nI n4 → (¬ (nI n2) = (nI n4)) → ∀ n7 : Nat, (n7 < 8) → s = nI n7 → ∀ n9 : Nat, (n9 < 21) → n = nI n9 → (¬ ((I 122) n2) = 0) → (¬ ((I 122) n4) = 0) → (0 ≤ ((I 117) n7)) → (((I 124) (10 * n2)) = 3) → (((I 124) (10 * n4)) = 3) → (¬ 3 ≤ ((I 117) n7)) → Post (some (.int (-3))) HS (mMt I 5) L RF 146) (k15 : ∀ n2 : Nat, (n2 < 12) → q = nI n2 → ∀ n4 : Nat, (n4 < 12) → r = nI n4 → (¬ (nI n2) = (nI n4)) → ∀ n7 : Nat, (n7 < 8) → s = nI n7 → ∀ n9 : Nat, (n9 < 21) → n = nI n9 → (¬ ((I 122) n2) = 0) → (¬ ((I 122) n4) = 0) → (0 ≤ ((I 117) n7)) → (((I 124) (10 * n2)) = 3) → (¬ (((I 124) (10 * n4)) = 3)) → Post (some (.int (-3))) HS (mMt I 3) L RF 146) (k16 : ∀ n2 : Nat, (n2 < 12) → q = nI n2 → ∀ n4 : Nat, (n4 < 12) → r = nI n4 → (¬ (nI n2) = (nI n4)) → ∀ n7 : Nat, (n7 < 8) → s = nI n7 → ∀ n9 : Nat, (n9 < 21) → n = nI n9 → (¬ ((I 122) n2) = 0) → (¬ ((I 122) n4) = 0) → (¬ 0 ≤ ((I 117) n7)) → Post (some (.int (-3))) HS (mMt I 1) L RF 146) (k17 : ∀ n2 : Nat, (n2 < 12) → q = nI n2 → ∀ n4 : Nat, (n4 < 12) → r = nI n4 → (¬ (nI n2) = (nI n4)) → ∀ n7 : Nat, (n7 < 8) → s = nI n7 → (¬ ((¬ n < 0) ∧ (¬ 20 < n))) → Post (some (.int (-1))) HS I L RF 146) : CT g yX8_first cX8_first 10 (some .int) rX8_first [.ref 115, .int q, .int r, .int s, .int n] Post HS I L RF 146 := by
  refine ct_of (lv := [some (.ref 115), some (.int q), some (.int r), some (.int s), some (.int n), none, none, none, none, none]) (by decide) (Nat.le_of_ble_eq_true rfl) rfl ?_
  refine ev_iload_n (pc' := 1) (i := 1) dX8_first_0 rfl rfl rfl ?_
  refine ev_callS (pc' := 4) (rm' := rX8_isGround) (av := [.int q]) (rest := []) co_X8_181 cs_X8_isGround dX8_first_1 rfl rfl rfl (Nat.le_of_ble_eq_true rfl) ⟨(Nat.le_of_ble_eq_true rfl), (Nat.le_of_ble_eq_true rfl)⟩ ⟨(Nat.le_of_ble_eq_true rfl), (Nat.le_of_ble_eq_true rfl)⟩ ?_
  refine t_X8_isGround q  ?_
  refine ev_if_eq_b (tgt := 37) (pc' := 7) dX8_first_4 rfl rfl (fun c1 => ?_) (fun c1 => ?_)
  · refine ev_iconst (pc' := 38) (v := (-1)) dX8_first_37 rfl ki_m1 ?_
    refine ev_iret dX8_first_38 rfl rfl ⟨Nat.le_refl _, Nat.le_refl _⟩ ?_
    exact k1 c1
  · obtain ⟨n2, hn2, en2⟩ := in_of (n := 11) (by omega) rfl c1
    subst en2
    refine ev_iload_n (pc' := 8) (i := 2) dX8_first_7 rfl rfl rfl ?_
    refine ev_callS (pc' := 11) (rm' := rX8_isGround) (av := [.int r]) (rest := []) co_X8_181 cs_X8_isGround dX8_first_8 rfl rfl rfl (Nat.le_of_ble_eq_true rfl) ⟨(Nat.le_of_ble_eq_true rfl), (Nat.le_of_ble_eq_true rfl)⟩ ⟨(Nat.le_of_ble_eq_true rfl), (Nat.le_of_ble_eq_true rfl)⟩ ?_
    refine t_X8_isGround r  ?_
    refine ev_if_eq_b (tgt := 37) (pc' := 14) dX8_first_11 rfl rfl (fun c3 => ?_) (fun c3 => ?_)
    · refine ev_iconst (pc' := 38) (v := (-1)) dX8_first_37 rfl ki_m1 ?_
      refine ev_iret dX8_first_38 rfl rfl ⟨Nat.le_refl _, Nat.le_refl _⟩ ?_
      exact k2 n2 hn2 rfl c3
    · obtain ⟨n4, hn4, en4⟩ := in_of (n := 11) (by omega) rfl c3
      subst en4
      refine ev_iload_n (pc' := 15) (i := 1) dX8_first_14 rfl rfl rfl ?_
      refine ev_iload_n (pc' := 16) (i := 2) dX8_first_15 rfl rfl rfl ?_
      refine ev_icmp_eq (tgt := 37) (pc' := 19) dX8_first_16 rfl rfl (fun c5 => ?_) (fun c5 => ?_)
      · refine ev_iconst (pc' := 38) (v := (-1)) dX8_first_37 rfl ki_m1 ?_
        refine ev_iret dX8_first_38 rfl rfl ⟨Nat.le_refl _, Nat.le_refl _⟩ ?_
        exact k3 n2 hn2 rfl n4 hn4 rfl c5
      · refine ev_iload_n (pc' := 20) (i := 3) dX8_first_19 rfl rfl rfl ?_
        refine ev_callS (pc' := 23) (rm' := rX8_isSheet) (av := [.int s]) (rest := []) co_X8_137 cs_X8_isSheet dX8_first_20 rfl rfl rfl (Nat.le_of_ble_eq_true rfl) ⟨(Nat.le_of_ble_eq_true rfl), (Nat.le_of_ble_eq_true rfl)⟩ ⟨(Nat.le_of_ble_eq_true rfl), (Nat.le_of_ble_eq_true rfl)⟩ ?_
        refine t_X8_isSheet s  ?_
        refine ev_if_eq_b (tgt := 37) (pc' := 26) dX8_first_23 rfl rfl (fun c6 => ?_) (fun c6 => ?_)
        · refine ev_iconst (pc' := 38) (v := (-1)) dX8_first_37 rfl ki_m1 ?_
          refine ev_iret dX8_first_38 rfl rfl ⟨Nat.le_refl _, Nat.le_refl _⟩ ?_
          exact k4 n2 hn2 rfl n4 hn4 rfl c5 c6
        · obtain ⟨n7, hn7, en7⟩ := in_of (n := 7) (by omega) rfl c6
          subst en7
          refine ev_iload (pc' := 28) dX8_first_26 rfl rfl ?_
          refine ev_iconst (pc' := 29) (v := 0) dX8_first_28 rfl ki_0 ?_
          refine ev_bipush (pc' := 31) (v := 20) dX8_first_29 rfl kb_20 ?_
          refine ev_callS (pc' := 34) (rm' := rX8_in) (av := [.int n, .int 0, .int 20]) (rest := []) co_X8_133 cs_X8_in dX8_first_31 rfl rfl rfl (Nat.le_of_ble_eq_true rfl) ⟨(Nat.le_of_ble_eq_true rfl), (Nat.le_of_ble_eq_true rfl)⟩ ⟨(Nat.le_of_ble_eq_true rfl), (Nat.le_of_ble_eq_true rfl)⟩ ?_
          refine t_X8_in n 0 20  ?_
          refine ev_if_ne_b (tgt := 39) (pc' := 37) dX8_first_34 rfl rfl (fun c8 => ?_) (fun c8 => ?_)
          · obtain ⟨n9, hn9, en9⟩ := in_of (n := 20) (by omega) rfl c8
            subst en9
            refine ev_aload_n (pc' := 40) (i := 0) dX8_first_39 rfl rfl rfl ?_
            refine ev_getR (pc' := 43) fo_X8_33 dX8_first_40 rfl hs_115 rfl rf_115_12 ?_
            refine ev_iload_n (pc' := 44) (i := 1) dX8_first_43 rfl rfl rfl ?_
            refine ev_zald (pc' := 45) (j := n2) (v := (I 122) n2) dX8_first_44 rfl hs_122 rfl (by omega) (Nat.le_of_ble_eq_true rfl) rfl ?_
            refine ev_if_eq (tgt := 66) (pc' := 48) dX8_first_45 rfl rfl (fun c10 => ?_) (fun c10 => ?_)
            · refine ev_aload_n (pc' := 67) (i := 0) dX8_first_66 rfl rfl rfl ?_
              refine ev_iconst (pc' := 68) (v := 1) dX8_first_67 rfl ki_1 ?_
              refine ev_callV (pc' := 71) (rm' := rX8_meets) (b := 115) (av := [.int 1]) (rest := []) co_X8_141 ci_X8_meets cv_X8_meets dX8_first_68 rfl hs_115 hb_X8 rfl rfl (Nat.le_of_ble_eq_true rfl) ⟨(Nat.le_of_ble_eq_true rfl), (Nat.le_of_ble_eq_true rfl)⟩ ⟨(Nat.le_of_ble_eq_true rfl), (Nat.le_of_ble_eq_true rfl)⟩ ?_
              refine t_X8_meets 1 (by omega) ?_
              refine ev_mMt 1 ?_
              refine ev_iret dX8_first_71 rfl rfl ⟨Nat.le_refl _, Nat.le_refl _⟩ ?_
              exact k5 n2 hn2 rfl n4 hn4 rfl c5 n7 hn7 rfl n9 hn9 rfl c10
            · refine ev_aload_n (pc' := 49) (i := 0) dX8_first_48 rfl rfl rfl ?_
              refine ev_getR (pc' := 52) fo_X8_33 dX8_first_49 rfl hs_115 rfl rf_115_12 ?_
              refine ev_iload_n (pc' := 53) (i := 2) dX8_first_52 rfl rfl rfl ?_
              refine ev_zald (pc' := 54) (j := n4) (v := (I 122) n4) dX8_first_53 rfl hs_122 rfl (by omega) (Nat.le_of_ble_eq_true rfl) rfl ?_
              refine ev_if_eq (tgt := 66) (pc' := 57) dX8_first_54 rfl rfl (fun c11 => ?_) (fun c11 => ?_)
              · refine ev_aload_n (pc' := 67) (i := 0) dX8_first_66 rfl rfl rfl ?_
                refine ev_iconst (pc' := 68) (v := 1) dX8_first_67 rfl ki_1 ?_
                refine ev_callV (pc' := 71) (rm' := rX8_meets) (b := 115) (av := [.int 1]) (rest := []) co_X8_141 ci_X8_meets cv_X8_meets dX8_first_68 rfl hs_115 hb_X8 rfl rfl (Nat.le_of_ble_eq_true rfl) ⟨(Nat.le_of_ble_eq_true rfl), (Nat.le_of_ble_eq_true rfl)⟩ ⟨(Nat.le_of_ble_eq_true rfl), (Nat.le_of_ble_eq_true rfl)⟩ ?_
                refine t_X8_meets 1 (by omega) ?_
                refine ev_mMt 1 ?_
                refine ev_iret dX8_first_71 rfl rfl ⟨Nat.le_refl _, Nat.le_refl _⟩ ?_
                exact k6 n2 hn2 rfl n4 hn4 rfl c5 n7 hn7 rfl n9 hn9 rfl c10 c11
              · refine ev_aload_n (pc' := 58) (i := 0) dX8_first_57 rfl rfl rfl ?_
                refine ev_getR (pc' := 61) fo_X8_17 dX8_first_58 rfl hs_115 rfl rf_115_5 ?_
                refine ev_iload_n (pc' := 62) (i := 3) dX8_first_61 rfl rfl rfl ?_
                refine ev_iald (pc' := 63) (j := n7) (v := (I 117) n7) dX8_first_62 rfl hs_117 rfl (by omega) (Nat.le_of_ble_eq_true rfl) rfl ?_
                refine ev_if_ge (tgt := 72) (pc' := 66) dX8_first_63 rfl rfl (fun c12 => ?_) (fun c12 => ?_)
                · refine ev_aload_n (pc' := 73) (i := 0) dX8_first_72 rfl rfl rfl ?_
                  refine ev_iload_n (pc' := 74) (i := 1) dX8_first_73 rfl rfl rfl ?_
                  refine ev_callV (pc' := 77) (rm' := rX8_isBall) (b := 115) (av := [.int (nI n2)]) (rest := []) co_X8_366 ci_X8_isBall cv_X8_isBall dX8_first_74 rfl hs_115 hb_X8 rfl rfl (Nat.le_of_ble_eq_true rfl) ⟨(Nat.le_of_ble_eq_true rfl), (Nat.le_of_ble_eq_true rfl)⟩ ⟨(Nat.le_of_ble_eq_true rfl), (Nat.le_of_ble_eq_true rfl)⟩ ?_
                  refine t_X8_isBall n2 (by omega) ?_
                  refine ev_if_eq_b (tgt := 88) (pc' := 80) dX8_first_77 rfl rfl (fun c13 => ?_) (fun c13 => ?_)
                  · refine ev_aload_n (pc' := 89) (i := 0) dX8_first_88 rfl rfl rfl ?_
                    refine ev_iconst (pc' := 90) (v := 3) dX8_first_89 rfl ki_3 ?_
                    refine ev_callV (pc' := 93) (rm' := rX8_meets) (b := 115) (av := [.int 3]) (rest := []) co_X8_141 ci_X8_meets cv_X8_meets dX8_first_90 rfl hs_115 hb_X8 rfl rfl (Nat.le_of_ble_eq_true rfl) ⟨(Nat.le_of_ble_eq_true rfl), (Nat.le_of_ble_eq_true rfl)⟩ ⟨(Nat.le_of_ble_eq_true rfl), (Nat.le_of_ble_eq_true rfl)⟩ ?_
                    refine t_X8_meets 3 (by omega) ?_
                    refine ev_mMt 3 ?_
                    refine ev_iret dX8_first_93 rfl rfl ⟨Nat.le_refl _, Nat.le_refl _⟩ ?_
                    exact k7 n2 hn2 rfl n4 hn4 rfl c5 n7 hn7 rfl n9 hn9 rfl c10 c11 c12 c13
                  · refine ev_aload_n (pc' := 81) (i := 0) dX8_first_80 rfl rfl rfl ?_
                    refine ev_iload_n (pc' := 82) (i := 2) dX8_first_81 rfl rfl rfl ?_
                    refine ev_callV (pc' := 85) (rm' := rX8_isBall) (b := 115) (av := [.int (nI n4)]) (rest := []) co_X8_366 ci_X8_isBall cv_X8_isBall dX8_first_82 rfl hs_115 hb_X8 rfl rfl (Nat.le_of_ble_eq_true rfl) ⟨(Nat.le_of_ble_eq_true rfl), (Nat.le_of_ble_eq_true rfl)⟩ ⟨(Nat.le_of_ble_eq_true rfl), (Nat.le_of_ble_eq_true rfl)⟩ ?_
                    refine t_X8_isBall n4 (by omega) ?_
                    refine ev_if_ne_b (tgt := 94) (pc' := 88) dX8_first_85 rfl rfl (fun c14 => ?_) (fun c14 => ?_)
                    · refine ev_aload_n (pc' := 95) (i := 0) dX8_first_94 rfl rfl rfl ?_
                      refine ev_getR (pc' := 98) fo_X8_17 dX8_first_95 rfl hs_115 rfl rf_115_5 ?_
                      refine ev_iload_n (pc' := 99) (i := 3) dX8_first_98 rfl rfl rfl ?_
                      refine ev_iald (pc' := 100) (j := n7) (v := (I 117) n7) dX8_first_99 rfl hs_117 rfl (by omega) (Nat.le_of_ble_eq_true rfl) rfl ?_
                      refine ev_iconst (pc' := 101) (v := 3) dX8_first_100 rfl ki_3 ?_
                      refine ev_icmp_ge (tgt := 110) (pc' := 104) dX8_first_101 rfl rfl (fun c15 => ?_) (fun c15 => ?_)
                      · refine ev_aload_n (pc' := 111) (i := 0) dX8_first_110 rfl rfl rfl ?_
                        refine ev_getR (pc' := 114) fo_X8_20 dX8_first_111 rfl hs_115 rfl rf_115_6 ?_
                        refine ev_bipush (pc' := 116) (v := 16) dX8_first_114 rfl kb_16 ?_
                        refine ev_iload_n (pc' := 117) (i := 3) dX8_first_116 rfl rfl rfl ?_
                        refine ev_imul (pc' := 118) (v := nI (16 * n7)) dX8_first_117 rfl (pk_mul 16 n7) ?_
                        refine ev_iald (pc' := 119) (j := 16 * n7) (v := (I 118) (16 * n7)) dX8_first_118 rfl hs_118 rfl (by omega) (Nat.le_of_ble_eq_true rfl) rfl ?_
                        refine ev_istore (pc' := 121) (lv' := [some (.ref 115), some (.int (nI n2)), some (.int (nI n4)), some (.int (nI n7)), some (.int (nI n9)), some (.int ((I 118) (16 * n7))), none, none, none, none]) dX8_first_119 rfl (Nat.le_of_ble_eq_true rfl) rfl rfl ?_
                        refine ev_aload_n (pc' := 122) (i := 0) dX8_first_121 rfl rfl rfl ?_
                        refine ev_getR (pc' := 125) fo_X8_20 dX8_first_122 rfl hs_115 rfl rf_115_6 ?_
                        refine ev_bipush (pc' := 127) (v := 16) dX8_first_125 rfl kb_16 ?_
                        refine ev_iload_n (pc' := 128) (i := 3) dX8_first_127 rfl rfl rfl ?_
                        refine ev_imul (pc' := 129) (v := nI (16 * n7)) dX8_first_128 rfl (pk_mul 16 n7) ?_
                        refine ev_iconst (pc' := 130) (v := 1) dX8_first_129 rfl ki_1 ?_
                        refine ev_iadd (pc' := 131) (v := nI ((16 * n7) + 1)) dX8_first_130 rfl (nI_add (16 * n7) 1) ?_
                        refine ev_iald (pc' := 132) (j := (16 * n7) + 1) (v := (I 118) ((16 * n7) + 1)) dX8_first_131 rfl hs_118 rfl (by omega) (Nat.le_of_ble_eq_true rfl) rfl ?_
                        refine ev_istore (pc' := 134) (lv' := [some (.ref 115), some (.int (nI n2)), some (.int (nI n4)), some (.int (nI n7)), some (.int (nI n9)), some (.int ((I 118) (16 * n7))), some (.int ((I 118) ((16 * n7) + 1))), none, none, none]) dX8_first_132 rfl (Nat.le_of_ble_eq_true rfl) rfl rfl ?_
                        refine ev_aload_n (pc' := 135) (i := 0) dX8_first_134 rfl rfl rfl ?_
                        refine ev_getR (pc' := 138) fo_X8_20 dX8_first_135 rfl hs_115 rfl rf_115_6 ?_
                        refine ev_bipush (pc' := 140) (v := 16) dX8_first_138 rfl kb_16 ?_
                        refine ev_iload_n (pc' := 141) (i := 3) dX8_first_140 rfl rfl rfl ?_
                        refine ev_imul (pc' := 142) (v := nI (16 * n7)) dX8_first_141 rfl (pk_mul 16 n7) ?_
                        refine ev_iconst (pc' := 143) (v := 2) dX8_first_142 rfl ki_2 ?_
                        refine ev_iadd (pc' := 144) (v := nI ((16 * n7) + 2)) dX8_first_143 rfl (nI_add (16 * n7) 2) ?_
                        refine ev_iald (pc' := 145) (j := (16 * n7) + 2) (v := (I 118) ((16 * n7) + 2)) dX8_first_144 rfl hs_118 rfl (by omega) (Nat.le_of_ble_eq_true rfl) rfl ?_
                        refine ev_istore (pc' := 147) (lv' := [some (.ref 115), some (.int (nI n2)), some (.int (nI n4)), some (.int (nI n7)), some (.int (nI n9)), some (.int ((I 118) (16 * n7))), some (.int ((I 118) ((16 * n7) + 1))), some (.int ((I 118) ((16 * n7) + 2))), none, none]) dX8_first_145 rfl (Nat.le_of_ble_eq_true rfl) rfl rfl ?_
                        refine ev_iload (pc' := 149) dX8_first_147 rfl rfl ?_
                        refine ev_callS (pc' := 152) (rm' := rX8_isSmall) (av := [.int ((I 118) (16 * n7))]) (rest := []) co_X8_198 cs_X8_isSmall dX8_first_149 rfl rfl rfl (Nat.le_of_ble_eq_true rfl) ⟨(Nat.le_of_ble_eq_true rfl), (Nat.le_of_ble_eq_true rfl)⟩ ⟨(Nat.le_of_ble_eq_true rfl), (Nat.le_of_ble_eq_true rfl)⟩ ?_
                        refine t_X8_isSmall ((I 118) (16 * n7))  ?_
                        refine ev_if_eq_b (tgt := 171) (pc' := 155) dX8_first_152 rfl rfl (fun c16 => ?_) (fun c16 => ?_)
                        · refine ev_aload_n (pc' := 172) (i := 0) dX8_first_171 rfl rfl rfl ?_
                          refine ev_iconst (pc' := 173) (v := 2) dX8_first_172 rfl ki_2 ?_
                          refine ev_callV (pc' := 176) (rm' := rX8_meets) (b := 115) (av := [.int 2]) (rest := []) co_X8_141 ci_X8_meets cv_X8_meets dX8_first_173 rfl hs_115 hb_X8 rfl rfl (Nat.le_of_ble_eq_true rfl) ⟨(Nat.le_of_ble_eq_true rfl), (Nat.le_of_ble_eq_true rfl)⟩ ⟨(Nat.le_of_ble_eq_true rfl), (Nat.le_of_ble_eq_true rfl)⟩ ?_
                          refine t_X8_meets 2 (by omega) ?_
                          refine ev_mMt 2 ?_
                          refine ev_iret dX8_first_176 rfl rfl ⟨Nat.le_refl _, Nat.le_refl _⟩ ?_
                          exact k8 n2 hn2 rfl n4 hn4 rfl c5 n7 hn7 rfl n9 hn9 rfl c10 c11 c12 c13 c14 c15 c16
                        · refine ev_iload (pc' := 157) dX8_first_155 rfl rfl ?_
                          refine ev_callS (pc' := 160) (rm' := rX8_isSmall) (av := [.int ((I 118) ((16 * n7) + 1))]) (rest := []) co_X8_198 cs_X8_isSmall dX8_first_157 rfl rfl rfl (Nat.le_of_ble_eq_true rfl) ⟨(Nat.le_of_ble_eq_true rfl), (Nat.le_of_ble_eq_true rfl)⟩ ⟨(Nat.le_of_ble_eq_true rfl), (Nat.le_of_ble_eq_true rfl)⟩ ?_
                          refine t_X8_isSmall ((I 118) ((16 * n7) + 1))  ?_
                          refine ev_if_eq_b (tgt := 171) (pc' := 163) dX8_first_160 rfl rfl (fun c17 => ?_) (fun c17 => ?_)
                          · refine ev_aload_n (pc' := 172) (i := 0) dX8_first_171 rfl rfl rfl ?_
                            refine ev_iconst (pc' := 173) (v := 2) dX8_first_172 rfl ki_2 ?_
                            refine ev_callV (pc' := 176) (rm' := rX8_meets) (b := 115) (av := [.int 2]) (rest := []) co_X8_141 ci_X8_meets cv_X8_meets dX8_first_173 rfl hs_115 hb_X8 rfl rfl (Nat.le_of_ble_eq_true rfl) ⟨(Nat.le_of_ble_eq_true rfl), (Nat.le_of_ble_eq_true rfl)⟩ ⟨(Nat.le_of_ble_eq_true rfl), (Nat.le_of_ble_eq_true rfl)⟩ ?_
                            refine t_X8_meets 2 (by omega) ?_
                            refine ev_mMt 2 ?_
                            refine ev_iret dX8_first_176 rfl rfl ⟨Nat.le_refl _, Nat.le_refl _⟩ ?_
                            exact k9 n2 hn2 rfl n4 hn4 rfl c5 n7 hn7 rfl n9 hn9 rfl c10 c11 c12 c13 c14 c15 c16 c17
                          · refine ev_iload (pc' := 165) dX8_first_163 rfl rfl ?_
                            refine ev_callS (pc' := 168) (rm' := rX8_isSmall) (av := [.int ((I 118) ((16 * n7) + 2))]) (rest := []) co_X8_198 cs_X8_isSmall dX8_first_165 rfl rfl rfl (Nat.le_of_ble_eq_true rfl) ⟨(Nat.le_of_ble_eq_true rfl), (Nat.le_of_ble_eq_true rfl)⟩ ⟨(Nat.le_of_ble_eq_true rfl), (Nat.le_of_ble_eq_true rfl)⟩ ?_
                            refine t_X8_isSmall ((I 118) ((16 * n7) + 2))  ?_
                            refine ev_if_ne_b (tgt := 177) (pc' := 171) dX8_first_168 rfl rfl (fun c18 => ?_) (fun c18 => ?_)
                            · refine ev_iconst (pc' := 178) (v := 0) dX8_first_177 rfl ki_0 ?_
                              refine ev_istore (pc' := 180) (lv' := [some (.ref 115), some (.int (nI n2)), some (.int (nI n4)), some (.int (nI n7)), some (.int (nI n9)), some (.int ((I 118) (16 * n7))), some (.int ((I 118) ((16 * n7) + 1))), some (.int ((I 118) ((16 * n7) + 2))), some (.int 0), none]) dX8_first_178 rfl (Nat.le_of_ble_eq_true rfl) rfl rfl ?_
                              suffices l1 : ∀ (d k : Nat) (N R : Nat → Int32), k + d = n9 + 1 → (∀ i, i < k → ∀ j, j < 16 → mIn30 ((mMv (fun k => I 123 (16 * n4 + k)) (mTn (I 124) n4) (nI i * ((I 118) (16 * n7))) (nI i * ((I 118) ((16 * n7) + 1))) (nI i * ((I 118) ((16 * n7) + 2)))) j)) → EV g yX8_first cX8_first 10 (some .int) rX8_first (ma_ZM g rX8_first Post) 180 [some (.ref 115), some (.int (nI n2)), some (.int (nI n4)), some (.int (nI n7)), some (.int (nI n9)), some (.int ((I 118) (16 * n7))), some (.int ((I 118) ((16 * n7) + 1))), some (.int ((I 118) ((16 * n7) + 2))), some (.int (nI k)), none] [] HS (ma_up (ma_up I 125 N) 134 R) L RF 146 0 0 by
                                refine ev_memI (fun z hz => ?_)
                                have hz := hz.trans (nm_0 I)
                                subst hz
                                exact l1 (n9 + 1) 0 _ _ (by omega) (fun i hi => absurd hi (Nat.not_lt_zero i))
                              intro d
                              induction d with
                              | zero =>
                                intro k N R hk hA
                                obtain rfl : k = n9 + 1 := by omega
                                refine ev_iload (pc' := 182) dX8_first_180 rfl rfl ?_
                                refine ev_iload (pc' := 184) dX8_first_182 rfl rfl ?_
                                refine ev_icmp_gt (tgt := 253) (pc' := 187) dX8_first_184 rfl rfl (fun _ => ?_) (fun h => absurd (nx_lt (a := n9) (b := (n9 + 1)) (by omega) (by omega)) h)
                                refine ev_aload_n (pc' := 254) (i := 0) dX8_first_253 rfl rfl rfl ?_
                                refine ev_iload_n (pc' := 255) (i := 1) dX8_first_254 rfl rfl rfl ?_
                                refine ev_aload_n (pc' := 256) (i := 0) dX8_first_255 rfl rfl rfl ?_
                                refine ev_getR (pc' := 259) fo_X8_67 dX8_first_256 rfl hs_115 rfl rf_115_24 ?_
                                refine ev_iconst (pc' := 260) (v := 0) dX8_first_259 rfl ki_0 ?_
                                refine ev_iconst (pc' := 261) (v := 0) dX8_first_260 rfl ki_0 ?_
                                refine ev_iconst (pc' := 262) (v := 0) dX8_first_261 rfl ki_0 ?_
                                refine ev_callV (pc' := 265) (rm' := rX8_layMoved) (b := 115) (av := [.int (nI n2), .ref 133, .int 0, .int 0, .int 0]) (rest := []) co_X8_369 ci_X8_layMoved cv_X8_layMoved dX8_first_262 rfl hs_115 hb_X8 rfl rfl (Nat.le_of_ble_eq_true rfl) ⟨(Nat.le_of_ble_eq_true rfl), (Nat.le_of_ble_eq_true rfl)⟩ ⟨(Nat.le_of_ble_eq_true rfl), (Nat.le_of_ble_eq_true rfl)⟩ ?_
                                refine t_X8_layMoved133 n2 0 0 0 (by omega) (fun N19 R20 hR20 => ?_)
                                have hR20 : ∀ j, j < 16 → R20 j = (mMv (fun k => I 123 (16 * n2 + k)) (mTn (I 124) n2) 0 0 0) j := hR20
                                refine ev_iconst (pc' := 266) (v := 0) dX8_first_265 rfl ki_0 ?_
                                refine ev_istore (pc' := 268) (lv' := [some (.ref 115), some (.int (nI n2)), some (.int (nI n4)), some (.int (nI n7)), some (.int (nI n9)), some (.int ((I 118) (16 * n7))), some (.int ((I 118) ((16 * n7) + 1))), some (.int ((I 118) ((16 * n7) + 2))), some (.int 0), none]) dX8_first_266 rfl (Nat.le_of_ble_eq_true rfl) rfl rfl ?_
                                suffices l3 : ∀ (d k : Nat) (JJ : ma_I) (KK : ma_L), k + d = n9 + 1 → (∀ i, i < k → mAr (mFm (mMv (fun k => I 123 (16 * n2 + k)) (mTn (I 124) n2) 0 0 0) (mMv (fun k => I 123 (16 * n4 + k)) (mTn (I 124) n4) (nI i * ((I 118) (16 * n7))) (nI i * ((I 118) ((16 * n7) + 1))) (nI i * ((I 118) ((16 * n7) + 2))))) 2) → mSx [125, 134, 133, 141] [36, 31, 35, 38, 39] I JJ → (∀ j, j < 16 → JJ 133 j = (mMv (fun k => I 123 (16 * n2 + k)) (mTn (I 124) n2) 0 0 0) j) → mSl [132, 120, 142, 139, 140, 138, 136, 137] L KK → EV g yX8_first cX8_first 10 (some .int) rX8_first (ma_ZM g rX8_first Post) 268 [some (.ref 115), some (.int (nI n2)), some (.int (nI n4)), some (.int (nI n7)), some (.int (nI n9)), some (.int ((I 118) (16 * n7))), some (.int ((I 118) ((16 * n7) + 1))), some (.int ((I 118) ((16 * n7) + 2))), some (.int (nI k)), none] [] HS JJ KK RF 146 0 0 by
                                  exact l3 (n9 + 1) 0 _ _ (by omega) (fun i hi => absurd hi (Nat.not_lt_zero i)) ((((((mSx.rf (I := I)).le (A' := [125, 134, 133, 141]) (B' := [36, 31, 35, 38, 39]) (fun _ h => absurd h List.not_mem_nil) (fun _ h => absurd h List.not_mem_nil)).up (by simp) (by decide)).up (by simp) (by decide)).up (by simp) (by decide)).up (by simp) (by decide)) hR20 (mSl.rf.le (fun _ h => absurd h List.not_mem_nil))
                                intro d
                                induction d with
                                | zero =>
                                  intro k JJ KK hk hA2 hJ h133 hK
                                  obtain rfl : k = n9 + 1 := by omega
                                  refine ev_iload (pc' := 270) dX8_first_268 rfl rfl ?_
                                  refine ev_iload (pc' := 272) dX8_first_270 rfl rfl ?_
                                  refine ev_icmp_gt (tgt := 316) (pc' := 275) dX8_first_272 rfl rfl (fun _ => ?_) (fun h => absurd (nx_lt (a := n9) (b := (n9 + 1)) (by omega) (by omega)) h)
                                  refine ev_bipush (pc' := 318) (v := (-9)) dX8_first_316 rfl kb_m9 ?_
                                  refine ev_iret dX8_first_318 rfl rfl ⟨Nat.le_refl _, Nat.le_refl _⟩ ?_
                                  exact k10 n2 hn2 rfl n4 hn4 rfl c5 n7 hn7 rfl n9 hn9 rfl c10 c11 c12 c13 c14 c15 c16 c17 c18 N R hA N19 R20 JJ KK hA2 hJ hK
                                | succ d ih =>
                                  intro k JJ KK hk hA2 hJ h133 hK
                                  refine ev_iload (pc' := 270) dX8_first_268 rfl rfl ?_
                                  refine ev_iload (pc' := 272) dX8_first_270 rfl rfl ?_
                                  refine ev_icmp_gt (tgt := 316) (pc' := 275) dX8_first_272 rfl rfl (fun h => absurd h (nx_nlt (a := n9) (b := k) (by omega) (by omega))) (fun _ => ?_)
                                  refine ev_aload_n (pc' := 276) (i := 0) dX8_first_275 rfl rfl rfl ?_
                                  refine ev_iload_n (pc' := 277) (i := 2) dX8_first_276 rfl rfl rfl ?_
                                  refine ev_aload_n (pc' := 278) (i := 0) dX8_first_277 rfl rfl rfl ?_
                                  refine ev_getR (pc' := 281) fo_X8_70 dX8_first_278 rfl hs_115 rfl rf_115_25 ?_
                                  refine ev_iload (pc' := 283) dX8_first_281 rfl rfl ?_
                                  refine ev_iload (pc' := 285) dX8_first_283 rfl rfl ?_
                                  refine ev_imul (pc' := 286) (v := (nI k) * ((I 118) (16 * n7))) dX8_first_285 rfl rfl ?_
                                  refine ev_iload (pc' := 288) dX8_first_286 rfl rfl ?_
                                  refine ev_iload (pc' := 290) dX8_first_288 rfl rfl ?_
                                  refine ev_imul (pc' := 291) (v := (nI k) * ((I 118) ((16 * n7) + 1))) dX8_first_290 rfl rfl ?_
                                  refine ev_iload (pc' := 293) dX8_first_291 rfl rfl ?_
                                  refine ev_iload (pc' := 295) dX8_first_293 rfl rfl ?_
                                  refine ev_imul (pc' := 296) (v := (nI k) * ((I 118) ((16 * n7) + 2))) dX8_first_295 rfl rfl ?_
                                  refine ev_callV (pc' := 299) (rm' := rX8_layMoved) (b := 115) (av := [.int (nI n4), .ref 134, .int ((nI k) * ((I 118) (16 * n7))), .int ((nI k) * ((I 118) ((16 * n7) + 1))), .int ((nI k) * ((I 118) ((16 * n7) + 2)))]) (rest := []) co_X8_369 ci_X8_layMoved cv_X8_layMoved dX8_first_296 rfl hs_115 hb_X8 rfl rfl (Nat.le_of_ble_eq_true rfl) ⟨(Nat.le_of_ble_eq_true rfl), (Nat.le_of_ble_eq_true rfl)⟩ ⟨(Nat.le_of_ble_eq_true rfl), (Nat.le_of_ble_eq_true rfl)⟩ ?_
                                  refine t_X8_layMoved134 n4 ((nI k) * ((I 118) (16 * n7))) ((nI k) * ((I 118) ((16 * n7) + 1))) ((nI k) * ((I 118) ((16 * n7) + 2))) (by omega) (fun N21 R22 hR22 => ?_)
                                  rw [hJ.1 123 (by decide) (by decide), hJ.1 124 (by decide) (by decide)] at hR22
                                  refine ev_aload_n (pc' := 300) (i := 0) dX8_first_299 rfl rfl rfl ?_
                                  refine ev_callV (pc' := 303) (rm' := rX8_apartOf) (b := 115) (av := []) (rest := []) co_X8_373 ci_X8_apartOf cv_X8_apartOf dX8_first_300 rfl hs_115 hb_X8 rfl rfl (Nat.le_of_ble_eq_true rfl) ⟨(Nat.le_of_ble_eq_true rfl), (Nat.le_of_ble_eq_true rfl)⟩ ⟨(Nat.le_of_ble_eq_true rfl), (Nat.le_of_ble_eq_true rfl)⟩ ?_
                                  have eF : mFm (JJ 133) R22 = (mFm (mMv (fun k => I 123 (16 * n2 + k)) (mTn (I 124) n2) 0 0 0) (mMv (fun k => I 123 (16 * n4 + k)) (mTn (I 124) n4) (nI k * ((I 118) (16 * n7))) (nI k * ((I 118) ((16 * n7) + 1))) (nI k * ((I 118) ((16 * n7) + 2))))) := mFm_congr h133 hR22
                                  refine t_X8_apartOf (show mFok (mFm (JJ 133) R22) by rw [eF]; exact hok n2 n4 (by omega) (by omega) (by assumption) (by assumption) n7 k (by omega) (by omega) ⟨c16, c17, c18⟩ (hA k (by omega))) (fun bb m0 s rl tw J K h1 h2 h3 h4 => ?_)
                                  have h1 : mPd (mFm (mMv (fun k => I 123 (16 * n2 + k)) (mTn (I 124) n2) 0 0 0) (mMv (fun k => I 123 (16 * n4 + k)) (mTn (I 124) n4) (nI k * ((I 118) (16 * n7))) (nI k * ((I 118) ((16 * n7) + 1))) (nI k * ((I 118) ((16 * n7) + 2))))) bb m0 s := by rw [← eF]; exact h1
                                  have h5 : mSx [125, 134, 133, 141] [36, 31, 35, 38, 39] I J := (((hJ.up (by simp) (by decide)).up (by simp) (by decide)).trans h3).le (fun a h => by simp only [List.mem_cons, List.not_mem_nil, or_false, List.cons_append, List.nil_append] at h ⊢; omega) (fun a h => by simp only [List.mem_cons, List.not_mem_nil, or_false, List.cons_append, List.nil_append] at h ⊢; omega)
                                  have h6 : mSl [132, 120, 142, 139, 140, 138, 136, 137] L K := (hK.trans h4).le (fun a h => by simp only [List.mem_cons, List.not_mem_nil, or_false, List.cons_append, List.nil_append] at h ⊢; omega)
                                  refine ev_iconst (pc' := 304) (v := 2) dX8_first_303 rfl ki_2 ?_
                                  refine ev_icmp_eq (tgt := 310) (pc' := 307) dX8_first_304 rfl rfl (fun c23 => ?_) (fun c23 => ?_)
                                  · refine ev_iinc (pc' := 313) (v := nI (k + 1)) (lv' := [some (.ref 115), some (.int (nI n2)), some (.int (nI n4)), some (.int (nI n7)), some (.int (nI n9)), some (.int ((I 118) (16 * n7))), some (.int ((I 118) ((16 * n7) + 1))), some (.int ((I 118) ((16 * n7) + 2))), some (.int (nI (k + 1))), none]) dX8_first_310 rfl rfl (nI_add k 1) (Nat.le_of_ble_eq_true rfl) rfl rfl ?_
                                    refine ev_goto (tgt := 268) dX8_first_313 rfl ?_
                                    exact ih (k + 1) J K (by omega) (pt_all hA2 ⟨bb, m0, s, rl, tw, h1, h2, Eq.symm c23⟩) h5 (fun j hj => (congrFun (h3.1 133 (by decide) (by decide)) j).trans (h133 j hj)) h6
                                  · refine ev_iload (pc' := 309) dX8_first_307 rfl rfl ?_
                                    refine ev_iret dX8_first_309 rfl rfl ⟨Nat.le_refl _, Nat.le_refl _⟩ ?_
                                    exact k11 n2 hn2 rfl n4 hn4 rfl c5 n7 hn7 rfl n9 hn9 rfl c10 c11 c12 c13 c14 c15 c16 c17 c18 N R hA N19 R20 JJ KK k (by omega) hA2 bb m0 s rl tw J K h1 h2 h5 h6 c23
                              | succ d ih =>
                                intro k N R hk hA
                                refine ev_iload (pc' := 182) dX8_first_180 rfl rfl ?_
                                refine ev_iload (pc' := 184) dX8_first_182 rfl rfl ?_
                                refine ev_icmp_gt (tgt := 253) (pc' := 187) dX8_first_184 rfl rfl (fun h => absurd h (nx_nlt (a := n9) (b := k) (by omega) (by omega))) (fun _ => ?_)
                                refine ev_aload_n (pc' := 188) (i := 0) dX8_first_187 rfl rfl rfl ?_
                                refine ev_iload_n (pc' := 189) (i := 2) dX8_first_188 rfl rfl rfl ?_
                                refine ev_aload_n (pc' := 190) (i := 0) dX8_first_189 rfl rfl rfl ?_
                                refine ev_getR (pc' := 193) fo_X8_70 dX8_first_190 rfl hs_115 rfl rf_115_25 ?_
                                refine ev_iload (pc' := 195) dX8_first_193 rfl rfl ?_
                                refine ev_iload (pc' := 197) dX8_first_195 rfl rfl ?_
                                refine ev_imul (pc' := 198) (v := (nI k) * ((I 118) (16 * n7))) dX8_first_197 rfl rfl ?_
                                refine ev_iload (pc' := 200) dX8_first_198 rfl rfl ?_
                                refine ev_iload (pc' := 202) dX8_first_200 rfl rfl ?_
                                refine ev_imul (pc' := 203) (v := (nI k) * ((I 118) ((16 * n7) + 1))) dX8_first_202 rfl rfl ?_
                                refine ev_iload (pc' := 205) dX8_first_203 rfl rfl ?_
                                refine ev_iload (pc' := 207) dX8_first_205 rfl rfl ?_
                                refine ev_imul (pc' := 208) (v := (nI k) * ((I 118) ((16 * n7) + 2))) dX8_first_207 rfl rfl ?_
                                refine ev_callV (pc' := 211) (rm' := rX8_layMoved) (b := 115) (av := [.int (nI n4), .ref 134, .int ((nI k) * ((I 118) (16 * n7))), .int ((nI k) * ((I 118) ((16 * n7) + 1))), .int ((nI k) * ((I 118) ((16 * n7) + 2)))]) (rest := []) co_X8_369 ci_X8_layMoved cv_X8_layMoved dX8_first_208 rfl hs_115 hb_X8 rfl rfl (Nat.le_of_ble_eq_true rfl) ⟨(Nat.le_of_ble_eq_true rfl), (Nat.le_of_ble_eq_true rfl)⟩ ⟨(Nat.le_of_ble_eq_true rfl), (Nat.le_of_ble_eq_true rfl)⟩ ?_
                                refine t_X8_layMoved134 n4 ((nI k) * ((I 118) (16 * n7))) ((nI k) * ((I 118) ((16 * n7) + 1))) ((nI k) * ((I 118) ((16 * n7) + 2))) (by omega) (fun N24 R25 hR25 => ?_)
                                have hR25 : ∀ j, j < 16 → R25 j = (mMv (fun k => I 123 (16 * n4 + k)) (mTn (I 124) n4) (nI k * ((I 118) (16 * n7))) (nI k * ((I 118) ((16 * n7) + 1))) (nI k * ((I 118) ((16 * n7) + 2)))) j := hR25
                                refine ev_memI (fun z hz => ?_)
                                have hz := hz.trans (nm_2 I N R N24 R25)
                                subst hz
                                refine ev_iconst (pc' := 212) (v := 0) dX8_first_211 rfl ki_0 ?_
                                refine ev_istore (pc' := 214) (lv' := [some (.ref 115), some (.int (nI n2)), some (.int (nI n4)), some (.int (nI n7)), some (.int (nI n9)), some (.int ((I 118) (16 * n7))), some (.int ((I 118) ((16 * n7) + 1))), some (.int ((I 118) ((16 * n7) + 2))), some (.int (nI k)), some (.int 0)]) dX8_first_212 rfl (Nat.le_of_ble_eq_true rfl) rfl rfl ?_
                                suffices l2 : ∀ (d i : Nat), i + d = 16 → (∀ j, j < i → mIn30 ((mMv (fun k => I 123 (16 * n4 + k)) (mTn (I 124) n4) (nI k * ((I 118) (16 * n7))) (nI k * ((I 118) ((16 * n7) + 1))) (nI k * ((I 118) ((16 * n7) + 2)))) j)) → EV g yX8_first cX8_first 10 (some .int) rX8_first (ma_ZM g rX8_first Post) 214 [some (.ref 115), some (.int (nI n2)), some (.int (nI n4)), some (.int (nI n7)), some (.int (nI n9)), some (.int ((I 118) (16 * n7))), some (.int ((I 118) ((16 * n7) + 1))), some (.int ((I 118) ((16 * n7) + 2))), some (.int (nI k)), some (.int (nI i))] [] HS (ma_up (ma_up I 125 N24) 134 R25) L RF 146 0 0 from l2 16 0 rfl (fun j hj => absurd hj (Nat.not_lt_zero j))
                                intro d1
                                induction d1 with
                                | zero =>
                                  intro i hi hC
                                  obtain rfl : i = 16 := by omega
                                  refine ev_iload (pc' := 216) dX8_first_214 rfl rfl ?_
                                  refine ev_bipush (pc' := 218) (v := 16) dX8_first_216 rfl kb_16 ?_
                                  refine ev_icmp_ge (tgt := 247) (pc' := 221) dX8_first_218 rfl rfl (fun _ => ?_) (fun h => absurd (nx_le (a := 16) (b := 16) (by omega) (by omega)) h)
                                  refine ev_iinc (pc' := 250) (v := nI (k + 1)) (lv' := [some (.ref 115), some (.int (nI n2)), some (.int (nI n4)), some (.int (nI n7)), some (.int (nI n9)), some (.int ((I 118) (16 * n7))), some (.int ((I 118) ((16 * n7) + 1))), some (.int ((I 118) ((16 * n7) + 2))), some (.int (nI (k + 1))), some (.int (nI 16))]) dX8_first_247 rfl rfl (nI_add k 1) (Nat.le_of_ble_eq_true rfl) rfl rfl ?_
                                  refine ev_goto (tgt := 180) dX8_first_250 rfl ?_
                                  refine ev_lvw (lv' := [some (.ref 115), some (.int (nI n2)), some (.int (nI n4)), some (.int (nI n7)), some (.int (nI n9)), some (.int ((I 118) (16 * n7))), some (.int ((I 118) ((16 * n7) + 1))), some (.int ((I 118) ((16 * n7) + 2))), some (.int (nI (k + 1))), none]) ⟨rfl, ⟨rfl, ⟨rfl, ⟨rfl, ⟨rfl, ⟨rfl, ⟨rfl, ⟨rfl, ⟨rfl, trivial⟩⟩⟩⟩⟩⟩⟩⟩⟩ ?_
                                  exact ih (k + 1) _ _ (by omega) (pt_all hA hC)
                                | succ d1 ih1 =>
                                  intro i hi hC
                                  refine ev_iload (pc' := 216) dX8_first_214 rfl rfl ?_
                                  refine ev_bipush (pc' := 218) (v := 16) dX8_first_216 rfl kb_16 ?_
                                  refine ev_icmp_ge (tgt := 247) (pc' := 221) dX8_first_218 rfl rfl (fun h => absurd h (nx_nle (a := 16) (b := i) (by omega) (by omega))) (fun _ => ?_)
                                  refine ev_aload_n (pc' := 222) (i := 0) dX8_first_221 rfl rfl rfl ?_
                                  refine ev_getR (pc' := 225) fo_X8_70 dX8_first_222 rfl hs_115 rfl rf_115_25 ?_
                                  refine ev_iload (pc' := 227) dX8_first_225 rfl rfl ?_
                                  refine ev_iald (pc' := 228) (j := i) (v := (mMv (fun k => I 123 (16 * n4 + k)) (mTn (I 124) n4) (nI k * ((I 118) (16 * n7))) (nI k * ((I 118) ((16 * n7) + 1))) (nI k * ((I 118) ((16 * n7) + 2)))) i) dX8_first_227 rfl hs_134 rfl (by omega) (Nat.le_of_ble_eq_true rfl) (hR25 i (by omega)) ?_
                                  refine ev_bipush (pc' := 230) (v := (-30)) dX8_first_228 rfl kb_m30 ?_
                                  refine ev_bipush (pc' := 232) (v := 30) dX8_first_230 rfl kb_30 ?_
                                  refine ev_callS (pc' := 235) (rm' := rX8_in) (av := [.int ((mMv (fun k => I 123 (16 * n4 + k)) (mTn (I 124) n4) (nI k * ((I 118) (16 * n7))) (nI k * ((I 118) ((16 * n7) + 1))) (nI k * ((I 118) ((16 * n7) + 2)))) i), .int (-30), .int 30]) (rest := []) co_X8_133 cs_X8_in dX8_first_232 rfl rfl rfl (Nat.le_of_ble_eq_true rfl) ⟨(Nat.le_of_ble_eq_true rfl), (Nat.le_of_ble_eq_true rfl)⟩ ⟨(Nat.le_of_ble_eq_true rfl), (Nat.le_of_ble_eq_true rfl)⟩ ?_
                                  refine t_X8_in ((mMv (fun k => I 123 (16 * n4 + k)) (mTn (I 124) n4) (nI k * ((I 118) (16 * n7))) (nI k * ((I 118) ((16 * n7) + 1))) (nI k * ((I 118) ((16 * n7) + 2)))) i) (-30) 30  ?_
                                  refine ev_if_ne_b (tgt := 241) (pc' := 238) dX8_first_235 rfl rfl (fun c26 => ?_) (fun c26 => ?_)
                                  · refine ev_iinc (pc' := 244) (v := nI (i + 1)) (lv' := [some (.ref 115), some (.int (nI n2)), some (.int (nI n4)), some (.int (nI n7)), some (.int (nI n9)), some (.int ((I 118) (16 * n7))), some (.int ((I 118) ((16 * n7) + 1))), some (.int ((I 118) ((16 * n7) + 2))), some (.int (nI k)), some (.int (nI (i + 1)))]) dX8_first_241 rfl rfl (nI_add i 1) (Nat.le_of_ble_eq_true rfl) rfl rfl ?_
                                    refine ev_goto (tgt := 214) dX8_first_244 rfl ?_
                                    exact ih1 (i + 1) (by omega) (pt_all hC c26)
                                  · refine ev_bipush (pc' := 240) (v := (-6)) dX8_first_238 rfl kb_m6 ?_
                                    refine ev_iret dX8_first_240 rfl rfl ⟨Nat.le_refl _, Nat.le_refl _⟩ ?_
                                    exact k12 n2 hn2 rfl n4 hn4 rfl c5 n7 hn7 rfl n9 hn9 rfl c10 c11 c12 c13 c14 c15 c16 c17 c18 N R k (by omega) hA N24 R25 i (by omega) c26
                            · refine ev_aload_n (pc' := 172) (i := 0) dX8_first_171 rfl rfl rfl ?_
                              refine ev_iconst (pc' := 173) (v := 2) dX8_first_172 rfl ki_2 ?_
                              refine ev_callV (pc' := 176) (rm' := rX8_meets) (b := 115) (av := [.int 2]) (rest := []) co_X8_141 ci_X8_meets cv_X8_meets dX8_first_173 rfl hs_115 hb_X8 rfl rfl (Nat.le_of_ble_eq_true rfl) ⟨(Nat.le_of_ble_eq_true rfl), (Nat.le_of_ble_eq_true rfl)⟩ ⟨(Nat.le_of_ble_eq_true rfl), (Nat.le_of_ble_eq_true rfl)⟩ ?_
                              refine t_X8_meets 2 (by omega) ?_
                              refine ev_mMt 2 ?_
                              refine ev_iret dX8_first_176 rfl rfl ⟨Nat.le_refl _, Nat.le_refl _⟩ ?_
                              exact k13 n2 hn2 rfl n4 hn4 rfl c5 n7 hn7 rfl n9 hn9 rfl c10 c11 c12 c13 c14 c15 c16 c17 c18
                      · refine ev_aload_n (pc' := 105) (i := 0) dX8_first_104 rfl rfl rfl ?_
                        refine ev_iconst (pc' := 106) (v := 5) dX8_first_105 rfl ki_5 ?_
                        refine ev_callV (pc' := 109) (rm' := rX8_meets) (b := 115) (av := [.int 5]) (rest := []) co_X8_141 ci_X8_meets cv_X8_meets dX8_first_106 rfl hs_115 hb_X8 rfl rfl (Nat.le_of_ble_eq_true rfl) ⟨(Nat.le_of_ble_eq_true rfl), (Nat.le_of_ble_eq_true rfl)⟩ ⟨(Nat.le_of_ble_eq_true rfl), (Nat.le_of_ble_eq_true rfl)⟩ ?_
                        refine t_X8_meets 5 (by omega) ?_
                        refine ev_mMt 5 ?_
                        refine ev_iret dX8_first_109 rfl rfl ⟨Nat.le_refl _, Nat.le_refl _⟩ ?_
                        exact k14 n2 hn2 rfl n4 hn4 rfl c5 n7 hn7 rfl n9 hn9 rfl c10 c11 c12 c13 c14 c15
                    · refine ev_aload_n (pc' := 89) (i := 0) dX8_first_88 rfl rfl rfl ?_
                      refine ev_iconst (pc' := 90) (v := 3) dX8_first_89 rfl ki_3 ?_
                      refine ev_callV (pc' := 93) (rm' := rX8_meets) (b := 115) (av := [.int 3]) (rest := []) co_X8_141 ci_X8_meets cv_X8_meets dX8_first_90 rfl hs_115 hb_X8 rfl rfl (Nat.le_of_ble_eq_true rfl) ⟨(Nat.le_of_ble_eq_true rfl), (Nat.le_of_ble_eq_true rfl)⟩ ⟨(Nat.le_of_ble_eq_true rfl), (Nat.le_of_ble_eq_true rfl)⟩ ?_
                      refine t_X8_meets 3 (by omega) ?_
                      refine ev_mMt 3 ?_
                      refine ev_iret dX8_first_93 rfl rfl ⟨Nat.le_refl _, Nat.le_refl _⟩ ?_
                      exact k15 n2 hn2 rfl n4 hn4 rfl c5 n7 hn7 rfl n9 hn9 rfl c10 c11 c12 c13 c14
                · refine ev_aload_n (pc' := 67) (i := 0) dX8_first_66 rfl rfl rfl ?_
                  refine ev_iconst (pc' := 68) (v := 1) dX8_first_67 rfl ki_1 ?_
                  refine ev_callV (pc' := 71) (rm' := rX8_meets) (b := 115) (av := [.int 1]) (rest := []) co_X8_141 ci_X8_meets cv_X8_meets dX8_first_68 rfl hs_115 hb_X8 rfl rfl (Nat.le_of_ble_eq_true rfl) ⟨(Nat.le_of_ble_eq_true rfl), (Nat.le_of_ble_eq_true rfl)⟩ ⟨(Nat.le_of_ble_eq_true rfl), (Nat.le_of_ble_eq_true rfl)⟩ ?_
                  refine t_X8_meets 1 (by omega) ?_
                  refine ev_mMt 1 ?_
                  refine ev_iret dX8_first_71 rfl rfl ⟨Nat.le_refl _, Nat.le_refl _⟩ ?_
                  exact k16 n2 hn2 rfl n4 hn4 rfl c5 n7 hn7 rfl n9 hn9 rfl c10 c11 c12
          · refine ev_iconst (pc' := 38) (v := (-1)) dX8_first_37 rfl ki_m1 ?_
            refine ev_iret dX8_first_38 rfl rfl ⟨Nat.le_refl _, Nat.le_refl _⟩ ?_
            exact k17 n2 hn2 rfl n4 hn4 rfl c5 n7 hn7 rfl c8
