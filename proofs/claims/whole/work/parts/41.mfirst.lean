def mAr (F : Nat → Int64) (v : Int32) : Prop := ∃ bb m0 s rl tw, mPd F bb m0 s ∧ (rl, tw) = mLL s.m s.f ∧ v = mAo s rl tw
def mIn30 (v : Int32) : Prop := (¬ v < -30) ∧ (¬ 30 < v)
theorem nm_2 (I : ma_I) (N R N' R' : Nat → Int32) : ma_up (ma_up (ma_up (ma_up I 125 N) 134 R) 125 N') 134 R' = ma_up (ma_up I 125 N') 134 R' := by
  rw [ma_up_comm _ (show 125 ≠ 134 by decide), ma_up_up, ma_up_up]
theorem nm_0 (I : ma_I) : I = ma_up (ma_up I 125 (I 125)) 134 (I 134) := by rw [ma_up_self, ma_up_self]
theorem mSx.up {A B : List Nat} {I J : ma_I} {a : Nat} {r : Nat → Int32} (h : mSx A B I J) (ha : a ∈ A) (h1 : a ≠ 115) : mSx A B I (ma_up J a r) := ⟨fun b hb1 hb2 => by
  have e : b ≠ a := fun e => hb2 (by rw [e]; exact ha)
  rw [ma_up_n _ _ e]; exact h.1 b hb1 hb2, fun k hk => by rw [ma_up_n _ _ (Ne.symm h1)]; exact h.2 k hk⟩
set_option maxRecDepth 4000 in
theorem t_X8_apart {g : ma_G} {Post : ma_P} {I : ma_I} {L : ma_L}  (q : Int32) (r : Int32) (hok : ∀ q r, q < 12 → r < 12 → I 124 (10 * q) = 3 → I 124 (10 * r) = 3 → mFok (mFm (mMv (fun k => I 123 (16 * q + k)) (mTn (I 124) q) 0 0 0) (mMv (fun k => I 123 (16 * r + k)) (mTn (I 124) r) 0 0 0))) (k1 : (¬ q = r) → (¬ ((¬ q < 0) ∧ (¬ 11 < q))) → Post (some (.int (-1))) HS I L RF 146) (k2 : (¬ q = r) → ∀ j3 : Nat, (j3 < 12) → q = nI j3 → ∀ j6 : Nat, (j6 < 12) → r = nI j6 → (((I 122) j3) = 0) → Post (some (.int (-3))) HS (mMt I 1) L RF 146) (k3 : (¬ q = r) → ∀ j10 : Nat, (j10 < 12) → q = nI j10 → ∀ j13 : Nat, (j13 < 12) → r = nI j13 → (¬ ((I 122) j10) = 0) → (((I 122) j13) = 0) → Post (some (.int (-3))) HS (mMt I 1) L RF 146) (k4 : (¬ q = r) → ∀ j18 : Nat, (j18 < 12) → q = nI j18 → ∀ j21 : Nat, (j21 < 12) → r = nI j21 → (¬ ((I 122) j18) = 0) → (¬ ((I 122) j21) = 0) → (¬ (((I 124) (10 * j18)) = 3)) → Post (some (.int (-3))) HS (mMt I 3) L RF 146) (k5 : (¬ q = r) → ∀ j18 : Nat, (j18 < 12) → q = nI j18 → ∀ j21 : Nat, (j21 < 12) → r = nI j21 → (¬ ((I 122) j18) = 0) → (¬ ((I 122) j21) = 0) → (((I 124) (10 * j18)) = 3) → (((I 124) (10 * j21)) = 3) → ∀ bb : Nat, ∀ m0 : Nat, ∀ s : mP, ∀ rl : Int32, ∀ tw : Int32, ∀ J : ma_I, ∀ K : ma_L, (mPd (mFm (mMv (fun k => I 123 (16 * j18 + k)) (mTn (I 124) j18) 0 0 0) (mMv (fun k => I 123 (16 * j21 + k)) (mTn (I 124) j21) 0 0 0)) bb m0 s) → ((rl, tw) = mLL s.m s.f) → (mSx [125, 133, 134, 141] [36, 31, 35, 38, 39] I J) → (mSl [132, 120, 142, 139, 140, 138, 136, 137] L K) → Post (some (.int (mAo s rl tw))) HS J K RF 146) (k6 : (¬ q = r) → ∀ j18 : Nat, (j18 < 12) → q = nI j18 → ∀ j21 : Nat, (j21 < 12) → r = nI j21 → (¬ ((I 122) j18) = 0) → (¬ ((I 122) j21) = 0) → (((I 124) (10 * j18)) = 3) → (¬ (((I 124) (10 * j21)) = 3)) → Post (some (.int (-3))) HS (mMt I 3) L RF 146) (k7 : (¬ q = r) → ∀ j26 : Nat, (j26 < 12) → q = nI j26 → (¬ ((¬ r < 0) ∧ (¬ 11 < r))) → Post (some (.int (-1))) HS I L RF 146) (k8 : (q = r) → Post (some (.int (-1))) HS I L RF 146) : CT g yX8_apart cX8_apart 4 (some .int) rX8_apart [.ref 115, .int q, .int r] Post HS I L RF 146 := by
  refine ct_of (lv := [some (.ref 115), some (.int q), some (.int r), none]) (by decide) (Nat.le_of_ble_eq_true rfl) rfl ?_
  refine ev_iload_n (pc' := 1) (i := 1) dX8_apart_0 rfl rfl rfl ?_
  refine ev_iload_n (pc' := 2) (i := 2) dX8_apart_1 rfl rfl rfl ?_
  refine ev_icmp_ne (tgt := 7) (pc' := 5) dX8_apart_2 rfl rfl (fun c1 => ?_) (fun c1 => ?_)
  · refine ev_aload_n (pc' := 8) (i := 0) dX8_apart_7 rfl rfl rfl ?_
    refine ev_iload_n (pc' := 9) (i := 1) dX8_apart_8 rfl rfl rfl ?_
    refine ev_iload_n (pc' := 10) (i := 2) dX8_apart_9 rfl rfl rfl ?_
    refine ev_callV (pc' := 13) (rm' := rX8_askedTwo) (b := 115) (av := [.int q, .int r]) (rest := []) co_X8_227 ci_X8_askedTwo cv_X8_askedTwo dX8_apart_10 rfl hs_115 hb_X8 rfl rfl (Nat.le_of_ble_eq_true rfl) ⟨(Nat.le_of_ble_eq_true rfl), (Nat.le_of_ble_eq_true rfl)⟩ ⟨(Nat.le_of_ble_eq_true rfl), (Nat.le_of_ble_eq_true rfl)⟩ ?_
    refine t_X8_askedTwo q r  (fun h2 => ?_) (fun j3 h4 e5 j6 h7 e8 h9 => ?_) (fun j10 h11 e12 j13 h14 e15 h16 h17 => ?_) (fun j18 h19 e20 j21 h22 e23 h24 h25 => ?_) (fun j26 h27 e28 h29 => ?_)
    · skip
      refine ev_istore_n (pc' := 14) (i := 3) (lv' := [some (.ref 115), some (.int q), some (.int r), some (.int (-1))]) dX8_apart_13 rfl rfl (Nat.le_of_ble_eq_true rfl) rfl rfl ?_
      refine ev_iload_n (pc' := 15) (i := 3) dX8_apart_14 rfl rfl rfl ?_
      refine ev_if_ge (tgt := 20) (pc' := 18) dX8_apart_15 rfl rfl (fun h => absurd h (by decide)) (fun _ => ?_)
      refine ev_iload_n (pc' := 19) (i := 3) dX8_apart_18 rfl rfl rfl ?_
      refine ev_iret dX8_apart_19 rfl rfl ⟨Nat.le_refl _, Nat.le_refl _⟩ ?_
      exact k1 c1 h2
    · subst e5
      subst e8
      refine ev_istore_n (pc' := 14) (i := 3) (lv' := [some (.ref 115), some (.int (nI j3)), some (.int (nI j6)), some (.int (-3))]) dX8_apart_13 rfl rfl (Nat.le_of_ble_eq_true rfl) rfl rfl ?_
      refine ev_iload_n (pc' := 15) (i := 3) dX8_apart_14 rfl rfl rfl ?_
      refine ev_if_ge (tgt := 20) (pc' := 18) dX8_apart_15 rfl rfl (fun h => absurd h (by decide)) (fun _ => ?_)
      refine ev_iload_n (pc' := 19) (i := 3) dX8_apart_18 rfl rfl rfl ?_
      refine ev_iret dX8_apart_19 rfl rfl ⟨Nat.le_refl _, Nat.le_refl _⟩ ?_
      exact k2 c1 j3 h4 rfl j6 h7 rfl h9
    · subst e12
      subst e15
      refine ev_istore_n (pc' := 14) (i := 3) (lv' := [some (.ref 115), some (.int (nI j10)), some (.int (nI j13)), some (.int (-3))]) dX8_apart_13 rfl rfl (Nat.le_of_ble_eq_true rfl) rfl rfl ?_
      refine ev_iload_n (pc' := 15) (i := 3) dX8_apart_14 rfl rfl rfl ?_
      refine ev_if_ge (tgt := 20) (pc' := 18) dX8_apart_15 rfl rfl (fun h => absurd h (by decide)) (fun _ => ?_)
      refine ev_iload_n (pc' := 19) (i := 3) dX8_apart_18 rfl rfl rfl ?_
      refine ev_iret dX8_apart_19 rfl rfl ⟨Nat.le_refl _, Nat.le_refl _⟩ ?_
      exact k3 c1 j10 h11 rfl j13 h14 rfl h16 h17
    · subst e20
      subst e23
      refine ev_istore_n (pc' := 14) (i := 3) (lv' := [some (.ref 115), some (.int (nI j18)), some (.int (nI j21)), some (.int 0)]) dX8_apart_13 rfl rfl (Nat.le_of_ble_eq_true rfl) rfl rfl ?_
      refine ev_iload_n (pc' := 15) (i := 3) dX8_apart_14 rfl rfl rfl ?_
      refine ev_if_ge (tgt := 20) (pc' := 18) dX8_apart_15 rfl rfl (fun _ => ?_) (fun h => absurd (by decide) h)
      refine ev_aload_n (pc' := 21) (i := 0) dX8_apart_20 rfl rfl rfl ?_
      refine ev_iload_n (pc' := 22) (i := 1) dX8_apart_21 rfl rfl rfl ?_
      refine ev_callV (pc' := 25) (rm' := rX8_isBall) (b := 115) (av := [.int (nI j18)]) (rest := []) co_X8_366 ci_X8_isBall cv_X8_isBall dX8_apart_22 rfl hs_115 hb_X8 rfl rfl (Nat.le_of_ble_eq_true rfl) ⟨(Nat.le_of_ble_eq_true rfl), (Nat.le_of_ble_eq_true rfl)⟩ ⟨(Nat.le_of_ble_eq_true rfl), (Nat.le_of_ble_eq_true rfl)⟩ ?_
      refine t_X8_isBall j18 (by omega) ?_
      refine ev_if_eq_b (tgt := 36) (pc' := 28) dX8_apart_25 rfl rfl (fun c30 => ?_) (fun c30 => ?_)
      · refine ev_aload_n (pc' := 37) (i := 0) dX8_apart_36 rfl rfl rfl ?_
        refine ev_iconst (pc' := 38) (v := 3) dX8_apart_37 rfl ki_3 ?_
        refine ev_callV (pc' := 41) (rm' := rX8_meets) (b := 115) (av := [.int 3]) (rest := []) co_X8_141 ci_X8_meets cv_X8_meets dX8_apart_38 rfl hs_115 hb_X8 rfl rfl (Nat.le_of_ble_eq_true rfl) ⟨(Nat.le_of_ble_eq_true rfl), (Nat.le_of_ble_eq_true rfl)⟩ ⟨(Nat.le_of_ble_eq_true rfl), (Nat.le_of_ble_eq_true rfl)⟩ ?_
        refine t_X8_meets 3 (by omega) ?_
        refine ev_mMt 3 ?_
        refine ev_iret dX8_apart_41 rfl rfl ⟨Nat.le_refl _, Nat.le_refl _⟩ ?_
        exact k4 c1 j18 h19 rfl j21 h22 rfl h24 h25 c30
      · refine ev_aload_n (pc' := 29) (i := 0) dX8_apart_28 rfl rfl rfl ?_
        refine ev_iload_n (pc' := 30) (i := 2) dX8_apart_29 rfl rfl rfl ?_
        refine ev_callV (pc' := 33) (rm' := rX8_isBall) (b := 115) (av := [.int (nI j21)]) (rest := []) co_X8_366 ci_X8_isBall cv_X8_isBall dX8_apart_30 rfl hs_115 hb_X8 rfl rfl (Nat.le_of_ble_eq_true rfl) ⟨(Nat.le_of_ble_eq_true rfl), (Nat.le_of_ble_eq_true rfl)⟩ ⟨(Nat.le_of_ble_eq_true rfl), (Nat.le_of_ble_eq_true rfl)⟩ ?_
        refine t_X8_isBall j21 (by omega) ?_
        refine ev_if_ne_b (tgt := 42) (pc' := 36) dX8_apart_33 rfl rfl (fun c31 => ?_) (fun c31 => ?_)
        · refine ev_aload_n (pc' := 43) (i := 0) dX8_apart_42 rfl rfl rfl ?_
          refine ev_iload_n (pc' := 44) (i := 1) dX8_apart_43 rfl rfl rfl ?_
          refine ev_aload_n (pc' := 45) (i := 0) dX8_apart_44 rfl rfl rfl ?_
          refine ev_getR (pc' := 48) fo_X8_67 dX8_apart_45 rfl hs_115 rfl rf_115_24 ?_
          refine ev_iconst (pc' := 49) (v := 0) dX8_apart_48 rfl ki_0 ?_
          refine ev_iconst (pc' := 50) (v := 0) dX8_apart_49 rfl ki_0 ?_
          refine ev_iconst (pc' := 51) (v := 0) dX8_apart_50 rfl ki_0 ?_
          refine ev_callV (pc' := 54) (rm' := rX8_layMoved) (b := 115) (av := [.int (nI j18), .ref 133, .int 0, .int 0, .int 0]) (rest := []) co_X8_369 ci_X8_layMoved cv_X8_layMoved dX8_apart_51 rfl hs_115 hb_X8 rfl rfl (Nat.le_of_ble_eq_true rfl) ⟨(Nat.le_of_ble_eq_true rfl), (Nat.le_of_ble_eq_true rfl)⟩ ⟨(Nat.le_of_ble_eq_true rfl), (Nat.le_of_ble_eq_true rfl)⟩ ?_
          refine t_X8_layMoved133 j18 0 0 0 (by omega) (fun N32 R33 hR33 => ?_)
          have hR33 : ∀ j, j < 16 → R33 j = (mMv (fun k => I 123 (16 * j18 + k)) (mTn (I 124) j18) 0 0 0) j := hR33
          refine ev_aload_n (pc' := 55) (i := 0) dX8_apart_54 rfl rfl rfl ?_
          refine ev_iload_n (pc' := 56) (i := 2) dX8_apart_55 rfl rfl rfl ?_
          refine ev_aload_n (pc' := 57) (i := 0) dX8_apart_56 rfl rfl rfl ?_
          refine ev_getR (pc' := 60) fo_X8_70 dX8_apart_57 rfl hs_115 rfl rf_115_25 ?_
          refine ev_iconst (pc' := 61) (v := 0) dX8_apart_60 rfl ki_0 ?_
          refine ev_iconst (pc' := 62) (v := 0) dX8_apart_61 rfl ki_0 ?_
          refine ev_iconst (pc' := 63) (v := 0) dX8_apart_62 rfl ki_0 ?_
          refine ev_callV (pc' := 66) (rm' := rX8_layMoved) (b := 115) (av := [.int (nI j21), .ref 134, .int 0, .int 0, .int 0]) (rest := []) co_X8_369 ci_X8_layMoved cv_X8_layMoved dX8_apart_63 rfl hs_115 hb_X8 rfl rfl (Nat.le_of_ble_eq_true rfl) ⟨(Nat.le_of_ble_eq_true rfl), (Nat.le_of_ble_eq_true rfl)⟩ ⟨(Nat.le_of_ble_eq_true rfl), (Nat.le_of_ble_eq_true rfl)⟩ ?_
          refine t_X8_layMoved134 j21 0 0 0 (by omega) (fun N34 R35 hR35 => ?_)
          have hR35 : ∀ j, j < 16 → R35 j = (mMv (fun k => I 123 (16 * j21 + k)) (mTn (I 124) j21) 0 0 0) j := hR35
          refine ev_aload_n (pc' := 67) (i := 0) dX8_apart_66 rfl rfl rfl ?_
          refine ev_callV (pc' := 70) (rm' := rX8_apartOf) (b := 115) (av := []) (rest := []) co_X8_373 ci_X8_apartOf cv_X8_apartOf dX8_apart_67 rfl hs_115 hb_X8 rfl rfl (Nat.le_of_ble_eq_true rfl) ⟨(Nat.le_of_ble_eq_true rfl), (Nat.le_of_ble_eq_true rfl)⟩ ⟨(Nat.le_of_ble_eq_true rfl), (Nat.le_of_ble_eq_true rfl)⟩ ?_
          have eF : mFm R33 R35 = (mFm (mMv (fun k => I 123 (16 * j18 + k)) (mTn (I 124) j18) 0 0 0) (mMv (fun k => I 123 (16 * j21 + k)) (mTn (I 124) j21) 0 0 0)) := mFm_congr hR33 hR35
          refine t_X8_apartOf (show mFok (mFm R33 R35) by rw [eF]; exact hok j18 j21 (by omega) (by omega) (by assumption) (by assumption)) (fun bb m0 s rl tw J K h1 h2 h3 h4 => ?_)
          have h1 : mPd (mFm (mMv (fun k => I 123 (16 * j18 + k)) (mTn (I 124) j18) 0 0 0) (mMv (fun k => I 123 (16 * j21 + k)) (mTn (I 124) j21) 0 0 0)) bb m0 s := by rw [← eF]; exact h1
          have h5 : mSx [125, 133, 134, 141] [36, 31, 35, 38, 39] I J := (((((mSx.rf (I := I)).le (A' := [125, 133, 134]) (B' := []) (fun _ h => absurd h List.not_mem_nil) (fun _ h => absurd h List.not_mem_nil)).up (by simp) (by decide)).up (by simp) (by decide)).up (by simp) (by decide) |>.up (by simp) (by decide) |>.trans h3)
          refine ev_iret dX8_apart_70 rfl rfl ⟨Nat.le_refl _, Nat.le_refl _⟩ ?_
          exact k5 c1 j18 h19 rfl j21 h22 rfl h24 h25 c30 c31 bb m0 s rl tw J K h1 h2 h5 h4
        · refine ev_aload_n (pc' := 37) (i := 0) dX8_apart_36 rfl rfl rfl ?_
          refine ev_iconst (pc' := 38) (v := 3) dX8_apart_37 rfl ki_3 ?_
          refine ev_callV (pc' := 41) (rm' := rX8_meets) (b := 115) (av := [.int 3]) (rest := []) co_X8_141 ci_X8_meets cv_X8_meets dX8_apart_38 rfl hs_115 hb_X8 rfl rfl (Nat.le_of_ble_eq_true rfl) ⟨(Nat.le_of_ble_eq_true rfl), (Nat.le_of_ble_eq_true rfl)⟩ ⟨(Nat.le_of_ble_eq_true rfl), (Nat.le_of_ble_eq_true rfl)⟩ ?_
          refine t_X8_meets 3 (by omega) ?_
          refine ev_mMt 3 ?_
          refine ev_iret dX8_apart_41 rfl rfl ⟨Nat.le_refl _, Nat.le_refl _⟩ ?_
          exact k6 c1 j18 h19 rfl j21 h22 rfl h24 h25 c30 c31
    · subst e28
      refine ev_istore_n (pc' := 14) (i := 3) (lv' := [some (.ref 115), some (.int (nI j26)), some (.int r), some (.int (-1))]) dX8_apart_13 rfl rfl (Nat.le_of_ble_eq_true rfl) rfl rfl ?_
      refine ev_iload_n (pc' := 15) (i := 3) dX8_apart_14 rfl rfl rfl ?_
      refine ev_if_ge (tgt := 20) (pc' := 18) dX8_apart_15 rfl rfl (fun h => absurd h (by decide)) (fun _ => ?_)
      refine ev_iload_n (pc' := 19) (i := 3) dX8_apart_18 rfl rfl rfl ?_
      refine ev_iret dX8_apart_19 rfl rfl ⟨Nat.le_refl _, Nat.le_refl _⟩ ?_
      exact k7 c1 j26 h27 rfl h29
  · refine ev_iconst (pc' := 6) (v := (-1)) dX8_apart_5 rfl ki_m1 ?_
    refine ev_iret dX8_apart_6 rfl rfl ⟨Nat.le_refl _, Nat.le_refl _⟩ ?_
    exact k8 c1
