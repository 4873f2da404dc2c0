theorem pm_1 (c : Prop) [Decidable c] : (if c then (1 : Int32) else (-1)) = 1 ∨ (if c then (1 : Int32) else (-1)) = -1 := by
  by_cases h : c
  · rw [if_pos h]; exact Or.inl rfl
  · rw [if_neg h]; exact Or.inr rfl
theorem pm_2 (c : Prop) [Decidable c] : (if c then (-1 : Int32) else 1) = 1 ∨ (if c then (-1 : Int32) else 1) = -1 := by
  by_cases h : c
  · rw [if_pos h]; exact Or.inr rfl
  · rw [if_neg h]; exact Or.inl rfl
set_option maxRecDepth 4000 in
theorem t_X7_meeting {g : ma_G} {Post : ma_P} {I : ma_I} {L : ma_L}  (a : Nat) (d : Nat) (o : Nat) (n f b n2 f2 e : Nat) (ha : HS a = (1, 3)) (hn : RF a 1 = n) (hf : RF a 2 = f) (hff : HS f = (9, 10)) (hnn : HS n = (4, 6)) (hrn : RF n 0 = b) (hb : HS b = (10, 16)) (hd : HS d = (1, 3)) (hnd : RF d 1 = n2) (hfd : RF d 2 = f2) (hff2 : HS f2 = (9, 10)) (ho : HS o = (4, 6)) (hro : RF o 0 = e) (he : HS e = (10, 16)) (hb16 : b ≠ 16) (he16 : e ≠ 16) (hP : ∀ m q : Int32, (m = 1 ∨ m = -1) → (q = 1 ∨ q = -1) → cFk (cFo (L b) (L e) m q)) (k1 : ∀ R9 : Nat → Int64, ∀ F10 : Nat → Int64, (∀ j, j < 5 → F10 j = (cFo (L b) (L e) (if ((I f) 1) ≤ ((I f) 2) then (-1) else 1) (if ((I f2) 1) ≤ ((I f2) 2) then (-1) else 1)) j) → ∀ L11 : ma_L, (L11 = (ma_up (ma_up (ma_up L 16 R9) 13 F10) 12 (ma_up (ma_up (L 12) 5 (cIi (cFo (L b) (L e) (if ((I f) 1) ≤ ((I f) 2) then (-1) else 1) (if ((I f2) 1) ≤ ((I f2) 2) then (-1) else 1)))) 6 (cJj (cFo (L b) (L e) (if ((I f) 1) ≤ ((I f) 2) then (-1) else 1) (if ((I f2) 1) ≤ ((I f2) 2) then (-1) else 1)))))) → ∀ Y12 : Nat → Int64, ∀ Z13 : Nat → Int64, ∀ V14 : Nat → Int64, ∀ W15 : Nat → Int64, Post (some (.int (cMb (cFig (L11 13) ((L11 12) 5) ((L11 12) 6)) (cSc (L11 13) 5).1))) HS I (ma_up (ma_up (ma_up (ma_up L11 20 Y12) 19 Z13) 23 V14) 22 W15) RF 146) : CT g yX7_meeting cX7_meeting 6 (some .int) rX7_meeting [.ref 3, .ref a, .ref d, .ref o] Post HS I L RF 146 := by
  refine ct_of (lv := [some (.ref 3), some (.ref a), some (.ref d), some (.ref o), none, none]) (by decide) (Nat.le_of_ble_eq_true rfl) rfl ?_
  refine ev_aload_n (pc' := 1) (i := 1) dX7_meeting_0 rfl rfl rfl ?_
  refine ev_callV (pc' := 4) (rm' := rX1_above) (b := a) (av := []) (rest := []) co_X7_164 ci_X1_above cv_X1_above dX7_meeting_1 rfl ha hb_X1 rfl rfl (Nat.le_of_ble_eq_true rfl) ⟨(Nat.le_of_ble_eq_true rfl), (Nat.le_of_ble_eq_true rfl)⟩ ⟨(Nat.le_of_ble_eq_true rfl), (Nat.le_of_ble_eq_true rfl)⟩ ?_
  refine t_X1_above a n f ha hn hf hff ?_
  refine ev_aload_n (pc' := 5) (i := 1) dX7_meeting_4 rfl rfl rfl ?_
  refine ev_callV (pc' := 8) (rm' := rX1_below) (b := a) (av := []) (rest := [.int ((I f) 1)]) co_X7_167 ci_X1_below cv_X1_below dX7_meeting_5 rfl ha hb_X1 rfl rfl (Nat.le_of_ble_eq_true rfl) ⟨(Nat.le_of_ble_eq_true rfl), (Nat.le_of_ble_eq_true rfl)⟩ ⟨(Nat.le_of_ble_eq_true rfl), (Nat.le_of_ble_eq_true rfl)⟩ ?_
  refine t_X1_below a n f ha hn hf hff ?_
  suffices K3 : ∀ x2 : Int32, x2 = (if ((I f) 1) ≤ ((I f) 2) then (-1) else 1) → EV g yX7_meeting cX7_meeting 6 (some .int) rX7_meeting (ma_ZM g rX7_meeting Post) 16 [some (.ref 3), some (.ref a), some (.ref d), some (.ref o), none, none] [.int x2] HS I L RF 146 0 0 by
    refine ev_icmp_le (tgt := 15) (pc' := 11) dX7_meeting_8 rfl rfl (fun c4 => ?_) (fun c4 => ?_)
    · refine ev_iconst (pc' := 16) (v := (-1)) dX7_meeting_15 rfl ki_m1 ?_
      exact K3 _ (by rw [if_pos c4])
    · refine ev_iconst (pc' := 12) (v := 1) dX7_meeting_11 rfl ki_1 ?_
      refine ev_goto (tgt := 16) dX7_meeting_12 rfl ?_
      exact K3 _ (by rw [if_neg c4])
  intro x2 hx2
  subst hx2
  refine ev_istore (pc' := 18) (lv' := [some (.ref 3), some (.ref a), some (.ref d), some (.ref o), some (.int (if ((I f) 1) ≤ ((I f) 2) then (-1) else 1)), none]) dX7_meeting_16 rfl (Nat.le_of_ble_eq_true rfl) rfl rfl ?_
  refine ev_aload_n (pc' := 19) (i := 2) dX7_meeting_18 rfl rfl rfl ?_
  refine ev_callV (pc' := 22) (rm' := rX1_above) (b := d) (av := []) (rest := []) co_X7_164 ci_X1_above cv_X1_above dX7_meeting_19 rfl hd hb_X1 rfl rfl (Nat.le_of_ble_eq_true rfl) ⟨(Nat.le_of_ble_eq_true rfl), (Nat.le_of_ble_eq_true rfl)⟩ ⟨(Nat.le_of_ble_eq_true rfl), (Nat.le_of_ble_eq_true rfl)⟩ ?_
  refine t_X1_above d n2 f2 hd hnd hfd hff2 ?_
  refine ev_aload_n (pc' := 23) (i := 2) dX7_meeting_22 rfl rfl rfl ?_
  refine ev_callV (pc' := 26) (rm' := rX1_below) (b := d) (av := []) (rest := [.int ((I f2) 1)]) co_X7_167 ci_X1_below cv_X1_below dX7_meeting_23 rfl hd hb_X1 rfl rfl (Nat.le_of_ble_eq_true rfl) ⟨(Nat.le_of_ble_eq_true rfl), (Nat.le_of_ble_eq_true rfl)⟩ ⟨(Nat.le_of_ble_eq_true rfl), (Nat.le_of_ble_eq_true rfl)⟩ ?_
  refine t_X1_below d n2 f2 hd hnd hfd hff2 ?_
  suffices K7 : ∀ x6 : Int32, x6 = (if ((I f2) 1) ≤ ((I f2) 2) then (-1) else 1) → EV g yX7_meeting cX7_meeting 6 (some .int) rX7_meeting (ma_ZM g rX7_meeting Post) 34 [some (.ref 3), some (.ref a), some (.ref d), some (.ref o), some (.int (if ((I f) 1) ≤ ((I f) 2) then (-1) else 1)), none] [.int x6] HS I L RF 146 0 0 by
    refine ev_icmp_le (tgt := 33) (pc' := 29) dX7_meeting_26 rfl rfl (fun c8 => ?_) (fun c8 => ?_)
    · refine ev_iconst (pc' := 34) (v := (-1)) dX7_meeting_33 rfl ki_m1 ?_
      exact K7 _ (by rw [if_pos c8])
    · refine ev_iconst (pc' := 30) (v := 1) dX7_meeting_29 rfl ki_1 ?_
      refine ev_goto (tgt := 34) dX7_meeting_30 rfl ?_
      exact K7 _ (by rw [if_neg c8])
  intro x6 hx6
  subst hx6
  refine ev_istore (pc' := 36) (lv' := [some (.ref 3), some (.ref a), some (.ref d), some (.ref o), some (.int (if ((I f) 1) ≤ ((I f) 2) then (-1) else 1)), some (.int (if ((I f2) 1) ≤ ((I f2) 2) then (-1) else 1))]) dX7_meeting_34 rfl (Nat.le_of_ble_eq_true rfl) rfl rfl ?_
  refine ev_aload_n (pc' := 37) (i := 0) dX7_meeting_36 rfl rfl rfl ?_
  refine ev_getR (pc' := 40) fo_X7_34 dX7_meeting_37 rfl hs_3 rfl rf_3_4 ?_
  refine ev_aload_n (pc' := 41) (i := 1) dX7_meeting_40 rfl rfl rfl ?_
  refine ev_getR (pc' := 44) fo_X7_141 dX7_meeting_41 rfl ha rfl hn ?_
  refine ev_iload (pc' := 46) dX7_meeting_44 rfl rfl ?_
  refine ev_aload_n (pc' := 47) (i := 3) dX7_meeting_46 rfl rfl rfl ?_
  refine ev_iload (pc' := 49) dX7_meeting_47 rfl rfl ?_
  refine ev_callV (pc' := 52) (rm' := rX0_read) (b := 12) (av := [.ref n, .int (if ((I f) 1) ≤ ((I f) 2) then (-1) else 1), .ref o, .int (if ((I f2) 1) ≤ ((I f2) 2) then (-1) else 1)]) (rest := []) co_X7_347 ci_X0_read cv_X0_read dX7_meeting_49 rfl hs_12 hb_X0 rfl rfl (Nat.le_of_ble_eq_true rfl) ⟨(Nat.le_of_ble_eq_true rfl), (Nat.le_of_ble_eq_true rfl)⟩ ⟨(Nat.le_of_ble_eq_true rfl), (Nat.le_of_ble_eq_true rfl)⟩ ?_
  refine t_X0_read n (if ((I f) 1) ≤ ((I f) 2) then (-1) else 1) o (if ((I f2) 1) ≤ ((I f2) 2) then (-1) else 1) b e hnn hrn hb (by omega) ho hro he (by omega) (fun R9 F10 hF10 => ?_)
  refine ev_aload_n (pc' := 53) (i := 0) dX7_meeting_52 rfl rfl rfl ?_
  refine ev_getR (pc' := 56) fo_X7_34 dX7_meeting_53 rfl hs_3 rfl rf_3_4 ?_
  refine ev_callV (pc' := 59) (rm' := rX0_meetingOfBalls) (b := 12) (av := []) (rest := []) co_X7_351 ci_X0_meetingOfBalls cv_X0_meetingOfBalls dX7_meeting_56 rfl hs_12 hb_X0 rfl rfl (Nat.le_of_ble_eq_true rfl) ⟨(Nat.le_of_ble_eq_true rfl), (Nat.le_of_ble_eq_true rfl)⟩ ⟨(Nat.le_of_ble_eq_true rfl), (Nat.le_of_ble_eq_true rfl)⟩ ?_
  refine ct_memL (fun L11 hL11 => ?_)
  have hI : ((L11 12) 5).toInt.natAbs < 288230376151711744 := by rw [hL11]; exact (hP _ _ (by first | exact pm_1 _ | exact pm_2 _) (by first | exact pm_1 _ | exact pm_2 _)).1
  have hJ : ((L11 12) 6).toInt ≠ -9223372036854775808 := by rw [hL11]; exact (hP _ _ (by first | exact pm_1 _ | exact pm_2 _) (by first | exact pm_1 _ | exact pm_2 _)).2.1
  have hA : ((L11 13) 0).toInt.natAbs < 288230376151711744 := by rw [hL11]; show (F10 0).toInt.natAbs < _; rw [hF10 0 (by omega)]; exact (hP _ _ (by first | exact pm_1 _ | exact pm_2 _) (by first | exact pm_1 _ | exact pm_2 _)).2.2.1
  have hE : (((8 * ((L11 13) 0)) * ((L11 13) 2)) - ((3 * ((L11 13) 1)) * ((L11 13) 1))).toInt ≠ -9223372036854775808 := by rw [hL11]; show (((8 * (F10 0)) * (F10 2)) - ((3 * (F10 1)) * (F10 1))).toInt ≠ _; rw [hF10 0 (by omega), hF10 1 (by omega), hF10 2 (by omega)]; exact (hP _ _ (by first | exact pm_1 _ | exact pm_2 _) (by first | exact pm_1 _ | exact pm_2 _)).2.2.2
  refine t_X0_meetingOfBalls hI hJ hA hE (fun Y12 Z13 V14 W15 => ?_)
  refine ev_iret dX7_meeting_59 rfl rfl ⟨Nat.le_refl _, Nat.le_refl _⟩ ?_
  exact k1 R9 F10 hF10 L11 hL11 Y12 Z13 V14 W15
set_option maxRecDepth 4000 in
theorem t_X7_apart {g : ma_G} {Post : ma_P} {I : ma_I} {L : ma_L}  (q : Int32) (r : Int32) (hP : ∀ g h, g < 12 → h < 12 → ∀ m q : Int32, (m = 1 ∨ m = -1) → (q = 1 ∨ q = -1) → cFk (cFo (L (57 + 5 * g)) (L (57 + 5 * h)) m q)) (k1 : (¬ q = r) → ((q < 0) ∨ (¬ q < 12)) → Post (some (.int (-1))) HS I L RF 146) (k2 : (¬ q = r) → ∀ j3 : Nat, (j3 < 12) → q = nI j3 → ∀ j6 : Nat, (j6 < 12) → r = nI j6 → (((I (55 + 5 * j3)) 0) = 0) → Post (some (.int (-3))) HS (cRf I 1) L RF 146) (k3 : (¬ q = r) → ∀ j10 : Nat, (j10 < 12) → q = nI j10 → ∀ j13 : Nat, (j13 < 12) → r = nI j13 → (¬ ((I (55 + 5 * j10)) 0) = 0) → (¬ ((I (55 + 5 * j13)) 0) = 0) → (¬ cIs (I (59 + 5 * j10)) 3) → Post (some (.int (-3))) HS (cRf I 3) L RF 146) (k4 : (¬ q = r) → ∀ j10 : Nat, (j10 < 12) → q = nI j10 → ∀ j13 : Nat, (j13 < 12) → r = nI j13 → (¬ ((I (55 + 5 * j10)) 0) = 0) → (¬ ((I (55 + 5 * j13)) 0) = 0) → (cIs (I (59 + 5 * j10)) 3) → (¬ cIs (I (59 + 5 * j13)) 3) → Post (some (.int (-3))) HS (cRf I 3) L RF 146) (k5 : (¬ q = r) → ∀ j10 : Nat, (j10 < 12) → q = nI j10 → ∀ j13 : Nat, (j13 < 12) → r = nI j13 → (¬ ((I (55 + 5 * j10)) 0) = 0) → (¬ ((I (55 + 5 * j13)) 0) = 0) → (cIs (I (59 + 5 * j10)) 3) → (cIs (I (59 + 5 * j13)) 3) → ∀ j32 : Nat → Int64, ∀ j33 : Nat → Int64, (∀ j, j < 5 → j33 j = (cFo (L (57 + 5 * j10)) (L (57 + 5 * j13)) (if ((I (59 + 5 * j10)) 1) ≤ ((I (59 + 5 * j10)) 2) then (-1) else 1) (if ((I (59 + 5 * j13)) 1) ≤ ((I (59 + 5 * j13)) 2) then (-1) else 1)) j) → ∀ j35 : ma_L, (j35 = (ma_up (ma_up (ma_up L 16 j32) 13 j33) 12 (ma_up (ma_up (L 12) 5 (cIi (cFo (L (57 + 5 * j10)) (L (57 + 5 * j13)) (if ((I (59 + 5 * j10)) 1) ≤ ((I (59 + 5 * j10)) 2) then (-1) else 1) (if ((I (59 + 5 * j13)) 1) ≤ ((I (59 + 5 * j13)) 2) then (-1) else 1)))) 6 (cJj (cFo (L (57 + 5 * j10)) (L (57 + 5 * j13)) (if ((I (59 + 5 * j10)) 1) ≤ ((I (59 + 5 * j10)) 2) then (-1) else 1) (if ((I (59 + 5 * j13)) 1) ≤ ((I (59 + 5 * j13)) 2) then (-1) else 1)))))) → ∀ j37 : Nat → Int64, ∀ j38 : Nat → Int64, ∀ j39 : Nat → Int64, ∀ j40 : Nat → Int64, Post (some (.int (cMb (cFig (j35 13) ((j35 12) 5) ((j35 12) 6)) (cSc (j35 13) 5).1))) HS I (ma_up (ma_up (ma_up (ma_up j35 20 j37) 19 j38) 23 j39) 22 j40) RF 146) (k6 : (¬ q = r) → ∀ j18 : Nat, (j18 < 12) → q = nI j18 → ∀ j21 : Nat, (j21 < 12) → r = nI j21 → (¬ ((I (55 + 5 * j18)) 0) = 0) → (((I (55 + 5 * j21)) 0) = 0) → Post (some (.int (-3))) HS (cRf I 1) L RF 146) (k7 : (¬ q = r) → ∀ j26 : Nat, (j26 < 12) → q = nI j26 → ((r < 0) ∨ (¬ r < 12)) → Post (some (.int (-1))) HS I L RF 146) (k8 : (q = r) → Post (some (.int (-1))) HS I L RF 146) : CT g yX7_apart cX7_apart 4 (some .int) rX7_apart [.ref 3, .int q, .int r] Post HS I L RF 146 := by
  refine ct_of (lv := [some (.ref 3), some (.int q), some (.int r), none]) (by decide) (Nat.le_of_ble_eq_true rfl) rfl ?_
  refine ev_iload_n (pc' := 1) (i := 1) dX7_apart_0 rfl rfl rfl ?_
  refine ev_iload_n (pc' := 2) (i := 2) dX7_apart_1 rfl rfl rfl ?_
  refine ev_icmp_ne (tgt := 7) (pc' := 5) dX7_apart_2 rfl rfl (fun c1 => ?_) (fun c1 => ?_)
  · refine ev_aload_n (pc' := 8) (i := 0) dX7_apart_7 rfl rfl rfl ?_
    refine ev_iload_n (pc' := 9) (i := 1) dX7_apart_8 rfl rfl rfl ?_
    refine ev_iload_n (pc' := 10) (i := 2) dX7_apart_9 rfl rfl rfl ?_
    refine ev_callV (pc' := 13) (rm' := rX7_refusedPair) (b := 3) (av := [.int q, .int r]) (rest := []) co_X7_196 ci_X7_refusedPair cv_X7_refusedPair dX7_apart_10 rfl hs_3 hb_X7 rfl rfl (Nat.le_of_ble_eq_true rfl) ⟨(Nat.le_of_ble_eq_true rfl), (Nat.le_of_ble_eq_true rfl)⟩ ⟨(Nat.le_of_ble_eq_true rfl), (Nat.le_of_ble_eq_true rfl)⟩ ?_
    refine t_X7_refusedPair q r  (fun h2 => ?_) (fun j3 h4 e5 j6 h7 e8 h9 => ?_) (fun j10 h11 e12 j13 h14 e15 h16 h17 => ?_) (fun j18 h19 e20 j21 h22 e23 h24 h25 => ?_) (fun j26 h27 e28 h29 => ?_)
    · skip
      refine ev_istore_n (pc' := 14) (i := 3) (lv' := [some (.ref 3), some (.int q), some (.int r), some (.int (-1))]) dX7_apart_13 rfl rfl (Nat.le_of_ble_eq_true rfl) rfl rfl ?_
      refine ev_iload_n (pc' := 15) (i := 3) dX7_apart_14 rfl rfl rfl ?_
      refine ev_if_eq (tgt := 20) (pc' := 18) dX7_apart_15 rfl rfl (fun h => absurd h (by decide)) (fun _ => ?_)
      refine ev_iload_n (pc' := 19) (i := 3) dX7_apart_18 rfl rfl rfl ?_
      refine ev_iret dX7_apart_19 rfl rfl ⟨Nat.le_refl _, Nat.le_refl _⟩ ?_
      exact k1 c1 h2
    · subst e5
      subst e8
      refine ev_istore_n (pc' := 14) (i := 3) (lv' := [some (.ref 3), some (.int (nI j3)), some (.int (nI j6)), some (.int (-3))]) dX7_apart_13 rfl rfl (Nat.le_of_ble_eq_true rfl) rfl rfl ?_
      refine ev_iload_n (pc' := 15) (i := 3) dX7_apart_14 rfl rfl rfl ?_
      refine ev_if_eq (tgt := 20) (pc' := 18) dX7_apart_15 rfl rfl (fun h => absurd h (by decide)) (fun _ => ?_)
      refine ev_iload_n (pc' := 19) (i := 3) dX7_apart_18 rfl rfl rfl ?_
      refine ev_iret dX7_apart_19 rfl rfl ⟨Nat.le_refl _, Nat.le_refl _⟩ ?_
      exact k2 c1 j3 h4 rfl j6 h7 rfl h9
    · subst e12
      subst e15
      refine ev_istore_n (pc' := 14) (i := 3) (lv' := [some (.ref 3), some (.int (nI j10)), some (.int (nI j13)), some (.int 0)]) dX7_apart_13 rfl rfl (Nat.le_of_ble_eq_true rfl) rfl rfl ?_
      refine ev_iload_n (pc' := 15) (i := 3) dX7_apart_14 rfl rfl rfl ?_
      refine ev_if_eq (tgt := 20) (pc' := 18) dX7_apart_15 rfl rfl (fun _ => ?_) (fun h => absurd (by decide) h)
      refine ev_aload_n (pc' := 21) (i := 0) dX7_apart_20 rfl rfl rfl ?_
      refine ev_getR (pc' := 24) fo_X7_17 dX7_apart_21 rfl hs_3 rfl rf_3_1 ?_
      refine ev_iload_n (pc' := 25) (i := 1) dX7_apart_24 rfl rfl rfl ?_
      refine ev_aald (pc' := 26) (j := j10) (b := 55 + 5 * j10) dX7_apart_25 rfl hs_5 (Or.inr rfl) rfl (by omega) (Nat.le_of_ble_eq_true rfl) (hs_ground j10 (by omega)).2.2.2.2.2.2.2.2.2 ?_
      refine ev_iconst (pc' := 27) (v := 3) dX7_apart_26 rfl ki_3 ?_
      refine ev_callV (pc' := 30) (rm' := rX1_is) (b := 55 + 5 * j10) (av := [.int 3]) (rest := []) co_X7_150 ci_X1_is cv_X1_is dX7_apart_27 rfl (hs_ground j10 (by omega)).1 hb_X1 rfl rfl (Nat.le_of_ble_eq_true rfl) ⟨(Nat.le_of_ble_eq_true rfl), (Nat.le_of_ble_eq_true rfl)⟩ ⟨(Nat.le_of_ble_eq_true rfl), (Nat.le_of_ble_eq_true rfl)⟩ ?_
      refine t_X1_is (55 + 5 * j10) (56 + 5 * j10) (59 + 5 * j10) (hs_ground j10 (by omega)).1 (hs_ground j10 (by omega)).2.2.2.2.2.1 (hs_ground j10 (by omega)).2.2.2.2.2.2.1 (hs_ground j10 (by omega)).2.2.2.2.1 3 (fun h30 => ?_) (fun h30 => ?_)
      · skip
        refine ev_if_eq (tgt := 46) (pc' := 33) dX7_apart_30 rfl rfl (fun _ => ?_) (fun h => absurd (by decide) h)
        refine ev_aload_n (pc' := 47) (i := 0) dX7_apart_46 rfl rfl rfl ?_
        refine ev_iconst (pc' := 48) (v := 3) dX7_apart_47 rfl ki_3 ?_
        refine ev_callV (pc' := 51) (rm' := rX7_refuse) (b := 3) (av := [.int 3]) (rest := []) co_X7_79 ci_X7_refuse cv_X7_refuse dX7_apart_48 rfl hs_3 hb_X7 rfl rfl (Nat.le_of_ble_eq_true rfl) ⟨(Nat.le_of_ble_eq_true rfl), (Nat.le_of_ble_eq_true rfl)⟩ ⟨(Nat.le_of_ble_eq_true rfl), (Nat.le_of_ble_eq_true rfl)⟩ ?_
        refine t_X7_refuse3 ?_
        refine ev_cRf 3 ?_
        refine ev_iret dX7_apart_51 rfl rfl ⟨Nat.le_refl _, Nat.le_refl _⟩ ?_
        exact k3 c1 j10 h11 rfl j13 h14 rfl h16 h17 h30
      · skip
        refine ev_if_eq (tgt := 46) (pc' := 33) dX7_apart_30 rfl rfl (fun h => absurd h (by decide)) (fun _ => ?_)
        refine ev_aload_n (pc' := 34) (i := 0) dX7_apart_33 rfl rfl rfl ?_
        refine ev_getR (pc' := 37) fo_X7_17 dX7_apart_34 rfl hs_3 rfl rf_3_1 ?_
        refine ev_iload_n (pc' := 38) (i := 2) dX7_apart_37 rfl rfl rfl ?_
        refine ev_aald (pc' := 39) (j := j13) (b := 55 + 5 * j13) dX7_apart_38 rfl hs_5 (Or.inr rfl) rfl (by omega) (Nat.le_of_ble_eq_true rfl) (hs_ground j13 (by omega)).2.2.2.2.2.2.2.2.2 ?_
        refine ev_iconst (pc' := 40) (v := 3) dX7_apart_39 rfl ki_3 ?_
        refine ev_callV (pc' := 43) (rm' := rX1_is) (b := 55 + 5 * j13) (av := [.int 3]) (rest := []) co_X7_150 ci_X1_is cv_X1_is dX7_apart_40 rfl (hs_ground j13 (by omega)).1 hb_X1 rfl rfl (Nat.le_of_ble_eq_true rfl) ⟨(Nat.le_of_ble_eq_true rfl), (Nat.le_of_ble_eq_true rfl)⟩ ⟨(Nat.le_of_ble_eq_true rfl), (Nat.le_of_ble_eq_true rfl)⟩ ?_
        refine t_X1_is (55 + 5 * j13) (56 + 5 * j13) (59 + 5 * j13) (hs_ground j13 (by omega)).1 (hs_ground j13 (by omega)).2.2.2.2.2.1 (hs_ground j13 (by omega)).2.2.2.2.2.2.1 (hs_ground j13 (by omega)).2.2.2.2.1 3 (fun h31 => ?_) (fun h31 => ?_)
        · skip
          refine ev_if_ne (tgt := 52) (pc' := 46) dX7_apart_43 rfl rfl (fun h => absurd (by decide) h) (fun _ => ?_)
          refine ev_aload_n (pc' := 47) (i := 0) dX7_apart_46 rfl rfl rfl ?_
          refine ev_iconst (pc' := 48) (v := 3) dX7_apart_47 rfl ki_3 ?_
          refine ev_callV (pc' := 51) (rm' := rX7_refuse) (b := 3) (av := [.int 3]) (rest := []) co_X7_79 ci_X7_refuse cv_X7_refuse dX7_apart_48 rfl hs_3 hb_X7 rfl rfl (Nat.le_of_ble_eq_true rfl) ⟨(Nat.le_of_ble_eq_true rfl), (Nat.le_of_ble_eq_true rfl)⟩ ⟨(Nat.le_of_ble_eq_true rfl), (Nat.le_of_ble_eq_true rfl)⟩ ?_
          refine t_X7_refuse3 ?_
          refine ev_cRf 3 ?_
          refine ev_iret dX7_apart_51 rfl rfl ⟨Nat.le_refl _, Nat.le_refl _⟩ ?_
          exact k4 c1 j10 h11 rfl j13 h14 rfl h16 h17 h30 h31
        · skip
          refine ev_if_ne (tgt := 52) (pc' := 46) dX7_apart_43 rfl rfl (fun _ => ?_) (fun h => absurd h (by decide))
          refine ev_aload_n (pc' := 53) (i := 0) dX7_apart_52 rfl rfl rfl ?_
          refine ev_aload_n (pc' := 54) (i := 0) dX7_apart_53 rfl rfl rfl ?_
          refine ev_getR (pc' := 57) fo_X7_17 dX7_apart_54 rfl hs_3 rfl rf_3_1 ?_
          refine ev_iload_n (pc' := 58) (i := 1) dX7_apart_57 rfl rfl rfl ?_
          refine ev_aald (pc' := 59) (j := j10) (b := 55 + 5 * j10) dX7_apart_58 rfl hs_5 (Or.inr rfl) rfl (by omega) (Nat.le_of_ble_eq_true rfl) (hs_ground j10 (by omega)).2.2.2.2.2.2.2.2.2 ?_
          refine ev_aload_n (pc' := 60) (i := 0) dX7_apart_59 rfl rfl rfl ?_
          refine ev_getR (pc' := 63) fo_X7_17 dX7_apart_60 rfl hs_3 rfl rf_3_1 ?_
          refine ev_iload_n (pc' := 64) (i := 2) dX7_apart_63 rfl rfl rfl ?_
          refine ev_aald (pc' := 65) (j := j13) (b := 55 + 5 * j13) dX7_apart_64 rfl hs_5 (Or.inr rfl) rfl (by omega) (Nat.le_of_ble_eq_true rfl) (hs_ground j13 (by omega)).2.2.2.2.2.2.2.2.2 ?_
          refine ev_aload_n (pc' := 66) (i := 0) dX7_apart_65 rfl rfl rfl ?_
          refine ev_getR (pc' := 69) fo_X7_17 dX7_apart_66 rfl hs_3 rfl rf_3_1 ?_
          refine ev_iload_n (pc' := 70) (i := 2) dX7_apart_69 rfl rfl rfl ?_
          refine ev_aald (pc' := 71) (j := j13) (b := 55 + 5 * j13) dX7_apart_70 rfl hs_5 (Or.inr rfl) rfl (by omega) (Nat.le_of_ble_eq_true rfl) (hs_ground j13 (by omega)).2.2.2.2.2.2.2.2.2 ?_
          refine ev_getR (pc' := 74) fo_X7_141 dX7_apart_71 rfl (hs_ground j13 (by omega)).1 rfl (hs_ground j13 (by omega)).2.2.2.2.2.1 ?_
          refine ev_callV (pc' := 77) (rm' := rX7_meeting) (b := 3) (av := [.ref (55 + 5 * j10), .ref (55 + 5 * j13), .ref (56 + 5 * j13)]) (rest := []) co_X7_310 ci_X7_meeting cv_X7_meeting dX7_apart_74 rfl hs_3 hb_X7 rfl rfl (Nat.le_of_ble_eq_true rfl) ⟨(Nat.le_of_ble_eq_true rfl), (Nat.le_of_ble_eq_true rfl)⟩ ⟨(Nat.le_of_ble_eq_true rfl), (Nat.le_of_ble_eq_true rfl)⟩ ?_
          refine t_X7_meeting (55 + 5 * j10) (55 + 5 * j13) (56 + 5 * j13) (56 + 5 * j10) (59 + 5 * j10) (57 + 5 * j10) (56 + 5 * j13) (59 + 5 * j13) (57 + 5 * j13) (hs_ground j10 (by omega)).1 (hs_ground j10 (by omega)).2.2.2.2.2.1 (hs_ground j10 (by omega)).2.2.2.2.2.2.1 (hs_ground j10 (by omega)).2.2.2.2.1 (hs_ground j10 (by omega)).2.1 (hs_ground j10 (by omega)).2.2.2.2.2.2.2.1 (hs_ground j10 (by omega)).2.2.1 (hs_ground j13 (by omega)).1 (hs_ground j13 (by omega)).2.2.2.2.2.1 (hs_ground j13 (by omega)).2.2.2.2.2.2.1 (hs_ground j13 (by omega)).2.2.2.2.1 (hs_ground j13 (by omega)).2.1 (hs_ground j13 (by omega)).2.2.2.2.2.2.2.1 (hs_ground j13 (by omega)).2.2.1 (by omega) (by omega) (hP j10 j13 (by omega) (by omega)) (fun j32 j33 h34 j35 h36 j37 j38 j39 j40 => ?_)
          refine ev_iret dX7_apart_77 rfl rfl ⟨Nat.le_refl _, Nat.le_refl _⟩ ?_
          exact k5 c1 j10 h11 rfl j13 h14 rfl h16 h17 h30 h31 j32 j33 h34 j35 h36 j37 j38 j39 j40
    · subst e20
      subst e23
      refine ev_istore_n (pc' := 14) (i := 3) (lv' := [some (.ref 3), some (.int (nI j18)), some (.int (nI j21)), some (.int (-3))]) dX7_apart_13 rfl rfl (Nat.le_of_ble_eq_true rfl) rfl rfl ?_
      refine ev_iload_n (pc' := 15) (i := 3) dX7_apart_14 rfl rfl rfl ?_
      refine ev_if_eq (tgt := 20) (pc' := 18) dX7_apart_15 rfl rfl (fun h => absurd h (by decide)) (fun _ => ?_)
      refine ev_iload_n (pc' := 19) (i := 3) dX7_apart_18 rfl rfl rfl ?_
      refine ev_iret dX7_apart_19 rfl rfl ⟨Nat.le_refl _, Nat.le_refl _⟩ ?_
      exact k6 c1 j18 h19 rfl j21 h22 rfl h24 h25
    · subst e28
      refine ev_istore_n (pc' := 14) (i := 3) (lv' := [some (.ref 3), some (.int (nI j26)), some (.int r), some (.int (-1))]) dX7_apart_13 rfl rfl (Nat.le_of_ble_eq_true rfl) rfl rfl ?_
      refine ev_iload_n (pc' := 15) (i := 3) dX7_apart_14 rfl rfl rfl ?_
      refine ev_if_eq (tgt := 20) (pc' := 18) dX7_apart_15 rfl rfl (fun h => absurd h (by decide)) (fun _ => ?_)
      refine ev_iload_n (pc' := 19) (i := 3) dX7_apart_18 rfl rfl rfl ?_
      refine ev_iret dX7_apart_19 rfl rfl ⟨Nat.le_refl _, Nat.le_refl _⟩ ?_
      exact k7 c1 j26 h27 rfl h29
  · refine ev_iconst (pc' := 6) (v := (-1)) dX7_apart_5 rfl ki_m1 ?_
    refine ev_iret dX7_apart_6 rfl rfl ⟨Nat.le_refl _, Nat.le_refl _⟩ ?_
    exact k8 c1
