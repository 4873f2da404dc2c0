def cEe (f : Nat → Int64) : Int64 := ((8 * (f 0)) * (f 2)) - ((3 * (f 1)) * (f 1))
def cLe (f : Nat → Int64) : Int32 := mSg (((((f 1) * (f 1)) * (f 1)) + (((8 * (f 0)) * (f 0)) * (f 3))) - (((4 * (f 0)) * (f 1)) * (f 2))) * mSg (f 0)
def cDi (f : Nat → Int64) : Int32 := mSg (((f 3) * (f 3)) - ((4 * (f 2)) * (f 4)))
def cF2 (f : Nat → Int64) : Int32 := if cDi f = 0 then 22 else if cDi f ≤ 0 then 25 else 112
def cF3 (f : Nat → Int64) (i j : Int64) : Int32 := if cSa i j = 0 then (if i = 0 then 31 else if mSg j = mSg (f 1) then 211 else 121) else if cSa i j ≤ 0 then 115 else 1111
def cAr (f : Nat → Int64) (i : Int64) : Prop := ¬ 0 ≤ cEe f ∧ ¬ 0 ≤ cSp (f 0) (cEe f) i
def cF4 (f : Nat → Int64) (i j : Int64) : Int32 :=
  if 0 ≤ cSa i j then
    if cSa i j ≤ 0 then
      if i = 0 then (if cLe f = 0 then 4 else if cLe f ≤ 0 then 31 else 13)
      else if cLe f = 0 ∧ cSp (f 0) (cEe f) i = 0 then (if 0 ≤ cEe f then 6 else 22)
      else if 0 ≤ cEe f ∨ 0 ≤ cSp (f 0) (cEe f) i then 25
      else if mSg j = mSg (f 0) then 121 else if 0 ≤ cLe f then 112 else 211
    else if 0 ≤ cEe f ∨ 0 ≤ cSp (f 0) (cEe f) i then 55 else 1111
  else 115
def cFig (f : Nat → Int64) (i j : Int64) : Int32 := if f 0 = 0 then (if f 1 = 0 then (if f 2 = 0 then (if f 3 = 0 then (if f 4 = 0 then 0 else 4) else 13) else cF2 f) else cF3 f i j) else cF4 f i j
set_option maxRecDepth 4000 in
theorem t_X0_figuresOfTwo {g : ma_G} {Post : ma_P} {I : ma_I} {L : ma_L} (hI : ((L 12) 5).toInt.natAbs < 288230376151711744) (hJ : ((L 12) 6).toInt ≠ -9223372036854775808) (hA : ((L 13) 0).toInt.natAbs < 288230376151711744) (hE : (((8 * ((L 13) 0)) * ((L 13) 2)) - ((3 * ((L 13) 1)) * ((L 13) 1))).toInt ≠ -9223372036854775808) (k0 : ∀ Y Z V W : Nat → Int64, Post (some (.int (cF2 (L 13)))) HS I (ma_up (ma_up (ma_up (ma_up L 20 Y) 19 Z) 23 V) 22 W) RF 146) : CT g yX0_figuresOfTwo cX0_figuresOfTwo 2 (some .int) rX0_figuresOfTwo [.ref 12] Post HS I L RF 146 := by
  refine ct_of (lv := [some (.ref 12), none]) (by decide) (Nat.le_of_ble_eq_true rfl) rfl ?_
  refine ev_aload_n (pc' := 1) (i := 0) dX0_figuresOfTwo_0 rfl rfl rfl ?_
  refine ev_getR (pc' := 4) fo_X0_9 dX0_figuresOfTwo_1 rfl hs_12 rfl rf_12_0 ?_
  refine ev_iconst (pc' := 5) (v := 3) dX0_figuresOfTwo_4 rfl ki_3 ?_
  refine ev_lald (pc' := 6) (j := 3) (v := (L 13) 3) dX0_figuresOfTwo_5 rfl hs_13 rfl (Nat.le_of_ble_eq_true rfl) (Nat.le_of_ble_eq_true rfl) rfl ?_
  refine ev_aload_n (pc' := 7) (i := 0) dX0_figuresOfTwo_6 rfl rfl rfl ?_
  refine ev_getR (pc' := 10) fo_X0_9 dX0_figuresOfTwo_7 rfl hs_12 rfl rf_12_0 ?_
  refine ev_iconst (pc' := 11) (v := 3) dX0_figuresOfTwo_10 rfl ki_3 ?_
  refine ev_lald (pc' := 12) (j := 3) (v := (L 13) 3) dX0_figuresOfTwo_11 rfl hs_13 rfl (Nat.le_of_ble_eq_true rfl) (Nat.le_of_ble_eq_true rfl) rfl ?_
  refine ev_lmul (pc' := 13) (v := ((L 13) 3) * ((L 13) 3)) dX0_figuresOfTwo_12 rfl rfl ?_
  refine ev_ldc2 (pc' := 16) cl_X0_50 dX0_figuresOfTwo_13 rfl ?_
  refine ev_aload_n (pc' := 17) (i := 0) dX0_figuresOfTwo_16 rfl rfl rfl ?_
  refine ev_getR (pc' := 20) fo_X0_9 dX0_figuresOfTwo_17 rfl hs_12 rfl rf_12_0 ?_
  refine ev_iconst (pc' := 21) (v := 2) dX0_figuresOfTwo_20 rfl ki_2 ?_
  refine ev_lald (pc' := 22) (j := 2) (v := (L 13) 2) dX0_figuresOfTwo_21 rfl hs_13 rfl (Nat.le_of_ble_eq_true rfl) (Nat.le_of_ble_eq_true rfl) rfl ?_
  refine ev_lmul (pc' := 23) (v := 4 * ((L 13) 2)) dX0_figuresOfTwo_22 rfl rfl ?_
  refine ev_aload_n (pc' := 24) (i := 0) dX0_figuresOfTwo_23 rfl rfl rfl ?_
  refine ev_getR (pc' := 27) fo_X0_9 dX0_figuresOfTwo_24 rfl hs_12 rfl rf_12_0 ?_
  refine ev_iconst (pc' := 28) (v := 4) dX0_figuresOfTwo_27 rfl ki_4 ?_
  refine ev_lald (pc' := 29) (j := 4) (v := (L 13) 4) dX0_figuresOfTwo_28 rfl hs_13 rfl (Nat.le_of_ble_eq_true rfl) (Nat.le_of_ble_eq_true rfl) rfl ?_
  refine ev_lmul (pc' := 30) (v := (4 * ((L 13) 2)) * ((L 13) 4)) dX0_figuresOfTwo_29 rfl rfl ?_
  refine ev_lsub (pc' := 31) (v := (((L 13) 3) * ((L 13) 3)) - ((4 * ((L 13) 2)) * ((L 13) 4))) dX0_figuresOfTwo_30 rfl rfl ?_
  refine ev_callS (pc' := 34) (rm' := rX7_signOf) (av := [.long ((((L 13) 3) * ((L 13) 3)) - ((4 * ((L 13) 2)) * ((L 13) 4)))]) (rest := []) co_X0_92 cs_X7_signOf dX0_figuresOfTwo_31 rfl rfl rfl (Nat.le_of_ble_eq_true rfl) ⟨(Nat.le_of_ble_eq_true rfl), (Nat.le_of_ble_eq_true rfl)⟩ ⟨(Nat.le_of_ble_eq_true rfl), (Nat.le_of_ble_eq_true rfl)⟩ ?_
  refine t_X7_signOf ((((L 13) 3) * ((L 13) 3)) - ((4 * ((L 13) 2)) * ((L 13) 4))) ?_
  refine ev_eqi (w := mSg ((((L 13) 3) * ((L 13) 3)) - ((4 * ((L 13) 2)) * ((L 13) 4)))) rfl ?_
  refine ev_istore_n (pc' := 35) (i := 1) (lv' := [some (.ref 12), some (.int (mSg ((((L 13) 3) * ((L 13) 3)) - ((4 * ((L 13) 2)) * ((L 13) 4)))))]) dX0_figuresOfTwo_34 rfl rfl (Nat.le_of_ble_eq_true rfl) rfl rfl ?_
  refine ev_iload_n (pc' := 36) (i := 1) dX0_figuresOfTwo_35 rfl rfl rfl ?_
  refine ev_if_ne (tgt := 42) (pc' := 39) dX0_figuresOfTwo_36 rfl rfl (fun c1 => ?_) (fun c1 => ?_)
  · refine ev_iload_n (pc' := 43) (i := 1) dX0_figuresOfTwo_42 rfl rfl rfl ?_
    refine ev_if_le (tgt := 51) (pc' := 46) dX0_figuresOfTwo_43 rfl rfl (fun c2 => ?_) (fun c2 => ?_)
    · refine ev_bipush (pc' := 53) (v := 25) dX0_figuresOfTwo_51 rfl kb_25 ?_
      refine ev_iret dX0_figuresOfTwo_53 rfl rfl ⟨Nat.le_refl _, Nat.le_refl _⟩ ?_
      have e : cF2 (L 13) = 25 := by
        unfold cF2
        rw [if_neg (show ¬ (cDi (L 13)) = 0 from c1)]
        rw [if_pos (show (cDi (L 13)) ≤ 0 from c2)]
      have q := k0 (L 20) (L 19) (L 23) (L 22)
      rw [← n4_0 L, e] at q
      exact q
    · refine ev_bipush (pc' := 48) (v := 112) dX0_figuresOfTwo_46 rfl kb_112 ?_
      refine ev_goto (tgt := 53) dX0_figuresOfTwo_48 rfl ?_
      refine ev_iret dX0_figuresOfTwo_53 rfl rfl ⟨Nat.le_refl _, Nat.le_refl _⟩ ?_
      have e : cF2 (L 13) = 112 := by
        unfold cF2
        rw [if_neg (show ¬ (cDi (L 13)) = 0 from c1)]
        rw [if_neg (show ¬ (cDi (L 13)) ≤ 0 from c2)]
      have q := k0 (L 20) (L 19) (L 23) (L 22)
      rw [← n4_0 L, e] at q
      exact q
  · refine ev_bipush (pc' := 41) (v := 22) dX0_figuresOfTwo_39 rfl kb_22 ?_
    refine ev_iret dX0_figuresOfTwo_41 rfl rfl ⟨Nat.le_refl _, Nat.le_refl _⟩ ?_
    have e : cF2 (L 13) = 22 := by
      unfold cF2
      rw [if_pos (show (cDi (L 13)) = 0 from c1)]
    have q := k0 (L 20) (L 19) (L 23) (L 22)
    rw [← n4_0 L, e] at q
    exact q
set_option maxRecDepth 4000 in
theorem t_X0_figuresOfThree {g : ma_G} {Post : ma_P} {I : ma_I} {L : ma_L} (hI : ((L 12) 5).toInt.natAbs < 288230376151711744) (hJ : ((L 12) 6).toInt ≠ -9223372036854775808) (hA : ((L 13) 0).toInt.natAbs < 288230376151711744) (hE : (((8 * ((L 13) 0)) * ((L 13) 2)) - ((3 * ((L 13) 1)) * ((L 13) 1))).toInt ≠ -9223372036854775808) (k0 : ∀ Y Z V W : Nat → Int64, Post (some (.int (cF3 (L 13) ((L 12) 5) ((L 12) 6)))) HS I (ma_up (ma_up (ma_up (ma_up L 20 Y) 19 Z) 23 V) 22 W) RF 146) : CT g yX0_figuresOfThree cX0_figuresOfThree 2 (some .int) rX0_figuresOfThree [.ref 12] Post HS I L RF 146 := by
  refine ct_of (lv := [some (.ref 12), none]) (by decide) (Nat.le_of_ble_eq_true rfl) rfl ?_
  refine ev_aload_n (pc' := 1) (i := 0) dX0_figuresOfThree_0 rfl rfl rfl ?_
  refine ev_callV (pc' := 4) (rm' := rX0_signOfApartness) (b := 12) (av := []) (rest := []) co_X0_96 ci_X0_signOfApartness cv_X0_signOfApartness dX0_figuresOfThree_1 rfl hs_12 hb_X0 rfl rfl (Nat.le_of_ble_eq_true rfl) ⟨(Nat.le_of_ble_eq_true rfl), (Nat.le_of_ble_eq_true rfl)⟩ ⟨(Nat.le_of_ble_eq_true rfl), (Nat.le_of_ble_eq_true rfl)⟩ ?_
  refine t_X0_signOfApartness hI hJ (fun Y1 Z2 V3 W4 => ?_)
  refine ev_eqi (w := cSa ((L 12) 5) ((L 12) 6)) rfl ?_
  refine ev_istore_n (pc' := 5) (i := 1) (lv' := [some (.ref 12), some (.int (cSa ((L 12) 5) ((L 12) 6)))]) dX0_figuresOfThree_4 rfl rfl (Nat.le_of_ble_eq_true rfl) rfl rfl ?_
  refine ev_iload_n (pc' := 6) (i := 1) dX0_figuresOfThree_5 rfl rfl rfl ?_
  refine ev_if_eq (tgt := 22) (pc' := 9) dX0_figuresOfThree_6 rfl rfl (fun c5 => ?_) (fun c5 => ?_)
  · refine ev_aload_n (pc' := 23) (i := 0) dX0_figuresOfThree_22 rfl rfl rfl ?_
    refine ev_getL (pc' := 26) (v := (L 12) 5) fo_X0_58 dX0_figuresOfThree_23 rfl hs_12 rfl rfl ?_
    refine ev_lconst (pc' := 27) (v := 0) dX0_figuresOfThree_26 rfl kl_0 ?_
    refine ev_lc_ne (p1 := 28) (tgt := 34) (pc' := 31) dX0_figuresOfThree_27 rfl dX0_figuresOfThree_28 rfl rfl (fun c6 => ?_) (fun c6 => ?_)
    · refine ev_aload_n (pc' := 35) (i := 0) dX0_figuresOfThree_34 rfl rfl rfl ?_
      refine ev_getL (pc' := 38) (v := (L 12) 6) fo_X0_68 dX0_figuresOfThree_35 rfl hs_12 rfl rfl ?_
      refine ev_callS (pc' := 41) (rm' := rX7_signOf) (av := [.long ((L 12) 6)]) (rest := []) co_X0_92 cs_X7_signOf dX0_figuresOfThree_38 rfl rfl rfl (Nat.le_of_ble_eq_true rfl) ⟨(Nat.le_of_ble_eq_true rfl), (Nat.le_of_ble_eq_true rfl)⟩ ⟨(Nat.le_of_ble_eq_true rfl), (Nat.le_of_ble_eq_true rfl)⟩ ?_
      refine t_X7_signOf ((L 12) 6) ?_
      refine ev_eqi (w := mSg ((L 12) 6)) rfl ?_
      refine ev_aload_n (pc' := 42) (i := 0) dX0_figuresOfThree_41 rfl rfl rfl ?_
      refine ev_getR (pc' := 45) fo_X0_9 dX0_figuresOfThree_42 rfl hs_12 rfl rf_12_0 ?_
      refine ev_iconst (pc' := 46) (v := 1) dX0_figuresOfThree_45 rfl ki_1 ?_
      refine ev_lald (pc' := 47) (j := 1) (v := (L 13) 1) dX0_figuresOfThree_46 rfl hs_13 rfl (Nat.le_of_ble_eq_true rfl) (Nat.le_of_ble_eq_true rfl) rfl ?_
      refine ev_callS (pc' := 50) (rm' := rX7_signOf) (av := [.long ((L 13) 1)]) (rest := [.int (mSg ((L 12) 6))]) co_X0_92 cs_X7_signOf dX0_figuresOfThree_47 rfl rfl rfl (Nat.le_of_ble_eq_true rfl) ⟨(Nat.le_of_ble_eq_true rfl), (Nat.le_of_ble_eq_true rfl)⟩ ⟨(Nat.le_of_ble_eq_true rfl), (Nat.le_of_ble_eq_true rfl)⟩ ?_
      refine t_X7_signOf ((L 13) 1) ?_
      refine ev_eqi (w := mSg ((L 13) 1)) rfl ?_
      refine ev_icmp_ne (tgt := 59) (pc' := 53) dX0_figuresOfThree_50 rfl rfl (fun c7 => ?_) (fun c7 => ?_)
      · refine ev_bipush (pc' := 61) (v := 121) dX0_figuresOfThree_59 rfl kb_121 ?_
        refine ev_iret dX0_figuresOfThree_61 rfl rfl ⟨Nat.le_refl _, Nat.le_refl _⟩ ?_
        have e : cF3 (L 13) ((L 12) 5) ((L 12) 6) = 121 := by
          unfold cF3
          rw [if_pos (show (cSa ((L 12) 5) ((L 12) 6)) = 0 from c5)]
          rw [if_neg (show ¬ ((L 12) 5) = 0 from c6)]
          rw [if_neg (show ¬ (mSg ((L 12) 6)) = (mSg ((L 13) 1)) from c7)]
        rw [e] at k0
        exact k0 _ _ _ _
      · refine ev_sipush (pc' := 56) (v := 211) dX0_figuresOfThree_53 rfl ks_211 ?_
        refine ev_goto (tgt := 61) dX0_figuresOfThree_56 rfl ?_
        refine ev_iret dX0_figuresOfThree_61 rfl rfl ⟨Nat.le_refl _, Nat.le_refl _⟩ ?_
        have e : cF3 (L 13) ((L 12) 5) ((L 12) 6) = 211 := by
          unfold cF3
          rw [if_pos (show (cSa ((L 12) 5) ((L 12) 6)) = 0 from c5)]
          rw [if_neg (show ¬ ((L 12) 5) = 0 from c6)]
          rw [if_pos (show (mSg ((L 12) 6)) = (mSg ((L 13) 1)) from c7)]
        rw [e] at k0
        exact k0 _ _ _ _
    · refine ev_bipush (pc' := 33) (v := 31) dX0_figuresOfThree_31 rfl kb_31 ?_
      refine ev_iret dX0_figuresOfThree_33 rfl rfl ⟨Nat.le_refl _, Nat.le_refl _⟩ ?_
      have e : cF3 (L 13) ((L 12) 5) ((L 12) 6) = 31 := by
        unfold cF3
        rw [if_pos (show (cSa ((L 12) 5) ((L 12) 6)) = 0 from c5)]
        rw [if_pos (show ((L 12) 5) = 0 from c6)]
      rw [e] at k0
      exact k0 _ _ _ _
  · refine ev_iload_n (pc' := 10) (i := 1) dX0_figuresOfThree_9 rfl rfl rfl ?_
    refine ev_if_le (tgt := 19) (pc' := 13) dX0_figuresOfThree_10 rfl rfl (fun c8 => ?_) (fun c8 => ?_)
    · refine ev_bipush (pc' := 21) (v := 115) dX0_figuresOfThree_19 rfl kb_115 ?_
      refine ev_iret dX0_figuresOfThree_21 rfl rfl ⟨Nat.le_refl _, Nat.le_refl _⟩ ?_
      have e : cF3 (L 13) ((L 12) 5) ((L 12) 6) = 115 := by
        unfold cF3
        rw [if_neg (show ¬ (cSa ((L 12) 5) ((L 12) 6)) = 0 from c5)]
        rw [if_pos (show (cSa ((L 12) 5) ((L 12) 6)) ≤ 0 from c8)]
      rw [e] at k0
      exact k0 _ _ _ _
    · refine ev_sipush (pc' := 16) (v := 1111) dX0_figuresOfThree_13 rfl ks_1111 ?_
      refine ev_goto (tgt := 21) dX0_figuresOfThree_16 rfl ?_
      refine ev_iret dX0_figuresOfThree_21 rfl rfl ⟨Nat.le_refl _, Nat.le_refl _⟩ ?_
      have e : cF3 (L 13) ((L 12) 5) ((L 12) 6) = 1111 := by
        unfold cF3
        rw [if_neg (show ¬ (cSa ((L 12) 5) ((L 12) 6)) = 0 from c5)]
        rw [if_neg (show ¬ (cSa ((L 12) 5) ((L 12) 6)) ≤ 0 from c8)]
      rw [e] at k0
      exact k0 _ _ _ _
set_option maxRecDepth 4000 in
theorem t_X0_figuresOfFour {g : ma_G} {Post : ma_P} {I : ma_I} {L : ma_L} (hI : ((L 12) 5).toInt.natAbs < 288230376151711744) (hJ : ((L 12) 6).toInt ≠ -9223372036854775808) (hA : ((L 13) 0).toInt.natAbs < 288230376151711744) (hE : (((8 * ((L 13) 0)) * ((L 13) 2)) - ((3 * ((L 13) 1)) * ((L 13) 1))).toInt ≠ -9223372036854775808) (k0 : ∀ Y Z V W : Nat → Int64, Post (some (.int (cF4 (L 13) ((L 12) 5) ((L 12) 6)))) HS I (ma_up (ma_up (ma_up (ma_up L 20 Y) 19 Z) 23 V) 22 W) RF 146) : CT g yX0_figuresOfFour cX0_figuresOfFour 4 (some .int) rX0_figuresOfFour [.ref 12] Post HS I L RF 146 := by
  refine ct_of (lv := [some (.ref 12), none, none, none]) (by decide) (Nat.le_of_ble_eq_true rfl) rfl ?_
  refine ev_aload_n (pc' := 1) (i := 0) dX0_figuresOfFour_0 rfl rfl rfl ?_
  refine ev_callV (pc' := 4) (rm' := rX0_signOfApartness) (b := 12) (av := []) (rest := []) co_X0_96 ci_X0_signOfApartness cv_X0_signOfApartness dX0_figuresOfFour_1 rfl hs_12 hb_X0 rfl rfl (Nat.le_of_ble_eq_true rfl) ⟨(Nat.le_of_ble_eq_true rfl), (Nat.le_of_ble_eq_true rfl)⟩ ⟨(Nat.le_of_ble_eq_true rfl), (Nat.le_of_ble_eq_true rfl)⟩ ?_
  refine t_X0_signOfApartness hI hJ (fun Y1 Z2 V3 W4 => ?_)
  refine ev_eqi (w := cSa ((L 12) 5) ((L 12) 6)) rfl ?_
  refine ev_istore_n (pc' := 5) (i := 1) (lv' := [some (.ref 12), some (.int (cSa ((L 12) 5) ((L 12) 6))), none, none]) dX0_figuresOfFour_4 rfl rfl (Nat.le_of_ble_eq_true rfl) rfl rfl ?_
  refine ev_iload_n (pc' := 6) (i := 1) dX0_figuresOfFour_5 rfl rfl rfl ?_
  refine ev_if_ge (tgt := 12) (pc' := 9) dX0_figuresOfFour_6 rfl rfl (fun c5 => ?_) (fun c5 => ?_)
  · refine ev_aload_n (pc' := 13) (i := 0) dX0_figuresOfFour_12 rfl rfl rfl ?_
    refine ev_callV (pc' := 16) (rm' := rX0_eightACLessThreeBB) (b := 12) (av := []) (rest := []) co_X0_99 ci_X0_eightACLessThreeBB cv_X0_eightACLessThreeBB dX0_figuresOfFour_13 rfl hs_12 hb_X0 rfl rfl (Nat.le_of_ble_eq_true rfl) ⟨(Nat.le_of_ble_eq_true rfl), (Nat.le_of_ble_eq_true rfl)⟩ ⟨(Nat.le_of_ble_eq_true rfl), (Nat.le_of_ble_eq_true rfl)⟩ ?_
    refine t_X0_eightACLessThreeBB ?_
    refine ev_eql (w := ((8 * ((L 13) 0)) * ((L 13) 2)) - ((3 * ((L 13) 1)) * ((L 13) 1))) rfl ?_
    refine ev_lconst (pc' := 17) (v := 0) dX0_figuresOfFour_16 rfl kl_0 ?_
    refine ev_lc_ge (p1 := 18) (tgt := 32) (pc' := 21) dX0_figuresOfFour_17 rfl dX0_figuresOfFour_18 rfl rfl (fun c6 => ?_) (fun c6 => ?_)
    · refine ev_iconst (pc' := 33) (v := 0) dX0_figuresOfFour_32 rfl ki_0 ?_
      refine ev_istore_n (pc' := 34) (i := 2) (lv' := [some (.ref 12), some (.int (cSa ((L 12) 5) ((L 12) 6))), some (.int 0), none]) dX0_figuresOfFour_33 rfl rfl (Nat.le_of_ble_eq_true rfl) rfl rfl ?_
      refine ev_iload_n (pc' := 35) (i := 1) dX0_figuresOfFour_34 rfl rfl rfl ?_
      refine ev_if_le (tgt := 51) (pc' := 38) dX0_figuresOfFour_35 rfl rfl (fun c7 => ?_) (fun c7 => ?_)
      · refine ev_aload_n (pc' := 52) (i := 0) dX0_figuresOfFour_51 rfl rfl rfl ?_
        refine ev_callV (pc' := 55) (rm' := rX0_leaning) (b := 12) (av := []) (rest := []) co_X0_105 ci_X0_leaning cv_X0_leaning dX0_figuresOfFour_52 rfl hs_12 hb_X0 rfl rfl (Nat.le_of_ble_eq_true rfl) ⟨(Nat.le_of_ble_eq_true rfl), (Nat.le_of_ble_eq_true rfl)⟩ ⟨(Nat.le_of_ble_eq_true rfl), (Nat.le_of_ble_eq_true rfl)⟩ ?_
        refine t_X0_leaning ?_
        refine ev_eql (w := (((((L 13) 1) * ((L 13) 1)) * ((L 13) 1)) + (((8 * ((L 13) 0)) * ((L 13) 0)) * ((L 13) 3))) - (((4 * ((L 13) 0)) * ((L 13) 1)) * ((L 13) 2))) rfl ?_
        refine ev_callS (pc' := 58) (rm' := rX7_signOf) (av := [.long ((((((L 13) 1) * ((L 13) 1)) * ((L 13) 1)) + (((8 * ((L 13) 0)) * ((L 13) 0)) * ((L 13) 3))) - (((4 * ((L 13) 0)) * ((L 13) 1)) * ((L 13) 2)))]) (rest := []) co_X0_92 cs_X7_signOf dX0_figuresOfFour_55 rfl rfl rfl (Nat.le_of_ble_eq_true rfl) ⟨(Nat.le_of_ble_eq_true rfl), (Nat.le_of_ble_eq_true rfl)⟩ ⟨(Nat.le_of_ble_eq_true rfl), (Nat.le_of_ble_eq_true rfl)⟩ ?_
        refine t_X7_signOf ((((((L 13) 1) * ((L 13) 1)) * ((L 13) 1)) + (((8 * ((L 13) 0)) * ((L 13) 0)) * ((L 13) 3))) - (((4 * ((L 13) 0)) * ((L 13) 1)) * ((L 13) 2))) ?_
        refine ev_eqi (w := mSg ((((((L 13) 1) * ((L 13) 1)) * ((L 13) 1)) + (((8 * ((L 13) 0)) * ((L 13) 0)) * ((L 13) 3))) - (((4 * ((L 13) 0)) * ((L 13) 1)) * ((L 13) 2)))) rfl ?_
        refine ev_aload_n (pc' := 59) (i := 0) dX0_figuresOfFour_58 rfl rfl rfl ?_
        refine ev_getR (pc' := 62) fo_X0_9 dX0_figuresOfFour_59 rfl hs_12 rfl rf_12_0 ?_
        refine ev_iconst (pc' := 63) (v := 0) dX0_figuresOfFour_62 rfl ki_0 ?_
        refine ev_lald (pc' := 64) (j := 0) (v := (L 13) 0) dX0_figuresOfFour_63 rfl hs_13 rfl (Nat.le_of_ble_eq_true rfl) (Nat.le_of_ble_eq_true rfl) rfl ?_
        refine ev_callS (pc' := 67) (rm' := rX7_signOf) (av := [.long ((L 13) 0)]) (rest := [.int (mSg ((((((L 13) 1) * ((L 13) 1)) * ((L 13) 1)) + (((8 * ((L 13) 0)) * ((L 13) 0)) * ((L 13) 3))) - (((4 * ((L 13) 0)) * ((L 13) 1)) * ((L 13) 2))))]) co_X0_92 cs_X7_signOf dX0_figuresOfFour_64 rfl rfl rfl (Nat.le_of_ble_eq_true rfl) ⟨(Nat.le_of_ble_eq_true rfl), (Nat.le_of_ble_eq_true rfl)⟩ ⟨(Nat.le_of_ble_eq_true rfl), (Nat.le_of_ble_eq_true rfl)⟩ ?_
        refine t_X7_signOf ((L 13) 0) ?_
        refine ev_eqi (w := mSg ((L 13) 0)) rfl ?_
        refine ev_imul (pc' := 68) (v := (mSg ((((((L 13) 1) * ((L 13) 1)) * ((L 13) 1)) + (((8 * ((L 13) 0)) * ((L 13) 0)) * ((L 13) 3))) - (((4 * ((L 13) 0)) * ((L 13) 1)) * ((L 13) 2)))) * (mSg ((L 13) 0))) dX0_figuresOfFour_67 rfl rfl ?_
        refine ev_istore_n (pc' := 69) (i := 3) (lv' := [some (.ref 12), some (.int (cSa ((L 12) 5) ((L 12) 6))), some (.int 0), some (.int ((mSg ((((((L 13) 1) * ((L 13) 1)) * ((L 13) 1)) + (((8 * ((L 13) 0)) * ((L 13) 0)) * ((L 13) 3))) - (((4 * ((L 13) 0)) * ((L 13) 1)) * ((L 13) 2)))) * (mSg ((L 13) 0))))]) dX0_figuresOfFour_68 rfl rfl (Nat.le_of_ble_eq_true rfl) rfl rfl ?_
        refine ev_aload_n (pc' := 70) (i := 0) dX0_figuresOfFour_69 rfl rfl rfl ?_
        refine ev_getL (pc' := 73) (v := (L 12) 5) fo_X0_58 dX0_figuresOfFour_70 rfl hs_12 rfl rfl ?_
        refine ev_lconst (pc' := 74) (v := 0) dX0_figuresOfFour_73 rfl kl_0 ?_
        refine ev_lc_ne (p1 := 75) (tgt := 98) (pc' := 78) dX0_figuresOfFour_74 rfl dX0_figuresOfFour_75 rfl rfl (fun c8 => ?_) (fun c8 => ?_)
        · refine ev_iload_n (pc' := 99) (i := 3) dX0_figuresOfFour_98 rfl rfl rfl ?_
          refine ev_if_ne (tgt := 126) (pc' := 102) dX0_figuresOfFour_99 rfl rfl (fun c9 => ?_) (fun c9 => ?_)
          · refine ev_iload_n (pc' := 127) (i := 2) dX0_figuresOfFour_126 rfl rfl rfl ?_
            refine ev_if_ne (tgt := 133) (pc' := 130) dX0_figuresOfFour_127 rfl rfl (fun h => absurd (by decide) h) (fun _ => ?_)
            refine ev_bipush (pc' := 132) (v := 25) dX0_figuresOfFour_130 rfl kb_25 ?_
            refine ev_iret dX0_figuresOfFour_132 rfl rfl ⟨Nat.le_refl _, Nat.le_refl _⟩ ?_
            have e : cF4 (L 13) ((L 12) 5) ((L 12) 6) = 25 := by
              unfold cF4
              rw [if_pos (show 0 ≤ (cSa ((L 12) 5) ((L 12) 6)) from c5)]
              rw [if_pos (show (cSa ((L 12) 5) ((L 12) 6)) ≤ 0 from c7)]
              rw [if_neg (show ¬ ((L 12) 5) = 0 from c8)]
              rw [if_neg (show ¬ (cLe (L 13) = 0 ∧ cSp ((L 13) 0) (cEe (L 13)) ((L 12) 5) = 0) from fun q => absurd q.1 c9)]
              rw [if_pos (show 0 ≤ cEe (L 13) ∨ 0 ≤ cSp ((L 13) 0) (cEe (L 13)) ((L 12) 5) from Or.inl c6)]
            rw [e] at k0
            exact k0 _ _ _ _
          · refine ev_aload_n (pc' := 103) (i := 0) dX0_figuresOfFour_102 rfl rfl rfl ?_
            refine ev_callV (pc' := 106) (rm' := rX0_signOfSpread) (b := 12) (av := []) (rest := []) co_X0_102 ci_X0_signOfSpread cv_X0_signOfSpread dX0_figuresOfFour_103 rfl hs_12 hb_X0 rfl rfl (Nat.le_of_ble_eq_true rfl) ⟨(Nat.le_of_ble_eq_true rfl), (Nat.le_of_ble_eq_true rfl)⟩ ⟨(Nat.le_of_ble_eq_true rfl), (Nat.le_of_ble_eq_true rfl)⟩ ?_
            refine t_X0_signOfSpread hI hA hE (fun Y10 Z11 V12 W13 => ?_)
            refine ev_eqi (w := cSp ((L 13) 0) (((8 * ((L 13) 0)) * ((L 13) 2)) - ((3 * ((L 13) 1)) * ((L 13) 1))) ((L 12) 5)) rfl ?_
            refine ev_memL (fun z hz => ?_)
            rw [n4_20, n4_19, n4_23, n4_22] at hz
            subst hz
            refine ev_if_ne (tgt := 126) (pc' := 109) dX0_figuresOfFour_106 rfl rfl (fun c14 => ?_) (fun c14 => ?_)
            · refine ev_iload_n (pc' := 127) (i := 2) dX0_figuresOfFour_126 rfl rfl rfl ?_
              refine ev_if_ne (tgt := 133) (pc' := 130) dX0_figuresOfFour_127 rfl rfl (fun h => absurd (by decide) h) (fun _ => ?_)
              refine ev_bipush (pc' := 132) (v := 25) dX0_figuresOfFour_130 rfl kb_25 ?_
              refine ev_iret dX0_figuresOfFour_132 rfl rfl ⟨Nat.le_refl _, Nat.le_refl _⟩ ?_
              have e : cF4 (L 13) ((L 12) 5) ((L 12) 6) = 25 := by
                unfold cF4
                rw [if_pos (show 0 ≤ (cSa ((L 12) 5) ((L 12) 6)) from c5)]
                rw [if_pos (show (cSa ((L 12) 5) ((L 12) 6)) ≤ 0 from c7)]
                rw [if_neg (show ¬ ((L 12) 5) = 0 from c8)]
                rw [if_neg (show ¬ (cLe (L 13) = 0 ∧ cSp ((L 13) 0) (cEe (L 13)) ((L 12) 5) = 0) from fun q => absurd q.2 c14)]
                rw [if_pos (show 0 ≤ cEe (L 13) ∨ 0 ≤ cSp ((L 13) 0) (cEe (L 13)) ((L 12) 5) from Or.inl c6)]
              rw [e] at k0
              exact k0 _ _ _ _
            · refine ev_aload_n (pc' := 110) (i := 0) dX0_figuresOfFour_109 rfl rfl rfl ?_
              refine ev_callV (pc' := 113) (rm' := rX0_eightACLessThreeBB) (b := 12) (av := []) (rest := []) co_X0_99 ci_X0_eightACLessThreeBB cv_X0_eightACLessThreeBB dX0_figuresOfFour_110 rfl hs_12 hb_X0 rfl rfl (Nat.le_of_ble_eq_true rfl) ⟨(Nat.le_of_ble_eq_true rfl), (Nat.le_of_ble_eq_true rfl)⟩ ⟨(Nat.le_of_ble_eq_true rfl), (Nat.le_of_ble_eq_true rfl)⟩ ?_
              refine t_X0_eightACLessThreeBB ?_
              refine ev_eql (w := ((8 * ((L 13) 0)) * ((L 13) 2)) - ((3 * ((L 13) 1)) * ((L 13) 1))) rfl ?_
              refine ev_lconst (pc' := 114) (v := 0) dX0_figuresOfFour_113 rfl kl_0 ?_
              refine ev_lc_ge (p1 := 115) (tgt := 123) (pc' := 118) dX0_figuresOfFour_114 rfl dX0_figuresOfFour_115 rfl rfl (fun _ => ?_) (fun h => absurd c6 h)
              refine ev_bipush (pc' := 125) (v := 6) dX0_figuresOfFour_123 rfl kb_6 ?_
              refine ev_iret dX0_figuresOfFour_125 rfl rfl ⟨Nat.le_refl _, Nat.le_refl _⟩ ?_
              have e : cF4 (L 13) ((L 12) 5) ((L 12) 6) = 6 := by
                unfold cF4
                rw [if_pos (show 0 ≤ (cSa ((L 12) 5) ((L 12) 6)) from c5)]
                rw [if_pos (show (cSa ((L 12) 5) ((L 12) 6)) ≤ 0 from c7)]
                rw [if_neg (show ¬ ((L 12) 5) = 0 from c8)]
                rw [if_pos (show cLe (L 13) = 0 ∧ cSp ((L 13) 0) (cEe (L 13)) ((L 12) 5) = 0 from ⟨c9, c14⟩)]
                rw [if_pos (show 0 ≤ (cEe (L 13)) from c6)]
              rw [e] at k0
              exact k0 _ _ _ _
        · refine ev_iload_n (pc' := 79) (i := 3) dX0_figuresOfFour_78 rfl rfl rfl ?_
          refine ev_if_ne (tgt := 86) (pc' := 82) dX0_figuresOfFour_79 rfl rfl (fun c15 => ?_) (fun c15 => ?_)
          · refine ev_iload_n (pc' := 87) (i := 3) dX0_figuresOfFour_86 rfl rfl rfl ?_
            refine ev_if_le (tgt := 95) (pc' := 90) dX0_figuresOfFour_87 rfl rfl (fun c16 => ?_) (fun c16 => ?_)
            · refine ev_bipush (pc' := 97) (v := 31) dX0_figuresOfFour_95 rfl kb_31 ?_
              refine ev_iret dX0_figuresOfFour_97 rfl rfl ⟨Nat.le_refl _, Nat.le_refl _⟩ ?_
              have e : cF4 (L 13) ((L 12) 5) ((L 12) 6) = 31 := by
                unfold cF4
                rw [if_pos (show 0 ≤ (cSa ((L 12) 5) ((L 12) 6)) from c5)]
                rw [if_pos (show (cSa ((L 12) 5) ((L 12) 6)) ≤ 0 from c7)]
                rw [if_pos (show ((L 12) 5) = 0 from c8)]
                rw [if_neg (show ¬ (cLe (L 13)) = 0 from c15)]
                rw [if_pos (show (cLe (L 13)) ≤ 0 from c16)]
              rw [e] at k0
              exact k0 _ _ _ _
            · refine ev_bipush (pc' := 92) (v := 13) dX0_figuresOfFour_90 rfl kb_13 ?_
              refine ev_goto (tgt := 97) dX0_figuresOfFour_92 rfl ?_
              refine ev_iret dX0_figuresOfFour_97 rfl rfl ⟨Nat.le_refl _, Nat.le_refl _⟩ ?_
              have e : cF4 (L 13) ((L 12) 5) ((L 12) 6) = 13 := by
                unfold cF4
                rw [if_pos (show 0 ≤ (cSa ((L 12) 5) ((L 12) 6)) from c5)]
                rw [if_pos (show (cSa ((L 12) 5) ((L 12) 6)) ≤ 0 from c7)]
                rw [if_pos (show ((L 12) 5) = 0 from c8)]
                rw [if_neg (show ¬ (cLe (L 13)) = 0 from c15)]
                rw [if_neg (show ¬ (cLe (L 13)) ≤ 0 from c16)]
              rw [e] at k0
              exact k0 _ _ _ _
          · refine ev_iconst (pc' := 83) (v := 4) dX0_figuresOfFour_82 rfl ki_4 ?_
            refine ev_goto (tgt := 97) dX0_figuresOfFour_83 rfl ?_
            refine ev_iret dX0_figuresOfFour_97 rfl rfl ⟨Nat.le_refl _, Nat.le_refl _⟩ ?_
            have e : cF4 (L 13) ((L 12) 5) ((L 12) 6) = 4 := by
              unfold cF4
              rw [if_pos (show 0 ≤ (cSa ((L 12) 5) ((L 12) 6)) from c5)]
              rw [if_pos (show (cSa ((L 12) 5) ((L 12) 6)) ≤ 0 from c7)]
              rw [if_pos (show ((L 12) 5) = 0 from c8)]
              rw [if_pos (show (cLe (L 13)) = 0 from c15)]
            rw [e] at k0
            exact k0 _ _ _ _
      · refine ev_iload_n (pc' := 39) (i := 2) dX0_figuresOfFour_38 rfl rfl rfl ?_
        refine ev_if_eq (tgt := 48) (pc' := 42) dX0_figuresOfFour_39 rfl rfl (fun _ => ?_) (fun h => absurd (by decide) h)
        refine ev_bipush (pc' := 50) (v := 55) dX0_figuresOfFour_48 rfl kb_55 ?_
        refine ev_iret dX0_figuresOfFour_50 rfl rfl ⟨Nat.le_refl _, Nat.le_refl _⟩ ?_
        have e : cF4 (L 13) ((L 12) 5) ((L 12) 6) = 55 := by
          unfold cF4
          rw [if_pos (show 0 ≤ (cSa ((L 12) 5) ((L 12) 6)) from c5)]
          rw [if_neg (show ¬ (cSa ((L 12) 5) ((L 12) 6)) ≤ 0 from c7)]
          rw [if_pos (show 0 ≤ cEe (L 13) ∨ 0 ≤ cSp ((L 13) 0) (cEe (L 13)) ((L 12) 5) from Or.inl c6)]
        rw [e] at k0
        exact k0 _ _ _ _
    · refine ev_aload_n (pc' := 22) (i := 0) dX0_figuresOfFour_21 rfl rfl rfl ?_
      refine ev_callV (pc' := 25) (rm' := rX0_signOfSpread) (b := 12) (av := []) (rest := []) co_X0_102 ci_X0_signOfSpread cv_X0_signOfSpread dX0_figuresOfFour_22 rfl hs_12 hb_X0 rfl rfl (Nat.le_of_ble_eq_true rfl) ⟨(Nat.le_of_ble_eq_true rfl), (Nat.le_of_ble_eq_true rfl)⟩ ⟨(Nat.le_of_ble_eq_true rfl), (Nat.le_of_ble_eq_true rfl)⟩ ?_
      refine t_X0_signOfSpread hI hA hE (fun Y17 Z18 V19 W20 => ?_)
      refine ev_eqi (w := cSp ((L 13) 0) (((8 * ((L 13) 0)) * ((L 13) 2)) - ((3 * ((L 13) 1)) * ((L 13) 1))) ((L 12) 5)) rfl ?_
      refine ev_memL (fun z hz => ?_)
      rw [n4_20, n4_19, n4_23, n4_22] at hz
      subst hz
      refine ev_if_ge (tgt := 32) (pc' := 28) dX0_figuresOfFour_25 rfl rfl (fun c21 => ?_) (fun c21 => ?_)
      · refine ev_iconst (pc' := 33) (v := 0) dX0_figuresOfFour_32 rfl ki_0 ?_
        refine ev_istore_n (pc' := 34) (i := 2) (lv' := [some (.ref 12), some (.int (cSa ((L 12) 5) ((L 12) 6))), some (.int 0), none]) dX0_figuresOfFour_33 rfl rfl (Nat.le_of_ble_eq_true rfl) rfl rfl ?_
        refine ev_iload_n (pc' := 35) (i := 1) dX0_figuresOfFour_34 rfl rfl rfl ?_
        refine ev_if_le (tgt := 51) (pc' := 38) dX0_figuresOfFour_35 rfl rfl (fun c22 => ?_) (fun c22 => ?_)
        · refine ev_aload_n (pc' := 52) (i := 0) dX0_figuresOfFour_51 rfl rfl rfl ?_
          refine ev_callV (pc' := 55) (rm' := rX0_leaning) (b := 12) (av := []) (rest := []) co_X0_105 ci_X0_leaning cv_X0_leaning dX0_figuresOfFour_52 rfl hs_12 hb_X0 rfl rfl (Nat.le_of_ble_eq_true rfl) ⟨(Nat.le_of_ble_eq_true rfl), (Nat.le_of_ble_eq_true rfl)⟩ ⟨(Nat.le_of_ble_eq_true rfl), (Nat.le_of_ble_eq_true rfl)⟩ ?_
          refine t_X0_leaning ?_
          refine ev_eql (w := (((((L 13) 1) * ((L 13) 1)) * ((L 13) 1)) + (((8 * ((L 13) 0)) * ((L 13) 0)) * ((L 13) 3))) - (((4 * ((L 13) 0)) * ((L 13) 1)) * ((L 13) 2))) rfl ?_
          refine ev_callS (pc' := 58) (rm' := rX7_signOf) (av := [.long ((((((L 13) 1) * ((L 13) 1)) * ((L 13) 1)) + (((8 * ((L 13) 0)) * ((L 13) 0)) * ((L 13) 3))) - (((4 * ((L 13) 0)) * ((L 13) 1)) * ((L 13) 2)))]) (rest := []) co_X0_92 cs_X7_signOf dX0_figuresOfFour_55 rfl rfl rfl (Nat.le_of_ble_eq_true rfl) ⟨(Nat.le_of_ble_eq_true rfl), (Nat.le_of_ble_eq_true rfl)⟩ ⟨(Nat.le_of_ble_eq_true rfl), (Nat.le_of_ble_eq_true rfl)⟩ ?_
          refine t_X7_signOf ((((((L 13) 1) * ((L 13) 1)) * ((L 13) 1)) + (((8 * ((L 13) 0)) * ((L 13) 0)) * ((L 13) 3))) - (((4 * ((L 13) 0)) * ((L 13) 1)) * ((L 13) 2))) ?_
          refine ev_eqi (w := mSg ((((((L 13) 1) * ((L 13) 1)) * ((L 13) 1)) + (((8 * ((L 13) 0)) * ((L 13) 0)) * ((L 13) 3))) - (((4 * ((L 13) 0)) * ((L 13) 1)) * ((L 13) 2)))) rfl ?_
          refine ev_aload_n (pc' := 59) (i := 0) dX0_figuresOfFour_58 rfl rfl rfl ?_
          refine ev_getR (pc' := 62) fo_X0_9 dX0_figuresOfFour_59 rfl hs_12 rfl rf_12_0 ?_
          refine ev_iconst (pc' := 63) (v := 0) dX0_figuresOfFour_62 rfl ki_0 ?_
          refine ev_lald (pc' := 64) (j := 0) (v := (L 13) 0) dX0_figuresOfFour_63 rfl hs_13 rfl (Nat.le_of_ble_eq_true rfl) (Nat.le_of_ble_eq_true rfl) rfl ?_
          refine ev_callS (pc' := 67) (rm' := rX7_signOf) (av := [.long ((L 13) 0)]) (rest := [.int (mSg ((((((L 13) 1) * ((L 13) 1)) * ((L 13) 1)) + (((8 * ((L 13) 0)) * ((L 13) 0)) * ((L 13) 3))) - (((4 * ((L 13) 0)) * ((L 13) 1)) * ((L 13) 2))))]) co_X0_92 cs_X7_signOf dX0_figuresOfFour_64 rfl rfl rfl (Nat.le_of_ble_eq_true rfl) ⟨(Nat.le_of_ble_eq_true rfl), (Nat.le_of_ble_eq_true rfl)⟩ ⟨(Nat.le_of_ble_eq_true rfl), (Nat.le_of_ble_eq_true rfl)⟩ ?_
          refine t_X7_signOf ((L 13) 0) ?_
          refine ev_eqi (w := mSg ((L 13) 0)) rfl ?_
          refine ev_imul (pc' := 68) (v := (mSg ((((((L 13) 1) * ((L 13) 1)) * ((L 13) 1)) + (((8 * ((L 13) 0)) * ((L 13) 0)) * ((L 13) 3))) - (((4 * ((L 13) 0)) * ((L 13) 1)) * ((L 13) 2)))) * (mSg ((L 13) 0))) dX0_figuresOfFour_67 rfl rfl ?_
          refine ev_istore_n (pc' := 69) (i := 3) (lv' := [some (.ref 12), some (.int (cSa ((L 12) 5) ((L 12) 6))), some (.int 0), some (.int ((mSg ((((((L 13) 1) * ((L 13) 1)) * ((L 13) 1)) + (((8 * ((L 13) 0)) * ((L 13) 0)) * ((L 13) 3))) - (((4 * ((L 13) 0)) * ((L 13) 1)) * ((L 13) 2)))) * (mSg ((L 13) 0))))]) dX0_figuresOfFour_68 rfl rfl (Nat.le_of_ble_eq_true rfl) rfl rfl ?_
          refine ev_aload_n (pc' := 70) (i := 0) dX0_figuresOfFour_69 rfl rfl rfl ?_
          refine ev_getL (pc' := 73) (v := (L 12) 5) fo_X0_58 dX0_figuresOfFour_70 rfl hs_12 rfl rfl ?_
          refine ev_lconst (pc' := 74) (v := 0) dX0_figuresOfFour_73 rfl kl_0 ?_
          refine ev_lc_ne (p1 := 75) (tgt := 98) (pc' := 78) dX0_figuresOfFour_74 rfl dX0_figuresOfFour_75 rfl rfl (fun c23 => ?_) (fun c23 => ?_)
          · refine ev_iload_n (pc' := 99) (i := 3) dX0_figuresOfFour_98 rfl rfl rfl ?_
            refine ev_if_ne (tgt := 126) (pc' := 102) dX0_figuresOfFour_99 rfl rfl (fun c24 => ?_) (fun c24 => ?_)
            · refine ev_iload_n (pc' := 127) (i := 2) dX0_figuresOfFour_126 rfl rfl rfl ?_
              refine ev_if_ne (tgt := 133) (pc' := 130) dX0_figuresOfFour_127 rfl rfl (fun h => absurd (by decide) h) (fun _ => ?_)
              refine ev_bipush (pc' := 132) (v := 25) dX0_figuresOfFour_130 rfl kb_25 ?_
              refine ev_iret dX0_figuresOfFour_132 rfl rfl ⟨Nat.le_refl _, Nat.le_refl _⟩ ?_
              have e : cF4 (L 13) ((L 12) 5) ((L 12) 6) = 25 := by
                unfold cF4
                rw [if_pos (show 0 ≤ (cSa ((L 12) 5) ((L 12) 6)) from c5)]
                rw [if_pos (show (cSa ((L 12) 5) ((L 12) 6)) ≤ 0 from c22)]
                rw [if_neg (show ¬ ((L 12) 5) = 0 from c23)]
                rw [if_neg (show ¬ (cLe (L 13) = 0 ∧ cSp ((L 13) 0) (cEe (L 13)) ((L 12) 5) = 0) from fun q => absurd q.1 c24)]
                rw [if_pos (show 0 ≤ cEe (L 13) ∨ 0 ≤ cSp ((L 13) 0) (cEe (L 13)) ((L 12) 5) from Or.inr c21)]
              rw [e] at k0
              exact k0 _ _ _ _
            · refine ev_aload_n (pc' := 103) (i := 0) dX0_figuresOfFour_102 rfl rfl rfl ?_
              refine ev_callV (pc' := 106) (rm' := rX0_signOfSpread) (b := 12) (av := []) (rest := []) co_X0_102 ci_X0_signOfSpread cv_X0_signOfSpread dX0_figuresOfFour_103 rfl hs_12 hb_X0 rfl rfl (Nat.le_of_ble_eq_true rfl) ⟨(Nat.le_of_ble_eq_true rfl), (Nat.le_of_ble_eq_true rfl)⟩ ⟨(Nat.le_of_ble_eq_true rfl), (Nat.le_of_ble_eq_true rfl)⟩ ?_
              refine t_X0_signOfSpread hI hA hE (fun Y25 Z26 V27 W28 => ?_)
              refine ev_eqi (w := cSp ((L 13) 0) (((8 * ((L 13) 0)) * ((L 13) 2)) - ((3 * ((L 13) 1)) * ((L 13) 1))) ((L 12) 5)) rfl ?_
              refine ev_memL (fun z hz => ?_)
              rw [n4_20, n4_19, n4_23, n4_22] at hz
              subst hz
              refine ev_if_ne (tgt := 126) (pc' := 109) dX0_figuresOfFour_106 rfl rfl (fun c29 => ?_) (fun c29 => ?_)
              · refine ev_iload_n (pc' := 127) (i := 2) dX0_figuresOfFour_126 rfl rfl rfl ?_
                refine ev_if_ne (tgt := 133) (pc' := 130) dX0_figuresOfFour_127 rfl rfl (fun h => absurd (by decide) h) (fun _ => ?_)
                refine ev_bipush (pc' := 132) (v := 25) dX0_figuresOfFour_130 rfl kb_25 ?_
                refine ev_iret dX0_figuresOfFour_132 rfl rfl ⟨Nat.le_refl _, Nat.le_refl _⟩ ?_
                have e : cF4 (L 13) ((L 12) 5) ((L 12) 6) = 25 := by
                  unfold cF4
                  rw [if_pos (show 0 ≤ (cSa ((L 12) 5) ((L 12) 6)) from c5)]
                  rw [if_pos (show (cSa ((L 12) 5) ((L 12) 6)) ≤ 0 from c22)]
                  rw [if_neg (show ¬ ((L 12) 5) = 0 from c23)]
                  rw [if_neg (show ¬ (cLe (L 13) = 0 ∧ cSp ((L 13) 0) (cEe (L 13)) ((L 12) 5) = 0) from fun q => absurd q.2 c29)]
                  rw [if_pos (show 0 ≤ cEe (L 13) ∨ 0 ≤ cSp ((L 13) 0) (cEe (L 13)) ((L 12) 5) from Or.inr c21)]
                rw [e] at k0
                exact k0 _ _ _ _
              · refine ev_aload_n (pc' := 110) (i := 0) dX0_figuresOfFour_109 rfl rfl rfl ?_
                refine ev_callV (pc' := 113) (rm' := rX0_eightACLessThreeBB) (b := 12) (av := []) (rest := []) co_X0_99 ci_X0_eightACLessThreeBB cv_X0_eightACLessThreeBB dX0_figuresOfFour_110 rfl hs_12 hb_X0 rfl rfl (Nat.le_of_ble_eq_true rfl) ⟨(Nat.le_of_ble_eq_true rfl), (Nat.le_of_ble_eq_true rfl)⟩ ⟨(Nat.le_of_ble_eq_true rfl), (Nat.le_of_ble_eq_true rfl)⟩ ?_
                refine t_X0_eightACLessThreeBB ?_
                refine ev_eql (w := ((8 * ((L 13) 0)) * ((L 13) 2)) - ((3 * ((L 13) 1)) * ((L 13) 1))) rfl ?_
                refine ev_lconst (pc' := 114) (v := 0) dX0_figuresOfFour_113 rfl kl_0 ?_
                refine ev_lc_ge (p1 := 115) (tgt := 123) (pc' := 118) dX0_figuresOfFour_114 rfl dX0_figuresOfFour_115 rfl rfl (fun h => absurd h c6) (fun _ => ?_)
                refine ev_bipush (pc' := 120) (v := 22) dX0_figuresOfFour_118 rfl kb_22 ?_
                refine ev_goto (tgt := 125) dX0_figuresOfFour_120 rfl ?_
                refine ev_iret dX0_figuresOfFour_125 rfl rfl ⟨Nat.le_refl _, Nat.le_refl _⟩ ?_
                have e : cF4 (L 13) ((L 12) 5) ((L 12) 6) = 22 := by
                  unfold cF4
                  rw [if_pos (show 0 ≤ (cSa ((L 12) 5) ((L 12) 6)) from c5)]
                  rw [if_pos (show (cSa ((L 12) 5) ((L 12) 6)) ≤ 0 from c22)]
                  rw [if_neg (show ¬ ((L 12) 5) = 0 from c23)]
                  rw [if_pos (show cLe (L 13) = 0 ∧ cSp ((L 13) 0) (cEe (L 13)) ((L 12) 5) = 0 from ⟨c24, c29⟩)]
                  rw [if_neg (show ¬ 0 ≤ (cEe (L 13)) from c6)]
                rw [e] at k0
                exact k0 _ _ _ _
          · refine ev_iload_n (pc' := 79) (i := 3) dX0_figuresOfFour_78 rfl rfl rfl ?_
            refine ev_if_ne (tgt := 86) (pc' := 82) dX0_figuresOfFour_79 rfl rfl (fun c30 => ?_) (fun c30 => ?_)
            · refine ev_iload_n (pc' := 87) (i := 3) dX0_figuresOfFour_86 rfl rfl rfl ?_
              refine ev_if_le (tgt := 95) (pc' := 90) dX0_figuresOfFour_87 rfl rfl (fun c31 => ?_) (fun c31 => ?_)
              · refine ev_bipush (pc' := 97) (v := 31) dX0_figuresOfFour_95 rfl kb_31 ?_
                refine ev_iret dX0_figuresOfFour_97 rfl rfl ⟨Nat.le_refl _, Nat.le_refl _⟩ ?_
                have e : cF4 (L 13) ((L 12) 5) ((L 12) 6) = 31 := by
                  unfold cF4
                  rw [if_pos (show 0 ≤ (cSa ((L 12) 5) ((L 12) 6)) from c5)]
                  rw [if_pos (show (cSa ((L 12) 5) ((L 12) 6)) ≤ 0 from c22)]
                  rw [if_pos (show ((L 12) 5) = 0 from c23)]
                  rw [if_neg (show ¬ (cLe (L 13)) = 0 from c30)]
                  rw [if_pos (show (cLe (L 13)) ≤ 0 from c31)]
                rw [e] at k0
                exact k0 _ _ _ _
              · refine ev_bipush (pc' := 92) (v := 13) dX0_figuresOfFour_90 rfl kb_13 ?_
                refine ev_goto (tgt := 97) dX0_figuresOfFour_92 rfl ?_
                refine ev_iret dX0_figuresOfFour_97 rfl rfl ⟨Nat.le_refl _, Nat.le_refl _⟩ ?_
                have e : cF4 (L 13) ((L 12) 5) ((L 12) 6) = 13 := by
                  unfold cF4
                  rw [if_pos (show 0 ≤ (cSa ((L 12) 5) ((L 12) 6)) from c5)]
                  rw [if_pos (show (cSa ((L 12) 5) ((L 12) 6)) ≤ 0 from c22)]
                  rw [if_pos (show ((L 12) 5) = 0 from c23)]
                  rw [if_neg (show ¬ (cLe (L 13)) = 0 from c30)]
                  rw [if_neg (show ¬ (cLe (L 13)) ≤ 0 from c31)]
                rw [e] at k0
                exact k0 _ _ _ _
            · refine ev_iconst (pc' := 83) (v := 4) dX0_figuresOfFour_82 rfl ki_4 ?_
              refine ev_goto (tgt := 97) dX0_figuresOfFour_83 rfl ?_
              refine ev_iret dX0_figuresOfFour_97 rfl rfl ⟨Nat.le_refl _, Nat.le_refl _⟩ ?_
              have e : cF4 (L 13) ((L 12) 5) ((L 12) 6) = 4 := by
                unfold cF4
                rw [if_pos (show 0 ≤ (cSa ((L 12) 5) ((L 12) 6)) from c5)]
                rw [if_pos (show (cSa ((L 12) 5) ((L 12) 6)) ≤ 0 from c22)]
                rw [if_pos (show ((L 12) 5) = 0 from c23)]
                rw [if_pos (show (cLe (L 13)) = 0 from c30)]
              rw [e] at k0
              exact k0 _ _ _ _
        · refine ev_iload_n (pc' := 39) (i := 2) dX0_figuresOfFour_38 rfl rfl rfl ?_
          refine ev_if_eq (tgt := 48) (pc' := 42) dX0_figuresOfFour_39 rfl rfl (fun _ => ?_) (fun h => absurd (by decide) h)
          refine ev_bipush (pc' := 50) (v := 55) dX0_figuresOfFour_48 rfl kb_55 ?_
          refine ev_iret dX0_figuresOfFour_50 rfl rfl ⟨Nat.le_refl _, Nat.le_refl _⟩ ?_
          have e : cF4 (L 13) ((L 12) 5) ((L 12) 6) = 55 := by
            unfold cF4
            rw [if_pos (show 0 ≤ (cSa ((L 12) 5) ((L 12) 6)) from c5)]
            rw [if_neg (show ¬ (cSa ((L 12) 5) ((L 12) 6)) ≤ 0 from c22)]
            rw [if_pos (show 0 ≤ cEe (L 13) ∨ 0 ≤ cSp ((L 13) 0) (cEe (L 13)) ((L 12) 5) from Or.inr c21)]
          rw [e] at k0
          exact k0 _ _ _ _
      · refine ev_iconst (pc' := 29) (v := 1) dX0_figuresOfFour_28 rfl ki_1 ?_
        refine ev_goto (tgt := 33) dX0_figuresOfFour_29 rfl ?_
        refine ev_istore_n (pc' := 34) (i := 2) (lv' := [some (.ref 12), some (.int (cSa ((L 12) 5) ((L 12) 6))), some (.int 1), none]) dX0_figuresOfFour_33 rfl rfl (Nat.le_of_ble_eq_true rfl) rfl rfl ?_
        refine ev_iload_n (pc' := 35) (i := 1) dX0_figuresOfFour_34 rfl rfl rfl ?_
        refine ev_if_le (tgt := 51) (pc' := 38) dX0_figuresOfFour_35 rfl rfl (fun c32 => ?_) (fun c32 => ?_)
        · refine ev_aload_n (pc' := 52) (i := 0) dX0_figuresOfFour_51 rfl rfl rfl ?_
          refine ev_callV (pc' := 55) (rm' := rX0_leaning) (b := 12) (av := []) (rest := []) co_X0_105 ci_X0_leaning cv_X0_leaning dX0_figuresOfFour_52 rfl hs_12 hb_X0 rfl rfl (Nat.le_of_ble_eq_true rfl) ⟨(Nat.le_of_ble_eq_true rfl), (Nat.le_of_ble_eq_true rfl)⟩ ⟨(Nat.le_of_ble_eq_true rfl), (Nat.le_of_ble_eq_true rfl)⟩ ?_
          refine t_X0_leaning ?_
          refine ev_eql (w := (((((L 13) 1) * ((L 13) 1)) * ((L 13) 1)) + (((8 * ((L 13) 0)) * ((L 13) 0)) * ((L 13) 3))) - (((4 * ((L 13) 0)) * ((L 13) 1)) * ((L 13) 2))) rfl ?_
          refine ev_callS (pc' := 58) (rm' := rX7_signOf) (av := [.long ((((((L 13) 1) * ((L 13) 1)) * ((L 13) 1)) + (((8 * ((L 13) 0)) * ((L 13) 0)) * ((L 13) 3))) - (((4 * ((L 13) 0)) * ((L 13) 1)) * ((L 13) 2)))]) (rest := []) co_X0_92 cs_X7_signOf dX0_figuresOfFour_55 rfl rfl rfl (Nat.le_of_ble_eq_true rfl) ⟨(Nat.le_of_ble_eq_true rfl), (Nat.le_of_ble_eq_true rfl)⟩ ⟨(Nat.le_of_ble_eq_true rfl), (Nat.le_of_ble_eq_true rfl)⟩ ?_
          refine t_X7_signOf ((((((L 13) 1) * ((L 13) 1)) * ((L 13) 1)) + (((8 * ((L 13) 0)) * ((L 13) 0)) * ((L 13) 3))) - (((4 * ((L 13) 0)) * ((L 13) 1)) * ((L 13) 2))) ?_
          refine ev_eqi (w := mSg ((((((L 13) 1) * ((L 13) 1)) * ((L 13) 1)) + (((8 * ((L 13) 0)) * ((L 13) 0)) * ((L 13) 3))) - (((4 * ((L 13) 0)) * ((L 13) 1)) * ((L 13) 2)))) rfl ?_
          refine ev_aload_n (pc' := 59) (i := 0) dX0_figuresOfFour_58 rfl rfl rfl ?_
          refine ev_getR (pc' := 62) fo_X0_9 dX0_figuresOfFour_59 rfl hs_12 rfl rf_12_0 ?_
          refine ev_iconst (pc' := 63) (v := 0) dX0_figuresOfFour_62 rfl ki_0 ?_
          refine ev_lald (pc' := 64) (j := 0) (v := (L 13) 0) dX0_figuresOfFour_63 rfl hs_13 rfl (Nat.le_of_ble_eq_true rfl) (Nat.le_of_ble_eq_true rfl) rfl ?_
          refine ev_callS (pc' := 67) (rm' := rX7_signOf) (av := [.long ((L 13) 0)]) (rest := [.int (mSg ((((((L 13) 1) * ((L 13) 1)) * ((L 13) 1)) + (((8 * ((L 13) 0)) * ((L 13) 0)) * ((L 13) 3))) - (((4 * ((L 13) 0)) * ((L 13) 1)) * ((L 13) 2))))]) co_X0_92 cs_X7_signOf dX0_figuresOfFour_64 rfl rfl rfl (Nat.le_of_ble_eq_true rfl) ⟨(Nat.le_of_ble_eq_true rfl), (Nat.le_of_ble_eq_true rfl)⟩ ⟨(Nat.le_of_ble_eq_true rfl), (Nat.le_of_ble_eq_true rfl)⟩ ?_
          refine t_X7_signOf ((L 13) 0) ?_
          refine ev_eqi (w := mSg ((L 13) 0)) rfl ?_
          refine ev_imul (pc' := 68) (v := (mSg ((((((L 13) 1) * ((L 13) 1)) * ((L 13) 1)) + (((8 * ((L 13) 0)) * ((L 13) 0)) * ((L 13) 3))) - (((4 * ((L 13) 0)) * ((L 13) 1)) * ((L 13) 2)))) * (mSg ((L 13) 0))) dX0_figuresOfFour_67 rfl rfl ?_
          refine ev_istore_n (pc' := 69) (i := 3) (lv' := [some (.ref 12), some (.int (cSa ((L 12) 5) ((L 12) 6))), some (.int 1), some (.int ((mSg ((((((L 13) 1) * ((L 13) 1)) * ((L 13) 1)) + (((8 * ((L 13) 0)) * ((L 13) 0)) * ((L 13) 3))) - (((4 * ((L 13) 0)) * ((L 13) 1)) * ((L 13) 2)))) * (mSg ((L 13) 0))))]) dX0_figuresOfFour_68 rfl rfl (Nat.le_of_ble_eq_true rfl) rfl rfl ?_
          refine ev_aload_n (pc' := 70) (i := 0) dX0_figuresOfFour_69 rfl rfl rfl ?_
          refine ev_getL (pc' := 73) (v := (L 12) 5) fo_X0_58 dX0_figuresOfFour_70 rfl hs_12 rfl rfl ?_
          refine ev_lconst (pc' := 74) (v := 0) dX0_figuresOfFour_73 rfl kl_0 ?_
          refine ev_lc_ne (p1 := 75) (tgt := 98) (pc' := 78) dX0_figuresOfFour_74 rfl dX0_figuresOfFour_75 rfl rfl (fun c33 => ?_) (fun c33 => ?_)
          · refine ev_iload_n (pc' := 99) (i := 3) dX0_figuresOfFour_98 rfl rfl rfl ?_
            refine ev_if_ne (tgt := 126) (pc' := 102) dX0_figuresOfFour_99 rfl rfl (fun c34 => ?_) (fun c34 => ?_)
            · refine ev_iload_n (pc' := 127) (i := 2) dX0_figuresOfFour_126 rfl rfl rfl ?_
              refine ev_if_ne (tgt := 133) (pc' := 130) dX0_figuresOfFour_127 rfl rfl (fun _ => ?_) (fun h => absurd h (by decide))
              refine ev_aload_n (pc' := 134) (i := 0) dX0_figuresOfFour_133 rfl rfl rfl ?_
              refine ev_getL (pc' := 137) (v := (L 12) 6) fo_X0_68 dX0_figuresOfFour_134 rfl hs_12 rfl rfl ?_
              refine ev_callS (pc' := 140) (rm' := rX7_signOf) (av := [.long ((L 12) 6)]) (rest := []) co_X0_92 cs_X7_signOf dX0_figuresOfFour_137 rfl rfl rfl (Nat.le_of_ble_eq_true rfl) ⟨(Nat.le_of_ble_eq_true rfl), (Nat.le_of_ble_eq_true rfl)⟩ ⟨(Nat.le_of_ble_eq_true rfl), (Nat.le_of_ble_eq_true rfl)⟩ ?_
              refine t_X7_signOf ((L 12) 6) ?_
              refine ev_eqi (w := mSg ((L 12) 6)) rfl ?_
              refine ev_aload_n (pc' := 141) (i := 0) dX0_figuresOfFour_140 rfl rfl rfl ?_
              refine ev_getR (pc' := 144) fo_X0_9 dX0_figuresOfFour_141 rfl hs_12 rfl rf_12_0 ?_
              refine ev_iconst (pc' := 145) (v := 0) dX0_figuresOfFour_144 rfl ki_0 ?_
              refine ev_lald (pc' := 146) (j := 0) (v := (L 13) 0) dX0_figuresOfFour_145 rfl hs_13 rfl (Nat.le_of_ble_eq_true rfl) (Nat.le_of_ble_eq_true rfl) rfl ?_
              refine ev_callS (pc' := 149) (rm' := rX7_signOf) (av := [.long ((L 13) 0)]) (rest := [.int (mSg ((L 12) 6))]) co_X0_92 cs_X7_signOf dX0_figuresOfFour_146 rfl rfl rfl (Nat.le_of_ble_eq_true rfl) ⟨(Nat.le_of_ble_eq_true rfl), (Nat.le_of_ble_eq_true rfl)⟩ ⟨(Nat.le_of_ble_eq_true rfl), (Nat.le_of_ble_eq_true rfl)⟩ ?_
              refine t_X7_signOf ((L 13) 0) ?_
              refine ev_eqi (w := mSg ((L 13) 0)) rfl ?_
              refine ev_icmp_ne (tgt := 155) (pc' := 152) dX0_figuresOfFour_149 rfl rfl (fun c35 => ?_) (fun c35 => ?_)
              · refine ev_iload_n (pc' := 156) (i := 3) dX0_figuresOfFour_155 rfl rfl rfl ?_
                refine ev_if_ge (tgt := 165) (pc' := 159) dX0_figuresOfFour_156 rfl rfl (fun c36 => ?_) (fun c36 => ?_)
                · refine ev_bipush (pc' := 167) (v := 112) dX0_figuresOfFour_165 rfl kb_112 ?_
                  refine ev_iret dX0_figuresOfFour_167 rfl rfl ⟨Nat.le_refl _, Nat.le_refl _⟩ ?_
                  have e : cF4 (L 13) ((L 12) 5) ((L 12) 6) = 112 := by
                    unfold cF4
                    rw [if_pos (show 0 ≤ (cSa ((L 12) 5) ((L 12) 6)) from c5)]
                    rw [if_pos (show (cSa ((L 12) 5) ((L 12) 6)) ≤ 0 from c32)]
                    rw [if_neg (show ¬ ((L 12) 5) = 0 from c33)]
                    rw [if_neg (show ¬ (cLe (L 13) = 0 ∧ cSp ((L 13) 0) (cEe (L 13)) ((L 12) 5) = 0) from fun q => absurd q.1 c34)]
                    rw [if_neg (show ¬ (0 ≤ cEe (L 13) ∨ 0 ≤ cSp ((L 13) 0) (cEe (L 13)) ((L 12) 5)) from fun q => q.elim c6 c21)]
                    rw [if_neg (show ¬ (mSg ((L 12) 6)) = (mSg ((L 13) 0)) from c35)]
                    rw [if_pos (show 0 ≤ (cLe (L 13)) from c36)]
                  rw [e] at k0
                  exact k0 _ _ _ _
                · refine ev_sipush (pc' := 162) (v := 211) dX0_figuresOfFour_159 rfl ks_211 ?_
                  refine ev_goto (tgt := 167) dX0_figuresOfFour_162 rfl ?_
                  refine ev_iret dX0_figuresOfFour_167 rfl rfl ⟨Nat.le_refl _, Nat.le_refl _⟩ ?_
                  have e : cF4 (L 13) ((L 12) 5) ((L 12) 6) = 211 := by
                    unfold cF4
                    rw [if_pos (show 0 ≤ (cSa ((L 12) 5) ((L 12) 6)) from c5)]
                    rw [if_pos (show (cSa ((L 12) 5) ((L 12) 6)) ≤ 0 from c32)]
                    rw [if_neg (show ¬ ((L 12) 5) = 0 from c33)]
                    rw [if_neg (show ¬ (cLe (L 13) = 0 ∧ cSp ((L 13) 0) (cEe (L 13)) ((L 12) 5) = 0) from fun q => absurd q.1 c34)]
                    rw [if_neg (show ¬ (0 ≤ cEe (L 13) ∨ 0 ≤ cSp ((L 13) 0) (cEe (L 13)) ((L 12) 5)) from fun q => q.elim c6 c21)]
                    rw [if_neg (show ¬ (mSg ((L 12) 6)) = (mSg ((L 13) 0)) from c35)]
                    rw [if_neg (show ¬ 0 ≤ (cLe (L 13)) from c36)]
                  rw [e] at k0
                  exact k0 _ _ _ _
              · refine ev_bipush (pc' := 154) (v := 121) dX0_figuresOfFour_152 rfl kb_121 ?_
                refine ev_iret dX0_figuresOfFour_154 rfl rfl ⟨Nat.le_refl _, Nat.le_refl _⟩ ?_
                have e : cF4 (L 13) ((L 12) 5) ((L 12) 6) = 121 := by
                  unfold cF4
                  rw [if_pos (show 0 ≤ (cSa ((L 12) 5) ((L 12) 6)) from c5)]
                  rw [if_pos (show (cSa ((L 12) 5) ((L 12) 6)) ≤ 0 from c32)]
                  rw [if_neg (show ¬ ((L 12) 5) = 0 from c33)]
                  rw [if_neg (show ¬ (cLe (L 13) = 0 ∧ cSp ((L 13) 0) (cEe (L 13)) ((L 12) 5) = 0) from fun q => absurd q.1 c34)]
                  rw [if_neg (show ¬ (0 ≤ cEe (L 13) ∨ 0 ≤ cSp ((L 13) 0) (cEe (L 13)) ((L 12) 5)) from fun q => q.elim c6 c21)]
                  rw [if_pos (show (mSg ((L 12) 6)) = (mSg ((L 13) 0)) from c35)]
                rw [e] at k0
                exact k0 _ _ _ _
            · refine ev_aload_n (pc' := 103) (i := 0) dX0_figuresOfFour_102 rfl rfl rfl ?_
              refine ev_callV (pc' := 106) (rm' := rX0_signOfSpread) (b := 12) (av := []) (rest := []) co_X0_102 ci_X0_signOfSpread cv_X0_signOfSpread dX0_figuresOfFour_103 rfl hs_12 hb_X0 rfl rfl (Nat.le_of_ble_eq_true rfl) ⟨(Nat.le_of_ble_eq_true rfl), (Nat.le_of_ble_eq_true rfl)⟩ ⟨(Nat.le_of_ble_eq_true rfl), (Nat.le_of_ble_eq_true rfl)⟩ ?_
              refine t_X0_signOfSpread hI hA hE (fun Y37 Z38 V39 W40 => ?_)
              refine ev_eqi (w := cSp ((L 13) 0) (((8 * ((L 13) 0)) * ((L 13) 2)) - ((3 * ((L 13) 1)) * ((L 13) 1))) ((L 12) 5)) rfl ?_
              refine ev_memL (fun z hz => ?_)
              rw [n4_20, n4_19, n4_23, n4_22] at hz
              subst hz
              refine ev_if_ne (tgt := 126) (pc' := 109) dX0_figuresOfFour_106 rfl rfl (fun c41 => ?_) (fun c41 => ?_)
              · refine ev_iload_n (pc' := 127) (i := 2) dX0_figuresOfFour_126 rfl rfl rfl ?_
                refine ev_if_ne (tgt := 133) (pc' := 130) dX0_figuresOfFour_127 rfl rfl (fun _ => ?_) (fun h => absurd h (by decide))
                refine ev_aload_n (pc' := 134) (i := 0) dX0_figuresOfFour_133 rfl rfl rfl ?_
                refine ev_getL (pc' := 137) (v := (L 12) 6) fo_X0_68 dX0_figuresOfFour_134 rfl hs_12 rfl rfl ?_
                refine ev_callS (pc' := 140) (rm' := rX7_signOf) (av := [.long ((L 12) 6)]) (rest := []) co_X0_92 cs_X7_signOf dX0_figuresOfFour_137 rfl rfl rfl (Nat.le_of_ble_eq_true rfl) ⟨(Nat.le_of_ble_eq_true rfl), (Nat.le_of_ble_eq_true rfl)⟩ ⟨(Nat.le_of_ble_eq_true rfl), (Nat.le_of_ble_eq_true rfl)⟩ ?_
                refine t_X7_signOf ((L 12) 6) ?_
                refine ev_eqi (w := mSg ((L 12) 6)) rfl ?_
                refine ev_aload_n (pc' := 141) (i := 0) dX0_figuresOfFour_140 rfl rfl rfl ?_
                refine ev_getR (pc' := 144) fo_X0_9 dX0_figuresOfFour_141 rfl hs_12 rfl rf_12_0 ?_
                refine ev_iconst (pc' := 145) (v := 0) dX0_figuresOfFour_144 rfl ki_0 ?_
                refine ev_lald (pc' := 146) (j := 0) (v := (L 13) 0) dX0_figuresOfFour_145 rfl hs_13 rfl (Nat.le_of_ble_eq_true rfl) (Nat.le_of_ble_eq_true rfl) rfl ?_
                refine ev_callS (pc' := 149) (rm' := rX7_signOf) (av := [.long ((L 13) 0)]) (rest := [.int (mSg ((L 12) 6))]) co_X0_92 cs_X7_signOf dX0_figuresOfFour_146 rfl rfl rfl (Nat.le_of_ble_eq_true rfl) ⟨(Nat.le_of_ble_eq_true rfl), (Nat.le_of_ble_eq_true rfl)⟩ ⟨(Nat.le_of_ble_eq_true rfl), (Nat.le_of_ble_eq_true rfl)⟩ ?_
                refine t_X7_signOf ((L 13) 0) ?_
                refine ev_eqi (w := mSg ((L 13) 0)) rfl ?_
                refine ev_icmp_ne (tgt := 155) (pc' := 152) dX0_figuresOfFour_149 rfl rfl (fun c42 => ?_) (fun c42 => ?_)
                · refine ev_iload_n (pc' := 156) (i := 3) dX0_figuresOfFour_155 rfl rfl rfl ?_
                  refine ev_if_ge (tgt := 165) (pc' := 159) dX0_figuresOfFour_156 rfl rfl (fun c43 => ?_) (fun c43 => ?_)
                  · refine ev_bipush (pc' := 167) (v := 112) dX0_figuresOfFour_165 rfl kb_112 ?_
                    refine ev_iret dX0_figuresOfFour_167 rfl rfl ⟨Nat.le_refl _, Nat.le_refl _⟩ ?_
                    have e : cF4 (L 13) ((L 12) 5) ((L 12) 6) = 112 := by
                      unfold cF4
                      rw [if_pos (show 0 ≤ (cSa ((L 12) 5) ((L 12) 6)) from c5)]
                      rw [if_pos (show (cSa ((L 12) 5) ((L 12) 6)) ≤ 0 from c32)]
                      rw [if_neg (show ¬ ((L 12) 5) = 0 from c33)]
                      rw [if_neg (show ¬ (cLe (L 13) = 0 ∧ cSp ((L 13) 0) (cEe (L 13)) ((L 12) 5) = 0) from fun q => absurd q.2 c41)]
                      rw [if_neg (show ¬ (0 ≤ cEe (L 13) ∨ 0 ≤ cSp ((L 13) 0) (cEe (L 13)) ((L 12) 5)) from fun q => q.elim c6 c21)]
                      rw [if_neg (show ¬ (mSg ((L 12) 6)) = (mSg ((L 13) 0)) from c42)]
                      rw [if_pos (show 0 ≤ (cLe (L 13)) from c43)]
                    rw [e] at k0
                    exact k0 _ _ _ _
                  · refine ev_sipush (pc' := 162) (v := 211) dX0_figuresOfFour_159 rfl ks_211 ?_
                    refine ev_goto (tgt := 167) dX0_figuresOfFour_162 rfl ?_
                    refine ev_iret dX0_figuresOfFour_167 rfl rfl ⟨Nat.le_refl _, Nat.le_refl _⟩ ?_
                    have e : cF4 (L 13) ((L 12) 5) ((L 12) 6) = 211 := by
                      unfold cF4
                      rw [if_pos (show 0 ≤ (cSa ((L 12) 5) ((L 12) 6)) from c5)]
                      rw [if_pos (show (cSa ((L 12) 5) ((L 12) 6)) ≤ 0 from c32)]
                      rw [if_neg (show ¬ ((L 12) 5) = 0 from c33)]
                      rw [if_neg (show ¬ (cLe (L 13) = 0 ∧ cSp ((L 13) 0) (cEe (L 13)) ((L 12) 5) = 0) from fun q => absurd q.2 c41)]
                      rw [if_neg (show ¬ (0 ≤ cEe (L 13) ∨ 0 ≤ cSp ((L 13) 0) (cEe (L 13)) ((L 12) 5)) from fun q => q.elim c6 c21)]
                      rw [if_neg (show ¬ (mSg ((L 12) 6)) = (mSg ((L 13) 0)) from c42)]
                      rw [if_neg (show ¬ 0 ≤ (cLe (L 13)) from c43)]
                    rw [e] at k0
                    exact k0 _ _ _ _
                · refine ev_bipush (pc' := 154) (v := 121) dX0_figuresOfFour_152 rfl kb_121 ?_
                  refine ev_iret dX0_figuresOfFour_154 rfl rfl ⟨Nat.le_refl _, Nat.le_refl _⟩ ?_
                  have e : cF4 (L 13) ((L 12) 5) ((L 12) 6) = 121 := by
                    unfold cF4
                    rw [if_pos (show 0 ≤ (cSa ((L 12) 5) ((L 12) 6)) from c5)]
                    rw [if_pos (show (cSa ((L 12) 5) ((L 12) 6)) ≤ 0 from c32)]
                    rw [if_neg (show ¬ ((L 12) 5) = 0 from c33)]
                    rw [if_neg (show ¬ (cLe (L 13) = 0 ∧ cSp ((L 13) 0) (cEe (L 13)) ((L 12) 5) = 0) from fun q => absurd q.2 c41)]
                    rw [if_neg (show ¬ (0 ≤ cEe (L 13) ∨ 0 ≤ cSp ((L 13) 0) (cEe (L 13)) ((L 12) 5)) from fun q => q.elim c6 c21)]
                    rw [if_pos (show (mSg ((L 12) 6)) = (mSg ((L 13) 0)) from c42)]
                  rw [e] at k0
                  exact k0 _ _ _ _
              · refine ev_aload_n (pc' := 110) (i := 0) dX0_figuresOfFour_109 rfl rfl rfl ?_
                refine ev_callV (pc' := 113) (rm' := rX0_eightACLessThreeBB) (b := 12) (av := []) (rest := []) co_X0_99 ci_X0_eightACLessThreeBB cv_X0_eightACLessThreeBB dX0_figuresOfFour_110 rfl hs_12 hb_X0 rfl rfl (Nat.le_of_ble_eq_true rfl) ⟨(Nat.le_of_ble_eq_true rfl), (Nat.le_of_ble_eq_true rfl)⟩ ⟨(Nat.le_of_ble_eq_true rfl), (Nat.le_of_ble_eq_true rfl)⟩ ?_
                refine t_X0_eightACLessThreeBB ?_
                refine ev_eql (w := ((8 * ((L 13) 0)) * ((L 13) 2)) - ((3 * ((L 13) 1)) * ((L 13) 1))) rfl ?_
                refine ev_lconst (pc' := 114) (v := 0) dX0_figuresOfFour_113 rfl kl_0 ?_
                refine ev_lc_ge (p1 := 115) (tgt := 123) (pc' := 118) dX0_figuresOfFour_114 rfl dX0_figuresOfFour_115 rfl rfl (fun h => absurd h c6) (fun _ => ?_)
                refine ev_bipush (pc' := 120) (v := 22) dX0_figuresOfFour_118 rfl kb_22 ?_
                refine ev_goto (tgt := 125) dX0_figuresOfFour_120 rfl ?_
                refine ev_iret dX0_figuresOfFour_125 rfl rfl ⟨Nat.le_refl _, Nat.le_refl _⟩ ?_
                have e : cF4 (L 13) ((L 12) 5) ((L 12) 6) = 22 := by
                  unfold cF4
                  rw [if_pos (show 0 ≤ (cSa ((L 12) 5) ((L 12) 6)) from c5)]
                  rw [if_pos (show (cSa ((L 12) 5) ((L 12) 6)) ≤ 0 from c32)]
                  rw [if_neg (show ¬ ((L 12) 5) = 0 from c33)]
                  rw [if_pos (show cLe (L 13) = 0 ∧ cSp ((L 13) 0) (cEe (L 13)) ((L 12) 5) = 0 from ⟨c34, c41⟩)]
                  rw [if_neg (show ¬ 0 ≤ (cEe (L 13)) from c6)]
                rw [e] at k0
                exact k0 _ _ _ _
          · refine ev_iload_n (pc' := 79) (i := 3) dX0_figuresOfFour_78 rfl rfl rfl ?_
            refine ev_if_ne (tgt := 86) (pc' := 82) dX0_figuresOfFour_79 rfl rfl (fun c44 => ?_) (fun c44 => ?_)
            · refine ev_iload_n (pc' := 87) (i := 3) dX0_figuresOfFour_86 rfl rfl rfl ?_
              refine ev_if_le (tgt := 95) (pc' := 90) dX0_figuresOfFour_87 rfl rfl (fun c45 => ?_) (fun c45 => ?_)
              · refine ev_bipush (pc' := 97) (v := 31) dX0_figuresOfFour_95 rfl kb_31 ?_
                refine ev_iret dX0_figuresOfFour_97 rfl rfl ⟨Nat.le_refl _, Nat.le_refl _⟩ ?_
                have e : cF4 (L 13) ((L 12) 5) ((L 12) 6) = 31 := by
                  unfold cF4
                  rw [if_pos (show 0 ≤ (cSa ((L 12) 5) ((L 12) 6)) from c5)]
                  rw [if_pos (show (cSa ((L 12) 5) ((L 12) 6)) ≤ 0 from c32)]
                  rw [if_pos (show ((L 12) 5) = 0 from c33)]
                  rw [if_neg (show ¬ (cLe (L 13)) = 0 from c44)]
                  rw [if_pos (show (cLe (L 13)) ≤ 0 from c45)]
                rw [e] at k0
                exact k0 _ _ _ _
              · refine ev_bipush (pc' := 92) (v := 13) dX0_figuresOfFour_90 rfl kb_13 ?_
                refine ev_goto (tgt := 97) dX0_figuresOfFour_92 rfl ?_
                refine ev_iret dX0_figuresOfFour_97 rfl rfl ⟨Nat.le_refl _, Nat.le_refl _⟩ ?_
                have e : cF4 (L 13) ((L 12) 5) ((L 12) 6) = 13 := by
                  unfold cF4
                  rw [if_pos (show 0 ≤ (cSa ((L 12) 5) ((L 12) 6)) from c5)]
                  rw [if_pos (show (cSa ((L 12) 5) ((L 12) 6)) ≤ 0 from c32)]
                  rw [if_pos (show ((L 12) 5) = 0 from c33)]
                  rw [if_neg (show ¬ (cLe (L 13)) = 0 from c44)]
                  rw [if_neg (show ¬ (cLe (L 13)) ≤ 0 from c45)]
                rw [e] at k0
                exact k0 _ _ _ _
            · refine ev_iconst (pc' := 83) (v := 4) dX0_figuresOfFour_82 rfl ki_4 ?_
              refine ev_goto (tgt := 97) dX0_figuresOfFour_83 rfl ?_
              refine ev_iret dX0_figuresOfFour_97 rfl rfl ⟨Nat.le_refl _, Nat.le_refl _⟩ ?_
              have e : cF4 (L 13) ((L 12) 5) ((L 12) 6) = 4 := by
                unfold cF4
                rw [if_pos (show 0 ≤ (cSa ((L 12) 5) ((L 12) 6)) from c5)]
                rw [if_pos (show (cSa ((L 12) 5) ((L 12) 6)) ≤ 0 from c32)]
                rw [if_pos (show ((L 12) 5) = 0 from c33)]
                rw [if_pos (show (cLe (L 13)) = 0 from c44)]
              rw [e] at k0
              exact k0 _ _ _ _
        · refine ev_iload_n (pc' := 39) (i := 2) dX0_figuresOfFour_38 rfl rfl rfl ?_
          refine ev_if_eq (tgt := 48) (pc' := 42) dX0_figuresOfFour_39 rfl rfl (fun h => absurd h (by decide)) (fun _ => ?_)
          refine ev_sipush (pc' := 45) (v := 1111) dX0_figuresOfFour_42 rfl ks_1111 ?_
          refine ev_goto (tgt := 50) dX0_figuresOfFour_45 rfl ?_
          refine ev_iret dX0_figuresOfFour_50 rfl rfl ⟨Nat.le_refl _, Nat.le_refl _⟩ ?_
          have e : cF4 (L 13) ((L 12) 5) ((L 12) 6) = 1111 := by
            unfold cF4
            rw [if_pos (show 0 ≤ (cSa ((L 12) 5) ((L 12) 6)) from c5)]
            rw [if_neg (show ¬ (cSa ((L 12) 5) ((L 12) 6)) ≤ 0 from c32)]
            rw [if_neg (show ¬ (0 ≤ cEe (L 13) ∨ 0 ≤ cSp ((L 13) 0) (cEe (L 13)) ((L 12) 5)) from fun q => q.elim c6 c21)]
          rw [e] at k0
          exact k0 _ _ _ _
  · refine ev_bipush (pc' := 11) (v := 115) dX0_figuresOfFour_9 rfl kb_115 ?_
    refine ev_iret dX0_figuresOfFour_11 rfl rfl ⟨Nat.le_refl _, Nat.le_refl _⟩ ?_
    have e : cF4 (L 13) ((L 12) 5) ((L 12) 6) = 115 := by
      unfold cF4
      rw [if_neg (show ¬ 0 ≤ (cSa ((L 12) 5) ((L 12) 6)) from c5)]
    rw [e] at k0
    exact k0 _ _ _ _
set_option maxRecDepth 4000 in
theorem t_X0_figures {g : ma_G} {Post : ma_P} {I : ma_I} {L : ma_L} (hI : ((L 12) 5).toInt.natAbs < 288230376151711744) (hJ : ((L 12) 6).toInt ≠ -9223372036854775808) (hA : ((L 13) 0).toInt.natAbs < 288230376151711744) (hE : (((8 * ((L 13) 0)) * ((L 13) 2)) - ((3 * ((L 13) 1)) * ((L 13) 1))).toInt ≠ -9223372036854775808) (k0 : ∀ Y Z V W : Nat → Int64, Post (some (.int (cFig (L 13) ((L 12) 5) ((L 12) 6)))) HS I (ma_up (ma_up (ma_up (ma_up L 20 Y) 19 Z) 23 V) 22 W) RF 146) : CT g yX0_figures cX0_figures 1 (some .int) rX0_figures [.ref 12] Post HS I L RF 146 := by
  refine ct_of (lv := [some (.ref 12)]) (by decide) (Nat.le_of_ble_eq_true rfl) rfl ?_
  refine ev_aload_n (pc' := 1) (i := 0) dX0_figures_0 rfl rfl rfl ?_
  refine ev_callV (pc' := 4) (rm' := rX0_degree) (b := 12) (av := []) (rest := []) co_X0_79 ci_X0_degree cv_X0_degree dX0_figures_1 rfl hs_12 hb_X0 rfl rfl (Nat.le_of_ble_eq_true rfl) ⟨(Nat.le_of_ble_eq_true rfl), (Nat.le_of_ble_eq_true rfl)⟩ ⟨(Nat.le_of_ble_eq_true rfl), (Nat.le_of_ble_eq_true rfl)⟩ ?_
  refine t_X0_degree   (fun h1 h2 h3 h4 h5 => ?_) (fun h6 h7 h8 h9 h10 => ?_) (fun h11 h12 h13 h14 => ?_) (fun h15 h16 h17 => ?_) (fun h18 h19 => ?_) (fun h20 => ?_)
  · skip
    refine ev_tswOut (tgt := 60) dX0_figures_4 (by decide) rfl ?_
    refine ev_iconst (pc' := 61) (v := 0) dX0_figures_60 rfl ki_0 ?_
    refine ev_iret dX0_figures_61 rfl rfl ⟨Nat.le_refl _, Nat.le_refl _⟩ ?_
    have e : cFig (L 13) ((L 12) 5) ((L 12) 6) = 0 := by
      unfold cFig
      rw [if_pos (show ((L 13) 0) = 0 from h1)]
      rw [if_pos (show ((L 13) 1) = 0 from h2)]
      rw [if_pos (show ((L 13) 2) = 0 from h3)]
      rw [if_pos (show ((L 13) 3) = 0 from h4)]
      rw [if_pos (show ((L 13) 4) = 0 from h5)]
    have q := k0 (L 20) (L 19) (L 23) (L 22)
    rw [← n4_0 L, e] at q
    exact q
  · skip
    refine ev_tswIn (off := 54) (tgt := 58) dX0_figures_4 (by decide) (by decide) rfl rfl ?_
    refine ev_iconst (pc' := 59) (v := 4) dX0_figures_58 rfl ki_4 ?_
    refine ev_iret dX0_figures_59 rfl rfl ⟨Nat.le_refl _, Nat.le_refl _⟩ ?_
    have e : cFig (L 13) ((L 12) 5) ((L 12) 6) = 4 := by
      unfold cFig
      rw [if_pos (show ((L 13) 0) = 0 from h6)]
      rw [if_pos (show ((L 13) 1) = 0 from h7)]
      rw [if_pos (show ((L 13) 2) = 0 from h8)]
      rw [if_pos (show ((L 13) 3) = 0 from h9)]
      rw [if_neg (show ¬ ((L 13) 4) = 0 from h10)]
    have q := k0 (L 20) (L 19) (L 23) (L 22)
    rw [← n4_0 L, e] at q
    exact q
  · skip
    refine ev_tswIn (off := 51) (tgt := 55) dX0_figures_4 (by decide) (by decide) rfl rfl ?_
    refine ev_bipush (pc' := 57) (v := 13) dX0_figures_55 rfl kb_13 ?_
    refine ev_iret dX0_figures_57 rfl rfl ⟨Nat.le_refl _, Nat.le_refl _⟩ ?_
    have e : cFig (L 13) ((L 12) 5) ((L 12) 6) = 13 := by
      unfold cFig
      rw [if_pos (show ((L 13) 0) = 0 from h11)]
      rw [if_pos (show ((L 13) 1) = 0 from h12)]
      rw [if_pos (show ((L 13) 2) = 0 from h13)]
      rw [if_neg (show ¬ ((L 13) 3) = 0 from h14)]
    have q := k0 (L 20) (L 19) (L 23) (L 22)
    rw [← n4_0 L, e] at q
    exact q
  · skip
    refine ev_tswIn (off := 46) (tgt := 50) dX0_figures_4 (by decide) (by decide) rfl rfl ?_
    refine ev_aload_n (pc' := 51) (i := 0) dX0_figures_50 rfl rfl rfl ?_
    refine ev_callV (pc' := 54) (rm' := rX0_figuresOfTwo) (b := 12) (av := []) (rest := []) co_X0_89 ci_X0_figuresOfTwo cv_X0_figuresOfTwo dX0_figures_51 rfl hs_12 hb_X0 rfl rfl (Nat.le_of_ble_eq_true rfl) ⟨(Nat.le_of_ble_eq_true rfl), (Nat.le_of_ble_eq_true rfl)⟩ ⟨(Nat.le_of_ble_eq_true rfl), (Nat.le_of_ble_eq_true rfl)⟩ ?_
    refine t_X0_figuresOfTwo hI hJ hA hE (fun Y21 Z22 V23 W24 => ?_)
    refine ev_eqi (w := cF2 (L 13)) rfl ?_
    refine ev_iret dX0_figures_54 rfl rfl ⟨Nat.le_refl _, Nat.le_refl _⟩ ?_
    have e : cFig (L 13) ((L 12) 5) ((L 12) 6) = cF2 (L 13) := by
      unfold cFig
      rw [if_pos (show ((L 13) 0) = 0 from h15)]
      rw [if_pos (show ((L 13) 1) = 0 from h16)]
      rw [if_neg (show ¬ ((L 13) 2) = 0 from h17)]
    rw [e] at k0
    exact k0 _ _ _ _
  · skip
    refine ev_tswIn (off := 41) (tgt := 45) dX0_figures_4 (by decide) (by decide) rfl rfl ?_
    refine ev_aload_n (pc' := 46) (i := 0) dX0_figures_45 rfl rfl rfl ?_
    refine ev_callV (pc' := 49) (rm' := rX0_figuresOfThree) (b := 12) (av := []) (rest := []) co_X0_86 ci_X0_figuresOfThree cv_X0_figuresOfThree dX0_figures_46 rfl hs_12 hb_X0 rfl rfl (Nat.le_of_ble_eq_true rfl) ⟨(Nat.le_of_ble_eq_true rfl), (Nat.le_of_ble_eq_true rfl)⟩ ⟨(Nat.le_of_ble_eq_true rfl), (Nat.le_of_ble_eq_true rfl)⟩ ?_
    refine t_X0_figuresOfThree hI hJ hA hE (fun Y25 Z26 V27 W28 => ?_)
    refine ev_eqi (w := cF3 (L 13) ((L 12) 5) ((L 12) 6)) rfl ?_
    refine ev_iret dX0_figures_49 rfl rfl ⟨Nat.le_refl _, Nat.le_refl _⟩ ?_
    have e : cFig (L 13) ((L 12) 5) ((L 12) 6) = cF3 (L 13) ((L 12) 5) ((L 12) 6) := by
      unfold cFig
      rw [if_pos (show ((L 13) 0) = 0 from h18)]
      rw [if_neg (show ¬ ((L 13) 1) = 0 from h19)]
    rw [e] at k0
    exact k0 _ _ _ _
  · skip
    refine ev_tswIn (off := 36) (tgt := 40) dX0_figures_4 (by decide) (by decide) rfl rfl ?_
    refine ev_aload_n (pc' := 41) (i := 0) dX0_figures_40 rfl rfl rfl ?_
    refine ev_callV (pc' := 44) (rm' := rX0_figuresOfFour) (b := 12) (av := []) (rest := []) co_X0_83 ci_X0_figuresOfFour cv_X0_figuresOfFour dX0_figures_41 rfl hs_12 hb_X0 rfl rfl (Nat.le_of_ble_eq_true rfl) ⟨(Nat.le_of_ble_eq_true rfl), (Nat.le_of_ble_eq_true rfl)⟩ ⟨(Nat.le_of_ble_eq_true rfl), (Nat.le_of_ble_eq_true rfl)⟩ ?_
    refine t_X0_figuresOfFour hI hJ hA hE (fun Y29 Z30 V31 W32 => ?_)
    refine ev_eqi (w := cF4 (L 13) ((L 12) 5) ((L 12) 6)) rfl ?_
    refine ev_iret dX0_figures_44 rfl rfl ⟨Nat.le_refl _, Nat.le_refl _⟩ ?_
    have e : cFig (L 13) ((L 12) 5) ((L 12) 6) = cF4 (L 13) ((L 12) 5) ((L 12) 6) := by
      unfold cFig
      rw [if_neg (show ¬ ((L 13) 0) = 0 from h20)]
    rw [e] at k0
    exact k0 _ _ _ _
theorem cFig_v (f : Nat → Int64) (i j : Int64) : cFig f i j = 0 ∨ cFig f i j = 4 ∨ cFig f i j = 6 ∨ cFig f i j = 13 ∨ cFig f i j = 22 ∨ cFig f i j = 25 ∨ cFig f i j = 31 ∨ cFig f i j = 55 ∨ cFig f i j = 112 ∨ cFig f i j = 115 ∨ cFig f i j = 121 ∨ cFig f i j = 211 ∨ cFig f i j = 1111 := by
  unfold cFig cF2 cF3 cF4
  repeat' split
  all_goals decide
