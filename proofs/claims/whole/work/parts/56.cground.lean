set_option maxRecDepth 4000 in
theorem t_X1_kind {g : ma_G} {Post : ma_P} {I : ma_I} {L : ma_L} (a n f : Nat) (ha : HS a = (1, 3)) (hn : RF a 1 = n) (hf : RF a 2 = f) (hff : HS f = (9, 10))  (k : Post (some (.int ((I f) 0))) HS I L RF 146) : CT g yX1_kind cX1_kind 1 (some .int) rX1_kind [.ref a] Post HS I L RF 146 := by
  refine ct_of (lv := [some (.ref a)]) (by decide) (Nat.le_of_ble_eq_true rfl) rfl ?_
  refine ev_aload_n (pc' := 1) (i := 0) dX1_kind_0 rfl rfl rfl ?_
  refine ev_getR (pc' := 4) fo_X1_18 dX1_kind_1 rfl ha rfl hf ?_
  refine ev_iconst (pc' := 5) (v := 0) dX1_kind_4 rfl ki_0 ?_
  refine ev_iald (pc' := 6) (j := 0) (v := (I f) 0) dX1_kind_5 rfl hff rfl (Nat.le_of_ble_eq_true rfl) (Nat.le_of_ble_eq_true rfl) rfl ?_
  refine ev_iret dX1_kind_6 rfl rfl ⟨Nat.le_refl _, Nat.le_refl _⟩ ?_
  exact k
set_option maxRecDepth 4000 in
theorem t_X1_above {g : ma_G} {Post : ma_P} {I : ma_I} {L : ma_L} (a n f : Nat) (ha : HS a = (1, 3)) (hn : RF a 1 = n) (hf : RF a 2 = f) (hff : HS f = (9, 10))  (k : Post (some (.int ((I f) 1))) HS I L RF 146) : CT g yX1_above cX1_above 1 (some .int) rX1_above [.ref a] Post HS I L RF 146 := by
  refine ct_of (lv := [some (.ref a)]) (by decide) (Nat.le_of_ble_eq_true rfl) rfl ?_
  refine ev_aload_n (pc' := 1) (i := 0) dX1_above_0 rfl rfl rfl ?_
  refine ev_getR (pc' := 4) fo_X1_18 dX1_above_1 rfl ha rfl hf ?_
  refine ev_iconst (pc' := 5) (v := 1) dX1_above_4 rfl ki_1 ?_
  refine ev_iald (pc' := 6) (j := 1) (v := (I f) 1) dX1_above_5 rfl hff rfl (Nat.le_of_ble_eq_true rfl) (Nat.le_of_ble_eq_true rfl) rfl ?_
  refine ev_iret dX1_above_6 rfl rfl ⟨Nat.le_refl _, Nat.le_refl _⟩ ?_
  exact k
set_option maxRecDepth 4000 in
theorem t_X1_below {g : ma_G} {Post : ma_P} {I : ma_I} {L : ma_L} (a n f : Nat) (ha : HS a = (1, 3)) (hn : RF a 1 = n) (hf : RF a 2 = f) (hff : HS f = (9, 10))  (k : Post (some (.int ((I f) 2))) HS I L RF 146) : CT g yX1_below cX1_below 1 (some .int) rX1_below [.ref a] Post HS I L RF 146 := by
  refine ct_of (lv := [some (.ref a)]) (by decide) (Nat.le_of_ble_eq_true rfl) rfl ?_
  refine ev_aload_n (pc' := 1) (i := 0) dX1_below_0 rfl rfl rfl ?_
  refine ev_getR (pc' := 4) fo_X1_18 dX1_below_1 rfl ha rfl hf ?_
  refine ev_iconst (pc' := 5) (v := 2) dX1_below_4 rfl ki_2 ?_
  refine ev_iald (pc' := 6) (j := 2) (v := (I f) 2) dX1_below_5 rfl hff rfl (Nat.le_of_ble_eq_true rfl) (Nat.le_of_ble_eq_true rfl) rfl ?_
  refine ev_iret dX1_below_6 rfl rfl ⟨Nat.le_refl _, Nat.le_refl _⟩ ?_
  exact k
set_option maxRecDepth 4000 in
theorem t_X1_nought {g : ma_G} {Post : ma_P} {I : ma_I} {L : ma_L} (a n f : Nat) (ha : HS a = (1, 3)) (hn : RF a 1 = n) (hf : RF a 2 = f) (hff : HS f = (9, 10))  (k : Post (some (.int ((I f) 3))) HS I L RF 146) : CT g yX1_nought cX1_nought 1 (some .int) rX1_nought [.ref a] Post HS I L RF 146 := by
  refine ct_of (lv := [some (.ref a)]) (by decide) (Nat.le_of_ble_eq_true rfl) rfl ?_
  refine ev_aload_n (pc' := 1) (i := 0) dX1_nought_0 rfl rfl rfl ?_
  refine ev_getR (pc' := 4) fo_X1_18 dX1_nought_1 rfl ha rfl hf ?_
  refine ev_iconst (pc' := 5) (v := 3) dX1_nought_4 rfl ki_3 ?_
  refine ev_iald (pc' := 6) (j := 3) (v := (I f) 3) dX1_nought_5 rfl hff rfl (Nat.le_of_ble_eq_true rfl) (Nat.le_of_ble_eq_true rfl) rfl ?_
  refine ev_iret dX1_nought_6 rfl rfl ⟨Nat.le_refl _, Nat.le_refl _⟩ ?_
  exact k
set_option maxRecDepth 4000 in
theorem t_X1_worth {g : ma_G} {Post : ma_P} {I : ma_I} {L : ma_L} (a n f : Nat) (ha : HS a = (1, 3)) (hn : RF a 1 = n) (hf : RF a 2 = f) (hff : HS f = (9, 10))  (k : Post (some (.int ((I f) 7))) HS I L RF 146) : CT g yX1_worth cX1_worth 1 (some .int) rX1_worth [.ref a] Post HS I L RF 146 := by
  refine ct_of (lv := [some (.ref a)]) (by decide) (Nat.le_of_ble_eq_true rfl) rfl ?_
  refine ev_aload_n (pc' := 1) (i := 0) dX1_worth_0 rfl rfl rfl ?_
  refine ev_getR (pc' := 4) fo_X1_18 dX1_worth_1 rfl ha rfl hf ?_
  refine ev_bipush (pc' := 6) (v := 7) dX1_worth_4 rfl kb_7 ?_
  refine ev_iald (pc' := 7) (j := 7) (v := (I f) 7) dX1_worth_6 rfl hff rfl (Nat.le_of_ble_eq_true rfl) (Nat.le_of_ble_eq_true rfl) rfl ?_
  refine ev_iret dX1_worth_7 rfl rfl ⟨Nat.le_refl _, Nat.le_refl _⟩ ?_
  exact k
set_option maxRecDepth 4000 in
theorem t_X1_lesserWorth {g : ma_G} {Post : ma_P} {I : ma_I} {L : ma_L} (a n f : Nat) (ha : HS a = (1, 3)) (hn : RF a 1 = n) (hf : RF a 2 = f) (hff : HS f = (9, 10))  (k : Post (some (.int ((I f) 8))) HS I L RF 146) : CT g yX1_lesserWorth cX1_lesserWorth 1 (some .int) rX1_lesserWorth [.ref a] Post HS I L RF 146 := by
  refine ct_of (lv := [some (.ref a)]) (by decide) (Nat.le_of_ble_eq_true rfl) rfl ?_
  refine ev_aload_n (pc' := 1) (i := 0) dX1_lesserWorth_0 rfl rfl rfl ?_
  refine ev_getR (pc' := 4) fo_X1_18 dX1_lesserWorth_1 rfl ha rfl hf ?_
  refine ev_bipush (pc' := 6) (v := 8) dX1_lesserWorth_4 rfl kb_8 ?_
  refine ev_iald (pc' := 7) (j := 8) (v := (I f) 8) dX1_lesserWorth_6 rfl hff rfl (Nat.le_of_ble_eq_true rfl) (Nat.le_of_ble_eq_true rfl) rfl ?_
  refine ev_iret dX1_lesserWorth_7 rfl rfl ⟨Nat.le_refl _, Nat.le_refl _⟩ ?_
  exact k
set_option maxRecDepth 4000 in
theorem t_X1_name {g : ma_G} {Post : ma_P} {I : ma_I} {L : ma_L} (a n f : Nat) (ha : HS a = (1, 3)) (hn : RF a 1 = n) (hf : RF a 2 = f) (hff : HS f = (9, 10))  (k : Post (some (.int ((I f) 9))) HS I L RF 146) : CT g yX1_name cX1_name 1 (some .int) rX1_name [.ref a] Post HS I L RF 146 := by
  refine ct_of (lv := [some (.ref a)]) (by decide) (Nat.le_of_ble_eq_true rfl) rfl ?_
  refine ev_aload_n (pc' := 1) (i := 0) dX1_name_0 rfl rfl rfl ?_
  refine ev_getR (pc' := 4) fo_X1_18 dX1_name_1 rfl ha rfl hf ?_
  refine ev_bipush (pc' := 6) (v := 9) dX1_name_4 rfl kb_9 ?_
  refine ev_iald (pc' := 7) (j := 9) (v := (I f) 9) dX1_name_6 rfl hff rfl (Nat.le_of_ble_eq_true rfl) (Nat.le_of_ble_eq_true rfl) rfl ?_
  refine ev_iret dX1_name_7 rfl rfl ⟨Nat.le_refl _, Nat.le_refl _⟩ ?_
  exact k
def cCg (F : Nat → Int32) : Prop := 0 < F 1 ∧ 0 < F 2
set_option maxRecDepth 4000 in
theorem t_X1_changesSign {g : ma_G} {Post : ma_P} {I : ma_I} {L : ma_L} (a n f : Nat) (ha : HS a = (1, 3)) (hn : RF a 1 = n) (hf : RF a 2 = f) (hff : HS f = (9, 10))  (k0 : ¬ cCg (I f) → Post (some (.int 0)) HS I L RF 146) (k1 : cCg (I f) → Post (some (.int 1)) HS I L RF 146) : CT g yX1_changesSign cX1_changesSign 1 (some .boolean) rX1_changesSign [.ref a] Post HS I L RF 146 := by
  refine ct_of (lv := [some (.ref a)]) (by decide) (Nat.le_of_ble_eq_true rfl) rfl ?_
  refine ev_aload_n (pc' := 1) (i := 0) dX1_changesSign_0 rfl rfl rfl ?_
  refine ev_callV (pc' := 4) (rm' := rX1_above) (b := a) (av := []) (rest := []) co_X1_22 ci_X1_above cv_X1_above dX1_changesSign_1 rfl ha hb_X1 rfl rfl (Nat.le_of_ble_eq_true rfl) ⟨(Nat.le_of_ble_eq_true rfl), (Nat.le_of_ble_eq_true rfl)⟩ ⟨(Nat.le_of_ble_eq_true rfl), (Nat.le_of_ble_eq_true rfl)⟩ ?_
  refine t_X1_above a n f ha hn hf hff ?_
  refine ev_if_le (tgt := 18) (pc' := 7) dX1_changesSign_4 rfl rfl (fun c1 => ?_) (fun c1 => ?_)
  · refine ev_iconst (pc' := 19) (v := 0) dX1_changesSign_18 rfl ki_0 ?_
    refine ev_iret dX1_changesSign_19 rfl rfl ⟨Nat.le_refl _, Nat.le_refl _⟩ ?_
    exact k0 (fun q => absurd q.1 (Int32.not_lt.mpr c1))
  · refine ev_aload_n (pc' := 8) (i := 0) dX1_changesSign_7 rfl rfl rfl ?_
    refine ev_callV (pc' := 11) (rm' := rX1_below) (b := a) (av := []) (rest := []) co_X1_26 ci_X1_below cv_X1_below dX1_changesSign_8 rfl ha hb_X1 rfl rfl (Nat.le_of_ble_eq_true rfl) ⟨(Nat.le_of_ble_eq_true rfl), (Nat.le_of_ble_eq_true rfl)⟩ ⟨(Nat.le_of_ble_eq_true rfl), (Nat.le_of_ble_eq_true rfl)⟩ ?_
    refine t_X1_below a n f ha hn hf hff ?_
    refine ev_if_le (tgt := 18) (pc' := 14) dX1_changesSign_11 rfl rfl (fun c2 => ?_) (fun c2 => ?_)
    · refine ev_iconst (pc' := 19) (v := 0) dX1_changesSign_18 rfl ki_0 ?_
      refine ev_iret dX1_changesSign_19 rfl rfl ⟨Nat.le_refl _, Nat.le_refl _⟩ ?_
      exact k0 (fun q => absurd q.2 (Int32.not_lt.mpr c2))
    · refine ev_iconst (pc' := 15) (v := 1) dX1_changesSign_14 rfl ki_1 ?_
      refine ev_goto (tgt := 19) dX1_changesSign_15 rfl ?_
      refine ev_iret dX1_changesSign_19 rfl rfl ⟨Nat.le_refl _, Nat.le_refl _⟩ ?_
      exact k1 ⟨Int32.not_le.mp c1, Int32.not_le.mp c2⟩
def cIs (F : Nat → Int32) (x : Int32) : Prop := x = 0 ∨ F 0 = x ∨ (x = 1 ∧ F 0 = 2)
set_option maxRecDepth 4000 in
theorem t_X1_is {g : ma_G} {Post : ma_P} {I : ma_I} {L : ma_L} (a n f : Nat) (ha : HS a = (1, 3)) (hn : RF a 1 = n) (hf : RF a 2 = f) (hff : HS f = (9, 10)) (x : Int32) (k0 : ¬ cIs (I f) x → Post (some (.int 0)) HS I L RF 146) (k1 : cIs (I f) x → Post (some (.int 1)) HS I L RF 146) : CT g yX1_is cX1_is 2 (some .boolean) rX1_is [.ref a, .int x] Post HS I L RF 146 := by
  refine ct_of (lv := [some (.ref a), some (.int x)]) (by decide) (Nat.le_of_ble_eq_true rfl) rfl ?_
  refine ev_iload_n (pc' := 1) (i := 1) dX1_is_0 rfl rfl rfl ?_
  refine ev_if_eq (tgt := 25) (pc' := 4) dX1_is_1 rfl rfl (fun c1 => ?_) (fun c1 => ?_)
  · refine ev_iconst (pc' := 26) (v := 1) dX1_is_25 rfl ki_1 ?_
    refine ev_goto (tgt := 30) dX1_is_26 rfl ?_
    refine ev_iret dX1_is_30 rfl rfl ⟨Nat.le_refl _, Nat.le_refl _⟩ ?_
    exact k1 (Or.inl c1)
  · refine ev_aload_n (pc' := 5) (i := 0) dX1_is_4 rfl rfl rfl ?_
    refine ev_callV (pc' := 8) (rm' := rX1_kind) (b := a) (av := []) (rest := []) co_X1_29 ci_X1_kind cv_X1_kind dX1_is_5 rfl ha hb_X1 rfl rfl (Nat.le_of_ble_eq_true rfl) ⟨(Nat.le_of_ble_eq_true rfl), (Nat.le_of_ble_eq_true rfl)⟩ ⟨(Nat.le_of_ble_eq_true rfl), (Nat.le_of_ble_eq_true rfl)⟩ ?_
    refine t_X1_kind a n f ha hn hf hff ?_
    refine ev_iload_n (pc' := 9) (i := 1) dX1_is_8 rfl rfl rfl ?_
    refine ev_icmp_eq (tgt := 25) (pc' := 12) dX1_is_9 rfl rfl (fun c2 => ?_) (fun c2 => ?_)
    · refine ev_iconst (pc' := 26) (v := 1) dX1_is_25 rfl ki_1 ?_
      refine ev_goto (tgt := 30) dX1_is_26 rfl ?_
      refine ev_iret dX1_is_30 rfl rfl ⟨Nat.le_refl _, Nat.le_refl _⟩ ?_
      exact k1 (Or.inr (Or.inl c2))
    · refine ev_iload_n (pc' := 13) (i := 1) dX1_is_12 rfl rfl rfl ?_
      refine ev_iconst (pc' := 14) (v := 1) dX1_is_13 rfl ki_1 ?_
      refine ev_icmp_ne (tgt := 29) (pc' := 17) dX1_is_14 rfl rfl (fun c3 => ?_) (fun c3 => ?_)
      · refine ev_iconst (pc' := 30) (v := 0) dX1_is_29 rfl ki_0 ?_
        refine ev_iret dX1_is_30 rfl rfl ⟨Nat.le_refl _, Nat.le_refl _⟩ ?_
        exact k0 (fun q => q.elim c1 (fun q => q.elim c2 (fun q => absurd q.1 c3)))
      · refine ev_aload_n (pc' := 18) (i := 0) dX1_is_17 rfl rfl rfl ?_
        refine ev_callV (pc' := 21) (rm' := rX1_kind) (b := a) (av := []) (rest := []) co_X1_29 ci_X1_kind cv_X1_kind dX1_is_18 rfl ha hb_X1 rfl rfl (Nat.le_of_ble_eq_true rfl) ⟨(Nat.le_of_ble_eq_true rfl), (Nat.le_of_ble_eq_true rfl)⟩ ⟨(Nat.le_of_ble_eq_true rfl), (Nat.le_of_ble_eq_true rfl)⟩ ?_
        refine t_X1_kind a n f ha hn hf hff ?_
        refine ev_iconst (pc' := 22) (v := 2) dX1_is_21 rfl ki_2 ?_
        refine ev_icmp_ne (tgt := 29) (pc' := 25) dX1_is_22 rfl rfl (fun c4 => ?_) (fun c4 => ?_)
        · refine ev_iconst (pc' := 30) (v := 0) dX1_is_29 rfl ki_0 ?_
          refine ev_iret dX1_is_30 rfl rfl ⟨Nat.le_refl _, Nat.le_refl _⟩ ?_
          exact k0 (fun q => q.elim c1 (fun q => q.elim c2 (fun q => absurd q.2 c4)))
        · refine ev_iconst (pc' := 26) (v := 1) dX1_is_25 rfl ki_1 ?_
          refine ev_goto (tgt := 30) dX1_is_26 rfl ?_
          refine ev_iret dX1_is_30 rfl rfl ⟨Nat.le_refl _, Nat.le_refl _⟩ ?_
          exact k1 (Or.inr (Or.inr ⟨c3, c4⟩))
set_option maxRecDepth 4000 in
theorem t_X1_nameBy {g : ma_G} {Post : ma_P} {I : ma_I} {L : ma_L} (x : Int32) (y : Int32) (z : Int32) (u : Int32)  (k : Post (some (.int ((((1000 * x) + (100 * y)) + (10 * z)) + u))) HS I L RF 146) : CT g yX1_nameBy cX1_nameBy 4 (some .int) rX1_nameBy [.int x, .int y, .int z, .int u] Post HS I L RF 146 := by
  refine ct_of (lv := [some (.int x), some (.int y), some (.int z), some (.int u)]) (by decide) (Nat.le_of_ble_eq_true rfl) rfl ?_
  refine ev_sipush (pc' := 3) (v := 1000) dX1_nameBy_0 rfl ks_1000 ?_
  refine ev_iload_n (pc' := 4) (i := 0) dX1_nameBy_3 rfl rfl rfl ?_
  refine ev_imul (pc' := 5) (v := 1000 * x) dX1_nameBy_4 rfl rfl ?_
  refine ev_bipush (pc' := 7) (v := 100) dX1_nameBy_5 rfl kb_100 ?_
  refine ev_iload_n (pc' := 8) (i := 1) dX1_nameBy_7 rfl rfl rfl ?_
  refine ev_imul (pc' := 9) (v := 100 * y) dX1_nameBy_8 rfl rfl ?_
  refine ev_iadd (pc' := 10) (v := (1000 * x) + (100 * y)) dX1_nameBy_9 rfl rfl ?_
  refine ev_bipush (pc' := 12) (v := 10) dX1_nameBy_10 rfl kb_10 ?_
  refine ev_iload_n (pc' := 13) (i := 2) dX1_nameBy_12 rfl rfl rfl ?_
  refine ev_imul (pc' := 14) (v := 10 * z) dX1_nameBy_13 rfl rfl ?_
  refine ev_iadd (pc' := 15) (v := ((1000 * x) + (100 * y)) + (10 * z)) dX1_nameBy_14 rfl rfl ?_
  refine ev_iload_n (pc' := 16) (i := 3) dX1_nameBy_15 rfl rfl rfl ?_
  refine ev_iadd (pc' := 17) (v := (((1000 * x) + (100 * y)) + (10 * z)) + u) dX1_nameBy_16 rfl rfl ?_
  refine ev_iret dX1_nameBy_17 rfl rfl ⟨Nat.le_refl _, Nat.le_refl _⟩ ?_
  exact k
def cKd (F : Nat → Int32) : Int32 := if (F 1 = 3 ∧ F 2 = 1 ∧ F 4 = 3) ∨ (F 1 = 1 ∧ F 2 = 3 ∧ F 5 = 3) then 3 else if F 1 = 2 ∧ F 2 = 2 then 4 else if F 3 = 1 then 1 else if F 3 ≤ 1 then 0 else 2
set_option maxRecDepth 4000 in
theorem t_X1_kindBySigns {g : ma_G} {Post : ma_P} {I : ma_I} {L : ma_L} (a n f : Nat) (ha : HS a = (1, 3)) (hn : RF a 1 = n) (hf : RF a 2 = f) (hff : HS f = (9, 10))  (k0 : Post (some (.int (cKd (I f)))) HS I L RF 146) : CT g yX1_kindBySigns cX1_kindBySigns 3 (some .int) rX1_kindBySigns [.ref a] Post HS I L RF 146 := by
  refine ct_of (lv := [some (.ref a), none, none]) (by decide) (Nat.le_of_ble_eq_true rfl) rfl ?_
  refine ev_aload_n (pc' := 1) (i := 0) dX1_kindBySigns_0 rfl rfl rfl ?_
  refine ev_callV (pc' := 4) (rm' := rX1_above) (b := a) (av := []) (rest := []) co_X1_22 ci_X1_above cv_X1_above dX1_kindBySigns_1 rfl ha hb_X1 rfl rfl (Nat.le_of_ble_eq_true rfl) ⟨(Nat.le_of_ble_eq_true rfl), (Nat.le_of_ble_eq_true rfl)⟩ ⟨(Nat.le_of_ble_eq_true rfl), (Nat.le_of_ble_eq_true rfl)⟩ ?_
  refine t_X1_above a n f ha hn hf hff ?_
  refine ev_iconst (pc' := 5) (v := 3) dX1_kindBySigns_4 rfl ki_3 ?_
  refine ev_icmp_ne (tgt := 30) (pc' := 8) dX1_kindBySigns_5 rfl rfl (fun c1 => ?_) (fun c1 => ?_)
  · refine ev_iconst (pc' := 31) (v := 0) dX1_kindBySigns_30 rfl ki_0 ?_
    refine ev_istore_n (pc' := 32) (i := 1) (lv' := [some (.ref a), some (.int 0), none]) dX1_kindBySigns_31 rfl rfl (Nat.le_of_ble_eq_true rfl) rfl rfl ?_
    refine ev_aload_n (pc' := 33) (i := 0) dX1_kindBySigns_32 rfl rfl rfl ?_
    refine ev_callV (pc' := 36) (rm' := rX1_above) (b := a) (av := []) (rest := []) co_X1_22 ci_X1_above cv_X1_above dX1_kindBySigns_33 rfl ha hb_X1 rfl rfl (Nat.le_of_ble_eq_true rfl) ⟨(Nat.le_of_ble_eq_true rfl), (Nat.le_of_ble_eq_true rfl)⟩ ⟨(Nat.le_of_ble_eq_true rfl), (Nat.le_of_ble_eq_true rfl)⟩ ?_
    refine t_X1_above a n f ha hn hf hff ?_
    refine ev_iconst (pc' := 37) (v := 1) dX1_kindBySigns_36 rfl ki_1 ?_
    refine ev_icmp_ne (tgt := 62) (pc' := 40) dX1_kindBySigns_37 rfl rfl (fun c2 => ?_) (fun c2 => ?_)
    · refine ev_iconst (pc' := 63) (v := 0) dX1_kindBySigns_62 rfl ki_0 ?_
      refine ev_istore_n (pc' := 64) (i := 2) (lv' := [some (.ref a), some (.int 0), some (.int 0)]) dX1_kindBySigns_63 rfl rfl (Nat.le_of_ble_eq_true rfl) rfl rfl ?_
      refine ev_iload_n (pc' := 65) (i := 1) dX1_kindBySigns_64 rfl rfl rfl ?_
      refine ev_if_ne (tgt := 72) (pc' := 68) dX1_kindBySigns_65 rfl rfl (fun h => absurd (by decide) h) (fun _ => ?_)
      refine ev_iload_n (pc' := 69) (i := 2) dX1_kindBySigns_68 rfl rfl rfl ?_
      refine ev_if_eq (tgt := 74) (pc' := 72) dX1_kindBySigns_69 rfl rfl (fun _ => ?_) (fun h => absurd (by decide) h)
      refine ev_aload_n (pc' := 75) (i := 0) dX1_kindBySigns_74 rfl rfl rfl ?_
      refine ev_callV (pc' := 78) (rm' := rX1_above) (b := a) (av := []) (rest := []) co_X1_22 ci_X1_above cv_X1_above dX1_kindBySigns_75 rfl ha hb_X1 rfl rfl (Nat.le_of_ble_eq_true rfl) ⟨(Nat.le_of_ble_eq_true rfl), (Nat.le_of_ble_eq_true rfl)⟩ ⟨(Nat.le_of_ble_eq_true rfl), (Nat.le_of_ble_eq_true rfl)⟩ ?_
      refine t_X1_above a n f ha hn hf hff ?_
      refine ev_iconst (pc' := 79) (v := 2) dX1_kindBySigns_78 rfl ki_2 ?_
      refine ev_icmp_ne (tgt := 92) (pc' := 82) dX1_kindBySigns_79 rfl rfl (fun c3 => ?_) (fun c3 => ?_)
      · refine ev_aload_n (pc' := 93) (i := 0) dX1_kindBySigns_92 rfl rfl rfl ?_
        refine ev_callV (pc' := 96) (rm' := rX1_nought) (b := a) (av := []) (rest := []) co_X1_72 ci_X1_nought cv_X1_nought dX1_kindBySigns_93 rfl ha hb_X1 rfl rfl (Nat.le_of_ble_eq_true rfl) ⟨(Nat.le_of_ble_eq_true rfl), (Nat.le_of_ble_eq_true rfl)⟩ ⟨(Nat.le_of_ble_eq_true rfl), (Nat.le_of_ble_eq_true rfl)⟩ ?_
        refine t_X1_nought a n f ha hn hf hff ?_
        refine ev_iconst (pc' := 97) (v := 1) dX1_kindBySigns_96 rfl ki_1 ?_
        refine ev_icmp_ne (tgt := 102) (pc' := 100) dX1_kindBySigns_97 rfl rfl (fun c4 => ?_) (fun c4 => ?_)
        · refine ev_aload_n (pc' := 103) (i := 0) dX1_kindBySigns_102 rfl rfl rfl ?_
          refine ev_callV (pc' := 106) (rm' := rX1_nought) (b := a) (av := []) (rest := []) co_X1_72 ci_X1_nought cv_X1_nought dX1_kindBySigns_103 rfl ha hb_X1 rfl rfl (Nat.le_of_ble_eq_true rfl) ⟨(Nat.le_of_ble_eq_true rfl), (Nat.le_of_ble_eq_true rfl)⟩ ⟨(Nat.le_of_ble_eq_true rfl), (Nat.le_of_ble_eq_true rfl)⟩ ?_
          refine t_X1_nought a n f ha hn hf hff ?_
          refine ev_iconst (pc' := 107) (v := 1) dX1_kindBySigns_106 rfl ki_1 ?_
          refine ev_icmp_le (tgt := 114) (pc' := 110) dX1_kindBySigns_107 rfl rfl (fun c5 => ?_) (fun c5 => ?_)
          · refine ev_iconst (pc' := 115) (v := 0) dX1_kindBySigns_114 rfl ki_0 ?_
            refine ev_iret dX1_kindBySigns_115 rfl rfl ⟨Nat.le_refl _, Nat.le_refl _⟩ ?_
            have e : cKd (I f) = 0 := by simp [cKd, c1, c2, c3, c4, c5]
            rw [e] at k0
            exact k0
          · refine ev_iconst (pc' := 111) (v := 2) dX1_kindBySigns_110 rfl ki_2 ?_
            refine ev_goto (tgt := 115) dX1_kindBySigns_111 rfl ?_
            refine ev_iret dX1_kindBySigns_115 rfl rfl ⟨Nat.le_refl _, Nat.le_refl _⟩ ?_
            have e : cKd (I f) = 2 := by simp [cKd, c1, c2, c3, c4, c5]
            rw [e] at k0
            exact k0
        · refine ev_iconst (pc' := 101) (v := 1) dX1_kindBySigns_100 rfl ki_1 ?_
          refine ev_iret dX1_kindBySigns_101 rfl rfl ⟨Nat.le_refl _, Nat.le_refl _⟩ ?_
          have e : cKd (I f) = 1 := by simp [cKd, c1, c2, c3, c4]
          rw [e] at k0
          exact k0
      · refine ev_aload_n (pc' := 83) (i := 0) dX1_kindBySigns_82 rfl rfl rfl ?_
        refine ev_callV (pc' := 86) (rm' := rX1_below) (b := a) (av := []) (rest := []) co_X1_26 ci_X1_below cv_X1_below dX1_kindBySigns_83 rfl ha hb_X1 rfl rfl (Nat.le_of_ble_eq_true rfl) ⟨(Nat.le_of_ble_eq_true rfl), (Nat.le_of_ble_eq_true rfl)⟩ ⟨(Nat.le_of_ble_eq_true rfl), (Nat.le_of_ble_eq_true rfl)⟩ ?_
        refine t_X1_below a n f ha hn hf hff ?_
        refine ev_iconst (pc' := 87) (v := 2) dX1_kindBySigns_86 rfl ki_2 ?_
        refine ev_icmp_ne (tgt := 92) (pc' := 90) dX1_kindBySigns_87 rfl rfl (fun c6 => ?_) (fun c6 => ?_)
        · refine ev_aload_n (pc' := 93) (i := 0) dX1_kindBySigns_92 rfl rfl rfl ?_
          refine ev_callV (pc' := 96) (rm' := rX1_nought) (b := a) (av := []) (rest := []) co_X1_72 ci_X1_nought cv_X1_nought dX1_kindBySigns_93 rfl ha hb_X1 rfl rfl (Nat.le_of_ble_eq_true rfl) ⟨(Nat.le_of_ble_eq_true rfl), (Nat.le_of_ble_eq_true rfl)⟩ ⟨(Nat.le_of_ble_eq_true rfl), (Nat.le_of_ble_eq_true rfl)⟩ ?_
          refine t_X1_nought a n f ha hn hf hff ?_
          refine ev_iconst (pc' := 97) (v := 1) dX1_kindBySigns_96 rfl ki_1 ?_
          refine ev_icmp_ne (tgt := 102) (pc' := 100) dX1_kindBySigns_97 rfl rfl (fun c7 => ?_) (fun c7 => ?_)
          · refine ev_aload_n (pc' := 103) (i := 0) dX1_kindBySigns_102 rfl rfl rfl ?_
            refine ev_callV (pc' := 106) (rm' := rX1_nought) (b := a) (av := []) (rest := []) co_X1_72 ci_X1_nought cv_X1_nought dX1_kindBySigns_103 rfl ha hb_X1 rfl rfl (Nat.le_of_ble_eq_true rfl) ⟨(Nat.le_of_ble_eq_true rfl), (Nat.le_of_ble_eq_true rfl)⟩ ⟨(Nat.le_of_ble_eq_true rfl), (Nat.le_of_ble_eq_true rfl)⟩ ?_
            refine t_X1_nought a n f ha hn hf hff ?_
            refine ev_iconst (pc' := 107) (v := 1) dX1_kindBySigns_106 rfl ki_1 ?_
            refine ev_icmp_le (tgt := 114) (pc' := 110) dX1_kindBySigns_107 rfl rfl (fun c8 => ?_) (fun c8 => ?_)
            · refine ev_iconst (pc' := 115) (v := 0) dX1_kindBySigns_114 rfl ki_0 ?_
              refine ev_iret dX1_kindBySigns_115 rfl rfl ⟨Nat.le_refl _, Nat.le_refl _⟩ ?_
              have e : cKd (I f) = 0 := by simp [cKd, c1, c2, c3, c6, c7, c8]
              rw [e] at k0
              exact k0
            · refine ev_iconst (pc' := 111) (v := 2) dX1_kindBySigns_110 rfl ki_2 ?_
              refine ev_goto (tgt := 115) dX1_kindBySigns_111 rfl ?_
              refine ev_iret dX1_kindBySigns_115 rfl rfl ⟨Nat.le_refl _, Nat.le_refl _⟩ ?_
              have e : cKd (I f) = 2 := by simp [cKd, c1, c2, c3, c6, c7, c8]
              rw [e] at k0
              exact k0
          · refine ev_iconst (pc' := 101) (v := 1) dX1_kindBySigns_100 rfl ki_1 ?_
            refine ev_iret dX1_kindBySigns_101 rfl rfl ⟨Nat.le_refl _, Nat.le_refl _⟩ ?_
            have e : cKd (I f) = 1 := by simp [cKd, c1, c2, c3, c6, c7]
            rw [e] at k0
            exact k0
        · refine ev_iconst (pc' := 91) (v := 4) dX1_kindBySigns_90 rfl ki_4 ?_
          refine ev_iret dX1_kindBySigns_91 rfl rfl ⟨Nat.le_refl _, Nat.le_refl _⟩ ?_
          have e : cKd (I f) = 4 := by simp [cKd, c1, c2, c3, c6]
          rw [e] at k0
          exact k0
    · refine ev_aload_n (pc' := 41) (i := 0) dX1_kindBySigns_40 rfl rfl rfl ?_
      refine ev_callV (pc' := 44) (rm' := rX1_below) (b := a) (av := []) (rest := []) co_X1_26 ci_X1_below cv_X1_below dX1_kindBySigns_41 rfl ha hb_X1 rfl rfl (Nat.le_of_ble_eq_true rfl) ⟨(Nat.le_of_ble_eq_true rfl), (Nat.le_of_ble_eq_true rfl)⟩ ⟨(Nat.le_of_ble_eq_true rfl), (Nat.le_of_ble_eq_true rfl)⟩ ?_
      refine t_X1_below a n f ha hn hf hff ?_
      refine ev_iconst (pc' := 45) (v := 3) dX1_kindBySigns_44 rfl ki_3 ?_
      refine ev_icmp_ne (tgt := 62) (pc' := 48) dX1_kindBySigns_45 rfl rfl (fun c9 => ?_) (fun c9 => ?_)
      · refine ev_iconst (pc' := 63) (v := 0) dX1_kindBySigns_62 rfl ki_0 ?_
        refine ev_istore_n (pc' := 64) (i := 2) (lv' := [some (.ref a), some (.int 0), some (.int 0)]) dX1_kindBySigns_63 rfl rfl (Nat.le_of_ble_eq_true rfl) rfl rfl ?_
        refine ev_iload_n (pc' := 65) (i := 1) dX1_kindBySigns_64 rfl rfl rfl ?_
        refine ev_if_ne (tgt := 72) (pc' := 68) dX1_kindBySigns_65 rfl rfl (fun h => absurd (by decide) h) (fun _ => ?_)
        refine ev_iload_n (pc' := 69) (i := 2) dX1_kindBySigns_68 rfl rfl rfl ?_
        refine ev_if_eq (tgt := 74) (pc' := 72) dX1_kindBySigns_69 rfl rfl (fun _ => ?_) (fun h => absurd (by decide) h)
        refine ev_aload_n (pc' := 75) (i := 0) dX1_kindBySigns_74 rfl rfl rfl ?_
        refine ev_callV (pc' := 78) (rm' := rX1_above) (b := a) (av := []) (rest := []) co_X1_22 ci_X1_above cv_X1_above dX1_kindBySigns_75 rfl ha hb_X1 rfl rfl (Nat.le_of_ble_eq_true rfl) ⟨(Nat.le_of_ble_eq_true rfl), (Nat.le_of_ble_eq_true rfl)⟩ ⟨(Nat.le_of_ble_eq_true rfl), (Nat.le_of_ble_eq_true rfl)⟩ ?_
        refine t_X1_above a n f ha hn hf hff ?_
        refine ev_iconst (pc' := 79) (v := 2) dX1_kindBySigns_78 rfl ki_2 ?_
        refine ev_icmp_ne (tgt := 92) (pc' := 82) dX1_kindBySigns_79 rfl rfl (fun c10 => ?_) (fun c10 => ?_)
        · refine ev_aload_n (pc' := 93) (i := 0) dX1_kindBySigns_92 rfl rfl rfl ?_
          refine ev_callV (pc' := 96) (rm' := rX1_nought) (b := a) (av := []) (rest := []) co_X1_72 ci_X1_nought cv_X1_nought dX1_kindBySigns_93 rfl ha hb_X1 rfl rfl (Nat.le_of_ble_eq_true rfl) ⟨(Nat.le_of_ble_eq_true rfl), (Nat.le_of_ble_eq_true rfl)⟩ ⟨(Nat.le_of_ble_eq_true rfl), (Nat.le_of_ble_eq_true rfl)⟩ ?_
          refine t_X1_nought a n f ha hn hf hff ?_
          refine ev_iconst (pc' := 97) (v := 1) dX1_kindBySigns_96 rfl ki_1 ?_
          refine ev_icmp_ne (tgt := 102) (pc' := 100) dX1_kindBySigns_97 rfl rfl (fun c11 => ?_) (fun c11 => ?_)
          · refine ev_aload_n (pc' := 103) (i := 0) dX1_kindBySigns_102 rfl rfl rfl ?_
            refine ev_callV (pc' := 106) (rm' := rX1_nought) (b := a) (av := []) (rest := []) co_X1_72 ci_X1_nought cv_X1_nought dX1_kindBySigns_103 rfl ha hb_X1 rfl rfl (Nat.le_of_ble_eq_true rfl) ⟨(Nat.le_of_ble_eq_true rfl), (Nat.le_of_ble_eq_true rfl)⟩ ⟨(Nat.le_of_ble_eq_true rfl), (Nat.le_of_ble_eq_true rfl)⟩ ?_
            refine t_X1_nought a n f ha hn hf hff ?_
            refine ev_iconst (pc' := 107) (v := 1) dX1_kindBySigns_106 rfl ki_1 ?_
            refine ev_icmp_le (tgt := 114) (pc' := 110) dX1_kindBySigns_107 rfl rfl (fun c12 => ?_) (fun c12 => ?_)
            · refine ev_iconst (pc' := 115) (v := 0) dX1_kindBySigns_114 rfl ki_0 ?_
              refine ev_iret dX1_kindBySigns_115 rfl rfl ⟨Nat.le_refl _, Nat.le_refl _⟩ ?_
              have e : cKd (I f) = 0 := by simp [cKd, c1, c2, c9, c10, c11, c12]
              rw [e] at k0
              exact k0
            · refine ev_iconst (pc' := 111) (v := 2) dX1_kindBySigns_110 rfl ki_2 ?_
              refine ev_goto (tgt := 115) dX1_kindBySigns_111 rfl ?_
              refine ev_iret dX1_kindBySigns_115 rfl rfl ⟨Nat.le_refl _, Nat.le_refl _⟩ ?_
              have e : cKd (I f) = 2 := by simp [cKd, c1, c2, c9, c10, c11, c12]
              rw [e] at k0
              exact k0
          · refine ev_iconst (pc' := 101) (v := 1) dX1_kindBySigns_100 rfl ki_1 ?_
            refine ev_iret dX1_kindBySigns_101 rfl rfl ⟨Nat.le_refl _, Nat.le_refl _⟩ ?_
            have e : cKd (I f) = 1 := by simp [cKd, c1, c2, c9, c10, c11]
            rw [e] at k0
            exact k0
        · refine ev_aload_n (pc' := 83) (i := 0) dX1_kindBySigns_82 rfl rfl rfl ?_
          refine ev_callV (pc' := 86) (rm' := rX1_below) (b := a) (av := []) (rest := []) co_X1_26 ci_X1_below cv_X1_below dX1_kindBySigns_83 rfl ha hb_X1 rfl rfl (Nat.le_of_ble_eq_true rfl) ⟨(Nat.le_of_ble_eq_true rfl), (Nat.le_of_ble_eq_true rfl)⟩ ⟨(Nat.le_of_ble_eq_true rfl), (Nat.le_of_ble_eq_true rfl)⟩ ?_
          refine t_X1_below a n f ha hn hf hff ?_
          refine ev_iconst (pc' := 87) (v := 2) dX1_kindBySigns_86 rfl ki_2 ?_
          refine ev_icmp_ne (tgt := 92) (pc' := 90) dX1_kindBySigns_87 rfl rfl (fun c13 => ?_) (fun c13 => ?_)
          · refine ev_aload_n (pc' := 93) (i := 0) dX1_kindBySigns_92 rfl rfl rfl ?_
            refine ev_callV (pc' := 96) (rm' := rX1_nought) (b := a) (av := []) (rest := []) co_X1_72 ci_X1_nought cv_X1_nought dX1_kindBySigns_93 rfl ha hb_X1 rfl rfl (Nat.le_of_ble_eq_true rfl) ⟨(Nat.le_of_ble_eq_true rfl), (Nat.le_of_ble_eq_true rfl)⟩ ⟨(Nat.le_of_ble_eq_true rfl), (Nat.le_of_ble_eq_true rfl)⟩ ?_
            refine t_X1_nought a n f ha hn hf hff ?_
            refine ev_iconst (pc' := 97) (v := 1) dX1_kindBySigns_96 rfl ki_1 ?_
            refine ev_icmp_ne (tgt := 102) (pc' := 100) dX1_kindBySigns_97 rfl rfl (fun c14 => ?_) (fun c14 => ?_)
            · refine ev_aload_n (pc' := 103) (i := 0) dX1_kindBySigns_102 rfl rfl rfl ?_
              refine ev_callV (pc' := 106) (rm' := rX1_nought) (b := a) (av := []) (rest := []) co_X1_72 ci_X1_nought cv_X1_nought dX1_kindBySigns_103 rfl ha hb_X1 rfl rfl (Nat.le_of_ble_eq_true rfl) ⟨(Nat.le_of_ble_eq_true rfl), (Nat.le_of_ble_eq_true rfl)⟩ ⟨(Nat.le_of_ble_eq_true rfl), (Nat.le_of_ble_eq_true rfl)⟩ ?_
              refine t_X1_nought a n f ha hn hf hff ?_
              refine ev_iconst (pc' := 107) (v := 1) dX1_kindBySigns_106 rfl ki_1 ?_
              refine ev_icmp_le (tgt := 114) (pc' := 110) dX1_kindBySigns_107 rfl rfl (fun c15 => ?_) (fun c15 => ?_)
              · refine ev_iconst (pc' := 115) (v := 0) dX1_kindBySigns_114 rfl ki_0 ?_
                refine ev_iret dX1_kindBySigns_115 rfl rfl ⟨Nat.le_refl _, Nat.le_refl _⟩ ?_
                exact absurd (c2.symm.trans c10) (by decide)
              · refine ev_iconst (pc' := 111) (v := 2) dX1_kindBySigns_110 rfl ki_2 ?_
                refine ev_goto (tgt := 115) dX1_kindBySigns_111 rfl ?_
                refine ev_iret dX1_kindBySigns_115 rfl rfl ⟨Nat.le_refl _, Nat.le_refl _⟩ ?_
                exact absurd (c2.symm.trans c10) (by decide)
            · refine ev_iconst (pc' := 101) (v := 1) dX1_kindBySigns_100 rfl ki_1 ?_
              refine ev_iret dX1_kindBySigns_101 rfl rfl ⟨Nat.le_refl _, Nat.le_refl _⟩ ?_
              exact absurd (c2.symm.trans c10) (by decide)
          · refine ev_iconst (pc' := 91) (v := 4) dX1_kindBySigns_90 rfl ki_4 ?_
            refine ev_iret dX1_kindBySigns_91 rfl rfl ⟨Nat.le_refl _, Nat.le_refl _⟩ ?_
            exact absurd (c2.symm.trans c10) (by decide)
      · refine ev_aload_n (pc' := 49) (i := 0) dX1_kindBySigns_48 rfl rfl rfl ?_
        refine ev_getR (pc' := 52) fo_X1_18 dX1_kindBySigns_49 rfl ha rfl hf ?_
        refine ev_iconst (pc' := 53) (v := 5) dX1_kindBySigns_52 rfl ki_5 ?_
        refine ev_iald (pc' := 54) (j := 5) (v := (I f) 5) dX1_kindBySigns_53 rfl hff rfl (Nat.le_of_ble_eq_true rfl) (Nat.le_of_ble_eq_true rfl) rfl ?_
        refine ev_iconst (pc' := 55) (v := 3) dX1_kindBySigns_54 rfl ki_3 ?_
        refine ev_icmp_ne (tgt := 62) (pc' := 58) dX1_kindBySigns_55 rfl rfl (fun c16 => ?_) (fun c16 => ?_)
        · refine ev_iconst (pc' := 63) (v := 0) dX1_kindBySigns_62 rfl ki_0 ?_
          refine ev_istore_n (pc' := 64) (i := 2) (lv' := [some (.ref a), some (.int 0), some (.int 0)]) dX1_kindBySigns_63 rfl rfl (Nat.le_of_ble_eq_true rfl) rfl rfl ?_
          refine ev_iload_n (pc' := 65) (i := 1) dX1_kindBySigns_64 rfl rfl rfl ?_
          refine ev_if_ne (tgt := 72) (pc' := 68) dX1_kindBySigns_65 rfl rfl (fun h => absurd (by decide) h) (fun _ => ?_)
          refine ev_iload_n (pc' := 69) (i := 2) dX1_kindBySigns_68 rfl rfl rfl ?_
          refine ev_if_eq (tgt := 74) (pc' := 72) dX1_kindBySigns_69 rfl rfl (fun _ => ?_) (fun h => absurd (by decide) h)
          refine ev_aload_n (pc' := 75) (i := 0) dX1_kindBySigns_74 rfl rfl rfl ?_
          refine ev_callV (pc' := 78) (rm' := rX1_above) (b := a) (av := []) (rest := []) co_X1_22 ci_X1_above cv_X1_above dX1_kindBySigns_75 rfl ha hb_X1 rfl rfl (Nat.le_of_ble_eq_true rfl) ⟨(Nat.le_of_ble_eq_true rfl), (Nat.le_of_ble_eq_true rfl)⟩ ⟨(Nat.le_of_ble_eq_true rfl), (Nat.le_of_ble_eq_true rfl)⟩ ?_
          refine t_X1_above a n f ha hn hf hff ?_
          refine ev_iconst (pc' := 79) (v := 2) dX1_kindBySigns_78 rfl ki_2 ?_
          refine ev_icmp_ne (tgt := 92) (pc' := 82) dX1_kindBySigns_79 rfl rfl (fun c17 => ?_) (fun c17 => ?_)
          · refine ev_aload_n (pc' := 93) (i := 0) dX1_kindBySigns_92 rfl rfl rfl ?_
            refine ev_callV (pc' := 96) (rm' := rX1_nought) (b := a) (av := []) (rest := []) co_X1_72 ci_X1_nought cv_X1_nought dX1_kindBySigns_93 rfl ha hb_X1 rfl rfl (Nat.le_of_ble_eq_true rfl) ⟨(Nat.le_of_ble_eq_true rfl), (Nat.le_of_ble_eq_true rfl)⟩ ⟨(Nat.le_of_ble_eq_true rfl), (Nat.le_of_ble_eq_true rfl)⟩ ?_
            refine t_X1_nought a n f ha hn hf hff ?_
            refine ev_iconst (pc' := 97) (v := 1) dX1_kindBySigns_96 rfl ki_1 ?_
            refine ev_icmp_ne (tgt := 102) (pc' := 100) dX1_kindBySigns_97 rfl rfl (fun c18 => ?_) (fun c18 => ?_)
            · refine ev_aload_n (pc' := 103) (i := 0) dX1_kindBySigns_102 rfl rfl rfl ?_
              refine ev_callV (pc' := 106) (rm' := rX1_nought) (b := a) (av := []) (rest := []) co_X1_72 ci_X1_nought cv_X1_nought dX1_kindBySigns_103 rfl ha hb_X1 rfl rfl (Nat.le_of_ble_eq_true rfl) ⟨(Nat.le_of_ble_eq_true rfl), (Nat.le_of_ble_eq_true rfl)⟩ ⟨(Nat.le_of_ble_eq_true rfl), (Nat.le_of_ble_eq_true rfl)⟩ ?_
              refine t_X1_nought a n f ha hn hf hff ?_
              refine ev_iconst (pc' := 107) (v := 1) dX1_kindBySigns_106 rfl ki_1 ?_
              refine ev_icmp_le (tgt := 114) (pc' := 110) dX1_kindBySigns_107 rfl rfl (fun c19 => ?_) (fun c19 => ?_)
              · refine ev_iconst (pc' := 115) (v := 0) dX1_kindBySigns_114 rfl ki_0 ?_
                refine ev_iret dX1_kindBySigns_115 rfl rfl ⟨Nat.le_refl _, Nat.le_refl _⟩ ?_
                have e : cKd (I f) = 0 := by simp [cKd, c1, c2, c9, c16, c17, c18, c19]
                rw [e] at k0
                exact k0
              · refine ev_iconst (pc' := 111) (v := 2) dX1_kindBySigns_110 rfl ki_2 ?_
                refine ev_goto (tgt := 115) dX1_kindBySigns_111 rfl ?_
                refine ev_iret dX1_kindBySigns_115 rfl rfl ⟨Nat.le_refl _, Nat.le_refl _⟩ ?_
                have e : cKd (I f) = 2 := by simp [cKd, c1, c2, c9, c16, c17, c18, c19]
                rw [e] at k0
                exact k0
            · refine ev_iconst (pc' := 101) (v := 1) dX1_kindBySigns_100 rfl ki_1 ?_
              refine ev_iret dX1_kindBySigns_101 rfl rfl ⟨Nat.le_refl _, Nat.le_refl _⟩ ?_
              have e : cKd (I f) = 1 := by simp [cKd, c1, c2, c9, c16, c17, c18]
              rw [e] at k0
              exact k0
          · refine ev_aload_n (pc' := 83) (i := 0) dX1_kindBySigns_82 rfl rfl rfl ?_
            refine ev_callV (pc' := 86) (rm' := rX1_below) (b := a) (av := []) (rest := []) co_X1_26 ci_X1_below cv_X1_below dX1_kindBySigns_83 rfl ha hb_X1 rfl rfl (Nat.le_of_ble_eq_true rfl) ⟨(Nat.le_of_ble_eq_true rfl), (Nat.le_of_ble_eq_true rfl)⟩ ⟨(Nat.le_of_ble_eq_true rfl), (Nat.le_of_ble_eq_true rfl)⟩ ?_
            refine t_X1_below a n f ha hn hf hff ?_
            refine ev_iconst (pc' := 87) (v := 2) dX1_kindBySigns_86 rfl ki_2 ?_
            refine ev_icmp_ne (tgt := 92) (pc' := 90) dX1_kindBySigns_87 rfl rfl (fun c20 => ?_) (fun c20 => ?_)
            · refine ev_aload_n (pc' := 93) (i := 0) dX1_kindBySigns_92 rfl rfl rfl ?_
              refine ev_callV (pc' := 96) (rm' := rX1_nought) (b := a) (av := []) (rest := []) co_X1_72 ci_X1_nought cv_X1_nought dX1_kindBySigns_93 rfl ha hb_X1 rfl rfl (Nat.le_of_ble_eq_true rfl) ⟨(Nat.le_of_ble_eq_true rfl), (Nat.le_of_ble_eq_true rfl)⟩ ⟨(Nat.le_of_ble_eq_true rfl), (Nat.le_of_ble_eq_true rfl)⟩ ?_
              refine t_X1_nought a n f ha hn hf hff ?_
              refine ev_iconst (pc' := 97) (v := 1) dX1_kindBySigns_96 rfl ki_1 ?_
              refine ev_icmp_ne (tgt := 102) (pc' := 100) dX1_kindBySigns_97 rfl rfl (fun c21 => ?_) (fun c21 => ?_)
              · refine ev_aload_n (pc' := 103) (i := 0) dX1_kindBySigns_102 rfl rfl rfl ?_
                refine ev_callV (pc' := 106) (rm' := rX1_nought) (b := a) (av := []) (rest := []) co_X1_72 ci_X1_nought cv_X1_nought dX1_kindBySigns_103 rfl ha hb_X1 rfl rfl (Nat.le_of_ble_eq_true rfl) ⟨(Nat.le_of_ble_eq_true rfl), (Nat.le_of_ble_eq_true rfl)⟩ ⟨(Nat.le_of_ble_eq_true rfl), (Nat.le_of_ble_eq_true rfl)⟩ ?_
                refine t_X1_nought a n f ha hn hf hff ?_
                refine ev_iconst (pc' := 107) (v := 1) dX1_kindBySigns_106 rfl ki_1 ?_
                refine ev_icmp_le (tgt := 114) (pc' := 110) dX1_kindBySigns_107 rfl rfl (fun c22 => ?_) (fun c22 => ?_)
                · refine ev_iconst (pc' := 115) (v := 0) dX1_kindBySigns_114 rfl ki_0 ?_
                  refine ev_iret dX1_kindBySigns_115 rfl rfl ⟨Nat.le_refl _, Nat.le_refl _⟩ ?_
                  exact absurd (c2.symm.trans c17) (by decide)
                · refine ev_iconst (pc' := 111) (v := 2) dX1_kindBySigns_110 rfl ki_2 ?_
                  refine ev_goto (tgt := 115) dX1_kindBySigns_111 rfl ?_
                  refine ev_iret dX1_kindBySigns_115 rfl rfl ⟨Nat.le_refl _, Nat.le_refl _⟩ ?_
                  exact absurd (c2.symm.trans c17) (by decide)
              · refine ev_iconst (pc' := 101) (v := 1) dX1_kindBySigns_100 rfl ki_1 ?_
                refine ev_iret dX1_kindBySigns_101 rfl rfl ⟨Nat.le_refl _, Nat.le_refl _⟩ ?_
                exact absurd (c2.symm.trans c17) (by decide)
            · refine ev_iconst (pc' := 91) (v := 4) dX1_kindBySigns_90 rfl ki_4 ?_
              refine ev_iret dX1_kindBySigns_91 rfl rfl ⟨Nat.le_refl _, Nat.le_refl _⟩ ?_
              exact absurd (c2.symm.trans c17) (by decide)
        · refine ev_iconst (pc' := 59) (v := 1) dX1_kindBySigns_58 rfl ki_1 ?_
          refine ev_goto (tgt := 63) dX1_kindBySigns_59 rfl ?_
          refine ev_istore_n (pc' := 64) (i := 2) (lv' := [some (.ref a), some (.int 0), some (.int 1)]) dX1_kindBySigns_63 rfl rfl (Nat.le_of_ble_eq_true rfl) rfl rfl ?_
          refine ev_iload_n (pc' := 65) (i := 1) dX1_kindBySigns_64 rfl rfl rfl ?_
          refine ev_if_ne (tgt := 72) (pc' := 68) dX1_kindBySigns_65 rfl rfl (fun h => absurd (by decide) h) (fun _ => ?_)
          refine ev_iload_n (pc' := 69) (i := 2) dX1_kindBySigns_68 rfl rfl rfl ?_
          refine ev_if_eq (tgt := 74) (pc' := 72) dX1_kindBySigns_69 rfl rfl (fun h => absurd h (by decide)) (fun _ => ?_)
          refine ev_iconst (pc' := 73) (v := 3) dX1_kindBySigns_72 rfl ki_3 ?_
          refine ev_iret dX1_kindBySigns_73 rfl rfl ⟨Nat.le_refl _, Nat.le_refl _⟩ ?_
          have e : cKd (I f) = 3 := by simp [cKd, c1, c2, c9, c16]
          rw [e] at k0
          exact k0
  · refine ev_aload_n (pc' := 9) (i := 0) dX1_kindBySigns_8 rfl rfl rfl ?_
    refine ev_callV (pc' := 12) (rm' := rX1_below) (b := a) (av := []) (rest := []) co_X1_26 ci_X1_below cv_X1_below dX1_kindBySigns_9 rfl ha hb_X1 rfl rfl (Nat.le_of_ble_eq_true rfl) ⟨(Nat.le_of_ble_eq_true rfl), (Nat.le_of_ble_eq_true rfl)⟩ ⟨(Nat.le_of_ble_eq_true rfl), (Nat.le_of_ble_eq_true rfl)⟩ ?_
    refine t_X1_below a n f ha hn hf hff ?_
    refine ev_iconst (pc' := 13) (v := 1) dX1_kindBySigns_12 rfl ki_1 ?_
    refine ev_icmp_ne (tgt := 30) (pc' := 16) dX1_kindBySigns_13 rfl rfl (fun c23 => ?_) (fun c23 => ?_)
    · refine ev_iconst (pc' := 31) (v := 0) dX1_kindBySigns_30 rfl ki_0 ?_
      refine ev_istore_n (pc' := 32) (i := 1) (lv' := [some (.ref a), some (.int 0), none]) dX1_kindBySigns_31 rfl rfl (Nat.le_of_ble_eq_true rfl) rfl rfl ?_
      refine ev_aload_n (pc' := 33) (i := 0) dX1_kindBySigns_32 rfl rfl rfl ?_
      refine ev_callV (pc' := 36) (rm' := rX1_above) (b := a) (av := []) (rest := []) co_X1_22 ci_X1_above cv_X1_above dX1_kindBySigns_33 rfl ha hb_X1 rfl rfl (Nat.le_of_ble_eq_true rfl) ⟨(Nat.le_of_ble_eq_true rfl), (Nat.le_of_ble_eq_true rfl)⟩ ⟨(Nat.le_of_ble_eq_true rfl), (Nat.le_of_ble_eq_true rfl)⟩ ?_
      refine t_X1_above a n f ha hn hf hff ?_
      refine ev_iconst (pc' := 37) (v := 1) dX1_kindBySigns_36 rfl ki_1 ?_
      refine ev_icmp_ne (tgt := 62) (pc' := 40) dX1_kindBySigns_37 rfl rfl (fun c24 => ?_) (fun c24 => ?_)
      · refine ev_iconst (pc' := 63) (v := 0) dX1_kindBySigns_62 rfl ki_0 ?_
        refine ev_istore_n (pc' := 64) (i := 2) (lv' := [some (.ref a), some (.int 0), some (.int 0)]) dX1_kindBySigns_63 rfl rfl (Nat.le_of_ble_eq_true rfl) rfl rfl ?_
        refine ev_iload_n (pc' := 65) (i := 1) dX1_kindBySigns_64 rfl rfl rfl ?_
        refine ev_if_ne (tgt := 72) (pc' := 68) dX1_kindBySigns_65 rfl rfl (fun h => absurd (by decide) h) (fun _ => ?_)
        refine ev_iload_n (pc' := 69) (i := 2) dX1_kindBySigns_68 rfl rfl rfl ?_
        refine ev_if_eq (tgt := 74) (pc' := 72) dX1_kindBySigns_69 rfl rfl (fun _ => ?_) (fun h => absurd (by decide) h)
        refine ev_aload_n (pc' := 75) (i := 0) dX1_kindBySigns_74 rfl rfl rfl ?_
        refine ev_callV (pc' := 78) (rm' := rX1_above) (b := a) (av := []) (rest := []) co_X1_22 ci_X1_above cv_X1_above dX1_kindBySigns_75 rfl ha hb_X1 rfl rfl (Nat.le_of_ble_eq_true rfl) ⟨(Nat.le_of_ble_eq_true rfl), (Nat.le_of_ble_eq_true rfl)⟩ ⟨(Nat.le_of_ble_eq_true rfl), (Nat.le_of_ble_eq_true rfl)⟩ ?_
        refine t_X1_above a n f ha hn hf hff ?_
        refine ev_iconst (pc' := 79) (v := 2) dX1_kindBySigns_78 rfl ki_2 ?_
        refine ev_icmp_ne (tgt := 92) (pc' := 82) dX1_kindBySigns_79 rfl rfl (fun c25 => ?_) (fun c25 => ?_)
        · refine ev_aload_n (pc' := 93) (i := 0) dX1_kindBySigns_92 rfl rfl rfl ?_
          refine ev_callV (pc' := 96) (rm' := rX1_nought) (b := a) (av := []) (rest := []) co_X1_72 ci_X1_nought cv_X1_nought dX1_kindBySigns_93 rfl ha hb_X1 rfl rfl (Nat.le_of_ble_eq_true rfl) ⟨(Nat.le_of_ble_eq_true rfl), (Nat.le_of_ble_eq_true rfl)⟩ ⟨(Nat.le_of_ble_eq_true rfl), (Nat.le_of_ble_eq_true rfl)⟩ ?_
          refine t_X1_nought a n f ha hn hf hff ?_
          refine ev_iconst (pc' := 97) (v := 1) dX1_kindBySigns_96 rfl ki_1 ?_
          refine ev_icmp_ne (tgt := 102) (pc' := 100) dX1_kindBySigns_97 rfl rfl (fun c26 => ?_) (fun c26 => ?_)
          · refine ev_aload_n (pc' := 103) (i := 0) dX1_kindBySigns_102 rfl rfl rfl ?_
            refine ev_callV (pc' := 106) (rm' := rX1_nought) (b := a) (av := []) (rest := []) co_X1_72 ci_X1_nought cv_X1_nought dX1_kindBySigns_103 rfl ha hb_X1 rfl rfl (Nat.le_of_ble_eq_true rfl) ⟨(Nat.le_of_ble_eq_true rfl), (Nat.le_of_ble_eq_true rfl)⟩ ⟨(Nat.le_of_ble_eq_true rfl), (Nat.le_of_ble_eq_true rfl)⟩ ?_
            refine t_X1_nought a n f ha hn hf hff ?_
            refine ev_iconst (pc' := 107) (v := 1) dX1_kindBySigns_106 rfl ki_1 ?_
            refine ev_icmp_le (tgt := 114) (pc' := 110) dX1_kindBySigns_107 rfl rfl (fun c27 => ?_) (fun c27 => ?_)
            · refine ev_iconst (pc' := 115) (v := 0) dX1_kindBySigns_114 rfl ki_0 ?_
              refine ev_iret dX1_kindBySigns_115 rfl rfl ⟨Nat.le_refl _, Nat.le_refl _⟩ ?_
              have e : cKd (I f) = 0 := by simp [cKd, c1, c23, c24, c25, c26, c27]
              rw [e] at k0
              exact k0
            · refine ev_iconst (pc' := 111) (v := 2) dX1_kindBySigns_110 rfl ki_2 ?_
              refine ev_goto (tgt := 115) dX1_kindBySigns_111 rfl ?_
              refine ev_iret dX1_kindBySigns_115 rfl rfl ⟨Nat.le_refl _, Nat.le_refl _⟩ ?_
              have e : cKd (I f) = 2 := by simp [cKd, c1, c23, c24, c25, c26, c27]
              rw [e] at k0
              exact k0
          · refine ev_iconst (pc' := 101) (v := 1) dX1_kindBySigns_100 rfl ki_1 ?_
            refine ev_iret dX1_kindBySigns_101 rfl rfl ⟨Nat.le_refl _, Nat.le_refl _⟩ ?_
            have e : cKd (I f) = 1 := by simp [cKd, c1, c23, c24, c25, c26]
            rw [e] at k0
            exact k0
        · refine ev_aload_n (pc' := 83) (i := 0) dX1_kindBySigns_82 rfl rfl rfl ?_
          refine ev_callV (pc' := 86) (rm' := rX1_below) (b := a) (av := []) (rest := []) co_X1_26 ci_X1_below cv_X1_below dX1_kindBySigns_83 rfl ha hb_X1 rfl rfl (Nat.le_of_ble_eq_true rfl) ⟨(Nat.le_of_ble_eq_true rfl), (Nat.le_of_ble_eq_true rfl)⟩ ⟨(Nat.le_of_ble_eq_true rfl), (Nat.le_of_ble_eq_true rfl)⟩ ?_
          refine t_X1_below a n f ha hn hf hff ?_
          refine ev_iconst (pc' := 87) (v := 2) dX1_kindBySigns_86 rfl ki_2 ?_
          refine ev_icmp_ne (tgt := 92) (pc' := 90) dX1_kindBySigns_87 rfl rfl (fun c28 => ?_) (fun c28 => ?_)
          · refine ev_aload_n (pc' := 93) (i := 0) dX1_kindBySigns_92 rfl rfl rfl ?_
            refine ev_callV (pc' := 96) (rm' := rX1_nought) (b := a) (av := []) (rest := []) co_X1_72 ci_X1_nought cv_X1_nought dX1_kindBySigns_93 rfl ha hb_X1 rfl rfl (Nat.le_of_ble_eq_true rfl) ⟨(Nat.le_of_ble_eq_true rfl), (Nat.le_of_ble_eq_true rfl)⟩ ⟨(Nat.le_of_ble_eq_true rfl), (Nat.le_of_ble_eq_true rfl)⟩ ?_
            refine t_X1_nought a n f ha hn hf hff ?_
            refine ev_iconst (pc' := 97) (v := 1) dX1_kindBySigns_96 rfl ki_1 ?_
            refine ev_icmp_ne (tgt := 102) (pc' := 100) dX1_kindBySigns_97 rfl rfl (fun c29 => ?_) (fun c29 => ?_)
            · refine ev_aload_n (pc' := 103) (i := 0) dX1_kindBySigns_102 rfl rfl rfl ?_
              refine ev_callV (pc' := 106) (rm' := rX1_nought) (b := a) (av := []) (rest := []) co_X1_72 ci_X1_nought cv_X1_nought dX1_kindBySigns_103 rfl ha hb_X1 rfl rfl (Nat.le_of_ble_eq_true rfl) ⟨(Nat.le_of_ble_eq_true rfl), (Nat.le_of_ble_eq_true rfl)⟩ ⟨(Nat.le_of_ble_eq_true rfl), (Nat.le_of_ble_eq_true rfl)⟩ ?_
              refine t_X1_nought a n f ha hn hf hff ?_
              refine ev_iconst (pc' := 107) (v := 1) dX1_kindBySigns_106 rfl ki_1 ?_
              refine ev_icmp_le (tgt := 114) (pc' := 110) dX1_kindBySigns_107 rfl rfl (fun c30 => ?_) (fun c30 => ?_)
              · refine ev_iconst (pc' := 115) (v := 0) dX1_kindBySigns_114 rfl ki_0 ?_
                refine ev_iret dX1_kindBySigns_115 rfl rfl ⟨Nat.le_refl _, Nat.le_refl _⟩ ?_
                exact absurd (c1.symm.trans c25) (by decide)
              · refine ev_iconst (pc' := 111) (v := 2) dX1_kindBySigns_110 rfl ki_2 ?_
                refine ev_goto (tgt := 115) dX1_kindBySigns_111 rfl ?_
                refine ev_iret dX1_kindBySigns_115 rfl rfl ⟨Nat.le_refl _, Nat.le_refl _⟩ ?_
                exact absurd (c1.symm.trans c25) (by decide)
            · refine ev_iconst (pc' := 101) (v := 1) dX1_kindBySigns_100 rfl ki_1 ?_
              refine ev_iret dX1_kindBySigns_101 rfl rfl ⟨Nat.le_refl _, Nat.le_refl _⟩ ?_
              exact absurd (c1.symm.trans c25) (by decide)
          · refine ev_iconst (pc' := 91) (v := 4) dX1_kindBySigns_90 rfl ki_4 ?_
            refine ev_iret dX1_kindBySigns_91 rfl rfl ⟨Nat.le_refl _, Nat.le_refl _⟩ ?_
            exact absurd (c1.symm.trans c25) (by decide)
      · refine ev_aload_n (pc' := 41) (i := 0) dX1_kindBySigns_40 rfl rfl rfl ?_
        refine ev_callV (pc' := 44) (rm' := rX1_below) (b := a) (av := []) (rest := []) co_X1_26 ci_X1_below cv_X1_below dX1_kindBySigns_41 rfl ha hb_X1 rfl rfl (Nat.le_of_ble_eq_true rfl) ⟨(Nat.le_of_ble_eq_true rfl), (Nat.le_of_ble_eq_true rfl)⟩ ⟨(Nat.le_of_ble_eq_true rfl), (Nat.le_of_ble_eq_true rfl)⟩ ?_
        refine t_X1_below a n f ha hn hf hff ?_
        refine ev_iconst (pc' := 45) (v := 3) dX1_kindBySigns_44 rfl ki_3 ?_
        refine ev_icmp_ne (tgt := 62) (pc' := 48) dX1_kindBySigns_45 rfl rfl (fun c31 => ?_) (fun c31 => ?_)
        · refine ev_iconst (pc' := 63) (v := 0) dX1_kindBySigns_62 rfl ki_0 ?_
          refine ev_istore_n (pc' := 64) (i := 2) (lv' := [some (.ref a), some (.int 0), some (.int 0)]) dX1_kindBySigns_63 rfl rfl (Nat.le_of_ble_eq_true rfl) rfl rfl ?_
          refine ev_iload_n (pc' := 65) (i := 1) dX1_kindBySigns_64 rfl rfl rfl ?_
          refine ev_if_ne (tgt := 72) (pc' := 68) dX1_kindBySigns_65 rfl rfl (fun h => absurd (by decide) h) (fun _ => ?_)
          refine ev_iload_n (pc' := 69) (i := 2) dX1_kindBySigns_68 rfl rfl rfl ?_
          refine ev_if_eq (tgt := 74) (pc' := 72) dX1_kindBySigns_69 rfl rfl (fun _ => ?_) (fun h => absurd (by decide) h)
          refine ev_aload_n (pc' := 75) (i := 0) dX1_kindBySigns_74 rfl rfl rfl ?_
          refine ev_callV (pc' := 78) (rm' := rX1_above) (b := a) (av := []) (rest := []) co_X1_22 ci_X1_above cv_X1_above dX1_kindBySigns_75 rfl ha hb_X1 rfl rfl (Nat.le_of_ble_eq_true rfl) ⟨(Nat.le_of_ble_eq_true rfl), (Nat.le_of_ble_eq_true rfl)⟩ ⟨(Nat.le_of_ble_eq_true rfl), (Nat.le_of_ble_eq_true rfl)⟩ ?_
          refine t_X1_above a n f ha hn hf hff ?_
          refine ev_iconst (pc' := 79) (v := 2) dX1_kindBySigns_78 rfl ki_2 ?_
          refine ev_icmp_ne (tgt := 92) (pc' := 82) dX1_kindBySigns_79 rfl rfl (fun c32 => ?_) (fun c32 => ?_)
          · refine ev_aload_n (pc' := 93) (i := 0) dX1_kindBySigns_92 rfl rfl rfl ?_
            refine ev_callV (pc' := 96) (rm' := rX1_nought) (b := a) (av := []) (rest := []) co_X1_72 ci_X1_nought cv_X1_nought dX1_kindBySigns_93 rfl ha hb_X1 rfl rfl (Nat.le_of_ble_eq_true rfl) ⟨(Nat.le_of_ble_eq_true rfl), (Nat.le_of_ble_eq_true rfl)⟩ ⟨(Nat.le_of_ble_eq_true rfl), (Nat.le_of_ble_eq_true rfl)⟩ ?_
            refine t_X1_nought a n f ha hn hf hff ?_
            refine ev_iconst (pc' := 97) (v := 1) dX1_kindBySigns_96 rfl ki_1 ?_
            refine ev_icmp_ne (tgt := 102) (pc' := 100) dX1_kindBySigns_97 rfl rfl (fun c33 => ?_) (fun c33 => ?_)
            · refine ev_aload_n (pc' := 103) (i := 0) dX1_kindBySigns_102 rfl rfl rfl ?_
              refine ev_callV (pc' := 106) (rm' := rX1_nought) (b := a) (av := []) (rest := []) co_X1_72 ci_X1_nought cv_X1_nought dX1_kindBySigns_103 rfl ha hb_X1 rfl rfl (Nat.le_of_ble_eq_true rfl) ⟨(Nat.le_of_ble_eq_true rfl), (Nat.le_of_ble_eq_true rfl)⟩ ⟨(Nat.le_of_ble_eq_true rfl), (Nat.le_of_ble_eq_true rfl)⟩ ?_
              refine t_X1_nought a n f ha hn hf hff ?_
              refine ev_iconst (pc' := 107) (v := 1) dX1_kindBySigns_106 rfl ki_1 ?_
              refine ev_icmp_le (tgt := 114) (pc' := 110) dX1_kindBySigns_107 rfl rfl (fun c34 => ?_) (fun c34 => ?_)
              · refine ev_iconst (pc' := 115) (v := 0) dX1_kindBySigns_114 rfl ki_0 ?_
                refine ev_iret dX1_kindBySigns_115 rfl rfl ⟨Nat.le_refl _, Nat.le_refl _⟩ ?_
                exact absurd (c1.symm.trans c24) (by decide)
              · refine ev_iconst (pc' := 111) (v := 2) dX1_kindBySigns_110 rfl ki_2 ?_
                refine ev_goto (tgt := 115) dX1_kindBySigns_111 rfl ?_
                refine ev_iret dX1_kindBySigns_115 rfl rfl ⟨Nat.le_refl _, Nat.le_refl _⟩ ?_
                exact absurd (c1.symm.trans c24) (by decide)
            · refine ev_iconst (pc' := 101) (v := 1) dX1_kindBySigns_100 rfl ki_1 ?_
              refine ev_iret dX1_kindBySigns_101 rfl rfl ⟨Nat.le_refl _, Nat.le_refl _⟩ ?_
              exact absurd (c1.symm.trans c24) (by decide)
          · refine ev_aload_n (pc' := 83) (i := 0) dX1_kindBySigns_82 rfl rfl rfl ?_
            refine ev_callV (pc' := 86) (rm' := rX1_below) (b := a) (av := []) (rest := []) co_X1_26 ci_X1_below cv_X1_below dX1_kindBySigns_83 rfl ha hb_X1 rfl rfl (Nat.le_of_ble_eq_true rfl) ⟨(Nat.le_of_ble_eq_true rfl), (Nat.le_of_ble_eq_true rfl)⟩ ⟨(Nat.le_of_ble_eq_true rfl), (Nat.le_of_ble_eq_true rfl)⟩ ?_
            refine t_X1_below a n f ha hn hf hff ?_
            refine ev_iconst (pc' := 87) (v := 2) dX1_kindBySigns_86 rfl ki_2 ?_
            refine ev_icmp_ne (tgt := 92) (pc' := 90) dX1_kindBySigns_87 rfl rfl (fun c35 => ?_) (fun c35 => ?_)
            · refine ev_aload_n (pc' := 93) (i := 0) dX1_kindBySigns_92 rfl rfl rfl ?_
              refine ev_callV (pc' := 96) (rm' := rX1_nought) (b := a) (av := []) (rest := []) co_X1_72 ci_X1_nought cv_X1_nought dX1_kindBySigns_93 rfl ha hb_X1 rfl rfl (Nat.le_of_ble_eq_true rfl) ⟨(Nat.le_of_ble_eq_true rfl), (Nat.le_of_ble_eq_true rfl)⟩ ⟨(Nat.le_of_ble_eq_true rfl), (Nat.le_of_ble_eq_true rfl)⟩ ?_
              refine t_X1_nought a n f ha hn hf hff ?_
              refine ev_iconst (pc' := 97) (v := 1) dX1_kindBySigns_96 rfl ki_1 ?_
              refine ev_icmp_ne (tgt := 102) (pc' := 100) dX1_kindBySigns_97 rfl rfl (fun c36 => ?_) (fun c36 => ?_)
              · refine ev_aload_n (pc' := 103) (i := 0) dX1_kindBySigns_102 rfl rfl rfl ?_
                refine ev_callV (pc' := 106) (rm' := rX1_nought) (b := a) (av := []) (rest := []) co_X1_72 ci_X1_nought cv_X1_nought dX1_kindBySigns_103 rfl ha hb_X1 rfl rfl (Nat.le_of_ble_eq_true rfl) ⟨(Nat.le_of_ble_eq_true rfl), (Nat.le_of_ble_eq_true rfl)⟩ ⟨(Nat.le_of_ble_eq_true rfl), (Nat.le_of_ble_eq_true rfl)⟩ ?_
                refine t_X1_nought a n f ha hn hf hff ?_
                refine ev_iconst (pc' := 107) (v := 1) dX1_kindBySigns_106 rfl ki_1 ?_
                refine ev_icmp_le (tgt := 114) (pc' := 110) dX1_kindBySigns_107 rfl rfl (fun c37 => ?_) (fun c37 => ?_)
                · refine ev_iconst (pc' := 115) (v := 0) dX1_kindBySigns_114 rfl ki_0 ?_
                  refine ev_iret dX1_kindBySigns_115 rfl rfl ⟨Nat.le_refl _, Nat.le_refl _⟩ ?_
                  exact absurd (c1.symm.trans c24) (by decide)
                · refine ev_iconst (pc' := 111) (v := 2) dX1_kindBySigns_110 rfl ki_2 ?_
                  refine ev_goto (tgt := 115) dX1_kindBySigns_111 rfl ?_
                  refine ev_iret dX1_kindBySigns_115 rfl rfl ⟨Nat.le_refl _, Nat.le_refl _⟩ ?_
                  exact absurd (c1.symm.trans c24) (by decide)
              · refine ev_iconst (pc' := 101) (v := 1) dX1_kindBySigns_100 rfl ki_1 ?_
                refine ev_iret dX1_kindBySigns_101 rfl rfl ⟨Nat.le_refl _, Nat.le_refl _⟩ ?_
                exact absurd (c1.symm.trans c24) (by decide)
            · refine ev_iconst (pc' := 91) (v := 4) dX1_kindBySigns_90 rfl ki_4 ?_
              refine ev_iret dX1_kindBySigns_91 rfl rfl ⟨Nat.le_refl _, Nat.le_refl _⟩ ?_
              exact absurd (c1.symm.trans c24) (by decide)
        · refine ev_aload_n (pc' := 49) (i := 0) dX1_kindBySigns_48 rfl rfl rfl ?_
          refine ev_getR (pc' := 52) fo_X1_18 dX1_kindBySigns_49 rfl ha rfl hf ?_
          refine ev_iconst (pc' := 53) (v := 5) dX1_kindBySigns_52 rfl ki_5 ?_
          refine ev_iald (pc' := 54) (j := 5) (v := (I f) 5) dX1_kindBySigns_53 rfl hff rfl (Nat.le_of_ble_eq_true rfl) (Nat.le_of_ble_eq_true rfl) rfl ?_
          refine ev_iconst (pc' := 55) (v := 3) dX1_kindBySigns_54 rfl ki_3 ?_
          refine ev_icmp_ne (tgt := 62) (pc' := 58) dX1_kindBySigns_55 rfl rfl (fun c38 => ?_) (fun c38 => ?_)
          · refine ev_iconst (pc' := 63) (v := 0) dX1_kindBySigns_62 rfl ki_0 ?_
            refine ev_istore_n (pc' := 64) (i := 2) (lv' := [some (.ref a), some (.int 0), some (.int 0)]) dX1_kindBySigns_63 rfl rfl (Nat.le_of_ble_eq_true rfl) rfl rfl ?_
            refine ev_iload_n (pc' := 65) (i := 1) dX1_kindBySigns_64 rfl rfl rfl ?_
            refine ev_if_ne (tgt := 72) (pc' := 68) dX1_kindBySigns_65 rfl rfl (fun h => absurd (by decide) h) (fun _ => ?_)
            refine ev_iload_n (pc' := 69) (i := 2) dX1_kindBySigns_68 rfl rfl rfl ?_
            refine ev_if_eq (tgt := 74) (pc' := 72) dX1_kindBySigns_69 rfl rfl (fun _ => ?_) (fun h => absurd (by decide) h)
            refine ev_aload_n (pc' := 75) (i := 0) dX1_kindBySigns_74 rfl rfl rfl ?_
            refine ev_callV (pc' := 78) (rm' := rX1_above) (b := a) (av := []) (rest := []) co_X1_22 ci_X1_above cv_X1_above dX1_kindBySigns_75 rfl ha hb_X1 rfl rfl (Nat.le_of_ble_eq_true rfl) ⟨(Nat.le_of_ble_eq_true rfl), (Nat.le_of_ble_eq_true rfl)⟩ ⟨(Nat.le_of_ble_eq_true rfl), (Nat.le_of_ble_eq_true rfl)⟩ ?_
            refine t_X1_above a n f ha hn hf hff ?_
            refine ev_iconst (pc' := 79) (v := 2) dX1_kindBySigns_78 rfl ki_2 ?_
            refine ev_icmp_ne (tgt := 92) (pc' := 82) dX1_kindBySigns_79 rfl rfl (fun c39 => ?_) (fun c39 => ?_)
            · refine ev_aload_n (pc' := 93) (i := 0) dX1_kindBySigns_92 rfl rfl rfl ?_
              refine ev_callV (pc' := 96) (rm' := rX1_nought) (b := a) (av := []) (rest := []) co_X1_72 ci_X1_nought cv_X1_nought dX1_kindBySigns_93 rfl ha hb_X1 rfl rfl (Nat.le_of_ble_eq_true rfl) ⟨(Nat.le_of_ble_eq_true rfl), (Nat.le_of_ble_eq_true rfl)⟩ ⟨(Nat.le_of_ble_eq_true rfl), (Nat.le_of_ble_eq_true rfl)⟩ ?_
              refine t_X1_nought a n f ha hn hf hff ?_
              refine ev_iconst (pc' := 97) (v := 1) dX1_kindBySigns_96 rfl ki_1 ?_
              refine ev_icmp_ne (tgt := 102) (pc' := 100) dX1_kindBySigns_97 rfl rfl (fun c40 => ?_) (fun c40 => ?_)
              · refine ev_aload_n (pc' := 103) (i := 0) dX1_kindBySigns_102 rfl rfl rfl ?_
                refine ev_callV (pc' := 106) (rm' := rX1_nought) (b := a) (av := []) (rest := []) co_X1_72 ci_X1_nought cv_X1_nought dX1_kindBySigns_103 rfl ha hb_X1 rfl rfl (Nat.le_of_ble_eq_true rfl) ⟨(Nat.le_of_ble_eq_true rfl), (Nat.le_of_ble_eq_true rfl)⟩ ⟨(Nat.le_of_ble_eq_true rfl), (Nat.le_of_ble_eq_true rfl)⟩ ?_
                refine t_X1_nought a n f ha hn hf hff ?_
                refine ev_iconst (pc' := 107) (v := 1) dX1_kindBySigns_106 rfl ki_1 ?_
                refine ev_icmp_le (tgt := 114) (pc' := 110) dX1_kindBySigns_107 rfl rfl (fun c41 => ?_) (fun c41 => ?_)
                · refine ev_iconst (pc' := 115) (v := 0) dX1_kindBySigns_114 rfl ki_0 ?_
                  refine ev_iret dX1_kindBySigns_115 rfl rfl ⟨Nat.le_refl _, Nat.le_refl _⟩ ?_
                  exact absurd (c1.symm.trans c24) (by decide)
                · refine ev_iconst (pc' := 111) (v := 2) dX1_kindBySigns_110 rfl ki_2 ?_
                  refine ev_goto (tgt := 115) dX1_kindBySigns_111 rfl ?_
                  refine ev_iret dX1_kindBySigns_115 rfl rfl ⟨Nat.le_refl _, Nat.le_refl _⟩ ?_
                  exact absurd (c1.symm.trans c24) (by decide)
              · refine ev_iconst (pc' := 101) (v := 1) dX1_kindBySigns_100 rfl ki_1 ?_
                refine ev_iret dX1_kindBySigns_101 rfl rfl ⟨Nat.le_refl _, Nat.le_refl _⟩ ?_
                exact absurd (c1.symm.trans c24) (by decide)
            · refine ev_aload_n (pc' := 83) (i := 0) dX1_kindBySigns_82 rfl rfl rfl ?_
              refine ev_callV (pc' := 86) (rm' := rX1_below) (b := a) (av := []) (rest := []) co_X1_26 ci_X1_below cv_X1_below dX1_kindBySigns_83 rfl ha hb_X1 rfl rfl (Nat.le_of_ble_eq_true rfl) ⟨(Nat.le_of_ble_eq_true rfl), (Nat.le_of_ble_eq_true rfl)⟩ ⟨(Nat.le_of_ble_eq_true rfl), (Nat.le_of_ble_eq_true rfl)⟩ ?_
              refine t_X1_below a n f ha hn hf hff ?_
              refine ev_iconst (pc' := 87) (v := 2) dX1_kindBySigns_86 rfl ki_2 ?_
              refine ev_icmp_ne (tgt := 92) (pc' := 90) dX1_kindBySigns_87 rfl rfl (fun c42 => ?_) (fun c42 => ?_)
              · refine ev_aload_n (pc' := 93) (i := 0) dX1_kindBySigns_92 rfl rfl rfl ?_
                refine ev_callV (pc' := 96) (rm' := rX1_nought) (b := a) (av := []) (rest := []) co_X1_72 ci_X1_nought cv_X1_nought dX1_kindBySigns_93 rfl ha hb_X1 rfl rfl (Nat.le_of_ble_eq_true rfl) ⟨(Nat.le_of_ble_eq_true rfl), (Nat.le_of_ble_eq_true rfl)⟩ ⟨(Nat.le_of_ble_eq_true rfl), (Nat.le_of_ble_eq_true rfl)⟩ ?_
                refine t_X1_nought a n f ha hn hf hff ?_
                refine ev_iconst (pc' := 97) (v := 1) dX1_kindBySigns_96 rfl ki_1 ?_
                refine ev_icmp_ne (tgt := 102) (pc' := 100) dX1_kindBySigns_97 rfl rfl (fun c43 => ?_) (fun c43 => ?_)
                · refine ev_aload_n (pc' := 103) (i := 0) dX1_kindBySigns_102 rfl rfl rfl ?_
                  refine ev_callV (pc' := 106) (rm' := rX1_nought) (b := a) (av := []) (rest := []) co_X1_72 ci_X1_nought cv_X1_nought dX1_kindBySigns_103 rfl ha hb_X1 rfl rfl (Nat.le_of_ble_eq_true rfl) ⟨(Nat.le_of_ble_eq_true rfl), (Nat.le_of_ble_eq_true rfl)⟩ ⟨(Nat.le_of_ble_eq_true rfl), (Nat.le_of_ble_eq_true rfl)⟩ ?_
                  refine t_X1_nought a n f ha hn hf hff ?_
                  refine ev_iconst (pc' := 107) (v := 1) dX1_kindBySigns_106 rfl ki_1 ?_
                  refine ev_icmp_le (tgt := 114) (pc' := 110) dX1_kindBySigns_107 rfl rfl (fun c44 => ?_) (fun c44 => ?_)
                  · refine ev_iconst (pc' := 115) (v := 0) dX1_kindBySigns_114 rfl ki_0 ?_
                    refine ev_iret dX1_kindBySigns_115 rfl rfl ⟨Nat.le_refl _, Nat.le_refl _⟩ ?_
                    exact absurd (c1.symm.trans c24) (by decide)
                  · refine ev_iconst (pc' := 111) (v := 2) dX1_kindBySigns_110 rfl ki_2 ?_
                    refine ev_goto (tgt := 115) dX1_kindBySigns_111 rfl ?_
                    refine ev_iret dX1_kindBySigns_115 rfl rfl ⟨Nat.le_refl _, Nat.le_refl _⟩ ?_
                    exact absurd (c1.symm.trans c24) (by decide)
                · refine ev_iconst (pc' := 101) (v := 1) dX1_kindBySigns_100 rfl ki_1 ?_
                  refine ev_iret dX1_kindBySigns_101 rfl rfl ⟨Nat.le_refl _, Nat.le_refl _⟩ ?_
                  exact absurd (c1.symm.trans c24) (by decide)
              · refine ev_iconst (pc' := 91) (v := 4) dX1_kindBySigns_90 rfl ki_4 ?_
                refine ev_iret dX1_kindBySigns_91 rfl rfl ⟨Nat.le_refl _, Nat.le_refl _⟩ ?_
                exact absurd (c1.symm.trans c24) (by decide)
          · refine ev_iconst (pc' := 59) (v := 1) dX1_kindBySigns_58 rfl ki_1 ?_
            refine ev_goto (tgt := 63) dX1_kindBySigns_59 rfl ?_
            refine ev_istore_n (pc' := 64) (i := 2) (lv' := [some (.ref a), some (.int 0), some (.int 1)]) dX1_kindBySigns_63 rfl rfl (Nat.le_of_ble_eq_true rfl) rfl rfl ?_
            refine ev_iload_n (pc' := 65) (i := 1) dX1_kindBySigns_64 rfl rfl rfl ?_
            refine ev_if_ne (tgt := 72) (pc' := 68) dX1_kindBySigns_65 rfl rfl (fun h => absurd (by decide) h) (fun _ => ?_)
            refine ev_iload_n (pc' := 69) (i := 2) dX1_kindBySigns_68 rfl rfl rfl ?_
            refine ev_if_eq (tgt := 74) (pc' := 72) dX1_kindBySigns_69 rfl rfl (fun h => absurd h (by decide)) (fun _ => ?_)
            refine ev_iconst (pc' := 73) (v := 3) dX1_kindBySigns_72 rfl ki_3 ?_
            refine ev_iret dX1_kindBySigns_73 rfl rfl ⟨Nat.le_refl _, Nat.le_refl _⟩ ?_
            exact absurd (c1.symm.trans c24) (by decide)
    · refine ev_aload_n (pc' := 17) (i := 0) dX1_kindBySigns_16 rfl rfl rfl ?_
      refine ev_getR (pc' := 20) fo_X1_18 dX1_kindBySigns_17 rfl ha rfl hf ?_
      refine ev_iconst (pc' := 21) (v := 4) dX1_kindBySigns_20 rfl ki_4 ?_
      refine ev_iald (pc' := 22) (j := 4) (v := (I f) 4) dX1_kindBySigns_21 rfl hff rfl (Nat.le_of_ble_eq_true rfl) (Nat.le_of_ble_eq_true rfl) rfl ?_
      refine ev_iconst (pc' := 23) (v := 3) dX1_kindBySigns_22 rfl ki_3 ?_
      refine ev_icmp_ne (tgt := 30) (pc' := 26) dX1_kindBySigns_23 rfl rfl (fun c45 => ?_) (fun c45 => ?_)
      · refine ev_iconst (pc' := 31) (v := 0) dX1_kindBySigns_30 rfl ki_0 ?_
        refine ev_istore_n (pc' := 32) (i := 1) (lv' := [some (.ref a), some (.int 0), none]) dX1_kindBySigns_31 rfl rfl (Nat.le_of_ble_eq_true rfl) rfl rfl ?_
        refine ev_aload_n (pc' := 33) (i := 0) dX1_kindBySigns_32 rfl rfl rfl ?_
        refine ev_callV (pc' := 36) (rm' := rX1_above) (b := a) (av := []) (rest := []) co_X1_22 ci_X1_above cv_X1_above dX1_kindBySigns_33 rfl ha hb_X1 rfl rfl (Nat.le_of_ble_eq_true rfl) ⟨(Nat.le_of_ble_eq_true rfl), (Nat.le_of_ble_eq_true rfl)⟩ ⟨(Nat.le_of_ble_eq_true rfl), (Nat.le_of_ble_eq_true rfl)⟩ ?_
        refine t_X1_above a n f ha hn hf hff ?_
        refine ev_iconst (pc' := 37) (v := 1) dX1_kindBySigns_36 rfl ki_1 ?_
        refine ev_icmp_ne (tgt := 62) (pc' := 40) dX1_kindBySigns_37 rfl rfl (fun c46 => ?_) (fun c46 => ?_)
        · refine ev_iconst (pc' := 63) (v := 0) dX1_kindBySigns_62 rfl ki_0 ?_
          refine ev_istore_n (pc' := 64) (i := 2) (lv' := [some (.ref a), some (.int 0), some (.int 0)]) dX1_kindBySigns_63 rfl rfl (Nat.le_of_ble_eq_true rfl) rfl rfl ?_
          refine ev_iload_n (pc' := 65) (i := 1) dX1_kindBySigns_64 rfl rfl rfl ?_
          refine ev_if_ne (tgt := 72) (pc' := 68) dX1_kindBySigns_65 rfl rfl (fun h => absurd (by decide) h) (fun _ => ?_)
          refine ev_iload_n (pc' := 69) (i := 2) dX1_kindBySigns_68 rfl rfl rfl ?_
          refine ev_if_eq (tgt := 74) (pc' := 72) dX1_kindBySigns_69 rfl rfl (fun _ => ?_) (fun h => absurd (by decide) h)
          refine ev_aload_n (pc' := 75) (i := 0) dX1_kindBySigns_74 rfl rfl rfl ?_
          refine ev_callV (pc' := 78) (rm' := rX1_above) (b := a) (av := []) (rest := []) co_X1_22 ci_X1_above cv_X1_above dX1_kindBySigns_75 rfl ha hb_X1 rfl rfl (Nat.le_of_ble_eq_true rfl) ⟨(Nat.le_of_ble_eq_true rfl), (Nat.le_of_ble_eq_true rfl)⟩ ⟨(Nat.le_of_ble_eq_true rfl), (Nat.le_of_ble_eq_true rfl)⟩ ?_
          refine t_X1_above a n f ha hn hf hff ?_
          refine ev_iconst (pc' := 79) (v := 2) dX1_kindBySigns_78 rfl ki_2 ?_
          refine ev_icmp_ne (tgt := 92) (pc' := 82) dX1_kindBySigns_79 rfl rfl (fun c47 => ?_) (fun c47 => ?_)
          · refine ev_aload_n (pc' := 93) (i := 0) dX1_kindBySigns_92 rfl rfl rfl ?_
            refine ev_callV (pc' := 96) (rm' := rX1_nought) (b := a) (av := []) (rest := []) co_X1_72 ci_X1_nought cv_X1_nought dX1_kindBySigns_93 rfl ha hb_X1 rfl rfl (Nat.le_of_ble_eq_true rfl) ⟨(Nat.le_of_ble_eq_true rfl), (Nat.le_of_ble_eq_true rfl)⟩ ⟨(Nat.le_of_ble_eq_true rfl), (Nat.le_of_ble_eq_true rfl)⟩ ?_
            refine t_X1_nought a n f ha hn hf hff ?_
            refine ev_iconst (pc' := 97) (v := 1) dX1_kindBySigns_96 rfl ki_1 ?_
            refine ev_icmp_ne (tgt := 102) (pc' := 100) dX1_kindBySigns_97 rfl rfl (fun c48 => ?_) (fun c48 => ?_)
            · refine ev_aload_n (pc' := 103) (i := 0) dX1_kindBySigns_102 rfl rfl rfl ?_
              refine ev_callV (pc' := 106) (rm' := rX1_nought) (b := a) (av := []) (rest := []) co_X1_72 ci_X1_nought cv_X1_nought dX1_kindBySigns_103 rfl ha hb_X1 rfl rfl (Nat.le_of_ble_eq_true rfl) ⟨(Nat.le_of_ble_eq_true rfl), (Nat.le_of_ble_eq_true rfl)⟩ ⟨(Nat.le_of_ble_eq_true rfl), (Nat.le_of_ble_eq_true rfl)⟩ ?_
              refine t_X1_nought a n f ha hn hf hff ?_
              refine ev_iconst (pc' := 107) (v := 1) dX1_kindBySigns_106 rfl ki_1 ?_
              refine ev_icmp_le (tgt := 114) (pc' := 110) dX1_kindBySigns_107 rfl rfl (fun c49 => ?_) (fun c49 => ?_)
              · refine ev_iconst (pc' := 115) (v := 0) dX1_kindBySigns_114 rfl ki_0 ?_
                refine ev_iret dX1_kindBySigns_115 rfl rfl ⟨Nat.le_refl _, Nat.le_refl _⟩ ?_
                have e : cKd (I f) = 0 := by simp [cKd, c1, c23, c45, c46, c47, c48, c49]
                rw [e] at k0
                exact k0
              · refine ev_iconst (pc' := 111) (v := 2) dX1_kindBySigns_110 rfl ki_2 ?_
                refine ev_goto (tgt := 115) dX1_kindBySigns_111 rfl ?_
                refine ev_iret dX1_kindBySigns_115 rfl rfl ⟨Nat.le_refl _, Nat.le_refl _⟩ ?_
                have e : cKd (I f) = 2 := by simp [cKd, c1, c23, c45, c46, c47, c48, c49]
                rw [e] at k0
                exact k0
            · refine ev_iconst (pc' := 101) (v := 1) dX1_kindBySigns_100 rfl ki_1 ?_
              refine ev_iret dX1_kindBySigns_101 rfl rfl ⟨Nat.le_refl _, Nat.le_refl _⟩ ?_
              have e : cKd (I f) = 1 := by simp [cKd, c1, c23, c45, c46, c47, c48]
              rw [e] at k0
              exact k0
          · refine ev_aload_n (pc' := 83) (i := 0) dX1_kindBySigns_82 rfl rfl rfl ?_
            refine ev_callV (pc' := 86) (rm' := rX1_below) (b := a) (av := []) (rest := []) co_X1_26 ci_X1_below cv_X1_below dX1_kindBySigns_83 rfl ha hb_X1 rfl rfl (Nat.le_of_ble_eq_true rfl) ⟨(Nat.le_of_ble_eq_true rfl), (Nat.le_of_ble_eq_true rfl)⟩ ⟨(Nat.le_of_ble_eq_true rfl), (Nat.le_of_ble_eq_true rfl)⟩ ?_
            refine t_X1_below a n f ha hn hf hff ?_
            refine ev_iconst (pc' := 87) (v := 2) dX1_kindBySigns_86 rfl ki_2 ?_
            refine ev_icmp_ne (tgt := 92) (pc' := 90) dX1_kindBySigns_87 rfl rfl (fun c50 => ?_) (fun c50 => ?_)
            · refine ev_aload_n (pc' := 93) (i := 0) dX1_kindBySigns_92 rfl rfl rfl ?_
              refine ev_callV (pc' := 96) (rm' := rX1_nought) (b := a) (av := []) (rest := []) co_X1_72 ci_X1_nought cv_X1_nought dX1_kindBySigns_93 rfl ha hb_X1 rfl rfl (Nat.le_of_ble_eq_true rfl) ⟨(Nat.le_of_ble_eq_true rfl), (Nat.le_of_ble_eq_true rfl)⟩ ⟨(Nat.le_of_ble_eq_true rfl), (Nat.le_of_ble_eq_true rfl)⟩ ?_
              refine t_X1_nought a n f ha hn hf hff ?_
              refine ev_iconst (pc' := 97) (v := 1) dX1_kindBySigns_96 rfl ki_1 ?_
              refine ev_icmp_ne (tgt := 102) (pc' := 100) dX1_kindBySigns_97 rfl rfl (fun c51 => ?_) (fun c51 => ?_)
              · refine ev_aload_n (pc' := 103) (i := 0) dX1_kindBySigns_102 rfl rfl rfl ?_
                refine ev_callV (pc' := 106) (rm' := rX1_nought) (b := a) (av := []) (rest := []) co_X1_72 ci_X1_nought cv_X1_nought dX1_kindBySigns_103 rfl ha hb_X1 rfl rfl (Nat.le_of_ble_eq_true rfl) ⟨(Nat.le_of_ble_eq_true rfl), (Nat.le_of_ble_eq_true rfl)⟩ ⟨(Nat.le_of_ble_eq_true rfl), (Nat.le_of_ble_eq_true rfl)⟩ ?_
                refine t_X1_nought a n f ha hn hf hff ?_
                refine ev_iconst (pc' := 107) (v := 1) dX1_kindBySigns_106 rfl ki_1 ?_
                refine ev_icmp_le (tgt := 114) (pc' := 110) dX1_kindBySigns_107 rfl rfl (fun c52 => ?_) (fun c52 => ?_)
                · refine ev_iconst (pc' := 115) (v := 0) dX1_kindBySigns_114 rfl ki_0 ?_
                  refine ev_iret dX1_kindBySigns_115 rfl rfl ⟨Nat.le_refl _, Nat.le_refl _⟩ ?_
                  exact absurd (c1.symm.trans c47) (by decide)
                · refine ev_iconst (pc' := 111) (v := 2) dX1_kindBySigns_110 rfl ki_2 ?_
                  refine ev_goto (tgt := 115) dX1_kindBySigns_111 rfl ?_
                  refine ev_iret dX1_kindBySigns_115 rfl rfl ⟨Nat.le_refl _, Nat.le_refl _⟩ ?_
                  exact absurd (c1.symm.trans c47) (by decide)
              · refine ev_iconst (pc' := 101) (v := 1) dX1_kindBySigns_100 rfl ki_1 ?_
                refine ev_iret dX1_kindBySigns_101 rfl rfl ⟨Nat.le_refl _, Nat.le_refl _⟩ ?_
                exact absurd (c1.symm.trans c47) (by decide)
            · refine ev_iconst (pc' := 91) (v := 4) dX1_kindBySigns_90 rfl ki_4 ?_
              refine ev_iret dX1_kindBySigns_91 rfl rfl ⟨Nat.le_refl _, Nat.le_refl _⟩ ?_
              exact absurd (c1.symm.trans c47) (by decide)
        · refine ev_aload_n (pc' := 41) (i := 0) dX1_kindBySigns_40 rfl rfl rfl ?_
          refine ev_callV (pc' := 44) (rm' := rX1_below) (b := a) (av := []) (rest := []) co_X1_26 ci_X1_below cv_X1_below dX1_kindBySigns_41 rfl ha hb_X1 rfl rfl (Nat.le_of_ble_eq_true rfl) ⟨(Nat.le_of_ble_eq_true rfl), (Nat.le_of_ble_eq_true rfl)⟩ ⟨(Nat.le_of_ble_eq_true rfl), (Nat.le_of_ble_eq_true rfl)⟩ ?_
          refine t_X1_below a n f ha hn hf hff ?_
          refine ev_iconst (pc' := 45) (v := 3) dX1_kindBySigns_44 rfl ki_3 ?_
          refine ev_icmp_ne (tgt := 62) (pc' := 48) dX1_kindBySigns_45 rfl rfl (fun c53 => ?_) (fun c53 => ?_)
          · refine ev_iconst (pc' := 63) (v := 0) dX1_kindBySigns_62 rfl ki_0 ?_
            refine ev_istore_n (pc' := 64) (i := 2) (lv' := [some (.ref a), some (.int 0), some (.int 0)]) dX1_kindBySigns_63 rfl rfl (Nat.le_of_ble_eq_true rfl) rfl rfl ?_
            refine ev_iload_n (pc' := 65) (i := 1) dX1_kindBySigns_64 rfl rfl rfl ?_
            refine ev_if_ne (tgt := 72) (pc' := 68) dX1_kindBySigns_65 rfl rfl (fun h => absurd (by decide) h) (fun _ => ?_)
            refine ev_iload_n (pc' := 69) (i := 2) dX1_kindBySigns_68 rfl rfl rfl ?_
            refine ev_if_eq (tgt := 74) (pc' := 72) dX1_kindBySigns_69 rfl rfl (fun _ => ?_) (fun h => absurd (by decide) h)
            refine ev_aload_n (pc' := 75) (i := 0) dX1_kindBySigns_74 rfl rfl rfl ?_
            refine ev_callV (pc' := 78) (rm' := rX1_above) (b := a) (av := []) (rest := []) co_X1_22 ci_X1_above cv_X1_above dX1_kindBySigns_75 rfl ha hb_X1 rfl rfl (Nat.le_of_ble_eq_true rfl) ⟨(Nat.le_of_ble_eq_true rfl), (Nat.le_of_ble_eq_true rfl)⟩ ⟨(Nat.le_of_ble_eq_true rfl), (Nat.le_of_ble_eq_true rfl)⟩ ?_
            refine t_X1_above a n f ha hn hf hff ?_
            refine ev_iconst (pc' := 79) (v := 2) dX1_kindBySigns_78 rfl ki_2 ?_
            refine ev_icmp_ne (tgt := 92) (pc' := 82) dX1_kindBySigns_79 rfl rfl (fun c54 => ?_) (fun c54 => ?_)
            · refine ev_aload_n (pc' := 93) (i := 0) dX1_kindBySigns_92 rfl rfl rfl ?_
              refine ev_callV (pc' := 96) (rm' := rX1_nought) (b := a) (av := []) (rest := []) co_X1_72 ci_X1_nought cv_X1_nought dX1_kindBySigns_93 rfl ha hb_X1 rfl rfl (Nat.le_of_ble_eq_true rfl) ⟨(Nat.le_of_ble_eq_true rfl), (Nat.le_of_ble_eq_true rfl)⟩ ⟨(Nat.le_of_ble_eq_true rfl), (Nat.le_of_ble_eq_true rfl)⟩ ?_
              refine t_X1_nought a n f ha hn hf hff ?_
              refine ev_iconst (pc' := 97) (v := 1) dX1_kindBySigns_96 rfl ki_1 ?_
              refine ev_icmp_ne (tgt := 102) (pc' := 100) dX1_kindBySigns_97 rfl rfl (fun c55 => ?_) (fun c55 => ?_)
              · refine ev_aload_n (pc' := 103) (i := 0) dX1_kindBySigns_102 rfl rfl rfl ?_
                refine ev_callV (pc' := 106) (rm' := rX1_nought) (b := a) (av := []) (rest := []) co_X1_72 ci_X1_nought cv_X1_nought dX1_kindBySigns_103 rfl ha hb_X1 rfl rfl (Nat.le_of_ble_eq_true rfl) ⟨(Nat.le_of_ble_eq_true rfl), (Nat.le_of_ble_eq_true rfl)⟩ ⟨(Nat.le_of_ble_eq_true rfl), (Nat.le_of_ble_eq_true rfl)⟩ ?_
                refine t_X1_nought a n f ha hn hf hff ?_
                refine ev_iconst (pc' := 107) (v := 1) dX1_kindBySigns_106 rfl ki_1 ?_
                refine ev_icmp_le (tgt := 114) (pc' := 110) dX1_kindBySigns_107 rfl rfl (fun c56 => ?_) (fun c56 => ?_)
                · refine ev_iconst (pc' := 115) (v := 0) dX1_kindBySigns_114 rfl ki_0 ?_
                  refine ev_iret dX1_kindBySigns_115 rfl rfl ⟨Nat.le_refl _, Nat.le_refl _⟩ ?_
                  exact absurd (c1.symm.trans c46) (by decide)
                · refine ev_iconst (pc' := 111) (v := 2) dX1_kindBySigns_110 rfl ki_2 ?_
                  refine ev_goto (tgt := 115) dX1_kindBySigns_111 rfl ?_
                  refine ev_iret dX1_kindBySigns_115 rfl rfl ⟨Nat.le_refl _, Nat.le_refl _⟩ ?_
                  exact absurd (c1.symm.trans c46) (by decide)
              · refine ev_iconst (pc' := 101) (v := 1) dX1_kindBySigns_100 rfl ki_1 ?_
                refine ev_iret dX1_kindBySigns_101 rfl rfl ⟨Nat.le_refl _, Nat.le_refl _⟩ ?_
                exact absurd (c1.symm.trans c46) (by decide)
            · refine ev_aload_n (pc' := 83) (i := 0) dX1_kindBySigns_82 rfl rfl rfl ?_
              refine ev_callV (pc' := 86) (rm' := rX1_below) (b := a) (av := []) (rest := []) co_X1_26 ci_X1_below cv_X1_below dX1_kindBySigns_83 rfl ha hb_X1 rfl rfl (Nat.le_of_ble_eq_true rfl) ⟨(Nat.le_of_ble_eq_true rfl), (Nat.le_of_ble_eq_true rfl)⟩ ⟨(Nat.le_of_ble_eq_true rfl), (Nat.le_of_ble_eq_true rfl)⟩ ?_
              refine t_X1_below a n f ha hn hf hff ?_
              refine ev_iconst (pc' := 87) (v := 2) dX1_kindBySigns_86 rfl ki_2 ?_
              refine ev_icmp_ne (tgt := 92) (pc' := 90) dX1_kindBySigns_87 rfl rfl (fun c57 => ?_) (fun c57 => ?_)
              · refine ev_aload_n (pc' := 93) (i := 0) dX1_kindBySigns_92 rfl rfl rfl ?_
                refine ev_callV (pc' := 96) (rm' := rX1_nought) (b := a) (av := []) (rest := []) co_X1_72 ci_X1_nought cv_X1_nought dX1_kindBySigns_93 rfl ha hb_X1 rfl rfl (Nat.le_of_ble_eq_true rfl) ⟨(Nat.le_of_ble_eq_true rfl), (Nat.le_of_ble_eq_true rfl)⟩ ⟨(Nat.le_of_ble_eq_true rfl), (Nat.le_of_ble_eq_true rfl)⟩ ?_
                refine t_X1_nought a n f ha hn hf hff ?_
                refine ev_iconst (pc' := 97) (v := 1) dX1_kindBySigns_96 rfl ki_1 ?_
                refine ev_icmp_ne (tgt := 102) (pc' := 100) dX1_kindBySigns_97 rfl rfl (fun c58 => ?_) (fun c58 => ?_)
                · refine ev_aload_n (pc' := 103) (i := 0) dX1_kindBySigns_102 rfl rfl rfl ?_
                  refine ev_callV (pc' := 106) (rm' := rX1_nought) (b := a) (av := []) (rest := []) co_X1_72 ci_X1_nought cv_X1_nought dX1_kindBySigns_103 rfl ha hb_X1 rfl rfl (Nat.le_of_ble_eq_true rfl) ⟨(Nat.le_of_ble_eq_true rfl), (Nat.le_of_ble_eq_true rfl)⟩ ⟨(Nat.le_of_ble_eq_true rfl), (Nat.le_of_ble_eq_true rfl)⟩ ?_
                  refine t_X1_nought a n f ha hn hf hff ?_
                  refine ev_iconst (pc' := 107) (v := 1) dX1_kindBySigns_106 rfl ki_1 ?_
                  refine ev_icmp_le (tgt := 114) (pc' := 110) dX1_kindBySigns_107 rfl rfl (fun c59 => ?_) (fun c59 => ?_)
                  · refine ev_iconst (pc' := 115) (v := 0) dX1_kindBySigns_114 rfl ki_0 ?_
                    refine ev_iret dX1_kindBySigns_115 rfl rfl ⟨Nat.le_refl _, Nat.le_refl _⟩ ?_
                    exact absurd (c1.symm.trans c46) (by decide)
                  · refine ev_iconst (pc' := 111) (v := 2) dX1_kindBySigns_110 rfl ki_2 ?_
                    refine ev_goto (tgt := 115) dX1_kindBySigns_111 rfl ?_
                    refine ev_iret dX1_kindBySigns_115 rfl rfl ⟨Nat.le_refl _, Nat.le_refl _⟩ ?_
                    exact absurd (c1.symm.trans c46) (by decide)
                · refine ev_iconst (pc' := 101) (v := 1) dX1_kindBySigns_100 rfl ki_1 ?_
                  refine ev_iret dX1_kindBySigns_101 rfl rfl ⟨Nat.le_refl _, Nat.le_refl _⟩ ?_
                  exact absurd (c1.symm.trans c46) (by decide)
              · refine ev_iconst (pc' := 91) (v := 4) dX1_kindBySigns_90 rfl ki_4 ?_
                refine ev_iret dX1_kindBySigns_91 rfl rfl ⟨Nat.le_refl _, Nat.le_refl _⟩ ?_
                exact absurd (c1.symm.trans c46) (by decide)
          · refine ev_aload_n (pc' := 49) (i := 0) dX1_kindBySigns_48 rfl rfl rfl ?_
            refine ev_getR (pc' := 52) fo_X1_18 dX1_kindBySigns_49 rfl ha rfl hf ?_
            refine ev_iconst (pc' := 53) (v := 5) dX1_kindBySigns_52 rfl ki_5 ?_
            refine ev_iald (pc' := 54) (j := 5) (v := (I f) 5) dX1_kindBySigns_53 rfl hff rfl (Nat.le_of_ble_eq_true rfl) (Nat.le_of_ble_eq_true rfl) rfl ?_
            refine ev_iconst (pc' := 55) (v := 3) dX1_kindBySigns_54 rfl ki_3 ?_
            refine ev_icmp_ne (tgt := 62) (pc' := 58) dX1_kindBySigns_55 rfl rfl (fun c60 => ?_) (fun c60 => ?_)
            · refine ev_iconst (pc' := 63) (v := 0) dX1_kindBySigns_62 rfl ki_0 ?_
              refine ev_istore_n (pc' := 64) (i := 2) (lv' := [some (.ref a), some (.int 0), some (.int 0)]) dX1_kindBySigns_63 rfl rfl (Nat.le_of_ble_eq_true rfl) rfl rfl ?_
              refine ev_iload_n (pc' := 65) (i := 1) dX1_kindBySigns_64 rfl rfl rfl ?_
              refine ev_if_ne (tgt := 72) (pc' := 68) dX1_kindBySigns_65 rfl rfl (fun h => absurd (by decide) h) (fun _ => ?_)
              refine ev_iload_n (pc' := 69) (i := 2) dX1_kindBySigns_68 rfl rfl rfl ?_
              refine ev_if_eq (tgt := 74) (pc' := 72) dX1_kindBySigns_69 rfl rfl (fun _ => ?_) (fun h => absurd (by decide) h)
              refine ev_aload_n (pc' := 75) (i := 0) dX1_kindBySigns_74 rfl rfl rfl ?_
              refine ev_callV (pc' := 78) (rm' := rX1_above) (b := a) (av := []) (rest := []) co_X1_22 ci_X1_above cv_X1_above dX1_kindBySigns_75 rfl ha hb_X1 rfl rfl (Nat.le_of_ble_eq_true rfl) ⟨(Nat.le_of_ble_eq_true rfl), (Nat.le_of_ble_eq_true rfl)⟩ ⟨(Nat.le_of_ble_eq_true rfl), (Nat.le_of_ble_eq_true rfl)⟩ ?_
              refine t_X1_above a n f ha hn hf hff ?_
              refine ev_iconst (pc' := 79) (v := 2) dX1_kindBySigns_78 rfl ki_2 ?_
              refine ev_icmp_ne (tgt := 92) (pc' := 82) dX1_kindBySigns_79 rfl rfl (fun c61 => ?_) (fun c61 => ?_)
              · refine ev_aload_n (pc' := 93) (i := 0) dX1_kindBySigns_92 rfl rfl rfl ?_
                refine ev_callV (pc' := 96) (rm' := rX1_nought) (b := a) (av := []) (rest := []) co_X1_72 ci_X1_nought cv_X1_nought dX1_kindBySigns_93 rfl ha hb_X1 rfl rfl (Nat.le_of_ble_eq_true rfl) ⟨(Nat.le_of_ble_eq_true rfl), (Nat.le_of_ble_eq_true rfl)⟩ ⟨(Nat.le_of_ble_eq_true rfl), (Nat.le_of_ble_eq_true rfl)⟩ ?_
                refine t_X1_nought a n f ha hn hf hff ?_
                refine ev_iconst (pc' := 97) (v := 1) dX1_kindBySigns_96 rfl ki_1 ?_
                refine ev_icmp_ne (tgt := 102) (pc' := 100) dX1_kindBySigns_97 rfl rfl (fun c62 => ?_) (fun c62 => ?_)
                · refine ev_aload_n (pc' := 103) (i := 0) dX1_kindBySigns_102 rfl rfl rfl ?_
                  refine ev_callV (pc' := 106) (rm' := rX1_nought) (b := a) (av := []) (rest := []) co_X1_72 ci_X1_nought cv_X1_nought dX1_kindBySigns_103 rfl ha hb_X1 rfl rfl (Nat.le_of_ble_eq_true rfl) ⟨(Nat.le_of_ble_eq_true rfl), (Nat.le_of_ble_eq_true rfl)⟩ ⟨(Nat.le_of_ble_eq_true rfl), (Nat.le_of_ble_eq_true rfl)⟩ ?_
                  refine t_X1_nought a n f ha hn hf hff ?_
                  refine ev_iconst (pc' := 107) (v := 1) dX1_kindBySigns_106 rfl ki_1 ?_
                  refine ev_icmp_le (tgt := 114) (pc' := 110) dX1_kindBySigns_107 rfl rfl (fun c63 => ?_) (fun c63 => ?_)
                  · refine ev_iconst (pc' := 115) (v := 0) dX1_kindBySigns_114 rfl ki_0 ?_
                    refine ev_iret dX1_kindBySigns_115 rfl rfl ⟨Nat.le_refl _, Nat.le_refl _⟩ ?_
                    exact absurd (c1.symm.trans c46) (by decide)
                  · refine ev_iconst (pc' := 111) (v := 2) dX1_kindBySigns_110 rfl ki_2 ?_
                    refine ev_goto (tgt := 115) dX1_kindBySigns_111 rfl ?_
                    refine ev_iret dX1_kindBySigns_115 rfl rfl ⟨Nat.le_refl _, Nat.le_refl _⟩ ?_
                    exact absurd (c1.symm.trans c46) (by decide)
                · refine ev_iconst (pc' := 101) (v := 1) dX1_kindBySigns_100 rfl ki_1 ?_
                  refine ev_iret dX1_kindBySigns_101 rfl rfl ⟨Nat.le_refl _, Nat.le_refl _⟩ ?_
                  exact absurd (c1.symm.trans c46) (by decide)
              · refine ev_aload_n (pc' := 83) (i := 0) dX1_kindBySigns_82 rfl rfl rfl ?_
                refine ev_callV (pc' := 86) (rm' := rX1_below) (b := a) (av := []) (rest := []) co_X1_26 ci_X1_below cv_X1_below dX1_kindBySigns_83 rfl ha hb_X1 rfl rfl (Nat.le_of_ble_eq_true rfl) ⟨(Nat.le_of_ble_eq_true rfl), (Nat.le_of_ble_eq_true rfl)⟩ ⟨(Nat.le_of_ble_eq_true rfl), (Nat.le_of_ble_eq_true rfl)⟩ ?_
                refine t_X1_below a n f ha hn hf hff ?_
                refine ev_iconst (pc' := 87) (v := 2) dX1_kindBySigns_86 rfl ki_2 ?_
                refine ev_icmp_ne (tgt := 92) (pc' := 90) dX1_kindBySigns_87 rfl rfl (fun c64 => ?_) (fun c64 => ?_)
                · refine ev_aload_n (pc' := 93) (i := 0) dX1_kindBySigns_92 rfl rfl rfl ?_
                  refine ev_callV (pc' := 96) (rm' := rX1_nought) (b := a) (av := []) (rest := []) co_X1_72 ci_X1_nought cv_X1_nought dX1_kindBySigns_93 rfl ha hb_X1 rfl rfl (Nat.le_of_ble_eq_true rfl) ⟨(Nat.le_of_ble_eq_true rfl), (Nat.le_of_ble_eq_true rfl)⟩ ⟨(Nat.le_of_ble_eq_true rfl), (Nat.le_of_ble_eq_true rfl)⟩ ?_
                  refine t_X1_nought a n f ha hn hf hff ?_
                  refine ev_iconst (pc' := 97) (v := 1) dX1_kindBySigns_96 rfl ki_1 ?_
                  refine ev_icmp_ne (tgt := 102) (pc' := 100) dX1_kindBySigns_97 rfl rfl (fun c65 => ?_) (fun c65 => ?_)
                  · refine ev_aload_n (pc' := 103) (i := 0) dX1_kindBySigns_102 rfl rfl rfl ?_
                    refine ev_callV (pc' := 106) (rm' := rX1_nought) (b := a) (av := []) (rest := []) co_X1_72 ci_X1_nought cv_X1_nought dX1_kindBySigns_103 rfl ha hb_X1 rfl rfl (Nat.le_of_ble_eq_true rfl) ⟨(Nat.le_of_ble_eq_true rfl), (Nat.le_of_ble_eq_true rfl)⟩ ⟨(Nat.le_of_ble_eq_true rfl), (Nat.le_of_ble_eq_true rfl)⟩ ?_
                    refine t_X1_nought a n f ha hn hf hff ?_
                    refine ev_iconst (pc' := 107) (v := 1) dX1_kindBySigns_106 rfl ki_1 ?_
                    refine ev_icmp_le (tgt := 114) (pc' := 110) dX1_kindBySigns_107 rfl rfl (fun c66 => ?_) (fun c66 => ?_)
                    · refine ev_iconst (pc' := 115) (v := 0) dX1_kindBySigns_114 rfl ki_0 ?_
                      refine ev_iret dX1_kindBySigns_115 rfl rfl ⟨Nat.le_refl _, Nat.le_refl _⟩ ?_
                      exact absurd (c1.symm.trans c46) (by decide)
                    · refine ev_iconst (pc' := 111) (v := 2) dX1_kindBySigns_110 rfl ki_2 ?_
                      refine ev_goto (tgt := 115) dX1_kindBySigns_111 rfl ?_
                      refine ev_iret dX1_kindBySigns_115 rfl rfl ⟨Nat.le_refl _, Nat.le_refl _⟩ ?_
                      exact absurd (c1.symm.trans c46) (by decide)
                  · refine ev_iconst (pc' := 101) (v := 1) dX1_kindBySigns_100 rfl ki_1 ?_
                    refine ev_iret dX1_kindBySigns_101 rfl rfl ⟨Nat.le_refl _, Nat.le_refl _⟩ ?_
                    exact absurd (c1.symm.trans c46) (by decide)
                · refine ev_iconst (pc' := 91) (v := 4) dX1_kindBySigns_90 rfl ki_4 ?_
                  refine ev_iret dX1_kindBySigns_91 rfl rfl ⟨Nat.le_refl _, Nat.le_refl _⟩ ?_
                  exact absurd (c1.symm.trans c46) (by decide)
            · refine ev_iconst (pc' := 59) (v := 1) dX1_kindBySigns_58 rfl ki_1 ?_
              refine ev_goto (tgt := 63) dX1_kindBySigns_59 rfl ?_
              refine ev_istore_n (pc' := 64) (i := 2) (lv' := [some (.ref a), some (.int 0), some (.int 1)]) dX1_kindBySigns_63 rfl rfl (Nat.le_of_ble_eq_true rfl) rfl rfl ?_
              refine ev_iload_n (pc' := 65) (i := 1) dX1_kindBySigns_64 rfl rfl rfl ?_
              refine ev_if_ne (tgt := 72) (pc' := 68) dX1_kindBySigns_65 rfl rfl (fun h => absurd (by decide) h) (fun _ => ?_)
              refine ev_iload_n (pc' := 69) (i := 2) dX1_kindBySigns_68 rfl rfl rfl ?_
              refine ev_if_eq (tgt := 74) (pc' := 72) dX1_kindBySigns_69 rfl rfl (fun h => absurd h (by decide)) (fun _ => ?_)
              refine ev_iconst (pc' := 73) (v := 3) dX1_kindBySigns_72 rfl ki_3 ?_
              refine ev_iret dX1_kindBySigns_73 rfl rfl ⟨Nat.le_refl _, Nat.le_refl _⟩ ?_
              exact absurd (c1.symm.trans c46) (by decide)
      · refine ev_iconst (pc' := 27) (v := 1) dX1_kindBySigns_26 rfl ki_1 ?_
        refine ev_goto (tgt := 31) dX1_kindBySigns_27 rfl ?_
        refine ev_istore_n (pc' := 32) (i := 1) (lv' := [some (.ref a), some (.int 1), none]) dX1_kindBySigns_31 rfl rfl (Nat.le_of_ble_eq_true rfl) rfl rfl ?_
        refine ev_aload_n (pc' := 33) (i := 0) dX1_kindBySigns_32 rfl rfl rfl ?_
        refine ev_callV (pc' := 36) (rm' := rX1_above) (b := a) (av := []) (rest := []) co_X1_22 ci_X1_above cv_X1_above dX1_kindBySigns_33 rfl ha hb_X1 rfl rfl (Nat.le_of_ble_eq_true rfl) ⟨(Nat.le_of_ble_eq_true rfl), (Nat.le_of_ble_eq_true rfl)⟩ ⟨(Nat.le_of_ble_eq_true rfl), (Nat.le_of_ble_eq_true rfl)⟩ ?_
        refine t_X1_above a n f ha hn hf hff ?_
        refine ev_iconst (pc' := 37) (v := 1) dX1_kindBySigns_36 rfl ki_1 ?_
        refine ev_icmp_ne (tgt := 62) (pc' := 40) dX1_kindBySigns_37 rfl rfl (fun c67 => ?_) (fun c67 => ?_)
        · refine ev_iconst (pc' := 63) (v := 0) dX1_kindBySigns_62 rfl ki_0 ?_
          refine ev_istore_n (pc' := 64) (i := 2) (lv' := [some (.ref a), some (.int 1), some (.int 0)]) dX1_kindBySigns_63 rfl rfl (Nat.le_of_ble_eq_true rfl) rfl rfl ?_
          refine ev_iload_n (pc' := 65) (i := 1) dX1_kindBySigns_64 rfl rfl rfl ?_
          refine ev_if_ne (tgt := 72) (pc' := 68) dX1_kindBySigns_65 rfl rfl (fun _ => ?_) (fun h => absurd h (by decide))
          refine ev_iconst (pc' := 73) (v := 3) dX1_kindBySigns_72 rfl ki_3 ?_
          refine ev_iret dX1_kindBySigns_73 rfl rfl ⟨Nat.le_refl _, Nat.le_refl _⟩ ?_
          have e : cKd (I f) = 3 := by simp [cKd, c1, c23, c45, c67]
          rw [e] at k0
          exact k0
        · refine ev_aload_n (pc' := 41) (i := 0) dX1_kindBySigns_40 rfl rfl rfl ?_
          refine ev_callV (pc' := 44) (rm' := rX1_below) (b := a) (av := []) (rest := []) co_X1_26 ci_X1_below cv_X1_below dX1_kindBySigns_41 rfl ha hb_X1 rfl rfl (Nat.le_of_ble_eq_true rfl) ⟨(Nat.le_of_ble_eq_true rfl), (Nat.le_of_ble_eq_true rfl)⟩ ⟨(Nat.le_of_ble_eq_true rfl), (Nat.le_of_ble_eq_true rfl)⟩ ?_
          refine t_X1_below a n f ha hn hf hff ?_
          refine ev_iconst (pc' := 45) (v := 3) dX1_kindBySigns_44 rfl ki_3 ?_
          refine ev_icmp_ne (tgt := 62) (pc' := 48) dX1_kindBySigns_45 rfl rfl (fun c68 => ?_) (fun c68 => ?_)
          · refine ev_iconst (pc' := 63) (v := 0) dX1_kindBySigns_62 rfl ki_0 ?_
            refine ev_istore_n (pc' := 64) (i := 2) (lv' := [some (.ref a), some (.int 1), some (.int 0)]) dX1_kindBySigns_63 rfl rfl (Nat.le_of_ble_eq_true rfl) rfl rfl ?_
            refine ev_iload_n (pc' := 65) (i := 1) dX1_kindBySigns_64 rfl rfl rfl ?_
            refine ev_if_ne (tgt := 72) (pc' := 68) dX1_kindBySigns_65 rfl rfl (fun _ => ?_) (fun h => absurd h (by decide))
            refine ev_iconst (pc' := 73) (v := 3) dX1_kindBySigns_72 rfl ki_3 ?_
            refine ev_iret dX1_kindBySigns_73 rfl rfl ⟨Nat.le_refl _, Nat.le_refl _⟩ ?_
            exact absurd (c1.symm.trans c67) (by decide)
          · refine ev_aload_n (pc' := 49) (i := 0) dX1_kindBySigns_48 rfl rfl rfl ?_
            refine ev_getR (pc' := 52) fo_X1_18 dX1_kindBySigns_49 rfl ha rfl hf ?_
            refine ev_iconst (pc' := 53) (v := 5) dX1_kindBySigns_52 rfl ki_5 ?_
            refine ev_iald (pc' := 54) (j := 5) (v := (I f) 5) dX1_kindBySigns_53 rfl hff rfl (Nat.le_of_ble_eq_true rfl) (Nat.le_of_ble_eq_true rfl) rfl ?_
            refine ev_iconst (pc' := 55) (v := 3) dX1_kindBySigns_54 rfl ki_3 ?_
            refine ev_icmp_ne (tgt := 62) (pc' := 58) dX1_kindBySigns_55 rfl rfl (fun c69 => ?_) (fun c69 => ?_)
            · refine ev_iconst (pc' := 63) (v := 0) dX1_kindBySigns_62 rfl ki_0 ?_
              refine ev_istore_n (pc' := 64) (i := 2) (lv' := [some (.ref a), some (.int 1), some (.int 0)]) dX1_kindBySigns_63 rfl rfl (Nat.le_of_ble_eq_true rfl) rfl rfl ?_
              refine ev_iload_n (pc' := 65) (i := 1) dX1_kindBySigns_64 rfl rfl rfl ?_
              refine ev_if_ne (tgt := 72) (pc' := 68) dX1_kindBySigns_65 rfl rfl (fun _ => ?_) (fun h => absurd h (by decide))
              refine ev_iconst (pc' := 73) (v := 3) dX1_kindBySigns_72 rfl ki_3 ?_
              refine ev_iret dX1_kindBySigns_73 rfl rfl ⟨Nat.le_refl _, Nat.le_refl _⟩ ?_
              exact absurd (c1.symm.trans c67) (by decide)
            · refine ev_iconst (pc' := 59) (v := 1) dX1_kindBySigns_58 rfl ki_1 ?_
              refine ev_goto (tgt := 63) dX1_kindBySigns_59 rfl ?_
              refine ev_istore_n (pc' := 64) (i := 2) (lv' := [some (.ref a), some (.int 1), some (.int 1)]) dX1_kindBySigns_63 rfl rfl (Nat.le_of_ble_eq_true rfl) rfl rfl ?_
              refine ev_iload_n (pc' := 65) (i := 1) dX1_kindBySigns_64 rfl rfl rfl ?_
              refine ev_if_ne (tgt := 72) (pc' := 68) dX1_kindBySigns_65 rfl rfl (fun _ => ?_) (fun h => absurd h (by decide))
              refine ev_iconst (pc' := 73) (v := 3) dX1_kindBySigns_72 rfl ki_3 ?_
              refine ev_iret dX1_kindBySigns_73 rfl rfl ⟨Nat.le_refl _, Nat.le_refl _⟩ ?_
              exact absurd (c1.symm.trans c67) (by decide)
def cGa (t : Nat → Int64) (F : Nat → Int32) (s : Int64) : Int64 := (31 * ((31 * ((31 * ((31 * ((31 * ((31 * ((31 * ((31 * ((31 * ((31 * ((31 * ((31 * ((31 * ((31 * ((31 * ((31 * ((31 * ((31 * ((31 * ((31 * s) + (t 0))) + (t 1))) + (t 2))) + (t 3))) + (t 5))) + (t 6))) + (t 7))) + (t 10))) + (t 11))) + (t 15))) + (Int32.toInt64 (F 0)))) + (Int32.toInt64 (F 1)))) + (Int32.toInt64 (F 2)))) + (Int32.toInt64 (F 3)))) + (Int32.toInt64 (F 4)))) + (Int32.toInt64 (F 5)))) + (Int32.toInt64 (F 6)))) + (Int32.toInt64 (F 7)))) + (Int32.toInt64 (F 8)))) + (Int32.toInt64 (F 9))
set_option maxRecDepth 4000 in
theorem t_X1_addTo {g : ma_G} {Post : ma_P} {I : ma_I} {L : ma_L} (a n f : Nat) (ha : HS a = (1, 3)) (hn : RF a 1 = n) (hf : RF a 2 = f) (hff : HS f = (9, 10)) (b c : Nat) (hnn : HS n = (4, 6)) (hrn : RF n 0 = b) (hb : HS b = (10, 16)) (hqn : RF n 1 = c) (hc : HS c = (10, 5)) (s : Int64) (k0 : (I a) 0 = 0 → Post (some (.long ((31 * s) - 1))) HS I L RF 146) (k1 : ¬ (I a) 0 = 0 → Post (some (.long (cGa (L b) (I f) s))) HS I L RF 146) : CT g yX1_addTo cX1_addTo 6 (some .long) rX1_addTo [.ref a, .long s] Post HS I L RF 146 := by
  refine ct_of (lv := [some (.ref a), some (.long s), none, none, none, none]) (by decide) (Nat.le_of_ble_eq_true rfl) rfl ?_
  refine ev_aload_n (pc' := 1) (i := 0) dX1_addTo_0 rfl rfl rfl ?_
  refine ev_getI (pc' := 4) (v := (I a) 0) fo_X1_42 dX1_addTo_1 rfl ha rfl rfl ?_
  refine ev_if_ne (tgt := 15) (pc' := 7) dX1_addTo_4 rfl rfl (fun c1 => ?_) (fun c1 => ?_)
  · refine ev_lload_n (pc' := 16) (i := 1) dX1_addTo_15 rfl rfl rfl ?_
    refine ev_lstore_n (pc' := 17) (i := 3) (lv' := [some (.ref a), some (.long s), none, some (.long s), none, none]) dX1_addTo_16 rfl rfl (Nat.le_of_ble_eq_true rfl) rfl rfl ?_
    refine ev_iconst (pc' := 18) (v := 0) dX1_addTo_17 rfl ki_0 ?_
    refine ev_istore (pc' := 20) (lv' := [some (.ref a), some (.long s), none, some (.long s), none, some (.int 0)]) dX1_addTo_18 rfl (Nat.le_of_ble_eq_true rfl) rfl rfl ?_
    refine ev_iload (pc' := 22) dX1_addTo_20 rfl rfl ?_
    refine ev_bipush (pc' := 24) (v := 10) dX1_addTo_22 rfl kb_10 ?_
    refine ev_icmp_ge (tgt := 49) (pc' := 27) dX1_addTo_24 rfl rfl (fun h => absurd h (by decide)) (fun _ => ?_)
    refine ev_ldc2 (pc' := 30) cl_X1_75 dX1_addTo_27 rfl ?_
    refine ev_lload_n (pc' := 31) (i := 3) dX1_addTo_30 rfl rfl rfl ?_
    refine ev_lmul (pc' := 32) (v := 31 * s) dX1_addTo_31 rfl rfl ?_
    refine ev_aload_n (pc' := 33) (i := 0) dX1_addTo_32 rfl rfl rfl ?_
    refine ev_getR (pc' := 36) fo_X1_12 dX1_addTo_33 rfl ha rfl hn ?_
    refine ev_iload (pc' := 38) dX1_addTo_36 rfl rfl ?_
    refine ev_callV (pc' := 41) (rm' := rX4_ten) (b := n) (av := [.int 0]) (rest := [.long (31 * s)]) co_X1_77 ci_X4_ten cv_X4_ten dX1_addTo_38 rfl hnn hb_X4 rfl rfl (Nat.le_of_ble_eq_true rfl) ⟨(Nat.le_of_ble_eq_true rfl), (Nat.le_of_ble_eq_true rfl)⟩ ⟨(Nat.le_of_ble_eq_true rfl), (Nat.le_of_ble_eq_true rfl)⟩ ?_
    refine t_X4_ten0 n b hnn hrn hb ?_
    refine ev_ladd (pc' := 42) (v := (31 * s) + ((L b) 0)) dX1_addTo_41 rfl rfl ?_
    refine ev_lstore_n (pc' := 43) (i := 3) (lv' := [some (.ref a), some (.long s), none, some (.long ((31 * s) + ((L b) 0))), none, some (.int 0)]) dX1_addTo_42 rfl rfl (Nat.le_of_ble_eq_true rfl) rfl rfl ?_
    refine ev_iinc (pc' := 46) (v := 1) (lv' := [some (.ref a), some (.long s), none, some (.long ((31 * s) + ((L b) 0))), none, some (.int 1)]) dX1_addTo_43 rfl rfl (by decide) (Nat.le_of_ble_eq_true rfl) rfl rfl ?_
    refine ev_goto (tgt := 20) dX1_addTo_46 rfl ?_
    refine ev_iload (pc' := 22) dX1_addTo_20 rfl rfl ?_
    refine ev_bipush (pc' := 24) (v := 10) dX1_addTo_22 rfl kb_10 ?_
    refine ev_icmp_ge (tgt := 49) (pc' := 27) dX1_addTo_24 rfl rfl (fun h => absurd h (by decide)) (fun _ => ?_)
    refine ev_ldc2 (pc' := 30) cl_X1_75 dX1_addTo_27 rfl ?_
    refine ev_lload_n (pc' := 31) (i := 3) dX1_addTo_30 rfl rfl rfl ?_
    refine ev_lmul (pc' := 32) (v := 31 * ((31 * s) + ((L b) 0))) dX1_addTo_31 rfl rfl ?_
    refine ev_aload_n (pc' := 33) (i := 0) dX1_addTo_32 rfl rfl rfl ?_
    refine ev_getR (pc' := 36) fo_X1_12 dX1_addTo_33 rfl ha rfl hn ?_
    refine ev_iload (pc' := 38) dX1_addTo_36 rfl rfl ?_
    refine ev_callV (pc' := 41) (rm' := rX4_ten) (b := n) (av := [.int 1]) (rest := [.long (31 * ((31 * s) + ((L b) 0)))]) co_X1_77 ci_X4_ten cv_X4_ten dX1_addTo_38 rfl hnn hb_X4 rfl rfl (Nat.le_of_ble_eq_true rfl) ⟨(Nat.le_of_ble_eq_true rfl), (Nat.le_of_ble_eq_true rfl)⟩ ⟨(Nat.le_of_ble_eq_true rfl), (Nat.le_of_ble_eq_true rfl)⟩ ?_
    refine t_X4_ten1 n b hnn hrn hb ?_
    refine ev_ladd (pc' := 42) (v := (31 * ((31 * s) + ((L b) 0))) + ((L b) 1)) dX1_addTo_41 rfl rfl ?_
    refine ev_lstore_n (pc' := 43) (i := 3) (lv' := [some (.ref a), some (.long s), none, some (.long ((31 * ((31 * s) + ((L b) 0))) + ((L b) 1))), none, some (.int 1)]) dX1_addTo_42 rfl rfl (Nat.le_of_ble_eq_true rfl) rfl rfl ?_
    refine ev_iinc (pc' := 46) (v := 2) (lv' := [some (.ref a), some (.long s), none, some (.long ((31 * ((31 * s) + ((L b) 0))) + ((L b) 1))), none, some (.int 2)]) dX1_addTo_43 rfl rfl (by decide) (Nat.le_of_ble_eq_true rfl) rfl rfl ?_
    refine ev_goto (tgt := 20) dX1_addTo_46 rfl ?_
    refine ev_iload (pc' := 22) dX1_addTo_20 rfl rfl ?_
    refine ev_bipush (pc' := 24) (v := 10) dX1_addTo_22 rfl kb_10 ?_
    refine ev_icmp_ge (tgt := 49) (pc' := 27) dX1_addTo_24 rfl rfl (fun h => absurd h (by decide)) (fun _ => ?_)
    refine ev_ldc2 (pc' := 30) cl_X1_75 dX1_addTo_27 rfl ?_
    refine ev_lload_n (pc' := 31) (i := 3) dX1_addTo_30 rfl rfl rfl ?_
    refine ev_lmul (pc' := 32) (v := 31 * ((31 * ((31 * s) + ((L b) 0))) + ((L b) 1))) dX1_addTo_31 rfl rfl ?_
    refine ev_aload_n (pc' := 33) (i := 0) dX1_addTo_32 rfl rfl rfl ?_
    refine ev_getR (pc' := 36) fo_X1_12 dX1_addTo_33 rfl ha rfl hn ?_
    refine ev_iload (pc' := 38) dX1_addTo_36 rfl rfl ?_
    refine ev_callV (pc' := 41) (rm' := rX4_ten) (b := n) (av := [.int 2]) (rest := [.long (31 * ((31 * ((31 * s) + ((L b) 0))) + ((L b) 1)))]) co_X1_77 ci_X4_ten cv_X4_ten dX1_addTo_38 rfl hnn hb_X4 rfl rfl (Nat.le_of_ble_eq_true rfl) ⟨(Nat.le_of_ble_eq_true rfl), (Nat.le_of_ble_eq_true rfl)⟩ ⟨(Nat.le_of_ble_eq_true rfl), (Nat.le_of_ble_eq_true rfl)⟩ ?_
    refine t_X4_ten2 n b hnn hrn hb ?_
    refine ev_ladd (pc' := 42) (v := (31 * ((31 * ((31 * s) + ((L b) 0))) + ((L b) 1))) + ((L b) 2)) dX1_addTo_41 rfl rfl ?_
    refine ev_lstore_n (pc' := 43) (i := 3) (lv' := [some (.ref a), some (.long s), none, some (.long ((31 * ((31 * ((31 * s) + ((L b) 0))) + ((L b) 1))) + ((L b) 2))), none, some (.int 2)]) dX1_addTo_42 rfl rfl (Nat.le_of_ble_eq_true rfl) rfl rfl ?_
    refine ev_iinc (pc' := 46) (v := 3) (lv' := [some (.ref a), some (.long s), none, some (.long ((31 * ((31 * ((31 * s) + ((L b) 0))) + ((L b) 1))) + ((L b) 2))), none, some (.int 3)]) dX1_addTo_43 rfl rfl (by decide) (Nat.le_of_ble_eq_true rfl) rfl rfl ?_
    refine ev_goto (tgt := 20) dX1_addTo_46 rfl ?_
    refine ev_iload (pc' := 22) dX1_addTo_20 rfl rfl ?_
    refine ev_bipush (pc' := 24) (v := 10) dX1_addTo_22 rfl kb_10 ?_
    refine ev_icmp_ge (tgt := 49) (pc' := 27) dX1_addTo_24 rfl rfl (fun h => absurd h (by decide)) (fun _ => ?_)
    refine ev_ldc2 (pc' := 30) cl_X1_75 dX1_addTo_27 rfl ?_
    refine ev_lload_n (pc' := 31) (i := 3) dX1_addTo_30 rfl rfl rfl ?_
    refine ev_lmul (pc' := 32) (v := 31 * ((31 * ((31 * ((31 * s) + ((L b) 0))) + ((L b) 1))) + ((L b) 2))) dX1_addTo_31 rfl rfl ?_
    refine ev_aload_n (pc' := 33) (i := 0) dX1_addTo_32 rfl rfl rfl ?_
    refine ev_getR (pc' := 36) fo_X1_12 dX1_addTo_33 rfl ha rfl hn ?_
    refine ev_iload (pc' := 38) dX1_addTo_36 rfl rfl ?_
    refine ev_callV (pc' := 41) (rm' := rX4_ten) (b := n) (av := [.int 3]) (rest := [.long (31 * ((31 * ((31 * ((31 * s) + ((L b) 0))) + ((L b) 1))) + ((L b) 2)))]) co_X1_77 ci_X4_ten cv_X4_ten dX1_addTo_38 rfl hnn hb_X4 rfl rfl (Nat.le_of_ble_eq_true rfl) ⟨(Nat.le_of_ble_eq_true rfl), (Nat.le_of_ble_eq_true rfl)⟩ ⟨(Nat.le_of_ble_eq_true rfl), (Nat.le_of_ble_eq_true rfl)⟩ ?_
    refine t_X4_ten3 n b hnn hrn hb ?_
    refine ev_ladd (pc' := 42) (v := (31 * ((31 * ((31 * ((31 * s) + ((L b) 0))) + ((L b) 1))) + ((L b) 2))) + ((L b) 3)) dX1_addTo_41 rfl rfl ?_
    refine ev_lstore_n (pc' := 43) (i := 3) (lv' := [some (.ref a), some (.long s), none, some (.long ((31 * ((31 * ((31 * ((31 * s) + ((L b) 0))) + ((L b) 1))) + ((L b) 2))) + ((L b) 3))), none, some (.int 3)]) dX1_addTo_42 rfl rfl (Nat.le_of_ble_eq_true rfl) rfl rfl ?_
    refine ev_iinc (pc' := 46) (v := 4) (lv' := [some (.ref a), some (.long s), none, some (.long ((31 * ((31 * ((31 * ((31 * s) + ((L b) 0))) + ((L b) 1))) + ((L b) 2))) + ((L b) 3))), none, some (.int 4)]) dX1_addTo_43 rfl rfl (by decide) (Nat.le_of_ble_eq_true rfl) rfl rfl ?_
    refine ev_goto (tgt := 20) dX1_addTo_46 rfl ?_
    refine ev_iload (pc' := 22) dX1_addTo_20 rfl rfl ?_
    refine ev_bipush (pc' := 24) (v := 10) dX1_addTo_22 rfl kb_10 ?_
    refine ev_icmp_ge (tgt := 49) (pc' := 27) dX1_addTo_24 rfl rfl (fun h => absurd h (by decide)) (fun _ => ?_)
    refine ev_ldc2 (pc' := 30) cl_X1_75 dX1_addTo_27 rfl ?_
    refine ev_lload_n (pc' := 31) (i := 3) dX1_addTo_30 rfl rfl rfl ?_
    refine ev_lmul (pc' := 32) (v := 31 * ((31 * ((31 * ((31 * ((31 * s) + ((L b) 0))) + ((L b) 1))) + ((L b) 2))) + ((L b) 3))) dX1_addTo_31 rfl rfl ?_
    refine ev_aload_n (pc' := 33) (i := 0) dX1_addTo_32 rfl rfl rfl ?_
    refine ev_getR (pc' := 36) fo_X1_12 dX1_addTo_33 rfl ha rfl hn ?_
    refine ev_iload (pc' := 38) dX1_addTo_36 rfl rfl ?_
    refine ev_callV (pc' := 41) (rm' := rX4_ten) (b := n) (av := [.int 4]) (rest := [.long (31 * ((31 * ((31 * ((31 * ((31 * s) + ((L b) 0))) + ((L b) 1))) + ((L b) 2))) + ((L b) 3)))]) co_X1_77 ci_X4_ten cv_X4_ten dX1_addTo_38 rfl hnn hb_X4 rfl rfl (Nat.le_of_ble_eq_true rfl) ⟨(Nat.le_of_ble_eq_true rfl), (Nat.le_of_ble_eq_true rfl)⟩ ⟨(Nat.le_of_ble_eq_true rfl), (Nat.le_of_ble_eq_true rfl)⟩ ?_
    refine t_X4_ten4 n b hnn hrn hb ?_
    refine ev_ladd (pc' := 42) (v := (31 * ((31 * ((31 * ((31 * ((31 * s) + ((L b) 0))) + ((L b) 1))) + ((L b) 2))) + ((L b) 3))) + ((L b) 5)) dX1_addTo_41 rfl rfl ?_
    refine ev_lstore_n (pc' := 43) (i := 3) (lv' := [some (.ref a), some (.long s), none, some (.long ((31 * ((31 * ((31 * ((31 * ((31 * s) + ((L b) 0))) + ((L b) 1))) + ((L b) 2))) + ((L b) 3))) + ((L b) 5))), none, some (.int 4)]) dX1_addTo_42 rfl rfl (Nat.le_of_ble_eq_true rfl) rfl rfl ?_
    refine ev_iinc (pc' := 46) (v := 5) (lv' := [some (.ref a), some (.long s), none, some (.long ((31 * ((31 * ((31 * ((31 * ((31 * s) + ((L b) 0))) + ((L b) 1))) + ((L b) 2))) + ((L b) 3))) + ((L b) 5))), none, some (.int 5)]) dX1_addTo_43 rfl rfl (by decide) (Nat.le_of_ble_eq_true rfl) rfl rfl ?_
    refine ev_goto (tgt := 20) dX1_addTo_46 rfl ?_
    refine ev_iload (pc' := 22) dX1_addTo_20 rfl rfl ?_
    refine ev_bipush (pc' := 24) (v := 10) dX1_addTo_22 rfl kb_10 ?_
    refine ev_icmp_ge (tgt := 49) (pc' := 27) dX1_addTo_24 rfl rfl (fun h => absurd h (by decide)) (fun _ => ?_)
    refine ev_ldc2 (pc' := 30) cl_X1_75 dX1_addTo_27 rfl ?_
    refine ev_lload_n (pc' := 31) (i := 3) dX1_addTo_30 rfl rfl rfl ?_
    refine ev_lmul (pc' := 32) (v := 31 * ((31 * ((31 * ((31 * ((31 * ((31 * s) + ((L b) 0))) + ((L b) 1))) + ((L b) 2))) + ((L b) 3))) + ((L b) 5))) dX1_addTo_31 rfl rfl ?_
    refine ev_aload_n (pc' := 33) (i := 0) dX1_addTo_32 rfl rfl rfl ?_
    refine ev_getR (pc' := 36) fo_X1_12 dX1_addTo_33 rfl ha rfl hn ?_
    refine ev_iload (pc' := 38) dX1_addTo_36 rfl rfl ?_
    refine ev_callV (pc' := 41) (rm' := rX4_ten) (b := n) (av := [.int 5]) (rest := [.long (31 * ((31 * ((31 * ((31 * ((31 * ((31 * s) + ((L b) 0))) + ((L b) 1))) + ((L b) 2))) + ((L b) 3))) + ((L b) 5)))]) co_X1_77 ci_X4_ten cv_X4_ten dX1_addTo_38 rfl hnn hb_X4 rfl rfl (Nat.le_of_ble_eq_true rfl) ⟨(Nat.le_of_ble_eq_true rfl), (Nat.le_of_ble_eq_true rfl)⟩ ⟨(Nat.le_of_ble_eq_true rfl), (Nat.le_of_ble_eq_true rfl)⟩ ?_
    refine t_X4_ten5 n b hnn hrn hb ?_
    refine ev_ladd (pc' := 42) (v := (31 * ((31 * ((31 * ((31 * ((31 * ((31 * s) + ((L b) 0))) + ((L b) 1))) + ((L b) 2))) + ((L b) 3))) + ((L b) 5))) + ((L b) 6)) dX1_addTo_41 rfl rfl ?_
    refine ev_lstore_n (pc' := 43) (i := 3) (lv' := [some (.ref a), some (.long s), none, some (.long ((31 * ((31 * ((31 * ((31 * ((31 * ((31 * s) + ((L b) 0))) + ((L b) 1))) + ((L b) 2))) + ((L b) 3))) + ((L b) 5))) + ((L b) 6))), none, some (.int 5)]) dX1_addTo_42 rfl rfl (Nat.le_of_ble_eq_true rfl) rfl rfl ?_
    refine ev_iinc (pc' := 46) (v := 6) (lv' := [some (.ref a), some (.long s), none, some (.long ((31 * ((31 * ((31 * ((31 * ((31 * ((31 * s) + ((L b) 0))) + ((L b) 1))) + ((L b) 2))) + ((L b) 3))) + ((L b) 5))) + ((L b) 6))), none, some (.int 6)]) dX1_addTo_43 rfl rfl (by decide) (Nat.le_of_ble_eq_true rfl) rfl rfl ?_
    refine ev_goto (tgt := 20) dX1_addTo_46 rfl ?_
    refine ev_iload (pc' := 22) dX1_addTo_20 rfl rfl ?_
    refine ev_bipush (pc' := 24) (v := 10) dX1_addTo_22 rfl kb_10 ?_
    refine ev_icmp_ge (tgt := 49) (pc' := 27) dX1_addTo_24 rfl rfl (fun h => absurd h (by decide)) (fun _ => ?_)
    refine ev_ldc2 (pc' := 30) cl_X1_75 dX1_addTo_27 rfl ?_
    refine ev_lload_n (pc' := 31) (i := 3) dX1_addTo_30 rfl rfl rfl ?_
    refine ev_lmul (pc' := 32) (v := 31 * ((31 * ((31 * ((31 * ((31 * ((31 * ((31 * s) + ((L b) 0))) + ((L b) 1))) + ((L b) 2))) + ((L b) 3))) + ((L b) 5))) + ((L b) 6))) dX1_addTo_31 rfl rfl ?_
    refine ev_aload_n (pc' := 33) (i := 0) dX1_addTo_32 rfl rfl rfl ?_
    refine ev_getR (pc' := 36) fo_X1_12 dX1_addTo_33 rfl ha rfl hn ?_
    refine ev_iload (pc' := 38) dX1_addTo_36 rfl rfl ?_
    refine ev_callV (pc' := 41) (rm' := rX4_ten) (b := n) (av := [.int 6]) (rest := [.long (31 * ((31 * ((31 * ((31 * ((31 * ((31 * ((31 * s) + ((L b) 0))) + ((L b) 1))) + ((L b) 2))) + ((L b) 3))) + ((L b) 5))) + ((L b) 6)))]) co_X1_77 ci_X4_ten cv_X4_ten dX1_addTo_38 rfl hnn hb_X4 rfl rfl (Nat.le_of_ble_eq_true rfl) ⟨(Nat.le_of_ble_eq_true rfl), (Nat.le_of_ble_eq_true rfl)⟩ ⟨(Nat.le_of_ble_eq_true rfl), (Nat.le_of_ble_eq_true rfl)⟩ ?_
    refine t_X4_ten6 n b hnn hrn hb ?_
    refine ev_ladd (pc' := 42) (v := (31 * ((31 * ((31 * ((31 * ((31 * ((31 * ((31 * s) + ((L b) 0))) + ((L b) 1))) + ((L b) 2))) + ((L b) 3))) + ((L b) 5))) + ((L b) 6))) + ((L b) 7)) dX1_addTo_41 rfl rfl ?_
    refine ev_lstore_n (pc' := 43) (i := 3) (lv' := [some (.ref a), some (.long s), none, some (.long ((31 * ((31 * ((31 * ((31 * ((31 * ((31 * ((31 * s) + ((L b) 0))) + ((L b) 1))) + ((L b) 2))) + ((L b) 3))) + ((L b) 5))) + ((L b) 6))) + ((L b) 7))), none, some (.int 6)]) dX1_addTo_42 rfl rfl (Nat.le_of_ble_eq_true rfl) rfl rfl ?_
    refine ev_iinc (pc' := 46) (v := 7) (lv' := [some (.ref a), some (.long s), none, some (.long ((31 * ((31 * ((31 * ((31 * ((31 * ((31 * ((31 * s) + ((L b) 0))) + ((L b) 1))) + ((L b) 2))) + ((L b) 3))) + ((L b) 5))) + ((L b) 6))) + ((L b) 7))), none, some (.int 7)]) dX1_addTo_43 rfl rfl (by decide) (Nat.le_of_ble_eq_true rfl) rfl rfl ?_
    refine ev_goto (tgt := 20) dX1_addTo_46 rfl ?_
    refine ev_iload (pc' := 22) dX1_addTo_20 rfl rfl ?_
    refine ev_bipush (pc' := 24) (v := 10) dX1_addTo_22 rfl kb_10 ?_
    refine ev_icmp_ge (tgt := 49) (pc' := 27) dX1_addTo_24 rfl rfl (fun h => absurd h (by decide)) (fun _ => ?_)
    refine ev_ldc2 (pc' := 30) cl_X1_75 dX1_addTo_27 rfl ?_
    refine ev_lload_n (pc' := 31) (i := 3) dX1_addTo_30 rfl rfl rfl ?_
    refine ev_lmul (pc' := 32) (v := 31 * ((31 * ((31 * ((31 * ((31 * ((31 * ((31 * ((31 * s) + ((L b) 0))) + ((L b) 1))) + ((L b) 2))) + ((L b) 3))) + ((L b) 5))) + ((L b) 6))) + ((L b) 7))) dX1_addTo_31 rfl rfl ?_
    refine ev_aload_n (pc' := 33) (i := 0) dX1_addTo_32 rfl rfl rfl ?_
    refine ev_getR (pc' := 36) fo_X1_12 dX1_addTo_33 rfl ha rfl hn ?_
    refine ev_iload (pc' := 38) dX1_addTo_36 rfl rfl ?_
    refine ev_callV (pc' := 41) (rm' := rX4_ten) (b := n) (av := [.int 7]) (rest := [.long (31 * ((31 * ((31 * ((31 * ((31 * ((31 * ((31 * ((31 * s) + ((L b) 0))) + ((L b) 1))) + ((L b) 2))) + ((L b) 3))) + ((L b) 5))) + ((L b) 6))) + ((L b) 7)))]) co_X1_77 ci_X4_ten cv_X4_ten dX1_addTo_38 rfl hnn hb_X4 rfl rfl (Nat.le_of_ble_eq_true rfl) ⟨(Nat.le_of_ble_eq_true rfl), (Nat.le_of_ble_eq_true rfl)⟩ ⟨(Nat.le_of_ble_eq_true rfl), (Nat.le_of_ble_eq_true rfl)⟩ ?_
    refine t_X4_ten7 n b hnn hrn hb ?_
    refine ev_ladd (pc' := 42) (v := (31 * ((31 * ((31 * ((31 * ((31 * ((31 * ((31 * ((31 * s) + ((L b) 0))) + ((L b) 1))) + ((L b) 2))) + ((L b) 3))) + ((L b) 5))) + ((L b) 6))) + ((L b) 7))) + ((L b) 10)) dX1_addTo_41 rfl rfl ?_
    refine ev_lstore_n (pc' := 43) (i := 3) (lv' := [some (.ref a), some (.long s), none, some (.long ((31 * ((31 * ((31 * ((31 * ((31 * ((31 * ((31 * ((31 * s) + ((L b) 0))) + ((L b) 1))) + ((L b) 2))) + ((L b) 3))) + ((L b) 5))) + ((L b) 6))) + ((L b) 7))) + ((L b) 10))), none, some (.int 7)]) dX1_addTo_42 rfl rfl (Nat.le_of_ble_eq_true rfl) rfl rfl ?_
    refine ev_iinc (pc' := 46) (v := 8) (lv' := [some (.ref a), some (.long s), none, some (.long ((31 * ((31 * ((31 * ((31 * ((31 * ((31 * ((31 * ((31 * s) + ((L b) 0))) + ((L b) 1))) + ((L b) 2))) + ((L b) 3))) + ((L b) 5))) + ((L b) 6))) + ((L b) 7))) + ((L b) 10))), none, some (.int 8)]) dX1_addTo_43 rfl rfl (by decide) (Nat.le_of_ble_eq_true rfl) rfl rfl ?_
    refine ev_goto (tgt := 20) dX1_addTo_46 rfl ?_
    refine ev_iload (pc' := 22) dX1_addTo_20 rfl rfl ?_
    refine ev_bipush (pc' := 24) (v := 10) dX1_addTo_22 rfl kb_10 ?_
    refine ev_icmp_ge (tgt := 49) (pc' := 27) dX1_addTo_24 rfl rfl (fun h => absurd h (by decide)) (fun _ => ?_)
    refine ev_ldc2 (pc' := 30) cl_X1_75 dX1_addTo_27 rfl ?_
    refine ev_lload_n (pc' := 31) (i := 3) dX1_addTo_30 rfl rfl rfl ?_
    refine ev_lmul (pc' := 32) (v := 31 * ((31 * ((31 * ((31 * ((31 * ((31 * ((31 * ((31 * ((31 * s) + ((L b) 0))) + ((L b) 1))) + ((L b) 2))) + ((L b) 3))) + ((L b) 5))) + ((L b) 6))) + ((L b) 7))) + ((L b) 10))) dX1_addTo_31 rfl rfl ?_
    refine ev_aload_n (pc' := 33) (i := 0) dX1_addTo_32 rfl rfl rfl ?_
    refine ev_getR (pc' := 36) fo_X1_12 dX1_addTo_33 rfl ha rfl hn ?_
    refine ev_iload (pc' := 38) dX1_addTo_36 rfl rfl ?_
    refine ev_callV (pc' := 41) (rm' := rX4_ten) (b := n) (av := [.int 8]) (rest := [.long (31 * ((31 * ((31 * ((31 * ((31 * ((31 * ((31 * ((31 * ((31 * s) + ((L b) 0))) + ((L b) 1))) + ((L b) 2))) + ((L b) 3))) + ((L b) 5))) + ((L b) 6))) + ((L b) 7))) + ((L b) 10)))]) co_X1_77 ci_X4_ten cv_X4_ten dX1_addTo_38 rfl hnn hb_X4 rfl rfl (Nat.le_of_ble_eq_true rfl) ⟨(Nat.le_of_ble_eq_true rfl), (Nat.le_of_ble_eq_true rfl)⟩ ⟨(Nat.le_of_ble_eq_true rfl), (Nat.le_of_ble_eq_true rfl)⟩ ?_
    refine t_X4_ten8 n b hnn hrn hb ?_
    refine ev_ladd (pc' := 42) (v := (31 * ((31 * ((31 * ((31 * ((31 * ((31 * ((31 * ((31 * ((31 * s) + ((L b) 0))) + ((L b) 1))) + ((L b) 2))) + ((L b) 3))) + ((L b) 5))) + ((L b) 6))) + ((L b) 7))) + ((L b) 10))) + ((L b) 11)) dX1_addTo_41 rfl rfl ?_
    refine ev_lstore_n (pc' := 43) (i := 3) (lv' := [some (.ref a), some (.long s), none, some (.long ((31 * ((31 * ((31 * ((31 * ((31 * ((31 * ((31 * ((31 * ((31 * s) + ((L b) 0))) + ((L b) 1))) + ((L b) 2))) + ((L b) 3))) + ((L b) 5))) + ((L b) 6))) + ((L b) 7))) + ((L b) 10))) + ((L b) 11))), none, some (.int 8)]) dX1_addTo_42 rfl rfl (Nat.le_of_ble_eq_true rfl) rfl rfl ?_
    refine ev_iinc (pc' := 46) (v := 9) (lv' := [some (.ref a), some (.long s), none, some (.long ((31 * ((31 * ((31 * ((31 * ((31 * ((31 * ((31 * ((31 * ((31 * s) + ((L b) 0))) + ((L b) 1))) + ((L b) 2))) + ((L b) 3))) + ((L b) 5))) + ((L b) 6))) + ((L b) 7))) + ((L b) 10))) + ((L b) 11))), none, some (.int 9)]) dX1_addTo_43 rfl rfl (by decide) (Nat.le_of_ble_eq_true rfl) rfl rfl ?_
    refine ev_goto (tgt := 20) dX1_addTo_46 rfl ?_
    refine ev_iload (pc' := 22) dX1_addTo_20 rfl rfl ?_
    refine ev_bipush (pc' := 24) (v := 10) dX1_addTo_22 rfl kb_10 ?_
    refine ev_icmp_ge (tgt := 49) (pc' := 27) dX1_addTo_24 rfl rfl (fun h => absurd h (by decide)) (fun _ => ?_)
    refine ev_ldc2 (pc' := 30) cl_X1_75 dX1_addTo_27 rfl ?_
    refine ev_lload_n (pc' := 31) (i := 3) dX1_addTo_30 rfl rfl rfl ?_
    refine ev_lmul (pc' := 32) (v := 31 * ((31 * ((31 * ((31 * ((31 * ((31 * ((31 * ((31 * ((31 * ((31 * s) + ((L b) 0))) + ((L b) 1))) + ((L b) 2))) + ((L b) 3))) + ((L b) 5))) + ((L b) 6))) + ((L b) 7))) + ((L b) 10))) + ((L b) 11))) dX1_addTo_31 rfl rfl ?_
    refine ev_aload_n (pc' := 33) (i := 0) dX1_addTo_32 rfl rfl rfl ?_
    refine ev_getR (pc' := 36) fo_X1_12 dX1_addTo_33 rfl ha rfl hn ?_
    refine ev_iload (pc' := 38) dX1_addTo_36 rfl rfl ?_
    refine ev_callV (pc' := 41) (rm' := rX4_ten) (b := n) (av := [.int 9]) (rest := [.long (31 * ((31 * ((31 * ((31 * ((31 * ((31 * ((31 * ((31 * ((31 * ((31 * s) + ((L b) 0))) + ((L b) 1))) + ((L b) 2))) + ((L b) 3))) + ((L b) 5))) + ((L b) 6))) + ((L b) 7))) + ((L b) 10))) + ((L b) 11)))]) co_X1_77 ci_X4_ten cv_X4_ten dX1_addTo_38 rfl hnn hb_X4 rfl rfl (Nat.le_of_ble_eq_true rfl) ⟨(Nat.le_of_ble_eq_true rfl), (Nat.le_of_ble_eq_true rfl)⟩ ⟨(Nat.le_of_ble_eq_true rfl), (Nat.le_of_ble_eq_true rfl)⟩ ?_
    refine t_X4_ten9 n b hnn hrn hb ?_
    refine ev_ladd (pc' := 42) (v := (31 * ((31 * ((31 * ((31 * ((31 * ((31 * ((31 * ((31 * ((31 * ((31 * s) + ((L b) 0))) + ((L b) 1))) + ((L b) 2))) + ((L b) 3))) + ((L b) 5))) + ((L b) 6))) + ((L b) 7))) + ((L b) 10))) + ((L b) 11))) + ((L b) 15)) dX1_addTo_41 rfl rfl ?_
    refine ev_lstore_n (pc' := 43) (i := 3) (lv' := [some (.ref a), some (.long s), none, some (.long ((31 * ((31 * ((31 * ((31 * ((31 * ((31 * ((31 * ((31 * ((31 * ((31 * s) + ((L b) 0))) + ((L b) 1))) + ((L b) 2))) + ((L b) 3))) + ((L b) 5))) + ((L b) 6))) + ((L b) 7))) + ((L b) 10))) + ((L b) 11))) + ((L b) 15))), none, some (.int 9)]) dX1_addTo_42 rfl rfl (Nat.le_of_ble_eq_true rfl) rfl rfl ?_
    refine ev_iinc (pc' := 46) (v := 10) (lv' := [some (.ref a), some (.long s), none, some (.long ((31 * ((31 * ((31 * ((31 * ((31 * ((31 * ((31 * ((31 * ((31 * ((31 * s) + ((L b) 0))) + ((L b) 1))) + ((L b) 2))) + ((L b) 3))) + ((L b) 5))) + ((L b) 6))) + ((L b) 7))) + ((L b) 10))) + ((L b) 11))) + ((L b) 15))), none, some (.int 10)]) dX1_addTo_43 rfl rfl (by decide) (Nat.le_of_ble_eq_true rfl) rfl rfl ?_
    refine ev_goto (tgt := 20) dX1_addTo_46 rfl ?_
    refine ev_iload (pc' := 22) dX1_addTo_20 rfl rfl ?_
    refine ev_bipush (pc' := 24) (v := 10) dX1_addTo_22 rfl kb_10 ?_
    refine ev_icmp_ge (tgt := 49) (pc' := 27) dX1_addTo_24 rfl rfl (fun _ => ?_) (fun h => absurd (by decide) h)
    refine ev_iconst (pc' := 50) (v := 0) dX1_addTo_49 rfl ki_0 ?_
    refine ev_istore (pc' := 52) (lv' := [some (.ref a), some (.long s), none, some (.long ((31 * ((31 * ((31 * ((31 * ((31 * ((31 * ((31 * ((31 * ((31 * ((31 * s) + ((L b) 0))) + ((L b) 1))) + ((L b) 2))) + ((L b) 3))) + ((L b) 5))) + ((L b) 6))) + ((L b) 7))) + ((L b) 10))) + ((L b) 11))) + ((L b) 15))), none, some (.int 0)]) dX1_addTo_50 rfl (Nat.le_of_ble_eq_true rfl) rfl rfl ?_
    refine ev_iload (pc' := 54) dX1_addTo_52 rfl rfl ?_
    refine ev_bipush (pc' := 56) (v := 10) dX1_addTo_54 rfl kb_10 ?_
    refine ev_icmp_ge (tgt := 80) (pc' := 59) dX1_addTo_56 rfl rfl (fun h => absurd h (by decide)) (fun _ => ?_)
    refine ev_ldc2 (pc' := 62) cl_X1_75 dX1_addTo_59 rfl ?_
    refine ev_lload_n (pc' := 63) (i := 3) dX1_addTo_62 rfl rfl rfl ?_
    refine ev_lmul (pc' := 64) (v := 31 * ((31 * ((31 * ((31 * ((31 * ((31 * ((31 * ((31 * ((31 * ((31 * ((31 * s) + ((L b) 0))) + ((L b) 1))) + ((L b) 2))) + ((L b) 3))) + ((L b) 5))) + ((L b) 6))) + ((L b) 7))) + ((L b) 10))) + ((L b) 11))) + ((L b) 15))) dX1_addTo_63 rfl rfl ?_
    refine ev_aload_n (pc' := 65) (i := 0) dX1_addTo_64 rfl rfl rfl ?_
    refine ev_getR (pc' := 68) fo_X1_18 dX1_addTo_65 rfl ha rfl hf ?_
    refine ev_iload (pc' := 70) dX1_addTo_68 rfl rfl ?_
    refine ev_iald (pc' := 71) (j := 0) (v := (I f) 0) dX1_addTo_70 rfl hff rfl (Nat.le_of_ble_eq_true rfl) (Nat.le_of_ble_eq_true rfl) rfl ?_
    refine ev_i2l (pc' := 72) (v := Int32.toInt64 ((I f) 0)) dX1_addTo_71 rfl rfl ?_
    refine ev_ladd (pc' := 73) (v := (31 * ((31 * ((31 * ((31 * ((31 * ((31 * ((31 * ((31 * ((31 * ((31 * ((31 * s) + ((L b) 0))) + ((L b) 1))) + ((L b) 2))) + ((L b) 3))) + ((L b) 5))) + ((L b) 6))) + ((L b) 7))) + ((L b) 10))) + ((L b) 11))) + ((L b) 15))) + (Int32.toInt64 ((I f) 0))) dX1_addTo_72 rfl rfl ?_
    refine ev_lstore_n (pc' := 74) (i := 3) (lv' := [some (.ref a), some (.long s), none, some (.long ((31 * ((31 * ((31 * ((31 * ((31 * ((31 * ((31 * ((31 * ((31 * ((31 * ((31 * s) + ((L b) 0))) + ((L b) 1))) + ((L b) 2))) + ((L b) 3))) + ((L b) 5))) + ((L b) 6))) + ((L b) 7))) + ((L b) 10))) + ((L b) 11))) + ((L b) 15))) + (Int32.toInt64 ((I f) 0)))), none, some (.int 0)]) dX1_addTo_73 rfl rfl (Nat.le_of_ble_eq_true rfl) rfl rfl ?_
    refine ev_iinc (pc' := 77) (v := 1) (lv' := [some (.ref a), some (.long s), none, some (.long ((31 * ((31 * ((31 * ((31 * ((31 * ((31 * ((31 * ((31 * ((31 * ((31 * ((31 * s) + ((L b) 0))) + ((L b) 1))) + ((L b) 2))) + ((L b) 3))) + ((L b) 5))) + ((L b) 6))) + ((L b) 7))) + ((L b) 10))) + ((L b) 11))) + ((L b) 15))) + (Int32.toInt64 ((I f) 0)))), none, some (.int 1)]) dX1_addTo_74 rfl rfl (by decide) (Nat.le_of_ble_eq_true rfl) rfl rfl ?_
    refine ev_goto (tgt := 52) dX1_addTo_77 rfl ?_
    refine ev_iload (pc' := 54) dX1_addTo_52 rfl rfl ?_
    refine ev_bipush (pc' := 56) (v := 10) dX1_addTo_54 rfl kb_10 ?_
    refine ev_icmp_ge (tgt := 80) (pc' := 59) dX1_addTo_56 rfl rfl (fun h => absurd h (by decide)) (fun _ => ?_)
    refine ev_ldc2 (pc' := 62) cl_X1_75 dX1_addTo_59 rfl ?_
    refine ev_lload_n (pc' := 63) (i := 3) dX1_addTo_62 rfl rfl rfl ?_
    refine ev_lmul (pc' := 64) (v := 31 * ((31 * ((31 * ((31 * ((31 * ((31 * ((31 * ((31 * ((31 * ((31 * ((31 * ((31 * s) + ((L b) 0))) + ((L b) 1))) + ((L b) 2))) + ((L b) 3))) + ((L b) 5))) + ((L b) 6))) + ((L b) 7))) + ((L b) 10))) + ((L b) 11))) + ((L b) 15))) + (Int32.toInt64 ((I f) 0)))) dX1_addTo_63 rfl rfl ?_
    refine ev_aload_n (pc' := 65) (i := 0) dX1_addTo_64 rfl rfl rfl ?_
    refine ev_getR (pc' := 68) fo_X1_18 dX1_addTo_65 rfl ha rfl hf ?_
    refine ev_iload (pc' := 70) dX1_addTo_68 rfl rfl ?_
    refine ev_iald (pc' := 71) (j := 1) (v := (I f) 1) dX1_addTo_70 rfl hff rfl (Nat.le_of_ble_eq_true rfl) (Nat.le_of_ble_eq_true rfl) rfl ?_
    refine ev_i2l (pc' := 72) (v := Int32.toInt64 ((I f) 1)) dX1_addTo_71 rfl rfl ?_
    refine ev_ladd (pc' := 73) (v := (31 * ((31 * ((31 * ((31 * ((31 * ((31 * ((31 * ((31 * ((31 * ((31 * ((31 * ((31 * s) + ((L b) 0))) + ((L b) 1))) + ((L b) 2))) + ((L b) 3))) + ((L b) 5))) + ((L b) 6))) + ((L b) 7))) + ((L b) 10))) + ((L b) 11))) + ((L b) 15))) + (Int32.toInt64 ((I f) 0)))) + (Int32.toInt64 ((I f) 1))) dX1_addTo_72 rfl rfl ?_
    refine ev_lstore_n (pc' := 74) (i := 3) (lv' := [some (.ref a), some (.long s), none, some (.long ((31 * ((31 * ((31 * ((31 * ((31 * ((31 * ((31 * ((31 * ((31 * ((31 * ((31 * ((31 * s) + ((L b) 0))) + ((L b) 1))) + ((L b) 2))) + ((L b) 3))) + ((L b) 5))) + ((L b) 6))) + ((L b) 7))) + ((L b) 10))) + ((L b) 11))) + ((L b) 15))) + (Int32.toInt64 ((I f) 0)))) + (Int32.toInt64 ((I f) 1)))), none, some (.int 1)]) dX1_addTo_73 rfl rfl (Nat.le_of_ble_eq_true rfl) rfl rfl ?_
    refine ev_iinc (pc' := 77) (v := 2) (lv' := [some (.ref a), some (.long s), none, some (.long ((31 * ((31 * ((31 * ((31 * ((31 * ((31 * ((31 * ((31 * ((31 * ((31 * ((31 * ((31 * s) + ((L b) 0))) + ((L b) 1))) + ((L b) 2))) + ((L b) 3))) + ((L b) 5))) + ((L b) 6))) + ((L b) 7))) + ((L b) 10))) + ((L b) 11))) + ((L b) 15))) + (Int32.toInt64 ((I f) 0)))) + (Int32.toInt64 ((I f) 1)))), none, some (.int 2)]) dX1_addTo_74 rfl rfl (by decide) (Nat.le_of_ble_eq_true rfl) rfl rfl ?_
    refine ev_goto (tgt := 52) dX1_addTo_77 rfl ?_
    refine ev_iload (pc' := 54) dX1_addTo_52 rfl rfl ?_
    refine ev_bipush (pc' := 56) (v := 10) dX1_addTo_54 rfl kb_10 ?_
    refine ev_icmp_ge (tgt := 80) (pc' := 59) dX1_addTo_56 rfl rfl (fun h => absurd h (by decide)) (fun _ => ?_)
    refine ev_ldc2 (pc' := 62) cl_X1_75 dX1_addTo_59 rfl ?_
    refine ev_lload_n (pc' := 63) (i := 3) dX1_addTo_62 rfl rfl rfl ?_
    refine ev_lmul (pc' := 64) (v := 31 * ((31 * ((31 * ((31 * ((31 * ((31 * ((31 * ((31 * ((31 * ((31 * ((31 * ((31 * ((31 * s) + ((L b) 0))) + ((L b) 1))) + ((L b) 2))) + ((L b) 3))) + ((L b) 5))) + ((L b) 6))) + ((L b) 7))) + ((L b) 10))) + ((L b) 11))) + ((L b) 15))) + (Int32.toInt64 ((I f) 0)))) + (Int32.toInt64 ((I f) 1)))) dX1_addTo_63 rfl rfl ?_
    refine ev_aload_n (pc' := 65) (i := 0) dX1_addTo_64 rfl rfl rfl ?_
    refine ev_getR (pc' := 68) fo_X1_18 dX1_addTo_65 rfl ha rfl hf ?_
    refine ev_iload (pc' := 70) dX1_addTo_68 rfl rfl ?_
    refine ev_iald (pc' := 71) (j := 2) (v := (I f) 2) dX1_addTo_70 rfl hff rfl (Nat.le_of_ble_eq_true rfl) (Nat.le_of_ble_eq_true rfl) rfl ?_
    refine ev_i2l (pc' := 72) (v := Int32.toInt64 ((I f) 2)) dX1_addTo_71 rfl rfl ?_
    refine ev_ladd (pc' := 73) (v := (31 * ((31 * ((31 * ((31 * ((31 * ((31 * ((31 * ((31 * ((31 * ((31 * ((31 * ((31 * ((31 * s) + ((L b) 0))) + ((L b) 1))) + ((L b) 2))) + ((L b) 3))) + ((L b) 5))) + ((L b) 6))) + ((L b) 7))) + ((L b) 10))) + ((L b) 11))) + ((L b) 15))) + (Int32.toInt64 ((I f) 0)))) + (Int32.toInt64 ((I f) 1)))) + (Int32.toInt64 ((I f) 2))) dX1_addTo_72 rfl rfl ?_
    refine ev_lstore_n (pc' := 74) (i := 3) (lv' := [some (.ref a), some (.long s), none, some (.long ((31 * ((31 * ((31 * ((31 * ((31 * ((31 * ((31 * ((31 * ((31 * ((31 * ((31 * ((31 * ((31 * s) + ((L b) 0))) + ((L b) 1))) + ((L b) 2))) + ((L b) 3))) + ((L b) 5))) + ((L b) 6))) + ((L b) 7))) + ((L b) 10))) + ((L b) 11))) + ((L b) 15))) + (Int32.toInt64 ((I f) 0)))) + (Int32.toInt64 ((I f) 1)))) + (Int32.toInt64 ((I f) 2)))), none, some (.int 2)]) dX1_addTo_73 rfl rfl (Nat.le_of_ble_eq_true rfl) rfl rfl ?_
    refine ev_iinc (pc' := 77) (v := 3) (lv' := [some (.ref a), some (.long s), none, some (.long ((31 * ((31 * ((31 * ((31 * ((31 * ((31 * ((31 * ((31 * ((31 * ((31 * ((31 * ((31 * ((31 * s) + ((L b) 0))) + ((L b) 1))) + ((L b) 2))) + ((L b) 3))) + ((L b) 5))) + ((L b) 6))) + ((L b) 7))) + ((L b) 10))) + ((L b) 11))) + ((L b) 15))) + (Int32.toInt64 ((I f) 0)))) + (Int32.toInt64 ((I f) 1)))) + (Int32.toInt64 ((I f) 2)))), none, some (.int 3)]) dX1_addTo_74 rfl rfl (by decide) (Nat.le_of_ble_eq_true rfl) rfl rfl ?_
    refine ev_goto (tgt := 52) dX1_addTo_77 rfl ?_
    refine ev_iload (pc' := 54) dX1_addTo_52 rfl rfl ?_
    refine ev_bipush (pc' := 56) (v := 10) dX1_addTo_54 rfl kb_10 ?_
    refine ev_icmp_ge (tgt := 80) (pc' := 59) dX1_addTo_56 rfl rfl (fun h => absurd h (by decide)) (fun _ => ?_)
    refine ev_ldc2 (pc' := 62) cl_X1_75 dX1_addTo_59 rfl ?_
    refine ev_lload_n (pc' := 63) (i := 3) dX1_addTo_62 rfl rfl rfl ?_
    refine ev_lmul (pc' := 64) (v := 31 * ((31 * ((31 * ((31 * ((31 * ((31 * ((31 * ((31 * ((31 * ((31 * ((31 * ((31 * ((31 * ((31 * s) + ((L b) 0))) + ((L b) 1))) + ((L b) 2))) + ((L b) 3))) + ((L b) 5))) + ((L b) 6))) + ((L b) 7))) + ((L b) 10))) + ((L b) 11))) + ((L b) 15))) + (Int32.toInt64 ((I f) 0)))) + (Int32.toInt64 ((I f) 1)))) + (Int32.toInt64 ((I f) 2)))) dX1_addTo_63 rfl rfl ?_
    refine ev_aload_n (pc' := 65) (i := 0) dX1_addTo_64 rfl rfl rfl ?_
    refine ev_getR (pc' := 68) fo_X1_18 dX1_addTo_65 rfl ha rfl hf ?_
    refine ev_iload (pc' := 70) dX1_addTo_68 rfl rfl ?_
    refine ev_iald (pc' := 71) (j := 3) (v := (I f) 3) dX1_addTo_70 rfl hff rfl (Nat.le_of_ble_eq_true rfl) (Nat.le_of_ble_eq_true rfl) rfl ?_
    refine ev_i2l (pc' := 72) (v := Int32.toInt64 ((I f) 3)) dX1_addTo_71 rfl rfl ?_
    refine ev_ladd (pc' := 73) (v := (31 * ((31 * ((31 * ((31 * ((31 * ((31 * ((31 * ((31 * ((31 * ((31 * ((31 * ((31 * ((31 * ((31 * s) + ((L b) 0))) + ((L b) 1))) + ((L b) 2))) + ((L b) 3))) + ((L b) 5))) + ((L b) 6))) + ((L b) 7))) + ((L b) 10))) + ((L b) 11))) + ((L b) 15))) + (Int32.toInt64 ((I f) 0)))) + (Int32.toInt64 ((I f) 1)))) + (Int32.toInt64 ((I f) 2)))) + (Int32.toInt64 ((I f) 3))) dX1_addTo_72 rfl rfl ?_
    refine ev_lstore_n (pc' := 74) (i := 3) (lv' := [some (.ref a), some (.long s), none, some (.long ((31 * ((31 * ((31 * ((31 * ((31 * ((31 * ((31 * ((31 * ((31 * ((31 * ((31 * ((31 * ((31 * ((31 * s) + ((L b) 0))) + ((L b) 1))) + ((L b) 2))) + ((L b) 3))) + ((L b) 5))) + ((L b) 6))) + ((L b) 7))) + ((L b) 10))) + ((L b) 11))) + ((L b) 15))) + (Int32.toInt64 ((I f) 0)))) + (Int32.toInt64 ((I f) 1)))) + (Int32.toInt64 ((I f) 2)))) + (Int32.toInt64 ((I f) 3)))), none, some (.int 3)]) dX1_addTo_73 rfl rfl (Nat.le_of_ble_eq_true rfl) rfl rfl ?_
    refine ev_iinc (pc' := 77) (v := 4) (lv' := [some (.ref a), some (.long s), none, some (.long ((31 * ((31 * ((31 * ((31 * ((31 * ((31 * ((31 * ((31 * ((31 * ((31 * ((31 * ((31 * ((31 * ((31 * s) + ((L b) 0))) + ((L b) 1))) + ((L b) 2))) + ((L b) 3))) + ((L b) 5))) + ((L b) 6))) + ((L b) 7))) + ((L b) 10))) + ((L b) 11))) + ((L b) 15))) + (Int32.toInt64 ((I f) 0)))) + (Int32.toInt64 ((I f) 1)))) + (Int32.toInt64 ((I f) 2)))) + (Int32.toInt64 ((I f) 3)))), none, some (.int 4)]) dX1_addTo_74 rfl rfl (by decide) (Nat.le_of_ble_eq_true rfl) rfl rfl ?_
    refine ev_goto (tgt := 52) dX1_addTo_77 rfl ?_
    refine ev_iload (pc' := 54) dX1_addTo_52 rfl rfl ?_
    refine ev_bipush (pc' := 56) (v := 10) dX1_addTo_54 rfl kb_10 ?_
    refine ev_icmp_ge (tgt := 80) (pc' := 59) dX1_addTo_56 rfl rfl (fun h => absurd h (by decide)) (fun _ => ?_)
    refine ev_ldc2 (pc' := 62) cl_X1_75 dX1_addTo_59 rfl ?_
    refine ev_lload_n (pc' := 63) (i := 3) dX1_addTo_62 rfl rfl rfl ?_
    refine ev_lmul (pc' := 64) (v := 31 * ((31 * ((31 * ((31 * ((31 * ((31 * ((31 * ((31 * ((31 * ((31 * ((31 * ((31 * ((31 * ((31 * ((31 * s) + ((L b) 0))) + ((L b) 1))) + ((L b) 2))) + ((L b) 3))) + ((L b) 5))) + ((L b) 6))) + ((L b) 7))) + ((L b) 10))) + ((L b) 11))) + ((L b) 15))) + (Int32.toInt64 ((I f) 0)))) + (Int32.toInt64 ((I f) 1)))) + (Int32.toInt64 ((I f) 2)))) + (Int32.toInt64 ((I f) 3)))) dX1_addTo_63 rfl rfl ?_
    refine ev_aload_n (pc' := 65) (i := 0) dX1_addTo_64 rfl rfl rfl ?_
    refine ev_getR (pc' := 68) fo_X1_18 dX1_addTo_65 rfl ha rfl hf ?_
    refine ev_iload (pc' := 70) dX1_addTo_68 rfl rfl ?_
    refine ev_iald (pc' := 71) (j := 4) (v := (I f) 4) dX1_addTo_70 rfl hff rfl (Nat.le_of_ble_eq_true rfl) (Nat.le_of_ble_eq_true rfl) rfl ?_
    refine ev_i2l (pc' := 72) (v := Int32.toInt64 ((I f) 4)) dX1_addTo_71 rfl rfl ?_
    refine ev_ladd (pc' := 73) (v := (31 * ((31 * ((31 * ((31 * ((31 * ((31 * ((31 * ((31 * ((31 * ((31 * ((31 * ((31 * ((31 * ((31 * ((31 * s) + ((L b) 0))) + ((L b) 1))) + ((L b) 2))) + ((L b) 3))) + ((L b) 5))) + ((L b) 6))) + ((L b) 7))) + ((L b) 10))) + ((L b) 11))) + ((L b) 15))) + (Int32.toInt64 ((I f) 0)))) + (Int32.toInt64 ((I f) 1)))) + (Int32.toInt64 ((I f) 2)))) + (Int32.toInt64 ((I f) 3)))) + (Int32.toInt64 ((I f) 4))) dX1_addTo_72 rfl rfl ?_
    refine ev_lstore_n (pc' := 74) (i := 3) (lv' := [some (.ref a), some (.long s), none, some (.long ((31 * ((31 * ((31 * ((31 * ((31 * ((31 * ((31 * ((31 * ((31 * ((31 * ((31 * ((31 * ((31 * ((31 * ((31 * s) + ((L b) 0))) + ((L b) 1))) + ((L b) 2))) + ((L b) 3))) + ((L b) 5))) + ((L b) 6))) + ((L b) 7))) + ((L b) 10))) + ((L b) 11))) + ((L b) 15))) + (Int32.toInt64 ((I f) 0)))) + (Int32.toInt64 ((I f) 1)))) + (Int32.toInt64 ((I f) 2)))) + (Int32.toInt64 ((I f) 3)))) + (Int32.toInt64 ((I f) 4)))), none, some (.int 4)]) dX1_addTo_73 rfl rfl (Nat.le_of_ble_eq_true rfl) rfl rfl ?_
    refine ev_iinc (pc' := 77) (v := 5) (lv' := [some (.ref a), some (.long s), none, some (.long ((31 * ((31 * ((31 * ((31 * ((31 * ((31 * ((31 * ((31 * ((31 * ((31 * ((31 * ((31 * ((31 * ((31 * ((31 * s) + ((L b) 0))) + ((L b) 1))) + ((L b) 2))) + ((L b) 3))) + ((L b) 5))) + ((L b) 6))) + ((L b) 7))) + ((L b) 10))) + ((L b) 11))) + ((L b) 15))) + (Int32.toInt64 ((I f) 0)))) + (Int32.toInt64 ((I f) 1)))) + (Int32.toInt64 ((I f) 2)))) + (Int32.toInt64 ((I f) 3)))) + (Int32.toInt64 ((I f) 4)))), none, some (.int 5)]) dX1_addTo_74 rfl rfl (by decide) (Nat.le_of_ble_eq_true rfl) rfl rfl ?_
    refine ev_goto (tgt := 52) dX1_addTo_77 rfl ?_
    refine ev_iload (pc' := 54) dX1_addTo_52 rfl rfl ?_
    refine ev_bipush (pc' := 56) (v := 10) dX1_addTo_54 rfl kb_10 ?_
    refine ev_icmp_ge (tgt := 80) (pc' := 59) dX1_addTo_56 rfl rfl (fun h => absurd h (by decide)) (fun _ => ?_)
    refine ev_ldc2 (pc' := 62) cl_X1_75 dX1_addTo_59 rfl ?_
    refine ev_lload_n (pc' := 63) (i := 3) dX1_addTo_62 rfl rfl rfl ?_
    refine ev_lmul (pc' := 64) (v := 31 * ((31 * ((31 * ((31 * ((31 * ((31 * ((31 * ((31 * ((31 * ((31 * ((31 * ((31 * ((31 * ((31 * ((31 * ((31 * s) + ((L b) 0))) + ((L b) 1))) + ((L b) 2))) + ((L b) 3))) + ((L b) 5))) + ((L b) 6))) + ((L b) 7))) + ((L b) 10))) + ((L b) 11))) + ((L b) 15))) + (Int32.toInt64 ((I f) 0)))) + (Int32.toInt64 ((I f) 1)))) + (Int32.toInt64 ((I f) 2)))) + (Int32.toInt64 ((I f) 3)))) + (Int32.toInt64 ((I f) 4)))) dX1_addTo_63 rfl rfl ?_
    refine ev_aload_n (pc' := 65) (i := 0) dX1_addTo_64 rfl rfl rfl ?_
    refine ev_getR (pc' := 68) fo_X1_18 dX1_addTo_65 rfl ha rfl hf ?_
    refine ev_iload (pc' := 70) dX1_addTo_68 rfl rfl ?_
    refine ev_iald (pc' := 71) (j := 5) (v := (I f) 5) dX1_addTo_70 rfl hff rfl (Nat.le_of_ble_eq_true rfl) (Nat.le_of_ble_eq_true rfl) rfl ?_
    refine ev_i2l (pc' := 72) (v := Int32.toInt64 ((I f) 5)) dX1_addTo_71 rfl rfl ?_
    refine ev_ladd (pc' := 73) (v := (31 * ((31 * ((31 * ((31 * ((31 * ((31 * ((31 * ((31 * ((31 * ((31 * ((31 * ((31 * ((31 * ((31 * ((31 * ((31 * s) + ((L b) 0))) + ((L b) 1))) + ((L b) 2))) + ((L b) 3))) + ((L b) 5))) + ((L b) 6))) + ((L b) 7))) + ((L b) 10))) + ((L b) 11))) + ((L b) 15))) + (Int32.toInt64 ((I f) 0)))) + (Int32.toInt64 ((I f) 1)))) + (Int32.toInt64 ((I f) 2)))) + (Int32.toInt64 ((I f) 3)))) + (Int32.toInt64 ((I f) 4)))) + (Int32.toInt64 ((I f) 5))) dX1_addTo_72 rfl rfl ?_
    refine ev_lstore_n (pc' := 74) (i := 3) (lv' := [some (.ref a), some (.long s), none, some (.long ((31 * ((31 * ((31 * ((31 * ((31 * ((31 * ((31 * ((31 * ((31 * ((31 * ((31 * ((31 * ((31 * ((31 * ((31 * ((31 * s) + ((L b) 0))) + ((L b) 1))) + ((L b) 2))) + ((L b) 3))) + ((L b) 5))) + ((L b) 6))) + ((L b) 7))) + ((L b) 10))) + ((L b) 11))) + ((L b) 15))) + (Int32.toInt64 ((I f) 0)))) + (Int32.toInt64 ((I f) 1)))) + (Int32.toInt64 ((I f) 2)))) + (Int32.toInt64 ((I f) 3)))) + (Int32.toInt64 ((I f) 4)))) + (Int32.toInt64 ((I f) 5)))), none, some (.int 5)]) dX1_addTo_73 rfl rfl (Nat.le_of_ble_eq_true rfl) rfl rfl ?_
    refine ev_iinc (pc' := 77) (v := 6) (lv' := [some (.ref a), some (.long s), none, some (.long ((31 * ((31 * ((31 * ((31 * ((31 * ((31 * ((31 * ((31 * ((31 * ((31 * ((31 * ((31 * ((31 * ((31 * ((31 * ((31 * s) + ((L b) 0))) + ((L b) 1))) + ((L b) 2))) + ((L b) 3))) + ((L b) 5))) + ((L b) 6))) + ((L b) 7))) + ((L b) 10))) + ((L b) 11))) + ((L b) 15))) + (Int32.toInt64 ((I f) 0)))) + (Int32.toInt64 ((I f) 1)))) + (Int32.toInt64 ((I f) 2)))) + (Int32.toInt64 ((I f) 3)))) + (Int32.toInt64 ((I f) 4)))) + (Int32.toInt64 ((I f) 5)))), none, some (.int 6)]) dX1_addTo_74 rfl rfl (by decide) (Nat.le_of_ble_eq_true rfl) rfl rfl ?_
    refine ev_goto (tgt := 52) dX1_addTo_77 rfl ?_
    refine ev_iload (pc' := 54) dX1_addTo_52 rfl rfl ?_
    refine ev_bipush (pc' := 56) (v := 10) dX1_addTo_54 rfl kb_10 ?_
    refine ev_icmp_ge (tgt := 80) (pc' := 59) dX1_addTo_56 rfl rfl (fun h => absurd h (by decide)) (fun _ => ?_)
    refine ev_ldc2 (pc' := 62) cl_X1_75 dX1_addTo_59 rfl ?_
    refine ev_lload_n (pc' := 63) (i := 3) dX1_addTo_62 rfl rfl rfl ?_
    refine ev_lmul (pc' := 64) (v := 31 * ((31 * ((31 * ((31 * ((31 * ((31 * ((31 * ((31 * ((31 * ((31 * ((31 * ((31 * ((31 * ((31 * ((31 * ((31 * ((31 * s) + ((L b) 0))) + ((L b) 1))) + ((L b) 2))) + ((L b) 3))) + ((L b) 5))) + ((L b) 6))) + ((L b) 7))) + ((L b) 10))) + ((L b) 11))) + ((L b) 15))) + (Int32.toInt64 ((I f) 0)))) + (Int32.toInt64 ((I f) 1)))) + (Int32.toInt64 ((I f) 2)))) + (Int32.toInt64 ((I f) 3)))) + (Int32.toInt64 ((I f) 4)))) + (Int32.toInt64 ((I f) 5)))) dX1_addTo_63 rfl rfl ?_
    refine ev_aload_n (pc' := 65) (i := 0) dX1_addTo_64 rfl rfl rfl ?_
    refine ev_getR (pc' := 68) fo_X1_18 dX1_addTo_65 rfl ha rfl hf ?_
    refine ev_iload (pc' := 70) dX1_addTo_68 rfl rfl ?_
    refine ev_iald (pc' := 71) (j := 6) (v := (I f) 6) dX1_addTo_70 rfl hff rfl (Nat.le_of_ble_eq_true rfl) (Nat.le_of_ble_eq_true rfl) rfl ?_
    refine ev_i2l (pc' := 72) (v := Int32.toInt64 ((I f) 6)) dX1_addTo_71 rfl rfl ?_
    refine ev_ladd (pc' := 73) (v := (31 * ((31 * ((31 * ((31 * ((31 * ((31 * ((31 * ((31 * ((31 * ((31 * ((31 * ((31 * ((31 * ((31 * ((31 * ((31 * ((31 * s) + ((L b) 0))) + ((L b) 1))) + ((L b) 2))) + ((L b) 3))) + ((L b) 5))) + ((L b) 6))) + ((L b) 7))) + ((L b) 10))) + ((L b) 11))) + ((L b) 15))) + (Int32.toInt64 ((I f) 0)))) + (Int32.toInt64 ((I f) 1)))) + (Int32.toInt64 ((I f) 2)))) + (Int32.toInt64 ((I f) 3)))) + (Int32.toInt64 ((I f) 4)))) + (Int32.toInt64 ((I f) 5)))) + (Int32.toInt64 ((I f) 6))) dX1_addTo_72 rfl rfl ?_
    refine ev_lstore_n (pc' := 74) (i := 3) (lv' := [some (.ref a), some (.long s), none, some (.long ((31 * ((31 * ((31 * ((31 * ((31 * ((31 * ((31 * ((31 * ((31 * ((31 * ((31 * ((31 * ((31 * ((31 * ((31 * ((31 * ((31 * s) + ((L b) 0))) + ((L b) 1))) + ((L b) 2))) + ((L b) 3))) + ((L b) 5))) + ((L b) 6))) + ((L b) 7))) + ((L b) 10))) + ((L b) 11))) + ((L b) 15))) + (Int32.toInt64 ((I f) 0)))) + (Int32.toInt64 ((I f) 1)))) + (Int32.toInt64 ((I f) 2)))) + (Int32.toInt64 ((I f) 3)))) + (Int32.toInt64 ((I f) 4)))) + (Int32.toInt64 ((I f) 5)))) + (Int32.toInt64 ((I f) 6)))), none, some (.int 6)]) dX1_addTo_73 rfl rfl (Nat.le_of_ble_eq_true rfl) rfl rfl ?_
    refine ev_iinc (pc' := 77) (v := 7) (lv' := [some (.ref a), some (.long s), none, some (.long ((31 * ((31 * ((31 * ((31 * ((31 * ((31 * ((31 * ((31 * ((31 * ((31 * ((31 * ((31 * ((31 * ((31 * ((31 * ((31 * ((31 * s) + ((L b) 0))) + ((L b) 1))) + ((L b) 2))) + ((L b) 3))) + ((L b) 5))) + ((L b) 6))) + ((L b) 7))) + ((L b) 10))) + ((L b) 11))) + ((L b) 15))) + (Int32.toInt64 ((I f) 0)))) + (Int32.toInt64 ((I f) 1)))) + (Int32.toInt64 ((I f) 2)))) + (Int32.toInt64 ((I f) 3)))) + (Int32.toInt64 ((I f) 4)))) + (Int32.toInt64 ((I f) 5)))) + (Int32.toInt64 ((I f) 6)))), none, some (.int 7)]) dX1_addTo_74 rfl rfl (by decide) (Nat.le_of_ble_eq_true rfl) rfl rfl ?_
    refine ev_goto (tgt := 52) dX1_addTo_77 rfl ?_
    refine ev_iload (pc' := 54) dX1_addTo_52 rfl rfl ?_
    refine ev_bipush (pc' := 56) (v := 10) dX1_addTo_54 rfl kb_10 ?_
    refine ev_icmp_ge (tgt := 80) (pc' := 59) dX1_addTo_56 rfl rfl (fun h => absurd h (by decide)) (fun _ => ?_)
    refine ev_ldc2 (pc' := 62) cl_X1_75 dX1_addTo_59 rfl ?_
    refine ev_lload_n (pc' := 63) (i := 3) dX1_addTo_62 rfl rfl rfl ?_
    refine ev_lmul (pc' := 64) (v := 31 * ((31 * ((31 * ((31 * ((31 * ((31 * ((31 * ((31 * ((31 * ((31 * ((31 * ((31 * ((31 * ((31 * ((31 * ((31 * ((31 * ((31 * s) + ((L b) 0))) + ((L b) 1))) + ((L b) 2))) + ((L b) 3))) + ((L b) 5))) + ((L b) 6))) + ((L b) 7))) + ((L b) 10))) + ((L b) 11))) + ((L b) 15))) + (Int32.toInt64 ((I f) 0)))) + (Int32.toInt64 ((I f) 1)))) + (Int32.toInt64 ((I f) 2)))) + (Int32.toInt64 ((I f) 3)))) + (Int32.toInt64 ((I f) 4)))) + (Int32.toInt64 ((I f) 5)))) + (Int32.toInt64 ((I f) 6)))) dX1_addTo_63 rfl rfl ?_
    refine ev_aload_n (pc' := 65) (i := 0) dX1_addTo_64 rfl rfl rfl ?_
    refine ev_getR (pc' := 68) fo_X1_18 dX1_addTo_65 rfl ha rfl hf ?_
    refine ev_iload (pc' := 70) dX1_addTo_68 rfl rfl ?_
    refine ev_iald (pc' := 71) (j := 7) (v := (I f) 7) dX1_addTo_70 rfl hff rfl (Nat.le_of_ble_eq_true rfl) (Nat.le_of_ble_eq_true rfl) rfl ?_
    refine ev_i2l (pc' := 72) (v := Int32.toInt64 ((I f) 7)) dX1_addTo_71 rfl rfl ?_
    refine ev_ladd (pc' := 73) (v := (31 * ((31 * ((31 * ((31 * ((31 * ((31 * ((31 * ((31 * ((31 * ((31 * ((31 * ((31 * ((31 * ((31 * ((31 * ((31 * ((31 * ((31 * s) + ((L b) 0))) + ((L b) 1))) + ((L b) 2))) + ((L b) 3))) + ((L b) 5))) + ((L b) 6))) + ((L b) 7))) + ((L b) 10))) + ((L b) 11))) + ((L b) 15))) + (Int32.toInt64 ((I f) 0)))) + (Int32.toInt64 ((I f) 1)))) + (Int32.toInt64 ((I f) 2)))) + (Int32.toInt64 ((I f) 3)))) + (Int32.toInt64 ((I f) 4)))) + (Int32.toInt64 ((I f) 5)))) + (Int32.toInt64 ((I f) 6)))) + (Int32.toInt64 ((I f) 7))) dX1_addTo_72 rfl rfl ?_
    refine ev_lstore_n (pc' := 74) (i := 3) (lv' := [some (.ref a), some (.long s), none, some (.long ((31 * ((31 * ((31 * ((31 * ((31 * ((31 * ((31 * ((31 * ((31 * ((31 * ((31 * ((31 * ((31 * ((31 * ((31 * ((31 * ((31 * ((31 * s) + ((L b) 0))) + ((L b) 1))) + ((L b) 2))) + ((L b) 3))) + ((L b) 5))) + ((L b) 6))) + ((L b) 7))) + ((L b) 10))) + ((L b) 11))) + ((L b) 15))) + (Int32.toInt64 ((I f) 0)))) + (Int32.toInt64 ((I f) 1)))) + (Int32.toInt64 ((I f) 2)))) + (Int32.toInt64 ((I f) 3)))) + (Int32.toInt64 ((I f) 4)))) + (Int32.toInt64 ((I f) 5)))) + (Int32.toInt64 ((I f) 6)))) + (Int32.toInt64 ((I f) 7)))), none, some (.int 7)]) dX1_addTo_73 rfl rfl (Nat.le_of_ble_eq_true rfl) rfl rfl ?_
    refine ev_iinc (pc' := 77) (v := 8) (lv' := [some (.ref a), some (.long s), none, some (.long ((31 * ((31 * ((31 * ((31 * ((31 * ((31 * ((31 * ((31 * ((31 * ((31 * ((31 * ((31 * ((31 * ((31 * ((31 * ((31 * ((31 * ((31 * s) + ((L b) 0))) + ((L b) 1))) + ((L b) 2))) + ((L b) 3))) + ((L b) 5))) + ((L b) 6))) + ((L b) 7))) + ((L b) 10))) + ((L b) 11))) + ((L b) 15))) + (Int32.toInt64 ((I f) 0)))) + (Int32.toInt64 ((I f) 1)))) + (Int32.toInt64 ((I f) 2)))) + (Int32.toInt64 ((I f) 3)))) + (Int32.toInt64 ((I f) 4)))) + (Int32.toInt64 ((I f) 5)))) + (Int32.toInt64 ((I f) 6)))) + (Int32.toInt64 ((I f) 7)))), none, some (.int 8)]) dX1_addTo_74 rfl rfl (by decide) (Nat.le_of_ble_eq_true rfl) rfl rfl ?_
    refine ev_goto (tgt := 52) dX1_addTo_77 rfl ?_
    refine ev_iload (pc' := 54) dX1_addTo_52 rfl rfl ?_
    refine ev_bipush (pc' := 56) (v := 10) dX1_addTo_54 rfl kb_10 ?_
    refine ev_icmp_ge (tgt := 80) (pc' := 59) dX1_addTo_56 rfl rfl (fun h => absurd h (by decide)) (fun _ => ?_)
    refine ev_ldc2 (pc' := 62) cl_X1_75 dX1_addTo_59 rfl ?_
    refine ev_lload_n (pc' := 63) (i := 3) dX1_addTo_62 rfl rfl rfl ?_
    refine ev_lmul (pc' := 64) (v := 31 * ((31 * ((31 * ((31 * ((31 * ((31 * ((31 * ((31 * ((31 * ((31 * ((31 * ((31 * ((31 * ((31 * ((31 * ((31 * ((31 * ((31 * ((31 * s) + ((L b) 0))) + ((L b) 1))) + ((L b) 2))) + ((L b) 3))) + ((L b) 5))) + ((L b) 6))) + ((L b) 7))) + ((L b) 10))) + ((L b) 11))) + ((L b) 15))) + (Int32.toInt64 ((I f) 0)))) + (Int32.toInt64 ((I f) 1)))) + (Int32.toInt64 ((I f) 2)))) + (Int32.toInt64 ((I f) 3)))) + (Int32.toInt64 ((I f) 4)))) + (Int32.toInt64 ((I f) 5)))) + (Int32.toInt64 ((I f) 6)))) + (Int32.toInt64 ((I f) 7)))) dX1_addTo_63 rfl rfl ?_
    refine ev_aload_n (pc' := 65) (i := 0) dX1_addTo_64 rfl rfl rfl ?_
    refine ev_getR (pc' := 68) fo_X1_18 dX1_addTo_65 rfl ha rfl hf ?_
    refine ev_iload (pc' := 70) dX1_addTo_68 rfl rfl ?_
    refine ev_iald (pc' := 71) (j := 8) (v := (I f) 8) dX1_addTo_70 rfl hff rfl (Nat.le_of_ble_eq_true rfl) (Nat.le_of_ble_eq_true rfl) rfl ?_
    refine ev_i2l (pc' := 72) (v := Int32.toInt64 ((I f) 8)) dX1_addTo_71 rfl rfl ?_
    refine ev_ladd (pc' := 73) (v := (31 * ((31 * ((31 * ((31 * ((31 * ((31 * ((31 * ((31 * ((31 * ((31 * ((31 * ((31 * ((31 * ((31 * ((31 * ((31 * ((31 * ((31 * ((31 * s) + ((L b) 0))) + ((L b) 1))) + ((L b) 2))) + ((L b) 3))) + ((L b) 5))) + ((L b) 6))) + ((L b) 7))) + ((L b) 10))) + ((L b) 11))) + ((L b) 15))) + (Int32.toInt64 ((I f) 0)))) + (Int32.toInt64 ((I f) 1)))) + (Int32.toInt64 ((I f) 2)))) + (Int32.toInt64 ((I f) 3)))) + (Int32.toInt64 ((I f) 4)))) + (Int32.toInt64 ((I f) 5)))) + (Int32.toInt64 ((I f) 6)))) + (Int32.toInt64 ((I f) 7)))) + (Int32.toInt64 ((I f) 8))) dX1_addTo_72 rfl rfl ?_
    refine ev_lstore_n (pc' := 74) (i := 3) (lv' := [some (.ref a), some (.long s), none, some (.long ((31 * ((31 * ((31 * ((31 * ((31 * ((31 * ((31 * ((31 * ((31 * ((31 * ((31 * ((31 * ((31 * ((31 * ((31 * ((31 * ((31 * ((31 * ((31 * s) + ((L b) 0))) + ((L b) 1))) + ((L b) 2))) + ((L b) 3))) + ((L b) 5))) + ((L b) 6))) + ((L b) 7))) + ((L b) 10))) + ((L b) 11))) + ((L b) 15))) + (Int32.toInt64 ((I f) 0)))) + (Int32.toInt64 ((I f) 1)))) + (Int32.toInt64 ((I f) 2)))) + (Int32.toInt64 ((I f) 3)))) + (Int32.toInt64 ((I f) 4)))) + (Int32.toInt64 ((I f) 5)))) + (Int32.toInt64 ((I f) 6)))) + (Int32.toInt64 ((I f) 7)))) + (Int32.toInt64 ((I f) 8)))), none, some (.int 8)]) dX1_addTo_73 rfl rfl (Nat.le_of_ble_eq_true rfl) rfl rfl ?_
    refine ev_iinc (pc' := 77) (v := 9) (lv' := [some (.ref a), some (.long s), none, some (.long ((31 * ((31 * ((31 * ((31 * ((31 * ((31 * ((31 * ((31 * ((31 * ((31 * ((31 * ((31 * ((31 * ((31 * ((31 * ((31 * ((31 * ((31 * ((31 * s) + ((L b) 0))) + ((L b) 1))) + ((L b) 2))) + ((L b) 3))) + ((L b) 5))) + ((L b) 6))) + ((L b) 7))) + ((L b) 10))) + ((L b) 11))) + ((L b) 15))) + (Int32.toInt64 ((I f) 0)))) + (Int32.toInt64 ((I f) 1)))) + (Int32.toInt64 ((I f) 2)))) + (Int32.toInt64 ((I f) 3)))) + (Int32.toInt64 ((I f) 4)))) + (Int32.toInt64 ((I f) 5)))) + (Int32.toInt64 ((I f) 6)))) + (Int32.toInt64 ((I f) 7)))) + (Int32.toInt64 ((I f) 8)))), none, some (.int 9)]) dX1_addTo_74 rfl rfl (by decide) (Nat.le_of_ble_eq_true rfl) rfl rfl ?_
    refine ev_goto (tgt := 52) dX1_addTo_77 rfl ?_
    refine ev_iload (pc' := 54) dX1_addTo_52 rfl rfl ?_
    refine ev_bipush (pc' := 56) (v := 10) dX1_addTo_54 rfl kb_10 ?_
    refine ev_icmp_ge (tgt := 80) (pc' := 59) dX1_addTo_56 rfl rfl (fun h => absurd h (by decide)) (fun _ => ?_)
    refine ev_ldc2 (pc' := 62) cl_X1_75 dX1_addTo_59 rfl ?_
    refine ev_lload_n (pc' := 63) (i := 3) dX1_addTo_62 rfl rfl rfl ?_
    refine ev_lmul (pc' := 64) (v := 31 * ((31 * ((31 * ((31 * ((31 * ((31 * ((31 * ((31 * ((31 * ((31 * ((31 * ((31 * ((31 * ((31 * ((31 * ((31 * ((31 * ((31 * ((31 * ((31 * s) + ((L b) 0))) + ((L b) 1))) + ((L b) 2))) + ((L b) 3))) + ((L b) 5))) + ((L b) 6))) + ((L b) 7))) + ((L b) 10))) + ((L b) 11))) + ((L b) 15))) + (Int32.toInt64 ((I f) 0)))) + (Int32.toInt64 ((I f) 1)))) + (Int32.toInt64 ((I f) 2)))) + (Int32.toInt64 ((I f) 3)))) + (Int32.toInt64 ((I f) 4)))) + (Int32.toInt64 ((I f) 5)))) + (Int32.toInt64 ((I f) 6)))) + (Int32.toInt64 ((I f) 7)))) + (Int32.toInt64 ((I f) 8)))) dX1_addTo_63 rfl rfl ?_
    refine ev_aload_n (pc' := 65) (i := 0) dX1_addTo_64 rfl rfl rfl ?_
    refine ev_getR (pc' := 68) fo_X1_18 dX1_addTo_65 rfl ha rfl hf ?_
    refine ev_iload (pc' := 70) dX1_addTo_68 rfl rfl ?_
    refine ev_iald (pc' := 71) (j := 9) (v := (I f) 9) dX1_addTo_70 rfl hff rfl (Nat.le_of_ble_eq_true rfl) (Nat.le_of_ble_eq_true rfl) rfl ?_
    refine ev_i2l (pc' := 72) (v := Int32.toInt64 ((I f) 9)) dX1_addTo_71 rfl rfl ?_
    refine ev_ladd (pc' := 73) (v := (31 * ((31 * ((31 * ((31 * ((31 * ((31 * ((31 * ((31 * ((31 * ((31 * ((31 * ((31 * ((31 * ((31 * ((31 * ((31 * ((31 * ((31 * ((31 * ((31 * s) + ((L b) 0))) + ((L b) 1))) + ((L b) 2))) + ((L b) 3))) + ((L b) 5))) + ((L b) 6))) + ((L b) 7))) + ((L b) 10))) + ((L b) 11))) + ((L b) 15))) + (Int32.toInt64 ((I f) 0)))) + (Int32.toInt64 ((I f) 1)))) + (Int32.toInt64 ((I f) 2)))) + (Int32.toInt64 ((I f) 3)))) + (Int32.toInt64 ((I f) 4)))) + (Int32.toInt64 ((I f) 5)))) + (Int32.toInt64 ((I f) 6)))) + (Int32.toInt64 ((I f) 7)))) + (Int32.toInt64 ((I f) 8)))) + (Int32.toInt64 ((I f) 9))) dX1_addTo_72 rfl rfl ?_
    refine ev_lstore_n (pc' := 74) (i := 3) (lv' := [some (.ref a), some (.long s), none, some (.long ((31 * ((31 * ((31 * ((31 * ((31 * ((31 * ((31 * ((31 * ((31 * ((31 * ((31 * ((31 * ((31 * ((31 * ((31 * ((31 * ((31 * ((31 * ((31 * ((31 * s) + ((L b) 0))) + ((L b) 1))) + ((L b) 2))) + ((L b) 3))) + ((L b) 5))) + ((L b) 6))) + ((L b) 7))) + ((L b) 10))) + ((L b) 11))) + ((L b) 15))) + (Int32.toInt64 ((I f) 0)))) + (Int32.toInt64 ((I f) 1)))) + (Int32.toInt64 ((I f) 2)))) + (Int32.toInt64 ((I f) 3)))) + (Int32.toInt64 ((I f) 4)))) + (Int32.toInt64 ((I f) 5)))) + (Int32.toInt64 ((I f) 6)))) + (Int32.toInt64 ((I f) 7)))) + (Int32.toInt64 ((I f) 8)))) + (Int32.toInt64 ((I f) 9)))), none, some (.int 9)]) dX1_addTo_73 rfl rfl (Nat.le_of_ble_eq_true rfl) rfl rfl ?_
    refine ev_iinc (pc' := 77) (v := 10) (lv' := [some (.ref a), some (.long s), none, some (.long ((31 * ((31 * ((31 * ((31 * ((31 * ((31 * ((31 * ((31 * ((31 * ((31 * ((31 * ((31 * ((31 * ((31 * ((31 * ((31 * ((31 * ((31 * ((31 * ((31 * s) + ((L b) 0))) + ((L b) 1))) + ((L b) 2))) + ((L b) 3))) + ((L b) 5))) + ((L b) 6))) + ((L b) 7))) + ((L b) 10))) + ((L b) 11))) + ((L b) 15))) + (Int32.toInt64 ((I f) 0)))) + (Int32.toInt64 ((I f) 1)))) + (Int32.toInt64 ((I f) 2)))) + (Int32.toInt64 ((I f) 3)))) + (Int32.toInt64 ((I f) 4)))) + (Int32.toInt64 ((I f) 5)))) + (Int32.toInt64 ((I f) 6)))) + (Int32.toInt64 ((I f) 7)))) + (Int32.toInt64 ((I f) 8)))) + (Int32.toInt64 ((I f) 9)))), none, some (.int 10)]) dX1_addTo_74 rfl rfl (by decide) (Nat.le_of_ble_eq_true rfl) rfl rfl ?_
    refine ev_goto (tgt := 52) dX1_addTo_77 rfl ?_
    refine ev_iload (pc' := 54) dX1_addTo_52 rfl rfl ?_
    refine ev_bipush (pc' := 56) (v := 10) dX1_addTo_54 rfl kb_10 ?_
    refine ev_icmp_ge (tgt := 80) (pc' := 59) dX1_addTo_56 rfl rfl (fun _ => ?_) (fun h => absurd (by decide) h)
    refine ev_lload_n (pc' := 81) (i := 3) dX1_addTo_80 rfl rfl rfl ?_
    refine ev_lret dX1_addTo_81 rfl ⟨Nat.le_refl _, Nat.le_refl _⟩ ?_
    exact k1 c1
  · refine ev_ldc2 (pc' := 10) cl_X1_75 dX1_addTo_7 rfl ?_
    refine ev_lload_n (pc' := 11) (i := 1) dX1_addTo_10 rfl rfl rfl ?_
    refine ev_lmul (pc' := 12) (v := 31 * s) dX1_addTo_11 rfl rfl ?_
    refine ev_lconst (pc' := 13) (v := 1) dX1_addTo_12 rfl kl_1 ?_
    refine ev_lsub (pc' := 14) (v := (31 * s) - 1) dX1_addTo_13 rfl rfl ?_
    refine ev_lret dX1_addTo_14 rfl ⟨Nat.le_refl _, Nat.le_refl _⟩ ?_
    exact k0 c1
