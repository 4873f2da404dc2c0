theorem no_nat {i n : Nat} {m : Int32} (h : i < n) (hn : n < 2147483648) (hm : m = nI n) : ¬ ((nI i < 0) ∨ (¬ nI i < m)) := by
  subst hm
  exact fun q => q.elim (nI_pos (by omega)) (fun z => z (nI_lt h hn))
theorem L_at {L : ma_L} {b : Nat} {f : Nat → Int64} (h : L b = f) (j : Nat) : L b j = f j := congrFun h j
def cPn (t v : Nat → Int64) (i : Nat) : Int64 := (((0 + ((t ((4 * i) + 0)) * (v 0))) + ((t ((4 * i) + 1)) * (v 1))) + ((t ((4 * i) + 2)) * (v 2))) + ((t ((4 * i) + 3)) * (v 3))
set_option maxRecDepth 4000 in
theorem t_X4_poleNumber {g : ma_G} {Post : ma_P} {I : ma_I} {L : ma_L} (a b : Nat) (ha : HS a = (4, 6)) (hra : RF a 0 = b) (hb : HS b = (10, 16)) (i : Nat) (v : Nat) (hi : i < 4) (hv : HS v = (10, 4)) (k : Post (some (.long (cPn (L b) (L v) i))) HS I L RF 146) : CT g yX4_poleNumber cX4_poleNumber 6 (some .long) rX4_poleNumber [.ref a, .int (nI i), .ref v] Post HS I L RF 146 := by
  refine ct_of (lv := [some (.ref a), some (.int (nI i)), some (.ref v), none, none, none]) (by decide) (Nat.le_of_ble_eq_true rfl) rfl ?_
  refine ev_iload_n (pc' := 1) (i := 1) dX4_poleNumber_0 rfl rfl rfl ?_
  refine ev_callS (pc' := 4) (rm' := rX7_noLetter) (av := [.int (nI i)]) (rest := []) co_X4_25 cs_X7_noLetter dX4_poleNumber_1 rfl rfl rfl (Nat.le_of_ble_eq_true rfl) ⟨(Nat.le_of_ble_eq_true rfl), (Nat.le_of_ble_eq_true rfl)⟩ ⟨(Nat.le_of_ble_eq_true rfl), (Nat.le_of_ble_eq_true rfl)⟩ ?_
  refine t_X7_noLetter (nI i) ?_
  refine ev_eqi (w := 0) (if_neg (no_nat (n := 4) (by omega) (by omega) rfl)) ?_
  refine ev_if_ne (tgt := 13) (pc' := 7) dX4_poleNumber_4 rfl rfl (fun h => absurd (by decide) h) (fun _ => ?_)
  refine ev_aload_n (pc' := 8) (i := 2) dX4_poleNumber_7 rfl rfl rfl ?_
  refine ev_alen (pc' := 9) (v := 4) dX4_poleNumber_8 rfl hv (by decide) rfl ?_
  refine ev_iconst (pc' := 10) (v := 4) dX4_poleNumber_9 rfl ki_4 ?_
  refine ev_icmp_ge (tgt := 15) (pc' := 13) dX4_poleNumber_10 rfl rfl (fun _ => ?_) (fun h => absurd (by decide) h)
  refine ev_lconst (pc' := 16) (v := 0) dX4_poleNumber_15 rfl kl_0 ?_
  refine ev_lstore_n (pc' := 17) (i := 3) (lv' := [some (.ref a), some (.int (nI i)), some (.ref v), some (.long 0), none, none]) dX4_poleNumber_16 rfl rfl (Nat.le_of_ble_eq_true rfl) rfl rfl ?_
  refine ev_iconst (pc' := 18) (v := 0) dX4_poleNumber_17 rfl ki_0 ?_
  refine ev_istore (pc' := 20) (lv' := [some (.ref a), some (.int (nI i)), some (.ref v), some (.long 0), none, some (.int 0)]) dX4_poleNumber_18 rfl (Nat.le_of_ble_eq_true rfl) rfl rfl ?_
  refine ev_iload (pc' := 22) dX4_poleNumber_20 rfl rfl ?_
  refine ev_iconst (pc' := 23) (v := 4) dX4_poleNumber_22 rfl ki_4 ?_
  refine ev_icmp_ge (tgt := 51) (pc' := 26) dX4_poleNumber_23 rfl rfl (fun h => absurd h (by decide)) (fun _ => ?_)
  refine ev_lload_n (pc' := 27) (i := 3) dX4_poleNumber_26 rfl rfl rfl ?_
  refine ev_aload_n (pc' := 28) (i := 0) dX4_poleNumber_27 rfl rfl rfl ?_
  refine ev_getR (pc' := 31) fo_X4_9 dX4_poleNumber_28 rfl ha rfl hra ?_
  refine ev_iconst (pc' := 32) (v := 4) dX4_poleNumber_31 rfl ki_4 ?_
  refine ev_iload_n (pc' := 33) (i := 1) dX4_poleNumber_32 rfl rfl rfl ?_
  refine ev_imul (pc' := 34) (v := nI (4 * i)) dX4_poleNumber_33 rfl (pk_mul 4 i) ?_
  refine ev_iload (pc' := 36) dX4_poleNumber_34 rfl rfl ?_
  refine ev_iadd (pc' := 37) (v := nI ((4 * i) + 0)) dX4_poleNumber_36 rfl (nI_add (4 * i) 0) ?_
  refine ev_lald (pc' := 38) (j := (4 * i) + 0) (v := (L b) ((4 * i) + 0)) dX4_poleNumber_37 rfl hb rfl (by omega) (Nat.le_of_ble_eq_true rfl) rfl ?_
  refine ev_aload_n (pc' := 39) (i := 2) dX4_poleNumber_38 rfl rfl rfl ?_
  refine ev_iload (pc' := 41) dX4_poleNumber_39 rfl rfl ?_
  refine ev_lald (pc' := 42) (j := 0) (v := (L v) 0) dX4_poleNumber_41 rfl hv rfl (Nat.le_of_ble_eq_true rfl) (Nat.le_of_ble_eq_true rfl) rfl ?_
  refine ev_lmul (pc' := 43) (v := ((L b) ((4 * i) + 0)) * ((L v) 0)) dX4_poleNumber_42 rfl rfl ?_
  refine ev_ladd (pc' := 44) (v := 0 + (((L b) ((4 * i) + 0)) * ((L v) 0))) dX4_poleNumber_43 rfl rfl ?_
  refine ev_lstore_n (pc' := 45) (i := 3) (lv' := [some (.ref a), some (.int (nI i)), some (.ref v), some (.long (0 + (((L b) ((4 * i) + 0)) * ((L v) 0)))), none, some (.int 0)]) dX4_poleNumber_44 rfl rfl (Nat.le_of_ble_eq_true rfl) rfl rfl ?_
  refine ev_iinc (pc' := 48) (v := 1) (lv' := [some (.ref a), some (.int (nI i)), some (.ref v), some (.long (0 + (((L b) ((4 * i) + 0)) * ((L v) 0)))), none, some (.int 1)]) dX4_poleNumber_45 rfl rfl (by decide) (Nat.le_of_ble_eq_true rfl) rfl rfl ?_
  refine ev_goto (tgt := 20) dX4_poleNumber_48 rfl ?_
  refine ev_iload (pc' := 22) dX4_poleNumber_20 rfl rfl ?_
  refine ev_iconst (pc' := 23) (v := 4) dX4_poleNumber_22 rfl ki_4 ?_
  refine ev_icmp_ge (tgt := 51) (pc' := 26) dX4_poleNumber_23 rfl rfl (fun h => absurd h (by decide)) (fun _ => ?_)
  refine ev_lload_n (pc' := 27) (i := 3) dX4_poleNumber_26 rfl rfl rfl ?_
  refine ev_aload_n (pc' := 28) (i := 0) dX4_poleNumber_27 rfl rfl rfl ?_
  refine ev_getR (pc' := 31) fo_X4_9 dX4_poleNumber_28 rfl ha rfl hra ?_
  refine ev_iconst (pc' := 32) (v := 4) dX4_poleNumber_31 rfl ki_4 ?_
  refine ev_iload_n (pc' := 33) (i := 1) dX4_poleNumber_32 rfl rfl rfl ?_
  refine ev_imul (pc' := 34) (v := nI (4 * i)) dX4_poleNumber_33 rfl (pk_mul 4 i) ?_
  refine ev_iload (pc' := 36) dX4_poleNumber_34 rfl rfl ?_
  refine ev_iadd (pc' := 37) (v := nI ((4 * i) + 1)) dX4_poleNumber_36 rfl (nI_add (4 * i) 1) ?_
  refine ev_lald (pc' := 38) (j := (4 * i) + 1) (v := (L b) ((4 * i) + 1)) dX4_poleNumber_37 rfl hb rfl (by omega) (Nat.le_of_ble_eq_true rfl) rfl ?_
  refine ev_aload_n (pc' := 39) (i := 2) dX4_poleNumber_38 rfl rfl rfl ?_
  refine ev_iload (pc' := 41) dX4_poleNumber_39 rfl rfl ?_
  refine ev_lald (pc' := 42) (j := 1) (v := (L v) 1) dX4_poleNumber_41 rfl hv rfl (Nat.le_of_ble_eq_true rfl) (Nat.le_of_ble_eq_true rfl) rfl ?_
  refine ev_lmul (pc' := 43) (v := ((L b) ((4 * i) + 1)) * ((L v) 1)) dX4_poleNumber_42 rfl rfl ?_
  refine ev_ladd (pc' := 44) (v := (0 + (((L b) ((4 * i) + 0)) * ((L v) 0))) + (((L b) ((4 * i) + 1)) * ((L v) 1))) dX4_poleNumber_43 rfl rfl ?_
  refine ev_lstore_n (pc' := 45) (i := 3) (lv' := [some (.ref a), some (.int (nI i)), some (.ref v), some (.long ((0 + (((L b) ((4 * i) + 0)) * ((L v) 0))) + (((L b) ((4 * i) + 1)) * ((L v) 1)))), none, some (.int 1)]) dX4_poleNumber_44 rfl rfl (Nat.le_of_ble_eq_true rfl) rfl rfl ?_
  refine ev_iinc (pc' := 48) (v := 2) (lv' := [some (.ref a), some (.int (nI i)), some (.ref v), some (.long ((0 + (((L b) ((4 * i) + 0)) * ((L v) 0))) + (((L b) ((4 * i) + 1)) * ((L v) 1)))), none, some (.int 2)]) dX4_poleNumber_45 rfl rfl (by decide) (Nat.le_of_ble_eq_true rfl) rfl rfl ?_
  refine ev_goto (tgt := 20) dX4_poleNumber_48 rfl ?_
  refine ev_iload (pc' := 22) dX4_poleNumber_20 rfl rfl ?_
  refine ev_iconst (pc' := 23) (v := 4) dX4_poleNumber_22 rfl ki_4 ?_
  refine ev_icmp_ge (tgt := 51) (pc' := 26) dX4_poleNumber_23 rfl rfl (fun h => absurd h (by decide)) (fun _ => ?_)
  refine ev_lload_n (pc' := 27) (i := 3) dX4_poleNumber_26 rfl rfl rfl ?_
  refine ev_aload_n (pc' := 28) (i := 0) dX4_poleNumber_27 rfl rfl rfl ?_
  refine ev_getR (pc' := 31) fo_X4_9 dX4_poleNumber_28 rfl ha rfl hra ?_
  refine ev_iconst (pc' := 32) (v := 4) dX4_poleNumber_31 rfl ki_4 ?_
  refine ev_iload_n (pc' := 33) (i := 1) dX4_poleNumber_32 rfl rfl rfl ?_
  refine ev_imul (pc' := 34) (v := nI (4 * i)) dX4_poleNumber_33 rfl (pk_mul 4 i) ?_
  refine ev_iload (pc' := 36) dX4_poleNumber_34 rfl rfl ?_
  refine ev_iadd (pc' := 37) (v := nI ((4 * i) + 2)) dX4_poleNumber_36 rfl (nI_add (4 * i) 2) ?_
  refine ev_lald (pc' := 38) (j := (4 * i) + 2) (v := (L b) ((4 * i) + 2)) dX4_poleNumber_37 rfl hb rfl (by omega) (Nat.le_of_ble_eq_true rfl) rfl ?_
  refine ev_aload_n (pc' := 39) (i := 2) dX4_poleNumber_38 rfl rfl rfl ?_
  refine ev_iload (pc' := 41) dX4_poleNumber_39 rfl rfl ?_
  refine ev_lald (pc' := 42) (j := 2) (v := (L v) 2) dX4_poleNumber_41 rfl hv rfl (Nat.le_of_ble_eq_true rfl) (Nat.le_of_ble_eq_true rfl) rfl ?_
  refine ev_lmul (pc' := 43) (v := ((L b) ((4 * i) + 2)) * ((L v) 2)) dX4_poleNumber_42 rfl rfl ?_
  refine ev_ladd (pc' := 44) (v := ((0 + (((L b) ((4 * i) + 0)) * ((L v) 0))) + (((L b) ((4 * i) + 1)) * ((L v) 1))) + (((L b) ((4 * i) + 2)) * ((L v) 2))) dX4_poleNumber_43 rfl rfl ?_
  refine ev_lstore_n (pc' := 45) (i := 3) (lv' := [some (.ref a), some (.int (nI i)), some (.ref v), some (.long (((0 + (((L b) ((4 * i) + 0)) * ((L v) 0))) + (((L b) ((4 * i) + 1)) * ((L v) 1))) + (((L b) ((4 * i) + 2)) * ((L v) 2)))), none, some (.int 2)]) dX4_poleNumber_44 rfl rfl (Nat.le_of_ble_eq_true rfl) rfl rfl ?_
  refine ev_iinc (pc' := 48) (v := 3) (lv' := [some (.ref a), some (.int (nI i)), some (.ref v), some (.long (((0 + (((L b) ((4 * i) + 0)) * ((L v) 0))) + (((L b) ((4 * i) + 1)) * ((L v) 1))) + (((L b) ((4 * i) + 2)) * ((L v) 2)))), none, some (.int 3)]) dX4_poleNumber_45 rfl rfl (by decide) (Nat.le_of_ble_eq_true rfl) rfl rfl ?_
  refine ev_goto (tgt := 20) dX4_poleNumber_48 rfl ?_
  refine ev_iload (pc' := 22) dX4_poleNumber_20 rfl rfl ?_
  refine ev_iconst (pc' := 23) (v := 4) dX4_poleNumber_22 rfl ki_4 ?_
  refine ev_icmp_ge (tgt := 51) (pc' := 26) dX4_poleNumber_23 rfl rfl (fun h => absurd h (by decide)) (fun _ => ?_)
  refine ev_lload_n (pc' := 27) (i := 3) dX4_poleNumber_26 rfl rfl rfl ?_
  refine ev_aload_n (pc' := 28) (i := 0) dX4_poleNumber_27 rfl rfl rfl ?_
  refine ev_getR (pc' := 31) fo_X4_9 dX4_poleNumber_28 rfl ha rfl hra ?_
  refine ev_iconst (pc' := 32) (v := 4) dX4_poleNumber_31 rfl ki_4 ?_
  refine ev_iload_n (pc' := 33) (i := 1) dX4_poleNumber_32 rfl rfl rfl ?_
  refine ev_imul (pc' := 34) (v := nI (4 * i)) dX4_poleNumber_33 rfl (pk_mul 4 i) ?_
  refine ev_iload (pc' := 36) dX4_poleNumber_34 rfl rfl ?_
  refine ev_iadd (pc' := 37) (v := nI ((4 * i) + 3)) dX4_poleNumber_36 rfl (nI_add (4 * i) 3) ?_
  refine ev_lald (pc' := 38) (j := (4 * i) + 3) (v := (L b) ((4 * i) + 3)) dX4_poleNumber_37 rfl hb rfl (by omega) (Nat.le_of_ble_eq_true rfl) rfl ?_
  refine ev_aload_n (pc' := 39) (i := 2) dX4_poleNumber_38 rfl rfl rfl ?_
  refine ev_iload (pc' := 41) dX4_poleNumber_39 rfl rfl ?_
  refine ev_lald (pc' := 42) (j := 3) (v := (L v) 3) dX4_poleNumber_41 rfl hv rfl (Nat.le_of_ble_eq_true rfl) (Nat.le_of_ble_eq_true rfl) rfl ?_
  refine ev_lmul (pc' := 43) (v := ((L b) ((4 * i) + 3)) * ((L v) 3)) dX4_poleNumber_42 rfl rfl ?_
  refine ev_ladd (pc' := 44) (v := (((0 + (((L b) ((4 * i) + 0)) * ((L v) 0))) + (((L b) ((4 * i) + 1)) * ((L v) 1))) + (((L b) ((4 * i) + 2)) * ((L v) 2))) + (((L b) ((4 * i) + 3)) * ((L v) 3))) dX4_poleNumber_43 rfl rfl ?_
  refine ev_lstore_n (pc' := 45) (i := 3) (lv' := [some (.ref a), some (.int (nI i)), some (.ref v), some (.long ((((0 + (((L b) ((4 * i) + 0)) * ((L v) 0))) + (((L b) ((4 * i) + 1)) * ((L v) 1))) + (((L b) ((4 * i) + 2)) * ((L v) 2))) + (((L b) ((4 * i) + 3)) * ((L v) 3)))), none, some (.int 3)]) dX4_poleNumber_44 rfl rfl (Nat.le_of_ble_eq_true rfl) rfl rfl ?_
  refine ev_iinc (pc' := 48) (v := 4) (lv' := [some (.ref a), some (.int (nI i)), some (.ref v), some (.long ((((0 + (((L b) ((4 * i) + 0)) * ((L v) 0))) + (((L b) ((4 * i) + 1)) * ((L v) 1))) + (((L b) ((4 * i) + 2)) * ((L v) 2))) + (((L b) ((4 * i) + 3)) * ((L v) 3)))), none, some (.int 4)]) dX4_poleNumber_45 rfl rfl (by decide) (Nat.le_of_ble_eq_true rfl) rfl rfl ?_
  refine ev_goto (tgt := 20) dX4_poleNumber_48 rfl ?_
  refine ev_iload (pc' := 22) dX4_poleNumber_20 rfl rfl ?_
  refine ev_iconst (pc' := 23) (v := 4) dX4_poleNumber_22 rfl ki_4 ?_
  refine ev_icmp_ge (tgt := 51) (pc' := 26) dX4_poleNumber_23 rfl rfl (fun _ => ?_) (fun h => absurd (by decide) h)
  refine ev_lload_n (pc' := 52) (i := 3) dX4_poleNumber_51 rfl rfl rfl ?_
  refine ev_lret dX4_poleNumber_52 rfl ⟨Nat.le_refl _, Nat.le_refl _⟩ ?_
  exact k
def cPr (t u v : Nat → Int64) : Int64 := (((0 + ((u 0) * (cPn t v 0))) + ((u 1) * (cPn t v 1))) + ((u 2) * (cPn t v 2))) + ((u 3) * (cPn t v 3))
set_option maxRecDepth 4000 in
theorem t_X4_product {g : ma_G} {Post : ma_P} {I : ma_I} {L : ma_L} (a b : Nat) (ha : HS a = (4, 6)) (hra : RF a 0 = b) (hb : HS b = (10, 16)) (u : Nat) (v : Nat) (hu : HS u = (10, 4)) (hv : HS v = (10, 4)) (k : Post (some (.long (cPr (L b) (L u) (L v)))) HS I L RF 146) : CT g yX4_product cX4_product 6 (some .long) rX4_product [.ref a, .ref u, .ref v] Post HS I L RF 146 := by
  refine ct_of (lv := [some (.ref a), some (.ref u), some (.ref v), none, none, none]) (by decide) (Nat.le_of_ble_eq_true rfl) rfl ?_
  refine ev_lconst (pc' := 1) (v := 0) dX4_product_0 rfl kl_0 ?_
  refine ev_lstore_n (pc' := 2) (i := 3) (lv' := [some (.ref a), some (.ref u), some (.ref v), some (.long 0), none, none]) dX4_product_1 rfl rfl (Nat.le_of_ble_eq_true rfl) rfl rfl ?_
  refine ev_iconst (pc' := 3) (v := 0) dX4_product_2 rfl ki_0 ?_
  refine ev_istore (pc' := 5) (lv' := [some (.ref a), some (.ref u), some (.ref v), some (.long 0), none, some (.int 0)]) dX4_product_3 rfl (Nat.le_of_ble_eq_true rfl) rfl rfl ?_
  refine ev_iload (pc' := 7) dX4_product_5 rfl rfl ?_
  refine ev_iconst (pc' := 8) (v := 4) dX4_product_7 rfl ki_4 ?_
  refine ev_icmp_ge (tgt := 39) (pc' := 11) dX4_product_8 rfl rfl (fun h => absurd h (by decide)) (fun _ => ?_)
  refine ev_iload (pc' := 13) dX4_product_11 rfl rfl ?_
  refine ev_aload_n (pc' := 14) (i := 1) dX4_product_13 rfl rfl rfl ?_
  refine ev_alen (pc' := 15) (v := 4) dX4_product_14 rfl hu (by decide) rfl ?_
  refine ev_icmp_ge (tgt := 39) (pc' := 18) dX4_product_15 rfl rfl (fun h => absurd h (by decide)) (fun _ => ?_)
  refine ev_lload_n (pc' := 19) (i := 3) dX4_product_18 rfl rfl rfl ?_
  refine ev_aload_n (pc' := 20) (i := 1) dX4_product_19 rfl rfl rfl ?_
  refine ev_iload (pc' := 22) dX4_product_20 rfl rfl ?_
  refine ev_lald (pc' := 23) (j := 0) (v := (L u) 0) dX4_product_22 rfl hu rfl (Nat.le_of_ble_eq_true rfl) (Nat.le_of_ble_eq_true rfl) rfl ?_
  refine ev_aload_n (pc' := 24) (i := 0) dX4_product_23 rfl rfl rfl ?_
  refine ev_iload (pc' := 26) dX4_product_24 rfl rfl ?_
  refine ev_aload_n (pc' := 27) (i := 2) dX4_product_26 rfl rfl rfl ?_
  refine ev_callV (pc' := 30) (rm' := rX4_poleNumber) (b := a) (av := [.int 0, .ref v]) (rest := [.long ((L u) 0), .long 0]) co_X4_37 ci_X4_poleNumber cv_X4_poleNumber dX4_product_27 rfl ha hb_X4 rfl rfl (Nat.le_of_ble_eq_true rfl) ⟨(Nat.le_of_ble_eq_true rfl), (Nat.le_of_ble_eq_true rfl)⟩ ⟨(Nat.le_of_ble_eq_true rfl), (Nat.le_of_ble_eq_true rfl)⟩ ?_
  refine t_X4_poleNumber a b ha hra hb 0 v (by omega) hv ?_
  refine ev_lmul (pc' := 31) (v := ((L u) 0) * (cPn (L b) (L v) 0)) dX4_product_30 rfl rfl ?_
  refine ev_ladd (pc' := 32) (v := 0 + (((L u) 0) * (cPn (L b) (L v) 0))) dX4_product_31 rfl rfl ?_
  refine ev_lstore_n (pc' := 33) (i := 3) (lv' := [some (.ref a), some (.ref u), some (.ref v), some (.long (0 + (((L u) 0) * (cPn (L b) (L v) 0)))), none, some (.int 0)]) dX4_product_32 rfl rfl (Nat.le_of_ble_eq_true rfl) rfl rfl ?_
  refine ev_iinc (pc' := 36) (v := 1) (lv' := [some (.ref a), some (.ref u), some (.ref v), some (.long (0 + (((L u) 0) * (cPn (L b) (L v) 0)))), none, some (.int 1)]) dX4_product_33 rfl rfl (by decide) (Nat.le_of_ble_eq_true rfl) rfl rfl ?_
  refine ev_goto (tgt := 5) dX4_product_36 rfl ?_
  refine ev_iload (pc' := 7) dX4_product_5 rfl rfl ?_
  refine ev_iconst (pc' := 8) (v := 4) dX4_product_7 rfl ki_4 ?_
  refine ev_icmp_ge (tgt := 39) (pc' := 11) dX4_product_8 rfl rfl (fun h => absurd h (by decide)) (fun _ => ?_)
  refine ev_iload (pc' := 13) dX4_product_11 rfl rfl ?_
  refine ev_aload_n (pc' := 14) (i := 1) dX4_product_13 rfl rfl rfl ?_
  refine ev_alen (pc' := 15) (v := 4) dX4_product_14 rfl hu (by decide) rfl ?_
  refine ev_icmp_ge (tgt := 39) (pc' := 18) dX4_product_15 rfl rfl (fun h => absurd h (by decide)) (fun _ => ?_)
  refine ev_lload_n (pc' := 19) (i := 3) dX4_product_18 rfl rfl rfl ?_
  refine ev_aload_n (pc' := 20) (i := 1) dX4_product_19 rfl rfl rfl ?_
  refine ev_iload (pc' := 22) dX4_product_20 rfl rfl ?_
  refine ev_lald (pc' := 23) (j := 1) (v := (L u) 1) dX4_product_22 rfl hu rfl (Nat.le_of_ble_eq_true rfl) (Nat.le_of_ble_eq_true rfl) rfl ?_
  refine ev_aload_n (pc' := 24) (i := 0) dX4_product_23 rfl rfl rfl ?_
  refine ev_iload (pc' := 26) dX4_product_24 rfl rfl ?_
  refine ev_aload_n (pc' := 27) (i := 2) dX4_product_26 rfl rfl rfl ?_
  refine ev_callV (pc' := 30) (rm' := rX4_poleNumber) (b := a) (av := [.int 1, .ref v]) (rest := [.long ((L u) 1), .long (0 + (((L u) 0) * (cPn (L b) (L v) 0)))]) co_X4_37 ci_X4_poleNumber cv_X4_poleNumber dX4_product_27 rfl ha hb_X4 rfl rfl (Nat.le_of_ble_eq_true rfl) ⟨(Nat.le_of_ble_eq_true rfl), (Nat.le_of_ble_eq_true rfl)⟩ ⟨(Nat.le_of_ble_eq_true rfl), (Nat.le_of_ble_eq_true rfl)⟩ ?_
  refine t_X4_poleNumber a b ha hra hb 1 v (by omega) hv ?_
  refine ev_lmul (pc' := 31) (v := ((L u) 1) * (cPn (L b) (L v) 1)) dX4_product_30 rfl rfl ?_
  refine ev_ladd (pc' := 32) (v := (0 + (((L u) 0) * (cPn (L b) (L v) 0))) + (((L u) 1) * (cPn (L b) (L v) 1))) dX4_product_31 rfl rfl ?_
  refine ev_lstore_n (pc' := 33) (i := 3) (lv' := [some (.ref a), some (.ref u), some (.ref v), some (.long ((0 + (((L u) 0) * (cPn (L b) (L v) 0))) + (((L u) 1) * (cPn (L b) (L v) 1)))), none, some (.int 1)]) dX4_product_32 rfl rfl (Nat.le_of_ble_eq_true rfl) rfl rfl ?_
  refine ev_iinc (pc' := 36) (v := 2) (lv' := [some (.ref a), some (.ref u), some (.ref v), some (.long ((0 + (((L u) 0) * (cPn (L b) (L v) 0))) + (((L u) 1) * (cPn (L b) (L v) 1)))), none, some (.int 2)]) dX4_product_33 rfl rfl (by decide) (Nat.le_of_ble_eq_true rfl) rfl rfl ?_
  refine ev_goto (tgt := 5) dX4_product_36 rfl ?_
  refine ev_iload (pc' := 7) dX4_product_5 rfl rfl ?_
  refine ev_iconst (pc' := 8) (v := 4) dX4_product_7 rfl ki_4 ?_
  refine ev_icmp_ge (tgt := 39) (pc' := 11) dX4_product_8 rfl rfl (fun h => absurd h (by decide)) (fun _ => ?_)
  refine ev_iload (pc' := 13) dX4_product_11 rfl rfl ?_
  refine ev_aload_n (pc' := 14) (i := 1) dX4_product_13 rfl rfl rfl ?_
  refine ev_alen (pc' := 15) (v := 4) dX4_product_14 rfl hu (by decide) rfl ?_
  refine ev_icmp_ge (tgt := 39) (pc' := 18) dX4_product_15 rfl rfl (fun h => absurd h (by decide)) (fun _ => ?_)
  refine ev_lload_n (pc' := 19) (i := 3) dX4_product_18 rfl rfl rfl ?_
  refine ev_aload_n (pc' := 20) (i := 1) dX4_product_19 rfl rfl rfl ?_
  refine ev_iload (pc' := 22) dX4_product_20 rfl rfl ?_
  refine ev_lald (pc' := 23) (j := 2) (v := (L u) 2) dX4_product_22 rfl hu rfl (Nat.le_of_ble_eq_true rfl) (Nat.le_of_ble_eq_true rfl) rfl ?_
  refine ev_aload_n (pc' := 24) (i := 0) dX4_product_23 rfl rfl rfl ?_
  refine ev_iload (pc' := 26) dX4_product_24 rfl rfl ?_
  refine ev_aload_n (pc' := 27) (i := 2) dX4_product_26 rfl rfl rfl ?_
  refine ev_callV (pc' := 30) (rm' := rX4_poleNumber) (b := a) (av := [.int 2, .ref v]) (rest := [.long ((L u) 2), .long ((0 + (((L u) 0) * (cPn (L b) (L v) 0))) + (((L u) 1) * (cPn (L b) (L v) 1)))]) co_X4_37 ci_X4_poleNumber cv_X4_poleNumber dX4_product_27 rfl ha hb_X4 rfl rfl (Nat.le_of_ble_eq_true rfl) ⟨(Nat.le_of_ble_eq_true rfl), (Nat.le_of_ble_eq_true rfl)⟩ ⟨(Nat.le_of_ble_eq_true rfl), (Nat.le_of_ble_eq_true rfl)⟩ ?_
  refine t_X4_poleNumber a b ha hra hb 2 v (by omega) hv ?_
  refine ev_lmul (pc' := 31) (v := ((L u) 2) * (cPn (L b) (L v) 2)) dX4_product_30 rfl rfl ?_
  refine ev_ladd (pc' := 32) (v := ((0 + (((L u) 0) * (cPn (L b) (L v) 0))) + (((L u) 1) * (cPn (L b) (L v) 1))) + (((L u) 2) * (cPn (L b) (L v) 2))) dX4_product_31 rfl rfl ?_
  refine ev_lstore_n (pc' := 33) (i := 3) (lv' := [some (.ref a), some (.ref u), some (.ref v), some (.long (((0 + (((L u) 0) * (cPn (L b) (L v) 0))) + (((L u) 1) * (cPn (L b) (L v) 1))) + (((L u) 2) * (cPn (L b) (L v) 2)))), none, some (.int 2)]) dX4_product_32 rfl rfl (Nat.le_of_ble_eq_true rfl) rfl rfl ?_
  refine ev_iinc (pc' := 36) (v := 3) (lv' := [some (.ref a), some (.ref u), some (.ref v), some (.long (((0 + (((L u) 0) * (cPn (L b) (L v) 0))) + (((L u) 1) * (cPn (L b) (L v) 1))) + (((L u) 2) * (cPn (L b) (L v) 2)))), none, some (.int 3)]) dX4_product_33 rfl rfl (by decide) (Nat.le_of_ble_eq_true rfl) rfl rfl ?_
  refine ev_goto (tgt := 5) dX4_product_36 rfl ?_
  refine ev_iload (pc' := 7) dX4_product_5 rfl rfl ?_
  refine ev_iconst (pc' := 8) (v := 4) dX4_product_7 rfl ki_4 ?_
  refine ev_icmp_ge (tgt := 39) (pc' := 11) dX4_product_8 rfl rfl (fun h => absurd h (by decide)) (fun _ => ?_)
  refine ev_iload (pc' := 13) dX4_product_11 rfl rfl ?_
  refine ev_aload_n (pc' := 14) (i := 1) dX4_product_13 rfl rfl rfl ?_
  refine ev_alen (pc' := 15) (v := 4) dX4_product_14 rfl hu (by decide) rfl ?_
  refine ev_icmp_ge (tgt := 39) (pc' := 18) dX4_product_15 rfl rfl (fun h => absurd h (by decide)) (fun _ => ?_)
  refine ev_lload_n (pc' := 19) (i := 3) dX4_product_18 rfl rfl rfl ?_
  refine ev_aload_n (pc' := 20) (i := 1) dX4_product_19 rfl rfl rfl ?_
  refine ev_iload (pc' := 22) dX4_product_20 rfl rfl ?_
  refine ev_lald (pc' := 23) (j := 3) (v := (L u) 3) dX4_product_22 rfl hu rfl (Nat.le_of_ble_eq_true rfl) (Nat.le_of_ble_eq_true rfl) rfl ?_
  refine ev_aload_n (pc' := 24) (i := 0) dX4_product_23 rfl rfl rfl ?_
  refine ev_iload (pc' := 26) dX4_product_24 rfl rfl ?_
  refine ev_aload_n (pc' := 27) (i := 2) dX4_product_26 rfl rfl rfl ?_
  refine ev_callV (pc' := 30) (rm' := rX4_poleNumber) (b := a) (av := [.int 3, .ref v]) (rest := [.long ((L u) 3), .long (((0 + (((L u) 0) * (cPn (L b) (L v) 0))) + (((L u) 1) * (cPn (L b) (L v) 1))) + (((L u) 2) * (cPn (L b) (L v) 2)))]) co_X4_37 ci_X4_poleNumber cv_X4_poleNumber dX4_product_27 rfl ha hb_X4 rfl rfl (Nat.le_of_ble_eq_true rfl) ⟨(Nat.le_of_ble_eq_true rfl), (Nat.le_of_ble_eq_true rfl)⟩ ⟨(Nat.le_of_ble_eq_true rfl), (Nat.le_of_ble_eq_true rfl)⟩ ?_
  refine t_X4_poleNumber a b ha hra hb 3 v (by omega) hv ?_
  refine ev_lmul (pc' := 31) (v := ((L u) 3) * (cPn (L b) (L v) 3)) dX4_product_30 rfl rfl ?_
  refine ev_ladd (pc' := 32) (v := (((0 + (((L u) 0) * (cPn (L b) (L v) 0))) + (((L u) 1) * (cPn (L b) (L v) 1))) + (((L u) 2) * (cPn (L b) (L v) 2))) + (((L u) 3) * (cPn (L b) (L v) 3))) dX4_product_31 rfl rfl ?_
  refine ev_lstore_n (pc' := 33) (i := 3) (lv' := [some (.ref a), some (.ref u), some (.ref v), some (.long ((((0 + (((L u) 0) * (cPn (L b) (L v) 0))) + (((L u) 1) * (cPn (L b) (L v) 1))) + (((L u) 2) * (cPn (L b) (L v) 2))) + (((L u) 3) * (cPn (L b) (L v) 3)))), none, some (.int 3)]) dX4_product_32 rfl rfl (Nat.le_of_ble_eq_true rfl) rfl rfl ?_
  refine ev_iinc (pc' := 36) (v := 4) (lv' := [some (.ref a), some (.ref u), some (.ref v), some (.long ((((0 + (((L u) 0) * (cPn (L b) (L v) 0))) + (((L u) 1) * (cPn (L b) (L v) 1))) + (((L u) 2) * (cPn (L b) (L v) 2))) + (((L u) 3) * (cPn (L b) (L v) 3)))), none, some (.int 4)]) dX4_product_33 rfl rfl (by decide) (Nat.le_of_ble_eq_true rfl) rfl rfl ?_
  refine ev_goto (tgt := 5) dX4_product_36 rfl ?_
  refine ev_iload (pc' := 7) dX4_product_5 rfl rfl ?_
  refine ev_iconst (pc' := 8) (v := 4) dX4_product_7 rfl ki_4 ?_
  refine ev_icmp_ge (tgt := 39) (pc' := 11) dX4_product_8 rfl rfl (fun _ => ?_) (fun h => absurd (by decide) h)
  refine ev_lload_n (pc' := 40) (i := 3) dX4_product_39 rfl rfl rfl ?_
  refine ev_lret dX4_product_40 rfl ⟨Nat.le_refl _, Nat.le_refl _⟩ ?_
  exact k
def cPl (t v : Nat → Int64) : Prop := cPn t v 0 = 0 ∧ cPn t v 1 = 0 ∧ cPn t v 2 = 0 ∧ cPn t v 3 = 0
set_option maxRecDepth 4000 in
theorem t_X4_isPoleless {g : ma_G} {Post : ma_P} {I : ma_I} {L : ma_L} (a b : Nat) (ha : HS a = (4, 6)) (hra : RF a 0 = b) (hb : HS b = (10, 16)) (v : Nat) (hv : HS v = (10, 4)) (k0 : ¬ cPl (L b) (L v) → Post (some (.int 0)) HS I L RF 146) (k1 : cPl (L b) (L v) → Post (some (.int 1)) HS I L RF 146) : CT g yX4_isPoleless cX4_isPoleless 3 (some .boolean) rX4_isPoleless [.ref a, .ref v] Post HS I L RF 146 := by
  refine ct_of (lv := [some (.ref a), some (.ref v), none]) (by decide) (Nat.le_of_ble_eq_true rfl) rfl ?_
  refine ev_iconst (pc' := 1) (v := 0) dX4_isPoleless_0 rfl ki_0 ?_
  refine ev_istore_n (pc' := 2) (i := 2) (lv' := [some (.ref a), some (.ref v), some (.int 0)]) dX4_isPoleless_1 rfl rfl (Nat.le_of_ble_eq_true rfl) rfl rfl ?_
  refine ev_iload_n (pc' := 3) (i := 2) dX4_isPoleless_2 rfl rfl rfl ?_
  refine ev_iconst (pc' := 4) (v := 4) dX4_isPoleless_3 rfl ki_4 ?_
  refine ev_icmp_ge (tgt := 26) (pc' := 7) dX4_isPoleless_4 rfl rfl (fun h => absurd h (by decide)) (fun _ => ?_)
  refine ev_aload_n (pc' := 8) (i := 0) dX4_isPoleless_7 rfl rfl rfl ?_
  refine ev_iload_n (pc' := 9) (i := 2) dX4_isPoleless_8 rfl rfl rfl ?_
  refine ev_aload_n (pc' := 10) (i := 1) dX4_isPoleless_9 rfl rfl rfl ?_
  refine ev_callV (pc' := 13) (rm' := rX4_poleNumber) (b := a) (av := [.int 0, .ref v]) (rest := []) co_X4_37 ci_X4_poleNumber cv_X4_poleNumber dX4_isPoleless_10 rfl ha hb_X4 rfl rfl (Nat.le_of_ble_eq_true rfl) ⟨(Nat.le_of_ble_eq_true rfl), (Nat.le_of_ble_eq_true rfl)⟩ ⟨(Nat.le_of_ble_eq_true rfl), (Nat.le_of_ble_eq_true rfl)⟩ ?_
  refine t_X4_poleNumber a b ha hra hb 0 v (by omega) hv ?_
  refine ev_lconst (pc' := 14) (v := 0) dX4_isPoleless_13 rfl kl_0 ?_
  refine ev_lc_eq (p1 := 15) (tgt := 20) (pc' := 18) dX4_isPoleless_14 rfl dX4_isPoleless_15 rfl rfl (fun c1 => ?_) (fun c1 => ?_)
  · refine ev_iinc (pc' := 23) (v := 1) (lv' := [some (.ref a), some (.ref v), some (.int 1)]) dX4_isPoleless_20 rfl rfl (by decide) (Nat.le_of_ble_eq_true rfl) rfl rfl ?_
    refine ev_goto (tgt := 2) dX4_isPoleless_23 rfl ?_
    refine ev_iload_n (pc' := 3) (i := 2) dX4_isPoleless_2 rfl rfl rfl ?_
    refine ev_iconst (pc' := 4) (v := 4) dX4_isPoleless_3 rfl ki_4 ?_
    refine ev_icmp_ge (tgt := 26) (pc' := 7) dX4_isPoleless_4 rfl rfl (fun h => absurd h (by decide)) (fun _ => ?_)
    refine ev_aload_n (pc' := 8) (i := 0) dX4_isPoleless_7 rfl rfl rfl ?_
    refine ev_iload_n (pc' := 9) (i := 2) dX4_isPoleless_8 rfl rfl rfl ?_
    refine ev_aload_n (pc' := 10) (i := 1) dX4_isPoleless_9 rfl rfl rfl ?_
    refine ev_callV (pc' := 13) (rm' := rX4_poleNumber) (b := a) (av := [.int 1, .ref v]) (rest := []) co_X4_37 ci_X4_poleNumber cv_X4_poleNumber dX4_isPoleless_10 rfl ha hb_X4 rfl rfl (Nat.le_of_ble_eq_true rfl) ⟨(Nat.le_of_ble_eq_true rfl), (Nat.le_of_ble_eq_true rfl)⟩ ⟨(Nat.le_of_ble_eq_true rfl), (Nat.le_of_ble_eq_true rfl)⟩ ?_
    refine t_X4_poleNumber a b ha hra hb 1 v (by omega) hv ?_
    refine ev_lconst (pc' := 14) (v := 0) dX4_isPoleless_13 rfl kl_0 ?_
    refine ev_lc_eq (p1 := 15) (tgt := 20) (pc' := 18) dX4_isPoleless_14 rfl dX4_isPoleless_15 rfl rfl (fun c2 => ?_) (fun c2 => ?_)
    · refine ev_iinc (pc' := 23) (v := 2) (lv' := [some (.ref a), some (.ref v), some (.int 2)]) dX4_isPoleless_20 rfl rfl (by decide) (Nat.le_of_ble_eq_true rfl) rfl rfl ?_
      refine ev_goto (tgt := 2) dX4_isPoleless_23 rfl ?_
      refine ev_iload_n (pc' := 3) (i := 2) dX4_isPoleless_2 rfl rfl rfl ?_
      refine ev_iconst (pc' := 4) (v := 4) dX4_isPoleless_3 rfl ki_4 ?_
      refine ev_icmp_ge (tgt := 26) (pc' := 7) dX4_isPoleless_4 rfl rfl (fun h => absurd h (by decide)) (fun _ => ?_)
      refine ev_aload_n (pc' := 8) (i := 0) dX4_isPoleless_7 rfl rfl rfl ?_
      refine ev_iload_n (pc' := 9) (i := 2) dX4_isPoleless_8 rfl rfl rfl ?_
      refine ev_aload_n (pc' := 10) (i := 1) dX4_isPoleless_9 rfl rfl rfl ?_
      refine ev_callV (pc' := 13) (rm' := rX4_poleNumber) (b := a) (av := [.int 2, .ref v]) (rest := []) co_X4_37 ci_X4_poleNumber cv_X4_poleNumber dX4_isPoleless_10 rfl ha hb_X4 rfl rfl (Nat.le_of_ble_eq_true rfl) ⟨(Nat.le_of_ble_eq_true rfl), (Nat.le_of_ble_eq_true rfl)⟩ ⟨(Nat.le_of_ble_eq_true rfl), (Nat.le_of_ble_eq_true rfl)⟩ ?_
      refine t_X4_poleNumber a b ha hra hb 2 v (by omega) hv ?_
      refine ev_lconst (pc' := 14) (v := 0) dX4_isPoleless_13 rfl kl_0 ?_
      refine ev_lc_eq (p1 := 15) (tgt := 20) (pc' := 18) dX4_isPoleless_14 rfl dX4_isPoleless_15 rfl rfl (fun c3 => ?_) (fun c3 => ?_)
      · refine ev_iinc (pc' := 23) (v := 3) (lv' := [some (.ref a), some (.ref v), some (.int 3)]) dX4_isPoleless_20 rfl rfl (by decide) (Nat.le_of_ble_eq_true rfl) rfl rfl ?_
        refine ev_goto (tgt := 2) dX4_isPoleless_23 rfl ?_
        refine ev_iload_n (pc' := 3) (i := 2) dX4_isPoleless_2 rfl rfl rfl ?_
        refine ev_iconst (pc' := 4) (v := 4) dX4_isPoleless_3 rfl ki_4 ?_
        refine ev_icmp_ge (tgt := 26) (pc' := 7) dX4_isPoleless_4 rfl rfl (fun h => absurd h (by decide)) (fun _ => ?_)
        refine ev_aload_n (pc' := 8) (i := 0) dX4_isPoleless_7 rfl rfl rfl ?_
        refine ev_iload_n (pc' := 9) (i := 2) dX4_isPoleless_8 rfl rfl rfl ?_
        refine ev_aload_n (pc' := 10) (i := 1) dX4_isPoleless_9 rfl rfl rfl ?_
        refine ev_callV (pc' := 13) (rm' := rX4_poleNumber) (b := a) (av := [.int 3, .ref v]) (rest := []) co_X4_37 ci_X4_poleNumber cv_X4_poleNumber dX4_isPoleless_10 rfl ha hb_X4 rfl rfl (Nat.le_of_ble_eq_true rfl) ⟨(Nat.le_of_ble_eq_true rfl), (Nat.le_of_ble_eq_true rfl)⟩ ⟨(Nat.le_of_ble_eq_true rfl), (Nat.le_of_ble_eq_true rfl)⟩ ?_
        refine t_X4_poleNumber a b ha hra hb 3 v (by omega) hv ?_
        refine ev_lconst (pc' := 14) (v := 0) dX4_isPoleless_13 rfl kl_0 ?_
        refine ev_lc_eq (p1 := 15) (tgt := 20) (pc' := 18) dX4_isPoleless_14 rfl dX4_isPoleless_15 rfl rfl (fun c4 => ?_) (fun c4 => ?_)
        · refine ev_iinc (pc' := 23) (v := 4) (lv' := [some (.ref a), some (.ref v), some (.int 4)]) dX4_isPoleless_20 rfl rfl (by decide) (Nat.le_of_ble_eq_true rfl) rfl rfl ?_
          refine ev_goto (tgt := 2) dX4_isPoleless_23 rfl ?_
          refine ev_iload_n (pc' := 3) (i := 2) dX4_isPoleless_2 rfl rfl rfl ?_
          refine ev_iconst (pc' := 4) (v := 4) dX4_isPoleless_3 rfl ki_4 ?_
          refine ev_icmp_ge (tgt := 26) (pc' := 7) dX4_isPoleless_4 rfl rfl (fun _ => ?_) (fun h => absurd (by decide) h)
          refine ev_iconst (pc' := 27) (v := 1) dX4_isPoleless_26 rfl ki_1 ?_
          refine ev_iret dX4_isPoleless_27 rfl rfl ⟨Nat.le_refl _, Nat.le_refl _⟩ ?_
          exact k1 ⟨c1, c2, c3, c4⟩
        · refine ev_iconst (pc' := 19) (v := 0) dX4_isPoleless_18 rfl ki_0 ?_
          refine ev_iret dX4_isPoleless_19 rfl rfl ⟨Nat.le_refl _, Nat.le_refl _⟩ ?_
          exact k0 (fun q => absurd q.2.2.2 c4)
      · refine ev_iconst (pc' := 19) (v := 0) dX4_isPoleless_18 rfl ki_0 ?_
        refine ev_iret dX4_isPoleless_19 rfl rfl ⟨Nat.le_refl _, Nat.le_refl _⟩ ?_
        exact k0 (fun q => absurd q.2.2.1 c3)
    · refine ev_iconst (pc' := 19) (v := 0) dX4_isPoleless_18 rfl ki_0 ?_
      refine ev_iret dX4_isPoleless_19 rfl rfl ⟨Nat.le_refl _, Nat.le_refl _⟩ ?_
      exact k0 (fun q => absurd q.2.1 c2)
  · refine ev_iconst (pc' := 19) (v := 0) dX4_isPoleless_18 rfl ki_0 ?_
    refine ev_iret dX4_isPoleless_19 rfl rfl ⟨Nat.le_refl _, Nat.le_refl _⟩ ?_
    exact k0 (fun q => absurd q.1 c1)
def cM2 (t : Nat → Int64) (p q : Nat) : Int64 := ((t (5 * p)) * (t (5 * q))) - ((t ((4 * p) + q)) * (t ((4 * q) + p)))
set_option maxRecDepth 4000 in
theorem t_X4_minor2 {g : ma_G} {Post : ma_P} {I : ma_I} {L : ma_L} (a b : Nat) (ha : HS a = (4, 6)) (hra : RF a 0 = b) (hb : HS b = (10, 16)) (p : Nat) (q : Nat) (hp : p < 4) (hq : q < 4) (k : Post (some (.long (cM2 (L b) p q))) HS I L RF 146) : CT g yX4_minor2 cX4_minor2 3 (some .long) rX4_minor2 [.ref a, .int (nI p), .int (nI q)] Post HS I L RF 146 := by
  refine ct_of (lv := [some (.ref a), some (.int (nI p)), some (.int (nI q))]) (by decide) (Nat.le_of_ble_eq_true rfl) rfl ?_
  refine ev_aload_n (pc' := 1) (i := 0) dX4_minor2_0 rfl rfl rfl ?_
  refine ev_getR (pc' := 4) fo_X4_9 dX4_minor2_1 rfl ha rfl hra ?_
  refine ev_iconst (pc' := 5) (v := 5) dX4_minor2_4 rfl ki_5 ?_
  refine ev_iload_n (pc' := 6) (i := 1) dX4_minor2_5 rfl rfl rfl ?_
  refine ev_imul (pc' := 7) (v := nI (5 * p)) dX4_minor2_6 rfl (pk_mul 5 p) ?_
  refine ev_lald (pc' := 8) (j := 5 * p) (v := (L b) (5 * p)) dX4_minor2_7 rfl hb rfl (by omega) (Nat.le_of_ble_eq_true rfl) rfl ?_
  refine ev_aload_n (pc' := 9) (i := 0) dX4_minor2_8 rfl rfl rfl ?_
  refine ev_getR (pc' := 12) fo_X4_9 dX4_minor2_9 rfl ha rfl hra ?_
  refine ev_iconst (pc' := 13) (v := 5) dX4_minor2_12 rfl ki_5 ?_
  refine ev_iload_n (pc' := 14) (i := 2) dX4_minor2_13 rfl rfl rfl ?_
  refine ev_imul (pc' := 15) (v := nI (5 * q)) dX4_minor2_14 rfl (pk_mul 5 q) ?_
  refine ev_lald (pc' := 16) (j := 5 * q) (v := (L b) (5 * q)) dX4_minor2_15 rfl hb rfl (by omega) (Nat.le_of_ble_eq_true rfl) rfl ?_
  refine ev_lmul (pc' := 17) (v := ((L b) (5 * p)) * ((L b) (5 * q))) dX4_minor2_16 rfl rfl ?_
  refine ev_aload_n (pc' := 18) (i := 0) dX4_minor2_17 rfl rfl rfl ?_
  refine ev_getR (pc' := 21) fo_X4_9 dX4_minor2_18 rfl ha rfl hra ?_
  refine ev_iconst (pc' := 22) (v := 4) dX4_minor2_21 rfl ki_4 ?_
  refine ev_iload_n (pc' := 23) (i := 1) dX4_minor2_22 rfl rfl rfl ?_
  refine ev_imul (pc' := 24) (v := nI (4 * p)) dX4_minor2_23 rfl (pk_mul 4 p) ?_
  refine ev_iload_n (pc' := 25) (i := 2) dX4_minor2_24 rfl rfl rfl ?_
  refine ev_iadd (pc' := 26) (v := nI ((4 * p) + q)) dX4_minor2_25 rfl (nI_add (4 * p) q) ?_
  refine ev_lald (pc' := 27) (j := (4 * p) + q) (v := (L b) ((4 * p) + q)) dX4_minor2_26 rfl hb rfl (by omega) (Nat.le_of_ble_eq_true rfl) rfl ?_
  refine ev_aload_n (pc' := 28) (i := 0) dX4_minor2_27 rfl rfl rfl ?_
  refine ev_getR (pc' := 31) fo_X4_9 dX4_minor2_28 rfl ha rfl hra ?_
  refine ev_iconst (pc' := 32) (v := 4) dX4_minor2_31 rfl ki_4 ?_
  refine ev_iload_n (pc' := 33) (i := 2) dX4_minor2_32 rfl rfl rfl ?_
  refine ev_imul (pc' := 34) (v := nI (4 * q)) dX4_minor2_33 rfl (pk_mul 4 q) ?_
  refine ev_iload_n (pc' := 35) (i := 1) dX4_minor2_34 rfl rfl rfl ?_
  refine ev_iadd (pc' := 36) (v := nI ((4 * q) + p)) dX4_minor2_35 rfl (nI_add (4 * q) p) ?_
  refine ev_lald (pc' := 37) (j := (4 * q) + p) (v := (L b) ((4 * q) + p)) dX4_minor2_36 rfl hb rfl (by omega) (Nat.le_of_ble_eq_true rfl) rfl ?_
  refine ev_lmul (pc' := 38) (v := ((L b) ((4 * p) + q)) * ((L b) ((4 * q) + p))) dX4_minor2_37 rfl rfl ?_
  refine ev_lsub (pc' := 39) (v := (((L b) (5 * p)) * ((L b) (5 * q))) - (((L b) ((4 * p) + q)) * ((L b) ((4 * q) + p)))) dX4_minor2_38 rfl rfl ?_
  refine ev_lret dX4_minor2_39 rfl ⟨Nat.le_refl _, Nat.le_refl _⟩ ?_
  exact k
def cM3 (t : Nat → Int64) (p q r : Nat) : Int64 := (((t ((4 * p) + p)) * (((t ((4 * q) + q)) * (t ((4 * r) + r))) - ((t ((4 * q) + r)) * (t ((4 * r) + q))))) - ((t ((4 * p) + q)) * (((t ((4 * q) + p)) * (t ((4 * r) + r))) - ((t ((4 * q) + r)) * (t ((4 * r) + p)))))) + ((t ((4 * p) + r)) * (((t ((4 * q) + p)) * (t ((4 * r) + q))) - ((t ((4 * q) + q)) * (t ((4 * r) + p)))))
set_option maxRecDepth 4000 in
theorem t_X4_minor3 {g : ma_G} {Post : ma_P} {I : ma_I} {L : ma_L} (a b : Nat) (ha : HS a = (4, 6)) (hra : RF a 0 = b) (hb : HS b = (10, 16)) (p : Nat) (q : Nat) (r : Nat) (hp : p < 4) (hq : q < 4) (hr : r < 4) (k : Post (some (.long (cM3 (L b) p q r))) HS I L RF 146) : CT g yX4_minor3 cX4_minor3 7 (some .long) rX4_minor3 [.ref a, .int (nI p), .int (nI q), .int (nI r)] Post HS I L RF 146 := by
  refine ct_of (lv := [some (.ref a), some (.int (nI p)), some (.int (nI q)), some (.int (nI r)), none, none, none]) (by decide) (Nat.le_of_ble_eq_true rfl) rfl ?_
  refine ev_iconst (pc' := 1) (v := 4) dX4_minor3_0 rfl ki_4 ?_
  refine ev_iload_n (pc' := 2) (i := 1) dX4_minor3_1 rfl rfl rfl ?_
  refine ev_imul (pc' := 3) (v := nI (4 * p)) dX4_minor3_2 rfl (pk_mul 4 p) ?_
  refine ev_istore (pc' := 5) (lv' := [some (.ref a), some (.int (nI p)), some (.int (nI q)), some (.int (nI r)), some (.int (nI (4 * p))), none, none]) dX4_minor3_3 rfl (Nat.le_of_ble_eq_true rfl) rfl rfl ?_
  refine ev_iconst (pc' := 6) (v := 4) dX4_minor3_5 rfl ki_4 ?_
  refine ev_iload_n (pc' := 7) (i := 2) dX4_minor3_6 rfl rfl rfl ?_
  refine ev_imul (pc' := 8) (v := nI (4 * q)) dX4_minor3_7 rfl (pk_mul 4 q) ?_
  refine ev_istore (pc' := 10) (lv' := [some (.ref a), some (.int (nI p)), some (.int (nI q)), some (.int (nI r)), some (.int (nI (4 * p))), some (.int (nI (4 * q))), none]) dX4_minor3_8 rfl (Nat.le_of_ble_eq_true rfl) rfl rfl ?_
  refine ev_iconst (pc' := 11) (v := 4) dX4_minor3_10 rfl ki_4 ?_
  refine ev_iload_n (pc' := 12) (i := 3) dX4_minor3_11 rfl rfl rfl ?_
  refine ev_imul (pc' := 13) (v := nI (4 * r)) dX4_minor3_12 rfl (pk_mul 4 r) ?_
  refine ev_istore (pc' := 15) (lv' := [some (.ref a), some (.int (nI p)), some (.int (nI q)), some (.int (nI r)), some (.int (nI (4 * p))), some (.int (nI (4 * q))), some (.int (nI (4 * r)))]) dX4_minor3_13 rfl (Nat.le_of_ble_eq_true rfl) rfl rfl ?_
  refine ev_aload_n (pc' := 16) (i := 0) dX4_minor3_15 rfl rfl rfl ?_
  refine ev_getR (pc' := 19) fo_X4_9 dX4_minor3_16 rfl ha rfl hra ?_
  refine ev_iload (pc' := 21) dX4_minor3_19 rfl rfl ?_
  refine ev_iload_n (pc' := 22) (i := 1) dX4_minor3_21 rfl rfl rfl ?_
  refine ev_iadd (pc' := 23) (v := nI ((4 * p) + p)) dX4_minor3_22 rfl (nI_add (4 * p) p) ?_
  refine ev_lald (pc' := 24) (j := (4 * p) + p) (v := (L b) ((4 * p) + p)) dX4_minor3_23 rfl hb rfl (by omega) (Nat.le_of_ble_eq_true rfl) rfl ?_
  refine ev_aload_n (pc' := 25) (i := 0) dX4_minor3_24 rfl rfl rfl ?_
  refine ev_getR (pc' := 28) fo_X4_9 dX4_minor3_25 rfl ha rfl hra ?_
  refine ev_iload (pc' := 30) dX4_minor3_28 rfl rfl ?_
  refine ev_iload_n (pc' := 31) (i := 2) dX4_minor3_30 rfl rfl rfl ?_
  refine ev_iadd (pc' := 32) (v := nI ((4 * q) + q)) dX4_minor3_31 rfl (nI_add (4 * q) q) ?_
  refine ev_lald (pc' := 33) (j := (4 * q) + q) (v := (L b) ((4 * q) + q)) dX4_minor3_32 rfl hb rfl (by omega) (Nat.le_of_ble_eq_true rfl) rfl ?_
  refine ev_aload_n (pc' := 34) (i := 0) dX4_minor3_33 rfl rfl rfl ?_
  refine ev_getR (pc' := 37) fo_X4_9 dX4_minor3_34 rfl ha rfl hra ?_
  refine ev_iload (pc' := 39) dX4_minor3_37 rfl rfl ?_
  refine ev_iload_n (pc' := 40) (i := 3) dX4_minor3_39 rfl rfl rfl ?_
  refine ev_iadd (pc' := 41) (v := nI ((4 * r) + r)) dX4_minor3_40 rfl (nI_add (4 * r) r) ?_
  refine ev_lald (pc' := 42) (j := (4 * r) + r) (v := (L b) ((4 * r) + r)) dX4_minor3_41 rfl hb rfl (by omega) (Nat.le_of_ble_eq_true rfl) rfl ?_
  refine ev_lmul (pc' := 43) (v := ((L b) ((4 * q) + q)) * ((L b) ((4 * r) + r))) dX4_minor3_42 rfl rfl ?_
  refine ev_aload_n (pc' := 44) (i := 0) dX4_minor3_43 rfl rfl rfl ?_
  refine ev_getR (pc' := 47) fo_X4_9 dX4_minor3_44 rfl ha rfl hra ?_
  refine ev_iload (pc' := 49) dX4_minor3_47 rfl rfl ?_
  refine ev_iload_n (pc' := 50) (i := 3) dX4_minor3_49 rfl rfl rfl ?_
  refine ev_iadd (pc' := 51) (v := nI ((4 * q) + r)) dX4_minor3_50 rfl (nI_add (4 * q) r) ?_
  refine ev_lald (pc' := 52) (j := (4 * q) + r) (v := (L b) ((4 * q) + r)) dX4_minor3_51 rfl hb rfl (by omega) (Nat.le_of_ble_eq_true rfl) rfl ?_
  refine ev_aload_n (pc' := 53) (i := 0) dX4_minor3_52 rfl rfl rfl ?_
  refine ev_getR (pc' := 56) fo_X4_9 dX4_minor3_53 rfl ha rfl hra ?_
  refine ev_iload (pc' := 58) dX4_minor3_56 rfl rfl ?_
  refine ev_iload_n (pc' := 59) (i := 2) dX4_minor3_58 rfl rfl rfl ?_
  refine ev_iadd (pc' := 60) (v := nI ((4 * r) + q)) dX4_minor3_59 rfl (nI_add (4 * r) q) ?_
  refine ev_lald (pc' := 61) (j := (4 * r) + q) (v := (L b) ((4 * r) + q)) dX4_minor3_60 rfl hb rfl (by omega) (Nat.le_of_ble_eq_true rfl) rfl ?_
  refine ev_lmul (pc' := 62) (v := ((L b) ((4 * q) + r)) * ((L b) ((4 * r) + q))) dX4_minor3_61 rfl rfl ?_
  refine ev_lsub (pc' := 63) (v := (((L b) ((4 * q) + q)) * ((L b) ((4 * r) + r))) - (((L b) ((4 * q) + r)) * ((L b) ((4 * r) + q)))) dX4_minor3_62 rfl rfl ?_
  refine ev_lmul (pc' := 64) (v := ((L b) ((4 * p) + p)) * ((((L b) ((4 * q) + q)) * ((L b) ((4 * r) + r))) - (((L b) ((4 * q) + r)) * ((L b) ((4 * r) + q))))) dX4_minor3_63 rfl rfl ?_
  refine ev_aload_n (pc' := 65) (i := 0) dX4_minor3_64 rfl rfl rfl ?_
  refine ev_getR (pc' := 68) fo_X4_9 dX4_minor3_65 rfl ha rfl hra ?_
  refine ev_iload (pc' := 70) dX4_minor3_68 rfl rfl ?_
  refine ev_iload_n (pc' := 71) (i := 2) dX4_minor3_70 rfl rfl rfl ?_
  refine ev_iadd (pc' := 72) (v := nI ((4 * p) + q)) dX4_minor3_71 rfl (nI_add (4 * p) q) ?_
  refine ev_lald (pc' := 73) (j := (4 * p) + q) (v := (L b) ((4 * p) + q)) dX4_minor3_72 rfl hb rfl (by omega) (Nat.le_of_ble_eq_true rfl) rfl ?_
  refine ev_aload_n (pc' := 74) (i := 0) dX4_minor3_73 rfl rfl rfl ?_
  refine ev_getR (pc' := 77) fo_X4_9 dX4_minor3_74 rfl ha rfl hra ?_
  refine ev_iload (pc' := 79) dX4_minor3_77 rfl rfl ?_
  refine ev_iload_n (pc' := 80) (i := 1) dX4_minor3_79 rfl rfl rfl ?_
  refine ev_iadd (pc' := 81) (v := nI ((4 * q) + p)) dX4_minor3_80 rfl (nI_add (4 * q) p) ?_
  refine ev_lald (pc' := 82) (j := (4 * q) + p) (v := (L b) ((4 * q) + p)) dX4_minor3_81 rfl hb rfl (by omega) (Nat.le_of_ble_eq_true rfl) rfl ?_
  refine ev_aload_n (pc' := 83) (i := 0) dX4_minor3_82 rfl rfl rfl ?_
  refine ev_getR (pc' := 86) fo_X4_9 dX4_minor3_83 rfl ha rfl hra ?_
  refine ev_iload (pc' := 88) dX4_minor3_86 rfl rfl ?_
  refine ev_iload_n (pc' := 89) (i := 3) dX4_minor3_88 rfl rfl rfl ?_
  refine ev_iadd (pc' := 90) (v := nI ((4 * r) + r)) dX4_minor3_89 rfl (nI_add (4 * r) r) ?_
  refine ev_lald (pc' := 91) (j := (4 * r) + r) (v := (L b) ((4 * r) + r)) dX4_minor3_90 rfl hb rfl (by omega) (Nat.le_of_ble_eq_true rfl) rfl ?_
  refine ev_lmul (pc' := 92) (v := ((L b) ((4 * q) + p)) * ((L b) ((4 * r) + r))) dX4_minor3_91 rfl rfl ?_
  refine ev_aload_n (pc' := 93) (i := 0) dX4_minor3_92 rfl rfl rfl ?_
  refine ev_getR (pc' := 96) fo_X4_9 dX4_minor3_93 rfl ha rfl hra ?_
  refine ev_iload (pc' := 98) dX4_minor3_96 rfl rfl ?_
  refine ev_iload_n (pc' := 99) (i := 3) dX4_minor3_98 rfl rfl rfl ?_
  refine ev_iadd (pc' := 100) (v := nI ((4 * q) + r)) dX4_minor3_99 rfl (nI_add (4 * q) r) ?_
  refine ev_lald (pc' := 101) (j := (4 * q) + r) (v := (L b) ((4 * q) + r)) dX4_minor3_100 rfl hb rfl (by omega) (Nat.le_of_ble_eq_true rfl) rfl ?_
  refine ev_aload_n (pc' := 102) (i := 0) dX4_minor3_101 rfl rfl rfl ?_
  refine ev_getR (pc' := 105) fo_X4_9 dX4_minor3_102 rfl ha rfl hra ?_
  refine ev_iload (pc' := 107) dX4_minor3_105 rfl rfl ?_
  refine ev_iload_n (pc' := 108) (i := 1) dX4_minor3_107 rfl rfl rfl ?_
  refine ev_iadd (pc' := 109) (v := nI ((4 * r) + p)) dX4_minor3_108 rfl (nI_add (4 * r) p) ?_
  refine ev_lald (pc' := 110) (j := (4 * r) + p) (v := (L b) ((4 * r) + p)) dX4_minor3_109 rfl hb rfl (by omega) (Nat.le_of_ble_eq_true rfl) rfl ?_
  refine ev_lmul (pc' := 111) (v := ((L b) ((4 * q) + r)) * ((L b) ((4 * r) + p))) dX4_minor3_110 rfl rfl ?_
  refine ev_lsub (pc' := 112) (v := (((L b) ((4 * q) + p)) * ((L b) ((4 * r) + r))) - (((L b) ((4 * q) + r)) * ((L b) ((4 * r) + p)))) dX4_minor3_111 rfl rfl ?_
  refine ev_lmul (pc' := 113) (v := ((L b) ((4 * p) + q)) * ((((L b) ((4 * q) + p)) * ((L b) ((4 * r) + r))) - (((L b) ((4 * q) + r)) * ((L b) ((4 * r) + p))))) dX4_minor3_112 rfl rfl ?_
  refine ev_lsub (pc' := 114) (v := (((L b) ((4 * p) + p)) * ((((L b) ((4 * q) + q)) * ((L b) ((4 * r) + r))) - (((L b) ((4 * q) + r)) * ((L b) ((4 * r) + q))))) - (((L b) ((4 * p) + q)) * ((((L b) ((4 * q) + p)) * ((L b) ((4 * r) + r))) - (((L b) ((4 * q) + r)) * ((L b) ((4 * r) + p)))))) dX4_minor3_113 rfl rfl ?_
  refine ev_aload_n (pc' := 115) (i := 0) dX4_minor3_114 rfl rfl rfl ?_
  refine ev_getR (pc' := 118) fo_X4_9 dX4_minor3_115 rfl ha rfl hra ?_
  refine ev_iload (pc' := 120) dX4_minor3_118 rfl rfl ?_
  refine ev_iload_n (pc' := 121) (i := 3) dX4_minor3_120 rfl rfl rfl ?_
  refine ev_iadd (pc' := 122) (v := nI ((4 * p) + r)) dX4_minor3_121 rfl (nI_add (4 * p) r) ?_
  refine ev_lald (pc' := 123) (j := (4 * p) + r) (v := (L b) ((4 * p) + r)) dX4_minor3_122 rfl hb rfl (by omega) (Nat.le_of_ble_eq_true rfl) rfl ?_
  refine ev_aload_n (pc' := 124) (i := 0) dX4_minor3_123 rfl rfl rfl ?_
  refine ev_getR (pc' := 127) fo_X4_9 dX4_minor3_124 rfl ha rfl hra ?_
  refine ev_iload (pc' := 129) dX4_minor3_127 rfl rfl ?_
  refine ev_iload_n (pc' := 130) (i := 1) dX4_minor3_129 rfl rfl rfl ?_
  refine ev_iadd (pc' := 131) (v := nI ((4 * q) + p)) dX4_minor3_130 rfl (nI_add (4 * q) p) ?_
  refine ev_lald (pc' := 132) (j := (4 * q) + p) (v := (L b) ((4 * q) + p)) dX4_minor3_131 rfl hb rfl (by omega) (Nat.le_of_ble_eq_true rfl) rfl ?_
  refine ev_aload_n (pc' := 133) (i := 0) dX4_minor3_132 rfl rfl rfl ?_
  refine ev_getR (pc' := 136) fo_X4_9 dX4_minor3_133 rfl ha rfl hra ?_
  refine ev_iload (pc' := 138) dX4_minor3_136 rfl rfl ?_
  refine ev_iload_n (pc' := 139) (i := 2) dX4_minor3_138 rfl rfl rfl ?_
  refine ev_iadd (pc' := 140) (v := nI ((4 * r) + q)) dX4_minor3_139 rfl (nI_add (4 * r) q) ?_
  refine ev_lald (pc' := 141) (j := (4 * r) + q) (v := (L b) ((4 * r) + q)) dX4_minor3_140 rfl hb rfl (by omega) (Nat.le_of_ble_eq_true rfl) rfl ?_
  refine ev_lmul (pc' := 142) (v := ((L b) ((4 * q) + p)) * ((L b) ((4 * r) + q))) dX4_minor3_141 rfl rfl ?_
  refine ev_aload_n (pc' := 143) (i := 0) dX4_minor3_142 rfl rfl rfl ?_
  refine ev_getR (pc' := 146) fo_X4_9 dX4_minor3_143 rfl ha rfl hra ?_
  refine ev_iload (pc' := 148) dX4_minor3_146 rfl rfl ?_
  refine ev_iload_n (pc' := 149) (i := 2) dX4_minor3_148 rfl rfl rfl ?_
  refine ev_iadd (pc' := 150) (v := nI ((4 * q) + q)) dX4_minor3_149 rfl (nI_add (4 * q) q) ?_
  refine ev_lald (pc' := 151) (j := (4 * q) + q) (v := (L b) ((4 * q) + q)) dX4_minor3_150 rfl hb rfl (by omega) (Nat.le_of_ble_eq_true rfl) rfl ?_
  refine ev_aload_n (pc' := 152) (i := 0) dX4_minor3_151 rfl rfl rfl ?_
  refine ev_getR (pc' := 155) fo_X4_9 dX4_minor3_152 rfl ha rfl hra ?_
  refine ev_iload (pc' := 157) dX4_minor3_155 rfl rfl ?_
  refine ev_iload_n (pc' := 158) (i := 1) dX4_minor3_157 rfl rfl rfl ?_
  refine ev_iadd (pc' := 159) (v := nI ((4 * r) + p)) dX4_minor3_158 rfl (nI_add (4 * r) p) ?_
  refine ev_lald (pc' := 160) (j := (4 * r) + p) (v := (L b) ((4 * r) + p)) dX4_minor3_159 rfl hb rfl (by omega) (Nat.le_of_ble_eq_true rfl) rfl ?_
  refine ev_lmul (pc' := 161) (v := ((L b) ((4 * q) + q)) * ((L b) ((4 * r) + p))) dX4_minor3_160 rfl rfl ?_
  refine ev_lsub (pc' := 162) (v := (((L b) ((4 * q) + p)) * ((L b) ((4 * r) + q))) - (((L b) ((4 * q) + q)) * ((L b) ((4 * r) + p)))) dX4_minor3_161 rfl rfl ?_
  refine ev_lmul (pc' := 163) (v := ((L b) ((4 * p) + r)) * ((((L b) ((4 * q) + p)) * ((L b) ((4 * r) + q))) - (((L b) ((4 * q) + q)) * ((L b) ((4 * r) + p))))) dX4_minor3_162 rfl rfl ?_
  refine ev_ladd (pc' := 164) (v := ((((L b) ((4 * p) + p)) * ((((L b) ((4 * q) + q)) * ((L b) ((4 * r) + r))) - (((L b) ((4 * q) + r)) * ((L b) ((4 * r) + q))))) - (((L b) ((4 * p) + q)) * ((((L b) ((4 * q) + p)) * ((L b) ((4 * r) + r))) - (((L b) ((4 * q) + r)) * ((L b) ((4 * r) + p)))))) + (((L b) ((4 * p) + r)) * ((((L b) ((4 * q) + p)) * ((L b) ((4 * r) + q))) - (((L b) ((4 * q) + q)) * ((L b) ((4 * r) + p)))))) dX4_minor3_163 rfl rfl ?_
  refine ev_lret dX4_minor3_164 rfl ⟨Nat.le_refl _, Nat.le_refl _⟩ ?_
  exact k
def cP2 (t : Nat → Int64) (r i j : Nat) : Int64 := ((t (r + i)) * (t ((r + 4) + j))) - ((t (r + j)) * (t ((r + 4) + i)))
set_option maxRecDepth 4000 in
theorem t_X4_pairOf {g : ma_G} {Post : ma_P} {I : ma_I} {L : ma_L} (a b : Nat) (ha : HS a = (4, 6)) (hra : RF a 0 = b) (hb : HS b = (10, 16)) (r : Nat) (i : Nat) (j : Nat) (hr : r < 9) (hi : i < 4) (hj : j < 4) (k : Post (some (.long (cP2 (L b) r i j))) HS I L RF 146) : CT g yX4_pairOf cX4_pairOf 4 (some .long) rX4_pairOf [.ref a, .int (nI r), .int (nI i), .int (nI j)] Post HS I L RF 146 := by
  refine ct_of (lv := [some (.ref a), some (.int (nI r)), some (.int (nI i)), some (.int (nI j))]) (by decide) (Nat.le_of_ble_eq_true rfl) rfl ?_
  refine ev_aload_n (pc' := 1) (i := 0) dX4_pairOf_0 rfl rfl rfl ?_
  refine ev_getR (pc' := 4) fo_X4_9 dX4_pairOf_1 rfl ha rfl hra ?_
  refine ev_iload_n (pc' := 5) (i := 1) dX4_pairOf_4 rfl rfl rfl ?_
  refine ev_iload_n (pc' := 6) (i := 2) dX4_pairOf_5 rfl rfl rfl ?_
  refine ev_iadd (pc' := 7) (v := nI (r + i)) dX4_pairOf_6 rfl (nI_add r i) ?_
  refine ev_lald (pc' := 8) (j := r + i) (v := (L b) (r + i)) dX4_pairOf_7 rfl hb rfl (by omega) (Nat.le_of_ble_eq_true rfl) rfl ?_
  refine ev_aload_n (pc' := 9) (i := 0) dX4_pairOf_8 rfl rfl rfl ?_
  refine ev_getR (pc' := 12) fo_X4_9 dX4_pairOf_9 rfl ha rfl hra ?_
  refine ev_iload_n (pc' := 13) (i := 1) dX4_pairOf_12 rfl rfl rfl ?_
  refine ev_iconst (pc' := 14) (v := 4) dX4_pairOf_13 rfl ki_4 ?_
  refine ev_iadd (pc' := 15) (v := nI (r + 4)) dX4_pairOf_14 rfl (nI_add r 4) ?_
  refine ev_iload_n (pc' := 16) (i := 3) dX4_pairOf_15 rfl rfl rfl ?_
  refine ev_iadd (pc' := 17) (v := nI ((r + 4) + j)) dX4_pairOf_16 rfl (nI_add (r + 4) j) ?_
  refine ev_lald (pc' := 18) (j := (r + 4) + j) (v := (L b) ((r + 4) + j)) dX4_pairOf_17 rfl hb rfl (by omega) (Nat.le_of_ble_eq_true rfl) rfl ?_
  refine ev_lmul (pc' := 19) (v := ((L b) (r + i)) * ((L b) ((r + 4) + j))) dX4_pairOf_18 rfl rfl ?_
  refine ev_aload_n (pc' := 20) (i := 0) dX4_pairOf_19 rfl rfl rfl ?_
  refine ev_getR (pc' := 23) fo_X4_9 dX4_pairOf_20 rfl ha rfl hra ?_
  refine ev_iload_n (pc' := 24) (i := 1) dX4_pairOf_23 rfl rfl rfl ?_
  refine ev_iload_n (pc' := 25) (i := 3) dX4_pairOf_24 rfl rfl rfl ?_
  refine ev_iadd (pc' := 26) (v := nI (r + j)) dX4_pairOf_25 rfl (nI_add r j) ?_
  refine ev_lald (pc' := 27) (j := r + j) (v := (L b) (r + j)) dX4_pairOf_26 rfl hb rfl (by omega) (Nat.le_of_ble_eq_true rfl) rfl ?_
  refine ev_aload_n (pc' := 28) (i := 0) dX4_pairOf_27 rfl rfl rfl ?_
  refine ev_getR (pc' := 31) fo_X4_9 dX4_pairOf_28 rfl ha rfl hra ?_
  refine ev_iload_n (pc' := 32) (i := 1) dX4_pairOf_31 rfl rfl rfl ?_
  refine ev_iconst (pc' := 33) (v := 4) dX4_pairOf_32 rfl ki_4 ?_
  refine ev_iadd (pc' := 34) (v := nI (r + 4)) dX4_pairOf_33 rfl (nI_add r 4) ?_
  refine ev_iload_n (pc' := 35) (i := 2) dX4_pairOf_34 rfl rfl rfl ?_
  refine ev_iadd (pc' := 36) (v := nI ((r + 4) + i)) dX4_pairOf_35 rfl (nI_add (r + 4) i) ?_
  refine ev_lald (pc' := 37) (j := (r + 4) + i) (v := (L b) ((r + 4) + i)) dX4_pairOf_36 rfl hb rfl (by omega) (Nat.le_of_ble_eq_true rfl) rfl ?_
  refine ev_lmul (pc' := 38) (v := ((L b) (r + j)) * ((L b) ((r + 4) + i))) dX4_pairOf_37 rfl rfl ?_
  refine ev_lsub (pc' := 39) (v := (((L b) (r + i)) * ((L b) ((r + 4) + j))) - (((L b) (r + j)) * ((L b) ((r + 4) + i)))) dX4_pairOf_38 rfl rfl ?_
  refine ev_lret dX4_pairOf_39 rfl ⟨Nat.le_refl _, Nat.le_refl _⟩ ?_
  exact k
def cW (t : Nat → Int64) : Int64 := ((((((cP2 t 0 0 1) * (cP2 t 8 2 3)) - ((cP2 t 0 0 2) * (cP2 t 8 1 3))) + ((cP2 t 0 0 3) * (cP2 t 8 1 2))) + ((cP2 t 0 1 2) * (cP2 t 8 0 3))) - ((cP2 t 0 1 3) * (cP2 t 8 0 2))) + ((cP2 t 0 2 3) * (cP2 t 8 0 1))
set_option maxRecDepth 4000 in
theorem t_X4_worth {g : ma_G} {Post : ma_P} {I : ma_I} {L : ma_L} (a b : Nat) (ha : HS a = (4, 6)) (hra : RF a 0 = b) (hb : HS b = (10, 16))  (k : Post (some (.long (cW (L b)))) HS I L RF 146) : CT g yX4_worth cX4_worth 1 (some .long) rX4_worth [.ref a] Post HS I L RF 146 := by
  refine ct_of (lv := [some (.ref a)]) (by decide) (Nat.le_of_ble_eq_true rfl) rfl ?_
  refine ev_aload_n (pc' := 1) (i := 0) dX4_worth_0 rfl rfl rfl ?_
  refine ev_iconst (pc' := 2) (v := 0) dX4_worth_1 rfl ki_0 ?_
  refine ev_iconst (pc' := 3) (v := 0) dX4_worth_2 rfl ki_0 ?_
  refine ev_iconst (pc' := 4) (v := 1) dX4_worth_3 rfl ki_1 ?_
  refine ev_callV (pc' := 7) (rm' := rX4_pairOf) (b := a) (av := [.int 0, .int 0, .int 1]) (rest := []) co_X4_45 ci_X4_pairOf cv_X4_pairOf dX4_worth_4 rfl ha hb_X4 rfl rfl (Nat.le_of_ble_eq_true rfl) ⟨(Nat.le_of_ble_eq_true rfl), (Nat.le_of_ble_eq_true rfl)⟩ ⟨(Nat.le_of_ble_eq_true rfl), (Nat.le_of_ble_eq_true rfl)⟩ ?_
  refine t_X4_pairOf a b ha hra hb 0 0 1 (by omega) (by omega) (by omega) ?_
  refine ev_aload_n (pc' := 8) (i := 0) dX4_worth_7 rfl rfl rfl ?_
  refine ev_bipush (pc' := 10) (v := 8) dX4_worth_8 rfl kb_8 ?_
  refine ev_iconst (pc' := 11) (v := 2) dX4_worth_10 rfl ki_2 ?_
  refine ev_iconst (pc' := 12) (v := 3) dX4_worth_11 rfl ki_3 ?_
  refine ev_callV (pc' := 15) (rm' := rX4_pairOf) (b := a) (av := [.int 8, .int 2, .int 3]) (rest := [.long (cP2 (L b) 0 0 1)]) co_X4_45 ci_X4_pairOf cv_X4_pairOf dX4_worth_12 rfl ha hb_X4 rfl rfl (Nat.le_of_ble_eq_true rfl) ⟨(Nat.le_of_ble_eq_true rfl), (Nat.le_of_ble_eq_true rfl)⟩ ⟨(Nat.le_of_ble_eq_true rfl), (Nat.le_of_ble_eq_true rfl)⟩ ?_
  refine t_X4_pairOf a b ha hra hb 8 2 3 (by omega) (by omega) (by omega) ?_
  refine ev_lmul (pc' := 16) (v := (cP2 (L b) 0 0 1) * (cP2 (L b) 8 2 3)) dX4_worth_15 rfl rfl ?_
  refine ev_aload_n (pc' := 17) (i := 0) dX4_worth_16 rfl rfl rfl ?_
  refine ev_iconst (pc' := 18) (v := 0) dX4_worth_17 rfl ki_0 ?_
  refine ev_iconst (pc' := 19) (v := 0) dX4_worth_18 rfl ki_0 ?_
  refine ev_iconst (pc' := 20) (v := 2) dX4_worth_19 rfl ki_2 ?_
  refine ev_callV (pc' := 23) (rm' := rX4_pairOf) (b := a) (av := [.int 0, .int 0, .int 2]) (rest := [.long ((cP2 (L b) 0 0 1) * (cP2 (L b) 8 2 3))]) co_X4_45 ci_X4_pairOf cv_X4_pairOf dX4_worth_20 rfl ha hb_X4 rfl rfl (Nat.le_of_ble_eq_true rfl) ⟨(Nat.le_of_ble_eq_true rfl), (Nat.le_of_ble_eq_true rfl)⟩ ⟨(Nat.le_of_ble_eq_true rfl), (Nat.le_of_ble_eq_true rfl)⟩ ?_
  refine t_X4_pairOf a b ha hra hb 0 0 2 (by omega) (by omega) (by omega) ?_
  refine ev_aload_n (pc' := 24) (i := 0) dX4_worth_23 rfl rfl rfl ?_
  refine ev_bipush (pc' := 26) (v := 8) dX4_worth_24 rfl kb_8 ?_
  refine ev_iconst (pc' := 27) (v := 1) dX4_worth_26 rfl ki_1 ?_
  refine ev_iconst (pc' := 28) (v := 3) dX4_worth_27 rfl ki_3 ?_
  refine ev_callV (pc' := 31) (rm' := rX4_pairOf) (b := a) (av := [.int 8, .int 1, .int 3]) (rest := [.long (cP2 (L b) 0 0 2), .long ((cP2 (L b) 0 0 1) * (cP2 (L b) 8 2 3))]) co_X4_45 ci_X4_pairOf cv_X4_pairOf dX4_worth_28 rfl ha hb_X4 rfl rfl (Nat.le_of_ble_eq_true rfl) ⟨(Nat.le_of_ble_eq_true rfl), (Nat.le_of_ble_eq_true rfl)⟩ ⟨(Nat.le_of_ble_eq_true rfl), (Nat.le_of_ble_eq_true rfl)⟩ ?_
  refine t_X4_pairOf a b ha hra hb 8 1 3 (by omega) (by omega) (by omega) ?_
  refine ev_lmul (pc' := 32) (v := (cP2 (L b) 0 0 2) * (cP2 (L b) 8 1 3)) dX4_worth_31 rfl rfl ?_
  refine ev_lsub (pc' := 33) (v := ((cP2 (L b) 0 0 1) * (cP2 (L b) 8 2 3)) - ((cP2 (L b) 0 0 2) * (cP2 (L b) 8 1 3))) dX4_worth_32 rfl rfl ?_
  refine ev_aload_n (pc' := 34) (i := 0) dX4_worth_33 rfl rfl rfl ?_
  refine ev_iconst (pc' := 35) (v := 0) dX4_worth_34 rfl ki_0 ?_
  refine ev_iconst (pc' := 36) (v := 0) dX4_worth_35 rfl ki_0 ?_
  refine ev_iconst (pc' := 37) (v := 3) dX4_worth_36 rfl ki_3 ?_
  refine ev_callV (pc' := 40) (rm' := rX4_pairOf) (b := a) (av := [.int 0, .int 0, .int 3]) (rest := [.long (((cP2 (L b) 0 0 1) * (cP2 (L b) 8 2 3)) - ((cP2 (L b) 0 0 2) * (cP2 (L b) 8 1 3)))]) co_X4_45 ci_X4_pairOf cv_X4_pairOf dX4_worth_37 rfl ha hb_X4 rfl rfl (Nat.le_of_ble_eq_true rfl) ⟨(Nat.le_of_ble_eq_true rfl), (Nat.le_of_ble_eq_true rfl)⟩ ⟨(Nat.le_of_ble_eq_true rfl), (Nat.le_of_ble_eq_true rfl)⟩ ?_
  refine t_X4_pairOf a b ha hra hb 0 0 3 (by omega) (by omega) (by omega) ?_
  refine ev_aload_n (pc' := 41) (i := 0) dX4_worth_40 rfl rfl rfl ?_
  refine ev_bipush (pc' := 43) (v := 8) dX4_worth_41 rfl kb_8 ?_
  refine ev_iconst (pc' := 44) (v := 1) dX4_worth_43 rfl ki_1 ?_
  refine ev_iconst (pc' := 45) (v := 2) dX4_worth_44 rfl ki_2 ?_
  refine ev_callV (pc' := 48) (rm' := rX4_pairOf) (b := a) (av := [.int 8, .int 1, .int 2]) (rest := [.long (cP2 (L b) 0 0 3), .long (((cP2 (L b) 0 0 1) * (cP2 (L b) 8 2 3)) - ((cP2 (L b) 0 0 2) * (cP2 (L b) 8 1 3)))]) co_X4_45 ci_X4_pairOf cv_X4_pairOf dX4_worth_45 rfl ha hb_X4 rfl rfl (Nat.le_of_ble_eq_true rfl) ⟨(Nat.le_of_ble_eq_true rfl), (Nat.le_of_ble_eq_true rfl)⟩ ⟨(Nat.le_of_ble_eq_true rfl), (Nat.le_of_ble_eq_true rfl)⟩ ?_
  refine t_X4_pairOf a b ha hra hb 8 1 2 (by omega) (by omega) (by omega) ?_
  refine ev_lmul (pc' := 49) (v := (cP2 (L b) 0 0 3) * (cP2 (L b) 8 1 2)) dX4_worth_48 rfl rfl ?_
  refine ev_ladd (pc' := 50) (v := (((cP2 (L b) 0 0 1) * (cP2 (L b) 8 2 3)) - ((cP2 (L b) 0 0 2) * (cP2 (L b) 8 1 3))) + ((cP2 (L b) 0 0 3) * (cP2 (L b) 8 1 2))) dX4_worth_49 rfl rfl ?_
  refine ev_aload_n (pc' := 51) (i := 0) dX4_worth_50 rfl rfl rfl ?_
  refine ev_iconst (pc' := 52) (v := 0) dX4_worth_51 rfl ki_0 ?_
  refine ev_iconst (pc' := 53) (v := 1) dX4_worth_52 rfl ki_1 ?_
  refine ev_iconst (pc' := 54) (v := 2) dX4_worth_53 rfl ki_2 ?_
  refine ev_callV (pc' := 57) (rm' := rX4_pairOf) (b := a) (av := [.int 0, .int 1, .int 2]) (rest := [.long ((((cP2 (L b) 0 0 1) * (cP2 (L b) 8 2 3)) - ((cP2 (L b) 0 0 2) * (cP2 (L b) 8 1 3))) + ((cP2 (L b) 0 0 3) * (cP2 (L b) 8 1 2)))]) co_X4_45 ci_X4_pairOf cv_X4_pairOf dX4_worth_54 rfl ha hb_X4 rfl rfl (Nat.le_of_ble_eq_true rfl) ⟨(Nat.le_of_ble_eq_true rfl), (Nat.le_of_ble_eq_true rfl)⟩ ⟨(Nat.le_of_ble_eq_true rfl), (Nat.le_of_ble_eq_true rfl)⟩ ?_
  refine t_X4_pairOf a b ha hra hb 0 1 2 (by omega) (by omega) (by omega) ?_
  refine ev_aload_n (pc' := 58) (i := 0) dX4_worth_57 rfl rfl rfl ?_
  refine ev_bipush (pc' := 60) (v := 8) dX4_worth_58 rfl kb_8 ?_
  refine ev_iconst (pc' := 61) (v := 0) dX4_worth_60 rfl ki_0 ?_
  refine ev_iconst (pc' := 62) (v := 3) dX4_worth_61 rfl ki_3 ?_
  refine ev_callV (pc' := 65) (rm' := rX4_pairOf) (b := a) (av := [.int 8, .int 0, .int 3]) (rest := [.long (cP2 (L b) 0 1 2), .long ((((cP2 (L b) 0 0 1) * (cP2 (L b) 8 2 3)) - ((cP2 (L b) 0 0 2) * (cP2 (L b) 8 1 3))) + ((cP2 (L b) 0 0 3) * (cP2 (L b) 8 1 2)))]) co_X4_45 ci_X4_pairOf cv_X4_pairOf dX4_worth_62 rfl ha hb_X4 rfl rfl (Nat.le_of_ble_eq_true rfl) ⟨(Nat.le_of_ble_eq_true rfl), (Nat.le_of_ble_eq_true rfl)⟩ ⟨(Nat.le_of_ble_eq_true rfl), (Nat.le_of_ble_eq_true rfl)⟩ ?_
  refine t_X4_pairOf a b ha hra hb 8 0 3 (by omega) (by omega) (by omega) ?_
  refine ev_lmul (pc' := 66) (v := (cP2 (L b) 0 1 2) * (cP2 (L b) 8 0 3)) dX4_worth_65 rfl rfl ?_
  refine ev_ladd (pc' := 67) (v := ((((cP2 (L b) 0 0 1) * (cP2 (L b) 8 2 3)) - ((cP2 (L b) 0 0 2) * (cP2 (L b) 8 1 3))) + ((cP2 (L b) 0 0 3) * (cP2 (L b) 8 1 2))) + ((cP2 (L b) 0 1 2) * (cP2 (L b) 8 0 3))) dX4_worth_66 rfl rfl ?_
  refine ev_aload_n (pc' := 68) (i := 0) dX4_worth_67 rfl rfl rfl ?_
  refine ev_iconst (pc' := 69) (v := 0) dX4_worth_68 rfl ki_0 ?_
  refine ev_iconst (pc' := 70) (v := 1) dX4_worth_69 rfl ki_1 ?_
  refine ev_iconst (pc' := 71) (v := 3) dX4_worth_70 rfl ki_3 ?_
  refine ev_callV (pc' := 74) (rm' := rX4_pairOf) (b := a) (av := [.int 0, .int 1, .int 3]) (rest := [.long (((((cP2 (L b) 0 0 1) * (cP2 (L b) 8 2 3)) - ((cP2 (L b) 0 0 2) * (cP2 (L b) 8 1 3))) + ((cP2 (L b) 0 0 3) * (cP2 (L b) 8 1 2))) + ((cP2 (L b) 0 1 2) * (cP2 (L b) 8 0 3)))]) co_X4_45 ci_X4_pairOf cv_X4_pairOf dX4_worth_71 rfl ha hb_X4 rfl rfl (Nat.le_of_ble_eq_true rfl) ⟨(Nat.le_of_ble_eq_true rfl), (Nat.le_of_ble_eq_true rfl)⟩ ⟨(Nat.le_of_ble_eq_true rfl), (Nat.le_of_ble_eq_true rfl)⟩ ?_
  refine t_X4_pairOf a b ha hra hb 0 1 3 (by omega) (by omega) (by omega) ?_
  refine ev_aload_n (pc' := 75) (i := 0) dX4_worth_74 rfl rfl rfl ?_
  refine ev_bipush (pc' := 77) (v := 8) dX4_worth_75 rfl kb_8 ?_
  refine ev_iconst (pc' := 78) (v := 0) dX4_worth_77 rfl ki_0 ?_
  refine ev_iconst (pc' := 79) (v := 2) dX4_worth_78 rfl ki_2 ?_
  refine ev_callV (pc' := 82) (rm' := rX4_pairOf) (b := a) (av := [.int 8, .int 0, .int 2]) (rest := [.long (cP2 (L b) 0 1 3), .long (((((cP2 (L b) 0 0 1) * (cP2 (L b) 8 2 3)) - ((cP2 (L b) 0 0 2) * (cP2 (L b) 8 1 3))) + ((cP2 (L b) 0 0 3) * (cP2 (L b) 8 1 2))) + ((cP2 (L b) 0 1 2) * (cP2 (L b) 8 0 3)))]) co_X4_45 ci_X4_pairOf cv_X4_pairOf dX4_worth_79 rfl ha hb_X4 rfl rfl (Nat.le_of_ble_eq_true rfl) ⟨(Nat.le_of_ble_eq_true rfl), (Nat.le_of_ble_eq_true rfl)⟩ ⟨(Nat.le_of_ble_eq_true rfl), (Nat.le_of_ble_eq_true rfl)⟩ ?_
  refine t_X4_pairOf a b ha hra hb 8 0 2 (by omega) (by omega) (by omega) ?_
  refine ev_lmul (pc' := 83) (v := (cP2 (L b) 0 1 3) * (cP2 (L b) 8 0 2)) dX4_worth_82 rfl rfl ?_
  refine ev_lsub (pc' := 84) (v := (((((cP2 (L b) 0 0 1) * (cP2 (L b) 8 2 3)) - ((cP2 (L b) 0 0 2) * (cP2 (L b) 8 1 3))) + ((cP2 (L b) 0 0 3) * (cP2 (L b) 8 1 2))) + ((cP2 (L b) 0 1 2) * (cP2 (L b) 8 0 3))) - ((cP2 (L b) 0 1 3) * (cP2 (L b) 8 0 2))) dX4_worth_83 rfl rfl ?_
  refine ev_aload_n (pc' := 85) (i := 0) dX4_worth_84 rfl rfl rfl ?_
  refine ev_iconst (pc' := 86) (v := 0) dX4_worth_85 rfl ki_0 ?_
  refine ev_iconst (pc' := 87) (v := 2) dX4_worth_86 rfl ki_2 ?_
  refine ev_iconst (pc' := 88) (v := 3) dX4_worth_87 rfl ki_3 ?_
  refine ev_callV (pc' := 91) (rm' := rX4_pairOf) (b := a) (av := [.int 0, .int 2, .int 3]) (rest := [.long ((((((cP2 (L b) 0 0 1) * (cP2 (L b) 8 2 3)) - ((cP2 (L b) 0 0 2) * (cP2 (L b) 8 1 3))) + ((cP2 (L b) 0 0 3) * (cP2 (L b) 8 1 2))) + ((cP2 (L b) 0 1 2) * (cP2 (L b) 8 0 3))) - ((cP2 (L b) 0 1 3) * (cP2 (L b) 8 0 2)))]) co_X4_45 ci_X4_pairOf cv_X4_pairOf dX4_worth_88 rfl ha hb_X4 rfl rfl (Nat.le_of_ble_eq_true rfl) ⟨(Nat.le_of_ble_eq_true rfl), (Nat.le_of_ble_eq_true rfl)⟩ ⟨(Nat.le_of_ble_eq_true rfl), (Nat.le_of_ble_eq_true rfl)⟩ ?_
  refine t_X4_pairOf a b ha hra hb 0 2 3 (by omega) (by omega) (by omega) ?_
  refine ev_aload_n (pc' := 92) (i := 0) dX4_worth_91 rfl rfl rfl ?_
  refine ev_bipush (pc' := 94) (v := 8) dX4_worth_92 rfl kb_8 ?_
  refine ev_iconst (pc' := 95) (v := 0) dX4_worth_94 rfl ki_0 ?_
  refine ev_iconst (pc' := 96) (v := 1) dX4_worth_95 rfl ki_1 ?_
  refine ev_callV (pc' := 99) (rm' := rX4_pairOf) (b := a) (av := [.int 8, .int 0, .int 1]) (rest := [.long (cP2 (L b) 0 2 3), .long ((((((cP2 (L b) 0 0 1) * (cP2 (L b) 8 2 3)) - ((cP2 (L b) 0 0 2) * (cP2 (L b) 8 1 3))) + ((cP2 (L b) 0 0 3) * (cP2 (L b) 8 1 2))) + ((cP2 (L b) 0 1 2) * (cP2 (L b) 8 0 3))) - ((cP2 (L b) 0 1 3) * (cP2 (L b) 8 0 2)))]) co_X4_45 ci_X4_pairOf cv_X4_pairOf dX4_worth_96 rfl ha hb_X4 rfl rfl (Nat.le_of_ble_eq_true rfl) ⟨(Nat.le_of_ble_eq_true rfl), (Nat.le_of_ble_eq_true rfl)⟩ ⟨(Nat.le_of_ble_eq_true rfl), (Nat.le_of_ble_eq_true rfl)⟩ ?_
  refine t_X4_pairOf a b ha hra hb 8 0 1 (by omega) (by omega) (by omega) ?_
  refine ev_lmul (pc' := 100) (v := (cP2 (L b) 0 2 3) * (cP2 (L b) 8 0 1)) dX4_worth_99 rfl rfl ?_
  refine ev_ladd (pc' := 101) (v := ((((((cP2 (L b) 0 0 1) * (cP2 (L b) 8 2 3)) - ((cP2 (L b) 0 0 2) * (cP2 (L b) 8 1 3))) + ((cP2 (L b) 0 0 3) * (cP2 (L b) 8 1 2))) + ((cP2 (L b) 0 1 2) * (cP2 (L b) 8 0 3))) - ((cP2 (L b) 0 1 3) * (cP2 (L b) 8 0 2))) + ((cP2 (L b) 0 2 3) * (cP2 (L b) 8 0 1))) dX4_worth_100 rfl rfl ?_
  refine ev_lret dX4_worth_101 rfl ⟨Nat.le_refl _, Nat.le_refl _⟩ ?_
  exact k
set_option maxRecDepth 4000 in
theorem t_X4_ten0 {g : ma_G} {Post : ma_P} {I : ma_I} {L : ma_L} (a b : Nat) (ha : HS a = (4, 6)) (hra : RF a 0 = b) (hb : HS b = (10, 16))  (k : Post (some (.long ((L b) 0))) HS I L RF 146) : CT g yX4_ten cX4_ten 2 (some .long) rX4_ten [.ref a, .int 0] Post HS I L RF 146 := by
  refine ct_of (lv := [some (.ref a), some (.int 0)]) (by decide) (Nat.le_of_ble_eq_true rfl) rfl ?_
  refine ev_iload_n (pc' := 1) (i := 1) dX4_ten_0 rfl rfl rfl ?_
  refine ev_if_lt (tgt := 10) (pc' := 4) dX4_ten_1 rfl rfl (fun h => absurd h (by decide)) (fun _ => ?_)
  refine ev_iload_n (pc' := 5) (i := 1) dX4_ten_4 rfl rfl rfl ?_
  refine ev_bipush (pc' := 7) (v := 10) dX4_ten_5 rfl kb_10 ?_
  refine ev_icmp_lt (tgt := 14) (pc' := 10) dX4_ten_7 rfl rfl (fun _ => ?_) (fun h => absurd (by decide) h)
  refine ev_aload_n (pc' := 15) (i := 0) dX4_ten_14 rfl rfl rfl ?_
  refine ev_getR (pc' := 18) fo_X4_9 dX4_ten_15 rfl ha rfl hra ?_
  refine ev_iconst (pc' := 19) (v := 4) dX4_ten_18 rfl ki_4 ?_
  refine ev_getRow (pc' := 22) fn_X4_18 dX4_ten_19 rfl ?_
  refine ev_iload_n (pc' := 23) (i := 1) dX4_ten_22 rfl rfl rfl ?_
  refine ev_row1 (pc' := 24) (j := 0) (v := 0) dX4_ten_23 rfl rfl (Nat.le_of_ble_eq_true rfl) rfl ?_
  refine ev_imul (pc' := 25) (v := 0) dX4_ten_24 rfl (by decide) ?_
  refine ev_getCol (pc' := 28) fn_X4_22 dX4_ten_25 rfl ?_
  refine ev_iload_n (pc' := 29) (i := 1) dX4_ten_28 rfl rfl rfl ?_
  refine ev_row2 (pc' := 30) (j := 0) (v := 0) dX4_ten_29 rfl rfl (Nat.le_of_ble_eq_true rfl) rfl ?_
  refine ev_iadd (pc' := 31) (v := 0) dX4_ten_30 rfl (by decide) ?_
  refine ev_lald (pc' := 32) (j := 0) (v := (L b) 0) dX4_ten_31 rfl hb rfl (Nat.le_of_ble_eq_true rfl) (Nat.le_of_ble_eq_true rfl) rfl ?_
  refine ev_lret dX4_ten_32 rfl ⟨Nat.le_refl _, Nat.le_refl _⟩ ?_
  exact k
set_option maxRecDepth 4000 in
theorem t_X4_ten1 {g : ma_G} {Post : ma_P} {I : ma_I} {L : ma_L} (a b : Nat) (ha : HS a = (4, 6)) (hra : RF a 0 = b) (hb : HS b = (10, 16))  (k : Post (some (.long ((L b) 1))) HS I L RF 146) : CT g yX4_ten cX4_ten 2 (some .long) rX4_ten [.ref a, .int 1] Post HS I L RF 146 := by
  refine ct_of (lv := [some (.ref a), some (.int 1)]) (by decide) (Nat.le_of_ble_eq_true rfl) rfl ?_
  refine ev_iload_n (pc' := 1) (i := 1) dX4_ten_0 rfl rfl rfl ?_
  refine ev_if_lt (tgt := 10) (pc' := 4) dX4_ten_1 rfl rfl (fun h => absurd h (by decide)) (fun _ => ?_)
  refine ev_iload_n (pc' := 5) (i := 1) dX4_ten_4 rfl rfl rfl ?_
  refine ev_bipush (pc' := 7) (v := 10) dX4_ten_5 rfl kb_10 ?_
  refine ev_icmp_lt (tgt := 14) (pc' := 10) dX4_ten_7 rfl rfl (fun _ => ?_) (fun h => absurd (by decide) h)
  refine ev_aload_n (pc' := 15) (i := 0) dX4_ten_14 rfl rfl rfl ?_
  refine ev_getR (pc' := 18) fo_X4_9 dX4_ten_15 rfl ha rfl hra ?_
  refine ev_iconst (pc' := 19) (v := 4) dX4_ten_18 rfl ki_4 ?_
  refine ev_getRow (pc' := 22) fn_X4_18 dX4_ten_19 rfl ?_
  refine ev_iload_n (pc' := 23) (i := 1) dX4_ten_22 rfl rfl rfl ?_
  refine ev_row1 (pc' := 24) (j := 1) (v := 0) dX4_ten_23 rfl rfl (Nat.le_of_ble_eq_true rfl) rfl ?_
  refine ev_imul (pc' := 25) (v := 0) dX4_ten_24 rfl (by decide) ?_
  refine ev_getCol (pc' := 28) fn_X4_22 dX4_ten_25 rfl ?_
  refine ev_iload_n (pc' := 29) (i := 1) dX4_ten_28 rfl rfl rfl ?_
  refine ev_row2 (pc' := 30) (j := 1) (v := 1) dX4_ten_29 rfl rfl (Nat.le_of_ble_eq_true rfl) rfl ?_
  refine ev_iadd (pc' := 31) (v := 1) dX4_ten_30 rfl (by decide) ?_
  refine ev_lald (pc' := 32) (j := 1) (v := (L b) 1) dX4_ten_31 rfl hb rfl (Nat.le_of_ble_eq_true rfl) (Nat.le_of_ble_eq_true rfl) rfl ?_
  refine ev_lret dX4_ten_32 rfl ⟨Nat.le_refl _, Nat.le_refl _⟩ ?_
  exact k
set_option maxRecDepth 4000 in
theorem t_X4_ten2 {g : ma_G} {Post : ma_P} {I : ma_I} {L : ma_L} (a b : Nat) (ha : HS a = (4, 6)) (hra : RF a 0 = b) (hb : HS b = (10, 16))  (k : Post (some (.long ((L b) 2))) HS I L RF 146) : CT g yX4_ten cX4_ten 2 (some .long) rX4_ten [.ref a, .int 2] Post HS I L RF 146 := by
  refine ct_of (lv := [some (.ref a), some (.int 2)]) (by decide) (Nat.le_of_ble_eq_true rfl) rfl ?_
  refine ev_iload_n (pc' := 1) (i := 1) dX4_ten_0 rfl rfl rfl ?_
  refine ev_if_lt (tgt := 10) (pc' := 4) dX4_ten_1 rfl rfl (fun h => absurd h (by decide)) (fun _ => ?_)
  refine ev_iload_n (pc' := 5) (i := 1) dX4_ten_4 rfl rfl rfl ?_
  refine ev_bipush (pc' := 7) (v := 10) dX4_ten_5 rfl kb_10 ?_
  refine ev_icmp_lt (tgt := 14) (pc' := 10) dX4_ten_7 rfl rfl (fun _ => ?_) (fun h => absurd (by decide) h)
  refine ev_aload_n (pc' := 15) (i := 0) dX4_ten_14 rfl rfl rfl ?_
  refine ev_getR (pc' := 18) fo_X4_9 dX4_ten_15 rfl ha rfl hra ?_
  refine ev_iconst (pc' := 19) (v := 4) dX4_ten_18 rfl ki_4 ?_
  refine ev_getRow (pc' := 22) fn_X4_18 dX4_ten_19 rfl ?_
  refine ev_iload_n (pc' := 23) (i := 1) dX4_ten_22 rfl rfl rfl ?_
  refine ev_row1 (pc' := 24) (j := 2) (v := 0) dX4_ten_23 rfl rfl (Nat.le_of_ble_eq_true rfl) rfl ?_
  refine ev_imul (pc' := 25) (v := 0) dX4_ten_24 rfl (by decide) ?_
  refine ev_getCol (pc' := 28) fn_X4_22 dX4_ten_25 rfl ?_
  refine ev_iload_n (pc' := 29) (i := 1) dX4_ten_28 rfl rfl rfl ?_
  refine ev_row2 (pc' := 30) (j := 2) (v := 2) dX4_ten_29 rfl rfl (Nat.le_of_ble_eq_true rfl) rfl ?_
  refine ev_iadd (pc' := 31) (v := 2) dX4_ten_30 rfl (by decide) ?_
  refine ev_lald (pc' := 32) (j := 2) (v := (L b) 2) dX4_ten_31 rfl hb rfl (Nat.le_of_ble_eq_true rfl) (Nat.le_of_ble_eq_true rfl) rfl ?_
  refine ev_lret dX4_ten_32 rfl ⟨Nat.le_refl _, Nat.le_refl _⟩ ?_
  exact k
set_option maxRecDepth 4000 in
theorem t_X4_ten3 {g : ma_G} {Post : ma_P} {I : ma_I} {L : ma_L} (a b : Nat) (ha : HS a = (4, 6)) (hra : RF a 0 = b) (hb : HS b = (10, 16))  (k : Post (some (.long ((L b) 3))) HS I L RF 146) : CT g yX4_ten cX4_ten 2 (some .long) rX4_ten [.ref a, .int 3] Post HS I L RF 146 := by
  refine ct_of (lv := [some (.ref a), some (.int 3)]) (by decide) (Nat.le_of_ble_eq_true rfl) rfl ?_
  refine ev_iload_n (pc' := 1) (i := 1) dX4_ten_0 rfl rfl rfl ?_
  refine ev_if_lt (tgt := 10) (pc' := 4) dX4_ten_1 rfl rfl (fun h => absurd h (by decide)) (fun _ => ?_)
  refine ev_iload_n (pc' := 5) (i := 1) dX4_ten_4 rfl rfl rfl ?_
  refine ev_bipush (pc' := 7) (v := 10) dX4_ten_5 rfl kb_10 ?_
  refine ev_icmp_lt (tgt := 14) (pc' := 10) dX4_ten_7 rfl rfl (fun _ => ?_) (fun h => absurd (by decide) h)
  refine ev_aload_n (pc' := 15) (i := 0) dX4_ten_14 rfl rfl rfl ?_
  refine ev_getR (pc' := 18) fo_X4_9 dX4_ten_15 rfl ha rfl hra ?_
  refine ev_iconst (pc' := 19) (v := 4) dX4_ten_18 rfl ki_4 ?_
  refine ev_getRow (pc' := 22) fn_X4_18 dX4_ten_19 rfl ?_
  refine ev_iload_n (pc' := 23) (i := 1) dX4_ten_22 rfl rfl rfl ?_
  refine ev_row1 (pc' := 24) (j := 3) (v := 0) dX4_ten_23 rfl rfl (Nat.le_of_ble_eq_true rfl) rfl ?_
  refine ev_imul (pc' := 25) (v := 0) dX4_ten_24 rfl (by decide) ?_
  refine ev_getCol (pc' := 28) fn_X4_22 dX4_ten_25 rfl ?_
  refine ev_iload_n (pc' := 29) (i := 1) dX4_ten_28 rfl rfl rfl ?_
  refine ev_row2 (pc' := 30) (j := 3) (v := 3) dX4_ten_29 rfl rfl (Nat.le_of_ble_eq_true rfl) rfl ?_
  refine ev_iadd (pc' := 31) (v := 3) dX4_ten_30 rfl (by decide) ?_
  refine ev_lald (pc' := 32) (j := 3) (v := (L b) 3) dX4_ten_31 rfl hb rfl (Nat.le_of_ble_eq_true rfl) (Nat.le_of_ble_eq_true rfl) rfl ?_
  refine ev_lret dX4_ten_32 rfl ⟨Nat.le_refl _, Nat.le_refl _⟩ ?_
  exact k
set_option maxRecDepth 4000 in
theorem t_X4_ten4 {g : ma_G} {Post : ma_P} {I : ma_I} {L : ma_L} (a b : Nat) (ha : HS a = (4, 6)) (hra : RF a 0 = b) (hb : HS b = (10, 16))  (k : Post (some (.long ((L b) 5))) HS I L RF 146) : CT g yX4_ten cX4_ten 2 (some .long) rX4_ten [.ref a, .int 4] Post HS I L RF 146 := by
  refine ct_of (lv := [some (.ref a), some (.int 4)]) (by decide) (Nat.le_of_ble_eq_true rfl) rfl ?_
  refine ev_iload_n (pc' := 1) (i := 1) dX4_ten_0 rfl rfl rfl ?_
  refine ev_if_lt (tgt := 10) (pc' := 4) dX4_ten_1 rfl rfl (fun h => absurd h (by decide)) (fun _ => ?_)
  refine ev_iload_n (pc' := 5) (i := 1) dX4_ten_4 rfl rfl rfl ?_
  refine ev_bipush (pc' := 7) (v := 10) dX4_ten_5 rfl kb_10 ?_
  refine ev_icmp_lt (tgt := 14) (pc' := 10) dX4_ten_7 rfl rfl (fun _ => ?_) (fun h => absurd (by decide) h)
  refine ev_aload_n (pc' := 15) (i := 0) dX4_ten_14 rfl rfl rfl ?_
  refine ev_getR (pc' := 18) fo_X4_9 dX4_ten_15 rfl ha rfl hra ?_
  refine ev_iconst (pc' := 19) (v := 4) dX4_ten_18 rfl ki_4 ?_
  refine ev_getRow (pc' := 22) fn_X4_18 dX4_ten_19 rfl ?_
  refine ev_iload_n (pc' := 23) (i := 1) dX4_ten_22 rfl rfl rfl ?_
  refine ev_row1 (pc' := 24) (j := 4) (v := 1) dX4_ten_23 rfl rfl (Nat.le_of_ble_eq_true rfl) rfl ?_
  refine ev_imul (pc' := 25) (v := 4) dX4_ten_24 rfl (by decide) ?_
  refine ev_getCol (pc' := 28) fn_X4_22 dX4_ten_25 rfl ?_
  refine ev_iload_n (pc' := 29) (i := 1) dX4_ten_28 rfl rfl rfl ?_
  refine ev_row2 (pc' := 30) (j := 4) (v := 1) dX4_ten_29 rfl rfl (Nat.le_of_ble_eq_true rfl) rfl ?_
  refine ev_iadd (pc' := 31) (v := 5) dX4_ten_30 rfl (by decide) ?_
  refine ev_lald (pc' := 32) (j := 5) (v := (L b) 5) dX4_ten_31 rfl hb rfl (Nat.le_of_ble_eq_true rfl) (Nat.le_of_ble_eq_true rfl) rfl ?_
  refine ev_lret dX4_ten_32 rfl ⟨Nat.le_refl _, Nat.le_refl _⟩ ?_
  exact k
set_option maxRecDepth 4000 in
theorem t_X4_ten5 {g : ma_G} {Post : ma_P} {I : ma_I} {L : ma_L} (a b : Nat) (ha : HS a = (4, 6)) (hra : RF a 0 = b) (hb : HS b = (10, 16))  (k : Post (some (.long ((L b) 6))) HS I L RF 146) : CT g yX4_ten cX4_ten 2 (some .long) rX4_ten [.ref a, .int 5] Post HS I L RF 146 := by
  refine ct_of (lv := [some (.ref a), some (.int 5)]) (by decide) (Nat.le_of_ble_eq_true rfl) rfl ?_
  refine ev_iload_n (pc' := 1) (i := 1) dX4_ten_0 rfl rfl rfl ?_
  refine ev_if_lt (tgt := 10) (pc' := 4) dX4_ten_1 rfl rfl (fun h => absurd h (by decide)) (fun _ => ?_)
  refine ev_iload_n (pc' := 5) (i := 1) dX4_ten_4 rfl rfl rfl ?_
  refine ev_bipush (pc' := 7) (v := 10) dX4_ten_5 rfl kb_10 ?_
  refine ev_icmp_lt (tgt := 14) (pc' := 10) dX4_ten_7 rfl rfl (fun _ => ?_) (fun h => absurd (by decide) h)
  refine ev_aload_n (pc' := 15) (i := 0) dX4_ten_14 rfl rfl rfl ?_
  refine ev_getR (pc' := 18) fo_X4_9 dX4_ten_15 rfl ha rfl hra ?_
  refine ev_iconst (pc' := 19) (v := 4) dX4_ten_18 rfl ki_4 ?_
  refine ev_getRow (pc' := 22) fn_X4_18 dX4_ten_19 rfl ?_
  refine ev_iload_n (pc' := 23) (i := 1) dX4_ten_22 rfl rfl rfl ?_
  refine ev_row1 (pc' := 24) (j := 5) (v := 1) dX4_ten_23 rfl rfl (Nat.le_of_ble_eq_true rfl) rfl ?_
  refine ev_imul (pc' := 25) (v := 4) dX4_ten_24 rfl (by decide) ?_
  refine ev_getCol (pc' := 28) fn_X4_22 dX4_ten_25 rfl ?_
  refine ev_iload_n (pc' := 29) (i := 1) dX4_ten_28 rfl rfl rfl ?_
  refine ev_row2 (pc' := 30) (j := 5) (v := 2) dX4_ten_29 rfl rfl (Nat.le_of_ble_eq_true rfl) rfl ?_
  refine ev_iadd (pc' := 31) (v := 6) dX4_ten_30 rfl (by decide) ?_
  refine ev_lald (pc' := 32) (j := 6) (v := (L b) 6) dX4_ten_31 rfl hb rfl (Nat.le_of_ble_eq_true rfl) (Nat.le_of_ble_eq_true rfl) rfl ?_
  refine ev_lret dX4_ten_32 rfl ⟨Nat.le_refl _, Nat.le_refl _⟩ ?_
  exact k
set_option maxRecDepth 4000 in
theorem t_X4_ten6 {g : ma_G} {Post : ma_P} {I : ma_I} {L : ma_L} (a b : Nat) (ha : HS a = (4, 6)) (hra : RF a 0 = b) (hb : HS b = (10, 16))  (k : Post (some (.long ((L b) 7))) HS I L RF 146) : CT g yX4_ten cX4_ten 2 (some .long) rX4_ten [.ref a, .int 6] Post HS I L RF 146 := by
  refine ct_of (lv := [some (.ref a), some (.int 6)]) (by decide) (Nat.le_of_ble_eq_true rfl) rfl ?_
  refine ev_iload_n (pc' := 1) (i := 1) dX4_ten_0 rfl rfl rfl ?_
  refine ev_if_lt (tgt := 10) (pc' := 4) dX4_ten_1 rfl rfl (fun h => absurd h (by decide)) (fun _ => ?_)
  refine ev_iload_n (pc' := 5) (i := 1) dX4_ten_4 rfl rfl rfl ?_
  refine ev_bipush (pc' := 7) (v := 10) dX4_ten_5 rfl kb_10 ?_
  refine ev_icmp_lt (tgt := 14) (pc' := 10) dX4_ten_7 rfl rfl (fun _ => ?_) (fun h => absurd (by decide) h)
  refine ev_aload_n (pc' := 15) (i := 0) dX4_ten_14 rfl rfl rfl ?_
  refine ev_getR (pc' := 18) fo_X4_9 dX4_ten_15 rfl ha rfl hra ?_
  refine ev_iconst (pc' := 19) (v := 4) dX4_ten_18 rfl ki_4 ?_
  refine ev_getRow (pc' := 22) fn_X4_18 dX4_ten_19 rfl ?_
  refine ev_iload_n (pc' := 23) (i := 1) dX4_ten_22 rfl rfl rfl ?_
  refine ev_row1 (pc' := 24) (j := 6) (v := 1) dX4_ten_23 rfl rfl (Nat.le_of_ble_eq_true rfl) rfl ?_
  refine ev_imul (pc' := 25) (v := 4) dX4_ten_24 rfl (by decide) ?_
  refine ev_getCol (pc' := 28) fn_X4_22 dX4_ten_25 rfl ?_
  refine ev_iload_n (pc' := 29) (i := 1) dX4_ten_28 rfl rfl rfl ?_
  refine ev_row2 (pc' := 30) (j := 6) (v := 3) dX4_ten_29 rfl rfl (Nat.le_of_ble_eq_true rfl) rfl ?_
  refine ev_iadd (pc' := 31) (v := 7) dX4_ten_30 rfl (by decide) ?_
  refine ev_lald (pc' := 32) (j := 7) (v := (L b) 7) dX4_ten_31 rfl hb rfl (Nat.le_of_ble_eq_true rfl) (Nat.le_of_ble_eq_true rfl) rfl ?_
  refine ev_lret dX4_ten_32 rfl ⟨Nat.le_refl _, Nat.le_refl _⟩ ?_
  exact k
set_option maxRecDepth 4000 in
theorem t_X4_ten7 {g : ma_G} {Post : ma_P} {I : ma_I} {L : ma_L} (a b : Nat) (ha : HS a = (4, 6)) (hra : RF a 0 = b) (hb : HS b = (10, 16))  (k : Post (some (.long ((L b) 10))) HS I L RF 146) : CT g yX4_ten cX4_ten 2 (some .long) rX4_ten [.ref a, .int 7] Post HS I L RF 146 := by
  refine ct_of (lv := [some (.ref a), some (.int 7)]) (by decide) (Nat.le_of_ble_eq_true rfl) rfl ?_
  refine ev_iload_n (pc' := 1) (i := 1) dX4_ten_0 rfl rfl rfl ?_
  refine ev_if_lt (tgt := 10) (pc' := 4) dX4_ten_1 rfl rfl (fun h => absurd h (by decide)) (fun _ => ?_)
  refine ev_iload_n (pc' := 5) (i := 1) dX4_ten_4 rfl rfl rfl ?_
  refine ev_bipush (pc' := 7) (v := 10) dX4_ten_5 rfl kb_10 ?_
  refine ev_icmp_lt (tgt := 14) (pc' := 10) dX4_ten_7 rfl rfl (fun _ => ?_) (fun h => absurd (by decide) h)
  refine ev_aload_n (pc' := 15) (i := 0) dX4_ten_14 rfl rfl rfl ?_
  refine ev_getR (pc' := 18) fo_X4_9 dX4_ten_15 rfl ha rfl hra ?_
  refine ev_iconst (pc' := 19) (v := 4) dX4_ten_18 rfl ki_4 ?_
  refine ev_getRow (pc' := 22) fn_X4_18 dX4_ten_19 rfl ?_
  refine ev_iload_n (pc' := 23) (i := 1) dX4_ten_22 rfl rfl rfl ?_
  refine ev_row1 (pc' := 24) (j := 7) (v := 2) dX4_ten_23 rfl rfl (Nat.le_of_ble_eq_true rfl) rfl ?_
  refine ev_imul (pc' := 25) (v := 8) dX4_ten_24 rfl (by decide) ?_
  refine ev_getCol (pc' := 28) fn_X4_22 dX4_ten_25 rfl ?_
  refine ev_iload_n (pc' := 29) (i := 1) dX4_ten_28 rfl rfl rfl ?_
  refine ev_row2 (pc' := 30) (j := 7) (v := 2) dX4_ten_29 rfl rfl (Nat.le_of_ble_eq_true rfl) rfl ?_
  refine ev_iadd (pc' := 31) (v := 10) dX4_ten_30 rfl (by decide) ?_
  refine ev_lald (pc' := 32) (j := 10) (v := (L b) 10) dX4_ten_31 rfl hb rfl (Nat.le_of_ble_eq_true rfl) (Nat.le_of_ble_eq_true rfl) rfl ?_
  refine ev_lret dX4_ten_32 rfl ⟨Nat.le_refl _, Nat.le_refl _⟩ ?_
  exact k
set_option maxRecDepth 4000 in
theorem t_X4_ten8 {g : ma_G} {Post : ma_P} {I : ma_I} {L : ma_L} (a b : Nat) (ha : HS a = (4, 6)) (hra : RF a 0 = b) (hb : HS b = (10, 16))  (k : Post (some (.long ((L b) 11))) HS I L RF 146) : CT g yX4_ten cX4_ten 2 (some .long) rX4_ten [.ref a, .int 8] Post HS I L RF 146 := by
  refine ct_of (lv := [some (.ref a), some (.int 8)]) (by decide) (Nat.le_of_ble_eq_true rfl) rfl ?_
  refine ev_iload_n (pc' := 1) (i := 1) dX4_ten_0 rfl rfl rfl ?_
  refine ev_if_lt (tgt := 10) (pc' := 4) dX4_ten_1 rfl rfl (fun h => absurd h (by decide)) (fun _ => ?_)
  refine ev_iload_n (pc' := 5) (i := 1) dX4_ten_4 rfl rfl rfl ?_
  refine ev_bipush (pc' := 7) (v := 10) dX4_ten_5 rfl kb_10 ?_
  refine ev_icmp_lt (tgt := 14) (pc' := 10) dX4_ten_7 rfl rfl (fun _ => ?_) (fun h => absurd (by decide) h)
  refine ev_aload_n (pc' := 15) (i := 0) dX4_ten_14 rfl rfl rfl ?_
  refine ev_getR (pc' := 18) fo_X4_9 dX4_ten_15 rfl ha rfl hra ?_
  refine ev_iconst (pc' := 19) (v := 4) dX4_ten_18 rfl ki_4 ?_
  refine ev_getRow (pc' := 22) fn_X4_18 dX4_ten_19 rfl ?_
  refine ev_iload_n (pc' := 23) (i := 1) dX4_ten_22 rfl rfl rfl ?_
  refine ev_row1 (pc' := 24) (j := 8) (v := 2) dX4_ten_23 rfl rfl (Nat.le_of_ble_eq_true rfl) rfl ?_
  refine ev_imul (pc' := 25) (v := 8) dX4_ten_24 rfl (by decide) ?_
  refine ev_getCol (pc' := 28) fn_X4_22 dX4_ten_25 rfl ?_
  refine ev_iload_n (pc' := 29) (i := 1) dX4_ten_28 rfl rfl rfl ?_
  refine ev_row2 (pc' := 30) (j := 8) (v := 3) dX4_ten_29 rfl rfl (Nat.le_of_ble_eq_true rfl) rfl ?_
  refine ev_iadd (pc' := 31) (v := 11) dX4_ten_30 rfl (by decide) ?_
  refine ev_lald (pc' := 32) (j := 11) (v := (L b) 11) dX4_ten_31 rfl hb rfl (Nat.le_of_ble_eq_true rfl) (Nat.le_of_ble_eq_true rfl) rfl ?_
  refine ev_lret dX4_ten_32 rfl ⟨Nat.le_refl _, Nat.le_refl _⟩ ?_
  exact k
set_option maxRecDepth 4000 in
theorem t_X4_ten9 {g : ma_G} {Post : ma_P} {I : ma_I} {L : ma_L} (a b : Nat) (ha : HS a = (4, 6)) (hra : RF a 0 = b) (hb : HS b = (10, 16))  (k : Post (some (.long ((L b) 15))) HS I L RF 146) : CT g yX4_ten cX4_ten 2 (some .long) rX4_ten [.ref a, .int 9] Post HS I L RF 146 := by
  refine ct_of (lv := [some (.ref a), some (.int 9)]) (by decide) (Nat.le_of_ble_eq_true rfl) rfl ?_
  refine ev_iload_n (pc' := 1) (i := 1) dX4_ten_0 rfl rfl rfl ?_
  refine ev_if_lt (tgt := 10) (pc' := 4) dX4_ten_1 rfl rfl (fun h => absurd h (by decide)) (fun _ => ?_)
  refine ev_iload_n (pc' := 5) (i := 1) dX4_ten_4 rfl rfl rfl ?_
  refine ev_bipush (pc' := 7) (v := 10) dX4_ten_5 rfl kb_10 ?_
  refine ev_icmp_lt (tgt := 14) (pc' := 10) dX4_ten_7 rfl rfl (fun _ => ?_) (fun h => absurd (by decide) h)
  refine ev_aload_n (pc' := 15) (i := 0) dX4_ten_14 rfl rfl rfl ?_
  refine ev_getR (pc' := 18) fo_X4_9 dX4_ten_15 rfl ha rfl hra ?_
  refine ev_iconst (pc' := 19) (v := 4) dX4_ten_18 rfl ki_4 ?_
  refine ev_getRow (pc' := 22) fn_X4_18 dX4_ten_19 rfl ?_
  refine ev_iload_n (pc' := 23) (i := 1) dX4_ten_22 rfl rfl rfl ?_
  refine ev_row1 (pc' := 24) (j := 9) (v := 3) dX4_ten_23 rfl rfl (Nat.le_of_ble_eq_true rfl) rfl ?_
  refine ev_imul (pc' := 25) (v := 12) dX4_ten_24 rfl (by decide) ?_
  refine ev_getCol (pc' := 28) fn_X4_22 dX4_ten_25 rfl ?_
  refine ev_iload_n (pc' := 29) (i := 1) dX4_ten_28 rfl rfl rfl ?_
  refine ev_row2 (pc' := 30) (j := 9) (v := 3) dX4_ten_29 rfl rfl (Nat.le_of_ble_eq_true rfl) rfl ?_
  refine ev_iadd (pc' := 31) (v := 15) dX4_ten_30 rfl (by decide) ?_
  refine ev_lald (pc' := 32) (j := 15) (v := (L b) 15) dX4_ten_31 rfl hb rfl (Nat.le_of_ble_eq_true rfl) (Nat.le_of_ble_eq_true rfl) rfl ?_
  refine ev_lret dX4_ten_32 rfl ⟨Nat.le_refl _, Nat.le_refl _⟩ ?_
  exact k
set_option maxRecDepth 4000 in
theorem t_X4_isOnAt {g : ma_G} {Post : ma_P} {I : ma_I} {L : ma_L} (a b : Nat) (ha : HS a = (4, 6)) (hra : RF a 0 = b) (hb : HS b = (10, 16)) (z : Int64) (k : Post (some (.int (if (((L a) 4) + (z * (((L a) 5) + (((L b) 10) * z)))) = 0 then (1 : Int32) else 0))) HS I L RF 146) : CT g yX4_isOnAt cX4_isOnAt 3 (some .boolean) rX4_isOnAt [.ref a, .long z] Post HS I L RF 146 := by
  refine ct_of (lv := [some (.ref a), some (.long z), none]) (by decide) (Nat.le_of_ble_eq_true rfl) rfl ?_
  refine ev_aload_n (pc' := 1) (i := 0) dX4_isOnAt_0 rfl rfl rfl ?_
  refine ev_getL (pc' := 4) (v := (L a) 4) fo_X4_73 dX4_isOnAt_1 rfl ha rfl rfl ?_
  refine ev_lload_n (pc' := 5) (i := 1) dX4_isOnAt_4 rfl rfl rfl ?_
  refine ev_aload_n (pc' := 6) (i := 0) dX4_isOnAt_5 rfl rfl rfl ?_
  refine ev_getL (pc' := 9) (v := (L a) 5) fo_X4_77 dX4_isOnAt_6 rfl ha rfl rfl ?_
  refine ev_aload_n (pc' := 10) (i := 0) dX4_isOnAt_9 rfl rfl rfl ?_
  refine ev_getR (pc' := 13) fo_X4_9 dX4_isOnAt_10 rfl ha rfl hra ?_
  refine ev_bipush (pc' := 15) (v := 10) dX4_isOnAt_13 rfl kb_10 ?_
  refine ev_lald (pc' := 16) (j := 10) (v := (L b) 10) dX4_isOnAt_15 rfl hb rfl (Nat.le_of_ble_eq_true rfl) (Nat.le_of_ble_eq_true rfl) rfl ?_
  refine ev_lload_n (pc' := 17) (i := 1) dX4_isOnAt_16 rfl rfl rfl ?_
  refine ev_lmul (pc' := 18) (v := ((L b) 10) * z) dX4_isOnAt_17 rfl rfl ?_
  refine ev_ladd (pc' := 19) (v := ((L a) 5) + (((L b) 10) * z)) dX4_isOnAt_18 rfl rfl ?_
  refine ev_lmul (pc' := 20) (v := z * (((L a) 5) + (((L b) 10) * z))) dX4_isOnAt_19 rfl rfl ?_
  refine ev_ladd (pc' := 21) (v := ((L a) 4) + (z * (((L a) 5) + (((L b) 10) * z)))) dX4_isOnAt_20 rfl rfl ?_
  refine ev_lconst (pc' := 22) (v := 0) dX4_isOnAt_21 rfl kl_0 ?_
  suffices K3 : ∀ x2 : Int32, x2 = (if (((L a) 4) + (z * (((L a) 5) + (((L b) 10) * z)))) = 0 then (1 : Int32) else 0) → EV g yX4_isOnAt cX4_isOnAt 3 (some .boolean) rX4_isOnAt (ma_ZM g rX4_isOnAt Post) 31 [some (.ref a), some (.long z), none] [.int x2] HS I L RF 146 0 0 by
    refine ev_lc_ne (p1 := 23) (tgt := 30) (pc' := 26) dX4_isOnAt_22 rfl dX4_isOnAt_23 rfl rfl (fun c4 => ?_) (fun c4 => ?_)
    · refine ev_iconst (pc' := 31) (v := 0) dX4_isOnAt_30 rfl ki_0 ?_
      exact K3 _ (if_neg c4).symm
    · refine ev_iconst (pc' := 27) (v := 1) dX4_isOnAt_26 rfl ki_1 ?_
      refine ev_goto (tgt := 31) dX4_isOnAt_27 rfl ?_
      exact K3 _ (if_pos c4).symm
  intro x2 hx2
  subst hx2
  refine ev_iret dX4_isOnAt_31 rfl b01_n ⟨Nat.le_refl _, Nat.le_refl _⟩ ?_
  exact k
