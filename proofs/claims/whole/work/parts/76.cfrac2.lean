def cFr (F : Nat → Int64) (a : Int64) : Nat → cN3 → cN3
  | 0, s => s
  | q + 1, s => if a - a / (Int32.toInt64 (nI (q + 1))) * (Int32.toInt64 (nI (q + 1))) = 0 then cFq F (nI (q + 1)) 129 (cFr F a q s) else cFr F a q s
theorem fr_1 (I : ma_I) : ma_up I 12 (ma_up (I 12) 9 0) = ma_up (ma_up (ma_up I 24 (I 24)) 25 (I 25)) 12 (ma_up (I 12) 9 (nI 0)) := by
  rw [ma_up_self I 24, ma_up_self I 25]; rfl
theorem i2l_n0 {q : Nat} (h : q < 64) : ¬ Int32.toInt64 (nI (q + 1)) = 0 := fun z => by
  have q2 := n32_pos (y := q + 1) (by omega) (by omega)
  rw [z, nb_0L] at q2; omega
set_option maxRecDepth 4000 in
theorem t_X0_findFractions {g : ma_G} {Post : ma_P} {I : ma_I} {L : ma_L}    (k1 : (((L 13) 0) = 0) → (((L 13) 1) = 0) → (((L 13) 2) = 0) → (((L 13) 3) = 0) → (((L 13) 4) = 0) → Post none HS (ma_up I 12 (ma_up (I 12) 9 0)) L RF 146) (k2 : (((L 13) 0) = 0) → (((L 13) 1) = 0) → (((L 13) 2) = 0) → (((L 13) 3) = 0) → (¬ ((L 13) 4) = 0) → ∀ n : Nat, ∀ U : Nat → Int32, ∀ V : Nat → Int32, (n ≤ 4) → ((n, U, V) = cFr (L 13) ((L 13) 4) 64 (0, I 24, I 25)) → Post none HS (ma_up (ma_up (ma_up I 24 U) 25 V) 12 (ma_up (I 12) 9 (nI n))) L RF 146) (k3 : (((L 13) 0) = 0) → (((L 13) 1) = 0) → (((L 13) 2) = 0) → (¬ ((L 13) 3) = 0) → ∀ n : Nat, ∀ U : Nat → Int32, ∀ V : Nat → Int32, (n ≤ 4) → ((n, U, V) = cFr (L 13) ((L 13) 3) 64 (0, I 24, I 25)) → Post none HS (ma_up (ma_up (ma_up I 24 U) 25 V) 12 (ma_up (I 12) 9 (nI n))) L RF 146) (k4 : (((L 13) 0) = 0) → (((L 13) 1) = 0) → (¬ ((L 13) 2) = 0) → ∀ n : Nat, ∀ U : Nat → Int32, ∀ V : Nat → Int32, (n ≤ 4) → ((n, U, V) = cFr (L 13) ((L 13) 2) 64 (0, I 24, I 25)) → Post none HS (ma_up (ma_up (ma_up I 24 U) 25 V) 12 (ma_up (I 12) 9 (nI n))) L RF 146) (k5 : (((L 13) 0) = 0) → (¬ ((L 13) 1) = 0) → ∀ n : Nat, ∀ U : Nat → Int32, ∀ V : Nat → Int32, (n ≤ 4) → ((n, U, V) = cFr (L 13) ((L 13) 1) 64 (0, I 24, I 25)) → Post none HS (ma_up (ma_up (ma_up I 24 U) 25 V) 12 (ma_up (I 12) 9 (nI n))) L RF 146) (k6 : (¬ ((L 13) 0) = 0) → ∀ n : Nat, ∀ U : Nat → Int32, ∀ V : Nat → Int32, (n ≤ 4) → ((n, U, V) = cFr (L 13) ((L 13) 0) 64 (0, I 24, I 25)) → Post none HS (ma_up (ma_up (ma_up I 24 U) 25 V) 12 (ma_up (I 12) 9 (nI n))) L RF 146) : CT g yX0_findFractions cX0_findFractions 5 none rX0_findFractions [.ref 12] Post HS I L RF 146 := by
  refine ct_of (lv := [some (.ref 12), none, none, none, none]) (by decide) (Nat.le_of_ble_eq_true rfl) rfl ?_
  refine ev_aload_n (pc' := 1) (i := 0) dX0_findFractions_0 rfl rfl rfl ?_
  refine ev_iconst (pc' := 2) (v := 0) dX0_findFractions_1 rfl ki_0 ?_
  refine ev_putI (pc' := 5) (I' := (ma_up I 12 (ma_up (I 12) 9 0))) fo_X0_138 dX0_findFractions_2 rfl hs_12 rfl (fun r hr => by cases hr; rfl) ⟨rfl, rfl⟩ rfl ?_
  refine ev_aload_n (pc' := 6) (i := 0) dX0_findFractions_5 rfl rfl rfl ?_
  refine ev_callV (pc' := 9) (rm' := rX0_degree) (b := 12) (av := []) (rest := []) co_X0_79 ci_X0_degree cv_X0_degree dX0_findFractions_6 rfl hs_12 hb_X0 rfl rfl (Nat.le_of_ble_eq_true rfl) ⟨(Nat.le_of_ble_eq_true rfl), (Nat.le_of_ble_eq_true rfl)⟩ ⟨(Nat.le_of_ble_eq_true rfl), (Nat.le_of_ble_eq_true rfl)⟩ ?_
  refine t_X0_degree   (fun h1 h2 h3 h4 h5 => ?_) (fun h6 h7 h8 h9 h10 => ?_) (fun h11 h12 h13 h14 => ?_) (fun h15 h16 h17 => ?_) (fun h18 h19 => ?_) (fun h20 => ?_)
  · skip
    refine ev_istore_n (pc' := 10) (i := 1) (lv' := [some (.ref 12), some (.int (-1)), none, none, none]) dX0_findFractions_9 rfl rfl (Nat.le_of_ble_eq_true rfl) rfl rfl ?_
    refine ev_iload_n (pc' := 11) (i := 1) dX0_findFractions_10 rfl rfl rfl ?_
    refine ev_if_ge (tgt := 15) (pc' := 14) dX0_findFractions_11 rfl rfl (fun h => absurd h (by decide)) (fun _ => ?_)
    refine ev_vret dX0_findFractions_14 rfl ⟨Nat.le_refl _, Nat.le_refl _⟩ ?_
    exact k1 h1 h2 h3 h4 h5
  · skip
    refine ev_istore_n (pc' := 10) (i := 1) (lv' := [some (.ref 12), some (.int 0), none, none, none]) dX0_findFractions_9 rfl rfl (Nat.le_of_ble_eq_true rfl) rfl rfl ?_
    refine ev_iload_n (pc' := 11) (i := 1) dX0_findFractions_10 rfl rfl rfl ?_
    refine ev_if_ge (tgt := 15) (pc' := 14) dX0_findFractions_11 rfl rfl (fun _ => ?_) (fun h => absurd (by decide) h)
    refine ev_aload_n (pc' := 16) (i := 0) dX0_findFractions_15 rfl rfl rfl ?_
    refine ev_getR (pc' := 19) fo_X0_9 dX0_findFractions_16 rfl hs_12 rfl rf_12_0 ?_
    refine ev_iconst (pc' := 20) (v := 4) dX0_findFractions_19 rfl ki_4 ?_
    refine ev_iload_n (pc' := 21) (i := 1) dX0_findFractions_20 rfl rfl rfl ?_
    refine ev_isub (pc' := 22) (v := 4) dX0_findFractions_21 rfl (by decide) ?_
    refine ev_lald (pc' := 23) (j := 4) (v := (L 13) 4) dX0_findFractions_22 rfl hs_13 rfl (Nat.le_of_ble_eq_true rfl) (Nat.le_of_ble_eq_true rfl) rfl ?_
    refine ev_lstore_n (pc' := 24) (i := 2) (lv' := [some (.ref 12), some (.int 0), some (.long ((L 13) 4)), none, none]) dX0_findFractions_23 rfl rfl (Nat.le_of_ble_eq_true rfl) rfl rfl ?_
    refine ev_iconst (pc' := 25) (v := 1) dX0_findFractions_24 rfl ki_1 ?_
    refine ev_istore (pc' := 27) (lv' := [some (.ref 12), some (.int 0), some (.long ((L 13) 4)), none, some (.int 1)]) dX0_findFractions_25 rfl (Nat.le_of_ble_eq_true rfl) rfl rfl ?_
    suffices lq : ∀ (d q n : Nat) (U V : Nat → Int32), q + d = 64 → n ≤ 4 → (n, U, V) = cFr (L 13) ((L 13) 4) q (0, I 24, I 25) → EV g yX0_findFractions cX0_findFractions 5 none rX0_findFractions (ma_ZM g rX0_findFractions Post) 27 [some (.ref 12), some (.int 0), some (.long ((L 13) 4)), none, some (.int (nI (q + 1)))] [] HS (ma_up (ma_up (ma_up I 24 U) 25 V) 12 (ma_up (I 12) 9 (nI n))) L RF 146 0 0 by
      refine ev_memI (fun z hz => ?_)
      have hz := hz.trans (fr_1 I)
      subst hz
      exact lq 64 0 0 _ _ rfl (by omega) rfl
    intro d
    induction d with
    | zero =>
      intro q n U V hq hn4 hs
      obtain rfl : q = 64 := by omega
      refine ev_iload (pc' := 29) dX0_findFractions_27 rfl rfl ?_
      refine ev_bipush (pc' := 31) (v := 64) dX0_findFractions_29 rfl kb_64 ?_
      refine ev_icmp_gt (tgt := 56) (pc' := 34) dX0_findFractions_31 rfl rfl (fun _ => ?_) (fun h => absurd (nx_lt (a := 64) (b := (64 + 1)) (by omega) (by omega)) h)
      refine ev_vret dX0_findFractions_56 rfl ⟨Nat.le_refl _, Nat.le_refl _⟩ ?_
      exact k2 h6 h7 h8 h9 h10 n U V hn4 hs
    | succ d ih =>
      intro q n U V hq hn4 hs
      refine ev_iload (pc' := 29) dX0_findFractions_27 rfl rfl ?_
      refine ev_bipush (pc' := 31) (v := 64) dX0_findFractions_29 rfl kb_64 ?_
      refine ev_icmp_gt (tgt := 56) (pc' := 34) dX0_findFractions_31 rfl rfl (fun h => absurd h (nx_nlt (a := 64) (b := (q + 1)) (by omega) (by omega))) (fun _ => ?_)
      refine ev_lload_n (pc' := 35) (i := 2) dX0_findFractions_34 rfl rfl rfl ?_
      refine ev_iload (pc' := 37) dX0_findFractions_35 rfl rfl ?_
      refine ev_i2l (pc' := 38) (v := Int32.toInt64 (nI (q + 1))) dX0_findFractions_37 rfl rfl ?_
      refine ev_lrem (pc' := 39) (v := ((L 13) 4) - ((L 13) 4) / (Int32.toInt64 (nI (q + 1))) * (Int32.toInt64 (nI (q + 1)))) dX0_findFractions_38 rfl (i2l_n0 (by omega)) rfl ?_
      refine ev_lconst (pc' := 40) (v := 0) dX0_findFractions_39 rfl kl_0 ?_
      refine ev_lc_ne (p1 := 41) (tgt := 50) (pc' := 44) dX0_findFractions_40 rfl dX0_findFractions_41 rfl rfl (fun c21 => ?_) (fun c21 => ?_)
      · refine ev_iinc (pc' := 53) (v := nI ((q + 1) + 1)) (lv' := [some (.ref 12), some (.int 0), some (.long ((L 13) 4)), none, some (.int (nI ((q + 1) + 1)))]) dX0_findFractions_50 rfl rfl (nI_add (q + 1) 1) (Nat.le_of_ble_eq_true rfl) rfl rfl ?_
        refine ev_goto (tgt := 27) dX0_findFractions_53 rfl ?_
        exact ih (q + 1) n U V (by omega) hn4 (hs.trans (if_neg c21).symm)
      · refine ev_aload_n (pc' := 45) (i := 0) dX0_findFractions_44 rfl rfl rfl ?_
        refine ev_iload (pc' := 47) dX0_findFractions_45 rfl rfl ?_
        refine ev_callV (pc' := 50) (rm' := rX0_findFractionsBy) (b := 12) (av := [.int (nI (q + 1))]) (rest := []) co_X0_142 ci_X0_findFractionsBy cv_X0_findFractionsBy dX0_findFractions_47 rfl hs_12 hb_X0 rfl rfl (Nat.le_of_ble_eq_true rfl) ⟨(Nat.le_of_ble_eq_true rfl), (Nat.le_of_ble_eq_true rfl)⟩ ⟨(Nat.le_of_ble_eq_true rfl), (Nat.le_of_ble_eq_true rfl)⟩ ?_
        refine t_X0_findFractionsBy (nI (q + 1)) n hn4 rfl (fun n1 U1 V1 hn1 hU => ?_)
        have hU : (n1, U1, V1) = cFq (L 13) (nI (q + 1)) 129 (n, U, V) := hU
        refine ev_memI (fun z hz => ?_)
        have hz := hz.trans (fr_k I U V U1 V1 (nI n) (nI n1))
        subst hz
        refine ev_iinc (pc' := 53) (v := nI ((q + 1) + 1)) (lv' := [some (.ref 12), some (.int 0), some (.long ((L 13) 4)), none, some (.int (nI ((q + 1) + 1)))]) dX0_findFractions_50 rfl rfl (nI_add (q + 1) 1) (Nat.le_of_ble_eq_true rfl) rfl rfl ?_
        refine ev_goto (tgt := 27) dX0_findFractions_53 rfl ?_
        exact ih (q + 1) n1 U1 V1 (by omega) hn1 ((hU.trans (by rw [hs])).trans (if_pos c21).symm)
  · skip
    refine ev_istore_n (pc' := 10) (i := 1) (lv' := [some (.ref 12), some (.int 1), none, none, none]) dX0_findFractions_9 rfl rfl (Nat.le_of_ble_eq_true rfl) rfl rfl ?_
    refine ev_iload_n (pc' := 11) (i := 1) dX0_findFractions_10 rfl rfl rfl ?_
    refine ev_if_ge (tgt := 15) (pc' := 14) dX0_findFractions_11 rfl rfl (fun _ => ?_) (fun h => absurd (by decide) h)
    refine ev_aload_n (pc' := 16) (i := 0) dX0_findFractions_15 rfl rfl rfl ?_
    refine ev_getR (pc' := 19) fo_X0_9 dX0_findFractions_16 rfl hs_12 rfl rf_12_0 ?_
    refine ev_iconst (pc' := 20) (v := 4) dX0_findFractions_19 rfl ki_4 ?_
    refine ev_iload_n (pc' := 21) (i := 1) dX0_findFractions_20 rfl rfl rfl ?_
    refine ev_isub (pc' := 22) (v := 3) dX0_findFractions_21 rfl (by decide) ?_
    refine ev_lald (pc' := 23) (j := 3) (v := (L 13) 3) dX0_findFractions_22 rfl hs_13 rfl (Nat.le_of_ble_eq_true rfl) (Nat.le_of_ble_eq_true rfl) rfl ?_
    refine ev_lstore_n (pc' := 24) (i := 2) (lv' := [some (.ref 12), some (.int 1), some (.long ((L 13) 3)), none, none]) dX0_findFractions_23 rfl rfl (Nat.le_of_ble_eq_true rfl) rfl rfl ?_
    refine ev_iconst (pc' := 25) (v := 1) dX0_findFractions_24 rfl ki_1 ?_
    refine ev_istore (pc' := 27) (lv' := [some (.ref 12), some (.int 1), some (.long ((L 13) 3)), none, some (.int 1)]) dX0_findFractions_25 rfl (Nat.le_of_ble_eq_true rfl) rfl rfl ?_
    suffices lq : ∀ (d q n : Nat) (U V : Nat → Int32), q + d = 64 → n ≤ 4 → (n, U, V) = cFr (L 13) ((L 13) 3) q (0, I 24, I 25) → EV g yX0_findFractions cX0_findFractions 5 none rX0_findFractions (ma_ZM g rX0_findFractions Post) 27 [some (.ref 12), some (.int 1), some (.long ((L 13) 3)), none, some (.int (nI (q + 1)))] [] HS (ma_up (ma_up (ma_up I 24 U) 25 V) 12 (ma_up (I 12) 9 (nI n))) L RF 146 0 0 by
      refine ev_memI (fun z hz => ?_)
      have hz := hz.trans (fr_1 I)
      subst hz
      exact lq 64 0 0 _ _ rfl (by omega) rfl
    intro d
    induction d with
    | zero =>
      intro q n U V hq hn4 hs
      obtain rfl : q = 64 := by omega
      refine ev_iload (pc' := 29) dX0_findFractions_27 rfl rfl ?_
      refine ev_bipush (pc' := 31) (v := 64) dX0_findFractions_29 rfl kb_64 ?_
      refine ev_icmp_gt (tgt := 56) (pc' := 34) dX0_findFractions_31 rfl rfl (fun _ => ?_) (fun h => absurd (nx_lt (a := 64) (b := (64 + 1)) (by omega) (by omega)) h)
      refine ev_vret dX0_findFractions_56 rfl ⟨Nat.le_refl _, Nat.le_refl _⟩ ?_
      exact k3 h11 h12 h13 h14 n U V hn4 hs
    | succ d ih =>
      intro q n U V hq hn4 hs
      refine ev_iload (pc' := 29) dX0_findFractions_27 rfl rfl ?_
      refine ev_bipush (pc' := 31) (v := 64) dX0_findFractions_29 rfl kb_64 ?_
      refine ev_icmp_gt (tgt := 56) (pc' := 34) dX0_findFractions_31 rfl rfl (fun h => absurd h (nx_nlt (a := 64) (b := (q + 1)) (by omega) (by omega))) (fun _ => ?_)
      refine ev_lload_n (pc' := 35) (i := 2) dX0_findFractions_34 rfl rfl rfl ?_
      refine ev_iload (pc' := 37) dX0_findFractions_35 rfl rfl ?_
      refine ev_i2l (pc' := 38) (v := Int32.toInt64 (nI (q + 1))) dX0_findFractions_37 rfl rfl ?_
      refine ev_lrem (pc' := 39) (v := ((L 13) 3) - ((L 13) 3) / (Int32.toInt64 (nI (q + 1))) * (Int32.toInt64 (nI (q + 1)))) dX0_findFractions_38 rfl (i2l_n0 (by omega)) rfl ?_
      refine ev_lconst (pc' := 40) (v := 0) dX0_findFractions_39 rfl kl_0 ?_
      refine ev_lc_ne (p1 := 41) (tgt := 50) (pc' := 44) dX0_findFractions_40 rfl dX0_findFractions_41 rfl rfl (fun c22 => ?_) (fun c22 => ?_)
      · refine ev_iinc (pc' := 53) (v := nI ((q + 1) + 1)) (lv' := [some (.ref 12), some (.int 1), some (.long ((L 13) 3)), none, some (.int (nI ((q + 1) + 1)))]) dX0_findFractions_50 rfl rfl (nI_add (q + 1) 1) (Nat.le_of_ble_eq_true rfl) rfl rfl ?_
        refine ev_goto (tgt := 27) dX0_findFractions_53 rfl ?_
        exact ih (q + 1) n U V (by omega) hn4 (hs.trans (if_neg c22).symm)
      · refine ev_aload_n (pc' := 45) (i := 0) dX0_findFractions_44 rfl rfl rfl ?_
        refine ev_iload (pc' := 47) dX0_findFractions_45 rfl rfl ?_
        refine ev_callV (pc' := 50) (rm' := rX0_findFractionsBy) (b := 12) (av := [.int (nI (q + 1))]) (rest := []) co_X0_142 ci_X0_findFractionsBy cv_X0_findFractionsBy dX0_findFractions_47 rfl hs_12 hb_X0 rfl rfl (Nat.le_of_ble_eq_true rfl) ⟨(Nat.le_of_ble_eq_true rfl), (Nat.le_of_ble_eq_true rfl)⟩ ⟨(Nat.le_of_ble_eq_true rfl), (Nat.le_of_ble_eq_true rfl)⟩ ?_
        refine t_X0_findFractionsBy (nI (q + 1)) n hn4 rfl (fun n1 U1 V1 hn1 hU => ?_)
        have hU : (n1, U1, V1) = cFq (L 13) (nI (q + 1)) 129 (n, U, V) := hU
        refine ev_memI (fun z hz => ?_)
        have hz := hz.trans (fr_k I U V U1 V1 (nI n) (nI n1))
        subst hz
        refine ev_iinc (pc' := 53) (v := nI ((q + 1) + 1)) (lv' := [some (.ref 12), some (.int 1), some (.long ((L 13) 3)), none, some (.int (nI ((q + 1) + 1)))]) dX0_findFractions_50 rfl rfl (nI_add (q + 1) 1) (Nat.le_of_ble_eq_true rfl) rfl rfl ?_
        refine ev_goto (tgt := 27) dX0_findFractions_53 rfl ?_
        exact ih (q + 1) n1 U1 V1 (by omega) hn1 ((hU.trans (by rw [hs])).trans (if_pos c22).symm)
  · skip
    refine ev_istore_n (pc' := 10) (i := 1) (lv' := [some (.ref 12), some (.int 2), none, none, none]) dX0_findFractions_9 rfl rfl (Nat.le_of_ble_eq_true rfl) rfl rfl ?_
    refine ev_iload_n (pc' := 11) (i := 1) dX0_findFractions_10 rfl rfl rfl ?_
    refine ev_if_ge (tgt := 15) (pc' := 14) dX0_findFractions_11 rfl rfl (fun _ => ?_) (fun h => absurd (by decide) h)
    refine ev_aload_n (pc' := 16) (i := 0) dX0_findFractions_15 rfl rfl rfl ?_
    refine ev_getR (pc' := 19) fo_X0_9 dX0_findFractions_16 rfl hs_12 rfl rf_12_0 ?_
    refine ev_iconst (pc' := 20) (v := 4) dX0_findFractions_19 rfl ki_4 ?_
    refine ev_iload_n (pc' := 21) (i := 1) dX0_findFractions_20 rfl rfl rfl ?_
    refine ev_isub (pc' := 22) (v := 2) dX0_findFractions_21 rfl (by decide) ?_
    refine ev_lald (pc' := 23) (j := 2) (v := (L 13) 2) dX0_findFractions_22 rfl hs_13 rfl (Nat.le_of_ble_eq_true rfl) (Nat.le_of_ble_eq_true rfl) rfl ?_
    refine ev_lstore_n (pc' := 24) (i := 2) (lv' := [some (.ref 12), some (.int 2), some (.long ((L 13) 2)), none, none]) dX0_findFractions_23 rfl rfl (Nat.le_of_ble_eq_true rfl) rfl rfl ?_
    refine ev_iconst (pc' := 25) (v := 1) dX0_findFractions_24 rfl ki_1 ?_
    refine ev_istore (pc' := 27) (lv' := [some (.ref 12), some (.int 2), some (.long ((L 13) 2)), none, some (.int 1)]) dX0_findFractions_25 rfl (Nat.le_of_ble_eq_true rfl) rfl rfl ?_
    suffices lq : ∀ (d q n : Nat) (U V : Nat → Int32), q + d = 64 → n ≤ 4 → (n, U, V) = cFr (L 13) ((L 13) 2) q (0, I 24, I 25) → EV g yX0_findFractions cX0_findFractions 5 none rX0_findFractions (ma_ZM g rX0_findFractions Post) 27 [some (.ref 12), some (.int 2), some (.long ((L 13) 2)), none, some (.int (nI (q + 1)))] [] HS (ma_up (ma_up (ma_up I 24 U) 25 V) 12 (ma_up (I 12) 9 (nI n))) L RF 146 0 0 by
      refine ev_memI (fun z hz => ?_)
      have hz := hz.trans (fr_1 I)
      subst hz
      exact lq 64 0 0 _ _ rfl (by omega) rfl
    intro d
    induction d with
    | zero =>
      intro q n U V hq hn4 hs
      obtain rfl : q = 64 := by omega
      refine ev_iload (pc' := 29) dX0_findFractions_27 rfl rfl ?_
      refine ev_bipush (pc' := 31) (v := 64) dX0_findFractions_29 rfl kb_64 ?_
      refine ev_icmp_gt (tgt := 56) (pc' := 34) dX0_findFractions_31 rfl rfl (fun _ => ?_) (fun h => absurd (nx_lt (a := 64) (b := (64 + 1)) (by omega) (by omega)) h)
      refine ev_vret dX0_findFractions_56 rfl ⟨Nat.le_refl _, Nat.le_refl _⟩ ?_
      exact k4 h15 h16 h17 n U V hn4 hs
    | succ d ih =>
      intro q n U V hq hn4 hs
      refine ev_iload (pc' := 29) dX0_findFractions_27 rfl rfl ?_
      refine ev_bipush (pc' := 31) (v := 64) dX0_findFractions_29 rfl kb_64 ?_
      refine ev_icmp_gt (tgt := 56) (pc' := 34) dX0_findFractions_31 rfl rfl (fun h => absurd h (nx_nlt (a := 64) (b := (q + 1)) (by omega) (by omega))) (fun _ => ?_)
      refine ev_lload_n (pc' := 35) (i := 2) dX0_findFractions_34 rfl rfl rfl ?_
      refine ev_iload (pc' := 37) dX0_findFractions_35 rfl rfl ?_
      refine ev_i2l (pc' := 38) (v := Int32.toInt64 (nI (q + 1))) dX0_findFractions_37 rfl rfl ?_
      refine ev_lrem (pc' := 39) (v := ((L 13) 2) - ((L 13) 2) / (Int32.toInt64 (nI (q + 1))) * (Int32.toInt64 (nI (q + 1)))) dX0_findFractions_38 rfl (i2l_n0 (by omega)) rfl ?_
      refine ev_lconst (pc' := 40) (v := 0) dX0_findFractions_39 rfl kl_0 ?_
      refine ev_lc_ne (p1 := 41) (tgt := 50) (pc' := 44) dX0_findFractions_40 rfl dX0_findFractions_41 rfl rfl (fun c23 => ?_) (fun c23 => ?_)
      · refine ev_iinc (pc' := 53) (v := nI ((q + 1) + 1)) (lv' := [some (.ref 12), some (.int 2), some (.long ((L 13) 2)), none, some (.int (nI ((q + 1) + 1)))]) dX0_findFractions_50 rfl rfl (nI_add (q + 1) 1) (Nat.le_of_ble_eq_true rfl) rfl rfl ?_
        refine ev_goto (tgt := 27) dX0_findFractions_53 rfl ?_
        exact ih (q + 1) n U V (by omega) hn4 (hs.trans (if_neg c23).symm)
      · refine ev_aload_n (pc' := 45) (i := 0) dX0_findFractions_44 rfl rfl rfl ?_
        refine ev_iload (pc' := 47) dX0_findFractions_45 rfl rfl ?_
        refine ev_callV (pc' := 50) (rm' := rX0_findFractionsBy) (b := 12) (av := [.int (nI (q + 1))]) (rest := []) co_X0_142 ci_X0_findFractionsBy cv_X0_findFractionsBy dX0_findFractions_47 rfl hs_12 hb_X0 rfl rfl (Nat.le_of_ble_eq_true rfl) ⟨(Nat.le_of_ble_eq_true rfl), (Nat.le_of_ble_eq_true rfl)⟩ ⟨(Nat.le_of_ble_eq_true rfl), (Nat.le_of_ble_eq_true rfl)⟩ ?_
        refine t_X0_findFractionsBy (nI (q + 1)) n hn4 rfl (fun n1 U1 V1 hn1 hU => ?_)
        have hU : (n1, U1, V1) = cFq (L 13) (nI (q + 1)) 129 (n, U, V) := hU
        refine ev_memI (fun z hz => ?_)
        have hz := hz.trans (fr_k I U V U1 V1 (nI n) (nI n1))
        subst hz
        refine ev_iinc (pc' := 53) (v := nI ((q + 1) + 1)) (lv' := [some (.ref 12), some (.int 2), some (.long ((L 13) 2)), none, some (.int (nI ((q + 1) + 1)))]) dX0_findFractions_50 rfl rfl (nI_add (q + 1) 1) (Nat.le_of_ble_eq_true rfl) rfl rfl ?_
        refine ev_goto (tgt := 27) dX0_findFractions_53 rfl ?_
        exact ih (q + 1) n1 U1 V1 (by omega) hn1 ((hU.trans (by rw [hs])).trans (if_pos c23).symm)
  · skip
    refine ev_istore_n (pc' := 10) (i := 1) (lv' := [some (.ref 12), some (.int 3), none, none, none]) dX0_findFractions_9 rfl rfl (Nat.le_of_ble_eq_true rfl) rfl rfl ?_
    refine ev_iload_n (pc' := 11) (i := 1) dX0_findFractions_10 rfl rfl rfl ?_
    refine ev_if_ge (tgt := 15) (pc' := 14) dX0_findFractions_11 rfl rfl (fun _ => ?_) (fun h => absurd (by decide) h)
    refine ev_aload_n (pc' := 16) (i := 0) dX0_findFractions_15 rfl rfl rfl ?_
    refine ev_getR (pc' := 19) fo_X0_9 dX0_findFractions_16 rfl hs_12 rfl rf_12_0 ?_
    refine ev_iconst (pc' := 20) (v := 4) dX0_findFractions_19 rfl ki_4 ?_
    refine ev_iload_n (pc' := 21) (i := 1) dX0_findFractions_20 rfl rfl rfl ?_
    refine ev_isub (pc' := 22) (v := 1) dX0_findFractions_21 rfl (by decide) ?_
    refine ev_lald (pc' := 23) (j := 1) (v := (L 13) 1) dX0_findFractions_22 rfl hs_13 rfl (Nat.le_of_ble_eq_true rfl) (Nat.le_of_ble_eq_true rfl) rfl ?_
    refine ev_lstore_n (pc' := 24) (i := 2) (lv' := [some (.ref 12), some (.int 3), some (.long ((L 13) 1)), none, none]) dX0_findFractions_23 rfl rfl (Nat.le_of_ble_eq_true rfl) rfl rfl ?_
    refine ev_iconst (pc' := 25) (v := 1) dX0_findFractions_24 rfl ki_1 ?_
    refine ev_istore (pc' := 27) (lv' := [some (.ref 12), some (.int 3), some (.long ((L 13) 1)), none, some (.int 1)]) dX0_findFractions_25 rfl (Nat.le_of_ble_eq_true rfl) rfl rfl ?_
    suffices lq : ∀ (d q n : Nat) (U V : Nat → Int32), q + d = 64 → n ≤ 4 → (n, U, V) = cFr (L 13) ((L 13) 1) q (0, I 24, I 25) → EV g yX0_findFractions cX0_findFractions 5 none rX0_findFractions (ma_ZM g rX0_findFractions Post) 27 [some (.ref 12), some (.int 3), some (.long ((L 13) 1)), none, some (.int (nI (q + 1)))] [] HS (ma_up (ma_up (ma_up I 24 U) 25 V) 12 (ma_up (I 12) 9 (nI n))) L RF 146 0 0 by
      refine ev_memI (fun z hz => ?_)
      have hz := hz.trans (fr_1 I)
      subst hz
      exact lq 64 0 0 _ _ rfl (by omega) rfl
    intro d
    induction d with
    | zero =>
      intro q n U V hq hn4 hs
      obtain rfl : q = 64 := by omega
      refine ev_iload (pc' := 29) dX0_findFractions_27 rfl rfl ?_
      refine ev_bipush (pc' := 31) (v := 64) dX0_findFractions_29 rfl kb_64 ?_
      refine ev_icmp_gt (tgt := 56) (pc' := 34) dX0_findFractions_31 rfl rfl (fun _ => ?_) (fun h => absurd (nx_lt (a := 64) (b := (64 + 1)) (by omega) (by omega)) h)
      refine ev_vret dX0_findFractions_56 rfl ⟨Nat.le_refl _, Nat.le_refl _⟩ ?_
      exact k5 h18 h19 n U V hn4 hs
    | succ d ih =>
      intro q n U V hq hn4 hs
      refine ev_iload (pc' := 29) dX0_findFractions_27 rfl rfl ?_
      refine ev_bipush (pc' := 31) (v := 64) dX0_findFractions_29 rfl kb_64 ?_
      refine ev_icmp_gt (tgt := 56) (pc' := 34) dX0_findFractions_31 rfl rfl (fun h => absurd h (nx_nlt (a := 64) (b := (q + 1)) (by omega) (by omega))) (fun _ => ?_)
      refine ev_lload_n (pc' := 35) (i := 2) dX0_findFractions_34 rfl rfl rfl ?_
      refine ev_iload (pc' := 37) dX0_findFractions_35 rfl rfl ?_
      refine ev_i2l (pc' := 38) (v := Int32.toInt64 (nI (q + 1))) dX0_findFractions_37 rfl rfl ?_
      refine ev_lrem (pc' := 39) (v := ((L 13) 1) - ((L 13) 1) / (Int32.toInt64 (nI (q + 1))) * (Int32.toInt64 (nI (q + 1)))) dX0_findFractions_38 rfl (i2l_n0 (by omega)) rfl ?_
      refine ev_lconst (pc' := 40) (v := 0) dX0_findFractions_39 rfl kl_0 ?_
      refine ev_lc_ne (p1 := 41) (tgt := 50) (pc' := 44) dX0_findFractions_40 rfl dX0_findFractions_41 rfl rfl (fun c24 => ?_) (fun c24 => ?_)
      · refine ev_iinc (pc' := 53) (v := nI ((q + 1) + 1)) (lv' := [some (.ref 12), some (.int 3), some (.long ((L 13) 1)), none, some (.int (nI ((q + 1) + 1)))]) dX0_findFractions_50 rfl rfl (nI_add (q + 1) 1) (Nat.le_of_ble_eq_true rfl) rfl rfl ?_
        refine ev_goto (tgt := 27) dX0_findFractions_53 rfl ?_
        exact ih (q + 1) n U V (by omega) hn4 (hs.trans (if_neg c24).symm)
      · refine ev_aload_n (pc' := 45) (i := 0) dX0_findFractions_44 rfl rfl rfl ?_
        refine ev_iload (pc' := 47) dX0_findFractions_45 rfl rfl ?_
        refine ev_callV (pc' := 50) (rm' := rX0_findFractionsBy) (b := 12) (av := [.int (nI (q + 1))]) (rest := []) co_X0_142 ci_X0_findFractionsBy cv_X0_findFractionsBy dX0_findFractions_47 rfl hs_12 hb_X0 rfl rfl (Nat.le_of_ble_eq_true rfl) ⟨(Nat.le_of_ble_eq_true rfl), (Nat.le_of_ble_eq_true rfl)⟩ ⟨(Nat.le_of_ble_eq_true rfl), (Nat.le_of_ble_eq_true rfl)⟩ ?_
        refine t_X0_findFractionsBy (nI (q + 1)) n hn4 rfl (fun n1 U1 V1 hn1 hU => ?_)
        have hU : (n1, U1, V1) = cFq (L 13) (nI (q + 1)) 129 (n, U, V) := hU
        refine ev_memI (fun z hz => ?_)
        have hz := hz.trans (fr_k I U V U1 V1 (nI n) (nI n1))
        subst hz
        refine ev_iinc (pc' := 53) (v := nI ((q + 1) + 1)) (lv' := [some (.ref 12), some (.int 3), some (.long ((L 13) 1)), none, some (.int (nI ((q + 1) + 1)))]) dX0_findFractions_50 rfl rfl (nI_add (q + 1) 1) (Nat.le_of_ble_eq_true rfl) rfl rfl ?_
        refine ev_goto (tgt := 27) dX0_findFractions_53 rfl ?_
        exact ih (q + 1) n1 U1 V1 (by omega) hn1 ((hU.trans (by rw [hs])).trans (if_pos c24).symm)
  · skip
    refine ev_istore_n (pc' := 10) (i := 1) (lv' := [some (.ref 12), some (.int 4), none, none, none]) dX0_findFractions_9 rfl rfl (Nat.le_of_ble_eq_true rfl) rfl rfl ?_
    refine ev_iload_n (pc' := 11) (i := 1) dX0_findFractions_10 rfl rfl rfl ?_
    refine ev_if_ge (tgt := 15) (pc' := 14) dX0_findFractions_11 rfl rfl (fun _ => ?_) (fun h => absurd (by decide) h)
    refine ev_aload_n (pc' := 16) (i := 0) dX0_findFractions_15 rfl rfl rfl ?_
    refine ev_getR (pc' := 19) fo_X0_9 dX0_findFractions_16 rfl hs_12 rfl rf_12_0 ?_
    refine ev_iconst (pc' := 20) (v := 4) dX0_findFractions_19 rfl ki_4 ?_
    refine ev_iload_n (pc' := 21) (i := 1) dX0_findFractions_20 rfl rfl rfl ?_
    refine ev_isub (pc' := 22) (v := 0) dX0_findFractions_21 rfl (by decide) ?_
    refine ev_lald (pc' := 23) (j := 0) (v := (L 13) 0) dX0_findFractions_22 rfl hs_13 rfl (Nat.le_of_ble_eq_true rfl) (Nat.le_of_ble_eq_true rfl) rfl ?_
    refine ev_lstore_n (pc' := 24) (i := 2) (lv' := [some (.ref 12), some (.int 4), some (.long ((L 13) 0)), none, none]) dX0_findFractions_23 rfl rfl (Nat.le_of_ble_eq_true rfl) rfl rfl ?_
    refine ev_iconst (pc' := 25) (v := 1) dX0_findFractions_24 rfl ki_1 ?_
    refine ev_istore (pc' := 27) (lv' := [some (.ref 12), some (.int 4), some (.long ((L 13) 0)), none, some (.int 1)]) dX0_findFractions_25 rfl (Nat.le_of_ble_eq_true rfl) rfl rfl ?_
    suffices lq : ∀ (d q n : Nat) (U V : Nat → Int32), q + d = 64 → n ≤ 4 → (n, U, V) = cFr (L 13) ((L 13) 0) q (0, I 24, I 25) → EV g yX0_findFractions cX0_findFractions 5 none rX0_findFractions (ma_ZM g rX0_findFractions Post) 27 [some (.ref 12), some (.int 4), some (.long ((L 13) 0)), none, some (.int (nI (q + 1)))] [] HS (ma_up (ma_up (ma_up I 24 U) 25 V) 12 (ma_up (I 12) 9 (nI n))) L RF 146 0 0 by
      refine ev_memI (fun z hz => ?_)
      have hz := hz.trans (fr_1 I)
      subst hz
      exact lq 64 0 0 _ _ rfl (by omega) rfl
    intro d
    induction d with
    | zero =>
      intro q n U V hq hn4 hs
      obtain rfl : q = 64 := by omega
      refine ev_iload (pc' := 29) dX0_findFractions_27 rfl rfl ?_
      refine ev_bipush (pc' := 31) (v := 64) dX0_findFractions_29 rfl kb_64 ?_
      refine ev_icmp_gt (tgt := 56) (pc' := 34) dX0_findFractions_31 rfl rfl (fun _ => ?_) (fun h => absurd (nx_lt (a := 64) (b := (64 + 1)) (by omega) (by omega)) h)
      refine ev_vret dX0_findFractions_56 rfl ⟨Nat.le_refl _, Nat.le_refl _⟩ ?_
      exact k6 h20 n U V hn4 hs
    | succ d ih =>
      intro q n U V hq hn4 hs
      refine ev_iload (pc' := 29) dX0_findFractions_27 rfl rfl ?_
      refine ev_bipush (pc' := 31) (v := 64) dX0_findFractions_29 rfl kb_64 ?_
      refine ev_icmp_gt (tgt := 56) (pc' := 34) dX0_findFractions_31 rfl rfl (fun h => absurd h (nx_nlt (a := 64) (b := (q + 1)) (by omega) (by omega))) (fun _ => ?_)
      refine ev_lload_n (pc' := 35) (i := 2) dX0_findFractions_34 rfl rfl rfl ?_
      refine ev_iload (pc' := 37) dX0_findFractions_35 rfl rfl ?_
      refine ev_i2l (pc' := 38) (v := Int32.toInt64 (nI (q + 1))) dX0_findFractions_37 rfl rfl ?_
      refine ev_lrem (pc' := 39) (v := ((L 13) 0) - ((L 13) 0) / (Int32.toInt64 (nI (q + 1))) * (Int32.toInt64 (nI (q + 1)))) dX0_findFractions_38 rfl (i2l_n0 (by omega)) rfl ?_
      refine ev_lconst (pc' := 40) (v := 0) dX0_findFractions_39 rfl kl_0 ?_
      refine ev_lc_ne (p1 := 41) (tgt := 50) (pc' := 44) dX0_findFractions_40 rfl dX0_findFractions_41 rfl rfl (fun c25 => ?_) (fun c25 => ?_)
      · refine ev_iinc (pc' := 53) (v := nI ((q + 1) + 1)) (lv' := [some (.ref 12), some (.int 4), some (.long ((L 13) 0)), none, some (.int (nI ((q + 1) + 1)))]) dX0_findFractions_50 rfl rfl (nI_add (q + 1) 1) (Nat.le_of_ble_eq_true rfl) rfl rfl ?_
        refine ev_goto (tgt := 27) dX0_findFractions_53 rfl ?_
        exact ih (q + 1) n U V (by omega) hn4 (hs.trans (if_neg c25).symm)
      · refine ev_aload_n (pc' := 45) (i := 0) dX0_findFractions_44 rfl rfl rfl ?_
        refine ev_iload (pc' := 47) dX0_findFractions_45 rfl rfl ?_
        refine ev_callV (pc' := 50) (rm' := rX0_findFractionsBy) (b := 12) (av := [.int (nI (q + 1))]) (rest := []) co_X0_142 ci_X0_findFractionsBy cv_X0_findFractionsBy dX0_findFractions_47 rfl hs_12 hb_X0 rfl rfl (Nat.le_of_ble_eq_true rfl) ⟨(Nat.le_of_ble_eq_true rfl), (Nat.le_of_ble_eq_true rfl)⟩ ⟨(Nat.le_of_ble_eq_true rfl), (Nat.le_of_ble_eq_true rfl)⟩ ?_
        refine t_X0_findFractionsBy (nI (q + 1)) n hn4 rfl (fun n1 U1 V1 hn1 hU => ?_)
        have hU : (n1, U1, V1) = cFq (L 13) (nI (q + 1)) 129 (n, U, V) := hU
        refine ev_memI (fun z hz => ?_)
        have hz := hz.trans (fr_k I U V U1 V1 (nI n) (nI n1))
        subst hz
        refine ev_iinc (pc' := 53) (v := nI ((q + 1) + 1)) (lv' := [some (.ref 12), some (.int 4), some (.long ((L 13) 0)), none, some (.int (nI ((q + 1) + 1)))]) dX0_findFractions_50 rfl rfl (nI_add (q + 1) 1) (Nat.le_of_ble_eq_true rfl) rfl rfl ?_
        refine ev_goto (tgt := 27) dX0_findFractions_53 rfl ?_
        exact ih (q + 1) n1 U1 V1 (by omega) hn1 ((hU.trans (by rw [hs])).trans (if_pos c25).symm)
