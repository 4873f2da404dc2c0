def cRr (r : Int32) : Int32 := if r = 0 then 0 else if r = 4 then 1 else if r = 6 then 0 else if r = 13 then 2 else if r = 22 then 2 else if r = 25 then 1 else if r = 31 then 2 else if r = 55 then 0 else if r = 112 then 3 else if r = 115 then 2 else if r = 121 then 3 else if r = 211 then 3 else if r = 1111 then 4 else 0
def cS0 (r : Int32) : Int32 := if r = 0 then 0 else if r = 4 then (-1) else if r = 6 then 0 else if r = 13 then (-1) else if r = 22 then (-1) else if r = 25 then (-1) else if r = 31 then (-1) else if r = 55 then 0 else if r = 112 then (-1) else if r = 115 then 2 else if r = 121 then (-1) else if r = 211 then (-1) else if r = 1111 then 4 else 0
def cS1 (r : Int32) : Int32 := if r = 0 then 0 else if r = 4 then 0 else if r = 6 then 0 else if r = 13 then 1 else if r = 22 then (-1) else if r = 25 then 0 else if r = 31 then (-1) else if r = 55 then 0 else if r = 112 then 2 else if r = 115 then 1 else if r = 121 then (-1) else if r = 211 then (-1) else if r = 1111 then 3 else 0
set_option maxRecDepth 4000 in
theorem t_X0_realRoots {g : ma_G} {Post : ma_P} {I : ma_I} {L : ma_L} (hI : ((L 12) 5).toInt.natAbs < 288230376151711744) (hJ : ((L 12) 6).toInt ≠ -9223372036854775808) (hA : ((L 13) 0).toInt.natAbs < 288230376151711744) (hE : (((8 * ((L 13) 0)) * ((L 13) 2)) - ((3 * ((L 13) 1)) * ((L 13) 1))).toInt ≠ -9223372036854775808) (k0 : ∀ Y Z V W : Nat → Int64, Post (some (.int (cRr (cFig (L 13) ((L 12) 5) ((L 12) 6))))) HS I (ma_up (ma_up (ma_up (ma_up L 20 Y) 19 Z) 23 V) 22 W) RF 146) : CT g yX0_realRoots cX0_realRoots 4 (some .int) rX0_realRoots [.ref 12] Post HS I L RF 146 := by
  refine ct_of (lv := [some (.ref 12), none, none, none]) (by decide) (Nat.le_of_ble_eq_true rfl) rfl ?_
  refine ev_iconst (pc' := 1) (v := 0) dX0_realRoots_0 rfl ki_0 ?_
  refine ev_istore_n (pc' := 2) (i := 1) (lv' := [some (.ref 12), some (.int 0), none, none]) dX0_realRoots_1 rfl rfl (Nat.le_of_ble_eq_true rfl) rfl rfl ?_
  refine ev_aload_n (pc' := 3) (i := 0) dX0_realRoots_2 rfl rfl rfl ?_
  refine ev_callV (pc' := 6) (rm' := rX0_figures) (b := 12) (av := []) (rest := []) co_X0_127 ci_X0_figures cv_X0_figures dX0_realRoots_3 rfl hs_12 hb_X0 rfl rfl (Nat.le_of_ble_eq_true rfl) ⟨(Nat.le_of_ble_eq_true rfl), (Nat.le_of_ble_eq_true rfl)⟩ ⟨(Nat.le_of_ble_eq_true rfl), (Nat.le_of_ble_eq_true rfl)⟩ ?_
  refine t_X0_figures hI hJ hA hE (fun Y1 Z2 V3 W4 => ?_)
  refine ev_topi (fun r hr => ?_)
  have hr : r = cFig (L 13) ((L 12) 5) ((L 12) 6) := hr
  rcases cFig_v (L 13) ((L 12) 5) ((L 12) 6) with g5 | g5 | g5 | g5 | g5 | g5 | g5 | g5 | g5 | g5 | g5 | g5 | g5
  · rw [g5] at hr
    subst hr
    refine ev_istore_n (pc' := 7) (i := 2) (lv' := [some (.ref 12), some (.int 0), some (.int 0), none]) dX0_realRoots_6 rfl rfl (Nat.le_of_ble_eq_true rfl) rfl rfl ?_
    refine ev_iconst (pc' := 8) (v := 0) dX0_realRoots_7 rfl ki_0 ?_
    refine ev_istore_n (pc' := 9) (i := 3) (lv' := [some (.ref 12), some (.int 0), some (.int 0), some (.int 0)]) dX0_realRoots_8 rfl rfl (Nat.le_of_ble_eq_true rfl) rfl rfl ?_
    refine ev_iload_n (pc' := 10) (i := 3) dX0_realRoots_9 rfl rfl rfl ?_
    refine ev_iconst (pc' := 11) (v := 4) dX0_realRoots_10 rfl ki_4 ?_
    refine ev_icmp_ge (tgt := 40) (pc' := 14) dX0_realRoots_11 rfl rfl (fun h => absurd h (by decide)) (fun _ => ?_)
    refine ev_iload_n (pc' := 15) (i := 2) dX0_realRoots_14 rfl rfl rfl ?_
    refine ev_if_eq (tgt := 40) (pc' := 18) dX0_realRoots_15 rfl rfl (fun _ => ?_) (fun h => absurd (by decide) h)
    refine ev_iload_n (pc' := 41) (i := 1) dX0_realRoots_40 rfl rfl rfl ?_
    refine ev_iret dX0_realRoots_41 rfl rfl ⟨Nat.le_refl _, Nat.le_refl _⟩ ?_
    have e : cRr (cFig (L 13) ((L 12) 5) ((L 12) 6)) = 0 := by rw [g5]; decide
    rw [e] at k0
    exact k0 _ _ _ _
  · rw [g5] at hr
    subst hr
    refine ev_istore_n (pc' := 7) (i := 2) (lv' := [some (.ref 12), some (.int 0), some (.int 4), none]) dX0_realRoots_6 rfl rfl (Nat.le_of_ble_eq_true rfl) rfl rfl ?_
    refine ev_iconst (pc' := 8) (v := 0) dX0_realRoots_7 rfl ki_0 ?_
    refine ev_istore_n (pc' := 9) (i := 3) (lv' := [some (.ref 12), some (.int 0), some (.int 4), some (.int 0)]) dX0_realRoots_8 rfl rfl (Nat.le_of_ble_eq_true rfl) rfl rfl ?_
    refine ev_iload_n (pc' := 10) (i := 3) dX0_realRoots_9 rfl rfl rfl ?_
    refine ev_iconst (pc' := 11) (v := 4) dX0_realRoots_10 rfl ki_4 ?_
    refine ev_icmp_ge (tgt := 40) (pc' := 14) dX0_realRoots_11 rfl rfl (fun h => absurd h (by decide)) (fun _ => ?_)
    refine ev_iload_n (pc' := 15) (i := 2) dX0_realRoots_14 rfl rfl rfl ?_
    refine ev_if_eq (tgt := 40) (pc' := 18) dX0_realRoots_15 rfl rfl (fun h => absurd h (by decide)) (fun _ => ?_)
    refine ev_iload_n (pc' := 19) (i := 2) dX0_realRoots_18 rfl rfl rfl ?_
    refine ev_bipush (pc' := 21) (v := 10) dX0_realRoots_19 rfl kb_10 ?_
    refine ev_irem (pc' := 22) (v := 4) dX0_realRoots_21 rfl (by decide) (by decide) ?_
    refine ev_iconst (pc' := 23) (v := 5) dX0_realRoots_22 rfl ki_5 ?_
    refine ev_icmp_ge (tgt := 29) (pc' := 26) dX0_realRoots_23 rfl rfl (fun h => absurd h (by decide)) (fun _ => ?_)
    refine ev_iinc (pc' := 29) (v := 1) (lv' := [some (.ref 12), some (.int 1), some (.int 4), some (.int 0)]) dX0_realRoots_26 rfl rfl (by decide) (Nat.le_of_ble_eq_true rfl) rfl rfl ?_
    refine ev_iload_n (pc' := 30) (i := 2) dX0_realRoots_29 rfl rfl rfl ?_
    refine ev_bipush (pc' := 32) (v := 10) dX0_realRoots_30 rfl kb_10 ?_
    refine ev_idiv (pc' := 33) (v := 0) dX0_realRoots_32 rfl (by decide) (by decide) ?_
    refine ev_istore_n (pc' := 34) (i := 2) (lv' := [some (.ref 12), some (.int 1), some (.int 0), some (.int 0)]) dX0_realRoots_33 rfl rfl (Nat.le_of_ble_eq_true rfl) rfl rfl ?_
    refine ev_iinc (pc' := 37) (v := 1) (lv' := [some (.ref 12), some (.int 1), some (.int 0), some (.int 1)]) dX0_realRoots_34 rfl rfl (by decide) (Nat.le_of_ble_eq_true rfl) rfl rfl ?_
    refine ev_goto (tgt := 9) dX0_realRoots_37 rfl ?_
    refine ev_iload_n (pc' := 10) (i := 3) dX0_realRoots_9 rfl rfl rfl ?_
    refine ev_iconst (pc' := 11) (v := 4) dX0_realRoots_10 rfl ki_4 ?_
    refine ev_icmp_ge (tgt := 40) (pc' := 14) dX0_realRoots_11 rfl rfl (fun h => absurd h (by decide)) (fun _ => ?_)
    refine ev_iload_n (pc' := 15) (i := 2) dX0_realRoots_14 rfl rfl rfl ?_
    refine ev_if_eq (tgt := 40) (pc' := 18) dX0_realRoots_15 rfl rfl (fun _ => ?_) (fun h => absurd (by decide) h)
    refine ev_iload_n (pc' := 41) (i := 1) dX0_realRoots_40 rfl rfl rfl ?_
    refine ev_iret dX0_realRoots_41 rfl rfl ⟨Nat.le_refl _, Nat.le_refl _⟩ ?_
    have e : cRr (cFig (L 13) ((L 12) 5) ((L 12) 6)) = 1 := by rw [g5]; decide
    rw [e] at k0
    exact k0 _ _ _ _
  · rw [g5] at hr
    subst hr
    refine ev_istore_n (pc' := 7) (i := 2) (lv' := [some (.ref 12), some (.int 0), some (.int 6), none]) dX0_realRoots_6 rfl rfl (Nat.le_of_ble_eq_true rfl) rfl rfl ?_
    refine ev_iconst (pc' := 8) (v := 0) dX0_realRoots_7 rfl ki_0 ?_
    refine ev_istore_n (pc' := 9) (i := 3) (lv' := [some (.ref 12), some (.int 0), some (.int 6), some (.int 0)]) dX0_realRoots_8 rfl rfl (Nat.le_of_ble_eq_true rfl) rfl rfl ?_
    refine ev_iload_n (pc' := 10) (i := 3) dX0_realRoots_9 rfl rfl rfl ?_
    refine ev_iconst (pc' := 11) (v := 4) dX0_realRoots_10 rfl ki_4 ?_
    refine ev_icmp_ge (tgt := 40) (pc' := 14) dX0_realRoots_11 rfl rfl (fun h => absurd h (by decide)) (fun _ => ?_)
    refine ev_iload_n (pc' := 15) (i := 2) dX0_realRoots_14 rfl rfl rfl ?_
    refine ev_if_eq (tgt := 40) (pc' := 18) dX0_realRoots_15 rfl rfl (fun h => absurd h (by decide)) (fun _ => ?_)
    refine ev_iload_n (pc' := 19) (i := 2) dX0_realRoots_18 rfl rfl rfl ?_
    refine ev_bipush (pc' := 21) (v := 10) dX0_realRoots_19 rfl kb_10 ?_
    refine ev_irem (pc' := 22) (v := 6) dX0_realRoots_21 rfl (by decide) (by decide) ?_
    refine ev_iconst (pc' := 23) (v := 5) dX0_realRoots_22 rfl ki_5 ?_
    refine ev_icmp_ge (tgt := 29) (pc' := 26) dX0_realRoots_23 rfl rfl (fun _ => ?_) (fun h => absurd (by decide) h)
    refine ev_iload_n (pc' := 30) (i := 2) dX0_realRoots_29 rfl rfl rfl ?_
    refine ev_bipush (pc' := 32) (v := 10) dX0_realRoots_30 rfl kb_10 ?_
    refine ev_idiv (pc' := 33) (v := 0) dX0_realRoots_32 rfl (by decide) (by decide) ?_
    refine ev_istore_n (pc' := 34) (i := 2) (lv' := [some (.ref 12), some (.int 0), some (.int 0), some (.int 0)]) dX0_realRoots_33 rfl rfl (Nat.le_of_ble_eq_true rfl) rfl rfl ?_
    refine ev_iinc (pc' := 37) (v := 1) (lv' := [some (.ref 12), some (.int 0), some (.int 0), some (.int 1)]) dX0_realRoots_34 rfl rfl (by decide) (Nat.le_of_ble_eq_true rfl) rfl rfl ?_
    refine ev_goto (tgt := 9) dX0_realRoots_37 rfl ?_
    refine ev_iload_n (pc' := 10) (i := 3) dX0_realRoots_9 rfl rfl rfl ?_
    refine ev_iconst (pc' := 11) (v := 4) dX0_realRoots_10 rfl ki_4 ?_
    refine ev_icmp_ge (tgt := 40) (pc' := 14) dX0_realRoots_11 rfl rfl (fun h => absurd h (by decide)) (fun _ => ?_)
    refine ev_iload_n (pc' := 15) (i := 2) dX0_realRoots_14 rfl rfl rfl ?_
    refine ev_if_eq (tgt := 40) (pc' := 18) dX0_realRoots_15 rfl rfl (fun _ => ?_) (fun h => absurd (by decide) h)
    refine ev_iload_n (pc' := 41) (i := 1) dX0_realRoots_40 rfl rfl rfl ?_
    refine ev_iret dX0_realRoots_41 rfl rfl ⟨Nat.le_refl _, Nat.le_refl _⟩ ?_
    have e : cRr (cFig (L 13) ((L 12) 5) ((L 12) 6)) = 0 := by rw [g5]; decide
    rw [e] at k0
    exact k0 _ _ _ _
  · rw [g5] at hr
    subst hr
    refine ev_istore_n (pc' := 7) (i := 2) (lv' := [some (.ref 12), some (.int 0), some (.int 13), none]) dX0_realRoots_6 rfl rfl (Nat.le_of_ble_eq_true rfl) rfl rfl ?_
    refine ev_iconst (pc' := 8) (v := 0) dX0_realRoots_7 rfl ki_0 ?_
    refine ev_istore_n (pc' := 9) (i := 3) (lv' := [some (.ref 12), some (.int 0), some (.int 13), some (.int 0)]) dX0_realRoots_8 rfl rfl (Nat.le_of_ble_eq_true rfl) rfl rfl ?_
    refine ev_iload_n (pc' := 10) (i := 3) dX0_realRoots_9 rfl rfl rfl ?_
    refine ev_iconst (pc' := 11) (v := 4) dX0_realRoots_10 rfl ki_4 ?_
    refine ev_icmp_ge (tgt := 40) (pc' := 14) dX0_realRoots_11 rfl rfl (fun h => absurd h (by decide)) (fun _ => ?_)
    refine ev_iload_n (pc' := 15) (i := 2) dX0_realRoots_14 rfl rfl rfl ?_
    refine ev_if_eq (tgt := 40) (pc' := 18) dX0_realRoots_15 rfl rfl (fun h => absurd h (by decide)) (fun _ => ?_)
    refine ev_iload_n (pc' := 19) (i := 2) dX0_realRoots_18 rfl rfl rfl ?_
    refine ev_bipush (pc' := 21) (v := 10) dX0_realRoots_19 rfl kb_10 ?_
    refine ev_irem (pc' := 22) (v := 3) dX0_realRoots_21 rfl (by decide) (by decide) ?_
    refine ev_iconst (pc' := 23) (v := 5) dX0_realRoots_22 rfl ki_5 ?_
    refine ev_icmp_ge (tgt := 29) (pc' := 26) dX0_realRoots_23 rfl rfl (fun h => absurd h (by decide)) (fun _ => ?_)
    refine ev_iinc (pc' := 29) (v := 1) (lv' := [some (.ref 12), some (.int 1), some (.int 13), some (.int 0)]) dX0_realRoots_26 rfl rfl (by decide) (Nat.le_of_ble_eq_true rfl) rfl rfl ?_
    refine ev_iload_n (pc' := 30) (i := 2) dX0_realRoots_29 rfl rfl rfl ?_
    refine ev_bipush (pc' := 32) (v := 10) dX0_realRoots_30 rfl kb_10 ?_
    refine ev_idiv (pc' := 33) (v := 1) dX0_realRoots_32 rfl (by decide) (by decide) ?_
    refine ev_istore_n (pc' := 34) (i := 2) (lv' := [some (.ref 12), some (.int 1), some (.int 1), some (.int 0)]) dX0_realRoots_33 rfl rfl (Nat.le_of_ble_eq_true rfl) rfl rfl ?_
    refine ev_iinc (pc' := 37) (v := 1) (lv' := [some (.ref 12), some (.int 1), some (.int 1), some (.int 1)]) dX0_realRoots_34 rfl rfl (by decide) (Nat.le_of_ble_eq_true rfl) rfl rfl ?_
    refine ev_goto (tgt := 9) dX0_realRoots_37 rfl ?_
    refine ev_iload_n (pc' := 10) (i := 3) dX0_realRoots_9 rfl rfl rfl ?_
    refine ev_iconst (pc' := 11) (v := 4) dX0_realRoots_10 rfl ki_4 ?_
    refine ev_icmp_ge (tgt := 40) (pc' := 14) dX0_realRoots_11 rfl rfl (fun h => absurd h (by decide)) (fun _ => ?_)
    refine ev_iload_n (pc' := 15) (i := 2) dX0_realRoots_14 rfl rfl rfl ?_
    refine ev_if_eq (tgt := 40) (pc' := 18) dX0_realRoots_15 rfl rfl (fun h => absurd h (by decide)) (fun _ => ?_)
    refine ev_iload_n (pc' := 19) (i := 2) dX0_realRoots_18 rfl rfl rfl ?_
    refine ev_bipush (pc' := 21) (v := 10) dX0_realRoots_19 rfl kb_10 ?_
    refine ev_irem (pc' := 22) (v := 1) dX0_realRoots_21 rfl (by decide) (by decide) ?_
    refine ev_iconst (pc' := 23) (v := 5) dX0_realRoots_22 rfl ki_5 ?_
    refine ev_icmp_ge (tgt := 29) (pc' := 26) dX0_realRoots_23 rfl rfl (fun h => absurd h (by decide)) (fun _ => ?_)
    refine ev_iinc (pc' := 29) (v := 2) (lv' := [some (.ref 12), some (.int 2), some (.int 1), some (.int 1)]) dX0_realRoots_26 rfl rfl (by decide) (Nat.le_of_ble_eq_true rfl) rfl rfl ?_
    refine ev_iload_n (pc' := 30) (i := 2) dX0_realRoots_29 rfl rfl rfl ?_
    refine ev_bipush (pc' := 32) (v := 10) dX0_realRoots_30 rfl kb_10 ?_
    refine ev_idiv (pc' := 33) (v := 0) dX0_realRoots_32 rfl (by decide) (by decide) ?_
    refine ev_istore_n (pc' := 34) (i := 2) (lv' := [some (.ref 12), some (.int 2), some (.int 0), some (.int 1)]) dX0_realRoots_33 rfl rfl (Nat.le_of_ble_eq_true rfl) rfl rfl ?_
    refine ev_iinc (pc' := 37) (v := 2) (lv' := [some (.ref 12), some (.int 2), some (.int 0), some (.int 2)]) dX0_realRoots_34 rfl rfl (by decide) (Nat.le_of_ble_eq_true rfl) rfl rfl ?_
    refine ev_goto (tgt := 9) dX0_realRoots_37 rfl ?_
    refine ev_iload_n (pc' := 10) (i := 3) dX0_realRoots_9 rfl rfl rfl ?_
    refine ev_iconst (pc' := 11) (v := 4) dX0_realRoots_10 rfl ki_4 ?_
    refine ev_icmp_ge (tgt := 40) (pc' := 14) dX0_realRoots_11 rfl rfl (fun h => absurd h (by decide)) (fun _ => ?_)
    refine ev_iload_n (pc' := 15) (i := 2) dX0_realRoots_14 rfl rfl rfl ?_
    refine ev_if_eq (tgt := 40) (pc' := 18) dX0_realRoots_15 rfl rfl (fun _ => ?_) (fun h => absurd (by decide) h)
    refine ev_iload_n (pc' := 41) (i := 1) dX0_realRoots_40 rfl rfl rfl ?_
    refine ev_iret dX0_realRoots_41 rfl rfl ⟨Nat.le_refl _, Nat.le_refl _⟩ ?_
    have e : cRr (cFig (L 13) ((L 12) 5) ((L 12) 6)) = 2 := by rw [g5]; decide
    rw [e] at k0
    exact k0 _ _ _ _
  · rw [g5] at hr
    subst hr
    refine ev_istore_n (pc' := 7) (i := 2) (lv' := [some (.ref 12), some (.int 0), some (.int 22), none]) dX0_realRoots_6 rfl rfl (Nat.le_of_ble_eq_true rfl) rfl rfl ?_
    refine ev_iconst (pc' := 8) (v := 0) dX0_realRoots_7 rfl ki_0 ?_
    refine ev_istore_n (pc' := 9) (i := 3) (lv' := [some (.ref 12), some (.int 0), some (.int 22), some (.int 0)]) dX0_realRoots_8 rfl rfl (Nat.le_of_ble_eq_true rfl) rfl rfl ?_
    refine ev_iload_n (pc' := 10) (i := 3) dX0_realRoots_9 rfl rfl rfl ?_
    refine ev_iconst (pc' := 11) (v := 4) dX0_realRoots_10 rfl ki_4 ?_
    refine ev_icmp_ge (tgt := 40) (pc' := 14) dX0_realRoots_11 rfl rfl (fun h => absurd h (by decide)) (fun _ => ?_)
    refine ev_iload_n (pc' := 15) (i := 2) dX0_realRoots_14 rfl rfl rfl ?_
    refine ev_if_eq (tgt := 40) (pc' := 18) dX0_realRoots_15 rfl rfl (fun h => absurd h (by decide)) (fun _ => ?_)
    refine ev_iload_n (pc' := 19) (i := 2) dX0_realRoots_18 rfl rfl rfl ?_
    refine ev_bipush (pc' := 21) (v := 10) dX0_realRoots_19 rfl kb_10 ?_
    refine ev_irem (pc' := 22) (v := 2) dX0_realRoots_21 rfl (by decide) (by decide) ?_
    refine ev_iconst (pc' := 23) (v := 5) dX0_realRoots_22 rfl ki_5 ?_
    refine ev_icmp_ge (tgt := 29) (pc' := 26) dX0_realRoots_23 rfl rfl (fun h => absurd h (by decide)) (fun _ => ?_)
    refine ev_iinc (pc' := 29) (v := 1) (lv' := [some (.ref 12), some (.int 1), some (.int 22), some (.int 0)]) dX0_realRoots_26 rfl rfl (by decide) (Nat.le_of_ble_eq_true rfl) rfl rfl ?_
    refine ev_iload_n (pc' := 30) (i := 2) dX0_realRoots_29 rfl rfl rfl ?_
    refine ev_bipush (pc' := 32) (v := 10) dX0_realRoots_30 rfl kb_10 ?_
    refine ev_idiv (pc' := 33) (v := 2) dX0_realRoots_32 rfl (by decide) (by decide) ?_
    refine ev_istore_n (pc' := 34) (i := 2) (lv' := [some (.ref 12), some (.int 1), some (.int 2), some (.int 0)]) dX0_realRoots_33 rfl rfl (Nat.le_of_ble_eq_true rfl) rfl rfl ?_
    refine ev_iinc (pc' := 37) (v := 1) (lv' := [some (.ref 12), some (.int 1), some (.int 2), some (.int 1)]) dX0_realRoots_34 rfl rfl (by decide) (Nat.le_of_ble_eq_true rfl) rfl rfl ?_
    refine ev_goto (tgt := 9) dX0_realRoots_37 rfl ?_
    refine ev_iload_n (pc' := 10) (i := 3) dX0_realRoots_9 rfl rfl rfl ?_
    refine ev_iconst (pc' := 11) (v := 4) dX0_realRoots_10 rfl ki_4 ?_
    refine ev_icmp_ge (tgt := 40) (pc' := 14) dX0_realRoots_11 rfl rfl (fun h => absurd h (by decide)) (fun _ => ?_)
    refine ev_iload_n (pc' := 15) (i := 2) dX0_realRoots_14 rfl rfl rfl ?_
    refine ev_if_eq (tgt := 40) (pc' := 18) dX0_realRoots_15 rfl rfl (fun h => absurd h (by decide)) (fun _ => ?_)
    refine ev_iload_n (pc' := 19) (i := 2) dX0_realRoots_18 rfl rfl rfl ?_
    refine ev_bipush (pc' := 21) (v := 10) dX0_realRoots_19 rfl kb_10 ?_
    refine ev_irem (pc' := 22) (v := 2) dX0_realRoots_21 rfl (by decide) (by decide) ?_
    refine ev_iconst (pc' := 23) (v := 5) dX0_realRoots_22 rfl ki_5 ?_
    refine ev_icmp_ge (tgt := 29) (pc' := 26) dX0_realRoots_23 rfl rfl (fun h => absurd h (by decide)) (fun _ => ?_)
    refine ev_iinc (pc' := 29) (v := 2) (lv' := [some (.ref 12), some (.int 2), some (.int 2), some (.int 1)]) dX0_realRoots_26 rfl rfl (by decide) (Nat.le_of_ble_eq_true rfl) rfl rfl ?_
    refine ev_iload_n (pc' := 30) (i := 2) dX0_realRoots_29 rfl rfl rfl ?_
    refine ev_bipush (pc' := 32) (v := 10) dX0_realRoots_30 rfl kb_10 ?_
    refine ev_idiv (pc' := 33) (v := 0) dX0_realRoots_32 rfl (by decide) (by decide) ?_
    refine ev_istore_n (pc' := 34) (i := 2) (lv' := [some (.ref 12), some (.int 2), some (.int 0), some (.int 1)]) dX0_realRoots_33 rfl rfl (Nat.le_of_ble_eq_true rfl) rfl rfl ?_
    refine ev_iinc (pc' := 37) (v := 2) (lv' := [some (.ref 12), some (.int 2), some (.int 0), some (.int 2)]) dX0_realRoots_34 rfl rfl (by decide) (Nat.le_of_ble_eq_true rfl) rfl rfl ?_
    refine ev_goto (tgt := 9) dX0_realRoots_37 rfl ?_
    refine ev_iload_n (pc' := 10) (i := 3) dX0_realRoots_9 rfl rfl rfl ?_
    refine ev_iconst (pc' := 11) (v := 4) dX0_realRoots_10 rfl ki_4 ?_
    refine ev_icmp_ge (tgt := 40) (pc' := 14) dX0_realRoots_11 rfl rfl (fun h => absurd h (by decide)) (fun _ => ?_)
    refine ev_iload_n (pc' := 15) (i := 2) dX0_realRoots_14 rfl rfl rfl ?_
    refine ev_if_eq (tgt := 40) (pc' := 18) dX0_realRoots_15 rfl rfl (fun _ => ?_) (fun h => absurd (by decide) h)
    refine ev_iload_n (pc' := 41) (i := 1) dX0_realRoots_40 rfl rfl rfl ?_
    refine ev_iret dX0_realRoots_41 rfl rfl ⟨Nat.le_refl _, Nat.le_refl _⟩ ?_
    have e : cRr (cFig (L 13) ((L 12) 5) ((L 12) 6)) = 2 := by rw [g5]; decide
    rw [e] at k0
    exact k0 _ _ _ _
  · rw [g5] at hr
    subst hr
    refine ev_istore_n (pc' := 7) (i := 2) (lv' := [some (.ref 12), some (.int 0), some (.int 25), none]) dX0_realRoots_6 rfl rfl (Nat.le_of_ble_eq_true rfl) rfl rfl ?_
    refine ev_iconst (pc' := 8) (v := 0) dX0_realRoots_7 rfl ki_0 ?_
    refine ev_istore_n (pc' := 9) (i := 3) (lv' := [some (.ref 12), some (.int 0), some (.int 25), some (.int 0)]) dX0_realRoots_8 rfl rfl (Nat.le_of_ble_eq_true rfl) rfl rfl ?_
    refine ev_iload_n (pc' := 10) (i := 3) dX0_realRoots_9 rfl rfl rfl ?_
    refine ev_iconst (pc' := 11) (v := 4) dX0_realRoots_10 rfl ki_4 ?_
    refine ev_icmp_ge (tgt := 40) (pc' := 14) dX0_realRoots_11 rfl rfl (fun h => absurd h (by decide)) (fun _ => ?_)
    refine ev_iload_n (pc' := 15) (i := 2) dX0_realRoots_14 rfl rfl rfl ?_
    refine ev_if_eq (tgt := 40) (pc' := 18) dX0_realRoots_15 rfl rfl (fun h => absurd h (by decide)) (fun _ => ?_)
    refine ev_iload_n (pc' := 19) (i := 2) dX0_realRoots_18 rfl rfl rfl ?_
    refine ev_bipush (pc' := 21) (v := 10) dX0_realRoots_19 rfl kb_10 ?_
    refine ev_irem (pc' := 22) (v := 5) dX0_realRoots_21 rfl (by decide) (by decide) ?_
    refine ev_iconst (pc' := 23) (v := 5) dX0_realRoots_22 rfl ki_5 ?_
    refine ev_icmp_ge (tgt := 29) (pc' := 26) dX0_realRoots_23 rfl rfl (fun _ => ?_) (fun h => absurd (by decide) h)
    refine ev_iload_n (pc' := 30) (i := 2) dX0_realRoots_29 rfl rfl rfl ?_
    refine ev_bipush (pc' := 32) (v := 10) dX0_realRoots_30 rfl kb_10 ?_
    refine ev_idiv (pc' := 33) (v := 2) dX0_realRoots_32 rfl (by decide) (by decide) ?_
    refine ev_istore_n (pc' := 34) (i := 2) (lv' := [some (.ref 12), some (.int 0), some (.int 2), some (.int 0)]) dX0_realRoots_33 rfl rfl (Nat.le_of_ble_eq_true rfl) rfl rfl ?_
    refine ev_iinc (pc' := 37) (v := 1) (lv' := [some (.ref 12), some (.int 0), some (.int 2), some (.int 1)]) dX0_realRoots_34 rfl rfl (by decide) (Nat.le_of_ble_eq_true rfl) rfl rfl ?_
    refine ev_goto (tgt := 9) dX0_realRoots_37 rfl ?_
    refine ev_iload_n (pc' := 10) (i := 3) dX0_realRoots_9 rfl rfl rfl ?_
    refine ev_iconst (pc' := 11) (v := 4) dX0_realRoots_10 rfl ki_4 ?_
    refine ev_icmp_ge (tgt := 40) (pc' := 14) dX0_realRoots_11 rfl rfl (fun h => absurd h (by decide)) (fun _ => ?_)
    refine ev_iload_n (pc' := 15) (i := 2) dX0_realRoots_14 rfl rfl rfl ?_
    refine ev_if_eq (tgt := 40) (pc' := 18) dX0_realRoots_15 rfl rfl (fun h => absurd h (by decide)) (fun _ => ?_)
    refine ev_iload_n (pc' := 19) (i := 2) dX0_realRoots_18 rfl rfl rfl ?_
    refine ev_bipush (pc' := 21) (v := 10) dX0_realRoots_19 rfl kb_10 ?_
    refine ev_irem (pc' := 22) (v := 2) dX0_realRoots_21 rfl (by decide) (by decide) ?_
    refine ev_iconst (pc' := 23) (v := 5) dX0_realRoots_22 rfl ki_5 ?_
    refine ev_icmp_ge (tgt := 29) (pc' := 26) dX0_realRoots_23 rfl rfl (fun h => absurd h (by decide)) (fun _ => ?_)
    refine ev_iinc (pc' := 29) (v := 1) (lv' := [some (.ref 12), some (.int 1), some (.int 2), some (.int 1)]) dX0_realRoots_26 rfl rfl (by decide) (Nat.le_of_ble_eq_true rfl) rfl rfl ?_
    refine ev_iload_n (pc' := 30) (i := 2) dX0_realRoots_29 rfl rfl rfl ?_
    refine ev_bipush (pc' := 32) (v := 10) dX0_realRoots_30 rfl kb_10 ?_
    refine ev_idiv (pc' := 33) (v := 0) dX0_realRoots_32 rfl (by decide) (by decide) ?_
    refine ev_istore_n (pc' := 34) (i := 2) (lv' := [some (.ref 12), some (.int 1), some (.int 0), some (.int 1)]) dX0_realRoots_33 rfl rfl (Nat.le_of_ble_eq_true rfl) rfl rfl ?_
    refine ev_iinc (pc' := 37) (v := 2) (lv' := [some (.ref 12), some (.int 1), some (.int 0), some (.int 2)]) dX0_realRoots_34 rfl rfl (by decide) (Nat.le_of_ble_eq_true rfl) rfl rfl ?_
    refine ev_goto (tgt := 9) dX0_realRoots_37 rfl ?_
    refine ev_iload_n (pc' := 10) (i := 3) dX0_realRoots_9 rfl rfl rfl ?_
    refine ev_iconst (pc' := 11) (v := 4) dX0_realRoots_10 rfl ki_4 ?_
    refine ev_icmp_ge (tgt := 40) (pc' := 14) dX0_realRoots_11 rfl rfl (fun h => absurd h (by decide)) (fun _ => ?_)
    refine ev_iload_n (pc' := 15) (i := 2) dX0_realRoots_14 rfl rfl rfl ?_
    refine ev_if_eq (tgt := 40) (pc' := 18) dX0_realRoots_15 rfl rfl (fun _ => ?_) (fun h => absurd (by decide) h)
    refine ev_iload_n (pc' := 41) (i := 1) dX0_realRoots_40 rfl rfl rfl ?_
    refine ev_iret dX0_realRoots_41 rfl rfl ⟨Nat.le_refl _, Nat.le_refl _⟩ ?_
    have e : cRr (cFig (L 13) ((L 12) 5) ((L 12) 6)) = 1 := by rw [g5]; decide
    rw [e] at k0
    exact k0 _ _ _ _
  · rw [g5] at hr
    subst hr
    refine ev_istore_n (pc' := 7) (i := 2) (lv' := [some (.ref 12), some (.int 0), some (.int 31), none]) dX0_realRoots_6 rfl rfl (Nat.le_of_ble_eq_true rfl) rfl rfl ?_
    refine ev_iconst (pc' := 8) (v := 0) dX0_realRoots_7 rfl ki_0 ?_
    refine ev_istore_n (pc' := 9) (i := 3) (lv' := [some (.ref 12), some (.int 0), some (.int 31), some (.int 0)]) dX0_realRoots_8 rfl rfl (Nat.le_of_ble_eq_true rfl) rfl rfl ?_
    refine ev_iload_n (pc' := 10) (i := 3) dX0_realRoots_9 rfl rfl rfl ?_
    refine ev_iconst (pc' := 11) (v := 4) dX0_realRoots_10 rfl ki_4 ?_
    refine ev_icmp_ge (tgt := 40) (pc' := 14) dX0_realRoots_11 rfl rfl (fun h => absurd h (by decide)) (fun _ => ?_)
    refine ev_iload_n (pc' := 15) (i := 2) dX0_realRoots_14 rfl rfl rfl ?_
    refine ev_if_eq (tgt := 40) (pc' := 18) dX0_realRoots_15 rfl rfl (fun h => absurd h (by decide)) (fun _ => ?_)
    refine ev_iload_n (pc' := 19) (i := 2) dX0_realRoots_18 rfl rfl rfl ?_
    refine ev_bipush (pc' := 21) (v := 10) dX0_realRoots_19 rfl kb_10 ?_
    refine ev_irem (pc' := 22) (v := 1) dX0_realRoots_21 rfl (by decide) (by decide) ?_
    refine ev_iconst (pc' := 23) (v := 5) dX0_realRoots_22 rfl ki_5 ?_
    refine ev_icmp_ge (tgt := 29) (pc' := 26) dX0_realRoots_23 rfl rfl (fun h => absurd h (by decide)) (fun _ => ?_)
    refine ev_iinc (pc' := 29) (v := 1) (lv' := [some (.ref 12), some (.int 1), some (.int 31), some (.int 0)]) dX0_realRoots_26 rfl rfl (by decide) (Nat.le_of_ble_eq_true rfl) rfl rfl ?_
    refine ev_iload_n (pc' := 30) (i := 2) dX0_realRoots_29 rfl rfl rfl ?_
    refine ev_bipush (pc' := 32) (v := 10) dX0_realRoots_30 rfl kb_10 ?_
    refine ev_idiv (pc' := 33) (v := 3) dX0_realRoots_32 rfl (by decide) (by decide) ?_
    refine ev_istore_n (pc' := 34) (i := 2) (lv' := [some (.ref 12), some (.int 1), some (.int 3), some (.int 0)]) dX0_realRoots_33 rfl rfl (Nat.le_of_ble_eq_true rfl) rfl rfl ?_
    refine ev_iinc (pc' := 37) (v := 1) (lv' := [some (.ref 12), some (.int 1), some (.int 3), some (.int 1)]) dX0_realRoots_34 rfl rfl (by decide) (Nat.le_of_ble_eq_true rfl) rfl rfl ?_
    refine ev_goto (tgt := 9) dX0_realRoots_37 rfl ?_
    refine ev_iload_n (pc' := 10) (i := 3) dX0_realRoots_9 rfl rfl rfl ?_
    refine ev_iconst (pc' := 11) (v := 4) dX0_realRoots_10 rfl ki_4 ?_
    refine ev_icmp_ge (tgt := 40) (pc' := 14) dX0_realRoots_11 rfl rfl (fun h => absurd h (by decide)) (fun _ => ?_)
    refine ev_iload_n (pc' := 15) (i := 2) dX0_realRoots_14 rfl rfl rfl ?_
    refine ev_if_eq (tgt := 40) (pc' := 18) dX0_realRoots_15 rfl rfl (fun h => absurd h (by decide)) (fun _ => ?_)
    refine ev_iload_n (pc' := 19) (i := 2) dX0_realRoots_18 rfl rfl rfl ?_
    refine ev_bipush (pc' := 21) (v := 10) dX0_realRoots_19 rfl kb_10 ?_
    refine ev_irem (pc' := 22) (v := 3) dX0_realRoots_21 rfl (by decide) (by decide) ?_
    refine ev_iconst (pc' := 23) (v := 5) dX0_realRoots_22 rfl ki_5 ?_
    refine ev_icmp_ge (tgt := 29) (pc' := 26) dX0_realRoots_23 rfl rfl (fun h => absurd h (by decide)) (fun _ => ?_)
    refine ev_iinc (pc' := 29) (v := 2) (lv' := [some (.ref 12), some (.int 2), some (.int 3), some (.int 1)]) dX0_realRoots_26 rfl rfl (by decide) (Nat.le_of_ble_eq_true rfl) rfl rfl ?_
    refine ev_iload_n (pc' := 30) (i := 2) dX0_realRoots_29 rfl rfl rfl ?_
    refine ev_bipush (pc' := 32) (v := 10) dX0_realRoots_30 rfl kb_10 ?_
    refine ev_idiv (pc' := 33) (v := 0) dX0_realRoots_32 rfl (by decide) (by decide) ?_
    refine ev_istore_n (pc' := 34) (i := 2) (lv' := [some (.ref 12), some (.int 2), some (.int 0), some (.int 1)]) dX0_realRoots_33 rfl rfl (Nat.le_of_ble_eq_true rfl) rfl rfl ?_
    refine ev_iinc (pc' := 37) (v := 2) (lv' := [some (.ref 12), some (.int 2), some (.int 0), some (.int 2)]) dX0_realRoots_34 rfl rfl (by decide) (Nat.le_of_ble_eq_true rfl) rfl rfl ?_
    refine ev_goto (tgt := 9) dX0_realRoots_37 rfl ?_
    refine ev_iload_n (pc' := 10) (i := 3) dX0_realRoots_9 rfl rfl rfl ?_
    refine ev_iconst (pc' := 11) (v := 4) dX0_realRoots_10 rfl ki_4 ?_
    refine ev_icmp_ge (tgt := 40) (pc' := 14) dX0_realRoots_11 rfl rfl (fun h => absurd h (by decide)) (fun _ => ?_)
    refine ev_iload_n (pc' := 15) (i := 2) dX0_realRoots_14 rfl rfl rfl ?_
    refine ev_if_eq (tgt := 40) (pc' := 18) dX0_realRoots_15 rfl rfl (fun _ => ?_) (fun h => absurd (by decide) h)
    refine ev_iload_n (pc' := 41) (i := 1) dX0_realRoots_40 rfl rfl rfl ?_
    refine ev_iret dX0_realRoots_41 rfl rfl ⟨Nat.le_refl _, Nat.le_refl _⟩ ?_
    have e : cRr (cFig (L 13) ((L 12) 5) ((L 12) 6)) = 2 := by rw [g5]; decide
    rw [e] at k0
    exact k0 _ _ _ _
  · rw [g5] at hr
    subst hr
    refine ev_istore_n (pc' := 7) (i := 2) (lv' := [some (.ref 12), some (.int 0), some (.int 55), none]) dX0_realRoots_6 rfl rfl (Nat.le_of_ble_eq_true rfl) rfl rfl ?_
    refine ev_iconst (pc' := 8) (v := 0) dX0_realRoots_7 rfl ki_0 ?_
    refine ev_istore_n (pc' := 9) (i := 3) (lv' := [some (.ref 12), some (.int 0), some (.int 55), some (.int 0)]) dX0_realRoots_8 rfl rfl (Nat.le_of_ble_eq_true rfl) rfl rfl ?_
    refine ev_iload_n (pc' := 10) (i := 3) dX0_realRoots_9 rfl rfl rfl ?_
    refine ev_iconst (pc' := 11) (v := 4) dX0_realRoots_10 rfl ki_4 ?_
    refine ev_icmp_ge (tgt := 40) (pc' := 14) dX0_realRoots_11 rfl rfl (fun h => absurd h (by decide)) (fun _ => ?_)
    refine ev_iload_n (pc' := 15) (i := 2) dX0_realRoots_14 rfl rfl rfl ?_
    refine ev_if_eq (tgt := 40) (pc' := 18) dX0_realRoots_15 rfl rfl (fun h => absurd h (by decide)) (fun _ => ?_)
    refine ev_iload_n (pc' := 19) (i := 2) dX0_realRoots_18 rfl rfl rfl ?_
    refine ev_bipush (pc' := 21) (v := 10) dX0_realRoots_19 rfl kb_10 ?_
    refine ev_irem (pc' := 22) (v := 5) dX0_realRoots_21 rfl (by decide) (by decide) ?_
    refine ev_iconst (pc' := 23) (v := 5) dX0_realRoots_22 rfl ki_5 ?_
    refine ev_icmp_ge (tgt := 29) (pc' := 26) dX0_realRoots_23 rfl rfl (fun _ => ?_) (fun h => absurd (by decide) h)
    refine ev_iload_n (pc' := 30) (i := 2) dX0_realRoots_29 rfl rfl rfl ?_
    refine ev_bipush (pc' := 32) (v := 10) dX0_realRoots_30 rfl kb_10 ?_
    refine ev_idiv (pc' := 33) (v := 5) dX0_realRoots_32 rfl (by decide) (by decide) ?_
    refine ev_istore_n (pc' := 34) (i := 2) (lv' := [some (.ref 12), some (.int 0), some (.int 5), some (.int 0)]) dX0_realRoots_33 rfl rfl (Nat.le_of_ble_eq_true rfl) rfl rfl ?_
    refine ev_iinc (pc' := 37) (v := 1) (lv' := [some (.ref 12), some (.int 0), some (.int 5), some (.int 1)]) dX0_realRoots_34 rfl rfl (by decide) (Nat.le_of_ble_eq_true rfl) rfl rfl ?_
    refine ev_goto (tgt := 9) dX0_realRoots_37 rfl ?_
    refine ev_iload_n (pc' := 10) (i := 3) dX0_realRoots_9 rfl rfl rfl ?_
    refine ev_iconst (pc' := 11) (v := 4) dX0_realRoots_10 rfl ki_4 ?_
    refine ev_icmp_ge (tgt := 40) (pc' := 14) dX0_realRoots_11 rfl rfl (fun h => absurd h (by decide)) (fun _ => ?_)
    refine ev_iload_n (pc' := 15) (i := 2) dX0_realRoots_14 rfl rfl rfl ?_
    refine ev_if_eq (tgt := 40) (pc' := 18) dX0_realRoots_15 rfl rfl (fun h => absurd h (by decide)) (fun _ => ?_)
    refine ev_iload_n (pc' := 19) (i := 2) dX0_realRoots_18 rfl rfl rfl ?_
    refine ev_bipush (pc' := 21) (v := 10) dX0_realRoots_19 rfl kb_10 ?_
    refine ev_irem (pc' := 22) (v := 5) dX0_realRoots_21 rfl (by decide) (by decide) ?_
    refine ev_iconst (pc' := 23) (v := 5) dX0_realRoots_22 rfl ki_5 ?_
    refine ev_icmp_ge (tgt := 29) (pc' := 26) dX0_realRoots_23 rfl rfl (fun _ => ?_) (fun h => absurd (by decide) h)
    refine ev_iload_n (pc' := 30) (i := 2) dX0_realRoots_29 rfl rfl rfl ?_
    refine ev_bipush (pc' := 32) (v := 10) dX0_realRoots_30 rfl kb_10 ?_
    refine ev_idiv (pc' := 33) (v := 0) dX0_realRoots_32 rfl (by decide) (by decide) ?_
    refine ev_istore_n (pc' := 34) (i := 2) (lv' := [some (.ref 12), some (.int 0), some (.int 0), some (.int 1)]) dX0_realRoots_33 rfl rfl (Nat.le_of_ble_eq_true rfl) rfl rfl ?_
    refine ev_iinc (pc' := 37) (v := 2) (lv' := [some (.ref 12), some (.int 0), some (.int 0), some (.int 2)]) dX0_realRoots_34 rfl rfl (by decide) (Nat.le_of_ble_eq_true rfl) rfl rfl ?_
    refine ev_goto (tgt := 9) dX0_realRoots_37 rfl ?_
    refine ev_iload_n (pc' := 10) (i := 3) dX0_realRoots_9 rfl rfl rfl ?_
    refine ev_iconst (pc' := 11) (v := 4) dX0_realRoots_10 rfl ki_4 ?_
    refine ev_icmp_ge (tgt := 40) (pc' := 14) dX0_realRoots_11 rfl rfl (fun h => absurd h (by decide)) (fun _ => ?_)
    refine ev_iload_n (pc' := 15) (i := 2) dX0_realRoots_14 rfl rfl rfl ?_
    refine ev_if_eq (tgt := 40) (pc' := 18) dX0_realRoots_15 rfl rfl (fun _ => ?_) (fun h => absurd (by decide) h)
    refine ev_iload_n (pc' := 41) (i := 1) dX0_realRoots_40 rfl rfl rfl ?_
    refine ev_iret dX0_realRoots_41 rfl rfl ⟨Nat.le_refl _, Nat.le_refl _⟩ ?_
    have e : cRr (cFig (L 13) ((L 12) 5) ((L 12) 6)) = 0 := by rw [g5]; decide
    rw [e] at k0
    exact k0 _ _ _ _
  · rw [g5] at hr
    subst hr
    refine ev_istore_n (pc' := 7) (i := 2) (lv' := [some (.ref 12), some (.int 0), some (.int 112), none]) dX0_realRoots_6 rfl rfl (Nat.le_of_ble_eq_true rfl) rfl rfl ?_
    refine ev_iconst (pc' := 8) (v := 0) dX0_realRoots_7 rfl ki_0 ?_
    refine ev_istore_n (pc' := 9) (i := 3) (lv' := [some (.ref 12), some (.int 0), some (.int 112), some (.int 0)]) dX0_realRoots_8 rfl rfl (Nat.le_of_ble_eq_true rfl) rfl rfl ?_
    refine ev_iload_n (pc' := 10) (i := 3) dX0_realRoots_9 rfl rfl rfl ?_
    refine ev_iconst (pc' := 11) (v := 4) dX0_realRoots_10 rfl ki_4 ?_
    refine ev_icmp_ge (tgt := 40) (pc' := 14) dX0_realRoots_11 rfl rfl (fun h => absurd h (by decide)) (fun _ => ?_)
    refine ev_iload_n (pc' := 15) (i := 2) dX0_realRoots_14 rfl rfl rfl ?_
    refine ev_if_eq (tgt := 40) (pc' := 18) dX0_realRoots_15 rfl rfl (fun h => absurd h (by decide)) (fun _ => ?_)
    refine ev_iload_n (pc' := 19) (i := 2) dX0_realRoots_18 rfl rfl rfl ?_
    refine ev_bipush (pc' := 21) (v := 10) dX0_realRoots_19 rfl kb_10 ?_
    refine ev_irem (pc' := 22) (v := 2) dX0_realRoots_21 rfl (by decide) (by decide) ?_
    refine ev_iconst (pc' := 23) (v := 5) dX0_realRoots_22 rfl ki_5 ?_
    refine ev_icmp_ge (tgt := 29) (pc' := 26) dX0_realRoots_23 rfl rfl (fun h => absurd h (by decide)) (fun _ => ?_)
    refine ev_iinc (pc' := 29) (v := 1) (lv' := [some (.ref 12), some (.int 1), some (.int 112), some (.int 0)]) dX0_realRoots_26 rfl rfl (by decide) (Nat.le_of_ble_eq_true rfl) rfl rfl ?_
    refine ev_iload_n (pc' := 30) (i := 2) dX0_realRoots_29 rfl rfl rfl ?_
    refine ev_bipush (pc' := 32) (v := 10) dX0_realRoots_30 rfl kb_10 ?_
    refine ev_idiv (pc' := 33) (v := 11) dX0_realRoots_32 rfl (by decide) (by decide) ?_
    refine ev_istore_n (pc' := 34) (i := 2) (lv' := [some (.ref 12), some (.int 1), some (.int 11), some (.int 0)]) dX0_realRoots_33 rfl rfl (Nat.le_of_ble_eq_true rfl) rfl rfl ?_
    refine ev_iinc (pc' := 37) (v := 1) (lv' := [some (.ref 12), some (.int 1), some (.int 11), some (.int 1)]) dX0_realRoots_34 rfl rfl (by decide) (Nat.le_of_ble_eq_true rfl) rfl rfl ?_
    refine ev_goto (tgt := 9) dX0_realRoots_37 rfl ?_
    refine ev_iload_n (pc' := 10) (i := 3) dX0_realRoots_9 rfl rfl rfl ?_
    refine ev_iconst (pc' := 11) (v := 4) dX0_realRoots_10 rfl ki_4 ?_
    refine ev_icmp_ge (tgt := 40) (pc' := 14) dX0_realRoots_11 rfl rfl (fun h => absurd h (by decide)) (fun _ => ?_)
    refine ev_iload_n (pc' := 15) (i := 2) dX0_realRoots_14 rfl rfl rfl ?_
    refine ev_if_eq (tgt := 40) (pc' := 18) dX0_realRoots_15 rfl rfl (fun h => absurd h (by decide)) (fun _ => ?_)
    refine ev_iload_n (pc' := 19) (i := 2) dX0_realRoots_18 rfl rfl rfl ?_
    refine ev_bipush (pc' := 21) (v := 10) dX0_realRoots_19 rfl kb_10 ?_
    refine ev_irem (pc' := 22) (v := 1) dX0_realRoots_21 rfl (by decide) (by decide) ?_
    refine ev_iconst (pc' := 23) (v := 5) dX0_realRoots_22 rfl ki_5 ?_
    refine ev_icmp_ge (tgt := 29) (pc' := 26) dX0_realRoots_23 rfl rfl (fun h => absurd h (by decide)) (fun _ => ?_)
    refine ev_iinc (pc' := 29) (v := 2) (lv' := [some (.ref 12), some (.int 2), some (.int 11), some (.int 1)]) dX0_realRoots_26 rfl rfl (by decide) (Nat.le_of_ble_eq_true rfl) rfl rfl ?_
    refine ev_iload_n (pc' := 30) (i := 2) dX0_realRoots_29 rfl rfl rfl ?_
    refine ev_bipush (pc' := 32) (v := 10) dX0_realRoots_30 rfl kb_10 ?_
    refine ev_idiv (pc' := 33) (v := 1) dX0_realRoots_32 rfl (by decide) (by decide) ?_
    refine ev_istore_n (pc' := 34) (i := 2) (lv' := [some (.ref 12), some (.int 2), some (.int 1), some (.int 1)]) dX0_realRoots_33 rfl rfl (Nat.le_of_ble_eq_true rfl) rfl rfl ?_
    refine ev_iinc (pc' := 37) (v := 2) (lv' := [some (.ref 12), some (.int 2), some (.int 1), some (.int 2)]) dX0_realRoots_34 rfl rfl (by decide) (Nat.le_of_ble_eq_true rfl) rfl rfl ?_
    refine ev_goto (tgt := 9) dX0_realRoots_37 rfl ?_
    refine ev_iload_n (pc' := 10) (i := 3) dX0_realRoots_9 rfl rfl rfl ?_
    refine ev_iconst (pc' := 11) (v := 4) dX0_realRoots_10 rfl ki_4 ?_
    refine ev_icmp_ge (tgt := 40) (pc' := 14) dX0_realRoots_11 rfl rfl (fun h => absurd h (by decide)) (fun _ => ?_)
    refine ev_iload_n (pc' := 15) (i := 2) dX0_realRoots_14 rfl rfl rfl ?_
    refine ev_if_eq (tgt := 40) (pc' := 18) dX0_realRoots_15 rfl rfl (fun h => absurd h (by decide)) (fun _ => ?_)
    refine ev_iload_n (pc' := 19) (i := 2) dX0_realRoots_18 rfl rfl rfl ?_
    refine ev_bipush (pc' := 21) (v := 10) dX0_realRoots_19 rfl kb_10 ?_
    refine ev_irem (pc' := 22) (v := 1) dX0_realRoots_21 rfl (by decide) (by decide) ?_
    refine ev_iconst (pc' := 23) (v := 5) dX0_realRoots_22 rfl ki_5 ?_
    refine ev_icmp_ge (tgt := 29) (pc' := 26) dX0_realRoots_23 rfl rfl (fun h => absurd h (by decide)) (fun _ => ?_)
    refine ev_iinc (pc' := 29) (v := 3) (lv' := [some (.ref 12), some (.int 3), some (.int 1), some (.int 2)]) dX0_realRoots_26 rfl rfl (by decide) (Nat.le_of_ble_eq_true rfl) rfl rfl ?_
    refine ev_iload_n (pc' := 30) (i := 2) dX0_realRoots_29 rfl rfl rfl ?_
    refine ev_bipush (pc' := 32) (v := 10) dX0_realRoots_30 rfl kb_10 ?_
    refine ev_idiv (pc' := 33) (v := 0) dX0_realRoots_32 rfl (by decide) (by decide) ?_
    refine ev_istore_n (pc' := 34) (i := 2) (lv' := [some (.ref 12), some (.int 3), some (.int 0), some (.int 2)]) dX0_realRoots_33 rfl rfl (Nat.le_of_ble_eq_true rfl) rfl rfl ?_
    refine ev_iinc (pc' := 37) (v := 3) (lv' := [some (.ref 12), some (.int 3), some (.int 0), some (.int 3)]) dX0_realRoots_34 rfl rfl (by decide) (Nat.le_of_ble_eq_true rfl) rfl rfl ?_
    refine ev_goto (tgt := 9) dX0_realRoots_37 rfl ?_
    refine ev_iload_n (pc' := 10) (i := 3) dX0_realRoots_9 rfl rfl rfl ?_
    refine ev_iconst (pc' := 11) (v := 4) dX0_realRoots_10 rfl ki_4 ?_
    refine ev_icmp_ge (tgt := 40) (pc' := 14) dX0_realRoots_11 rfl rfl (fun h => absurd h (by decide)) (fun _ => ?_)
    refine ev_iload_n (pc' := 15) (i := 2) dX0_realRoots_14 rfl rfl rfl ?_
    refine ev_if_eq (tgt := 40) (pc' := 18) dX0_realRoots_15 rfl rfl (fun _ => ?_) (fun h => absurd (by decide) h)
    refine ev_iload_n (pc' := 41) (i := 1) dX0_realRoots_40 rfl rfl rfl ?_
    refine ev_iret dX0_realRoots_41 rfl rfl ⟨Nat.le_refl _, Nat.le_refl _⟩ ?_
    have e : cRr (cFig (L 13) ((L 12) 5) ((L 12) 6)) = 3 := by rw [g5]; decide
    rw [e] at k0
    exact k0 _ _ _ _
  · rw [g5] at hr
    subst hr
    refine ev_istore_n (pc' := 7) (i := 2) (lv' := [some (.ref 12), some (.int 0), some (.int 115), none]) dX0_realRoots_6 rfl rfl (Nat.le_of_ble_eq_true rfl) rfl rfl ?_
    refine ev_iconst (pc' := 8) (v := 0) dX0_realRoots_7 rfl ki_0 ?_
    refine ev_istore_n (pc' := 9) (i := 3) (lv' := [some (.ref 12), some (.int 0), some (.int 115), some (.int 0)]) dX0_realRoots_8 rfl rfl (Nat.le_of_ble_eq_true rfl) rfl rfl ?_
    refine ev_iload_n (pc' := 10) (i := 3) dX0_realRoots_9 rfl rfl rfl ?_
    refine ev_iconst (pc' := 11) (v := 4) dX0_realRoots_10 rfl ki_4 ?_
    refine ev_icmp_ge (tgt := 40) (pc' := 14) dX0_realRoots_11 rfl rfl (fun h => absurd h (by decide)) (fun _ => ?_)
    refine ev_iload_n (pc' := 15) (i := 2) dX0_realRoots_14 rfl rfl rfl ?_
    refine ev_if_eq (tgt := 40) (pc' := 18) dX0_realRoots_15 rfl rfl (fun h => absurd h (by decide)) (fun _ => ?_)
    refine ev_iload_n (pc' := 19) (i := 2) dX0_realRoots_18 rfl rfl rfl ?_
    refine ev_bipush (pc' := 21) (v := 10) dX0_realRoots_19 rfl kb_10 ?_
    refine ev_irem (pc' := 22) (v := 5) dX0_realRoots_21 rfl (by decide) (by decide) ?_
    refine ev_iconst (pc' := 23) (v := 5) dX0_realRoots_22 rfl ki_5 ?_
    refine ev_icmp_ge (tgt := 29) (pc' := 26) dX0_realRoots_23 rfl rfl (fun _ => ?_) (fun h => absurd (by decide) h)
    refine ev_iload_n (pc' := 30) (i := 2) dX0_realRoots_29 rfl rfl rfl ?_
    refine ev_bipush (pc' := 32) (v := 10) dX0_realRoots_30 rfl kb_10 ?_
    refine ev_idiv (pc' := 33) (v := 11) dX0_realRoots_32 rfl (by decide) (by decide) ?_
    refine ev_istore_n (pc' := 34) (i := 2) (lv' := [some (.ref 12), some (.int 0), some (.int 11), some (.int 0)]) dX0_realRoots_33 rfl rfl (Nat.le_of_ble_eq_true rfl) rfl rfl ?_
    refine ev_iinc (pc' := 37) (v := 1) (lv' := [some (.ref 12), some (.int 0), some (.int 11), some (.int 1)]) dX0_realRoots_34 rfl rfl (by decide) (Nat.le_of_ble_eq_true rfl) rfl rfl ?_
    refine ev_goto (tgt := 9) dX0_realRoots_37 rfl ?_
    refine ev_iload_n (pc' := 10) (i := 3) dX0_realRoots_9 rfl rfl rfl ?_
    refine ev_iconst (pc' := 11) (v := 4) dX0_realRoots_10 rfl ki_4 ?_
    refine ev_icmp_ge (tgt := 40) (pc' := 14) dX0_realRoots_11 rfl rfl (fun h => absurd h (by decide)) (fun _ => ?_)
    refine ev_iload_n (pc' := 15) (i := 2) dX0_realRoots_14 rfl rfl rfl ?_
    refine ev_if_eq (tgt := 40) (pc' := 18) dX0_realRoots_15 rfl rfl (fun h => absurd h (by decide)) (fun _ => ?_)
    refine ev_iload_n (pc' := 19) (i := 2) dX0_realRoots_18 rfl rfl rfl ?_
    refine ev_bipush (pc' := 21) (v := 10) dX0_realRoots_19 rfl kb_10 ?_
    refine ev_irem (pc' := 22) (v := 1) dX0_realRoots_21 rfl (by decide) (by decide) ?_
    refine ev_iconst (pc' := 23) (v := 5) dX0_realRoots_22 rfl ki_5 ?_
    refine ev_icmp_ge (tgt := 29) (pc' := 26) dX0_realRoots_23 rfl rfl (fun h => absurd h (by decide)) (fun _ => ?_)
    refine ev_iinc (pc' := 29) (v := 1) (lv' := [some (.ref 12), some (.int 1), some (.int 11), some (.int 1)]) dX0_realRoots_26 rfl rfl (by decide) (Nat.le_of_ble_eq_true rfl) rfl rfl ?_
    refine ev_iload_n (pc' := 30) (i := 2) dX0_realRoots_29 rfl rfl rfl ?_
    refine ev_bipush (pc' := 32) (v := 10) dX0_realRoots_30 rfl kb_10 ?_
    refine ev_idiv (pc' := 33) (v := 1) dX0_realRoots_32 rfl (by decide) (by decide) ?_
    refine ev_istore_n (pc' := 34) (i := 2) (lv' := [some (.ref 12), some (.int 1), some (.int 1), some (.int 1)]) dX0_realRoots_33 rfl rfl (Nat.le_of_ble_eq_true rfl) rfl rfl ?_
    refine ev_iinc (pc' := 37) (v := 2) (lv' := [some (.ref 12), some (.int 1), some (.int 1), some (.int 2)]) dX0_realRoots_34 rfl rfl (by decide) (Nat.le_of_ble_eq_true rfl) rfl rfl ?_
    refine ev_goto (tgt := 9) dX0_realRoots_37 rfl ?_
    refine ev_iload_n (pc' := 10) (i := 3) dX0_realRoots_9 rfl rfl rfl ?_
    refine ev_iconst (pc' := 11) (v := 4) dX0_realRoots_10 rfl ki_4 ?_
    refine ev_icmp_ge (tgt := 40) (pc' := 14) dX0_realRoots_11 rfl rfl (fun h => absurd h (by decide)) (fun _ => ?_)
    refine ev_iload_n (pc' := 15) (i := 2) dX0_realRoots_14 rfl rfl rfl ?_
    refine ev_if_eq (tgt := 40) (pc' := 18) dX0_realRoots_15 rfl rfl (fun h => absurd h (by decide)) (fun _ => ?_)
    refine ev_iload_n (pc' := 19) (i := 2) dX0_realRoots_18 rfl rfl rfl ?_
    refine ev_bipush (pc' := 21) (v := 10) dX0_realRoots_19 rfl kb_10 ?_
    refine ev_irem (pc' := 22) (v := 1) dX0_realRoots_21 rfl (by decide) (by decide) ?_
    refine ev_iconst (pc' := 23) (v := 5) dX0_realRoots_22 rfl ki_5 ?_
    refine ev_icmp_ge (tgt := 29) (pc' := 26) dX0_realRoots_23 rfl rfl (fun h => absurd h (by decide)) (fun _ => ?_)
    refine ev_iinc (pc' := 29) (v := 2) (lv' := [some (.ref 12), some (.int 2), some (.int 1), some (.int 2)]) dX0_realRoots_26 rfl rfl (by decide) (Nat.le_of_ble_eq_true rfl) rfl rfl ?_
    refine ev_iload_n (pc' := 30) (i := 2) dX0_realRoots_29 rfl rfl rfl ?_
    refine ev_bipush (pc' := 32) (v := 10) dX0_realRoots_30 rfl kb_10 ?_
    refine ev_idiv (pc' := 33) (v := 0) dX0_realRoots_32 rfl (by decide) (by decide) ?_
    refine ev_istore_n (pc' := 34) (i := 2) (lv' := [some (.ref 12), some (.int 2), some (.int 0), some (.int 2)]) dX0_realRoots_33 rfl rfl (Nat.le_of_ble_eq_true rfl) rfl rfl ?_
    refine ev_iinc (pc' := 37) (v := 3) (lv' := [some (.ref 12), some (.int 2), some (.int 0), some (.int 3)]) dX0_realRoots_34 rfl rfl (by decide) (Nat.le_of_ble_eq_true rfl) rfl rfl ?_
    refine ev_goto (tgt := 9) dX0_realRoots_37 rfl ?_
    refine ev_iload_n (pc' := 10) (i := 3) dX0_realRoots_9 rfl rfl rfl ?_
    refine ev_iconst (pc' := 11) (v := 4) dX0_realRoots_10 rfl ki_4 ?_
    refine ev_icmp_ge (tgt := 40) (pc' := 14) dX0_realRoots_11 rfl rfl (fun h => absurd h (by decide)) (fun _ => ?_)
    refine ev_iload_n (pc' := 15) (i := 2) dX0_realRoots_14 rfl rfl rfl ?_
    refine ev_if_eq (tgt := 40) (pc' := 18) dX0_realRoots_15 rfl rfl (fun _ => ?_) (fun h => absurd (by decide) h)
    refine ev_iload_n (pc' := 41) (i := 1) dX0_realRoots_40 rfl rfl rfl ?_
    refine ev_iret dX0_realRoots_41 rfl rfl ⟨Nat.le_refl _, Nat.le_refl _⟩ ?_
    have e : cRr (cFig (L 13) ((L 12) 5) ((L 12) 6)) = 2 := by rw [g5]; decide
    rw [e] at k0
    exact k0 _ _ _ _
  · rw [g5] at hr
    subst hr
    refine ev_istore_n (pc' := 7) (i := 2) (lv' := [some (.ref 12), some (.int 0), some (.int 121), none]) dX0_realRoots_6 rfl rfl (Nat.le_of_ble_eq_true rfl) rfl rfl ?_
    refine ev_iconst (pc' := 8) (v := 0) dX0_realRoots_7 rfl ki_0 ?_
    refine ev_istore_n (pc' := 9) (i := 3) (lv' := [some (.ref 12), some (.int 0), some (.int 121), some (.int 0)]) dX0_realRoots_8 rfl rfl (Nat.le_of_ble_eq_true rfl) rfl rfl ?_
    refine ev_iload_n (pc' := 10) (i := 3) dX0_realRoots_9 rfl rfl rfl ?_
    refine ev_iconst (pc' := 11) (v := 4) dX0_realRoots_10 rfl ki_4 ?_
    refine ev_icmp_ge (tgt := 40) (pc' := 14) dX0_realRoots_11 rfl rfl (fun h => absurd h (by decide)) (fun _ => ?_)
    refine ev_iload_n (pc' := 15) (i := 2) dX0_realRoots_14 rfl rfl rfl ?_
    refine ev_if_eq (tgt := 40) (pc' := 18) dX0_realRoots_15 rfl rfl (fun h => absurd h (by decide)) (fun _ => ?_)
    refine ev_iload_n (pc' := 19) (i := 2) dX0_realRoots_18 rfl rfl rfl ?_
    refine ev_bipush (pc' := 21) (v := 10) dX0_realRoots_19 rfl kb_10 ?_
    refine ev_irem (pc' := 22) (v := 1) dX0_realRoots_21 rfl (by decide) (by decide) ?_
    refine ev_iconst (pc' := 23) (v := 5) dX0_realRoots_22 rfl ki_5 ?_
    refine ev_icmp_ge (tgt := 29) (pc' := 26) dX0_realRoots_23 rfl rfl (fun h => absurd h (by decide)) (fun _ => ?_)
    refine ev_iinc (pc' := 29) (v := 1) (lv' := [some (.ref 12), some (.int 1), some (.int 121), some (.int 0)]) dX0_realRoots_26 rfl rfl (by decide) (Nat.le_of_ble_eq_true rfl) rfl rfl ?_
    refine ev_iload_n (pc' := 30) (i := 2) dX0_realRoots_29 rfl rfl rfl ?_
    refine ev_bipush (pc' := 32) (v := 10) dX0_realRoots_30 rfl kb_10 ?_
    refine ev_idiv (pc' := 33) (v := 12) dX0_realRoots_32 rfl (by decide) (by decide) ?_
    refine ev_istore_n (pc' := 34) (i := 2) (lv' := [some (.ref 12), some (.int 1), some (.int 12), some (.int 0)]) dX0_realRoots_33 rfl rfl (Nat.le_of_ble_eq_true rfl) rfl rfl ?_
    refine ev_iinc (pc' := 37) (v := 1) (lv' := [some (.ref 12), some (.int 1), some (.int 12), some (.int 1)]) dX0_realRoots_34 rfl rfl (by decide) (Nat.le_of_ble_eq_true rfl) rfl rfl ?_
    refine ev_goto (tgt := 9) dX0_realRoots_37 rfl ?_
    refine ev_iload_n (pc' := 10) (i := 3) dX0_realRoots_9 rfl rfl rfl ?_
    refine ev_iconst (pc' := 11) (v := 4) dX0_realRoots_10 rfl ki_4 ?_
    refine ev_icmp_ge (tgt := 40) (pc' := 14) dX0_realRoots_11 rfl rfl (fun h => absurd h (by decide)) (fun _ => ?_)
    refine ev_iload_n (pc' := 15) (i := 2) dX0_realRoots_14 rfl rfl rfl ?_
    refine ev_if_eq (tgt := 40) (pc' := 18) dX0_realRoots_15 rfl rfl (fun h => absurd h (by decide)) (fun _ => ?_)
    refine ev_iload_n (pc' := 19) (i := 2) dX0_realRoots_18 rfl rfl rfl ?_
    refine ev_bipush (pc' := 21) (v := 10) dX0_realRoots_19 rfl kb_10 ?_
    refine ev_irem (pc' := 22) (v := 2) dX0_realRoots_21 rfl (by decide) (by decide) ?_
    refine ev_iconst (pc' := 23) (v := 5) dX0_realRoots_22 rfl ki_5 ?_
    refine ev_icmp_ge (tgt := 29) (pc' := 26) dX0_realRoots_23 rfl rfl (fun h => absurd h (by decide)) (fun _ => ?_)
    refine ev_iinc (pc' := 29) (v := 2) (lv' := [some (.ref 12), some (.int 2), some (.int 12), some (.int 1)]) dX0_realRoots_26 rfl rfl (by decide) (Nat.le_of_ble_eq_true rfl) rfl rfl ?_
    refine ev_iload_n (pc' := 30) (i := 2) dX0_realRoots_29 rfl rfl rfl ?_
    refine ev_bipush (pc' := 32) (v := 10) dX0_realRoots_30 rfl kb_10 ?_
    refine ev_idiv (pc' := 33) (v := 1) dX0_realRoots_32 rfl (by decide) (by decide) ?_
    refine ev_istore_n (pc' := 34) (i := 2) (lv' := [some (.ref 12), some (.int 2), some (.int 1), some (.int 1)]) dX0_realRoots_33 rfl rfl (Nat.le_of_ble_eq_true rfl) rfl rfl ?_
    refine ev_iinc (pc' := 37) (v := 2) (lv' := [some (.ref 12), some (.int 2), some (.int 1), some (.int 2)]) dX0_realRoots_34 rfl rfl (by decide) (Nat.le_of_ble_eq_true rfl) rfl rfl ?_
    refine ev_goto (tgt := 9) dX0_realRoots_37 rfl ?_
    refine ev_iload_n (pc' := 10) (i := 3) dX0_realRoots_9 rfl rfl rfl ?_
    refine ev_iconst (pc' := 11) (v := 4) dX0_realRoots_10 rfl ki_4 ?_
    refine ev_icmp_ge (tgt := 40) (pc' := 14) dX0_realRoots_11 rfl rfl (fun h => absurd h (by decide)) (fun _ => ?_)
    refine ev_iload_n (pc' := 15) (i := 2) dX0_realRoots_14 rfl rfl rfl ?_
    refine ev_if_eq (tgt := 40) (pc' := 18) dX0_realRoots_15 rfl rfl (fun h => absurd h (by decide)) (fun _ => ?_)
    refine ev_iload_n (pc' := 19) (i := 2) dX0_realRoots_18 rfl rfl rfl ?_
    refine ev_bipush (pc' := 21) (v := 10) dX0_realRoots_19 rfl kb_10 ?_
    refine ev_irem (pc' := 22) (v := 1) dX0_realRoots_21 rfl (by decide) (by decide) ?_
    refine ev_iconst (pc' := 23) (v := 5) dX0_realRoots_22 rfl ki_5 ?_
    refine ev_icmp_ge (tgt := 29) (pc' := 26) dX0_realRoots_23 rfl rfl (fun h => absurd h (by decide)) (fun _ => ?_)
    refine ev_iinc (pc' := 29) (v := 3) (lv' := [some (.ref 12), some (.int 3), some (.int 1), some (.int 2)]) dX0_realRoots_26 rfl rfl (by decide) (Nat.le_of_ble_eq_true rfl) rfl rfl ?_
    refine ev_iload_n (pc' := 30) (i := 2) dX0_realRoots_29 rfl rfl rfl ?_
    refine ev_bipush (pc' := 32) (v := 10) dX0_realRoots_30 rfl kb_10 ?_
    refine ev_idiv (pc' := 33) (v := 0) dX0_realRoots_32 rfl (by decide) (by decide) ?_
    refine ev_istore_n (pc' := 34) (i := 2) (lv' := [some (.ref 12), some (.int 3), some (.int 0), some (.int 2)]) dX0_realRoots_33 rfl rfl (Nat.le_of_ble_eq_true rfl) rfl rfl ?_
    refine ev_iinc (pc' := 37) (v := 3) (lv' := [some (.ref 12), some (.int 3), some (.int 0), some (.int 3)]) dX0_realRoots_34 rfl rfl (by decide) (Nat.le_of_ble_eq_true rfl) rfl rfl ?_
    refine ev_goto (tgt := 9) dX0_realRoots_37 rfl ?_
    refine ev_iload_n (pc' := 10) (i := 3) dX0_realRoots_9 rfl rfl rfl ?_
    refine ev_iconst (pc' := 11) (v := 4) dX0_realRoots_10 rfl ki_4 ?_
    refine ev_icmp_ge (tgt := 40) (pc' := 14) dX0_realRoots_11 rfl rfl (fun h => absurd h (by decide)) (fun _ => ?_)
    refine ev_iload_n (pc' := 15) (i := 2) dX0_realRoots_14 rfl rfl rfl ?_
    refine ev_if_eq (tgt := 40) (pc' := 18) dX0_realRoots_15 rfl rfl (fun _ => ?_) (fun h => absurd (by decide) h)
    refine ev_iload_n (pc' := 41) (i := 1) dX0_realRoots_40 rfl rfl rfl ?_
    refine ev_iret dX0_realRoots_41 rfl rfl ⟨Nat.le_refl _, Nat.le_refl _⟩ ?_
    have e : cRr (cFig (L 13) ((L 12) 5) ((L 12) 6)) = 3 := by rw [g5]; decide
    rw [e] at k0
    exact k0 _ _ _ _
  · rw [g5] at hr
    subst hr
    refine ev_istore_n (pc' := 7) (i := 2) (lv' := [some (.ref 12), some (.int 0), some (.int 211), none]) dX0_realRoots_6 rfl rfl (Nat.le_of_ble_eq_true rfl) rfl rfl ?_
    refine ev_iconst (pc' := 8) (v := 0) dX0_realRoots_7 rfl ki_0 ?_
    refine ev_istore_n (pc' := 9) (i := 3) (lv' := [some (.ref 12), some (.int 0), some (.int 211), some (.int 0)]) dX0_realRoots_8 rfl rfl (Nat.le_of_ble_eq_true rfl) rfl rfl ?_
    refine ev_iload_n (pc' := 10) (i := 3) dX0_realRoots_9 rfl rfl rfl ?_
    refine ev_iconst (pc' := 11) (v := 4) dX0_realRoots_10 rfl ki_4 ?_
    refine ev_icmp_ge (tgt := 40) (pc' := 14) dX0_realRoots_11 rfl rfl (fun h => absurd h (by decide)) (fun _ => ?_)
    refine ev_iload_n (pc' := 15) (i := 2) dX0_realRoots_14 rfl rfl rfl ?_
    refine ev_if_eq (tgt := 40) (pc' := 18) dX0_realRoots_15 rfl rfl (fun h => absurd h (by decide)) (fun _ => ?_)
    refine ev_iload_n (pc' := 19) (i := 2) dX0_realRoots_18 rfl rfl rfl ?_
    refine ev_bipush (pc' := 21) (v := 10) dX0_realRoots_19 rfl kb_10 ?_
    refine ev_irem (pc' := 22) (v := 1) dX0_realRoots_21 rfl (by decide) (by decide) ?_
    refine ev_iconst (pc' := 23) (v := 5) dX0_realRoots_22 rfl ki_5 ?_
    refine ev_icmp_ge (tgt := 29) (pc' := 26) dX0_realRoots_23 rfl rfl (fun h => absurd h (by decide)) (fun _ => ?_)
    refine ev_iinc (pc' := 29) (v := 1) (lv' := [some (.ref 12), some (.int 1), some (.int 211), some (.int 0)]) dX0_realRoots_26 rfl rfl (by decide) (Nat.le_of_ble_eq_true rfl) rfl rfl ?_
    refine ev_iload_n (pc' := 30) (i := 2) dX0_realRoots_29 rfl rfl rfl ?_
    refine ev_bipush (pc' := 32) (v := 10) dX0_realRoots_30 rfl kb_10 ?_
    refine ev_idiv (pc' := 33) (v := 21) dX0_realRoots_32 rfl (by decide) (by decide) ?_
    refine ev_istore_n (pc' := 34) (i := 2) (lv' := [some (.ref 12), some (.int 1), some (.int 21), some (.int 0)]) dX0_realRoots_33 rfl rfl (Nat.le_of_ble_eq_true rfl) rfl rfl ?_
    refine ev_iinc (pc' := 37) (v := 1) (lv' := [some (.ref 12), some (.int 1), some (.int 21), some (.int 1)]) dX0_realRoots_34 rfl rfl (by decide) (Nat.le_of_ble_eq_true rfl) rfl rfl ?_
    refine ev_goto (tgt := 9) dX0_realRoots_37 rfl ?_
    refine ev_iload_n (pc' := 10) (i := 3) dX0_realRoots_9 rfl rfl rfl ?_
    refine ev_iconst (pc' := 11) (v := 4) dX0_realRoots_10 rfl ki_4 ?_
    refine ev_icmp_ge (tgt := 40) (pc' := 14) dX0_realRoots_11 rfl rfl (fun h => absurd h (by decide)) (fun _ => ?_)
    refine ev_iload_n (pc' := 15) (i := 2) dX0_realRoots_14 rfl rfl rfl ?_
    refine ev_if_eq (tgt := 40) (pc' := 18) dX0_realRoots_15 rfl rfl (fun h => absurd h (by decide)) (fun _ => ?_)
    refine ev_iload_n (pc' := 19) (i := 2) dX0_realRoots_18 rfl rfl rfl ?_
    refine ev_bipush (pc' := 21) (v := 10) dX0_realRoots_19 rfl kb_10 ?_
    refine ev_irem (pc' := 22) (v := 1) dX0_realRoots_21 rfl (by decide) (by decide) ?_
    refine ev_iconst (pc' := 23) (v := 5) dX0_realRoots_22 rfl ki_5 ?_
    refine ev_icmp_ge (tgt := 29) (pc' := 26) dX0_realRoots_23 rfl rfl (fun h => absurd h (by decide)) (fun _ => ?_)
    refine ev_iinc (pc' := 29) (v := 2) (lv' := [some (.ref 12), some (.int 2), some (.int 21), some (.int 1)]) dX0_realRoots_26 rfl rfl (by decide) (Nat.le_of_ble_eq_true rfl) rfl rfl ?_
    refine ev_iload_n (pc' := 30) (i := 2) dX0_realRoots_29 rfl rfl rfl ?_
    refine ev_bipush (pc' := 32) (v := 10) dX0_realRoots_30 rfl kb_10 ?_
    refine ev_idiv (pc' := 33) (v := 2) dX0_realRoots_32 rfl (by decide) (by decide) ?_
    refine ev_istore_n (pc' := 34) (i := 2) (lv' := [some (.ref 12), some (.int 2), some (.int 2), some (.int 1)]) dX0_realRoots_33 rfl rfl (Nat.le_of_ble_eq_true rfl) rfl rfl ?_
    refine ev_iinc (pc' := 37) (v := 2) (lv' := [some (.ref 12), some (.int 2), some (.int 2), some (.int 2)]) dX0_realRoots_34 rfl rfl (by decide) (Nat.le_of_ble_eq_true rfl) rfl rfl ?_
    refine ev_goto (tgt := 9) dX0_realRoots_37 rfl ?_
    refine ev_iload_n (pc' := 10) (i := 3) dX0_realRoots_9 rfl rfl rfl ?_
    refine ev_iconst (pc' := 11) (v := 4) dX0_realRoots_10 rfl ki_4 ?_
    refine ev_icmp_ge (tgt := 40) (pc' := 14) dX0_realRoots_11 rfl rfl (fun h => absurd h (by decide)) (fun _ => ?_)
    refine ev_iload_n (pc' := 15) (i := 2) dX0_realRoots_14 rfl rfl rfl ?_
    refine ev_if_eq (tgt := 40) (pc' := 18) dX0_realRoots_15 rfl rfl (fun h => absurd h (by decide)) (fun _ => ?_)
    refine ev_iload_n (pc' := 19) (i := 2) dX0_realRoots_18 rfl rfl rfl ?_
    refine ev_bipush (pc' := 21) (v := 10) dX0_realRoots_19 rfl kb_10 ?_
    refine ev_irem (pc' := 22) (v := 2) dX0_realRoots_21 rfl (by decide) (by decide) ?_
    refine ev_iconst (pc' := 23) (v := 5) dX0_realRoots_22 rfl ki_5 ?_
    refine ev_icmp_ge (tgt := 29) (pc' := 26) dX0_realRoots_23 rfl rfl (fun h => absurd h (by decide)) (fun _ => ?_)
    refine ev_iinc (pc' := 29) (v := 3) (lv' := [some (.ref 12), some (.int 3), some (.int 2), some (.int 2)]) dX0_realRoots_26 rfl rfl (by decide) (Nat.le_of_ble_eq_true rfl) rfl rfl ?_
    refine ev_iload_n (pc' := 30) (i := 2) dX0_realRoots_29 rfl rfl rfl ?_
    refine ev_bipush (pc' := 32) (v := 10) dX0_realRoots_30 rfl kb_10 ?_
    refine ev_idiv (pc' := 33) (v := 0) dX0_realRoots_32 rfl (by decide) (by decide) ?_
    refine ev_istore_n (pc' := 34) (i := 2) (lv' := [some (.ref 12), some (.int 3), some (.int 0), some (.int 2)]) dX0_realRoots_33 rfl rfl (Nat.le_of_ble_eq_true rfl) rfl rfl ?_
    refine ev_iinc (pc' := 37) (v := 3) (lv' := [some (.ref 12), some (.int 3), some (.int 0), some (.int 3)]) dX0_realRoots_34 rfl rfl (by decide) (Nat.le_of_ble_eq_true rfl) rfl rfl ?_
    refine ev_goto (tgt := 9) dX0_realRoots_37 rfl ?_
    refine ev_iload_n (pc' := 10) (i := 3) dX0_realRoots_9 rfl rfl rfl ?_
    refine ev_iconst (pc' := 11) (v := 4) dX0_realRoots_10 rfl ki_4 ?_
    refine ev_icmp_ge (tgt := 40) (pc' := 14) dX0_realRoots_11 rfl rfl (fun h => absurd h (by decide)) (fun _ => ?_)
    refine ev_iload_n (pc' := 15) (i := 2) dX0_realRoots_14 rfl rfl rfl ?_
    refine ev_if_eq (tgt := 40) (pc' := 18) dX0_realRoots_15 rfl rfl (fun _ => ?_) (fun h => absurd (by decide) h)
    refine ev_iload_n (pc' := 41) (i := 1) dX0_realRoots_40 rfl rfl rfl ?_
    refine ev_iret dX0_realRoots_41 rfl rfl ⟨Nat.le_refl _, Nat.le_refl _⟩ ?_
    have e : cRr (cFig (L 13) ((L 12) 5) ((L 12) 6)) = 3 := by rw [g5]; decide
    rw [e] at k0
    exact k0 _ _ _ _
  · rw [g5] at hr
    subst hr
    refine ev_istore_n (pc' := 7) (i := 2) (lv' := [some (.ref 12), some (.int 0), some (.int 1111), none]) dX0_realRoots_6 rfl rfl (Nat.le_of_ble_eq_true rfl) rfl rfl ?_
    refine ev_iconst (pc' := 8) (v := 0) dX0_realRoots_7 rfl ki_0 ?_
    refine ev_istore_n (pc' := 9) (i := 3) (lv' := [some (.ref 12), some (.int 0), some (.int 1111), some (.int 0)]) dX0_realRoots_8 rfl rfl (Nat.le_of_ble_eq_true rfl) rfl rfl ?_
    refine ev_iload_n (pc' := 10) (i := 3) dX0_realRoots_9 rfl rfl rfl ?_
    refine ev_iconst (pc' := 11) (v := 4) dX0_realRoots_10 rfl ki_4 ?_
    refine ev_icmp_ge (tgt := 40) (pc' := 14) dX0_realRoots_11 rfl rfl (fun h => absurd h (by decide)) (fun _ => ?_)
    refine ev_iload_n (pc' := 15) (i := 2) dX0_realRoots_14 rfl rfl rfl ?_
    refine ev_if_eq (tgt := 40) (pc' := 18) dX0_realRoots_15 rfl rfl (fun h => absurd h (by decide)) (fun _ => ?_)
    refine ev_iload_n (pc' := 19) (i := 2) dX0_realRoots_18 rfl rfl rfl ?_
    refine ev_bipush (pc' := 21) (v := 10) dX0_realRoots_19 rfl kb_10 ?_
    refine ev_irem (pc' := 22) (v := 1) dX0_realRoots_21 rfl (by decide) (by decide) ?_
    refine ev_iconst (pc' := 23) (v := 5) dX0_realRoots_22 rfl ki_5 ?_
    refine ev_icmp_ge (tgt := 29) (pc' := 26) dX0_realRoots_23 rfl rfl (fun h => absurd h (by decide)) (fun _ => ?_)
    refine ev_iinc (pc' := 29) (v := 1) (lv' := [some (.ref 12), some (.int 1), some (.int 1111), some (.int 0)]) dX0_realRoots_26 rfl rfl (by decide) (Nat.le_of_ble_eq_true rfl) rfl rfl ?_
    refine ev_iload_n (pc' := 30) (i := 2) dX0_realRoots_29 rfl rfl rfl ?_
    refine ev_bipush (pc' := 32) (v := 10) dX0_realRoots_30 rfl kb_10 ?_
    refine ev_idiv (pc' := 33) (v := 111) dX0_realRoots_32 rfl (by decide) (by decide) ?_
    refine ev_istore_n (pc' := 34) (i := 2) (lv' := [some (.ref 12), some (.int 1), some (.int 111), some (.int 0)]) dX0_realRoots_33 rfl rfl (Nat.le_of_ble_eq_true rfl) rfl rfl ?_
    refine ev_iinc (pc' := 37) (v := 1) (lv' := [some (.ref 12), some (.int 1), some (.int 111), some (.int 1)]) dX0_realRoots_34 rfl rfl (by decide) (Nat.le_of_ble_eq_true rfl) rfl rfl ?_
    refine ev_goto (tgt := 9) dX0_realRoots_37 rfl ?_
    refine ev_iload_n (pc' := 10) (i := 3) dX0_realRoots_9 rfl rfl rfl ?_
    refine ev_iconst (pc' := 11) (v := 4) dX0_realRoots_10 rfl ki_4 ?_
    refine ev_icmp_ge (tgt := 40) (pc' := 14) dX0_realRoots_11 rfl rfl (fun h => absurd h (by decide)) (fun _ => ?_)
    refine ev_iload_n (pc' := 15) (i := 2) dX0_realRoots_14 rfl rfl rfl ?_
    refine ev_if_eq (tgt := 40) (pc' := 18) dX0_realRoots_15 rfl rfl (fun h => absurd h (by decide)) (fun _ => ?_)
    refine ev_iload_n (pc' := 19) (i := 2) dX0_realRoots_18 rfl rfl rfl ?_
    refine ev_bipush (pc' := 21) (v := 10) dX0_realRoots_19 rfl kb_10 ?_
    refine ev_irem (pc' := 22) (v := 1) dX0_realRoots_21 rfl (by decide) (by decide) ?_
    refine ev_iconst (pc' := 23) (v := 5) dX0_realRoots_22 rfl ki_5 ?_
    refine ev_icmp_ge (tgt := 29) (pc' := 26) dX0_realRoots_23 rfl rfl (fun h => absurd h (by decide)) (fun _ => ?_)
    refine ev_iinc (pc' := 29) (v := 2) (lv' := [some (.ref 12), some (.int 2), some (.int 111), some (.int 1)]) dX0_realRoots_26 rfl rfl (by decide) (Nat.le_of_ble_eq_true rfl) rfl rfl ?_
    refine ev_iload_n (pc' := 30) (i := 2) dX0_realRoots_29 rfl rfl rfl ?_
    refine ev_bipush (pc' := 32) (v := 10) dX0_realRoots_30 rfl kb_10 ?_
    refine ev_idiv (pc' := 33) (v := 11) dX0_realRoots_32 rfl (by decide) (by decide) ?_
    refine ev_istore_n (pc' := 34) (i := 2) (lv' := [some (.ref 12), some (.int 2), some (.int 11), some (.int 1)]) dX0_realRoots_33 rfl rfl (Nat.le_of_ble_eq_true rfl) rfl rfl ?_
    refine ev_iinc (pc' := 37) (v := 2) (lv' := [some (.ref 12), some (.int 2), some (.int 11), some (.int 2)]) dX0_realRoots_34 rfl rfl (by decide) (Nat.le_of_ble_eq_true rfl) rfl rfl ?_
    refine ev_goto (tgt := 9) dX0_realRoots_37 rfl ?_
    refine ev_iload_n (pc' := 10) (i := 3) dX0_realRoots_9 rfl rfl rfl ?_
    refine ev_iconst (pc' := 11) (v := 4) dX0_realRoots_10 rfl ki_4 ?_
    refine ev_icmp_ge (tgt := 40) (pc' := 14) dX0_realRoots_11 rfl rfl (fun h => absurd h (by decide)) (fun _ => ?_)
    refine ev_iload_n (pc' := 15) (i := 2) dX0_realRoots_14 rfl rfl rfl ?_
    refine ev_if_eq (tgt := 40) (pc' := 18) dX0_realRoots_15 rfl rfl (fun h => absurd h (by decide)) (fun _ => ?_)
    refine ev_iload_n (pc' := 19) (i := 2) dX0_realRoots_18 rfl rfl rfl ?_
    refine ev_bipush (pc' := 21) (v := 10) dX0_realRoots_19 rfl kb_10 ?_
    refine ev_irem (pc' := 22) (v := 1) dX0_realRoots_21 rfl (by decide) (by decide) ?_
    refine ev_iconst (pc' := 23) (v := 5) dX0_realRoots_22 rfl ki_5 ?_
    refine ev_icmp_ge (tgt := 29) (pc' := 26) dX0_realRoots_23 rfl rfl (fun h => absurd h (by decide)) (fun _ => ?_)
    refine ev_iinc (pc' := 29) (v := 3) (lv' := [some (.ref 12), some (.int 3), some (.int 11), some (.int 2)]) dX0_realRoots_26 rfl rfl (by decide) (Nat.le_of_ble_eq_true rfl) rfl rfl ?_
    refine ev_iload_n (pc' := 30) (i := 2) dX0_realRoots_29 rfl rfl rfl ?_
    refine ev_bipush (pc' := 32) (v := 10) dX0_realRoots_30 rfl kb_10 ?_
    refine ev_idiv (pc' := 33) (v := 1) dX0_realRoots_32 rfl (by decide) (by decide) ?_
    refine ev_istore_n (pc' := 34) (i := 2) (lv' := [some (.ref 12), some (.int 3), some (.int 1), some (.int 2)]) dX0_realRoots_33 rfl rfl (Nat.le_of_ble_eq_true rfl) rfl rfl ?_
    refine ev_iinc (pc' := 37) (v := 3) (lv' := [some (.ref 12), some (.int 3), some (.int 1), some (.int 3)]) dX0_realRoots_34 rfl rfl (by decide) (Nat.le_of_ble_eq_true rfl) rfl rfl ?_
    refine ev_goto (tgt := 9) dX0_realRoots_37 rfl ?_
    refine ev_iload_n (pc' := 10) (i := 3) dX0_realRoots_9 rfl rfl rfl ?_
    refine ev_iconst (pc' := 11) (v := 4) dX0_realRoots_10 rfl ki_4 ?_
    refine ev_icmp_ge (tgt := 40) (pc' := 14) dX0_realRoots_11 rfl rfl (fun h => absurd h (by decide)) (fun _ => ?_)
    refine ev_iload_n (pc' := 15) (i := 2) dX0_realRoots_14 rfl rfl rfl ?_
    refine ev_if_eq (tgt := 40) (pc' := 18) dX0_realRoots_15 rfl rfl (fun h => absurd h (by decide)) (fun _ => ?_)
    refine ev_iload_n (pc' := 19) (i := 2) dX0_realRoots_18 rfl rfl rfl ?_
    refine ev_bipush (pc' := 21) (v := 10) dX0_realRoots_19 rfl kb_10 ?_
    refine ev_irem (pc' := 22) (v := 1) dX0_realRoots_21 rfl (by decide) (by decide) ?_
    refine ev_iconst (pc' := 23) (v := 5) dX0_realRoots_22 rfl ki_5 ?_
    refine ev_icmp_ge (tgt := 29) (pc' := 26) dX0_realRoots_23 rfl rfl (fun h => absurd h (by decide)) (fun _ => ?_)
    refine ev_iinc (pc' := 29) (v := 4) (lv' := [some (.ref 12), some (.int 4), some (.int 1), some (.int 3)]) dX0_realRoots_26 rfl rfl (by decide) (Nat.le_of_ble_eq_true rfl) rfl rfl ?_
    refine ev_iload_n (pc' := 30) (i := 2) dX0_realRoots_29 rfl rfl rfl ?_
    refine ev_bipush (pc' := 32) (v := 10) dX0_realRoots_30 rfl kb_10 ?_
    refine ev_idiv (pc' := 33) (v := 0) dX0_realRoots_32 rfl (by decide) (by decide) ?_
    refine ev_istore_n (pc' := 34) (i := 2) (lv' := [some (.ref 12), some (.int 4), some (.int 0), some (.int 3)]) dX0_realRoots_33 rfl rfl (Nat.le_of_ble_eq_true rfl) rfl rfl ?_
    refine ev_iinc (pc' := 37) (v := 4) (lv' := [some (.ref 12), some (.int 4), some (.int 0), some (.int 4)]) dX0_realRoots_34 rfl rfl (by decide) (Nat.le_of_ble_eq_true rfl) rfl rfl ?_
    refine ev_goto (tgt := 9) dX0_realRoots_37 rfl ?_
    refine ev_iload_n (pc' := 10) (i := 3) dX0_realRoots_9 rfl rfl rfl ?_
    refine ev_iconst (pc' := 11) (v := 4) dX0_realRoots_10 rfl ki_4 ?_
    refine ev_icmp_ge (tgt := 40) (pc' := 14) dX0_realRoots_11 rfl rfl (fun _ => ?_) (fun h => absurd (by decide) h)
    refine ev_iload_n (pc' := 41) (i := 1) dX0_realRoots_40 rfl rfl rfl ?_
    refine ev_iret dX0_realRoots_41 rfl rfl ⟨Nat.le_refl _, Nat.le_refl _⟩ ?_
    have e : cRr (cFig (L 13) ((L 12) 5) ((L 12) 6)) = 4 := by rw [g5]; decide
    rw [e] at k0
    exact k0 _ _ _ _
set_option maxRecDepth 4000 in
theorem t_X0_singleRoots {g : ma_G} {Post : ma_P} {I : ma_I} {L : ma_L} (hI : ((L 12) 5).toInt.natAbs < 288230376151711744) (hJ : ((L 12) 6).toInt ≠ -9223372036854775808) (hA : ((L 13) 0).toInt.natAbs < 288230376151711744) (hE : (((8 * ((L 13) 0)) * ((L 13) 2)) - ((3 * ((L 13) 1)) * ((L 13) 1))).toInt ≠ -9223372036854775808) (k0 : ∀ Y Z V W : Nat → Int64, Post (some (.int (if (L 13) 0 = 0 then cS1 (cFig (L 13) ((L 12) 5) ((L 12) 6)) else cS0 (cFig (L 13) ((L 12) 5) ((L 12) 6))))) HS I (ma_up (ma_up (ma_up (ma_up L 20 Y) 19 Z) 23 V) 22 W) RF 146) : CT g yX0_singleRoots cX0_singleRoots 6 (some .int) rX0_singleRoots [.ref 12] Post HS I L RF 146 := by
  refine ct_of (lv := [some (.ref 12), none, none, none, none, none]) (by decide) (Nat.le_of_ble_eq_true rfl) rfl ?_
  refine ev_aload_n (pc' := 1) (i := 0) dX0_singleRoots_0 rfl rfl rfl ?_
  refine ev_callV (pc' := 4) (rm' := rX0_degree) (b := 12) (av := []) (rest := []) co_X0_79 ci_X0_degree cv_X0_degree dX0_singleRoots_1 rfl hs_12 hb_X0 rfl rfl (Nat.le_of_ble_eq_true rfl) ⟨(Nat.le_of_ble_eq_true rfl), (Nat.le_of_ble_eq_true rfl)⟩ ⟨(Nat.le_of_ble_eq_true rfl), (Nat.le_of_ble_eq_true rfl)⟩ ?_
  refine t_X0_degree   (fun h1 h2 h3 h4 h5 => ?_) (fun h6 h7 h8 h9 h10 => ?_) (fun h11 h12 h13 h14 => ?_) (fun h15 h16 h17 => ?_) (fun h18 h19 => ?_) (fun h20 => ?_)
  · skip
    refine ev_iconst (pc' := 5) (v := 4) dX0_singleRoots_4 rfl ki_4 ?_
    refine ev_icmp_ge (tgt := 12) (pc' := 8) dX0_singleRoots_5 rfl rfl (fun h => absurd h (by decide)) (fun _ => ?_)
    refine ev_iconst (pc' := 9) (v := 1) dX0_singleRoots_8 rfl ki_1 ?_
    refine ev_goto (tgt := 13) dX0_singleRoots_9 rfl ?_
    refine ev_istore_n (pc' := 14) (i := 1) (lv' := [some (.ref 12), some (.int 1), none, none, none, none]) dX0_singleRoots_13 rfl rfl (Nat.le_of_ble_eq_true rfl) rfl rfl ?_
    refine ev_iconst (pc' := 15) (v := 0) dX0_singleRoots_14 rfl ki_0 ?_
    refine ev_istore_n (pc' := 16) (i := 2) (lv' := [some (.ref 12), some (.int 1), some (.int 0), none, none, none]) dX0_singleRoots_15 rfl rfl (Nat.le_of_ble_eq_true rfl) rfl rfl ?_
    refine ev_aload_n (pc' := 17) (i := 0) dX0_singleRoots_16 rfl rfl rfl ?_
    refine ev_callV (pc' := 20) (rm' := rX0_figures) (b := 12) (av := []) (rest := []) co_X0_127 ci_X0_figures cv_X0_figures dX0_singleRoots_17 rfl hs_12 hb_X0 rfl rfl (Nat.le_of_ble_eq_true rfl) ⟨(Nat.le_of_ble_eq_true rfl), (Nat.le_of_ble_eq_true rfl)⟩ ⟨(Nat.le_of_ble_eq_true rfl), (Nat.le_of_ble_eq_true rfl)⟩ ?_
    refine t_X0_figures hI hJ hA hE (fun Y21 Z22 V23 W24 => ?_)
    refine ev_topi (fun r hr => ?_)
    have hr : r = cFig (L 13) ((L 12) 5) ((L 12) 6) := hr
    rcases cFig_v (L 13) ((L 12) 5) ((L 12) 6) with g25 | g25 | g25 | g25 | g25 | g25 | g25 | g25 | g25 | g25 | g25 | g25 | g25
    · rw [g25] at hr
      subst hr
      refine ev_istore_n (pc' := 21) (i := 3) (lv' := [some (.ref 12), some (.int 1), some (.int 0), some (.int 0), none, none]) dX0_singleRoots_20 rfl rfl (Nat.le_of_ble_eq_true rfl) rfl rfl ?_
      refine ev_iconst (pc' := 22) (v := 0) dX0_singleRoots_21 rfl ki_0 ?_
      refine ev_istore (pc' := 24) (lv' := [some (.ref 12), some (.int 1), some (.int 0), some (.int 0), some (.int 0), none]) dX0_singleRoots_22 rfl (Nat.le_of_ble_eq_true rfl) rfl rfl ?_
      refine ev_iload (pc' := 26) dX0_singleRoots_24 rfl rfl ?_
      refine ev_iconst (pc' := 27) (v := 4) dX0_singleRoots_26 rfl ki_4 ?_
      refine ev_icmp_ge (tgt := 80) (pc' := 30) dX0_singleRoots_27 rfl rfl (fun h => absurd h (by decide)) (fun _ => ?_)
      refine ev_iload_n (pc' := 31) (i := 3) dX0_singleRoots_30 rfl rfl rfl ?_
      refine ev_if_eq (tgt := 80) (pc' := 34) dX0_singleRoots_31 rfl rfl (fun _ => ?_) (fun h => absurd (by decide) h)
      refine ev_iload_n (pc' := 81) (i := 2) dX0_singleRoots_80 rfl rfl rfl ?_
      refine ev_iret dX0_singleRoots_81 rfl rfl ⟨Nat.le_refl _, Nat.le_refl _⟩ ?_
      have e : (if (L 13) 0 = 0 then cS1 (cFig (L 13) ((L 12) 5) ((L 12) 6)) else cS0 (cFig (L 13) ((L 12) 5) ((L 12) 6))) = 0 := by rw [if_pos h1, g25]; decide
      rw [e] at k0
      exact k0 _ _ _ _
    · rw [g25] at hr
      subst hr
      refine ev_istore_n (pc' := 21) (i := 3) (lv' := [some (.ref 12), some (.int 1), some (.int 0), some (.int 4), none, none]) dX0_singleRoots_20 rfl rfl (Nat.le_of_ble_eq_true rfl) rfl rfl ?_
      refine ev_iconst (pc' := 22) (v := 0) dX0_singleRoots_21 rfl ki_0 ?_
      refine ev_istore (pc' := 24) (lv' := [some (.ref 12), some (.int 1), some (.int 0), some (.int 4), some (.int 0), none]) dX0_singleRoots_22 rfl (Nat.le_of_ble_eq_true rfl) rfl rfl ?_
      refine ev_iload (pc' := 26) dX0_singleRoots_24 rfl rfl ?_
      refine ev_iconst (pc' := 27) (v := 4) dX0_singleRoots_26 rfl ki_4 ?_
      refine ev_icmp_ge (tgt := 80) (pc' := 30) dX0_singleRoots_27 rfl rfl (fun h => absurd h (by decide)) (fun _ => ?_)
      refine ev_iload_n (pc' := 31) (i := 3) dX0_singleRoots_30 rfl rfl rfl ?_
      refine ev_if_eq (tgt := 80) (pc' := 34) dX0_singleRoots_31 rfl rfl (fun h => absurd h (by decide)) (fun _ => ?_)
      refine ev_iload_n (pc' := 35) (i := 3) dX0_singleRoots_34 rfl rfl rfl ?_
      refine ev_bipush (pc' := 37) (v := 10) dX0_singleRoots_35 rfl kb_10 ?_
      refine ev_irem (pc' := 38) (v := 4) dX0_singleRoots_37 rfl (by decide) (by decide) ?_
      refine ev_istore (pc' := 40) (lv' := [some (.ref 12), some (.int 1), some (.int 0), some (.int 4), some (.int 0), some (.int 4)]) dX0_singleRoots_38 rfl (Nat.le_of_ble_eq_true rfl) rfl rfl ?_
      refine ev_iload_n (pc' := 41) (i := 3) dX0_singleRoots_40 rfl rfl rfl ?_
      refine ev_bipush (pc' := 43) (v := 10) dX0_singleRoots_41 rfl kb_10 ?_
      refine ev_idiv (pc' := 44) (v := 0) dX0_singleRoots_43 rfl (by decide) (by decide) ?_
      refine ev_istore_n (pc' := 45) (i := 3) (lv' := [some (.ref 12), some (.int 1), some (.int 0), some (.int 0), some (.int 0), some (.int 4)]) dX0_singleRoots_44 rfl rfl (Nat.le_of_ble_eq_true rfl) rfl rfl ?_
      refine ev_iload (pc' := 47) dX0_singleRoots_45 rfl rfl ?_
      refine ev_iconst (pc' := 48) (v := 5) dX0_singleRoots_47 rfl ki_5 ?_
      refine ev_icmp_lt (tgt := 54) (pc' := 51) dX0_singleRoots_48 rfl rfl (fun _ => ?_) (fun h => absurd (by decide) h)
      refine ev_iload_n (pc' := 55) (i := 1) dX0_singleRoots_54 rfl rfl rfl ?_
      refine ev_if_eq (tgt := 63) (pc' := 58) dX0_singleRoots_55 rfl rfl (fun h => absurd h (by decide)) (fun _ => ?_)
      refine ev_iconst (pc' := 59) (v := 0) dX0_singleRoots_58 rfl ki_0 ?_
      refine ev_istore_n (pc' := 60) (i := 1) (lv' := [some (.ref 12), some (.int 0), some (.int 0), some (.int 0), some (.int 0), some (.int 4)]) dX0_singleRoots_59 rfl rfl (Nat.le_of_ble_eq_true rfl) rfl rfl ?_
      refine ev_goto (tgt := 74) dX0_singleRoots_60 rfl ?_
      refine ev_iinc (pc' := 77) (v := 1) (lv' := [some (.ref 12), some (.int 0), some (.int 0), some (.int 0), some (.int 1), some (.int 4)]) dX0_singleRoots_74 rfl rfl (by decide) (Nat.le_of_ble_eq_true rfl) rfl rfl ?_
      refine ev_goto (tgt := 24) dX0_singleRoots_77 rfl ?_
      refine ev_iload (pc' := 26) dX0_singleRoots_24 rfl rfl ?_
      refine ev_iconst (pc' := 27) (v := 4) dX0_singleRoots_26 rfl ki_4 ?_
      refine ev_icmp_ge (tgt := 80) (pc' := 30) dX0_singleRoots_27 rfl rfl (fun h => absurd h (by decide)) (fun _ => ?_)
      refine ev_iload_n (pc' := 31) (i := 3) dX0_singleRoots_30 rfl rfl rfl ?_
      refine ev_if_eq (tgt := 80) (pc' := 34) dX0_singleRoots_31 rfl rfl (fun _ => ?_) (fun h => absurd (by decide) h)
      refine ev_iload_n (pc' := 81) (i := 2) dX0_singleRoots_80 rfl rfl rfl ?_
      refine ev_iret dX0_singleRoots_81 rfl rfl ⟨Nat.le_refl _, Nat.le_refl _⟩ ?_
      have e : (if (L 13) 0 = 0 then cS1 (cFig (L 13) ((L 12) 5) ((L 12) 6)) else cS0 (cFig (L 13) ((L 12) 5) ((L 12) 6))) = 0 := by rw [if_pos h1, g25]; decide
      rw [e] at k0
      exact k0 _ _ _ _
    · rw [g25] at hr
      subst hr
      refine ev_istore_n (pc' := 21) (i := 3) (lv' := [some (.ref 12), some (.int 1), some (.int 0), some (.int 6), none, none]) dX0_singleRoots_20 rfl rfl (Nat.le_of_ble_eq_true rfl) rfl rfl ?_
      refine ev_iconst (pc' := 22) (v := 0) dX0_singleRoots_21 rfl ki_0 ?_
      refine ev_istore (pc' := 24) (lv' := [some (.ref 12), some (.int 1), some (.int 0), some (.int 6), some (.int 0), none]) dX0_singleRoots_22 rfl (Nat.le_of_ble_eq_true rfl) rfl rfl ?_
      refine ev_iload (pc' := 26) dX0_singleRoots_24 rfl rfl ?_
      refine ev_iconst (pc' := 27) (v := 4) dX0_singleRoots_26 rfl ki_4 ?_
      refine ev_icmp_ge (tgt := 80) (pc' := 30) dX0_singleRoots_27 rfl rfl (fun h => absurd h (by decide)) (fun _ => ?_)
      refine ev_iload_n (pc' := 31) (i := 3) dX0_singleRoots_30 rfl rfl rfl ?_
      refine ev_if_eq (tgt := 80) (pc' := 34) dX0_singleRoots_31 rfl rfl (fun h => absurd h (by decide)) (fun _ => ?_)
      refine ev_iload_n (pc' := 35) (i := 3) dX0_singleRoots_34 rfl rfl rfl ?_
      refine ev_bipush (pc' := 37) (v := 10) dX0_singleRoots_35 rfl kb_10 ?_
      refine ev_irem (pc' := 38) (v := 6) dX0_singleRoots_37 rfl (by decide) (by decide) ?_
      refine ev_istore (pc' := 40) (lv' := [some (.ref 12), some (.int 1), some (.int 0), some (.int 6), some (.int 0), some (.int 6)]) dX0_singleRoots_38 rfl (Nat.le_of_ble_eq_true rfl) rfl rfl ?_
      refine ev_iload_n (pc' := 41) (i := 3) dX0_singleRoots_40 rfl rfl rfl ?_
      refine ev_bipush (pc' := 43) (v := 10) dX0_singleRoots_41 rfl kb_10 ?_
      refine ev_idiv (pc' := 44) (v := 0) dX0_singleRoots_43 rfl (by decide) (by decide) ?_
      refine ev_istore_n (pc' := 45) (i := 3) (lv' := [some (.ref 12), some (.int 1), some (.int 0), some (.int 0), some (.int 0), some (.int 6)]) dX0_singleRoots_44 rfl rfl (Nat.le_of_ble_eq_true rfl) rfl rfl ?_
      refine ev_iload (pc' := 47) dX0_singleRoots_45 rfl rfl ?_
      refine ev_iconst (pc' := 48) (v := 5) dX0_singleRoots_47 rfl ki_5 ?_
      refine ev_icmp_lt (tgt := 54) (pc' := 51) dX0_singleRoots_48 rfl rfl (fun h => absurd h (by decide)) (fun _ => ?_)
      refine ev_goto (tgt := 74) dX0_singleRoots_51 rfl ?_
      refine ev_iinc (pc' := 77) (v := 1) (lv' := [some (.ref 12), some (.int 1), some (.int 0), some (.int 0), some (.int 1), some (.int 6)]) dX0_singleRoots_74 rfl rfl (by decide) (Nat.le_of_ble_eq_true rfl) rfl rfl ?_
      refine ev_goto (tgt := 24) dX0_singleRoots_77 rfl ?_
      refine ev_iload (pc' := 26) dX0_singleRoots_24 rfl rfl ?_
      refine ev_iconst (pc' := 27) (v := 4) dX0_singleRoots_26 rfl ki_4 ?_
      refine ev_icmp_ge (tgt := 80) (pc' := 30) dX0_singleRoots_27 rfl rfl (fun h => absurd h (by decide)) (fun _ => ?_)
      refine ev_iload_n (pc' := 31) (i := 3) dX0_singleRoots_30 rfl rfl rfl ?_
      refine ev_if_eq (tgt := 80) (pc' := 34) dX0_singleRoots_31 rfl rfl (fun _ => ?_) (fun h => absurd (by decide) h)
      refine ev_iload_n (pc' := 81) (i := 2) dX0_singleRoots_80 rfl rfl rfl ?_
      refine ev_iret dX0_singleRoots_81 rfl rfl ⟨Nat.le_refl _, Nat.le_refl _⟩ ?_
      have e : (if (L 13) 0 = 0 then cS1 (cFig (L 13) ((L 12) 5) ((L 12) 6)) else cS0 (cFig (L 13) ((L 12) 5) ((L 12) 6))) = 0 := by rw [if_pos h1, g25]; decide
      rw [e] at k0
      exact k0 _ _ _ _
    · rw [g25] at hr
      subst hr
      refine ev_istore_n (pc' := 21) (i := 3) (lv' := [some (.ref 12), some (.int 1), some (.int 0), some (.int 13), none, none]) dX0_singleRoots_20 rfl rfl (Nat.le_of_ble_eq_true rfl) rfl rfl ?_
      refine ev_iconst (pc' := 22) (v := 0) dX0_singleRoots_21 rfl ki_0 ?_
      refine ev_istore (pc' := 24) (lv' := [some (.ref 12), some (.int 1), some (.int 0), some (.int 13), some (.int 0), none]) dX0_singleRoots_22 rfl (Nat.le_of_ble_eq_true rfl) rfl rfl ?_
      refine ev_iload (pc' := 26) dX0_singleRoots_24 rfl rfl ?_
      refine ev_iconst (pc' := 27) (v := 4) dX0_singleRoots_26 rfl ki_4 ?_
      refine ev_icmp_ge (tgt := 80) (pc' := 30) dX0_singleRoots_27 rfl rfl (fun h => absurd h (by decide)) (fun _ => ?_)
      refine ev_iload_n (pc' := 31) (i := 3) dX0_singleRoots_30 rfl rfl rfl ?_
      refine ev_if_eq (tgt := 80) (pc' := 34) dX0_singleRoots_31 rfl rfl (fun h => absurd h (by decide)) (fun _ => ?_)
      refine ev_iload_n (pc' := 35) (i := 3) dX0_singleRoots_34 rfl rfl rfl ?_
      refine ev_bipush (pc' := 37) (v := 10) dX0_singleRoots_35 rfl kb_10 ?_
      refine ev_irem (pc' := 38) (v := 3) dX0_singleRoots_37 rfl (by decide) (by decide) ?_
      refine ev_istore (pc' := 40) (lv' := [some (.ref 12), some (.int 1), some (.int 0), some (.int 13), some (.int 0), some (.int 3)]) dX0_singleRoots_38 rfl (Nat.le_of_ble_eq_true rfl) rfl rfl ?_
      refine ev_iload_n (pc' := 41) (i := 3) dX0_singleRoots_40 rfl rfl rfl ?_
      refine ev_bipush (pc' := 43) (v := 10) dX0_singleRoots_41 rfl kb_10 ?_
      refine ev_idiv (pc' := 44) (v := 1) dX0_singleRoots_43 rfl (by decide) (by decide) ?_
      refine ev_istore_n (pc' := 45) (i := 3) (lv' := [some (.ref 12), some (.int 1), some (.int 0), some (.int 1), some (.int 0), some (.int 3)]) dX0_singleRoots_44 rfl rfl (Nat.le_of_ble_eq_true rfl) rfl rfl ?_
      refine ev_iload (pc' := 47) dX0_singleRoots_45 rfl rfl ?_
      refine ev_iconst (pc' := 48) (v := 5) dX0_singleRoots_47 rfl ki_5 ?_
      refine ev_icmp_lt (tgt := 54) (pc' := 51) dX0_singleRoots_48 rfl rfl (fun _ => ?_) (fun h => absurd (by decide) h)
      refine ev_iload_n (pc' := 55) (i := 1) dX0_singleRoots_54 rfl rfl rfl ?_
      refine ev_if_eq (tgt := 63) (pc' := 58) dX0_singleRoots_55 rfl rfl (fun h => absurd h (by decide)) (fun _ => ?_)
      refine ev_iconst (pc' := 59) (v := 0) dX0_singleRoots_58 rfl ki_0 ?_
      refine ev_istore_n (pc' := 60) (i := 1) (lv' := [some (.ref 12), some (.int 0), some (.int 0), some (.int 1), some (.int 0), some (.int 3)]) dX0_singleRoots_59 rfl rfl (Nat.le_of_ble_eq_true rfl) rfl rfl ?_
      refine ev_goto (tgt := 74) dX0_singleRoots_60 rfl ?_
      refine ev_iinc (pc' := 77) (v := 1) (lv' := [some (.ref 12), some (.int 0), some (.int 0), some (.int 1), some (.int 1), some (.int 3)]) dX0_singleRoots_74 rfl rfl (by decide) (Nat.le_of_ble_eq_true rfl) rfl rfl ?_
      refine ev_goto (tgt := 24) dX0_singleRoots_77 rfl ?_
      refine ev_iload (pc' := 26) dX0_singleRoots_24 rfl rfl ?_
      refine ev_iconst (pc' := 27) (v := 4) dX0_singleRoots_26 rfl ki_4 ?_
      refine ev_icmp_ge (tgt := 80) (pc' := 30) dX0_singleRoots_27 rfl rfl (fun h => absurd h (by decide)) (fun _ => ?_)
      refine ev_iload_n (pc' := 31) (i := 3) dX0_singleRoots_30 rfl rfl rfl ?_
      refine ev_if_eq (tgt := 80) (pc' := 34) dX0_singleRoots_31 rfl rfl (fun h => absurd h (by decide)) (fun _ => ?_)
      refine ev_iload_n (pc' := 35) (i := 3) dX0_singleRoots_34 rfl rfl rfl ?_
      refine ev_bipush (pc' := 37) (v := 10) dX0_singleRoots_35 rfl kb_10 ?_
      refine ev_irem (pc' := 38) (v := 1) dX0_singleRoots_37 rfl (by decide) (by decide) ?_
      refine ev_istore (pc' := 40) (lv' := [some (.ref 12), some (.int 0), some (.int 0), some (.int 1), some (.int 1), some (.int 1)]) dX0_singleRoots_38 rfl (Nat.le_of_ble_eq_true rfl) rfl rfl ?_
      refine ev_iload_n (pc' := 41) (i := 3) dX0_singleRoots_40 rfl rfl rfl ?_
      refine ev_bipush (pc' := 43) (v := 10) dX0_singleRoots_41 rfl kb_10 ?_
      refine ev_idiv (pc' := 44) (v := 0) dX0_singleRoots_43 rfl (by decide) (by decide) ?_
      refine ev_istore_n (pc' := 45) (i := 3) (lv' := [some (.ref 12), some (.int 0), some (.int 0), some (.int 0), some (.int 1), some (.int 1)]) dX0_singleRoots_44 rfl rfl (Nat.le_of_ble_eq_true rfl) rfl rfl ?_
      refine ev_iload (pc' := 47) dX0_singleRoots_45 rfl rfl ?_
      refine ev_iconst (pc' := 48) (v := 5) dX0_singleRoots_47 rfl ki_5 ?_
      refine ev_icmp_lt (tgt := 54) (pc' := 51) dX0_singleRoots_48 rfl rfl (fun _ => ?_) (fun h => absurd (by decide) h)
      refine ev_iload_n (pc' := 55) (i := 1) dX0_singleRoots_54 rfl rfl rfl ?_
      refine ev_if_eq (tgt := 63) (pc' := 58) dX0_singleRoots_55 rfl rfl (fun _ => ?_) (fun h => absurd (by decide) h)
      refine ev_iload (pc' := 65) dX0_singleRoots_63 rfl rfl ?_
      refine ev_iconst (pc' := 66) (v := 1) dX0_singleRoots_65 rfl ki_1 ?_
      refine ev_icmp_le (tgt := 71) (pc' := 69) dX0_singleRoots_66 rfl rfl (fun _ => ?_) (fun h => absurd (by decide) h)
      refine ev_iinc (pc' := 74) (v := 1) (lv' := [some (.ref 12), some (.int 0), some (.int 1), some (.int 0), some (.int 1), some (.int 1)]) dX0_singleRoots_71 rfl rfl (by decide) (Nat.le_of_ble_eq_true rfl) rfl rfl ?_
      refine ev_iinc (pc' := 77) (v := 2) (lv' := [some (.ref 12), some (.int 0), some (.int 1), some (.int 0), some (.int 2), some (.int 1)]) dX0_singleRoots_74 rfl rfl (by decide) (Nat.le_of_ble_eq_true rfl) rfl rfl ?_
      refine ev_goto (tgt := 24) dX0_singleRoots_77 rfl ?_
      refine ev_iload (pc' := 26) dX0_singleRoots_24 rfl rfl ?_
      refine ev_iconst (pc' := 27) (v := 4) dX0_singleRoots_26 rfl ki_4 ?_
      refine ev_icmp_ge (tgt := 80) (pc' := 30) dX0_singleRoots_27 rfl rfl (fun h => absurd h (by decide)) (fun _ => ?_)
      refine ev_iload_n (pc' := 31) (i := 3) dX0_singleRoots_30 rfl rfl rfl ?_
      refine ev_if_eq (tgt := 80) (pc' := 34) dX0_singleRoots_31 rfl rfl (fun _ => ?_) (fun h => absurd (by decide) h)
      refine ev_iload_n (pc' := 81) (i := 2) dX0_singleRoots_80 rfl rfl rfl ?_
      refine ev_iret dX0_singleRoots_81 rfl rfl ⟨Nat.le_refl _, Nat.le_refl _⟩ ?_
      have e : (if (L 13) 0 = 0 then cS1 (cFig (L 13) ((L 12) 5) ((L 12) 6)) else cS0 (cFig (L 13) ((L 12) 5) ((L 12) 6))) = 1 := by rw [if_pos h1, g25]; decide
      rw [e] at k0
      exact k0 _ _ _ _
    · rw [g25] at hr
      subst hr
      refine ev_istore_n (pc' := 21) (i := 3) (lv' := [some (.ref 12), some (.int 1), some (.int 0), some (.int 22), none, none]) dX0_singleRoots_20 rfl rfl (Nat.le_of_ble_eq_true rfl) rfl rfl ?_
      refine ev_iconst (pc' := 22) (v := 0) dX0_singleRoots_21 rfl ki_0 ?_
      refine ev_istore (pc' := 24) (lv' := [some (.ref 12), some (.int 1), some (.int 0), some (.int 22), some (.int 0), none]) dX0_singleRoots_22 rfl (Nat.le_of_ble_eq_true rfl) rfl rfl ?_
      refine ev_iload (pc' := 26) dX0_singleRoots_24 rfl rfl ?_
      refine ev_iconst (pc' := 27) (v := 4) dX0_singleRoots_26 rfl ki_4 ?_
      refine ev_icmp_ge (tgt := 80) (pc' := 30) dX0_singleRoots_27 rfl rfl (fun h => absurd h (by decide)) (fun _ => ?_)
      refine ev_iload_n (pc' := 31) (i := 3) dX0_singleRoots_30 rfl rfl rfl ?_
      refine ev_if_eq (tgt := 80) (pc' := 34) dX0_singleRoots_31 rfl rfl (fun h => absurd h (by decide)) (fun _ => ?_)
      refine ev_iload_n (pc' := 35) (i := 3) dX0_singleRoots_34 rfl rfl rfl ?_
      refine ev_bipush (pc' := 37) (v := 10) dX0_singleRoots_35 rfl kb_10 ?_
      refine ev_irem (pc' := 38) (v := 2) dX0_singleRoots_37 rfl (by decide) (by decide) ?_
      refine ev_istore (pc' := 40) (lv' := [some (.ref 12), some (.int 1), some (.int 0), some (.int 22), some (.int 0), some (.int 2)]) dX0_singleRoots_38 rfl (Nat.le_of_ble_eq_true rfl) rfl rfl ?_
      refine ev_iload_n (pc' := 41) (i := 3) dX0_singleRoots_40 rfl rfl rfl ?_
      refine ev_bipush (pc' := 43) (v := 10) dX0_singleRoots_41 rfl kb_10 ?_
      refine ev_idiv (pc' := 44) (v := 2) dX0_singleRoots_43 rfl (by decide) (by decide) ?_
      refine ev_istore_n (pc' := 45) (i := 3) (lv' := [some (.ref 12), some (.int 1), some (.int 0), some (.int 2), some (.int 0), some (.int 2)]) dX0_singleRoots_44 rfl rfl (Nat.le_of_ble_eq_true rfl) rfl rfl ?_
      refine ev_iload (pc' := 47) dX0_singleRoots_45 rfl rfl ?_
      refine ev_iconst (pc' := 48) (v := 5) dX0_singleRoots_47 rfl ki_5 ?_
      refine ev_icmp_lt (tgt := 54) (pc' := 51) dX0_singleRoots_48 rfl rfl (fun _ => ?_) (fun h => absurd (by decide) h)
      refine ev_iload_n (pc' := 55) (i := 1) dX0_singleRoots_54 rfl rfl rfl ?_
      refine ev_if_eq (tgt := 63) (pc' := 58) dX0_singleRoots_55 rfl rfl (fun h => absurd h (by decide)) (fun _ => ?_)
      refine ev_iconst (pc' := 59) (v := 0) dX0_singleRoots_58 rfl ki_0 ?_
      refine ev_istore_n (pc' := 60) (i := 1) (lv' := [some (.ref 12), some (.int 0), some (.int 0), some (.int 2), some (.int 0), some (.int 2)]) dX0_singleRoots_59 rfl rfl (Nat.le_of_ble_eq_true rfl) rfl rfl ?_
      refine ev_goto (tgt := 74) dX0_singleRoots_60 rfl ?_
      refine ev_iinc (pc' := 77) (v := 1) (lv' := [some (.ref 12), some (.int 0), some (.int 0), some (.int 2), some (.int 1), some (.int 2)]) dX0_singleRoots_74 rfl rfl (by decide) (Nat.le_of_ble_eq_true rfl) rfl rfl ?_
      refine ev_goto (tgt := 24) dX0_singleRoots_77 rfl ?_
      refine ev_iload (pc' := 26) dX0_singleRoots_24 rfl rfl ?_
      refine ev_iconst (pc' := 27) (v := 4) dX0_singleRoots_26 rfl ki_4 ?_
      refine ev_icmp_ge (tgt := 80) (pc' := 30) dX0_singleRoots_27 rfl rfl (fun h => absurd h (by decide)) (fun _ => ?_)
      refine ev_iload_n (pc' := 31) (i := 3) dX0_singleRoots_30 rfl rfl rfl ?_
      refine ev_if_eq (tgt := 80) (pc' := 34) dX0_singleRoots_31 rfl rfl (fun h => absurd h (by decide)) (fun _ => ?_)
      refine ev_iload_n (pc' := 35) (i := 3) dX0_singleRoots_34 rfl rfl rfl ?_
      refine ev_bipush (pc' := 37) (v := 10) dX0_singleRoots_35 rfl kb_10 ?_
      refine ev_irem (pc' := 38) (v := 2) dX0_singleRoots_37 rfl (by decide) (by decide) ?_
      refine ev_istore (pc' := 40) (lv' := [some (.ref 12), some (.int 0), some (.int 0), some (.int 2), some (.int 1), some (.int 2)]) dX0_singleRoots_38 rfl (Nat.le_of_ble_eq_true rfl) rfl rfl ?_
      refine ev_iload_n (pc' := 41) (i := 3) dX0_singleRoots_40 rfl rfl rfl ?_
      refine ev_bipush (pc' := 43) (v := 10) dX0_singleRoots_41 rfl kb_10 ?_
      refine ev_idiv (pc' := 44) (v := 0) dX0_singleRoots_43 rfl (by decide) (by decide) ?_
      refine ev_istore_n (pc' := 45) (i := 3) (lv' := [some (.ref 12), some (.int 0), some (.int 0), some (.int 0), some (.int 1), some (.int 2)]) dX0_singleRoots_44 rfl rfl (Nat.le_of_ble_eq_true rfl) rfl rfl ?_
      refine ev_iload (pc' := 47) dX0_singleRoots_45 rfl rfl ?_
      refine ev_iconst (pc' := 48) (v := 5) dX0_singleRoots_47 rfl ki_5 ?_
      refine ev_icmp_lt (tgt := 54) (pc' := 51) dX0_singleRoots_48 rfl rfl (fun _ => ?_) (fun h => absurd (by decide) h)
      refine ev_iload_n (pc' := 55) (i := 1) dX0_singleRoots_54 rfl rfl rfl ?_
      refine ev_if_eq (tgt := 63) (pc' := 58) dX0_singleRoots_55 rfl rfl (fun _ => ?_) (fun h => absurd (by decide) h)
      refine ev_iload (pc' := 65) dX0_singleRoots_63 rfl rfl ?_
      refine ev_iconst (pc' := 66) (v := 1) dX0_singleRoots_65 rfl ki_1 ?_
      refine ev_icmp_le (tgt := 71) (pc' := 69) dX0_singleRoots_66 rfl rfl (fun h => absurd h (by decide)) (fun _ => ?_)
      refine ev_iconst (pc' := 70) (v := (-1)) dX0_singleRoots_69 rfl ki_m1 ?_
      refine ev_iret dX0_singleRoots_70 rfl rfl ⟨Nat.le_refl _, Nat.le_refl _⟩ ?_
      have e : (if (L 13) 0 = 0 then cS1 (cFig (L 13) ((L 12) 5) ((L 12) 6)) else cS0 (cFig (L 13) ((L 12) 5) ((L 12) 6))) = (-1) := by rw [if_pos h1, g25]; decide
      rw [e] at k0
      exact k0 _ _ _ _
    · rw [g25] at hr
      subst hr
      refine ev_istore_n (pc' := 21) (i := 3) (lv' := [some (.ref 12), some (.int 1), some (.int 0), some (.int 25), none, none]) dX0_singleRoots_20 rfl rfl (Nat.le_of_ble_eq_true rfl) rfl rfl ?_
      refine ev_iconst (pc' := 22) (v := 0) dX0_singleRoots_21 rfl ki_0 ?_
      refine ev_istore (pc' := 24) (lv' := [some (.ref 12), some (.int 1), some (.int 0), some (.int 25), some (.int 0), none]) dX0_singleRoots_22 rfl (Nat.le_of_ble_eq_true rfl) rfl rfl ?_
      refine ev_iload (pc' := 26) dX0_singleRoots_24 rfl rfl ?_
      refine ev_iconst (pc' := 27) (v := 4) dX0_singleRoots_26 rfl ki_4 ?_
      refine ev_icmp_ge (tgt := 80) (pc' := 30) dX0_singleRoots_27 rfl rfl (fun h => absurd h (by decide)) (fun _ => ?_)
      refine ev_iload_n (pc' := 31) (i := 3) dX0_singleRoots_30 rfl rfl rfl ?_
      refine ev_if_eq (tgt := 80) (pc' := 34) dX0_singleRoots_31 rfl rfl (fun h => absurd h (by decide)) (fun _ => ?_)
      refine ev_iload_n (pc' := 35) (i := 3) dX0_singleRoots_34 rfl rfl rfl ?_
      refine ev_bipush (pc' := 37) (v := 10) dX0_singleRoots_35 rfl kb_10 ?_
      refine ev_irem (pc' := 38) (v := 5) dX0_singleRoots_37 rfl (by decide) (by decide) ?_
      refine ev_istore (pc' := 40) (lv' := [some (.ref 12), some (.int 1), some (.int 0), some (.int 25), some (.int 0), some (.int 5)]) dX0_singleRoots_38 rfl (Nat.le_of_ble_eq_true rfl) rfl rfl ?_
      refine ev_iload_n (pc' := 41) (i := 3) dX0_singleRoots_40 rfl rfl rfl ?_
      refine ev_bipush (pc' := 43) (v := 10) dX0_singleRoots_41 rfl kb_10 ?_
      refine ev_idiv (pc' := 44) (v := 2) dX0_singleRoots_43 rfl (by decide) (by decide) ?_
      refine ev_istore_n (pc' := 45) (i := 3) (lv' := [some (.ref 12), some (.int 1), some (.int 0), some (.int 2), some (.int 0), some (.int 5)]) dX0_singleRoots_44 rfl rfl (Nat.le_of_ble_eq_true rfl) rfl rfl ?_
      refine ev_iload (pc' := 47) dX0_singleRoots_45 rfl rfl ?_
      refine ev_iconst (pc' := 48) (v := 5) dX0_singleRoots_47 rfl ki_5 ?_
      refine ev_icmp_lt (tgt := 54) (pc' := 51) dX0_singleRoots_48 rfl rfl (fun h => absurd h (by decide)) (fun _ => ?_)
      refine ev_goto (tgt := 74) dX0_singleRoots_51 rfl ?_
      refine ev_iinc (pc' := 77) (v := 1) (lv' := [some (.ref 12), some (.int 1), some (.int 0), some (.int 2), some (.int 1), some (.int 5)]) dX0_singleRoots_74 rfl rfl (by decide) (Nat.le_of_ble_eq_true rfl) rfl rfl ?_
      refine ev_goto (tgt := 24) dX0_singleRoots_77 rfl ?_
      refine ev_iload (pc' := 26) dX0_singleRoots_24 rfl rfl ?_
      refine ev_iconst (pc' := 27) (v := 4) dX0_singleRoots_26 rfl ki_4 ?_
      refine ev_icmp_ge (tgt := 80) (pc' := 30) dX0_singleRoots_27 rfl rfl (fun h => absurd h (by decide)) (fun _ => ?_)
      refine ev_iload_n (pc' := 31) (i := 3) dX0_singleRoots_30 rfl rfl rfl ?_
      refine ev_if_eq (tgt := 80) (pc' := 34) dX0_singleRoots_31 rfl rfl (fun h => absurd h (by decide)) (fun _ => ?_)
      refine ev_iload_n (pc' := 35) (i := 3) dX0_singleRoots_34 rfl rfl rfl ?_
      refine ev_bipush (pc' := 37) (v := 10) dX0_singleRoots_35 rfl kb_10 ?_
      refine ev_irem (pc' := 38) (v := 2) dX0_singleRoots_37 rfl (by decide) (by decide) ?_
      refine ev_istore (pc' := 40) (lv' := [some (.ref 12), some (.int 1), some (.int 0), some (.int 2), some (.int 1), some (.int 2)]) dX0_singleRoots_38 rfl (Nat.le_of_ble_eq_true rfl) rfl rfl ?_
      refine ev_iload_n (pc' := 41) (i := 3) dX0_singleRoots_40 rfl rfl rfl ?_
      refine ev_bipush (pc' := 43) (v := 10) dX0_singleRoots_41 rfl kb_10 ?_
      refine ev_idiv (pc' := 44) (v := 0) dX0_singleRoots_43 rfl (by decide) (by decide) ?_
      refine ev_istore_n (pc' := 45) (i := 3) (lv' := [some (.ref 12), some (.int 1), some (.int 0), some (.int 0), some (.int 1), some (.int 2)]) dX0_singleRoots_44 rfl rfl (Nat.le_of_ble_eq_true rfl) rfl rfl ?_
      refine ev_iload (pc' := 47) dX0_singleRoots_45 rfl rfl ?_
      refine ev_iconst (pc' := 48) (v := 5) dX0_singleRoots_47 rfl ki_5 ?_
      refine ev_icmp_lt (tgt := 54) (pc' := 51) dX0_singleRoots_48 rfl rfl (fun _ => ?_) (fun h => absurd (by decide) h)
      refine ev_iload_n (pc' := 55) (i := 1) dX0_singleRoots_54 rfl rfl rfl ?_
      refine ev_if_eq (tgt := 63) (pc' := 58) dX0_singleRoots_55 rfl rfl (fun h => absurd h (by decide)) (fun _ => ?_)
      refine ev_iconst (pc' := 59) (v := 0) dX0_singleRoots_58 rfl ki_0 ?_
      refine ev_istore_n (pc' := 60) (i := 1) (lv' := [some (.ref 12), some (.int 0), some (.int 0), some (.int 0), some (.int 1), some (.int 2)]) dX0_singleRoots_59 rfl rfl (Nat.le_of_ble_eq_true rfl) rfl rfl ?_
      refine ev_goto (tgt := 74) dX0_singleRoots_60 rfl ?_
      refine ev_iinc (pc' := 77) (v := 2) (lv' := [some (.ref 12), some (.int 0), some (.int 0), some (.int 0), some (.int 2), some (.int 2)]) dX0_singleRoots_74 rfl rfl (by decide) (Nat.le_of_ble_eq_true rfl) rfl rfl ?_
      refine ev_goto (tgt := 24) dX0_singleRoots_77 rfl ?_
      refine ev_iload (pc' := 26) dX0_singleRoots_24 rfl rfl ?_
      refine ev_iconst (pc' := 27) (v := 4) dX0_singleRoots_26 rfl ki_4 ?_
      refine ev_icmp_ge (tgt := 80) (pc' := 30) dX0_singleRoots_27 rfl rfl (fun h => absurd h (by decide)) (fun _ => ?_)
      refine ev_iload_n (pc' := 31) (i := 3) dX0_singleRoots_30 rfl rfl rfl ?_
      refine ev_if_eq (tgt := 80) (pc' := 34) dX0_singleRoots_31 rfl rfl (fun _ => ?_) (fun h => absurd (by decide) h)
      refine ev_iload_n (pc' := 81) (i := 2) dX0_singleRoots_80 rfl rfl rfl ?_
      refine ev_iret dX0_singleRoots_81 rfl rfl ⟨Nat.le_refl _, Nat.le_refl _⟩ ?_
      have e : (if (L 13) 0 = 0 then cS1 (cFig (L 13) ((L 12) 5) ((L 12) 6)) else cS0 (cFig (L 13) ((L 12) 5) ((L 12) 6))) = 0 := by rw [if_pos h1, g25]; decide
      rw [e] at k0
      exact k0 _ _ _ _
    · rw [g25] at hr
      subst hr
      refine ev_istore_n (pc' := 21) (i := 3) (lv' := [some (.ref 12), some (.int 1), some (.int 0), some (.int 31), none, none]) dX0_singleRoots_20 rfl rfl (Nat.le_of_ble_eq_true rfl) rfl rfl ?_
      refine ev_iconst (pc' := 22) (v := 0) dX0_singleRoots_21 rfl ki_0 ?_
      refine ev_istore (pc' := 24) (lv' := [some (.ref 12), some (.int 1), some (.int 0), some (.int 31), some (.int 0), none]) dX0_singleRoots_22 rfl (Nat.le_of_ble_eq_true rfl) rfl rfl ?_
      refine ev_iload (pc' := 26) dX0_singleRoots_24 rfl rfl ?_
      refine ev_iconst (pc' := 27) (v := 4) dX0_singleRoots_26 rfl ki_4 ?_
      refine ev_icmp_ge (tgt := 80) (pc' := 30) dX0_singleRoots_27 rfl rfl (fun h => absurd h (by decide)) (fun _ => ?_)
      refine ev_iload_n (pc' := 31) (i := 3) dX0_singleRoots_30 rfl rfl rfl ?_
      refine ev_if_eq (tgt := 80) (pc' := 34) dX0_singleRoots_31 rfl rfl (fun h => absurd h (by decide)) (fun _ => ?_)
      refine ev_iload_n (pc' := 35) (i := 3) dX0_singleRoots_34 rfl rfl rfl ?_
      refine ev_bipush (pc' := 37) (v := 10) dX0_singleRoots_35 rfl kb_10 ?_
      refine ev_irem (pc' := 38) (v := 1) dX0_singleRoots_37 rfl (by decide) (by decide) ?_
      refine ev_istore (pc' := 40) (lv' := [some (.ref 12), some (.int 1), some (.int 0), some (.int 31), some (.int 0), some (.int 1)]) dX0_singleRoots_38 rfl (Nat.le_of_ble_eq_true rfl) rfl rfl ?_
      refine ev_iload_n (pc' := 41) (i := 3) dX0_singleRoots_40 rfl rfl rfl ?_
      refine ev_bipush (pc' := 43) (v := 10) dX0_singleRoots_41 rfl kb_10 ?_
      refine ev_idiv (pc' := 44) (v := 3) dX0_singleRoots_43 rfl (by decide) (by decide) ?_
      refine ev_istore_n (pc' := 45) (i := 3) (lv' := [some (.ref 12), some (.int 1), some (.int 0), some (.int 3), some (.int 0), some (.int 1)]) dX0_singleRoots_44 rfl rfl (Nat.le_of_ble_eq_true rfl) rfl rfl ?_
      refine ev_iload (pc' := 47) dX0_singleRoots_45 rfl rfl ?_
      refine ev_iconst (pc' := 48) (v := 5) dX0_singleRoots_47 rfl ki_5 ?_
      refine ev_icmp_lt (tgt := 54) (pc' := 51) dX0_singleRoots_48 rfl rfl (fun _ => ?_) (fun h => absurd (by decide) h)
      refine ev_iload_n (pc' := 55) (i := 1) dX0_singleRoots_54 rfl rfl rfl ?_
      refine ev_if_eq (tgt := 63) (pc' := 58) dX0_singleRoots_55 rfl rfl (fun h => absurd h (by decide)) (fun _ => ?_)
      refine ev_iconst (pc' := 59) (v := 0) dX0_singleRoots_58 rfl ki_0 ?_
      refine ev_istore_n (pc' := 60) (i := 1) (lv' := [some (.ref 12), some (.int 0), some (.int 0), some (.int 3), some (.int 0), some (.int 1)]) dX0_singleRoots_59 rfl rfl (Nat.le_of_ble_eq_true rfl) rfl rfl ?_
      refine ev_goto (tgt := 74) dX0_singleRoots_60 rfl ?_
      refine ev_iinc (pc' := 77) (v := 1) (lv' := [some (.ref 12), some (.int 0), some (.int 0), some (.int 3), some (.int 1), some (.int 1)]) dX0_singleRoots_74 rfl rfl (by decide) (Nat.le_of_ble_eq_true rfl) rfl rfl ?_
      refine ev_goto (tgt := 24) dX0_singleRoots_77 rfl ?_
      refine ev_iload (pc' := 26) dX0_singleRoots_24 rfl rfl ?_
      refine ev_iconst (pc' := 27) (v := 4) dX0_singleRoots_26 rfl ki_4 ?_
      refine ev_icmp_ge (tgt := 80) (pc' := 30) dX0_singleRoots_27 rfl rfl (fun h => absurd h (by decide)) (fun _ => ?_)
      refine ev_iload_n (pc' := 31) (i := 3) dX0_singleRoots_30 rfl rfl rfl ?_
      refine ev_if_eq (tgt := 80) (pc' := 34) dX0_singleRoots_31 rfl rfl (fun h => absurd h (by decide)) (fun _ => ?_)
      refine ev_iload_n (pc' := 35) (i := 3) dX0_singleRoots_34 rfl rfl rfl ?_
      refine ev_bipush (pc' := 37) (v := 10) dX0_singleRoots_35 rfl kb_10 ?_
      refine ev_irem (pc' := 38) (v := 3) dX0_singleRoots_37 rfl (by decide) (by decide) ?_
      refine ev_istore (pc' := 40) (lv' := [some (.ref 12), some (.int 0), some (.int 0), some (.int 3), some (.int 1), some (.int 3)]) dX0_singleRoots_38 rfl (Nat.le_of_ble_eq_true rfl) rfl rfl ?_
      refine ev_iload_n (pc' := 41) (i := 3) dX0_singleRoots_40 rfl rfl rfl ?_
      refine ev_bipush (pc' := 43) (v := 10) dX0_singleRoots_41 rfl kb_10 ?_
      refine ev_idiv (pc' := 44) (v := 0) dX0_singleRoots_43 rfl (by decide) (by decide) ?_
      refine ev_istore_n (pc' := 45) (i := 3) (lv' := [some (.ref 12), some (.int 0), some (.int 0), some (.int 0), some (.int 1), some (.int 3)]) dX0_singleRoots_44 rfl rfl (Nat.le_of_ble_eq_true rfl) rfl rfl ?_
      refine ev_iload (pc' := 47) dX0_singleRoots_45 rfl rfl ?_
      refine ev_iconst (pc' := 48) (v := 5) dX0_singleRoots_47 rfl ki_5 ?_
      refine ev_icmp_lt (tgt := 54) (pc' := 51) dX0_singleRoots_48 rfl rfl (fun _ => ?_) (fun h => absurd (by decide) h)
      refine ev_iload_n (pc' := 55) (i := 1) dX0_singleRoots_54 rfl rfl rfl ?_
      refine ev_if_eq (tgt := 63) (pc' := 58) dX0_singleRoots_55 rfl rfl (fun _ => ?_) (fun h => absurd (by decide) h)
      refine ev_iload (pc' := 65) dX0_singleRoots_63 rfl rfl ?_
      refine ev_iconst (pc' := 66) (v := 1) dX0_singleRoots_65 rfl ki_1 ?_
      refine ev_icmp_le (tgt := 71) (pc' := 69) dX0_singleRoots_66 rfl rfl (fun h => absurd h (by decide)) (fun _ => ?_)
      refine ev_iconst (pc' := 70) (v := (-1)) dX0_singleRoots_69 rfl ki_m1 ?_
      refine ev_iret dX0_singleRoots_70 rfl rfl ⟨Nat.le_refl _, Nat.le_refl _⟩ ?_
      have e : (if (L 13) 0 = 0 then cS1 (cFig (L 13) ((L 12) 5) ((L 12) 6)) else cS0 (cFig (L 13) ((L 12) 5) ((L 12) 6))) = (-1) := by rw [if_pos h1, g25]; decide
      rw [e] at k0
      exact k0 _ _ _ _
    · rw [g25] at hr
      subst hr
      refine ev_istore_n (pc' := 21) (i := 3) (lv' := [some (.ref 12), some (.int 1), some (.int 0), some (.int 55), none, none]) dX0_singleRoots_20 rfl rfl (Nat.le_of_ble_eq_true rfl) rfl rfl ?_
      refine ev_iconst (pc' := 22) (v := 0) dX0_singleRoots_21 rfl ki_0 ?_
      refine ev_istore (pc' := 24) (lv' := [some (.ref 12), some (.int 1), some (.int 0), some (.int 55), some (.int 0), none]) dX0_singleRoots_22 rfl (Nat.le_of_ble_eq_true rfl) rfl rfl ?_
      refine ev_iload (pc' := 26) dX0_singleRoots_24 rfl rfl ?_
      refine ev_iconst (pc' := 27) (v := 4) dX0_singleRoots_26 rfl ki_4 ?_
      refine ev_icmp_ge (tgt := 80) (pc' := 30) dX0_singleRoots_27 rfl rfl (fun h => absurd h (by decide)) (fun _ => ?_)
      refine ev_iload_n (pc' := 31) (i := 3) dX0_singleRoots_30 rfl rfl rfl ?_
      refine ev_if_eq (tgt := 80) (pc' := 34) dX0_singleRoots_31 rfl rfl (fun h => absurd h (by decide)) (fun _ => ?_)
      refine ev_iload_n (pc' := 35) (i := 3) dX0_singleRoots_34 rfl rfl rfl ?_
      refine ev_bipush (pc' := 37) (v := 10) dX0_singleRoots_35 rfl kb_10 ?_
      refine ev_irem (pc' := 38) (v := 5) dX0_singleRoots_37 rfl (by decide) (by decide) ?_
      refine ev_istore (pc' := 40) (lv' := [some (.ref 12), some (.int 1), some (.int 0), some (.int 55), some (.int 0), some (.int 5)]) dX0_singleRoots_38 rfl (Nat.le_of_ble_eq_true rfl) rfl rfl ?_
      refine ev_iload_n (pc' := 41) (i := 3) dX0_singleRoots_40 rfl rfl rfl ?_
      refine ev_bipush (pc' := 43) (v := 10) dX0_singleRoots_41 rfl kb_10 ?_
      refine ev_idiv (pc' := 44) (v := 5) dX0_singleRoots_43 rfl (by decide) (by decide) ?_
      refine ev_istore_n (pc' := 45) (i := 3) (lv' := [some (.ref 12), some (.int 1), some (.int 0), some (.int 5), some (.int 0), some (.int 5)]) dX0_singleRoots_44 rfl rfl (Nat.le_of_ble_eq_true rfl) rfl rfl ?_
      refine ev_iload (pc' := 47) dX0_singleRoots_45 rfl rfl ?_
      refine ev_iconst (pc' := 48) (v := 5) dX0_singleRoots_47 rfl ki_5 ?_
      refine ev_icmp_lt (tgt := 54) (pc' := 51) dX0_singleRoots_48 rfl rfl (fun h => absurd h (by decide)) (fun _ => ?_)
      refine ev_goto (tgt := 74) dX0_singleRoots_51 rfl ?_
      refine ev_iinc (pc' := 77) (v := 1) (lv' := [some (.ref 12), some (.int 1), some (.int 0), some (.int 5), some (.int 1), some (.int 5)]) dX0_singleRoots_74 rfl rfl (by decide) (Nat.le_of_ble_eq_true rfl) rfl rfl ?_
      refine ev_goto (tgt := 24) dX0_singleRoots_77 rfl ?_
      refine ev_iload (pc' := 26) dX0_singleRoots_24 rfl rfl ?_
      refine ev_iconst (pc' := 27) (v := 4) dX0_singleRoots_26 rfl ki_4 ?_
      refine ev_icmp_ge (tgt := 80) (pc' := 30) dX0_singleRoots_27 rfl rfl (fun h => absurd h (by decide)) (fun _ => ?_)
      refine ev_iload_n (pc' := 31) (i := 3) dX0_singleRoots_30 rfl rfl rfl ?_
      refine ev_if_eq (tgt := 80) (pc' := 34) dX0_singleRoots_31 rfl rfl (fun h => absurd h (by decide)) (fun _ => ?_)
      refine ev_iload_n (pc' := 35) (i := 3) dX0_singleRoots_34 rfl rfl rfl ?_
      refine ev_bipush (pc' := 37) (v := 10) dX0_singleRoots_35 rfl kb_10 ?_
      refine ev_irem (pc' := 38) (v := 5) dX0_singleRoots_37 rfl (by decide) (by decide) ?_
      refine ev_istore (pc' := 40) (lv' := [some (.ref 12), some (.int 1), some (.int 0), some (.int 5), some (.int 1), some (.int 5)]) dX0_singleRoots_38 rfl (Nat.le_of_ble_eq_true rfl) rfl rfl ?_
      refine ev_iload_n (pc' := 41) (i := 3) dX0_singleRoots_40 rfl rfl rfl ?_
      refine ev_bipush (pc' := 43) (v := 10) dX0_singleRoots_41 rfl kb_10 ?_
      refine ev_idiv (pc' := 44) (v := 0) dX0_singleRoots_43 rfl (by decide) (by decide) ?_
      refine ev_istore_n (pc' := 45) (i := 3) (lv' := [some (.ref 12), some (.int 1), some (.int 0), some (.int 0), some (.int 1), some (.int 5)]) dX0_singleRoots_44 rfl rfl (Nat.le_of_ble_eq_true rfl) rfl rfl ?_
      refine ev_iload (pc' := 47) dX0_singleRoots_45 rfl rfl ?_
      refine ev_iconst (pc' := 48) (v := 5) dX0_singleRoots_47 rfl ki_5 ?_
      refine ev_icmp_lt (tgt := 54) (pc' := 51) dX0_singleRoots_48 rfl rfl (fun h => absurd h (by decide)) (fun _ => ?_)
      refine ev_goto (tgt := 74) dX0_singleRoots_51 rfl ?_
      refine ev_iinc (pc' := 77) (v := 2) (lv' := [some (.ref 12), some (.int 1), some (.int 0), some (.int 0), some (.int 2), some (.int 5)]) dX0_singleRoots_74 rfl rfl (by decide) (Nat.le_of_ble_eq_true rfl) rfl rfl ?_
      refine ev_goto (tgt := 24) dX0_singleRoots_77 rfl ?_
      refine ev_iload (pc' := 26) dX0_singleRoots_24 rfl rfl ?_
      refine ev_iconst (pc' := 27) (v := 4) dX0_singleRoots_26 rfl ki_4 ?_
      refine ev_icmp_ge (tgt := 80) (pc' := 30) dX0_singleRoots_27 rfl rfl (fun h => absurd h (by decide)) (fun _ => ?_)
      refine ev_iload_n (pc' := 31) (i := 3) dX0_singleRoots_30 rfl rfl rfl ?_
      refine ev_if_eq (tgt := 80) (pc' := 34) dX0_singleRoots_31 rfl rfl (fun _ => ?_) (fun h => absurd (by decide) h)
      refine ev_iload_n (pc' := 81) (i := 2) dX0_singleRoots_80 rfl rfl rfl ?_
      refine ev_iret dX0_singleRoots_81 rfl rfl ⟨Nat.le_refl _, Nat.le_refl _⟩ ?_
      have e : (if (L 13) 0 = 0 then cS1 (cFig (L 13) ((L 12) 5) ((L 12) 6)) else cS0 (cFig (L 13) ((L 12) 5) ((L 12) 6))) = 0 := by rw [if_pos h1, g25]; decide
      rw [e] at k0
      exact k0 _ _ _ _
    · rw [g25] at hr
      subst hr
      refine ev_istore_n (pc' := 21) (i := 3) (lv' := [some (.ref 12), some (.int 1), some (.int 0), some (.int 112), none, none]) dX0_singleRoots_20 rfl rfl (Nat.le_of_ble_eq_true rfl) rfl rfl ?_
      refine ev_iconst (pc' := 22) (v := 0) dX0_singleRoots_21 rfl ki_0 ?_
      refine ev_istore (pc' := 24) (lv' := [some (.ref 12), some (.int 1), some (.int 0), some (.int 112), some (.int 0), none]) dX0_singleRoots_22 rfl (Nat.le_of_ble_eq_true rfl) rfl rfl ?_
      refine ev_iload (pc' := 26) dX0_singleRoots_24 rfl rfl ?_
      refine ev_iconst (pc' := 27) (v := 4) dX0_singleRoots_26 rfl ki_4 ?_
      refine ev_icmp_ge (tgt := 80) (pc' := 30) dX0_singleRoots_27 rfl rfl (fun h => absurd h (by decide)) (fun _ => ?_)
      refine ev_iload_n (pc' := 31) (i := 3) dX0_singleRoots_30 rfl rfl rfl ?_
      refine ev_if_eq (tgt := 80) (pc' := 34) dX0_singleRoots_31 rfl rfl (fun h => absurd h (by decide)) (fun _ => ?_)
      refine ev_iload_n (pc' := 35) (i := 3) dX0_singleRoots_34 rfl rfl rfl ?_
      refine ev_bipush (pc' := 37) (v := 10) dX0_singleRoots_35 rfl kb_10 ?_
      refine ev_irem (pc' := 38) (v := 2) dX0_singleRoots_37 rfl (by decide) (by decide) ?_
      refine ev_istore (pc' := 40) (lv' := [some (.ref 12), some (.int 1), some (.int 0), some (.int 112), some (.int 0), some (.int 2)]) dX0_singleRoots_38 rfl (Nat.le_of_ble_eq_true rfl) rfl rfl ?_
      refine ev_iload_n (pc' := 41) (i := 3) dX0_singleRoots_40 rfl rfl rfl ?_
      refine ev_bipush (pc' := 43) (v := 10) dX0_singleRoots_41 rfl kb_10 ?_
      refine ev_idiv (pc' := 44) (v := 11) dX0_singleRoots_43 rfl (by decide) (by decide) ?_
      refine ev_istore_n (pc' := 45) (i := 3) (lv' := [some (.ref 12), some (.int 1), some (.int 0), some (.int 11), some (.int 0), some (.int 2)]) dX0_singleRoots_44 rfl rfl (Nat.le_of_ble_eq_true rfl) rfl rfl ?_
      refine ev_iload (pc' := 47) dX0_singleRoots_45 rfl rfl ?_
      refine ev_iconst (pc' := 48) (v := 5) dX0_singleRoots_47 rfl ki_5 ?_
      refine ev_icmp_lt (tgt := 54) (pc' := 51) dX0_singleRoots_48 rfl rfl (fun _ => ?_) (fun h => absurd (by decide) h)
      refine ev_iload_n (pc' := 55) (i := 1) dX0_singleRoots_54 rfl rfl rfl ?_
      refine ev_if_eq (tgt := 63) (pc' := 58) dX0_singleRoots_55 rfl rfl (fun h => absurd h (by decide)) (fun _ => ?_)
      refine ev_iconst (pc' := 59) (v := 0) dX0_singleRoots_58 rfl ki_0 ?_
      refine ev_istore_n (pc' := 60) (i := 1) (lv' := [some (.ref 12), some (.int 0), some (.int 0), some (.int 11), some (.int 0), some (.int 2)]) dX0_singleRoots_59 rfl rfl (Nat.le_of_ble_eq_true rfl) rfl rfl ?_
      refine ev_goto (tgt := 74) dX0_singleRoots_60 rfl ?_
      refine ev_iinc (pc' := 77) (v := 1) (lv' := [some (.ref 12), some (.int 0), some (.int 0), some (.int 11), some (.int 1), some (.int 2)]) dX0_singleRoots_74 rfl rfl (by decide) (Nat.le_of_ble_eq_true rfl) rfl rfl ?_
      refine ev_goto (tgt := 24) dX0_singleRoots_77 rfl ?_
      refine ev_iload (pc' := 26) dX0_singleRoots_24 rfl rfl ?_
      refine ev_iconst (pc' := 27) (v := 4) dX0_singleRoots_26 rfl ki_4 ?_
      refine ev_icmp_ge (tgt := 80) (pc' := 30) dX0_singleRoots_27 rfl rfl (fun h => absurd h (by decide)) (fun _ => ?_)
      refine ev_iload_n (pc' := 31) (i := 3) dX0_singleRoots_30 rfl rfl rfl ?_
      refine ev_if_eq (tgt := 80) (pc' := 34) dX0_singleRoots_31 rfl rfl (fun h => absurd h (by decide)) (fun _ => ?_)
      refine ev_iload_n (pc' := 35) (i := 3) dX0_singleRoots_34 rfl rfl rfl ?_
      refine ev_bipush (pc' := 37) (v := 10) dX0_singleRoots_35 rfl kb_10 ?_
      refine ev_irem (pc' := 38) (v := 1) dX0_singleRoots_37 rfl (by decide) (by decide) ?_
      refine ev_istore (pc' := 40) (lv' := [some (.ref 12), some (.int 0), some (.int 0), some (.int 11), some (.int 1), some (.int 1)]) dX0_singleRoots_38 rfl (Nat.le_of_ble_eq_true rfl) rfl rfl ?_
      refine ev_iload_n (pc' := 41) (i := 3) dX0_singleRoots_40 rfl rfl rfl ?_
      refine ev_bipush (pc' := 43) (v := 10) dX0_singleRoots_41 rfl kb_10 ?_
      refine ev_idiv (pc' := 44) (v := 1) dX0_singleRoots_43 rfl (by decide) (by decide) ?_
      refine ev_istore_n (pc' := 45) (i := 3) (lv' := [some (.ref 12), some (.int 0), some (.int 0), some (.int 1), some (.int 1), some (.int 1)]) dX0_singleRoots_44 rfl rfl (Nat.le_of_ble_eq_true rfl) rfl rfl ?_
      refine ev_iload (pc' := 47) dX0_singleRoots_45 rfl rfl ?_
      refine ev_iconst (pc' := 48) (v := 5) dX0_singleRoots_47 rfl ki_5 ?_
      refine ev_icmp_lt (tgt := 54) (pc' := 51) dX0_singleRoots_48 rfl rfl (fun _ => ?_) (fun h => absurd (by decide) h)
      refine ev_iload_n (pc' := 55) (i := 1) dX0_singleRoots_54 rfl rfl rfl ?_
      refine ev_if_eq (tgt := 63) (pc' := 58) dX0_singleRoots_55 rfl rfl (fun _ => ?_) (fun h => absurd (by decide) h)
      refine ev_iload (pc' := 65) dX0_singleRoots_63 rfl rfl ?_
      refine ev_iconst (pc' := 66) (v := 1) dX0_singleRoots_65 rfl ki_1 ?_
      refine ev_icmp_le (tgt := 71) (pc' := 69) dX0_singleRoots_66 rfl rfl (fun _ => ?_) (fun h => absurd (by decide) h)
      refine ev_iinc (pc' := 74) (v := 1) (lv' := [some (.ref 12), some (.int 0), some (.int 1), some (.int 1), some (.int 1), some (.int 1)]) dX0_singleRoots_71 rfl rfl (by decide) (Nat.le_of_ble_eq_true rfl) rfl rfl ?_
      refine ev_iinc (pc' := 77) (v := 2) (lv' := [some (.ref 12), some (.int 0), some (.int 1), some (.int 1), some (.int 2), some (.int 1)]) dX0_singleRoots_74 rfl rfl (by decide) (Nat.le_of_ble_eq_true rfl) rfl rfl ?_
      refine ev_goto (tgt := 24) dX0_singleRoots_77 rfl ?_
      refine ev_iload (pc' := 26) dX0_singleRoots_24 rfl rfl ?_
      refine ev_iconst (pc' := 27) (v := 4) dX0_singleRoots_26 rfl ki_4 ?_
      refine ev_icmp_ge (tgt := 80) (pc' := 30) dX0_singleRoots_27 rfl rfl (fun h => absurd h (by decide)) (fun _ => ?_)
      refine ev_iload_n (pc' := 31) (i := 3) dX0_singleRoots_30 rfl rfl rfl ?_
      refine ev_if_eq (tgt := 80) (pc' := 34) dX0_singleRoots_31 rfl rfl (fun h => absurd h (by decide)) (fun _ => ?_)
      refine ev_iload_n (pc' := 35) (i := 3) dX0_singleRoots_34 rfl rfl rfl ?_
      refine ev_bipush (pc' := 37) (v := 10) dX0_singleRoots_35 rfl kb_10 ?_
      refine ev_irem (pc' := 38) (v := 1) dX0_singleRoots_37 rfl (by decide) (by decide) ?_
      refine ev_istore (pc' := 40) (lv' := [some (.ref 12), some (.int 0), some (.int 1), some (.int 1), some (.int 2), some (.int 1)]) dX0_singleRoots_38 rfl (Nat.le_of_ble_eq_true rfl) rfl rfl ?_
      refine ev_iload_n (pc' := 41) (i := 3) dX0_singleRoots_40 rfl rfl rfl ?_
      refine ev_bipush (pc' := 43) (v := 10) dX0_singleRoots_41 rfl kb_10 ?_
      refine ev_idiv (pc' := 44) (v := 0) dX0_singleRoots_43 rfl (by decide) (by decide) ?_
      refine ev_istore_n (pc' := 45) (i := 3) (lv' := [some (.ref 12), some (.int 0), some (.int 1), some (.int 0), some (.int 2), some (.int 1)]) dX0_singleRoots_44 rfl rfl (Nat.le_of_ble_eq_true rfl) rfl rfl ?_
      refine ev_iload (pc' := 47) dX0_singleRoots_45 rfl rfl ?_
      refine ev_iconst (pc' := 48) (v := 5) dX0_singleRoots_47 rfl ki_5 ?_
      refine ev_icmp_lt (tgt := 54) (pc' := 51) dX0_singleRoots_48 rfl rfl (fun _ => ?_) (fun h => absurd (by decide) h)
      refine ev_iload_n (pc' := 55) (i := 1) dX0_singleRoots_54 rfl rfl rfl ?_
      refine ev_if_eq (tgt := 63) (pc' := 58) dX0_singleRoots_55 rfl rfl (fun _ => ?_) (fun h => absurd (by decide) h)
      refine ev_iload (pc' := 65) dX0_singleRoots_63 rfl rfl ?_
      refine ev_iconst (pc' := 66) (v := 1) dX0_singleRoots_65 rfl ki_1 ?_
      refine ev_icmp_le (tgt := 71) (pc' := 69) dX0_singleRoots_66 rfl rfl (fun _ => ?_) (fun h => absurd (by decide) h)
      refine ev_iinc (pc' := 74) (v := 2) (lv' := [some (.ref 12), some (.int 0), some (.int 2), some (.int 0), some (.int 2), some (.int 1)]) dX0_singleRoots_71 rfl rfl (by decide) (Nat.le_of_ble_eq_true rfl) rfl rfl ?_
      refine ev_iinc (pc' := 77) (v := 3) (lv' := [some (.ref 12), some (.int 0), some (.int 2), some (.int 0), some (.int 3), some (.int 1)]) dX0_singleRoots_74 rfl rfl (by decide) (Nat.le_of_ble_eq_true rfl) rfl rfl ?_
      refine ev_goto (tgt := 24) dX0_singleRoots_77 rfl ?_
      refine ev_iload (pc' := 26) dX0_singleRoots_24 rfl rfl ?_
      refine ev_iconst (pc' := 27) (v := 4) dX0_singleRoots_26 rfl ki_4 ?_
      refine ev_icmp_ge (tgt := 80) (pc' := 30) dX0_singleRoots_27 rfl rfl (fun h => absurd h (by decide)) (fun _ => ?_)
      refine ev_iload_n (pc' := 31) (i := 3) dX0_singleRoots_30 rfl rfl rfl ?_
      refine ev_if_eq (tgt := 80) (pc' := 34) dX0_singleRoots_31 rfl rfl (fun _ => ?_) (fun h => absurd (by decide) h)
      refine ev_iload_n (pc' := 81) (i := 2) dX0_singleRoots_80 rfl rfl rfl ?_
      refine ev_iret dX0_singleRoots_81 rfl rfl ⟨Nat.le_refl _, Nat.le_refl _⟩ ?_
      have e : (if (L 13) 0 = 0 then cS1 (cFig (L 13) ((L 12) 5) ((L 12) 6)) else cS0 (cFig (L 13) ((L 12) 5) ((L 12) 6))) = 2 := by rw [if_pos h1, g25]; decide
      rw [e] at k0
      exact k0 _ _ _ _
    · rw [g25] at hr
      subst hr
      refine ev_istore_n (pc' := 21) (i := 3) (lv' := [some (.ref 12), some (.int 1), some (.int 0), some (.int 115), none, none]) dX0_singleRoots_20 rfl rfl (Nat.le_of_ble_eq_true rfl) rfl rfl ?_
      refine ev_iconst (pc' := 22) (v := 0) dX0_singleRoots_21 rfl ki_0 ?_
      refine ev_istore (pc' := 24) (lv' := [some (.ref 12), some (.int 1), some (.int 0), some (.int 115), some (.int 0), none]) dX0_singleRoots_22 rfl (Nat.le_of_ble_eq_true rfl) rfl rfl ?_
      refine ev_iload (pc' := 26) dX0_singleRoots_24 rfl rfl ?_
      refine ev_iconst (pc' := 27) (v := 4) dX0_singleRoots_26 rfl ki_4 ?_
      refine ev_icmp_ge (tgt := 80) (pc' := 30) dX0_singleRoots_27 rfl rfl (fun h => absurd h (by decide)) (fun _ => ?_)
      refine ev_iload_n (pc' := 31) (i := 3) dX0_singleRoots_30 rfl rfl rfl ?_
      refine ev_if_eq (tgt := 80) (pc' := 34) dX0_singleRoots_31 rfl rfl (fun h => absurd h (by decide)) (fun _ => ?_)
      refine ev_iload_n (pc' := 35) (i := 3) dX0_singleRoots_34 rfl rfl rfl ?_
      refine ev_bipush (pc' := 37) (v := 10) dX0_singleRoots_35 rfl kb_10 ?_
      refine ev_irem (pc' := 38) (v := 5) dX0_singleRoots_37 rfl (by decide) (by decide) ?_
      refine ev_istore (pc' := 40) (lv' := [some (.ref 12), some (.int 1), some (.int 0), some (.int 115), some (.int 0), some (.int 5)]) dX0_singleRoots_38 rfl (Nat.le_of_ble_eq_true rfl) rfl rfl ?_
      refine ev_iload_n (pc' := 41) (i := 3) dX0_singleRoots_40 rfl rfl rfl ?_
      refine ev_bipush (pc' := 43) (v := 10) dX0_singleRoots_41 rfl kb_10 ?_
      refine ev_idiv (pc' := 44) (v := 11) dX0_singleRoots_43 rfl (by decide) (by decide) ?_
      refine ev_istore_n (pc' := 45) (i := 3) (lv' := [some (.ref 12), some (.int 1), some (.int 0), some (.int 11), some (.int 0), some (.int 5)]) dX0_singleRoots_44 rfl rfl (Nat.le_of_ble_eq_true rfl) rfl rfl ?_
      refine ev_iload (pc' := 47) dX0_singleRoots_45 rfl rfl ?_
      refine ev_iconst (pc' := 48) (v := 5) dX0_singleRoots_47 rfl ki_5 ?_
      refine ev_icmp_lt (tgt := 54) (pc' := 51) dX0_singleRoots_48 rfl rfl (fun h => absurd h (by decide)) (fun _ => ?_)
      refine ev_goto (tgt := 74) dX0_singleRoots_51 rfl ?_
      refine ev_iinc (pc' := 77) (v := 1) (lv' := [some (.ref 12), some (.int 1), some (.int 0), some (.int 11), some (.int 1), some (.int 5)]) dX0_singleRoots_74 rfl rfl (by decide) (Nat.le_of_ble_eq_true rfl) rfl rfl ?_
      refine ev_goto (tgt := 24) dX0_singleRoots_77 rfl ?_
      refine ev_iload (pc' := 26) dX0_singleRoots_24 rfl rfl ?_
      refine ev_iconst (pc' := 27) (v := 4) dX0_singleRoots_26 rfl ki_4 ?_
      refine ev_icmp_ge (tgt := 80) (pc' := 30) dX0_singleRoots_27 rfl rfl (fun h => absurd h (by decide)) (fun _ => ?_)
      refine ev_iload_n (pc' := 31) (i := 3) dX0_singleRoots_30 rfl rfl rfl ?_
      refine ev_if_eq (tgt := 80) (pc' := 34) dX0_singleRoots_31 rfl rfl (fun h => absurd h (by decide)) (fun _ => ?_)
      refine ev_iload_n (pc' := 35) (i := 3) dX0_singleRoots_34 rfl rfl rfl ?_
      refine ev_bipush (pc' := 37) (v := 10) dX0_singleRoots_35 rfl kb_10 ?_
      refine ev_irem (pc' := 38) (v := 1) dX0_singleRoots_37 rfl (by decide) (by decide) ?_
      refine ev_istore (pc' := 40) (lv' := [some (.ref 12), some (.int 1), some (.int 0), some (.int 11), some (.int 1), some (.int 1)]) dX0_singleRoots_38 rfl (Nat.le_of_ble_eq_true rfl) rfl rfl ?_
      refine ev_iload_n (pc' := 41) (i := 3) dX0_singleRoots_40 rfl rfl rfl ?_
      refine ev_bipush (pc' := 43) (v := 10) dX0_singleRoots_41 rfl kb_10 ?_
      refine ev_idiv (pc' := 44) (v := 1) dX0_singleRoots_43 rfl (by decide) (by decide) ?_
      refine ev_istore_n (pc' := 45) (i := 3) (lv' := [some (.ref 12), some (.int 1), some (.int 0), some (.int 1), some (.int 1), some (.int 1)]) dX0_singleRoots_44 rfl rfl (Nat.le_of_ble_eq_true rfl) rfl rfl ?_
      refine ev_iload (pc' := 47) dX0_singleRoots_45 rfl rfl ?_
      refine ev_iconst (pc' := 48) (v := 5) dX0_singleRoots_47 rfl ki_5 ?_
      refine ev_icmp_lt (tgt := 54) (pc' := 51) dX0_singleRoots_48 rfl rfl (fun _ => ?_) (fun h => absurd (by decide) h)
      refine ev_iload_n (pc' := 55) (i := 1) dX0_singleRoots_54 rfl rfl rfl ?_
      refine ev_if_eq (tgt := 63) (pc' := 58) dX0_singleRoots_55 rfl rfl (fun h => absurd h (by decide)) (fun _ => ?_)
      refine ev_iconst (pc' := 59) (v := 0) dX0_singleRoots_58 rfl ki_0 ?_
      refine ev_istore_n (pc' := 60) (i := 1) (lv' := [some (.ref 12), some (.int 0), some (.int 0), some (.int 1), some (.int 1), some (.int 1)]) dX0_singleRoots_59 rfl rfl (Nat.le_of_ble_eq_true rfl) rfl rfl ?_
      refine ev_goto (tgt := 74) dX0_singleRoots_60 rfl ?_
      refine ev_iinc (pc' := 77) (v := 2) (lv' := [some (.ref 12), some (.int 0), some (.int 0), some (.int 1), some (.int 2), some (.int 1)]) dX0_singleRoots_74 rfl rfl (by decide) (Nat.le_of_ble_eq_true rfl) rfl rfl ?_
      refine ev_goto (tgt := 24) dX0_singleRoots_77 rfl ?_
      refine ev_iload (pc' := 26) dX0_singleRoots_24 rfl rfl ?_
      refine ev_iconst (pc' := 27) (v := 4) dX0_singleRoots_26 rfl ki_4 ?_
      refine ev_icmp_ge (tgt := 80) (pc' := 30) dX0_singleRoots_27 rfl rfl (fun h => absurd h (by decide)) (fun _ => ?_)
      refine ev_iload_n (pc' := 31) (i := 3) dX0_singleRoots_30 rfl rfl rfl ?_
      refine ev_if_eq (tgt := 80) (pc' := 34) dX0_singleRoots_31 rfl rfl (fun h => absurd h (by decide)) (fun _ => ?_)
      refine ev_iload_n (pc' := 35) (i := 3) dX0_singleRoots_34 rfl rfl rfl ?_
      refine ev_bipush (pc' := 37) (v := 10) dX0_singleRoots_35 rfl kb_10 ?_
      refine ev_irem (pc' := 38) (v := 1) dX0_singleRoots_37 rfl (by decide) (by decide) ?_
      refine ev_istore (pc' := 40) (lv' := [some (.ref 12), some (.int 0), some (.int 0), some (.int 1), some (.int 2), some (.int 1)]) dX0_singleRoots_38 rfl (Nat.le_of_ble_eq_true rfl) rfl rfl ?_
      refine ev_iload_n (pc' := 41) (i := 3) dX0_singleRoots_40 rfl rfl rfl ?_
      refine ev_bipush (pc' := 43) (v := 10) dX0_singleRoots_41 rfl kb_10 ?_
      refine ev_idiv (pc' := 44) (v := 0) dX0_singleRoots_43 rfl (by decide) (by decide) ?_
      refine ev_istore_n (pc' := 45) (i := 3) (lv' := [some (.ref 12), some (.int 0), some (.int 0), some (.int 0), some (.int 2), some (.int 1)]) dX0_singleRoots_44 rfl rfl (Nat.le_of_ble_eq_true rfl) rfl rfl ?_
      refine ev_iload (pc' := 47) dX0_singleRoots_45 rfl rfl ?_
      refine ev_iconst (pc' := 48) (v := 5) dX0_singleRoots_47 rfl ki_5 ?_
      refine ev_icmp_lt (tgt := 54) (pc' := 51) dX0_singleRoots_48 rfl rfl (fun _ => ?_) (fun h => absurd (by decide) h)
      refine ev_iload_n (pc' := 55) (i := 1) dX0_singleRoots_54 rfl rfl rfl ?_
      refine ev_if_eq (tgt := 63) (pc' := 58) dX0_singleRoots_55 rfl rfl (fun _ => ?_) (fun h => absurd (by decide) h)
      refine ev_iload (pc' := 65) dX0_singleRoots_63 rfl rfl ?_
      refine ev_iconst (pc' := 66) (v := 1) dX0_singleRoots_65 rfl ki_1 ?_
      refine ev_icmp_le (tgt := 71) (pc' := 69) dX0_singleRoots_66 rfl rfl (fun _ => ?_) (fun h => absurd (by decide) h)
      refine ev_iinc (pc' := 74) (v := 1) (lv' := [some (.ref 12), some (.int 0), some (.int 1), some (.int 0), some (.int 2), some (.int 1)]) dX0_singleRoots_71 rfl rfl (by decide) (Nat.le_of_ble_eq_true rfl) rfl rfl ?_
      refine ev_iinc (pc' := 77) (v := 3) (lv' := [some (.ref 12), some (.int 0), some (.int 1), some (.int 0), some (.int 3), some (.int 1)]) dX0_singleRoots_74 rfl rfl (by decide) (Nat.le_of_ble_eq_true rfl) rfl rfl ?_
      refine ev_goto (tgt := 24) dX0_singleRoots_77 rfl ?_
      refine ev_iload (pc' := 26) dX0_singleRoots_24 rfl rfl ?_
      refine ev_iconst (pc' := 27) (v := 4) dX0_singleRoots_26 rfl ki_4 ?_
      refine ev_icmp_ge (tgt := 80) (pc' := 30) dX0_singleRoots_27 rfl rfl (fun h => absurd h (by decide)) (fun _ => ?_)
      refine ev_iload_n (pc' := 31) (i := 3) dX0_singleRoots_30 rfl rfl rfl ?_
      refine ev_if_eq (tgt := 80) (pc' := 34) dX0_singleRoots_31 rfl rfl (fun _ => ?_) (fun h => absurd (by decide) h)
      refine ev_iload_n (pc' := 81) (i := 2) dX0_singleRoots_80 rfl rfl rfl ?_
      refine ev_iret dX0_singleRoots_81 rfl rfl ⟨Nat.le_refl _, Nat.le_refl _⟩ ?_
      have e : (if (L 13) 0 = 0 then cS1 (cFig (L 13) ((L 12) 5) ((L 12) 6)) else cS0 (cFig (L 13) ((L 12) 5) ((L 12) 6))) = 1 := by rw [if_pos h1, g25]; decide
      rw [e] at k0
      exact k0 _ _ _ _
    · rw [g25] at hr
      subst hr
      refine ev_istore_n (pc' := 21) (i := 3) (lv' := [some (.ref 12), some (.int 1), some (.int 0), some (.int 121), none, none]) dX0_singleRoots_20 rfl rfl (Nat.le_of_ble_eq_true rfl) rfl rfl ?_
      refine ev_iconst (pc' := 22) (v := 0) dX0_singleRoots_21 rfl ki_0 ?_
      refine ev_istore (pc' := 24) (lv' := [some (.ref 12), some (.int 1), some (.int 0), some (.int 121), some (.int 0), none]) dX0_singleRoots_22 rfl (Nat.le_of_ble_eq_true rfl) rfl rfl ?_
      refine ev_iload (pc' := 26) dX0_singleRoots_24 rfl rfl ?_
      refine ev_iconst (pc' := 27) (v := 4) dX0_singleRoots_26 rfl ki_4 ?_
      refine ev_icmp_ge (tgt := 80) (pc' := 30) dX0_singleRoots_27 rfl rfl (fun h => absurd h (by decide)) (fun _ => ?_)
      refine ev_iload_n (pc' := 31) (i := 3) dX0_singleRoots_30 rfl rfl rfl ?_
      refine ev_if_eq (tgt := 80) (pc' := 34) dX0_singleRoots_31 rfl rfl (fun h => absurd h (by decide)) (fun _ => ?_)
      refine ev_iload_n (pc' := 35) (i := 3) dX0_singleRoots_34 rfl rfl rfl ?_
      refine ev_bipush (pc' := 37) (v := 10) dX0_singleRoots_35 rfl kb_10 ?_
      refine ev_irem (pc' := 38) (v := 1) dX0_singleRoots_37 rfl (by decide) (by decide) ?_
      refine ev_istore (pc' := 40) (lv' := [some (.ref 12), some (.int 1), some (.int 0), some (.int 121), some (.int 0), some (.int 1)]) dX0_singleRoots_38 rfl (Nat.le_of_ble_eq_true rfl) rfl rfl ?_
      refine ev_iload_n (pc' := 41) (i := 3) dX0_singleRoots_40 rfl rfl rfl ?_
      refine ev_bipush (pc' := 43) (v := 10) dX0_singleRoots_41 rfl kb_10 ?_
      refine ev_idiv (pc' := 44) (v := 12) dX0_singleRoots_43 rfl (by decide) (by decide) ?_
      refine ev_istore_n (pc' := 45) (i := 3) (lv' := [some (.ref 12), some (.int 1), some (.int 0), some (.int 12), some (.int 0), some (.int 1)]) dX0_singleRoots_44 rfl rfl (Nat.le_of_ble_eq_true rfl) rfl rfl ?_
      refine ev_iload (pc' := 47) dX0_singleRoots_45 rfl rfl ?_
      refine ev_iconst (pc' := 48) (v := 5) dX0_singleRoots_47 rfl ki_5 ?_
      refine ev_icmp_lt (tgt := 54) (pc' := 51) dX0_singleRoots_48 rfl rfl (fun _ => ?_) (fun h => absurd (by decide) h)
      refine ev_iload_n (pc' := 55) (i := 1) dX0_singleRoots_54 rfl rfl rfl ?_
      refine ev_if_eq (tgt := 63) (pc' := 58) dX0_singleRoots_55 rfl rfl (fun h => absurd h (by decide)) (fun _ => ?_)
      refine ev_iconst (pc' := 59) (v := 0) dX0_singleRoots_58 rfl ki_0 ?_
      refine ev_istore_n (pc' := 60) (i := 1) (lv' := [some (.ref 12), some (.int 0), some (.int 0), some (.int 12), some (.int 0), some (.int 1)]) dX0_singleRoots_59 rfl rfl (Nat.le_of_ble_eq_true rfl) rfl rfl ?_
      refine ev_goto (tgt := 74) dX0_singleRoots_60 rfl ?_
      refine ev_iinc (pc' := 77) (v := 1) (lv' := [some (.ref 12), some (.int 0), some (.int 0), some (.int 12), some (.int 1), some (.int 1)]) dX0_singleRoots_74 rfl rfl (by decide) (Nat.le_of_ble_eq_true rfl) rfl rfl ?_
      refine ev_goto (tgt := 24) dX0_singleRoots_77 rfl ?_
      refine ev_iload (pc' := 26) dX0_singleRoots_24 rfl rfl ?_
      refine ev_iconst (pc' := 27) (v := 4) dX0_singleRoots_26 rfl ki_4 ?_
      refine ev_icmp_ge (tgt := 80) (pc' := 30) dX0_singleRoots_27 rfl rfl (fun h => absurd h (by decide)) (fun _ => ?_)
      refine ev_iload_n (pc' := 31) (i := 3) dX0_singleRoots_30 rfl rfl rfl ?_
      refine ev_if_eq (tgt := 80) (pc' := 34) dX0_singleRoots_31 rfl rfl (fun h => absurd h (by decide)) (fun _ => ?_)
      refine ev_iload_n (pc' := 35) (i := 3) dX0_singleRoots_34 rfl rfl rfl ?_
      refine ev_bipush (pc' := 37) (v := 10) dX0_singleRoots_35 rfl kb_10 ?_
      refine ev_irem (pc' := 38) (v := 2) dX0_singleRoots_37 rfl (by decide) (by decide) ?_
      refine ev_istore (pc' := 40) (lv' := [some (.ref 12), some (.int 0), some (.int 0), some (.int 12), some (.int 1), some (.int 2)]) dX0_singleRoots_38 rfl (Nat.le_of_ble_eq_true rfl) rfl rfl ?_
      refine ev_iload_n (pc' := 41) (i := 3) dX0_singleRoots_40 rfl rfl rfl ?_
      refine ev_bipush (pc' := 43) (v := 10) dX0_singleRoots_41 rfl kb_10 ?_
      refine ev_idiv (pc' := 44) (v := 1) dX0_singleRoots_43 rfl (by decide) (by decide) ?_
      refine ev_istore_n (pc' := 45) (i := 3) (lv' := [some (.ref 12), some (.int 0), some (.int 0), some (.int 1), some (.int 1), some (.int 2)]) dX0_singleRoots_44 rfl rfl (Nat.le_of_ble_eq_true rfl) rfl rfl ?_
      refine ev_iload (pc' := 47) dX0_singleRoots_45 rfl rfl ?_
      refine ev_iconst (pc' := 48) (v := 5) dX0_singleRoots_47 rfl ki_5 ?_
      refine ev_icmp_lt (tgt := 54) (pc' := 51) dX0_singleRoots_48 rfl rfl (fun _ => ?_) (fun h => absurd (by decide) h)
      refine ev_iload_n (pc' := 55) (i := 1) dX0_singleRoots_54 rfl rfl rfl ?_
      refine ev_if_eq (tgt := 63) (pc' := 58) dX0_singleRoots_55 rfl rfl (fun _ => ?_) (fun h => absurd (by decide) h)
      refine ev_iload (pc' := 65) dX0_singleRoots_63 rfl rfl ?_
      refine ev_iconst (pc' := 66) (v := 1) dX0_singleRoots_65 rfl ki_1 ?_
      refine ev_icmp_le (tgt := 71) (pc' := 69) dX0_singleRoots_66 rfl rfl (fun h => absurd h (by decide)) (fun _ => ?_)
      refine ev_iconst (pc' := 70) (v := (-1)) dX0_singleRoots_69 rfl ki_m1 ?_
      refine ev_iret dX0_singleRoots_70 rfl rfl ⟨Nat.le_refl _, Nat.le_refl _⟩ ?_
      have e : (if (L 13) 0 = 0 then cS1 (cFig (L 13) ((L 12) 5) ((L 12) 6)) else cS0 (cFig (L 13) ((L 12) 5) ((L 12) 6))) = (-1) := by rw [if_pos h1, g25]; decide
      rw [e] at k0
      exact k0 _ _ _ _
    · rw [g25] at hr
      subst hr
      refine ev_istore_n (pc' := 21) (i := 3) (lv' := [some (.ref 12), some (.int 1), some (.int 0), some (.int 211), none, none]) dX0_singleRoots_20 rfl rfl (Nat.le_of_ble_eq_true rfl) rfl rfl ?_
      refine ev_iconst (pc' := 22) (v := 0) dX0_singleRoots_21 rfl ki_0 ?_
      refine ev_istore (pc' := 24) (lv' := [some (.ref 12), some (.int 1), some (.int 0), some (.int 211), some (.int 0), none]) dX0_singleRoots_22 rfl (Nat.le_of_ble_eq_true rfl) rfl rfl ?_
      refine ev_iload (pc' := 26) dX0_singleRoots_24 rfl rfl ?_
      refine ev_iconst (pc' := 27) (v := 4) dX0_singleRoots_26 rfl ki_4 ?_
      refine ev_icmp_ge (tgt := 80) (pc' := 30) dX0_singleRoots_27 rfl rfl (fun h => absurd h (by decide)) (fun _ => ?_)
      refine ev_iload_n (pc' := 31) (i := 3) dX0_singleRoots_30 rfl rfl rfl ?_
      refine ev_if_eq (tgt := 80) (pc' := 34) dX0_singleRoots_31 rfl rfl (fun h => absurd h (by decide)) (fun _ => ?_)
      refine ev_iload_n (pc' := 35) (i := 3) dX0_singleRoots_34 rfl rfl rfl ?_
      refine ev_bipush (pc' := 37) (v := 10) dX0_singleRoots_35 rfl kb_10 ?_
      refine ev_irem (pc' := 38) (v := 1) dX0_singleRoots_37 rfl (by decide) (by decide) ?_
      refine ev_istore (pc' := 40) (lv' := [some (.ref 12), some (.int 1), some (.int 0), some (.int 211), some (.int 0), some (.int 1)]) dX0_singleRoots_38 rfl (Nat.le_of_ble_eq_true rfl) rfl rfl ?_
      refine ev_iload_n (pc' := 41) (i := 3) dX0_singleRoots_40 rfl rfl rfl ?_
      refine ev_bipush (pc' := 43) (v := 10) dX0_singleRoots_41 rfl kb_10 ?_
      refine ev_idiv (pc' := 44) (v := 21) dX0_singleRoots_43 rfl (by decide) (by decide) ?_
      refine ev_istore_n (pc' := 45) (i := 3) (lv' := [some (.ref 12), some (.int 1), some (.int 0), some (.int 21), some (.int 0), some (.int 1)]) dX0_singleRoots_44 rfl rfl (Nat.le_of_ble_eq_true rfl) rfl rfl ?_
      refine ev_iload (pc' := 47) dX0_singleRoots_45 rfl rfl ?_
      refine ev_iconst (pc' := 48) (v := 5) dX0_singleRoots_47 rfl ki_5 ?_
      refine ev_icmp_lt (tgt := 54) (pc' := 51) dX0_singleRoots_48 rfl rfl (fun _ => ?_) (fun h => absurd (by decide) h)
      refine ev_iload_n (pc' := 55) (i := 1) dX0_singleRoots_54 rfl rfl rfl ?_
      refine ev_if_eq (tgt := 63) (pc' := 58) dX0_singleRoots_55 rfl rfl (fun h => absurd h (by decide)) (fun _ => ?_)
      refine ev_iconst (pc' := 59) (v := 0) dX0_singleRoots_58 rfl ki_0 ?_
      refine ev_istore_n (pc' := 60) (i := 1) (lv' := [some (.ref 12), some (.int 0), some (.int 0), some (.int 21), some (.int 0), some (.int 1)]) dX0_singleRoots_59 rfl rfl (Nat.le_of_ble_eq_true rfl) rfl rfl ?_
      refine ev_goto (tgt := 74) dX0_singleRoots_60 rfl ?_
      refine ev_iinc (pc' := 77) (v := 1) (lv' := [some (.ref 12), some (.int 0), some (.int 0), some (.int 21), some (.int 1), some (.int 1)]) dX0_singleRoots_74 rfl rfl (by decide) (Nat.le_of_ble_eq_true rfl) rfl rfl ?_
      refine ev_goto (tgt := 24) dX0_singleRoots_77 rfl ?_
      refine ev_iload (pc' := 26) dX0_singleRoots_24 rfl rfl ?_
      refine ev_iconst (pc' := 27) (v := 4) dX0_singleRoots_26 rfl ki_4 ?_
      refine ev_icmp_ge (tgt := 80) (pc' := 30) dX0_singleRoots_27 rfl rfl (fun h => absurd h (by decide)) (fun _ => ?_)
      refine ev_iload_n (pc' := 31) (i := 3) dX0_singleRoots_30 rfl rfl rfl ?_
      refine ev_if_eq (tgt := 80) (pc' := 34) dX0_singleRoots_31 rfl rfl (fun h => absurd h (by decide)) (fun _ => ?_)
      refine ev_iload_n (pc' := 35) (i := 3) dX0_singleRoots_34 rfl rfl rfl ?_
      refine ev_bipush (pc' := 37) (v := 10) dX0_singleRoots_35 rfl kb_10 ?_
      refine ev_irem (pc' := 38) (v := 1) dX0_singleRoots_37 rfl (by decide) (by decide) ?_
      refine ev_istore (pc' := 40) (lv' := [some (.ref 12), some (.int 0), some (.int 0), some (.int 21), some (.int 1), some (.int 1)]) dX0_singleRoots_38 rfl (Nat.le_of_ble_eq_true rfl) rfl rfl ?_
      refine ev_iload_n (pc' := 41) (i := 3) dX0_singleRoots_40 rfl rfl rfl ?_
      refine ev_bipush (pc' := 43) (v := 10) dX0_singleRoots_41 rfl kb_10 ?_
      refine ev_idiv (pc' := 44) (v := 2) dX0_singleRoots_43 rfl (by decide) (by decide) ?_
      refine ev_istore_n (pc' := 45) (i := 3) (lv' := [some (.ref 12), some (.int 0), some (.int 0), some (.int 2), some (.int 1), some (.int 1)]) dX0_singleRoots_44 rfl rfl (Nat.le_of_ble_eq_true rfl) rfl rfl ?_
      refine ev_iload (pc' := 47) dX0_singleRoots_45 rfl rfl ?_
      refine ev_iconst (pc' := 48) (v := 5) dX0_singleRoots_47 rfl ki_5 ?_
      refine ev_icmp_lt (tgt := 54) (pc' := 51) dX0_singleRoots_48 rfl rfl (fun _ => ?_) (fun h => absurd (by decide) h)
      refine ev_iload_n (pc' := 55) (i := 1) dX0_singleRoots_54 rfl rfl rfl ?_
      refine ev_if_eq (tgt := 63) (pc' := 58) dX0_singleRoots_55 rfl rfl (fun _ => ?_) (fun h => absurd (by decide) h)
      refine ev_iload (pc' := 65) dX0_singleRoots_63 rfl rfl ?_
      refine ev_iconst (pc' := 66) (v := 1) dX0_singleRoots_65 rfl ki_1 ?_
      refine ev_icmp_le (tgt := 71) (pc' := 69) dX0_singleRoots_66 rfl rfl (fun _ => ?_) (fun h => absurd (by decide) h)
      refine ev_iinc (pc' := 74) (v := 1) (lv' := [some (.ref 12), some (.int 0), some (.int 1), some (.int 2), some (.int 1), some (.int 1)]) dX0_singleRoots_71 rfl rfl (by decide) (Nat.le_of_ble_eq_true rfl) rfl rfl ?_
      refine ev_iinc (pc' := 77) (v := 2) (lv' := [some (.ref 12), some (.int 0), some (.int 1), some (.int 2), some (.int 2), some (.int 1)]) dX0_singleRoots_74 rfl rfl (by decide) (Nat.le_of_ble_eq_true rfl) rfl rfl ?_
      refine ev_goto (tgt := 24) dX0_singleRoots_77 rfl ?_
      refine ev_iload (pc' := 26) dX0_singleRoots_24 rfl rfl ?_
      refine ev_iconst (pc' := 27) (v := 4) dX0_singleRoots_26 rfl ki_4 ?_
      refine ev_icmp_ge (tgt := 80) (pc' := 30) dX0_singleRoots_27 rfl rfl (fun h => absurd h (by decide)) (fun _ => ?_)
      refine ev_iload_n (pc' := 31) (i := 3) dX0_singleRoots_30 rfl rfl rfl ?_
      refine ev_if_eq (tgt := 80) (pc' := 34) dX0_singleRoots_31 rfl rfl (fun h => absurd h (by decide)) (fun _ => ?_)
      refine ev_iload_n (pc' := 35) (i := 3) dX0_singleRoots_34 rfl rfl rfl ?_
      refine ev_bipush (pc' := 37) (v := 10) dX0_singleRoots_35 rfl kb_10 ?_
      refine ev_irem (pc' := 38) (v := 2) dX0_singleRoots_37 rfl (by decide) (by decide) ?_
      refine ev_istore (pc' := 40) (lv' := [some (.ref 12), some (.int 0), some (.int 1), some (.int 2), some (.int 2), some (.int 2)]) dX0_singleRoots_38 rfl (Nat.le_of_ble_eq_true rfl) rfl rfl ?_
      refine ev_iload_n (pc' := 41) (i := 3) dX0_singleRoots_40 rfl rfl rfl ?_
      refine ev_bipush (pc' := 43) (v := 10) dX0_singleRoots_41 rfl kb_10 ?_
      refine ev_idiv (pc' := 44) (v := 0) dX0_singleRoots_43 rfl (by decide) (by decide) ?_
      refine ev_istore_n (pc' := 45) (i := 3) (lv' := [some (.ref 12), some (.int 0), some (.int 1), some (.int 0), some (.int 2), some (.int 2)]) dX0_singleRoots_44 rfl rfl (Nat.le_of_ble_eq_true rfl) rfl rfl ?_
      refine ev_iload (pc' := 47) dX0_singleRoots_45 rfl rfl ?_
      refine ev_iconst (pc' := 48) (v := 5) dX0_singleRoots_47 rfl ki_5 ?_
      refine ev_icmp_lt (tgt := 54) (pc' := 51) dX0_singleRoots_48 rfl rfl (fun _ => ?_) (fun h => absurd (by decide) h)
      refine ev_iload_n (pc' := 55) (i := 1) dX0_singleRoots_54 rfl rfl rfl ?_
      refine ev_if_eq (tgt := 63) (pc' := 58) dX0_singleRoots_55 rfl rfl (fun _ => ?_) (fun h => absurd (by decide) h)
      refine ev_iload (pc' := 65) dX0_singleRoots_63 rfl rfl ?_
      refine ev_iconst (pc' := 66) (v := 1) dX0_singleRoots_65 rfl ki_1 ?_
      refine ev_icmp_le (tgt := 71) (pc' := 69) dX0_singleRoots_66 rfl rfl (fun h => absurd h (by decide)) (fun _ => ?_)
      refine ev_iconst (pc' := 70) (v := (-1)) dX0_singleRoots_69 rfl ki_m1 ?_
      refine ev_iret dX0_singleRoots_70 rfl rfl ⟨Nat.le_refl _, Nat.le_refl _⟩ ?_
      have e : (if (L 13) 0 = 0 then cS1 (cFig (L 13) ((L 12) 5) ((L 12) 6)) else cS0 (cFig (L 13) ((L 12) 5) ((L 12) 6))) = (-1) := by rw [if_pos h1, g25]; decide
      rw [e] at k0
      exact k0 _ _ _ _
    · rw [g25] at hr
      subst hr
      refine ev_istore_n (pc' := 21) (i := 3) (lv' := [some (.ref 12), some (.int 1), some (.int 0), some (.int 1111), none, none]) dX0_singleRoots_20 rfl rfl (Nat.le_of_ble_eq_true rfl) rfl rfl ?_
      refine ev_iconst (pc' := 22) (v := 0) dX0_singleRoots_21 rfl ki_0 ?_
      refine ev_istore (pc' := 24) (lv' := [some (.ref 12), some (.int 1), some (.int 0), some (.int 1111), some (.int 0), none]) dX0_singleRoots_22 rfl (Nat.le_of_ble_eq_true rfl) rfl rfl ?_
      refine ev_iload (pc' := 26) dX0_singleRoots_24 rfl rfl ?_
      refine ev_iconst (pc' := 27) (v := 4) dX0_singleRoots_26 rfl ki_4 ?_
      refine ev_icmp_ge (tgt := 80) (pc' := 30) dX0_singleRoots_27 rfl rfl (fun h => absurd h (by decide)) (fun _ => ?_)
      refine ev_iload_n (pc' := 31) (i := 3) dX0_singleRoots_30 rfl rfl rfl ?_
      refine ev_if_eq (tgt := 80) (pc' := 34) dX0_singleRoots_31 rfl rfl (fun h => absurd h (by decide)) (fun _ => ?_)
      refine ev_iload_n (pc' := 35) (i := 3) dX0_singleRoots_34 rfl rfl rfl ?_
      refine ev_bipush (pc' := 37) (v := 10) dX0_singleRoots_35 rfl kb_10 ?_
      refine ev_irem (pc' := 38) (v := 1) dX0_singleRoots_37 rfl (by decide) (by decide) ?_
      refine ev_istore (pc' := 40) (lv' := [some (.ref 12), some (.int 1), some (.int 0), some (.int 1111), some (.int 0), some (.int 1)]) dX0_singleRoots_38 rfl (Nat.le_of_ble_eq_true rfl) rfl rfl ?_
      refine ev_iload_n (pc' := 41) (i := 3) dX0_singleRoots_40 rfl rfl rfl ?_
      refine ev_bipush (pc' := 43) (v := 10) dX0_singleRoots_41 rfl kb_10 ?_
      refine ev_idiv (pc' := 44) (v := 111) dX0_singleRoots_43 rfl (by decide) (by decide) ?_
      refine ev_istore_n (pc' := 45) (i := 3) (lv' := [some (.ref 12), some (.int 1), some (.int 0), some (.int 111), some (.int 0), some (.int 1)]) dX0_singleRoots_44 rfl rfl (Nat.le_of_ble_eq_true rfl) rfl rfl ?_
      refine ev_iload (pc' := 47) dX0_singleRoots_45 rfl rfl ?_
      refine ev_iconst (pc' := 48) (v := 5) dX0_singleRoots_47 rfl ki_5 ?_
      refine ev_icmp_lt (tgt := 54) (pc' := 51) dX0_singleRoots_48 rfl rfl (fun _ => ?_) (fun h => absurd (by decide) h)
      refine ev_iload_n (pc' := 55) (i := 1) dX0_singleRoots_54 rfl rfl rfl ?_
      refine ev_if_eq (tgt := 63) (pc' := 58) dX0_singleRoots_55 rfl rfl (fun h => absurd h (by decide)) (fun _ => ?_)
      refine ev_iconst (pc' := 59) (v := 0) dX0_singleRoots_58 rfl ki_0 ?_
      refine ev_istore_n (pc' := 60) (i := 1) (lv' := [some (.ref 12), some (.int 0), some (.int 0), some (.int 111), some (.int 0), some (.int 1)]) dX0_singleRoots_59 rfl rfl (Nat.le_of_ble_eq_true rfl) rfl rfl ?_
      refine ev_goto (tgt := 74) dX0_singleRoots_60 rfl ?_
      refine ev_iinc (pc' := 77) (v := 1) (lv' := [some (.ref 12), some (.int 0), some (.int 0), some (.int 111), some (.int 1), some (.int 1)]) dX0_singleRoots_74 rfl rfl (by decide) (Nat.le_of_ble_eq_true rfl) rfl rfl ?_
      refine ev_goto (tgt := 24) dX0_singleRoots_77 rfl ?_
      refine ev_iload (pc' := 26) dX0_singleRoots_24 rfl rfl ?_
      refine ev_iconst (pc' := 27) (v := 4) dX0_singleRoots_26 rfl ki_4 ?_
      refine ev_icmp_ge (tgt := 80) (pc' := 30) dX0_singleRoots_27 rfl rfl (fun h => absurd h (by decide)) (fun _ => ?_)
      refine ev_iload_n (pc' := 31) (i := 3) dX0_singleRoots_30 rfl rfl rfl ?_
      refine ev_if_eq (tgt := 80) (pc' := 34) dX0_singleRoots_31 rfl rfl (fun h => absurd h (by decide)) (fun _ => ?_)
      refine ev_iload_n (pc' := 35) (i := 3) dX0_singleRoots_34 rfl rfl rfl ?_
      refine ev_bipush (pc' := 37) (v := 10) dX0_singleRoots_35 rfl kb_10 ?_
      refine ev_irem (pc' := 38) (v := 1) dX0_singleRoots_37 rfl (by decide) (by decide) ?_
      refine ev_istore (pc' := 40) (lv' := [some (.ref 12), some (.int 0), some (.int 0), some (.int 111), some (.int 1), some (.int 1)]) dX0_singleRoots_38 rfl (Nat.le_of_ble_eq_true rfl) rfl rfl ?_
      refine ev_iload_n (pc' := 41) (i := 3) dX0_singleRoots_40 rfl rfl rfl ?_
      refine ev_bipush (pc' := 43) (v := 10) dX0_singleRoots_41 rfl kb_10 ?_
      refine ev_idiv (pc' := 44) (v := 11) dX0_singleRoots_43 rfl (by decide) (by decide) ?_
      refine ev_istore_n (pc' := 45) (i := 3) (lv' := [some (.ref 12), some (.int 0), some (.int 0), some (.int 11), some (.int 1), some (.int 1)]) dX0_singleRoots_44 rfl rfl (Nat.le_of_ble_eq_true rfl) rfl rfl ?_
      refine ev_iload (pc' := 47) dX0_singleRoots_45 rfl rfl ?_
      refine ev_iconst (pc' := 48) (v := 5) dX0_singleRoots_47 rfl ki_5 ?_
      refine ev_icmp_lt (tgt := 54) (pc' := 51) dX0_singleRoots_48 rfl rfl (fun _ => ?_) (fun h => absurd (by decide) h)
      refine ev_iload_n (pc' := 55) (i := 1) dX0_singleRoots_54 rfl rfl rfl ?_
      refine ev_if_eq (tgt := 63) (pc' := 58) dX0_singleRoots_55 rfl rfl (fun _ => ?_) (fun h => absurd (by decide) h)
      refine ev_iload (pc' := 65) dX0_singleRoots_63 rfl rfl ?_
      refine ev_iconst (pc' := 66) (v := 1) dX0_singleRoots_65 rfl ki_1 ?_
      refine ev_icmp_le (tgt := 71) (pc' := 69) dX0_singleRoots_66 rfl rfl (fun _ => ?_) (fun h => absurd (by decide) h)
      refine ev_iinc (pc' := 74) (v := 1) (lv' := [some (.ref 12), some (.int 0), some (.int 1), some (.int 11), some (.int 1), some (.int 1)]) dX0_singleRoots_71 rfl rfl (by decide) (Nat.le_of_ble_eq_true rfl) rfl rfl ?_
      refine ev_iinc (pc' := 77) (v := 2) (lv' := [some (.ref 12), some (.int 0), some (.int 1), some (.int 11), some (.int 2), some (.int 1)]) dX0_singleRoots_74 rfl rfl (by decide) (Nat.le_of_ble_eq_true rfl) rfl rfl ?_
      refine ev_goto (tgt := 24) dX0_singleRoots_77 rfl ?_
      refine ev_iload (pc' := 26) dX0_singleRoots_24 rfl rfl ?_
      refine ev_iconst (pc' := 27) (v := 4) dX0_singleRoots_26 rfl ki_4 ?_
      refine ev_icmp_ge (tgt := 80) (pc' := 30) dX0_singleRoots_27 rfl rfl (fun h => absurd h (by decide)) (fun _ => ?_)
      refine ev_iload_n (pc' := 31) (i := 3) dX0_singleRoots_30 rfl rfl rfl ?_
      refine ev_if_eq (tgt := 80) (pc' := 34) dX0_singleRoots_31 rfl rfl (fun h => absurd h (by decide)) (fun _ => ?_)
      refine ev_iload_n (pc' := 35) (i := 3) dX0_singleRoots_34 rfl rfl rfl ?_
      refine ev_bipush (pc' := 37) (v := 10) dX0_singleRoots_35 rfl kb_10 ?_
      refine ev_irem (pc' := 38) (v := 1) dX0_singleRoots_37 rfl (by decide) (by decide) ?_
      refine ev_istore (pc' := 40) (lv' := [some (.ref 12), some (.int 0), some (.int 1), some (.int 11), some (.int 2), some (.int 1)]) dX0_singleRoots_38 rfl (Nat.le_of_ble_eq_true rfl) rfl rfl ?_
      refine ev_iload_n (pc' := 41) (i := 3) dX0_singleRoots_40 rfl rfl rfl ?_
      refine ev_bipush (pc' := 43) (v := 10) dX0_singleRoots_41 rfl kb_10 ?_
      refine ev_idiv (pc' := 44) (v := 1) dX0_singleRoots_43 rfl (by decide) (by decide) ?_
      refine ev_istore_n (pc' := 45) (i := 3) (lv' := [some (.ref 12), some (.int 0), some (.int 1), some (.int 1), some (.int 2), some (.int 1)]) dX0_singleRoots_44 rfl rfl (Nat.le_of_ble_eq_true rfl) rfl rfl ?_
      refine ev_iload (pc' := 47) dX0_singleRoots_45 rfl rfl ?_
      refine ev_iconst (pc' := 48) (v := 5) dX0_singleRoots_47 rfl ki_5 ?_
      refine ev_icmp_lt (tgt := 54) (pc' := 51) dX0_singleRoots_48 rfl rfl (fun _ => ?_) (fun h => absurd (by decide) h)
      refine ev_iload_n (pc' := 55) (i := 1) dX0_singleRoots_54 rfl rfl rfl ?_
      refine ev_if_eq (tgt := 63) (pc' := 58) dX0_singleRoots_55 rfl rfl (fun _ => ?_) (fun h => absurd (by decide) h)
      refine ev_iload (pc' := 65) dX0_singleRoots_63 rfl rfl ?_
      refine ev_iconst (pc' := 66) (v := 1) dX0_singleRoots_65 rfl ki_1 ?_
      refine ev_icmp_le (tgt := 71) (pc' := 69) dX0_singleRoots_66 rfl rfl (fun _ => ?_) (fun h => absurd (by decide) h)
      refine ev_iinc (pc' := 74) (v := 2) (lv' := [some (.ref 12), some (.int 0), some (.int 2), some (.int 1), some (.int 2), some (.int 1)]) dX0_singleRoots_71 rfl rfl (by decide) (Nat.le_of_ble_eq_true rfl) rfl rfl ?_
      refine ev_iinc (pc' := 77) (v := 3) (lv' := [some (.ref 12), some (.int 0), some (.int 2), some (.int 1), some (.int 3), some (.int 1)]) dX0_singleRoots_74 rfl rfl (by decide) (Nat.le_of_ble_eq_true rfl) rfl rfl ?_
      refine ev_goto (tgt := 24) dX0_singleRoots_77 rfl ?_
      refine ev_iload (pc' := 26) dX0_singleRoots_24 rfl rfl ?_
      refine ev_iconst (pc' := 27) (v := 4) dX0_singleRoots_26 rfl ki_4 ?_
      refine ev_icmp_ge (tgt := 80) (pc' := 30) dX0_singleRoots_27 rfl rfl (fun h => absurd h (by decide)) (fun _ => ?_)
      refine ev_iload_n (pc' := 31) (i := 3) dX0_singleRoots_30 rfl rfl rfl ?_
      refine ev_if_eq (tgt := 80) (pc' := 34) dX0_singleRoots_31 rfl rfl (fun h => absurd h (by decide)) (fun _ => ?_)
      refine ev_iload_n (pc' := 35) (i := 3) dX0_singleRoots_34 rfl rfl rfl ?_
      refine ev_bipush (pc' := 37) (v := 10) dX0_singleRoots_35 rfl kb_10 ?_
      refine ev_irem (pc' := 38) (v := 1) dX0_singleRoots_37 rfl (by decide) (by decide) ?_
      refine ev_istore (pc' := 40) (lv' := [some (.ref 12), some (.int 0), some (.int 2), some (.int 1), some (.int 3), some (.int 1)]) dX0_singleRoots_38 rfl (Nat.le_of_ble_eq_true rfl) rfl rfl ?_
      refine ev_iload_n (pc' := 41) (i := 3) dX0_singleRoots_40 rfl rfl rfl ?_
      refine ev_bipush (pc' := 43) (v := 10) dX0_singleRoots_41 rfl kb_10 ?_
      refine ev_idiv (pc' := 44) (v := 0) dX0_singleRoots_43 rfl (by decide) (by decide) ?_
      refine ev_istore_n (pc' := 45) (i := 3) (lv' := [some (.ref 12), some (.int 0), some (.int 2), some (.int 0), some (.int 3), some (.int 1)]) dX0_singleRoots_44 rfl rfl (Nat.le_of_ble_eq_true rfl) rfl rfl ?_
      refine ev_iload (pc' := 47) dX0_singleRoots_45 rfl rfl ?_
      refine ev_iconst (pc' := 48) (v := 5) dX0_singleRoots_47 rfl ki_5 ?_
      refine ev_icmp_lt (tgt := 54) (pc' := 51) dX0_singleRoots_48 rfl rfl (fun _ => ?_) (fun h => absurd (by decide) h)
      refine ev_iload_n (pc' := 55) (i := 1) dX0_singleRoots_54 rfl rfl rfl ?_
      refine ev_if_eq (tgt := 63) (pc' := 58) dX0_singleRoots_55 rfl rfl (fun _ => ?_) (fun h => absurd (by decide) h)
      refine ev_iload (pc' := 65) dX0_singleRoots_63 rfl rfl ?_
      refine ev_iconst (pc' := 66) (v := 1) dX0_singleRoots_65 rfl ki_1 ?_
      refine ev_icmp_le (tgt := 71) (pc' := 69) dX0_singleRoots_66 rfl rfl (fun _ => ?_) (fun h => absurd (by decide) h)
      refine ev_iinc (pc' := 74) (v := 3) (lv' := [some (.ref 12), some (.int 0), some (.int 3), some (.int 0), some (.int 3), some (.int 1)]) dX0_singleRoots_71 rfl rfl (by decide) (Nat.le_of_ble_eq_true rfl) rfl rfl ?_
      refine ev_iinc (pc' := 77) (v := 4) (lv' := [some (.ref 12), some (.int 0), some (.int 3), some (.int 0), some (.int 4), some (.int 1)]) dX0_singleRoots_74 rfl rfl (by decide) (Nat.le_of_ble_eq_true rfl) rfl rfl ?_
      refine ev_goto (tgt := 24) dX0_singleRoots_77 rfl ?_
      refine ev_iload (pc' := 26) dX0_singleRoots_24 rfl rfl ?_
      refine ev_iconst (pc' := 27) (v := 4) dX0_singleRoots_26 rfl ki_4 ?_
      refine ev_icmp_ge (tgt := 80) (pc' := 30) dX0_singleRoots_27 rfl rfl (fun _ => ?_) (fun h => absurd (by decide) h)
      refine ev_iload_n (pc' := 81) (i := 2) dX0_singleRoots_80 rfl rfl rfl ?_
      refine ev_iret dX0_singleRoots_81 rfl rfl ⟨Nat.le_refl _, Nat.le_refl _⟩ ?_
      have e : (if (L 13) 0 = 0 then cS1 (cFig (L 13) ((L 12) 5) ((L 12) 6)) else cS0 (cFig (L 13) ((L 12) 5) ((L 12) 6))) = 3 := by rw [if_pos h1, g25]; decide
      rw [e] at k0
      exact k0 _ _ _ _
  · skip
    refine ev_iconst (pc' := 5) (v := 4) dX0_singleRoots_4 rfl ki_4 ?_
    refine ev_icmp_ge (tgt := 12) (pc' := 8) dX0_singleRoots_5 rfl rfl (fun h => absurd h (by decide)) (fun _ => ?_)
    refine ev_iconst (pc' := 9) (v := 1) dX0_singleRoots_8 rfl ki_1 ?_
    refine ev_goto (tgt := 13) dX0_singleRoots_9 rfl ?_
    refine ev_istore_n (pc' := 14) (i := 1) (lv' := [some (.ref 12), some (.int 1), none, none, none, none]) dX0_singleRoots_13 rfl rfl (Nat.le_of_ble_eq_true rfl) rfl rfl ?_
    refine ev_iconst (pc' := 15) (v := 0) dX0_singleRoots_14 rfl ki_0 ?_
    refine ev_istore_n (pc' := 16) (i := 2) (lv' := [some (.ref 12), some (.int 1), some (.int 0), none, none, none]) dX0_singleRoots_15 rfl rfl (Nat.le_of_ble_eq_true rfl) rfl rfl ?_
    refine ev_aload_n (pc' := 17) (i := 0) dX0_singleRoots_16 rfl rfl rfl ?_
    refine ev_callV (pc' := 20) (rm' := rX0_figures) (b := 12) (av := []) (rest := []) co_X0_127 ci_X0_figures cv_X0_figures dX0_singleRoots_17 rfl hs_12 hb_X0 rfl rfl (Nat.le_of_ble_eq_true rfl) ⟨(Nat.le_of_ble_eq_true rfl), (Nat.le_of_ble_eq_true rfl)⟩ ⟨(Nat.le_of_ble_eq_true rfl), (Nat.le_of_ble_eq_true rfl)⟩ ?_
    refine t_X0_figures hI hJ hA hE (fun Y26 Z27 V28 W29 => ?_)
    refine ev_topi (fun r hr => ?_)
    have hr : r = cFig (L 13) ((L 12) 5) ((L 12) 6) := hr
    rcases cFig_v (L 13) ((L 12) 5) ((L 12) 6) with g30 | g30 | g30 | g30 | g30 | g30 | g30 | g30 | g30 | g30 | g30 | g30 | g30
    · rw [g30] at hr
      subst hr
      refine ev_istore_n (pc' := 21) (i := 3) (lv' := [some (.ref 12), some (.int 1), some (.int 0), some (.int 0), none, none]) dX0_singleRoots_20 rfl rfl (Nat.le_of_ble_eq_true rfl) rfl rfl ?_
      refine ev_iconst (pc' := 22) (v := 0) dX0_singleRoots_21 rfl ki_0 ?_
      refine ev_istore (pc' := 24) (lv' := [some (.ref 12), some (.int 1), some (.int 0), some (.int 0), some (.int 0), none]) dX0_singleRoots_22 rfl (Nat.le_of_ble_eq_true rfl) rfl rfl ?_
      refine ev_iload (pc' := 26) dX0_singleRoots_24 rfl rfl ?_
      refine ev_iconst (pc' := 27) (v := 4) dX0_singleRoots_26 rfl ki_4 ?_
      refine ev_icmp_ge (tgt := 80) (pc' := 30) dX0_singleRoots_27 rfl rfl (fun h => absurd h (by decide)) (fun _ => ?_)
      refine ev_iload_n (pc' := 31) (i := 3) dX0_singleRoots_30 rfl rfl rfl ?_
      refine ev_if_eq (tgt := 80) (pc' := 34) dX0_singleRoots_31 rfl rfl (fun _ => ?_) (fun h => absurd (by decide) h)
      refine ev_iload_n (pc' := 81) (i := 2) dX0_singleRoots_80 rfl rfl rfl ?_
      refine ev_iret dX0_singleRoots_81 rfl rfl ⟨Nat.le_refl _, Nat.le_refl _⟩ ?_
      have e : (if (L 13) 0 = 0 then cS1 (cFig (L 13) ((L 12) 5) ((L 12) 6)) else cS0 (cFig (L 13) ((L 12) 5) ((L 12) 6))) = 0 := by rw [if_pos h6, g30]; decide
      rw [e] at k0
      exact k0 _ _ _ _
    · rw [g30] at hr
      subst hr
      refine ev_istore_n (pc' := 21) (i := 3) (lv' := [some (.ref 12), some (.int 1), some (.int 0), some (.int 4), none, none]) dX0_singleRoots_20 rfl rfl (Nat.le_of_ble_eq_true rfl) rfl rfl ?_
      refine ev_iconst (pc' := 22) (v := 0) dX0_singleRoots_21 rfl ki_0 ?_
      refine ev_istore (pc' := 24) (lv' := [some (.ref 12), some (.int 1), some (.int 0), some (.int 4), some (.int 0), none]) dX0_singleRoots_22 rfl (Nat.le_of_ble_eq_true rfl) rfl rfl ?_
      refine ev_iload (pc' := 26) dX0_singleRoots_24 rfl rfl ?_
      refine ev_iconst (pc' := 27) (v := 4) dX0_singleRoots_26 rfl ki_4 ?_
      refine ev_icmp_ge (tgt := 80) (pc' := 30) dX0_singleRoots_27 rfl rfl (fun h => absurd h (by decide)) (fun _ => ?_)
      refine ev_iload_n (pc' := 31) (i := 3) dX0_singleRoots_30 rfl rfl rfl ?_
      refine ev_if_eq (tgt := 80) (pc' := 34) dX0_singleRoots_31 rfl rfl (fun h => absurd h (by decide)) (fun _ => ?_)
      refine ev_iload_n (pc' := 35) (i := 3) dX0_singleRoots_34 rfl rfl rfl ?_
      refine ev_bipush (pc' := 37) (v := 10) dX0_singleRoots_35 rfl kb_10 ?_
      refine ev_irem (pc' := 38) (v := 4) dX0_singleRoots_37 rfl (by decide) (by decide) ?_
      refine ev_istore (pc' := 40) (lv' := [some (.ref 12), some (.int 1), some (.int 0), some (.int 4), some (.int 0), some (.int 4)]) dX0_singleRoots_38 rfl (Nat.le_of_ble_eq_true rfl) rfl rfl ?_
      refine ev_iload_n (pc' := 41) (i := 3) dX0_singleRoots_40 rfl rfl rfl ?_
      refine ev_bipush (pc' := 43) (v := 10) dX0_singleRoots_41 rfl kb_10 ?_
      refine ev_idiv (pc' := 44) (v := 0) dX0_singleRoots_43 rfl (by decide) (by decide) ?_
      refine ev_istore_n (pc' := 45) (i := 3) (lv' := [some (.ref 12), some (.int 1), some (.int 0), some (.int 0), some (.int 0), some (.int 4)]) dX0_singleRoots_44 rfl rfl (Nat.le_of_ble_eq_true rfl) rfl rfl ?_
      refine ev_iload (pc' := 47) dX0_singleRoots_45 rfl rfl ?_
      refine ev_iconst (pc' := 48) (v := 5) dX0_singleRoots_47 rfl ki_5 ?_
      refine ev_icmp_lt (tgt := 54) (pc' := 51) dX0_singleRoots_48 rfl rfl (fun _ => ?_) (fun h => absurd (by decide) h)
      refine ev_iload_n (pc' := 55) (i := 1) dX0_singleRoots_54 rfl rfl rfl ?_
      refine ev_if_eq (tgt := 63) (pc' := 58) dX0_singleRoots_55 rfl rfl (fun h => absurd h (by decide)) (fun _ => ?_)
      refine ev_iconst (pc' := 59) (v := 0) dX0_singleRoots_58 rfl ki_0 ?_
      refine ev_istore_n (pc' := 60) (i := 1) (lv' := [some (.ref 12), some (.int 0), some (.int 0), some (.int 0), some (.int 0), some (.int 4)]) dX0_singleRoots_59 rfl rfl (Nat.le_of_ble_eq_true rfl) rfl rfl ?_
      refine ev_goto (tgt := 74) dX0_singleRoots_60 rfl ?_
      refine ev_iinc (pc' := 77) (v := 1) (lv' := [some (.ref 12), some (.int 0), some (.int 0), some (.int 0), some (.int 1), some (.int 4)]) dX0_singleRoots_74 rfl rfl (by decide) (Nat.le_of_ble_eq_true rfl) rfl rfl ?_
      refine ev_goto (tgt := 24) dX0_singleRoots_77 rfl ?_
      refine ev_iload (pc' := 26) dX0_singleRoots_24 rfl rfl ?_
      refine ev_iconst (pc' := 27) (v := 4) dX0_singleRoots_26 rfl ki_4 ?_
      refine ev_icmp_ge (tgt := 80) (pc' := 30) dX0_singleRoots_27 rfl rfl (fun h => absurd h (by decide)) (fun _ => ?_)
      refine ev_iload_n (pc' := 31) (i := 3) dX0_singleRoots_30 rfl rfl rfl ?_
      refine ev_if_eq (tgt := 80) (pc' := 34) dX0_singleRoots_31 rfl rfl (fun _ => ?_) (fun h => absurd (by decide) h)
      refine ev_iload_n (pc' := 81) (i := 2) dX0_singleRoots_80 rfl rfl rfl ?_
      refine ev_iret dX0_singleRoots_81 rfl rfl ⟨Nat.le_refl _, Nat.le_refl _⟩ ?_
      have e : (if (L 13) 0 = 0 then cS1 (cFig (L 13) ((L 12) 5) ((L 12) 6)) else cS0 (cFig (L 13) ((L 12) 5) ((L 12) 6))) = 0 := by rw [if_pos h6, g30]; decide
      rw [e] at k0
      exact k0 _ _ _ _
    · rw [g30] at hr
      subst hr
      refine ev_istore_n (pc' := 21) (i := 3) (lv' := [some (.ref 12), some (.int 1), some (.int 0), some (.int 6), none, none]) dX0_singleRoots_20 rfl rfl (Nat.le_of_ble_eq_true rfl) rfl rfl ?_
      refine ev_iconst (pc' := 22) (v := 0) dX0_singleRoots_21 rfl ki_0 ?_
      refine ev_istore (pc' := 24) (lv' := [some (.ref 12), some (.int 1), some (.int 0), some (.int 6), some (.int 0), none]) dX0_singleRoots_22 rfl (Nat.le_of_ble_eq_true rfl) rfl rfl ?_
      refine ev_iload (pc' := 26) dX0_singleRoots_24 rfl rfl ?_
      refine ev_iconst (pc' := 27) (v := 4) dX0_singleRoots_26 rfl ki_4 ?_
      refine ev_icmp_ge (tgt := 80) (pc' := 30) dX0_singleRoots_27 rfl rfl (fun h => absurd h (by decide)) (fun _ => ?_)
      refine ev_iload_n (pc' := 31) (i := 3) dX0_singleRoots_30 rfl rfl rfl ?_
      refine ev_if_eq (tgt := 80) (pc' := 34) dX0_singleRoots_31 rfl rfl (fun h => absurd h (by decide)) (fun _ => ?_)
      refine ev_iload_n (pc' := 35) (i := 3) dX0_singleRoots_34 rfl rfl rfl ?_
      refine ev_bipush (pc' := 37) (v := 10) dX0_singleRoots_35 rfl kb_10 ?_
      refine ev_irem (pc' := 38) (v := 6) dX0_singleRoots_37 rfl (by decide) (by decide) ?_
      refine ev_istore (pc' := 40) (lv' := [some (.ref 12), some (.int 1), some (.int 0), some (.int 6), some (.int 0), some (.int 6)]) dX0_singleRoots_38 rfl (Nat.le_of_ble_eq_true rfl) rfl rfl ?_
      refine ev_iload_n (pc' := 41) (i := 3) dX0_singleRoots_40 rfl rfl rfl ?_
      refine ev_bipush (pc' := 43) (v := 10) dX0_singleRoots_41 rfl kb_10 ?_
      refine ev_idiv (pc' := 44) (v := 0) dX0_singleRoots_43 rfl (by decide) (by decide) ?_
      refine ev_istore_n (pc' := 45) (i := 3) (lv' := [some (.ref 12), some (.int 1), some (.int 0), some (.int 0), some (.int 0), some (.int 6)]) dX0_singleRoots_44 rfl rfl (Nat.le_of_ble_eq_true rfl) rfl rfl ?_
      refine ev_iload (pc' := 47) dX0_singleRoots_45 rfl rfl ?_
      refine ev_iconst (pc' := 48) (v := 5) dX0_singleRoots_47 rfl ki_5 ?_
      refine ev_icmp_lt (tgt := 54) (pc' := 51) dX0_singleRoots_48 rfl rfl (fun h => absurd h (by decide)) (fun _ => ?_)
      refine ev_goto (tgt := 74) dX0_singleRoots_51 rfl ?_
      refine ev_iinc (pc' := 77) (v := 1) (lv' := [some (.ref 12), some (.int 1), some (.int 0), some (.int 0), some (.int 1), some (.int 6)]) dX0_singleRoots_74 rfl rfl (by decide) (Nat.le_of_ble_eq_true rfl) rfl rfl ?_
      refine ev_goto (tgt := 24) dX0_singleRoots_77 rfl ?_
      refine ev_iload (pc' := 26) dX0_singleRoots_24 rfl rfl ?_
      refine ev_iconst (pc' := 27) (v := 4) dX0_singleRoots_26 rfl ki_4 ?_
      refine ev_icmp_ge (tgt := 80) (pc' := 30) dX0_singleRoots_27 rfl rfl (fun h => absurd h (by decide)) (fun _ => ?_)
      refine ev_iload_n (pc' := 31) (i := 3) dX0_singleRoots_30 rfl rfl rfl ?_
      refine ev_if_eq (tgt := 80) (pc' := 34) dX0_singleRoots_31 rfl rfl (fun _ => ?_) (fun h => absurd (by decide) h)
      refine ev_iload_n (pc' := 81) (i := 2) dX0_singleRoots_80 rfl rfl rfl ?_
      refine ev_iret dX0_singleRoots_81 rfl rfl ⟨Nat.le_refl _, Nat.le_refl _⟩ ?_
      have e : (if (L 13) 0 = 0 then cS1 (cFig (L 13) ((L 12) 5) ((L 12) 6)) else cS0 (cFig (L 13) ((L 12) 5) ((L 12) 6))) = 0 := by rw [if_pos h6, g30]; decide
      rw [e] at k0
      exact k0 _ _ _ _
    · rw [g30] at hr
      subst hr
      refine ev_istore_n (pc' := 21) (i := 3) (lv' := [some (.ref 12), some (.int 1), some (.int 0), some (.int 13), none, none]) dX0_singleRoots_20 rfl rfl (Nat.le_of_ble_eq_true rfl) rfl rfl ?_
      refine ev_iconst (pc' := 22) (v := 0) dX0_singleRoots_21 rfl ki_0 ?_
      refine ev_istore (pc' := 24) (lv' := [some (.ref 12), some (.int 1), some (.int 0), some (.int 13), some (.int 0), none]) dX0_singleRoots_22 rfl (Nat.le_of_ble_eq_true rfl) rfl rfl ?_
      refine ev_iload (pc' := 26) dX0_singleRoots_24 rfl rfl ?_
      refine ev_iconst (pc' := 27) (v := 4) dX0_singleRoots_26 rfl ki_4 ?_
      refine ev_icmp_ge (tgt := 80) (pc' := 30) dX0_singleRoots_27 rfl rfl (fun h => absurd h (by decide)) (fun _ => ?_)
      refine ev_iload_n (pc' := 31) (i := 3) dX0_singleRoots_30 rfl rfl rfl ?_
      refine ev_if_eq (tgt := 80) (pc' := 34) dX0_singleRoots_31 rfl rfl (fun h => absurd h (by decide)) (fun _ => ?_)
      refine ev_iload_n (pc' := 35) (i := 3) dX0_singleRoots_34 rfl rfl rfl ?_
      refine ev_bipush (pc' := 37) (v := 10) dX0_singleRoots_35 rfl kb_10 ?_
      refine ev_irem (pc' := 38) (v := 3) dX0_singleRoots_37 rfl (by decide) (by decide) ?_
      refine ev_istore (pc' := 40) (lv' := [some (.ref 12), some (.int 1), some (.int 0), some (.int 13), some (.int 0), some (.int 3)]) dX0_singleRoots_38 rfl (Nat.le_of_ble_eq_true rfl) rfl rfl ?_
      refine ev_iload_n (pc' := 41) (i := 3) dX0_singleRoots_40 rfl rfl rfl ?_
      refine ev_bipush (pc' := 43) (v := 10) dX0_singleRoots_41 rfl kb_10 ?_
      refine ev_idiv (pc' := 44) (v := 1) dX0_singleRoots_43 rfl (by decide) (by decide) ?_
      refine ev_istore_n (pc' := 45) (i := 3) (lv' := [some (.ref 12), some (.int 1), some (.int 0), some (.int 1), some (.int 0), some (.int 3)]) dX0_singleRoots_44 rfl rfl (Nat.le_of_ble_eq_true rfl) rfl rfl ?_
      refine ev_iload (pc' := 47) dX0_singleRoots_45 rfl rfl ?_
      refine ev_iconst (pc' := 48) (v := 5) dX0_singleRoots_47 rfl ki_5 ?_
      refine ev_icmp_lt (tgt := 54) (pc' := 51) dX0_singleRoots_48 rfl rfl (fun _ => ?_) (fun h => absurd (by decide) h)
      refine ev_iload_n (pc' := 55) (i := 1) dX0_singleRoots_54 rfl rfl rfl ?_
      refine ev_if_eq (tgt := 63) (pc' := 58) dX0_singleRoots_55 rfl rfl (fun h => absurd h (by decide)) (fun _ => ?_)
      refine ev_iconst (pc' := 59) (v := 0) dX0_singleRoots_58 rfl ki_0 ?_
      refine ev_istore_n (pc' := 60) (i := 1) (lv' := [some (.ref 12), some (.int 0), some (.int 0), some (.int 1), some (.int 0), some (.int 3)]) dX0_singleRoots_59 rfl rfl (Nat.le_of_ble_eq_true rfl) rfl rfl ?_
      refine ev_goto (tgt := 74) dX0_singleRoots_60 rfl ?_
      refine ev_iinc (pc' := 77) (v := 1) (lv' := [some (.ref 12), some (.int 0), some (.int 0), some (.int 1), some (.int 1), some (.int 3)]) dX0_singleRoots_74 rfl rfl (by decide) (Nat.le_of_ble_eq_true rfl) rfl rfl ?_
      refine ev_goto (tgt := 24) dX0_singleRoots_77 rfl ?_
      refine ev_iload (pc' := 26) dX0_singleRoots_24 rfl rfl ?_
      refine ev_iconst (pc' := 27) (v := 4) dX0_singleRoots_26 rfl ki_4 ?_
      refine ev_icmp_ge (tgt := 80) (pc' := 30) dX0_singleRoots_27 rfl rfl (fun h => absurd h (by decide)) (fun _ => ?_)
      refine ev_iload_n (pc' := 31) (i := 3) dX0_singleRoots_30 rfl rfl rfl ?_
      refine ev_if_eq (tgt := 80) (pc' := 34) dX0_singleRoots_31 rfl rfl (fun h => absurd h (by decide)) (fun _ => ?_)
      refine ev_iload_n (pc' := 35) (i := 3) dX0_singleRoots_34 rfl rfl rfl ?_
      refine ev_bipush (pc' := 37) (v := 10) dX0_singleRoots_35 rfl kb_10 ?_
      refine ev_irem (pc' := 38) (v := 1) dX0_singleRoots_37 rfl (by decide) (by decide) ?_
      refine ev_istore (pc' := 40) (lv' := [some (.ref 12), some (.int 0), some (.int 0), some (.int 1), some (.int 1), some (.int 1)]) dX0_singleRoots_38 rfl (Nat.le_of_ble_eq_true rfl) rfl rfl ?_
      refine ev_iload_n (pc' := 41) (i := 3) dX0_singleRoots_40 rfl rfl rfl ?_
      refine ev_bipush (pc' := 43) (v := 10) dX0_singleRoots_41 rfl kb_10 ?_
      refine ev_idiv (pc' := 44) (v := 0) dX0_singleRoots_43 rfl (by decide) (by decide) ?_
      refine ev_istore_n (pc' := 45) (i := 3) (lv' := [some (.ref 12), some (.int 0), some (.int 0), some (.int 0), some (.int 1), some (.int 1)]) dX0_singleRoots_44 rfl rfl (Nat.le_of_ble_eq_true rfl) rfl rfl ?_
      refine ev_iload (pc' := 47) dX0_singleRoots_45 rfl rfl ?_
      refine ev_iconst (pc' := 48) (v := 5) dX0_singleRoots_47 rfl ki_5 ?_
      refine ev_icmp_lt (tgt := 54) (pc' := 51) dX0_singleRoots_48 rfl rfl (fun _ => ?_) (fun h => absurd (by decide) h)
      refine ev_iload_n (pc' := 55) (i := 1) dX0_singleRoots_54 rfl rfl rfl ?_
      refine ev_if_eq (tgt := 63) (pc' := 58) dX0_singleRoots_55 rfl rfl (fun _ => ?_) (fun h => absurd (by decide) h)
      refine ev_iload (pc' := 65) dX0_singleRoots_63 rfl rfl ?_
      refine ev_iconst (pc' := 66) (v := 1) dX0_singleRoots_65 rfl ki_1 ?_
      refine ev_icmp_le (tgt := 71) (pc' := 69) dX0_singleRoots_66 rfl rfl (fun _ => ?_) (fun h => absurd (by decide) h)
      refine ev_iinc (pc' := 74) (v := 1) (lv' := [some (.ref 12), some (.int 0), some (.int 1), some (.int 0), some (.int 1), some (.int 1)]) dX0_singleRoots_71 rfl rfl (by decide) (Nat.le_of_ble_eq_true rfl) rfl rfl ?_
      refine ev_iinc (pc' := 77) (v := 2) (lv' := [some (.ref 12), some (.int 0), some (.int 1), some (.int 0), some (.int 2), some (.int 1)]) dX0_singleRoots_74 rfl rfl (by decide) (Nat.le_of_ble_eq_true rfl) rfl rfl ?_
      refine ev_goto (tgt := 24) dX0_singleRoots_77 rfl ?_
      refine ev_iload (pc' := 26) dX0_singleRoots_24 rfl rfl ?_
      refine ev_iconst (pc' := 27) (v := 4) dX0_singleRoots_26 rfl ki_4 ?_
      refine ev_icmp_ge (tgt := 80) (pc' := 30) dX0_singleRoots_27 rfl rfl (fun h => absurd h (by decide)) (fun _ => ?_)
      refine ev_iload_n (pc' := 31) (i := 3) dX0_singleRoots_30 rfl rfl rfl ?_
      refine ev_if_eq (tgt := 80) (pc' := 34) dX0_singleRoots_31 rfl rfl (fun _ => ?_) (fun h => absurd (by decide) h)
      refine ev_iload_n (pc' := 81) (i := 2) dX0_singleRoots_80 rfl rfl rfl ?_
      refine ev_iret dX0_singleRoots_81 rfl rfl ⟨Nat.le_refl _, Nat.le_refl _⟩ ?_
      have e : (if (L 13) 0 = 0 then cS1 (cFig (L 13) ((L 12) 5) ((L 12) 6)) else cS0 (cFig (L 13) ((L 12) 5) ((L 12) 6))) = 1 := by rw [if_pos h6, g30]; decide
      rw [e] at k0
      exact k0 _ _ _ _
    · rw [g30] at hr
      subst hr
      refine ev_istore_n (pc' := 21) (i := 3) (lv' := [some (.ref 12), some (.int 1), some (.int 0), some (.int 22), none, none]) dX0_singleRoots_20 rfl rfl (Nat.le_of_ble_eq_true rfl) rfl rfl ?_
      refine ev_iconst (pc' := 22) (v := 0) dX0_singleRoots_21 rfl ki_0 ?_
      refine ev_istore (pc' := 24) (lv' := [some (.ref 12), some (.int 1), some (.int 0), some (.int 22), some (.int 0), none]) dX0_singleRoots_22 rfl (Nat.le_of_ble_eq_true rfl) rfl rfl ?_
      refine ev_iload (pc' := 26) dX0_singleRoots_24 rfl rfl ?_
      refine ev_iconst (pc' := 27) (v := 4) dX0_singleRoots_26 rfl ki_4 ?_
      refine ev_icmp_ge (tgt := 80) (pc' := 30) dX0_singleRoots_27 rfl rfl (fun h => absurd h (by decide)) (fun _ => ?_)
      refine ev_iload_n (pc' := 31) (i := 3) dX0_singleRoots_30 rfl rfl rfl ?_
      refine ev_if_eq (tgt := 80) (pc' := 34) dX0_singleRoots_31 rfl rfl (fun h => absurd h (by decide)) (fun _ => ?_)
      refine ev_iload_n (pc' := 35) (i := 3) dX0_singleRoots_34 rfl rfl rfl ?_
      refine ev_bipush (pc' := 37) (v := 10) dX0_singleRoots_35 rfl kb_10 ?_
      refine ev_irem (pc' := 38) (v := 2) dX0_singleRoots_37 rfl (by decide) (by decide) ?_
      refine ev_istore (pc' := 40) (lv' := [some (.ref 12), some (.int 1), some (.int 0), some (.int 22), some (.int 0), some (.int 2)]) dX0_singleRoots_38 rfl (Nat.le_of_ble_eq_true rfl) rfl rfl ?_
      refine ev_iload_n (pc' := 41) (i := 3) dX0_singleRoots_40 rfl rfl rfl ?_
      refine ev_bipush (pc' := 43) (v := 10) dX0_singleRoots_41 rfl kb_10 ?_
      refine ev_idiv (pc' := 44) (v := 2) dX0_singleRoots_43 rfl (by decide) (by decide) ?_
      refine ev_istore_n (pc' := 45) (i := 3) (lv' := [some (.ref 12), some (.int 1), some (.int 0), some (.int 2), some (.int 0), some (.int 2)]) dX0_singleRoots_44 rfl rfl (Nat.le_of_ble_eq_true rfl) rfl rfl ?_
      refine ev_iload (pc' := 47) dX0_singleRoots_45 rfl rfl ?_
      refine ev_iconst (pc' := 48) (v := 5) dX0_singleRoots_47 rfl ki_5 ?_
      refine ev_icmp_lt (tgt := 54) (pc' := 51) dX0_singleRoots_48 rfl rfl (fun _ => ?_) (fun h => absurd (by decide) h)
      refine ev_iload_n (pc' := 55) (i := 1) dX0_singleRoots_54 rfl rfl rfl ?_
      refine ev_if_eq (tgt := 63) (pc' := 58) dX0_singleRoots_55 rfl rfl (fun h => absurd h (by decide)) (fun _ => ?_)
      refine ev_iconst (pc' := 59) (v := 0) dX0_singleRoots_58 rfl ki_0 ?_
      refine ev_istore_n (pc' := 60) (i := 1) (lv' := [some (.ref 12), some (.int 0), some (.int 0), some (.int 2), some (.int 0), some (.int 2)]) dX0_singleRoots_59 rfl rfl (Nat.le_of_ble_eq_true rfl) rfl rfl ?_
      refine ev_goto (tgt := 74) dX0_singleRoots_60 rfl ?_
      refine ev_iinc (pc' := 77) (v := 1) (lv' := [some (.ref 12), some (.int 0), some (.int 0), some (.int 2), some (.int 1), some (.int 2)]) dX0_singleRoots_74 rfl rfl (by decide) (Nat.le_of_ble_eq_true rfl) rfl rfl ?_
      refine ev_goto (tgt := 24) dX0_singleRoots_77 rfl ?_
      refine ev_iload (pc' := 26) dX0_singleRoots_24 rfl rfl ?_
      refine ev_iconst (pc' := 27) (v := 4) dX0_singleRoots_26 rfl ki_4 ?_
      refine ev_icmp_ge (tgt := 80) (pc' := 30) dX0_singleRoots_27 rfl rfl (fun h => absurd h (by decide)) (fun _ => ?_)
      refine ev_iload_n (pc' := 31) (i := 3) dX0_singleRoots_30 rfl rfl rfl ?_
      refine ev_if_eq (tgt := 80) (pc' := 34) dX0_singleRoots_31 rfl rfl (fun h => absurd h (by decide)) (fun _ => ?_)
      refine ev_iload_n (pc' := 35) (i := 3) dX0_singleRoots_34 rfl rfl rfl ?_
      refine ev_bipush (pc' := 37) (v := 10) dX0_singleRoots_35 rfl kb_10 ?_
      refine ev_irem (pc' := 38) (v := 2) dX0_singleRoots_37 rfl (by decide) (by decide) ?_
      refine ev_istore (pc' := 40) (lv' := [some (.ref 12), some (.int 0), some (.int 0), some (.int 2), some (.int 1), some (.int 2)]) dX0_singleRoots_38 rfl (Nat.le_of_ble_eq_true rfl) rfl rfl ?_
      refine ev_iload_n (pc' := 41) (i := 3) dX0_singleRoots_40 rfl rfl rfl ?_
      refine ev_bipush (pc' := 43) (v := 10) dX0_singleRoots_41 rfl kb_10 ?_
      refine ev_idiv (pc' := 44) (v := 0) dX0_singleRoots_43 rfl (by decide) (by decide) ?_
      refine ev_istore_n (pc' := 45) (i := 3) (lv' := [some (.ref 12), some (.int 0), some (.int 0), some (.int 0), some (.int 1), some (.int 2)]) dX0_singleRoots_44 rfl rfl (Nat.le_of_ble_eq_true rfl) rfl rfl ?_
      refine ev_iload (pc' := 47) dX0_singleRoots_45 rfl rfl ?_
      refine ev_iconst (pc' := 48) (v := 5) dX0_singleRoots_47 rfl ki_5 ?_
      refine ev_icmp_lt (tgt := 54) (pc' := 51) dX0_singleRoots_48 rfl rfl (fun _ => ?_) (fun h => absurd (by decide) h)
      refine ev_iload_n (pc' := 55) (i := 1) dX0_singleRoots_54 rfl rfl rfl ?_
      refine ev_if_eq (tgt := 63) (pc' := 58) dX0_singleRoots_55 rfl rfl (fun _ => ?_) (fun h => absurd (by decide) h)
      refine ev_iload (pc' := 65) dX0_singleRoots_63 rfl rfl ?_
      refine ev_iconst (pc' := 66) (v := 1) dX0_singleRoots_65 rfl ki_1 ?_
      refine ev_icmp_le (tgt := 71) (pc' := 69) dX0_singleRoots_66 rfl rfl (fun h => absurd h (by decide)) (fun _ => ?_)
      refine ev_iconst (pc' := 70) (v := (-1)) dX0_singleRoots_69 rfl ki_m1 ?_
      refine ev_iret dX0_singleRoots_70 rfl rfl ⟨Nat.le_refl _, Nat.le_refl _⟩ ?_
      have e : (if (L 13) 0 = 0 then cS1 (cFig (L 13) ((L 12) 5) ((L 12) 6)) else cS0 (cFig (L 13) ((L 12) 5) ((L 12) 6))) = (-1) := by rw [if_pos h6, g30]; decide
      rw [e] at k0
      exact k0 _ _ _ _
    · rw [g30] at hr
      subst hr
      refine ev_istore_n (pc' := 21) (i := 3) (lv' := [some (.ref 12), some (.int 1), some (.int 0), some (.int 25), none, none]) dX0_singleRoots_20 rfl rfl (Nat.le_of_ble_eq_true rfl) rfl rfl ?_
      refine ev_iconst (pc' := 22) (v := 0) dX0_singleRoots_21 rfl ki_0 ?_
      refine ev_istore (pc' := 24) (lv' := [some (.ref 12), some (.int 1), some (.int 0), some (.int 25), some (.int 0), none]) dX0_singleRoots_22 rfl (Nat.le_of_ble_eq_true rfl) rfl rfl ?_
      refine ev_iload (pc' := 26) dX0_singleRoots_24 rfl rfl ?_
      refine ev_iconst (pc' := 27) (v := 4) dX0_singleRoots_26 rfl ki_4 ?_
      refine ev_icmp_ge (tgt := 80) (pc' := 30) dX0_singleRoots_27 rfl rfl (fun h => absurd h (by decide)) (fun _ => ?_)
      refine ev_iload_n (pc' := 31) (i := 3) dX0_singleRoots_30 rfl rfl rfl ?_
      refine ev_if_eq (tgt := 80) (pc' := 34) dX0_singleRoots_31 rfl rfl (fun h => absurd h (by decide)) (fun _ => ?_)
      refine ev_iload_n (pc' := 35) (i := 3) dX0_singleRoots_34 rfl rfl rfl ?_
      refine ev_bipush (pc' := 37) (v := 10) dX0_singleRoots_35 rfl kb_10 ?_
      refine ev_irem (pc' := 38) (v := 5) dX0_singleRoots_37 rfl (by decide) (by decide) ?_
      refine ev_istore (pc' := 40) (lv' := [some (.ref 12), some (.int 1), some (.int 0), some (.int 25), some (.int 0), some (.int 5)]) dX0_singleRoots_38 rfl (Nat.le_of_ble_eq_true rfl) rfl rfl ?_
      refine ev_iload_n (pc' := 41) (i := 3) dX0_singleRoots_40 rfl rfl rfl ?_
      refine ev_bipush (pc' := 43) (v := 10) dX0_singleRoots_41 rfl kb_10 ?_
      refine ev_idiv (pc' := 44) (v := 2) dX0_singleRoots_43 rfl (by decide) (by decide) ?_
      refine ev_istore_n (pc' := 45) (i := 3) (lv' := [some (.ref 12), some (.int 1), some (.int 0), some (.int 2), some (.int 0), some (.int 5)]) dX0_singleRoots_44 rfl rfl (Nat.le_of_ble_eq_true rfl) rfl rfl ?_
      refine ev_iload (pc' := 47) dX0_singleRoots_45 rfl rfl ?_
      refine ev_iconst (pc' := 48) (v := 5) dX0_singleRoots_47 rfl ki_5 ?_
      refine ev_icmp_lt (tgt := 54) (pc' := 51) dX0_singleRoots_48 rfl rfl (fun h => absurd h (by decide)) (fun _ => ?_)
      refine ev_goto (tgt := 74) dX0_singleRoots_51 rfl ?_
      refine ev_iinc (pc' := 77) (v := 1) (lv' := [some (.ref 12), some (.int 1), some (.int 0), some (.int 2), some (.int 1), some (.int 5)]) dX0_singleRoots_74 rfl rfl (by decide) (Nat.le_of_ble_eq_true rfl) rfl rfl ?_
      refine ev_goto (tgt := 24) dX0_singleRoots_77 rfl ?_
      refine ev_iload (pc' := 26) dX0_singleRoots_24 rfl rfl ?_
      refine ev_iconst (pc' := 27) (v := 4) dX0_singleRoots_26 rfl ki_4 ?_
      refine ev_icmp_ge (tgt := 80) (pc' := 30) dX0_singleRoots_27 rfl rfl (fun h => absurd h (by decide)) (fun _ => ?_)
      refine ev_iload_n (pc' := 31) (i := 3) dX0_singleRoots_30 rfl rfl rfl ?_
      refine ev_if_eq (tgt := 80) (pc' := 34) dX0_singleRoots_31 rfl rfl (fun h => absurd h (by decide)) (fun _ => ?_)
      refine ev_iload_n (pc' := 35) (i := 3) dX0_singleRoots_34 rfl rfl rfl ?_
      refine ev_bipush (pc' := 37) (v := 10) dX0_singleRoots_35 rfl kb_10 ?_
      refine ev_irem (pc' := 38) (v := 2) dX0_singleRoots_37 rfl (by decide) (by decide) ?_
      refine ev_istore (pc' := 40) (lv' := [some (.ref 12), some (.int 1), some (.int 0), some (.int 2), some (.int 1), some (.int 2)]) dX0_singleRoots_38 rfl (Nat.le_of_ble_eq_true rfl) rfl rfl ?_
      refine ev_iload_n (pc' := 41) (i := 3) dX0_singleRoots_40 rfl rfl rfl ?_
      refine ev_bipush (pc' := 43) (v := 10) dX0_singleRoots_41 rfl kb_10 ?_
      refine ev_idiv (pc' := 44) (v := 0) dX0_singleRoots_43 rfl (by decide) (by decide) ?_
      refine ev_istore_n (pc' := 45) (i := 3) (lv' := [some (.ref 12), some (.int 1), some (.int 0), some (.int 0), some (.int 1), some (.int 2)]) dX0_singleRoots_44 rfl rfl (Nat.le_of_ble_eq_true rfl) rfl rfl ?_
      refine ev_iload (pc' := 47) dX0_singleRoots_45 rfl rfl ?_
      refine ev_iconst (pc' := 48) (v := 5) dX0_singleRoots_47 rfl ki_5 ?_
      refine ev_icmp_lt (tgt := 54) (pc' := 51) dX0_singleRoots_48 rfl rfl (fun _ => ?_) (fun h => absurd (by decide) h)
      refine ev_iload_n (pc' := 55) (i := 1) dX0_singleRoots_54 rfl rfl rfl ?_
      refine ev_if_eq (tgt := 63) (pc' := 58) dX0_singleRoots_55 rfl rfl (fun h => absurd h (by decide)) (fun _ => ?_)
      refine ev_iconst (pc' := 59) (v := 0) dX0_singleRoots_58 rfl ki_0 ?_
      refine ev_istore_n (pc' := 60) (i := 1) (lv' := [some (.ref 12), some (.int 0), some (.int 0), some (.int 0), some (.int 1), some (.int 2)]) dX0_singleRoots_59 rfl rfl (Nat.le_of_ble_eq_true rfl) rfl rfl ?_
      refine ev_goto (tgt := 74) dX0_singleRoots_60 rfl ?_
      refine ev_iinc (pc' := 77) (v := 2) (lv' := [some (.ref 12), some (.int 0), some (.int 0), some (.int 0), some (.int 2), some (.int 2)]) dX0_singleRoots_74 rfl rfl (by decide) (Nat.le_of_ble_eq_true rfl) rfl rfl ?_
      refine ev_goto (tgt := 24) dX0_singleRoots_77 rfl ?_
      refine ev_iload (pc' := 26) dX0_singleRoots_24 rfl rfl ?_
      refine ev_iconst (pc' := 27) (v := 4) dX0_singleRoots_26 rfl ki_4 ?_
      refine ev_icmp_ge (tgt := 80) (pc' := 30) dX0_singleRoots_27 rfl rfl (fun h => absurd h (by decide)) (fun _ => ?_)
      refine ev_iload_n (pc' := 31) (i := 3) dX0_singleRoots_30 rfl rfl rfl ?_
      refine ev_if_eq (tgt := 80) (pc' := 34) dX0_singleRoots_31 rfl rfl (fun _ => ?_) (fun h => absurd (by decide) h)
      refine ev_iload_n (pc' := 81) (i := 2) dX0_singleRoots_80 rfl rfl rfl ?_
      refine ev_iret dX0_singleRoots_81 rfl rfl ⟨Nat.le_refl _, Nat.le_refl _⟩ ?_
      have e : (if (L 13) 0 = 0 then cS1 (cFig (L 13) ((L 12) 5) ((L 12) 6)) else cS0 (cFig (L 13) ((L 12) 5) ((L 12) 6))) = 0 := by rw [if_pos h6, g30]; decide
      rw [e] at k0
      exact k0 _ _ _ _
    · rw [g30] at hr
      subst hr
      refine ev_istore_n (pc' := 21) (i := 3) (lv' := [some (.ref 12), some (.int 1), some (.int 0), some (.int 31), none, none]) dX0_singleRoots_20 rfl rfl (Nat.le_of_ble_eq_true rfl) rfl rfl ?_
      refine ev_iconst (pc' := 22) (v := 0) dX0_singleRoots_21 rfl ki_0 ?_
      refine ev_istore (pc' := 24) (lv' := [some (.ref 12), some (.int 1), some (.int 0), some (.int 31), some (.int 0), none]) dX0_singleRoots_22 rfl (Nat.le_of_ble_eq_true rfl) rfl rfl ?_
      refine ev_iload (pc' := 26) dX0_singleRoots_24 rfl rfl ?_
      refine ev_iconst (pc' := 27) (v := 4) dX0_singleRoots_26 rfl ki_4 ?_
      refine ev_icmp_ge (tgt := 80) (pc' := 30) dX0_singleRoots_27 rfl rfl (fun h => absurd h (by decide)) (fun _ => ?_)
      refine ev_iload_n (pc' := 31) (i := 3) dX0_singleRoots_30 rfl rfl rfl ?_
      refine ev_if_eq (tgt := 80) (pc' := 34) dX0_singleRoots_31 rfl rfl (fun h => absurd h (by decide)) (fun _ => ?_)
      refine ev_iload_n (pc' := 35) (i := 3) dX0_singleRoots_34 rfl rfl rfl ?_
      refine ev_bipush (pc' := 37) (v := 10) dX0_singleRoots_35 rfl kb_10 ?_
      refine ev_irem (pc' := 38) (v := 1) dX0_singleRoots_37 rfl (by decide) (by decide) ?_
      refine ev_istore (pc' := 40) (lv' := [some (.ref 12), some (.int 1), some (.int 0), some (.int 31), some (.int 0), some (.int 1)]) dX0_singleRoots_38 rfl (Nat.le_of_ble_eq_true rfl) rfl rfl ?_
      refine ev_iload_n (pc' := 41) (i := 3) dX0_singleRoots_40 rfl rfl rfl ?_
      refine ev_bipush (pc' := 43) (v := 10) dX0_singleRoots_41 rfl kb_10 ?_
      refine ev_idiv (pc' := 44) (v := 3) dX0_singleRoots_43 rfl (by decide) (by decide) ?_
      refine ev_istore_n (pc' := 45) (i := 3) (lv' := [some (.ref 12), some (.int 1), some (.int 0), some (.int 3), some (.int 0), some (.int 1)]) dX0_singleRoots_44 rfl rfl (Nat.le_of_ble_eq_true rfl) rfl rfl ?_
      refine ev_iload (pc' := 47) dX0_singleRoots_45 rfl rfl ?_
      refine ev_iconst (pc' := 48) (v := 5) dX0_singleRoots_47 rfl ki_5 ?_
      refine ev_icmp_lt (tgt := 54) (pc' := 51) dX0_singleRoots_48 rfl rfl (fun _ => ?_) (fun h => absurd (by decide) h)
      refine ev_iload_n (pc' := 55) (i := 1) dX0_singleRoots_54 rfl rfl rfl ?_
      refine ev_if_eq (tgt := 63) (pc' := 58) dX0_singleRoots_55 rfl rfl (fun h => absurd h (by decide)) (fun _ => ?_)
      refine ev_iconst (pc' := 59) (v := 0) dX0_singleRoots_58 rfl ki_0 ?_
      refine ev_istore_n (pc' := 60) (i := 1) (lv' := [some (.ref 12), some (.int 0), some (.int 0), some (.int 3), some (.int 0), some (.int 1)]) dX0_singleRoots_59 rfl rfl (Nat.le_of_ble_eq_true rfl) rfl rfl ?_
      refine ev_goto (tgt := 74) dX0_singleRoots_60 rfl ?_
      refine ev_iinc (pc' := 77) (v := 1) (lv' := [some (.ref 12), some (.int 0), some (.int 0), some (.int 3), some (.int 1), some (.int 1)]) dX0_singleRoots_74 rfl rfl (by decide) (Nat.le_of_ble_eq_true rfl) rfl rfl ?_
      refine ev_goto (tgt := 24) dX0_singleRoots_77 rfl ?_
      refine ev_iload (pc' := 26) dX0_singleRoots_24 rfl rfl ?_
      refine ev_iconst (pc' := 27) (v := 4) dX0_singleRoots_26 rfl ki_4 ?_
      refine ev_icmp_ge (tgt := 80) (pc' := 30) dX0_singleRoots_27 rfl rfl (fun h => absurd h (by decide)) (fun _ => ?_)
      refine ev_iload_n (pc' := 31) (i := 3) dX0_singleRoots_30 rfl rfl rfl ?_
      refine ev_if_eq (tgt := 80) (pc' := 34) dX0_singleRoots_31 rfl rfl (fun h => absurd h (by decide)) (fun _ => ?_)
      refine ev_iload_n (pc' := 35) (i := 3) dX0_singleRoots_34 rfl rfl rfl ?_
      refine ev_bipush (pc' := 37) (v := 10) dX0_singleRoots_35 rfl kb_10 ?_
      refine ev_irem (pc' := 38) (v := 3) dX0_singleRoots_37 rfl (by decide) (by decide) ?_
      refine ev_istore (pc' := 40) (lv' := [some (.ref 12), some (.int 0), some (.int 0), some (.int 3), some (.int 1), some (.int 3)]) dX0_singleRoots_38 rfl (Nat.le_of_ble_eq_true rfl) rfl rfl ?_
      refine ev_iload_n (pc' := 41) (i := 3) dX0_singleRoots_40 rfl rfl rfl ?_
      refine ev_bipush (pc' := 43) (v := 10) dX0_singleRoots_41 rfl kb_10 ?_
      refine ev_idiv (pc' := 44) (v := 0) dX0_singleRoots_43 rfl (by decide) (by decide) ?_
      refine ev_istore_n (pc' := 45) (i := 3) (lv' := [some (.ref 12), some (.int 0), some (.int 0), some (.int 0), some (.int 1), some (.int 3)]) dX0_singleRoots_44 rfl rfl (Nat.le_of_ble_eq_true rfl) rfl rfl ?_
      refine ev_iload (pc' := 47) dX0_singleRoots_45 rfl rfl ?_
      refine ev_iconst (pc' := 48) (v := 5) dX0_singleRoots_47 rfl ki_5 ?_
      refine ev_icmp_lt (tgt := 54) (pc' := 51) dX0_singleRoots_48 rfl rfl (fun _ => ?_) (fun h => absurd (by decide) h)
      refine ev_iload_n (pc' := 55) (i := 1) dX0_singleRoots_54 rfl rfl rfl ?_
      refine ev_if_eq (tgt := 63) (pc' := 58) dX0_singleRoots_55 rfl rfl (fun _ => ?_) (fun h => absurd (by decide) h)
      refine ev_iload (pc' := 65) dX0_singleRoots_63 rfl rfl ?_
      refine ev_iconst (pc' := 66) (v := 1) dX0_singleRoots_65 rfl ki_1 ?_
      refine ev_icmp_le (tgt := 71) (pc' := 69) dX0_singleRoots_66 rfl rfl (fun h => absurd h (by decide)) (fun _ => ?_)
      refine ev_iconst (pc' := 70) (v := (-1)) dX0_singleRoots_69 rfl ki_m1 ?_
      refine ev_iret dX0_singleRoots_70 rfl rfl ⟨Nat.le_refl _, Nat.le_refl _⟩ ?_
      have e : (if (L 13) 0 = 0 then cS1 (cFig (L 13) ((L 12) 5) ((L 12) 6)) else cS0 (cFig (L 13) ((L 12) 5) ((L 12) 6))) = (-1) := by rw [if_pos h6, g30]; decide
      rw [e] at k0
      exact k0 _ _ _ _
    · rw [g30] at hr
      subst hr
      refine ev_istore_n (pc' := 21) (i := 3) (lv' := [some (.ref 12), some (.int 1), some (.int 0), some (.int 55), none, none]) dX0_singleRoots_20 rfl rfl (Nat.le_of_ble_eq_true rfl) rfl rfl ?_
      refine ev_iconst (pc' := 22) (v := 0) dX0_singleRoots_21 rfl ki_0 ?_
      refine ev_istore (pc' := 24) (lv' := [some (.ref 12), some (.int 1), some (.int 0), some (.int 55), some (.int 0), none]) dX0_singleRoots_22 rfl (Nat.le_of_ble_eq_true rfl) rfl rfl ?_
      refine ev_iload (pc' := 26) dX0_singleRoots_24 rfl rfl ?_
      refine ev_iconst (pc' := 27) (v := 4) dX0_singleRoots_26 rfl ki_4 ?_
      refine ev_icmp_ge (tgt := 80) (pc' := 30) dX0_singleRoots_27 rfl rfl (fun h => absurd h (by decide)) (fun _ => ?_)
      refine ev_iload_n (pc' := 31) (i := 3) dX0_singleRoots_30 rfl rfl rfl ?_
      refine ev_if_eq (tgt := 80) (pc' := 34) dX0_singleRoots_31 rfl rfl (fun h => absurd h (by decide)) (fun _ => ?_)
      refine ev_iload_n (pc' := 35) (i := 3) dX0_singleRoots_34 rfl rfl rfl ?_
      refine ev_bipush (pc' := 37) (v := 10) dX0_singleRoots_35 rfl kb_10 ?_
      refine ev_irem (pc' := 38) (v := 5) dX0_singleRoots_37 rfl (by decide) (by decide) ?_
      refine ev_istore (pc' := 40) (lv' := [some (.ref 12), some (.int 1), some (.int 0), some (.int 55), some (.int 0), some (.int 5)]) dX0_singleRoots_38 rfl (Nat.le_of_ble_eq_true rfl) rfl rfl ?_
      refine ev_iload_n (pc' := 41) (i := 3) dX0_singleRoots_40 rfl rfl rfl ?_
      refine ev_bipush (pc' := 43) (v := 10) dX0_singleRoots_41 rfl kb_10 ?_
      refine ev_idiv (pc' := 44) (v := 5) dX0_singleRoots_43 rfl (by decide) (by decide) ?_
      refine ev_istore_n (pc' := 45) (i := 3) (lv' := [some (.ref 12), some (.int 1), some (.int 0), some (.int 5), some (.int 0), some (.int 5)]) dX0_singleRoots_44 rfl rfl (Nat.le_of_ble_eq_true rfl) rfl rfl ?_
      refine ev_iload (pc' := 47) dX0_singleRoots_45 rfl rfl ?_
      refine ev_iconst (pc' := 48) (v := 5) dX0_singleRoots_47 rfl ki_5 ?_
      refine ev_icmp_lt (tgt := 54) (pc' := 51) dX0_singleRoots_48 rfl rfl (fun h => absurd h (by decide)) (fun _ => ?_)
      refine ev_goto (tgt := 74) dX0_singleRoots_51 rfl ?_
      refine ev_iinc (pc' := 77) (v := 1) (lv' := [some (.ref 12), some (.int 1), some (.int 0), some (.int 5), some (.int 1), some (.int 5)]) dX0_singleRoots_74 rfl rfl (by decide) (Nat.le_of_ble_eq_true rfl) rfl rfl ?_
      refine ev_goto (tgt := 24) dX0_singleRoots_77 rfl ?_
      refine ev_iload (pc' := 26) dX0_singleRoots_24 rfl rfl ?_
      refine ev_iconst (pc' := 27) (v := 4) dX0_singleRoots_26 rfl ki_4 ?_
      refine ev_icmp_ge (tgt := 80) (pc' := 30) dX0_singleRoots_27 rfl rfl (fun h => absurd h (by decide)) (fun _ => ?_)
      refine ev_iload_n (pc' := 31) (i := 3) dX0_singleRoots_30 rfl rfl rfl ?_
      refine ev_if_eq (tgt := 80) (pc' := 34) dX0_singleRoots_31 rfl rfl (fun h => absurd h (by decide)) (fun _ => ?_)
      refine ev_iload_n (pc' := 35) (i := 3) dX0_singleRoots_34 rfl rfl rfl ?_
      refine ev_bipush (pc' := 37) (v := 10) dX0_singleRoots_35 rfl kb_10 ?_
      refine ev_irem (pc' := 38) (v := 5) dX0_singleRoots_37 rfl (by decide) (by decide) ?_
      refine ev_istore (pc' := 40) (lv' := [some (.ref 12), some (.int 1), some (.int 0), some (.int 5), some (.int 1), some (.int 5)]) dX0_singleRoots_38 rfl (Nat.le_of_ble_eq_true rfl) rfl rfl ?_
      refine ev_iload_n (pc' := 41) (i := 3) dX0_singleRoots_40 rfl rfl rfl ?_
      refine ev_bipush (pc' := 43) (v := 10) dX0_singleRoots_41 rfl kb_10 ?_
      refine ev_idiv (pc' := 44) (v := 0) dX0_singleRoots_43 rfl (by decide) (by decide) ?_
      refine ev_istore_n (pc' := 45) (i := 3) (lv' := [some (.ref 12), some (.int 1), some (.int 0), some (.int 0), some (.int 1), some (.int 5)]) dX0_singleRoots_44 rfl rfl (Nat.le_of_ble_eq_true rfl) rfl rfl ?_
      refine ev_iload (pc' := 47) dX0_singleRoots_45 rfl rfl ?_
      refine ev_iconst (pc' := 48) (v := 5) dX0_singleRoots_47 rfl ki_5 ?_
      refine ev_icmp_lt (tgt := 54) (pc' := 51) dX0_singleRoots_48 rfl rfl (fun h => absurd h (by decide)) (fun _ => ?_)
      refine ev_goto (tgt := 74) dX0_singleRoots_51 rfl ?_
      refine ev_iinc (pc' := 77) (v := 2) (lv' := [some (.ref 12), some (.int 1), some (.int 0), some (.int 0), some (.int 2), some (.int 5)]) dX0_singleRoots_74 rfl rfl (by decide) (Nat.le_of_ble_eq_true rfl) rfl rfl ?_
      refine ev_goto (tgt := 24) dX0_singleRoots_77 rfl ?_
      refine ev_iload (pc' := 26) dX0_singleRoots_24 rfl rfl ?_
      refine ev_iconst (pc' := 27) (v := 4) dX0_singleRoots_26 rfl ki_4 ?_
      refine ev_icmp_ge (tgt := 80) (pc' := 30) dX0_singleRoots_27 rfl rfl (fun h => absurd h (by decide)) (fun _ => ?_)
      refine ev_iload_n (pc' := 31) (i := 3) dX0_singleRoots_30 rfl rfl rfl ?_
      refine ev_if_eq (tgt := 80) (pc' := 34) dX0_singleRoots_31 rfl rfl (fun _ => ?_) (fun h => absurd (by decide) h)
      refine ev_iload_n (pc' := 81) (i := 2) dX0_singleRoots_80 rfl rfl rfl ?_
      refine ev_iret dX0_singleRoots_81 rfl rfl ⟨Nat.le_refl _, Nat.le_refl _⟩ ?_
      have e : (if (L 13) 0 = 0 then cS1 (cFig (L 13) ((L 12) 5) ((L 12) 6)) else cS0 (cFig (L 13) ((L 12) 5) ((L 12) 6))) = 0 := by rw [if_pos h6, g30]; decide
      rw [e] at k0
      exact k0 _ _ _ _
    · rw [g30] at hr
      subst hr
      refine ev_istore_n (pc' := 21) (i := 3) (lv' := [some (.ref 12), some (.int 1), some (.int 0), some (.int 112), none, none]) dX0_singleRoots_20 rfl rfl (Nat.le_of_ble_eq_true rfl) rfl rfl ?_
      refine ev_iconst (pc' := 22) (v := 0) dX0_singleRoots_21 rfl ki_0 ?_
      refine ev_istore (pc' := 24) (lv' := [some (.ref 12), some (.int 1), some (.int 0), some (.int 112), some (.int 0), none]) dX0_singleRoots_22 rfl (Nat.le_of_ble_eq_true rfl) rfl rfl ?_
      refine ev_iload (pc' := 26) dX0_singleRoots_24 rfl rfl ?_
      refine ev_iconst (pc' := 27) (v := 4) dX0_singleRoots_26 rfl ki_4 ?_
      refine ev_icmp_ge (tgt := 80) (pc' := 30) dX0_singleRoots_27 rfl rfl (fun h => absurd h (by decide)) (fun _ => ?_)
      refine ev_iload_n (pc' := 31) (i := 3) dX0_singleRoots_30 rfl rfl rfl ?_
      refine ev_if_eq (tgt := 80) (pc' := 34) dX0_singleRoots_31 rfl rfl (fun h => absurd h (by decide)) (fun _ => ?_)
      refine ev_iload_n (pc' := 35) (i := 3) dX0_singleRoots_34 rfl rfl rfl ?_
      refine ev_bipush (pc' := 37) (v := 10) dX0_singleRoots_35 rfl kb_10 ?_
      refine ev_irem (pc' := 38) (v := 2) dX0_singleRoots_37 rfl (by decide) (by decide) ?_
      refine ev_istore (pc' := 40) (lv' := [some (.ref 12), some (.int 1), some (.int 0), some (.int 112), some (.int 0), some (.int 2)]) dX0_singleRoots_38 rfl (Nat.le_of_ble_eq_true rfl) rfl rfl ?_
      refine ev_iload_n (pc' := 41) (i := 3) dX0_singleRoots_40 rfl rfl rfl ?_
      refine ev_bipush (pc' := 43) (v := 10) dX0_singleRoots_41 rfl kb_10 ?_
      refine ev_idiv (pc' := 44) (v := 11) dX0_singleRoots_43 rfl (by decide) (by decide) ?_
      refine ev_istore_n (pc' := 45) (i := 3) (lv' := [some (.ref 12), some (.int 1), some (.int 0), some (.int 11), some (.int 0), some (.int 2)]) dX0_singleRoots_44 rfl rfl (Nat.le_of_ble_eq_true rfl) rfl rfl ?_
      refine ev_iload (pc' := 47) dX0_singleRoots_45 rfl rfl ?_
      refine ev_iconst (pc' := 48) (v := 5) dX0_singleRoots_47 rfl ki_5 ?_
      refine ev_icmp_lt (tgt := 54) (pc' := 51) dX0_singleRoots_48 rfl rfl (fun _ => ?_) (fun h => absurd (by decide) h)
      refine ev_iload_n (pc' := 55) (i := 1) dX0_singleRoots_54 rfl rfl rfl ?_
      refine ev_if_eq (tgt := 63) (pc' := 58) dX0_singleRoots_55 rfl rfl (fun h => absurd h (by decide)) (fun _ => ?_)
      refine ev_iconst (pc' := 59) (v := 0) dX0_singleRoots_58 rfl ki_0 ?_
      refine ev_istore_n (pc' := 60) (i := 1) (lv' := [some (.ref 12), some (.int 0), some (.int 0), some (.int 11), some (.int 0), some (.int 2)]) dX0_singleRoots_59 rfl rfl (Nat.le_of_ble_eq_true rfl) rfl rfl ?_
      refine ev_goto (tgt := 74) dX0_singleRoots_60 rfl ?_
      refine ev_iinc (pc' := 77) (v := 1) (lv' := [some (.ref 12), some (.int 0), some (.int 0), some (.int 11), some (.int 1), some (.int 2)]) dX0_singleRoots_74 rfl rfl (by decide) (Nat.le_of_ble_eq_true rfl) rfl rfl ?_
      refine ev_goto (tgt := 24) dX0_singleRoots_77 rfl ?_
      refine ev_iload (pc' := 26) dX0_singleRoots_24 rfl rfl ?_
      refine ev_iconst (pc' := 27) (v := 4) dX0_singleRoots_26 rfl ki_4 ?_
      refine ev_icmp_ge (tgt := 80) (pc' := 30) dX0_singleRoots_27 rfl rfl (fun h => absurd h (by decide)) (fun _ => ?_)
      refine ev_iload_n (pc' := 31) (i := 3) dX0_singleRoots_30 rfl rfl rfl ?_
      refine ev_if_eq (tgt := 80) (pc' := 34) dX0_singleRoots_31 rfl rfl (fun h => absurd h (by decide)) (fun _ => ?_)
      refine ev_iload_n (pc' := 35) (i := 3) dX0_singleRoots_34 rfl rfl rfl ?_
      refine ev_bipush (pc' := 37) (v := 10) dX0_singleRoots_35 rfl kb_10 ?_
      refine ev_irem (pc' := 38) (v := 1) dX0_singleRoots_37 rfl (by decide) (by decide) ?_
      refine ev_istore (pc' := 40) (lv' := [some (.ref 12), some (.int 0), some (.int 0), some (.int 11), some (.int 1), some (.int 1)]) dX0_singleRoots_38 rfl (Nat.le_of_ble_eq_true rfl) rfl rfl ?_
      refine ev_iload_n (pc' := 41) (i := 3) dX0_singleRoots_40 rfl rfl rfl ?_
      refine ev_bipush (pc' := 43) (v := 10) dX0_singleRoots_41 rfl kb_10 ?_
      refine ev_idiv (pc' := 44) (v := 1) dX0_singleRoots_43 rfl (by decide) (by decide) ?_
      refine ev_istore_n (pc' := 45) (i := 3) (lv' := [some (.ref 12), some (.int 0), some (.int 0), some (.int 1), some (.int 1), some (.int 1)]) dX0_singleRoots_44 rfl rfl (Nat.le_of_ble_eq_true rfl) rfl rfl ?_
      refine ev_iload (pc' := 47) dX0_singleRoots_45 rfl rfl ?_
      refine ev_iconst (pc' := 48) (v := 5) dX0_singleRoots_47 rfl ki_5 ?_
      refine ev_icmp_lt (tgt := 54) (pc' := 51) dX0_singleRoots_48 rfl rfl (fun _ => ?_) (fun h => absurd (by decide) h)
      refine ev_iload_n (pc' := 55) (i := 1) dX0_singleRoots_54 rfl rfl rfl ?_
      refine ev_if_eq (tgt := 63) (pc' := 58) dX0_singleRoots_55 rfl rfl (fun _ => ?_) (fun h => absurd (by decide) h)
      refine ev_iload (pc' := 65) dX0_singleRoots_63 rfl rfl ?_
      refine ev_iconst (pc' := 66) (v := 1) dX0_singleRoots_65 rfl ki_1 ?_
      refine ev_icmp_le (tgt := 71) (pc' := 69) dX0_singleRoots_66 rfl rfl (fun _ => ?_) (fun h => absurd (by decide) h)
      refine ev_iinc (pc' := 74) (v := 1) (lv' := [some (.ref 12), some (.int 0), some (.int 1), some (.int 1), some (.int 1), some (.int 1)]) dX0_singleRoots_71 rfl rfl (by decide) (Nat.le_of_ble_eq_true rfl) rfl rfl ?_
      refine ev_iinc (pc' := 77) (v := 2) (lv' := [some (.ref 12), some (.int 0), some (.int 1), some (.int 1), some (.int 2), some (.int 1)]) dX0_singleRoots_74 rfl rfl (by decide) (Nat.le_of_ble_eq_true rfl) rfl rfl ?_
      refine ev_goto (tgt := 24) dX0_singleRoots_77 rfl ?_
      refine ev_iload (pc' := 26) dX0_singleRoots_24 rfl rfl ?_
      refine ev_iconst (pc' := 27) (v := 4) dX0_singleRoots_26 rfl ki_4 ?_
      refine ev_icmp_ge (tgt := 80) (pc' := 30) dX0_singleRoots_27 rfl rfl (fun h => absurd h (by decide)) (fun _ => ?_)
      refine ev_iload_n (pc' := 31) (i := 3) dX0_singleRoots_30 rfl rfl rfl ?_
      refine ev_if_eq (tgt := 80) (pc' := 34) dX0_singleRoots_31 rfl rfl (fun h => absurd h (by decide)) (fun _ => ?_)
      refine ev_iload_n (pc' := 35) (i := 3) dX0_singleRoots_34 rfl rfl rfl ?_
      refine ev_bipush (pc' := 37) (v := 10) dX0_singleRoots_35 rfl kb_10 ?_
      refine ev_irem (pc' := 38) (v := 1) dX0_singleRoots_37 rfl (by decide) (by decide) ?_
      refine ev_istore (pc' := 40) (lv' := [some (.ref 12), some (.int 0), some (.int 1), some (.int 1), some (.int 2), some (.int 1)]) dX0_singleRoots_38 rfl (Nat.le_of_ble_eq_true rfl) rfl rfl ?_
      refine ev_iload_n (pc' := 41) (i := 3) dX0_singleRoots_40 rfl rfl rfl ?_
      refine ev_bipush (pc' := 43) (v := 10) dX0_singleRoots_41 rfl kb_10 ?_
      refine ev_idiv (pc' := 44) (v := 0) dX0_singleRoots_43 rfl (by decide) (by decide) ?_
      refine ev_istore_n (pc' := 45) (i := 3) (lv' := [some (.ref 12), some (.int 0), some (.int 1), some (.int 0), some (.int 2), some (.int 1)]) dX0_singleRoots_44 rfl rfl (Nat.le_of_ble_eq_true rfl) rfl rfl ?_
      refine ev_iload (pc' := 47) dX0_singleRoots_45 rfl rfl ?_
      refine ev_iconst (pc' := 48) (v := 5) dX0_singleRoots_47 rfl ki_5 ?_
      refine ev_icmp_lt (tgt := 54) (pc' := 51) dX0_singleRoots_48 rfl rfl (fun _ => ?_) (fun h => absurd (by decide) h)
      refine ev_iload_n (pc' := 55) (i := 1) dX0_singleRoots_54 rfl rfl rfl ?_
      refine ev_if_eq (tgt := 63) (pc' := 58) dX0_singleRoots_55 rfl rfl (fun _ => ?_) (fun h => absurd (by decide) h)
      refine ev_iload (pc' := 65) dX0_singleRoots_63 rfl rfl ?_
      refine ev_iconst (pc' := 66) (v := 1) dX0_singleRoots_65 rfl ki_1 ?_
      refine ev_icmp_le (tgt := 71) (pc' := 69) dX0_singleRoots_66 rfl rfl (fun _ => ?_) (fun h => absurd (by decide) h)
      refine ev_iinc (pc' := 74) (v := 2) (lv' := [some (.ref 12), some (.int 0), some (.int 2), some (.int 0), some (.int 2), some (.int 1)]) dX0_singleRoots_71 rfl rfl (by decide) (Nat.le_of_ble_eq_true rfl) rfl rfl ?_
      refine ev_iinc (pc' := 77) (v := 3) (lv' := [some (.ref 12), some (.int 0), some (.int 2), some (.int 0), some (.int 3), some (.int 1)]) dX0_singleRoots_74 rfl rfl (by decide) (Nat.le_of_ble_eq_true rfl) rfl rfl ?_
      refine ev_goto (tgt := 24) dX0_singleRoots_77 rfl ?_
      refine ev_iload (pc' := 26) dX0_singleRoots_24 rfl rfl ?_
      refine ev_iconst (pc' := 27) (v := 4) dX0_singleRoots_26 rfl ki_4 ?_
      refine ev_icmp_ge (tgt := 80) (pc' := 30) dX0_singleRoots_27 rfl rfl (fun h => absurd h (by decide)) (fun _ => ?_)
      refine ev_iload_n (pc' := 31) (i := 3) dX0_singleRoots_30 rfl rfl rfl ?_
      refine ev_if_eq (tgt := 80) (pc' := 34) dX0_singleRoots_31 rfl rfl (fun _ => ?_) (fun h => absurd (by decide) h)
      refine ev_iload_n (pc' := 81) (i := 2) dX0_singleRoots_80 rfl rfl rfl ?_
      refine ev_iret dX0_singleRoots_81 rfl rfl ⟨Nat.le_refl _, Nat.le_refl _⟩ ?_
      have e : (if (L 13) 0 = 0 then cS1 (cFig (L 13) ((L 12) 5) ((L 12) 6)) else cS0 (cFig (L 13) ((L 12) 5) ((L 12) 6))) = 2 := by rw [if_pos h6, g30]; decide
      rw [e] at k0
      exact k0 _ _ _ _
    · rw [g30] at hr
      subst hr
      refine ev_istore_n (pc' := 21) (i := 3) (lv' := [some (.ref 12), some (.int 1), some (.int 0), some (.int 115), none, none]) dX0_singleRoots_20 rfl rfl (Nat.le_of_ble_eq_true rfl) rfl rfl ?_
      refine ev_iconst (pc' := 22) (v := 0) dX0_singleRoots_21 rfl ki_0 ?_
      refine ev_istore (pc' := 24) (lv' := [some (.ref 12), some (.int 1), some (.int 0), some (.int 115), some (.int 0), none]) dX0_singleRoots_22 rfl (Nat.le_of_ble_eq_true rfl) rfl rfl ?_
      refine ev_iload (pc' := 26) dX0_singleRoots_24 rfl rfl ?_
      refine ev_iconst (pc' := 27) (v := 4) dX0_singleRoots_26 rfl ki_4 ?_
      refine ev_icmp_ge (tgt := 80) (pc' := 30) dX0_singleRoots_27 rfl rfl (fun h => absurd h (by decide)) (fun _ => ?_)
      refine ev_iload_n (pc' := 31) (i := 3) dX0_singleRoots_30 rfl rfl rfl ?_
      refine ev_if_eq (tgt := 80) (pc' := 34) dX0_singleRoots_31 rfl rfl (fun h => absurd h (by decide)) (fun _ => ?_)
      refine ev_iload_n (pc' := 35) (i := 3) dX0_singleRoots_34 rfl rfl rfl ?_
      refine ev_bipush (pc' := 37) (v := 10) dX0_singleRoots_35 rfl kb_10 ?_
      refine ev_irem (pc' := 38) (v := 5) dX0_singleRoots_37 rfl (by decide) (by decide) ?_
      refine ev_istore (pc' := 40) (lv' := [some (.ref 12), some (.int 1), some (.int 0), some (.int 115), some (.int 0), some (.int 5)]) dX0_singleRoots_38 rfl (Nat.le_of_ble_eq_true rfl) rfl rfl ?_
      refine ev_iload_n (pc' := 41) (i := 3) dX0_singleRoots_40 rfl rfl rfl ?_
      refine ev_bipush (pc' := 43) (v := 10) dX0_singleRoots_41 rfl kb_10 ?_
      refine ev_idiv (pc' := 44) (v := 11) dX0_singleRoots_43 rfl (by decide) (by decide) ?_
      refine ev_istore_n (pc' := 45) (i := 3) (lv' := [some (.ref 12), some (.int 1), some (.int 0), some (.int 11), some (.int 0), some (.int 5)]) dX0_singleRoots_44 rfl rfl (Nat.le_of_ble_eq_true rfl) rfl rfl ?_
      refine ev_iload (pc' := 47) dX0_singleRoots_45 rfl rfl ?_
      refine ev_iconst (pc' := 48) (v := 5) dX0_singleRoots_47 rfl ki_5 ?_
      refine ev_icmp_lt (tgt := 54) (pc' := 51) dX0_singleRoots_48 rfl rfl (fun h => absurd h (by decide)) (fun _ => ?_)
      refine ev_goto (tgt := 74) dX0_singleRoots_51 rfl ?_
      refine ev_iinc (pc' := 77) (v := 1) (lv' := [some (.ref 12), some (.int 1), some (.int 0), some (.int 11), some (.int 1), some (.int 5)]) dX0_singleRoots_74 rfl rfl (by decide) (Nat.le_of_ble_eq_true rfl) rfl rfl ?_
      refine ev_goto (tgt := 24) dX0_singleRoots_77 rfl ?_
      refine ev_iload (pc' := 26) dX0_singleRoots_24 rfl rfl ?_
      refine ev_iconst (pc' := 27) (v := 4) dX0_singleRoots_26 rfl ki_4 ?_
      refine ev_icmp_ge (tgt := 80) (pc' := 30) dX0_singleRoots_27 rfl rfl (fun h => absurd h (by decide)) (fun _ => ?_)
      refine ev_iload_n (pc' := 31) (i := 3) dX0_singleRoots_30 rfl rfl rfl ?_
      refine ev_if_eq (tgt := 80) (pc' := 34) dX0_singleRoots_31 rfl rfl (fun h => absurd h (by decide)) (fun _ => ?_)
      refine ev_iload_n (pc' := 35) (i := 3) dX0_singleRoots_34 rfl rfl rfl ?_
      refine ev_bipush (pc' := 37) (v := 10) dX0_singleRoots_35 rfl kb_10 ?_
      refine ev_irem (pc' := 38) (v := 1) dX0_singleRoots_37 rfl (by decide) (by decide) ?_
      refine ev_istore (pc' := 40) (lv' := [some (.ref 12), some (.int 1), some (.int 0), some (.int 11), some (.int 1), some (.int 1)]) dX0_singleRoots_38 rfl (Nat.le_of_ble_eq_true rfl) rfl rfl ?_
      refine ev_iload_n (pc' := 41) (i := 3) dX0_singleRoots_40 rfl rfl rfl ?_
      refine ev_bipush (pc' := 43) (v := 10) dX0_singleRoots_41 rfl kb_10 ?_
      refine ev_idiv (pc' := 44) (v := 1) dX0_singleRoots_43 rfl (by decide) (by decide) ?_
      refine ev_istore_n (pc' := 45) (i := 3) (lv' := [some (.ref 12), some (.int 1), some (.int 0), some (.int 1), some (.int 1), some (.int 1)]) dX0_singleRoots_44 rfl rfl (Nat.le_of_ble_eq_true rfl) rfl rfl ?_
      refine ev_iload (pc' := 47) dX0_singleRoots_45 rfl rfl ?_
      refine ev_iconst (pc' := 48) (v := 5) dX0_singleRoots_47 rfl ki_5 ?_
      refine ev_icmp_lt (tgt := 54) (pc' := 51) dX0_singleRoots_48 rfl rfl (fun _ => ?_) (fun h => absurd (by decide) h)
      refine ev_iload_n (pc' := 55) (i := 1) dX0_singleRoots_54 rfl rfl rfl ?_
      refine ev_if_eq (tgt := 63) (pc' := 58) dX0_singleRoots_55 rfl rfl (fun h => absurd h (by decide)) (fun _ => ?_)
      refine ev_iconst (pc' := 59) (v := 0) dX0_singleRoots_58 rfl ki_0 ?_
      refine ev_istore_n (pc' := 60) (i := 1) (lv' := [some (.ref 12), some (.int 0), some (.int 0), some (.int 1), some (.int 1), some (.int 1)]) dX0_singleRoots_59 rfl rfl (Nat.le_of_ble_eq_true rfl) rfl rfl ?_
      refine ev_goto (tgt := 74) dX0_singleRoots_60 rfl ?_
      refine ev_iinc (pc' := 77) (v := 2) (lv' := [some (.ref 12), some (.int 0), some (.int 0), some (.int 1), some (.int 2), some (.int 1)]) dX0_singleRoots_74 rfl rfl (by decide) (Nat.le_of_ble_eq_true rfl) rfl rfl ?_
      refine ev_goto (tgt := 24) dX0_singleRoots_77 rfl ?_
      refine ev_iload (pc' := 26) dX0_singleRoots_24 rfl rfl ?_
      refine ev_iconst (pc' := 27) (v := 4) dX0_singleRoots_26 rfl ki_4 ?_
      refine ev_icmp_ge (tgt := 80) (pc' := 30) dX0_singleRoots_27 rfl rfl (fun h => absurd h (by decide)) (fun _ => ?_)
      refine ev_iload_n (pc' := 31) (i := 3) dX0_singleRoots_30 rfl rfl rfl ?_
      refine ev_if_eq (tgt := 80) (pc' := 34) dX0_singleRoots_31 rfl rfl (fun h => absurd h (by decide)) (fun _ => ?_)
      refine ev_iload_n (pc' := 35) (i := 3) dX0_singleRoots_34 rfl rfl rfl ?_
      refine ev_bipush (pc' := 37) (v := 10) dX0_singleRoots_35 rfl kb_10 ?_
      refine ev_irem (pc' := 38) (v := 1) dX0_singleRoots_37 rfl (by decide) (by decide) ?_
      refine ev_istore (pc' := 40) (lv' := [some (.ref 12), some (.int 0), some (.int 0), some (.int 1), some (.int 2), some (.int 1)]) dX0_singleRoots_38 rfl (Nat.le_of_ble_eq_true rfl) rfl rfl ?_
      refine ev_iload_n (pc' := 41) (i := 3) dX0_singleRoots_40 rfl rfl rfl ?_
      refine ev_bipush (pc' := 43) (v := 10) dX0_singleRoots_41 rfl kb_10 ?_
      refine ev_idiv (pc' := 44) (v := 0) dX0_singleRoots_43 rfl (by decide) (by decide) ?_
      refine ev_istore_n (pc' := 45) (i := 3) (lv' := [some (.ref 12), some (.int 0), some (.int 0), some (.int 0), some (.int 2), some (.int 1)]) dX0_singleRoots_44 rfl rfl (Nat.le_of_ble_eq_true rfl) rfl rfl ?_
      refine ev_iload (pc' := 47) dX0_singleRoots_45 rfl rfl ?_
      refine ev_iconst (pc' := 48) (v := 5) dX0_singleRoots_47 rfl ki_5 ?_
      refine ev_icmp_lt (tgt := 54) (pc' := 51) dX0_singleRoots_48 rfl rfl (fun _ => ?_) (fun h => absurd (by decide) h)
      refine ev_iload_n (pc' := 55) (i := 1) dX0_singleRoots_54 rfl rfl rfl ?_
      refine ev_if_eq (tgt := 63) (pc' := 58) dX0_singleRoots_55 rfl rfl (fun _ => ?_) (fun h => absurd (by decide) h)
      refine ev_iload (pc' := 65) dX0_singleRoots_63 rfl rfl ?_
      refine ev_iconst (pc' := 66) (v := 1) dX0_singleRoots_65 rfl ki_1 ?_
      refine ev_icmp_le (tgt := 71) (pc' := 69) dX0_singleRoots_66 rfl rfl (fun _ => ?_) (fun h => absurd (by decide) h)
      refine ev_iinc (pc' := 74) (v := 1) (lv' := [some (.ref 12), some (.int 0), some (.int 1), some (.int 0), some (.int 2), some (.int 1)]) dX0_singleRoots_71 rfl rfl (by decide) (Nat.le_of_ble_eq_true rfl) rfl rfl ?_
      refine ev_iinc (pc' := 77) (v := 3) (lv' := [some (.ref 12), some (.int 0), some (.int 1), some (.int 0), some (.int 3), some (.int 1)]) dX0_singleRoots_74 rfl rfl (by decide) (Nat.le_of_ble_eq_true rfl) rfl rfl ?_
      refine ev_goto (tgt := 24) dX0_singleRoots_77 rfl ?_
      refine ev_iload (pc' := 26) dX0_singleRoots_24 rfl rfl ?_
      refine ev_iconst (pc' := 27) (v := 4) dX0_singleRoots_26 rfl ki_4 ?_
      refine ev_icmp_ge (tgt := 80) (pc' := 30) dX0_singleRoots_27 rfl rfl (fun h => absurd h (by decide)) (fun _ => ?_)
      refine ev_iload_n (pc' := 31) (i := 3) dX0_singleRoots_30 rfl rfl rfl ?_
      refine ev_if_eq (tgt := 80) (pc' := 34) dX0_singleRoots_31 rfl rfl (fun _ => ?_) (fun h => absurd (by decide) h)
      refine ev_iload_n (pc' := 81) (i := 2) dX0_singleRoots_80 rfl rfl rfl ?_
      refine ev_iret dX0_singleRoots_81 rfl rfl ⟨Nat.le_refl _, Nat.le_refl _⟩ ?_
      have e : (if (L 13) 0 = 0 then cS1 (cFig (L 13) ((L 12) 5) ((L 12) 6)) else cS0 (cFig (L 13) ((L 12) 5) ((L 12) 6))) = 1 := by rw [if_pos h6, g30]; decide
      rw [e] at k0
      exact k0 _ _ _ _
    · rw [g30] at hr
      subst hr
      refine ev_istore_n (pc' := 21) (i := 3) (lv' := [some (.ref 12), some (.int 1), some (.int 0), some (.int 121), none, none]) dX0_singleRoots_20 rfl rfl (Nat.le_of_ble_eq_true rfl) rfl rfl ?_
      refine ev_iconst (pc' := 22) (v := 0) dX0_singleRoots_21 rfl ki_0 ?_
      refine ev_istore (pc' := 24) (lv' := [some (.ref 12), some (.int 1), some (.int 0), some (.int 121), some (.int 0), none]) dX0_singleRoots_22 rfl (Nat.le_of_ble_eq_true rfl) rfl rfl ?_
      refine ev_iload (pc' := 26) dX0_singleRoots_24 rfl rfl ?_
      refine ev_iconst (pc' := 27) (v := 4) dX0_singleRoots_26 rfl ki_4 ?_
      refine ev_icmp_ge (tgt := 80) (pc' := 30) dX0_singleRoots_27 rfl rfl (fun h => absurd h (by decide)) (fun _ => ?_)
      refine ev_iload_n (pc' := 31) (i := 3) dX0_singleRoots_30 rfl rfl rfl ?_
      refine ev_if_eq (tgt := 80) (pc' := 34) dX0_singleRoots_31 rfl rfl (fun h => absurd h (by decide)) (fun _ => ?_)
      refine ev_iload_n (pc' := 35) (i := 3) dX0_singleRoots_34 rfl rfl rfl ?_
      refine ev_bipush (pc' := 37) (v := 10) dX0_singleRoots_35 rfl kb_10 ?_
      refine ev_irem (pc' := 38) (v := 1) dX0_singleRoots_37 rfl (by decide) (by decide) ?_
      refine ev_istore (pc' := 40) (lv' := [some (.ref 12), some (.int 1), some (.int 0), some (.int 121), some (.int 0), some (.int 1)]) dX0_singleRoots_38 rfl (Nat.le_of_ble_eq_true rfl) rfl rfl ?_
      refine ev_iload_n (pc' := 41) (i := 3) dX0_singleRoots_40 rfl rfl rfl ?_
      refine ev_bipush (pc' := 43) (v := 10) dX0_singleRoots_41 rfl kb_10 ?_
      refine ev_idiv (pc' := 44) (v := 12) dX0_singleRoots_43 rfl (by decide) (by decide) ?_
      refine ev_istore_n (pc' := 45) (i := 3) (lv' := [some (.ref 12), some (.int 1), some (.int 0), some (.int 12), some (.int 0), some (.int 1)]) dX0_singleRoots_44 rfl rfl (Nat.le_of_ble_eq_true rfl) rfl rfl ?_
      refine ev_iload (pc' := 47) dX0_singleRoots_45 rfl rfl ?_
      refine ev_iconst (pc' := 48) (v := 5) dX0_singleRoots_47 rfl ki_5 ?_
      refine ev_icmp_lt (tgt := 54) (pc' := 51) dX0_singleRoots_48 rfl rfl (fun _ => ?_) (fun h => absurd (by decide) h)
      refine ev_iload_n (pc' := 55) (i := 1) dX0_singleRoots_54 rfl rfl rfl ?_
      refine ev_if_eq (tgt := 63) (pc' := 58) dX0_singleRoots_55 rfl rfl (fun h => absurd h (by decide)) (fun _ => ?_)
      refine ev_iconst (pc' := 59) (v := 0) dX0_singleRoots_58 rfl ki_0 ?_
      refine ev_istore_n (pc' := 60) (i := 1) (lv' := [some (.ref 12), some (.int 0), some (.int 0), some (.int 12), some (.int 0), some (.int 1)]) dX0_singleRoots_59 rfl rfl (Nat.le_of_ble_eq_true rfl) rfl rfl ?_
      refine ev_goto (tgt := 74) dX0_singleRoots_60 rfl ?_
      refine ev_iinc (pc' := 77) (v := 1) (lv' := [some (.ref 12), some (.int 0), some (.int 0), some (.int 12), some (.int 1), some (.int 1)]) dX0_singleRoots_74 rfl rfl (by decide) (Nat.le_of_ble_eq_true rfl) rfl rfl ?_
      refine ev_goto (tgt := 24) dX0_singleRoots_77 rfl ?_
      refine ev_iload (pc' := 26) dX0_singleRoots_24 rfl rfl ?_
      refine ev_iconst (pc' := 27) (v := 4) dX0_singleRoots_26 rfl ki_4 ?_
      refine ev_icmp_ge (tgt := 80) (pc' := 30) dX0_singleRoots_27 rfl rfl (fun h => absurd h (by decide)) (fun _ => ?_)
      refine ev_iload_n (pc' := 31) (i := 3) dX0_singleRoots_30 rfl rfl rfl ?_
      refine ev_if_eq (tgt := 80) (pc' := 34) dX0_singleRoots_31 rfl rfl (fun h => absurd h (by decide)) (fun _ => ?_)
      refine ev_iload_n (pc' := 35) (i := 3) dX0_singleRoots_34 rfl rfl rfl ?_
      refine ev_bipush (pc' := 37) (v := 10) dX0_singleRoots_35 rfl kb_10 ?_
      refine ev_irem (pc' := 38) (v := 2) dX0_singleRoots_37 rfl (by decide) (by decide) ?_
      refine ev_istore (pc' := 40) (lv' := [some (.ref 12), some (.int 0), some (.int 0), some (.int 12), some (.int 1), some (.int 2)]) dX0_singleRoots_38 rfl (Nat.le_of_ble_eq_true rfl) rfl rfl ?_
      refine ev_iload_n (pc' := 41) (i := 3) dX0_singleRoots_40 rfl rfl rfl ?_
      refine ev_bipush (pc' := 43) (v := 10) dX0_singleRoots_41 rfl kb_10 ?_
      refine ev_idiv (pc' := 44) (v := 1) dX0_singleRoots_43 rfl (by decide) (by decide) ?_
      refine ev_istore_n (pc' := 45) (i := 3) (lv' := [some (.ref 12), some (.int 0), some (.int 0), some (.int 1), some (.int 1), some (.int 2)]) dX0_singleRoots_44 rfl rfl (Nat.le_of_ble_eq_true rfl) rfl rfl ?_
      refine ev_iload (pc' := 47) dX0_singleRoots_45 rfl rfl ?_
      refine ev_iconst (pc' := 48) (v := 5) dX0_singleRoots_47 rfl ki_5 ?_
      refine ev_icmp_lt (tgt := 54) (pc' := 51) dX0_singleRoots_48 rfl rfl (fun _ => ?_) (fun h => absurd (by decide) h)
      refine ev_iload_n (pc' := 55) (i := 1) dX0_singleRoots_54 rfl rfl rfl ?_
      refine ev_if_eq (tgt := 63) (pc' := 58) dX0_singleRoots_55 rfl rfl (fun _ => ?_) (fun h => absurd (by decide) h)
      refine ev_iload (pc' := 65) dX0_singleRoots_63 rfl rfl ?_
      refine ev_iconst (pc' := 66) (v := 1) dX0_singleRoots_65 rfl ki_1 ?_
      refine ev_icmp_le (tgt := 71) (pc' := 69) dX0_singleRoots_66 rfl rfl (fun h => absurd h (by decide)) (fun _ => ?_)
      refine ev_iconst (pc' := 70) (v := (-1)) dX0_singleRoots_69 rfl ki_m1 ?_
      refine ev_iret dX0_singleRoots_70 rfl rfl ⟨Nat.le_refl _, Nat.le_refl _⟩ ?_
      have e : (if (L 13) 0 = 0 then cS1 (cFig (L 13) ((L 12) 5) ((L 12) 6)) else cS0 (cFig (L 13) ((L 12) 5) ((L 12) 6))) = (-1) := by rw [if_pos h6, g30]; decide
      rw [e] at k0
      exact k0 _ _ _ _
    · rw [g30] at hr
      subst hr
      refine ev_istore_n (pc' := 21) (i := 3) (lv' := [some (.ref 12), some (.int 1), some (.int 0), some (.int 211), none, none]) dX0_singleRoots_20 rfl rfl (Nat.le_of_ble_eq_true rfl) rfl rfl ?_
      refine ev_iconst (pc' := 22) (v := 0) dX0_singleRoots_21 rfl ki_0 ?_
      refine ev_istore (pc' := 24) (lv' := [some (.ref 12), some (.int 1), some (.int 0), some (.int 211), some (.int 0), none]) dX0_singleRoots_22 rfl (Nat.le_of_ble_eq_true rfl) rfl rfl ?_
      refine ev_iload (pc' := 26) dX0_singleRoots_24 rfl rfl ?_
      refine ev_iconst (pc' := 27) (v := 4) dX0_singleRoots_26 rfl ki_4 ?_
      refine ev_icmp_ge (tgt := 80) (pc' := 30) dX0_singleRoots_27 rfl rfl (fun h => absurd h (by decide)) (fun _ => ?_)
      refine ev_iload_n (pc' := 31) (i := 3) dX0_singleRoots_30 rfl rfl rfl ?_
      refine ev_if_eq (tgt := 80) (pc' := 34) dX0_singleRoots_31 rfl rfl (fun h => absurd h (by decide)) (fun _ => ?_)
      refine ev_iload_n (pc' := 35) (i := 3) dX0_singleRoots_34 rfl rfl rfl ?_
      refine ev_bipush (pc' := 37) (v := 10) dX0_singleRoots_35 rfl kb_10 ?_
      refine ev_irem (pc' := 38) (v := 1) dX0_singleRoots_37 rfl (by decide) (by decide) ?_
      refine ev_istore (pc' := 40) (lv' := [some (.ref 12), some (.int 1), some (.int 0), some (.int 211), some (.int 0), some (.int 1)]) dX0_singleRoots_38 rfl (Nat.le_of_ble_eq_true rfl) rfl rfl ?_
      refine ev_iload_n (pc' := 41) (i := 3) dX0_singleRoots_40 rfl rfl rfl ?_
      refine ev_bipush (pc' := 43) (v := 10) dX0_singleRoots_41 rfl kb_10 ?_
      refine ev_idiv (pc' := 44) (v := 21) dX0_singleRoots_43 rfl (by decide) (by decide) ?_
      refine ev_istore_n (pc' := 45) (i := 3) (lv' := [some (.ref 12), some (.int 1), some (.int 0), some (.int 21), some (.int 0), some (.int 1)]) dX0_singleRoots_44 rfl rfl (Nat.le_of_ble_eq_true rfl) rfl rfl ?_
      refine ev_iload (pc' := 47) dX0_singleRoots_45 rfl rfl ?_
      refine ev_iconst (pc' := 48) (v := 5) dX0_singleRoots_47 rfl ki_5 ?_
      refine ev_icmp_lt (tgt := 54) (pc' := 51) dX0_singleRoots_48 rfl rfl (fun _ => ?_) (fun h => absurd (by decide) h)
      refine ev_iload_n (pc' := 55) (i := 1) dX0_singleRoots_54 rfl rfl rfl ?_
      refine ev_if_eq (tgt := 63) (pc' := 58) dX0_singleRoots_55 rfl rfl (fun h => absurd h (by decide)) (fun _ => ?_)
      refine ev_iconst (pc' := 59) (v := 0) dX0_singleRoots_58 rfl ki_0 ?_
      refine ev_istore_n (pc' := 60) (i := 1) (lv' := [some (.ref 12), some (.int 0), some (.int 0), some (.int 21), some (.int 0), some (.int 1)]) dX0_singleRoots_59 rfl rfl (Nat.le_of_ble_eq_true rfl) rfl rfl ?_
      refine ev_goto (tgt := 74) dX0_singleRoots_60 rfl ?_
      refine ev_iinc (pc' := 77) (v := 1) (lv' := [some (.ref 12), some (.int 0), some (.int 0), some (.int 21), some (.int 1), some (.int 1)]) dX0_singleRoots_74 rfl rfl (by decide) (Nat.le_of_ble_eq_true rfl) rfl rfl ?_
      refine ev_goto (tgt := 24) dX0_singleRoots_77 rfl ?_
      refine ev_iload (pc' := 26) dX0_singleRoots_24 rfl rfl ?_
      refine ev_iconst (pc' := 27) (v := 4) dX0_singleRoots_26 rfl ki_4 ?_
      refine ev_icmp_ge (tgt := 80) (pc' := 30) dX0_singleRoots_27 rfl rfl (fun h => absurd h (by decide)) (fun _ => ?_)
      refine ev_iload_n (pc' := 31) (i := 3) dX0_singleRoots_30 rfl rfl rfl ?_
      refine ev_if_eq (tgt := 80) (pc' := 34) dX0_singleRoots_31 rfl rfl (fun h => absurd h (by decide)) (fun _ => ?_)
      refine ev_iload_n (pc' := 35) (i := 3) dX0_singleRoots_34 rfl rfl rfl ?_
      refine ev_bipush (pc' := 37) (v := 10) dX0_singleRoots_35 rfl kb_10 ?_
      refine ev_irem (pc' := 38) (v := 1) dX0_singleRoots_37 rfl (by decide) (by decide) ?_
      refine ev_istore (pc' := 40) (lv' := [some (.ref 12), some (.int 0), some (.int 0), some (.int 21), some (.int 1), some (.int 1)]) dX0_singleRoots_38 rfl (Nat.le_of_ble_eq_true rfl) rfl rfl ?_
      refine ev_iload_n (pc' := 41) (i := 3) dX0_singleRoots_40 rfl rfl rfl ?_
      refine ev_bipush (pc' := 43) (v := 10) dX0_singleRoots_41 rfl kb_10 ?_
      refine ev_idiv (pc' := 44) (v := 2) dX0_singleRoots_43 rfl (by decide) (by decide) ?_
      refine ev_istore_n (pc' := 45) (i := 3) (lv' := [some (.ref 12), some (.int 0), some (.int 0), some (.int 2), some (.int 1), some (.int 1)]) dX0_singleRoots_44 rfl rfl (Nat.le_of_ble_eq_true rfl) rfl rfl ?_
      refine ev_iload (pc' := 47) dX0_singleRoots_45 rfl rfl ?_
      refine ev_iconst (pc' := 48) (v := 5) dX0_singleRoots_47 rfl ki_5 ?_
      refine ev_icmp_lt (tgt := 54) (pc' := 51) dX0_singleRoots_48 rfl rfl (fun _ => ?_) (fun h => absurd (by decide) h)
      refine ev_iload_n (pc' := 55) (i := 1) dX0_singleRoots_54 rfl rfl rfl ?_
      refine ev_if_eq (tgt := 63) (pc' := 58) dX0_singleRoots_55 rfl rfl (fun _ => ?_) (fun h => absurd (by decide) h)
      refine ev_iload (pc' := 65) dX0_singleRoots_63 rfl rfl ?_
      refine ev_iconst (pc' := 66) (v := 1) dX0_singleRoots_65 rfl ki_1 ?_
      refine ev_icmp_le (tgt := 71) (pc' := 69) dX0_singleRoots_66 rfl rfl (fun _ => ?_) (fun h => absurd (by decide) h)
      refine ev_iinc (pc' := 74) (v := 1) (lv' := [some (.ref 12), some (.int 0), some (.int 1), some (.int 2), some (.int 1), some (.int 1)]) dX0_singleRoots_71 rfl rfl (by decide) (Nat.le_of_ble_eq_true rfl) rfl rfl ?_
      refine ev_iinc (pc' := 77) (v := 2) (lv' := [some (.ref 12), some (.int 0), some (.int 1), some (.int 2), some (.int 2), some (.int 1)]) dX0_singleRoots_74 rfl rfl (by decide) (Nat.le_of_ble_eq_true rfl) rfl rfl ?_
      refine ev_goto (tgt := 24) dX0_singleRoots_77 rfl ?_
      refine ev_iload (pc' := 26) dX0_singleRoots_24 rfl rfl ?_
      refine ev_iconst (pc' := 27) (v := 4) dX0_singleRoots_26 rfl ki_4 ?_
      refine ev_icmp_ge (tgt := 80) (pc' := 30) dX0_singleRoots_27 rfl rfl (fun h => absurd h (by decide)) (fun _ => ?_)
      refine ev_iload_n (pc' := 31) (i := 3) dX0_singleRoots_30 rfl rfl rfl ?_
      refine ev_if_eq (tgt := 80) (pc' := 34) dX0_singleRoots_31 rfl rfl (fun h => absurd h (by decide)) (fun _ => ?_)
      refine ev_iload_n (pc' := 35) (i := 3) dX0_singleRoots_34 rfl rfl rfl ?_
      refine ev_bipush (pc' := 37) (v := 10) dX0_singleRoots_35 rfl kb_10 ?_
      refine ev_irem (pc' := 38) (v := 2) dX0_singleRoots_37 rfl (by decide) (by decide) ?_
      refine ev_istore (pc' := 40) (lv' := [some (.ref 12), some (.int 0), some (.int 1), some (.int 2), some (.int 2), some (.int 2)]) dX0_singleRoots_38 rfl (Nat.le_of_ble_eq_true rfl) rfl rfl ?_
      refine ev_iload_n (pc' := 41) (i := 3) dX0_singleRoots_40 rfl rfl rfl ?_
      refine ev_bipush (pc' := 43) (v := 10) dX0_singleRoots_41 rfl kb_10 ?_
      refine ev_idiv (pc' := 44) (v := 0) dX0_singleRoots_43 rfl (by decide) (by decide) ?_
      refine ev_istore_n (pc' := 45) (i := 3) (lv' := [some (.ref 12), some (.int 0), some (.int 1), some (.int 0), some (.int 2), some (.int 2)]) dX0_singleRoots_44 rfl rfl (Nat.le_of_ble_eq_true rfl) rfl rfl ?_
      refine ev_iload (pc' := 47) dX0_singleRoots_45 rfl rfl ?_
      refine ev_iconst (pc' := 48) (v := 5) dX0_singleRoots_47 rfl ki_5 ?_
      refine ev_icmp_lt (tgt := 54) (pc' := 51) dX0_singleRoots_48 rfl rfl (fun _ => ?_) (fun h => absurd (by decide) h)
      refine ev_iload_n (pc' := 55) (i := 1) dX0_singleRoots_54 rfl rfl rfl ?_
      refine ev_if_eq (tgt := 63) (pc' := 58) dX0_singleRoots_55 rfl rfl (fun _ => ?_) (fun h => absurd (by decide) h)
      refine ev_iload (pc' := 65) dX0_singleRoots_63 rfl rfl ?_
      refine ev_iconst (pc' := 66) (v := 1) dX0_singleRoots_65 rfl ki_1 ?_
      refine ev_icmp_le (tgt := 71) (pc' := 69) dX0_singleRoots_66 rfl rfl (fun h => absurd h (by decide)) (fun _ => ?_)
      refine ev_iconst (pc' := 70) (v := (-1)) dX0_singleRoots_69 rfl ki_m1 ?_
      refine ev_iret dX0_singleRoots_70 rfl rfl ⟨Nat.le_refl _, Nat.le_refl _⟩ ?_
      have e : (if (L 13) 0 = 0 then cS1 (cFig (L 13) ((L 12) 5) ((L 12) 6)) else cS0 (cFig (L 13) ((L 12) 5) ((L 12) 6))) = (-1) := by rw [if_pos h6, g30]; decide
      rw [e] at k0
      exact k0 _ _ _ _
    · rw [g30] at hr
      subst hr
      refine ev_istore_n (pc' := 21) (i := 3) (lv' := [some (.ref 12), some (.int 1), some (.int 0), some (.int 1111), none, none]) dX0_singleRoots_20 rfl rfl (Nat.le_of_ble_eq_true rfl) rfl rfl ?_
      refine ev_iconst (pc' := 22) (v := 0) dX0_singleRoots_21 rfl ki_0 ?_
      refine ev_istore (pc' := 24) (lv' := [some (.ref 12), some (.int 1), some (.int 0), some (.int 1111), some (.int 0), none]) dX0_singleRoots_22 rfl (Nat.le_of_ble_eq_true rfl) rfl rfl ?_
      refine ev_iload (pc' := 26) dX0_singleRoots_24 rfl rfl ?_
      refine ev_iconst (pc' := 27) (v := 4) dX0_singleRoots_26 rfl ki_4 ?_
      refine ev_icmp_ge (tgt := 80) (pc' := 30) dX0_singleRoots_27 rfl rfl (fun h => absurd h (by decide)) (fun _ => ?_)
      refine ev_iload_n (pc' := 31) (i := 3) dX0_singleRoots_30 rfl rfl rfl ?_
      refine ev_if_eq (tgt := 80) (pc' := 34) dX0_singleRoots_31 rfl rfl (fun h => absurd h (by decide)) (fun _ => ?_)
      refine ev_iload_n (pc' := 35) (i := 3) dX0_singleRoots_34 rfl rfl rfl ?_
      refine ev_bipush (pc' := 37) (v := 10) dX0_singleRoots_35 rfl kb_10 ?_
      refine ev_irem (pc' := 38) (v := 1) dX0_singleRoots_37 rfl (by decide) (by decide) ?_
      refine ev_istore (pc' := 40) (lv' := [some (.ref 12), some (.int 1), some (.int 0), some (.int 1111), some (.int 0), some (.int 1)]) dX0_singleRoots_38 rfl (Nat.le_of_ble_eq_true rfl) rfl rfl ?_
      refine ev_iload_n (pc' := 41) (i := 3) dX0_singleRoots_40 rfl rfl rfl ?_
      refine ev_bipush (pc' := 43) (v := 10) dX0_singleRoots_41 rfl kb_10 ?_
      refine ev_idiv (pc' := 44) (v := 111) dX0_singleRoots_43 rfl (by decide) (by decide) ?_
      refine ev_istore_n (pc' := 45) (i := 3) (lv' := [some (.ref 12), some (.int 1), some (.int 0), some (.int 111), some (.int 0), some (.int 1)]) dX0_singleRoots_44 rfl rfl (Nat.le_of_ble_eq_true rfl) rfl rfl ?_
      refine ev_iload (pc' := 47) dX0_singleRoots_45 rfl rfl ?_
      refine ev_iconst (pc' := 48) (v := 5) dX0_singleRoots_47 rfl ki_5 ?_
      refine ev_icmp_lt (tgt := 54) (pc' := 51) dX0_singleRoots_48 rfl rfl (fun _ => ?_) (fun h => absurd (by decide) h)
      refine ev_iload_n (pc' := 55) (i := 1) dX0_singleRoots_54 rfl rfl rfl ?_
      refine ev_if_eq (tgt := 63) (pc' := 58) dX0_singleRoots_55 rfl rfl (fun h => absurd h (by decide)) (fun _ => ?_)
      refine ev_iconst (pc' := 59) (v := 0) dX0_singleRoots_58 rfl ki_0 ?_
      refine ev_istore_n (pc' := 60) (i := 1) (lv' := [some (.ref 12), some (.int 0), some (.int 0), some (.int 111), some (.int 0), some (.int 1)]) dX0_singleRoots_59 rfl rfl (Nat.le_of_ble_eq_true rfl) rfl rfl ?_
      refine ev_goto (tgt := 74) dX0_singleRoots_60 rfl ?_
      refine ev_iinc (pc' := 77) (v := 1) (lv' := [some (.ref 12), some (.int 0), some (.int 0), some (.int 111), some (.int 1), some (.int 1)]) dX0_singleRoots_74 rfl rfl (by decide) (Nat.le_of_ble_eq_true rfl) rfl rfl ?_
      refine ev_goto (tgt := 24) dX0_singleRoots_77 rfl ?_
      refine ev_iload (pc' := 26) dX0_singleRoots_24 rfl rfl ?_
      refine ev_iconst (pc' := 27) (v := 4) dX0_singleRoots_26 rfl ki_4 ?_
      refine ev_icmp_ge (tgt := 80) (pc' := 30) dX0_singleRoots_27 rfl rfl (fun h => absurd h (by decide)) (fun _ => ?_)
      refine ev_iload_n (pc' := 31) (i := 3) dX0_singleRoots_30 rfl rfl rfl ?_
      refine ev_if_eq (tgt := 80) (pc' := 34) dX0_singleRoots_31 rfl rfl (fun h => absurd h (by decide)) (fun _ => ?_)
      refine ev_iload_n (pc' := 35) (i := 3) dX0_singleRoots_34 rfl rfl rfl ?_
      refine ev_bipush (pc' := 37) (v := 10) dX0_singleRoots_35 rfl kb_10 ?_
      refine ev_irem (pc' := 38) (v := 1) dX0_singleRoots_37 rfl (by decide) (by decide) ?_
      refine ev_istore (pc' := 40) (lv' := [some (.ref 12), some (.int 0), some (.int 0), some (.int 111), some (.int 1), some (.int 1)]) dX0_singleRoots_38 rfl (Nat.le_of_ble_eq_true rfl) rfl rfl ?_
      refine ev_iload_n (pc' := 41) (i := 3) dX0_singleRoots_40 rfl rfl rfl ?_
      refine ev_bipush (pc' := 43) (v := 10) dX0_singleRoots_41 rfl kb_10 ?_
      refine ev_idiv (pc' := 44) (v := 11) dX0_singleRoots_43 rfl (by decide) (by decide) ?_
      refine ev_istore_n (pc' := 45) (i := 3) (lv' := [some (.ref 12), some (.int 0), some (.int 0), some (.int 11), some (.int 1), some (.int 1)]) dX0_singleRoots_44 rfl rfl (Nat.le_of_ble_eq_true rfl) rfl rfl ?_
      refine ev_iload (pc' := 47) dX0_singleRoots_45 rfl rfl ?_
      refine ev_iconst (pc' := 48) (v := 5) dX0_singleRoots_47 rfl ki_5 ?_
      refine ev_icmp_lt (tgt := 54) (pc' := 51) dX0_singleRoots_48 rfl rfl (fun _ => ?_) (fun h => absurd (by decide) h)
      refine ev_iload_n (pc' := 55) (i := 1) dX0_singleRoots_54 rfl rfl rfl ?_
      refine ev_if_eq (tgt := 63) (pc' := 58) dX0_singleRoots_55 rfl rfl (fun _ => ?_) (fun h => absurd (by decide) h)
      refine ev_iload (pc' := 65) dX0_singleRoots_63 rfl rfl ?_
      refine ev_iconst (pc' := 66) (v := 1) dX0_singleRoots_65 rfl ki_1 ?_
      refine ev_icmp_le (tgt := 71) (pc' := 69) dX0_singleRoots_66 rfl rfl (fun _ => ?_) (fun h => absurd (by decide) h)
      refine ev_iinc (pc' := 74) (v := 1) (lv' := [some (.ref 12), some (.int 0), some (.int 1), some (.int 11), some (.int 1), some (.int 1)]) dX0_singleRoots_71 rfl rfl (by decide) (Nat.le_of_ble_eq_true rfl) rfl rfl ?_
      refine ev_iinc (pc' := 77) (v := 2) (lv' := [some (.ref 12), some (.int 0), some (.int 1), some (.int 11), some (.int 2), some (.int 1)]) dX0_singleRoots_74 rfl rfl (by decide) (Nat.le_of_ble_eq_true rfl) rfl rfl ?_
      refine ev_goto (tgt := 24) dX0_singleRoots_77 rfl ?_
      refine ev_iload (pc' := 26) dX0_singleRoots_24 rfl rfl ?_
      refine ev_iconst (pc' := 27) (v := 4) dX0_singleRoots_26 rfl ki_4 ?_
      refine ev_icmp_ge (tgt := 80) (pc' := 30) dX0_singleRoots_27 rfl rfl (fun h => absurd h (by decide)) (fun _ => ?_)
      refine ev_iload_n (pc' := 31) (i := 3) dX0_singleRoots_30 rfl rfl rfl ?_
      refine ev_if_eq (tgt := 80) (pc' := 34) dX0_singleRoots_31 rfl rfl (fun h => absurd h (by decide)) (fun _ => ?_)
      refine ev_iload_n (pc' := 35) (i := 3) dX0_singleRoots_34 rfl rfl rfl ?_
      refine ev_bipush (pc' := 37) (v := 10) dX0_singleRoots_35 rfl kb_10 ?_
      refine ev_irem (pc' := 38) (v := 1) dX0_singleRoots_37 rfl (by decide) (by decide) ?_
      refine ev_istore (pc' := 40) (lv' := [some (.ref 12), some (.int 0), some (.int 1), some (.int 11), some (.int 2), some (.int 1)]) dX0_singleRoots_38 rfl (Nat.le_of_ble_eq_true rfl) rfl rfl ?_
      refine ev_iload_n (pc' := 41) (i := 3) dX0_singleRoots_40 rfl rfl rfl ?_
      refine ev_bipush (pc' := 43) (v := 10) dX0_singleRoots_41 rfl kb_10 ?_
      refine ev_idiv (pc' := 44) (v := 1) dX0_singleRoots_43 rfl (by decide) (by decide) ?_
      refine ev_istore_n (pc' := 45) (i := 3) (lv' := [some (.ref 12), some (.int 0), some (.int 1), some (.int 1), some (.int 2), some (.int 1)]) dX0_singleRoots_44 rfl rfl (Nat.le_of_ble_eq_true rfl) rfl rfl ?_
      refine ev_iload (pc' := 47) dX0_singleRoots_45 rfl rfl ?_
      refine ev_iconst (pc' := 48) (v := 5) dX0_singleRoots_47 rfl ki_5 ?_
      refine ev_icmp_lt (tgt := 54) (pc' := 51) dX0_singleRoots_48 rfl rfl (fun _ => ?_) (fun h => absurd (by decide) h)
      refine ev_iload_n (pc' := 55) (i := 1) dX0_singleRoots_54 rfl rfl rfl ?_
      refine ev_if_eq (tgt := 63) (pc' := 58) dX0_singleRoots_55 rfl rfl (fun _ => ?_) (fun h => absurd (by decide) h)
      refine ev_iload (pc' := 65) dX0_singleRoots_63 rfl rfl ?_
      refine ev_iconst (pc' := 66) (v := 1) dX0_singleRoots_65 rfl ki_1 ?_
      refine ev_icmp_le (tgt := 71) (pc' := 69) dX0_singleRoots_66 rfl rfl (fun _ => ?_) (fun h => absurd (by decide) h)
      refine ev_iinc (pc' := 74) (v := 2) (lv' := [some (.ref 12), some (.int 0), some (.int 2), some (.int 1), some (.int 2), some (.int 1)]) dX0_singleRoots_71 rfl rfl (by decide) (Nat.le_of_ble_eq_true rfl) rfl rfl ?_
      refine ev_iinc (pc' := 77) (v := 3) (lv' := [some (.ref 12), some (.int 0), some (.int 2), some (.int 1), some (.int 3), some (.int 1)]) dX0_singleRoots_74 rfl rfl (by decide) (Nat.le_of_ble_eq_true rfl) rfl rfl ?_
      refine ev_goto (tgt := 24) dX0_singleRoots_77 rfl ?_
      refine ev_iload (pc' := 26) dX0_singleRoots_24 rfl rfl ?_
      refine ev_iconst (pc' := 27) (v := 4) dX0_singleRoots_26 rfl ki_4 ?_
      refine ev_icmp_ge (tgt := 80) (pc' := 30) dX0_singleRoots_27 rfl rfl (fun h => absurd h (by decide)) (fun _ => ?_)
      refine ev_iload_n (pc' := 31) (i := 3) dX0_singleRoots_30 rfl rfl rfl ?_
      refine ev_if_eq (tgt := 80) (pc' := 34) dX0_singleRoots_31 rfl rfl (fun h => absurd h (by decide)) (fun _ => ?_)
      refine ev_iload_n (pc' := 35) (i := 3) dX0_singleRoots_34 rfl rfl rfl ?_
      refine ev_bipush (pc' := 37) (v := 10) dX0_singleRoots_35 rfl kb_10 ?_
      refine ev_irem (pc' := 38) (v := 1) dX0_singleRoots_37 rfl (by decide) (by decide) ?_
      refine ev_istore (pc' := 40) (lv' := [some (.ref 12), some (.int 0), some (.int 2), some (.int 1), some (.int 3), some (.int 1)]) dX0_singleRoots_38 rfl (Nat.le_of_ble_eq_true rfl) rfl rfl ?_
      refine ev_iload_n (pc' := 41) (i := 3) dX0_singleRoots_40 rfl rfl rfl ?_
      refine ev_bipush (pc' := 43) (v := 10) dX0_singleRoots_41 rfl kb_10 ?_
      refine ev_idiv (pc' := 44) (v := 0) dX0_singleRoots_43 rfl (by decide) (by decide) ?_
      refine ev_istore_n (pc' := 45) (i := 3) (lv' := [some (.ref 12), some (.int 0), some (.int 2), some (.int 0), some (.int 3), some (.int 1)]) dX0_singleRoots_44 rfl rfl (Nat.le_of_ble_eq_true rfl) rfl rfl ?_
      refine ev_iload (pc' := 47) dX0_singleRoots_45 rfl rfl ?_
      refine ev_iconst (pc' := 48) (v := 5) dX0_singleRoots_47 rfl ki_5 ?_
      refine ev_icmp_lt (tgt := 54) (pc' := 51) dX0_singleRoots_48 rfl rfl (fun _ => ?_) (fun h => absurd (by decide) h)
      refine ev_iload_n (pc' := 55) (i := 1) dX0_singleRoots_54 rfl rfl rfl ?_
      refine ev_if_eq (tgt := 63) (pc' := 58) dX0_singleRoots_55 rfl rfl (fun _ => ?_) (fun h => absurd (by decide) h)
      refine ev_iload (pc' := 65) dX0_singleRoots_63 rfl rfl ?_
      refine ev_iconst (pc' := 66) (v := 1) dX0_singleRoots_65 rfl ki_1 ?_
      refine ev_icmp_le (tgt := 71) (pc' := 69) dX0_singleRoots_66 rfl rfl (fun _ => ?_) (fun h => absurd (by decide) h)
      refine ev_iinc (pc' := 74) (v := 3) (lv' := [some (.ref 12), some (.int 0), some (.int 3), some (.int 0), some (.int 3), some (.int 1)]) dX0_singleRoots_71 rfl rfl (by decide) (Nat.le_of_ble_eq_true rfl) rfl rfl ?_
      refine ev_iinc (pc' := 77) (v := 4) (lv' := [some (.ref 12), some (.int 0), some (.int 3), some (.int 0), some (.int 4), some (.int 1)]) dX0_singleRoots_74 rfl rfl (by decide) (Nat.le_of_ble_eq_true rfl) rfl rfl ?_
      refine ev_goto (tgt := 24) dX0_singleRoots_77 rfl ?_
      refine ev_iload (pc' := 26) dX0_singleRoots_24 rfl rfl ?_
      refine ev_iconst (pc' := 27) (v := 4) dX0_singleRoots_26 rfl ki_4 ?_
      refine ev_icmp_ge (tgt := 80) (pc' := 30) dX0_singleRoots_27 rfl rfl (fun _ => ?_) (fun h => absurd (by decide) h)
      refine ev_iload_n (pc' := 81) (i := 2) dX0_singleRoots_80 rfl rfl rfl ?_
      refine ev_iret dX0_singleRoots_81 rfl rfl ⟨Nat.le_refl _, Nat.le_refl _⟩ ?_
      have e : (if (L 13) 0 = 0 then cS1 (cFig (L 13) ((L 12) 5) ((L 12) 6)) else cS0 (cFig (L 13) ((L 12) 5) ((L 12) 6))) = 3 := by rw [if_pos h6, g30]; decide
      rw [e] at k0
      exact k0 _ _ _ _
  · skip
    refine ev_iconst (pc' := 5) (v := 4) dX0_singleRoots_4 rfl ki_4 ?_
    refine ev_icmp_ge (tgt := 12) (pc' := 8) dX0_singleRoots_5 rfl rfl (fun h => absurd h (by decide)) (fun _ => ?_)
    refine ev_iconst (pc' := 9) (v := 1) dX0_singleRoots_8 rfl ki_1 ?_
    refine ev_goto (tgt := 13) dX0_singleRoots_9 rfl ?_
    refine ev_istore_n (pc' := 14) (i := 1) (lv' := [some (.ref 12), some (.int 1), none, none, none, none]) dX0_singleRoots_13 rfl rfl (Nat.le_of_ble_eq_true rfl) rfl rfl ?_
    refine ev_iconst (pc' := 15) (v := 0) dX0_singleRoots_14 rfl ki_0 ?_
    refine ev_istore_n (pc' := 16) (i := 2) (lv' := [some (.ref 12), some (.int 1), some (.int 0), none, none, none]) dX0_singleRoots_15 rfl rfl (Nat.le_of_ble_eq_true rfl) rfl rfl ?_
    refine ev_aload_n (pc' := 17) (i := 0) dX0_singleRoots_16 rfl rfl rfl ?_
    refine ev_callV (pc' := 20) (rm' := rX0_figures) (b := 12) (av := []) (rest := []) co_X0_127 ci_X0_figures cv_X0_figures dX0_singleRoots_17 rfl hs_12 hb_X0 rfl rfl (Nat.le_of_ble_eq_true rfl) ⟨(Nat.le_of_ble_eq_true rfl), (Nat.le_of_ble_eq_true rfl)⟩ ⟨(Nat.le_of_ble_eq_true rfl), (Nat.le_of_ble_eq_true rfl)⟩ ?_
    refine t_X0_figures hI hJ hA hE (fun Y31 Z32 V33 W34 => ?_)
    refine ev_topi (fun r hr => ?_)
    have hr : r = cFig (L 13) ((L 12) 5) ((L 12) 6) := hr
    rcases cFig_v (L 13) ((L 12) 5) ((L 12) 6) with g35 | g35 | g35 | g35 | g35 | g35 | g35 | g35 | g35 | g35 | g35 | g35 | g35
    · rw [g35] at hr
      subst hr
      refine ev_istore_n (pc' := 21) (i := 3) (lv' := [some (.ref 12), some (.int 1), some (.int 0), some (.int 0), none, none]) dX0_singleRoots_20 rfl rfl (Nat.le_of_ble_eq_true rfl) rfl rfl ?_
      refine ev_iconst (pc' := 22) (v := 0) dX0_singleRoots_21 rfl ki_0 ?_
      refine ev_istore (pc' := 24) (lv' := [some (.ref 12), some (.int 1), some (.int 0), some (.int 0), some (.int 0), none]) dX0_singleRoots_22 rfl (Nat.le_of_ble_eq_true rfl) rfl rfl ?_
      refine ev_iload (pc' := 26) dX0_singleRoots_24 rfl rfl ?_
      refine ev_iconst (pc' := 27) (v := 4) dX0_singleRoots_26 rfl ki_4 ?_
      refine ev_icmp_ge (tgt := 80) (pc' := 30) dX0_singleRoots_27 rfl rfl (fun h => absurd h (by decide)) (fun _ => ?_)
      refine ev_iload_n (pc' := 31) (i := 3) dX0_singleRoots_30 rfl rfl rfl ?_
      refine ev_if_eq (tgt := 80) (pc' := 34) dX0_singleRoots_31 rfl rfl (fun _ => ?_) (fun h => absurd (by decide) h)
      refine ev_iload_n (pc' := 81) (i := 2) dX0_singleRoots_80 rfl rfl rfl ?_
      refine ev_iret dX0_singleRoots_81 rfl rfl ⟨Nat.le_refl _, Nat.le_refl _⟩ ?_
      have e : (if (L 13) 0 = 0 then cS1 (cFig (L 13) ((L 12) 5) ((L 12) 6)) else cS0 (cFig (L 13) ((L 12) 5) ((L 12) 6))) = 0 := by rw [if_pos h11, g35]; decide
      rw [e] at k0
      exact k0 _ _ _ _
    · rw [g35] at hr
      subst hr
      refine ev_istore_n (pc' := 21) (i := 3) (lv' := [some (.ref 12), some (.int 1), some (.int 0), some (.int 4), none, none]) dX0_singleRoots_20 rfl rfl (Nat.le_of_ble_eq_true rfl) rfl rfl ?_
      refine ev_iconst (pc' := 22) (v := 0) dX0_singleRoots_21 rfl ki_0 ?_
      refine ev_istore (pc' := 24) (lv' := [some (.ref 12), some (.int 1), some (.int 0), some (.int 4), some (.int 0), none]) dX0_singleRoots_22 rfl (Nat.le_of_ble_eq_true rfl) rfl rfl ?_
      refine ev_iload (pc' := 26) dX0_singleRoots_24 rfl rfl ?_
      refine ev_iconst (pc' := 27) (v := 4) dX0_singleRoots_26 rfl ki_4 ?_
      refine ev_icmp_ge (tgt := 80) (pc' := 30) dX0_singleRoots_27 rfl rfl (fun h => absurd h (by decide)) (fun _ => ?_)
      refine ev_iload_n (pc' := 31) (i := 3) dX0_singleRoots_30 rfl rfl rfl ?_
      refine ev_if_eq (tgt := 80) (pc' := 34) dX0_singleRoots_31 rfl rfl (fun h => absurd h (by decide)) (fun _ => ?_)
      refine ev_iload_n (pc' := 35) (i := 3) dX0_singleRoots_34 rfl rfl rfl ?_
      refine ev_bipush (pc' := 37) (v := 10) dX0_singleRoots_35 rfl kb_10 ?_
      refine ev_irem (pc' := 38) (v := 4) dX0_singleRoots_37 rfl (by decide) (by decide) ?_
      refine ev_istore (pc' := 40) (lv' := [some (.ref 12), some (.int 1), some (.int 0), some (.int 4), some (.int 0), some (.int 4)]) dX0_singleRoots_38 rfl (Nat.le_of_ble_eq_true rfl) rfl rfl ?_
      refine ev_iload_n (pc' := 41) (i := 3) dX0_singleRoots_40 rfl rfl rfl ?_
      refine ev_bipush (pc' := 43) (v := 10) dX0_singleRoots_41 rfl kb_10 ?_
      refine ev_idiv (pc' := 44) (v := 0) dX0_singleRoots_43 rfl (by decide) (by decide) ?_
      refine ev_istore_n (pc' := 45) (i := 3) (lv' := [some (.ref 12), some (.int 1), some (.int 0), some (.int 0), some (.int 0), some (.int 4)]) dX0_singleRoots_44 rfl rfl (Nat.le_of_ble_eq_true rfl) rfl rfl ?_
      refine ev_iload (pc' := 47) dX0_singleRoots_45 rfl rfl ?_
      refine ev_iconst (pc' := 48) (v := 5) dX0_singleRoots_47 rfl ki_5 ?_
      refine ev_icmp_lt (tgt := 54) (pc' := 51) dX0_singleRoots_48 rfl rfl (fun _ => ?_) (fun h => absurd (by decide) h)
      refine ev_iload_n (pc' := 55) (i := 1) dX0_singleRoots_54 rfl rfl rfl ?_
      refine ev_if_eq (tgt := 63) (pc' := 58) dX0_singleRoots_55 rfl rfl (fun h => absurd h (by decide)) (fun _ => ?_)
      refine ev_iconst (pc' := 59) (v := 0) dX0_singleRoots_58 rfl ki_0 ?_
      refine ev_istore_n (pc' := 60) (i := 1) (lv' := [some (.ref 12), some (.int 0), some (.int 0), some (.int 0), some (.int 0), some (.int 4)]) dX0_singleRoots_59 rfl rfl (Nat.le_of_ble_eq_true rfl) rfl rfl ?_
      refine ev_goto (tgt := 74) dX0_singleRoots_60 rfl ?_
      refine ev_iinc (pc' := 77) (v := 1) (lv' := [some (.ref 12), some (.int 0), some (.int 0), some (.int 0), some (.int 1), some (.int 4)]) dX0_singleRoots_74 rfl rfl (by decide) (Nat.le_of_ble_eq_true rfl) rfl rfl ?_
      refine ev_goto (tgt := 24) dX0_singleRoots_77 rfl ?_
      refine ev_iload (pc' := 26) dX0_singleRoots_24 rfl rfl ?_
      refine ev_iconst (pc' := 27) (v := 4) dX0_singleRoots_26 rfl ki_4 ?_
      refine ev_icmp_ge (tgt := 80) (pc' := 30) dX0_singleRoots_27 rfl rfl (fun h => absurd h (by decide)) (fun _ => ?_)
      refine ev_iload_n (pc' := 31) (i := 3) dX0_singleRoots_30 rfl rfl rfl ?_
      refine ev_if_eq (tgt := 80) (pc' := 34) dX0_singleRoots_31 rfl rfl (fun _ => ?_) (fun h => absurd (by decide) h)
      refine ev_iload_n (pc' := 81) (i := 2) dX0_singleRoots_80 rfl rfl rfl ?_
      refine ev_iret dX0_singleRoots_81 rfl rfl ⟨Nat.le_refl _, Nat.le_refl _⟩ ?_
      have e : (if (L 13) 0 = 0 then cS1 (cFig (L 13) ((L 12) 5) ((L 12) 6)) else cS0 (cFig (L 13) ((L 12) 5) ((L 12) 6))) = 0 := by rw [if_pos h11, g35]; decide
      rw [e] at k0
      exact k0 _ _ _ _
    · rw [g35] at hr
      subst hr
      refine ev_istore_n (pc' := 21) (i := 3) (lv' := [some (.ref 12), some (.int 1), some (.int 0), some (.int 6), none, none]) dX0_singleRoots_20 rfl rfl (Nat.le_of_ble_eq_true rfl) rfl rfl ?_
      refine ev_iconst (pc' := 22) (v := 0) dX0_singleRoots_21 rfl ki_0 ?_
      refine ev_istore (pc' := 24) (lv' := [some (.ref 12), some (.int 1), some (.int 0), some (.int 6), some (.int 0), none]) dX0_singleRoots_22 rfl (Nat.le_of_ble_eq_true rfl) rfl rfl ?_
      refine ev_iload (pc' := 26) dX0_singleRoots_24 rfl rfl ?_
      refine ev_iconst (pc' := 27) (v := 4) dX0_singleRoots_26 rfl ki_4 ?_
      refine ev_icmp_ge (tgt := 80) (pc' := 30) dX0_singleRoots_27 rfl rfl (fun h => absurd h (by decide)) (fun _ => ?_)
      refine ev_iload_n (pc' := 31) (i := 3) dX0_singleRoots_30 rfl rfl rfl ?_
      refine ev_if_eq (tgt := 80) (pc' := 34) dX0_singleRoots_31 rfl rfl (fun h => absurd h (by decide)) (fun _ => ?_)
      refine ev_iload_n (pc' := 35) (i := 3) dX0_singleRoots_34 rfl rfl rfl ?_
      refine ev_bipush (pc' := 37) (v := 10) dX0_singleRoots_35 rfl kb_10 ?_
      refine ev_irem (pc' := 38) (v := 6) dX0_singleRoots_37 rfl (by decide) (by decide) ?_
      refine ev_istore (pc' := 40) (lv' := [some (.ref 12), some (.int 1), some (.int 0), some (.int 6), some (.int 0), some (.int 6)]) dX0_singleRoots_38 rfl (Nat.le_of_ble_eq_true rfl) rfl rfl ?_
      refine ev_iload_n (pc' := 41) (i := 3) dX0_singleRoots_40 rfl rfl rfl ?_
      refine ev_bipush (pc' := 43) (v := 10) dX0_singleRoots_41 rfl kb_10 ?_
      refine ev_idiv (pc' := 44) (v := 0) dX0_singleRoots_43 rfl (by decide) (by decide) ?_
      refine ev_istore_n (pc' := 45) (i := 3) (lv' := [some (.ref 12), some (.int 1), some (.int 0), some (.int 0), some (.int 0), some (.int 6)]) dX0_singleRoots_44 rfl rfl (Nat.le_of_ble_eq_true rfl) rfl rfl ?_
      refine ev_iload (pc' := 47) dX0_singleRoots_45 rfl rfl ?_
      refine ev_iconst (pc' := 48) (v := 5) dX0_singleRoots_47 rfl ki_5 ?_
      refine ev_icmp_lt (tgt := 54) (pc' := 51) dX0_singleRoots_48 rfl rfl (fun h => absurd h (by decide)) (fun _ => ?_)
      refine ev_goto (tgt := 74) dX0_singleRoots_51 rfl ?_
      refine ev_iinc (pc' := 77) (v := 1) (lv' := [some (.ref 12), some (.int 1), some (.int 0), some (.int 0), some (.int 1), some (.int 6)]) dX0_singleRoots_74 rfl rfl (by decide) (Nat.le_of_ble_eq_true rfl) rfl rfl ?_
      refine ev_goto (tgt := 24) dX0_singleRoots_77 rfl ?_
      refine ev_iload (pc' := 26) dX0_singleRoots_24 rfl rfl ?_
      refine ev_iconst (pc' := 27) (v := 4) dX0_singleRoots_26 rfl ki_4 ?_
      refine ev_icmp_ge (tgt := 80) (pc' := 30) dX0_singleRoots_27 rfl rfl (fun h => absurd h (by decide)) (fun _ => ?_)
      refine ev_iload_n (pc' := 31) (i := 3) dX0_singleRoots_30 rfl rfl rfl ?_
      refine ev_if_eq (tgt := 80) (pc' := 34) dX0_singleRoots_31 rfl rfl (fun _ => ?_) (fun h => absurd (by decide) h)
      refine ev_iload_n (pc' := 81) (i := 2) dX0_singleRoots_80 rfl rfl rfl ?_
      refine ev_iret dX0_singleRoots_81 rfl rfl ⟨Nat.le_refl _, Nat.le_refl _⟩ ?_
      have e : (if (L 13) 0 = 0 then cS1 (cFig (L 13) ((L 12) 5) ((L 12) 6)) else cS0 (cFig (L 13) ((L 12) 5) ((L 12) 6))) = 0 := by rw [if_pos h11, g35]; decide
      rw [e] at k0
      exact k0 _ _ _ _
    · rw [g35] at hr
      subst hr
      refine ev_istore_n (pc' := 21) (i := 3) (lv' := [some (.ref 12), some (.int 1), some (.int 0), some (.int 13), none, none]) dX0_singleRoots_20 rfl rfl (Nat.le_of_ble_eq_true rfl) rfl rfl ?_
      refine ev_iconst (pc' := 22) (v := 0) dX0_singleRoots_21 rfl ki_0 ?_
      refine ev_istore (pc' := 24) (lv' := [some (.ref 12), some (.int 1), some (.int 0), some (.int 13), some (.int 0), none]) dX0_singleRoots_22 rfl (Nat.le_of_ble_eq_true rfl) rfl rfl ?_
      refine ev_iload (pc' := 26) dX0_singleRoots_24 rfl rfl ?_
      refine ev_iconst (pc' := 27) (v := 4) dX0_singleRoots_26 rfl ki_4 ?_
      refine ev_icmp_ge (tgt := 80) (pc' := 30) dX0_singleRoots_27 rfl rfl (fun h => absurd h (by decide)) (fun _ => ?_)
      refine ev_iload_n (pc' := 31) (i := 3) dX0_singleRoots_30 rfl rfl rfl ?_
      refine ev_if_eq (tgt := 80) (pc' := 34) dX0_singleRoots_31 rfl rfl (fun h => absurd h (by decide)) (fun _ => ?_)
      refine ev_iload_n (pc' := 35) (i := 3) dX0_singleRoots_34 rfl rfl rfl ?_
      refine ev_bipush (pc' := 37) (v := 10) dX0_singleRoots_35 rfl kb_10 ?_
      refine ev_irem (pc' := 38) (v := 3) dX0_singleRoots_37 rfl (by decide) (by decide) ?_
      refine ev_istore (pc' := 40) (lv' := [some (.ref 12), some (.int 1), some (.int 0), some (.int 13), some (.int 0), some (.int 3)]) dX0_singleRoots_38 rfl (Nat.le_of_ble_eq_true rfl) rfl rfl ?_
      refine ev_iload_n (pc' := 41) (i := 3) dX0_singleRoots_40 rfl rfl rfl ?_
      refine ev_bipush (pc' := 43) (v := 10) dX0_singleRoots_41 rfl kb_10 ?_
      refine ev_idiv (pc' := 44) (v := 1) dX0_singleRoots_43 rfl (by decide) (by decide) ?_
      refine ev_istore_n (pc' := 45) (i := 3) (lv' := [some (.ref 12), some (.int 1), some (.int 0), some (.int 1), some (.int 0), some (.int 3)]) dX0_singleRoots_44 rfl rfl (Nat.le_of_ble_eq_true rfl) rfl rfl ?_
      refine ev_iload (pc' := 47) dX0_singleRoots_45 rfl rfl ?_
      refine ev_iconst (pc' := 48) (v := 5) dX0_singleRoots_47 rfl ki_5 ?_
      refine ev_icmp_lt (tgt := 54) (pc' := 51) dX0_singleRoots_48 rfl rfl (fun _ => ?_) (fun h => absurd (by decide) h)
      refine ev_iload_n (pc' := 55) (i := 1) dX0_singleRoots_54 rfl rfl rfl ?_
      refine ev_if_eq (tgt := 63) (pc' := 58) dX0_singleRoots_55 rfl rfl (fun h => absurd h (by decide)) (fun _ => ?_)
      refine ev_iconst (pc' := 59) (v := 0) dX0_singleRoots_58 rfl ki_0 ?_
      refine ev_istore_n (pc' := 60) (i := 1) (lv' := [some (.ref 12), some (.int 0), some (.int 0), some (.int 1), some (.int 0), some (.int 3)]) dX0_singleRoots_59 rfl rfl (Nat.le_of_ble_eq_true rfl) rfl rfl ?_
      refine ev_goto (tgt := 74) dX0_singleRoots_60 rfl ?_
      refine ev_iinc (pc' := 77) (v := 1) (lv' := [some (.ref 12), some (.int 0), some (.int 0), some (.int 1), some (.int 1), some (.int 3)]) dX0_singleRoots_74 rfl rfl (by decide) (Nat.le_of_ble_eq_true rfl) rfl rfl ?_
      refine ev_goto (tgt := 24) dX0_singleRoots_77 rfl ?_
      refine ev_iload (pc' := 26) dX0_singleRoots_24 rfl rfl ?_
      refine ev_iconst (pc' := 27) (v := 4) dX0_singleRoots_26 rfl ki_4 ?_
      refine ev_icmp_ge (tgt := 80) (pc' := 30) dX0_singleRoots_27 rfl rfl (fun h => absurd h (by decide)) (fun _ => ?_)
      refine ev_iload_n (pc' := 31) (i := 3) dX0_singleRoots_30 rfl rfl rfl ?_
      refine ev_if_eq (tgt := 80) (pc' := 34) dX0_singleRoots_31 rfl rfl (fun h => absurd h (by decide)) (fun _ => ?_)
      refine ev_iload_n (pc' := 35) (i := 3) dX0_singleRoots_34 rfl rfl rfl ?_
      refine ev_bipush (pc' := 37) (v := 10) dX0_singleRoots_35 rfl kb_10 ?_
      refine ev_irem (pc' := 38) (v := 1) dX0_singleRoots_37 rfl (by decide) (by decide) ?_
      refine ev_istore (pc' := 40) (lv' := [some (.ref 12), some (.int 0), some (.int 0), some (.int 1), some (.int 1), some (.int 1)]) dX0_singleRoots_38 rfl (Nat.le_of_ble_eq_true rfl) rfl rfl ?_
      refine ev_iload_n (pc' := 41) (i := 3) dX0_singleRoots_40 rfl rfl rfl ?_
      refine ev_bipush (pc' := 43) (v := 10) dX0_singleRoots_41 rfl kb_10 ?_
      refine ev_idiv (pc' := 44) (v := 0) dX0_singleRoots_43 rfl (by decide) (by decide) ?_
      refine ev_istore_n (pc' := 45) (i := 3) (lv' := [some (.ref 12), some (.int 0), some (.int 0), some (.int 0), some (.int 1), some (.int 1)]) dX0_singleRoots_44 rfl rfl (Nat.le_of_ble_eq_true rfl) rfl rfl ?_
      refine ev_iload (pc' := 47) dX0_singleRoots_45 rfl rfl ?_
      refine ev_iconst (pc' := 48) (v := 5) dX0_singleRoots_47 rfl ki_5 ?_
      refine ev_icmp_lt (tgt := 54) (pc' := 51) dX0_singleRoots_48 rfl rfl (fun _ => ?_) (fun h => absurd (by decide) h)
      refine ev_iload_n (pc' := 55) (i := 1) dX0_singleRoots_54 rfl rfl rfl ?_
      refine ev_if_eq (tgt := 63) (pc' := 58) dX0_singleRoots_55 rfl rfl (fun _ => ?_) (fun h => absurd (by decide) h)
      refine ev_iload (pc' := 65) dX0_singleRoots_63 rfl rfl ?_
      refine ev_iconst (pc' := 66) (v := 1) dX0_singleRoots_65 rfl ki_1 ?_
      refine ev_icmp_le (tgt := 71) (pc' := 69) dX0_singleRoots_66 rfl rfl (fun _ => ?_) (fun h => absurd (by decide) h)
      refine ev_iinc (pc' := 74) (v := 1) (lv' := [some (.ref 12), some (.int 0), some (.int 1), some (.int 0), some (.int 1), some (.int 1)]) dX0_singleRoots_71 rfl rfl (by decide) (Nat.le_of_ble_eq_true rfl) rfl rfl ?_
      refine ev_iinc (pc' := 77) (v := 2) (lv' := [some (.ref 12), some (.int 0), some (.int 1), some (.int 0), some (.int 2), some (.int 1)]) dX0_singleRoots_74 rfl rfl (by decide) (Nat.le_of_ble_eq_true rfl) rfl rfl ?_
      refine ev_goto (tgt := 24) dX0_singleRoots_77 rfl ?_
      refine ev_iload (pc' := 26) dX0_singleRoots_24 rfl rfl ?_
      refine ev_iconst (pc' := 27) (v := 4) dX0_singleRoots_26 rfl ki_4 ?_
      refine ev_icmp_ge (tgt := 80) (pc' := 30) dX0_singleRoots_27 rfl rfl (fun h => absurd h (by decide)) (fun _ => ?_)
      refine ev_iload_n (pc' := 31) (i := 3) dX0_singleRoots_30 rfl rfl rfl ?_
      refine ev_if_eq (tgt := 80) (pc' := 34) dX0_singleRoots_31 rfl rfl (fun _ => ?_) (fun h => absurd (by decide) h)
      refine ev_iload_n (pc' := 81) (i := 2) dX0_singleRoots_80 rfl rfl rfl ?_
      refine ev_iret dX0_singleRoots_81 rfl rfl ⟨Nat.le_refl _, Nat.le_refl _⟩ ?_
      have e : (if (L 13) 0 = 0 then cS1 (cFig (L 13) ((L 12) 5) ((L 12) 6)) else cS0 (cFig (L 13) ((L 12) 5) ((L 12) 6))) = 1 := by rw [if_pos h11, g35]; decide
      rw [e] at k0
      exact k0 _ _ _ _
    · rw [g35] at hr
      subst hr
      refine ev_istore_n (pc' := 21) (i := 3) (lv' := [some (.ref 12), some (.int 1), some (.int 0), some (.int 22), none, none]) dX0_singleRoots_20 rfl rfl (Nat.le_of_ble_eq_true rfl) rfl rfl ?_
      refine ev_iconst (pc' := 22) (v := 0) dX0_singleRoots_21 rfl ki_0 ?_
      refine ev_istore (pc' := 24) (lv' := [some (.ref 12), some (.int 1), some (.int 0), some (.int 22), some (.int 0), none]) dX0_singleRoots_22 rfl (Nat.le_of_ble_eq_true rfl) rfl rfl ?_
      refine ev_iload (pc' := 26) dX0_singleRoots_24 rfl rfl ?_
      refine ev_iconst (pc' := 27) (v := 4) dX0_singleRoots_26 rfl ki_4 ?_
      refine ev_icmp_ge (tgt := 80) (pc' := 30) dX0_singleRoots_27 rfl rfl (fun h => absurd h (by decide)) (fun _ => ?_)
      refine ev_iload_n (pc' := 31) (i := 3) dX0_singleRoots_30 rfl rfl rfl ?_
      refine ev_if_eq (tgt := 80) (pc' := 34) dX0_singleRoots_31 rfl rfl (fun h => absurd h (by decide)) (fun _ => ?_)
      refine ev_iload_n (pc' := 35) (i := 3) dX0_singleRoots_34 rfl rfl rfl ?_
      refine ev_bipush (pc' := 37) (v := 10) dX0_singleRoots_35 rfl kb_10 ?_
      refine ev_irem (pc' := 38) (v := 2) dX0_singleRoots_37 rfl (by decide) (by decide) ?_
      refine ev_istore (pc' := 40) (lv' := [some (.ref 12), some (.int 1), some (.int 0), some (.int 22), some (.int 0), some (.int 2)]) dX0_singleRoots_38 rfl (Nat.le_of_ble_eq_true rfl) rfl rfl ?_
      refine ev_iload_n (pc' := 41) (i := 3) dX0_singleRoots_40 rfl rfl rfl ?_
      refine ev_bipush (pc' := 43) (v := 10) dX0_singleRoots_41 rfl kb_10 ?_
      refine ev_idiv (pc' := 44) (v := 2) dX0_singleRoots_43 rfl (by decide) (by decide) ?_
      refine ev_istore_n (pc' := 45) (i := 3) (lv' := [some (.ref 12), some (.int 1), some (.int 0), some (.int 2), some (.int 0), some (.int 2)]) dX0_singleRoots_44 rfl rfl (Nat.le_of_ble_eq_true rfl) rfl rfl ?_
      refine ev_iload (pc' := 47) dX0_singleRoots_45 rfl rfl ?_
      refine ev_iconst (pc' := 48) (v := 5) dX0_singleRoots_47 rfl ki_5 ?_
      refine ev_icmp_lt (tgt := 54) (pc' := 51) dX0_singleRoots_48 rfl rfl (fun _ => ?_) (fun h => absurd (by decide) h)
      refine ev_iload_n (pc' := 55) (i := 1) dX0_singleRoots_54 rfl rfl rfl ?_
      refine ev_if_eq (tgt := 63) (pc' := 58) dX0_singleRoots_55 rfl rfl (fun h => absurd h (by decide)) (fun _ => ?_)
      refine ev_iconst (pc' := 59) (v := 0) dX0_singleRoots_58 rfl ki_0 ?_
      refine ev_istore_n (pc' := 60) (i := 1) (lv' := [some (.ref 12), some (.int 0), some (.int 0), some (.int 2), some (.int 0), some (.int 2)]) dX0_singleRoots_59 rfl rfl (Nat.le_of_ble_eq_true rfl) rfl rfl ?_
      refine ev_goto (tgt := 74) dX0_singleRoots_60 rfl ?_
      refine ev_iinc (pc' := 77) (v := 1) (lv' := [some (.ref 12), some (.int 0), some (.int 0), some (.int 2), some (.int 1), some (.int 2)]) dX0_singleRoots_74 rfl rfl (by decide) (Nat.le_of_ble_eq_true rfl) rfl rfl ?_
      refine ev_goto (tgt := 24) dX0_singleRoots_77 rfl ?_
      refine ev_iload (pc' := 26) dX0_singleRoots_24 rfl rfl ?_
      refine ev_iconst (pc' := 27) (v := 4) dX0_singleRoots_26 rfl ki_4 ?_
      refine ev_icmp_ge (tgt := 80) (pc' := 30) dX0_singleRoots_27 rfl rfl (fun h => absurd h (by decide)) (fun _ => ?_)
      refine ev_iload_n (pc' := 31) (i := 3) dX0_singleRoots_30 rfl rfl rfl ?_
      refine ev_if_eq (tgt := 80) (pc' := 34) dX0_singleRoots_31 rfl rfl (fun h => absurd h (by decide)) (fun _ => ?_)
      refine ev_iload_n (pc' := 35) (i := 3) dX0_singleRoots_34 rfl rfl rfl ?_
      refine ev_bipush (pc' := 37) (v := 10) dX0_singleRoots_35 rfl kb_10 ?_
      refine ev_irem (pc' := 38) (v := 2) dX0_singleRoots_37 rfl (by decide) (by decide) ?_
      refine ev_istore (pc' := 40) (lv' := [some (.ref 12), some (.int 0), some (.int 0), some (.int 2), some (.int 1), some (.int 2)]) dX0_singleRoots_38 rfl (Nat.le_of_ble_eq_true rfl) rfl rfl ?_
      refine ev_iload_n (pc' := 41) (i := 3) dX0_singleRoots_40 rfl rfl rfl ?_
      refine ev_bipush (pc' := 43) (v := 10) dX0_singleRoots_41 rfl kb_10 ?_
      refine ev_idiv (pc' := 44) (v := 0) dX0_singleRoots_43 rfl (by decide) (by decide) ?_
      refine ev_istore_n (pc' := 45) (i := 3) (lv' := [some (.ref 12), some (.int 0), some (.int 0), some (.int 0), some (.int 1), some (.int 2)]) dX0_singleRoots_44 rfl rfl (Nat.le_of_ble_eq_true rfl) rfl rfl ?_
      refine ev_iload (pc' := 47) dX0_singleRoots_45 rfl rfl ?_
      refine ev_iconst (pc' := 48) (v := 5) dX0_singleRoots_47 rfl ki_5 ?_
      refine ev_icmp_lt (tgt := 54) (pc' := 51) dX0_singleRoots_48 rfl rfl (fun _ => ?_) (fun h => absurd (by decide) h)
      refine ev_iload_n (pc' := 55) (i := 1) dX0_singleRoots_54 rfl rfl rfl ?_
      refine ev_if_eq (tgt := 63) (pc' := 58) dX0_singleRoots_55 rfl rfl (fun _ => ?_) (fun h => absurd (by decide) h)
      refine ev_iload (pc' := 65) dX0_singleRoots_63 rfl rfl ?_
      refine ev_iconst (pc' := 66) (v := 1) dX0_singleRoots_65 rfl ki_1 ?_
      refine ev_icmp_le (tgt := 71) (pc' := 69) dX0_singleRoots_66 rfl rfl (fun h => absurd h (by decide)) (fun _ => ?_)
      refine ev_iconst (pc' := 70) (v := (-1)) dX0_singleRoots_69 rfl ki_m1 ?_
      refine ev_iret dX0_singleRoots_70 rfl rfl ⟨Nat.le_refl _, Nat.le_refl _⟩ ?_
      have e : (if (L 13) 0 = 0 then cS1 (cFig (L 13) ((L 12) 5) ((L 12) 6)) else cS0 (cFig (L 13) ((L 12) 5) ((L 12) 6))) = (-1) := by rw [if_pos h11, g35]; decide
      rw [e] at k0
      exact k0 _ _ _ _
    · rw [g35] at hr
      subst hr
      refine ev_istore_n (pc' := 21) (i := 3) (lv' := [some (.ref 12), some (.int 1), some (.int 0), some (.int 25), none, none]) dX0_singleRoots_20 rfl rfl (Nat.le_of_ble_eq_true rfl) rfl rfl ?_
      refine ev_iconst (pc' := 22) (v := 0) dX0_singleRoots_21 rfl ki_0 ?_
      refine ev_istore (pc' := 24) (lv' := [some (.ref 12), some (.int 1), some (.int 0), some (.int 25), some (.int 0), none]) dX0_singleRoots_22 rfl (Nat.le_of_ble_eq_true rfl) rfl rfl ?_
      refine ev_iload (pc' := 26) dX0_singleRoots_24 rfl rfl ?_
      refine ev_iconst (pc' := 27) (v := 4) dX0_singleRoots_26 rfl ki_4 ?_
      refine ev_icmp_ge (tgt := 80) (pc' := 30) dX0_singleRoots_27 rfl rfl (fun h => absurd h (by decide)) (fun _ => ?_)
      refine ev_iload_n (pc' := 31) (i := 3) dX0_singleRoots_30 rfl rfl rfl ?_
      refine ev_if_eq (tgt := 80) (pc' := 34) dX0_singleRoots_31 rfl rfl (fun h => absurd h (by decide)) (fun _ => ?_)
      refine ev_iload_n (pc' := 35) (i := 3) dX0_singleRoots_34 rfl rfl rfl ?_
      refine ev_bipush (pc' := 37) (v := 10) dX0_singleRoots_35 rfl kb_10 ?_
      refine ev_irem (pc' := 38) (v := 5) dX0_singleRoots_37 rfl (by decide) (by decide) ?_
      refine ev_istore (pc' := 40) (lv' := [some (.ref 12), some (.int 1), some (.int 0), some (.int 25), some (.int 0), some (.int 5)]) dX0_singleRoots_38 rfl (Nat.le_of_ble_eq_true rfl) rfl rfl ?_
      refine ev_iload_n (pc' := 41) (i := 3) dX0_singleRoots_40 rfl rfl rfl ?_
      refine ev_bipush (pc' := 43) (v := 10) dX0_singleRoots_41 rfl kb_10 ?_
      refine ev_idiv (pc' := 44) (v := 2) dX0_singleRoots_43 rfl (by decide) (by decide) ?_
      refine ev_istore_n (pc' := 45) (i := 3) (lv' := [some (.ref 12), some (.int 1), some (.int 0), some (.int 2), some (.int 0), some (.int 5)]) dX0_singleRoots_44 rfl rfl (Nat.le_of_ble_eq_true rfl) rfl rfl ?_
      refine ev_iload (pc' := 47) dX0_singleRoots_45 rfl rfl ?_
      refine ev_iconst (pc' := 48) (v := 5) dX0_singleRoots_47 rfl ki_5 ?_
      refine ev_icmp_lt (tgt := 54) (pc' := 51) dX0_singleRoots_48 rfl rfl (fun h => absurd h (by decide)) (fun _ => ?_)
      refine ev_goto (tgt := 74) dX0_singleRoots_51 rfl ?_
      refine ev_iinc (pc' := 77) (v := 1) (lv' := [some (.ref 12), some (.int 1), some (.int 0), some (.int 2), some (.int 1), some (.int 5)]) dX0_singleRoots_74 rfl rfl (by decide) (Nat.le_of_ble_eq_true rfl) rfl rfl ?_
      refine ev_goto (tgt := 24) dX0_singleRoots_77 rfl ?_
      refine ev_iload (pc' := 26) dX0_singleRoots_24 rfl rfl ?_
      refine ev_iconst (pc' := 27) (v := 4) dX0_singleRoots_26 rfl ki_4 ?_
      refine ev_icmp_ge (tgt := 80) (pc' := 30) dX0_singleRoots_27 rfl rfl (fun h => absurd h (by decide)) (fun _ => ?_)
      refine ev_iload_n (pc' := 31) (i := 3) dX0_singleRoots_30 rfl rfl rfl ?_
      refine ev_if_eq (tgt := 80) (pc' := 34) dX0_singleRoots_31 rfl rfl (fun h => absurd h (by decide)) (fun _ => ?_)
      refine ev_iload_n (pc' := 35) (i := 3) dX0_singleRoots_34 rfl rfl rfl ?_
      refine ev_bipush (pc' := 37) (v := 10) dX0_singleRoots_35 rfl kb_10 ?_
      refine ev_irem (pc' := 38) (v := 2) dX0_singleRoots_37 rfl (by decide) (by decide) ?_
      refine ev_istore (pc' := 40) (lv' := [some (.ref 12), some (.int 1), some (.int 0), some (.int 2), some (.int 1), some (.int 2)]) dX0_singleRoots_38 rfl (Nat.le_of_ble_eq_true rfl) rfl rfl ?_
      refine ev_iload_n (pc' := 41) (i := 3) dX0_singleRoots_40 rfl rfl rfl ?_
      refine ev_bipush (pc' := 43) (v := 10) dX0_singleRoots_41 rfl kb_10 ?_
      refine ev_idiv (pc' := 44) (v := 0) dX0_singleRoots_43 rfl (by decide) (by decide) ?_
      refine ev_istore_n (pc' := 45) (i := 3) (lv' := [some (.ref 12), some (.int 1), some (.int 0), some (.int 0), some (.int 1), some (.int 2)]) dX0_singleRoots_44 rfl rfl (Nat.le_of_ble_eq_true rfl) rfl rfl ?_
      refine ev_iload (pc' := 47) dX0_singleRoots_45 rfl rfl ?_
      refine ev_iconst (pc' := 48) (v := 5) dX0_singleRoots_47 rfl ki_5 ?_
      refine ev_icmp_lt (tgt := 54) (pc' := 51) dX0_singleRoots_48 rfl rfl (fun _ => ?_) (fun h => absurd (by decide) h)
      refine ev_iload_n (pc' := 55) (i := 1) dX0_singleRoots_54 rfl rfl rfl ?_
      refine ev_if_eq (tgt := 63) (pc' := 58) dX0_singleRoots_55 rfl rfl (fun h => absurd h (by decide)) (fun _ => ?_)
      refine ev_iconst (pc' := 59) (v := 0) dX0_singleRoots_58 rfl ki_0 ?_
      refine ev_istore_n (pc' := 60) (i := 1) (lv' := [some (.ref 12), some (.int 0), some (.int 0), some (.int 0), some (.int 1), some (.int 2)]) dX0_singleRoots_59 rfl rfl (Nat.le_of_ble_eq_true rfl) rfl rfl ?_
      refine ev_goto (tgt := 74) dX0_singleRoots_60 rfl ?_
      refine ev_iinc (pc' := 77) (v := 2) (lv' := [some (.ref 12), some (.int 0), some (.int 0), some (.int 0), some (.int 2), some (.int 2)]) dX0_singleRoots_74 rfl rfl (by decide) (Nat.le_of_ble_eq_true rfl) rfl rfl ?_
      refine ev_goto (tgt := 24) dX0_singleRoots_77 rfl ?_
      refine ev_iload (pc' := 26) dX0_singleRoots_24 rfl rfl ?_
      refine ev_iconst (pc' := 27) (v := 4) dX0_singleRoots_26 rfl ki_4 ?_
      refine ev_icmp_ge (tgt := 80) (pc' := 30) dX0_singleRoots_27 rfl rfl (fun h => absurd h (by decide)) (fun _ => ?_)
      refine ev_iload_n (pc' := 31) (i := 3) dX0_singleRoots_30 rfl rfl rfl ?_
      refine ev_if_eq (tgt := 80) (pc' := 34) dX0_singleRoots_31 rfl rfl (fun _ => ?_) (fun h => absurd (by decide) h)
      refine ev_iload_n (pc' := 81) (i := 2) dX0_singleRoots_80 rfl rfl rfl ?_
      refine ev_iret dX0_singleRoots_81 rfl rfl ⟨Nat.le_refl _, Nat.le_refl _⟩ ?_
      have e : (if (L 13) 0 = 0 then cS1 (cFig (L 13) ((L 12) 5) ((L 12) 6)) else cS0 (cFig (L 13) ((L 12) 5) ((L 12) 6))) = 0 := by rw [if_pos h11, g35]; decide
      rw [e] at k0
      exact k0 _ _ _ _
    · rw [g35] at hr
      subst hr
      refine ev_istore_n (pc' := 21) (i := 3) (lv' := [some (.ref 12), some (.int 1), some (.int 0), some (.int 31), none, none]) dX0_singleRoots_20 rfl rfl (Nat.le_of_ble_eq_true rfl) rfl rfl ?_
      refine ev_iconst (pc' := 22) (v := 0) dX0_singleRoots_21 rfl ki_0 ?_
      refine ev_istore (pc' := 24) (lv' := [some (.ref 12), some (.int 1), some (.int 0), some (.int 31), some (.int 0), none]) dX0_singleRoots_22 rfl (Nat.le_of_ble_eq_true rfl) rfl rfl ?_
      refine ev_iload (pc' := 26) dX0_singleRoots_24 rfl rfl ?_
      refine ev_iconst (pc' := 27) (v := 4) dX0_singleRoots_26 rfl ki_4 ?_
      refine ev_icmp_ge (tgt := 80) (pc' := 30) dX0_singleRoots_27 rfl rfl (fun h => absurd h (by decide)) (fun _ => ?_)
      refine ev_iload_n (pc' := 31) (i := 3) dX0_singleRoots_30 rfl rfl rfl ?_
      refine ev_if_eq (tgt := 80) (pc' := 34) dX0_singleRoots_31 rfl rfl (fun h => absurd h (by decide)) (fun _ => ?_)
      refine ev_iload_n (pc' := 35) (i := 3) dX0_singleRoots_34 rfl rfl rfl ?_
      refine ev_bipush (pc' := 37) (v := 10) dX0_singleRoots_35 rfl kb_10 ?_
      refine ev_irem (pc' := 38) (v := 1) dX0_singleRoots_37 rfl (by decide) (by decide) ?_
      refine ev_istore (pc' := 40) (lv' := [some (.ref 12), some (.int 1), some (.int 0), some (.int 31), some (.int 0), some (.int 1)]) dX0_singleRoots_38 rfl (Nat.le_of_ble_eq_true rfl) rfl rfl ?_
      refine ev_iload_n (pc' := 41) (i := 3) dX0_singleRoots_40 rfl rfl rfl ?_
      refine ev_bipush (pc' := 43) (v := 10) dX0_singleRoots_41 rfl kb_10 ?_
      refine ev_idiv (pc' := 44) (v := 3) dX0_singleRoots_43 rfl (by decide) (by decide) ?_
      refine ev_istore_n (pc' := 45) (i := 3) (lv' := [some (.ref 12), some (.int 1), some (.int 0), some (.int 3), some (.int 0), some (.int 1)]) dX0_singleRoots_44 rfl rfl (Nat.le_of_ble_eq_true rfl) rfl rfl ?_
      refine ev_iload (pc' := 47) dX0_singleRoots_45 rfl rfl ?_
      refine ev_iconst (pc' := 48) (v := 5) dX0_singleRoots_47 rfl ki_5 ?_
      refine ev_icmp_lt (tgt := 54) (pc' := 51) dX0_singleRoots_48 rfl rfl (fun _ => ?_) (fun h => absurd (by decide) h)
      refine ev_iload_n (pc' := 55) (i := 1) dX0_singleRoots_54 rfl rfl rfl ?_
      refine ev_if_eq (tgt := 63) (pc' := 58) dX0_singleRoots_55 rfl rfl (fun h => absurd h (by decide)) (fun _ => ?_)
      refine ev_iconst (pc' := 59) (v := 0) dX0_singleRoots_58 rfl ki_0 ?_
      refine ev_istore_n (pc' := 60) (i := 1) (lv' := [some (.ref 12), some (.int 0), some (.int 0), some (.int 3), some (.int 0), some (.int 1)]) dX0_singleRoots_59 rfl rfl (Nat.le_of_ble_eq_true rfl) rfl rfl ?_
      refine ev_goto (tgt := 74) dX0_singleRoots_60 rfl ?_
      refine ev_iinc (pc' := 77) (v := 1) (lv' := [some (.ref 12), some (.int 0), some (.int 0), some (.int 3), some (.int 1), some (.int 1)]) dX0_singleRoots_74 rfl rfl (by decide) (Nat.le_of_ble_eq_true rfl) rfl rfl ?_
      refine ev_goto (tgt := 24) dX0_singleRoots_77 rfl ?_
      refine ev_iload (pc' := 26) dX0_singleRoots_24 rfl rfl ?_
      refine ev_iconst (pc' := 27) (v := 4) dX0_singleRoots_26 rfl ki_4 ?_
      refine ev_icmp_ge (tgt := 80) (pc' := 30) dX0_singleRoots_27 rfl rfl (fun h => absurd h (by decide)) (fun _ => ?_)
      refine ev_iload_n (pc' := 31) (i := 3) dX0_singleRoots_30 rfl rfl rfl ?_
      refine ev_if_eq (tgt := 80) (pc' := 34) dX0_singleRoots_31 rfl rfl (fun h => absurd h (by decide)) (fun _ => ?_)
      refine ev_iload_n (pc' := 35) (i := 3) dX0_singleRoots_34 rfl rfl rfl ?_
      refine ev_bipush (pc' := 37) (v := 10) dX0_singleRoots_35 rfl kb_10 ?_
      refine ev_irem (pc' := 38) (v := 3) dX0_singleRoots_37 rfl (by decide) (by decide) ?_
      refine ev_istore (pc' := 40) (lv' := [some (.ref 12), some (.int 0), some (.int 0), some (.int 3), some (.int 1), some (.int 3)]) dX0_singleRoots_38 rfl (Nat.le_of_ble_eq_true rfl) rfl rfl ?_
      refine ev_iload_n (pc' := 41) (i := 3) dX0_singleRoots_40 rfl rfl rfl ?_
      refine ev_bipush (pc' := 43) (v := 10) dX0_singleRoots_41 rfl kb_10 ?_
      refine ev_idiv (pc' := 44) (v := 0) dX0_singleRoots_43 rfl (by decide) (by decide) ?_
      refine ev_istore_n (pc' := 45) (i := 3) (lv' := [some (.ref 12), some (.int 0), some (.int 0), some (.int 0), some (.int 1), some (.int 3)]) dX0_singleRoots_44 rfl rfl (Nat.le_of_ble_eq_true rfl) rfl rfl ?_
      refine ev_iload (pc' := 47) dX0_singleRoots_45 rfl rfl ?_
      refine ev_iconst (pc' := 48) (v := 5) dX0_singleRoots_47 rfl ki_5 ?_
      refine ev_icmp_lt (tgt := 54) (pc' := 51) dX0_singleRoots_48 rfl rfl (fun _ => ?_) (fun h => absurd (by decide) h)
      refine ev_iload_n (pc' := 55) (i := 1) dX0_singleRoots_54 rfl rfl rfl ?_
      refine ev_if_eq (tgt := 63) (pc' := 58) dX0_singleRoots_55 rfl rfl (fun _ => ?_) (fun h => absurd (by decide) h)
      refine ev_iload (pc' := 65) dX0_singleRoots_63 rfl rfl ?_
      refine ev_iconst (pc' := 66) (v := 1) dX0_singleRoots_65 rfl ki_1 ?_
      refine ev_icmp_le (tgt := 71) (pc' := 69) dX0_singleRoots_66 rfl rfl (fun h => absurd h (by decide)) (fun _ => ?_)
      refine ev_iconst (pc' := 70) (v := (-1)) dX0_singleRoots_69 rfl ki_m1 ?_
      refine ev_iret dX0_singleRoots_70 rfl rfl ⟨Nat.le_refl _, Nat.le_refl _⟩ ?_
      have e : (if (L 13) 0 = 0 then cS1 (cFig (L 13) ((L 12) 5) ((L 12) 6)) else cS0 (cFig (L 13) ((L 12) 5) ((L 12) 6))) = (-1) := by rw [if_pos h11, g35]; decide
      rw [e] at k0
      exact k0 _ _ _ _
    · rw [g35] at hr
      subst hr
      refine ev_istore_n (pc' := 21) (i := 3) (lv' := [some (.ref 12), some (.int 1), some (.int 0), some (.int 55), none, none]) dX0_singleRoots_20 rfl rfl (Nat.le_of_ble_eq_true rfl) rfl rfl ?_
      refine ev_iconst (pc' := 22) (v := 0) dX0_singleRoots_21 rfl ki_0 ?_
      refine ev_istore (pc' := 24) (lv' := [some (.ref 12), some (.int 1), some (.int 0), some (.int 55), some (.int 0), none]) dX0_singleRoots_22 rfl (Nat.le_of_ble_eq_true rfl) rfl rfl ?_
      refine ev_iload (pc' := 26) dX0_singleRoots_24 rfl rfl ?_
      refine ev_iconst (pc' := 27) (v := 4) dX0_singleRoots_26 rfl ki_4 ?_
      refine ev_icmp_ge (tgt := 80) (pc' := 30) dX0_singleRoots_27 rfl rfl (fun h => absurd h (by decide)) (fun _ => ?_)
      refine ev_iload_n (pc' := 31) (i := 3) dX0_singleRoots_30 rfl rfl rfl ?_
      refine ev_if_eq (tgt := 80) (pc' := 34) dX0_singleRoots_31 rfl rfl (fun h => absurd h (by decide)) (fun _ => ?_)
      refine ev_iload_n (pc' := 35) (i := 3) dX0_singleRoots_34 rfl rfl rfl ?_
      refine ev_bipush (pc' := 37) (v := 10) dX0_singleRoots_35 rfl kb_10 ?_
      refine ev_irem (pc' := 38) (v := 5) dX0_singleRoots_37 rfl (by decide) (by decide) ?_
      refine ev_istore (pc' := 40) (lv' := [some (.ref 12), some (.int 1), some (.int 0), some (.int 55), some (.int 0), some (.int 5)]) dX0_singleRoots_38 rfl (Nat.le_of_ble_eq_true rfl) rfl rfl ?_
      refine ev_iload_n (pc' := 41) (i := 3) dX0_singleRoots_40 rfl rfl rfl ?_
      refine ev_bipush (pc' := 43) (v := 10) dX0_singleRoots_41 rfl kb_10 ?_
      refine ev_idiv (pc' := 44) (v := 5) dX0_singleRoots_43 rfl (by decide) (by decide) ?_
      refine ev_istore_n (pc' := 45) (i := 3) (lv' := [some (.ref 12), some (.int 1), some (.int 0), some (.int 5), some (.int 0), some (.int 5)]) dX0_singleRoots_44 rfl rfl (Nat.le_of_ble_eq_true rfl) rfl rfl ?_
      refine ev_iload (pc' := 47) dX0_singleRoots_45 rfl rfl ?_
      refine ev_iconst (pc' := 48) (v := 5) dX0_singleRoots_47 rfl ki_5 ?_
      refine ev_icmp_lt (tgt := 54) (pc' := 51) dX0_singleRoots_48 rfl rfl (fun h => absurd h (by decide)) (fun _ => ?_)
      refine ev_goto (tgt := 74) dX0_singleRoots_51 rfl ?_
      refine ev_iinc (pc' := 77) (v := 1) (lv' := [some (.ref 12), some (.int 1), some (.int 0), some (.int 5), some (.int 1), some (.int 5)]) dX0_singleRoots_74 rfl rfl (by decide) (Nat.le_of_ble_eq_true rfl) rfl rfl ?_
      refine ev_goto (tgt := 24) dX0_singleRoots_77 rfl ?_
      refine ev_iload (pc' := 26) dX0_singleRoots_24 rfl rfl ?_
      refine ev_iconst (pc' := 27) (v := 4) dX0_singleRoots_26 rfl ki_4 ?_
      refine ev_icmp_ge (tgt := 80) (pc' := 30) dX0_singleRoots_27 rfl rfl (fun h => absurd h (by decide)) (fun _ => ?_)
      refine ev_iload_n (pc' := 31) (i := 3) dX0_singleRoots_30 rfl rfl rfl ?_
      refine ev_if_eq (tgt := 80) (pc' := 34) dX0_singleRoots_31 rfl rfl (fun h => absurd h (by decide)) (fun _ => ?_)
      refine ev_iload_n (pc' := 35) (i := 3) dX0_singleRoots_34 rfl rfl rfl ?_
      refine ev_bipush (pc' := 37) (v := 10) dX0_singleRoots_35 rfl kb_10 ?_
      refine ev_irem (pc' := 38) (v := 5) dX0_singleRoots_37 rfl (by decide) (by decide) ?_
      refine ev_istore (pc' := 40) (lv' := [some (.ref 12), some (.int 1), some (.int 0), some (.int 5), some (.int 1), some (.int 5)]) dX0_singleRoots_38 rfl (Nat.le_of_ble_eq_true rfl) rfl rfl ?_
      refine ev_iload_n (pc' := 41) (i := 3) dX0_singleRoots_40 rfl rfl rfl ?_
      refine ev_bipush (pc' := 43) (v := 10) dX0_singleRoots_41 rfl kb_10 ?_
      refine ev_idiv (pc' := 44) (v := 0) dX0_singleRoots_43 rfl (by decide) (by decide) ?_
      refine ev_istore_n (pc' := 45) (i := 3) (lv' := [some (.ref 12), some (.int 1), some (.int 0), some (.int 0), some (.int 1), some (.int 5)]) dX0_singleRoots_44 rfl rfl (Nat.le_of_ble_eq_true rfl) rfl rfl ?_
      refine ev_iload (pc' := 47) dX0_singleRoots_45 rfl rfl ?_
      refine ev_iconst (pc' := 48) (v := 5) dX0_singleRoots_47 rfl ki_5 ?_
      refine ev_icmp_lt (tgt := 54) (pc' := 51) dX0_singleRoots_48 rfl rfl (fun h => absurd h (by decide)) (fun _ => ?_)
      refine ev_goto (tgt := 74) dX0_singleRoots_51 rfl ?_
      refine ev_iinc (pc' := 77) (v := 2) (lv' := [some (.ref 12), some (.int 1), some (.int 0), some (.int 0), some (.int 2), some (.int 5)]) dX0_singleRoots_74 rfl rfl (by decide) (Nat.le_of_ble_eq_true rfl) rfl rfl ?_
      refine ev_goto (tgt := 24) dX0_singleRoots_77 rfl ?_
      refine ev_iload (pc' := 26) dX0_singleRoots_24 rfl rfl ?_
      refine ev_iconst (pc' := 27) (v := 4) dX0_singleRoots_26 rfl ki_4 ?_
      refine ev_icmp_ge (tgt := 80) (pc' := 30) dX0_singleRoots_27 rfl rfl (fun h => absurd h (by decide)) (fun _ => ?_)
      refine ev_iload_n (pc' := 31) (i := 3) dX0_singleRoots_30 rfl rfl rfl ?_
      refine ev_if_eq (tgt := 80) (pc' := 34) dX0_singleRoots_31 rfl rfl (fun _ => ?_) (fun h => absurd (by decide) h)
      refine ev_iload_n (pc' := 81) (i := 2) dX0_singleRoots_80 rfl rfl rfl ?_
      refine ev_iret dX0_singleRoots_81 rfl rfl ⟨Nat.le_refl _, Nat.le_refl _⟩ ?_
      have e : (if (L 13) 0 = 0 then cS1 (cFig (L 13) ((L 12) 5) ((L 12) 6)) else cS0 (cFig (L 13) ((L 12) 5) ((L 12) 6))) = 0 := by rw [if_pos h11, g35]; decide
      rw [e] at k0
      exact k0 _ _ _ _
    · rw [g35] at hr
      subst hr
      refine ev_istore_n (pc' := 21) (i := 3) (lv' := [some (.ref 12), some (.int 1), some (.int 0), some (.int 112), none, none]) dX0_singleRoots_20 rfl rfl (Nat.le_of_ble_eq_true rfl) rfl rfl ?_
      refine ev_iconst (pc' := 22) (v := 0) dX0_singleRoots_21 rfl ki_0 ?_
      refine ev_istore (pc' := 24) (lv' := [some (.ref 12), some (.int 1), some (.int 0), some (.int 112), some (.int 0), none]) dX0_singleRoots_22 rfl (Nat.le_of_ble_eq_true rfl) rfl rfl ?_
      refine ev_iload (pc' := 26) dX0_singleRoots_24 rfl rfl ?_
      refine ev_iconst (pc' := 27) (v := 4) dX0_singleRoots_26 rfl ki_4 ?_
      refine ev_icmp_ge (tgt := 80) (pc' := 30) dX0_singleRoots_27 rfl rfl (fun h => absurd h (by decide)) (fun _ => ?_)
      refine ev_iload_n (pc' := 31) (i := 3) dX0_singleRoots_30 rfl rfl rfl ?_
      refine ev_if_eq (tgt := 80) (pc' := 34) dX0_singleRoots_31 rfl rfl (fun h => absurd h (by decide)) (fun _ => ?_)
      refine ev_iload_n (pc' := 35) (i := 3) dX0_singleRoots_34 rfl rfl rfl ?_
      refine ev_bipush (pc' := 37) (v := 10) dX0_singleRoots_35 rfl kb_10 ?_
      refine ev_irem (pc' := 38) (v := 2) dX0_singleRoots_37 rfl (by decide) (by decide) ?_
      refine ev_istore (pc' := 40) (lv' := [some (.ref 12), some (.int 1), some (.int 0), some (.int 112), some (.int 0), some (.int 2)]) dX0_singleRoots_38 rfl (Nat.le_of_ble_eq_true rfl) rfl rfl ?_
      refine ev_iload_n (pc' := 41) (i := 3) dX0_singleRoots_40 rfl rfl rfl ?_
      refine ev_bipush (pc' := 43) (v := 10) dX0_singleRoots_41 rfl kb_10 ?_
      refine ev_idiv (pc' := 44) (v := 11) dX0_singleRoots_43 rfl (by decide) (by decide) ?_
      refine ev_istore_n (pc' := 45) (i := 3) (lv' := [some (.ref 12), some (.int 1), some (.int 0), some (.int 11), some (.int 0), some (.int 2)]) dX0_singleRoots_44 rfl rfl (Nat.le_of_ble_eq_true rfl) rfl rfl ?_
      refine ev_iload (pc' := 47) dX0_singleRoots_45 rfl rfl ?_
      refine ev_iconst (pc' := 48) (v := 5) dX0_singleRoots_47 rfl ki_5 ?_
      refine ev_icmp_lt (tgt := 54) (pc' := 51) dX0_singleRoots_48 rfl rfl (fun _ => ?_) (fun h => absurd (by decide) h)
      refine ev_iload_n (pc' := 55) (i := 1) dX0_singleRoots_54 rfl rfl rfl ?_
      refine ev_if_eq (tgt := 63) (pc' := 58) dX0_singleRoots_55 rfl rfl (fun h => absurd h (by decide)) (fun _ => ?_)
      refine ev_iconst (pc' := 59) (v := 0) dX0_singleRoots_58 rfl ki_0 ?_
      refine ev_istore_n (pc' := 60) (i := 1) (lv' := [some (.ref 12), some (.int 0), some (.int 0), some (.int 11), some (.int 0), some (.int 2)]) dX0_singleRoots_59 rfl rfl (Nat.le_of_ble_eq_true rfl) rfl rfl ?_
      refine ev_goto (tgt := 74) dX0_singleRoots_60 rfl ?_
      refine ev_iinc (pc' := 77) (v := 1) (lv' := [some (.ref 12), some (.int 0), some (.int 0), some (.int 11), some (.int 1), some (.int 2)]) dX0_singleRoots_74 rfl rfl (by decide) (Nat.le_of_ble_eq_true rfl) rfl rfl ?_
      refine ev_goto (tgt := 24) dX0_singleRoots_77 rfl ?_
      refine ev_iload (pc' := 26) dX0_singleRoots_24 rfl rfl ?_
      refine ev_iconst (pc' := 27) (v := 4) dX0_singleRoots_26 rfl ki_4 ?_
      refine ev_icmp_ge (tgt := 80) (pc' := 30) dX0_singleRoots_27 rfl rfl (fun h => absurd h (by decide)) (fun _ => ?_)
      refine ev_iload_n (pc' := 31) (i := 3) dX0_singleRoots_30 rfl rfl rfl ?_
      refine ev_if_eq (tgt := 80) (pc' := 34) dX0_singleRoots_31 rfl rfl (fun h => absurd h (by decide)) (fun _ => ?_)
      refine ev_iload_n (pc' := 35) (i := 3) dX0_singleRoots_34 rfl rfl rfl ?_
      refine ev_bipush (pc' := 37) (v := 10) dX0_singleRoots_35 rfl kb_10 ?_
      refine ev_irem (pc' := 38) (v := 1) dX0_singleRoots_37 rfl (by decide) (by decide) ?_
      refine ev_istore (pc' := 40) (lv' := [some (.ref 12), some (.int 0), some (.int 0), some (.int 11), some (.int 1), some (.int 1)]) dX0_singleRoots_38 rfl (Nat.le_of_ble_eq_true rfl) rfl rfl ?_
      refine ev_iload_n (pc' := 41) (i := 3) dX0_singleRoots_40 rfl rfl rfl ?_
      refine ev_bipush (pc' := 43) (v := 10) dX0_singleRoots_41 rfl kb_10 ?_
      refine ev_idiv (pc' := 44) (v := 1) dX0_singleRoots_43 rfl (by decide) (by decide) ?_
      refine ev_istore_n (pc' := 45) (i := 3) (lv' := [some (.ref 12), some (.int 0), some (.int 0), some (.int 1), some (.int 1), some (.int 1)]) dX0_singleRoots_44 rfl rfl (Nat.le_of_ble_eq_true rfl) rfl rfl ?_
      refine ev_iload (pc' := 47) dX0_singleRoots_45 rfl rfl ?_
      refine ev_iconst (pc' := 48) (v := 5) dX0_singleRoots_47 rfl ki_5 ?_
      refine ev_icmp_lt (tgt := 54) (pc' := 51) dX0_singleRoots_48 rfl rfl (fun _ => ?_) (fun h => absurd (by decide) h)
      refine ev_iload_n (pc' := 55) (i := 1) dX0_singleRoots_54 rfl rfl rfl ?_
      refine ev_if_eq (tgt := 63) (pc' := 58) dX0_singleRoots_55 rfl rfl (fun _ => ?_) (fun h => absurd (by decide) h)
      refine ev_iload (pc' := 65) dX0_singleRoots_63 rfl rfl ?_
      refine ev_iconst (pc' := 66) (v := 1) dX0_singleRoots_65 rfl ki_1 ?_
      refine ev_icmp_le (tgt := 71) (pc' := 69) dX0_singleRoots_66 rfl rfl (fun _ => ?_) (fun h => absurd (by decide) h)
      refine ev_iinc (pc' := 74) (v := 1) (lv' := [some (.ref 12), some (.int 0), some (.int 1), some (.int 1), some (.int 1), some (.int 1)]) dX0_singleRoots_71 rfl rfl (by decide) (Nat.le_of_ble_eq_true rfl) rfl rfl ?_
      refine ev_iinc (pc' := 77) (v := 2) (lv' := [some (.ref 12), some (.int 0), some (.int 1), some (.int 1), some (.int 2), some (.int 1)]) dX0_singleRoots_74 rfl rfl (by decide) (Nat.le_of_ble_eq_true rfl) rfl rfl ?_
      refine ev_goto (tgt := 24) dX0_singleRoots_77 rfl ?_
      refine ev_iload (pc' := 26) dX0_singleRoots_24 rfl rfl ?_
      refine ev_iconst (pc' := 27) (v := 4) dX0_singleRoots_26 rfl ki_4 ?_
      refine ev_icmp_ge (tgt := 80) (pc' := 30) dX0_singleRoots_27 rfl rfl (fun h => absurd h (by decide)) (fun _ => ?_)
      refine ev_iload_n (pc' := 31) (i := 3) dX0_singleRoots_30 rfl rfl rfl ?_
      refine ev_if_eq (tgt := 80) (pc' := 34) dX0_singleRoots_31 rfl rfl (fun h => absurd h (by decide)) (fun _ => ?_)
      refine ev_iload_n (pc' := 35) (i := 3) dX0_singleRoots_34 rfl rfl rfl ?_
      refine ev_bipush (pc' := 37) (v := 10) dX0_singleRoots_35 rfl kb_10 ?_
      refine ev_irem (pc' := 38) (v := 1) dX0_singleRoots_37 rfl (by decide) (by decide) ?_
      refine ev_istore (pc' := 40) (lv' := [some (.ref 12), some (.int 0), some (.int 1), some (.int 1), some (.int 2), some (.int 1)]) dX0_singleRoots_38 rfl (Nat.le_of_ble_eq_true rfl) rfl rfl ?_
      refine ev_iload_n (pc' := 41) (i := 3) dX0_singleRoots_40 rfl rfl rfl ?_
      refine ev_bipush (pc' := 43) (v := 10) dX0_singleRoots_41 rfl kb_10 ?_
      refine ev_idiv (pc' := 44) (v := 0) dX0_singleRoots_43 rfl (by decide) (by decide) ?_
      refine ev_istore_n (pc' := 45) (i := 3) (lv' := [some (.ref 12), some (.int 0), some (.int 1), some (.int 0), some (.int 2), some (.int 1)]) dX0_singleRoots_44 rfl rfl (Nat.le_of_ble_eq_true rfl) rfl rfl ?_
      refine ev_iload (pc' := 47) dX0_singleRoots_45 rfl rfl ?_
      refine ev_iconst (pc' := 48) (v := 5) dX0_singleRoots_47 rfl ki_5 ?_
      refine ev_icmp_lt (tgt := 54) (pc' := 51) dX0_singleRoots_48 rfl rfl (fun _ => ?_) (fun h => absurd (by decide) h)
      refine ev_iload_n (pc' := 55) (i := 1) dX0_singleRoots_54 rfl rfl rfl ?_
      refine ev_if_eq (tgt := 63) (pc' := 58) dX0_singleRoots_55 rfl rfl (fun _ => ?_) (fun h => absurd (by decide) h)
      refine ev_iload (pc' := 65) dX0_singleRoots_63 rfl rfl ?_
      refine ev_iconst (pc' := 66) (v := 1) dX0_singleRoots_65 rfl ki_1 ?_
      refine ev_icmp_le (tgt := 71) (pc' := 69) dX0_singleRoots_66 rfl rfl (fun _ => ?_) (fun h => absurd (by decide) h)
      refine ev_iinc (pc' := 74) (v := 2) (lv' := [some (.ref 12), some (.int 0), some (.int 2), some (.int 0), some (.int 2), some (.int 1)]) dX0_singleRoots_71 rfl rfl (by decide) (Nat.le_of_ble_eq_true rfl) rfl rfl ?_
      refine ev_iinc (pc' := 77) (v := 3) (lv' := [some (.ref 12), some (.int 0), some (.int 2), some (.int 0), some (.int 3), some (.int 1)]) dX0_singleRoots_74 rfl rfl (by decide) (Nat.le_of_ble_eq_true rfl) rfl rfl ?_
      refine ev_goto (tgt := 24) dX0_singleRoots_77 rfl ?_
      refine ev_iload (pc' := 26) dX0_singleRoots_24 rfl rfl ?_
      refine ev_iconst (pc' := 27) (v := 4) dX0_singleRoots_26 rfl ki_4 ?_
      refine ev_icmp_ge (tgt := 80) (pc' := 30) dX0_singleRoots_27 rfl rfl (fun h => absurd h (by decide)) (fun _ => ?_)
      refine ev_iload_n (pc' := 31) (i := 3) dX0_singleRoots_30 rfl rfl rfl ?_
      refine ev_if_eq (tgt := 80) (pc' := 34) dX0_singleRoots_31 rfl rfl (fun _ => ?_) (fun h => absurd (by decide) h)
      refine ev_iload_n (pc' := 81) (i := 2) dX0_singleRoots_80 rfl rfl rfl ?_
      refine ev_iret dX0_singleRoots_81 rfl rfl ⟨Nat.le_refl _, Nat.le_refl _⟩ ?_
      have e : (if (L 13) 0 = 0 then cS1 (cFig (L 13) ((L 12) 5) ((L 12) 6)) else cS0 (cFig (L 13) ((L 12) 5) ((L 12) 6))) = 2 := by rw [if_pos h11, g35]; decide
      rw [e] at k0
      exact k0 _ _ _ _
    · rw [g35] at hr
      subst hr
      refine ev_istore_n (pc' := 21) (i := 3) (lv' := [some (.ref 12), some (.int 1), some (.int 0), some (.int 115), none, none]) dX0_singleRoots_20 rfl rfl (Nat.le_of_ble_eq_true rfl) rfl rfl ?_
      refine ev_iconst (pc' := 22) (v := 0) dX0_singleRoots_21 rfl ki_0 ?_
      refine ev_istore (pc' := 24) (lv' := [some (.ref 12), some (.int 1), some (.int 0), some (.int 115), some (.int 0), none]) dX0_singleRoots_22 rfl (Nat.le_of_ble_eq_true rfl) rfl rfl ?_
      refine ev_iload (pc' := 26) dX0_singleRoots_24 rfl rfl ?_
      refine ev_iconst (pc' := 27) (v := 4) dX0_singleRoots_26 rfl ki_4 ?_
      refine ev_icmp_ge (tgt := 80) (pc' := 30) dX0_singleRoots_27 rfl rfl (fun h => absurd h (by decide)) (fun _ => ?_)
      refine ev_iload_n (pc' := 31) (i := 3) dX0_singleRoots_30 rfl rfl rfl ?_
      refine ev_if_eq (tgt := 80) (pc' := 34) dX0_singleRoots_31 rfl rfl (fun h => absurd h (by decide)) (fun _ => ?_)
      refine ev_iload_n (pc' := 35) (i := 3) dX0_singleRoots_34 rfl rfl rfl ?_
      refine ev_bipush (pc' := 37) (v := 10) dX0_singleRoots_35 rfl kb_10 ?_
      refine ev_irem (pc' := 38) (v := 5) dX0_singleRoots_37 rfl (by decide) (by decide) ?_
      refine ev_istore (pc' := 40) (lv' := [some (.ref 12), some (.int 1), some (.int 0), some (.int 115), some (.int 0), some (.int 5)]) dX0_singleRoots_38 rfl (Nat.le_of_ble_eq_true rfl) rfl rfl ?_
      refine ev_iload_n (pc' := 41) (i := 3) dX0_singleRoots_40 rfl rfl rfl ?_
      refine ev_bipush (pc' := 43) (v := 10) dX0_singleRoots_41 rfl kb_10 ?_
      refine ev_idiv (pc' := 44) (v := 11) dX0_singleRoots_43 rfl (by decide) (by decide) ?_
      refine ev_istore_n (pc' := 45) (i := 3) (lv' := [some (.ref 12), some (.int 1), some (.int 0), some (.int 11), some (.int 0), some (.int 5)]) dX0_singleRoots_44 rfl rfl (Nat.le_of_ble_eq_true rfl) rfl rfl ?_
      refine ev_iload (pc' := 47) dX0_singleRoots_45 rfl rfl ?_
      refine ev_iconst (pc' := 48) (v := 5) dX0_singleRoots_47 rfl ki_5 ?_
      refine ev_icmp_lt (tgt := 54) (pc' := 51) dX0_singleRoots_48 rfl rfl (fun h => absurd h (by decide)) (fun _ => ?_)
      refine ev_goto (tgt := 74) dX0_singleRoots_51 rfl ?_
      refine ev_iinc (pc' := 77) (v := 1) (lv' := [some (.ref 12), some (.int 1), some (.int 0), some (.int 11), some (.int 1), some (.int 5)]) dX0_singleRoots_74 rfl rfl (by decide) (Nat.le_of_ble_eq_true rfl) rfl rfl ?_
      refine ev_goto (tgt := 24) dX0_singleRoots_77 rfl ?_
      refine ev_iload (pc' := 26) dX0_singleRoots_24 rfl rfl ?_
      refine ev_iconst (pc' := 27) (v := 4) dX0_singleRoots_26 rfl ki_4 ?_
      refine ev_icmp_ge (tgt := 80) (pc' := 30) dX0_singleRoots_27 rfl rfl (fun h => absurd h (by decide)) (fun _ => ?_)
      refine ev_iload_n (pc' := 31) (i := 3) dX0_singleRoots_30 rfl rfl rfl ?_
      refine ev_if_eq (tgt := 80) (pc' := 34) dX0_singleRoots_31 rfl rfl (fun h => absurd h (by decide)) (fun _ => ?_)
      refine ev_iload_n (pc' := 35) (i := 3) dX0_singleRoots_34 rfl rfl rfl ?_
      refine ev_bipush (pc' := 37) (v := 10) dX0_singleRoots_35 rfl kb_10 ?_
      refine ev_irem (pc' := 38) (v := 1) dX0_singleRoots_37 rfl (by decide) (by decide) ?_
      refine ev_istore (pc' := 40) (lv' := [some (.ref 12), some (.int 1), some (.int 0), some (.int 11), some (.int 1), some (.int 1)]) dX0_singleRoots_38 rfl (Nat.le_of_ble_eq_true rfl) rfl rfl ?_
      refine ev_iload_n (pc' := 41) (i := 3) dX0_singleRoots_40 rfl rfl rfl ?_
      refine ev_bipush (pc' := 43) (v := 10) dX0_singleRoots_41 rfl kb_10 ?_
      refine ev_idiv (pc' := 44) (v := 1) dX0_singleRoots_43 rfl (by decide) (by decide) ?_
      refine ev_istore_n (pc' := 45) (i := 3) (lv' := [some (.ref 12), some (.int 1), some (.int 0), some (.int 1), some (.int 1), some (.int 1)]) dX0_singleRoots_44 rfl rfl (Nat.le_of_ble_eq_true rfl) rfl rfl ?_
      refine ev_iload (pc' := 47) dX0_singleRoots_45 rfl rfl ?_
      refine ev_iconst (pc' := 48) (v := 5) dX0_singleRoots_47 rfl ki_5 ?_
      refine ev_icmp_lt (tgt := 54) (pc' := 51) dX0_singleRoots_48 rfl rfl (fun _ => ?_) (fun h => absurd (by decide) h)
      refine ev_iload_n (pc' := 55) (i := 1) dX0_singleRoots_54 rfl rfl rfl ?_
      refine ev_if_eq (tgt := 63) (pc' := 58) dX0_singleRoots_55 rfl rfl (fun h => absurd h (by decide)) (fun _ => ?_)
      refine ev_iconst (pc' := 59) (v := 0) dX0_singleRoots_58 rfl ki_0 ?_
      refine ev_istore_n (pc' := 60) (i := 1) (lv' := [some (.ref 12), some (.int 0), some (.int 0), some (.int 1), some (.int 1), some (.int 1)]) dX0_singleRoots_59 rfl rfl (Nat.le_of_ble_eq_true rfl) rfl rfl ?_
      refine ev_goto (tgt := 74) dX0_singleRoots_60 rfl ?_
      refine ev_iinc (pc' := 77) (v := 2) (lv' := [some (.ref 12), some (.int 0), some (.int 0), some (.int 1), some (.int 2), some (.int 1)]) dX0_singleRoots_74 rfl rfl (by decide) (Nat.le_of_ble_eq_true rfl) rfl rfl ?_
      refine ev_goto (tgt := 24) dX0_singleRoots_77 rfl ?_
      refine ev_iload (pc' := 26) dX0_singleRoots_24 rfl rfl ?_
      refine ev_iconst (pc' := 27) (v := 4) dX0_singleRoots_26 rfl ki_4 ?_
      refine ev_icmp_ge (tgt := 80) (pc' := 30) dX0_singleRoots_27 rfl rfl (fun h => absurd h (by decide)) (fun _ => ?_)
      refine ev_iload_n (pc' := 31) (i := 3) dX0_singleRoots_30 rfl rfl rfl ?_
      refine ev_if_eq (tgt := 80) (pc' := 34) dX0_singleRoots_31 rfl rfl (fun h => absurd h (by decide)) (fun _ => ?_)
      refine ev_iload_n (pc' := 35) (i := 3) dX0_singleRoots_34 rfl rfl rfl ?_
      refine ev_bipush (pc' := 37) (v := 10) dX0_singleRoots_35 rfl kb_10 ?_
      refine ev_irem (pc' := 38) (v := 1) dX0_singleRoots_37 rfl (by decide) (by decide) ?_
      refine ev_istore (pc' := 40) (lv' := [some (.ref 12), some (.int 0), some (.int 0), some (.int 1), some (.int 2), some (.int 1)]) dX0_singleRoots_38 rfl (Nat.le_of_ble_eq_true rfl) rfl rfl ?_
      refine ev_iload_n (pc' := 41) (i := 3) dX0_singleRoots_40 rfl rfl rfl ?_
      refine ev_bipush (pc' := 43) (v := 10) dX0_singleRoots_41 rfl kb_10 ?_
      refine ev_idiv (pc' := 44) (v := 0) dX0_singleRoots_43 rfl (by decide) (by decide) ?_
      refine ev_istore_n (pc' := 45) (i := 3) (lv' := [some (.ref 12), some (.int 0), some (.int 0), some (.int 0), some (.int 2), some (.int 1)]) dX0_singleRoots_44 rfl rfl (Nat.le_of_ble_eq_true rfl) rfl rfl ?_
      refine ev_iload (pc' := 47) dX0_singleRoots_45 rfl rfl ?_
      refine ev_iconst (pc' := 48) (v := 5) dX0_singleRoots_47 rfl ki_5 ?_
      refine ev_icmp_lt (tgt := 54) (pc' := 51) dX0_singleRoots_48 rfl rfl (fun _ => ?_) (fun h => absurd (by decide) h)
      refine ev_iload_n (pc' := 55) (i := 1) dX0_singleRoots_54 rfl rfl rfl ?_
      refine ev_if_eq (tgt := 63) (pc' := 58) dX0_singleRoots_55 rfl rfl (fun _ => ?_) (fun h => absurd (by decide) h)
      refine ev_iload (pc' := 65) dX0_singleRoots_63 rfl rfl ?_
      refine ev_iconst (pc' := 66) (v := 1) dX0_singleRoots_65 rfl ki_1 ?_
      refine ev_icmp_le (tgt := 71) (pc' := 69) dX0_singleRoots_66 rfl rfl (fun _ => ?_) (fun h => absurd (by decide) h)
      refine ev_iinc (pc' := 74) (v := 1) (lv' := [some (.ref 12), some (.int 0), some (.int 1), some (.int 0), some (.int 2), some (.int 1)]) dX0_singleRoots_71 rfl rfl (by decide) (Nat.le_of_ble_eq_true rfl) rfl rfl ?_
      refine ev_iinc (pc' := 77) (v := 3) (lv' := [some (.ref 12), some (.int 0), some (.int 1), some (.int 0), some (.int 3), some (.int 1)]) dX0_singleRoots_74 rfl rfl (by decide) (Nat.le_of_ble_eq_true rfl) rfl rfl ?_
      refine ev_goto (tgt := 24) dX0_singleRoots_77 rfl ?_
      refine ev_iload (pc' := 26) dX0_singleRoots_24 rfl rfl ?_
      refine ev_iconst (pc' := 27) (v := 4) dX0_singleRoots_26 rfl ki_4 ?_
      refine ev_icmp_ge (tgt := 80) (pc' := 30) dX0_singleRoots_27 rfl rfl (fun h => absurd h (by decide)) (fun _ => ?_)
      refine ev_iload_n (pc' := 31) (i := 3) dX0_singleRoots_30 rfl rfl rfl ?_
      refine ev_if_eq (tgt := 80) (pc' := 34) dX0_singleRoots_31 rfl rfl (fun _ => ?_) (fun h => absurd (by decide) h)
      refine ev_iload_n (pc' := 81) (i := 2) dX0_singleRoots_80 rfl rfl rfl ?_
      refine ev_iret dX0_singleRoots_81 rfl rfl ⟨Nat.le_refl _, Nat.le_refl _⟩ ?_
      have e : (if (L 13) 0 = 0 then cS1 (cFig (L 13) ((L 12) 5) ((L 12) 6)) else cS0 (cFig (L 13) ((L 12) 5) ((L 12) 6))) = 1 := by rw [if_pos h11, g35]; decide
      rw [e] at k0
      exact k0 _ _ _ _
    · rw [g35] at hr
      subst hr
      refine ev_istore_n (pc' := 21) (i := 3) (lv' := [some (.ref 12), some (.int 1), some (.int 0), some (.int 121), none, none]) dX0_singleRoots_20 rfl rfl (Nat.le_of_ble_eq_true rfl) rfl rfl ?_
      refine ev_iconst (pc' := 22) (v := 0) dX0_singleRoots_21 rfl ki_0 ?_
      refine ev_istore (pc' := 24) (lv' := [some (.ref 12), some (.int 1), some (.int 0), some (.int 121), some (.int 0), none]) dX0_singleRoots_22 rfl (Nat.le_of_ble_eq_true rfl) rfl rfl ?_
      refine ev_iload (pc' := 26) dX0_singleRoots_24 rfl rfl ?_
      refine ev_iconst (pc' := 27) (v := 4) dX0_singleRoots_26 rfl ki_4 ?_
      refine ev_icmp_ge (tgt := 80) (pc' := 30) dX0_singleRoots_27 rfl rfl (fun h => absurd h (by decide)) (fun _ => ?_)
      refine ev_iload_n (pc' := 31) (i := 3) dX0_singleRoots_30 rfl rfl rfl ?_
      refine ev_if_eq (tgt := 80) (pc' := 34) dX0_singleRoots_31 rfl rfl (fun h => absurd h (by decide)) (fun _ => ?_)
      refine ev_iload_n (pc' := 35) (i := 3) dX0_singleRoots_34 rfl rfl rfl ?_
      refine ev_bipush (pc' := 37) (v := 10) dX0_singleRoots_35 rfl kb_10 ?_
      refine ev_irem (pc' := 38) (v := 1) dX0_singleRoots_37 rfl (by decide) (by decide) ?_
      refine ev_istore (pc' := 40) (lv' := [some (.ref 12), some (.int 1), some (.int 0), some (.int 121), some (.int 0), some (.int 1)]) dX0_singleRoots_38 rfl (Nat.le_of_ble_eq_true rfl) rfl rfl ?_
      refine ev_iload_n (pc' := 41) (i := 3) dX0_singleRoots_40 rfl rfl rfl ?_
      refine ev_bipush (pc' := 43) (v := 10) dX0_singleRoots_41 rfl kb_10 ?_
      refine ev_idiv (pc' := 44) (v := 12) dX0_singleRoots_43 rfl (by decide) (by decide) ?_
      refine ev_istore_n (pc' := 45) (i := 3) (lv' := [some (.ref 12), some (.int 1), some (.int 0), some (.int 12), some (.int 0), some (.int 1)]) dX0_singleRoots_44 rfl rfl (Nat.le_of_ble_eq_true rfl) rfl rfl ?_
      refine ev_iload (pc' := 47) dX0_singleRoots_45 rfl rfl ?_
      refine ev_iconst (pc' := 48) (v := 5) dX0_singleRoots_47 rfl ki_5 ?_
      refine ev_icmp_lt (tgt := 54) (pc' := 51) dX0_singleRoots_48 rfl rfl (fun _ => ?_) (fun h => absurd (by decide) h)
      refine ev_iload_n (pc' := 55) (i := 1) dX0_singleRoots_54 rfl rfl rfl ?_
      refine ev_if_eq (tgt := 63) (pc' := 58) dX0_singleRoots_55 rfl rfl (fun h => absurd h (by decide)) (fun _ => ?_)
      refine ev_iconst (pc' := 59) (v := 0) dX0_singleRoots_58 rfl ki_0 ?_
      refine ev_istore_n (pc' := 60) (i := 1) (lv' := [some (.ref 12), some (.int 0), some (.int 0), some (.int 12), some (.int 0), some (.int 1)]) dX0_singleRoots_59 rfl rfl (Nat.le_of_ble_eq_true rfl) rfl rfl ?_
      refine ev_goto (tgt := 74) dX0_singleRoots_60 rfl ?_
      refine ev_iinc (pc' := 77) (v := 1) (lv' := [some (.ref 12), some (.int 0), some (.int 0), some (.int 12), some (.int 1), some (.int 1)]) dX0_singleRoots_74 rfl rfl (by decide) (Nat.le_of_ble_eq_true rfl) rfl rfl ?_
      refine ev_goto (tgt := 24) dX0_singleRoots_77 rfl ?_
      refine ev_iload (pc' := 26) dX0_singleRoots_24 rfl rfl ?_
      refine ev_iconst (pc' := 27) (v := 4) dX0_singleRoots_26 rfl ki_4 ?_
      refine ev_icmp_ge (tgt := 80) (pc' := 30) dX0_singleRoots_27 rfl rfl (fun h => absurd h (by decide)) (fun _ => ?_)
      refine ev_iload_n (pc' := 31) (i := 3) dX0_singleRoots_30 rfl rfl rfl ?_
      refine ev_if_eq (tgt := 80) (pc' := 34) dX0_singleRoots_31 rfl rfl (fun h => absurd h (by decide)) (fun _ => ?_)
      refine ev_iload_n (pc' := 35) (i := 3) dX0_singleRoots_34 rfl rfl rfl ?_
      refine ev_bipush (pc' := 37) (v := 10) dX0_singleRoots_35 rfl kb_10 ?_
      refine ev_irem (pc' := 38) (v := 2) dX0_singleRoots_37 rfl (by decide) (by decide) ?_
      refine ev_istore (pc' := 40) (lv' := [some (.ref 12), some (.int 0), some (.int 0), some (.int 12), some (.int 1), some (.int 2)]) dX0_singleRoots_38 rfl (Nat.le_of_ble_eq_true rfl) rfl rfl ?_
      refine ev_iload_n (pc' := 41) (i := 3) dX0_singleRoots_40 rfl rfl rfl ?_
      refine ev_bipush (pc' := 43) (v := 10) dX0_singleRoots_41 rfl kb_10 ?_
      refine ev_idiv (pc' := 44) (v := 1) dX0_singleRoots_43 rfl (by decide) (by decide) ?_
      refine ev_istore_n (pc' := 45) (i := 3) (lv' := [some (.ref 12), some (.int 0), some (.int 0), some (.int 1), some (.int 1), some (.int 2)]) dX0_singleRoots_44 rfl rfl (Nat.le_of_ble_eq_true rfl) rfl rfl ?_
      refine ev_iload (pc' := 47) dX0_singleRoots_45 rfl rfl ?_
      refine ev_iconst (pc' := 48) (v := 5) dX0_singleRoots_47 rfl ki_5 ?_
      refine ev_icmp_lt (tgt := 54) (pc' := 51) dX0_singleRoots_48 rfl rfl (fun _ => ?_) (fun h => absurd (by decide) h)
      refine ev_iload_n (pc' := 55) (i := 1) dX0_singleRoots_54 rfl rfl rfl ?_
      refine ev_if_eq (tgt := 63) (pc' := 58) dX0_singleRoots_55 rfl rfl (fun _ => ?_) (fun h => absurd (by decide) h)
      refine ev_iload (pc' := 65) dX0_singleRoots_63 rfl rfl ?_
      refine ev_iconst (pc' := 66) (v := 1) dX0_singleRoots_65 rfl ki_1 ?_
      refine ev_icmp_le (tgt := 71) (pc' := 69) dX0_singleRoots_66 rfl rfl (fun h => absurd h (by decide)) (fun _ => ?_)
      refine ev_iconst (pc' := 70) (v := (-1)) dX0_singleRoots_69 rfl ki_m1 ?_
      refine ev_iret dX0_singleRoots_70 rfl rfl ⟨Nat.le_refl _, Nat.le_refl _⟩ ?_
      have e : (if (L 13) 0 = 0 then cS1 (cFig (L 13) ((L 12) 5) ((L 12) 6)) else cS0 (cFig (L 13) ((L 12) 5) ((L 12) 6))) = (-1) := by rw [if_pos h11, g35]; decide
      rw [e] at k0
      exact k0 _ _ _ _
    · rw [g35] at hr
      subst hr
      refine ev_istore_n (pc' := 21) (i := 3) (lv' := [some (.ref 12), some (.int 1), some (.int 0), some (.int 211), none, none]) dX0_singleRoots_20 rfl rfl (Nat.le_of_ble_eq_true rfl) rfl rfl ?_
      refine ev_iconst (pc' := 22) (v := 0) dX0_singleRoots_21 rfl ki_0 ?_
      refine ev_istore (pc' := 24) (lv' := [some (.ref 12), some (.int 1), some (.int 0), some (.int 211), some (.int 0), none]) dX0_singleRoots_22 rfl (Nat.le_of_ble_eq_true rfl) rfl rfl ?_
      refine ev_iload (pc' := 26) dX0_singleRoots_24 rfl rfl ?_
      refine ev_iconst (pc' := 27) (v := 4) dX0_singleRoots_26 rfl ki_4 ?_
      refine ev_icmp_ge (tgt := 80) (pc' := 30) dX0_singleRoots_27 rfl rfl (fun h => absurd h (by decide)) (fun _ => ?_)
      refine ev_iload_n (pc' := 31) (i := 3) dX0_singleRoots_30 rfl rfl rfl ?_
      refine ev_if_eq (tgt := 80) (pc' := 34) dX0_singleRoots_31 rfl rfl (fun h => absurd h (by decide)) (fun _ => ?_)
      refine ev_iload_n (pc' := 35) (i := 3) dX0_singleRoots_34 rfl rfl rfl ?_
      refine ev_bipush (pc' := 37) (v := 10) dX0_singleRoots_35 rfl kb_10 ?_
      refine ev_irem (pc' := 38) (v := 1) dX0_singleRoots_37 rfl (by decide) (by decide) ?_
      refine ev_istore (pc' := 40) (lv' := [some (.ref 12), some (.int 1), some (.int 0), some (.int 211), some (.int 0), some (.int 1)]) dX0_singleRoots_38 rfl (Nat.le_of_ble_eq_true rfl) rfl rfl ?_
      refine ev_iload_n (pc' := 41) (i := 3) dX0_singleRoots_40 rfl rfl rfl ?_
      refine ev_bipush (pc' := 43) (v := 10) dX0_singleRoots_41 rfl kb_10 ?_
      refine ev_idiv (pc' := 44) (v := 21) dX0_singleRoots_43 rfl (by decide) (by decide) ?_
      refine ev_istore_n (pc' := 45) (i := 3) (lv' := [some (.ref 12), some (.int 1), some (.int 0), some (.int 21), some (.int 0), some (.int 1)]) dX0_singleRoots_44 rfl rfl (Nat.le_of_ble_eq_true rfl) rfl rfl ?_
      refine ev_iload (pc' := 47) dX0_singleRoots_45 rfl rfl ?_
      refine ev_iconst (pc' := 48) (v := 5) dX0_singleRoots_47 rfl ki_5 ?_
      refine ev_icmp_lt (tgt := 54) (pc' := 51) dX0_singleRoots_48 rfl rfl (fun _ => ?_) (fun h => absurd (by decide) h)
      refine ev_iload_n (pc' := 55) (i := 1) dX0_singleRoots_54 rfl rfl rfl ?_
      refine ev_if_eq (tgt := 63) (pc' := 58) dX0_singleRoots_55 rfl rfl (fun h => absurd h (by decide)) (fun _ => ?_)
      refine ev_iconst (pc' := 59) (v := 0) dX0_singleRoots_58 rfl ki_0 ?_
      refine ev_istore_n (pc' := 60) (i := 1) (lv' := [some (.ref 12), some (.int 0), some (.int 0), some (.int 21), some (.int 0), some (.int 1)]) dX0_singleRoots_59 rfl rfl (Nat.le_of_ble_eq_true rfl) rfl rfl ?_
      refine ev_goto (tgt := 74) dX0_singleRoots_60 rfl ?_
      refine ev_iinc (pc' := 77) (v := 1) (lv' := [some (.ref 12), some (.int 0), some (.int 0), some (.int 21), some (.int 1), some (.int 1)]) dX0_singleRoots_74 rfl rfl (by decide) (Nat.le_of_ble_eq_true rfl) rfl rfl ?_
      refine ev_goto (tgt := 24) dX0_singleRoots_77 rfl ?_
      refine ev_iload (pc' := 26) dX0_singleRoots_24 rfl rfl ?_
      refine ev_iconst (pc' := 27) (v := 4) dX0_singleRoots_26 rfl ki_4 ?_
      refine ev_icmp_ge (tgt := 80) (pc' := 30) dX0_singleRoots_27 rfl rfl (fun h => absurd h (by decide)) (fun _ => ?_)
      refine ev_iload_n (pc' := 31) (i := 3) dX0_singleRoots_30 rfl rfl rfl ?_
      refine ev_if_eq (tgt := 80) (pc' := 34) dX0_singleRoots_31 rfl rfl (fun h => absurd h (by decide)) (fun _ => ?_)
      refine ev_iload_n (pc' := 35) (i := 3) dX0_singleRoots_34 rfl rfl rfl ?_
      refine ev_bipush (pc' := 37) (v := 10) dX0_singleRoots_35 rfl kb_10 ?_
      refine ev_irem (pc' := 38) (v := 1) dX0_singleRoots_37 rfl (by decide) (by decide) ?_
      refine ev_istore (pc' := 40) (lv' := [some (.ref 12), some (.int 0), some (.int 0), some (.int 21), some (.int 1), some (.int 1)]) dX0_singleRoots_38 rfl (Nat.le_of_ble_eq_true rfl) rfl rfl ?_
      refine ev_iload_n (pc' := 41) (i := 3) dX0_singleRoots_40 rfl rfl rfl ?_
      refine ev_bipush (pc' := 43) (v := 10) dX0_singleRoots_41 rfl kb_10 ?_
      refine ev_idiv (pc' := 44) (v := 2) dX0_singleRoots_43 rfl (by decide) (by decide) ?_
      refine ev_istore_n (pc' := 45) (i := 3) (lv' := [some (.ref 12), some (.int 0), some (.int 0), some (.int 2), some (.int 1), some (.int 1)]) dX0_singleRoots_44 rfl rfl (Nat.le_of_ble_eq_true rfl) rfl rfl ?_
      refine ev_iload (pc' := 47) dX0_singleRoots_45 rfl rfl ?_
      refine ev_iconst (pc' := 48) (v := 5) dX0_singleRoots_47 rfl ki_5 ?_
      refine ev_icmp_lt (tgt := 54) (pc' := 51) dX0_singleRoots_48 rfl rfl (fun _ => ?_) (fun h => absurd (by decide) h)
      refine ev_iload_n (pc' := 55) (i := 1) dX0_singleRoots_54 rfl rfl rfl ?_
      refine ev_if_eq (tgt := 63) (pc' := 58) dX0_singleRoots_55 rfl rfl (fun _ => ?_) (fun h => absurd (by decide) h)
      refine ev_iload (pc' := 65) dX0_singleRoots_63 rfl rfl ?_
      refine ev_iconst (pc' := 66) (v := 1) dX0_singleRoots_65 rfl ki_1 ?_
      refine ev_icmp_le (tgt := 71) (pc' := 69) dX0_singleRoots_66 rfl rfl (fun _ => ?_) (fun h => absurd (by decide) h)
      refine ev_iinc (pc' := 74) (v := 1) (lv' := [some (.ref 12), some (.int 0), some (.int 1), some (.int 2), some (.int 1), some (.int 1)]) dX0_singleRoots_71 rfl rfl (by decide) (Nat.le_of_ble_eq_true rfl) rfl rfl ?_
      refine ev_iinc (pc' := 77) (v := 2) (lv' := [some (.ref 12), some (.int 0), some (.int 1), some (.int 2), some (.int 2), some (.int 1)]) dX0_singleRoots_74 rfl rfl (by decide) (Nat.le_of_ble_eq_true rfl) rfl rfl ?_
      refine ev_goto (tgt := 24) dX0_singleRoots_77 rfl ?_
      refine ev_iload (pc' := 26) dX0_singleRoots_24 rfl rfl ?_
      refine ev_iconst (pc' := 27) (v := 4) dX0_singleRoots_26 rfl ki_4 ?_
      refine ev_icmp_ge (tgt := 80) (pc' := 30) dX0_singleRoots_27 rfl rfl (fun h => absurd h (by decide)) (fun _ => ?_)
      refine ev_iload_n (pc' := 31) (i := 3) dX0_singleRoots_30 rfl rfl rfl ?_
      refine ev_if_eq (tgt := 80) (pc' := 34) dX0_singleRoots_31 rfl rfl (fun h => absurd h (by decide)) (fun _ => ?_)
      refine ev_iload_n (pc' := 35) (i := 3) dX0_singleRoots_34 rfl rfl rfl ?_
      refine ev_bipush (pc' := 37) (v := 10) dX0_singleRoots_35 rfl kb_10 ?_
      refine ev_irem (pc' := 38) (v := 2) dX0_singleRoots_37 rfl (by decide) (by decide) ?_
      refine ev_istore (pc' := 40) (lv' := [some (.ref 12), some (.int 0), some (.int 1), some (.int 2), some (.int 2), some (.int 2)]) dX0_singleRoots_38 rfl (Nat.le_of_ble_eq_true rfl) rfl rfl ?_
      refine ev_iload_n (pc' := 41) (i := 3) dX0_singleRoots_40 rfl rfl rfl ?_
      refine ev_bipush (pc' := 43) (v := 10) dX0_singleRoots_41 rfl kb_10 ?_
      refine ev_idiv (pc' := 44) (v := 0) dX0_singleRoots_43 rfl (by decide) (by decide) ?_
      refine ev_istore_n (pc' := 45) (i := 3) (lv' := [some (.ref 12), some (.int 0), some (.int 1), some (.int 0), some (.int 2), some (.int 2)]) dX0_singleRoots_44 rfl rfl (Nat.le_of_ble_eq_true rfl) rfl rfl ?_
      refine ev_iload (pc' := 47) dX0_singleRoots_45 rfl rfl ?_
      refine ev_iconst (pc' := 48) (v := 5) dX0_singleRoots_47 rfl ki_5 ?_
      refine ev_icmp_lt (tgt := 54) (pc' := 51) dX0_singleRoots_48 rfl rfl (fun _ => ?_) (fun h => absurd (by decide) h)
      refine ev_iload_n (pc' := 55) (i := 1) dX0_singleRoots_54 rfl rfl rfl ?_
      refine ev_if_eq (tgt := 63) (pc' := 58) dX0_singleRoots_55 rfl rfl (fun _ => ?_) (fun h => absurd (by decide) h)
      refine ev_iload (pc' := 65) dX0_singleRoots_63 rfl rfl ?_
      refine ev_iconst (pc' := 66) (v := 1) dX0_singleRoots_65 rfl ki_1 ?_
      refine ev_icmp_le (tgt := 71) (pc' := 69) dX0_singleRoots_66 rfl rfl (fun h => absurd h (by decide)) (fun _ => ?_)
      refine ev_iconst (pc' := 70) (v := (-1)) dX0_singleRoots_69 rfl ki_m1 ?_
      refine ev_iret dX0_singleRoots_70 rfl rfl ⟨Nat.le_refl _, Nat.le_refl _⟩ ?_
      have e : (if (L 13) 0 = 0 then cS1 (cFig (L 13) ((L 12) 5) ((L 12) 6)) else cS0 (cFig (L 13) ((L 12) 5) ((L 12) 6))) = (-1) := by rw [if_pos h11, g35]; decide
      rw [e] at k0
      exact k0 _ _ _ _
    · rw [g35] at hr
      subst hr
      refine ev_istore_n (pc' := 21) (i := 3) (lv' := [some (.ref 12), some (.int 1), some (.int 0), some (.int 1111), none, none]) dX0_singleRoots_20 rfl rfl (Nat.le_of_ble_eq_true rfl) rfl rfl ?_
      refine ev_iconst (pc' := 22) (v := 0) dX0_singleRoots_21 rfl ki_0 ?_
      refine ev_istore (pc' := 24) (lv' := [some (.ref 12), some (.int 1), some (.int 0), some (.int 1111), some (.int 0), none]) dX0_singleRoots_22 rfl (Nat.le_of_ble_eq_true rfl) rfl rfl ?_
      refine ev_iload (pc' := 26) dX0_singleRoots_24 rfl rfl ?_
      refine ev_iconst (pc' := 27) (v := 4) dX0_singleRoots_26 rfl ki_4 ?_
      refine ev_icmp_ge (tgt := 80) (pc' := 30) dX0_singleRoots_27 rfl rfl (fun h => absurd h (by decide)) (fun _ => ?_)
      refine ev_iload_n (pc' := 31) (i := 3) dX0_singleRoots_30 rfl rfl rfl ?_
      refine ev_if_eq (tgt := 80) (pc' := 34) dX0_singleRoots_31 rfl rfl (fun h => absurd h (by decide)) (fun _ => ?_)
      refine ev_iload_n (pc' := 35) (i := 3) dX0_singleRoots_34 rfl rfl rfl ?_
      refine ev_bipush (pc' := 37) (v := 10) dX0_singleRoots_35 rfl kb_10 ?_
      refine ev_irem (pc' := 38) (v := 1) dX0_singleRoots_37 rfl (by decide) (by decide) ?_
      refine ev_istore (pc' := 40) (lv' := [some (.ref 12), some (.int 1), some (.int 0), some (.int 1111), some (.int 0), some (.int 1)]) dX0_singleRoots_38 rfl (Nat.le_of_ble_eq_true rfl) rfl rfl ?_
      refine ev_iload_n (pc' := 41) (i := 3) dX0_singleRoots_40 rfl rfl rfl ?_
      refine ev_bipush (pc' := 43) (v := 10) dX0_singleRoots_41 rfl kb_10 ?_
      refine ev_idiv (pc' := 44) (v := 111) dX0_singleRoots_43 rfl (by decide) (by decide) ?_
      refine ev_istore_n (pc' := 45) (i := 3) (lv' := [some (.ref 12), some (.int 1), some (.int 0), some (.int 111), some (.int 0), some (.int 1)]) dX0_singleRoots_44 rfl rfl (Nat.le_of_ble_eq_true rfl) rfl rfl ?_
      refine ev_iload (pc' := 47) dX0_singleRoots_45 rfl rfl ?_
      refine ev_iconst (pc' := 48) (v := 5) dX0_singleRoots_47 rfl ki_5 ?_
      refine ev_icmp_lt (tgt := 54) (pc' := 51) dX0_singleRoots_48 rfl rfl (fun _ => ?_) (fun h => absurd (by decide) h)
      refine ev_iload_n (pc' := 55) (i := 1) dX0_singleRoots_54 rfl rfl rfl ?_
      refine ev_if_eq (tgt := 63) (pc' := 58) dX0_singleRoots_55 rfl rfl (fun h => absurd h (by decide)) (fun _ => ?_)
      refine ev_iconst (pc' := 59) (v := 0) dX0_singleRoots_58 rfl ki_0 ?_
      refine ev_istore_n (pc' := 60) (i := 1) (lv' := [some (.ref 12), some (.int 0), some (.int 0), some (.int 111), some (.int 0), some (.int 1)]) dX0_singleRoots_59 rfl rfl (Nat.le_of_ble_eq_true rfl) rfl rfl ?_
      refine ev_goto (tgt := 74) dX0_singleRoots_60 rfl ?_
      refine ev_iinc (pc' := 77) (v := 1) (lv' := [some (.ref 12), some (.int 0), some (.int 0), some (.int 111), some (.int 1), some (.int 1)]) dX0_singleRoots_74 rfl rfl (by decide) (Nat.le_of_ble_eq_true rfl) rfl rfl ?_
      refine ev_goto (tgt := 24) dX0_singleRoots_77 rfl ?_
      refine ev_iload (pc' := 26) dX0_singleRoots_24 rfl rfl ?_
      refine ev_iconst (pc' := 27) (v := 4) dX0_singleRoots_26 rfl ki_4 ?_
      refine ev_icmp_ge (tgt := 80) (pc' := 30) dX0_singleRoots_27 rfl rfl (fun h => absurd h (by decide)) (fun _ => ?_)
      refine ev_iload_n (pc' := 31) (i := 3) dX0_singleRoots_30 rfl rfl rfl ?_
      refine ev_if_eq (tgt := 80) (pc' := 34) dX0_singleRoots_31 rfl rfl (fun h => absurd h (by decide)) (fun _ => ?_)
      refine ev_iload_n (pc' := 35) (i := 3) dX0_singleRoots_34 rfl rfl rfl ?_
      refine ev_bipush (pc' := 37) (v := 10) dX0_singleRoots_35 rfl kb_10 ?_
      refine ev_irem (pc' := 38) (v := 1) dX0_singleRoots_37 rfl (by decide) (by decide) ?_
      refine ev_istore (pc' := 40) (lv' := [some (.ref 12), some (.int 0), some (.int 0), some (.int 111), some (.int 1), some (.int 1)]) dX0_singleRoots_38 rfl (Nat.le_of_ble_eq_true rfl) rfl rfl ?_
      refine ev_iload_n (pc' := 41) (i := 3) dX0_singleRoots_40 rfl rfl rfl ?_
      refine ev_bipush (pc' := 43) (v := 10) dX0_singleRoots_41 rfl kb_10 ?_
      refine ev_idiv (pc' := 44) (v := 11) dX0_singleRoots_43 rfl (by decide) (by decide) ?_
      refine ev_istore_n (pc' := 45) (i := 3) (lv' := [some (.ref 12), some (.int 0), some (.int 0), some (.int 11), some (.int 1), some (.int 1)]) dX0_singleRoots_44 rfl rfl (Nat.le_of_ble_eq_true rfl) rfl rfl ?_
      refine ev_iload (pc' := 47) dX0_singleRoots_45 rfl rfl ?_
      refine ev_iconst (pc' := 48) (v := 5) dX0_singleRoots_47 rfl ki_5 ?_
      refine ev_icmp_lt (tgt := 54) (pc' := 51) dX0_singleRoots_48 rfl rfl (fun _ => ?_) (fun h => absurd (by decide) h)
      refine ev_iload_n (pc' := 55) (i := 1) dX0_singleRoots_54 rfl rfl rfl ?_
      refine ev_if_eq (tgt := 63) (pc' := 58) dX0_singleRoots_55 rfl rfl (fun _ => ?_) (fun h => absurd (by decide) h)
      refine ev_iload (pc' := 65) dX0_singleRoots_63 rfl rfl ?_
      refine ev_iconst (pc' := 66) (v := 1) dX0_singleRoots_65 rfl ki_1 ?_
      refine ev_icmp_le (tgt := 71) (pc' := 69) dX0_singleRoots_66 rfl rfl (fun _ => ?_) (fun h => absurd (by decide) h)
      refine ev_iinc (pc' := 74) (v := 1) (lv' := [some (.ref 12), some (.int 0), some (.int 1), some (.int 11), some (.int 1), some (.int 1)]) dX0_singleRoots_71 rfl rfl (by decide) (Nat.le_of_ble_eq_true rfl) rfl rfl ?_
      refine ev_iinc (pc' := 77) (v := 2) (lv' := [some (.ref 12), some (.int 0), some (.int 1), some (.int 11), some (.int 2), some (.int 1)]) dX0_singleRoots_74 rfl rfl (by decide) (Nat.le_of_ble_eq_true rfl) rfl rfl ?_
      refine ev_goto (tgt := 24) dX0_singleRoots_77 rfl ?_
      refine ev_iload (pc' := 26) dX0_singleRoots_24 rfl rfl ?_
      refine ev_iconst (pc' := 27) (v := 4) dX0_singleRoots_26 rfl ki_4 ?_
      refine ev_icmp_ge (tgt := 80) (pc' := 30) dX0_singleRoots_27 rfl rfl (fun h => absurd h (by decide)) (fun _ => ?_)
      refine ev_iload_n (pc' := 31) (i := 3) dX0_singleRoots_30 rfl rfl rfl ?_
      refine ev_if_eq (tgt := 80) (pc' := 34) dX0_singleRoots_31 rfl rfl (fun h => absurd h (by decide)) (fun _ => ?_)
      refine ev_iload_n (pc' := 35) (i := 3) dX0_singleRoots_34 rfl rfl rfl ?_
      refine ev_bipush (pc' := 37) (v := 10) dX0_singleRoots_35 rfl kb_10 ?_
      refine ev_irem (pc' := 38) (v := 1) dX0_singleRoots_37 rfl (by decide) (by decide) ?_
      refine ev_istore (pc' := 40) (lv' := [some (.ref 12), some (.int 0), some (.int 1), some (.int 11), some (.int 2), some (.int 1)]) dX0_singleRoots_38 rfl (Nat.le_of_ble_eq_true rfl) rfl rfl ?_
      refine ev_iload_n (pc' := 41) (i := 3) dX0_singleRoots_40 rfl rfl rfl ?_
      refine ev_bipush (pc' := 43) (v := 10) dX0_singleRoots_41 rfl kb_10 ?_
      refine ev_idiv (pc' := 44) (v := 1) dX0_singleRoots_43 rfl (by decide) (by decide) ?_
      refine ev_istore_n (pc' := 45) (i := 3) (lv' := [some (.ref 12), some (.int 0), some (.int 1), some (.int 1), some (.int 2), some (.int 1)]) dX0_singleRoots_44 rfl rfl (Nat.le_of_ble_eq_true rfl) rfl rfl ?_
      refine ev_iload (pc' := 47) dX0_singleRoots_45 rfl rfl ?_
      refine ev_iconst (pc' := 48) (v := 5) dX0_singleRoots_47 rfl ki_5 ?_
      refine ev_icmp_lt (tgt := 54) (pc' := 51) dX0_singleRoots_48 rfl rfl (fun _ => ?_) (fun h => absurd (by decide) h)
      refine ev_iload_n (pc' := 55) (i := 1) dX0_singleRoots_54 rfl rfl rfl ?_
      refine ev_if_eq (tgt := 63) (pc' := 58) dX0_singleRoots_55 rfl rfl (fun _ => ?_) (fun h => absurd (by decide) h)
      refine ev_iload (pc' := 65) dX0_singleRoots_63 rfl rfl ?_
      refine ev_iconst (pc' := 66) (v := 1) dX0_singleRoots_65 rfl ki_1 ?_
      refine ev_icmp_le (tgt := 71) (pc' := 69) dX0_singleRoots_66 rfl rfl (fun _ => ?_) (fun h => absurd (by decide) h)
      refine ev_iinc (pc' := 74) (v := 2) (lv' := [some (.ref 12), some (.int 0), some (.int 2), some (.int 1), some (.int 2), some (.int 1)]) dX0_singleRoots_71 rfl rfl (by decide) (Nat.le_of_ble_eq_true rfl) rfl rfl ?_
      refine ev_iinc (pc' := 77) (v := 3) (lv' := [some (.ref 12), some (.int 0), some (.int 2), some (.int 1), some (.int 3), some (.int 1)]) dX0_singleRoots_74 rfl rfl (by decide) (Nat.le_of_ble_eq_true rfl) rfl rfl ?_
      refine ev_goto (tgt := 24) dX0_singleRoots_77 rfl ?_
      refine ev_iload (pc' := 26) dX0_singleRoots_24 rfl rfl ?_
      refine ev_iconst (pc' := 27) (v := 4) dX0_singleRoots_26 rfl ki_4 ?_
      refine ev_icmp_ge (tgt := 80) (pc' := 30) dX0_singleRoots_27 rfl rfl (fun h => absurd h (by decide)) (fun _ => ?_)
      refine ev_iload_n (pc' := 31) (i := 3) dX0_singleRoots_30 rfl rfl rfl ?_
      refine ev_if_eq (tgt := 80) (pc' := 34) dX0_singleRoots_31 rfl rfl (fun h => absurd h (by decide)) (fun _ => ?_)
      refine ev_iload_n (pc' := 35) (i := 3) dX0_singleRoots_34 rfl rfl rfl ?_
      refine ev_bipush (pc' := 37) (v := 10) dX0_singleRoots_35 rfl kb_10 ?_
      refine ev_irem (pc' := 38) (v := 1) dX0_singleRoots_37 rfl (by decide) (by decide) ?_
      refine ev_istore (pc' := 40) (lv' := [some (.ref 12), some (.int 0), some (.int 2), some (.int 1), some (.int 3), some (.int 1)]) dX0_singleRoots_38 rfl (Nat.le_of_ble_eq_true rfl) rfl rfl ?_
      refine ev_iload_n (pc' := 41) (i := 3) dX0_singleRoots_40 rfl rfl rfl ?_
      refine ev_bipush (pc' := 43) (v := 10) dX0_singleRoots_41 rfl kb_10 ?_
      refine ev_idiv (pc' := 44) (v := 0) dX0_singleRoots_43 rfl (by decide) (by decide) ?_
      refine ev_istore_n (pc' := 45) (i := 3) (lv' := [some (.ref 12), some (.int 0), some (.int 2), some (.int 0), some (.int 3), some (.int 1)]) dX0_singleRoots_44 rfl rfl (Nat.le_of_ble_eq_true rfl) rfl rfl ?_
      refine ev_iload (pc' := 47) dX0_singleRoots_45 rfl rfl ?_
      refine ev_iconst (pc' := 48) (v := 5) dX0_singleRoots_47 rfl ki_5 ?_
      refine ev_icmp_lt (tgt := 54) (pc' := 51) dX0_singleRoots_48 rfl rfl (fun _ => ?_) (fun h => absurd (by decide) h)
      refine ev_iload_n (pc' := 55) (i := 1) dX0_singleRoots_54 rfl rfl rfl ?_
      refine ev_if_eq (tgt := 63) (pc' := 58) dX0_singleRoots_55 rfl rfl (fun _ => ?_) (fun h => absurd (by decide) h)
      refine ev_iload (pc' := 65) dX0_singleRoots_63 rfl rfl ?_
      refine ev_iconst (pc' := 66) (v := 1) dX0_singleRoots_65 rfl ki_1 ?_
      refine ev_icmp_le (tgt := 71) (pc' := 69) dX0_singleRoots_66 rfl rfl (fun _ => ?_) (fun h => absurd (by decide) h)
      refine ev_iinc (pc' := 74) (v := 3) (lv' := [some (.ref 12), some (.int 0), some (.int 3), some (.int 0), some (.int 3), some (.int 1)]) dX0_singleRoots_71 rfl rfl (by decide) (Nat.le_of_ble_eq_true rfl) rfl rfl ?_
      refine ev_iinc (pc' := 77) (v := 4) (lv' := [some (.ref 12), some (.int 0), some (.int 3), some (.int 0), some (.int 4), some (.int 1)]) dX0_singleRoots_74 rfl rfl (by decide) (Nat.le_of_ble_eq_true rfl) rfl rfl ?_
      refine ev_goto (tgt := 24) dX0_singleRoots_77 rfl ?_
      refine ev_iload (pc' := 26) dX0_singleRoots_24 rfl rfl ?_
      refine ev_iconst (pc' := 27) (v := 4) dX0_singleRoots_26 rfl ki_4 ?_
      refine ev_icmp_ge (tgt := 80) (pc' := 30) dX0_singleRoots_27 rfl rfl (fun _ => ?_) (fun h => absurd (by decide) h)
      refine ev_iload_n (pc' := 81) (i := 2) dX0_singleRoots_80 rfl rfl rfl ?_
      refine ev_iret dX0_singleRoots_81 rfl rfl ⟨Nat.le_refl _, Nat.le_refl _⟩ ?_
      have e : (if (L 13) 0 = 0 then cS1 (cFig (L 13) ((L 12) 5) ((L 12) 6)) else cS0 (cFig (L 13) ((L 12) 5) ((L 12) 6))) = 3 := by rw [if_pos h11, g35]; decide
      rw [e] at k0
      exact k0 _ _ _ _
  · skip
    refine ev_iconst (pc' := 5) (v := 4) dX0_singleRoots_4 rfl ki_4 ?_
    refine ev_icmp_ge (tgt := 12) (pc' := 8) dX0_singleRoots_5 rfl rfl (fun h => absurd h (by decide)) (fun _ => ?_)
    refine ev_iconst (pc' := 9) (v := 1) dX0_singleRoots_8 rfl ki_1 ?_
    refine ev_goto (tgt := 13) dX0_singleRoots_9 rfl ?_
    refine ev_istore_n (pc' := 14) (i := 1) (lv' := [some (.ref 12), some (.int 1), none, none, none, none]) dX0_singleRoots_13 rfl rfl (Nat.le_of_ble_eq_true rfl) rfl rfl ?_
    refine ev_iconst (pc' := 15) (v := 0) dX0_singleRoots_14 rfl ki_0 ?_
    refine ev_istore_n (pc' := 16) (i := 2) (lv' := [some (.ref 12), some (.int 1), some (.int 0), none, none, none]) dX0_singleRoots_15 rfl rfl (Nat.le_of_ble_eq_true rfl) rfl rfl ?_
    refine ev_aload_n (pc' := 17) (i := 0) dX0_singleRoots_16 rfl rfl rfl ?_
    refine ev_callV (pc' := 20) (rm' := rX0_figures) (b := 12) (av := []) (rest := []) co_X0_127 ci_X0_figures cv_X0_figures dX0_singleRoots_17 rfl hs_12 hb_X0 rfl rfl (Nat.le_of_ble_eq_true rfl) ⟨(Nat.le_of_ble_eq_true rfl), (Nat.le_of_ble_eq_true rfl)⟩ ⟨(Nat.le_of_ble_eq_true rfl), (Nat.le_of_ble_eq_true rfl)⟩ ?_
    refine t_X0_figures hI hJ hA hE (fun Y36 Z37 V38 W39 => ?_)
    refine ev_topi (fun r hr => ?_)
    have hr : r = cFig (L 13) ((L 12) 5) ((L 12) 6) := hr
    rcases cFig_v (L 13) ((L 12) 5) ((L 12) 6) with g40 | g40 | g40 | g40 | g40 | g40 | g40 | g40 | g40 | g40 | g40 | g40 | g40
    · rw [g40] at hr
      subst hr
      refine ev_istore_n (pc' := 21) (i := 3) (lv' := [some (.ref 12), some (.int 1), some (.int 0), some (.int 0), none, none]) dX0_singleRoots_20 rfl rfl (Nat.le_of_ble_eq_true rfl) rfl rfl ?_
      refine ev_iconst (pc' := 22) (v := 0) dX0_singleRoots_21 rfl ki_0 ?_
      refine ev_istore (pc' := 24) (lv' := [some (.ref 12), some (.int 1), some (.int 0), some (.int 0), some (.int 0), none]) dX0_singleRoots_22 rfl (Nat.le_of_ble_eq_true rfl) rfl rfl ?_
      refine ev_iload (pc' := 26) dX0_singleRoots_24 rfl rfl ?_
      refine ev_iconst (pc' := 27) (v := 4) dX0_singleRoots_26 rfl ki_4 ?_
      refine ev_icmp_ge (tgt := 80) (pc' := 30) dX0_singleRoots_27 rfl rfl (fun h => absurd h (by decide)) (fun _ => ?_)
      refine ev_iload_n (pc' := 31) (i := 3) dX0_singleRoots_30 rfl rfl rfl ?_
      refine ev_if_eq (tgt := 80) (pc' := 34) dX0_singleRoots_31 rfl rfl (fun _ => ?_) (fun h => absurd (by decide) h)
      refine ev_iload_n (pc' := 81) (i := 2) dX0_singleRoots_80 rfl rfl rfl ?_
      refine ev_iret dX0_singleRoots_81 rfl rfl ⟨Nat.le_refl _, Nat.le_refl _⟩ ?_
      have e : (if (L 13) 0 = 0 then cS1 (cFig (L 13) ((L 12) 5) ((L 12) 6)) else cS0 (cFig (L 13) ((L 12) 5) ((L 12) 6))) = 0 := by rw [if_pos h15, g40]; decide
      rw [e] at k0
      exact k0 _ _ _ _
    · rw [g40] at hr
      subst hr
      refine ev_istore_n (pc' := 21) (i := 3) (lv' := [some (.ref 12), some (.int 1), some (.int 0), some (.int 4), none, none]) dX0_singleRoots_20 rfl rfl (Nat.le_of_ble_eq_true rfl) rfl rfl ?_
      refine ev_iconst (pc' := 22) (v := 0) dX0_singleRoots_21 rfl ki_0 ?_
      refine ev_istore (pc' := 24) (lv' := [some (.ref 12), some (.int 1), some (.int 0), some (.int 4), some (.int 0), none]) dX0_singleRoots_22 rfl (Nat.le_of_ble_eq_true rfl) rfl rfl ?_
      refine ev_iload (pc' := 26) dX0_singleRoots_24 rfl rfl ?_
      refine ev_iconst (pc' := 27) (v := 4) dX0_singleRoots_26 rfl ki_4 ?_
      refine ev_icmp_ge (tgt := 80) (pc' := 30) dX0_singleRoots_27 rfl rfl (fun h => absurd h (by decide)) (fun _ => ?_)
      refine ev_iload_n (pc' := 31) (i := 3) dX0_singleRoots_30 rfl rfl rfl ?_
      refine ev_if_eq (tgt := 80) (pc' := 34) dX0_singleRoots_31 rfl rfl (fun h => absurd h (by decide)) (fun _ => ?_)
      refine ev_iload_n (pc' := 35) (i := 3) dX0_singleRoots_34 rfl rfl rfl ?_
      refine ev_bipush (pc' := 37) (v := 10) dX0_singleRoots_35 rfl kb_10 ?_
      refine ev_irem (pc' := 38) (v := 4) dX0_singleRoots_37 rfl (by decide) (by decide) ?_
      refine ev_istore (pc' := 40) (lv' := [some (.ref 12), some (.int 1), some (.int 0), some (.int 4), some (.int 0), some (.int 4)]) dX0_singleRoots_38 rfl (Nat.le_of_ble_eq_true rfl) rfl rfl ?_
      refine ev_iload_n (pc' := 41) (i := 3) dX0_singleRoots_40 rfl rfl rfl ?_
      refine ev_bipush (pc' := 43) (v := 10) dX0_singleRoots_41 rfl kb_10 ?_
      refine ev_idiv (pc' := 44) (v := 0) dX0_singleRoots_43 rfl (by decide) (by decide) ?_
      refine ev_istore_n (pc' := 45) (i := 3) (lv' := [some (.ref 12), some (.int 1), some (.int 0), some (.int 0), some (.int 0), some (.int 4)]) dX0_singleRoots_44 rfl rfl (Nat.le_of_ble_eq_true rfl) rfl rfl ?_
      refine ev_iload (pc' := 47) dX0_singleRoots_45 rfl rfl ?_
      refine ev_iconst (pc' := 48) (v := 5) dX0_singleRoots_47 rfl ki_5 ?_
      refine ev_icmp_lt (tgt := 54) (pc' := 51) dX0_singleRoots_48 rfl rfl (fun _ => ?_) (fun h => absurd (by decide) h)
      refine ev_iload_n (pc' := 55) (i := 1) dX0_singleRoots_54 rfl rfl rfl ?_
      refine ev_if_eq (tgt := 63) (pc' := 58) dX0_singleRoots_55 rfl rfl (fun h => absurd h (by decide)) (fun _ => ?_)
      refine ev_iconst (pc' := 59) (v := 0) dX0_singleRoots_58 rfl ki_0 ?_
      refine ev_istore_n (pc' := 60) (i := 1) (lv' := [some (.ref 12), some (.int 0), some (.int 0), some (.int 0), some (.int 0), some (.int 4)]) dX0_singleRoots_59 rfl rfl (Nat.le_of_ble_eq_true rfl) rfl rfl ?_
      refine ev_goto (tgt := 74) dX0_singleRoots_60 rfl ?_
      refine ev_iinc (pc' := 77) (v := 1) (lv' := [some (.ref 12), some (.int 0), some (.int 0), some (.int 0), some (.int 1), some (.int 4)]) dX0_singleRoots_74 rfl rfl (by decide) (Nat.le_of_ble_eq_true rfl) rfl rfl ?_
      refine ev_goto (tgt := 24) dX0_singleRoots_77 rfl ?_
      refine ev_iload (pc' := 26) dX0_singleRoots_24 rfl rfl ?_
      refine ev_iconst (pc' := 27) (v := 4) dX0_singleRoots_26 rfl ki_4 ?_
      refine ev_icmp_ge (tgt := 80) (pc' := 30) dX0_singleRoots_27 rfl rfl (fun h => absurd h (by decide)) (fun _ => ?_)
      refine ev_iload_n (pc' := 31) (i := 3) dX0_singleRoots_30 rfl rfl rfl ?_
      refine ev_if_eq (tgt := 80) (pc' := 34) dX0_singleRoots_31 rfl rfl (fun _ => ?_) (fun h => absurd (by decide) h)
      refine ev_iload_n (pc' := 81) (i := 2) dX0_singleRoots_80 rfl rfl rfl ?_
      refine ev_iret dX0_singleRoots_81 rfl rfl ⟨Nat.le_refl _, Nat.le_refl _⟩ ?_
      have e : (if (L 13) 0 = 0 then cS1 (cFig (L 13) ((L 12) 5) ((L 12) 6)) else cS0 (cFig (L 13) ((L 12) 5) ((L 12) 6))) = 0 := by rw [if_pos h15, g40]; decide
      rw [e] at k0
      exact k0 _ _ _ _
    · rw [g40] at hr
      subst hr
      refine ev_istore_n (pc' := 21) (i := 3) (lv' := [some (.ref 12), some (.int 1), some (.int 0), some (.int 6), none, none]) dX0_singleRoots_20 rfl rfl (Nat.le_of_ble_eq_true rfl) rfl rfl ?_
      refine ev_iconst (pc' := 22) (v := 0) dX0_singleRoots_21 rfl ki_0 ?_
      refine ev_istore (pc' := 24) (lv' := [some (.ref 12), some (.int 1), some (.int 0), some (.int 6), some (.int 0), none]) dX0_singleRoots_22 rfl (Nat.le_of_ble_eq_true rfl) rfl rfl ?_
      refine ev_iload (pc' := 26) dX0_singleRoots_24 rfl rfl ?_
      refine ev_iconst (pc' := 27) (v := 4) dX0_singleRoots_26 rfl ki_4 ?_
      refine ev_icmp_ge (tgt := 80) (pc' := 30) dX0_singleRoots_27 rfl rfl (fun h => absurd h (by decide)) (fun _ => ?_)
      refine ev_iload_n (pc' := 31) (i := 3) dX0_singleRoots_30 rfl rfl rfl ?_
      refine ev_if_eq (tgt := 80) (pc' := 34) dX0_singleRoots_31 rfl rfl (fun h => absurd h (by decide)) (fun _ => ?_)
      refine ev_iload_n (pc' := 35) (i := 3) dX0_singleRoots_34 rfl rfl rfl ?_
      refine ev_bipush (pc' := 37) (v := 10) dX0_singleRoots_35 rfl kb_10 ?_
      refine ev_irem (pc' := 38) (v := 6) dX0_singleRoots_37 rfl (by decide) (by decide) ?_
      refine ev_istore (pc' := 40) (lv' := [some (.ref 12), some (.int 1), some (.int 0), some (.int 6), some (.int 0), some (.int 6)]) dX0_singleRoots_38 rfl (Nat.le_of_ble_eq_true rfl) rfl rfl ?_
      refine ev_iload_n (pc' := 41) (i := 3) dX0_singleRoots_40 rfl rfl rfl ?_
      refine ev_bipush (pc' := 43) (v := 10) dX0_singleRoots_41 rfl kb_10 ?_
      refine ev_idiv (pc' := 44) (v := 0) dX0_singleRoots_43 rfl (by decide) (by decide) ?_
      refine ev_istore_n (pc' := 45) (i := 3) (lv' := [some (.ref 12), some (.int 1), some (.int 0), some (.int 0), some (.int 0), some (.int 6)]) dX0_singleRoots_44 rfl rfl (Nat.le_of_ble_eq_true rfl) rfl rfl ?_
      refine ev_iload (pc' := 47) dX0_singleRoots_45 rfl rfl ?_
      refine ev_iconst (pc' := 48) (v := 5) dX0_singleRoots_47 rfl ki_5 ?_
      refine ev_icmp_lt (tgt := 54) (pc' := 51) dX0_singleRoots_48 rfl rfl (fun h => absurd h (by decide)) (fun _ => ?_)
      refine ev_goto (tgt := 74) dX0_singleRoots_51 rfl ?_
      refine ev_iinc (pc' := 77) (v := 1) (lv' := [some (.ref 12), some (.int 1), some (.int 0), some (.int 0), some (.int 1), some (.int 6)]) dX0_singleRoots_74 rfl rfl (by decide) (Nat.le_of_ble_eq_true rfl) rfl rfl ?_
      refine ev_goto (tgt := 24) dX0_singleRoots_77 rfl ?_
      refine ev_iload (pc' := 26) dX0_singleRoots_24 rfl rfl ?_
      refine ev_iconst (pc' := 27) (v := 4) dX0_singleRoots_26 rfl ki_4 ?_
      refine ev_icmp_ge (tgt := 80) (pc' := 30) dX0_singleRoots_27 rfl rfl (fun h => absurd h (by decide)) (fun _ => ?_)
      refine ev_iload_n (pc' := 31) (i := 3) dX0_singleRoots_30 rfl rfl rfl ?_
      refine ev_if_eq (tgt := 80) (pc' := 34) dX0_singleRoots_31 rfl rfl (fun _ => ?_) (fun h => absurd (by decide) h)
      refine ev_iload_n (pc' := 81) (i := 2) dX0_singleRoots_80 rfl rfl rfl ?_
      refine ev_iret dX0_singleRoots_81 rfl rfl ⟨Nat.le_refl _, Nat.le_refl _⟩ ?_
      have e : (if (L 13) 0 = 0 then cS1 (cFig (L 13) ((L 12) 5) ((L 12) 6)) else cS0 (cFig (L 13) ((L 12) 5) ((L 12) 6))) = 0 := by rw [if_pos h15, g40]; decide
      rw [e] at k0
      exact k0 _ _ _ _
    · rw [g40] at hr
      subst hr
      refine ev_istore_n (pc' := 21) (i := 3) (lv' := [some (.ref 12), some (.int 1), some (.int 0), some (.int 13), none, none]) dX0_singleRoots_20 rfl rfl (Nat.le_of_ble_eq_true rfl) rfl rfl ?_
      refine ev_iconst (pc' := 22) (v := 0) dX0_singleRoots_21 rfl ki_0 ?_
      refine ev_istore (pc' := 24) (lv' := [some (.ref 12), some (.int 1), some (.int 0), some (.int 13), some (.int 0), none]) dX0_singleRoots_22 rfl (Nat.le_of_ble_eq_true rfl) rfl rfl ?_
      refine ev_iload (pc' := 26) dX0_singleRoots_24 rfl rfl ?_
      refine ev_iconst (pc' := 27) (v := 4) dX0_singleRoots_26 rfl ki_4 ?_
      refine ev_icmp_ge (tgt := 80) (pc' := 30) dX0_singleRoots_27 rfl rfl (fun h => absurd h (by decide)) (fun _ => ?_)
      refine ev_iload_n (pc' := 31) (i := 3) dX0_singleRoots_30 rfl rfl rfl ?_
      refine ev_if_eq (tgt := 80) (pc' := 34) dX0_singleRoots_31 rfl rfl (fun h => absurd h (by decide)) (fun _ => ?_)
      refine ev_iload_n (pc' := 35) (i := 3) dX0_singleRoots_34 rfl rfl rfl ?_
      refine ev_bipush (pc' := 37) (v := 10) dX0_singleRoots_35 rfl kb_10 ?_
      refine ev_irem (pc' := 38) (v := 3) dX0_singleRoots_37 rfl (by decide) (by decide) ?_
      refine ev_istore (pc' := 40) (lv' := [some (.ref 12), some (.int 1), some (.int 0), some (.int 13), some (.int 0), some (.int 3)]) dX0_singleRoots_38 rfl (Nat.le_of_ble_eq_true rfl) rfl rfl ?_
      refine ev_iload_n (pc' := 41) (i := 3) dX0_singleRoots_40 rfl rfl rfl ?_
      refine ev_bipush (pc' := 43) (v := 10) dX0_singleRoots_41 rfl kb_10 ?_
      refine ev_idiv (pc' := 44) (v := 1) dX0_singleRoots_43 rfl (by decide) (by decide) ?_
      refine ev_istore_n (pc' := 45) (i := 3) (lv' := [some (.ref 12), some (.int 1), some (.int 0), some (.int 1), some (.int 0), some (.int 3)]) dX0_singleRoots_44 rfl rfl (Nat.le_of_ble_eq_true rfl) rfl rfl ?_
      refine ev_iload (pc' := 47) dX0_singleRoots_45 rfl rfl ?_
      refine ev_iconst (pc' := 48) (v := 5) dX0_singleRoots_47 rfl ki_5 ?_
      refine ev_icmp_lt (tgt := 54) (pc' := 51) dX0_singleRoots_48 rfl rfl (fun _ => ?_) (fun h => absurd (by decide) h)
      refine ev_iload_n (pc' := 55) (i := 1) dX0_singleRoots_54 rfl rfl rfl ?_
      refine ev_if_eq (tgt := 63) (pc' := 58) dX0_singleRoots_55 rfl rfl (fun h => absurd h (by decide)) (fun _ => ?_)
      refine ev_iconst (pc' := 59) (v := 0) dX0_singleRoots_58 rfl ki_0 ?_
      refine ev_istore_n (pc' := 60) (i := 1) (lv' := [some (.ref 12), some (.int 0), some (.int 0), some (.int 1), some (.int 0), some (.int 3)]) dX0_singleRoots_59 rfl rfl (Nat.le_of_ble_eq_true rfl) rfl rfl ?_
      refine ev_goto (tgt := 74) dX0_singleRoots_60 rfl ?_
      refine ev_iinc (pc' := 77) (v := 1) (lv' := [some (.ref 12), some (.int 0), some (.int 0), some (.int 1), some (.int 1), some (.int 3)]) dX0_singleRoots_74 rfl rfl (by decide) (Nat.le_of_ble_eq_true rfl) rfl rfl ?_
      refine ev_goto (tgt := 24) dX0_singleRoots_77 rfl ?_
      refine ev_iload (pc' := 26) dX0_singleRoots_24 rfl rfl ?_
      refine ev_iconst (pc' := 27) (v := 4) dX0_singleRoots_26 rfl ki_4 ?_
      refine ev_icmp_ge (tgt := 80) (pc' := 30) dX0_singleRoots_27 rfl rfl (fun h => absurd h (by decide)) (fun _ => ?_)
      refine ev_iload_n (pc' := 31) (i := 3) dX0_singleRoots_30 rfl rfl rfl ?_
      refine ev_if_eq (tgt := 80) (pc' := 34) dX0_singleRoots_31 rfl rfl (fun h => absurd h (by decide)) (fun _ => ?_)
      refine ev_iload_n (pc' := 35) (i := 3) dX0_singleRoots_34 rfl rfl rfl ?_
      refine ev_bipush (pc' := 37) (v := 10) dX0_singleRoots_35 rfl kb_10 ?_
      refine ev_irem (pc' := 38) (v := 1) dX0_singleRoots_37 rfl (by decide) (by decide) ?_
      refine ev_istore (pc' := 40) (lv' := [some (.ref 12), some (.int 0), some (.int 0), some (.int 1), some (.int 1), some (.int 1)]) dX0_singleRoots_38 rfl (Nat.le_of_ble_eq_true rfl) rfl rfl ?_
      refine ev_iload_n (pc' := 41) (i := 3) dX0_singleRoots_40 rfl rfl rfl ?_
      refine ev_bipush (pc' := 43) (v := 10) dX0_singleRoots_41 rfl kb_10 ?_
      refine ev_idiv (pc' := 44) (v := 0) dX0_singleRoots_43 rfl (by decide) (by decide) ?_
      refine ev_istore_n (pc' := 45) (i := 3) (lv' := [some (.ref 12), some (.int 0), some (.int 0), some (.int 0), some (.int 1), some (.int 1)]) dX0_singleRoots_44 rfl rfl (Nat.le_of_ble_eq_true rfl) rfl rfl ?_
      refine ev_iload (pc' := 47) dX0_singleRoots_45 rfl rfl ?_
      refine ev_iconst (pc' := 48) (v := 5) dX0_singleRoots_47 rfl ki_5 ?_
      refine ev_icmp_lt (tgt := 54) (pc' := 51) dX0_singleRoots_48 rfl rfl (fun _ => ?_) (fun h => absurd (by decide) h)
      refine ev_iload_n (pc' := 55) (i := 1) dX0_singleRoots_54 rfl rfl rfl ?_
      refine ev_if_eq (tgt := 63) (pc' := 58) dX0_singleRoots_55 rfl rfl (fun _ => ?_) (fun h => absurd (by decide) h)
      refine ev_iload (pc' := 65) dX0_singleRoots_63 rfl rfl ?_
      refine ev_iconst (pc' := 66) (v := 1) dX0_singleRoots_65 rfl ki_1 ?_
      refine ev_icmp_le (tgt := 71) (pc' := 69) dX0_singleRoots_66 rfl rfl (fun _ => ?_) (fun h => absurd (by decide) h)
      refine ev_iinc (pc' := 74) (v := 1) (lv' := [some (.ref 12), some (.int 0), some (.int 1), some (.int 0), some (.int 1), some (.int 1)]) dX0_singleRoots_71 rfl rfl (by decide) (Nat.le_of_ble_eq_true rfl) rfl rfl ?_
      refine ev_iinc (pc' := 77) (v := 2) (lv' := [some (.ref 12), some (.int 0), some (.int 1), some (.int 0), some (.int 2), some (.int 1)]) dX0_singleRoots_74 rfl rfl (by decide) (Nat.le_of_ble_eq_true rfl) rfl rfl ?_
      refine ev_goto (tgt := 24) dX0_singleRoots_77 rfl ?_
      refine ev_iload (pc' := 26) dX0_singleRoots_24 rfl rfl ?_
      refine ev_iconst (pc' := 27) (v := 4) dX0_singleRoots_26 rfl ki_4 ?_
      refine ev_icmp_ge (tgt := 80) (pc' := 30) dX0_singleRoots_27 rfl rfl (fun h => absurd h (by decide)) (fun _ => ?_)
      refine ev_iload_n (pc' := 31) (i := 3) dX0_singleRoots_30 rfl rfl rfl ?_
      refine ev_if_eq (tgt := 80) (pc' := 34) dX0_singleRoots_31 rfl rfl (fun _ => ?_) (fun h => absurd (by decide) h)
      refine ev_iload_n (pc' := 81) (i := 2) dX0_singleRoots_80 rfl rfl rfl ?_
      refine ev_iret dX0_singleRoots_81 rfl rfl ⟨Nat.le_refl _, Nat.le_refl _⟩ ?_
      have e : (if (L 13) 0 = 0 then cS1 (cFig (L 13) ((L 12) 5) ((L 12) 6)) else cS0 (cFig (L 13) ((L 12) 5) ((L 12) 6))) = 1 := by rw [if_pos h15, g40]; decide
      rw [e] at k0
      exact k0 _ _ _ _
    · rw [g40] at hr
      subst hr
      refine ev_istore_n (pc' := 21) (i := 3) (lv' := [some (.ref 12), some (.int 1), some (.int 0), some (.int 22), none, none]) dX0_singleRoots_20 rfl rfl (Nat.le_of_ble_eq_true rfl) rfl rfl ?_
      refine ev_iconst (pc' := 22) (v := 0) dX0_singleRoots_21 rfl ki_0 ?_
      refine ev_istore (pc' := 24) (lv' := [some (.ref 12), some (.int 1), some (.int 0), some (.int 22), some (.int 0), none]) dX0_singleRoots_22 rfl (Nat.le_of_ble_eq_true rfl) rfl rfl ?_
      refine ev_iload (pc' := 26) dX0_singleRoots_24 rfl rfl ?_
      refine ev_iconst (pc' := 27) (v := 4) dX0_singleRoots_26 rfl ki_4 ?_
      refine ev_icmp_ge (tgt := 80) (pc' := 30) dX0_singleRoots_27 rfl rfl (fun h => absurd h (by decide)) (fun _ => ?_)
      refine ev_iload_n (pc' := 31) (i := 3) dX0_singleRoots_30 rfl rfl rfl ?_
      refine ev_if_eq (tgt := 80) (pc' := 34) dX0_singleRoots_31 rfl rfl (fun h => absurd h (by decide)) (fun _ => ?_)
      refine ev_iload_n (pc' := 35) (i := 3) dX0_singleRoots_34 rfl rfl rfl ?_
      refine ev_bipush (pc' := 37) (v := 10) dX0_singleRoots_35 rfl kb_10 ?_
      refine ev_irem (pc' := 38) (v := 2) dX0_singleRoots_37 rfl (by decide) (by decide) ?_
      refine ev_istore (pc' := 40) (lv' := [some (.ref 12), some (.int 1), some (.int 0), some (.int 22), some (.int 0), some (.int 2)]) dX0_singleRoots_38 rfl (Nat.le_of_ble_eq_true rfl) rfl rfl ?_
      refine ev_iload_n (pc' := 41) (i := 3) dX0_singleRoots_40 rfl rfl rfl ?_
      refine ev_bipush (pc' := 43) (v := 10) dX0_singleRoots_41 rfl kb_10 ?_
      refine ev_idiv (pc' := 44) (v := 2) dX0_singleRoots_43 rfl (by decide) (by decide) ?_
      refine ev_istore_n (pc' := 45) (i := 3) (lv' := [some (.ref 12), some (.int 1), some (.int 0), some (.int 2), some (.int 0), some (.int 2)]) dX0_singleRoots_44 rfl rfl (Nat.le_of_ble_eq_true rfl) rfl rfl ?_
      refine ev_iload (pc' := 47) dX0_singleRoots_45 rfl rfl ?_
      refine ev_iconst (pc' := 48) (v := 5) dX0_singleRoots_47 rfl ki_5 ?_
      refine ev_icmp_lt (tgt := 54) (pc' := 51) dX0_singleRoots_48 rfl rfl (fun _ => ?_) (fun h => absurd (by decide) h)
      refine ev_iload_n (pc' := 55) (i := 1) dX0_singleRoots_54 rfl rfl rfl ?_
      refine ev_if_eq (tgt := 63) (pc' := 58) dX0_singleRoots_55 rfl rfl (fun h => absurd h (by decide)) (fun _ => ?_)
      refine ev_iconst (pc' := 59) (v := 0) dX0_singleRoots_58 rfl ki_0 ?_
      refine ev_istore_n (pc' := 60) (i := 1) (lv' := [some (.ref 12), some (.int 0), some (.int 0), some (.int 2), some (.int 0), some (.int 2)]) dX0_singleRoots_59 rfl rfl (Nat.le_of_ble_eq_true rfl) rfl rfl ?_
      refine ev_goto (tgt := 74) dX0_singleRoots_60 rfl ?_
      refine ev_iinc (pc' := 77) (v := 1) (lv' := [some (.ref 12), some (.int 0), some (.int 0), some (.int 2), some (.int 1), some (.int 2)]) dX0_singleRoots_74 rfl rfl (by decide) (Nat.le_of_ble_eq_true rfl) rfl rfl ?_
      refine ev_goto (tgt := 24) dX0_singleRoots_77 rfl ?_
      refine ev_iload (pc' := 26) dX0_singleRoots_24 rfl rfl ?_
      refine ev_iconst (pc' := 27) (v := 4) dX0_singleRoots_26 rfl ki_4 ?_
      refine ev_icmp_ge (tgt := 80) (pc' := 30) dX0_singleRoots_27 rfl rfl (fun h => absurd h (by decide)) (fun _ => ?_)
      refine ev_iload_n (pc' := 31) (i := 3) dX0_singleRoots_30 rfl rfl rfl ?_
      refine ev_if_eq (tgt := 80) (pc' := 34) dX0_singleRoots_31 rfl rfl (fun h => absurd h (by decide)) (fun _ => ?_)
      refine ev_iload_n (pc' := 35) (i := 3) dX0_singleRoots_34 rfl rfl rfl ?_
      refine ev_bipush (pc' := 37) (v := 10) dX0_singleRoots_35 rfl kb_10 ?_
      refine ev_irem (pc' := 38) (v := 2) dX0_singleRoots_37 rfl (by decide) (by decide) ?_
      refine ev_istore (pc' := 40) (lv' := [some (.ref 12), some (.int 0), some (.int 0), some (.int 2), some (.int 1), some (.int 2)]) dX0_singleRoots_38 rfl (Nat.le_of_ble_eq_true rfl) rfl rfl ?_
      refine ev_iload_n (pc' := 41) (i := 3) dX0_singleRoots_40 rfl rfl rfl ?_
      refine ev_bipush (pc' := 43) (v := 10) dX0_singleRoots_41 rfl kb_10 ?_
      refine ev_idiv (pc' := 44) (v := 0) dX0_singleRoots_43 rfl (by decide) (by decide) ?_
      refine ev_istore_n (pc' := 45) (i := 3) (lv' := [some (.ref 12), some (.int 0), some (.int 0), some (.int 0), some (.int 1), some (.int 2)]) dX0_singleRoots_44 rfl rfl (Nat.le_of_ble_eq_true rfl) rfl rfl ?_
      refine ev_iload (pc' := 47) dX0_singleRoots_45 rfl rfl ?_
      refine ev_iconst (pc' := 48) (v := 5) dX0_singleRoots_47 rfl ki_5 ?_
      refine ev_icmp_lt (tgt := 54) (pc' := 51) dX0_singleRoots_48 rfl rfl (fun _ => ?_) (fun h => absurd (by decide) h)
      refine ev_iload_n (pc' := 55) (i := 1) dX0_singleRoots_54 rfl rfl rfl ?_
      refine ev_if_eq (tgt := 63) (pc' := 58) dX0_singleRoots_55 rfl rfl (fun _ => ?_) (fun h => absurd (by decide) h)
      refine ev_iload (pc' := 65) dX0_singleRoots_63 rfl rfl ?_
      refine ev_iconst (pc' := 66) (v := 1) dX0_singleRoots_65 rfl ki_1 ?_
      refine ev_icmp_le (tgt := 71) (pc' := 69) dX0_singleRoots_66 rfl rfl (fun h => absurd h (by decide)) (fun _ => ?_)
      refine ev_iconst (pc' := 70) (v := (-1)) dX0_singleRoots_69 rfl ki_m1 ?_
      refine ev_iret dX0_singleRoots_70 rfl rfl ⟨Nat.le_refl _, Nat.le_refl _⟩ ?_
      have e : (if (L 13) 0 = 0 then cS1 (cFig (L 13) ((L 12) 5) ((L 12) 6)) else cS0 (cFig (L 13) ((L 12) 5) ((L 12) 6))) = (-1) := by rw [if_pos h15, g40]; decide
      rw [e] at k0
      exact k0 _ _ _ _
    · rw [g40] at hr
      subst hr
      refine ev_istore_n (pc' := 21) (i := 3) (lv' := [some (.ref 12), some (.int 1), some (.int 0), some (.int 25), none, none]) dX0_singleRoots_20 rfl rfl (Nat.le_of_ble_eq_true rfl) rfl rfl ?_
      refine ev_iconst (pc' := 22) (v := 0) dX0_singleRoots_21 rfl ki_0 ?_
      refine ev_istore (pc' := 24) (lv' := [some (.ref 12), some (.int 1), some (.int 0), some (.int 25), some (.int 0), none]) dX0_singleRoots_22 rfl (Nat.le_of_ble_eq_true rfl) rfl rfl ?_
      refine ev_iload (pc' := 26) dX0_singleRoots_24 rfl rfl ?_
      refine ev_iconst (pc' := 27) (v := 4) dX0_singleRoots_26 rfl ki_4 ?_
      refine ev_icmp_ge (tgt := 80) (pc' := 30) dX0_singleRoots_27 rfl rfl (fun h => absurd h (by decide)) (fun _ => ?_)
      refine ev_iload_n (pc' := 31) (i := 3) dX0_singleRoots_30 rfl rfl rfl ?_
      refine ev_if_eq (tgt := 80) (pc' := 34) dX0_singleRoots_31 rfl rfl (fun h => absurd h (by decide)) (fun _ => ?_)
      refine ev_iload_n (pc' := 35) (i := 3) dX0_singleRoots_34 rfl rfl rfl ?_
      refine ev_bipush (pc' := 37) (v := 10) dX0_singleRoots_35 rfl kb_10 ?_
      refine ev_irem (pc' := 38) (v := 5) dX0_singleRoots_37 rfl (by decide) (by decide) ?_
      refine ev_istore (pc' := 40) (lv' := [some (.ref 12), some (.int 1), some (.int 0), some (.int 25), some (.int 0), some (.int 5)]) dX0_singleRoots_38 rfl (Nat.le_of_ble_eq_true rfl) rfl rfl ?_
      refine ev_iload_n (pc' := 41) (i := 3) dX0_singleRoots_40 rfl rfl rfl ?_
      refine ev_bipush (pc' := 43) (v := 10) dX0_singleRoots_41 rfl kb_10 ?_
      refine ev_idiv (pc' := 44) (v := 2) dX0_singleRoots_43 rfl (by decide) (by decide) ?_
      refine ev_istore_n (pc' := 45) (i := 3) (lv' := [some (.ref 12), some (.int 1), some (.int 0), some (.int 2), some (.int 0), some (.int 5)]) dX0_singleRoots_44 rfl rfl (Nat.le_of_ble_eq_true rfl) rfl rfl ?_
      refine ev_iload (pc' := 47) dX0_singleRoots_45 rfl rfl ?_
      refine ev_iconst (pc' := 48) (v := 5) dX0_singleRoots_47 rfl ki_5 ?_
      refine ev_icmp_lt (tgt := 54) (pc' := 51) dX0_singleRoots_48 rfl rfl (fun h => absurd h (by decide)) (fun _ => ?_)
      refine ev_goto (tgt := 74) dX0_singleRoots_51 rfl ?_
      refine ev_iinc (pc' := 77) (v := 1) (lv' := [some (.ref 12), some (.int 1), some (.int 0), some (.int 2), some (.int 1), some (.int 5)]) dX0_singleRoots_74 rfl rfl (by decide) (Nat.le_of_ble_eq_true rfl) rfl rfl ?_
      refine ev_goto (tgt := 24) dX0_singleRoots_77 rfl ?_
      refine ev_iload (pc' := 26) dX0_singleRoots_24 rfl rfl ?_
      refine ev_iconst (pc' := 27) (v := 4) dX0_singleRoots_26 rfl ki_4 ?_
      refine ev_icmp_ge (tgt := 80) (pc' := 30) dX0_singleRoots_27 rfl rfl (fun h => absurd h (by decide)) (fun _ => ?_)
      refine ev_iload_n (pc' := 31) (i := 3) dX0_singleRoots_30 rfl rfl rfl ?_
      refine ev_if_eq (tgt := 80) (pc' := 34) dX0_singleRoots_31 rfl rfl (fun h => absurd h (by decide)) (fun _ => ?_)
      refine ev_iload_n (pc' := 35) (i := 3) dX0_singleRoots_34 rfl rfl rfl ?_
      refine ev_bipush (pc' := 37) (v := 10) dX0_singleRoots_35 rfl kb_10 ?_
      refine ev_irem (pc' := 38) (v := 2) dX0_singleRoots_37 rfl (by decide) (by decide) ?_
      refine ev_istore (pc' := 40) (lv' := [some (.ref 12), some (.int 1), some (.int 0), some (.int 2), some (.int 1), some (.int 2)]) dX0_singleRoots_38 rfl (Nat.le_of_ble_eq_true rfl) rfl rfl ?_
      refine ev_iload_n (pc' := 41) (i := 3) dX0_singleRoots_40 rfl rfl rfl ?_
      refine ev_bipush (pc' := 43) (v := 10) dX0_singleRoots_41 rfl kb_10 ?_
      refine ev_idiv (pc' := 44) (v := 0) dX0_singleRoots_43 rfl (by decide) (by decide) ?_
      refine ev_istore_n (pc' := 45) (i := 3) (lv' := [some (.ref 12), some (.int 1), some (.int 0), some (.int 0), some (.int 1), some (.int 2)]) dX0_singleRoots_44 rfl rfl (Nat.le_of_ble_eq_true rfl) rfl rfl ?_
      refine ev_iload (pc' := 47) dX0_singleRoots_45 rfl rfl ?_
      refine ev_iconst (pc' := 48) (v := 5) dX0_singleRoots_47 rfl ki_5 ?_
      refine ev_icmp_lt (tgt := 54) (pc' := 51) dX0_singleRoots_48 rfl rfl (fun _ => ?_) (fun h => absurd (by decide) h)
      refine ev_iload_n (pc' := 55) (i := 1) dX0_singleRoots_54 rfl rfl rfl ?_
      refine ev_if_eq (tgt := 63) (pc' := 58) dX0_singleRoots_55 rfl rfl (fun h => absurd h (by decide)) (fun _ => ?_)
      refine ev_iconst (pc' := 59) (v := 0) dX0_singleRoots_58 rfl ki_0 ?_
      refine ev_istore_n (pc' := 60) (i := 1) (lv' := [some (.ref 12), some (.int 0), some (.int 0), some (.int 0), some (.int 1), some (.int 2)]) dX0_singleRoots_59 rfl rfl (Nat.le_of_ble_eq_true rfl) rfl rfl ?_
      refine ev_goto (tgt := 74) dX0_singleRoots_60 rfl ?_
      refine ev_iinc (pc' := 77) (v := 2) (lv' := [some (.ref 12), some (.int 0), some (.int 0), some (.int 0), some (.int 2), some (.int 2)]) dX0_singleRoots_74 rfl rfl (by decide) (Nat.le_of_ble_eq_true rfl) rfl rfl ?_
      refine ev_goto (tgt := 24) dX0_singleRoots_77 rfl ?_
      refine ev_iload (pc' := 26) dX0_singleRoots_24 rfl rfl ?_
      refine ev_iconst (pc' := 27) (v := 4) dX0_singleRoots_26 rfl ki_4 ?_
      refine ev_icmp_ge (tgt := 80) (pc' := 30) dX0_singleRoots_27 rfl rfl (fun h => absurd h (by decide)) (fun _ => ?_)
      refine ev_iload_n (pc' := 31) (i := 3) dX0_singleRoots_30 rfl rfl rfl ?_
      refine ev_if_eq (tgt := 80) (pc' := 34) dX0_singleRoots_31 rfl rfl (fun _ => ?_) (fun h => absurd (by decide) h)
      refine ev_iload_n (pc' := 81) (i := 2) dX0_singleRoots_80 rfl rfl rfl ?_
      refine ev_iret dX0_singleRoots_81 rfl rfl ⟨Nat.le_refl _, Nat.le_refl _⟩ ?_
      have e : (if (L 13) 0 = 0 then cS1 (cFig (L 13) ((L 12) 5) ((L 12) 6)) else cS0 (cFig (L 13) ((L 12) 5) ((L 12) 6))) = 0 := by rw [if_pos h15, g40]; decide
      rw [e] at k0
      exact k0 _ _ _ _
    · rw [g40] at hr
      subst hr
      refine ev_istore_n (pc' := 21) (i := 3) (lv' := [some (.ref 12), some (.int 1), some (.int 0), some (.int 31), none, none]) dX0_singleRoots_20 rfl rfl (Nat.le_of_ble_eq_true rfl) rfl rfl ?_
      refine ev_iconst (pc' := 22) (v := 0) dX0_singleRoots_21 rfl ki_0 ?_
      refine ev_istore (pc' := 24) (lv' := [some (.ref 12), some (.int 1), some (.int 0), some (.int 31), some (.int 0), none]) dX0_singleRoots_22 rfl (Nat.le_of_ble_eq_true rfl) rfl rfl ?_
      refine ev_iload (pc' := 26) dX0_singleRoots_24 rfl rfl ?_
      refine ev_iconst (pc' := 27) (v := 4) dX0_singleRoots_26 rfl ki_4 ?_
      refine ev_icmp_ge (tgt := 80) (pc' := 30) dX0_singleRoots_27 rfl rfl (fun h => absurd h (by decide)) (fun _ => ?_)
      refine ev_iload_n (pc' := 31) (i := 3) dX0_singleRoots_30 rfl rfl rfl ?_
      refine ev_if_eq (tgt := 80) (pc' := 34) dX0_singleRoots_31 rfl rfl (fun h => absurd h (by decide)) (fun _ => ?_)
      refine ev_iload_n (pc' := 35) (i := 3) dX0_singleRoots_34 rfl rfl rfl ?_
      refine ev_bipush (pc' := 37) (v := 10) dX0_singleRoots_35 rfl kb_10 ?_
      refine ev_irem (pc' := 38) (v := 1) dX0_singleRoots_37 rfl (by decide) (by decide) ?_
      refine ev_istore (pc' := 40) (lv' := [some (.ref 12), some (.int 1), some (.int 0), some (.int 31), some (.int 0), some (.int 1)]) dX0_singleRoots_38 rfl (Nat.le_of_ble_eq_true rfl) rfl rfl ?_
      refine ev_iload_n (pc' := 41) (i := 3) dX0_singleRoots_40 rfl rfl rfl ?_
      refine ev_bipush (pc' := 43) (v := 10) dX0_singleRoots_41 rfl kb_10 ?_
      refine ev_idiv (pc' := 44) (v := 3) dX0_singleRoots_43 rfl (by decide) (by decide) ?_
      refine ev_istore_n (pc' := 45) (i := 3) (lv' := [some (.ref 12), some (.int 1), some (.int 0), some (.int 3), some (.int 0), some (.int 1)]) dX0_singleRoots_44 rfl rfl (Nat.le_of_ble_eq_true rfl) rfl rfl ?_
      refine ev_iload (pc' := 47) dX0_singleRoots_45 rfl rfl ?_
      refine ev_iconst (pc' := 48) (v := 5) dX0_singleRoots_47 rfl ki_5 ?_
      refine ev_icmp_lt (tgt := 54) (pc' := 51) dX0_singleRoots_48 rfl rfl (fun _ => ?_) (fun h => absurd (by decide) h)
      refine ev_iload_n (pc' := 55) (i := 1) dX0_singleRoots_54 rfl rfl rfl ?_
      refine ev_if_eq (tgt := 63) (pc' := 58) dX0_singleRoots_55 rfl rfl (fun h => absurd h (by decide)) (fun _ => ?_)
      refine ev_iconst (pc' := 59) (v := 0) dX0_singleRoots_58 rfl ki_0 ?_
      refine ev_istore_n (pc' := 60) (i := 1) (lv' := [some (.ref 12), some (.int 0), some (.int 0), some (.int 3), some (.int 0), some (.int 1)]) dX0_singleRoots_59 rfl rfl (Nat.le_of_ble_eq_true rfl) rfl rfl ?_
      refine ev_goto (tgt := 74) dX0_singleRoots_60 rfl ?_
      refine ev_iinc (pc' := 77) (v := 1) (lv' := [some (.ref 12), some (.int 0), some (.int 0), some (.int 3), some (.int 1), some (.int 1)]) dX0_singleRoots_74 rfl rfl (by decide) (Nat.le_of_ble_eq_true rfl) rfl rfl ?_
      refine ev_goto (tgt := 24) dX0_singleRoots_77 rfl ?_
      refine ev_iload (pc' := 26) dX0_singleRoots_24 rfl rfl ?_
      refine ev_iconst (pc' := 27) (v := 4) dX0_singleRoots_26 rfl ki_4 ?_
      refine ev_icmp_ge (tgt := 80) (pc' := 30) dX0_singleRoots_27 rfl rfl (fun h => absurd h (by decide)) (fun _ => ?_)
      refine ev_iload_n (pc' := 31) (i := 3) dX0_singleRoots_30 rfl rfl rfl ?_
      refine ev_if_eq (tgt := 80) (pc' := 34) dX0_singleRoots_31 rfl rfl (fun h => absurd h (by decide)) (fun _ => ?_)
      refine ev_iload_n (pc' := 35) (i := 3) dX0_singleRoots_34 rfl rfl rfl ?_
      refine ev_bipush (pc' := 37) (v := 10) dX0_singleRoots_35 rfl kb_10 ?_
      refine ev_irem (pc' := 38) (v := 3) dX0_singleRoots_37 rfl (by decide) (by decide) ?_
      refine ev_istore (pc' := 40) (lv' := [some (.ref 12), some (.int 0), some (.int 0), some (.int 3), some (.int 1), some (.int 3)]) dX0_singleRoots_38 rfl (Nat.le_of_ble_eq_true rfl) rfl rfl ?_
      refine ev_iload_n (pc' := 41) (i := 3) dX0_singleRoots_40 rfl rfl rfl ?_
      refine ev_bipush (pc' := 43) (v := 10) dX0_singleRoots_41 rfl kb_10 ?_
      refine ev_idiv (pc' := 44) (v := 0) dX0_singleRoots_43 rfl (by decide) (by decide) ?_
      refine ev_istore_n (pc' := 45) (i := 3) (lv' := [some (.ref 12), some (.int 0), some (.int 0), some (.int 0), some (.int 1), some (.int 3)]) dX0_singleRoots_44 rfl rfl (Nat.le_of_ble_eq_true rfl) rfl rfl ?_
      refine ev_iload (pc' := 47) dX0_singleRoots_45 rfl rfl ?_
      refine ev_iconst (pc' := 48) (v := 5) dX0_singleRoots_47 rfl ki_5 ?_
      refine ev_icmp_lt (tgt := 54) (pc' := 51) dX0_singleRoots_48 rfl rfl (fun _ => ?_) (fun h => absurd (by decide) h)
      refine ev_iload_n (pc' := 55) (i := 1) dX0_singleRoots_54 rfl rfl rfl ?_
      refine ev_if_eq (tgt := 63) (pc' := 58) dX0_singleRoots_55 rfl rfl (fun _ => ?_) (fun h => absurd (by decide) h)
      refine ev_iload (pc' := 65) dX0_singleRoots_63 rfl rfl ?_
      refine ev_iconst (pc' := 66) (v := 1) dX0_singleRoots_65 rfl ki_1 ?_
      refine ev_icmp_le (tgt := 71) (pc' := 69) dX0_singleRoots_66 rfl rfl (fun h => absurd h (by decide)) (fun _ => ?_)
      refine ev_iconst (pc' := 70) (v := (-1)) dX0_singleRoots_69 rfl ki_m1 ?_
      refine ev_iret dX0_singleRoots_70 rfl rfl ⟨Nat.le_refl _, Nat.le_refl _⟩ ?_
      have e : (if (L 13) 0 = 0 then cS1 (cFig (L 13) ((L 12) 5) ((L 12) 6)) else cS0 (cFig (L 13) ((L 12) 5) ((L 12) 6))) = (-1) := by rw [if_pos h15, g40]; decide
      rw [e] at k0
      exact k0 _ _ _ _
    · rw [g40] at hr
      subst hr
      refine ev_istore_n (pc' := 21) (i := 3) (lv' := [some (.ref 12), some (.int 1), some (.int 0), some (.int 55), none, none]) dX0_singleRoots_20 rfl rfl (Nat.le_of_ble_eq_true rfl) rfl rfl ?_
      refine ev_iconst (pc' := 22) (v := 0) dX0_singleRoots_21 rfl ki_0 ?_
      refine ev_istore (pc' := 24) (lv' := [some (.ref 12), some (.int 1), some (.int 0), some (.int 55), some (.int 0), none]) dX0_singleRoots_22 rfl (Nat.le_of_ble_eq_true rfl) rfl rfl ?_
      refine ev_iload (pc' := 26) dX0_singleRoots_24 rfl rfl ?_
      refine ev_iconst (pc' := 27) (v := 4) dX0_singleRoots_26 rfl ki_4 ?_
      refine ev_icmp_ge (tgt := 80) (pc' := 30) dX0_singleRoots_27 rfl rfl (fun h => absurd h (by decide)) (fun _ => ?_)
      refine ev_iload_n (pc' := 31) (i := 3) dX0_singleRoots_30 rfl rfl rfl ?_
      refine ev_if_eq (tgt := 80) (pc' := 34) dX0_singleRoots_31 rfl rfl (fun h => absurd h (by decide)) (fun _ => ?_)
      refine ev_iload_n (pc' := 35) (i := 3) dX0_singleRoots_34 rfl rfl rfl ?_
      refine ev_bipush (pc' := 37) (v := 10) dX0_singleRoots_35 rfl kb_10 ?_
      refine ev_irem (pc' := 38) (v := 5) dX0_singleRoots_37 rfl (by decide) (by decide) ?_
      refine ev_istore (pc' := 40) (lv' := [some (.ref 12), some (.int 1), some (.int 0), some (.int 55), some (.int 0), some (.int 5)]) dX0_singleRoots_38 rfl (Nat.le_of_ble_eq_true rfl) rfl rfl ?_
      refine ev_iload_n (pc' := 41) (i := 3) dX0_singleRoots_40 rfl rfl rfl ?_
      refine ev_bipush (pc' := 43) (v := 10) dX0_singleRoots_41 rfl kb_10 ?_
      refine ev_idiv (pc' := 44) (v := 5) dX0_singleRoots_43 rfl (by decide) (by decide) ?_
      refine ev_istore_n (pc' := 45) (i := 3) (lv' := [some (.ref 12), some (.int 1), some (.int 0), some (.int 5), some (.int 0), some (.int 5)]) dX0_singleRoots_44 rfl rfl (Nat.le_of_ble_eq_true rfl) rfl rfl ?_
      refine ev_iload (pc' := 47) dX0_singleRoots_45 rfl rfl ?_
      refine ev_iconst (pc' := 48) (v := 5) dX0_singleRoots_47 rfl ki_5 ?_
      refine ev_icmp_lt (tgt := 54) (pc' := 51) dX0_singleRoots_48 rfl rfl (fun h => absurd h (by decide)) (fun _ => ?_)
      refine ev_goto (tgt := 74) dX0_singleRoots_51 rfl ?_
      refine ev_iinc (pc' := 77) (v := 1) (lv' := [some (.ref 12), some (.int 1), some (.int 0), some (.int 5), some (.int 1), some (.int 5)]) dX0_singleRoots_74 rfl rfl (by decide) (Nat.le_of_ble_eq_true rfl) rfl rfl ?_
      refine ev_goto (tgt := 24) dX0_singleRoots_77 rfl ?_
      refine ev_iload (pc' := 26) dX0_singleRoots_24 rfl rfl ?_
      refine ev_iconst (pc' := 27) (v := 4) dX0_singleRoots_26 rfl ki_4 ?_
      refine ev_icmp_ge (tgt := 80) (pc' := 30) dX0_singleRoots_27 rfl rfl (fun h => absurd h (by decide)) (fun _ => ?_)
      refine ev_iload_n (pc' := 31) (i := 3) dX0_singleRoots_30 rfl rfl rfl ?_
      refine ev_if_eq (tgt := 80) (pc' := 34) dX0_singleRoots_31 rfl rfl (fun h => absurd h (by decide)) (fun _ => ?_)
      refine ev_iload_n (pc' := 35) (i := 3) dX0_singleRoots_34 rfl rfl rfl ?_
      refine ev_bipush (pc' := 37) (v := 10) dX0_singleRoots_35 rfl kb_10 ?_
      refine ev_irem (pc' := 38) (v := 5) dX0_singleRoots_37 rfl (by decide) (by decide) ?_
      refine ev_istore (pc' := 40) (lv' := [some (.ref 12), some (.int 1), some (.int 0), some (.int 5), some (.int 1), some (.int 5)]) dX0_singleRoots_38 rfl (Nat.le_of_ble_eq_true rfl) rfl rfl ?_
      refine ev_iload_n (pc' := 41) (i := 3) dX0_singleRoots_40 rfl rfl rfl ?_
      refine ev_bipush (pc' := 43) (v := 10) dX0_singleRoots_41 rfl kb_10 ?_
      refine ev_idiv (pc' := 44) (v := 0) dX0_singleRoots_43 rfl (by decide) (by decide) ?_
      refine ev_istore_n (pc' := 45) (i := 3) (lv' := [some (.ref 12), some (.int 1), some (.int 0), some (.int 0), some (.int 1), some (.int 5)]) dX0_singleRoots_44 rfl rfl (Nat.le_of_ble_eq_true rfl) rfl rfl ?_
      refine ev_iload (pc' := 47) dX0_singleRoots_45 rfl rfl ?_
      refine ev_iconst (pc' := 48) (v := 5) dX0_singleRoots_47 rfl ki_5 ?_
      refine ev_icmp_lt (tgt := 54) (pc' := 51) dX0_singleRoots_48 rfl rfl (fun h => absurd h (by decide)) (fun _ => ?_)
      refine ev_goto (tgt := 74) dX0_singleRoots_51 rfl ?_
      refine ev_iinc (pc' := 77) (v := 2) (lv' := [some (.ref 12), some (.int 1), some (.int 0), some (.int 0), some (.int 2), some (.int 5)]) dX0_singleRoots_74 rfl rfl (by decide) (Nat.le_of_ble_eq_true rfl) rfl rfl ?_
      refine ev_goto (tgt := 24) dX0_singleRoots_77 rfl ?_
      refine ev_iload (pc' := 26) dX0_singleRoots_24 rfl rfl ?_
      refine ev_iconst (pc' := 27) (v := 4) dX0_singleRoots_26 rfl ki_4 ?_
      refine ev_icmp_ge (tgt := 80) (pc' := 30) dX0_singleRoots_27 rfl rfl (fun h => absurd h (by decide)) (fun _ => ?_)
      refine ev_iload_n (pc' := 31) (i := 3) dX0_singleRoots_30 rfl rfl rfl ?_
      refine ev_if_eq (tgt := 80) (pc' := 34) dX0_singleRoots_31 rfl rfl (fun _ => ?_) (fun h => absurd (by decide) h)
      refine ev_iload_n (pc' := 81) (i := 2) dX0_singleRoots_80 rfl rfl rfl ?_
      refine ev_iret dX0_singleRoots_81 rfl rfl ⟨Nat.le_refl _, Nat.le_refl _⟩ ?_
      have e : (if (L 13) 0 = 0 then cS1 (cFig (L 13) ((L 12) 5) ((L 12) 6)) else cS0 (cFig (L 13) ((L 12) 5) ((L 12) 6))) = 0 := by rw [if_pos h15, g40]; decide
      rw [e] at k0
      exact k0 _ _ _ _
    · rw [g40] at hr
      subst hr
      refine ev_istore_n (pc' := 21) (i := 3) (lv' := [some (.ref 12), some (.int 1), some (.int 0), some (.int 112), none, none]) dX0_singleRoots_20 rfl rfl (Nat.le_of_ble_eq_true rfl) rfl rfl ?_
      refine ev_iconst (pc' := 22) (v := 0) dX0_singleRoots_21 rfl ki_0 ?_
      refine ev_istore (pc' := 24) (lv' := [some (.ref 12), some (.int 1), some (.int 0), some (.int 112), some (.int 0), none]) dX0_singleRoots_22 rfl (Nat.le_of_ble_eq_true rfl) rfl rfl ?_
      refine ev_iload (pc' := 26) dX0_singleRoots_24 rfl rfl ?_
      refine ev_iconst (pc' := 27) (v := 4) dX0_singleRoots_26 rfl ki_4 ?_
      refine ev_icmp_ge (tgt := 80) (pc' := 30) dX0_singleRoots_27 rfl rfl (fun h => absurd h (by decide)) (fun _ => ?_)
      refine ev_iload_n (pc' := 31) (i := 3) dX0_singleRoots_30 rfl rfl rfl ?_
      refine ev_if_eq (tgt := 80) (pc' := 34) dX0_singleRoots_31 rfl rfl (fun h => absurd h (by decide)) (fun _ => ?_)
      refine ev_iload_n (pc' := 35) (i := 3) dX0_singleRoots_34 rfl rfl rfl ?_
      refine ev_bipush (pc' := 37) (v := 10) dX0_singleRoots_35 rfl kb_10 ?_
      refine ev_irem (pc' := 38) (v := 2) dX0_singleRoots_37 rfl (by decide) (by decide) ?_
      refine ev_istore (pc' := 40) (lv' := [some (.ref 12), some (.int 1), some (.int 0), some (.int 112), some (.int 0), some (.int 2)]) dX0_singleRoots_38 rfl (Nat.le_of_ble_eq_true rfl) rfl rfl ?_
      refine ev_iload_n (pc' := 41) (i := 3) dX0_singleRoots_40 rfl rfl rfl ?_
      refine ev_bipush (pc' := 43) (v := 10) dX0_singleRoots_41 rfl kb_10 ?_
      refine ev_idiv (pc' := 44) (v := 11) dX0_singleRoots_43 rfl (by decide) (by decide) ?_
      refine ev_istore_n (pc' := 45) (i := 3) (lv' := [some (.ref 12), some (.int 1), some (.int 0), some (.int 11), some (.int 0), some (.int 2)]) dX0_singleRoots_44 rfl rfl (Nat.le_of_ble_eq_true rfl) rfl rfl ?_
      refine ev_iload (pc' := 47) dX0_singleRoots_45 rfl rfl ?_
      refine ev_iconst (pc' := 48) (v := 5) dX0_singleRoots_47 rfl ki_5 ?_
      refine ev_icmp_lt (tgt := 54) (pc' := 51) dX0_singleRoots_48 rfl rfl (fun _ => ?_) (fun h => absurd (by decide) h)
      refine ev_iload_n (pc' := 55) (i := 1) dX0_singleRoots_54 rfl rfl rfl ?_
      refine ev_if_eq (tgt := 63) (pc' := 58) dX0_singleRoots_55 rfl rfl (fun h => absurd h (by decide)) (fun _ => ?_)
      refine ev_iconst (pc' := 59) (v := 0) dX0_singleRoots_58 rfl ki_0 ?_
      refine ev_istore_n (pc' := 60) (i := 1) (lv' := [some (.ref 12), some (.int 0), some (.int 0), some (.int 11), some (.int 0), some (.int 2)]) dX0_singleRoots_59 rfl rfl (Nat.le_of_ble_eq_true rfl) rfl rfl ?_
      refine ev_goto (tgt := 74) dX0_singleRoots_60 rfl ?_
      refine ev_iinc (pc' := 77) (v := 1) (lv' := [some (.ref 12), some (.int 0), some (.int 0), some (.int 11), some (.int 1), some (.int 2)]) dX0_singleRoots_74 rfl rfl (by decide) (Nat.le_of_ble_eq_true rfl) rfl rfl ?_
      refine ev_goto (tgt := 24) dX0_singleRoots_77 rfl ?_
      refine ev_iload (pc' := 26) dX0_singleRoots_24 rfl rfl ?_
      refine ev_iconst (pc' := 27) (v := 4) dX0_singleRoots_26 rfl ki_4 ?_
      refine ev_icmp_ge (tgt := 80) (pc' := 30) dX0_singleRoots_27 rfl rfl (fun h => absurd h (by decide)) (fun _ => ?_)
      refine ev_iload_n (pc' := 31) (i := 3) dX0_singleRoots_30 rfl rfl rfl ?_
      refine ev_if_eq (tgt := 80) (pc' := 34) dX0_singleRoots_31 rfl rfl (fun h => absurd h (by decide)) (fun _ => ?_)
      refine ev_iload_n (pc' := 35) (i := 3) dX0_singleRoots_34 rfl rfl rfl ?_
      refine ev_bipush (pc' := 37) (v := 10) dX0_singleRoots_35 rfl kb_10 ?_
      refine ev_irem (pc' := 38) (v := 1) dX0_singleRoots_37 rfl (by decide) (by decide) ?_
      refine ev_istore (pc' := 40) (lv' := [some (.ref 12), some (.int 0), some (.int 0), some (.int 11), some (.int 1), some (.int 1)]) dX0_singleRoots_38 rfl (Nat.le_of_ble_eq_true rfl) rfl rfl ?_
      refine ev_iload_n (pc' := 41) (i := 3) dX0_singleRoots_40 rfl rfl rfl ?_
      refine ev_bipush (pc' := 43) (v := 10) dX0_singleRoots_41 rfl kb_10 ?_
      refine ev_idiv (pc' := 44) (v := 1) dX0_singleRoots_43 rfl (by decide) (by decide) ?_
      refine ev_istore_n (pc' := 45) (i := 3) (lv' := [some (.ref 12), some (.int 0), some (.int 0), some (.int 1), some (.int 1), some (.int 1)]) dX0_singleRoots_44 rfl rfl (Nat.le_of_ble_eq_true rfl) rfl rfl ?_
      refine ev_iload (pc' := 47) dX0_singleRoots_45 rfl rfl ?_
      refine ev_iconst (pc' := 48) (v := 5) dX0_singleRoots_47 rfl ki_5 ?_
      refine ev_icmp_lt (tgt := 54) (pc' := 51) dX0_singleRoots_48 rfl rfl (fun _ => ?_) (fun h => absurd (by decide) h)
      refine ev_iload_n (pc' := 55) (i := 1) dX0_singleRoots_54 rfl rfl rfl ?_
      refine ev_if_eq (tgt := 63) (pc' := 58) dX0_singleRoots_55 rfl rfl (fun _ => ?_) (fun h => absurd (by decide) h)
      refine ev_iload (pc' := 65) dX0_singleRoots_63 rfl rfl ?_
      refine ev_iconst (pc' := 66) (v := 1) dX0_singleRoots_65 rfl ki_1 ?_
      refine ev_icmp_le (tgt := 71) (pc' := 69) dX0_singleRoots_66 rfl rfl (fun _ => ?_) (fun h => absurd (by decide) h)
      refine ev_iinc (pc' := 74) (v := 1) (lv' := [some (.ref 12), some (.int 0), some (.int 1), some (.int 1), some (.int 1), some (.int 1)]) dX0_singleRoots_71 rfl rfl (by decide) (Nat.le_of_ble_eq_true rfl) rfl rfl ?_
      refine ev_iinc (pc' := 77) (v := 2) (lv' := [some (.ref 12), some (.int 0), some (.int 1), some (.int 1), some (.int 2), some (.int 1)]) dX0_singleRoots_74 rfl rfl (by decide) (Nat.le_of_ble_eq_true rfl) rfl rfl ?_
      refine ev_goto (tgt := 24) dX0_singleRoots_77 rfl ?_
      refine ev_iload (pc' := 26) dX0_singleRoots_24 rfl rfl ?_
      refine ev_iconst (pc' := 27) (v := 4) dX0_singleRoots_26 rfl ki_4 ?_
      refine ev_icmp_ge (tgt := 80) (pc' := 30) dX0_singleRoots_27 rfl rfl (fun h => absurd h (by decide)) (fun _ => ?_)
      refine ev_iload_n (pc' := 31) (i := 3) dX0_singleRoots_30 rfl rfl rfl ?_
      refine ev_if_eq (tgt := 80) (pc' := 34) dX0_singleRoots_31 rfl rfl (fun h => absurd h (by decide)) (fun _ => ?_)
      refine ev_iload_n (pc' := 35) (i := 3) dX0_singleRoots_34 rfl rfl rfl ?_
      refine ev_bipush (pc' := 37) (v := 10) dX0_singleRoots_35 rfl kb_10 ?_
      refine ev_irem (pc' := 38) (v := 1) dX0_singleRoots_37 rfl (by decide) (by decide) ?_
      refine ev_istore (pc' := 40) (lv' := [some (.ref 12), some (.int 0), some (.int 1), some (.int 1), some (.int 2), some (.int 1)]) dX0_singleRoots_38 rfl (Nat.le_of_ble_eq_true rfl) rfl rfl ?_
      refine ev_iload_n (pc' := 41) (i := 3) dX0_singleRoots_40 rfl rfl rfl ?_
      refine ev_bipush (pc' := 43) (v := 10) dX0_singleRoots_41 rfl kb_10 ?_
      refine ev_idiv (pc' := 44) (v := 0) dX0_singleRoots_43 rfl (by decide) (by decide) ?_
      refine ev_istore_n (pc' := 45) (i := 3) (lv' := [some (.ref 12), some (.int 0), some (.int 1), some (.int 0), some (.int 2), some (.int 1)]) dX0_singleRoots_44 rfl rfl (Nat.le_of_ble_eq_true rfl) rfl rfl ?_
      refine ev_iload (pc' := 47) dX0_singleRoots_45 rfl rfl ?_
      refine ev_iconst (pc' := 48) (v := 5) dX0_singleRoots_47 rfl ki_5 ?_
      refine ev_icmp_lt (tgt := 54) (pc' := 51) dX0_singleRoots_48 rfl rfl (fun _ => ?_) (fun h => absurd (by decide) h)
      refine ev_iload_n (pc' := 55) (i := 1) dX0_singleRoots_54 rfl rfl rfl ?_
      refine ev_if_eq (tgt := 63) (pc' := 58) dX0_singleRoots_55 rfl rfl (fun _ => ?_) (fun h => absurd (by decide) h)
      refine ev_iload (pc' := 65) dX0_singleRoots_63 rfl rfl ?_
      refine ev_iconst (pc' := 66) (v := 1) dX0_singleRoots_65 rfl ki_1 ?_
      refine ev_icmp_le (tgt := 71) (pc' := 69) dX0_singleRoots_66 rfl rfl (fun _ => ?_) (fun h => absurd (by decide) h)
      refine ev_iinc (pc' := 74) (v := 2) (lv' := [some (.ref 12), some (.int 0), some (.int 2), some (.int 0), some (.int 2), some (.int 1)]) dX0_singleRoots_71 rfl rfl (by decide) (Nat.le_of_ble_eq_true rfl) rfl rfl ?_
      refine ev_iinc (pc' := 77) (v := 3) (lv' := [some (.ref 12), some (.int 0), some (.int 2), some (.int 0), some (.int 3), some (.int 1)]) dX0_singleRoots_74 rfl rfl (by decide) (Nat.le_of_ble_eq_true rfl) rfl rfl ?_
      refine ev_goto (tgt := 24) dX0_singleRoots_77 rfl ?_
      refine ev_iload (pc' := 26) dX0_singleRoots_24 rfl rfl ?_
      refine ev_iconst (pc' := 27) (v := 4) dX0_singleRoots_26 rfl ki_4 ?_
      refine ev_icmp_ge (tgt := 80) (pc' := 30) dX0_singleRoots_27 rfl rfl (fun h => absurd h (by decide)) (fun _ => ?_)
      refine ev_iload_n (pc' := 31) (i := 3) dX0_singleRoots_30 rfl rfl rfl ?_
      refine ev_if_eq (tgt := 80) (pc' := 34) dX0_singleRoots_31 rfl rfl (fun _ => ?_) (fun h => absurd (by decide) h)
      refine ev_iload_n (pc' := 81) (i := 2) dX0_singleRoots_80 rfl rfl rfl ?_
      refine ev_iret dX0_singleRoots_81 rfl rfl ⟨Nat.le_refl _, Nat.le_refl _⟩ ?_
      have e : (if (L 13) 0 = 0 then cS1 (cFig (L 13) ((L 12) 5) ((L 12) 6)) else cS0 (cFig (L 13) ((L 12) 5) ((L 12) 6))) = 2 := by rw [if_pos h15, g40]; decide
      rw [e] at k0
      exact k0 _ _ _ _
    · rw [g40] at hr
      subst hr
      refine ev_istore_n (pc' := 21) (i := 3) (lv' := [some (.ref 12), some (.int 1), some (.int 0), some (.int 115), none, none]) dX0_singleRoots_20 rfl rfl (Nat.le_of_ble_eq_true rfl) rfl rfl ?_
      refine ev_iconst (pc' := 22) (v := 0) dX0_singleRoots_21 rfl ki_0 ?_
      refine ev_istore (pc' := 24) (lv' := [some (.ref 12), some (.int 1), some (.int 0), some (.int 115), some (.int 0), none]) dX0_singleRoots_22 rfl (Nat.le_of_ble_eq_true rfl) rfl rfl ?_
      refine ev_iload (pc' := 26) dX0_singleRoots_24 rfl rfl ?_
      refine ev_iconst (pc' := 27) (v := 4) dX0_singleRoots_26 rfl ki_4 ?_
      refine ev_icmp_ge (tgt := 80) (pc' := 30) dX0_singleRoots_27 rfl rfl (fun h => absurd h (by decide)) (fun _ => ?_)
      refine ev_iload_n (pc' := 31) (i := 3) dX0_singleRoots_30 rfl rfl rfl ?_
      refine ev_if_eq (tgt := 80) (pc' := 34) dX0_singleRoots_31 rfl rfl (fun h => absurd h (by decide)) (fun _ => ?_)
      refine ev_iload_n (pc' := 35) (i := 3) dX0_singleRoots_34 rfl rfl rfl ?_
      refine ev_bipush (pc' := 37) (v := 10) dX0_singleRoots_35 rfl kb_10 ?_
      refine ev_irem (pc' := 38) (v := 5) dX0_singleRoots_37 rfl (by decide) (by decide) ?_
      refine ev_istore (pc' := 40) (lv' := [some (.ref 12), some (.int 1), some (.int 0), some (.int 115), some (.int 0), some (.int 5)]) dX0_singleRoots_38 rfl (Nat.le_of_ble_eq_true rfl) rfl rfl ?_
      refine ev_iload_n (pc' := 41) (i := 3) dX0_singleRoots_40 rfl rfl rfl ?_
      refine ev_bipush (pc' := 43) (v := 10) dX0_singleRoots_41 rfl kb_10 ?_
      refine ev_idiv (pc' := 44) (v := 11) dX0_singleRoots_43 rfl (by decide) (by decide) ?_
      refine ev_istore_n (pc' := 45) (i := 3) (lv' := [some (.ref 12), some (.int 1), some (.int 0), some (.int 11), some (.int 0), some (.int 5)]) dX0_singleRoots_44 rfl rfl (Nat.le_of_ble_eq_true rfl) rfl rfl ?_
      refine ev_iload (pc' := 47) dX0_singleRoots_45 rfl rfl ?_
      refine ev_iconst (pc' := 48) (v := 5) dX0_singleRoots_47 rfl ki_5 ?_
      refine ev_icmp_lt (tgt := 54) (pc' := 51) dX0_singleRoots_48 rfl rfl (fun h => absurd h (by decide)) (fun _ => ?_)
      refine ev_goto (tgt := 74) dX0_singleRoots_51 rfl ?_
      refine ev_iinc (pc' := 77) (v := 1) (lv' := [some (.ref 12), some (.int 1), some (.int 0), some (.int 11), some (.int 1), some (.int 5)]) dX0_singleRoots_74 rfl rfl (by decide) (Nat.le_of_ble_eq_true rfl) rfl rfl ?_
      refine ev_goto (tgt := 24) dX0_singleRoots_77 rfl ?_
      refine ev_iload (pc' := 26) dX0_singleRoots_24 rfl rfl ?_
      refine ev_iconst (pc' := 27) (v := 4) dX0_singleRoots_26 rfl ki_4 ?_
      refine ev_icmp_ge (tgt := 80) (pc' := 30) dX0_singleRoots_27 rfl rfl (fun h => absurd h (by decide)) (fun _ => ?_)
      refine ev_iload_n (pc' := 31) (i := 3) dX0_singleRoots_30 rfl rfl rfl ?_
      refine ev_if_eq (tgt := 80) (pc' := 34) dX0_singleRoots_31 rfl rfl (fun h => absurd h (by decide)) (fun _ => ?_)
      refine ev_iload_n (pc' := 35) (i := 3) dX0_singleRoots_34 rfl rfl rfl ?_
      refine ev_bipush (pc' := 37) (v := 10) dX0_singleRoots_35 rfl kb_10 ?_
      refine ev_irem (pc' := 38) (v := 1) dX0_singleRoots_37 rfl (by decide) (by decide) ?_
      refine ev_istore (pc' := 40) (lv' := [some (.ref 12), some (.int 1), some (.int 0), some (.int 11), some (.int 1), some (.int 1)]) dX0_singleRoots_38 rfl (Nat.le_of_ble_eq_true rfl) rfl rfl ?_
      refine ev_iload_n (pc' := 41) (i := 3) dX0_singleRoots_40 rfl rfl rfl ?_
      refine ev_bipush (pc' := 43) (v := 10) dX0_singleRoots_41 rfl kb_10 ?_
      refine ev_idiv (pc' := 44) (v := 1) dX0_singleRoots_43 rfl (by decide) (by decide) ?_
      refine ev_istore_n (pc' := 45) (i := 3) (lv' := [some (.ref 12), some (.int 1), some (.int 0), some (.int 1), some (.int 1), some (.int 1)]) dX0_singleRoots_44 rfl rfl (Nat.le_of_ble_eq_true rfl) rfl rfl ?_
      refine ev_iload (pc' := 47) dX0_singleRoots_45 rfl rfl ?_
      refine ev_iconst (pc' := 48) (v := 5) dX0_singleRoots_47 rfl ki_5 ?_
      refine ev_icmp_lt (tgt := 54) (pc' := 51) dX0_singleRoots_48 rfl rfl (fun _ => ?_) (fun h => absurd (by decide) h)
      refine ev_iload_n (pc' := 55) (i := 1) dX0_singleRoots_54 rfl rfl rfl ?_
      refine ev_if_eq (tgt := 63) (pc' := 58) dX0_singleRoots_55 rfl rfl (fun h => absurd h (by decide)) (fun _ => ?_)
      refine ev_iconst (pc' := 59) (v := 0) dX0_singleRoots_58 rfl ki_0 ?_
      refine ev_istore_n (pc' := 60) (i := 1) (lv' := [some (.ref 12), some (.int 0), some (.int 0), some (.int 1), some (.int 1), some (.int 1)]) dX0_singleRoots_59 rfl rfl (Nat.le_of_ble_eq_true rfl) rfl rfl ?_
      refine ev_goto (tgt := 74) dX0_singleRoots_60 rfl ?_
      refine ev_iinc (pc' := 77) (v := 2) (lv' := [some (.ref 12), some (.int 0), some (.int 0), some (.int 1), some (.int 2), some (.int 1)]) dX0_singleRoots_74 rfl rfl (by decide) (Nat.le_of_ble_eq_true rfl) rfl rfl ?_
      refine ev_goto (tgt := 24) dX0_singleRoots_77 rfl ?_
      refine ev_iload (pc' := 26) dX0_singleRoots_24 rfl rfl ?_
      refine ev_iconst (pc' := 27) (v := 4) dX0_singleRoots_26 rfl ki_4 ?_
      refine ev_icmp_ge (tgt := 80) (pc' := 30) dX0_singleRoots_27 rfl rfl (fun h => absurd h (by decide)) (fun _ => ?_)
      refine ev_iload_n (pc' := 31) (i := 3) dX0_singleRoots_30 rfl rfl rfl ?_
      refine ev_if_eq (tgt := 80) (pc' := 34) dX0_singleRoots_31 rfl rfl (fun h => absurd h (by decide)) (fun _ => ?_)
      refine ev_iload_n (pc' := 35) (i := 3) dX0_singleRoots_34 rfl rfl rfl ?_
      refine ev_bipush (pc' := 37) (v := 10) dX0_singleRoots_35 rfl kb_10 ?_
      refine ev_irem (pc' := 38) (v := 1) dX0_singleRoots_37 rfl (by decide) (by decide) ?_
      refine ev_istore (pc' := 40) (lv' := [some (.ref 12), some (.int 0), some (.int 0), some (.int 1), some (.int 2), some (.int 1)]) dX0_singleRoots_38 rfl (Nat.le_of_ble_eq_true rfl) rfl rfl ?_
      refine ev_iload_n (pc' := 41) (i := 3) dX0_singleRoots_40 rfl rfl rfl ?_
      refine ev_bipush (pc' := 43) (v := 10) dX0_singleRoots_41 rfl kb_10 ?_
      refine ev_idiv (pc' := 44) (v := 0) dX0_singleRoots_43 rfl (by decide) (by decide) ?_
      refine ev_istore_n (pc' := 45) (i := 3) (lv' := [some (.ref 12), some (.int 0), some (.int 0), some (.int 0), some (.int 2), some (.int 1)]) dX0_singleRoots_44 rfl rfl (Nat.le_of_ble_eq_true rfl) rfl rfl ?_
      refine ev_iload (pc' := 47) dX0_singleRoots_45 rfl rfl ?_
      refine ev_iconst (pc' := 48) (v := 5) dX0_singleRoots_47 rfl ki_5 ?_
      refine ev_icmp_lt (tgt := 54) (pc' := 51) dX0_singleRoots_48 rfl rfl (fun _ => ?_) (fun h => absurd (by decide) h)
      refine ev_iload_n (pc' := 55) (i := 1) dX0_singleRoots_54 rfl rfl rfl ?_
      refine ev_if_eq (tgt := 63) (pc' := 58) dX0_singleRoots_55 rfl rfl (fun _ => ?_) (fun h => absurd (by decide) h)
      refine ev_iload (pc' := 65) dX0_singleRoots_63 rfl rfl ?_
      refine ev_iconst (pc' := 66) (v := 1) dX0_singleRoots_65 rfl ki_1 ?_
      refine ev_icmp_le (tgt := 71) (pc' := 69) dX0_singleRoots_66 rfl rfl (fun _ => ?_) (fun h => absurd (by decide) h)
      refine ev_iinc (pc' := 74) (v := 1) (lv' := [some (.ref 12), some (.int 0), some (.int 1), some (.int 0), some (.int 2), some (.int 1)]) dX0_singleRoots_71 rfl rfl (by decide) (Nat.le_of_ble_eq_true rfl) rfl rfl ?_
      refine ev_iinc (pc' := 77) (v := 3) (lv' := [some (.ref 12), some (.int 0), some (.int 1), some (.int 0), some (.int 3), some (.int 1)]) dX0_singleRoots_74 rfl rfl (by decide) (Nat.le_of_ble_eq_true rfl) rfl rfl ?_
      refine ev_goto (tgt := 24) dX0_singleRoots_77 rfl ?_
      refine ev_iload (pc' := 26) dX0_singleRoots_24 rfl rfl ?_
      refine ev_iconst (pc' := 27) (v := 4) dX0_singleRoots_26 rfl ki_4 ?_
      refine ev_icmp_ge (tgt := 80) (pc' := 30) dX0_singleRoots_27 rfl rfl (fun h => absurd h (by decide)) (fun _ => ?_)
      refine ev_iload_n (pc' := 31) (i := 3) dX0_singleRoots_30 rfl rfl rfl ?_
      refine ev_if_eq (tgt := 80) (pc' := 34) dX0_singleRoots_31 rfl rfl (fun _ => ?_) (fun h => absurd (by decide) h)
      refine ev_iload_n (pc' := 81) (i := 2) dX0_singleRoots_80 rfl rfl rfl ?_
      refine ev_iret dX0_singleRoots_81 rfl rfl ⟨Nat.le_refl _, Nat.le_refl _⟩ ?_
      have e : (if (L 13) 0 = 0 then cS1 (cFig (L 13) ((L 12) 5) ((L 12) 6)) else cS0 (cFig (L 13) ((L 12) 5) ((L 12) 6))) = 1 := by rw [if_pos h15, g40]; decide
      rw [e] at k0
      exact k0 _ _ _ _
    · rw [g40] at hr
      subst hr
      refine ev_istore_n (pc' := 21) (i := 3) (lv' := [some (.ref 12), some (.int 1), some (.int 0), some (.int 121), none, none]) dX0_singleRoots_20 rfl rfl (Nat.le_of_ble_eq_true rfl) rfl rfl ?_
      refine ev_iconst (pc' := 22) (v := 0) dX0_singleRoots_21 rfl ki_0 ?_
      refine ev_istore (pc' := 24) (lv' := [some (.ref 12), some (.int 1), some (.int 0), some (.int 121), some (.int 0), none]) dX0_singleRoots_22 rfl (Nat.le_of_ble_eq_true rfl) rfl rfl ?_
      refine ev_iload (pc' := 26) dX0_singleRoots_24 rfl rfl ?_
      refine ev_iconst (pc' := 27) (v := 4) dX0_singleRoots_26 rfl ki_4 ?_
      refine ev_icmp_ge (tgt := 80) (pc' := 30) dX0_singleRoots_27 rfl rfl (fun h => absurd h (by decide)) (fun _ => ?_)
      refine ev_iload_n (pc' := 31) (i := 3) dX0_singleRoots_30 rfl rfl rfl ?_
      refine ev_if_eq (tgt := 80) (pc' := 34) dX0_singleRoots_31 rfl rfl (fun h => absurd h (by decide)) (fun _ => ?_)
      refine ev_iload_n (pc' := 35) (i := 3) dX0_singleRoots_34 rfl rfl rfl ?_
      refine ev_bipush (pc' := 37) (v := 10) dX0_singleRoots_35 rfl kb_10 ?_
      refine ev_irem (pc' := 38) (v := 1) dX0_singleRoots_37 rfl (by decide) (by decide) ?_
      refine ev_istore (pc' := 40) (lv' := [some (.ref 12), some (.int 1), some (.int 0), some (.int 121), some (.int 0), some (.int 1)]) dX0_singleRoots_38 rfl (Nat.le_of_ble_eq_true rfl) rfl rfl ?_
      refine ev_iload_n (pc' := 41) (i := 3) dX0_singleRoots_40 rfl rfl rfl ?_
      refine ev_bipush (pc' := 43) (v := 10) dX0_singleRoots_41 rfl kb_10 ?_
      refine ev_idiv (pc' := 44) (v := 12) dX0_singleRoots_43 rfl (by decide) (by decide) ?_
      refine ev_istore_n (pc' := 45) (i := 3) (lv' := [some (.ref 12), some (.int 1), some (.int 0), some (.int 12), some (.int 0), some (.int 1)]) dX0_singleRoots_44 rfl rfl (Nat.le_of_ble_eq_true rfl) rfl rfl ?_
      refine ev_iload (pc' := 47) dX0_singleRoots_45 rfl rfl ?_
      refine ev_iconst (pc' := 48) (v := 5) dX0_singleRoots_47 rfl ki_5 ?_
      refine ev_icmp_lt (tgt := 54) (pc' := 51) dX0_singleRoots_48 rfl rfl (fun _ => ?_) (fun h => absurd (by decide) h)
      refine ev_iload_n (pc' := 55) (i := 1) dX0_singleRoots_54 rfl rfl rfl ?_
      refine ev_if_eq (tgt := 63) (pc' := 58) dX0_singleRoots_55 rfl rfl (fun h => absurd h (by decide)) (fun _ => ?_)
      refine ev_iconst (pc' := 59) (v := 0) dX0_singleRoots_58 rfl ki_0 ?_
      refine ev_istore_n (pc' := 60) (i := 1) (lv' := [some (.ref 12), some (.int 0), some (.int 0), some (.int 12), some (.int 0), some (.int 1)]) dX0_singleRoots_59 rfl rfl (Nat.le_of_ble_eq_true rfl) rfl rfl ?_
      refine ev_goto (tgt := 74) dX0_singleRoots_60 rfl ?_
      refine ev_iinc (pc' := 77) (v := 1) (lv' := [some (.ref 12), some (.int 0), some (.int 0), some (.int 12), some (.int 1), some (.int 1)]) dX0_singleRoots_74 rfl rfl (by decide) (Nat.le_of_ble_eq_true rfl) rfl rfl ?_
      refine ev_goto (tgt := 24) dX0_singleRoots_77 rfl ?_
      refine ev_iload (pc' := 26) dX0_singleRoots_24 rfl rfl ?_
      refine ev_iconst (pc' := 27) (v := 4) dX0_singleRoots_26 rfl ki_4 ?_
      refine ev_icmp_ge (tgt := 80) (pc' := 30) dX0_singleRoots_27 rfl rfl (fun h => absurd h (by decide)) (fun _ => ?_)
      refine ev_iload_n (pc' := 31) (i := 3) dX0_singleRoots_30 rfl rfl rfl ?_
      refine ev_if_eq (tgt := 80) (pc' := 34) dX0_singleRoots_31 rfl rfl (fun h => absurd h (by decide)) (fun _ => ?_)
      refine ev_iload_n (pc' := 35) (i := 3) dX0_singleRoots_34 rfl rfl rfl ?_
      refine ev_bipush (pc' := 37) (v := 10) dX0_singleRoots_35 rfl kb_10 ?_
      refine ev_irem (pc' := 38) (v := 2) dX0_singleRoots_37 rfl (by decide) (by decide) ?_
      refine ev_istore (pc' := 40) (lv' := [some (.ref 12), some (.int 0), some (.int 0), some (.int 12), some (.int 1), some (.int 2)]) dX0_singleRoots_38 rfl (Nat.le_of_ble_eq_true rfl) rfl rfl ?_
      refine ev_iload_n (pc' := 41) (i := 3) dX0_singleRoots_40 rfl rfl rfl ?_
      refine ev_bipush (pc' := 43) (v := 10) dX0_singleRoots_41 rfl kb_10 ?_
      refine ev_idiv (pc' := 44) (v := 1) dX0_singleRoots_43 rfl (by decide) (by decide) ?_
      refine ev_istore_n (pc' := 45) (i := 3) (lv' := [some (.ref 12), some (.int 0), some (.int 0), some (.int 1), some (.int 1), some (.int 2)]) dX0_singleRoots_44 rfl rfl (Nat.le_of_ble_eq_true rfl) rfl rfl ?_
      refine ev_iload (pc' := 47) dX0_singleRoots_45 rfl rfl ?_
      refine ev_iconst (pc' := 48) (v := 5) dX0_singleRoots_47 rfl ki_5 ?_
      refine ev_icmp_lt (tgt := 54) (pc' := 51) dX0_singleRoots_48 rfl rfl (fun _ => ?_) (fun h => absurd (by decide) h)
      refine ev_iload_n (pc' := 55) (i := 1) dX0_singleRoots_54 rfl rfl rfl ?_
      refine ev_if_eq (tgt := 63) (pc' := 58) dX0_singleRoots_55 rfl rfl (fun _ => ?_) (fun h => absurd (by decide) h)
      refine ev_iload (pc' := 65) dX0_singleRoots_63 rfl rfl ?_
      refine ev_iconst (pc' := 66) (v := 1) dX0_singleRoots_65 rfl ki_1 ?_
      refine ev_icmp_le (tgt := 71) (pc' := 69) dX0_singleRoots_66 rfl rfl (fun h => absurd h (by decide)) (fun _ => ?_)
      refine ev_iconst (pc' := 70) (v := (-1)) dX0_singleRoots_69 rfl ki_m1 ?_
      refine ev_iret dX0_singleRoots_70 rfl rfl ⟨Nat.le_refl _, Nat.le_refl _⟩ ?_
      have e : (if (L 13) 0 = 0 then cS1 (cFig (L 13) ((L 12) 5) ((L 12) 6)) else cS0 (cFig (L 13) ((L 12) 5) ((L 12) 6))) = (-1) := by rw [if_pos h15, g40]; decide
      rw [e] at k0
      exact k0 _ _ _ _
    · rw [g40] at hr
      subst hr
      refine ev_istore_n (pc' := 21) (i := 3) (lv' := [some (.ref 12), some (.int 1), some (.int 0), some (.int 211), none, none]) dX0_singleRoots_20 rfl rfl (Nat.le_of_ble_eq_true rfl) rfl rfl ?_
      refine ev_iconst (pc' := 22) (v := 0) dX0_singleRoots_21 rfl ki_0 ?_
      refine ev_istore (pc' := 24) (lv' := [some (.ref 12), some (.int 1), some (.int 0), some (.int 211), some (.int 0), none]) dX0_singleRoots_22 rfl (Nat.le_of_ble_eq_true rfl) rfl rfl ?_
      refine ev_iload (pc' := 26) dX0_singleRoots_24 rfl rfl ?_
      refine ev_iconst (pc' := 27) (v := 4) dX0_singleRoots_26 rfl ki_4 ?_
      refine ev_icmp_ge (tgt := 80) (pc' := 30) dX0_singleRoots_27 rfl rfl (fun h => absurd h (by decide)) (fun _ => ?_)
      refine ev_iload_n (pc' := 31) (i := 3) dX0_singleRoots_30 rfl rfl rfl ?_
      refine ev_if_eq (tgt := 80) (pc' := 34) dX0_singleRoots_31 rfl rfl (fun h => absurd h (by decide)) (fun _ => ?_)
      refine ev_iload_n (pc' := 35) (i := 3) dX0_singleRoots_34 rfl rfl rfl ?_
      refine ev_bipush (pc' := 37) (v := 10) dX0_singleRoots_35 rfl kb_10 ?_
      refine ev_irem (pc' := 38) (v := 1) dX0_singleRoots_37 rfl (by decide) (by decide) ?_
      refine ev_istore (pc' := 40) (lv' := [some (.ref 12), some (.int 1), some (.int 0), some (.int 211), some (.int 0), some (.int 1)]) dX0_singleRoots_38 rfl (Nat.le_of_ble_eq_true rfl) rfl rfl ?_
      refine ev_iload_n (pc' := 41) (i := 3) dX0_singleRoots_40 rfl rfl rfl ?_
      refine ev_bipush (pc' := 43) (v := 10) dX0_singleRoots_41 rfl kb_10 ?_
      refine ev_idiv (pc' := 44) (v := 21) dX0_singleRoots_43 rfl (by decide) (by decide) ?_
      refine ev_istore_n (pc' := 45) (i := 3) (lv' := [some (.ref 12), some (.int 1), some (.int 0), some (.int 21), some (.int 0), some (.int 1)]) dX0_singleRoots_44 rfl rfl (Nat.le_of_ble_eq_true rfl) rfl rfl ?_
      refine ev_iload (pc' := 47) dX0_singleRoots_45 rfl rfl ?_
      refine ev_iconst (pc' := 48) (v := 5) dX0_singleRoots_47 rfl ki_5 ?_
      refine ev_icmp_lt (tgt := 54) (pc' := 51) dX0_singleRoots_48 rfl rfl (fun _ => ?_) (fun h => absurd (by decide) h)
      refine ev_iload_n (pc' := 55) (i := 1) dX0_singleRoots_54 rfl rfl rfl ?_
      refine ev_if_eq (tgt := 63) (pc' := 58) dX0_singleRoots_55 rfl rfl (fun h => absurd h (by decide)) (fun _ => ?_)
      refine ev_iconst (pc' := 59) (v := 0) dX0_singleRoots_58 rfl ki_0 ?_
      refine ev_istore_n (pc' := 60) (i := 1) (lv' := [some (.ref 12), some (.int 0), some (.int 0), some (.int 21), some (.int 0), some (.int 1)]) dX0_singleRoots_59 rfl rfl (Nat.le_of_ble_eq_true rfl) rfl rfl ?_
      refine ev_goto (tgt := 74) dX0_singleRoots_60 rfl ?_
      refine ev_iinc (pc' := 77) (v := 1) (lv' := [some (.ref 12), some (.int 0), some (.int 0), some (.int 21), some (.int 1), some (.int 1)]) dX0_singleRoots_74 rfl rfl (by decide) (Nat.le_of_ble_eq_true rfl) rfl rfl ?_
      refine ev_goto (tgt := 24) dX0_singleRoots_77 rfl ?_
      refine ev_iload (pc' := 26) dX0_singleRoots_24 rfl rfl ?_
      refine ev_iconst (pc' := 27) (v := 4) dX0_singleRoots_26 rfl ki_4 ?_
      refine ev_icmp_ge (tgt := 80) (pc' := 30) dX0_singleRoots_27 rfl rfl (fun h => absurd h (by decide)) (fun _ => ?_)
      refine ev_iload_n (pc' := 31) (i := 3) dX0_singleRoots_30 rfl rfl rfl ?_
      refine ev_if_eq (tgt := 80) (pc' := 34) dX0_singleRoots_31 rfl rfl (fun h => absurd h (by decide)) (fun _ => ?_)
      refine ev_iload_n (pc' := 35) (i := 3) dX0_singleRoots_34 rfl rfl rfl ?_
      refine ev_bipush (pc' := 37) (v := 10) dX0_singleRoots_35 rfl kb_10 ?_
      refine ev_irem (pc' := 38) (v := 1) dX0_singleRoots_37 rfl (by decide) (by decide) ?_
      refine ev_istore (pc' := 40) (lv' := [some (.ref 12), some (.int 0), some (.int 0), some (.int 21), some (.int 1), some (.int 1)]) dX0_singleRoots_38 rfl (Nat.le_of_ble_eq_true rfl) rfl rfl ?_
      refine ev_iload_n (pc' := 41) (i := 3) dX0_singleRoots_40 rfl rfl rfl ?_
      refine ev_bipush (pc' := 43) (v := 10) dX0_singleRoots_41 rfl kb_10 ?_
      refine ev_idiv (pc' := 44) (v := 2) dX0_singleRoots_43 rfl (by decide) (by decide) ?_
      refine ev_istore_n (pc' := 45) (i := 3) (lv' := [some (.ref 12), some (.int 0), some (.int 0), some (.int 2), some (.int 1), some (.int 1)]) dX0_singleRoots_44 rfl rfl (Nat.le_of_ble_eq_true rfl) rfl rfl ?_
      refine ev_iload (pc' := 47) dX0_singleRoots_45 rfl rfl ?_
      refine ev_iconst (pc' := 48) (v := 5) dX0_singleRoots_47 rfl ki_5 ?_
      refine ev_icmp_lt (tgt := 54) (pc' := 51) dX0_singleRoots_48 rfl rfl (fun _ => ?_) (fun h => absurd (by decide) h)
      refine ev_iload_n (pc' := 55) (i := 1) dX0_singleRoots_54 rfl rfl rfl ?_
      refine ev_if_eq (tgt := 63) (pc' := 58) dX0_singleRoots_55 rfl rfl (fun _ => ?_) (fun h => absurd (by decide) h)
      refine ev_iload (pc' := 65) dX0_singleRoots_63 rfl rfl ?_
      refine ev_iconst (pc' := 66) (v := 1) dX0_singleRoots_65 rfl ki_1 ?_
      refine ev_icmp_le (tgt := 71) (pc' := 69) dX0_singleRoots_66 rfl rfl (fun _ => ?_) (fun h => absurd (by decide) h)
      refine ev_iinc (pc' := 74) (v := 1) (lv' := [some (.ref 12), some (.int 0), some (.int 1), some (.int 2), some (.int 1), some (.int 1)]) dX0_singleRoots_71 rfl rfl (by decide) (Nat.le_of_ble_eq_true rfl) rfl rfl ?_
      refine ev_iinc (pc' := 77) (v := 2) (lv' := [some (.ref 12), some (.int 0), some (.int 1), some (.int 2), some (.int 2), some (.int 1)]) dX0_singleRoots_74 rfl rfl (by decide) (Nat.le_of_ble_eq_true rfl) rfl rfl ?_
      refine ev_goto (tgt := 24) dX0_singleRoots_77 rfl ?_
      refine ev_iload (pc' := 26) dX0_singleRoots_24 rfl rfl ?_
      refine ev_iconst (pc' := 27) (v := 4) dX0_singleRoots_26 rfl ki_4 ?_
      refine ev_icmp_ge (tgt := 80) (pc' := 30) dX0_singleRoots_27 rfl rfl (fun h => absurd h (by decide)) (fun _ => ?_)
      refine ev_iload_n (pc' := 31) (i := 3) dX0_singleRoots_30 rfl rfl rfl ?_
      refine ev_if_eq (tgt := 80) (pc' := 34) dX0_singleRoots_31 rfl rfl (fun h => absurd h (by decide)) (fun _ => ?_)
      refine ev_iload_n (pc' := 35) (i := 3) dX0_singleRoots_34 rfl rfl rfl ?_
      refine ev_bipush (pc' := 37) (v := 10) dX0_singleRoots_35 rfl kb_10 ?_
      refine ev_irem (pc' := 38) (v := 2) dX0_singleRoots_37 rfl (by decide) (by decide) ?_
      refine ev_istore (pc' := 40) (lv' := [some (.ref 12), some (.int 0), some (.int 1), some (.int 2), some (.int 2), some (.int 2)]) dX0_singleRoots_38 rfl (Nat.le_of_ble_eq_true rfl) rfl rfl ?_
      refine ev_iload_n (pc' := 41) (i := 3) dX0_singleRoots_40 rfl rfl rfl ?_
      refine ev_bipush (pc' := 43) (v := 10) dX0_singleRoots_41 rfl kb_10 ?_
      refine ev_idiv (pc' := 44) (v := 0) dX0_singleRoots_43 rfl (by decide) (by decide) ?_
      refine ev_istore_n (pc' := 45) (i := 3) (lv' := [some (.ref 12), some (.int 0), some (.int 1), some (.int 0), some (.int 2), some (.int 2)]) dX0_singleRoots_44 rfl rfl (Nat.le_of_ble_eq_true rfl) rfl rfl ?_
      refine ev_iload (pc' := 47) dX0_singleRoots_45 rfl rfl ?_
      refine ev_iconst (pc' := 48) (v := 5) dX0_singleRoots_47 rfl ki_5 ?_
      refine ev_icmp_lt (tgt := 54) (pc' := 51) dX0_singleRoots_48 rfl rfl (fun _ => ?_) (fun h => absurd (by decide) h)
      refine ev_iload_n (pc' := 55) (i := 1) dX0_singleRoots_54 rfl rfl rfl ?_
      refine ev_if_eq (tgt := 63) (pc' := 58) dX0_singleRoots_55 rfl rfl (fun _ => ?_) (fun h => absurd (by decide) h)
      refine ev_iload (pc' := 65) dX0_singleRoots_63 rfl rfl ?_
      refine ev_iconst (pc' := 66) (v := 1) dX0_singleRoots_65 rfl ki_1 ?_
      refine ev_icmp_le (tgt := 71) (pc' := 69) dX0_singleRoots_66 rfl rfl (fun h => absurd h (by decide)) (fun _ => ?_)
      refine ev_iconst (pc' := 70) (v := (-1)) dX0_singleRoots_69 rfl ki_m1 ?_
      refine ev_iret dX0_singleRoots_70 rfl rfl ⟨Nat.le_refl _, Nat.le_refl _⟩ ?_
      have e : (if (L 13) 0 = 0 then cS1 (cFig (L 13) ((L 12) 5) ((L 12) 6)) else cS0 (cFig (L 13) ((L 12) 5) ((L 12) 6))) = (-1) := by rw [if_pos h15, g40]; decide
      rw [e] at k0
      exact k0 _ _ _ _
    · rw [g40] at hr
      subst hr
      refine ev_istore_n (pc' := 21) (i := 3) (lv' := [some (.ref 12), some (.int 1), some (.int 0), some (.int 1111), none, none]) dX0_singleRoots_20 rfl rfl (Nat.le_of_ble_eq_true rfl) rfl rfl ?_
      refine ev_iconst (pc' := 22) (v := 0) dX0_singleRoots_21 rfl ki_0 ?_
      refine ev_istore (pc' := 24) (lv' := [some (.ref 12), some (.int 1), some (.int 0), some (.int 1111), some (.int 0), none]) dX0_singleRoots_22 rfl (Nat.le_of_ble_eq_true rfl) rfl rfl ?_
      refine ev_iload (pc' := 26) dX0_singleRoots_24 rfl rfl ?_
      refine ev_iconst (pc' := 27) (v := 4) dX0_singleRoots_26 rfl ki_4 ?_
      refine ev_icmp_ge (tgt := 80) (pc' := 30) dX0_singleRoots_27 rfl rfl (fun h => absurd h (by decide)) (fun _ => ?_)
      refine ev_iload_n (pc' := 31) (i := 3) dX0_singleRoots_30 rfl rfl rfl ?_
      refine ev_if_eq (tgt := 80) (pc' := 34) dX0_singleRoots_31 rfl rfl (fun h => absurd h (by decide)) (fun _ => ?_)
      refine ev_iload_n (pc' := 35) (i := 3) dX0_singleRoots_34 rfl rfl rfl ?_
      refine ev_bipush (pc' := 37) (v := 10) dX0_singleRoots_35 rfl kb_10 ?_
      refine ev_irem (pc' := 38) (v := 1) dX0_singleRoots_37 rfl (by decide) (by decide) ?_
      refine ev_istore (pc' := 40) (lv' := [some (.ref 12), some (.int 1), some (.int 0), some (.int 1111), some (.int 0), some (.int 1)]) dX0_singleRoots_38 rfl (Nat.le_of_ble_eq_true rfl) rfl rfl ?_
      refine ev_iload_n (pc' := 41) (i := 3) dX0_singleRoots_40 rfl rfl rfl ?_
      refine ev_bipush (pc' := 43) (v := 10) dX0_singleRoots_41 rfl kb_10 ?_
      refine ev_idiv (pc' := 44) (v := 111) dX0_singleRoots_43 rfl (by decide) (by decide) ?_
      refine ev_istore_n (pc' := 45) (i := 3) (lv' := [some (.ref 12), some (.int 1), some (.int 0), some (.int 111), some (.int 0), some (.int 1)]) dX0_singleRoots_44 rfl rfl (Nat.le_of_ble_eq_true rfl) rfl rfl ?_
      refine ev_iload (pc' := 47) dX0_singleRoots_45 rfl rfl ?_
      refine ev_iconst (pc' := 48) (v := 5) dX0_singleRoots_47 rfl ki_5 ?_
      refine ev_icmp_lt (tgt := 54) (pc' := 51) dX0_singleRoots_48 rfl rfl (fun _ => ?_) (fun h => absurd (by decide) h)
      refine ev_iload_n (pc' := 55) (i := 1) dX0_singleRoots_54 rfl rfl rfl ?_
      refine ev_if_eq (tgt := 63) (pc' := 58) dX0_singleRoots_55 rfl rfl (fun h => absurd h (by decide)) (fun _ => ?_)
      refine ev_iconst (pc' := 59) (v := 0) dX0_singleRoots_58 rfl ki_0 ?_
      refine ev_istore_n (pc' := 60) (i := 1) (lv' := [some (.ref 12), some (.int 0), some (.int 0), some (.int 111), some (.int 0), some (.int 1)]) dX0_singleRoots_59 rfl rfl (Nat.le_of_ble_eq_true rfl) rfl rfl ?_
      refine ev_goto (tgt := 74) dX0_singleRoots_60 rfl ?_
      refine ev_iinc (pc' := 77) (v := 1) (lv' := [some (.ref 12), some (.int 0), some (.int 0), some (.int 111), some (.int 1), some (.int 1)]) dX0_singleRoots_74 rfl rfl (by decide) (Nat.le_of_ble_eq_true rfl) rfl rfl ?_
      refine ev_goto (tgt := 24) dX0_singleRoots_77 rfl ?_
      refine ev_iload (pc' := 26) dX0_singleRoots_24 rfl rfl ?_
      refine ev_iconst (pc' := 27) (v := 4) dX0_singleRoots_26 rfl ki_4 ?_
      refine ev_icmp_ge (tgt := 80) (pc' := 30) dX0_singleRoots_27 rfl rfl (fun h => absurd h (by decide)) (fun _ => ?_)
      refine ev_iload_n (pc' := 31) (i := 3) dX0_singleRoots_30 rfl rfl rfl ?_
      refine ev_if_eq (tgt := 80) (pc' := 34) dX0_singleRoots_31 rfl rfl (fun h => absurd h (by decide)) (fun _ => ?_)
      refine ev_iload_n (pc' := 35) (i := 3) dX0_singleRoots_34 rfl rfl rfl ?_
      refine ev_bipush (pc' := 37) (v := 10) dX0_singleRoots_35 rfl kb_10 ?_
      refine ev_irem (pc' := 38) (v := 1) dX0_singleRoots_37 rfl (by decide) (by decide) ?_
      refine ev_istore (pc' := 40) (lv' := [some (.ref 12), some (.int 0), some (.int 0), some (.int 111), some (.int 1), some (.int 1)]) dX0_singleRoots_38 rfl (Nat.le_of_ble_eq_true rfl) rfl rfl ?_
      refine ev_iload_n (pc' := 41) (i := 3) dX0_singleRoots_40 rfl rfl rfl ?_
      refine ev_bipush (pc' := 43) (v := 10) dX0_singleRoots_41 rfl kb_10 ?_
      refine ev_idiv (pc' := 44) (v := 11) dX0_singleRoots_43 rfl (by decide) (by decide) ?_
      refine ev_istore_n (pc' := 45) (i := 3) (lv' := [some (.ref 12), some (.int 0), some (.int 0), some (.int 11), some (.int 1), some (.int 1)]) dX0_singleRoots_44 rfl rfl (Nat.le_of_ble_eq_true rfl) rfl rfl ?_
      refine ev_iload (pc' := 47) dX0_singleRoots_45 rfl rfl ?_
      refine ev_iconst (pc' := 48) (v := 5) dX0_singleRoots_47 rfl ki_5 ?_
      refine ev_icmp_lt (tgt := 54) (pc' := 51) dX0_singleRoots_48 rfl rfl (fun _ => ?_) (fun h => absurd (by decide) h)
      refine ev_iload_n (pc' := 55) (i := 1) dX0_singleRoots_54 rfl rfl rfl ?_
      refine ev_if_eq (tgt := 63) (pc' := 58) dX0_singleRoots_55 rfl rfl (fun _ => ?_) (fun h => absurd (by decide) h)
      refine ev_iload (pc' := 65) dX0_singleRoots_63 rfl rfl ?_
      refine ev_iconst (pc' := 66) (v := 1) dX0_singleRoots_65 rfl ki_1 ?_
      refine ev_icmp_le (tgt := 71) (pc' := 69) dX0_singleRoots_66 rfl rfl (fun _ => ?_) (fun h => absurd (by decide) h)
      refine ev_iinc (pc' := 74) (v := 1) (lv' := [some (.ref 12), some (.int 0), some (.int 1), some (.int 11), some (.int 1), some (.int 1)]) dX0_singleRoots_71 rfl rfl (by decide) (Nat.le_of_ble_eq_true rfl) rfl rfl ?_
      refine ev_iinc (pc' := 77) (v := 2) (lv' := [some (.ref 12), some (.int 0), some (.int 1), some (.int 11), some (.int 2), some (.int 1)]) dX0_singleRoots_74 rfl rfl (by decide) (Nat.le_of_ble_eq_true rfl) rfl rfl ?_
      refine ev_goto (tgt := 24) dX0_singleRoots_77 rfl ?_
      refine ev_iload (pc' := 26) dX0_singleRoots_24 rfl rfl ?_
      refine ev_iconst (pc' := 27) (v := 4) dX0_singleRoots_26 rfl ki_4 ?_
      refine ev_icmp_ge (tgt := 80) (pc' := 30) dX0_singleRoots_27 rfl rfl (fun h => absurd h (by decide)) (fun _ => ?_)
      refine ev_iload_n (pc' := 31) (i := 3) dX0_singleRoots_30 rfl rfl rfl ?_
      refine ev_if_eq (tgt := 80) (pc' := 34) dX0_singleRoots_31 rfl rfl (fun h => absurd h (by decide)) (fun _ => ?_)
      refine ev_iload_n (pc' := 35) (i := 3) dX0_singleRoots_34 rfl rfl rfl ?_
      refine ev_bipush (pc' := 37) (v := 10) dX0_singleRoots_35 rfl kb_10 ?_
      refine ev_irem (pc' := 38) (v := 1) dX0_singleRoots_37 rfl (by decide) (by decide) ?_
      refine ev_istore (pc' := 40) (lv' := [some (.ref 12), some (.int 0), some (.int 1), some (.int 11), some (.int 2), some (.int 1)]) dX0_singleRoots_38 rfl (Nat.le_of_ble_eq_true rfl) rfl rfl ?_
      refine ev_iload_n (pc' := 41) (i := 3) dX0_singleRoots_40 rfl rfl rfl ?_
      refine ev_bipush (pc' := 43) (v := 10) dX0_singleRoots_41 rfl kb_10 ?_
      refine ev_idiv (pc' := 44) (v := 1) dX0_singleRoots_43 rfl (by decide) (by decide) ?_
      refine ev_istore_n (pc' := 45) (i := 3) (lv' := [some (.ref 12), some (.int 0), some (.int 1), some (.int 1), some (.int 2), some (.int 1)]) dX0_singleRoots_44 rfl rfl (Nat.le_of_ble_eq_true rfl) rfl rfl ?_
      refine ev_iload (pc' := 47) dX0_singleRoots_45 rfl rfl ?_
      refine ev_iconst (pc' := 48) (v := 5) dX0_singleRoots_47 rfl ki_5 ?_
      refine ev_icmp_lt (tgt := 54) (pc' := 51) dX0_singleRoots_48 rfl rfl (fun _ => ?_) (fun h => absurd (by decide) h)
      refine ev_iload_n (pc' := 55) (i := 1) dX0_singleRoots_54 rfl rfl rfl ?_
      refine ev_if_eq (tgt := 63) (pc' := 58) dX0_singleRoots_55 rfl rfl (fun _ => ?_) (fun h => absurd (by decide) h)
      refine ev_iload (pc' := 65) dX0_singleRoots_63 rfl rfl ?_
      refine ev_iconst (pc' := 66) (v := 1) dX0_singleRoots_65 rfl ki_1 ?_
      refine ev_icmp_le (tgt := 71) (pc' := 69) dX0_singleRoots_66 rfl rfl (fun _ => ?_) (fun h => absurd (by decide) h)
      refine ev_iinc (pc' := 74) (v := 2) (lv' := [some (.ref 12), some (.int 0), some (.int 2), some (.int 1), some (.int 2), some (.int 1)]) dX0_singleRoots_71 rfl rfl (by decide) (Nat.le_of_ble_eq_true rfl) rfl rfl ?_
      refine ev_iinc (pc' := 77) (v := 3) (lv' := [some (.ref 12), some (.int 0), some (.int 2), some (.int 1), some (.int 3), some (.int 1)]) dX0_singleRoots_74 rfl rfl (by decide) (Nat.le_of_ble_eq_true rfl) rfl rfl ?_
      refine ev_goto (tgt := 24) dX0_singleRoots_77 rfl ?_
      refine ev_iload (pc' := 26) dX0_singleRoots_24 rfl rfl ?_
      refine ev_iconst (pc' := 27) (v := 4) dX0_singleRoots_26 rfl ki_4 ?_
      refine ev_icmp_ge (tgt := 80) (pc' := 30) dX0_singleRoots_27 rfl rfl (fun h => absurd h (by decide)) (fun _ => ?_)
      refine ev_iload_n (pc' := 31) (i := 3) dX0_singleRoots_30 rfl rfl rfl ?_
      refine ev_if_eq (tgt := 80) (pc' := 34) dX0_singleRoots_31 rfl rfl (fun h => absurd h (by decide)) (fun _ => ?_)
      refine ev_iload_n (pc' := 35) (i := 3) dX0_singleRoots_34 rfl rfl rfl ?_
      refine ev_bipush (pc' := 37) (v := 10) dX0_singleRoots_35 rfl kb_10 ?_
      refine ev_irem (pc' := 38) (v := 1) dX0_singleRoots_37 rfl (by decide) (by decide) ?_
      refine ev_istore (pc' := 40) (lv' := [some (.ref 12), some (.int 0), some (.int 2), some (.int 1), some (.int 3), some (.int 1)]) dX0_singleRoots_38 rfl (Nat.le_of_ble_eq_true rfl) rfl rfl ?_
      refine ev_iload_n (pc' := 41) (i := 3) dX0_singleRoots_40 rfl rfl rfl ?_
      refine ev_bipush (pc' := 43) (v := 10) dX0_singleRoots_41 rfl kb_10 ?_
      refine ev_idiv (pc' := 44) (v := 0) dX0_singleRoots_43 rfl (by decide) (by decide) ?_
      refine ev_istore_n (pc' := 45) (i := 3) (lv' := [some (.ref 12), some (.int 0), some (.int 2), some (.int 0), some (.int 3), some (.int 1)]) dX0_singleRoots_44 rfl rfl (Nat.le_of_ble_eq_true rfl) rfl rfl ?_
      refine ev_iload (pc' := 47) dX0_singleRoots_45 rfl rfl ?_
      refine ev_iconst (pc' := 48) (v := 5) dX0_singleRoots_47 rfl ki_5 ?_
      refine ev_icmp_lt (tgt := 54) (pc' := 51) dX0_singleRoots_48 rfl rfl (fun _ => ?_) (fun h => absurd (by decide) h)
      refine ev_iload_n (pc' := 55) (i := 1) dX0_singleRoots_54 rfl rfl rfl ?_
      refine ev_if_eq (tgt := 63) (pc' := 58) dX0_singleRoots_55 rfl rfl (fun _ => ?_) (fun h => absurd (by decide) h)
      refine ev_iload (pc' := 65) dX0_singleRoots_63 rfl rfl ?_
      refine ev_iconst (pc' := 66) (v := 1) dX0_singleRoots_65 rfl ki_1 ?_
      refine ev_icmp_le (tgt := 71) (pc' := 69) dX0_singleRoots_66 rfl rfl (fun _ => ?_) (fun h => absurd (by decide) h)
      refine ev_iinc (pc' := 74) (v := 3) (lv' := [some (.ref 12), some (.int 0), some (.int 3), some (.int 0), some (.int 3), some (.int 1)]) dX0_singleRoots_71 rfl rfl (by decide) (Nat.le_of_ble_eq_true rfl) rfl rfl ?_
      refine ev_iinc (pc' := 77) (v := 4) (lv' := [some (.ref 12), some (.int 0), some (.int 3), some (.int 0), some (.int 4), some (.int 1)]) dX0_singleRoots_74 rfl rfl (by decide) (Nat.le_of_ble_eq_true rfl) rfl rfl ?_
      refine ev_goto (tgt := 24) dX0_singleRoots_77 rfl ?_
      refine ev_iload (pc' := 26) dX0_singleRoots_24 rfl rfl ?_
      refine ev_iconst (pc' := 27) (v := 4) dX0_singleRoots_26 rfl ki_4 ?_
      refine ev_icmp_ge (tgt := 80) (pc' := 30) dX0_singleRoots_27 rfl rfl (fun _ => ?_) (fun h => absurd (by decide) h)
      refine ev_iload_n (pc' := 81) (i := 2) dX0_singleRoots_80 rfl rfl rfl ?_
      refine ev_iret dX0_singleRoots_81 rfl rfl ⟨Nat.le_refl _, Nat.le_refl _⟩ ?_
      have e : (if (L 13) 0 = 0 then cS1 (cFig (L 13) ((L 12) 5) ((L 12) 6)) else cS0 (cFig (L 13) ((L 12) 5) ((L 12) 6))) = 3 := by rw [if_pos h15, g40]; decide
      rw [e] at k0
      exact k0 _ _ _ _
  · skip
    refine ev_iconst (pc' := 5) (v := 4) dX0_singleRoots_4 rfl ki_4 ?_
    refine ev_icmp_ge (tgt := 12) (pc' := 8) dX0_singleRoots_5 rfl rfl (fun h => absurd h (by decide)) (fun _ => ?_)
    refine ev_iconst (pc' := 9) (v := 1) dX0_singleRoots_8 rfl ki_1 ?_
    refine ev_goto (tgt := 13) dX0_singleRoots_9 rfl ?_
    refine ev_istore_n (pc' := 14) (i := 1) (lv' := [some (.ref 12), some (.int 1), none, none, none, none]) dX0_singleRoots_13 rfl rfl (Nat.le_of_ble_eq_true rfl) rfl rfl ?_
    refine ev_iconst (pc' := 15) (v := 0) dX0_singleRoots_14 rfl ki_0 ?_
    refine ev_istore_n (pc' := 16) (i := 2) (lv' := [some (.ref 12), some (.int 1), some (.int 0), none, none, none]) dX0_singleRoots_15 rfl rfl (Nat.le_of_ble_eq_true rfl) rfl rfl ?_
    refine ev_aload_n (pc' := 17) (i := 0) dX0_singleRoots_16 rfl rfl rfl ?_
    refine ev_callV (pc' := 20) (rm' := rX0_figures) (b := 12) (av := []) (rest := []) co_X0_127 ci_X0_figures cv_X0_figures dX0_singleRoots_17 rfl hs_12 hb_X0 rfl rfl (Nat.le_of_ble_eq_true rfl) ⟨(Nat.le_of_ble_eq_true rfl), (Nat.le_of_ble_eq_true rfl)⟩ ⟨(Nat.le_of_ble_eq_true rfl), (Nat.le_of_ble_eq_true rfl)⟩ ?_
    refine t_X0_figures hI hJ hA hE (fun Y41 Z42 V43 W44 => ?_)
    refine ev_topi (fun r hr => ?_)
    have hr : r = cFig (L 13) ((L 12) 5) ((L 12) 6) := hr
    rcases cFig_v (L 13) ((L 12) 5) ((L 12) 6) with g45 | g45 | g45 | g45 | g45 | g45 | g45 | g45 | g45 | g45 | g45 | g45 | g45
    · rw [g45] at hr
      subst hr
      refine ev_istore_n (pc' := 21) (i := 3) (lv' := [some (.ref 12), some (.int 1), some (.int 0), some (.int 0), none, none]) dX0_singleRoots_20 rfl rfl (Nat.le_of_ble_eq_true rfl) rfl rfl ?_
      refine ev_iconst (pc' := 22) (v := 0) dX0_singleRoots_21 rfl ki_0 ?_
      refine ev_istore (pc' := 24) (lv' := [some (.ref 12), some (.int 1), some (.int 0), some (.int 0), some (.int 0), none]) dX0_singleRoots_22 rfl (Nat.le_of_ble_eq_true rfl) rfl rfl ?_
      refine ev_iload (pc' := 26) dX0_singleRoots_24 rfl rfl ?_
      refine ev_iconst (pc' := 27) (v := 4) dX0_singleRoots_26 rfl ki_4 ?_
      refine ev_icmp_ge (tgt := 80) (pc' := 30) dX0_singleRoots_27 rfl rfl (fun h => absurd h (by decide)) (fun _ => ?_)
      refine ev_iload_n (pc' := 31) (i := 3) dX0_singleRoots_30 rfl rfl rfl ?_
      refine ev_if_eq (tgt := 80) (pc' := 34) dX0_singleRoots_31 rfl rfl (fun _ => ?_) (fun h => absurd (by decide) h)
      refine ev_iload_n (pc' := 81) (i := 2) dX0_singleRoots_80 rfl rfl rfl ?_
      refine ev_iret dX0_singleRoots_81 rfl rfl ⟨Nat.le_refl _, Nat.le_refl _⟩ ?_
      have e : (if (L 13) 0 = 0 then cS1 (cFig (L 13) ((L 12) 5) ((L 12) 6)) else cS0 (cFig (L 13) ((L 12) 5) ((L 12) 6))) = 0 := by rw [if_pos h18, g45]; decide
      rw [e] at k0
      exact k0 _ _ _ _
    · rw [g45] at hr
      subst hr
      refine ev_istore_n (pc' := 21) (i := 3) (lv' := [some (.ref 12), some (.int 1), some (.int 0), some (.int 4), none, none]) dX0_singleRoots_20 rfl rfl (Nat.le_of_ble_eq_true rfl) rfl rfl ?_
      refine ev_iconst (pc' := 22) (v := 0) dX0_singleRoots_21 rfl ki_0 ?_
      refine ev_istore (pc' := 24) (lv' := [some (.ref 12), some (.int 1), some (.int 0), some (.int 4), some (.int 0), none]) dX0_singleRoots_22 rfl (Nat.le_of_ble_eq_true rfl) rfl rfl ?_
      refine ev_iload (pc' := 26) dX0_singleRoots_24 rfl rfl ?_
      refine ev_iconst (pc' := 27) (v := 4) dX0_singleRoots_26 rfl ki_4 ?_
      refine ev_icmp_ge (tgt := 80) (pc' := 30) dX0_singleRoots_27 rfl rfl (fun h => absurd h (by decide)) (fun _ => ?_)
      refine ev_iload_n (pc' := 31) (i := 3) dX0_singleRoots_30 rfl rfl rfl ?_
      refine ev_if_eq (tgt := 80) (pc' := 34) dX0_singleRoots_31 rfl rfl (fun h => absurd h (by decide)) (fun _ => ?_)
      refine ev_iload_n (pc' := 35) (i := 3) dX0_singleRoots_34 rfl rfl rfl ?_
      refine ev_bipush (pc' := 37) (v := 10) dX0_singleRoots_35 rfl kb_10 ?_
      refine ev_irem (pc' := 38) (v := 4) dX0_singleRoots_37 rfl (by decide) (by decide) ?_
      refine ev_istore (pc' := 40) (lv' := [some (.ref 12), some (.int 1), some (.int 0), some (.int 4), some (.int 0), some (.int 4)]) dX0_singleRoots_38 rfl (Nat.le_of_ble_eq_true rfl) rfl rfl ?_
      refine ev_iload_n (pc' := 41) (i := 3) dX0_singleRoots_40 rfl rfl rfl ?_
      refine ev_bipush (pc' := 43) (v := 10) dX0_singleRoots_41 rfl kb_10 ?_
      refine ev_idiv (pc' := 44) (v := 0) dX0_singleRoots_43 rfl (by decide) (by decide) ?_
      refine ev_istore_n (pc' := 45) (i := 3) (lv' := [some (.ref 12), some (.int 1), some (.int 0), some (.int 0), some (.int 0), some (.int 4)]) dX0_singleRoots_44 rfl rfl (Nat.le_of_ble_eq_true rfl) rfl rfl ?_
      refine ev_iload (pc' := 47) dX0_singleRoots_45 rfl rfl ?_
      refine ev_iconst (pc' := 48) (v := 5) dX0_singleRoots_47 rfl ki_5 ?_
      refine ev_icmp_lt (tgt := 54) (pc' := 51) dX0_singleRoots_48 rfl rfl (fun _ => ?_) (fun h => absurd (by decide) h)
      refine ev_iload_n (pc' := 55) (i := 1) dX0_singleRoots_54 rfl rfl rfl ?_
      refine ev_if_eq (tgt := 63) (pc' := 58) dX0_singleRoots_55 rfl rfl (fun h => absurd h (by decide)) (fun _ => ?_)
      refine ev_iconst (pc' := 59) (v := 0) dX0_singleRoots_58 rfl ki_0 ?_
      refine ev_istore_n (pc' := 60) (i := 1) (lv' := [some (.ref 12), some (.int 0), some (.int 0), some (.int 0), some (.int 0), some (.int 4)]) dX0_singleRoots_59 rfl rfl (Nat.le_of_ble_eq_true rfl) rfl rfl ?_
      refine ev_goto (tgt := 74) dX0_singleRoots_60 rfl ?_
      refine ev_iinc (pc' := 77) (v := 1) (lv' := [some (.ref 12), some (.int 0), some (.int 0), some (.int 0), some (.int 1), some (.int 4)]) dX0_singleRoots_74 rfl rfl (by decide) (Nat.le_of_ble_eq_true rfl) rfl rfl ?_
      refine ev_goto (tgt := 24) dX0_singleRoots_77 rfl ?_
      refine ev_iload (pc' := 26) dX0_singleRoots_24 rfl rfl ?_
      refine ev_iconst (pc' := 27) (v := 4) dX0_singleRoots_26 rfl ki_4 ?_
      refine ev_icmp_ge (tgt := 80) (pc' := 30) dX0_singleRoots_27 rfl rfl (fun h => absurd h (by decide)) (fun _ => ?_)
      refine ev_iload_n (pc' := 31) (i := 3) dX0_singleRoots_30 rfl rfl rfl ?_
      refine ev_if_eq (tgt := 80) (pc' := 34) dX0_singleRoots_31 rfl rfl (fun _ => ?_) (fun h => absurd (by decide) h)
      refine ev_iload_n (pc' := 81) (i := 2) dX0_singleRoots_80 rfl rfl rfl ?_
      refine ev_iret dX0_singleRoots_81 rfl rfl ⟨Nat.le_refl _, Nat.le_refl _⟩ ?_
      have e : (if (L 13) 0 = 0 then cS1 (cFig (L 13) ((L 12) 5) ((L 12) 6)) else cS0 (cFig (L 13) ((L 12) 5) ((L 12) 6))) = 0 := by rw [if_pos h18, g45]; decide
      rw [e] at k0
      exact k0 _ _ _ _
    · rw [g45] at hr
      subst hr
      refine ev_istore_n (pc' := 21) (i := 3) (lv' := [some (.ref 12), some (.int 1), some (.int 0), some (.int 6), none, none]) dX0_singleRoots_20 rfl rfl (Nat.le_of_ble_eq_true rfl) rfl rfl ?_
      refine ev_iconst (pc' := 22) (v := 0) dX0_singleRoots_21 rfl ki_0 ?_
      refine ev_istore (pc' := 24) (lv' := [some (.ref 12), some (.int 1), some (.int 0), some (.int 6), some (.int 0), none]) dX0_singleRoots_22 rfl (Nat.le_of_ble_eq_true rfl) rfl rfl ?_
      refine ev_iload (pc' := 26) dX0_singleRoots_24 rfl rfl ?_
      refine ev_iconst (pc' := 27) (v := 4) dX0_singleRoots_26 rfl ki_4 ?_
      refine ev_icmp_ge (tgt := 80) (pc' := 30) dX0_singleRoots_27 rfl rfl (fun h => absurd h (by decide)) (fun _ => ?_)
      refine ev_iload_n (pc' := 31) (i := 3) dX0_singleRoots_30 rfl rfl rfl ?_
      refine ev_if_eq (tgt := 80) (pc' := 34) dX0_singleRoots_31 rfl rfl (fun h => absurd h (by decide)) (fun _ => ?_)
      refine ev_iload_n (pc' := 35) (i := 3) dX0_singleRoots_34 rfl rfl rfl ?_
      refine ev_bipush (pc' := 37) (v := 10) dX0_singleRoots_35 rfl kb_10 ?_
      refine ev_irem (pc' := 38) (v := 6) dX0_singleRoots_37 rfl (by decide) (by decide) ?_
      refine ev_istore (pc' := 40) (lv' := [some (.ref 12), some (.int 1), some (.int 0), some (.int 6), some (.int 0), some (.int 6)]) dX0_singleRoots_38 rfl (Nat.le_of_ble_eq_true rfl) rfl rfl ?_
      refine ev_iload_n (pc' := 41) (i := 3) dX0_singleRoots_40 rfl rfl rfl ?_
      refine ev_bipush (pc' := 43) (v := 10) dX0_singleRoots_41 rfl kb_10 ?_
      refine ev_idiv (pc' := 44) (v := 0) dX0_singleRoots_43 rfl (by decide) (by decide) ?_
      refine ev_istore_n (pc' := 45) (i := 3) (lv' := [some (.ref 12), some (.int 1), some (.int 0), some (.int 0), some (.int 0), some (.int 6)]) dX0_singleRoots_44 rfl rfl (Nat.le_of_ble_eq_true rfl) rfl rfl ?_
      refine ev_iload (pc' := 47) dX0_singleRoots_45 rfl rfl ?_
      refine ev_iconst (pc' := 48) (v := 5) dX0_singleRoots_47 rfl ki_5 ?_
      refine ev_icmp_lt (tgt := 54) (pc' := 51) dX0_singleRoots_48 rfl rfl (fun h => absurd h (by decide)) (fun _ => ?_)
      refine ev_goto (tgt := 74) dX0_singleRoots_51 rfl ?_
      refine ev_iinc (pc' := 77) (v := 1) (lv' := [some (.ref 12), some (.int 1), some (.int 0), some (.int 0), some (.int 1), some (.int 6)]) dX0_singleRoots_74 rfl rfl (by decide) (Nat.le_of_ble_eq_true rfl) rfl rfl ?_
      refine ev_goto (tgt := 24) dX0_singleRoots_77 rfl ?_
      refine ev_iload (pc' := 26) dX0_singleRoots_24 rfl rfl ?_
      refine ev_iconst (pc' := 27) (v := 4) dX0_singleRoots_26 rfl ki_4 ?_
      refine ev_icmp_ge (tgt := 80) (pc' := 30) dX0_singleRoots_27 rfl rfl (fun h => absurd h (by decide)) (fun _ => ?_)
      refine ev_iload_n (pc' := 31) (i := 3) dX0_singleRoots_30 rfl rfl rfl ?_
      refine ev_if_eq (tgt := 80) (pc' := 34) dX0_singleRoots_31 rfl rfl (fun _ => ?_) (fun h => absurd (by decide) h)
      refine ev_iload_n (pc' := 81) (i := 2) dX0_singleRoots_80 rfl rfl rfl ?_
      refine ev_iret dX0_singleRoots_81 rfl rfl ⟨Nat.le_refl _, Nat.le_refl _⟩ ?_
      have e : (if (L 13) 0 = 0 then cS1 (cFig (L 13) ((L 12) 5) ((L 12) 6)) else cS0 (cFig (L 13) ((L 12) 5) ((L 12) 6))) = 0 := by rw [if_pos h18, g45]; decide
      rw [e] at k0
      exact k0 _ _ _ _
    · rw [g45] at hr
      subst hr
      refine ev_istore_n (pc' := 21) (i := 3) (lv' := [some (.ref 12), some (.int 1), some (.int 0), some (.int 13), none, none]) dX0_singleRoots_20 rfl rfl (Nat.le_of_ble_eq_true rfl) rfl rfl ?_
      refine ev_iconst (pc' := 22) (v := 0) dX0_singleRoots_21 rfl ki_0 ?_
      refine ev_istore (pc' := 24) (lv' := [some (.ref 12), some (.int 1), some (.int 0), some (.int 13), some (.int 0), none]) dX0_singleRoots_22 rfl (Nat.le_of_ble_eq_true rfl) rfl rfl ?_
      refine ev_iload (pc' := 26) dX0_singleRoots_24 rfl rfl ?_
      refine ev_iconst (pc' := 27) (v := 4) dX0_singleRoots_26 rfl ki_4 ?_
      refine ev_icmp_ge (tgt := 80) (pc' := 30) dX0_singleRoots_27 rfl rfl (fun h => absurd h (by decide)) (fun _ => ?_)
      refine ev_iload_n (pc' := 31) (i := 3) dX0_singleRoots_30 rfl rfl rfl ?_
      refine ev_if_eq (tgt := 80) (pc' := 34) dX0_singleRoots_31 rfl rfl (fun h => absurd h (by decide)) (fun _ => ?_)
      refine ev_iload_n (pc' := 35) (i := 3) dX0_singleRoots_34 rfl rfl rfl ?_
      refine ev_bipush (pc' := 37) (v := 10) dX0_singleRoots_35 rfl kb_10 ?_
      refine ev_irem (pc' := 38) (v := 3) dX0_singleRoots_37 rfl (by decide) (by decide) ?_
      refine ev_istore (pc' := 40) (lv' := [some (.ref 12), some (.int 1), some (.int 0), some (.int 13), some (.int 0), some (.int 3)]) dX0_singleRoots_38 rfl (Nat.le_of_ble_eq_true rfl) rfl rfl ?_
      refine ev_iload_n (pc' := 41) (i := 3) dX0_singleRoots_40 rfl rfl rfl ?_
      refine ev_bipush (pc' := 43) (v := 10) dX0_singleRoots_41 rfl kb_10 ?_
      refine ev_idiv (pc' := 44) (v := 1) dX0_singleRoots_43 rfl (by decide) (by decide) ?_
      refine ev_istore_n (pc' := 45) (i := 3) (lv' := [some (.ref 12), some (.int 1), some (.int 0), some (.int 1), some (.int 0), some (.int 3)]) dX0_singleRoots_44 rfl rfl (Nat.le_of_ble_eq_true rfl) rfl rfl ?_
      refine ev_iload (pc' := 47) dX0_singleRoots_45 rfl rfl ?_
      refine ev_iconst (pc' := 48) (v := 5) dX0_singleRoots_47 rfl ki_5 ?_
      refine ev_icmp_lt (tgt := 54) (pc' := 51) dX0_singleRoots_48 rfl rfl (fun _ => ?_) (fun h => absurd (by decide) h)
      refine ev_iload_n (pc' := 55) (i := 1) dX0_singleRoots_54 rfl rfl rfl ?_
      refine ev_if_eq (tgt := 63) (pc' := 58) dX0_singleRoots_55 rfl rfl (fun h => absurd h (by decide)) (fun _ => ?_)
      refine ev_iconst (pc' := 59) (v := 0) dX0_singleRoots_58 rfl ki_0 ?_
      refine ev_istore_n (pc' := 60) (i := 1) (lv' := [some (.ref 12), some (.int 0), some (.int 0), some (.int 1), some (.int 0), some (.int 3)]) dX0_singleRoots_59 rfl rfl (Nat.le_of_ble_eq_true rfl) rfl rfl ?_
      refine ev_goto (tgt := 74) dX0_singleRoots_60 rfl ?_
      refine ev_iinc (pc' := 77) (v := 1) (lv' := [some (.ref 12), some (.int 0), some (.int 0), some (.int 1), some (.int 1), some (.int 3)]) dX0_singleRoots_74 rfl rfl (by decide) (Nat.le_of_ble_eq_true rfl) rfl rfl ?_
      refine ev_goto (tgt := 24) dX0_singleRoots_77 rfl ?_
      refine ev_iload (pc' := 26) dX0_singleRoots_24 rfl rfl ?_
      refine ev_iconst (pc' := 27) (v := 4) dX0_singleRoots_26 rfl ki_4 ?_
      refine ev_icmp_ge (tgt := 80) (pc' := 30) dX0_singleRoots_27 rfl rfl (fun h => absurd h (by decide)) (fun _ => ?_)
      refine ev_iload_n (pc' := 31) (i := 3) dX0_singleRoots_30 rfl rfl rfl ?_
      refine ev_if_eq (tgt := 80) (pc' := 34) dX0_singleRoots_31 rfl rfl (fun h => absurd h (by decide)) (fun _ => ?_)
      refine ev_iload_n (pc' := 35) (i := 3) dX0_singleRoots_34 rfl rfl rfl ?_
      refine ev_bipush (pc' := 37) (v := 10) dX0_singleRoots_35 rfl kb_10 ?_
      refine ev_irem (pc' := 38) (v := 1) dX0_singleRoots_37 rfl (by decide) (by decide) ?_
      refine ev_istore (pc' := 40) (lv' := [some (.ref 12), some (.int 0), some (.int 0), some (.int 1), some (.int 1), some (.int 1)]) dX0_singleRoots_38 rfl (Nat.le_of_ble_eq_true rfl) rfl rfl ?_
      refine ev_iload_n (pc' := 41) (i := 3) dX0_singleRoots_40 rfl rfl rfl ?_
      refine ev_bipush (pc' := 43) (v := 10) dX0_singleRoots_41 rfl kb_10 ?_
      refine ev_idiv (pc' := 44) (v := 0) dX0_singleRoots_43 rfl (by decide) (by decide) ?_
      refine ev_istore_n (pc' := 45) (i := 3) (lv' := [some (.ref 12), some (.int 0), some (.int 0), some (.int 0), some (.int 1), some (.int 1)]) dX0_singleRoots_44 rfl rfl (Nat.le_of_ble_eq_true rfl) rfl rfl ?_
      refine ev_iload (pc' := 47) dX0_singleRoots_45 rfl rfl ?_
      refine ev_iconst (pc' := 48) (v := 5) dX0_singleRoots_47 rfl ki_5 ?_
      refine ev_icmp_lt (tgt := 54) (pc' := 51) dX0_singleRoots_48 rfl rfl (fun _ => ?_) (fun h => absurd (by decide) h)
      refine ev_iload_n (pc' := 55) (i := 1) dX0_singleRoots_54 rfl rfl rfl ?_
      refine ev_if_eq (tgt := 63) (pc' := 58) dX0_singleRoots_55 rfl rfl (fun _ => ?_) (fun h => absurd (by decide) h)
      refine ev_iload (pc' := 65) dX0_singleRoots_63 rfl rfl ?_
      refine ev_iconst (pc' := 66) (v := 1) dX0_singleRoots_65 rfl ki_1 ?_
      refine ev_icmp_le (tgt := 71) (pc' := 69) dX0_singleRoots_66 rfl rfl (fun _ => ?_) (fun h => absurd (by decide) h)
      refine ev_iinc (pc' := 74) (v := 1) (lv' := [some (.ref 12), some (.int 0), some (.int 1), some (.int 0), some (.int 1), some (.int 1)]) dX0_singleRoots_71 rfl rfl (by decide) (Nat.le_of_ble_eq_true rfl) rfl rfl ?_
      refine ev_iinc (pc' := 77) (v := 2) (lv' := [some (.ref 12), some (.int 0), some (.int 1), some (.int 0), some (.int 2), some (.int 1)]) dX0_singleRoots_74 rfl rfl (by decide) (Nat.le_of_ble_eq_true rfl) rfl rfl ?_
      refine ev_goto (tgt := 24) dX0_singleRoots_77 rfl ?_
      refine ev_iload (pc' := 26) dX0_singleRoots_24 rfl rfl ?_
      refine ev_iconst (pc' := 27) (v := 4) dX0_singleRoots_26 rfl ki_4 ?_
      refine ev_icmp_ge (tgt := 80) (pc' := 30) dX0_singleRoots_27 rfl rfl (fun h => absurd h (by decide)) (fun _ => ?_)
      refine ev_iload_n (pc' := 31) (i := 3) dX0_singleRoots_30 rfl rfl rfl ?_
      refine ev_if_eq (tgt := 80) (pc' := 34) dX0_singleRoots_31 rfl rfl (fun _ => ?_) (fun h => absurd (by decide) h)
      refine ev_iload_n (pc' := 81) (i := 2) dX0_singleRoots_80 rfl rfl rfl ?_
      refine ev_iret dX0_singleRoots_81 rfl rfl ⟨Nat.le_refl _, Nat.le_refl _⟩ ?_
      have e : (if (L 13) 0 = 0 then cS1 (cFig (L 13) ((L 12) 5) ((L 12) 6)) else cS0 (cFig (L 13) ((L 12) 5) ((L 12) 6))) = 1 := by rw [if_pos h18, g45]; decide
      rw [e] at k0
      exact k0 _ _ _ _
    · rw [g45] at hr
      subst hr
      refine ev_istore_n (pc' := 21) (i := 3) (lv' := [some (.ref 12), some (.int 1), some (.int 0), some (.int 22), none, none]) dX0_singleRoots_20 rfl rfl (Nat.le_of_ble_eq_true rfl) rfl rfl ?_
      refine ev_iconst (pc' := 22) (v := 0) dX0_singleRoots_21 rfl ki_0 ?_
      refine ev_istore (pc' := 24) (lv' := [some (.ref 12), some (.int 1), some (.int 0), some (.int 22), some (.int 0), none]) dX0_singleRoots_22 rfl (Nat.le_of_ble_eq_true rfl) rfl rfl ?_
      refine ev_iload (pc' := 26) dX0_singleRoots_24 rfl rfl ?_
      refine ev_iconst (pc' := 27) (v := 4) dX0_singleRoots_26 rfl ki_4 ?_
      refine ev_icmp_ge (tgt := 80) (pc' := 30) dX0_singleRoots_27 rfl rfl (fun h => absurd h (by decide)) (fun _ => ?_)
      refine ev_iload_n (pc' := 31) (i := 3) dX0_singleRoots_30 rfl rfl rfl ?_
      refine ev_if_eq (tgt := 80) (pc' := 34) dX0_singleRoots_31 rfl rfl (fun h => absurd h (by decide)) (fun _ => ?_)
      refine ev_iload_n (pc' := 35) (i := 3) dX0_singleRoots_34 rfl rfl rfl ?_
      refine ev_bipush (pc' := 37) (v := 10) dX0_singleRoots_35 rfl kb_10 ?_
      refine ev_irem (pc' := 38) (v := 2) dX0_singleRoots_37 rfl (by decide) (by decide) ?_
      refine ev_istore (pc' := 40) (lv' := [some (.ref 12), some (.int 1), some (.int 0), some (.int 22), some (.int 0), some (.int 2)]) dX0_singleRoots_38 rfl (Nat.le_of_ble_eq_true rfl) rfl rfl ?_
      refine ev_iload_n (pc' := 41) (i := 3) dX0_singleRoots_40 rfl rfl rfl ?_
      refine ev_bipush (pc' := 43) (v := 10) dX0_singleRoots_41 rfl kb_10 ?_
      refine ev_idiv (pc' := 44) (v := 2) dX0_singleRoots_43 rfl (by decide) (by decide) ?_
      refine ev_istore_n (pc' := 45) (i := 3) (lv' := [some (.ref 12), some (.int 1), some (.int 0), some (.int 2), some (.int 0), some (.int 2)]) dX0_singleRoots_44 rfl rfl (Nat.le_of_ble_eq_true rfl) rfl rfl ?_
      refine ev_iload (pc' := 47) dX0_singleRoots_45 rfl rfl ?_
      refine ev_iconst (pc' := 48) (v := 5) dX0_singleRoots_47 rfl ki_5 ?_
      refine ev_icmp_lt (tgt := 54) (pc' := 51) dX0_singleRoots_48 rfl rfl (fun _ => ?_) (fun h => absurd (by decide) h)
      refine ev_iload_n (pc' := 55) (i := 1) dX0_singleRoots_54 rfl rfl rfl ?_
      refine ev_if_eq (tgt := 63) (pc' := 58) dX0_singleRoots_55 rfl rfl (fun h => absurd h (by decide)) (fun _ => ?_)
      refine ev_iconst (pc' := 59) (v := 0) dX0_singleRoots_58 rfl ki_0 ?_
      refine ev_istore_n (pc' := 60) (i := 1) (lv' := [some (.ref 12), some (.int 0), some (.int 0), some (.int 2), some (.int 0), some (.int 2)]) dX0_singleRoots_59 rfl rfl (Nat.le_of_ble_eq_true rfl) rfl rfl ?_
      refine ev_goto (tgt := 74) dX0_singleRoots_60 rfl ?_
      refine ev_iinc (pc' := 77) (v := 1) (lv' := [some (.ref 12), some (.int 0), some (.int 0), some (.int 2), some (.int 1), some (.int 2)]) dX0_singleRoots_74 rfl rfl (by decide) (Nat.le_of_ble_eq_true rfl) rfl rfl ?_
      refine ev_goto (tgt := 24) dX0_singleRoots_77 rfl ?_
      refine ev_iload (pc' := 26) dX0_singleRoots_24 rfl rfl ?_
      refine ev_iconst (pc' := 27) (v := 4) dX0_singleRoots_26 rfl ki_4 ?_
      refine ev_icmp_ge (tgt := 80) (pc' := 30) dX0_singleRoots_27 rfl rfl (fun h => absurd h (by decide)) (fun _ => ?_)
      refine ev_iload_n (pc' := 31) (i := 3) dX0_singleRoots_30 rfl rfl rfl ?_
      refine ev_if_eq (tgt := 80) (pc' := 34) dX0_singleRoots_31 rfl rfl (fun h => absurd h (by decide)) (fun _ => ?_)
      refine ev_iload_n (pc' := 35) (i := 3) dX0_singleRoots_34 rfl rfl rfl ?_
      refine ev_bipush (pc' := 37) (v := 10) dX0_singleRoots_35 rfl kb_10 ?_
      refine ev_irem (pc' := 38) (v := 2) dX0_singleRoots_37 rfl (by decide) (by decide) ?_
      refine ev_istore (pc' := 40) (lv' := [some (.ref 12), some (.int 0), some (.int 0), some (.int 2), some (.int 1), some (.int 2)]) dX0_singleRoots_38 rfl (Nat.le_of_ble_eq_true rfl) rfl rfl ?_
      refine ev_iload_n (pc' := 41) (i := 3) dX0_singleRoots_40 rfl rfl rfl ?_
      refine ev_bipush (pc' := 43) (v := 10) dX0_singleRoots_41 rfl kb_10 ?_
      refine ev_idiv (pc' := 44) (v := 0) dX0_singleRoots_43 rfl (by decide) (by decide) ?_
      refine ev_istore_n (pc' := 45) (i := 3) (lv' := [some (.ref 12), some (.int 0), some (.int 0), some (.int 0), some (.int 1), some (.int 2)]) dX0_singleRoots_44 rfl rfl (Nat.le_of_ble_eq_true rfl) rfl rfl ?_
      refine ev_iload (pc' := 47) dX0_singleRoots_45 rfl rfl ?_
      refine ev_iconst (pc' := 48) (v := 5) dX0_singleRoots_47 rfl ki_5 ?_
      refine ev_icmp_lt (tgt := 54) (pc' := 51) dX0_singleRoots_48 rfl rfl (fun _ => ?_) (fun h => absurd (by decide) h)
      refine ev_iload_n (pc' := 55) (i := 1) dX0_singleRoots_54 rfl rfl rfl ?_
      refine ev_if_eq (tgt := 63) (pc' := 58) dX0_singleRoots_55 rfl rfl (fun _ => ?_) (fun h => absurd (by decide) h)
      refine ev_iload (pc' := 65) dX0_singleRoots_63 rfl rfl ?_
      refine ev_iconst (pc' := 66) (v := 1) dX0_singleRoots_65 rfl ki_1 ?_
      refine ev_icmp_le (tgt := 71) (pc' := 69) dX0_singleRoots_66 rfl rfl (fun h => absurd h (by decide)) (fun _ => ?_)
      refine ev_iconst (pc' := 70) (v := (-1)) dX0_singleRoots_69 rfl ki_m1 ?_
      refine ev_iret dX0_singleRoots_70 rfl rfl ⟨Nat.le_refl _, Nat.le_refl _⟩ ?_
      have e : (if (L 13) 0 = 0 then cS1 (cFig (L 13) ((L 12) 5) ((L 12) 6)) else cS0 (cFig (L 13) ((L 12) 5) ((L 12) 6))) = (-1) := by rw [if_pos h18, g45]; decide
      rw [e] at k0
      exact k0 _ _ _ _
    · rw [g45] at hr
      subst hr
      refine ev_istore_n (pc' := 21) (i := 3) (lv' := [some (.ref 12), some (.int 1), some (.int 0), some (.int 25), none, none]) dX0_singleRoots_20 rfl rfl (Nat.le_of_ble_eq_true rfl) rfl rfl ?_
      refine ev_iconst (pc' := 22) (v := 0) dX0_singleRoots_21 rfl ki_0 ?_
      refine ev_istore (pc' := 24) (lv' := [some (.ref 12), some (.int 1), some (.int 0), some (.int 25), some (.int 0), none]) dX0_singleRoots_22 rfl (Nat.le_of_ble_eq_true rfl) rfl rfl ?_
      refine ev_iload (pc' := 26) dX0_singleRoots_24 rfl rfl ?_
      refine ev_iconst (pc' := 27) (v := 4) dX0_singleRoots_26 rfl ki_4 ?_
      refine ev_icmp_ge (tgt := 80) (pc' := 30) dX0_singleRoots_27 rfl rfl (fun h => absurd h (by decide)) (fun _ => ?_)
      refine ev_iload_n (pc' := 31) (i := 3) dX0_singleRoots_30 rfl rfl rfl ?_
      refine ev_if_eq (tgt := 80) (pc' := 34) dX0_singleRoots_31 rfl rfl (fun h => absurd h (by decide)) (fun _ => ?_)
      refine ev_iload_n (pc' := 35) (i := 3) dX0_singleRoots_34 rfl rfl rfl ?_
      refine ev_bipush (pc' := 37) (v := 10) dX0_singleRoots_35 rfl kb_10 ?_
      refine ev_irem (pc' := 38) (v := 5) dX0_singleRoots_37 rfl (by decide) (by decide) ?_
      refine ev_istore (pc' := 40) (lv' := [some (.ref 12), some (.int 1), some (.int 0), some (.int 25), some (.int 0), some (.int 5)]) dX0_singleRoots_38 rfl (Nat.le_of_ble_eq_true rfl) rfl rfl ?_
      refine ev_iload_n (pc' := 41) (i := 3) dX0_singleRoots_40 rfl rfl rfl ?_
      refine ev_bipush (pc' := 43) (v := 10) dX0_singleRoots_41 rfl kb_10 ?_
      refine ev_idiv (pc' := 44) (v := 2) dX0_singleRoots_43 rfl (by decide) (by decide) ?_
      refine ev_istore_n (pc' := 45) (i := 3) (lv' := [some (.ref 12), some (.int 1), some (.int 0), some (.int 2), some (.int 0), some (.int 5)]) dX0_singleRoots_44 rfl rfl (Nat.le_of_ble_eq_true rfl) rfl rfl ?_
      refine ev_iload (pc' := 47) dX0_singleRoots_45 rfl rfl ?_
      refine ev_iconst (pc' := 48) (v := 5) dX0_singleRoots_47 rfl ki_5 ?_
      refine ev_icmp_lt (tgt := 54) (pc' := 51) dX0_singleRoots_48 rfl rfl (fun h => absurd h (by decide)) (fun _ => ?_)
      refine ev_goto (tgt := 74) dX0_singleRoots_51 rfl ?_
      refine ev_iinc (pc' := 77) (v := 1) (lv' := [some (.ref 12), some (.int 1), some (.int 0), some (.int 2), some (.int 1), some (.int 5)]) dX0_singleRoots_74 rfl rfl (by decide) (Nat.le_of_ble_eq_true rfl) rfl rfl ?_
      refine ev_goto (tgt := 24) dX0_singleRoots_77 rfl ?_
      refine ev_iload (pc' := 26) dX0_singleRoots_24 rfl rfl ?_
      refine ev_iconst (pc' := 27) (v := 4) dX0_singleRoots_26 rfl ki_4 ?_
      refine ev_icmp_ge (tgt := 80) (pc' := 30) dX0_singleRoots_27 rfl rfl (fun h => absurd h (by decide)) (fun _ => ?_)
      refine ev_iload_n (pc' := 31) (i := 3) dX0_singleRoots_30 rfl rfl rfl ?_
      refine ev_if_eq (tgt := 80) (pc' := 34) dX0_singleRoots_31 rfl rfl (fun h => absurd h (by decide)) (fun _ => ?_)
      refine ev_iload_n (pc' := 35) (i := 3) dX0_singleRoots_34 rfl rfl rfl ?_
      refine ev_bipush (pc' := 37) (v := 10) dX0_singleRoots_35 rfl kb_10 ?_
      refine ev_irem (pc' := 38) (v := 2) dX0_singleRoots_37 rfl (by decide) (by decide) ?_
      refine ev_istore (pc' := 40) (lv' := [some (.ref 12), some (.int 1), some (.int 0), some (.int 2), some (.int 1), some (.int 2)]) dX0_singleRoots_38 rfl (Nat.le_of_ble_eq_true rfl) rfl rfl ?_
      refine ev_iload_n (pc' := 41) (i := 3) dX0_singleRoots_40 rfl rfl rfl ?_
      refine ev_bipush (pc' := 43) (v := 10) dX0_singleRoots_41 rfl kb_10 ?_
      refine ev_idiv (pc' := 44) (v := 0) dX0_singleRoots_43 rfl (by decide) (by decide) ?_
      refine ev_istore_n (pc' := 45) (i := 3) (lv' := [some (.ref 12), some (.int 1), some (.int 0), some (.int 0), some (.int 1), some (.int 2)]) dX0_singleRoots_44 rfl rfl (Nat.le_of_ble_eq_true rfl) rfl rfl ?_
      refine ev_iload (pc' := 47) dX0_singleRoots_45 rfl rfl ?_
      refine ev_iconst (pc' := 48) (v := 5) dX0_singleRoots_47 rfl ki_5 ?_
      refine ev_icmp_lt (tgt := 54) (pc' := 51) dX0_singleRoots_48 rfl rfl (fun _ => ?_) (fun h => absurd (by decide) h)
      refine ev_iload_n (pc' := 55) (i := 1) dX0_singleRoots_54 rfl rfl rfl ?_
      refine ev_if_eq (tgt := 63) (pc' := 58) dX0_singleRoots_55 rfl rfl (fun h => absurd h (by decide)) (fun _ => ?_)
      refine ev_iconst (pc' := 59) (v := 0) dX0_singleRoots_58 rfl ki_0 ?_
      refine ev_istore_n (pc' := 60) (i := 1) (lv' := [some (.ref 12), some (.int 0), some (.int 0), some (.int 0), some (.int 1), some (.int 2)]) dX0_singleRoots_59 rfl rfl (Nat.le_of_ble_eq_true rfl) rfl rfl ?_
      refine ev_goto (tgt := 74) dX0_singleRoots_60 rfl ?_
      refine ev_iinc (pc' := 77) (v := 2) (lv' := [some (.ref 12), some (.int 0), some (.int 0), some (.int 0), some (.int 2), some (.int 2)]) dX0_singleRoots_74 rfl rfl (by decide) (Nat.le_of_ble_eq_true rfl) rfl rfl ?_
      refine ev_goto (tgt := 24) dX0_singleRoots_77 rfl ?_
      refine ev_iload (pc' := 26) dX0_singleRoots_24 rfl rfl ?_
      refine ev_iconst (pc' := 27) (v := 4) dX0_singleRoots_26 rfl ki_4 ?_
      refine ev_icmp_ge (tgt := 80) (pc' := 30) dX0_singleRoots_27 rfl rfl (fun h => absurd h (by decide)) (fun _ => ?_)
      refine ev_iload_n (pc' := 31) (i := 3) dX0_singleRoots_30 rfl rfl rfl ?_
      refine ev_if_eq (tgt := 80) (pc' := 34) dX0_singleRoots_31 rfl rfl (fun _ => ?_) (fun h => absurd (by decide) h)
      refine ev_iload_n (pc' := 81) (i := 2) dX0_singleRoots_80 rfl rfl rfl ?_
      refine ev_iret dX0_singleRoots_81 rfl rfl ⟨Nat.le_refl _, Nat.le_refl _⟩ ?_
      have e : (if (L 13) 0 = 0 then cS1 (cFig (L 13) ((L 12) 5) ((L 12) 6)) else cS0 (cFig (L 13) ((L 12) 5) ((L 12) 6))) = 0 := by rw [if_pos h18, g45]; decide
      rw [e] at k0
      exact k0 _ _ _ _
    · rw [g45] at hr
      subst hr
      refine ev_istore_n (pc' := 21) (i := 3) (lv' := [some (.ref 12), some (.int 1), some (.int 0), some (.int 31), none, none]) dX0_singleRoots_20 rfl rfl (Nat.le_of_ble_eq_true rfl) rfl rfl ?_
      refine ev_iconst (pc' := 22) (v := 0) dX0_singleRoots_21 rfl ki_0 ?_
      refine ev_istore (pc' := 24) (lv' := [some (.ref 12), some (.int 1), some (.int 0), some (.int 31), some (.int 0), none]) dX0_singleRoots_22 rfl (Nat.le_of_ble_eq_true rfl) rfl rfl ?_
      refine ev_iload (pc' := 26) dX0_singleRoots_24 rfl rfl ?_
      refine ev_iconst (pc' := 27) (v := 4) dX0_singleRoots_26 rfl ki_4 ?_
      refine ev_icmp_ge (tgt := 80) (pc' := 30) dX0_singleRoots_27 rfl rfl (fun h => absurd h (by decide)) (fun _ => ?_)
      refine ev_iload_n (pc' := 31) (i := 3) dX0_singleRoots_30 rfl rfl rfl ?_
      refine ev_if_eq (tgt := 80) (pc' := 34) dX0_singleRoots_31 rfl rfl (fun h => absurd h (by decide)) (fun _ => ?_)
      refine ev_iload_n (pc' := 35) (i := 3) dX0_singleRoots_34 rfl rfl rfl ?_
      refine ev_bipush (pc' := 37) (v := 10) dX0_singleRoots_35 rfl kb_10 ?_
      refine ev_irem (pc' := 38) (v := 1) dX0_singleRoots_37 rfl (by decide) (by decide) ?_
      refine ev_istore (pc' := 40) (lv' := [some (.ref 12), some (.int 1), some (.int 0), some (.int 31), some (.int 0), some (.int 1)]) dX0_singleRoots_38 rfl (Nat.le_of_ble_eq_true rfl) rfl rfl ?_
      refine ev_iload_n (pc' := 41) (i := 3) dX0_singleRoots_40 rfl rfl rfl ?_
      refine ev_bipush (pc' := 43) (v := 10) dX0_singleRoots_41 rfl kb_10 ?_
      refine ev_idiv (pc' := 44) (v := 3) dX0_singleRoots_43 rfl (by decide) (by decide) ?_
      refine ev_istore_n (pc' := 45) (i := 3) (lv' := [some (.ref 12), some (.int 1), some (.int 0), some (.int 3), some (.int 0), some (.int 1)]) dX0_singleRoots_44 rfl rfl (Nat.le_of_ble_eq_true rfl) rfl rfl ?_
      refine ev_iload (pc' := 47) dX0_singleRoots_45 rfl rfl ?_
      refine ev_iconst (pc' := 48) (v := 5) dX0_singleRoots_47 rfl ki_5 ?_
      refine ev_icmp_lt (tgt := 54) (pc' := 51) dX0_singleRoots_48 rfl rfl (fun _ => ?_) (fun h => absurd (by decide) h)
      refine ev_iload_n (pc' := 55) (i := 1) dX0_singleRoots_54 rfl rfl rfl ?_
      refine ev_if_eq (tgt := 63) (pc' := 58) dX0_singleRoots_55 rfl rfl (fun h => absurd h (by decide)) (fun _ => ?_)
      refine ev_iconst (pc' := 59) (v := 0) dX0_singleRoots_58 rfl ki_0 ?_
      refine ev_istore_n (pc' := 60) (i := 1) (lv' := [some (.ref 12), some (.int 0), some (.int 0), some (.int 3), some (.int 0), some (.int 1)]) dX0_singleRoots_59 rfl rfl (Nat.le_of_ble_eq_true rfl) rfl rfl ?_
      refine ev_goto (tgt := 74) dX0_singleRoots_60 rfl ?_
      refine ev_iinc (pc' := 77) (v := 1) (lv' := [some (.ref 12), some (.int 0), some (.int 0), some (.int 3), some (.int 1), some (.int 1)]) dX0_singleRoots_74 rfl rfl (by decide) (Nat.le_of_ble_eq_true rfl) rfl rfl ?_
      refine ev_goto (tgt := 24) dX0_singleRoots_77 rfl ?_
      refine ev_iload (pc' := 26) dX0_singleRoots_24 rfl rfl ?_
      refine ev_iconst (pc' := 27) (v := 4) dX0_singleRoots_26 rfl ki_4 ?_
      refine ev_icmp_ge (tgt := 80) (pc' := 30) dX0_singleRoots_27 rfl rfl (fun h => absurd h (by decide)) (fun _ => ?_)
      refine ev_iload_n (pc' := 31) (i := 3) dX0_singleRoots_30 rfl rfl rfl ?_
      refine ev_if_eq (tgt := 80) (pc' := 34) dX0_singleRoots_31 rfl rfl (fun h => absurd h (by decide)) (fun _ => ?_)
      refine ev_iload_n (pc' := 35) (i := 3) dX0_singleRoots_34 rfl rfl rfl ?_
      refine ev_bipush (pc' := 37) (v := 10) dX0_singleRoots_35 rfl kb_10 ?_
      refine ev_irem (pc' := 38) (v := 3) dX0_singleRoots_37 rfl (by decide) (by decide) ?_
      refine ev_istore (pc' := 40) (lv' := [some (.ref 12), some (.int 0), some (.int 0), some (.int 3), some (.int 1), some (.int 3)]) dX0_singleRoots_38 rfl (Nat.le_of_ble_eq_true rfl) rfl rfl ?_
      refine ev_iload_n (pc' := 41) (i := 3) dX0_singleRoots_40 rfl rfl rfl ?_
      refine ev_bipush (pc' := 43) (v := 10) dX0_singleRoots_41 rfl kb_10 ?_
      refine ev_idiv (pc' := 44) (v := 0) dX0_singleRoots_43 rfl (by decide) (by decide) ?_
      refine ev_istore_n (pc' := 45) (i := 3) (lv' := [some (.ref 12), some (.int 0), some (.int 0), some (.int 0), some (.int 1), some (.int 3)]) dX0_singleRoots_44 rfl rfl (Nat.le_of_ble_eq_true rfl) rfl rfl ?_
      refine ev_iload (pc' := 47) dX0_singleRoots_45 rfl rfl ?_
      refine ev_iconst (pc' := 48) (v := 5) dX0_singleRoots_47 rfl ki_5 ?_
      refine ev_icmp_lt (tgt := 54) (pc' := 51) dX0_singleRoots_48 rfl rfl (fun _ => ?_) (fun h => absurd (by decide) h)
      refine ev_iload_n (pc' := 55) (i := 1) dX0_singleRoots_54 rfl rfl rfl ?_
      refine ev_if_eq (tgt := 63) (pc' := 58) dX0_singleRoots_55 rfl rfl (fun _ => ?_) (fun h => absurd (by decide) h)
      refine ev_iload (pc' := 65) dX0_singleRoots_63 rfl rfl ?_
      refine ev_iconst (pc' := 66) (v := 1) dX0_singleRoots_65 rfl ki_1 ?_
      refine ev_icmp_le (tgt := 71) (pc' := 69) dX0_singleRoots_66 rfl rfl (fun h => absurd h (by decide)) (fun _ => ?_)
      refine ev_iconst (pc' := 70) (v := (-1)) dX0_singleRoots_69 rfl ki_m1 ?_
      refine ev_iret dX0_singleRoots_70 rfl rfl ⟨Nat.le_refl _, Nat.le_refl _⟩ ?_
      have e : (if (L 13) 0 = 0 then cS1 (cFig (L 13) ((L 12) 5) ((L 12) 6)) else cS0 (cFig (L 13) ((L 12) 5) ((L 12) 6))) = (-1) := by rw [if_pos h18, g45]; decide
      rw [e] at k0
      exact k0 _ _ _ _
    · rw [g45] at hr
      subst hr
      refine ev_istore_n (pc' := 21) (i := 3) (lv' := [some (.ref 12), some (.int 1), some (.int 0), some (.int 55), none, none]) dX0_singleRoots_20 rfl rfl (Nat.le_of_ble_eq_true rfl) rfl rfl ?_
      refine ev_iconst (pc' := 22) (v := 0) dX0_singleRoots_21 rfl ki_0 ?_
      refine ev_istore (pc' := 24) (lv' := [some (.ref 12), some (.int 1), some (.int 0), some (.int 55), some (.int 0), none]) dX0_singleRoots_22 rfl (Nat.le_of_ble_eq_true rfl) rfl rfl ?_
      refine ev_iload (pc' := 26) dX0_singleRoots_24 rfl rfl ?_
      refine ev_iconst (pc' := 27) (v := 4) dX0_singleRoots_26 rfl ki_4 ?_
      refine ev_icmp_ge (tgt := 80) (pc' := 30) dX0_singleRoots_27 rfl rfl (fun h => absurd h (by decide)) (fun _ => ?_)
      refine ev_iload_n (pc' := 31) (i := 3) dX0_singleRoots_30 rfl rfl rfl ?_
      refine ev_if_eq (tgt := 80) (pc' := 34) dX0_singleRoots_31 rfl rfl (fun h => absurd h (by decide)) (fun _ => ?_)
      refine ev_iload_n (pc' := 35) (i := 3) dX0_singleRoots_34 rfl rfl rfl ?_
      refine ev_bipush (pc' := 37) (v := 10) dX0_singleRoots_35 rfl kb_10 ?_
      refine ev_irem (pc' := 38) (v := 5) dX0_singleRoots_37 rfl (by decide) (by decide) ?_
      refine ev_istore (pc' := 40) (lv' := [some (.ref 12), some (.int 1), some (.int 0), some (.int 55), some (.int 0), some (.int 5)]) dX0_singleRoots_38 rfl (Nat.le_of_ble_eq_true rfl) rfl rfl ?_
      refine ev_iload_n (pc' := 41) (i := 3) dX0_singleRoots_40 rfl rfl rfl ?_
      refine ev_bipush (pc' := 43) (v := 10) dX0_singleRoots_41 rfl kb_10 ?_
      refine ev_idiv (pc' := 44) (v := 5) dX0_singleRoots_43 rfl (by decide) (by decide) ?_
      refine ev_istore_n (pc' := 45) (i := 3) (lv' := [some (.ref 12), some (.int 1), some (.int 0), some (.int 5), some (.int 0), some (.int 5)]) dX0_singleRoots_44 rfl rfl (Nat.le_of_ble_eq_true rfl) rfl rfl ?_
      refine ev_iload (pc' := 47) dX0_singleRoots_45 rfl rfl ?_
      refine ev_iconst (pc' := 48) (v := 5) dX0_singleRoots_47 rfl ki_5 ?_
      refine ev_icmp_lt (tgt := 54) (pc' := 51) dX0_singleRoots_48 rfl rfl (fun h => absurd h (by decide)) (fun _ => ?_)
      refine ev_goto (tgt := 74) dX0_singleRoots_51 rfl ?_
      refine ev_iinc (pc' := 77) (v := 1) (lv' := [some (.ref 12), some (.int 1), some (.int 0), some (.int 5), some (.int 1), some (.int 5)]) dX0_singleRoots_74 rfl rfl (by decide) (Nat.le_of_ble_eq_true rfl) rfl rfl ?_
      refine ev_goto (tgt := 24) dX0_singleRoots_77 rfl ?_
      refine ev_iload (pc' := 26) dX0_singleRoots_24 rfl rfl ?_
      refine ev_iconst (pc' := 27) (v := 4) dX0_singleRoots_26 rfl ki_4 ?_
      refine ev_icmp_ge (tgt := 80) (pc' := 30) dX0_singleRoots_27 rfl rfl (fun h => absurd h (by decide)) (fun _ => ?_)
      refine ev_iload_n (pc' := 31) (i := 3) dX0_singleRoots_30 rfl rfl rfl ?_
      refine ev_if_eq (tgt := 80) (pc' := 34) dX0_singleRoots_31 rfl rfl (fun h => absurd h (by decide)) (fun _ => ?_)
      refine ev_iload_n (pc' := 35) (i := 3) dX0_singleRoots_34 rfl rfl rfl ?_
      refine ev_bipush (pc' := 37) (v := 10) dX0_singleRoots_35 rfl kb_10 ?_
      refine ev_irem (pc' := 38) (v := 5) dX0_singleRoots_37 rfl (by decide) (by decide) ?_
      refine ev_istore (pc' := 40) (lv' := [some (.ref 12), some (.int 1), some (.int 0), some (.int 5), some (.int 1), some (.int 5)]) dX0_singleRoots_38 rfl (Nat.le_of_ble_eq_true rfl) rfl rfl ?_
      refine ev_iload_n (pc' := 41) (i := 3) dX0_singleRoots_40 rfl rfl rfl ?_
      refine ev_bipush (pc' := 43) (v := 10) dX0_singleRoots_41 rfl kb_10 ?_
      refine ev_idiv (pc' := 44) (v := 0) dX0_singleRoots_43 rfl (by decide) (by decide) ?_
      refine ev_istore_n (pc' := 45) (i := 3) (lv' := [some (.ref 12), some (.int 1), some (.int 0), some (.int 0), some (.int 1), some (.int 5)]) dX0_singleRoots_44 rfl rfl (Nat.le_of_ble_eq_true rfl) rfl rfl ?_
      refine ev_iload (pc' := 47) dX0_singleRoots_45 rfl rfl ?_
      refine ev_iconst (pc' := 48) (v := 5) dX0_singleRoots_47 rfl ki_5 ?_
      refine ev_icmp_lt (tgt := 54) (pc' := 51) dX0_singleRoots_48 rfl rfl (fun h => absurd h (by decide)) (fun _ => ?_)
      refine ev_goto (tgt := 74) dX0_singleRoots_51 rfl ?_
      refine ev_iinc (pc' := 77) (v := 2) (lv' := [some (.ref 12), some (.int 1), some (.int 0), some (.int 0), some (.int 2), some (.int 5)]) dX0_singleRoots_74 rfl rfl (by decide) (Nat.le_of_ble_eq_true rfl) rfl rfl ?_
      refine ev_goto (tgt := 24) dX0_singleRoots_77 rfl ?_
      refine ev_iload (pc' := 26) dX0_singleRoots_24 rfl rfl ?_
      refine ev_iconst (pc' := 27) (v := 4) dX0_singleRoots_26 rfl ki_4 ?_
      refine ev_icmp_ge (tgt := 80) (pc' := 30) dX0_singleRoots_27 rfl rfl (fun h => absurd h (by decide)) (fun _ => ?_)
      refine ev_iload_n (pc' := 31) (i := 3) dX0_singleRoots_30 rfl rfl rfl ?_
      refine ev_if_eq (tgt := 80) (pc' := 34) dX0_singleRoots_31 rfl rfl (fun _ => ?_) (fun h => absurd (by decide) h)
      refine ev_iload_n (pc' := 81) (i := 2) dX0_singleRoots_80 rfl rfl rfl ?_
      refine ev_iret dX0_singleRoots_81 rfl rfl ⟨Nat.le_refl _, Nat.le_refl _⟩ ?_
      have e : (if (L 13) 0 = 0 then cS1 (cFig (L 13) ((L 12) 5) ((L 12) 6)) else cS0 (cFig (L 13) ((L 12) 5) ((L 12) 6))) = 0 := by rw [if_pos h18, g45]; decide
      rw [e] at k0
      exact k0 _ _ _ _
    · rw [g45] at hr
      subst hr
      refine ev_istore_n (pc' := 21) (i := 3) (lv' := [some (.ref 12), some (.int 1), some (.int 0), some (.int 112), none, none]) dX0_singleRoots_20 rfl rfl (Nat.le_of_ble_eq_true rfl) rfl rfl ?_
      refine ev_iconst (pc' := 22) (v := 0) dX0_singleRoots_21 rfl ki_0 ?_
      refine ev_istore (pc' := 24) (lv' := [some (.ref 12), some (.int 1), some (.int 0), some (.int 112), some (.int 0), none]) dX0_singleRoots_22 rfl (Nat.le_of_ble_eq_true rfl) rfl rfl ?_
      refine ev_iload (pc' := 26) dX0_singleRoots_24 rfl rfl ?_
      refine ev_iconst (pc' := 27) (v := 4) dX0_singleRoots_26 rfl ki_4 ?_
      refine ev_icmp_ge (tgt := 80) (pc' := 30) dX0_singleRoots_27 rfl rfl (fun h => absurd h (by decide)) (fun _ => ?_)
      refine ev_iload_n (pc' := 31) (i := 3) dX0_singleRoots_30 rfl rfl rfl ?_
      refine ev_if_eq (tgt := 80) (pc' := 34) dX0_singleRoots_31 rfl rfl (fun h => absurd h (by decide)) (fun _ => ?_)
      refine ev_iload_n (pc' := 35) (i := 3) dX0_singleRoots_34 rfl rfl rfl ?_
      refine ev_bipush (pc' := 37) (v := 10) dX0_singleRoots_35 rfl kb_10 ?_
      refine ev_irem (pc' := 38) (v := 2) dX0_singleRoots_37 rfl (by decide) (by decide) ?_
      refine ev_istore (pc' := 40) (lv' := [some (.ref 12), some (.int 1), some (.int 0), some (.int 112), some (.int 0), some (.int 2)]) dX0_singleRoots_38 rfl (Nat.le_of_ble_eq_true rfl) rfl rfl ?_
      refine ev_iload_n (pc' := 41) (i := 3) dX0_singleRoots_40 rfl rfl rfl ?_
      refine ev_bipush (pc' := 43) (v := 10) dX0_singleRoots_41 rfl kb_10 ?_
      refine ev_idiv (pc' := 44) (v := 11) dX0_singleRoots_43 rfl (by decide) (by decide) ?_
      refine ev_istore_n (pc' := 45) (i := 3) (lv' := [some (.ref 12), some (.int 1), some (.int 0), some (.int 11), some (.int 0), some (.int 2)]) dX0_singleRoots_44 rfl rfl (Nat.le_of_ble_eq_true rfl) rfl rfl ?_
      refine ev_iload (pc' := 47) dX0_singleRoots_45 rfl rfl ?_
      refine ev_iconst (pc' := 48) (v := 5) dX0_singleRoots_47 rfl ki_5 ?_
      refine ev_icmp_lt (tgt := 54) (pc' := 51) dX0_singleRoots_48 rfl rfl (fun _ => ?_) (fun h => absurd (by decide) h)
      refine ev_iload_n (pc' := 55) (i := 1) dX0_singleRoots_54 rfl rfl rfl ?_
      refine ev_if_eq (tgt := 63) (pc' := 58) dX0_singleRoots_55 rfl rfl (fun h => absurd h (by decide)) (fun _ => ?_)
      refine ev_iconst (pc' := 59) (v := 0) dX0_singleRoots_58 rfl ki_0 ?_
      refine ev_istore_n (pc' := 60) (i := 1) (lv' := [some (.ref 12), some (.int 0), some (.int 0), some (.int 11), some (.int 0), some (.int 2)]) dX0_singleRoots_59 rfl rfl (Nat.le_of_ble_eq_true rfl) rfl rfl ?_
      refine ev_goto (tgt := 74) dX0_singleRoots_60 rfl ?_
      refine ev_iinc (pc' := 77) (v := 1) (lv' := [some (.ref 12), some (.int 0), some (.int 0), some (.int 11), some (.int 1), some (.int 2)]) dX0_singleRoots_74 rfl rfl (by decide) (Nat.le_of_ble_eq_true rfl) rfl rfl ?_
      refine ev_goto (tgt := 24) dX0_singleRoots_77 rfl ?_
      refine ev_iload (pc' := 26) dX0_singleRoots_24 rfl rfl ?_
      refine ev_iconst (pc' := 27) (v := 4) dX0_singleRoots_26 rfl ki_4 ?_
      refine ev_icmp_ge (tgt := 80) (pc' := 30) dX0_singleRoots_27 rfl rfl (fun h => absurd h (by decide)) (fun _ => ?_)
      refine ev_iload_n (pc' := 31) (i := 3) dX0_singleRoots_30 rfl rfl rfl ?_
      refine ev_if_eq (tgt := 80) (pc' := 34) dX0_singleRoots_31 rfl rfl (fun h => absurd h (by decide)) (fun _ => ?_)
      refine ev_iload_n (pc' := 35) (i := 3) dX0_singleRoots_34 rfl rfl rfl ?_
      refine ev_bipush (pc' := 37) (v := 10) dX0_singleRoots_35 rfl kb_10 ?_
      refine ev_irem (pc' := 38) (v := 1) dX0_singleRoots_37 rfl (by decide) (by decide) ?_
      refine ev_istore (pc' := 40) (lv' := [some (.ref 12), some (.int 0), some (.int 0), some (.int 11), some (.int 1), some (.int 1)]) dX0_singleRoots_38 rfl (Nat.le_of_ble_eq_true rfl) rfl rfl ?_
      refine ev_iload_n (pc' := 41) (i := 3) dX0_singleRoots_40 rfl rfl rfl ?_
      refine ev_bipush (pc' := 43) (v := 10) dX0_singleRoots_41 rfl kb_10 ?_
      refine ev_idiv (pc' := 44) (v := 1) dX0_singleRoots_43 rfl (by decide) (by decide) ?_
      refine ev_istore_n (pc' := 45) (i := 3) (lv' := [some (.ref 12), some (.int 0), some (.int 0), some (.int 1), some (.int 1), some (.int 1)]) dX0_singleRoots_44 rfl rfl (Nat.le_of_ble_eq_true rfl) rfl rfl ?_
      refine ev_iload (pc' := 47) dX0_singleRoots_45 rfl rfl ?_
      refine ev_iconst (pc' := 48) (v := 5) dX0_singleRoots_47 rfl ki_5 ?_
      refine ev_icmp_lt (tgt := 54) (pc' := 51) dX0_singleRoots_48 rfl rfl (fun _ => ?_) (fun h => absurd (by decide) h)
      refine ev_iload_n (pc' := 55) (i := 1) dX0_singleRoots_54 rfl rfl rfl ?_
      refine ev_if_eq (tgt := 63) (pc' := 58) dX0_singleRoots_55 rfl rfl (fun _ => ?_) (fun h => absurd (by decide) h)
      refine ev_iload (pc' := 65) dX0_singleRoots_63 rfl rfl ?_
      refine ev_iconst (pc' := 66) (v := 1) dX0_singleRoots_65 rfl ki_1 ?_
      refine ev_icmp_le (tgt := 71) (pc' := 69) dX0_singleRoots_66 rfl rfl (fun _ => ?_) (fun h => absurd (by decide) h)
      refine ev_iinc (pc' := 74) (v := 1) (lv' := [some (.ref 12), some (.int 0), some (.int 1), some (.int 1), some (.int 1), some (.int 1)]) dX0_singleRoots_71 rfl rfl (by decide) (Nat.le_of_ble_eq_true rfl) rfl rfl ?_
      refine ev_iinc (pc' := 77) (v := 2) (lv' := [some (.ref 12), some (.int 0), some (.int 1), some (.int 1), some (.int 2), some (.int 1)]) dX0_singleRoots_74 rfl rfl (by decide) (Nat.le_of_ble_eq_true rfl) rfl rfl ?_
      refine ev_goto (tgt := 24) dX0_singleRoots_77 rfl ?_
      refine ev_iload (pc' := 26) dX0_singleRoots_24 rfl rfl ?_
      refine ev_iconst (pc' := 27) (v := 4) dX0_singleRoots_26 rfl ki_4 ?_
      refine ev_icmp_ge (tgt := 80) (pc' := 30) dX0_singleRoots_27 rfl rfl (fun h => absurd h (by decide)) (fun _ => ?_)
      refine ev_iload_n (pc' := 31) (i := 3) dX0_singleRoots_30 rfl rfl rfl ?_
      refine ev_if_eq (tgt := 80) (pc' := 34) dX0_singleRoots_31 rfl rfl (fun h => absurd h (by decide)) (fun _ => ?_)
      refine ev_iload_n (pc' := 35) (i := 3) dX0_singleRoots_34 rfl rfl rfl ?_
      refine ev_bipush (pc' := 37) (v := 10) dX0_singleRoots_35 rfl kb_10 ?_
      refine ev_irem (pc' := 38) (v := 1) dX0_singleRoots_37 rfl (by decide) (by decide) ?_
      refine ev_istore (pc' := 40) (lv' := [some (.ref 12), some (.int 0), some (.int 1), some (.int 1), some (.int 2), some (.int 1)]) dX0_singleRoots_38 rfl (Nat.le_of_ble_eq_true rfl) rfl rfl ?_
      refine ev_iload_n (pc' := 41) (i := 3) dX0_singleRoots_40 rfl rfl rfl ?_
      refine ev_bipush (pc' := 43) (v := 10) dX0_singleRoots_41 rfl kb_10 ?_
      refine ev_idiv (pc' := 44) (v := 0) dX0_singleRoots_43 rfl (by decide) (by decide) ?_
      refine ev_istore_n (pc' := 45) (i := 3) (lv' := [some (.ref 12), some (.int 0), some (.int 1), some (.int 0), some (.int 2), some (.int 1)]) dX0_singleRoots_44 rfl rfl (Nat.le_of_ble_eq_true rfl) rfl rfl ?_
      refine ev_iload (pc' := 47) dX0_singleRoots_45 rfl rfl ?_
      refine ev_iconst (pc' := 48) (v := 5) dX0_singleRoots_47 rfl ki_5 ?_
      refine ev_icmp_lt (tgt := 54) (pc' := 51) dX0_singleRoots_48 rfl rfl (fun _ => ?_) (fun h => absurd (by decide) h)
      refine ev_iload_n (pc' := 55) (i := 1) dX0_singleRoots_54 rfl rfl rfl ?_
      refine ev_if_eq (tgt := 63) (pc' := 58) dX0_singleRoots_55 rfl rfl (fun _ => ?_) (fun h => absurd (by decide) h)
      refine ev_iload (pc' := 65) dX0_singleRoots_63 rfl rfl ?_
      refine ev_iconst (pc' := 66) (v := 1) dX0_singleRoots_65 rfl ki_1 ?_
      refine ev_icmp_le (tgt := 71) (pc' := 69) dX0_singleRoots_66 rfl rfl (fun _ => ?_) (fun h => absurd (by decide) h)
      refine ev_iinc (pc' := 74) (v := 2) (lv' := [some (.ref 12), some (.int 0), some (.int 2), some (.int 0), some (.int 2), some (.int 1)]) dX0_singleRoots_71 rfl rfl (by decide) (Nat.le_of_ble_eq_true rfl) rfl rfl ?_
      refine ev_iinc (pc' := 77) (v := 3) (lv' := [some (.ref 12), some (.int 0), some (.int 2), some (.int 0), some (.int 3), some (.int 1)]) dX0_singleRoots_74 rfl rfl (by decide) (Nat.le_of_ble_eq_true rfl) rfl rfl ?_
      refine ev_goto (tgt := 24) dX0_singleRoots_77 rfl ?_
      refine ev_iload (pc' := 26) dX0_singleRoots_24 rfl rfl ?_
      refine ev_iconst (pc' := 27) (v := 4) dX0_singleRoots_26 rfl ki_4 ?_
      refine ev_icmp_ge (tgt := 80) (pc' := 30) dX0_singleRoots_27 rfl rfl (fun h => absurd h (by decide)) (fun _ => ?_)
      refine ev_iload_n (pc' := 31) (i := 3) dX0_singleRoots_30 rfl rfl rfl ?_
      refine ev_if_eq (tgt := 80) (pc' := 34) dX0_singleRoots_31 rfl rfl (fun _ => ?_) (fun h => absurd (by decide) h)
      refine ev_iload_n (pc' := 81) (i := 2) dX0_singleRoots_80 rfl rfl rfl ?_
      refine ev_iret dX0_singleRoots_81 rfl rfl ⟨Nat.le_refl _, Nat.le_refl _⟩ ?_
      have e : (if (L 13) 0 = 0 then cS1 (cFig (L 13) ((L 12) 5) ((L 12) 6)) else cS0 (cFig (L 13) ((L 12) 5) ((L 12) 6))) = 2 := by rw [if_pos h18, g45]; decide
      rw [e] at k0
      exact k0 _ _ _ _
    · rw [g45] at hr
      subst hr
      refine ev_istore_n (pc' := 21) (i := 3) (lv' := [some (.ref 12), some (.int 1), some (.int 0), some (.int 115), none, none]) dX0_singleRoots_20 rfl rfl (Nat.le_of_ble_eq_true rfl) rfl rfl ?_
      refine ev_iconst (pc' := 22) (v := 0) dX0_singleRoots_21 rfl ki_0 ?_
      refine ev_istore (pc' := 24) (lv' := [some (.ref 12), some (.int 1), some (.int 0), some (.int 115), some (.int 0), none]) dX0_singleRoots_22 rfl (Nat.le_of_ble_eq_true rfl) rfl rfl ?_
      refine ev_iload (pc' := 26) dX0_singleRoots_24 rfl rfl ?_
      refine ev_iconst (pc' := 27) (v := 4) dX0_singleRoots_26 rfl ki_4 ?_
      refine ev_icmp_ge (tgt := 80) (pc' := 30) dX0_singleRoots_27 rfl rfl (fun h => absurd h (by decide)) (fun _ => ?_)
      refine ev_iload_n (pc' := 31) (i := 3) dX0_singleRoots_30 rfl rfl rfl ?_
      refine ev_if_eq (tgt := 80) (pc' := 34) dX0_singleRoots_31 rfl rfl (fun h => absurd h (by decide)) (fun _ => ?_)
      refine ev_iload_n (pc' := 35) (i := 3) dX0_singleRoots_34 rfl rfl rfl ?_
      refine ev_bipush (pc' := 37) (v := 10) dX0_singleRoots_35 rfl kb_10 ?_
      refine ev_irem (pc' := 38) (v := 5) dX0_singleRoots_37 rfl (by decide) (by decide) ?_
      refine ev_istore (pc' := 40) (lv' := [some (.ref 12), some (.int 1), some (.int 0), some (.int 115), some (.int 0), some (.int 5)]) dX0_singleRoots_38 rfl (Nat.le_of_ble_eq_true rfl) rfl rfl ?_
      refine ev_iload_n (pc' := 41) (i := 3) dX0_singleRoots_40 rfl rfl rfl ?_
      refine ev_bipush (pc' := 43) (v := 10) dX0_singleRoots_41 rfl kb_10 ?_
      refine ev_idiv (pc' := 44) (v := 11) dX0_singleRoots_43 rfl (by decide) (by decide) ?_
      refine ev_istore_n (pc' := 45) (i := 3) (lv' := [some (.ref 12), some (.int 1), some (.int 0), some (.int 11), some (.int 0), some (.int 5)]) dX0_singleRoots_44 rfl rfl (Nat.le_of_ble_eq_true rfl) rfl rfl ?_
      refine ev_iload (pc' := 47) dX0_singleRoots_45 rfl rfl ?_
      refine ev_iconst (pc' := 48) (v := 5) dX0_singleRoots_47 rfl ki_5 ?_
      refine ev_icmp_lt (tgt := 54) (pc' := 51) dX0_singleRoots_48 rfl rfl (fun h => absurd h (by decide)) (fun _ => ?_)
      refine ev_goto (tgt := 74) dX0_singleRoots_51 rfl ?_
      refine ev_iinc (pc' := 77) (v := 1) (lv' := [some (.ref 12), some (.int 1), some (.int 0), some (.int 11), some (.int 1), some (.int 5)]) dX0_singleRoots_74 rfl rfl (by decide) (Nat.le_of_ble_eq_true rfl) rfl rfl ?_
      refine ev_goto (tgt := 24) dX0_singleRoots_77 rfl ?_
      refine ev_iload (pc' := 26) dX0_singleRoots_24 rfl rfl ?_
      refine ev_iconst (pc' := 27) (v := 4) dX0_singleRoots_26 rfl ki_4 ?_
      refine ev_icmp_ge (tgt := 80) (pc' := 30) dX0_singleRoots_27 rfl rfl (fun h => absurd h (by decide)) (fun _ => ?_)
      refine ev_iload_n (pc' := 31) (i := 3) dX0_singleRoots_30 rfl rfl rfl ?_
      refine ev_if_eq (tgt := 80) (pc' := 34) dX0_singleRoots_31 rfl rfl (fun h => absurd h (by decide)) (fun _ => ?_)
      refine ev_iload_n (pc' := 35) (i := 3) dX0_singleRoots_34 rfl rfl rfl ?_
      refine ev_bipush (pc' := 37) (v := 10) dX0_singleRoots_35 rfl kb_10 ?_
      refine ev_irem (pc' := 38) (v := 1) dX0_singleRoots_37 rfl (by decide) (by decide) ?_
      refine ev_istore (pc' := 40) (lv' := [some (.ref 12), some (.int 1), some (.int 0), some (.int 11), some (.int 1), some (.int 1)]) dX0_singleRoots_38 rfl (Nat.le_of_ble_eq_true rfl) rfl rfl ?_
      refine ev_iload_n (pc' := 41) (i := 3) dX0_singleRoots_40 rfl rfl rfl ?_
      refine ev_bipush (pc' := 43) (v := 10) dX0_singleRoots_41 rfl kb_10 ?_
      refine ev_idiv (pc' := 44) (v := 1) dX0_singleRoots_43 rfl (by decide) (by decide) ?_
      refine ev_istore_n (pc' := 45) (i := 3) (lv' := [some (.ref 12), some (.int 1), some (.int 0), some (.int 1), some (.int 1), some (.int 1)]) dX0_singleRoots_44 rfl rfl (Nat.le_of_ble_eq_true rfl) rfl rfl ?_
      refine ev_iload (pc' := 47) dX0_singleRoots_45 rfl rfl ?_
      refine ev_iconst (pc' := 48) (v := 5) dX0_singleRoots_47 rfl ki_5 ?_
      refine ev_icmp_lt (tgt := 54) (pc' := 51) dX0_singleRoots_48 rfl rfl (fun _ => ?_) (fun h => absurd (by decide) h)
      refine ev_iload_n (pc' := 55) (i := 1) dX0_singleRoots_54 rfl rfl rfl ?_
      refine ev_if_eq (tgt := 63) (pc' := 58) dX0_singleRoots_55 rfl rfl (fun h => absurd h (by decide)) (fun _ => ?_)
      refine ev_iconst (pc' := 59) (v := 0) dX0_singleRoots_58 rfl ki_0 ?_
      refine ev_istore_n (pc' := 60) (i := 1) (lv' := [some (.ref 12), some (.int 0), some (.int 0), some (.int 1), some (.int 1), some (.int 1)]) dX0_singleRoots_59 rfl rfl (Nat.le_of_ble_eq_true rfl) rfl rfl ?_
      refine ev_goto (tgt := 74) dX0_singleRoots_60 rfl ?_
      refine ev_iinc (pc' := 77) (v := 2) (lv' := [some (.ref 12), some (.int 0), some (.int 0), some (.int 1), some (.int 2), some (.int 1)]) dX0_singleRoots_74 rfl rfl (by decide) (Nat.le_of_ble_eq_true rfl) rfl rfl ?_
      refine ev_goto (tgt := 24) dX0_singleRoots_77 rfl ?_
      refine ev_iload (pc' := 26) dX0_singleRoots_24 rfl rfl ?_
      refine ev_iconst (pc' := 27) (v := 4) dX0_singleRoots_26 rfl ki_4 ?_
      refine ev_icmp_ge (tgt := 80) (pc' := 30) dX0_singleRoots_27 rfl rfl (fun h => absurd h (by decide)) (fun _ => ?_)
      refine ev_iload_n (pc' := 31) (i := 3) dX0_singleRoots_30 rfl rfl rfl ?_
      refine ev_if_eq (tgt := 80) (pc' := 34) dX0_singleRoots_31 rfl rfl (fun h => absurd h (by decide)) (fun _ => ?_)
      refine ev_iload_n (pc' := 35) (i := 3) dX0_singleRoots_34 rfl rfl rfl ?_
      refine ev_bipush (pc' := 37) (v := 10) dX0_singleRoots_35 rfl kb_10 ?_
      refine ev_irem (pc' := 38) (v := 1) dX0_singleRoots_37 rfl (by decide) (by decide) ?_
      refine ev_istore (pc' := 40) (lv' := [some (.ref 12), some (.int 0), some (.int 0), some (.int 1), some (.int 2), some (.int 1)]) dX0_singleRoots_38 rfl (Nat.le_of_ble_eq_true rfl) rfl rfl ?_
      refine ev_iload_n (pc' := 41) (i := 3) dX0_singleRoots_40 rfl rfl rfl ?_
      refine ev_bipush (pc' := 43) (v := 10) dX0_singleRoots_41 rfl kb_10 ?_
      refine ev_idiv (pc' := 44) (v := 0) dX0_singleRoots_43 rfl (by decide) (by decide) ?_
      refine ev_istore_n (pc' := 45) (i := 3) (lv' := [some (.ref 12), some (.int 0), some (.int 0), some (.int 0), some (.int 2), some (.int 1)]) dX0_singleRoots_44 rfl rfl (Nat.le_of_ble_eq_true rfl) rfl rfl ?_
      refine ev_iload (pc' := 47) dX0_singleRoots_45 rfl rfl ?_
      refine ev_iconst (pc' := 48) (v := 5) dX0_singleRoots_47 rfl ki_5 ?_
      refine ev_icmp_lt (tgt := 54) (pc' := 51) dX0_singleRoots_48 rfl rfl (fun _ => ?_) (fun h => absurd (by decide) h)
      refine ev_iload_n (pc' := 55) (i := 1) dX0_singleRoots_54 rfl rfl rfl ?_
      refine ev_if_eq (tgt := 63) (pc' := 58) dX0_singleRoots_55 rfl rfl (fun _ => ?_) (fun h => absurd (by decide) h)
      refine ev_iload (pc' := 65) dX0_singleRoots_63 rfl rfl ?_
      refine ev_iconst (pc' := 66) (v := 1) dX0_singleRoots_65 rfl ki_1 ?_
      refine ev_icmp_le (tgt := 71) (pc' := 69) dX0_singleRoots_66 rfl rfl (fun _ => ?_) (fun h => absurd (by decide) h)
      refine ev_iinc (pc' := 74) (v := 1) (lv' := [some (.ref 12), some (.int 0), some (.int 1), some (.int 0), some (.int 2), some (.int 1)]) dX0_singleRoots_71 rfl rfl (by decide) (Nat.le_of_ble_eq_true rfl) rfl rfl ?_
      refine ev_iinc (pc' := 77) (v := 3) (lv' := [some (.ref 12), some (.int 0), some (.int 1), some (.int 0), some (.int 3), some (.int 1)]) dX0_singleRoots_74 rfl rfl (by decide) (Nat.le_of_ble_eq_true rfl) rfl rfl ?_
      refine ev_goto (tgt := 24) dX0_singleRoots_77 rfl ?_
      refine ev_iload (pc' := 26) dX0_singleRoots_24 rfl rfl ?_
      refine ev_iconst (pc' := 27) (v := 4) dX0_singleRoots_26 rfl ki_4 ?_
      refine ev_icmp_ge (tgt := 80) (pc' := 30) dX0_singleRoots_27 rfl rfl (fun h => absurd h (by decide)) (fun _ => ?_)
      refine ev_iload_n (pc' := 31) (i := 3) dX0_singleRoots_30 rfl rfl rfl ?_
      refine ev_if_eq (tgt := 80) (pc' := 34) dX0_singleRoots_31 rfl rfl (fun _ => ?_) (fun h => absurd (by decide) h)
      refine ev_iload_n (pc' := 81) (i := 2) dX0_singleRoots_80 rfl rfl rfl ?_
      refine ev_iret dX0_singleRoots_81 rfl rfl ⟨Nat.le_refl _, Nat.le_refl _⟩ ?_
      have e : (if (L 13) 0 = 0 then cS1 (cFig (L 13) ((L 12) 5) ((L 12) 6)) else cS0 (cFig (L 13) ((L 12) 5) ((L 12) 6))) = 1 := by rw [if_pos h18, g45]; decide
      rw [e] at k0
      exact k0 _ _ _ _
    · rw [g45] at hr
      subst hr
      refine ev_istore_n (pc' := 21) (i := 3) (lv' := [some (.ref 12), some (.int 1), some (.int 0), some (.int 121), none, none]) dX0_singleRoots_20 rfl rfl (Nat.le_of_ble_eq_true rfl) rfl rfl ?_
      refine ev_iconst (pc' := 22) (v := 0) dX0_singleRoots_21 rfl ki_0 ?_
      refine ev_istore (pc' := 24) (lv' := [some (.ref 12), some (.int 1), some (.int 0), some (.int 121), some (.int 0), none]) dX0_singleRoots_22 rfl (Nat.le_of_ble_eq_true rfl) rfl rfl ?_
      refine ev_iload (pc' := 26) dX0_singleRoots_24 rfl rfl ?_
      refine ev_iconst (pc' := 27) (v := 4) dX0_singleRoots_26 rfl ki_4 ?_
      refine ev_icmp_ge (tgt := 80) (pc' := 30) dX0_singleRoots_27 rfl rfl (fun h => absurd h (by decide)) (fun _ => ?_)
      refine ev_iload_n (pc' := 31) (i := 3) dX0_singleRoots_30 rfl rfl rfl ?_
      refine ev_if_eq (tgt := 80) (pc' := 34) dX0_singleRoots_31 rfl rfl (fun h => absurd h (by decide)) (fun _ => ?_)
      refine ev_iload_n (pc' := 35) (i := 3) dX0_singleRoots_34 rfl rfl rfl ?_
      refine ev_bipush (pc' := 37) (v := 10) dX0_singleRoots_35 rfl kb_10 ?_
      refine ev_irem (pc' := 38) (v := 1) dX0_singleRoots_37 rfl (by decide) (by decide) ?_
      refine ev_istore (pc' := 40) (lv' := [some (.ref 12), some (.int 1), some (.int 0), some (.int 121), some (.int 0), some (.int 1)]) dX0_singleRoots_38 rfl (Nat.le_of_ble_eq_true rfl) rfl rfl ?_
      refine ev_iload_n (pc' := 41) (i := 3) dX0_singleRoots_40 rfl rfl rfl ?_
      refine ev_bipush (pc' := 43) (v := 10) dX0_singleRoots_41 rfl kb_10 ?_
      refine ev_idiv (pc' := 44) (v := 12) dX0_singleRoots_43 rfl (by decide) (by decide) ?_
      refine ev_istore_n (pc' := 45) (i := 3) (lv' := [some (.ref 12), some (.int 1), some (.int 0), some (.int 12), some (.int 0), some (.int 1)]) dX0_singleRoots_44 rfl rfl (Nat.le_of_ble_eq_true rfl) rfl rfl ?_
      refine ev_iload (pc' := 47) dX0_singleRoots_45 rfl rfl ?_
      refine ev_iconst (pc' := 48) (v := 5) dX0_singleRoots_47 rfl ki_5 ?_
      refine ev_icmp_lt (tgt := 54) (pc' := 51) dX0_singleRoots_48 rfl rfl (fun _ => ?_) (fun h => absurd (by decide) h)
      refine ev_iload_n (pc' := 55) (i := 1) dX0_singleRoots_54 rfl rfl rfl ?_
      refine ev_if_eq (tgt := 63) (pc' := 58) dX0_singleRoots_55 rfl rfl (fun h => absurd h (by decide)) (fun _ => ?_)
      refine ev_iconst (pc' := 59) (v := 0) dX0_singleRoots_58 rfl ki_0 ?_
      refine ev_istore_n (pc' := 60) (i := 1) (lv' := [some (.ref 12), some (.int 0), some (.int 0), some (.int 12), some (.int 0), some (.int 1)]) dX0_singleRoots_59 rfl rfl (Nat.le_of_ble_eq_true rfl) rfl rfl ?_
      refine ev_goto (tgt := 74) dX0_singleRoots_60 rfl ?_
      refine ev_iinc (pc' := 77) (v := 1) (lv' := [some (.ref 12), some (.int 0), some (.int 0), some (.int 12), some (.int 1), some (.int 1)]) dX0_singleRoots_74 rfl rfl (by decide) (Nat.le_of_ble_eq_true rfl) rfl rfl ?_
      refine ev_goto (tgt := 24) dX0_singleRoots_77 rfl ?_
      refine ev_iload (pc' := 26) dX0_singleRoots_24 rfl rfl ?_
      refine ev_iconst (pc' := 27) (v := 4) dX0_singleRoots_26 rfl ki_4 ?_
      refine ev_icmp_ge (tgt := 80) (pc' := 30) dX0_singleRoots_27 rfl rfl (fun h => absurd h (by decide)) (fun _ => ?_)
      refine ev_iload_n (pc' := 31) (i := 3) dX0_singleRoots_30 rfl rfl rfl ?_
      refine ev_if_eq (tgt := 80) (pc' := 34) dX0_singleRoots_31 rfl rfl (fun h => absurd h (by decide)) (fun _ => ?_)
      refine ev_iload_n (pc' := 35) (i := 3) dX0_singleRoots_34 rfl rfl rfl ?_
      refine ev_bipush (pc' := 37) (v := 10) dX0_singleRoots_35 rfl kb_10 ?_
      refine ev_irem (pc' := 38) (v := 2) dX0_singleRoots_37 rfl (by decide) (by decide) ?_
      refine ev_istore (pc' := 40) (lv' := [some (.ref 12), some (.int 0), some (.int 0), some (.int 12), some (.int 1), some (.int 2)]) dX0_singleRoots_38 rfl (Nat.le_of_ble_eq_true rfl) rfl rfl ?_
      refine ev_iload_n (pc' := 41) (i := 3) dX0_singleRoots_40 rfl rfl rfl ?_
      refine ev_bipush (pc' := 43) (v := 10) dX0_singleRoots_41 rfl kb_10 ?_
      refine ev_idiv (pc' := 44) (v := 1) dX0_singleRoots_43 rfl (by decide) (by decide) ?_
      refine ev_istore_n (pc' := 45) (i := 3) (lv' := [some (.ref 12), some (.int 0), some (.int 0), some (.int 1), some (.int 1), some (.int 2)]) dX0_singleRoots_44 rfl rfl (Nat.le_of_ble_eq_true rfl) rfl rfl ?_
      refine ev_iload (pc' := 47) dX0_singleRoots_45 rfl rfl ?_
      refine ev_iconst (pc' := 48) (v := 5) dX0_singleRoots_47 rfl ki_5 ?_
      refine ev_icmp_lt (tgt := 54) (pc' := 51) dX0_singleRoots_48 rfl rfl (fun _ => ?_) (fun h => absurd (by decide) h)
      refine ev_iload_n (pc' := 55) (i := 1) dX0_singleRoots_54 rfl rfl rfl ?_
      refine ev_if_eq (tgt := 63) (pc' := 58) dX0_singleRoots_55 rfl rfl (fun _ => ?_) (fun h => absurd (by decide) h)
      refine ev_iload (pc' := 65) dX0_singleRoots_63 rfl rfl ?_
      refine ev_iconst (pc' := 66) (v := 1) dX0_singleRoots_65 rfl ki_1 ?_
      refine ev_icmp_le (tgt := 71) (pc' := 69) dX0_singleRoots_66 rfl rfl (fun h => absurd h (by decide)) (fun _ => ?_)
      refine ev_iconst (pc' := 70) (v := (-1)) dX0_singleRoots_69 rfl ki_m1 ?_
      refine ev_iret dX0_singleRoots_70 rfl rfl ⟨Nat.le_refl _, Nat.le_refl _⟩ ?_
      have e : (if (L 13) 0 = 0 then cS1 (cFig (L 13) ((L 12) 5) ((L 12) 6)) else cS0 (cFig (L 13) ((L 12) 5) ((L 12) 6))) = (-1) := by rw [if_pos h18, g45]; decide
      rw [e] at k0
      exact k0 _ _ _ _
    · rw [g45] at hr
      subst hr
      refine ev_istore_n (pc' := 21) (i := 3) (lv' := [some (.ref 12), some (.int 1), some (.int 0), some (.int 211), none, none]) dX0_singleRoots_20 rfl rfl (Nat.le_of_ble_eq_true rfl) rfl rfl ?_
      refine ev_iconst (pc' := 22) (v := 0) dX0_singleRoots_21 rfl ki_0 ?_
      refine ev_istore (pc' := 24) (lv' := [some (.ref 12), some (.int 1), some (.int 0), some (.int 211), some (.int 0), none]) dX0_singleRoots_22 rfl (Nat.le_of_ble_eq_true rfl) rfl rfl ?_
      refine ev_iload (pc' := 26) dX0_singleRoots_24 rfl rfl ?_
      refine ev_iconst (pc' := 27) (v := 4) dX0_singleRoots_26 rfl ki_4 ?_
      refine ev_icmp_ge (tgt := 80) (pc' := 30) dX0_singleRoots_27 rfl rfl (fun h => absurd h (by decide)) (fun _ => ?_)
      refine ev_iload_n (pc' := 31) (i := 3) dX0_singleRoots_30 rfl rfl rfl ?_
      refine ev_if_eq (tgt := 80) (pc' := 34) dX0_singleRoots_31 rfl rfl (fun h => absurd h (by decide)) (fun _ => ?_)
      refine ev_iload_n (pc' := 35) (i := 3) dX0_singleRoots_34 rfl rfl rfl ?_
      refine ev_bipush (pc' := 37) (v := 10) dX0_singleRoots_35 rfl kb_10 ?_
      refine ev_irem (pc' := 38) (v := 1) dX0_singleRoots_37 rfl (by decide) (by decide) ?_
      refine ev_istore (pc' := 40) (lv' := [some (.ref 12), some (.int 1), some (.int 0), some (.int 211), some (.int 0), some (.int 1)]) dX0_singleRoots_38 rfl (Nat.le_of_ble_eq_true rfl) rfl rfl ?_
      refine ev_iload_n (pc' := 41) (i := 3) dX0_singleRoots_40 rfl rfl rfl ?_
      refine ev_bipush (pc' := 43) (v := 10) dX0_singleRoots_41 rfl kb_10 ?_
      refine ev_idiv (pc' := 44) (v := 21) dX0_singleRoots_43 rfl (by decide) (by decide) ?_
      refine ev_istore_n (pc' := 45) (i := 3) (lv' := [some (.ref 12), some (.int 1), some (.int 0), some (.int 21), some (.int 0), some (.int 1)]) dX0_singleRoots_44 rfl rfl (Nat.le_of_ble_eq_true rfl) rfl rfl ?_
      refine ev_iload (pc' := 47) dX0_singleRoots_45 rfl rfl ?_
      refine ev_iconst (pc' := 48) (v := 5) dX0_singleRoots_47 rfl ki_5 ?_
      refine ev_icmp_lt (tgt := 54) (pc' := 51) dX0_singleRoots_48 rfl rfl (fun _ => ?_) (fun h => absurd (by decide) h)
      refine ev_iload_n (pc' := 55) (i := 1) dX0_singleRoots_54 rfl rfl rfl ?_
      refine ev_if_eq (tgt := 63) (pc' := 58) dX0_singleRoots_55 rfl rfl (fun h => absurd h (by decide)) (fun _ => ?_)
      refine ev_iconst (pc' := 59) (v := 0) dX0_singleRoots_58 rfl ki_0 ?_
      refine ev_istore_n (pc' := 60) (i := 1) (lv' := [some (.ref 12), some (.int 0), some (.int 0), some (.int 21), some (.int 0), some (.int 1)]) dX0_singleRoots_59 rfl rfl (Nat.le_of_ble_eq_true rfl) rfl rfl ?_
      refine ev_goto (tgt := 74) dX0_singleRoots_60 rfl ?_
      refine ev_iinc (pc' := 77) (v := 1) (lv' := [some (.ref 12), some (.int 0), some (.int 0), some (.int 21), some (.int 1), some (.int 1)]) dX0_singleRoots_74 rfl rfl (by decide) (Nat.le_of_ble_eq_true rfl) rfl rfl ?_
      refine ev_goto (tgt := 24) dX0_singleRoots_77 rfl ?_
      refine ev_iload (pc' := 26) dX0_singleRoots_24 rfl rfl ?_
      refine ev_iconst (pc' := 27) (v := 4) dX0_singleRoots_26 rfl ki_4 ?_
      refine ev_icmp_ge (tgt := 80) (pc' := 30) dX0_singleRoots_27 rfl rfl (fun h => absurd h (by decide)) (fun _ => ?_)
      refine ev_iload_n (pc' := 31) (i := 3) dX0_singleRoots_30 rfl rfl rfl ?_
      refine ev_if_eq (tgt := 80) (pc' := 34) dX0_singleRoots_31 rfl rfl (fun h => absurd h (by decide)) (fun _ => ?_)
      refine ev_iload_n (pc' := 35) (i := 3) dX0_singleRoots_34 rfl rfl rfl ?_
      refine ev_bipush (pc' := 37) (v := 10) dX0_singleRoots_35 rfl kb_10 ?_
      refine ev_irem (pc' := 38) (v := 1) dX0_singleRoots_37 rfl (by decide) (by decide) ?_
      refine ev_istore (pc' := 40) (lv' := [some (.ref 12), some (.int 0), some (.int 0), some (.int 21), some (.int 1), some (.int 1)]) dX0_singleRoots_38 rfl (Nat.le_of_ble_eq_true rfl) rfl rfl ?_
      refine ev_iload_n (pc' := 41) (i := 3) dX0_singleRoots_40 rfl rfl rfl ?_
      refine ev_bipush (pc' := 43) (v := 10) dX0_singleRoots_41 rfl kb_10 ?_
      refine ev_idiv (pc' := 44) (v := 2) dX0_singleRoots_43 rfl (by decide) (by decide) ?_
      refine ev_istore_n (pc' := 45) (i := 3) (lv' := [some (.ref 12), some (.int 0), some (.int 0), some (.int 2), some (.int 1), some (.int 1)]) dX0_singleRoots_44 rfl rfl (Nat.le_of_ble_eq_true rfl) rfl rfl ?_
      refine ev_iload (pc' := 47) dX0_singleRoots_45 rfl rfl ?_
      refine ev_iconst (pc' := 48) (v := 5) dX0_singleRoots_47 rfl ki_5 ?_
      refine ev_icmp_lt (tgt := 54) (pc' := 51) dX0_singleRoots_48 rfl rfl (fun _ => ?_) (fun h => absurd (by decide) h)
      refine ev_iload_n (pc' := 55) (i := 1) dX0_singleRoots_54 rfl rfl rfl ?_
      refine ev_if_eq (tgt := 63) (pc' := 58) dX0_singleRoots_55 rfl rfl (fun _ => ?_) (fun h => absurd (by decide) h)
      refine ev_iload (pc' := 65) dX0_singleRoots_63 rfl rfl ?_
      refine ev_iconst (pc' := 66) (v := 1) dX0_singleRoots_65 rfl ki_1 ?_
      refine ev_icmp_le (tgt := 71) (pc' := 69) dX0_singleRoots_66 rfl rfl (fun _ => ?_) (fun h => absurd (by decide) h)
      refine ev_iinc (pc' := 74) (v := 1) (lv' := [some (.ref 12), some (.int 0), some (.int 1), some (.int 2), some (.int 1), some (.int 1)]) dX0_singleRoots_71 rfl rfl (by decide) (Nat.le_of_ble_eq_true rfl) rfl rfl ?_
      refine ev_iinc (pc' := 77) (v := 2) (lv' := [some (.ref 12), some (.int 0), some (.int 1), some (.int 2), some (.int 2), some (.int 1)]) dX0_singleRoots_74 rfl rfl (by decide) (Nat.le_of_ble_eq_true rfl) rfl rfl ?_
      refine ev_goto (tgt := 24) dX0_singleRoots_77 rfl ?_
      refine ev_iload (pc' := 26) dX0_singleRoots_24 rfl rfl ?_
      refine ev_iconst (pc' := 27) (v := 4) dX0_singleRoots_26 rfl ki_4 ?_
      refine ev_icmp_ge (tgt := 80) (pc' := 30) dX0_singleRoots_27 rfl rfl (fun h => absurd h (by decide)) (fun _ => ?_)
      refine ev_iload_n (pc' := 31) (i := 3) dX0_singleRoots_30 rfl rfl rfl ?_
      refine ev_if_eq (tgt := 80) (pc' := 34) dX0_singleRoots_31 rfl rfl (fun h => absurd h (by decide)) (fun _ => ?_)
      refine ev_iload_n (pc' := 35) (i := 3) dX0_singleRoots_34 rfl rfl rfl ?_
      refine ev_bipush (pc' := 37) (v := 10) dX0_singleRoots_35 rfl kb_10 ?_
      refine ev_irem (pc' := 38) (v := 2) dX0_singleRoots_37 rfl (by decide) (by decide) ?_
      refine ev_istore (pc' := 40) (lv' := [some (.ref 12), some (.int 0), some (.int 1), some (.int 2), some (.int 2), some (.int 2)]) dX0_singleRoots_38 rfl (Nat.le_of_ble_eq_true rfl) rfl rfl ?_
      refine ev_iload_n (pc' := 41) (i := 3) dX0_singleRoots_40 rfl rfl rfl ?_
      refine ev_bipush (pc' := 43) (v := 10) dX0_singleRoots_41 rfl kb_10 ?_
      refine ev_idiv (pc' := 44) (v := 0) dX0_singleRoots_43 rfl (by decide) (by decide) ?_
      refine ev_istore_n (pc' := 45) (i := 3) (lv' := [some (.ref 12), some (.int 0), some (.int 1), some (.int 0), some (.int 2), some (.int 2)]) dX0_singleRoots_44 rfl rfl (Nat.le_of_ble_eq_true rfl) rfl rfl ?_
      refine ev_iload (pc' := 47) dX0_singleRoots_45 rfl rfl ?_
      refine ev_iconst (pc' := 48) (v := 5) dX0_singleRoots_47 rfl ki_5 ?_
      refine ev_icmp_lt (tgt := 54) (pc' := 51) dX0_singleRoots_48 rfl rfl (fun _ => ?_) (fun h => absurd (by decide) h)
      refine ev_iload_n (pc' := 55) (i := 1) dX0_singleRoots_54 rfl rfl rfl ?_
      refine ev_if_eq (tgt := 63) (pc' := 58) dX0_singleRoots_55 rfl rfl (fun _ => ?_) (fun h => absurd (by decide) h)
      refine ev_iload (pc' := 65) dX0_singleRoots_63 rfl rfl ?_
      refine ev_iconst (pc' := 66) (v := 1) dX0_singleRoots_65 rfl ki_1 ?_
      refine ev_icmp_le (tgt := 71) (pc' := 69) dX0_singleRoots_66 rfl rfl (fun h => absurd h (by decide)) (fun _ => ?_)
      refine ev_iconst (pc' := 70) (v := (-1)) dX0_singleRoots_69 rfl ki_m1 ?_
      refine ev_iret dX0_singleRoots_70 rfl rfl ⟨Nat.le_refl _, Nat.le_refl _⟩ ?_
      have e : (if (L 13) 0 = 0 then cS1 (cFig (L 13) ((L 12) 5) ((L 12) 6)) else cS0 (cFig (L 13) ((L 12) 5) ((L 12) 6))) = (-1) := by rw [if_pos h18, g45]; decide
      rw [e] at k0
      exact k0 _ _ _ _
    · rw [g45] at hr
      subst hr
      refine ev_istore_n (pc' := 21) (i := 3) (lv' := [some (.ref 12), some (.int 1), some (.int 0), some (.int 1111), none, none]) dX0_singleRoots_20 rfl rfl (Nat.le_of_ble_eq_true rfl) rfl rfl ?_
      refine ev_iconst (pc' := 22) (v := 0) dX0_singleRoots_21 rfl ki_0 ?_
      refine ev_istore (pc' := 24) (lv' := [some (.ref 12), some (.int 1), some (.int 0), some (.int 1111), some (.int 0), none]) dX0_singleRoots_22 rfl (Nat.le_of_ble_eq_true rfl) rfl rfl ?_
      refine ev_iload (pc' := 26) dX0_singleRoots_24 rfl rfl ?_
      refine ev_iconst (pc' := 27) (v := 4) dX0_singleRoots_26 rfl ki_4 ?_
      refine ev_icmp_ge (tgt := 80) (pc' := 30) dX0_singleRoots_27 rfl rfl (fun h => absurd h (by decide)) (fun _ => ?_)
      refine ev_iload_n (pc' := 31) (i := 3) dX0_singleRoots_30 rfl rfl rfl ?_
      refine ev_if_eq (tgt := 80) (pc' := 34) dX0_singleRoots_31 rfl rfl (fun h => absurd h (by decide)) (fun _ => ?_)
      refine ev_iload_n (pc' := 35) (i := 3) dX0_singleRoots_34 rfl rfl rfl ?_
      refine ev_bipush (pc' := 37) (v := 10) dX0_singleRoots_35 rfl kb_10 ?_
      refine ev_irem (pc' := 38) (v := 1) dX0_singleRoots_37 rfl (by decide) (by decide) ?_
      refine ev_istore (pc' := 40) (lv' := [some (.ref 12), some (.int 1), some (.int 0), some (.int 1111), some (.int 0), some (.int 1)]) dX0_singleRoots_38 rfl (Nat.le_of_ble_eq_true rfl) rfl rfl ?_
      refine ev_iload_n (pc' := 41) (i := 3) dX0_singleRoots_40 rfl rfl rfl ?_
      refine ev_bipush (pc' := 43) (v := 10) dX0_singleRoots_41 rfl kb_10 ?_
      refine ev_idiv (pc' := 44) (v := 111) dX0_singleRoots_43 rfl (by decide) (by decide) ?_
      refine ev_istore_n (pc' := 45) (i := 3) (lv' := [some (.ref 12), some (.int 1), some (.int 0), some (.int 111), some (.int 0), some (.int 1)]) dX0_singleRoots_44 rfl rfl (Nat.le_of_ble_eq_true rfl) rfl rfl ?_
      refine ev_iload (pc' := 47) dX0_singleRoots_45 rfl rfl ?_
      refine ev_iconst (pc' := 48) (v := 5) dX0_singleRoots_47 rfl ki_5 ?_
      refine ev_icmp_lt (tgt := 54) (pc' := 51) dX0_singleRoots_48 rfl rfl (fun _ => ?_) (fun h => absurd (by decide) h)
      refine ev_iload_n (pc' := 55) (i := 1) dX0_singleRoots_54 rfl rfl rfl ?_
      refine ev_if_eq (tgt := 63) (pc' := 58) dX0_singleRoots_55 rfl rfl (fun h => absurd h (by decide)) (fun _ => ?_)
      refine ev_iconst (pc' := 59) (v := 0) dX0_singleRoots_58 rfl ki_0 ?_
      refine ev_istore_n (pc' := 60) (i := 1) (lv' := [some (.ref 12), some (.int 0), some (.int 0), some (.int 111), some (.int 0), some (.int 1)]) dX0_singleRoots_59 rfl rfl (Nat.le_of_ble_eq_true rfl) rfl rfl ?_
      refine ev_goto (tgt := 74) dX0_singleRoots_60 rfl ?_
      refine ev_iinc (pc' := 77) (v := 1) (lv' := [some (.ref 12), some (.int 0), some (.int 0), some (.int 111), some (.int 1), some (.int 1)]) dX0_singleRoots_74 rfl rfl (by decide) (Nat.le_of_ble_eq_true rfl) rfl rfl ?_
      refine ev_goto (tgt := 24) dX0_singleRoots_77 rfl ?_
      refine ev_iload (pc' := 26) dX0_singleRoots_24 rfl rfl ?_
      refine ev_iconst (pc' := 27) (v := 4) dX0_singleRoots_26 rfl ki_4 ?_
      refine ev_icmp_ge (tgt := 80) (pc' := 30) dX0_singleRoots_27 rfl rfl (fun h => absurd h (by decide)) (fun _ => ?_)
      refine ev_iload_n (pc' := 31) (i := 3) dX0_singleRoots_30 rfl rfl rfl ?_
      refine ev_if_eq (tgt := 80) (pc' := 34) dX0_singleRoots_31 rfl rfl (fun h => absurd h (by decide)) (fun _ => ?_)
      refine ev_iload_n (pc' := 35) (i := 3) dX0_singleRoots_34 rfl rfl rfl ?_
      refine ev_bipush (pc' := 37) (v := 10) dX0_singleRoots_35 rfl kb_10 ?_
      refine ev_irem (pc' := 38) (v := 1) dX0_singleRoots_37 rfl (by decide) (by decide) ?_
      refine ev_istore (pc' := 40) (lv' := [some (.ref 12), some (.int 0), some (.int 0), some (.int 111), some (.int 1), some (.int 1)]) dX0_singleRoots_38 rfl (Nat.le_of_ble_eq_true rfl) rfl rfl ?_
      refine ev_iload_n (pc' := 41) (i := 3) dX0_singleRoots_40 rfl rfl rfl ?_
      refine ev_bipush (pc' := 43) (v := 10) dX0_singleRoots_41 rfl kb_10 ?_
      refine ev_idiv (pc' := 44) (v := 11) dX0_singleRoots_43 rfl (by decide) (by decide) ?_
      refine ev_istore_n (pc' := 45) (i := 3) (lv' := [some (.ref 12), some (.int 0), some (.int 0), some (.int 11), some (.int 1), some (.int 1)]) dX0_singleRoots_44 rfl rfl (Nat.le_of_ble_eq_true rfl) rfl rfl ?_
      refine ev_iload (pc' := 47) dX0_singleRoots_45 rfl rfl ?_
      refine ev_iconst (pc' := 48) (v := 5) dX0_singleRoots_47 rfl ki_5 ?_
      refine ev_icmp_lt (tgt := 54) (pc' := 51) dX0_singleRoots_48 rfl rfl (fun _ => ?_) (fun h => absurd (by decide) h)
      refine ev_iload_n (pc' := 55) (i := 1) dX0_singleRoots_54 rfl rfl rfl ?_
      refine ev_if_eq (tgt := 63) (pc' := 58) dX0_singleRoots_55 rfl rfl (fun _ => ?_) (fun h => absurd (by decide) h)
      refine ev_iload (pc' := 65) dX0_singleRoots_63 rfl rfl ?_
      refine ev_iconst (pc' := 66) (v := 1) dX0_singleRoots_65 rfl ki_1 ?_
      refine ev_icmp_le (tgt := 71) (pc' := 69) dX0_singleRoots_66 rfl rfl (fun _ => ?_) (fun h => absurd (by decide) h)
      refine ev_iinc (pc' := 74) (v := 1) (lv' := [some (.ref 12), some (.int 0), some (.int 1), some (.int 11), some (.int 1), some (.int 1)]) dX0_singleRoots_71 rfl rfl (by decide) (Nat.le_of_ble_eq_true rfl) rfl rfl ?_
      refine ev_iinc (pc' := 77) (v := 2) (lv' := [some (.ref 12), some (.int 0), some (.int 1), some (.int 11), some (.int 2), some (.int 1)]) dX0_singleRoots_74 rfl rfl (by decide) (Nat.le_of_ble_eq_true rfl) rfl rfl ?_
      refine ev_goto (tgt := 24) dX0_singleRoots_77 rfl ?_
      refine ev_iload (pc' := 26) dX0_singleRoots_24 rfl rfl ?_
      refine ev_iconst (pc' := 27) (v := 4) dX0_singleRoots_26 rfl ki_4 ?_
      refine ev_icmp_ge (tgt := 80) (pc' := 30) dX0_singleRoots_27 rfl rfl (fun h => absurd h (by decide)) (fun _ => ?_)
      refine ev_iload_n (pc' := 31) (i := 3) dX0_singleRoots_30 rfl rfl rfl ?_
      refine ev_if_eq (tgt := 80) (pc' := 34) dX0_singleRoots_31 rfl rfl (fun h => absurd h (by decide)) (fun _ => ?_)
      refine ev_iload_n (pc' := 35) (i := 3) dX0_singleRoots_34 rfl rfl rfl ?_
      refine ev_bipush (pc' := 37) (v := 10) dX0_singleRoots_35 rfl kb_10 ?_
      refine ev_irem (pc' := 38) (v := 1) dX0_singleRoots_37 rfl (by decide) (by decide) ?_
      refine ev_istore (pc' := 40) (lv' := [some (.ref 12), some (.int 0), some (.int 1), some (.int 11), some (.int 2), some (.int 1)]) dX0_singleRoots_38 rfl (Nat.le_of_ble_eq_true rfl) rfl rfl ?_
      refine ev_iload_n (pc' := 41) (i := 3) dX0_singleRoots_40 rfl rfl rfl ?_
      refine ev_bipush (pc' := 43) (v := 10) dX0_singleRoots_41 rfl kb_10 ?_
      refine ev_idiv (pc' := 44) (v := 1) dX0_singleRoots_43 rfl (by decide) (by decide) ?_
      refine ev_istore_n (pc' := 45) (i := 3) (lv' := [some (.ref 12), some (.int 0), some (.int 1), some (.int 1), some (.int 2), some (.int 1)]) dX0_singleRoots_44 rfl rfl (Nat.le_of_ble_eq_true rfl) rfl rfl ?_
      refine ev_iload (pc' := 47) dX0_singleRoots_45 rfl rfl ?_
      refine ev_iconst (pc' := 48) (v := 5) dX0_singleRoots_47 rfl ki_5 ?_
      refine ev_icmp_lt (tgt := 54) (pc' := 51) dX0_singleRoots_48 rfl rfl (fun _ => ?_) (fun h => absurd (by decide) h)
      refine ev_iload_n (pc' := 55) (i := 1) dX0_singleRoots_54 rfl rfl rfl ?_
      refine ev_if_eq (tgt := 63) (pc' := 58) dX0_singleRoots_55 rfl rfl (fun _ => ?_) (fun h => absurd (by decide) h)
      refine ev_iload (pc' := 65) dX0_singleRoots_63 rfl rfl ?_
      refine ev_iconst (pc' := 66) (v := 1) dX0_singleRoots_65 rfl ki_1 ?_
      refine ev_icmp_le (tgt := 71) (pc' := 69) dX0_singleRoots_66 rfl rfl (fun _ => ?_) (fun h => absurd (by decide) h)
      refine ev_iinc (pc' := 74) (v := 2) (lv' := [some (.ref 12), some (.int 0), some (.int 2), some (.int 1), some (.int 2), some (.int 1)]) dX0_singleRoots_71 rfl rfl (by decide) (Nat.le_of_ble_eq_true rfl) rfl rfl ?_
      refine ev_iinc (pc' := 77) (v := 3) (lv' := [some (.ref 12), some (.int 0), some (.int 2), some (.int 1), some (.int 3), some (.int 1)]) dX0_singleRoots_74 rfl rfl (by decide) (Nat.le_of_ble_eq_true rfl) rfl rfl ?_
      refine ev_goto (tgt := 24) dX0_singleRoots_77 rfl ?_
      refine ev_iload (pc' := 26) dX0_singleRoots_24 rfl rfl ?_
      refine ev_iconst (pc' := 27) (v := 4) dX0_singleRoots_26 rfl ki_4 ?_
      refine ev_icmp_ge (tgt := 80) (pc' := 30) dX0_singleRoots_27 rfl rfl (fun h => absurd h (by decide)) (fun _ => ?_)
      refine ev_iload_n (pc' := 31) (i := 3) dX0_singleRoots_30 rfl rfl rfl ?_
      refine ev_if_eq (tgt := 80) (pc' := 34) dX0_singleRoots_31 rfl rfl (fun h => absurd h (by decide)) (fun _ => ?_)
      refine ev_iload_n (pc' := 35) (i := 3) dX0_singleRoots_34 rfl rfl rfl ?_
      refine ev_bipush (pc' := 37) (v := 10) dX0_singleRoots_35 rfl kb_10 ?_
      refine ev_irem (pc' := 38) (v := 1) dX0_singleRoots_37 rfl (by decide) (by decide) ?_
      refine ev_istore (pc' := 40) (lv' := [some (.ref 12), some (.int 0), some (.int 2), some (.int 1), some (.int 3), some (.int 1)]) dX0_singleRoots_38 rfl (Nat.le_of_ble_eq_true rfl) rfl rfl ?_
      refine ev_iload_n (pc' := 41) (i := 3) dX0_singleRoots_40 rfl rfl rfl ?_
      refine ev_bipush (pc' := 43) (v := 10) dX0_singleRoots_41 rfl kb_10 ?_
      refine ev_idiv (pc' := 44) (v := 0) dX0_singleRoots_43 rfl (by decide) (by decide) ?_
      refine ev_istore_n (pc' := 45) (i := 3) (lv' := [some (.ref 12), some (.int 0), some (.int 2), some (.int 0), some (.int 3), some (.int 1)]) dX0_singleRoots_44 rfl rfl (Nat.le_of_ble_eq_true rfl) rfl rfl ?_
      refine ev_iload (pc' := 47) dX0_singleRoots_45 rfl rfl ?_
      refine ev_iconst (pc' := 48) (v := 5) dX0_singleRoots_47 rfl ki_5 ?_
      refine ev_icmp_lt (tgt := 54) (pc' := 51) dX0_singleRoots_48 rfl rfl (fun _ => ?_) (fun h => absurd (by decide) h)
      refine ev_iload_n (pc' := 55) (i := 1) dX0_singleRoots_54 rfl rfl rfl ?_
      refine ev_if_eq (tgt := 63) (pc' := 58) dX0_singleRoots_55 rfl rfl (fun _ => ?_) (fun h => absurd (by decide) h)
      refine ev_iload (pc' := 65) dX0_singleRoots_63 rfl rfl ?_
      refine ev_iconst (pc' := 66) (v := 1) dX0_singleRoots_65 rfl ki_1 ?_
      refine ev_icmp_le (tgt := 71) (pc' := 69) dX0_singleRoots_66 rfl rfl (fun _ => ?_) (fun h => absurd (by decide) h)
      refine ev_iinc (pc' := 74) (v := 3) (lv' := [some (.ref 12), some (.int 0), some (.int 3), some (.int 0), some (.int 3), some (.int 1)]) dX0_singleRoots_71 rfl rfl (by decide) (Nat.le_of_ble_eq_true rfl) rfl rfl ?_
      refine ev_iinc (pc' := 77) (v := 4) (lv' := [some (.ref 12), some (.int 0), some (.int 3), some (.int 0), some (.int 4), some (.int 1)]) dX0_singleRoots_74 rfl rfl (by decide) (Nat.le_of_ble_eq_true rfl) rfl rfl ?_
      refine ev_goto (tgt := 24) dX0_singleRoots_77 rfl ?_
      refine ev_iload (pc' := 26) dX0_singleRoots_24 rfl rfl ?_
      refine ev_iconst (pc' := 27) (v := 4) dX0_singleRoots_26 rfl ki_4 ?_
      refine ev_icmp_ge (tgt := 80) (pc' := 30) dX0_singleRoots_27 rfl rfl (fun _ => ?_) (fun h => absurd (by decide) h)
      refine ev_iload_n (pc' := 81) (i := 2) dX0_singleRoots_80 rfl rfl rfl ?_
      refine ev_iret dX0_singleRoots_81 rfl rfl ⟨Nat.le_refl _, Nat.le_refl _⟩ ?_
      have e : (if (L 13) 0 = 0 then cS1 (cFig (L 13) ((L 12) 5) ((L 12) 6)) else cS0 (cFig (L 13) ((L 12) 5) ((L 12) 6))) = 3 := by rw [if_pos h18, g45]; decide
      rw [e] at k0
      exact k0 _ _ _ _
  · skip
    refine ev_iconst (pc' := 5) (v := 4) dX0_singleRoots_4 rfl ki_4 ?_
    refine ev_icmp_ge (tgt := 12) (pc' := 8) dX0_singleRoots_5 rfl rfl (fun _ => ?_) (fun h => absurd (by decide) h)
    refine ev_iconst (pc' := 13) (v := 0) dX0_singleRoots_12 rfl ki_0 ?_
    refine ev_istore_n (pc' := 14) (i := 1) (lv' := [some (.ref 12), some (.int 0), none, none, none, none]) dX0_singleRoots_13 rfl rfl (Nat.le_of_ble_eq_true rfl) rfl rfl ?_
    refine ev_iconst (pc' := 15) (v := 0) dX0_singleRoots_14 rfl ki_0 ?_
    refine ev_istore_n (pc' := 16) (i := 2) (lv' := [some (.ref 12), some (.int 0), some (.int 0), none, none, none]) dX0_singleRoots_15 rfl rfl (Nat.le_of_ble_eq_true rfl) rfl rfl ?_
    refine ev_aload_n (pc' := 17) (i := 0) dX0_singleRoots_16 rfl rfl rfl ?_
    refine ev_callV (pc' := 20) (rm' := rX0_figures) (b := 12) (av := []) (rest := []) co_X0_127 ci_X0_figures cv_X0_figures dX0_singleRoots_17 rfl hs_12 hb_X0 rfl rfl (Nat.le_of_ble_eq_true rfl) ⟨(Nat.le_of_ble_eq_true rfl), (Nat.le_of_ble_eq_true rfl)⟩ ⟨(Nat.le_of_ble_eq_true rfl), (Nat.le_of_ble_eq_true rfl)⟩ ?_
    refine t_X0_figures hI hJ hA hE (fun Y46 Z47 V48 W49 => ?_)
    refine ev_topi (fun r hr => ?_)
    have hr : r = cFig (L 13) ((L 12) 5) ((L 12) 6) := hr
    rcases cFig_v (L 13) ((L 12) 5) ((L 12) 6) with g50 | g50 | g50 | g50 | g50 | g50 | g50 | g50 | g50 | g50 | g50 | g50 | g50
    · rw [g50] at hr
      subst hr
      refine ev_istore_n (pc' := 21) (i := 3) (lv' := [some (.ref 12), some (.int 0), some (.int 0), some (.int 0), none, none]) dX0_singleRoots_20 rfl rfl (Nat.le_of_ble_eq_true rfl) rfl rfl ?_
      refine ev_iconst (pc' := 22) (v := 0) dX0_singleRoots_21 rfl ki_0 ?_
      refine ev_istore (pc' := 24) (lv' := [some (.ref 12), some (.int 0), some (.int 0), some (.int 0), some (.int 0), none]) dX0_singleRoots_22 rfl (Nat.le_of_ble_eq_true rfl) rfl rfl ?_
      refine ev_iload (pc' := 26) dX0_singleRoots_24 rfl rfl ?_
      refine ev_iconst (pc' := 27) (v := 4) dX0_singleRoots_26 rfl ki_4 ?_
      refine ev_icmp_ge (tgt := 80) (pc' := 30) dX0_singleRoots_27 rfl rfl (fun h => absurd h (by decide)) (fun _ => ?_)
      refine ev_iload_n (pc' := 31) (i := 3) dX0_singleRoots_30 rfl rfl rfl ?_
      refine ev_if_eq (tgt := 80) (pc' := 34) dX0_singleRoots_31 rfl rfl (fun _ => ?_) (fun h => absurd (by decide) h)
      refine ev_iload_n (pc' := 81) (i := 2) dX0_singleRoots_80 rfl rfl rfl ?_
      refine ev_iret dX0_singleRoots_81 rfl rfl ⟨Nat.le_refl _, Nat.le_refl _⟩ ?_
      have e : (if (L 13) 0 = 0 then cS1 (cFig (L 13) ((L 12) 5) ((L 12) 6)) else cS0 (cFig (L 13) ((L 12) 5) ((L 12) 6))) = 0 := by rw [if_neg h20, g50]; decide
      rw [e] at k0
      exact k0 _ _ _ _
    · rw [g50] at hr
      subst hr
      refine ev_istore_n (pc' := 21) (i := 3) (lv' := [some (.ref 12), some (.int 0), some (.int 0), some (.int 4), none, none]) dX0_singleRoots_20 rfl rfl (Nat.le_of_ble_eq_true rfl) rfl rfl ?_
      refine ev_iconst (pc' := 22) (v := 0) dX0_singleRoots_21 rfl ki_0 ?_
      refine ev_istore (pc' := 24) (lv' := [some (.ref 12), some (.int 0), some (.int 0), some (.int 4), some (.int 0), none]) dX0_singleRoots_22 rfl (Nat.le_of_ble_eq_true rfl) rfl rfl ?_
      refine ev_iload (pc' := 26) dX0_singleRoots_24 rfl rfl ?_
      refine ev_iconst (pc' := 27) (v := 4) dX0_singleRoots_26 rfl ki_4 ?_
      refine ev_icmp_ge (tgt := 80) (pc' := 30) dX0_singleRoots_27 rfl rfl (fun h => absurd h (by decide)) (fun _ => ?_)
      refine ev_iload_n (pc' := 31) (i := 3) dX0_singleRoots_30 rfl rfl rfl ?_
      refine ev_if_eq (tgt := 80) (pc' := 34) dX0_singleRoots_31 rfl rfl (fun h => absurd h (by decide)) (fun _ => ?_)
      refine ev_iload_n (pc' := 35) (i := 3) dX0_singleRoots_34 rfl rfl rfl ?_
      refine ev_bipush (pc' := 37) (v := 10) dX0_singleRoots_35 rfl kb_10 ?_
      refine ev_irem (pc' := 38) (v := 4) dX0_singleRoots_37 rfl (by decide) (by decide) ?_
      refine ev_istore (pc' := 40) (lv' := [some (.ref 12), some (.int 0), some (.int 0), some (.int 4), some (.int 0), some (.int 4)]) dX0_singleRoots_38 rfl (Nat.le_of_ble_eq_true rfl) rfl rfl ?_
      refine ev_iload_n (pc' := 41) (i := 3) dX0_singleRoots_40 rfl rfl rfl ?_
      refine ev_bipush (pc' := 43) (v := 10) dX0_singleRoots_41 rfl kb_10 ?_
      refine ev_idiv (pc' := 44) (v := 0) dX0_singleRoots_43 rfl (by decide) (by decide) ?_
      refine ev_istore_n (pc' := 45) (i := 3) (lv' := [some (.ref 12), some (.int 0), some (.int 0), some (.int 0), some (.int 0), some (.int 4)]) dX0_singleRoots_44 rfl rfl (Nat.le_of_ble_eq_true rfl) rfl rfl ?_
      refine ev_iload (pc' := 47) dX0_singleRoots_45 rfl rfl ?_
      refine ev_iconst (pc' := 48) (v := 5) dX0_singleRoots_47 rfl ki_5 ?_
      refine ev_icmp_lt (tgt := 54) (pc' := 51) dX0_singleRoots_48 rfl rfl (fun _ => ?_) (fun h => absurd (by decide) h)
      refine ev_iload_n (pc' := 55) (i := 1) dX0_singleRoots_54 rfl rfl rfl ?_
      refine ev_if_eq (tgt := 63) (pc' := 58) dX0_singleRoots_55 rfl rfl (fun _ => ?_) (fun h => absurd (by decide) h)
      refine ev_iload (pc' := 65) dX0_singleRoots_63 rfl rfl ?_
      refine ev_iconst (pc' := 66) (v := 1) dX0_singleRoots_65 rfl ki_1 ?_
      refine ev_icmp_le (tgt := 71) (pc' := 69) dX0_singleRoots_66 rfl rfl (fun h => absurd h (by decide)) (fun _ => ?_)
      refine ev_iconst (pc' := 70) (v := (-1)) dX0_singleRoots_69 rfl ki_m1 ?_
      refine ev_iret dX0_singleRoots_70 rfl rfl ⟨Nat.le_refl _, Nat.le_refl _⟩ ?_
      have e : (if (L 13) 0 = 0 then cS1 (cFig (L 13) ((L 12) 5) ((L 12) 6)) else cS0 (cFig (L 13) ((L 12) 5) ((L 12) 6))) = (-1) := by rw [if_neg h20, g50]; decide
      rw [e] at k0
      exact k0 _ _ _ _
    · rw [g50] at hr
      subst hr
      refine ev_istore_n (pc' := 21) (i := 3) (lv' := [some (.ref 12), some (.int 0), some (.int 0), some (.int 6), none, none]) dX0_singleRoots_20 rfl rfl (Nat.le_of_ble_eq_true rfl) rfl rfl ?_
      refine ev_iconst (pc' := 22) (v := 0) dX0_singleRoots_21 rfl ki_0 ?_
      refine ev_istore (pc' := 24) (lv' := [some (.ref 12), some (.int 0), some (.int 0), some (.int 6), some (.int 0), none]) dX0_singleRoots_22 rfl (Nat.le_of_ble_eq_true rfl) rfl rfl ?_
      refine ev_iload (pc' := 26) dX0_singleRoots_24 rfl rfl ?_
      refine ev_iconst (pc' := 27) (v := 4) dX0_singleRoots_26 rfl ki_4 ?_
      refine ev_icmp_ge (tgt := 80) (pc' := 30) dX0_singleRoots_27 rfl rfl (fun h => absurd h (by decide)) (fun _ => ?_)
      refine ev_iload_n (pc' := 31) (i := 3) dX0_singleRoots_30 rfl rfl rfl ?_
      refine ev_if_eq (tgt := 80) (pc' := 34) dX0_singleRoots_31 rfl rfl (fun h => absurd h (by decide)) (fun _ => ?_)
      refine ev_iload_n (pc' := 35) (i := 3) dX0_singleRoots_34 rfl rfl rfl ?_
      refine ev_bipush (pc' := 37) (v := 10) dX0_singleRoots_35 rfl kb_10 ?_
      refine ev_irem (pc' := 38) (v := 6) dX0_singleRoots_37 rfl (by decide) (by decide) ?_
      refine ev_istore (pc' := 40) (lv' := [some (.ref 12), some (.int 0), some (.int 0), some (.int 6), some (.int 0), some (.int 6)]) dX0_singleRoots_38 rfl (Nat.le_of_ble_eq_true rfl) rfl rfl ?_
      refine ev_iload_n (pc' := 41) (i := 3) dX0_singleRoots_40 rfl rfl rfl ?_
      refine ev_bipush (pc' := 43) (v := 10) dX0_singleRoots_41 rfl kb_10 ?_
      refine ev_idiv (pc' := 44) (v := 0) dX0_singleRoots_43 rfl (by decide) (by decide) ?_
      refine ev_istore_n (pc' := 45) (i := 3) (lv' := [some (.ref 12), some (.int 0), some (.int 0), some (.int 0), some (.int 0), some (.int 6)]) dX0_singleRoots_44 rfl rfl (Nat.le_of_ble_eq_true rfl) rfl rfl ?_
      refine ev_iload (pc' := 47) dX0_singleRoots_45 rfl rfl ?_
      refine ev_iconst (pc' := 48) (v := 5) dX0_singleRoots_47 rfl ki_5 ?_
      refine ev_icmp_lt (tgt := 54) (pc' := 51) dX0_singleRoots_48 rfl rfl (fun h => absurd h (by decide)) (fun _ => ?_)
      refine ev_goto (tgt := 74) dX0_singleRoots_51 rfl ?_
      refine ev_iinc (pc' := 77) (v := 1) (lv' := [some (.ref 12), some (.int 0), some (.int 0), some (.int 0), some (.int 1), some (.int 6)]) dX0_singleRoots_74 rfl rfl (by decide) (Nat.le_of_ble_eq_true rfl) rfl rfl ?_
      refine ev_goto (tgt := 24) dX0_singleRoots_77 rfl ?_
      refine ev_iload (pc' := 26) dX0_singleRoots_24 rfl rfl ?_
      refine ev_iconst (pc' := 27) (v := 4) dX0_singleRoots_26 rfl ki_4 ?_
      refine ev_icmp_ge (tgt := 80) (pc' := 30) dX0_singleRoots_27 rfl rfl (fun h => absurd h (by decide)) (fun _ => ?_)
      refine ev_iload_n (pc' := 31) (i := 3) dX0_singleRoots_30 rfl rfl rfl ?_
      refine ev_if_eq (tgt := 80) (pc' := 34) dX0_singleRoots_31 rfl rfl (fun _ => ?_) (fun h => absurd (by decide) h)
      refine ev_iload_n (pc' := 81) (i := 2) dX0_singleRoots_80 rfl rfl rfl ?_
      refine ev_iret dX0_singleRoots_81 rfl rfl ⟨Nat.le_refl _, Nat.le_refl _⟩ ?_
      have e : (if (L 13) 0 = 0 then cS1 (cFig (L 13) ((L 12) 5) ((L 12) 6)) else cS0 (cFig (L 13) ((L 12) 5) ((L 12) 6))) = 0 := by rw [if_neg h20, g50]; decide
      rw [e] at k0
      exact k0 _ _ _ _
    · rw [g50] at hr
      subst hr
      refine ev_istore_n (pc' := 21) (i := 3) (lv' := [some (.ref 12), some (.int 0), some (.int 0), some (.int 13), none, none]) dX0_singleRoots_20 rfl rfl (Nat.le_of_ble_eq_true rfl) rfl rfl ?_
      refine ev_iconst (pc' := 22) (v := 0) dX0_singleRoots_21 rfl ki_0 ?_
      refine ev_istore (pc' := 24) (lv' := [some (.ref 12), some (.int 0), some (.int 0), some (.int 13), some (.int 0), none]) dX0_singleRoots_22 rfl (Nat.le_of_ble_eq_true rfl) rfl rfl ?_
      refine ev_iload (pc' := 26) dX0_singleRoots_24 rfl rfl ?_
      refine ev_iconst (pc' := 27) (v := 4) dX0_singleRoots_26 rfl ki_4 ?_
      refine ev_icmp_ge (tgt := 80) (pc' := 30) dX0_singleRoots_27 rfl rfl (fun h => absurd h (by decide)) (fun _ => ?_)
      refine ev_iload_n (pc' := 31) (i := 3) dX0_singleRoots_30 rfl rfl rfl ?_
      refine ev_if_eq (tgt := 80) (pc' := 34) dX0_singleRoots_31 rfl rfl (fun h => absurd h (by decide)) (fun _ => ?_)
      refine ev_iload_n (pc' := 35) (i := 3) dX0_singleRoots_34 rfl rfl rfl ?_
      refine ev_bipush (pc' := 37) (v := 10) dX0_singleRoots_35 rfl kb_10 ?_
      refine ev_irem (pc' := 38) (v := 3) dX0_singleRoots_37 rfl (by decide) (by decide) ?_
      refine ev_istore (pc' := 40) (lv' := [some (.ref 12), some (.int 0), some (.int 0), some (.int 13), some (.int 0), some (.int 3)]) dX0_singleRoots_38 rfl (Nat.le_of_ble_eq_true rfl) rfl rfl ?_
      refine ev_iload_n (pc' := 41) (i := 3) dX0_singleRoots_40 rfl rfl rfl ?_
      refine ev_bipush (pc' := 43) (v := 10) dX0_singleRoots_41 rfl kb_10 ?_
      refine ev_idiv (pc' := 44) (v := 1) dX0_singleRoots_43 rfl (by decide) (by decide) ?_
      refine ev_istore_n (pc' := 45) (i := 3) (lv' := [some (.ref 12), some (.int 0), some (.int 0), some (.int 1), some (.int 0), some (.int 3)]) dX0_singleRoots_44 rfl rfl (Nat.le_of_ble_eq_true rfl) rfl rfl ?_
      refine ev_iload (pc' := 47) dX0_singleRoots_45 rfl rfl ?_
      refine ev_iconst (pc' := 48) (v := 5) dX0_singleRoots_47 rfl ki_5 ?_
      refine ev_icmp_lt (tgt := 54) (pc' := 51) dX0_singleRoots_48 rfl rfl (fun _ => ?_) (fun h => absurd (by decide) h)
      refine ev_iload_n (pc' := 55) (i := 1) dX0_singleRoots_54 rfl rfl rfl ?_
      refine ev_if_eq (tgt := 63) (pc' := 58) dX0_singleRoots_55 rfl rfl (fun _ => ?_) (fun h => absurd (by decide) h)
      refine ev_iload (pc' := 65) dX0_singleRoots_63 rfl rfl ?_
      refine ev_iconst (pc' := 66) (v := 1) dX0_singleRoots_65 rfl ki_1 ?_
      refine ev_icmp_le (tgt := 71) (pc' := 69) dX0_singleRoots_66 rfl rfl (fun h => absurd h (by decide)) (fun _ => ?_)
      refine ev_iconst (pc' := 70) (v := (-1)) dX0_singleRoots_69 rfl ki_m1 ?_
      refine ev_iret dX0_singleRoots_70 rfl rfl ⟨Nat.le_refl _, Nat.le_refl _⟩ ?_
      have e : (if (L 13) 0 = 0 then cS1 (cFig (L 13) ((L 12) 5) ((L 12) 6)) else cS0 (cFig (L 13) ((L 12) 5) ((L 12) 6))) = (-1) := by rw [if_neg h20, g50]; decide
      rw [e] at k0
      exact k0 _ _ _ _
    · rw [g50] at hr
      subst hr
      refine ev_istore_n (pc' := 21) (i := 3) (lv' := [some (.ref 12), some (.int 0), some (.int 0), some (.int 22), none, none]) dX0_singleRoots_20 rfl rfl (Nat.le_of_ble_eq_true rfl) rfl rfl ?_
      refine ev_iconst (pc' := 22) (v := 0) dX0_singleRoots_21 rfl ki_0 ?_
      refine ev_istore (pc' := 24) (lv' := [some (.ref 12), some (.int 0), some (.int 0), some (.int 22), some (.int 0), none]) dX0_singleRoots_22 rfl (Nat.le_of_ble_eq_true rfl) rfl rfl ?_
      refine ev_iload (pc' := 26) dX0_singleRoots_24 rfl rfl ?_
      refine ev_iconst (pc' := 27) (v := 4) dX0_singleRoots_26 rfl ki_4 ?_
      refine ev_icmp_ge (tgt := 80) (pc' := 30) dX0_singleRoots_27 rfl rfl (fun h => absurd h (by decide)) (fun _ => ?_)
      refine ev_iload_n (pc' := 31) (i := 3) dX0_singleRoots_30 rfl rfl rfl ?_
      refine ev_if_eq (tgt := 80) (pc' := 34) dX0_singleRoots_31 rfl rfl (fun h => absurd h (by decide)) (fun _ => ?_)
      refine ev_iload_n (pc' := 35) (i := 3) dX0_singleRoots_34 rfl rfl rfl ?_
      refine ev_bipush (pc' := 37) (v := 10) dX0_singleRoots_35 rfl kb_10 ?_
      refine ev_irem (pc' := 38) (v := 2) dX0_singleRoots_37 rfl (by decide) (by decide) ?_
      refine ev_istore (pc' := 40) (lv' := [some (.ref 12), some (.int 0), some (.int 0), some (.int 22), some (.int 0), some (.int 2)]) dX0_singleRoots_38 rfl (Nat.le_of_ble_eq_true rfl) rfl rfl ?_
      refine ev_iload_n (pc' := 41) (i := 3) dX0_singleRoots_40 rfl rfl rfl ?_
      refine ev_bipush (pc' := 43) (v := 10) dX0_singleRoots_41 rfl kb_10 ?_
      refine ev_idiv (pc' := 44) (v := 2) dX0_singleRoots_43 rfl (by decide) (by decide) ?_
      refine ev_istore_n (pc' := 45) (i := 3) (lv' := [some (.ref 12), some (.int 0), some (.int 0), some (.int 2), some (.int 0), some (.int 2)]) dX0_singleRoots_44 rfl rfl (Nat.le_of_ble_eq_true rfl) rfl rfl ?_
      refine ev_iload (pc' := 47) dX0_singleRoots_45 rfl rfl ?_
      refine ev_iconst (pc' := 48) (v := 5) dX0_singleRoots_47 rfl ki_5 ?_
      refine ev_icmp_lt (tgt := 54) (pc' := 51) dX0_singleRoots_48 rfl rfl (fun _ => ?_) (fun h => absurd (by decide) h)
      refine ev_iload_n (pc' := 55) (i := 1) dX0_singleRoots_54 rfl rfl rfl ?_
      refine ev_if_eq (tgt := 63) (pc' := 58) dX0_singleRoots_55 rfl rfl (fun _ => ?_) (fun h => absurd (by decide) h)
      refine ev_iload (pc' := 65) dX0_singleRoots_63 rfl rfl ?_
      refine ev_iconst (pc' := 66) (v := 1) dX0_singleRoots_65 rfl ki_1 ?_
      refine ev_icmp_le (tgt := 71) (pc' := 69) dX0_singleRoots_66 rfl rfl (fun h => absurd h (by decide)) (fun _ => ?_)
      refine ev_iconst (pc' := 70) (v := (-1)) dX0_singleRoots_69 rfl ki_m1 ?_
      refine ev_iret dX0_singleRoots_70 rfl rfl ⟨Nat.le_refl _, Nat.le_refl _⟩ ?_
      have e : (if (L 13) 0 = 0 then cS1 (cFig (L 13) ((L 12) 5) ((L 12) 6)) else cS0 (cFig (L 13) ((L 12) 5) ((L 12) 6))) = (-1) := by rw [if_neg h20, g50]; decide
      rw [e] at k0
      exact k0 _ _ _ _
    · rw [g50] at hr
      subst hr
      refine ev_istore_n (pc' := 21) (i := 3) (lv' := [some (.ref 12), some (.int 0), some (.int 0), some (.int 25), none, none]) dX0_singleRoots_20 rfl rfl (Nat.le_of_ble_eq_true rfl) rfl rfl ?_
      refine ev_iconst (pc' := 22) (v := 0) dX0_singleRoots_21 rfl ki_0 ?_
      refine ev_istore (pc' := 24) (lv' := [some (.ref 12), some (.int 0), some (.int 0), some (.int 25), some (.int 0), none]) dX0_singleRoots_22 rfl (Nat.le_of_ble_eq_true rfl) rfl rfl ?_
      refine ev_iload (pc' := 26) dX0_singleRoots_24 rfl rfl ?_
      refine ev_iconst (pc' := 27) (v := 4) dX0_singleRoots_26 rfl ki_4 ?_
      refine ev_icmp_ge (tgt := 80) (pc' := 30) dX0_singleRoots_27 rfl rfl (fun h => absurd h (by decide)) (fun _ => ?_)
      refine ev_iload_n (pc' := 31) (i := 3) dX0_singleRoots_30 rfl rfl rfl ?_
      refine ev_if_eq (tgt := 80) (pc' := 34) dX0_singleRoots_31 rfl rfl (fun h => absurd h (by decide)) (fun _ => ?_)
      refine ev_iload_n (pc' := 35) (i := 3) dX0_singleRoots_34 rfl rfl rfl ?_
      refine ev_bipush (pc' := 37) (v := 10) dX0_singleRoots_35 rfl kb_10 ?_
      refine ev_irem (pc' := 38) (v := 5) dX0_singleRoots_37 rfl (by decide) (by decide) ?_
      refine ev_istore (pc' := 40) (lv' := [some (.ref 12), some (.int 0), some (.int 0), some (.int 25), some (.int 0), some (.int 5)]) dX0_singleRoots_38 rfl (Nat.le_of_ble_eq_true rfl) rfl rfl ?_
      refine ev_iload_n (pc' := 41) (i := 3) dX0_singleRoots_40 rfl rfl rfl ?_
      refine ev_bipush (pc' := 43) (v := 10) dX0_singleRoots_41 rfl kb_10 ?_
      refine ev_idiv (pc' := 44) (v := 2) dX0_singleRoots_43 rfl (by decide) (by decide) ?_
      refine ev_istore_n (pc' := 45) (i := 3) (lv' := [some (.ref 12), some (.int 0), some (.int 0), some (.int 2), some (.int 0), some (.int 5)]) dX0_singleRoots_44 rfl rfl (Nat.le_of_ble_eq_true rfl) rfl rfl ?_
      refine ev_iload (pc' := 47) dX0_singleRoots_45 rfl rfl ?_
      refine ev_iconst (pc' := 48) (v := 5) dX0_singleRoots_47 rfl ki_5 ?_
      refine ev_icmp_lt (tgt := 54) (pc' := 51) dX0_singleRoots_48 rfl rfl (fun h => absurd h (by decide)) (fun _ => ?_)
      refine ev_goto (tgt := 74) dX0_singleRoots_51 rfl ?_
      refine ev_iinc (pc' := 77) (v := 1) (lv' := [some (.ref 12), some (.int 0), some (.int 0), some (.int 2), some (.int 1), some (.int 5)]) dX0_singleRoots_74 rfl rfl (by decide) (Nat.le_of_ble_eq_true rfl) rfl rfl ?_
      refine ev_goto (tgt := 24) dX0_singleRoots_77 rfl ?_
      refine ev_iload (pc' := 26) dX0_singleRoots_24 rfl rfl ?_
      refine ev_iconst (pc' := 27) (v := 4) dX0_singleRoots_26 rfl ki_4 ?_
      refine ev_icmp_ge (tgt := 80) (pc' := 30) dX0_singleRoots_27 rfl rfl (fun h => absurd h (by decide)) (fun _ => ?_)
      refine ev_iload_n (pc' := 31) (i := 3) dX0_singleRoots_30 rfl rfl rfl ?_
      refine ev_if_eq (tgt := 80) (pc' := 34) dX0_singleRoots_31 rfl rfl (fun h => absurd h (by decide)) (fun _ => ?_)
      refine ev_iload_n (pc' := 35) (i := 3) dX0_singleRoots_34 rfl rfl rfl ?_
      refine ev_bipush (pc' := 37) (v := 10) dX0_singleRoots_35 rfl kb_10 ?_
      refine ev_irem (pc' := 38) (v := 2) dX0_singleRoots_37 rfl (by decide) (by decide) ?_
      refine ev_istore (pc' := 40) (lv' := [some (.ref 12), some (.int 0), some (.int 0), some (.int 2), some (.int 1), some (.int 2)]) dX0_singleRoots_38 rfl (Nat.le_of_ble_eq_true rfl) rfl rfl ?_
      refine ev_iload_n (pc' := 41) (i := 3) dX0_singleRoots_40 rfl rfl rfl ?_
      refine ev_bipush (pc' := 43) (v := 10) dX0_singleRoots_41 rfl kb_10 ?_
      refine ev_idiv (pc' := 44) (v := 0) dX0_singleRoots_43 rfl (by decide) (by decide) ?_
      refine ev_istore_n (pc' := 45) (i := 3) (lv' := [some (.ref 12), some (.int 0), some (.int 0), some (.int 0), some (.int 1), some (.int 2)]) dX0_singleRoots_44 rfl rfl (Nat.le_of_ble_eq_true rfl) rfl rfl ?_
      refine ev_iload (pc' := 47) dX0_singleRoots_45 rfl rfl ?_
      refine ev_iconst (pc' := 48) (v := 5) dX0_singleRoots_47 rfl ki_5 ?_
      refine ev_icmp_lt (tgt := 54) (pc' := 51) dX0_singleRoots_48 rfl rfl (fun _ => ?_) (fun h => absurd (by decide) h)
      refine ev_iload_n (pc' := 55) (i := 1) dX0_singleRoots_54 rfl rfl rfl ?_
      refine ev_if_eq (tgt := 63) (pc' := 58) dX0_singleRoots_55 rfl rfl (fun _ => ?_) (fun h => absurd (by decide) h)
      refine ev_iload (pc' := 65) dX0_singleRoots_63 rfl rfl ?_
      refine ev_iconst (pc' := 66) (v := 1) dX0_singleRoots_65 rfl ki_1 ?_
      refine ev_icmp_le (tgt := 71) (pc' := 69) dX0_singleRoots_66 rfl rfl (fun h => absurd h (by decide)) (fun _ => ?_)
      refine ev_iconst (pc' := 70) (v := (-1)) dX0_singleRoots_69 rfl ki_m1 ?_
      refine ev_iret dX0_singleRoots_70 rfl rfl ⟨Nat.le_refl _, Nat.le_refl _⟩ ?_
      have e : (if (L 13) 0 = 0 then cS1 (cFig (L 13) ((L 12) 5) ((L 12) 6)) else cS0 (cFig (L 13) ((L 12) 5) ((L 12) 6))) = (-1) := by rw [if_neg h20, g50]; decide
      rw [e] at k0
      exact k0 _ _ _ _
    · rw [g50] at hr
      subst hr
      refine ev_istore_n (pc' := 21) (i := 3) (lv' := [some (.ref 12), some (.int 0), some (.int 0), some (.int 31), none, none]) dX0_singleRoots_20 rfl rfl (Nat.le_of_ble_eq_true rfl) rfl rfl ?_
      refine ev_iconst (pc' := 22) (v := 0) dX0_singleRoots_21 rfl ki_0 ?_
      refine ev_istore (pc' := 24) (lv' := [some (.ref 12), some (.int 0), some (.int 0), some (.int 31), some (.int 0), none]) dX0_singleRoots_22 rfl (Nat.le_of_ble_eq_true rfl) rfl rfl ?_
      refine ev_iload (pc' := 26) dX0_singleRoots_24 rfl rfl ?_
      refine ev_iconst (pc' := 27) (v := 4) dX0_singleRoots_26 rfl ki_4 ?_
      refine ev_icmp_ge (tgt := 80) (pc' := 30) dX0_singleRoots_27 rfl rfl (fun h => absurd h (by decide)) (fun _ => ?_)
      refine ev_iload_n (pc' := 31) (i := 3) dX0_singleRoots_30 rfl rfl rfl ?_
      refine ev_if_eq (tgt := 80) (pc' := 34) dX0_singleRoots_31 rfl rfl (fun h => absurd h (by decide)) (fun _ => ?_)
      refine ev_iload_n (pc' := 35) (i := 3) dX0_singleRoots_34 rfl rfl rfl ?_
      refine ev_bipush (pc' := 37) (v := 10) dX0_singleRoots_35 rfl kb_10 ?_
      refine ev_irem (pc' := 38) (v := 1) dX0_singleRoots_37 rfl (by decide) (by decide) ?_
      refine ev_istore (pc' := 40) (lv' := [some (.ref 12), some (.int 0), some (.int 0), some (.int 31), some (.int 0), some (.int 1)]) dX0_singleRoots_38 rfl (Nat.le_of_ble_eq_true rfl) rfl rfl ?_
      refine ev_iload_n (pc' := 41) (i := 3) dX0_singleRoots_40 rfl rfl rfl ?_
      refine ev_bipush (pc' := 43) (v := 10) dX0_singleRoots_41 rfl kb_10 ?_
      refine ev_idiv (pc' := 44) (v := 3) dX0_singleRoots_43 rfl (by decide) (by decide) ?_
      refine ev_istore_n (pc' := 45) (i := 3) (lv' := [some (.ref 12), some (.int 0), some (.int 0), some (.int 3), some (.int 0), some (.int 1)]) dX0_singleRoots_44 rfl rfl (Nat.le_of_ble_eq_true rfl) rfl rfl ?_
      refine ev_iload (pc' := 47) dX0_singleRoots_45 rfl rfl ?_
      refine ev_iconst (pc' := 48) (v := 5) dX0_singleRoots_47 rfl ki_5 ?_
      refine ev_icmp_lt (tgt := 54) (pc' := 51) dX0_singleRoots_48 rfl rfl (fun _ => ?_) (fun h => absurd (by decide) h)
      refine ev_iload_n (pc' := 55) (i := 1) dX0_singleRoots_54 rfl rfl rfl ?_
      refine ev_if_eq (tgt := 63) (pc' := 58) dX0_singleRoots_55 rfl rfl (fun _ => ?_) (fun h => absurd (by decide) h)
      refine ev_iload (pc' := 65) dX0_singleRoots_63 rfl rfl ?_
      refine ev_iconst (pc' := 66) (v := 1) dX0_singleRoots_65 rfl ki_1 ?_
      refine ev_icmp_le (tgt := 71) (pc' := 69) dX0_singleRoots_66 rfl rfl (fun _ => ?_) (fun h => absurd (by decide) h)
      refine ev_iinc (pc' := 74) (v := 1) (lv' := [some (.ref 12), some (.int 0), some (.int 1), some (.int 3), some (.int 0), some (.int 1)]) dX0_singleRoots_71 rfl rfl (by decide) (Nat.le_of_ble_eq_true rfl) rfl rfl ?_
      refine ev_iinc (pc' := 77) (v := 1) (lv' := [some (.ref 12), some (.int 0), some (.int 1), some (.int 3), some (.int 1), some (.int 1)]) dX0_singleRoots_74 rfl rfl (by decide) (Nat.le_of_ble_eq_true rfl) rfl rfl ?_
      refine ev_goto (tgt := 24) dX0_singleRoots_77 rfl ?_
      refine ev_iload (pc' := 26) dX0_singleRoots_24 rfl rfl ?_
      refine ev_iconst (pc' := 27) (v := 4) dX0_singleRoots_26 rfl ki_4 ?_
      refine ev_icmp_ge (tgt := 80) (pc' := 30) dX0_singleRoots_27 rfl rfl (fun h => absurd h (by decide)) (fun _ => ?_)
      refine ev_iload_n (pc' := 31) (i := 3) dX0_singleRoots_30 rfl rfl rfl ?_
      refine ev_if_eq (tgt := 80) (pc' := 34) dX0_singleRoots_31 rfl rfl (fun h => absurd h (by decide)) (fun _ => ?_)
      refine ev_iload_n (pc' := 35) (i := 3) dX0_singleRoots_34 rfl rfl rfl ?_
      refine ev_bipush (pc' := 37) (v := 10) dX0_singleRoots_35 rfl kb_10 ?_
      refine ev_irem (pc' := 38) (v := 3) dX0_singleRoots_37 rfl (by decide) (by decide) ?_
      refine ev_istore (pc' := 40) (lv' := [some (.ref 12), some (.int 0), some (.int 1), some (.int 3), some (.int 1), some (.int 3)]) dX0_singleRoots_38 rfl (Nat.le_of_ble_eq_true rfl) rfl rfl ?_
      refine ev_iload_n (pc' := 41) (i := 3) dX0_singleRoots_40 rfl rfl rfl ?_
      refine ev_bipush (pc' := 43) (v := 10) dX0_singleRoots_41 rfl kb_10 ?_
      refine ev_idiv (pc' := 44) (v := 0) dX0_singleRoots_43 rfl (by decide) (by decide) ?_
      refine ev_istore_n (pc' := 45) (i := 3) (lv' := [some (.ref 12), some (.int 0), some (.int 1), some (.int 0), some (.int 1), some (.int 3)]) dX0_singleRoots_44 rfl rfl (Nat.le_of_ble_eq_true rfl) rfl rfl ?_
      refine ev_iload (pc' := 47) dX0_singleRoots_45 rfl rfl ?_
      refine ev_iconst (pc' := 48) (v := 5) dX0_singleRoots_47 rfl ki_5 ?_
      refine ev_icmp_lt (tgt := 54) (pc' := 51) dX0_singleRoots_48 rfl rfl (fun _ => ?_) (fun h => absurd (by decide) h)
      refine ev_iload_n (pc' := 55) (i := 1) dX0_singleRoots_54 rfl rfl rfl ?_
      refine ev_if_eq (tgt := 63) (pc' := 58) dX0_singleRoots_55 rfl rfl (fun _ => ?_) (fun h => absurd (by decide) h)
      refine ev_iload (pc' := 65) dX0_singleRoots_63 rfl rfl ?_
      refine ev_iconst (pc' := 66) (v := 1) dX0_singleRoots_65 rfl ki_1 ?_
      refine ev_icmp_le (tgt := 71) (pc' := 69) dX0_singleRoots_66 rfl rfl (fun h => absurd h (by decide)) (fun _ => ?_)
      refine ev_iconst (pc' := 70) (v := (-1)) dX0_singleRoots_69 rfl ki_m1 ?_
      refine ev_iret dX0_singleRoots_70 rfl rfl ⟨Nat.le_refl _, Nat.le_refl _⟩ ?_
      have e : (if (L 13) 0 = 0 then cS1 (cFig (L 13) ((L 12) 5) ((L 12) 6)) else cS0 (cFig (L 13) ((L 12) 5) ((L 12) 6))) = (-1) := by rw [if_neg h20, g50]; decide
      rw [e] at k0
      exact k0 _ _ _ _
    · rw [g50] at hr
      subst hr
      refine ev_istore_n (pc' := 21) (i := 3) (lv' := [some (.ref 12), some (.int 0), some (.int 0), some (.int 55), none, none]) dX0_singleRoots_20 rfl rfl (Nat.le_of_ble_eq_true rfl) rfl rfl ?_
      refine ev_iconst (pc' := 22) (v := 0) dX0_singleRoots_21 rfl ki_0 ?_
      refine ev_istore (pc' := 24) (lv' := [some (.ref 12), some (.int 0), some (.int 0), some (.int 55), some (.int 0), none]) dX0_singleRoots_22 rfl (Nat.le_of_ble_eq_true rfl) rfl rfl ?_
      refine ev_iload (pc' := 26) dX0_singleRoots_24 rfl rfl ?_
      refine ev_iconst (pc' := 27) (v := 4) dX0_singleRoots_26 rfl ki_4 ?_
      refine ev_icmp_ge (tgt := 80) (pc' := 30) dX0_singleRoots_27 rfl rfl (fun h => absurd h (by decide)) (fun _ => ?_)
      refine ev_iload_n (pc' := 31) (i := 3) dX0_singleRoots_30 rfl rfl rfl ?_
      refine ev_if_eq (tgt := 80) (pc' := 34) dX0_singleRoots_31 rfl rfl (fun h => absurd h (by decide)) (fun _ => ?_)
      refine ev_iload_n (pc' := 35) (i := 3) dX0_singleRoots_34 rfl rfl rfl ?_
      refine ev_bipush (pc' := 37) (v := 10) dX0_singleRoots_35 rfl kb_10 ?_
      refine ev_irem (pc' := 38) (v := 5) dX0_singleRoots_37 rfl (by decide) (by decide) ?_
      refine ev_istore (pc' := 40) (lv' := [some (.ref 12), some (.int 0), some (.int 0), some (.int 55), some (.int 0), some (.int 5)]) dX0_singleRoots_38 rfl (Nat.le_of_ble_eq_true rfl) rfl rfl ?_
      refine ev_iload_n (pc' := 41) (i := 3) dX0_singleRoots_40 rfl rfl rfl ?_
      refine ev_bipush (pc' := 43) (v := 10) dX0_singleRoots_41 rfl kb_10 ?_
      refine ev_idiv (pc' := 44) (v := 5) dX0_singleRoots_43 rfl (by decide) (by decide) ?_
      refine ev_istore_n (pc' := 45) (i := 3) (lv' := [some (.ref 12), some (.int 0), some (.int 0), some (.int 5), some (.int 0), some (.int 5)]) dX0_singleRoots_44 rfl rfl (Nat.le_of_ble_eq_true rfl) rfl rfl ?_
      refine ev_iload (pc' := 47) dX0_singleRoots_45 rfl rfl ?_
      refine ev_iconst (pc' := 48) (v := 5) dX0_singleRoots_47 rfl ki_5 ?_
      refine ev_icmp_lt (tgt := 54) (pc' := 51) dX0_singleRoots_48 rfl rfl (fun h => absurd h (by decide)) (fun _ => ?_)
      refine ev_goto (tgt := 74) dX0_singleRoots_51 rfl ?_
      refine ev_iinc (pc' := 77) (v := 1) (lv' := [some (.ref 12), some (.int 0), some (.int 0), some (.int 5), some (.int 1), some (.int 5)]) dX0_singleRoots_74 rfl rfl (by decide) (Nat.le_of_ble_eq_true rfl) rfl rfl ?_
      refine ev_goto (tgt := 24) dX0_singleRoots_77 rfl ?_
      refine ev_iload (pc' := 26) dX0_singleRoots_24 rfl rfl ?_
      refine ev_iconst (pc' := 27) (v := 4) dX0_singleRoots_26 rfl ki_4 ?_
      refine ev_icmp_ge (tgt := 80) (pc' := 30) dX0_singleRoots_27 rfl rfl (fun h => absurd h (by decide)) (fun _ => ?_)
      refine ev_iload_n (pc' := 31) (i := 3) dX0_singleRoots_30 rfl rfl rfl ?_
      refine ev_if_eq (tgt := 80) (pc' := 34) dX0_singleRoots_31 rfl rfl (fun h => absurd h (by decide)) (fun _ => ?_)
      refine ev_iload_n (pc' := 35) (i := 3) dX0_singleRoots_34 rfl rfl rfl ?_
      refine ev_bipush (pc' := 37) (v := 10) dX0_singleRoots_35 rfl kb_10 ?_
      refine ev_irem (pc' := 38) (v := 5) dX0_singleRoots_37 rfl (by decide) (by decide) ?_
      refine ev_istore (pc' := 40) (lv' := [some (.ref 12), some (.int 0), some (.int 0), some (.int 5), some (.int 1), some (.int 5)]) dX0_singleRoots_38 rfl (Nat.le_of_ble_eq_true rfl) rfl rfl ?_
      refine ev_iload_n (pc' := 41) (i := 3) dX0_singleRoots_40 rfl rfl rfl ?_
      refine ev_bipush (pc' := 43) (v := 10) dX0_singleRoots_41 rfl kb_10 ?_
      refine ev_idiv (pc' := 44) (v := 0) dX0_singleRoots_43 rfl (by decide) (by decide) ?_
      refine ev_istore_n (pc' := 45) (i := 3) (lv' := [some (.ref 12), some (.int 0), some (.int 0), some (.int 0), some (.int 1), some (.int 5)]) dX0_singleRoots_44 rfl rfl (Nat.le_of_ble_eq_true rfl) rfl rfl ?_
      refine ev_iload (pc' := 47) dX0_singleRoots_45 rfl rfl ?_
      refine ev_iconst (pc' := 48) (v := 5) dX0_singleRoots_47 rfl ki_5 ?_
      refine ev_icmp_lt (tgt := 54) (pc' := 51) dX0_singleRoots_48 rfl rfl (fun h => absurd h (by decide)) (fun _ => ?_)
      refine ev_goto (tgt := 74) dX0_singleRoots_51 rfl ?_
      refine ev_iinc (pc' := 77) (v := 2) (lv' := [some (.ref 12), some (.int 0), some (.int 0), some (.int 0), some (.int 2), some (.int 5)]) dX0_singleRoots_74 rfl rfl (by decide) (Nat.le_of_ble_eq_true rfl) rfl rfl ?_
      refine ev_goto (tgt := 24) dX0_singleRoots_77 rfl ?_
      refine ev_iload (pc' := 26) dX0_singleRoots_24 rfl rfl ?_
      refine ev_iconst (pc' := 27) (v := 4) dX0_singleRoots_26 rfl ki_4 ?_
      refine ev_icmp_ge (tgt := 80) (pc' := 30) dX0_singleRoots_27 rfl rfl (fun h => absurd h (by decide)) (fun _ => ?_)
      refine ev_iload_n (pc' := 31) (i := 3) dX0_singleRoots_30 rfl rfl rfl ?_
      refine ev_if_eq (tgt := 80) (pc' := 34) dX0_singleRoots_31 rfl rfl (fun _ => ?_) (fun h => absurd (by decide) h)
      refine ev_iload_n (pc' := 81) (i := 2) dX0_singleRoots_80 rfl rfl rfl ?_
      refine ev_iret dX0_singleRoots_81 rfl rfl ⟨Nat.le_refl _, Nat.le_refl _⟩ ?_
      have e : (if (L 13) 0 = 0 then cS1 (cFig (L 13) ((L 12) 5) ((L 12) 6)) else cS0 (cFig (L 13) ((L 12) 5) ((L 12) 6))) = 0 := by rw [if_neg h20, g50]; decide
      rw [e] at k0
      exact k0 _ _ _ _
    · rw [g50] at hr
      subst hr
      refine ev_istore_n (pc' := 21) (i := 3) (lv' := [some (.ref 12), some (.int 0), some (.int 0), some (.int 112), none, none]) dX0_singleRoots_20 rfl rfl (Nat.le_of_ble_eq_true rfl) rfl rfl ?_
      refine ev_iconst (pc' := 22) (v := 0) dX0_singleRoots_21 rfl ki_0 ?_
      refine ev_istore (pc' := 24) (lv' := [some (.ref 12), some (.int 0), some (.int 0), some (.int 112), some (.int 0), none]) dX0_singleRoots_22 rfl (Nat.le_of_ble_eq_true rfl) rfl rfl ?_
      refine ev_iload (pc' := 26) dX0_singleRoots_24 rfl rfl ?_
      refine ev_iconst (pc' := 27) (v := 4) dX0_singleRoots_26 rfl ki_4 ?_
      refine ev_icmp_ge (tgt := 80) (pc' := 30) dX0_singleRoots_27 rfl rfl (fun h => absurd h (by decide)) (fun _ => ?_)
      refine ev_iload_n (pc' := 31) (i := 3) dX0_singleRoots_30 rfl rfl rfl ?_
      refine ev_if_eq (tgt := 80) (pc' := 34) dX0_singleRoots_31 rfl rfl (fun h => absurd h (by decide)) (fun _ => ?_)
      refine ev_iload_n (pc' := 35) (i := 3) dX0_singleRoots_34 rfl rfl rfl ?_
      refine ev_bipush (pc' := 37) (v := 10) dX0_singleRoots_35 rfl kb_10 ?_
      refine ev_irem (pc' := 38) (v := 2) dX0_singleRoots_37 rfl (by decide) (by decide) ?_
      refine ev_istore (pc' := 40) (lv' := [some (.ref 12), some (.int 0), some (.int 0), some (.int 112), some (.int 0), some (.int 2)]) dX0_singleRoots_38 rfl (Nat.le_of_ble_eq_true rfl) rfl rfl ?_
      refine ev_iload_n (pc' := 41) (i := 3) dX0_singleRoots_40 rfl rfl rfl ?_
      refine ev_bipush (pc' := 43) (v := 10) dX0_singleRoots_41 rfl kb_10 ?_
      refine ev_idiv (pc' := 44) (v := 11) dX0_singleRoots_43 rfl (by decide) (by decide) ?_
      refine ev_istore_n (pc' := 45) (i := 3) (lv' := [some (.ref 12), some (.int 0), some (.int 0), some (.int 11), some (.int 0), some (.int 2)]) dX0_singleRoots_44 rfl rfl (Nat.le_of_ble_eq_true rfl) rfl rfl ?_
      refine ev_iload (pc' := 47) dX0_singleRoots_45 rfl rfl ?_
      refine ev_iconst (pc' := 48) (v := 5) dX0_singleRoots_47 rfl ki_5 ?_
      refine ev_icmp_lt (tgt := 54) (pc' := 51) dX0_singleRoots_48 rfl rfl (fun _ => ?_) (fun h => absurd (by decide) h)
      refine ev_iload_n (pc' := 55) (i := 1) dX0_singleRoots_54 rfl rfl rfl ?_
      refine ev_if_eq (tgt := 63) (pc' := 58) dX0_singleRoots_55 rfl rfl (fun _ => ?_) (fun h => absurd (by decide) h)
      refine ev_iload (pc' := 65) dX0_singleRoots_63 rfl rfl ?_
      refine ev_iconst (pc' := 66) (v := 1) dX0_singleRoots_65 rfl ki_1 ?_
      refine ev_icmp_le (tgt := 71) (pc' := 69) dX0_singleRoots_66 rfl rfl (fun h => absurd h (by decide)) (fun _ => ?_)
      refine ev_iconst (pc' := 70) (v := (-1)) dX0_singleRoots_69 rfl ki_m1 ?_
      refine ev_iret dX0_singleRoots_70 rfl rfl ⟨Nat.le_refl _, Nat.le_refl _⟩ ?_
      have e : (if (L 13) 0 = 0 then cS1 (cFig (L 13) ((L 12) 5) ((L 12) 6)) else cS0 (cFig (L 13) ((L 12) 5) ((L 12) 6))) = (-1) := by rw [if_neg h20, g50]; decide
      rw [e] at k0
      exact k0 _ _ _ _
    · rw [g50] at hr
      subst hr
      refine ev_istore_n (pc' := 21) (i := 3) (lv' := [some (.ref 12), some (.int 0), some (.int 0), some (.int 115), none, none]) dX0_singleRoots_20 rfl rfl (Nat.le_of_ble_eq_true rfl) rfl rfl ?_
      refine ev_iconst (pc' := 22) (v := 0) dX0_singleRoots_21 rfl ki_0 ?_
      refine ev_istore (pc' := 24) (lv' := [some (.ref 12), some (.int 0), some (.int 0), some (.int 115), some (.int 0), none]) dX0_singleRoots_22 rfl (Nat.le_of_ble_eq_true rfl) rfl rfl ?_
      refine ev_iload (pc' := 26) dX0_singleRoots_24 rfl rfl ?_
      refine ev_iconst (pc' := 27) (v := 4) dX0_singleRoots_26 rfl ki_4 ?_
      refine ev_icmp_ge (tgt := 80) (pc' := 30) dX0_singleRoots_27 rfl rfl (fun h => absurd h (by decide)) (fun _ => ?_)
      refine ev_iload_n (pc' := 31) (i := 3) dX0_singleRoots_30 rfl rfl rfl ?_
      refine ev_if_eq (tgt := 80) (pc' := 34) dX0_singleRoots_31 rfl rfl (fun h => absurd h (by decide)) (fun _ => ?_)
      refine ev_iload_n (pc' := 35) (i := 3) dX0_singleRoots_34 rfl rfl rfl ?_
      refine ev_bipush (pc' := 37) (v := 10) dX0_singleRoots_35 rfl kb_10 ?_
      refine ev_irem (pc' := 38) (v := 5) dX0_singleRoots_37 rfl (by decide) (by decide) ?_
      refine ev_istore (pc' := 40) (lv' := [some (.ref 12), some (.int 0), some (.int 0), some (.int 115), some (.int 0), some (.int 5)]) dX0_singleRoots_38 rfl (Nat.le_of_ble_eq_true rfl) rfl rfl ?_
      refine ev_iload_n (pc' := 41) (i := 3) dX0_singleRoots_40 rfl rfl rfl ?_
      refine ev_bipush (pc' := 43) (v := 10) dX0_singleRoots_41 rfl kb_10 ?_
      refine ev_idiv (pc' := 44) (v := 11) dX0_singleRoots_43 rfl (by decide) (by decide) ?_
      refine ev_istore_n (pc' := 45) (i := 3) (lv' := [some (.ref 12), some (.int 0), some (.int 0), some (.int 11), some (.int 0), some (.int 5)]) dX0_singleRoots_44 rfl rfl (Nat.le_of_ble_eq_true rfl) rfl rfl ?_
      refine ev_iload (pc' := 47) dX0_singleRoots_45 rfl rfl ?_
      refine ev_iconst (pc' := 48) (v := 5) dX0_singleRoots_47 rfl ki_5 ?_
      refine ev_icmp_lt (tgt := 54) (pc' := 51) dX0_singleRoots_48 rfl rfl (fun h => absurd h (by decide)) (fun _ => ?_)
      refine ev_goto (tgt := 74) dX0_singleRoots_51 rfl ?_
      refine ev_iinc (pc' := 77) (v := 1) (lv' := [some (.ref 12), some (.int 0), some (.int 0), some (.int 11), some (.int 1), some (.int 5)]) dX0_singleRoots_74 rfl rfl (by decide) (Nat.le_of_ble_eq_true rfl) rfl rfl ?_
      refine ev_goto (tgt := 24) dX0_singleRoots_77 rfl ?_
      refine ev_iload (pc' := 26) dX0_singleRoots_24 rfl rfl ?_
      refine ev_iconst (pc' := 27) (v := 4) dX0_singleRoots_26 rfl ki_4 ?_
      refine ev_icmp_ge (tgt := 80) (pc' := 30) dX0_singleRoots_27 rfl rfl (fun h => absurd h (by decide)) (fun _ => ?_)
      refine ev_iload_n (pc' := 31) (i := 3) dX0_singleRoots_30 rfl rfl rfl ?_
      refine ev_if_eq (tgt := 80) (pc' := 34) dX0_singleRoots_31 rfl rfl (fun h => absurd h (by decide)) (fun _ => ?_)
      refine ev_iload_n (pc' := 35) (i := 3) dX0_singleRoots_34 rfl rfl rfl ?_
      refine ev_bipush (pc' := 37) (v := 10) dX0_singleRoots_35 rfl kb_10 ?_
      refine ev_irem (pc' := 38) (v := 1) dX0_singleRoots_37 rfl (by decide) (by decide) ?_
      refine ev_istore (pc' := 40) (lv' := [some (.ref 12), some (.int 0), some (.int 0), some (.int 11), some (.int 1), some (.int 1)]) dX0_singleRoots_38 rfl (Nat.le_of_ble_eq_true rfl) rfl rfl ?_
      refine ev_iload_n (pc' := 41) (i := 3) dX0_singleRoots_40 rfl rfl rfl ?_
      refine ev_bipush (pc' := 43) (v := 10) dX0_singleRoots_41 rfl kb_10 ?_
      refine ev_idiv (pc' := 44) (v := 1) dX0_singleRoots_43 rfl (by decide) (by decide) ?_
      refine ev_istore_n (pc' := 45) (i := 3) (lv' := [some (.ref 12), some (.int 0), some (.int 0), some (.int 1), some (.int 1), some (.int 1)]) dX0_singleRoots_44 rfl rfl (Nat.le_of_ble_eq_true rfl) rfl rfl ?_
      refine ev_iload (pc' := 47) dX0_singleRoots_45 rfl rfl ?_
      refine ev_iconst (pc' := 48) (v := 5) dX0_singleRoots_47 rfl ki_5 ?_
      refine ev_icmp_lt (tgt := 54) (pc' := 51) dX0_singleRoots_48 rfl rfl (fun _ => ?_) (fun h => absurd (by decide) h)
      refine ev_iload_n (pc' := 55) (i := 1) dX0_singleRoots_54 rfl rfl rfl ?_
      refine ev_if_eq (tgt := 63) (pc' := 58) dX0_singleRoots_55 rfl rfl (fun _ => ?_) (fun h => absurd (by decide) h)
      refine ev_iload (pc' := 65) dX0_singleRoots_63 rfl rfl ?_
      refine ev_iconst (pc' := 66) (v := 1) dX0_singleRoots_65 rfl ki_1 ?_
      refine ev_icmp_le (tgt := 71) (pc' := 69) dX0_singleRoots_66 rfl rfl (fun _ => ?_) (fun h => absurd (by decide) h)
      refine ev_iinc (pc' := 74) (v := 1) (lv' := [some (.ref 12), some (.int 0), some (.int 1), some (.int 1), some (.int 1), some (.int 1)]) dX0_singleRoots_71 rfl rfl (by decide) (Nat.le_of_ble_eq_true rfl) rfl rfl ?_
      refine ev_iinc (pc' := 77) (v := 2) (lv' := [some (.ref 12), some (.int 0), some (.int 1), some (.int 1), some (.int 2), some (.int 1)]) dX0_singleRoots_74 rfl rfl (by decide) (Nat.le_of_ble_eq_true rfl) rfl rfl ?_
      refine ev_goto (tgt := 24) dX0_singleRoots_77 rfl ?_
      refine ev_iload (pc' := 26) dX0_singleRoots_24 rfl rfl ?_
      refine ev_iconst (pc' := 27) (v := 4) dX0_singleRoots_26 rfl ki_4 ?_
      refine ev_icmp_ge (tgt := 80) (pc' := 30) dX0_singleRoots_27 rfl rfl (fun h => absurd h (by decide)) (fun _ => ?_)
      refine ev_iload_n (pc' := 31) (i := 3) dX0_singleRoots_30 rfl rfl rfl ?_
      refine ev_if_eq (tgt := 80) (pc' := 34) dX0_singleRoots_31 rfl rfl (fun h => absurd h (by decide)) (fun _ => ?_)
      refine ev_iload_n (pc' := 35) (i := 3) dX0_singleRoots_34 rfl rfl rfl ?_
      refine ev_bipush (pc' := 37) (v := 10) dX0_singleRoots_35 rfl kb_10 ?_
      refine ev_irem (pc' := 38) (v := 1) dX0_singleRoots_37 rfl (by decide) (by decide) ?_
      refine ev_istore (pc' := 40) (lv' := [some (.ref 12), some (.int 0), some (.int 1), some (.int 1), some (.int 2), some (.int 1)]) dX0_singleRoots_38 rfl (Nat.le_of_ble_eq_true rfl) rfl rfl ?_
      refine ev_iload_n (pc' := 41) (i := 3) dX0_singleRoots_40 rfl rfl rfl ?_
      refine ev_bipush (pc' := 43) (v := 10) dX0_singleRoots_41 rfl kb_10 ?_
      refine ev_idiv (pc' := 44) (v := 0) dX0_singleRoots_43 rfl (by decide) (by decide) ?_
      refine ev_istore_n (pc' := 45) (i := 3) (lv' := [some (.ref 12), some (.int 0), some (.int 1), some (.int 0), some (.int 2), some (.int 1)]) dX0_singleRoots_44 rfl rfl (Nat.le_of_ble_eq_true rfl) rfl rfl ?_
      refine ev_iload (pc' := 47) dX0_singleRoots_45 rfl rfl ?_
      refine ev_iconst (pc' := 48) (v := 5) dX0_singleRoots_47 rfl ki_5 ?_
      refine ev_icmp_lt (tgt := 54) (pc' := 51) dX0_singleRoots_48 rfl rfl (fun _ => ?_) (fun h => absurd (by decide) h)
      refine ev_iload_n (pc' := 55) (i := 1) dX0_singleRoots_54 rfl rfl rfl ?_
      refine ev_if_eq (tgt := 63) (pc' := 58) dX0_singleRoots_55 rfl rfl (fun _ => ?_) (fun h => absurd (by decide) h)
      refine ev_iload (pc' := 65) dX0_singleRoots_63 rfl rfl ?_
      refine ev_iconst (pc' := 66) (v := 1) dX0_singleRoots_65 rfl ki_1 ?_
      refine ev_icmp_le (tgt := 71) (pc' := 69) dX0_singleRoots_66 rfl rfl (fun _ => ?_) (fun h => absurd (by decide) h)
      refine ev_iinc (pc' := 74) (v := 2) (lv' := [some (.ref 12), some (.int 0), some (.int 2), some (.int 0), some (.int 2), some (.int 1)]) dX0_singleRoots_71 rfl rfl (by decide) (Nat.le_of_ble_eq_true rfl) rfl rfl ?_
      refine ev_iinc (pc' := 77) (v := 3) (lv' := [some (.ref 12), some (.int 0), some (.int 2), some (.int 0), some (.int 3), some (.int 1)]) dX0_singleRoots_74 rfl rfl (by decide) (Nat.le_of_ble_eq_true rfl) rfl rfl ?_
      refine ev_goto (tgt := 24) dX0_singleRoots_77 rfl ?_
      refine ev_iload (pc' := 26) dX0_singleRoots_24 rfl rfl ?_
      refine ev_iconst (pc' := 27) (v := 4) dX0_singleRoots_26 rfl ki_4 ?_
      refine ev_icmp_ge (tgt := 80) (pc' := 30) dX0_singleRoots_27 rfl rfl (fun h => absurd h (by decide)) (fun _ => ?_)
      refine ev_iload_n (pc' := 31) (i := 3) dX0_singleRoots_30 rfl rfl rfl ?_
      refine ev_if_eq (tgt := 80) (pc' := 34) dX0_singleRoots_31 rfl rfl (fun _ => ?_) (fun h => absurd (by decide) h)
      refine ev_iload_n (pc' := 81) (i := 2) dX0_singleRoots_80 rfl rfl rfl ?_
      refine ev_iret dX0_singleRoots_81 rfl rfl ⟨Nat.le_refl _, Nat.le_refl _⟩ ?_
      have e : (if (L 13) 0 = 0 then cS1 (cFig (L 13) ((L 12) 5) ((L 12) 6)) else cS0 (cFig (L 13) ((L 12) 5) ((L 12) 6))) = 2 := by rw [if_neg h20, g50]; decide
      rw [e] at k0
      exact k0 _ _ _ _
    · rw [g50] at hr
      subst hr
      refine ev_istore_n (pc' := 21) (i := 3) (lv' := [some (.ref 12), some (.int 0), some (.int 0), some (.int 121), none, none]) dX0_singleRoots_20 rfl rfl (Nat.le_of_ble_eq_true rfl) rfl rfl ?_
      refine ev_iconst (pc' := 22) (v := 0) dX0_singleRoots_21 rfl ki_0 ?_
      refine ev_istore (pc' := 24) (lv' := [some (.ref 12), some (.int 0), some (.int 0), some (.int 121), some (.int 0), none]) dX0_singleRoots_22 rfl (Nat.le_of_ble_eq_true rfl) rfl rfl ?_
      refine ev_iload (pc' := 26) dX0_singleRoots_24 rfl rfl ?_
      refine ev_iconst (pc' := 27) (v := 4) dX0_singleRoots_26 rfl ki_4 ?_
      refine ev_icmp_ge (tgt := 80) (pc' := 30) dX0_singleRoots_27 rfl rfl (fun h => absurd h (by decide)) (fun _ => ?_)
      refine ev_iload_n (pc' := 31) (i := 3) dX0_singleRoots_30 rfl rfl rfl ?_
      refine ev_if_eq (tgt := 80) (pc' := 34) dX0_singleRoots_31 rfl rfl (fun h => absurd h (by decide)) (fun _ => ?_)
      refine ev_iload_n (pc' := 35) (i := 3) dX0_singleRoots_34 rfl rfl rfl ?_
      refine ev_bipush (pc' := 37) (v := 10) dX0_singleRoots_35 rfl kb_10 ?_
      refine ev_irem (pc' := 38) (v := 1) dX0_singleRoots_37 rfl (by decide) (by decide) ?_
      refine ev_istore (pc' := 40) (lv' := [some (.ref 12), some (.int 0), some (.int 0), some (.int 121), some (.int 0), some (.int 1)]) dX0_singleRoots_38 rfl (Nat.le_of_ble_eq_true rfl) rfl rfl ?_
      refine ev_iload_n (pc' := 41) (i := 3) dX0_singleRoots_40 rfl rfl rfl ?_
      refine ev_bipush (pc' := 43) (v := 10) dX0_singleRoots_41 rfl kb_10 ?_
      refine ev_idiv (pc' := 44) (v := 12) dX0_singleRoots_43 rfl (by decide) (by decide) ?_
      refine ev_istore_n (pc' := 45) (i := 3) (lv' := [some (.ref 12), some (.int 0), some (.int 0), some (.int 12), some (.int 0), some (.int 1)]) dX0_singleRoots_44 rfl rfl (Nat.le_of_ble_eq_true rfl) rfl rfl ?_
      refine ev_iload (pc' := 47) dX0_singleRoots_45 rfl rfl ?_
      refine ev_iconst (pc' := 48) (v := 5) dX0_singleRoots_47 rfl ki_5 ?_
      refine ev_icmp_lt (tgt := 54) (pc' := 51) dX0_singleRoots_48 rfl rfl (fun _ => ?_) (fun h => absurd (by decide) h)
      refine ev_iload_n (pc' := 55) (i := 1) dX0_singleRoots_54 rfl rfl rfl ?_
      refine ev_if_eq (tgt := 63) (pc' := 58) dX0_singleRoots_55 rfl rfl (fun _ => ?_) (fun h => absurd (by decide) h)
      refine ev_iload (pc' := 65) dX0_singleRoots_63 rfl rfl ?_
      refine ev_iconst (pc' := 66) (v := 1) dX0_singleRoots_65 rfl ki_1 ?_
      refine ev_icmp_le (tgt := 71) (pc' := 69) dX0_singleRoots_66 rfl rfl (fun _ => ?_) (fun h => absurd (by decide) h)
      refine ev_iinc (pc' := 74) (v := 1) (lv' := [some (.ref 12), some (.int 0), some (.int 1), some (.int 12), some (.int 0), some (.int 1)]) dX0_singleRoots_71 rfl rfl (by decide) (Nat.le_of_ble_eq_true rfl) rfl rfl ?_
      refine ev_iinc (pc' := 77) (v := 1) (lv' := [some (.ref 12), some (.int 0), some (.int 1), some (.int 12), some (.int 1), some (.int 1)]) dX0_singleRoots_74 rfl rfl (by decide) (Nat.le_of_ble_eq_true rfl) rfl rfl ?_
      refine ev_goto (tgt := 24) dX0_singleRoots_77 rfl ?_
      refine ev_iload (pc' := 26) dX0_singleRoots_24 rfl rfl ?_
      refine ev_iconst (pc' := 27) (v := 4) dX0_singleRoots_26 rfl ki_4 ?_
      refine ev_icmp_ge (tgt := 80) (pc' := 30) dX0_singleRoots_27 rfl rfl (fun h => absurd h (by decide)) (fun _ => ?_)
      refine ev_iload_n (pc' := 31) (i := 3) dX0_singleRoots_30 rfl rfl rfl ?_
      refine ev_if_eq (tgt := 80) (pc' := 34) dX0_singleRoots_31 rfl rfl (fun h => absurd h (by decide)) (fun _ => ?_)
      refine ev_iload_n (pc' := 35) (i := 3) dX0_singleRoots_34 rfl rfl rfl ?_
      refine ev_bipush (pc' := 37) (v := 10) dX0_singleRoots_35 rfl kb_10 ?_
      refine ev_irem (pc' := 38) (v := 2) dX0_singleRoots_37 rfl (by decide) (by decide) ?_
      refine ev_istore (pc' := 40) (lv' := [some (.ref 12), some (.int 0), some (.int 1), some (.int 12), some (.int 1), some (.int 2)]) dX0_singleRoots_38 rfl (Nat.le_of_ble_eq_true rfl) rfl rfl ?_
      refine ev_iload_n (pc' := 41) (i := 3) dX0_singleRoots_40 rfl rfl rfl ?_
      refine ev_bipush (pc' := 43) (v := 10) dX0_singleRoots_41 rfl kb_10 ?_
      refine ev_idiv (pc' := 44) (v := 1) dX0_singleRoots_43 rfl (by decide) (by decide) ?_
      refine ev_istore_n (pc' := 45) (i := 3) (lv' := [some (.ref 12), some (.int 0), some (.int 1), some (.int 1), some (.int 1), some (.int 2)]) dX0_singleRoots_44 rfl rfl (Nat.le_of_ble_eq_true rfl) rfl rfl ?_
      refine ev_iload (pc' := 47) dX0_singleRoots_45 rfl rfl ?_
      refine ev_iconst (pc' := 48) (v := 5) dX0_singleRoots_47 rfl ki_5 ?_
      refine ev_icmp_lt (tgt := 54) (pc' := 51) dX0_singleRoots_48 rfl rfl (fun _ => ?_) (fun h => absurd (by decide) h)
      refine ev_iload_n (pc' := 55) (i := 1) dX0_singleRoots_54 rfl rfl rfl ?_
      refine ev_if_eq (tgt := 63) (pc' := 58) dX0_singleRoots_55 rfl rfl (fun _ => ?_) (fun h => absurd (by decide) h)
      refine ev_iload (pc' := 65) dX0_singleRoots_63 rfl rfl ?_
      refine ev_iconst (pc' := 66) (v := 1) dX0_singleRoots_65 rfl ki_1 ?_
      refine ev_icmp_le (tgt := 71) (pc' := 69) dX0_singleRoots_66 rfl rfl (fun h => absurd h (by decide)) (fun _ => ?_)
      refine ev_iconst (pc' := 70) (v := (-1)) dX0_singleRoots_69 rfl ki_m1 ?_
      refine ev_iret dX0_singleRoots_70 rfl rfl ⟨Nat.le_refl _, Nat.le_refl _⟩ ?_
      have e : (if (L 13) 0 = 0 then cS1 (cFig (L 13) ((L 12) 5) ((L 12) 6)) else cS0 (cFig (L 13) ((L 12) 5) ((L 12) 6))) = (-1) := by rw [if_neg h20, g50]; decide
      rw [e] at k0
      exact k0 _ _ _ _
    · rw [g50] at hr
      subst hr
      refine ev_istore_n (pc' := 21) (i := 3) (lv' := [some (.ref 12), some (.int 0), some (.int 0), some (.int 211), none, none]) dX0_singleRoots_20 rfl rfl (Nat.le_of_ble_eq_true rfl) rfl rfl ?_
      refine ev_iconst (pc' := 22) (v := 0) dX0_singleRoots_21 rfl ki_0 ?_
      refine ev_istore (pc' := 24) (lv' := [some (.ref 12), some (.int 0), some (.int 0), some (.int 211), some (.int 0), none]) dX0_singleRoots_22 rfl (Nat.le_of_ble_eq_true rfl) rfl rfl ?_
      refine ev_iload (pc' := 26) dX0_singleRoots_24 rfl rfl ?_
      refine ev_iconst (pc' := 27) (v := 4) dX0_singleRoots_26 rfl ki_4 ?_
      refine ev_icmp_ge (tgt := 80) (pc' := 30) dX0_singleRoots_27 rfl rfl (fun h => absurd h (by decide)) (fun _ => ?_)
      refine ev_iload_n (pc' := 31) (i := 3) dX0_singleRoots_30 rfl rfl rfl ?_
      refine ev_if_eq (tgt := 80) (pc' := 34) dX0_singleRoots_31 rfl rfl (fun h => absurd h (by decide)) (fun _ => ?_)
      refine ev_iload_n (pc' := 35) (i := 3) dX0_singleRoots_34 rfl rfl rfl ?_
      refine ev_bipush (pc' := 37) (v := 10) dX0_singleRoots_35 rfl kb_10 ?_
      refine ev_irem (pc' := 38) (v := 1) dX0_singleRoots_37 rfl (by decide) (by decide) ?_
      refine ev_istore (pc' := 40) (lv' := [some (.ref 12), some (.int 0), some (.int 0), some (.int 211), some (.int 0), some (.int 1)]) dX0_singleRoots_38 rfl (Nat.le_of_ble_eq_true rfl) rfl rfl ?_
      refine ev_iload_n (pc' := 41) (i := 3) dX0_singleRoots_40 rfl rfl rfl ?_
      refine ev_bipush (pc' := 43) (v := 10) dX0_singleRoots_41 rfl kb_10 ?_
      refine ev_idiv (pc' := 44) (v := 21) dX0_singleRoots_43 rfl (by decide) (by decide) ?_
      refine ev_istore_n (pc' := 45) (i := 3) (lv' := [some (.ref 12), some (.int 0), some (.int 0), some (.int 21), some (.int 0), some (.int 1)]) dX0_singleRoots_44 rfl rfl (Nat.le_of_ble_eq_true rfl) rfl rfl ?_
      refine ev_iload (pc' := 47) dX0_singleRoots_45 rfl rfl ?_
      refine ev_iconst (pc' := 48) (v := 5) dX0_singleRoots_47 rfl ki_5 ?_
      refine ev_icmp_lt (tgt := 54) (pc' := 51) dX0_singleRoots_48 rfl rfl (fun _ => ?_) (fun h => absurd (by decide) h)
      refine ev_iload_n (pc' := 55) (i := 1) dX0_singleRoots_54 rfl rfl rfl ?_
      refine ev_if_eq (tgt := 63) (pc' := 58) dX0_singleRoots_55 rfl rfl (fun _ => ?_) (fun h => absurd (by decide) h)
      refine ev_iload (pc' := 65) dX0_singleRoots_63 rfl rfl ?_
      refine ev_iconst (pc' := 66) (v := 1) dX0_singleRoots_65 rfl ki_1 ?_
      refine ev_icmp_le (tgt := 71) (pc' := 69) dX0_singleRoots_66 rfl rfl (fun _ => ?_) (fun h => absurd (by decide) h)
      refine ev_iinc (pc' := 74) (v := 1) (lv' := [some (.ref 12), some (.int 0), some (.int 1), some (.int 21), some (.int 0), some (.int 1)]) dX0_singleRoots_71 rfl rfl (by decide) (Nat.le_of_ble_eq_true rfl) rfl rfl ?_
      refine ev_iinc (pc' := 77) (v := 1) (lv' := [some (.ref 12), some (.int 0), some (.int 1), some (.int 21), some (.int 1), some (.int 1)]) dX0_singleRoots_74 rfl rfl (by decide) (Nat.le_of_ble_eq_true rfl) rfl rfl ?_
      refine ev_goto (tgt := 24) dX0_singleRoots_77 rfl ?_
      refine ev_iload (pc' := 26) dX0_singleRoots_24 rfl rfl ?_
      refine ev_iconst (pc' := 27) (v := 4) dX0_singleRoots_26 rfl ki_4 ?_
      refine ev_icmp_ge (tgt := 80) (pc' := 30) dX0_singleRoots_27 rfl rfl (fun h => absurd h (by decide)) (fun _ => ?_)
      refine ev_iload_n (pc' := 31) (i := 3) dX0_singleRoots_30 rfl rfl rfl ?_
      refine ev_if_eq (tgt := 80) (pc' := 34) dX0_singleRoots_31 rfl rfl (fun h => absurd h (by decide)) (fun _ => ?_)
      refine ev_iload_n (pc' := 35) (i := 3) dX0_singleRoots_34 rfl rfl rfl ?_
      refine ev_bipush (pc' := 37) (v := 10) dX0_singleRoots_35 rfl kb_10 ?_
      refine ev_irem (pc' := 38) (v := 1) dX0_singleRoots_37 rfl (by decide) (by decide) ?_
      refine ev_istore (pc' := 40) (lv' := [some (.ref 12), some (.int 0), some (.int 1), some (.int 21), some (.int 1), some (.int 1)]) dX0_singleRoots_38 rfl (Nat.le_of_ble_eq_true rfl) rfl rfl ?_
      refine ev_iload_n (pc' := 41) (i := 3) dX0_singleRoots_40 rfl rfl rfl ?_
      refine ev_bipush (pc' := 43) (v := 10) dX0_singleRoots_41 rfl kb_10 ?_
      refine ev_idiv (pc' := 44) (v := 2) dX0_singleRoots_43 rfl (by decide) (by decide) ?_
      refine ev_istore_n (pc' := 45) (i := 3) (lv' := [some (.ref 12), some (.int 0), some (.int 1), some (.int 2), some (.int 1), some (.int 1)]) dX0_singleRoots_44 rfl rfl (Nat.le_of_ble_eq_true rfl) rfl rfl ?_
      refine ev_iload (pc' := 47) dX0_singleRoots_45 rfl rfl ?_
      refine ev_iconst (pc' := 48) (v := 5) dX0_singleRoots_47 rfl ki_5 ?_
      refine ev_icmp_lt (tgt := 54) (pc' := 51) dX0_singleRoots_48 rfl rfl (fun _ => ?_) (fun h => absurd (by decide) h)
      refine ev_iload_n (pc' := 55) (i := 1) dX0_singleRoots_54 rfl rfl rfl ?_
      refine ev_if_eq (tgt := 63) (pc' := 58) dX0_singleRoots_55 rfl rfl (fun _ => ?_) (fun h => absurd (by decide) h)
      refine ev_iload (pc' := 65) dX0_singleRoots_63 rfl rfl ?_
      refine ev_iconst (pc' := 66) (v := 1) dX0_singleRoots_65 rfl ki_1 ?_
      refine ev_icmp_le (tgt := 71) (pc' := 69) dX0_singleRoots_66 rfl rfl (fun _ => ?_) (fun h => absurd (by decide) h)
      refine ev_iinc (pc' := 74) (v := 2) (lv' := [some (.ref 12), some (.int 0), some (.int 2), some (.int 2), some (.int 1), some (.int 1)]) dX0_singleRoots_71 rfl rfl (by decide) (Nat.le_of_ble_eq_true rfl) rfl rfl ?_
      refine ev_iinc (pc' := 77) (v := 2) (lv' := [some (.ref 12), some (.int 0), some (.int 2), some (.int 2), some (.int 2), some (.int 1)]) dX0_singleRoots_74 rfl rfl (by decide) (Nat.le_of_ble_eq_true rfl) rfl rfl ?_
      refine ev_goto (tgt := 24) dX0_singleRoots_77 rfl ?_
      refine ev_iload (pc' := 26) dX0_singleRoots_24 rfl rfl ?_
      refine ev_iconst (pc' := 27) (v := 4) dX0_singleRoots_26 rfl ki_4 ?_
      refine ev_icmp_ge (tgt := 80) (pc' := 30) dX0_singleRoots_27 rfl rfl (fun h => absurd h (by decide)) (fun _ => ?_)
      refine ev_iload_n (pc' := 31) (i := 3) dX0_singleRoots_30 rfl rfl rfl ?_
      refine ev_if_eq (tgt := 80) (pc' := 34) dX0_singleRoots_31 rfl rfl (fun h => absurd h (by decide)) (fun _ => ?_)
      refine ev_iload_n (pc' := 35) (i := 3) dX0_singleRoots_34 rfl rfl rfl ?_
      refine ev_bipush (pc' := 37) (v := 10) dX0_singleRoots_35 rfl kb_10 ?_
      refine ev_irem (pc' := 38) (v := 2) dX0_singleRoots_37 rfl (by decide) (by decide) ?_
      refine ev_istore (pc' := 40) (lv' := [some (.ref 12), some (.int 0), some (.int 2), some (.int 2), some (.int 2), some (.int 2)]) dX0_singleRoots_38 rfl (Nat.le_of_ble_eq_true rfl) rfl rfl ?_
      refine ev_iload_n (pc' := 41) (i := 3) dX0_singleRoots_40 rfl rfl rfl ?_
      refine ev_bipush (pc' := 43) (v := 10) dX0_singleRoots_41 rfl kb_10 ?_
      refine ev_idiv (pc' := 44) (v := 0) dX0_singleRoots_43 rfl (by decide) (by decide) ?_
      refine ev_istore_n (pc' := 45) (i := 3) (lv' := [some (.ref 12), some (.int 0), some (.int 2), some (.int 0), some (.int 2), some (.int 2)]) dX0_singleRoots_44 rfl rfl (Nat.le_of_ble_eq_true rfl) rfl rfl ?_
      refine ev_iload (pc' := 47) dX0_singleRoots_45 rfl rfl ?_
      refine ev_iconst (pc' := 48) (v := 5) dX0_singleRoots_47 rfl ki_5 ?_
      refine ev_icmp_lt (tgt := 54) (pc' := 51) dX0_singleRoots_48 rfl rfl (fun _ => ?_) (fun h => absurd (by decide) h)
      refine ev_iload_n (pc' := 55) (i := 1) dX0_singleRoots_54 rfl rfl rfl ?_
      refine ev_if_eq (tgt := 63) (pc' := 58) dX0_singleRoots_55 rfl rfl (fun _ => ?_) (fun h => absurd (by decide) h)
      refine ev_iload (pc' := 65) dX0_singleRoots_63 rfl rfl ?_
      refine ev_iconst (pc' := 66) (v := 1) dX0_singleRoots_65 rfl ki_1 ?_
      refine ev_icmp_le (tgt := 71) (pc' := 69) dX0_singleRoots_66 rfl rfl (fun h => absurd h (by decide)) (fun _ => ?_)
      refine ev_iconst (pc' := 70) (v := (-1)) dX0_singleRoots_69 rfl ki_m1 ?_
      refine ev_iret dX0_singleRoots_70 rfl rfl ⟨Nat.le_refl _, Nat.le_refl _⟩ ?_
      have e : (if (L 13) 0 = 0 then cS1 (cFig (L 13) ((L 12) 5) ((L 12) 6)) else cS0 (cFig (L 13) ((L 12) 5) ((L 12) 6))) = (-1) := by rw [if_neg h20, g50]; decide
      rw [e] at k0
      exact k0 _ _ _ _
    · rw [g50] at hr
      subst hr
      refine ev_istore_n (pc' := 21) (i := 3) (lv' := [some (.ref 12), some (.int 0), some (.int 0), some (.int 1111), none, none]) dX0_singleRoots_20 rfl rfl (Nat.le_of_ble_eq_true rfl) rfl rfl ?_
      refine ev_iconst (pc' := 22) (v := 0) dX0_singleRoots_21 rfl ki_0 ?_
      refine ev_istore (pc' := 24) (lv' := [some (.ref 12), some (.int 0), some (.int 0), some (.int 1111), some (.int 0), none]) dX0_singleRoots_22 rfl (Nat.le_of_ble_eq_true rfl) rfl rfl ?_
      refine ev_iload (pc' := 26) dX0_singleRoots_24 rfl rfl ?_
      refine ev_iconst (pc' := 27) (v := 4) dX0_singleRoots_26 rfl ki_4 ?_
      refine ev_icmp_ge (tgt := 80) (pc' := 30) dX0_singleRoots_27 rfl rfl (fun h => absurd h (by decide)) (fun _ => ?_)
      refine ev_iload_n (pc' := 31) (i := 3) dX0_singleRoots_30 rfl rfl rfl ?_
      refine ev_if_eq (tgt := 80) (pc' := 34) dX0_singleRoots_31 rfl rfl (fun h => absurd h (by decide)) (fun _ => ?_)
      refine ev_iload_n (pc' := 35) (i := 3) dX0_singleRoots_34 rfl rfl rfl ?_
      refine ev_bipush (pc' := 37) (v := 10) dX0_singleRoots_35 rfl kb_10 ?_
      refine ev_irem (pc' := 38) (v := 1) dX0_singleRoots_37 rfl (by decide) (by decide) ?_
      refine ev_istore (pc' := 40) (lv' := [some (.ref 12), some (.int 0), some (.int 0), some (.int 1111), some (.int 0), some (.int 1)]) dX0_singleRoots_38 rfl (Nat.le_of_ble_eq_true rfl) rfl rfl ?_
      refine ev_iload_n (pc' := 41) (i := 3) dX0_singleRoots_40 rfl rfl rfl ?_
      refine ev_bipush (pc' := 43) (v := 10) dX0_singleRoots_41 rfl kb_10 ?_
      refine ev_idiv (pc' := 44) (v := 111) dX0_singleRoots_43 rfl (by decide) (by decide) ?_
      refine ev_istore_n (pc' := 45) (i := 3) (lv' := [some (.ref 12), some (.int 0), some (.int 0), some (.int 111), some (.int 0), some (.int 1)]) dX0_singleRoots_44 rfl rfl (Nat.le_of_ble_eq_true rfl) rfl rfl ?_
      refine ev_iload (pc' := 47) dX0_singleRoots_45 rfl rfl ?_
      refine ev_iconst (pc' := 48) (v := 5) dX0_singleRoots_47 rfl ki_5 ?_
      refine ev_icmp_lt (tgt := 54) (pc' := 51) dX0_singleRoots_48 rfl rfl (fun _ => ?_) (fun h => absurd (by decide) h)
      refine ev_iload_n (pc' := 55) (i := 1) dX0_singleRoots_54 rfl rfl rfl ?_
      refine ev_if_eq (tgt := 63) (pc' := 58) dX0_singleRoots_55 rfl rfl (fun _ => ?_) (fun h => absurd (by decide) h)
      refine ev_iload (pc' := 65) dX0_singleRoots_63 rfl rfl ?_
      refine ev_iconst (pc' := 66) (v := 1) dX0_singleRoots_65 rfl ki_1 ?_
      refine ev_icmp_le (tgt := 71) (pc' := 69) dX0_singleRoots_66 rfl rfl (fun _ => ?_) (fun h => absurd (by decide) h)
      refine ev_iinc (pc' := 74) (v := 1) (lv' := [some (.ref 12), some (.int 0), some (.int 1), some (.int 111), some (.int 0), some (.int 1)]) dX0_singleRoots_71 rfl rfl (by decide) (Nat.le_of_ble_eq_true rfl) rfl rfl ?_
      refine ev_iinc (pc' := 77) (v := 1) (lv' := [some (.ref 12), some (.int 0), some (.int 1), some (.int 111), some (.int 1), some (.int 1)]) dX0_singleRoots_74 rfl rfl (by decide) (Nat.le_of_ble_eq_true rfl) rfl rfl ?_
      refine ev_goto (tgt := 24) dX0_singleRoots_77 rfl ?_
      refine ev_iload (pc' := 26) dX0_singleRoots_24 rfl rfl ?_
      refine ev_iconst (pc' := 27) (v := 4) dX0_singleRoots_26 rfl ki_4 ?_
      refine ev_icmp_ge (tgt := 80) (pc' := 30) dX0_singleRoots_27 rfl rfl (fun h => absurd h (by decide)) (fun _ => ?_)
      refine ev_iload_n (pc' := 31) (i := 3) dX0_singleRoots_30 rfl rfl rfl ?_
      refine ev_if_eq (tgt := 80) (pc' := 34) dX0_singleRoots_31 rfl rfl (fun h => absurd h (by decide)) (fun _ => ?_)
      refine ev_iload_n (pc' := 35) (i := 3) dX0_singleRoots_34 rfl rfl rfl ?_
      refine ev_bipush (pc' := 37) (v := 10) dX0_singleRoots_35 rfl kb_10 ?_
      refine ev_irem (pc' := 38) (v := 1) dX0_singleRoots_37 rfl (by decide) (by decide) ?_
      refine ev_istore (pc' := 40) (lv' := [some (.ref 12), some (.int 0), some (.int 1), some (.int 111), some (.int 1), some (.int 1)]) dX0_singleRoots_38 rfl (Nat.le_of_ble_eq_true rfl) rfl rfl ?_
      refine ev_iload_n (pc' := 41) (i := 3) dX0_singleRoots_40 rfl rfl rfl ?_
      refine ev_bipush (pc' := 43) (v := 10) dX0_singleRoots_41 rfl kb_10 ?_
      refine ev_idiv (pc' := 44) (v := 11) dX0_singleRoots_43 rfl (by decide) (by decide) ?_
      refine ev_istore_n (pc' := 45) (i := 3) (lv' := [some (.ref 12), some (.int 0), some (.int 1), some (.int 11), some (.int 1), some (.int 1)]) dX0_singleRoots_44 rfl rfl (Nat.le_of_ble_eq_true rfl) rfl rfl ?_
      refine ev_iload (pc' := 47) dX0_singleRoots_45 rfl rfl ?_
      refine ev_iconst (pc' := 48) (v := 5) dX0_singleRoots_47 rfl ki_5 ?_
      refine ev_icmp_lt (tgt := 54) (pc' := 51) dX0_singleRoots_48 rfl rfl (fun _ => ?_) (fun h => absurd (by decide) h)
      refine ev_iload_n (pc' := 55) (i := 1) dX0_singleRoots_54 rfl rfl rfl ?_
      refine ev_if_eq (tgt := 63) (pc' := 58) dX0_singleRoots_55 rfl rfl (fun _ => ?_) (fun h => absurd (by decide) h)
      refine ev_iload (pc' := 65) dX0_singleRoots_63 rfl rfl ?_
      refine ev_iconst (pc' := 66) (v := 1) dX0_singleRoots_65 rfl ki_1 ?_
      refine ev_icmp_le (tgt := 71) (pc' := 69) dX0_singleRoots_66 rfl rfl (fun _ => ?_) (fun h => absurd (by decide) h)
      refine ev_iinc (pc' := 74) (v := 2) (lv' := [some (.ref 12), some (.int 0), some (.int 2), some (.int 11), some (.int 1), some (.int 1)]) dX0_singleRoots_71 rfl rfl (by decide) (Nat.le_of_ble_eq_true rfl) rfl rfl ?_
      refine ev_iinc (pc' := 77) (v := 2) (lv' := [some (.ref 12), some (.int 0), some (.int 2), some (.int 11), some (.int 2), some (.int 1)]) dX0_singleRoots_74 rfl rfl (by decide) (Nat.le_of_ble_eq_true rfl) rfl rfl ?_
      refine ev_goto (tgt := 24) dX0_singleRoots_77 rfl ?_
      refine ev_iload (pc' := 26) dX0_singleRoots_24 rfl rfl ?_
      refine ev_iconst (pc' := 27) (v := 4) dX0_singleRoots_26 rfl ki_4 ?_
      refine ev_icmp_ge (tgt := 80) (pc' := 30) dX0_singleRoots_27 rfl rfl (fun h => absurd h (by decide)) (fun _ => ?_)
      refine ev_iload_n (pc' := 31) (i := 3) dX0_singleRoots_30 rfl rfl rfl ?_
      refine ev_if_eq (tgt := 80) (pc' := 34) dX0_singleRoots_31 rfl rfl (fun h => absurd h (by decide)) (fun _ => ?_)
      refine ev_iload_n (pc' := 35) (i := 3) dX0_singleRoots_34 rfl rfl rfl ?_
      refine ev_bipush (pc' := 37) (v := 10) dX0_singleRoots_35 rfl kb_10 ?_
      refine ev_irem (pc' := 38) (v := 1) dX0_singleRoots_37 rfl (by decide) (by decide) ?_
      refine ev_istore (pc' := 40) (lv' := [some (.ref 12), some (.int 0), some (.int 2), some (.int 11), some (.int 2), some (.int 1)]) dX0_singleRoots_38 rfl (Nat.le_of_ble_eq_true rfl) rfl rfl ?_
      refine ev_iload_n (pc' := 41) (i := 3) dX0_singleRoots_40 rfl rfl rfl ?_
      refine ev_bipush (pc' := 43) (v := 10) dX0_singleRoots_41 rfl kb_10 ?_
      refine ev_idiv (pc' := 44) (v := 1) dX0_singleRoots_43 rfl (by decide) (by decide) ?_
      refine ev_istore_n (pc' := 45) (i := 3) (lv' := [some (.ref 12), some (.int 0), some (.int 2), some (.int 1), some (.int 2), some (.int 1)]) dX0_singleRoots_44 rfl rfl (Nat.le_of_ble_eq_true rfl) rfl rfl ?_
      refine ev_iload (pc' := 47) dX0_singleRoots_45 rfl rfl ?_
      refine ev_iconst (pc' := 48) (v := 5) dX0_singleRoots_47 rfl ki_5 ?_
      refine ev_icmp_lt (tgt := 54) (pc' := 51) dX0_singleRoots_48 rfl rfl (fun _ => ?_) (fun h => absurd (by decide) h)
      refine ev_iload_n (pc' := 55) (i := 1) dX0_singleRoots_54 rfl rfl rfl ?_
      refine ev_if_eq (tgt := 63) (pc' := 58) dX0_singleRoots_55 rfl rfl (fun _ => ?_) (fun h => absurd (by decide) h)
      refine ev_iload (pc' := 65) dX0_singleRoots_63 rfl rfl ?_
      refine ev_iconst (pc' := 66) (v := 1) dX0_singleRoots_65 rfl ki_1 ?_
      refine ev_icmp_le (tgt := 71) (pc' := 69) dX0_singleRoots_66 rfl rfl (fun _ => ?_) (fun h => absurd (by decide) h)
      refine ev_iinc (pc' := 74) (v := 3) (lv' := [some (.ref 12), some (.int 0), some (.int 3), some (.int 1), some (.int 2), some (.int 1)]) dX0_singleRoots_71 rfl rfl (by decide) (Nat.le_of_ble_eq_true rfl) rfl rfl ?_
      refine ev_iinc (pc' := 77) (v := 3) (lv' := [some (.ref 12), some (.int 0), some (.int 3), some (.int 1), some (.int 3), some (.int 1)]) dX0_singleRoots_74 rfl rfl (by decide) (Nat.le_of_ble_eq_true rfl) rfl rfl ?_
      refine ev_goto (tgt := 24) dX0_singleRoots_77 rfl ?_
      refine ev_iload (pc' := 26) dX0_singleRoots_24 rfl rfl ?_
      refine ev_iconst (pc' := 27) (v := 4) dX0_singleRoots_26 rfl ki_4 ?_
      refine ev_icmp_ge (tgt := 80) (pc' := 30) dX0_singleRoots_27 rfl rfl (fun h => absurd h (by decide)) (fun _ => ?_)
      refine ev_iload_n (pc' := 31) (i := 3) dX0_singleRoots_30 rfl rfl rfl ?_
      refine ev_if_eq (tgt := 80) (pc' := 34) dX0_singleRoots_31 rfl rfl (fun h => absurd h (by decide)) (fun _ => ?_)
      refine ev_iload_n (pc' := 35) (i := 3) dX0_singleRoots_34 rfl rfl rfl ?_
      refine ev_bipush (pc' := 37) (v := 10) dX0_singleRoots_35 rfl kb_10 ?_
      refine ev_irem (pc' := 38) (v := 1) dX0_singleRoots_37 rfl (by decide) (by decide) ?_
      refine ev_istore (pc' := 40) (lv' := [some (.ref 12), some (.int 0), some (.int 3), some (.int 1), some (.int 3), some (.int 1)]) dX0_singleRoots_38 rfl (Nat.le_of_ble_eq_true rfl) rfl rfl ?_
      refine ev_iload_n (pc' := 41) (i := 3) dX0_singleRoots_40 rfl rfl rfl ?_
      refine ev_bipush (pc' := 43) (v := 10) dX0_singleRoots_41 rfl kb_10 ?_
      refine ev_idiv (pc' := 44) (v := 0) dX0_singleRoots_43 rfl (by decide) (by decide) ?_
      refine ev_istore_n (pc' := 45) (i := 3) (lv' := [some (.ref 12), some (.int 0), some (.int 3), some (.int 0), some (.int 3), some (.int 1)]) dX0_singleRoots_44 rfl rfl (Nat.le_of_ble_eq_true rfl) rfl rfl ?_
      refine ev_iload (pc' := 47) dX0_singleRoots_45 rfl rfl ?_
      refine ev_iconst (pc' := 48) (v := 5) dX0_singleRoots_47 rfl ki_5 ?_
      refine ev_icmp_lt (tgt := 54) (pc' := 51) dX0_singleRoots_48 rfl rfl (fun _ => ?_) (fun h => absurd (by decide) h)
      refine ev_iload_n (pc' := 55) (i := 1) dX0_singleRoots_54 rfl rfl rfl ?_
      refine ev_if_eq (tgt := 63) (pc' := 58) dX0_singleRoots_55 rfl rfl (fun _ => ?_) (fun h => absurd (by decide) h)
      refine ev_iload (pc' := 65) dX0_singleRoots_63 rfl rfl ?_
      refine ev_iconst (pc' := 66) (v := 1) dX0_singleRoots_65 rfl ki_1 ?_
      refine ev_icmp_le (tgt := 71) (pc' := 69) dX0_singleRoots_66 rfl rfl (fun _ => ?_) (fun h => absurd (by decide) h)
      refine ev_iinc (pc' := 74) (v := 4) (lv' := [some (.ref 12), some (.int 0), some (.int 4), some (.int 0), some (.int 3), some (.int 1)]) dX0_singleRoots_71 rfl rfl (by decide) (Nat.le_of_ble_eq_true rfl) rfl rfl ?_
      refine ev_iinc (pc' := 77) (v := 4) (lv' := [some (.ref 12), some (.int 0), some (.int 4), some (.int 0), some (.int 4), some (.int 1)]) dX0_singleRoots_74 rfl rfl (by decide) (Nat.le_of_ble_eq_true rfl) rfl rfl ?_
      refine ev_goto (tgt := 24) dX0_singleRoots_77 rfl ?_
      refine ev_iload (pc' := 26) dX0_singleRoots_24 rfl rfl ?_
      refine ev_iconst (pc' := 27) (v := 4) dX0_singleRoots_26 rfl ki_4 ?_
      refine ev_icmp_ge (tgt := 80) (pc' := 30) dX0_singleRoots_27 rfl rfl (fun _ => ?_) (fun h => absurd (by decide) h)
      refine ev_iload_n (pc' := 81) (i := 2) dX0_singleRoots_80 rfl rfl rfl ?_
      refine ev_iret dX0_singleRoots_81 rfl rfl ⟨Nat.le_refl _, Nat.le_refl _⟩ ?_
      have e : (if (L 13) 0 = 0 then cS1 (cFig (L 13) ((L 12) 5) ((L 12) 6)) else cS0 (cFig (L 13) ((L 12) 5) ((L 12) 6))) = 4 := by rw [if_neg h20, g50]; decide
      rw [e] at k0
      exact k0 _ _ _ _
def cMb (r s : Int32) : Int32 := if 5 ≤ (r - r / 10 * 10) then 0 else if s = 2 then (if (r - r / 10 * 10) = 1 then 2 else 1) else 0
set_option maxRecDepth 4000 in
theorem t_X0_meetingOfBalls {g : ma_G} {Post : ma_P} {I : ma_I} {L : ma_L} (hI : ((L 12) 5).toInt.natAbs < 288230376151711744) (hJ : ((L 12) 6).toInt ≠ -9223372036854775808) (hA : ((L 13) 0).toInt.natAbs < 288230376151711744) (hE : (((8 * ((L 13) 0)) * ((L 13) 2)) - ((3 * ((L 13) 1)) * ((L 13) 1))).toInt ≠ -9223372036854775808) (k0 : ∀ Y Z V W : Nat → Int64, Post (some (.int (cMb (cFig (L 13) ((L 12) 5) ((L 12) 6)) (cSc (L 13) 5).1))) HS I (ma_up (ma_up (ma_up (ma_up L 20 Y) 19 Z) 23 V) 22 W) RF 146) : CT g yX0_meetingOfBalls cX0_meetingOfBalls 2 (some .int) rX0_meetingOfBalls [.ref 12] Post HS I L RF 146 := by
  refine ct_of (lv := [some (.ref 12), none]) (by decide) (Nat.le_of_ble_eq_true rfl) rfl ?_
  refine ev_aload_n (pc' := 1) (i := 0) dX0_meetingOfBalls_0 rfl rfl rfl ?_
  refine ev_callV (pc' := 4) (rm' := rX0_figures) (b := 12) (av := []) (rest := []) co_X0_127 ci_X0_figures cv_X0_figures dX0_meetingOfBalls_1 rfl hs_12 hb_X0 rfl rfl (Nat.le_of_ble_eq_true rfl) ⟨(Nat.le_of_ble_eq_true rfl), (Nat.le_of_ble_eq_true rfl)⟩ ⟨(Nat.le_of_ble_eq_true rfl), (Nat.le_of_ble_eq_true rfl)⟩ ?_
  refine t_X0_figures hI hJ hA hE (fun Y1 Z2 V3 W4 => ?_)
  refine ev_topi (fun r hr => ?_)
  have hr : r = cFig (L 13) ((L 12) 5) ((L 12) 6) := hr
  rcases cFig_v (L 13) ((L 12) 5) ((L 12) 6) with g5 | g5 | g5 | g5 | g5 | g5 | g5 | g5 | g5 | g5 | g5 | g5 | g5
  · rw [g5] at hr
    subst hr
    refine ev_bipush (pc' := 6) (v := 10) dX0_meetingOfBalls_4 rfl kb_10 ?_
    refine ev_irem (pc' := 7) (v := 0) dX0_meetingOfBalls_6 rfl (by decide) (by decide) ?_
    refine ev_istore_n (pc' := 8) (i := 1) (lv' := [some (.ref 12), some (.int 0)]) dX0_meetingOfBalls_7 rfl rfl (Nat.le_of_ble_eq_true rfl) rfl rfl ?_
    refine ev_iload_n (pc' := 9) (i := 1) dX0_meetingOfBalls_8 rfl rfl rfl ?_
    refine ev_iconst (pc' := 10) (v := 5) dX0_meetingOfBalls_9 rfl ki_5 ?_
    refine ev_icmp_ge (tgt := 24) (pc' := 13) dX0_meetingOfBalls_10 rfl rfl (fun h => absurd h (by decide)) (fun _ => ?_)
    refine ev_aload_n (pc' := 14) (i := 0) dX0_meetingOfBalls_13 rfl rfl rfl ?_
    refine ev_getR (pc' := 17) fo_X0_9 dX0_meetingOfBalls_14 rfl hs_12 rfl rf_12_0 ?_
    refine ev_callS (pc' := 20) (rm' := rX7_signChanges) (av := [.ref 13]) (rest := []) co_X0_130 cs_X7_signChanges dX0_meetingOfBalls_17 rfl rfl rfl (Nat.le_of_ble_eq_true rfl) ⟨(Nat.le_of_ble_eq_true rfl), (Nat.le_of_ble_eq_true rfl)⟩ ⟨(Nat.le_of_ble_eq_true rfl), (Nat.le_of_ble_eq_true rfl)⟩ ?_
    refine t_X7_signChanges 13 hs_13 ?_
    refine ev_eqi (w := (cSc (L 13) 5).1) rfl ?_
    refine ev_iconst (pc' := 21) (v := 2) dX0_meetingOfBalls_20 rfl ki_2 ?_
    refine ev_icmp_eq (tgt := 26) (pc' := 24) dX0_meetingOfBalls_21 rfl rfl (fun c6 => ?_) (fun c6 => ?_)
    · refine ev_iload_n (pc' := 27) (i := 1) dX0_meetingOfBalls_26 rfl rfl rfl ?_
      refine ev_iconst (pc' := 28) (v := 1) dX0_meetingOfBalls_27 rfl ki_1 ?_
      refine ev_icmp_ne (tgt := 35) (pc' := 31) dX0_meetingOfBalls_28 rfl rfl (fun _ => ?_) (fun h => absurd h (by decide))
      refine ev_iconst (pc' := 36) (v := 1) dX0_meetingOfBalls_35 rfl ki_1 ?_
      refine ev_iret dX0_meetingOfBalls_36 rfl rfl ⟨Nat.le_refl _, Nat.le_refl _⟩ ?_
      have e : cMb (cFig (L 13) ((L 12) 5) ((L 12) 6)) (cSc (L 13) 5).1 = 1 := by
        rw [g5]
        unfold cMb
        rw [if_neg (by decide)]
        rw [if_pos c6]
        rw [if_neg (by decide)]
      rw [e] at k0
      exact k0 _ _ _ _
    · refine ev_iconst (pc' := 25) (v := 0) dX0_meetingOfBalls_24 rfl ki_0 ?_
      refine ev_iret dX0_meetingOfBalls_25 rfl rfl ⟨Nat.le_refl _, Nat.le_refl _⟩ ?_
      have e : cMb (cFig (L 13) ((L 12) 5) ((L 12) 6)) (cSc (L 13) 5).1 = 0 := by
        rw [g5]
        unfold cMb
        rw [if_neg (by decide)]
        rw [if_neg c6]
      rw [e] at k0
      exact k0 _ _ _ _
  · rw [g5] at hr
    subst hr
    refine ev_bipush (pc' := 6) (v := 10) dX0_meetingOfBalls_4 rfl kb_10 ?_
    refine ev_irem (pc' := 7) (v := 4) dX0_meetingOfBalls_6 rfl (by decide) (by decide) ?_
    refine ev_istore_n (pc' := 8) (i := 1) (lv' := [some (.ref 12), some (.int 4)]) dX0_meetingOfBalls_7 rfl rfl (Nat.le_of_ble_eq_true rfl) rfl rfl ?_
    refine ev_iload_n (pc' := 9) (i := 1) dX0_meetingOfBalls_8 rfl rfl rfl ?_
    refine ev_iconst (pc' := 10) (v := 5) dX0_meetingOfBalls_9 rfl ki_5 ?_
    refine ev_icmp_ge (tgt := 24) (pc' := 13) dX0_meetingOfBalls_10 rfl rfl (fun h => absurd h (by decide)) (fun _ => ?_)
    refine ev_aload_n (pc' := 14) (i := 0) dX0_meetingOfBalls_13 rfl rfl rfl ?_
    refine ev_getR (pc' := 17) fo_X0_9 dX0_meetingOfBalls_14 rfl hs_12 rfl rf_12_0 ?_
    refine ev_callS (pc' := 20) (rm' := rX7_signChanges) (av := [.ref 13]) (rest := []) co_X0_130 cs_X7_signChanges dX0_meetingOfBalls_17 rfl rfl rfl (Nat.le_of_ble_eq_true rfl) ⟨(Nat.le_of_ble_eq_true rfl), (Nat.le_of_ble_eq_true rfl)⟩ ⟨(Nat.le_of_ble_eq_true rfl), (Nat.le_of_ble_eq_true rfl)⟩ ?_
    refine t_X7_signChanges 13 hs_13 ?_
    refine ev_eqi (w := (cSc (L 13) 5).1) rfl ?_
    refine ev_iconst (pc' := 21) (v := 2) dX0_meetingOfBalls_20 rfl ki_2 ?_
    refine ev_icmp_eq (tgt := 26) (pc' := 24) dX0_meetingOfBalls_21 rfl rfl (fun c7 => ?_) (fun c7 => ?_)
    · refine ev_iload_n (pc' := 27) (i := 1) dX0_meetingOfBalls_26 rfl rfl rfl ?_
      refine ev_iconst (pc' := 28) (v := 1) dX0_meetingOfBalls_27 rfl ki_1 ?_
      refine ev_icmp_ne (tgt := 35) (pc' := 31) dX0_meetingOfBalls_28 rfl rfl (fun _ => ?_) (fun h => absurd h (by decide))
      refine ev_iconst (pc' := 36) (v := 1) dX0_meetingOfBalls_35 rfl ki_1 ?_
      refine ev_iret dX0_meetingOfBalls_36 rfl rfl ⟨Nat.le_refl _, Nat.le_refl _⟩ ?_
      have e : cMb (cFig (L 13) ((L 12) 5) ((L 12) 6)) (cSc (L 13) 5).1 = 1 := by
        rw [g5]
        unfold cMb
        rw [if_neg (by decide)]
        rw [if_pos c7]
        rw [if_neg (by decide)]
      rw [e] at k0
      exact k0 _ _ _ _
    · refine ev_iconst (pc' := 25) (v := 0) dX0_meetingOfBalls_24 rfl ki_0 ?_
      refine ev_iret dX0_meetingOfBalls_25 rfl rfl ⟨Nat.le_refl _, Nat.le_refl _⟩ ?_
      have e : cMb (cFig (L 13) ((L 12) 5) ((L 12) 6)) (cSc (L 13) 5).1 = 0 := by
        rw [g5]
        unfold cMb
        rw [if_neg (by decide)]
        rw [if_neg c7]
      rw [e] at k0
      exact k0 _ _ _ _
  · rw [g5] at hr
    subst hr
    refine ev_bipush (pc' := 6) (v := 10) dX0_meetingOfBalls_4 rfl kb_10 ?_
    refine ev_irem (pc' := 7) (v := 6) dX0_meetingOfBalls_6 rfl (by decide) (by decide) ?_
    refine ev_istore_n (pc' := 8) (i := 1) (lv' := [some (.ref 12), some (.int 6)]) dX0_meetingOfBalls_7 rfl rfl (Nat.le_of_ble_eq_true rfl) rfl rfl ?_
    refine ev_iload_n (pc' := 9) (i := 1) dX0_meetingOfBalls_8 rfl rfl rfl ?_
    refine ev_iconst (pc' := 10) (v := 5) dX0_meetingOfBalls_9 rfl ki_5 ?_
    refine ev_icmp_ge (tgt := 24) (pc' := 13) dX0_meetingOfBalls_10 rfl rfl (fun _ => ?_) (fun h => absurd (by decide) h)
    refine ev_iconst (pc' := 25) (v := 0) dX0_meetingOfBalls_24 rfl ki_0 ?_
    refine ev_iret dX0_meetingOfBalls_25 rfl rfl ⟨Nat.le_refl _, Nat.le_refl _⟩ ?_
    have e : cMb (cFig (L 13) ((L 12) 5) ((L 12) 6)) (cSc (L 13) 5).1 = 0 := by
      rw [g5]
      unfold cMb
      rw [if_pos (by decide)]
    rw [e] at k0
    exact k0 _ _ _ _
  · rw [g5] at hr
    subst hr
    refine ev_bipush (pc' := 6) (v := 10) dX0_meetingOfBalls_4 rfl kb_10 ?_
    refine ev_irem (pc' := 7) (v := 3) dX0_meetingOfBalls_6 rfl (by decide) (by decide) ?_
    refine ev_istore_n (pc' := 8) (i := 1) (lv' := [some (.ref 12), some (.int 3)]) dX0_meetingOfBalls_7 rfl rfl (Nat.le_of_ble_eq_true rfl) rfl rfl ?_
    refine ev_iload_n (pc' := 9) (i := 1) dX0_meetingOfBalls_8 rfl rfl rfl ?_
    refine ev_iconst (pc' := 10) (v := 5) dX0_meetingOfBalls_9 rfl ki_5 ?_
    refine ev_icmp_ge (tgt := 24) (pc' := 13) dX0_meetingOfBalls_10 rfl rfl (fun h => absurd h (by decide)) (fun _ => ?_)
    refine ev_aload_n (pc' := 14) (i := 0) dX0_meetingOfBalls_13 rfl rfl rfl ?_
    refine ev_getR (pc' := 17) fo_X0_9 dX0_meetingOfBalls_14 rfl hs_12 rfl rf_12_0 ?_
    refine ev_callS (pc' := 20) (rm' := rX7_signChanges) (av := [.ref 13]) (rest := []) co_X0_130 cs_X7_signChanges dX0_meetingOfBalls_17 rfl rfl rfl (Nat.le_of_ble_eq_true rfl) ⟨(Nat.le_of_ble_eq_true rfl), (Nat.le_of_ble_eq_true rfl)⟩ ⟨(Nat.le_of_ble_eq_true rfl), (Nat.le_of_ble_eq_true rfl)⟩ ?_
    refine t_X7_signChanges 13 hs_13 ?_
    refine ev_eqi (w := (cSc (L 13) 5).1) rfl ?_
    refine ev_iconst (pc' := 21) (v := 2) dX0_meetingOfBalls_20 rfl ki_2 ?_
    refine ev_icmp_eq (tgt := 26) (pc' := 24) dX0_meetingOfBalls_21 rfl rfl (fun c8 => ?_) (fun c8 => ?_)
    · refine ev_iload_n (pc' := 27) (i := 1) dX0_meetingOfBalls_26 rfl rfl rfl ?_
      refine ev_iconst (pc' := 28) (v := 1) dX0_meetingOfBalls_27 rfl ki_1 ?_
      refine ev_icmp_ne (tgt := 35) (pc' := 31) dX0_meetingOfBalls_28 rfl rfl (fun _ => ?_) (fun h => absurd h (by decide))
      refine ev_iconst (pc' := 36) (v := 1) dX0_meetingOfBalls_35 rfl ki_1 ?_
      refine ev_iret dX0_meetingOfBalls_36 rfl rfl ⟨Nat.le_refl _, Nat.le_refl _⟩ ?_
      have e : cMb (cFig (L 13) ((L 12) 5) ((L 12) 6)) (cSc (L 13) 5).1 = 1 := by
        rw [g5]
        unfold cMb
        rw [if_neg (by decide)]
        rw [if_pos c8]
        rw [if_neg (by decide)]
      rw [e] at k0
      exact k0 _ _ _ _
    · refine ev_iconst (pc' := 25) (v := 0) dX0_meetingOfBalls_24 rfl ki_0 ?_
      refine ev_iret dX0_meetingOfBalls_25 rfl rfl ⟨Nat.le_refl _, Nat.le_refl _⟩ ?_
      have e : cMb (cFig (L 13) ((L 12) 5) ((L 12) 6)) (cSc (L 13) 5).1 = 0 := by
        rw [g5]
        unfold cMb
        rw [if_neg (by decide)]
        rw [if_neg c8]
      rw [e] at k0
      exact k0 _ _ _ _
  · rw [g5] at hr
    subst hr
    refine ev_bipush (pc' := 6) (v := 10) dX0_meetingOfBalls_4 rfl kb_10 ?_
    refine ev_irem (pc' := 7) (v := 2) dX0_meetingOfBalls_6 rfl (by decide) (by decide) ?_
    refine ev_istore_n (pc' := 8) (i := 1) (lv' := [some (.ref 12), some (.int 2)]) dX0_meetingOfBalls_7 rfl rfl (Nat.le_of_ble_eq_true rfl) rfl rfl ?_
    refine ev_iload_n (pc' := 9) (i := 1) dX0_meetingOfBalls_8 rfl rfl rfl ?_
    refine ev_iconst (pc' := 10) (v := 5) dX0_meetingOfBalls_9 rfl ki_5 ?_
    refine ev_icmp_ge (tgt := 24) (pc' := 13) dX0_meetingOfBalls_10 rfl rfl (fun h => absurd h (by decide)) (fun _ => ?_)
    refine ev_aload_n (pc' := 14) (i := 0) dX0_meetingOfBalls_13 rfl rfl rfl ?_
    refine ev_getR (pc' := 17) fo_X0_9 dX0_meetingOfBalls_14 rfl hs_12 rfl rf_12_0 ?_
    refine ev_callS (pc' := 20) (rm' := rX7_signChanges) (av := [.ref 13]) (rest := []) co_X0_130 cs_X7_signChanges dX0_meetingOfBalls_17 rfl rfl rfl (Nat.le_of_ble_eq_true rfl) ⟨(Nat.le_of_ble_eq_true rfl), (Nat.le_of_ble_eq_true rfl)⟩ ⟨(Nat.le_of_ble_eq_true rfl), (Nat.le_of_ble_eq_true rfl)⟩ ?_
    refine t_X7_signChanges 13 hs_13 ?_
    refine ev_eqi (w := (cSc (L 13) 5).1) rfl ?_
    refine ev_iconst (pc' := 21) (v := 2) dX0_meetingOfBalls_20 rfl ki_2 ?_
    refine ev_icmp_eq (tgt := 26) (pc' := 24) dX0_meetingOfBalls_21 rfl rfl (fun c9 => ?_) (fun c9 => ?_)
    · refine ev_iload_n (pc' := 27) (i := 1) dX0_meetingOfBalls_26 rfl rfl rfl ?_
      refine ev_iconst (pc' := 28) (v := 1) dX0_meetingOfBalls_27 rfl ki_1 ?_
      refine ev_icmp_ne (tgt := 35) (pc' := 31) dX0_meetingOfBalls_28 rfl rfl (fun _ => ?_) (fun h => absurd h (by decide))
      refine ev_iconst (pc' := 36) (v := 1) dX0_meetingOfBalls_35 rfl ki_1 ?_
      refine ev_iret dX0_meetingOfBalls_36 rfl rfl ⟨Nat.le_refl _, Nat.le_refl _⟩ ?_
      have e : cMb (cFig (L 13) ((L 12) 5) ((L 12) 6)) (cSc (L 13) 5).1 = 1 := by
        rw [g5]
        unfold cMb
        rw [if_neg (by decide)]
        rw [if_pos c9]
        rw [if_neg (by decide)]
      rw [e] at k0
      exact k0 _ _ _ _
    · refine ev_iconst (pc' := 25) (v := 0) dX0_meetingOfBalls_24 rfl ki_0 ?_
      refine ev_iret dX0_meetingOfBalls_25 rfl rfl ⟨Nat.le_refl _, Nat.le_refl _⟩ ?_
      have e : cMb (cFig (L 13) ((L 12) 5) ((L 12) 6)) (cSc (L 13) 5).1 = 0 := by
        rw [g5]
        unfold cMb
        rw [if_neg (by decide)]
        rw [if_neg c9]
      rw [e] at k0
      exact k0 _ _ _ _
  · rw [g5] at hr
    subst hr
    refine ev_bipush (pc' := 6) (v := 10) dX0_meetingOfBalls_4 rfl kb_10 ?_
    refine ev_irem (pc' := 7) (v := 5) dX0_meetingOfBalls_6 rfl (by decide) (by decide) ?_
    refine ev_istore_n (pc' := 8) (i := 1) (lv' := [some (.ref 12), some (.int 5)]) dX0_meetingOfBalls_7 rfl rfl (Nat.le_of_ble_eq_true rfl) rfl rfl ?_
    refine ev_iload_n (pc' := 9) (i := 1) dX0_meetingOfBalls_8 rfl rfl rfl ?_
    refine ev_iconst (pc' := 10) (v := 5) dX0_meetingOfBalls_9 rfl ki_5 ?_
    refine ev_icmp_ge (tgt := 24) (pc' := 13) dX0_meetingOfBalls_10 rfl rfl (fun _ => ?_) (fun h => absurd (by decide) h)
    refine ev_iconst (pc' := 25) (v := 0) dX0_meetingOfBalls_24 rfl ki_0 ?_
    refine ev_iret dX0_meetingOfBalls_25 rfl rfl ⟨Nat.le_refl _, Nat.le_refl _⟩ ?_
    have e : cMb (cFig (L 13) ((L 12) 5) ((L 12) 6)) (cSc (L 13) 5).1 = 0 := by
      rw [g5]
      unfold cMb
      rw [if_pos (by decide)]
    rw [e] at k0
    exact k0 _ _ _ _
  · rw [g5] at hr
    subst hr
    refine ev_bipush (pc' := 6) (v := 10) dX0_meetingOfBalls_4 rfl kb_10 ?_
    refine ev_irem (pc' := 7) (v := 1) dX0_meetingOfBalls_6 rfl (by decide) (by decide) ?_
    refine ev_istore_n (pc' := 8) (i := 1) (lv' := [some (.ref 12), some (.int 1)]) dX0_meetingOfBalls_7 rfl rfl (Nat.le_of_ble_eq_true rfl) rfl rfl ?_
    refine ev_iload_n (pc' := 9) (i := 1) dX0_meetingOfBalls_8 rfl rfl rfl ?_
    refine ev_iconst (pc' := 10) (v := 5) dX0_meetingOfBalls_9 rfl ki_5 ?_
    refine ev_icmp_ge (tgt := 24) (pc' := 13) dX0_meetingOfBalls_10 rfl rfl (fun h => absurd h (by decide)) (fun _ => ?_)
    refine ev_aload_n (pc' := 14) (i := 0) dX0_meetingOfBalls_13 rfl rfl rfl ?_
    refine ev_getR (pc' := 17) fo_X0_9 dX0_meetingOfBalls_14 rfl hs_12 rfl rf_12_0 ?_
    refine ev_callS (pc' := 20) (rm' := rX7_signChanges) (av := [.ref 13]) (rest := []) co_X0_130 cs_X7_signChanges dX0_meetingOfBalls_17 rfl rfl rfl (Nat.le_of_ble_eq_true rfl) ⟨(Nat.le_of_ble_eq_true rfl), (Nat.le_of_ble_eq_true rfl)⟩ ⟨(Nat.le_of_ble_eq_true rfl), (Nat.le_of_ble_eq_true rfl)⟩ ?_
    refine t_X7_signChanges 13 hs_13 ?_
    refine ev_eqi (w := (cSc (L 13) 5).1) rfl ?_
    refine ev_iconst (pc' := 21) (v := 2) dX0_meetingOfBalls_20 rfl ki_2 ?_
    refine ev_icmp_eq (tgt := 26) (pc' := 24) dX0_meetingOfBalls_21 rfl rfl (fun c10 => ?_) (fun c10 => ?_)
    · refine ev_iload_n (pc' := 27) (i := 1) dX0_meetingOfBalls_26 rfl rfl rfl ?_
      refine ev_iconst (pc' := 28) (v := 1) dX0_meetingOfBalls_27 rfl ki_1 ?_
      refine ev_icmp_ne (tgt := 35) (pc' := 31) dX0_meetingOfBalls_28 rfl rfl (fun h => absurd (by decide) h) (fun _ => ?_)
      refine ev_iconst (pc' := 32) (v := 2) dX0_meetingOfBalls_31 rfl ki_2 ?_
      refine ev_goto (tgt := 36) dX0_meetingOfBalls_32 rfl ?_
      refine ev_iret dX0_meetingOfBalls_36 rfl rfl ⟨Nat.le_refl _, Nat.le_refl _⟩ ?_
      have e : cMb (cFig (L 13) ((L 12) 5) ((L 12) 6)) (cSc (L 13) 5).1 = 2 := by
        rw [g5]
        unfold cMb
        rw [if_neg (by decide)]
        rw [if_pos c10]
        rw [if_pos (by decide)]
      rw [e] at k0
      exact k0 _ _ _ _
    · refine ev_iconst (pc' := 25) (v := 0) dX0_meetingOfBalls_24 rfl ki_0 ?_
      refine ev_iret dX0_meetingOfBalls_25 rfl rfl ⟨Nat.le_refl _, Nat.le_refl _⟩ ?_
      have e : cMb (cFig (L 13) ((L 12) 5) ((L 12) 6)) (cSc (L 13) 5).1 = 0 := by
        rw [g5]
        unfold cMb
        rw [if_neg (by decide)]
        rw [if_neg c10]
      rw [e] at k0
      exact k0 _ _ _ _
  · rw [g5] at hr
    subst hr
    refine ev_bipush (pc' := 6) (v := 10) dX0_meetingOfBalls_4 rfl kb_10 ?_
    refine ev_irem (pc' := 7) (v := 5) dX0_meetingOfBalls_6 rfl (by decide) (by decide) ?_
    refine ev_istore_n (pc' := 8) (i := 1) (lv' := [some (.ref 12), some (.int 5)]) dX0_meetingOfBalls_7 rfl rfl (Nat.le_of_ble_eq_true rfl) rfl rfl ?_
    refine ev_iload_n (pc' := 9) (i := 1) dX0_meetingOfBalls_8 rfl rfl rfl ?_
    refine ev_iconst (pc' := 10) (v := 5) dX0_meetingOfBalls_9 rfl ki_5 ?_
    refine ev_icmp_ge (tgt := 24) (pc' := 13) dX0_meetingOfBalls_10 rfl rfl (fun _ => ?_) (fun h => absurd (by decide) h)
    refine ev_iconst (pc' := 25) (v := 0) dX0_meetingOfBalls_24 rfl ki_0 ?_
    refine ev_iret dX0_meetingOfBalls_25 rfl rfl ⟨Nat.le_refl _, Nat.le_refl _⟩ ?_
    have e : cMb (cFig (L 13) ((L 12) 5) ((L 12) 6)) (cSc (L 13) 5).1 = 0 := by
      rw [g5]
      unfold cMb
      rw [if_pos (by decide)]
    rw [e] at k0
    exact k0 _ _ _ _
  · rw [g5] at hr
    subst hr
    refine ev_bipush (pc' := 6) (v := 10) dX0_meetingOfBalls_4 rfl kb_10 ?_
    refine ev_irem (pc' := 7) (v := 2) dX0_meetingOfBalls_6 rfl (by decide) (by decide) ?_
    refine ev_istore_n (pc' := 8) (i := 1) (lv' := [some (.ref 12), some (.int 2)]) dX0_meetingOfBalls_7 rfl rfl (Nat.le_of_ble_eq_true rfl) rfl rfl ?_
    refine ev_iload_n (pc' := 9) (i := 1) dX0_meetingOfBalls_8 rfl rfl rfl ?_
    refine ev_iconst (pc' := 10) (v := 5) dX0_meetingOfBalls_9 rfl ki_5 ?_
    refine ev_icmp_ge (tgt := 24) (pc' := 13) dX0_meetingOfBalls_10 rfl rfl (fun h => absurd h (by decide)) (fun _ => ?_)
    refine ev_aload_n (pc' := 14) (i := 0) dX0_meetingOfBalls_13 rfl rfl rfl ?_
    refine ev_getR (pc' := 17) fo_X0_9 dX0_meetingOfBalls_14 rfl hs_12 rfl rf_12_0 ?_
    refine ev_callS (pc' := 20) (rm' := rX7_signChanges) (av := [.ref 13]) (rest := []) co_X0_130 cs_X7_signChanges dX0_meetingOfBalls_17 rfl rfl rfl (Nat.le_of_ble_eq_true rfl) ⟨(Nat.le_of_ble_eq_true rfl), (Nat.le_of_ble_eq_true rfl)⟩ ⟨(Nat.le_of_ble_eq_true rfl), (Nat.le_of_ble_eq_true rfl)⟩ ?_
    refine t_X7_signChanges 13 hs_13 ?_
    refine ev_eqi (w := (cSc (L 13) 5).1) rfl ?_
    refine ev_iconst (pc' := 21) (v := 2) dX0_meetingOfBalls_20 rfl ki_2 ?_
    refine ev_icmp_eq (tgt := 26) (pc' := 24) dX0_meetingOfBalls_21 rfl rfl (fun c11 => ?_) (fun c11 => ?_)
    · refine ev_iload_n (pc' := 27) (i := 1) dX0_meetingOfBalls_26 rfl rfl rfl ?_
      refine ev_iconst (pc' := 28) (v := 1) dX0_meetingOfBalls_27 rfl ki_1 ?_
      refine ev_icmp_ne (tgt := 35) (pc' := 31) dX0_meetingOfBalls_28 rfl rfl (fun _ => ?_) (fun h => absurd h (by decide))
      refine ev_iconst (pc' := 36) (v := 1) dX0_meetingOfBalls_35 rfl ki_1 ?_
      refine ev_iret dX0_meetingOfBalls_36 rfl rfl ⟨Nat.le_refl _, Nat.le_refl _⟩ ?_
      have e : cMb (cFig (L 13) ((L 12) 5) ((L 12) 6)) (cSc (L 13) 5).1 = 1 := by
        rw [g5]
        unfold cMb
        rw [if_neg (by decide)]
        rw [if_pos c11]
        rw [if_neg (by decide)]
      rw [e] at k0
      exact k0 _ _ _ _
    · refine ev_iconst (pc' := 25) (v := 0) dX0_meetingOfBalls_24 rfl ki_0 ?_
      refine ev_iret dX0_meetingOfBalls_25 rfl rfl ⟨Nat.le_refl _, Nat.le_refl _⟩ ?_
      have e : cMb (cFig (L 13) ((L 12) 5) ((L 12) 6)) (cSc (L 13) 5).1 = 0 := by
        rw [g5]
        unfold cMb
        rw [if_neg (by decide)]
        rw [if_neg c11]
      rw [e] at k0
      exact k0 _ _ _ _
  · rw [g5] at hr
    subst hr
    refine ev_bipush (pc' := 6) (v := 10) dX0_meetingOfBalls_4 rfl kb_10 ?_
    refine ev_irem (pc' := 7) (v := 5) dX0_meetingOfBalls_6 rfl (by decide) (by decide) ?_
    refine ev_istore_n (pc' := 8) (i := 1) (lv' := [some (.ref 12), some (.int 5)]) dX0_meetingOfBalls_7 rfl rfl (Nat.le_of_ble_eq_true rfl) rfl rfl ?_
    refine ev_iload_n (pc' := 9) (i := 1) dX0_meetingOfBalls_8 rfl rfl rfl ?_
    refine ev_iconst (pc' := 10) (v := 5) dX0_meetingOfBalls_9 rfl ki_5 ?_
    refine ev_icmp_ge (tgt := 24) (pc' := 13) dX0_meetingOfBalls_10 rfl rfl (fun _ => ?_) (fun h => absurd (by decide) h)
    refine ev_iconst (pc' := 25) (v := 0) dX0_meetingOfBalls_24 rfl ki_0 ?_
    refine ev_iret dX0_meetingOfBalls_25 rfl rfl ⟨Nat.le_refl _, Nat.le_refl _⟩ ?_
    have e : cMb (cFig (L 13) ((L 12) 5) ((L 12) 6)) (cSc (L 13) 5).1 = 0 := by
      rw [g5]
      unfold cMb
      rw [if_pos (by decide)]
    rw [e] at k0
    exact k0 _ _ _ _
  · rw [g5] at hr
    subst hr
    refine ev_bipush (pc' := 6) (v := 10) dX0_meetingOfBalls_4 rfl kb_10 ?_
    refine ev_irem (pc' := 7) (v := 1) dX0_meetingOfBalls_6 rfl (by decide) (by decide) ?_
    refine ev_istore_n (pc' := 8) (i := 1) (lv' := [some (.ref 12), some (.int 1)]) dX0_meetingOfBalls_7 rfl rfl (Nat.le_of_ble_eq_true rfl) rfl rfl ?_
    refine ev_iload_n (pc' := 9) (i := 1) dX0_meetingOfBalls_8 rfl rfl rfl ?_
    refine ev_iconst (pc' := 10) (v := 5) dX0_meetingOfBalls_9 rfl ki_5 ?_
    refine ev_icmp_ge (tgt := 24) (pc' := 13) dX0_meetingOfBalls_10 rfl rfl (fun h => absurd h (by decide)) (fun _ => ?_)
    refine ev_aload_n (pc' := 14) (i := 0) dX0_meetingOfBalls_13 rfl rfl rfl ?_
    refine ev_getR (pc' := 17) fo_X0_9 dX0_meetingOfBalls_14 rfl hs_12 rfl rf_12_0 ?_
    refine ev_callS (pc' := 20) (rm' := rX7_signChanges) (av := [.ref 13]) (rest := []) co_X0_130 cs_X7_signChanges dX0_meetingOfBalls_17 rfl rfl rfl (Nat.le_of_ble_eq_true rfl) ⟨(Nat.le_of_ble_eq_true rfl), (Nat.le_of_ble_eq_true rfl)⟩ ⟨(Nat.le_of_ble_eq_true rfl), (Nat.le_of_ble_eq_true rfl)⟩ ?_
    refine t_X7_signChanges 13 hs_13 ?_
    refine ev_eqi (w := (cSc (L 13) 5).1) rfl ?_
    refine ev_iconst (pc' := 21) (v := 2) dX0_meetingOfBalls_20 rfl ki_2 ?_
    refine ev_icmp_eq (tgt := 26) (pc' := 24) dX0_meetingOfBalls_21 rfl rfl (fun c12 => ?_) (fun c12 => ?_)
    · refine ev_iload_n (pc' := 27) (i := 1) dX0_meetingOfBalls_26 rfl rfl rfl ?_
      refine ev_iconst (pc' := 28) (v := 1) dX0_meetingOfBalls_27 rfl ki_1 ?_
      refine ev_icmp_ne (tgt := 35) (pc' := 31) dX0_meetingOfBalls_28 rfl rfl (fun h => absurd (by decide) h) (fun _ => ?_)
      refine ev_iconst (pc' := 32) (v := 2) dX0_meetingOfBalls_31 rfl ki_2 ?_
      refine ev_goto (tgt := 36) dX0_meetingOfBalls_32 rfl ?_
      refine ev_iret dX0_meetingOfBalls_36 rfl rfl ⟨Nat.le_refl _, Nat.le_refl _⟩ ?_
      have e : cMb (cFig (L 13) ((L 12) 5) ((L 12) 6)) (cSc (L 13) 5).1 = 2 := by
        rw [g5]
        unfold cMb
        rw [if_neg (by decide)]
        rw [if_pos c12]
        rw [if_pos (by decide)]
      rw [e] at k0
      exact k0 _ _ _ _
    · refine ev_iconst (pc' := 25) (v := 0) dX0_meetingOfBalls_24 rfl ki_0 ?_
      refine ev_iret dX0_meetingOfBalls_25 rfl rfl ⟨Nat.le_refl _, Nat.le_refl _⟩ ?_
      have e : cMb (cFig (L 13) ((L 12) 5) ((L 12) 6)) (cSc (L 13) 5).1 = 0 := by
        rw [g5]
        unfold cMb
        rw [if_neg (by decide)]
        rw [if_neg c12]
      rw [e] at k0
      exact k0 _ _ _ _
  · rw [g5] at hr
    subst hr
    refine ev_bipush (pc' := 6) (v := 10) dX0_meetingOfBalls_4 rfl kb_10 ?_
    refine ev_irem (pc' := 7) (v := 1) dX0_meetingOfBalls_6 rfl (by decide) (by decide) ?_
    refine ev_istore_n (pc' := 8) (i := 1) (lv' := [some (.ref 12), some (.int 1)]) dX0_meetingOfBalls_7 rfl rfl (Nat.le_of_ble_eq_true rfl) rfl rfl ?_
    refine ev_iload_n (pc' := 9) (i := 1) dX0_meetingOfBalls_8 rfl rfl rfl ?_
    refine ev_iconst (pc' := 10) (v := 5) dX0_meetingOfBalls_9 rfl ki_5 ?_
    refine ev_icmp_ge (tgt := 24) (pc' := 13) dX0_meetingOfBalls_10 rfl rfl (fun h => absurd h (by decide)) (fun _ => ?_)
    refine ev_aload_n (pc' := 14) (i := 0) dX0_meetingOfBalls_13 rfl rfl rfl ?_
    refine ev_getR (pc' := 17) fo_X0_9 dX0_meetingOfBalls_14 rfl hs_12 rfl rf_12_0 ?_
    refine ev_callS (pc' := 20) (rm' := rX7_signChanges) (av := [.ref 13]) (rest := []) co_X0_130 cs_X7_signChanges dX0_meetingOfBalls_17 rfl rfl rfl (Nat.le_of_ble_eq_true rfl) ⟨(Nat.le_of_ble_eq_true rfl), (Nat.le_of_ble_eq_true rfl)⟩ ⟨(Nat.le_of_ble_eq_true rfl), (Nat.le_of_ble_eq_true rfl)⟩ ?_
    refine t_X7_signChanges 13 hs_13 ?_
    refine ev_eqi (w := (cSc (L 13) 5).1) rfl ?_
    refine ev_iconst (pc' := 21) (v := 2) dX0_meetingOfBalls_20 rfl ki_2 ?_
    refine ev_icmp_eq (tgt := 26) (pc' := 24) dX0_meetingOfBalls_21 rfl rfl (fun c13 => ?_) (fun c13 => ?_)
    · refine ev_iload_n (pc' := 27) (i := 1) dX0_meetingOfBalls_26 rfl rfl rfl ?_
      refine ev_iconst (pc' := 28) (v := 1) dX0_meetingOfBalls_27 rfl ki_1 ?_
      refine ev_icmp_ne (tgt := 35) (pc' := 31) dX0_meetingOfBalls_28 rfl rfl (fun h => absurd (by decide) h) (fun _ => ?_)
      refine ev_iconst (pc' := 32) (v := 2) dX0_meetingOfBalls_31 rfl ki_2 ?_
      refine ev_goto (tgt := 36) dX0_meetingOfBalls_32 rfl ?_
      refine ev_iret dX0_meetingOfBalls_36 rfl rfl ⟨Nat.le_refl _, Nat.le_refl _⟩ ?_
      have e : cMb (cFig (L 13) ((L 12) 5) ((L 12) 6)) (cSc (L 13) 5).1 = 2 := by
        rw [g5]
        unfold cMb
        rw [if_neg (by decide)]
        rw [if_pos c13]
        rw [if_pos (by decide)]
      rw [e] at k0
      exact k0 _ _ _ _
    · refine ev_iconst (pc' := 25) (v := 0) dX0_meetingOfBalls_24 rfl ki_0 ?_
      refine ev_iret dX0_meetingOfBalls_25 rfl rfl ⟨Nat.le_refl _, Nat.le_refl _⟩ ?_
      have e : cMb (cFig (L 13) ((L 12) 5) ((L 12) 6)) (cSc (L 13) 5).1 = 0 := by
        rw [g5]
        unfold cMb
        rw [if_neg (by decide)]
        rw [if_neg c13]
      rw [e] at k0
      exact k0 _ _ _ _
  · rw [g5] at hr
    subst hr
    refine ev_bipush (pc' := 6) (v := 10) dX0_meetingOfBalls_4 rfl kb_10 ?_
    refine ev_irem (pc' := 7) (v := 1) dX0_meetingOfBalls_6 rfl (by decide) (by decide) ?_
    refine ev_istore_n (pc' := 8) (i := 1) (lv' := [some (.ref 12), some (.int 1)]) dX0_meetingOfBalls_7 rfl rfl (Nat.le_of_ble_eq_true rfl) rfl rfl ?_
    refine ev_iload_n (pc' := 9) (i := 1) dX0_meetingOfBalls_8 rfl rfl rfl ?_
    refine ev_iconst (pc' := 10) (v := 5) dX0_meetingOfBalls_9 rfl ki_5 ?_
    refine ev_icmp_ge (tgt := 24) (pc' := 13) dX0_meetingOfBalls_10 rfl rfl (fun h => absurd h (by decide)) (fun _ => ?_)
    refine ev_aload_n (pc' := 14) (i := 0) dX0_meetingOfBalls_13 rfl rfl rfl ?_
    refine ev_getR (pc' := 17) fo_X0_9 dX0_meetingOfBalls_14 rfl hs_12 rfl rf_12_0 ?_
    refine ev_callS (pc' := 20) (rm' := rX7_signChanges) (av := [.ref 13]) (rest := []) co_X0_130 cs_X7_signChanges dX0_meetingOfBalls_17 rfl rfl rfl (Nat.le_of_ble_eq_true rfl) ⟨(Nat.le_of_ble_eq_true rfl), (Nat.le_of_ble_eq_true rfl)⟩ ⟨(Nat.le_of_ble_eq_true rfl), (Nat.le_of_ble_eq_true rfl)⟩ ?_
    refine t_X7_signChanges 13 hs_13 ?_
    refine ev_eqi (w := (cSc (L 13) 5).1) rfl ?_
    refine ev_iconst (pc' := 21) (v := 2) dX0_meetingOfBalls_20 rfl ki_2 ?_
    refine ev_icmp_eq (tgt := 26) (pc' := 24) dX0_meetingOfBalls_21 rfl rfl (fun c14 => ?_) (fun c14 => ?_)
    · refine ev_iload_n (pc' := 27) (i := 1) dX0_meetingOfBalls_26 rfl rfl rfl ?_
      refine ev_iconst (pc' := 28) (v := 1) dX0_meetingOfBalls_27 rfl ki_1 ?_
      refine ev_icmp_ne (tgt := 35) (pc' := 31) dX0_meetingOfBalls_28 rfl rfl (fun h => absurd (by decide) h) (fun _ => ?_)
      refine ev_iconst (pc' := 32) (v := 2) dX0_meetingOfBalls_31 rfl ki_2 ?_
      refine ev_goto (tgt := 36) dX0_meetingOfBalls_32 rfl ?_
      refine ev_iret dX0_meetingOfBalls_36 rfl rfl ⟨Nat.le_refl _, Nat.le_refl _⟩ ?_
      have e : cMb (cFig (L 13) ((L 12) 5) ((L 12) 6)) (cSc (L 13) 5).1 = 2 := by
        rw [g5]
        unfold cMb
        rw [if_neg (by decide)]
        rw [if_pos c14]
        rw [if_pos (by decide)]
      rw [e] at k0
      exact k0 _ _ _ _
    · refine ev_iconst (pc' := 25) (v := 0) dX0_meetingOfBalls_24 rfl ki_0 ?_
      refine ev_iret dX0_meetingOfBalls_25 rfl rfl ⟨Nat.le_refl _, Nat.le_refl _⟩ ?_
      have e : cMb (cFig (L 13) ((L 12) 5) ((L 12) 6)) (cSc (L 13) 5).1 = 0 := by
        rw [g5]
        unfold cMb
        rw [if_neg (by decide)]
        rw [if_neg c14]
      rw [e] at k0
      exact k0 _ _ _ _
set_option maxRecDepth 4000 in
theorem t_X0_valueBy134 {g : ma_G} {Post : ma_P} {I : ma_I} {L : ma_L} (m : Int64) (q : Int64)  (k : Post (some (.long ((((((((((0 * m) + (((L 13) 0) * 1)) * m) + (((L 13) 1) * (1 * q))) * m) + (((L 13) 2) * ((1 * q) * q))) * m) + (((L 13) 3) * (((1 * q) * q) * q))) * m) + (((L 13) 4) * ((((1 * q) * q) * q) * q))))) HS I L RF 146) : CT g yX0_valueBy cX0_valueBy 11 (some .long) rX0_valueBy [.ref 13, .int 4, .long m, .long q] Post HS I L RF 146 := by
  refine ct_of (lv := [some (.ref 13), some (.int 4), some (.long m), none, some (.long q), none, none, none, none, none, none]) (by decide) (Nat.le_of_ble_eq_true rfl) rfl ?_
  refine ev_lconst (pc' := 1) (v := 0) dX0_valueBy_0 rfl kl_0 ?_
  refine ev_lstore (pc' := 3) (lv' := [some (.ref 13), some (.int 4), some (.long m), none, some (.long q), none, some (.long 0), none, none, none, none]) dX0_valueBy_1 rfl (Nat.le_of_ble_eq_true rfl) rfl rfl ?_
  refine ev_lconst (pc' := 4) (v := 1) dX0_valueBy_3 rfl kl_1 ?_
  refine ev_lstore (pc' := 6) (lv' := [some (.ref 13), some (.int 4), some (.long m), none, some (.long q), none, some (.long 0), none, some (.long 1), none, none]) dX0_valueBy_4 rfl (Nat.le_of_ble_eq_true rfl) rfl rfl ?_
  refine ev_iconst (pc' := 7) (v := 0) dX0_valueBy_6 rfl ki_0 ?_
  refine ev_istore (pc' := 9) (lv' := [some (.ref 13), some (.int 4), some (.long m), none, some (.long q), none, some (.long 0), none, some (.long 1), none, some (.int 0)]) dX0_valueBy_7 rfl (Nat.le_of_ble_eq_true rfl) rfl rfl ?_
  refine ev_iload (pc' := 11) dX0_valueBy_9 rfl rfl ?_
  refine ev_iload_n (pc' := 12) (i := 1) dX0_valueBy_11 rfl rfl rfl ?_
  refine ev_icmp_gt (tgt := 49) (pc' := 15) dX0_valueBy_12 rfl rfl (fun h => absurd h (by decide)) (fun _ => ?_)
  refine ev_iload (pc' := 17) dX0_valueBy_15 rfl rfl ?_
  refine ev_aload_n (pc' := 18) (i := 0) dX0_valueBy_17 rfl rfl rfl ?_
  refine ev_alen (pc' := 19) (v := 5) dX0_valueBy_18 rfl hs_13 (by decide) rfl ?_
  refine ev_icmp_ge (tgt := 49) (pc' := 22) dX0_valueBy_19 rfl rfl (fun h => absurd h (by decide)) (fun _ => ?_)
  refine ev_lload (pc' := 24) dX0_valueBy_22 rfl rfl ?_
  refine ev_lload_n (pc' := 25) (i := 2) dX0_valueBy_24 rfl rfl rfl ?_
  refine ev_lmul (pc' := 26) (v := 0 * m) dX0_valueBy_25 rfl rfl ?_
  refine ev_aload_n (pc' := 27) (i := 0) dX0_valueBy_26 rfl rfl rfl ?_
  refine ev_iload (pc' := 29) dX0_valueBy_27 rfl rfl ?_
  refine ev_lald (pc' := 30) (j := 0) (v := (L 13) 0) dX0_valueBy_29 rfl hs_13 rfl (Nat.le_of_ble_eq_true rfl) (Nat.le_of_ble_eq_true rfl) rfl ?_
  refine ev_lload (pc' := 32) dX0_valueBy_30 rfl rfl ?_
  refine ev_lmul (pc' := 33) (v := ((L 13) 0) * 1) dX0_valueBy_32 rfl rfl ?_
  refine ev_ladd (pc' := 34) (v := (0 * m) + (((L 13) 0) * 1)) dX0_valueBy_33 rfl rfl ?_
  refine ev_lstore (pc' := 36) (lv' := [some (.ref 13), some (.int 4), some (.long m), none, some (.long q), none, some (.long ((0 * m) + (((L 13) 0) * 1))), none, some (.long 1), none, some (.int 0)]) dX0_valueBy_34 rfl (Nat.le_of_ble_eq_true rfl) rfl rfl ?_
  refine ev_lload (pc' := 38) dX0_valueBy_36 rfl rfl ?_
  refine ev_lload (pc' := 40) dX0_valueBy_38 rfl rfl ?_
  refine ev_lmul (pc' := 41) (v := 1 * q) dX0_valueBy_40 rfl rfl ?_
  refine ev_lstore (pc' := 43) (lv' := [some (.ref 13), some (.int 4), some (.long m), none, some (.long q), none, some (.long ((0 * m) + (((L 13) 0) * 1))), none, some (.long (1 * q)), none, some (.int 0)]) dX0_valueBy_41 rfl (Nat.le_of_ble_eq_true rfl) rfl rfl ?_
  refine ev_iinc (pc' := 46) (v := 1) (lv' := [some (.ref 13), some (.int 4), some (.long m), none, some (.long q), none, some (.long ((0 * m) + (((L 13) 0) * 1))), none, some (.long (1 * q)), none, some (.int 1)]) dX0_valueBy_43 rfl rfl (by decide) (Nat.le_of_ble_eq_true rfl) rfl rfl ?_
  refine ev_goto (tgt := 9) dX0_valueBy_46 rfl ?_
  refine ev_iload (pc' := 11) dX0_valueBy_9 rfl rfl ?_
  refine ev_iload_n (pc' := 12) (i := 1) dX0_valueBy_11 rfl rfl rfl ?_
  refine ev_icmp_gt (tgt := 49) (pc' := 15) dX0_valueBy_12 rfl rfl (fun h => absurd h (by decide)) (fun _ => ?_)
  refine ev_iload (pc' := 17) dX0_valueBy_15 rfl rfl ?_
  refine ev_aload_n (pc' := 18) (i := 0) dX0_valueBy_17 rfl rfl rfl ?_
  refine ev_alen (pc' := 19) (v := 5) dX0_valueBy_18 rfl hs_13 (by decide) rfl ?_
  refine ev_icmp_ge (tgt := 49) (pc' := 22) dX0_valueBy_19 rfl rfl (fun h => absurd h (by decide)) (fun _ => ?_)
  refine ev_lload (pc' := 24) dX0_valueBy_22 rfl rfl ?_
  refine ev_lload_n (pc' := 25) (i := 2) dX0_valueBy_24 rfl rfl rfl ?_
  refine ev_lmul (pc' := 26) (v := ((0 * m) + (((L 13) 0) * 1)) * m) dX0_valueBy_25 rfl rfl ?_
  refine ev_aload_n (pc' := 27) (i := 0) dX0_valueBy_26 rfl rfl rfl ?_
  refine ev_iload (pc' := 29) dX0_valueBy_27 rfl rfl ?_
  refine ev_lald (pc' := 30) (j := 1) (v := (L 13) 1) dX0_valueBy_29 rfl hs_13 rfl (Nat.le_of_ble_eq_true rfl) (Nat.le_of_ble_eq_true rfl) rfl ?_
  refine ev_lload (pc' := 32) dX0_valueBy_30 rfl rfl ?_
  refine ev_lmul (pc' := 33) (v := ((L 13) 1) * (1 * q)) dX0_valueBy_32 rfl rfl ?_
  refine ev_ladd (pc' := 34) (v := (((0 * m) + (((L 13) 0) * 1)) * m) + (((L 13) 1) * (1 * q))) dX0_valueBy_33 rfl rfl ?_
  refine ev_lstore (pc' := 36) (lv' := [some (.ref 13), some (.int 4), some (.long m), none, some (.long q), none, some (.long ((((0 * m) + (((L 13) 0) * 1)) * m) + (((L 13) 1) * (1 * q)))), none, some (.long (1 * q)), none, some (.int 1)]) dX0_valueBy_34 rfl (Nat.le_of_ble_eq_true rfl) rfl rfl ?_
  refine ev_lload (pc' := 38) dX0_valueBy_36 rfl rfl ?_
  refine ev_lload (pc' := 40) dX0_valueBy_38 rfl rfl ?_
  refine ev_lmul (pc' := 41) (v := (1 * q) * q) dX0_valueBy_40 rfl rfl ?_
  refine ev_lstore (pc' := 43) (lv' := [some (.ref 13), some (.int 4), some (.long m), none, some (.long q), none, some (.long ((((0 * m) + (((L 13) 0) * 1)) * m) + (((L 13) 1) * (1 * q)))), none, some (.long ((1 * q) * q)), none, some (.int 1)]) dX0_valueBy_41 rfl (Nat.le_of_ble_eq_true rfl) rfl rfl ?_
  refine ev_iinc (pc' := 46) (v := 2) (lv' := [some (.ref 13), some (.int 4), some (.long m), none, some (.long q), none, some (.long ((((0 * m) + (((L 13) 0) * 1)) * m) + (((L 13) 1) * (1 * q)))), none, some (.long ((1 * q) * q)), none, some (.int 2)]) dX0_valueBy_43 rfl rfl (by decide) (Nat.le_of_ble_eq_true rfl) rfl rfl ?_
  refine ev_goto (tgt := 9) dX0_valueBy_46 rfl ?_
  refine ev_iload (pc' := 11) dX0_valueBy_9 rfl rfl ?_
  refine ev_iload_n (pc' := 12) (i := 1) dX0_valueBy_11 rfl rfl rfl ?_
  refine ev_icmp_gt (tgt := 49) (pc' := 15) dX0_valueBy_12 rfl rfl (fun h => absurd h (by decide)) (fun _ => ?_)
  refine ev_iload (pc' := 17) dX0_valueBy_15 rfl rfl ?_
  refine ev_aload_n (pc' := 18) (i := 0) dX0_valueBy_17 rfl rfl rfl ?_
  refine ev_alen (pc' := 19) (v := 5) dX0_valueBy_18 rfl hs_13 (by decide) rfl ?_
  refine ev_icmp_ge (tgt := 49) (pc' := 22) dX0_valueBy_19 rfl rfl (fun h => absurd h (by decide)) (fun _ => ?_)
  refine ev_lload (pc' := 24) dX0_valueBy_22 rfl rfl ?_
  refine ev_lload_n (pc' := 25) (i := 2) dX0_valueBy_24 rfl rfl rfl ?_
  refine ev_lmul (pc' := 26) (v := ((((0 * m) + (((L 13) 0) * 1)) * m) + (((L 13) 1) * (1 * q))) * m) dX0_valueBy_25 rfl rfl ?_
  refine ev_aload_n (pc' := 27) (i := 0) dX0_valueBy_26 rfl rfl rfl ?_
  refine ev_iload (pc' := 29) dX0_valueBy_27 rfl rfl ?_
  refine ev_lald (pc' := 30) (j := 2) (v := (L 13) 2) dX0_valueBy_29 rfl hs_13 rfl (Nat.le_of_ble_eq_true rfl) (Nat.le_of_ble_eq_true rfl) rfl ?_
  refine ev_lload (pc' := 32) dX0_valueBy_30 rfl rfl ?_
  refine ev_lmul (pc' := 33) (v := ((L 13) 2) * ((1 * q) * q)) dX0_valueBy_32 rfl rfl ?_
  refine ev_ladd (pc' := 34) (v := (((((0 * m) + (((L 13) 0) * 1)) * m) + (((L 13) 1) * (1 * q))) * m) + (((L 13) 2) * ((1 * q) * q))) dX0_valueBy_33 rfl rfl ?_
  refine ev_lstore (pc' := 36) (lv' := [some (.ref 13), some (.int 4), some (.long m), none, some (.long q), none, some (.long ((((((0 * m) + (((L 13) 0) * 1)) * m) + (((L 13) 1) * (1 * q))) * m) + (((L 13) 2) * ((1 * q) * q)))), none, some (.long ((1 * q) * q)), none, some (.int 2)]) dX0_valueBy_34 rfl (Nat.le_of_ble_eq_true rfl) rfl rfl ?_
  refine ev_lload (pc' := 38) dX0_valueBy_36 rfl rfl ?_
  refine ev_lload (pc' := 40) dX0_valueBy_38 rfl rfl ?_
  refine ev_lmul (pc' := 41) (v := ((1 * q) * q) * q) dX0_valueBy_40 rfl rfl ?_
  refine ev_lstore (pc' := 43) (lv' := [some (.ref 13), some (.int 4), some (.long m), none, some (.long q), none, some (.long ((((((0 * m) + (((L 13) 0) * 1)) * m) + (((L 13) 1) * (1 * q))) * m) + (((L 13) 2) * ((1 * q) * q)))), none, some (.long (((1 * q) * q) * q)), none, some (.int 2)]) dX0_valueBy_41 rfl (Nat.le_of_ble_eq_true rfl) rfl rfl ?_
  refine ev_iinc (pc' := 46) (v := 3) (lv' := [some (.ref 13), some (.int 4), some (.long m), none, some (.long q), none, some (.long ((((((0 * m) + (((L 13) 0) * 1)) * m) + (((L 13) 1) * (1 * q))) * m) + (((L 13) 2) * ((1 * q) * q)))), none, some (.long (((1 * q) * q) * q)), none, some (.int 3)]) dX0_valueBy_43 rfl rfl (by decide) (Nat.le_of_ble_eq_true rfl) rfl rfl ?_
  refine ev_goto (tgt := 9) dX0_valueBy_46 rfl ?_
  refine ev_iload (pc' := 11) dX0_valueBy_9 rfl rfl ?_
  refine ev_iload_n (pc' := 12) (i := 1) dX0_valueBy_11 rfl rfl rfl ?_
  refine ev_icmp_gt (tgt := 49) (pc' := 15) dX0_valueBy_12 rfl rfl (fun h => absurd h (by decide)) (fun _ => ?_)
  refine ev_iload (pc' := 17) dX0_valueBy_15 rfl rfl ?_
  refine ev_aload_n (pc' := 18) (i := 0) dX0_valueBy_17 rfl rfl rfl ?_
  refine ev_alen (pc' := 19) (v := 5) dX0_valueBy_18 rfl hs_13 (by decide) rfl ?_
  refine ev_icmp_ge (tgt := 49) (pc' := 22) dX0_valueBy_19 rfl rfl (fun h => absurd h (by decide)) (fun _ => ?_)
  refine ev_lload (pc' := 24) dX0_valueBy_22 rfl rfl ?_
  refine ev_lload_n (pc' := 25) (i := 2) dX0_valueBy_24 rfl rfl rfl ?_
  refine ev_lmul (pc' := 26) (v := ((((((0 * m) + (((L 13) 0) * 1)) * m) + (((L 13) 1) * (1 * q))) * m) + (((L 13) 2) * ((1 * q) * q))) * m) dX0_valueBy_25 rfl rfl ?_
  refine ev_aload_n (pc' := 27) (i := 0) dX0_valueBy_26 rfl rfl rfl ?_
  refine ev_iload (pc' := 29) dX0_valueBy_27 rfl rfl ?_
  refine ev_lald (pc' := 30) (j := 3) (v := (L 13) 3) dX0_valueBy_29 rfl hs_13 rfl (Nat.le_of_ble_eq_true rfl) (Nat.le_of_ble_eq_true rfl) rfl ?_
  refine ev_lload (pc' := 32) dX0_valueBy_30 rfl rfl ?_
  refine ev_lmul (pc' := 33) (v := ((L 13) 3) * (((1 * q) * q) * q)) dX0_valueBy_32 rfl rfl ?_
  refine ev_ladd (pc' := 34) (v := (((((((0 * m) + (((L 13) 0) * 1)) * m) + (((L 13) 1) * (1 * q))) * m) + (((L 13) 2) * ((1 * q) * q))) * m) + (((L 13) 3) * (((1 * q) * q) * q))) dX0_valueBy_33 rfl rfl ?_
  refine ev_lstore (pc' := 36) (lv' := [some (.ref 13), some (.int 4), some (.long m), none, some (.long q), none, some (.long ((((((((0 * m) + (((L 13) 0) * 1)) * m) + (((L 13) 1) * (1 * q))) * m) + (((L 13) 2) * ((1 * q) * q))) * m) + (((L 13) 3) * (((1 * q) * q) * q)))), none, some (.long (((1 * q) * q) * q)), none, some (.int 3)]) dX0_valueBy_34 rfl (Nat.le_of_ble_eq_true rfl) rfl rfl ?_
  refine ev_lload (pc' := 38) dX0_valueBy_36 rfl rfl ?_
  refine ev_lload (pc' := 40) dX0_valueBy_38 rfl rfl ?_
  refine ev_lmul (pc' := 41) (v := (((1 * q) * q) * q) * q) dX0_valueBy_40 rfl rfl ?_
  refine ev_lstore (pc' := 43) (lv' := [some (.ref 13), some (.int 4), some (.long m), none, some (.long q), none, some (.long ((((((((0 * m) + (((L 13) 0) * 1)) * m) + (((L 13) 1) * (1 * q))) * m) + (((L 13) 2) * ((1 * q) * q))) * m) + (((L 13) 3) * (((1 * q) * q) * q)))), none, some (.long ((((1 * q) * q) * q) * q)), none, some (.int 3)]) dX0_valueBy_41 rfl (Nat.le_of_ble_eq_true rfl) rfl rfl ?_
  refine ev_iinc (pc' := 46) (v := 4) (lv' := [some (.ref 13), some (.int 4), some (.long m), none, some (.long q), none, some (.long ((((((((0 * m) + (((L 13) 0) * 1)) * m) + (((L 13) 1) * (1 * q))) * m) + (((L 13) 2) * ((1 * q) * q))) * m) + (((L 13) 3) * (((1 * q) * q) * q)))), none, some (.long ((((1 * q) * q) * q) * q)), none, some (.int 4)]) dX0_valueBy_43 rfl rfl (by decide) (Nat.le_of_ble_eq_true rfl) rfl rfl ?_
  refine ev_goto (tgt := 9) dX0_valueBy_46 rfl ?_
  refine ev_iload (pc' := 11) dX0_valueBy_9 rfl rfl ?_
  refine ev_iload_n (pc' := 12) (i := 1) dX0_valueBy_11 rfl rfl rfl ?_
  refine ev_icmp_gt (tgt := 49) (pc' := 15) dX0_valueBy_12 rfl rfl (fun h => absurd h (by decide)) (fun _ => ?_)
  refine ev_iload (pc' := 17) dX0_valueBy_15 rfl rfl ?_
  refine ev_aload_n (pc' := 18) (i := 0) dX0_valueBy_17 rfl rfl rfl ?_
  refine ev_alen (pc' := 19) (v := 5) dX0_valueBy_18 rfl hs_13 (by decide) rfl ?_
  refine ev_icmp_ge (tgt := 49) (pc' := 22) dX0_valueBy_19 rfl rfl (fun h => absurd h (by decide)) (fun _ => ?_)
  refine ev_lload (pc' := 24) dX0_valueBy_22 rfl rfl ?_
  refine ev_lload_n (pc' := 25) (i := 2) dX0_valueBy_24 rfl rfl rfl ?_
  refine ev_lmul (pc' := 26) (v := ((((((((0 * m) + (((L 13) 0) * 1)) * m) + (((L 13) 1) * (1 * q))) * m) + (((L 13) 2) * ((1 * q) * q))) * m) + (((L 13) 3) * (((1 * q) * q) * q))) * m) dX0_valueBy_25 rfl rfl ?_
  refine ev_aload_n (pc' := 27) (i := 0) dX0_valueBy_26 rfl rfl rfl ?_
  refine ev_iload (pc' := 29) dX0_valueBy_27 rfl rfl ?_
  refine ev_lald (pc' := 30) (j := 4) (v := (L 13) 4) dX0_valueBy_29 rfl hs_13 rfl (Nat.le_of_ble_eq_true rfl) (Nat.le_of_ble_eq_true rfl) rfl ?_
  refine ev_lload (pc' := 32) dX0_valueBy_30 rfl rfl ?_
  refine ev_lmul (pc' := 33) (v := ((L 13) 4) * ((((1 * q) * q) * q) * q)) dX0_valueBy_32 rfl rfl ?_
  refine ev_ladd (pc' := 34) (v := (((((((((0 * m) + (((L 13) 0) * 1)) * m) + (((L 13) 1) * (1 * q))) * m) + (((L 13) 2) * ((1 * q) * q))) * m) + (((L 13) 3) * (((1 * q) * q) * q))) * m) + (((L 13) 4) * ((((1 * q) * q) * q) * q))) dX0_valueBy_33 rfl rfl ?_
  refine ev_lstore (pc' := 36) (lv' := [some (.ref 13), some (.int 4), some (.long m), none, some (.long q), none, some (.long ((((((((((0 * m) + (((L 13) 0) * 1)) * m) + (((L 13) 1) * (1 * q))) * m) + (((L 13) 2) * ((1 * q) * q))) * m) + (((L 13) 3) * (((1 * q) * q) * q))) * m) + (((L 13) 4) * ((((1 * q) * q) * q) * q)))), none, some (.long ((((1 * q) * q) * q) * q)), none, some (.int 4)]) dX0_valueBy_34 rfl (Nat.le_of_ble_eq_true rfl) rfl rfl ?_
  refine ev_lload (pc' := 38) dX0_valueBy_36 rfl rfl ?_
  refine ev_lload (pc' := 40) dX0_valueBy_38 rfl rfl ?_
  refine ev_lmul (pc' := 41) (v := ((((1 * q) * q) * q) * q) * q) dX0_valueBy_40 rfl rfl ?_
  refine ev_lstore (pc' := 43) (lv' := [some (.ref 13), some (.int 4), some (.long m), none, some (.long q), none, some (.long ((((((((((0 * m) + (((L 13) 0) * 1)) * m) + (((L 13) 1) * (1 * q))) * m) + (((L 13) 2) * ((1 * q) * q))) * m) + (((L 13) 3) * (((1 * q) * q) * q))) * m) + (((L 13) 4) * ((((1 * q) * q) * q) * q)))), none, some (.long (((((1 * q) * q) * q) * q) * q)), none, some (.int 4)]) dX0_valueBy_41 rfl (Nat.le_of_ble_eq_true rfl) rfl rfl ?_
  refine ev_iinc (pc' := 46) (v := 5) (lv' := [some (.ref 13), some (.int 4), some (.long m), none, some (.long q), none, some (.long ((((((((((0 * m) + (((L 13) 0) * 1)) * m) + (((L 13) 1) * (1 * q))) * m) + (((L 13) 2) * ((1 * q) * q))) * m) + (((L 13) 3) * (((1 * q) * q) * q))) * m) + (((L 13) 4) * ((((1 * q) * q) * q) * q)))), none, some (.long (((((1 * q) * q) * q) * q) * q)), none, some (.int 5)]) dX0_valueBy_43 rfl rfl (by decide) (Nat.le_of_ble_eq_true rfl) rfl rfl ?_
  refine ev_goto (tgt := 9) dX0_valueBy_46 rfl ?_
  refine ev_iload (pc' := 11) dX0_valueBy_9 rfl rfl ?_
  refine ev_iload_n (pc' := 12) (i := 1) dX0_valueBy_11 rfl rfl rfl ?_
  refine ev_icmp_gt (tgt := 49) (pc' := 15) dX0_valueBy_12 rfl rfl (fun _ => ?_) (fun h => absurd (by decide) h)
  refine ev_lload (pc' := 51) dX0_valueBy_49 rfl rfl ?_
  refine ev_lret dX0_valueBy_51 rfl ⟨Nat.le_refl _, Nat.le_refl _⟩ ?_
  exact k
set_option maxRecDepth 4000 in
theorem t_X0_valueBy144 {g : ma_G} {Post : ma_P} {I : ma_I} {L : ma_L} (m : Int64) (q : Int64)  (k : Post (some (.long ((((((((((0 * m) + (((L 14) 0) * 1)) * m) + (((L 14) 1) * (1 * q))) * m) + (((L 14) 2) * ((1 * q) * q))) * m) + (((L 14) 3) * (((1 * q) * q) * q))) * m) + (((L 14) 4) * ((((1 * q) * q) * q) * q))))) HS I L RF 146) : CT g yX0_valueBy cX0_valueBy 11 (some .long) rX0_valueBy [.ref 14, .int 4, .long m, .long q] Post HS I L RF 146 := by
  refine ct_of (lv := [some (.ref 14), some (.int 4), some (.long m), none, some (.long q), none, none, none, none, none, none]) (by decide) (Nat.le_of_ble_eq_true rfl) rfl ?_
  refine ev_lconst (pc' := 1) (v := 0) dX0_valueBy_0 rfl kl_0 ?_
  refine ev_lstore (pc' := 3) (lv' := [some (.ref 14), some (.int 4), some (.long m), none, some (.long q), none, some (.long 0), none, none, none, none]) dX0_valueBy_1 rfl (Nat.le_of_ble_eq_true rfl) rfl rfl ?_
  refine ev_lconst (pc' := 4) (v := 1) dX0_valueBy_3 rfl kl_1 ?_
  refine ev_lstore (pc' := 6) (lv' := [some (.ref 14), some (.int 4), some (.long m), none, some (.long q), none, some (.long 0), none, some (.long 1), none, none]) dX0_valueBy_4 rfl (Nat.le_of_ble_eq_true rfl) rfl rfl ?_
  refine ev_iconst (pc' := 7) (v := 0) dX0_valueBy_6 rfl ki_0 ?_
  refine ev_istore (pc' := 9) (lv' := [some (.ref 14), some (.int 4), some (.long m), none, some (.long q), none, some (.long 0), none, some (.long 1), none, some (.int 0)]) dX0_valueBy_7 rfl (Nat.le_of_ble_eq_true rfl) rfl rfl ?_
  refine ev_iload (pc' := 11) dX0_valueBy_9 rfl rfl ?_
  refine ev_iload_n (pc' := 12) (i := 1) dX0_valueBy_11 rfl rfl rfl ?_
  refine ev_icmp_gt (tgt := 49) (pc' := 15) dX0_valueBy_12 rfl rfl (fun h => absurd h (by decide)) (fun _ => ?_)
  refine ev_iload (pc' := 17) dX0_valueBy_15 rfl rfl ?_
  refine ev_aload_n (pc' := 18) (i := 0) dX0_valueBy_17 rfl rfl rfl ?_
  refine ev_alen (pc' := 19) (v := 5) dX0_valueBy_18 rfl hs_14 (by decide) rfl ?_
  refine ev_icmp_ge (tgt := 49) (pc' := 22) dX0_valueBy_19 rfl rfl (fun h => absurd h (by decide)) (fun _ => ?_)
  refine ev_lload (pc' := 24) dX0_valueBy_22 rfl rfl ?_
  refine ev_lload_n (pc' := 25) (i := 2) dX0_valueBy_24 rfl rfl rfl ?_
  refine ev_lmul (pc' := 26) (v := 0 * m) dX0_valueBy_25 rfl rfl ?_
  refine ev_aload_n (pc' := 27) (i := 0) dX0_valueBy_26 rfl rfl rfl ?_
  refine ev_iload (pc' := 29) dX0_valueBy_27 rfl rfl ?_
  refine ev_lald (pc' := 30) (j := 0) (v := (L 14) 0) dX0_valueBy_29 rfl hs_14 rfl (Nat.le_of_ble_eq_true rfl) (Nat.le_of_ble_eq_true rfl) rfl ?_
  refine ev_lload (pc' := 32) dX0_valueBy_30 rfl rfl ?_
  refine ev_lmul (pc' := 33) (v := ((L 14) 0) * 1) dX0_valueBy_32 rfl rfl ?_
  refine ev_ladd (pc' := 34) (v := (0 * m) + (((L 14) 0) * 1)) dX0_valueBy_33 rfl rfl ?_
  refine ev_lstore (pc' := 36) (lv' := [some (.ref 14), some (.int 4), some (.long m), none, some (.long q), none, some (.long ((0 * m) + (((L 14) 0) * 1))), none, some (.long 1), none, some (.int 0)]) dX0_valueBy_34 rfl (Nat.le_of_ble_eq_true rfl) rfl rfl ?_
  refine ev_lload (pc' := 38) dX0_valueBy_36 rfl rfl ?_
  refine ev_lload (pc' := 40) dX0_valueBy_38 rfl rfl ?_
  refine ev_lmul (pc' := 41) (v := 1 * q) dX0_valueBy_40 rfl rfl ?_
  refine ev_lstore (pc' := 43) (lv' := [some (.ref 14), some (.int 4), some (.long m), none, some (.long q), none, some (.long ((0 * m) + (((L 14) 0) * 1))), none, some (.long (1 * q)), none, some (.int 0)]) dX0_valueBy_41 rfl (Nat.le_of_ble_eq_true rfl) rfl rfl ?_
  refine ev_iinc (pc' := 46) (v := 1) (lv' := [some (.ref 14), some (.int 4), some (.long m), none, some (.long q), none, some (.long ((0 * m) + (((L 14) 0) * 1))), none, some (.long (1 * q)), none, some (.int 1)]) dX0_valueBy_43 rfl rfl (by decide) (Nat.le_of_ble_eq_true rfl) rfl rfl ?_
  refine ev_goto (tgt := 9) dX0_valueBy_46 rfl ?_
  refine ev_iload (pc' := 11) dX0_valueBy_9 rfl rfl ?_
  refine ev_iload_n (pc' := 12) (i := 1) dX0_valueBy_11 rfl rfl rfl ?_
  refine ev_icmp_gt (tgt := 49) (pc' := 15) dX0_valueBy_12 rfl rfl (fun h => absurd h (by decide)) (fun _ => ?_)
  refine ev_iload (pc' := 17) dX0_valueBy_15 rfl rfl ?_
  refine ev_aload_n (pc' := 18) (i := 0) dX0_valueBy_17 rfl rfl rfl ?_
  refine ev_alen (pc' := 19) (v := 5) dX0_valueBy_18 rfl hs_14 (by decide) rfl ?_
  refine ev_icmp_ge (tgt := 49) (pc' := 22) dX0_valueBy_19 rfl rfl (fun h => absurd h (by decide)) (fun _ => ?_)
  refine ev_lload (pc' := 24) dX0_valueBy_22 rfl rfl ?_
  refine ev_lload_n (pc' := 25) (i := 2) dX0_valueBy_24 rfl rfl rfl ?_
  refine ev_lmul (pc' := 26) (v := ((0 * m) + (((L 14) 0) * 1)) * m) dX0_valueBy_25 rfl rfl ?_
  refine ev_aload_n (pc' := 27) (i := 0) dX0_valueBy_26 rfl rfl rfl ?_
  refine ev_iload (pc' := 29) dX0_valueBy_27 rfl rfl ?_
  refine ev_lald (pc' := 30) (j := 1) (v := (L 14) 1) dX0_valueBy_29 rfl hs_14 rfl (Nat.le_of_ble_eq_true rfl) (Nat.le_of_ble_eq_true rfl) rfl ?_
  refine ev_lload (pc' := 32) dX0_valueBy_30 rfl rfl ?_
  refine ev_lmul (pc' := 33) (v := ((L 14) 1) * (1 * q)) dX0_valueBy_32 rfl rfl ?_
  refine ev_ladd (pc' := 34) (v := (((0 * m) + (((L 14) 0) * 1)) * m) + (((L 14) 1) * (1 * q))) dX0_valueBy_33 rfl rfl ?_
  refine ev_lstore (pc' := 36) (lv' := [some (.ref 14), some (.int 4), some (.long m), none, some (.long q), none, some (.long ((((0 * m) + (((L 14) 0) * 1)) * m) + (((L 14) 1) * (1 * q)))), none, some (.long (1 * q)), none, some (.int 1)]) dX0_valueBy_34 rfl (Nat.le_of_ble_eq_true rfl) rfl rfl ?_
  refine ev_lload (pc' := 38) dX0_valueBy_36 rfl rfl ?_
  refine ev_lload (pc' := 40) dX0_valueBy_38 rfl rfl ?_
  refine ev_lmul (pc' := 41) (v := (1 * q) * q) dX0_valueBy_40 rfl rfl ?_
  refine ev_lstore (pc' := 43) (lv' := [some (.ref 14), some (.int 4), some (.long m), none, some (.long q), none, some (.long ((((0 * m) + (((L 14) 0) * 1)) * m) + (((L 14) 1) * (1 * q)))), none, some (.long ((1 * q) * q)), none, some (.int 1)]) dX0_valueBy_41 rfl (Nat.le_of_ble_eq_true rfl) rfl rfl ?_
  refine ev_iinc (pc' := 46) (v := 2) (lv' := [some (.ref 14), some (.int 4), some (.long m), none, some (.long q), none, some (.long ((((0 * m) + (((L 14) 0) * 1)) * m) + (((L 14) 1) * (1 * q)))), none, some (.long ((1 * q) * q)), none, some (.int 2)]) dX0_valueBy_43 rfl rfl (by decide) (Nat.le_of_ble_eq_true rfl) rfl rfl ?_
  refine ev_goto (tgt := 9) dX0_valueBy_46 rfl ?_
  refine ev_iload (pc' := 11) dX0_valueBy_9 rfl rfl ?_
  refine ev_iload_n (pc' := 12) (i := 1) dX0_valueBy_11 rfl rfl rfl ?_
  refine ev_icmp_gt (tgt := 49) (pc' := 15) dX0_valueBy_12 rfl rfl (fun h => absurd h (by decide)) (fun _ => ?_)
  refine ev_iload (pc' := 17) dX0_valueBy_15 rfl rfl ?_
  refine ev_aload_n (pc' := 18) (i := 0) dX0_valueBy_17 rfl rfl rfl ?_
  refine ev_alen (pc' := 19) (v := 5) dX0_valueBy_18 rfl hs_14 (by decide) rfl ?_
  refine ev_icmp_ge (tgt := 49) (pc' := 22) dX0_valueBy_19 rfl rfl (fun h => absurd h (by decide)) (fun _ => ?_)
  refine ev_lload (pc' := 24) dX0_valueBy_22 rfl rfl ?_
  refine ev_lload_n (pc' := 25) (i := 2) dX0_valueBy_24 rfl rfl rfl ?_
  refine ev_lmul (pc' := 26) (v := ((((0 * m) + (((L 14) 0) * 1)) * m) + (((L 14) 1) * (1 * q))) * m) dX0_valueBy_25 rfl rfl ?_
  refine ev_aload_n (pc' := 27) (i := 0) dX0_valueBy_26 rfl rfl rfl ?_
  refine ev_iload (pc' := 29) dX0_valueBy_27 rfl rfl ?_
  refine ev_lald (pc' := 30) (j := 2) (v := (L 14) 2) dX0_valueBy_29 rfl hs_14 rfl (Nat.le_of_ble_eq_true rfl) (Nat.le_of_ble_eq_true rfl) rfl ?_
  refine ev_lload (pc' := 32) dX0_valueBy_30 rfl rfl ?_
  refine ev_lmul (pc' := 33) (v := ((L 14) 2) * ((1 * q) * q)) dX0_valueBy_32 rfl rfl ?_
  refine ev_ladd (pc' := 34) (v := (((((0 * m) + (((L 14) 0) * 1)) * m) + (((L 14) 1) * (1 * q))) * m) + (((L 14) 2) * ((1 * q) * q))) dX0_valueBy_33 rfl rfl ?_
  refine ev_lstore (pc' := 36) (lv' := [some (.ref 14), some (.int 4), some (.long m), none, some (.long q), none, some (.long ((((((0 * m) + (((L 14) 0) * 1)) * m) + (((L 14) 1) * (1 * q))) * m) + (((L 14) 2) * ((1 * q) * q)))), none, some (.long ((1 * q) * q)), none, some (.int 2)]) dX0_valueBy_34 rfl (Nat.le_of_ble_eq_true rfl) rfl rfl ?_
  refine ev_lload (pc' := 38) dX0_valueBy_36 rfl rfl ?_
  refine ev_lload (pc' := 40) dX0_valueBy_38 rfl rfl ?_
  refine ev_lmul (pc' := 41) (v := ((1 * q) * q) * q) dX0_valueBy_40 rfl rfl ?_
  refine ev_lstore (pc' := 43) (lv' := [some (.ref 14), some (.int 4), some (.long m), none, some (.long q), none, some (.long ((((((0 * m) + (((L 14) 0) * 1)) * m) + (((L 14) 1) * (1 * q))) * m) + (((L 14) 2) * ((1 * q) * q)))), none, some (.long (((1 * q) * q) * q)), none, some (.int 2)]) dX0_valueBy_41 rfl (Nat.le_of_ble_eq_true rfl) rfl rfl ?_
  refine ev_iinc (pc' := 46) (v := 3) (lv' := [some (.ref 14), some (.int 4), some (.long m), none, some (.long q), none, some (.long ((((((0 * m) + (((L 14) 0) * 1)) * m) + (((L 14) 1) * (1 * q))) * m) + (((L 14) 2) * ((1 * q) * q)))), none, some (.long (((1 * q) * q) * q)), none, some (.int 3)]) dX0_valueBy_43 rfl rfl (by decide) (Nat.le_of_ble_eq_true rfl) rfl rfl ?_
  refine ev_goto (tgt := 9) dX0_valueBy_46 rfl ?_
  refine ev_iload (pc' := 11) dX0_valueBy_9 rfl rfl ?_
  refine ev_iload_n (pc' := 12) (i := 1) dX0_valueBy_11 rfl rfl rfl ?_
  refine ev_icmp_gt (tgt := 49) (pc' := 15) dX0_valueBy_12 rfl rfl (fun h => absurd h (by decide)) (fun _ => ?_)
  refine ev_iload (pc' := 17) dX0_valueBy_15 rfl rfl ?_
  refine ev_aload_n (pc' := 18) (i := 0) dX0_valueBy_17 rfl rfl rfl ?_
  refine ev_alen (pc' := 19) (v := 5) dX0_valueBy_18 rfl hs_14 (by decide) rfl ?_
  refine ev_icmp_ge (tgt := 49) (pc' := 22) dX0_valueBy_19 rfl rfl (fun h => absurd h (by decide)) (fun _ => ?_)
  refine ev_lload (pc' := 24) dX0_valueBy_22 rfl rfl ?_
  refine ev_lload_n (pc' := 25) (i := 2) dX0_valueBy_24 rfl rfl rfl ?_
  refine ev_lmul (pc' := 26) (v := ((((((0 * m) + (((L 14) 0) * 1)) * m) + (((L 14) 1) * (1 * q))) * m) + (((L 14) 2) * ((1 * q) * q))) * m) dX0_valueBy_25 rfl rfl ?_
  refine ev_aload_n (pc' := 27) (i := 0) dX0_valueBy_26 rfl rfl rfl ?_
  refine ev_iload (pc' := 29) dX0_valueBy_27 rfl rfl ?_
  refine ev_lald (pc' := 30) (j := 3) (v := (L 14) 3) dX0_valueBy_29 rfl hs_14 rfl (Nat.le_of_ble_eq_true rfl) (Nat.le_of_ble_eq_true rfl) rfl ?_
  refine ev_lload (pc' := 32) dX0_valueBy_30 rfl rfl ?_
  refine ev_lmul (pc' := 33) (v := ((L 14) 3) * (((1 * q) * q) * q)) dX0_valueBy_32 rfl rfl ?_
  refine ev_ladd (pc' := 34) (v := (((((((0 * m) + (((L 14) 0) * 1)) * m) + (((L 14) 1) * (1 * q))) * m) + (((L 14) 2) * ((1 * q) * q))) * m) + (((L 14) 3) * (((1 * q) * q) * q))) dX0_valueBy_33 rfl rfl ?_
  refine ev_lstore (pc' := 36) (lv' := [some (.ref 14), some (.int 4), some (.long m), none, some (.long q), none, some (.long ((((((((0 * m) + (((L 14) 0) * 1)) * m) + (((L 14) 1) * (1 * q))) * m) + (((L 14) 2) * ((1 * q) * q))) * m) + (((L 14) 3) * (((1 * q) * q) * q)))), none, some (.long (((1 * q) * q) * q)), none, some (.int 3)]) dX0_valueBy_34 rfl (Nat.le_of_ble_eq_true rfl) rfl rfl ?_
  refine ev_lload (pc' := 38) dX0_valueBy_36 rfl rfl ?_
  refine ev_lload (pc' := 40) dX0_valueBy_38 rfl rfl ?_
  refine ev_lmul (pc' := 41) (v := (((1 * q) * q) * q) * q) dX0_valueBy_40 rfl rfl ?_
  refine ev_lstore (pc' := 43) (lv' := [some (.ref 14), some (.int 4), some (.long m), none, some (.long q), none, some (.long ((((((((0 * m) + (((L 14) 0) * 1)) * m) + (((L 14) 1) * (1 * q))) * m) + (((L 14) 2) * ((1 * q) * q))) * m) + (((L 14) 3) * (((1 * q) * q) * q)))), none, some (.long ((((1 * q) * q) * q) * q)), none, some (.int 3)]) dX0_valueBy_41 rfl (Nat.le_of_ble_eq_true rfl) rfl rfl ?_
  refine ev_iinc (pc' := 46) (v := 4) (lv' := [some (.ref 14), some (.int 4), some (.long m), none, some (.long q), none, some (.long ((((((((0 * m) + (((L 14) 0) * 1)) * m) + (((L 14) 1) * (1 * q))) * m) + (((L 14) 2) * ((1 * q) * q))) * m) + (((L 14) 3) * (((1 * q) * q) * q)))), none, some (.long ((((1 * q) * q) * q) * q)), none, some (.int 4)]) dX0_valueBy_43 rfl rfl (by decide) (Nat.le_of_ble_eq_true rfl) rfl rfl ?_
  refine ev_goto (tgt := 9) dX0_valueBy_46 rfl ?_
  refine ev_iload (pc' := 11) dX0_valueBy_9 rfl rfl ?_
  refine ev_iload_n (pc' := 12) (i := 1) dX0_valueBy_11 rfl rfl rfl ?_
  refine ev_icmp_gt (tgt := 49) (pc' := 15) dX0_valueBy_12 rfl rfl (fun h => absurd h (by decide)) (fun _ => ?_)
  refine ev_iload (pc' := 17) dX0_valueBy_15 rfl rfl ?_
  refine ev_aload_n (pc' := 18) (i := 0) dX0_valueBy_17 rfl rfl rfl ?_
  refine ev_alen (pc' := 19) (v := 5) dX0_valueBy_18 rfl hs_14 (by decide) rfl ?_
  refine ev_icmp_ge (tgt := 49) (pc' := 22) dX0_valueBy_19 rfl rfl (fun h => absurd h (by decide)) (fun _ => ?_)
  refine ev_lload (pc' := 24) dX0_valueBy_22 rfl rfl ?_
  refine ev_lload_n (pc' := 25) (i := 2) dX0_valueBy_24 rfl rfl rfl ?_
  refine ev_lmul (pc' := 26) (v := ((((((((0 * m) + (((L 14) 0) * 1)) * m) + (((L 14) 1) * (1 * q))) * m) + (((L 14) 2) * ((1 * q) * q))) * m) + (((L 14) 3) * (((1 * q) * q) * q))) * m) dX0_valueBy_25 rfl rfl ?_
  refine ev_aload_n (pc' := 27) (i := 0) dX0_valueBy_26 rfl rfl rfl ?_
  refine ev_iload (pc' := 29) dX0_valueBy_27 rfl rfl ?_
  refine ev_lald (pc' := 30) (j := 4) (v := (L 14) 4) dX0_valueBy_29 rfl hs_14 rfl (Nat.le_of_ble_eq_true rfl) (Nat.le_of_ble_eq_true rfl) rfl ?_
  refine ev_lload (pc' := 32) dX0_valueBy_30 rfl rfl ?_
  refine ev_lmul (pc' := 33) (v := ((L 14) 4) * ((((1 * q) * q) * q) * q)) dX0_valueBy_32 rfl rfl ?_
  refine ev_ladd (pc' := 34) (v := (((((((((0 * m) + (((L 14) 0) * 1)) * m) + (((L 14) 1) * (1 * q))) * m) + (((L 14) 2) * ((1 * q) * q))) * m) + (((L 14) 3) * (((1 * q) * q) * q))) * m) + (((L 14) 4) * ((((1 * q) * q) * q) * q))) dX0_valueBy_33 rfl rfl ?_
  refine ev_lstore (pc' := 36) (lv' := [some (.ref 14), some (.int 4), some (.long m), none, some (.long q), none, some (.long ((((((((((0 * m) + (((L 14) 0) * 1)) * m) + (((L 14) 1) * (1 * q))) * m) + (((L 14) 2) * ((1 * q) * q))) * m) + (((L 14) 3) * (((1 * q) * q) * q))) * m) + (((L 14) 4) * ((((1 * q) * q) * q) * q)))), none, some (.long ((((1 * q) * q) * q) * q)), none, some (.int 4)]) dX0_valueBy_34 rfl (Nat.le_of_ble_eq_true rfl) rfl rfl ?_
  refine ev_lload (pc' := 38) dX0_valueBy_36 rfl rfl ?_
  refine ev_lload (pc' := 40) dX0_valueBy_38 rfl rfl ?_
  refine ev_lmul (pc' := 41) (v := ((((1 * q) * q) * q) * q) * q) dX0_valueBy_40 rfl rfl ?_
  refine ev_lstore (pc' := 43) (lv' := [some (.ref 14), some (.int 4), some (.long m), none, some (.long q), none, some (.long ((((((((((0 * m) + (((L 14) 0) * 1)) * m) + (((L 14) 1) * (1 * q))) * m) + (((L 14) 2) * ((1 * q) * q))) * m) + (((L 14) 3) * (((1 * q) * q) * q))) * m) + (((L 14) 4) * ((((1 * q) * q) * q) * q)))), none, some (.long (((((1 * q) * q) * q) * q) * q)), none, some (.int 4)]) dX0_valueBy_41 rfl (Nat.le_of_ble_eq_true rfl) rfl rfl ?_
  refine ev_iinc (pc' := 46) (v := 5) (lv' := [some (.ref 14), some (.int 4), some (.long m), none, some (.long q), none, some (.long ((((((((((0 * m) + (((L 14) 0) * 1)) * m) + (((L 14) 1) * (1 * q))) * m) + (((L 14) 2) * ((1 * q) * q))) * m) + (((L 14) 3) * (((1 * q) * q) * q))) * m) + (((L 14) 4) * ((((1 * q) * q) * q) * q)))), none, some (.long (((((1 * q) * q) * q) * q) * q)), none, some (.int 5)]) dX0_valueBy_43 rfl rfl (by decide) (Nat.le_of_ble_eq_true rfl) rfl rfl ?_
  refine ev_goto (tgt := 9) dX0_valueBy_46 rfl ?_
  refine ev_iload (pc' := 11) dX0_valueBy_9 rfl rfl ?_
  refine ev_iload_n (pc' := 12) (i := 1) dX0_valueBy_11 rfl rfl rfl ?_
  refine ev_icmp_gt (tgt := 49) (pc' := 15) dX0_valueBy_12 rfl rfl (fun _ => ?_) (fun h => absurd (by decide) h)
  refine ev_lload (pc' := 51) dX0_valueBy_49 rfl rfl ?_
  refine ev_lret dX0_valueBy_51 rfl ⟨Nat.le_refl _, Nat.le_refl _⟩ ?_
  exact k
set_option maxRecDepth 4000 in
theorem t_X0_valueBy143 {g : ma_G} {Post : ma_P} {I : ma_I} {L : ma_L} (m : Int64) (q : Int64)  (k : Post (some (.long ((((((((0 * m) + (((L 14) 0) * 1)) * m) + (((L 14) 1) * (1 * q))) * m) + (((L 14) 2) * ((1 * q) * q))) * m) + (((L 14) 3) * (((1 * q) * q) * q))))) HS I L RF 146) : CT g yX0_valueBy cX0_valueBy 11 (some .long) rX0_valueBy [.ref 14, .int 3, .long m, .long q] Post HS I L RF 146 := by
  refine ct_of (lv := [some (.ref 14), some (.int 3), some (.long m), none, some (.long q), none, none, none, none, none, none]) (by decide) (Nat.le_of_ble_eq_true rfl) rfl ?_
  refine ev_lconst (pc' := 1) (v := 0) dX0_valueBy_0 rfl kl_0 ?_
  refine ev_lstore (pc' := 3) (lv' := [some (.ref 14), some (.int 3), some (.long m), none, some (.long q), none, some (.long 0), none, none, none, none]) dX0_valueBy_1 rfl (Nat.le_of_ble_eq_true rfl) rfl rfl ?_
  refine ev_lconst (pc' := 4) (v := 1) dX0_valueBy_3 rfl kl_1 ?_
  refine ev_lstore (pc' := 6) (lv' := [some (.ref 14), some (.int 3), some (.long m), none, some (.long q), none, some (.long 0), none, some (.long 1), none, none]) dX0_valueBy_4 rfl (Nat.le_of_ble_eq_true rfl) rfl rfl ?_
  refine ev_iconst (pc' := 7) (v := 0) dX0_valueBy_6 rfl ki_0 ?_
  refine ev_istore (pc' := 9) (lv' := [some (.ref 14), some (.int 3), some (.long m), none, some (.long q), none, some (.long 0), none, some (.long 1), none, some (.int 0)]) dX0_valueBy_7 rfl (Nat.le_of_ble_eq_true rfl) rfl rfl ?_
  refine ev_iload (pc' := 11) dX0_valueBy_9 rfl rfl ?_
  refine ev_iload_n (pc' := 12) (i := 1) dX0_valueBy_11 rfl rfl rfl ?_
  refine ev_icmp_gt (tgt := 49) (pc' := 15) dX0_valueBy_12 rfl rfl (fun h => absurd h (by decide)) (fun _ => ?_)
  refine ev_iload (pc' := 17) dX0_valueBy_15 rfl rfl ?_
  refine ev_aload_n (pc' := 18) (i := 0) dX0_valueBy_17 rfl rfl rfl ?_
  refine ev_alen (pc' := 19) (v := 5) dX0_valueBy_18 rfl hs_14 (by decide) rfl ?_
  refine ev_icmp_ge (tgt := 49) (pc' := 22) dX0_valueBy_19 rfl rfl (fun h => absurd h (by decide)) (fun _ => ?_)
  refine ev_lload (pc' := 24) dX0_valueBy_22 rfl rfl ?_
  refine ev_lload_n (pc' := 25) (i := 2) dX0_valueBy_24 rfl rfl rfl ?_
  refine ev_lmul (pc' := 26) (v := 0 * m) dX0_valueBy_25 rfl rfl ?_
  refine ev_aload_n (pc' := 27) (i := 0) dX0_valueBy_26 rfl rfl rfl ?_
  refine ev_iload (pc' := 29) dX0_valueBy_27 rfl rfl ?_
  refine ev_lald (pc' := 30) (j := 0) (v := (L 14) 0) dX0_valueBy_29 rfl hs_14 rfl (Nat.le_of_ble_eq_true rfl) (Nat.le_of_ble_eq_true rfl) rfl ?_
  refine ev_lload (pc' := 32) dX0_valueBy_30 rfl rfl ?_
  refine ev_lmul (pc' := 33) (v := ((L 14) 0) * 1) dX0_valueBy_32 rfl rfl ?_
  refine ev_ladd (pc' := 34) (v := (0 * m) + (((L 14) 0) * 1)) dX0_valueBy_33 rfl rfl ?_
  refine ev_lstore (pc' := 36) (lv' := [some (.ref 14), some (.int 3), some (.long m), none, some (.long q), none, some (.long ((0 * m) + (((L 14) 0) * 1))), none, some (.long 1), none, some (.int 0)]) dX0_valueBy_34 rfl (Nat.le_of_ble_eq_true rfl) rfl rfl ?_
  refine ev_lload (pc' := 38) dX0_valueBy_36 rfl rfl ?_
  refine ev_lload (pc' := 40) dX0_valueBy_38 rfl rfl ?_
  refine ev_lmul (pc' := 41) (v := 1 * q) dX0_valueBy_40 rfl rfl ?_
  refine ev_lstore (pc' := 43) (lv' := [some (.ref 14), some (.int 3), some (.long m), none, some (.long q), none, some (.long ((0 * m) + (((L 14) 0) * 1))), none, some (.long (1 * q)), none, some (.int 0)]) dX0_valueBy_41 rfl (Nat.le_of_ble_eq_true rfl) rfl rfl ?_
  refine ev_iinc (pc' := 46) (v := 1) (lv' := [some (.ref 14), some (.int 3), some (.long m), none, some (.long q), none, some (.long ((0 * m) + (((L 14) 0) * 1))), none, some (.long (1 * q)), none, some (.int 1)]) dX0_valueBy_43 rfl rfl (by decide) (Nat.le_of_ble_eq_true rfl) rfl rfl ?_
  refine ev_goto (tgt := 9) dX0_valueBy_46 rfl ?_
  refine ev_iload (pc' := 11) dX0_valueBy_9 rfl rfl ?_
  refine ev_iload_n (pc' := 12) (i := 1) dX0_valueBy_11 rfl rfl rfl ?_
  refine ev_icmp_gt (tgt := 49) (pc' := 15) dX0_valueBy_12 rfl rfl (fun h => absurd h (by decide)) (fun _ => ?_)
  refine ev_iload (pc' := 17) dX0_valueBy_15 rfl rfl ?_
  refine ev_aload_n (pc' := 18) (i := 0) dX0_valueBy_17 rfl rfl rfl ?_
  refine ev_alen (pc' := 19) (v := 5) dX0_valueBy_18 rfl hs_14 (by decide) rfl ?_
  refine ev_icmp_ge (tgt := 49) (pc' := 22) dX0_valueBy_19 rfl rfl (fun h => absurd h (by decide)) (fun _ => ?_)
  refine ev_lload (pc' := 24) dX0_valueBy_22 rfl rfl ?_
  refine ev_lload_n (pc' := 25) (i := 2) dX0_valueBy_24 rfl rfl rfl ?_
  refine ev_lmul (pc' := 26) (v := ((0 * m) + (((L 14) 0) * 1)) * m) dX0_valueBy_25 rfl rfl ?_
  refine ev_aload_n (pc' := 27) (i := 0) dX0_valueBy_26 rfl rfl rfl ?_
  refine ev_iload (pc' := 29) dX0_valueBy_27 rfl rfl ?_
  refine ev_lald (pc' := 30) (j := 1) (v := (L 14) 1) dX0_valueBy_29 rfl hs_14 rfl (Nat.le_of_ble_eq_true rfl) (Nat.le_of_ble_eq_true rfl) rfl ?_
  refine ev_lload (pc' := 32) dX0_valueBy_30 rfl rfl ?_
  refine ev_lmul (pc' := 33) (v := ((L 14) 1) * (1 * q)) dX0_valueBy_32 rfl rfl ?_
  refine ev_ladd (pc' := 34) (v := (((0 * m) + (((L 14) 0) * 1)) * m) + (((L 14) 1) * (1 * q))) dX0_valueBy_33 rfl rfl ?_
  refine ev_lstore (pc' := 36) (lv' := [some (.ref 14), some (.int 3), some (.long m), none, some (.long q), none, some (.long ((((0 * m) + (((L 14) 0) * 1)) * m) + (((L 14) 1) * (1 * q)))), none, some (.long (1 * q)), none, some (.int 1)]) dX0_valueBy_34 rfl (Nat.le_of_ble_eq_true rfl) rfl rfl ?_
  refine ev_lload (pc' := 38) dX0_valueBy_36 rfl rfl ?_
  refine ev_lload (pc' := 40) dX0_valueBy_38 rfl rfl ?_
  refine ev_lmul (pc' := 41) (v := (1 * q) * q) dX0_valueBy_40 rfl rfl ?_
  refine ev_lstore (pc' := 43) (lv' := [some (.ref 14), some (.int 3), some (.long m), none, some (.long q), none, some (.long ((((0 * m) + (((L 14) 0) * 1)) * m) + (((L 14) 1) * (1 * q)))), none, some (.long ((1 * q) * q)), none, some (.int 1)]) dX0_valueBy_41 rfl (Nat.le_of_ble_eq_true rfl) rfl rfl ?_
  refine ev_iinc (pc' := 46) (v := 2) (lv' := [some (.ref 14), some (.int 3), some (.long m), none, some (.long q), none, some (.long ((((0 * m) + (((L 14) 0) * 1)) * m) + (((L 14) 1) * (1 * q)))), none, some (.long ((1 * q) * q)), none, some (.int 2)]) dX0_valueBy_43 rfl rfl (by decide) (Nat.le_of_ble_eq_true rfl) rfl rfl ?_
  refine ev_goto (tgt := 9) dX0_valueBy_46 rfl ?_
  refine ev_iload (pc' := 11) dX0_valueBy_9 rfl rfl ?_
  refine ev_iload_n (pc' := 12) (i := 1) dX0_valueBy_11 rfl rfl rfl ?_
  refine ev_icmp_gt (tgt := 49) (pc' := 15) dX0_valueBy_12 rfl rfl (fun h => absurd h (by decide)) (fun _ => ?_)
  refine ev_iload (pc' := 17) dX0_valueBy_15 rfl rfl ?_
  refine ev_aload_n (pc' := 18) (i := 0) dX0_valueBy_17 rfl rfl rfl ?_
  refine ev_alen (pc' := 19) (v := 5) dX0_valueBy_18 rfl hs_14 (by decide) rfl ?_
  refine ev_icmp_ge (tgt := 49) (pc' := 22) dX0_valueBy_19 rfl rfl (fun h => absurd h (by decide)) (fun _ => ?_)
  refine ev_lload (pc' := 24) dX0_valueBy_22 rfl rfl ?_
  refine ev_lload_n (pc' := 25) (i := 2) dX0_valueBy_24 rfl rfl rfl ?_
  refine ev_lmul (pc' := 26) (v := ((((0 * m) + (((L 14) 0) * 1)) * m) + (((L 14) 1) * (1 * q))) * m) dX0_valueBy_25 rfl rfl ?_
  refine ev_aload_n (pc' := 27) (i := 0) dX0_valueBy_26 rfl rfl rfl ?_
  refine ev_iload (pc' := 29) dX0_valueBy_27 rfl rfl ?_
  refine ev_lald (pc' := 30) (j := 2) (v := (L 14) 2) dX0_valueBy_29 rfl hs_14 rfl (Nat.le_of_ble_eq_true rfl) (Nat.le_of_ble_eq_true rfl) rfl ?_
  refine ev_lload (pc' := 32) dX0_valueBy_30 rfl rfl ?_
  refine ev_lmul (pc' := 33) (v := ((L 14) 2) * ((1 * q) * q)) dX0_valueBy_32 rfl rfl ?_
  refine ev_ladd (pc' := 34) (v := (((((0 * m) + (((L 14) 0) * 1)) * m) + (((L 14) 1) * (1 * q))) * m) + (((L 14) 2) * ((1 * q) * q))) dX0_valueBy_33 rfl rfl ?_
  refine ev_lstore (pc' := 36) (lv' := [some (.ref 14), some (.int 3), some (.long m), none, some (.long q), none, some (.long ((((((0 * m) + (((L 14) 0) * 1)) * m) + (((L 14) 1) * (1 * q))) * m) + (((L 14) 2) * ((1 * q) * q)))), none, some (.long ((1 * q) * q)), none, some (.int 2)]) dX0_valueBy_34 rfl (Nat.le_of_ble_eq_true rfl) rfl rfl ?_
  refine ev_lload (pc' := 38) dX0_valueBy_36 rfl rfl ?_
  refine ev_lload (pc' := 40) dX0_valueBy_38 rfl rfl ?_
  refine ev_lmul (pc' := 41) (v := ((1 * q) * q) * q) dX0_valueBy_40 rfl rfl ?_
  refine ev_lstore (pc' := 43) (lv' := [some (.ref 14), some (.int 3), some (.long m), none, some (.long q), none, some (.long ((((((0 * m) + (((L 14) 0) * 1)) * m) + (((L 14) 1) * (1 * q))) * m) + (((L 14) 2) * ((1 * q) * q)))), none, some (.long (((1 * q) * q) * q)), none, some (.int 2)]) dX0_valueBy_41 rfl (Nat.le_of_ble_eq_true rfl) rfl rfl ?_
  refine ev_iinc (pc' := 46) (v := 3) (lv' := [some (.ref 14), some (.int 3), some (.long m), none, some (.long q), none, some (.long ((((((0 * m) + (((L 14) 0) * 1)) * m) + (((L 14) 1) * (1 * q))) * m) + (((L 14) 2) * ((1 * q) * q)))), none, some (.long (((1 * q) * q) * q)), none, some (.int 3)]) dX0_valueBy_43 rfl rfl (by decide) (Nat.le_of_ble_eq_true rfl) rfl rfl ?_
  refine ev_goto (tgt := 9) dX0_valueBy_46 rfl ?_
  refine ev_iload (pc' := 11) dX0_valueBy_9 rfl rfl ?_
  refine ev_iload_n (pc' := 12) (i := 1) dX0_valueBy_11 rfl rfl rfl ?_
  refine ev_icmp_gt (tgt := 49) (pc' := 15) dX0_valueBy_12 rfl rfl (fun h => absurd h (by decide)) (fun _ => ?_)
  refine ev_iload (pc' := 17) dX0_valueBy_15 rfl rfl ?_
  refine ev_aload_n (pc' := 18) (i := 0) dX0_valueBy_17 rfl rfl rfl ?_
  refine ev_alen (pc' := 19) (v := 5) dX0_valueBy_18 rfl hs_14 (by decide) rfl ?_
  refine ev_icmp_ge (tgt := 49) (pc' := 22) dX0_valueBy_19 rfl rfl (fun h => absurd h (by decide)) (fun _ => ?_)
  refine ev_lload (pc' := 24) dX0_valueBy_22 rfl rfl ?_
  refine ev_lload_n (pc' := 25) (i := 2) dX0_valueBy_24 rfl rfl rfl ?_
  refine ev_lmul (pc' := 26) (v := ((((((0 * m) + (((L 14) 0) * 1)) * m) + (((L 14) 1) * (1 * q))) * m) + (((L 14) 2) * ((1 * q) * q))) * m) dX0_valueBy_25 rfl rfl ?_
  refine ev_aload_n (pc' := 27) (i := 0) dX0_valueBy_26 rfl rfl rfl ?_
  refine ev_iload (pc' := 29) dX0_valueBy_27 rfl rfl ?_
  refine ev_lald (pc' := 30) (j := 3) (v := (L 14) 3) dX0_valueBy_29 rfl hs_14 rfl (Nat.le_of_ble_eq_true rfl) (Nat.le_of_ble_eq_true rfl) rfl ?_
  refine ev_lload (pc' := 32) dX0_valueBy_30 rfl rfl ?_
  refine ev_lmul (pc' := 33) (v := ((L 14) 3) * (((1 * q) * q) * q)) dX0_valueBy_32 rfl rfl ?_
  refine ev_ladd (pc' := 34) (v := (((((((0 * m) + (((L 14) 0) * 1)) * m) + (((L 14) 1) * (1 * q))) * m) + (((L 14) 2) * ((1 * q) * q))) * m) + (((L 14) 3) * (((1 * q) * q) * q))) dX0_valueBy_33 rfl rfl ?_
  refine ev_lstore (pc' := 36) (lv' := [some (.ref 14), some (.int 3), some (.long m), none, some (.long q), none, some (.long ((((((((0 * m) + (((L 14) 0) * 1)) * m) + (((L 14) 1) * (1 * q))) * m) + (((L 14) 2) * ((1 * q) * q))) * m) + (((L 14) 3) * (((1 * q) * q) * q)))), none, some (.long (((1 * q) * q) * q)), none, some (.int 3)]) dX0_valueBy_34 rfl (Nat.le_of_ble_eq_true rfl) rfl rfl ?_
  refine ev_lload (pc' := 38) dX0_valueBy_36 rfl rfl ?_
  refine ev_lload (pc' := 40) dX0_valueBy_38 rfl rfl ?_
  refine ev_lmul (pc' := 41) (v := (((1 * q) * q) * q) * q) dX0_valueBy_40 rfl rfl ?_
  refine ev_lstore (pc' := 43) (lv' := [some (.ref 14), some (.int 3), some (.long m), none, some (.long q), none, some (.long ((((((((0 * m) + (((L 14) 0) * 1)) * m) + (((L 14) 1) * (1 * q))) * m) + (((L 14) 2) * ((1 * q) * q))) * m) + (((L 14) 3) * (((1 * q) * q) * q)))), none, some (.long ((((1 * q) * q) * q) * q)), none, some (.int 3)]) dX0_valueBy_41 rfl (Nat.le_of_ble_eq_true rfl) rfl rfl ?_
  refine ev_iinc (pc' := 46) (v := 4) (lv' := [some (.ref 14), some (.int 3), some (.long m), none, some (.long q), none, some (.long ((((((((0 * m) + (((L 14) 0) * 1)) * m) + (((L 14) 1) * (1 * q))) * m) + (((L 14) 2) * ((1 * q) * q))) * m) + (((L 14) 3) * (((1 * q) * q) * q)))), none, some (.long ((((1 * q) * q) * q) * q)), none, some (.int 4)]) dX0_valueBy_43 rfl rfl (by decide) (Nat.le_of_ble_eq_true rfl) rfl rfl ?_
  refine ev_goto (tgt := 9) dX0_valueBy_46 rfl ?_
  refine ev_iload (pc' := 11) dX0_valueBy_9 rfl rfl ?_
  refine ev_iload_n (pc' := 12) (i := 1) dX0_valueBy_11 rfl rfl rfl ?_
  refine ev_icmp_gt (tgt := 49) (pc' := 15) dX0_valueBy_12 rfl rfl (fun _ => ?_) (fun h => absurd (by decide) h)
  refine ev_lload (pc' := 51) dX0_valueBy_49 rfl rfl ?_
  refine ev_lret dX0_valueBy_51 rfl ⟨Nat.le_refl _, Nat.le_refl _⟩ ?_
  exact k
set_option maxRecDepth 4000 in
theorem t_X0_valueBy142 {g : ma_G} {Post : ma_P} {I : ma_I} {L : ma_L} (m : Int64) (q : Int64)  (k : Post (some (.long ((((((0 * m) + (((L 14) 0) * 1)) * m) + (((L 14) 1) * (1 * q))) * m) + (((L 14) 2) * ((1 * q) * q))))) HS I L RF 146) : CT g yX0_valueBy cX0_valueBy 11 (some .long) rX0_valueBy [.ref 14, .int 2, .long m, .long q] Post HS I L RF 146 := by
  refine ct_of (lv := [some (.ref 14), some (.int 2), some (.long m), none, some (.long q), none, none, none, none, none, none]) (by decide) (Nat.le_of_ble_eq_true rfl) rfl ?_
  refine ev_lconst (pc' := 1) (v := 0) dX0_valueBy_0 rfl kl_0 ?_
  refine ev_lstore (pc' := 3) (lv' := [some (.ref 14), some (.int 2), some (.long m), none, some (.long q), none, some (.long 0), none, none, none, none]) dX0_valueBy_1 rfl (Nat.le_of_ble_eq_true rfl) rfl rfl ?_
  refine ev_lconst (pc' := 4) (v := 1) dX0_valueBy_3 rfl kl_1 ?_
  refine ev_lstore (pc' := 6) (lv' := [some (.ref 14), some (.int 2), some (.long m), none, some (.long q), none, some (.long 0), none, some (.long 1), none, none]) dX0_valueBy_4 rfl (Nat.le_of_ble_eq_true rfl) rfl rfl ?_
  refine ev_iconst (pc' := 7) (v := 0) dX0_valueBy_6 rfl ki_0 ?_
  refine ev_istore (pc' := 9) (lv' := [some (.ref 14), some (.int 2), some (.long m), none, some (.long q), none, some (.long 0), none, some (.long 1), none, some (.int 0)]) dX0_valueBy_7 rfl (Nat.le_of_ble_eq_true rfl) rfl rfl ?_
  refine ev_iload (pc' := 11) dX0_valueBy_9 rfl rfl ?_
  refine ev_iload_n (pc' := 12) (i := 1) dX0_valueBy_11 rfl rfl rfl ?_
  refine ev_icmp_gt (tgt := 49) (pc' := 15) dX0_valueBy_12 rfl rfl (fun h => absurd h (by decide)) (fun _ => ?_)
  refine ev_iload (pc' := 17) dX0_valueBy_15 rfl rfl ?_
  refine ev_aload_n (pc' := 18) (i := 0) dX0_valueBy_17 rfl rfl rfl ?_
  refine ev_alen (pc' := 19) (v := 5) dX0_valueBy_18 rfl hs_14 (by decide) rfl ?_
  refine ev_icmp_ge (tgt := 49) (pc' := 22) dX0_valueBy_19 rfl rfl (fun h => absurd h (by decide)) (fun _ => ?_)
  refine ev_lload (pc' := 24) dX0_valueBy_22 rfl rfl ?_
  refine ev_lload_n (pc' := 25) (i := 2) dX0_valueBy_24 rfl rfl rfl ?_
  refine ev_lmul (pc' := 26) (v := 0 * m) dX0_valueBy_25 rfl rfl ?_
  refine ev_aload_n (pc' := 27) (i := 0) dX0_valueBy_26 rfl rfl rfl ?_
  refine ev_iload (pc' := 29) dX0_valueBy_27 rfl rfl ?_
  refine ev_lald (pc' := 30) (j := 0) (v := (L 14) 0) dX0_valueBy_29 rfl hs_14 rfl (Nat.le_of_ble_eq_true rfl) (Nat.le_of_ble_eq_true rfl) rfl ?_
  refine ev_lload (pc' := 32) dX0_valueBy_30 rfl rfl ?_
  refine ev_lmul (pc' := 33) (v := ((L 14) 0) * 1) dX0_valueBy_32 rfl rfl ?_
  refine ev_ladd (pc' := 34) (v := (0 * m) + (((L 14) 0) * 1)) dX0_valueBy_33 rfl rfl ?_
  refine ev_lstore (pc' := 36) (lv' := [some (.ref 14), some (.int 2), some (.long m), none, some (.long q), none, some (.long ((0 * m) + (((L 14) 0) * 1))), none, some (.long 1), none, some (.int 0)]) dX0_valueBy_34 rfl (Nat.le_of_ble_eq_true rfl) rfl rfl ?_
  refine ev_lload (pc' := 38) dX0_valueBy_36 rfl rfl ?_
  refine ev_lload (pc' := 40) dX0_valueBy_38 rfl rfl ?_
  refine ev_lmul (pc' := 41) (v := 1 * q) dX0_valueBy_40 rfl rfl ?_
  refine ev_lstore (pc' := 43) (lv' := [some (.ref 14), some (.int 2), some (.long m), none, some (.long q), none, some (.long ((0 * m) + (((L 14) 0) * 1))), none, some (.long (1 * q)), none, some (.int 0)]) dX0_valueBy_41 rfl (Nat.le_of_ble_eq_true rfl) rfl rfl ?_
  refine ev_iinc (pc' := 46) (v := 1) (lv' := [some (.ref 14), some (.int 2), some (.long m), none, some (.long q), none, some (.long ((0 * m) + (((L 14) 0) * 1))), none, some (.long (1 * q)), none, some (.int 1)]) dX0_valueBy_43 rfl rfl (by decide) (Nat.le_of_ble_eq_true rfl) rfl rfl ?_
  refine ev_goto (tgt := 9) dX0_valueBy_46 rfl ?_
  refine ev_iload (pc' := 11) dX0_valueBy_9 rfl rfl ?_
  refine ev_iload_n (pc' := 12) (i := 1) dX0_valueBy_11 rfl rfl rfl ?_
  refine ev_icmp_gt (tgt := 49) (pc' := 15) dX0_valueBy_12 rfl rfl (fun h => absurd h (by decide)) (fun _ => ?_)
  refine ev_iload (pc' := 17) dX0_valueBy_15 rfl rfl ?_
  refine ev_aload_n (pc' := 18) (i := 0) dX0_valueBy_17 rfl rfl rfl ?_
  refine ev_alen (pc' := 19) (v := 5) dX0_valueBy_18 rfl hs_14 (by decide) rfl ?_
  refine ev_icmp_ge (tgt := 49) (pc' := 22) dX0_valueBy_19 rfl rfl (fun h => absurd h (by decide)) (fun _ => ?_)
  refine ev_lload (pc' := 24) dX0_valueBy_22 rfl rfl ?_
  refine ev_lload_n (pc' := 25) (i := 2) dX0_valueBy_24 rfl rfl rfl ?_
  refine ev_lmul (pc' := 26) (v := ((0 * m) + (((L 14) 0) * 1)) * m) dX0_valueBy_25 rfl rfl ?_
  refine ev_aload_n (pc' := 27) (i := 0) dX0_valueBy_26 rfl rfl rfl ?_
  refine ev_iload (pc' := 29) dX0_valueBy_27 rfl rfl ?_
  refine ev_lald (pc' := 30) (j := 1) (v := (L 14) 1) dX0_valueBy_29 rfl hs_14 rfl (Nat.le_of_ble_eq_true rfl) (Nat.le_of_ble_eq_true rfl) rfl ?_
  refine ev_lload (pc' := 32) dX0_valueBy_30 rfl rfl ?_
  refine ev_lmul (pc' := 33) (v := ((L 14) 1) * (1 * q)) dX0_valueBy_32 rfl rfl ?_
  refine ev_ladd (pc' := 34) (v := (((0 * m) + (((L 14) 0) * 1)) * m) + (((L 14) 1) * (1 * q))) dX0_valueBy_33 rfl rfl ?_
  refine ev_lstore (pc' := 36) (lv' := [some (.ref 14), some (.int 2), some (.long m), none, some (.long q), none, some (.long ((((0 * m) + (((L 14) 0) * 1)) * m) + (((L 14) 1) * (1 * q)))), none, some (.long (1 * q)), none, some (.int 1)]) dX0_valueBy_34 rfl (Nat.le_of_ble_eq_true rfl) rfl rfl ?_
  refine ev_lload (pc' := 38) dX0_valueBy_36 rfl rfl ?_
  refine ev_lload (pc' := 40) dX0_valueBy_38 rfl rfl ?_
  refine ev_lmul (pc' := 41) (v := (1 * q) * q) dX0_valueBy_40 rfl rfl ?_
  refine ev_lstore (pc' := 43) (lv' := [some (.ref 14), some (.int 2), some (.long m), none, some (.long q), none, some (.long ((((0 * m) + (((L 14) 0) * 1)) * m) + (((L 14) 1) * (1 * q)))), none, some (.long ((1 * q) * q)), none, some (.int 1)]) dX0_valueBy_41 rfl (Nat.le_of_ble_eq_true rfl) rfl rfl ?_
  refine ev_iinc (pc' := 46) (v := 2) (lv' := [some (.ref 14), some (.int 2), some (.long m), none, some (.long q), none, some (.long ((((0 * m) + (((L 14) 0) * 1)) * m) + (((L 14) 1) * (1 * q)))), none, some (.long ((1 * q) * q)), none, some (.int 2)]) dX0_valueBy_43 rfl rfl (by decide) (Nat.le_of_ble_eq_true rfl) rfl rfl ?_
  refine ev_goto (tgt := 9) dX0_valueBy_46 rfl ?_
  refine ev_iload (pc' := 11) dX0_valueBy_9 rfl rfl ?_
  refine ev_iload_n (pc' := 12) (i := 1) dX0_valueBy_11 rfl rfl rfl ?_
  refine ev_icmp_gt (tgt := 49) (pc' := 15) dX0_valueBy_12 rfl rfl (fun h => absurd h (by decide)) (fun _ => ?_)
  refine ev_iload (pc' := 17) dX0_valueBy_15 rfl rfl ?_
  refine ev_aload_n (pc' := 18) (i := 0) dX0_valueBy_17 rfl rfl rfl ?_
  refine ev_alen (pc' := 19) (v := 5) dX0_valueBy_18 rfl hs_14 (by decide) rfl ?_
  refine ev_icmp_ge (tgt := 49) (pc' := 22) dX0_valueBy_19 rfl rfl (fun h => absurd h (by decide)) (fun _ => ?_)
  refine ev_lload (pc' := 24) dX0_valueBy_22 rfl rfl ?_
  refine ev_lload_n (pc' := 25) (i := 2) dX0_valueBy_24 rfl rfl rfl ?_
  refine ev_lmul (pc' := 26) (v := ((((0 * m) + (((L 14) 0) * 1)) * m) + (((L 14) 1) * (1 * q))) * m) dX0_valueBy_25 rfl rfl ?_
  refine ev_aload_n (pc' := 27) (i := 0) dX0_valueBy_26 rfl rfl rfl ?_
  refine ev_iload (pc' := 29) dX0_valueBy_27 rfl rfl ?_
  refine ev_lald (pc' := 30) (j := 2) (v := (L 14) 2) dX0_valueBy_29 rfl hs_14 rfl (Nat.le_of_ble_eq_true rfl) (Nat.le_of_ble_eq_true rfl) rfl ?_
  refine ev_lload (pc' := 32) dX0_valueBy_30 rfl rfl ?_
  refine ev_lmul (pc' := 33) (v := ((L 14) 2) * ((1 * q) * q)) dX0_valueBy_32 rfl rfl ?_
  refine ev_ladd (pc' := 34) (v := (((((0 * m) + (((L 14) 0) * 1)) * m) + (((L 14) 1) * (1 * q))) * m) + (((L 14) 2) * ((1 * q) * q))) dX0_valueBy_33 rfl rfl ?_
  refine ev_lstore (pc' := 36) (lv' := [some (.ref 14), some (.int 2), some (.long m), none, some (.long q), none, some (.long ((((((0 * m) + (((L 14) 0) * 1)) * m) + (((L 14) 1) * (1 * q))) * m) + (((L 14) 2) * ((1 * q) * q)))), none, some (.long ((1 * q) * q)), none, some (.int 2)]) dX0_valueBy_34 rfl (Nat.le_of_ble_eq_true rfl) rfl rfl ?_
  refine ev_lload (pc' := 38) dX0_valueBy_36 rfl rfl ?_
  refine ev_lload (pc' := 40) dX0_valueBy_38 rfl rfl ?_
  refine ev_lmul (pc' := 41) (v := ((1 * q) * q) * q) dX0_valueBy_40 rfl rfl ?_
  refine ev_lstore (pc' := 43) (lv' := [some (.ref 14), some (.int 2), some (.long m), none, some (.long q), none, some (.long ((((((0 * m) + (((L 14) 0) * 1)) * m) + (((L 14) 1) * (1 * q))) * m) + (((L 14) 2) * ((1 * q) * q)))), none, some (.long (((1 * q) * q) * q)), none, some (.int 2)]) dX0_valueBy_41 rfl (Nat.le_of_ble_eq_true rfl) rfl rfl ?_
  refine ev_iinc (pc' := 46) (v := 3) (lv' := [some (.ref 14), some (.int 2), some (.long m), none, some (.long q), none, some (.long ((((((0 * m) + (((L 14) 0) * 1)) * m) + (((L 14) 1) * (1 * q))) * m) + (((L 14) 2) * ((1 * q) * q)))), none, some (.long (((1 * q) * q) * q)), none, some (.int 3)]) dX0_valueBy_43 rfl rfl (by decide) (Nat.le_of_ble_eq_true rfl) rfl rfl ?_
  refine ev_goto (tgt := 9) dX0_valueBy_46 rfl ?_
  refine ev_iload (pc' := 11) dX0_valueBy_9 rfl rfl ?_
  refine ev_iload_n (pc' := 12) (i := 1) dX0_valueBy_11 rfl rfl rfl ?_
  refine ev_icmp_gt (tgt := 49) (pc' := 15) dX0_valueBy_12 rfl rfl (fun _ => ?_) (fun h => absurd (by decide) h)
  refine ev_lload (pc' := 51) dX0_valueBy_49 rfl rfl ?_
  refine ev_lret dX0_valueBy_51 rfl ⟨Nat.le_refl _, Nat.le_refl _⟩ ?_
  exact k
set_option maxRecDepth 4000 in
theorem t_X0_valueBy141 {g : ma_G} {Post : ma_P} {I : ma_I} {L : ma_L} (m : Int64) (q : Int64)  (k : Post (some (.long ((((0 * m) + (((L 14) 0) * 1)) * m) + (((L 14) 1) * (1 * q))))) HS I L RF 146) : CT g yX0_valueBy cX0_valueBy 11 (some .long) rX0_valueBy [.ref 14, .int 1, .long m, .long q] Post HS I L RF 146 := by
  refine ct_of (lv := [some (.ref 14), some (.int 1), some (.long m), none, some (.long q), none, none, none, none, none, none]) (by decide) (Nat.le_of_ble_eq_true rfl) rfl ?_
  refine ev_lconst (pc' := 1) (v := 0) dX0_valueBy_0 rfl kl_0 ?_
  refine ev_lstore (pc' := 3) (lv' := [some (.ref 14), some (.int 1), some (.long m), none, some (.long q), none, some (.long 0), none, none, none, none]) dX0_valueBy_1 rfl (Nat.le_of_ble_eq_true rfl) rfl rfl ?_
  refine ev_lconst (pc' := 4) (v := 1) dX0_valueBy_3 rfl kl_1 ?_
  refine ev_lstore (pc' := 6) (lv' := [some (.ref 14), some (.int 1), some (.long m), none, some (.long q), none, some (.long 0), none, some (.long 1), none, none]) dX0_valueBy_4 rfl (Nat.le_of_ble_eq_true rfl) rfl rfl ?_
  refine ev_iconst (pc' := 7) (v := 0) dX0_valueBy_6 rfl ki_0 ?_
  refine ev_istore (pc' := 9) (lv' := [some (.ref 14), some (.int 1), some (.long m), none, some (.long q), none, some (.long 0), none, some (.long 1), none, some (.int 0)]) dX0_valueBy_7 rfl (Nat.le_of_ble_eq_true rfl) rfl rfl ?_
  refine ev_iload (pc' := 11) dX0_valueBy_9 rfl rfl ?_
  refine ev_iload_n (pc' := 12) (i := 1) dX0_valueBy_11 rfl rfl rfl ?_
  refine ev_icmp_gt (tgt := 49) (pc' := 15) dX0_valueBy_12 rfl rfl (fun h => absurd h (by decide)) (fun _ => ?_)
  refine ev_iload (pc' := 17) dX0_valueBy_15 rfl rfl ?_
  refine ev_aload_n (pc' := 18) (i := 0) dX0_valueBy_17 rfl rfl rfl ?_
  refine ev_alen (pc' := 19) (v := 5) dX0_valueBy_18 rfl hs_14 (by decide) rfl ?_
  refine ev_icmp_ge (tgt := 49) (pc' := 22) dX0_valueBy_19 rfl rfl (fun h => absurd h (by decide)) (fun _ => ?_)
  refine ev_lload (pc' := 24) dX0_valueBy_22 rfl rfl ?_
  refine ev_lload_n (pc' := 25) (i := 2) dX0_valueBy_24 rfl rfl rfl ?_
  refine ev_lmul (pc' := 26) (v := 0 * m) dX0_valueBy_25 rfl rfl ?_
  refine ev_aload_n (pc' := 27) (i := 0) dX0_valueBy_26 rfl rfl rfl ?_
  refine ev_iload (pc' := 29) dX0_valueBy_27 rfl rfl ?_
  refine ev_lald (pc' := 30) (j := 0) (v := (L 14) 0) dX0_valueBy_29 rfl hs_14 rfl (Nat.le_of_ble_eq_true rfl) (Nat.le_of_ble_eq_true rfl) rfl ?_
  refine ev_lload (pc' := 32) dX0_valueBy_30 rfl rfl ?_
  refine ev_lmul (pc' := 33) (v := ((L 14) 0) * 1) dX0_valueBy_32 rfl rfl ?_
  refine ev_ladd (pc' := 34) (v := (0 * m) + (((L 14) 0) * 1)) dX0_valueBy_33 rfl rfl ?_
  refine ev_lstore (pc' := 36) (lv' := [some (.ref 14), some (.int 1), some (.long m), none, some (.long q), none, some (.long ((0 * m) + (((L 14) 0) * 1))), none, some (.long 1), none, some (.int 0)]) dX0_valueBy_34 rfl (Nat.le_of_ble_eq_true rfl) rfl rfl ?_
  refine ev_lload (pc' := 38) dX0_valueBy_36 rfl rfl ?_
  refine ev_lload (pc' := 40) dX0_valueBy_38 rfl rfl ?_
  refine ev_lmul (pc' := 41) (v := 1 * q) dX0_valueBy_40 rfl rfl ?_
  refine ev_lstore (pc' := 43) (lv' := [some (.ref 14), some (.int 1), some (.long m), none, some (.long q), none, some (.long ((0 * m) + (((L 14) 0) * 1))), none, some (.long (1 * q)), none, some (.int 0)]) dX0_valueBy_41 rfl (Nat.le_of_ble_eq_true rfl) rfl rfl ?_
  refine ev_iinc (pc' := 46) (v := 1) (lv' := [some (.ref 14), some (.int 1), some (.long m), none, some (.long q), none, some (.long ((0 * m) + (((L 14) 0) * 1))), none, some (.long (1 * q)), none, some (.int 1)]) dX0_valueBy_43 rfl rfl (by decide) (Nat.le_of_ble_eq_true rfl) rfl rfl ?_
  refine ev_goto (tgt := 9) dX0_valueBy_46 rfl ?_
  refine ev_iload (pc' := 11) dX0_valueBy_9 rfl rfl ?_
  refine ev_iload_n (pc' := 12) (i := 1) dX0_valueBy_11 rfl rfl rfl ?_
  refine ev_icmp_gt (tgt := 49) (pc' := 15) dX0_valueBy_12 rfl rfl (fun h => absurd h (by decide)) (fun _ => ?_)
  refine ev_iload (pc' := 17) dX0_valueBy_15 rfl rfl ?_
  refine ev_aload_n (pc' := 18) (i := 0) dX0_valueBy_17 rfl rfl rfl ?_
  refine ev_alen (pc' := 19) (v := 5) dX0_valueBy_18 rfl hs_14 (by decide) rfl ?_
  refine ev_icmp_ge (tgt := 49) (pc' := 22) dX0_valueBy_19 rfl rfl (fun h => absurd h (by decide)) (fun _ => ?_)
  refine ev_lload (pc' := 24) dX0_valueBy_22 rfl rfl ?_
  refine ev_lload_n (pc' := 25) (i := 2) dX0_valueBy_24 rfl rfl rfl ?_
  refine ev_lmul (pc' := 26) (v := ((0 * m) + (((L 14) 0) * 1)) * m) dX0_valueBy_25 rfl rfl ?_
  refine ev_aload_n (pc' := 27) (i := 0) dX0_valueBy_26 rfl rfl rfl ?_
  refine ev_iload (pc' := 29) dX0_valueBy_27 rfl rfl ?_
  refine ev_lald (pc' := 30) (j := 1) (v := (L 14) 1) dX0_valueBy_29 rfl hs_14 rfl (Nat.le_of_ble_eq_true rfl) (Nat.le_of_ble_eq_true rfl) rfl ?_
  refine ev_lload (pc' := 32) dX0_valueBy_30 rfl rfl ?_
  refine ev_lmul (pc' := 33) (v := ((L 14) 1) * (1 * q)) dX0_valueBy_32 rfl rfl ?_
  refine ev_ladd (pc' := 34) (v := (((0 * m) + (((L 14) 0) * 1)) * m) + (((L 14) 1) * (1 * q))) dX0_valueBy_33 rfl rfl ?_
  refine ev_lstore (pc' := 36) (lv' := [some (.ref 14), some (.int 1), some (.long m), none, some (.long q), none, some (.long ((((0 * m) + (((L 14) 0) * 1)) * m) + (((L 14) 1) * (1 * q)))), none, some (.long (1 * q)), none, some (.int 1)]) dX0_valueBy_34 rfl (Nat.le_of_ble_eq_true rfl) rfl rfl ?_
  refine ev_lload (pc' := 38) dX0_valueBy_36 rfl rfl ?_
  refine ev_lload (pc' := 40) dX0_valueBy_38 rfl rfl ?_
  refine ev_lmul (pc' := 41) (v := (1 * q) * q) dX0_valueBy_40 rfl rfl ?_
  refine ev_lstore (pc' := 43) (lv' := [some (.ref 14), some (.int 1), some (.long m), none, some (.long q), none, some (.long ((((0 * m) + (((L 14) 0) * 1)) * m) + (((L 14) 1) * (1 * q)))), none, some (.long ((1 * q) * q)), none, some (.int 1)]) dX0_valueBy_41 rfl (Nat.le_of_ble_eq_true rfl) rfl rfl ?_
  refine ev_iinc (pc' := 46) (v := 2) (lv' := [some (.ref 14), some (.int 1), some (.long m), none, some (.long q), none, some (.long ((((0 * m) + (((L 14) 0) * 1)) * m) + (((L 14) 1) * (1 * q)))), none, some (.long ((1 * q) * q)), none, some (.int 2)]) dX0_valueBy_43 rfl rfl (by decide) (Nat.le_of_ble_eq_true rfl) rfl rfl ?_
  refine ev_goto (tgt := 9) dX0_valueBy_46 rfl ?_
  refine ev_iload (pc' := 11) dX0_valueBy_9 rfl rfl ?_
  refine ev_iload_n (pc' := 12) (i := 1) dX0_valueBy_11 rfl rfl rfl ?_
  refine ev_icmp_gt (tgt := 49) (pc' := 15) dX0_valueBy_12 rfl rfl (fun _ => ?_) (fun h => absurd (by decide) h)
  refine ev_lload (pc' := 51) dX0_valueBy_49 rfl rfl ?_
  refine ev_lret dX0_valueBy_51 rfl ⟨Nat.le_refl _, Nat.le_refl _⟩ ?_
  exact k
set_option maxRecDepth 4000 in
theorem t_X0_worthAt {g : ma_G} {Post : ma_P} {I : ma_I} {L : ma_L} (m : Int64) (q : Int64)  (k : Post (some (.long (mAt4 ((L 13)) m q))) HS I L RF 146) : CT g yX0_worthAt cX0_worthAt 5 (some .long) rX0_worthAt [.ref 12, .long m, .long q] Post HS I L RF 146 := by
  refine ct_of (lv := [some (.ref 12), some (.long m), none, some (.long q), none]) (by decide) (Nat.le_of_ble_eq_true rfl) rfl ?_
  refine ev_aload_n (pc' := 1) (i := 0) dX0_worthAt_0 rfl rfl rfl ?_
  refine ev_getR (pc' := 4) fo_X0_9 dX0_worthAt_1 rfl hs_12 rfl rf_12_0 ?_
  refine ev_iconst (pc' := 5) (v := 4) dX0_worthAt_4 rfl ki_4 ?_
  refine ev_lload_n (pc' := 6) (i := 1) dX0_worthAt_5 rfl rfl rfl ?_
  refine ev_lload_n (pc' := 7) (i := 3) dX0_worthAt_6 rfl rfl rfl ?_
  refine ev_callS (pc' := 10) (rm' := rX0_valueBy) (av := [.ref 13, .int 4, .long m, .long q]) (rest := []) co_X0_134 cs_X0_valueBy dX0_worthAt_7 rfl rfl rfl (Nat.le_of_ble_eq_true rfl) ⟨(Nat.le_of_ble_eq_true rfl), (Nat.le_of_ble_eq_true rfl)⟩ ⟨(Nat.le_of_ble_eq_true rfl), (Nat.le_of_ble_eq_true rfl)⟩ ?_
  refine t_X0_valueBy134 m q ?_
  refine ev_eql (w := mAt4 ((L 13)) m q) rfl ?_
  refine ev_lret dX0_worthAt_10 rfl ⟨Nat.le_refl _, Nat.le_refl _⟩ ?_
  exact k
