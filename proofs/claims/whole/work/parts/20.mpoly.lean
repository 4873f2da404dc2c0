-- fields of the reference: degree 36, roots 31, beyondTimes 35, realLeft 38, isTwice 39, kept 45
def mAt0 (f : Nat → Int64) (u w : Int64) : Int64 := (0 * u) + ((f 0) * 1)
set_option maxRecDepth 4000 in
theorem t_X8_at0 {g : ma_G} {Post : ma_P} {I : ma_I} {L : ma_L} (u : Int64) (w : Int64) (hd : I 115 36 = 0) (k : Post (some (.long (mAt0 (L 142) u w))) HS I L RF 146) : CT g yX8_at cX8_at 10 (some .long) rX8_at [.ref 115, .long u, .long w] Post HS I L RF 146 := by
  refine ct_of (lv := [some (.ref 115), some (.long u), none, some (.long w), none, none, none, none, none, none]) (by decide) (Nat.le_of_ble_eq_true rfl) rfl ?_
  refine ev_lconst (pc' := 1) (v := 0) dX8_at_0 rfl kl_0 ?_
  refine ev_lstore (pc' := 3) (lv' := [some (.ref 115), some (.long u), none, some (.long w), none, some (.long 0), none, none, none, none]) dX8_at_1 rfl (Nat.le_of_ble_eq_true rfl) rfl rfl ?_
  refine ev_lconst (pc' := 4) (v := 1) dX8_at_3 rfl kl_1 ?_
  refine ev_lstore (pc' := 6) (lv' := [some (.ref 115), some (.long u), none, some (.long w), none, some (.long 0), none, some (.long 1), none, none]) dX8_at_4 rfl (Nat.le_of_ble_eq_true rfl) rfl rfl ?_
  refine ev_iconst (pc' := 7) (v := 0) dX8_at_6 rfl ki_0 ?_
  refine ev_istore (pc' := 9) (lv' := [some (.ref 115), some (.long u), none, some (.long w), none, some (.long 0), none, some (.long 1), none, some (.int 0)]) dX8_at_7 rfl (Nat.le_of_ble_eq_true rfl) rfl rfl ?_
  refine ev_iload (pc' := 11) dX8_at_9 rfl rfl ?_
  refine ev_aload_n (pc' := 12) (i := 0) dX8_at_11 rfl rfl rfl ?_
  refine ev_getI (pc' := 15) (v := 0) fo_X8_267 dX8_at_12 rfl hs_115 rfl hd ?_
  refine ev_icmp_gt (tgt := 47) (pc' := 18) dX8_at_15 rfl rfl (fun h => absurd h (by decide)) (fun _ => ?_)
  refine ev_lload (pc' := 20) dX8_at_18 rfl rfl ?_
  refine ev_lload_n (pc' := 21) (i := 1) dX8_at_20 rfl rfl rfl ?_
  refine ev_lmul (pc' := 22) (v := 0 * u) dX8_at_21 rfl rfl ?_
  refine ev_aload_n (pc' := 23) (i := 0) dX8_at_22 rfl rfl rfl ?_
  refine ev_getR (pc' := 26) fo_X8_94 dX8_at_23 rfl hs_115 rfl rf_115_37 ?_
  refine ev_iload (pc' := 28) dX8_at_26 rfl rfl ?_
  refine ev_lald (pc' := 29) (j := 0) (v := (L 142) 0) dX8_at_28 rfl hs_142 rfl (Nat.le_of_ble_eq_true rfl) (Nat.le_of_ble_eq_true rfl) rfl ?_
  refine ev_lload (pc' := 31) dX8_at_29 rfl rfl ?_
  refine ev_lmul (pc' := 32) (v := ((L 142) 0) * 1) dX8_at_31 rfl rfl ?_
  refine ev_ladd (pc' := 33) (v := (0 * u) + (((L 142) 0) * 1)) dX8_at_32 rfl rfl ?_
  refine ev_lstore (pc' := 35) (lv' := [some (.ref 115), some (.long u), none, some (.long w), none, some (.long ((0 * u) + (((L 142) 0) * 1))), none, some (.long 1), none, some (.int 0)]) dX8_at_33 rfl (Nat.le_of_ble_eq_true rfl) rfl rfl ?_
  refine ev_lload (pc' := 37) dX8_at_35 rfl rfl ?_
  refine ev_lload_n (pc' := 38) (i := 3) dX8_at_37 rfl rfl rfl ?_
  refine ev_lmul (pc' := 39) (v := 1 * w) dX8_at_38 rfl rfl ?_
  refine ev_lstore (pc' := 41) (lv' := [some (.ref 115), some (.long u), none, some (.long w), none, some (.long ((0 * u) + (((L 142) 0) * 1))), none, some (.long (1 * w)), none, some (.int 0)]) dX8_at_39 rfl (Nat.le_of_ble_eq_true rfl) rfl rfl ?_
  refine ev_iinc (pc' := 44) (v := 1) (lv' := [some (.ref 115), some (.long u), none, some (.long w), none, some (.long ((0 * u) + (((L 142) 0) * 1))), none, some (.long (1 * w)), none, some (.int 1)]) dX8_at_41 rfl rfl (by decide) (Nat.le_of_ble_eq_true rfl) rfl rfl ?_
  refine ev_goto (tgt := 9) dX8_at_44 rfl ?_
  refine ev_iload (pc' := 11) dX8_at_9 rfl rfl ?_
  refine ev_aload_n (pc' := 12) (i := 0) dX8_at_11 rfl rfl rfl ?_
  refine ev_getI (pc' := 15) (v := 0) fo_X8_267 dX8_at_12 rfl hs_115 rfl hd ?_
  refine ev_icmp_gt (tgt := 47) (pc' := 18) dX8_at_15 rfl rfl (fun _ => ?_) (fun h => absurd (by decide) h)
  refine ev_lload (pc' := 49) dX8_at_47 rfl rfl ?_
  refine ev_lret dX8_at_49 rfl ⟨Nat.le_refl _, Nat.le_refl _⟩ ?_
  exact k
def mAt1 (f : Nat → Int64) (u w : Int64) : Int64 := (((0 * u) + ((f 0) * 1)) * u) + ((f 1) * (1 * w))
set_option maxRecDepth 4000 in
theorem t_X8_at1 {g : ma_G} {Post : ma_P} {I : ma_I} {L : ma_L} (u : Int64) (w : Int64) (hd : I 115 36 = 1) (k : Post (some (.long (mAt1 (L 142) u w))) HS I L RF 146) : CT g yX8_at cX8_at 10 (some .long) rX8_at [.ref 115, .long u, .long w] Post HS I L RF 146 := by
  refine ct_of (lv := [some (.ref 115), some (.long u), none, some (.long w), none, none, none, none, none, none]) (by decide) (Nat.le_of_ble_eq_true rfl) rfl ?_
  refine ev_lconst (pc' := 1) (v := 0) dX8_at_0 rfl kl_0 ?_
  refine ev_lstore (pc' := 3) (lv' := [some (.ref 115), some (.long u), none, some (.long w), none, some (.long 0), none, none, none, none]) dX8_at_1 rfl (Nat.le_of_ble_eq_true rfl) rfl rfl ?_
  refine ev_lconst (pc' := 4) (v := 1) dX8_at_3 rfl kl_1 ?_
  refine ev_lstore (pc' := 6) (lv' := [some (.ref 115), some (.long u), none, some (.long w), none, some (.long 0), none, some (.long 1), none, none]) dX8_at_4 rfl (Nat.le_of_ble_eq_true rfl) rfl rfl ?_
  refine ev_iconst (pc' := 7) (v := 0) dX8_at_6 rfl ki_0 ?_
  refine ev_istore (pc' := 9) (lv' := [some (.ref 115), some (.long u), none, some (.long w), none, some (.long 0), none, some (.long 1), none, some (.int 0)]) dX8_at_7 rfl (Nat.le_of_ble_eq_true rfl) rfl rfl ?_
  refine ev_iload (pc' := 11) dX8_at_9 rfl rfl ?_
  refine ev_aload_n (pc' := 12) (i := 0) dX8_at_11 rfl rfl rfl ?_
  refine ev_getI (pc' := 15) (v := 1) fo_X8_267 dX8_at_12 rfl hs_115 rfl hd ?_
  refine ev_icmp_gt (tgt := 47) (pc' := 18) dX8_at_15 rfl rfl (fun h => absurd h (by decide)) (fun _ => ?_)
  refine ev_lload (pc' := 20) dX8_at_18 rfl rfl ?_
  refine ev_lload_n (pc' := 21) (i := 1) dX8_at_20 rfl rfl rfl ?_
  refine ev_lmul (pc' := 22) (v := 0 * u) dX8_at_21 rfl rfl ?_
  refine ev_aload_n (pc' := 23) (i := 0) dX8_at_22 rfl rfl rfl ?_
  refine ev_getR (pc' := 26) fo_X8_94 dX8_at_23 rfl hs_115 rfl rf_115_37 ?_
  refine ev_iload (pc' := 28) dX8_at_26 rfl rfl ?_
  refine ev_lald (pc' := 29) (j := 0) (v := (L 142) 0) dX8_at_28 rfl hs_142 rfl (Nat.le_of_ble_eq_true rfl) (Nat.le_of_ble_eq_true rfl) rfl ?_
  refine ev_lload (pc' := 31) dX8_at_29 rfl rfl ?_
  refine ev_lmul (pc' := 32) (v := ((L 142) 0) * 1) dX8_at_31 rfl rfl ?_
  refine ev_ladd (pc' := 33) (v := (0 * u) + (((L 142) 0) * 1)) dX8_at_32 rfl rfl ?_
  refine ev_lstore (pc' := 35) (lv' := [some (.ref 115), some (.long u), none, some (.long w), none, some (.long ((0 * u) + (((L 142) 0) * 1))), none, some (.long 1), none, some (.int 0)]) dX8_at_33 rfl (Nat.le_of_ble_eq_true rfl) rfl rfl ?_
  refine ev_lload (pc' := 37) dX8_at_35 rfl rfl ?_
  refine ev_lload_n (pc' := 38) (i := 3) dX8_at_37 rfl rfl rfl ?_
  refine ev_lmul (pc' := 39) (v := 1 * w) dX8_at_38 rfl rfl ?_
  refine ev_lstore (pc' := 41) (lv' := [some (.ref 115), some (.long u), none, some (.long w), none, some (.long ((0 * u) + (((L 142) 0) * 1))), none, some (.long (1 * w)), none, some (.int 0)]) dX8_at_39 rfl (Nat.le_of_ble_eq_true rfl) rfl rfl ?_
  refine ev_iinc (pc' := 44) (v := 1) (lv' := [some (.ref 115), some (.long u), none, some (.long w), none, some (.long ((0 * u) + (((L 142) 0) * 1))), none, some (.long (1 * w)), none, some (.int 1)]) dX8_at_41 rfl rfl (by decide) (Nat.le_of_ble_eq_true rfl) rfl rfl ?_
  refine ev_goto (tgt := 9) dX8_at_44 rfl ?_
  refine ev_iload (pc' := 11) dX8_at_9 rfl rfl ?_
  refine ev_aload_n (pc' := 12) (i := 0) dX8_at_11 rfl rfl rfl ?_
  refine ev_getI (pc' := 15) (v := 1) fo_X8_267 dX8_at_12 rfl hs_115 rfl hd ?_
  refine ev_icmp_gt (tgt := 47) (pc' := 18) dX8_at_15 rfl rfl (fun h => absurd h (by decide)) (fun _ => ?_)
  refine ev_lload (pc' := 20) dX8_at_18 rfl rfl ?_
  refine ev_lload_n (pc' := 21) (i := 1) dX8_at_20 rfl rfl rfl ?_
  refine ev_lmul (pc' := 22) (v := ((0 * u) + (((L 142) 0) * 1)) * u) dX8_at_21 rfl rfl ?_
  refine ev_aload_n (pc' := 23) (i := 0) dX8_at_22 rfl rfl rfl ?_
  refine ev_getR (pc' := 26) fo_X8_94 dX8_at_23 rfl hs_115 rfl rf_115_37 ?_
  refine ev_iload (pc' := 28) dX8_at_26 rfl rfl ?_
  refine ev_lald (pc' := 29) (j := 1) (v := (L 142) 1) dX8_at_28 rfl hs_142 rfl (Nat.le_of_ble_eq_true rfl) (Nat.le_of_ble_eq_true rfl) rfl ?_
  refine ev_lload (pc' := 31) dX8_at_29 rfl rfl ?_
  refine ev_lmul (pc' := 32) (v := ((L 142) 1) * (1 * w)) dX8_at_31 rfl rfl ?_
  refine ev_ladd (pc' := 33) (v := (((0 * u) + (((L 142) 0) * 1)) * u) + (((L 142) 1) * (1 * w))) dX8_at_32 rfl rfl ?_
  refine ev_lstore (pc' := 35) (lv' := [some (.ref 115), some (.long u), none, some (.long w), none, some (.long ((((0 * u) + (((L 142) 0) * 1)) * u) + (((L 142) 1) * (1 * w)))), none, some (.long (1 * w)), none, some (.int 1)]) dX8_at_33 rfl (Nat.le_of_ble_eq_true rfl) rfl rfl ?_
  refine ev_lload (pc' := 37) dX8_at_35 rfl rfl ?_
  refine ev_lload_n (pc' := 38) (i := 3) dX8_at_37 rfl rfl rfl ?_
  refine ev_lmul (pc' := 39) (v := (1 * w) * w) dX8_at_38 rfl rfl ?_
  refine ev_lstore (pc' := 41) (lv' := [some (.ref 115), some (.long u), none, some (.long w), none, some (.long ((((0 * u) + (((L 142) 0) * 1)) * u) + (((L 142) 1) * (1 * w)))), none, some (.long ((1 * w) * w)), none, some (.int 1)]) dX8_at_39 rfl (Nat.le_of_ble_eq_true rfl) rfl rfl ?_
  refine ev_iinc (pc' := 44) (v := 2) (lv' := [some (.ref 115), some (.long u), none, some (.long w), none, some (.long ((((0 * u) + (((L 142) 0) * 1)) * u) + (((L 142) 1) * (1 * w)))), none, some (.long ((1 * w) * w)), none, some (.int 2)]) dX8_at_41 rfl rfl (by decide) (Nat.le_of_ble_eq_true rfl) rfl rfl ?_
  refine ev_goto (tgt := 9) dX8_at_44 rfl ?_
  refine ev_iload (pc' := 11) dX8_at_9 rfl rfl ?_
  refine ev_aload_n (pc' := 12) (i := 0) dX8_at_11 rfl rfl rfl ?_
  refine ev_getI (pc' := 15) (v := 1) fo_X8_267 dX8_at_12 rfl hs_115 rfl hd ?_
  refine ev_icmp_gt (tgt := 47) (pc' := 18) dX8_at_15 rfl rfl (fun _ => ?_) (fun h => absurd (by decide) h)
  refine ev_lload (pc' := 49) dX8_at_47 rfl rfl ?_
  refine ev_lret dX8_at_49 rfl ⟨Nat.le_refl _, Nat.le_refl _⟩ ?_
  exact k
def mAt2 (f : Nat → Int64) (u w : Int64) : Int64 := (((((0 * u) + ((f 0) * 1)) * u) + ((f 1) * (1 * w))) * u) + ((f 2) * ((1 * w) * w))
set_option maxRecDepth 4000 in
theorem t_X8_at2 {g : ma_G} {Post : ma_P} {I : ma_I} {L : ma_L} (u : Int64) (w : Int64) (hd : I 115 36 = 2) (k : Post (some (.long (mAt2 (L 142) u w))) HS I L RF 146) : CT g yX8_at cX8_at 10 (some .long) rX8_at [.ref 115, .long u, .long w] Post HS I L RF 146 := by
  refine ct_of (lv := [some (.ref 115), some (.long u), none, some (.long w), none, none, none, none, none, none]) (by decide) (Nat.le_of_ble_eq_true rfl) rfl ?_
  refine ev_lconst (pc' := 1) (v := 0) dX8_at_0 rfl kl_0 ?_
  refine ev_lstore (pc' := 3) (lv' := [some (.ref 115), some (.long u), none, some (.long w), none, some (.long 0), none, none, none, none]) dX8_at_1 rfl (Nat.le_of_ble_eq_true rfl) rfl rfl ?_
  refine ev_lconst (pc' := 4) (v := 1) dX8_at_3 rfl kl_1 ?_
  refine ev_lstore (pc' := 6) (lv' := [some (.ref 115), some (.long u), none, some (.long w), none, some (.long 0), none, some (.long 1), none, none]) dX8_at_4 rfl (Nat.le_of_ble_eq_true rfl) rfl rfl ?_
  refine ev_iconst (pc' := 7) (v := 0) dX8_at_6 rfl ki_0 ?_
  refine ev_istore (pc' := 9) (lv' := [some (.ref 115), some (.long u), none, some (.long w), none, some (.long 0), none, some (.long 1), none, some (.int 0)]) dX8_at_7 rfl (Nat.le_of_ble_eq_true rfl) rfl rfl ?_
  refine ev_iload (pc' := 11) dX8_at_9 rfl rfl ?_
  refine ev_aload_n (pc' := 12) (i := 0) dX8_at_11 rfl rfl rfl ?_
  refine ev_getI (pc' := 15) (v := 2) fo_X8_267 dX8_at_12 rfl hs_115 rfl hd ?_
  refine ev_icmp_gt (tgt := 47) (pc' := 18) dX8_at_15 rfl rfl (fun h => absurd h (by decide)) (fun _ => ?_)
  refine ev_lload (pc' := 20) dX8_at_18 rfl rfl ?_
  refine ev_lload_n (pc' := 21) (i := 1) dX8_at_20 rfl rfl rfl ?_
  refine ev_lmul (pc' := 22) (v := 0 * u) dX8_at_21 rfl rfl ?_
  refine ev_aload_n (pc' := 23) (i := 0) dX8_at_22 rfl rfl rfl ?_
  refine ev_getR (pc' := 26) fo_X8_94 dX8_at_23 rfl hs_115 rfl rf_115_37 ?_
  refine ev_iload (pc' := 28) dX8_at_26 rfl rfl ?_
  refine ev_lald (pc' := 29) (j := 0) (v := (L 142) 0) dX8_at_28 rfl hs_142 rfl (Nat.le_of_ble_eq_true rfl) (Nat.le_of_ble_eq_true rfl) rfl ?_
  refine ev_lload (pc' := 31) dX8_at_29 rfl rfl ?_
  refine ev_lmul (pc' := 32) (v := ((L 142) 0) * 1) dX8_at_31 rfl rfl ?_
  refine ev_ladd (pc' := 33) (v := (0 * u) + (((L 142) 0) * 1)) dX8_at_32 rfl rfl ?_
  refine ev_lstore (pc' := 35) (lv' := [some (.ref 115), some (.long u), none, some (.long w), none, some (.long ((0 * u) + (((L 142) 0) * 1))), none, some (.long 1), none, some (.int 0)]) dX8_at_33 rfl (Nat.le_of_ble_eq_true rfl) rfl rfl ?_
  refine ev_lload (pc' := 37) dX8_at_35 rfl rfl ?_
  refine ev_lload_n (pc' := 38) (i := 3) dX8_at_37 rfl rfl rfl ?_
  refine ev_lmul (pc' := 39) (v := 1 * w) dX8_at_38 rfl rfl ?_
  refine ev_lstore (pc' := 41) (lv' := [some (.ref 115), some (.long u), none, some (.long w), none, some (.long ((0 * u) + (((L 142) 0) * 1))), none, some (.long (1 * w)), none, some (.int 0)]) dX8_at_39 rfl (Nat.le_of_ble_eq_true rfl) rfl rfl ?_
  refine ev_iinc (pc' := 44) (v := 1) (lv' := [some (.ref 115), some (.long u), none, some (.long w), none, some (.long ((0 * u) + (((L 142) 0) * 1))), none, some (.long (1 * w)), none, some (.int 1)]) dX8_at_41 rfl rfl (by decide) (Nat.le_of_ble_eq_true rfl) rfl rfl ?_
  refine ev_goto (tgt := 9) dX8_at_44 rfl ?_
  refine ev_iload (pc' := 11) dX8_at_9 rfl rfl ?_
  refine ev_aload_n (pc' := 12) (i := 0) dX8_at_11 rfl rfl rfl ?_
  refine ev_getI (pc' := 15) (v := 2) fo_X8_267 dX8_at_12 rfl hs_115 rfl hd ?_
  refine ev_icmp_gt (tgt := 47) (pc' := 18) dX8_at_15 rfl rfl (fun h => absurd h (by decide)) (fun _ => ?_)
  refine ev_lload (pc' := 20) dX8_at_18 rfl rfl ?_
  refine ev_lload_n (pc' := 21) (i := 1) dX8_at_20 rfl rfl rfl ?_
  refine ev_lmul (pc' := 22) (v := ((0 * u) + (((L 142) 0) * 1)) * u) dX8_at_21 rfl rfl ?_
  refine ev_aload_n (pc' := 23) (i := 0) dX8_at_22 rfl rfl rfl ?_
  refine ev_getR (pc' := 26) fo_X8_94 dX8_at_23 rfl hs_115 rfl rf_115_37 ?_
  refine ev_iload (pc' := 28) dX8_at_26 rfl rfl ?_
  refine ev_lald (pc' := 29) (j := 1) (v := (L 142) 1) dX8_at_28 rfl hs_142 rfl (Nat.le_of_ble_eq_true rfl) (Nat.le_of_ble_eq_true rfl) rfl ?_
  refine ev_lload (pc' := 31) dX8_at_29 rfl rfl ?_
  refine ev_lmul (pc' := 32) (v := ((L 142) 1) * (1 * w)) dX8_at_31 rfl rfl ?_
  refine ev_ladd (pc' := 33) (v := (((0 * u) + (((L 142) 0) * 1)) * u) + (((L 142) 1) * (1 * w))) dX8_at_32 rfl rfl ?_
  refine ev_lstore (pc' := 35) (lv' := [some (.ref 115), some (.long u), none, some (.long w), none, some (.long ((((0 * u) + (((L 142) 0) * 1)) * u) + (((L 142) 1) * (1 * w)))), none, some (.long (1 * w)), none, some (.int 1)]) dX8_at_33 rfl (Nat.le_of_ble_eq_true rfl) rfl rfl ?_
  refine ev_lload (pc' := 37) dX8_at_35 rfl rfl ?_
  refine ev_lload_n (pc' := 38) (i := 3) dX8_at_37 rfl rfl rfl ?_
  refine ev_lmul (pc' := 39) (v := (1 * w) * w) dX8_at_38 rfl rfl ?_
  refine ev_lstore (pc' := 41) (lv' := [some (.ref 115), some (.long u), none, some (.long w), none, some (.long ((((0 * u) + (((L 142) 0) * 1)) * u) + (((L 142) 1) * (1 * w)))), none, some (.long ((1 * w) * w)), none, some (.int 1)]) dX8_at_39 rfl (Nat.le_of_ble_eq_true rfl) rfl rfl ?_
  refine ev_iinc (pc' := 44) (v := 2) (lv' := [some (.ref 115), some (.long u), none, some (.long w), none, some (.long ((((0 * u) + (((L 142) 0) * 1)) * u) + (((L 142) 1) * (1 * w)))), none, some (.long ((1 * w) * w)), none, some (.int 2)]) dX8_at_41 rfl rfl (by decide) (Nat.le_of_ble_eq_true rfl) rfl rfl ?_
  refine ev_goto (tgt := 9) dX8_at_44 rfl ?_
  refine ev_iload (pc' := 11) dX8_at_9 rfl rfl ?_
  refine ev_aload_n (pc' := 12) (i := 0) dX8_at_11 rfl rfl rfl ?_
  refine ev_getI (pc' := 15) (v := 2) fo_X8_267 dX8_at_12 rfl hs_115 rfl hd ?_
  refine ev_icmp_gt (tgt := 47) (pc' := 18) dX8_at_15 rfl rfl (fun h => absurd h (by decide)) (fun _ => ?_)
  refine ev_lload (pc' := 20) dX8_at_18 rfl rfl ?_
  refine ev_lload_n (pc' := 21) (i := 1) dX8_at_20 rfl rfl rfl ?_
  refine ev_lmul (pc' := 22) (v := ((((0 * u) + (((L 142) 0) * 1)) * u) + (((L 142) 1) * (1 * w))) * u) dX8_at_21 rfl rfl ?_
  refine ev_aload_n (pc' := 23) (i := 0) dX8_at_22 rfl rfl rfl ?_
  refine ev_getR (pc' := 26) fo_X8_94 dX8_at_23 rfl hs_115 rfl rf_115_37 ?_
  refine ev_iload (pc' := 28) dX8_at_26 rfl rfl ?_
  refine ev_lald (pc' := 29) (j := 2) (v := (L 142) 2) dX8_at_28 rfl hs_142 rfl (Nat.le_of_ble_eq_true rfl) (Nat.le_of_ble_eq_true rfl) rfl ?_
  refine ev_lload (pc' := 31) dX8_at_29 rfl rfl ?_
  refine ev_lmul (pc' := 32) (v := ((L 142) 2) * ((1 * w) * w)) dX8_at_31 rfl rfl ?_
  refine ev_ladd (pc' := 33) (v := (((((0 * u) + (((L 142) 0) * 1)) * u) + (((L 142) 1) * (1 * w))) * u) + (((L 142) 2) * ((1 * w) * w))) dX8_at_32 rfl rfl ?_
  refine ev_lstore (pc' := 35) (lv' := [some (.ref 115), some (.long u), none, some (.long w), none, some (.long ((((((0 * u) + (((L 142) 0) * 1)) * u) + (((L 142) 1) * (1 * w))) * u) + (((L 142) 2) * ((1 * w) * w)))), none, some (.long ((1 * w) * w)), none, some (.int 2)]) dX8_at_33 rfl (Nat.le_of_ble_eq_true rfl) rfl rfl ?_
  refine ev_lload (pc' := 37) dX8_at_35 rfl rfl ?_
  refine ev_lload_n (pc' := 38) (i := 3) dX8_at_37 rfl rfl rfl ?_
  refine ev_lmul (pc' := 39) (v := ((1 * w) * w) * w) dX8_at_38 rfl rfl ?_
  refine ev_lstore (pc' := 41) (lv' := [some (.ref 115), some (.long u), none, some (.long w), none, some (.long ((((((0 * u) + (((L 142) 0) * 1)) * u) + (((L 142) 1) * (1 * w))) * u) + (((L 142) 2) * ((1 * w) * w)))), none, some (.long (((1 * w) * w) * w)), none, some (.int 2)]) dX8_at_39 rfl (Nat.le_of_ble_eq_true rfl) rfl rfl ?_
  refine ev_iinc (pc' := 44) (v := 3) (lv' := [some (.ref 115), some (.long u), none, some (.long w), none, some (.long ((((((0 * u) + (((L 142) 0) * 1)) * u) + (((L 142) 1) * (1 * w))) * u) + (((L 142) 2) * ((1 * w) * w)))), none, some (.long (((1 * w) * w) * w)), none, some (.int 3)]) dX8_at_41 rfl rfl (by decide) (Nat.le_of_ble_eq_true rfl) rfl rfl ?_
  refine ev_goto (tgt := 9) dX8_at_44 rfl ?_
  refine ev_iload (pc' := 11) dX8_at_9 rfl rfl ?_
  refine ev_aload_n (pc' := 12) (i := 0) dX8_at_11 rfl rfl rfl ?_
  refine ev_getI (pc' := 15) (v := 2) fo_X8_267 dX8_at_12 rfl hs_115 rfl hd ?_
  refine ev_icmp_gt (tgt := 47) (pc' := 18) dX8_at_15 rfl rfl (fun _ => ?_) (fun h => absurd (by decide) h)
  refine ev_lload (pc' := 49) dX8_at_47 rfl rfl ?_
  refine ev_lret dX8_at_49 rfl ⟨Nat.le_refl _, Nat.le_refl _⟩ ?_
  exact k
def mAt3 (f : Nat → Int64) (u w : Int64) : Int64 := (((((((0 * u) + ((f 0) * 1)) * u) + ((f 1) * (1 * w))) * u) + ((f 2) * ((1 * w) * w))) * u) + ((f 3) * (((1 * w) * w) * w))
set_option maxRecDepth 4000 in
theorem t_X8_at3 {g : ma_G} {Post : ma_P} {I : ma_I} {L : ma_L} (u : Int64) (w : Int64) (hd : I 115 36 = 3) (k : Post (some (.long (mAt3 (L 142) u w))) HS I L RF 146) : CT g yX8_at cX8_at 10 (some .long) rX8_at [.ref 115, .long u, .long w] Post HS I L RF 146 := by
  refine ct_of (lv := [some (.ref 115), some (.long u), none, some (.long w), none, none, none, none, none, none]) (by decide) (Nat.le_of_ble_eq_true rfl) rfl ?_
  refine ev_lconst (pc' := 1) (v := 0) dX8_at_0 rfl kl_0 ?_
  refine ev_lstore (pc' := 3) (lv' := [some (.ref 115), some (.long u), none, some (.long w), none, some (.long 0), none, none, none, none]) dX8_at_1 rfl (Nat.le_of_ble_eq_true rfl) rfl rfl ?_
  refine ev_lconst (pc' := 4) (v := 1) dX8_at_3 rfl kl_1 ?_
  refine ev_lstore (pc' := 6) (lv' := [some (.ref 115), some (.long u), none, some (.long w), none, some (.long 0), none, some (.long 1), none, none]) dX8_at_4 rfl (Nat.le_of_ble_eq_true rfl) rfl rfl ?_
  refine ev_iconst (pc' := 7) (v := 0) dX8_at_6 rfl ki_0 ?_
  refine ev_istore (pc' := 9) (lv' := [some (.ref 115), some (.long u), none, some (.long w), none, some (.long 0), none, some (.long 1), none, some (.int 0)]) dX8_at_7 rfl (Nat.le_of_ble_eq_true rfl) rfl rfl ?_
  refine ev_iload (pc' := 11) dX8_at_9 rfl rfl ?_
  refine ev_aload_n (pc' := 12) (i := 0) dX8_at_11 rfl rfl rfl ?_
  refine ev_getI (pc' := 15) (v := 3) fo_X8_267 dX8_at_12 rfl hs_115 rfl hd ?_
  refine ev_icmp_gt (tgt := 47) (pc' := 18) dX8_at_15 rfl rfl (fun h => absurd h (by decide)) (fun _ => ?_)
  refine ev_lload (pc' := 20) dX8_at_18 rfl rfl ?_
  refine ev_lload_n (pc' := 21) (i := 1) dX8_at_20 rfl rfl rfl ?_
  refine ev_lmul (pc' := 22) (v := 0 * u) dX8_at_21 rfl rfl ?_
  refine ev_aload_n (pc' := 23) (i := 0) dX8_at_22 rfl rfl rfl ?_
  refine ev_getR (pc' := 26) fo_X8_94 dX8_at_23 rfl hs_115 rfl rf_115_37 ?_
  refine ev_iload (pc' := 28) dX8_at_26 rfl rfl ?_
  refine ev_lald (pc' := 29) (j := 0) (v := (L 142) 0) dX8_at_28 rfl hs_142 rfl (Nat.le_of_ble_eq_true rfl) (Nat.le_of_ble_eq_true rfl) rfl ?_
  refine ev_lload (pc' := 31) dX8_at_29 rfl rfl ?_
  refine ev_lmul (pc' := 32) (v := ((L 142) 0) * 1) dX8_at_31 rfl rfl ?_
  refine ev_ladd (pc' := 33) (v := (0 * u) + (((L 142) 0) * 1)) dX8_at_32 rfl rfl ?_
  refine ev_lstore (pc' := 35) (lv' := [some (.ref 115), some (.long u), none, some (.long w), none, some (.long ((0 * u) + (((L 142) 0) * 1))), none, some (.long 1), none, some (.int 0)]) dX8_at_33 rfl (Nat.le_of_ble_eq_true rfl) rfl rfl ?_
  refine ev_lload (pc' := 37) dX8_at_35 rfl rfl ?_
  refine ev_lload_n (pc' := 38) (i := 3) dX8_at_37 rfl rfl rfl ?_
  refine ev_lmul (pc' := 39) (v := 1 * w) dX8_at_38 rfl rfl ?_
  refine ev_lstore (pc' := 41) (lv' := [some (.ref 115), some (.long u), none, some (.long w), none, some (.long ((0 * u) + (((L 142) 0) * 1))), none, some (.long (1 * w)), none, some (.int 0)]) dX8_at_39 rfl (Nat.le_of_ble_eq_true rfl) rfl rfl ?_
  refine ev_iinc (pc' := 44) (v := 1) (lv' := [some (.ref 115), some (.long u), none, some (.long w), none, some (.long ((0 * u) + (((L 142) 0) * 1))), none, some (.long (1 * w)), none, some (.int 1)]) dX8_at_41 rfl rfl (by decide) (Nat.le_of_ble_eq_true rfl) rfl rfl ?_
  refine ev_goto (tgt := 9) dX8_at_44 rfl ?_
  refine ev_iload (pc' := 11) dX8_at_9 rfl rfl ?_
  refine ev_aload_n (pc' := 12) (i := 0) dX8_at_11 rfl rfl rfl ?_
  refine ev_getI (pc' := 15) (v := 3) fo_X8_267 dX8_at_12 rfl hs_115 rfl hd ?_
  refine ev_icmp_gt (tgt := 47) (pc' := 18) dX8_at_15 rfl rfl (fun h => absurd h (by decide)) (fun _ => ?_)
  refine ev_lload (pc' := 20) dX8_at_18 rfl rfl ?_
  refine ev_lload_n (pc' := 21) (i := 1) dX8_at_20 rfl rfl rfl ?_
  refine ev_lmul (pc' := 22) (v := ((0 * u) + (((L 142) 0) * 1)) * u) dX8_at_21 rfl rfl ?_
  refine ev_aload_n (pc' := 23) (i := 0) dX8_at_22 rfl rfl rfl ?_
  refine ev_getR (pc' := 26) fo_X8_94 dX8_at_23 rfl hs_115 rfl rf_115_37 ?_
  refine ev_iload (pc' := 28) dX8_at_26 rfl rfl ?_
  refine ev_lald (pc' := 29) (j := 1) (v := (L 142) 1) dX8_at_28 rfl hs_142 rfl (Nat.le_of_ble_eq_true rfl) (Nat.le_of_ble_eq_true rfl) rfl ?_
  refine ev_lload (pc' := 31) dX8_at_29 rfl rfl ?_
  refine ev_lmul (pc' := 32) (v := ((L 142) 1) * (1 * w)) dX8_at_31 rfl rfl ?_
  refine ev_ladd (pc' := 33) (v := (((0 * u) + (((L 142) 0) * 1)) * u) + (((L 142) 1) * (1 * w))) dX8_at_32 rfl rfl ?_
  refine ev_lstore (pc' := 35) (lv' := [some (.ref 115), some (.long u), none, some (.long w), none, some (.long ((((0 * u) + (((L 142) 0) * 1)) * u) + (((L 142) 1) * (1 * w)))), none, some (.long (1 * w)), none, some (.int 1)]) dX8_at_33 rfl (Nat.le_of_ble_eq_true rfl) rfl rfl ?_
  refine ev_lload (pc' := 37) dX8_at_35 rfl rfl ?_
  refine ev_lload_n (pc' := 38) (i := 3) dX8_at_37 rfl rfl rfl ?_
  refine ev_lmul (pc' := 39) (v := (1 * w) * w) dX8_at_38 rfl rfl ?_
  refine ev_lstore (pc' := 41) (lv' := [some (.ref 115), some (.long u), none, some (.long w), none, some (.long ((((0 * u) + (((L 142) 0) * 1)) * u) + (((L 142) 1) * (1 * w)))), none, some (.long ((1 * w) * w)), none, some (.int 1)]) dX8_at_39 rfl (Nat.le_of_ble_eq_true rfl) rfl rfl ?_
  refine ev_iinc (pc' := 44) (v := 2) (lv' := [some (.ref 115), some (.long u), none, some (.long w), none, some (.long ((((0 * u) + (((L 142) 0) * 1)) * u) + (((L 142) 1) * (1 * w)))), none, some (.long ((1 * w) * w)), none, some (.int 2)]) dX8_at_41 rfl rfl (by decide) (Nat.le_of_ble_eq_true rfl) rfl rfl ?_
  refine ev_goto (tgt := 9) dX8_at_44 rfl ?_
  refine ev_iload (pc' := 11) dX8_at_9 rfl rfl ?_
  refine ev_aload_n (pc' := 12) (i := 0) dX8_at_11 rfl rfl rfl ?_
  refine ev_getI (pc' := 15) (v := 3) fo_X8_267 dX8_at_12 rfl hs_115 rfl hd ?_
  refine ev_icmp_gt (tgt := 47) (pc' := 18) dX8_at_15 rfl rfl (fun h => absurd h (by decide)) (fun _ => ?_)
  refine ev_lload (pc' := 20) dX8_at_18 rfl rfl ?_
  refine ev_lload_n (pc' := 21) (i := 1) dX8_at_20 rfl rfl rfl ?_
  refine ev_lmul (pc' := 22) (v := ((((0 * u) + (((L 142) 0) * 1)) * u) + (((L 142) 1) * (1 * w))) * u) dX8_at_21 rfl rfl ?_
  refine ev_aload_n (pc' := 23) (i := 0) dX8_at_22 rfl rfl rfl ?_
  refine ev_getR (pc' := 26) fo_X8_94 dX8_at_23 rfl hs_115 rfl rf_115_37 ?_
  refine ev_iload (pc' := 28) dX8_at_26 rfl rfl ?_
  refine ev_lald (pc' := 29) (j := 2) (v := (L 142) 2) dX8_at_28 rfl hs_142 rfl (Nat.le_of_ble_eq_true rfl) (Nat.le_of_ble_eq_true rfl) rfl ?_
  refine ev_lload (pc' := 31) dX8_at_29 rfl rfl ?_
  refine ev_lmul (pc' := 32) (v := ((L 142) 2) * ((1 * w) * w)) dX8_at_31 rfl rfl ?_
  refine ev_ladd (pc' := 33) (v := (((((0 * u) + (((L 142) 0) * 1)) * u) + (((L 142) 1) * (1 * w))) * u) + (((L 142) 2) * ((1 * w) * w))) dX8_at_32 rfl rfl ?_
  refine ev_lstore (pc' := 35) (lv' := [some (.ref 115), some (.long u), none, some (.long w), none, some (.long ((((((0 * u) + (((L 142) 0) * 1)) * u) + (((L 142) 1) * (1 * w))) * u) + (((L 142) 2) * ((1 * w) * w)))), none, some (.long ((1 * w) * w)), none, some (.int 2)]) dX8_at_33 rfl (Nat.le_of_ble_eq_true rfl) rfl rfl ?_
  refine ev_lload (pc' := 37) dX8_at_35 rfl rfl ?_
  refine ev_lload_n (pc' := 38) (i := 3) dX8_at_37 rfl rfl rfl ?_
  refine ev_lmul (pc' := 39) (v := ((1 * w) * w) * w) dX8_at_38 rfl rfl ?_
  refine ev_lstore (pc' := 41) (lv' := [some (.ref 115), some (.long u), none, some (.long w), none, some (.long ((((((0 * u) + (((L 142) 0) * 1)) * u) + (((L 142) 1) * (1 * w))) * u) + (((L 142) 2) * ((1 * w) * w)))), none, some (.long (((1 * w) * w) * w)), none, some (.int 2)]) dX8_at_39 rfl (Nat.le_of_ble_eq_true rfl) rfl rfl ?_
  refine ev_iinc (pc' := 44) (v := 3) (lv' := [some (.ref 115), some (.long u), none, some (.long w), none, some (.long ((((((0 * u) + (((L 142) 0) * 1)) * u) + (((L 142) 1) * (1 * w))) * u) + (((L 142) 2) * ((1 * w) * w)))), none, some (.long (((1 * w) * w) * w)), none, some (.int 3)]) dX8_at_41 rfl rfl (by decide) (Nat.le_of_ble_eq_true rfl) rfl rfl ?_
  refine ev_goto (tgt := 9) dX8_at_44 rfl ?_
  refine ev_iload (pc' := 11) dX8_at_9 rfl rfl ?_
  refine ev_aload_n (pc' := 12) (i := 0) dX8_at_11 rfl rfl rfl ?_
  refine ev_getI (pc' := 15) (v := 3) fo_X8_267 dX8_at_12 rfl hs_115 rfl hd ?_
  refine ev_icmp_gt (tgt := 47) (pc' := 18) dX8_at_15 rfl rfl (fun h => absurd h (by decide)) (fun _ => ?_)
  refine ev_lload (pc' := 20) dX8_at_18 rfl rfl ?_
  refine ev_lload_n (pc' := 21) (i := 1) dX8_at_20 rfl rfl rfl ?_
  refine ev_lmul (pc' := 22) (v := ((((((0 * u) + (((L 142) 0) * 1)) * u) + (((L 142) 1) * (1 * w))) * u) + (((L 142) 2) * ((1 * w) * w))) * u) dX8_at_21 rfl rfl ?_
  refine ev_aload_n (pc' := 23) (i := 0) dX8_at_22 rfl rfl rfl ?_
  refine ev_getR (pc' := 26) fo_X8_94 dX8_at_23 rfl hs_115 rfl rf_115_37 ?_
  refine ev_iload (pc' := 28) dX8_at_26 rfl rfl ?_
  refine ev_lald (pc' := 29) (j := 3) (v := (L 142) 3) dX8_at_28 rfl hs_142 rfl (Nat.le_of_ble_eq_true rfl) (Nat.le_of_ble_eq_true rfl) rfl ?_
  refine ev_lload (pc' := 31) dX8_at_29 rfl rfl ?_
  refine ev_lmul (pc' := 32) (v := ((L 142) 3) * (((1 * w) * w) * w)) dX8_at_31 rfl rfl ?_
  refine ev_ladd (pc' := 33) (v := (((((((0 * u) + (((L 142) 0) * 1)) * u) + (((L 142) 1) * (1 * w))) * u) + (((L 142) 2) * ((1 * w) * w))) * u) + (((L 142) 3) * (((1 * w) * w) * w))) dX8_at_32 rfl rfl ?_
  refine ev_lstore (pc' := 35) (lv' := [some (.ref 115), some (.long u), none, some (.long w), none, some (.long ((((((((0 * u) + (((L 142) 0) * 1)) * u) + (((L 142) 1) * (1 * w))) * u) + (((L 142) 2) * ((1 * w) * w))) * u) + (((L 142) 3) * (((1 * w) * w) * w)))), none, some (.long (((1 * w) * w) * w)), none, some (.int 3)]) dX8_at_33 rfl (Nat.le_of_ble_eq_true rfl) rfl rfl ?_
  refine ev_lload (pc' := 37) dX8_at_35 rfl rfl ?_
  refine ev_lload_n (pc' := 38) (i := 3) dX8_at_37 rfl rfl rfl ?_
  refine ev_lmul (pc' := 39) (v := (((1 * w) * w) * w) * w) dX8_at_38 rfl rfl ?_
  refine ev_lstore (pc' := 41) (lv' := [some (.ref 115), some (.long u), none, some (.long w), none, some (.long ((((((((0 * u) + (((L 142) 0) * 1)) * u) + (((L 142) 1) * (1 * w))) * u) + (((L 142) 2) * ((1 * w) * w))) * u) + (((L 142) 3) * (((1 * w) * w) * w)))), none, some (.long ((((1 * w) * w) * w) * w)), none, some (.int 3)]) dX8_at_39 rfl (Nat.le_of_ble_eq_true rfl) rfl rfl ?_
  refine ev_iinc (pc' := 44) (v := 4) (lv' := [some (.ref 115), some (.long u), none, some (.long w), none, some (.long ((((((((0 * u) + (((L 142) 0) * 1)) * u) + (((L 142) 1) * (1 * w))) * u) + (((L 142) 2) * ((1 * w) * w))) * u) + (((L 142) 3) * (((1 * w) * w) * w)))), none, some (.long ((((1 * w) * w) * w) * w)), none, some (.int 4)]) dX8_at_41 rfl rfl (by decide) (Nat.le_of_ble_eq_true rfl) rfl rfl ?_
  refine ev_goto (tgt := 9) dX8_at_44 rfl ?_
  refine ev_iload (pc' := 11) dX8_at_9 rfl rfl ?_
  refine ev_aload_n (pc' := 12) (i := 0) dX8_at_11 rfl rfl rfl ?_
  refine ev_getI (pc' := 15) (v := 3) fo_X8_267 dX8_at_12 rfl hs_115 rfl hd ?_
  refine ev_icmp_gt (tgt := 47) (pc' := 18) dX8_at_15 rfl rfl (fun _ => ?_) (fun h => absurd (by decide) h)
  refine ev_lload (pc' := 49) dX8_at_47 rfl rfl ?_
  refine ev_lret dX8_at_49 rfl ⟨Nat.le_refl _, Nat.le_refl _⟩ ?_
  exact k
def mAt4 (f : Nat → Int64) (u w : Int64) : Int64 := (((((((((0 * u) + ((f 0) * 1)) * u) + ((f 1) * (1 * w))) * u) + ((f 2) * ((1 * w) * w))) * u) + ((f 3) * (((1 * w) * w) * w))) * u) + ((f 4) * ((((1 * w) * w) * w) * w))
set_option maxRecDepth 4000 in
theorem t_X8_at4 {g : ma_G} {Post : ma_P} {I : ma_I} {L : ma_L} (u : Int64) (w : Int64) (hd : I 115 36 = 4) (k : Post (some (.long (mAt4 (L 142) u w))) HS I L RF 146) : CT g yX8_at cX8_at 10 (some .long) rX8_at [.ref 115, .long u, .long w] Post HS I L RF 146 := by
  refine ct_of (lv := [some (.ref 115), some (.long u), none, some (.long w), none, none, none, none, none, none]) (by decide) (Nat.le_of_ble_eq_true rfl) rfl ?_
  refine ev_lconst (pc' := 1) (v := 0) dX8_at_0 rfl kl_0 ?_
  refine ev_lstore (pc' := 3) (lv' := [some (.ref 115), some (.long u), none, some (.long w), none, some (.long 0), none, none, none, none]) dX8_at_1 rfl (Nat.le_of_ble_eq_true rfl) rfl rfl ?_
  refine ev_lconst (pc' := 4) (v := 1) dX8_at_3 rfl kl_1 ?_
  refine ev_lstore (pc' := 6) (lv' := [some (.ref 115), some (.long u), none, some (.long w), none, some (.long 0), none, some (.long 1), none, none]) dX8_at_4 rfl (Nat.le_of_ble_eq_true rfl) rfl rfl ?_
  refine ev_iconst (pc' := 7) (v := 0) dX8_at_6 rfl ki_0 ?_
  refine ev_istore (pc' := 9) (lv' := [some (.ref 115), some (.long u), none, some (.long w), none, some (.long 0), none, some (.long 1), none, some (.int 0)]) dX8_at_7 rfl (Nat.le_of_ble_eq_true rfl) rfl rfl ?_
  refine ev_iload (pc' := 11) dX8_at_9 rfl rfl ?_
  refine ev_aload_n (pc' := 12) (i := 0) dX8_at_11 rfl rfl rfl ?_
  refine ev_getI (pc' := 15) (v := 4) fo_X8_267 dX8_at_12 rfl hs_115 rfl hd ?_
  refine ev_icmp_gt (tgt := 47) (pc' := 18) dX8_at_15 rfl rfl (fun h => absurd h (by decide)) (fun _ => ?_)
  refine ev_lload (pc' := 20) dX8_at_18 rfl rfl ?_
  refine ev_lload_n (pc' := 21) (i := 1) dX8_at_20 rfl rfl rfl ?_
  refine ev_lmul (pc' := 22) (v := 0 * u) dX8_at_21 rfl rfl ?_
  refine ev_aload_n (pc' := 23) (i := 0) dX8_at_22 rfl rfl rfl ?_
  refine ev_getR (pc' := 26) fo_X8_94 dX8_at_23 rfl hs_115 rfl rf_115_37 ?_
  refine ev_iload (pc' := 28) dX8_at_26 rfl rfl ?_
  refine ev_lald (pc' := 29) (j := 0) (v := (L 142) 0) dX8_at_28 rfl hs_142 rfl (Nat.le_of_ble_eq_true rfl) (Nat.le_of_ble_eq_true rfl) rfl ?_
  refine ev_lload (pc' := 31) dX8_at_29 rfl rfl ?_
  refine ev_lmul (pc' := 32) (v := ((L 142) 0) * 1) dX8_at_31 rfl rfl ?_
  refine ev_ladd (pc' := 33) (v := (0 * u) + (((L 142) 0) * 1)) dX8_at_32 rfl rfl ?_
  refine ev_lstore (pc' := 35) (lv' := [some (.ref 115), some (.long u), none, some (.long w), none, some (.long ((0 * u) + (((L 142) 0) * 1))), none, some (.long 1), none, some (.int 0)]) dX8_at_33 rfl (Nat.le_of_ble_eq_true rfl) rfl rfl ?_
  refine ev_lload (pc' := 37) dX8_at_35 rfl rfl ?_
  refine ev_lload_n (pc' := 38) (i := 3) dX8_at_37 rfl rfl rfl ?_
  refine ev_lmul (pc' := 39) (v := 1 * w) dX8_at_38 rfl rfl ?_
  refine ev_lstore (pc' := 41) (lv' := [some (.ref 115), some (.long u), none, some (.long w), none, some (.long ((0 * u) + (((L 142) 0) * 1))), none, some (.long (1 * w)), none, some (.int 0)]) dX8_at_39 rfl (Nat.le_of_ble_eq_true rfl) rfl rfl ?_
  refine ev_iinc (pc' := 44) (v := 1) (lv' := [some (.ref 115), some (.long u), none, some (.long w), none, some (.long ((0 * u) + (((L 142) 0) * 1))), none, some (.long (1 * w)), none, some (.int 1)]) dX8_at_41 rfl rfl (by decide) (Nat.le_of_ble_eq_true rfl) rfl rfl ?_
  refine ev_goto (tgt := 9) dX8_at_44 rfl ?_
  refine ev_iload (pc' := 11) dX8_at_9 rfl rfl ?_
  refine ev_aload_n (pc' := 12) (i := 0) dX8_at_11 rfl rfl rfl ?_
  refine ev_getI (pc' := 15) (v := 4) fo_X8_267 dX8_at_12 rfl hs_115 rfl hd ?_
  refine ev_icmp_gt (tgt := 47) (pc' := 18) dX8_at_15 rfl rfl (fun h => absurd h (by decide)) (fun _ => ?_)
  refine ev_lload (pc' := 20) dX8_at_18 rfl rfl ?_
  refine ev_lload_n (pc' := 21) (i := 1) dX8_at_20 rfl rfl rfl ?_
  refine ev_lmul (pc' := 22) (v := ((0 * u) + (((L 142) 0) * 1)) * u) dX8_at_21 rfl rfl ?_
  refine ev_aload_n (pc' := 23) (i := 0) dX8_at_22 rfl rfl rfl ?_
  refine ev_getR (pc' := 26) fo_X8_94 dX8_at_23 rfl hs_115 rfl rf_115_37 ?_
  refine ev_iload (pc' := 28) dX8_at_26 rfl rfl ?_
  refine ev_lald (pc' := 29) (j := 1) (v := (L 142) 1) dX8_at_28 rfl hs_142 rfl (Nat.le_of_ble_eq_true rfl) (Nat.le_of_ble_eq_true rfl) rfl ?_
  refine ev_lload (pc' := 31) dX8_at_29 rfl rfl ?_
  refine ev_lmul (pc' := 32) (v := ((L 142) 1) * (1 * w)) dX8_at_31 rfl rfl ?_
  refine ev_ladd (pc' := 33) (v := (((0 * u) + (((L 142) 0) * 1)) * u) + (((L 142) 1) * (1 * w))) dX8_at_32 rfl rfl ?_
  refine ev_lstore (pc' := 35) (lv' := [some (.ref 115), some (.long u), none, some (.long w), none, some (.long ((((0 * u) + (((L 142) 0) * 1)) * u) + (((L 142) 1) * (1 * w)))), none, some (.long (1 * w)), none, some (.int 1)]) dX8_at_33 rfl (Nat.le_of_ble_eq_true rfl) rfl rfl ?_
  refine ev_lload (pc' := 37) dX8_at_35 rfl rfl ?_
  refine ev_lload_n (pc' := 38) (i := 3) dX8_at_37 rfl rfl rfl ?_
  refine ev_lmul (pc' := 39) (v := (1 * w) * w) dX8_at_38 rfl rfl ?_
  refine ev_lstore (pc' := 41) (lv' := [some (.ref 115), some (.long u), none, some (.long w), none, some (.long ((((0 * u) + (((L 142) 0) * 1)) * u) + (((L 142) 1) * (1 * w)))), none, some (.long ((1 * w) * w)), none, some (.int 1)]) dX8_at_39 rfl (Nat.le_of_ble_eq_true rfl) rfl rfl ?_
  refine ev_iinc (pc' := 44) (v := 2) (lv' := [some (.ref 115), some (.long u), none, some (.long w), none, some (.long ((((0 * u) + (((L 142) 0) * 1)) * u) + (((L 142) 1) * (1 * w)))), none, some (.long ((1 * w) * w)), none, some (.int 2)]) dX8_at_41 rfl rfl (by decide) (Nat.le_of_ble_eq_true rfl) rfl rfl ?_
  refine ev_goto (tgt := 9) dX8_at_44 rfl ?_
  refine ev_iload (pc' := 11) dX8_at_9 rfl rfl ?_
  refine ev_aload_n (pc' := 12) (i := 0) dX8_at_11 rfl rfl rfl ?_
  refine ev_getI (pc' := 15) (v := 4) fo_X8_267 dX8_at_12 rfl hs_115 rfl hd ?_
  refine ev_icmp_gt (tgt := 47) (pc' := 18) dX8_at_15 rfl rfl (fun h => absurd h (by decide)) (fun _ => ?_)
  refine ev_lload (pc' := 20) dX8_at_18 rfl rfl ?_
  refine ev_lload_n (pc' := 21) (i := 1) dX8_at_20 rfl rfl rfl ?_
  refine ev_lmul (pc' := 22) (v := ((((0 * u) + (((L 142) 0) * 1)) * u) + (((L 142) 1) * (1 * w))) * u) dX8_at_21 rfl rfl ?_
  refine ev_aload_n (pc' := 23) (i := 0) dX8_at_22 rfl rfl rfl ?_
  refine ev_getR (pc' := 26) fo_X8_94 dX8_at_23 rfl hs_115 rfl rf_115_37 ?_
  refine ev_iload (pc' := 28) dX8_at_26 rfl rfl ?_
  refine ev_lald (pc' := 29) (j := 2) (v := (L 142) 2) dX8_at_28 rfl hs_142 rfl (Nat.le_of_ble_eq_true rfl) (Nat.le_of_ble_eq_true rfl) rfl ?_
  refine ev_lload (pc' := 31) dX8_at_29 rfl rfl ?_
  refine ev_lmul (pc' := 32) (v := ((L 142) 2) * ((1 * w) * w)) dX8_at_31 rfl rfl ?_
  refine ev_ladd (pc' := 33) (v := (((((0 * u) + (((L 142) 0) * 1)) * u) + (((L 142) 1) * (1 * w))) * u) + (((L 142) 2) * ((1 * w) * w))) dX8_at_32 rfl rfl ?_
  refine ev_lstore (pc' := 35) (lv' := [some (.ref 115), some (.long u), none, some (.long w), none, some (.long ((((((0 * u) + (((L 142) 0) * 1)) * u) + (((L 142) 1) * (1 * w))) * u) + (((L 142) 2) * ((1 * w) * w)))), none, some (.long ((1 * w) * w)), none, some (.int 2)]) dX8_at_33 rfl (Nat.le_of_ble_eq_true rfl) rfl rfl ?_
  refine ev_lload (pc' := 37) dX8_at_35 rfl rfl ?_
  refine ev_lload_n (pc' := 38) (i := 3) dX8_at_37 rfl rfl rfl ?_
  refine ev_lmul (pc' := 39) (v := ((1 * w) * w) * w) dX8_at_38 rfl rfl ?_
  refine ev_lstore (pc' := 41) (lv' := [some (.ref 115), some (.long u), none, some (.long w), none, some (.long ((((((0 * u) + (((L 142) 0) * 1)) * u) + (((L 142) 1) * (1 * w))) * u) + (((L 142) 2) * ((1 * w) * w)))), none, some (.long (((1 * w) * w) * w)), none, some (.int 2)]) dX8_at_39 rfl (Nat.le_of_ble_eq_true rfl) rfl rfl ?_
  refine ev_iinc (pc' := 44) (v := 3) (lv' := [some (.ref 115), some (.long u), none, some (.long w), none, some (.long ((((((0 * u) + (((L 142) 0) * 1)) * u) + (((L 142) 1) * (1 * w))) * u) + (((L 142) 2) * ((1 * w) * w)))), none, some (.long (((1 * w) * w) * w)), none, some (.int 3)]) dX8_at_41 rfl rfl (by decide) (Nat.le_of_ble_eq_true rfl) rfl rfl ?_
  refine ev_goto (tgt := 9) dX8_at_44 rfl ?_
  refine ev_iload (pc' := 11) dX8_at_9 rfl rfl ?_
  refine ev_aload_n (pc' := 12) (i := 0) dX8_at_11 rfl rfl rfl ?_
  refine ev_getI (pc' := 15) (v := 4) fo_X8_267 dX8_at_12 rfl hs_115 rfl hd ?_
  refine ev_icmp_gt (tgt := 47) (pc' := 18) dX8_at_15 rfl rfl (fun h => absurd h (by decide)) (fun _ => ?_)
  refine ev_lload (pc' := 20) dX8_at_18 rfl rfl ?_
  refine ev_lload_n (pc' := 21) (i := 1) dX8_at_20 rfl rfl rfl ?_
  refine ev_lmul (pc' := 22) (v := ((((((0 * u) + (((L 142) 0) * 1)) * u) + (((L 142) 1) * (1 * w))) * u) + (((L 142) 2) * ((1 * w) * w))) * u) dX8_at_21 rfl rfl ?_
  refine ev_aload_n (pc' := 23) (i := 0) dX8_at_22 rfl rfl rfl ?_
  refine ev_getR (pc' := 26) fo_X8_94 dX8_at_23 rfl hs_115 rfl rf_115_37 ?_
  refine ev_iload (pc' := 28) dX8_at_26 rfl rfl ?_
  refine ev_lald (pc' := 29) (j := 3) (v := (L 142) 3) dX8_at_28 rfl hs_142 rfl (Nat.le_of_ble_eq_true rfl) (Nat.le_of_ble_eq_true rfl) rfl ?_
  refine ev_lload (pc' := 31) dX8_at_29 rfl rfl ?_
  refine ev_lmul (pc' := 32) (v := ((L 142) 3) * (((1 * w) * w) * w)) dX8_at_31 rfl rfl ?_
  refine ev_ladd (pc' := 33) (v := (((((((0 * u) + (((L 142) 0) * 1)) * u) + (((L 142) 1) * (1 * w))) * u) + (((L 142) 2) * ((1 * w) * w))) * u) + (((L 142) 3) * (((1 * w) * w) * w))) dX8_at_32 rfl rfl ?_
  refine ev_lstore (pc' := 35) (lv' := [some (.ref 115), some (.long u), none, some (.long w), none, some (.long ((((((((0 * u) + (((L 142) 0) * 1)) * u) + (((L 142) 1) * (1 * w))) * u) + (((L 142) 2) * ((1 * w) * w))) * u) + (((L 142) 3) * (((1 * w) * w) * w)))), none, some (.long (((1 * w) * w) * w)), none, some (.int 3)]) dX8_at_33 rfl (Nat.le_of_ble_eq_true rfl) rfl rfl ?_
  refine ev_lload (pc' := 37) dX8_at_35 rfl rfl ?_
  refine ev_lload_n (pc' := 38) (i := 3) dX8_at_37 rfl rfl rfl ?_
  refine ev_lmul (pc' := 39) (v := (((1 * w) * w) * w) * w) dX8_at_38 rfl rfl ?_
  refine ev_lstore (pc' := 41) (lv' := [some (.ref 115), some (.long u), none, some (.long w), none, some (.long ((((((((0 * u) + (((L 142) 0) * 1)) * u) + (((L 142) 1) * (1 * w))) * u) + (((L 142) 2) * ((1 * w) * w))) * u) + (((L 142) 3) * (((1 * w) * w) * w)))), none, some (.long ((((1 * w) * w) * w) * w)), none, some (.int 3)]) dX8_at_39 rfl (Nat.le_of_ble_eq_true rfl) rfl rfl ?_
  refine ev_iinc (pc' := 44) (v := 4) (lv' := [some (.ref 115), some (.long u), none, some (.long w), none, some (.long ((((((((0 * u) + (((L 142) 0) * 1)) * u) + (((L 142) 1) * (1 * w))) * u) + (((L 142) 2) * ((1 * w) * w))) * u) + (((L 142) 3) * (((1 * w) * w) * w)))), none, some (.long ((((1 * w) * w) * w) * w)), none, some (.int 4)]) dX8_at_41 rfl rfl (by decide) (Nat.le_of_ble_eq_true rfl) rfl rfl ?_
  refine ev_goto (tgt := 9) dX8_at_44 rfl ?_
  refine ev_iload (pc' := 11) dX8_at_9 rfl rfl ?_
  refine ev_aload_n (pc' := 12) (i := 0) dX8_at_11 rfl rfl rfl ?_
  refine ev_getI (pc' := 15) (v := 4) fo_X8_267 dX8_at_12 rfl hs_115 rfl hd ?_
  refine ev_icmp_gt (tgt := 47) (pc' := 18) dX8_at_15 rfl rfl (fun h => absurd h (by decide)) (fun _ => ?_)
  refine ev_lload (pc' := 20) dX8_at_18 rfl rfl ?_
  refine ev_lload_n (pc' := 21) (i := 1) dX8_at_20 rfl rfl rfl ?_
  refine ev_lmul (pc' := 22) (v := ((((((((0 * u) + (((L 142) 0) * 1)) * u) + (((L 142) 1) * (1 * w))) * u) + (((L 142) 2) * ((1 * w) * w))) * u) + (((L 142) 3) * (((1 * w) * w) * w))) * u) dX8_at_21 rfl rfl ?_
  refine ev_aload_n (pc' := 23) (i := 0) dX8_at_22 rfl rfl rfl ?_
  refine ev_getR (pc' := 26) fo_X8_94 dX8_at_23 rfl hs_115 rfl rf_115_37 ?_
  refine ev_iload (pc' := 28) dX8_at_26 rfl rfl ?_
  refine ev_lald (pc' := 29) (j := 4) (v := (L 142) 4) dX8_at_28 rfl hs_142 rfl (Nat.le_of_ble_eq_true rfl) (Nat.le_of_ble_eq_true rfl) rfl ?_
  refine ev_lload (pc' := 31) dX8_at_29 rfl rfl ?_
  refine ev_lmul (pc' := 32) (v := ((L 142) 4) * ((((1 * w) * w) * w) * w)) dX8_at_31 rfl rfl ?_
  refine ev_ladd (pc' := 33) (v := (((((((((0 * u) + (((L 142) 0) * 1)) * u) + (((L 142) 1) * (1 * w))) * u) + (((L 142) 2) * ((1 * w) * w))) * u) + (((L 142) 3) * (((1 * w) * w) * w))) * u) + (((L 142) 4) * ((((1 * w) * w) * w) * w))) dX8_at_32 rfl rfl ?_
  refine ev_lstore (pc' := 35) (lv' := [some (.ref 115), some (.long u), none, some (.long w), none, some (.long ((((((((((0 * u) + (((L 142) 0) * 1)) * u) + (((L 142) 1) * (1 * w))) * u) + (((L 142) 2) * ((1 * w) * w))) * u) + (((L 142) 3) * (((1 * w) * w) * w))) * u) + (((L 142) 4) * ((((1 * w) * w) * w) * w)))), none, some (.long ((((1 * w) * w) * w) * w)), none, some (.int 4)]) dX8_at_33 rfl (Nat.le_of_ble_eq_true rfl) rfl rfl ?_
  refine ev_lload (pc' := 37) dX8_at_35 rfl rfl ?_
  refine ev_lload_n (pc' := 38) (i := 3) dX8_at_37 rfl rfl rfl ?_
  refine ev_lmul (pc' := 39) (v := ((((1 * w) * w) * w) * w) * w) dX8_at_38 rfl rfl ?_
  refine ev_lstore (pc' := 41) (lv' := [some (.ref 115), some (.long u), none, some (.long w), none, some (.long ((((((((((0 * u) + (((L 142) 0) * 1)) * u) + (((L 142) 1) * (1 * w))) * u) + (((L 142) 2) * ((1 * w) * w))) * u) + (((L 142) 3) * (((1 * w) * w) * w))) * u) + (((L 142) 4) * ((((1 * w) * w) * w) * w)))), none, some (.long (((((1 * w) * w) * w) * w) * w)), none, some (.int 4)]) dX8_at_39 rfl (Nat.le_of_ble_eq_true rfl) rfl rfl ?_
  refine ev_iinc (pc' := 44) (v := 5) (lv' := [some (.ref 115), some (.long u), none, some (.long w), none, some (.long ((((((((((0 * u) + (((L 142) 0) * 1)) * u) + (((L 142) 1) * (1 * w))) * u) + (((L 142) 2) * ((1 * w) * w))) * u) + (((L 142) 3) * (((1 * w) * w) * w))) * u) + (((L 142) 4) * ((((1 * w) * w) * w) * w)))), none, some (.long (((((1 * w) * w) * w) * w) * w)), none, some (.int 5)]) dX8_at_41 rfl rfl (by decide) (Nat.le_of_ble_eq_true rfl) rfl rfl ?_
  refine ev_goto (tgt := 9) dX8_at_44 rfl ?_
  refine ev_iload (pc' := 11) dX8_at_9 rfl rfl ?_
  refine ev_aload_n (pc' := 12) (i := 0) dX8_at_11 rfl rfl rfl ?_
  refine ev_getI (pc' := 15) (v := 4) fo_X8_267 dX8_at_12 rfl hs_115 rfl hd ?_
  refine ev_icmp_gt (tgt := 47) (pc' := 18) dX8_at_15 rfl rfl (fun _ => ?_) (fun h => absurd (by decide) h)
  refine ev_lload (pc' := 49) dX8_at_47 rfl rfl ?_
  refine ev_lret dX8_at_49 rfl ⟨Nat.le_refl _, Nat.le_refl _⟩ ?_
  exact k
def mAt (m : Nat) (f : Nat → Int64) (u w : Int64) : Int64 := match m with
  | 0 => mAt0 f u w
  | 1 => mAt1 f u w
  | 2 => mAt2 f u w
  | 3 => mAt3 f u w
  | _ => mAt4 f u w
theorem u_X8_at {g : ma_G} {Post : ma_P} {I : ma_I} {L : ma_L} (u w : Int64) (m : Nat) (hm : m < 5) (hd : I 115 36 = nI m) (k : Post (some (.long (mAt m (L 142) u w))) HS I L RF 146) : CT g yX8_at cX8_at 10 (some .long) rX8_at [.ref 115, .long u, .long w] Post HS I L RF 146 := by
  match m, hm with
  | 0, _ => exact t_X8_at0 u w hd k
  | 1, _ => exact t_X8_at1 u w hd k
  | 2, _ => exact t_X8_at2 u w hd k
  | 3, _ => exact t_X8_at3 u w hd k
  | 4, _ => exact t_X8_at4 u w hd k
def mSp0 (f : Nat → Int64) (u w : Int64) : Int64 := 0
set_option maxRecDepth 4000 in
theorem t_X8_slopeAt0 {g : ma_G} {Post : ma_P} {I : ma_I} {L : ma_L} (u : Int64) (w : Int64) (hd : I 115 36 = 0) (k : Post (some (.long (mSp0 (L 142) u w))) HS I L RF 146) : CT g yX8_slopeAt cX8_slopeAt 10 (some .long) rX8_slopeAt [.ref 115, .long u, .long w] Post HS I L RF 146 := by
  refine ct_of (lv := [some (.ref 115), some (.long u), none, some (.long w), none, none, none, none, none, none]) (by decide) (Nat.le_of_ble_eq_true rfl) rfl ?_
  refine ev_lconst (pc' := 1) (v := 0) dX8_slopeAt_0 rfl kl_0 ?_
  refine ev_lstore (pc' := 3) (lv' := [some (.ref 115), some (.long u), none, some (.long w), none, some (.long 0), none, none, none, none]) dX8_slopeAt_1 rfl (Nat.le_of_ble_eq_true rfl) rfl rfl ?_
  refine ev_lconst (pc' := 4) (v := 1) dX8_slopeAt_3 rfl kl_1 ?_
  refine ev_lstore (pc' := 6) (lv' := [some (.ref 115), some (.long u), none, some (.long w), none, some (.long 0), none, some (.long 1), none, none]) dX8_slopeAt_4 rfl (Nat.le_of_ble_eq_true rfl) rfl rfl ?_
  refine ev_iconst (pc' := 7) (v := 0) dX8_slopeAt_6 rfl ki_0 ?_
  refine ev_istore (pc' := 9) (lv' := [some (.ref 115), some (.long u), none, some (.long w), none, some (.long 0), none, some (.long 1), none, some (.int 0)]) dX8_slopeAt_7 rfl (Nat.le_of_ble_eq_true rfl) rfl rfl ?_
  refine ev_iload (pc' := 11) dX8_slopeAt_9 rfl rfl ?_
  refine ev_aload_n (pc' := 12) (i := 0) dX8_slopeAt_11 rfl rfl rfl ?_
  refine ev_getI (pc' := 15) (v := 0) fo_X8_267 dX8_slopeAt_12 rfl hs_115 rfl hd ?_
  refine ev_icmp_ge (tgt := 56) (pc' := 18) dX8_slopeAt_15 rfl rfl (fun _ => ?_) (fun h => absurd (by decide) h)
  refine ev_lload (pc' := 58) dX8_slopeAt_56 rfl rfl ?_
  refine ev_lret dX8_slopeAt_58 rfl ⟨Nat.le_refl _, Nat.le_refl _⟩ ?_
  exact k
def mSp1 (f : Nat → Int64) (u w : Int64) : Int64 := (0 * u) + ((1 * (f 0)) * 1)
set_option maxRecDepth 4000 in
theorem t_X8_slopeAt1 {g : ma_G} {Post : ma_P} {I : ma_I} {L : ma_L} (u : Int64) (w : Int64) (hd : I 115 36 = 1) (k : Post (some (.long (mSp1 (L 142) u w))) HS I L RF 146) : CT g yX8_slopeAt cX8_slopeAt 10 (some .long) rX8_slopeAt [.ref 115, .long u, .long w] Post HS I L RF 146 := by
  refine ct_of (lv := [some (.ref 115), some (.long u), none, some (.long w), none, none, none, none, none, none]) (by decide) (Nat.le_of_ble_eq_true rfl) rfl ?_
  refine ev_lconst (pc' := 1) (v := 0) dX8_slopeAt_0 rfl kl_0 ?_
  refine ev_lstore (pc' := 3) (lv' := [some (.ref 115), some (.long u), none, some (.long w), none, some (.long 0), none, none, none, none]) dX8_slopeAt_1 rfl (Nat.le_of_ble_eq_true rfl) rfl rfl ?_
  refine ev_lconst (pc' := 4) (v := 1) dX8_slopeAt_3 rfl kl_1 ?_
  refine ev_lstore (pc' := 6) (lv' := [some (.ref 115), some (.long u), none, some (.long w), none, some (.long 0), none, some (.long 1), none, none]) dX8_slopeAt_4 rfl (Nat.le_of_ble_eq_true rfl) rfl rfl ?_
  refine ev_iconst (pc' := 7) (v := 0) dX8_slopeAt_6 rfl ki_0 ?_
  refine ev_istore (pc' := 9) (lv' := [some (.ref 115), some (.long u), none, some (.long w), none, some (.long 0), none, some (.long 1), none, some (.int 0)]) dX8_slopeAt_7 rfl (Nat.le_of_ble_eq_true rfl) rfl rfl ?_
  refine ev_iload (pc' := 11) dX8_slopeAt_9 rfl rfl ?_
  refine ev_aload_n (pc' := 12) (i := 0) dX8_slopeAt_11 rfl rfl rfl ?_
  refine ev_getI (pc' := 15) (v := 1) fo_X8_267 dX8_slopeAt_12 rfl hs_115 rfl hd ?_
  refine ev_icmp_ge (tgt := 56) (pc' := 18) dX8_slopeAt_15 rfl rfl (fun h => absurd h (by decide)) (fun _ => ?_)
  refine ev_lload (pc' := 20) dX8_slopeAt_18 rfl rfl ?_
  refine ev_lload_n (pc' := 21) (i := 1) dX8_slopeAt_20 rfl rfl rfl ?_
  refine ev_lmul (pc' := 22) (v := 0 * u) dX8_slopeAt_21 rfl rfl ?_
  refine ev_aload_n (pc' := 23) (i := 0) dX8_slopeAt_22 rfl rfl rfl ?_
  refine ev_getI (pc' := 26) (v := 1) fo_X8_267 dX8_slopeAt_23 rfl hs_115 rfl hd ?_
  refine ev_iload (pc' := 28) dX8_slopeAt_26 rfl rfl ?_
  refine ev_isub (pc' := 29) (v := 1) dX8_slopeAt_28 rfl (by decide) ?_
  refine ev_i2l (pc' := 30) (v := 1) dX8_slopeAt_29 rfl (by decide) ?_
  refine ev_aload_n (pc' := 31) (i := 0) dX8_slopeAt_30 rfl rfl rfl ?_
  refine ev_getR (pc' := 34) fo_X8_94 dX8_slopeAt_31 rfl hs_115 rfl rf_115_37 ?_
  refine ev_iload (pc' := 36) dX8_slopeAt_34 rfl rfl ?_
  refine ev_lald (pc' := 37) (j := 0) (v := (L 142) 0) dX8_slopeAt_36 rfl hs_142 rfl (Nat.le_of_ble_eq_true rfl) (Nat.le_of_ble_eq_true rfl) rfl ?_
  refine ev_lmul (pc' := 38) (v := 1 * ((L 142) 0)) dX8_slopeAt_37 rfl rfl ?_
  refine ev_lload (pc' := 40) dX8_slopeAt_38 rfl rfl ?_
  refine ev_lmul (pc' := 41) (v := (1 * ((L 142) 0)) * 1) dX8_slopeAt_40 rfl rfl ?_
  refine ev_ladd (pc' := 42) (v := (0 * u) + ((1 * ((L 142) 0)) * 1)) dX8_slopeAt_41 rfl rfl ?_
  refine ev_lstore (pc' := 44) (lv' := [some (.ref 115), some (.long u), none, some (.long w), none, some (.long ((0 * u) + ((1 * ((L 142) 0)) * 1))), none, some (.long 1), none, some (.int 0)]) dX8_slopeAt_42 rfl (Nat.le_of_ble_eq_true rfl) rfl rfl ?_
  refine ev_lload (pc' := 46) dX8_slopeAt_44 rfl rfl ?_
  refine ev_lload_n (pc' := 47) (i := 3) dX8_slopeAt_46 rfl rfl rfl ?_
  refine ev_lmul (pc' := 48) (v := 1 * w) dX8_slopeAt_47 rfl rfl ?_
  refine ev_lstore (pc' := 50) (lv' := [some (.ref 115), some (.long u), none, some (.long w), none, some (.long ((0 * u) + ((1 * ((L 142) 0)) * 1))), none, some (.long (1 * w)), none, some (.int 0)]) dX8_slopeAt_48 rfl (Nat.le_of_ble_eq_true rfl) rfl rfl ?_
  refine ev_iinc (pc' := 53) (v := 1) (lv' := [some (.ref 115), some (.long u), none, some (.long w), none, some (.long ((0 * u) + ((1 * ((L 142) 0)) * 1))), none, some (.long (1 * w)), none, some (.int 1)]) dX8_slopeAt_50 rfl rfl (by decide) (Nat.le_of_ble_eq_true rfl) rfl rfl ?_
  refine ev_goto (tgt := 9) dX8_slopeAt_53 rfl ?_
  refine ev_iload (pc' := 11) dX8_slopeAt_9 rfl rfl ?_
  refine ev_aload_n (pc' := 12) (i := 0) dX8_slopeAt_11 rfl rfl rfl ?_
  refine ev_getI (pc' := 15) (v := 1) fo_X8_267 dX8_slopeAt_12 rfl hs_115 rfl hd ?_
  refine ev_icmp_ge (tgt := 56) (pc' := 18) dX8_slopeAt_15 rfl rfl (fun _ => ?_) (fun h => absurd (by decide) h)
  refine ev_lload (pc' := 58) dX8_slopeAt_56 rfl rfl ?_
  refine ev_lret dX8_slopeAt_58 rfl ⟨Nat.le_refl _, Nat.le_refl _⟩ ?_
  exact k
def mSp2 (f : Nat → Int64) (u w : Int64) : Int64 := (((0 * u) + ((2 * (f 0)) * 1)) * u) + ((1 * (f 1)) * (1 * w))
set_option maxRecDepth 4000 in
theorem t_X8_slopeAt2 {g : ma_G} {Post : ma_P} {I : ma_I} {L : ma_L} (u : Int64) (w : Int64) (hd : I 115 36 = 2) (k : Post (some (.long (mSp2 (L 142) u w))) HS I L RF 146) : CT g yX8_slopeAt cX8_slopeAt 10 (some .long) rX8_slopeAt [.ref 115, .long u, .long w] Post HS I L RF 146 := by
  refine ct_of (lv := [some (.ref 115), some (.long u), none, some (.long w), none, none, none, none, none, none]) (by decide) (Nat.le_of_ble_eq_true rfl) rfl ?_
  refine ev_lconst (pc' := 1) (v := 0) dX8_slopeAt_0 rfl kl_0 ?_
  refine ev_lstore (pc' := 3) (lv' := [some (.ref 115), some (.long u), none, some (.long w), none, some (.long 0), none, none, none, none]) dX8_slopeAt_1 rfl (Nat.le_of_ble_eq_true rfl) rfl rfl ?_
  refine ev_lconst (pc' := 4) (v := 1) dX8_slopeAt_3 rfl kl_1 ?_
  refine ev_lstore (pc' := 6) (lv' := [some (.ref 115), some (.long u), none, some (.long w), none, some (.long 0), none, some (.long 1), none, none]) dX8_slopeAt_4 rfl (Nat.le_of_ble_eq_true rfl) rfl rfl ?_
  refine ev_iconst (pc' := 7) (v := 0) dX8_slopeAt_6 rfl ki_0 ?_
  refine ev_istore (pc' := 9) (lv' := [some (.ref 115), some (.long u), none, some (.long w), none, some (.long 0), none, some (.long 1), none, some (.int 0)]) dX8_slopeAt_7 rfl (Nat.le_of_ble_eq_true rfl) rfl rfl ?_
  refine ev_iload (pc' := 11) dX8_slopeAt_9 rfl rfl ?_
  refine ev_aload_n (pc' := 12) (i := 0) dX8_slopeAt_11 rfl rfl rfl ?_
  refine ev_getI (pc' := 15) (v := 2) fo_X8_267 dX8_slopeAt_12 rfl hs_115 rfl hd ?_
  refine ev_icmp_ge (tgt := 56) (pc' := 18) dX8_slopeAt_15 rfl rfl (fun h => absurd h (by decide)) (fun _ => ?_)
  refine ev_lload (pc' := 20) dX8_slopeAt_18 rfl rfl ?_
  refine ev_lload_n (pc' := 21) (i := 1) dX8_slopeAt_20 rfl rfl rfl ?_
  refine ev_lmul (pc' := 22) (v := 0 * u) dX8_slopeAt_21 rfl rfl ?_
  refine ev_aload_n (pc' := 23) (i := 0) dX8_slopeAt_22 rfl rfl rfl ?_
  refine ev_getI (pc' := 26) (v := 2) fo_X8_267 dX8_slopeAt_23 rfl hs_115 rfl hd ?_
  refine ev_iload (pc' := 28) dX8_slopeAt_26 rfl rfl ?_
  refine ev_isub (pc' := 29) (v := 2) dX8_slopeAt_28 rfl (by decide) ?_
  refine ev_i2l (pc' := 30) (v := 2) dX8_slopeAt_29 rfl (by decide) ?_
  refine ev_aload_n (pc' := 31) (i := 0) dX8_slopeAt_30 rfl rfl rfl ?_
  refine ev_getR (pc' := 34) fo_X8_94 dX8_slopeAt_31 rfl hs_115 rfl rf_115_37 ?_
  refine ev_iload (pc' := 36) dX8_slopeAt_34 rfl rfl ?_
  refine ev_lald (pc' := 37) (j := 0) (v := (L 142) 0) dX8_slopeAt_36 rfl hs_142 rfl (Nat.le_of_ble_eq_true rfl) (Nat.le_of_ble_eq_true rfl) rfl ?_
  refine ev_lmul (pc' := 38) (v := 2 * ((L 142) 0)) dX8_slopeAt_37 rfl rfl ?_
  refine ev_lload (pc' := 40) dX8_slopeAt_38 rfl rfl ?_
  refine ev_lmul (pc' := 41) (v := (2 * ((L 142) 0)) * 1) dX8_slopeAt_40 rfl rfl ?_
  refine ev_ladd (pc' := 42) (v := (0 * u) + ((2 * ((L 142) 0)) * 1)) dX8_slopeAt_41 rfl rfl ?_
  refine ev_lstore (pc' := 44) (lv' := [some (.ref 115), some (.long u), none, some (.long w), none, some (.long ((0 * u) + ((2 * ((L 142) 0)) * 1))), none, some (.long 1), none, some (.int 0)]) dX8_slopeAt_42 rfl (Nat.le_of_ble_eq_true rfl) rfl rfl ?_
  refine ev_lload (pc' := 46) dX8_slopeAt_44 rfl rfl ?_
  refine ev_lload_n (pc' := 47) (i := 3) dX8_slopeAt_46 rfl rfl rfl ?_
  refine ev_lmul (pc' := 48) (v := 1 * w) dX8_slopeAt_47 rfl rfl ?_
  refine ev_lstore (pc' := 50) (lv' := [some (.ref 115), some (.long u), none, some (.long w), none, some (.long ((0 * u) + ((2 * ((L 142) 0)) * 1))), none, some (.long (1 * w)), none, some (.int 0)]) dX8_slopeAt_48 rfl (Nat.le_of_ble_eq_true rfl) rfl rfl ?_
  refine ev_iinc (pc' := 53) (v := 1) (lv' := [some (.ref 115), some (.long u), none, some (.long w), none, some (.long ((0 * u) + ((2 * ((L 142) 0)) * 1))), none, some (.long (1 * w)), none, some (.int 1)]) dX8_slopeAt_50 rfl rfl (by decide) (Nat.le_of_ble_eq_true rfl) rfl rfl ?_
  refine ev_goto (tgt := 9) dX8_slopeAt_53 rfl ?_
  refine ev_iload (pc' := 11) dX8_slopeAt_9 rfl rfl ?_
  refine ev_aload_n (pc' := 12) (i := 0) dX8_slopeAt_11 rfl rfl rfl ?_
  refine ev_getI (pc' := 15) (v := 2) fo_X8_267 dX8_slopeAt_12 rfl hs_115 rfl hd ?_
  refine ev_icmp_ge (tgt := 56) (pc' := 18) dX8_slopeAt_15 rfl rfl (fun h => absurd h (by decide)) (fun _ => ?_)
  refine ev_lload (pc' := 20) dX8_slopeAt_18 rfl rfl ?_
  refine ev_lload_n (pc' := 21) (i := 1) dX8_slopeAt_20 rfl rfl rfl ?_
  refine ev_lmul (pc' := 22) (v := ((0 * u) + ((2 * ((L 142) 0)) * 1)) * u) dX8_slopeAt_21 rfl rfl ?_
  refine ev_aload_n (pc' := 23) (i := 0) dX8_slopeAt_22 rfl rfl rfl ?_
  refine ev_getI (pc' := 26) (v := 2) fo_X8_267 dX8_slopeAt_23 rfl hs_115 rfl hd ?_
  refine ev_iload (pc' := 28) dX8_slopeAt_26 rfl rfl ?_
  refine ev_isub (pc' := 29) (v := 1) dX8_slopeAt_28 rfl (by decide) ?_
  refine ev_i2l (pc' := 30) (v := 1) dX8_slopeAt_29 rfl (by decide) ?_
  refine ev_aload_n (pc' := 31) (i := 0) dX8_slopeAt_30 rfl rfl rfl ?_
  refine ev_getR (pc' := 34) fo_X8_94 dX8_slopeAt_31 rfl hs_115 rfl rf_115_37 ?_
  refine ev_iload (pc' := 36) dX8_slopeAt_34 rfl rfl ?_
  refine ev_lald (pc' := 37) (j := 1) (v := (L 142) 1) dX8_slopeAt_36 rfl hs_142 rfl (Nat.le_of_ble_eq_true rfl) (Nat.le_of_ble_eq_true rfl) rfl ?_
  refine ev_lmul (pc' := 38) (v := 1 * ((L 142) 1)) dX8_slopeAt_37 rfl rfl ?_
  refine ev_lload (pc' := 40) dX8_slopeAt_38 rfl rfl ?_
  refine ev_lmul (pc' := 41) (v := (1 * ((L 142) 1)) * (1 * w)) dX8_slopeAt_40 rfl rfl ?_
  refine ev_ladd (pc' := 42) (v := (((0 * u) + ((2 * ((L 142) 0)) * 1)) * u) + ((1 * ((L 142) 1)) * (1 * w))) dX8_slopeAt_41 rfl rfl ?_
  refine ev_lstore (pc' := 44) (lv' := [some (.ref 115), some (.long u), none, some (.long w), none, some (.long ((((0 * u) + ((2 * ((L 142) 0)) * 1)) * u) + ((1 * ((L 142) 1)) * (1 * w)))), none, some (.long (1 * w)), none, some (.int 1)]) dX8_slopeAt_42 rfl (Nat.le_of_ble_eq_true rfl) rfl rfl ?_
  refine ev_lload (pc' := 46) dX8_slopeAt_44 rfl rfl ?_
  refine ev_lload_n (pc' := 47) (i := 3) dX8_slopeAt_46 rfl rfl rfl ?_
  refine ev_lmul (pc' := 48) (v := (1 * w) * w) dX8_slopeAt_47 rfl rfl ?_
  refine ev_lstore (pc' := 50) (lv' := [some (.ref 115), some (.long u), none, some (.long w), none, some (.long ((((0 * u) + ((2 * ((L 142) 0)) * 1)) * u) + ((1 * ((L 142) 1)) * (1 * w)))), none, some (.long ((1 * w) * w)), none, some (.int 1)]) dX8_slopeAt_48 rfl (Nat.le_of_ble_eq_true rfl) rfl rfl ?_
  refine ev_iinc (pc' := 53) (v := 2) (lv' := [some (.ref 115), some (.long u), none, some (.long w), none, some (.long ((((0 * u) + ((2 * ((L 142) 0)) * 1)) * u) + ((1 * ((L 142) 1)) * (1 * w)))), none, some (.long ((1 * w) * w)), none, some (.int 2)]) dX8_slopeAt_50 rfl rfl (by decide) (Nat.le_of_ble_eq_true rfl) rfl rfl ?_
  refine ev_goto (tgt := 9) dX8_slopeAt_53 rfl ?_
  refine ev_iload (pc' := 11) dX8_slopeAt_9 rfl rfl ?_
  refine ev_aload_n (pc' := 12) (i := 0) dX8_slopeAt_11 rfl rfl rfl ?_
  refine ev_getI (pc' := 15) (v := 2) fo_X8_267 dX8_slopeAt_12 rfl hs_115 rfl hd ?_
  refine ev_icmp_ge (tgt := 56) (pc' := 18) dX8_slopeAt_15 rfl rfl (fun _ => ?_) (fun h => absurd (by decide) h)
  refine ev_lload (pc' := 58) dX8_slopeAt_56 rfl rfl ?_
  refine ev_lret dX8_slopeAt_58 rfl ⟨Nat.le_refl _, Nat.le_refl _⟩ ?_
  exact k
def mSp3 (f : Nat → Int64) (u w : Int64) : Int64 := (((((0 * u) + ((3 * (f 0)) * 1)) * u) + ((2 * (f 1)) * (1 * w))) * u) + ((1 * (f 2)) * ((1 * w) * w))
set_option maxRecDepth 4000 in
theorem t_X8_slopeAt3 {g : ma_G} {Post : ma_P} {I : ma_I} {L : ma_L} (u : Int64) (w : Int64) (hd : I 115 36 = 3) (k : Post (some (.long (mSp3 (L 142) u w))) HS I L RF 146) : CT g yX8_slopeAt cX8_slopeAt 10 (some .long) rX8_slopeAt [.ref 115, .long u, .long w] Post HS I L RF 146 := by
  refine ct_of (lv := [some (.ref 115), some (.long u), none, some (.long w), none, none, none, none, none, none]) (by decide) (Nat.le_of_ble_eq_true rfl) rfl ?_
  refine ev_lconst (pc' := 1) (v := 0) dX8_slopeAt_0 rfl kl_0 ?_
  refine ev_lstore (pc' := 3) (lv' := [some (.ref 115), some (.long u), none, some (.long w), none, some (.long 0), none, none, none, none]) dX8_slopeAt_1 rfl (Nat.le_of_ble_eq_true rfl) rfl rfl ?_
  refine ev_lconst (pc' := 4) (v := 1) dX8_slopeAt_3 rfl kl_1 ?_
  refine ev_lstore (pc' := 6) (lv' := [some (.ref 115), some (.long u), none, some (.long w), none, some (.long 0), none, some (.long 1), none, none]) dX8_slopeAt_4 rfl (Nat.le_of_ble_eq_true rfl) rfl rfl ?_
  refine ev_iconst (pc' := 7) (v := 0) dX8_slopeAt_6 rfl ki_0 ?_
  refine ev_istore (pc' := 9) (lv' := [some (.ref 115), some (.long u), none, some (.long w), none, some (.long 0), none, some (.long 1), none, some (.int 0)]) dX8_slopeAt_7 rfl (Nat.le_of_ble_eq_true rfl) rfl rfl ?_
  refine ev_iload (pc' := 11) dX8_slopeAt_9 rfl rfl ?_
  refine ev_aload_n (pc' := 12) (i := 0) dX8_slopeAt_11 rfl rfl rfl ?_
  refine ev_getI (pc' := 15) (v := 3) fo_X8_267 dX8_slopeAt_12 rfl hs_115 rfl hd ?_
  refine ev_icmp_ge (tgt := 56) (pc' := 18) dX8_slopeAt_15 rfl rfl (fun h => absurd h (by decide)) (fun _ => ?_)
  refine ev_lload (pc' := 20) dX8_slopeAt_18 rfl rfl ?_
  refine ev_lload_n (pc' := 21) (i := 1) dX8_slopeAt_20 rfl rfl rfl ?_
  refine ev_lmul (pc' := 22) (v := 0 * u) dX8_slopeAt_21 rfl rfl ?_
  refine ev_aload_n (pc' := 23) (i := 0) dX8_slopeAt_22 rfl rfl rfl ?_
  refine ev_getI (pc' := 26) (v := 3) fo_X8_267 dX8_slopeAt_23 rfl hs_115 rfl hd ?_
  refine ev_iload (pc' := 28) dX8_slopeAt_26 rfl rfl ?_
  refine ev_isub (pc' := 29) (v := 3) dX8_slopeAt_28 rfl (by decide) ?_
  refine ev_i2l (pc' := 30) (v := 3) dX8_slopeAt_29 rfl (by decide) ?_
  refine ev_aload_n (pc' := 31) (i := 0) dX8_slopeAt_30 rfl rfl rfl ?_
  refine ev_getR (pc' := 34) fo_X8_94 dX8_slopeAt_31 rfl hs_115 rfl rf_115_37 ?_
  refine ev_iload (pc' := 36) dX8_slopeAt_34 rfl rfl ?_
  refine ev_lald (pc' := 37) (j := 0) (v := (L 142) 0) dX8_slopeAt_36 rfl hs_142 rfl (Nat.le_of_ble_eq_true rfl) (Nat.le_of_ble_eq_true rfl) rfl ?_
  refine ev_lmul (pc' := 38) (v := 3 * ((L 142) 0)) dX8_slopeAt_37 rfl rfl ?_
  refine ev_lload (pc' := 40) dX8_slopeAt_38 rfl rfl ?_
  refine ev_lmul (pc' := 41) (v := (3 * ((L 142) 0)) * 1) dX8_slopeAt_40 rfl rfl ?_
  refine ev_ladd (pc' := 42) (v := (0 * u) + ((3 * ((L 142) 0)) * 1)) dX8_slopeAt_41 rfl rfl ?_
  refine ev_lstore (pc' := 44) (lv' := [some (.ref 115), some (.long u), none, some (.long w), none, some (.long ((0 * u) + ((3 * ((L 142) 0)) * 1))), none, some (.long 1), none, some (.int 0)]) dX8_slopeAt_42 rfl (Nat.le_of_ble_eq_true rfl) rfl rfl ?_
  refine ev_lload (pc' := 46) dX8_slopeAt_44 rfl rfl ?_
  refine ev_lload_n (pc' := 47) (i := 3) dX8_slopeAt_46 rfl rfl rfl ?_
  refine ev_lmul (pc' := 48) (v := 1 * w) dX8_slopeAt_47 rfl rfl ?_
  refine ev_lstore (pc' := 50) (lv' := [some (.ref 115), some (.long u), none, some (.long w), none, some (.long ((0 * u) + ((3 * ((L 142) 0)) * 1))), none, some (.long (1 * w)), none, some (.int 0)]) dX8_slopeAt_48 rfl (Nat.le_of_ble_eq_true rfl) rfl rfl ?_
  refine ev_iinc (pc' := 53) (v := 1) (lv' := [some (.ref 115), some (.long u), none, some (.long w), none, some (.long ((0 * u) + ((3 * ((L 142) 0)) * 1))), none, some (.long (1 * w)), none, some (.int 1)]) dX8_slopeAt_50 rfl rfl (by decide) (Nat.le_of_ble_eq_true rfl) rfl rfl ?_
  refine ev_goto (tgt := 9) dX8_slopeAt_53 rfl ?_
  refine ev_iload (pc' := 11) dX8_slopeAt_9 rfl rfl ?_
  refine ev_aload_n (pc' := 12) (i := 0) dX8_slopeAt_11 rfl rfl rfl ?_
  refine ev_getI (pc' := 15) (v := 3) fo_X8_267 dX8_slopeAt_12 rfl hs_115 rfl hd ?_
  refine ev_icmp_ge (tgt := 56) (pc' := 18) dX8_slopeAt_15 rfl rfl (fun h => absurd h (by decide)) (fun _ => ?_)
  refine ev_lload (pc' := 20) dX8_slopeAt_18 rfl rfl ?_
  refine ev_lload_n (pc' := 21) (i := 1) dX8_slopeAt_20 rfl rfl rfl ?_
  refine ev_lmul (pc' := 22) (v := ((0 * u) + ((3 * ((L 142) 0)) * 1)) * u) dX8_slopeAt_21 rfl rfl ?_
  refine ev_aload_n (pc' := 23) (i := 0) dX8_slopeAt_22 rfl rfl rfl ?_
  refine ev_getI (pc' := 26) (v := 3) fo_X8_267 dX8_slopeAt_23 rfl hs_115 rfl hd ?_
  refine ev_iload (pc' := 28) dX8_slopeAt_26 rfl rfl ?_
  refine ev_isub (pc' := 29) (v := 2) dX8_slopeAt_28 rfl (by decide) ?_
  refine ev_i2l (pc' := 30) (v := 2) dX8_slopeAt_29 rfl (by decide) ?_
  refine ev_aload_n (pc' := 31) (i := 0) dX8_slopeAt_30 rfl rfl rfl ?_
  refine ev_getR (pc' := 34) fo_X8_94 dX8_slopeAt_31 rfl hs_115 rfl rf_115_37 ?_
  refine ev_iload (pc' := 36) dX8_slopeAt_34 rfl rfl ?_
  refine ev_lald (pc' := 37) (j := 1) (v := (L 142) 1) dX8_slopeAt_36 rfl hs_142 rfl (Nat.le_of_ble_eq_true rfl) (Nat.le_of_ble_eq_true rfl) rfl ?_
  refine ev_lmul (pc' := 38) (v := 2 * ((L 142) 1)) dX8_slopeAt_37 rfl rfl ?_
  refine ev_lload (pc' := 40) dX8_slopeAt_38 rfl rfl ?_
  refine ev_lmul (pc' := 41) (v := (2 * ((L 142) 1)) * (1 * w)) dX8_slopeAt_40 rfl rfl ?_
  refine ev_ladd (pc' := 42) (v := (((0 * u) + ((3 * ((L 142) 0)) * 1)) * u) + ((2 * ((L 142) 1)) * (1 * w))) dX8_slopeAt_41 rfl rfl ?_
  refine ev_lstore (pc' := 44) (lv' := [some (.ref 115), some (.long u), none, some (.long w), none, some (.long ((((0 * u) + ((3 * ((L 142) 0)) * 1)) * u) + ((2 * ((L 142) 1)) * (1 * w)))), none, some (.long (1 * w)), none, some (.int 1)]) dX8_slopeAt_42 rfl (Nat.le_of_ble_eq_true rfl) rfl rfl ?_
  refine ev_lload (pc' := 46) dX8_slopeAt_44 rfl rfl ?_
  refine ev_lload_n (pc' := 47) (i := 3) dX8_slopeAt_46 rfl rfl rfl ?_
  refine ev_lmul (pc' := 48) (v := (1 * w) * w) dX8_slopeAt_47 rfl rfl ?_
  refine ev_lstore (pc' := 50) (lv' := [some (.ref 115), some (.long u), none, some (.long w), none, some (.long ((((0 * u) + ((3 * ((L 142) 0)) * 1)) * u) + ((2 * ((L 142) 1)) * (1 * w)))), none, some (.long ((1 * w) * w)), none, some (.int 1)]) dX8_slopeAt_48 rfl (Nat.le_of_ble_eq_true rfl) rfl rfl ?_
  refine ev_iinc (pc' := 53) (v := 2) (lv' := [some (.ref 115), some (.long u), none, some (.long w), none, some (.long ((((0 * u) + ((3 * ((L 142) 0)) * 1)) * u) + ((2 * ((L 142) 1)) * (1 * w)))), none, some (.long ((1 * w) * w)), none, some (.int 2)]) dX8_slopeAt_50 rfl rfl (by decide) (Nat.le_of_ble_eq_true rfl) rfl rfl ?_
  refine ev_goto (tgt := 9) dX8_slopeAt_53 rfl ?_
  refine ev_iload (pc' := 11) dX8_slopeAt_9 rfl rfl ?_
  refine ev_aload_n (pc' := 12) (i := 0) dX8_slopeAt_11 rfl rfl rfl ?_
  refine ev_getI (pc' := 15) (v := 3) fo_X8_267 dX8_slopeAt_12 rfl hs_115 rfl hd ?_
  refine ev_icmp_ge (tgt := 56) (pc' := 18) dX8_slopeAt_15 rfl rfl (fun h => absurd h (by decide)) (fun _ => ?_)
  refine ev_lload (pc' := 20) dX8_slopeAt_18 rfl rfl ?_
  refine ev_lload_n (pc' := 21) (i := 1) dX8_slopeAt_20 rfl rfl rfl ?_
  refine ev_lmul (pc' := 22) (v := ((((0 * u) + ((3 * ((L 142) 0)) * 1)) * u) + ((2 * ((L 142) 1)) * (1 * w))) * u) dX8_slopeAt_21 rfl rfl ?_
  refine ev_aload_n (pc' := 23) (i := 0) dX8_slopeAt_22 rfl rfl rfl ?_
  refine ev_getI (pc' := 26) (v := 3) fo_X8_267 dX8_slopeAt_23 rfl hs_115 rfl hd ?_
  refine ev_iload (pc' := 28) dX8_slopeAt_26 rfl rfl ?_
  refine ev_isub (pc' := 29) (v := 1) dX8_slopeAt_28 rfl (by decide) ?_
  refine ev_i2l (pc' := 30) (v := 1) dX8_slopeAt_29 rfl (by decide) ?_
  refine ev_aload_n (pc' := 31) (i := 0) dX8_slopeAt_30 rfl rfl rfl ?_
  refine ev_getR (pc' := 34) fo_X8_94 dX8_slopeAt_31 rfl hs_115 rfl rf_115_37 ?_
  refine ev_iload (pc' := 36) dX8_slopeAt_34 rfl rfl ?_
  refine ev_lald (pc' := 37) (j := 2) (v := (L 142) 2) dX8_slopeAt_36 rfl hs_142 rfl (Nat.le_of_ble_eq_true rfl) (Nat.le_of_ble_eq_true rfl) rfl ?_
  refine ev_lmul (pc' := 38) (v := 1 * ((L 142) 2)) dX8_slopeAt_37 rfl rfl ?_
  refine ev_lload (pc' := 40) dX8_slopeAt_38 rfl rfl ?_
  refine ev_lmul (pc' := 41) (v := (1 * ((L 142) 2)) * ((1 * w) * w)) dX8_slopeAt_40 rfl rfl ?_
  refine ev_ladd (pc' := 42) (v := (((((0 * u) + ((3 * ((L 142) 0)) * 1)) * u) + ((2 * ((L 142) 1)) * (1 * w))) * u) + ((1 * ((L 142) 2)) * ((1 * w) * w))) dX8_slopeAt_41 rfl rfl ?_
  refine ev_lstore (pc' := 44) (lv' := [some (.ref 115), some (.long u), none, some (.long w), none, some (.long ((((((0 * u) + ((3 * ((L 142) 0)) * 1)) * u) + ((2 * ((L 142) 1)) * (1 * w))) * u) + ((1 * ((L 142) 2)) * ((1 * w) * w)))), none, some (.long ((1 * w) * w)), none, some (.int 2)]) dX8_slopeAt_42 rfl (Nat.le_of_ble_eq_true rfl) rfl rfl ?_
  refine ev_lload (pc' := 46) dX8_slopeAt_44 rfl rfl ?_
  refine ev_lload_n (pc' := 47) (i := 3) dX8_slopeAt_46 rfl rfl rfl ?_
  refine ev_lmul (pc' := 48) (v := ((1 * w) * w) * w) dX8_slopeAt_47 rfl rfl ?_
  refine ev_lstore (pc' := 50) (lv' := [some (.ref 115), some (.long u), none, some (.long w), none, some (.long ((((((0 * u) + ((3 * ((L 142) 0)) * 1)) * u) + ((2 * ((L 142) 1)) * (1 * w))) * u) + ((1 * ((L 142) 2)) * ((1 * w) * w)))), none, some (.long (((1 * w) * w) * w)), none, some (.int 2)]) dX8_slopeAt_48 rfl (Nat.le_of_ble_eq_true rfl) rfl rfl ?_
  refine ev_iinc (pc' := 53) (v := 3) (lv' := [some (.ref 115), some (.long u), none, some (.long w), none, some (.long ((((((0 * u) + ((3 * ((L 142) 0)) * 1)) * u) + ((2 * ((L 142) 1)) * (1 * w))) * u) + ((1 * ((L 142) 2)) * ((1 * w) * w)))), none, some (.long (((1 * w) * w) * w)), none, some (.int 3)]) dX8_slopeAt_50 rfl rfl (by decide) (Nat.le_of_ble_eq_true rfl) rfl rfl ?_
  refine ev_goto (tgt := 9) dX8_slopeAt_53 rfl ?_
  refine ev_iload (pc' := 11) dX8_slopeAt_9 rfl rfl ?_
  refine ev_aload_n (pc' := 12) (i := 0) dX8_slopeAt_11 rfl rfl rfl ?_
  refine ev_getI (pc' := 15) (v := 3) fo_X8_267 dX8_slopeAt_12 rfl hs_115 rfl hd ?_
  refine ev_icmp_ge (tgt := 56) (pc' := 18) dX8_slopeAt_15 rfl rfl (fun _ => ?_) (fun h => absurd (by decide) h)
  refine ev_lload (pc' := 58) dX8_slopeAt_56 rfl rfl ?_
  refine ev_lret dX8_slopeAt_58 rfl ⟨Nat.le_refl _, Nat.le_refl _⟩ ?_
  exact k
def mSp4 (f : Nat → Int64) (u w : Int64) : Int64 := (((((((0 * u) + ((4 * (f 0)) * 1)) * u) + ((3 * (f 1)) * (1 * w))) * u) + ((2 * (f 2)) * ((1 * w) * w))) * u) + ((1 * (f 3)) * (((1 * w) * w) * w))
set_option maxRecDepth 4000 in
theorem t_X8_slopeAt4 {g : ma_G} {Post : ma_P} {I : ma_I} {L : ma_L} (u : Int64) (w : Int64) (hd : I 115 36 = 4) (k : Post (some (.long (mSp4 (L 142) u w))) HS I L RF 146) : CT g yX8_slopeAt cX8_slopeAt 10 (some .long) rX8_slopeAt [.ref 115, .long u, .long w] Post HS I L RF 146 := by
  refine ct_of (lv := [some (.ref 115), some (.long u), none, some (.long w), none, none, none, none, none, none]) (by decide) (Nat.le_of_ble_eq_true rfl) rfl ?_
  refine ev_lconst (pc' := 1) (v := 0) dX8_slopeAt_0 rfl kl_0 ?_
  refine ev_lstore (pc' := 3) (lv' := [some (.ref 115), some (.long u), none, some (.long w), none, some (.long 0), none, none, none, none]) dX8_slopeAt_1 rfl (Nat.le_of_ble_eq_true rfl) rfl rfl ?_
  refine ev_lconst (pc' := 4) (v := 1) dX8_slopeAt_3 rfl kl_1 ?_
  refine ev_lstore (pc' := 6) (lv' := [some (.ref 115), some (.long u), none, some (.long w), none, some (.long 0), none, some (.long 1), none, none]) dX8_slopeAt_4 rfl (Nat.le_of_ble_eq_true rfl) rfl rfl ?_
  refine ev_iconst (pc' := 7) (v := 0) dX8_slopeAt_6 rfl ki_0 ?_
  refine ev_istore (pc' := 9) (lv' := [some (.ref 115), some (.long u), none, some (.long w), none, some (.long 0), none, some (.long 1), none, some (.int 0)]) dX8_slopeAt_7 rfl (Nat.le_of_ble_eq_true rfl) rfl rfl ?_
  refine ev_iload (pc' := 11) dX8_slopeAt_9 rfl rfl ?_
  refine ev_aload_n (pc' := 12) (i := 0) dX8_slopeAt_11 rfl rfl rfl ?_
  refine ev_getI (pc' := 15) (v := 4) fo_X8_267 dX8_slopeAt_12 rfl hs_115 rfl hd ?_
  refine ev_icmp_ge (tgt := 56) (pc' := 18) dX8_slopeAt_15 rfl rfl (fun h => absurd h (by decide)) (fun _ => ?_)
  refine ev_lload (pc' := 20) dX8_slopeAt_18 rfl rfl ?_
  refine ev_lload_n (pc' := 21) (i := 1) dX8_slopeAt_20 rfl rfl rfl ?_
  refine ev_lmul (pc' := 22) (v := 0 * u) dX8_slopeAt_21 rfl rfl ?_
  refine ev_aload_n (pc' := 23) (i := 0) dX8_slopeAt_22 rfl rfl rfl ?_
  refine ev_getI (pc' := 26) (v := 4) fo_X8_267 dX8_slopeAt_23 rfl hs_115 rfl hd ?_
  refine ev_iload (pc' := 28) dX8_slopeAt_26 rfl rfl ?_
  refine ev_isub (pc' := 29) (v := 4) dX8_slopeAt_28 rfl (by decide) ?_
  refine ev_i2l (pc' := 30) (v := 4) dX8_slopeAt_29 rfl (by decide) ?_
  refine ev_aload_n (pc' := 31) (i := 0) dX8_slopeAt_30 rfl rfl rfl ?_
  refine ev_getR (pc' := 34) fo_X8_94 dX8_slopeAt_31 rfl hs_115 rfl rf_115_37 ?_
  refine ev_iload (pc' := 36) dX8_slopeAt_34 rfl rfl ?_
  refine ev_lald (pc' := 37) (j := 0) (v := (L 142) 0) dX8_slopeAt_36 rfl hs_142 rfl (Nat.le_of_ble_eq_true rfl) (Nat.le_of_ble_eq_true rfl) rfl ?_
  refine ev_lmul (pc' := 38) (v := 4 * ((L 142) 0)) dX8_slopeAt_37 rfl rfl ?_
  refine ev_lload (pc' := 40) dX8_slopeAt_38 rfl rfl ?_
  refine ev_lmul (pc' := 41) (v := (4 * ((L 142) 0)) * 1) dX8_slopeAt_40 rfl rfl ?_
  refine ev_ladd (pc' := 42) (v := (0 * u) + ((4 * ((L 142) 0)) * 1)) dX8_slopeAt_41 rfl rfl ?_
  refine ev_lstore (pc' := 44) (lv' := [some (.ref 115), some (.long u), none, some (.long w), none, some (.long ((0 * u) + ((4 * ((L 142) 0)) * 1))), none, some (.long 1), none, some (.int 0)]) dX8_slopeAt_42 rfl (Nat.le_of_ble_eq_true rfl) rfl rfl ?_
  refine ev_lload (pc' := 46) dX8_slopeAt_44 rfl rfl ?_
  refine ev_lload_n (pc' := 47) (i := 3) dX8_slopeAt_46 rfl rfl rfl ?_
  refine ev_lmul (pc' := 48) (v := 1 * w) dX8_slopeAt_47 rfl rfl ?_
  refine ev_lstore (pc' := 50) (lv' := [some (.ref 115), some (.long u), none, some (.long w), none, some (.long ((0 * u) + ((4 * ((L 142) 0)) * 1))), none, some (.long (1 * w)), none, some (.int 0)]) dX8_slopeAt_48 rfl (Nat.le_of_ble_eq_true rfl) rfl rfl ?_
  refine ev_iinc (pc' := 53) (v := 1) (lv' := [some (.ref 115), some (.long u), none, some (.long w), none, some (.long ((0 * u) + ((4 * ((L 142) 0)) * 1))), none, some (.long (1 * w)), none, some (.int 1)]) dX8_slopeAt_50 rfl rfl (by decide) (Nat.le_of_ble_eq_true rfl) rfl rfl ?_
  refine ev_goto (tgt := 9) dX8_slopeAt_53 rfl ?_
  refine ev_iload (pc' := 11) dX8_slopeAt_9 rfl rfl ?_
  refine ev_aload_n (pc' := 12) (i := 0) dX8_slopeAt_11 rfl rfl rfl ?_
  refine ev_getI (pc' := 15) (v := 4) fo_X8_267 dX8_slopeAt_12 rfl hs_115 rfl hd ?_
  refine ev_icmp_ge (tgt := 56) (pc' := 18) dX8_slopeAt_15 rfl rfl (fun h => absurd h (by decide)) (fun _ => ?_)
  refine ev_lload (pc' := 20) dX8_slopeAt_18 rfl rfl ?_
  refine ev_lload_n (pc' := 21) (i := 1) dX8_slopeAt_20 rfl rfl rfl ?_
  refine ev_lmul (pc' := 22) (v := ((0 * u) + ((4 * ((L 142) 0)) * 1)) * u) dX8_slopeAt_21 rfl rfl ?_
  refine ev_aload_n (pc' := 23) (i := 0) dX8_slopeAt_22 rfl rfl rfl ?_
  refine ev_getI (pc' := 26) (v := 4) fo_X8_267 dX8_slopeAt_23 rfl hs_115 rfl hd ?_
  refine ev_iload (pc' := 28) dX8_slopeAt_26 rfl rfl ?_
  refine ev_isub (pc' := 29) (v := 3) dX8_slopeAt_28 rfl (by decide) ?_
  refine ev_i2l (pc' := 30) (v := 3) dX8_slopeAt_29 rfl (by decide) ?_
  refine ev_aload_n (pc' := 31) (i := 0) dX8_slopeAt_30 rfl rfl rfl ?_
  refine ev_getR (pc' := 34) fo_X8_94 dX8_slopeAt_31 rfl hs_115 rfl rf_115_37 ?_
  refine ev_iload (pc' := 36) dX8_slopeAt_34 rfl rfl ?_
  refine ev_lald (pc' := 37) (j := 1) (v := (L 142) 1) dX8_slopeAt_36 rfl hs_142 rfl (Nat.le_of_ble_eq_true rfl) (Nat.le_of_ble_eq_true rfl) rfl ?_
  refine ev_lmul (pc' := 38) (v := 3 * ((L 142) 1)) dX8_slopeAt_37 rfl rfl ?_
  refine ev_lload (pc' := 40) dX8_slopeAt_38 rfl rfl ?_
  refine ev_lmul (pc' := 41) (v := (3 * ((L 142) 1)) * (1 * w)) dX8_slopeAt_40 rfl rfl ?_
  refine ev_ladd (pc' := 42) (v := (((0 * u) + ((4 * ((L 142) 0)) * 1)) * u) + ((3 * ((L 142) 1)) * (1 * w))) dX8_slopeAt_41 rfl rfl ?_
  refine ev_lstore (pc' := 44) (lv' := [some (.ref 115), some (.long u), none, some (.long w), none, some (.long ((((0 * u) + ((4 * ((L 142) 0)) * 1)) * u) + ((3 * ((L 142) 1)) * (1 * w)))), none, some (.long (1 * w)), none, some (.int 1)]) dX8_slopeAt_42 rfl (Nat.le_of_ble_eq_true rfl) rfl rfl ?_
  refine ev_lload (pc' := 46) dX8_slopeAt_44 rfl rfl ?_
  refine ev_lload_n (pc' := 47) (i := 3) dX8_slopeAt_46 rfl rfl rfl ?_
  refine ev_lmul (pc' := 48) (v := (1 * w) * w) dX8_slopeAt_47 rfl rfl ?_
  refine ev_lstore (pc' := 50) (lv' := [some (.ref 115), some (.long u), none, some (.long w), none, some (.long ((((0 * u) + ((4 * ((L 142) 0)) * 1)) * u) + ((3 * ((L 142) 1)) * (1 * w)))), none, some (.long ((1 * w) * w)), none, some (.int 1)]) dX8_slopeAt_48 rfl (Nat.le_of_ble_eq_true rfl) rfl rfl ?_
  refine ev_iinc (pc' := 53) (v := 2) (lv' := [some (.ref 115), some (.long u), none, some (.long w), none, some (.long ((((0 * u) + ((4 * ((L 142) 0)) * 1)) * u) + ((3 * ((L 142) 1)) * (1 * w)))), none, some (.long ((1 * w) * w)), none, some (.int 2)]) dX8_slopeAt_50 rfl rfl (by decide) (Nat.le_of_ble_eq_true rfl) rfl rfl ?_
  refine ev_goto (tgt := 9) dX8_slopeAt_53 rfl ?_
  refine ev_iload (pc' := 11) dX8_slopeAt_9 rfl rfl ?_
  refine ev_aload_n (pc' := 12) (i := 0) dX8_slopeAt_11 rfl rfl rfl ?_
  refine ev_getI (pc' := 15) (v := 4) fo_X8_267 dX8_slopeAt_12 rfl hs_115 rfl hd ?_
  refine ev_icmp_ge (tgt := 56) (pc' := 18) dX8_slopeAt_15 rfl rfl (fun h => absurd h (by decide)) (fun _ => ?_)
  refine ev_lload (pc' := 20) dX8_slopeAt_18 rfl rfl ?_
  refine ev_lload_n (pc' := 21) (i := 1) dX8_slopeAt_20 rfl rfl rfl ?_
  refine ev_lmul (pc' := 22) (v := ((((0 * u) + ((4 * ((L 142) 0)) * 1)) * u) + ((3 * ((L 142) 1)) * (1 * w))) * u) dX8_slopeAt_21 rfl rfl ?_
  refine ev_aload_n (pc' := 23) (i := 0) dX8_slopeAt_22 rfl rfl rfl ?_
  refine ev_getI (pc' := 26) (v := 4) fo_X8_267 dX8_slopeAt_23 rfl hs_115 rfl hd ?_
  refine ev_iload (pc' := 28) dX8_slopeAt_26 rfl rfl ?_
  refine ev_isub (pc' := 29) (v := 2) dX8_slopeAt_28 rfl (by decide) ?_
  refine ev_i2l (pc' := 30) (v := 2) dX8_slopeAt_29 rfl (by decide) ?_
  refine ev_aload_n (pc' := 31) (i := 0) dX8_slopeAt_30 rfl rfl rfl ?_
  refine ev_getR (pc' := 34) fo_X8_94 dX8_slopeAt_31 rfl hs_115 rfl rf_115_37 ?_
  refine ev_iload (pc' := 36) dX8_slopeAt_34 rfl rfl ?_
  refine ev_lald (pc' := 37) (j := 2) (v := (L 142) 2) dX8_slopeAt_36 rfl hs_142 rfl (Nat.le_of_ble_eq_true rfl) (Nat.le_of_ble_eq_true rfl) rfl ?_
  refine ev_lmul (pc' := 38) (v := 2 * ((L 142) 2)) dX8_slopeAt_37 rfl rfl ?_
  refine ev_lload (pc' := 40) dX8_slopeAt_38 rfl rfl ?_
  refine ev_lmul (pc' := 41) (v := (2 * ((L 142) 2)) * ((1 * w) * w)) dX8_slopeAt_40 rfl rfl ?_
  refine ev_ladd (pc' := 42) (v := (((((0 * u) + ((4 * ((L 142) 0)) * 1)) * u) + ((3 * ((L 142) 1)) * (1 * w))) * u) + ((2 * ((L 142) 2)) * ((1 * w) * w))) dX8_slopeAt_41 rfl rfl ?_
  refine ev_lstore (pc' := 44) (lv' := [some (.ref 115), some (.long u), none, some (.long w), none, some (.long ((((((0 * u) + ((4 * ((L 142) 0)) * 1)) * u) + ((3 * ((L 142) 1)) * (1 * w))) * u) + ((2 * ((L 142) 2)) * ((1 * w) * w)))), none, some (.long ((1 * w) * w)), none, some (.int 2)]) dX8_slopeAt_42 rfl (Nat.le_of_ble_eq_true rfl) rfl rfl ?_
  refine ev_lload (pc' := 46) dX8_slopeAt_44 rfl rfl ?_
  refine ev_lload_n (pc' := 47) (i := 3) dX8_slopeAt_46 rfl rfl rfl ?_
  refine ev_lmul (pc' := 48) (v := ((1 * w) * w) * w) dX8_slopeAt_47 rfl rfl ?_
  refine ev_lstore (pc' := 50) (lv' := [some (.ref 115), some (.long u), none, some (.long w), none, some (.long ((((((0 * u) + ((4 * ((L 142) 0)) * 1)) * u) + ((3 * ((L 142) 1)) * (1 * w))) * u) + ((2 * ((L 142) 2)) * ((1 * w) * w)))), none, some (.long (((1 * w) * w) * w)), none, some (.int 2)]) dX8_slopeAt_48 rfl (Nat.le_of_ble_eq_true rfl) rfl rfl ?_
  refine ev_iinc (pc' := 53) (v := 3) (lv' := [some (.ref 115), some (.long u), none, some (.long w), none, some (.long ((((((0 * u) + ((4 * ((L 142) 0)) * 1)) * u) + ((3 * ((L 142) 1)) * (1 * w))) * u) + ((2 * ((L 142) 2)) * ((1 * w) * w)))), none, some (.long (((1 * w) * w) * w)), none, some (.int 3)]) dX8_slopeAt_50 rfl rfl (by decide) (Nat.le_of_ble_eq_true rfl) rfl rfl ?_
  refine ev_goto (tgt := 9) dX8_slopeAt_53 rfl ?_
  refine ev_iload (pc' := 11) dX8_slopeAt_9 rfl rfl ?_
  refine ev_aload_n (pc' := 12) (i := 0) dX8_slopeAt_11 rfl rfl rfl ?_
  refine ev_getI (pc' := 15) (v := 4) fo_X8_267 dX8_slopeAt_12 rfl hs_115 rfl hd ?_
  refine ev_icmp_ge (tgt := 56) (pc' := 18) dX8_slopeAt_15 rfl rfl (fun h => absurd h (by decide)) (fun _ => ?_)
  refine ev_lload (pc' := 20) dX8_slopeAt_18 rfl rfl ?_
  refine ev_lload_n (pc' := 21) (i := 1) dX8_slopeAt_20 rfl rfl rfl ?_
  refine ev_lmul (pc' := 22) (v := ((((((0 * u) + ((4 * ((L 142) 0)) * 1)) * u) + ((3 * ((L 142) 1)) * (1 * w))) * u) + ((2 * ((L 142) 2)) * ((1 * w) * w))) * u) dX8_slopeAt_21 rfl rfl ?_
  refine ev_aload_n (pc' := 23) (i := 0) dX8_slopeAt_22 rfl rfl rfl ?_
  refine ev_getI (pc' := 26) (v := 4) fo_X8_267 dX8_slopeAt_23 rfl hs_115 rfl hd ?_
  refine ev_iload (pc' := 28) dX8_slopeAt_26 rfl rfl ?_
  refine ev_isub (pc' := 29) (v := 1) dX8_slopeAt_28 rfl (by decide) ?_
  refine ev_i2l (pc' := 30) (v := 1) dX8_slopeAt_29 rfl (by decide) ?_
  refine ev_aload_n (pc' := 31) (i := 0) dX8_slopeAt_30 rfl rfl rfl ?_
  refine ev_getR (pc' := 34) fo_X8_94 dX8_slopeAt_31 rfl hs_115 rfl rf_115_37 ?_
  refine ev_iload (pc' := 36) dX8_slopeAt_34 rfl rfl ?_
  refine ev_lald (pc' := 37) (j := 3) (v := (L 142) 3) dX8_slopeAt_36 rfl hs_142 rfl (Nat.le_of_ble_eq_true rfl) (Nat.le_of_ble_eq_true rfl) rfl ?_
  refine ev_lmul (pc' := 38) (v := 1 * ((L 142) 3)) dX8_slopeAt_37 rfl rfl ?_
  refine ev_lload (pc' := 40) dX8_slopeAt_38 rfl rfl ?_
  refine ev_lmul (pc' := 41) (v := (1 * ((L 142) 3)) * (((1 * w) * w) * w)) dX8_slopeAt_40 rfl rfl ?_
  refine ev_ladd (pc' := 42) (v := (((((((0 * u) + ((4 * ((L 142) 0)) * 1)) * u) + ((3 * ((L 142) 1)) * (1 * w))) * u) + ((2 * ((L 142) 2)) * ((1 * w) * w))) * u) + ((1 * ((L 142) 3)) * (((1 * w) * w) * w))) dX8_slopeAt_41 rfl rfl ?_
  refine ev_lstore (pc' := 44) (lv' := [some (.ref 115), some (.long u), none, some (.long w), none, some (.long ((((((((0 * u) + ((4 * ((L 142) 0)) * 1)) * u) + ((3 * ((L 142) 1)) * (1 * w))) * u) + ((2 * ((L 142) 2)) * ((1 * w) * w))) * u) + ((1 * ((L 142) 3)) * (((1 * w) * w) * w)))), none, some (.long (((1 * w) * w) * w)), none, some (.int 3)]) dX8_slopeAt_42 rfl (Nat.le_of_ble_eq_true rfl) rfl rfl ?_
  refine ev_lload (pc' := 46) dX8_slopeAt_44 rfl rfl ?_
  refine ev_lload_n (pc' := 47) (i := 3) dX8_slopeAt_46 rfl rfl rfl ?_
  refine ev_lmul (pc' := 48) (v := (((1 * w) * w) * w) * w) dX8_slopeAt_47 rfl rfl ?_
  refine ev_lstore (pc' := 50) (lv' := [some (.ref 115), some (.long u), none, some (.long w), none, some (.long ((((((((0 * u) + ((4 * ((L 142) 0)) * 1)) * u) + ((3 * ((L 142) 1)) * (1 * w))) * u) + ((2 * ((L 142) 2)) * ((1 * w) * w))) * u) + ((1 * ((L 142) 3)) * (((1 * w) * w) * w)))), none, some (.long ((((1 * w) * w) * w) * w)), none, some (.int 3)]) dX8_slopeAt_48 rfl (Nat.le_of_ble_eq_true rfl) rfl rfl ?_
  refine ev_iinc (pc' := 53) (v := 4) (lv' := [some (.ref 115), some (.long u), none, some (.long w), none, some (.long ((((((((0 * u) + ((4 * ((L 142) 0)) * 1)) * u) + ((3 * ((L 142) 1)) * (1 * w))) * u) + ((2 * ((L 142) 2)) * ((1 * w) * w))) * u) + ((1 * ((L 142) 3)) * (((1 * w) * w) * w)))), none, some (.long ((((1 * w) * w) * w) * w)), none, some (.int 4)]) dX8_slopeAt_50 rfl rfl (by decide) (Nat.le_of_ble_eq_true rfl) rfl rfl ?_
  refine ev_goto (tgt := 9) dX8_slopeAt_53 rfl ?_
  refine ev_iload (pc' := 11) dX8_slopeAt_9 rfl rfl ?_
  refine ev_aload_n (pc' := 12) (i := 0) dX8_slopeAt_11 rfl rfl rfl ?_
  refine ev_getI (pc' := 15) (v := 4) fo_X8_267 dX8_slopeAt_12 rfl hs_115 rfl hd ?_
  refine ev_icmp_ge (tgt := 56) (pc' := 18) dX8_slopeAt_15 rfl rfl (fun _ => ?_) (fun h => absurd (by decide) h)
  refine ev_lload (pc' := 58) dX8_slopeAt_56 rfl rfl ?_
  refine ev_lret dX8_slopeAt_58 rfl ⟨Nat.le_refl _, Nat.le_refl _⟩ ?_
  exact k
def mSp (m : Nat) (f : Nat → Int64) (u w : Int64) : Int64 := match m with
  | 0 => mSp0 f u w
  | 1 => mSp1 f u w
  | 2 => mSp2 f u w
  | 3 => mSp3 f u w
  | _ => mSp4 f u w
theorem u_X8_slopeAt {g : ma_G} {Post : ma_P} {I : ma_I} {L : ma_L} (u w : Int64) (m : Nat) (hm : m < 5) (hd : I 115 36 = nI m) (k : Post (some (.long (mSp m (L 142) u w))) HS I L RF 146) : CT g yX8_slopeAt cX8_slopeAt 10 (some .long) rX8_slopeAt [.ref 115, .long u, .long w] Post HS I L RF 146 := by
  match m, hm with
  | 0, _ => exact t_X8_slopeAt0 u w hd k
  | 1, _ => exact t_X8_slopeAt1 u w hd k
  | 2, _ => exact t_X8_slopeAt2 u w hd k
  | 3, _ => exact t_X8_slopeAt3 u w hd k
  | 4, _ => exact t_X8_slopeAt4 u w hd k
def mDv10 (f : Nat → Int64) (u w : Int64) : Int64 := ((f 0) + 0) / w
set_option maxRecDepth 4000 in
theorem t_X8_divide1 {g : ma_G} {Post : ma_P} {I : ma_I} {L : ma_L} (u : Int64) (w : Int64) (hd : I 115 36 = 1) (hw : ¬ w = 0) (k : Post none HS (ma_up I 115 (ma_up (I 115) 36 0)) (ma_up L 142 (ma_up (L 142) 0 (mDv10 (L 142) u w))) RF 146) : CT g yX8_divide cX8_divide 10 none rX8_divide [.ref 115, .long u, .long w] Post HS I L RF 146 := by
  refine ct_of (lv := [some (.ref 115), some (.long u), none, some (.long w), none, none, none, none, none, none]) (by decide) (Nat.le_of_ble_eq_true rfl) rfl ?_
  refine ev_lconst (pc' := 1) (v := 0) dX8_divide_0 rfl kl_0 ?_
  refine ev_lstore (pc' := 3) (lv' := [some (.ref 115), some (.long u), none, some (.long w), none, some (.long 0), none, none, none, none]) dX8_divide_1 rfl (Nat.le_of_ble_eq_true rfl) rfl rfl ?_
  refine ev_iconst (pc' := 4) (v := 0) dX8_divide_3 rfl ki_0 ?_
  refine ev_istore (pc' := 6) (lv' := [some (.ref 115), some (.long u), none, some (.long w), none, some (.long 0), none, some (.int 0), none, none]) dX8_divide_4 rfl (Nat.le_of_ble_eq_true rfl) rfl rfl ?_
  refine ev_iload (pc' := 8) dX8_divide_6 rfl rfl ?_
  refine ev_aload_n (pc' := 9) (i := 0) dX8_divide_8 rfl rfl rfl ?_
  refine ev_getI (pc' := 12) (v := 1) fo_X8_267 dX8_divide_9 rfl hs_115 rfl hd ?_
  refine ev_icmp_ge (tgt := 50) (pc' := 15) dX8_divide_12 rfl rfl (fun h => absurd h (by decide)) (fun _ => ?_)
  refine ev_aload_n (pc' := 16) (i := 0) dX8_divide_15 rfl rfl rfl ?_
  refine ev_getR (pc' := 19) fo_X8_94 dX8_divide_16 rfl hs_115 rfl rf_115_37 ?_
  refine ev_iload (pc' := 21) dX8_divide_19 rfl rfl ?_
  refine ev_lald (pc' := 22) (j := 0) (v := (L 142) 0) dX8_divide_21 rfl hs_142 rfl (Nat.le_of_ble_eq_true rfl) (Nat.le_of_ble_eq_true rfl) rfl ?_
  refine ev_lload (pc' := 24) dX8_divide_22 rfl rfl ?_
  refine ev_ladd (pc' := 25) (v := ((L 142) 0) + 0) dX8_divide_24 rfl rfl ?_
  refine ev_lload_n (pc' := 26) (i := 3) dX8_divide_25 rfl rfl rfl ?_
  refine ev_ldiv (pc' := 27) (v := (((L 142) 0) + 0) / w) dX8_divide_26 rfl hw rfl ?_
  refine ev_lstore (pc' := 29) (lv' := [some (.ref 115), some (.long u), none, some (.long w), none, some (.long 0), none, some (.int 0), some (.long ((((L 142) 0) + 0) / w)), none]) dX8_divide_27 rfl (Nat.le_of_ble_eq_true rfl) rfl rfl ?_
  refine ev_lload (pc' := 31) dX8_divide_29 rfl rfl ?_
  refine ev_lload_n (pc' := 32) (i := 1) dX8_divide_31 rfl rfl rfl ?_
  refine ev_lmul (pc' := 33) (v := ((((L 142) 0) + 0) / w) * u) dX8_divide_32 rfl rfl ?_
  refine ev_lstore (pc' := 35) (lv' := [some (.ref 115), some (.long u), none, some (.long w), none, some (.long (((((L 142) 0) + 0) / w) * u)), none, some (.int 0), some (.long ((((L 142) 0) + 0) / w)), none]) dX8_divide_33 rfl (Nat.le_of_ble_eq_true rfl) rfl rfl ?_
  refine ev_aload_n (pc' := 36) (i := 0) dX8_divide_35 rfl rfl rfl ?_
  refine ev_getR (pc' := 39) fo_X8_94 dX8_divide_36 rfl hs_115 rfl rf_115_37 ?_
  refine ev_iload (pc' := 41) dX8_divide_39 rfl rfl ?_
  refine ev_lload (pc' := 43) dX8_divide_41 rfl rfl ?_
  refine ev_last (pc' := 44) (j := 0) (L' := (ma_up L 142 (ma_up (L 142) 0 ((((L 142) 0) + 0) / w)))) dX8_divide_43 rfl hs_142 rfl (Nat.le_of_ble_eq_true rfl) (Nat.le_of_ble_eq_true rfl) rfl ?_
  refine ev_iinc (pc' := 47) (v := 1) (lv' := [some (.ref 115), some (.long u), none, some (.long w), none, some (.long (((((L 142) 0) + 0) / w) * u)), none, some (.int 1), some (.long ((((L 142) 0) + 0) / w)), none]) dX8_divide_44 rfl rfl (by decide) (Nat.le_of_ble_eq_true rfl) rfl rfl ?_
  refine ev_goto (tgt := 6) dX8_divide_47 rfl ?_
  refine ev_iload (pc' := 8) dX8_divide_6 rfl rfl ?_
  refine ev_aload_n (pc' := 9) (i := 0) dX8_divide_8 rfl rfl rfl ?_
  refine ev_getI (pc' := 12) (v := 1) fo_X8_267 dX8_divide_9 rfl hs_115 rfl hd ?_
  refine ev_icmp_ge (tgt := 50) (pc' := 15) dX8_divide_12 rfl rfl (fun _ => ?_) (fun h => absurd (by decide) h)
  refine ev_aload_n (pc' := 51) (i := 0) dX8_divide_50 rfl rfl rfl ?_
  refine ev_dup (pc' := 52) dX8_divide_51 rfl rfl ?_
  refine ev_getI (pc' := 55) (v := 1) fo_X8_267 dX8_divide_52 rfl hs_115 rfl hd ?_
  refine ev_iconst (pc' := 56) (v := 1) dX8_divide_55 rfl ki_1 ?_
  refine ev_isub (pc' := 57) (v := 0) dX8_divide_56 rfl (by decide) ?_
  refine ev_putI (pc' := 60) (I' := (ma_up I 115 (ma_up (I 115) 36 0))) fo_X8_267 dX8_divide_57 rfl hs_115 rfl (fun r hr => by cases hr; rfl) ⟨rfl, rfl⟩ rfl ?_
  refine ev_vret dX8_divide_60 rfl ⟨Nat.le_refl _, Nat.le_refl _⟩ ?_
  exact k
def mDv20 (f : Nat → Int64) (u w : Int64) : Int64 := ((f 0) + 0) / w
def mDv21 (f : Nat → Int64) (u w : Int64) : Int64 := ((f 1) + ((((f 0) + 0) / w) * u)) / w
set_option maxRecDepth 4000 in
theorem t_X8_divide2 {g : ma_G} {Post : ma_P} {I : ma_I} {L : ma_L} (u : Int64) (w : Int64) (hd : I 115 36 = 2) (hw : ¬ w = 0) (k : Post none HS (ma_up I 115 (ma_up (I 115) 36 1)) (ma_up L 142 (ma_up (ma_up (L 142) 0 (mDv20 (L 142) u w)) 1 (mDv21 (L 142) u w))) RF 146) : CT g yX8_divide cX8_divide 10 none rX8_divide [.ref 115, .long u, .long w] Post HS I L RF 146 := by
  refine ct_of (lv := [some (.ref 115), some (.long u), none, some (.long w), none, none, none, none, none, none]) (by decide) (Nat.le_of_ble_eq_true rfl) rfl ?_
  refine ev_lconst (pc' := 1) (v := 0) dX8_divide_0 rfl kl_0 ?_
  refine ev_lstore (pc' := 3) (lv' := [some (.ref 115), some (.long u), none, some (.long w), none, some (.long 0), none, none, none, none]) dX8_divide_1 rfl (Nat.le_of_ble_eq_true rfl) rfl rfl ?_
  refine ev_iconst (pc' := 4) (v := 0) dX8_divide_3 rfl ki_0 ?_
  refine ev_istore (pc' := 6) (lv' := [some (.ref 115), some (.long u), none, some (.long w), none, some (.long 0), none, some (.int 0), none, none]) dX8_divide_4 rfl (Nat.le_of_ble_eq_true rfl) rfl rfl ?_
  refine ev_iload (pc' := 8) dX8_divide_6 rfl rfl ?_
  refine ev_aload_n (pc' := 9) (i := 0) dX8_divide_8 rfl rfl rfl ?_
  refine ev_getI (pc' := 12) (v := 2) fo_X8_267 dX8_divide_9 rfl hs_115 rfl hd ?_
  refine ev_icmp_ge (tgt := 50) (pc' := 15) dX8_divide_12 rfl rfl (fun h => absurd h (by decide)) (fun _ => ?_)
  refine ev_aload_n (pc' := 16) (i := 0) dX8_divide_15 rfl rfl rfl ?_
  refine ev_getR (pc' := 19) fo_X8_94 dX8_divide_16 rfl hs_115 rfl rf_115_37 ?_
  refine ev_iload (pc' := 21) dX8_divide_19 rfl rfl ?_
  refine ev_lald (pc' := 22) (j := 0) (v := (L 142) 0) dX8_divide_21 rfl hs_142 rfl (Nat.le_of_ble_eq_true rfl) (Nat.le_of_ble_eq_true rfl) rfl ?_
  refine ev_lload (pc' := 24) dX8_divide_22 rfl rfl ?_
  refine ev_ladd (pc' := 25) (v := ((L 142) 0) + 0) dX8_divide_24 rfl rfl ?_
  refine ev_lload_n (pc' := 26) (i := 3) dX8_divide_25 rfl rfl rfl ?_
  refine ev_ldiv (pc' := 27) (v := (((L 142) 0) + 0) / w) dX8_divide_26 rfl hw rfl ?_
  refine ev_lstore (pc' := 29) (lv' := [some (.ref 115), some (.long u), none, some (.long w), none, some (.long 0), none, some (.int 0), some (.long ((((L 142) 0) + 0) / w)), none]) dX8_divide_27 rfl (Nat.le_of_ble_eq_true rfl) rfl rfl ?_
  refine ev_lload (pc' := 31) dX8_divide_29 rfl rfl ?_
  refine ev_lload_n (pc' := 32) (i := 1) dX8_divide_31 rfl rfl rfl ?_
  refine ev_lmul (pc' := 33) (v := ((((L 142) 0) + 0) / w) * u) dX8_divide_32 rfl rfl ?_
  refine ev_lstore (pc' := 35) (lv' := [some (.ref 115), some (.long u), none, some (.long w), none, some (.long (((((L 142) 0) + 0) / w) * u)), none, some (.int 0), some (.long ((((L 142) 0) + 0) / w)), none]) dX8_divide_33 rfl (Nat.le_of_ble_eq_true rfl) rfl rfl ?_
  refine ev_aload_n (pc' := 36) (i := 0) dX8_divide_35 rfl rfl rfl ?_
  refine ev_getR (pc' := 39) fo_X8_94 dX8_divide_36 rfl hs_115 rfl rf_115_37 ?_
  refine ev_iload (pc' := 41) dX8_divide_39 rfl rfl ?_
  refine ev_lload (pc' := 43) dX8_divide_41 rfl rfl ?_
  refine ev_last (pc' := 44) (j := 0) (L' := (ma_up L 142 (ma_up (L 142) 0 ((((L 142) 0) + 0) / w)))) dX8_divide_43 rfl hs_142 rfl (Nat.le_of_ble_eq_true rfl) (Nat.le_of_ble_eq_true rfl) rfl ?_
  refine ev_iinc (pc' := 47) (v := 1) (lv' := [some (.ref 115), some (.long u), none, some (.long w), none, some (.long (((((L 142) 0) + 0) / w) * u)), none, some (.int 1), some (.long ((((L 142) 0) + 0) / w)), none]) dX8_divide_44 rfl rfl (by decide) (Nat.le_of_ble_eq_true rfl) rfl rfl ?_
  refine ev_goto (tgt := 6) dX8_divide_47 rfl ?_
  refine ev_iload (pc' := 8) dX8_divide_6 rfl rfl ?_
  refine ev_aload_n (pc' := 9) (i := 0) dX8_divide_8 rfl rfl rfl ?_
  refine ev_getI (pc' := 12) (v := 2) fo_X8_267 dX8_divide_9 rfl hs_115 rfl hd ?_
  refine ev_icmp_ge (tgt := 50) (pc' := 15) dX8_divide_12 rfl rfl (fun h => absurd h (by decide)) (fun _ => ?_)
  refine ev_aload_n (pc' := 16) (i := 0) dX8_divide_15 rfl rfl rfl ?_
  refine ev_getR (pc' := 19) fo_X8_94 dX8_divide_16 rfl hs_115 rfl rf_115_37 ?_
  refine ev_iload (pc' := 21) dX8_divide_19 rfl rfl ?_
  refine ev_lald (pc' := 22) (j := 1) (v := (L 142) 1) dX8_divide_21 rfl hs_142 rfl (Nat.le_of_ble_eq_true rfl) (Nat.le_of_ble_eq_true rfl) rfl ?_
  refine ev_lload (pc' := 24) dX8_divide_22 rfl rfl ?_
  refine ev_ladd (pc' := 25) (v := ((L 142) 1) + (((((L 142) 0) + 0) / w) * u)) dX8_divide_24 rfl rfl ?_
  refine ev_lload_n (pc' := 26) (i := 3) dX8_divide_25 rfl rfl rfl ?_
  refine ev_ldiv (pc' := 27) (v := (((L 142) 1) + (((((L 142) 0) + 0) / w) * u)) / w) dX8_divide_26 rfl hw rfl ?_
  refine ev_lstore (pc' := 29) (lv' := [some (.ref 115), some (.long u), none, some (.long w), none, some (.long (((((L 142) 0) + 0) / w) * u)), none, some (.int 1), some (.long ((((L 142) 1) + (((((L 142) 0) + 0) / w) * u)) / w)), none]) dX8_divide_27 rfl (Nat.le_of_ble_eq_true rfl) rfl rfl ?_
  refine ev_lload (pc' := 31) dX8_divide_29 rfl rfl ?_
  refine ev_lload_n (pc' := 32) (i := 1) dX8_divide_31 rfl rfl rfl ?_
  refine ev_lmul (pc' := 33) (v := ((((L 142) 1) + (((((L 142) 0) + 0) / w) * u)) / w) * u) dX8_divide_32 rfl rfl ?_
  refine ev_lstore (pc' := 35) (lv' := [some (.ref 115), some (.long u), none, some (.long w), none, some (.long (((((L 142) 1) + (((((L 142) 0) + 0) / w) * u)) / w) * u)), none, some (.int 1), some (.long ((((L 142) 1) + (((((L 142) 0) + 0) / w) * u)) / w)), none]) dX8_divide_33 rfl (Nat.le_of_ble_eq_true rfl) rfl rfl ?_
  refine ev_aload_n (pc' := 36) (i := 0) dX8_divide_35 rfl rfl rfl ?_
  refine ev_getR (pc' := 39) fo_X8_94 dX8_divide_36 rfl hs_115 rfl rf_115_37 ?_
  refine ev_iload (pc' := 41) dX8_divide_39 rfl rfl ?_
  refine ev_lload (pc' := 43) dX8_divide_41 rfl rfl ?_
  refine ev_last (pc' := 44) (j := 1) (L' := (ma_up L 142 (ma_up (ma_up (L 142) 0 ((((L 142) 0) + 0) / w)) 1 ((((L 142) 1) + (((((L 142) 0) + 0) / w) * u)) / w)))) dX8_divide_43 rfl hs_142 rfl (Nat.le_of_ble_eq_true rfl) (Nat.le_of_ble_eq_true rfl) (ma_up_up _ _ _ _) ?_
  refine ev_iinc (pc' := 47) (v := 2) (lv' := [some (.ref 115), some (.long u), none, some (.long w), none, some (.long (((((L 142) 1) + (((((L 142) 0) + 0) / w) * u)) / w) * u)), none, some (.int 2), some (.long ((((L 142) 1) + (((((L 142) 0) + 0) / w) * u)) / w)), none]) dX8_divide_44 rfl rfl (by decide) (Nat.le_of_ble_eq_true rfl) rfl rfl ?_
  refine ev_goto (tgt := 6) dX8_divide_47 rfl ?_
  refine ev_iload (pc' := 8) dX8_divide_6 rfl rfl ?_
  refine ev_aload_n (pc' := 9) (i := 0) dX8_divide_8 rfl rfl rfl ?_
  refine ev_getI (pc' := 12) (v := 2) fo_X8_267 dX8_divide_9 rfl hs_115 rfl hd ?_
  refine ev_icmp_ge (tgt := 50) (pc' := 15) dX8_divide_12 rfl rfl (fun _ => ?_) (fun h => absurd (by decide) h)
  refine ev_aload_n (pc' := 51) (i := 0) dX8_divide_50 rfl rfl rfl ?_
  refine ev_dup (pc' := 52) dX8_divide_51 rfl rfl ?_
  refine ev_getI (pc' := 55) (v := 2) fo_X8_267 dX8_divide_52 rfl hs_115 rfl hd ?_
  refine ev_iconst (pc' := 56) (v := 1) dX8_divide_55 rfl ki_1 ?_
  refine ev_isub (pc' := 57) (v := 1) dX8_divide_56 rfl (by decide) ?_
  refine ev_putI (pc' := 60) (I' := (ma_up I 115 (ma_up (I 115) 36 1))) fo_X8_267 dX8_divide_57 rfl hs_115 rfl (fun r hr => by cases hr; rfl) ⟨rfl, rfl⟩ rfl ?_
  refine ev_vret dX8_divide_60 rfl ⟨Nat.le_refl _, Nat.le_refl _⟩ ?_
  exact k
def mDv30 (f : Nat → Int64) (u w : Int64) : Int64 := ((f 0) + 0) / w
def mDv31 (f : Nat → Int64) (u w : Int64) : Int64 := ((f 1) + ((((f 0) + 0) / w) * u)) / w
def mDv32 (f : Nat → Int64) (u w : Int64) : Int64 := ((f 2) + ((((f 1) + ((((f 0) + 0) / w) * u)) / w) * u)) / w
set_option maxRecDepth 4000 in
theorem t_X8_divide3 {g : ma_G} {Post : ma_P} {I : ma_I} {L : ma_L} (u : Int64) (w : Int64) (hd : I 115 36 = 3) (hw : ¬ w = 0) (k : Post none HS (ma_up I 115 (ma_up (I 115) 36 2)) (ma_up L 142 (ma_up (ma_up (ma_up (L 142) 0 (mDv30 (L 142) u w)) 1 (mDv31 (L 142) u w)) 2 (mDv32 (L 142) u w))) RF 146) : CT g yX8_divide cX8_divide 10 none rX8_divide [.ref 115, .long u, .long w] Post HS I L RF 146 := by
  refine ct_of (lv := [some (.ref 115), some (.long u), none, some (.long w), none, none, none, none, none, none]) (by decide) (Nat.le_of_ble_eq_true rfl) rfl ?_
  refine ev_lconst (pc' := 1) (v := 0) dX8_divide_0 rfl kl_0 ?_
  refine ev_lstore (pc' := 3) (lv' := [some (.ref 115), some (.long u), none, some (.long w), none, some (.long 0), none, none, none, none]) dX8_divide_1 rfl (Nat.le_of_ble_eq_true rfl) rfl rfl ?_
  refine ev_iconst (pc' := 4) (v := 0) dX8_divide_3 rfl ki_0 ?_
  refine ev_istore (pc' := 6) (lv' := [some (.ref 115), some (.long u), none, some (.long w), none, some (.long 0), none, some (.int 0), none, none]) dX8_divide_4 rfl (Nat.le_of_ble_eq_true rfl) rfl rfl ?_
  refine ev_iload (pc' := 8) dX8_divide_6 rfl rfl ?_
  refine ev_aload_n (pc' := 9) (i := 0) dX8_divide_8 rfl rfl rfl ?_
  refine ev_getI (pc' := 12) (v := 3) fo_X8_267 dX8_divide_9 rfl hs_115 rfl hd ?_
  refine ev_icmp_ge (tgt := 50) (pc' := 15) dX8_divide_12 rfl rfl (fun h => absurd h (by decide)) (fun _ => ?_)
  refine ev_aload_n (pc' := 16) (i := 0) dX8_divide_15 rfl rfl rfl ?_
  refine ev_getR (pc' := 19) fo_X8_94 dX8_divide_16 rfl hs_115 rfl rf_115_37 ?_
  refine ev_iload (pc' := 21) dX8_divide_19 rfl rfl ?_
  refine ev_lald (pc' := 22) (j := 0) (v := (L 142) 0) dX8_divide_21 rfl hs_142 rfl (Nat.le_of_ble_eq_true rfl) (Nat.le_of_ble_eq_true rfl) rfl ?_
  refine ev_lload (pc' := 24) dX8_divide_22 rfl rfl ?_
  refine ev_ladd (pc' := 25) (v := ((L 142) 0) + 0) dX8_divide_24 rfl rfl ?_
  refine ev_lload_n (pc' := 26) (i := 3) dX8_divide_25 rfl rfl rfl ?_
  refine ev_ldiv (pc' := 27) (v := (((L 142) 0) + 0) / w) dX8_divide_26 rfl hw rfl ?_
  refine ev_lstore (pc' := 29) (lv' := [some (.ref 115), some (.long u), none, some (.long w), none, some (.long 0), none, some (.int 0), some (.long ((((L 142) 0) + 0) / w)), none]) dX8_divide_27 rfl (Nat.le_of_ble_eq_true rfl) rfl rfl ?_
  refine ev_lload (pc' := 31) dX8_divide_29 rfl rfl ?_
  refine ev_lload_n (pc' := 32) (i := 1) dX8_divide_31 rfl rfl rfl ?_
  refine ev_lmul (pc' := 33) (v := ((((L 142) 0) + 0) / w) * u) dX8_divide_32 rfl rfl ?_
  refine ev_lstore (pc' := 35) (lv' := [some (.ref 115), some (.long u), none, some (.long w), none, some (.long (((((L 142) 0) + 0) / w) * u)), none, some (.int 0), some (.long ((((L 142) 0) + 0) / w)), none]) dX8_divide_33 rfl (Nat.le_of_ble_eq_true rfl) rfl rfl ?_
  refine ev_aload_n (pc' := 36) (i := 0) dX8_divide_35 rfl rfl rfl ?_
  refine ev_getR (pc' := 39) fo_X8_94 dX8_divide_36 rfl hs_115 rfl rf_115_37 ?_
  refine ev_iload (pc' := 41) dX8_divide_39 rfl rfl ?_
  refine ev_lload (pc' := 43) dX8_divide_41 rfl rfl ?_
  refine ev_last (pc' := 44) (j := 0) (L' := (ma_up L 142 (ma_up (L 142) 0 ((((L 142) 0) + 0) / w)))) dX8_divide_43 rfl hs_142 rfl (Nat.le_of_ble_eq_true rfl) (Nat.le_of_ble_eq_true rfl) rfl ?_
  refine ev_iinc (pc' := 47) (v := 1) (lv' := [some (.ref 115), some (.long u), none, some (.long w), none, some (.long (((((L 142) 0) + 0) / w) * u)), none, some (.int 1), some (.long ((((L 142) 0) + 0) / w)), none]) dX8_divide_44 rfl rfl (by decide) (Nat.le_of_ble_eq_true rfl) rfl rfl ?_
  refine ev_goto (tgt := 6) dX8_divide_47 rfl ?_
  refine ev_iload (pc' := 8) dX8_divide_6 rfl rfl ?_
  refine ev_aload_n (pc' := 9) (i := 0) dX8_divide_8 rfl rfl rfl ?_
  refine ev_getI (pc' := 12) (v := 3) fo_X8_267 dX8_divide_9 rfl hs_115 rfl hd ?_
  refine ev_icmp_ge (tgt := 50) (pc' := 15) dX8_divide_12 rfl rfl (fun h => absurd h (by decide)) (fun _ => ?_)
  refine ev_aload_n (pc' := 16) (i := 0) dX8_divide_15 rfl rfl rfl ?_
  refine ev_getR (pc' := 19) fo_X8_94 dX8_divide_16 rfl hs_115 rfl rf_115_37 ?_
  refine ev_iload (pc' := 21) dX8_divide_19 rfl rfl ?_
  refine ev_lald (pc' := 22) (j := 1) (v := (L 142) 1) dX8_divide_21 rfl hs_142 rfl (Nat.le_of_ble_eq_true rfl) (Nat.le_of_ble_eq_true rfl) rfl ?_
  refine ev_lload (pc' := 24) dX8_divide_22 rfl rfl ?_
  refine ev_ladd (pc' := 25) (v := ((L 142) 1) + (((((L 142) 0) + 0) / w) * u)) dX8_divide_24 rfl rfl ?_
  refine ev_lload_n (pc' := 26) (i := 3) dX8_divide_25 rfl rfl rfl ?_
  refine ev_ldiv (pc' := 27) (v := (((L 142) 1) + (((((L 142) 0) + 0) / w) * u)) / w) dX8_divide_26 rfl hw rfl ?_
  refine ev_lstore (pc' := 29) (lv' := [some (.ref 115), some (.long u), none, some (.long w), none, some (.long (((((L 142) 0) + 0) / w) * u)), none, some (.int 1), some (.long ((((L 142) 1) + (((((L 142) 0) + 0) / w) * u)) / w)), none]) dX8_divide_27 rfl (Nat.le_of_ble_eq_true rfl) rfl rfl ?_
  refine ev_lload (pc' := 31) dX8_divide_29 rfl rfl ?_
  refine ev_lload_n (pc' := 32) (i := 1) dX8_divide_31 rfl rfl rfl ?_
  refine ev_lmul (pc' := 33) (v := ((((L 142) 1) + (((((L 142) 0) + 0) / w) * u)) / w) * u) dX8_divide_32 rfl rfl ?_
  refine ev_lstore (pc' := 35) (lv' := [some (.ref 115), some (.long u), none, some (.long w), none, some (.long (((((L 142) 1) + (((((L 142) 0) + 0) / w) * u)) / w) * u)), none, some (.int 1), some (.long ((((L 142) 1) + (((((L 142) 0) + 0) / w) * u)) / w)), none]) dX8_divide_33 rfl (Nat.le_of_ble_eq_true rfl) rfl rfl ?_
  refine ev_aload_n (pc' := 36) (i := 0) dX8_divide_35 rfl rfl rfl ?_
  refine ev_getR (pc' := 39) fo_X8_94 dX8_divide_36 rfl hs_115 rfl rf_115_37 ?_
  refine ev_iload (pc' := 41) dX8_divide_39 rfl rfl ?_
  refine ev_lload (pc' := 43) dX8_divide_41 rfl rfl ?_
  refine ev_last (pc' := 44) (j := 1) (L' := (ma_up L 142 (ma_up (ma_up (L 142) 0 ((((L 142) 0) + 0) / w)) 1 ((((L 142) 1) + (((((L 142) 0) + 0) / w) * u)) / w)))) dX8_divide_43 rfl hs_142 rfl (Nat.le_of_ble_eq_true rfl) (Nat.le_of_ble_eq_true rfl) (ma_up_up _ _ _ _) ?_
  refine ev_iinc (pc' := 47) (v := 2) (lv' := [some (.ref 115), some (.long u), none, some (.long w), none, some (.long (((((L 142) 1) + (((((L 142) 0) + 0) / w) * u)) / w) * u)), none, some (.int 2), some (.long ((((L 142) 1) + (((((L 142) 0) + 0) / w) * u)) / w)), none]) dX8_divide_44 rfl rfl (by decide) (Nat.le_of_ble_eq_true rfl) rfl rfl ?_
  refine ev_goto (tgt := 6) dX8_divide_47 rfl ?_
  refine ev_iload (pc' := 8) dX8_divide_6 rfl rfl ?_
  refine ev_aload_n (pc' := 9) (i := 0) dX8_divide_8 rfl rfl rfl ?_
  refine ev_getI (pc' := 12) (v := 3) fo_X8_267 dX8_divide_9 rfl hs_115 rfl hd ?_
  refine ev_icmp_ge (tgt := 50) (pc' := 15) dX8_divide_12 rfl rfl (fun h => absurd h (by decide)) (fun _ => ?_)
  refine ev_aload_n (pc' := 16) (i := 0) dX8_divide_15 rfl rfl rfl ?_
  refine ev_getR (pc' := 19) fo_X8_94 dX8_divide_16 rfl hs_115 rfl rf_115_37 ?_
  refine ev_iload (pc' := 21) dX8_divide_19 rfl rfl ?_
  refine ev_lald (pc' := 22) (j := 2) (v := (L 142) 2) dX8_divide_21 rfl hs_142 rfl (Nat.le_of_ble_eq_true rfl) (Nat.le_of_ble_eq_true rfl) rfl ?_
  refine ev_lload (pc' := 24) dX8_divide_22 rfl rfl ?_
  refine ev_ladd (pc' := 25) (v := ((L 142) 2) + (((((L 142) 1) + (((((L 142) 0) + 0) / w) * u)) / w) * u)) dX8_divide_24 rfl rfl ?_
  refine ev_lload_n (pc' := 26) (i := 3) dX8_divide_25 rfl rfl rfl ?_
  refine ev_ldiv (pc' := 27) (v := (((L 142) 2) + (((((L 142) 1) + (((((L 142) 0) + 0) / w) * u)) / w) * u)) / w) dX8_divide_26 rfl hw rfl ?_
  refine ev_lstore (pc' := 29) (lv' := [some (.ref 115), some (.long u), none, some (.long w), none, some (.long (((((L 142) 1) + (((((L 142) 0) + 0) / w) * u)) / w) * u)), none, some (.int 2), some (.long ((((L 142) 2) + (((((L 142) 1) + (((((L 142) 0) + 0) / w) * u)) / w) * u)) / w)), none]) dX8_divide_27 rfl (Nat.le_of_ble_eq_true rfl) rfl rfl ?_
  refine ev_lload (pc' := 31) dX8_divide_29 rfl rfl ?_
  refine ev_lload_n (pc' := 32) (i := 1) dX8_divide_31 rfl rfl rfl ?_
  refine ev_lmul (pc' := 33) (v := ((((L 142) 2) + (((((L 142) 1) + (((((L 142) 0) + 0) / w) * u)) / w) * u)) / w) * u) dX8_divide_32 rfl rfl ?_
  refine ev_lstore (pc' := 35) (lv' := [some (.ref 115), some (.long u), none, some (.long w), none, some (.long (((((L 142) 2) + (((((L 142) 1) + (((((L 142) 0) + 0) / w) * u)) / w) * u)) / w) * u)), none, some (.int 2), some (.long ((((L 142) 2) + (((((L 142) 1) + (((((L 142) 0) + 0) / w) * u)) / w) * u)) / w)), none]) dX8_divide_33 rfl (Nat.le_of_ble_eq_true rfl) rfl rfl ?_
  refine ev_aload_n (pc' := 36) (i := 0) dX8_divide_35 rfl rfl rfl ?_
  refine ev_getR (pc' := 39) fo_X8_94 dX8_divide_36 rfl hs_115 rfl rf_115_37 ?_
  refine ev_iload (pc' := 41) dX8_divide_39 rfl rfl ?_
  refine ev_lload (pc' := 43) dX8_divide_41 rfl rfl ?_
  refine ev_last (pc' := 44) (j := 2) (L' := (ma_up L 142 (ma_up (ma_up (ma_up (L 142) 0 ((((L 142) 0) + 0) / w)) 1 ((((L 142) 1) + (((((L 142) 0) + 0) / w) * u)) / w)) 2 ((((L 142) 2) + (((((L 142) 1) + (((((L 142) 0) + 0) / w) * u)) / w) * u)) / w)))) dX8_divide_43 rfl hs_142 rfl (Nat.le_of_ble_eq_true rfl) (Nat.le_of_ble_eq_true rfl) (ma_up_up _ _ _ _) ?_
  refine ev_iinc (pc' := 47) (v := 3) (lv' := [some (.ref 115), some (.long u), none, some (.long w), none, some (.long (((((L 142) 2) + (((((L 142) 1) + (((((L 142) 0) + 0) / w) * u)) / w) * u)) / w) * u)), none, some (.int 3), some (.long ((((L 142) 2) + (((((L 142) 1) + (((((L 142) 0) + 0) / w) * u)) / w) * u)) / w)), none]) dX8_divide_44 rfl rfl (by decide) (Nat.le_of_ble_eq_true rfl) rfl rfl ?_
  refine ev_goto (tgt := 6) dX8_divide_47 rfl ?_
  refine ev_iload (pc' := 8) dX8_divide_6 rfl rfl ?_
  refine ev_aload_n (pc' := 9) (i := 0) dX8_divide_8 rfl rfl rfl ?_
  refine ev_getI (pc' := 12) (v := 3) fo_X8_267 dX8_divide_9 rfl hs_115 rfl hd ?_
  refine ev_icmp_ge (tgt := 50) (pc' := 15) dX8_divide_12 rfl rfl (fun _ => ?_) (fun h => absurd (by decide) h)
  refine ev_aload_n (pc' := 51) (i := 0) dX8_divide_50 rfl rfl rfl ?_
  refine ev_dup (pc' := 52) dX8_divide_51 rfl rfl ?_
  refine ev_getI (pc' := 55) (v := 3) fo_X8_267 dX8_divide_52 rfl hs_115 rfl hd ?_
  refine ev_iconst (pc' := 56) (v := 1) dX8_divide_55 rfl ki_1 ?_
  refine ev_isub (pc' := 57) (v := 2) dX8_divide_56 rfl (by decide) ?_
  refine ev_putI (pc' := 60) (I' := (ma_up I 115 (ma_up (I 115) 36 2))) fo_X8_267 dX8_divide_57 rfl hs_115 rfl (fun r hr => by cases hr; rfl) ⟨rfl, rfl⟩ rfl ?_
  refine ev_vret dX8_divide_60 rfl ⟨Nat.le_refl _, Nat.le_refl _⟩ ?_
  exact k
def mDv40 (f : Nat → Int64) (u w : Int64) : Int64 := ((f 0) + 0) / w
def mDv41 (f : Nat → Int64) (u w : Int64) : Int64 := ((f 1) + ((((f 0) + 0) / w) * u)) / w
def mDv42 (f : Nat → Int64) (u w : Int64) : Int64 := ((f 2) + ((((f 1) + ((((f 0) + 0) / w) * u)) / w) * u)) / w
def mDv43 (f : Nat → Int64) (u w : Int64) : Int64 := ((f 3) + ((((f 2) + ((((f 1) + ((((f 0) + 0) / w) * u)) / w) * u)) / w) * u)) / w
set_option maxRecDepth 4000 in
theorem t_X8_divide4 {g : ma_G} {Post : ma_P} {I : ma_I} {L : ma_L} (u : Int64) (w : Int64) (hd : I 115 36 = 4) (hw : ¬ w = 0) (k : Post none HS (ma_up I 115 (ma_up (I 115) 36 3)) (ma_up L 142 (ma_up (ma_up (ma_up (ma_up (L 142) 0 (mDv40 (L 142) u w)) 1 (mDv41 (L 142) u w)) 2 (mDv42 (L 142) u w)) 3 (mDv43 (L 142) u w))) RF 146) : CT g yX8_divide cX8_divide 10 none rX8_divide [.ref 115, .long u, .long w] Post HS I L RF 146 := by
  refine ct_of (lv := [some (.ref 115), some (.long u), none, some (.long w), none, none, none, none, none, none]) (by decide) (Nat.le_of_ble_eq_true rfl) rfl ?_
  refine ev_lconst (pc' := 1) (v := 0) dX8_divide_0 rfl kl_0 ?_
  refine ev_lstore (pc' := 3) (lv' := [some (.ref 115), some (.long u), none, some (.long w), none, some (.long 0), none, none, none, none]) dX8_divide_1 rfl (Nat.le_of_ble_eq_true rfl) rfl rfl ?_
  refine ev_iconst (pc' := 4) (v := 0) dX8_divide_3 rfl ki_0 ?_
  refine ev_istore (pc' := 6) (lv' := [some (.ref 115), some (.long u), none, some (.long w), none, some (.long 0), none, some (.int 0), none, none]) dX8_divide_4 rfl (Nat.le_of_ble_eq_true rfl) rfl rfl ?_
  refine ev_iload (pc' := 8) dX8_divide_6 rfl rfl ?_
  refine ev_aload_n (pc' := 9) (i := 0) dX8_divide_8 rfl rfl rfl ?_
  refine ev_getI (pc' := 12) (v := 4) fo_X8_267 dX8_divide_9 rfl hs_115 rfl hd ?_
  refine ev_icmp_ge (tgt := 50) (pc' := 15) dX8_divide_12 rfl rfl (fun h => absurd h (by decide)) (fun _ => ?_)
  refine ev_aload_n (pc' := 16) (i := 0) dX8_divide_15 rfl rfl rfl ?_
  refine ev_getR (pc' := 19) fo_X8_94 dX8_divide_16 rfl hs_115 rfl rf_115_37 ?_
  refine ev_iload (pc' := 21) dX8_divide_19 rfl rfl ?_
  refine ev_lald (pc' := 22) (j := 0) (v := (L 142) 0) dX8_divide_21 rfl hs_142 rfl (Nat.le_of_ble_eq_true rfl) (Nat.le_of_ble_eq_true rfl) rfl ?_
  refine ev_lload (pc' := 24) dX8_divide_22 rfl rfl ?_
  refine ev_ladd (pc' := 25) (v := ((L 142) 0) + 0) dX8_divide_24 rfl rfl ?_
  refine ev_lload_n (pc' := 26) (i := 3) dX8_divide_25 rfl rfl rfl ?_
  refine ev_ldiv (pc' := 27) (v := (((L 142) 0) + 0) / w) dX8_divide_26 rfl hw rfl ?_
  refine ev_lstore (pc' := 29) (lv' := [some (.ref 115), some (.long u), none, some (.long w), none, some (.long 0), none, some (.int 0), some (.long ((((L 142) 0) + 0) / w)), none]) dX8_divide_27 rfl (Nat.le_of_ble_eq_true rfl) rfl rfl ?_
  refine ev_lload (pc' := 31) dX8_divide_29 rfl rfl ?_
  refine ev_lload_n (pc' := 32) (i := 1) dX8_divide_31 rfl rfl rfl ?_
  refine ev_lmul (pc' := 33) (v := ((((L 142) 0) + 0) / w) * u) dX8_divide_32 rfl rfl ?_
  refine ev_lstore (pc' := 35) (lv' := [some (.ref 115), some (.long u), none, some (.long w), none, some (.long (((((L 142) 0) + 0) / w) * u)), none, some (.int 0), some (.long ((((L 142) 0) + 0) / w)), none]) dX8_divide_33 rfl (Nat.le_of_ble_eq_true rfl) rfl rfl ?_
  refine ev_aload_n (pc' := 36) (i := 0) dX8_divide_35 rfl rfl rfl ?_
  refine ev_getR (pc' := 39) fo_X8_94 dX8_divide_36 rfl hs_115 rfl rf_115_37 ?_
  refine ev_iload (pc' := 41) dX8_divide_39 rfl rfl ?_
  refine ev_lload (pc' := 43) dX8_divide_41 rfl rfl ?_
  refine ev_last (pc' := 44) (j := 0) (L' := (ma_up L 142 (ma_up (L 142) 0 ((((L 142) 0) + 0) / w)))) dX8_divide_43 rfl hs_142 rfl (Nat.le_of_ble_eq_true rfl) (Nat.le_of_ble_eq_true rfl) rfl ?_
  refine ev_iinc (pc' := 47) (v := 1) (lv' := [some (.ref 115), some (.long u), none, some (.long w), none, some (.long (((((L 142) 0) + 0) / w) * u)), none, some (.int 1), some (.long ((((L 142) 0) + 0) / w)), none]) dX8_divide_44 rfl rfl (by decide) (Nat.le_of_ble_eq_true rfl) rfl rfl ?_
  refine ev_goto (tgt := 6) dX8_divide_47 rfl ?_
  refine ev_iload (pc' := 8) dX8_divide_6 rfl rfl ?_
  refine ev_aload_n (pc' := 9) (i := 0) dX8_divide_8 rfl rfl rfl ?_
  refine ev_getI (pc' := 12) (v := 4) fo_X8_267 dX8_divide_9 rfl hs_115 rfl hd ?_
  refine ev_icmp_ge (tgt := 50) (pc' := 15) dX8_divide_12 rfl rfl (fun h => absurd h (by decide)) (fun _ => ?_)
  refine ev_aload_n (pc' := 16) (i := 0) dX8_divide_15 rfl rfl rfl ?_
  refine ev_getR (pc' := 19) fo_X8_94 dX8_divide_16 rfl hs_115 rfl rf_115_37 ?_
  refine ev_iload (pc' := 21) dX8_divide_19 rfl rfl ?_
  refine ev_lald (pc' := 22) (j := 1) (v := (L 142) 1) dX8_divide_21 rfl hs_142 rfl (Nat.le_of_ble_eq_true rfl) (Nat.le_of_ble_eq_true rfl) rfl ?_
  refine ev_lload (pc' := 24) dX8_divide_22 rfl rfl ?_
  refine ev_ladd (pc' := 25) (v := ((L 142) 1) + (((((L 142) 0) + 0) / w) * u)) dX8_divide_24 rfl rfl ?_
  refine ev_lload_n (pc' := 26) (i := 3) dX8_divide_25 rfl rfl rfl ?_
  refine ev_ldiv (pc' := 27) (v := (((L 142) 1) + (((((L 142) 0) + 0) / w) * u)) / w) dX8_divide_26 rfl hw rfl ?_
  refine ev_lstore (pc' := 29) (lv' := [some (.ref 115), some (.long u), none, some (.long w), none, some (.long (((((L 142) 0) + 0) / w) * u)), none, some (.int 1), some (.long ((((L 142) 1) + (((((L 142) 0) + 0) / w) * u)) / w)), none]) dX8_divide_27 rfl (Nat.le_of_ble_eq_true rfl) rfl rfl ?_
  refine ev_lload (pc' := 31) dX8_divide_29 rfl rfl ?_
  refine ev_lload_n (pc' := 32) (i := 1) dX8_divide_31 rfl rfl rfl ?_
  refine ev_lmul (pc' := 33) (v := ((((L 142) 1) + (((((L 142) 0) + 0) / w) * u)) / w) * u) dX8_divide_32 rfl rfl ?_
  refine ev_lstore (pc' := 35) (lv' := [some (.ref 115), some (.long u), none, some (.long w), none, some (.long (((((L 142) 1) + (((((L 142) 0) + 0) / w) * u)) / w) * u)), none, some (.int 1), some (.long ((((L 142) 1) + (((((L 142) 0) + 0) / w) * u)) / w)), none]) dX8_divide_33 rfl (Nat.le_of_ble_eq_true rfl) rfl rfl ?_
  refine ev_aload_n (pc' := 36) (i := 0) dX8_divide_35 rfl rfl rfl ?_
  refine ev_getR (pc' := 39) fo_X8_94 dX8_divide_36 rfl hs_115 rfl rf_115_37 ?_
  refine ev_iload (pc' := 41) dX8_divide_39 rfl rfl ?_
  refine ev_lload (pc' := 43) dX8_divide_41 rfl rfl ?_
  refine ev_last (pc' := 44) (j := 1) (L' := (ma_up L 142 (ma_up (ma_up (L 142) 0 ((((L 142) 0) + 0) / w)) 1 ((((L 142) 1) + (((((L 142) 0) + 0) / w) * u)) / w)))) dX8_divide_43 rfl hs_142 rfl (Nat.le_of_ble_eq_true rfl) (Nat.le_of_ble_eq_true rfl) (ma_up_up _ _ _ _) ?_
  refine ev_iinc (pc' := 47) (v := 2) (lv' := [some (.ref 115), some (.long u), none, some (.long w), none, some (.long (((((L 142) 1) + (((((L 142) 0) + 0) / w) * u)) / w) * u)), none, some (.int 2), some (.long ((((L 142) 1) + (((((L 142) 0) + 0) / w) * u)) / w)), none]) dX8_divide_44 rfl rfl (by decide) (Nat.le_of_ble_eq_true rfl) rfl rfl ?_
  refine ev_goto (tgt := 6) dX8_divide_47 rfl ?_
  refine ev_iload (pc' := 8) dX8_divide_6 rfl rfl ?_
  refine ev_aload_n (pc' := 9) (i := 0) dX8_divide_8 rfl rfl rfl ?_
  refine ev_getI (pc' := 12) (v := 4) fo_X8_267 dX8_divide_9 rfl hs_115 rfl hd ?_
  refine ev_icmp_ge (tgt := 50) (pc' := 15) dX8_divide_12 rfl rfl (fun h => absurd h (by decide)) (fun _ => ?_)
  refine ev_aload_n (pc' := 16) (i := 0) dX8_divide_15 rfl rfl rfl ?_
  refine ev_getR (pc' := 19) fo_X8_94 dX8_divide_16 rfl hs_115 rfl rf_115_37 ?_
  refine ev_iload (pc' := 21) dX8_divide_19 rfl rfl ?_
  refine ev_lald (pc' := 22) (j := 2) (v := (L 142) 2) dX8_divide_21 rfl hs_142 rfl (Nat.le_of_ble_eq_true rfl) (Nat.le_of_ble_eq_true rfl) rfl ?_
  refine ev_lload (pc' := 24) dX8_divide_22 rfl rfl ?_
  refine ev_ladd (pc' := 25) (v := ((L 142) 2) + (((((L 142) 1) + (((((L 142) 0) + 0) / w) * u)) / w) * u)) dX8_divide_24 rfl rfl ?_
  refine ev_lload_n (pc' := 26) (i := 3) dX8_divide_25 rfl rfl rfl ?_
  refine ev_ldiv (pc' := 27) (v := (((L 142) 2) + (((((L 142) 1) + (((((L 142) 0) + 0) / w) * u)) / w) * u)) / w) dX8_divide_26 rfl hw rfl ?_
  refine ev_lstore (pc' := 29) (lv' := [some (.ref 115), some (.long u), none, some (.long w), none, some (.long (((((L 142) 1) + (((((L 142) 0) + 0) / w) * u)) / w) * u)), none, some (.int 2), some (.long ((((L 142) 2) + (((((L 142) 1) + (((((L 142) 0) + 0) / w) * u)) / w) * u)) / w)), none]) dX8_divide_27 rfl (Nat.le_of_ble_eq_true rfl) rfl rfl ?_
  refine ev_lload (pc' := 31) dX8_divide_29 rfl rfl ?_
  refine ev_lload_n (pc' := 32) (i := 1) dX8_divide_31 rfl rfl rfl ?_
  refine ev_lmul (pc' := 33) (v := ((((L 142) 2) + (((((L 142) 1) + (((((L 142) 0) + 0) / w) * u)) / w) * u)) / w) * u) dX8_divide_32 rfl rfl ?_
  refine ev_lstore (pc' := 35) (lv' := [some (.ref 115), some (.long u), none, some (.long w), none, some (.long (((((L 142) 2) + (((((L 142) 1) + (((((L 142) 0) + 0) / w) * u)) / w) * u)) / w) * u)), none, some (.int 2), some (.long ((((L 142) 2) + (((((L 142) 1) + (((((L 142) 0) + 0) / w) * u)) / w) * u)) / w)), none]) dX8_divide_33 rfl (Nat.le_of_ble_eq_true rfl) rfl rfl ?_
  refine ev_aload_n (pc' := 36) (i := 0) dX8_divide_35 rfl rfl rfl ?_
  refine ev_getR (pc' := 39) fo_X8_94 dX8_divide_36 rfl hs_115 rfl rf_115_37 ?_
  refine ev_iload (pc' := 41) dX8_divide_39 rfl rfl ?_
  refine ev_lload (pc' := 43) dX8_divide_41 rfl rfl ?_
  refine ev_last (pc' := 44) (j := 2) (L' := (ma_up L 142 (ma_up (ma_up (ma_up (L 142) 0 ((((L 142) 0) + 0) / w)) 1 ((((L 142) 1) + (((((L 142) 0) + 0) / w) * u)) / w)) 2 ((((L 142) 2) + (((((L 142) 1) + (((((L 142) 0) + 0) / w) * u)) / w) * u)) / w)))) dX8_divide_43 rfl hs_142 rfl (Nat.le_of_ble_eq_true rfl) (Nat.le_of_ble_eq_true rfl) (ma_up_up _ _ _ _) ?_
  refine ev_iinc (pc' := 47) (v := 3) (lv' := [some (.ref 115), some (.long u), none, some (.long w), none, some (.long (((((L 142) 2) + (((((L 142) 1) + (((((L 142) 0) + 0) / w) * u)) / w) * u)) / w) * u)), none, some (.int 3), some (.long ((((L 142) 2) + (((((L 142) 1) + (((((L 142) 0) + 0) / w) * u)) / w) * u)) / w)), none]) dX8_divide_44 rfl rfl (by decide) (Nat.le_of_ble_eq_true rfl) rfl rfl ?_
  refine ev_goto (tgt := 6) dX8_divide_47 rfl ?_
  refine ev_iload (pc' := 8) dX8_divide_6 rfl rfl ?_
  refine ev_aload_n (pc' := 9) (i := 0) dX8_divide_8 rfl rfl rfl ?_
  refine ev_getI (pc' := 12) (v := 4) fo_X8_267 dX8_divide_9 rfl hs_115 rfl hd ?_
  refine ev_icmp_ge (tgt := 50) (pc' := 15) dX8_divide_12 rfl rfl (fun h => absurd h (by decide)) (fun _ => ?_)
  refine ev_aload_n (pc' := 16) (i := 0) dX8_divide_15 rfl rfl rfl ?_
  refine ev_getR (pc' := 19) fo_X8_94 dX8_divide_16 rfl hs_115 rfl rf_115_37 ?_
  refine ev_iload (pc' := 21) dX8_divide_19 rfl rfl ?_
  refine ev_lald (pc' := 22) (j := 3) (v := (L 142) 3) dX8_divide_21 rfl hs_142 rfl (Nat.le_of_ble_eq_true rfl) (Nat.le_of_ble_eq_true rfl) rfl ?_
  refine ev_lload (pc' := 24) dX8_divide_22 rfl rfl ?_
  refine ev_ladd (pc' := 25) (v := ((L 142) 3) + (((((L 142) 2) + (((((L 142) 1) + (((((L 142) 0) + 0) / w) * u)) / w) * u)) / w) * u)) dX8_divide_24 rfl rfl ?_
  refine ev_lload_n (pc' := 26) (i := 3) dX8_divide_25 rfl rfl rfl ?_
  refine ev_ldiv (pc' := 27) (v := (((L 142) 3) + (((((L 142) 2) + (((((L 142) 1) + (((((L 142) 0) + 0) / w) * u)) / w) * u)) / w) * u)) / w) dX8_divide_26 rfl hw rfl ?_
  refine ev_lstore (pc' := 29) (lv' := [some (.ref 115), some (.long u), none, some (.long w), none, some (.long (((((L 142) 2) + (((((L 142) 1) + (((((L 142) 0) + 0) / w) * u)) / w) * u)) / w) * u)), none, some (.int 3), some (.long ((((L 142) 3) + (((((L 142) 2) + (((((L 142) 1) + (((((L 142) 0) + 0) / w) * u)) / w) * u)) / w) * u)) / w)), none]) dX8_divide_27 rfl (Nat.le_of_ble_eq_true rfl) rfl rfl ?_
  refine ev_lload (pc' := 31) dX8_divide_29 rfl rfl ?_
  refine ev_lload_n (pc' := 32) (i := 1) dX8_divide_31 rfl rfl rfl ?_
  refine ev_lmul (pc' := 33) (v := ((((L 142) 3) + (((((L 142) 2) + (((((L 142) 1) + (((((L 142) 0) + 0) / w) * u)) / w) * u)) / w) * u)) / w) * u) dX8_divide_32 rfl rfl ?_
  refine ev_lstore (pc' := 35) (lv' := [some (.ref 115), some (.long u), none, some (.long w), none, some (.long (((((L 142) 3) + (((((L 142) 2) + (((((L 142) 1) + (((((L 142) 0) + 0) / w) * u)) / w) * u)) / w) * u)) / w) * u)), none, some (.int 3), some (.long ((((L 142) 3) + (((((L 142) 2) + (((((L 142) 1) + (((((L 142) 0) + 0) / w) * u)) / w) * u)) / w) * u)) / w)), none]) dX8_divide_33 rfl (Nat.le_of_ble_eq_true rfl) rfl rfl ?_
  refine ev_aload_n (pc' := 36) (i := 0) dX8_divide_35 rfl rfl rfl ?_
  refine ev_getR (pc' := 39) fo_X8_94 dX8_divide_36 rfl hs_115 rfl rf_115_37 ?_
  refine ev_iload (pc' := 41) dX8_divide_39 rfl rfl ?_
  refine ev_lload (pc' := 43) dX8_divide_41 rfl rfl ?_
  refine ev_last (pc' := 44) (j := 3) (L' := (ma_up L 142 (ma_up (ma_up (ma_up (ma_up (L 142) 0 ((((L 142) 0) + 0) / w)) 1 ((((L 142) 1) + (((((L 142) 0) + 0) / w) * u)) / w)) 2 ((((L 142) 2) + (((((L 142) 1) + (((((L 142) 0) + 0) / w) * u)) / w) * u)) / w)) 3 ((((L 142) 3) + (((((L 142) 2) + (((((L 142) 1) + (((((L 142) 0) + 0) / w) * u)) / w) * u)) / w) * u)) / w)))) dX8_divide_43 rfl hs_142 rfl (Nat.le_of_ble_eq_true rfl) (Nat.le_of_ble_eq_true rfl) (ma_up_up _ _ _ _) ?_
  refine ev_iinc (pc' := 47) (v := 4) (lv' := [some (.ref 115), some (.long u), none, some (.long w), none, some (.long (((((L 142) 3) + (((((L 142) 2) + (((((L 142) 1) + (((((L 142) 0) + 0) / w) * u)) / w) * u)) / w) * u)) / w) * u)), none, some (.int 4), some (.long ((((L 142) 3) + (((((L 142) 2) + (((((L 142) 1) + (((((L 142) 0) + 0) / w) * u)) / w) * u)) / w) * u)) / w)), none]) dX8_divide_44 rfl rfl (by decide) (Nat.le_of_ble_eq_true rfl) rfl rfl ?_
  refine ev_goto (tgt := 6) dX8_divide_47 rfl ?_
  refine ev_iload (pc' := 8) dX8_divide_6 rfl rfl ?_
  refine ev_aload_n (pc' := 9) (i := 0) dX8_divide_8 rfl rfl rfl ?_
  refine ev_getI (pc' := 12) (v := 4) fo_X8_267 dX8_divide_9 rfl hs_115 rfl hd ?_
  refine ev_icmp_ge (tgt := 50) (pc' := 15) dX8_divide_12 rfl rfl (fun _ => ?_) (fun h => absurd (by decide) h)
  refine ev_aload_n (pc' := 51) (i := 0) dX8_divide_50 rfl rfl rfl ?_
  refine ev_dup (pc' := 52) dX8_divide_51 rfl rfl ?_
  refine ev_getI (pc' := 55) (v := 4) fo_X8_267 dX8_divide_52 rfl hs_115 rfl hd ?_
  refine ev_iconst (pc' := 56) (v := 1) dX8_divide_55 rfl ki_1 ?_
  refine ev_isub (pc' := 57) (v := 3) dX8_divide_56 rfl (by decide) ?_
  refine ev_putI (pc' := 60) (I' := (ma_up I 115 (ma_up (I 115) 36 3))) fo_X8_267 dX8_divide_57 rfl hs_115 rfl (fun r hr => by cases hr; rfl) ⟨rfl, rfl⟩ rfl ?_
  refine ev_vret dX8_divide_60 rfl ⟨Nat.le_refl _, Nat.le_refl _⟩ ?_
  exact k
theorem dvrow1 (f v : Nat → Int64) : (ma_up f 0 (v 0)) = (fun k => if k < 1 then v k else f k) := by
  funext q
  match q with
  | 0 => simp [ma_up]
  | q + 1 =>
    rw [if_neg (by omega)]
    rw [ma_up_n _ _ (show q + 1 ≠ 0 by omega)]
theorem dvrow2 (f v : Nat → Int64) : (ma_up (ma_up f 0 (v 0)) 1 (v 1)) = (fun k => if k < 2 then v k else f k) := by
  funext q
  match q with
  | 0 => simp [ma_up]
  | 1 => simp [ma_up]
  | q + 2 =>
    rw [if_neg (by omega)]
    rw [ma_up_n _ _ (show q + 2 ≠ 1 by omega), ma_up_n _ _ (show q + 2 ≠ 0 by omega)]
theorem dvrow3 (f v : Nat → Int64) : (ma_up (ma_up (ma_up f 0 (v 0)) 1 (v 1)) 2 (v 2)) = (fun k => if k < 3 then v k else f k) := by
  funext q
  match q with
  | 0 => simp [ma_up]
  | 1 => simp [ma_up]
  | 2 => simp [ma_up]
  | q + 3 =>
    rw [if_neg (by omega)]
    rw [ma_up_n _ _ (show q + 3 ≠ 2 by omega), ma_up_n _ _ (show q + 3 ≠ 1 by omega), ma_up_n _ _ (show q + 3 ≠ 0 by omega)]
theorem dvrow4 (f v : Nat → Int64) : (ma_up (ma_up (ma_up (ma_up f 0 (v 0)) 1 (v 1)) 2 (v 2)) 3 (v 3)) = (fun k => if k < 4 then v k else f k) := by
  funext q
  match q with
  | 0 => simp [ma_up]
  | 1 => simp [ma_up]
  | 2 => simp [ma_up]
  | 3 => simp [ma_up]
  | q + 4 =>
    rw [if_neg (by omega)]
    rw [ma_up_n _ _ (show q + 4 ≠ 3 by omega), ma_up_n _ _ (show q + 4 ≠ 2 by omega), ma_up_n _ _ (show q + 4 ≠ 1 by omega), ma_up_n _ _ (show q + 4 ≠ 0 by omega)]
def mDq (f : Nat → Int64) (u w : Int64) : Nat → Int64
  | 0 => (f 0 + 0) / w
  | k + 1 => (f (k + 1) + mDq f u w k * u) / w
theorem u_X8_divide {g : ma_G} {Post : ma_P} {I : ma_I} {L : ma_L} (u w : Int64) (m : Nat) (h0 : 0 < m) (hm : m < 5) (hd : I 115 36 = nI m) (hw : ¬ w = 0) (k : Post none HS (ma_up I 115 (ma_up (I 115) 36 (nI (m - 1)))) (ma_up L 142 (fun j => if j < m then mDq (L 142) u w j else L 142 j)) RF 146) : CT g yX8_divide cX8_divide 10 none rX8_divide [.ref 115, .long u, .long w] Post HS I L RF 146 := by
  match m, h0, hm with
  | 1, _, _ =>
    rw [← dvrow1 (L 142) (mDq (L 142) u w)] at k
    exact t_X8_divide1 u w hd hw k
  | 2, _, _ =>
    rw [← dvrow2 (L 142) (mDq (L 142) u w)] at k
    exact t_X8_divide2 u w hd hw k
  | 3, _, _ =>
    rw [← dvrow3 (L 142) (mDq (L 142) u w)] at k
    exact t_X8_divide3 u w hd hw k
  | 4, _, _ =>
    rw [← dvrow4 (L 142) (mDq (L 142) u w)] at k
    exact t_X8_divide4 u w hd hw k
