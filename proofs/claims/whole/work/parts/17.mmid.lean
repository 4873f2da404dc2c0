theorem lN_toI {n : Nat} (h : n < 9223372036854775808) : (lN n).toInt = (n : Int) := pk_lT h
theorem mAb_nat {a : Int64} (h : a.toInt ≠ -9223372036854775808) : mAb a = lN a.toInt.natAbs := by
  have hr := nb_rngL a
  apply nb_eqL.mpr
  rw [lN_toI (by omega)]
  unfold mAb
  by_cases h0 : 0 ≤ a
  · rw [if_pos h0]
    rw [nb_leL, nb_0L] at h0
    omega
  · rw [if_neg h0]
    rw [nb_leL, nb_0L] at h0
    rw [Int64.toInt_neg, nb_bmodL (by omega) (by omega)]
    omega
theorem gcd_st (X Y : Nat) : Nat.gcd Y (X % Y) = Nat.gcd X Y := by
  rw [Nat.gcd_comm Y (X % Y), ← Nat.gcd_rec, Nat.gcd_comm]
set_option maxRecDepth 4000 in
theorem t_X8_divisor {g : ma_G} {Post : ma_P} {I : ma_I} {L : ma_L}  (a : Int64) (b : Int64) (ha : a.toInt ≠ -9223372036854775808) (hb : b.toInt ≠ -9223372036854775808) (k : Post (some (.long (lN (Nat.gcd a.toInt.natAbs b.toInt.natAbs)))) HS I L RF 146) : CT g yX8_divisor cX8_divisor 10 (some .long) rX8_divisor [.long a, .long b] Post HS I L RF 146 := by
  refine ct_of (lv := [some (.long a), none, some (.long b), none, none, none, none, none, none, none]) (by decide) (Nat.le_of_ble_eq_true rfl) rfl ?_
  refine ev_lload_n (pc' := 1) (i := 0) dX8_divisor_0 rfl rfl rfl ?_
  refine ev_callS (pc' := 4) (rm' := rX8_size) (av := [.long a]) (rest := []) co_X8_122 cs_X8_size dX8_divisor_1 rfl rfl rfl (Nat.le_of_ble_eq_true rfl) ⟨(Nat.le_of_ble_eq_true rfl), (Nat.le_of_ble_eq_true rfl)⟩ ⟨(Nat.le_of_ble_eq_true rfl), (Nat.le_of_ble_eq_true rfl)⟩ ?_
  refine t_X8_size a  ?_
  refine ev_lstore (pc' := 6) (lv' := [some (.long a), none, some (.long b), none, some (.long (mAb a)), none, none, none, none, none]) dX8_divisor_4 rfl (Nat.le_of_ble_eq_true rfl) rfl rfl ?_
  refine ev_lload_n (pc' := 7) (i := 2) dX8_divisor_6 rfl rfl rfl ?_
  refine ev_callS (pc' := 10) (rm' := rX8_size) (av := [.long b]) (rest := []) co_X8_122 cs_X8_size dX8_divisor_7 rfl rfl rfl (Nat.le_of_ble_eq_true rfl) ⟨(Nat.le_of_ble_eq_true rfl), (Nat.le_of_ble_eq_true rfl)⟩ ⟨(Nat.le_of_ble_eq_true rfl), (Nat.le_of_ble_eq_true rfl)⟩ ?_
  refine t_X8_size b  ?_
  refine ev_lstore (pc' := 12) (lv' := [some (.long a), none, some (.long b), none, some (.long (mAb a)), none, some (.long (mAb b)), none, none, none]) dX8_divisor_10 rfl (Nat.le_of_ble_eq_true rfl) rfl rfl ?_
  suffices lp : ∀ (Y X : Nat), X < 9223372036854775808 → Y < 9223372036854775808 → Nat.gcd X Y = Nat.gcd a.toInt.natAbs b.toInt.natAbs → EV g yX8_divisor cX8_divisor 10 (some .long) rX8_divisor (ma_ZM g rX8_divisor Post) 12 [some (.long a), none, some (.long b), none, some (.long (lN X)), none, some (.long (lN Y)), none, none, none] [] HS I L RF 146 0 0 by
    have ra := nb_rngL a
    have rb := nb_rngL b
    rw [mAb_nat ha, mAb_nat hb]
    exact lp _ _ (by omega) (by omega) rfl
  intro Y
  induction Y using Nat.strongRecOn with
  | ind Y ih =>
    intro X hX hY hg
    by_cases h0 : Y = 0
    · subst h0
      refine ev_lload (pc' := 14) dX8_divisor_12 rfl rfl ?_
      refine ev_lconst (pc' := 15) (v := 0) dX8_divisor_14 rfl kl_0 ?_
      refine ev_lc_eq (p1 := 16) (tgt := 37) (pc' := 19) dX8_divisor_15 rfl dX8_divisor_16 rfl rfl (fun _ => ?_) (fun h => absurd rfl h)
      refine ev_lload (pc' := 39) dX8_divisor_37 rfl rfl ?_
      refine ev_lret dX8_divisor_39 rfl ⟨Nat.le_refl _, Nat.le_refl _⟩ ?_
      rw [Nat.gcd_zero_right] at hg
      rw [← hg] at k
      exact k
    · have hn : ¬ lN Y = 0 := fun q => h0 ((pk_lEQ hY (by omega)).mp (q.trans (by decide : (0 : Int64) = lN 0)))
      refine ev_lload (pc' := 14) dX8_divisor_12 rfl rfl ?_
      refine ev_lconst (pc' := 15) (v := 0) dX8_divisor_14 rfl kl_0 ?_
      refine ev_lc_eq (p1 := 16) (tgt := 37) (pc' := 19) dX8_divisor_15 rfl dX8_divisor_16 rfl rfl (fun h => absurd h hn) (fun _ => ?_)
      refine ev_lload (pc' := 21) dX8_divisor_19 rfl rfl ?_
      refine ev_lload (pc' := 23) dX8_divisor_21 rfl rfl ?_
      refine ev_lrem (pc' := 24) (v := lN (X % Y)) dX8_divisor_23 rfl hn (pk_lRem (by omega) (by omega) (by omega)) ?_
      refine ev_lstore (pc' := 26) (lv' := [some (.long a), none, some (.long b), none, some (.long (lN X)), none, some (.long (lN Y)), none, some (.long (lN (X % Y))), none]) dX8_divisor_24 rfl (Nat.le_of_ble_eq_true rfl) rfl rfl ?_
      refine ev_lload (pc' := 28) dX8_divisor_26 rfl rfl ?_
      refine ev_lstore (pc' := 30) (lv' := [some (.long a), none, some (.long b), none, some (.long (lN Y)), none, some (.long (lN Y)), none, some (.long (lN (X % Y))), none]) dX8_divisor_28 rfl (Nat.le_of_ble_eq_true rfl) rfl rfl ?_
      refine ev_lload (pc' := 32) dX8_divisor_30 rfl rfl ?_
      refine ev_lstore (pc' := 34) (lv' := [some (.long a), none, some (.long b), none, some (.long (lN Y)), none, some (.long (lN (X % Y))), none, some (.long (lN (X % Y))), none]) dX8_divisor_32 rfl (Nat.le_of_ble_eq_true rfl) rfl rfl ?_
      refine ev_goto (tgt := 12) dX8_divisor_34 rfl ?_
      refine ev_lvw (lv' := [some (.long a), none, some (.long b), none, some (.long (lN Y)), none, some (.long (lN (X % Y))), none, none, none]) ⟨rfl, ⟨rfl, ⟨rfl, ⟨rfl, trivial⟩⟩⟩⟩ ?_
      exact ih (X % Y) (Nat.mod_lt _ (by omega)) Y hY (Nat.lt_of_lt_of_le (Nat.mod_lt _ (by omega)) (by omega)) ((gcd_st X Y).trans hg)
theorem gcd_ne {a b : Int64} (hb : b.toInt ≠ 0) : ¬ lN (Nat.gcd a.toInt.natAbs b.toInt.natAbs) = 0 := by
  intro h
  have rb := nb_rngL b
  have h1 : Nat.gcd a.toInt.natAbs b.toInt.natAbs ≤ b.toInt.natAbs := Nat.gcd_le_right _ (by omega)
  have h2 : 0 < Nat.gcd a.toInt.natAbs b.toInt.natAbs := Nat.gcd_pos_of_pos_right _ (by omega)
  rw [nb_eqL, nb_0L] at h
  by_cases hm : b.toInt.natAbs < 9223372036854775808
  · rw [lN_toI (by omega)] at h
    omega
  · by_cases h3 : Nat.gcd a.toInt.natAbs b.toInt.natAbs < 9223372036854775808
    · rw [lN_toI h3] at h; omega
    · have h4 : Nat.gcd a.toInt.natAbs b.toInt.natAbs = 9223372036854775808 := by omega
      rw [h4] at h
      revert h
      decide
theorem gcd_nn {a b : Int64} (hb : b.toInt ≠ 0) : ¬ -lN (Nat.gcd a.toInt.natAbs b.toInt.natAbs) = 0 := by
  intro h
  apply gcd_ne (a := a) hb
  have := congrArg (fun z : Int64 => -z) h
  simpa using this
set_option maxRecDepth 4000 in
theorem t_X8_share {g : ma_G} {Post : ma_P} {I : ma_I} {L : ma_L}  (u : Int64) (l : Int64) (a : Int32) (hu : u.toInt ≠ -9223372036854775808) (hl : l.toInt ≠ -9223372036854775808) (h0 : l.toInt ≠ 0) (k1 : (0 ≤ l) → Post (some (.int a)) HS I (ma_up L 115 (ma_up (ma_up (L 115) 3 (u / (lN (Nat.gcd u.toInt.natAbs l.toInt.natAbs)))) 4 (l / (lN (Nat.gcd u.toInt.natAbs l.toInt.natAbs))))) RF 146) (k2 : (¬ 0 ≤ l) → Post (some (.int a)) HS I (ma_up L 115 (ma_up (ma_up (L 115) 3 (u / (-(lN (Nat.gcd u.toInt.natAbs l.toInt.natAbs))))) 4 (l / (-(lN (Nat.gcd u.toInt.natAbs l.toInt.natAbs)))))) RF 146) : CT g yX8_share cX8_share 8 (some .int) rX8_share [.ref 115, .long u, .long l, .int a] Post HS I L RF 146 := by
  refine ct_of (lv := [some (.ref 115), some (.long u), none, some (.long l), none, some (.int a), none, none]) (by decide) (Nat.le_of_ble_eq_true rfl) rfl ?_
  refine ev_lload_n (pc' := 1) (i := 3) dX8_share_0 rfl rfl rfl ?_
  refine ev_lconst (pc' := 2) (v := 0) dX8_share_1 rfl kl_0 ?_
  refine ev_lc_ge (p1 := 3) (tgt := 15) (pc' := 6) dX8_share_2 rfl dX8_share_3 rfl rfl (fun c1 => ?_) (fun c1 => ?_)
  · refine ev_lload_n (pc' := 16) (i := 1) dX8_share_15 rfl rfl rfl ?_
    refine ev_lload_n (pc' := 17) (i := 3) dX8_share_16 rfl rfl rfl ?_
    refine ev_callS (pc' := 20) (rm' := rX8_divisor) (av := [.long u, .long l]) (rest := []) co_X8_126 cs_X8_divisor dX8_share_17 rfl rfl rfl (Nat.le_of_ble_eq_true rfl) ⟨(Nat.le_of_ble_eq_true rfl), (Nat.le_of_ble_eq_true rfl)⟩ ⟨(Nat.le_of_ble_eq_true rfl), (Nat.le_of_ble_eq_true rfl)⟩ ?_
    refine t_X8_divisor u l (by first | assumption | decide | (rw [nb_i2l]; have := nb_rng _; omega)) (by first | assumption | decide | (rw [nb_i2l]; have := nb_rng _; omega)) ?_
    refine ev_lstore (pc' := 22) (lv' := [some (.ref 115), some (.long u), none, some (.long l), none, some (.int a), some (.long (lN (Nat.gcd u.toInt.natAbs l.toInt.natAbs))), none]) dX8_share_20 rfl (Nat.le_of_ble_eq_true rfl) rfl rfl ?_
    refine ev_aload_n (pc' := 23) (i := 0) dX8_share_22 rfl rfl rfl ?_
    refine ev_lload_n (pc' := 24) (i := 1) dX8_share_23 rfl rfl rfl ?_
    refine ev_lload (pc' := 26) dX8_share_24 rfl rfl ?_
    refine ev_ldiv (pc' := 27) (v := u / (lN (Nat.gcd u.toInt.natAbs l.toInt.natAbs))) dX8_share_26 rfl (gcd_ne h0) rfl ?_
    refine ev_putL (pc' := 30) (L' := (ma_up L 115 (ma_up (L 115) 3 (u / (lN (Nat.gcd u.toInt.natAbs l.toInt.natAbs)))))) fo_X8_130 dX8_share_27 rfl hs_115 rfl (fun r hr => by cases hr; rfl) rfl ?_
    refine ev_aload_n (pc' := 31) (i := 0) dX8_share_30 rfl rfl rfl ?_
    refine ev_lload_n (pc' := 32) (i := 3) dX8_share_31 rfl rfl rfl ?_
    refine ev_lload (pc' := 34) dX8_share_32 rfl rfl ?_
    refine ev_ldiv (pc' := 35) (v := l / (lN (Nat.gcd u.toInt.natAbs l.toInt.natAbs))) dX8_share_34 rfl (gcd_ne h0) rfl ?_
    refine ev_putL (pc' := 38) (L' := (ma_up L 115 (ma_up (ma_up (L 115) 3 (u / (lN (Nat.gcd u.toInt.natAbs l.toInt.natAbs)))) 4 (l / (lN (Nat.gcd u.toInt.natAbs l.toInt.natAbs)))))) fo_X8_13 dX8_share_35 rfl hs_115 rfl (fun r hr => by cases hr; rfl) (ma_up_up _ _ _ _) ?_
    refine ev_iload (pc' := 40) dX8_share_38 rfl rfl ?_
    refine ev_iret dX8_share_40 rfl rfl ⟨Nat.le_refl _, Nat.le_refl _⟩ ?_
    exact k1 c1
  · refine ev_lload_n (pc' := 7) (i := 1) dX8_share_6 rfl rfl rfl ?_
    refine ev_lload_n (pc' := 8) (i := 3) dX8_share_7 rfl rfl rfl ?_
    refine ev_callS (pc' := 11) (rm' := rX8_divisor) (av := [.long u, .long l]) (rest := []) co_X8_126 cs_X8_divisor dX8_share_8 rfl rfl rfl (Nat.le_of_ble_eq_true rfl) ⟨(Nat.le_of_ble_eq_true rfl), (Nat.le_of_ble_eq_true rfl)⟩ ⟨(Nat.le_of_ble_eq_true rfl), (Nat.le_of_ble_eq_true rfl)⟩ ?_
    refine t_X8_divisor u l (by first | assumption | decide | (rw [nb_i2l]; have := nb_rng _; omega)) (by first | assumption | decide | (rw [nb_i2l]; have := nb_rng _; omega)) ?_
    refine ev_lneg (pc' := 12) (v := -(lN (Nat.gcd u.toInt.natAbs l.toInt.natAbs))) dX8_share_11 rfl rfl ?_
    refine ev_goto (tgt := 20) dX8_share_12 rfl ?_
    refine ev_lstore (pc' := 22) (lv' := [some (.ref 115), some (.long u), none, some (.long l), none, some (.int a), some (.long (-(lN (Nat.gcd u.toInt.natAbs l.toInt.natAbs)))), none]) dX8_share_20 rfl (Nat.le_of_ble_eq_true rfl) rfl rfl ?_
    refine ev_aload_n (pc' := 23) (i := 0) dX8_share_22 rfl rfl rfl ?_
    refine ev_lload_n (pc' := 24) (i := 1) dX8_share_23 rfl rfl rfl ?_
    refine ev_lload (pc' := 26) dX8_share_24 rfl rfl ?_
    refine ev_ldiv (pc' := 27) (v := u / (-(lN (Nat.gcd u.toInt.natAbs l.toInt.natAbs)))) dX8_share_26 rfl (gcd_nn h0) rfl ?_
    refine ev_putL (pc' := 30) (L' := (ma_up L 115 (ma_up (L 115) 3 (u / (-(lN (Nat.gcd u.toInt.natAbs l.toInt.natAbs))))))) fo_X8_130 dX8_share_27 rfl hs_115 rfl (fun r hr => by cases hr; rfl) rfl ?_
    refine ev_aload_n (pc' := 31) (i := 0) dX8_share_30 rfl rfl rfl ?_
    refine ev_lload_n (pc' := 32) (i := 3) dX8_share_31 rfl rfl rfl ?_
    refine ev_lload (pc' := 34) dX8_share_32 rfl rfl ?_
    refine ev_ldiv (pc' := 35) (v := l / (-(lN (Nat.gcd u.toInt.natAbs l.toInt.natAbs)))) dX8_share_34 rfl (gcd_nn h0) rfl ?_
    refine ev_putL (pc' := 38) (L' := (ma_up L 115 (ma_up (ma_up (L 115) 3 (u / (-(lN (Nat.gcd u.toInt.natAbs l.toInt.natAbs))))) 4 (l / (-(lN (Nat.gcd u.toInt.natAbs l.toInt.natAbs))))))) fo_X8_13 dX8_share_35 rfl hs_115 rfl (fun r hr => by cases hr; rfl) (ma_up_up _ _ _ _) ?_
    refine ev_iload (pc' := 40) dX8_share_38 rfl rfl ?_
    refine ev_iret dX8_share_40 rfl rfl ⟨Nat.le_refl _, Nat.le_refl _⟩ ?_
    exact k2 c1
