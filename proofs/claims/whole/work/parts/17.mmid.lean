theorem lN_toI {n : Nat} (h : n < 9223372036854775808) : (lN n).toInt = (n : Int) := pk_lT h
theorem mAb_nat {a : Int64} (h : a.toInt ≠ -9223372036854775808) : mAb a = lN a.toInt.natAbs := by
  have hr := nb_rngL a
  apply nb_eqL.mpr
  rw [lN_toI (by omega)]
  unfold mAb
  by_cases h0 : 0 ≤ a
  · rw [if_pos h0]
    rw [nb_leL, nb_0L] at h0
    omega
  · rw [if_neg h0]
    rw [nb_leL, nb_0L] at h0
    rw [Int64.toInt_neg, nb_bmodL (by omega) (by omega)]
    omega
theorem gcd_st (X Y : Nat) : Nat.gcd Y (X % Y) = Nat.gcd X Y := by
  rw [Nat.gcd_comm Y (X % Y), ← Nat.gcd_rec, Nat.gcd_comm]
set_option maxRecDepth 4000 in
theorem t_X8_divisor {g : ma_G} {Post : ma_P} {I : ma_I} {L : ma_L}  (a : Int64) (b : Int64) (ha : a.toInt ≠ -9223372036854775808) (hb : b.toInt ≠ -9223372036854775808) (k : Post (some (.long (lN (Nat.gcd a.toInt.natAbs b.toInt.natAbs)))) HS I L RF 146) : CT g yX8_divisor cX8_divisor 10 (some .long) rX8_divisor [.long a, .long b] Post HS I L RF 146 := by
  refine ct_of (lv := [some (.long a), none, some (.long b), none, none, none, none, none, none, none]) (by decide) (Nat.le_of_ble_eq_true rfl) rfl ?_
  refine ev_lload_n (pc' := 1) (i := 0) dX8_divisor_0 rfl rfl rfl ?_
  refine ev_callS (pc' := 4) (rm' := rX8_size) (av := [.long a]) (rest := []) co_X8_122 cs_X8_size dX8_divisor_1 rfl rfl rfl (Nat.le_of_ble_eq_true rfl) ⟨(Nat.le_of_ble_eq_true rfl), (Nat.le_of_ble_eq_true rfl)⟩ ⟨(Nat.le_of_ble_eq_true rfl), (Nat.le_of_ble_eq_true rfl)⟩ ?_
  refine t_X8_size a  ?_
  refine ev_lstore (pc' := 6) (lv' := [some (.long a), none, some (.long b), none, some (.long (mAb a)), none, none, none, none, none]) dX8_divisor_4 rfl (Nat.le_of_ble_eq_true rfl) rfl rfl ?_
  refine ev_lload_n (pc' := 7) (i := 2) dX8_divisor_6 rfl rfl rfl ?_
  refine ev_callS (pc' := 10) (rm' := rX8_size) (av := [.long b]) (rest := []) co_X8_122 cs_X8_size dX8_divisor_7 rfl rfl rfl (Nat.le_of_ble_eq_true rfl) ⟨(Nat.le_of_ble_eq_true rfl), (Nat.le_of_ble_eq_true rfl)⟩ ⟨(Nat.le_of_ble_eq_true rfl), (Nat.le_of_ble_eq_true rfl)⟩ ?_
  refine t_X8_size b  ?_
  refine ev_lstore (pc' := 12) (lv' := [some (.long a), none, some (.long b), none, some (.long (mAb a)), none, some (.long (mAb b)), none, none, none]) dX8_divisor_10 rfl (Nat.le_of_ble_eq_true rfl) rfl rfl ?_
  suffices lp : ∀ (Y X : Nat), X < 9223372036854775808 → Y < 9223372036854775808 → Nat.gcd X Y = Nat.gcd a.toInt.natAbs b.toInt.natAbs → EV g yX8_divisor cX8_divisor 10 (some .long) rX8_divisor (ma_ZM g rX8_divisor Post) 12 [some (.long a), none, some (.long b), none, some (.long (lN X)), none, some (.long (lN Y)), none, none, none] [] HS I L RF 146 0 0 by
    have ra := nb_rngL a
    have rb := nb_rngL b
    rw [mAb_nat ha, mAb_nat hb]
    exact lp _ _ (by omega) (by omega) rfl
  intro Y
  induction Y using Nat.strongRecOn with
  | ind Y ih =>
    intro X hX hY hg
    by_cases h0 : Y = 0
    · subst h0
      refine ev_lload (pc' := 14) dX8_divisor_12 rfl rfl ?_
      refine ev_lconst (pc' := 15) (v := 0) dX8_divisor_14 rfl kl_0 ?_
      refine ev_lc_eq (p1 := 16) (tgt := 37) (pc' := 19) dX8_divisor_15 rfl dX8_divisor_16 rfl rfl (fun _ => ?_) (fun h => absurd rfl h)
      refine ev_lload (pc' := 39) dX8_divisor_37 rfl rfl ?_
      refine ev_lret dX8_divisor_39 rfl ⟨Nat.le_refl _, Nat.le_refl _⟩ ?_
      rw [Nat.gcd_zero_right] at hg
      rw [← hg] at k
      exact k
    · have hn : ¬ lN Y = 0 := fun q => h0 ((pk_lEQ hY (by omega)).mp (q.trans (by decide : (0 : Int64) = lN 0)))
      refine ev_lload (pc' := 14) dX8_divisor_12 rfl rfl ?_
      refine ev_lconst (pc' := 15) (v := 0) dX8_divisor_14 rfl kl_0 ?_
      refine ev_lc_eq (p1 := 16) (tgt := 37) (pc' := 19) dX8_divisor_15 rfl dX8_divisor_16 rfl rfl (fun h => absurd h hn) (fun _ => ?_)
      refine ev_lload (pc' := 21) dX8_divisor_19 rfl rfl ?_
      refine ev_lload (pc' := 23) dX8_divisor_21 rfl rfl ?_
      refine ev_lrem (pc' := 24) (v := lN (X % Y)) dX8_divisor_23 rfl hn (pk_lRem (by omega) (by omega) (by omega)) ?_
      refine ev_lstore (pc' := 26) (lv' := [some (.long a), none, some (.long b), none, some (.long (lN X)), none, some (.long (lN Y)), none, some (.long (lN (X % Y))), none]) dX8_divisor_24 rfl (Nat.le_of_ble_eq_true rfl) rfl rfl ?_
      refine ev_lload (pc' := 28) dX8_divisor_26 rfl rfl ?_
      refine ev_lstore (pc' := 30) (lv' := [some (.long a), none, some (.long b), none, some (.long (lN Y)), none, some (.long (lN Y)), none, some (.long (lN (X % Y))), none]) dX8_divisor_28 rfl (Nat.le_of_ble_eq_true rfl) rfl rfl ?_
      refine ev_lload (pc' := 32) dX8_divisor_30 rfl rfl ?_
      refine ev_lstore (pc' := 34) (lv' := [some (.long a), none, some (.long b), none, some (.long (lN Y)), none, some (.long (lN (X % Y))), none, some (.long (lN (X % Y))), none]) dX8_divisor_32 rfl (Nat.le_of_ble_eq_true rfl) rfl rfl ?_
      refine ev_goto (tgt := 12) dX8_divisor_34 rfl ?_
      refine ev_lvw (lv' := [some (.long a), none, some (.long b), none, some (.long (lN Y)), none, some (.long (lN (X % Y))), none, none, none]) ⟨rfl, ⟨rfl, ⟨rfl, ⟨rfl, trivial⟩⟩⟩⟩ ?_
      exact ih (X % Y) (Nat.mod_lt _ (by omega)) Y hY (Nat.lt_of_lt_of_le (Nat.mod_lt _ (by omega)) (by omega)) ((gcd_st X Y).trans hg)
