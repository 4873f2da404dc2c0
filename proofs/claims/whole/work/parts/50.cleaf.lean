theorem nat_of {x : Int32} {lo hi : Nat} (h1 : (lo : Int) ≤ x.toInt) (h2 : x.toInt < hi) (hh : hi < 2147483648) : ∃ n, lo ≤ n ∧ n < hi ∧ x = nI n := by
  refine ⟨x.toInt.toNat, by omega, by omega, ?_⟩
  apply nb_eq.mpr
  rw [nI_toInt (by omega)]
  omega
theorem in_ofn {x : Int32} {n : Nat} {m : Int32} (hn : n < 2147483648) (hm : m = nI n) (h : ¬ ((x < 0) ∨ (¬ x < m))) : ∃ j, j < n ∧ x = nI j := by
  subst hm
  obtain ⟨j, hj, rfl⟩ := nI_of (fun q => h (Or.inl q))
  refine ⟨j, ?_, rfl⟩
  rcases Nat.lt_or_ge j n with q | q
  · exact q
  · exact absurd (fun z => nI_nlt (by omega) (by omega) z) (fun z => h (Or.inr z))
set_option maxRecDepth 4000 in
theorem t_X7_noSheet {g : ma_G} {Post : ma_P} {I : ma_I} {L : ma_L} (s : Int32)  (k : Post (some (.int (if (s < 0) ∨ (¬ s < 8) then (1 : Int32) else 0))) HS I L RF 146) : CT g yX7_noSheet cX7_noSheet 1 (some .boolean) rX7_noSheet [.int s] Post HS I L RF 146 := by
  refine ct_of (lv := [some (.int s)]) (by decide) (Nat.le_of_ble_eq_true rfl) rfl ?_
  refine ev_iload_n (pc' := 1) (i := 0) dX7_noSheet_0 rfl rfl rfl ?_
  suffices K3 : ∀ x2 : Int32, x2 = (if (s < 0) ∨ (¬ s < 8) then (1 : Int32) else 0) → EV g yX7_noSheet cX7_noSheet 1 (some .boolean) rX7_noSheet (ma_ZM g rX7_noSheet Post) 15 [some (.int s)] [.int x2] HS I L RF 146 0 0 by
    refine ev_if_lt (tgt := 10) (pc' := 4) dX7_noSheet_1 rfl rfl (fun c4 => ?_) (fun c4 => ?_)
    · refine ev_iconst (pc' := 11) (v := 1) dX7_noSheet_10 rfl ki_1 ?_
      refine ev_goto (tgt := 15) dX7_noSheet_11 rfl ?_
      exact K3 _ (if_pos (Or.inl c4)).symm
    · refine ev_iload_n (pc' := 5) (i := 0) dX7_noSheet_4 rfl rfl rfl ?_
      refine ev_bipush (pc' := 7) (v := 8) dX7_noSheet_5 rfl kb_8 ?_
      refine ev_icmp_lt (tgt := 14) (pc' := 10) dX7_noSheet_7 rfl rfl (fun c5 => ?_) (fun c5 => ?_)
      · refine ev_iconst (pc' := 15) (v := 0) dX7_noSheet_14 rfl ki_0 ?_
        exact K3 _ (if_neg (not_or.mpr ⟨c4, (not_not_intro c5)⟩)).symm
      · refine ev_iconst (pc' := 11) (v := 1) dX7_noSheet_10 rfl ki_1 ?_
        refine ev_goto (tgt := 15) dX7_noSheet_11 rfl ?_
        exact K3 _ (if_pos (Or.inr c5)).symm
  intro x2 hx2
  subst hx2
  refine ev_iret dX7_noSheet_15 rfl b01_n ⟨Nat.le_refl _, Nat.le_refl _⟩ ?_
  exact k
set_option maxRecDepth 4000 in
theorem t_X7_noGround {g : ma_G} {Post : ma_P} {I : ma_I} {L : ma_L} (s : Int32)  (k : Post (some (.int (if (s < 0) ∨ (¬ s < 12) then (1 : Int32) else 0))) HS I L RF 146) : CT g yX7_noGround cX7_noGround 1 (some .boolean) rX7_noGround [.int s] Post HS I L RF 146 := by
  refine ct_of (lv := [some (.int s)]) (by decide) (Nat.le_of_ble_eq_true rfl) rfl ?_
  refine ev_iload_n (pc' := 1) (i := 0) dX7_noGround_0 rfl rfl rfl ?_
  suffices K3 : ∀ x2 : Int32, x2 = (if (s < 0) ∨ (¬ s < 12) then (1 : Int32) else 0) → EV g yX7_noGround cX7_noGround 1 (some .boolean) rX7_noGround (ma_ZM g rX7_noGround Post) 15 [some (.int s)] [.int x2] HS I L RF 146 0 0 by
    refine ev_if_lt (tgt := 10) (pc' := 4) dX7_noGround_1 rfl rfl (fun c4 => ?_) (fun c4 => ?_)
    · refine ev_iconst (pc' := 11) (v := 1) dX7_noGround_10 rfl ki_1 ?_
      refine ev_goto (tgt := 15) dX7_noGround_11 rfl ?_
      exact K3 _ (if_pos (Or.inl c4)).symm
    · refine ev_iload_n (pc' := 5) (i := 0) dX7_noGround_4 rfl rfl rfl ?_
      refine ev_bipush (pc' := 7) (v := 12) dX7_noGround_5 rfl kb_12 ?_
      refine ev_icmp_lt (tgt := 14) (pc' := 10) dX7_noGround_7 rfl rfl (fun c5 => ?_) (fun c5 => ?_)
      · refine ev_iconst (pc' := 15) (v := 0) dX7_noGround_14 rfl ki_0 ?_
        exact K3 _ (if_neg (not_or.mpr ⟨c4, (not_not_intro c5)⟩)).symm
      · refine ev_iconst (pc' := 11) (v := 1) dX7_noGround_10 rfl ki_1 ?_
        refine ev_goto (tgt := 15) dX7_noGround_11 rfl ?_
        exact K3 _ (if_pos (Or.inr c5)).symm
  intro x2 hx2
  subst hx2
  refine ev_iret dX7_noGround_15 rfl b01_n ⟨Nat.le_refl _, Nat.le_refl _⟩ ?_
  exact k
set_option maxRecDepth 4000 in
theorem t_X7_noLetter {g : ma_G} {Post : ma_P} {I : ma_I} {L : ma_L} (s : Int32)  (k : Post (some (.int (if (s < 0) ∨ (¬ s < 4) then (1 : Int32) else 0))) HS I L RF 146) : CT g yX7_noLetter cX7_noLetter 1 (some .boolean) rX7_noLetter [.int s] Post HS I L RF 146 := by
  refine ct_of (lv := [some (.int s)]) (by decide) (Nat.le_of_ble_eq_true rfl) rfl ?_
  refine ev_iload_n (pc' := 1) (i := 0) dX7_noLetter_0 rfl rfl rfl ?_
  suffices K3 : ∀ x2 : Int32, x2 = (if (s < 0) ∨ (¬ s < 4) then (1 : Int32) else 0) → EV g yX7_noLetter cX7_noLetter 1 (some .boolean) rX7_noLetter (ma_ZM g rX7_noLetter Post) 14 [some (.int s)] [.int x2] HS I L RF 146 0 0 by
    refine ev_if_lt (tgt := 9) (pc' := 4) dX7_noLetter_1 rfl rfl (fun c4 => ?_) (fun c4 => ?_)
    · refine ev_iconst (pc' := 10) (v := 1) dX7_noLetter_9 rfl ki_1 ?_
      refine ev_goto (tgt := 14) dX7_noLetter_10 rfl ?_
      exact K3 _ (if_pos (Or.inl c4)).symm
    · refine ev_iload_n (pc' := 5) (i := 0) dX7_noLetter_4 rfl rfl rfl ?_
      refine ev_iconst (pc' := 6) (v := 4) dX7_noLetter_5 rfl ki_4 ?_
      refine ev_icmp_lt (tgt := 13) (pc' := 9) dX7_noLetter_6 rfl rfl (fun c5 => ?_) (fun c5 => ?_)
      · refine ev_iconst (pc' := 14) (v := 0) dX7_noLetter_13 rfl ki_0 ?_
        exact K3 _ (if_neg (not_or.mpr ⟨c4, (not_not_intro c5)⟩)).symm
      · refine ev_iconst (pc' := 10) (v := 1) dX7_noLetter_9 rfl ki_1 ?_
        refine ev_goto (tgt := 14) dX7_noLetter_10 rfl ?_
        exact K3 _ (if_pos (Or.inr c5)).symm
  intro x2 hx2
  subst hx2
  refine ev_iret dX7_noLetter_14 rfl b01_n ⟨Nat.le_refl _, Nat.le_refl _⟩ ?_
  exact k
set_option maxRecDepth 4000 in
theorem t_X7_oneIf {g : ma_G} {Post : ma_P} {I : ma_I} {L : ma_L} (b : Int32)  (k : Post (some (.int (if ¬ b = 0 then (1 : Int32) else 0))) HS I L RF 146) : CT g yX7_oneIf cX7_oneIf 1 (some .int) rX7_oneIf [.int b] Post HS I L RF 146 := by
  refine ct_of (lv := [some (.int b)]) (by decide) (Nat.le_of_ble_eq_true rfl) rfl ?_
  refine ev_iload_n (pc' := 1) (i := 0) dX7_oneIf_0 rfl rfl rfl ?_
  suffices K3 : ∀ x2 : Int32, x2 = (if ¬ b = 0 then (1 : Int32) else 0) → EV g yX7_oneIf cX7_oneIf 1 (some .int) rX7_oneIf (ma_ZM g rX7_oneIf Post) 9 [some (.int b)] [.int x2] HS I L RF 146 0 0 by
    refine ev_if_eq (tgt := 8) (pc' := 4) dX7_oneIf_1 rfl rfl (fun c4 => ?_) (fun c4 => ?_)
    · refine ev_iconst (pc' := 9) (v := 0) dX7_oneIf_8 rfl ki_0 ?_
      exact K3 _ (if_neg (not_not_intro c4)).symm
    · refine ev_iconst (pc' := 5) (v := 1) dX7_oneIf_4 rfl ki_1 ?_
      refine ev_goto (tgt := 9) dX7_oneIf_5 rfl ?_
      exact K3 _ (if_pos c4).symm
  intro x2 hx2
  subst hx2
  refine ev_iret dX7_oneIf_9 rfl rfl ⟨Nat.le_refl _, Nat.le_refl _⟩ ?_
  exact k
theorem one_if (c : Prop) [Decidable c] : (if ¬ (if c then (1 : Int32) else 0) = 0 then (1 : Int32) else 0) = (if c then (1 : Int32) else 0) := by
  by_cases h : c
  · rw [if_pos h]; rfl
  · rw [if_neg h]; rfl
set_option maxRecDepth 4000 in
theorem t_X7_signOf {g : ma_G} {Post : ma_P} {I : ma_I} {L : ma_L} (v : Int64)  (k : Post (some (.int (if v ≤ 0 then (if 0 ≤ v then 0 else (-1)) else 1))) HS I L RF 146) : CT g yX7_signOf cX7_signOf 2 (some .int) rX7_signOf [.long v] Post HS I L RF 146 := by
  refine ct_of (lv := [some (.long v), none]) (by decide) (Nat.le_of_ble_eq_true rfl) rfl ?_
  refine ev_lload_n (pc' := 1) (i := 0) dX7_signOf_0 rfl rfl rfl ?_
  refine ev_lconst (pc' := 2) (v := 0) dX7_signOf_1 rfl kl_0 ?_
  suffices K3 : ∀ x2 : Int32, x2 = (if v ≤ 0 then (if 0 ≤ v then 0 else (-1)) else 1) → EV g yX7_signOf cX7_signOf 2 (some .int) rX7_signOf (ma_ZM g rX7_signOf Post) 21 [some (.long v), none] [.int x2] HS I L RF 146 0 0 by
    refine ev_lc_le (p1 := 3) (tgt := 10) (pc' := 6) dX7_signOf_2 rfl dX7_signOf_3 rfl rfl (fun c4 => ?_) (fun c4 => ?_)
    · refine ev_lload_n (pc' := 11) (i := 0) dX7_signOf_10 rfl rfl rfl ?_
      refine ev_lconst (pc' := 12) (v := 0) dX7_signOf_11 rfl kl_0 ?_
      refine ev_lc_ge (p1 := 13) (tgt := 20) (pc' := 16) dX7_signOf_12 rfl dX7_signOf_13 rfl rfl (fun c5 => ?_) (fun c5 => ?_)
      · refine ev_iconst (pc' := 21) (v := 0) dX7_signOf_20 rfl ki_0 ?_
        exact K3 _ (by rw [if_pos c4, if_pos c5])
      · refine ev_iconst (pc' := 17) (v := (-1)) dX7_signOf_16 rfl ki_m1 ?_
        refine ev_goto (tgt := 21) dX7_signOf_17 rfl ?_
        exact K3 _ (by rw [if_pos c4, if_neg c5])
    · refine ev_iconst (pc' := 7) (v := 1) dX7_signOf_6 rfl ki_1 ?_
      refine ev_goto (tgt := 21) dX7_signOf_7 rfl ?_
      exact K3 _ (by rw [if_neg c4])
  intro x2 hx2
  subst hx2
  refine ev_iret dX7_signOf_21 rfl rfl ⟨Nat.le_refl _, Nat.le_refl _⟩ ?_
  exact k
def cRf (I : ma_I) (w : Nat) : ma_I := (ma_up (ma_up I 3 (ma_up (I 3) 16 (nI w))) 38 (ma_up (I 38) w ((I 38) w + 1)))
set_option maxRecDepth 4000 in
theorem t_X7_refuse1 {g : ma_G} {Post : ma_P} {I : ma_I} {L : ma_L}   (k : Post (some (.int (-3))) HS (ma_up (ma_up I 3 (ma_up (I 3) 16 1)) 38 (ma_up (I 38) 1 (((I 38) 1) + 1))) L RF 146) : CT g yX7_refuse cX7_refuse 2 (some .int) rX7_refuse [.ref 3, .int 1] Post HS I L RF 146 := by
  refine ct_of (lv := [some (.ref 3), some (.int 1)]) (by decide) (Nat.le_of_ble_eq_true rfl) rfl ?_
  refine ev_iload_n (pc' := 1) (i := 1) dX7_refuse_0 rfl rfl rfl ?_
  refine ev_iconst (pc' := 2) (v := 1) dX7_refuse_1 rfl ki_1 ?_
  refine ev_icmp_lt (tgt := 25) (pc' := 5) dX7_refuse_2 rfl rfl (fun h => absurd h (by decide)) (fun _ => ?_)
  refine ev_iload_n (pc' := 6) (i := 1) dX7_refuse_5 rfl rfl rfl ?_
  refine ev_iconst (pc' := 7) (v := 5) dX7_refuse_6 rfl ki_5 ?_
  refine ev_icmp_gt (tgt := 25) (pc' := 10) dX7_refuse_7 rfl rfl (fun h => absurd h (by decide)) (fun _ => ?_)
  refine ev_aload_n (pc' := 11) (i := 0) dX7_refuse_10 rfl rfl rfl ?_
  refine ev_iload_n (pc' := 12) (i := 1) dX7_refuse_11 rfl rfl rfl ?_
  refine ev_putI (pc' := 15) (I' := (ma_up I 3 (ma_up (I 3) 16 1))) fo_X7_337 dX7_refuse_12 rfl hs_3 rfl (fun r hr => by cases hr; rfl) ⟨rfl, rfl⟩ rfl ?_
  refine ev_aload_n (pc' := 16) (i := 0) dX7_refuse_15 rfl rfl rfl ?_
  refine ev_getR (pc' := 19) fo_X7_70 dX7_refuse_16 rfl hs_3 rfl rf_3_17 ?_
  refine ev_iload_n (pc' := 20) (i := 1) dX7_refuse_19 rfl rfl rfl ?_
  refine ev_dup2 (pc' := 21) dX7_refuse_20 rfl rfl rfl ?_
  refine ev_iald (pc' := 22) (j := 1) (v := (I 38) 1) dX7_refuse_21 rfl hs_38 rfl (Nat.le_of_ble_eq_true rfl) (Nat.le_of_ble_eq_true rfl) rfl ?_
  refine ev_iconst (pc' := 23) (v := 1) dX7_refuse_22 rfl ki_1 ?_
  refine ev_iadd (pc' := 24) (v := ((I 38) 1) + 1) dX7_refuse_23 rfl rfl ?_
  refine ev_iast (pc' := 25) (j := 1) (I' := (ma_up (ma_up I 3 (ma_up (I 3) 16 1)) 38 (ma_up (I 38) 1 (((I 38) 1) + 1)))) dX7_refuse_24 rfl hs_38 rfl (Nat.le_of_ble_eq_true rfl) (Nat.le_of_ble_eq_true rfl) rfl ?_
  refine ev_bipush (pc' := 27) (v := (-3)) dX7_refuse_25 rfl kb_m3 ?_
  refine ev_iret dX7_refuse_27 rfl rfl ⟨Nat.le_refl _, Nat.le_refl _⟩ ?_
  exact k
set_option maxRecDepth 4000 in
theorem t_X7_refuse2 {g : ma_G} {Post : ma_P} {I : ma_I} {L : ma_L}   (k : Post (some (.int (-3))) HS (ma_up (ma_up I 3 (ma_up (I 3) 16 2)) 38 (ma_up (I 38) 2 (((I 38) 2) + 1))) L RF 146) : CT g yX7_refuse cX7_refuse 2 (some .int) rX7_refuse [.ref 3, .int 2] Post HS I L RF 146 := by
  refine ct_of (lv := [some (.ref 3), some (.int 2)]) (by decide) (Nat.le_of_ble_eq_true rfl) rfl ?_
  refine ev_iload_n (pc' := 1) (i := 1) dX7_refuse_0 rfl rfl rfl ?_
  refine ev_iconst (pc' := 2) (v := 1) dX7_refuse_1 rfl ki_1 ?_
  refine ev_icmp_lt (tgt := 25) (pc' := 5) dX7_refuse_2 rfl rfl (fun h => absurd h (by decide)) (fun _ => ?_)
  refine ev_iload_n (pc' := 6) (i := 1) dX7_refuse_5 rfl rfl rfl ?_
  refine ev_iconst (pc' := 7) (v := 5) dX7_refuse_6 rfl ki_5 ?_
  refine ev_icmp_gt (tgt := 25) (pc' := 10) dX7_refuse_7 rfl rfl (fun h => absurd h (by decide)) (fun _ => ?_)
  refine ev_aload_n (pc' := 11) (i := 0) dX7_refuse_10 rfl rfl rfl ?_
  refine ev_iload_n (pc' := 12) (i := 1) dX7_refuse_11 rfl rfl rfl ?_
  refine ev_putI (pc' := 15) (I' := (ma_up I 3 (ma_up (I 3) 16 2))) fo_X7_337 dX7_refuse_12 rfl hs_3 rfl (fun r hr => by cases hr; rfl) ⟨rfl, rfl⟩ rfl ?_
  refine ev_aload_n (pc' := 16) (i := 0) dX7_refuse_15 rfl rfl rfl ?_
  refine ev_getR (pc' := 19) fo_X7_70 dX7_refuse_16 rfl hs_3 rfl rf_3_17 ?_
  refine ev_iload_n (pc' := 20) (i := 1) dX7_refuse_19 rfl rfl rfl ?_
  refine ev_dup2 (pc' := 21) dX7_refuse_20 rfl rfl rfl ?_
  refine ev_iald (pc' := 22) (j := 2) (v := (I 38) 2) dX7_refuse_21 rfl hs_38 rfl (Nat.le_of_ble_eq_true rfl) (Nat.le_of_ble_eq_true rfl) rfl ?_
  refine ev_iconst (pc' := 23) (v := 1) dX7_refuse_22 rfl ki_1 ?_
  refine ev_iadd (pc' := 24) (v := ((I 38) 2) + 1) dX7_refuse_23 rfl rfl ?_
  refine ev_iast (pc' := 25) (j := 2) (I' := (ma_up (ma_up I 3 (ma_up (I 3) 16 2)) 38 (ma_up (I 38) 2 (((I 38) 2) + 1)))) dX7_refuse_24 rfl hs_38 rfl (Nat.le_of_ble_eq_true rfl) (Nat.le_of_ble_eq_true rfl) rfl ?_
  refine ev_bipush (pc' := 27) (v := (-3)) dX7_refuse_25 rfl kb_m3 ?_
  refine ev_iret dX7_refuse_27 rfl rfl ⟨Nat.le_refl _, Nat.le_refl _⟩ ?_
  exact k
set_option maxRecDepth 4000 in
theorem t_X7_refuse3 {g : ma_G} {Post : ma_P} {I : ma_I} {L : ma_L}   (k : Post (some (.int (-3))) HS (ma_up (ma_up I 3 (ma_up (I 3) 16 3)) 38 (ma_up (I 38) 3 (((I 38) 3) + 1))) L RF 146) : CT g yX7_refuse cX7_refuse 2 (some .int) rX7_refuse [.ref 3, .int 3] Post HS I L RF 146 := by
  refine ct_of (lv := [some (.ref 3), some (.int 3)]) (by decide) (Nat.le_of_ble_eq_true rfl) rfl ?_
  refine ev_iload_n (pc' := 1) (i := 1) dX7_refuse_0 rfl rfl rfl ?_
  refine ev_iconst (pc' := 2) (v := 1) dX7_refuse_1 rfl ki_1 ?_
  refine ev_icmp_lt (tgt := 25) (pc' := 5) dX7_refuse_2 rfl rfl (fun h => absurd h (by decide)) (fun _ => ?_)
  refine ev_iload_n (pc' := 6) (i := 1) dX7_refuse_5 rfl rfl rfl ?_
  refine ev_iconst (pc' := 7) (v := 5) dX7_refuse_6 rfl ki_5 ?_
  refine ev_icmp_gt (tgt := 25) (pc' := 10) dX7_refuse_7 rfl rfl (fun h => absurd h (by decide)) (fun _ => ?_)
  refine ev_aload_n (pc' := 11) (i := 0) dX7_refuse_10 rfl rfl rfl ?_
  refine ev_iload_n (pc' := 12) (i := 1) dX7_refuse_11 rfl rfl rfl ?_
  refine ev_putI (pc' := 15) (I' := (ma_up I 3 (ma_up (I 3) 16 3))) fo_X7_337 dX7_refuse_12 rfl hs_3 rfl (fun r hr => by cases hr; rfl) ⟨rfl, rfl⟩ rfl ?_
  refine ev_aload_n (pc' := 16) (i := 0) dX7_refuse_15 rfl rfl rfl ?_
  refine ev_getR (pc' := 19) fo_X7_70 dX7_refuse_16 rfl hs_3 rfl rf_3_17 ?_
  refine ev_iload_n (pc' := 20) (i := 1) dX7_refuse_19 rfl rfl rfl ?_
  refine ev_dup2 (pc' := 21) dX7_refuse_20 rfl rfl rfl ?_
  refine ev_iald (pc' := 22) (j := 3) (v := (I 38) 3) dX7_refuse_21 rfl hs_38 rfl (Nat.le_of_ble_eq_true rfl) (Nat.le_of_ble_eq_true rfl) rfl ?_
  refine ev_iconst (pc' := 23) (v := 1) dX7_refuse_22 rfl ki_1 ?_
  refine ev_iadd (pc' := 24) (v := ((I 38) 3) + 1) dX7_refuse_23 rfl rfl ?_
  refine ev_iast (pc' := 25) (j := 3) (I' := (ma_up (ma_up I 3 (ma_up (I 3) 16 3)) 38 (ma_up (I 38) 3 (((I 38) 3) + 1)))) dX7_refuse_24 rfl hs_38 rfl (Nat.le_of_ble_eq_true rfl) (Nat.le_of_ble_eq_true rfl) rfl ?_
  refine ev_bipush (pc' := 27) (v := (-3)) dX7_refuse_25 rfl kb_m3 ?_
  refine ev_iret dX7_refuse_27 rfl rfl ⟨Nat.le_refl _, Nat.le_refl _⟩ ?_
  exact k
set_option maxRecDepth 4000 in
theorem t_X7_refuse4 {g : ma_G} {Post : ma_P} {I : ma_I} {L : ma_L}   (k : Post (some (.int (-3))) HS (ma_up (ma_up I 3 (ma_up (I 3) 16 4)) 38 (ma_up (I 38) 4 (((I 38) 4) + 1))) L RF 146) : CT g yX7_refuse cX7_refuse 2 (some .int) rX7_refuse [.ref 3, .int 4] Post HS I L RF 146 := by
  refine ct_of (lv := [some (.ref 3), some (.int 4)]) (by decide) (Nat.le_of_ble_eq_true rfl) rfl ?_
  refine ev_iload_n (pc' := 1) (i := 1) dX7_refuse_0 rfl rfl rfl ?_
  refine ev_iconst (pc' := 2) (v := 1) dX7_refuse_1 rfl ki_1 ?_
  refine ev_icmp_lt (tgt := 25) (pc' := 5) dX7_refuse_2 rfl rfl (fun h => absurd h (by decide)) (fun _ => ?_)
  refine ev_iload_n (pc' := 6) (i := 1) dX7_refuse_5 rfl rfl rfl ?_
  refine ev_iconst (pc' := 7) (v := 5) dX7_refuse_6 rfl ki_5 ?_
  refine ev_icmp_gt (tgt := 25) (pc' := 10) dX7_refuse_7 rfl rfl (fun h => absurd h (by decide)) (fun _ => ?_)
  refine ev_aload_n (pc' := 11) (i := 0) dX7_refuse_10 rfl rfl rfl ?_
  refine ev_iload_n (pc' := 12) (i := 1) dX7_refuse_11 rfl rfl rfl ?_
  refine ev_putI (pc' := 15) (I' := (ma_up I 3 (ma_up (I 3) 16 4))) fo_X7_337 dX7_refuse_12 rfl hs_3 rfl (fun r hr => by cases hr; rfl) ⟨rfl, rfl⟩ rfl ?_
  refine ev_aload_n (pc' := 16) (i := 0) dX7_refuse_15 rfl rfl rfl ?_
  refine ev_getR (pc' := 19) fo_X7_70 dX7_refuse_16 rfl hs_3 rfl rf_3_17 ?_
  refine ev_iload_n (pc' := 20) (i := 1) dX7_refuse_19 rfl rfl rfl ?_
  refine ev_dup2 (pc' := 21) dX7_refuse_20 rfl rfl rfl ?_
  refine ev_iald (pc' := 22) (j := 4) (v := (I 38) 4) dX7_refuse_21 rfl hs_38 rfl (Nat.le_of_ble_eq_true rfl) (Nat.le_of_ble_eq_true rfl) rfl ?_
  refine ev_iconst (pc' := 23) (v := 1) dX7_refuse_22 rfl ki_1 ?_
  refine ev_iadd (pc' := 24) (v := ((I 38) 4) + 1) dX7_refuse_23 rfl rfl ?_
  refine ev_iast (pc' := 25) (j := 4) (I' := (ma_up (ma_up I 3 (ma_up (I 3) 16 4)) 38 (ma_up (I 38) 4 (((I 38) 4) + 1)))) dX7_refuse_24 rfl hs_38 rfl (Nat.le_of_ble_eq_true rfl) (Nat.le_of_ble_eq_true rfl) rfl ?_
  refine ev_bipush (pc' := 27) (v := (-3)) dX7_refuse_25 rfl kb_m3 ?_
  refine ev_iret dX7_refuse_27 rfl rfl ⟨Nat.le_refl _, Nat.le_refl _⟩ ?_
  exact k
set_option maxRecDepth 4000 in
theorem t_X7_refuse5 {g : ma_G} {Post : ma_P} {I : ma_I} {L : ma_L}   (k : Post (some (.int (-3))) HS (ma_up (ma_up I 3 (ma_up (I 3) 16 5)) 38 (ma_up (I 38) 5 (((I 38) 5) + 1))) L RF 146) : CT g yX7_refuse cX7_refuse 2 (some .int) rX7_refuse [.ref 3, .int 5] Post HS I L RF 146 := by
  refine ct_of (lv := [some (.ref 3), some (.int 5)]) (by decide) (Nat.le_of_ble_eq_true rfl) rfl ?_
  refine ev_iload_n (pc' := 1) (i := 1) dX7_refuse_0 rfl rfl rfl ?_
  refine ev_iconst (pc' := 2) (v := 1) dX7_refuse_1 rfl ki_1 ?_
  refine ev_icmp_lt (tgt := 25) (pc' := 5) dX7_refuse_2 rfl rfl (fun h => absurd h (by decide)) (fun _ => ?_)
  refine ev_iload_n (pc' := 6) (i := 1) dX7_refuse_5 rfl rfl rfl ?_
  refine ev_iconst (pc' := 7) (v := 5) dX7_refuse_6 rfl ki_5 ?_
  refine ev_icmp_gt (tgt := 25) (pc' := 10) dX7_refuse_7 rfl rfl (fun h => absurd h (by decide)) (fun _ => ?_)
  refine ev_aload_n (pc' := 11) (i := 0) dX7_refuse_10 rfl rfl rfl ?_
  refine ev_iload_n (pc' := 12) (i := 1) dX7_refuse_11 rfl rfl rfl ?_
  refine ev_putI (pc' := 15) (I' := (ma_up I 3 (ma_up (I 3) 16 5))) fo_X7_337 dX7_refuse_12 rfl hs_3 rfl (fun r hr => by cases hr; rfl) ⟨rfl, rfl⟩ rfl ?_
  refine ev_aload_n (pc' := 16) (i := 0) dX7_refuse_15 rfl rfl rfl ?_
  refine ev_getR (pc' := 19) fo_X7_70 dX7_refuse_16 rfl hs_3 rfl rf_3_17 ?_
  refine ev_iload_n (pc' := 20) (i := 1) dX7_refuse_19 rfl rfl rfl ?_
  refine ev_dup2 (pc' := 21) dX7_refuse_20 rfl rfl rfl ?_
  refine ev_iald (pc' := 22) (j := 5) (v := (I 38) 5) dX7_refuse_21 rfl hs_38 rfl (Nat.le_of_ble_eq_true rfl) (Nat.le_of_ble_eq_true rfl) rfl ?_
  refine ev_iconst (pc' := 23) (v := 1) dX7_refuse_22 rfl ki_1 ?_
  refine ev_iadd (pc' := 24) (v := ((I 38) 5) + 1) dX7_refuse_23 rfl rfl ?_
  refine ev_iast (pc' := 25) (j := 5) (I' := (ma_up (ma_up I 3 (ma_up (I 3) 16 5)) 38 (ma_up (I 38) 5 (((I 38) 5) + 1)))) dX7_refuse_24 rfl hs_38 rfl (Nat.le_of_ble_eq_true rfl) (Nat.le_of_ble_eq_true rfl) rfl ?_
  refine ev_bipush (pc' := 27) (v := (-3)) dX7_refuse_25 rfl kb_m3 ?_
  refine ev_iret dX7_refuse_27 rfl rfl ⟨Nat.le_refl _, Nat.le_refl _⟩ ?_
  exact k
theorem ev_cRf {g : ma_G} {y : MethodName} {cc : ByteArray} {nL : Nat} {ret : Option FieldType} {rm : Room} {Z : ma_Z} {pc : Nat} {lv : List (Option Value)} {st : List Value} {sh : ma_S} {I : ma_I} {L : ma_L} {R : ma_R} {n ce sl : Nat} (w : Nat) (k : EV g y cc nL ret rm Z pc lv st sh (cRf I w) L R n ce sl) : EV g y cc nL ret rm Z pc lv st sh (ma_up (ma_up I 3 (ma_up (I 3) 16 (nI w))) 38 (ma_up (I 38) w ((I 38) w + 1))) L R n ce sl := k
set_option maxRecDepth 4000 in
theorem t_X7_isSquare {g : ma_G} {Post : ma_P} {I : ma_I} {L : ma_L}  (v : Int32) (hv : v.toInt ≤ 4096) (k : ∀ r : Int32, (r = 0 ∨ r = 1) → (r = 1 ↔ ∃ j : Nat, ((j * j : Nat) : Int) = v.toInt) → Post (some (.int r)) HS I L RF 146) : CT g yX7_isSquare cX7_isSquare 2 (some .boolean) rX7_isSquare [.int v] Post HS I L RF 146 := by
  refine ct_of (lv := [some (.int v), none]) (by decide) (Nat.le_of_ble_eq_true rfl) rfl ?_
  refine ev_iconst (pc' := 1) (v := 0) dX7_isSquare_0 rfl ki_0 ?_
  refine ev_istore_n (pc' := 2) (i := 1) (lv' := [some (.int v), some (.int 0)]) dX7_isSquare_1 rfl rfl (Nat.le_of_ble_eq_true rfl) rfl rfl ?_
  suffices lp : ∀ (d m : Nat), m + d = 66 → (∀ j, j < m → ((j * j : Nat) : Int) < v.toInt) → EV g yX7_isSquare cX7_isSquare 2 (some .boolean) rX7_isSquare (ma_ZM g rX7_isSquare Post) 2 [some (.int v), some (.int (nI m))] [] HS I L RF 146 0 0 from lp 66 0 rfl (fun j hj => absurd hj (Nat.not_lt_zero j))
  intro d
  induction d with
  | zero =>
    intro m hm h
    have h1 := h 64 (by omega)
    exact absurd h1 (by omega)
  | succ d ih =>
    intro m hm h
    have hm65 : m < 65 := by rcases Nat.lt_or_ge m 65 with q | q; (· exact q); (· have h1 := h 64 (by omega); exact absurd h1 (by omega))
    have hb : m * m < 4226 := Nat.lt_of_le_of_lt (Nat.mul_le_mul (show m ≤ 65 by omega) (show m ≤ 65 by omega)) (by decide)
    refine ev_iload_n (pc' := 3) (i := 1) dX7_isSquare_2 rfl rfl rfl ?_
    refine ev_bipush (pc' := 5) (v := 64) dX7_isSquare_3 rfl kb_64 ?_
    refine ev_icmp_gt (tgt := 30) (pc' := 8) dX7_isSquare_5 rfl rfl (fun h => absurd h (nx_nlt (a := 64) (b := m) (by omega) (by omega))) (fun _ => ?_)
    refine ev_iload_n (pc' := 9) (i := 1) dX7_isSquare_8 rfl rfl rfl ?_
    refine ev_iload_n (pc' := 10) (i := 1) dX7_isSquare_9 rfl rfl rfl ?_
    refine ev_imul (pc' := 11) (v := nI (m * m)) dX7_isSquare_10 rfl (pk_mul m m) ?_
    refine ev_iload_n (pc' := 12) (i := 0) dX7_isSquare_11 rfl rfl rfl ?_
    refine ev_icmp_gt (tgt := 30) (pc' := 15) dX7_isSquare_12 rfl rfl (fun c1 => ?_) (fun c1 => ?_)
    · refine ev_iconst (pc' := 31) (v := 0) dX7_isSquare_30 rfl ki_0 ?_
      refine ev_iret dX7_isSquare_31 rfl rfl ⟨Nat.le_refl _, Nat.le_refl _⟩ ?_
      refine k 0 (Or.inl rfl) ⟨fun q => absurd q (by decide), ?_⟩
      rintro ⟨j, hj⟩
      have q2 := c1
      rw [nb_lt, nI_toInt (by omega)] at q2
      have hjm : ¬ j < m := fun q => by have := h j q; omega
      have := Nat.mul_le_mul (Nat.not_lt.mp hjm) (Nat.not_lt.mp hjm)
      omega
    · refine ev_iload_n (pc' := 16) (i := 1) dX7_isSquare_15 rfl rfl rfl ?_
      refine ev_iload_n (pc' := 17) (i := 1) dX7_isSquare_16 rfl rfl rfl ?_
      refine ev_imul (pc' := 18) (v := nI (m * m)) dX7_isSquare_17 rfl (pk_mul m m) ?_
      refine ev_iload_n (pc' := 19) (i := 0) dX7_isSquare_18 rfl rfl rfl ?_
      refine ev_icmp_ne (tgt := 24) (pc' := 22) dX7_isSquare_19 rfl rfl (fun c2 => ?_) (fun c2 => ?_)
      · refine ev_iinc (pc' := 27) (v := nI (m + 1)) (lv' := [some (.int v), some (.int (nI (m + 1)))]) dX7_isSquare_24 rfl rfl (nI_add m 1) (Nat.le_of_ble_eq_true rfl) rfl rfl ?_
        refine ev_goto (tgt := 2) dX7_isSquare_27 rfl ?_
        refine ih (m + 1) (by omega) (pt_all h ?_)
        have q2 := c1
        have q3 := c2
        rw [nb_lt, nI_toInt (by omega)] at q2
        rw [nb_eq, nI_toInt (by omega)] at q3
        omega
      · refine ev_iconst (pc' := 23) (v := 1) dX7_isSquare_22 rfl ki_1 ?_
        refine ev_iret dX7_isSquare_23 rfl rfl ⟨Nat.le_refl _, Nat.le_refl _⟩ ?_
        refine k 1 (Or.inr rfl) ⟨fun _ => ⟨m, ?_⟩, fun _ => rfl⟩
        have q3 := c2
        rw [← q3, nI_toInt (by omega)]
def cEu : Nat → Nat → Nat → Nat × Nat
  | 0, x, y => (x, y)
  | d + 1, x, y => if y = 0 then (x, y) else cEu d y (x % y)
def cFb : Nat → Nat × Nat
  | 0 => (0, 1)
  | n + 1 => ((cFb n).2, (cFb n).1 + (cFb n).2)
theorem cEu_0 : ∀ (d x : Nat), (cEu d x 0).2 = 0
  | 0, _ => rfl
  | d + 1, x => by show (if (0 : Nat) = 0 then (x, 0) else _).2 = 0; rw [if_pos rfl]
theorem cEu_s {d x y : Nat} (h : ¬ y = 0) : cEu (d + 1) x y = cEu d y (x % y) := by show (if y = 0 then _ else _) = _; rw [if_neg h]
theorem cEu_end (n : Nat) : ∀ x y, y < x → x < (cFb (n + 2)).1 → (cEu n x y).2 = 0 := by
  induction n using Nat.strongRecOn with
  | ind n ih =>
    intro x y hy hx
    match n, ih, hx with
    | 0, _, hx => have hx : x < 1 := hx; omega
    | n + 1, ih, hx =>
      by_cases h0 : y = 0
      · subst h0; exact cEu_0 _ _
      · rw [cEu_s h0]
        have hr : x % y < y := Nat.mod_lt _ (by omega)
        by_cases h1 : y < (cFb (n + 2)).1
        · exact ih n (by omega) y (x % y) hr h1
        · have e : (cFb (n + 1 + 2)).1 = (cFb (n + 1)).1 + (cFb (n + 2)).1 := rfl
          have h2 : x % y < (cFb (n + 1)).1 := by
            have := Nat.mod_add_div x y
            have : 0 < x / y := Nat.div_pos (by omega) (by omega)
            have : y ≤ y * (x / y) := Nat.le_mul_of_pos_right y this
            omega
          match n, ih, h2 with
          | 0, _, h2 => have h2 : x % y < 1 := h2; rw [show x % y = 0 by omega]; rfl
          | n + 1, ih, h2 =>
            by_cases h3 : x % y = 0
            · rw [h3]; exact cEu_0 _ _
            · rw [cEu_s h3]
              exact ih n (by omega) (x % y) (y % (x % y)) (Nat.mod_lt _ (by omega)) h2
theorem cEu_100 {x y : Nat} (hy : y < 9223372036854775808) : (cEu 100 x y).2 = 0 := by
  by_cases h : y = 0
  · subst h; exact cEu_0 _ _
  · rw [cEu_s h]
    exact cEu_end 99 y (x % y) (Nat.mod_lt _ (by omega)) (Nat.lt_of_lt_of_le hy (by decide))
set_option maxRecDepth 4000 in
theorem t_X7_commonPart {g : ma_G} {Post : ma_P} {I : ma_I} {L : ma_L}  (a : Int64) (b : Int64) (ha : a.toInt ≠ -9223372036854775808) (hb : b.toInt ≠ -9223372036854775808) (k : Post (some (.long (lN (Nat.gcd a.toInt.natAbs b.toInt.natAbs)))) HS I L RF 146) : CT g yX7_commonPart cX7_commonPart 11 (some .long) rX7_commonPart [.long a, .long b] Post HS I L RF 146 := by
  refine ct_of (lv := [some (.long a), none, some (.long b), none, none, none, none, none, none, none, none]) (by decide) (Nat.le_of_ble_eq_true rfl) rfl ?_
  refine ev_lload_n (pc' := 1) (i := 0) dX7_commonPart_0 rfl rfl rfl ?_
  refine ev_mabsl (pc' := 4) co_X7_358 cs_J9_abs_067f4 (tb_m (i := 620) rfl) dX7_commonPart_1 rfl (Nat.le_of_ble_eq_true rfl) (Nat.le_of_ble_eq_true rfl) ⟨(Nat.le_of_ble_eq_true rfl), (Nat.le_of_ble_eq_true rfl)⟩ ?_
  refine ev_lstore (pc' := 6) (lv' := [some (.long a), none, some (.long b), none, some (.long (mAb a)), none, none, none, none, none, none]) dX7_commonPart_4 rfl (Nat.le_of_ble_eq_true rfl) rfl rfl ?_
  refine ev_lload_n (pc' := 7) (i := 2) dX7_commonPart_6 rfl rfl rfl ?_
  refine ev_mabsl (pc' := 10) co_X7_358 cs_J9_abs_067f4 (tb_m (i := 620) rfl) dX7_commonPart_7 rfl (Nat.le_of_ble_eq_true rfl) (Nat.le_of_ble_eq_true rfl) ⟨(Nat.le_of_ble_eq_true rfl), (Nat.le_of_ble_eq_true rfl)⟩ ?_
  refine ev_lstore (pc' := 12) (lv' := [some (.long a), none, some (.long b), none, some (.long (mAb a)), none, some (.long (mAb b)), none, none, none, none]) dX7_commonPart_10 rfl (Nat.le_of_ble_eq_true rfl) rfl rfl ?_
  refine ev_iconst (pc' := 13) (v := 0) dX7_commonPart_12 rfl ki_0 ?_
  refine ev_istore (pc' := 15) (lv' := [some (.long a), none, some (.long b), none, some (.long (mAb a)), none, some (.long (mAb b)), none, some (.int 0), none, none]) dX7_commonPart_13 rfl (Nat.le_of_ble_eq_true rfl) rfl rfl ?_
  suffices lp : ∀ (d s X Y : Nat), s + d = 100 → X < 9223372036854775808 → Y < 9223372036854775808 → (cEu d X Y).2 = 0 → Nat.gcd X Y = Nat.gcd a.toInt.natAbs b.toInt.natAbs → EV g yX7_commonPart cX7_commonPart 11 (some .long) rX7_commonPart (ma_ZM g rX7_commonPart Post) 15 [some (.long a), none, some (.long b), none, some (.long (lN X)), none, some (.long (lN Y)), none, some (.int (nI s)), none, none] [] HS I L RF 146 0 0 by
    have ra := nb_rngL a
    have rb := nb_rngL b
    rw [mAb_nat ha, mAb_nat hb]
    exact lp 100 0 _ _ rfl (by omega) (by omega) (cEu_100 (by omega)) rfl
  intro d
  induction d with
  | zero =>
    intro s X Y hs hX hY he hg
    have he : Y = 0 := he
    subst he
    obtain rfl : s = 100 := by omega
    refine ev_iload (pc' := 17) dX7_commonPart_15 rfl rfl ?_
    refine ev_bipush (pc' := 19) (v := 100) dX7_commonPart_17 rfl kb_100 ?_
    refine ev_icmp_ge (tgt := 50) (pc' := 22) dX7_commonPart_19 rfl rfl (fun _ => ?_) (fun h => absurd (nx_le (a := 100) (b := 100) (by omega) (by omega)) h)
    refine ev_lload (pc' := 52) dX7_commonPart_50 rfl rfl ?_
    refine ev_lret dX7_commonPart_52 rfl ⟨Nat.le_refl _, Nat.le_refl _⟩ ?_
    rw [Nat.gcd_zero_right] at hg
    rw [← hg] at k
    exact k
  | succ d ih =>
    intro s X Y hs hX hY he hg
    by_cases h0 : Y = 0
    · subst h0
      refine ev_iload (pc' := 17) dX7_commonPart_15 rfl rfl ?_
      refine ev_bipush (pc' := 19) (v := 100) dX7_commonPart_17 rfl kb_100 ?_
      refine ev_icmp_ge (tgt := 50) (pc' := 22) dX7_commonPart_19 rfl rfl (fun h => absurd h (nx_nle (a := 100) (b := s) (by omega) (by omega))) (fun _ => ?_)
      refine ev_lload (pc' := 24) dX7_commonPart_22 rfl rfl ?_
      refine ev_lconst (pc' := 25) (v := 0) dX7_commonPart_24 rfl kl_0 ?_
      refine ev_lc_eq (p1 := 26) (tgt := 50) (pc' := 29) dX7_commonPart_25 rfl dX7_commonPart_26 rfl rfl (fun _ => ?_) (fun h => absurd rfl h)
      refine ev_lload (pc' := 52) dX7_commonPart_50 rfl rfl ?_
      refine ev_lret dX7_commonPart_52 rfl ⟨Nat.le_refl _, Nat.le_refl _⟩ ?_
      rw [Nat.gcd_zero_right] at hg
      rw [← hg] at k
      exact k
    · have hn : ¬ lN Y = 0 := fun q => h0 ((lz_0 hY).mp q)
      refine ev_iload (pc' := 17) dX7_commonPart_15 rfl rfl ?_
      refine ev_bipush (pc' := 19) (v := 100) dX7_commonPart_17 rfl kb_100 ?_
      refine ev_icmp_ge (tgt := 50) (pc' := 22) dX7_commonPart_19 rfl rfl (fun h => absurd h (nx_nle (a := 100) (b := s) (by omega) (by omega))) (fun _ => ?_)
      refine ev_lload (pc' := 24) dX7_commonPart_22 rfl rfl ?_
      refine ev_lconst (pc' := 25) (v := 0) dX7_commonPart_24 rfl kl_0 ?_
      refine ev_lc_eq (p1 := 26) (tgt := 50) (pc' := 29) dX7_commonPart_25 rfl dX7_commonPart_26 rfl rfl (fun h => absurd h hn) (fun _ => ?_)
      refine ev_lload (pc' := 31) dX7_commonPart_29 rfl rfl ?_
      refine ev_lload (pc' := 33) dX7_commonPart_31 rfl rfl ?_
      refine ev_lrem (pc' := 34) (v := lN (X % Y)) dX7_commonPart_33 rfl hn (pk_lRem (by omega) (by omega) (by omega)) ?_
      refine ev_lstore (pc' := 36) (lv' := [some (.long a), none, some (.long b), none, some (.long (lN X)), none, some (.long (lN Y)), none, some (.int (nI s)), some (.long (lN (X % Y))), none]) dX7_commonPart_34 rfl (Nat.le_of_ble_eq_true rfl) rfl rfl ?_
      refine ev_lload (pc' := 38) dX7_commonPart_36 rfl rfl ?_
      refine ev_lstore (pc' := 40) (lv' := [some (.long a), none, some (.long b), none, some (.long (lN Y)), none, some (.long (lN Y)), none, some (.int (nI s)), some (.long (lN (X % Y))), none]) dX7_commonPart_38 rfl (Nat.le_of_ble_eq_true rfl) rfl rfl ?_
      refine ev_lload (pc' := 42) dX7_commonPart_40 rfl rfl ?_
      refine ev_lstore (pc' := 44) (lv' := [some (.long a), none, some (.long b), none, some (.long (lN Y)), none, some (.long (lN (X % Y))), none, some (.int (nI s)), some (.long (lN (X % Y))), none]) dX7_commonPart_42 rfl (Nat.le_of_ble_eq_true rfl) rfl rfl ?_
      refine ev_iinc (pc' := 47) (v := nI (s + 1)) (lv' := [some (.long a), none, some (.long b), none, some (.long (lN Y)), none, some (.long (lN (X % Y))), none, some (.int (nI (s + 1))), some (.long (lN (X % Y))), none]) dX7_commonPart_44 rfl rfl (nI_add s 1) (Nat.le_of_ble_eq_true rfl) rfl rfl ?_
      refine ev_goto (tgt := 15) dX7_commonPart_47 rfl ?_
      refine ev_lvw (lv' := [some (.long a), none, some (.long b), none, some (.long (lN Y)), none, some (.long (lN (X % Y))), none, some (.int (nI (s + 1))), none, none]) ⟨rfl, ⟨rfl, ⟨rfl, ⟨rfl, ⟨rfl, trivial⟩⟩⟩⟩⟩ ?_
      exact ih (s + 1) Y (X % Y) (by omega) hY (Nat.lt_of_lt_of_le (Nat.mod_lt _ (by omega)) (by omega)) (by rw [cEu_s h0] at he; exact he) ((gcd_st X Y).trans hg)
/-- the changes of sign among the first k numbers, and the last sign that isn't 0 -/
def cSc (f : Nat → Int64) : Nat → Int32 × Int32
  | 0 => (0, 0)
  | k + 1 => if mSg (f k) = 0 then cSc f k else ((cSc f k).1 + (if (cSc f k).2 = 0 ∨ mSg (f k) = (cSc f k).2 then 0 else 1), mSg (f k))
set_option maxRecDepth 4000 in
theorem t_X7_signChanges {g : ma_G} {Post : ma_P} {I : ma_I} {L : ma_L} (b : Nat) (hb : HS b = (10, 5)) (k0 : Post (some (.int (cSc (L b) 5).1)) HS I L RF 146) : CT g yX7_signChanges cX7_signChanges 5 (some .int) rX7_signChanges [.ref b] Post HS I L RF 146 := by
  refine ct_of (lv := [some (.ref b), none, none, none, none]) (by decide) (Nat.le_of_ble_eq_true rfl) rfl ?_
  refine ev_iconst (pc' := 1) (v := 0) dX7_signChanges_0 rfl ki_0 ?_
  refine ev_istore_n (pc' := 2) (i := 1) (lv' := [some (.ref b), some (.int 0), none, none, none]) dX7_signChanges_1 rfl rfl (Nat.le_of_ble_eq_true rfl) rfl rfl ?_
  refine ev_iconst (pc' := 3) (v := 0) dX7_signChanges_2 rfl ki_0 ?_
  refine ev_istore_n (pc' := 4) (i := 2) (lv' := [some (.ref b), some (.int 0), some (.int 0), none, none]) dX7_signChanges_3 rfl rfl (Nat.le_of_ble_eq_true rfl) rfl rfl ?_
  refine ev_iconst (pc' := 5) (v := 0) dX7_signChanges_4 rfl ki_0 ?_
  refine ev_istore_n (pc' := 6) (i := 3) (lv' := [some (.ref b), some (.int 0), some (.int 0), some (.int 0), none]) dX7_signChanges_5 rfl rfl (Nat.le_of_ble_eq_true rfl) rfl rfl ?_
  suffices lp : ∀ (d k : Nat) (c l : Int32), k + d = 5 → (c, l) = cSc (L b) k → EV g yX7_signChanges cX7_signChanges 5 (some .int) rX7_signChanges (ma_ZM g rX7_signChanges Post) 6 [some (.ref b), some (.int c), some (.int l), some (.int (nI k)), none] [] HS I L RF 146 0 0 from lp 5 0 0 0 rfl rfl
  intro d
  induction d with
  | zero =>
    intro k c l hk hs
    obtain rfl : k = 5 := by omega
    refine ev_iload_n (pc' := 7) (i := 3) dX7_signChanges_6 rfl rfl rfl ?_
    refine ev_aload_n (pc' := 8) (i := 0) dX7_signChanges_7 rfl rfl rfl ?_
    refine ev_alen (pc' := 9) (v := 5) dX7_signChanges_8 rfl hb (by decide) rfl ?_
    refine ev_icmp_ge (tgt := 47) (pc' := 12) dX7_signChanges_9 rfl rfl (fun _ => ?_) (fun h => absurd (nx_le (a := 5) (b := 5) (by omega) (by omega)) h)
    refine ev_iload_n (pc' := 48) (i := 1) dX7_signChanges_47 rfl rfl rfl ?_
    refine ev_iret dX7_signChanges_48 rfl rfl ⟨Nat.le_refl _, Nat.le_refl _⟩ ?_
    rw [← hs] at k0
    exact k0
  | succ d ih =>
    intro k c l hk hs
    refine ev_iload_n (pc' := 7) (i := 3) dX7_signChanges_6 rfl rfl rfl ?_
    refine ev_aload_n (pc' := 8) (i := 0) dX7_signChanges_7 rfl rfl rfl ?_
    refine ev_alen (pc' := 9) (v := 5) dX7_signChanges_8 rfl hb (by decide) rfl ?_
    refine ev_icmp_ge (tgt := 47) (pc' := 12) dX7_signChanges_9 rfl rfl (fun h => absurd h (nx_nle (a := 5) (b := k) (by omega) (by omega))) (fun _ => ?_)
    refine ev_aload_n (pc' := 13) (i := 0) dX7_signChanges_12 rfl rfl rfl ?_
    refine ev_iload_n (pc' := 14) (i := 3) dX7_signChanges_13 rfl rfl rfl ?_
    refine ev_lald (pc' := 15) (j := k) (v := (L b) k) dX7_signChanges_14 rfl hb rfl (by omega) (Nat.le_of_ble_eq_true rfl) rfl ?_
    refine ev_callS (pc' := 18) (rm' := rX7_signOf) (av := [.long ((L b) k)]) (rest := []) co_X7_225 cs_X7_signOf dX7_signChanges_15 rfl rfl rfl (Nat.le_of_ble_eq_true rfl) ⟨(Nat.le_of_ble_eq_true rfl), (Nat.le_of_ble_eq_true rfl)⟩ ⟨(Nat.le_of_ble_eq_true rfl), (Nat.le_of_ble_eq_true rfl)⟩ ?_
    refine t_X7_signOf ((L b) k) ?_
    refine ev_eqi (w := mSg ((L b) k)) rfl ?_
    refine ev_istore (pc' := 20) (lv' := [some (.ref b), some (.int c), some (.int l), some (.int (nI k)), some (.int (mSg ((L b) k)))]) dX7_signChanges_18 rfl (Nat.le_of_ble_eq_true rfl) rfl rfl ?_
    refine ev_iload (pc' := 22) dX7_signChanges_20 rfl rfl ?_
    refine ev_if_eq (tgt := 41) (pc' := 25) dX7_signChanges_22 rfl rfl (fun c1 => ?_) (fun c1 => ?_)
    · refine ev_iinc (pc' := 44) (v := nI (k + 1)) (lv' := [some (.ref b), some (.int c), some (.int l), some (.int (nI (k + 1))), some (.int (mSg ((L b) k)))]) dX7_signChanges_41 rfl rfl (nI_add k 1) (Nat.le_of_ble_eq_true rfl) rfl rfl ?_
      refine ev_goto (tgt := 6) dX7_signChanges_44 rfl ?_
      refine ev_lvw (lv' := [some (.ref b), some (.int c), some (.int l), some (.int (nI (k + 1))), none]) ⟨rfl, ⟨rfl, ⟨rfl, ⟨rfl, trivial⟩⟩⟩⟩ ?_
      exact ih (k + 1) _ _ (by omega) (by show _ = (if _ then _ else _); rw [if_pos c1]; exact hs)
    · refine ev_iload_n (pc' := 26) (i := 2) dX7_signChanges_25 rfl rfl rfl ?_
      refine ev_if_eq (tgt := 38) (pc' := 29) dX7_signChanges_26 rfl rfl (fun c2 => ?_) (fun c2 => ?_)
      · refine ev_iload (pc' := 40) dX7_signChanges_38 rfl rfl ?_
        refine ev_istore_n (pc' := 41) (i := 2) (lv' := [some (.ref b), some (.int c), some (.int (mSg ((L b) k))), some (.int (nI k)), some (.int (mSg ((L b) k)))]) dX7_signChanges_40 rfl rfl (Nat.le_of_ble_eq_true rfl) rfl rfl ?_
        refine ev_iinc (pc' := 44) (v := nI (k + 1)) (lv' := [some (.ref b), some (.int c), some (.int (mSg ((L b) k))), some (.int (nI (k + 1))), some (.int (mSg ((L b) k)))]) dX7_signChanges_41 rfl rfl (nI_add k 1) (Nat.le_of_ble_eq_true rfl) rfl rfl ?_
        refine ev_goto (tgt := 6) dX7_signChanges_44 rfl ?_
        refine ev_lvw (lv' := [some (.ref b), some (.int c), some (.int (mSg ((L b) k))), some (.int (nI (k + 1))), none]) ⟨rfl, ⟨rfl, ⟨rfl, ⟨rfl, trivial⟩⟩⟩⟩ ?_
        exact ih (k + 1) _ _ (by omega) (by show _ = (if _ then _ else ((cSc (L b) k).1 + (if (cSc (L b) k).2 = 0 ∨ _ = (cSc (L b) k).2 then _ else _), _)); rw [if_neg c1, ← hs, if_pos (Or.inl c2)]; rw [Int32.add_zero])
      · refine ev_iload (pc' := 31) dX7_signChanges_29 rfl rfl ?_
        refine ev_iload_n (pc' := 32) (i := 2) dX7_signChanges_31 rfl rfl rfl ?_
        refine ev_icmp_eq (tgt := 38) (pc' := 35) dX7_signChanges_32 rfl rfl (fun c3 => ?_) (fun c3 => ?_)
        · refine ev_iload (pc' := 40) dX7_signChanges_38 rfl rfl ?_
          refine ev_istore_n (pc' := 41) (i := 2) (lv' := [some (.ref b), some (.int c), some (.int (mSg ((L b) k))), some (.int (nI k)), some (.int (mSg ((L b) k)))]) dX7_signChanges_40 rfl rfl (Nat.le_of_ble_eq_true rfl) rfl rfl ?_
          refine ev_iinc (pc' := 44) (v := nI (k + 1)) (lv' := [some (.ref b), some (.int c), some (.int (mSg ((L b) k))), some (.int (nI (k + 1))), some (.int (mSg ((L b) k)))]) dX7_signChanges_41 rfl rfl (nI_add k 1) (Nat.le_of_ble_eq_true rfl) rfl rfl ?_
          refine ev_goto (tgt := 6) dX7_signChanges_44 rfl ?_
          refine ev_lvw (lv' := [some (.ref b), some (.int c), some (.int (mSg ((L b) k))), some (.int (nI (k + 1))), none]) ⟨rfl, ⟨rfl, ⟨rfl, ⟨rfl, trivial⟩⟩⟩⟩ ?_
          exact ih (k + 1) _ _ (by omega) (by show _ = (if _ then _ else ((cSc (L b) k).1 + (if (cSc (L b) k).2 = 0 ∨ _ = (cSc (L b) k).2 then _ else _), _)); rw [if_neg c1, ← hs, if_pos (Or.inr c3)]; rw [Int32.add_zero])
        · refine ev_iinc (pc' := 38) (v := c + 1) (lv' := [some (.ref b), some (.int (c + 1)), some (.int l), some (.int (nI k)), some (.int (mSg ((L b) k)))]) dX7_signChanges_35 rfl rfl rfl (Nat.le_of_ble_eq_true rfl) rfl rfl ?_
          refine ev_iload (pc' := 40) dX7_signChanges_38 rfl rfl ?_
          refine ev_istore_n (pc' := 41) (i := 2) (lv' := [some (.ref b), some (.int (c + 1)), some (.int (mSg ((L b) k))), some (.int (nI k)), some (.int (mSg ((L b) k)))]) dX7_signChanges_40 rfl rfl (Nat.le_of_ble_eq_true rfl) rfl rfl ?_
          refine ev_iinc (pc' := 44) (v := nI (k + 1)) (lv' := [some (.ref b), some (.int (c + 1)), some (.int (mSg ((L b) k))), some (.int (nI (k + 1))), some (.int (mSg ((L b) k)))]) dX7_signChanges_41 rfl rfl (nI_add k 1) (Nat.le_of_ble_eq_true rfl) rfl rfl ?_
          refine ev_goto (tgt := 6) dX7_signChanges_44 rfl ?_
          refine ev_lvw (lv' := [some (.ref b), some (.int (c + 1)), some (.int (mSg ((L b) k))), some (.int (nI (k + 1))), none]) ⟨rfl, ⟨rfl, ⟨rfl, ⟨rfl, trivial⟩⟩⟩⟩ ?_
          exact ih (k + 1) _ _ (by omega) (by show _ = (if _ then _ else ((cSc (L b) k).1 + (if (cSc (L b) k).2 = 0 ∨ _ = (cSc (L b) k).2 then _ else _), _)); rw [if_neg c1, ← hs, if_neg (fun q => q.elim c2 c3)])
