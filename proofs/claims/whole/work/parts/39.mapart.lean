def mLAl (f : Nat → Int64) : Nat → Int32 × Int32
  | 0 => (0, mSg (f 0))
  | k + 1 => if f (k + 1) = 0 then mLAl f k else ((mLAl f k).1 + (if mSg (f (k + 1)) = (mLAl f k).2 then 0 else 1), mSg (f (k + 1)))
/-- how many of the roots left lie above 0 -/
def mLA (m : Nat) (rl tw : Int32) (f : Nat → Int64) : Int32 :=
  if tw = 0 then (if m < 2 then (if m = 1 ∧ ¬ 0 ≤ mSg (f 1) * mSg (f 0) then 1 else 0) else if nI m ≤ rl then (mLAl f m).1 else 0)
  else if rl = 0 then 0 else if ¬ 0 ≤ 4 * f 0 * f 2 - f 1 * f 1 then 2 else if ¬ 0 ≤ mSg (f 1) * mSg (f 0) then 4 else 0
set_option maxRecDepth 4000 in
theorem t_X8_leftAbove0 {g : ma_G} {Post : ma_P} {I : ma_I} {L : ma_L} (hd : I 115 36 = 0) (k0 : Post (some (.int (mLA 0 (I 115 38) (I 115 39) (L 142)))) HS I L RF 146) : CT g yX8_leftAbove cX8_leftAbove 4 (some .int) rX8_leftAbove [.ref 115] Post HS I L RF 146 := by
  refine ct_of (lv := [some (.ref 115), none, none, none]) (by decide) (Nat.le_of_ble_eq_true rfl) rfl ?_
  refine ev_aload_n (pc' := 1) (i := 0) dX8_leftAbove_0 rfl rfl rfl ?_
  refine ev_getI (pc' := 4) (v := (I 115) 39) fo_X8_295 dX8_leftAbove_1 rfl hs_115 rfl rfl ?_
  refine ev_if_eq (tgt := 98) (pc' := 7) dX8_leftAbove_4 rfl rfl (fun c1 => ?_) (fun c1 => ?_)
  · refine ev_aload_n (pc' := 99) (i := 0) dX8_leftAbove_98 rfl rfl rfl ?_
    refine ev_getI (pc' := 102) (v := 0) fo_X8_267 dX8_leftAbove_99 rfl hs_115 rfl hd ?_
    refine ev_iconst (pc' := 103) (v := 2) dX8_leftAbove_102 rfl ki_2 ?_
    refine ev_icmp_ge (tgt := 142) (pc' := 106) dX8_leftAbove_103 rfl rfl (fun h => absurd h (by decide)) (fun _ => ?_)
    refine ev_aload_n (pc' := 107) (i := 0) dX8_leftAbove_106 rfl rfl rfl ?_
    refine ev_getI (pc' := 110) (v := 0) fo_X8_267 dX8_leftAbove_107 rfl hs_115 rfl hd ?_
    refine ev_iconst (pc' := 111) (v := 1) dX8_leftAbove_110 rfl ki_1 ?_
    refine ev_icmp_ne (tgt := 140) (pc' := 114) dX8_leftAbove_111 rfl rfl (fun _ => ?_) (fun h => absurd h (by decide))
    refine ev_iconst (pc' := 141) (v := 0) dX8_leftAbove_140 rfl ki_0 ?_
    refine ev_iret dX8_leftAbove_141 rfl rfl ⟨Nat.le_refl _, Nat.le_refl _⟩ ?_
    have e : mLA 0 (I 115 38) (I 115 39) (L 142) = 0 := by simp [mLA, c1]
    rw [e] at k0
    exact k0
  · refine ev_ldc2 (pc' := 10) cl_X8_301 dX8_leftAbove_7 rfl ?_
    refine ev_aload_n (pc' := 11) (i := 0) dX8_leftAbove_10 rfl rfl rfl ?_
    refine ev_getR (pc' := 14) fo_X8_94 dX8_leftAbove_11 rfl hs_115 rfl rf_115_37 ?_
    refine ev_iconst (pc' := 15) (v := 0) dX8_leftAbove_14 rfl ki_0 ?_
    refine ev_lald (pc' := 16) (j := 0) (v := (L 142) 0) dX8_leftAbove_15 rfl hs_142 rfl (Nat.le_of_ble_eq_true rfl) (Nat.le_of_ble_eq_true rfl) rfl ?_
    refine ev_lmul (pc' := 17) (v := 4 * ((L 142) 0)) dX8_leftAbove_16 rfl rfl ?_
    refine ev_aload_n (pc' := 18) (i := 0) dX8_leftAbove_17 rfl rfl rfl ?_
    refine ev_getR (pc' := 21) fo_X8_94 dX8_leftAbove_18 rfl hs_115 rfl rf_115_37 ?_
    refine ev_iconst (pc' := 22) (v := 2) dX8_leftAbove_21 rfl ki_2 ?_
    refine ev_lald (pc' := 23) (j := 2) (v := (L 142) 2) dX8_leftAbove_22 rfl hs_142 rfl (Nat.le_of_ble_eq_true rfl) (Nat.le_of_ble_eq_true rfl) rfl ?_
    refine ev_lmul (pc' := 24) (v := (4 * ((L 142) 0)) * ((L 142) 2)) dX8_leftAbove_23 rfl rfl ?_
    refine ev_aload_n (pc' := 25) (i := 0) dX8_leftAbove_24 rfl rfl rfl ?_
    refine ev_getR (pc' := 28) fo_X8_94 dX8_leftAbove_25 rfl hs_115 rfl rf_115_37 ?_
    refine ev_iconst (pc' := 29) (v := 1) dX8_leftAbove_28 rfl ki_1 ?_
    refine ev_lald (pc' := 30) (j := 1) (v := (L 142) 1) dX8_leftAbove_29 rfl hs_142 rfl (Nat.le_of_ble_eq_true rfl) (Nat.le_of_ble_eq_true rfl) rfl ?_
    refine ev_aload_n (pc' := 31) (i := 0) dX8_leftAbove_30 rfl rfl rfl ?_
    refine ev_getR (pc' := 34) fo_X8_94 dX8_leftAbove_31 rfl hs_115 rfl rf_115_37 ?_
    refine ev_iconst (pc' := 35) (v := 1) dX8_leftAbove_34 rfl ki_1 ?_
    refine ev_lald (pc' := 36) (j := 1) (v := (L 142) 1) dX8_leftAbove_35 rfl hs_142 rfl (Nat.le_of_ble_eq_true rfl) (Nat.le_of_ble_eq_true rfl) rfl ?_
    refine ev_lmul (pc' := 37) (v := ((L 142) 1) * ((L 142) 1)) dX8_leftAbove_36 rfl rfl ?_
    refine ev_lsub (pc' := 38) (v := ((4 * ((L 142) 0)) * ((L 142) 2)) - (((L 142) 1) * ((L 142) 1))) dX8_leftAbove_37 rfl rfl ?_
    refine ev_lstore_n (pc' := 39) (i := 1) (lv' := [some (.ref 115), some (.long (((4 * ((L 142) 0)) * ((L 142) 2)) - (((L 142) 1) * ((L 142) 1)))), none, none]) dX8_leftAbove_38 rfl rfl (Nat.le_of_ble_eq_true rfl) rfl rfl ?_
    refine ev_aload_n (pc' := 40) (i := 0) dX8_leftAbove_39 rfl rfl rfl ?_
    refine ev_getR (pc' := 43) fo_X8_94 dX8_leftAbove_40 rfl hs_115 rfl rf_115_37 ?_
    refine ev_iconst (pc' := 44) (v := 1) dX8_leftAbove_43 rfl ki_1 ?_
    refine ev_lald (pc' := 45) (j := 1) (v := (L 142) 1) dX8_leftAbove_44 rfl hs_142 rfl (Nat.le_of_ble_eq_true rfl) (Nat.le_of_ble_eq_true rfl) rfl ?_
    refine ev_callS (pc' := 48) (rm' := rX8_sign) (av := [.long ((L 142) 1)]) (rest := []) co_X8_156 cs_X8_sign dX8_leftAbove_45 rfl rfl rfl (Nat.le_of_ble_eq_true rfl) ⟨(Nat.le_of_ble_eq_true rfl), (Nat.le_of_ble_eq_true rfl)⟩ ⟨(Nat.le_of_ble_eq_true rfl), (Nat.le_of_ble_eq_true rfl)⟩ ?_
    refine t_X8_sign ((L 142) 1)  ?_
    refine ev_aload_n (pc' := 49) (i := 0) dX8_leftAbove_48 rfl rfl rfl ?_
    refine ev_getR (pc' := 52) fo_X8_94 dX8_leftAbove_49 rfl hs_115 rfl rf_115_37 ?_
    refine ev_iconst (pc' := 53) (v := 0) dX8_leftAbove_52 rfl ki_0 ?_
    refine ev_lald (pc' := 54) (j := 0) (v := (L 142) 0) dX8_leftAbove_53 rfl hs_142 rfl (Nat.le_of_ble_eq_true rfl) (Nat.le_of_ble_eq_true rfl) rfl ?_
    refine ev_callS (pc' := 57) (rm' := rX8_sign) (av := [.long ((L 142) 0)]) (rest := [.int (mSg ((L 142) 1))]) co_X8_156 cs_X8_sign dX8_leftAbove_54 rfl rfl rfl (Nat.le_of_ble_eq_true rfl) ⟨(Nat.le_of_ble_eq_true rfl), (Nat.le_of_ble_eq_true rfl)⟩ ⟨(Nat.le_of_ble_eq_true rfl), (Nat.le_of_ble_eq_true rfl)⟩ ?_
    refine t_X8_sign ((L 142) 0)  ?_
    refine ev_imul (pc' := 58) (v := (mSg ((L 142) 1)) * (mSg ((L 142) 0))) dX8_leftAbove_57 rfl rfl ?_
    refine ev_if_ge (tgt := 65) (pc' := 61) dX8_leftAbove_58 rfl rfl (fun c2 => ?_) (fun c2 => ?_)
    · refine ev_iconst (pc' := 66) (v := 0) dX8_leftAbove_65 rfl ki_0 ?_
      refine ev_istore_n (pc' := 67) (i := 3) (lv' := [some (.ref 115), some (.long (((4 * ((L 142) 0)) * ((L 142) 2)) - (((L 142) 1) * ((L 142) 1)))), none, some (.int 0)]) dX8_leftAbove_66 rfl rfl (Nat.le_of_ble_eq_true rfl) rfl rfl ?_
      refine ev_aload_n (pc' := 68) (i := 0) dX8_leftAbove_67 rfl rfl rfl ?_
      refine ev_getI (pc' := 71) (v := (I 115) 38) fo_X8_298 dX8_leftAbove_68 rfl hs_115 rfl rfl ?_
      refine ev_if_ne (tgt := 78) (pc' := 74) dX8_leftAbove_71 rfl rfl (fun c3 => ?_) (fun c3 => ?_)
      · refine ev_lload_n (pc' := 79) (i := 1) dX8_leftAbove_78 rfl rfl rfl ?_
        refine ev_lconst (pc' := 80) (v := 0) dX8_leftAbove_79 rfl kl_0 ?_
        refine ev_lc_ge (p1 := 81) (tgt := 88) (pc' := 84) dX8_leftAbove_80 rfl dX8_leftAbove_81 rfl rfl (fun c4 => ?_) (fun c4 => ?_)
        · refine ev_iload_n (pc' := 89) (i := 3) dX8_leftAbove_88 rfl rfl rfl ?_
          refine ev_if_eq (tgt := 96) (pc' := 92) dX8_leftAbove_89 rfl rfl (fun _ => ?_) (fun h => absurd (by decide) h)
          refine ev_iconst (pc' := 97) (v := 0) dX8_leftAbove_96 rfl ki_0 ?_
          refine ev_iret dX8_leftAbove_97 rfl rfl ⟨Nat.le_refl _, Nat.le_refl _⟩ ?_
          have e : mLA 0 (I 115 38) (I 115 39) (L 142) = 0 := by simp [mLA, c1, c2, c3, c4]
          rw [e] at k0
          exact k0
        · refine ev_iconst (pc' := 85) (v := 2) dX8_leftAbove_84 rfl ki_2 ?_
          refine ev_goto (tgt := 97) dX8_leftAbove_85 rfl ?_
          refine ev_iret dX8_leftAbove_97 rfl rfl ⟨Nat.le_refl _, Nat.le_refl _⟩ ?_
          have e : mLA 0 (I 115 38) (I 115 39) (L 142) = 2 := by simp [mLA, c1, c2, c3, c4]
          rw [e] at k0
          exact k0
      · refine ev_iconst (pc' := 75) (v := 0) dX8_leftAbove_74 rfl ki_0 ?_
        refine ev_goto (tgt := 97) dX8_leftAbove_75 rfl ?_
        refine ev_iret dX8_leftAbove_97 rfl rfl ⟨Nat.le_refl _, Nat.le_refl _⟩ ?_
        have e : mLA 0 (I 115 38) (I 115 39) (L 142) = 0 := by simp [mLA, c1, c2, c3]
        rw [e] at k0
        exact k0
    · refine ev_iconst (pc' := 62) (v := 1) dX8_leftAbove_61 rfl ki_1 ?_
      refine ev_goto (tgt := 66) dX8_leftAbove_62 rfl ?_
      refine ev_istore_n (pc' := 67) (i := 3) (lv' := [some (.ref 115), some (.long (((4 * ((L 142) 0)) * ((L 142) 2)) - (((L 142) 1) * ((L 142) 1)))), none, some (.int 1)]) dX8_leftAbove_66 rfl rfl (Nat.le_of_ble_eq_true rfl) rfl rfl ?_
      refine ev_aload_n (pc' := 68) (i := 0) dX8_leftAbove_67 rfl rfl rfl ?_
      refine ev_getI (pc' := 71) (v := (I 115) 38) fo_X8_298 dX8_leftAbove_68 rfl hs_115 rfl rfl ?_
      refine ev_if_ne (tgt := 78) (pc' := 74) dX8_leftAbove_71 rfl rfl (fun c5 => ?_) (fun c5 => ?_)
      · refine ev_lload_n (pc' := 79) (i := 1) dX8_leftAbove_78 rfl rfl rfl ?_
        refine ev_lconst (pc' := 80) (v := 0) dX8_leftAbove_79 rfl kl_0 ?_
        refine ev_lc_ge (p1 := 81) (tgt := 88) (pc' := 84) dX8_leftAbove_80 rfl dX8_leftAbove_81 rfl rfl (fun c6 => ?_) (fun c6 => ?_)
        · refine ev_iload_n (pc' := 89) (i := 3) dX8_leftAbove_88 rfl rfl rfl ?_
          refine ev_if_eq (tgt := 96) (pc' := 92) dX8_leftAbove_89 rfl rfl (fun h => absurd h (by decide)) (fun _ => ?_)
          refine ev_iconst (pc' := 93) (v := 4) dX8_leftAbove_92 rfl ki_4 ?_
          refine ev_goto (tgt := 97) dX8_leftAbove_93 rfl ?_
          refine ev_iret dX8_leftAbove_97 rfl rfl ⟨Nat.le_refl _, Nat.le_refl _⟩ ?_
          have e : mLA 0 (I 115 38) (I 115 39) (L 142) = 4 := by simp [mLA, c1, c2, c5, c6]
          rw [e] at k0
          exact k0
        · refine ev_iconst (pc' := 85) (v := 2) dX8_leftAbove_84 rfl ki_2 ?_
          refine ev_goto (tgt := 97) dX8_leftAbove_85 rfl ?_
          refine ev_iret dX8_leftAbove_97 rfl rfl ⟨Nat.le_refl _, Nat.le_refl _⟩ ?_
          have e : mLA 0 (I 115 38) (I 115 39) (L 142) = 2 := by simp [mLA, c1, c2, c5, c6]
          rw [e] at k0
          exact k0
      · refine ev_iconst (pc' := 75) (v := 0) dX8_leftAbove_74 rfl ki_0 ?_
        refine ev_goto (tgt := 97) dX8_leftAbove_75 rfl ?_
        refine ev_iret dX8_leftAbove_97 rfl rfl ⟨Nat.le_refl _, Nat.le_refl _⟩ ?_
        have e : mLA 0 (I 115 38) (I 115 39) (L 142) = 0 := by simp [mLA, c1, c2, c5]
        rw [e] at k0
        exact k0
set_option maxRecDepth 4000 in
theorem t_X8_leftAbove1 {g : ma_G} {Post : ma_P} {I : ma_I} {L : ma_L} (hd : I 115 36 = 1) (k0 : Post (some (.int (mLA 1 (I 115 38) (I 115 39) (L 142)))) HS I L RF 146) : CT g yX8_leftAbove cX8_leftAbove 4 (some .int) rX8_leftAbove [.ref 115] Post HS I L RF 146 := by
  refine ct_of (lv := [some (.ref 115), none, none, none]) (by decide) (Nat.le_of_ble_eq_true rfl) rfl ?_
  refine ev_aload_n (pc' := 1) (i := 0) dX8_leftAbove_0 rfl rfl rfl ?_
  refine ev_getI (pc' := 4) (v := (I 115) 39) fo_X8_295 dX8_leftAbove_1 rfl hs_115 rfl rfl ?_
  refine ev_if_eq (tgt := 98) (pc' := 7) dX8_leftAbove_4 rfl rfl (fun c1 => ?_) (fun c1 => ?_)
  · refine ev_aload_n (pc' := 99) (i := 0) dX8_leftAbove_98 rfl rfl rfl ?_
    refine ev_getI (pc' := 102) (v := 1) fo_X8_267 dX8_leftAbove_99 rfl hs_115 rfl hd ?_
    refine ev_iconst (pc' := 103) (v := 2) dX8_leftAbove_102 rfl ki_2 ?_
    refine ev_icmp_ge (tgt := 142) (pc' := 106) dX8_leftAbove_103 rfl rfl (fun h => absurd h (by decide)) (fun _ => ?_)
    refine ev_aload_n (pc' := 107) (i := 0) dX8_leftAbove_106 rfl rfl rfl ?_
    refine ev_getI (pc' := 110) (v := 1) fo_X8_267 dX8_leftAbove_107 rfl hs_115 rfl hd ?_
    refine ev_iconst (pc' := 111) (v := 1) dX8_leftAbove_110 rfl ki_1 ?_
    refine ev_icmp_ne (tgt := 140) (pc' := 114) dX8_leftAbove_111 rfl rfl (fun h => absurd (by decide) h) (fun _ => ?_)
    refine ev_aload_n (pc' := 115) (i := 0) dX8_leftAbove_114 rfl rfl rfl ?_
    refine ev_getR (pc' := 118) fo_X8_94 dX8_leftAbove_115 rfl hs_115 rfl rf_115_37 ?_
    refine ev_iconst (pc' := 119) (v := 1) dX8_leftAbove_118 rfl ki_1 ?_
    refine ev_lald (pc' := 120) (j := 1) (v := (L 142) 1) dX8_leftAbove_119 rfl hs_142 rfl (Nat.le_of_ble_eq_true rfl) (Nat.le_of_ble_eq_true rfl) rfl ?_
    refine ev_callS (pc' := 123) (rm' := rX8_sign) (av := [.long ((L 142) 1)]) (rest := []) co_X8_156 cs_X8_sign dX8_leftAbove_120 rfl rfl rfl (Nat.le_of_ble_eq_true rfl) ⟨(Nat.le_of_ble_eq_true rfl), (Nat.le_of_ble_eq_true rfl)⟩ ⟨(Nat.le_of_ble_eq_true rfl), (Nat.le_of_ble_eq_true rfl)⟩ ?_
    refine t_X8_sign ((L 142) 1)  ?_
    refine ev_aload_n (pc' := 124) (i := 0) dX8_leftAbove_123 rfl rfl rfl ?_
    refine ev_getR (pc' := 127) fo_X8_94 dX8_leftAbove_124 rfl hs_115 rfl rf_115_37 ?_
    refine ev_iconst (pc' := 128) (v := 0) dX8_leftAbove_127 rfl ki_0 ?_
    refine ev_lald (pc' := 129) (j := 0) (v := (L 142) 0) dX8_leftAbove_128 rfl hs_142 rfl (Nat.le_of_ble_eq_true rfl) (Nat.le_of_ble_eq_true rfl) rfl ?_
    refine ev_callS (pc' := 132) (rm' := rX8_sign) (av := [.long ((L 142) 0)]) (rest := [.int (mSg ((L 142) 1))]) co_X8_156 cs_X8_sign dX8_leftAbove_129 rfl rfl rfl (Nat.le_of_ble_eq_true rfl) ⟨(Nat.le_of_ble_eq_true rfl), (Nat.le_of_ble_eq_true rfl)⟩ ⟨(Nat.le_of_ble_eq_true rfl), (Nat.le_of_ble_eq_true rfl)⟩ ?_
    refine t_X8_sign ((L 142) 0)  ?_
    refine ev_imul (pc' := 133) (v := (mSg ((L 142) 1)) * (mSg ((L 142) 0))) dX8_leftAbove_132 rfl rfl ?_
    refine ev_if_ge (tgt := 140) (pc' := 136) dX8_leftAbove_133 rfl rfl (fun c2 => ?_) (fun c2 => ?_)
    · refine ev_iconst (pc' := 141) (v := 0) dX8_leftAbove_140 rfl ki_0 ?_
      refine ev_iret dX8_leftAbove_141 rfl rfl ⟨Nat.le_refl _, Nat.le_refl _⟩ ?_
      have e : mLA 1 (I 115 38) (I 115 39) (L 142) = 0 := by simp [mLA, c1, c2]
      rw [e] at k0
      exact k0
    · refine ev_iconst (pc' := 137) (v := 1) dX8_leftAbove_136 rfl ki_1 ?_
      refine ev_goto (tgt := 141) dX8_leftAbove_137 rfl ?_
      refine ev_iret dX8_leftAbove_141 rfl rfl ⟨Nat.le_refl _, Nat.le_refl _⟩ ?_
      have e : mLA 1 (I 115 38) (I 115 39) (L 142) = 1 := by simp [mLA, c1, c2]
      rw [e] at k0
      exact k0
  · refine ev_ldc2 (pc' := 10) cl_X8_301 dX8_leftAbove_7 rfl ?_
    refine ev_aload_n (pc' := 11) (i := 0) dX8_leftAbove_10 rfl rfl rfl ?_
    refine ev_getR (pc' := 14) fo_X8_94 dX8_leftAbove_11 rfl hs_115 rfl rf_115_37 ?_
    refine ev_iconst (pc' := 15) (v := 0) dX8_leftAbove_14 rfl ki_0 ?_
    refine ev_lald (pc' := 16) (j := 0) (v := (L 142) 0) dX8_leftAbove_15 rfl hs_142 rfl (Nat.le_of_ble_eq_true rfl) (Nat.le_of_ble_eq_true rfl) rfl ?_
    refine ev_lmul (pc' := 17) (v := 4 * ((L 142) 0)) dX8_leftAbove_16 rfl rfl ?_
    refine ev_aload_n (pc' := 18) (i := 0) dX8_leftAbove_17 rfl rfl rfl ?_
    refine ev_getR (pc' := 21) fo_X8_94 dX8_leftAbove_18 rfl hs_115 rfl rf_115_37 ?_
    refine ev_iconst (pc' := 22) (v := 2) dX8_leftAbove_21 rfl ki_2 ?_
    refine ev_lald (pc' := 23) (j := 2) (v := (L 142) 2) dX8_leftAbove_22 rfl hs_142 rfl (Nat.le_of_ble_eq_true rfl) (Nat.le_of_ble_eq_true rfl) rfl ?_
    refine ev_lmul (pc' := 24) (v := (4 * ((L 142) 0)) * ((L 142) 2)) dX8_leftAbove_23 rfl rfl ?_
    refine ev_aload_n (pc' := 25) (i := 0) dX8_leftAbove_24 rfl rfl rfl ?_
    refine ev_getR (pc' := 28) fo_X8_94 dX8_leftAbove_25 rfl hs_115 rfl rf_115_37 ?_
    refine ev_iconst (pc' := 29) (v := 1) dX8_leftAbove_28 rfl ki_1 ?_
    refine ev_lald (pc' := 30) (j := 1) (v := (L 142) 1) dX8_leftAbove_29 rfl hs_142 rfl (Nat.le_of_ble_eq_true rfl) (Nat.le_of_ble_eq_true rfl) rfl ?_
    refine ev_aload_n (pc' := 31) (i := 0) dX8_leftAbove_30 rfl rfl rfl ?_
    refine ev_getR (pc' := 34) fo_X8_94 dX8_leftAbove_31 rfl hs_115 rfl rf_115_37 ?_
    refine ev_iconst (pc' := 35) (v := 1) dX8_leftAbove_34 rfl ki_1 ?_
    refine ev_lald (pc' := 36) (j := 1) (v := (L 142) 1) dX8_leftAbove_35 rfl hs_142 rfl (Nat.le_of_ble_eq_true rfl) (Nat.le_of_ble_eq_true rfl) rfl ?_
    refine ev_lmul (pc' := 37) (v := ((L 142) 1) * ((L 142) 1)) dX8_leftAbove_36 rfl rfl ?_
    refine ev_lsub (pc' := 38) (v := ((4 * ((L 142) 0)) * ((L 142) 2)) - (((L 142) 1) * ((L 142) 1))) dX8_leftAbove_37 rfl rfl ?_
    refine ev_lstore_n (pc' := 39) (i := 1) (lv' := [some (.ref 115), some (.long (((4 * ((L 142) 0)) * ((L 142) 2)) - (((L 142) 1) * ((L 142) 1)))), none, none]) dX8_leftAbove_38 rfl rfl (Nat.le_of_ble_eq_true rfl) rfl rfl ?_
    refine ev_aload_n (pc' := 40) (i := 0) dX8_leftAbove_39 rfl rfl rfl ?_
    refine ev_getR (pc' := 43) fo_X8_94 dX8_leftAbove_40 rfl hs_115 rfl rf_115_37 ?_
    refine ev_iconst (pc' := 44) (v := 1) dX8_leftAbove_43 rfl ki_1 ?_
    refine ev_lald (pc' := 45) (j := 1) (v := (L 142) 1) dX8_leftAbove_44 rfl hs_142 rfl (Nat.le_of_ble_eq_true rfl) (Nat.le_of_ble_eq_true rfl) rfl ?_
    refine ev_callS (pc' := 48) (rm' := rX8_sign) (av := [.long ((L 142) 1)]) (rest := []) co_X8_156 cs_X8_sign dX8_leftAbove_45 rfl rfl rfl (Nat.le_of_ble_eq_true rfl) ⟨(Nat.le_of_ble_eq_true rfl), (Nat.le_of_ble_eq_true rfl)⟩ ⟨(Nat.le_of_ble_eq_true rfl), (Nat.le_of_ble_eq_true rfl)⟩ ?_
    refine t_X8_sign ((L 142) 1)  ?_
    refine ev_aload_n (pc' := 49) (i := 0) dX8_leftAbove_48 rfl rfl rfl ?_
    refine ev_getR (pc' := 52) fo_X8_94 dX8_leftAbove_49 rfl hs_115 rfl rf_115_37 ?_
    refine ev_iconst (pc' := 53) (v := 0) dX8_leftAbove_52 rfl ki_0 ?_
    refine ev_lald (pc' := 54) (j := 0) (v := (L 142) 0) dX8_leftAbove_53 rfl hs_142 rfl (Nat.le_of_ble_eq_true rfl) (Nat.le_of_ble_eq_true rfl) rfl ?_
    refine ev_callS (pc' := 57) (rm' := rX8_sign) (av := [.long ((L 142) 0)]) (rest := [.int (mSg ((L 142) 1))]) co_X8_156 cs_X8_sign dX8_leftAbove_54 rfl rfl rfl (Nat.le_of_ble_eq_true rfl) ⟨(Nat.le_of_ble_eq_true rfl), (Nat.le_of_ble_eq_true rfl)⟩ ⟨(Nat.le_of_ble_eq_true rfl), (Nat.le_of_ble_eq_true rfl)⟩ ?_
    refine t_X8_sign ((L 142) 0)  ?_
    refine ev_imul (pc' := 58) (v := (mSg ((L 142) 1)) * (mSg ((L 142) 0))) dX8_leftAbove_57 rfl rfl ?_
    refine ev_if_ge (tgt := 65) (pc' := 61) dX8_leftAbove_58 rfl rfl (fun c3 => ?_) (fun c3 => ?_)
    · refine ev_iconst (pc' := 66) (v := 0) dX8_leftAbove_65 rfl ki_0 ?_
      refine ev_istore_n (pc' := 67) (i := 3) (lv' := [some (.ref 115), some (.long (((4 * ((L 142) 0)) * ((L 142) 2)) - (((L 142) 1) * ((L 142) 1)))), none, some (.int 0)]) dX8_leftAbove_66 rfl rfl (Nat.le_of_ble_eq_true rfl) rfl rfl ?_
      refine ev_aload_n (pc' := 68) (i := 0) dX8_leftAbove_67 rfl rfl rfl ?_
      refine ev_getI (pc' := 71) (v := (I 115) 38) fo_X8_298 dX8_leftAbove_68 rfl hs_115 rfl rfl ?_
      refine ev_if_ne (tgt := 78) (pc' := 74) dX8_leftAbove_71 rfl rfl (fun c4 => ?_) (fun c4 => ?_)
      · refine ev_lload_n (pc' := 79) (i := 1) dX8_leftAbove_78 rfl rfl rfl ?_
        refine ev_lconst (pc' := 80) (v := 0) dX8_leftAbove_79 rfl kl_0 ?_
        refine ev_lc_ge (p1 := 81) (tgt := 88) (pc' := 84) dX8_leftAbove_80 rfl dX8_leftAbove_81 rfl rfl (fun c5 => ?_) (fun c5 => ?_)
        · refine ev_iload_n (pc' := 89) (i := 3) dX8_leftAbove_88 rfl rfl rfl ?_
          refine ev_if_eq (tgt := 96) (pc' := 92) dX8_leftAbove_89 rfl rfl (fun _ => ?_) (fun h => absurd (by decide) h)
          refine ev_iconst (pc' := 97) (v := 0) dX8_leftAbove_96 rfl ki_0 ?_
          refine ev_iret dX8_leftAbove_97 rfl rfl ⟨Nat.le_refl _, Nat.le_refl _⟩ ?_
          have e : mLA 1 (I 115 38) (I 115 39) (L 142) = 0 := by simp [mLA, c1, c3, c4, c5]
          rw [e] at k0
          exact k0
        · refine ev_iconst (pc' := 85) (v := 2) dX8_leftAbove_84 rfl ki_2 ?_
          refine ev_goto (tgt := 97) dX8_leftAbove_85 rfl ?_
          refine ev_iret dX8_leftAbove_97 rfl rfl ⟨Nat.le_refl _, Nat.le_refl _⟩ ?_
          have e : mLA 1 (I 115 38) (I 115 39) (L 142) = 2 := by simp [mLA, c1, c3, c4, c5]
          rw [e] at k0
          exact k0
      · refine ev_iconst (pc' := 75) (v := 0) dX8_leftAbove_74 rfl ki_0 ?_
        refine ev_goto (tgt := 97) dX8_leftAbove_75 rfl ?_
        refine ev_iret dX8_leftAbove_97 rfl rfl ⟨Nat.le_refl _, Nat.le_refl _⟩ ?_
        have e : mLA 1 (I 115 38) (I 115 39) (L 142) = 0 := by simp [mLA, c1, c3, c4]
        rw [e] at k0
        exact k0
    · refine ev_iconst (pc' := 62) (v := 1) dX8_leftAbove_61 rfl ki_1 ?_
      refine ev_goto (tgt := 66) dX8_leftAbove_62 rfl ?_
      refine ev_istore_n (pc' := 67) (i := 3) (lv' := [some (.ref 115), some (.long (((4 * ((L 142) 0)) * ((L 142) 2)) - (((L 142) 1) * ((L 142) 1)))), none, some (.int 1)]) dX8_leftAbove_66 rfl rfl (Nat.le_of_ble_eq_true rfl) rfl rfl ?_
      refine ev_aload_n (pc' := 68) (i := 0) dX8_leftAbove_67 rfl rfl rfl ?_
      refine ev_getI (pc' := 71) (v := (I 115) 38) fo_X8_298 dX8_leftAbove_68 rfl hs_115 rfl rfl ?_
      refine ev_if_ne (tgt := 78) (pc' := 74) dX8_leftAbove_71 rfl rfl (fun c6 => ?_) (fun c6 => ?_)
      · refine ev_lload_n (pc' := 79) (i := 1) dX8_leftAbove_78 rfl rfl rfl ?_
        refine ev_lconst (pc' := 80) (v := 0) dX8_leftAbove_79 rfl kl_0 ?_
        refine ev_lc_ge (p1 := 81) (tgt := 88) (pc' := 84) dX8_leftAbove_80 rfl dX8_leftAbove_81 rfl rfl (fun c7 => ?_) (fun c7 => ?_)
        · refine ev_iload_n (pc' := 89) (i := 3) dX8_leftAbove_88 rfl rfl rfl ?_
          refine ev_if_eq (tgt := 96) (pc' := 92) dX8_leftAbove_89 rfl rfl (fun h => absurd h (by decide)) (fun _ => ?_)
          refine ev_iconst (pc' := 93) (v := 4) dX8_leftAbove_92 rfl ki_4 ?_
          refine ev_goto (tgt := 97) dX8_leftAbove_93 rfl ?_
          refine ev_iret dX8_leftAbove_97 rfl rfl ⟨Nat.le_refl _, Nat.le_refl _⟩ ?_
          have e : mLA 1 (I 115 38) (I 115 39) (L 142) = 4 := by simp [mLA, c1, c3, c6, c7]
          rw [e] at k0
          exact k0
        · refine ev_iconst (pc' := 85) (v := 2) dX8_leftAbove_84 rfl ki_2 ?_
          refine ev_goto (tgt := 97) dX8_leftAbove_85 rfl ?_
          refine ev_iret dX8_leftAbove_97 rfl rfl ⟨Nat.le_refl _, Nat.le_refl _⟩ ?_
          have e : mLA 1 (I 115 38) (I 115 39) (L 142) = 2 := by simp [mLA, c1, c3, c6, c7]
          rw [e] at k0
          exact k0
      · refine ev_iconst (pc' := 75) (v := 0) dX8_leftAbove_74 rfl ki_0 ?_
        refine ev_goto (tgt := 97) dX8_leftAbove_75 rfl ?_
        refine ev_iret dX8_leftAbove_97 rfl rfl ⟨Nat.le_refl _, Nat.le_refl _⟩ ?_
        have e : mLA 1 (I 115 38) (I 115 39) (L 142) = 0 := by simp [mLA, c1, c3, c6]
        rw [e] at k0
        exact k0
set_option maxRecDepth 4000 in
theorem t_X8_leftAboveS {g : ma_G} {Post : ma_P} {I : ma_I} {L : ma_L} (m : Nat) (h2 : 2 ≤ m) (h4 : m < 5) (hd : I 115 36 = nI m) (k0 : Post (some (.int (mLA m (I 115 38) (I 115 39) (L 142)))) HS I L RF 146) : CT g yX8_leftAbove cX8_leftAbove 4 (some .int) rX8_leftAbove [.ref 115] Post HS I L RF 146 := by
  refine ct_of (lv := [some (.ref 115), none, none, none]) (by decide) (Nat.le_of_ble_eq_true rfl) rfl ?_
  refine ev_aload_n (pc' := 1) (i := 0) dX8_leftAbove_0 rfl rfl rfl ?_
  refine ev_getI (pc' := 4) (v := (I 115) 39) fo_X8_295 dX8_leftAbove_1 rfl hs_115 rfl rfl ?_
  refine ev_if_eq (tgt := 98) (pc' := 7) dX8_leftAbove_4 rfl rfl (fun c1 => ?_) (fun c1 => ?_)
  · refine ev_aload_n (pc' := 99) (i := 0) dX8_leftAbove_98 rfl rfl rfl ?_
    refine ev_getI (pc' := 102) (v := nI m) fo_X8_267 dX8_leftAbove_99 rfl hs_115 rfl hd ?_
    refine ev_iconst (pc' := 103) (v := 2) dX8_leftAbove_102 rfl ki_2 ?_
    refine ev_icmp_ge (tgt := 142) (pc' := 106) dX8_leftAbove_103 rfl rfl (fun _ => ?_) (fun h => absurd (nx_le (a := 2) (b := m) (by omega) (by omega)) h)
    refine ev_aload_n (pc' := 143) (i := 0) dX8_leftAbove_142 rfl rfl rfl ?_
    refine ev_getI (pc' := 146) (v := (I 115) 38) fo_X8_298 dX8_leftAbove_143 rfl hs_115 rfl rfl ?_
    refine ev_aload_n (pc' := 147) (i := 0) dX8_leftAbove_146 rfl rfl rfl ?_
    refine ev_getI (pc' := 150) (v := nI m) fo_X8_267 dX8_leftAbove_147 rfl hs_115 rfl hd ?_
    refine ev_icmp_ge (tgt := 155) (pc' := 153) dX8_leftAbove_150 rfl rfl (fun c2 => ?_) (fun c2 => ?_)
    · refine ev_iconst (pc' := 156) (v := 0) dX8_leftAbove_155 rfl ki_0 ?_
      refine ev_istore_n (pc' := 157) (i := 1) (lv' := [some (.ref 115), some (.int 0), none, none]) dX8_leftAbove_156 rfl rfl (Nat.le_of_ble_eq_true rfl) rfl rfl ?_
      refine ev_aload_n (pc' := 158) (i := 0) dX8_leftAbove_157 rfl rfl rfl ?_
      refine ev_getR (pc' := 161) fo_X8_94 dX8_leftAbove_158 rfl hs_115 rfl rf_115_37 ?_
      refine ev_iconst (pc' := 162) (v := 0) dX8_leftAbove_161 rfl ki_0 ?_
      refine ev_lald (pc' := 163) (j := 0) (v := (L 142) 0) dX8_leftAbove_162 rfl hs_142 rfl (Nat.le_of_ble_eq_true rfl) (Nat.le_of_ble_eq_true rfl) rfl ?_
      refine ev_callS (pc' := 166) (rm' := rX8_sign) (av := [.long ((L 142) 0)]) (rest := []) co_X8_156 cs_X8_sign dX8_leftAbove_163 rfl rfl rfl (Nat.le_of_ble_eq_true rfl) ⟨(Nat.le_of_ble_eq_true rfl), (Nat.le_of_ble_eq_true rfl)⟩ ⟨(Nat.le_of_ble_eq_true rfl), (Nat.le_of_ble_eq_true rfl)⟩ ?_
      refine t_X8_sign ((L 142) 0)  ?_
      refine ev_istore_n (pc' := 167) (i := 2) (lv' := [some (.ref 115), some (.int 0), some (.int (mSg ((L 142) 0))), none]) dX8_leftAbove_166 rfl rfl (Nat.le_of_ble_eq_true rfl) rfl rfl ?_
      refine ev_iconst (pc' := 168) (v := 1) dX8_leftAbove_167 rfl ki_1 ?_
      refine ev_istore_n (pc' := 169) (i := 3) (lv' := [some (.ref 115), some (.int 0), some (.int (mSg ((L 142) 0))), some (.int 1)]) dX8_leftAbove_168 rfl rfl (Nat.le_of_ble_eq_true rfl) rfl rfl ?_
      suffices lp : ∀ (d k : Nat) (n l : Int32), k + d = m → (n, l) = mLAl (L 142) k → EV g yX8_leftAbove cX8_leftAbove 4 (some .int) rX8_leftAbove (ma_ZM g rX8_leftAbove Post) 169 [some (.ref 115), some (.int n), some (.int l), some (.int (nI (k + 1)))] [] HS I L RF 146 0 0 from lp m 0 0 _ (by omega) rfl
      intro d
      induction d with
      | zero =>
        intro k n l hk hs
        obtain rfl : k = m := by omega
        refine ev_iload_n (pc' := 170) (i := 3) dX8_leftAbove_169 rfl rfl rfl ?_
        refine ev_aload_n (pc' := 171) (i := 0) dX8_leftAbove_170 rfl rfl rfl ?_
        refine ev_getI (pc' := 174) (v := nI k) fo_X8_267 dX8_leftAbove_171 rfl hs_115 rfl hd ?_
        refine ev_icmp_gt (tgt := 240) (pc' := 177) dX8_leftAbove_174 rfl rfl (fun _ => ?_) (fun h => absurd (nx_lt (a := k) (b := (k + 1)) (by omega) (by omega)) h)
        refine ev_iload_n (pc' := 241) (i := 1) dX8_leftAbove_240 rfl rfl rfl ?_
        refine ev_iret dX8_leftAbove_241 rfl rfl ⟨Nat.le_refl _, Nat.le_refl _⟩ ?_
        have e : mLA k (I 115 38) (I 115 39) (L 142) = n := by unfold mLA; rw [if_pos c1, if_neg (by omega), if_pos c2, ← hs]
        rw [e] at k0
        exact k0
      | succ d ih =>
        intro k n l hk hs
        refine ev_iload_n (pc' := 170) (i := 3) dX8_leftAbove_169 rfl rfl rfl ?_
        refine ev_aload_n (pc' := 171) (i := 0) dX8_leftAbove_170 rfl rfl rfl ?_
        refine ev_getI (pc' := 174) (v := nI m) fo_X8_267 dX8_leftAbove_171 rfl hs_115 rfl hd ?_
        refine ev_icmp_gt (tgt := 240) (pc' := 177) dX8_leftAbove_174 rfl rfl (fun h => absurd h (nx_nlt (a := m) (b := (k + 1)) (by omega) (by omega))) (fun _ => ?_)
        refine ev_iload_n (pc' := 178) (i := 1) dX8_leftAbove_177 rfl rfl rfl ?_
        refine ev_aload_n (pc' := 179) (i := 0) dX8_leftAbove_178 rfl rfl rfl ?_
        refine ev_getR (pc' := 182) fo_X8_94 dX8_leftAbove_179 rfl hs_115 rfl rf_115_37 ?_
        refine ev_iload_n (pc' := 183) (i := 3) dX8_leftAbove_182 rfl rfl rfl ?_
        refine ev_lald (pc' := 184) (j := k + 1) (v := (L 142) (k + 1)) dX8_leftAbove_183 rfl hs_142 rfl (by omega) (Nat.le_of_ble_eq_true rfl) rfl ?_
        refine ev_lconst (pc' := 185) (v := 0) dX8_leftAbove_184 rfl kl_0 ?_
        refine ev_lc_eq (p1 := 186) (tgt := 206) (pc' := 189) dX8_leftAbove_185 rfl dX8_leftAbove_186 rfl rfl (fun c3 => ?_) (fun c3 => ?_)
        · refine ev_iconst (pc' := 207) (v := 0) dX8_leftAbove_206 rfl ki_0 ?_
          refine ev_iadd (pc' := 208) (v := n + 0) dX8_leftAbove_207 rfl rfl ?_
          refine ev_istore_n (pc' := 209) (i := 1) (lv' := [some (.ref 115), some (.int (n + 0)), some (.int l), some (.int (nI (k + 1)))]) dX8_leftAbove_208 rfl rfl (Nat.le_of_ble_eq_true rfl) rfl rfl ?_
          refine ev_aload_n (pc' := 210) (i := 0) dX8_leftAbove_209 rfl rfl rfl ?_
          refine ev_getR (pc' := 213) fo_X8_94 dX8_leftAbove_210 rfl hs_115 rfl rf_115_37 ?_
          refine ev_iload_n (pc' := 214) (i := 3) dX8_leftAbove_213 rfl rfl rfl ?_
          refine ev_lald (pc' := 215) (j := k + 1) (v := (L 142) (k + 1)) dX8_leftAbove_214 rfl hs_142 rfl (by omega) (Nat.le_of_ble_eq_true rfl) rfl ?_
          refine ev_lconst (pc' := 216) (v := 0) dX8_leftAbove_215 rfl kl_0 ?_
          refine ev_lc_eq (p1 := 217) (tgt := 232) (pc' := 220) dX8_leftAbove_216 rfl dX8_leftAbove_217 rfl rfl (fun _ => ?_) (fun h => absurd c3 h)
          refine ev_iload_n (pc' := 233) (i := 2) dX8_leftAbove_232 rfl rfl rfl ?_
          refine ev_istore_n (pc' := 234) (i := 2) (lv' := [some (.ref 115), some (.int (n + 0)), some (.int l), some (.int (nI (k + 1)))]) dX8_leftAbove_233 rfl rfl (Nat.le_of_ble_eq_true rfl) rfl rfl ?_
          refine ev_iinc (pc' := 237) (v := nI ((k + 1) + 1)) (lv' := [some (.ref 115), some (.int (n + 0)), some (.int l), some (.int (nI ((k + 1) + 1)))]) dX8_leftAbove_234 rfl rfl (nI_add (k + 1) 1) (Nat.le_of_ble_eq_true rfl) rfl rfl ?_
          refine ev_goto (tgt := 169) dX8_leftAbove_237 rfl ?_
          exact ih (k + 1) _ _ (by omega) (by show _ = (if _ then _ else _); rw [if_pos c3, ← hs]; exact Prod.ext (Int32.add_zero _) rfl)
        · refine ev_aload_n (pc' := 190) (i := 0) dX8_leftAbove_189 rfl rfl rfl ?_
          refine ev_getR (pc' := 193) fo_X8_94 dX8_leftAbove_190 rfl hs_115 rfl rf_115_37 ?_
          refine ev_iload_n (pc' := 194) (i := 3) dX8_leftAbove_193 rfl rfl rfl ?_
          refine ev_lald (pc' := 195) (j := k + 1) (v := (L 142) (k + 1)) dX8_leftAbove_194 rfl hs_142 rfl (by omega) (Nat.le_of_ble_eq_true rfl) rfl ?_
          refine ev_callS (pc' := 198) (rm' := rX8_sign) (av := [.long ((L 142) (k + 1))]) (rest := [.int n]) co_X8_156 cs_X8_sign dX8_leftAbove_195 rfl rfl rfl (Nat.le_of_ble_eq_true rfl) ⟨(Nat.le_of_ble_eq_true rfl), (Nat.le_of_ble_eq_true rfl)⟩ ⟨(Nat.le_of_ble_eq_true rfl), (Nat.le_of_ble_eq_true rfl)⟩ ?_
          refine t_X8_sign ((L 142) (k + 1))  ?_
          refine ev_iload_n (pc' := 199) (i := 2) dX8_leftAbove_198 rfl rfl rfl ?_
          refine ev_icmp_eq (tgt := 206) (pc' := 202) dX8_leftAbove_199 rfl rfl (fun c4 => ?_) (fun c4 => ?_)
          · refine ev_iconst (pc' := 207) (v := 0) dX8_leftAbove_206 rfl ki_0 ?_
            refine ev_iadd (pc' := 208) (v := n + 0) dX8_leftAbove_207 rfl rfl ?_
            refine ev_istore_n (pc' := 209) (i := 1) (lv' := [some (.ref 115), some (.int (n + 0)), some (.int l), some (.int (nI (k + 1)))]) dX8_leftAbove_208 rfl rfl (Nat.le_of_ble_eq_true rfl) rfl rfl ?_
            refine ev_aload_n (pc' := 210) (i := 0) dX8_leftAbove_209 rfl rfl rfl ?_
            refine ev_getR (pc' := 213) fo_X8_94 dX8_leftAbove_210 rfl hs_115 rfl rf_115_37 ?_
            refine ev_iload_n (pc' := 214) (i := 3) dX8_leftAbove_213 rfl rfl rfl ?_
            refine ev_lald (pc' := 215) (j := k + 1) (v := (L 142) (k + 1)) dX8_leftAbove_214 rfl hs_142 rfl (by omega) (Nat.le_of_ble_eq_true rfl) rfl ?_
            refine ev_lconst (pc' := 216) (v := 0) dX8_leftAbove_215 rfl kl_0 ?_
            refine ev_lc_eq (p1 := 217) (tgt := 232) (pc' := 220) dX8_leftAbove_216 rfl dX8_leftAbove_217 rfl rfl (fun h => absurd h c3) (fun _ => ?_)
            refine ev_aload_n (pc' := 221) (i := 0) dX8_leftAbove_220 rfl rfl rfl ?_
            refine ev_getR (pc' := 224) fo_X8_94 dX8_leftAbove_221 rfl hs_115 rfl rf_115_37 ?_
            refine ev_iload_n (pc' := 225) (i := 3) dX8_leftAbove_224 rfl rfl rfl ?_
            refine ev_lald (pc' := 226) (j := k + 1) (v := (L 142) (k + 1)) dX8_leftAbove_225 rfl hs_142 rfl (by omega) (Nat.le_of_ble_eq_true rfl) rfl ?_
            refine ev_callS (pc' := 229) (rm' := rX8_sign) (av := [.long ((L 142) (k + 1))]) (rest := []) co_X8_156 cs_X8_sign dX8_leftAbove_226 rfl rfl rfl (Nat.le_of_ble_eq_true rfl) ⟨(Nat.le_of_ble_eq_true rfl), (Nat.le_of_ble_eq_true rfl)⟩ ⟨(Nat.le_of_ble_eq_true rfl), (Nat.le_of_ble_eq_true rfl)⟩ ?_
            refine t_X8_sign ((L 142) (k + 1))  ?_
            refine ev_goto (tgt := 233) dX8_leftAbove_229 rfl ?_
            refine ev_istore_n (pc' := 234) (i := 2) (lv' := [some (.ref 115), some (.int (n + 0)), some (.int (mSg ((L 142) (k + 1)))), some (.int (nI (k + 1)))]) dX8_leftAbove_233 rfl rfl (Nat.le_of_ble_eq_true rfl) rfl rfl ?_
            refine ev_iinc (pc' := 237) (v := nI ((k + 1) + 1)) (lv' := [some (.ref 115), some (.int (n + 0)), some (.int (mSg ((L 142) (k + 1)))), some (.int (nI ((k + 1) + 1)))]) dX8_leftAbove_234 rfl rfl (nI_add (k + 1) 1) (Nat.le_of_ble_eq_true rfl) rfl rfl ?_
            refine ev_goto (tgt := 169) dX8_leftAbove_237 rfl ?_
            exact ih (k + 1) _ _ (by omega) (by show _ = (if _ then _ else ((mLAl (L 142) k).1 + (if _ = (mLAl (L 142) k).2 then _ else _), _)); rw [if_neg c3, ← hs]; first | rfl | (dsimp only; rw [if_pos (by assumption)]) | (dsimp only; rw [if_neg (by assumption)]))
          · refine ev_iconst (pc' := 203) (v := 1) dX8_leftAbove_202 rfl ki_1 ?_
            refine ev_goto (tgt := 207) dX8_leftAbove_203 rfl ?_
            refine ev_iadd (pc' := 208) (v := n + 1) dX8_leftAbove_207 rfl rfl ?_
            refine ev_istore_n (pc' := 209) (i := 1) (lv' := [some (.ref 115), some (.int (n + 1)), some (.int l), some (.int (nI (k + 1)))]) dX8_leftAbove_208 rfl rfl (Nat.le_of_ble_eq_true rfl) rfl rfl ?_
            refine ev_aload_n (pc' := 210) (i := 0) dX8_leftAbove_209 rfl rfl rfl ?_
            refine ev_getR (pc' := 213) fo_X8_94 dX8_leftAbove_210 rfl hs_115 rfl rf_115_37 ?_
            refine ev_iload_n (pc' := 214) (i := 3) dX8_leftAbove_213 rfl rfl rfl ?_
            refine ev_lald (pc' := 215) (j := k + 1) (v := (L 142) (k + 1)) dX8_leftAbove_214 rfl hs_142 rfl (by omega) (Nat.le_of_ble_eq_true rfl) rfl ?_
            refine ev_lconst (pc' := 216) (v := 0) dX8_leftAbove_215 rfl kl_0 ?_
            refine ev_lc_eq (p1 := 217) (tgt := 232) (pc' := 220) dX8_leftAbove_216 rfl dX8_leftAbove_217 rfl rfl (fun h => absurd h c3) (fun _ => ?_)
            refine ev_aload_n (pc' := 221) (i := 0) dX8_leftAbove_220 rfl rfl rfl ?_
            refine ev_getR (pc' := 224) fo_X8_94 dX8_leftAbove_221 rfl hs_115 rfl rf_115_37 ?_
            refine ev_iload_n (pc' := 225) (i := 3) dX8_leftAbove_224 rfl rfl rfl ?_
            refine ev_lald (pc' := 226) (j := k + 1) (v := (L 142) (k + 1)) dX8_leftAbove_225 rfl hs_142 rfl (by omega) (Nat.le_of_ble_eq_true rfl) rfl ?_
            refine ev_callS (pc' := 229) (rm' := rX8_sign) (av := [.long ((L 142) (k + 1))]) (rest := []) co_X8_156 cs_X8_sign dX8_leftAbove_226 rfl rfl rfl (Nat.le_of_ble_eq_true rfl) ⟨(Nat.le_of_ble_eq_true rfl), (Nat.le_of_ble_eq_true rfl)⟩ ⟨(Nat.le_of_ble_eq_true rfl), (Nat.le_of_ble_eq_true rfl)⟩ ?_
            refine t_X8_sign ((L 142) (k + 1))  ?_
            refine ev_goto (tgt := 233) dX8_leftAbove_229 rfl ?_
            refine ev_istore_n (pc' := 234) (i := 2) (lv' := [some (.ref 115), some (.int (n + 1)), some (.int (mSg ((L 142) (k + 1)))), some (.int (nI (k + 1)))]) dX8_leftAbove_233 rfl rfl (Nat.le_of_ble_eq_true rfl) rfl rfl ?_
            refine ev_iinc (pc' := 237) (v := nI ((k + 1) + 1)) (lv' := [some (.ref 115), some (.int (n + 1)), some (.int (mSg ((L 142) (k + 1)))), some (.int (nI ((k + 1) + 1)))]) dX8_leftAbove_234 rfl rfl (nI_add (k + 1) 1) (Nat.le_of_ble_eq_true rfl) rfl rfl ?_
            refine ev_goto (tgt := 169) dX8_leftAbove_237 rfl ?_
            exact ih (k + 1) _ _ (by omega) (by show _ = (if _ then _ else ((mLAl (L 142) k).1 + (if _ = (mLAl (L 142) k).2 then _ else _), _)); rw [if_neg c3, ← hs]; first | rfl | (dsimp only; rw [if_pos (by assumption)]) | (dsimp only; rw [if_neg (by assumption)]))
    · refine ev_iconst (pc' := 154) (v := 0) dX8_leftAbove_153 rfl ki_0 ?_
      refine ev_iret dX8_leftAbove_154 rfl rfl ⟨Nat.le_refl _, Nat.le_refl _⟩ ?_
      have e : mLA m (I 115 38) (I 115 39) (L 142) = 0 := by unfold mLA; rw [if_pos c1, if_neg (by omega), if_neg c2]
      rw [e] at k0
      exact k0
  · refine ev_ldc2 (pc' := 10) cl_X8_301 dX8_leftAbove_7 rfl ?_
    refine ev_aload_n (pc' := 11) (i := 0) dX8_leftAbove_10 rfl rfl rfl ?_
    refine ev_getR (pc' := 14) fo_X8_94 dX8_leftAbove_11 rfl hs_115 rfl rf_115_37 ?_
    refine ev_iconst (pc' := 15) (v := 0) dX8_leftAbove_14 rfl ki_0 ?_
    refine ev_lald (pc' := 16) (j := 0) (v := (L 142) 0) dX8_leftAbove_15 rfl hs_142 rfl (Nat.le_of_ble_eq_true rfl) (Nat.le_of_ble_eq_true rfl) rfl ?_
    refine ev_lmul (pc' := 17) (v := 4 * ((L 142) 0)) dX8_leftAbove_16 rfl rfl ?_
    refine ev_aload_n (pc' := 18) (i := 0) dX8_leftAbove_17 rfl rfl rfl ?_
    refine ev_getR (pc' := 21) fo_X8_94 dX8_leftAbove_18 rfl hs_115 rfl rf_115_37 ?_
    refine ev_iconst (pc' := 22) (v := 2) dX8_leftAbove_21 rfl ki_2 ?_
    refine ev_lald (pc' := 23) (j := 2) (v := (L 142) 2) dX8_leftAbove_22 rfl hs_142 rfl (Nat.le_of_ble_eq_true rfl) (Nat.le_of_ble_eq_true rfl) rfl ?_
    refine ev_lmul (pc' := 24) (v := (4 * ((L 142) 0)) * ((L 142) 2)) dX8_leftAbove_23 rfl rfl ?_
    refine ev_aload_n (pc' := 25) (i := 0) dX8_leftAbove_24 rfl rfl rfl ?_
    refine ev_getR (pc' := 28) fo_X8_94 dX8_leftAbove_25 rfl hs_115 rfl rf_115_37 ?_
    refine ev_iconst (pc' := 29) (v := 1) dX8_leftAbove_28 rfl ki_1 ?_
    refine ev_lald (pc' := 30) (j := 1) (v := (L 142) 1) dX8_leftAbove_29 rfl hs_142 rfl (Nat.le_of_ble_eq_true rfl) (Nat.le_of_ble_eq_true rfl) rfl ?_
    refine ev_aload_n (pc' := 31) (i := 0) dX8_leftAbove_30 rfl rfl rfl ?_
    refine ev_getR (pc' := 34) fo_X8_94 dX8_leftAbove_31 rfl hs_115 rfl rf_115_37 ?_
    refine ev_iconst (pc' := 35) (v := 1) dX8_leftAbove_34 rfl ki_1 ?_
    refine ev_lald (pc' := 36) (j := 1) (v := (L 142) 1) dX8_leftAbove_35 rfl hs_142 rfl (Nat.le_of_ble_eq_true rfl) (Nat.le_of_ble_eq_true rfl) rfl ?_
    refine ev_lmul (pc' := 37) (v := ((L 142) 1) * ((L 142) 1)) dX8_leftAbove_36 rfl rfl ?_
    refine ev_lsub (pc' := 38) (v := ((4 * ((L 142) 0)) * ((L 142) 2)) - (((L 142) 1) * ((L 142) 1))) dX8_leftAbove_37 rfl rfl ?_
    refine ev_lstore_n (pc' := 39) (i := 1) (lv' := [some (.ref 115), some (.long (((4 * ((L 142) 0)) * ((L 142) 2)) - (((L 142) 1) * ((L 142) 1)))), none, none]) dX8_leftAbove_38 rfl rfl (Nat.le_of_ble_eq_true rfl) rfl rfl ?_
    refine ev_aload_n (pc' := 40) (i := 0) dX8_leftAbove_39 rfl rfl rfl ?_
    refine ev_getR (pc' := 43) fo_X8_94 dX8_leftAbove_40 rfl hs_115 rfl rf_115_37 ?_
    refine ev_iconst (pc' := 44) (v := 1) dX8_leftAbove_43 rfl ki_1 ?_
    refine ev_lald (pc' := 45) (j := 1) (v := (L 142) 1) dX8_leftAbove_44 rfl hs_142 rfl (Nat.le_of_ble_eq_true rfl) (Nat.le_of_ble_eq_true rfl) rfl ?_
    refine ev_callS (pc' := 48) (rm' := rX8_sign) (av := [.long ((L 142) 1)]) (rest := []) co_X8_156 cs_X8_sign dX8_leftAbove_45 rfl rfl rfl (Nat.le_of_ble_eq_true rfl) ⟨(Nat.le_of_ble_eq_true rfl), (Nat.le_of_ble_eq_true rfl)⟩ ⟨(Nat.le_of_ble_eq_true rfl), (Nat.le_of_ble_eq_true rfl)⟩ ?_
    refine t_X8_sign ((L 142) 1)  ?_
    refine ev_aload_n (pc' := 49) (i := 0) dX8_leftAbove_48 rfl rfl rfl ?_
    refine ev_getR (pc' := 52) fo_X8_94 dX8_leftAbove_49 rfl hs_115 rfl rf_115_37 ?_
    refine ev_iconst (pc' := 53) (v := 0) dX8_leftAbove_52 rfl ki_0 ?_
    refine ev_lald (pc' := 54) (j := 0) (v := (L 142) 0) dX8_leftAbove_53 rfl hs_142 rfl (Nat.le_of_ble_eq_true rfl) (Nat.le_of_ble_eq_true rfl) rfl ?_
    refine ev_callS (pc' := 57) (rm' := rX8_sign) (av := [.long ((L 142) 0)]) (rest := [.int (mSg ((L 142) 1))]) co_X8_156 cs_X8_sign dX8_leftAbove_54 rfl rfl rfl (Nat.le_of_ble_eq_true rfl) ⟨(Nat.le_of_ble_eq_true rfl), (Nat.le_of_ble_eq_true rfl)⟩ ⟨(Nat.le_of_ble_eq_true rfl), (Nat.le_of_ble_eq_true rfl)⟩ ?_
    refine t_X8_sign ((L 142) 0)  ?_
    refine ev_imul (pc' := 58) (v := (mSg ((L 142) 1)) * (mSg ((L 142) 0))) dX8_leftAbove_57 rfl rfl ?_
    refine ev_if_ge (tgt := 65) (pc' := 61) dX8_leftAbove_58 rfl rfl (fun c5 => ?_) (fun c5 => ?_)
    · refine ev_iconst (pc' := 66) (v := 0) dX8_leftAbove_65 rfl ki_0 ?_
      refine ev_istore_n (pc' := 67) (i := 3) (lv' := [some (.ref 115), some (.long (((4 * ((L 142) 0)) * ((L 142) 2)) - (((L 142) 1) * ((L 142) 1)))), none, some (.int 0)]) dX8_leftAbove_66 rfl rfl (Nat.le_of_ble_eq_true rfl) rfl rfl ?_
      refine ev_aload_n (pc' := 68) (i := 0) dX8_leftAbove_67 rfl rfl rfl ?_
      refine ev_getI (pc' := 71) (v := (I 115) 38) fo_X8_298 dX8_leftAbove_68 rfl hs_115 rfl rfl ?_
      refine ev_if_ne (tgt := 78) (pc' := 74) dX8_leftAbove_71 rfl rfl (fun c6 => ?_) (fun c6 => ?_)
      · refine ev_lload_n (pc' := 79) (i := 1) dX8_leftAbove_78 rfl rfl rfl ?_
        refine ev_lconst (pc' := 80) (v := 0) dX8_leftAbove_79 rfl kl_0 ?_
        refine ev_lc_ge (p1 := 81) (tgt := 88) (pc' := 84) dX8_leftAbove_80 rfl dX8_leftAbove_81 rfl rfl (fun c7 => ?_) (fun c7 => ?_)
        · refine ev_iload_n (pc' := 89) (i := 3) dX8_leftAbove_88 rfl rfl rfl ?_
          refine ev_if_eq (tgt := 96) (pc' := 92) dX8_leftAbove_89 rfl rfl (fun _ => ?_) (fun h => absurd (by decide) h)
          refine ev_iconst (pc' := 97) (v := 0) dX8_leftAbove_96 rfl ki_0 ?_
          refine ev_iret dX8_leftAbove_97 rfl rfl ⟨Nat.le_refl _, Nat.le_refl _⟩ ?_
          have e : mLA m (I 115 38) (I 115 39) (L 142) = 0 := by simp [mLA, c1, c5, c6, c7]
          rw [e] at k0
          exact k0
        · refine ev_iconst (pc' := 85) (v := 2) dX8_leftAbove_84 rfl ki_2 ?_
          refine ev_goto (tgt := 97) dX8_leftAbove_85 rfl ?_
          refine ev_iret dX8_leftAbove_97 rfl rfl ⟨Nat.le_refl _, Nat.le_refl _⟩ ?_
          have e : mLA m (I 115 38) (I 115 39) (L 142) = 2 := by simp [mLA, c1, c5, c6, c7]
          rw [e] at k0
          exact k0
      · refine ev_iconst (pc' := 75) (v := 0) dX8_leftAbove_74 rfl ki_0 ?_
        refine ev_goto (tgt := 97) dX8_leftAbove_75 rfl ?_
        refine ev_iret dX8_leftAbove_97 rfl rfl ⟨Nat.le_refl _, Nat.le_refl _⟩ ?_
        have e : mLA m (I 115 38) (I 115 39) (L 142) = 0 := by simp [mLA, c1, c5, c6]
        rw [e] at k0
        exact k0
    · refine ev_iconst (pc' := 62) (v := 1) dX8_leftAbove_61 rfl ki_1 ?_
      refine ev_goto (tgt := 66) dX8_leftAbove_62 rfl ?_
      refine ev_istore_n (pc' := 67) (i := 3) (lv' := [some (.ref 115), some (.long (((4 * ((L 142) 0)) * ((L 142) 2)) - (((L 142) 1) * ((L 142) 1)))), none, some (.int 1)]) dX8_leftAbove_66 rfl rfl (Nat.le_of_ble_eq_true rfl) rfl rfl ?_
      refine ev_aload_n (pc' := 68) (i := 0) dX8_leftAbove_67 rfl rfl rfl ?_
      refine ev_getI (pc' := 71) (v := (I 115) 38) fo_X8_298 dX8_leftAbove_68 rfl hs_115 rfl rfl ?_
      refine ev_if_ne (tgt := 78) (pc' := 74) dX8_leftAbove_71 rfl rfl (fun c8 => ?_) (fun c8 => ?_)
      · refine ev_lload_n (pc' := 79) (i := 1) dX8_leftAbove_78 rfl rfl rfl ?_
        refine ev_lconst (pc' := 80) (v := 0) dX8_leftAbove_79 rfl kl_0 ?_
        refine ev_lc_ge (p1 := 81) (tgt := 88) (pc' := 84) dX8_leftAbove_80 rfl dX8_leftAbove_81 rfl rfl (fun c9 => ?_) (fun c9 => ?_)
        · refine ev_iload_n (pc' := 89) (i := 3) dX8_leftAbove_88 rfl rfl rfl ?_
          refine ev_if_eq (tgt := 96) (pc' := 92) dX8_leftAbove_89 rfl rfl (fun h => absurd h (by decide)) (fun _ => ?_)
          refine ev_iconst (pc' := 93) (v := 4) dX8_leftAbove_92 rfl ki_4 ?_
          refine ev_goto (tgt := 97) dX8_leftAbove_93 rfl ?_
          refine ev_iret dX8_leftAbove_97 rfl rfl ⟨Nat.le_refl _, Nat.le_refl _⟩ ?_
          have e : mLA m (I 115 38) (I 115 39) (L 142) = 4 := by simp [mLA, c1, c5, c8, c9]
          rw [e] at k0
          exact k0
        · refine ev_iconst (pc' := 85) (v := 2) dX8_leftAbove_84 rfl ki_2 ?_
          refine ev_goto (tgt := 97) dX8_leftAbove_85 rfl ?_
          refine ev_iret dX8_leftAbove_97 rfl rfl ⟨Nat.le_refl _, Nat.le_refl _⟩ ?_
          have e : mLA m (I 115 38) (I 115 39) (L 142) = 2 := by simp [mLA, c1, c5, c8, c9]
          rw [e] at k0
          exact k0
      · refine ev_iconst (pc' := 75) (v := 0) dX8_leftAbove_74 rfl ki_0 ?_
        refine ev_goto (tgt := 97) dX8_leftAbove_75 rfl ?_
        refine ev_iret dX8_leftAbove_97 rfl rfl ⟨Nat.le_refl _, Nat.le_refl _⟩ ?_
        have e : mLA m (I 115 38) (I 115 39) (L 142) = 0 := by simp [mLA, c1, c5, c8]
        rw [e] at k0
        exact k0
theorem u_X8_leftAbove {g : ma_G} {Post : ma_P} {I : ma_I} {L : ma_L} (m : Nat) (hm : m < 5) (hd : I 115 36 = nI m) (k0 : Post (some (.int (mLA m (I 115 38) (I 115 39) (L 142)))) HS I L RF 146) : CT g yX8_leftAbove cX8_leftAbove 4 (some .int) rX8_leftAbove [.ref 115] Post HS I L RF 146 := by
  match m, hm with
  | 0, _ => exact t_X8_leftAbove0 hd k0
  | 1, _ => exact t_X8_leftAbove1 hd k0
  | m + 2, h => exact t_X8_leftAboveS (m + 2) (by omega) h hd k0
def mTw (u : Nat → Int64) (t : Nat → Int32) : Nat → Int32
  | 0 => 0
  | k + 1 => mTw u t k + (if u k ≤ 0 then 0 else t k)
/-- 0, 1 or 2 for two balls -/
def mAo (s : mP) (rl tw : Int32) : Int32 :=
  if mTw s.u s.t s.r + mLA s.m rl tw s.f = 2 then (if mTw s.u s.t s.r = 2 then 1 else if tw = 0 then 2 else 1) else 0
def mFok (F : Nat → Int64) : Prop := (∀ j, j < 5 → (F j).toInt.natAbs < 2147483648) ∧ mPq F ∧ ¬ ∀ j, j < 5 → F j = 0
set_option maxRecDepth 4000 in
theorem t_X8_apartOf {g : ma_G} {Post : ma_P} {I : ma_I} {L : ma_L}  (hok : mFok (mFm (I 133) (I 134))) (k0 : ∀ (bb m0 : Nat) (s : mP) (rl tw : Int32) (J : ma_I) (K : ma_L), mPd (mFm (I 133) (I 134)) bb m0 s → (rl, tw) = mLL s.m s.f → mSx [141] [36, 31, 35, 38, 39] I J → mSl [132, 120, 142, 139, 140, 138, 136, 137] L K → Post (some (.int (mAo s rl tw))) HS J K RF 146) : CT g yX8_apartOf cX8_apartOf 4 (some .int) rX8_apartOf [.ref 115] Post HS I L RF 146 := by
  refine ct_of (lv := [some (.ref 115), none, none, none]) (by decide) (Nat.le_of_ble_eq_true rfl) rfl ?_
  refine ev_aload_n (pc' := 1) (i := 0) dX8_apartOf_0 rfl rfl rfl ?_
  refine ev_callV (pc' := 4) (rm' := rX8_layForm) (b := 115) (av := []) (rest := []) co_X8_259 ci_X8_layForm cv_X8_layForm dX8_apartOf_1 rfl hs_115 hb_X8 rfl rfl (Nat.le_of_ble_eq_true rfl) ⟨(Nat.le_of_ble_eq_true rfl), (Nat.le_of_ble_eq_true rfl)⟩ ⟨(Nat.le_of_ble_eq_true rfl), (Nat.le_of_ble_eq_true rfl)⟩ ?_
  refine f_X8_layForm (fun K1 g0 g1 g2 g3 g4 g5 => ?_)
  refine ev_aload_n (pc' := 5) (i := 0) dX8_apartOf_4 rfl rfl rfl ?_
  refine ev_callV (pc' := 8) (rm' := rX8_parts) (b := 115) (av := []) (rest := []) co_X8_344 ci_X8_parts cv_X8_parts dX8_apartOf_5 rfl hs_115 hb_X8 rfl rfl (Nat.le_of_ble_eq_true rfl) ⟨(Nat.le_of_ble_eq_true rfl), (Nat.le_of_ble_eq_true rfl)⟩ ⟨(Nat.le_of_ble_eq_true rfl), (Nat.le_of_ble_eq_true rfl)⟩ ?_
  have hf : ∀ j, j < 5 → K1 132 j = (mFm (I 133) (I 134)) j := mFm_of g0 g1 g2 g3 g4
  refine f_X8_parts (mFm (I 133) (I 134)) hf hok.1 (fun z J2 b1 b2 b3 => absurd z hok.2.2) (fun bb m0 s J2 K2 h1 h2 h3 h4 => ?_)
  refine ev_istore_n (pc' := 9) (i := 1) (lv' := [some (.ref 115), some (.int 1), none, none]) dX8_apartOf_8 rfl rfl (Nat.le_of_ble_eq_true rfl) rfl rfl ?_
  refine ev_aload_n (pc' := 10) (i := 0) dX8_apartOf_9 rfl rfl rfl ?_
  refine ev_callV (pc' := 13) (rm' := rX8_layLeft) (b := 115) (av := []) (rest := []) co_X8_347 ci_X8_layLeft cv_X8_layLeft dX8_apartOf_10 rfl hs_115 hb_X8 rfl rfl (Nat.le_of_ble_eq_true rfl) ⟨(Nat.le_of_ble_eq_true rfl), (Nat.le_of_ble_eq_true rfl)⟩ ⟨(Nat.le_of_ble_eq_true rfl), (Nat.le_of_ble_eq_true rfl)⟩ ?_
  have hQ := hok.2.1
  refine f_X8_layLeft s.m (by have := mPd_in h1; omega) h2.1 (fun q => by rw [h2.2.2.2.1]; exact hQ _ _ _ h1 q) (fun J3 K3 rl tw e1 e2 e3 e4 e5 => ?_)
  refine ev_iconst (pc' := 14) (v := 0) dX8_apartOf_13 rfl ki_0 ?_
  refine ev_istore_n (pc' := 15) (i := 2) (lv' := [some (.ref 115), some (.int 1), some (.int 0), none]) dX8_apartOf_14 rfl rfl (Nat.le_of_ble_eq_true rfl) rfl rfl ?_
  refine ev_iconst (pc' := 16) (v := 0) dX8_apartOf_15 rfl ki_0 ?_
  refine ev_istore_n (pc' := 17) (i := 3) (lv' := [some (.ref 115), some (.int 1), some (.int 0), some (.int 0)]) dX8_apartOf_16 rfl rfl (Nat.le_of_ble_eq_true rfl) rfl rfl ?_
  have hr4 : s.r < 5 := by have := mPd_in h1; omega
  have hrr : J3 115 31 = nI s.r := (e4.2 31 (by decide)).trans h2.2.1
  have hu : ∀ k, K3 139 k = s.u k := fun k => congrFun ((e5 139 (by decide)).trans h2.2.2.2.2.1) k
  have ht : ∀ k, J3 141 k = s.t k := fun k => congrFun ((e4.1 141 (by decide) (by decide)).trans h2.2.2.2.2.2.2) k
  obtain ⟨rr, er⟩ : ∃ rr, rr = s.r := ⟨_, rfl⟩
  rw [← er] at hr4 hrr
  suffices lp : ∀ (d k : Nat), k + d = rr → EV g yX8_apartOf cX8_apartOf 4 (some .int) rX8_apartOf (ma_ZM g rX8_apartOf Post) 17 [some (.ref 115), some (.int 1), some (.int (mTw s.u s.t k)), some (.int (nI k))] [] HS J3 K3 RF 146 0 0 from lp rr 0 (by omega)
  intro d
  induction d with
  | zero =>
    intro k hk
    obtain rfl : k = rr := by omega
    refine ev_iload_n (pc' := 18) (i := 3) dX8_apartOf_17 rfl rfl rfl ?_
    refine ev_aload_n (pc' := 19) (i := 0) dX8_apartOf_18 rfl rfl rfl ?_
    refine ev_getI (pc' := 22) (v := nI k) fo_X8_277 dX8_apartOf_19 rfl hs_115 rfl hrr ?_
    refine ev_icmp_ge (tgt := 55) (pc' := 25) dX8_apartOf_22 rfl rfl (fun _ => ?_) (fun h => absurd (nx_le (a := k) (b := k) (by omega) (by omega)) h)
    refine ev_aload_n (pc' := 56) (i := 0) dX8_apartOf_55 rfl rfl rfl ?_
    refine ev_callV (pc' := 59) (rm' := rX8_leftAbove) (b := 115) (av := []) (rest := []) co_X8_363 ci_X8_leftAbove cv_X8_leftAbove dX8_apartOf_56 rfl hs_115 hb_X8 rfl rfl (Nat.le_of_ble_eq_true rfl) ⟨(Nat.le_of_ble_eq_true rfl), (Nat.le_of_ble_eq_true rfl)⟩ ⟨(Nat.le_of_ble_eq_true rfl), (Nat.le_of_ble_eq_true rfl)⟩ ?_
    have hd3 : J3 115 36 = nI s.m := (e4.2 36 (by decide)).trans h2.1
    refine u_X8_leftAbove s.m (by have := mPd_in h1; omega) hd3 ?_
    refine ev_topi (fun z hz => ?_)
    have hz : z = mLA s.m rl tw s.f := by rw [hz, e2, e3, show K3 142 = s.f from (e5 142 (by decide)).trans h2.2.2.2.1]
    subst hz
    refine ev_istore_n (pc' := 60) (i := 3) (lv' := [some (.ref 115), some (.int 1), some (.int (mTw s.u s.t k)), some (.int (mLA s.m rl tw s.f))]) dX8_apartOf_59 rfl rfl (Nat.le_of_ble_eq_true rfl) rfl rfl ?_
    refine ev_iload_n (pc' := 61) (i := 1) dX8_apartOf_60 rfl rfl rfl ?_
    refine ev_if_eq (tgt := 71) (pc' := 64) dX8_apartOf_61 rfl rfl (fun h => absurd h (by decide)) (fun _ => ?_)
    refine ev_iload_n (pc' := 65) (i := 2) dX8_apartOf_64 rfl rfl rfl ?_
    refine ev_iload_n (pc' := 66) (i := 3) dX8_apartOf_65 rfl rfl rfl ?_
    refine ev_iadd (pc' := 67) (v := (mTw s.u s.t k) + (mLA s.m rl tw s.f)) dX8_apartOf_66 rfl rfl ?_
    refine ev_iconst (pc' := 68) (v := 2) dX8_apartOf_67 rfl ki_2 ?_
    refine ev_icmp_eq (tgt := 73) (pc' := 71) dX8_apartOf_68 rfl rfl (fun c1 => ?_) (fun c1 => ?_)
    · refine ev_iload_n (pc' := 74) (i := 2) dX8_apartOf_73 rfl rfl rfl ?_
      refine ev_iconst (pc' := 75) (v := 2) dX8_apartOf_74 rfl ki_2 ?_
      refine ev_icmp_eq (tgt := 85) (pc' := 78) dX8_apartOf_75 rfl rfl (fun c2 => ?_) (fun c2 => ?_)
      · refine ev_iconst (pc' := 86) (v := 1) dX8_apartOf_85 rfl ki_1 ?_
        refine ev_goto (tgt := 90) dX8_apartOf_86 rfl ?_
        refine ev_iret dX8_apartOf_90 rfl rfl ⟨Nat.le_refl _, Nat.le_refl _⟩ ?_
        have e0 : mAo s rl tw = 1 := by
          unfold mAo
          rw [← er]
          rw [if_pos c1]
          rw [if_pos c2]
        have q := k0 bb m0 s rl tw J3 K3 h1 (by rw [← h2.2.2.2.1]; exact e1) (h3.trans e4) ((g5.trans h4).trans e5)
        rw [e0] at q
        exact q
      · refine ev_aload_n (pc' := 79) (i := 0) dX8_apartOf_78 rfl rfl rfl ?_
        refine ev_getI (pc' := 82) (v := tw) fo_X8_295 dX8_apartOf_79 rfl hs_115 rfl e3 ?_
        refine ev_if_eq (tgt := 89) (pc' := 85) dX8_apartOf_82 rfl rfl (fun c3 => ?_) (fun c3 => ?_)
        · refine ev_iconst (pc' := 90) (v := 2) dX8_apartOf_89 rfl ki_2 ?_
          refine ev_iret dX8_apartOf_90 rfl rfl ⟨Nat.le_refl _, Nat.le_refl _⟩ ?_
          have e0 : mAo s rl tw = 2 := by
            unfold mAo
            rw [← er]
            rw [if_pos c1]
            rw [if_neg c2]
            rw [if_pos c3]
          have q := k0 bb m0 s rl tw J3 K3 h1 (by rw [← h2.2.2.2.1]; exact e1) (h3.trans e4) ((g5.trans h4).trans e5)
          rw [e0] at q
          exact q
        · refine ev_iconst (pc' := 86) (v := 1) dX8_apartOf_85 rfl ki_1 ?_
          refine ev_goto (tgt := 90) dX8_apartOf_86 rfl ?_
          refine ev_iret dX8_apartOf_90 rfl rfl ⟨Nat.le_refl _, Nat.le_refl _⟩ ?_
          have e0 : mAo s rl tw = 1 := by
            unfold mAo
            rw [← er]
            rw [if_pos c1]
            rw [if_neg c2]
            rw [if_neg c3]
          have q := k0 bb m0 s rl tw J3 K3 h1 (by rw [← h2.2.2.2.1]; exact e1) (h3.trans e4) ((g5.trans h4).trans e5)
          rw [e0] at q
          exact q
    · refine ev_iconst (pc' := 72) (v := 0) dX8_apartOf_71 rfl ki_0 ?_
      refine ev_iret dX8_apartOf_72 rfl rfl ⟨Nat.le_refl _, Nat.le_refl _⟩ ?_
      have e0 : mAo s rl tw = 0 := by
        unfold mAo
        rw [← er]
        rw [if_neg c1]
      have q := k0 bb m0 s rl tw J3 K3 h1 (by rw [← h2.2.2.2.1]; exact e1) (h3.trans e4) ((g5.trans h4).trans e5)
      rw [e0] at q
      exact q
  | succ d ih =>
    intro k hk
    refine ev_iload_n (pc' := 18) (i := 3) dX8_apartOf_17 rfl rfl rfl ?_
    refine ev_aload_n (pc' := 19) (i := 0) dX8_apartOf_18 rfl rfl rfl ?_
    refine ev_getI (pc' := 22) (v := nI rr) fo_X8_277 dX8_apartOf_19 rfl hs_115 rfl hrr ?_
    refine ev_icmp_ge (tgt := 55) (pc' := 25) dX8_apartOf_22 rfl rfl (fun h => absurd h (nx_nle (a := rr) (b := k) (by omega) (by omega))) (fun _ => ?_)
    refine ev_iload_n (pc' := 26) (i := 2) dX8_apartOf_25 rfl rfl rfl ?_
    refine ev_aload_n (pc' := 27) (i := 0) dX8_apartOf_26 rfl rfl rfl ?_
    refine ev_getR (pc' := 30) fo_X8_85 dX8_apartOf_27 rfl hs_115 rfl rf_115_32 ?_
    refine ev_iload_n (pc' := 31) (i := 3) dX8_apartOf_30 rfl rfl rfl ?_
    refine ev_lald (pc' := 32) (j := k) (v := s.u k) dX8_apartOf_31 rfl hs_139 rfl (by omega) (Nat.le_of_ble_eq_true rfl) (hu k) ?_
    refine ev_lconst (pc' := 33) (v := 0) dX8_apartOf_32 rfl kl_0 ?_
    suffices K6 : ∀ x5 : Int32, x5 = (if (s.u k) ≤ 0 then 0 else (s.t k)) → EV g yX8_apartOf cX8_apartOf 4 (some .int) rX8_apartOf (ma_ZM g rX8_apartOf Post) 47 [some (.ref 115), some (.int 1), some (.int (mTw s.u s.t k)), some (.int (nI k))] [.int x5, .int (mTw s.u s.t k)] HS J3 K3 RF 146 0 0 by
      refine ev_lc_le (p1 := 34) (tgt := 46) (pc' := 37) dX8_apartOf_33 rfl dX8_apartOf_34 rfl rfl (fun c7 => ?_) (fun c7 => ?_)
      · refine ev_iconst (pc' := 47) (v := 0) dX8_apartOf_46 rfl ki_0 ?_
        exact K6 _ (by rw [if_pos c7])
      · refine ev_aload_n (pc' := 38) (i := 0) dX8_apartOf_37 rfl rfl rfl ?_
        refine ev_getR (pc' := 41) fo_X8_91 dX8_apartOf_38 rfl hs_115 rfl rf_115_34 ?_
        refine ev_iload_n (pc' := 42) (i := 3) dX8_apartOf_41 rfl rfl rfl ?_
        refine ev_iald (pc' := 43) (j := k) (v := s.t k) dX8_apartOf_42 rfl hs_141 rfl (by omega) (Nat.le_of_ble_eq_true rfl) (ht k) ?_
        refine ev_goto (tgt := 47) dX8_apartOf_43 rfl ?_
        exact K6 _ (by rw [if_neg c7])
    intro x5 hx5
    subst hx5
    refine ev_iadd (pc' := 48) (v := (mTw s.u s.t k) + (if (s.u k) ≤ 0 then 0 else (s.t k))) dX8_apartOf_47 rfl rfl ?_
    refine ev_istore_n (pc' := 49) (i := 2) (lv' := [some (.ref 115), some (.int 1), some (.int ((mTw s.u s.t k) + (if (s.u k) ≤ 0 then 0 else (s.t k)))), some (.int (nI k))]) dX8_apartOf_48 rfl rfl (Nat.le_of_ble_eq_true rfl) rfl rfl ?_
    refine ev_iinc (pc' := 52) (v := nI (k + 1)) (lv' := [some (.ref 115), some (.int 1), some (.int ((mTw s.u s.t k) + (if (s.u k) ≤ 0 then 0 else (s.t k)))), some (.int (nI (k + 1)))]) dX8_apartOf_49 rfl rfl (nI_add k 1) (Nat.le_of_ble_eq_true rfl) rfl rfl ?_
    refine ev_goto (tgt := 17) dX8_apartOf_52 rfl ?_
    exact ih (k + 1) (by omega)
