def mLL (m : Nat) (f : Nat → Int64) : Int32 × Int32 := match m with
  | 0 => (0, 0)
  | 1 => (1, 0)
  | 2 => ((if ((f 1) * (f 1)) ≤ ((4 * (f 0)) * (f 2)) then 0 else 2), 0)
  | 3 => ((if ¬ (¬ ((((((((18 * (f 0)) * (f 1)) * (f 2)) * (f 3)) - ((((4 * (f 1)) * (f 1)) * (f 1)) * (f 3))) + ((((f 1) * (f 1)) * (f 2)) * (f 2))) - ((((4 * (f 0)) * (f 2)) * (f 2)) * (f 2))) - ((((27 * (f 0)) * (f 0)) * (f 3)) * (f 3))) ≤ 0) then 1 else 3), 0)
  | _ => mQr (mQi f) (mQj f) (mQp f) (f 0)
theorem ll_4 (I : ma_I) (tw rl : Int32) : ma_up (ma_up I 115 (ma_up (I 115) 39 0)) 115 (ma_up (ma_up (ma_up (I 115) 39 0) 39 tw) 38 rl) = ma_up I 115 (ma_up (ma_up (I 115) 39 tw) 38 rl) := by rw [ma_up_up, ma_up_up]
/-- the numbers of the quartic aren't the least long -/
def mQok (f : Nat → Int64) : Prop := (mQj f).toInt ≠ -9223372036854775808 ∧ (mQp f).toInt ≠ -9223372036854775808 ∧ (f 0).toInt ≠ -9223372036854775808
set_option maxRecDepth 4000 in
theorem t_X8_layLeft0 {g : ma_G} {Post : ma_P} {I : ma_I} {L : ma_L} (hd : I 115 36 = 0) (hq : 0 = 4 → mQok (L 142)) (k : ∀ (Y Z W : Nat → Int64) (rl tw : Int32), (rl, tw) = mLL 0 (L 142) → Post none HS (ma_up I 115 (ma_up (ma_up (I 115) 39 tw) 38 rl)) (ma_up (ma_up (ma_up L 138 Y) 136 Z) 137 W) RF 146) : CT g yX8_layLeft cX8_layLeft 1 none rX8_layLeft [.ref 115] Post HS I L RF 146 := by
  refine ct_of (lv := [some (.ref 115)]) (by decide) (Nat.le_of_ble_eq_true rfl) rfl ?_
  refine ev_aload_n (pc' := 1) (i := 0) dX8_layLeft_0 rfl rfl rfl ?_
  refine ev_iconst (pc' := 2) (v := 0) dX8_layLeft_1 rfl ki_0 ?_
  refine ev_putI (pc' := 5) (I' := (ma_up I 115 (ma_up (I 115) 39 0))) fo_X8_295 dX8_layLeft_2 rfl hs_115 rfl (fun r hr => by cases hr; rfl) ⟨rfl, rfl⟩ rfl ?_
  refine ev_aload_n (pc' := 6) (i := 0) dX8_layLeft_5 rfl rfl rfl ?_
  refine ev_getI (pc' := 9) (v := 0) fo_X8_267 dX8_layLeft_6 rfl hs_115 rfl hd ?_
  refine ev_tswIn (off := 31) (tgt := 40) dX8_layLeft_9 (by decide) (by decide) rfl rfl ?_
  refine ev_aload_n (pc' := 41) (i := 0) dX8_layLeft_40 rfl rfl rfl ?_
  refine ev_aload_n (pc' := 42) (i := 0) dX8_layLeft_41 rfl rfl rfl ?_
  refine ev_getI (pc' := 45) (v := 0) fo_X8_267 dX8_layLeft_42 rfl hs_115 rfl hd ?_
  refine ev_putI (pc' := 48) (I' := (ma_up I 115 (ma_up (ma_up (I 115) 39 0) 38 0))) fo_X8_298 dX8_layLeft_45 rfl hs_115 rfl (fun r hr => by cases hr; rfl) ⟨rfl, rfl⟩ (ma_up_up _ _ _ _) ?_
  refine ev_goto (tgt := 120) dX8_layLeft_48 rfl ?_
  refine ev_vret dX8_layLeft_120 rfl ⟨Nat.le_refl _, Nat.le_refl _⟩ ?_
  have q := k (L 138) (L 136) (L 137) _ _ rfl
  rw [← n3_0 L] at q
  exact q
set_option maxRecDepth 4000 in
theorem t_X8_layLeft1 {g : ma_G} {Post : ma_P} {I : ma_I} {L : ma_L} (hd : I 115 36 = 1) (hq : 1 = 4 → mQok (L 142)) (k : ∀ (Y Z W : Nat → Int64) (rl tw : Int32), (rl, tw) = mLL 1 (L 142) → Post none HS (ma_up I 115 (ma_up (ma_up (I 115) 39 tw) 38 rl)) (ma_up (ma_up (ma_up L 138 Y) 136 Z) 137 W) RF 146) : CT g yX8_layLeft cX8_layLeft 1 none rX8_layLeft [.ref 115] Post HS I L RF 146 := by
  refine ct_of (lv := [some (.ref 115)]) (by decide) (Nat.le_of_ble_eq_true rfl) rfl ?_
  refine ev_aload_n (pc' := 1) (i := 0) dX8_layLeft_0 rfl rfl rfl ?_
  refine ev_iconst (pc' := 2) (v := 0) dX8_layLeft_1 rfl ki_0 ?_
  refine ev_putI (pc' := 5) (I' := (ma_up I 115 (ma_up (I 115) 39 0))) fo_X8_295 dX8_layLeft_2 rfl hs_115 rfl (fun r hr => by cases hr; rfl) ⟨rfl, rfl⟩ rfl ?_
  refine ev_aload_n (pc' := 6) (i := 0) dX8_layLeft_5 rfl rfl rfl ?_
  refine ev_getI (pc' := 9) (v := 1) fo_X8_267 dX8_layLeft_6 rfl hs_115 rfl hd ?_
  refine ev_tswIn (off := 31) (tgt := 40) dX8_layLeft_9 (by decide) (by decide) rfl rfl ?_
  refine ev_aload_n (pc' := 41) (i := 0) dX8_layLeft_40 rfl rfl rfl ?_
  refine ev_aload_n (pc' := 42) (i := 0) dX8_layLeft_41 rfl rfl rfl ?_
  refine ev_getI (pc' := 45) (v := 1) fo_X8_267 dX8_layLeft_42 rfl hs_115 rfl hd ?_
  refine ev_putI (pc' := 48) (I' := (ma_up I 115 (ma_up (ma_up (I 115) 39 0) 38 1))) fo_X8_298 dX8_layLeft_45 rfl hs_115 rfl (fun r hr => by cases hr; rfl) ⟨rfl, rfl⟩ (ma_up_up _ _ _ _) ?_
  refine ev_goto (tgt := 120) dX8_layLeft_48 rfl ?_
  refine ev_vret dX8_layLeft_120 rfl ⟨Nat.le_refl _, Nat.le_refl _⟩ ?_
  have q := k (L 138) (L 136) (L 137) _ _ rfl
  rw [← n3_0 L] at q
  exact q
set_option maxRecDepth 4000 in
theorem t_X8_layLeft2 {g : ma_G} {Post : ma_P} {I : ma_I} {L : ma_L} (hd : I 115 36 = 2) (hq : 2 = 4 → mQok (L 142)) (k : ∀ (Y Z W : Nat → Int64) (rl tw : Int32), (rl, tw) = mLL 2 (L 142) → Post none HS (ma_up I 115 (ma_up (ma_up (I 115) 39 tw) 38 rl)) (ma_up (ma_up (ma_up L 138 Y) 136 Z) 137 W) RF 146) : CT g yX8_layLeft cX8_layLeft 1 none rX8_layLeft [.ref 115] Post HS I L RF 146 := by
  refine ct_of (lv := [some (.ref 115)]) (by decide) (Nat.le_of_ble_eq_true rfl) rfl ?_
  refine ev_aload_n (pc' := 1) (i := 0) dX8_layLeft_0 rfl rfl rfl ?_
  refine ev_iconst (pc' := 2) (v := 0) dX8_layLeft_1 rfl ki_0 ?_
  refine ev_putI (pc' := 5) (I' := (ma_up I 115 (ma_up (I 115) 39 0))) fo_X8_295 dX8_layLeft_2 rfl hs_115 rfl (fun r hr => by cases hr; rfl) ⟨rfl, rfl⟩ rfl ?_
  refine ev_aload_n (pc' := 6) (i := 0) dX8_layLeft_5 rfl rfl rfl ?_
  refine ev_getI (pc' := 9) (v := 2) fo_X8_267 dX8_layLeft_6 rfl hs_115 rfl hd ?_
  refine ev_tswIn (off := 42) (tgt := 51) dX8_layLeft_9 (by decide) (by decide) rfl rfl ?_
  refine ev_aload_n (pc' := 52) (i := 0) dX8_layLeft_51 rfl rfl rfl ?_
  refine ev_aload_n (pc' := 53) (i := 0) dX8_layLeft_52 rfl rfl rfl ?_
  refine ev_getR (pc' := 56) fo_X8_94 dX8_layLeft_53 rfl hs_115 rfl rf_115_37 ?_
  refine ev_iconst (pc' := 57) (v := 1) dX8_layLeft_56 rfl ki_1 ?_
  refine ev_lald (pc' := 58) (j := 1) (v := (L 142) 1) dX8_layLeft_57 rfl hs_142 rfl (Nat.le_of_ble_eq_true rfl) (Nat.le_of_ble_eq_true rfl) rfl ?_
  refine ev_aload_n (pc' := 59) (i := 0) dX8_layLeft_58 rfl rfl rfl ?_
  refine ev_getR (pc' := 62) fo_X8_94 dX8_layLeft_59 rfl hs_115 rfl rf_115_37 ?_
  refine ev_iconst (pc' := 63) (v := 1) dX8_layLeft_62 rfl ki_1 ?_
  refine ev_lald (pc' := 64) (j := 1) (v := (L 142) 1) dX8_layLeft_63 rfl hs_142 rfl (Nat.le_of_ble_eq_true rfl) (Nat.le_of_ble_eq_true rfl) rfl ?_
  refine ev_lmul (pc' := 65) (v := ((L 142) 1) * ((L 142) 1)) dX8_layLeft_64 rfl rfl ?_
  refine ev_ldc2 (pc' := 68) cl_X8_301 dX8_layLeft_65 rfl ?_
  refine ev_aload_n (pc' := 69) (i := 0) dX8_layLeft_68 rfl rfl rfl ?_
  refine ev_getR (pc' := 72) fo_X8_94 dX8_layLeft_69 rfl hs_115 rfl rf_115_37 ?_
  refine ev_iconst (pc' := 73) (v := 0) dX8_layLeft_72 rfl ki_0 ?_
  refine ev_lald (pc' := 74) (j := 0) (v := (L 142) 0) dX8_layLeft_73 rfl hs_142 rfl (Nat.le_of_ble_eq_true rfl) (Nat.le_of_ble_eq_true rfl) rfl ?_
  refine ev_lmul (pc' := 75) (v := 4 * ((L 142) 0)) dX8_layLeft_74 rfl rfl ?_
  refine ev_aload_n (pc' := 76) (i := 0) dX8_layLeft_75 rfl rfl rfl ?_
  refine ev_getR (pc' := 79) fo_X8_94 dX8_layLeft_76 rfl hs_115 rfl rf_115_37 ?_
  refine ev_iconst (pc' := 80) (v := 2) dX8_layLeft_79 rfl ki_2 ?_
  refine ev_lald (pc' := 81) (j := 2) (v := (L 142) 2) dX8_layLeft_80 rfl hs_142 rfl (Nat.le_of_ble_eq_true rfl) (Nat.le_of_ble_eq_true rfl) rfl ?_
  refine ev_lmul (pc' := 82) (v := (4 * ((L 142) 0)) * ((L 142) 2)) dX8_layLeft_81 rfl rfl ?_
  suffices K3 : ∀ x2 : Int32, x2 = (if (((L 142) 1) * ((L 142) 1)) ≤ ((4 * ((L 142) 0)) * ((L 142) 2)) then 0 else 2) → EV g yX8_layLeft cX8_layLeft 1 none rX8_layLeft (ma_ZM g rX8_layLeft Post) 91 [some (.ref 115)] [.int x2, .ref 115] HS (ma_up I 115 (ma_up (I 115) 39 0)) L RF 146 0 0 by
    refine ev_lc_le (p1 := 83) (tgt := 90) (pc' := 86) dX8_layLeft_82 rfl dX8_layLeft_83 rfl rfl (fun c4 => ?_) (fun c4 => ?_)
    · refine ev_iconst (pc' := 91) (v := 0) dX8_layLeft_90 rfl ki_0 ?_
      exact K3 _ (by rw [if_pos c4])
    · refine ev_iconst (pc' := 87) (v := 2) dX8_layLeft_86 rfl ki_2 ?_
      refine ev_goto (tgt := 91) dX8_layLeft_87 rfl ?_
      exact K3 _ (by rw [if_neg c4])
  intro x2 hx2
  subst hx2
  refine ev_putI (pc' := 94) (I' := (ma_up I 115 (ma_up (ma_up (I 115) 39 0) 38 (if (((L 142) 1) * ((L 142) 1)) ≤ ((4 * ((L 142) 0)) * ((L 142) 2)) then 0 else 2)))) fo_X8_298 dX8_layLeft_91 rfl hs_115 rfl (fun r hr => by cases hr; rfl) ⟨rfl, rfl⟩ (ma_up_up _ _ _ _) ?_
  refine ev_goto (tgt := 120) dX8_layLeft_94 rfl ?_
  refine ev_vret dX8_layLeft_120 rfl ⟨Nat.le_refl _, Nat.le_refl _⟩ ?_
  have q := k (L 138) (L 136) (L 137) _ _ rfl
  rw [← n3_0 L] at q
  exact q
set_option maxRecDepth 4000 in
theorem t_X8_layLeft3 {g : ma_G} {Post : ma_P} {I : ma_I} {L : ma_L} (hd : I 115 36 = 3) (hq : 3 = 4 → mQok (L 142)) (k : ∀ (Y Z W : Nat → Int64) (rl tw : Int32), (rl, tw) = mLL 3 (L 142) → Post none HS (ma_up I 115 (ma_up (ma_up (I 115) 39 tw) 38 rl)) (ma_up (ma_up (ma_up L 138 Y) 136 Z) 137 W) RF 146) : CT g yX8_layLeft cX8_layLeft 1 none rX8_layLeft [.ref 115] Post HS I L RF 146 := by
  refine ct_of (lv := [some (.ref 115)]) (by decide) (Nat.le_of_ble_eq_true rfl) rfl ?_
  refine ev_aload_n (pc' := 1) (i := 0) dX8_layLeft_0 rfl rfl rfl ?_
  refine ev_iconst (pc' := 2) (v := 0) dX8_layLeft_1 rfl ki_0 ?_
  refine ev_putI (pc' := 5) (I' := (ma_up I 115 (ma_up (I 115) 39 0))) fo_X8_295 dX8_layLeft_2 rfl hs_115 rfl (fun r hr => by cases hr; rfl) ⟨rfl, rfl⟩ rfl ?_
  refine ev_aload_n (pc' := 6) (i := 0) dX8_layLeft_5 rfl rfl rfl ?_
  refine ev_getI (pc' := 9) (v := 3) fo_X8_267 dX8_layLeft_6 rfl hs_115 rfl hd ?_
  refine ev_tswIn (off := 88) (tgt := 97) dX8_layLeft_9 (by decide) (by decide) rfl rfl ?_
  refine ev_aload_n (pc' := 98) (i := 0) dX8_layLeft_97 rfl rfl rfl ?_
  refine ev_aload_n (pc' := 99) (i := 0) dX8_layLeft_98 rfl rfl rfl ?_
  refine ev_callV (pc' := 102) (rm' := rX8_threeRoots) (b := 115) (av := []) (rest := [.ref 115]) co_X8_303 ci_X8_threeRoots cv_X8_threeRoots dX8_layLeft_99 rfl hs_115 hb_X8 rfl rfl (Nat.le_of_ble_eq_true rfl) ⟨(Nat.le_of_ble_eq_true rfl), (Nat.le_of_ble_eq_true rfl)⟩ ⟨(Nat.le_of_ble_eq_true rfl), (Nat.le_of_ble_eq_true rfl)⟩ ?_
  refine t_X8_threeRoots   ?_
  suffices K3 : ∀ x2 : Int32, x2 = (if ¬ (¬ ((((((((18 * ((L 142) 0)) * ((L 142) 1)) * ((L 142) 2)) * ((L 142) 3)) - ((((4 * ((L 142) 1)) * ((L 142) 1)) * ((L 142) 1)) * ((L 142) 3))) + (((((L 142) 1) * ((L 142) 1)) * ((L 142) 2)) * ((L 142) 2))) - ((((4 * ((L 142) 0)) * ((L 142) 2)) * ((L 142) 2)) * ((L 142) 2))) - ((((27 * ((L 142) 0)) * ((L 142) 0)) * ((L 142) 3)) * ((L 142) 3))) ≤ 0) then 1 else 3) → EV g yX8_layLeft cX8_layLeft 1 none rX8_layLeft (ma_ZM g rX8_layLeft Post) 110 [some (.ref 115)] [.int x2, .ref 115] HS (ma_up I 115 (ma_up (I 115) 39 0)) L RF 146 0 0 by
    refine ev_if_eq_b (tgt := 109) (pc' := 105) dX8_layLeft_102 rfl rfl (fun c4 => ?_) (fun c4 => ?_)
    · refine ev_iconst (pc' := 110) (v := 1) dX8_layLeft_109 rfl ki_1 ?_
      exact K3 _ (by rw [if_pos c4])
    · refine ev_iconst (pc' := 106) (v := 3) dX8_layLeft_105 rfl ki_3 ?_
      refine ev_goto (tgt := 110) dX8_layLeft_106 rfl ?_
      exact K3 _ (by rw [if_neg (not_not_intro c4)])
  intro x2 hx2
  subst hx2
  refine ev_putI (pc' := 113) (I' := (ma_up I 115 (ma_up (ma_up (I 115) 39 0) 38 (if ¬ (¬ ((((((((18 * ((L 142) 0)) * ((L 142) 1)) * ((L 142) 2)) * ((L 142) 3)) - ((((4 * ((L 142) 1)) * ((L 142) 1)) * ((L 142) 1)) * ((L 142) 3))) + (((((L 142) 1) * ((L 142) 1)) * ((L 142) 2)) * ((L 142) 2))) - ((((4 * ((L 142) 0)) * ((L 142) 2)) * ((L 142) 2)) * ((L 142) 2))) - ((((27 * ((L 142) 0)) * ((L 142) 0)) * ((L 142) 3)) * ((L 142) 3))) ≤ 0) then 1 else 3)))) fo_X8_298 dX8_layLeft_110 rfl hs_115 rfl (fun r hr => by cases hr; rfl) ⟨rfl, rfl⟩ (ma_up_up _ _ _ _) ?_
  refine ev_goto (tgt := 120) dX8_layLeft_113 rfl ?_
  refine ev_vret dX8_layLeft_120 rfl ⟨Nat.le_refl _, Nat.le_refl _⟩ ?_
  have q := k (L 138) (L 136) (L 137) _ _ rfl
  rw [← n3_0 L] at q
  exact q
set_option maxRecDepth 4000 in
theorem t_X8_layLeft4 {g : ma_G} {Post : ma_P} {I : ma_I} {L : ma_L} (hd : I 115 36 = 4) (hq : 4 = 4 → mQok (L 142)) (k : ∀ (Y Z W : Nat → Int64) (rl tw : Int32), (rl, tw) = mLL 4 (L 142) → Post none HS (ma_up I 115 (ma_up (ma_up (I 115) 39 tw) 38 rl)) (ma_up (ma_up (ma_up L 138 Y) 136 Z) 137 W) RF 146) : CT g yX8_layLeft cX8_layLeft 1 none rX8_layLeft [.ref 115] Post HS I L RF 146 := by
  refine ct_of (lv := [some (.ref 115)]) (by decide) (Nat.le_of_ble_eq_true rfl) rfl ?_
  refine ev_aload_n (pc' := 1) (i := 0) dX8_layLeft_0 rfl rfl rfl ?_
  refine ev_iconst (pc' := 2) (v := 0) dX8_layLeft_1 rfl ki_0 ?_
  refine ev_putI (pc' := 5) (I' := (ma_up I 115 (ma_up (I 115) 39 0))) fo_X8_295 dX8_layLeft_2 rfl hs_115 rfl (fun r hr => by cases hr; rfl) ⟨rfl, rfl⟩ rfl ?_
  refine ev_aload_n (pc' := 6) (i := 0) dX8_layLeft_5 rfl rfl rfl ?_
  refine ev_getI (pc' := 9) (v := 4) fo_X8_267 dX8_layLeft_6 rfl hs_115 rfl hd ?_
  refine ev_tswOut (tgt := 116) dX8_layLeft_9 (by decide) rfl ?_
  refine ev_aload_n (pc' := 117) (i := 0) dX8_layLeft_116 rfl rfl rfl ?_
  refine ev_callV (pc' := 120) (rm' := rX8_layQuartic) (b := 115) (av := []) (rest := []) co_X8_307 ci_X8_layQuartic cv_X8_layQuartic dX8_layLeft_117 rfl hs_115 hb_X8 rfl rfl (Nat.le_of_ble_eq_true rfl) ⟨(Nat.le_of_ble_eq_true rfl), (Nat.le_of_ble_eq_true rfl)⟩ ⟨(Nat.le_of_ble_eq_true rfl), (Nat.le_of_ble_eq_true rfl)⟩ ?_
  refine t_X8_layQuartic (hq rfl).1 (hq rfl).2.1 (hq rfl).2.2 (fun Y Z W rl tw h => ?_)
  refine ev_vret dX8_layLeft_120 rfl ⟨Nat.le_refl _, Nat.le_refl _⟩ ?_
  have q := k Y Z W rl tw h
  rw [← ll_4 I tw rl] at q
  exact q
theorem u_X8_layLeft {g : ma_G} {Post : ma_P} {I : ma_I} {L : ma_L} (m : Nat) (hm : m < 5) (hd : I 115 36 = nI m) (hq : m = 4 → mQok (L 142)) (k : ∀ (Y Z W : Nat → Int64) (rl tw : Int32), (rl, tw) = mLL m (L 142) → Post none HS (ma_up I 115 (ma_up (ma_up (I 115) 39 tw) 38 rl)) (ma_up (ma_up (ma_up L 138 Y) 136 Z) 137 W) RF 146) : CT g yX8_layLeft cX8_layLeft 1 none rX8_layLeft [.ref 115] Post HS I L RF 146 := by
  match m, hm with
  | 0, _ => exact t_X8_layLeft0 hd hq k
  | 1, _ => exact t_X8_layLeft1 hd hq k
  | 2, _ => exact t_X8_layLeft2 hd hq k
  | 3, _ => exact t_X8_layLeft3 hd hq k
  | 4, _ => exact t_X8_layLeft4 hd hq k
/-- how many of the roots left lie below u/w -/
def mLB (m : Nat) (rl : Int32) (f : Nat → Int64) (u w : Int64) : Nat :=
  if rl = 0 ∨ m = 0 then 0 else if m = 1 then (if mSg (mAt m f u w) * mSg (f 0) ≤ 0 then 0 else 1) else if ¬ 0 ≤ mSg (mAt m f u w) * mSg (f 0) then 1 else if mSg (2 * f 0 * u + f 1 * w) * mSg (f 0) ≤ 0 then 0 else 2
theorem mLB_lt (m : Nat) (rl : Int32) (f : Nat → Int64) (u w : Int64) : mLB m rl f u w < 3 := by
  unfold mLB; repeat' split
  all_goals omega
set_option maxRecDepth 4000 in
theorem t_X8_leftBelow0 {g : ma_G} {Post : ma_P} {I : ma_I} {L : ma_L} (u w : Int64) (hd : I 115 36 = 0) (k : Post (some (.int (nI (mLB 0 (I 115 38) (L 142) u w)))) HS I L RF 146) : CT g yX8_leftBelow cX8_leftBelow 8 (some .int) rX8_leftBelow [.ref 115, .long u, .long w] Post HS I L RF 146 := by
  refine ct_of (lv := [some (.ref 115), some (.long u), none, some (.long w), none, none, none, none]) (by decide) (Nat.le_of_ble_eq_true rfl) rfl ?_
  refine ev_aload_n (pc' := 1) (i := 0) dX8_leftBelow_0 rfl rfl rfl ?_
  refine ev_getI (pc' := 4) (v := (I 115) 38) fo_X8_298 dX8_leftBelow_1 rfl hs_115 rfl rfl ?_
  refine ev_if_eq (tgt := 14) (pc' := 7) dX8_leftBelow_4 rfl rfl (fun c1 => ?_) (fun c1 => ?_)
  · refine ev_iconst (pc' := 15) (v := 0) dX8_leftBelow_14 rfl ki_0 ?_
    refine ev_iret dX8_leftBelow_15 rfl rfl ⟨Nat.le_refl _, Nat.le_refl _⟩ ?_
    have e : mLB 0 (I 115 38) (L 142) u w = 0 := by simp [mLB, c1]
    rw [e] at k
    exact k
  · refine ev_aload_n (pc' := 8) (i := 0) dX8_leftBelow_7 rfl rfl rfl ?_
    refine ev_getI (pc' := 11) (v := 0) fo_X8_267 dX8_leftBelow_8 rfl hs_115 rfl hd ?_
    refine ev_if_ne (tgt := 16) (pc' := 14) dX8_leftBelow_11 rfl rfl (fun h => absurd (by decide) h) (fun _ => ?_)
    refine ev_iconst (pc' := 15) (v := 0) dX8_leftBelow_14 rfl ki_0 ?_
    refine ev_iret dX8_leftBelow_15 rfl rfl ⟨Nat.le_refl _, Nat.le_refl _⟩ ?_
    have e : mLB 0 (I 115 38) (L 142) u w = 0 := by simp [mLB, c1]
    rw [e] at k
    exact k
set_option maxRecDepth 4000 in
theorem t_X8_leftBelow1 {g : ma_G} {Post : ma_P} {I : ma_I} {L : ma_L} (u w : Int64) (hd : I 115 36 = 1) (k : Post (some (.int (nI (mLB 1 (I 115 38) (L 142) u w)))) HS I L RF 146) : CT g yX8_leftBelow cX8_leftBelow 8 (some .int) rX8_leftBelow [.ref 115, .long u, .long w] Post HS I L RF 146 := by
  refine ct_of (lv := [some (.ref 115), some (.long u), none, some (.long w), none, none, none, none]) (by decide) (Nat.le_of_ble_eq_true rfl) rfl ?_
  refine ev_aload_n (pc' := 1) (i := 0) dX8_leftBelow_0 rfl rfl rfl ?_
  refine ev_getI (pc' := 4) (v := (I 115) 38) fo_X8_298 dX8_leftBelow_1 rfl hs_115 rfl rfl ?_
  refine ev_if_eq (tgt := 14) (pc' := 7) dX8_leftBelow_4 rfl rfl (fun c1 => ?_) (fun c1 => ?_)
  · refine ev_iconst (pc' := 15) (v := 0) dX8_leftBelow_14 rfl ki_0 ?_
    refine ev_iret dX8_leftBelow_15 rfl rfl ⟨Nat.le_refl _, Nat.le_refl _⟩ ?_
    have e : mLB 1 (I 115 38) (L 142) u w = 0 := by simp [mLB, c1]
    rw [e] at k
    exact k
  · refine ev_aload_n (pc' := 8) (i := 0) dX8_leftBelow_7 rfl rfl rfl ?_
    refine ev_getI (pc' := 11) (v := 1) fo_X8_267 dX8_leftBelow_8 rfl hs_115 rfl hd ?_
    refine ev_if_ne (tgt := 16) (pc' := 14) dX8_leftBelow_11 rfl rfl (fun _ => ?_) (fun h => absurd h (by decide))
    refine ev_aload_n (pc' := 17) (i := 0) dX8_leftBelow_16 rfl rfl rfl ?_
    refine ev_lload_n (pc' := 18) (i := 1) dX8_leftBelow_17 rfl rfl rfl ?_
    refine ev_lload_n (pc' := 19) (i := 3) dX8_leftBelow_18 rfl rfl rfl ?_
    refine ev_callV (pc' := 22) (rm' := rX8_at) (b := 115) (av := [.long u, .long w]) (rest := []) co_X8_270 ci_X8_at cv_X8_at dX8_leftBelow_19 rfl hs_115 hb_X8 rfl rfl (Nat.le_of_ble_eq_true rfl) ⟨(Nat.le_of_ble_eq_true rfl), (Nat.le_of_ble_eq_true rfl)⟩ ⟨(Nat.le_of_ble_eq_true rfl), (Nat.le_of_ble_eq_true rfl)⟩ ?_
    refine u_X8_at u w 1 (by omega) hd ?_
    refine ev_callS (pc' := 25) (rm' := rX8_sign) (av := [.long (mAt 1 (L 142) u w)]) (rest := []) co_X8_156 cs_X8_sign dX8_leftBelow_22 rfl rfl rfl (Nat.le_of_ble_eq_true rfl) ⟨(Nat.le_of_ble_eq_true rfl), (Nat.le_of_ble_eq_true rfl)⟩ ⟨(Nat.le_of_ble_eq_true rfl), (Nat.le_of_ble_eq_true rfl)⟩ ?_
    refine t_X8_sign (mAt 1 (L 142) u w)  ?_
    refine ev_aload_n (pc' := 26) (i := 0) dX8_leftBelow_25 rfl rfl rfl ?_
    refine ev_getR (pc' := 29) fo_X8_94 dX8_leftBelow_26 rfl hs_115 rfl rf_115_37 ?_
    refine ev_iconst (pc' := 30) (v := 0) dX8_leftBelow_29 rfl ki_0 ?_
    refine ev_lald (pc' := 31) (j := 0) (v := (L 142) 0) dX8_leftBelow_30 rfl hs_142 rfl (Nat.le_of_ble_eq_true rfl) (Nat.le_of_ble_eq_true rfl) rfl ?_
    refine ev_callS (pc' := 34) (rm' := rX8_sign) (av := [.long ((L 142) 0)]) (rest := [.int (mSg (mAt 1 (L 142) u w))]) co_X8_156 cs_X8_sign dX8_leftBelow_31 rfl rfl rfl (Nat.le_of_ble_eq_true rfl) ⟨(Nat.le_of_ble_eq_true rfl), (Nat.le_of_ble_eq_true rfl)⟩ ⟨(Nat.le_of_ble_eq_true rfl), (Nat.le_of_ble_eq_true rfl)⟩ ?_
    refine t_X8_sign ((L 142) 0)  ?_
    refine ev_imul (pc' := 35) (v := (mSg (mAt 1 (L 142) u w)) * (mSg ((L 142) 0))) dX8_leftBelow_34 rfl rfl ?_
    refine ev_istore (pc' := 37) (lv' := [some (.ref 115), some (.long u), none, some (.long w), none, some (.int ((mSg (mAt 1 (L 142) u w)) * (mSg ((L 142) 0)))), none, none]) dX8_leftBelow_35 rfl (Nat.le_of_ble_eq_true rfl) rfl rfl ?_
    refine ev_aload_n (pc' := 38) (i := 0) dX8_leftBelow_37 rfl rfl rfl ?_
    refine ev_getI (pc' := 41) (v := 1) fo_X8_267 dX8_leftBelow_38 rfl hs_115 rfl hd ?_
    refine ev_iconst (pc' := 42) (v := 1) dX8_leftBelow_41 rfl ki_1 ?_
    refine ev_icmp_ne (tgt := 56) (pc' := 45) dX8_leftBelow_42 rfl rfl (fun h => absurd (by decide) h) (fun _ => ?_)
    refine ev_iload (pc' := 47) dX8_leftBelow_45 rfl rfl ?_
    refine ev_if_le (tgt := 54) (pc' := 50) dX8_leftBelow_47 rfl rfl (fun c2 => ?_) (fun c2 => ?_)
    · refine ev_iconst (pc' := 55) (v := 0) dX8_leftBelow_54 rfl ki_0 ?_
      refine ev_iret dX8_leftBelow_55 rfl rfl ⟨Nat.le_refl _, Nat.le_refl _⟩ ?_
      have e : mLB 1 (I 115 38) (L 142) u w = 0 := by simp [mLB, c1, c2]
      rw [e] at k
      exact k
    · refine ev_iconst (pc' := 51) (v := 1) dX8_leftBelow_50 rfl ki_1 ?_
      refine ev_goto (tgt := 55) dX8_leftBelow_51 rfl ?_
      refine ev_iret dX8_leftBelow_55 rfl rfl ⟨Nat.le_refl _, Nat.le_refl _⟩ ?_
      have e : mLB 1 (I 115 38) (L 142) u w = 1 := by simp [mLB, c1, c2]
      rw [e] at k
      exact k
set_option maxRecDepth 4000 in
theorem t_X8_leftBelow2 {g : ma_G} {Post : ma_P} {I : ma_I} {L : ma_L} (u w : Int64) (hd : I 115 36 = 2) (k : Post (some (.int (nI (mLB 2 (I 115 38) (L 142) u w)))) HS I L RF 146) : CT g yX8_leftBelow cX8_leftBelow 8 (some .int) rX8_leftBelow [.ref 115, .long u, .long w] Post HS I L RF 146 := by
  refine ct_of (lv := [some (.ref 115), some (.long u), none, some (.long w), none, none, none, none]) (by decide) (Nat.le_of_ble_eq_true rfl) rfl ?_
  refine ev_aload_n (pc' := 1) (i := 0) dX8_leftBelow_0 rfl rfl rfl ?_
  refine ev_getI (pc' := 4) (v := (I 115) 38) fo_X8_298 dX8_leftBelow_1 rfl hs_115 rfl rfl ?_
  refine ev_if_eq (tgt := 14) (pc' := 7) dX8_leftBelow_4 rfl rfl (fun c1 => ?_) (fun c1 => ?_)
  · refine ev_iconst (pc' := 15) (v := 0) dX8_leftBelow_14 rfl ki_0 ?_
    refine ev_iret dX8_leftBelow_15 rfl rfl ⟨Nat.le_refl _, Nat.le_refl _⟩ ?_
    have e : mLB 2 (I 115 38) (L 142) u w = 0 := by simp [mLB, c1]
    rw [e] at k
    exact k
  · refine ev_aload_n (pc' := 8) (i := 0) dX8_leftBelow_7 rfl rfl rfl ?_
    refine ev_getI (pc' := 11) (v := 2) fo_X8_267 dX8_leftBelow_8 rfl hs_115 rfl hd ?_
    refine ev_if_ne (tgt := 16) (pc' := 14) dX8_leftBelow_11 rfl rfl (fun _ => ?_) (fun h => absurd h (by decide))
    refine ev_aload_n (pc' := 17) (i := 0) dX8_leftBelow_16 rfl rfl rfl ?_
    refine ev_lload_n (pc' := 18) (i := 1) dX8_leftBelow_17 rfl rfl rfl ?_
    refine ev_lload_n (pc' := 19) (i := 3) dX8_leftBelow_18 rfl rfl rfl ?_
    refine ev_callV (pc' := 22) (rm' := rX8_at) (b := 115) (av := [.long u, .long w]) (rest := []) co_X8_270 ci_X8_at cv_X8_at dX8_leftBelow_19 rfl hs_115 hb_X8 rfl rfl (Nat.le_of_ble_eq_true rfl) ⟨(Nat.le_of_ble_eq_true rfl), (Nat.le_of_ble_eq_true rfl)⟩ ⟨(Nat.le_of_ble_eq_true rfl), (Nat.le_of_ble_eq_true rfl)⟩ ?_
    refine u_X8_at u w 2 (by omega) hd ?_
    refine ev_callS (pc' := 25) (rm' := rX8_sign) (av := [.long (mAt 2 (L 142) u w)]) (rest := []) co_X8_156 cs_X8_sign dX8_leftBelow_22 rfl rfl rfl (Nat.le_of_ble_eq_true rfl) ⟨(Nat.le_of_ble_eq_true rfl), (Nat.le_of_ble_eq_true rfl)⟩ ⟨(Nat.le_of_ble_eq_true rfl), (Nat.le_of_ble_eq_true rfl)⟩ ?_
    refine t_X8_sign (mAt 2 (L 142) u w)  ?_
    refine ev_aload_n (pc' := 26) (i := 0) dX8_leftBelow_25 rfl rfl rfl ?_
    refine ev_getR (pc' := 29) fo_X8_94 dX8_leftBelow_26 rfl hs_115 rfl rf_115_37 ?_
    refine ev_iconst (pc' := 30) (v := 0) dX8_leftBelow_29 rfl ki_0 ?_
    refine ev_lald (pc' := 31) (j := 0) (v := (L 142) 0) dX8_leftBelow_30 rfl hs_142 rfl (Nat.le_of_ble_eq_true rfl) (Nat.le_of_ble_eq_true rfl) rfl ?_
    refine ev_callS (pc' := 34) (rm' := rX8_sign) (av := [.long ((L 142) 0)]) (rest := [.int (mSg (mAt 2 (L 142) u w))]) co_X8_156 cs_X8_sign dX8_leftBelow_31 rfl rfl rfl (Nat.le_of_ble_eq_true rfl) ⟨(Nat.le_of_ble_eq_true rfl), (Nat.le_of_ble_eq_true rfl)⟩ ⟨(Nat.le_of_ble_eq_true rfl), (Nat.le_of_ble_eq_true rfl)⟩ ?_
    refine t_X8_sign ((L 142) 0)  ?_
    refine ev_imul (pc' := 35) (v := (mSg (mAt 2 (L 142) u w)) * (mSg ((L 142) 0))) dX8_leftBelow_34 rfl rfl ?_
    refine ev_istore (pc' := 37) (lv' := [some (.ref 115), some (.long u), none, some (.long w), none, some (.int ((mSg (mAt 2 (L 142) u w)) * (mSg ((L 142) 0)))), none, none]) dX8_leftBelow_35 rfl (Nat.le_of_ble_eq_true rfl) rfl rfl ?_
    refine ev_aload_n (pc' := 38) (i := 0) dX8_leftBelow_37 rfl rfl rfl ?_
    refine ev_getI (pc' := 41) (v := 2) fo_X8_267 dX8_leftBelow_38 rfl hs_115 rfl hd ?_
    refine ev_iconst (pc' := 42) (v := 1) dX8_leftBelow_41 rfl ki_1 ?_
    refine ev_icmp_ne (tgt := 56) (pc' := 45) dX8_leftBelow_42 rfl rfl (fun _ => ?_) (fun h => absurd h (by decide))
    refine ev_iload (pc' := 58) dX8_leftBelow_56 rfl rfl ?_
    refine ev_if_ge (tgt := 63) (pc' := 61) dX8_leftBelow_58 rfl rfl (fun c2 => ?_) (fun c2 => ?_)
    · refine ev_ldc2 (pc' := 66) cl_X8_322 dX8_leftBelow_63 rfl ?_
      refine ev_aload_n (pc' := 67) (i := 0) dX8_leftBelow_66 rfl rfl rfl ?_
      refine ev_getR (pc' := 70) fo_X8_94 dX8_leftBelow_67 rfl hs_115 rfl rf_115_37 ?_
      refine ev_iconst (pc' := 71) (v := 0) dX8_leftBelow_70 rfl ki_0 ?_
      refine ev_lald (pc' := 72) (j := 0) (v := (L 142) 0) dX8_leftBelow_71 rfl hs_142 rfl (Nat.le_of_ble_eq_true rfl) (Nat.le_of_ble_eq_true rfl) rfl ?_
      refine ev_lmul (pc' := 73) (v := 2 * ((L 142) 0)) dX8_leftBelow_72 rfl rfl ?_
      refine ev_lload_n (pc' := 74) (i := 1) dX8_leftBelow_73 rfl rfl rfl ?_
      refine ev_lmul (pc' := 75) (v := (2 * ((L 142) 0)) * u) dX8_leftBelow_74 rfl rfl ?_
      refine ev_aload_n (pc' := 76) (i := 0) dX8_leftBelow_75 rfl rfl rfl ?_
      refine ev_getR (pc' := 79) fo_X8_94 dX8_leftBelow_76 rfl hs_115 rfl rf_115_37 ?_
      refine ev_iconst (pc' := 80) (v := 1) dX8_leftBelow_79 rfl ki_1 ?_
      refine ev_lald (pc' := 81) (j := 1) (v := (L 142) 1) dX8_leftBelow_80 rfl hs_142 rfl (Nat.le_of_ble_eq_true rfl) (Nat.le_of_ble_eq_true rfl) rfl ?_
      refine ev_lload_n (pc' := 82) (i := 3) dX8_leftBelow_81 rfl rfl rfl ?_
      refine ev_lmul (pc' := 83) (v := ((L 142) 1) * w) dX8_leftBelow_82 rfl rfl ?_
      refine ev_ladd (pc' := 84) (v := ((2 * ((L 142) 0)) * u) + (((L 142) 1) * w)) dX8_leftBelow_83 rfl rfl ?_
      refine ev_lstore (pc' := 86) (lv' := [some (.ref 115), some (.long u), none, some (.long w), none, some (.int ((mSg (mAt 2 (L 142) u w)) * (mSg ((L 142) 0)))), some (.long (((2 * ((L 142) 0)) * u) + (((L 142) 1) * w))), none]) dX8_leftBelow_84 rfl (Nat.le_of_ble_eq_true rfl) rfl rfl ?_
      refine ev_lload (pc' := 88) dX8_leftBelow_86 rfl rfl ?_
      refine ev_callS (pc' := 91) (rm' := rX8_sign) (av := [.long (((2 * ((L 142) 0)) * u) + (((L 142) 1) * w))]) (rest := []) co_X8_156 cs_X8_sign dX8_leftBelow_88 rfl rfl rfl (Nat.le_of_ble_eq_true rfl) ⟨(Nat.le_of_ble_eq_true rfl), (Nat.le_of_ble_eq_true rfl)⟩ ⟨(Nat.le_of_ble_eq_true rfl), (Nat.le_of_ble_eq_true rfl)⟩ ?_
      refine t_X8_sign (((2 * ((L 142) 0)) * u) + (((L 142) 1) * w))  ?_
      refine ev_aload_n (pc' := 92) (i := 0) dX8_leftBelow_91 rfl rfl rfl ?_
      refine ev_getR (pc' := 95) fo_X8_94 dX8_leftBelow_92 rfl hs_115 rfl rf_115_37 ?_
      refine ev_iconst (pc' := 96) (v := 0) dX8_leftBelow_95 rfl ki_0 ?_
      refine ev_lald (pc' := 97) (j := 0) (v := (L 142) 0) dX8_leftBelow_96 rfl hs_142 rfl (Nat.le_of_ble_eq_true rfl) (Nat.le_of_ble_eq_true rfl) rfl ?_
      refine ev_callS (pc' := 100) (rm' := rX8_sign) (av := [.long ((L 142) 0)]) (rest := [.int (mSg (((2 * ((L 142) 0)) * u) + (((L 142) 1) * w)))]) co_X8_156 cs_X8_sign dX8_leftBelow_97 rfl rfl rfl (Nat.le_of_ble_eq_true rfl) ⟨(Nat.le_of_ble_eq_true rfl), (Nat.le_of_ble_eq_true rfl)⟩ ⟨(Nat.le_of_ble_eq_true rfl), (Nat.le_of_ble_eq_true rfl)⟩ ?_
      refine t_X8_sign ((L 142) 0)  ?_
      refine ev_imul (pc' := 101) (v := (mSg (((2 * ((L 142) 0)) * u) + (((L 142) 1) * w))) * (mSg ((L 142) 0))) dX8_leftBelow_100 rfl rfl ?_
      refine ev_if_le (tgt := 108) (pc' := 104) dX8_leftBelow_101 rfl rfl (fun c3 => ?_) (fun c3 => ?_)
      · refine ev_iconst (pc' := 109) (v := 0) dX8_leftBelow_108 rfl ki_0 ?_
        refine ev_iret dX8_leftBelow_109 rfl rfl ⟨Nat.le_refl _, Nat.le_refl _⟩ ?_
        have e : mLB 2 (I 115 38) (L 142) u w = 0 := by simp [mLB, c1, c2, c3]
        rw [e] at k
        exact k
      · refine ev_iconst (pc' := 105) (v := 2) dX8_leftBelow_104 rfl ki_2 ?_
        refine ev_goto (tgt := 109) dX8_leftBelow_105 rfl ?_
        refine ev_iret dX8_leftBelow_109 rfl rfl ⟨Nat.le_refl _, Nat.le_refl _⟩ ?_
        have e : mLB 2 (I 115 38) (L 142) u w = 2 := by simp [mLB, c1, c2, c3]
        rw [e] at k
        exact k
    · refine ev_iconst (pc' := 62) (v := 1) dX8_leftBelow_61 rfl ki_1 ?_
      refine ev_iret dX8_leftBelow_62 rfl rfl ⟨Nat.le_refl _, Nat.le_refl _⟩ ?_
      have e : mLB 2 (I 115 38) (L 142) u w = 1 := by simp [mLB, c1, c2]
      rw [e] at k
      exact k
set_option maxRecDepth 4000 in
theorem t_X8_leftBelow3 {g : ma_G} {Post : ma_P} {I : ma_I} {L : ma_L} (u w : Int64) (hd : I 115 36 = 3) (k : Post (some (.int (nI (mLB 3 (I 115 38) (L 142) u w)))) HS I L RF 146) : CT g yX8_leftBelow cX8_leftBelow 8 (some .int) rX8_leftBelow [.ref 115, .long u, .long w] Post HS I L RF 146 := by
  refine ct_of (lv := [some (.ref 115), some (.long u), none, some (.long w), none, none, none, none]) (by decide) (Nat.le_of_ble_eq_true rfl) rfl ?_
  refine ev_aload_n (pc' := 1) (i := 0) dX8_leftBelow_0 rfl rfl rfl ?_
  refine ev_getI (pc' := 4) (v := (I 115) 38) fo_X8_298 dX8_leftBelow_1 rfl hs_115 rfl rfl ?_
  refine ev_if_eq (tgt := 14) (pc' := 7) dX8_leftBelow_4 rfl rfl (fun c1 => ?_) (fun c1 => ?_)
  · refine ev_iconst (pc' := 15) (v := 0) dX8_leftBelow_14 rfl ki_0 ?_
    refine ev_iret dX8_leftBelow_15 rfl rfl ⟨Nat.le_refl _, Nat.le_refl _⟩ ?_
    have e : mLB 3 (I 115 38) (L 142) u w = 0 := by simp [mLB, c1]
    rw [e] at k
    exact k
  · refine ev_aload_n (pc' := 8) (i := 0) dX8_leftBelow_7 rfl rfl rfl ?_
    refine ev_getI (pc' := 11) (v := 3) fo_X8_267 dX8_leftBelow_8 rfl hs_115 rfl hd ?_
    refine ev_if_ne (tgt := 16) (pc' := 14) dX8_leftBelow_11 rfl rfl (fun _ => ?_) (fun h => absurd h (by decide))
    refine ev_aload_n (pc' := 17) (i := 0) dX8_leftBelow_16 rfl rfl rfl ?_
    refine ev_lload_n (pc' := 18) (i := 1) dX8_leftBelow_17 rfl rfl rfl ?_
    refine ev_lload_n (pc' := 19) (i := 3) dX8_leftBelow_18 rfl rfl rfl ?_
    refine ev_callV (pc' := 22) (rm' := rX8_at) (b := 115) (av := [.long u, .long w]) (rest := []) co_X8_270 ci_X8_at cv_X8_at dX8_leftBelow_19 rfl hs_115 hb_X8 rfl rfl (Nat.le_of_ble_eq_true rfl) ⟨(Nat.le_of_ble_eq_true rfl), (Nat.le_of_ble_eq_true rfl)⟩ ⟨(Nat.le_of_ble_eq_true rfl), (Nat.le_of_ble_eq_true rfl)⟩ ?_
    refine u_X8_at u w 3 (by omega) hd ?_
    refine ev_callS (pc' := 25) (rm' := rX8_sign) (av := [.long (mAt 3 (L 142) u w)]) (rest := []) co_X8_156 cs_X8_sign dX8_leftBelow_22 rfl rfl rfl (Nat.le_of_ble_eq_true rfl) ⟨(Nat.le_of_ble_eq_true rfl), (Nat.le_of_ble_eq_true rfl)⟩ ⟨(Nat.le_of_ble_eq_true rfl), (Nat.le_of_ble_eq_true rfl)⟩ ?_
    refine t_X8_sign (mAt 3 (L 142) u w)  ?_
    refine ev_aload_n (pc' := 26) (i := 0) dX8_leftBelow_25 rfl rfl rfl ?_
    refine ev_getR (pc' := 29) fo_X8_94 dX8_leftBelow_26 rfl hs_115 rfl rf_115_37 ?_
    refine ev_iconst (pc' := 30) (v := 0) dX8_leftBelow_29 rfl ki_0 ?_
    refine ev_lald (pc' := 31) (j := 0) (v := (L 142) 0) dX8_leftBelow_30 rfl hs_142 rfl (Nat.le_of_ble_eq_true rfl) (Nat.le_of_ble_eq_true rfl) rfl ?_
    refine ev_callS (pc' := 34) (rm' := rX8_sign) (av := [.long ((L 142) 0)]) (rest := [.int (mSg (mAt 3 (L 142) u w))]) co_X8_156 cs_X8_sign dX8_leftBelow_31 rfl rfl rfl (Nat.le_of_ble_eq_true rfl) ⟨(Nat.le_of_ble_eq_true rfl), (Nat.le_of_ble_eq_true rfl)⟩ ⟨(Nat.le_of_ble_eq_true rfl), (Nat.le_of_ble_eq_true rfl)⟩ ?_
    refine t_X8_sign ((L 142) 0)  ?_
    refine ev_imul (pc' := 35) (v := (mSg (mAt 3 (L 142) u w)) * (mSg ((L 142) 0))) dX8_leftBelow_34 rfl rfl ?_
    refine ev_istore (pc' := 37) (lv' := [some (.ref 115), some (.long u), none, some (.long w), none, some (.int ((mSg (mAt 3 (L 142) u w)) * (mSg ((L 142) 0)))), none, none]) dX8_leftBelow_35 rfl (Nat.le_of_ble_eq_true rfl) rfl rfl ?_
    refine ev_aload_n (pc' := 38) (i := 0) dX8_leftBelow_37 rfl rfl rfl ?_
    refine ev_getI (pc' := 41) (v := 3) fo_X8_267 dX8_leftBelow_38 rfl hs_115 rfl hd ?_
    refine ev_iconst (pc' := 42) (v := 1) dX8_leftBelow_41 rfl ki_1 ?_
    refine ev_icmp_ne (tgt := 56) (pc' := 45) dX8_leftBelow_42 rfl rfl (fun _ => ?_) (fun h => absurd h (by decide))
    refine ev_iload (pc' := 58) dX8_leftBelow_56 rfl rfl ?_
    refine ev_if_ge (tgt := 63) (pc' := 61) dX8_leftBelow_58 rfl rfl (fun c2 => ?_) (fun c2 => ?_)
    · refine ev_ldc2 (pc' := 66) cl_X8_322 dX8_leftBelow_63 rfl ?_
      refine ev_aload_n (pc' := 67) (i := 0) dX8_leftBelow_66 rfl rfl rfl ?_
      refine ev_getR (pc' := 70) fo_X8_94 dX8_leftBelow_67 rfl hs_115 rfl rf_115_37 ?_
      refine ev_iconst (pc' := 71) (v := 0) dX8_leftBelow_70 rfl ki_0 ?_
      refine ev_lald (pc' := 72) (j := 0) (v := (L 142) 0) dX8_leftBelow_71 rfl hs_142 rfl (Nat.le_of_ble_eq_true rfl) (Nat.le_of_ble_eq_true rfl) rfl ?_
      refine ev_lmul (pc' := 73) (v := 2 * ((L 142) 0)) dX8_leftBelow_72 rfl rfl ?_
      refine ev_lload_n (pc' := 74) (i := 1) dX8_leftBelow_73 rfl rfl rfl ?_
      refine ev_lmul (pc' := 75) (v := (2 * ((L 142) 0)) * u) dX8_leftBelow_74 rfl rfl ?_
      refine ev_aload_n (pc' := 76) (i := 0) dX8_leftBelow_75 rfl rfl rfl ?_
      refine ev_getR (pc' := 79) fo_X8_94 dX8_leftBelow_76 rfl hs_115 rfl rf_115_37 ?_
      refine ev_iconst (pc' := 80) (v := 1) dX8_leftBelow_79 rfl ki_1 ?_
      refine ev_lald (pc' := 81) (j := 1) (v := (L 142) 1) dX8_leftBelow_80 rfl hs_142 rfl (Nat.le_of_ble_eq_true rfl) (Nat.le_of_ble_eq_true rfl) rfl ?_
      refine ev_lload_n (pc' := 82) (i := 3) dX8_leftBelow_81 rfl rfl rfl ?_
      refine ev_lmul (pc' := 83) (v := ((L 142) 1) * w) dX8_leftBelow_82 rfl rfl ?_
      refine ev_ladd (pc' := 84) (v := ((2 * ((L 142) 0)) * u) + (((L 142) 1) * w)) dX8_leftBelow_83 rfl rfl ?_
      refine ev_lstore (pc' := 86) (lv' := [some (.ref 115), some (.long u), none, some (.long w), none, some (.int ((mSg (mAt 3 (L 142) u w)) * (mSg ((L 142) 0)))), some (.long (((2 * ((L 142) 0)) * u) + (((L 142) 1) * w))), none]) dX8_leftBelow_84 rfl (Nat.le_of_ble_eq_true rfl) rfl rfl ?_
      refine ev_lload (pc' := 88) dX8_leftBelow_86 rfl rfl ?_
      refine ev_callS (pc' := 91) (rm' := rX8_sign) (av := [.long (((2 * ((L 142) 0)) * u) + (((L 142) 1) * w))]) (rest := []) co_X8_156 cs_X8_sign dX8_leftBelow_88 rfl rfl rfl (Nat.le_of_ble_eq_true rfl) ⟨(Nat.le_of_ble_eq_true rfl), (Nat.le_of_ble_eq_true rfl)⟩ ⟨(Nat.le_of_ble_eq_true rfl), (Nat.le_of_ble_eq_true rfl)⟩ ?_
      refine t_X8_sign (((2 * ((L 142) 0)) * u) + (((L 142) 1) * w))  ?_
      refine ev_aload_n (pc' := 92) (i := 0) dX8_leftBelow_91 rfl rfl rfl ?_
      refine ev_getR (pc' := 95) fo_X8_94 dX8_leftBelow_92 rfl hs_115 rfl rf_115_37 ?_
      refine ev_iconst (pc' := 96) (v := 0) dX8_leftBelow_95 rfl ki_0 ?_
      refine ev_lald (pc' := 97) (j := 0) (v := (L 142) 0) dX8_leftBelow_96 rfl hs_142 rfl (Nat.le_of_ble_eq_true rfl) (Nat.le_of_ble_eq_true rfl) rfl ?_
      refine ev_callS (pc' := 100) (rm' := rX8_sign) (av := [.long ((L 142) 0)]) (rest := [.int (mSg (((2 * ((L 142) 0)) * u) + (((L 142) 1) * w)))]) co_X8_156 cs_X8_sign dX8_leftBelow_97 rfl rfl rfl (Nat.le_of_ble_eq_true rfl) ⟨(Nat.le_of_ble_eq_true rfl), (Nat.le_of_ble_eq_true rfl)⟩ ⟨(Nat.le_of_ble_eq_true rfl), (Nat.le_of_ble_eq_true rfl)⟩ ?_
      refine t_X8_sign ((L 142) 0)  ?_
      refine ev_imul (pc' := 101) (v := (mSg (((2 * ((L 142) 0)) * u) + (((L 142) 1) * w))) * (mSg ((L 142) 0))) dX8_leftBelow_100 rfl rfl ?_
      refine ev_if_le (tgt := 108) (pc' := 104) dX8_leftBelow_101 rfl rfl (fun c3 => ?_) (fun c3 => ?_)
      · refine ev_iconst (pc' := 109) (v := 0) dX8_leftBelow_108 rfl ki_0 ?_
        refine ev_iret dX8_leftBelow_109 rfl rfl ⟨Nat.le_refl _, Nat.le_refl _⟩ ?_
        have e : mLB 3 (I 115 38) (L 142) u w = 0 := by simp [mLB, c1, c2, c3]
        rw [e] at k
        exact k
      · refine ev_iconst (pc' := 105) (v := 2) dX8_leftBelow_104 rfl ki_2 ?_
        refine ev_goto (tgt := 109) dX8_leftBelow_105 rfl ?_
        refine ev_iret dX8_leftBelow_109 rfl rfl ⟨Nat.le_refl _, Nat.le_refl _⟩ ?_
        have e : mLB 3 (I 115 38) (L 142) u w = 2 := by simp [mLB, c1, c2, c3]
        rw [e] at k
        exact k
    · refine ev_iconst (pc' := 62) (v := 1) dX8_leftBelow_61 rfl ki_1 ?_
      refine ev_iret dX8_leftBelow_62 rfl rfl ⟨Nat.le_refl _, Nat.le_refl _⟩ ?_
      have e : mLB 3 (I 115 38) (L 142) u w = 1 := by simp [mLB, c1, c2]
      rw [e] at k
      exact k
set_option maxRecDepth 4000 in
theorem t_X8_leftBelow4 {g : ma_G} {Post : ma_P} {I : ma_I} {L : ma_L} (u w : Int64) (hd : I 115 36 = 4) (k : Post (some (.int (nI (mLB 4 (I 115 38) (L 142) u w)))) HS I L RF 146) : CT g yX8_leftBelow cX8_leftBelow 8 (some .int) rX8_leftBelow [.ref 115, .long u, .long w] Post HS I L RF 146 := by
  refine ct_of (lv := [some (.ref 115), some (.long u), none, some (.long w), none, none, none, none]) (by decide) (Nat.le_of_ble_eq_true rfl) rfl ?_
  refine ev_aload_n (pc' := 1) (i := 0) dX8_leftBelow_0 rfl rfl rfl ?_
  refine ev_getI (pc' := 4) (v := (I 115) 38) fo_X8_298 dX8_leftBelow_1 rfl hs_115 rfl rfl ?_
  refine ev_if_eq (tgt := 14) (pc' := 7) dX8_leftBelow_4 rfl rfl (fun c1 => ?_) (fun c1 => ?_)
  · refine ev_iconst (pc' := 15) (v := 0) dX8_leftBelow_14 rfl ki_0 ?_
    refine ev_iret dX8_leftBelow_15 rfl rfl ⟨Nat.le_refl _, Nat.le_refl _⟩ ?_
    have e : mLB 4 (I 115 38) (L 142) u w = 0 := by simp [mLB, c1]
    rw [e] at k
    exact k
  · refine ev_aload_n (pc' := 8) (i := 0) dX8_leftBelow_7 rfl rfl rfl ?_
    refine ev_getI (pc' := 11) (v := 4) fo_X8_267 dX8_leftBelow_8 rfl hs_115 rfl hd ?_
    refine ev_if_ne (tgt := 16) (pc' := 14) dX8_leftBelow_11 rfl rfl (fun _ => ?_) (fun h => absurd h (by decide))
    refine ev_aload_n (pc' := 17) (i := 0) dX8_leftBelow_16 rfl rfl rfl ?_
    refine ev_lload_n (pc' := 18) (i := 1) dX8_leftBelow_17 rfl rfl rfl ?_
    refine ev_lload_n (pc' := 19) (i := 3) dX8_leftBelow_18 rfl rfl rfl ?_
    refine ev_callV (pc' := 22) (rm' := rX8_at) (b := 115) (av := [.long u, .long w]) (rest := []) co_X8_270 ci_X8_at cv_X8_at dX8_leftBelow_19 rfl hs_115 hb_X8 rfl rfl (Nat.le_of_ble_eq_true rfl) ⟨(Nat.le_of_ble_eq_true rfl), (Nat.le_of_ble_eq_true rfl)⟩ ⟨(Nat.le_of_ble_eq_true rfl), (Nat.le_of_ble_eq_true rfl)⟩ ?_
    refine u_X8_at u w 4 (by omega) hd ?_
    refine ev_callS (pc' := 25) (rm' := rX8_sign) (av := [.long (mAt 4 (L 142) u w)]) (rest := []) co_X8_156 cs_X8_sign dX8_leftBelow_22 rfl rfl rfl (Nat.le_of_ble_eq_true rfl) ⟨(Nat.le_of_ble_eq_true rfl), (Nat.le_of_ble_eq_true rfl)⟩ ⟨(Nat.le_of_ble_eq_true rfl), (Nat.le_of_ble_eq_true rfl)⟩ ?_
    refine t_X8_sign (mAt 4 (L 142) u w)  ?_
    refine ev_aload_n (pc' := 26) (i := 0) dX8_leftBelow_25 rfl rfl rfl ?_
    refine ev_getR (pc' := 29) fo_X8_94 dX8_leftBelow_26 rfl hs_115 rfl rf_115_37 ?_
    refine ev_iconst (pc' := 30) (v := 0) dX8_leftBelow_29 rfl ki_0 ?_
    refine ev_lald (pc' := 31) (j := 0) (v := (L 142) 0) dX8_leftBelow_30 rfl hs_142 rfl (Nat.le_of_ble_eq_true rfl) (Nat.le_of_ble_eq_true rfl) rfl ?_
    refine ev_callS (pc' := 34) (rm' := rX8_sign) (av := [.long ((L 142) 0)]) (rest := [.int (mSg (mAt 4 (L 142) u w))]) co_X8_156 cs_X8_sign dX8_leftBelow_31 rfl rfl rfl (Nat.le_of_ble_eq_true rfl) ⟨(Nat.le_of_ble_eq_true rfl), (Nat.le_of_ble_eq_true rfl)⟩ ⟨(Nat.le_of_ble_eq_true rfl), (Nat.le_of_ble_eq_true rfl)⟩ ?_
    refine t_X8_sign ((L 142) 0)  ?_
    refine ev_imul (pc' := 35) (v := (mSg (mAt 4 (L 142) u w)) * (mSg ((L 142) 0))) dX8_leftBelow_34 rfl rfl ?_
    refine ev_istore (pc' := 37) (lv' := [some (.ref 115), some (.long u), none, some (.long w), none, some (.int ((mSg (mAt 4 (L 142) u w)) * (mSg ((L 142) 0)))), none, none]) dX8_leftBelow_35 rfl (Nat.le_of_ble_eq_true rfl) rfl rfl ?_
    refine ev_aload_n (pc' := 38) (i := 0) dX8_leftBelow_37 rfl rfl rfl ?_
    refine ev_getI (pc' := 41) (v := 4) fo_X8_267 dX8_leftBelow_38 rfl hs_115 rfl hd ?_
    refine ev_iconst (pc' := 42) (v := 1) dX8_leftBelow_41 rfl ki_1 ?_
    refine ev_icmp_ne (tgt := 56) (pc' := 45) dX8_leftBelow_42 rfl rfl (fun _ => ?_) (fun h => absurd h (by decide))
    refine ev_iload (pc' := 58) dX8_leftBelow_56 rfl rfl ?_
    refine ev_if_ge (tgt := 63) (pc' := 61) dX8_leftBelow_58 rfl rfl (fun c2 => ?_) (fun c2 => ?_)
    · refine ev_ldc2 (pc' := 66) cl_X8_322 dX8_leftBelow_63 rfl ?_
      refine ev_aload_n (pc' := 67) (i := 0) dX8_leftBelow_66 rfl rfl rfl ?_
      refine ev_getR (pc' := 70) fo_X8_94 dX8_leftBelow_67 rfl hs_115 rfl rf_115_37 ?_
      refine ev_iconst (pc' := 71) (v := 0) dX8_leftBelow_70 rfl ki_0 ?_
      refine ev_lald (pc' := 72) (j := 0) (v := (L 142) 0) dX8_leftBelow_71 rfl hs_142 rfl (Nat.le_of_ble_eq_true rfl) (Nat.le_of_ble_eq_true rfl) rfl ?_
      refine ev_lmul (pc' := 73) (v := 2 * ((L 142) 0)) dX8_leftBelow_72 rfl rfl ?_
      refine ev_lload_n (pc' := 74) (i := 1) dX8_leftBelow_73 rfl rfl rfl ?_
      refine ev_lmul (pc' := 75) (v := (2 * ((L 142) 0)) * u) dX8_leftBelow_74 rfl rfl ?_
      refine ev_aload_n (pc' := 76) (i := 0) dX8_leftBelow_75 rfl rfl rfl ?_
      refine ev_getR (pc' := 79) fo_X8_94 dX8_leftBelow_76 rfl hs_115 rfl rf_115_37 ?_
      refine ev_iconst (pc' := 80) (v := 1) dX8_leftBelow_79 rfl ki_1 ?_
      refine ev_lald (pc' := 81) (j := 1) (v := (L 142) 1) dX8_leftBelow_80 rfl hs_142 rfl (Nat.le_of_ble_eq_true rfl) (Nat.le_of_ble_eq_true rfl) rfl ?_
      refine ev_lload_n (pc' := 82) (i := 3) dX8_leftBelow_81 rfl rfl rfl ?_
      refine ev_lmul (pc' := 83) (v := ((L 142) 1) * w) dX8_leftBelow_82 rfl rfl ?_
      refine ev_ladd (pc' := 84) (v := ((2 * ((L 142) 0)) * u) + (((L 142) 1) * w)) dX8_leftBelow_83 rfl rfl ?_
      refine ev_lstore (pc' := 86) (lv' := [some (.ref 115), some (.long u), none, some (.long w), none, some (.int ((mSg (mAt 4 (L 142) u w)) * (mSg ((L 142) 0)))), some (.long (((2 * ((L 142) 0)) * u) + (((L 142) 1) * w))), none]) dX8_leftBelow_84 rfl (Nat.le_of_ble_eq_true rfl) rfl rfl ?_
      refine ev_lload (pc' := 88) dX8_leftBelow_86 rfl rfl ?_
      refine ev_callS (pc' := 91) (rm' := rX8_sign) (av := [.long (((2 * ((L 142) 0)) * u) + (((L 142) 1) * w))]) (rest := []) co_X8_156 cs_X8_sign dX8_leftBelow_88 rfl rfl rfl (Nat.le_of_ble_eq_true rfl) ⟨(Nat.le_of_ble_eq_true rfl), (Nat.le_of_ble_eq_true rfl)⟩ ⟨(Nat.le_of_ble_eq_true rfl), (Nat.le_of_ble_eq_true rfl)⟩ ?_
      refine t_X8_sign (((2 * ((L 142) 0)) * u) + (((L 142) 1) * w))  ?_
      refine ev_aload_n (pc' := 92) (i := 0) dX8_leftBelow_91 rfl rfl rfl ?_
      refine ev_getR (pc' := 95) fo_X8_94 dX8_leftBelow_92 rfl hs_115 rfl rf_115_37 ?_
      refine ev_iconst (pc' := 96) (v := 0) dX8_leftBelow_95 rfl ki_0 ?_
      refine ev_lald (pc' := 97) (j := 0) (v := (L 142) 0) dX8_leftBelow_96 rfl hs_142 rfl (Nat.le_of_ble_eq_true rfl) (Nat.le_of_ble_eq_true rfl) rfl ?_
      refine ev_callS (pc' := 100) (rm' := rX8_sign) (av := [.long ((L 142) 0)]) (rest := [.int (mSg (((2 * ((L 142) 0)) * u) + (((L 142) 1) * w)))]) co_X8_156 cs_X8_sign dX8_leftBelow_97 rfl rfl rfl (Nat.le_of_ble_eq_true rfl) ⟨(Nat.le_of_ble_eq_true rfl), (Nat.le_of_ble_eq_true rfl)⟩ ⟨(Nat.le_of_ble_eq_true rfl), (Nat.le_of_ble_eq_true rfl)⟩ ?_
      refine t_X8_sign ((L 142) 0)  ?_
      refine ev_imul (pc' := 101) (v := (mSg (((2 * ((L 142) 0)) * u) + (((L 142) 1) * w))) * (mSg ((L 142) 0))) dX8_leftBelow_100 rfl rfl ?_
      refine ev_if_le (tgt := 108) (pc' := 104) dX8_leftBelow_101 rfl rfl (fun c3 => ?_) (fun c3 => ?_)
      · refine ev_iconst (pc' := 109) (v := 0) dX8_leftBelow_108 rfl ki_0 ?_
        refine ev_iret dX8_leftBelow_109 rfl rfl ⟨Nat.le_refl _, Nat.le_refl _⟩ ?_
        have e : mLB 4 (I 115 38) (L 142) u w = 0 := by simp [mLB, c1, c2, c3]
        rw [e] at k
        exact k
      · refine ev_iconst (pc' := 105) (v := 2) dX8_leftBelow_104 rfl ki_2 ?_
        refine ev_goto (tgt := 109) dX8_leftBelow_105 rfl ?_
        refine ev_iret dX8_leftBelow_109 rfl rfl ⟨Nat.le_refl _, Nat.le_refl _⟩ ?_
        have e : mLB 4 (I 115 38) (L 142) u w = 2 := by simp [mLB, c1, c2, c3]
        rw [e] at k
        exact k
    · refine ev_iconst (pc' := 62) (v := 1) dX8_leftBelow_61 rfl ki_1 ?_
      refine ev_iret dX8_leftBelow_62 rfl rfl ⟨Nat.le_refl _, Nat.le_refl _⟩ ?_
      have e : mLB 4 (I 115 38) (L 142) u w = 1 := by simp [mLB, c1, c2]
      rw [e] at k
      exact k
theorem u_X8_leftBelow {g : ma_G} {Post : ma_P} {I : ma_I} {L : ma_L} (u w : Int64) (m : Nat) (hm : m < 5) (hd : I 115 36 = nI m) (k : Post (some (.int (nI (mLB m (I 115 38) (L 142) u w)))) HS I L RF 146) : CT g yX8_leftBelow cX8_leftBelow 8 (some .int) rX8_leftBelow [.ref 115, .long u, .long w] Post HS I L RF 146 := by
  match m, hm with
  | 0, _ => exact t_X8_leftBelow0 u w hd k
  | 1, _ => exact t_X8_leftBelow1 u w hd k
  | 2, _ => exact t_X8_leftBelow2 u w hd k
  | 3, _ => exact t_X8_leftBelow3 u w hd k
  | 4, _ => exact t_X8_leftBelow4 u w hd k
