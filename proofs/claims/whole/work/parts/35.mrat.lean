def mF1 (b : Nat) (f l : Nat → Int64) (k : Nat) : Nat → Int64 := fun j => if j < k then f (b + j) else l j
theorem mF1_0 (b : Nat) (f l : Nat → Int64) : mF1 b f l 0 = l := lf_0 _ _
theorem mF1_s (b : Nat) (f l : Nat → Int64) (k : Nat) : ma_up (mF1 b f l k) k (f (b + k)) = mF1 b f l (k + 1) := lf_s (fun j => f (b + j)) l k
theorem mAt_congr {f f' : Nat → Int64} (u w : Int64) : ∀ {m : Nat}, m < 5 → (∀ j, j ≤ m → f j = f' j) → mAt m f u w = mAt m f' u w
  | 0, _, h => by simp only [mAt, mAt0, h 0 (by omega)]
  | 1, _, h => by simp only [mAt, mAt1, h 0 (by omega), h 1 (by omega)]
  | 2, _, h => by simp only [mAt, mAt2, h 0 (by omega), h 1 (by omega), h 2 (by omega)]
  | 3, _, h => by simp only [mAt, mAt3, h 0 (by omega), h 1 (by omega), h 2 (by omega), h 3 (by omega)]
  | 4, _, h => by simp only [mAt, mAt4, h 0 (by omega), h 1 (by omega), h 2 (by omega), h 3 (by omega), h 4 (by omega)]
theorem mDq_congr {f f' : Nat → Int64} (u w : Int64) : ∀ (k : Nat), (∀ j, j ≤ k → f j = f' j) → mDq f u w k = mDq f' u w k
  | 0, h => by simp only [mDq, h 0 (by omega)]
  | k + 1, h => by simp only [mDq, h (k + 1) (by omega), mDq_congr u w k (fun j hj => h j (by omega))]
theorem mTk_congr (u w : Int64) : ∀ (m : Nat) {f f' : Nat → Int64}, m < 5 → (∀ j, j ≤ m → f j = f' j) → (mTk u w m f).1 = (mTk u w m f').1
  | 0, f, f', _, h => rfl
  | m + 1, f, f', hm, h => by
    have e := mAt_congr u w hm h
    by_cases c : mAt (m + 1) f u w = 0
    · rw [mTk_y c, mTk_y (e ▸ c)]
      apply mTk_congr u w m (by omega)
      intro j hj
      rw [if_pos (by omega), if_pos (by omega)]
      exact mDq_congr u w j (fun i hi => h i (by omega))
    · rw [mTk_n c, mTk_n (e ▸ c)]
/-- how often u/w is a root of the form -/
def mTo (F : Nat → Int64) (bb m0 : Nat) (u w : Int64) : Nat := m0 - (mTk u w m0 (fun j => F (bb + j))).1
set_option maxRecDepth 4000 in
theorem t_X8_timesOf {g : ma_G} {Post : ma_P} {I : ma_I} {L : ma_L} (u : Int64) (w : Int64) (bb m0 : Nat) (hm0 : m0 + bb = 4) (hb : I 115 35 = nI bb) (hw : ¬ w = 0) (k : ∀ (x : Int32) (f : Nat → Int64), Post (some (.int (nI (mTo (L 132) bb m0 u w)))) HS (ma_up I 115 (ma_up (I 115) 36 x)) (ma_up L 142 f) RF 146) : CT g yX8_timesOf cX8_timesOf 6 (some .int) rX8_timesOf [.ref 115, .long u, .long w] Post HS I L RF 146 := by
  refine ct_of (lv := [some (.ref 115), some (.long u), none, some (.long w), none, none]) (by decide) (Nat.le_of_ble_eq_true rfl) rfl ?_
  refine ev_aload_n (pc' := 1) (i := 0) dX8_timesOf_0 rfl rfl rfl ?_
  refine ev_iconst (pc' := 2) (v := 4) dX8_timesOf_1 rfl ki_4 ?_
  refine ev_aload_n (pc' := 3) (i := 0) dX8_timesOf_2 rfl rfl rfl ?_
  refine ev_getI (pc' := 6) (v := nI bb) fo_X8_280 dX8_timesOf_3 rfl hs_115 rfl hb ?_
  refine ev_isub (pc' := 7) (v := nI m0) dX8_timesOf_6 rfl (pt_4b hm0) ?_
  refine ev_putI (pc' := 10) (I' := (ma_up I 115 (ma_up (I 115) 36 (nI m0)))) fo_X8_267 dX8_timesOf_7 rfl hs_115 rfl (fun r hr => by cases hr; rfl) ⟨rfl, rfl⟩ rfl ?_
  refine ev_iconst (pc' := 11) (v := 0) dX8_timesOf_10 rfl ki_0 ?_
  refine ev_istore (pc' := 13) (lv' := [some (.ref 115), some (.long u), none, some (.long w), none, some (.int 0)]) dX8_timesOf_11 rfl (Nat.le_of_ble_eq_true rfl) rfl rfl ?_
  suffices ll : ∀ (d k : Nat), k + d = m0 + 1 → EV g yX8_timesOf cX8_timesOf 6 (some .int) rX8_timesOf (ma_ZM g rX8_timesOf Post) 13 [some (.ref 115), some (.long u), none, some (.long w), none, some (.int (nI k))] [] HS (ma_up I 115 (ma_up (I 115) 36 (nI m0))) (ma_up L 142 (mF1 bb (L 132) (L 142) k)) RF 146 0 0 by
    refine ev_memL (fun x hx => ?_)
    have hx : x = ma_up L 142 (mF1 bb (L 132) (L 142) 0) := by rw [hx, mF1_0, ma_up_self]
    subst hx
    exact ll (m0 + 1) 0 (by omega)
  intro d2
  induction d2 with
  | zero =>
    intro k hk
    obtain rfl : k = m0 + 1 := by omega
    refine ev_iload (pc' := 15) dX8_timesOf_13 rfl rfl ?_
    refine ev_aload_n (pc' := 16) (i := 0) dX8_timesOf_15 rfl rfl rfl ?_
    refine ev_getI (pc' := 19) (v := nI m0) fo_X8_267 dX8_timesOf_16 rfl hs_115 rfl rfl ?_
    refine ev_icmp_gt (tgt := 47) (pc' := 22) dX8_timesOf_19 rfl rfl (fun _ => ?_) (fun h => absurd (nx_lt (a := m0) (b := (m0 + 1)) (by omega) (by omega)) h)
    refine ev_iconst (pc' := 48) (v := 0) dX8_timesOf_47 rfl ki_0 ?_
    refine ev_istore (pc' := 50) (lv' := [some (.ref 115), some (.long u), none, some (.long w), none, some (.int 0)]) dX8_timesOf_48 rfl (Nat.le_of_ble_eq_true rfl) rfl rfl ?_
    suffices lt : ∀ (m n : Nat) (f : Nat → Int64), n + m = m0 → mTk u w m f = mTk u w m0 (mF1 bb (L 132) (L 142) (m0 + 1)) → EV g yX8_timesOf cX8_timesOf 6 (some .int) rX8_timesOf (ma_ZM g rX8_timesOf Post) 50 [some (.ref 115), some (.long u), none, some (.long w), none, some (.int (nI n))] [] HS (ma_up I 115 (ma_up (I 115) 36 (nI m))) (ma_up L 142 f) RF 146 0 0 from lt m0 0 (mF1 bb (L 132) (L 142) (m0 + 1)) (by omega) rfl
    intro m
    induction m with
    | zero =>
      intro n f hn hT
      refine ev_aload_n (pc' := 51) (i := 0) dX8_timesOf_50 rfl rfl rfl ?_
      refine ev_getI (pc' := 54) (v := 0) fo_X8_267 dX8_timesOf_51 rfl hs_115 rfl rfl ?_
      refine ev_if_le (tgt := 80) (pc' := 57) dX8_timesOf_54 rfl rfl (fun _ => ?_) (fun h => absurd (by decide) h)
      refine ev_iload (pc' := 82) dX8_timesOf_80 rfl rfl ?_
      refine ev_iret dX8_timesOf_82 rfl rfl ⟨Nat.le_refl _, Nat.le_refl _⟩ ?_
      have e1 : 0 = (mTk u w m0 (fun j => L 132 (bb + j))).1 := by
        rw [mTk_congr u w m0 (f' := mF1 bb (L 132) (L 142) (m0 + 1)) (by omega) (fun j hj => by unfold mF1; rw [if_pos (by omega)]), ← hT]
        exact rfl
      have e2 : mTo (L 132) bb m0 u w = n := by unfold mTo; rw [← e1]; omega
      rw [e2] at k
      exact k _ _
    | succ m ih =>
      intro n f hn hT
      refine ev_aload_n (pc' := 51) (i := 0) dX8_timesOf_50 rfl rfl rfl ?_
      refine ev_getI (pc' := 54) (v := nI (m + 1)) fo_X8_267 dX8_timesOf_51 rfl hs_115 rfl rfl ?_
      refine ev_if_le (tgt := 80) (pc' := 57) dX8_timesOf_54 rfl rfl (fun h => absurd h (nx_nle (a := (m + 1)) (b := 0) (by omega) (by omega))) (fun _ => ?_)
      refine ev_aload_n (pc' := 58) (i := 0) dX8_timesOf_57 rfl rfl rfl ?_
      refine ev_lload_n (pc' := 59) (i := 1) dX8_timesOf_58 rfl rfl rfl ?_
      refine ev_lload_n (pc' := 60) (i := 3) dX8_timesOf_59 rfl rfl rfl ?_
      refine ev_callV (pc' := 63) (rm' := rX8_at) (b := 115) (av := [.long u, .long w]) (rest := []) co_X8_270 ci_X8_at cv_X8_at dX8_timesOf_60 rfl hs_115 hb_X8 rfl rfl (Nat.le_of_ble_eq_true rfl) ⟨(Nat.le_of_ble_eq_true rfl), (Nat.le_of_ble_eq_true rfl)⟩ ⟨(Nat.le_of_ble_eq_true rfl), (Nat.le_of_ble_eq_true rfl)⟩ ?_
      refine u_X8_at u w (m + 1) (by omega) rfl ?_
      refine ev_lconst (pc' := 64) (v := 0) dX8_timesOf_63 rfl kl_0 ?_
      refine ev_lc_ne (p1 := 65) (tgt := 80) (pc' := 68) dX8_timesOf_64 rfl dX8_timesOf_65 rfl rfl (fun c1 => ?_) (fun c1 => ?_)
      · refine ev_iload (pc' := 82) dX8_timesOf_80 rfl rfl ?_
        refine ev_iret dX8_timesOf_82 rfl rfl ⟨Nat.le_refl _, Nat.le_refl _⟩ ?_
        have e1 : (m + 1) = (mTk u w m0 (fun j => L 132 (bb + j))).1 := by
          rw [mTk_congr u w m0 (f' := mF1 bb (L 132) (L 142) (m0 + 1)) (by omega) (fun j hj => by unfold mF1; rw [if_pos (by omega)]), ← hT]
          exact (congrArg Prod.fst (mTk_n c1)).symm
        have e2 : mTo (L 132) bb m0 u w = n := by unfold mTo; rw [← e1]; omega
        rw [e2] at k
        exact k _ _
      · refine ev_aload_n (pc' := 69) (i := 0) dX8_timesOf_68 rfl rfl rfl ?_
        refine ev_lload_n (pc' := 70) (i := 1) dX8_timesOf_69 rfl rfl rfl ?_
        refine ev_lload_n (pc' := 71) (i := 3) dX8_timesOf_70 rfl rfl rfl ?_
        refine ev_callV (pc' := 74) (rm' := rX8_divide) (b := 115) (av := [.long u, .long w]) (rest := []) co_X8_273 ci_X8_divide cv_X8_divide dX8_timesOf_71 rfl hs_115 hb_X8 rfl rfl (Nat.le_of_ble_eq_true rfl) ⟨(Nat.le_of_ble_eq_true rfl), (Nat.le_of_ble_eq_true rfl)⟩ ⟨(Nat.le_of_ble_eq_true rfl), (Nat.le_of_ble_eq_true rfl)⟩ ?_
        refine u_X8_divide u w (m + 1) (by omega) (by omega) rfl hw ?_
        refine ev_iinc (pc' := 77) (v := nI (n + 1)) (lv' := [some (.ref 115), some (.long u), none, some (.long w), none, some (.int (nI (n + 1)))]) dX8_timesOf_74 rfl rfl (nI_add n 1) (Nat.le_of_ble_eq_true rfl) rfl rfl ?_
        refine ev_goto (tgt := 50) dX8_timesOf_77 rfl ?_
        refine ev_memI (fun z hz => ?_)
        rw [ma_up_up, ma_up_s, ma_up_up] at hz
        subst hz
        refine ev_memL (fun z hz => ?_)
        rw [ma_up_up] at hz
        have hz : z = ma_up L 142 (fun j => if j < m + 1 then mDq f u w j else f j) := hz
        subst hz
        exact ih (n + 1) _ (by omega) ((mTk_y c1).symm.trans hT)
  | succ d2 ih2 =>
    intro k hk
    refine ev_iload (pc' := 15) dX8_timesOf_13 rfl rfl ?_
    refine ev_aload_n (pc' := 16) (i := 0) dX8_timesOf_15 rfl rfl rfl ?_
    refine ev_getI (pc' := 19) (v := nI m0) fo_X8_267 dX8_timesOf_16 rfl hs_115 rfl rfl ?_
    refine ev_icmp_gt (tgt := 47) (pc' := 22) dX8_timesOf_19 rfl rfl (fun h => absurd h (nx_nlt (a := m0) (b := k) (by omega) (by omega))) (fun _ => ?_)
    refine ev_aload_n (pc' := 23) (i := 0) dX8_timesOf_22 rfl rfl rfl ?_
    refine ev_getR (pc' := 26) fo_X8_94 dX8_timesOf_23 rfl hs_115 rfl rf_115_37 ?_
    refine ev_iload (pc' := 28) dX8_timesOf_26 rfl rfl ?_
    refine ev_aload_n (pc' := 29) (i := 0) dX8_timesOf_28 rfl rfl rfl ?_
    refine ev_getR (pc' := 32) fo_X8_64 dX8_timesOf_29 rfl hs_115 rfl rf_115_23 ?_
    refine ev_aload_n (pc' := 33) (i := 0) dX8_timesOf_32 rfl rfl rfl ?_
    refine ev_getI (pc' := 36) (v := nI bb) fo_X8_280 dX8_timesOf_33 rfl hs_115 rfl hb ?_
    refine ev_iload (pc' := 38) dX8_timesOf_36 rfl rfl ?_
    refine ev_iadd (pc' := 39) (v := nI (bb + k)) dX8_timesOf_38 rfl (nI_add bb k) ?_
    refine ev_lald (pc' := 40) (j := bb + k) (v := (L 132) (bb + k)) dX8_timesOf_39 rfl hs_132 rfl (by omega) (Nat.le_of_ble_eq_true rfl) rfl ?_
    refine ev_last (pc' := 41) (j := k) (L' := (ma_up L 142 (ma_up (mF1 bb (L 132) (L 142) k) k ((L 132) (bb + k))))) dX8_timesOf_40 rfl hs_142 rfl (by omega) (Nat.le_of_ble_eq_true rfl) (ma_up_up _ _ _ _) ?_
    refine ev_iinc (pc' := 44) (v := nI (k + 1)) (lv' := [some (.ref 115), some (.long u), none, some (.long w), none, some (.int (nI (k + 1)))]) dX8_timesOf_41 rfl rfl (nI_add k 1) (Nat.le_of_ble_eq_true rfl) rfl rfl ?_
    refine ev_goto (tgt := 13) dX8_timesOf_44 rfl ?_
    refine ev_memL (fun x hx => ?_)
    have hx := hx.trans (congrArg (ma_up L 142) (mF1_s bb (L 132) (L 142) k))
    subst hx
    exact ih2 (k + 1) (by omega)
