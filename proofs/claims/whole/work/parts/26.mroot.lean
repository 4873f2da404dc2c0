/-- the root u/w taken out as often as it goes: what is left of degree and row -/
def mTk (u w : Int64) : Nat → (Nat → Int64) → Nat × (Nat → Int64)
  | 0, f => (0, f)
  | m + 1, f => if mAt (m + 1) f u w = 0 then mTk u w m (fun j => if j < m + 1 then mDq f u w j else f j) else (m + 1, f)
theorem mTk_y {u w : Int64} {m : Nat} {f : Nat → Int64} (h : mAt (m + 1) f u w = 0) : mTk u w (m + 1) f = mTk u w m (fun j => if j < m + 1 then mDq f u w j else f j) := by rw [mTk, if_pos h]
theorem mTk_n {u w : Int64} {m : Nat} {f : Nat → Int64} (h : ¬ mAt (m + 1) f u w = 0) : mTk u w (m + 1) f = (m + 1, f) := by rw [mTk, if_neg h]
theorem tk_I (I : ma_I) (x y z : Nat → Int32) : ma_up (ma_up (ma_up I 115 x) 141 y) 115 z = ma_up (ma_up I 141 y) 115 z := by rw [ma_up_comm I (show 141 ≠ 115 by decide) x y, ma_up_up]
set_option maxRecDepth 4000 in
theorem t_X8_takeRoot {g : ma_G} {Post : ma_P} {I : ma_I} {L : ma_L}  (u : Int64) (w : Int64) (m0 r : Nat) (hm0 : m0 < 5) (hr0 : r < 4) (hd : I 115 36 = nI m0) (hr : I 115 31 = nI r) (hw : ¬ w = 0) (k : ∀ (m : Nat) (f : Nat → Int64), m ≤ m0 → (m, f) = mTk u w m0 (L 142) → Post none HS (ma_up (ma_up I 141 (ma_up (I 141) r (nI (m0 - m)))) 115 (ma_up (ma_up (I 115) 36 (nI m)) 31 (nI (r + 1)))) (ma_up (ma_up (ma_up L 142 f) 139 (ma_up (L 139) r u)) 140 (ma_up (L 140) r w)) RF 146) : CT g yX8_takeRoot cX8_takeRoot 6 none rX8_takeRoot [.ref 115, .long u, .long w] Post HS I L RF 146 := by
  refine ct_of (lv := [some (.ref 115), some (.long u), none, some (.long w), none, none]) (by decide) (Nat.le_of_ble_eq_true rfl) rfl ?_
  refine ev_iconst (pc' := 1) (v := 0) dX8_takeRoot_0 rfl ki_0 ?_
  refine ev_istore (pc' := 3) (lv' := [some (.ref 115), some (.long u), none, some (.long w), none, some (.int 0)]) dX8_takeRoot_1 rfl (Nat.le_of_ble_eq_true rfl) rfl rfl ?_
  suffices lp : ∀ (m i : Nat) (J : ma_I) (K : ma_L), i + m = m0 → J = ma_up I 115 (ma_up (I 115) 36 (nI m)) → K = ma_up L 142 (K 142) → mTk u w m (K 142) = mTk u w m0 (L 142) → EV g yX8_takeRoot cX8_takeRoot 6 none rX8_takeRoot (ma_ZM g rX8_takeRoot Post) 3 [some (.ref 115), some (.long u), none, some (.long w), none, some (.int (nI i))] [] HS J K RF 146 0 0 from lp m0 0 I L (by omega) (by rw [← hd, ma_up_self, ma_up_self]) (by rw [ma_up_self]) rfl
  intro m
  induction m with
  | zero =>
    intro i J K hm eJ eK eT
    have hd1 : J 115 36 = nI (0) := by rw [eJ]; rfl
    have hr1 : J 115 31 = nI r := by rw [eJ]; exact hr
    refine ev_aload_n (pc' := 4) (i := 0) dX8_takeRoot_3 rfl rfl rfl ?_
    refine ev_getI (pc' := 7) (v := 0) fo_X8_267 dX8_takeRoot_4 rfl hs_115 rfl hd1 ?_
    refine ev_if_le (tgt := 33) (pc' := 10) dX8_takeRoot_7 rfl rfl (fun _ => ?_) (fun h => absurd (by decide) h)
    refine ev_aload_n (pc' := 34) (i := 0) dX8_takeRoot_33 rfl rfl rfl ?_
    refine ev_getR (pc' := 37) fo_X8_85 dX8_takeRoot_34 rfl hs_115 rfl rf_115_32 ?_
    refine ev_aload_n (pc' := 38) (i := 0) dX8_takeRoot_37 rfl rfl rfl ?_
    refine ev_getI (pc' := 41) (v := nI r) fo_X8_277 dX8_takeRoot_38 rfl hs_115 rfl hr1 ?_
    refine ev_lload_n (pc' := 42) (i := 1) dX8_takeRoot_41 rfl rfl rfl ?_
    refine ev_last (pc' := 43) (j := r) (L' := (ma_up K 139 (ma_up (K 139) r u))) dX8_takeRoot_42 rfl hs_139 rfl (by omega) (Nat.le_of_ble_eq_true rfl) rfl ?_
    refine ev_aload_n (pc' := 44) (i := 0) dX8_takeRoot_43 rfl rfl rfl ?_
    refine ev_getR (pc' := 47) fo_X8_88 dX8_takeRoot_44 rfl hs_115 rfl rf_115_33 ?_
    refine ev_aload_n (pc' := 48) (i := 0) dX8_takeRoot_47 rfl rfl rfl ?_
    refine ev_getI (pc' := 51) (v := nI r) fo_X8_277 dX8_takeRoot_48 rfl hs_115 rfl hr1 ?_
    refine ev_lload_n (pc' := 52) (i := 3) dX8_takeRoot_51 rfl rfl rfl ?_
    refine ev_last (pc' := 53) (j := r) (L' := (ma_up (ma_up K 139 (ma_up (K 139) r u)) 140 (ma_up (K 140) r w))) dX8_takeRoot_52 rfl hs_140 rfl (by omega) (Nat.le_of_ble_eq_true rfl) rfl ?_
    refine ev_aload_n (pc' := 54) (i := 0) dX8_takeRoot_53 rfl rfl rfl ?_
    refine ev_getR (pc' := 57) fo_X8_91 dX8_takeRoot_54 rfl hs_115 rfl rf_115_34 ?_
    refine ev_aload_n (pc' := 58) (i := 0) dX8_takeRoot_57 rfl rfl rfl ?_
    refine ev_getI (pc' := 61) (v := nI r) fo_X8_277 dX8_takeRoot_58 rfl hs_115 rfl hr1 ?_
    refine ev_iload (pc' := 63) dX8_takeRoot_61 rfl rfl ?_
    refine ev_iast (pc' := 64) (j := r) (I' := (ma_up J 141 (ma_up (J 141) r (nI i)))) dX8_takeRoot_63 rfl hs_141 rfl (by omega) (Nat.le_of_ble_eq_true rfl) rfl ?_
    refine ev_aload_n (pc' := 65) (i := 0) dX8_takeRoot_64 rfl rfl rfl ?_
    refine ev_dup (pc' := 66) dX8_takeRoot_65 rfl rfl ?_
    refine ev_getI (pc' := 69) (v := nI r) fo_X8_277 dX8_takeRoot_66 rfl hs_115 rfl hr1 ?_
    refine ev_iconst (pc' := 70) (v := 1) dX8_takeRoot_69 rfl ki_1 ?_
    refine ev_iadd (pc' := 71) (v := nI (r + 1)) dX8_takeRoot_70 rfl (nI_add r 1) ?_
    refine ev_putI (pc' := 74) (I' := (ma_up (ma_up J 141 (ma_up (J 141) r (nI i))) 115 (ma_up (J 115) 31 (nI (r + 1))))) fo_X8_277 dX8_takeRoot_71 rfl hs_115 rfl (fun r hr => by cases hr; rfl) ⟨rfl, rfl⟩ rfl ?_
    refine ev_vret dX8_takeRoot_74 rfl ⟨Nat.le_refl _, Nat.le_refl _⟩ ?_
    obtain ⟨f, hf⟩ : ∃ f, f = K 142 := ⟨_, rfl⟩
    rw [← hf] at eK eT
    subst eJ
    subst eK
    have q := k 0 f (by omega) (by rw [← eT]; exact rfl)
    rw [show m0 - 0 = i by omega, ← tk_I I (ma_up (I 115) 36 (nI 0))] at q
    exact q
  | succ m ih =>
    intro i J K hm eJ eK eT
    have hd1 : J 115 36 = nI (m + 1) := by rw [eJ]; rfl
    have hr1 : J 115 31 = nI r := by rw [eJ]; exact hr
    refine ev_aload_n (pc' := 4) (i := 0) dX8_takeRoot_3 rfl rfl rfl ?_
    refine ev_getI (pc' := 7) (v := nI (m + 1)) fo_X8_267 dX8_takeRoot_4 rfl hs_115 rfl hd1 ?_
    refine ev_if_le (tgt := 33) (pc' := 10) dX8_takeRoot_7 rfl rfl (fun h => absurd h (nx_nle (a := (m + 1)) (b := 0) (by omega) (by omega))) (fun _ => ?_)
    refine ev_aload_n (pc' := 11) (i := 0) dX8_takeRoot_10 rfl rfl rfl ?_
    refine ev_lload_n (pc' := 12) (i := 1) dX8_takeRoot_11 rfl rfl rfl ?_
    refine ev_lload_n (pc' := 13) (i := 3) dX8_takeRoot_12 rfl rfl rfl ?_
    refine ev_callV (pc' := 16) (rm' := rX8_at) (b := 115) (av := [.long u, .long w]) (rest := []) co_X8_270 ci_X8_at cv_X8_at dX8_takeRoot_13 rfl hs_115 hb_X8 rfl rfl (Nat.le_of_ble_eq_true rfl) ⟨(Nat.le_of_ble_eq_true rfl), (Nat.le_of_ble_eq_true rfl)⟩ ⟨(Nat.le_of_ble_eq_true rfl), (Nat.le_of_ble_eq_true rfl)⟩ ?_
    refine u_X8_at u w (m + 1) (by omega) hd1 ?_
    refine ev_lconst (pc' := 17) (v := 0) dX8_takeRoot_16 rfl kl_0 ?_
    refine ev_lc_ne (p1 := 18) (tgt := 33) (pc' := 21) dX8_takeRoot_17 rfl dX8_takeRoot_18 rfl rfl (fun c1 => ?_) (fun c1 => ?_)
    · refine ev_aload_n (pc' := 34) (i := 0) dX8_takeRoot_33 rfl rfl rfl ?_
      refine ev_getR (pc' := 37) fo_X8_85 dX8_takeRoot_34 rfl hs_115 rfl rf_115_32 ?_
      refine ev_aload_n (pc' := 38) (i := 0) dX8_takeRoot_37 rfl rfl rfl ?_
      refine ev_getI (pc' := 41) (v := nI r) fo_X8_277 dX8_takeRoot_38 rfl hs_115 rfl hr1 ?_
      refine ev_lload_n (pc' := 42) (i := 1) dX8_takeRoot_41 rfl rfl rfl ?_
      refine ev_last (pc' := 43) (j := r) (L' := (ma_up K 139 (ma_up (K 139) r u))) dX8_takeRoot_42 rfl hs_139 rfl (by omega) (Nat.le_of_ble_eq_true rfl) rfl ?_
      refine ev_aload_n (pc' := 44) (i := 0) dX8_takeRoot_43 rfl rfl rfl ?_
      refine ev_getR (pc' := 47) fo_X8_88 dX8_takeRoot_44 rfl hs_115 rfl rf_115_33 ?_
      refine ev_aload_n (pc' := 48) (i := 0) dX8_takeRoot_47 rfl rfl rfl ?_
      refine ev_getI (pc' := 51) (v := nI r) fo_X8_277 dX8_takeRoot_48 rfl hs_115 rfl hr1 ?_
      refine ev_lload_n (pc' := 52) (i := 3) dX8_takeRoot_51 rfl rfl rfl ?_
      refine ev_last (pc' := 53) (j := r) (L' := (ma_up (ma_up K 139 (ma_up (K 139) r u)) 140 (ma_up (K 140) r w))) dX8_takeRoot_52 rfl hs_140 rfl (by omega) (Nat.le_of_ble_eq_true rfl) rfl ?_
      refine ev_aload_n (pc' := 54) (i := 0) dX8_takeRoot_53 rfl rfl rfl ?_
      refine ev_getR (pc' := 57) fo_X8_91 dX8_takeRoot_54 rfl hs_115 rfl rf_115_34 ?_
      refine ev_aload_n (pc' := 58) (i := 0) dX8_takeRoot_57 rfl rfl rfl ?_
      refine ev_getI (pc' := 61) (v := nI r) fo_X8_277 dX8_takeRoot_58 rfl hs_115 rfl hr1 ?_
      refine ev_iload (pc' := 63) dX8_takeRoot_61 rfl rfl ?_
      refine ev_iast (pc' := 64) (j := r) (I' := (ma_up J 141 (ma_up (J 141) r (nI i)))) dX8_takeRoot_63 rfl hs_141 rfl (by omega) (Nat.le_of_ble_eq_true rfl) rfl ?_
      refine ev_aload_n (pc' := 65) (i := 0) dX8_takeRoot_64 rfl rfl rfl ?_
      refine ev_dup (pc' := 66) dX8_takeRoot_65 rfl rfl ?_
      refine ev_getI (pc' := 69) (v := nI r) fo_X8_277 dX8_takeRoot_66 rfl hs_115 rfl hr1 ?_
      refine ev_iconst (pc' := 70) (v := 1) dX8_takeRoot_69 rfl ki_1 ?_
      refine ev_iadd (pc' := 71) (v := nI (r + 1)) dX8_takeRoot_70 rfl (nI_add r 1) ?_
      refine ev_putI (pc' := 74) (I' := (ma_up (ma_up J 141 (ma_up (J 141) r (nI i))) 115 (ma_up (J 115) 31 (nI (r + 1))))) fo_X8_277 dX8_takeRoot_71 rfl hs_115 rfl (fun r hr => by cases hr; rfl) ⟨rfl, rfl⟩ rfl ?_
      refine ev_vret dX8_takeRoot_74 rfl ⟨Nat.le_refl _, Nat.le_refl _⟩ ?_
      obtain ⟨f, hf⟩ : ∃ f, f = K 142 := ⟨_, rfl⟩
      rw [← hf] at eK eT
      subst eJ
      subst eK
      have q := k (m + 1) f (by omega) (by rw [← eT]; exact (mTk_n (f := f) c1).symm)
      rw [show m0 - (m + 1) = i by omega, ← tk_I I (ma_up (I 115) 36 (nI (m + 1)))] at q
      exact q
    · refine ev_aload_n (pc' := 22) (i := 0) dX8_takeRoot_21 rfl rfl rfl ?_
      refine ev_lload_n (pc' := 23) (i := 1) dX8_takeRoot_22 rfl rfl rfl ?_
      refine ev_lload_n (pc' := 24) (i := 3) dX8_takeRoot_23 rfl rfl rfl ?_
      refine ev_callV (pc' := 27) (rm' := rX8_divide) (b := 115) (av := [.long u, .long w]) (rest := []) co_X8_273 ci_X8_divide cv_X8_divide dX8_takeRoot_24 rfl hs_115 hb_X8 rfl rfl (Nat.le_of_ble_eq_true rfl) ⟨(Nat.le_of_ble_eq_true rfl), (Nat.le_of_ble_eq_true rfl)⟩ ⟨(Nat.le_of_ble_eq_true rfl), (Nat.le_of_ble_eq_true rfl)⟩ ?_
      refine u_X8_divide u w (m + 1) (by omega) (by omega) hd1 hw ?_
      refine ev_iinc (pc' := 30) (v := nI (i + 1)) (lv' := [some (.ref 115), some (.long u), none, some (.long w), none, some (.int (nI (i + 1)))]) dX8_takeRoot_27 rfl rfl (nI_add i 1) (Nat.le_of_ble_eq_true rfl) rfl rfl ?_
      refine ev_goto (tgt := 3) dX8_takeRoot_30 rfl ?_
      refine ih (i + 1) _ _ (by omega) (by rw [eJ, ma_up_up, ma_up_s, ma_up_up]; rfl) (by rw [ma_up_s, eK, ma_up_up]) ?_
      rw [ma_up_s, ← eT]; exact (mTk_y c1).symm
