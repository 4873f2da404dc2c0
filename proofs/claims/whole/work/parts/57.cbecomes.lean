theorem cOw_16 (t : Nat → Int64) : ∀ j, j < 5 → cOw t j = cOw (fun j => if j < 16 then t j else 0) j
  | 0, _ => rfl
  | 1, _ => rfl
  | 2, _ => rfl
  | 3, _ => rfl
  | 4, _ => rfl
  | j + 5, h => absurd h (by omega)
theorem c16_f {t t' : Nat → Int64} (h : ∀ j, j < 16 → t j = t' j) : (fun j => if j < 16 then t j else 0) = (fun j => if j < 16 then t' j else 0) := by
  funext j
  by_cases q : j < 16
  · rw [if_pos q, if_pos q, h j q]
  · rw [if_neg q, if_neg q]
theorem cOw_c {t t' : Nat → Int64} (h : ∀ j, j < 16 → t j = t' j) : ∀ j, j < 5 → cOw t j = cOw t' j := fun j hj => by
  rw [cOw_16 t j hj, cOw_16 t' j hj, c16_f h]
theorem cAv_c {t t' : Nat → Int64} (h : ∀ j, j < 16 → t j = t' j) : cAv t = cAv t' := by
  unfold cAv; rw [cSc_congr 5 (cOw_c h)]
theorem cRk_c {t t' : Nat → Int64} (h : ∀ j, j < 16 → t j = t' j) : cRk t = cRk t' := by
  unfold cRk; rw [cOw_c h 4 (by omega), cOw_c h 3 (by omega), cOw_c h 2 (by omega), cOw_c h 1 (by omega)]
theorem cW_c {t t' : Nat → Int64} (h : ∀ j, j < 16 → t j = t' j) : cW t = cW t' := cOw_c h 4 (by omega)
theorem cM3_c {t t' : Nat → Int64} (h : ∀ j, j < 16 → t j = t' j) : cM3 t 0 1 2 = cM3 t' 0 1 2 := by
  have e : ∀ t : Nat → Int64, cM3 t 0 1 2 = cM3 (fun j => if j < 16 then t j else 0) 0 1 2 := fun _ => rfl
  rw [e t, e t', c16_f h]
theorem cLs_c {t t' : Nat → Int64} (h : ∀ j, j < 16 → t j = t' j) : ∀ j, j < 16 → cLs t j = cLs t' j := fun j hj => by
  unfold cLs; rw [h j hj]
def cBv (t : Nat → Int64) : Int32 := nI (cRk t) - cAv t
def cNb (x y z u : Int32) : Int32 := 1000 * x + 100 * y + 10 * z + u
def cF9 (t : Nat → Int64) : Nat → Int32
  | 1 => cAv t
  | 2 => cBv t
  | 3 => 4 - cAv t - cBv t
  | 4 => cAv (cLs t)
  | 5 => cBv (cLs t)
  | 6 => 3 - cAv (cLs t) - cBv (cLs t)
  | 7 => Int64.toInt32 (cW t)
  | 8 => Int64.toInt32 (cM3 t 0 1 2)
  | 9 => if cNb (cAv t) (cBv t) (cAv (cLs t)) (cBv (cLs t)) < cNb (cBv t) (cAv t) (cBv (cLs t)) (cAv (cLs t)) then cNb (cBv t) (cAv t) (cBv (cLs t)) (cAv (cLs t)) else cNb (cAv t) (cBv t) (cAv (cLs t)) (cBv (cLs t))
  | _ => 0
/-- the ten facts of a table -/
def cFc (t : Nat → Int64) : Nat → Int32
  | 0 => cKd (cF9 t)
  | j + 1 => cF9 t (j + 1)
theorem cKd_c {F F' : Nat → Int32} (h : ∀ j, j < 10 → 0 < j → F j = F' j) : cKd F = cKd F' := by unfold cKd; rw [h 1 (by omega) (by omega), h 2 (by omega) (by omega), h 3 (by omega) (by omega), h 4 (by omega) (by omega), h 5 (by omega) (by omega)]
set_option maxRecDepth 4000 in
theorem t_X1_becomes {g : ma_G} {Post : ma_P} {I : ma_I} {L : ma_L} (a n f : Nat) (ha : HS a = (1, 3)) (hn : RF a 1 = n) (hf : RF a 2 = f) (hff : HS f = (9, 10)) (b c : Nat) (hnn : HS n = (4, 6)) (hrn : RF n 0 = b) (hb : HS b = (10, 16)) (hqn : RF n 1 = c) (hc : HS c = (10, 5))  (hd : a ≠ n ∧ a ≠ f ∧ n ≠ f ∧ n ≠ 9 ∧ a ≠ 9 ∧ f ≠ 9) (hl : b ≠ c ∧ b ≠ 7 ∧ b ≠ 10 ∧ b ≠ 11 ∧ c ≠ 10 ∧ c ≠ 7 ∧ c ≠ 11) (k0 : ∀ (J : ma_I) (K : ma_L), (∀ j, j < 10 → J f j = cFc (L 7) j) → J a 0 = 1 → (∀ x, x ≠ a → x ≠ n → x ≠ 9 → x ≠ f → J x = I x) → (∀ k, k ≠ 0 → J a k = I a k) → (∀ j, j < 16 → K b j = L 7 j) → (∀ x, x ≠ b → x ≠ c → x ≠ 10 → x ≠ 11 → K x = L x) → (∀ k, k ≠ 2 → k ≠ 3 → J n k = I n k) → (∀ k, k ≠ 2 → k ≠ 3 → J 9 k = I 9 k) → Post (some (.int (cFc (L 7) 0))) HS J K RF 146) : CT g yX1_becomes cX1_becomes 3 (some .int) rX1_becomes [.ref a, .ref 6, .ref 9] Post HS I L RF 146 := by
  refine ct_of (lv := [some (.ref a), some (.ref 6), some (.ref 9)]) (by decide) (Nat.le_of_ble_eq_true rfl) rfl ?_
  refine ev_aload_n (pc' := 1) (i := 0) dX1_becomes_0 rfl rfl rfl ?_
  refine ev_getR (pc' := 4) fo_X1_12 dX1_becomes_1 rfl ha rfl hn ?_
  refine ev_aload_n (pc' := 5) (i := 1) dX1_becomes_4 rfl rfl rfl ?_
  refine ev_callV (pc' := 8) (rm' := rX4_become) (b := n) (av := [.ref 6]) (rest := []) co_X1_32 ci_X4_become cv_X4_become dX1_becomes_5 rfl hnn hb_X4 rfl rfl (Nat.le_of_ble_eq_true rfl) ⟨(Nat.le_of_ble_eq_true rfl), (Nat.le_of_ble_eq_true rfl)⟩ ⟨(Nat.le_of_ble_eq_true rfl), (Nat.le_of_ble_eq_true rfl)⟩ ?_
  refine t_X4_become n b hnn hrn hb 6 7 hs_6 rf_6_0 hs_7 (Ne.symm hl.2.1) ?_
  refine ev_memL (fun L1 hL1 => ?_)
  have t1 : ∀ j, j < 16 → L1 b j = L 7 j := fun j hj => by rw [hL1]; unfold cBe; rw [mfill_at, if_pos (by omega)]; rfl
  have x1 : ∀ x, x ≠ b → L1 x = L x := fun x h => by rw [hL1]; exact mfill_n _ _ _ _ h
  refine ev_aload_n (pc' := 9) (i := 0) dX1_becomes_8 rfl rfl rfl ?_
  refine ev_getR (pc' := 12) fo_X1_12 dX1_becomes_9 rfl ha rfl hn ?_
  refine ev_callV (pc' := 15) (rm' := rX4_readSigns) (b := n) (av := []) (rest := []) co_X1_36 ci_X4_readSigns cv_X4_readSigns dX1_becomes_12 rfl hnn hb_X4 rfl rfl (Nat.le_of_ble_eq_true rfl) ⟨(Nat.le_of_ble_eq_true rfl), (Nat.le_of_ble_eq_true rfl)⟩ ⟨(Nat.le_of_ble_eq_true rfl), (Nat.le_of_ble_eq_true rfl)⟩ ?_
  refine t_X4_readSigns n b c hnn hrn hb hqn hc hl.1 (fun K2 p1 p2 => ?_)
  refine ev_memI (fun J1 hJ1 => ?_)
  have q1 : J1 n 2 = cAv (L1 b) := by rw [hJ1]; unfold cSg; rw [ma_up_s]; rfl
  have q2 : J1 n 3 = cBv (L1 b) := by rw [hJ1]; unfold cSg; rw [ma_up_s]; rfl
  have q3 : ∀ x, x ≠ n → J1 x = I x := fun x h => by rw [hJ1]; unfold cSg; rw [ma_up_n _ _ h]
  have q3b : ∀ k, k ≠ 2 → k ≠ 3 → J1 n k = I n k := fun k h1 h2 => by rw [hJ1]; unfold cSg; rw [ma_up_s, ma_up_n _ _ h2, ma_up_n _ _ h1]
  refine ev_aload_n (pc' := 16) (i := 2) dX1_becomes_15 rfl rfl rfl ?_
  refine ev_aload_n (pc' := 17) (i := 0) dX1_becomes_16 rfl rfl rfl ?_
  refine ev_getR (pc' := 20) fo_X1_12 dX1_becomes_17 rfl ha rfl hn ?_
  refine ev_callV (pc' := 23) (rm' := rX4_readLesser) (b := 9) (av := [.ref n]) (rest := []) co_X1_39 ci_X4_readLesser cv_X4_readLesser dX1_becomes_20 rfl hs_9 hb_X4 rfl rfl (Nat.le_of_ble_eq_true rfl) ⟨(Nat.le_of_ble_eq_true rfl), (Nat.le_of_ble_eq_true rfl)⟩ ⟨(Nat.le_of_ble_eq_true rfl), (Nat.le_of_ble_eq_true rfl)⟩ ?_
  refine t_X4_readLesser n b hnn hrn hb hl.2.2.1 (fun R r1 => ?_)
  refine ev_memL (fun L3 hL3 => ?_)
  have l1 : L3 10 = R := by rw [hL3, ma_up_s]
  have l2 : ∀ x, x ≠ 10 → L3 x = K2 x := fun x h => by rw [hL3, ma_up_n _ _ h]
  refine ev_aload_n (pc' := 24) (i := 2) dX1_becomes_23 rfl rfl rfl ?_
  refine ev_callV (pc' := 27) (rm' := rX4_readSigns) (b := 9) (av := []) (rest := []) co_X1_36 ci_X4_readSigns cv_X4_readSigns dX1_becomes_24 rfl hs_9 hb_X4 rfl rfl (Nat.le_of_ble_eq_true rfl) ⟨(Nat.le_of_ble_eq_true rfl), (Nat.le_of_ble_eq_true rfl)⟩ ⟨(Nat.le_of_ble_eq_true rfl), (Nat.le_of_ble_eq_true rfl)⟩ ?_
  refine t_X4_readSigns 9 10 11 hs_9 rf_9_0 hs_10 rf_9_1 hs_11 (by decide) (fun K4 s1 s2 => ?_)
  refine ev_memI (fun J2 hJ2 => ?_)
  have q4 : J2 9 2 = cAv R := by rw [hJ2]; unfold cSg; rw [ma_up_s]; exact congrArg cAv l1
  have q5 : J2 9 3 = cBv R := by rw [hJ2]; unfold cSg; rw [ma_up_s]; exact congrArg cBv l1
  have q6 : ∀ x, x ≠ 9 → J2 x = J1 x := fun x h => by rw [hJ2]; unfold cSg; rw [ma_up_n _ _ h]
  have q6b : ∀ k, k ≠ 2 → k ≠ 3 → J2 9 k = J1 9 k := fun k h1 h2 => by rw [hJ2]; unfold cSg; rw [ma_up_s, ma_up_n _ _ h2, ma_up_n _ _ h1]
  refine ev_aload_n (pc' := 28) (i := 0) dX1_becomes_27 rfl rfl rfl ?_
  refine ev_iconst (pc' := 29) (v := 1) dX1_becomes_28 rfl ki_1 ?_
  refine ev_putI (pc' := 32) (I' := (ma_up J2 a (ma_up (J2 a) 0 1))) fo_X1_42 dX1_becomes_29 rfl ha rfl (fun r hr => by cases hr; rfl) ⟨rfl, rfl⟩ rfl ?_
  refine ev_memI (fun J3 hJ3 => ?_)
  have q7 : J3 a 0 = 1 := by rw [hJ3, ma_up_s]; rfl
  have q7b : ∀ k, k ≠ 0 → J3 a k = J2 a k := fun k h => by rw [hJ3, ma_up_s, ma_up_n _ _ h]
  have q8 : ∀ x, x ≠ a → J3 x = J2 x := fun x h => by rw [hJ3, ma_up_n _ _ h]
  have T1 : ∀ j, j < 16 → L1 b j = L 7 j := t1
  have kb : K2 b = L1 b := p1 b hl.1
  have T2 : ∀ j, j < 16 → R j = cLs (L 7) j := fun j hj => (r1 j hj).trans (cLs_c (fun i hi => by rw [kb]; exact t1 i hi) j hj)
  have kb4 : K4 b = L1 b := (s1 b hl.2.2.2.1).trans ((l2 b hl.2.2.1).trans kb)
  have T4 : ∀ j, j < 16 → K4 b j = L 7 j := fun j hj => by rw [kb4]; exact t1 j hj
  have e1 : J3 n 2 = cAv (L 7) := by rw [q8 n (Ne.symm hd.1), q6 n hd.2.2.2.1, q1, cAv_c T1]
  have e2 : J3 n 3 = cBv (L 7) := by rw [q8 n (Ne.symm hd.1), q6 n hd.2.2.2.1, q2]; unfold cBv; rw [cAv_c T1, cRk_c T1]
  have e3 : J3 9 2 = cAv (cLs (L 7)) := by rw [q8 9 (Ne.symm hd.2.2.2.2.1), q4, cAv_c T2]
  have e4 : J3 9 3 = cBv (cLs (L 7)) := by rw [q8 9 (Ne.symm hd.2.2.2.2.1), q5]; unfold cBv; rw [cAv_c T2, cRk_c T2]
  have e5 : cW (K4 b) = cW (L 7) := cW_c T4
  have e6 : cM3 (K4 b) 0 1 2 = cM3 (L 7) 0 1 2 := cM3_c T4
  refine ev_aload_n (pc' := 33) (i := 0) dX1_becomes_32 rfl rfl rfl ?_
  refine ev_getR (pc' := 36) fo_X1_18 dX1_becomes_33 rfl ha rfl hf ?_
  refine ev_iconst (pc' := 37) (v := 1) dX1_becomes_36 rfl ki_1 ?_
  refine ev_aload_n (pc' := 38) (i := 0) dX1_becomes_37 rfl rfl rfl ?_
  refine ev_getR (pc' := 41) fo_X1_12 dX1_becomes_38 rfl ha rfl hn ?_
  refine ev_getI (pc' := 44) (v := cAv (L 7)) fo_X1_46 dX1_becomes_41 rfl hnn rfl e1 ?_
  refine ev_iast (pc' := 45) (j := 1) (I' := (ma_up J3 f (ma_up (J3 f) 1 (cAv (L 7))))) dX1_becomes_44 rfl hff rfl (Nat.le_of_ble_eq_true rfl) (Nat.le_of_ble_eq_true rfl) rfl ?_
  refine ev_aload_n (pc' := 46) (i := 0) dX1_becomes_45 rfl rfl rfl ?_
  refine ev_getR (pc' := 49) fo_X1_18 dX1_becomes_46 rfl ha rfl hf ?_
  refine ev_iconst (pc' := 50) (v := 2) dX1_becomes_49 rfl ki_2 ?_
  refine ev_aload_n (pc' := 51) (i := 0) dX1_becomes_50 rfl rfl rfl ?_
  refine ev_getR (pc' := 54) fo_X1_12 dX1_becomes_51 rfl ha rfl hn ?_
  refine ev_getI (pc' := 57) (v := cBv (L 7)) fo_X1_49 dX1_becomes_54 rfl hnn rfl (by rw [ma_up_n _ _ hd.2.2.1]; exact e2) ?_
  refine ev_iast (pc' := 58) (j := 2) (I' := (ma_up J3 f (ma_up (ma_up (J3 f) 1 (cAv (L 7))) 2 (cBv (L 7))))) dX1_becomes_57 rfl hff rfl (Nat.le_of_ble_eq_true rfl) (Nat.le_of_ble_eq_true rfl) (by rw [ma_up_s, ma_up_up]) ?_
  refine ev_aload_n (pc' := 59) (i := 0) dX1_becomes_58 rfl rfl rfl ?_
  refine ev_getR (pc' := 62) fo_X1_18 dX1_becomes_59 rfl ha rfl hf ?_
  refine ev_iconst (pc' := 63) (v := 3) dX1_becomes_62 rfl ki_3 ?_
  refine ev_iconst (pc' := 64) (v := 4) dX1_becomes_63 rfl ki_4 ?_
  refine ev_aload_n (pc' := 65) (i := 0) dX1_becomes_64 rfl rfl rfl ?_
  refine ev_getR (pc' := 68) fo_X1_12 dX1_becomes_65 rfl ha rfl hn ?_
  refine ev_getI (pc' := 71) (v := cAv (L 7)) fo_X1_46 dX1_becomes_68 rfl hnn rfl (by rw [ma_up_n _ _ hd.2.2.1]; exact e1) ?_
  refine ev_isub (pc' := 72) (v := 4 - (cAv (L 7))) dX1_becomes_71 rfl rfl ?_
  refine ev_aload_n (pc' := 73) (i := 0) dX1_becomes_72 rfl rfl rfl ?_
  refine ev_getR (pc' := 76) fo_X1_12 dX1_becomes_73 rfl ha rfl hn ?_
  refine ev_getI (pc' := 79) (v := cBv (L 7)) fo_X1_49 dX1_becomes_76 rfl hnn rfl (by rw [ma_up_n _ _ hd.2.2.1]; exact e2) ?_
  refine ev_isub (pc' := 80) (v := (4 - (cAv (L 7))) - (cBv (L 7))) dX1_becomes_79 rfl rfl ?_
  refine ev_iast (pc' := 81) (j := 3) (I' := (ma_up J3 f (ma_up (ma_up (ma_up (J3 f) 1 (cAv (L 7))) 2 (cBv (L 7))) 3 ((4 - (cAv (L 7))) - (cBv (L 7)))))) dX1_becomes_80 rfl hff rfl (Nat.le_of_ble_eq_true rfl) (Nat.le_of_ble_eq_true rfl) (by rw [ma_up_s, ma_up_up]) ?_
  refine ev_aload_n (pc' := 82) (i := 0) dX1_becomes_81 rfl rfl rfl ?_
  refine ev_getR (pc' := 85) fo_X1_18 dX1_becomes_82 rfl ha rfl hf ?_
  refine ev_iconst (pc' := 86) (v := 4) dX1_becomes_85 rfl ki_4 ?_
  refine ev_aload_n (pc' := 87) (i := 2) dX1_becomes_86 rfl rfl rfl ?_
  refine ev_getI (pc' := 90) (v := cAv (cLs (L 7))) fo_X1_46 dX1_becomes_87 rfl hs_9 rfl (by rw [ma_up_n _ _ (Ne.symm hd.2.2.2.2.2)]; exact e3) ?_
  refine ev_iast (pc' := 91) (j := 4) (I' := (ma_up J3 f (ma_up (ma_up (ma_up (ma_up (J3 f) 1 (cAv (L 7))) 2 (cBv (L 7))) 3 ((4 - (cAv (L 7))) - (cBv (L 7)))) 4 (cAv (cLs (L 7)))))) dX1_becomes_90 rfl hff rfl (Nat.le_of_ble_eq_true rfl) (Nat.le_of_ble_eq_true rfl) (by rw [ma_up_s, ma_up_up]) ?_
  refine ev_aload_n (pc' := 92) (i := 0) dX1_becomes_91 rfl rfl rfl ?_
  refine ev_getR (pc' := 95) fo_X1_18 dX1_becomes_92 rfl ha rfl hf ?_
  refine ev_iconst (pc' := 96) (v := 5) dX1_becomes_95 rfl ki_5 ?_
  refine ev_aload_n (pc' := 97) (i := 2) dX1_becomes_96 rfl rfl rfl ?_
  refine ev_getI (pc' := 100) (v := cBv (cLs (L 7))) fo_X1_49 dX1_becomes_97 rfl hs_9 rfl (by rw [ma_up_n _ _ (Ne.symm hd.2.2.2.2.2)]; exact e4) ?_
  refine ev_iast (pc' := 101) (j := 5) (I' := (ma_up J3 f (ma_up (ma_up (ma_up (ma_up (ma_up (J3 f) 1 (cAv (L 7))) 2 (cBv (L 7))) 3 ((4 - (cAv (L 7))) - (cBv (L 7)))) 4 (cAv (cLs (L 7)))) 5 (cBv (cLs (L 7)))))) dX1_becomes_100 rfl hff rfl (Nat.le_of_ble_eq_true rfl) (Nat.le_of_ble_eq_true rfl) (by rw [ma_up_s, ma_up_up]) ?_
  refine ev_aload_n (pc' := 102) (i := 0) dX1_becomes_101 rfl rfl rfl ?_
  refine ev_getR (pc' := 105) fo_X1_18 dX1_becomes_102 rfl ha rfl hf ?_
  refine ev_bipush (pc' := 107) (v := 6) dX1_becomes_105 rfl kb_6 ?_
  refine ev_iconst (pc' := 108) (v := 3) dX1_becomes_107 rfl ki_3 ?_
  refine ev_aload_n (pc' := 109) (i := 2) dX1_becomes_108 rfl rfl rfl ?_
  refine ev_getI (pc' := 112) (v := cAv (cLs (L 7))) fo_X1_46 dX1_becomes_109 rfl hs_9 rfl (by rw [ma_up_n _ _ (Ne.symm hd.2.2.2.2.2)]; exact e3) ?_
  refine ev_isub (pc' := 113) (v := 3 - (cAv (cLs (L 7)))) dX1_becomes_112 rfl rfl ?_
  refine ev_aload_n (pc' := 114) (i := 2) dX1_becomes_113 rfl rfl rfl ?_
  refine ev_getI (pc' := 117) (v := cBv (cLs (L 7))) fo_X1_49 dX1_becomes_114 rfl hs_9 rfl (by rw [ma_up_n _ _ (Ne.symm hd.2.2.2.2.2)]; exact e4) ?_
  refine ev_isub (pc' := 118) (v := (3 - (cAv (cLs (L 7)))) - (cBv (cLs (L 7)))) dX1_becomes_117 rfl rfl ?_
  refine ev_iast (pc' := 119) (j := 6) (I' := (ma_up J3 f (ma_up (ma_up (ma_up (ma_up (ma_up (ma_up (J3 f) 1 (cAv (L 7))) 2 (cBv (L 7))) 3 ((4 - (cAv (L 7))) - (cBv (L 7)))) 4 (cAv (cLs (L 7)))) 5 (cBv (cLs (L 7)))) 6 ((3 - (cAv (cLs (L 7)))) - (cBv (cLs (L 7))))))) dX1_becomes_118 rfl hff rfl (Nat.le_of_ble_eq_true rfl) (Nat.le_of_ble_eq_true rfl) (by rw [ma_up_s, ma_up_up]) ?_
  refine ev_aload_n (pc' := 120) (i := 0) dX1_becomes_119 rfl rfl rfl ?_
  refine ev_getR (pc' := 123) fo_X1_18 dX1_becomes_120 rfl ha rfl hf ?_
  refine ev_bipush (pc' := 125) (v := 7) dX1_becomes_123 rfl kb_7 ?_
  refine ev_aload_n (pc' := 126) (i := 0) dX1_becomes_125 rfl rfl rfl ?_
  refine ev_getR (pc' := 129) fo_X1_12 dX1_becomes_126 rfl ha rfl hn ?_
  refine ev_callV (pc' := 132) (rm' := rX4_worth) (b := n) (av := []) (rest := [.int 7, .ref f]) co_X1_51 ci_X4_worth cv_X4_worth dX1_becomes_129 rfl hnn hb_X4 rfl rfl (Nat.le_of_ble_eq_true rfl) ⟨(Nat.le_of_ble_eq_true rfl), (Nat.le_of_ble_eq_true rfl)⟩ ⟨(Nat.le_of_ble_eq_true rfl), (Nat.le_of_ble_eq_true rfl)⟩ ?_
  refine t_X4_worth n b hnn hrn hb  ?_
  refine ev_eql (w := cW (L 7)) e5 ?_
  refine ev_l2i (pc' := 133) (v := Int64.toInt32 (cW (L 7))) dX1_becomes_132 rfl rfl ?_
  refine ev_iast (pc' := 134) (j := 7) (I' := (ma_up J3 f (ma_up (ma_up (ma_up (ma_up (ma_up (ma_up (ma_up (J3 f) 1 (cAv (L 7))) 2 (cBv (L 7))) 3 ((4 - (cAv (L 7))) - (cBv (L 7)))) 4 (cAv (cLs (L 7)))) 5 (cBv (cLs (L 7)))) 6 ((3 - (cAv (cLs (L 7)))) - (cBv (cLs (L 7))))) 7 (Int64.toInt32 (cW (L 7)))))) dX1_becomes_133 rfl hff rfl (Nat.le_of_ble_eq_true rfl) (Nat.le_of_ble_eq_true rfl) (by rw [ma_up_s, ma_up_up]) ?_
  refine ev_aload_n (pc' := 135) (i := 0) dX1_becomes_134 rfl rfl rfl ?_
  refine ev_getR (pc' := 138) fo_X1_18 dX1_becomes_135 rfl ha rfl hf ?_
  refine ev_bipush (pc' := 140) (v := 8) dX1_becomes_138 rfl kb_8 ?_
  refine ev_aload_n (pc' := 141) (i := 0) dX1_becomes_140 rfl rfl rfl ?_
  refine ev_getR (pc' := 144) fo_X1_12 dX1_becomes_141 rfl ha rfl hn ?_
  refine ev_iconst (pc' := 145) (v := 0) dX1_becomes_144 rfl ki_0 ?_
  refine ev_iconst (pc' := 146) (v := 1) dX1_becomes_145 rfl ki_1 ?_
  refine ev_iconst (pc' := 147) (v := 2) dX1_becomes_146 rfl ki_2 ?_
  refine ev_callV (pc' := 150) (rm' := rX4_minor3) (b := n) (av := [.int 0, .int 1, .int 2]) (rest := [.int 8, .ref f]) co_X1_55 ci_X4_minor3 cv_X4_minor3 dX1_becomes_147 rfl hnn hb_X4 rfl rfl (Nat.le_of_ble_eq_true rfl) ⟨(Nat.le_of_ble_eq_true rfl), (Nat.le_of_ble_eq_true rfl)⟩ ⟨(Nat.le_of_ble_eq_true rfl), (Nat.le_of_ble_eq_true rfl)⟩ ?_
  refine t_X4_minor3 n b hnn hrn hb 0 1 2 (by omega) (by omega) (by omega) ?_
  refine ev_eql (w := cM3 (L 7) 0 1 2) e6 ?_
  refine ev_l2i (pc' := 151) (v := Int64.toInt32 (cM3 (L 7) 0 1 2)) dX1_becomes_150 rfl rfl ?_
  refine ev_iast (pc' := 152) (j := 8) (I' := (ma_up J3 f (ma_up (ma_up (ma_up (ma_up (ma_up (ma_up (ma_up (ma_up (J3 f) 1 (cAv (L 7))) 2 (cBv (L 7))) 3 ((4 - (cAv (L 7))) - (cBv (L 7)))) 4 (cAv (cLs (L 7)))) 5 (cBv (cLs (L 7)))) 6 ((3 - (cAv (cLs (L 7)))) - (cBv (cLs (L 7))))) 7 (Int64.toInt32 (cW (L 7)))) 8 (Int64.toInt32 (cM3 (L 7) 0 1 2))))) dX1_becomes_151 rfl hff rfl (Nat.le_of_ble_eq_true rfl) (Nat.le_of_ble_eq_true rfl) (by rw [ma_up_s, ma_up_up]) ?_
  refine ev_aload_n (pc' := 153) (i := 0) dX1_becomes_152 rfl rfl rfl ?_
  refine ev_getR (pc' := 156) fo_X1_18 dX1_becomes_153 rfl ha rfl hf ?_
  refine ev_bipush (pc' := 158) (v := 9) dX1_becomes_156 rfl kb_9 ?_
  refine ev_aload_n (pc' := 159) (i := 0) dX1_becomes_158 rfl rfl rfl ?_
  refine ev_getR (pc' := 162) fo_X1_12 dX1_becomes_159 rfl ha rfl hn ?_
  refine ev_getI (pc' := 165) (v := cAv (L 7)) fo_X1_46 dX1_becomes_162 rfl hnn rfl (by rw [ma_up_n _ _ hd.2.2.1]; exact e1) ?_
  refine ev_aload_n (pc' := 166) (i := 0) dX1_becomes_165 rfl rfl rfl ?_
  refine ev_getR (pc' := 169) fo_X1_12 dX1_becomes_166 rfl ha rfl hn ?_
  refine ev_getI (pc' := 172) (v := cBv (L 7)) fo_X1_49 dX1_becomes_169 rfl hnn rfl (by rw [ma_up_n _ _ hd.2.2.1]; exact e2) ?_
  refine ev_aload_n (pc' := 173) (i := 2) dX1_becomes_172 rfl rfl rfl ?_
  refine ev_getI (pc' := 176) (v := cAv (cLs (L 7))) fo_X1_46 dX1_becomes_173 rfl hs_9 rfl (by rw [ma_up_n _ _ (Ne.symm hd.2.2.2.2.2)]; exact e3) ?_
  refine ev_aload_n (pc' := 177) (i := 2) dX1_becomes_176 rfl rfl rfl ?_
  refine ev_getI (pc' := 180) (v := cBv (cLs (L 7))) fo_X1_49 dX1_becomes_177 rfl hs_9 rfl (by rw [ma_up_n _ _ (Ne.symm hd.2.2.2.2.2)]; exact e4) ?_
  refine ev_callS (pc' := 183) (rm' := rX1_nameBy) (av := [.int (cAv (L 7)), .int (cBv (L 7)), .int (cAv (cLs (L 7))), .int (cBv (cLs (L 7)))]) (rest := [.int 9, .ref f]) co_X1_59 cs_X1_nameBy dX1_becomes_180 rfl rfl rfl (Nat.le_of_ble_eq_true rfl) ⟨(Nat.le_of_ble_eq_true rfl), (Nat.le_of_ble_eq_true rfl)⟩ ⟨(Nat.le_of_ble_eq_true rfl), (Nat.le_of_ble_eq_true rfl)⟩ ?_
  refine t_X1_nameBy (cAv (L 7)) (cBv (L 7)) (cAv (cLs (L 7))) (cBv (cLs (L 7)))  ?_
  refine ev_aload_n (pc' := 184) (i := 0) dX1_becomes_183 rfl rfl rfl ?_
  refine ev_getR (pc' := 187) fo_X1_12 dX1_becomes_184 rfl ha rfl hn ?_
  refine ev_getI (pc' := 190) (v := cBv (L 7)) fo_X1_49 dX1_becomes_187 rfl hnn rfl (by rw [ma_up_n _ _ hd.2.2.1]; exact e2) ?_
  refine ev_aload_n (pc' := 191) (i := 0) dX1_becomes_190 rfl rfl rfl ?_
  refine ev_getR (pc' := 194) fo_X1_12 dX1_becomes_191 rfl ha rfl hn ?_
  refine ev_getI (pc' := 197) (v := cAv (L 7)) fo_X1_46 dX1_becomes_194 rfl hnn rfl (by rw [ma_up_n _ _ hd.2.2.1]; exact e1) ?_
  refine ev_aload_n (pc' := 198) (i := 2) dX1_becomes_197 rfl rfl rfl ?_
  refine ev_getI (pc' := 201) (v := cBv (cLs (L 7))) fo_X1_49 dX1_becomes_198 rfl hs_9 rfl (by rw [ma_up_n _ _ (Ne.symm hd.2.2.2.2.2)]; exact e4) ?_
  refine ev_aload_n (pc' := 202) (i := 2) dX1_becomes_201 rfl rfl rfl ?_
  refine ev_getI (pc' := 205) (v := cAv (cLs (L 7))) fo_X1_46 dX1_becomes_202 rfl hs_9 rfl (by rw [ma_up_n _ _ (Ne.symm hd.2.2.2.2.2)]; exact e3) ?_
  refine ev_callS (pc' := 208) (rm' := rX1_nameBy) (av := [.int (cBv (L 7)), .int (cAv (L 7)), .int (cBv (cLs (L 7))), .int (cAv (cLs (L 7)))]) (rest := [.int ((((1000 * (cAv (L 7))) + (100 * (cBv (L 7)))) + (10 * (cAv (cLs (L 7))))) + (cBv (cLs (L 7)))), .int 9, .ref f]) co_X1_59 cs_X1_nameBy dX1_becomes_205 rfl rfl rfl (Nat.le_of_ble_eq_true rfl) ⟨(Nat.le_of_ble_eq_true rfl), (Nat.le_of_ble_eq_true rfl)⟩ ⟨(Nat.le_of_ble_eq_true rfl), (Nat.le_of_ble_eq_true rfl)⟩ ?_
  refine t_X1_nameBy (cBv (L 7)) (cAv (L 7)) (cBv (cLs (L 7))) (cAv (cLs (L 7)))  ?_
  refine ev_mmax (pc' := 211) co_X1_63 cs_J9_max_7cf53 (tb_m (i := 423) rfl) dX1_becomes_208 rfl (Nat.le_of_ble_eq_true rfl) (Nat.le_of_ble_eq_true rfl) ⟨(Nat.le_of_ble_eq_true rfl), (Nat.le_of_ble_eq_true rfl)⟩ ?_
  refine ev_iast (pc' := 212) (j := 9) (I' := (ma_up J3 f (ma_up (ma_up (ma_up (ma_up (ma_up (ma_up (ma_up (ma_up (ma_up (J3 f) 1 (cAv (L 7))) 2 (cBv (L 7))) 3 ((4 - (cAv (L 7))) - (cBv (L 7)))) 4 (cAv (cLs (L 7)))) 5 (cBv (cLs (L 7)))) 6 ((3 - (cAv (cLs (L 7)))) - (cBv (cLs (L 7))))) 7 (Int64.toInt32 (cW (L 7)))) 8 (Int64.toInt32 (cM3 (L 7) 0 1 2))) 9 (if ((((1000 * (cAv (L 7))) + (100 * (cBv (L 7)))) + (10 * (cAv (cLs (L 7))))) + (cBv (cLs (L 7)))) < ((((1000 * (cBv (L 7))) + (100 * (cAv (L 7)))) + (10 * (cBv (cLs (L 7))))) + (cAv (cLs (L 7)))) then ((((1000 * (cBv (L 7))) + (100 * (cAv (L 7)))) + (10 * (cBv (cLs (L 7))))) + (cAv (cLs (L 7)))) else ((((1000 * (cAv (L 7))) + (100 * (cBv (L 7)))) + (10 * (cAv (cLs (L 7))))) + (cBv (cLs (L 7)))))))) dX1_becomes_211 rfl hff rfl (Nat.le_of_ble_eq_true rfl) (Nat.le_of_ble_eq_true rfl) (by rw [ma_up_s, ma_up_up]) ?_
  refine ev_aload_n (pc' := 213) (i := 0) dX1_becomes_212 rfl rfl rfl ?_
  refine ev_getR (pc' := 216) fo_X1_18 dX1_becomes_213 rfl ha rfl hf ?_
  refine ev_iconst (pc' := 217) (v := 0) dX1_becomes_216 rfl ki_0 ?_
  refine ev_aload_n (pc' := 218) (i := 0) dX1_becomes_217 rfl rfl rfl ?_
  refine ev_callV (pc' := 221) (rm' := rX1_kindBySigns) (b := a) (av := []) (rest := [.int 0, .ref f]) co_X1_69 ci_X1_kindBySigns cv_X1_kindBySigns dX1_becomes_218 rfl ha hb_X1 rfl rfl (Nat.le_of_ble_eq_true rfl) ⟨(Nat.le_of_ble_eq_true rfl), (Nat.le_of_ble_eq_true rfl)⟩ ⟨(Nat.le_of_ble_eq_true rfl), (Nat.le_of_ble_eq_true rfl)⟩ ?_
  refine t_X1_kindBySigns a n f ha hn hf hff ?_
  refine ev_iast (pc' := 222) (j := 0) (I' := (ma_up J3 f (ma_up (ma_up (ma_up (ma_up (ma_up (ma_up (ma_up (ma_up (ma_up (ma_up (J3 f) 1 (cAv (L 7))) 2 (cBv (L 7))) 3 ((4 - (cAv (L 7))) - (cBv (L 7)))) 4 (cAv (cLs (L 7)))) 5 (cBv (cLs (L 7)))) 6 ((3 - (cAv (cLs (L 7)))) - (cBv (cLs (L 7))))) 7 (Int64.toInt32 (cW (L 7)))) 8 (Int64.toInt32 (cM3 (L 7) 0 1 2))) 9 (if ((((1000 * (cAv (L 7))) + (100 * (cBv (L 7)))) + (10 * (cAv (cLs (L 7))))) + (cBv (cLs (L 7)))) < ((((1000 * (cBv (L 7))) + (100 * (cAv (L 7)))) + (10 * (cBv (cLs (L 7))))) + (cAv (cLs (L 7)))) then ((((1000 * (cBv (L 7))) + (100 * (cAv (L 7)))) + (10 * (cBv (cLs (L 7))))) + (cAv (cLs (L 7)))) else ((((1000 * (cAv (L 7))) + (100 * (cBv (L 7)))) + (10 * (cAv (cLs (L 7))))) + (cBv (cLs (L 7)))))) 0 (cKd ((ma_up J3 f (ma_up (ma_up (ma_up (ma_up (ma_up (ma_up (ma_up (ma_up (ma_up (J3 f) 1 (cAv (L 7))) 2 (cBv (L 7))) 3 ((4 - (cAv (L 7))) - (cBv (L 7)))) 4 (cAv (cLs (L 7)))) 5 (cBv (cLs (L 7)))) 6 ((3 - (cAv (cLs (L 7)))) - (cBv (cLs (L 7))))) 7 (Int64.toInt32 (cW (L 7)))) 8 (Int64.toInt32 (cM3 (L 7) 0 1 2))) 9 (if ((((1000 * (cAv (L 7))) + (100 * (cBv (L 7)))) + (10 * (cAv (cLs (L 7))))) + (cBv (cLs (L 7)))) < ((((1000 * (cBv (L 7))) + (100 * (cAv (L 7)))) + (10 * (cBv (cLs (L 7))))) + (cAv (cLs (L 7)))) then ((((1000 * (cBv (L 7))) + (100 * (cAv (L 7)))) + (10 * (cBv (cLs (L 7))))) + (cAv (cLs (L 7)))) else ((((1000 * (cAv (L 7))) + (100 * (cBv (L 7)))) + (10 * (cAv (cLs (L 7))))) + (cBv (cLs (L 7))))))) f))))) dX1_becomes_221 rfl hff rfl (Nat.le_of_ble_eq_true rfl) (Nat.le_of_ble_eq_true rfl) (by rw [ma_up_s, ma_up_up]) ?_
  refine ev_memI (fun J4 hJ4 => ?_)
  have g0 : ∀ x, x ≠ f → J4 x = J3 x := fun x h => by rw [hJ4, ma_up_n _ _ h]
  have g1 : ∀ j, j < 10 → 0 < j → (ma_up (ma_up (ma_up (ma_up (ma_up (ma_up (ma_up (ma_up (ma_up (J3 f) 1 (cAv (L 7))) 2 (cBv (L 7))) 3 ((4 - (cAv (L 7))) - (cBv (L 7)))) 4 (cAv (cLs (L 7)))) 5 (cBv (cLs (L 7)))) 6 ((3 - (cAv (cLs (L 7)))) - (cBv (cLs (L 7))))) 7 (Int64.toInt32 (cW (L 7)))) 8 (Int64.toInt32 (cM3 (L 7) 0 1 2))) 9 (if ((((1000 * (cAv (L 7))) + (100 * (cBv (L 7)))) + (10 * (cAv (cLs (L 7))))) + (cBv (cLs (L 7)))) < ((((1000 * (cBv (L 7))) + (100 * (cAv (L 7)))) + (10 * (cBv (cLs (L 7))))) + (cAv (cLs (L 7)))) then ((((1000 * (cBv (L 7))) + (100 * (cAv (L 7)))) + (10 * (cBv (cLs (L 7))))) + (cAv (cLs (L 7)))) else ((((1000 * (cAv (L 7))) + (100 * (cBv (L 7)))) + (10 * (cAv (cLs (L 7))))) + (cBv (cLs (L 7)))))) j = cF9 (L 7) j := fun j hj h0 => by
    match j, hj, h0 with
    | 1, _, _ => rfl
    | 2, _, _ => rfl
    | 3, _, _ => rfl
    | 4, _, _ => rfl
    | 5, _, _ => rfl
    | 6, _, _ => rfl
    | 7, _, _ => rfl
    | 8, _, _ => rfl
    | 9, _, _ => rfl
    | 0, _, h => exact absurd h (by omega)
    | j + 10, h, _ => exact absurd h (by omega)
  have g2 : cKd ((ma_up J3 f (ma_up (ma_up (ma_up (ma_up (ma_up (ma_up (ma_up (ma_up (ma_up (J3 f) 1 (cAv (L 7))) 2 (cBv (L 7))) 3 ((4 - (cAv (L 7))) - (cBv (L 7)))) 4 (cAv (cLs (L 7)))) 5 (cBv (cLs (L 7)))) 6 ((3 - (cAv (cLs (L 7)))) - (cBv (cLs (L 7))))) 7 (Int64.toInt32 (cW (L 7)))) 8 (Int64.toInt32 (cM3 (L 7) 0 1 2))) 9 (if ((((1000 * (cAv (L 7))) + (100 * (cBv (L 7)))) + (10 * (cAv (cLs (L 7))))) + (cBv (cLs (L 7)))) < ((((1000 * (cBv (L 7))) + (100 * (cAv (L 7)))) + (10 * (cBv (cLs (L 7))))) + (cAv (cLs (L 7)))) then ((((1000 * (cBv (L 7))) + (100 * (cAv (L 7)))) + (10 * (cBv (cLs (L 7))))) + (cAv (cLs (L 7)))) else ((((1000 * (cAv (L 7))) + (100 * (cBv (L 7)))) + (10 * (cAv (cLs (L 7))))) + (cBv (cLs (L 7))))))) f) = cKd (cF9 (L 7)) := by
    rw [ma_up_s]; exact cKd_c g1
  have g3 : ∀ j, j < 10 → J4 f j = cFc (L 7) j := fun j hj => by
    rw [hJ4, ma_up_s]
    match j, hj with
    | 0, _ => exact (ma_up_s _ _ _).trans g2
    | j + 1, h => exact (ma_up_n _ _ (Nat.succ_ne_zero j)).trans (g1 (j + 1) h (Nat.succ_pos j))
  refine ev_aload_n (pc' := 223) (i := 0) dX1_becomes_222 rfl rfl rfl ?_
  refine ev_callV (pc' := 226) (rm' := rX1_kind) (b := a) (av := []) (rest := []) co_X1_29 ci_X1_kind cv_X1_kind dX1_becomes_223 rfl ha hb_X1 rfl rfl (Nat.le_of_ble_eq_true rfl) ⟨(Nat.le_of_ble_eq_true rfl), (Nat.le_of_ble_eq_true rfl)⟩ ⟨(Nat.le_of_ble_eq_true rfl), (Nat.le_of_ble_eq_true rfl)⟩ ?_
  refine t_X1_kind a n f ha hn hf hff ?_
  refine ev_iret dX1_becomes_226 rfl rfl ⟨Nat.le_refl _, Nat.le_refl _⟩ ?_
  rw [g3 0 (by omega)]
  refine k0 J4 K4 g3 ((congrFun (g0 a hd.2.1) 0).trans q7) (fun x h1 h2 h3 h4 => ?_) (fun k h => ?_) T4 (fun x h1 h2 h3 h4 => ?_) ?_ ?_
  · rw [g0 x h4, q8 x h1, q6 x h3, q3 x h2]
  · rw [g0 a hd.2.1, q7b k h, q6 a hd.2.2.2.2.1, q3 a hd.1]
  · rw [s1 x h4, l2 x h3, p1 x h2, x1 x h1]
  · intro k h1 h2
    rw [g0 n hd.2.2.1, q8 n (Ne.symm hd.1), q6 n hd.2.2.2.1, q3b k h1 h2]
  · intro k h1 h2
    rw [g0 9 (Ne.symm hd.2.2.2.2.2), q8 9 (Ne.symm hd.2.2.2.2.1), q6b k h1 h2, q3 9 (Ne.symm hd.2.2.2.1)]
