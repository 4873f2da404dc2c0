abbrev cU2 : Type := (Nat → Int32) × (Nat → Int32)
/-- m by q laid among the first s fractions, from the least on -/
def cIn (m q : Int32) : Nat → cU2 → cU2
  | 0, t => (ma_up t.1 0 m, ma_up t.2 0 q)
  | s + 1, t => if t.1 s * q ≤ m * t.2 s then (ma_up t.1 (s + 1) m, ma_up t.2 (s + 1) q) else cIn m q s (ma_up t.1 (s + 1) (t.1 s), ma_up t.2 (s + 1) (t.2 s))
theorem cIn_y {m q : Int32} {s : Nat} {U V : Nat → Int32} (h : U s * q ≤ m * V s) : cIn m q (s + 1) (U, V) = (ma_up U (s + 1) m, ma_up V (s + 1) q) := if_pos h
theorem cIn_n {m q : Int32} {s : Nat} {U V : Nat → Int32} (h : ¬ U s * q ≤ m * V s) : cIn m q (s + 1) (U, V) = cIn m q s (ma_up U (s + 1) (U s), ma_up V (s + 1) (V s)) := if_neg h
set_option maxRecDepth 4000 in
theorem t_X0_keepFraction {g : ma_G} {Post : ma_P} {I : ma_I} {L : ma_L}  (m : Int32) (q : Int32) (n : Nat) (h4 : n < 4) (hn : (I 12) 9 = nI n) (k0 : ∀ U V : Nat → Int32, (U, V) = cIn m q n (I 24, I 25) → Post none HS (ma_up (ma_up (ma_up I 24 U) 25 V) 12 (ma_up (I 12) 9 (nI (n + 1)))) L RF 146) : CT g yX0_keepFraction cX0_keepFraction 4 none rX0_keepFraction [.ref 12, .int m, .int q] Post HS I L RF 146 := by
  refine ct_of (lv := [some (.ref 12), some (.int m), some (.int q), none]) (by decide) (Nat.le_of_ble_eq_true rfl) rfl ?_
  refine ev_memI (fun z hz => ?_)
  have hz : z = ma_up (ma_up I 24 (I 24)) 25 (I 25) := by rw [hz, ma_up_self, ma_up_self]
  subst hz
  refine ev_aload_n (pc' := 1) (i := 0) dX0_keepFraction_0 rfl rfl rfl ?_
  refine ev_getI (pc' := 4) (v := nI n) fo_X0_138 dX0_keepFraction_1 rfl hs_12 rfl hn ?_
  refine ev_aload_n (pc' := 5) (i := 0) dX0_keepFraction_4 rfl rfl rfl ?_
  refine ev_getR (pc' := 8) fo_X0_35 dX0_keepFraction_5 rfl hs_12 rfl rf_12_7 ?_
  refine ev_alen (pc' := 9) (v := 4) dX0_keepFraction_8 rfl hs_24 (by decide) rfl ?_
  refine ev_icmp_lt (tgt := 13) (pc' := 12) dX0_keepFraction_9 rfl rfl (fun _ => ?_) (fun h => absurd (nx_lt (a := n) (b := 4) (by omega) (by omega)) h)
  refine ev_aload_n (pc' := 14) (i := 0) dX0_keepFraction_13 rfl rfl rfl ?_
  refine ev_getI (pc' := 17) (v := nI n) fo_X0_138 dX0_keepFraction_14 rfl hs_12 rfl hn ?_
  refine ev_istore_n (pc' := 18) (i := 3) (lv' := [some (.ref 12), some (.int m), some (.int q), some (.int (nI n))]) dX0_keepFraction_17 rfl rfl (Nat.le_of_ble_eq_true rfl) rfl rfl ?_
  suffices lp : ∀ (s : Nat) (U V : Nat → Int32), s ≤ n → cIn m q s (U, V) = cIn m q n (I 24, I 25) → EV g yX0_keepFraction cX0_keepFraction 4 none rX0_keepFraction (ma_ZM g rX0_keepFraction Post) 18 [some (.ref 12), some (.int m), some (.int q), some (.int (nI s))] [] HS (ma_up (ma_up I 24 U) 25 V) L RF 146 0 0 from lp n _ _ (Nat.le_refl _) rfl
  intro s
  induction s with
  | zero =>
    intro U V hs hT
    refine ev_iload_n (pc' := 19) (i := 3) dX0_keepFraction_18 rfl rfl rfl ?_
    refine ev_if_le (tgt := 79) (pc' := 22) dX0_keepFraction_19 rfl rfl (fun _ => ?_) (fun h => absurd (nx_le (a := 0) (b := 0) (by omega) (by omega)) h)
    refine ev_aload_n (pc' := 80) (i := 0) dX0_keepFraction_79 rfl rfl rfl ?_
    refine ev_getR (pc' := 83) fo_X0_35 dX0_keepFraction_80 rfl hs_12 rfl rf_12_7 ?_
    refine ev_iload_n (pc' := 84) (i := 3) dX0_keepFraction_83 rfl rfl rfl ?_
    refine ev_iload_n (pc' := 85) (i := 1) dX0_keepFraction_84 rfl rfl rfl ?_
    refine ev_iast (pc' := 86) (j := 0) (I' := (ma_up (ma_up I 24 (ma_up U 0 m)) 25 V)) dX0_keepFraction_85 rfl hs_24 rfl (Nat.le_of_ble_eq_true rfl) (Nat.le_of_ble_eq_true rfl) ((ma_up_comm _ (show 24 ≠ 25 from (by decide)) _ _).trans (congrArg (fun f => ma_up f 25 _) (ma_up_up _ _ _ _))) ?_
    refine ev_aload_n (pc' := 87) (i := 0) dX0_keepFraction_86 rfl rfl rfl ?_
    refine ev_getR (pc' := 90) fo_X0_39 dX0_keepFraction_87 rfl hs_12 rfl rf_12_8 ?_
    refine ev_iload_n (pc' := 91) (i := 3) dX0_keepFraction_90 rfl rfl rfl ?_
    refine ev_iload_n (pc' := 92) (i := 2) dX0_keepFraction_91 rfl rfl rfl ?_
    refine ev_iast (pc' := 93) (j := 0) (I' := (ma_up (ma_up I 24 (ma_up U 0 m)) 25 (ma_up V 0 q))) dX0_keepFraction_92 rfl hs_25 rfl (Nat.le_of_ble_eq_true rfl) (Nat.le_of_ble_eq_true rfl) (ma_up_up _ _ _ _) ?_
    refine ev_aload_n (pc' := 94) (i := 0) dX0_keepFraction_93 rfl rfl rfl ?_
    refine ev_dup (pc' := 95) dX0_keepFraction_94 rfl rfl ?_
    refine ev_getI (pc' := 98) (v := nI n) fo_X0_138 dX0_keepFraction_95 rfl hs_12 rfl hn ?_
    refine ev_iconst (pc' := 99) (v := 1) dX0_keepFraction_98 rfl ki_1 ?_
    refine ev_iadd (pc' := 100) (v := nI (n + 1)) dX0_keepFraction_99 rfl (nI_add n 1) ?_
    refine ev_putI (pc' := 103) (I' := (ma_up (ma_up (ma_up I 24 (ma_up U 0 m)) 25 (ma_up V 0 q)) 12 (ma_up (I 12) 9 (nI (n + 1))))) fo_X0_138 dX0_keepFraction_100 rfl hs_12 rfl (fun r hr => by cases hr; rfl) ⟨rfl, rfl⟩ rfl ?_
    refine ev_vret dX0_keepFraction_103 rfl ⟨Nat.le_refl _, Nat.le_refl _⟩ ?_
    exact k0 _ _ hT
  | succ s ih =>
    intro U V hs hT
    refine ev_iload_n (pc' := 19) (i := 3) dX0_keepFraction_18 rfl rfl rfl ?_
    refine ev_if_le (tgt := 79) (pc' := 22) dX0_keepFraction_19 rfl rfl (fun h => absurd h (nx_nle (a := (s + 1)) (b := 0) (by omega) (by omega))) (fun _ => ?_)
    refine ev_aload_n (pc' := 23) (i := 0) dX0_keepFraction_22 rfl rfl rfl ?_
    refine ev_getR (pc' := 26) fo_X0_35 dX0_keepFraction_23 rfl hs_12 rfl rf_12_7 ?_
    refine ev_iload_n (pc' := 27) (i := 3) dX0_keepFraction_26 rfl rfl rfl ?_
    refine ev_iconst (pc' := 28) (v := 1) dX0_keepFraction_27 rfl ki_1 ?_
    refine ev_isub (pc' := 29) (v := nI s) dX0_keepFraction_28 rfl (nI_sub1 (n := s + 1) (Nat.succ_pos _)) ?_
    refine ev_iald (pc' := 30) (j := s) (v := U s) dX0_keepFraction_29 rfl hs_24 rfl (by omega) (Nat.le_of_ble_eq_true rfl) rfl ?_
    refine ev_iload_n (pc' := 31) (i := 2) dX0_keepFraction_30 rfl rfl rfl ?_
    refine ev_imul (pc' := 32) (v := (U s) * q) dX0_keepFraction_31 rfl rfl ?_
    refine ev_iload_n (pc' := 33) (i := 1) dX0_keepFraction_32 rfl rfl rfl ?_
    refine ev_aload_n (pc' := 34) (i := 0) dX0_keepFraction_33 rfl rfl rfl ?_
    refine ev_getR (pc' := 37) fo_X0_39 dX0_keepFraction_34 rfl hs_12 rfl rf_12_8 ?_
    refine ev_iload_n (pc' := 38) (i := 3) dX0_keepFraction_37 rfl rfl rfl ?_
    refine ev_iconst (pc' := 39) (v := 1) dX0_keepFraction_38 rfl ki_1 ?_
    refine ev_isub (pc' := 40) (v := nI s) dX0_keepFraction_39 rfl (nI_sub1 (n := s + 1) (Nat.succ_pos _)) ?_
    refine ev_iald (pc' := 41) (j := s) (v := V s) dX0_keepFraction_40 rfl hs_25 rfl (by omega) (Nat.le_of_ble_eq_true rfl) rfl ?_
    refine ev_imul (pc' := 42) (v := m * (V s)) dX0_keepFraction_41 rfl rfl ?_
    refine ev_icmp_le (tgt := 79) (pc' := 45) dX0_keepFraction_42 rfl rfl (fun c1 => ?_) (fun c1 => ?_)
    · refine ev_aload_n (pc' := 80) (i := 0) dX0_keepFraction_79 rfl rfl rfl ?_
      refine ev_getR (pc' := 83) fo_X0_35 dX0_keepFraction_80 rfl hs_12 rfl rf_12_7 ?_
      refine ev_iload_n (pc' := 84) (i := 3) dX0_keepFraction_83 rfl rfl rfl ?_
      refine ev_iload_n (pc' := 85) (i := 1) dX0_keepFraction_84 rfl rfl rfl ?_
      refine ev_iast (pc' := 86) (j := s + 1) (I' := (ma_up (ma_up I 24 (ma_up U (s + 1) m)) 25 V)) dX0_keepFraction_85 rfl hs_24 rfl (by omega) (Nat.le_of_ble_eq_true rfl) ((ma_up_comm _ (show 24 ≠ 25 from (by decide)) _ _).trans (congrArg (fun f => ma_up f 25 _) (ma_up_up _ _ _ _))) ?_
      refine ev_aload_n (pc' := 87) (i := 0) dX0_keepFraction_86 rfl rfl rfl ?_
      refine ev_getR (pc' := 90) fo_X0_39 dX0_keepFraction_87 rfl hs_12 rfl rf_12_8 ?_
      refine ev_iload_n (pc' := 91) (i := 3) dX0_keepFraction_90 rfl rfl rfl ?_
      refine ev_iload_n (pc' := 92) (i := 2) dX0_keepFraction_91 rfl rfl rfl ?_
      refine ev_iast (pc' := 93) (j := s + 1) (I' := (ma_up (ma_up I 24 (ma_up U (s + 1) m)) 25 (ma_up V (s + 1) q))) dX0_keepFraction_92 rfl hs_25 rfl (by omega) (Nat.le_of_ble_eq_true rfl) (ma_up_up _ _ _ _) ?_
      refine ev_aload_n (pc' := 94) (i := 0) dX0_keepFraction_93 rfl rfl rfl ?_
      refine ev_dup (pc' := 95) dX0_keepFraction_94 rfl rfl ?_
      refine ev_getI (pc' := 98) (v := nI n) fo_X0_138 dX0_keepFraction_95 rfl hs_12 rfl hn ?_
      refine ev_iconst (pc' := 99) (v := 1) dX0_keepFraction_98 rfl ki_1 ?_
      refine ev_iadd (pc' := 100) (v := nI (n + 1)) dX0_keepFraction_99 rfl (nI_add n 1) ?_
      refine ev_putI (pc' := 103) (I' := (ma_up (ma_up (ma_up I 24 (ma_up U (s + 1) m)) 25 (ma_up V (s + 1) q)) 12 (ma_up (I 12) 9 (nI (n + 1))))) fo_X0_138 dX0_keepFraction_100 rfl hs_12 rfl (fun r hr => by cases hr; rfl) ⟨rfl, rfl⟩ rfl ?_
      refine ev_vret dX0_keepFraction_103 rfl ⟨Nat.le_refl _, Nat.le_refl _⟩ ?_
      exact k0 _ _ ((cIn_y c1).symm.trans hT)
    · refine ev_aload_n (pc' := 46) (i := 0) dX0_keepFraction_45 rfl rfl rfl ?_
      refine ev_getR (pc' := 49) fo_X0_35 dX0_keepFraction_46 rfl hs_12 rfl rf_12_7 ?_
      refine ev_iload_n (pc' := 50) (i := 3) dX0_keepFraction_49 rfl rfl rfl ?_
      refine ev_aload_n (pc' := 51) (i := 0) dX0_keepFraction_50 rfl rfl rfl ?_
      refine ev_getR (pc' := 54) fo_X0_35 dX0_keepFraction_51 rfl hs_12 rfl rf_12_7 ?_
      refine ev_iload_n (pc' := 55) (i := 3) dX0_keepFraction_54 rfl rfl rfl ?_
      refine ev_iconst (pc' := 56) (v := 1) dX0_keepFraction_55 rfl ki_1 ?_
      refine ev_isub (pc' := 57) (v := nI s) dX0_keepFraction_56 rfl (nI_sub1 (n := s + 1) (Nat.succ_pos _)) ?_
      refine ev_iald (pc' := 58) (j := s) (v := U s) dX0_keepFraction_57 rfl hs_24 rfl (by omega) (Nat.le_of_ble_eq_true rfl) rfl ?_
      refine ev_iast (pc' := 59) (j := s + 1) (I' := (ma_up (ma_up I 24 (ma_up U (s + 1) (U s))) 25 V)) dX0_keepFraction_58 rfl hs_24 rfl (by omega) (Nat.le_of_ble_eq_true rfl) ((ma_up_comm _ (show 24 ≠ 25 from (by decide)) _ _).trans (congrArg (fun f => ma_up f 25 _) (ma_up_up _ _ _ _))) ?_
      refine ev_aload_n (pc' := 60) (i := 0) dX0_keepFraction_59 rfl rfl rfl ?_
      refine ev_getR (pc' := 63) fo_X0_39 dX0_keepFraction_60 rfl hs_12 rfl rf_12_8 ?_
      refine ev_iload_n (pc' := 64) (i := 3) dX0_keepFraction_63 rfl rfl rfl ?_
      refine ev_aload_n (pc' := 65) (i := 0) dX0_keepFraction_64 rfl rfl rfl ?_
      refine ev_getR (pc' := 68) fo_X0_39 dX0_keepFraction_65 rfl hs_12 rfl rf_12_8 ?_
      refine ev_iload_n (pc' := 69) (i := 3) dX0_keepFraction_68 rfl rfl rfl ?_
      refine ev_iconst (pc' := 70) (v := 1) dX0_keepFraction_69 rfl ki_1 ?_
      refine ev_isub (pc' := 71) (v := nI s) dX0_keepFraction_70 rfl (nI_sub1 (n := s + 1) (Nat.succ_pos _)) ?_
      refine ev_iald (pc' := 72) (j := s) (v := V s) dX0_keepFraction_71 rfl hs_25 rfl (by omega) (Nat.le_of_ble_eq_true rfl) rfl ?_
      refine ev_iast (pc' := 73) (j := s + 1) (I' := (ma_up (ma_up I 24 (ma_up U (s + 1) (U s))) 25 (ma_up V (s + 1) (V s)))) dX0_keepFraction_72 rfl hs_25 rfl (by omega) (Nat.le_of_ble_eq_true rfl) (ma_up_up _ _ _ _) ?_
      refine ev_iinc (pc' := 76) (v := nI s) (lv' := [some (.ref 12), some (.int m), some (.int q), some (.int (nI s))]) dX0_keepFraction_73 rfl rfl (pk_m1 s) (Nat.le_of_ble_eq_true rfl) rfl rfl ?_
      refine ev_goto (tgt := 18) dX0_keepFraction_76 rfl ?_
      exact ih _ _ (by omega) ((cIn_n c1).symm.trans hT)
