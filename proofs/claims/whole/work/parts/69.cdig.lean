def cDg (I : ma_I) (L : ma_L) : Nat → Int64
  | 0 => 17
  | g + 1 => if (I (55 + 5 * g)) 0 = 0 then (31 * cDg I L g) - 1 else cGa (L (57 + 5 * g)) (I (59 + 5 * g)) (cDg I L g)
def cDs (I : ma_I) (s0 : Int64) : Nat → Int64
  | 0 => s0
  | s + 1 => if (I (39 + 2 * s)) 1 ≤ 0 then 31 * cDs I s0 s + Int32.toInt64 ((I (39 + 2 * s)) 1) else cAd (I (40 + 2 * s)) ((I (39 + 2 * s)) 1).toInt.toNat (31 * cDs I s0 s + Int32.toInt64 ((I (39 + 2 * s)) 1))
theorem sz_pos {z : Int32} (hz : z.toInt ≤ 16) (h : ¬ z ≤ 0) : z = nI z.toInt.toNat ∧ z.toInt.toNat < 17 := by
  rw [nb_le, nb_0] at h
  refine ⟨?_, by omega⟩
  apply nb_eq.mpr
  rw [nI_toInt (by omega)]
  omega
set_option maxRecDepth 4000 in
theorem t_X7_digest {g : ma_G} {Post : ma_P} {I : ma_I} {L : ma_L}   (hS : ∀ s, s < 8 → (I (39 + 2 * s) 1).toInt ≤ 16) (k : Post (some (.long (cDs I (cDg I L 12) 8))) HS I L RF 146) : CT g yX7_digest cX7_digest 4 (some .long) rX7_digest [.ref 3] Post HS I L RF 146 := by
  refine ct_of (lv := [some (.ref 3), none, none, none]) (by decide) (Nat.le_of_ble_eq_true rfl) rfl ?_
  refine ev_ldc2 (pc' := 3) cl_X7_340 dX7_digest_0 rfl ?_
  refine ev_lstore_n (pc' := 4) (i := 1) (lv' := [some (.ref 3), some (.long 17), none, none]) dX7_digest_3 rfl rfl (Nat.le_of_ble_eq_true rfl) rfl rfl ?_
  refine ev_iconst (pc' := 5) (v := 0) dX7_digest_4 rfl ki_0 ?_
  refine ev_istore_n (pc' := 6) (i := 3) (lv' := [some (.ref 3), some (.long 17), none, some (.int 0)]) dX7_digest_5 rfl rfl (Nat.le_of_ble_eq_true rfl) rfl rfl ?_
  suffices lp : ∀ (d q : Nat), q + d = 12 → EV g yX7_digest cX7_digest 4 (some .long) rX7_digest (ma_ZM g rX7_digest Post) 6 [some (.ref 3), some (.long (cDg I L q)), none, some (.int (nI q))] [] HS I L RF 146 0 0 from lp 12 0 rfl
  intro d
  induction d with
  | zero =>
    intro q hq
    obtain rfl : q = 12 := by omega
    refine ev_iload_n (pc' := 7) (i := 3) dX7_digest_6 rfl rfl rfl ?_
    refine ev_bipush (pc' := 9) (v := 12) dX7_digest_7 rfl kb_12 ?_
    refine ev_icmp_ge (tgt := 29) (pc' := 12) dX7_digest_9 rfl rfl (fun _ => ?_) (fun h => absurd (nx_le (a := 12) (b := 12) (by omega) (by omega)) h)
    refine ev_iconst (pc' := 30) (v := 0) dX7_digest_29 rfl ki_0 ?_
    refine ev_istore_n (pc' := 31) (i := 3) (lv' := [some (.ref 3), some (.long (cDg I L 12)), none, some (.int 0)]) dX7_digest_30 rfl rfl (Nat.le_of_ble_eq_true rfl) rfl rfl ?_
    suffices lp2 : ∀ (d s : Nat), s + d = 8 → EV g yX7_digest cX7_digest 4 (some .long) rX7_digest (ma_ZM g rX7_digest Post) 31 [some (.ref 3), some (.long (cDs I (cDg I L 12) s)), none, some (.int (nI s))] [] HS I L RF 146 0 0 from lp2 8 0 rfl
    intro d2
    induction d2 with
    | zero =>
      intro s hs
      obtain rfl : s = 8 := by omega
      refine ev_iload_n (pc' := 32) (i := 3) dX7_digest_31 rfl rfl rfl ?_
      refine ev_bipush (pc' := 34) (v := 8) dX7_digest_32 rfl kb_8 ?_
      refine ev_icmp_ge (tgt := 54) (pc' := 37) dX7_digest_34 rfl rfl (fun _ => ?_) (fun h => absurd (nx_le (a := 8) (b := 8) (by omega) (by omega)) h)
      refine ev_lload_n (pc' := 55) (i := 1) dX7_digest_54 rfl rfl rfl ?_
      refine ev_lret dX7_digest_55 rfl ⟨Nat.le_refl _, Nat.le_refl _⟩ ?_
      exact k
    | succ d2 ih2 =>
      intro s hs
      by_cases hz : (I (39 + 2 * s)) 1 ≤ 0
      · refine ev_iload_n (pc' := 32) (i := 3) dX7_digest_31 rfl rfl rfl ?_
        refine ev_bipush (pc' := 34) (v := 8) dX7_digest_32 rfl kb_8 ?_
        refine ev_icmp_ge (tgt := 54) (pc' := 37) dX7_digest_34 rfl rfl (fun h => absurd h (nx_nle (a := 8) (b := s) (by omega) (by omega))) (fun _ => ?_)
        refine ev_aload_n (pc' := 38) (i := 0) dX7_digest_37 rfl rfl rfl ?_
        refine ev_getR (pc' := 41) fo_X7_11 dX7_digest_38 rfl hs_3 rfl rf_3_0 ?_
        refine ev_iload_n (pc' := 42) (i := 3) dX7_digest_41 rfl rfl rfl ?_
        refine ev_aald (pc' := 43) (j := s) (b := 39 + 2 * s) dX7_digest_42 rfl hs_4 (Or.inl rfl) rfl (by omega) (Nat.le_of_ble_eq_true rfl) (hs_sheet s (by omega)).2.2.2 ?_
        refine ev_lload_n (pc' := 44) (i := 1) dX7_digest_43 rfl rfl rfl ?_
        refine ev_callV (pc' := 47) (rm' := rX3_addTo) (b := 39 + 2 * s) (av := [.long (cDs I (cDg I L 12) s)]) (rest := []) co_X7_346 ci_X3_addTo cv_X3_addTo dX7_digest_44 rfl (hs_sheet s (by omega)).1 hb_X3 rfl rfl (Nat.le_of_ble_eq_true rfl) ⟨(Nat.le_of_ble_eq_true rfl), (Nat.le_of_ble_eq_true rfl)⟩ ⟨(Nat.le_of_ble_eq_true rfl), (Nat.le_of_ble_eq_true rfl)⟩ ?_
        refine t_X3_addToN (39 + 2 * s) (40 + 2 * s) (hs_sheet s (by omega)).1 (hs_sheet s (by omega)).2.2.1 (hs_sheet s (by omega)).2.1 (by omega) (cDs I (cDg I L 12) s) hz ?_
        refine ev_lstore_n (pc' := 48) (i := 1) (lv' := [some (.ref 3), some (.long (31 * (cDs I (cDg I L 12) s) + Int32.toInt64 ((I (39 + 2 * s)) 1))), none, some (.int (nI s))]) dX7_digest_47 rfl rfl (Nat.le_of_ble_eq_true rfl) rfl rfl ?_
        refine ev_iinc (pc' := 51) (v := nI (s + 1)) (lv' := [some (.ref 3), some (.long (31 * (cDs I (cDg I L 12) s) + Int32.toInt64 ((I (39 + 2 * s)) 1))), none, some (.int (nI (s + 1)))]) dX7_digest_48 rfl rfl (nI_add s 1) (Nat.le_of_ble_eq_true rfl) rfl rfl ?_
        refine ev_goto (tgt := 31) dX7_digest_51 rfl ?_
        have e : cDs I (cDg I L 12) (s + 1) = 31 * (cDs I (cDg I L 12) s) + Int32.toInt64 ((I (39 + 2 * s)) 1) := if_pos hz
        rw [← e]
        exact ih2 (s + 1) (by omega)
      · refine ev_iload_n (pc' := 32) (i := 3) dX7_digest_31 rfl rfl rfl ?_
        refine ev_bipush (pc' := 34) (v := 8) dX7_digest_32 rfl kb_8 ?_
        refine ev_icmp_ge (tgt := 54) (pc' := 37) dX7_digest_34 rfl rfl (fun h => absurd h (nx_nle (a := 8) (b := s) (by omega) (by omega))) (fun _ => ?_)
        refine ev_aload_n (pc' := 38) (i := 0) dX7_digest_37 rfl rfl rfl ?_
        refine ev_getR (pc' := 41) fo_X7_11 dX7_digest_38 rfl hs_3 rfl rf_3_0 ?_
        refine ev_iload_n (pc' := 42) (i := 3) dX7_digest_41 rfl rfl rfl ?_
        refine ev_aald (pc' := 43) (j := s) (b := 39 + 2 * s) dX7_digest_42 rfl hs_4 (Or.inl rfl) rfl (by omega) (Nat.le_of_ble_eq_true rfl) (hs_sheet s (by omega)).2.2.2 ?_
        refine ev_lload_n (pc' := 44) (i := 1) dX7_digest_43 rfl rfl rfl ?_
        refine ev_callV (pc' := 47) (rm' := rX3_addTo) (b := 39 + 2 * s) (av := [.long (cDs I (cDg I L 12) s)]) (rest := []) co_X7_346 ci_X3_addTo cv_X3_addTo dX7_digest_44 rfl (hs_sheet s (by omega)).1 hb_X3 rfl rfl (Nat.le_of_ble_eq_true rfl) ⟨(Nat.le_of_ble_eq_true rfl), (Nat.le_of_ble_eq_true rfl)⟩ ⟨(Nat.le_of_ble_eq_true rfl), (Nat.le_of_ble_eq_true rfl)⟩ ?_
        have hp := sz_pos (hS s (by omega)) hz
        refine t_X3_addTo (39 + 2 * s) (40 + 2 * s) (hs_sheet s (by omega)).1 (hs_sheet s (by omega)).2.2.1 (hs_sheet s (by omega)).2.1 (by omega) (cDs I (cDg I L 12) s) ((I (39 + 2 * s)) 1).toInt.toNat hp.2 hp.1 ?_
        refine ev_eql (w := cAd (I (40 + 2 * s)) ((I (39 + 2 * s)) 1).toInt.toNat (31 * (cDs I (cDg I L 12) s) + Int32.toInt64 ((I (39 + 2 * s)) 1))) (by rw [← hp.1]) ?_
        refine ev_lstore_n (pc' := 48) (i := 1) (lv' := [some (.ref 3), some (.long (cAd (I (40 + 2 * s)) ((I (39 + 2 * s)) 1).toInt.toNat (31 * (cDs I (cDg I L 12) s) + Int32.toInt64 ((I (39 + 2 * s)) 1)))), none, some (.int (nI s))]) dX7_digest_47 rfl rfl (Nat.le_of_ble_eq_true rfl) rfl rfl ?_
        refine ev_iinc (pc' := 51) (v := nI (s + 1)) (lv' := [some (.ref 3), some (.long (cAd (I (40 + 2 * s)) ((I (39 + 2 * s)) 1).toInt.toNat (31 * (cDs I (cDg I L 12) s) + Int32.toInt64 ((I (39 + 2 * s)) 1)))), none, some (.int (nI (s + 1)))]) dX7_digest_48 rfl rfl (nI_add s 1) (Nat.le_of_ble_eq_true rfl) rfl rfl ?_
        refine ev_goto (tgt := 31) dX7_digest_51 rfl ?_
        have e : cDs I (cDg I L 12) (s + 1) = cAd (I (40 + 2 * s)) ((I (39 + 2 * s)) 1).toInt.toNat (31 * (cDs I (cDg I L 12) s) + Int32.toInt64 ((I (39 + 2 * s)) 1)) := if_neg hz
        rw [← e]
        exact ih2 (s + 1) (by omega)
  | succ d ih =>
    intro q hq
    refine ev_iload_n (pc' := 7) (i := 3) dX7_digest_6 rfl rfl rfl ?_
    refine ev_bipush (pc' := 9) (v := 12) dX7_digest_7 rfl kb_12 ?_
    refine ev_icmp_ge (tgt := 29) (pc' := 12) dX7_digest_9 rfl rfl (fun h => absurd h (nx_nle (a := 12) (b := q) (by omega) (by omega))) (fun _ => ?_)
    refine ev_aload_n (pc' := 13) (i := 0) dX7_digest_12 rfl rfl rfl ?_
    refine ev_getR (pc' := 16) fo_X7_17 dX7_digest_13 rfl hs_3 rfl rf_3_1 ?_
    refine ev_iload_n (pc' := 17) (i := 3) dX7_digest_16 rfl rfl rfl ?_
    refine ev_aald (pc' := 18) (j := q) (b := 55 + 5 * q) dX7_digest_17 rfl hs_5 (Or.inr rfl) rfl (by omega) (Nat.le_of_ble_eq_true rfl) (hs_ground q (by omega)).2.2.2.2.2.2.2.2.2 ?_
    refine ev_lload_n (pc' := 19) (i := 1) dX7_digest_18 rfl rfl rfl ?_
    refine ev_callV (pc' := 22) (rm' := rX1_addTo) (b := 55 + 5 * q) (av := [.long (cDg I L q)]) (rest := []) co_X7_342 ci_X1_addTo cv_X1_addTo dX7_digest_19 rfl (hs_ground q (by omega)).1 hb_X1 rfl rfl (Nat.le_of_ble_eq_true rfl) ⟨(Nat.le_of_ble_eq_true rfl), (Nat.le_of_ble_eq_true rfl)⟩ ⟨(Nat.le_of_ble_eq_true rfl), (Nat.le_of_ble_eq_true rfl)⟩ ?_
    refine t_X1_addTo (55 + 5 * q) (56 + 5 * q) (59 + 5 * q) (hs_ground q (by omega)).1 (hs_ground q (by omega)).2.2.2.2.2.1 (hs_ground q (by omega)).2.2.2.2.2.2.1 (hs_ground q (by omega)).2.2.2.2.1 (57 + 5 * q) (58 + 5 * q) (hs_ground q (by omega)).2.1 (hs_ground q (by omega)).2.2.2.2.2.2.2.1 (hs_ground q (by omega)).2.2.1 (hs_ground q (by omega)).2.2.2.2.2.2.2.2.1 (hs_ground q (by omega)).2.2.2.1 (cDg I L q) (fun h1 => ?_) (fun h1 => ?_)
    · skip
      refine ev_lstore_n (pc' := 23) (i := 1) (lv' := [some (.ref 3), some (.long ((31 * (cDg I L q)) - 1)), none, some (.int (nI q))]) dX7_digest_22 rfl rfl (Nat.le_of_ble_eq_true rfl) rfl rfl ?_
      refine ev_iinc (pc' := 26) (v := nI (q + 1)) (lv' := [some (.ref 3), some (.long ((31 * (cDg I L q)) - 1)), none, some (.int (nI (q + 1)))]) dX7_digest_23 rfl rfl (nI_add q 1) (Nat.le_of_ble_eq_true rfl) rfl rfl ?_
      refine ev_goto (tgt := 6) dX7_digest_26 rfl ?_
      have e : cDg I L (q + 1) = (31 * (cDg I L q)) - 1 := if_pos h1
      rw [← e]
      exact ih (q + 1) (by omega)
    · skip
      refine ev_lstore_n (pc' := 23) (i := 1) (lv' := [some (.ref 3), some (.long (cGa (L (57 + 5 * q)) (I (59 + 5 * q)) (cDg I L q))), none, some (.int (nI q))]) dX7_digest_22 rfl rfl (Nat.le_of_ble_eq_true rfl) rfl rfl ?_
      refine ev_iinc (pc' := 26) (v := nI (q + 1)) (lv' := [some (.ref 3), some (.long (cGa (L (57 + 5 * q)) (I (59 + 5 * q)) (cDg I L q))), none, some (.int (nI (q + 1)))]) dX7_digest_23 rfl rfl (nI_add q 1) (Nat.le_of_ble_eq_true rfl) rfl rfl ?_
      refine ev_goto (tgt := 6) dX7_digest_26 rfl ?_
      have e : cDg I L (q + 1) = cGa (L (57 + 5 * q)) (I (59 + 5 * q)) (cDg I L q) := if_neg h1
      rw [← e]
      exact ih (q + 1) (by omega)
def cKp (P : Nat → Int32) (n : Nat) (x y z : Int32) : Nat → Int32 := if n < 100 then ma_up (ma_up (ma_up P (3 * n) x) (3 * n + 1) y) (3 * n + 2) z else P
set_option maxRecDepth 4000 in
theorem t_X2_keepL {g : ma_G} {Post : ma_P} {I : ma_I} {L : ma_L} (x y z : Int32) (n : Nat) (hs : n < 100) (hn : (I 32) 1 = nI n) (k0 : Post none HS (ma_up (ma_up I 33 (ma_up (ma_up (ma_up (I 33) (3 * n) x) ((3 * n) + 1) y) ((3 * n) + 2) z)) 32 (ma_up (I 32) 1 (nI (n + 1)))) L RF 146) : CT g yX2_keep cX2_keep 4 none rX2_keep [.ref 32, .int x, .int y, .int z] Post HS I L RF 146 := by
  refine ct_of (lv := [some (.ref 32), some (.int x), some (.int y), some (.int z)]) (by decide) (Nat.le_of_ble_eq_true rfl) rfl ?_
  refine ev_aload_n (pc' := 1) (i := 0) dX2_keep_0 rfl rfl rfl ?_
  refine ev_getI (pc' := 4) (v := nI n) fo_X2_15 dX2_keep_1 rfl hs_32 rfl hn ?_
  refine ev_bipush (pc' := 6) (v := 100) dX2_keep_4 rfl kb_100 ?_
  refine ev_icmp_ge (tgt := 49) (pc' := 9) dX2_keep_6 rfl rfl (fun h => absurd h (nx_nle (a := 100) (b := n) (by omega) (by omega))) (fun _ => ?_)
  refine ev_aload_n (pc' := 10) (i := 0) dX2_keep_9 rfl rfl rfl ?_
  refine ev_getR (pc' := 13) fo_X2_9 dX2_keep_10 rfl hs_32 rfl rf_32_0 ?_
  refine ev_iconst (pc' := 14) (v := 3) dX2_keep_13 rfl ki_3 ?_
  refine ev_aload_n (pc' := 15) (i := 0) dX2_keep_14 rfl rfl rfl ?_
  refine ev_getI (pc' := 18) (v := nI n) fo_X2_15 dX2_keep_15 rfl hs_32 rfl hn ?_
  refine ev_imul (pc' := 19) (v := nI (3 * n)) dX2_keep_18 rfl (pk_mul 3 n) ?_
  refine ev_iload_n (pc' := 20) (i := 1) dX2_keep_19 rfl rfl rfl ?_
  refine ev_iast (pc' := 21) (j := 3 * n) (I' := (ma_up I 33 (ma_up (I 33) (3 * n) x))) dX2_keep_20 rfl hs_33 rfl (by omega) (Nat.le_of_ble_eq_true rfl) rfl ?_
  refine ev_aload_n (pc' := 22) (i := 0) dX2_keep_21 rfl rfl rfl ?_
  refine ev_getR (pc' := 25) fo_X2_9 dX2_keep_22 rfl hs_32 rfl rf_32_0 ?_
  refine ev_iconst (pc' := 26) (v := 3) dX2_keep_25 rfl ki_3 ?_
  refine ev_aload_n (pc' := 27) (i := 0) dX2_keep_26 rfl rfl rfl ?_
  refine ev_getI (pc' := 30) (v := nI n) fo_X2_15 dX2_keep_27 rfl hs_32 rfl hn ?_
  refine ev_imul (pc' := 31) (v := nI (3 * n)) dX2_keep_30 rfl (pk_mul 3 n) ?_
  refine ev_iconst (pc' := 32) (v := 1) dX2_keep_31 rfl ki_1 ?_
  refine ev_iadd (pc' := 33) (v := nI ((3 * n) + 1)) dX2_keep_32 rfl (nI_add (3 * n) 1) ?_
  refine ev_iload_n (pc' := 34) (i := 2) dX2_keep_33 rfl rfl rfl ?_
  refine ev_iast (pc' := 35) (j := (3 * n) + 1) (I' := (ma_up I 33 (ma_up (ma_up (I 33) (3 * n) x) ((3 * n) + 1) y))) dX2_keep_34 rfl hs_33 rfl (by omega) (Nat.le_of_ble_eq_true rfl) (ma_up_up _ _ _ _) ?_
  refine ev_aload_n (pc' := 36) (i := 0) dX2_keep_35 rfl rfl rfl ?_
  refine ev_getR (pc' := 39) fo_X2_9 dX2_keep_36 rfl hs_32 rfl rf_32_0 ?_
  refine ev_iconst (pc' := 40) (v := 3) dX2_keep_39 rfl ki_3 ?_
  refine ev_aload_n (pc' := 41) (i := 0) dX2_keep_40 rfl rfl rfl ?_
  refine ev_getI (pc' := 44) (v := nI n) fo_X2_15 dX2_keep_41 rfl hs_32 rfl hn ?_
  refine ev_imul (pc' := 45) (v := nI (3 * n)) dX2_keep_44 rfl (pk_mul 3 n) ?_
  refine ev_iconst (pc' := 46) (v := 2) dX2_keep_45 rfl ki_2 ?_
  refine ev_iadd (pc' := 47) (v := nI ((3 * n) + 2)) dX2_keep_46 rfl (nI_add (3 * n) 2) ?_
  refine ev_iload_n (pc' := 48) (i := 3) dX2_keep_47 rfl rfl rfl ?_
  refine ev_iast (pc' := 49) (j := (3 * n) + 2) (I' := (ma_up I 33 (ma_up (ma_up (ma_up (I 33) (3 * n) x) ((3 * n) + 1) y) ((3 * n) + 2) z))) dX2_keep_48 rfl hs_33 rfl (by omega) (Nat.le_of_ble_eq_true rfl) (ma_up_up _ _ _ _) ?_
  refine ev_aload_n (pc' := 50) (i := 0) dX2_keep_49 rfl rfl rfl ?_
  refine ev_dup (pc' := 51) dX2_keep_50 rfl rfl ?_
  refine ev_getI (pc' := 54) (v := nI n) fo_X2_15 dX2_keep_51 rfl hs_32 rfl hn ?_
  refine ev_iconst (pc' := 55) (v := 1) dX2_keep_54 rfl ki_1 ?_
  refine ev_iadd (pc' := 56) (v := nI (n + 1)) dX2_keep_55 rfl (nI_add n 1) ?_
  refine ev_putI (pc' := 59) (I' := (ma_up (ma_up I 33 (ma_up (ma_up (ma_up (I 33) (3 * n) x) ((3 * n) + 1) y) ((3 * n) + 2) z)) 32 (ma_up (I 32) 1 (nI (n + 1))))) fo_X2_15 dX2_keep_56 rfl hs_32 rfl (fun r hr => by cases hr; rfl) ⟨rfl, rfl⟩ rfl ?_
  refine ev_vret dX2_keep_59 rfl ⟨Nat.le_refl _, Nat.le_refl _⟩ ?_
  exact k0
set_option maxRecDepth 4000 in
theorem t_X2_keepG {g : ma_G} {Post : ma_P} {I : ma_I} {L : ma_L} (x y z : Int32) (n : Nat) (hs : 100 ≤ n ∧ n < 10001) (hn : (I 32) 1 = nI n) (k0 : Post none HS (ma_up I 32 (ma_up (I 32) 1 (nI (n + 1)))) L RF 146) : CT g yX2_keep cX2_keep 4 none rX2_keep [.ref 32, .int x, .int y, .int z] Post HS I L RF 146 := by
  refine ct_of (lv := [some (.ref 32), some (.int x), some (.int y), some (.int z)]) (by decide) (Nat.le_of_ble_eq_true rfl) rfl ?_
  refine ev_aload_n (pc' := 1) (i := 0) dX2_keep_0 rfl rfl rfl ?_
  refine ev_getI (pc' := 4) (v := nI n) fo_X2_15 dX2_keep_1 rfl hs_32 rfl hn ?_
  refine ev_bipush (pc' := 6) (v := 100) dX2_keep_4 rfl kb_100 ?_
  refine ev_icmp_ge (tgt := 49) (pc' := 9) dX2_keep_6 rfl rfl (fun _ => ?_) (fun h => absurd (nx_le (a := 100) (b := n) (by omega) (by omega)) h)
  refine ev_aload_n (pc' := 50) (i := 0) dX2_keep_49 rfl rfl rfl ?_
  refine ev_dup (pc' := 51) dX2_keep_50 rfl rfl ?_
  refine ev_getI (pc' := 54) (v := nI n) fo_X2_15 dX2_keep_51 rfl hs_32 rfl hn ?_
  refine ev_iconst (pc' := 55) (v := 1) dX2_keep_54 rfl ki_1 ?_
  refine ev_iadd (pc' := 56) (v := nI (n + 1)) dX2_keep_55 rfl (nI_add n 1) ?_
  refine ev_putI (pc' := 59) (I' := (ma_up I 32 (ma_up (I 32) 1 (nI (n + 1))))) fo_X2_15 dX2_keep_56 rfl hs_32 rfl (fun r hr => by cases hr; rfl) ⟨rfl, rfl⟩ rfl ?_
  refine ev_vret dX2_keep_59 rfl ⟨Nat.le_refl _, Nat.le_refl _⟩ ?_
  exact k0
