set_option maxRecDepth 4000 in
theorem t_X0_keepFractionF {g : ma_G} {Post : ma_P} {I : ma_I} {L : ma_L} (m q : Int32) (hn : (I 12) 9 = nI 4) (k0 : Post none HS I L RF 146) : CT g yX0_keepFraction cX0_keepFraction 4 none rX0_keepFraction [.ref 12, .int m, .int q] Post HS I L RF 146 := by
  refine ct_of (lv := [some (.ref 12), some (.int m), some (.int q), none]) (by decide) (Nat.le_of_ble_eq_true rfl) rfl ?_
  refine ev_aload_n (pc' := 1) (i := 0) dX0_keepFraction_0 rfl rfl rfl ?_
  refine ev_getI (pc' := 4) (v := nI 4) fo_X0_138 dX0_keepFraction_1 rfl hs_12 rfl hn ?_
  refine ev_aload_n (pc' := 5) (i := 0) dX0_keepFraction_4 rfl rfl rfl ?_
  refine ev_getR (pc' := 8) fo_X0_35 dX0_keepFraction_5 rfl hs_12 rfl rf_12_7 ?_
  refine ev_alen (pc' := 9) (v := 4) dX0_keepFraction_8 rfl hs_24 (by decide) rfl ?_
  refine ev_icmp_lt (tgt := 13) (pc' := 12) dX0_keepFraction_9 rfl rfl (fun h => absurd h (nx_nlt (a := 4) (b := 4) (by omega) (by omega))) (fun _ => ?_)
  refine ev_vret dX0_keepFraction_12 rfl ⟨Nat.le_refl _, Nat.le_refl _⟩ ?_
  exact k0
abbrev cN3 : Type := Nat × (Nat → Int32) × (Nat → Int32)
def cKf (m q : Int32) (s : cN3) : cN3 := if s.1 < 4 then (s.1 + 1, cIn m q s.1 (s.2.1, s.2.2)) else s
def cFs (F : Nat → Int64) (x y : Int32) (s : cN3) : cN3 := if mAt4 F (Int32.toInt64 x) (Int32.toInt64 y) = 0 ∧ lN (Nat.gcd (Int32.toInt64 x).toInt.natAbs (Int32.toInt64 y).toInt.natAbs) = 1 then cKf x y s else s
def cFq (F : Nat → Int64) (y : Int32) : Nat → cN3 → cN3
  | 0, s => s
  | i + 1, s => cFs F (nI i - 64) y (cFq F y i s)
theorem fr_0 (I : ma_I) : I = ma_up (ma_up (ma_up I 24 (I 24)) 25 (I 25)) 12 (ma_up (I 12) 9 (I 12 9)) := by
  rw [ma_up_self (I 12), ma_up_self I 24, ma_up_self I 25, ma_up_self]
theorem fr_k (I : ma_I) (U V U' V' : Nat → Int32) (x y : Int32) : ma_up (ma_up (ma_up (ma_up (ma_up (ma_up I 24 U) 25 V) 12 (ma_up (I 12) 9 x)) 24 U') 25 V') 12 (ma_up (ma_up (I 12) 9 x) 9 y) = ma_up (ma_up (ma_up I 24 U') 25 V') 12 (ma_up (I 12) 9 y) := by
  rw [ma_up_comm _ (show 24 ≠ 12 by decide), ma_up_comm _ (show 24 ≠ 25 by decide), ma_up_up, ma_up_comm _ (show 25 ≠ 12 by decide), ma_up_up, ma_up_up, ma_up_up]
set_option maxRecDepth 4000 in
theorem t_X0_findFractionsBy {g : ma_G} {Post : ma_P} {I : ma_I} {L : ma_L}  (y : Int32) (n0 : Nat) (h40 : n0 ≤ 4) (hn0 : I 12 9 = nI n0) (k0 : ∀ (n : Nat) (U V : Nat → Int32), n ≤ 4 → (n, U, V) = cFq (L 13) y 129 (n0, I 24, I 25) → Post none HS (ma_up (ma_up (ma_up I 24 U) 25 V) 12 (ma_up (I 12) 9 (nI n))) L RF 146) : CT g yX0_findFractionsBy cX0_findFractionsBy 3 none rX0_findFractionsBy [.ref 12, .int y] Post HS I L RF 146 := by
  refine ct_of (lv := [some (.ref 12), some (.int y), none]) (by decide) (Nat.le_of_ble_eq_true rfl) rfl ?_
  refine ev_bipush (pc' := 2) (v := (-64)) dX0_findFractionsBy_0 rfl kb_m64 ?_
  refine ev_istore_n (pc' := 3) (i := 2) (lv' := [some (.ref 12), some (.int y), some (.int (-64))]) dX0_findFractionsBy_2 rfl rfl (Nat.le_of_ble_eq_true rfl) rfl rfl ?_
  suffices lm : ∀ (e i n : Nat) (U V : Nat → Int32), i + e = 129 → n ≤ 4 → (n, U, V) = cFq (L 13) y i (n0, I 24, I 25) → EV g yX0_findFractionsBy cX0_findFractionsBy 3 none rX0_findFractionsBy (ma_ZM g rX0_findFractionsBy Post) 3 [some (.ref 12), some (.int y), some (.int (nI i - 64))] [] HS (ma_up (ma_up (ma_up I 24 U) 25 V) 12 (ma_up (I 12) 9 (nI n))) L RF 146 0 0 by
    refine ev_memI (fun z hz => ?_)
    have hz := hz.trans (fr_0 I)
    rw [hn0] at hz
    subst hz
    rw [show (-64 : Int32) = nI 0 - 64 by decide]
    exact lm 129 0 n0 _ _ rfl h40 rfl
  intro e
  induction e with
  | zero =>
    intro i n U V hi hn4 hs
    obtain rfl : i = 129 := by omega
    refine ev_iload_n (pc' := 4) (i := 2) dX0_findFractionsBy_3 rfl rfl rfl ?_
    refine ev_bipush (pc' := 6) (v := 64) dX0_findFractionsBy_4 rfl kb_64 ?_
    refine ev_icmp_gt (tgt := 46) (pc' := 9) dX0_findFractionsBy_6 rfl rfl (fun _ => ?_) (fun h => absurd (by decide) h)
    refine ev_vret dX0_findFractionsBy_46 rfl ⟨Nat.le_refl _, Nat.le_refl _⟩ ?_
    exact k0 _ _ _ hn4 hs
  | succ e ih =>
    intro i n U V hi hn4 hs
    by_cases hk4 : n < 4
    · refine ev_iload_n (pc' := 4) (i := 2) dX0_findFractionsBy_3 rfl rfl rfl ?_
      refine ev_bipush (pc' := 6) (v := 64) dX0_findFractionsBy_4 rfl kb_64 ?_
      refine ev_icmp_gt (tgt := 46) (pc' := 9) dX0_findFractionsBy_6 rfl rfl (fun h => absurd h (mv_le (by omega))) (fun _ => ?_)
      refine ev_aload_n (pc' := 10) (i := 0) dX0_findFractionsBy_9 rfl rfl rfl ?_
      refine ev_iload_n (pc' := 11) (i := 2) dX0_findFractionsBy_10 rfl rfl rfl ?_
      refine ev_i2l (pc' := 12) (v := Int32.toInt64 (nI i - 64)) dX0_findFractionsBy_11 rfl rfl ?_
      refine ev_iload_n (pc' := 13) (i := 1) dX0_findFractionsBy_12 rfl rfl rfl ?_
      refine ev_i2l (pc' := 14) (v := Int32.toInt64 y) dX0_findFractionsBy_13 rfl rfl ?_
      refine ev_callV (pc' := 17) (rm' := rX0_worthAt) (b := 12) (av := [.long (Int32.toInt64 (nI i - 64)), .long (Int32.toInt64 y)]) (rest := []) co_X0_146 ci_X0_worthAt cv_X0_worthAt dX0_findFractionsBy_14 rfl hs_12 hb_X0 rfl rfl (Nat.le_of_ble_eq_true rfl) ⟨(Nat.le_of_ble_eq_true rfl), (Nat.le_of_ble_eq_true rfl)⟩ ⟨(Nat.le_of_ble_eq_true rfl), (Nat.le_of_ble_eq_true rfl)⟩ ?_
      refine t_X0_worthAt (Int32.toInt64 (nI i - 64)) (Int32.toInt64 y) ?_
      refine ev_lconst (pc' := 18) (v := 0) dX0_findFractionsBy_17 rfl kl_0 ?_
      refine ev_lc_ne (p1 := 19) (tgt := 40) (pc' := 22) dX0_findFractionsBy_18 rfl dX0_findFractionsBy_19 rfl rfl (fun c1 => ?_) (fun c1 => ?_)
      · refine ev_iinc (pc' := 43) (v := (nI i - 64) + 1) (lv' := [some (.ref 12), some (.int y), some (.int ((nI i - 64) + 1))]) dX0_findFractionsBy_40 rfl rfl rfl (Nat.le_of_ble_eq_true rfl) rfl rfl ?_
        refine ev_goto (tgt := 3) dX0_findFractionsBy_43 rfl ?_
        rw [mv_s]
        refine ih (i + 1) _ _ _ (by omega) (by omega) ?_
        show _ = cFs _ _ _ (cFq _ _ _ _)
        rw [← hs]
        exact (if_neg (fun c => absurd c.1 c1)).symm
      · refine ev_iload_n (pc' := 23) (i := 2) dX0_findFractionsBy_22 rfl rfl rfl ?_
        refine ev_i2l (pc' := 24) (v := Int32.toInt64 (nI i - 64)) dX0_findFractionsBy_23 rfl rfl ?_
        refine ev_iload_n (pc' := 25) (i := 1) dX0_findFractionsBy_24 rfl rfl rfl ?_
        refine ev_i2l (pc' := 26) (v := Int32.toInt64 y) dX0_findFractionsBy_25 rfl rfl ?_
        refine ev_callS (pc' := 29) (rm' := rX7_commonPart) (av := [.long (Int32.toInt64 (nI i - 64)), .long (Int32.toInt64 y)]) (rest := []) co_X0_150 cs_X7_commonPart dX0_findFractionsBy_26 rfl rfl rfl (Nat.le_of_ble_eq_true rfl) ⟨(Nat.le_of_ble_eq_true rfl), (Nat.le_of_ble_eq_true rfl)⟩ ⟨(Nat.le_of_ble_eq_true rfl), (Nat.le_of_ble_eq_true rfl)⟩ ?_
        refine t_X7_commonPart (Int32.toInt64 (nI i - 64)) (Int32.toInt64 y) (i2l_ne _) (i2l_ne _) ?_
        refine ev_lconst (pc' := 30) (v := 1) dX0_findFractionsBy_29 rfl kl_1 ?_
        refine ev_lc_ne (p1 := 31) (tgt := 40) (pc' := 34) dX0_findFractionsBy_30 rfl dX0_findFractionsBy_31 rfl rfl (fun c2 => ?_) (fun c2 => ?_)
        · refine ev_iinc (pc' := 43) (v := (nI i - 64) + 1) (lv' := [some (.ref 12), some (.int y), some (.int ((nI i - 64) + 1))]) dX0_findFractionsBy_40 rfl rfl rfl (Nat.le_of_ble_eq_true rfl) rfl rfl ?_
          refine ev_goto (tgt := 3) dX0_findFractionsBy_43 rfl ?_
          rw [mv_s]
          refine ih (i + 1) _ _ _ (by omega) (by omega) ?_
          show _ = cFs _ _ _ (cFq _ _ _ _)
          rw [← hs]
          exact (if_neg (fun c => absurd c.2 c2)).symm
        · refine ev_aload_n (pc' := 35) (i := 0) dX0_findFractionsBy_34 rfl rfl rfl ?_
          refine ev_iload_n (pc' := 36) (i := 2) dX0_findFractionsBy_35 rfl rfl rfl ?_
          refine ev_iload_n (pc' := 37) (i := 1) dX0_findFractionsBy_36 rfl rfl rfl ?_
          refine ev_callV (pc' := 40) (rm' := rX0_keepFraction) (b := 12) (av := [.int (nI i - 64), .int y]) (rest := []) co_X0_153 ci_X0_keepFraction cv_X0_keepFraction dX0_findFractionsBy_37 rfl hs_12 hb_X0 rfl rfl (Nat.le_of_ble_eq_true rfl) ⟨(Nat.le_of_ble_eq_true rfl), (Nat.le_of_ble_eq_true rfl)⟩ ⟨(Nat.le_of_ble_eq_true rfl), (Nat.le_of_ble_eq_true rfl)⟩ ?_
          refine t_X0_keepFraction (nI i - 64) y n hk4 rfl (fun U1 V1 hU => ?_)
          have hU : (U1, V1) = cIn (nI i - 64) y n (U, V) := hU
          refine ev_memI (fun z hz => ?_)
          have hz := hz.trans (fr_k I U V U1 V1 (nI n) (nI (n + 1)))
          subst hz
          refine ev_iinc (pc' := 43) (v := (nI i - 64) + 1) (lv' := [some (.ref 12), some (.int y), some (.int ((nI i - 64) + 1))]) dX0_findFractionsBy_40 rfl rfl rfl (Nat.le_of_ble_eq_true rfl) rfl rfl ?_
          refine ev_goto (tgt := 3) dX0_findFractionsBy_43 rfl ?_
          rw [mv_s]
          refine ih (i + 1) _ _ _ (by omega) (by omega) ?_
          show _ = cFs _ _ _ (cFq _ _ _ _)
          rw [← hs]
          refine Eq.trans ?_ (if_pos ⟨c1, c2⟩).symm
          unfold cKf; dsimp only; rw [if_pos hk4, ← hU]
    · refine ev_iload_n (pc' := 4) (i := 2) dX0_findFractionsBy_3 rfl rfl rfl ?_
      refine ev_bipush (pc' := 6) (v := 64) dX0_findFractionsBy_4 rfl kb_64 ?_
      refine ev_icmp_gt (tgt := 46) (pc' := 9) dX0_findFractionsBy_6 rfl rfl (fun h => absurd h (mv_le (by omega))) (fun _ => ?_)
      refine ev_aload_n (pc' := 10) (i := 0) dX0_findFractionsBy_9 rfl rfl rfl ?_
      refine ev_iload_n (pc' := 11) (i := 2) dX0_findFractionsBy_10 rfl rfl rfl ?_
      refine ev_i2l (pc' := 12) (v := Int32.toInt64 (nI i - 64)) dX0_findFractionsBy_11 rfl rfl ?_
      refine ev_iload_n (pc' := 13) (i := 1) dX0_findFractionsBy_12 rfl rfl rfl ?_
      refine ev_i2l (pc' := 14) (v := Int32.toInt64 y) dX0_findFractionsBy_13 rfl rfl ?_
      refine ev_callV (pc' := 17) (rm' := rX0_worthAt) (b := 12) (av := [.long (Int32.toInt64 (nI i - 64)), .long (Int32.toInt64 y)]) (rest := []) co_X0_146 ci_X0_worthAt cv_X0_worthAt dX0_findFractionsBy_14 rfl hs_12 hb_X0 rfl rfl (Nat.le_of_ble_eq_true rfl) ⟨(Nat.le_of_ble_eq_true rfl), (Nat.le_of_ble_eq_true rfl)⟩ ⟨(Nat.le_of_ble_eq_true rfl), (Nat.le_of_ble_eq_true rfl)⟩ ?_
      refine t_X0_worthAt (Int32.toInt64 (nI i - 64)) (Int32.toInt64 y) ?_
      refine ev_lconst (pc' := 18) (v := 0) dX0_findFractionsBy_17 rfl kl_0 ?_
      refine ev_lc_ne (p1 := 19) (tgt := 40) (pc' := 22) dX0_findFractionsBy_18 rfl dX0_findFractionsBy_19 rfl rfl (fun c3 => ?_) (fun c3 => ?_)
      · refine ev_iinc (pc' := 43) (v := (nI i - 64) + 1) (lv' := [some (.ref 12), some (.int y), some (.int ((nI i - 64) + 1))]) dX0_findFractionsBy_40 rfl rfl rfl (Nat.le_of_ble_eq_true rfl) rfl rfl ?_
        refine ev_goto (tgt := 3) dX0_findFractionsBy_43 rfl ?_
        rw [mv_s]
        refine ih (i + 1) _ _ _ (by omega) (by omega) ?_
        show _ = cFs _ _ _ (cFq _ _ _ _)
        rw [← hs]
        exact (if_neg (fun c => absurd c.1 c3)).symm
      · refine ev_iload_n (pc' := 23) (i := 2) dX0_findFractionsBy_22 rfl rfl rfl ?_
        refine ev_i2l (pc' := 24) (v := Int32.toInt64 (nI i - 64)) dX0_findFractionsBy_23 rfl rfl ?_
        refine ev_iload_n (pc' := 25) (i := 1) dX0_findFractionsBy_24 rfl rfl rfl ?_
        refine ev_i2l (pc' := 26) (v := Int32.toInt64 y) dX0_findFractionsBy_25 rfl rfl ?_
        refine ev_callS (pc' := 29) (rm' := rX7_commonPart) (av := [.long (Int32.toInt64 (nI i - 64)), .long (Int32.toInt64 y)]) (rest := []) co_X0_150 cs_X7_commonPart dX0_findFractionsBy_26 rfl rfl rfl (Nat.le_of_ble_eq_true rfl) ⟨(Nat.le_of_ble_eq_true rfl), (Nat.le_of_ble_eq_true rfl)⟩ ⟨(Nat.le_of_ble_eq_true rfl), (Nat.le_of_ble_eq_true rfl)⟩ ?_
        refine t_X7_commonPart (Int32.toInt64 (nI i - 64)) (Int32.toInt64 y) (i2l_ne _) (i2l_ne _) ?_
        refine ev_lconst (pc' := 30) (v := 1) dX0_findFractionsBy_29 rfl kl_1 ?_
        refine ev_lc_ne (p1 := 31) (tgt := 40) (pc' := 34) dX0_findFractionsBy_30 rfl dX0_findFractionsBy_31 rfl rfl (fun c4 => ?_) (fun c4 => ?_)
        · refine ev_iinc (pc' := 43) (v := (nI i - 64) + 1) (lv' := [some (.ref 12), some (.int y), some (.int ((nI i - 64) + 1))]) dX0_findFractionsBy_40 rfl rfl rfl (Nat.le_of_ble_eq_true rfl) rfl rfl ?_
          refine ev_goto (tgt := 3) dX0_findFractionsBy_43 rfl ?_
          rw [mv_s]
          refine ih (i + 1) _ _ _ (by omega) (by omega) ?_
          show _ = cFs _ _ _ (cFq _ _ _ _)
          rw [← hs]
          exact (if_neg (fun c => absurd c.2 c4)).symm
        · refine ev_aload_n (pc' := 35) (i := 0) dX0_findFractionsBy_34 rfl rfl rfl ?_
          refine ev_iload_n (pc' := 36) (i := 2) dX0_findFractionsBy_35 rfl rfl rfl ?_
          refine ev_iload_n (pc' := 37) (i := 1) dX0_findFractionsBy_36 rfl rfl rfl ?_
          refine ev_callV (pc' := 40) (rm' := rX0_keepFraction) (b := 12) (av := [.int (nI i - 64), .int y]) (rest := []) co_X0_153 ci_X0_keepFraction cv_X0_keepFraction dX0_findFractionsBy_37 rfl hs_12 hb_X0 rfl rfl (Nat.le_of_ble_eq_true rfl) ⟨(Nat.le_of_ble_eq_true rfl), (Nat.le_of_ble_eq_true rfl)⟩ ⟨(Nat.le_of_ble_eq_true rfl), (Nat.le_of_ble_eq_true rfl)⟩ ?_
          have hn4e : n = 4 := by omega
          refine t_X0_keepFractionF (nI i - 64) y (show nI n = nI 4 by rw [hn4e]) ?_
          refine ev_iinc (pc' := 43) (v := (nI i - 64) + 1) (lv' := [some (.ref 12), some (.int y), some (.int ((nI i - 64) + 1))]) dX0_findFractionsBy_40 rfl rfl rfl (Nat.le_of_ble_eq_true rfl) rfl rfl ?_
          refine ev_goto (tgt := 3) dX0_findFractionsBy_43 rfl ?_
          rw [mv_s]
          refine ih (i + 1) _ _ _ (by omega) (by omega) ?_
          show _ = cFs _ _ _ (cFq _ _ _ _)
          rw [← hs]
          refine Eq.trans ?_ (if_pos ⟨c3, c4⟩).symm
          unfold cKf; dsimp only; rw [if_neg hk4]
