set_option maxRecDepth 4000 in
theorem t_X4_exchange {g : ma_G} {Post : ma_P} {I : ma_I} {L : ma_L}  (i : Nat) (j : Nat) (hi : i < 16) (hj : j < 16) (k0 : Post none HS I (ma_up L 7 (ma_up (ma_up (L 7) i (L 7 j)) j (L 7 i))) RF 146) : CT g yX4_exchange cX4_exchange 5 none rX4_exchange [.ref 6, .int (nI i), .int (nI j)] Post HS I L RF 146 := by
  refine ct_of (lv := [some (.ref 6), some (.int (nI i)), some (.int (nI j)), none, none]) (by decide) (Nat.le_of_ble_eq_true rfl) rfl ?_
  refine ev_iload_n (pc' := 1) (i := 1) dX4_exchange_0 rfl rfl rfl ?_
  refine ev_if_lt (tgt := 26) (pc' := 4) dX4_exchange_1 rfl rfl (fun h => absurd h (nx_nlt (a := i) (b := 0) (by omega) (by omega))) (fun _ => ?_)
  refine ev_iload_n (pc' := 5) (i := 2) dX4_exchange_4 rfl rfl rfl ?_
  refine ev_if_lt (tgt := 26) (pc' := 8) dX4_exchange_5 rfl rfl (fun h => absurd h (nx_nlt (a := j) (b := 0) (by omega) (by omega))) (fun _ => ?_)
  refine ev_iload_n (pc' := 9) (i := 1) dX4_exchange_8 rfl rfl rfl ?_
  refine ev_aload_n (pc' := 10) (i := 0) dX4_exchange_9 rfl rfl rfl ?_
  refine ev_getR (pc' := 13) fo_X4_9 dX4_exchange_10 rfl hs_6 rfl rf_6_0 ?_
  refine ev_alen (pc' := 14) (v := 16) dX4_exchange_13 rfl hs_7 (by decide) rfl ?_
  refine ev_icmp_ge (tgt := 26) (pc' := 17) dX4_exchange_14 rfl rfl (fun h => absurd h (nx_nle (a := 16) (b := i) (by omega) (by omega))) (fun _ => ?_)
  refine ev_iload_n (pc' := 18) (i := 2) dX4_exchange_17 rfl rfl rfl ?_
  refine ev_aload_n (pc' := 19) (i := 0) dX4_exchange_18 rfl rfl rfl ?_
  refine ev_getR (pc' := 22) fo_X4_9 dX4_exchange_19 rfl hs_6 rfl rf_6_0 ?_
  refine ev_alen (pc' := 23) (v := 16) dX4_exchange_22 rfl hs_7 (by decide) rfl ?_
  refine ev_icmp_lt (tgt := 27) (pc' := 26) dX4_exchange_23 rfl rfl (fun _ => ?_) (fun h => absurd (nx_lt (a := j) (b := 16) (by omega) (by omega)) h)
  refine ev_aload_n (pc' := 28) (i := 0) dX4_exchange_27 rfl rfl rfl ?_
  refine ev_getR (pc' := 31) fo_X4_9 dX4_exchange_28 rfl hs_6 rfl rf_6_0 ?_
  refine ev_iload_n (pc' := 32) (i := 1) dX4_exchange_31 rfl rfl rfl ?_
  refine ev_lald (pc' := 33) (j := i) (v := (L 7) i) dX4_exchange_32 rfl hs_7 rfl (by omega) (Nat.le_of_ble_eq_true rfl) rfl ?_
  refine ev_lstore_n (pc' := 34) (i := 3) (lv' := [some (.ref 6), some (.int (nI i)), some (.int (nI j)), some (.long ((L 7) i)), none]) dX4_exchange_33 rfl rfl (Nat.le_of_ble_eq_true rfl) rfl rfl ?_
  refine ev_aload_n (pc' := 35) (i := 0) dX4_exchange_34 rfl rfl rfl ?_
  refine ev_getR (pc' := 38) fo_X4_9 dX4_exchange_35 rfl hs_6 rfl rf_6_0 ?_
  refine ev_iload_n (pc' := 39) (i := 1) dX4_exchange_38 rfl rfl rfl ?_
  refine ev_aload_n (pc' := 40) (i := 0) dX4_exchange_39 rfl rfl rfl ?_
  refine ev_getR (pc' := 43) fo_X4_9 dX4_exchange_40 rfl hs_6 rfl rf_6_0 ?_
  refine ev_iload_n (pc' := 44) (i := 2) dX4_exchange_43 rfl rfl rfl ?_
  refine ev_lald (pc' := 45) (j := j) (v := (L 7) j) dX4_exchange_44 rfl hs_7 rfl (by omega) (Nat.le_of_ble_eq_true rfl) rfl ?_
  refine ev_last (pc' := 46) (j := i) (L' := (ma_up L 7 (ma_up (L 7) i ((L 7) j)))) dX4_exchange_45 rfl hs_7 rfl (by omega) (Nat.le_of_ble_eq_true rfl) rfl ?_
  refine ev_aload_n (pc' := 47) (i := 0) dX4_exchange_46 rfl rfl rfl ?_
  refine ev_getR (pc' := 50) fo_X4_9 dX4_exchange_47 rfl hs_6 rfl rf_6_0 ?_
  refine ev_iload_n (pc' := 51) (i := 2) dX4_exchange_50 rfl rfl rfl ?_
  refine ev_lload_n (pc' := 52) (i := 3) dX4_exchange_51 rfl rfl rfl ?_
  refine ev_last (pc' := 53) (j := j) (L' := (ma_up L 7 (ma_up (ma_up (L 7) i ((L 7) j)) j ((L 7) i)))) dX4_exchange_52 rfl hs_7 rfl (by omega) (Nat.le_of_ble_eq_true rfl) (ma_up_up _ _ _ _) ?_
  refine ev_vret dX4_exchange_53 rfl ⟨Nat.le_refl _, Nat.le_refl _⟩ ?_
  exact k0
def cWs (i j y : Nat) : Nat := if y = i then j else if y = j then i else y
def cXc (f : Nat → Int64) (i j r : Nat) : Nat → Int64 := fun x => if x / 4 < r then f (4 * (x / 4) + cWs i j (x % 4)) else f x
def cXr (f : Nat → Int64) (i j c : Nat) : Nat → Int64 := fun x => if x % 4 < c ∧ x < 16 then f (4 * cWs i j (x / 4) + x % 4) else f x
def cSwp (f : Nat → Int64) (i j : Nat) : Nat → Int64 := cXr (cXc f i j 4) i j 4
theorem cXc_0 (f : Nat → Int64) (i j : Nat) : cXc f i j 0 = f := by funext x; unfold cXc; rw [if_neg (by omega)]
theorem cXr_0 (f : Nat → Int64) (i j : Nat) : cXr f i j 0 = f := by funext x; unfold cXr; rw [if_neg (by omega)]
theorem cXc_s (f : Nat → Int64) {i j : Nat} (r : Nat) (hi : i < 4) (hj : j < 4) : ma_up (ma_up (cXc f i j r) (4 * r + i) (cXc f i j r (4 * r + j))) (4 * r + j) (cXc f i j r (4 * r + i)) = cXc f i j (r + 1) := by
  have ej : cXc f i j r (4 * r + j) = f (4 * r + j) := by unfold cXc; rw [if_neg (by omega)]
  have ei : cXc f i j r (4 * r + i) = f (4 * r + i) := by unfold cXc; rw [if_neg (by omega)]
  rw [ei, ej]
  funext x
  by_cases e : x = 4 * r + j
  · subst e
    rw [ma_up_s]
    unfold cXc cWs
    rw [if_pos (by omega), show (4 * r + j) / 4 = r by omega, show (4 * r + j) % 4 = j by omega]
    by_cases q : j = i
    · rw [if_pos q, q]
    · rw [if_neg q, if_pos rfl]
  · rw [ma_up_n _ _ e]
    by_cases e2 : x = 4 * r + i
    · subst e2
      rw [ma_up_s]
      unfold cXc cWs
      rw [if_pos (by omega), show (4 * r + i) / 4 = r by omega, show (4 * r + i) % 4 = i by omega, if_pos rfl]
    · rw [ma_up_n _ _ e2]
      unfold cXc
      by_cases q : x / 4 < r
      · rw [if_pos q, if_pos (by omega)]
      · rw [if_neg q]
        by_cases q2 : x / 4 < r + 1
        · rw [if_pos q2]
          unfold cWs
          rw [if_neg (by omega), if_neg (by omega), show 4 * (x / 4) + x % 4 = x by omega]
        · rw [if_neg q2]
theorem cXr_s (f : Nat → Int64) {i j c : Nat} (hc : c < 4) (hi : i < 4) (hj : j < 4) : ma_up (ma_up (cXr f i j c) (4 * i + c) (cXr f i j c (4 * j + c))) (4 * j + c) (cXr f i j c (4 * i + c)) = cXr f i j (c + 1) := by
  have ej : cXr f i j c (4 * j + c) = f (4 * j + c) := by unfold cXr; rw [if_neg (by omega)]
  have ei : cXr f i j c (4 * i + c) = f (4 * i + c) := by unfold cXr; rw [if_neg (by omega)]
  rw [ei, ej]
  funext x
  by_cases e : x = 4 * j + c
  · subst e
    rw [ma_up_s]
    unfold cXr cWs
    rw [if_pos (by omega), show (4 * j + c) / 4 = j by omega, show (4 * j + c) % 4 = c by omega]
    by_cases q : j = i
    · rw [if_pos q, q]
    · rw [if_neg q, if_pos rfl]
  · rw [ma_up_n _ _ e]
    by_cases e2 : x = 4 * i + c
    · subst e2
      rw [ma_up_s]
      unfold cXr cWs
      rw [if_pos (by omega), show (4 * i + c) / 4 = i by omega, show (4 * i + c) % 4 = c by omega, if_pos rfl]
    · rw [ma_up_n _ _ e2]
      unfold cXr
      by_cases q : x % 4 < c ∧ x < 16
      · rw [if_pos q, if_pos (by omega)]
      · rw [if_neg q]
        by_cases q2 : x % 4 < c + 1 ∧ x < 16
        · rw [if_pos q2]
          unfold cWs
          rw [if_neg (by omega), if_neg (by omega), show 4 * (x / 4) + x % 4 = x by omega]
        · rw [if_neg q2]
set_option maxRecDepth 4000 in
theorem t_X4_swapLetters {g : ma_G} {Post : ma_P} {I : ma_I} {L : ma_L}  (i : Nat) (j : Nat) (hi : i < 4) (hj : j < 4) (k0 : Post none HS I (ma_up L 7 (cSwp (L 7) i j)) RF 146) : CT g yX4_swapLetters cX4_swapLetters 4 none rX4_swapLetters [.ref 6, .int (nI i), .int (nI j)] Post HS I L RF 146 := by
  refine ct_of (lv := [some (.ref 6), some (.int (nI i)), some (.int (nI j)), none]) (by decide) (Nat.le_of_ble_eq_true rfl) rfl ?_
  refine ev_iload_n (pc' := 1) (i := 1) dX4_swapLetters_0 rfl rfl rfl ?_
  refine ev_callS (pc' := 4) (rm' := rX7_noLetter) (av := [.int (nI i)]) (rest := []) co_X4_25 cs_X7_noLetter dX4_swapLetters_1 rfl rfl rfl (Nat.le_of_ble_eq_true rfl) ⟨(Nat.le_of_ble_eq_true rfl), (Nat.le_of_ble_eq_true rfl)⟩ ⟨(Nat.le_of_ble_eq_true rfl), (Nat.le_of_ble_eq_true rfl)⟩ ?_
  refine t_X7_noLetter (nI i) ?_
  refine ev_eqi (w := 0) (if_neg (no_nat (n := 4) (by omega) (by omega) rfl)) ?_
  refine ev_if_ne (tgt := 14) (pc' := 7) dX4_swapLetters_4 rfl rfl (fun h => absurd (by decide) h) (fun _ => ?_)
  refine ev_iload_n (pc' := 8) (i := 2) dX4_swapLetters_7 rfl rfl rfl ?_
  refine ev_callS (pc' := 11) (rm' := rX7_noLetter) (av := [.int (nI j)]) (rest := []) co_X4_25 cs_X7_noLetter dX4_swapLetters_8 rfl rfl rfl (Nat.le_of_ble_eq_true rfl) ⟨(Nat.le_of_ble_eq_true rfl), (Nat.le_of_ble_eq_true rfl)⟩ ⟨(Nat.le_of_ble_eq_true rfl), (Nat.le_of_ble_eq_true rfl)⟩ ?_
  refine t_X7_noLetter (nI j) ?_
  refine ev_eqi (w := 0) (if_neg (no_nat (n := 4) (by omega) (by omega) rfl)) ?_
  refine ev_if_eq (tgt := 15) (pc' := 14) dX4_swapLetters_11 rfl rfl (fun _ => ?_) (fun h => absurd (by decide) h)
  refine ev_iconst (pc' := 16) (v := 0) dX4_swapLetters_15 rfl ki_0 ?_
  refine ev_istore_n (pc' := 17) (i := 3) (lv' := [some (.ref 6), some (.int (nI i)), some (.int (nI j)), some (.int 0)]) dX4_swapLetters_16 rfl rfl (Nat.le_of_ble_eq_true rfl) rfl rfl ?_
  suffices lp2 : ∀ (x1 r : Nat), r + x1 = 4 → EV g yX4_swapLetters cX4_swapLetters 4 none rX4_swapLetters (ma_ZM g rX4_swapLetters Post) 17 [some (.ref 6), some (.int (nI i)), some (.int (nI j)), some (.int (nI r))] [] HS I (ma_up L 7 (cXc (L 7) i j r)) RF 146 0 0 by
    refine ev_memL (fun z hz => ?_)
    have hz : z = ma_up L 7 (cXc (L 7) i j 0) := hz.trans (by rw [cXc_0, ma_up_self])
    subst hz
    exact lp2 4 0 rfl
  intro x1
  induction x1 with
  | zero =>
    intro r hr
    obtain rfl : r = 4 := by omega
    refine ev_iload_n (pc' := 18) (i := 3) dX4_swapLetters_17 rfl rfl rfl ?_
    refine ev_iconst (pc' := 19) (v := 4) dX4_swapLetters_18 rfl ki_4 ?_
    refine ev_icmp_ge (tgt := 42) (pc' := 22) dX4_swapLetters_19 rfl rfl (fun _ => ?_) (fun h => absurd (nx_le (a := 4) (b := 4) (by omega) (by omega)) h)
    refine ev_iconst (pc' := 43) (v := 0) dX4_swapLetters_42 rfl ki_0 ?_
    refine ev_istore_n (pc' := 44) (i := 3) (lv' := [some (.ref 6), some (.int (nI i)), some (.int (nI j)), some (.int 0)]) dX4_swapLetters_43 rfl rfl (Nat.le_of_ble_eq_true rfl) rfl rfl ?_
    suffices lp4 : ∀ (x3 s : Nat), s + x3 = 4 → EV g yX4_swapLetters cX4_swapLetters 4 none rX4_swapLetters (ma_ZM g rX4_swapLetters Post) 44 [some (.ref 6), some (.int (nI i)), some (.int (nI j)), some (.int (nI s))] [] HS I (ma_up L 7 (cXr (cXc (L 7) i j 4) i j s)) RF 146 0 0 by
      refine ev_memL (fun z hz => ?_)
      have hz : z = ma_up L 7 (cXr (cXc (L 7) i j 4) i j 0) := hz.trans (by rw [cXr_0])
      subst hz
      exact lp4 4 0 rfl
    intro x3
    induction x3 with
    | zero =>
      intro s hs
      obtain rfl : s = 4 := by omega
      refine ev_iload_n (pc' := 45) (i := 3) dX4_swapLetters_44 rfl rfl rfl ?_
      refine ev_iconst (pc' := 46) (v := 4) dX4_swapLetters_45 rfl ki_4 ?_
      refine ev_icmp_ge (tgt := 69) (pc' := 49) dX4_swapLetters_46 rfl rfl (fun _ => ?_) (fun h => absurd (nx_le (a := 4) (b := 4) (by omega) (by omega)) h)
      refine ev_vret dX4_swapLetters_69 rfl ⟨Nat.le_refl _, Nat.le_refl _⟩ ?_
      exact k0
    | succ x3 ihx3 =>
      intro s hs
      refine ev_iload_n (pc' := 45) (i := 3) dX4_swapLetters_44 rfl rfl rfl ?_
      refine ev_iconst (pc' := 46) (v := 4) dX4_swapLetters_45 rfl ki_4 ?_
      refine ev_icmp_ge (tgt := 69) (pc' := 49) dX4_swapLetters_46 rfl rfl (fun h => absurd h (nx_nle (a := 4) (b := s) (by omega) (by omega))) (fun _ => ?_)
      refine ev_aload_n (pc' := 50) (i := 0) dX4_swapLetters_49 rfl rfl rfl ?_
      refine ev_iconst (pc' := 51) (v := 4) dX4_swapLetters_50 rfl ki_4 ?_
      refine ev_iload_n (pc' := 52) (i := 1) dX4_swapLetters_51 rfl rfl rfl ?_
      refine ev_imul (pc' := 53) (v := nI (4 * i)) dX4_swapLetters_52 rfl (pk_mul 4 i) ?_
      refine ev_iload_n (pc' := 54) (i := 3) dX4_swapLetters_53 rfl rfl rfl ?_
      refine ev_iadd (pc' := 55) (v := nI ((4 * i) + s)) dX4_swapLetters_54 rfl (nI_add (4 * i) s) ?_
      refine ev_iconst (pc' := 56) (v := 4) dX4_swapLetters_55 rfl ki_4 ?_
      refine ev_iload_n (pc' := 57) (i := 2) dX4_swapLetters_56 rfl rfl rfl ?_
      refine ev_imul (pc' := 58) (v := nI (4 * j)) dX4_swapLetters_57 rfl (pk_mul 4 j) ?_
      refine ev_iload_n (pc' := 59) (i := 3) dX4_swapLetters_58 rfl rfl rfl ?_
      refine ev_iadd (pc' := 60) (v := nI ((4 * j) + s)) dX4_swapLetters_59 rfl (nI_add (4 * j) s) ?_
      refine ev_callV (pc' := 63) (rm' := rX4_exchange) (b := 6) (av := [.int (nI ((4 * i) + s)), .int (nI ((4 * j) + s))]) (rest := []) co_X4_33 ci_X4_exchange cv_X4_exchange dX4_swapLetters_60 rfl hs_6 hb_X4 rfl rfl (Nat.le_of_ble_eq_true rfl) ⟨(Nat.le_of_ble_eq_true rfl), (Nat.le_of_ble_eq_true rfl)⟩ ⟨(Nat.le_of_ble_eq_true rfl), (Nat.le_of_ble_eq_true rfl)⟩ ?_
      refine t_X4_exchange ((4 * i) + s) ((4 * j) + s) (by omega) (by omega) ?_
      refine ev_memL (fun z hz => ?_)
      rw [ma_up_up] at hz
      have hz : z = ma_up L 7 (ma_up (ma_up (cXr (cXc (L 7) i j 4) i j s) ((4 * i) + s) ((cXr (cXc (L 7) i j 4) i j s) ((4 * j) + s))) ((4 * j) + s) ((cXr (cXc (L 7) i j 4) i j s) ((4 * i) + s))) := hz
      subst hz
      refine ev_iinc (pc' := 66) (v := nI (s + 1)) (lv' := [some (.ref 6), some (.int (nI i)), some (.int (nI j)), some (.int (nI (s + 1)))]) dX4_swapLetters_63 rfl rfl (nI_add s 1) (Nat.le_of_ble_eq_true rfl) rfl rfl ?_
      refine ev_goto (tgt := 44) dX4_swapLetters_66 rfl ?_
      refine ev_memL (fun z hz => ?_)
      have hz := hz.trans (congrArg (ma_up L 7) (cXr_s (cXc (L 7) i j 4) (by omega) (by omega) (by omega)))
      subst hz
      exact ihx3 (s + 1) (by omega)
  | succ x1 ihx1 =>
    intro r hr
    refine ev_iload_n (pc' := 18) (i := 3) dX4_swapLetters_17 rfl rfl rfl ?_
    refine ev_iconst (pc' := 19) (v := 4) dX4_swapLetters_18 rfl ki_4 ?_
    refine ev_icmp_ge (tgt := 42) (pc' := 22) dX4_swapLetters_19 rfl rfl (fun h => absurd h (nx_nle (a := 4) (b := r) (by omega) (by omega))) (fun _ => ?_)
    refine ev_aload_n (pc' := 23) (i := 0) dX4_swapLetters_22 rfl rfl rfl ?_
    refine ev_iconst (pc' := 24) (v := 4) dX4_swapLetters_23 rfl ki_4 ?_
    refine ev_iload_n (pc' := 25) (i := 3) dX4_swapLetters_24 rfl rfl rfl ?_
    refine ev_imul (pc' := 26) (v := nI (4 * r)) dX4_swapLetters_25 rfl (pk_mul 4 r) ?_
    refine ev_iload_n (pc' := 27) (i := 1) dX4_swapLetters_26 rfl rfl rfl ?_
    refine ev_iadd (pc' := 28) (v := nI ((4 * r) + i)) dX4_swapLetters_27 rfl (nI_add (4 * r) i) ?_
    refine ev_iconst (pc' := 29) (v := 4) dX4_swapLetters_28 rfl ki_4 ?_
    refine ev_iload_n (pc' := 30) (i := 3) dX4_swapLetters_29 rfl rfl rfl ?_
    refine ev_imul (pc' := 31) (v := nI (4 * r)) dX4_swapLetters_30 rfl (pk_mul 4 r) ?_
    refine ev_iload_n (pc' := 32) (i := 2) dX4_swapLetters_31 rfl rfl rfl ?_
    refine ev_iadd (pc' := 33) (v := nI ((4 * r) + j)) dX4_swapLetters_32 rfl (nI_add (4 * r) j) ?_
    refine ev_callV (pc' := 36) (rm' := rX4_exchange) (b := 6) (av := [.int (nI ((4 * r) + i)), .int (nI ((4 * r) + j))]) (rest := []) co_X4_33 ci_X4_exchange cv_X4_exchange dX4_swapLetters_33 rfl hs_6 hb_X4 rfl rfl (Nat.le_of_ble_eq_true rfl) ⟨(Nat.le_of_ble_eq_true rfl), (Nat.le_of_ble_eq_true rfl)⟩ ⟨(Nat.le_of_ble_eq_true rfl), (Nat.le_of_ble_eq_true rfl)⟩ ?_
    refine t_X4_exchange ((4 * r) + i) ((4 * r) + j) (by omega) (by omega) ?_
    refine ev_memL (fun z hz => ?_)
    rw [ma_up_up] at hz
    have hz : z = ma_up L 7 (ma_up (ma_up (cXc (L 7) i j r) ((4 * r) + i) ((cXc (L 7) i j r) ((4 * r) + j))) ((4 * r) + j) ((cXc (L 7) i j r) ((4 * r) + i))) := hz
    subst hz
    refine ev_iinc (pc' := 39) (v := nI (r + 1)) (lv' := [some (.ref 6), some (.int (nI i)), some (.int (nI j)), some (.int (nI (r + 1)))]) dX4_swapLetters_36 rfl rfl (nI_add r 1) (Nat.le_of_ble_eq_true rfl) rfl rfl ?_
    refine ev_goto (tgt := 17) dX4_swapLetters_39 rfl ?_
    refine ev_memL (fun z hz => ?_)
    have hz := hz.trans (congrArg (ma_up L 7) (cXc_s (L 7) r (by omega) (by omega)))
    subst hz
    exact ihx1 (r + 1) (by omega)
def cFar (f : Nat → Int64) (i r : Nat) : Nat → Int64 := fun x => if x % 4 = i ∧ x / 4 < r then -(f (4 * (x / 4) + 3)) else f x
theorem cFar_0 (f : Nat → Int64) (i : Nat) : cFar f i 0 = f := by funext x; unfold cFar; rw [if_neg (by omega)]
theorem cFar_s (f : Nat → Int64) {i : Nat} (r : Nat) (hi : i < 3) : ma_up (cFar f i r) (4 * r + i) (-(cFar f i r (4 * r + 3))) = cFar f i (r + 1) := by
  funext x
  by_cases e : x = 4 * r + i
  · subst e
    rw [ma_up_s]
    unfold cFar
    rw [if_neg (by omega), if_pos (by omega), show (4 * r + i) / 4 = r by omega]
  · rw [ma_up_n _ _ e]
    unfold cFar
    by_cases q : x % 4 = i ∧ x / 4 < r
    · rw [if_pos q, if_pos (by omega)]
    · rw [if_neg q, if_neg (by omega)]
set_option maxRecDepth 4000 in
theorem t_X4_putFarColumnAt {g : ma_G} {Post : ma_P} {I : ma_I} {L : ma_L}  (i : Nat) (hi : i < 3) (k0 : Post none HS I (ma_up L 7 (cFar (L 7) i 3)) RF 146) : CT g yX4_putFarColumnAt cX4_putFarColumnAt 3 none rX4_putFarColumnAt [.ref 6, .int (nI i)] Post HS I L RF 146 := by
  refine ct_of (lv := [some (.ref 6), some (.int (nI i)), none]) (by decide) (Nat.le_of_ble_eq_true rfl) rfl ?_
  refine ev_iload_n (pc' := 1) (i := 1) dX4_putFarColumnAt_0 rfl rfl rfl ?_
  refine ev_if_lt (tgt := 9) (pc' := 4) dX4_putFarColumnAt_1 rfl rfl (fun h => absurd h (nx_nlt (a := i) (b := 0) (by omega) (by omega))) (fun _ => ?_)
  refine ev_iload_n (pc' := 5) (i := 1) dX4_putFarColumnAt_4 rfl rfl rfl ?_
  refine ev_iconst (pc' := 6) (v := 2) dX4_putFarColumnAt_5 rfl ki_2 ?_
  refine ev_icmp_le (tgt := 10) (pc' := 9) dX4_putFarColumnAt_6 rfl rfl (fun _ => ?_) (fun h => absurd (nx_le (a := i) (b := 2) (by omega) (by omega)) h)
  refine ev_iconst (pc' := 11) (v := 0) dX4_putFarColumnAt_10 rfl ki_0 ?_
  refine ev_istore_n (pc' := 12) (i := 2) (lv' := [some (.ref 6), some (.int (nI i)), some (.int 0)]) dX4_putFarColumnAt_11 rfl rfl (Nat.le_of_ble_eq_true rfl) rfl rfl ?_
  suffices lp2 : ∀ (x1 r : Nat), r + x1 = 3 → EV g yX4_putFarColumnAt cX4_putFarColumnAt 3 none rX4_putFarColumnAt (ma_ZM g rX4_putFarColumnAt Post) 12 [some (.ref 6), some (.int (nI i)), some (.int (nI r))] [] HS I (ma_up L 7 (cFar (L 7) i r)) RF 146 0 0 by
    refine ev_memL (fun z hz => ?_)
    have hz : z = ma_up L 7 (cFar (L 7) i 0) := hz.trans (by rw [cFar_0, ma_up_self])
    subst hz
    exact lp2 3 0 rfl
  intro x1
  induction x1 with
  | zero =>
    intro r hr
    obtain rfl : r = 3 := by omega
    refine ev_iload_n (pc' := 13) (i := 2) dX4_putFarColumnAt_12 rfl rfl rfl ?_
    refine ev_iconst (pc' := 14) (v := 3) dX4_putFarColumnAt_13 rfl ki_3 ?_
    refine ev_icmp_ge (tgt := 44) (pc' := 17) dX4_putFarColumnAt_14 rfl rfl (fun _ => ?_) (fun h => absurd (nx_le (a := 3) (b := 3) (by omega) (by omega)) h)
    refine ev_vret dX4_putFarColumnAt_44 rfl ⟨Nat.le_refl _, Nat.le_refl _⟩ ?_
    exact k0
  | succ x1 ihx1 =>
    intro r hr
    refine ev_iload_n (pc' := 13) (i := 2) dX4_putFarColumnAt_12 rfl rfl rfl ?_
    refine ev_iconst (pc' := 14) (v := 3) dX4_putFarColumnAt_13 rfl ki_3 ?_
    refine ev_icmp_ge (tgt := 44) (pc' := 17) dX4_putFarColumnAt_14 rfl rfl (fun h => absurd h (nx_nle (a := 3) (b := r) (by omega) (by omega))) (fun _ => ?_)
    refine ev_aload_n (pc' := 18) (i := 0) dX4_putFarColumnAt_17 rfl rfl rfl ?_
    refine ev_getR (pc' := 21) fo_X4_9 dX4_putFarColumnAt_18 rfl hs_6 rfl rf_6_0 ?_
    refine ev_iconst (pc' := 22) (v := 4) dX4_putFarColumnAt_21 rfl ki_4 ?_
    refine ev_iload_n (pc' := 23) (i := 2) dX4_putFarColumnAt_22 rfl rfl rfl ?_
    refine ev_imul (pc' := 24) (v := nI (4 * r)) dX4_putFarColumnAt_23 rfl (pk_mul 4 r) ?_
    refine ev_iload_n (pc' := 25) (i := 1) dX4_putFarColumnAt_24 rfl rfl rfl ?_
    refine ev_iadd (pc' := 26) (v := nI ((4 * r) + i)) dX4_putFarColumnAt_25 rfl (nI_add (4 * r) i) ?_
    refine ev_aload_n (pc' := 27) (i := 0) dX4_putFarColumnAt_26 rfl rfl rfl ?_
    refine ev_getR (pc' := 30) fo_X4_9 dX4_putFarColumnAt_27 rfl hs_6 rfl rf_6_0 ?_
    refine ev_iconst (pc' := 31) (v := 4) dX4_putFarColumnAt_30 rfl ki_4 ?_
    refine ev_iload_n (pc' := 32) (i := 2) dX4_putFarColumnAt_31 rfl rfl rfl ?_
    refine ev_imul (pc' := 33) (v := nI (4 * r)) dX4_putFarColumnAt_32 rfl (pk_mul 4 r) ?_
    refine ev_iconst (pc' := 34) (v := 3) dX4_putFarColumnAt_33 rfl ki_3 ?_
    refine ev_iadd (pc' := 35) (v := nI ((4 * r) + 3)) dX4_putFarColumnAt_34 rfl (nI_add (4 * r) 3) ?_
    refine ev_lald (pc' := 36) (j := (4 * r) + 3) (v := (cFar (L 7) i r) ((4 * r) + 3)) dX4_putFarColumnAt_35 rfl hs_7 rfl (by omega) (Nat.le_of_ble_eq_true rfl) rfl ?_
    refine ev_lneg (pc' := 37) (v := -((cFar (L 7) i r) ((4 * r) + 3))) dX4_putFarColumnAt_36 rfl rfl ?_
    refine ev_last (pc' := 38) (j := (4 * r) + i) (L' := (ma_up L 7 (ma_up (cFar (L 7) i r) ((4 * r) + i) (-((cFar (L 7) i r) ((4 * r) + 3)))))) dX4_putFarColumnAt_37 rfl hs_7 rfl (by omega) (Nat.le_of_ble_eq_true rfl) (ma_up_up _ _ _ _) ?_
    refine ev_iinc (pc' := 41) (v := nI (r + 1)) (lv' := [some (.ref 6), some (.int (nI i)), some (.int (nI (r + 1)))]) dX4_putFarColumnAt_38 rfl rfl (nI_add r 1) (Nat.le_of_ble_eq_true rfl) rfl rfl ?_
    refine ev_goto (tgt := 12) dX4_putFarColumnAt_41 rfl ?_
    refine ev_memL (fun z hz => ?_)
    have hz := hz.trans (congrArg (ma_up L 7) (cFar_s (L 7) r (by omega)))
    subst hz
    exact ihx1 (r + 1) (by omega)
def cIx : Nat → Nat
  | 0 => 0
  | 1 => 1
  | 2 => 2
  | 3 => 3
  | 4 => 1
  | 5 => 4
  | 6 => 5
  | 7 => 6
  | 8 => 2
  | 9 => 5
  | 10 => 7
  | 11 => 8
  | 12 => 3
  | 13 => 6
  | 14 => 8
  | _ => 9
def cTe (f : Nat → Int32) : Nat → Int64 := fun j => Int32.toInt64 (f (cIx j))
set_option maxRecDepth 4000 in
theorem t_X4_readTen {g : ma_G} {Post : ma_P} {I : ma_I} {L : ma_L}  (r : Nat) (hr : HS r = (9, 16)) (k0 : ∀ R : Nat → Int64, (∀ j, j < 16 → R j = cTe (I r) j) → Post none HS I (ma_up L 7 R) RF 146) : CT g yX4_readTen cX4_readTen 3 none rX4_readTen [.ref 6, .ref r] Post HS I L RF 146 := by
  refine ct_of (lv := [some (.ref 6), some (.ref r), none]) (by decide) (Nat.le_of_ble_eq_true rfl) rfl ?_
  refine ev_iconst (pc' := 1) (v := 0) dX4_readTen_0 rfl ki_0 ?_
  refine ev_istore_n (pc' := 2) (i := 2) (lv' := [some (.ref 6), some (.ref r), some (.int 0)]) dX4_readTen_1 rfl rfl (Nat.le_of_ble_eq_true rfl) rfl rfl ?_
  refine ev_iload_n (pc' := 3) (i := 2) dX4_readTen_2 rfl rfl rfl ?_
  refine ev_bipush (pc' := 5) (v := 10) dX4_readTen_3 rfl kb_10 ?_
  refine ev_icmp_ge (tgt := 64) (pc' := 8) dX4_readTen_5 rfl rfl (fun h => absurd h (by decide)) (fun _ => ?_)
  refine ev_iload_n (pc' := 9) (i := 2) dX4_readTen_8 rfl rfl rfl ?_
  refine ev_aload_n (pc' := 10) (i := 1) dX4_readTen_9 rfl rfl rfl ?_
  refine ev_alen (pc' := 11) (v := 16) dX4_readTen_10 rfl hr (by decide) rfl ?_
  refine ev_icmp_ge (tgt := 64) (pc' := 14) dX4_readTen_11 rfl rfl (fun h => absurd h (by decide)) (fun _ => ?_)
  refine ev_aload_n (pc' := 15) (i := 0) dX4_readTen_14 rfl rfl rfl ?_
  refine ev_getR (pc' := 18) fo_X4_9 dX4_readTen_15 rfl hs_6 rfl rf_6_0 ?_
  refine ev_iconst (pc' := 19) (v := 4) dX4_readTen_18 rfl ki_4 ?_
  refine ev_getRow (pc' := 22) fn_X4_18 dX4_readTen_19 rfl ?_
  refine ev_iload_n (pc' := 23) (i := 2) dX4_readTen_22 rfl rfl rfl ?_
  refine ev_row1 (pc' := 24) (j := 0) (v := 0) dX4_readTen_23 rfl rfl (Nat.le_of_ble_eq_true rfl) rfl ?_
  refine ev_imul (pc' := 25) (v := 0) dX4_readTen_24 rfl (by decide) ?_
  refine ev_getCol (pc' := 28) fn_X4_22 dX4_readTen_25 rfl ?_
  refine ev_iload_n (pc' := 29) (i := 2) dX4_readTen_28 rfl rfl rfl ?_
  refine ev_row2 (pc' := 30) (j := 0) (v := 0) dX4_readTen_29 rfl rfl (Nat.le_of_ble_eq_true rfl) rfl ?_
  refine ev_iadd (pc' := 31) (v := 0) dX4_readTen_30 rfl (by decide) ?_
  refine ev_aload_n (pc' := 32) (i := 1) dX4_readTen_31 rfl rfl rfl ?_
  refine ev_iload_n (pc' := 33) (i := 2) dX4_readTen_32 rfl rfl rfl ?_
  refine ev_iald (pc' := 34) (j := 0) (v := (I r) 0) dX4_readTen_33 rfl hr rfl (Nat.le_of_ble_eq_true rfl) (Nat.le_of_ble_eq_true rfl) rfl ?_
  refine ev_i2l (pc' := 35) (v := Int32.toInt64 ((I r) 0)) dX4_readTen_34 rfl rfl ?_
  refine ev_last (pc' := 36) (j := 0) (L' := (ma_up L 7 (ma_up (L 7) 0 (Int32.toInt64 ((I r) 0))))) dX4_readTen_35 rfl hs_7 rfl (Nat.le_of_ble_eq_true rfl) (Nat.le_of_ble_eq_true rfl) rfl ?_
  refine ev_aload_n (pc' := 37) (i := 0) dX4_readTen_36 rfl rfl rfl ?_
  refine ev_getR (pc' := 40) fo_X4_9 dX4_readTen_37 rfl hs_6 rfl rf_6_0 ?_
  refine ev_iconst (pc' := 41) (v := 4) dX4_readTen_40 rfl ki_4 ?_
  refine ev_getCol (pc' := 44) fn_X4_22 dX4_readTen_41 rfl ?_
  refine ev_iload_n (pc' := 45) (i := 2) dX4_readTen_44 rfl rfl rfl ?_
  refine ev_row2 (pc' := 46) (j := 0) (v := 0) dX4_readTen_45 rfl rfl (Nat.le_of_ble_eq_true rfl) rfl ?_
  refine ev_imul (pc' := 47) (v := 0) dX4_readTen_46 rfl (by decide) ?_
  refine ev_getRow (pc' := 50) fn_X4_18 dX4_readTen_47 rfl ?_
  refine ev_iload_n (pc' := 51) (i := 2) dX4_readTen_50 rfl rfl rfl ?_
  refine ev_row1 (pc' := 52) (j := 0) (v := 0) dX4_readTen_51 rfl rfl (Nat.le_of_ble_eq_true rfl) rfl ?_
  refine ev_iadd (pc' := 53) (v := 0) dX4_readTen_52 rfl (by decide) ?_
  refine ev_aload_n (pc' := 54) (i := 1) dX4_readTen_53 rfl rfl rfl ?_
  refine ev_iload_n (pc' := 55) (i := 2) dX4_readTen_54 rfl rfl rfl ?_
  refine ev_iald (pc' := 56) (j := 0) (v := (I r) 0) dX4_readTen_55 rfl hr rfl (Nat.le_of_ble_eq_true rfl) (Nat.le_of_ble_eq_true rfl) rfl ?_
  refine ev_i2l (pc' := 57) (v := Int32.toInt64 ((I r) 0)) dX4_readTen_56 rfl rfl ?_
  refine ev_last (pc' := 58) (j := 0) (L' := (ma_up L 7 (ma_up (L 7) 0 (Int32.toInt64 ((I r) 0))))) dX4_readTen_57 rfl hs_7 rfl (Nat.le_of_ble_eq_true rfl) (Nat.le_of_ble_eq_true rfl) ((congrArg (ma_up _ 7) (ma_up_up _ _ _ _)).trans (ma_up_up _ _ _ _)) ?_
  refine ev_iinc (pc' := 61) (v := 1) (lv' := [some (.ref 6), some (.ref r), some (.int 1)]) dX4_readTen_58 rfl rfl (by decide) (Nat.le_of_ble_eq_true rfl) rfl rfl ?_
  refine ev_goto (tgt := 2) dX4_readTen_61 rfl ?_
  refine ev_iload_n (pc' := 3) (i := 2) dX4_readTen_2 rfl rfl rfl ?_
  refine ev_bipush (pc' := 5) (v := 10) dX4_readTen_3 rfl kb_10 ?_
  refine ev_icmp_ge (tgt := 64) (pc' := 8) dX4_readTen_5 rfl rfl (fun h => absurd h (by decide)) (fun _ => ?_)
  refine ev_iload_n (pc' := 9) (i := 2) dX4_readTen_8 rfl rfl rfl ?_
  refine ev_aload_n (pc' := 10) (i := 1) dX4_readTen_9 rfl rfl rfl ?_
  refine ev_alen (pc' := 11) (v := 16) dX4_readTen_10 rfl hr (by decide) rfl ?_
  refine ev_icmp_ge (tgt := 64) (pc' := 14) dX4_readTen_11 rfl rfl (fun h => absurd h (by decide)) (fun _ => ?_)
  refine ev_aload_n (pc' := 15) (i := 0) dX4_readTen_14 rfl rfl rfl ?_
  refine ev_getR (pc' := 18) fo_X4_9 dX4_readTen_15 rfl hs_6 rfl rf_6_0 ?_
  refine ev_iconst (pc' := 19) (v := 4) dX4_readTen_18 rfl ki_4 ?_
  refine ev_getRow (pc' := 22) fn_X4_18 dX4_readTen_19 rfl ?_
  refine ev_iload_n (pc' := 23) (i := 2) dX4_readTen_22 rfl rfl rfl ?_
  refine ev_row1 (pc' := 24) (j := 1) (v := 0) dX4_readTen_23 rfl rfl (Nat.le_of_ble_eq_true rfl) rfl ?_
  refine ev_imul (pc' := 25) (v := 0) dX4_readTen_24 rfl (by decide) ?_
  refine ev_getCol (pc' := 28) fn_X4_22 dX4_readTen_25 rfl ?_
  refine ev_iload_n (pc' := 29) (i := 2) dX4_readTen_28 rfl rfl rfl ?_
  refine ev_row2 (pc' := 30) (j := 1) (v := 1) dX4_readTen_29 rfl rfl (Nat.le_of_ble_eq_true rfl) rfl ?_
  refine ev_iadd (pc' := 31) (v := 1) dX4_readTen_30 rfl (by decide) ?_
  refine ev_aload_n (pc' := 32) (i := 1) dX4_readTen_31 rfl rfl rfl ?_
  refine ev_iload_n (pc' := 33) (i := 2) dX4_readTen_32 rfl rfl rfl ?_
  refine ev_iald (pc' := 34) (j := 1) (v := (I r) 1) dX4_readTen_33 rfl hr rfl (Nat.le_of_ble_eq_true rfl) (Nat.le_of_ble_eq_true rfl) rfl ?_
  refine ev_i2l (pc' := 35) (v := Int32.toInt64 ((I r) 1)) dX4_readTen_34 rfl rfl ?_
  refine ev_last (pc' := 36) (j := 1) (L' := (ma_up L 7 (ma_up (ma_up (L 7) 0 (Int32.toInt64 ((I r) 0))) 1 (Int32.toInt64 ((I r) 1))))) dX4_readTen_35 rfl hs_7 rfl (Nat.le_of_ble_eq_true rfl) (Nat.le_of_ble_eq_true rfl) (ma_up_up _ _ _ _) ?_
  refine ev_aload_n (pc' := 37) (i := 0) dX4_readTen_36 rfl rfl rfl ?_
  refine ev_getR (pc' := 40) fo_X4_9 dX4_readTen_37 rfl hs_6 rfl rf_6_0 ?_
  refine ev_iconst (pc' := 41) (v := 4) dX4_readTen_40 rfl ki_4 ?_
  refine ev_getCol (pc' := 44) fn_X4_22 dX4_readTen_41 rfl ?_
  refine ev_iload_n (pc' := 45) (i := 2) dX4_readTen_44 rfl rfl rfl ?_
  refine ev_row2 (pc' := 46) (j := 1) (v := 1) dX4_readTen_45 rfl rfl (Nat.le_of_ble_eq_true rfl) rfl ?_
  refine ev_imul (pc' := 47) (v := 4) dX4_readTen_46 rfl (by decide) ?_
  refine ev_getRow (pc' := 50) fn_X4_18 dX4_readTen_47 rfl ?_
  refine ev_iload_n (pc' := 51) (i := 2) dX4_readTen_50 rfl rfl rfl ?_
  refine ev_row1 (pc' := 52) (j := 1) (v := 0) dX4_readTen_51 rfl rfl (Nat.le_of_ble_eq_true rfl) rfl ?_
  refine ev_iadd (pc' := 53) (v := 4) dX4_readTen_52 rfl (by decide) ?_
  refine ev_aload_n (pc' := 54) (i := 1) dX4_readTen_53 rfl rfl rfl ?_
  refine ev_iload_n (pc' := 55) (i := 2) dX4_readTen_54 rfl rfl rfl ?_
  refine ev_iald (pc' := 56) (j := 1) (v := (I r) 1) dX4_readTen_55 rfl hr rfl (Nat.le_of_ble_eq_true rfl) (Nat.le_of_ble_eq_true rfl) rfl ?_
  refine ev_i2l (pc' := 57) (v := Int32.toInt64 ((I r) 1)) dX4_readTen_56 rfl rfl ?_
  refine ev_last (pc' := 58) (j := 4) (L' := (ma_up L 7 (ma_up (ma_up (ma_up (L 7) 0 (Int32.toInt64 ((I r) 0))) 1 (Int32.toInt64 ((I r) 1))) 4 (Int32.toInt64 ((I r) 1))))) dX4_readTen_57 rfl hs_7 rfl (Nat.le_of_ble_eq_true rfl) (Nat.le_of_ble_eq_true rfl) (ma_up_up _ _ _ _) ?_
  refine ev_iinc (pc' := 61) (v := 2) (lv' := [some (.ref 6), some (.ref r), some (.int 2)]) dX4_readTen_58 rfl rfl (by decide) (Nat.le_of_ble_eq_true rfl) rfl rfl ?_
  refine ev_goto (tgt := 2) dX4_readTen_61 rfl ?_
  refine ev_iload_n (pc' := 3) (i := 2) dX4_readTen_2 rfl rfl rfl ?_
  refine ev_bipush (pc' := 5) (v := 10) dX4_readTen_3 rfl kb_10 ?_
  refine ev_icmp_ge (tgt := 64) (pc' := 8) dX4_readTen_5 rfl rfl (fun h => absurd h (by decide)) (fun _ => ?_)
  refine ev_iload_n (pc' := 9) (i := 2) dX4_readTen_8 rfl rfl rfl ?_
  refine ev_aload_n (pc' := 10) (i := 1) dX4_readTen_9 rfl rfl rfl ?_
  refine ev_alen (pc' := 11) (v := 16) dX4_readTen_10 rfl hr (by decide) rfl ?_
  refine ev_icmp_ge (tgt := 64) (pc' := 14) dX4_readTen_11 rfl rfl (fun h => absurd h (by decide)) (fun _ => ?_)
  refine ev_aload_n (pc' := 15) (i := 0) dX4_readTen_14 rfl rfl rfl ?_
  refine ev_getR (pc' := 18) fo_X4_9 dX4_readTen_15 rfl hs_6 rfl rf_6_0 ?_
  refine ev_iconst (pc' := 19) (v := 4) dX4_readTen_18 rfl ki_4 ?_
  refine ev_getRow (pc' := 22) fn_X4_18 dX4_readTen_19 rfl ?_
  refine ev_iload_n (pc' := 23) (i := 2) dX4_readTen_22 rfl rfl rfl ?_
  refine ev_row1 (pc' := 24) (j := 2) (v := 0) dX4_readTen_23 rfl rfl (Nat.le_of_ble_eq_true rfl) rfl ?_
  refine ev_imul (pc' := 25) (v := 0) dX4_readTen_24 rfl (by decide) ?_
  refine ev_getCol (pc' := 28) fn_X4_22 dX4_readTen_25 rfl ?_
  refine ev_iload_n (pc' := 29) (i := 2) dX4_readTen_28 rfl rfl rfl ?_
  refine ev_row2 (pc' := 30) (j := 2) (v := 2) dX4_readTen_29 rfl rfl (Nat.le_of_ble_eq_true rfl) rfl ?_
  refine ev_iadd (pc' := 31) (v := 2) dX4_readTen_30 rfl (by decide) ?_
  refine ev_aload_n (pc' := 32) (i := 1) dX4_readTen_31 rfl rfl rfl ?_
  refine ev_iload_n (pc' := 33) (i := 2) dX4_readTen_32 rfl rfl rfl ?_
  refine ev_iald (pc' := 34) (j := 2) (v := (I r) 2) dX4_readTen_33 rfl hr rfl (Nat.le_of_ble_eq_true rfl) (Nat.le_of_ble_eq_true rfl) rfl ?_
  refine ev_i2l (pc' := 35) (v := Int32.toInt64 ((I r) 2)) dX4_readTen_34 rfl rfl ?_
  refine ev_last (pc' := 36) (j := 2) (L' := (ma_up L 7 (ma_up (ma_up (ma_up (ma_up (L 7) 0 (Int32.toInt64 ((I r) 0))) 1 (Int32.toInt64 ((I r) 1))) 4 (Int32.toInt64 ((I r) 1))) 2 (Int32.toInt64 ((I r) 2))))) dX4_readTen_35 rfl hs_7 rfl (Nat.le_of_ble_eq_true rfl) (Nat.le_of_ble_eq_true rfl) (ma_up_up _ _ _ _) ?_
  refine ev_aload_n (pc' := 37) (i := 0) dX4_readTen_36 rfl rfl rfl ?_
  refine ev_getR (pc' := 40) fo_X4_9 dX4_readTen_37 rfl hs_6 rfl rf_6_0 ?_
  refine ev_iconst (pc' := 41) (v := 4) dX4_readTen_40 rfl ki_4 ?_
  refine ev_getCol (pc' := 44) fn_X4_22 dX4_readTen_41 rfl ?_
  refine ev_iload_n (pc' := 45) (i := 2) dX4_readTen_44 rfl rfl rfl ?_
  refine ev_row2 (pc' := 46) (j := 2) (v := 2) dX4_readTen_45 rfl rfl (Nat.le_of_ble_eq_true rfl) rfl ?_
  refine ev_imul (pc' := 47) (v := 8) dX4_readTen_46 rfl (by decide) ?_
  refine ev_getRow (pc' := 50) fn_X4_18 dX4_readTen_47 rfl ?_
  refine ev_iload_n (pc' := 51) (i := 2) dX4_readTen_50 rfl rfl rfl ?_
  refine ev_row1 (pc' := 52) (j := 2) (v := 0) dX4_readTen_51 rfl rfl (Nat.le_of_ble_eq_true rfl) rfl ?_
  refine ev_iadd (pc' := 53) (v := 8) dX4_readTen_52 rfl (by decide) ?_
  refine ev_aload_n (pc' := 54) (i := 1) dX4_readTen_53 rfl rfl rfl ?_
  refine ev_iload_n (pc' := 55) (i := 2) dX4_readTen_54 rfl rfl rfl ?_
  refine ev_iald (pc' := 56) (j := 2) (v := (I r) 2) dX4_readTen_55 rfl hr rfl (Nat.le_of_ble_eq_true rfl) (Nat.le_of_ble_eq_true rfl) rfl ?_
  refine ev_i2l (pc' := 57) (v := Int32.toInt64 ((I r) 2)) dX4_readTen_56 rfl rfl ?_
  refine ev_last (pc' := 58) (j := 8) (L' := (ma_up L 7 (ma_up (ma_up (ma_up (ma_up (ma_up (L 7) 0 (Int32.toInt64 ((I r) 0))) 1 (Int32.toInt64 ((I r) 1))) 4 (Int32.toInt64 ((I r) 1))) 2 (Int32.toInt64 ((I r) 2))) 8 (Int32.toInt64 ((I r) 2))))) dX4_readTen_57 rfl hs_7 rfl (Nat.le_of_ble_eq_true rfl) (Nat.le_of_ble_eq_true rfl) (ma_up_up _ _ _ _) ?_
  refine ev_iinc (pc' := 61) (v := 3) (lv' := [some (.ref 6), some (.ref r), some (.int 3)]) dX4_readTen_58 rfl rfl (by decide) (Nat.le_of_ble_eq_true rfl) rfl rfl ?_
  refine ev_goto (tgt := 2) dX4_readTen_61 rfl ?_
  refine ev_iload_n (pc' := 3) (i := 2) dX4_readTen_2 rfl rfl rfl ?_
  refine ev_bipush (pc' := 5) (v := 10) dX4_readTen_3 rfl kb_10 ?_
  refine ev_icmp_ge (tgt := 64) (pc' := 8) dX4_readTen_5 rfl rfl (fun h => absurd h (by decide)) (fun _ => ?_)
  refine ev_iload_n (pc' := 9) (i := 2) dX4_readTen_8 rfl rfl rfl ?_
  refine ev_aload_n (pc' := 10) (i := 1) dX4_readTen_9 rfl rfl rfl ?_
  refine ev_alen (pc' := 11) (v := 16) dX4_readTen_10 rfl hr (by decide) rfl ?_
  refine ev_icmp_ge (tgt := 64) (pc' := 14) dX4_readTen_11 rfl rfl (fun h => absurd h (by decide)) (fun _ => ?_)
  refine ev_aload_n (pc' := 15) (i := 0) dX4_readTen_14 rfl rfl rfl ?_
  refine ev_getR (pc' := 18) fo_X4_9 dX4_readTen_15 rfl hs_6 rfl rf_6_0 ?_
  refine ev_iconst (pc' := 19) (v := 4) dX4_readTen_18 rfl ki_4 ?_
  refine ev_getRow (pc' := 22) fn_X4_18 dX4_readTen_19 rfl ?_
  refine ev_iload_n (pc' := 23) (i := 2) dX4_readTen_22 rfl rfl rfl ?_
  refine ev_row1 (pc' := 24) (j := 3) (v := 0) dX4_readTen_23 rfl rfl (Nat.le_of_ble_eq_true rfl) rfl ?_
  refine ev_imul (pc' := 25) (v := 0) dX4_readTen_24 rfl (by decide) ?_
  refine ev_getCol (pc' := 28) fn_X4_22 dX4_readTen_25 rfl ?_
  refine ev_iload_n (pc' := 29) (i := 2) dX4_readTen_28 rfl rfl rfl ?_
  refine ev_row2 (pc' := 30) (j := 3) (v := 3) dX4_readTen_29 rfl rfl (Nat.le_of_ble_eq_true rfl) rfl ?_
  refine ev_iadd (pc' := 31) (v := 3) dX4_readTen_30 rfl (by decide) ?_
  refine ev_aload_n (pc' := 32) (i := 1) dX4_readTen_31 rfl rfl rfl ?_
  refine ev_iload_n (pc' := 33) (i := 2) dX4_readTen_32 rfl rfl rfl ?_
  refine ev_iald (pc' := 34) (j := 3) (v := (I r) 3) dX4_readTen_33 rfl hr rfl (Nat.le_of_ble_eq_true rfl) (Nat.le_of_ble_eq_true rfl) rfl ?_
  refine ev_i2l (pc' := 35) (v := Int32.toInt64 ((I r) 3)) dX4_readTen_34 rfl rfl ?_
  refine ev_last (pc' := 36) (j := 3) (L' := (ma_up L 7 (ma_up (ma_up (ma_up (ma_up (ma_up (ma_up (L 7) 0 (Int32.toInt64 ((I r) 0))) 1 (Int32.toInt64 ((I r) 1))) 4 (Int32.toInt64 ((I r) 1))) 2 (Int32.toInt64 ((I r) 2))) 8 (Int32.toInt64 ((I r) 2))) 3 (Int32.toInt64 ((I r) 3))))) dX4_readTen_35 rfl hs_7 rfl (Nat.le_of_ble_eq_true rfl) (Nat.le_of_ble_eq_true rfl) (ma_up_up _ _ _ _) ?_
  refine ev_aload_n (pc' := 37) (i := 0) dX4_readTen_36 rfl rfl rfl ?_
  refine ev_getR (pc' := 40) fo_X4_9 dX4_readTen_37 rfl hs_6 rfl rf_6_0 ?_
  refine ev_iconst (pc' := 41) (v := 4) dX4_readTen_40 rfl ki_4 ?_
  refine ev_getCol (pc' := 44) fn_X4_22 dX4_readTen_41 rfl ?_
  refine ev_iload_n (pc' := 45) (i := 2) dX4_readTen_44 rfl rfl rfl ?_
  refine ev_row2 (pc' := 46) (j := 3) (v := 3) dX4_readTen_45 rfl rfl (Nat.le_of_ble_eq_true rfl) rfl ?_
  refine ev_imul (pc' := 47) (v := 12) dX4_readTen_46 rfl (by decide) ?_
  refine ev_getRow (pc' := 50) fn_X4_18 dX4_readTen_47 rfl ?_
  refine ev_iload_n (pc' := 51) (i := 2) dX4_readTen_50 rfl rfl rfl ?_
  refine ev_row1 (pc' := 52) (j := 3) (v := 0) dX4_readTen_51 rfl rfl (Nat.le_of_ble_eq_true rfl) rfl ?_
  refine ev_iadd (pc' := 53) (v := 12) dX4_readTen_52 rfl (by decide) ?_
  refine ev_aload_n (pc' := 54) (i := 1) dX4_readTen_53 rfl rfl rfl ?_
  refine ev_iload_n (pc' := 55) (i := 2) dX4_readTen_54 rfl rfl rfl ?_
  refine ev_iald (pc' := 56) (j := 3) (v := (I r) 3) dX4_readTen_55 rfl hr rfl (Nat.le_of_ble_eq_true rfl) (Nat.le_of_ble_eq_true rfl) rfl ?_
  refine ev_i2l (pc' := 57) (v := Int32.toInt64 ((I r) 3)) dX4_readTen_56 rfl rfl ?_
  refine ev_last (pc' := 58) (j := 12) (L' := (ma_up L 7 (ma_up (ma_up (ma_up (ma_up (ma_up (ma_up (ma_up (L 7) 0 (Int32.toInt64 ((I r) 0))) 1 (Int32.toInt64 ((I r) 1))) 4 (Int32.toInt64 ((I r) 1))) 2 (Int32.toInt64 ((I r) 2))) 8 (Int32.toInt64 ((I r) 2))) 3 (Int32.toInt64 ((I r) 3))) 12 (Int32.toInt64 ((I r) 3))))) dX4_readTen_57 rfl hs_7 rfl (Nat.le_of_ble_eq_true rfl) (Nat.le_of_ble_eq_true rfl) (ma_up_up _ _ _ _) ?_
  refine ev_iinc (pc' := 61) (v := 4) (lv' := [some (.ref 6), some (.ref r), some (.int 4)]) dX4_readTen_58 rfl rfl (by decide) (Nat.le_of_ble_eq_true rfl) rfl rfl ?_
  refine ev_goto (tgt := 2) dX4_readTen_61 rfl ?_
  refine ev_iload_n (pc' := 3) (i := 2) dX4_readTen_2 rfl rfl rfl ?_
  refine ev_bipush (pc' := 5) (v := 10) dX4_readTen_3 rfl kb_10 ?_
  refine ev_icmp_ge (tgt := 64) (pc' := 8) dX4_readTen_5 rfl rfl (fun h => absurd h (by decide)) (fun _ => ?_)
  refine ev_iload_n (pc' := 9) (i := 2) dX4_readTen_8 rfl rfl rfl ?_
  refine ev_aload_n (pc' := 10) (i := 1) dX4_readTen_9 rfl rfl rfl ?_
  refine ev_alen (pc' := 11) (v := 16) dX4_readTen_10 rfl hr (by decide) rfl ?_
  refine ev_icmp_ge (tgt := 64) (pc' := 14) dX4_readTen_11 rfl rfl (fun h => absurd h (by decide)) (fun _ => ?_)
  refine ev_aload_n (pc' := 15) (i := 0) dX4_readTen_14 rfl rfl rfl ?_
  refine ev_getR (pc' := 18) fo_X4_9 dX4_readTen_15 rfl hs_6 rfl rf_6_0 ?_
  refine ev_iconst (pc' := 19) (v := 4) dX4_readTen_18 rfl ki_4 ?_
  refine ev_getRow (pc' := 22) fn_X4_18 dX4_readTen_19 rfl ?_
  refine ev_iload_n (pc' := 23) (i := 2) dX4_readTen_22 rfl rfl rfl ?_
  refine ev_row1 (pc' := 24) (j := 4) (v := 1) dX4_readTen_23 rfl rfl (Nat.le_of_ble_eq_true rfl) rfl ?_
  refine ev_imul (pc' := 25) (v := 4) dX4_readTen_24 rfl (by decide) ?_
  refine ev_getCol (pc' := 28) fn_X4_22 dX4_readTen_25 rfl ?_
  refine ev_iload_n (pc' := 29) (i := 2) dX4_readTen_28 rfl rfl rfl ?_
  refine ev_row2 (pc' := 30) (j := 4) (v := 1) dX4_readTen_29 rfl rfl (Nat.le_of_ble_eq_true rfl) rfl ?_
  refine ev_iadd (pc' := 31) (v := 5) dX4_readTen_30 rfl (by decide) ?_
  refine ev_aload_n (pc' := 32) (i := 1) dX4_readTen_31 rfl rfl rfl ?_
  refine ev_iload_n (pc' := 33) (i := 2) dX4_readTen_32 rfl rfl rfl ?_
  refine ev_iald (pc' := 34) (j := 4) (v := (I r) 4) dX4_readTen_33 rfl hr rfl (Nat.le_of_ble_eq_true rfl) (Nat.le_of_ble_eq_true rfl) rfl ?_
  refine ev_i2l (pc' := 35) (v := Int32.toInt64 ((I r) 4)) dX4_readTen_34 rfl rfl ?_
  refine ev_last (pc' := 36) (j := 5) (L' := (ma_up L 7 (ma_up (ma_up (ma_up (ma_up (ma_up (ma_up (ma_up (ma_up (L 7) 0 (Int32.toInt64 ((I r) 0))) 1 (Int32.toInt64 ((I r) 1))) 4 (Int32.toInt64 ((I r) 1))) 2 (Int32.toInt64 ((I r) 2))) 8 (Int32.toInt64 ((I r) 2))) 3 (Int32.toInt64 ((I r) 3))) 12 (Int32.toInt64 ((I r) 3))) 5 (Int32.toInt64 ((I r) 4))))) dX4_readTen_35 rfl hs_7 rfl (Nat.le_of_ble_eq_true rfl) (Nat.le_of_ble_eq_true rfl) (ma_up_up _ _ _ _) ?_
  refine ev_aload_n (pc' := 37) (i := 0) dX4_readTen_36 rfl rfl rfl ?_
  refine ev_getR (pc' := 40) fo_X4_9 dX4_readTen_37 rfl hs_6 rfl rf_6_0 ?_
  refine ev_iconst (pc' := 41) (v := 4) dX4_readTen_40 rfl ki_4 ?_
  refine ev_getCol (pc' := 44) fn_X4_22 dX4_readTen_41 rfl ?_
  refine ev_iload_n (pc' := 45) (i := 2) dX4_readTen_44 rfl rfl rfl ?_
  refine ev_row2 (pc' := 46) (j := 4) (v := 1) dX4_readTen_45 rfl rfl (Nat.le_of_ble_eq_true rfl) rfl ?_
  refine ev_imul (pc' := 47) (v := 4) dX4_readTen_46 rfl (by decide) ?_
  refine ev_getRow (pc' := 50) fn_X4_18 dX4_readTen_47 rfl ?_
  refine ev_iload_n (pc' := 51) (i := 2) dX4_readTen_50 rfl rfl rfl ?_
  refine ev_row1 (pc' := 52) (j := 4) (v := 1) dX4_readTen_51 rfl rfl (Nat.le_of_ble_eq_true rfl) rfl ?_
  refine ev_iadd (pc' := 53) (v := 5) dX4_readTen_52 rfl (by decide) ?_
  refine ev_aload_n (pc' := 54) (i := 1) dX4_readTen_53 rfl rfl rfl ?_
  refine ev_iload_n (pc' := 55) (i := 2) dX4_readTen_54 rfl rfl rfl ?_
  refine ev_iald (pc' := 56) (j := 4) (v := (I r) 4) dX4_readTen_55 rfl hr rfl (Nat.le_of_ble_eq_true rfl) (Nat.le_of_ble_eq_true rfl) rfl ?_
  refine ev_i2l (pc' := 57) (v := Int32.toInt64 ((I r) 4)) dX4_readTen_56 rfl rfl ?_
  refine ev_last (pc' := 58) (j := 5) (L' := (ma_up L 7 (ma_up (ma_up (ma_up (ma_up (ma_up (ma_up (ma_up (ma_up (L 7) 0 (Int32.toInt64 ((I r) 0))) 1 (Int32.toInt64 ((I r) 1))) 4 (Int32.toInt64 ((I r) 1))) 2 (Int32.toInt64 ((I r) 2))) 8 (Int32.toInt64 ((I r) 2))) 3 (Int32.toInt64 ((I r) 3))) 12 (Int32.toInt64 ((I r) 3))) 5 (Int32.toInt64 ((I r) 4))))) dX4_readTen_57 rfl hs_7 rfl (Nat.le_of_ble_eq_true rfl) (Nat.le_of_ble_eq_true rfl) ((congrArg (ma_up _ 7) (ma_up_up _ _ _ _)).trans (ma_up_up _ _ _ _)) ?_
  refine ev_iinc (pc' := 61) (v := 5) (lv' := [some (.ref 6), some (.ref r), some (.int 5)]) dX4_readTen_58 rfl rfl (by decide) (Nat.le_of_ble_eq_true rfl) rfl rfl ?_
  refine ev_goto (tgt := 2) dX4_readTen_61 rfl ?_
  refine ev_iload_n (pc' := 3) (i := 2) dX4_readTen_2 rfl rfl rfl ?_
  refine ev_bipush (pc' := 5) (v := 10) dX4_readTen_3 rfl kb_10 ?_
  refine ev_icmp_ge (tgt := 64) (pc' := 8) dX4_readTen_5 rfl rfl (fun h => absurd h (by decide)) (fun _ => ?_)
  refine ev_iload_n (pc' := 9) (i := 2) dX4_readTen_8 rfl rfl rfl ?_
  refine ev_aload_n (pc' := 10) (i := 1) dX4_readTen_9 rfl rfl rfl ?_
  refine ev_alen (pc' := 11) (v := 16) dX4_readTen_10 rfl hr (by decide) rfl ?_
  refine ev_icmp_ge (tgt := 64) (pc' := 14) dX4_readTen_11 rfl rfl (fun h => absurd h (by decide)) (fun _ => ?_)
  refine ev_aload_n (pc' := 15) (i := 0) dX4_readTen_14 rfl rfl rfl ?_
  refine ev_getR (pc' := 18) fo_X4_9 dX4_readTen_15 rfl hs_6 rfl rf_6_0 ?_
  refine ev_iconst (pc' := 19) (v := 4) dX4_readTen_18 rfl ki_4 ?_
  refine ev_getRow (pc' := 22) fn_X4_18 dX4_readTen_19 rfl ?_
  refine ev_iload_n (pc' := 23) (i := 2) dX4_readTen_22 rfl rfl rfl ?_
  refine ev_row1 (pc' := 24) (j := 5) (v := 1) dX4_readTen_23 rfl rfl (Nat.le_of_ble_eq_true rfl) rfl ?_
  refine ev_imul (pc' := 25) (v := 4) dX4_readTen_24 rfl (by decide) ?_
  refine ev_getCol (pc' := 28) fn_X4_22 dX4_readTen_25 rfl ?_
  refine ev_iload_n (pc' := 29) (i := 2) dX4_readTen_28 rfl rfl rfl ?_
  refine ev_row2 (pc' := 30) (j := 5) (v := 2) dX4_readTen_29 rfl rfl (Nat.le_of_ble_eq_true rfl) rfl ?_
  refine ev_iadd (pc' := 31) (v := 6) dX4_readTen_30 rfl (by decide) ?_
  refine ev_aload_n (pc' := 32) (i := 1) dX4_readTen_31 rfl rfl rfl ?_
  refine ev_iload_n (pc' := 33) (i := 2) dX4_readTen_32 rfl rfl rfl ?_
  refine ev_iald (pc' := 34) (j := 5) (v := (I r) 5) dX4_readTen_33 rfl hr rfl (Nat.le_of_ble_eq_true rfl) (Nat.le_of_ble_eq_true rfl) rfl ?_
  refine ev_i2l (pc' := 35) (v := Int32.toInt64 ((I r) 5)) dX4_readTen_34 rfl rfl ?_
  refine ev_last (pc' := 36) (j := 6) (L' := (ma_up L 7 (ma_up (ma_up (ma_up (ma_up (ma_up (ma_up (ma_up (ma_up (ma_up (L 7) 0 (Int32.toInt64 ((I r) 0))) 1 (Int32.toInt64 ((I r) 1))) 4 (Int32.toInt64 ((I r) 1))) 2 (Int32.toInt64 ((I r) 2))) 8 (Int32.toInt64 ((I r) 2))) 3 (Int32.toInt64 ((I r) 3))) 12 (Int32.toInt64 ((I r) 3))) 5 (Int32.toInt64 ((I r) 4))) 6 (Int32.toInt64 ((I r) 5))))) dX4_readTen_35 rfl hs_7 rfl (Nat.le_of_ble_eq_true rfl) (Nat.le_of_ble_eq_true rfl) (ma_up_up _ _ _ _) ?_
  refine ev_aload_n (pc' := 37) (i := 0) dX4_readTen_36 rfl rfl rfl ?_
  refine ev_getR (pc' := 40) fo_X4_9 dX4_readTen_37 rfl hs_6 rfl rf_6_0 ?_
  refine ev_iconst (pc' := 41) (v := 4) dX4_readTen_40 rfl ki_4 ?_
  refine ev_getCol (pc' := 44) fn_X4_22 dX4_readTen_41 rfl ?_
  refine ev_iload_n (pc' := 45) (i := 2) dX4_readTen_44 rfl rfl rfl ?_
  refine ev_row2 (pc' := 46) (j := 5) (v := 2) dX4_readTen_45 rfl rfl (Nat.le_of_ble_eq_true rfl) rfl ?_
  refine ev_imul (pc' := 47) (v := 8) dX4_readTen_46 rfl (by decide) ?_
  refine ev_getRow (pc' := 50) fn_X4_18 dX4_readTen_47 rfl ?_
  refine ev_iload_n (pc' := 51) (i := 2) dX4_readTen_50 rfl rfl rfl ?_
  refine ev_row1 (pc' := 52) (j := 5) (v := 1) dX4_readTen_51 rfl rfl (Nat.le_of_ble_eq_true rfl) rfl ?_
  refine ev_iadd (pc' := 53) (v := 9) dX4_readTen_52 rfl (by decide) ?_
  refine ev_aload_n (pc' := 54) (i := 1) dX4_readTen_53 rfl rfl rfl ?_
  refine ev_iload_n (pc' := 55) (i := 2) dX4_readTen_54 rfl rfl rfl ?_
  refine ev_iald (pc' := 56) (j := 5) (v := (I r) 5) dX4_readTen_55 rfl hr rfl (Nat.le_of_ble_eq_true rfl) (Nat.le_of_ble_eq_true rfl) rfl ?_
  refine ev_i2l (pc' := 57) (v := Int32.toInt64 ((I r) 5)) dX4_readTen_56 rfl rfl ?_
  refine ev_last (pc' := 58) (j := 9) (L' := (ma_up L 7 (ma_up (ma_up (ma_up (ma_up (ma_up (ma_up (ma_up (ma_up (ma_up (ma_up (L 7) 0 (Int32.toInt64 ((I r) 0))) 1 (Int32.toInt64 ((I r) 1))) 4 (Int32.toInt64 ((I r) 1))) 2 (Int32.toInt64 ((I r) 2))) 8 (Int32.toInt64 ((I r) 2))) 3 (Int32.toInt64 ((I r) 3))) 12 (Int32.toInt64 ((I r) 3))) 5 (Int32.toInt64 ((I r) 4))) 6 (Int32.toInt64 ((I r) 5))) 9 (Int32.toInt64 ((I r) 5))))) dX4_readTen_57 rfl hs_7 rfl (Nat.le_of_ble_eq_true rfl) (Nat.le_of_ble_eq_true rfl) (ma_up_up _ _ _ _) ?_
  refine ev_iinc (pc' := 61) (v := 6) (lv' := [some (.ref 6), some (.ref r), some (.int 6)]) dX4_readTen_58 rfl rfl (by decide) (Nat.le_of_ble_eq_true rfl) rfl rfl ?_
  refine ev_goto (tgt := 2) dX4_readTen_61 rfl ?_
  refine ev_iload_n (pc' := 3) (i := 2) dX4_readTen_2 rfl rfl rfl ?_
  refine ev_bipush (pc' := 5) (v := 10) dX4_readTen_3 rfl kb_10 ?_
  refine ev_icmp_ge (tgt := 64) (pc' := 8) dX4_readTen_5 rfl rfl (fun h => absurd h (by decide)) (fun _ => ?_)
  refine ev_iload_n (pc' := 9) (i := 2) dX4_readTen_8 rfl rfl rfl ?_
  refine ev_aload_n (pc' := 10) (i := 1) dX4_readTen_9 rfl rfl rfl ?_
  refine ev_alen (pc' := 11) (v := 16) dX4_readTen_10 rfl hr (by decide) rfl ?_
  refine ev_icmp_ge (tgt := 64) (pc' := 14) dX4_readTen_11 rfl rfl (fun h => absurd h (by decide)) (fun _ => ?_)
  refine ev_aload_n (pc' := 15) (i := 0) dX4_readTen_14 rfl rfl rfl ?_
  refine ev_getR (pc' := 18) fo_X4_9 dX4_readTen_15 rfl hs_6 rfl rf_6_0 ?_
  refine ev_iconst (pc' := 19) (v := 4) dX4_readTen_18 rfl ki_4 ?_
  refine ev_getRow (pc' := 22) fn_X4_18 dX4_readTen_19 rfl ?_
  refine ev_iload_n (pc' := 23) (i := 2) dX4_readTen_22 rfl rfl rfl ?_
  refine ev_row1 (pc' := 24) (j := 6) (v := 1) dX4_readTen_23 rfl rfl (Nat.le_of_ble_eq_true rfl) rfl ?_
  refine ev_imul (pc' := 25) (v := 4) dX4_readTen_24 rfl (by decide) ?_
  refine ev_getCol (pc' := 28) fn_X4_22 dX4_readTen_25 rfl ?_
  refine ev_iload_n (pc' := 29) (i := 2) dX4_readTen_28 rfl rfl rfl ?_
  refine ev_row2 (pc' := 30) (j := 6) (v := 3) dX4_readTen_29 rfl rfl (Nat.le_of_ble_eq_true rfl) rfl ?_
  refine ev_iadd (pc' := 31) (v := 7) dX4_readTen_30 rfl (by decide) ?_
  refine ev_aload_n (pc' := 32) (i := 1) dX4_readTen_31 rfl rfl rfl ?_
  refine ev_iload_n (pc' := 33) (i := 2) dX4_readTen_32 rfl rfl rfl ?_
  refine ev_iald (pc' := 34) (j := 6) (v := (I r) 6) dX4_readTen_33 rfl hr rfl (Nat.le_of_ble_eq_true rfl) (Nat.le_of_ble_eq_true rfl) rfl ?_
  refine ev_i2l (pc' := 35) (v := Int32.toInt64 ((I r) 6)) dX4_readTen_34 rfl rfl ?_
  refine ev_last (pc' := 36) (j := 7) (L' := (ma_up L 7 (ma_up (ma_up (ma_up (ma_up (ma_up (ma_up (ma_up (ma_up (ma_up (ma_up (ma_up (L 7) 0 (Int32.toInt64 ((I r) 0))) 1 (Int32.toInt64 ((I r) 1))) 4 (Int32.toInt64 ((I r) 1))) 2 (Int32.toInt64 ((I r) 2))) 8 (Int32.toInt64 ((I r) 2))) 3 (Int32.toInt64 ((I r) 3))) 12 (Int32.toInt64 ((I r) 3))) 5 (Int32.toInt64 ((I r) 4))) 6 (Int32.toInt64 ((I r) 5))) 9 (Int32.toInt64 ((I r) 5))) 7 (Int32.toInt64 ((I r) 6))))) dX4_readTen_35 rfl hs_7 rfl (Nat.le_of_ble_eq_true rfl) (Nat.le_of_ble_eq_true rfl) (ma_up_up _ _ _ _) ?_
  refine ev_aload_n (pc' := 37) (i := 0) dX4_readTen_36 rfl rfl rfl ?_
  refine ev_getR (pc' := 40) fo_X4_9 dX4_readTen_37 rfl hs_6 rfl rf_6_0 ?_
  refine ev_iconst (pc' := 41) (v := 4) dX4_readTen_40 rfl ki_4 ?_
  refine ev_getCol (pc' := 44) fn_X4_22 dX4_readTen_41 rfl ?_
  refine ev_iload_n (pc' := 45) (i := 2) dX4_readTen_44 rfl rfl rfl ?_
  refine ev_row2 (pc' := 46) (j := 6) (v := 3) dX4_readTen_45 rfl rfl (Nat.le_of_ble_eq_true rfl) rfl ?_
  refine ev_imul (pc' := 47) (v := 12) dX4_readTen_46 rfl (by decide) ?_
  refine ev_getRow (pc' := 50) fn_X4_18 dX4_readTen_47 rfl ?_
  refine ev_iload_n (pc' := 51) (i := 2) dX4_readTen_50 rfl rfl rfl ?_
  refine ev_row1 (pc' := 52) (j := 6) (v := 1) dX4_readTen_51 rfl rfl (Nat.le_of_ble_eq_true rfl) rfl ?_
  refine ev_iadd (pc' := 53) (v := 13) dX4_readTen_52 rfl (by decide) ?_
  refine ev_aload_n (pc' := 54) (i := 1) dX4_readTen_53 rfl rfl rfl ?_
  refine ev_iload_n (pc' := 55) (i := 2) dX4_readTen_54 rfl rfl rfl ?_
  refine ev_iald (pc' := 56) (j := 6) (v := (I r) 6) dX4_readTen_55 rfl hr rfl (Nat.le_of_ble_eq_true rfl) (Nat.le_of_ble_eq_true rfl) rfl ?_
  refine ev_i2l (pc' := 57) (v := Int32.toInt64 ((I r) 6)) dX4_readTen_56 rfl rfl ?_
  refine ev_last (pc' := 58) (j := 13) (L' := (ma_up L 7 (ma_up (ma_up (ma_up (ma_up (ma_up (ma_up (ma_up (ma_up (ma_up (ma_up (ma_up (ma_up (L 7) 0 (Int32.toInt64 ((I r) 0))) 1 (Int32.toInt64 ((I r) 1))) 4 (Int32.toInt64 ((I r) 1))) 2 (Int32.toInt64 ((I r) 2))) 8 (Int32.toInt64 ((I r) 2))) 3 (Int32.toInt64 ((I r) 3))) 12 (Int32.toInt64 ((I r) 3))) 5 (Int32.toInt64 ((I r) 4))) 6 (Int32.toInt64 ((I r) 5))) 9 (Int32.toInt64 ((I r) 5))) 7 (Int32.toInt64 ((I r) 6))) 13 (Int32.toInt64 ((I r) 6))))) dX4_readTen_57 rfl hs_7 rfl (Nat.le_of_ble_eq_true rfl) (Nat.le_of_ble_eq_true rfl) (ma_up_up _ _ _ _) ?_
  refine ev_iinc (pc' := 61) (v := 7) (lv' := [some (.ref 6), some (.ref r), some (.int 7)]) dX4_readTen_58 rfl rfl (by decide) (Nat.le_of_ble_eq_true rfl) rfl rfl ?_
  refine ev_goto (tgt := 2) dX4_readTen_61 rfl ?_
  refine ev_iload_n (pc' := 3) (i := 2) dX4_readTen_2 rfl rfl rfl ?_
  refine ev_bipush (pc' := 5) (v := 10) dX4_readTen_3 rfl kb_10 ?_
  refine ev_icmp_ge (tgt := 64) (pc' := 8) dX4_readTen_5 rfl rfl (fun h => absurd h (by decide)) (fun _ => ?_)
  refine ev_iload_n (pc' := 9) (i := 2) dX4_readTen_8 rfl rfl rfl ?_
  refine ev_aload_n (pc' := 10) (i := 1) dX4_readTen_9 rfl rfl rfl ?_
  refine ev_alen (pc' := 11) (v := 16) dX4_readTen_10 rfl hr (by decide) rfl ?_
  refine ev_icmp_ge (tgt := 64) (pc' := 14) dX4_readTen_11 rfl rfl (fun h => absurd h (by decide)) (fun _ => ?_)
  refine ev_aload_n (pc' := 15) (i := 0) dX4_readTen_14 rfl rfl rfl ?_
  refine ev_getR (pc' := 18) fo_X4_9 dX4_readTen_15 rfl hs_6 rfl rf_6_0 ?_
  refine ev_iconst (pc' := 19) (v := 4) dX4_readTen_18 rfl ki_4 ?_
  refine ev_getRow (pc' := 22) fn_X4_18 dX4_readTen_19 rfl ?_
  refine ev_iload_n (pc' := 23) (i := 2) dX4_readTen_22 rfl rfl rfl ?_
  refine ev_row1 (pc' := 24) (j := 7) (v := 2) dX4_readTen_23 rfl rfl (Nat.le_of_ble_eq_true rfl) rfl ?_
  refine ev_imul (pc' := 25) (v := 8) dX4_readTen_24 rfl (by decide) ?_
  refine ev_getCol (pc' := 28) fn_X4_22 dX4_readTen_25 rfl ?_
  refine ev_iload_n (pc' := 29) (i := 2) dX4_readTen_28 rfl rfl rfl ?_
  refine ev_row2 (pc' := 30) (j := 7) (v := 2) dX4_readTen_29 rfl rfl (Nat.le_of_ble_eq_true rfl) rfl ?_
  refine ev_iadd (pc' := 31) (v := 10) dX4_readTen_30 rfl (by decide) ?_
  refine ev_aload_n (pc' := 32) (i := 1) dX4_readTen_31 rfl rfl rfl ?_
  refine ev_iload_n (pc' := 33) (i := 2) dX4_readTen_32 rfl rfl rfl ?_
  refine ev_iald (pc' := 34) (j := 7) (v := (I r) 7) dX4_readTen_33 rfl hr rfl (Nat.le_of_ble_eq_true rfl) (Nat.le_of_ble_eq_true rfl) rfl ?_
  refine ev_i2l (pc' := 35) (v := Int32.toInt64 ((I r) 7)) dX4_readTen_34 rfl rfl ?_
  refine ev_last (pc' := 36) (j := 10) (L' := (ma_up L 7 (ma_up (ma_up (ma_up (ma_up (ma_up (ma_up (ma_up (ma_up (ma_up (ma_up (ma_up (ma_up (ma_up (L 7) 0 (Int32.toInt64 ((I r) 0))) 1 (Int32.toInt64 ((I r) 1))) 4 (Int32.toInt64 ((I r) 1))) 2 (Int32.toInt64 ((I r) 2))) 8 (Int32.toInt64 ((I r) 2))) 3 (Int32.toInt64 ((I r) 3))) 12 (Int32.toInt64 ((I r) 3))) 5 (Int32.toInt64 ((I r) 4))) 6 (Int32.toInt64 ((I r) 5))) 9 (Int32.toInt64 ((I r) 5))) 7 (Int32.toInt64 ((I r) 6))) 13 (Int32.toInt64 ((I r) 6))) 10 (Int32.toInt64 ((I r) 7))))) dX4_readTen_35 rfl hs_7 rfl (Nat.le_of_ble_eq_true rfl) (Nat.le_of_ble_eq_true rfl) (ma_up_up _ _ _ _) ?_
  refine ev_aload_n (pc' := 37) (i := 0) dX4_readTen_36 rfl rfl rfl ?_
  refine ev_getR (pc' := 40) fo_X4_9 dX4_readTen_37 rfl hs_6 rfl rf_6_0 ?_
  refine ev_iconst (pc' := 41) (v := 4) dX4_readTen_40 rfl ki_4 ?_
  refine ev_getCol (pc' := 44) fn_X4_22 dX4_readTen_41 rfl ?_
  refine ev_iload_n (pc' := 45) (i := 2) dX4_readTen_44 rfl rfl rfl ?_
  refine ev_row2 (pc' := 46) (j := 7) (v := 2) dX4_readTen_45 rfl rfl (Nat.le_of_ble_eq_true rfl) rfl ?_
  refine ev_imul (pc' := 47) (v := 8) dX4_readTen_46 rfl (by decide) ?_
  refine ev_getRow (pc' := 50) fn_X4_18 dX4_readTen_47 rfl ?_
  refine ev_iload_n (pc' := 51) (i := 2) dX4_readTen_50 rfl rfl rfl ?_
  refine ev_row1 (pc' := 52) (j := 7) (v := 2) dX4_readTen_51 rfl rfl (Nat.le_of_ble_eq_true rfl) rfl ?_
  refine ev_iadd (pc' := 53) (v := 10) dX4_readTen_52 rfl (by decide) ?_
  refine ev_aload_n (pc' := 54) (i := 1) dX4_readTen_53 rfl rfl rfl ?_
  refine ev_iload_n (pc' := 55) (i := 2) dX4_readTen_54 rfl rfl rfl ?_
  refine ev_iald (pc' := 56) (j := 7) (v := (I r) 7) dX4_readTen_55 rfl hr rfl (Nat.le_of_ble_eq_true rfl) (Nat.le_of_ble_eq_true rfl) rfl ?_
  refine ev_i2l (pc' := 57) (v := Int32.toInt64 ((I r) 7)) dX4_readTen_56 rfl rfl ?_
  refine ev_last (pc' := 58) (j := 10) (L' := (ma_up L 7 (ma_up (ma_up (ma_up (ma_up (ma_up (ma_up (ma_up (ma_up (ma_up (ma_up (ma_up (ma_up (ma_up (L 7) 0 (Int32.toInt64 ((I r) 0))) 1 (Int32.toInt64 ((I r) 1))) 4 (Int32.toInt64 ((I r) 1))) 2 (Int32.toInt64 ((I r) 2))) 8 (Int32.toInt64 ((I r) 2))) 3 (Int32.toInt64 ((I r) 3))) 12 (Int32.toInt64 ((I r) 3))) 5 (Int32.toInt64 ((I r) 4))) 6 (Int32.toInt64 ((I r) 5))) 9 (Int32.toInt64 ((I r) 5))) 7 (Int32.toInt64 ((I r) 6))) 13 (Int32.toInt64 ((I r) 6))) 10 (Int32.toInt64 ((I r) 7))))) dX4_readTen_57 rfl hs_7 rfl (Nat.le_of_ble_eq_true rfl) (Nat.le_of_ble_eq_true rfl) ((congrArg (ma_up _ 7) (ma_up_up _ _ _ _)).trans (ma_up_up _ _ _ _)) ?_
  refine ev_iinc (pc' := 61) (v := 8) (lv' := [some (.ref 6), some (.ref r), some (.int 8)]) dX4_readTen_58 rfl rfl (by decide) (Nat.le_of_ble_eq_true rfl) rfl rfl ?_
  refine ev_goto (tgt := 2) dX4_readTen_61 rfl ?_
  refine ev_iload_n (pc' := 3) (i := 2) dX4_readTen_2 rfl rfl rfl ?_
  refine ev_bipush (pc' := 5) (v := 10) dX4_readTen_3 rfl kb_10 ?_
  refine ev_icmp_ge (tgt := 64) (pc' := 8) dX4_readTen_5 rfl rfl (fun h => absurd h (by decide)) (fun _ => ?_)
  refine ev_iload_n (pc' := 9) (i := 2) dX4_readTen_8 rfl rfl rfl ?_
  refine ev_aload_n (pc' := 10) (i := 1) dX4_readTen_9 rfl rfl rfl ?_
  refine ev_alen (pc' := 11) (v := 16) dX4_readTen_10 rfl hr (by decide) rfl ?_
  refine ev_icmp_ge (tgt := 64) (pc' := 14) dX4_readTen_11 rfl rfl (fun h => absurd h (by decide)) (fun _ => ?_)
  refine ev_aload_n (pc' := 15) (i := 0) dX4_readTen_14 rfl rfl rfl ?_
  refine ev_getR (pc' := 18) fo_X4_9 dX4_readTen_15 rfl hs_6 rfl rf_6_0 ?_
  refine ev_iconst (pc' := 19) (v := 4) dX4_readTen_18 rfl ki_4 ?_
  refine ev_getRow (pc' := 22) fn_X4_18 dX4_readTen_19 rfl ?_
  refine ev_iload_n (pc' := 23) (i := 2) dX4_readTen_22 rfl rfl rfl ?_
  refine ev_row1 (pc' := 24) (j := 8) (v := 2) dX4_readTen_23 rfl rfl (Nat.le_of_ble_eq_true rfl) rfl ?_
  refine ev_imul (pc' := 25) (v := 8) dX4_readTen_24 rfl (by decide) ?_
  refine ev_getCol (pc' := 28) fn_X4_22 dX4_readTen_25 rfl ?_
  refine ev_iload_n (pc' := 29) (i := 2) dX4_readTen_28 rfl rfl rfl ?_
  refine ev_row2 (pc' := 30) (j := 8) (v := 3) dX4_readTen_29 rfl rfl (Nat.le_of_ble_eq_true rfl) rfl ?_
  refine ev_iadd (pc' := 31) (v := 11) dX4_readTen_30 rfl (by decide) ?_
  refine ev_aload_n (pc' := 32) (i := 1) dX4_readTen_31 rfl rfl rfl ?_
  refine ev_iload_n (pc' := 33) (i := 2) dX4_readTen_32 rfl rfl rfl ?_
  refine ev_iald (pc' := 34) (j := 8) (v := (I r) 8) dX4_readTen_33 rfl hr rfl (Nat.le_of_ble_eq_true rfl) (Nat.le_of_ble_eq_true rfl) rfl ?_
  refine ev_i2l (pc' := 35) (v := Int32.toInt64 ((I r) 8)) dX4_readTen_34 rfl rfl ?_
  refine ev_last (pc' := 36) (j := 11) (L' := (ma_up L 7 (ma_up (ma_up (ma_up (ma_up (ma_up (ma_up (ma_up (ma_up (ma_up (ma_up (ma_up (ma_up (ma_up (ma_up (L 7) 0 (Int32.toInt64 ((I r) 0))) 1 (Int32.toInt64 ((I r) 1))) 4 (Int32.toInt64 ((I r) 1))) 2 (Int32.toInt64 ((I r) 2))) 8 (Int32.toInt64 ((I r) 2))) 3 (Int32.toInt64 ((I r) 3))) 12 (Int32.toInt64 ((I r) 3))) 5 (Int32.toInt64 ((I r) 4))) 6 (Int32.toInt64 ((I r) 5))) 9 (Int32.toInt64 ((I r) 5))) 7 (Int32.toInt64 ((I r) 6))) 13 (Int32.toInt64 ((I r) 6))) 10 (Int32.toInt64 ((I r) 7))) 11 (Int32.toInt64 ((I r) 8))))) dX4_readTen_35 rfl hs_7 rfl (Nat.le_of_ble_eq_true rfl) (Nat.le_of_ble_eq_true rfl) (ma_up_up _ _ _ _) ?_
  refine ev_aload_n (pc' := 37) (i := 0) dX4_readTen_36 rfl rfl rfl ?_
  refine ev_getR (pc' := 40) fo_X4_9 dX4_readTen_37 rfl hs_6 rfl rf_6_0 ?_
  refine ev_iconst (pc' := 41) (v := 4) dX4_readTen_40 rfl ki_4 ?_
  refine ev_getCol (pc' := 44) fn_X4_22 dX4_readTen_41 rfl ?_
  refine ev_iload_n (pc' := 45) (i := 2) dX4_readTen_44 rfl rfl rfl ?_
  refine ev_row2 (pc' := 46) (j := 8) (v := 3) dX4_readTen_45 rfl rfl (Nat.le_of_ble_eq_true rfl) rfl ?_
  refine ev_imul (pc' := 47) (v := 12) dX4_readTen_46 rfl (by decide) ?_
  refine ev_getRow (pc' := 50) fn_X4_18 dX4_readTen_47 rfl ?_
  refine ev_iload_n (pc' := 51) (i := 2) dX4_readTen_50 rfl rfl rfl ?_
  refine ev_row1 (pc' := 52) (j := 8) (v := 2) dX4_readTen_51 rfl rfl (Nat.le_of_ble_eq_true rfl) rfl ?_
  refine ev_iadd (pc' := 53) (v := 14) dX4_readTen_52 rfl (by decide) ?_
  refine ev_aload_n (pc' := 54) (i := 1) dX4_readTen_53 rfl rfl rfl ?_
  refine ev_iload_n (pc' := 55) (i := 2) dX4_readTen_54 rfl rfl rfl ?_
  refine ev_iald (pc' := 56) (j := 8) (v := (I r) 8) dX4_readTen_55 rfl hr rfl (Nat.le_of_ble_eq_true rfl) (Nat.le_of_ble_eq_true rfl) rfl ?_
  refine ev_i2l (pc' := 57) (v := Int32.toInt64 ((I r) 8)) dX4_readTen_56 rfl rfl ?_
  refine ev_last (pc' := 58) (j := 14) (L' := (ma_up L 7 (ma_up (ma_up (ma_up (ma_up (ma_up (ma_up (ma_up (ma_up (ma_up (ma_up (ma_up (ma_up (ma_up (ma_up (ma_up (L 7) 0 (Int32.toInt64 ((I r) 0))) 1 (Int32.toInt64 ((I r) 1))) 4 (Int32.toInt64 ((I r) 1))) 2 (Int32.toInt64 ((I r) 2))) 8 (Int32.toInt64 ((I r) 2))) 3 (Int32.toInt64 ((I r) 3))) 12 (Int32.toInt64 ((I r) 3))) 5 (Int32.toInt64 ((I r) 4))) 6 (Int32.toInt64 ((I r) 5))) 9 (Int32.toInt64 ((I r) 5))) 7 (Int32.toInt64 ((I r) 6))) 13 (Int32.toInt64 ((I r) 6))) 10 (Int32.toInt64 ((I r) 7))) 11 (Int32.toInt64 ((I r) 8))) 14 (Int32.toInt64 ((I r) 8))))) dX4_readTen_57 rfl hs_7 rfl (Nat.le_of_ble_eq_true rfl) (Nat.le_of_ble_eq_true rfl) (ma_up_up _ _ _ _) ?_
  refine ev_iinc (pc' := 61) (v := 9) (lv' := [some (.ref 6), some (.ref r), some (.int 9)]) dX4_readTen_58 rfl rfl (by decide) (Nat.le_of_ble_eq_true rfl) rfl rfl ?_
  refine ev_goto (tgt := 2) dX4_readTen_61 rfl ?_
  refine ev_iload_n (pc' := 3) (i := 2) dX4_readTen_2 rfl rfl rfl ?_
  refine ev_bipush (pc' := 5) (v := 10) dX4_readTen_3 rfl kb_10 ?_
  refine ev_icmp_ge (tgt := 64) (pc' := 8) dX4_readTen_5 rfl rfl (fun h => absurd h (by decide)) (fun _ => ?_)
  refine ev_iload_n (pc' := 9) (i := 2) dX4_readTen_8 rfl rfl rfl ?_
  refine ev_aload_n (pc' := 10) (i := 1) dX4_readTen_9 rfl rfl rfl ?_
  refine ev_alen (pc' := 11) (v := 16) dX4_readTen_10 rfl hr (by decide) rfl ?_
  refine ev_icmp_ge (tgt := 64) (pc' := 14) dX4_readTen_11 rfl rfl (fun h => absurd h (by decide)) (fun _ => ?_)
  refine ev_aload_n (pc' := 15) (i := 0) dX4_readTen_14 rfl rfl rfl ?_
  refine ev_getR (pc' := 18) fo_X4_9 dX4_readTen_15 rfl hs_6 rfl rf_6_0 ?_
  refine ev_iconst (pc' := 19) (v := 4) dX4_readTen_18 rfl ki_4 ?_
  refine ev_getRow (pc' := 22) fn_X4_18 dX4_readTen_19 rfl ?_
  refine ev_iload_n (pc' := 23) (i := 2) dX4_readTen_22 rfl rfl rfl ?_
  refine ev_row1 (pc' := 24) (j := 9) (v := 3) dX4_readTen_23 rfl rfl (Nat.le_of_ble_eq_true rfl) rfl ?_
  refine ev_imul (pc' := 25) (v := 12) dX4_readTen_24 rfl (by decide) ?_
  refine ev_getCol (pc' := 28) fn_X4_22 dX4_readTen_25 rfl ?_
  refine ev_iload_n (pc' := 29) (i := 2) dX4_readTen_28 rfl rfl rfl ?_
  refine ev_row2 (pc' := 30) (j := 9) (v := 3) dX4_readTen_29 rfl rfl (Nat.le_of_ble_eq_true rfl) rfl ?_
  refine ev_iadd (pc' := 31) (v := 15) dX4_readTen_30 rfl (by decide) ?_
  refine ev_aload_n (pc' := 32) (i := 1) dX4_readTen_31 rfl rfl rfl ?_
  refine ev_iload_n (pc' := 33) (i := 2) dX4_readTen_32 rfl rfl rfl ?_
  refine ev_iald (pc' := 34) (j := 9) (v := (I r) 9) dX4_readTen_33 rfl hr rfl (Nat.le_of_ble_eq_true rfl) (Nat.le_of_ble_eq_true rfl) rfl ?_
  refine ev_i2l (pc' := 35) (v := Int32.toInt64 ((I r) 9)) dX4_readTen_34 rfl rfl ?_
  refine ev_last (pc' := 36) (j := 15) (L' := (ma_up L 7 (ma_up (ma_up (ma_up (ma_up (ma_up (ma_up (ma_up (ma_up (ma_up (ma_up (ma_up (ma_up (ma_up (ma_up (ma_up (ma_up (L 7) 0 (Int32.toInt64 ((I r) 0))) 1 (Int32.toInt64 ((I r) 1))) 4 (Int32.toInt64 ((I r) 1))) 2 (Int32.toInt64 ((I r) 2))) 8 (Int32.toInt64 ((I r) 2))) 3 (Int32.toInt64 ((I r) 3))) 12 (Int32.toInt64 ((I r) 3))) 5 (Int32.toInt64 ((I r) 4))) 6 (Int32.toInt64 ((I r) 5))) 9 (Int32.toInt64 ((I r) 5))) 7 (Int32.toInt64 ((I r) 6))) 13 (Int32.toInt64 ((I r) 6))) 10 (Int32.toInt64 ((I r) 7))) 11 (Int32.toInt64 ((I r) 8))) 14 (Int32.toInt64 ((I r) 8))) 15 (Int32.toInt64 ((I r) 9))))) dX4_readTen_35 rfl hs_7 rfl (Nat.le_of_ble_eq_true rfl) (Nat.le_of_ble_eq_true rfl) (ma_up_up _ _ _ _) ?_
  refine ev_aload_n (pc' := 37) (i := 0) dX4_readTen_36 rfl rfl rfl ?_
  refine ev_getR (pc' := 40) fo_X4_9 dX4_readTen_37 rfl hs_6 rfl rf_6_0 ?_
  refine ev_iconst (pc' := 41) (v := 4) dX4_readTen_40 rfl ki_4 ?_
  refine ev_getCol (pc' := 44) fn_X4_22 dX4_readTen_41 rfl ?_
  refine ev_iload_n (pc' := 45) (i := 2) dX4_readTen_44 rfl rfl rfl ?_
  refine ev_row2 (pc' := 46) (j := 9) (v := 3) dX4_readTen_45 rfl rfl (Nat.le_of_ble_eq_true rfl) rfl ?_
  refine ev_imul (pc' := 47) (v := 12) dX4_readTen_46 rfl (by decide) ?_
  refine ev_getRow (pc' := 50) fn_X4_18 dX4_readTen_47 rfl ?_
  refine ev_iload_n (pc' := 51) (i := 2) dX4_readTen_50 rfl rfl rfl ?_
  refine ev_row1 (pc' := 52) (j := 9) (v := 3) dX4_readTen_51 rfl rfl (Nat.le_of_ble_eq_true rfl) rfl ?_
  refine ev_iadd (pc' := 53) (v := 15) dX4_readTen_52 rfl (by decide) ?_
  refine ev_aload_n (pc' := 54) (i := 1) dX4_readTen_53 rfl rfl rfl ?_
  refine ev_iload_n (pc' := 55) (i := 2) dX4_readTen_54 rfl rfl rfl ?_
  refine ev_iald (pc' := 56) (j := 9) (v := (I r) 9) dX4_readTen_55 rfl hr rfl (Nat.le_of_ble_eq_true rfl) (Nat.le_of_ble_eq_true rfl) rfl ?_
  refine ev_i2l (pc' := 57) (v := Int32.toInt64 ((I r) 9)) dX4_readTen_56 rfl rfl ?_
  refine ev_last (pc' := 58) (j := 15) (L' := (ma_up L 7 (ma_up (ma_up (ma_up (ma_up (ma_up (ma_up (ma_up (ma_up (ma_up (ma_up (ma_up (ma_up (ma_up (ma_up (ma_up (ma_up (L 7) 0 (Int32.toInt64 ((I r) 0))) 1 (Int32.toInt64 ((I r) 1))) 4 (Int32.toInt64 ((I r) 1))) 2 (Int32.toInt64 ((I r) 2))) 8 (Int32.toInt64 ((I r) 2))) 3 (Int32.toInt64 ((I r) 3))) 12 (Int32.toInt64 ((I r) 3))) 5 (Int32.toInt64 ((I r) 4))) 6 (Int32.toInt64 ((I r) 5))) 9 (Int32.toInt64 ((I r) 5))) 7 (Int32.toInt64 ((I r) 6))) 13 (Int32.toInt64 ((I r) 6))) 10 (Int32.toInt64 ((I r) 7))) 11 (Int32.toInt64 ((I r) 8))) 14 (Int32.toInt64 ((I r) 8))) 15 (Int32.toInt64 ((I r) 9))))) dX4_readTen_57 rfl hs_7 rfl (Nat.le_of_ble_eq_true rfl) (Nat.le_of_ble_eq_true rfl) ((congrArg (ma_up _ 7) (ma_up_up _ _ _ _)).trans (ma_up_up _ _ _ _)) ?_
  refine ev_iinc (pc' := 61) (v := 10) (lv' := [some (.ref 6), some (.ref r), some (.int 10)]) dX4_readTen_58 rfl rfl (by decide) (Nat.le_of_ble_eq_true rfl) rfl rfl ?_
  refine ev_goto (tgt := 2) dX4_readTen_61 rfl ?_
  refine ev_iload_n (pc' := 3) (i := 2) dX4_readTen_2 rfl rfl rfl ?_
  refine ev_bipush (pc' := 5) (v := 10) dX4_readTen_3 rfl kb_10 ?_
  refine ev_icmp_ge (tgt := 64) (pc' := 8) dX4_readTen_5 rfl rfl (fun _ => ?_) (fun h => absurd (by decide) h)
  refine ev_vret dX4_readTen_64 rfl ⟨Nat.le_refl _, Nat.le_refl _⟩ ?_
  exact k0 _ (fun j hj => by match j, hj with
      | 0, _ => rfl
      | 1, _ => rfl
      | 2, _ => rfl
      | 3, _ => rfl
      | 4, _ => rfl
      | 5, _ => rfl
      | 6, _ => rfl
      | 7, _ => rfl
      | 8, _ => rfl
      | 9, _ => rfl
      | 10, _ => rfl
      | 11, _ => rfl
      | 12, _ => rfl
      | 13, _ => rfl
      | 14, _ => rfl
      | 15, _ => rfl
      | j + 16, h => exact absurd h (by omega))
def cLs (f : Nat → Int64) : Nat → Int64 := fun j => if j % 4 = 3 ∨ j / 4 = 3 then 0 else f j
set_option maxRecDepth 4000 in
theorem t_X4_readLesser {g : ma_G} {Post : ma_P} {I : ma_I} {L : ma_L}  (o : Nat) (d : Nat) (ho : HS o = (4, 6)) (hro : RF o 0 = d) (hd : HS d = (10, 16)) (hdb : d ≠ 10) (k0 : ∀ R : Nat → Int64, (∀ j, j < 16 → R j = cLs (L d) j) → Post none HS I (ma_up L 10 R) RF 146) : CT g yX4_readLesser cX4_readLesser 3 none rX4_readLesser [.ref 9, .ref o] Post HS I L RF 146 := by
  refine ct_of (lv := [some (.ref 9), some (.ref o), none]) (by decide) (Nat.le_of_ble_eq_true rfl) rfl ?_
  refine ev_aload_n (pc' := 1) (i := 0) dX4_readLesser_0 rfl rfl rfl ?_
  refine ev_aload_n (pc' := 2) (i := 1) dX4_readLesser_1 rfl rfl rfl ?_
  refine ev_callV (pc' := 5) (rm' := rX4_become) (b := 9) (av := [.ref o]) (rest := []) co_X4_41 ci_X4_become cv_X4_become dX4_readLesser_2 rfl hs_9 hb_X4 rfl rfl (Nat.le_of_ble_eq_true rfl) ⟨(Nat.le_of_ble_eq_true rfl), (Nat.le_of_ble_eq_true rfl)⟩ ⟨(Nat.le_of_ble_eq_true rfl), (Nat.le_of_ble_eq_true rfl)⟩ ?_
  refine t_X4_become 9 10 hs_9 rf_9_0 hs_10 o d ho hro hd (by omega) ?_
  refine ev_memL (fun z hz => ?_)
  have hz : z = ma_up L 10 (fun j => if 0 ≤ j ∧ j < 0 + 16 then L d (j - 0) else L 10 j) := hz
  subst hz
  refine ev_iconst (pc' := 6) (v := 0) dX4_readLesser_5 rfl ki_0 ?_
  refine ev_istore_n (pc' := 7) (i := 2) (lv' := [some (.ref 9), some (.ref o), some (.int 0)]) dX4_readLesser_6 rfl rfl (Nat.le_of_ble_eq_true rfl) rfl rfl ?_
  refine ev_iload_n (pc' := 8) (i := 2) dX4_readLesser_7 rfl rfl rfl ?_
  refine ev_iconst (pc' := 9) (v := 4) dX4_readLesser_8 rfl ki_4 ?_
  refine ev_icmp_ge (tgt := 39) (pc' := 12) dX4_readLesser_9 rfl rfl (fun h => absurd h (by decide)) (fun _ => ?_)
  refine ev_aload_n (pc' := 13) (i := 0) dX4_readLesser_12 rfl rfl rfl ?_
  refine ev_getR (pc' := 16) fo_X4_9 dX4_readLesser_13 rfl hs_9 rfl rf_9_0 ?_
  refine ev_iconst (pc' := 17) (v := 4) dX4_readLesser_16 rfl ki_4 ?_
  refine ev_iload_n (pc' := 18) (i := 2) dX4_readLesser_17 rfl rfl rfl ?_
  refine ev_imul (pc' := 19) (v := 0) dX4_readLesser_18 rfl (by decide) ?_
  refine ev_iconst (pc' := 20) (v := 3) dX4_readLesser_19 rfl ki_3 ?_
  refine ev_iadd (pc' := 21) (v := 3) dX4_readLesser_20 rfl (by decide) ?_
  refine ev_lconst (pc' := 22) (v := 0) dX4_readLesser_21 rfl kl_0 ?_
  refine ev_last (pc' := 23) (j := 3) (L' := (ma_up L 10 (ma_up (fun j => if 0 ≤ j ∧ j < 0 + 16 then L d (j - 0) else L 10 j) 3 0))) dX4_readLesser_22 rfl hs_10 rfl (Nat.le_of_ble_eq_true rfl) (Nat.le_of_ble_eq_true rfl) (ma_up_up _ _ _ _) ?_
  refine ev_aload_n (pc' := 24) (i := 0) dX4_readLesser_23 rfl rfl rfl ?_
  refine ev_getR (pc' := 27) fo_X4_9 dX4_readLesser_24 rfl hs_9 rfl rf_9_0 ?_
  refine ev_bipush (pc' := 29) (v := 12) dX4_readLesser_27 rfl kb_12 ?_
  refine ev_iload_n (pc' := 30) (i := 2) dX4_readLesser_29 rfl rfl rfl ?_
  refine ev_iadd (pc' := 31) (v := 12) dX4_readLesser_30 rfl (by decide) ?_
  refine ev_lconst (pc' := 32) (v := 0) dX4_readLesser_31 rfl kl_0 ?_
  refine ev_last (pc' := 33) (j := 12) (L' := (ma_up L 10 (ma_up (ma_up (fun j => if 0 ≤ j ∧ j < 0 + 16 then L d (j - 0) else L 10 j) 3 0) 12 0))) dX4_readLesser_32 rfl hs_10 rfl (Nat.le_of_ble_eq_true rfl) (Nat.le_of_ble_eq_true rfl) (ma_up_up _ _ _ _) ?_
  refine ev_iinc (pc' := 36) (v := 1) (lv' := [some (.ref 9), some (.ref o), some (.int 1)]) dX4_readLesser_33 rfl rfl (by decide) (Nat.le_of_ble_eq_true rfl) rfl rfl ?_
  refine ev_goto (tgt := 7) dX4_readLesser_36 rfl ?_
  refine ev_iload_n (pc' := 8) (i := 2) dX4_readLesser_7 rfl rfl rfl ?_
  refine ev_iconst (pc' := 9) (v := 4) dX4_readLesser_8 rfl ki_4 ?_
  refine ev_icmp_ge (tgt := 39) (pc' := 12) dX4_readLesser_9 rfl rfl (fun h => absurd h (by decide)) (fun _ => ?_)
  refine ev_aload_n (pc' := 13) (i := 0) dX4_readLesser_12 rfl rfl rfl ?_
  refine ev_getR (pc' := 16) fo_X4_9 dX4_readLesser_13 rfl hs_9 rfl rf_9_0 ?_
  refine ev_iconst (pc' := 17) (v := 4) dX4_readLesser_16 rfl ki_4 ?_
  refine ev_iload_n (pc' := 18) (i := 2) dX4_readLesser_17 rfl rfl rfl ?_
  refine ev_imul (pc' := 19) (v := 4) dX4_readLesser_18 rfl (by decide) ?_
  refine ev_iconst (pc' := 20) (v := 3) dX4_readLesser_19 rfl ki_3 ?_
  refine ev_iadd (pc' := 21) (v := 7) dX4_readLesser_20 rfl (by decide) ?_
  refine ev_lconst (pc' := 22) (v := 0) dX4_readLesser_21 rfl kl_0 ?_
  refine ev_last (pc' := 23) (j := 7) (L' := (ma_up L 10 (ma_up (ma_up (ma_up (fun j => if 0 ≤ j ∧ j < 0 + 16 then L d (j - 0) else L 10 j) 3 0) 12 0) 7 0))) dX4_readLesser_22 rfl hs_10 rfl (Nat.le_of_ble_eq_true rfl) (Nat.le_of_ble_eq_true rfl) (ma_up_up _ _ _ _) ?_
  refine ev_aload_n (pc' := 24) (i := 0) dX4_readLesser_23 rfl rfl rfl ?_
  refine ev_getR (pc' := 27) fo_X4_9 dX4_readLesser_24 rfl hs_9 rfl rf_9_0 ?_
  refine ev_bipush (pc' := 29) (v := 12) dX4_readLesser_27 rfl kb_12 ?_
  refine ev_iload_n (pc' := 30) (i := 2) dX4_readLesser_29 rfl rfl rfl ?_
  refine ev_iadd (pc' := 31) (v := 13) dX4_readLesser_30 rfl (by decide) ?_
  refine ev_lconst (pc' := 32) (v := 0) dX4_readLesser_31 rfl kl_0 ?_
  refine ev_last (pc' := 33) (j := 13) (L' := (ma_up L 10 (ma_up (ma_up (ma_up (ma_up (fun j => if 0 ≤ j ∧ j < 0 + 16 then L d (j - 0) else L 10 j) 3 0) 12 0) 7 0) 13 0))) dX4_readLesser_32 rfl hs_10 rfl (Nat.le_of_ble_eq_true rfl) (Nat.le_of_ble_eq_true rfl) (ma_up_up _ _ _ _) ?_
  refine ev_iinc (pc' := 36) (v := 2) (lv' := [some (.ref 9), some (.ref o), some (.int 2)]) dX4_readLesser_33 rfl rfl (by decide) (Nat.le_of_ble_eq_true rfl) rfl rfl ?_
  refine ev_goto (tgt := 7) dX4_readLesser_36 rfl ?_
  refine ev_iload_n (pc' := 8) (i := 2) dX4_readLesser_7 rfl rfl rfl ?_
  refine ev_iconst (pc' := 9) (v := 4) dX4_readLesser_8 rfl ki_4 ?_
  refine ev_icmp_ge (tgt := 39) (pc' := 12) dX4_readLesser_9 rfl rfl (fun h => absurd h (by decide)) (fun _ => ?_)
  refine ev_aload_n (pc' := 13) (i := 0) dX4_readLesser_12 rfl rfl rfl ?_
  refine ev_getR (pc' := 16) fo_X4_9 dX4_readLesser_13 rfl hs_9 rfl rf_9_0 ?_
  refine ev_iconst (pc' := 17) (v := 4) dX4_readLesser_16 rfl ki_4 ?_
  refine ev_iload_n (pc' := 18) (i := 2) dX4_readLesser_17 rfl rfl rfl ?_
  refine ev_imul (pc' := 19) (v := 8) dX4_readLesser_18 rfl (by decide) ?_
  refine ev_iconst (pc' := 20) (v := 3) dX4_readLesser_19 rfl ki_3 ?_
  refine ev_iadd (pc' := 21) (v := 11) dX4_readLesser_20 rfl (by decide) ?_
  refine ev_lconst (pc' := 22) (v := 0) dX4_readLesser_21 rfl kl_0 ?_
  refine ev_last (pc' := 23) (j := 11) (L' := (ma_up L 10 (ma_up (ma_up (ma_up (ma_up (ma_up (fun j => if 0 ≤ j ∧ j < 0 + 16 then L d (j - 0) else L 10 j) 3 0) 12 0) 7 0) 13 0) 11 0))) dX4_readLesser_22 rfl hs_10 rfl (Nat.le_of_ble_eq_true rfl) (Nat.le_of_ble_eq_true rfl) (ma_up_up _ _ _ _) ?_
  refine ev_aload_n (pc' := 24) (i := 0) dX4_readLesser_23 rfl rfl rfl ?_
  refine ev_getR (pc' := 27) fo_X4_9 dX4_readLesser_24 rfl hs_9 rfl rf_9_0 ?_
  refine ev_bipush (pc' := 29) (v := 12) dX4_readLesser_27 rfl kb_12 ?_
  refine ev_iload_n (pc' := 30) (i := 2) dX4_readLesser_29 rfl rfl rfl ?_
  refine ev_iadd (pc' := 31) (v := 14) dX4_readLesser_30 rfl (by decide) ?_
  refine ev_lconst (pc' := 32) (v := 0) dX4_readLesser_31 rfl kl_0 ?_
  refine ev_last (pc' := 33) (j := 14) (L' := (ma_up L 10 (ma_up (ma_up (ma_up (ma_up (ma_up (ma_up (fun j => if 0 ≤ j ∧ j < 0 + 16 then L d (j - 0) else L 10 j) 3 0) 12 0) 7 0) 13 0) 11 0) 14 0))) dX4_readLesser_32 rfl hs_10 rfl (Nat.le_of_ble_eq_true rfl) (Nat.le_of_ble_eq_true rfl) (ma_up_up _ _ _ _) ?_
  refine ev_iinc (pc' := 36) (v := 3) (lv' := [some (.ref 9), some (.ref o), some (.int 3)]) dX4_readLesser_33 rfl rfl (by decide) (Nat.le_of_ble_eq_true rfl) rfl rfl ?_
  refine ev_goto (tgt := 7) dX4_readLesser_36 rfl ?_
  refine ev_iload_n (pc' := 8) (i := 2) dX4_readLesser_7 rfl rfl rfl ?_
  refine ev_iconst (pc' := 9) (v := 4) dX4_readLesser_8 rfl ki_4 ?_
  refine ev_icmp_ge (tgt := 39) (pc' := 12) dX4_readLesser_9 rfl rfl (fun h => absurd h (by decide)) (fun _ => ?_)
  refine ev_aload_n (pc' := 13) (i := 0) dX4_readLesser_12 rfl rfl rfl ?_
  refine ev_getR (pc' := 16) fo_X4_9 dX4_readLesser_13 rfl hs_9 rfl rf_9_0 ?_
  refine ev_iconst (pc' := 17) (v := 4) dX4_readLesser_16 rfl ki_4 ?_
  refine ev_iload_n (pc' := 18) (i := 2) dX4_readLesser_17 rfl rfl rfl ?_
  refine ev_imul (pc' := 19) (v := 12) dX4_readLesser_18 rfl (by decide) ?_
  refine ev_iconst (pc' := 20) (v := 3) dX4_readLesser_19 rfl ki_3 ?_
  refine ev_iadd (pc' := 21) (v := 15) dX4_readLesser_20 rfl (by decide) ?_
  refine ev_lconst (pc' := 22) (v := 0) dX4_readLesser_21 rfl kl_0 ?_
  refine ev_last (pc' := 23) (j := 15) (L' := (ma_up L 10 (ma_up (ma_up (ma_up (ma_up (ma_up (ma_up (ma_up (fun j => if 0 ≤ j ∧ j < 0 + 16 then L d (j - 0) else L 10 j) 3 0) 12 0) 7 0) 13 0) 11 0) 14 0) 15 0))) dX4_readLesser_22 rfl hs_10 rfl (Nat.le_of_ble_eq_true rfl) (Nat.le_of_ble_eq_true rfl) (ma_up_up _ _ _ _) ?_
  refine ev_aload_n (pc' := 24) (i := 0) dX4_readLesser_23 rfl rfl rfl ?_
  refine ev_getR (pc' := 27) fo_X4_9 dX4_readLesser_24 rfl hs_9 rfl rf_9_0 ?_
  refine ev_bipush (pc' := 29) (v := 12) dX4_readLesser_27 rfl kb_12 ?_
  refine ev_iload_n (pc' := 30) (i := 2) dX4_readLesser_29 rfl rfl rfl ?_
  refine ev_iadd (pc' := 31) (v := 15) dX4_readLesser_30 rfl (by decide) ?_
  refine ev_lconst (pc' := 32) (v := 0) dX4_readLesser_31 rfl kl_0 ?_
  refine ev_last (pc' := 33) (j := 15) (L' := (ma_up L 10 (ma_up (ma_up (ma_up (ma_up (ma_up (ma_up (ma_up (fun j => if 0 ≤ j ∧ j < 0 + 16 then L d (j - 0) else L 10 j) 3 0) 12 0) 7 0) 13 0) 11 0) 14 0) 15 0))) dX4_readLesser_32 rfl hs_10 rfl (Nat.le_of_ble_eq_true rfl) (Nat.le_of_ble_eq_true rfl) ((congrArg (ma_up _ 10) (ma_up_up _ _ _ _)).trans (ma_up_up _ _ _ _)) ?_
  refine ev_iinc (pc' := 36) (v := 4) (lv' := [some (.ref 9), some (.ref o), some (.int 4)]) dX4_readLesser_33 rfl rfl (by decide) (Nat.le_of_ble_eq_true rfl) rfl rfl ?_
  refine ev_goto (tgt := 7) dX4_readLesser_36 rfl ?_
  refine ev_iload_n (pc' := 8) (i := 2) dX4_readLesser_7 rfl rfl rfl ?_
  refine ev_iconst (pc' := 9) (v := 4) dX4_readLesser_8 rfl ki_4 ?_
  refine ev_icmp_ge (tgt := 39) (pc' := 12) dX4_readLesser_9 rfl rfl (fun _ => ?_) (fun h => absurd (by decide) h)
  refine ev_vret dX4_readLesser_39 rfl ⟨Nat.le_refl _, Nat.le_refl _⟩ ?_
  exact k0 _ (fun j hj => by match j, hj with
    | 0, _ => rfl
    | 1, _ => rfl
    | 2, _ => rfl
    | 3, _ => rfl
    | 4, _ => rfl
    | 5, _ => rfl
    | 6, _ => rfl
    | 7, _ => rfl
    | 8, _ => rfl
    | 9, _ => rfl
    | 10, _ => rfl
    | 11, _ => rfl
    | 12, _ => rfl
    | 13, _ => rfl
    | 14, _ => rfl
    | 15, _ => rfl
    | j + 16, h => exact absurd h (by omega))
