/-- what meetingOfBalls answers of a form -/
def cMt (f : Nat → Int64) : Int32 := cMb (cFig f (cIi f) (cJj f)) (cSc f 5).1
theorem cFig_5 (f : Nat → Int64) (i j : Int64) : cFig f i j = cFig (fun k => if k < 5 then f k else 0) i j := rfl
theorem cFig_c {f f' : Nat → Int64} (h : ∀ j, j < 5 → f j = f' j) (i j : Int64) : cFig f i j = cFig f' i j := by
  rw [cFig_5 f, cFig_5 f']
  congr 1
  funext k
  by_cases q : k < 5
  · rw [if_pos q, if_pos q, h k q]
  · rw [if_neg q, if_neg q]
theorem cMt_c {f f' : Nat → Int64} (h : ∀ j, j < 5 → f j = f' j) : cMb (cFig f (cIi f') (cJj f')) (cSc f 5).1 = cMt f' := by
  unfold cMt
  rw [cFig_c h, cSc_congr 5 h]
theorem ne_m9 {i : Nat} (h : i < 30) : nI i ≠ (-9) := fun e => by
  have := congrArg Int32.toInt e
  rw [nI_toInt (by omega)] at this
  have z : (-9 : Int32).toInt = -9 := by decide
  omega
def cBl (f : Nat → Int32) : Int32 := if f 1 ≤ f 2 then -1 else 1
/-- the first step at which M isn't 2, or -9 -/
def cFst (M : Nat → Int32) (k : Nat) (fd : Int32) : Prop := (fd = -9 ∧ ∀ i, i < k → M i = 2) ∨ ∃ i, i < k ∧ fd = nI i ∧ (∀ j, j < i → M j = 2) ∧ ¬ M i = 2
theorem cFst_0 (M : Nat → Int32) : cFst M 0 (-9) := Or.inl ⟨rfl, fun i h => absurd h (Nat.not_lt_zero i)⟩
theorem cFst_k {M : Nat → Int32} {k : Nat} {fd : Int32} (h : cFst M k fd) (q : ¬ fd = -9) : cFst M (k + 1) fd := by
  rcases h with h | ⟨i, h1, h2⟩
  · exact absurd h.1 q
  · exact Or.inr ⟨i, by omega, h2⟩
theorem cFst_y {M : Nat → Int32} {k : Nat} {fd : Int32} (h : cFst M k fd) (hk : k < 30) (q : fd = -9) (e : M k = 2) : cFst M (k + 1) fd := by
  rcases h with h | ⟨i, h1, h2, _⟩
  · exact Or.inl ⟨q, fun i hi => by rcases Nat.lt_succ_iff_lt_or_eq.mp hi with z | z; exact h.2 i z; rw [z]; exact e⟩
  · exact absurd (h2.symm.trans q) (ne_m9 (by omega))
theorem cFst_n {M : Nat → Int32} {k : Nat} {fd : Int32} (h : cFst M k fd) (hk : k < 30) (q : fd = -9) (e : ¬ M k = 2) : cFst M (k + 1) (nI k) := by
  rcases h with h | ⟨i, h1, h2, _⟩
  · exact Or.inr ⟨k, by omega, rfl, h.2, e⟩
  · exact absurd (h2.symm.trans q) (ne_m9 (by omega))
def cFrm (L K : ma_L) : Prop := ∀ x, (x < 7 ∨ 23 < x) → K x = L x
set_option maxRecDepth 4000 in
theorem t_X7_first {g : ma_G} {Post : ma_P} {I : ma_I} {L : ma_L}  (q : Int32) (r : Int32) (s : Int32) (n : Int32) (hP : ∀ g h s k, g < 12 → h < 12 → s < 8 → k < 21 → mRl (cMov (L (57 + 5 * h)) (I (40 + 2 * s)) (nI k)) 30 → ∀ m q : Int32, (m = 1 ∨ m = -1) → (q = 1 ∨ q = -1) → cFk (cFo (L (57 + 5 * g)) (cMov (L (57 + 5 * h)) (I (40 + 2 * s)) (nI k)) m q)) (k1 : ((q < 0) ∨ (¬ q < 12)) → Post (some (.int (-1))) HS I L RF 146) (k2 : ∀ n2 : Nat, (n2 < 12) → q = nI n2 → ((r < 0) ∨ (¬ r < 12)) → Post (some (.int (-1))) HS I L RF 146) (k3 : ∀ n2 : Nat, (n2 < 12) → q = nI n2 → ∀ n4 : Nat, (n4 < 12) → r = nI n4 → ((nI n2) = (nI n4)) → Post (some (.int (-1))) HS I L RF 146) (k4 : ∀ n2 : Nat, (n2 < 12) → q = nI n2 → ∀ n4 : Nat, (n4 < 12) → r = nI n4 → (¬ (nI n2) = (nI n4)) → ((s < 0) ∨ (¬ s < 8)) → Post (some (.int (-1))) HS I L RF 146) (k5 : ∀ n2 : Nat, (n2 < 12) → q = nI n2 → ∀ n4 : Nat, (n4 < 12) → r = nI n4 → (¬ (nI n2) = (nI n4)) → ∀ n7 : Nat, (n7 < 8) → s = nI n7 → (n < 0) → Post (some (.int (-1))) HS I L RF 146) (k6 : ∀ n2 : Nat, (n2 < 12) → q = nI n2 → ∀ n4 : Nat, (n4 < 12) → r = nI n4 → (¬ (nI n2) = (nI n4)) → ∀ n7 : Nat, (n7 < 8) → s = nI n7 → ∀ n10 : Nat, (0 ≤ n10) → (n10 < 21) → n = nI n10 → (((I (55 + 5 * n2)) 0) = 0) → Post (some (.int (-3))) HS (cRf I 1) L RF 146) (k7 : ∀ n2 : Nat, (n2 < 12) → q = nI n2 → ∀ n4 : Nat, (n4 < 12) → r = nI n4 → (¬ (nI n2) = (nI n4)) → ∀ n7 : Nat, (n7 < 8) → s = nI n7 → ∀ n10 : Nat, (0 ≤ n10) → (n10 < 21) → n = nI n10 → (¬ ((I (55 + 5 * n2)) 0) = 0) → (((I (55 + 5 * n4)) 0) = 0) → Post (some (.int (-3))) HS (cRf I 1) L RF 146) (k8 : ∀ n2 : Nat, (n2 < 12) → q = nI n2 → ∀ n4 : Nat, (n4 < 12) → r = nI n4 → (¬ (nI n2) = (nI n4)) → ∀ n7 : Nat, (n7 < 8) → s = nI n7 → ∀ n10 : Nat, (0 ≤ n10) → (n10 < 21) → n = nI n10 → (¬ ((I (55 + 5 * n2)) 0) = 0) → (¬ ((I (55 + 5 * n4)) 0) = 0) → (¬ (¬ 0 ≤ ((I (39 + 2 * n7)) 1))) → (¬ cIs (I (59 + 5 * n2)) 3) → Post (some (.int (-3))) HS (cRf I 3) L RF 146) (k9 : ∀ n2 : Nat, (n2 < 12) → q = nI n2 → ∀ n4 : Nat, (n4 < 12) → r = nI n4 → (¬ (nI n2) = (nI n4)) → ∀ n7 : Nat, (n7 < 8) → s = nI n7 → ∀ n10 : Nat, (0 ≤ n10) → (n10 < 21) → n = nI n10 → (¬ ((I (55 + 5 * n2)) 0) = 0) → (¬ ((I (55 + 5 * n4)) 0) = 0) → (¬ (¬ 0 ≤ ((I (39 + 2 * n7)) 1))) → (cIs (I (59 + 5 * n2)) 3) → (¬ cIs (I (59 + 5 * n4)) 3) → Post (some (.int (-3))) HS (cRf I 3) L RF 146) (k10 : ∀ n2 : Nat, (n2 < 12) → q = nI n2 → ∀ n4 : Nat, (n4 < 12) → r = nI n4 → (¬ (nI n2) = (nI n4)) → ∀ n7 : Nat, (n7 < 8) → s = nI n7 → ∀ n10 : Nat, (0 ≤ n10) → (n10 < 21) → n = nI n10 → (¬ ((I (55 + 5 * n2)) 0) = 0) → (¬ ((I (55 + 5 * n4)) 0) = 0) → (¬ (¬ 0 ≤ ((I (39 + 2 * n7)) 1))) → (cIs (I (59 + 5 * n2)) 3) → (cIs (I (59 + 5 * n4)) 3) → (3 ≤ ((I (39 + 2 * n7)) 1)) → (mRg (I (40 + 2 * n7)) 3 4) → ∀ fd : Int32, ∀ KK : ma_L, (cFrm L KK) → (∀ i, i < n10 + 1 → mRl (cMov (L (57 + 5 * n4)) (I (40 + 2 * n7)) (nI i)) 30) → (cFst (fun i => (cMt (cFo (L (57 + 5 * n2)) (cMov (L (57 + 5 * n4)) (I (40 + 2 * n7)) (nI i)) (cBl (I (59 + 5 * n2))) (cBl (I (59 + 5 * n4)))))) (n10 + 1) fd) → Post (some (.int fd)) HS I KK RF 146) (k11 : ∀ n2 : Nat, (n2 < 12) → q = nI n2 → ∀ n4 : Nat, (n4 < 12) → r = nI n4 → (¬ (nI n2) = (nI n4)) → ∀ n7 : Nat, (n7 < 8) → s = nI n7 → ∀ n10 : Nat, (0 ≤ n10) → (n10 < 21) → n = nI n10 → (¬ ((I (55 + 5 * n2)) 0) = 0) → (¬ ((I (55 + 5 * n4)) 0) = 0) → (¬ (¬ 0 ≤ ((I (39 + 2 * n7)) 1))) → (cIs (I (59 + 5 * n2)) 3) → (cIs (I (59 + 5 * n4)) 3) → (3 ≤ ((I (39 + 2 * n7)) 1)) → (mRg (I (40 + 2 * n7)) 3 4) → ∀ k : Nat, (k < n10 + 1) → ∀ fd : Int32, ∀ KK : ma_L, (cFrm L KK) → ∀ K2 : ma_L, (cFrm L K2) → (¬ mRl (cMov (L (57 + 5 * n4)) (I (40 + 2 * n7)) (nI k)) 30) → Post (some (.int (-6))) HS I K2 RF 146) (k12 : ∀ n2 : Nat, (n2 < 12) → q = nI n2 → ∀ n4 : Nat, (n4 < 12) → r = nI n4 → (¬ (nI n2) = (nI n4)) → ∀ n7 : Nat, (n7 < 8) → s = nI n7 → ∀ n10 : Nat, (0 ≤ n10) → (n10 < 21) → n = nI n10 → (¬ ((I (55 + 5 * n2)) 0) = 0) → (¬ ((I (55 + 5 * n4)) 0) = 0) → (¬ (¬ 0 ≤ ((I (39 + 2 * n7)) 1))) → (cIs (I (59 + 5 * n2)) 3) → (cIs (I (59 + 5 * n4)) 3) → (3 ≤ ((I (39 + 2 * n7)) 1)) → (¬ (mRg (I (40 + 2 * n7)) 3 4)) → Post (some (.int (-3))) HS (cRf I 2) L RF 146) (k13 : ∀ n2 : Nat, (n2 < 12) → q = nI n2 → ∀ n4 : Nat, (n4 < 12) → r = nI n4 → (¬ (nI n2) = (nI n4)) → ∀ n7 : Nat, (n7 < 8) → s = nI n7 → ∀ n10 : Nat, (0 ≤ n10) → (n10 < 21) → n = nI n10 → (¬ ((I (55 + 5 * n2)) 0) = 0) → (¬ ((I (55 + 5 * n4)) 0) = 0) → (¬ (¬ 0 ≤ ((I (39 + 2 * n7)) 1))) → (cIs (I (59 + 5 * n2)) 3) → (cIs (I (59 + 5 * n4)) 3) → (¬ 3 ≤ ((I (39 + 2 * n7)) 1)) → Post (some (.int (-3))) HS (cRf I 5) L RF 146) (k14 : ∀ n2 : Nat, (n2 < 12) → q = nI n2 → ∀ n4 : Nat, (n4 < 12) → r = nI n4 → (¬ (nI n2) = (nI n4)) → ∀ n7 : Nat, (n7 < 8) → s = nI n7 → ∀ n10 : Nat, (0 ≤ n10) → (n10 < 21) → n = nI n10 → (¬ ((I (55 + 5 * n2)) 0) = 0) → (¬ ((I (55 + 5 * n4)) 0) = 0) → (¬ 0 ≤ ((I (39 + 2 * n7)) 1)) → Post (some (.int (-3))) HS (cRf I 1) L RF 146) (k15 : ∀ n2 : Nat, (n2 < 12) → q = nI n2 → ∀ n4 : Nat, (n4 < 12) → r = nI n4 → (¬ (nI n2) = (nI n4)) → ∀ n7 : Nat, (n7 < 8) → s = nI n7 → (¬ n < 0) → (¬ n ≤ 20) → Post (some (.int (-1))) HS I L RF 146) : CT g yX7_first cX7_first 7 (some .int) rX7_first [.ref 3, .int q, .int r, .int s, .int n] Post HS I L RF 146 := by
  refine ct_of (lv := [some (.ref 3), some (.int q), some (.int r), some (.int s), some (.int n), none, none]) (by decide) (Nat.le_of_ble_eq_true rfl) rfl ?_
  refine ev_iload_n (pc' := 1) (i := 1) dX7_first_0 rfl rfl rfl ?_
  refine ev_callS (pc' := 4) (rm' := rX7_noGround) (av := [.int q]) (rest := []) co_X7_114 cs_X7_noGround dX7_first_1 rfl rfl rfl (Nat.le_of_ble_eq_true rfl) ⟨(Nat.le_of_ble_eq_true rfl), (Nat.le_of_ble_eq_true rfl)⟩ ⟨(Nat.le_of_ble_eq_true rfl), (Nat.le_of_ble_eq_true rfl)⟩ ?_
  refine t_X7_noGround q  ?_
  refine ev_if_ne_b (tgt := 38) (pc' := 7) dX7_first_4 rfl rfl (fun c1 => ?_) (fun c1 => ?_)
  · refine ev_iconst (pc' := 39) (v := (-1)) dX7_first_38 rfl ki_m1 ?_
    refine ev_iret dX7_first_39 rfl rfl ⟨Nat.le_refl _, Nat.le_refl _⟩ ?_
    exact k1 c1
  · obtain ⟨n2, hn2, en2⟩ := in_ofn (n := 12) (by omega) rfl c1
    subst en2
    refine ev_iload_n (pc' := 8) (i := 2) dX7_first_7 rfl rfl rfl ?_
    refine ev_callS (pc' := 11) (rm' := rX7_noGround) (av := [.int r]) (rest := []) co_X7_114 cs_X7_noGround dX7_first_8 rfl rfl rfl (Nat.le_of_ble_eq_true rfl) ⟨(Nat.le_of_ble_eq_true rfl), (Nat.le_of_ble_eq_true rfl)⟩ ⟨(Nat.le_of_ble_eq_true rfl), (Nat.le_of_ble_eq_true rfl)⟩ ?_
    refine t_X7_noGround r  ?_
    refine ev_if_ne_b (tgt := 38) (pc' := 14) dX7_first_11 rfl rfl (fun c3 => ?_) (fun c3 => ?_)
    · refine ev_iconst (pc' := 39) (v := (-1)) dX7_first_38 rfl ki_m1 ?_
      refine ev_iret dX7_first_39 rfl rfl ⟨Nat.le_refl _, Nat.le_refl _⟩ ?_
      exact k2 n2 hn2 rfl c3
    · obtain ⟨n4, hn4, en4⟩ := in_ofn (n := 12) (by omega) rfl c3
      subst en4
      refine ev_iload_n (pc' := 15) (i := 1) dX7_first_14 rfl rfl rfl ?_
      refine ev_iload_n (pc' := 16) (i := 2) dX7_first_15 rfl rfl rfl ?_
      refine ev_icmp_eq (tgt := 38) (pc' := 19) dX7_first_16 rfl rfl (fun c5 => ?_) (fun c5 => ?_)
      · refine ev_iconst (pc' := 39) (v := (-1)) dX7_first_38 rfl ki_m1 ?_
        refine ev_iret dX7_first_39 rfl rfl ⟨Nat.le_refl _, Nat.le_refl _⟩ ?_
        exact k3 n2 hn2 rfl n4 hn4 rfl c5
      · refine ev_iload_n (pc' := 20) (i := 3) dX7_first_19 rfl rfl rfl ?_
        refine ev_callS (pc' := 23) (rm' := rX7_noSheet) (av := [.int s]) (rest := []) co_X7_75 cs_X7_noSheet dX7_first_20 rfl rfl rfl (Nat.le_of_ble_eq_true rfl) ⟨(Nat.le_of_ble_eq_true rfl), (Nat.le_of_ble_eq_true rfl)⟩ ⟨(Nat.le_of_ble_eq_true rfl), (Nat.le_of_ble_eq_true rfl)⟩ ?_
        refine t_X7_noSheet s  ?_
        refine ev_if_ne_b (tgt := 38) (pc' := 26) dX7_first_23 rfl rfl (fun c6 => ?_) (fun c6 => ?_)
        · refine ev_iconst (pc' := 39) (v := (-1)) dX7_first_38 rfl ki_m1 ?_
          refine ev_iret dX7_first_39 rfl rfl ⟨Nat.le_refl _, Nat.le_refl _⟩ ?_
          exact k4 n2 hn2 rfl n4 hn4 rfl c5 c6
        · obtain ⟨n7, hn7, en7⟩ := in_ofn (n := 8) (by omega) rfl c6
          subst en7
          refine ev_iload (pc' := 28) dX7_first_26 rfl rfl ?_
          refine ev_if_lt (tgt := 38) (pc' := 31) dX7_first_28 rfl rfl (fun c8 => ?_) (fun c8 => ?_)
          · refine ev_iconst (pc' := 39) (v := (-1)) dX7_first_38 rfl ki_m1 ?_
            refine ev_iret dX7_first_39 rfl rfl ⟨Nat.le_refl _, Nat.le_refl _⟩ ?_
            exact k5 n2 hn2 rfl n4 hn4 rfl c5 n7 hn7 rfl c8
          · refine ev_iload (pc' := 33) dX7_first_31 rfl rfl ?_
            refine ev_bipush (pc' := 35) (v := 20) dX7_first_33 rfl kb_20 ?_
            refine ev_icmp_le (tgt := 40) (pc' := 38) dX7_first_35 rfl rfl (fun c9 => ?_) (fun c9 => ?_)
            · obtain ⟨n10, gn10, hn10, en10⟩ := nat_of (x := n) (lo := 0) (hi := 21) (by have q := c8; rw [nb_lt] at q; have z : (0 : Int32).toInt = 0 := (by decide); omega) (by have q := c9; rw [nb_le] at q; have z : (20 : Int32).toInt = 20 := (by decide); omega) (by omega)
              subst en10
              refine ev_aload_n (pc' := 41) (i := 0) dX7_first_40 rfl rfl rfl ?_
              refine ev_getR (pc' := 44) fo_X7_17 dX7_first_41 rfl hs_3 rfl rf_3_1 ?_
              refine ev_iload_n (pc' := 45) (i := 1) dX7_first_44 rfl rfl rfl ?_
              refine ev_aald (pc' := 46) (j := n2) (b := 55 + 5 * n2) dX7_first_45 rfl hs_5 (Or.inr rfl) rfl (by omega) (Nat.le_of_ble_eq_true rfl) (hs_ground n2 (by omega)).2.2.2.2.2.2.2.2.2 ?_
              refine ev_getI (pc' := 49) (v := (I (55 + 5 * n2)) 0) fo_X7_134 dX7_first_46 rfl (hs_ground n2 (by omega)).1 rfl rfl ?_
              refine ev_if_eq (tgt := 76) (pc' := 52) dX7_first_49 rfl rfl (fun c11 => ?_) (fun c11 => ?_)
              · refine ev_aload_n (pc' := 77) (i := 0) dX7_first_76 rfl rfl rfl ?_
                refine ev_iconst (pc' := 78) (v := 1) dX7_first_77 rfl ki_1 ?_
                refine ev_callV (pc' := 81) (rm' := rX7_refuse) (b := 3) (av := [.int 1]) (rest := []) co_X7_79 ci_X7_refuse cv_X7_refuse dX7_first_78 rfl hs_3 hb_X7 rfl rfl (Nat.le_of_ble_eq_true rfl) ⟨(Nat.le_of_ble_eq_true rfl), (Nat.le_of_ble_eq_true rfl)⟩ ⟨(Nat.le_of_ble_eq_true rfl), (Nat.le_of_ble_eq_true rfl)⟩ ?_
                refine t_X7_refuse1 ?_
                refine ev_cRf 1 ?_
                refine ev_iret dX7_first_81 rfl rfl ⟨Nat.le_refl _, Nat.le_refl _⟩ ?_
                exact k6 n2 hn2 rfl n4 hn4 rfl c5 n7 hn7 rfl n10 gn10 hn10 rfl c11
              · refine ev_aload_n (pc' := 53) (i := 0) dX7_first_52 rfl rfl rfl ?_
                refine ev_getR (pc' := 56) fo_X7_17 dX7_first_53 rfl hs_3 rfl rf_3_1 ?_
                refine ev_iload_n (pc' := 57) (i := 2) dX7_first_56 rfl rfl rfl ?_
                refine ev_aald (pc' := 58) (j := n4) (b := 55 + 5 * n4) dX7_first_57 rfl hs_5 (Or.inr rfl) rfl (by omega) (Nat.le_of_ble_eq_true rfl) (hs_ground n4 (by omega)).2.2.2.2.2.2.2.2.2 ?_
                refine ev_getI (pc' := 61) (v := (I (55 + 5 * n4)) 0) fo_X7_134 dX7_first_58 rfl (hs_ground n4 (by omega)).1 rfl rfl ?_
                refine ev_if_eq (tgt := 76) (pc' := 64) dX7_first_61 rfl rfl (fun c12 => ?_) (fun c12 => ?_)
                · refine ev_aload_n (pc' := 77) (i := 0) dX7_first_76 rfl rfl rfl ?_
                  refine ev_iconst (pc' := 78) (v := 1) dX7_first_77 rfl ki_1 ?_
                  refine ev_callV (pc' := 81) (rm' := rX7_refuse) (b := 3) (av := [.int 1]) (rest := []) co_X7_79 ci_X7_refuse cv_X7_refuse dX7_first_78 rfl hs_3 hb_X7 rfl rfl (Nat.le_of_ble_eq_true rfl) ⟨(Nat.le_of_ble_eq_true rfl), (Nat.le_of_ble_eq_true rfl)⟩ ⟨(Nat.le_of_ble_eq_true rfl), (Nat.le_of_ble_eq_true rfl)⟩ ?_
                  refine t_X7_refuse1 ?_
                  refine ev_cRf 1 ?_
                  refine ev_iret dX7_first_81 rfl rfl ⟨Nat.le_refl _, Nat.le_refl _⟩ ?_
                  exact k7 n2 hn2 rfl n4 hn4 rfl c5 n7 hn7 rfl n10 gn10 hn10 rfl c11 c12
                · refine ev_aload_n (pc' := 65) (i := 0) dX7_first_64 rfl rfl rfl ?_
                  refine ev_getR (pc' := 68) fo_X7_11 dX7_first_65 rfl hs_3 rfl rf_3_0 ?_
                  refine ev_iload_n (pc' := 69) (i := 3) dX7_first_68 rfl rfl rfl ?_
                  refine ev_aald (pc' := 70) (j := n7) (b := 39 + 2 * n7) dX7_first_69 rfl hs_4 (Or.inl rfl) rfl (by omega) (Nat.le_of_ble_eq_true rfl) (hs_sheet n7 (by omega)).2.2.2 ?_
                  refine ev_callV (pc' := 73) (rm' := rX3_missing) (b := 39 + 2 * n7) (av := []) (rest := []) co_X7_87 ci_X3_missing cv_X3_missing dX7_first_70 rfl (hs_sheet n7 (by omega)).1 hb_X3 rfl rfl (Nat.le_of_ble_eq_true rfl) ⟨(Nat.le_of_ble_eq_true rfl), (Nat.le_of_ble_eq_true rfl)⟩ ⟨(Nat.le_of_ble_eq_true rfl), (Nat.le_of_ble_eq_true rfl)⟩ ?_
                  refine t_X3_missing (39 + 2 * n7) (40 + 2 * n7) (hs_sheet n7 (by omega)).1 (hs_sheet n7 (by omega)).2.2.1 (hs_sheet n7 (by omega)).2.1 (by omega) ?_
                  refine ev_if_eq_b (tgt := 82) (pc' := 76) dX7_first_73 rfl rfl (fun c13 => ?_) (fun c13 => ?_)
                  · refine ev_aload_n (pc' := 83) (i := 0) dX7_first_82 rfl rfl rfl ?_
                    refine ev_getR (pc' := 86) fo_X7_17 dX7_first_83 rfl hs_3 rfl rf_3_1 ?_
                    refine ev_iload_n (pc' := 87) (i := 1) dX7_first_86 rfl rfl rfl ?_
                    refine ev_aald (pc' := 88) (j := n2) (b := 55 + 5 * n2) dX7_first_87 rfl hs_5 (Or.inr rfl) rfl (by omega) (Nat.le_of_ble_eq_true rfl) (hs_ground n2 (by omega)).2.2.2.2.2.2.2.2.2 ?_
                    refine ev_iconst (pc' := 89) (v := 3) dX7_first_88 rfl ki_3 ?_
                    refine ev_callV (pc' := 92) (rm' := rX1_is) (b := 55 + 5 * n2) (av := [.int 3]) (rest := []) co_X7_150 ci_X1_is cv_X1_is dX7_first_89 rfl (hs_ground n2 (by omega)).1 hb_X1 rfl rfl (Nat.le_of_ble_eq_true rfl) ⟨(Nat.le_of_ble_eq_true rfl), (Nat.le_of_ble_eq_true rfl)⟩ ⟨(Nat.le_of_ble_eq_true rfl), (Nat.le_of_ble_eq_true rfl)⟩ ?_
                    refine t_X1_is (55 + 5 * n2) (56 + 5 * n2) (59 + 5 * n2) (hs_ground n2 (by omega)).1 (hs_ground n2 (by omega)).2.2.2.2.2.1 (hs_ground n2 (by omega)).2.2.2.2.2.2.1 (hs_ground n2 (by omega)).2.2.2.2.1 3 (fun h14 => ?_) (fun h14 => ?_)
                    · skip
                      refine ev_if_eq (tgt := 108) (pc' := 95) dX7_first_92 rfl rfl (fun _ => ?_) (fun h => absurd (by decide) h)
                      refine ev_aload_n (pc' := 109) (i := 0) dX7_first_108 rfl rfl rfl ?_
                      refine ev_iconst (pc' := 110) (v := 3) dX7_first_109 rfl ki_3 ?_
                      refine ev_callV (pc' := 113) (rm' := rX7_refuse) (b := 3) (av := [.int 3]) (rest := []) co_X7_79 ci_X7_refuse cv_X7_refuse dX7_first_110 rfl hs_3 hb_X7 rfl rfl (Nat.le_of_ble_eq_true rfl) ⟨(Nat.le_of_ble_eq_true rfl), (Nat.le_of_ble_eq_true rfl)⟩ ⟨(Nat.le_of_ble_eq_true rfl), (Nat.le_of_ble_eq_true rfl)⟩ ?_
                      refine t_X7_refuse3 ?_
                      refine ev_cRf 3 ?_
                      refine ev_iret dX7_first_113 rfl rfl ⟨Nat.le_refl _, Nat.le_refl _⟩ ?_
                      exact k8 n2 hn2 rfl n4 hn4 rfl c5 n7 hn7 rfl n10 gn10 hn10 rfl c11 c12 c13 h14
                    · skip
                      refine ev_if_eq (tgt := 108) (pc' := 95) dX7_first_92 rfl rfl (fun h => absurd h (by decide)) (fun _ => ?_)
                      refine ev_aload_n (pc' := 96) (i := 0) dX7_first_95 rfl rfl rfl ?_
                      refine ev_getR (pc' := 99) fo_X7_17 dX7_first_96 rfl hs_3 rfl rf_3_1 ?_
                      refine ev_iload_n (pc' := 100) (i := 2) dX7_first_99 rfl rfl rfl ?_
                      refine ev_aald (pc' := 101) (j := n4) (b := 55 + 5 * n4) dX7_first_100 rfl hs_5 (Or.inr rfl) rfl (by omega) (Nat.le_of_ble_eq_true rfl) (hs_ground n4 (by omega)).2.2.2.2.2.2.2.2.2 ?_
                      refine ev_iconst (pc' := 102) (v := 3) dX7_first_101 rfl ki_3 ?_
                      refine ev_callV (pc' := 105) (rm' := rX1_is) (b := 55 + 5 * n4) (av := [.int 3]) (rest := []) co_X7_150 ci_X1_is cv_X1_is dX7_first_102 rfl (hs_ground n4 (by omega)).1 hb_X1 rfl rfl (Nat.le_of_ble_eq_true rfl) ⟨(Nat.le_of_ble_eq_true rfl), (Nat.le_of_ble_eq_true rfl)⟩ ⟨(Nat.le_of_ble_eq_true rfl), (Nat.le_of_ble_eq_true rfl)⟩ ?_
                      refine t_X1_is (55 + 5 * n4) (56 + 5 * n4) (59 + 5 * n4) (hs_ground n4 (by omega)).1 (hs_ground n4 (by omega)).2.2.2.2.2.1 (hs_ground n4 (by omega)).2.2.2.2.2.2.1 (hs_ground n4 (by omega)).2.2.2.2.1 3 (fun h15 => ?_) (fun h15 => ?_)
                      · skip
                        refine ev_if_ne (tgt := 114) (pc' := 108) dX7_first_105 rfl rfl (fun h => absurd (by decide) h) (fun _ => ?_)
                        refine ev_aload_n (pc' := 109) (i := 0) dX7_first_108 rfl rfl rfl ?_
                        refine ev_iconst (pc' := 110) (v := 3) dX7_first_109 rfl ki_3 ?_
                        refine ev_callV (pc' := 113) (rm' := rX7_refuse) (b := 3) (av := [.int 3]) (rest := []) co_X7_79 ci_X7_refuse cv_X7_refuse dX7_first_110 rfl hs_3 hb_X7 rfl rfl (Nat.le_of_ble_eq_true rfl) ⟨(Nat.le_of_ble_eq_true rfl), (Nat.le_of_ble_eq_true rfl)⟩ ⟨(Nat.le_of_ble_eq_true rfl), (Nat.le_of_ble_eq_true rfl)⟩ ?_
                        refine t_X7_refuse3 ?_
                        refine ev_cRf 3 ?_
                        refine ev_iret dX7_first_113 rfl rfl ⟨Nat.le_refl _, Nat.le_refl _⟩ ?_
                        exact k9 n2 hn2 rfl n4 hn4 rfl c5 n7 hn7 rfl n10 gn10 hn10 rfl c11 c12 c13 h14 h15
                      · skip
                        refine ev_if_ne (tgt := 114) (pc' := 108) dX7_first_105 rfl rfl (fun _ => ?_) (fun h => absurd h (by decide))
                        refine ev_aload_n (pc' := 115) (i := 0) dX7_first_114 rfl rfl rfl ?_
                        refine ev_getR (pc' := 118) fo_X7_11 dX7_first_115 rfl hs_3 rfl rf_3_0 ?_
                        refine ev_iload_n (pc' := 119) (i := 3) dX7_first_118 rfl rfl rfl ?_
                        refine ev_aald (pc' := 120) (j := n7) (b := 39 + 2 * n7) dX7_first_119 rfl hs_4 (Or.inl rfl) rfl (by omega) (Nat.le_of_ble_eq_true rfl) (hs_sheet n7 (by omega)).2.2.2 ?_
                        refine ev_getI (pc' := 123) (v := (I (39 + 2 * n7)) 1) fo_X7_91 dX7_first_120 rfl (hs_sheet n7 (by omega)).1 rfl rfl ?_
                        refine ev_iconst (pc' := 124) (v := 3) dX7_first_123 rfl ki_3 ?_
                        refine ev_icmp_ge (tgt := 133) (pc' := 127) dX7_first_124 rfl rfl (fun c16 => ?_) (fun c16 => ?_)
                        · refine ev_aload_n (pc' := 134) (i := 0) dX7_first_133 rfl rfl rfl ?_
                          refine ev_getR (pc' := 137) fo_X7_11 dX7_first_134 rfl hs_3 rfl rf_3_0 ?_
                          refine ev_iload_n (pc' := 138) (i := 3) dX7_first_137 rfl rfl rfl ?_
                          refine ev_aald (pc' := 139) (j := n7) (b := 39 + 2 * n7) dX7_first_138 rfl hs_4 (Or.inl rfl) rfl (by omega) (Nat.le_of_ble_eq_true rfl) (hs_sheet n7 (by omega)).2.2.2 ?_
                          refine ev_iconst (pc' := 140) (v := 3) dX7_first_139 rfl ki_3 ?_
                          refine ev_iconst (pc' := 141) (v := 4) dX7_first_140 rfl ki_4 ?_
                          refine ev_callV (pc' := 144) (rm' := rX3_goesBeyond) (b := 39 + 2 * n7) (av := [.int 3, .int 4]) (rest := []) co_X7_117 ci_X3_goesBeyond cv_X3_goesBeyond dX7_first_141 rfl (hs_sheet n7 (by omega)).1 hb_X3 rfl rfl (Nat.le_of_ble_eq_true rfl) ⟨(Nat.le_of_ble_eq_true rfl), (Nat.le_of_ble_eq_true rfl)⟩ ⟨(Nat.le_of_ble_eq_true rfl), (Nat.le_of_ble_eq_true rfl)⟩ ?_
                          refine t_X3_goesBeyond (39 + 2 * n7) (40 + 2 * n7) (hs_sheet n7 (by omega)).1 (hs_sheet n7 (by omega)).2.2.1 (hs_sheet n7 (by omega)).2.1 (by omega) 3 4 (by omega) (fun h17 => ?_) (fun h17 => ?_)
                          · skip
                            refine ev_if_eq (tgt := 153) (pc' := 147) dX7_first_144 rfl rfl (fun _ => ?_) (fun h => absurd (by decide) h)
                            refine ev_bipush (pc' := 155) (v := (-9)) dX7_first_153 rfl kb_m9 ?_
                            refine ev_istore (pc' := 157) (lv' := [some (.ref 3), some (.int (nI n2)), some (.int (nI n4)), some (.int (nI n7)), some (.int (nI n10)), some (.int (-9)), none]) dX7_first_155 rfl (Nat.le_of_ble_eq_true rfl) rfl rfl ?_
                            refine ev_iconst (pc' := 158) (v := 0) dX7_first_157 rfl ki_0 ?_
                            refine ev_istore (pc' := 160) (lv' := [some (.ref 3), some (.int (nI n2)), some (.int (nI n4)), some (.int (nI n7)), some (.int (nI n10)), some (.int (-9)), some (.int 0)]) dX7_first_158 rfl (Nat.le_of_ble_eq_true rfl) rfl rfl ?_
                            suffices lp : ∀ (dd k : Nat) (fd : Int32) (KK : ma_L), k + dd = n10 + 1 → cFrm L KK → (∀ i, i < k → mRl (cMov (L (57 + 5 * n4)) (I (40 + 2 * n7)) (nI i)) 30) → cFst (fun i => (cMt (cFo (L (57 + 5 * n2)) (cMov (L (57 + 5 * n4)) (I (40 + 2 * n7)) (nI i)) (cBl (I (59 + 5 * n2))) (cBl (I (59 + 5 * n4)))))) k fd → EV g yX7_first cX7_first 7 (some .int) rX7_first (ma_ZM g rX7_first Post) 160 [some (.ref 3), some (.int (nI n2)), some (.int (nI n4)), some (.int (nI n7)), some (.int (nI n10)), some (.int fd), some (.int (nI k))] [] HS I KK RF 146 0 0 from lp (n10 + 1) 0 _ _ (by omega) (fun _ _ => rfl) (fun i hi => absurd hi (Nat.not_lt_zero i)) (cFst_0 _)
                            intro dd
                            induction dd with
                            | zero =>
                              intro k fd KK hk hK hR hfs
                              obtain rfl : k = n10 + 1 := by omega
                              refine ev_iload (pc' := 162) dX7_first_160 rfl rfl ?_
                              refine ev_iload (pc' := 164) dX7_first_162 rfl rfl ?_
                              refine ev_icmp_gt (tgt := 257) (pc' := 167) dX7_first_164 rfl rfl (fun _ => ?_) (fun h => absurd (nx_lt (a := n10) (b := (n10 + 1)) (by omega) (by omega)) h)
                              refine ev_iload (pc' := 259) dX7_first_257 rfl rfl ?_
                              refine ev_iret dX7_first_259 rfl rfl ⟨Nat.le_refl _, Nat.le_refl _⟩ ?_
                              exact k10 n2 hn2 rfl n4 hn4 rfl c5 n7 hn7 rfl n10 gn10 hn10 rfl c11 c12 c13 h14 h15 c16 h17 fd KK hK hR hfs
                            | succ dd ih =>
                              intro k fd KK hk hK hR hfs
                              refine ev_iload (pc' := 162) dX7_first_160 rfl rfl ?_
                              refine ev_iload (pc' := 164) dX7_first_162 rfl rfl ?_
                              refine ev_icmp_gt (tgt := 257) (pc' := 167) dX7_first_164 rfl rfl (fun h => absurd h (nx_nlt (a := n10) (b := k) (by omega) (by omega))) (fun _ => ?_)
                              refine ev_aload_n (pc' := 168) (i := 0) dX7_first_167 rfl rfl rfl ?_
                              refine ev_getR (pc' := 171) fo_X7_24 dX7_first_168 rfl hs_3 rfl rf_3_2 ?_
                              refine ev_aload_n (pc' := 172) (i := 0) dX7_first_171 rfl rfl rfl ?_
                              refine ev_getR (pc' := 175) fo_X7_17 dX7_first_172 rfl hs_3 rfl rf_3_1 ?_
                              refine ev_iload_n (pc' := 176) (i := 2) dX7_first_175 rfl rfl rfl ?_
                              refine ev_aald (pc' := 177) (j := n4) (b := 55 + 5 * n4) dX7_first_176 rfl hs_5 (Or.inr rfl) rfl (by omega) (Nat.le_of_ble_eq_true rfl) (hs_ground n4 (by omega)).2.2.2.2.2.2.2.2.2 ?_
                              refine ev_getR (pc' := 180) fo_X7_141 dX7_first_177 rfl (hs_ground n4 (by omega)).1 rfl (hs_ground n4 (by omega)).2.2.2.2.2.1 ?_
                              refine ev_callV (pc' := 183) (rm' := rX4_become) (b := 6) (av := [.ref (56 + 5 * n4)]) (rest := []) co_X7_182 ci_X4_become cv_X4_become dX7_first_180 rfl hs_6 hb_X4 rfl rfl (Nat.le_of_ble_eq_true rfl) ⟨(Nat.le_of_ble_eq_true rfl), (Nat.le_of_ble_eq_true rfl)⟩ ⟨(Nat.le_of_ble_eq_true rfl), (Nat.le_of_ble_eq_true rfl)⟩ ?_
                              refine t_X4_become 6 7 hs_6 rf_6_0 hs_7 (56 + 5 * n4) (57 + 5 * n4) (hs_ground n4 (by omega)).2.1 (hs_ground n4 (by omega)).2.2.2.2.2.2.2.1 (hs_ground n4 (by omega)).2.2.1 (by omega) ?_
                              refine ev_aload_n (pc' := 184) (i := 0) dX7_first_183 rfl rfl rfl ?_
                              refine ev_getR (pc' := 187) fo_X7_24 dX7_first_184 rfl hs_3 rfl rf_3_2 ?_
                              refine ev_aload_n (pc' := 188) (i := 0) dX7_first_187 rfl rfl rfl ?_
                              refine ev_getR (pc' := 191) fo_X7_11 dX7_first_188 rfl hs_3 rfl rf_3_0 ?_
                              refine ev_iload_n (pc' := 192) (i := 3) dX7_first_191 rfl rfl rfl ?_
                              refine ev_aald (pc' := 193) (j := n7) (b := 39 + 2 * n7) dX7_first_192 rfl hs_4 (Or.inl rfl) rfl (by omega) (Nat.le_of_ble_eq_true rfl) (hs_sheet n7 (by omega)).2.2.2 ?_
                              refine ev_getR (pc' := 196) fo_X7_95 dX7_first_193 rfl (hs_sheet n7 (by omega)).1 rfl (hs_sheet n7 (by omega)).2.2.1 ?_
                              refine ev_iload (pc' := 198) dX7_first_196 rfl rfl ?_
                              refine ev_callV (pc' := 201) (rm' := rX4_moveBy) (b := 6) (av := [.ref (40 + 2 * n7), .int (nI k)]) (rest := []) co_X7_314 ci_X4_moveBy cv_X4_moveBy dX7_first_198 rfl hs_6 hb_X4 rfl rfl (Nat.le_of_ble_eq_true rfl) ⟨(Nat.le_of_ble_eq_true rfl), (Nat.le_of_ble_eq_true rfl)⟩ ⟨(Nat.le_of_ble_eq_true rfl), (Nat.le_of_ble_eq_true rfl)⟩ ?_
                              refine t_X4_moveBy (40 + 2 * n7) (nI k) (hs_sheet n7 (by omega)).2.1 ?_
                              refine ev_memL (fun K2 h2 => ?_)
                              have t7 : ∀ j, j < 16 → K2 7 j = (cMov (L (57 + 5 * n4)) (I (40 + 2 * n7)) (nI k)) j := fun j hj => by rw [h2, ma_up_s]; exact cMov_c _ _ (fun x hx => by unfold cBe; rw [mfill_at, if_pos (by omega)]; exact congrFun (hK (57 + 5 * n4) (by omega)) x) j hj
                              have hK2 : cFrm L K2 := fun x hx => by rw [h2, ma_up_n _ _ (by omega)]; unfold cBe; rw [mfill_n _ _ _ _ (by omega)]; exact hK x hx
                              refine ev_aload_n (pc' := 202) (i := 0) dX7_first_201 rfl rfl rfl ?_
                              refine ev_getR (pc' := 205) fo_X7_24 dX7_first_202 rfl hs_3 rfl rf_3_2 ?_
                              refine ev_bipush (pc' := 207) (v := 30) dX7_first_205 rfl kb_30 ?_
                              refine ev_callV (pc' := 210) (rm' := rX4_goesBeyond) (b := 6) (av := [.int 30]) (rest := []) co_X7_190 ci_X4_goesBeyond cv_X4_goesBeyond dX7_first_207 rfl hs_6 hb_X4 rfl rfl (Nat.le_of_ble_eq_true rfl) ⟨(Nat.le_of_ble_eq_true rfl), (Nat.le_of_ble_eq_true rfl)⟩ ⟨(Nat.le_of_ble_eq_true rfl), (Nat.le_of_ble_eq_true rfl)⟩ ?_
                              refine t_X4_goesBeyond 6 7 hs_6 rf_6_0 hs_7 30 (fun hrl => ?_) (fun hrl => ?_)
                              · skip
                                refine ev_if_eq (tgt := 216) (pc' := 213) dX7_first_210 rfl rfl (fun _ => ?_) (fun h => absurd (by decide) h)
                                refine ev_iload (pc' := 218) dX7_first_216 rfl rfl ?_
                                refine ev_bipush (pc' := 220) (v := (-9)) dX7_first_218 rfl kb_m9 ?_
                                refine ev_icmp_ne (tgt := 251) (pc' := 223) dX7_first_220 rfl rfl (fun c18 => ?_) (fun c18 => ?_)
                                · refine ev_iinc (pc' := 254) (v := nI (k + 1)) (lv' := [some (.ref 3), some (.int (nI n2)), some (.int (nI n4)), some (.int (nI n7)), some (.int (nI n10)), some (.int fd), some (.int (nI (k + 1)))]) dX7_first_251 rfl rfl (nI_add k 1) (Nat.le_of_ble_eq_true rfl) rfl rfl ?_
                                  refine ev_goto (tgt := 160) dX7_first_254 rfl ?_
                                  exact ih (k + 1) _ _ (by omega) hK2 (fun i hi => by rcases Nat.lt_succ_iff_lt_or_eq.mp hi with z | z; exact hR i z; rw [z]; exact (mRl_c _ t7).mp hrl) (cFst_k hfs c18)
                                · refine ev_aload_n (pc' := 224) (i := 0) dX7_first_223 rfl rfl rfl ?_
                                  refine ev_aload_n (pc' := 225) (i := 0) dX7_first_224 rfl rfl rfl ?_
                                  refine ev_getR (pc' := 228) fo_X7_17 dX7_first_225 rfl hs_3 rfl rf_3_1 ?_
                                  refine ev_iload_n (pc' := 229) (i := 1) dX7_first_228 rfl rfl rfl ?_
                                  refine ev_aald (pc' := 230) (j := n2) (b := 55 + 5 * n2) dX7_first_229 rfl hs_5 (Or.inr rfl) rfl (by omega) (Nat.le_of_ble_eq_true rfl) (hs_ground n2 (by omega)).2.2.2.2.2.2.2.2.2 ?_
                                  refine ev_aload_n (pc' := 231) (i := 0) dX7_first_230 rfl rfl rfl ?_
                                  refine ev_getR (pc' := 234) fo_X7_17 dX7_first_231 rfl hs_3 rfl rf_3_1 ?_
                                  refine ev_iload_n (pc' := 235) (i := 2) dX7_first_234 rfl rfl rfl ?_
                                  refine ev_aald (pc' := 236) (j := n4) (b := 55 + 5 * n4) dX7_first_235 rfl hs_5 (Or.inr rfl) rfl (by omega) (Nat.le_of_ble_eq_true rfl) (hs_ground n4 (by omega)).2.2.2.2.2.2.2.2.2 ?_
                                  refine ev_aload_n (pc' := 237) (i := 0) dX7_first_236 rfl rfl rfl ?_
                                  refine ev_getR (pc' := 240) fo_X7_24 dX7_first_237 rfl hs_3 rfl rf_3_2 ?_
                                  refine ev_callV (pc' := 243) (rm' := rX7_meeting) (b := 3) (av := [.ref (55 + 5 * n2), .ref (55 + 5 * n4), .ref 6]) (rest := []) co_X7_310 ci_X7_meeting cv_X7_meeting dX7_first_240 rfl hs_3 hb_X7 rfl rfl (Nat.le_of_ble_eq_true rfl) ⟨(Nat.le_of_ble_eq_true rfl), (Nat.le_of_ble_eq_true rfl)⟩ ⟨(Nat.le_of_ble_eq_true rfl), (Nat.le_of_ble_eq_true rfl)⟩ ?_
                                  refine t_X7_meeting (55 + 5 * n2) (55 + 5 * n4) 6 (56 + 5 * n2) (59 + 5 * n2) (57 + 5 * n2) (56 + 5 * n4) (59 + 5 * n4) 7 (hs_ground n2 (by omega)).1 (hs_ground n2 (by omega)).2.2.2.2.2.1 (hs_ground n2 (by omega)).2.2.2.2.2.2.1 (hs_ground n2 (by omega)).2.2.2.2.1 (hs_ground n2 (by omega)).2.1 (hs_ground n2 (by omega)).2.2.2.2.2.2.2.1 (hs_ground n2 (by omega)).2.2.1 (hs_ground n4 (by omega)).1 (hs_ground n4 (by omega)).2.2.2.2.2.1 (hs_ground n4 (by omega)).2.2.2.2.2.2.1 (hs_ground n4 (by omega)).2.2.2.2.1 hs_6 rf_6_0 hs_7 (by omega) (by omega) (fun m q hm hq => by rw [cFo_c _ _ (fun x _ => congrFun (hK2 (57 + 5 * n2) (by omega)) x) t7]; exact hP n2 n4 n7 k (by omega) (by omega) (by omega) (by omega) ((mRl_c _ t7).mp hrl) m q hm hq) (fun j19 j20 h21 j22 h23 j24 j25 j26 j27 => ?_)
                                  refine ev_topi (fun mt hm0 => ?_)
                                  have hmt : mt = (cMt (cFo (L (57 + 5 * n2)) (cMov (L (57 + 5 * n4)) (I (40 + 2 * n7)) (nI k)) (cBl (I (59 + 5 * n2))) (cBl (I (59 + 5 * n4))))) := by rw [hm0, h23]; refine (cMt_c h21).trans ?_; unfold cBl; rw [cFo_c _ _ (fun x _ => congrFun (hK2 (57 + 5 * n2) (by omega)) x) t7]
                                  refine ev_iconst (pc' := 244) (v := 2) dX7_first_243 rfl ki_2 ?_
                                  refine ev_icmp_eq (tgt := 251) (pc' := 247) dX7_first_244 rfl rfl (fun c28 => ?_) (fun c28 => ?_)
                                  · refine ev_iinc (pc' := 254) (v := nI (k + 1)) (lv' := [some (.ref 3), some (.int (nI n2)), some (.int (nI n4)), some (.int (nI n7)), some (.int (nI n10)), some (.int fd), some (.int (nI (k + 1)))]) dX7_first_251 rfl rfl (nI_add k 1) (Nat.le_of_ble_eq_true rfl) rfl rfl ?_
                                    refine ev_goto (tgt := 160) dX7_first_254 rfl ?_
                                    exact ih (k + 1) _ _ (by omega) (fun x hx => by rw [ma_up_n _ _ (by omega), ma_up_n _ _ (by omega), ma_up_n _ _ (by omega), ma_up_n _ _ (by omega), h23, ma_up_n _ _ (by omega), ma_up_n _ _ (by omega), ma_up_n _ _ (by omega)]; exact hK2 x hx) (fun i hi => by rcases Nat.lt_succ_iff_lt_or_eq.mp hi with z | z; exact hR i z; rw [z]; exact (mRl_c _ t7).mp hrl) (cFst_y hfs (by omega) c18 (hmt.symm.trans c28))
                                  · refine ev_iload (pc' := 249) dX7_first_247 rfl rfl ?_
                                    refine ev_istore (pc' := 251) (lv' := [some (.ref 3), some (.int (nI n2)), some (.int (nI n4)), some (.int (nI n7)), some (.int (nI n10)), some (.int (nI k)), some (.int (nI k))]) dX7_first_249 rfl (Nat.le_of_ble_eq_true rfl) rfl rfl ?_
                                    refine ev_iinc (pc' := 254) (v := nI (k + 1)) (lv' := [some (.ref 3), some (.int (nI n2)), some (.int (nI n4)), some (.int (nI n7)), some (.int (nI n10)), some (.int (nI k)), some (.int (nI (k + 1)))]) dX7_first_251 rfl rfl (nI_add k 1) (Nat.le_of_ble_eq_true rfl) rfl rfl ?_
                                    refine ev_goto (tgt := 160) dX7_first_254 rfl ?_
                                    exact ih (k + 1) _ _ (by omega) (fun x hx => by rw [ma_up_n _ _ (by omega), ma_up_n _ _ (by omega), ma_up_n _ _ (by omega), ma_up_n _ _ (by omega), h23, ma_up_n _ _ (by omega), ma_up_n _ _ (by omega), ma_up_n _ _ (by omega)]; exact hK2 x hx) (fun i hi => by rcases Nat.lt_succ_iff_lt_or_eq.mp hi with z | z; exact hR i z; rw [z]; exact (mRl_c _ t7).mp hrl) (cFst_n hfs (by omega) c18 (fun z => c28 (hmt.trans z)))
                              · have hnr : ¬ mRl (cMov (L (57 + 5 * n4)) (I (40 + 2 * n7)) (nI k)) 30 := fun z => hrl ((mRl_c _ t7).mpr z)
                                refine ev_if_eq (tgt := 216) (pc' := 213) dX7_first_210 rfl rfl (fun h => absurd h (by decide)) (fun _ => ?_)
                                refine ev_bipush (pc' := 215) (v := (-6)) dX7_first_213 rfl kb_m6 ?_
                                refine ev_iret dX7_first_215 rfl rfl ⟨Nat.le_refl _, Nat.le_refl _⟩ ?_
                                exact k11 n2 hn2 rfl n4 hn4 rfl c5 n7 hn7 rfl n10 gn10 hn10 rfl c11 c12 c13 h14 h15 c16 h17 k (show k < n10 + 1 by omega) fd KK hK K2 hK2 hnr
                          · skip
                            refine ev_if_eq (tgt := 153) (pc' := 147) dX7_first_144 rfl rfl (fun h => absurd h (by decide)) (fun _ => ?_)
                            refine ev_aload_n (pc' := 148) (i := 0) dX7_first_147 rfl rfl rfl ?_
                            refine ev_iconst (pc' := 149) (v := 2) dX7_first_148 rfl ki_2 ?_
                            refine ev_callV (pc' := 152) (rm' := rX7_refuse) (b := 3) (av := [.int 2]) (rest := []) co_X7_79 ci_X7_refuse cv_X7_refuse dX7_first_149 rfl hs_3 hb_X7 rfl rfl (Nat.le_of_ble_eq_true rfl) ⟨(Nat.le_of_ble_eq_true rfl), (Nat.le_of_ble_eq_true rfl)⟩ ⟨(Nat.le_of_ble_eq_true rfl), (Nat.le_of_ble_eq_true rfl)⟩ ?_
                            refine t_X7_refuse2 ?_
                            refine ev_cRf 2 ?_
                            refine ev_iret dX7_first_152 rfl rfl ⟨Nat.le_refl _, Nat.le_refl _⟩ ?_
                            exact k12 n2 hn2 rfl n4 hn4 rfl c5 n7 hn7 rfl n10 gn10 hn10 rfl c11 c12 c13 h14 h15 c16 h17
                        · refine ev_aload_n (pc' := 128) (i := 0) dX7_first_127 rfl rfl rfl ?_
                          refine ev_iconst (pc' := 129) (v := 5) dX7_first_128 rfl ki_5 ?_
                          refine ev_callV (pc' := 132) (rm' := rX7_refuse) (b := 3) (av := [.int 5]) (rest := []) co_X7_79 ci_X7_refuse cv_X7_refuse dX7_first_129 rfl hs_3 hb_X7 rfl rfl (Nat.le_of_ble_eq_true rfl) ⟨(Nat.le_of_ble_eq_true rfl), (Nat.le_of_ble_eq_true rfl)⟩ ⟨(Nat.le_of_ble_eq_true rfl), (Nat.le_of_ble_eq_true rfl)⟩ ?_
                          refine t_X7_refuse5 ?_
                          refine ev_cRf 5 ?_
                          refine ev_iret dX7_first_132 rfl rfl ⟨Nat.le_refl _, Nat.le_refl _⟩ ?_
                          exact k13 n2 hn2 rfl n4 hn4 rfl c5 n7 hn7 rfl n10 gn10 hn10 rfl c11 c12 c13 h14 h15 c16
                  · refine ev_aload_n (pc' := 77) (i := 0) dX7_first_76 rfl rfl rfl ?_
                    refine ev_iconst (pc' := 78) (v := 1) dX7_first_77 rfl ki_1 ?_
                    refine ev_callV (pc' := 81) (rm' := rX7_refuse) (b := 3) (av := [.int 1]) (rest := []) co_X7_79 ci_X7_refuse cv_X7_refuse dX7_first_78 rfl hs_3 hb_X7 rfl rfl (Nat.le_of_ble_eq_true rfl) ⟨(Nat.le_of_ble_eq_true rfl), (Nat.le_of_ble_eq_true rfl)⟩ ⟨(Nat.le_of_ble_eq_true rfl), (Nat.le_of_ble_eq_true rfl)⟩ ?_
                    refine t_X7_refuse1 ?_
                    refine ev_cRf 1 ?_
                    refine ev_iret dX7_first_81 rfl rfl ⟨Nat.le_refl _, Nat.le_refl _⟩ ?_
                    exact k14 n2 hn2 rfl n4 hn4 rfl c5 n7 hn7 rfl n10 gn10 hn10 rfl c11 c12 c13
            · refine ev_iconst (pc' := 39) (v := (-1)) dX7_first_38 rfl ki_m1 ?_
              refine ev_iret dX7_first_39 rfl rfl ⟨Nat.le_refl _, Nat.le_refl _⟩ ?_
              exact k15 n2 hn2 rfl n4 hn4 rfl c5 n7 hn7 rfl c8 c9
