def cQq (f : Nat → Int64) (m q : Int64) : Nat → Int64
  | 0 => f 0 / q
  | k + 1 => (f (k + 1) + m * cQq f m q k) / q
theorem cQq_m (f : Nat → Int64) (m q : Int64) : ∀ k, cQq f m q k = mDq f m q k
  | 0 => by show f 0 / q = (f 0 + 0) / q; rw [Int64.add_zero]
  | k + 1 => by show (f (k + 1) + m * cQq f m q k) / q = (f (k + 1) + mDq f m q k * m) / q; rw [cQq_m f m q k, Int64.mul_comm]
def cRw (f : Nat → Int64) (m q : Int64) (k : Nat) : Nat → Int64 := fun j => if j < k then cQq f m q j else f j
theorem cRw_1 (f : Nat → Int64) (m q : Int64) : ma_up f 0 (f 0 / q) = cRw f m q 1 := by
  have h := lf_s (cQq f m q) f 0
  rw [lf_0] at h
  exact h
theorem cRw_s (f : Nat → Int64) (m q : Int64) (k : Nat) : ma_up (cRw f m q (k + 1)) (k + 1) ((cRw f m q (k + 1) (k + 1) + m * cRw f m q (k + 1) k) / q) = cRw f m q (k + 1 + 1) := by
  have h := lf_s (cQq f m q) f (k + 1)
  have e1 : cRw f m q (k + 1) (k + 1) = f (k + 1) := if_neg (by omega)
  have e2 : cRw f m q (k + 1) k = cQq f m q k := if_pos (by omega)
  rw [e1, e2]
  exact h
theorem cRw_q (f : Nat → Int64) (m q : Int64) (k : Nat) : cRw f m q k = fun j => if j < k then mDq f m q j else f j := by
  funext j; unfold cRw; rw [cQq_m]
def cCo (f l : Nat → Int64) (k : Nat) : Nat → Int64 := fun j => if j < k then f j else l j
theorem cCo_0 (f l : Nat → Int64) : cCo f l 0 = l := lf_0 _ _
theorem cCo_s (f l : Nat → Int64) (k : Nat) : ma_up (cCo f l k) k (f k) = cCo f l (k + 1) := lf_s f l k
theorem u_X0_valueBy {g : ma_G} {Post : ma_P} {I : ma_I} {L : ma_L} (d : Nat) (h1 : 0 < d) (h4 : d < 5) (m q : Int64) (k : Post (some (.long (mAt d (L 14) m q))) HS I L RF 146) : CT g yX0_valueBy cX0_valueBy 11 (some .long) rX0_valueBy [.ref 14, .int (nI d), .long m, .long q] Post HS I L RF 146 := by
  match d, h1, h4 with
  | 1, _, _ => exact t_X0_valueBy141 m q k
  | 2, _, _ => exact t_X0_valueBy142 m q k
  | 3, _, _ => exact t_X0_valueBy143 m q k
  | 4, _, _ => exact t_X0_valueBy144 m q k
set_option maxRecDepth 4000 in
theorem t_X0_timesAt {g : ma_G} {Post : ma_P} {I : ma_I} {L : ma_L}  (m : Int64) (q : Int64) (hq : ¬ q = 0) (k0 : ∀ R : Nat → Int64, Post (some (.int (nI (mTo (L 13) 0 4 m q)))) HS I (ma_up L 14 R) RF 146) : CT g yX0_timesAt cX0_timesAt 8 (some .int) rX0_timesAt [.ref 12, .long m, .long q] Post HS I L RF 146 := by
  refine ct_of (lv := [some (.ref 12), some (.long m), none, some (.long q), none, none, none, none]) (by decide) (Nat.le_of_ble_eq_true rfl) rfl ?_
  refine ev_lload_n (pc' := 1) (i := 3) dX0_timesAt_0 rfl rfl rfl ?_
  refine ev_lconst (pc' := 2) (v := 0) dX0_timesAt_1 rfl kl_0 ?_
  refine ev_lc_ne (p1 := 3) (tgt := 8) (pc' := 6) dX0_timesAt_2 rfl dX0_timesAt_3 rfl rfl (fun _ => ?_) (fun h => absurd h hq)
  refine ev_iconst (pc' := 9) (v := 0) dX0_timesAt_8 rfl ki_0 ?_
  refine ev_istore (pc' := 11) (lv' := [some (.ref 12), some (.long m), none, some (.long q), none, some (.int 0), none, none]) dX0_timesAt_9 rfl (Nat.le_of_ble_eq_true rfl) rfl rfl ?_
  suffices lp2 : ∀ (x1 r : Nat), r + x1 = 5 → EV g yX0_timesAt cX0_timesAt 8 (some .int) rX0_timesAt (ma_ZM g rX0_timesAt Post) 11 [some (.ref 12), some (.long m), none, some (.long q), none, some (.int (nI r)), none, none] [] HS I (ma_up L 14 (cCo (L 13) (L 14) r)) RF 146 0 0 by
    refine ev_memL (fun z hz => ?_)
    have hz : z = ma_up L 14 (cCo (L 13) (L 14) 0) := hz.trans (by rw [cCo_0, ma_up_self])
    subst hz
    exact lp2 5 0 rfl
  intro x1
  induction x1 with
  | zero =>
    intro r hr
    obtain rfl : r = 5 := by omega
    refine ev_iload (pc' := 13) dX0_timesAt_11 rfl rfl ?_
    refine ev_iconst (pc' := 14) (v := 5) dX0_timesAt_13 rfl ki_5 ?_
    refine ev_icmp_ge (tgt := 37) (pc' := 17) dX0_timesAt_14 rfl rfl (fun _ => ?_) (fun h => absurd (nx_le (a := 5) (b := 5) (by omega) (by omega)) h)
    refine ev_iconst (pc' := 38) (v := 0) dX0_timesAt_37 rfl ki_0 ?_
    refine ev_istore (pc' := 40) (lv' := [some (.ref 12), some (.long m), none, some (.long q), none, some (.int 0), none, none]) dX0_timesAt_38 rfl (Nat.le_of_ble_eq_true rfl) rfl rfl ?_
    refine ev_iconst (pc' := 41) (v := 4) dX0_timesAt_40 rfl ki_4 ?_
    refine ev_istore (pc' := 43) (lv' := [some (.ref 12), some (.long m), none, some (.long q), none, some (.int 0), some (.int 4), none]) dX0_timesAt_41 rfl (Nat.le_of_ble_eq_true rfl) rfl rfl ?_
    suffices lt : ∀ (d n : Nat) (f : Nat → Int64), n + d = 4 → mTk m q d f = mTk m q 4 (cCo (L 13) (L 14) 5) → EV g yX0_timesAt cX0_timesAt 8 (some .int) rX0_timesAt (ma_ZM g rX0_timesAt Post) 43 [some (.ref 12), some (.long m), none, some (.long q), none, some (.int (nI n)), some (.int (nI d)), none] [] HS I (ma_up L 14 f) RF 146 0 0 from lt 4 0 (cCo (L 13) (L 14) 5) rfl rfl
    intro d
    induction d with
    | zero =>
      intro n f hn hT
      refine ev_iload (pc' := 45) dX0_timesAt_43 rfl rfl ?_
      refine ev_if_le (tgt := 134) (pc' := 48) dX0_timesAt_45 rfl rfl (fun _ => ?_) (fun h => absurd (nx_le (a := 0) (b := 0) (by omega) (by omega)) h)
      refine ev_iload (pc' := 136) dX0_timesAt_134 rfl rfl ?_
      refine ev_iret dX0_timesAt_136 rfl rfl ⟨Nat.le_refl _, Nat.le_refl _⟩ ?_
      have e1 : 0 = (mTk m q 4 (fun j => L 13 (0 + j))).1 := by
        rw [mTk_congr m q 4 (f' := (cCo (L 13) (L 14) 5)) (by omega) (fun j hj => by rw [Nat.zero_add]; exact (if_pos (by omega)).symm), ← hT]
        exact rfl
      have e2 : mTo (L 13) 0 4 m q = n := by unfold mTo; rw [← e1]; omega
      rw [e2] at k0
      exact k0 _
    | succ d ih =>
      intro n f hn hT
      refine ev_iload (pc' := 45) dX0_timesAt_43 rfl rfl ?_
      refine ev_if_le (tgt := 134) (pc' := 48) dX0_timesAt_45 rfl rfl (fun h => absurd h (nx_nle (a := (d + 1)) (b := 0) (by omega) (by omega))) (fun _ => ?_)
      refine ev_aload_n (pc' := 49) (i := 0) dX0_timesAt_48 rfl rfl rfl ?_
      refine ev_getR (pc' := 52) fo_X0_15 dX0_timesAt_49 rfl hs_12 rfl rf_12_1 ?_
      refine ev_iload (pc' := 54) dX0_timesAt_52 rfl rfl ?_
      refine ev_lload_n (pc' := 55) (i := 1) dX0_timesAt_54 rfl rfl rfl ?_
      refine ev_lload_n (pc' := 56) (i := 3) dX0_timesAt_55 rfl rfl rfl ?_
      refine ev_callS (pc' := 59) (rm' := rX0_valueBy) (av := [.ref 14, .int (nI (d + 1)), .long m, .long q]) (rest := []) co_X0_134 cs_X0_valueBy dX0_timesAt_56 rfl rfl rfl (Nat.le_of_ble_eq_true rfl) ⟨(Nat.le_of_ble_eq_true rfl), (Nat.le_of_ble_eq_true rfl)⟩ ⟨(Nat.le_of_ble_eq_true rfl), (Nat.le_of_ble_eq_true rfl)⟩ ?_
      refine u_X0_valueBy (d + 1) (by omega) (by omega) m q ?_
      refine ev_eql (w := mAt (d + 1) f m q) rfl ?_
      refine ev_lconst (pc' := 60) (v := 0) dX0_timesAt_59 rfl kl_0 ?_
      refine ev_lc_eq (p1 := 61) (tgt := 67) (pc' := 64) dX0_timesAt_60 rfl dX0_timesAt_61 rfl rfl (fun c3 => ?_) (fun c3 => ?_)
      · refine ev_iinc (pc' := 70) (v := nI (n + 1)) (lv' := [some (.ref 12), some (.long m), none, some (.long q), none, some (.int (nI (n + 1))), some (.int (nI (d + 1))), none]) dX0_timesAt_67 rfl rfl (nI_add n 1) (Nat.le_of_ble_eq_true rfl) rfl rfl ?_
        refine ev_aload_n (pc' := 71) (i := 0) dX0_timesAt_70 rfl rfl rfl ?_
        refine ev_getR (pc' := 74) fo_X0_15 dX0_timesAt_71 rfl hs_12 rfl rf_12_1 ?_
        refine ev_iconst (pc' := 75) (v := 0) dX0_timesAt_74 rfl ki_0 ?_
        refine ev_aload_n (pc' := 76) (i := 0) dX0_timesAt_75 rfl rfl rfl ?_
        refine ev_getR (pc' := 79) fo_X0_15 dX0_timesAt_76 rfl hs_12 rfl rf_12_1 ?_
        refine ev_iconst (pc' := 80) (v := 0) dX0_timesAt_79 rfl ki_0 ?_
        refine ev_lald (pc' := 81) (j := 0) (v := f 0) dX0_timesAt_80 rfl hs_14 rfl (Nat.le_of_ble_eq_true rfl) (Nat.le_of_ble_eq_true rfl) rfl ?_
        refine ev_lload_n (pc' := 82) (i := 3) dX0_timesAt_81 rfl rfl rfl ?_
        refine ev_ldiv (pc' := 83) (v := (f 0) / q) dX0_timesAt_82 rfl hq rfl ?_
        refine ev_last (pc' := 84) (j := 0) (L' := (ma_up L 14 (ma_up f 0 ((f 0) / q)))) dX0_timesAt_83 rfl hs_14 rfl (Nat.le_of_ble_eq_true rfl) (Nat.le_of_ble_eq_true rfl) (ma_up_up _ _ _ _) ?_
        refine ev_iconst (pc' := 85) (v := 1) dX0_timesAt_84 rfl ki_1 ?_
        refine ev_istore (pc' := 87) (lv' := [some (.ref 12), some (.long m), none, some (.long q), none, some (.int (nI (n + 1))), some (.int (nI (d + 1))), some (.int 1)]) dX0_timesAt_85 rfl (Nat.le_of_ble_eq_true rfl) rfl rfl ?_
        suffices lk : ∀ (e k : Nat), k + e = d → EV g yX0_timesAt cX0_timesAt 8 (some .int) rX0_timesAt (ma_ZM g rX0_timesAt Post) 87 [some (.ref 12), some (.long m), none, some (.long q), none, some (.int (nI (n + 1))), some (.int (nI (d + 1))), some (.int (nI (k + 1)))] [] HS I (ma_up L 14 (cRw f m q (k + 1))) RF 146 0 0 by
          refine ev_memL (fun z hz => ?_)
          have hz := hz.trans (congrArg (ma_up L 14) (cRw_1 f m q))
          subst hz
          exact lk d 0 (by omega)
        intro e
        induction e with
        | zero =>
          intro k hk
          obtain rfl : d = k := by omega
          refine ev_iload (pc' := 89) dX0_timesAt_87 rfl rfl ?_
          refine ev_iload (pc' := 91) dX0_timesAt_89 rfl rfl ?_
          refine ev_icmp_ge (tgt := 128) (pc' := 94) dX0_timesAt_91 rfl rfl (fun _ => ?_) (fun h => absurd (nx_le (a := (d + 1)) (b := (d + 1)) (by omega) (by omega)) h)
          refine ev_iinc (pc' := 131) (v := nI d) (lv' := [some (.ref 12), some (.long m), none, some (.long q), none, some (.int (nI (n + 1))), some (.int (nI d)), some (.int (nI (d + 1)))]) dX0_timesAt_128 rfl rfl (pk_m1 d) (Nat.le_of_ble_eq_true rfl) rfl rfl ?_
          refine ev_goto (tgt := 43) dX0_timesAt_131 rfl ?_
          refine ev_lvw (lv' := [some (.ref 12), some (.long m), none, some (.long q), none, some (.int (nI (n + 1))), some (.int (nI d)), none]) ⟨rfl, ⟨rfl, ⟨rfl, ⟨rfl, ⟨rfl, trivial⟩⟩⟩⟩⟩ ?_
          exact ih (n + 1) _ (by omega) (by rw [cRw_q]; exact (mTk_y c3).symm.trans hT)
        | succ e ihk =>
          intro k hk
          refine ev_iload (pc' := 89) dX0_timesAt_87 rfl rfl ?_
          refine ev_iload (pc' := 91) dX0_timesAt_89 rfl rfl ?_
          refine ev_icmp_ge (tgt := 128) (pc' := 94) dX0_timesAt_91 rfl rfl (fun h => absurd h (nx_nle (a := (d + 1)) (b := (k + 1)) (by omega) (by omega))) (fun _ => ?_)
          refine ev_aload_n (pc' := 95) (i := 0) dX0_timesAt_94 rfl rfl rfl ?_
          refine ev_getR (pc' := 98) fo_X0_15 dX0_timesAt_95 rfl hs_12 rfl rf_12_1 ?_
          refine ev_iload (pc' := 100) dX0_timesAt_98 rfl rfl ?_
          refine ev_aload_n (pc' := 101) (i := 0) dX0_timesAt_100 rfl rfl rfl ?_
          refine ev_getR (pc' := 104) fo_X0_15 dX0_timesAt_101 rfl hs_12 rfl rf_12_1 ?_
          refine ev_iload (pc' := 106) dX0_timesAt_104 rfl rfl ?_
          refine ev_lald (pc' := 107) (j := k + 1) (v := (cRw f m q (k + 1)) (k + 1)) dX0_timesAt_106 rfl hs_14 rfl (by omega) (Nat.le_of_ble_eq_true rfl) rfl ?_
          refine ev_lload_n (pc' := 108) (i := 1) dX0_timesAt_107 rfl rfl rfl ?_
          refine ev_aload_n (pc' := 109) (i := 0) dX0_timesAt_108 rfl rfl rfl ?_
          refine ev_getR (pc' := 112) fo_X0_15 dX0_timesAt_109 rfl hs_12 rfl rf_12_1 ?_
          refine ev_iload (pc' := 114) dX0_timesAt_112 rfl rfl ?_
          refine ev_iconst (pc' := 115) (v := 1) dX0_timesAt_114 rfl ki_1 ?_
          refine ev_isub (pc' := 116) (v := nI k) dX0_timesAt_115 rfl (nI_sub1 (n := k + 1) (Nat.succ_pos _)) ?_
          refine ev_lald (pc' := 117) (j := k) (v := (cRw f m q (k + 1)) k) dX0_timesAt_116 rfl hs_14 rfl (by omega) (Nat.le_of_ble_eq_true rfl) rfl ?_
          refine ev_lmul (pc' := 118) (v := m * ((cRw f m q (k + 1)) k)) dX0_timesAt_117 rfl rfl ?_
          refine ev_ladd (pc' := 119) (v := ((cRw f m q (k + 1)) (k + 1)) + (m * ((cRw f m q (k + 1)) k))) dX0_timesAt_118 rfl rfl ?_
          refine ev_lload_n (pc' := 120) (i := 3) dX0_timesAt_119 rfl rfl rfl ?_
          refine ev_ldiv (pc' := 121) (v := (((cRw f m q (k + 1)) (k + 1)) + (m * ((cRw f m q (k + 1)) k))) / q) dX0_timesAt_120 rfl hq rfl ?_
          refine ev_last (pc' := 122) (j := k + 1) (L' := (ma_up L 14 (ma_up (cRw f m q (k + 1)) (k + 1) ((((cRw f m q (k + 1)) (k + 1)) + (m * ((cRw f m q (k + 1)) k))) / q)))) dX0_timesAt_121 rfl hs_14 rfl (by omega) (Nat.le_of_ble_eq_true rfl) (ma_up_up _ _ _ _) ?_
          refine ev_iinc (pc' := 125) (v := nI ((k + 1) + 1)) (lv' := [some (.ref 12), some (.long m), none, some (.long q), none, some (.int (nI (n + 1))), some (.int (nI (d + 1))), some (.int (nI ((k + 1) + 1)))]) dX0_timesAt_122 rfl rfl (nI_add (k + 1) 1) (Nat.le_of_ble_eq_true rfl) rfl rfl ?_
          refine ev_goto (tgt := 87) dX0_timesAt_125 rfl ?_
          refine ev_memL (fun z hz => ?_)
          have hz := hz.trans (congrArg (ma_up L 14) (cRw_s f m q k))
          subst hz
          exact ihk (k + 1) (by omega)
      · refine ev_iload (pc' := 66) dX0_timesAt_64 rfl rfl ?_
        refine ev_iret dX0_timesAt_66 rfl rfl ⟨Nat.le_refl _, Nat.le_refl _⟩ ?_
        have e1 : (d + 1) = (mTk m q 4 (fun j => L 13 (0 + j))).1 := by
          rw [mTk_congr m q 4 (f' := (cCo (L 13) (L 14) 5)) (by omega) (fun j hj => by rw [Nat.zero_add]; exact (if_pos (by omega)).symm), ← hT]
          exact (congrArg Prod.fst (mTk_n c3)).symm
        have e2 : mTo (L 13) 0 4 m q = n := by unfold mTo; rw [← e1]; omega
        rw [e2] at k0
        exact k0 _
  | succ x1 ihx1 =>
    intro r hr
    refine ev_iload (pc' := 13) dX0_timesAt_11 rfl rfl ?_
    refine ev_iconst (pc' := 14) (v := 5) dX0_timesAt_13 rfl ki_5 ?_
    refine ev_icmp_ge (tgt := 37) (pc' := 17) dX0_timesAt_14 rfl rfl (fun h => absurd h (nx_nle (a := 5) (b := r) (by omega) (by omega))) (fun _ => ?_)
    refine ev_aload_n (pc' := 18) (i := 0) dX0_timesAt_17 rfl rfl rfl ?_
    refine ev_getR (pc' := 21) fo_X0_15 dX0_timesAt_18 rfl hs_12 rfl rf_12_1 ?_
    refine ev_iload (pc' := 23) dX0_timesAt_21 rfl rfl ?_
    refine ev_aload_n (pc' := 24) (i := 0) dX0_timesAt_23 rfl rfl rfl ?_
    refine ev_getR (pc' := 27) fo_X0_9 dX0_timesAt_24 rfl hs_12 rfl rf_12_0 ?_
    refine ev_iload (pc' := 29) dX0_timesAt_27 rfl rfl ?_
    refine ev_lald (pc' := 30) (j := r) (v := (L 13) r) dX0_timesAt_29 rfl hs_13 rfl (by omega) (Nat.le_of_ble_eq_true rfl) rfl ?_
    refine ev_last (pc' := 31) (j := r) (L' := (ma_up L 14 (ma_up (cCo (L 13) (L 14) r) r ((L 13) r)))) dX0_timesAt_30 rfl hs_14 rfl (by omega) (Nat.le_of_ble_eq_true rfl) (ma_up_up _ _ _ _) ?_
    refine ev_iinc (pc' := 34) (v := nI (r + 1)) (lv' := [some (.ref 12), some (.long m), none, some (.long q), none, some (.int (nI (r + 1))), none, none]) dX0_timesAt_31 rfl rfl (nI_add r 1) (Nat.le_of_ble_eq_true rfl) rfl rfl ?_
    refine ev_goto (tgt := 11) dX0_timesAt_34 rfl ?_
    refine ev_memL (fun z hz => ?_)
    have hz := hz.trans (congrArg (ma_up L 14) (cCo_s (L 13) (L 14) r))
    subst hz
    exact ihx1 (r + 1) (by omega)
