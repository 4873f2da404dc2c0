theorem cIs_3 {s : sG} {I : ma_I} {L : ma_L} {g : Nat} (h : rcG s I L g) : cIs (I (59 + 5 * g)) 3 ↔ s.1 124 (10 * g) = 3 := by
  have e := h.2.2 0 (by omega)
  rw [Nat.add_zero] at e
  unfold cIs
  rw [e]
  exact ⟨fun q => q.elim (fun z => absurd z (by decide)) (fun q => q.elim id (fun z => absurd z.1 (by decide))), fun q => Or.inr (Or.inl q)⟩
theorem tn_C {s : sG} {I : ma_I} {L : ma_L} (hW : wF s) (hC : ∀ g, g < 12 → rcG s I L g) {g : Nat} (hg : g < 12) (h3 : s.1 124 (10 * g) = 3) : (if ((I (59 + 5 * g)) 1) ≤ ((I (59 + 5 * g)) 2) then (-1 : Int32) else 1) = mTn (s.1 124) g := by
  have e := (BT_pd hW hg h3).2.2
  rw [(hC g hg).2.2 1 (by omega), (hC g hg).2.2 2 (by omega)]
  exact e
theorem tz4 {s : sG} (hW : wF s) {g : Nat} (hg : g < 12) {M : Int32} (hM : sgn1 M) : ∀ j, j < 16 → (tz s g j * M.toInt).natAbs ≤ 4 := fun j hj => by
  have := tz_b (hW.2.1 g hg) j hj
  rcases hM with e | e
  · rw [e, show (1 : Int32).toInt = 1 by decide]; omega
  · rw [e, show (-1 : Int32).toInt = -1 by decide]; omega
theorem cFo_t {s : sG} {I : ma_I} {L : ma_L} (hW : wF s) (hC : ∀ g, g < 12 → rcG s I L g) {g h : Nat} (hg : g < 12) (hh : h < 12) {M Q : Int32} (hM : sgn1 M) (hQ : sgn1 Q) : bd (zF (fun j => tz s g j * M.toInt) (fun j => tz s h j * Q.toInt)) ∧ ∀ k, k < 5 → cFo (L (57 + 5 * g)) (L (57 + 5 * h)) M Q k = Int64.ofInt (zF (fun j => tz s g j * M.toInt) (fun j => tz s h j * Q.toInt) k) := by
  have b := zF_b (tz4 hW hg hM) (fun j hj => mvB_4 (tz4 hW hh hQ j hj))
  exact ⟨b, cFo_z hM hQ (fun j hj => ((hC g hg).2.1 j hj).trans (i2l_o _)) (fun j hj => ((hC h hh).2.1 j hj).trans (i2l_o _)) (fun k hk => Nat.le_trans (bd_s b k hk) (by decide))⟩
theorem BF_C1 {s : sG} {I : ma_I} {L : ma_L} (hW : wF s) (hC : ∀ g, g < 12 → rcG s I L g) {g h : Nat} (hg : g < 12) (hh : h < 12) : ∀ k, k < 5 → cFo (L (57 + 5 * g)) (L (57 + 5 * h)) (mTn (s.1 124) g) (mTn (s.1 124) h) k = Int64.ofInt (BF s g h 0 0 0 k) := fun k hk => by
  rw [(cFo_t hW hC hg hh (mTn_pm _ _) (mTn_pm _ _)).2 k hk]
  unfold BF
  rw [zF_c (A' := BT s g) (B' := zMv (BT s h) 0 0 0) (fun j hj => ?_) (fun j hj => ?_)]
  · exact Int.mul_comm _ _
  · rw [zMv_0 _ (BT_s hW hh) j hj]; exact Int.mul_comm _ _
theorem zMv_4 {s : sG} (hW : wF s) {h : Nat} (hh : h < 12) : ∀ j, j < 16 → (zMv (BT s h) 0 0 0 j).natAbs ≤ 30 := fun j hj => by
  rw [zMv_0 _ (BT_s hW hh) j hj]
  have := BT_b hW hh j hj
  omega
theorem BF_M0 {s : sG} (hW : wF s) {g h : Nat} (hg : g < 12) (hh : h < 12) : ∀ j, mFm (mMv (fun k => s.1 123 (16 * g + k)) (mTn (s.1 124) g) 0 0 0) (mMv (fun k => s.1 123 (16 * h + k)) (mTn (s.1 124) h) 0 0 0) j = Int64.ofInt (BF s g h 0 0 0 j) := by
  have e := BF_M hW hg hh (x := 0) (y := 0) (z := 0) (by decide) (by decide) (by decide)
  rw [nb_0] at e
  exact e
noncomputable def F_apart (s : sG) (q r : Int32) : Int32 × sG := cIf (q = r) (-1, s) (match gP s q r with
  | .inl r => r
  | .inr (g, h) => cIf (s.1 124 (10 * g) = 3 ∧ s.1 124 (10 * h) = 3) (ansB (BF s g h 0 0 0), s) (-3, sM s 3))
theorem W_apart {s : sG} (h : wF s) (a1 a2 : Int32) : wF (F_apart s a1 a2).2 := by
  unfold F_apart
  refine wF_cIf h ?_
  split
  · rename_i e; exact gP_w h e
  · exact wF_cIf h (wF_M h _)
theorem ok_M {I : ma_I} {L : ma_L} (hW : wF (ob I L)) : ∀ q r, q < 12 → r < 12 → I 124 (10 * q) = 3 → I 124 (10 * r) = 3 → mFok (mFm (mMv (fun k => I 123 (16 * q + k)) (mTn (I 124) q) 0 0 0) (mMv (fun k => I 123 (16 * r + k)) (mTn (I 124) r) 0 0 0)) := fun q r hq hr h1 h2 => by
  have ok := BF_ok (s := ob I L) hW hq hr h1 h2 (zMv_4 hW hr)
  exact fok_z (BF_M0 (s := ob I L) hW hq hr) ok.1 ok.2.1
theorem ap_C {s : sG} {I : ma_I} {L : ma_L} (hW : wF s) (hC : ∀ g, g < 12 → rcG s I L g) : ∀ g h, g < 12 → h < 12 → ∀ m q : Int32, (m = 1 ∨ m = -1) → (q = 1 ∨ q = -1) → cFk (cFo (L (57 + 5 * g)) (L (57 + 5 * h)) m q) := fun g h hg hh m q hm hq => by
  have t := cFo_t hW hC hg hh (M := m) (Q := q) hm hq
  exact cFk_z t.2 t.1
theorem C_apart {g : ma_G} {I : ma_I} {L : ma_L} {P : ma_P} {s : sG} (hW : wF s) (hC : rC s I L) (q_ r_ : Int32) (k : ∀ I1 L1, rC (F_apart s q_ r_).2 I1 L1 → mS I L I1 L1 → P (some (.int (F_apart s q_ r_).1)) HS I1 L1 RF 146) : CT g yX7_apart cX7_apart 4 (some .int) rX7_apart [.ref 3, .int q_, .int r_] P HS I L RF 146 := by
  obtain ⟨hcM, hcN, hcF, hcK, hcT, hcS, hcG⟩ := id hC
  exact t_X7_apart q_ r_ (ap_C hW hcG)
    (fun h1 h2 => by
      have e_ : F_apart s q_ r_ = ((-1), s) := by simp only [F_apart, gP_n (s := s) (ix_n1 h2 ln_12), cIf_n h1]
      rw [e_] at k
      dsimp only at k
      exact k _ _ hC mS_rf)
    (fun h1 j3 h3 e4 j6 h6 e7 h8 => by
      subst e4
      subst e7
      have e_ : F_apart s (nI j3) (nI j6) = ((-3), (sM s 1)) := by simp only [F_apart, gP_m (s := s) h3 h6 (kG_m (hcG j3 (by omega)) h8), cIf_n h1]
      rw [e_] at k
      dsimp only at k
      exact k _ _ (rC_R hC (by omega)) (mS_R _ _ _))
    (fun h1 j10 h3 e4 j13 h6 e7 h8 h9 h10 => by
      subst e4
      subst e7
      have e_ : F_apart s (nI j10) (nI j13) = ((-3), (sM s 3)) := by simp only [F_apart, gP_o (s := s) h3 h6 (kG_o (hcG j10 (by omega)) h8) (kG_o (hcG j13 (by omega)) h9), cIf_n h1, cIf_n (fun z_ : s.1 124 (10 * j10) = 3 ∧ s.1 124 (10 * j13) = 3 => h10 ((cIs_3 (hcG j10 (by omega))).mpr z_.1))]
      rw [e_] at k
      dsimp only at k
      exact k _ _ (rC_R hC (by omega)) (mS_R _ _ _))
    (fun h1 j10 h3 e4 j13 h6 e7 h8 h9 h10 h11 => by
      subst e4
      subst e7
      have e_ : F_apart s (nI j10) (nI j13) = ((-3), (sM s 3)) := by simp only [F_apart, gP_o (s := s) h3 h6 (kG_o (hcG j10 (by omega)) h8) (kG_o (hcG j13 (by omega)) h9), cIf_n h1, cIf_n (fun z_ : s.1 124 (10 * j10) = 3 ∧ s.1 124 (10 * j13) = 3 => h11 ((cIs_3 (hcG j13 (by omega))).mpr z_.2))]
      rw [e_] at k
      dsimp only at k
      exact k _ _ (rC_R hC (by omega)) (mS_R _ _ _))
    (fun h1 j10 h3 e4 j13 h6 e7 h8 h9 h10 h11 j32 j33 h14 j35 h16 j37 j38 j39 j40 => by
      subst e4
      subst e7
      have kg_ := ((cIs_3 (hcG j10 (by omega))).mp h10)
      have kh_ := ((cIs_3 (hcG j13 (by omega))).mp h11)
      have tg_ := tn_C hW hcG (g := j10) (by omega) kg_
      have th_ := tn_C hW hcG (g := j13) (by omega) kh_
      have hj_ := h14
      rw [tg_, th_] at hj_
      have le_ := h16
      rw [tg_, th_] at le_
      have w_ : (cMb (cFig (j35 13) ((j35 12) 5) ((j35 12) 6)) (cSc (j35 13) 5).1) = ansB (BF s j10 j13 0 0 0) := by subst le_; exact (cMt_c (f := j33) hj_).trans (cMt_e (BF_C1 hW hcG (g := j10) (h := j13) (by omega) (by omega)))
      have e_ : F_apart s (nI j10) (nI j13) = ((cMb (cFig (j35 13) ((j35 12) 5) ((j35 12) 6)) (cSc (j35 13) 5).1), s) := by simp only [F_apart, gP_o (s := s) h3 h6 (kG_o (hcG j10 (by omega)) h8) (kG_o (hcG j13 (by omega)) h9), cIf_n h1, cIf_p (And.intro kg_ kh_), w_]
      rw [e_] at k
      dsimp only at k
      exact k _ _ (rC_x hC (fun _ _ => rfl) (fun a ha => by rw [ma_up_n _ _ (by omega), ma_up_n _ _ (by omega), ma_up_n _ _ (by omega), ma_up_n _ _ (by omega), le_, ma_up_n _ _ (by omega), ma_up_n _ _ (by omega), ma_up_n _ _ (by omega)])) (by subst le_; exact (mS_ul (mS_ul (mS_ul (mS_ul (mS_ul (mS_ul (mS_ul mS_rf (by omega)) (by omega)) (by omega)) (by omega)) (by omega)) (by omega)) (by omega))))
    (fun h1 j18 h3 e4 j21 h6 e7 h8 h9 => by
      subst e4
      subst e7
      have e_ : F_apart s (nI j18) (nI j21) = ((-3), (sM s 1)) := by simp only [F_apart, gP_m2 (s := s) h3 h6 (kG_o (hcG j18 (by omega)) h8) (kG_m (hcG j21 (by omega)) h9), cIf_n h1]
      rw [e_] at k
      dsimp only at k
      exact k _ _ (rC_R hC (by omega)) (mS_R _ _ _))
    (fun h1 j26 h3 e4 h5 => by
      subst e4
      have e_ : F_apart s (nI j26) r_ = ((-1), s) := by simp only [F_apart, gP_n2 (s := s) h3 (ix_n1 h5 ln_12), cIf_n h1]
      rw [e_] at k
      dsimp only at k
      exact k _ _ hC mS_rf)
    (fun h1 => by
      have e_ : F_apart s q_ r_ = ((-1), s) := by simp only [F_apart, cIf_p h1]
      rw [e_] at k
      dsimp only at k
      exact k _ _ hC mS_rf)
theorem M_apart {g : ma_G} {I : ma_I} {L : ma_L} {P : ma_P} (hW : wF (ob I L))  (q_ r_ : Int32) (k : ∀ I2 L2, ob I2 L2 = (F_apart (ob I L) q_ r_).2 → cS I L I2 L2 → P (some (.int (F_apart (ob I L) q_ r_).1)) HS I2 L2 RF 146) : CT g yX8_apart cX8_apart 4 (some .int) rX8_apart [.ref 115, .int q_, .int r_] P HS I L RF 146 := by
  exact t_X8_apart q_ r_ (ok_M hW)
    (fun h1 h2 => by
      have e_ : F_apart (ob I L) q_ r_ = ((-1), (ob I L)) := by simp only [F_apart, gP_n (s := (ob I L)) (ix_n2 h2 li_12), cIf_n h1]
      rw [e_] at k
      dsimp only at k
      exact k _ _ rfl cS_rf)
    (fun h1 j3 h3 e4 j6 h6 e7 h8 => by
      subst e4
      subst e7
      have e_ : F_apart (ob I L) (nI j3) (nI j6) = ((-3), (sM (ob I L) 1)) := by simp only [F_apart, gP_m (s := (ob I L)) h3 h6 (show (ob I L).1 122 j3 = 0 from h8), cIf_n h1]
      rw [e_] at k
      dsimp only at k
      exact k _ _ (ob_M _ _ _) (cS_M _ _ _))
    (fun h1 j10 h3 e4 j13 h6 e7 h8 h9 => by
      subst e4
      subst e7
      have e_ : F_apart (ob I L) (nI j10) (nI j13) = ((-3), (sM (ob I L) 1)) := by simp only [F_apart, gP_m2 (s := (ob I L)) h3 h6 (show ¬ (ob I L).1 122 j10 = 0 from h8) (show (ob I L).1 122 j13 = 0 from h9), cIf_n h1]
      rw [e_] at k
      dsimp only at k
      exact k _ _ (ob_M _ _ _) (cS_M _ _ _))
    (fun h1 j18 h3 e4 j21 h6 e7 h8 h9 h10 => by
      subst e4
      subst e7
      have e_ : F_apart (ob I L) (nI j18) (nI j21) = ((-3), (sM (ob I L) 3)) := by simp only [F_apart, gP_o (s := (ob I L)) h3 h6 (show ¬ (ob I L).1 122 j18 = 0 from h8) (show ¬ (ob I L).1 122 j21 = 0 from h9), cIf_n h1, cIf_n (fun z_ : (ob I L).1 124 (10 * j18) = 3 ∧ (ob I L).1 124 (10 * j21) = 3 => h10 z_.1)]
      rw [e_] at k
      dsimp only at k
      exact k _ _ (ob_M _ _ _) (cS_M _ _ _))
    (fun h1 j18 h3 e4 j21 h6 e7 h8 h9 h10 h11 bb m0 s rl tw J K h19 h20 h21 h22 => by
      subst e4
      subst e7
      have ok_ := BF_ok (s := ob I L) hW (g := j18) (h := j21) (by omega) (by omega) h10 h11 (zMv_4 hW (by omega))
      have w_ : mAo s rl tw = ansB (BF (ob I L) j18 j21 0 0 0) := ar_z (BF_M0 (s := ob I L) hW (g := j18) (h := j21) (by omega) (by omega)) ok_.1 ok_.2.1 ok_.2.2.1 ok_.2.2.2 h19 h20
      have e_ : F_apart (ob I L) (nI j18) (nI j21) = ((mAo s rl tw), (ob I L)) := by simp only [F_apart, gP_o (s := (ob I L)) h3 h6 (show ¬ (ob I L).1 122 j18 = 0 from h8) (show ¬ (ob I L).1 122 j21 = 0 from h9), cIf_n h1, cIf_p (And.intro (show (ob I L).1 124 (10 * j18) = 3 from h10) (show (ob I L).1 124 (10 * j21) = 3 from h11)), w_]
      rw [e_] at k
      dsimp only at k
      exact k _ _ (by unfold ob; rw [oI_sx h21 rfl rfl, oL_sl h22 rfl]) (cS_sx h21 h22 rfl rfl))
    (fun h1 j18 h3 e4 j21 h6 e7 h8 h9 h10 h11 => by
      subst e4
      subst e7
      have e_ : F_apart (ob I L) (nI j18) (nI j21) = ((-3), (sM (ob I L) 3)) := by simp only [F_apart, gP_o (s := (ob I L)) h3 h6 (show ¬ (ob I L).1 122 j18 = 0 from h8) (show ¬ (ob I L).1 122 j21 = 0 from h9), cIf_n h1, cIf_n (fun z_ : (ob I L).1 124 (10 * j18) = 3 ∧ (ob I L).1 124 (10 * j21) = 3 => h11 z_.2)]
      rw [e_] at k
      dsimp only at k
      exact k _ _ (ob_M _ _ _) (cS_M _ _ _))
    (fun h1 j26 h3 e4 h5 => by
      subst e4
      have e_ : F_apart (ob I L) (nI j26) r_ = ((-1), (ob I L)) := by simp only [F_apart, gP_n2 (s := (ob I L)) h3 (ix_n2 h5 li_12), cIf_n h1]
      rw [e_] at k
      dsimp only at k
      exact k _ _ rfl cS_rf)
    (fun h1 => by
      have e_ : F_apart (ob I L) q_ r_ = ((-1), (ob I L)) := by simp only [F_apart, cIf_p h1]
      rw [e_] at k
      dsimp only at k
      exact k _ _ rfl cS_rf)
theorem p_apart {g : ma_G} {I : ma_I} {L : ma_L} {P1 : ma_P} (hI : INV I L) (a1 a2 : Int32) (k : ∀ (r : Int32) (I1 : ma_I) (L1 : ma_L), (∀ {P2 : ma_P}, (∀ (I2 : ma_I) (L2 : ma_L), INV I2 L2 → P2 (some (.int r)) HS I2 L2 RF 146) → CT g yX8_apart cX8_apart 4 (some .int) rX8_apart [.ref 115, .int a1, .int a2] P2 HS I1 L1 RF 146) → P1 (some (.int r)) HS I1 L1 RF 146) : CT g yX7_apart cX7_apart 4 (some .int) rX7_apart [.ref 3, .int a1, .int a2] P1 HS I L RF 146 :=
  pair_i (F := F_apart (ob I L) a1 a2) hI (W_apart hI.1 a1 a2) (fun P kk => C_apart hI.1 hI.2 a1 a2 kk) (fun I1 L1 P e kk => M_apart (by rw [e]; exact hI.1)  a1 a2 (by rw [e]; exact kk)) k
