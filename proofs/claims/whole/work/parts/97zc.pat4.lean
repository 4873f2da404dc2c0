theorem zW_4 {t : Nat → Int} (h : ∀ j, j < 16 → (t j).natAbs ≤ 4) : (zW t).natAbs ≤ 6144 :=
  Nat.le_trans (show (dd (t 0) (t 1) (t 2) (t 3) (t 4) (t 5) (t 6) (t 7) (t 8) (t 9) (t 10) (t 11) (t 12) (t 13) (t 14) (t 15)).natAbs ≤ _ from dd_b (h 0 (by omega)) (h 1 (by omega)) (h 2 (by omega)) (h 3 (by omega)) (h 4 (by omega)) (h 5 (by omega)) (h 6 (by omega)) (h 7 (by omega)) (h 8 (by omega)) (h 9 (by omega)) (h 10 (by omega)) (h 11 (by omega)) (h 12 (by omega)) (h 13 (by omega)) (h 14 (by omega)) (h 15 (by omega))) (by decide)
theorem zSel_4 {A B : Nat → Int} (hA : ∀ j, j < 16 → (A j).natAbs ≤ 4) (hB : ∀ j, j < 16 → (B j).natAbs ≤ 4) (n : Nat) : (zW (zSel n A B)).natAbs ≤ 6144 := zW_4 (fun j hj => by unfold zSel; split; (· exact hA j hj); (· exact hB j hj))
theorem zF_4 {A B : Nat → Int} (hA : ∀ j, j < 16 → (A j).natAbs ≤ 4) (hB : ∀ j, j < 16 → (B j).natAbs ≤ 4) : sm4 (zF A B) :=
  have q := zSel_4 hA hB
  ⟨q 15, na_ (na_ (na_ (q 7) (q 11)) (q 13)) (q 14), na_ (na_ (na_ (na_ (na_ (q 3) (q 5)) (q 6)) (q 9)) (q 10)) (q 12), na_ (na_ (na_ (q 1) (q 2)) (q 4)) (q 8), q 0⟩
theorem zf_ok {s : sG} (h : wF s) {g k : Nat} (hg : g < 12) (hk : k < 12) : okF (zf s g k) :=
  ⟨zF_b (tz_b (h.2.1 g hg)) (fun j hj => mvB_4 (tz_b (h.2.1 k hk) j hj)), fun _ => zF_4 (tz_b (h.2.1 g hg)) (tz_b (h.2.1 k hk))⟩
theorem zf_K {s : sG} {I : ma_I} {L : ma_L} (hW : wF s) (hC : ∀ g, g < 12 → rcG s I L g) : ∀ g h, g < 12 → h < 12 → cFk (cFo (L (57 + 5 * g)) (L (57 + 5 * h)) 1 1) := fun g h hg hh => cFk_z (zf_C hW hC hg hh) (zf_ok hW hg hh).1
theorem zf_hM (I : ma_I) (L : ma_L) (q r : Nat) : ∀ j, mFm (fun k => I 123 (16 * q + k)) (fun k => I 123 (16 * r + k)) j = Int64.ofInt (zf (ob I L) q r j) := zf_M (ob I L) q r (fun _ _ => rfl) (fun _ _ => rfl)
theorem zf_hF {I : ma_I} {L : ma_L} (hW : wF (ob I L)) : ∀ q r, q < 12 → r < 12 → ∀ j, j < 5 → ((mFm (fun k => I 123 (16 * q + k)) (fun k => I 123 (16 * r + k))) j).toInt.natAbs < 2147483648 := fun q r hq hr j hj => by
  have b := zf_b hW hq hr j hj
  rw [zf_hM I L q r j, o6_toInt (by omega)]; omega
theorem zf_hQ {I : ma_I} {L : ma_L} (hW : wF (ob I L)) : ∀ q r, q < 12 → r < 12 → mPq (mFm (fun k => I 123 (16 * q + k)) (fun k => I 123 (16 * r + k))) := fun q r hq hr => mPq_z (fun j _ => zf_hM I L q r j) (zf_ok hW hq hr)
theorem mPd_n {f : Nat → Int64} {F : Nat → Int} (hf : ∀ j, f j = Int64.ofInt (F j)) {bb m0 : Nat} {s : mP} (hd : mPd f bb m0 s) : ¬ ∀ k, k ≤ 4 → F k = 0 := fun q => by
  obtain ⟨h1, h2, h3, _⟩ := hd
  exact h3 (by rw [hf bb, q bb (by omega)]; rfl)
theorem fig_w {f g : Nat → Int64} {F : Nat → Int} (hf : ∀ j, j < 5 → f j = Int64.ofInt (F j)) (hg : ∀ j, j < 5 → g j = Int64.ofInt (F j)) (hb : bd F) : cFig f (cIi g) (cJj g) = pzF F := by
  rw [cIi_z hg, cJj_z hg, ← cIi_z hf, ← cJj_z hf]; exact fig_z hf hb
noncomputable def F_pattern (s : sG) (q r : Int32) : Int32 × sG := match gP s q r with
  | .inl r => r
  | .inr (g, h) => (pzF (zf s g h), s)
theorem W_pattern {s : sG} (h : wF s) (a1 a2 : Int32) : wF (F_pattern s a1 a2).2 := by
  unfold F_pattern
  split
  · rename_i e; exact gP_w h e
  · exact h
noncomputable def F_roots (s : sG) (q r : Int32) : Int32 × sG := match gP s q r with
  | .inl r => r
  | .inr (g, h) => (cIf (∀ k, k ≤ 4 → zf s g h k = 0) 9 (cRr (pzF (zf s g h))), s)
theorem W_roots {s : sG} (h : wF s) (a1 a2 : Int32) : wF (F_roots s a1 a2).2 := by
  unfold F_roots
  split
  · rename_i e; exact gP_w h e
  · exact h
theorem pzF_0 {F : Nat → Int} (h : ∀ k, k ≤ 4 → F k = 0) : pzF F = 0 := by unfold pzF; rw [if_pos (h 0 (by omega)), if_pos (h 1 (by omega)), if_pos (h 2 (by omega)), if_pos (h 3 (by omega)), if_pos (h 4 (by omega))]
theorem C_pattern {g : ma_G} {I : ma_I} {L : ma_L} {P : ma_P} {s : sG} (hW : wF s) (hC : rC s I L) (q_ r_ : Int32) (k : ∀ I1 L1, rC (F_pattern s q_ r_).2 I1 L1 → mS I L I1 L1 → P (some (.int (F_pattern s q_ r_).1)) HS I1 L1 RF 146) : CT g yX7_pattern cX7_pattern 4 (some .int) rX7_pattern [.ref 3, .int q_, .int r_] P HS I L RF 146 := by
  obtain ⟨hcM, hcN, hcF, hcK, hcT, hcS, hcG⟩ := id hC
  exact t_X7_pattern q_ r_ (zf_K hW hcG)
    (fun h1 => by
      have e_ : F_pattern s q_ r_ = ((-1), s) := by simp only [F_pattern, gP_n (s := s) (ix_n1 h1 ln_12)]
      rw [e_] at k
      dsimp only at k
      exact k _ _ hC mS_rf)
    (fun j2 h2 e3 j5 h5 e6 h7 => by
      subst e3
      subst e6
      have e_ : F_pattern s (nI j2) (nI j5) = ((-3), (sM s 1)) := by simp only [F_pattern, gP_m (s := s) h2 h5 (kG_m (hcG j2 (by omega)) h7)]
      rw [e_] at k
      dsimp only at k
      exact k _ _ (rC_R hC (by omega)) (mS_R _ _ _))
    (fun j9 h2 e3 j12 h5 e6 h7 h8 j17 j18 h11 L32 h13 Y33 Z34 V35 W36 => by
      subst e3
      subst e6
      have hg_ : ∀ j, j < 5 → cFo (L (57 + 5 * j9)) (L (57 + 5 * j12)) 1 1 j = Int64.ofInt (zf s j9 j12 j) := zf_C hW hcG (g := j9) (h := j12) (by omega) (by omega)
      have hf_ : ∀ j, j < 5 → j18 j = Int64.ofInt (zf s j9 j12 j) := fun j hj => (h11 j hj).trans (hg_ j hj)
      have ok_ := zf_ok hW (g := j9) (k := j12) (by omega) (by omega)
      have w_ : cFig (L32 13) ((L32 12) 5) ((L32 12) 6) = pzF (zf s j9 j12) := by subst h13; exact fig_w (f := j18) hf_ hg_ ok_.1
      have e_ : F_pattern s (nI j9) (nI j12) = ((cFig (L32 13) ((L32 12) 5) ((L32 12) 6)), s) := by simp only [F_pattern, gP_o (s := s) h2 h5 (kG_o (hcG j9 (by omega)) h7) (kG_o (hcG j12 (by omega)) h8), w_]
      rw [e_] at k
      dsimp only at k
      exact k _ _ (rC_x hC (fun _ _ => rfl) (fun a ha => by rw [ma_up_n _ _ (by omega), ma_up_n _ _ (by omega), ma_up_n _ _ (by omega), ma_up_n _ _ (by omega), h13, ma_up_n _ _ (by omega), ma_up_n _ _ (by omega), ma_up_n _ _ (by omega)])) (by subst h13; exact (mS_ul (mS_ul (mS_ul (mS_ul (mS_ul (mS_ul (mS_ul mS_rf (by omega)) (by omega)) (by omega)) (by omega)) (by omega)) (by omega)) (by omega))))
    (fun j20 h2 e3 j23 h5 e6 h7 h8 => by
      subst e3
      subst e6
      have e_ : F_pattern s (nI j20) (nI j23) = ((-3), (sM s 1)) := by simp only [F_pattern, gP_m2 (s := s) h2 h5 (kG_o (hcG j20 (by omega)) h7) (kG_m (hcG j23 (by omega)) h8)]
      rw [e_] at k
      dsimp only at k
      exact k _ _ (rC_R hC (by omega)) (mS_R _ _ _))
    (fun j28 h2 e3 h4 => by
      subst e3
      have e_ : F_pattern s (nI j28) r_ = ((-1), s) := by simp only [F_pattern, gP_n2 (s := s) h2 (ix_n1 h4 ln_12)]
      rw [e_] at k
      dsimp only at k
      exact k _ _ hC mS_rf)
theorem M_pattern {g : ma_G} {I : ma_I} {L : ma_L} {P : ma_P} (hW : wF (ob I L))  (q_ r_ : Int32) (k : ∀ I2 L2, ob I2 L2 = (F_pattern (ob I L) q_ r_).2 → cS I L I2 L2 → P (some (.int (F_pattern (ob I L) q_ r_).1)) HS I2 L2 RF 146) : CT g yX8_pattern cX8_pattern 4 (some .int) rX8_pattern [.ref 115, .int q_, .int r_] P HS I L RF 146 := by
  exact t_X8_pattern q_ r_ (zf_hF hW) (zf_hQ hW)
    (fun h1 => by
      have e_ : F_pattern (ob I L) q_ r_ = ((-1), (ob I L)) := by simp only [F_pattern, gP_n (s := (ob I L)) (ix_n2 h1 li_12)]
      rw [e_] at k
      dsimp only at k
      exact k _ _ rfl cS_rf)
    (fun j2 h2 e3 j5 h5 e6 h7 => by
      subst e3
      subst e6
      have e_ : F_pattern (ob I L) (nI j2) (nI j5) = ((-3), (sM (ob I L) 1)) := by simp only [F_pattern, gP_m (s := (ob I L)) h2 h5 (show (ob I L).1 122 j2 = 0 from h7)]
      rw [e_] at k
      dsimp only at k
      exact k _ _ (ob_M _ _ _) (cS_M _ _ _))
    (fun j9 h2 e3 j12 h5 e6 h7 h8 => by
      subst e3
      subst e6
      have e_ : F_pattern (ob I L) (nI j9) (nI j12) = ((-3), (sM (ob I L) 1)) := by simp only [F_pattern, gP_m2 (s := (ob I L)) h2 h5 (show ¬ (ob I L).1 122 j9 = 0 from h7) (show (ob I L).1 122 j12 = 0 from h8)]
      rw [e_] at k
      dsimp only at k
      exact k _ _ (ob_M _ _ _) (cS_M _ _ _))
    (fun j17 h2 e3 j20 h5 e6 h7 h8 h9 J K h12 h13 h14 h15 h16 h17 => by
      subst e3
      subst e6
      have hf_ := zf_hM I L j17 j20
      have ok_ := zf_ok hW (g := j17) (k := j20) (by omega) (by omega)
      have al_ : ∀ k, k ≤ 4 → zf (ob I L) j17 j20 k = 0 := fun k hk => by have b_ := bd_s ok_.1 k (by omega); exact (o6_0 (by omega)).mp ((hf_ k).symm.trans (h9 k (by omega)))
      have e_ : F_pattern (ob I L) (nI j17) (nI j20) = (0, (ob I L)) := by simp only [F_pattern, gP_o (s := (ob I L)) h2 h5 (show ¬ (ob I L).1 122 j17 = 0 from h7) (show ¬ (ob I L).1 122 j20 = 0 from h8), pzF_0 al_]
      rw [e_] at k
      dsimp only at k
      exact k _ _ (by unfold ob; rw [oI_sx h16 rfl rfl, oL_sl h17 rfl]) (cS_sx h16 h17 rfl rfl))
    (fun j17 h2 e3 j20 h5 e6 h7 h8 bb m0 s rl tw J K h16 h17 h18 h19 h20 h21 h22 h23 h24 n h26 h27 => by
      subst e3
      subst e6
      have hf_ := zf_hM I L j17 j20
      have ok_ := zf_ok hW (g := j17) (k := j20) (by omega) (by omega)
      obtain ⟨⟨⟨n2_, hn2_, rn2_, pat_⟩, rt_, bw_⟩, zb_⟩ := ref_z (fun j _ => hf_ j) ok_ h16 h17
      have nz_ := mPd_n hf_ h16
      obtain ⟨j1_, j2_, j3_, j4_, j5_, j6_, j7_⟩ := h18
      have en_ : n2_ = n := nx_inj (rn2_.symm.trans h27) (by omega) (by omega)
      subst en_
      have w_ : mPat s.m s.r (nI n2_) (J 115 39) (J 115 35) n2_ (K 142) (K 139) (K 140) (J 141) = pzF (zf (ob I L) j17 j20) := by rw [h20, j3_, j4_, j5_, j6_, j7_]; exact pat_
      have e_ : F_pattern (ob I L) (nI j17) (nI j20) = ((mPat s.m s.r (nI n2_) (J 115 39) (J 115 35) n2_ (K 142) (K 139) (K 140) (J 141)), (ob I L)) := by simp only [F_pattern, gP_o (s := (ob I L)) h2 h5 (show ¬ (ob I L).1 122 j17 = 0 from h7) (show ¬ (ob I L).1 122 j20 = 0 from h8), w_]
      rw [e_] at k
      dsimp only at k
      exact k _ _ (by unfold ob; rw [oI_sx h23 rfl rfl, oL_sl h24 rfl]) (cS_sx h23 h24 rfl rfl))
    (fun j25 h2 e3 h4 => by
      subst e3
      have e_ : F_pattern (ob I L) (nI j25) r_ = ((-1), (ob I L)) := by simp only [F_pattern, gP_n2 (s := (ob I L)) h2 (ix_n2 h4 li_12)]
      rw [e_] at k
      dsimp only at k
      exact k _ _ rfl cS_rf)
theorem p_pattern {g : ma_G} {I : ma_I} {L : ma_L} {P1 : ma_P} (hI : INV I L) (a1 a2 : Int32) (k : ∀ (r : Int32) (I1 : ma_I) (L1 : ma_L), (∀ {P2 : ma_P}, (∀ (I2 : ma_I) (L2 : ma_L), INV I2 L2 → P2 (some (.int r)) HS I2 L2 RF 146) → CT g yX8_pattern cX8_pattern 4 (some .int) rX8_pattern [.ref 115, .int a1, .int a2] P2 HS I1 L1 RF 146) → P1 (some (.int r)) HS I1 L1 RF 146) : CT g yX7_pattern cX7_pattern 4 (some .int) rX7_pattern [.ref 3, .int a1, .int a2] P1 HS I L RF 146 :=
  pair_i (F := F_pattern (ob I L) a1 a2) hI (W_pattern hI.1 a1 a2) (fun P kk => C_pattern hI.1 hI.2 a1 a2 kk) (fun I1 L1 P e kk => M_pattern (by rw [e]; exact hI.1)  a1 a2 (by rw [e]; exact kk)) k
theorem C_roots {g : ma_G} {I : ma_I} {L : ma_L} {P : ma_P} {s : sG} (hW : wF s) (hC : rC s I L) (q_ r_ : Int32) (k : ∀ I1 L1, rC (F_roots s q_ r_).2 I1 L1 → mS I L I1 L1 → P (some (.int (F_roots s q_ r_).1)) HS I1 L1 RF 146) : CT g yX7_roots cX7_roots 4 (some .int) rX7_roots [.ref 3, .int q_, .int r_] P HS I L RF 146 := by
  obtain ⟨hcM, hcN, hcF, hcK, hcT, hcS, hcG⟩ := id hC
  exact t_X7_roots q_ r_ (zf_K hW hcG)
    (fun h1 => by
      have e_ : F_roots s q_ r_ = ((-1), s) := by simp only [F_roots, gP_n (s := s) (ix_n1 h1 ln_12)]
      rw [e_] at k
      dsimp only at k
      exact k _ _ hC mS_rf)
    (fun j2 h2 e3 j5 h5 e6 h7 => by
      subst e3
      subst e6
      have e_ : F_roots s (nI j2) (nI j5) = ((-3), (sM s 1)) := by simp only [F_roots, gP_m (s := s) h2 h5 (kG_m (hcG j2 (by omega)) h7)]
      rw [e_] at k
      dsimp only at k
      exact k _ _ (rC_R hC (by omega)) (mS_R _ _ _))
    (fun j9 h2 e3 j12 h5 e6 h7 h8 j17 j18 h11 h12 h13 h14 h15 h16 => by
      subst e3
      subst e6
      have hg_ : ∀ j, j < 5 → cFo (L (57 + 5 * j9)) (L (57 + 5 * j12)) 1 1 j = Int64.ofInt (zf s j9 j12 j) := zf_C hW hcG (g := j9) (h := j12) (by omega) (by omega)
      have hf_ : ∀ j, j < 5 → j18 j = Int64.ofInt (zf s j9 j12 j) := fun j hj => (h11 j hj).trans (hg_ j hj)
      have ok_ := zf_ok hW (g := j9) (k := j12) (by omega) (by omega)
      have al_ : ∀ k, k ≤ 4 → zf s j9 j12 k = 0 := fun k hk => by have b_ := bd_s ok_.1 k (by omega); exact (o6_0 (by omega)).mp ((hf_ k (by omega)).symm.trans (z5 (F := j18) h12 h13 h14 h15 h16 k (by omega)))
      have e_ : F_roots s (nI j9) (nI j12) = (9, s) := by simp only [F_roots, gP_o (s := s) h2 h5 (kG_o (hcG j9 (by omega)) h7) (kG_o (hcG j12 (by omega)) h8), cIf_p al_]
      rw [e_] at k
      dsimp only at k
      exact k _ _ (rC_x hC (fun _ _ => rfl) (fun a ha => by rw [ma_up_n _ _ (by omega), ma_up_n _ _ (by omega), ma_up_n _ _ (by omega)])) (mS_ul (mS_ul (mS_ul mS_rf (by omega)) (by omega)) (by omega)))
    (fun j9 h2 e3 j12 h5 e6 h7 h8 j17 j18 h11 h12 h13 h14 h15 h16 L52 h18 Y53 Z54 V55 W56 => by
      subst e3
      subst e6
      have hg_ : ∀ j, j < 5 → cFo (L (57 + 5 * j9)) (L (57 + 5 * j12)) 1 1 j = Int64.ofInt (zf s j9 j12 j) := zf_C hW hcG (g := j9) (h := j12) (by omega) (by omega)
      have hf_ : ∀ j, j < 5 → j18 j = Int64.ofInt (zf s j9 j12 j) := fun j hj => (h11 j hj).trans (hg_ j hj)
      have ok_ := zf_ok hW (g := j9) (k := j12) (by omega) (by omega)
      have nz_ : ¬ ∀ k, k ≤ 4 → zf s j9 j12 k = 0 := fun q_ => h16 ((hf_ 4 (by omega)).trans (by rw [q_ 4 (by omega)]; rfl))
      have w_ : cFig (L52 13) ((L52 12) 5) ((L52 12) 6) = pzF (zf s j9 j12) := by subst h18; exact fig_w (f := j18) hf_ hg_ ok_.1
      have e_ : F_roots s (nI j9) (nI j12) = ((cRr (cFig (L52 13) ((L52 12) 5) ((L52 12) 6))), s) := by simp only [F_roots, gP_o (s := s) h2 h5 (kG_o (hcG j9 (by omega)) h7) (kG_o (hcG j12 (by omega)) h8), cIf_n nz_, w_]
      rw [e_] at k
      dsimp only at k
      exact k _ _ (rC_x hC (fun _ _ => rfl) (fun a ha => by rw [ma_up_n _ _ (by omega), ma_up_n _ _ (by omega), ma_up_n _ _ (by omega), ma_up_n _ _ (by omega), h18, ma_up_n _ _ (by omega), ma_up_n _ _ (by omega), ma_up_n _ _ (by omega)])) (by subst h18; exact (mS_ul (mS_ul (mS_ul (mS_ul (mS_ul (mS_ul (mS_ul mS_rf (by omega)) (by omega)) (by omega)) (by omega)) (by omega)) (by omega)) (by omega))))
    (fun j9 h2 e3 j12 h5 e6 h7 h8 j17 j18 h11 h12 h13 h14 h15 L57 h17 Y58 Z59 V60 W61 => by
      subst e3
      subst e6
      have hg_ : ∀ j, j < 5 → cFo (L (57 + 5 * j9)) (L (57 + 5 * j12)) 1 1 j = Int64.ofInt (zf s j9 j12 j) := zf_C hW hcG (g := j9) (h := j12) (by omega) (by omega)
      have hf_ : ∀ j, j < 5 → j18 j = Int64.ofInt (zf s j9 j12 j) := fun j hj => (h11 j hj).trans (hg_ j hj)
      have ok_ := zf_ok hW (g := j9) (k := j12) (by omega) (by omega)
      have nz_ : ¬ ∀ k, k ≤ 4 → zf s j9 j12 k = 0 := fun q_ => h15 ((hf_ 3 (by omega)).trans (by rw [q_ 3 (by omega)]; rfl))
      have w_ : cFig (L57 13) ((L57 12) 5) ((L57 12) 6) = pzF (zf s j9 j12) := by subst h17; exact fig_w (f := j18) hf_ hg_ ok_.1
      have e_ : F_roots s (nI j9) (nI j12) = ((cRr (cFig (L57 13) ((L57 12) 5) ((L57 12) 6))), s) := by simp only [F_roots, gP_o (s := s) h2 h5 (kG_o (hcG j9 (by omega)) h7) (kG_o (hcG j12 (by omega)) h8), cIf_n nz_, w_]
      rw [e_] at k
      dsimp only at k
      exact k _ _ (rC_x hC (fun _ _ => rfl) (fun a ha => by rw [ma_up_n _ _ (by omega), ma_up_n _ _ (by omega), ma_up_n _ _ (by omega), ma_up_n _ _ (by omega), h17, ma_up_n _ _ (by omega), ma_up_n _ _ (by omega), ma_up_n _ _ (by omega)])) (by subst h17; exact (mS_ul (mS_ul (mS_ul (mS_ul (mS_ul (mS_ul (mS_ul mS_rf (by omega)) (by omega)) (by omega)) (by omega)) (by omega)) (by omega)) (by omega))))
    (fun j9 h2 e3 j12 h5 e6 h7 h8 j17 j18 h11 h12 h13 h14 L62 h16 Y63 Z64 V65 W66 => by
      subst e3
      subst e6
      have hg_ : ∀ j, j < 5 → cFo (L (57 + 5 * j9)) (L (57 + 5 * j12)) 1 1 j = Int64.ofInt (zf s j9 j12 j) := zf_C hW hcG (g := j9) (h := j12) (by omega) (by omega)
      have hf_ : ∀ j, j < 5 → j18 j = Int64.ofInt (zf s j9 j12 j) := fun j hj => (h11 j hj).trans (hg_ j hj)
      have ok_ := zf_ok hW (g := j9) (k := j12) (by omega) (by omega)
      have nz_ : ¬ ∀ k, k ≤ 4 → zf s j9 j12 k = 0 := fun q_ => h14 ((hf_ 2 (by omega)).trans (by rw [q_ 2 (by omega)]; rfl))
      have w_ : cFig (L62 13) ((L62 12) 5) ((L62 12) 6) = pzF (zf s j9 j12) := by subst h16; exact fig_w (f := j18) hf_ hg_ ok_.1
      have e_ : F_roots s (nI j9) (nI j12) = ((cRr (cFig (L62 13) ((L62 12) 5) ((L62 12) 6))), s) := by simp only [F_roots, gP_o (s := s) h2 h5 (kG_o (hcG j9 (by omega)) h7) (kG_o (hcG j12 (by omega)) h8), cIf_n nz_, w_]
      rw [e_] at k
      dsimp only at k
      exact k _ _ (rC_x hC (fun _ _ => rfl) (fun a ha => by rw [ma_up_n _ _ (by omega), ma_up_n _ _ (by omega), ma_up_n _ _ (by omega), ma_up_n _ _ (by omega), h16, ma_up_n _ _ (by omega), ma_up_n _ _ (by omega), ma_up_n _ _ (by omega)])) (by subst h16; exact (mS_ul (mS_ul (mS_ul (mS_ul (mS_ul (mS_ul (mS_ul mS_rf (by omega)) (by omega)) (by omega)) (by omega)) (by omega)) (by omega)) (by omega))))
    (fun j9 h2 e3 j12 h5 e6 h7 h8 j17 j18 h11 h12 h13 L67 h15 Y68 Z69 V70 W71 => by
      subst e3
      subst e6
      have hg_ : ∀ j, j < 5 → cFo (L (57 + 5 * j9)) (L (57 + 5 * j12)) 1 1 j = Int64.ofInt (zf s j9 j12 j) := zf_C hW hcG (g := j9) (h := j12) (by omega) (by omega)
      have hf_ : ∀ j, j < 5 → j18 j = Int64.ofInt (zf s j9 j12 j) := fun j hj => (h11 j hj).trans (hg_ j hj)
      have ok_ := zf_ok hW (g := j9) (k := j12) (by omega) (by omega)
      have nz_ : ¬ ∀ k, k ≤ 4 → zf s j9 j12 k = 0 := fun q_ => h13 ((hf_ 1 (by omega)).trans (by rw [q_ 1 (by omega)]; rfl))
      have w_ : cFig (L67 13) ((L67 12) 5) ((L67 12) 6) = pzF (zf s j9 j12) := by subst h15; exact fig_w (f := j18) hf_ hg_ ok_.1
      have e_ : F_roots s (nI j9) (nI j12) = ((cRr (cFig (L67 13) ((L67 12) 5) ((L67 12) 6))), s) := by simp only [F_roots, gP_o (s := s) h2 h5 (kG_o (hcG j9 (by omega)) h7) (kG_o (hcG j12 (by omega)) h8), cIf_n nz_, w_]
      rw [e_] at k
      dsimp only at k
      exact k _ _ (rC_x hC (fun _ _ => rfl) (fun a ha => by rw [ma_up_n _ _ (by omega), ma_up_n _ _ (by omega), ma_up_n _ _ (by omega), ma_up_n _ _ (by omega), h15, ma_up_n _ _ (by omega), ma_up_n _ _ (by omega), ma_up_n _ _ (by omega)])) (by subst h15; exact (mS_ul (mS_ul (mS_ul (mS_ul (mS_ul (mS_ul (mS_ul mS_rf (by omega)) (by omega)) (by omega)) (by omega)) (by omega)) (by omega)) (by omega))))
    (fun j9 h2 e3 j12 h5 e6 h7 h8 j17 j18 h11 h12 L72 h14 Y73 Z74 V75 W76 => by
      subst e3
      subst e6
      have hg_ : ∀ j, j < 5 → cFo (L (57 + 5 * j9)) (L (57 + 5 * j12)) 1 1 j = Int64.ofInt (zf s j9 j12 j) := zf_C hW hcG (g := j9) (h := j12) (by omega) (by omega)
      have hf_ : ∀ j, j < 5 → j18 j = Int64.ofInt (zf s j9 j12 j) := fun j hj => (h11 j hj).trans (hg_ j hj)
      have ok_ := zf_ok hW (g := j9) (k := j12) (by omega) (by omega)
      have nz_ : ¬ ∀ k, k ≤ 4 → zf s j9 j12 k = 0 := fun q_ => h12 ((hf_ 0 (by omega)).trans (by rw [q_ 0 (by omega)]; rfl))
      have w_ : cFig (L72 13) ((L72 12) 5) ((L72 12) 6) = pzF (zf s j9 j12) := by subst h14; exact fig_w (f := j18) hf_ hg_ ok_.1
      have e_ : F_roots s (nI j9) (nI j12) = ((cRr (cFig (L72 13) ((L72 12) 5) ((L72 12) 6))), s) := by simp only [F_roots, gP_o (s := s) h2 h5 (kG_o (hcG j9 (by omega)) h7) (kG_o (hcG j12 (by omega)) h8), cIf_n nz_, w_]
      rw [e_] at k
      dsimp only at k
      exact k _ _ (rC_x hC (fun _ _ => rfl) (fun a ha => by rw [ma_up_n _ _ (by omega), ma_up_n _ _ (by omega), ma_up_n _ _ (by omega), ma_up_n _ _ (by omega), h14, ma_up_n _ _ (by omega), ma_up_n _ _ (by omega), ma_up_n _ _ (by omega)])) (by subst h14; exact (mS_ul (mS_ul (mS_ul (mS_ul (mS_ul (mS_ul (mS_ul mS_rf (by omega)) (by omega)) (by omega)) (by omega)) (by omega)) (by omega)) (by omega))))
    (fun j20 h2 e3 j23 h5 e6 h7 h8 => by
      subst e3
      subst e6
      have e_ : F_roots s (nI j20) (nI j23) = ((-3), (sM s 1)) := by simp only [F_roots, gP_m2 (s := s) h2 h5 (kG_o (hcG j20 (by omega)) h7) (kG_m (hcG j23 (by omega)) h8)]
      rw [e_] at k
      dsimp only at k
      exact k _ _ (rC_R hC (by omega)) (mS_R _ _ _))
    (fun j28 h2 e3 h4 => by
      subst e3
      have e_ : F_roots s (nI j28) r_ = ((-1), s) := by simp only [F_roots, gP_n2 (s := s) h2 (ix_n1 h4 ln_12)]
      rw [e_] at k
      dsimp only at k
      exact k _ _ hC mS_rf)
theorem M_roots {g : ma_G} {I : ma_I} {L : ma_L} {P : ma_P} (hW : wF (ob I L))  (q_ r_ : Int32) (k : ∀ I2 L2, ob I2 L2 = (F_roots (ob I L) q_ r_).2 → cS I L I2 L2 → P (some (.int (F_roots (ob I L) q_ r_).1)) HS I2 L2 RF 146) : CT g yX8_roots cX8_roots 4 (some .int) rX8_roots [.ref 115, .int q_, .int r_] P HS I L RF 146 := by
  exact t_X8_roots q_ r_ (zf_hF hW) (zf_hQ hW)
    (fun h1 => by
      have e_ : F_roots (ob I L) q_ r_ = ((-1), (ob I L)) := by simp only [F_roots, gP_n (s := (ob I L)) (ix_n2 h1 li_12)]
      rw [e_] at k
      dsimp only at k
      exact k _ _ rfl cS_rf)
    (fun j2 h2 e3 j5 h5 e6 h7 => by
      subst e3
      subst e6
      have e_ : F_roots (ob I L) (nI j2) (nI j5) = ((-3), (sM (ob I L) 1)) := by simp only [F_roots, gP_m (s := (ob I L)) h2 h5 (show (ob I L).1 122 j2 = 0 from h7)]
      rw [e_] at k
      dsimp only at k
      exact k _ _ (ob_M _ _ _) (cS_M _ _ _))
    (fun j9 h2 e3 j12 h5 e6 h7 h8 => by
      subst e3
      subst e6
      have e_ : F_roots (ob I L) (nI j9) (nI j12) = ((-3), (sM (ob I L) 1)) := by simp only [F_roots, gP_m2 (s := (ob I L)) h2 h5 (show ¬ (ob I L).1 122 j9 = 0 from h7) (show (ob I L).1 122 j12 = 0 from h8)]
      rw [e_] at k
      dsimp only at k
      exact k _ _ (ob_M _ _ _) (cS_M _ _ _))
    (fun j17 h2 e3 j20 h5 e6 h7 h8 h9 J K h12 h13 h14 h15 h16 h17 => by
      subst e3
      subst e6
      have hf_ := zf_hM I L j17 j20
      have ok_ := zf_ok hW (g := j17) (k := j20) (by omega) (by omega)
      have al_ : ∀ k, k ≤ 4 → zf (ob I L) j17 j20 k = 0 := fun k hk => by have b_ := bd_s ok_.1 k (by omega); exact (o6_0 (by omega)).mp ((hf_ k).symm.trans (h9 k (by omega)))
      have e_ : F_roots (ob I L) (nI j17) (nI j20) = (9, (ob I L)) := by simp only [F_roots, gP_o (s := (ob I L)) h2 h5 (show ¬ (ob I L).1 122 j17 = 0 from h7) (show ¬ (ob I L).1 122 j20 = 0 from h8), cIf_p al_]
      rw [e_] at k
      dsimp only at k
      exact k _ _ (by unfold ob; rw [oI_sx h16 rfl rfl, oL_sl h17 rfl]) (cS_sx h16 h17 rfl rfl))
    (fun j17 h2 e3 j20 h5 e6 h7 h8 bb m0 s rl tw J K h16 h17 h18 h19 h20 h21 h22 h23 h24 => by
      subst e3
      subst e6
      have hf_ := zf_hM I L j17 j20
      have ok_ := zf_ok hW (g := j17) (k := j20) (by omega) (by omega)
      obtain ⟨⟨⟨n2_, hn2_, rn2_, pat_⟩, rt_, bw_⟩, zb_⟩ := ref_z (fun j _ => hf_ j) ok_ h16 h17
      have nz_ := mPd_n hf_ h16
      obtain ⟨j1_, j2_, j3_, j4_, j5_, j6_, j7_⟩ := h18
      have w_ : (((J 115) 31) + ((J 115) 38)) + (if ¬ ((J 115) 35) ≤ 0 then (1 : Int32) else 0) = cRr (pzF (zf (ob I L) j17 j20)) := by rw [j2_, h19, j3_]; exact rt_
      have e_ : F_roots (ob I L) (nI j17) (nI j20) = (((((J 115) 31) + ((J 115) 38)) + (if ¬ ((J 115) 35) ≤ 0 then (1 : Int32) else 0)), (ob I L)) := by simp only [F_roots, gP_o (s := (ob I L)) h2 h5 (show ¬ (ob I L).1 122 j17 = 0 from h7) (show ¬ (ob I L).1 122 j20 = 0 from h8), cIf_n nz_, w_]
      rw [e_] at k
      dsimp only at k
      exact k _ _ (by unfold ob; rw [oI_sx h23 rfl rfl, oL_sl h24 rfl]) (cS_sx h23 h24 rfl rfl))
    (fun j25 h2 e3 h4 => by
      subst e3
      have e_ : F_roots (ob I L) (nI j25) r_ = ((-1), (ob I L)) := by simp only [F_roots, gP_n2 (s := (ob I L)) h2 (ix_n2 h4 li_12)]
      rw [e_] at k
      dsimp only at k
      exact k _ _ rfl cS_rf)
theorem p_roots {g : ma_G} {I : ma_I} {L : ma_L} {P1 : ma_P} (hI : INV I L) (a1 a2 : Int32) (k : ∀ (r : Int32) (I1 : ma_I) (L1 : ma_L), (∀ {P2 : ma_P}, (∀ (I2 : ma_I) (L2 : ma_L), INV I2 L2 → P2 (some (.int r)) HS I2 L2 RF 146) → CT g yX8_roots cX8_roots 4 (some .int) rX8_roots [.ref 115, .int a1, .int a2] P2 HS I1 L1 RF 146) → P1 (some (.int r)) HS I1 L1 RF 146) : CT g yX7_roots cX7_roots 4 (some .int) rX7_roots [.ref 3, .int a1, .int a2] P1 HS I L RF 146 :=
  pair_i (F := F_roots (ob I L) a1 a2) hI (W_roots hI.1 a1 a2) (fun P kk => C_roots hI.1 hI.2 a1 a2 kk) (fun I1 L1 P e kk => M_roots (by rw [e]; exact hI.1)  a1 a2 (by rw [e]; exact kk)) k
