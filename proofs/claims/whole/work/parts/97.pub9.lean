theorem o6_0 {v : Int} (h : v.natAbs < 9223372036854775808) : Int64.ofInt v = 0 ↔ v = 0 := by rw [nb_eqL, o6_toInt h, nb_0L]
theorem o3_0 {v : Int} (h : v.natAbs < 2147483648) : Int32.ofInt v = 0 ↔ v = 0 := by rw [nb_eq, Int32.toInt_ofInt_of_le (by omega) (by omega), nb_0]
theorem vPn_b {z p : Nat → Int} {A B : Nat} (hz : ∀ j, j < 16 → (z j).natAbs ≤ A) (hp : ∀ j, j < 4 → (p j).natAbs ≤ B) {i : Nat} (hi : i < 4) : (vPn z p i).natAbs ≤ 4 * (A * B) := by
  unfold vPn
  have h := na_ (na_ (na_ (nm_ (hz (4 * i + 0) (by omega)) (hp 0 (by omega))) (nm_ (hz (4 * i + 1) (by omega)) (hp 1 (by omega)))) (nm_ (hz (4 * i + 2) (by omega)) (hp 2 (by omega)))) (nm_ (hz (4 * i + 3) (by omega)) (hp 3 (by omega)))
  rw [Int.zero_add]
  omega
theorem vPr_b {z p r : Nat → Int} {A B C : Nat} (hz : ∀ j, j < 16 → (z j).natAbs ≤ A) (hr : ∀ j, j < 4 → (r j).natAbs ≤ C) (hp : ∀ j, j < 4 → (p j).natAbs ≤ B) : (vPr z r p).natAbs ≤ 4 * (C * (4 * (A * B))) := by
  unfold vPr
  have h := na_ (na_ (na_ (nm_ (hr 0 (by omega)) (vPn_b hz hp (show 0 < 4 by omega))) (nm_ (hr 1 (by omega)) (vPn_b hz hp (show 1 < 4 by omega)))) (nm_ (hr 2 (by omega)) (vPn_b hz hp (show 2 < 4 by omega)))) (nm_ (hr 3 (by omega)) (vPn_b hz hp (show 3 < 4 by omega)))
  rw [Int.zero_add]
  omega
theorem tz_b {s : sG} {g : Nat} (h : wfT s g) : ∀ j, j < 16 → (tz s g j).natAbs ≤ 4 := fun j hj => by have := h.1 j hj; unfold tz; omega
theorem pz_b {f : Nat → Int32} (h : mRg f 4 100) : ∀ j, j < 4 → (pz f j).natAbs ≤ 100 := fun j hj => by
  have := h j hj
  have z1 : (100 : Int32).toInt = 100 := by decide
  have z2 : (-100 : Int32).toInt = -100 := by decide
  rw [nb_lt, nb_lt, z1, z2] at this
  unfold pz; omega
theorem sVal_b {s : sG} {g : Nat} {u v : Nat → Int32} (h : wfT s g) (hu : mRg u 4 100) (hv : mRg v 4 100) : (sVal s g u v).natAbs ≤ 640000 := vPr_b (tz_b h) (pz_b hu) (pz_b hv)
def sTip (s : sG) (g x : Nat) : Prop := ∀ i, i < 4 → vPn (tz s g) (pz (rw_ s x)) i = 0
noncomputable def lnK (s : sG) (g x : Nat) : Int32 := if s.1 124 (10 * g + 0) = 4 then 2 else if s.1 124 (10 * g + 0) = 1 then (if 0 < s.1 124 (10 * g + 1) ∧ 0 < s.1 124 (10 * g + 2) then cIf (sTip s g x) 9 1 else 0) else if s.1 124 (10 * g + 0) = 2 then (if s.1 124 (10 * g + 1) = 2 ∨ s.1 124 (10 * g + 2) = 2 then 1 else 9) else 0
noncomputable def F_lines (s : sG) (q a : Int32) : Int32 × sG := match gA s q a with
  | .inl r => r
  | .inr (g, x) => (if sVal s g (rw_ s x) (rw_ s x) = 0 then lnK s g x else 0, s)
theorem W_lines {s : sG} (h : wF s) (a1 a2 : Int32) : wF (F_lines s a1 a2).2 := by
  unfold F_lines
  split
  · rename_i e; exact gA_w h e
  · exact h
theorem fl_all : ∀ (a b : Fin 5) (c d : Fin 4), a.val + b.val ≤ 4 → c.val + d.val ≤ 3 → mKd (nI a.val) (nI b.val) (nI c.val) (nI d.val) = 2 → (((4 - nI a.val) - nI b.val = 2 ∧ ¬ ((¬ nI a.val ≤ 0) ∧ (¬ nI b.val ≤ 0))) ↔ (nI a.val = 2 ∨ nI b.val = 2)) := by decide +kernel
theorem mf_ab {T : Nat → Int32} (hT : tSm T) : ∃ (a b : Fin 5) (c d : Fin 4), a.val + b.val ≤ 4 ∧ c.val + d.val ≤ 3 ∧ mFA (t64 T) = nI a.val ∧ mFB (t64 T) = nI b.val ∧ mTA (t64 T) = nI c.val ∧ mTB (t64 T) = nI d.val := by
  have e1 : mFA (t64 T) = mFA (zt (zz T)) := mFc_c (t64_z hT) 1
  have e2 : mFB (t64 T) = mFB (zt (zz T)) := mFc_c (t64_z hT) 2
  have e3 : mTA (t64 T) = mTA (zt (zz T)) := mFc_c (t64_z hT) 4
  have e4 : mTB (t64 T) = mTB (zt (zz T)) := mFc_c (t64_z hT) 5
  rw [e1, e2, e3, e4]
  generalize hz : zz T = z
  have hB : zB z 4 := hz ▸ zz_B hT
  have h4 := zOk_b hB (by omega)
  have h3 := zOk_b (zB_L hB) (by omega)
  obtain ⟨a, b, hab, ea, eb⟩ := ab_4 (sgI_3 _) (sgI_3 _) (sgI_3 _) (sgI_3 _) (okS_k (z 0) (z 1) (z 2) (z 3) (z 5) (z 6) (z 7) (z 10) (z 11) (z 15))
  have fa : mFA (zt z) = nI a.val := by unfold mFA; rw [m_e1, m_e2, m_e3, m_e4, mA4_s, mSg_o h4.1, mSg_o h4.2.1, mSg_o h4.2.2.1, mSg_o h4.2.2.2]; exact ea
  have fb : mFB (zt z) = nI b.val := by unfold mFB; rw [m_e1, m_e2, m_e3, m_e4, mB4_s, mSg_o h4.1, mSg_o h4.2.1, mSg_o h4.2.2.1, mSg_o h4.2.2.2]; exact eb
  have ok3 := okS_k (z 0) (z 1) (z 2) 0 (z 5) (z 6) 0 (z 10) 0 0
  rw [lk2, lk3, lk4, Int.add_zero, show sgI 0 = 0 from rfl] at ok3
  obtain ⟨c, d, hcd, ec, ed⟩ := ab_3 (sgI_3 _) (sgI_3 _) (sgI_3 _) ok3
  obtain ⟨g1, g2, g3, g4⟩ := h3
  have z0 : zL z 0 = z 0 := rfl; have z1 : zL z 1 = z 1 := rfl; have z2 : zL z 2 = z 2 := rfl; have z3 : zL z 3 = 0 := rfl; have z5 : zL z 5 = z 5 := rfl; have z6 : zL z 6 = z 6 := rfl; have z7 : zL z 7 = 0 := rfl; have z10 : zL z 10 = z 10 := rfl; have z11 : zL z 11 = 0 := rfl; have z15 : zL z 15 = 0 := rfl
  rw [z0, z5, z10, z15, Int.add_zero] at g1
  rw [z0, z1, z2, z3, z5, z6, z7, z10, z11, z15] at g2 g3
  rw [lk2] at g2
  rw [lk3] at g3
  have fc : mTA (zt z) = nI c.val := by unfold mTA; rw [m_t1, m_t2, m_3, mA3_s, mSg_o g1, mSg_o g2, mSg_o g3]; exact ec
  have fd : mTB (zt z) = nI d.val := by unfold mTB; rw [m_t1, m_t2, m_3, mB3_s, mSg_o g1, mSg_o g2, mSg_o g3]; exact ed
  exact ⟨a, b, c, d, hab, hcd, fa, fb, fc, fd⟩
theorem wf_f {s : sG} (h : wF s) {g : Nat} (hg : g < 12) (h0 : ¬ s.1 122 g = 0) {k : Nat} (hk : k < 10) : s.1 124 (10 * g + k) = mFc (t64 (fun j => s.1 123 (16 * g + j))) k := (h.2.2 g hg).2.elim (fun q => absurd q.1 h0) (fun q => q k hk)
theorem fl_ok {s : sG} (h : wF s) {g : Nat} (hg : g < 12) (h0 : ¬ s.1 122 g = 0) (h2 : s.1 124 (10 * g + 0) = 2) : ((s.1 124 (10 * g + 3) = 2 ∧ ¬ ((¬ s.1 124 (10 * g + 1) ≤ 0) ∧ (¬ s.1 124 (10 * g + 2) ≤ 0))) ↔ (s.1 124 (10 * g + 1) = 2 ∨ s.1 124 (10 * g + 2) = 2)) := by
  obtain ⟨a, b, c, d, hab, hcd, fa, fb, fc, fd⟩ := mf_ab (wT_sm (h.2.1 g hg))
  rw [wf_f h hg h0 (by omega)] at h2
  rw [wf_f h hg h0 (by omega), wf_f h hg h0 (by omega), wf_f h hg h0 (by omega)]
  have h2 : mKd (mFA (t64 (fun j => s.1 123 (16 * g + j)))) (mFB (t64 (fun j => s.1 123 (16 * g + j)))) (mTA (t64 (fun j => s.1 123 (16 * g + j)))) (mTB (t64 (fun j => s.1 123 (16 * g + j)))) = 2 := h2
  show ((4 - mFA (t64 (fun j => s.1 123 (16 * g + j)))) - mFB (t64 (fun j => s.1 123 (16 * g + j))) = 2 ∧ ¬ ((¬ mFA (t64 (fun j => s.1 123 (16 * g + j))) ≤ 0) ∧ (¬ mFB (t64 (fun j => s.1 123 (16 * g + j))) ≤ 0))) ↔ (mFA (t64 (fun j => s.1 123 (16 * g + j))) = 2 ∨ mFB (t64 (fun j => s.1 123 (16 * g + j))) = 2)
  rw [fa, fb] at h2 ⊢
  rw [fc, fd] at h2
  exact fl_all a b c d hab hcd h2
theorem C_lines {g : ma_G} {I : ma_I} {L : ma_L} {P : ma_P} {s : sG} (hW : wF s) (hC : rC s I L) (q_ s_ : Int32) (k : ∀ I1 L1, rC (F_lines s q_ s_).2 I1 L1 → mS I L I1 L1 → P (some (.int (F_lines s q_ s_).1)) HS I1 L1 RF 146) : CT g yX7_lines cX7_lines 5 (some .int) rX7_lines [.ref 3, .int q_, .int s_] P HS I L RF 146 := by
  obtain ⟨hcM, hcN, hcF, hcK, hcT, hcS, hcG⟩ := id hC
  exact t_X7_lines q_ s_ 
    (fun h1 => by
      have e_ : F_lines s q_ s_ = ((-1), s) := by simp only [F_lines, (show ix 12 q_ = none from (ix_n1 h1 ln_12)), gA]
      rw [e_] at k
      dsimp only at k
      exact k _ _ hC mS_rf)
    (fun j2 h2 e3 j5 h5 e6 h7 => by
      subst e3
      subst e6
      have e_ : F_lines s (nI j2) (nI j5) = ((-3), (sM s 1)) := by simp only [F_lines, ix_s (n := 12) h2, ix_s (n := 8) h5, gA, if_pos (kG_m (hcG j2 (by omega)) h7)]
      rw [e_] at k
      dsimp only at k
      exact k _ _ (rC_R hC (by omega)) (mS_R _ _ _))
    (fun j9 h2 e3 j12 h5 e6 h7 h8 h9 => by
      subst e3
      subst e6
      have e_ : F_lines s (nI j9) (nI j12) = ((-3), (sM s 5)) := by simp only [F_lines, ix_s (n := 12) h2, ix_s (n := 8) h5, gA, if_neg (kG_o (hcG j9 (by omega)) h7), if_neg (kS_o (hcS j12 (by omega)) (Decidable.not_not.mp h8)), if_pos (k4_ (kS_e (hcS j12 (by omega)) (kS_o (hcS j12 (by omega)) (Decidable.not_not.mp h8))) h9)]
      rw [e_] at k
      dsimp only at k
      exact k _ _ (rC_R hC (by omega)) (mS_R _ _ _))
    (fun j18 h2 e3 j21 h5 e6 h7 h8 h9 h10 h11 h12 h13 h14 h15 x105 h17 h18 h19 => by
      subst e3
      subst e6
      have hp_ : ∀ j, j < 4 → Int32.toInt64 (I (40 + 2 * j21) j) = Int64.ofInt (pz (rw_ s j21) j) := fun j hj => by rw [kS_r (hcS j21 (by omega)) (kS_o (hcS j21 (by omega)) (Decidable.not_not.mp h8)) j (by omega)]; exact i2l_o _
      have ht_ : ∀ j, j < 16 → L (57 + 5 * j18) j = Int64.ofInt (tz s j18 j) := fun j hj => ((hcG j18 (by omega)).2.1 j hj).trans (i2l_o _)
      have rg_ : mRg (rw_ s j21) 4 100 := (mRg_c (f := I (40 + 2 * j21)) (f' := rw_ s j21) (n := 4) (w := 100) (fun j hj => kS_r (hcS j21 (by omega)) (kS_o (hcS j21 (by omega)) (Decidable.not_not.mp h8)) j (by omega))).mp h11
      have sb_ := sVal_b (hW.2.1 j18 (by omega)) rg_ rg_
      have sv_ : sVal s j18 (rw_ s j21) (rw_ s j21) = 0 := (o6_0 (by omega)).mp ((cPr_o (z := tz s j18) (p := pz (rw_ s j21)) (r := pz (rw_ s j21)) (fun j hj => by rw [ma_up_n _ _ (by omega), ma_up_n _ _ (by omega)]; exact ht_ j hj) (fun j hj => (up4 (fun j => Int32.toInt64 (I (40 + 2 * j21) j)) j hj).trans (hp_ j hj)) (fun j hj => (up4 (fun j => Int32.toInt64 (I (40 + 2 * j21) j)) j hj).trans (hp_ j hj))).symm.trans h15)
      have kd_ : s.1 124 (10 * j18 + 0) = 1 := (kG_f (hcG j18 (by omega)) h7 (k := 0) (by omega)).symm.trans (h17.symm.trans h18)
      have cg_ := h19
      unfold cCg at cg_
      rw [(kG_f (hcG j18 (by omega)) h7 (k := 1) (by omega)), (kG_f (hcG j18 (by omega)) h7 (k := 2) (by omega))] at cg_
      have e_ : F_lines s (nI j18) (nI j21) = (0, s) := by simp only [F_lines, ix_s (n := 12) h2, ix_s (n := 8) h5, gA, if_neg (kG_o (hcG j18 (by omega)) h7), if_neg (kS_o (hcS j21 (by omega)) (Decidable.not_not.mp h8)), if_neg (n4_ (kS_e (hcS j21 (by omega)) (kS_o (hcS j21 (by omega)) (Decidable.not_not.mp h8))) h9), cIf_p ((mRg_c (f := I (40 + 2 * j21)) (f' := rw_ s j21) (n := 4) (w := 100) (fun j hj => kS_r (hcS j21 (by omega)) (kS_o (hcS j21 (by omega)) (Decidable.not_not.mp h8)) j (by omega))).mp h11), cIf_n (fun z => h13 ((mZr_c (f := I (40 + 2 * j21)) (f' := rw_ s j21) (n := 4) (fun j hj => kS_r (hcS j21 (by omega)) (kS_o (hcS j21 (by omega)) (Decidable.not_not.mp h8)) j (by omega))).mpr z)), if_pos sv_, lnK, if_neg (show ¬ s.1 124 (10 * j18 + 0) = 4 by rw [kd_]; decide), if_pos kd_, if_neg cg_]
      rw [e_] at k
      dsimp only at k
      exact k _ _ (rC_x hC (fun _ _ => rfl) (fun a ha => by rw [ma_up_n _ _ (by omega), ma_up_n _ _ (by omega)])) (mS_ul (mS_ul mS_rf (by omega)) (by omega)))
    (fun j18 h2 e3 j21 h5 e6 h7 h8 h9 h10 h11 h12 h13 h14 h15 x105 h17 h18 h19 h20 => by
      subst e3
      subst e6
      have hp_ : ∀ j, j < 4 → Int32.toInt64 (I (40 + 2 * j21) j) = Int64.ofInt (pz (rw_ s j21) j) := fun j hj => by rw [kS_r (hcS j21 (by omega)) (kS_o (hcS j21 (by omega)) (Decidable.not_not.mp h8)) j (by omega)]; exact i2l_o _
      have ht_ : ∀ j, j < 16 → L (57 + 5 * j18) j = Int64.ofInt (tz s j18 j) := fun j hj => ((hcG j18 (by omega)).2.1 j hj).trans (i2l_o _)
      have rg_ : mRg (rw_ s j21) 4 100 := (mRg_c (f := I (40 + 2 * j21)) (f' := rw_ s j21) (n := 4) (w := 100) (fun j hj => kS_r (hcS j21 (by omega)) (kS_o (hcS j21 (by omega)) (Decidable.not_not.mp h8)) j (by omega))).mp h11
      have sb_ := sVal_b (hW.2.1 j18 (by omega)) rg_ rg_
      have sv_ : sVal s j18 (rw_ s j21) (rw_ s j21) = 0 := (o6_0 (by omega)).mp ((cPr_o (z := tz s j18) (p := pz (rw_ s j21)) (r := pz (rw_ s j21)) (fun j hj => by rw [ma_up_n _ _ (by omega), ma_up_n _ _ (by omega)]; exact ht_ j hj) (fun j hj => (up4 (fun j => Int32.toInt64 (I (40 + 2 * j21) j)) j hj).trans (hp_ j hj)) (fun j hj => (up4 (fun j => Int32.toInt64 (I (40 + 2 * j21) j)) j hj).trans (hp_ j hj))).symm.trans h15)
      have kd_ : s.1 124 (10 * j18 + 0) = 1 := (kG_f (hcG j18 (by omega)) h7 (k := 0) (by omega)).symm.trans (h17.symm.trans h18)
      have cg_ := h19
      unfold cCg at cg_
      rw [(kG_f (hcG j18 (by omega)) h7 (k := 1) (by omega)), (kG_f (hcG j18 (by omega)) h7 (k := 2) (by omega))] at cg_
      have tp_ : ¬ sTip s j18 j21 := fun z => h20 ⟨(cPn_o (z := tz s j18) (p := pz (rw_ s j21)) (fun j hj => by rw [ma_up_n _ _ (by omega), ma_up_n _ _ (by omega)]; exact ht_ j hj) (fun j hj => (up4 (fun j => Int32.toInt64 (I (40 + 2 * j21) j)) j hj).trans (hp_ j hj)) (i := 0) (by omega)).trans ((o6_0 (by have := vPn_b (i := 0) (tz_b (hW.2.1 j18 (by omega))) (pz_b rg_) (by omega); omega)).mpr (z 0 (by omega))), (cPn_o (z := tz s j18) (p := pz (rw_ s j21)) (fun j hj => by rw [ma_up_n _ _ (by omega), ma_up_n _ _ (by omega)]; exact ht_ j hj) (fun j hj => (up4 (fun j => Int32.toInt64 (I (40 + 2 * j21) j)) j hj).trans (hp_ j hj)) (i := 1) (by omega)).trans ((o6_0 (by have := vPn_b (i := 1) (tz_b (hW.2.1 j18 (by omega))) (pz_b rg_) (by omega); omega)).mpr (z 1 (by omega))), (cPn_o (z := tz s j18) (p := pz (rw_ s j21)) (fun j hj => by rw [ma_up_n _ _ (by omega), ma_up_n _ _ (by omega)]; exact ht_ j hj) (fun j hj => (up4 (fun j => Int32.toInt64 (I (40 + 2 * j21) j)) j hj).trans (hp_ j hj)) (i := 2) (by omega)).trans ((o6_0 (by have := vPn_b (i := 2) (tz_b (hW.2.1 j18 (by omega))) (pz_b rg_) (by omega); omega)).mpr (z 2 (by omega))), (cPn_o (z := tz s j18) (p := pz (rw_ s j21)) (fun j hj => by rw [ma_up_n _ _ (by omega), ma_up_n _ _ (by omega)]; exact ht_ j hj) (fun j hj => (up4 (fun j => Int32.toInt64 (I (40 + 2 * j21) j)) j hj).trans (hp_ j hj)) (i := 3) (by omega)).trans ((o6_0 (by have := vPn_b (i := 3) (tz_b (hW.2.1 j18 (by omega))) (pz_b rg_) (by omega); omega)).mpr (z 3 (by omega)))⟩
      have e_ : F_lines s (nI j18) (nI j21) = (1, s) := by simp only [F_lines, ix_s (n := 12) h2, ix_s (n := 8) h5, gA, if_neg (kG_o (hcG j18 (by omega)) h7), if_neg (kS_o (hcS j21 (by omega)) (Decidable.not_not.mp h8)), if_neg (n4_ (kS_e (hcS j21 (by omega)) (kS_o (hcS j21 (by omega)) (Decidable.not_not.mp h8))) h9), cIf_p ((mRg_c (f := I (40 + 2 * j21)) (f' := rw_ s j21) (n := 4) (w := 100) (fun j hj => kS_r (hcS j21 (by omega)) (kS_o (hcS j21 (by omega)) (Decidable.not_not.mp h8)) j (by omega))).mp h11), cIf_n (fun z => h13 ((mZr_c (f := I (40 + 2 * j21)) (f' := rw_ s j21) (n := 4) (fun j hj => kS_r (hcS j21 (by omega)) (kS_o (hcS j21 (by omega)) (Decidable.not_not.mp h8)) j (by omega))).mpr z)), if_pos sv_, lnK, if_neg (show ¬ s.1 124 (10 * j18 + 0) = 4 by rw [kd_]; decide), if_pos kd_, if_pos cg_, cIf_n tp_]
      rw [e_] at k
      dsimp only at k
      exact k _ _ (rC_x hC (fun _ _ => rfl) (fun a ha => by rw [ma_up_n _ _ (by omega), ma_up_n _ _ (by omega)])) (mS_ul (mS_ul mS_rf (by omega)) (by omega)))
    (fun j18 h2 e3 j21 h5 e6 h7 h8 h9 h10 h11 h12 h13 h14 h15 x105 h17 h18 h19 h20 => by
      subst e3
      subst e6
      have hp_ : ∀ j, j < 4 → Int32.toInt64 (I (40 + 2 * j21) j) = Int64.ofInt (pz (rw_ s j21) j) := fun j hj => by rw [kS_r (hcS j21 (by omega)) (kS_o (hcS j21 (by omega)) (Decidable.not_not.mp h8)) j (by omega)]; exact i2l_o _
      have ht_ : ∀ j, j < 16 → L (57 + 5 * j18) j = Int64.ofInt (tz s j18 j) := fun j hj => ((hcG j18 (by omega)).2.1 j hj).trans (i2l_o _)
      have rg_ : mRg (rw_ s j21) 4 100 := (mRg_c (f := I (40 + 2 * j21)) (f' := rw_ s j21) (n := 4) (w := 100) (fun j hj => kS_r (hcS j21 (by omega)) (kS_o (hcS j21 (by omega)) (Decidable.not_not.mp h8)) j (by omega))).mp h11
      have sb_ := sVal_b (hW.2.1 j18 (by omega)) rg_ rg_
      have sv_ : sVal s j18 (rw_ s j21) (rw_ s j21) = 0 := (o6_0 (by omega)).mp ((cPr_o (z := tz s j18) (p := pz (rw_ s j21)) (r := pz (rw_ s j21)) (fun j hj => by rw [ma_up_n _ _ (by omega), ma_up_n _ _ (by omega)]; exact ht_ j hj) (fun j hj => (up4 (fun j => Int32.toInt64 (I (40 + 2 * j21) j)) j hj).trans (hp_ j hj)) (fun j hj => (up4 (fun j => Int32.toInt64 (I (40 + 2 * j21) j)) j hj).trans (hp_ j hj))).symm.trans h15)
      have kd_ : s.1 124 (10 * j18 + 0) = 1 := (kG_f (hcG j18 (by omega)) h7 (k := 0) (by omega)).symm.trans (h17.symm.trans h18)
      have cg_ := h19
      unfold cCg at cg_
      rw [(kG_f (hcG j18 (by omega)) h7 (k := 1) (by omega)), (kG_f (hcG j18 (by omega)) h7 (k := 2) (by omega))] at cg_
      have tq0_ := (o6_0 (by have := vPn_b (i := 0) (tz_b (hW.2.1 j18 (by omega))) (pz_b rg_) (by omega); omega)).mp ((cPn_o (z := tz s j18) (p := pz (rw_ s j21)) (fun j hj => by rw [ma_up_n _ _ (by omega), ma_up_n _ _ (by omega)]; exact ht_ j hj) (fun j hj => (up4 (fun j => Int32.toInt64 (I (40 + 2 * j21) j)) j hj).trans (hp_ j hj)) (i := 0) (by omega)).symm.trans h20.1)
      have tq1_ := (o6_0 (by have := vPn_b (i := 1) (tz_b (hW.2.1 j18 (by omega))) (pz_b rg_) (by omega); omega)).mp ((cPn_o (z := tz s j18) (p := pz (rw_ s j21)) (fun j hj => by rw [ma_up_n _ _ (by omega), ma_up_n _ _ (by omega)]; exact ht_ j hj) (fun j hj => (up4 (fun j => Int32.toInt64 (I (40 + 2 * j21) j)) j hj).trans (hp_ j hj)) (i := 1) (by omega)).symm.trans h20.2.1)
      have tq2_ := (o6_0 (by have := vPn_b (i := 2) (tz_b (hW.2.1 j18 (by omega))) (pz_b rg_) (by omega); omega)).mp ((cPn_o (z := tz s j18) (p := pz (rw_ s j21)) (fun j hj => by rw [ma_up_n _ _ (by omega), ma_up_n _ _ (by omega)]; exact ht_ j hj) (fun j hj => (up4 (fun j => Int32.toInt64 (I (40 + 2 * j21) j)) j hj).trans (hp_ j hj)) (i := 2) (by omega)).symm.trans h20.2.2.1)
      have tq3_ := (o6_0 (by have := vPn_b (i := 3) (tz_b (hW.2.1 j18 (by omega))) (pz_b rg_) (by omega); omega)).mp ((cPn_o (z := tz s j18) (p := pz (rw_ s j21)) (fun j hj => by rw [ma_up_n _ _ (by omega), ma_up_n _ _ (by omega)]; exact ht_ j hj) (fun j hj => (up4 (fun j => Int32.toInt64 (I (40 + 2 * j21) j)) j hj).trans (hp_ j hj)) (i := 3) (by omega)).symm.trans h20.2.2.2)
      have tp_ : sTip s j18 j21 := fun i hi => by match i, hi with | 0, _ => exact tq0_ | 1, _ => exact tq1_ | 2, _ => exact tq2_ | 3, _ => exact tq3_
      have e_ : F_lines s (nI j18) (nI j21) = (9, s) := by simp only [F_lines, ix_s (n := 12) h2, ix_s (n := 8) h5, gA, if_neg (kG_o (hcG j18 (by omega)) h7), if_neg (kS_o (hcS j21 (by omega)) (Decidable.not_not.mp h8)), if_neg (n4_ (kS_e (hcS j21 (by omega)) (kS_o (hcS j21 (by omega)) (Decidable.not_not.mp h8))) h9), cIf_p ((mRg_c (f := I (40 + 2 * j21)) (f' := rw_ s j21) (n := 4) (w := 100) (fun j hj => kS_r (hcS j21 (by omega)) (kS_o (hcS j21 (by omega)) (Decidable.not_not.mp h8)) j (by omega))).mp h11), cIf_n (fun z => h13 ((mZr_c (f := I (40 + 2 * j21)) (f' := rw_ s j21) (n := 4) (fun j hj => kS_r (hcS j21 (by omega)) (kS_o (hcS j21 (by omega)) (Decidable.not_not.mp h8)) j (by omega))).mpr z)), if_pos sv_, lnK, if_neg (show ¬ s.1 124 (10 * j18 + 0) = 4 by rw [kd_]; decide), if_pos kd_, if_pos cg_, cIf_p tp_]
      rw [e_] at k
      dsimp only at k
      exact k _ _ (rC_x hC (fun _ _ => rfl) (fun a ha => by rw [ma_up_n _ _ (by omega), ma_up_n _ _ (by omega)])) (mS_ul (mS_ul mS_rf (by omega)) (by omega)))
    (fun j18 h2 e3 j21 h5 e6 h7 h8 h9 h10 h11 h12 h13 h14 h15 x105 h17 h18 h19 => by
      subst e3
      subst e6
      have hp_ : ∀ j, j < 4 → Int32.toInt64 (I (40 + 2 * j21) j) = Int64.ofInt (pz (rw_ s j21) j) := fun j hj => by rw [kS_r (hcS j21 (by omega)) (kS_o (hcS j21 (by omega)) (Decidable.not_not.mp h8)) j (by omega)]; exact i2l_o _
      have ht_ : ∀ j, j < 16 → L (57 + 5 * j18) j = Int64.ofInt (tz s j18 j) := fun j hj => ((hcG j18 (by omega)).2.1 j hj).trans (i2l_o _)
      have rg_ : mRg (rw_ s j21) 4 100 := (mRg_c (f := I (40 + 2 * j21)) (f' := rw_ s j21) (n := 4) (w := 100) (fun j hj => kS_r (hcS j21 (by omega)) (kS_o (hcS j21 (by omega)) (Decidable.not_not.mp h8)) j (by omega))).mp h11
      have sb_ := sVal_b (hW.2.1 j18 (by omega)) rg_ rg_
      have sv_ : sVal s j18 (rw_ s j21) (rw_ s j21) = 0 := (o6_0 (by omega)).mp ((cPr_o (z := tz s j18) (p := pz (rw_ s j21)) (r := pz (rw_ s j21)) (fun j hj => by rw [ma_up_n _ _ (by omega), ma_up_n _ _ (by omega)]; exact ht_ j hj) (fun j hj => (up4 (fun j => Int32.toInt64 (I (40 + 2 * j21) j)) j hj).trans (hp_ j hj)) (fun j hj => (up4 (fun j => Int32.toInt64 (I (40 + 2 * j21) j)) j hj).trans (hp_ j hj))).symm.trans h15)
      have kd_ : s.1 124 (10 * j18 + 0) = 2 := (kG_f (hcG j18 (by omega)) h7 (k := 0) (by omega)).symm.trans (h17.symm.trans h18)
      have p1_ := h19
      rw [(kG_f (hcG j18 (by omega)) h7 (k := 1) (by omega))] at p1_
      have e_ : F_lines s (nI j18) (nI j21) = (1, s) := by simp only [F_lines, ix_s (n := 12) h2, ix_s (n := 8) h5, gA, if_neg (kG_o (hcG j18 (by omega)) h7), if_neg (kS_o (hcS j21 (by omega)) (Decidable.not_not.mp h8)), if_neg (n4_ (kS_e (hcS j21 (by omega)) (kS_o (hcS j21 (by omega)) (Decidable.not_not.mp h8))) h9), cIf_p ((mRg_c (f := I (40 + 2 * j21)) (f' := rw_ s j21) (n := 4) (w := 100) (fun j hj => kS_r (hcS j21 (by omega)) (kS_o (hcS j21 (by omega)) (Decidable.not_not.mp h8)) j (by omega))).mp h11), cIf_n (fun z => h13 ((mZr_c (f := I (40 + 2 * j21)) (f' := rw_ s j21) (n := 4) (fun j hj => kS_r (hcS j21 (by omega)) (kS_o (hcS j21 (by omega)) (Decidable.not_not.mp h8)) j (by omega))).mpr z)), if_pos sv_, lnK, if_neg (show ¬ s.1 124 (10 * j18 + 0) = 4 by rw [kd_]; decide), if_neg (show ¬ s.1 124 (10 * j18 + 0) = 1 by rw [kd_]; decide), if_pos kd_, if_pos (Or.inl p1_)]
      rw [e_] at k
      dsimp only at k
      exact k _ _ (rC_x hC (fun _ _ => rfl) (fun a ha => by rw [ma_up_n _ _ (by omega), ma_up_n _ _ (by omega)])) (mS_ul (mS_ul mS_rf (by omega)) (by omega)))
    (fun j18 h2 e3 j21 h5 e6 h7 h8 h9 h10 h11 h12 h13 h14 h15 x105 h17 h18 h19 h20 => by
      subst e3
      subst e6
      have hp_ : ∀ j, j < 4 → Int32.toInt64 (I (40 + 2 * j21) j) = Int64.ofInt (pz (rw_ s j21) j) := fun j hj => by rw [kS_r (hcS j21 (by omega)) (kS_o (hcS j21 (by omega)) (Decidable.not_not.mp h8)) j (by omega)]; exact i2l_o _
      have ht_ : ∀ j, j < 16 → L (57 + 5 * j18) j = Int64.ofInt (tz s j18 j) := fun j hj => ((hcG j18 (by omega)).2.1 j hj).trans (i2l_o _)
      have rg_ : mRg (rw_ s j21) 4 100 := (mRg_c (f := I (40 + 2 * j21)) (f' := rw_ s j21) (n := 4) (w := 100) (fun j hj => kS_r (hcS j21 (by omega)) (kS_o (hcS j21 (by omega)) (Decidable.not_not.mp h8)) j (by omega))).mp h11
      have sb_ := sVal_b (hW.2.1 j18 (by omega)) rg_ rg_
      have sv_ : sVal s j18 (rw_ s j21) (rw_ s j21) = 0 := (o6_0 (by omega)).mp ((cPr_o (z := tz s j18) (p := pz (rw_ s j21)) (r := pz (rw_ s j21)) (fun j hj => by rw [ma_up_n _ _ (by omega), ma_up_n _ _ (by omega)]; exact ht_ j hj) (fun j hj => (up4 (fun j => Int32.toInt64 (I (40 + 2 * j21) j)) j hj).trans (hp_ j hj)) (fun j hj => (up4 (fun j => Int32.toInt64 (I (40 + 2 * j21) j)) j hj).trans (hp_ j hj))).symm.trans h15)
      have kd_ : s.1 124 (10 * j18 + 0) = 2 := (kG_f (hcG j18 (by omega)) h7 (k := 0) (by omega)).symm.trans (h17.symm.trans h18)
      have p1_ := h19
      rw [(kG_f (hcG j18 (by omega)) h7 (k := 1) (by omega))] at p1_
      have p2_ := h20
      rw [(kG_f (hcG j18 (by omega)) h7 (k := 2) (by omega))] at p2_
      have e_ : F_lines s (nI j18) (nI j21) = (9, s) := by simp only [F_lines, ix_s (n := 12) h2, ix_s (n := 8) h5, gA, if_neg (kG_o (hcG j18 (by omega)) h7), if_neg (kS_o (hcS j21 (by omega)) (Decidable.not_not.mp h8)), if_neg (n4_ (kS_e (hcS j21 (by omega)) (kS_o (hcS j21 (by omega)) (Decidable.not_not.mp h8))) h9), cIf_p ((mRg_c (f := I (40 + 2 * j21)) (f' := rw_ s j21) (n := 4) (w := 100) (fun j hj => kS_r (hcS j21 (by omega)) (kS_o (hcS j21 (by omega)) (Decidable.not_not.mp h8)) j (by omega))).mp h11), cIf_n (fun z => h13 ((mZr_c (f := I (40 + 2 * j21)) (f' := rw_ s j21) (n := 4) (fun j hj => kS_r (hcS j21 (by omega)) (kS_o (hcS j21 (by omega)) (Decidable.not_not.mp h8)) j (by omega))).mpr z)), if_pos sv_, lnK, if_neg (show ¬ s.1 124 (10 * j18 + 0) = 4 by rw [kd_]; decide), if_neg (show ¬ s.1 124 (10 * j18 + 0) = 1 by rw [kd_]; decide), if_pos kd_, if_neg (not_or.mpr ⟨p1_, p2_⟩)]
      rw [e_] at k
      dsimp only at k
      exact k _ _ (rC_x hC (fun _ _ => rfl) (fun a ha => by rw [ma_up_n _ _ (by omega), ma_up_n _ _ (by omega)])) (mS_ul (mS_ul mS_rf (by omega)) (by omega)))
    (fun j18 h2 e3 j21 h5 e6 h7 h8 h9 h10 h11 h12 h13 h14 h15 x105 h17 h18 h19 h20 => by
      subst e3
      subst e6
      have hp_ : ∀ j, j < 4 → Int32.toInt64 (I (40 + 2 * j21) j) = Int64.ofInt (pz (rw_ s j21) j) := fun j hj => by rw [kS_r (hcS j21 (by omega)) (kS_o (hcS j21 (by omega)) (Decidable.not_not.mp h8)) j (by omega)]; exact i2l_o _
      have ht_ : ∀ j, j < 16 → L (57 + 5 * j18) j = Int64.ofInt (tz s j18 j) := fun j hj => ((hcG j18 (by omega)).2.1 j hj).trans (i2l_o _)
      have rg_ : mRg (rw_ s j21) 4 100 := (mRg_c (f := I (40 + 2 * j21)) (f' := rw_ s j21) (n := 4) (w := 100) (fun j hj => kS_r (hcS j21 (by omega)) (kS_o (hcS j21 (by omega)) (Decidable.not_not.mp h8)) j (by omega))).mp h11
      have sb_ := sVal_b (hW.2.1 j18 (by omega)) rg_ rg_
      have sv_ : sVal s j18 (rw_ s j21) (rw_ s j21) = 0 := (o6_0 (by omega)).mp ((cPr_o (z := tz s j18) (p := pz (rw_ s j21)) (r := pz (rw_ s j21)) (fun j hj => by rw [ma_up_n _ _ (by omega), ma_up_n _ _ (by omega)]; exact ht_ j hj) (fun j hj => (up4 (fun j => Int32.toInt64 (I (40 + 2 * j21) j)) j hj).trans (hp_ j hj)) (fun j hj => (up4 (fun j => Int32.toInt64 (I (40 + 2 * j21) j)) j hj).trans (hp_ j hj))).symm.trans h15)
      have kd_ : s.1 124 (10 * j18 + 0) = 2 := (kG_f (hcG j18 (by omega)) h7 (k := 0) (by omega)).symm.trans (h17.symm.trans h18)
      have p1_ := h19
      rw [(kG_f (hcG j18 (by omega)) h7 (k := 1) (by omega))] at p1_
      have p2_ := h20
      rw [(kG_f (hcG j18 (by omega)) h7 (k := 2) (by omega))] at p2_
      have e_ : F_lines s (nI j18) (nI j21) = (1, s) := by simp only [F_lines, ix_s (n := 12) h2, ix_s (n := 8) h5, gA, if_neg (kG_o (hcG j18 (by omega)) h7), if_neg (kS_o (hcS j21 (by omega)) (Decidable.not_not.mp h8)), if_neg (n4_ (kS_e (hcS j21 (by omega)) (kS_o (hcS j21 (by omega)) (Decidable.not_not.mp h8))) h9), cIf_p ((mRg_c (f := I (40 + 2 * j21)) (f' := rw_ s j21) (n := 4) (w := 100) (fun j hj => kS_r (hcS j21 (by omega)) (kS_o (hcS j21 (by omega)) (Decidable.not_not.mp h8)) j (by omega))).mp h11), cIf_n (fun z => h13 ((mZr_c (f := I (40 + 2 * j21)) (f' := rw_ s j21) (n := 4) (fun j hj => kS_r (hcS j21 (by omega)) (kS_o (hcS j21 (by omega)) (Decidable.not_not.mp h8)) j (by omega))).mpr z)), if_pos sv_, lnK, if_neg (show ¬ s.1 124 (10 * j18 + 0) = 4 by rw [kd_]; decide), if_neg (show ¬ s.1 124 (10 * j18 + 0) = 1 by rw [kd_]; decide), if_pos kd_, if_pos (Or.inr p2_)]
      rw [e_] at k
      dsimp only at k
      exact k _ _ (rC_x hC (fun _ _ => rfl) (fun a ha => by rw [ma_up_n _ _ (by omega), ma_up_n _ _ (by omega)])) (mS_ul (mS_ul mS_rf (by omega)) (by omega)))
    (fun j18 h2 e3 j21 h5 e6 h7 h8 h9 h10 h11 h12 h13 h14 h15 x105 h17 h18 => by
      subst e3
      subst e6
      have hp_ : ∀ j, j < 4 → Int32.toInt64 (I (40 + 2 * j21) j) = Int64.ofInt (pz (rw_ s j21) j) := fun j hj => by rw [kS_r (hcS j21 (by omega)) (kS_o (hcS j21 (by omega)) (Decidable.not_not.mp h8)) j (by omega)]; exact i2l_o _
      have ht_ : ∀ j, j < 16 → L (57 + 5 * j18) j = Int64.ofInt (tz s j18 j) := fun j hj => ((hcG j18 (by omega)).2.1 j hj).trans (i2l_o _)
      have rg_ : mRg (rw_ s j21) 4 100 := (mRg_c (f := I (40 + 2 * j21)) (f' := rw_ s j21) (n := 4) (w := 100) (fun j hj => kS_r (hcS j21 (by omega)) (kS_o (hcS j21 (by omega)) (Decidable.not_not.mp h8)) j (by omega))).mp h11
      have sb_ := sVal_b (hW.2.1 j18 (by omega)) rg_ rg_
      have sv_ : sVal s j18 (rw_ s j21) (rw_ s j21) = 0 := (o6_0 (by omega)).mp ((cPr_o (z := tz s j18) (p := pz (rw_ s j21)) (r := pz (rw_ s j21)) (fun j hj => by rw [ma_up_n _ _ (by omega), ma_up_n _ _ (by omega)]; exact ht_ j hj) (fun j hj => (up4 (fun j => Int32.toInt64 (I (40 + 2 * j21) j)) j hj).trans (hp_ j hj)) (fun j hj => (up4 (fun j => Int32.toInt64 (I (40 + 2 * j21) j)) j hj).trans (hp_ j hj))).symm.trans h15)
      have kd_ : s.1 124 (10 * j18 + 0) = 3 := (kG_f (hcG j18 (by omega)) h7 (k := 0) (by omega)).symm.trans (h17.symm.trans h18)
      have e_ : F_lines s (nI j18) (nI j21) = (0, s) := by simp only [F_lines, ix_s (n := 12) h2, ix_s (n := 8) h5, gA, if_neg (kG_o (hcG j18 (by omega)) h7), if_neg (kS_o (hcS j21 (by omega)) (Decidable.not_not.mp h8)), if_neg (n4_ (kS_e (hcS j21 (by omega)) (kS_o (hcS j21 (by omega)) (Decidable.not_not.mp h8))) h9), cIf_p ((mRg_c (f := I (40 + 2 * j21)) (f' := rw_ s j21) (n := 4) (w := 100) (fun j hj => kS_r (hcS j21 (by omega)) (kS_o (hcS j21 (by omega)) (Decidable.not_not.mp h8)) j (by omega))).mp h11), cIf_n (fun z => h13 ((mZr_c (f := I (40 + 2 * j21)) (f' := rw_ s j21) (n := 4) (fun j hj => kS_r (hcS j21 (by omega)) (kS_o (hcS j21 (by omega)) (Decidable.not_not.mp h8)) j (by omega))).mpr z)), if_pos sv_, lnK, if_neg (show ¬ s.1 124 (10 * j18 + 0) = 4 by rw [kd_]; decide), if_neg (show ¬ s.1 124 (10 * j18 + 0) = 1 by rw [kd_]; decide), if_neg (show ¬ s.1 124 (10 * j18 + 0) = 2 by rw [kd_]; decide)]
      rw [e_] at k
      dsimp only at k
      exact k _ _ (rC_x hC (fun _ _ => rfl) (fun a ha => by rw [ma_up_n _ _ (by omega), ma_up_n _ _ (by omega)])) (mS_ul (mS_ul mS_rf (by omega)) (by omega)))
    (fun j18 h2 e3 j21 h5 e6 h7 h8 h9 h10 h11 h12 h13 h14 h15 x105 h17 h18 => by
      subst e3
      subst e6
      have hp_ : ∀ j, j < 4 → Int32.toInt64 (I (40 + 2 * j21) j) = Int64.ofInt (pz (rw_ s j21) j) := fun j hj => by rw [kS_r (hcS j21 (by omega)) (kS_o (hcS j21 (by omega)) (Decidable.not_not.mp h8)) j (by omega)]; exact i2l_o _
      have ht_ : ∀ j, j < 16 → L (57 + 5 * j18) j = Int64.ofInt (tz s j18 j) := fun j hj => ((hcG j18 (by omega)).2.1 j hj).trans (i2l_o _)
      have rg_ : mRg (rw_ s j21) 4 100 := (mRg_c (f := I (40 + 2 * j21)) (f' := rw_ s j21) (n := 4) (w := 100) (fun j hj => kS_r (hcS j21 (by omega)) (kS_o (hcS j21 (by omega)) (Decidable.not_not.mp h8)) j (by omega))).mp h11
      have sb_ := sVal_b (hW.2.1 j18 (by omega)) rg_ rg_
      have sv_ : sVal s j18 (rw_ s j21) (rw_ s j21) = 0 := (o6_0 (by omega)).mp ((cPr_o (z := tz s j18) (p := pz (rw_ s j21)) (r := pz (rw_ s j21)) (fun j hj => by rw [ma_up_n _ _ (by omega), ma_up_n _ _ (by omega)]; exact ht_ j hj) (fun j hj => (up4 (fun j => Int32.toInt64 (I (40 + 2 * j21) j)) j hj).trans (hp_ j hj)) (fun j hj => (up4 (fun j => Int32.toInt64 (I (40 + 2 * j21) j)) j hj).trans (hp_ j hj))).symm.trans h15)
      have kd_ : s.1 124 (10 * j18 + 0) = 4 := (kG_f (hcG j18 (by omega)) h7 (k := 0) (by omega)).symm.trans (h17.symm.trans h18)
      have e_ : F_lines s (nI j18) (nI j21) = (2, s) := by simp only [F_lines, ix_s (n := 12) h2, ix_s (n := 8) h5, gA, if_neg (kG_o (hcG j18 (by omega)) h7), if_neg (kS_o (hcS j21 (by omega)) (Decidable.not_not.mp h8)), if_neg (n4_ (kS_e (hcS j21 (by omega)) (kS_o (hcS j21 (by omega)) (Decidable.not_not.mp h8))) h9), cIf_p ((mRg_c (f := I (40 + 2 * j21)) (f' := rw_ s j21) (n := 4) (w := 100) (fun j hj => kS_r (hcS j21 (by omega)) (kS_o (hcS j21 (by omega)) (Decidable.not_not.mp h8)) j (by omega))).mp h11), cIf_n (fun z => h13 ((mZr_c (f := I (40 + 2 * j21)) (f' := rw_ s j21) (n := 4) (fun j hj => kS_r (hcS j21 (by omega)) (kS_o (hcS j21 (by omega)) (Decidable.not_not.mp h8)) j (by omega))).mpr z)), if_pos sv_, lnK, if_pos kd_]
      rw [e_] at k
      dsimp only at k
      exact k _ _ (rC_x hC (fun _ _ => rfl) (fun a ha => by rw [ma_up_n _ _ (by omega), ma_up_n _ _ (by omega)])) (mS_ul (mS_ul mS_rf (by omega)) (by omega)))
    (fun j18 h2 e3 j21 h5 e6 h7 h8 h9 h10 h11 h12 h13 h14 h15 x105 h17 h18 h19 h20 h21 => by
      subst e3
      subst e6
      have hp_ : ∀ j, j < 4 → Int32.toInt64 (I (40 + 2 * j21) j) = Int64.ofInt (pz (rw_ s j21) j) := fun j hj => by rw [kS_r (hcS j21 (by omega)) (kS_o (hcS j21 (by omega)) (Decidable.not_not.mp h8)) j (by omega)]; exact i2l_o _
      have ht_ : ∀ j, j < 16 → L (57 + 5 * j18) j = Int64.ofInt (tz s j18 j) := fun j hj => ((hcG j18 (by omega)).2.1 j hj).trans (i2l_o _)
      have rg_ : mRg (rw_ s j21) 4 100 := (mRg_c (f := I (40 + 2 * j21)) (f' := rw_ s j21) (n := 4) (w := 100) (fun j hj => kS_r (hcS j21 (by omega)) (kS_o (hcS j21 (by omega)) (Decidable.not_not.mp h8)) j (by omega))).mp h11
      have sb_ := sVal_b (hW.2.1 j18 (by omega)) rg_ rg_
      have sv_ : sVal s j18 (rw_ s j21) (rw_ s j21) = 0 := (o6_0 (by omega)).mp ((cPr_o (z := tz s j18) (p := pz (rw_ s j21)) (r := pz (rw_ s j21)) (fun j hj => by rw [ma_up_n _ _ (by omega), ma_up_n _ _ (by omega)]; exact ht_ j hj) (fun j hj => (up4 (fun j => Int32.toInt64 (I (40 + 2 * j21) j)) j hj).trans (hp_ j hj)) (fun j hj => (up4 (fun j => Int32.toInt64 (I (40 + 2 * j21) j)) j hj).trans (hp_ j hj))).symm.trans h15)
      have e_ : F_lines s (nI j18) (nI j21) = (0, s) := by simp only [F_lines, ix_s (n := 12) h2, ix_s (n := 8) h5, gA, if_neg (kG_o (hcG j18 (by omega)) h7), if_neg (kS_o (hcS j21 (by omega)) (Decidable.not_not.mp h8)), if_neg (n4_ (kS_e (hcS j21 (by omega)) (kS_o (hcS j21 (by omega)) (Decidable.not_not.mp h8))) h9), cIf_p ((mRg_c (f := I (40 + 2 * j21)) (f' := rw_ s j21) (n := 4) (w := 100) (fun j hj => kS_r (hcS j21 (by omega)) (kS_o (hcS j21 (by omega)) (Decidable.not_not.mp h8)) j (by omega))).mp h11), cIf_n (fun z => h13 ((mZr_c (f := I (40 + 2 * j21)) (f' := rw_ s j21) (n := 4) (fun j hj => kS_r (hcS j21 (by omega)) (kS_o (hcS j21 (by omega)) (Decidable.not_not.mp h8)) j (by omega))).mpr z)), if_pos sv_, lnK, if_neg (show ¬ s.1 124 (10 * j18 + 0) = 4 from fun z => h21 (h17.trans ((kG_f (hcG j18 (by omega)) h7 (k := 0) (by omega)).trans z))), if_neg (show ¬ s.1 124 (10 * j18 + 0) = 1 from fun z => h18 (h17.trans ((kG_f (hcG j18 (by omega)) h7 (k := 0) (by omega)).trans z))), if_neg (show ¬ s.1 124 (10 * j18 + 0) = 2 from fun z => h19 (h17.trans ((kG_f (hcG j18 (by omega)) h7 (k := 0) (by omega)).trans z)))]
      rw [e_] at k
      dsimp only at k
      exact k _ _ (rC_x hC (fun _ _ => rfl) (fun a ha => by rw [ma_up_n _ _ (by omega), ma_up_n _ _ (by omega)])) (mS_ul (mS_ul mS_rf (by omega)) (by omega)))
    (fun j18 h2 e3 j21 h5 e6 h7 h8 h9 h10 h11 h12 h13 h14 h15 => by
      subst e3
      subst e6
      have hp_ : ∀ j, j < 4 → Int32.toInt64 (I (40 + 2 * j21) j) = Int64.ofInt (pz (rw_ s j21) j) := fun j hj => by rw [kS_r (hcS j21 (by omega)) (kS_o (hcS j21 (by omega)) (Decidable.not_not.mp h8)) j (by omega)]; exact i2l_o _
      have ht_ : ∀ j, j < 16 → L (57 + 5 * j18) j = Int64.ofInt (tz s j18 j) := fun j hj => ((hcG j18 (by omega)).2.1 j hj).trans (i2l_o _)
      have rg_ : mRg (rw_ s j21) 4 100 := (mRg_c (f := I (40 + 2 * j21)) (f' := rw_ s j21) (n := 4) (w := 100) (fun j hj => kS_r (hcS j21 (by omega)) (kS_o (hcS j21 (by omega)) (Decidable.not_not.mp h8)) j (by omega))).mp h11
      have sb_ := sVal_b (hW.2.1 j18 (by omega)) rg_ rg_
      have sv_ : ¬ sVal s j18 (rw_ s j21) (rw_ s j21) = 0 := fun z => h15 ((cPr_o (z := tz s j18) (p := pz (rw_ s j21)) (r := pz (rw_ s j21)) (fun j hj => by rw [ma_up_n _ _ (by omega), ma_up_n _ _ (by omega)]; exact ht_ j hj) (fun j hj => (up4 (fun j => Int32.toInt64 (I (40 + 2 * j21) j)) j hj).trans (hp_ j hj)) (fun j hj => (up4 (fun j => Int32.toInt64 (I (40 + 2 * j21) j)) j hj).trans (hp_ j hj))).trans ((o6_0 (by unfold sVal at sb_; omega)).mpr z))
      have e_ : F_lines s (nI j18) (nI j21) = (0, s) := by simp only [F_lines, ix_s (n := 12) h2, ix_s (n := 8) h5, gA, if_neg (kG_o (hcG j18 (by omega)) h7), if_neg (kS_o (hcS j21 (by omega)) (Decidable.not_not.mp h8)), if_neg (n4_ (kS_e (hcS j21 (by omega)) (kS_o (hcS j21 (by omega)) (Decidable.not_not.mp h8))) h9), cIf_p ((mRg_c (f := I (40 + 2 * j21)) (f' := rw_ s j21) (n := 4) (w := 100) (fun j hj => kS_r (hcS j21 (by omega)) (kS_o (hcS j21 (by omega)) (Decidable.not_not.mp h8)) j (by omega))).mp h11), cIf_n (fun z => h13 ((mZr_c (f := I (40 + 2 * j21)) (f' := rw_ s j21) (n := 4) (fun j hj => kS_r (hcS j21 (by omega)) (kS_o (hcS j21 (by omega)) (Decidable.not_not.mp h8)) j (by omega))).mpr z)), if_neg sv_]
      rw [e_] at k
      dsimp only at k
      exact k _ _ (rC_x hC (fun _ _ => rfl) (fun a ha => by rw [ma_up_n _ _ (by omega), ma_up_n _ _ (by omega)])) (mS_ul (mS_ul mS_rf (by omega)) (by omega)))
    (fun j32 h2 e3 j35 h5 e6 h7 h8 h9 h10 h11 h12 h13 h14 => by
      subst e3
      subst e6
      exact absurd h14 h13)
    (fun j46 h2 e3 j49 h5 e6 h7 h8 h9 h10 h11 h12 h13 => by
      subst e3
      subst e6
      have e_ : F_lines s (nI j46) (nI j49) = ((-3), (sM s 4)) := by simp only [F_lines, ix_s (n := 12) h2, ix_s (n := 8) h5, gA, if_neg (kG_o (hcG j46 (by omega)) h7), if_neg (kS_o (hcS j49 (by omega)) (Decidable.not_not.mp h8)), if_neg (n4_ (kS_e (hcS j49 (by omega)) (kS_o (hcS j49 (by omega)) (Decidable.not_not.mp h8))) h9), cIf_p ((mRg_c (f := I (40 + 2 * j49)) (f' := rw_ s j49) (n := 4) (w := 100) (fun j hj => kS_r (hcS j49 (by omega)) (kS_o (hcS j49 (by omega)) (Decidable.not_not.mp h8)) j (by omega))).mp h11), cIf_p ((mZr_c (f := I (40 + 2 * j49)) (f' := rw_ s j49) (n := 4) (fun j hj => kS_r (hcS j49 (by omega)) (kS_o (hcS j49 (by omega)) (Decidable.not_not.mp h8)) j (by omega))).mp h13)]
      rw [e_] at k
      dsimp only at k
      exact k _ _ (rC_R hC (by omega)) (mS_R _ _ _))
    (fun j59 h2 e3 j62 h5 e6 h7 h8 h9 h10 h11 h12 => by
      subst e3
      subst e6
      exact absurd h11 h12)
    (fun j71 h2 e3 j74 h5 e6 h7 h8 h9 h10 h11 => by
      subst e3
      subst e6
      have e_ : F_lines s (nI j71) (nI j74) = ((-3), (sM s 2)) := by simp only [F_lines, ix_s (n := 12) h2, ix_s (n := 8) h5, gA, if_neg (kG_o (hcG j71 (by omega)) h7), if_neg (kS_o (hcS j74 (by omega)) (Decidable.not_not.mp h8)), if_neg (n4_ (kS_e (hcS j74 (by omega)) (kS_o (hcS j74 (by omega)) (Decidable.not_not.mp h8))) h9), cIf_n (fun z => h11 ((mRg_c (f := I (40 + 2 * j74)) (f' := rw_ s j74) (n := 4) (w := 100) (fun j hj => kS_r (hcS j74 (by omega)) (kS_o (hcS j74 (by omega)) (Decidable.not_not.mp h8)) j (by omega))).mpr z))]
      rw [e_] at k
      dsimp only at k
      exact k _ _ (rC_R hC (by omega)) (mS_R _ _ _))
    (fun j82 h2 e3 j85 h5 e6 h7 h8 h9 h10 => by
      subst e3
      subst e6
      exact absurd (m4_ h10) h9)
    (fun j92 h2 e3 j95 h5 e6 h7 h8 => by
      subst e3
      subst e6
      have e_ : F_lines s (nI j92) (nI j95) = ((-3), (sM s 1)) := by simp only [F_lines, ix_s (n := 12) h2, ix_s (n := 8) h5, gA, if_neg (kG_o (hcG j92 (by omega)) h7), if_pos (kS_m (hcS j95 (by omega)) h8)]
      rw [e_] at k
      dsimp only at k
      exact k _ _ (rC_R hC (by omega)) (mS_R _ _ _))
    (fun j100 h2 e3 h4 => by
      subst e3
      have e_ : F_lines s (nI j100) s_ = ((-1), s) := by simp only [F_lines, ix_s (n := 12) h2, (show ix 8 s_ = none from (ix_n1 h4 ln_8)), gA]
      rw [e_] at k
      dsimp only at k
      exact k _ _ hC mS_rf)
theorem M_lines {g : ma_G} {I : ma_I} {L : ma_L} {P : ma_P} (hW : wF (ob I L))  (q_ s_ : Int32) (k : ∀ I2 L2, ob I2 L2 = (F_lines (ob I L) q_ s_).2 → cS I L I2 L2 → P (some (.int (F_lines (ob I L) q_ s_).1)) HS I2 L2 RF 146) : CT g yX8_lines cX8_lines 6 (some .int) rX8_lines [.ref 115, .int q_, .int s_] P HS I L RF 146 := by
  exact t_X8_lines q_ s_ 
    (fun h1 => by
      have e_ : F_lines (ob I L) q_ s_ = ((-1), (ob I L)) := by simp only [F_lines, (show ix 12 q_ = none from (ix_n2 h1 li_12)), gA]
      rw [e_] at k
      dsimp only at k
      exact k _ _ rfl cS_rf)
    (fun j2 h2 e3 j5 h5 e6 h7 => by
      subst e3
      subst e6
      have e_ : F_lines (ob I L) (nI j2) (nI j5) = ((-3), (sM (ob I L) 1)) := by simp only [F_lines, ix_s (n := 12) h2, ix_s (n := 8) h5, gA, if_pos (show (ob I L).1 122 j2 = 0 from h7)]
      rw [e_] at k
      dsimp only at k
      exact k _ _ (ob_M _ _ _) (cS_M _ _ _))
    (fun j9 h2 e3 j12 h5 e6 h7 h8 h9 j18 j19 h12 h13 h14 h15 I75 h17 x74 h19 x79 h21 h22 => by
      subst e3
      subst e6
      have rg_ : mRg (rw_ (ob I L) j12) 4 100 := h12.1.2.mp (h12.1.1.elim (fun z => absurd z h13) id)
      have sb_ := sVal_b (hW.2.1 j9 (by omega)) rg_ rg_
      have sv_ := h15
      rw [mBo_o, vPr_c (tz_126 I L j9 _) (pz_126 I L j12) (pz_126 I L j12), show vPr (tz (ob I L) j9) (pz (rw_ (ob I L) j12)) (pz (rw_ (ob I L) j12)) = sVal (ob I L) j9 (rw_ (ob I L) j12) (rw_ (ob I L) j12) from rfl, o3_0 (show (sVal (ob I L) j9 (rw_ (ob I L) j12) (rw_ (ob I L) j12)).natAbs < 2147483648 by omega)] at sv_
      have sv_ : sVal (ob I L) j9 (rw_ (ob I L) j12) (rw_ (ob I L) j12) = 0 := sv_
      have i4_ : I75 124 = I 124 := by rw [h17, mfill_n _ _ _ _ (by decide)]
      have oo_ : ob I75 L = ob I L := by rw [h17]; exact ob_126 _ _ _
      have cc_ : cS I L I75 L := by rw [h17]; exact cS_126 _ _ _
      have kd_ : (ob I L).1 124 (10 * j9 + 0) = 1 := by have q_ := h21.symm.trans h22; rw [i4_] at q_; exact q_
      have ti_ : x74 = 1 ↔ sTip (ob I L) j9 j12 := h19.2.trans ⟨fun q i hi => by
        have q_ := q i hi
        rw [h17, mTan_o, vPn_c (tz_126 I L j9 _) (pz_126 I L j12) hi, o3_0 (by have := vPn_b (tz_b (hW.2.1 j9 (by omega))) (pz_b rg_) hi; omega)] at q_
        exact q_, fun q i hi => by
        rw [h17, mTan_o, vPn_c (tz_126 I L j9 _) (pz_126 I L j12) hi, o3_0 (by have := vPn_b (tz_b (hW.2.1 j9 (by omega))) (pz_b rg_) hi; omega)]
        exact q i hi⟩
      have e_ := k _ _ (show ob I75 L = (F_lines (ob I L) (nI j9) (nI j12)).2 by rw [oo_]; simp only [F_lines, gA, ix_s (n := 12) h2, ix_s (n := 8) h5, if_neg (show ¬ (ob I L).1 122 j9 = 0 from h7), if_neg (kS_w (s := ob I L) h8), if_neg (show ¬ (ob I L).1 117 j12 < 4 from l4_ h9), cIf_p (show mRg (rw_ (ob I L) j12) 4 100 from h12.1.2.mp (h12.1.1.elim (fun z => absurd z h13) id)), cIf_n (show ¬ mZr (rw_ (ob I L) j12) 4 from fun z => absurd (h12.2.2.mpr z) (by rw [h14]; decide)), if_pos sv_]) cc_
      refine cast (congrArg (fun v => P (some (.int v)) HS I75 L RF 146) ?_) e_
      simp only [F_lines, gA, ix_s (n := 12) h2, ix_s (n := 8) h5, if_neg (show ¬ (ob I L).1 122 j9 = 0 from h7), if_neg (kS_w (s := ob I L) h8), if_neg (show ¬ (ob I L).1 117 j12 < 4 from l4_ h9), cIf_p (show mRg (rw_ (ob I L) j12) 4 100 from h12.1.2.mp (h12.1.1.elim (fun z => absurd z h13) id)), cIf_n (show ¬ mZr (rw_ (ob I L) j12) 4 from fun z => absurd (h12.2.2.mpr z) (by rw [h14]; decide)), if_pos sv_, lnK, if_neg (show ¬ (ob I L).1 124 (10 * j9 + 0) = 4 by rw [kd_]; decide), if_pos kd_]
      rw [i4_]
      show (if 0 < I 124 (10 * j9 + 1) ∧ 0 < I 124 (10 * j9 + 2) then cIf (sTip (ob I L) j9 j12) 9 1 else 0) = _
      have s1_ : (0 < I 124 (10 * j9 + 1) ∧ 0 < I 124 (10 * j9 + 2)) ↔ ((¬ I 124 (10 * j9 + 1) ≤ 0) ∧ (¬ I 124 (10 * j9 + 2) ≤ 0)) := by rw [nb_lt, nb_lt, nb_le, nb_le]; omega
      by_cases q1_ : 0 < I 124 (10 * j9 + 1) ∧ 0 < I 124 (10 * j9 + 2)
      · rw [if_pos q1_, if_pos (s1_.mp q1_)]
        by_cases q2_ : x74 = 0
        · rw [if_pos q2_, cIf_n (fun z => by rw [← ti_, q2_] at z; exact absurd z (by decide))]
        · rw [if_neg q2_, cIf_p (ti_.mp (h19.1.elim (fun z => absurd z q2_) id))]
      · rw [if_neg q1_, if_neg (fun z => q1_ (s1_.mpr z))])
    (fun j9 h2 e3 j12 h5 e6 h7 h8 h9 j18 j19 h12 h13 h14 h15 I75 h17 x74 h19 x79 h21 h22 h23 => by
      subst e3
      subst e6
      have rg_ : mRg (rw_ (ob I L) j12) 4 100 := h12.1.2.mp (h12.1.1.elim (fun z => absurd z h13) id)
      have sb_ := sVal_b (hW.2.1 j9 (by omega)) rg_ rg_
      have sv_ := h15
      rw [mBo_o, vPr_c (tz_126 I L j9 _) (pz_126 I L j12) (pz_126 I L j12), show vPr (tz (ob I L) j9) (pz (rw_ (ob I L) j12)) (pz (rw_ (ob I L) j12)) = sVal (ob I L) j9 (rw_ (ob I L) j12) (rw_ (ob I L) j12) from rfl, o3_0 (show (sVal (ob I L) j9 (rw_ (ob I L) j12) (rw_ (ob I L) j12)).natAbs < 2147483648 by omega)] at sv_
      have sv_ : sVal (ob I L) j9 (rw_ (ob I L) j12) (rw_ (ob I L) j12) = 0 := sv_
      have i4_ : I75 124 = I 124 := by rw [h17, mfill_n _ _ _ _ (by decide)]
      have oo_ : ob I75 L = ob I L := by rw [h17]; exact ob_126 _ _ _
      have cc_ : cS I L I75 L := by rw [h17]; exact cS_126 _ _ _
      have kd_ : (ob I L).1 124 (10 * j9 + 0) = 2 := by have q_ := h21.symm.trans h22; rw [i4_] at q_; exact q_
      have fo_ := fl_ok hW (g := j9) (by omega) (show ¬ (ob I L).1 122 j9 = 0 from h7) kd_
      have n3_ := h23
      rw [i4_] at n3_
      have e_ := k _ _ (show ob I75 L = (F_lines (ob I L) (nI j9) (nI j12)).2 by rw [oo_]; simp only [F_lines, gA, ix_s (n := 12) h2, ix_s (n := 8) h5, if_neg (show ¬ (ob I L).1 122 j9 = 0 from h7), if_neg (kS_w (s := ob I L) h8), if_neg (show ¬ (ob I L).1 117 j12 < 4 from l4_ h9), cIf_p (show mRg (rw_ (ob I L) j12) 4 100 from h12.1.2.mp (h12.1.1.elim (fun z => absurd z h13) id)), cIf_n (show ¬ mZr (rw_ (ob I L) j12) 4 from fun z => absurd (h12.2.2.mpr z) (by rw [h14]; decide)), if_pos sv_]) cc_
      refine cast (congrArg (fun v => P (some (.int v)) HS I75 L RF 146) ?_) e_
      simp only [F_lines, gA, ix_s (n := 12) h2, ix_s (n := 8) h5, if_neg (show ¬ (ob I L).1 122 j9 = 0 from h7), if_neg (kS_w (s := ob I L) h8), if_neg (show ¬ (ob I L).1 117 j12 < 4 from l4_ h9), cIf_p (show mRg (rw_ (ob I L) j12) 4 100 from h12.1.2.mp (h12.1.1.elim (fun z => absurd z h13) id)), cIf_n (show ¬ mZr (rw_ (ob I L) j12) 4 from fun z => absurd (h12.2.2.mpr z) (by rw [h14]; decide)), if_pos sv_, lnK, if_neg (show ¬ (ob I L).1 124 (10 * j9 + 0) = 4 by rw [kd_]; decide), if_neg (show ¬ (ob I L).1 124 (10 * j9 + 0) = 1 by rw [kd_]; decide), if_pos kd_]
      exact if_neg (fun z => n3_ (fo_.mpr z).1))
    (fun j9 h2 e3 j12 h5 e6 h7 h8 h9 j18 j19 h12 h13 h14 h15 I75 h17 x74 h19 x79 h21 h22 h23 => by
      subst e3
      subst e6
      have rg_ : mRg (rw_ (ob I L) j12) 4 100 := h12.1.2.mp (h12.1.1.elim (fun z => absurd z h13) id)
      have sb_ := sVal_b (hW.2.1 j9 (by omega)) rg_ rg_
      have sv_ := h15
      rw [mBo_o, vPr_c (tz_126 I L j9 _) (pz_126 I L j12) (pz_126 I L j12), show vPr (tz (ob I L) j9) (pz (rw_ (ob I L) j12)) (pz (rw_ (ob I L) j12)) = sVal (ob I L) j9 (rw_ (ob I L) j12) (rw_ (ob I L) j12) from rfl, o3_0 (show (sVal (ob I L) j9 (rw_ (ob I L) j12) (rw_ (ob I L) j12)).natAbs < 2147483648 by omega)] at sv_
      have sv_ : sVal (ob I L) j9 (rw_ (ob I L) j12) (rw_ (ob I L) j12) = 0 := sv_
      have i4_ : I75 124 = I 124 := by rw [h17, mfill_n _ _ _ _ (by decide)]
      have oo_ : ob I75 L = ob I L := by rw [h17]; exact ob_126 _ _ _
      have cc_ : cS I L I75 L := by rw [h17]; exact cS_126 _ _ _
      have kd_ : (ob I L).1 124 (10 * j9 + 0) = 2 := by have q_ := h21.symm.trans h22; rw [i4_] at q_; exact q_
      have fo_ := fl_ok hW (g := j9) (by omega) (show ¬ (ob I L).1 122 j9 = 0 from h7) kd_
      have n3_ := h23
      rw [i4_] at n3_
      have e_ := k _ _ (show ob I75 L = (F_lines (ob I L) (nI j9) (nI j12)).2 by rw [oo_]; simp only [F_lines, gA, ix_s (n := 12) h2, ix_s (n := 8) h5, if_neg (show ¬ (ob I L).1 122 j9 = 0 from h7), if_neg (kS_w (s := ob I L) h8), if_neg (show ¬ (ob I L).1 117 j12 < 4 from l4_ h9), cIf_p (show mRg (rw_ (ob I L) j12) 4 100 from h12.1.2.mp (h12.1.1.elim (fun z => absurd z h13) id)), cIf_n (show ¬ mZr (rw_ (ob I L) j12) 4 from fun z => absurd (h12.2.2.mpr z) (by rw [h14]; decide)), if_pos sv_]) cc_
      refine cast (congrArg (fun v => P (some (.int v)) HS I75 L RF 146) ?_) e_
      simp only [F_lines, gA, ix_s (n := 12) h2, ix_s (n := 8) h5, if_neg (show ¬ (ob I L).1 122 j9 = 0 from h7), if_neg (kS_w (s := ob I L) h8), if_neg (show ¬ (ob I L).1 117 j12 < 4 from l4_ h9), cIf_p (show mRg (rw_ (ob I L) j12) 4 100 from h12.1.2.mp (h12.1.1.elim (fun z => absurd z h13) id)), cIf_n (show ¬ mZr (rw_ (ob I L) j12) 4 from fun z => absurd (h12.2.2.mpr z) (by rw [h14]; decide)), if_pos sv_, lnK, if_neg (show ¬ (ob I L).1 124 (10 * j9 + 0) = 4 by rw [kd_]; decide), if_neg (show ¬ (ob I L).1 124 (10 * j9 + 0) = 1 by rw [kd_]; decide), if_pos kd_]
      rw [i4_]
      by_cases q1_ : (¬ I 124 (10 * j9 + 1) ≤ 0) ∧ (¬ I 124 (10 * j9 + 2) ≤ 0)
      · rw [if_pos q1_]; exact if_neg (fun z => (fo_.mpr z).2 q1_)
      · rw [if_neg q1_]; exact if_pos (fo_.mp ⟨n3_, q1_⟩))
    (fun j9 h2 e3 j12 h5 e6 h7 h8 h9 j18 j19 h12 h13 h14 h15 I75 h17 x74 h19 x79 h21 h22 => by
      subst e3
      subst e6
      have rg_ : mRg (rw_ (ob I L) j12) 4 100 := h12.1.2.mp (h12.1.1.elim (fun z => absurd z h13) id)
      have sb_ := sVal_b (hW.2.1 j9 (by omega)) rg_ rg_
      have sv_ := h15
      rw [mBo_o, vPr_c (tz_126 I L j9 _) (pz_126 I L j12) (pz_126 I L j12), show vPr (tz (ob I L) j9) (pz (rw_ (ob I L) j12)) (pz (rw_ (ob I L) j12)) = sVal (ob I L) j9 (rw_ (ob I L) j12) (rw_ (ob I L) j12) from rfl, o3_0 (show (sVal (ob I L) j9 (rw_ (ob I L) j12) (rw_ (ob I L) j12)).natAbs < 2147483648 by omega)] at sv_
      have sv_ : sVal (ob I L) j9 (rw_ (ob I L) j12) (rw_ (ob I L) j12) = 0 := sv_
      have i4_ : I75 124 = I 124 := by rw [h17, mfill_n _ _ _ _ (by decide)]
      have oo_ : ob I75 L = ob I L := by rw [h17]; exact ob_126 _ _ _
      have cc_ : cS I L I75 L := by rw [h17]; exact cS_126 _ _ _
      have kd_ : (ob I L).1 124 (10 * j9 + 0) = 3 := by have q_ := h21.symm.trans h22; rw [i4_] at q_; exact q_
      have e_ := k _ _ (show ob I75 L = (F_lines (ob I L) (nI j9) (nI j12)).2 by rw [oo_]; simp only [F_lines, gA, ix_s (n := 12) h2, ix_s (n := 8) h5, if_neg (show ¬ (ob I L).1 122 j9 = 0 from h7), if_neg (kS_w (s := ob I L) h8), if_neg (show ¬ (ob I L).1 117 j12 < 4 from l4_ h9), cIf_p (show mRg (rw_ (ob I L) j12) 4 100 from h12.1.2.mp (h12.1.1.elim (fun z => absurd z h13) id)), cIf_n (show ¬ mZr (rw_ (ob I L) j12) 4 from fun z => absurd (h12.2.2.mpr z) (by rw [h14]; decide)), if_pos sv_]) cc_
      refine cast (congrArg (fun v => P (some (.int v)) HS I75 L RF 146) ?_) e_
      simp only [F_lines, gA, ix_s (n := 12) h2, ix_s (n := 8) h5, if_neg (show ¬ (ob I L).1 122 j9 = 0 from h7), if_neg (kS_w (s := ob I L) h8), if_neg (show ¬ (ob I L).1 117 j12 < 4 from l4_ h9), cIf_p (show mRg (rw_ (ob I L) j12) 4 100 from h12.1.2.mp (h12.1.1.elim (fun z => absurd z h13) id)), cIf_n (show ¬ mZr (rw_ (ob I L) j12) 4 from fun z => absurd (h12.2.2.mpr z) (by rw [h14]; decide)), if_pos sv_, lnK, if_neg (show ¬ (ob I L).1 124 (10 * j9 + 0) = 4 by rw [kd_]; decide), if_neg (show ¬ (ob I L).1 124 (10 * j9 + 0) = 1 by rw [kd_]; decide), if_neg (show ¬ (ob I L).1 124 (10 * j9 + 0) = 2 by rw [kd_]; decide)])
    (fun j9 h2 e3 j12 h5 e6 h7 h8 h9 j18 j19 h12 h13 h14 h15 I75 h17 x74 h19 x79 h21 h22 => by
      subst e3
      subst e6
      have rg_ : mRg (rw_ (ob I L) j12) 4 100 := h12.1.2.mp (h12.1.1.elim (fun z => absurd z h13) id)
      have sb_ := sVal_b (hW.2.1 j9 (by omega)) rg_ rg_
      have sv_ := h15
      rw [mBo_o, vPr_c (tz_126 I L j9 _) (pz_126 I L j12) (pz_126 I L j12), show vPr (tz (ob I L) j9) (pz (rw_ (ob I L) j12)) (pz (rw_ (ob I L) j12)) = sVal (ob I L) j9 (rw_ (ob I L) j12) (rw_ (ob I L) j12) from rfl, o3_0 (show (sVal (ob I L) j9 (rw_ (ob I L) j12) (rw_ (ob I L) j12)).natAbs < 2147483648 by omega)] at sv_
      have sv_ : sVal (ob I L) j9 (rw_ (ob I L) j12) (rw_ (ob I L) j12) = 0 := sv_
      have i4_ : I75 124 = I 124 := by rw [h17, mfill_n _ _ _ _ (by decide)]
      have oo_ : ob I75 L = ob I L := by rw [h17]; exact ob_126 _ _ _
      have cc_ : cS I L I75 L := by rw [h17]; exact cS_126 _ _ _
      have kd_ : (ob I L).1 124 (10 * j9 + 0) = 4 := by have q_ := h21.symm.trans h22; rw [i4_] at q_; exact q_
      have e_ := k _ _ (show ob I75 L = (F_lines (ob I L) (nI j9) (nI j12)).2 by rw [oo_]; simp only [F_lines, gA, ix_s (n := 12) h2, ix_s (n := 8) h5, if_neg (show ¬ (ob I L).1 122 j9 = 0 from h7), if_neg (kS_w (s := ob I L) h8), if_neg (show ¬ (ob I L).1 117 j12 < 4 from l4_ h9), cIf_p (show mRg (rw_ (ob I L) j12) 4 100 from h12.1.2.mp (h12.1.1.elim (fun z => absurd z h13) id)), cIf_n (show ¬ mZr (rw_ (ob I L) j12) 4 from fun z => absurd (h12.2.2.mpr z) (by rw [h14]; decide)), if_pos sv_]) cc_
      refine cast (congrArg (fun v => P (some (.int v)) HS I75 L RF 146) ?_) e_
      simp only [F_lines, gA, ix_s (n := 12) h2, ix_s (n := 8) h5, if_neg (show ¬ (ob I L).1 122 j9 = 0 from h7), if_neg (kS_w (s := ob I L) h8), if_neg (show ¬ (ob I L).1 117 j12 < 4 from l4_ h9), cIf_p (show mRg (rw_ (ob I L) j12) 4 100 from h12.1.2.mp (h12.1.1.elim (fun z => absurd z h13) id)), cIf_n (show ¬ mZr (rw_ (ob I L) j12) 4 from fun z => absurd (h12.2.2.mpr z) (by rw [h14]; decide)), if_pos sv_, lnK, if_pos kd_])
    (fun j9 h2 e3 j12 h5 e6 h7 h8 h9 j18 j19 h12 h13 h14 h15 I75 h17 x74 h19 x79 h21 h22 h23 h24 h25 => by
      subst e3
      subst e6
      have rg_ : mRg (rw_ (ob I L) j12) 4 100 := h12.1.2.mp (h12.1.1.elim (fun z => absurd z h13) id)
      have sb_ := sVal_b (hW.2.1 j9 (by omega)) rg_ rg_
      have sv_ := h15
      rw [mBo_o, vPr_c (tz_126 I L j9 _) (pz_126 I L j12) (pz_126 I L j12), show vPr (tz (ob I L) j9) (pz (rw_ (ob I L) j12)) (pz (rw_ (ob I L) j12)) = sVal (ob I L) j9 (rw_ (ob I L) j12) (rw_ (ob I L) j12) from rfl, o3_0 (show (sVal (ob I L) j9 (rw_ (ob I L) j12) (rw_ (ob I L) j12)).natAbs < 2147483648 by omega)] at sv_
      have sv_ : sVal (ob I L) j9 (rw_ (ob I L) j12) (rw_ (ob I L) j12) = 0 := sv_
      have i4_ : I75 124 = I 124 := by rw [h17, mfill_n _ _ _ _ (by decide)]
      have oo_ : ob I75 L = ob I L := by rw [h17]; exact ob_126 _ _ _
      have cc_ : cS I L I75 L := by rw [h17]; exact cS_126 _ _ _
      have e_ := k _ _ (show ob I75 L = (F_lines (ob I L) (nI j9) (nI j12)).2 by rw [oo_]; simp only [F_lines, gA, ix_s (n := 12) h2, ix_s (n := 8) h5, if_neg (show ¬ (ob I L).1 122 j9 = 0 from h7), if_neg (kS_w (s := ob I L) h8), if_neg (show ¬ (ob I L).1 117 j12 < 4 from l4_ h9), cIf_p (show mRg (rw_ (ob I L) j12) 4 100 from h12.1.2.mp (h12.1.1.elim (fun z => absurd z h13) id)), cIf_n (show ¬ mZr (rw_ (ob I L) j12) 4 from fun z => absurd (h12.2.2.mpr z) (by rw [h14]; decide)), if_pos sv_]) cc_
      refine cast (congrArg (fun v => P (some (.int v)) HS I75 L RF 146) ?_) e_
      simp only [F_lines, gA, ix_s (n := 12) h2, ix_s (n := 8) h5, if_neg (show ¬ (ob I L).1 122 j9 = 0 from h7), if_neg (kS_w (s := ob I L) h8), if_neg (show ¬ (ob I L).1 117 j12 < 4 from l4_ h9), cIf_p (show mRg (rw_ (ob I L) j12) 4 100 from h12.1.2.mp (h12.1.1.elim (fun z => absurd z h13) id)), cIf_n (show ¬ mZr (rw_ (ob I L) j12) 4 from fun z => absurd (h12.2.2.mpr z) (by rw [h14]; decide)), if_pos sv_, lnK, if_neg (show ¬ (ob I L).1 124 (10 * j9 + 0) = 4 from fun z => h25 (by rw [h21, i4_]; exact z)), if_neg (show ¬ (ob I L).1 124 (10 * j9 + 0) = 1 from fun z => h22 (by rw [h21, i4_]; exact z)), if_neg (show ¬ (ob I L).1 124 (10 * j9 + 0) = 2 from fun z => h23 (by rw [h21, i4_]; exact z))])
    (fun j9 h2 e3 j12 h5 e6 h7 h8 h9 j18 j19 h12 h13 h14 h15 => by
      subst e3
      subst e6
      have rg_ : mRg (rw_ (ob I L) j12) 4 100 := h12.1.2.mp (h12.1.1.elim (fun z => absurd z h13) id)
      have sb_ := sVal_b (hW.2.1 j9 (by omega)) rg_ rg_
      have sv_ := h15
      rw [mBo_o, vPr_c (tz_126 I L j9 _) (pz_126 I L j12) (pz_126 I L j12), show vPr (tz (ob I L) j9) (pz (rw_ (ob I L) j12)) (pz (rw_ (ob I L) j12)) = sVal (ob I L) j9 (rw_ (ob I L) j12) (rw_ (ob I L) j12) from rfl, o3_0 (show (sVal (ob I L) j9 (rw_ (ob I L) j12) (rw_ (ob I L) j12)).natAbs < 2147483648 by omega)] at sv_
      have sv_ : ¬ sVal (ob I L) j9 (rw_ (ob I L) j12) (rw_ (ob I L) j12) = 0 := sv_
      have e_ : F_lines (ob I L) (nI j9) (nI j12) = (0, (ob I L)) := by simp only [F_lines, ix_s (n := 12) h2, ix_s (n := 8) h5, gA, if_neg (show ¬ (ob I L).1 122 j9 = 0 from h7), if_neg (kS_w (s := ob I L) h8), if_neg (show ¬ (ob I L).1 117 j12 < 4 from l4_ h9), cIf_p (show mRg (rw_ (ob I L) j12) 4 100 from h12.1.2.mp (h12.1.1.elim (fun z => absurd z h13) id)), cIf_n (show ¬ mZr (rw_ (ob I L) j12) 4 from fun z => absurd (h12.2.2.mpr z) (by rw [h14]; decide)), if_neg sv_]
      rw [e_] at k
      dsimp only at k
      exact k _ _ (ob_126 _ _ _) (cS_126 _ _ _))
    (fun j23 h2 e3 j26 h5 e6 h7 h8 h9 j32 j33 h12 h13 h14 => by
      subst e3
      subst e6
      have e_ : F_lines (ob I L) (nI j23) (nI j26) = ((-3), (sM (ob I L) 4)) := by simp only [F_lines, ix_s (n := 12) h2, ix_s (n := 8) h5, gA, if_neg (show ¬ (ob I L).1 122 j23 = 0 from h7), if_neg (kS_w (s := ob I L) h8), if_neg (show ¬ (ob I L).1 117 j26 < 4 from l4_ h9), cIf_p (show mRg (rw_ (ob I L) j26) 4 100 from h12.1.2.mp (h12.1.1.elim (fun z => absurd z h13) id)), cIf_p (show mZr (rw_ (ob I L) j26) 4 from h12.2.2.mp (h12.2.1.elim (fun z => absurd z h14) id))]
      rw [e_] at k
      dsimp only at k
      exact k _ _ ((ob_M _ _ _).trans (congrArg (fun z => sM z 4) (ob_126 _ _ _))) (cS_tr (cS_126 _ _ _) (cS_M _ _ _)))
    (fun j37 h2 e3 j40 h5 e6 h7 h8 h9 j46 j47 h12 h13 => by
      subst e3
      subst e6
      have e_ : F_lines (ob I L) (nI j37) (nI j40) = ((-3), (sM (ob I L) 2)) := by simp only [F_lines, ix_s (n := 12) h2, ix_s (n := 8) h5, gA, if_neg (show ¬ (ob I L).1 122 j37 = 0 from h7), if_neg (kS_w (s := ob I L) h8), if_neg (show ¬ (ob I L).1 117 j40 < 4 from l4_ h9), cIf_n (show ¬ mRg (rw_ (ob I L) j40) 4 100 from fun z => absurd (h12.1.2.mpr z) (by rw [h13]; decide))]
      rw [e_] at k
      dsimp only at k
      exact k _ _ ((ob_M _ _ _).trans (congrArg (fun z => sM z 2) (ob_126 _ _ _))) (cS_tr (cS_126 _ _ _) (cS_M _ _ _)))
    (fun j50 h2 e3 j53 h5 e6 h7 h8 h9 => by
      subst e3
      subst e6
      have e_ : F_lines (ob I L) (nI j50) (nI j53) = ((-3), (sM (ob I L) 5)) := by simp only [F_lines, ix_s (n := 12) h2, ix_s (n := 8) h5, gA, if_neg (show ¬ (ob I L).1 122 j50 = 0 from h7), if_neg (kS_w (s := ob I L) h8), if_pos (show (ob I L).1 117 j53 < 4 from m4_ h9)]
      rw [e_] at k
      dsimp only at k
      exact k _ _ (ob_M _ _ _) (cS_M _ _ _))
    (fun j59 h2 e3 j62 h5 e6 h7 h8 => by
      subst e3
      subst e6
      have e_ : F_lines (ob I L) (nI j59) (nI j62) = ((-3), (sM (ob I L) 1)) := by simp only [F_lines, ix_s (n := 12) h2, ix_s (n := 8) h5, gA, if_neg (show ¬ (ob I L).1 122 j59 = 0 from h7), if_pos (kS_y (s := ob I L) h8)]
      rw [e_] at k
      dsimp only at k
      exact k _ _ (ob_M _ _ _) (cS_M _ _ _))
    (fun j67 h2 e3 h4 => by
      subst e3
      have e_ : F_lines (ob I L) (nI j67) s_ = ((-1), (ob I L)) := by simp only [F_lines, ix_s (n := 12) h2, (show ix 8 s_ = none from (ix_n2 h4 li_8)), gA]
      rw [e_] at k
      dsimp only at k
      exact k _ _ rfl cS_rf)
theorem p_lines {g : ma_G} {I : ma_I} {L : ma_L} {P1 : ma_P} (hI : INV I L) (a1 a2 : Int32) (k : ∀ (r : Int32) (I1 : ma_I) (L1 : ma_L), (∀ {P2 : ma_P}, (∀ (I2 : ma_I) (L2 : ma_L), INV I2 L2 → P2 (some (.int r)) HS I2 L2 RF 146) → CT g yX8_lines cX8_lines 6 (some .int) rX8_lines [.ref 115, .int a1, .int a2] P2 HS I1 L1 RF 146) → P1 (some (.int r)) HS I1 L1 RF 146) : CT g yX7_lines cX7_lines 5 (some .int) rX7_lines [.ref 3, .int a1, .int a2] P1 HS I L RF 146 :=
  pair_i (F := F_lines (ob I L) a1 a2) hI (W_lines hI.1 a1 a2) (fun P kk => C_lines hI.1 hI.2 a1 a2 kk) (fun I1 L1 P e kk => M_lines (by rw [e]; exact hI.1)  a1 a2 (by rw [e]; exact kk)) k
