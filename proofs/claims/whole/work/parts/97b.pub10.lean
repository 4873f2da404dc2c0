theorem j4c {j : Nat} : j = 0 ∨ j = 1 ∨ j = 2 ∨ j = 3 ∨ 4 ≤ j := by omega
/-- a sheet of four poles -/
def sTg (s : sG) (y : Nat) (v : Nat → Int32) : sG := (ma_up (sClr s y 4).1 118 (ma_up (ma_up (ma_up (ma_up ((sClr s y 4).1 118) ((16 * y) + 0) (v 0)) ((16 * y) + 1) (v 1)) ((16 * y) + 2) (v 2)) ((16 * y) + 3) (v 3)), s.2)
theorem sTg_r {s : sG} {y : Nat} {v : Nat → Int32} {a : Nat} (h' : a ≠ 118) : (sTg s y v).1 a = (sClr s y 4).1 a := by unfold sTg; dsimp only; rw [ma_up_n _ _ h']
theorem sTg_8 (s : sG) (y : Nat) (v : Nat → Int32) {j : Nat} (hj : j < 16) : (sTg s y v).1 118 (16 * y + j) = if j < 4 then v j else 0 := by
  unfold sTg; dsimp only; rw [ma_up_s]
  rcases (j4c : j = 0 ∨ j = 1 ∨ j = 2 ∨ j = 3 ∨ 4 ≤ j) with q | q | q | q | q
  · subst q; rw [if_pos (by omega), ma_up_n _ _ (by omega), ma_up_n _ _ (by omega), ma_up_n _ _ (by omega), ma_up_s]
  · subst q; rw [if_pos (by omega), ma_up_n _ _ (by omega), ma_up_n _ _ (by omega), ma_up_s]
  · subst q; rw [if_pos (by omega), ma_up_n _ _ (by omega), ma_up_s]
  · subst q; rw [if_pos (by omega), ma_up_s]
  · rw [if_neg (by omega), ma_up_n _ _ (by omega), ma_up_n _ _ (by omega), ma_up_n _ _ (by omega), ma_up_n _ _ (by omega), sClr_8, if_pos (by omega)]
theorem sTg_o (s : sG) (y : Nat) (v : Nat → Int32) {z j : Nat} (hz : z ≠ y) (hj : j < 16) : (sTg s y v).1 118 (16 * z + j) = s.1 118 (16 * z + j) := by
  unfold sTg; dsimp only; rw [ma_up_s, ma_up_n _ _ (by omega), ma_up_n _ _ (by omega), ma_up_n _ _ (by omega), ma_up_n _ _ (by omega), sClr_8, if_neg (by omega)]
theorem wF_tg {s : sG} (h : wF s) (y : Nat) (v : Nat → Int32) : wF (sTg s y v) := by
  refine wF_sh (x := y) h (fun a q => by rw [sTg_r (by omega)]; exact sClr_r (by omega) (by omega)) (fun z hz => by rw [sTg_r (by decide), sClr_7, ma_up_n _ _ hz]) (fun z j hz hj => sTg_o s y v hz hj) ⟨?_, fun q j hj hq => ?_⟩
  · rw [sTg_r (by decide), sClr_7, ma_up_s]; decide
  · rw [sTg_r (by decide), sClr_7, ma_up_s] at hq
    have z4 : (4 : Int32).toInt = 4 := by decide
    rw [sTg_8 s y v hj, if_neg (by omega)]
theorem rC_tg {s : sG} {I : ma_I} {L : ma_L} (h : rC s I L) {y : Nat} (hy : y < 8) {v : Nat → Int32} {w0 w1 w2 w3 : Int32} {J6 J7 J8 J9 J10 : ma_I} (j6 : J6 = cBg I (39 + 2 * y) (40 + 2 * y) 4) (j7 : J7 = ma_up J6 (40 + 2 * y) (ma_up (J6 (40 + 2 * y)) 0 w0)) (j8 : J8 = ma_up J7 (40 + 2 * y) (ma_up (J7 (40 + 2 * y)) 1 w1)) (j9 : J9 = ma_up J8 (40 + 2 * y) (ma_up (J8 (40 + 2 * y)) 2 w2)) (j10 : J10 = ma_up J9 (40 + 2 * y) (ma_up (J9 (40 + 2 * y)) 3 w3)) (e0 : w0 = v 0) (e1 : w1 = v 1) (e2 : w2 = v 2) (e3 : w3 = v 3) : rC (sTg s y v) J10 L := by
  subst e0 e1 e2 e3
  have n_ : ∀ a, a ≠ 40 + 2 * y → J10 a = J6 a := fun a ha => by rw [j10, ma_up_n _ _ ha, j9, ma_up_n _ _ ha, j8, ma_up_n _ _ ha, j7, ma_up_n _ _ ha]
  have r_ : J10 (40 + 2 * y) = ma_up (ma_up (ma_up (ma_up (J6 (40 + 2 * y)) 0 (v 0)) 1 (v 1)) 2 (v 2)) 3 (v 3) := by rw [j10, ma_up_s, j9, ma_up_s, j8, ma_up_s, j7, ma_up_s]
  refine rC_sh h hy rfl (fun a q1 q2 => by rw [sTg_r q2]; exact sClr_r q1 q2) (fun z hz => by rw [sTg_r (by decide), sClr_7, ma_up_n _ _ hz]) (fun z j hz hj => sTg_o s y v hz hj) (fun a q1 q2 => by rw [n_ a q2, j6]; exact cBg_n I y 4 q1 q2) ⟨fun q => ?_, fun _ => ⟨?_, fun j hj => ?_⟩⟩
  · rw [sTg_r (by decide), sClr_7, ma_up_s] at q; exact absurd q (by decide)
  · rw [sTg_r (by decide), sClr_7, ma_up_s, n_ _ (by omega), j6, cBg_z]
  · rw [sTg_8 s y v hj, r_, j6]
    rcases (j4c : j = 0 ∨ j = 1 ∨ j = 2 ∨ j = 3 ∨ 4 ≤ j) with q | q | q | q | q
    · subst q; rw [if_pos (by omega)]; rfl
    · subst q; rw [if_pos (by omega)]; rfl
    · subst q; rw [if_pos (by omega)]; rfl
    · subst q; rw [if_pos (by omega)]; rfl
    · rw [if_neg (by omega), ma_up_n _ _ (by omega), ma_up_n _ _ (by omega), ma_up_n _ _ (by omega), ma_up_n _ _ (by omega), cBg_r I y 4 hj]
theorem mS_tg {I : ma_I} {L : ma_L} {y : Nat} (hy : y < 8) {w0 w1 w2 w3 : Nat → Int32} {J6 J7 J8 J9 J10 : ma_I} (j6 : J6 = cBg I (39 + 2 * y) (40 + 2 * y) 4) (j7 : J7 = ma_up J6 (40 + 2 * y) w0) (j8 : J8 = ma_up J7 (40 + 2 * y) w1) (j9 : J9 = ma_up J8 (40 + 2 * y) w2) (j10 : J10 = ma_up J9 (40 + 2 * y) w3) : mS I L J10 L := by
  rw [j10, j9, j8, j7, j6]
  exact mS_up (mS_up (mS_up (mS_up (mS_bg _ _ hy _) (by omega)) (by omega)) (by omega)) (by omega)
theorem ob_tg {K : ma_I} {L : ma_L} {s : sG} {y : Nat} {v : Nat → Int32} {w0 w1 w2 w3 : Int32} (hK : ob K L = s) (e0 : w0 = v 0) (e1 : w1 = v 1) (e2 : w2 = v 2) (e3 : w3 = v 3) : ob (ma_up (mClr K y 4) 118 (ma_up (ma_up (ma_up (ma_up ((mClr K y 4) 118) ((16 * y) + 0) w0) ((16 * y) + 1) w1) ((16 * y) + 2) w2) ((16 * y) + 3) w3)) L = sTg s y v := by
  subst e0 e1 e2 e3 hK
  have q := ob_clr K L y 4
  have q1 : oI (mClr K y 4) = (sClr (ob K L) y 4).1 := congrArg (fun z => z.1) q
  have q3 : (mClr K y 4) 118 = (sClr (ob K L) y 4).1 118 := by rw [← q1]; rfl
  unfold sTg
  rw [← q3, ← q1]
  show (oI _, _) = _
  rw [oI_up _ rfl]
  rfl
theorem mClr_3 (K : ma_I) (y : Nat) (n : Int32) {a : Nat} (h : a ≠ 117) (h' : a ≠ 118) : mClr K y n a = K a := by unfold mClr; rw [mfill_n _ _ _ _ h', ma_up_n _ _ h]
def sTan (s : sG) (g : Nat) (u : Nat → Int32) : Nat → Int32 := fun i => Int32.ofInt (vPn (tz s g) (pz u) i)
theorem mTan_k {I : ma_I} {L : ma_L} {g x i : Nat} {T u : Nat → Int32} (hi : i < 4) {f : Nat → Int32} (hT : T = (mfill I 126 0 4 f) 123) (hu : u = (mfill I 126 0 4 (fun k => I 118 (16 * x + k))) 126) : mTan T u g i = sTan (ob I L) g (rw_ (ob I L) x) i := by
  subst hT hu
  rw [mTan_o, vPn_c (tz_126 I L g _) (pz_126 I L x) hi]; rfl
noncomputable def F_tangent (s : sG) (q a b : Int32) : Int32 × sG := match ix 8 b with
  | none => (-1, s)
  | some y => match gA s q a with
    | .inl r => r
    | .inr (g, x) => (1, sTg s y (sTan s g (rw_ s x)))
theorem W_tangent {s : sG} (h : wF s) (a1 a2 a3 : Int32) : wF (F_tangent s a1 a2 a3).2 := by
  unfold F_tangent
  split
  · exact h
  · split
    · rename_i e; exact gA_w h e
    · exact wF_tg h _ _
theorem C_tangent {g : ma_G} {I : ma_I} {L : ma_L} {P : ma_P} {s : sG} (hW : wF s) (hC : rC s I L) (q_ s_ t_ : Int32) (k : ∀ I1 L1, rC (F_tangent s q_ s_ t_).2 I1 L1 → mS I L I1 L1 → P (some (.int (F_tangent s q_ s_ t_).1)) HS I1 L1 RF 146) : CT g yX7_tangent cX7_tangent 7 (some .int) rX7_tangent [.ref 3, .int q_, .int s_, .int t_] P HS I L RF 146 := by
  obtain ⟨hcM, hcN, hcF, hcK, hcT, hcS, hcG⟩ := id hC
  exact t_X7_tangent q_ s_ t_ 
    (fun n2 h2 e3 h4 => by
      subst e3
      have e_ : F_tangent s q_ s_ (nI n2) = ((-1), s) := by simp only [F_tangent, (show ix 12 q_ = none from (ix_n1 h4 ln_12)), ix_s (n := 8) h2, gA]
      rw [e_] at k
      dsimp only at k
      exact k _ _ hC mS_rf)
    (fun n2 h2 e3 j4 h5 e6 j7 h8 e9 h10 => by
      subst e3
      subst e6
      subst e9
      have e_ : F_tangent s (nI j4) (nI j7) (nI n2) = ((-3), (sM s 1)) := by simp only [F_tangent, ix_s (n := 12) h5, ix_s (n := 8) h8, ix_s (n := 8) h2, gA, if_pos (kG_m (hcG j4 (by omega)) h10)]
      rw [e_] at k
      dsimp only at k
      exact k _ _ (rC_R hC (by omega)) (mS_R _ _ _))
    (fun n2 h2 e3 j11 h5 e6 j14 h8 e9 h10 h11 h12 => by
      subst e3
      subst e6
      subst e9
      have e_ : F_tangent s (nI j11) (nI j14) (nI n2) = ((-3), (sM s 5)) := by simp only [F_tangent, ix_s (n := 12) h5, ix_s (n := 8) h8, ix_s (n := 8) h2, gA, if_neg (kG_o (hcG j11 (by omega)) h10), if_neg (kS_o (hcS j14 (by omega)) (Decidable.not_not.mp h11)), if_pos (k4_ (kS_e (hcS j14 (by omega)) (kS_o (hcS j14 (by omega)) (Decidable.not_not.mp h11))) h12)]
      rw [e_] at k
      dsimp only at k
      exact k _ _ (rC_R hC (by omega)) (mS_R _ _ _))
    (fun n2 h2 e3 j20 h5 e6 j23 h8 e9 h10 h11 h12 h13 h14 h15 h16 h17 J106 h19 J107 h21 J108 h23 J109 h25 J110 h27 => by
      subst e3
      subst e6
      subst e9
      have hp_ : ∀ j, j < 4 → Int32.toInt64 (I (40 + 2 * j23) j) = Int64.ofInt (pz (rw_ s j23) j) := fun j hj => by rw [kS_r (hcS j23 (by omega)) (kS_o (hcS j23 (by omega)) (Decidable.not_not.mp h11)) j (by omega)]; exact i2l_o _
      have ht_ : ∀ j, j < 16 → L (57 + 5 * j20) j = Int64.ofInt (tz s j20 j) := fun j hj => ((hcG j20 (by omega)).2.1 j hj).trans (i2l_o _)
      have e_ : F_tangent s (nI j20) (nI j23) (nI n2) = (1, (sTg s n2 (sTan s j20 (rw_ s j23)))) := by simp only [F_tangent, ix_s (n := 12) h5, ix_s (n := 8) h8, ix_s (n := 8) h2, gA, if_neg (kG_o (hcG j20 (by omega)) h10), if_neg (kS_o (hcS j23 (by omega)) (Decidable.not_not.mp h11)), if_neg (n4_ (kS_e (hcS j23 (by omega)) (kS_o (hcS j23 (by omega)) (Decidable.not_not.mp h11))) h12), cIf_p ((mRg_c (f := I (40 + 2 * j23)) (f' := rw_ s j23) (n := 4) (w := 100) (fun j hj => kS_r (hcS j23 (by omega)) (kS_o (hcS j23 (by omega)) (Decidable.not_not.mp h11)) j (by omega))).mp h14), cIf_n (fun z => h16 ((mZr_c (f := I (40 + 2 * j23)) (f' := rw_ s j23) (n := 4) (fun j hj => kS_r (hcS j23 (by omega)) (kS_o (hcS j23 (by omega)) (Decidable.not_not.mp h11)) j (by omega))).mpr z))]
      rw [e_] at k
      dsimp only at k
      exact k _ _ (rC_x (rC_tg hC (by omega) (v := sTan s j20 (rw_ s j23)) h19 h21 h23 h25 h27 ((congrArg Int64.toInt32 (cPn_o (z := tz s j20) (p := pz (rw_ s j23)) (fun j hj => by rw [ma_up_n _ _ (by omega), ma_up_n _ _ (by omega)]; exact ht_ j hj) (fun j hj => (up4 (fun j => Int32.toInt64 (I (40 + 2 * j23) j)) j hj).trans (hp_ j hj)) (i := 0) (by omega))).trans (l2i_o _)) ((congrArg Int64.toInt32 (cPn_o (z := tz s j20) (p := pz (rw_ s j23)) (fun j hj => by rw [ma_up_n _ _ (by omega), ma_up_n _ _ (by omega)]; exact ht_ j hj) (fun j hj => (up4 (fun j => Int32.toInt64 (I (40 + 2 * j23) j)) j hj).trans (hp_ j hj)) (i := 1) (by omega))).trans (l2i_o _)) ((congrArg Int64.toInt32 (cPn_o (z := tz s j20) (p := pz (rw_ s j23)) (fun j hj => by rw [ma_up_n _ _ (by omega), ma_up_n _ _ (by omega)]; exact ht_ j hj) (fun j hj => (up4 (fun j => Int32.toInt64 (I (40 + 2 * j23) j)) j hj).trans (hp_ j hj)) (i := 2) (by omega))).trans (l2i_o _)) ((congrArg Int64.toInt32 (cPn_o (z := tz s j20) (p := pz (rw_ s j23)) (fun j hj => by rw [ma_up_n _ _ (by omega), ma_up_n _ _ (by omega)]; exact ht_ j hj) (fun j hj => (up4 (fun j => Int32.toInt64 (I (40 + 2 * j23) j)) j hj).trans (hp_ j hj)) (i := 3) (by omega))).trans (l2i_o _))) (fun _ _ => rfl) (fun a ha => by rw [ma_up_n _ _ (by omega), ma_up_n _ _ (by omega)])) (mS_ul (mS_ul (mS_tg (by omega) h19 h21 h23 h25 h27) (by omega)) (by omega)))
    (fun n2 h2 e3 j34 h5 e6 j37 h8 e9 h10 h11 h12 h13 h14 h15 h16 h17 => by
      subst e3
      subst e6
      subst e9
      exact absurd h17 h16)
    (fun n2 h2 e3 j48 h5 e6 j51 h8 e9 h10 h11 h12 h13 h14 h15 h16 => by
      subst e3
      subst e6
      subst e9
      have e_ : F_tangent s (nI j48) (nI j51) (nI n2) = ((-3), (sM s 4)) := by simp only [F_tangent, ix_s (n := 12) h5, ix_s (n := 8) h8, ix_s (n := 8) h2, gA, if_neg (kG_o (hcG j48 (by omega)) h10), if_neg (kS_o (hcS j51 (by omega)) (Decidable.not_not.mp h11)), if_neg (n4_ (kS_e (hcS j51 (by omega)) (kS_o (hcS j51 (by omega)) (Decidable.not_not.mp h11))) h12), cIf_p ((mRg_c (f := I (40 + 2 * j51)) (f' := rw_ s j51) (n := 4) (w := 100) (fun j hj => kS_r (hcS j51 (by omega)) (kS_o (hcS j51 (by omega)) (Decidable.not_not.mp h11)) j (by omega))).mp h14), cIf_p ((mZr_c (f := I (40 + 2 * j51)) (f' := rw_ s j51) (n := 4) (fun j hj => kS_r (hcS j51 (by omega)) (kS_o (hcS j51 (by omega)) (Decidable.not_not.mp h11)) j (by omega))).mp h16)]
      rw [e_] at k
      dsimp only at k
      exact k _ _ (rC_R hC (by omega)) (mS_R _ _ _))
    (fun n2 h2 e3 j61 h5 e6 j64 h8 e9 h10 h11 h12 h13 h14 h15 => by
      subst e3
      subst e6
      subst e9
      exact absurd h14 h15)
    (fun n2 h2 e3 j73 h5 e6 j76 h8 e9 h10 h11 h12 h13 h14 => by
      subst e3
      subst e6
      subst e9
      have e_ : F_tangent s (nI j73) (nI j76) (nI n2) = ((-3), (sM s 2)) := by simp only [F_tangent, ix_s (n := 12) h5, ix_s (n := 8) h8, ix_s (n := 8) h2, gA, if_neg (kG_o (hcG j73 (by omega)) h10), if_neg (kS_o (hcS j76 (by omega)) (Decidable.not_not.mp h11)), if_neg (n4_ (kS_e (hcS j76 (by omega)) (kS_o (hcS j76 (by omega)) (Decidable.not_not.mp h11))) h12), cIf_n (fun z => h14 ((mRg_c (f := I (40 + 2 * j76)) (f' := rw_ s j76) (n := 4) (w := 100) (fun j hj => kS_r (hcS j76 (by omega)) (kS_o (hcS j76 (by omega)) (Decidable.not_not.mp h11)) j (by omega))).mpr z))]
      rw [e_] at k
      dsimp only at k
      exact k _ _ (rC_R hC (by omega)) (mS_R _ _ _))
    (fun n2 h2 e3 j84 h5 e6 j87 h8 e9 h10 h11 h12 h13 => by
      subst e3
      subst e6
      subst e9
      exact absurd (m4_ h13) h12)
    (fun n2 h2 e3 j94 h5 e6 j97 h8 e9 h10 h11 => by
      subst e3
      subst e6
      subst e9
      have e_ : F_tangent s (nI j94) (nI j97) (nI n2) = ((-3), (sM s 1)) := by simp only [F_tangent, ix_s (n := 12) h5, ix_s (n := 8) h8, ix_s (n := 8) h2, gA, if_neg (kG_o (hcG j94 (by omega)) h10), if_pos (kS_m (hcS j97 (by omega)) h11)]
      rw [e_] at k
      dsimp only at k
      exact k _ _ (rC_R hC (by omega)) (mS_R _ _ _))
    (fun n2 h2 e3 j102 h5 e6 h7 => by
      subst e3
      subst e6
      have e_ : F_tangent s (nI j102) s_ (nI n2) = ((-1), s) := by simp only [F_tangent, ix_s (n := 12) h5, (show ix 8 s_ = none from (ix_n1 h7 ln_8)), ix_s (n := 8) h2, gA]
      rw [e_] at k
      dsimp only at k
      exact k _ _ hC mS_rf)
    (fun h1 => by
      have e_ : F_tangent s q_ s_ t_ = ((-1), s) := by simp only [F_tangent, (show ix 8 t_ = none from (ix_n1 h1 ln_8)), gA]
      rw [e_] at k
      dsimp only at k
      exact k _ _ hC mS_rf)
theorem M_tangent {g : ma_G} {I : ma_I} {L : ma_L} {P : ma_P} (hW : wF (ob I L))  (q_ s_ t_ : Int32) (k : ∀ I2 L2, ob I2 L2 = (F_tangent (ob I L) q_ s_ t_).2 → cS I L I2 L2 → P (some (.int (F_tangent (ob I L) q_ s_ t_).1)) HS I2 L2 RF 146) : CT g yX8_tangent cX8_tangent 6 (some .int) rX8_tangent [.ref 115, .int q_, .int s_, .int t_] P HS I L RF 146 := by
  exact t_X8_tangent q_ s_ t_ 
    (fun n2 h2 e3 h4 => by
      subst e3
      have e_ : F_tangent (ob I L) q_ s_ (nI n2) = ((-1), (ob I L)) := by simp only [F_tangent, (show ix 12 q_ = none from (ix_n2 h4 li_12)), ix_s (n := 8) h2, gA]
      rw [e_] at k
      dsimp only at k
      exact k _ _ rfl cS_rf)
    (fun n2 h2 e3 j4 h5 e6 j7 h8 e9 h10 => by
      subst e3
      subst e6
      subst e9
      have e_ : F_tangent (ob I L) (nI j4) (nI j7) (nI n2) = ((-3), (sM (ob I L) 1)) := by simp only [F_tangent, ix_s (n := 12) h5, ix_s (n := 8) h8, ix_s (n := 8) h2, gA, if_pos (show (ob I L).1 122 j4 = 0 from h10)]
      rw [e_] at k
      dsimp only at k
      exact k _ _ (ob_M _ _ _) (cS_M _ _ _))
    (fun n2 h2 e3 j11 h5 e6 j14 h8 e9 h10 h11 h12 j20 j21 h15 h16 h17 => by
      subst e3
      subst e6
      subst e9
      have e_ : F_tangent (ob I L) (nI j11) (nI j14) (nI n2) = (1, (sTg (ob I L) n2 (sTan (ob I L) j11 (rw_ (ob I L) j14)))) := by simp only [F_tangent, ix_s (n := 12) h5, ix_s (n := 8) h8, ix_s (n := 8) h2, gA, if_neg (show ¬ (ob I L).1 122 j11 = 0 from h10), if_neg (kS_w (s := ob I L) h11), if_neg (show ¬ (ob I L).1 117 j14 < 4 from l4_ h12), cIf_p (show mRg (rw_ (ob I L) j14) 4 100 from h15.1.2.mp (h15.1.1.elim (fun z => absurd z h16) id)), cIf_n (show ¬ mZr (rw_ (ob I L) j14) 4 from fun z => absurd (h15.2.2.mpr z) (by rw [h17]; decide))]
      rw [e_] at k
      dsimp only at k
      exact k _ _ (ob_tg (v := sTan (ob I L) j11 (rw_ (ob I L) j14)) (ob_126 _ _ _) (mTan_k (L := L) (by omega) (by exact mClr_3 _ _ _ (by decide) (by decide)) (by exact mClr_3 _ _ _ (by decide) (by decide))) (mTan_k (L := L) (by omega) (by rw [ma_up_n _ _ (by decide)]; exact mClr_3 _ _ _ (by decide) (by decide)) (by rw [ma_up_n _ _ (by decide)]; exact mClr_3 _ _ _ (by decide) (by decide))) (mTan_k (L := L) (by omega) (by rw [ma_up_n _ _ (by decide)]; exact mClr_3 _ _ _ (by decide) (by decide)) (by rw [ma_up_n _ _ (by decide)]; exact mClr_3 _ _ _ (by decide) (by decide))) (mTan_k (L := L) (by omega) (by rw [ma_up_n _ _ (by decide)]; exact mClr_3 _ _ _ (by decide) (by decide)) (by rw [ma_up_n _ _ (by decide)]; exact mClr_3 _ _ _ (by decide) (by decide)))) (cS_up (cS_tr (cS_126 _ _ _) (cS_clr _ _ _ _)) (by omega)))
    (fun n2 h2 e3 j25 h5 e6 j28 h8 e9 h10 h11 h12 j34 j35 h15 h16 h17 => by
      subst e3
      subst e6
      subst e9
      have e_ : F_tangent (ob I L) (nI j25) (nI j28) (nI n2) = ((-3), (sM (ob I L) 4)) := by simp only [F_tangent, ix_s (n := 12) h5, ix_s (n := 8) h8, ix_s (n := 8) h2, gA, if_neg (show ¬ (ob I L).1 122 j25 = 0 from h10), if_neg (kS_w (s := ob I L) h11), if_neg (show ¬ (ob I L).1 117 j28 < 4 from l4_ h12), cIf_p (show mRg (rw_ (ob I L) j28) 4 100 from h15.1.2.mp (h15.1.1.elim (fun z => absurd z h16) id)), cIf_p (show mZr (rw_ (ob I L) j28) 4 from h15.2.2.mp (h15.2.1.elim (fun z => absurd z h17) id))]
      rw [e_] at k
      dsimp only at k
      exact k _ _ ((ob_M _ _ _).trans (congrArg (fun z => sM z 4) (ob_126 _ _ _))) (cS_tr (cS_126 _ _ _) (cS_M _ _ _)))
    (fun n2 h2 e3 j39 h5 e6 j42 h8 e9 h10 h11 h12 j48 j49 h15 h16 => by
      subst e3
      subst e6
      subst e9
      have e_ : F_tangent (ob I L) (nI j39) (nI j42) (nI n2) = ((-3), (sM (ob I L) 2)) := by simp only [F_tangent, ix_s (n := 12) h5, ix_s (n := 8) h8, ix_s (n := 8) h2, gA, if_neg (show ¬ (ob I L).1 122 j39 = 0 from h10), if_neg (kS_w (s := ob I L) h11), if_neg (show ¬ (ob I L).1 117 j42 < 4 from l4_ h12), cIf_n (show ¬ mRg (rw_ (ob I L) j42) 4 100 from fun z => absurd (h15.1.2.mpr z) (by rw [h16]; decide))]
      rw [e_] at k
      dsimp only at k
      exact k _ _ ((ob_M _ _ _).trans (congrArg (fun z => sM z 2) (ob_126 _ _ _))) (cS_tr (cS_126 _ _ _) (cS_M _ _ _)))
    (fun n2 h2 e3 j52 h5 e6 j55 h8 e9 h10 h11 h12 => by
      subst e3
      subst e6
      subst e9
      have e_ : F_tangent (ob I L) (nI j52) (nI j55) (nI n2) = ((-3), (sM (ob I L) 5)) := by simp only [F_tangent, ix_s (n := 12) h5, ix_s (n := 8) h8, ix_s (n := 8) h2, gA, if_neg (show ¬ (ob I L).1 122 j52 = 0 from h10), if_neg (kS_w (s := ob I L) h11), if_pos (show (ob I L).1 117 j55 < 4 from m4_ h12)]
      rw [e_] at k
      dsimp only at k
      exact k _ _ (ob_M _ _ _) (cS_M _ _ _))
    (fun n2 h2 e3 j61 h5 e6 j64 h8 e9 h10 h11 => by
      subst e3
      subst e6
      subst e9
      have e_ : F_tangent (ob I L) (nI j61) (nI j64) (nI n2) = ((-3), (sM (ob I L) 1)) := by simp only [F_tangent, ix_s (n := 12) h5, ix_s (n := 8) h8, ix_s (n := 8) h2, gA, if_neg (show ¬ (ob I L).1 122 j61 = 0 from h10), if_pos (kS_y (s := ob I L) h11)]
      rw [e_] at k
      dsimp only at k
      exact k _ _ (ob_M _ _ _) (cS_M _ _ _))
    (fun n2 h2 e3 j69 h5 e6 h7 => by
      subst e3
      subst e6
      have e_ : F_tangent (ob I L) (nI j69) s_ (nI n2) = ((-1), (ob I L)) := by simp only [F_tangent, ix_s (n := 12) h5, (show ix 8 s_ = none from (ix_n2 h7 li_8)), ix_s (n := 8) h2, gA]
      rw [e_] at k
      dsimp only at k
      exact k _ _ rfl cS_rf)
    (fun h1 => by
      have e_ : F_tangent (ob I L) q_ s_ t_ = ((-1), (ob I L)) := by simp only [F_tangent, (show ix 8 t_ = none from (ix_n2 h1 li_8)), gA]
      rw [e_] at k
      dsimp only at k
      exact k _ _ rfl cS_rf)
theorem p_tangent {g : ma_G} {I : ma_I} {L : ma_L} {P1 : ma_P} (hI : INV I L) (a1 a2 a3 : Int32) (k : ∀ (r : Int32) (I1 : ma_I) (L1 : ma_L), (∀ {P2 : ma_P}, (∀ (I2 : ma_I) (L2 : ma_L), INV I2 L2 → P2 (some (.int r)) HS I2 L2 RF 146) → CT g yX8_tangent cX8_tangent 6 (some .int) rX8_tangent [.ref 115, .int a1, .int a2, .int a3] P2 HS I1 L1 RF 146) → P1 (some (.int r)) HS I1 L1 RF 146) : CT g yX7_tangent cX7_tangent 7 (some .int) rX7_tangent [.ref 3, .int a1, .int a2, .int a3] P1 HS I L RF 146 :=
  pair_i (F := F_tangent (ob I L) a1 a2 a3) hI (W_tangent hI.1 a1 a2 a3) (fun P kk => C_tangent hI.1 hI.2 a1 a2 a3 kk) (fun I1 L1 P e kk => M_tangent (by rw [e]; exact hI.1)  a1 a2 a3 (by rw [e]; exact kk)) k
