theorem C_line {g : ma_G} {I : ma_I} {L : ma_L} {P : ma_P} {s : sG} (hW : wF s) (hC : rC s I L) (q_ s_ t_ : Int32) (k : ∀ I1 L1, rC (F_line s q_ s_ t_).2 I1 L1 → mS I L I1 L1 → P (some (.int (F_line s q_ s_ t_).1)) HS I1 L1 RF 146) : CT g yX7_line cX7_line 12 (some .int) rX7_line [.ref 3, .int q_, .int s_, .int t_] P HS I L RF 146 := by
  obtain ⟨hcM, hcN, hcF, hcK, hcT, hcS, hcG⟩ := id hC
  exact t_X7_line q_ s_ t_ 
    (fun h1 => by
      have e_ : F_line s q_ s_ t_ = ((-1), s) := by simp only [F_line, (show ix 12 q_ = none from (ix_n1 h1 ln_12))]
      rw [e_] at k
      dsimp only at k
      exact k _ _ hC mS_rf)
    (fun n2 h2 e3 h4 => by
      subst e3
      have e_ : F_line s (nI n2) s_ t_ = ((-1), s) := by simp only [F_line, ix_s (n := 12) h2, (show ix 8 s_ = none from (ix_n1 h4 ln_8))]
      rw [e_] at k
      dsimp only at k
      exact k _ _ hC mS_rf)
    (fun n2 h2 e3 n4 h5 e6 n6 h8 e9 h10 => by
      subst e3
      subst e6
      subst e9
      have e_ : F_line s (nI n2) (nI n4) (nI n6) = ((-3), (sM s 1)) := by simp only [F_line, ix_s (n := 12) h2, ix_s (n := 8) h5, ix_s (n := 8) h8, if_pos (kG_m (hcG n2 (by omega)) h10)]
      rw [e_] at k
      dsimp only at k
      exact k _ _ (rC_R hC (by omega)) (mS_R _ _ _))
    (fun n2 h2 e3 n4 h5 e6 n6 h8 e9 h10 h11 => by
      subst e3
      subst e6
      subst e9
      have e_ : F_line s (nI n2) (nI n4) (nI n6) = ((-3), (sM s 1)) := by simp only [F_line, ix_s (n := 12) h2, ix_s (n := 8) h5, ix_s (n := 8) h8, if_neg (kG_o (hcG n2 (by omega)) h10), if_pos (kS_m (hcS n4 (by omega)) h11)]
      rw [e_] at k
      dsimp only at k
      exact k _ _ (rC_R hC (by omega)) (mS_R _ _ _))
    (fun n2 h2 e3 n4 h5 e6 n6 h8 e9 h10 h11 h12 h13 => by
      subst e3
      subst e6
      subst e9
      have e_ : F_line s (nI n2) (nI n4) (nI n6) = ((-3), (sM s 5)) := by simp only [F_line, ix_s (n := 12) h2, ix_s (n := 8) h5, ix_s (n := 8) h8, if_neg (kG_o (hcG n2 (by omega)) h10), if_neg (kS_o (hcS n4 (by omega)) (Decidable.not_not.mp h11)), if_neg (kS_o (hcS n6 (by omega)) (Decidable.not_not.mp h12)), if_pos (k4_ (kS_e (hcS n4 (by omega)) (kS_o (hcS n4 (by omega)) (Decidable.not_not.mp h11))) h13)]
      rw [e_] at k
      dsimp only at k
      exact k _ _ (rC_R hC (by omega)) (mS_R _ _ _))
    (fun n2 h2 e3 n4 h5 e6 n6 h8 e9 h10 h11 h12 h13 h14 h15 h16 h17 h18 h19 h20 => by
      subst e3
      subst e6
      subst e9
      have hp_ : ∀ j, j < 4 → Int32.toInt64 (I (40 + 2 * n4) j) = Int64.ofInt (pz (rw_ s n4) j) := fun j hj => by rw [kS_r (hcS n4 (by omega)) (kS_o (hcS n4 (by omega)) (Decidable.not_not.mp h11)) j (by omega)]; exact i2l_o _
      have ht_ : ∀ j, j < 16 → L (57 + 5 * n2) j = Int64.ofInt (tz s n2 j) := fun j hj => ((hcG n2 (by omega)).2.1 j hj).trans (i2l_o _)
      have hr_ : ∀ j, j < 4 → Int32.toInt64 (I (40 + 2 * n6) j) = Int64.ofInt (pz (rw_ s n6) j) := fun j hj => by rw [kS_r (hcS n6 (by omega)) (kS_o (hcS n6 (by omega)) (Decidable.not_not.mp h12)) j (by omega)]; exact i2l_o _
      have gx_ : mRg (rw_ s n4) 4 100 := (mRg_c (f := I (40 + 2 * n4)) (f' := rw_ s n4) (n := 4) (w := 100) (fun j hj => kS_r (hcS n4 (by omega)) (kS_o (hcS n4 (by omega)) (Decidable.not_not.mp h11)) j (by omega))).mp h15
      have gy_ : mRg (rw_ s n6) 4 100 := (mRg_c (f := I (40 + 2 * n6)) (f' := rw_ s n6) (n := 4) (w := 100) (fun j hj => kS_r (hcS n6 (by omega)) (kS_o (hcS n6 (by omega)) (Decidable.not_not.mp h12)) j (by omega))).mp h16
      have on_ := cOn_z (u := (ma_up (ma_up (ma_up (ma_up (L 34) 0 (Int32.toInt64 ((I (40 + 2 * n4)) 0))) 1 (Int32.toInt64 ((I (40 + 2 * n4)) 1))) 2 (Int32.toInt64 ((I (40 + 2 * n4)) 2))) 3 (Int32.toInt64 ((I (40 + 2 * n4)) 3)))) (v := (ma_up (ma_up (ma_up (ma_up (L 35) 0 (Int32.toInt64 ((I (40 + 2 * n6)) 0))) 1 (Int32.toInt64 ((I (40 + 2 * n6)) 1))) 2 (Int32.toInt64 ((I (40 + 2 * n6)) 2))) 3 (Int32.toInt64 ((I (40 + 2 * n6)) 3)))) (p := pz (rw_ s n4)) (r := pz (rw_ s n6)) (fun j hj => (up4 (fun j => Int32.toInt64 (I (40 + 2 * n4) j)) j hj).trans (hp_ j hj)) (fun j hj => (up4 (fun j => Int32.toInt64 (I (40 + 2 * n6) j)) j hj).trans (hr_ j hj)) (pz_b gx_) (pz_b gy_)
      have pa_ : cPr ((ma_up (ma_up L 34 (ma_up (ma_up (ma_up (ma_up (L 34) 0 (Int32.toInt64 ((I (40 + 2 * n4)) 0))) 1 (Int32.toInt64 ((I (40 + 2 * n4)) 1))) 2 (Int32.toInt64 ((I (40 + 2 * n4)) 2))) 3 (Int32.toInt64 ((I (40 + 2 * n4)) 3)))) 35 (ma_up (ma_up (ma_up (ma_up (L 35) 0 (Int32.toInt64 ((I (40 + 2 * n6)) 0))) 1 (Int32.toInt64 ((I (40 + 2 * n6)) 1))) 2 (Int32.toInt64 ((I (40 + 2 * n6)) 2))) 3 (Int32.toInt64 ((I (40 + 2 * n6)) 3)))) (57 + 5 * n2)) ((ma_up (ma_up L 34 (ma_up (ma_up (ma_up (ma_up (L 34) 0 (Int32.toInt64 ((I (40 + 2 * n4)) 0))) 1 (Int32.toInt64 ((I (40 + 2 * n4)) 1))) 2 (Int32.toInt64 ((I (40 + 2 * n4)) 2))) 3 (Int32.toInt64 ((I (40 + 2 * n4)) 3)))) 35 (ma_up (ma_up (ma_up (ma_up (L 35) 0 (Int32.toInt64 ((I (40 + 2 * n6)) 0))) 1 (Int32.toInt64 ((I (40 + 2 * n6)) 1))) 2 (Int32.toInt64 ((I (40 + 2 * n6)) 2))) 3 (Int32.toInt64 ((I (40 + 2 * n6)) 3)))) 34) ((ma_up (ma_up L 34 (ma_up (ma_up (ma_up (ma_up (L 34) 0 (Int32.toInt64 ((I (40 + 2 * n4)) 0))) 1 (Int32.toInt64 ((I (40 + 2 * n4)) 1))) 2 (Int32.toInt64 ((I (40 + 2 * n4)) 2))) 3 (Int32.toInt64 ((I (40 + 2 * n4)) 3)))) 35 (ma_up (ma_up (ma_up (ma_up (L 35) 0 (Int32.toInt64 ((I (40 + 2 * n6)) 0))) 1 (Int32.toInt64 ((I (40 + 2 * n6)) 1))) 2 (Int32.toInt64 ((I (40 + 2 * n6)) 2))) 3 (Int32.toInt64 ((I (40 + 2 * n6)) 3)))) 34) = Int64.ofInt (sVal s n2 (rw_ s n4) (rw_ s n4)) := cPr_o (z := tz s n2) (p := pz (rw_ s n4)) (r := pz (rw_ s n4)) (fun j hj => by rw [ma_up_n _ _ (by omega), ma_up_n _ _ (by omega)]; exact ht_ j hj) (fun j hj => (up4 (fun j => Int32.toInt64 (I (40 + 2 * n4) j)) j hj).trans (hp_ j hj)) (fun j hj => (up4 (fun j => Int32.toInt64 (I (40 + 2 * n4) j)) j hj).trans (hp_ j hj))
      have pb_ : cPr ((ma_up (ma_up L 34 (ma_up (ma_up (ma_up (ma_up (L 34) 0 (Int32.toInt64 ((I (40 + 2 * n4)) 0))) 1 (Int32.toInt64 ((I (40 + 2 * n4)) 1))) 2 (Int32.toInt64 ((I (40 + 2 * n4)) 2))) 3 (Int32.toInt64 ((I (40 + 2 * n4)) 3)))) 35 (ma_up (ma_up (ma_up (ma_up (L 35) 0 (Int32.toInt64 ((I (40 + 2 * n6)) 0))) 1 (Int32.toInt64 ((I (40 + 2 * n6)) 1))) 2 (Int32.toInt64 ((I (40 + 2 * n6)) 2))) 3 (Int32.toInt64 ((I (40 + 2 * n6)) 3)))) (57 + 5 * n2)) ((ma_up (ma_up L 34 (ma_up (ma_up (ma_up (ma_up (L 34) 0 (Int32.toInt64 ((I (40 + 2 * n4)) 0))) 1 (Int32.toInt64 ((I (40 + 2 * n4)) 1))) 2 (Int32.toInt64 ((I (40 + 2 * n4)) 2))) 3 (Int32.toInt64 ((I (40 + 2 * n4)) 3)))) 35 (ma_up (ma_up (ma_up (ma_up (L 35) 0 (Int32.toInt64 ((I (40 + 2 * n6)) 0))) 1 (Int32.toInt64 ((I (40 + 2 * n6)) 1))) 2 (Int32.toInt64 ((I (40 + 2 * n6)) 2))) 3 (Int32.toInt64 ((I (40 + 2 * n6)) 3)))) 34) ((ma_up (ma_up L 34 (ma_up (ma_up (ma_up (ma_up (L 34) 0 (Int32.toInt64 ((I (40 + 2 * n4)) 0))) 1 (Int32.toInt64 ((I (40 + 2 * n4)) 1))) 2 (Int32.toInt64 ((I (40 + 2 * n4)) 2))) 3 (Int32.toInt64 ((I (40 + 2 * n4)) 3)))) 35 (ma_up (ma_up (ma_up (ma_up (L 35) 0 (Int32.toInt64 ((I (40 + 2 * n6)) 0))) 1 (Int32.toInt64 ((I (40 + 2 * n6)) 1))) 2 (Int32.toInt64 ((I (40 + 2 * n6)) 2))) 3 (Int32.toInt64 ((I (40 + 2 * n6)) 3)))) 35) = Int64.ofInt (sVal s n2 (rw_ s n4) (rw_ s n6)) := cPr_o (z := tz s n2) (p := pz (rw_ s n4)) (r := pz (rw_ s n6)) (fun j hj => by rw [ma_up_n _ _ (by omega), ma_up_n _ _ (by omega)]; exact ht_ j hj) (fun j hj => (up4 (fun j => Int32.toInt64 (I (40 + 2 * n4) j)) j hj).trans (hp_ j hj)) (fun j hj => (up4 (fun j => Int32.toInt64 (I (40 + 2 * n6) j)) j hj).trans (hr_ j hj))
      have pc_ : cPr ((ma_up (ma_up L 34 (ma_up (ma_up (ma_up (ma_up (L 34) 0 (Int32.toInt64 ((I (40 + 2 * n4)) 0))) 1 (Int32.toInt64 ((I (40 + 2 * n4)) 1))) 2 (Int32.toInt64 ((I (40 + 2 * n4)) 2))) 3 (Int32.toInt64 ((I (40 + 2 * n4)) 3)))) 35 (ma_up (ma_up (ma_up (ma_up (L 35) 0 (Int32.toInt64 ((I (40 + 2 * n6)) 0))) 1 (Int32.toInt64 ((I (40 + 2 * n6)) 1))) 2 (Int32.toInt64 ((I (40 + 2 * n6)) 2))) 3 (Int32.toInt64 ((I (40 + 2 * n6)) 3)))) (57 + 5 * n2)) ((ma_up (ma_up L 34 (ma_up (ma_up (ma_up (ma_up (L 34) 0 (Int32.toInt64 ((I (40 + 2 * n4)) 0))) 1 (Int32.toInt64 ((I (40 + 2 * n4)) 1))) 2 (Int32.toInt64 ((I (40 + 2 * n4)) 2))) 3 (Int32.toInt64 ((I (40 + 2 * n4)) 3)))) 35 (ma_up (ma_up (ma_up (ma_up (L 35) 0 (Int32.toInt64 ((I (40 + 2 * n6)) 0))) 1 (Int32.toInt64 ((I (40 + 2 * n6)) 1))) 2 (Int32.toInt64 ((I (40 + 2 * n6)) 2))) 3 (Int32.toInt64 ((I (40 + 2 * n6)) 3)))) 35) ((ma_up (ma_up L 34 (ma_up (ma_up (ma_up (ma_up (L 34) 0 (Int32.toInt64 ((I (40 + 2 * n4)) 0))) 1 (Int32.toInt64 ((I (40 + 2 * n4)) 1))) 2 (Int32.toInt64 ((I (40 + 2 * n4)) 2))) 3 (Int32.toInt64 ((I (40 + 2 * n4)) 3)))) 35 (ma_up (ma_up (ma_up (ma_up (L 35) 0 (Int32.toInt64 ((I (40 + 2 * n6)) 0))) 1 (Int32.toInt64 ((I (40 + 2 * n6)) 1))) 2 (Int32.toInt64 ((I (40 + 2 * n6)) 2))) 3 (Int32.toInt64 ((I (40 + 2 * n6)) 3)))) 35) = Int64.ofInt (sVal s n2 (rw_ s n6) (rw_ s n6)) := cPr_o (z := tz s n2) (p := pz (rw_ s n6)) (r := pz (rw_ s n6)) (fun j hj => by rw [ma_up_n _ _ (by omega), ma_up_n _ _ (by omega)]; exact ht_ j hj) (fun j hj => (up4 (fun j => Int32.toInt64 (I (40 + 2 * n6) j)) j hj).trans (hr_ j hj)) (fun j hj => (up4 (fun j => Int32.toInt64 (I (40 + 2 * n6) j)) j hj).trans (hr_ j hj))
      have ba_ := sVal_b (hW.2.1 n2 (by omega)) gx_ gx_
      have bb_ := sVal_b (hW.2.1 n2 (by omega)) gx_ gy_
      have bc_ := sVal_b (hW.2.1 n2 (by omega)) gy_ gy_
      have c0_ : ¬ (sVal s n2 (rw_ s n4) (rw_ s n4)) = 0 := fun z => h20 (pa_.trans ((o6_0 (by omega)).mpr z))
      have e_ : F_line s (nI n2) (nI n4) (nI n6) = ((1 + mSg ((Int64.ofInt (sVal s n2 (rw_ s n4) (rw_ s n6)) * Int64.ofInt (sVal s n2 (rw_ s n4) (rw_ s n6))) - (Int64.ofInt (sVal s n2 (rw_ s n4) (rw_ s n4)) * Int64.ofInt (sVal s n2 (rw_ s n6) (rw_ s n6))))), (sLn s (Int32.ofInt (sVal s n2 (rw_ s n4) (rw_ s n4))) (Int32.ofInt (sVal s n2 (rw_ s n4) (rw_ s n6))) (Int32.ofInt (sVal s n2 (rw_ s n6) (rw_ s n6))))) := by simp only [F_line, ix_s (n := 12) h2, ix_s (n := 8) h5, ix_s (n := 8) h8, if_neg (kG_o (hcG n2 (by omega)) h10), if_neg (kS_o (hcS n4 (by omega)) (Decidable.not_not.mp h11)), if_neg (kS_o (hcS n6 (by omega)) (Decidable.not_not.mp h12)), if_neg (n4_ (kS_e (hcS n4 (by omega)) (kS_o (hcS n4 (by omega)) (Decidable.not_not.mp h11))) h13), if_neg (n4_ (kS_e (hcS n6 (by omega)) (kS_o (hcS n6 (by omega)) (Decidable.not_not.mp h12))) (l4_ h14)), cIf_p (And.intro ((mRg_c (f := I (40 + 2 * n4)) (f' := rw_ s n4) (n := 4) (w := 100) (fun j hj => kS_r (hcS n4 (by omega)) (kS_o (hcS n4 (by omega)) (Decidable.not_not.mp h11)) j (by omega))).mp h15) ((mRg_c (f := I (40 + 2 * n6)) (f' := rw_ s n6) (n := 4) (w := 100) (fun j hj => kS_r (hcS n6 (by omega)) (kS_o (hcS n6 (by omega)) (Decidable.not_not.mp h12)) j (by omega))).mp h16)), cIf_n (fun z => h17 ((mZr_c (f := I (40 + 2 * n4)) (f' := rw_ s n4) (n := 4) (fun j hj => kS_r (hcS n4 (by omega)) (kS_o (hcS n4 (by omega)) (Decidable.not_not.mp h11)) j (by omega))).mpr z)), cIf_n (fun z => h18 ((mZr_c (f := I (40 + 2 * n6)) (f' := rw_ s n6) (n := 4) (fun j hj => kS_r (hcS n6 (by omega)) (kS_o (hcS n6 (by omega)) (Decidable.not_not.mp h12)) j (by omega))).mpr z)), cIf_n (fun z => h19 (on_.mpr z)), lnR, if_neg (show ¬ ((sVal s n2 (rw_ s n4) (rw_ s n4)) = 0 ∧ (sVal s n2 (rw_ s n4) (rw_ s n6)) = 0 ∧ (sVal s n2 (rw_ s n6) (rw_ s n6)) = 0) from fun z => c0_ z.1)]
      rw [e_] at k
      dsimp only at k
      rw [pa_, pb_, pc_]
      exact k _ _ (rC_x (rC_ln hC (l2i_o _) (l2i_o _) (l2i_o _)) (fun _ _ => rfl) (fun a ha => by rw [ma_up_n _ _ (by omega), ma_up_n _ _ (by omega)])) (mS_ul (mS_ul (mS_up (mS_up mS_rf (by omega)) (by omega)) (by omega)) (by omega)))
    (fun n2 h2 e3 n4 h5 e6 n6 h8 e9 h10 h11 h12 h13 h14 h15 h16 h17 h18 h19 h20 h21 => by
      subst e3
      subst e6
      subst e9
      have hp_ : ∀ j, j < 4 → Int32.toInt64 (I (40 + 2 * n4) j) = Int64.ofInt (pz (rw_ s n4) j) := fun j hj => by rw [kS_r (hcS n4 (by omega)) (kS_o (hcS n4 (by omega)) (Decidable.not_not.mp h11)) j (by omega)]; exact i2l_o _
      have ht_ : ∀ j, j < 16 → L (57 + 5 * n2) j = Int64.ofInt (tz s n2 j) := fun j hj => ((hcG n2 (by omega)).2.1 j hj).trans (i2l_o _)
      have hr_ : ∀ j, j < 4 → Int32.toInt64 (I (40 + 2 * n6) j) = Int64.ofInt (pz (rw_ s n6) j) := fun j hj => by rw [kS_r (hcS n6 (by omega)) (kS_o (hcS n6 (by omega)) (Decidable.not_not.mp h12)) j (by omega)]; exact i2l_o _
      have gx_ : mRg (rw_ s n4) 4 100 := (mRg_c (f := I (40 + 2 * n4)) (f' := rw_ s n4) (n := 4) (w := 100) (fun j hj => kS_r (hcS n4 (by omega)) (kS_o (hcS n4 (by omega)) (Decidable.not_not.mp h11)) j (by omega))).mp h15
      have gy_ : mRg (rw_ s n6) 4 100 := (mRg_c (f := I (40 + 2 * n6)) (f' := rw_ s n6) (n := 4) (w := 100) (fun j hj => kS_r (hcS n6 (by omega)) (kS_o (hcS n6 (by omega)) (Decidable.not_not.mp h12)) j (by omega))).mp h16
      have on_ := cOn_z (u := (ma_up (ma_up (ma_up (ma_up (L 34) 0 (Int32.toInt64 ((I (40 + 2 * n4)) 0))) 1 (Int32.toInt64 ((I (40 + 2 * n4)) 1))) 2 (Int32.toInt64 ((I (40 + 2 * n4)) 2))) 3 (Int32.toInt64 ((I (40 + 2 * n4)) 3)))) (v := (ma_up (ma_up (ma_up (ma_up (L 35) 0 (Int32.toInt64 ((I (40 + 2 * n6)) 0))) 1 (Int32.toInt64 ((I (40 + 2 * n6)) 1))) 2 (Int32.toInt64 ((I (40 + 2 * n6)) 2))) 3 (Int32.toInt64 ((I (40 + 2 * n6)) 3)))) (p := pz (rw_ s n4)) (r := pz (rw_ s n6)) (fun j hj => (up4 (fun j => Int32.toInt64 (I (40 + 2 * n4) j)) j hj).trans (hp_ j hj)) (fun j hj => (up4 (fun j => Int32.toInt64 (I (40 + 2 * n6) j)) j hj).trans (hr_ j hj)) (pz_b gx_) (pz_b gy_)
      have pa_ : cPr ((ma_up (ma_up L 34 (ma_up (ma_up (ma_up (ma_up (L 34) 0 (Int32.toInt64 ((I (40 + 2 * n4)) 0))) 1 (Int32.toInt64 ((I (40 + 2 * n4)) 1))) 2 (Int32.toInt64 ((I (40 + 2 * n4)) 2))) 3 (Int32.toInt64 ((I (40 + 2 * n4)) 3)))) 35 (ma_up (ma_up (ma_up (ma_up (L 35) 0 (Int32.toInt64 ((I (40 + 2 * n6)) 0))) 1 (Int32.toInt64 ((I (40 + 2 * n6)) 1))) 2 (Int32.toInt64 ((I (40 + 2 * n6)) 2))) 3 (Int32.toInt64 ((I (40 + 2 * n6)) 3)))) (57 + 5 * n2)) ((ma_up (ma_up L 34 (ma_up (ma_up (ma_up (ma_up (L 34) 0 (Int32.toInt64 ((I (40 + 2 * n4)) 0))) 1 (Int32.toInt64 ((I (40 + 2 * n4)) 1))) 2 (Int32.toInt64 ((I (40 + 2 * n4)) 2))) 3 (Int32.toInt64 ((I (40 + 2 * n4)) 3)))) 35 (ma_up (ma_up (ma_up (ma_up (L 35) 0 (Int32.toInt64 ((I (40 + 2 * n6)) 0))) 1 (Int32.toInt64 ((I (40 + 2 * n6)) 1))) 2 (Int32.toInt64 ((I (40 + 2 * n6)) 2))) 3 (Int32.toInt64 ((I (40 + 2 * n6)) 3)))) 34) ((ma_up (ma_up L 34 (ma_up (ma_up (ma_up (ma_up (L 34) 0 (Int32.toInt64 ((I (40 + 2 * n4)) 0))) 1 (Int32.toInt64 ((I (40 + 2 * n4)) 1))) 2 (Int32.toInt64 ((I (40 + 2 * n4)) 2))) 3 (Int32.toInt64 ((I (40 + 2 * n4)) 3)))) 35 (ma_up (ma_up (ma_up (ma_up (L 35) 0 (Int32.toInt64 ((I (40 + 2 * n6)) 0))) 1 (Int32.toInt64 ((I (40 + 2 * n6)) 1))) 2 (Int32.toInt64 ((I (40 + 2 * n6)) 2))) 3 (Int32.toInt64 ((I (40 + 2 * n6)) 3)))) 34) = Int64.ofInt (sVal s n2 (rw_ s n4) (rw_ s n4)) := cPr_o (z := tz s n2) (p := pz (rw_ s n4)) (r := pz (rw_ s n4)) (fun j hj => by rw [ma_up_n _ _ (by omega), ma_up_n _ _ (by omega)]; exact ht_ j hj) (fun j hj => (up4 (fun j => Int32.toInt64 (I (40 + 2 * n4) j)) j hj).trans (hp_ j hj)) (fun j hj => (up4 (fun j => Int32.toInt64 (I (40 + 2 * n4) j)) j hj).trans (hp_ j hj))
      have pb_ : cPr ((ma_up (ma_up L 34 (ma_up (ma_up (ma_up (ma_up (L 34) 0 (Int32.toInt64 ((I (40 + 2 * n4)) 0))) 1 (Int32.toInt64 ((I (40 + 2 * n4)) 1))) 2 (Int32.toInt64 ((I (40 + 2 * n4)) 2))) 3 (Int32.toInt64 ((I (40 + 2 * n4)) 3)))) 35 (ma_up (ma_up (ma_up (ma_up (L 35) 0 (Int32.toInt64 ((I (40 + 2 * n6)) 0))) 1 (Int32.toInt64 ((I (40 + 2 * n6)) 1))) 2 (Int32.toInt64 ((I (40 + 2 * n6)) 2))) 3 (Int32.toInt64 ((I (40 + 2 * n6)) 3)))) (57 + 5 * n2)) ((ma_up (ma_up L 34 (ma_up (ma_up (ma_up (ma_up (L 34) 0 (Int32.toInt64 ((I (40 + 2 * n4)) 0))) 1 (Int32.toInt64 ((I (40 + 2 * n4)) 1))) 2 (Int32.toInt64 ((I (40 + 2 * n4)) 2))) 3 (Int32.toInt64 ((I (40 + 2 * n4)) 3)))) 35 (ma_up (ma_up (ma_up (ma_up (L 35) 0 (Int32.toInt64 ((I (40 + 2 * n6)) 0))) 1 (Int32.toInt64 ((I (40 + 2 * n6)) 1))) 2 (Int32.toInt64 ((I (40 + 2 * n6)) 2))) 3 (Int32.toInt64 ((I (40 + 2 * n6)) 3)))) 34) ((ma_up (ma_up L 34 (ma_up (ma_up (ma_up (ma_up (L 34) 0 (Int32.toInt64 ((I (40 + 2 * n4)) 0))) 1 (Int32.toInt64 ((I (40 + 2 * n4)) 1))) 2 (Int32.toInt64 ((I (40 + 2 * n4)) 2))) 3 (Int32.toInt64 ((I (40 + 2 * n4)) 3)))) 35 (ma_up (ma_up (ma_up (ma_up (L 35) 0 (Int32.toInt64 ((I (40 + 2 * n6)) 0))) 1 (Int32.toInt64 ((I (40 + 2 * n6)) 1))) 2 (Int32.toInt64 ((I (40 + 2 * n6)) 2))) 3 (Int32.toInt64 ((I (40 + 2 * n6)) 3)))) 35) = Int64.ofInt (sVal s n2 (rw_ s n4) (rw_ s n6)) := cPr_o (z := tz s n2) (p := pz (rw_ s n4)) (r := pz (rw_ s n6)) (fun j hj => by rw [ma_up_n _ _ (by omega), ma_up_n _ _ (by omega)]; exact ht_ j hj) (fun j hj => (up4 (fun j => Int32.toInt64 (I (40 + 2 * n4) j)) j hj).trans (hp_ j hj)) (fun j hj => (up4 (fun j => Int32.toInt64 (I (40 + 2 * n6) j)) j hj).trans (hr_ j hj))
      have pc_ : cPr ((ma_up (ma_up L 34 (ma_up (ma_up (ma_up (ma_up (L 34) 0 (Int32.toInt64 ((I (40 + 2 * n4)) 0))) 1 (Int32.toInt64 ((I (40 + 2 * n4)) 1))) 2 (Int32.toInt64 ((I (40 + 2 * n4)) 2))) 3 (Int32.toInt64 ((I (40 + 2 * n4)) 3)))) 35 (ma_up (ma_up (ma_up (ma_up (L 35) 0 (Int32.toInt64 ((I (40 + 2 * n6)) 0))) 1 (Int32.toInt64 ((I (40 + 2 * n6)) 1))) 2 (Int32.toInt64 ((I (40 + 2 * n6)) 2))) 3 (Int32.toInt64 ((I (40 + 2 * n6)) 3)))) (57 + 5 * n2)) ((ma_up (ma_up L 34 (ma_up (ma_up (ma_up (ma_up (L 34) 0 (Int32.toInt64 ((I (40 + 2 * n4)) 0))) 1 (Int32.toInt64 ((I (40 + 2 * n4)) 1))) 2 (Int32.toInt64 ((I (40 + 2 * n4)) 2))) 3 (Int32.toInt64 ((I (40 + 2 * n4)) 3)))) 35 (ma_up (ma_up (ma_up (ma_up (L 35) 0 (Int32.toInt64 ((I (40 + 2 * n6)) 0))) 1 (Int32.toInt64 ((I (40 + 2 * n6)) 1))) 2 (Int32.toInt64 ((I (40 + 2 * n6)) 2))) 3 (Int32.toInt64 ((I (40 + 2 * n6)) 3)))) 35) ((ma_up (ma_up L 34 (ma_up (ma_up (ma_up (ma_up (L 34) 0 (Int32.toInt64 ((I (40 + 2 * n4)) 0))) 1 (Int32.toInt64 ((I (40 + 2 * n4)) 1))) 2 (Int32.toInt64 ((I (40 + 2 * n4)) 2))) 3 (Int32.toInt64 ((I (40 + 2 * n4)) 3)))) 35 (ma_up (ma_up (ma_up (ma_up (L 35) 0 (Int32.toInt64 ((I (40 + 2 * n6)) 0))) 1 (Int32.toInt64 ((I (40 + 2 * n6)) 1))) 2 (Int32.toInt64 ((I (40 + 2 * n6)) 2))) 3 (Int32.toInt64 ((I (40 + 2 * n6)) 3)))) 35) = Int64.ofInt (sVal s n2 (rw_ s n6) (rw_ s n6)) := cPr_o (z := tz s n2) (p := pz (rw_ s n6)) (r := pz (rw_ s n6)) (fun j hj => by rw [ma_up_n _ _ (by omega), ma_up_n _ _ (by omega)]; exact ht_ j hj) (fun j hj => (up4 (fun j => Int32.toInt64 (I (40 + 2 * n6) j)) j hj).trans (hr_ j hj)) (fun j hj => (up4 (fun j => Int32.toInt64 (I (40 + 2 * n6) j)) j hj).trans (hr_ j hj))
      have ba_ := sVal_b (hW.2.1 n2 (by omega)) gx_ gx_
      have bb_ := sVal_b (hW.2.1 n2 (by omega)) gx_ gy_
      have bc_ := sVal_b (hW.2.1 n2 (by omega)) gy_ gy_
      have c0_ : (sVal s n2 (rw_ s n4) (rw_ s n4)) = 0 := (o6_0 (by omega)).mp (pa_.symm.trans h20)
      have c1_ : ¬ (sVal s n2 (rw_ s n4) (rw_ s n6)) = 0 := fun z => h21 (pb_.trans ((o6_0 (by omega)).mpr z))
      have e_ : F_line s (nI n2) (nI n4) (nI n6) = ((1 + mSg ((Int64.ofInt (sVal s n2 (rw_ s n4) (rw_ s n6)) * Int64.ofInt (sVal s n2 (rw_ s n4) (rw_ s n6))) - (Int64.ofInt (sVal s n2 (rw_ s n4) (rw_ s n4)) * Int64.ofInt (sVal s n2 (rw_ s n6) (rw_ s n6))))), (sLn s (Int32.ofInt (sVal s n2 (rw_ s n4) (rw_ s n4))) (Int32.ofInt (sVal s n2 (rw_ s n4) (rw_ s n6))) (Int32.ofInt (sVal s n2 (rw_ s n6) (rw_ s n6))))) := by simp only [F_line, ix_s (n := 12) h2, ix_s (n := 8) h5, ix_s (n := 8) h8, if_neg (kG_o (hcG n2 (by omega)) h10), if_neg (kS_o (hcS n4 (by omega)) (Decidable.not_not.mp h11)), if_neg (kS_o (hcS n6 (by omega)) (Decidable.not_not.mp h12)), if_neg (n4_ (kS_e (hcS n4 (by omega)) (kS_o (hcS n4 (by omega)) (Decidable.not_not.mp h11))) h13), if_neg (n4_ (kS_e (hcS n6 (by omega)) (kS_o (hcS n6 (by omega)) (Decidable.not_not.mp h12))) (l4_ h14)), cIf_p (And.intro ((mRg_c (f := I (40 + 2 * n4)) (f' := rw_ s n4) (n := 4) (w := 100) (fun j hj => kS_r (hcS n4 (by omega)) (kS_o (hcS n4 (by omega)) (Decidable.not_not.mp h11)) j (by omega))).mp h15) ((mRg_c (f := I (40 + 2 * n6)) (f' := rw_ s n6) (n := 4) (w := 100) (fun j hj => kS_r (hcS n6 (by omega)) (kS_o (hcS n6 (by omega)) (Decidable.not_not.mp h12)) j (by omega))).mp h16)), cIf_n (fun z => h17 ((mZr_c (f := I (40 + 2 * n4)) (f' := rw_ s n4) (n := 4) (fun j hj => kS_r (hcS n4 (by omega)) (kS_o (hcS n4 (by omega)) (Decidable.not_not.mp h11)) j (by omega))).mpr z)), cIf_n (fun z => h18 ((mZr_c (f := I (40 + 2 * n6)) (f' := rw_ s n6) (n := 4) (fun j hj => kS_r (hcS n6 (by omega)) (kS_o (hcS n6 (by omega)) (Decidable.not_not.mp h12)) j (by omega))).mpr z)), cIf_n (fun z => h19 (on_.mpr z)), lnR, if_neg (show ¬ ((sVal s n2 (rw_ s n4) (rw_ s n4)) = 0 ∧ (sVal s n2 (rw_ s n4) (rw_ s n6)) = 0 ∧ (sVal s n2 (rw_ s n6) (rw_ s n6)) = 0) from fun z => c1_ z.2.1)]
      rw [e_] at k
      dsimp only at k
      rw [pa_, pb_, pc_]
      exact k _ _ (rC_x (rC_ln hC (l2i_o _) (l2i_o _) (l2i_o _)) (fun _ _ => rfl) (fun a ha => by rw [ma_up_n _ _ (by omega), ma_up_n _ _ (by omega)])) (mS_ul (mS_ul (mS_up (mS_up mS_rf (by omega)) (by omega)) (by omega)) (by omega)))
    (fun n2 h2 e3 n4 h5 e6 n6 h8 e9 h10 h11 h12 h13 h14 h15 h16 h17 h18 h19 h20 h21 h22 => by
      subst e3
      subst e6
      subst e9
      have hp_ : ∀ j, j < 4 → Int32.toInt64 (I (40 + 2 * n4) j) = Int64.ofInt (pz (rw_ s n4) j) := fun j hj => by rw [kS_r (hcS n4 (by omega)) (kS_o (hcS n4 (by omega)) (Decidable.not_not.mp h11)) j (by omega)]; exact i2l_o _
      have ht_ : ∀ j, j < 16 → L (57 + 5 * n2) j = Int64.ofInt (tz s n2 j) := fun j hj => ((hcG n2 (by omega)).2.1 j hj).trans (i2l_o _)
      have hr_ : ∀ j, j < 4 → Int32.toInt64 (I (40 + 2 * n6) j) = Int64.ofInt (pz (rw_ s n6) j) := fun j hj => by rw [kS_r (hcS n6 (by omega)) (kS_o (hcS n6 (by omega)) (Decidable.not_not.mp h12)) j (by omega)]; exact i2l_o _
      have gx_ : mRg (rw_ s n4) 4 100 := (mRg_c (f := I (40 + 2 * n4)) (f' := rw_ s n4) (n := 4) (w := 100) (fun j hj => kS_r (hcS n4 (by omega)) (kS_o (hcS n4 (by omega)) (Decidable.not_not.mp h11)) j (by omega))).mp h15
      have gy_ : mRg (rw_ s n6) 4 100 := (mRg_c (f := I (40 + 2 * n6)) (f' := rw_ s n6) (n := 4) (w := 100) (fun j hj => kS_r (hcS n6 (by omega)) (kS_o (hcS n6 (by omega)) (Decidable.not_not.mp h12)) j (by omega))).mp h16
      have on_ := cOn_z (u := (ma_up (ma_up (ma_up (ma_up (L 34) 0 (Int32.toInt64 ((I (40 + 2 * n4)) 0))) 1 (Int32.toInt64 ((I (40 + 2 * n4)) 1))) 2 (Int32.toInt64 ((I (40 + 2 * n4)) 2))) 3 (Int32.toInt64 ((I (40 + 2 * n4)) 3)))) (v := (ma_up (ma_up (ma_up (ma_up (L 35) 0 (Int32.toInt64 ((I (40 + 2 * n6)) 0))) 1 (Int32.toInt64 ((I (40 + 2 * n6)) 1))) 2 (Int32.toInt64 ((I (40 + 2 * n6)) 2))) 3 (Int32.toInt64 ((I (40 + 2 * n6)) 3)))) (p := pz (rw_ s n4)) (r := pz (rw_ s n6)) (fun j hj => (up4 (fun j => Int32.toInt64 (I (40 + 2 * n4) j)) j hj).trans (hp_ j hj)) (fun j hj => (up4 (fun j => Int32.toInt64 (I (40 + 2 * n6) j)) j hj).trans (hr_ j hj)) (pz_b gx_) (pz_b gy_)
      have pa_ : cPr ((ma_up (ma_up L 34 (ma_up (ma_up (ma_up (ma_up (L 34) 0 (Int32.toInt64 ((I (40 + 2 * n4)) 0))) 1 (Int32.toInt64 ((I (40 + 2 * n4)) 1))) 2 (Int32.toInt64 ((I (40 + 2 * n4)) 2))) 3 (Int32.toInt64 ((I (40 + 2 * n4)) 3)))) 35 (ma_up (ma_up (ma_up (ma_up (L 35) 0 (Int32.toInt64 ((I (40 + 2 * n6)) 0))) 1 (Int32.toInt64 ((I (40 + 2 * n6)) 1))) 2 (Int32.toInt64 ((I (40 + 2 * n6)) 2))) 3 (Int32.toInt64 ((I (40 + 2 * n6)) 3)))) (57 + 5 * n2)) ((ma_up (ma_up L 34 (ma_up (ma_up (ma_up (ma_up (L 34) 0 (Int32.toInt64 ((I (40 + 2 * n4)) 0))) 1 (Int32.toInt64 ((I (40 + 2 * n4)) 1))) 2 (Int32.toInt64 ((I (40 + 2 * n4)) 2))) 3 (Int32.toInt64 ((I (40 + 2 * n4)) 3)))) 35 (ma_up (ma_up (ma_up (ma_up (L 35) 0 (Int32.toInt64 ((I (40 + 2 * n6)) 0))) 1 (Int32.toInt64 ((I (40 + 2 * n6)) 1))) 2 (Int32.toInt64 ((I (40 + 2 * n6)) 2))) 3 (Int32.toInt64 ((I (40 + 2 * n6)) 3)))) 34) ((ma_up (ma_up L 34 (ma_up (ma_up (ma_up (ma_up (L 34) 0 (Int32.toInt64 ((I (40 + 2 * n4)) 0))) 1 (Int32.toInt64 ((I (40 + 2 * n4)) 1))) 2 (Int32.toInt64 ((I (40 + 2 * n4)) 2))) 3 (Int32.toInt64 ((I (40 + 2 * n4)) 3)))) 35 (ma_up (ma_up (ma_up (ma_up (L 35) 0 (Int32.toInt64 ((I (40 + 2 * n6)) 0))) 1 (Int32.toInt64 ((I (40 + 2 * n6)) 1))) 2 (Int32.toInt64 ((I (40 + 2 * n6)) 2))) 3 (Int32.toInt64 ((I (40 + 2 * n6)) 3)))) 34) = Int64.ofInt (sVal s n2 (rw_ s n4) (rw_ s n4)) := cPr_o (z := tz s n2) (p := pz (rw_ s n4)) (r := pz (rw_ s n4)) (fun j hj => by rw [ma_up_n _ _ (by omega), ma_up_n _ _ (by omega)]; exact ht_ j hj) (fun j hj => (up4 (fun j => Int32.toInt64 (I (40 + 2 * n4) j)) j hj).trans (hp_ j hj)) (fun j hj => (up4 (fun j => Int32.toInt64 (I (40 + 2 * n4) j)) j hj).trans (hp_ j hj))
      have pb_ : cPr ((ma_up (ma_up L 34 (ma_up (ma_up (ma_up (ma_up (L 34) 0 (Int32.toInt64 ((I (40 + 2 * n4)) 0))) 1 (Int32.toInt64 ((I (40 + 2 * n4)) 1))) 2 (Int32.toInt64 ((I (40 + 2 * n4)) 2))) 3 (Int32.toInt64 ((I (40 + 2 * n4)) 3)))) 35 (ma_up (ma_up (ma_up (ma_up (L 35) 0 (Int32.toInt64 ((I (40 + 2 * n6)) 0))) 1 (Int32.toInt64 ((I (40 + 2 * n6)) 1))) 2 (Int32.toInt64 ((I (40 + 2 * n6)) 2))) 3 (Int32.toInt64 ((I (40 + 2 * n6)) 3)))) (57 + 5 * n2)) ((ma_up (ma_up L 34 (ma_up (ma_up (ma_up (ma_up (L 34) 0 (Int32.toInt64 ((I (40 + 2 * n4)) 0))) 1 (Int32.toInt64 ((I (40 + 2 * n4)) 1))) 2 (Int32.toInt64 ((I (40 + 2 * n4)) 2))) 3 (Int32.toInt64 ((I (40 + 2 * n4)) 3)))) 35 (ma_up (ma_up (ma_up (ma_up (L 35) 0 (Int32.toInt64 ((I (40 + 2 * n6)) 0))) 1 (Int32.toInt64 ((I (40 + 2 * n6)) 1))) 2 (Int32.toInt64 ((I (40 + 2 * n6)) 2))) 3 (Int32.toInt64 ((I (40 + 2 * n6)) 3)))) 34) ((ma_up (ma_up L 34 (ma_up (ma_up (ma_up (ma_up (L 34) 0 (Int32.toInt64 ((I (40 + 2 * n4)) 0))) 1 (Int32.toInt64 ((I (40 + 2 * n4)) 1))) 2 (Int32.toInt64 ((I (40 + 2 * n4)) 2))) 3 (Int32.toInt64 ((I (40 + 2 * n4)) 3)))) 35 (ma_up (ma_up (ma_up (ma_up (L 35) 0 (Int32.toInt64 ((I (40 + 2 * n6)) 0))) 1 (Int32.toInt64 ((I (40 + 2 * n6)) 1))) 2 (Int32.toInt64 ((I (40 + 2 * n6)) 2))) 3 (Int32.toInt64 ((I (40 + 2 * n6)) 3)))) 35) = Int64.ofInt (sVal s n2 (rw_ s n4) (rw_ s n6)) := cPr_o (z := tz s n2) (p := pz (rw_ s n4)) (r := pz (rw_ s n6)) (fun j hj => by rw [ma_up_n _ _ (by omega), ma_up_n _ _ (by omega)]; exact ht_ j hj) (fun j hj => (up4 (fun j => Int32.toInt64 (I (40 + 2 * n4) j)) j hj).trans (hp_ j hj)) (fun j hj => (up4 (fun j => Int32.toInt64 (I (40 + 2 * n6) j)) j hj).trans (hr_ j hj))
      have pc_ : cPr ((ma_up (ma_up L 34 (ma_up (ma_up (ma_up (ma_up (L 34) 0 (Int32.toInt64 ((I (40 + 2 * n4)) 0))) 1 (Int32.toInt64 ((I (40 + 2 * n4)) 1))) 2 (Int32.toInt64 ((I (40 + 2 * n4)) 2))) 3 (Int32.toInt64 ((I (40 + 2 * n4)) 3)))) 35 (ma_up (ma_up (ma_up (ma_up (L 35) 0 (Int32.toInt64 ((I (40 + 2 * n6)) 0))) 1 (Int32.toInt64 ((I (40 + 2 * n6)) 1))) 2 (Int32.toInt64 ((I (40 + 2 * n6)) 2))) 3 (Int32.toInt64 ((I (40 + 2 * n6)) 3)))) (57 + 5 * n2)) ((ma_up (ma_up L 34 (ma_up (ma_up (ma_up (ma_up (L 34) 0 (Int32.toInt64 ((I (40 + 2 * n4)) 0))) 1 (Int32.toInt64 ((I (40 + 2 * n4)) 1))) 2 (Int32.toInt64 ((I (40 + 2 * n4)) 2))) 3 (Int32.toInt64 ((I (40 + 2 * n4)) 3)))) 35 (ma_up (ma_up (ma_up (ma_up (L 35) 0 (Int32.toInt64 ((I (40 + 2 * n6)) 0))) 1 (Int32.toInt64 ((I (40 + 2 * n6)) 1))) 2 (Int32.toInt64 ((I (40 + 2 * n6)) 2))) 3 (Int32.toInt64 ((I (40 + 2 * n6)) 3)))) 35) ((ma_up (ma_up L 34 (ma_up (ma_up (ma_up (ma_up (L 34) 0 (Int32.toInt64 ((I (40 + 2 * n4)) 0))) 1 (Int32.toInt64 ((I (40 + 2 * n4)) 1))) 2 (Int32.toInt64 ((I (40 + 2 * n4)) 2))) 3 (Int32.toInt64 ((I (40 + 2 * n4)) 3)))) 35 (ma_up (ma_up (ma_up (ma_up (L 35) 0 (Int32.toInt64 ((I (40 + 2 * n6)) 0))) 1 (Int32.toInt64 ((I (40 + 2 * n6)) 1))) 2 (Int32.toInt64 ((I (40 + 2 * n6)) 2))) 3 (Int32.toInt64 ((I (40 + 2 * n6)) 3)))) 35) = Int64.ofInt (sVal s n2 (rw_ s n6) (rw_ s n6)) := cPr_o (z := tz s n2) (p := pz (rw_ s n6)) (r := pz (rw_ s n6)) (fun j hj => by rw [ma_up_n _ _ (by omega), ma_up_n _ _ (by omega)]; exact ht_ j hj) (fun j hj => (up4 (fun j => Int32.toInt64 (I (40 + 2 * n6) j)) j hj).trans (hr_ j hj)) (fun j hj => (up4 (fun j => Int32.toInt64 (I (40 + 2 * n6) j)) j hj).trans (hr_ j hj))
      have ba_ := sVal_b (hW.2.1 n2 (by omega)) gx_ gx_
      have bb_ := sVal_b (hW.2.1 n2 (by omega)) gx_ gy_
      have bc_ := sVal_b (hW.2.1 n2 (by omega)) gy_ gy_
      have c0_ : (sVal s n2 (rw_ s n4) (rw_ s n4)) = 0 := (o6_0 (by omega)).mp (pa_.symm.trans h20)
      have c1_ : (sVal s n2 (rw_ s n4) (rw_ s n6)) = 0 := (o6_0 (by omega)).mp (pb_.symm.trans h21)
      have c2_ : ¬ (sVal s n2 (rw_ s n6) (rw_ s n6)) = 0 := fun z => h22 (pc_.trans ((o6_0 (by omega)).mpr z))
      have e_ : F_line s (nI n2) (nI n4) (nI n6) = ((1 + mSg ((Int64.ofInt (sVal s n2 (rw_ s n4) (rw_ s n6)) * Int64.ofInt (sVal s n2 (rw_ s n4) (rw_ s n6))) - (Int64.ofInt (sVal s n2 (rw_ s n4) (rw_ s n4)) * Int64.ofInt (sVal s n2 (rw_ s n6) (rw_ s n6))))), (sLn s (Int32.ofInt (sVal s n2 (rw_ s n4) (rw_ s n4))) (Int32.ofInt (sVal s n2 (rw_ s n4) (rw_ s n6))) (Int32.ofInt (sVal s n2 (rw_ s n6) (rw_ s n6))))) := by simp only [F_line, ix_s (n := 12) h2, ix_s (n := 8) h5, ix_s (n := 8) h8, if_neg (kG_o (hcG n2 (by omega)) h10), if_neg (kS_o (hcS n4 (by omega)) (Decidable.not_not.mp h11)), if_neg (kS_o (hcS n6 (by omega)) (Decidable.not_not.mp h12)), if_neg (n4_ (kS_e (hcS n4 (by omega)) (kS_o (hcS n4 (by omega)) (Decidable.not_not.mp h11))) h13), if_neg (n4_ (kS_e (hcS n6 (by omega)) (kS_o (hcS n6 (by omega)) (Decidable.not_not.mp h12))) (l4_ h14)), cIf_p (And.intro ((mRg_c (f := I (40 + 2 * n4)) (f' := rw_ s n4) (n := 4) (w := 100) (fun j hj => kS_r (hcS n4 (by omega)) (kS_o (hcS n4 (by omega)) (Decidable.not_not.mp h11)) j (by omega))).mp h15) ((mRg_c (f := I (40 + 2 * n6)) (f' := rw_ s n6) (n := 4) (w := 100) (fun j hj => kS_r (hcS n6 (by omega)) (kS_o (hcS n6 (by omega)) (Decidable.not_not.mp h12)) j (by omega))).mp h16)), cIf_n (fun z => h17 ((mZr_c (f := I (40 + 2 * n4)) (f' := rw_ s n4) (n := 4) (fun j hj => kS_r (hcS n4 (by omega)) (kS_o (hcS n4 (by omega)) (Decidable.not_not.mp h11)) j (by omega))).mpr z)), cIf_n (fun z => h18 ((mZr_c (f := I (40 + 2 * n6)) (f' := rw_ s n6) (n := 4) (fun j hj => kS_r (hcS n6 (by omega)) (kS_o (hcS n6 (by omega)) (Decidable.not_not.mp h12)) j (by omega))).mpr z)), cIf_n (fun z => h19 (on_.mpr z)), lnR, if_neg (show ¬ ((sVal s n2 (rw_ s n4) (rw_ s n4)) = 0 ∧ (sVal s n2 (rw_ s n4) (rw_ s n6)) = 0 ∧ (sVal s n2 (rw_ s n6) (rw_ s n6)) = 0) from fun z => c2_ z.2.2)]
      rw [e_] at k
      dsimp only at k
      rw [pa_, pb_, pc_]
      exact k _ _ (rC_x (rC_ln hC (l2i_o _) (l2i_o _) (l2i_o _)) (fun _ _ => rfl) (fun a ha => by rw [ma_up_n _ _ (by omega), ma_up_n _ _ (by omega)])) (mS_ul (mS_ul (mS_up (mS_up mS_rf (by omega)) (by omega)) (by omega)) (by omega)))
    (fun n2 h2 e3 n4 h5 e6 n6 h8 e9 h10 h11 h12 h13 h14 h15 h16 h17 h18 h19 h20 h21 h22 => by
      subst e3
      subst e6
      subst e9
      have hp_ : ∀ j, j < 4 → Int32.toInt64 (I (40 + 2 * n4) j) = Int64.ofInt (pz (rw_ s n4) j) := fun j hj => by rw [kS_r (hcS n4 (by omega)) (kS_o (hcS n4 (by omega)) (Decidable.not_not.mp h11)) j (by omega)]; exact i2l_o _
      have ht_ : ∀ j, j < 16 → L (57 + 5 * n2) j = Int64.ofInt (tz s n2 j) := fun j hj => ((hcG n2 (by omega)).2.1 j hj).trans (i2l_o _)
      have hr_ : ∀ j, j < 4 → Int32.toInt64 (I (40 + 2 * n6) j) = Int64.ofInt (pz (rw_ s n6) j) := fun j hj => by rw [kS_r (hcS n6 (by omega)) (kS_o (hcS n6 (by omega)) (Decidable.not_not.mp h12)) j (by omega)]; exact i2l_o _
      have gx_ : mRg (rw_ s n4) 4 100 := (mRg_c (f := I (40 + 2 * n4)) (f' := rw_ s n4) (n := 4) (w := 100) (fun j hj => kS_r (hcS n4 (by omega)) (kS_o (hcS n4 (by omega)) (Decidable.not_not.mp h11)) j (by omega))).mp h15
      have gy_ : mRg (rw_ s n6) 4 100 := (mRg_c (f := I (40 + 2 * n6)) (f' := rw_ s n6) (n := 4) (w := 100) (fun j hj => kS_r (hcS n6 (by omega)) (kS_o (hcS n6 (by omega)) (Decidable.not_not.mp h12)) j (by omega))).mp h16
      have on_ := cOn_z (u := (ma_up (ma_up (ma_up (ma_up (L 34) 0 (Int32.toInt64 ((I (40 + 2 * n4)) 0))) 1 (Int32.toInt64 ((I (40 + 2 * n4)) 1))) 2 (Int32.toInt64 ((I (40 + 2 * n4)) 2))) 3 (Int32.toInt64 ((I (40 + 2 * n4)) 3)))) (v := (ma_up (ma_up (ma_up (ma_up (L 35) 0 (Int32.toInt64 ((I (40 + 2 * n6)) 0))) 1 (Int32.toInt64 ((I (40 + 2 * n6)) 1))) 2 (Int32.toInt64 ((I (40 + 2 * n6)) 2))) 3 (Int32.toInt64 ((I (40 + 2 * n6)) 3)))) (p := pz (rw_ s n4)) (r := pz (rw_ s n6)) (fun j hj => (up4 (fun j => Int32.toInt64 (I (40 + 2 * n4) j)) j hj).trans (hp_ j hj)) (fun j hj => (up4 (fun j => Int32.toInt64 (I (40 + 2 * n6) j)) j hj).trans (hr_ j hj)) (pz_b gx_) (pz_b gy_)
      have pa_ : cPr ((ma_up (ma_up L 34 (ma_up (ma_up (ma_up (ma_up (L 34) 0 (Int32.toInt64 ((I (40 + 2 * n4)) 0))) 1 (Int32.toInt64 ((I (40 + 2 * n4)) 1))) 2 (Int32.toInt64 ((I (40 + 2 * n4)) 2))) 3 (Int32.toInt64 ((I (40 + 2 * n4)) 3)))) 35 (ma_up (ma_up (ma_up (ma_up (L 35) 0 (Int32.toInt64 ((I (40 + 2 * n6)) 0))) 1 (Int32.toInt64 ((I (40 + 2 * n6)) 1))) 2 (Int32.toInt64 ((I (40 + 2 * n6)) 2))) 3 (Int32.toInt64 ((I (40 + 2 * n6)) 3)))) (57 + 5 * n2)) ((ma_up (ma_up L 34 (ma_up (ma_up (ma_up (ma_up (L 34) 0 (Int32.toInt64 ((I (40 + 2 * n4)) 0))) 1 (Int32.toInt64 ((I (40 + 2 * n4)) 1))) 2 (Int32.toInt64 ((I (40 + 2 * n4)) 2))) 3 (Int32.toInt64 ((I (40 + 2 * n4)) 3)))) 35 (ma_up (ma_up (ma_up (ma_up (L 35) 0 (Int32.toInt64 ((I (40 + 2 * n6)) 0))) 1 (Int32.toInt64 ((I (40 + 2 * n6)) 1))) 2 (Int32.toInt64 ((I (40 + 2 * n6)) 2))) 3 (Int32.toInt64 ((I (40 + 2 * n6)) 3)))) 34) ((ma_up (ma_up L 34 (ma_up (ma_up (ma_up (ma_up (L 34) 0 (Int32.toInt64 ((I (40 + 2 * n4)) 0))) 1 (Int32.toInt64 ((I (40 + 2 * n4)) 1))) 2 (Int32.toInt64 ((I (40 + 2 * n4)) 2))) 3 (Int32.toInt64 ((I (40 + 2 * n4)) 3)))) 35 (ma_up (ma_up (ma_up (ma_up (L 35) 0 (Int32.toInt64 ((I (40 + 2 * n6)) 0))) 1 (Int32.toInt64 ((I (40 + 2 * n6)) 1))) 2 (Int32.toInt64 ((I (40 + 2 * n6)) 2))) 3 (Int32.toInt64 ((I (40 + 2 * n6)) 3)))) 34) = Int64.ofInt (sVal s n2 (rw_ s n4) (rw_ s n4)) := cPr_o (z := tz s n2) (p := pz (rw_ s n4)) (r := pz (rw_ s n4)) (fun j hj => by rw [ma_up_n _ _ (by omega), ma_up_n _ _ (by omega)]; exact ht_ j hj) (fun j hj => (up4 (fun j => Int32.toInt64 (I (40 + 2 * n4) j)) j hj).trans (hp_ j hj)) (fun j hj => (up4 (fun j => Int32.toInt64 (I (40 + 2 * n4) j)) j hj).trans (hp_ j hj))
      have pb_ : cPr ((ma_up (ma_up L 34 (ma_up (ma_up (ma_up (ma_up (L 34) 0 (Int32.toInt64 ((I (40 + 2 * n4)) 0))) 1 (Int32.toInt64 ((I (40 + 2 * n4)) 1))) 2 (Int32.toInt64 ((I (40 + 2 * n4)) 2))) 3 (Int32.toInt64 ((I (40 + 2 * n4)) 3)))) 35 (ma_up (ma_up (ma_up (ma_up (L 35) 0 (Int32.toInt64 ((I (40 + 2 * n6)) 0))) 1 (Int32.toInt64 ((I (40 + 2 * n6)) 1))) 2 (Int32.toInt64 ((I (40 + 2 * n6)) 2))) 3 (Int32.toInt64 ((I (40 + 2 * n6)) 3)))) (57 + 5 * n2)) ((ma_up (ma_up L 34 (ma_up (ma_up (ma_up (ma_up (L 34) 0 (Int32.toInt64 ((I (40 + 2 * n4)) 0))) 1 (Int32.toInt64 ((I (40 + 2 * n4)) 1))) 2 (Int32.toInt64 ((I (40 + 2 * n4)) 2))) 3 (Int32.toInt64 ((I (40 + 2 * n4)) 3)))) 35 (ma_up (ma_up (ma_up (ma_up (L 35) 0 (Int32.toInt64 ((I (40 + 2 * n6)) 0))) 1 (Int32.toInt64 ((I (40 + 2 * n6)) 1))) 2 (Int32.toInt64 ((I (40 + 2 * n6)) 2))) 3 (Int32.toInt64 ((I (40 + 2 * n6)) 3)))) 34) ((ma_up (ma_up L 34 (ma_up (ma_up (ma_up (ma_up (L 34) 0 (Int32.toInt64 ((I (40 + 2 * n4)) 0))) 1 (Int32.toInt64 ((I (40 + 2 * n4)) 1))) 2 (Int32.toInt64 ((I (40 + 2 * n4)) 2))) 3 (Int32.toInt64 ((I (40 + 2 * n4)) 3)))) 35 (ma_up (ma_up (ma_up (ma_up (L 35) 0 (Int32.toInt64 ((I (40 + 2 * n6)) 0))) 1 (Int32.toInt64 ((I (40 + 2 * n6)) 1))) 2 (Int32.toInt64 ((I (40 + 2 * n6)) 2))) 3 (Int32.toInt64 ((I (40 + 2 * n6)) 3)))) 35) = Int64.ofInt (sVal s n2 (rw_ s n4) (rw_ s n6)) := cPr_o (z := tz s n2) (p := pz (rw_ s n4)) (r := pz (rw_ s n6)) (fun j hj => by rw [ma_up_n _ _ (by omega), ma_up_n _ _ (by omega)]; exact ht_ j hj) (fun j hj => (up4 (fun j => Int32.toInt64 (I (40 + 2 * n4) j)) j hj).trans (hp_ j hj)) (fun j hj => (up4 (fun j => Int32.toInt64 (I (40 + 2 * n6) j)) j hj).trans (hr_ j hj))
      have pc_ : cPr ((ma_up (ma_up L 34 (ma_up (ma_up (ma_up (ma_up (L 34) 0 (Int32.toInt64 ((I (40 + 2 * n4)) 0))) 1 (Int32.toInt64 ((I (40 + 2 * n4)) 1))) 2 (Int32.toInt64 ((I (40 + 2 * n4)) 2))) 3 (Int32.toInt64 ((I (40 + 2 * n4)) 3)))) 35 (ma_up (ma_up (ma_up (ma_up (L 35) 0 (Int32.toInt64 ((I (40 + 2 * n6)) 0))) 1 (Int32.toInt64 ((I (40 + 2 * n6)) 1))) 2 (Int32.toInt64 ((I (40 + 2 * n6)) 2))) 3 (Int32.toInt64 ((I (40 + 2 * n6)) 3)))) (57 + 5 * n2)) ((ma_up (ma_up L 34 (ma_up (ma_up (ma_up (ma_up (L 34) 0 (Int32.toInt64 ((I (40 + 2 * n4)) 0))) 1 (Int32.toInt64 ((I (40 + 2 * n4)) 1))) 2 (Int32.toInt64 ((I (40 + 2 * n4)) 2))) 3 (Int32.toInt64 ((I (40 + 2 * n4)) 3)))) 35 (ma_up (ma_up (ma_up (ma_up (L 35) 0 (Int32.toInt64 ((I (40 + 2 * n6)) 0))) 1 (Int32.toInt64 ((I (40 + 2 * n6)) 1))) 2 (Int32.toInt64 ((I (40 + 2 * n6)) 2))) 3 (Int32.toInt64 ((I (40 + 2 * n6)) 3)))) 35) ((ma_up (ma_up L 34 (ma_up (ma_up (ma_up (ma_up (L 34) 0 (Int32.toInt64 ((I (40 + 2 * n4)) 0))) 1 (Int32.toInt64 ((I (40 + 2 * n4)) 1))) 2 (Int32.toInt64 ((I (40 + 2 * n4)) 2))) 3 (Int32.toInt64 ((I (40 + 2 * n4)) 3)))) 35 (ma_up (ma_up (ma_up (ma_up (L 35) 0 (Int32.toInt64 ((I (40 + 2 * n6)) 0))) 1 (Int32.toInt64 ((I (40 + 2 * n6)) 1))) 2 (Int32.toInt64 ((I (40 + 2 * n6)) 2))) 3 (Int32.toInt64 ((I (40 + 2 * n6)) 3)))) 35) = Int64.ofInt (sVal s n2 (rw_ s n6) (rw_ s n6)) := cPr_o (z := tz s n2) (p := pz (rw_ s n6)) (r := pz (rw_ s n6)) (fun j hj => by rw [ma_up_n _ _ (by omega), ma_up_n _ _ (by omega)]; exact ht_ j hj) (fun j hj => (up4 (fun j => Int32.toInt64 (I (40 + 2 * n6) j)) j hj).trans (hr_ j hj)) (fun j hj => (up4 (fun j => Int32.toInt64 (I (40 + 2 * n6) j)) j hj).trans (hr_ j hj))
      have ba_ := sVal_b (hW.2.1 n2 (by omega)) gx_ gx_
      have bb_ := sVal_b (hW.2.1 n2 (by omega)) gx_ gy_
      have bc_ := sVal_b (hW.2.1 n2 (by omega)) gy_ gy_
      have c0_ : (sVal s n2 (rw_ s n4) (rw_ s n4)) = 0 := (o6_0 (by omega)).mp (pa_.symm.trans h20)
      have c1_ : (sVal s n2 (rw_ s n4) (rw_ s n6)) = 0 := (o6_0 (by omega)).mp (pb_.symm.trans h21)
      have c2_ : (sVal s n2 (rw_ s n6) (rw_ s n6)) = 0 := (o6_0 (by omega)).mp (pc_.symm.trans h22)
      have e_ : F_line s (nI n2) (nI n4) (nI n6) = (9, (sLn s (Int32.ofInt (sVal s n2 (rw_ s n4) (rw_ s n4))) (Int32.ofInt (sVal s n2 (rw_ s n4) (rw_ s n6))) (Int32.ofInt (sVal s n2 (rw_ s n6) (rw_ s n6))))) := by simp only [F_line, ix_s (n := 12) h2, ix_s (n := 8) h5, ix_s (n := 8) h8, if_neg (kG_o (hcG n2 (by omega)) h10), if_neg (kS_o (hcS n4 (by omega)) (Decidable.not_not.mp h11)), if_neg (kS_o (hcS n6 (by omega)) (Decidable.not_not.mp h12)), if_neg (n4_ (kS_e (hcS n4 (by omega)) (kS_o (hcS n4 (by omega)) (Decidable.not_not.mp h11))) h13), if_neg (n4_ (kS_e (hcS n6 (by omega)) (kS_o (hcS n6 (by omega)) (Decidable.not_not.mp h12))) (l4_ h14)), cIf_p (And.intro ((mRg_c (f := I (40 + 2 * n4)) (f' := rw_ s n4) (n := 4) (w := 100) (fun j hj => kS_r (hcS n4 (by omega)) (kS_o (hcS n4 (by omega)) (Decidable.not_not.mp h11)) j (by omega))).mp h15) ((mRg_c (f := I (40 + 2 * n6)) (f' := rw_ s n6) (n := 4) (w := 100) (fun j hj => kS_r (hcS n6 (by omega)) (kS_o (hcS n6 (by omega)) (Decidable.not_not.mp h12)) j (by omega))).mp h16)), cIf_n (fun z => h17 ((mZr_c (f := I (40 + 2 * n4)) (f' := rw_ s n4) (n := 4) (fun j hj => kS_r (hcS n4 (by omega)) (kS_o (hcS n4 (by omega)) (Decidable.not_not.mp h11)) j (by omega))).mpr z)), cIf_n (fun z => h18 ((mZr_c (f := I (40 + 2 * n6)) (f' := rw_ s n6) (n := 4) (fun j hj => kS_r (hcS n6 (by omega)) (kS_o (hcS n6 (by omega)) (Decidable.not_not.mp h12)) j (by omega))).mpr z)), cIf_n (fun z => h19 (on_.mpr z)), lnR, if_pos (And.intro c0_ (And.intro c1_ c2_))]
      rw [e_] at k
      dsimp only at k
      rw [pa_, pb_, pc_]
      exact k _ _ (rC_x (rC_ln hC (l2i_o _) (l2i_o _) (l2i_o _)) (fun _ _ => rfl) (fun a ha => by rw [ma_up_n _ _ (by omega), ma_up_n _ _ (by omega)])) (mS_ul (mS_ul (mS_up (mS_up mS_rf (by omega)) (by omega)) (by omega)) (by omega)))
    (fun n2 h2 e3 n4 h5 e6 n6 h8 e9 h10 h11 h12 h13 h14 h15 h16 h17 h18 h19 => by
      subst e3
      subst e6
      subst e9
      have hp_ : ∀ j, j < 4 → Int32.toInt64 (I (40 + 2 * n4) j) = Int64.ofInt (pz (rw_ s n4) j) := fun j hj => by rw [kS_r (hcS n4 (by omega)) (kS_o (hcS n4 (by omega)) (Decidable.not_not.mp h11)) j (by omega)]; exact i2l_o _
      have ht_ : ∀ j, j < 16 → L (57 + 5 * n2) j = Int64.ofInt (tz s n2 j) := fun j hj => ((hcG n2 (by omega)).2.1 j hj).trans (i2l_o _)
      have hr_ : ∀ j, j < 4 → Int32.toInt64 (I (40 + 2 * n6) j) = Int64.ofInt (pz (rw_ s n6) j) := fun j hj => by rw [kS_r (hcS n6 (by omega)) (kS_o (hcS n6 (by omega)) (Decidable.not_not.mp h12)) j (by omega)]; exact i2l_o _
      have gx_ : mRg (rw_ s n4) 4 100 := (mRg_c (f := I (40 + 2 * n4)) (f' := rw_ s n4) (n := 4) (w := 100) (fun j hj => kS_r (hcS n4 (by omega)) (kS_o (hcS n4 (by omega)) (Decidable.not_not.mp h11)) j (by omega))).mp h15
      have gy_ : mRg (rw_ s n6) 4 100 := (mRg_c (f := I (40 + 2 * n6)) (f' := rw_ s n6) (n := 4) (w := 100) (fun j hj => kS_r (hcS n6 (by omega)) (kS_o (hcS n6 (by omega)) (Decidable.not_not.mp h12)) j (by omega))).mp h16
      have on_ := cOn_z (u := (ma_up (ma_up (ma_up (ma_up (L 34) 0 (Int32.toInt64 ((I (40 + 2 * n4)) 0))) 1 (Int32.toInt64 ((I (40 + 2 * n4)) 1))) 2 (Int32.toInt64 ((I (40 + 2 * n4)) 2))) 3 (Int32.toInt64 ((I (40 + 2 * n4)) 3)))) (v := (ma_up (ma_up (ma_up (ma_up (L 35) 0 (Int32.toInt64 ((I (40 + 2 * n6)) 0))) 1 (Int32.toInt64 ((I (40 + 2 * n6)) 1))) 2 (Int32.toInt64 ((I (40 + 2 * n6)) 2))) 3 (Int32.toInt64 ((I (40 + 2 * n6)) 3)))) (p := pz (rw_ s n4)) (r := pz (rw_ s n6)) (fun j hj => (up4 (fun j => Int32.toInt64 (I (40 + 2 * n4) j)) j hj).trans (hp_ j hj)) (fun j hj => (up4 (fun j => Int32.toInt64 (I (40 + 2 * n6) j)) j hj).trans (hr_ j hj)) (pz_b gx_) (pz_b gy_)
      have e_ : F_line s (nI n2) (nI n4) (nI n6) = ((-3), (sM s 4)) := by simp only [F_line, ix_s (n := 12) h2, ix_s (n := 8) h5, ix_s (n := 8) h8, if_neg (kG_o (hcG n2 (by omega)) h10), if_neg (kS_o (hcS n4 (by omega)) (Decidable.not_not.mp h11)), if_neg (kS_o (hcS n6 (by omega)) (Decidable.not_not.mp h12)), if_neg (n4_ (kS_e (hcS n4 (by omega)) (kS_o (hcS n4 (by omega)) (Decidable.not_not.mp h11))) h13), if_neg (n4_ (kS_e (hcS n6 (by omega)) (kS_o (hcS n6 (by omega)) (Decidable.not_not.mp h12))) (l4_ h14)), cIf_p (And.intro ((mRg_c (f := I (40 + 2 * n4)) (f' := rw_ s n4) (n := 4) (w := 100) (fun j hj => kS_r (hcS n4 (by omega)) (kS_o (hcS n4 (by omega)) (Decidable.not_not.mp h11)) j (by omega))).mp h15) ((mRg_c (f := I (40 + 2 * n6)) (f' := rw_ s n6) (n := 4) (w := 100) (fun j hj => kS_r (hcS n6 (by omega)) (kS_o (hcS n6 (by omega)) (Decidable.not_not.mp h12)) j (by omega))).mp h16)), cIf_n (fun z => h17 ((mZr_c (f := I (40 + 2 * n4)) (f' := rw_ s n4) (n := 4) (fun j hj => kS_r (hcS n4 (by omega)) (kS_o (hcS n4 (by omega)) (Decidable.not_not.mp h11)) j (by omega))).mpr z)), cIf_n (fun z => h18 ((mZr_c (f := I (40 + 2 * n6)) (f' := rw_ s n6) (n := 4) (fun j hj => kS_r (hcS n6 (by omega)) (kS_o (hcS n6 (by omega)) (Decidable.not_not.mp h12)) j (by omega))).mpr z)), cIf_p (on_.mp h19)]
      rw [e_] at k
      dsimp only at k
      exact k _ _ (rC_x (rC_R hC (by omega)) (fun _ _ => rfl) (fun a ha => by rw [ma_up_n _ _ (by omega), ma_up_n _ _ (by omega)])) (mS_ul (mS_ul (mS_R _ _ _) (by omega)) (by omega)))
    (fun n2 h2 e3 n4 h5 e6 n6 h8 e9 h10 h11 h12 h13 h14 h15 h16 h17 h18 => by
      subst e3
      subst e6
      subst e9
      have e_ : F_line s (nI n2) (nI n4) (nI n6) = ((-3), (sM s 4)) := by simp only [F_line, ix_s (n := 12) h2, ix_s (n := 8) h5, ix_s (n := 8) h8, if_neg (kG_o (hcG n2 (by omega)) h10), if_neg (kS_o (hcS n4 (by omega)) (Decidable.not_not.mp h11)), if_neg (kS_o (hcS n6 (by omega)) (Decidable.not_not.mp h12)), if_neg (n4_ (kS_e (hcS n4 (by omega)) (kS_o (hcS n4 (by omega)) (Decidable.not_not.mp h11))) h13), if_neg (n4_ (kS_e (hcS n6 (by omega)) (kS_o (hcS n6 (by omega)) (Decidable.not_not.mp h12))) (l4_ h14)), cIf_p (And.intro ((mRg_c (f := I (40 + 2 * n4)) (f' := rw_ s n4) (n := 4) (w := 100) (fun j hj => kS_r (hcS n4 (by omega)) (kS_o (hcS n4 (by omega)) (Decidable.not_not.mp h11)) j (by omega))).mp h15) ((mRg_c (f := I (40 + 2 * n6)) (f' := rw_ s n6) (n := 4) (w := 100) (fun j hj => kS_r (hcS n6 (by omega)) (kS_o (hcS n6 (by omega)) (Decidable.not_not.mp h12)) j (by omega))).mp h16)), cIf_n (fun z => h17 ((mZr_c (f := I (40 + 2 * n4)) (f' := rw_ s n4) (n := 4) (fun j hj => kS_r (hcS n4 (by omega)) (kS_o (hcS n4 (by omega)) (Decidable.not_not.mp h11)) j (by omega))).mpr z)), cIf_p ((mZr_c (f := I (40 + 2 * n6)) (f' := rw_ s n6) (n := 4) (fun j hj => kS_r (hcS n6 (by omega)) (kS_o (hcS n6 (by omega)) (Decidable.not_not.mp h12)) j (by omega))).mp h18)]
      rw [e_] at k
      dsimp only at k
      exact k _ _ (rC_R hC (by omega)) (mS_R _ _ _))
    (fun n2 h2 e3 n4 h5 e6 n6 h8 e9 h10 h11 h12 h13 h14 h15 h16 h17 => by
      subst e3
      subst e6
      subst e9
      have e_ : F_line s (nI n2) (nI n4) (nI n6) = ((-3), (sM s 4)) := by simp only [F_line, ix_s (n := 12) h2, ix_s (n := 8) h5, ix_s (n := 8) h8, if_neg (kG_o (hcG n2 (by omega)) h10), if_neg (kS_o (hcS n4 (by omega)) (Decidable.not_not.mp h11)), if_neg (kS_o (hcS n6 (by omega)) (Decidable.not_not.mp h12)), if_neg (n4_ (kS_e (hcS n4 (by omega)) (kS_o (hcS n4 (by omega)) (Decidable.not_not.mp h11))) h13), if_neg (n4_ (kS_e (hcS n6 (by omega)) (kS_o (hcS n6 (by omega)) (Decidable.not_not.mp h12))) (l4_ h14)), cIf_p (And.intro ((mRg_c (f := I (40 + 2 * n4)) (f' := rw_ s n4) (n := 4) (w := 100) (fun j hj => kS_r (hcS n4 (by omega)) (kS_o (hcS n4 (by omega)) (Decidable.not_not.mp h11)) j (by omega))).mp h15) ((mRg_c (f := I (40 + 2 * n6)) (f' := rw_ s n6) (n := 4) (w := 100) (fun j hj => kS_r (hcS n6 (by omega)) (kS_o (hcS n6 (by omega)) (Decidable.not_not.mp h12)) j (by omega))).mp h16)), cIf_p ((mZr_c (f := I (40 + 2 * n4)) (f' := rw_ s n4) (n := 4) (fun j hj => kS_r (hcS n4 (by omega)) (kS_o (hcS n4 (by omega)) (Decidable.not_not.mp h11)) j (by omega))).mp h17)]
      rw [e_] at k
      dsimp only at k
      exact k _ _ (rC_R hC (by omega)) (mS_R _ _ _))
    (fun n2 h2 e3 n4 h5 e6 n6 h8 e9 h10 h11 h12 h13 h14 h15 h16 => by
      subst e3
      subst e6
      subst e9
      have e_ : F_line s (nI n2) (nI n4) (nI n6) = ((-3), (sM s 2)) := by simp only [F_line, ix_s (n := 12) h2, ix_s (n := 8) h5, ix_s (n := 8) h8, if_neg (kG_o (hcG n2 (by omega)) h10), if_neg (kS_o (hcS n4 (by omega)) (Decidable.not_not.mp h11)), if_neg (kS_o (hcS n6 (by omega)) (Decidable.not_not.mp h12)), if_neg (n4_ (kS_e (hcS n4 (by omega)) (kS_o (hcS n4 (by omega)) (Decidable.not_not.mp h11))) h13), if_neg (n4_ (kS_e (hcS n6 (by omega)) (kS_o (hcS n6 (by omega)) (Decidable.not_not.mp h12))) (l4_ h14)), cIf_n (fun (z : mRg (rw_ s n4) 4 100 ∧ mRg (rw_ s n6) 4 100) => h16 ((mRg_c (f := I (40 + 2 * n6)) (f' := rw_ s n6) (n := 4) (w := 100) (fun j hj => kS_r (hcS n6 (by omega)) (kS_o (hcS n6 (by omega)) (Decidable.not_not.mp h12)) j (by omega))).mpr z.2))]
      rw [e_] at k
      dsimp only at k
      exact k _ _ (rC_R hC (by omega)) (mS_R _ _ _))
    (fun n2 h2 e3 n4 h5 e6 n6 h8 e9 h10 h11 h12 h13 h14 h15 => by
      subst e3
      subst e6
      subst e9
      have e_ : F_line s (nI n2) (nI n4) (nI n6) = ((-3), (sM s 2)) := by simp only [F_line, ix_s (n := 12) h2, ix_s (n := 8) h5, ix_s (n := 8) h8, if_neg (kG_o (hcG n2 (by omega)) h10), if_neg (kS_o (hcS n4 (by omega)) (Decidable.not_not.mp h11)), if_neg (kS_o (hcS n6 (by omega)) (Decidable.not_not.mp h12)), if_neg (n4_ (kS_e (hcS n4 (by omega)) (kS_o (hcS n4 (by omega)) (Decidable.not_not.mp h11))) h13), if_neg (n4_ (kS_e (hcS n6 (by omega)) (kS_o (hcS n6 (by omega)) (Decidable.not_not.mp h12))) (l4_ h14)), cIf_n (fun (z : mRg (rw_ s n4) 4 100 ∧ mRg (rw_ s n6) 4 100) => h15 ((mRg_c (f := I (40 + 2 * n4)) (f' := rw_ s n4) (n := 4) (w := 100) (fun j hj => kS_r (hcS n4 (by omega)) (kS_o (hcS n4 (by omega)) (Decidable.not_not.mp h11)) j (by omega))).mpr z.1))]
      rw [e_] at k
      dsimp only at k
      exact k _ _ (rC_R hC (by omega)) (mS_R _ _ _))
    (fun n2 h2 e3 n4 h5 e6 n6 h8 e9 h10 h11 h12 h13 h14 => by
      subst e3
      subst e6
      subst e9
      have e_ : F_line s (nI n2) (nI n4) (nI n6) = ((-3), (sM s 5)) := by simp only [F_line, ix_s (n := 12) h2, ix_s (n := 8) h5, ix_s (n := 8) h8, if_neg (kG_o (hcG n2 (by omega)) h10), if_neg (kS_o (hcS n4 (by omega)) (Decidable.not_not.mp h11)), if_neg (kS_o (hcS n6 (by omega)) (Decidable.not_not.mp h12)), if_neg (n4_ (kS_e (hcS n4 (by omega)) (kS_o (hcS n4 (by omega)) (Decidable.not_not.mp h11))) h13), if_pos (k4_ (kS_e (hcS n6 (by omega)) (kS_o (hcS n6 (by omega)) (Decidable.not_not.mp h12))) (m4_ h14))]
      rw [e_] at k
      dsimp only at k
      exact k _ _ (rC_R hC (by omega)) (mS_R _ _ _))
    (fun n2 h2 e3 n4 h5 e6 n6 h8 e9 h10 h11 h12 => by
      subst e3
      subst e6
      subst e9
      have e_ : F_line s (nI n2) (nI n4) (nI n6) = ((-3), (sM s 1)) := by simp only [F_line, ix_s (n := 12) h2, ix_s (n := 8) h5, ix_s (n := 8) h8, if_neg (kG_o (hcG n2 (by omega)) h10), if_neg (kS_o (hcS n4 (by omega)) (Decidable.not_not.mp h11)), if_pos (kS_m (hcS n6 (by omega)) h12)]
      rw [e_] at k
      dsimp only at k
      exact k _ _ (rC_R hC (by omega)) (mS_R _ _ _))
    (fun n2 h2 e3 n4 h5 e6 h7 => by
      subst e3
      subst e6
      have e_ : F_line s (nI n2) (nI n4) t_ = ((-1), s) := by simp only [F_line, ix_s (n := 12) h2, ix_s (n := 8) h5, (show ix 8 t_ = none from (ix_n1 h7 ln_8))]
      rw [e_] at k
      dsimp only at k
      exact k _ _ hC mS_rf)
theorem M_line {g : ma_G} {I : ma_I} {L : ma_L} {P : ma_P} (hW : wF (ob I L))  (q_ s_ t_ : Int32) (k : ∀ I2 L2, ob I2 L2 = (F_line (ob I L) q_ s_ t_).2 → cS I L I2 L2 → P (some (.int (F_line (ob I L) q_ s_ t_).1)) HS I2 L2 RF 146) : CT g yX8_line cX8_line 10 (some .int) rX8_line [.ref 115, .int q_, .int s_, .int t_] P HS I L RF 146 := by
  exact t_X8_line q_ s_ t_ 
    (fun h1 => by
      have e_ : F_line (ob I L) q_ s_ t_ = ((-1), (ob I L)) := by simp only [F_line, (show ix 12 q_ = none from (ix_n2 h1 li_12))]
      rw [e_] at k
      dsimp only at k
      exact k _ _ rfl cS_rf)
    (fun n2 h2 e3 h4 => by
      subst e3
      have e_ : F_line (ob I L) (nI n2) s_ t_ = ((-1), (ob I L)) := by simp only [F_line, ix_s (n := 12) h2, (show ix 8 s_ = none from (ix_n2 h4 li_8))]
      rw [e_] at k
      dsimp only at k
      exact k _ _ rfl cS_rf)
    (fun n2 h2 e3 n4 h5 e6 n6 h8 e9 h10 => by
      subst e3
      subst e6
      subst e9
      have e_ : F_line (ob I L) (nI n2) (nI n4) (nI n6) = ((-3), (sM (ob I L) 1)) := by simp only [F_line, ix_s (n := 12) h2, ix_s (n := 8) h5, ix_s (n := 8) h8, if_pos (show (ob I L).1 122 n2 = 0 from h10)]
      rw [e_] at k
      dsimp only at k
      exact k _ _ (ob_M _ _ _) (cS_M _ _ _))
    (fun n2 h2 e3 n4 h5 e6 n6 h8 e9 h10 h11 => by
      subst e3
      subst e6
      subst e9
      have e_ : F_line (ob I L) (nI n2) (nI n4) (nI n6) = ((-3), (sM (ob I L) 1)) := by simp only [F_line, ix_s (n := 12) h2, ix_s (n := 8) h5, ix_s (n := 8) h8, if_neg (show ¬ (ob I L).1 122 n2 = 0 from h10), if_pos (show (ob I L).1 117 n4 < 0 from h11)]
      rw [e_] at k
      dsimp only at k
      exact k _ _ (ob_M _ _ _) (cS_M _ _ _))
    (fun n2 h2 e3 n4 h5 e6 n6 h8 e9 h10 h11 h12 h13 => by
      subst e3
      subst e6
      subst e9
      have e_ : F_line (ob I L) (nI n2) (nI n4) (nI n6) = ((-3), (sM (ob I L) 5)) := by simp only [F_line, ix_s (n := 12) h2, ix_s (n := 8) h5, ix_s (n := 8) h8, if_neg (show ¬ (ob I L).1 122 n2 = 0 from h10), if_neg (show ¬ (ob I L).1 117 n4 < 0 from h11), if_neg (kS_w (s := ob I L) h12), if_pos (show (ob I L).1 117 n4 < 4 from h13)]
      rw [e_] at k
      dsimp only at k
      exact k _ _ (ob_M _ _ _) (cS_M _ _ _))
    (fun n2 h2 e3 n4 h5 e6 n6 h8 e9 h10 h11 h12 h13 h14 x15 y16 z17 h18 h19 h20 => by
      subst e3
      subst e6
      subst e9
      have e_ : F_line (ob I L) (nI n2) (nI n4) (nI n6) = ((-3), (sM (ob I L) 4)) := by simp only [F_line, ix_s (n := 12) h2, ix_s (n := 8) h5, ix_s (n := 8) h8, if_neg (show ¬ (ob I L).1 122 n2 = 0 from h10), if_neg (show ¬ (ob I L).1 117 n4 < 0 from h11), if_neg (kS_w (s := ob I L) h12), if_neg (show ¬ (ob I L).1 117 n4 < 4 from h13), if_neg (show ¬ (ob I L).1 117 n6 < 4 from l4_ h14), cIf_p (show (mRg (rw_ (ob I L) n4) 4 100 ∧ mRg (rw_ (ob I L) n6) 4 100) from have q := h18.1.2.mp (h18.1.1.elim (fun z => absurd z h19) id); ⟨fun j hj => (q j hj).1, fun j hj => (q j hj).2⟩), cIf_p (show mZr (rw_ (ob I L) n4) 4 from h18.2.1.2.mp (h18.2.1.1.elim (fun z => absurd z h20) id))]
      rw [e_] at k
      dsimp only at k
      exact k _ _ ((ob_M _ _ _).trans (congrArg (fun z => sM z 4) ((ob_127 _ _ _).trans (ob_126 _ _ _)))) (cS_tr (cS_tr (cS_126 _ _ _) (cS_127 _ _ _)) (cS_M _ _ _)))
    (fun n2 h2 e3 n4 h5 e6 n6 h8 e9 h10 h11 h12 h13 h14 x15 y16 z17 h18 h19 h20 h21 => by
      subst e3
      subst e6
      subst e9
      have e_ : F_line (ob I L) (nI n2) (nI n4) (nI n6) = ((-3), (sM (ob I L) 4)) := by simp only [F_line, ix_s (n := 12) h2, ix_s (n := 8) h5, ix_s (n := 8) h8, if_neg (show ¬ (ob I L).1 122 n2 = 0 from h10), if_neg (show ¬ (ob I L).1 117 n4 < 0 from h11), if_neg (kS_w (s := ob I L) h12), if_neg (show ¬ (ob I L).1 117 n4 < 4 from h13), if_neg (show ¬ (ob I L).1 117 n6 < 4 from l4_ h14), cIf_p (show (mRg (rw_ (ob I L) n4) 4 100 ∧ mRg (rw_ (ob I L) n6) 4 100) from have q := h18.1.2.mp (h18.1.1.elim (fun z => absurd z h19) id); ⟨fun j hj => (q j hj).1, fun j hj => (q j hj).2⟩), cIf_n (show ¬ mZr (rw_ (ob I L) n4) 4 from fun z => absurd (h18.2.1.2.mpr z) (by rw [h20]; decide)), cIf_p (show mZr (rw_ (ob I L) n6) 4 from h18.2.2.2.mp (h18.2.2.1.elim (fun z => absurd z h21) id))]
      rw [e_] at k
      dsimp only at k
      exact k _ _ ((ob_M _ _ _).trans (congrArg (fun z => sM z 4) ((ob_127 _ _ _).trans (ob_126 _ _ _)))) (cS_tr (cS_tr (cS_126 _ _ _) (cS_127 _ _ _)) (cS_M _ _ _)))
    (fun n2 h2 e3 n4 h5 e6 n6 h8 e9 h10 h11 h12 h13 h14 x15 y16 z17 h18 h19 h20 h21 h22 h23 => by
      subst e3
      subst e6
      subst e9
      sorry)
    (fun n2 h2 e3 n4 h5 e6 n6 h8 e9 h10 h11 h12 h13 h14 x15 y16 z17 h18 h19 h20 h21 h22 h23 h24 => by
      subst e3
      subst e6
      subst e9
      sorry)
    (fun n2 h2 e3 n4 h5 e6 n6 h8 e9 h10 h11 h12 h13 h14 x15 y16 z17 h18 h19 h20 h21 h22 h23 h24 h25 => by
      subst e3
      subst e6
      subst e9
      sorry)
    (fun n2 h2 e3 n4 h5 e6 n6 h8 e9 h10 h11 h12 h13 h14 x15 y16 z17 h18 h19 h20 h21 h22 h23 h24 h25 => by
      subst e3
      subst e6
      subst e9
      sorry)
    (fun n2 h2 e3 n4 h5 e6 n6 h8 e9 h10 h11 h12 h13 h14 x15 y16 z17 h18 h19 h20 h21 h22 => by
      subst e3
      subst e6
      subst e9
      sorry)
    (fun n2 h2 e3 n4 h5 e6 n6 h8 e9 h10 h11 h12 h13 h14 x15 y16 z17 h18 h19 => by
      subst e3
      subst e6
      subst e9
      have e_ : F_line (ob I L) (nI n2) (nI n4) (nI n6) = ((-3), (sM (ob I L) 2)) := by simp only [F_line, ix_s (n := 12) h2, ix_s (n := 8) h5, ix_s (n := 8) h8, if_neg (show ¬ (ob I L).1 122 n2 = 0 from h10), if_neg (show ¬ (ob I L).1 117 n4 < 0 from h11), if_neg (kS_w (s := ob I L) h12), if_neg (show ¬ (ob I L).1 117 n4 < 4 from h13), if_neg (show ¬ (ob I L).1 117 n6 < 4 from l4_ h14), cIf_n (show ¬ (mRg (rw_ (ob I L) n4) 4 100 ∧ mRg (rw_ (ob I L) n6) 4 100) from fun z => absurd (h18.1.2.mpr (fun j hj => ⟨z.1 j hj, z.2 j hj⟩)) (by rw [h19]; decide))]
      rw [e_] at k
      dsimp only at k
      exact k _ _ ((ob_M _ _ _).trans (congrArg (fun z => sM z 2) ((ob_127 _ _ _).trans (ob_126 _ _ _)))) (cS_tr (cS_tr (cS_126 _ _ _) (cS_127 _ _ _)) (cS_M _ _ _)))
    (fun n2 h2 e3 n4 h5 e6 n6 h8 e9 h10 h11 h12 h13 h14 => by
      subst e3
      subst e6
      subst e9
      have e_ : F_line (ob I L) (nI n2) (nI n4) (nI n6) = ((-3), (sM (ob I L) 5)) := by simp only [F_line, ix_s (n := 12) h2, ix_s (n := 8) h5, ix_s (n := 8) h8, if_neg (show ¬ (ob I L).1 122 n2 = 0 from h10), if_neg (show ¬ (ob I L).1 117 n4 < 0 from h11), if_neg (kS_w (s := ob I L) h12), if_neg (show ¬ (ob I L).1 117 n4 < 4 from h13), if_pos (show (ob I L).1 117 n6 < 4 from m4_ h14)]
      rw [e_] at k
      dsimp only at k
      exact k _ _ (ob_M _ _ _) (cS_M _ _ _))
    (fun n2 h2 e3 n4 h5 e6 n6 h8 e9 h10 h11 h12 => by
      subst e3
      subst e6
      subst e9
      have e_ : F_line (ob I L) (nI n2) (nI n4) (nI n6) = ((-3), (sM (ob I L) 1)) := by simp only [F_line, ix_s (n := 12) h2, ix_s (n := 8) h5, ix_s (n := 8) h8, if_neg (show ¬ (ob I L).1 122 n2 = 0 from h10), if_neg (show ¬ (ob I L).1 117 n4 < 0 from h11), if_pos (kS_y (s := ob I L) h12)]
      rw [e_] at k
      dsimp only at k
      exact k _ _ (ob_M _ _ _) (cS_M _ _ _))
    (fun n2 h2 e3 n4 h5 e6 h7 => by
      subst e3
      subst e6
      have e_ : F_line (ob I L) (nI n2) (nI n4) t_ = ((-1), (ob I L)) := by simp only [F_line, ix_s (n := 12) h2, ix_s (n := 8) h5, (show ix 8 t_ = none from (ix_n2 h7 li_8))]
      rw [e_] at k
      dsimp only at k
      exact k _ _ rfl cS_rf)
theorem p_line {g : ma_G} {I : ma_I} {L : ma_L} {P1 : ma_P} (hI : INV I L) (a1 a2 a3 : Int32) (k : ∀ (r : Int32) (I1 : ma_I) (L1 : ma_L), (∀ {P2 : ma_P}, (∀ (I2 : ma_I) (L2 : ma_L), INV I2 L2 → P2 (some (.int r)) HS I2 L2 RF 146) → CT g yX8_line cX8_line 10 (some .int) rX8_line [.ref 115, .int a1, .int a2, .int a3] P2 HS I1 L1 RF 146) → P1 (some (.int r)) HS I1 L1 RF 146) : CT g yX7_line cX7_line 12 (some .int) rX7_line [.ref 3, .int a1, .int a2, .int a3] P1 HS I L RF 146 :=
  pair_i (F := F_line (ob I L) a1 a2 a3) hI (W_line hI.1 a1 a2 a3) (fun P kk => C_line hI.1 hI.2 a1 a2 a3 kk) (fun I1 L1 P e kk => M_line (by rw [e]; exact hI.1)  a1 a2 a3 (by rw [e]; exact kk)) k
