theorem ob_126 (I : ma_I) (L : ma_L) (f : Nat → Int32) : ob (mfill I 126 0 4 f) L = ob I L := by unfold ob mfill; rw [oI_x _ rfl (by decide)]
theorem cS_126 (I : ma_I) (L : ma_L) (f : Nat → Int32) : cS I L (mfill I 126 0 4 f) L := cS_up cS_rf (by omega)
/-- a place (or plane) that a sheet tells, with a ground -/
noncomputable def gA (s : sG) (q a : Int32) : (Int32 × sG) ⊕ (Nat × Nat) := match ix 12 q with
  | none => .inl (-1, s)
  | some g => match ix 8 a with
    | none => .inl (-1, s)
    | some x => if s.1 122 g = 0 then .inl (-3, sM s 1) else if s.1 117 x < 0 then .inl (-3, sM s 1) else if s.1 117 x < 4 then .inl (-3, sM s 5) else cIf (mRg (rw_ s x) 4 100) (cIf (mZr (rw_ s x) 4) (.inl (-3, sM s 4)) (.inr (g, x))) (.inl (-3, sM s 2))
theorem gA_w {s : sG} (h : wF s) {q a : Int32} {r : Int32 × sG} (e : gA s q a = .inl r) : wF r.2 := by
  unfold gA at e
  split at e
  · cases e; exact h
  · split at e
    · cases e; exact h
    · rename_i x hx
      split at e
      · cases e; exact wF_M h _
      · split at e
        · cases e; exact wF_M h _
        · split at e
          · cases e; exact wF_M h _
          · by_cases k1 : mRg (rw_ s x) 4 100
            · rw [cIf_p k1] at e
              by_cases k2 : mZr (rw_ s x) 4
              · rw [cIf_p k2] at e; cases e; exact wF_M h _
              · rw [cIf_n k2] at e; cases e
            · rw [cIf_n k1] at e; cases e; exact wF_M h _
theorem gA_b {s : sG} {q a : Int32} {g x : Nat} (e : gA s q a = .inr (g, x)) : g < 12 ∧ x < 8 ∧ mRg (rw_ s x) 4 100 := by
  unfold gA at e
  split at e
  · cases e
  · rename_i g' hg
    split at e
    · cases e
    · rename_i x' hx
      split at e
      · cases e
      · split at e
        · cases e
        · split at e
          · cases e
          · by_cases k1 : mRg (rw_ s x') 4 100
            · rw [cIf_p k1] at e
              by_cases k2 : mZr (rw_ s x') 4
              · rw [cIf_p k2] at e; cases e
              · rw [cIf_n k2] at e; cases e; exact ⟨ix_b hg, ix_b hx, k1⟩
            · rw [cIf_n k1] at e; cases e
theorem k4_ {z z' : Int32} (h : z = z') (q : z < 4) : z' < 4 := h ▸ q
theorem n4_ {z z' : Int32} (h : z = z') (q : ¬ z < 4) : ¬ z' < 4 := h ▸ q
theorem l4_ {z : Int32} (q : 4 ≤ z) : ¬ z < 4 := by rw [nb_le] at q; rw [nb_lt]; omega
theorem m4_ {z : Int32} (q : ¬ 4 ≤ z) : z < 4 := by rw [nb_le] at q; rw [nb_lt]; omega
/-- a table times a place, over the ints -/
def vPn (z p : Nat → Int) (i : Nat) : Int := (((0 + (z (4 * i + 0)) * (p 0)) + (z (4 * i + 1)) * (p 1)) + (z (4 * i + 2)) * (p 2)) + (z (4 * i + 3)) * (p 3)
def vPr (z u v : Nat → Int) : Int := (((0 + (u 0) * (vPn z v 0)) + (u 1) * (vPn z v 1)) + (u 2) * (vPn z v 2)) + (u 3) * (vPn z v 3)
def tz (s : sG) (g : Nat) : Nat → Int := fun j => (s.1 123 (16 * g + j)).toInt
def pz (v : Nat → Int32) : Nat → Int := fun j => (v j).toInt
theorem o32 (x : Int32) : x = Int32.ofInt x.toInt := (Int32.ofInt_toInt x).symm
theorem mTan_o (T v : Nat → Int32) (q i : Nat) : mTan T v q i = Int32.ofInt (vPn (fun j => (T (16 * q + j)).toInt) (pz v) i) := by
  simp only [mTan, vPn, pz, Int32.ofInt_add, Int32.ofInt_mul, Int32.ofInt_toInt, Nat.add_assoc]
  rfl
theorem mBo_o (T u v : Nat → Int32) (q : Nat) : mBo T u v q = Int32.ofInt (vPr (fun j => (T (16 * q + j)).toInt) (pz u) (pz v)) := by
  unfold mBo vPr
  rw [mTan_o, mTan_o, mTan_o, mTan_o]
  simp only [pz, Int32.ofInt_add, Int32.ofInt_mul, Int32.ofInt_toInt]
  rfl
theorem cPn_o {t v : Nat → Int64} {z p : Nat → Int} (ht : ∀ j, j < 16 → t j = Int64.ofInt (z j)) (hv : ∀ j, j < 4 → v j = Int64.ofInt (p j)) {i : Nat} (hi : i < 4) : cPn t v i = Int64.ofInt (vPn z p i) := by
  unfold cPn vPn
  rw [ht _ (by omega), ht _ (by omega), ht _ (by omega), ht _ (by omega), hv 0 (by omega), hv 1 (by omega), hv 2 (by omega), hv 3 (by omega)]
  simp only [Int64.ofInt_add, Int64.ofInt_mul]
  rfl
theorem cPr_o {t u v : Nat → Int64} {z p r : Nat → Int} (ht : ∀ j, j < 16 → t j = Int64.ofInt (z j)) (hu : ∀ j, j < 4 → u j = Int64.ofInt (p j)) (hv : ∀ j, j < 4 → v j = Int64.ofInt (r j)) : cPr t u v = Int64.ofInt (vPr z p r) := by
  unfold cPr vPr
  rw [cPn_o ht hv (by omega), cPn_o ht hv (by omega), cPn_o ht hv (by omega), cPn_o ht hv (by omega), hu 0 (by omega), hu 1 (by omega), hu 2 (by omega), hu 3 (by omega)]
  simp only [Int64.ofInt_add, Int64.ofInt_mul]
  rfl
theorem up4 {f0 : Nat → Int64} (v : Nat → Int64) : ∀ j, j < 4 → ma_up (ma_up (ma_up (ma_up f0 0 (v 0)) 1 (v 1)) 2 (v 2)) 3 (v 3) j = v j := fun j hj => by
  match j, hj with
  | 0, _ => rfl
  | 1, _ => rfl
  | 2, _ => rfl
  | 3, _ => rfl
theorem vPn_c {z z' p p' : Nat → Int} (hz : ∀ j, j < 16 → z j = z' j) (hp : ∀ j, j < 4 → p j = p' j) {i : Nat} (hi : i < 4) : vPn z p i = vPn z' p' i := by
  unfold vPn
  rw [hz _ (by omega), hz _ (by omega), hz _ (by omega), hz _ (by omega), hp 0 (by omega), hp 1 (by omega), hp 2 (by omega), hp 3 (by omega)]
theorem vPr_c {z z' p p' r r' : Nat → Int} (hz : ∀ j, j < 16 → z j = z' j) (hp : ∀ j, j < 4 → p j = p' j) (hr : ∀ j, j < 4 → r j = r' j) : vPr z p r = vPr z' p' r' := by
  unfold vPr
  rw [vPn_c hz hr (by omega), vPn_c hz hr (by omega), vPn_c hz hr (by omega), vPn_c hz hr (by omega), hp 0 (by omega), hp 1 (by omega), hp 2 (by omega), hp 3 (by omega)]
theorem pz_126 (I : ma_I) (L : ma_L) (x : Nat) : ∀ j, j < 4 → pz ((mfill I 126 0 4 (fun k => I 118 (16 * x + k))) 126) j = pz (rw_ (ob I L) x) j := fun j hj => by
  unfold pz rw_
  rw [mfill_at, if_pos (by omega), Nat.sub_zero]; rfl
theorem tz_126 (I : ma_I) (L : ma_L) (g : Nat) (f : Nat → Int32) : ∀ j, j < 16 → ((mfill I 126 0 4 f) 123 (16 * g + j)).toInt = tz (ob I L) g j := fun j _ => by
  rw [mfill_n _ _ _ _ (by decide)]; rfl
theorem l2i_o (v : Int) : Int64.toInt32 (Int64.ofInt v) = Int32.ofInt v := by simp
def sVal (s : sG) (g : Nat) (u v : Nat → Int32) : Int := vPr (tz s g) (pz u) (pz v)
noncomputable def F_value (s : sG) (q a : Int32) : Int32 × sG := match gA s q a with
  | .inl r => r
  | .inr (g, x) => (1, sA s (Int32.ofInt (sVal s g (rw_ s x) (rw_ s x))))
theorem W_value {s : sG} (h : wF s) (a1 a2 : Int32) : wF (F_value s a1 a2).2 := by
  unfold F_value
  split
  · rename_i e; exact gA_w h e
  · exact wF_A h _
theorem C_value {g : ma_G} {I : ma_I} {L : ma_L} {P : ma_P} {s : sG} (hW : wF s) (hC : rC s I L) (q_ s_ : Int32) (k : ∀ I1 L1, rC (F_value s q_ s_).2 I1 L1 → mS I L I1 L1 → P (some (.int (F_value s q_ s_).1)) HS I1 L1 RF 146) : CT g yX7_value cX7_value 4 (some .int) rX7_value [.ref 3, .int q_, .int s_] P HS I L RF 146 := by
  obtain ⟨hcM, hcN, hcF, hcK, hcT, hcS, hcG⟩ := id hC
  exact t_X7_value q_ s_ 
    (fun h1 => by
      have e_ : F_value s q_ s_ = ((-1), s) := by simp only [F_value, (show ix 12 q_ = none from (ix_n1 h1 ln_12)), gA]
      rw [e_] at k
      dsimp only at k
      exact k _ _ hC mS_rf)
    (fun j2 h2 e3 j5 h5 e6 h7 => by
      subst e3
      subst e6
      have e_ : F_value s (nI j2) (nI j5) = ((-3), (sM s 1)) := by simp only [F_value, ix_s (n := 12) h2, ix_s (n := 8) h5, gA, if_pos (kG_m (hcG j2 (by omega)) h7)]
      rw [e_] at k
      dsimp only at k
      exact k _ _ (rC_R hC (by omega)) (mS_R _ _ _))
    (fun j9 h2 e3 j12 h5 e6 h7 h8 h9 => by
      subst e3
      subst e6
      have e_ : F_value s (nI j9) (nI j12) = ((-3), (sM s 5)) := by simp only [F_value, ix_s (n := 12) h2, ix_s (n := 8) h5, gA, if_neg (kG_o (hcG j9 (by omega)) h7), if_neg (kS_o (hcS j12 (by omega)) (Decidable.not_not.mp h8)), if_pos (k4_ (kS_e (hcS j12 (by omega)) (kS_o (hcS j12 (by omega)) (Decidable.not_not.mp h8))) h9)]
      rw [e_] at k
      dsimp only at k
      exact k _ _ (rC_R hC (by omega)) (mS_R _ _ _))
    (fun j18 h2 e3 j21 h5 e6 h7 h8 h9 h10 h11 h12 h13 h14 => by
      subst e3
      subst e6
      have hp_ : ∀ j, j < 4 → Int32.toInt64 (I (40 + 2 * j21) j) = Int64.ofInt (pz (rw_ s j21) j) := fun j hj => by rw [kS_r (hcS j21 (by omega)) (kS_o (hcS j21 (by omega)) (Decidable.not_not.mp h8)) j (by omega)]; exact i2l_o _
      have ht_ : ∀ j, j < 16 → L (57 + 5 * j18) j = Int64.ofInt (tz s j18 j) := fun j hj => ((hcG j18 (by omega)).2.1 j hj).trans (i2l_o _)
      have e_ : F_value s (nI j18) (nI j21) = (1, (sA s (Int32.ofInt (sVal s j18 (rw_ s j21) (rw_ s j21))))) := by simp only [F_value, ix_s (n := 12) h2, ix_s (n := 8) h5, gA, if_neg (kG_o (hcG j18 (by omega)) h7), if_neg (kS_o (hcS j21 (by omega)) (Decidable.not_not.mp h8)), if_neg (n4_ (kS_e (hcS j21 (by omega)) (kS_o (hcS j21 (by omega)) (Decidable.not_not.mp h8))) h9), cIf_p ((mRg_c (f := I (40 + 2 * j21)) (f' := rw_ s j21) (n := 4) (w := 100) (fun j hj => kS_r (hcS j21 (by omega)) (kS_o (hcS j21 (by omega)) (Decidable.not_not.mp h8)) j (by omega))).mp h11), cIf_n (fun z => h13 ((mZr_c (f := I (40 + 2 * j21)) (f' := rw_ s j21) (n := 4) (fun j hj => kS_r (hcS j21 (by omega)) (kS_o (hcS j21 (by omega)) (Decidable.not_not.mp h8)) j (by omega))).mpr z))]
      rw [e_] at k
      dsimp only at k
      exact k _ _ (rC_x (rC_A hC ((congrArg Int64.toInt32 (cPr_o (z := tz s j18) (p := pz (rw_ s j21)) (r := pz (rw_ s j21)) (fun j hj => by rw [ma_up_n _ _ (by omega), ma_up_n _ _ (by omega)]; exact ht_ j hj) (fun j hj => (up4 (fun j => Int32.toInt64 (I (40 + 2 * j21) j)) j hj).trans (hp_ j hj)) (fun j hj => (up4 (fun j => Int32.toInt64 (I (40 + 2 * j21) j)) j hj).trans (hp_ j hj)))).trans (l2i_o _))) (fun _ _ => rfl) (fun a ha => by rw [ma_up_n _ _ (by omega), ma_up_n _ _ (by omega)])) (mS_ul (mS_ul (mS_up mS_rf (by omega)) (by omega)) (by omega)))
    (fun j32 h2 e3 j35 h5 e6 h7 h8 h9 h10 h11 h12 h13 h14 => by
      subst e3
      subst e6
      exact absurd h14 h13)
    (fun j46 h2 e3 j49 h5 e6 h7 h8 h9 h10 h11 h12 h13 => by
      subst e3
      subst e6
      have e_ : F_value s (nI j46) (nI j49) = ((-3), (sM s 4)) := by simp only [F_value, ix_s (n := 12) h2, ix_s (n := 8) h5, gA, if_neg (kG_o (hcG j46 (by omega)) h7), if_neg (kS_o (hcS j49 (by omega)) (Decidable.not_not.mp h8)), if_neg (n4_ (kS_e (hcS j49 (by omega)) (kS_o (hcS j49 (by omega)) (Decidable.not_not.mp h8))) h9), cIf_p ((mRg_c (f := I (40 + 2 * j49)) (f' := rw_ s j49) (n := 4) (w := 100) (fun j hj => kS_r (hcS j49 (by omega)) (kS_o (hcS j49 (by omega)) (Decidable.not_not.mp h8)) j (by omega))).mp h11), cIf_p ((mZr_c (f := I (40 + 2 * j49)) (f' := rw_ s j49) (n := 4) (fun j hj => kS_r (hcS j49 (by omega)) (kS_o (hcS j49 (by omega)) (Decidable.not_not.mp h8)) j (by omega))).mp h13)]
      rw [e_] at k
      dsimp only at k
      exact k _ _ (rC_R hC (by omega)) (mS_R _ _ _))
    (fun j59 h2 e3 j62 h5 e6 h7 h8 h9 h10 h11 h12 => by
      subst e3
      subst e6
      exact absurd h11 h12)
    (fun j71 h2 e3 j74 h5 e6 h7 h8 h9 h10 h11 => by
      subst e3
      subst e6
      have e_ : F_value s (nI j71) (nI j74) = ((-3), (sM s 2)) := by simp only [F_value, ix_s (n := 12) h2, ix_s (n := 8) h5, gA, if_neg (kG_o (hcG j71 (by omega)) h7), if_neg (kS_o (hcS j74 (by omega)) (Decidable.not_not.mp h8)), if_neg (n4_ (kS_e (hcS j74 (by omega)) (kS_o (hcS j74 (by omega)) (Decidable.not_not.mp h8))) h9), cIf_n (fun z => h11 ((mRg_c (f := I (40 + 2 * j74)) (f' := rw_ s j74) (n := 4) (w := 100) (fun j hj => kS_r (hcS j74 (by omega)) (kS_o (hcS j74 (by omega)) (Decidable.not_not.mp h8)) j (by omega))).mpr z))]
      rw [e_] at k
      dsimp only at k
      exact k _ _ (rC_R hC (by omega)) (mS_R _ _ _))
    (fun j82 h2 e3 j85 h5 e6 h7 h8 h9 h10 => by
      subst e3
      subst e6
      exact absurd (m4_ h10) h9)
    (fun j92 h2 e3 j95 h5 e6 h7 h8 => by
      subst e3
      subst e6
      have e_ : F_value s (nI j92) (nI j95) = ((-3), (sM s 1)) := by simp only [F_value, ix_s (n := 12) h2, ix_s (n := 8) h5, gA, if_neg (kG_o (hcG j92 (by omega)) h7), if_pos (kS_m (hcS j95 (by omega)) h8)]
      rw [e_] at k
      dsimp only at k
      exact k _ _ (rC_R hC (by omega)) (mS_R _ _ _))
    (fun j100 h2 e3 h4 => by
      subst e3
      have e_ : F_value s (nI j100) s_ = ((-1), s) := by simp only [F_value, ix_s (n := 12) h2, (show ix 8 s_ = none from (ix_n1 h4 ln_8)), gA]
      rw [e_] at k
      dsimp only at k
      exact k _ _ hC mS_rf)
theorem M_value {g : ma_G} {I : ma_I} {L : ma_L} {P : ma_P} (hW : wF (ob I L))  (q_ s_ : Int32) (k : ∀ I2 L2, ob I2 L2 = (F_value (ob I L) q_ s_).2 → cS I L I2 L2 → P (some (.int (F_value (ob I L) q_ s_).1)) HS I2 L2 RF 146) : CT g yX8_value cX8_value 4 (some .int) rX8_value [.ref 115, .int q_, .int s_] P HS I L RF 146 := by
  exact t_X8_value q_ s_ 
    (fun h1 => by
      have e_ : F_value (ob I L) q_ s_ = ((-1), (ob I L)) := by simp only [F_value, (show ix 12 q_ = none from (ix_n2 h1 li_12)), gA]
      rw [e_] at k
      dsimp only at k
      exact k _ _ rfl cS_rf)
    (fun j2 h2 e3 j5 h5 e6 h7 => by
      subst e3
      subst e6
      have e_ : F_value (ob I L) (nI j2) (nI j5) = ((-3), (sM (ob I L) 1)) := by simp only [F_value, ix_s (n := 12) h2, ix_s (n := 8) h5, gA, if_pos (show (ob I L).1 122 j2 = 0 from h7)]
      rw [e_] at k
      dsimp only at k
      exact k _ _ (ob_M _ _ _) (cS_M _ _ _))
    (fun j9 h2 e3 j12 h5 e6 h7 h8 h9 j18 j19 h12 h13 h14 => by
      subst e3
      subst e6
      have e_ : F_value (ob I L) (nI j9) (nI j12) = (1, (sA (ob I L) (Int32.ofInt (sVal (ob I L) j9 (rw_ (ob I L) j12) (rw_ (ob I L) j12))))) := by simp only [F_value, ix_s (n := 12) h2, ix_s (n := 8) h5, gA, if_neg (show ¬ (ob I L).1 122 j9 = 0 from h7), if_neg (kS_w (s := ob I L) h8), if_neg (show ¬ (ob I L).1 117 j12 < 4 from l4_ h9), cIf_p (show mRg (rw_ (ob I L) j12) 4 100 from h12.1.2.mp (h12.1.1.elim (fun z => absurd z h13) id)), cIf_n (show ¬ mZr (rw_ (ob I L) j12) 4 from fun z => absurd (h12.2.2.mpr z) (by rw [h14]; decide))]
      rw [e_] at k
      dsimp only at k
      exact k _ _ (by rw [ob_A, ob_126, mBo_o, vPr_c (tz_126 I L j9 _) (pz_126 I L j12) (pz_126 I L j12)]; rfl) (cS_up (cS_126 _ _ _) (by omega)))
    (fun j23 h2 e3 j26 h5 e6 h7 h8 h9 j32 j33 h12 h13 h14 => by
      subst e3
      subst e6
      have e_ : F_value (ob I L) (nI j23) (nI j26) = ((-3), (sM (ob I L) 4)) := by simp only [F_value, ix_s (n := 12) h2, ix_s (n := 8) h5, gA, if_neg (show ¬ (ob I L).1 122 j23 = 0 from h7), if_neg (kS_w (s := ob I L) h8), if_neg (show ¬ (ob I L).1 117 j26 < 4 from l4_ h9), cIf_p (show mRg (rw_ (ob I L) j26) 4 100 from h12.1.2.mp (h12.1.1.elim (fun z => absurd z h13) id)), cIf_p (show mZr (rw_ (ob I L) j26) 4 from h12.2.2.mp (h12.2.1.elim (fun z => absurd z h14) id))]
      rw [e_] at k
      dsimp only at k
      exact k _ _ ((ob_M _ _ _).trans (congrArg (fun z => sM z 4) (ob_126 _ _ _))) (cS_tr (cS_126 _ _ _) (cS_M _ _ _)))
    (fun j37 h2 e3 j40 h5 e6 h7 h8 h9 j46 j47 h12 h13 => by
      subst e3
      subst e6
      have e_ : F_value (ob I L) (nI j37) (nI j40) = ((-3), (sM (ob I L) 2)) := by simp only [F_value, ix_s (n := 12) h2, ix_s (n := 8) h5, gA, if_neg (show ¬ (ob I L).1 122 j37 = 0 from h7), if_neg (kS_w (s := ob I L) h8), if_neg (show ¬ (ob I L).1 117 j40 < 4 from l4_ h9), cIf_n (show ¬ mRg (rw_ (ob I L) j40) 4 100 from fun z => absurd (h12.1.2.mpr z) (by rw [h13]; decide))]
      rw [e_] at k
      dsimp only at k
      exact k _ _ ((ob_M _ _ _).trans (congrArg (fun z => sM z 2) (ob_126 _ _ _))) (cS_tr (cS_126 _ _ _) (cS_M _ _ _)))
    (fun j50 h2 e3 j53 h5 e6 h7 h8 h9 => by
      subst e3
      subst e6
      have e_ : F_value (ob I L) (nI j50) (nI j53) = ((-3), (sM (ob I L) 5)) := by simp only [F_value, ix_s (n := 12) h2, ix_s (n := 8) h5, gA, if_neg (show ¬ (ob I L).1 122 j50 = 0 from h7), if_neg (kS_w (s := ob I L) h8), if_pos (show (ob I L).1 117 j53 < 4 from m4_ h9)]
      rw [e_] at k
      dsimp only at k
      exact k _ _ (ob_M _ _ _) (cS_M _ _ _))
    (fun j59 h2 e3 j62 h5 e6 h7 h8 => by
      subst e3
      subst e6
      have e_ : F_value (ob I L) (nI j59) (nI j62) = ((-3), (sM (ob I L) 1)) := by simp only [F_value, ix_s (n := 12) h2, ix_s (n := 8) h5, gA, if_neg (show ¬ (ob I L).1 122 j59 = 0 from h7), if_pos (kS_y (s := ob I L) h8)]
      rw [e_] at k
      dsimp only at k
      exact k _ _ (ob_M _ _ _) (cS_M _ _ _))
    (fun j67 h2 e3 h4 => by
      subst e3
      have e_ : F_value (ob I L) (nI j67) s_ = ((-1), (ob I L)) := by simp only [F_value, ix_s (n := 12) h2, (show ix 8 s_ = none from (ix_n2 h4 li_8)), gA]
      rw [e_] at k
      dsimp only at k
      exact k _ _ rfl cS_rf)
theorem p_value {g : ma_G} {I : ma_I} {L : ma_L} {P1 : ma_P} (hI : INV I L) (a1 a2 : Int32) (k : ∀ (r : Int32) (I1 : ma_I) (L1 : ma_L), (∀ {P2 : ma_P}, (∀ (I2 : ma_I) (L2 : ma_L), INV I2 L2 → P2 (some (.int r)) HS I2 L2 RF 146) → CT g yX8_value cX8_value 4 (some .int) rX8_value [.ref 115, .int a1, .int a2] P2 HS I1 L1 RF 146) → P1 (some (.int r)) HS I1 L1 RF 146) : CT g yX7_value cX7_value 4 (some .int) rX7_value [.ref 3, .int a1, .int a2] P1 HS I L RF 146 :=
  pair_i (F := F_value (ob I L) a1 a2) hI (W_value hI.1 a1 a2) (fun P kk => C_value hI.1 hI.2 a1 a2 kk) (fun I1 L1 P e kk => M_value (by rw [e]; exact hI.1)  a1 a2 (by rw [e]; exact kk)) k
