theorem mFc_16 (t : Nat → Int64) (k : Nat) : mFc t k = mFc (fun j => if j < 16 then t j else 0) k := by
  match k with
  | 0 => rfl
  | 1 => rfl
  | 2 => rfl
  | 3 => rfl
  | 4 => rfl
  | 5 => rfl
  | 6 => rfl
  | 7 => rfl
  | 8 => rfl
  | k + 9 => rfl
theorem mFc_c {t t' : Nat → Int64} (h : ∀ j, j < 16 → t j = t' j) (k : Nat) : mFc t k = mFc t' k := by
  rw [mFc_16 t, mFc_16 t']
  congr 1
  funext j
  by_cases q : j < 16
  · rw [if_pos q, if_pos q, h j q]
  · rw [if_neg q, if_neg q]
/-- one ground changes -/
theorem rC_gr {s t : sG} {I J : ma_I} {L K : ma_L} (h : rC s I L) {g : Nat} (e2 : t.2 = s.2) (e1 : ∀ a, a ≠ 122 → a ≠ 123 → a ≠ 124 → t.1 a = s.1 a) (e3 : ∀ y, y ≠ g → t.1 122 y = s.1 122 y) (e4 : ∀ y j, y ≠ g → j < 16 → t.1 123 (16 * y + j) = s.1 123 (16 * y + j)) (e5 : ∀ y j, y ≠ g → j < 10 → t.1 124 (10 * y + j) = s.1 124 (10 * y + j))
    (hJ : ∀ a, a = 3 ∨ a = 38 ∨ a = 36 ∨ a = 37 ∨ a = 32 ∨ a = 33 ∨ a = 27 ∨ a = 28 ∨ (39 ≤ a ∧ a < 55) ∨ (55 ≤ a ∧ a < 55 + 5 * g) ∨ (60 + 5 * g ≤ a ∧ a < 115) → J a = I a) (hK : ∀ a, a = 3 ∨ (55 ≤ a ∧ a < 55 + 5 * g) ∨ (60 + 5 * g ≤ a ∧ a < 115) → K a = L a) (hs : rcG t J K g) : rC t J K := by
  obtain ⟨r1, r2, r3, r4, r5, r6, r7⟩ := h
  unfold rcM at r1; unfold rcN at r2; unfold rcF at r3; unfold rcK at r4; unfold rcT at r5
  refine ⟨?_, ?_, ?_, ?_, ?_, fun y hy => ?_, fun y hy => ?_⟩
  · unfold rcM; rw [hJ 3 (by omega), hJ 38 (by omega), hK 3 (by omega), e1 115 (by decide) (by decide) (by decide), e1 116 (by decide) (by decide) (by decide), e2]; exact r1
  · unfold rcN; rw [hJ 3 (by omega), hJ 36 (by omega), e1 115 (by decide) (by decide) (by decide), e1 128 (by decide) (by decide) (by decide)]; exact r2
  · unfold rcF; rw [hJ 3 (by omega), hJ 37 (by omega), e1 115 (by decide) (by decide) (by decide), e2]; exact r3
  · unfold rcK; rw [hJ 32 (by omega), hJ 33 (by omega), e1 115 (by decide) (by decide) (by decide), e1 148 (by decide) (by decide) (by decide)]; exact r4
  · unfold rcT; rw [hJ 27 (by omega), hJ 28 (by omega)]; exact r5
  · have := r6 y hy; unfold rcS at this ⊢; rw [hJ (39 + 2 * y) (by omega), hJ (40 + 2 * y) (by omega), e1 117 (by decide) (by decide) (by decide), e1 118 (by decide) (by decide) (by decide)]; exact this
  · by_cases e : y = g
    · subst e; exact hs
    · have := r7 y hy
      unfold rcG tb at this ⊢
      rw [hJ (55 + 5 * y) (by omega), hJ (59 + 5 * y) (by omega), hK (57 + 5 * y) (by omega), e3 y e]
      exact ⟨this.1, fun j hj => by rw [e4 y j e hj]; exact this.2.1 j hj, fun k hk => by rw [e5 y k e hk]; exact this.2.2 k hk⟩
theorem wF_gr {s t : sG} (h : wF s) {g : Nat} (e1 : ∀ a, a = 117 ∨ a = 118 → t.1 a = s.1 a) (e3 : ∀ y, y ≠ g → t.1 122 y = s.1 122 y) (e4 : ∀ y j, y ≠ g → j < 16 → t.1 123 (16 * y + j) = s.1 123 (16 * y + j)) (e5 : ∀ y j, y ≠ g → j < 10 → t.1 124 (10 * y + j) = s.1 124 (10 * y + j)) (hT : wfT t g) (hG : wfG t g) : wF t := by
  have q1 := e1 117 (by omega); have q2 := e1 118 (by omega)
  obtain ⟨h1, h2, h3⟩ := h
  refine ⟨fun y hy => ?_, fun y hy => ?_, fun y hy => ?_⟩
  · have := h1 y hy; unfold wfS at this ⊢; rw [q1, q2]; exact this
  · by_cases e : y = g
    · subst e; exact hT
    · have := h2 y hy
      exact ⟨fun j hj => by rw [e4 y j e hj]; exact this.1 j hj, fun i j hi hj => by rw [e4 y _ e (by omega), e4 y _ e (by omega)]; exact this.2 i j hi hj⟩
  · by_cases e : y = g
    · subst e; exact hG
    · have := h3 y hy
      have et : ∀ j, j < 16 → tb t y j = tb s y j := fun j hj => by unfold tb; rw [e4 y j e hj]
      unfold wfG at this ⊢
      rw [e3 y e]
      refine ⟨this.1, this.2.elim (fun q => Or.inl ⟨q.1, fun k hk => by rw [e5 y k e hk]; exact q.2 k hk⟩) (fun q => Or.inr (fun k hk => by rw [e5 y k e hk, mFc_c et k]; exact q k hk))⟩
def sDr (s : sG) (g : Nat) : sG := (ma_up s.1 122 (ma_up (s.1 122) g 0), s.2)
theorem sDr_r {s : sG} {g a : Nat} (h : a ≠ 122) : (sDr s g).1 a = s.1 a := ma_up_n _ _ h
theorem sDr_2 (s : sG) (g : Nat) : (sDr s g).1 122 = ma_up (s.1 122) g 0 := rfl
theorem ob_dr (I : ma_I) (L : ma_L) (g : Nat) : ob (ma_up I 122 (ma_up (I 122) g 0)) L = sDr (ob I L) g := by
  unfold ob sDr
  rw [oI_up _ rfl]
  rfl
theorem rC_dr {s : sG} {I : ma_I} {L : ma_L} (h : rC s I L) {g : Nat} (hg : g < 12) : rC (sDr s g) (ma_up I (55 + 5 * g) (ma_up (I (55 + 5 * g)) 0 0)) L := by
  refine rC_gr (g := g) h rfl (fun a q _ _ => sDr_r q) (fun y hy => by rw [sDr_2, ma_up_n _ _ hy]) (fun y j _ _ => by rw [sDr_r (by decide)]) (fun y j _ _ => by rw [sDr_r (by decide)]) (fun a q => ma_up_n _ _ (by omega)) (fun a _ => rfl) ⟨?_, fun j hj => ?_, fun k hk => ?_⟩
  · rw [sDr_2, ma_up_s, ma_up_s, ma_up_s]
  · have := (h.2.2.2.2.2.2 g hg).2.1 j hj
    unfold tb at this ⊢
    rw [sDr_r (by decide)]; exact this
  · rw [sDr_r (by decide), ma_up_n _ _ (by omega)]; exact (h.2.2.2.2.2.2 g hg).2.2 k hk
theorem wF_dr {s : sG} (h : wF s) {g : Nat} (hg : g < 12) : wF (sDr s g) := by
  refine wF_gr (g := g) h (fun a q => sDr_r (by omega)) (fun y hy => by rw [sDr_2, ma_up_n _ _ hy]) (fun y j _ _ => by rw [sDr_r (by decide)]) (fun y j _ _ => by rw [sDr_r (by decide)]) ?_ ?_
  · have := h.2.1 g hg; unfold wfT at this ⊢; rw [sDr_r (by decide)]; exact this
  · have := (h.2.2 g hg).2
    refine ⟨Or.inl (by rw [sDr_2, ma_up_s]), this.elim (fun q => Or.inl ⟨by rw [sDr_2, ma_up_s], fun k hk => by rw [sDr_r (by decide)]; exact q.2 k hk⟩) (fun q => Or.inr (fun k hk => ?_))⟩
    have := q k hk
    unfold tb at this ⊢
    rw [sDr_r (by decide), sDr_r (by decide)]
    exact this
def F_drop (s : sG) (a : Int32) : Int32 × sG := match gG s a with
  | .inl r => r
  | .inr g => (1, sDr s g)
theorem W_drop {s : sG} (h : wF s) (a1 : Int32) : wF (F_drop s a1).2 := by
  unfold F_drop
  split
  · rename_i e; exact gG_w h e
  · rename_i e; exact wF_dr h (gG_b e)
theorem C_drop {g : ma_G} {I : ma_I} {L : ma_L} {P : ma_P} {s : sG} (hW : wF s) (hC : rC s I L) (q_ : Int32) (k : ∀ I1 L1, rC (F_drop s q_).2 I1 L1 → mS I L I1 L1 → P (some (.int (F_drop s q_).1)) HS I1 L1 RF 146) : CT g yX7_drop cX7_drop 3 (some .int) rX7_drop [.ref 3, .int q_] P HS I L RF 146 := by
  obtain ⟨hcM, hcN, hcF, hcK, hcT, hcS, hcG⟩ := id hC
  exact t_X7_drop q_ 
    (fun h1 => by
      have e_ : F_drop s q_ = ((-1), s) := by simp only [F_drop, gG_n (s := s) (ix_n1 h1 ln_12)]
      rw [e_] at k
      dsimp only at k
      exact k _ _ hC mS_rf)
    (fun j2 h2 e3 h4 h5 => by
      subst e3
      have e_ : F_drop s (nI j2) = ((-3), (sM s 1)) := by simp only [F_drop, gG_m (s := s) h4 (kG_m (hcG j2 (by omega)) h5)]
      rw [e_] at k
      dsimp only at k
      exact k _ _ (rC_R hC (by omega)) (mS_R _ _ _))
    (fun j7 h2 e3 h4 h5 h6 => by
      subst e3
      have e_ : F_drop s (nI j7) = (1, (sDr s j7)) := by simp only [F_drop, gG_o (s := s) h4 (kG_o (hcG j7 (by omega)) h6)]
      rw [e_] at k
      dsimp only at k
      exact k _ _ (rC_dr hC (by omega)) (mS_up mS_rf (by omega)))
    (fun j13 h2 e3 h4 h5 h6 => by
      subst e3
      exact absurd h6 h5)
    (fun j19 h2 e3 h4 => by
      subst e3
      exact absurd h4 (ix_c1 rfl h2 ln_12))
theorem M_drop {g : ma_G} {I : ma_I} {L : ma_L} {P : ma_P} (hW : wF (ob I L))  (q_ : Int32) (k : ∀ I2 L2, ob I2 L2 = (F_drop (ob I L) q_).2 → cS I L I2 L2 → P (some (.int (F_drop (ob I L) q_).1)) HS I2 L2 RF 146) : CT g yX8_drop cX8_drop 3 (some .int) rX8_drop [.ref 115, .int q_] P HS I L RF 146 := by
  exact t_X8_drop q_ 
    (fun j1 h2 e3 h4 => by
      subst e3
      have e_ : F_drop (ob I L) (nI j1) = ((-3), (sM (ob I L) 1)) := by simp only [F_drop, gG_m (s := (ob I L)) h2 (show (ob I L).1 122 j1 = 0 from h4)]
      rw [e_] at k
      dsimp only at k
      exact k _ _ (ob_M _ _ _) (cS_M _ _ _))
    (fun j5 h2 e3 h4 => by
      subst e3
      have e_ : F_drop (ob I L) (nI j5) = (1, (sDr (ob I L) j5)) := by simp only [F_drop, gG_o (s := (ob I L)) h2 (show ¬ (ob I L).1 122 j5 = 0 from h4)]
      rw [e_] at k
      dsimp only at k
      exact k _ _ (ob_dr _ _ _) (cS_up cS_rf (by omega)))
    (fun h1 => by
      have e_ : F_drop (ob I L) q_ = ((-1), (ob I L)) := by simp only [F_drop, gG_n (s := (ob I L)) (ix_n2 h1 li_12)]
      rw [e_] at k
      dsimp only at k
      exact k _ _ rfl cS_rf)
theorem p_drop {g : ma_G} {I : ma_I} {L : ma_L} {P1 : ma_P} (hI : INV I L) (a1 : Int32) (k : ∀ (r : Int32) (I1 : ma_I) (L1 : ma_L), (∀ {P2 : ma_P}, (∀ (I2 : ma_I) (L2 : ma_L), INV I2 L2 → P2 (some (.int r)) HS I2 L2 RF 146) → CT g yX8_drop cX8_drop 3 (some .int) rX8_drop [.ref 115, .int a1] P2 HS I1 L1 RF 146) → P1 (some (.int r)) HS I1 L1 RF 146) : CT g yX7_drop cX7_drop 3 (some .int) rX7_drop [.ref 3, .int a1] P1 HS I L RF 146 :=
  pair_i (F := F_drop (ob I L) a1) hI (W_drop hI.1 a1) (fun P kk => C_drop hI.1 hI.2 a1 kk) (fun I1 L1 P e kk => M_drop (by rw [e]; exact hI.1)  a1 (by rw [e]; exact kk)) k
def F_alike (s : sG) (q r : Int32) : Int32 × sG := match gP s q r with
  | .inl x => x
  | .inr (j, i) => (if s.1 124 (10 * j + 9) = s.1 124 (10 * i + 9) then 1 else 0, s)
theorem W_alike {s : sG} (h : wF s) (a1 a2 : Int32) : wF (F_alike s a1 a2).2 := by
  unfold F_alike
  split
  · rename_i e; exact gP_w h e
  · exact h
def F_same (s : sG) (q r : Int32) : Int32 × sG := match gP s q r with
  | .inl x => x
  | .inr (j, i) => (if (s.1 124 (10 * j + 1) = s.1 124 (10 * i + 1) ∧ s.1 124 (10 * j + 2) = s.1 124 (10 * i + 2)) ∨ (s.1 124 (10 * j + 1) = s.1 124 (10 * i + 2) ∧ s.1 124 (10 * j + 2) = s.1 124 (10 * i + 1)) then 1 else 0, s)
theorem W_same {s : sG} (h : wF s) (a1 a2 : Int32) : wF (F_same s a1 a2).2 := by
  unfold F_same
  split
  · rename_i e; exact gP_w h e
  · exact h
theorem C_alike {g : ma_G} {I : ma_I} {L : ma_L} {P : ma_P} {s : sG} (hW : wF s) (hC : rC s I L) (q_ r_ : Int32) (k : ∀ I1 L1, rC (F_alike s q_ r_).2 I1 L1 → mS I L I1 L1 → P (some (.int (F_alike s q_ r_).1)) HS I1 L1 RF 146) : CT g yX7_alike cX7_alike 4 (some .int) rX7_alike [.ref 3, .int q_, .int r_] P HS I L RF 146 := by
  obtain ⟨hcM, hcN, hcF, hcK, hcT, hcS, hcG⟩ := id hC
  exact t_X7_alike q_ r_ 
    (fun h1 => by
      have e_ : F_alike s q_ r_ = ((-1), s) := by simp only [F_alike, gP_n (s := s) (ix_n1 h1 ln_12)]
      rw [e_] at k
      dsimp only at k
      exact k _ _ hC mS_rf)
    (fun j2 h2 e3 j5 h5 e6 h7 => by
      subst e3
      subst e6
      have e_ : F_alike s (nI j2) (nI j5) = ((-3), (sM s 1)) := by simp only [F_alike, gP_m (s := s) h2 h5 (kG_m (hcG j2 (by omega)) h7)]
      rw [e_] at k
      dsimp only at k
      exact k _ _ (rC_R hC (by omega)) (mS_R _ _ _))
    (fun j9 h2 e3 j12 h5 e6 h7 h8 h9 => by
      subst e3
      subst e6
      have c_ := h9
      rw [(kG_f (hcG j9 (by omega)) h7 (k := 9) (by omega)), (kG_f (hcG j12 (by omega)) h8 (k := 9) (by omega))] at c_
      have e_ : F_alike s (nI j9) (nI j12) = (0, s) := by simp only [F_alike, gP_o (s := s) h2 h5 (kG_o (hcG j9 (by omega)) h7) (kG_o (hcG j12 (by omega)) h8), if_neg c_]
      rw [e_] at k
      dsimp only at k
      exact k _ _ hC mS_rf)
    (fun j9 h2 e3 j12 h5 e6 h7 h8 h9 => by
      subst e3
      subst e6
      have c_ := h9
      rw [(kG_f (hcG j9 (by omega)) h7 (k := 9) (by omega)), (kG_f (hcG j12 (by omega)) h8 (k := 9) (by omega))] at c_
      have e_ : F_alike s (nI j9) (nI j12) = (1, s) := by simp only [F_alike, gP_o (s := s) h2 h5 (kG_o (hcG j9 (by omega)) h7) (kG_o (hcG j12 (by omega)) h8), if_pos c_]
      rw [e_] at k
      dsimp only at k
      exact k _ _ hC mS_rf)
    (fun j17 h2 e3 j20 h5 e6 h7 h8 => by
      subst e3
      subst e6
      have e_ : F_alike s (nI j17) (nI j20) = ((-3), (sM s 1)) := by simp only [F_alike, gP_m2 (s := s) h2 h5 (kG_o (hcG j17 (by omega)) h7) (kG_m (hcG j20 (by omega)) h8)]
      rw [e_] at k
      dsimp only at k
      exact k _ _ (rC_R hC (by omega)) (mS_R _ _ _))
    (fun j25 h2 e3 h4 => by
      subst e3
      have e_ : F_alike s (nI j25) r_ = ((-1), s) := by simp only [F_alike, gP_n2 (s := s) h2 (ix_n1 h4 ln_12)]
      rw [e_] at k
      dsimp only at k
      exact k _ _ hC mS_rf)
theorem M_alike {g : ma_G} {I : ma_I} {L : ma_L} {P : ma_P} (hW : wF (ob I L))  (q_ r_ : Int32) (k : ∀ I2 L2, ob I2 L2 = (F_alike (ob I L) q_ r_).2 → cS I L I2 L2 → P (some (.int (F_alike (ob I L) q_ r_).1)) HS I2 L2 RF 146) : CT g yX8_alike cX8_alike 4 (some .int) rX8_alike [.ref 115, .int q_, .int r_] P HS I L RF 146 := by
  exact t_X8_alike q_ r_ 
    (fun h1 => by
      have e_ : F_alike (ob I L) q_ r_ = ((-1), (ob I L)) := by simp only [F_alike, gP_n (s := (ob I L)) (ix_n2 h1 li_12)]
      rw [e_] at k
      dsimp only at k
      exact k _ _ rfl cS_rf)
    (fun j2 h2 e3 j5 h5 e6 h7 => by
      subst e3
      subst e6
      have e_ : F_alike (ob I L) (nI j2) (nI j5) = ((-3), (sM (ob I L) 1)) := by simp only [F_alike, gP_m (s := (ob I L)) h2 h5 (show (ob I L).1 122 j2 = 0 from h7)]
      rw [e_] at k
      dsimp only at k
      exact k _ _ (ob_M _ _ _) (cS_M _ _ _))
    (fun j9 h2 e3 j12 h5 e6 h7 h8 => by
      subst e3
      subst e6
      have e_ : F_alike (ob I L) (nI j9) (nI j12) = ((-3), (sM (ob I L) 1)) := by simp only [F_alike, gP_m2 (s := (ob I L)) h2 h5 (show ¬ (ob I L).1 122 j9 = 0 from h7) (show (ob I L).1 122 j12 = 0 from h8)]
      rw [e_] at k
      dsimp only at k
      exact k _ _ (ob_M _ _ _) (cS_M _ _ _))
    (fun j17 h2 e3 j20 h5 e6 h7 h8 => by
      subst e3
      subst e6
      have e_ : F_alike (ob I L) (nI j17) (nI j20) = ((if (ob I L).1 124 (10 * j17 + 9) = (ob I L).1 124 (10 * j20 + 9) then 1 else 0), (ob I L)) := by simp only [F_alike, gP_o (s := (ob I L)) h2 h5 (show ¬ (ob I L).1 122 j17 = 0 from h7) (show ¬ (ob I L).1 122 j20 = 0 from h8)]
      rw [e_] at k
      dsimp only at k
      exact k _ _ rfl cS_rf)
    (fun j25 h2 e3 h4 => by
      subst e3
      have e_ : F_alike (ob I L) (nI j25) r_ = ((-1), (ob I L)) := by simp only [F_alike, gP_n2 (s := (ob I L)) h2 (ix_n2 h4 li_12)]
      rw [e_] at k
      dsimp only at k
      exact k _ _ rfl cS_rf)
theorem p_alike {g : ma_G} {I : ma_I} {L : ma_L} {P1 : ma_P} (hI : INV I L) (a1 a2 : Int32) (k : ∀ (r : Int32) (I1 : ma_I) (L1 : ma_L), (∀ {P2 : ma_P}, (∀ (I2 : ma_I) (L2 : ma_L), INV I2 L2 → P2 (some (.int r)) HS I2 L2 RF 146) → CT g yX8_alike cX8_alike 4 (some .int) rX8_alike [.ref 115, .int a1, .int a2] P2 HS I1 L1 RF 146) → P1 (some (.int r)) HS I1 L1 RF 146) : CT g yX7_alike cX7_alike 4 (some .int) rX7_alike [.ref 3, .int a1, .int a2] P1 HS I L RF 146 :=
  pair_i (F := F_alike (ob I L) a1 a2) hI (W_alike hI.1 a1 a2) (fun P kk => C_alike hI.1 hI.2 a1 a2 kk) (fun I1 L1 P e kk => M_alike (by rw [e]; exact hI.1)  a1 a2 (by rw [e]; exact kk)) k
theorem C_same {g : ma_G} {I : ma_I} {L : ma_L} {P : ma_P} {s : sG} (hW : wF s) (hC : rC s I L) (q_ r_ : Int32) (k : ∀ I1 L1, rC (F_same s q_ r_).2 I1 L1 → mS I L I1 L1 → P (some (.int (F_same s q_ r_).1)) HS I1 L1 RF 146) : CT g yX7_same cX7_same 8 (some .int) rX7_same [.ref 3, .int q_, .int r_] P HS I L RF 146 := by
  obtain ⟨hcM, hcN, hcF, hcK, hcT, hcS, hcG⟩ := id hC
  exact t_X7_same q_ r_ 
    (fun h1 => by
      have e_ : F_same s q_ r_ = ((-1), s) := by simp only [F_same, gP_n (s := s) (ix_n1 h1 ln_12)]
      rw [e_] at k
      dsimp only at k
      exact k _ _ hC mS_rf)
    (fun j2 h2 e3 j5 h5 e6 h7 => by
      subst e3
      subst e6
      have e_ : F_same s (nI j2) (nI j5) = ((-3), (sM s 1)) := by simp only [F_same, gP_m (s := s) h2 h5 (kG_m (hcG j2 (by omega)) h7)]
      rw [e_] at k
      dsimp only at k
      exact k _ _ (rC_R hC (by omega)) (mS_R _ _ _))
    (fun j9 h2 e3 j12 h5 e6 h7 h8 h9 h10 => by
      subst e3
      subst e6
      have x11 := (kG_f (hcG j9 (by omega)) h7 (k := 1) (by omega))
      have x12 := (kG_f (hcG j9 (by omega)) h7 (k := 2) (by omega))
      have x21 := (kG_f (hcG j12 (by omega)) h8 (k := 1) (by omega))
      have x22 := (kG_f (hcG j12 (by omega)) h8 (k := 2) (by omega))
      have e_ : F_same s (nI j9) (nI j12) = (0, s) := by simp only [F_same, gP_o (s := s) h2 h5 (kG_o (hcG j9 (by omega)) h7) (kG_o (hcG j12 (by omega)) h8)]; rw [← x11, ← x12, ← x21, ← x22]; grind
      rw [e_] at k
      dsimp only at k
      exact k _ _ hC mS_rf)
    (fun j9 h2 e3 j12 h5 e6 h7 h8 h9 h10 h11 => by
      subst e3
      subst e6
      have x11 := (kG_f (hcG j9 (by omega)) h7 (k := 1) (by omega))
      have x12 := (kG_f (hcG j9 (by omega)) h7 (k := 2) (by omega))
      have x21 := (kG_f (hcG j12 (by omega)) h8 (k := 1) (by omega))
      have x22 := (kG_f (hcG j12 (by omega)) h8 (k := 2) (by omega))
      have e_ : F_same s (nI j9) (nI j12) = (0, s) := by simp only [F_same, gP_o (s := s) h2 h5 (kG_o (hcG j9 (by omega)) h7) (kG_o (hcG j12 (by omega)) h8)]; rw [← x11, ← x12, ← x21, ← x22]; grind
      rw [e_] at k
      dsimp only at k
      exact k _ _ hC mS_rf)
    (fun j9 h2 e3 j12 h5 e6 h7 h8 h9 h10 h11 => by
      subst e3
      subst e6
      have x11 := (kG_f (hcG j9 (by omega)) h7 (k := 1) (by omega))
      have x12 := (kG_f (hcG j9 (by omega)) h7 (k := 2) (by omega))
      have x21 := (kG_f (hcG j12 (by omega)) h8 (k := 1) (by omega))
      have x22 := (kG_f (hcG j12 (by omega)) h8 (k := 2) (by omega))
      have e_ : F_same s (nI j9) (nI j12) = (1, s) := by simp only [F_same, gP_o (s := s) h2 h5 (kG_o (hcG j9 (by omega)) h7) (kG_o (hcG j12 (by omega)) h8)]; rw [← x11, ← x12, ← x21, ← x22]; grind
      rw [e_] at k
      dsimp only at k
      exact k _ _ hC mS_rf)
    (fun j9 h2 e3 j12 h5 e6 h7 h8 h9 h10 h11 => by
      subst e3
      subst e6
      have x11 := (kG_f (hcG j9 (by omega)) h7 (k := 1) (by omega))
      have x12 := (kG_f (hcG j9 (by omega)) h7 (k := 2) (by omega))
      have x21 := (kG_f (hcG j12 (by omega)) h8 (k := 1) (by omega))
      have x22 := (kG_f (hcG j12 (by omega)) h8 (k := 2) (by omega))
      have e_ : F_same s (nI j9) (nI j12) = (0, s) := by simp only [F_same, gP_o (s := s) h2 h5 (kG_o (hcG j9 (by omega)) h7) (kG_o (hcG j12 (by omega)) h8)]; rw [← x11, ← x12, ← x21, ← x22]; grind
      rw [e_] at k
      dsimp only at k
      exact k _ _ hC mS_rf)
    (fun j9 h2 e3 j12 h5 e6 h7 h8 h9 h10 h11 h12 => by
      subst e3
      subst e6
      have x11 := (kG_f (hcG j9 (by omega)) h7 (k := 1) (by omega))
      have x12 := (kG_f (hcG j9 (by omega)) h7 (k := 2) (by omega))
      have x21 := (kG_f (hcG j12 (by omega)) h8 (k := 1) (by omega))
      have x22 := (kG_f (hcG j12 (by omega)) h8 (k := 2) (by omega))
      have e_ : F_same s (nI j9) (nI j12) = (0, s) := by simp only [F_same, gP_o (s := s) h2 h5 (kG_o (hcG j9 (by omega)) h7) (kG_o (hcG j12 (by omega)) h8)]; rw [← x11, ← x12, ← x21, ← x22]; grind
      rw [e_] at k
      dsimp only at k
      exact k _ _ hC mS_rf)
    (fun j9 h2 e3 j12 h5 e6 h7 h8 h9 h10 h11 h12 => by
      subst e3
      subst e6
      have x11 := (kG_f (hcG j9 (by omega)) h7 (k := 1) (by omega))
      have x12 := (kG_f (hcG j9 (by omega)) h7 (k := 2) (by omega))
      have x21 := (kG_f (hcG j12 (by omega)) h8 (k := 1) (by omega))
      have x22 := (kG_f (hcG j12 (by omega)) h8 (k := 2) (by omega))
      have e_ : F_same s (nI j9) (nI j12) = (1, s) := by simp only [F_same, gP_o (s := s) h2 h5 (kG_o (hcG j9 (by omega)) h7) (kG_o (hcG j12 (by omega)) h8)]; rw [← x11, ← x12, ← x21, ← x22]; grind
      rw [e_] at k
      dsimp only at k
      exact k _ _ hC mS_rf)
    (fun j9 h2 e3 j12 h5 e6 h7 h8 h9 h10 h11 => by
      subst e3
      subst e6
      have x11 := (kG_f (hcG j9 (by omega)) h7 (k := 1) (by omega))
      have x12 := (kG_f (hcG j9 (by omega)) h7 (k := 2) (by omega))
      have x21 := (kG_f (hcG j12 (by omega)) h8 (k := 1) (by omega))
      have x22 := (kG_f (hcG j12 (by omega)) h8 (k := 2) (by omega))
      have e_ : F_same s (nI j9) (nI j12) = (1, s) := by simp only [F_same, gP_o (s := s) h2 h5 (kG_o (hcG j9 (by omega)) h7) (kG_o (hcG j12 (by omega)) h8)]; rw [← x11, ← x12, ← x21, ← x22]; grind
      rw [e_] at k
      dsimp only at k
      exact k _ _ hC mS_rf)
    (fun j9 h2 e3 j12 h5 e6 h7 h8 h9 h10 h11 h12 => by
      subst e3
      subst e6
      have x11 := (kG_f (hcG j9 (by omega)) h7 (k := 1) (by omega))
      have x12 := (kG_f (hcG j9 (by omega)) h7 (k := 2) (by omega))
      have x21 := (kG_f (hcG j12 (by omega)) h8 (k := 1) (by omega))
      have x22 := (kG_f (hcG j12 (by omega)) h8 (k := 2) (by omega))
      have e_ : F_same s (nI j9) (nI j12) = (1, s) := by simp only [F_same, gP_o (s := s) h2 h5 (kG_o (hcG j9 (by omega)) h7) (kG_o (hcG j12 (by omega)) h8)]; rw [← x11, ← x12, ← x21, ← x22]; grind
      rw [e_] at k
      dsimp only at k
      exact k _ _ hC mS_rf)
    (fun j9 h2 e3 j12 h5 e6 h7 h8 h9 h10 h11 h12 => by
      subst e3
      subst e6
      have x11 := (kG_f (hcG j9 (by omega)) h7 (k := 1) (by omega))
      have x12 := (kG_f (hcG j9 (by omega)) h7 (k := 2) (by omega))
      have x21 := (kG_f (hcG j12 (by omega)) h8 (k := 1) (by omega))
      have x22 := (kG_f (hcG j12 (by omega)) h8 (k := 2) (by omega))
      have e_ : F_same s (nI j9) (nI j12) = (1, s) := by simp only [F_same, gP_o (s := s) h2 h5 (kG_o (hcG j9 (by omega)) h7) (kG_o (hcG j12 (by omega)) h8)]; rw [← x11, ← x12, ← x21, ← x22]; grind
      rw [e_] at k
      dsimp only at k
      exact k _ _ hC mS_rf)
    (fun j17 h2 e3 j20 h5 e6 h7 h8 => by
      subst e3
      subst e6
      have e_ : F_same s (nI j17) (nI j20) = ((-3), (sM s 1)) := by simp only [F_same, gP_m2 (s := s) h2 h5 (kG_o (hcG j17 (by omega)) h7) (kG_m (hcG j20 (by omega)) h8)]
      rw [e_] at k
      dsimp only at k
      exact k _ _ (rC_R hC (by omega)) (mS_R _ _ _))
    (fun j25 h2 e3 h4 => by
      subst e3
      have e_ : F_same s (nI j25) r_ = ((-1), s) := by simp only [F_same, gP_n2 (s := s) h2 (ix_n1 h4 ln_12)]
      rw [e_] at k
      dsimp only at k
      exact k _ _ hC mS_rf)
theorem M_same {g : ma_G} {I : ma_I} {L : ma_L} {P : ma_P} (hW : wF (ob I L))  (q_ r_ : Int32) (k : ∀ I2 L2, ob I2 L2 = (F_same (ob I L) q_ r_).2 → cS I L I2 L2 → P (some (.int (F_same (ob I L) q_ r_).1)) HS I2 L2 RF 146) : CT g yX8_same cX8_same 8 (some .int) rX8_same [.ref 115, .int q_, .int r_] P HS I L RF 146 := by
  exact t_X8_same q_ r_ 
    (fun h1 => by
      have e_ : F_same (ob I L) q_ r_ = ((-1), (ob I L)) := by simp only [F_same, gP_n (s := (ob I L)) (ix_n2 h1 li_12)]
      rw [e_] at k
      dsimp only at k
      exact k _ _ rfl cS_rf)
    (fun j2 h2 e3 j5 h5 e6 h7 => by
      subst e3
      subst e6
      have e_ : F_same (ob I L) (nI j2) (nI j5) = ((-3), (sM (ob I L) 1)) := by simp only [F_same, gP_m (s := (ob I L)) h2 h5 (show (ob I L).1 122 j2 = 0 from h7)]
      rw [e_] at k
      dsimp only at k
      exact k _ _ (ob_M _ _ _) (cS_M _ _ _))
    (fun j9 h2 e3 j12 h5 e6 h7 h8 => by
      subst e3
      subst e6
      have e_ : F_same (ob I L) (nI j9) (nI j12) = ((-3), (sM (ob I L) 1)) := by simp only [F_same, gP_m2 (s := (ob I L)) h2 h5 (show ¬ (ob I L).1 122 j9 = 0 from h7) (show (ob I L).1 122 j12 = 0 from h8)]
      rw [e_] at k
      dsimp only at k
      exact k _ _ (ob_M _ _ _) (cS_M _ _ _))
    (fun j17 h2 e3 j20 h5 e6 h7 h8 => by
      subst e3
      subst e6
      have e_ := k _ _ (show ob I L = _ from by simp only [F_same, gP_o (s := (ob I L)) h2 h5 (show ¬ (ob I L).1 122 j17 = 0 from h7) (show ¬ (ob I L).1 122 j20 = 0 from h8)]) cS_rf
      simp only [F_same, gP_o (s := (ob I L)) h2 h5 (show ¬ (ob I L).1 122 j17 = 0 from h7) (show ¬ (ob I L).1 122 j20 = 0 from h8)] at e_
      refine cast (congrArg (fun v => P (some (.int v)) HS I L RF 146) ?_) e_
      show (if ((I 124 (10 * j17 + 1) = I 124 (10 * j20 + 1)) ∧ (I 124 (10 * j17 + 2) = I 124 (10 * j20 + 2))) ∨ ((I 124 (10 * j17 + 1) = I 124 (10 * j20 + 2)) ∧ (I 124 (10 * j17 + 2) = I 124 (10 * j20 + 1))) then (1 : Int32) else 0) = _
      grind)
    (fun j25 h2 e3 h4 => by
      subst e3
      have e_ : F_same (ob I L) (nI j25) r_ = ((-1), (ob I L)) := by simp only [F_same, gP_n2 (s := (ob I L)) h2 (ix_n2 h4 li_12)]
      rw [e_] at k
      dsimp only at k
      exact k _ _ rfl cS_rf)
theorem p_same {g : ma_G} {I : ma_I} {L : ma_L} {P1 : ma_P} (hI : INV I L) (a1 a2 : Int32) (k : ∀ (r : Int32) (I1 : ma_I) (L1 : ma_L), (∀ {P2 : ma_P}, (∀ (I2 : ma_I) (L2 : ma_L), INV I2 L2 → P2 (some (.int r)) HS I2 L2 RF 146) → CT g yX8_same cX8_same 8 (some .int) rX8_same [.ref 115, .int a1, .int a2] P2 HS I1 L1 RF 146) → P1 (some (.int r)) HS I1 L1 RF 146) : CT g yX7_same cX7_same 8 (some .int) rX7_same [.ref 3, .int a1, .int a2] P1 HS I L RF 146 :=
  pair_i (F := F_same (ob I L) a1 a2) hI (W_same hI.1 a1 a2) (fun P kk => C_same hI.1 hI.2 a1 a2 kk) (fun I1 L1 P e kk => M_same (by rw [e]; exact hI.1)  a1 a2 (by rw [e]; exact kk)) k
