theorem gG_w {s : sG} (h : wF s) {a : Int32} {x : Int32 × sG} (e : gG s a = .inl x) : wF x.2 := by
  unfold gG at e
  split at e
  · cases e; exact h
  · split at e
    · cases e; exact wF_M h 1
    · cases e
theorem gS_w {s : sG} (h : wF s) {a : Int32} {x : Int32 × sG} (e : gS s a = .inl x) : wF x.2 := by
  unfold gS at e
  split at e
  · cases e; exact h
  · split at e
    · cases e; exact wF_M h 1
    · cases e
theorem gP_w {s : sG} (h : wF s) {a b : Int32} {x : Int32 × sG} (e : gP s a b = .inl x) : wF x.2 := by
  unfold gP at e
  split at e
  · cases e; exact h
  · split at e
    · cases e; exact h
    · split at e
      · cases e; exact wF_M h 1
      · split at e
        · cases e; exact wF_M h 1
        · cases e
theorem gG_b {s : sG} {a : Int32} {x : Nat} (e : gG s a = .inr x) : x < 12 := by
  unfold gG at e
  split at e
  · cases e
  · rename_i y hy
    split at e
    · cases e
    · cases e
      unfold ix at hy
      split at hy
      · cases hy; omega
      · cases hy
theorem gS_b {s : sG} {a : Int32} {x : Nat} (e : gS s a = .inr x) : x < 8 ∧ ¬ s.1 117 x < 0 := by
  unfold gS at e
  split at e
  · cases e
  · rename_i y hy
    split at e
    · cases e
    · rename_i h
      cases e
      unfold ix at hy
      split at hy
      · cases hy; exact ⟨by omega, h⟩
      · cases hy
theorem ix_b {n : Nat} {a : Int32} {x : Nat} (e : ix n a = some x) : x < n := by
  unfold ix at e
  split at e
  · cases e; omega
  · cases e
def F_asked (s : sG) : Int32 × sG := (s.1 115 2, s)
theorem W_asked {s : sG} (h : wF s) : wF (F_asked s).2 := h
theorem C_asked {g : ma_G} {I : ma_I} {L : ma_L} {P : ma_P} {s : sG} (hW : wF s) (hC : rC s I L) (k : ∀ I1 L1, rC (F_asked s ).2 I1 L1 → mS I L I1 L1 → P (some (.int (F_asked s ).1)) HS I1 L1 RF 146) : CT g yX7_asked cX7_asked 1 (some .int) rX7_asked [.ref 3] P HS I L RF 146 := by
  obtain ⟨hcM, hcN, hcF, hcK, hcT, hcS, hcG⟩ := id hC
  exact t_X7_asked  
    (by
      have h_ := hcM.1
      unfold F_asked at k
      dsimp only at k
      rw [← h_] at k
      exact k _ _ hC mS_rf)
theorem M_asked {g : ma_G} {I : ma_I} {L : ma_L} {P : ma_P} (hW : wF (ob I L))  (k : ∀ I2 L2, ob I2 L2 = (F_asked (ob I L) ).2 → cS I L I2 L2 → P (some (.int (F_asked (ob I L) ).1)) HS I2 L2 RF 146) : CT g yX8_asked cX8_asked 1 (some .int) rX8_asked [.ref 115] P HS I L RF 146 := by
  exact t_X8_asked  
    (by
      exact k _ _ rfl cS_rf)
theorem p_asked {g : ma_G} {I : ma_I} {L : ma_L} {P1 : ma_P} (hI : INV I L) (k : ∀ (r : Int32) (I1 : ma_I) (L1 : ma_L), (∀ {P2 : ma_P}, (∀ (I2 : ma_I) (L2 : ma_L), INV I2 L2 → P2 (some (.int r)) HS I2 L2 RF 146) → CT g yX8_asked cX8_asked 1 (some .int) rX8_asked [.ref 115] P2 HS I1 L1 RF 146) → P1 (some (.int r)) HS I1 L1 RF 146) : CT g yX7_asked cX7_asked 1 (some .int) rX7_asked [.ref 3] P1 HS I L RF 146 :=
  pair_i (F := F_asked (ob I L) ) hI (W_asked hI.1 ) (fun P kk => C_asked hI.1 hI.2  kk) (fun I1 L1 P e kk => M_asked (by rw [e]; exact hI.1)   (by rw [e]; exact kk)) k
def F_finding (s : sG) : Int32 × sG := (s.1 115 0, s)
theorem W_finding {s : sG} (h : wF s) : wF (F_finding s).2 := h
theorem C_finding {g : ma_G} {I : ma_I} {L : ma_L} {P : ma_P} {s : sG} (hW : wF s) (hC : rC s I L) (k : ∀ I1 L1, rC (F_finding s ).2 I1 L1 → mS I L I1 L1 → P (some (.int (F_finding s ).1)) HS I1 L1 RF 146) : CT g yX7_finding cX7_finding 1 (some .int) rX7_finding [.ref 3] P HS I L RF 146 := by
  obtain ⟨hcM, hcN, hcF, hcK, hcT, hcS, hcG⟩ := id hC
  exact t_X7_finding  
    (by
      have h_ := hcM.2.2.2.1
      unfold F_finding at k
      dsimp only at k
      rw [← h_] at k
      exact k _ _ hC mS_rf)
theorem M_finding {g : ma_G} {I : ma_I} {L : ma_L} {P : ma_P} (hW : wF (ob I L))  (k : ∀ I2 L2, ob I2 L2 = (F_finding (ob I L) ).2 → cS I L I2 L2 → P (some (.int (F_finding (ob I L) ).1)) HS I2 L2 RF 146) : CT g yX8_finding cX8_finding 1 (some .int) rX8_finding [.ref 115] P HS I L RF 146 := by
  exact t_X8_finding  
    (by
      exact k _ _ rfl cS_rf)
theorem p_finding {g : ma_G} {I : ma_I} {L : ma_L} {P1 : ma_P} (hI : INV I L) (k : ∀ (r : Int32) (I1 : ma_I) (L1 : ma_L), (∀ {P2 : ma_P}, (∀ (I2 : ma_I) (L2 : ma_L), INV I2 L2 → P2 (some (.int r)) HS I2 L2 RF 146) → CT g yX8_finding cX8_finding 1 (some .int) rX8_finding [.ref 115] P2 HS I1 L1 RF 146) → P1 (some (.int r)) HS I1 L1 RF 146) : CT g yX7_finding cX7_finding 1 (some .int) rX7_finding [.ref 3] P1 HS I L RF 146 :=
  pair_i (F := F_finding (ob I L) ) hI (W_finding hI.1 ) (fun P kk => C_finding hI.1 hI.2  kk) (fun I1 L1 P e kk => M_finding (by rw [e]; exact hI.1)   (by rw [e]; exact kk)) k
def F_upper (s : sG) : Int64 × sG := (s.2 115 3, s)
theorem W_upper {s : sG} (h : wF s) : wF (F_upper s).2 := h
theorem C_upper {g : ma_G} {I : ma_I} {L : ma_L} {P : ma_P} {s : sG} (hW : wF s) (hC : rC s I L) (k : ∀ I1 L1, rC (F_upper s ).2 I1 L1 → mS I L I1 L1 → P (some (.long (F_upper s ).1)) HS I1 L1 RF 146) : CT g yX7_upper cX7_upper 1 (some .long) rX7_upper [.ref 3] P HS I L RF 146 := by
  obtain ⟨hcM, hcN, hcF, hcK, hcT, hcS, hcG⟩ := id hC
  exact t_X7_upper  
    (by
      have h_ := hcM.2.1
      unfold F_upper at k
      dsimp only at k
      rw [← h_] at k
      exact k _ _ hC mS_rf)
theorem M_upper {g : ma_G} {I : ma_I} {L : ma_L} {P : ma_P} (hW : wF (ob I L))  (k : ∀ I2 L2, ob I2 L2 = (F_upper (ob I L) ).2 → cS I L I2 L2 → P (some (.long (F_upper (ob I L) ).1)) HS I2 L2 RF 146) : CT g yX8_upper cX8_upper 1 (some .long) rX8_upper [.ref 115] P HS I L RF 146 := by
  exact t_X8_upper  
    (by
      exact k _ _ rfl cS_rf)
theorem p_upper {g : ma_G} {I : ma_I} {L : ma_L} {P1 : ma_P} (hI : INV I L) (k : ∀ (r : Int64) (I1 : ma_I) (L1 : ma_L), (∀ {P2 : ma_P}, (∀ (I2 : ma_I) (L2 : ma_L), INV I2 L2 → P2 (some (.long r)) HS I2 L2 RF 146) → CT g yX8_upper cX8_upper 1 (some .long) rX8_upper [.ref 115] P2 HS I1 L1 RF 146) → P1 (some (.long r)) HS I1 L1 RF 146) : CT g yX7_upper cX7_upper 1 (some .long) rX7_upper [.ref 3] P1 HS I L RF 146 :=
  pair_l (F := F_upper (ob I L) ) hI (W_upper hI.1 ) (fun P kk => C_upper hI.1 hI.2  kk) (fun I1 L1 P e kk => M_upper (by rw [e]; exact hI.1)   (by rw [e]; exact kk)) k
def F_lower (s : sG) : Int64 × sG := (s.2 115 4, s)
theorem W_lower {s : sG} (h : wF s) : wF (F_lower s).2 := h
theorem C_lower {g : ma_G} {I : ma_I} {L : ma_L} {P : ma_P} {s : sG} (hW : wF s) (hC : rC s I L) (k : ∀ I1 L1, rC (F_lower s ).2 I1 L1 → mS I L I1 L1 → P (some (.long (F_lower s ).1)) HS I1 L1 RF 146) : CT g yX7_lower cX7_lower 1 (some .long) rX7_lower [.ref 3] P HS I L RF 146 := by
  obtain ⟨hcM, hcN, hcF, hcK, hcT, hcS, hcG⟩ := id hC
  exact t_X7_lower  
    (by
      have h_ := hcM.2.2.1
      unfold F_lower at k
      dsimp only at k
      rw [← h_] at k
      exact k _ _ hC mS_rf)
theorem M_lower {g : ma_G} {I : ma_I} {L : ma_L} {P : ma_P} (hW : wF (ob I L))  (k : ∀ I2 L2, ob I2 L2 = (F_lower (ob I L) ).2 → cS I L I2 L2 → P (some (.long (F_lower (ob I L) ).1)) HS I2 L2 RF 146) : CT g yX8_lower cX8_lower 1 (some .long) rX8_lower [.ref 115] P HS I L RF 146 := by
  exact t_X8_lower  
    (by
      exact k _ _ rfl cS_rf)
theorem p_lower {g : ma_G} {I : ma_I} {L : ma_L} {P1 : ma_P} (hI : INV I L) (k : ∀ (r : Int64) (I1 : ma_I) (L1 : ma_L), (∀ {P2 : ma_P}, (∀ (I2 : ma_I) (L2 : ma_L), INV I2 L2 → P2 (some (.long r)) HS I2 L2 RF 146) → CT g yX8_lower cX8_lower 1 (some .long) rX8_lower [.ref 115] P2 HS I1 L1 RF 146) → P1 (some (.long r)) HS I1 L1 RF 146) : CT g yX7_lower cX7_lower 1 (some .long) rX7_lower [.ref 3] P1 HS I L RF 146 :=
  pair_l (F := F_lower (ob I L) ) hI (W_lower hI.1 ) (fun P kk => C_lower hI.1 hI.2  kk) (fun I1 L1 P e kk => M_lower (by rw [e]; exact hI.1)   (by rw [e]; exact kk)) k
def F_table (s : sG) (q i j : Int32) : Int32 × sG := match ix 4 i with
  | none => (-1, s)
  | some x => match ix 4 j with
    | none => (-1, s)
    | some y => match gG s q with
      | .inl r => r
      | .inr g => (1, sA s (s.1 123 (16 * g + (4 * x + y))))
theorem W_table {s : sG} (h : wF s) (a1 a2 a3 : Int32) : wF (F_table s a1 a2 a3).2 := by
  unfold F_table
  repeat' split
  all_goals with_reducible first | exact h | exact wF_M h _ | exact wF_A h _ | exact gG_w h (by assumption) | exact gS_w h (by assumption) | exact gP_w h (by assumption)
theorem C_table {g : ma_G} {I : ma_I} {L : ma_L} {P : ma_P} {s : sG} (hW : wF s) (hC : rC s I L) (q_ i_ j_ : Int32) (k : ∀ I1 L1, rC (F_table s q_ i_ j_).2 I1 L1 → mS I L I1 L1 → P (some (.int (F_table s q_ i_ j_).1)) HS I1 L1 RF 146) : CT g yX7_table cX7_table 5 (some .int) rX7_table [.ref 3, .int q_, .int i_, .int j_] P HS I L RF 146 := by
  obtain ⟨hcM, hcN, hcF, hcK, hcT, hcS, hcG⟩ := id hC
  exact t_X7_table q_ i_ j_ 
    (fun h1 => by
      have e_ : F_table s q_ i_ j_ = ((-1), s) := by simp only [F_table, (show ix 4 i_ = none from (ix_n1 h1 ln_4))]
      rw [e_] at k
      dsimp only at k
      exact k _ _ hC mS_rf)
    (fun n2 h2 e3 n4 h5 e6 h7 => by
      subst e3
      subst e6
      have e_ : F_table s q_ (nI n2) (nI n4) = ((-1), s) := by simp only [F_table, ix_s (n := 4) h2, ix_s (n := 4) h5, gG_n (s := s) (ix_n1 h7 ln_12)]
      rw [e_] at k
      dsimp only at k
      exact k _ _ hC mS_rf)
    (fun n2 h2 e3 n4 h5 e6 j6 h8 e9 h10 h11 => by
      subst e3
      subst e6
      subst e9
      have e_ : F_table s (nI j6) (nI n2) (nI n4) = ((-3), (sM s 1)) := by simp only [F_table, ix_s (n := 4) h2, ix_s (n := 4) h5, gG_m (s := s) h10 (kG_m (hcG j6 (by omega)) h11)]
      rw [e_] at k
      dsimp only at k
      exact k _ _ (rC_R hC (by omega)) (mS_R _ _ _))
    (fun n2 h2 e3 n4 h5 e6 j11 h8 e9 h10 h11 h12 => by
      subst e3
      subst e6
      subst e9
      have e_ : F_table s (nI j11) (nI n2) (nI n4) = (1, (sA s (s.1 123 (16 * j11 + (4 * n2 + n4))))) := by simp only [F_table, ix_s (n := 4) h2, ix_s (n := 4) h5, gG_o (s := s) h10 (kG_o (hcG j11 (by omega)) h12)]
      rw [e_] at k
      dsimp only at k
      exact k _ _ (rC_A hC (by rw [(hcG j11 (by omega)).2.1 _ (by omega)]; exact Int32.toInt32_toInt64 _)) (mS_up mS_rf (by omega)))
    (fun n2 h2 e3 n4 h5 e6 j17 h8 e9 h10 h11 h12 => by
      subst e3
      subst e6
      subst e9
      exact absurd h12 h11)
    (fun n2 h2 e3 n4 h5 e6 j23 h8 e9 h10 => by
      subst e3
      subst e6
      subst e9
      exact absurd h10 (ix_c1 rfl h8 ln_12))
    (fun n2 h2 e3 h4 => by
      subst e3
      have e_ : F_table s q_ (nI n2) j_ = ((-1), s) := by simp only [F_table, ix_s (n := 4) h2, (show ix 4 j_ = none from (ix_n1 h4 ln_4))]
      rw [e_] at k
      dsimp only at k
      exact k _ _ hC mS_rf)
theorem M_table {g : ma_G} {I : ma_I} {L : ma_L} {P : ma_P} (hW : wF (ob I L))  (q_ i_ j_ : Int32) (k : ∀ I2 L2, ob I2 L2 = (F_table (ob I L) q_ i_ j_).2 → cS I L I2 L2 → P (some (.int (F_table (ob I L) q_ i_ j_).1)) HS I2 L2 RF 146) : CT g yX8_table cX8_table 5 (some .int) rX8_table [.ref 115, .int q_, .int i_, .int j_] P HS I L RF 146 := by
  exact t_X8_table q_ i_ j_ 
    (fun h1 => by
      have e_ : F_table (ob I L) q_ i_ j_ = ((-1), (ob I L)) := by simp only [F_table, (show ix 4 i_ = none from (ix_n2 h1 li_4))]
      rw [e_] at k
      dsimp only at k
      exact k _ _ rfl cS_rf)
    (fun n2 h2 e3 n4 h5 e6 j5 h8 e9 h10 => by
      subst e3
      subst e6
      subst e9
      have e_ : F_table (ob I L) (nI j5) (nI n2) (nI n4) = ((-3), (sM (ob I L) 1)) := by simp only [F_table, ix_s (n := 4) h2, ix_s (n := 4) h5, gG_m (s := (ob I L)) h8 (show (ob I L).1 122 j5 = 0 from h10)]
      rw [e_] at k
      dsimp only at k
      exact k _ _ (ob_M _ _ _) (cS_M _ _ _))
    (fun n2 h2 e3 n4 h5 e6 j9 h8 e9 h10 => by
      subst e3
      subst e6
      subst e9
      have e_ : F_table (ob I L) (nI j9) (nI n2) (nI n4) = (1, (sA (ob I L) ((ob I L).1 123 (16 * j9 + (4 * n2 + n4))))) := by simp only [F_table, ix_s (n := 4) h2, ix_s (n := 4) h5, gG_o (s := (ob I L)) h8 (show ¬ (ob I L).1 122 j9 = 0 from h10)]
      rw [e_] at k
      dsimp only at k
      exact k _ _ (by rw [ob_A, Nat.add_assoc]; rfl) (cS_up cS_rf (by omega)))
    (fun n2 h2 e3 n4 h5 e6 h7 => by
      subst e3
      subst e6
      have e_ : F_table (ob I L) q_ (nI n2) (nI n4) = ((-1), (ob I L)) := by simp only [F_table, ix_s (n := 4) h2, ix_s (n := 4) h5, gG_n (s := (ob I L)) (ix_n2 h7 li_12)]
      rw [e_] at k
      dsimp only at k
      exact k _ _ rfl cS_rf)
    (fun n2 h2 e3 h4 => by
      subst e3
      have e_ : F_table (ob I L) q_ (nI n2) j_ = ((-1), (ob I L)) := by simp only [F_table, ix_s (n := 4) h2, (show ix 4 j_ = none from (ix_n2 h4 li_4))]
      rw [e_] at k
      dsimp only at k
      exact k _ _ rfl cS_rf)
theorem p_table {g : ma_G} {I : ma_I} {L : ma_L} {P1 : ma_P} (hI : INV I L) (a1 a2 a3 : Int32) (k : ∀ (r : Int32) (I1 : ma_I) (L1 : ma_L), (∀ {P2 : ma_P}, (∀ (I2 : ma_I) (L2 : ma_L), INV I2 L2 → P2 (some (.int r)) HS I2 L2 RF 146) → CT g yX8_table cX8_table 5 (some .int) rX8_table [.ref 115, .int a1, .int a2, .int a3] P2 HS I1 L1 RF 146) → P1 (some (.int r)) HS I1 L1 RF 146) : CT g yX7_table cX7_table 5 (some .int) rX7_table [.ref 3, .int a1, .int a2, .int a3] P1 HS I L RF 146 :=
  pair_i (F := F_table (ob I L) a1 a2 a3) hI (W_table hI.1 a1 a2 a3) (fun P kk => C_table hI.1 hI.2 a1 a2 a3 kk) (fun I1 L1 P e kk => M_table (by rw [e]; exact hI.1)  a1 a2 a3 (by rw [e]; exact kk)) k
def F_told (s : sG) (q w : Int32) : Int32 × sG := match ix 10 w with
  | none => (-1, s)
  | some k => match gG s q with
    | .inl r => r
    | .inr g => (1, sA s (s.1 124 (10 * g + k)))
theorem W_told {s : sG} (h : wF s) (a1 a2 : Int32) : wF (F_told s a1 a2).2 := by
  unfold F_told
  repeat' split
  all_goals with_reducible first | exact h | exact wF_M h _ | exact wF_A h _ | exact gG_w h (by assumption) | exact gS_w h (by assumption) | exact gP_w h (by assumption)
theorem C_told {g : ma_G} {I : ma_I} {L : ma_L} {P : ma_P} {s : sG} (hW : wF s) (hC : rC s I L) (q_ f_ : Int32) (k : ∀ I1 L1, rC (F_told s q_ f_).2 I1 L1 → mS I L I1 L1 → P (some (.int (F_told s q_ f_).1)) HS I1 L1 RF 146) : CT g yX7_told cX7_told 4 (some .int) rX7_told [.ref 3, .int q_, .int f_] P HS I L RF 146 := by
  obtain ⟨hcM, hcN, hcF, hcK, hcT, hcS, hcG⟩ := id hC
  exact t_X7_told q_ f_ 
    (fun h1 => by
      have e_ : F_told s q_ f_ = ((-1), s) := by simp only [F_told, (show ix 10 f_ = none from (ix_lt h1))]
      rw [e_] at k
      dsimp only at k
      exact k _ _ hC mS_rf)
    (fun h1 h2 h3 => by
      obtain ⟨zf_, bzf_, qzf_⟩ := ix_o h1 h2 ln_10
      subst qzf_
      have e_ : F_told s q_ (nI zf_) = ((-1), s) := by simp only [F_told, ix_s (n := 10) bzf_, gG_n (s := s) (ix_n1 h3 ln_12)]
      rw [e_] at k
      dsimp only at k
      exact k _ _ hC mS_rf)
    (fun h1 h2 j4 h4 e5 h6 h7 => by
      obtain ⟨zf_, bzf_, qzf_⟩ := ix_o h1 h2 ln_10
      subst qzf_
      subst e5
      have e_ : F_told s (nI j4) (nI zf_) = ((-3), (sM s 1)) := by simp only [F_told, ix_s (n := 10) bzf_, gG_m (s := s) h6 (kG_m (hcG j4 (by omega)) h7)]
      rw [e_] at k
      dsimp only at k
      exact k _ _ (rC_R hC (by omega)) (mS_R _ _ _))
    (fun j9 h2 e3 h4 h5 h6 n25 h8 h9 e10 => by
      subst e3
      subst e10
      have e_ : F_told s (nI j9) (nI n25) = (1, (sA s (s.1 124 (10 * j9 + n25)))) := by simp only [F_told, ix_s (n := 10) h9, gG_o (s := s) h4 (kG_o (hcG j9 (by omega)) h6)]
      rw [e_] at k
      dsimp only at k
      exact k _ _ (rC_A hC (kG_f (hcG j9 (by omega)) h6 (by omega))) (mS_up mS_rf (by omega)))
    (fun h1 h2 j15 h4 e5 h6 h7 h8 => by
      obtain ⟨zf_, bzf_, qzf_⟩ := ix_o h1 h2 ln_10
      subst qzf_
      subst e5
      exact absurd h8 h7)
    (fun h1 h2 j21 h4 e5 h6 => by
      obtain ⟨zf_, bzf_, qzf_⟩ := ix_o h1 h2 ln_10
      subst qzf_
      subst e5
      exact absurd h6 (ix_c1 rfl h4 ln_12))
    (fun h1 h2 => by
      have e_ : F_told s q_ f_ = ((-1), s) := by simp only [F_told, (show ix 10 f_ = none from (ix_ge h2 ln_10))]
      rw [e_] at k
      dsimp only at k
      exact k _ _ hC mS_rf)
theorem M_told {g : ma_G} {I : ma_I} {L : ma_L} {P : ma_P} (hW : wF (ob I L))  (q_ w_ : Int32) (k : ∀ I2 L2, ob I2 L2 = (F_told (ob I L) q_ w_).2 → cS I L I2 L2 → P (some (.int (F_told (ob I L) q_ w_).1)) HS I2 L2 RF 146) : CT g yX8_told cX8_told 4 (some .int) rX8_told [.ref 115, .int q_, .int w_] P HS I L RF 146 := by
  exact t_X8_told q_ w_ 
    (fun n2 h2 e3 j3 h5 e6 h7 => by
      subst e3
      subst e6
      have e_ : F_told (ob I L) (nI j3) (nI n2) = ((-3), (sM (ob I L) 1)) := by simp only [F_told, ix_s (n := 10) h2, gG_m (s := (ob I L)) h5 (show (ob I L).1 122 j3 = 0 from h7)]
      rw [e_] at k
      dsimp only at k
      exact k _ _ (ob_M _ _ _) (cS_M _ _ _))
    (fun n2 h2 e3 j7 h5 e6 h7 => by
      subst e3
      subst e6
      have e_ : F_told (ob I L) (nI j7) (nI n2) = (1, (sA (ob I L) ((ob I L).1 124 (10 * j7 + n2)))) := by simp only [F_told, ix_s (n := 10) h2, gG_o (s := (ob I L)) h5 (show ¬ (ob I L).1 122 j7 = 0 from h7)]
      rw [e_] at k
      dsimp only at k
      exact k _ _ (ob_A _ _ _) (cS_up cS_rf (by omega)))
    (fun n2 h2 e3 h4 => by
      subst e3
      have e_ : F_told (ob I L) q_ (nI n2) = ((-1), (ob I L)) := by simp only [F_told, ix_s (n := 10) h2, gG_n (s := (ob I L)) (ix_n2 h4 li_12)]
      rw [e_] at k
      dsimp only at k
      exact k _ _ rfl cS_rf)
    (fun h1 => by
      have e_ : F_told (ob I L) q_ w_ = ((-1), (ob I L)) := by simp only [F_told, (show ix 10 w_ = none from (ix_n2 h1 li_10))]
      rw [e_] at k
      dsimp only at k
      exact k _ _ rfl cS_rf)
theorem p_told {g : ma_G} {I : ma_I} {L : ma_L} {P1 : ma_P} (hI : INV I L) (a1 a2 : Int32) (k : ∀ (r : Int32) (I1 : ma_I) (L1 : ma_L), (∀ {P2 : ma_P}, (∀ (I2 : ma_I) (L2 : ma_L), INV I2 L2 → P2 (some (.int r)) HS I2 L2 RF 146) → CT g yX8_told cX8_told 4 (some .int) rX8_told [.ref 115, .int a1, .int a2] P2 HS I1 L1 RF 146) → P1 (some (.int r)) HS I1 L1 RF 146) : CT g yX7_told cX7_told 4 (some .int) rX7_told [.ref 3, .int a1, .int a2] P1 HS I L RF 146 :=
  pair_i (F := F_told (ob I L) a1 a2) hI (W_told hI.1 a1 a2) (fun P kk => C_told hI.1 hI.2 a1 a2 kk) (fun I1 L1 P e kk => M_told (by rw [e]; exact hI.1)  a1 a2 (by rw [e]; exact kk)) k
def F_lineTold (s : sG) (w : Int32) : Int32 × sG := match ix 3 w with
  | none => (-1, s)
  | some k => if s.1 115 18 = 0 then (-4, s) else (1, sA s (s.1 128 k))
theorem W_lineTold {s : sG} (h : wF s) (a1 : Int32) : wF (F_lineTold s a1).2 := by
  unfold F_lineTold
  repeat' split
  all_goals with_reducible first | exact h | exact wF_M h _ | exact wF_A h _ | exact gG_w h (by assumption) | exact gS_w h (by assumption) | exact gP_w h (by assumption)
theorem C_lineTold {g : ma_G} {I : ma_I} {L : ma_L} {P : ma_P} {s : sG} (hW : wF s) (hC : rC s I L) (f_ : Int32) (k : ∀ I1 L1, rC (F_lineTold s f_).2 I1 L1 → mS I L I1 L1 → P (some (.int (F_lineTold s f_).1)) HS I1 L1 RF 146) : CT g yX7_lineTold cX7_lineTold 2 (some .int) rX7_lineTold [.ref 3, .int f_] P HS I L RF 146 := by
  obtain ⟨hcM, hcN, hcF, hcK, hcT, hcS, hcG⟩ := id hC
  exact t_X7_lineTold f_ 
    (fun h1 => by
      have e_ : F_lineTold s f_ = ((-1), s) := by simp only [F_lineTold, (show ix 3 f_ = none from (ix_lt h1))]
      rw [e_] at k
      dsimp only at k
      exact k _ _ hC mS_rf)
    (fun h1 n4 h3 h4 e5 => by
      subst e5
      have e_ : F_lineTold s (nI n4) = (1, (sA s (s.1 128 n4))) := by simp only [F_lineTold, ix_s (n := 3) h4, if_neg (show ¬ s.1 115 18 = 0 by rw [← hcN.1]; exact h1)]
      rw [e_] at k
      dsimp only at k
      exact k _ _ (rC_A hC (hcN.2 _ (by omega))) (mS_up mS_rf (by omega)))
    (fun h1 h2 h3 => by
      obtain ⟨zf_, bzf_, qzf_⟩ := ix_ol h1 h2 li_3
      subst qzf_
      have e_ : F_lineTold s (nI zf_) = ((-4), s) := by simp only [F_lineTold, ix_s (n := 3) bzf_, if_pos (show s.1 115 18 = 0 by rw [← hcN.1]; exact h3)]
      rw [e_] at k
      dsimp only at k
      exact k _ _ hC mS_rf)
    (fun h1 h2 => by
      have e_ : F_lineTold s f_ = ((-1), s) := by simp only [F_lineTold, (show ix 3 f_ = none from (ix_gt h2 li_3))]
      rw [e_] at k
      dsimp only at k
      exact k _ _ hC mS_rf)
theorem M_lineTold {g : ma_G} {I : ma_I} {L : ma_L} {P : ma_P} (hW : wF (ob I L))  (w_ : Int32) (k : ∀ I2 L2, ob I2 L2 = (F_lineTold (ob I L) w_).2 → cS I L I2 L2 → P (some (.int (F_lineTold (ob I L) w_).1)) HS I2 L2 RF 146) : CT g yX8_lineTold cX8_lineTold 2 (some .int) rX8_lineTold [.ref 115, .int w_] P HS I L RF 146 := by
  exact t_X8_lineTold w_ 
    (fun n2 h2 e3 h4 => by
      subst e3
      have e_ : F_lineTold (ob I L) (nI n2) = ((-4), (ob I L)) := by simp only [F_lineTold, ix_s (n := 3) h2, if_pos (show (ob I L).1 115 18 = 0 from h4)]
      rw [e_] at k
      dsimp only at k
      exact k _ _ rfl cS_rf)
    (fun n2 h2 e3 h4 => by
      subst e3
      have e_ : F_lineTold (ob I L) (nI n2) = (1, (sA (ob I L) ((ob I L).1 128 n2))) := by simp only [F_lineTold, ix_s (n := 3) h2, if_neg (show ¬ (ob I L).1 115 18 = 0 from h4)]
      rw [e_] at k
      dsimp only at k
      exact k _ _ (ob_A _ _ _) (cS_up cS_rf (by omega)))
    (fun h1 => by
      have e_ : F_lineTold (ob I L) w_ = ((-1), (ob I L)) := by simp only [F_lineTold, (show ix 3 w_ = none from (ix_n2 h1 li_3))]
      rw [e_] at k
      dsimp only at k
      exact k _ _ rfl cS_rf)
theorem p_lineTold {g : ma_G} {I : ma_I} {L : ma_L} {P1 : ma_P} (hI : INV I L) (a1 : Int32) (k : ∀ (r : Int32) (I1 : ma_I) (L1 : ma_L), (∀ {P2 : ma_P}, (∀ (I2 : ma_I) (L2 : ma_L), INV I2 L2 → P2 (some (.int r)) HS I2 L2 RF 146) → CT g yX8_lineTold cX8_lineTold 2 (some .int) rX8_lineTold [.ref 115, .int a1] P2 HS I1 L1 RF 146) → P1 (some (.int r)) HS I1 L1 RF 146) : CT g yX7_lineTold cX7_lineTold 2 (some .int) rX7_lineTold [.ref 3, .int a1] P1 HS I L RF 146 :=
  pair_i (F := F_lineTold (ob I L) a1) hI (W_lineTold hI.1 a1) (fun P kk => C_lineTold hI.1 hI.2 a1 kk) (fun I1 L1 P e kk => M_lineTold (by rw [e]; exact hI.1)  a1 (by rw [e]; exact kk)) k
def F_formTold (s : sG) (w : Int32) : Int32 × sG := match ix 5 w with
  | none => (-1, s)
  | some k => if s.1 115 26 = 0 then (-4, s) else (1, sA s ((s.2 135 k).toInt32))
theorem W_formTold {s : sG} (h : wF s) (a1 : Int32) : wF (F_formTold s a1).2 := by
  unfold F_formTold
  repeat' split
  all_goals with_reducible first | exact h | exact wF_M h _ | exact wF_A h _ | exact gG_w h (by assumption) | exact gS_w h (by assumption) | exact gP_w h (by assumption)
theorem C_formTold {g : ma_G} {I : ma_I} {L : ma_L} {P : ma_P} {s : sG} (hW : wF s) (hC : rC s I L) (f_ : Int32) (k : ∀ I1 L1, rC (F_formTold s f_).2 I1 L1 → mS I L I1 L1 → P (some (.int (F_formTold s f_).1)) HS I1 L1 RF 146) : CT g yX7_formTold cX7_formTold 2 (some .int) rX7_formTold [.ref 3, .int f_] P HS I L RF 146 := by
  obtain ⟨hcM, hcN, hcF, hcK, hcT, hcS, hcG⟩ := id hC
  exact t_X7_formTold f_ 
    (fun h1 => by
      have e_ : F_formTold s f_ = ((-1), s) := by simp only [F_formTold, (show ix 5 f_ = none from (ix_lt h1))]
      rw [e_] at k
      dsimp only at k
      exact k _ _ hC mS_rf)
    (fun h1 n4 h3 h4 e5 => by
      subst e5
      have e_ : F_formTold s (nI n4) = (1, (sA s ((s.2 135 n4).toInt32))) := by simp only [F_formTold, ix_s (n := 5) h4, if_neg (show ¬ s.1 115 26 = 0 by rw [← hcF.1]; exact h1)]
      rw [e_] at k
      dsimp only at k
      exact k _ _ (rC_A hC (hcF.2 _ (by omega))) (mS_up mS_rf (by omega)))
    (fun h1 h2 h3 => by
      obtain ⟨zf_, bzf_, qzf_⟩ := ix_ol h1 h2 li_5
      subst qzf_
      have e_ : F_formTold s (nI zf_) = ((-4), s) := by simp only [F_formTold, ix_s (n := 5) bzf_, if_pos (show s.1 115 26 = 0 by rw [← hcF.1]; exact h3)]
      rw [e_] at k
      dsimp only at k
      exact k _ _ hC mS_rf)
    (fun h1 h2 => by
      have e_ : F_formTold s f_ = ((-1), s) := by simp only [F_formTold, (show ix 5 f_ = none from (ix_gt h2 li_5))]
      rw [e_] at k
      dsimp only at k
      exact k _ _ hC mS_rf)
theorem M_formTold {g : ma_G} {I : ma_I} {L : ma_L} {P : ma_P} (hW : wF (ob I L))  (i_ : Int32) (k : ∀ I2 L2, ob I2 L2 = (F_formTold (ob I L) i_).2 → cS I L I2 L2 → P (some (.int (F_formTold (ob I L) i_).1)) HS I2 L2 RF 146) : CT g yX8_formTold cX8_formTold 2 (some .int) rX8_formTold [.ref 115, .int i_] P HS I L RF 146 := by
  exact t_X8_formTold i_ 
    (fun n2 h2 e3 h4 => by
      subst e3
      have e_ : F_formTold (ob I L) (nI n2) = ((-4), (ob I L)) := by simp only [F_formTold, ix_s (n := 5) h2, if_pos (show (ob I L).1 115 26 = 0 from h4)]
      rw [e_] at k
      dsimp only at k
      exact k _ _ rfl cS_rf)
    (fun n2 h2 e3 h4 => by
      subst e3
      have e_ : F_formTold (ob I L) (nI n2) = (1, (sA (ob I L) (((ob I L).2 135 n2).toInt32))) := by simp only [F_formTold, ix_s (n := 5) h2, if_neg (show ¬ (ob I L).1 115 26 = 0 from h4)]
      rw [e_] at k
      dsimp only at k
      exact k _ _ (ob_A _ _ _) (cS_up cS_rf (by omega)))
    (fun h1 => by
      have e_ : F_formTold (ob I L) i_ = ((-1), (ob I L)) := by simp only [F_formTold, (show ix 5 i_ = none from (ix_n2 h1 li_5))]
      rw [e_] at k
      dsimp only at k
      exact k _ _ rfl cS_rf)
theorem p_formTold {g : ma_G} {I : ma_I} {L : ma_L} {P1 : ma_P} (hI : INV I L) (a1 : Int32) (k : ∀ (r : Int32) (I1 : ma_I) (L1 : ma_L), (∀ {P2 : ma_P}, (∀ (I2 : ma_I) (L2 : ma_L), INV I2 L2 → P2 (some (.int r)) HS I2 L2 RF 146) → CT g yX8_formTold cX8_formTold 2 (some .int) rX8_formTold [.ref 115, .int a1] P2 HS I1 L1 RF 146) → P1 (some (.int r)) HS I1 L1 RF 146) : CT g yX7_formTold cX7_formTold 2 (some .int) rX7_formTold [.ref 3, .int a1] P1 HS I L RF 146 :=
  pair_i (F := F_formTold (ob I L) a1) hI (W_formTold hI.1 a1) (fun P kk => C_formTold hI.1 hI.2 a1 kk) (fun I1 L1 P e kk => M_formTold (by rw [e]; exact hI.1)  a1 (by rw [e]; exact kk)) k
