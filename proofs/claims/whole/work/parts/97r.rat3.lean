noncomputable def rtS (F : Nat → Int) : mFz := zRq F 64 (0, fun _ => 0, fun _ => 0, fun _ => 0)
def rtP (F : Nat → Int) (i : Int32) (k : Nat) : Prop := k < (rtS F).1 ∧ mBl (rtS F).2.1 (rtS F).2.2.1 k (rtS F).1 = i
noncomputable def rtX (s : sG) (F : Nat → Int) (k : Nat) : Int32 × sG := ((rtS F).2.2.2 k, sFr s (Int32.toInt64 ((rtS F).2.1 k) / shG (Int32.toInt64 ((rtS F).2.1 k)) (Int32.toInt64 ((rtS F).2.2.1 k))) (Int32.toInt64 ((rtS F).2.2.1 k) / shG (Int32.toInt64 ((rtS F).2.1 k)) (Int32.toInt64 ((rtS F).2.2.1 k))))
noncomputable def rtF (s : sG) (F : Nat → Int) (i : Int32) : Int32 × sG := cIf (∃ k, rtP F i k) (rtX s F (Classical.epsilon (rtP F i))) (-9, s)
theorem rk_c {F : Nat → Int} {q i : Nat} {c : cN3} {s : mFz} (h : rI F q i c s) {m : Nat} (hm : m < c.1) : cnt c.2.1 c.2.2 (c.2.1 m).toInt (c.2.2 m).toInt c.1 = m := by
  have so := h.2.2.1
  have g : ∀ n, n ≤ c.1 → cnt c.2.1 c.2.2 (c.2.1 m).toInt (c.2.2 m).toInt n = min n m := by
    intro n
    induction n with
    | zero => intro _; show 0 = min 0 m; omega
    | succ n ih =>
      intro hn
      unfold cnt
      rw [ih (by omega)]
      by_cases l : n < m
      · rw [if_pos (so n m l hm)]; omega
      · by_cases e : n = m
        · rw [e, if_neg (by omega)]; omega
        · have := so m n (by omega) (by omega)
          rw [if_neg (by omega)]; omega
  rw [g c.1 (Nat.le_refl _)]; omega
theorem rkq_s {F : Nat → Int} {q i : Nat} {c : cN3} {s : mFz} (h : rI F q i c s) (h4 : s.1 ≤ 4) {k : Nat} (hk : k < s.1) : ∃ m, m < c.1 ∧ c.2.1 m = s.2.1 k ∧ c.2.2 m = s.2.2.1 k ∧ mBl s.2.1 s.2.2.1 k s.1 = nI m := by
  obtain ⟨m, hm, e1, e2⟩ := h.2.2.2.2.1 k hk
  have sm : ∀ j, j < s.1 → smF (s.2.1 j) (s.2.2.1 j) := fun j hj => by
    obtain ⟨y, g1, g2, g3, g4, g5, g6, g7⟩ := h.1.1 j hj
    exact ⟨g4, by rw [g3, nI_toInt (by omega)]; omega⟩
  refine ⟨m, hm, e1, e2, ?_⟩
  rw [mBl_c (sm k hk) s.1 (by omega) sm, ← h.2.2.2.2.2, ← e1, ← e2, rk_c h hm]
theorem ex_bb {F : Nat → Int} (h : ¬ ∀ k, k ≤ 4 → F k = 0) : ∃ b, b ≤ 4 ∧ (∀ j, j < b → F j = 0) ∧ ¬ F b = 0 := by
  by_cases h0 : F 0 = 0
  · by_cases h1 : F 1 = 0
    · by_cases h2 : F 2 = 0
      · by_cases h3 : F 3 = 0
        · refine ⟨4, by omega, pt_all (pt_all (pt_all (pt_all (fun j hj => absurd hj (Nat.not_lt_zero j)) h0) h1) h2) h3, fun h4 => h (fun k hk => ?_)⟩
          exact pt_all (P := fun j => F j = 0) (b := 4) (pt_all (pt_all (pt_all (pt_all (fun j hj => absurd hj (Nat.not_lt_zero j)) h0) h1) h2) h3) h4 k (by omega)
        · exact ⟨3, by omega, pt_all (pt_all (pt_all (fun j hj => absurd hj (Nat.not_lt_zero j)) h0) h1) h2, h3⟩
      · exact ⟨2, by omega, pt_all (pt_all (fun j hj => absurd hj (Nat.not_lt_zero j)) h0) h1, h2⟩
    · exact ⟨1, by omega, pt_all (fun j hj => absurd hj (Nat.not_lt_zero j)) h0, h1⟩
  · exact ⟨0, by omega, fun j hj => absurd hj (Nat.not_lt_zero j), h0⟩
theorem rtS_c {F : Nat → Int} (hb : sml F) (hF : ¬ ∀ k, k ≤ 4 → F k = 0) : ∃ c : cN3, rI F 65 0 c (rtS F) := by
  obtain ⟨b, h1, h2, h3⟩ := ex_bb hF
  exact ⟨_, rI_q (f := fun j => Int64.ofInt (F j)) (fun j _ => rfl) hb h1 h2 h3 (c := (0, fun _ => 0, fun _ => 0)) rfl rfl 64 (Nat.le_refl _)⟩
theorem rt_u {F : Nat → Int} (hb : sml F) (hF : ¬ ∀ k, k ≤ 4 → F k = 0) {i : Int32} {k k' : Nat} (h : rtP F i k) (h' : rtP F i k') : (rtS F).2.1 k = (rtS F).2.1 k' ∧ (rtS F).2.2.1 k = (rtS F).2.2.1 k' ∧ (rtS F).2.2.2 k = (rtS F).2.2.2 k' := by
  obtain ⟨c, hc⟩ := rtS_c hb hF
  have h4 := rJ_4 hc.1 hF
  obtain ⟨m, hm, e1, e2, e3⟩ := rkq_s hc h4 h.1
  obtain ⟨m', hm', e1', e2', e3'⟩ := rkq_s hc h4 h'.1
  have c4 : c.1 ≤ 4 := by rw [hc.2.1]; exact h4
  have e : m = m' := nx_inj (e3.symm.trans (h.2.trans (h'.2.symm.trans e3'))) (by omega) (by omega)
  subst e
  have q1 := e1.symm.trans e1'
  have q2 := e2.symm.trans e2'
  obtain ⟨y, g1, g2, g3, g4, g5, g6, g7⟩ := hc.1.1 k h.1
  obtain ⟨y', g1', g2', g3', g4', g5', g6', g7'⟩ := hc.1.1 k' h'.1
  have ey : y = y' := nx_inj (g3.symm.trans (q2.trans g3')) (by omega) (by omega)
  subst ey
  exact ⟨q1, q2, by rw [g6, g6', q1]⟩
theorem rt_p {F : Nat → Int} {i : Int32} (h : ∃ k, rtP F i k) : rtP F i (Classical.epsilon (rtP F i)) := Classical.epsilon_spec h
theorem rtF_y {s : sG} {F : Nat → Int} (hb : sml F) (hF : ¬ ∀ k, k ≤ 4 → F k = 0) {i : Int32} {k : Nat} (h : rtP F i k) : rtF s F i = rtX s F k := by
  unfold rtF
  rw [cIf_p ⟨k, h⟩]
  have u := rt_u hb hF (rt_p ⟨k, h⟩) h
  unfold rtX
  rw [u.1, u.2.1, u.2.2]
theorem rtF_n {s : sG} {F : Nat → Int} {i : Int32} (h : ∀ k, ¬ rtP F i k) : rtF s F i = (-9, s) := cIf_n (fun ⟨k, hk⟩ => h k hk)
/-- the class's row -/
theorem rat_C {f : Nat → Int64} {F : Nat → Int} (hf : ∀ j, j < 5 → f j = Int64.ofInt (F j)) (hb : sml F) {a : Int64} (hl : cLd f a) {n : Nat} {U V U0 V0 : Nat → Int32} (e : (n, U, V) = cFr f a 64 (0, U0, V0)) : rI F 65 0 (n, U, V) (rtS F) ∧ ¬ ∀ k, k ≤ 4 → F k = 0 := by
  obtain ⟨b, h1, h2, h3, h4⟩ := hl
  subst h2
  have z : ∀ j, j < 5 → (f j = 0 ↔ F j = 0) := fun j hj => by have := hb j hj; rw [hf j hj, o6_0 (by omega)]
  have hn : ¬ F b = 0 := fun q => h3 ((z b h1).mpr q)
  refine ⟨?_, fun q => hn (q b (by omega))⟩
  rw [e]
  exact rI_q hf hb (by omega) (fun j hj => (z j (by omega)).mp (h4 j hj)) hn rfl rfl 64 (Nat.le_refl _)
theorem rat_n {F : Nat → Int} {c : cN3} (h : rI F 65 0 c (rtS F)) (hF : ¬ ∀ k, k ≤ 4 → F k = 0) {i : Int32} (hi : i < 0 ∨ ¬ i < nI c.1) : ∀ k, ¬ rtP F i k := fun k hk => by
  have h4 := rJ_4 h.1 hF
  obtain ⟨m, hm, e1, e2, e3⟩ := rkq_s h h4 hk.1
  have c4 : c.1 ≤ 4 := by rw [h.2.1]; exact h4
  rw [← hk.2, e3] at hi
  have a := nI_toInt (n := m) (by omega)
  have b := nI_toInt (n := c.1) (by omega)
  rw [nb_lt, nb_lt, nb_0, a, b] at hi
  omega
theorem rat_y {F : Nat → Int} {c : cN3} (h : rI F 65 0 c (rtS F)) (hF : ¬ ∀ k, k ≤ 4 → F k = 0) {m : Nat} (hm : m < c.1) : ∃ k, rtP F (nI m) k ∧ c.2.1 m = (rtS F).2.1 k ∧ c.2.2 m = (rtS F).2.2.1 k ∧ ∃ y, 1 ≤ y ∧ y ≤ 64 ∧ c.2.2 m = nI y ∧ (c.2.1 m).toInt.natAbs ≤ 64 ∧ Nat.gcd (c.2.1 m).toInt.natAbs y = 1 ∧ (rtS F).2.2.2 k = nI (4 - (zTk (c.2.1 m).toInt y 4 F).1) := by
  have h4 := rJ_4 h.1 hF
  obtain ⟨k, hk, e1, e2⟩ := h.2.2.2.1 m hm
  obtain ⟨m', hm', d1, d2, d3⟩ := rkq_s h h4 hk
  have e : m' = m := by
    have a := rk_c h hm
    have b := rk_c h hm'
    rw [d1, d2] at b
    rw [e1, e2] at a
    omega
  subst e
  obtain ⟨y, g1, g2, g3, g4, g5, g6, g7⟩ := h.1.1 k hk
  exact ⟨k, ⟨hk, d3⟩, e1, e2, y, g1, g2, by rw [e2]; exact g3, by rw [e1]; exact g4, by rw [e1]; exact g5.1, by rw [e1]; exact g6⟩
theorem zf_s {s : sG} (h : wF s) {g k : Nat} (hg : g < 12) (hk : k < 12) : sml (zf s g k) := zf_b h hg hk
noncomputable def F_rational (s : sG) (q r i : Int32) : Int32 × sG := match gP s q r with
  | .inl r => r
  | .inr (g, h) => cIf (∀ k, k ≤ 4 → zf s g h k = 0) (-4, s) (rtF s (zf s g h) i)
theorem W_rational {s : sG} (h : wF s) (a1 a2 a3 : Int32) : wF (F_rational s a1 a2 a3).2 := by
  unfold F_rational
  split
  · rename_i e; exact gP_w h e
  · unfold rtF rtX
    exact wF_cIf h (wF_cIf (wF_fr h _ _) h)
/-- the reference's row -/
theorem rat_M {f : Nat → Int64} {F : Nat → Int} (hf : ∀ j, f j = Int64.ofInt (F j)) (hb : sml F) {bb m0 : Nat} {s : mP} (hd : mPd f bb m0 s) (U V T : Nat → Int32) : gE (mRq f bb m0 64 (0, U, V, T)) (rtS F) ∧ (¬ ∀ k, k ≤ 4 → F k = 0) ∧ (mRq f bb m0 64 (0, U, V, T)).1 ≤ 4 := by
  obtain ⟨h1, h2, h3, _⟩ := hd
  have z : ∀ j, j < 5 → (f j = 0 ↔ F j = 0) := fun j hj => by have := hb j hj; rw [hf j, o6_0 (by omega)]
  have hn : ¬ F bb = 0 := fun q => h3 ((z bb (by omega)).mpr q)
  have hF : ¬ ∀ k, k ≤ 4 → F k = 0 := fun q => hn (q bb (by omega))
  have g : gE (mRq f bb m0 64 (0, U, V, T)) (rtS F) := by
    rw [mRq_z (fun j _ => hf j) hb h1 (fun j hj => (z j (by omega)).mp (h2 j hj)) hn _ 64 (Nat.le_refl _)]
    have h0 : gE (0, U, V, T) (0, fun _ => 0, fun _ => 0, fun _ => 0) := ⟨rfl, fun k hk => absurd hk (Nat.not_lt_zero k)⟩
    unfold rtS
    exact gE_q (F := F) h0 64
  refine ⟨g, hF, ?_⟩
  rw [g.1]
  unfold rtS
  exact rJ_4 (rJ_q (F := F) (s := (0, fun _ => 0, fun _ => 0, fun _ => 0)) rfl 64 (Nat.le_refl _)) hF
theorem mBl_g {U V U' V' : Nat → Int32} {k : Nat} (hk : U k = U' k ∧ V k = V' k) : ∀ n, (∀ j, j < n → U j = U' j ∧ V j = V' j) → mBl U V k n = mBl U' V' k n
  | 0, _ => rfl
  | n + 1, h => by unfold mBl; rw [mBl_g hk n (fun j hj => h j (by omega)), hk.1, hk.2, (h n (by omega)).1, (h n (by omega)).2]
theorem rat_b {F : Nat → Int} {n : Nat} {U V T : Nat → Int32} (g : gE (n, U, V, T) (rtS F)) {k : Nat} (hk : k < n) : mBl U V k n = mBl (rtS F).2.1 (rtS F).2.2.1 k (rtS F).1 := by
  have e : n = (rtS F).1 := g.1
  rw [← e]
  exact mBl_g ⟨(g.2 k hk).1, (g.2 k hk).2.1⟩ n (fun j hj => ⟨(g.2 j hj).1, (g.2 j hj).2.1⟩)
theorem rat_o {F : Nat → Int} (hb : sml F) (hF : ¬ ∀ k, k ≤ 4 → F k = 0) {n : Nat} (hn : n = (rtS F).1) {x : Int32} (h : ¬ ((¬ x < 0) ∧ (¬ ((nI n) - 1) < x))) : ∀ k, ¬ rtP F x k := fun k hk => h (by
  obtain ⟨c, hc⟩ := rtS_c hb hF
  have h4 := rJ_4 hc.1 hF
  obtain ⟨m, hm, e1, e2, e3⟩ := rkq_s hc h4 hk.1
  have c4 : c.1 = n := by rw [hc.2.1, hn]
  rw [← hk.2, e3]
  rw [nI_sub1 (by omega)]
  have a := nI_toInt (n := m) (by omega)
  have b := nI_toInt (n := n - 1) (by omega)
  rw [nb_lt, nb_lt, nb_0, a, b]
  omega)
theorem ob_rt (I J : ma_I) (L K : ma_L) (hx : mSx [133, 134, 141] [36, 31, 35] I J) (hl : mSl [132, 120, 142, 139, 140] L K) (U V T : Nat → Int32) (d : Int32) (ff : Nat → Int64) : ob (ma_up (ma_up (ma_up (ma_up J 143 U) 144 V) 145 T) 115 (ma_up (J 115) 36 d)) (ma_up K 142 ff) = ob I L := by
  have e : oI (ma_up (ma_up (ma_up (ma_up J 143 U) 144 V) 145 T) 115 (ma_up (J 115) 36 d)) = oI J := oI_s (fun a q => by
    have n1 : a ≠ 115 := fun e => by rw [e] at q; cases q
    have n2 : a ≠ 145 := fun e => by rw [e] at q; cases q
    have n3 : a ≠ 144 := fun e => by rw [e] at q; cases q
    have n4 : a ≠ 143 := fun e => by rw [e] at q; cases q
    rw [ma_up_n _ _ n1, ma_up_n _ _ n2, ma_up_n _ _ n3, ma_up_n _ _ n4]) (fun k q => by
    have n1 : k ≠ 36 := fun e => by rw [e] at q; cases q
    rw [ma_up_s, ma_up_n _ _ n1])
  unfold ob
  rw [e, oI_sx hx rfl rfl, oL_k (L := L) (K := ma_up K 142 ff) (by rw [ma_up_n _ _ (by decide)]; exact hl 135 (by decide)) (by rw [ma_up_n _ _ (by decide)]; exact hl 115 (by decide))]
theorem cS_rt {I J : ma_I} {L K : ma_L} (hx : mSx [133, 134, 141] [36, 31, 35] I J) (hl : mSl [132, 120, 142, 139, 140] L K) (U V T : Nat → Int32) (d : Int32) (ff : Nat → Int64) : cS I L (ma_up (ma_up (ma_up (ma_up J 143 U) 144 V) 145 T) 115 (ma_up (J 115) 36 d)) (ma_up K 142 ff) :=
  cS_ul (cS_up (cS_up (cS_up (cS_up (cS_sx hx hl rfl rfl) (by omega)) (by omega)) (by omega)) (by omega)) (by omega)
theorem C_rational {g : ma_G} {I : ma_I} {L : ma_L} {P : ma_P} {s : sG} (hW : wF s) (hC : rC s I L) (q_ r_ i_ : Int32) (k : ∀ I1 L1, rC (F_rational s q_ r_ i_).2 I1 L1 → mS I L I1 L1 → P (some (.int (F_rational s q_ r_ i_).1)) HS I1 L1 RF 146) : CT g yX7_rational cX7_rational 9 (some .int) rX7_rational [.ref 3, .int q_, .int r_, .int i_] P HS I L RF 146 := by
  obtain ⟨hcM, hcN, hcF, hcK, hcT, hcS, hcG⟩ := id hC
  exact t_X7_rational q_ r_ i_ 
    (fun h1 => by
      have e_ : F_rational s q_ r_ i_ = ((-1), s) := by simp only [F_rational, gP_n (s := s) (ix_n1 h1 ln_12)]
      rw [e_] at k
      dsimp only at k
      exact k _ _ hC mS_rf)
    (fun j2 h2 e3 j5 h5 e6 h7 => by
      subst e3
      subst e6
      have e_ : F_rational s (nI j2) (nI j5) i_ = ((-3), (sM s 1)) := by simp only [F_rational, gP_m (s := s) h2 h5 (kG_m (hcG j2 (by omega)) h7)]
      rw [e_] at k
      dsimp only at k
      exact k _ _ (rC_R hC (by omega)) (mS_R _ _ _))
    (fun j9 h2 e3 j12 h5 e6 h7 h8 j17 j18 h11 h12 h13 h14 h15 h16 => by
      subst e3
      subst e6
      have hf_ : ∀ j, j < 5 → j18 j = Int64.ofInt (zf s j9 j12 j) := fun j hj => (h11 j hj).trans (zf_C hW hcG (g := j9) (h := j12) (by omega) (by omega) j hj)
      have hb_ := zf_s hW (g := j9) (k := j12) (by omega) (by omega)
      have al_ : ∀ k, k ≤ 4 → zf s j9 j12 k = 0 := fun k hk => by have b_ := hb_ k (by omega); exact (o6_0 (by omega)).mp ((hf_ k (by omega)).symm.trans (z5 (F := j18) h12 h13 h14 h15 h16 k (by omega)))
      have e_ : F_rational s (nI j9) (nI j12) i_ = ((-4), s) := by simp only [F_rational, gP_o (s := s) h2 h5 (kG_o (hcG j9 (by omega)) h7) (kG_o (hcG j12 (by omega)) h8), cIf_p al_]
      rw [e_] at k
      dsimp only at k
      exact k _ _ (rC_x hC (fun _ _ => rfl) (fun a ha => by rw [ma_up_n _ _ (by omega), ma_up_n _ _ (by omega), ma_up_n _ _ (by omega)])) (mS_ul (mS_ul (mS_ul mS_rf (by omega)) (by omega)) (by omega)))
    (fun j9 h2 e3 j12 h5 e6 h7 h8 j17 j18 h11 h12 h13 h14 h15 h16 a n U V h21 h22 h23 h24 => by
      subst e3
      subst e6
      have hf_ : ∀ j, j < 5 → j18 j = Int64.ofInt (zf s j9 j12 j) := fun j hj => (h11 j hj).trans (zf_C hW hcG (g := j9) (h := j12) (by omega) (by omega) j hj)
      have hb_ := zf_s hW (g := j9) (k := j12) (by omega) (by omega)
      obtain ⟨ri_, nz_⟩ := rat_C (f := j18) hf_ hb_ h21 h23
      have e_ : F_rational s (nI j9) (nI j12) i_ = ((-9), s) := by simp only [F_rational, gP_o (s := s) h2 h5 (kG_o (hcG j9 (by omega)) h7) (kG_o (hcG j12 (by omega)) h8), cIf_n nz_, rtF_n (rat_n ri_ nz_ (Or.inl h24))]
      rw [e_] at k
      dsimp only at k
      exact k _ _ (rC_x hC (fun a ha => by rw [ma_up_n _ _ (by omega), ma_up_n _ _ (by omega), ma_up_n _ _ (by omega)]) (fun a ha => by rw [ma_up_n _ _ (by omega), ma_up_n _ _ (by omega), ma_up_n _ _ (by omega)])) (mS_ul (mS_ul (mS_ul (mS_up (mS_up (mS_up mS_rf (by omega)) (by omega)) (by omega)) (by omega)) (by omega)) (by omega)))
    (fun j9 h2 e3 j12 h5 e6 h7 h8 j17 j18 h11 h12 h13 h14 h15 h16 a n U V h21 h22 h23 m h25 e26 h27 R56 => by
      subst e3
      subst e6
      subst e26
      have hf_ : ∀ j, j < 5 → j18 j = Int64.ofInt (zf s j9 j12 j) := fun j hj => (h11 j hj).trans (zf_C hW hcG (g := j9) (h := j12) (by omega) (by omega) j hj)
      have hb_ := zf_s hW (g := j9) (k := j12) (by omega) (by omega)
      obtain ⟨ri_, nz_⟩ := rat_C (f := j18) hf_ hb_ h21 h23
      obtain ⟨kk_, kp_, ku_, kv_, yy_, y1_, y2_, yv_, yu_, yg_, yt_⟩ := rat_y ri_ nz_ (m := m) h25
      have yv_ : V m = nI yy_ := yv_
      have ku_ : U m = (rtS (zf s j9 j12)).2.1 kk_ := ku_
      have kv_ : V m = (rtS (zf s j9 j12)).2.2.1 kk_ := kv_
      have tt_ : nI (mTo j18 0 4 (Int32.toInt64 (U m)) (Int32.toInt64 (V m))) = (rtS (zf s j9 j12)).2.2.2 kk_ := by rw [yt_, yv_, q64_ y2_, i2l_o, mTo_z y1_ y2_ yu_ yg_ hf_ hb_]
      have e_ : F_rational s (nI j9) (nI j12) (nI m) = ((rtS (zf s j9 j12)).2.2.2 kk_, (sFr s ((Int32.toInt64 ((rtS (zf s j9 j12)).2.1 kk_)) / shG (Int32.toInt64 ((rtS (zf s j9 j12)).2.1 kk_)) (Int32.toInt64 ((rtS (zf s j9 j12)).2.2.1 kk_))) ((Int32.toInt64 ((rtS (zf s j9 j12)).2.2.1 kk_)) / shG (Int32.toInt64 ((rtS (zf s j9 j12)).2.1 kk_)) (Int32.toInt64 ((rtS (zf s j9 j12)).2.2.1 kk_))))) := by simp only [F_rational, gP_o (s := s) h2 h5 (kG_o (hcG j9 (by omega)) h7) (kG_o (hcG j12 (by omega)) h8), cIf_n nz_, rtF_y hb_ nz_ kp_, rtX]
      rw [e_] at k
      dsimp only at k
      rw [← tt_] at k
      exact k _ _ (rC_x (rC_fr hC (show (Int32.toInt64 (U m)) / (lN (Nat.gcd (Int32.toInt64 (U m)).toInt.natAbs (Int32.toInt64 (V m)).toInt.natAbs)) = (Int32.toInt64 ((rtS (zf s j9 j12)).2.1 kk_)) / shG (Int32.toInt64 ((rtS (zf s j9 j12)).2.1 kk_)) (Int32.toInt64 ((rtS (zf s j9 j12)).2.2.1 kk_)) by rw [ku_, kv_]; rfl) (show (Int32.toInt64 (V m)) / (lN (Nat.gcd (Int32.toInt64 (U m)).toInt.natAbs (Int32.toInt64 (V m)).toInt.natAbs)) = (Int32.toInt64 ((rtS (zf s j9 j12)).2.2.1 kk_)) / shG (Int32.toInt64 ((rtS (zf s j9 j12)).2.1 kk_)) (Int32.toInt64 ((rtS (zf s j9 j12)).2.2.1 kk_)) by rw [ku_, kv_]; rfl)) (fun a ha => by rw [ma_up_n _ _ (by omega), ma_up_n _ _ (by omega), ma_up_n _ _ (by omega)]) (fun a ha => by rcases ha with e | e; (· subst e; rfl); (· rw [ma_up_n _ _ (by omega), ma_up_n _ _ (by omega), ma_up_n _ _ (by omega), ma_up_n _ _ (by omega), ma_up_n _ _ (by omega), ma_up_n _ _ (by omega)]))) ⟨fun a ha => by rw [ma_up_n _ _ (by omega), ma_up_n _ _ (by omega), ma_up_n _ _ (by omega)], fun a ha => by rw [ma_up_n _ _ (by omega), ma_up_n _ _ (by omega), ma_up_n _ _ (by omega), ma_up_n _ _ (by omega), ma_up_n _ _ (by omega)]⟩)
    (fun j9 h2 e3 j12 h5 e6 h7 h8 j17 j18 h11 h12 h13 h14 h15 h16 a n U V h21 h22 h23 m h25 e26 h27 R57 => by
      subst e3
      subst e6
      subst e26
      have hf_ : ∀ j, j < 5 → j18 j = Int64.ofInt (zf s j9 j12 j) := fun j hj => (h11 j hj).trans (zf_C hW hcG (g := j9) (h := j12) (by omega) (by omega) j hj)
      have hb_ := zf_s hW (g := j9) (k := j12) (by omega) (by omega)
      obtain ⟨ri_, nz_⟩ := rat_C (f := j18) hf_ hb_ h21 h23
      obtain ⟨kk_, kp_, ku_, kv_, yy_, y1_, y2_, yv_, yu_, yg_, yt_⟩ := rat_y ri_ nz_ (m := m) h25
      have yv_ : V m = nI yy_ := yv_
      have ku_ : U m = (rtS (zf s j9 j12)).2.1 kk_ := ku_
      have kv_ : V m = (rtS (zf s j9 j12)).2.2.1 kk_ := kv_
      exact absurd (show 0 ≤ Int32.toInt64 (V m) by rw [yv_, q64_ y2_, nb_leL, lN_t (by omega), nb_0L]; omega) h27)
    (fun j9 h2 e3 j12 h5 e6 h7 h8 j17 j18 h11 h12 h13 h14 h15 h16 a n U V h21 h22 h23 h24 h25 => by
      subst e3
      subst e6
      have hf_ : ∀ j, j < 5 → j18 j = Int64.ofInt (zf s j9 j12 j) := fun j hj => (h11 j hj).trans (zf_C hW hcG (g := j9) (h := j12) (by omega) (by omega) j hj)
      have hb_ := zf_s hW (g := j9) (k := j12) (by omega) (by omega)
      obtain ⟨ri_, nz_⟩ := rat_C (f := j18) hf_ hb_ h21 h23
      have e_ : F_rational s (nI j9) (nI j12) i_ = ((-9), s) := by simp only [F_rational, gP_o (s := s) h2 h5 (kG_o (hcG j9 (by omega)) h7) (kG_o (hcG j12 (by omega)) h8), cIf_n nz_, rtF_n (rat_n ri_ nz_ (Or.inr h25))]
      rw [e_] at k
      dsimp only at k
      exact k _ _ (rC_x hC (fun a ha => by rw [ma_up_n _ _ (by omega), ma_up_n _ _ (by omega), ma_up_n _ _ (by omega)]) (fun a ha => by rw [ma_up_n _ _ (by omega), ma_up_n _ _ (by omega), ma_up_n _ _ (by omega)])) (mS_ul (mS_ul (mS_ul (mS_up (mS_up (mS_up mS_rf (by omega)) (by omega)) (by omega)) (by omega)) (by omega)) (by omega)))
    (fun j9 h2 e3 j12 h5 e6 h7 h8 j17 j18 h11 h12 h13 h14 h15 a n U V h20 h21 h22 h23 => by
      subst e3
      subst e6
      have hf_ : ∀ j, j < 5 → j18 j = Int64.ofInt (zf s j9 j12 j) := fun j hj => (h11 j hj).trans (zf_C hW hcG (g := j9) (h := j12) (by omega) (by omega) j hj)
      have hb_ := zf_s hW (g := j9) (k := j12) (by omega) (by omega)
      obtain ⟨ri_, nz_⟩ := rat_C (f := j18) hf_ hb_ h20 h22
      have e_ : F_rational s (nI j9) (nI j12) i_ = ((-9), s) := by simp only [F_rational, gP_o (s := s) h2 h5 (kG_o (hcG j9 (by omega)) h7) (kG_o (hcG j12 (by omega)) h8), cIf_n nz_, rtF_n (rat_n ri_ nz_ (Or.inl h23))]
      rw [e_] at k
      dsimp only at k
      exact k _ _ (rC_x hC (fun a ha => by rw [ma_up_n _ _ (by omega), ma_up_n _ _ (by omega), ma_up_n _ _ (by omega)]) (fun a ha => by rw [ma_up_n _ _ (by omega), ma_up_n _ _ (by omega), ma_up_n _ _ (by omega)])) (mS_ul (mS_ul (mS_ul (mS_up (mS_up (mS_up mS_rf (by omega)) (by omega)) (by omega)) (by omega)) (by omega)) (by omega)))
    (fun j9 h2 e3 j12 h5 e6 h7 h8 j17 j18 h11 h12 h13 h14 h15 a n U V h20 h21 h22 m h24 e25 h26 R62 => by
      subst e3
      subst e6
      subst e25
      have hf_ : ∀ j, j < 5 → j18 j = Int64.ofInt (zf s j9 j12 j) := fun j hj => (h11 j hj).trans (zf_C hW hcG (g := j9) (h := j12) (by omega) (by omega) j hj)
      have hb_ := zf_s hW (g := j9) (k := j12) (by omega) (by omega)
      obtain ⟨ri_, nz_⟩ := rat_C (f := j18) hf_ hb_ h20 h22
      obtain ⟨kk_, kp_, ku_, kv_, yy_, y1_, y2_, yv_, yu_, yg_, yt_⟩ := rat_y ri_ nz_ (m := m) h24
      have yv_ : V m = nI yy_ := yv_
      have ku_ : U m = (rtS (zf s j9 j12)).2.1 kk_ := ku_
      have kv_ : V m = (rtS (zf s j9 j12)).2.2.1 kk_ := kv_
      have tt_ : nI (mTo j18 0 4 (Int32.toInt64 (U m)) (Int32.toInt64 (V m))) = (rtS (zf s j9 j12)).2.2.2 kk_ := by rw [yt_, yv_, q64_ y2_, i2l_o, mTo_z y1_ y2_ yu_ yg_ hf_ hb_]
      have e_ : F_rational s (nI j9) (nI j12) (nI m) = ((rtS (zf s j9 j12)).2.2.2 kk_, (sFr s ((Int32.toInt64 ((rtS (zf s j9 j12)).2.1 kk_)) / shG (Int32.toInt64 ((rtS (zf s j9 j12)).2.1 kk_)) (Int32.toInt64 ((rtS (zf s j9 j12)).2.2.1 kk_))) ((Int32.toInt64 ((rtS (zf s j9 j12)).2.2.1 kk_)) / shG (Int32.toInt64 ((rtS (zf s j9 j12)).2.1 kk_)) (Int32.toInt64 ((rtS (zf s j9 j12)).2.2.1 kk_))))) := by simp only [F_rational, gP_o (s := s) h2 h5 (kG_o (hcG j9 (by omega)) h7) (kG_o (hcG j12 (by omega)) h8), cIf_n nz_, rtF_y hb_ nz_ kp_, rtX]
      rw [e_] at k
      dsimp only at k
      rw [← tt_] at k
      exact k _ _ (rC_x (rC_fr hC (show (Int32.toInt64 (U m)) / (lN (Nat.gcd (Int32.toInt64 (U m)).toInt.natAbs (Int32.toInt64 (V m)).toInt.natAbs)) = (Int32.toInt64 ((rtS (zf s j9 j12)).2.1 kk_)) / shG (Int32.toInt64 ((rtS (zf s j9 j12)).2.1 kk_)) (Int32.toInt64 ((rtS (zf s j9 j12)).2.2.1 kk_)) by rw [ku_, kv_]; rfl) (show (Int32.toInt64 (V m)) / (lN (Nat.gcd (Int32.toInt64 (U m)).toInt.natAbs (Int32.toInt64 (V m)).toInt.natAbs)) = (Int32.toInt64 ((rtS (zf s j9 j12)).2.2.1 kk_)) / shG (Int32.toInt64 ((rtS (zf s j9 j12)).2.1 kk_)) (Int32.toInt64 ((rtS (zf s j9 j12)).2.2.1 kk_)) by rw [ku_, kv_]; rfl)) (fun a ha => by rw [ma_up_n _ _ (by omega), ma_up_n _ _ (by omega), ma_up_n _ _ (by omega)]) (fun a ha => by rcases ha with e | e; (· subst e; rfl); (· rw [ma_up_n _ _ (by omega), ma_up_n _ _ (by omega), ma_up_n _ _ (by omega), ma_up_n _ _ (by omega), ma_up_n _ _ (by omega), ma_up_n _ _ (by omega)]))) ⟨fun a ha => by rw [ma_up_n _ _ (by omega), ma_up_n _ _ (by omega), ma_up_n _ _ (by omega)], fun a ha => by rw [ma_up_n _ _ (by omega), ma_up_n _ _ (by omega), ma_up_n _ _ (by omega), ma_up_n _ _ (by omega), ma_up_n _ _ (by omega)]⟩)
    (fun j9 h2 e3 j12 h5 e6 h7 h8 j17 j18 h11 h12 h13 h14 h15 a n U V h20 h21 h22 m h24 e25 h26 R63 => by
      subst e3
      subst e6
      subst e25
      have hf_ : ∀ j, j < 5 → j18 j = Int64.ofInt (zf s j9 j12 j) := fun j hj => (h11 j hj).trans (zf_C hW hcG (g := j9) (h := j12) (by omega) (by omega) j hj)
      have hb_ := zf_s hW (g := j9) (k := j12) (by omega) (by omega)
      obtain ⟨ri_, nz_⟩ := rat_C (f := j18) hf_ hb_ h20 h22
      obtain ⟨kk_, kp_, ku_, kv_, yy_, y1_, y2_, yv_, yu_, yg_, yt_⟩ := rat_y ri_ nz_ (m := m) h24
      have yv_ : V m = nI yy_ := yv_
      have ku_ : U m = (rtS (zf s j9 j12)).2.1 kk_ := ku_
      have kv_ : V m = (rtS (zf s j9 j12)).2.2.1 kk_ := kv_
      exact absurd (show 0 ≤ Int32.toInt64 (V m) by rw [yv_, q64_ y2_, nb_leL, lN_t (by omega), nb_0L]; omega) h26)
    (fun j9 h2 e3 j12 h5 e6 h7 h8 j17 j18 h11 h12 h13 h14 h15 a n U V h20 h21 h22 h23 h24 => by
      subst e3
      subst e6
      have hf_ : ∀ j, j < 5 → j18 j = Int64.ofInt (zf s j9 j12 j) := fun j hj => (h11 j hj).trans (zf_C hW hcG (g := j9) (h := j12) (by omega) (by omega) j hj)
      have hb_ := zf_s hW (g := j9) (k := j12) (by omega) (by omega)
      obtain ⟨ri_, nz_⟩ := rat_C (f := j18) hf_ hb_ h20 h22
      have e_ : F_rational s (nI j9) (nI j12) i_ = ((-9), s) := by simp only [F_rational, gP_o (s := s) h2 h5 (kG_o (hcG j9 (by omega)) h7) (kG_o (hcG j12 (by omega)) h8), cIf_n nz_, rtF_n (rat_n ri_ nz_ (Or.inr h24))]
      rw [e_] at k
      dsimp only at k
      exact k _ _ (rC_x hC (fun a ha => by rw [ma_up_n _ _ (by omega), ma_up_n _ _ (by omega), ma_up_n _ _ (by omega)]) (fun a ha => by rw [ma_up_n _ _ (by omega), ma_up_n _ _ (by omega), ma_up_n _ _ (by omega)])) (mS_ul (mS_ul (mS_ul (mS_up (mS_up (mS_up mS_rf (by omega)) (by omega)) (by omega)) (by omega)) (by omega)) (by omega)))
    (fun j9 h2 e3 j12 h5 e6 h7 h8 j17 j18 h11 h12 h13 h14 a n U V h19 h20 h21 h22 => by
      subst e3
      subst e6
      have hf_ : ∀ j, j < 5 → j18 j = Int64.ofInt (zf s j9 j12 j) := fun j hj => (h11 j hj).trans (zf_C hW hcG (g := j9) (h := j12) (by omega) (by omega) j hj)
      have hb_ := zf_s hW (g := j9) (k := j12) (by omega) (by omega)
      obtain ⟨ri_, nz_⟩ := rat_C (f := j18) hf_ hb_ h19 h21
      have e_ : F_rational s (nI j9) (nI j12) i_ = ((-9), s) := by simp only [F_rational, gP_o (s := s) h2 h5 (kG_o (hcG j9 (by omega)) h7) (kG_o (hcG j12 (by omega)) h8), cIf_n nz_, rtF_n (rat_n ri_ nz_ (Or.inl h22))]
      rw [e_] at k
      dsimp only at k
      exact k _ _ (rC_x hC (fun a ha => by rw [ma_up_n _ _ (by omega), ma_up_n _ _ (by omega), ma_up_n _ _ (by omega)]) (fun a ha => by rw [ma_up_n _ _ (by omega), ma_up_n _ _ (by omega), ma_up_n _ _ (by omega)])) (mS_ul (mS_ul (mS_ul (mS_up (mS_up (mS_up mS_rf (by omega)) (by omega)) (by omega)) (by omega)) (by omega)) (by omega)))
    (fun j9 h2 e3 j12 h5 e6 h7 h8 j17 j18 h11 h12 h13 h14 a n U V h19 h20 h21 m h23 e24 h25 R68 => by
      subst e3
      subst e6
      subst e24
      have hf_ : ∀ j, j < 5 → j18 j = Int64.ofInt (zf s j9 j12 j) := fun j hj => (h11 j hj).trans (zf_C hW hcG (g := j9) (h := j12) (by omega) (by omega) j hj)
      have hb_ := zf_s hW (g := j9) (k := j12) (by omega) (by omega)
      obtain ⟨ri_, nz_⟩ := rat_C (f := j18) hf_ hb_ h19 h21
      obtain ⟨kk_, kp_, ku_, kv_, yy_, y1_, y2_, yv_, yu_, yg_, yt_⟩ := rat_y ri_ nz_ (m := m) h23
      have yv_ : V m = nI yy_ := yv_
      have ku_ : U m = (rtS (zf s j9 j12)).2.1 kk_ := ku_
      have kv_ : V m = (rtS (zf s j9 j12)).2.2.1 kk_ := kv_
      have tt_ : nI (mTo j18 0 4 (Int32.toInt64 (U m)) (Int32.toInt64 (V m))) = (rtS (zf s j9 j12)).2.2.2 kk_ := by rw [yt_, yv_, q64_ y2_, i2l_o, mTo_z y1_ y2_ yu_ yg_ hf_ hb_]
      have e_ : F_rational s (nI j9) (nI j12) (nI m) = ((rtS (zf s j9 j12)).2.2.2 kk_, (sFr s ((Int32.toInt64 ((rtS (zf s j9 j12)).2.1 kk_)) / shG (Int32.toInt64 ((rtS (zf s j9 j12)).2.1 kk_)) (Int32.toInt64 ((rtS (zf s j9 j12)).2.2.1 kk_))) ((Int32.toInt64 ((rtS (zf s j9 j12)).2.2.1 kk_)) / shG (Int32.toInt64 ((rtS (zf s j9 j12)).2.1 kk_)) (Int32.toInt64 ((rtS (zf s j9 j12)).2.2.1 kk_))))) := by simp only [F_rational, gP_o (s := s) h2 h5 (kG_o (hcG j9 (by omega)) h7) (kG_o (hcG j12 (by omega)) h8), cIf_n nz_, rtF_y hb_ nz_ kp_, rtX]
      rw [e_] at k
      dsimp only at k
      rw [← tt_] at k
      exact k _ _ (rC_x (rC_fr hC (show (Int32.toInt64 (U m)) / (lN (Nat.gcd (Int32.toInt64 (U m)).toInt.natAbs (Int32.toInt64 (V m)).toInt.natAbs)) = (Int32.toInt64 ((rtS (zf s j9 j12)).2.1 kk_)) / shG (Int32.toInt64 ((rtS (zf s j9 j12)).2.1 kk_)) (Int32.toInt64 ((rtS (zf s j9 j12)).2.2.1 kk_)) by rw [ku_, kv_]; rfl) (show (Int32.toInt64 (V m)) / (lN (Nat.gcd (Int32.toInt64 (U m)).toInt.natAbs (Int32.toInt64 (V m)).toInt.natAbs)) = (Int32.toInt64 ((rtS (zf s j9 j12)).2.2.1 kk_)) / shG (Int32.toInt64 ((rtS (zf s j9 j12)).2.1 kk_)) (Int32.toInt64 ((rtS (zf s j9 j12)).2.2.1 kk_)) by rw [ku_, kv_]; rfl)) (fun a ha => by rw [ma_up_n _ _ (by omega), ma_up_n _ _ (by omega), ma_up_n _ _ (by omega)]) (fun a ha => by rcases ha with e | e; (· subst e; rfl); (· rw [ma_up_n _ _ (by omega), ma_up_n _ _ (by omega), ma_up_n _ _ (by omega), ma_up_n _ _ (by omega), ma_up_n _ _ (by omega), ma_up_n _ _ (by omega)]))) ⟨fun a ha => by rw [ma_up_n _ _ (by omega), ma_up_n _ _ (by omega), ma_up_n _ _ (by omega)], fun a ha => by rw [ma_up_n _ _ (by omega), ma_up_n _ _ (by omega), ma_up_n _ _ (by omega), ma_up_n _ _ (by omega), ma_up_n _ _ (by omega)]⟩)
    (fun j9 h2 e3 j12 h5 e6 h7 h8 j17 j18 h11 h12 h13 h14 a n U V h19 h20 h21 m h23 e24 h25 R69 => by
      subst e3
      subst e6
      subst e24
      have hf_ : ∀ j, j < 5 → j18 j = Int64.ofInt (zf s j9 j12 j) := fun j hj => (h11 j hj).trans (zf_C hW hcG (g := j9) (h := j12) (by omega) (by omega) j hj)
      have hb_ := zf_s hW (g := j9) (k := j12) (by omega) (by omega)
      obtain ⟨ri_, nz_⟩ := rat_C (f := j18) hf_ hb_ h19 h21
      obtain ⟨kk_, kp_, ku_, kv_, yy_, y1_, y2_, yv_, yu_, yg_, yt_⟩ := rat_y ri_ nz_ (m := m) h23
      have yv_ : V m = nI yy_ := yv_
      have ku_ : U m = (rtS (zf s j9 j12)).2.1 kk_ := ku_
      have kv_ : V m = (rtS (zf s j9 j12)).2.2.1 kk_ := kv_
      exact absurd (show 0 ≤ Int32.toInt64 (V m) by rw [yv_, q64_ y2_, nb_leL, lN_t (by omega), nb_0L]; omega) h25)
    (fun j9 h2 e3 j12 h5 e6 h7 h8 j17 j18 h11 h12 h13 h14 a n U V h19 h20 h21 h22 h23 => by
      subst e3
      subst e6
      have hf_ : ∀ j, j < 5 → j18 j = Int64.ofInt (zf s j9 j12 j) := fun j hj => (h11 j hj).trans (zf_C hW hcG (g := j9) (h := j12) (by omega) (by omega) j hj)
      have hb_ := zf_s hW (g := j9) (k := j12) (by omega) (by omega)
      obtain ⟨ri_, nz_⟩ := rat_C (f := j18) hf_ hb_ h19 h21
      have e_ : F_rational s (nI j9) (nI j12) i_ = ((-9), s) := by simp only [F_rational, gP_o (s := s) h2 h5 (kG_o (hcG j9 (by omega)) h7) (kG_o (hcG j12 (by omega)) h8), cIf_n nz_, rtF_n (rat_n ri_ nz_ (Or.inr h23))]
      rw [e_] at k
      dsimp only at k
      exact k _ _ (rC_x hC (fun a ha => by rw [ma_up_n _ _ (by omega), ma_up_n _ _ (by omega), ma_up_n _ _ (by omega)]) (fun a ha => by rw [ma_up_n _ _ (by omega), ma_up_n _ _ (by omega), ma_up_n _ _ (by omega)])) (mS_ul (mS_ul (mS_ul (mS_up (mS_up (mS_up mS_rf (by omega)) (by omega)) (by omega)) (by omega)) (by omega)) (by omega)))
    (fun j9 h2 e3 j12 h5 e6 h7 h8 j17 j18 h11 h12 h13 a n U V h18 h19 h20 h21 => by
      subst e3
      subst e6
      have hf_ : ∀ j, j < 5 → j18 j = Int64.ofInt (zf s j9 j12 j) := fun j hj => (h11 j hj).trans (zf_C hW hcG (g := j9) (h := j12) (by omega) (by omega) j hj)
      have hb_ := zf_s hW (g := j9) (k := j12) (by omega) (by omega)
      obtain ⟨ri_, nz_⟩ := rat_C (f := j18) hf_ hb_ h18 h20
      have e_ : F_rational s (nI j9) (nI j12) i_ = ((-9), s) := by simp only [F_rational, gP_o (s := s) h2 h5 (kG_o (hcG j9 (by omega)) h7) (kG_o (hcG j12 (by omega)) h8), cIf_n nz_, rtF_n (rat_n ri_ nz_ (Or.inl h21))]
      rw [e_] at k
      dsimp only at k
      exact k _ _ (rC_x hC (fun a ha => by rw [ma_up_n _ _ (by omega), ma_up_n _ _ (by omega), ma_up_n _ _ (by omega)]) (fun a ha => by rw [ma_up_n _ _ (by omega), ma_up_n _ _ (by omega), ma_up_n _ _ (by omega)])) (mS_ul (mS_ul (mS_ul (mS_up (mS_up (mS_up mS_rf (by omega)) (by omega)) (by omega)) (by omega)) (by omega)) (by omega)))
    (fun j9 h2 e3 j12 h5 e6 h7 h8 j17 j18 h11 h12 h13 a n U V h18 h19 h20 m h22 e23 h24 R74 => by
      subst e3
      subst e6
      subst e23
      have hf_ : ∀ j, j < 5 → j18 j = Int64.ofInt (zf s j9 j12 j) := fun j hj => (h11 j hj).trans (zf_C hW hcG (g := j9) (h := j12) (by omega) (by omega) j hj)
      have hb_ := zf_s hW (g := j9) (k := j12) (by omega) (by omega)
      obtain ⟨ri_, nz_⟩ := rat_C (f := j18) hf_ hb_ h18 h20
      obtain ⟨kk_, kp_, ku_, kv_, yy_, y1_, y2_, yv_, yu_, yg_, yt_⟩ := rat_y ri_ nz_ (m := m) h22
      have yv_ : V m = nI yy_ := yv_
      have ku_ : U m = (rtS (zf s j9 j12)).2.1 kk_ := ku_
      have kv_ : V m = (rtS (zf s j9 j12)).2.2.1 kk_ := kv_
      have tt_ : nI (mTo j18 0 4 (Int32.toInt64 (U m)) (Int32.toInt64 (V m))) = (rtS (zf s j9 j12)).2.2.2 kk_ := by rw [yt_, yv_, q64_ y2_, i2l_o, mTo_z y1_ y2_ yu_ yg_ hf_ hb_]
      have e_ : F_rational s (nI j9) (nI j12) (nI m) = ((rtS (zf s j9 j12)).2.2.2 kk_, (sFr s ((Int32.toInt64 ((rtS (zf s j9 j12)).2.1 kk_)) / shG (Int32.toInt64 ((rtS (zf s j9 j12)).2.1 kk_)) (Int32.toInt64 ((rtS (zf s j9 j12)).2.2.1 kk_))) ((Int32.toInt64 ((rtS (zf s j9 j12)).2.2.1 kk_)) / shG (Int32.toInt64 ((rtS (zf s j9 j12)).2.1 kk_)) (Int32.toInt64 ((rtS (zf s j9 j12)).2.2.1 kk_))))) := by simp only [F_rational, gP_o (s := s) h2 h5 (kG_o (hcG j9 (by omega)) h7) (kG_o (hcG j12 (by omega)) h8), cIf_n nz_, rtF_y hb_ nz_ kp_, rtX]
      rw [e_] at k
      dsimp only at k
      rw [← tt_] at k
      exact k _ _ (rC_x (rC_fr hC (show (Int32.toInt64 (U m)) / (lN (Nat.gcd (Int32.toInt64 (U m)).toInt.natAbs (Int32.toInt64 (V m)).toInt.natAbs)) = (Int32.toInt64 ((rtS (zf s j9 j12)).2.1 kk_)) / shG (Int32.toInt64 ((rtS (zf s j9 j12)).2.1 kk_)) (Int32.toInt64 ((rtS (zf s j9 j12)).2.2.1 kk_)) by rw [ku_, kv_]; rfl) (show (Int32.toInt64 (V m)) / (lN (Nat.gcd (Int32.toInt64 (U m)).toInt.natAbs (Int32.toInt64 (V m)).toInt.natAbs)) = (Int32.toInt64 ((rtS (zf s j9 j12)).2.2.1 kk_)) / shG (Int32.toInt64 ((rtS (zf s j9 j12)).2.1 kk_)) (Int32.toInt64 ((rtS (zf s j9 j12)).2.2.1 kk_)) by rw [ku_, kv_]; rfl)) (fun a ha => by rw [ma_up_n _ _ (by omega), ma_up_n _ _ (by omega), ma_up_n _ _ (by omega)]) (fun a ha => by rcases ha with e | e; (· subst e; rfl); (· rw [ma_up_n _ _ (by omega), ma_up_n _ _ (by omega), ma_up_n _ _ (by omega), ma_up_n _ _ (by omega), ma_up_n _ _ (by omega), ma_up_n _ _ (by omega)]))) ⟨fun a ha => by rw [ma_up_n _ _ (by omega), ma_up_n _ _ (by omega), ma_up_n _ _ (by omega)], fun a ha => by rw [ma_up_n _ _ (by omega), ma_up_n _ _ (by omega), ma_up_n _ _ (by omega), ma_up_n _ _ (by omega), ma_up_n _ _ (by omega)]⟩)
    (fun j9 h2 e3 j12 h5 e6 h7 h8 j17 j18 h11 h12 h13 a n U V h18 h19 h20 m h22 e23 h24 R75 => by
      subst e3
      subst e6
      subst e23
      have hf_ : ∀ j, j < 5 → j18 j = Int64.ofInt (zf s j9 j12 j) := fun j hj => (h11 j hj).trans (zf_C hW hcG (g := j9) (h := j12) (by omega) (by omega) j hj)
      have hb_ := zf_s hW (g := j9) (k := j12) (by omega) (by omega)
      obtain ⟨ri_, nz_⟩ := rat_C (f := j18) hf_ hb_ h18 h20
      obtain ⟨kk_, kp_, ku_, kv_, yy_, y1_, y2_, yv_, yu_, yg_, yt_⟩ := rat_y ri_ nz_ (m := m) h22
      have yv_ : V m = nI yy_ := yv_
      have ku_ : U m = (rtS (zf s j9 j12)).2.1 kk_ := ku_
      have kv_ : V m = (rtS (zf s j9 j12)).2.2.1 kk_ := kv_
      exact absurd (show 0 ≤ Int32.toInt64 (V m) by rw [yv_, q64_ y2_, nb_leL, lN_t (by omega), nb_0L]; omega) h24)
    (fun j9 h2 e3 j12 h5 e6 h7 h8 j17 j18 h11 h12 h13 a n U V h18 h19 h20 h21 h22 => by
      subst e3
      subst e6
      have hf_ : ∀ j, j < 5 → j18 j = Int64.ofInt (zf s j9 j12 j) := fun j hj => (h11 j hj).trans (zf_C hW hcG (g := j9) (h := j12) (by omega) (by omega) j hj)
      have hb_ := zf_s hW (g := j9) (k := j12) (by omega) (by omega)
      obtain ⟨ri_, nz_⟩ := rat_C (f := j18) hf_ hb_ h18 h20
      have e_ : F_rational s (nI j9) (nI j12) i_ = ((-9), s) := by simp only [F_rational, gP_o (s := s) h2 h5 (kG_o (hcG j9 (by omega)) h7) (kG_o (hcG j12 (by omega)) h8), cIf_n nz_, rtF_n (rat_n ri_ nz_ (Or.inr h22))]
      rw [e_] at k
      dsimp only at k
      exact k _ _ (rC_x hC (fun a ha => by rw [ma_up_n _ _ (by omega), ma_up_n _ _ (by omega), ma_up_n _ _ (by omega)]) (fun a ha => by rw [ma_up_n _ _ (by omega), ma_up_n _ _ (by omega), ma_up_n _ _ (by omega)])) (mS_ul (mS_ul (mS_ul (mS_up (mS_up (mS_up mS_rf (by omega)) (by omega)) (by omega)) (by omega)) (by omega)) (by omega)))
    (fun j9 h2 e3 j12 h5 e6 h7 h8 j17 j18 h11 h12 a n U V h17 h18 h19 h20 => by
      subst e3
      subst e6
      have hf_ : ∀ j, j < 5 → j18 j = Int64.ofInt (zf s j9 j12 j) := fun j hj => (h11 j hj).trans (zf_C hW hcG (g := j9) (h := j12) (by omega) (by omega) j hj)
      have hb_ := zf_s hW (g := j9) (k := j12) (by omega) (by omega)
      obtain ⟨ri_, nz_⟩ := rat_C (f := j18) hf_ hb_ h17 h19
      have e_ : F_rational s (nI j9) (nI j12) i_ = ((-9), s) := by simp only [F_rational, gP_o (s := s) h2 h5 (kG_o (hcG j9 (by omega)) h7) (kG_o (hcG j12 (by omega)) h8), cIf_n nz_, rtF_n (rat_n ri_ nz_ (Or.inl h20))]
      rw [e_] at k
      dsimp only at k
      exact k _ _ (rC_x hC (fun a ha => by rw [ma_up_n _ _ (by omega), ma_up_n _ _ (by omega), ma_up_n _ _ (by omega)]) (fun a ha => by rw [ma_up_n _ _ (by omega), ma_up_n _ _ (by omega), ma_up_n _ _ (by omega)])) (mS_ul (mS_ul (mS_ul (mS_up (mS_up (mS_up mS_rf (by omega)) (by omega)) (by omega)) (by omega)) (by omega)) (by omega)))
    (fun j9 h2 e3 j12 h5 e6 h7 h8 j17 j18 h11 h12 a n U V h17 h18 h19 m h21 e22 h23 R80 => by
      subst e3
      subst e6
      subst e22
      have hf_ : ∀ j, j < 5 → j18 j = Int64.ofInt (zf s j9 j12 j) := fun j hj => (h11 j hj).trans (zf_C hW hcG (g := j9) (h := j12) (by omega) (by omega) j hj)
      have hb_ := zf_s hW (g := j9) (k := j12) (by omega) (by omega)
      obtain ⟨ri_, nz_⟩ := rat_C (f := j18) hf_ hb_ h17 h19
      obtain ⟨kk_, kp_, ku_, kv_, yy_, y1_, y2_, yv_, yu_, yg_, yt_⟩ := rat_y ri_ nz_ (m := m) h21
      have yv_ : V m = nI yy_ := yv_
      have ku_ : U m = (rtS (zf s j9 j12)).2.1 kk_ := ku_
      have kv_ : V m = (rtS (zf s j9 j12)).2.2.1 kk_ := kv_
      have tt_ : nI (mTo j18 0 4 (Int32.toInt64 (U m)) (Int32.toInt64 (V m))) = (rtS (zf s j9 j12)).2.2.2 kk_ := by rw [yt_, yv_, q64_ y2_, i2l_o, mTo_z y1_ y2_ yu_ yg_ hf_ hb_]
      have e_ : F_rational s (nI j9) (nI j12) (nI m) = ((rtS (zf s j9 j12)).2.2.2 kk_, (sFr s ((Int32.toInt64 ((rtS (zf s j9 j12)).2.1 kk_)) / shG (Int32.toInt64 ((rtS (zf s j9 j12)).2.1 kk_)) (Int32.toInt64 ((rtS (zf s j9 j12)).2.2.1 kk_))) ((Int32.toInt64 ((rtS (zf s j9 j12)).2.2.1 kk_)) / shG (Int32.toInt64 ((rtS (zf s j9 j12)).2.1 kk_)) (Int32.toInt64 ((rtS (zf s j9 j12)).2.2.1 kk_))))) := by simp only [F_rational, gP_o (s := s) h2 h5 (kG_o (hcG j9 (by omega)) h7) (kG_o (hcG j12 (by omega)) h8), cIf_n nz_, rtF_y hb_ nz_ kp_, rtX]
      rw [e_] at k
      dsimp only at k
      rw [← tt_] at k
      exact k _ _ (rC_x (rC_fr hC (show (Int32.toInt64 (U m)) / (lN (Nat.gcd (Int32.toInt64 (U m)).toInt.natAbs (Int32.toInt64 (V m)).toInt.natAbs)) = (Int32.toInt64 ((rtS (zf s j9 j12)).2.1 kk_)) / shG (Int32.toInt64 ((rtS (zf s j9 j12)).2.1 kk_)) (Int32.toInt64 ((rtS (zf s j9 j12)).2.2.1 kk_)) by rw [ku_, kv_]; rfl) (show (Int32.toInt64 (V m)) / (lN (Nat.gcd (Int32.toInt64 (U m)).toInt.natAbs (Int32.toInt64 (V m)).toInt.natAbs)) = (Int32.toInt64 ((rtS (zf s j9 j12)).2.2.1 kk_)) / shG (Int32.toInt64 ((rtS (zf s j9 j12)).2.1 kk_)) (Int32.toInt64 ((rtS (zf s j9 j12)).2.2.1 kk_)) by rw [ku_, kv_]; rfl)) (fun a ha => by rw [ma_up_n _ _ (by omega), ma_up_n _ _ (by omega), ma_up_n _ _ (by omega)]) (fun a ha => by rcases ha with e | e; (· subst e; rfl); (· rw [ma_up_n _ _ (by omega), ma_up_n _ _ (by omega), ma_up_n _ _ (by omega), ma_up_n _ _ (by omega), ma_up_n _ _ (by omega), ma_up_n _ _ (by omega)]))) ⟨fun a ha => by rw [ma_up_n _ _ (by omega), ma_up_n _ _ (by omega), ma_up_n _ _ (by omega)], fun a ha => by rw [ma_up_n _ _ (by omega), ma_up_n _ _ (by omega), ma_up_n _ _ (by omega), ma_up_n _ _ (by omega), ma_up_n _ _ (by omega)]⟩)
    (fun j9 h2 e3 j12 h5 e6 h7 h8 j17 j18 h11 h12 a n U V h17 h18 h19 m h21 e22 h23 R81 => by
      subst e3
      subst e6
      subst e22
      have hf_ : ∀ j, j < 5 → j18 j = Int64.ofInt (zf s j9 j12 j) := fun j hj => (h11 j hj).trans (zf_C hW hcG (g := j9) (h := j12) (by omega) (by omega) j hj)
      have hb_ := zf_s hW (g := j9) (k := j12) (by omega) (by omega)
      obtain ⟨ri_, nz_⟩ := rat_C (f := j18) hf_ hb_ h17 h19
      obtain ⟨kk_, kp_, ku_, kv_, yy_, y1_, y2_, yv_, yu_, yg_, yt_⟩ := rat_y ri_ nz_ (m := m) h21
      have yv_ : V m = nI yy_ := yv_
      have ku_ : U m = (rtS (zf s j9 j12)).2.1 kk_ := ku_
      have kv_ : V m = (rtS (zf s j9 j12)).2.2.1 kk_ := kv_
      exact absurd (show 0 ≤ Int32.toInt64 (V m) by rw [yv_, q64_ y2_, nb_leL, lN_t (by omega), nb_0L]; omega) h23)
    (fun j9 h2 e3 j12 h5 e6 h7 h8 j17 j18 h11 h12 a n U V h17 h18 h19 h20 h21 => by
      subst e3
      subst e6
      have hf_ : ∀ j, j < 5 → j18 j = Int64.ofInt (zf s j9 j12 j) := fun j hj => (h11 j hj).trans (zf_C hW hcG (g := j9) (h := j12) (by omega) (by omega) j hj)
      have hb_ := zf_s hW (g := j9) (k := j12) (by omega) (by omega)
      obtain ⟨ri_, nz_⟩ := rat_C (f := j18) hf_ hb_ h17 h19
      have e_ : F_rational s (nI j9) (nI j12) i_ = ((-9), s) := by simp only [F_rational, gP_o (s := s) h2 h5 (kG_o (hcG j9 (by omega)) h7) (kG_o (hcG j12 (by omega)) h8), cIf_n nz_, rtF_n (rat_n ri_ nz_ (Or.inr h21))]
      rw [e_] at k
      dsimp only at k
      exact k _ _ (rC_x hC (fun a ha => by rw [ma_up_n _ _ (by omega), ma_up_n _ _ (by omega), ma_up_n _ _ (by omega)]) (fun a ha => by rw [ma_up_n _ _ (by omega), ma_up_n _ _ (by omega), ma_up_n _ _ (by omega)])) (mS_ul (mS_ul (mS_ul (mS_up (mS_up (mS_up mS_rf (by omega)) (by omega)) (by omega)) (by omega)) (by omega)) (by omega)))
    (fun j20 h2 e3 j23 h5 e6 h7 h8 => by
      subst e3
      subst e6
      have e_ : F_rational s (nI j20) (nI j23) i_ = ((-3), (sM s 1)) := by simp only [F_rational, gP_m2 (s := s) h2 h5 (kG_o (hcG j20 (by omega)) h7) (kG_m (hcG j23 (by omega)) h8)]
      rw [e_] at k
      dsimp only at k
      exact k _ _ (rC_R hC (by omega)) (mS_R _ _ _))
    (fun j28 h2 e3 h4 => by
      subst e3
      have e_ : F_rational s (nI j28) r_ i_ = ((-1), s) := by simp only [F_rational, gP_n2 (s := s) h2 (ix_n1 h4 ln_12)]
      rw [e_] at k
      dsimp only at k
      exact k _ _ hC mS_rf)
theorem M_rational {g : ma_G} {I : ma_I} {L : ma_L} {P : ma_P} (hW : wF (ob I L))  (q_ r_ x_ : Int32) (k : ∀ I2 L2, ob I2 L2 = (F_rational (ob I L) q_ r_ x_).2 → cS I L I2 L2 → P (some (.int (F_rational (ob I L) q_ r_ x_).1)) HS I2 L2 RF 146) : CT g yX8_rational cX8_rational 9 (some .int) rX8_rational [.ref 115, .int q_, .int r_, .int x_] P HS I L RF 146 := by
  exact t_X8_rational q_ r_ x_ (fun q r hq hr j hj => by rw [zf_M (ob I L) q r (a := fun k => I 123 (16 * q + k)) (b := fun k => I 123 (16 * r + k)) (fun _ _ => rfl) (fun _ _ => rfl) j]; have b_ := zf_b hW hq hr j hj; rw [o6_toInt (by omega)]; omega) (fun q r hq hr bb m0 s hd U V T => (rat_M (zf_M (ob I L) q r (fun _ _ => rfl) (fun _ _ => rfl)) (zf_s hW hq hr) hd U V T).2.2)
    (fun h1 => by
      have e_ : F_rational (ob I L) q_ r_ x_ = ((-1), (ob I L)) := by simp only [F_rational, gP_n (s := (ob I L)) (ix_n2 h1 li_12)]
      rw [e_] at k
      dsimp only at k
      exact k _ _ rfl cS_rf)
    (fun j2 h2 e3 j5 h5 e6 h7 => by
      subst e3
      subst e6
      have e_ : F_rational (ob I L) (nI j2) (nI j5) x_ = ((-3), (sM (ob I L) 1)) := by simp only [F_rational, gP_m (s := (ob I L)) h2 h5 (show (ob I L).1 122 j2 = 0 from h7)]
      rw [e_] at k
      dsimp only at k
      exact k _ _ (ob_M _ _ _) (cS_M _ _ _))
    (fun j9 h2 e3 j12 h5 e6 h7 h8 => by
      subst e3
      subst e6
      have e_ : F_rational (ob I L) (nI j9) (nI j12) x_ = ((-3), (sM (ob I L) 1)) := by simp only [F_rational, gP_m2 (s := (ob I L)) h2 h5 (show ¬ (ob I L).1 122 j9 = 0 from h7) (show (ob I L).1 122 j12 = 0 from h8)]
      rw [e_] at k
      dsimp only at k
      exact k _ _ (ob_M _ _ _) (cS_M _ _ _))
    (fun j17 h2 e3 j20 h5 e6 h7 h8 h9 J2 K1 h12 h13 => by
      subst e3
      subst e6
      have hf_ : ∀ j, (mFm (fun k => I 123 (16 * j17 + k)) (fun k => I 123 (16 * j20 + k))) j = Int64.ofInt (zf (ob I L) j17 j20 j) := zf_M (ob I L) j17 j20 (fun _ _ => rfl) (fun _ _ => rfl)
      have hb_ := zf_s hW (g := j17) (k := j20) (by omega) (by omega)
      have al_ : ∀ k, k ≤ 4 → zf (ob I L) j17 j20 k = 0 := fun k hk => by have b_ := hb_ k (by omega); exact (o6_0 (by omega)).mp ((hf_ k).symm.trans (h9 k (by omega)))
      have e_ : F_rational (ob I L) (nI j17) (nI j20) x_ = ((-4), (ob I L)) := by simp only [F_rational, gP_o (s := (ob I L)) h2 h5 (show ¬ (ob I L).1 122 j17 = 0 from h7) (show ¬ (ob I L).1 122 j20 = 0 from h8), cIf_p al_]
      rw [e_] at k
      dsimp only at k
      exact k _ _ (by unfold ob; rw [oI_sx h12 rfl rfl, oL_sl h13 rfl]) (cS_sx h12 h13 rfl rfl))
    (fun j17 h2 e3 j20 h5 e6 h7 h8 bb m0 s J2 K2 h14 h15 h16 h17 n U V T dd ff h24 h25 h26 => by
      subst e3
      subst e6
      have hf_ : ∀ j, (mFm (fun k => I 123 (16 * j17 + k)) (fun k => I 123 (16 * j20 + k))) j = Int64.ofInt (zf (ob I L) j17 j20 j) := zf_M (ob I L) j17 j20 (fun _ _ => rfl) (fun _ _ => rfl)
      have hb_ := zf_s hW (g := j17) (k := j20) (by omega) (by omega)
      obtain ⟨ge_, nz_, _⟩ := rat_M hf_ hb_ h14 (J2 143) (J2 144) (J2 145)
      rw [← h24] at ge_
      have gn_ : n = (rtS (zf (ob I L) j17 j20)).1 := ge_.1
      have e_ : F_rational (ob I L) (nI j17) (nI j20) x_ = ((-9), (ob I L)) := by simp only [F_rational, gP_o (s := (ob I L)) h2 h5 (show ¬ (ob I L).1 122 j17 = 0 from h7) (show ¬ (ob I L).1 122 j20 = 0 from h8), cIf_n nz_, rtF_n (fun k hk => h26 k (by rw [gn_]; exact hk.1) (by rw [rat_b ge_ (by rw [gn_]; exact hk.1)]; exact hk.2))]
      rw [e_] at k
      dsimp only at k
      exact k _ _ (ob_rt I J2 L K2 h16 h17 U V T dd ff) (cS_rt h16 h17 U V T dd ff))
    (fun j17 h2 e3 j20 h5 e6 h7 h8 bb m0 s J2 K2 h14 h15 h16 h17 n U V T dd ff h24 h25 kx h27 h28 h29 => by
      subst e3
      subst e6
      have hf_ : ∀ j, (mFm (fun k => I 123 (16 * j17 + k)) (fun k => I 123 (16 * j20 + k))) j = Int64.ofInt (zf (ob I L) j17 j20 j) := zf_M (ob I L) j17 j20 (fun _ _ => rfl) (fun _ _ => rfl)
      have hb_ := zf_s hW (g := j17) (k := j20) (by omega) (by omega)
      obtain ⟨ge_, nz_, _⟩ := rat_M hf_ hb_ h14 (J2 143) (J2 144) (J2 145)
      rw [← h24] at ge_
      have gn_ : n = (rtS (zf (ob I L) j17 j20)).1 := ge_.1
      have kp_ : rtP (zf (ob I L) j17 j20) x_ kx := ⟨by rw [← gn_]; exact h27, by rw [← rat_b ge_ h27]; exact h29⟩
      have g3_ := ge_.2 kx h27
      dsimp only at g3_
      have e_ : F_rational (ob I L) (nI j17) (nI j20) x_ = ((rtS (zf (ob I L) j17 j20)).2.2.2 kx, (sFr (ob I L) ((Int32.toInt64 ((rtS (zf (ob I L) j17 j20)).2.1 kx)) / shG (Int32.toInt64 ((rtS (zf (ob I L) j17 j20)).2.1 kx)) (Int32.toInt64 ((rtS (zf (ob I L) j17 j20)).2.2.1 kx))) ((Int32.toInt64 ((rtS (zf (ob I L) j17 j20)).2.2.1 kx)) / shG (Int32.toInt64 ((rtS (zf (ob I L) j17 j20)).2.1 kx)) (Int32.toInt64 ((rtS (zf (ob I L) j17 j20)).2.2.1 kx))))) := by simp only [F_rational, gP_o (s := (ob I L)) h2 h5 (show ¬ (ob I L).1 122 j17 = 0 from h7) (show ¬ (ob I L).1 122 j20 = 0 from h8), cIf_n nz_, rtF_y hb_ nz_ kp_, rtX]
      rw [e_] at k
      dsimp only at k
      rw [g3_.1, g3_.2.1, g3_.2.2]
      exact k _ _ (by rw [← (ob_rt I J2 L K2 h16 h17 U V T dd ff)]; exact ob_fr _ rfl rfl rfl rfl) (cS_ul (cS_rt h16 h17 U V T dd ff) (by omega)))
    (fun j17 h2 e3 j20 h5 e6 h7 h8 bb m0 s J2 K2 h14 h15 h16 h17 n U V T dd ff h24 h25 => by
      subst e3
      subst e6
      have hf_ : ∀ j, (mFm (fun k => I 123 (16 * j17 + k)) (fun k => I 123 (16 * j20 + k))) j = Int64.ofInt (zf (ob I L) j17 j20 j) := zf_M (ob I L) j17 j20 (fun _ _ => rfl) (fun _ _ => rfl)
      have hb_ := zf_s hW (g := j17) (k := j20) (by omega) (by omega)
      obtain ⟨ge_, nz_, _⟩ := rat_M hf_ hb_ h14 (J2 143) (J2 144) (J2 145)
      rw [← h24] at ge_
      have gn_ : n = (rtS (zf (ob I L) j17 j20)).1 := ge_.1
      have e_ : F_rational (ob I L) (nI j17) (nI j20) x_ = ((-9), (ob I L)) := by simp only [F_rational, gP_o (s := (ob I L)) h2 h5 (show ¬ (ob I L).1 122 j17 = 0 from h7) (show ¬ (ob I L).1 122 j20 = 0 from h8), cIf_n nz_, rtF_n (rat_o hb_ nz_ gn_ h25)]
      rw [e_] at k
      dsimp only at k
      exact k _ _ (ob_rt I J2 L K2 h16 h17 U V T dd ff) (cS_rt h16 h17 U V T dd ff))
    (fun j25 h2 e3 h4 => by
      subst e3
      have e_ : F_rational (ob I L) (nI j25) r_ x_ = ((-1), (ob I L)) := by simp only [F_rational, gP_n2 (s := (ob I L)) h2 (ix_n2 h4 li_12)]
      rw [e_] at k
      dsimp only at k
      exact k _ _ rfl cS_rf)
theorem p_rational {g : ma_G} {I : ma_I} {L : ma_L} {P1 : ma_P} (hI : INV I L) (a1 a2 a3 : Int32) (k : ∀ (r : Int32) (I1 : ma_I) (L1 : ma_L), (∀ {P2 : ma_P}, (∀ (I2 : ma_I) (L2 : ma_L), INV I2 L2 → P2 (some (.int r)) HS I2 L2 RF 146) → CT g yX8_rational cX8_rational 9 (some .int) rX8_rational [.ref 115, .int a1, .int a2, .int a3] P2 HS I1 L1 RF 146) → P1 (some (.int r)) HS I1 L1 RF 146) : CT g yX7_rational cX7_rational 9 (some .int) rX7_rational [.ref 3, .int a1, .int a2, .int a3] P1 HS I L RF 146 :=
  pair_i (F := F_rational (ob I L) a1 a2 a3) hI (W_rational hI.1 a1 a2 a3) (fun P kk => C_rational hI.1 hI.2 a1 a2 a3 kk) (fun I1 L1 P e kk => M_rational (by rw [e]; exact hI.1)  a1 a2 a3 (by rw [e]; exact kk)) k
