/-- one sheet changes -/
theorem rC_sh {s t : sG} {I J : ma_I} {L : ma_L} (h : rC s I L) {x : Nat} (hx : x < 8) (e2 : t.2 = s.2) (e1 : ∀ a, a ≠ 117 → a ≠ 118 → t.1 a = s.1 a) (e3 : ∀ y, y ≠ x → t.1 117 y = s.1 117 y) (e4 : ∀ y j, y ≠ x → j < 16 → t.1 118 (16 * y + j) = s.1 118 (16 * y + j)) (hJ : ∀ a, a ≠ 39 + 2 * x → a ≠ 40 + 2 * x → J a = I a) (hs : rcS t J x) : rC t J L := by
  obtain ⟨r1, r2, r3, r4, r5, r6, r7⟩ := h
  unfold rcM at r1; unfold rcN at r2; unfold rcF at r3; unfold rcK at r4; unfold rcT at r5
  refine ⟨?_, ?_, ?_, ?_, ?_, fun y hy => ?_, fun g hg => ?_⟩
  · unfold rcM; rw [hJ 3 (by omega) (by omega), hJ 38 (by omega) (by omega), e1 115 (by decide) (by decide), e1 116 (by decide) (by decide), e2]; exact r1
  · unfold rcN; rw [hJ 3 (by omega) (by omega), hJ 36 (by omega) (by omega), e1 115 (by decide) (by decide), e1 128 (by decide) (by decide)]; exact r2
  · unfold rcF; rw [hJ 3 (by omega) (by omega), hJ 37 (by omega) (by omega), e1 115 (by decide) (by decide), e2]; exact r3
  · unfold rcK; rw [hJ 32 (by omega) (by omega), hJ 33 (by omega) (by omega), e1 115 (by decide) (by decide), e1 148 (by decide) (by decide)]; exact r4
  · unfold rcT; rw [hJ 27 (by omega) (by omega), hJ 28 (by omega) (by omega)]; exact r5
  · by_cases e : y = x
    · subst e; exact hs
    · have := r6 y hy
      unfold rcS at this ⊢
      rw [hJ (39 + 2 * y) (by omega) (by omega), hJ (40 + 2 * y) (by omega) (by omega), e3 y e]
      exact ⟨this.1, fun q => ⟨(this.2 q).1, fun j hj => by rw [e4 y j e hj]; exact (this.2 q).2 j hj⟩⟩
  · have := r7 g hg; unfold rcG tb at this ⊢; rw [hJ (55 + 5 * g) (by omega) (by omega), hJ (59 + 5 * g) (by omega) (by omega), e1 122 (by decide) (by decide), e1 123 (by decide) (by decide), e1 124 (by decide) (by decide)]; exact this
theorem wF_sh {s t : sG} (h : wF s) {x : Nat} (e1 : ∀ a, a = 122 ∨ a = 123 ∨ a = 124 → t.1 a = s.1 a) (e3 : ∀ y, y ≠ x → t.1 117 y = s.1 117 y) (e4 : ∀ y j, y ≠ x → j < 16 → t.1 118 (16 * y + j) = s.1 118 (16 * y + j)) (hs : wfS t x) : wF t := by
  have q3 := e1 122 (by omega); have q4 := e1 123 (by omega); have q5 := e1 124 (by omega)
  obtain ⟨h1, h2, h3⟩ := h
  refine ⟨fun y hy => ?_, fun g hg => ?_, fun g hg => ?_⟩
  · by_cases e : y = x
    · subst e; exact hs
    · have := h1 y hy; unfold wfS at this ⊢; rw [e3 y e]; exact ⟨this.1, fun q j hj hz => by rw [e4 y j e hj]; exact this.2 q j hj hz⟩
  · have := h2 g hg; unfold wfT at this ⊢; rw [q4]; exact this
  · have := h3 g hg; unfold wfG tb at this ⊢; rw [q3, q4, q5]; exact this
def sClr (s : sG) (x : Nat) (n : Int32) : sG := (mfill (ma_up s.1 117 (ma_up (s.1 117) x n)) 118 (16 * x) 16 (fun _ => 0), s.2)
theorem sClr_r {s : sG} {x : Nat} {n : Int32} {a : Nat} (h : a ≠ 117) (h' : a ≠ 118) : (sClr s x n).1 a = s.1 a := by unfold sClr; dsimp only; rw [mfill_n _ _ _ _ h', ma_up_n _ _ h]
theorem sClr_7 (s : sG) (x : Nat) (n : Int32) : (sClr s x n).1 117 = ma_up (s.1 117) x n := by unfold sClr; dsimp only; rw [mfill_n _ _ _ _ (by decide), ma_up_s]
theorem sClr_8 (s : sG) (x : Nat) (n : Int32) (i : Nat) : (sClr s x n).1 118 i = if 16 * x ≤ i ∧ i < 16 * x + 16 then 0 else s.1 118 i := by unfold sClr; dsimp only; rw [mfill_at, ma_up_n _ _ (by decide)]
theorem ob_clr (I : ma_I) (L : ma_L) (x : Nat) (n : Int32) : ob (mClr I x n) L = sClr (ob I L) x n := by
  unfold ob mClr sClr mfill
  rw [oI_up _ rfl, oI_up _ rfl]
  rfl
theorem cS_clr (I : ma_I) (L : ma_L) (x : Nat) (n : Int32) : cS I L (mClr I x n) L := cS_up (cS_up cS_rf (by omega)) (by omega)
theorem mS_bg (I : ma_I) (L : ma_L) {x : Nat} (hx : x < 8) (n : Int32) : mS I L (cBg I (39 + 2 * x) (40 + 2 * x) n) L := mS_up (mS_up mS_rf (by omega)) (by omega)
theorem cBg_z (I : ma_I) (x : Nat) (n : Int32) : cBg I (39 + 2 * x) (40 + 2 * x) n (39 + 2 * x) 1 = n := by unfold cBg; rw [ma_up_s, ma_up_s]
theorem cBg_r (I : ma_I) (x : Nat) (n : Int32) {j : Nat} (hj : j < 16) : cBg I (39 + 2 * x) (40 + 2 * x) n (40 + 2 * x) j = 0 := by unfold cBg; rw [ma_up_n _ _ (by omega), mfill_at, if_pos (by omega)]
theorem cBg_n (I : ma_I) (x : Nat) (n : Int32) {a : Nat} (h : a ≠ 39 + 2 * x) (h' : a ≠ 40 + 2 * x) : cBg I (39 + 2 * x) (40 + 2 * x) n a = I a := by unfold cBg; rw [ma_up_n _ _ h, mfill_n _ _ _ _ h']
theorem rC_clr {s : sG} {I : ma_I} {L : ma_L} (h : rC s I L) {x : Nat} (hx : x < 8) {n : Int32} (hn : 0 ≤ n) : rC (sClr s x n) (cBg I (39 + 2 * x) (40 + 2 * x) n) L := by
  refine rC_sh h hx rfl (fun a q1 q2 => sClr_r q1 q2) (fun y hy => by rw [sClr_7, ma_up_n _ _ hy]) (fun y j hy hj => by rw [sClr_8, if_neg (by omega)]) (fun a q1 q2 => cBg_n I x n q1 q2) ⟨fun q => ?_, fun _ => ⟨?_, fun j hj => ?_⟩⟩
  · rw [sClr_7, ma_up_s] at q; rw [nb_le] at hn; rw [nb_lt] at q; omega
  · rw [sClr_7, ma_up_s, cBg_z]
  · rw [cBg_r I x n hj, sClr_8, if_pos (by omega)]
theorem wF_clr {s : sG} (h : wF s) (x : Nat) {n : Int32} (hn : n ≤ 16) : wF (sClr s x n) := by
  refine wF_sh (x := x) h (fun a q => sClr_r (by omega) (by omega)) (fun y hy => by rw [sClr_7, ma_up_n _ _ hy]) (fun y j hy hj => by rw [sClr_8, if_neg (by omega)]) ⟨?_, fun _ j hj _ => by rw [sClr_8, if_pos (by omega)]⟩
  rw [sClr_7, ma_up_s]
  rw [nb_le] at hn
  have : (16 : Int32).toInt = 16 := by decide
  omega
def sTr (s : sG) (x : Nat) : sG := (ma_up s.1 117 (ma_up (s.1 117) x (-9)), s.2)
theorem sTr_r {s : sG} {x a : Nat} (h : a ≠ 117) : (sTr s x).1 a = s.1 a := ma_up_n _ _ h
theorem sTr_7 (s : sG) (x : Nat) : (sTr s x).1 117 = ma_up (s.1 117) x (-9) := rfl
theorem ob_tr (I : ma_I) (L : ma_L) (x : Nat) : ob (ma_up I 117 (ma_up (I 117) x (-9))) L = sTr (ob I L) x := by
  unfold ob sTr
  rw [oI_up _ rfl]
  rfl
theorem rC_tr {s : sG} {I : ma_I} {L : ma_L} (h : rC s I L) {x : Nat} (hx : x < 8) : rC (sTr s x) (cBg I (39 + 2 * x) (40 + 2 * x) (-1)) L := by
  refine rC_sh h hx rfl (fun a q1 _ => sTr_r q1) (fun y hy => by rw [sTr_7, ma_up_n _ _ hy]) (fun y j _ _ => by rw [sTr_r (by decide)]) (fun a q1 q2 => cBg_n I x _ q1 q2) ⟨fun _ => cBg_z I x _, fun q => ?_⟩
  rw [sTr_7, ma_up_s] at q
  exact absurd q (by decide)
theorem wF_tr {s : sG} (h : wF s) (x : Nat) : wF (sTr s x) := by
  refine wF_sh (x := x) h (fun a q => sTr_r (by omega)) (fun y hy => by rw [sTr_7, ma_up_n _ _ hy]) (fun y j _ _ => by rw [sTr_r (by decide)]) ⟨?_, fun q => ?_⟩
  · rw [sTr_7, ma_up_s]; decide
  · rw [sTr_7, ma_up_s] at q; exact absurd q (by decide)
def sLy (s : sG) (x m : Nat) (v : Int32) : sG := (ma_up (sA s (s.1 118 (16 * x + m))).1 118 (ma_up (s.1 118) (16 * x + m) v), s.2)
theorem sLy_r {s : sG} {x m a : Nat} {v : Int32} (h : a ≠ 118) : (sLy s x m v).1 a = (sA s (s.1 118 (16 * x + m))).1 a := ma_up_n _ _ h
theorem sLy_8 (s : sG) (x m : Nat) (v : Int32) : (sLy s x m v).1 118 = ma_up (s.1 118) (16 * x + m) v := rfl
theorem ob_ly (I : ma_I) (L : ma_L) (x m : Nat) (v : Int32) : ob (ma_up (ma_up I 115 (ma_up (I 115) 2 ((I 118) ((16 * x) + m)))) 118 (ma_up (I 118) ((16 * x) + m) v)) L = sLy (ob I L) x m v := by
  unfold ob sLy sA
  rw [oI_up _ rfl, oI_uf _ rfl]
  rfl
theorem rC_ly {s : sG} {I J6 : ma_I} {L : ma_L} (hW : wF s) (h : rC s I L) {x m : Nat} (hx : x < 8) (hm : m < 16) (h0 : ¬ s.1 117 x < 0) (v : Int32) (hJ : J6 = ma_up I 3 (ma_up (I 3) 13 (I (40 + 2 * x) m))) : rC (sLy s x m v) (ma_up J6 (40 + 2 * x) (ma_up (J6 (40 + 2 * x)) m v)) L := by
  have r := kS_r (h.2.2.2.2.2.1 x hx) h0
  have hA : rC (sA s (s.1 118 (16 * x + m))) J6 L := by rw [hJ]; exact rC_A h (r m hm)
  refine rC_sh hA hx rfl (fun a _ q2 => sLy_r q2) (fun y _ => by rw [sLy_r (by decide)]) (fun y j hy hj => by rw [sLy_8, ma_up_n _ _ (by omega), sA_r (by decide)]) (fun a _ q2 => ma_up_n _ _ q2) ⟨fun q => ?_, fun _ => ⟨?_, fun j hj => ?_⟩⟩
  · rw [sLy_r (by decide), sA_r (by decide)] at q; exact absurd q h0
  · rw [sLy_r (by decide), ma_up_n _ _ (by omega)]; exact kS_e (hA.2.2.2.2.2.1 x hx) (by rw [sA_r (by decide)]; exact h0)
  · rw [sLy_8, ma_up_s]
    by_cases e : j = m
    · subst e; rw [ma_up_s, ma_up_s]
    · rw [ma_up_n _ _ e, ma_up_n _ _ (by omega)]
      have := kS_r (hA.2.2.2.2.2.1 x hx) (by rw [sA_r (by decide)]; exact h0) j hj
      rw [this, sA_r (by decide)]
theorem wF_ly {s : sG} (h : wF s) {x m : Nat} (hx : x < 8) (hm : (m : Int) < (s.1 117 x).toInt) (v : Int32) : wF (sLy s x m v) := by
  refine wF_sh (x := x) h (fun a q => by rw [sLy_r (by omega), sA_r (by omega)]) (fun y _ => by rw [sLy_r (by decide), sA_r (by decide)]) (fun y j hy hj => by rw [sLy_8, ma_up_n _ _ ?_]; have := (h.1 x hx).1; omega) ⟨?_, fun q j hj hz => ?_⟩
  · rw [sLy_r (by decide), sA_r (by decide)]; exact (h.1 x hx).1
  · rw [sLy_r (by decide), sA_r (by decide)] at q hz
    rw [sLy_8, ma_up_n _ _ (by omega)]
    exact (h.1 x hx).2 q j hj hz
theorem ix_sz {z i : Int32} (h0 : ¬ z < 0) (h : ¬ ((¬ i < 0) ∧ (¬ (z - 1) < i))) : ix z.toInt.toNat i = none := ix_no (fun q => h ⟨by rw [nb_lt, nb_0]; omega, by
  rw [nb_lt, nb_0] at h0
  have z1 : (1 : Int32).toInt = 1 := by decide
  have hz := nb_rng z
  rw [nb_lt, nb_subI (by omega) (by omega)]
  omega⟩)
theorem ix_sl {z i : Int32} (h : ¬ i < z) : ix z.toInt.toNat i = none := ix_no (fun q => by rw [nb_lt] at h; omega)
theorem ix_so {z : Int32} {m : Nat} (h : nI m < z) (hm : m < 2147483648) : (m : Int) < z.toInt := by rw [nb_lt, nI_toInt hm] at h; exact h
theorem ix_sm {z : Int32} {m : Nat} (h : (m : Int) < z.toInt) : ix z.toInt.toNat (nI m) = some m := by have := nb_rng z; exact ix_s (by omega) (by omega)
def F_sheet (s : sG) (a n : Int32) : Int32 × sG := match ix 8 a with
  | none => (-1, s)
  | some x => if n ≤ 16 then (if 0 ≤ n then (n, sClr s x n) else (-3, sM s 5)) else (-1, s)
theorem W_sheet {s : sG} (h : wF s) (a1 a2 : Int32) : wF (F_sheet s a1 a2).2 := by
  unfold F_sheet
  split
  · exact h
  · split
    · rename_i hn
      split
      · exact wF_clr h _ hn
      · exact wF_M h _
    · exact h
theorem C_sheet {g : ma_G} {I : ma_I} {L : ma_L} {P : ma_P} {s : sG} (hW : wF s) (hC : rC s I L) (s_ n_ : Int32) (k : ∀ I1 L1, rC (F_sheet s s_ n_).2 I1 L1 → mS I L I1 L1 → P (some (.int (F_sheet s s_ n_).1)) HS I1 L1 RF 146) : CT g yX7_sheet cX7_sheet 3 (some .int) rX7_sheet [.ref 3, .int s_, .int n_] P HS I L RF 146 := by
  obtain ⟨hcM, hcN, hcF, hcK, hcT, hcS, hcG⟩ := id hC
  exact t_X7_sheet s_ n_ 
    (fun h1 => by
      have e_ : F_sheet s s_ n_ = ((-1), s) := by simp only [F_sheet, (show ix 8 s_ = none from (ix_n1 h1 ln_8))]
      rw [e_] at k
      dsimp only at k
      exact k _ _ hC mS_rf)
    (fun n2 h2 e3 h4 h5 => by
      subst e3
      have e_ : F_sheet s (nI n2) n_ = (n_, (sClr s n2 n_)) := by simp only [F_sheet, ix_s (n := 8) h2, if_pos h4, if_pos h5]
      rw [e_] at k
      dsimp only at k
      exact k _ _ (rC_clr hC (by omega) h5) (mS_bg _ _ (by omega) _))
    (fun n2 h2 e3 h4 h5 => by
      subst e3
      have e_ : F_sheet s (nI n2) n_ = ((-3), (sM s 5)) := by simp only [F_sheet, ix_s (n := 8) h2, if_pos h4, if_neg h5]
      rw [e_] at k
      dsimp only at k
      exact k _ _ (rC_R hC (by omega)) (mS_R _ _ _))
    (fun n2 h2 e3 h4 => by
      subst e3
      have e_ : F_sheet s (nI n2) n_ = ((-1), s) := by simp only [F_sheet, ix_s (n := 8) h2, if_neg h4]
      rw [e_] at k
      dsimp only at k
      exact k _ _ hC mS_rf)
theorem M_sheet {g : ma_G} {I : ma_I} {L : ma_L} {P : ma_P} (hW : wF (ob I L))  (s_ n_ : Int32) (k : ∀ I2 L2, ob I2 L2 = (F_sheet (ob I L) s_ n_).2 → cS I L I2 L2 → P (some (.int (F_sheet (ob I L) s_ n_).1)) HS I2 L2 RF 146) : CT g yX8_sheet cX8_sheet 3 (some .int) rX8_sheet [.ref 115, .int s_, .int n_] P HS I L RF 146 := by
  exact t_X8_sheet s_ n_ 
    (fun h1 => by
      have e_ : F_sheet (ob I L) s_ n_ = ((-1), (ob I L)) := by simp only [F_sheet, (show ix 8 s_ = none from (ix_n2 h1 li_8))]
      rw [e_] at k
      dsimp only at k
      exact k _ _ rfl cS_rf)
    (fun n2 h2 e3 h4 h5 => by
      subst e3
      have e_ : F_sheet (ob I L) (nI n2) n_ = (n_, (sClr (ob I L) n2 n_)) := by simp only [F_sheet, ix_s (n := 8) h2, if_pos h4, if_pos h5]
      rw [e_] at k
      dsimp only at k
      exact k _ _ (ob_clr _ _ _ _) (cS_clr _ _ _ _))
    (fun n2 h2 e3 h4 h5 => by
      subst e3
      have e_ : F_sheet (ob I L) (nI n2) n_ = ((-3), (sM (ob I L) 5)) := by simp only [F_sheet, ix_s (n := 8) h2, if_pos h4, if_neg h5]
      rw [e_] at k
      dsimp only at k
      exact k _ _ (ob_M _ _ _) (cS_M _ _ _))
    (fun n2 h2 e3 h4 => by
      subst e3
      have e_ : F_sheet (ob I L) (nI n2) n_ = ((-1), (ob I L)) := by simp only [F_sheet, ix_s (n := 8) h2, if_neg h4]
      rw [e_] at k
      dsimp only at k
      exact k _ _ rfl cS_rf)
theorem p_sheet {g : ma_G} {I : ma_I} {L : ma_L} {P1 : ma_P} (hI : INV I L) (a1 a2 : Int32) (k : ∀ (r : Int32) (I1 : ma_I) (L1 : ma_L), (∀ {P2 : ma_P}, (∀ (I2 : ma_I) (L2 : ma_L), INV I2 L2 → P2 (some (.int r)) HS I2 L2 RF 146) → CT g yX8_sheet cX8_sheet 3 (some .int) rX8_sheet [.ref 115, .int a1, .int a2] P2 HS I1 L1 RF 146) → P1 (some (.int r)) HS I1 L1 RF 146) : CT g yX7_sheet cX7_sheet 3 (some .int) rX7_sheet [.ref 3, .int a1, .int a2] P1 HS I L RF 146 :=
  pair_i (F := F_sheet (ob I L) a1 a2) hI (W_sheet hI.1 a1 a2) (fun P kk => C_sheet hI.1 hI.2 a1 a2 kk) (fun I1 L1 P e kk => M_sheet (by rw [e]; exact hI.1)  a1 a2 (by rw [e]; exact kk)) k
def F_lay (s : sG) (a i v : Int32) : Int32 × sG := match gS s a with
  | .inl r => r
  | .inr x => match ix (s.1 117 x).toInt.toNat i with
    | none => (-3, sM s 2)
    | some m => (1, sLy s x m v)
theorem W_lay {s : sG} (h : wF s) (a1 a2 a3 : Int32) : wF (F_lay s a1 a2 a3).2 := by
  unfold F_lay
  split
  · rename_i e; exact gS_w h e
  · rename_i x e
    split
    · exact wF_M h _
    · rename_i m hm
      exact wF_ly h (gS_b e).1 (by have := ix_b hm; omega) _
theorem C_lay {g : ma_G} {I : ma_I} {L : ma_L} {P : ma_P} {s : sG} (hW : wF s) (hC : rC s I L) (s_ i_ v_ : Int32) (k : ∀ I1 L1, rC (F_lay s s_ i_ v_).2 I1 L1 → mS I L I1 L1 → P (some (.int (F_lay s s_ i_ v_).1)) HS I1 L1 RF 146) : CT g yX7_lay cX7_lay 5 (some .int) rX7_lay [.ref 3, .int s_, .int i_, .int v_] P HS I L RF 146 := by
  obtain ⟨hcM, hcN, hcF, hcK, hcT, hcS, hcG⟩ := id hC
  exact t_X7_lay s_ i_ v_ (kZ hW hcS)
    (fun n2 h2 e3 h4 h5 => by
      subst e3
      have e_ : F_lay s (nI n2) i_ v_ = ((-3), (sM s 2)) := by simp only [F_lay, gS_o (s := s) h2 (kS_o (hcS n2 (by omega)) (Decidable.not_not.mp h4)), ix_lt (n := (s.1 117 n2).toInt.toNat) h5]
      rw [e_] at k
      dsimp only at k
      exact k _ _ (rC_R hC (by omega)) (mS_R _ _ _))
    (fun n2 h2 e3 h4 m h6 e7 h8 J6 h10 => by
      subst e3
      subst e7
      have hz_ := ix_so h8 (by omega)
      rw [kS_e (hcS n2 (by omega)) (kS_o (hcS n2 (by omega)) (Decidable.not_not.mp h4))] at hz_
      have e_ : F_lay s (nI n2) (nI m) v_ = (1, (sLy s n2 m v_)) := by simp only [F_lay, gS_o (s := s) h2 (kS_o (hcS n2 (by omega)) (Decidable.not_not.mp h4)), ix_sm hz_]
      rw [e_] at k
      dsimp only at k
      exact k _ _ (rC_ly hW hC (by omega) (by omega) (kS_o (hcS n2 (by omega)) (Decidable.not_not.mp h4)) v_ h10) (by rw [h10]; exact mS_up (mS_up mS_rf (by omega)) (by omega)))
    (fun n2 h2 e3 h4 h5 h6 => by
      subst e3
      have e_ : F_lay s (nI n2) i_ v_ = ((-3), (sM s 2)) := by simp only [F_lay, gS_o (s := s) h2 (kS_o (hcS n2 (by omega)) (Decidable.not_not.mp h4)), (show ix (s.1 117 n2).toInt.toNat i_ = none from ix_sl (by rw [← kS_e (hcS n2 (by omega)) (kS_o (hcS n2 (by omega)) (Decidable.not_not.mp h4))]; exact h6))]
      rw [e_] at k
      dsimp only at k
      exact k _ _ (rC_R hC (by omega)) (mS_R _ _ _))
    (fun n2 h2 e3 h4 => by
      subst e3
      have e_ : F_lay s (nI n2) i_ v_ = ((-3), (sM s 1)) := by simp only [F_lay, gS_m (s := s) h2 (kS_m (hcS n2 (by omega)) h4)]
      rw [e_] at k
      dsimp only at k
      exact k _ _ (rC_R hC (by omega)) (mS_R _ _ _))
    (fun h1 => by
      have e_ : F_lay s s_ i_ v_ = ((-1), s) := by simp only [F_lay, gS_n (s := s) (ix_n1 h1 ln_8)]
      rw [e_] at k
      dsimp only at k
      exact k _ _ hC mS_rf)
theorem M_lay {g : ma_G} {I : ma_I} {L : ma_L} {P : ma_P} (hW : wF (ob I L))  (s_ i_ v_ : Int32) (k : ∀ I2 L2, ob I2 L2 = (F_lay (ob I L) s_ i_ v_).2 → cS I L I2 L2 → P (some (.int (F_lay (ob I L) s_ i_ v_).1)) HS I2 L2 RF 146) : CT g yX8_lay cX8_lay 5 (some .int) rX8_lay [.ref 115, .int s_, .int i_, .int v_] P HS I L RF 146 := by
  exact t_X8_lay s_ i_ v_ (fun j hj => (hW.1 j hj).1)
    (fun j1 h2 e3 h4 m h6 h7 e8 => by
      subst e3
      subst e8
      have e_ : F_lay (ob I L) (nI j1) (nI m) v_ = (1, (sLy (ob I L) j1 m v_)) := by simp only [F_lay, gS_o (s := (ob I L)) h2 (kS_w (s := ob I L) h4), (show ix ((ob I L).1 117 j1).toInt.toNat (nI m) = some m from ix_sm h7)]
      rw [e_] at k
      dsimp only at k
      exact k _ _ (ob_ly _ _ _ _ _) (cS_up (cS_up cS_rf (by omega)) (by omega)))
    (fun j1 h2 e3 h4 h5 => by
      subst e3
      have e_ : F_lay (ob I L) (nI j1) i_ v_ = ((-3), (sM (ob I L) 2)) := by simp only [F_lay, gS_o (s := (ob I L)) h2 (kS_w (s := ob I L) h4), (show ix ((ob I L).1 117 j1).toInt.toNat i_ = none from ix_sz (kS_w (s := ob I L) h4) h5)]
      rw [e_] at k
      dsimp only at k
      exact k _ _ (ob_M _ _ _) (cS_M _ _ _))
    (fun j5 h2 e3 h4 => by
      subst e3
      have e_ : F_lay (ob I L) (nI j5) i_ v_ = ((-3), (sM (ob I L) 1)) := by simp only [F_lay, gS_m (s := (ob I L)) h2 (kS_y (s := ob I L) h4)]
      rw [e_] at k
      dsimp only at k
      exact k _ _ (ob_M _ _ _) (cS_M _ _ _))
    (fun h1 => by
      have e_ : F_lay (ob I L) s_ i_ v_ = ((-1), (ob I L)) := by simp only [F_lay, gS_n (s := (ob I L)) (ix_n2 h1 li_8)]
      rw [e_] at k
      dsimp only at k
      exact k _ _ rfl cS_rf)
theorem p_lay {g : ma_G} {I : ma_I} {L : ma_L} {P1 : ma_P} (hI : INV I L) (a1 a2 a3 : Int32) (k : ∀ (r : Int32) (I1 : ma_I) (L1 : ma_L), (∀ {P2 : ma_P}, (∀ (I2 : ma_I) (L2 : ma_L), INV I2 L2 → P2 (some (.int r)) HS I2 L2 RF 146) → CT g yX8_lay cX8_lay 5 (some .int) rX8_lay [.ref 115, .int a1, .int a2, .int a3] P2 HS I1 L1 RF 146) → P1 (some (.int r)) HS I1 L1 RF 146) : CT g yX7_lay cX7_lay 5 (some .int) rX7_lay [.ref 3, .int a1, .int a2, .int a3] P1 HS I L RF 146 :=
  pair_i (F := F_lay (ob I L) a1 a2 a3) hI (W_lay hI.1 a1 a2 a3) (fun P kk => C_lay hI.1 hI.2 a1 a2 a3 kk) (fun I1 L1 P e kk => M_lay (by rw [e]; exact hI.1)  a1 a2 a3 (by rw [e]; exact kk)) k
def F_tear (s : sG) (a : Int32) : Int32 × sG := match gS s a with
  | .inl r => r
  | .inr x => (1, sTr s x)
theorem W_tear {s : sG} (h : wF s) (a1 : Int32) : wF (F_tear s a1).2 := by
  unfold F_tear
  split
  · rename_i e; exact gS_w h e
  · exact wF_tr h _
theorem C_tear {g : ma_G} {I : ma_I} {L : ma_L} {P : ma_P} {s : sG} (hW : wF s) (hC : rC s I L) (s_ : Int32) (k : ∀ I1 L1, rC (F_tear s s_).2 I1 L1 → mS I L I1 L1 → P (some (.int (F_tear s s_).1)) HS I1 L1 RF 146) : CT g yX7_tear cX7_tear 2 (some .int) rX7_tear [.ref 3, .int s_] P HS I L RF 146 := by
  obtain ⟨hcM, hcN, hcF, hcK, hcT, hcS, hcG⟩ := id hC
  exact t_X7_tear s_ 
    (fun n2 h2 e3 h4 => by
      subst e3
      have e_ : F_tear s (nI n2) = (1, (sTr s n2)) := by simp only [F_tear, gS_o (s := s) h2 (kS_o (hcS n2 (by omega)) (Decidable.not_not.mp h4))]
      rw [e_] at k
      dsimp only at k
      exact k _ _ (rC_tr hC (by omega)) (mS_bg _ _ (by omega) _))
    (fun n2 h2 e3 h4 => by
      subst e3
      have e_ : F_tear s (nI n2) = ((-3), (sM s 1)) := by simp only [F_tear, gS_m (s := s) h2 (kS_m (hcS n2 (by omega)) h4)]
      rw [e_] at k
      dsimp only at k
      exact k _ _ (rC_R hC (by omega)) (mS_R _ _ _))
    (fun h1 => by
      have e_ : F_tear s s_ = ((-1), s) := by simp only [F_tear, gS_n (s := s) (ix_n1 h1 ln_8)]
      rw [e_] at k
      dsimp only at k
      exact k _ _ hC mS_rf)
theorem M_tear {g : ma_G} {I : ma_I} {L : ma_L} {P : ma_P} (hW : wF (ob I L))  (s_ : Int32) (k : ∀ I2 L2, ob I2 L2 = (F_tear (ob I L) s_).2 → cS I L I2 L2 → P (some (.int (F_tear (ob I L) s_).1)) HS I2 L2 RF 146) : CT g yX8_tear cX8_tear 3 (some .int) rX8_tear [.ref 115, .int s_] P HS I L RF 146 := by
  exact t_X8_tear s_ 
    (fun j1 h2 e3 h4 => by
      subst e3
      have e_ : F_tear (ob I L) (nI j1) = (1, (sTr (ob I L) j1)) := by simp only [F_tear, gS_o (s := (ob I L)) h2 (kS_w (s := ob I L) h4)]
      rw [e_] at k
      dsimp only at k
      exact k _ _ (ob_tr _ _ _) (cS_up cS_rf (by omega)))
    (fun j5 h2 e3 h4 => by
      subst e3
      have e_ : F_tear (ob I L) (nI j5) = ((-3), (sM (ob I L) 1)) := by simp only [F_tear, gS_m (s := (ob I L)) h2 (kS_y (s := ob I L) h4)]
      rw [e_] at k
      dsimp only at k
      exact k _ _ (ob_M _ _ _) (cS_M _ _ _))
    (fun h1 => by
      have e_ : F_tear (ob I L) s_ = ((-1), (ob I L)) := by simp only [F_tear, gS_n (s := (ob I L)) (ix_n2 h1 li_8)]
      rw [e_] at k
      dsimp only at k
      exact k _ _ rfl cS_rf)
theorem p_tear {g : ma_G} {I : ma_I} {L : ma_L} {P1 : ma_P} (hI : INV I L) (a1 : Int32) (k : ∀ (r : Int32) (I1 : ma_I) (L1 : ma_L), (∀ {P2 : ma_P}, (∀ (I2 : ma_I) (L2 : ma_L), INV I2 L2 → P2 (some (.int r)) HS I2 L2 RF 146) → CT g yX8_tear cX8_tear 3 (some .int) rX8_tear [.ref 115, .int a1] P2 HS I1 L1 RF 146) → P1 (some (.int r)) HS I1 L1 RF 146) : CT g yX7_tear cX7_tear 2 (some .int) rX7_tear [.ref 3, .int a1] P1 HS I L RF 146 :=
  pair_i (F := F_tear (ob I L) a1) hI (W_tear hI.1 a1) (fun P kk => C_tear hI.1 hI.2 a1 kk) (fun I1 L1 P e kk => M_tear (by rw [e]; exact hI.1)  a1 (by rw [e]; exact kk)) k
def F_findings (s : sG) (w : Int32) : Int32 × sG := if w.toInt < 1 ∨ 5 < w.toInt then (-1, s) else (s.1 116 w.toInt.toNat, s)
theorem W_findings {s : sG} (h : wF s) (a1 : Int32) : wF (F_findings s a1).2 := by
  unfold F_findings
  split
  · exact h
  · exact h
theorem i1_ : (1 : Int32).toInt = 1 := by decide
theorem i5_ : (5 : Int32).toInt = 5 := by decide
theorem C_findings {g : ma_G} {I : ma_I} {L : ma_L} {P : ma_P} {s : sG} (hW : wF s) (hC : rC s I L) (f_ : Int32) (k : ∀ I1 L1, rC (F_findings s f_).2 I1 L1 → mS I L I1 L1 → P (some (.int (F_findings s f_).1)) HS I1 L1 RF 146) : CT g yX7_findings cX7_findings 2 (some .int) rX7_findings [.ref 3, .int f_] P HS I L RF 146 := by
  obtain ⟨hcM, hcN, hcF, hcK, hcT, hcS, hcG⟩ := id hC
  exact t_X7_findings f_ 
    (fun h1 => by
      have q_ := h1
      rw [nb_lt, i1_] at q_
      have e_ : F_findings s f_ = ((-1), s) := if_pos (by omega)
      rw [e_] at k
      dsimp only at k
      exact k _ _ hC mS_rf)
    (fun n3 h2 h3 e4 => by
      subst e4
      have e_ : F_findings s (nI n3) = (s.1 116 n3, s) := by unfold F_findings; rw [nI_toInt (by omega), if_neg (by omega)]; rfl
      rw [e_] at k
      dsimp only at k
      rw [hcM.2.2.2.2 n3 (by omega)]
      exact k _ _ hC mS_rf)
    (fun h1 h2 => by
      have q_ := h2
      rw [nb_le, i5_] at q_
      have e_ : F_findings s f_ = ((-1), s) := if_pos (by omega)
      rw [e_] at k
      dsimp only at k
      exact k _ _ hC mS_rf)
theorem M_findings {g : ma_G} {I : ma_I} {L : ma_L} {P : ma_P} (hW : wF (ob I L))  (w_ : Int32) (k : ∀ I2 L2, ob I2 L2 = (F_findings (ob I L) w_).2 → cS I L I2 L2 → P (some (.int (F_findings (ob I L) w_).1)) HS I2 L2 RF 146) : CT g yX8_findings cX8_findings 2 (some .int) rX8_findings [.ref 115, .int w_] P HS I L RF 146 := by
  exact t_X8_findings w_ 
    (fun h1 => by
      have q_ := h1
      rw [nb_lt, nb_lt, i1_, i5_] at q_
      have e_ : F_findings (ob I L) w_ = ((-1), (ob I L)) := if_pos (by omega)
      rw [e_] at k
      dsimp only at k
      exact k _ _ rfl cS_rf)
    (fun n2 h2 h3 e4 => by
      subst e4
      have e_ : F_findings (ob I L) (nI n2) = ((ob I L).1 116 n2, (ob I L)) := by unfold F_findings; rw [nI_toInt (by omega), if_neg (by omega)]; rfl
      rw [e_] at k
      dsimp only at k
      exact k _ _ rfl cS_rf)
theorem p_findings {g : ma_G} {I : ma_I} {L : ma_L} {P1 : ma_P} (hI : INV I L) (a1 : Int32) (k : ∀ (r : Int32) (I1 : ma_I) (L1 : ma_L), (∀ {P2 : ma_P}, (∀ (I2 : ma_I) (L2 : ma_L), INV I2 L2 → P2 (some (.int r)) HS I2 L2 RF 146) → CT g yX8_findings cX8_findings 2 (some .int) rX8_findings [.ref 115, .int a1] P2 HS I1 L1 RF 146) → P1 (some (.int r)) HS I1 L1 RF 146) : CT g yX7_findings cX7_findings 2 (some .int) rX7_findings [.ref 3, .int a1] P1 HS I L RF 146 :=
  pair_i (F := F_findings (ob I L) a1) hI (W_findings hI.1 a1) (fun P kk => C_findings hI.1 hI.2 a1 kk) (fun I1 L1 P e kk => M_findings (by rw [e]; exact hI.1)  a1 (by rw [e]; exact kk)) k
