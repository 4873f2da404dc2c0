/-- a table of small numbers, symmetric -/
def tSm (T : Nat → Int32) : Prop := (∀ j, j < 16 → -4 ≤ (T j).toInt ∧ (T j).toInt ≤ 4) ∧ ∀ i j, i < 4 → j < 4 → T (4 * i + j) = T (4 * j + i)
def t64 (T : Nat → Int32) : Nat → Int64 := fun j => (T j).toInt64
def zz (T : Nat → Int32) : Nat → Int := fun j => (T j).toInt
theorem i2l_o (x : Int32) : Int32.toInt64 x = Int64.ofInt x.toInt := by
  have := nb_rng x
  rw [nb_eqL, nb_i2l, o6_toInt (by omega)]
theorem tSm_sy {T : Nat → Int32} (h : tSm T) : ∀ j, j < 16 → T j = T (sy j) := fun j hj => by
  match j, hj with
  | 0, _ => rfl
  | 1, _ => rfl
  | 2, _ => rfl
  | 3, _ => rfl
  | 4, _ => exact h.2 1 0 (by omega) (by omega)
  | 5, _ => rfl
  | 6, _ => rfl
  | 7, _ => rfl
  | 8, _ => exact h.2 2 0 (by omega) (by omega)
  | 9, _ => exact h.2 2 1 (by omega) (by omega)
  | 10, _ => rfl
  | 11, _ => rfl
  | 12, _ => exact h.2 3 0 (by omega) (by omega)
  | 13, _ => exact h.2 3 1 (by omega) (by omega)
  | 14, _ => exact h.2 3 2 (by omega) (by omega)
  | 15, _ => rfl
  | j + 16, h => exact absurd h (by omega)
theorem t64_z {T : Nat → Int32} (h : tSm T) : ∀ j, j < 16 → t64 T j = zt (zz T) j := fun j hj => by
  unfold t64 zt zz
  rw [i2l_o, ← tSm_sy h j hj]
theorem zz_B {T : Nat → Int32} (h : tSm T) : zB (zz T) 4 := fun j hj => by have := h.1 j hj; unfold zz; omega
theorem cFc_16 (t : Nat → Int64) (k : Nat) (hk : k < 10) : cFc t k = cFc (fun j => if j < 16 then t j else 0) k := by
  match k, hk with
  | 0, _ => rfl
  | 1, _ => rfl
  | 2, _ => rfl
  | 3, _ => rfl
  | 4, _ => rfl
  | 5, _ => rfl
  | 6, _ => rfl
  | 7, _ => rfl
  | 8, _ => rfl
  | 9, _ => rfl
theorem cFc_c {t t' : Nat → Int64} (h : ∀ j, j < 16 → t j = t' j) {k : Nat} (hk : k < 10) : cFc t k = cFc t' k := by
  rw [cFc_16 t k hk, cFc_16 t' k hk]
  congr 1
  funext j
  by_cases q : j < 16
  · rw [if_pos q, if_pos q, h j q]
  · rw [if_neg q, if_neg q]
/-- the facts of a small table, class and reference -/
theorem fc_t {T : Nat → Int32} (h : tSm T) {t : Nat → Int64} (ht : ∀ j, j < 16 → t j = t64 T j) {k : Nat} (hk : k < 10) : cFc t k = mFc (t64 T) k := by
  rw [cFc_c (fun j hj => (ht j hj).trans (t64_z h j hj)) hk, fc_ok (zz_B h) (by omega) k hk, mFc_c (t64_z h) k]
/-- the table of ground g becomes T -/
def sB (s : sG) (g : Nat) (T : Nat → Int32) : sG := (ma_up (ma_up (ma_up s.1 123 (fun j => if 16 * g ≤ j ∧ j < 16 * g + 16 then T (j - 16 * g) else s.1 123 j)) 122 (ma_up (s.1 122) g 1)) 124 (fun j => if 10 * g ≤ j ∧ j < 10 * g + 10 then mFc (t64 T) (j - 10 * g) else s.1 124 j), s.2)
theorem sB_r {s : sG} {g a : Nat} {T : Nat → Int32} (h1 : a ≠ 122) (h2 : a ≠ 123) (h3 : a ≠ 124) : (sB s g T).1 a = s.1 a := by unfold sB; dsimp only; rw [ma_up_n _ _ h3, ma_up_n _ _ h1, ma_up_n _ _ h2]
theorem sB_2 (s : sG) (g : Nat) (T : Nat → Int32) : (sB s g T).1 122 = ma_up (s.1 122) g 1 := rfl
theorem sB_3 (s : sG) (g : Nat) (T : Nat → Int32) (j : Nat) : (sB s g T).1 123 j = if 16 * g ≤ j ∧ j < 16 * g + 16 then T (j - 16 * g) else s.1 123 j := rfl
theorem sB_4 (s : sG) (g : Nat) (T : Nat → Int32) (j : Nat) : (sB s g T).1 124 j = if 10 * g ≤ j ∧ j < 10 * g + 10 then mFc (t64 T) (j - 10 * g) else s.1 124 j := rfl
theorem sB_t (s : sG) (g : Nat) (T : Nat → Int32) {j : Nat} (hj : j < 16) : (sB s g T).1 123 (16 * g + j) = T j := by rw [sB_3, if_pos (by omega), Nat.add_sub_cancel_left]
theorem sB_f (s : sG) (g : Nat) (T : Nat → Int32) {j : Nat} (hj : j < 10) : (sB s g T).1 124 (10 * g + j) = mFc (t64 T) j := by rw [sB_4, if_pos (by omega), Nat.add_sub_cancel_left]
theorem wF_B {s : sG} (h : wF s) (g : Nat) {T : Nat → Int32} (hT : tSm T) : wF (sB s g T) := by
  refine wF_gr (g := g) h (fun a q => sB_r (by omega) (by omega) (by omega)) (fun y hy => by rw [sB_2, ma_up_n _ _ hy]) (fun y j hy hj => by rw [sB_3, if_neg (by omega)]) (fun y j hy hj => by rw [sB_4, if_neg (by omega)]) ⟨fun j hj => by rw [sB_t s g T hj]; exact hT.1 j hj, fun i j hi hj => by rw [sB_t s g T (by omega), sB_t s g T (by omega)]; exact hT.2 i j hi hj⟩ ⟨Or.inr (by rw [sB_2, ma_up_s]), Or.inr (fun k hk => ?_)⟩
  rw [sB_f s g T hk]
  exact mFc_c (fun j hj => by unfold tb t64; rw [sB_t s g T hj]) k
theorem rC_B {s : sG} {I J : ma_I} {L K Lx : ma_L} (hC : rC s I L) {g : Nat} {T : Nat → Int32} (hT : tSm T) (hL7 : ∀ j, j < 16 → Lx 7 j = t64 T j) (hLx : ∀ x, x ≠ 7 → Lx x = L x) (f1 : ∀ j, j < 10 → J (59 + 5 * g) j = cFc (Lx 7) j) (f2 : J (55 + 5 * g) 0 = 1) (f3 : ∀ x, x ≠ 55 + 5 * g → x ≠ 56 + 5 * g → x ≠ 9 → x ≠ 59 + 5 * g → J x = I x) (f5 : ∀ j, j < 16 → K (57 + 5 * g) j = Lx 7 j) (f6 : ∀ x, x ≠ 57 + 5 * g → x ≠ 58 + 5 * g → x ≠ 10 → x ≠ 11 → K x = Lx x) : rC (sB s g T) J K := by
  refine rC_gr (g := g) hC rfl (fun a q1 q2 q3 => sB_r q1 q2 q3) (fun y hy => by rw [sB_2, ma_up_n _ _ hy]) (fun y j hy hj => by rw [sB_3, if_neg (by omega)]) (fun y j hy hj => by rw [sB_4, if_neg (by omega)]) (fun a q => f3 a (by omega) (by omega) (by omega) (by omega)) (fun a q => (f6 a (by omega) (by omega) (by omega) (by omega)).trans (hLx a (by omega))) ⟨?_, fun j hj => ?_, fun k hk => ?_⟩
  · rw [f2, sB_2, ma_up_s]
  · rw [f5 j hj, hL7 j hj]; unfold tb t64; rw [sB_t s g T hj]
  · rw [f1 k hk, sB_f s g T hk]; exact fc_t hT hL7 hk
theorem mS_B {I J : ma_I} {L K Lx : ma_L} {g : Nat} (hg : g < 12) (hLx : ∀ x, x ≠ 7 → Lx x = L x) (f3 : ∀ x, x ≠ 55 + 5 * g → x ≠ 56 + 5 * g → x ≠ 9 → x ≠ 59 + 5 * g → J x = I x) (f6 : ∀ x, x ≠ 57 + 5 * g → x ≠ 58 + 5 * g → x ≠ 10 → x ≠ 11 → K x = Lx x) : mS I L J K :=
  ⟨fun a ha => f3 a (by omega) (by omega) (by omega) (by omega), fun a ha => (f6 a (by omega) (by omega) (by omega) (by omega)).trans (hLx a (by omega))⟩
theorem ob_B {I I6 J : ma_I} {L K : ma_L} {g : Nat} {T : Nat → Int32} (e3 : ∀ j, I6 123 j = if 16 * g ≤ j ∧ j < 16 * g + 16 then T (j - 16 * g) else I 123 j) (e2 : I6 122 = ma_up (I 122) g 1) (eo : ∀ a, a = 116 ∨ a = 117 ∨ a = 118 ∨ a = 124 ∨ a = 128 ∨ a = 148 ∨ a = 115 → I6 a = I a) (h4 : ∀ j, J 124 j = if 10 * g ≤ j ∧ j < 10 * g + 10 then mFc (K 120) (j - 10 * g) else I6 124 j) (hK : ∀ j, j < 16 → K 120 j = (I6 123 (16 * g + j)).toInt64) (hl : mSl [120] L K) (hx : mSx [121, 124] [9, 10] I6 J) : ob J K = sB (ob I L) g T := by
  have ht : ∀ j, j < 16 → K 120 j = t64 T j := fun j hj => by rw [hK j hj, e3, if_pos (by omega), Nat.add_sub_cancel_left]; rfl
  have hr : ∀ a, a ≠ 115 → a ≠ 121 → a ≠ 124 → J a = I6 a := fun a q1 q2 q3 => hx.1 a q1 (by simp only [List.mem_cons, List.not_mem_nil, or_false]; omega)
  unfold ob
  refine Prod.ext ?_ (oL_sl hl rfl)
  show oI J = (sB (ob I L) g T).1
  funext a j
  by_cases q4 : a = 124
  · subst q4
    rw [oI_r rfl, h4, sB_4]
    by_cases c : 10 * g ≤ j ∧ j < 10 * g + 10
    · rw [if_pos c, if_pos c]; exact mFc_c ht _
    · rw [if_neg c, if_neg c, eo 124 (by omega)]; rfl
  · by_cases q3 : a = 123
    · subst q3
      rw [oI_r rfl, hr 123 (by decide) (by decide) (by decide), e3]; rfl
    · by_cases q2 : a = 122
      · subst q2
        rw [oI_r rfl, hr 122 (by decide) (by decide) (by decide), e2]; rfl
      · rw [sB_r q2 q3 q4]
        show oI J a j = oI I a j
        unfold oI
        by_cases c : oR a = true
        · have ha : a = 116 ∨ a = 117 ∨ a = 118 ∨ a = 128 ∨ a = 148 := by unfold oR at c; simp only [Bool.or_eq_true, beq_iff_eq] at c; omega
          rw [hr a (by omega) (by omega) q4, eo a (by omega)]
        · have c : oR a = false := by simpa using c
          rw [c]
          by_cases q5 : a = 115
          · subst q5
            by_cases k : oF j = true
            · have hj : j ≠ 9 ∧ j ≠ 10 := ⟨fun e => (by rw [e] at k; cases k), fun e => (by rw [e] at k; cases k)⟩
              rw [hx.2 j (by simp only [List.mem_cons, List.not_mem_nil, or_false]; omega), eo 115 (by omega)]
            · have k : oF j = false := by simpa using k
              rw [k]; rfl
          · have : (a == 115) = false := by simpa using q5
            rw [this]; rfl
theorem cS_B {I I6 J : ma_I} {L K : ma_L} (e : ∀ a, a < 115 → I6 a = I a) (hl : mSl [120] L K) (hx : mSx [121, 124] [9, 10] I6 J) : cS I L J K :=
  cS_tr ⟨e, fun _ _ => rfl⟩ (cS_sx hx hl rfl rfl)
theorem wT_sm {s : sG} {g : Nat} (h : wfT s g) : tSm (fun j => s.1 123 (16 * g + j)) := h
theorem th_1 {s : sG} (h : wF s) {g : Nat} (hg : g < 12) (h0 : ¬ s.1 122 g = 0) : s.1 122 g = 1 := (h.2.2 g hg).1.elim (fun q => absurd q h0) id
theorem up_1 {f : Nat → Int32} {g : Nat} (h : f g = 1) : f = ma_up f g 1 := by rw [← h, ma_up_self]
/-- turn -/
def tTu (s : sG) (g : Nat) : Nat → Int32 := fun j => -(s.1 123 (16 * g + j))
theorem neg_sm {x : Int32} (h : -4 ≤ x.toInt ∧ x.toInt ≤ 4) : (-x).toInt = -x.toInt := by rw [Int32.toInt_neg]; exact nb_bmod (by omega) (by omega)
theorem tTu_s {s : sG} {g : Nat} (h : wfT s g) : tSm (tTu s g) := ⟨fun j hj => by have := h.1 j hj; unfold tTu; rw [neg_sm this]; omega, fun i j hi hj => by unfold tTu; rw [h.2 i j hi hj]⟩
theorem tTu_l {s : sG} {g : Nat} (h : wfT s g) {j : Nat} (hj : j < 16) : tb s g j * (-1) + tb s g j * 0 = t64 (tTu s g) j := by
  have q := h.1 j hj
  have e : t64 (tTu s g) j = -(tb s g j) := by
    unfold t64 tTu tb
    rw [i2l_o, i2l_o, neg_sm q, Int64.ofInt_neg]
  rw [e]; grind
def F_turn (s : sG) (q : Int32) : Int32 × sG := match gG s q with
  | .inl r => r
  | .inr g => (mFc (t64 (tTu s g)) 0, sB s g (tTu s g))
theorem W_turn {s : sG} (h : wF s) (a1 : Int32) : wF (F_turn s a1).2 := by
  unfold F_turn
  split
  · rename_i e; exact gG_w h e
  · rename_i g e; exact wF_B h g (tTu_s (h.2.1 g (gG_b e)))
theorem C_turn {g : ma_G} {I : ma_I} {L : ma_L} {P : ma_P} {s : sG} (hW : wF s) (hC : rC s I L) (q_ : Int32) (k : ∀ I1 L1, rC (F_turn s q_).2 I1 L1 → mS I L I1 L1 → P (some (.int (F_turn s q_).1)) HS I1 L1 RF 146) : CT g yX7_turn cX7_turn 4 (some .int) rX7_turn [.ref 3, .int q_] P HS I L RF 146 := by
  obtain ⟨hcM, hcN, hcF, hcK, hcT, hcS, hcG⟩ := id hC
  exact t_X7_turn q_ 
    (fun h1 => by
      have e_ : F_turn s q_ = ((-1), s) := by simp only [F_turn, gG_n (s := s) (ix_n1 h1 ln_12)]
      rw [e_] at k
      dsimp only at k
      exact k _ _ hC mS_rf)
    (fun j2 h2 e3 h4 h5 => by
      subst e3
      have e_ : F_turn s (nI j2) = ((-3), (sM s 1)) := by simp only [F_turn, gG_m (s := s) h4 (kG_m (hcG j2 (by omega)) h5)]
      rw [e_] at k
      dsimp only at k
      exact k _ _ (rC_R hC (by omega)) (mS_R _ _ _))
    (fun j7 h2 e3 h4 h5 h6 L23 h8 J24 K25 h11 h12 h13 h14 h15 h16 h17 h18 => by
      subst e3
      have hT : tSm (tTu s j7) := tTu_s (hW.2.1 j7 (by omega))
      have hL7_ : ∀ j, j < 16 → L23 7 j = t64 (tTu s j7) j := fun j hj => by rw [h8]; unfold cSu; rw [mfill_at, if_pos (by omega), Nat.sub_zero, (hcG j7 (by omega)).2.1 j hj]; exact tTu_l (hW.2.1 j7 (by omega)) hj
      have hX : ∀ x, x ≠ 7 → L23 x = L x := fun x hx => by rw [h8]; unfold cSu; rw [mfill_n _ _ _ _ hx]
      have e_ : F_turn s (nI j7) = (mFc (t64 (tTu s j7)) 0, (sB s j7 (tTu s j7))) := by simp only [F_turn, gG_o (s := s) h4 (kG_o (hcG j7 (by omega)) h6)]
      rw [e_] at k
      dsimp only at k
      rw [fc_t hT hL7_ (show 0 < 10 by omega)]
      exact k _ _ (rC_B hC hT hL7_ hX h11 h12 h13 h15 h16) (mS_B (by omega) hX h13 h16))
    (fun j13 h2 e3 h4 h5 h6 => by
      subst e3
      exact absurd h6 h5)
    (fun j19 h2 e3 h4 => by
      subst e3
      exact absurd h4 (ix_c1 rfl h2 ln_12))
theorem M_turn {g : ma_G} {I : ma_I} {L : ma_L} {P : ma_P} (hW : wF (ob I L))  (q_ : Int32) (k : ∀ I2 L2, ob I2 L2 = (F_turn (ob I L) q_).2 → cS I L I2 L2 → P (some (.int (F_turn (ob I L) q_).1)) HS I2 L2 RF 146) : CT g yX8_turn cX8_turn 4 (some .int) rX8_turn [.ref 115, .int q_] P HS I L RF 146 := by
  exact t_X8_turn q_ 
    (fun j1 h2 e3 h4 => by
      subst e3
      have e_ : F_turn (ob I L) (nI j1) = ((-3), (sM (ob I L) 1)) := by simp only [F_turn, gG_m (s := (ob I L)) h2 (show (ob I L).1 122 j1 = 0 from h4)]
      rw [e_] at k
      dsimp only at k
      exact k _ _ (ob_M _ _ _) (cS_M _ _ _))
    (fun j5 h2 e3 h4 I16 h6 r17 J18 K19 h10 h11 h12 h13 h14 => by
      subst e3
      have e3 : ∀ j, I16 123 j = if 16 * j5 ≤ j ∧ j < 16 * j5 + 16 then (tTu (ob I L) j5) (j - 16 * j5) else I 123 j := fun j => by rw [h6, mfill_at]; by_cases q_ : 16 * j5 ≤ j ∧ j < 16 * j5 + 16; (· rw [if_pos q_, if_pos q_]; rfl); (· rw [if_neg q_, if_neg q_])
      have e2 : I16 122 = ma_up (I 122) j5 1 := by rw [h6, mfill_n _ _ _ _ (by decide)]; exact up_1 (th_1 hW (by omega) (show ¬ (ob I L).1 122 j5 = 0 from h4))
      have eo : ∀ a, a = 116 ∨ a = 117 ∨ a = 118 ∨ a = 124 ∨ a = 128 ∨ a = 148 ∨ a = 115 → I16 a = I a := fun a ha => by rw [h6, mfill_n _ _ _ _ (by omega)]
      have ec : ∀ a, a < 115 → I16 a = I a := fun a ha => by rw [h6, mfill_n _ _ _ _ (by omega)]
      have e_ : F_turn (ob I L) (nI j5) = (mFc (t64 (tTu (ob I L) j5)) 0, (sB (ob I L) j5 (tTu (ob I L) j5))) := by simp only [F_turn, gG_o (s := (ob I L)) h2 (show ¬ (ob I L).1 122 j5 = 0 from h4)]
      rw [e_] at k
      dsimp only at k
      rw [h14, mFc_c (t := K19 120) (t' := t64 (tTu (ob I L) j5)) (fun j hj => by rw [h11 j hj, e3, if_pos (by omega), Nat.add_sub_cancel_left]; rfl)]
      exact k _ _ (ob_B e3 e2 eo h10 h11 h12 h13) (cS_B ec h12 h13))
    (fun h1 => by
      have e_ : F_turn (ob I L) q_ = ((-1), (ob I L)) := by simp only [F_turn, gG_n (s := (ob I L)) (ix_n2 h1 li_12)]
      rw [e_] at k
      dsimp only at k
      exact k _ _ rfl cS_rf)
theorem p_turn {g : ma_G} {I : ma_I} {L : ma_L} {P1 : ma_P} (hI : INV I L) (a1 : Int32) (k : ∀ (r : Int32) (I1 : ma_I) (L1 : ma_L), (∀ {P2 : ma_P}, (∀ (I2 : ma_I) (L2 : ma_L), INV I2 L2 → P2 (some (.int r)) HS I2 L2 RF 146) → CT g yX8_turn cX8_turn 4 (some .int) rX8_turn [.ref 115, .int a1] P2 HS I1 L1 RF 146) → P1 (some (.int r)) HS I1 L1 RF 146) : CT g yX7_turn cX7_turn 4 (some .int) rX7_turn [.ref 3, .int a1] P1 HS I L RF 146 :=
  pair_i (F := F_turn (ob I L) a1) hI (W_turn hI.1 a1) (fun P kk => C_turn hI.1 hI.2 a1 kk) (fun I1 L1 P e kk => M_turn (by rw [e]; exact hI.1)  a1 (by rw [e]; exact kk)) k
def tSw (s : sG) (g i j : Nat) : Nat → Int32 := fun k => s.1 123 (16 * g + (4 * mChN (k / 4) i j + mChN (k % 4) i j))
theorem mChN_4 {a i j : Nat} (ha : a < 4) (hi : i < 4) (hj : j < 4) : mChN a i j < 4 := by unfold mChN; split; exact hj; split; exact hi; exact ha
theorem tSw_s {s : sG} {g i j : Nat} (h : wfT s g) (hi : i < 4) (hj : j < 4) : tSm (tSw s g i j) := ⟨fun k hk => by
  have h1 := mChN_4 (a := k / 4) (by omega) hi hj; have h2 := mChN_4 (a := k % 4) (by omega) hi hj
  unfold tSw; exact h.1 _ (by omega), fun a b ha hb => by
  have h1 := mChN_4 (a := a) ha hi hj; have h2 := mChN_4 (a := b) hb hi hj
  unfold tSw
  rw [show (4 * a + b) / 4 = a by omega, show (4 * a + b) % 4 = b by omega, show (4 * b + a) / 4 = b by omega, show (4 * b + a) % 4 = a by omega]
  exact h.2 _ _ h1 h2⟩
theorem cWs_m (i j a : Nat) : cWs i j a = mChN a i j := by unfold cWs mChN; rfl
theorem cSwp_m (f : Nat → Int64) {i j x : Nat} (hi : i < 4) (hj : j < 4) (hx : x < 16) : cSwp f i j x = f (4 * mChN (x / 4) i j + mChN (x % 4) i j) := by
  have h1 := mChN_4 (a := x / 4) (by omega) hi hj
  unfold cSwp cXr
  rw [if_pos (by omega), cWs_m]
  unfold cXc
  rw [show (4 * mChN (x / 4) i j + x % 4) / 4 = mChN (x / 4) i j by omega, show (4 * mChN (x / 4) i j + x % 4) % 4 = x % 4 by omega, if_pos h1, cWs_m]
def F_swap (s : sG) (q x y : Int32) : Int32 × sG := match ix 4 x with
  | none => (-1, s)
  | some i => match ix 4 y with
    | none => (-1, s)
    | some j => match gG s q with
      | .inl r => r
      | .inr g => (mFc (t64 (tSw s g i j)) 0, sB s g (tSw s g i j))
theorem W_swap {s : sG} (h : wF s) (a1 a2 a3 : Int32) : wF (F_swap s a1 a2 a3).2 := by
  unfold F_swap
  split
  · exact h
  · rename_i i hi
    split
    · exact h
    · rename_i j hj
      split
      · rename_i e; exact gG_w h e
      · rename_i g e; exact wF_B h g (tSw_s (h.2.1 g (gG_b e)) (ix_b hi) (ix_b hj))
theorem C_swap {g : ma_G} {I : ma_I} {L : ma_L} {P : ma_P} {s : sG} (hW : wF s) (hC : rC s I L) (q_ i_ j_ : Int32) (k : ∀ I1 L1, rC (F_swap s q_ i_ j_).2 I1 L1 → mS I L I1 L1 → P (some (.int (F_swap s q_ i_ j_).1)) HS I1 L1 RF 146) : CT g yX7_swap cX7_swap 5 (some .int) rX7_swap [.ref 3, .int q_, .int i_, .int j_] P HS I L RF 146 := by
  obtain ⟨hcM, hcN, hcF, hcK, hcT, hcS, hcG⟩ := id hC
  exact t_X7_swap q_ i_ j_ 
    (fun h1 => by
      have e_ : F_swap s q_ i_ j_ = ((-1), s) := by simp only [F_swap, (show ix 4 i_ = none from (ix_n1 h1 ln_4))]
      rw [e_] at k
      dsimp only at k
      exact k _ _ hC mS_rf)
    (fun n2 h2 e3 n4 h5 e6 h7 => by
      subst e3
      subst e6
      have e_ : F_swap s q_ (nI n2) (nI n4) = ((-1), s) := by simp only [F_swap, ix_s (n := 4) h2, ix_s (n := 4) h5, gG_n (s := s) (ix_n1 h7 ln_12)]
      rw [e_] at k
      dsimp only at k
      exact k _ _ hC mS_rf)
    (fun n2 h2 e3 n4 h5 e6 j6 h8 e9 h10 h11 => by
      subst e3
      subst e6
      subst e9
      have e_ : F_swap s (nI j6) (nI n2) (nI n4) = ((-3), (sM s 1)) := by simp only [F_swap, ix_s (n := 4) h2, ix_s (n := 4) h5, gG_m (s := s) h10 (kG_m (hcG j6 (by omega)) h11)]
      rw [e_] at k
      dsimp only at k
      exact k _ _ (rC_R hC (by omega)) (mS_R _ _ _))
    (fun n2 h2 e3 n4 h5 e6 j11 h8 e9 h10 h11 h12 L27 h14 J28 K29 h17 h18 h19 h20 h21 h22 h23 h24 => by
      subst e3
      subst e6
      subst e9
      have hT : tSm (tSw s j11 n2 n4) := tSw_s (hW.2.1 j11 (by omega)) (by omega) (by omega)
      have hL7_ : ∀ j, j < 16 → L27 7 j = t64 (tSw s j11 n2 n4) j := fun j hj => by rw [h14, ma_up_s, cSwp_m _ (by omega) (by omega) hj]; have m1_ := mChN_4 (a := j / 4) (i := n2) (j := n4) (by omega) (by omega) (by omega); have m2_ := mChN_4 (a := j % 4) (i := n2) (j := n4) (by omega) (by omega) (by omega); unfold cBe; rw [mfill_at, if_pos (by omega), Nat.sub_zero, (hcG j11 (by omega)).2.1 _ (by omega)]; rfl
      have hX : ∀ x, x ≠ 7 → L27 x = L x := fun x hx => by rw [h14, ma_up_n _ _ hx]; unfold cBe; rw [mfill_n _ _ _ _ hx]
      have e_ : F_swap s (nI j11) (nI n2) (nI n4) = (mFc (t64 (tSw s j11 n2 n4)) 0, (sB s j11 (tSw s j11 n2 n4))) := by simp only [F_swap, ix_s (n := 4) h2, ix_s (n := 4) h5, gG_o (s := s) h10 (kG_o (hcG j11 (by omega)) h12)]
      rw [e_] at k
      dsimp only at k
      rw [fc_t hT hL7_ (show 0 < 10 by omega)]
      exact k _ _ (rC_B hC hT hL7_ hX h17 h18 h19 h21 h22) (mS_B (by omega) hX h19 h22))
    (fun n2 h2 e3 n4 h5 e6 j17 h8 e9 h10 h11 h12 => by
      subst e3
      subst e6
      subst e9
      exact absurd h12 h11)
    (fun n2 h2 e3 n4 h5 e6 j23 h8 e9 h10 => by
      subst e3
      subst e6
      subst e9
      exact absurd h10 (ix_c1 rfl h8 ln_12))
    (fun n2 h2 e3 h4 => by
      subst e3
      have e_ : F_swap s q_ (nI n2) j_ = ((-1), s) := by simp only [F_swap, ix_s (n := 4) h2, (show ix 4 j_ = none from (ix_n1 h4 ln_4))]
      rw [e_] at k
      dsimp only at k
      exact k _ _ hC mS_rf)
theorem M_swap {g : ma_G} {I : ma_I} {L : ma_L} {P : ma_P} (hW : wF (ob I L))  (q_ x_ y_ : Int32) (k : ∀ I2 L2, ob I2 L2 = (F_swap (ob I L) q_ x_ y_).2 → cS I L I2 L2 → P (some (.int (F_swap (ob I L) q_ x_ y_).1)) HS I2 L2 RF 146) : CT g yX8_swap cX8_swap 6 (some .int) rX8_swap [.ref 115, .int q_, .int x_, .int y_] P HS I L RF 146 := by
  exact t_X8_swap q_ x_ y_ 
    (fun h1 => by
      have e_ : F_swap (ob I L) q_ x_ y_ = ((-1), (ob I L)) := by simp only [F_swap, (show ix 4 x_ = none from (ix_n2 h1 li_4))]
      rw [e_] at k
      dsimp only at k
      exact k _ _ rfl cS_rf)
    (fun n2 h2 e3 n4 h5 e6 j5 h8 e9 h10 => by
      subst e3
      subst e6
      subst e9
      have e_ : F_swap (ob I L) (nI j5) (nI n2) (nI n4) = ((-3), (sM (ob I L) 1)) := by simp only [F_swap, ix_s (n := 4) h2, ix_s (n := 4) h5, gG_m (s := (ob I L)) h8 (show (ob I L).1 122 j5 = 0 from h10)]
      rw [e_] at k
      dsimp only at k
      exact k _ _ (ob_M _ _ _) (cS_M _ _ _))
    (fun n2 h2 e3 n4 h5 e6 j9 h8 e9 h10 I27 h12 r28 J29 K30 h16 h17 h18 h19 h20 => by
      subst e3
      subst e6
      subst e9
      have e3 : ∀ j, I27 123 j = if 16 * j9 ≤ j ∧ j < 16 * j9 + 16 then (tSw (ob I L) j9 n2 n4) (j - 16 * j9) else I 123 j := fun j => by rw [h12, mfill_at]; by_cases q_ : 16 * j9 ≤ j ∧ j < 16 * j9 + 16; (· rw [if_pos q_, if_pos q_, mfill_at, if_pos (by omega), Nat.add_assoc]; rfl); (· rw [if_neg q_, if_neg q_, mfill_n _ _ _ _ (by decide)])
      have e2 : I27 122 = ma_up (I 122) j9 1 := by rw [h12, mfill_n _ _ _ _ (by decide), mfill_n _ _ _ _ (by decide)]; exact up_1 (th_1 hW (by omega) (show ¬ (ob I L).1 122 j9 = 0 from h10))
      have eo : ∀ a, a = 116 ∨ a = 117 ∨ a = 118 ∨ a = 124 ∨ a = 128 ∨ a = 148 ∨ a = 115 → I27 a = I a := fun a ha => by rw [h12, mfill_n _ _ _ _ (by omega), mfill_n _ _ _ _ (by omega)]
      have ec : ∀ a, a < 115 → I27 a = I a := fun a ha => by rw [h12, mfill_n _ _ _ _ (by omega), mfill_n _ _ _ _ (by omega)]
      have e_ : F_swap (ob I L) (nI j9) (nI n2) (nI n4) = (mFc (t64 (tSw (ob I L) j9 n2 n4)) 0, (sB (ob I L) j9 (tSw (ob I L) j9 n2 n4))) := by simp only [F_swap, ix_s (n := 4) h2, ix_s (n := 4) h5, gG_o (s := (ob I L)) h8 (show ¬ (ob I L).1 122 j9 = 0 from h10)]
      rw [e_] at k
      dsimp only at k
      rw [h20, mFc_c (t := K30 120) (t' := t64 (tSw (ob I L) j9 n2 n4)) (fun j hj => by rw [h17 j hj, e3, if_pos (by omega), Nat.add_sub_cancel_left]; rfl)]
      exact k _ _ (ob_B e3 e2 eo h16 h17 h18 h19) (cS_B ec h18 h19))
    (fun n2 h2 e3 n4 h5 e6 h7 => by
      subst e3
      subst e6
      have e_ : F_swap (ob I L) q_ (nI n2) (nI n4) = ((-1), (ob I L)) := by simp only [F_swap, ix_s (n := 4) h2, ix_s (n := 4) h5, gG_n (s := (ob I L)) (ix_n2 h7 li_12)]
      rw [e_] at k
      dsimp only at k
      exact k _ _ rfl cS_rf)
    (fun n2 h2 e3 h4 => by
      subst e3
      have e_ : F_swap (ob I L) q_ (nI n2) y_ = ((-1), (ob I L)) := by simp only [F_swap, ix_s (n := 4) h2, (show ix 4 y_ = none from (ix_n2 h4 li_4))]
      rw [e_] at k
      dsimp only at k
      exact k _ _ rfl cS_rf)
theorem p_swap {g : ma_G} {I : ma_I} {L : ma_L} {P1 : ma_P} (hI : INV I L) (a1 a2 a3 : Int32) (k : ∀ (r : Int32) (I1 : ma_I) (L1 : ma_L), (∀ {P2 : ma_P}, (∀ (I2 : ma_I) (L2 : ma_L), INV I2 L2 → P2 (some (.int r)) HS I2 L2 RF 146) → CT g yX8_swap cX8_swap 6 (some .int) rX8_swap [.ref 115, .int a1, .int a2, .int a3] P2 HS I1 L1 RF 146) → P1 (some (.int r)) HS I1 L1 RF 146) : CT g yX7_swap cX7_swap 5 (some .int) rX7_swap [.ref 3, .int a1, .int a2, .int a3] P1 HS I L RF 146 :=
  pair_i (F := F_swap (ob I L) a1 a2 a3) hI (W_swap hI.1 a1 a2 a3) (fun P kk => C_swap hI.1 hI.2 a1 a2 a3 kk) (fun I1 L1 P e kk => M_swap (by rw [e]; exact hI.1)  a1 a2 a3 (by rw [e]; exact kk)) k
