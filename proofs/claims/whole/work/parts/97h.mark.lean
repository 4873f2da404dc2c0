theorem am_ (P Q : Int) : 2 * (P * Q) ≤ P * P + Q * Q := by
  have h := sq_nn (P - Q)
  have e : (P - Q) * (P - Q) = P * P - 2 * (P * Q) + Q * Q := by grind
  omega
theorem an_ (P Q : Int) : -(2 * (P * Q)) ≤ P * P + Q * Q := by
  have h := sq_nn (P + Q)
  have e : (P + Q) * (P + Q) = P * P + 2 * (P * Q) + Q * Q := by grind
  omega
theorem gram {a x y w b p q v : Int} (ha : a.natAbs ≤ 4) (hx : x.natAbs ≤ 4) (hy : y.natAbs ≤ 4) (hw : w.natAbs ≤ 4) (hb : b.natAbs ≤ 4) (hp : p.natAbs ≤ 4) (hq : q.natAbs ≤ 4) (hv : v.natAbs ≤ 4) : (a * p - x * b) * (a * p - x * b) + (a * q - y * b) * (a * q - y * b) + (a * v - w * b) * (a * v - w * b) + (x * q - y * p) * (x * q - y * p) + (x * v - w * p) * (x * v - w * p) + (y * v - w * q) * (y * v - w * q) ≤ 4096 := by
  have e : (a * p - x * b) * (a * p - x * b) + (a * q - y * b) * (a * q - y * b) + (a * v - w * b) * (a * v - w * b) + (x * q - y * p) * (x * q - y * p) + (x * v - w * p) * (x * v - w * p) + (y * v - w * q) * (y * v - w * q) = (a * a + x * x + y * y + w * w) * (b * b + p * p + q * q + v * v) - (a * b + x * p + y * q + w * v) * (a * b + x * p + y * q + w * v) := by grind
  have s := sq_nn (a * b + x * p + y * q + w * v)
  have u := nm_ (na_ (na_ (na_ (nm_ ha ha) (nm_ hx hx)) (nm_ hy hy)) (nm_ hw hw)) (na_ (na_ (na_ (nm_ hb hb) (nm_ hp hp)) (nm_ hq hq)) (nm_ hv hv))
  omega
theorem lag {P1 P2 P3 P4 P5 P6 Q1 Q2 Q3 Q4 Q5 Q6 : Int} (h1 : P1 * P1 + P2 * P2 + P3 * P3 + P4 * P4 + P5 * P5 + P6 * P6 ≤ 4096) (h2 : Q6 * Q6 + Q5 * Q5 + Q4 * Q4 + Q3 * Q3 + Q2 * Q2 + Q1 * Q1 ≤ 4096) : (P1 * Q1 - P2 * Q2 + P3 * Q3 + P4 * Q4 - P5 * Q5 + P6 * Q6).natAbs ≤ 4096 := by
  have A := (Int.add_le_add (Int.add_le_add (Int.add_le_add (Int.add_le_add (Int.add_le_add (am_ P1 Q1) (an_ P2 Q2)) (am_ P3 Q3)) (am_ P4 Q4)) (an_ P5 Q5)) (am_ P6 Q6))
  have B := (Int.add_le_add (Int.add_le_add (Int.add_le_add (Int.add_le_add (Int.add_le_add (an_ P1 Q1) (am_ P2 Q2)) (an_ P3 Q3)) (an_ P4 Q4)) (am_ P5 Q5)) (an_ P6 Q6))
  omega
theorem kE4_h {a x y w b p q c r d : Int} (ha : a.natAbs ≤ 4) (hx : x.natAbs ≤ 4) (hy : y.natAbs ≤ 4) (hw : w.natAbs ≤ 4) (hb : b.natAbs ≤ 4) (hp : p.natAbs ≤ 4) (hq : q.natAbs ≤ 4) (hc : c.natAbs ≤ 4) (hr : r.natAbs ≤ 4) (hd : d.natAbs ≤ 4) : (kE4 a x y w b p q c r d).natAbs ≤ 4096 := by
  have e : kE4 a x y w b p q c r d = (a * b - x * x) * (c * d - r * r) - (a * p - y * x) * (p * d - r * q) + (a * q - w * x) * (p * r - c * q) + (x * p - y * b) * (y * d - r * w) - (x * q - w * b) * (y * r - c * w) + (y * q - w * p) * (y * q - p * w) := by
    rw [← kW_e]; unfold kW; clear ha hx hy hw hb hp hq hc hr hd; grind
  rw [e]
  exact lag (gram ha hx hy hw hx hb hp hq) (gram hy hp hc hr hw hq hr hd)
theorem wo_b {s : sG} (h : wF s) {g : Nat} (hg : g < 12) : (s.1 124 (10 * g + 7)).toInt ≤ 4096 := by
  rcases (h.2.2 g hg).2 with q | q
  · rw [q.2 7 (by omega)]; decide
  · rw [q 7 (by omega)]
    have hT := wT_sm (h.2.1 g hg)
    have e : mFc (tb s g) 7 = mFc (zt (zz (fun j => s.1 123 (16 * g + j)))) 7 := mFc_c (t64_z hT) 7
    rw [e]
    have hB := zz_B hT
    generalize zz (fun j => s.1 123 (16 * g + j)) = z at hB
    show (Int64.toInt32 (mW (zt z))).toInt ≤ 4096
    have b := kE4_h (hB 0 (by omega)) (hB 1 (by omega)) (hB 2 (by omega)) (hB 3 (by omega)) (hB 5 (by omega)) (hB 6 (by omega)) (hB 7 (by omega)) (hB 10 (by omega)) (hB 11 (by omega)) (hB 15 (by omega))
    rw [m_e4, l2i_o, Int32.toInt_ofInt_of_le (by omega) (by omega)]
    omega
def mkC (s : sG) (g : Nat) (c : Int32) : Prop := s.1 124 (10 * g) = c ∨ (c = 1 ∧ s.1 124 (10 * g) = 2)
def mkQ (s : sG) (g : Nat) : Prop := ∃ j : Nat, ((j * j : Nat) : Int) = (s.1 124 (10 * g + 7)).toInt
noncomputable def mkV (s : sG) (g : Nat) (c : Int32) : Int32 := if c = 1 then s.1 124 (10 * g + 3) else if c = 2 then (if (¬ s.1 124 (10 * g + 1) ≤ 0) ∧ (¬ s.1 124 (10 * g + 2) ≤ 0) then 1 else 0) else if c = 3 then (if s.1 124 (10 * g + 1) = 3 then 1 else 0) else cIf (mkQ s g) 1 0
noncomputable def F_mark (s : sG) (q c : Int32) : Int32 × sG := if c < 1 ∨ 4 < c then (-1, s) else match gG s q with
  | .inl r => r
  | .inr g => cIf (mkC s g c) (mkV s g c, s) (-3, sM s 3)
theorem W_mark {s : sG} (h : wF s) (a1 a2 : Int32) : wF (F_mark s a1 a2).2 := by
  unfold F_mark
  split
  · exact h
  · split
    · rename_i e; exact gG_w h e
    · exact wF_cIf h (wF_M h _)
theorem mk_r {n : Nat} (h : 1 ≤ n) (h' : n < 5) : ¬ (nI n < 1 ∨ 4 < nI n) := by
  have z1 : (1 : Int32).toInt = 1 := by decide
  have z2 : (4 : Int32).toInt = 4 := by decide
  rw [nb_lt, nb_lt, nI_toInt (by omega), z1, z2]; omega
theorem mk_q {r : Int32} {Q : Prop} (h : r = 0 ∨ r = 1) (h' : r = 1 ↔ Q) : (if ¬ r = 0 then (1 : Int32) else 0) = cIf Q 1 0 := by
  rcases h with e | e
  · rw [if_neg (Decidable.not_not.mpr e), cIf_n (fun z => by rw [← h', e] at z; exact absurd z (by decide))]
  · rw [if_pos (by rw [e]; decide), cIf_p (h'.mp e)]
theorem bl_all : ∀ (a b : Fin 5) (c d : Fin 4), a.val + b.val ≤ 4 → c.val + d.val ≤ 3 → mKd (nI a.val) (nI b.val) (nI c.val) (nI d.val) = 3 → (nI a.val = 3 ↔ ¬ nI a.val ≤ nI b.val) := by decide +kernel
theorem bl_ok {s : sG} (h : wF s) {g : Nat} (hg : g < 12) (h0 : ¬ s.1 122 g = 0) (h2 : s.1 124 (10 * g + 0) = 3) : s.1 124 (10 * g + 1) = 3 ↔ ¬ s.1 124 (10 * g + 1) ≤ s.1 124 (10 * g + 2) := by
  obtain ⟨a, b, c, d, hab, hcd, fa, fb, fc, fd⟩ := mf_ab (wT_sm (h.2.1 g hg))
  rw [wf_f h hg h0 (by omega)] at h2
  rw [wf_f h hg h0 (by omega), wf_f h hg h0 (by omega)]
  have h2 : mKd (mFA (t64 (fun j => s.1 123 (16 * g + j)))) (mFB (t64 (fun j => s.1 123 (16 * g + j)))) (mTA (t64 (fun j => s.1 123 (16 * g + j)))) (mTB (t64 (fun j => s.1 123 (16 * g + j)))) = 3 := h2
  show mFA (t64 (fun j => s.1 123 (16 * g + j))) = 3 ↔ ¬ mFA (t64 (fun j => s.1 123 (16 * g + j))) ≤ mFB (t64 (fun j => s.1 123 (16 * g + j)))
  rw [fa, fb] at h2 ⊢
  rw [fc, fd] at h2
  exact bl_all a b c d hab hcd h2
theorem C_mark {g : ma_G} {I : ma_I} {L : ma_L} {P : ma_P} {s : sG} (hW : wF s) (hC : rC s I L) (q_ x_ : Int32) (k : ∀ I1 L1, rC (F_mark s q_ x_).2 I1 L1 → mS I L I1 L1 → P (some (.int (F_mark s q_ x_).1)) HS I1 L1 RF 146) : CT g yX7_mark cX7_mark 5 (some .int) rX7_mark [.ref 3, .int q_, .int x_] P HS I L RF 146 := by
  obtain ⟨hcM, hcN, hcF, hcK, hcT, hcS, hcG⟩ := id hC
  exact t_X7_mark q_ x_ (fun g hg => by rw [(hcG g hg).2.2 7 (by omega)]; exact wo_b hW hg)
    (fun h1 => by
      have e_ : F_mark s q_ x_ = ((-1), s) := by simp only [F_mark, if_pos (show (x_ < 1 ∨ 4 < x_) from Or.inl h1)]
      rw [e_] at k
      dsimp only at k
      exact k _ _ hC mS_rf)
    (fun h1 h2 h3 => by
      have e_ : F_mark s q_ x_ = ((-1), s) := by simp only [F_mark, gG_n (s := s) (ix_n1 h3 ln_12), if_neg (show ¬ (x_ < 1 ∨ 4 < x_) from fun q => q.elim h1 (fun q => Int32.not_le.mpr q h2))]
      rw [e_] at k
      dsimp only at k
      exact k _ _ hC mS_rf)
    (fun h1 h2 j4 h4 e5 h6 h7 => by
      subst e5
      have e_ : F_mark s (nI j4) x_ = ((-3), (sM s 1)) := by simp only [F_mark, gG_m (s := s) h6 (kG_m (hcG j4 (by omega)) h7), if_neg (show ¬ (x_ < 1 ∨ 4 < x_) from fun q => q.elim h1 (fun q => Int32.not_le.mpr q h2))]
      rw [e_] at k
      dsimp only at k
      exact k _ _ (rC_R hC (by omega)) (mS_R _ _ _))
    (fun h1 h2 j9 h4 e5 h6 h7 h8 h9 => by
      subst e5
      have f0_ : I (59 + 5 * j9) 0 = s.1 124 (10 * j9) := (kG_f (hcG j9 (by omega)) h8 (k := 0) (by omega))
      have e_ : F_mark s (nI j9) x_ = ((-3), (sM s 3)) := by simp only [F_mark, gG_o (s := s) h6 (kG_o (hcG j9 (by omega)) h8), if_neg (show ¬ (x_ < 1 ∨ 4 < x_) from fun q => q.elim h1 (fun q => Int32.not_le.mpr q h2)), cIf_n (show ¬ mkC s j9 x_ from fun z => h9 (Or.inr (by unfold mkC at z; rw [f0_]; exact z)))]
      rw [e_] at k
      dsimp only at k
      exact k _ _ (rC_R hC (by omega)) (mS_R _ _ _))
    (fun h1 h2 j9 h4 e5 h6 h7 h8 h9 h10 h11 h12 r29 h14 h15 => by
      subst e5
      have f0_ : I (59 + 5 * j9) 0 = s.1 124 (10 * j9) := (kG_f (hcG j9 (by omega)) h8 (k := 0) (by omega))
      have mc_ : mkC s j9 x_ := by have q_ := h9; unfold cIs at q_; rw [f0_] at q_; exact q_.elim (fun z => absurd (show x_ < 1 by rw [z]; decide) h1) id
      have sq_ := h15
      rw [(kG_f (hcG j9 (by omega)) h8 (k := 7) (by omega))] at sq_
      have e_ : F_mark s (nI j9) x_ = (cIf (mkQ s j9) 1 0, s) := by simp only [F_mark, gG_o (s := s) h6 (kG_o (hcG j9 (by omega)) h8), if_neg (show ¬ (x_ < 1 ∨ 4 < x_) from fun q => q.elim h1 (fun q => Int32.not_le.mpr q h2)), cIf_p mc_, mkV, if_neg h10, if_neg h11, if_neg h12]
      rw [e_] at k
      dsimp only at k
      rw [mk_q h14 sq_]
      exact k _ _ hC mS_rf)
    (fun h1 h2 j9 h4 e5 h6 h7 h8 h9 h10 h11 h12 h13 => by
      subst e5
      have f0_ : I (59 + 5 * j9) 0 = s.1 124 (10 * j9) := (kG_f (hcG j9 (by omega)) h8 (k := 0) (by omega))
      have mc_ : mkC s j9 x_ := by have q_ := h9; unfold cIs at q_; rw [f0_] at q_; exact q_.elim (fun z => absurd (show x_ < 1 by rw [z]; decide) h1) id
      have kd_ : s.1 124 (10 * j9 + 0) = 3 := mc_.elim (fun z => z.trans h12) (fun z => absurd (z.1.symm.trans h12) (by decide))
      have bl_ := bl_ok hW (g := j9) (by omega) (kG_o (hcG j9 (by omega)) h8) kd_
      have cg_ := h13
      rw [(kG_f (hcG j9 (by omega)) h8 (k := 1) (by omega)), (kG_f (hcG j9 (by omega)) h8 (k := 2) (by omega))] at cg_
      have e_ : F_mark s (nI j9) x_ = (0, s) := by simp only [F_mark, gG_o (s := s) h6 (kG_o (hcG j9 (by omega)) h8), if_neg (show ¬ (x_ < 1 ∨ 4 < x_) from fun q => q.elim h1 (fun q => Int32.not_le.mpr q h2)), cIf_p mc_, mkV, if_neg h10, if_neg h11, if_pos h12, if_neg (fun z => bl_.mp z cg_)]
      rw [e_] at k
      dsimp only at k
      exact k _ _ hC mS_rf)
    (fun h1 h2 j9 h4 e5 h6 h7 h8 h9 h10 h11 h12 h13 => by
      subst e5
      have f0_ : I (59 + 5 * j9) 0 = s.1 124 (10 * j9) := (kG_f (hcG j9 (by omega)) h8 (k := 0) (by omega))
      have mc_ : mkC s j9 x_ := by have q_ := h9; unfold cIs at q_; rw [f0_] at q_; exact q_.elim (fun z => absurd (show x_ < 1 by rw [z]; decide) h1) id
      have kd_ : s.1 124 (10 * j9 + 0) = 3 := mc_.elim (fun z => z.trans h12) (fun z => absurd (z.1.symm.trans h12) (by decide))
      have bl_ := bl_ok hW (g := j9) (by omega) (kG_o (hcG j9 (by omega)) h8) kd_
      have cg_ := h13
      rw [(kG_f (hcG j9 (by omega)) h8 (k := 1) (by omega)), (kG_f (hcG j9 (by omega)) h8 (k := 2) (by omega))] at cg_
      have e_ : F_mark s (nI j9) x_ = (1, s) := by simp only [F_mark, gG_o (s := s) h6 (kG_o (hcG j9 (by omega)) h8), if_neg (show ¬ (x_ < 1 ∨ 4 < x_) from fun q => q.elim h1 (fun q => Int32.not_le.mpr q h2)), cIf_p mc_, mkV, if_neg h10, if_neg h11, if_pos h12, if_pos (bl_.mpr cg_)]
      rw [e_] at k
      dsimp only at k
      exact k _ _ hC mS_rf)
    (fun h1 h2 j9 h4 e5 h6 h7 h8 h9 h10 h11 h12 => by
      subst e5
      have f0_ : I (59 + 5 * j9) 0 = s.1 124 (10 * j9) := (kG_f (hcG j9 (by omega)) h8 (k := 0) (by omega))
      have mc_ : mkC s j9 x_ := by have q_ := h9; unfold cIs at q_; rw [f0_] at q_; exact q_.elim (fun z => absurd (show x_ < 1 by rw [z]; decide) h1) id
      have cg_ := h12
      unfold cCg at cg_
      rw [(kG_f (hcG j9 (by omega)) h8 (k := 1) (by omega)), (kG_f (hcG j9 (by omega)) h8 (k := 2) (by omega)), ← Int32.not_le, ← Int32.not_le] at cg_
      have e_ : F_mark s (nI j9) x_ = (0, s) := by simp only [F_mark, gG_o (s := s) h6 (kG_o (hcG j9 (by omega)) h8), if_neg (show ¬ (x_ < 1 ∨ 4 < x_) from fun q => q.elim h1 (fun q => Int32.not_le.mpr q h2)), cIf_p mc_, mkV, if_neg h10, if_pos h11, if_neg cg_]
      rw [e_] at k
      dsimp only at k
      exact k _ _ hC mS_rf)
    (fun h1 h2 j9 h4 e5 h6 h7 h8 h9 h10 h11 h12 => by
      subst e5
      have f0_ : I (59 + 5 * j9) 0 = s.1 124 (10 * j9) := (kG_f (hcG j9 (by omega)) h8 (k := 0) (by omega))
      have mc_ : mkC s j9 x_ := by have q_ := h9; unfold cIs at q_; rw [f0_] at q_; exact q_.elim (fun z => absurd (show x_ < 1 by rw [z]; decide) h1) id
      have cg_ := h12
      unfold cCg at cg_
      rw [(kG_f (hcG j9 (by omega)) h8 (k := 1) (by omega)), (kG_f (hcG j9 (by omega)) h8 (k := 2) (by omega)), ← Int32.not_le, ← Int32.not_le] at cg_
      have e_ : F_mark s (nI j9) x_ = (1, s) := by simp only [F_mark, gG_o (s := s) h6 (kG_o (hcG j9 (by omega)) h8), if_neg (show ¬ (x_ < 1 ∨ 4 < x_) from fun q => q.elim h1 (fun q => Int32.not_le.mpr q h2)), cIf_p mc_, mkV, if_neg h10, if_pos h11, if_pos cg_]
      rw [e_] at k
      dsimp only at k
      exact k _ _ hC mS_rf)
    (fun h1 h2 j9 h4 e5 h6 h7 h8 h9 h10 => by
      subst e5
      have f0_ : I (59 + 5 * j9) 0 = s.1 124 (10 * j9) := (kG_f (hcG j9 (by omega)) h8 (k := 0) (by omega))
      have mc_ : mkC s j9 x_ := by have q_ := h9; unfold cIs at q_; rw [f0_] at q_; exact q_.elim (fun z => absurd (show x_ < 1 by rw [z]; decide) h1) id
      have e_ : F_mark s (nI j9) x_ = (s.1 124 (10 * j9 + 3), s) := by simp only [F_mark, gG_o (s := s) h6 (kG_o (hcG j9 (by omega)) h8), if_neg (show ¬ (x_ < 1 ∨ 4 < x_) from fun q => q.elim h1 (fun q => Int32.not_le.mpr q h2)), cIf_p mc_, mkV, if_pos h10]
      rw [e_] at k
      dsimp only at k
      rw [(kG_f (hcG j9 (by omega)) h8 (k := 3) (by omega))]
      exact k _ _ hC mS_rf)
    (fun h1 h2 j15 h4 e5 h6 h7 h8 => by
      subst e5
      exact absurd h8 h7)
    (fun h1 h2 j21 h4 e5 h6 => by
      subst e5
      exact absurd h6 (ix_c1 rfl h4 ln_12))
    (fun h1 h2 => by
      have e_ : F_mark s q_ x_ = ((-1), s) := by simp only [F_mark, if_pos (show (x_ < 1 ∨ 4 < x_) from Or.inr (Int32.not_le.mp h2))]
      rw [e_] at k
      dsimp only at k
      exact k _ _ hC mS_rf)
theorem M_mark {g : ma_G} {I : ma_I} {L : ma_L} {P : ma_P} (hW : wF (ob I L))  (q_ c_ : Int32) (k : ∀ I2 L2, ob I2 L2 = (F_mark (ob I L) q_ c_).2 → cS I L I2 L2 → P (some (.int (F_mark (ob I L) q_ c_).1)) HS I2 L2 RF 146) : CT g yX8_mark cX8_mark 5 (some .int) rX8_mark [.ref 115, .int q_, .int c_] P HS I L RF 146 := by
  exact t_X8_mark q_ c_ (fun j hj => wo_b hW hj)
    (fun n2 h2 h3 e4 j3 h6 e7 h8 => by
      subst e4
      subst e7
      have e_ : F_mark (ob I L) (nI j3) (nI n2) = ((-3), (sM (ob I L) 1)) := by simp only [F_mark, gG_m (s := (ob I L)) h6 (show (ob I L).1 122 j3 = 0 from h8), if_neg (mk_r h2 h3)]
      rw [e_] at k
      dsimp only at k
      exact k _ _ (ob_M _ _ _) (cS_M _ _ _))
    (fun n2 h2 h3 e4 j7 h6 e7 h8 h9 x13 h11 h12 => by
      subst e4
      subst e7
      have ev_ : nI n2 = 1 := h11.symm.trans h12
      have e_ : F_mark (ob I L) (nI j7) (nI n2) = (((ob I L).1 124 (10 * j7 + 3)), (ob I L)) := by simp only [F_mark, gG_o (s := (ob I L)) h6 (show ¬ (ob I L).1 122 j7 = 0 from h8), if_neg (mk_r h2 h3), cIf_p (show mkC (ob I L) j7 (nI n2) from Or.inl h9), mkV, if_pos ev_]
      rw [e_] at k
      dsimp only at k
      exact k _ _ rfl cS_rf)
    (fun n2 h2 h3 e4 j7 h6 e7 h8 h9 x13 h11 h12 => by
      subst e4
      subst e7
      have ev_ : nI n2 = 2 := h11.symm.trans h12
      have e_ : F_mark (ob I L) (nI j7) (nI n2) = ((if (¬ (ob I L).1 124 (10 * j7 + 1) ≤ 0) ∧ (¬ (ob I L).1 124 (10 * j7 + 2) ≤ 0) then 1 else 0), (ob I L)) := by simp only [F_mark, gG_o (s := (ob I L)) h6 (show ¬ (ob I L).1 122 j7 = 0 from h8), if_neg (mk_r h2 h3), cIf_p (show mkC (ob I L) j7 (nI n2) from Or.inl h9), mkV, if_neg (show ¬ nI n2 = 1 by rw [ev_]; decide), if_pos ev_]
      rw [e_] at k
      dsimp only at k
      exact k _ _ rfl cS_rf)
    (fun n2 h2 h3 e4 j7 h6 e7 h8 h9 x13 h11 h12 => by
      subst e4
      subst e7
      have ev_ : nI n2 = 3 := h11.symm.trans h12
      have e_ : F_mark (ob I L) (nI j7) (nI n2) = ((if (ob I L).1 124 (10 * j7 + 1) = 3 then 1 else 0), (ob I L)) := by simp only [F_mark, gG_o (s := (ob I L)) h6 (show ¬ (ob I L).1 122 j7 = 0 from h8), if_neg (mk_r h2 h3), cIf_p (show mkC (ob I L) j7 (nI n2) from Or.inl h9), mkV, if_neg (show ¬ nI n2 = 1 by rw [ev_]; decide), if_neg (show ¬ nI n2 = 2 by rw [ev_]; decide), if_pos ev_]
      rw [e_] at k
      dsimp only at k
      exact k _ _ rfl cS_rf)
    (fun n2 h2 h3 e4 j7 h6 e7 h8 h9 x13 h11 h12 h13 h14 r25 h16 h17 => by
      subst e4
      subst e7
      have e_ : F_mark (ob I L) (nI j7) (nI n2) = ((cIf (mkQ (ob I L) j7) 1 0), (ob I L)) := by simp only [F_mark, gG_o (s := (ob I L)) h6 (show ¬ (ob I L).1 122 j7 = 0 from h8), if_neg (mk_r h2 h3), cIf_p (show mkC (ob I L) j7 (nI n2) from Or.inl h9), mkV, if_neg (show ¬ nI n2 = 1 from fun z => h12 (h11.trans z)), if_neg (show ¬ nI n2 = 2 from fun z => h13 (h11.trans z)), if_neg (show ¬ nI n2 = 3 from fun z => h14 (h11.trans z))]
      rw [e_] at k
      dsimp only at k
      rw [mk_q h16 h17]
      exact k _ _ rfl cS_rf)
    (fun n2 h2 h3 e4 j7 h6 e7 h8 h9 h10 => by
      subst e4
      subst e7
      have e_ : F_mark (ob I L) (nI j7) (nI n2) = ((-3), (sM (ob I L) 3)) := by simp only [F_mark, gG_o (s := (ob I L)) h6 (show ¬ (ob I L).1 122 j7 = 0 from h8), if_neg (mk_r h2 h3), cIf_n (show ¬ mkC (ob I L) j7 (nI n2) from fun z => z.elim h9 (fun z => h10 z.1))]
      rw [e_] at k
      dsimp only at k
      exact k _ _ (ob_M _ _ _) (cS_M _ _ _))
    (fun n2 h2 h3 e4 j7 h6 e7 h8 h9 h10 h11 x34 h13 h14 => by
      subst e4
      subst e7
      have ev_ : nI n2 = 1 := h13.symm.trans h14
      have e_ : F_mark (ob I L) (nI j7) (nI n2) = (((ob I L).1 124 (10 * j7 + 3)), (ob I L)) := by simp only [F_mark, gG_o (s := (ob I L)) h6 (show ¬ (ob I L).1 122 j7 = 0 from h8), if_neg (mk_r h2 h3), cIf_p (show mkC (ob I L) j7 (nI n2) from Or.inr ⟨h10, h11⟩), mkV, if_pos ev_]
      rw [e_] at k
      dsimp only at k
      exact k _ _ rfl cS_rf)
    (fun n2 h2 h3 e4 j7 h6 e7 h8 h9 h10 h11 x34 h13 h14 => by
      subst e4
      subst e7
      exact absurd (h10.symm.trans (h13.symm.trans h14)) (by decide))
    (fun n2 h2 h3 e4 j7 h6 e7 h8 h9 h10 h11 x34 h13 h14 => by
      subst e4
      subst e7
      exact absurd (h10.symm.trans (h13.symm.trans h14)) (by decide))
    (fun n2 h2 h3 e4 j7 h6 e7 h8 h9 h10 h11 x34 h13 h14 h15 h16 r46 h18 h19 => by
      subst e4
      subst e7
      exact absurd (h13.trans h10) h14)
    (fun n2 h2 h3 e4 j7 h6 e7 h8 h9 h10 h11 => by
      subst e4
      subst e7
      have e_ : F_mark (ob I L) (nI j7) (nI n2) = ((-3), (sM (ob I L) 3)) := by simp only [F_mark, gG_o (s := (ob I L)) h6 (show ¬ (ob I L).1 122 j7 = 0 from h8), if_neg (mk_r h2 h3), cIf_n (show ¬ mkC (ob I L) j7 (nI n2) from fun z => z.elim h9 (fun z => h11 z.2))]
      rw [e_] at k
      dsimp only at k
      exact k _ _ (ob_M _ _ _) (cS_M _ _ _))
    (fun n2 h2 h3 e4 h5 => by
      subst e4
      have e_ : F_mark (ob I L) q_ (nI n2) = ((-1), (ob I L)) := by simp only [F_mark, gG_n (s := (ob I L)) (ix_n2 h5 li_12), if_neg (mk_r h2 h3)]
      rw [e_] at k
      dsimp only at k
      exact k _ _ rfl cS_rf)
    (fun h1 => by
      have e_ : F_mark (ob I L) q_ c_ = ((-1), (ob I L)) := by simp only [F_mark, if_pos (show (c_ < 1 ∨ 4 < c_) from Decidable.by_contra (fun q => h1 ⟨fun z => q (Or.inl z), fun z => q (Or.inr z)⟩))]
      rw [e_] at k
      dsimp only at k
      exact k _ _ rfl cS_rf)
theorem p_mark {g : ma_G} {I : ma_I} {L : ma_L} {P1 : ma_P} (hI : INV I L) (a1 a2 : Int32) (k : ∀ (r : Int32) (I1 : ma_I) (L1 : ma_L), (∀ {P2 : ma_P}, (∀ (I2 : ma_I) (L2 : ma_L), INV I2 L2 → P2 (some (.int r)) HS I2 L2 RF 146) → CT g yX8_mark cX8_mark 5 (some .int) rX8_mark [.ref 115, .int a1, .int a2] P2 HS I1 L1 RF 146) → P1 (some (.int r)) HS I1 L1 RF 146) : CT g yX7_mark cX7_mark 5 (some .int) rX7_mark [.ref 3, .int a1, .int a2] P1 HS I L RF 146 :=
  pair_i (F := F_mark (ob I L) a1 a2) hI (W_mark hI.1 a1 a2) (fun P kk => C_mark hI.1 hI.2 a1 a2 kk) (fun I1 L1 P e kk => M_mark (by rw [e]; exact hI.1)  a1 a2 (by rw [e]; exact kk)) k
