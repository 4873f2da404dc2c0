theorem hh_1 (u w x y : Int) : (w * w * w * y - 3 * u * w * w * x) * (w * w * w * x) = w * w * w * (w * w) * (w * (y * x) - 3 * (u * (x * x))) := by grind
theorem hh_2 (u w x y : Int) : (3 * u * u * w * x - 3 * u * w * w * y) * (w * w * w * x) = 3 * (w * w * (w * w)) * (u * (u * (x * x) - w * (y * x))) := by grind
theorem hh_3 (u w x y : Int) : (3 * u * u * w * y - u * u * u * x) * (w * w * w * x) = w * w * w * (u * u) * (3 * (w * (y * x)) - u * (x * x)) := by grind
theorem hh_4 (u w x y : Int) : -(u * u * u * y) * (w * w * w * x) = w * w * w * (u * u) * (-(u * (y * x))) := by grind
theorem ao_43 {G H : Nat → Int} {s : mP} {rl tw : Int32} {u : Int} {w : Nat} (h0 : ¬ H 0 = 0) (h4 : 0 < G 4 * G 0) (hr : s.r = 1) (hm : s.m = 1) (hs : RS s 0 u w 3) (hg : G43 G H u w) (hf : ∀ j, j ≤ 1 → s.f j = Int64.ofInt (H j)) (hB : ∀ j, j ≤ 1 → (H j).natAbs ≤ Bd 1) (hl : (rl, tw) = mLL s.m s.f) (p : Int32) : mAo s rl tw = cMb p (Vz (G 1 * G 0) (G 2 * G 0) (G 3 * G 0)) := by
  have tw1 := mTw_1 hr hs
  obtain ⟨s1, s2, s3, s4, s5⟩ := hs
  obtain ⟨g0, g1, g2, g3, g4⟩ := hg
  unfold Fr at s4
  rw [hm] at hl
  obtain ⟨e1, e2⟩ := pr_ (show (rl, tw) = (nI 1, 0) from hl)
  subst e1 e2
  have wp : 0 < (w : Int) := by omega
  have w2 := Int.mul_pos wp wp
  have w3 := Int.mul_pos w2 wp
  have w4 := Int.mul_pos w2 w2
  have w5 := Int.mul_pos w3 w2
  have b0 := hB 0 (by omega)
  have b1 := hB 1 (by omega)
  have : Bd 1 = 14966784 := rfl
  have e40 : G 4 * G 0 = w * w * w * (u * u) * (-(u * (H 1 * H 0))) := by rw [g0, g4]; exact hh_4 u w (H 0) (H 1)
  have u0 : ¬ u = 0 := fun z => by rw [z] at e40; rw [e40, Int.zero_mul, Int.mul_zero, Int.zero_mul] at h4; omega
  have uu := sqp' u0
  have ub : u * (H 1 * H 0) < 0 := by rw [e40] at h4; have := (pl_gt (Int.mul_pos w3 uu)).mp h4; omega
  have A := sqp' h0
  have el : mLA s.m (nI 1) 0 s.f = if H 1 * H 0 < 0 then 1 else 0 := by
    rw [hm]
    unfold mLA
    rw [if_pos rfl, if_pos (by decide)]
    have q2 : (¬ 0 ≤ mSg (s.f 1) * mSg (s.f 0)) ↔ H 1 * H 0 < 0 := by rw [hf 0 (by omega), hf 1 (by omega), mSg_o (by omega), mSg_o (by omega), sg_mul, sg_ge]; omega
    by_cases c : H 1 * H 0 < 0
    · rw [if_pos c, if_pos ⟨rfl, q2.mpr c⟩]
    · rw [if_neg c, if_neg (fun q => c (q2.mp q.2))]
  rw [mAo_i tw1 el, g0, g1, g2, g3, hh_1, hh_2, hh_3, Vz_k w5 (by omega) (Int.mul_pos w3 uu)]
  by_cases cu : 0 < u
  · have hb : H 1 * H 0 < 0 := Decidable.by_contra (fun n => by have := Int.mul_nonneg (Int.le_of_lt cu) (show 0 ≤ H 1 * H 0 by omega); omega)
    have n1 := Int.mul_neg_of_pos_of_neg wp hb
    have n2 := Int.mul_pos cu A
    rw [if_pos cu, if_pos hb, Vz_4 (by omega) (Int.mul_pos cu (by omega)) (by omega), cMb_n (by decide)]; decide
  · have hb : 0 < H 1 * H 0 := Decidable.by_contra (fun n => by have := Int.mul_nonneg_of_nonpos_of_nonpos (show u ≤ 0 by omega) (show H 1 * H 0 ≤ 0 by omega); omega)
    have n1 := Int.mul_pos wp hb
    have n2 := Int.mul_neg_of_neg_of_pos (show u < 0 by omega) A
    rw [if_neg cu, if_neg (show ¬ H 1 * H 0 < 0 by omega), Vz_0 (by omega) (Int.le_of_lt (Int.mul_pos_of_neg_of_neg (show u < 0 by omega) (by omega))) (by omega), cMb_n (by decide)]; decide
theorem ii_1 (u w x : Int) : -(4 * u * w * w * w * x) * (w * w * w * w * x) = 4 * (w * w * w * (w * w * (w * w))) * (x * x) * (-u) := by grind
theorem ii_2 (u w x : Int) : (6 * u * u * w * w * x) * (w * w * w * w * x) = 6 * (w * w * (w * w) * (w * w)) * (x * x) * (u * u) := by grind
theorem ii_3 (u w x : Int) : -(4 * u * u * u * w * x) * (w * w * w * w * x) = 4 * (w * w * w * (w * w)) * (x * x) * (u * u) * (-u) := by grind
theorem ii_4 (u w x : Int) : u * u * u * u * x * (w * w * w * w * x) = w * w * (w * w) * (x * x) * (u * u * (u * u)) := by grind
theorem ao_44 {G H : Nat → Int} {s : mP} {rl tw : Int32} {u : Int} {w : Nat} (h0 : ¬ H 0 = 0) (h4 : 0 < G 4 * G 0) (hr : s.r = 1) (hm : s.m = 0) (hs : RS s 0 u w 4) (hg : G44 G H u w) (hl : (rl, tw) = mLL s.m s.f) (p : Int32) : mAo s rl tw = cMb p (Vz (G 1 * G 0) (G 2 * G 0) (G 3 * G 0)) := by
  have tw1 := mTw_1 hr hs
  obtain ⟨s1, s2, s3, s4, s5⟩ := hs
  obtain ⟨g0, g1, g2, g3, g4⟩ := hg
  unfold Fr at s4
  rw [hm] at hl
  obtain ⟨e1, e2⟩ := pr_ (show (rl, tw) = (nI 0, 0) from hl)
  subst e1 e2
  have wp : 0 < (w : Int) := by omega
  have w2 := Int.mul_pos wp wp
  have w3 := Int.mul_pos w2 wp
  have w4 := Int.mul_pos w2 w2
  have A := sqp' h0
  have e40 : G 4 * G 0 = w * w * (w * w) * (H 0 * H 0) * (u * u * (u * u)) := by rw [g0, g4]; exact ii_4 u w (H 0)
  have u0 : ¬ u = 0 := fun z => by rw [z, Int.zero_mul, Int.zero_mul, Int.mul_zero] at e40; omega
  have uu := sqp' u0
  have K1 := Int.mul_pos (show 0 < 4 * ((w : Int) * w * w * (w * w * (w * w))) by have := Int.mul_pos w3 w4; omega) A
  have K2 := Int.mul_pos (show 0 < 6 * ((w : Int) * w * (w * w) * (w * w)) by have := Int.mul_pos w4 w2; omega) A
  have K3 := Int.mul_pos (Int.mul_pos (show 0 < 4 * ((w : Int) * w * w * (w * w)) by have := Int.mul_pos w3 w2; omega) A) uu
  rw [mAo_i tw1 (v := 0) (by rw [hm]; unfold mLA; rw [if_pos rfl, if_pos (by decide), if_neg (fun q => absurd q.1 (by decide))]), g0, g1, g2, g3, ii_1, ii_2, ii_3, Vz_k K1 K2 K3]
  by_cases cu : 0 < u
  · rw [if_pos cu, Vz_4 (by omega) uu (by omega), cMb_n (by decide)]; decide
  · rw [if_neg cu, Vz_0 (by omega) (by omega) (by omega), cMb_n (by decide)]; decide
theorem jj_1 (k u w x y : Int) : -(2 * k * (w * w * (x * y) + u * w * (y * y))) * (k * (w * w * (y * y))) = k * k * (w * w * w) * (y * y) * (w * (-(2 * (x * y))) - 2 * (u * (y * y))) := by grind
theorem jj_2 (k u w x y : Int) : k * (w * w * (x * x) + 4 * (u * w) * (x * y) + u * u * (y * y)) * (k * (w * w * (y * y))) = k * k * (w * w) * (y * y) * (w * w * (x * x) - 2 * (u * (w * (-(2 * (x * y))))) + u * u * (y * y)) := by grind
theorem jj_3 (k u w x y : Int) : -(2 * k * (u * w * (x * x) + u * u * (x * y))) * (k * (w * w * (y * y))) = k * k * (w * w) * (y * y) * (u * (u * (-(2 * (x * y))) - 2 * (w * (x * x)))) := by grind
theorem jj_4 (k u w x y : Int) : k * (u * u * (x * x)) * (k * (w * w * (y * y))) = k * k * (w * w) * (y * y) * (u * u * (x * x)) := by grind
theorem ao_22 {G : Nat → Int} {k : Int} {s : mP} {rl tw : Int32} {u x : Int} {w y : Nat} (hk : ¬ k = 0) (h4 : 0 < G 4 * G 0) (hr : s.r = 2) (hm : s.m = 0) (hs : RS s 0 u w 2) (hs' : RS s 1 x y 2) (hg : G22 G k u w x y) (hd : ¬ (y : Int) * u - x * w = 0) (hl : (rl, tw) = mLL s.m s.f) : mAo s rl tw = cMb (p4 (G 0) (G 1) (G 2) (G 3) (G 4)) (Vz (G 1 * G 0) (G 2 * G 0) (G 3 * G 0)) := by
  have tw2 := mTw_2 hr hs hs'
  obtain ⟨s1, s2, s3, s4, s5⟩ := hs
  obtain ⟨r1, r2, r3, r4, r5⟩ := hs'
  obtain ⟨g0, g1, g2, g3, g4⟩ := hg
  unfold Fr at s4 r4
  rw [hm] at hl
  obtain ⟨e1, e2⟩ := pr_ (show (rl, tw) = (nI 0, 0) from hl)
  subst e1 e2
  have wp : 0 < (w : Int) := by omega
  have yp : 0 < (y : Int) := by omega
  have w2 := Int.mul_pos wp wp
  have w3 := Int.mul_pos w2 wp
  have y2 := Int.mul_pos yp yp
  have k2 := sqp' hk
  have K1 := Int.mul_pos (Int.mul_pos k2 w3) y2
  have K2 := Int.mul_pos (Int.mul_pos k2 w2) y2
  have e40 : G 4 * G 0 = k * k * (w * w) * (y * y) * (u * u * (x * x)) := by rw [g0, g4]; exact jj_4 k u w x y
  have u0 : ¬ u = 0 := fun z => by rw [z, Int.zero_mul, Int.zero_mul, Int.mul_zero] at e40; omega
  have x0 : ¬ x = 0 := fun z => by rw [z, Int.zero_mul, Int.mul_zero, Int.mul_zero] at e40; omega
  have xx := sqp' x0
  have pe : p4 (G 0) (G 1) (G 2) (G 3) (G 4) = 22 := by rw [g0, g1, g2, g3, g4, p_22 hk wp yp hd]
  have xy : ¬ x * (y : Int) = 0 := fun z => (Int.mul_eq_zero.mp z).elim x0 (by omega)
  have kV := v42_ (u := u) (w := w) (A := (y : Int) * y) (B := -(2 * (x * y))) (C := x * x) wp y2 xx (by omega) (by
    have : -(2 * (x * (y : Int))) * -(2 * (x * y)) = 4 * (y * y * (x * x)) := by grind
    omega) u0
  rw [pe, cMb_2 (by decide) (by decide), mAo_i tw2 (v := 0) (by rw [hm]; unfold mLA; rw [if_pos rfl, if_pos (by decide), if_neg (fun q => absurd q.1 (by decide))]), g0, g1, g2, g3, jj_1, jj_2, jj_3, Vz_k K1 K2 K2, kV]
  by_cases cu : 0 < u
  · rw [if_pos cu, if_pos cu]
    by_cases cx : 0 < x
    · have := Int.mul_pos cx yp
      rw [if_pos cx, if_neg (show ¬ 0 < -(2 * (x * (y : Int))) by omega)]; decide
    · have := Int.mul_neg_of_neg_of_pos (show x < 0 by omega) yp
      rw [if_neg cx, if_pos (show 0 < -(2 * (x * (y : Int))) by omega)]; decide
  · rw [if_neg cu, if_neg cu]
    by_cases cx : 0 < x
    · have := Int.mul_pos cx yp
      rw [if_pos cx, if_neg (show ¬ 0 < -(2 * (x * (y : Int))) by omega)]; decide
    · have := Int.mul_neg_of_neg_of_pos (show x < 0 by omega) yp
      rw [if_neg cx, if_pos (show 0 < -(2 * (x * (y : Int))) by omega)]; decide
/-- no form of two balls is the square of a root above 0 times a form without real roots -/
def NBf (F : Nat → Int) : Prop := ∀ (c : Nat) (G H : Nat → Int) (u : Int) (w : Nat), 1 ≤ c → (∀ j, j ≤ 4 → F j = c * G j) → 0 < u → 1 ≤ w → G42 G H u w → ¬ H 0 = 0 → 0 ≤ H 1 * H 1 - 4 * H 0 * H 2
theorem ball_ao {f : Nat → Int64} {F : Nat → Int} (hf : ∀ j, j < 5 → f j = Int64.ofInt (F j)) (hb : bd F) (h0 : ¬ F 0 = 0) (h4 : 0 < F 4 * F 0) (nb : NBf F) {bb m0 : Nat} {s : mP} (hd : mPd f bb m0 s) {rl tw : Int32} (hl : (rl, tw) = mLL s.m s.f) : mAo s rl tw = cMt f := by
  obtain ⟨c, G, H, c1, fg, g0, pf, nd⟩ := par_z hf (bd_s hb) hd
  obtain ⟨h1, h2, h3, _⟩ := hd
  have z0 : ¬ f 0 = 0 := by have := hb.1; rw [hf 0 (by omega), o6_0 (by omega)]; exact h0
  have e : bb = 0 := by
    refine Decidable.by_contra (fun n => z0 (h2 0 (by omega)))
  subst e
  have e : m0 = 4 := by omega
  subst e
  have hk : 0 < (c : Int) := by omega
  have kk := Int.mul_pos hk hk
  have b := hb
  unfold bd at b
  have f0 := fg 0 (by omega); have f1 := fg 1 (by omega); have f2 := fg 2 (by omega); have f3 := fg 3 (by omega); have f4 := fg 4 (by omega)
  rw [Nat.zero_add] at f0 f1 f2 f3 f4
  have bG : bd G := ⟨cG_b c1 f0 b.1, cG_b c1 f1 b.2.1, cG_b c1 f2 b.2.2.1, cG_b c1 f3 b.2.2.2.1, cG_b c1 f4 b.2.2.2.2⟩
  have ep : ∀ x y : Int, (c : Int) * x * (c * y) = c * c * (x * y) := by intro x y; grind
  have e : cMt f = cMb (p4 (G 0) (G 1) (G 2) (G 3) (G 4)) (Vz (G 1 * G 0) (G 2 * G 0) (G 3 * G 0)) := by
    unfold cMt
    rw [fig_z hf hb, V_z hf (bd_s hb) h0 h4]
    unfold pzF
    rw [if_neg h0, f0, f1, f2, f3, f4, p4_k hk, ep, ep, ep, Vz_k kk kk kk]
  rw [e]
  have g4 : 0 < G 4 * G 0 := by rw [f0, f4, ep] at h4; exact (pl_gt kk).mp h4
  have fg' : ∀ j, j ≤ 4 → F j = c * G j := fun j hj => by have := fg j hj; rw [Nat.zero_add] at this; exact this
  obtain ⟨p1, p2, p3⟩ := pf
  rcases p3 with ⟨a1, a2, a3⟩ | ⟨u, w, t, a1, a2, a3, a4, a5⟩ | ⟨u, w, x, y, a1, a2, a3, a4, a5, a6, a7⟩
  · rw [a2] at p1 nd
    exact ao_40 bG g0 g4 a1 a2 a3 p1 nd hl
  · have t2 : 2 ≤ t := a2.2.2.2.2
    have wp : 1 ≤ w := a2.2.2.2.1.1
    have H0 := Fc_0 (show (w : Int) ≠ 0 by omega) t s.m G H a4 g0
    have ht : t = 2 ∨ t = 3 ∨ t = 4 := by omega
    rcases ht with e | e | e
    · subst e
      have em : s.m = 2 := by omega
      rw [em] at a4 a5 p1 p2 nd
      exact ao_42 H0 g4 a1 em a2 (Fc_42 a4) a5 p1 p2 nd (fun z => nb c G H u w c1 fg' z wp (Fc_42 a4) H0) hl
    · subst e
      have em : s.m = 1 := by omega
      rw [em] at a4 p1 p2
      exact ao_43 H0 g4 a1 em a2 (Fc_43 a4) p1 p2 hl _
    · subst e
      have em : s.m = 0 := by omega
      rw [em] at a4
      exact ao_44 H0 g4 a1 em a2 (Fc_44 a4) hl _
  · have k0 : ¬ H 0 = 0 := fun z => g0 (by rw [a6.1, z, Int.zero_mul])
    exact ao_22 k0 g4 a1 a4 a2 a3 a6 a7 hl
