theorem mLB_0 {m : Nat} {f : Nat → Int64} {u w : Int64} : mLB m (nI 0) f u w = 0 := by unfold mLB; rw [if_pos (Or.inl (show nI 0 = 0 from rfl))]
theorem pr_ {a b c d : Int32} (h : (a, b) = (c, d)) : a = c ∧ b = d := ⟨congrArg Prod.fst h, congrArg Prod.snd h⟩
theorem oc_40 {G H : Nat → Int} {s : mP} {rl tw : Int32} (hb : bd G) (h0 : ¬ G 0 = 0) (hr : s.r = 0) (hm : s.m = 4) (hG : ∀ j, j ≤ 4 → G j = H j) (hf : ∀ j, j ≤ 4 → s.f j = Int64.ofInt (H j)) (nd : ∀ u w, w ≠ 0 → ND u w 4 H) (hl : (rl, tw) = mLL s.m s.f) : Oc (p4 (G 0) (G 1) (G 2) (G 3) (G 4)) 0 s rl tw := by
  have nd' : ∀ u w, w ≠ 0 → ND u w 4 G := fun u w hw h1 d => by
    have e := hv_j (by decide) hG u w
    rw [e.1, e.2] at d
    exact nd u w hw h1 d
  have q4 := q4_ h0 nd'
  rw [hm, mLL_4 (H := G) (fun j hj => by rw [hf j (by omega), hG j (by omega)]) hb h0] at hl
  unfold p4
  generalize vI (G 0) (G 1) (G 2) (G 3) (G 4) = I at *
  generalize vJ (G 0) (G 1) (G 2) (G 3) (G 4) = J at *
  generalize vE (G 0) (G 1) (G 2) = e at *
  generalize vR (G 0) (G 1) (G 2) (G 3) = R at *
  generalize hS : 16 * (G 0 * G 0) * I - e * e = S at *
  generalize hD : 4 * (I * I * I) - J * J = D at *
  unfold pz4
  by_cases c1 : D < 0
  · rw [if_pos c1] at hl
    obtain ⟨e1, e2⟩ := pr_ hl
    subst e1 e2
    rw [if_neg (by omega)]
    exact Oc_i (n := 2) hm hr rfl (by decide) (by rw [mPat_0]; decide) (by decide) (Bw_0 _)
  · rw [if_neg c1] at hl
    rw [if_pos (by omega)]
    by_cases c2 : D = 0
    · rw [if_pos c2] at hl
      obtain ⟨k1, k2, k3⟩ := q4 (by omega)
      rw [if_pos (by omega), if_neg k3, if_pos ⟨by rw [k1, Int.zero_mul], by rw [← hS, k2, Int.sub_self]⟩]
      by_cases c3 : e < 0
      · rw [if_pos c3] at hl
        obtain ⟨e1, e2⟩ := pr_ hl
        subst e1 e2
        rw [if_neg (by omega)]
        exact Oc_i (n := 2) hm hr rfl (by decide) (by rw [mPat_t]; decide) (by decide) Bw_t
      · rw [if_neg c3] at hl
        obtain ⟨e1, e2⟩ := pr_ hl
        subst e1 e2
        rw [if_pos (by omega)]
        exact Oc_i (n := 0) hm hr rfl (by decide) (by rw [mPat_t]; decide) (by decide) Bw_u
    · rw [if_neg c2] at hl
      rw [if_neg (by omega)]
      by_cases c3 : e < 0 ∧ S < 0
      · rw [if_pos c3] at hl
        obtain ⟨e1, e2⟩ := pr_ hl
        subst e1 e2
        rw [if_neg (by omega)]
        exact Oc_i (n := 4) hm hr rfl (by decide) (by rw [mPat_0]; decide) (by decide) (Bw_0 _)
      · rw [if_neg c3] at hl
        obtain ⟨e1, e2⟩ := pr_ hl
        subst e1 e2
        rw [if_pos (by omega)]
        exact Oc_i (n := 0) hm hr rfl (by decide) (by rw [mPat_0]; decide) (by decide) (Bw_0 _)
theorem oc_42 {G H : Nat → Int} {s : mP} {rl tw : Int32} {u : Int} {w : Nat} (h0 : ¬ H 0 = 0) (hr : s.r = 1) (hm : s.m = 2) (hs : RS s 0 u w 2) (hg : G42 G H u w) (hn : ¬ hv H u w 2 = 0) (hf : ∀ j, j ≤ 2 → s.f j = Int64.ofInt (H j)) (hB : ∀ j, j ≤ 2 → (H j).natAbs ≤ Bd 2) (nd : ∀ u w, w ≠ 0 → ND u w 2 H) (hl : (rl, tw) = mLL s.m s.f) : Oc (p4 (G 0) (G 1) (G 2) (G 3) (G 4)) 0 s rl tw := by
  obtain ⟨s1, s2, s3, s4, s5⟩ := hs
  obtain ⟨g0, g1, g2, g3, g4⟩ := hg
  have s4' := s4
  unfold Fr at s4'
  have c2 := c2_ h0 nd
  rw [hm, mLL_2 hf hB] at hl
  have lb := mLB_2 hf hB s4
  rw [← s1, ← s2] at lb
  have yy := y_42 u w (H 0) (H 1) (H 2)
  have w2 := Int.mul_pos (show 0 < (w : Int) by omega) (show 0 < (w : Int) by omega)
  rw [hv2] at lb hn
  have pp := p_42 (u := u) (w := w) (x := H 0) (y := H 1) (z := H 2) (by omega) h0 hn
  rw [g0, g1, g2, g3, g4]
  by_cases d : H 1 * H 1 - 4 * H 0 * H 2 ≤ 0
  · rw [if_pos d] at hl
    obtain ⟨e1, e2⟩ := pr_ hl
    subst e1 e2
    rw [pp.1 (by omega)]
    exact Oc_i (n := 0) hm hr rfl (by decide) (by rw [mPat_1 mLB_0 s3]; decide) (by decide) (Bw_1 _ (by decide))
  · rw [if_neg d] at hl
    obtain ⟨e1, e2⟩ := pr_ hl
    subst e1 e2
    rw [pp.2 (by omega)]
    have t0 := (pl_gt w2).mpr (show 0 < H 1 * H 1 - 4 * H 0 * H 2 by omega)
    generalize H 0 * (u * u) + H 1 * (u * w) + H 2 * (w * w) = N at *
    generalize 2 * H 0 * u + H 1 * w = S at *
    generalize (w : Int) * w * (H 1 * H 1 - 4 * H 0 * H 2) = V at *
    have cm : H 0 * N = N * H 0 := Int.mul_comm _ _
    by_cases c1 : N * H 0 < 0
    · rw [if_pos c1] at lb ⊢
      exact Oc_i (n := 2) hm hr rfl (by decide) (by rw [mPat_1 lb s3]; decide) (by decide) (Bw_1 _ (by decide))
    · rw [if_neg c1] at lb ⊢
      by_cases c3 : S * H 0 ≤ 0
      · have c4 : ¬ 0 ≤ S * H 0 := fun z => by
          have s0 : S = 0 := (Int.mul_eq_zero.mp (show S * H 0 = 0 by omega)).elim id (fun y => absurd y h0)
          rw [s0] at yy
          omega
        rw [if_pos c3] at lb
        rw [if_neg c4]
        exact Oc_i (n := 2) hm hr rfl (by decide) (by rw [mPat_1 lb s3]; decide) (by decide) (Bw_1 _ (by decide))
      · rw [if_neg c3] at lb
        rw [if_pos (by omega)]
        exact Oc_i (n := 2) hm hr rfl (by decide) (by rw [mPat_1 lb s3]; decide) (by decide) (Bw_1 _ (by decide))
theorem oc_43 {G H : Nat → Int} {s : mP} {rl tw : Int32} {u : Int} {w : Nat} (h0 : ¬ H 0 = 0) (hr : s.r = 1) (hm : s.m = 1) (hs : RS s 0 u w 3) (hg : G43 G H u w) (hn : ¬ hv H u w 1 = 0) (hf : ∀ j, j ≤ 1 → s.f j = Int64.ofInt (H j)) (hB : ∀ j, j ≤ 1 → (H j).natAbs ≤ Bd 1) (hl : (rl, tw) = mLL s.m s.f) : Oc (p4 (G 0) (G 1) (G 2) (G 3) (G 4)) 0 s rl tw := by
  obtain ⟨s1, s2, s3, s4, s5⟩ := hs
  obtain ⟨g0, g1, g2, g3, g4⟩ := hg
  have s4' := s4
  unfold Fr at s4'
  rw [hm] at hl
  obtain ⟨e1, e2⟩ := pr_ (show (rl, tw) = (nI 1, 0) from hl)
  subst e1 e2
  have lb := mLB_1 hf hB s4
  rw [← s1, ← s2] at lb
  rw [hv1] at lb hn
  rw [g0, g1, g2, g3, g4, p_43 (by omega) h0 hn]
  by_cases c1 : (H 0 * u + H 1 * w) * H 0 ≤ 0
  · rw [if_pos c1] at lb ⊢
    exact Oc_i (n := 1) hm hr rfl (by decide) (by rw [mPat_1 lb s3]; decide) (by decide) (Bw_1 _ (by decide))
  · rw [if_neg c1] at lb ⊢
    exact Oc_i (n := 1) hm hr rfl (by decide) (by rw [mPat_1 lb s3]; decide) (by decide) (Bw_1 _ (by decide))
theorem oc_44 {G H : Nat → Int} {s : mP} {rl tw : Int32} {u : Int} {w : Nat} (hr : s.r = 1) (hm : s.m = 0) (hs : RS s 0 u w 4) (hg : G44 G H u w) (hl : (rl, tw) = mLL s.m s.f) : Oc (p4 (G 0) (G 1) (G 2) (G 3) (G 4)) 0 s rl tw := by
  obtain ⟨s1, s2, s3, s4, s5⟩ := hs
  obtain ⟨g0, g1, g2, g3, g4⟩ := hg
  rw [hm] at hl
  obtain ⟨e1, e2⟩ := pr_ (show (rl, tw) = (nI 0, 0) from hl)
  subst e1 e2
  rw [g0, g1, g2, g3, g4, p_44]
  exact Oc_i (n := 0) hm hr rfl (by decide) (by rw [mPat_1 mLB_0 s3]; decide) (by decide) (Bw_1 _ (by decide))
theorem oc_22 {G : Nat → Int} {k : Int} {s : mP} {rl tw : Int32} {u x : Int} {w y : Nat} (hk : ¬ k = 0) (hr : s.r = 2) (hm : s.m = 0) (hs : RS s 0 u w 2) (hs' : RS s 1 x y 2) (hg : G22 G k u w x y) (hd : ¬ (y : Int) * u - x * w = 0) (hl : (rl, tw) = mLL s.m s.f) : Oc (p4 (G 0) (G 1) (G 2) (G 3) (G 4)) 0 s rl tw := by
  obtain ⟨s1, s2, s3, s4, s5⟩ := hs
  obtain ⟨r1, r2, r3, r4, r5⟩ := hs'
  obtain ⟨g0, g1, g2, g3, g4⟩ := hg
  unfold Fr at s4 r4
  rw [hm] at hl
  obtain ⟨e1, e2⟩ := pr_ (show (rl, tw) = (nI 0, 0) from hl)
  subst e1 e2
  rw [g0, g1, g2, g3, g4, p_22 hk (by omega) (by omega) hd]
  exact Oc_i (n := 0) hm hr rfl (by decide) (by rw [mPat_2 s3 r3]; decide) (by decide) (Bw_1 _ (by decide))
theorem oc_4 {G H : Nat → Int} {s : mP} {rl tw : Int32} (hb : bd G) (h0 : ¬ G 0 = 0) (hp : PF 4 G s H) (nd : ∀ u w, w ≠ 0 → ND u w s.m H) (hl : (rl, tw) = mLL s.m s.f) : Oc (p4 (G 0) (G 1) (G 2) (G 3) (G 4)) 0 s rl tw := by
  obtain ⟨h1, h2, h3⟩ := hp
  rcases h3 with ⟨a1, a2, a3⟩ | ⟨u, w, t, a1, a2, a3, a4, a5⟩ | ⟨u, w, x, y, a1, a2, a3, a4, a5, a6, a7⟩
  · rw [a2] at h1 nd
    exact oc_40 hb h0 a1 a2 a3 h1 nd hl
  · have t2 : 2 ≤ t := a2.2.2.2.2
    have wp : (w : Int) ≠ 0 := by have := a2.2.2.2.1; unfold Fr at this; omega
    have H0 := Fc_0 wp t s.m G H a4 h0
    have ht : t = 2 ∨ t = 3 ∨ t = 4 := by omega
    rcases ht with e | e | e
    · subst e
      have em : s.m = 2 := by omega
      rw [em] at a4 a5 h1 h2 nd
      exact oc_42 H0 a1 em a2 (Fc_42 a4) a5 h1 h2 nd hl
    · subst e
      have em : s.m = 1 := by omega
      rw [em] at a4 a5 h1 h2 nd
      exact oc_43 H0 a1 em a2 (Fc_43 a4) a5 h1 h2 hl
    · subst e
      have em : s.m = 0 := by omega
      rw [em] at a4
      exact oc_44 a1 em a2 (Fc_44 a4) hl
  · have k0 : ¬ H 0 = 0 := fun z => h0 (by rw [a6.1, z, Int.zero_mul])
    exact oc_22 k0 a1 a4 a2 a3 a6 a7 hl
theorem oc_3 {G H : Nat → Int} {s : mP} {rl tw : Int32} (b0 : (G 0).natAbs ≤ 24576) (b1 : (G 1).natAbs ≤ 36864) (b2 : (G 2).natAbs ≤ 24576) (b3 : (G 3).natAbs ≤ 6144) (h0 : ¬ G 0 = 0) (hp : PF 3 G s H) (nd : ∀ u w, w ≠ 0 → ND u w s.m H) (hl : (rl, tw) = mLL s.m s.f) : Oc (p3 (G 0) (G 1) (G 2) (G 3)) 1 s rl tw := by
  obtain ⟨h1, h2, h3⟩ := hp
  rcases h3 with ⟨a1, a2, a3⟩ | ⟨u, w, t, a1, a2, a3, a4, a5⟩ | ⟨u, w, x, y, a1, a2, a3, a4, a5, a6, a7⟩
  · rw [a2] at h1 nd
    have f3 : ∀ j, j ≤ 3 → s.f j = Int64.ofInt (G j) := fun j hj => by rw [h1 j hj, a3 j hj]
    have nd' : ∀ u w, w ≠ 0 → ND u w 3 G := fun u w hw h1 d => by
      have e := hv_j (by decide) a3 u w
      rw [e.1, e.2] at d
      exact nd u w hw h1 d
    have T := c3_ h0 nd'
    rw [a2, mLL_3 f3 b0 b1 b2 b3] at hl
    rw [p_30 h0 T]
    by_cases c : vT (G 0) (G 1) (G 2) (G 3) ≤ 0
    · rw [if_pos c] at hl ⊢
      obtain ⟨e1, e2⟩ := pr_ hl
      subst e1 e2
      exact Oc_i (n := 1) a2 a1 rfl (by decide) (by rw [mPat_0]; decide) (by decide) (Bw_0 _)
    · rw [if_neg c] at hl ⊢
      obtain ⟨e1, e2⟩ := pr_ hl
      subst e1 e2
      exact Oc_i (n := 3) a2 a1 rfl (by decide) (by rw [mPat_0]; decide) (by decide) (Bw_0 _)
  · obtain ⟨s1, s2, s3, s4, s5⟩ := a2
    have s4' := s4
    unfold Fr at s4'
    have H0 := Fc_0 (show (w : Int) ≠ 0 by omega) t s.m G H a4 h0
    have ht : t = 2 ∨ t = 3 := by omega
    rcases ht with e | e
    · subst e
      have em : s.m = 1 := by omega
      rw [em] at a4 a5 h1 h2
      obtain ⟨g0, g1, g2, g3⟩ := Fc_32 a4
      rw [em] at hl
      obtain ⟨e1, e2⟩ := pr_ (show (rl, tw) = (nI 1, 0) from hl)
      subst e1 e2
      have lb := mLB_1 h1 h2 s4
      rw [← s1, ← s2] at lb
      rw [hv1] at lb a5
      rw [g0, g1, g2, g3, p_32 (by omega) H0 a5]
      have nx : ¬ (H 0 * u + H 1 * w) * H 0 = 0 := fun z => (Int.mul_eq_zero.mp z).elim a5 H0
      by_cases c1 : (H 0 * u + H 1 * w) * H 0 ≤ 0
      · rw [if_pos c1] at lb
        rw [if_pos (by omega)]
        exact Oc_i (n := 1) em a1 rfl (by decide) (by rw [mPat_1 lb s3]; decide) (by decide) (Bw_1 _ (by decide))
      · rw [if_neg c1] at lb
        rw [if_neg (by omega)]
        exact Oc_i (n := 1) em a1 rfl (by decide) (by rw [mPat_1 lb s3]; decide) (by decide) (Bw_1 _ (by decide))
    · subst e
      have em : s.m = 0 := by omega
      rw [em] at a4
      obtain ⟨g0, g1, g2, g3⟩ := Fc_33 a4
      rw [em] at hl
      obtain ⟨e1, e2⟩ := pr_ (show (rl, tw) = (nI 0, 0) from hl)
      subst e1 e2
      rw [g0, g1, g2, g3, p_33]
      exact Oc_i (n := 0) em a1 rfl (by decide) (by rw [mPat_1 mLB_0 s3]; decide) (by decide) (Bw_1 _ (by decide))
  · omega
theorem oc_2 {G H : Nat → Int} {s : mP} {rl tw : Int32} (h0 : ¬ G 0 = 0) (hp : PF 2 G s H) (nd : ∀ u w, w ≠ 0 → ND u w s.m H) (hl : (rl, tw) = mLL s.m s.f) : Oc (pz2 (G 1 * G 1 - 4 * G 0 * G 2)) 2 s rl tw := by
  obtain ⟨h1, h2, h3⟩ := hp
  rcases h3 with ⟨a1, a2, a3⟩ | ⟨u, w, t, a1, a2, a3, a4, a5⟩ | ⟨u, w, x, y, a1, a2, a3, a4, a5, a6, a7⟩
  · rw [a2] at h1 h2 nd
    rw [a3 0 (by omega)] at h0
    have T := c2_ h0 nd
    rw [a2, mLL_2 h1 h2] at hl
    rw [a3 0 (by omega), a3 1 (by omega), a3 2 (by omega)]
    unfold pz2
    rw [if_neg T]
    by_cases c : H 1 * H 1 - 4 * H 0 * H 2 ≤ 0
    · rw [if_pos c] at hl ⊢
      obtain ⟨e1, e2⟩ := pr_ hl
      subst e1 e2
      exact Oc_i (n := 0) a2 a1 rfl (by decide) (by rw [mPat_0]; decide) (by decide) (Bw_0 _)
    · rw [if_neg c] at hl ⊢
      obtain ⟨e1, e2⟩ := pr_ hl
      subst e1 e2
      exact Oc_i (n := 2) a2 a1 rfl (by decide) (by rw [mPat_0]; decide) (by decide) (Bw_0 _)
  · obtain ⟨s1, s2, s3, s4, s5⟩ := a2
    have e : t = 2 := by omega
    subst e
    have em : s.m = 0 := by omega
    rw [em] at a4
    obtain ⟨g0, g1, g2⟩ := Fc_20 a4
    rw [em] at hl
    obtain ⟨e1, e2⟩ := pr_ (show (rl, tw) = (nI 0, 0) from hl)
    subst e1 e2
    have T : G 1 * G 1 - 4 * G 0 * G 2 = 0 := by rw [g0, g1, g2]; grind
    unfold pz2
    rw [if_pos T]
    exact Oc_i (n := 0) em a1 rfl (by decide) (by rw [mPat_1 mLB_0 s3]; decide) (by decide) (Bw_1 _ (by decide))
  · omega
theorem oc_1 {G H : Nat → Int} {s : mP} {rl tw : Int32} (hp : PF 1 G s H) (hl : (rl, tw) = mLL s.m s.f) : Oc 13 3 s rl tw := by
  obtain ⟨h1, h2, h3⟩ := hp
  rcases h3 with ⟨a1, a2, a3⟩ | ⟨u, w, t, a1, a2, a3, a4, a5⟩ | ⟨u, w, x, y, a1, a2, a3, a4, a5, a6, a7⟩
  · rw [a2] at hl
    obtain ⟨e1, e2⟩ := pr_ (show (rl, tw) = (nI 1, 0) from hl)
    subst e1 e2
    exact Oc_i (n := 1) a2 a1 rfl (by decide) (by rw [mPat_0]; decide) (by decide) (Bw_0 _)
  · have := a2.2.2.2.2; omega
  · omega
theorem oc_0 {G H : Nat → Int} {s : mP} {rl tw : Int32} (hp : PF 0 G s H) (hl : (rl, tw) = mLL s.m s.f) : Oc 4 4 s rl tw := by
  obtain ⟨h1, h2, h3⟩ := hp
  rcases h3 with ⟨a1, a2, a3⟩ | ⟨u, w, t, a1, a2, a3, a4, a5⟩ | ⟨u, w, x, y, a1, a2, a3, a4, a5, a6, a7⟩
  · rw [a2] at hl
    obtain ⟨e1, e2⟩ := pr_ (show (rl, tw) = (nI 0, 0) from hl)
    subst e1 e2
    exact Oc_i (n := 0) a2 a1 rfl (by decide) (by rw [mPat_0]; decide) (by decide) (Bw_0 _)
  · have := a2.2.2.2.2; omega
  · omega
theorem cG_b {F G : Int} {c N : Nat} (hc : 1 ≤ c) (e : F = c * G) (h : F.natAbs ≤ N) : G.natAbs ≤ N := by
  have e := congrArg Int.natAbs e
  rw [Int.natAbs_mul, Int.natAbs_natCast] at e
  have := Nat.le_mul_of_pos_left G.natAbs hc
  omega
/-- roots, pattern and signs between: class and reference -/
theorem ref_z {f : Nat → Int64} {F : Nat → Int} (hf : ∀ j, j < 5 → f j = Int64.ofInt (F j)) (hb : okF F) {bb m0 : Nat} {s : mP} (hd : mPd f bb m0 s) {rl tw : Int32} (hl : (rl, tw) = mLL s.m s.f) : Oc (pzF F) bb s rl tw ∧ (F 0 = 0 ↔ ¬ bb = 0) := by
  obtain ⟨c, G, H, c1, fg, g0, pf, nd⟩ := par_z hf (bd_s hb.1) hd
  obtain ⟨h1, h2, h3, _⟩ := hd
  have z : ∀ j, j < 5 → (f j = 0 ↔ F j = 0) := fun j hj => by have := bd_s hb.1 j hj; rw [hf j hj, o6_0 (by omega)]
  have hk : 0 < (c : Int) := by omega
  have b := hb.1
  unfold bd at b
  match bb, h1 with
  | 0, h1 =>
    have e : m0 = 4 := by omega
    subst e
    have n0 : ¬ F 0 = 0 := fun y => h3 ((z 0 (by omega)).mpr y)
    have f0 := fg 0 (by omega); have f1 := fg 1 (by omega); have f2 := fg 2 (by omega); have f3 := fg 3 (by omega); have f4 := fg 4 (by omega)
    rw [Nat.zero_add] at f0 f1 f2 f3 f4
    have bG : bd G := ⟨cG_b c1 f0 b.1, cG_b c1 f1 b.2.1, cG_b c1 f2 b.2.2.1, cG_b c1 f3 b.2.2.2.1, cG_b c1 f4 b.2.2.2.2⟩
    refine ⟨?_, fun y => absurd y n0, fun y => absurd rfl y⟩
    have e : pzF F = p4 (G 0) (G 1) (G 2) (G 3) (G 4) := by unfold pzF; rw [if_neg n0, f0, f1, f2, f3, f4, p4_k hk]
    rw [e]
    exact oc_4 bG g0 pf nd hl
  | 1, h1 =>
    have e : m0 = 3 := by omega
    subst e
    have z0 : F 0 = 0 := (z 0 (by omega)).mp (h2 0 (by omega))
    have n1 : ¬ F 1 = 0 := fun y => h3 ((z 1 (by omega)).mpr y)
    have s4 := hb.2 z0
    have f0 : F 1 = c * G 0 := fg 0 (by omega)
    have f1 : F 2 = c * G 1 := fg 1 (by omega)
    have f2 : F 3 = c * G 2 := fg 2 (by omega)
    have f3 : F 4 = c * G 3 := fg 3 (by omega)
    refine ⟨?_, fun _ => by decide, fun _ => z0⟩
    have e : pzF F = p3 (G 0) (G 1) (G 2) (G 3) := by unfold pzF; rw [if_pos z0, if_neg n1, f0, f1, f2, f3, p3_k hk]
    rw [e]
    exact oc_3 (cG_b c1 f0 s4.2.1) (cG_b c1 f1 s4.2.2.1) (cG_b c1 f2 s4.2.2.2.1) (cG_b c1 f3 s4.2.2.2.2) g0 pf nd hl
  | 2, h1 =>
    have e : m0 = 2 := by omega
    subst e
    have z0 : F 0 = 0 := (z 0 (by omega)).mp (h2 0 (by omega))
    have z1 : F 1 = 0 := (z 1 (by omega)).mp (h2 1 (by omega))
    have n2 : ¬ F 2 = 0 := fun y => h3 ((z 2 (by omega)).mpr y)
    have f0 : F 2 = c * G 0 := fg 0 (by omega)
    have f1 : F 3 = c * G 1 := fg 1 (by omega)
    have f2 : F 4 = c * G 2 := fg 2 (by omega)
    refine ⟨?_, fun _ => by decide, fun _ => z0⟩
    have e : pzF F = pz2 (G 1 * G 1 - 4 * G 0 * G 2) := by unfold pzF; rw [if_pos z0, if_pos z1, if_neg n2, f0, f1, f2, pz2_k hk]
    rw [e]
    exact oc_2 g0 pf nd hl
  | 3, h1 =>
    have e : m0 = 1 := by omega
    subst e
    have z0 : F 0 = 0 := (z 0 (by omega)).mp (h2 0 (by omega))
    have z1 : F 1 = 0 := (z 1 (by omega)).mp (h2 1 (by omega))
    have z2 : F 2 = 0 := (z 2 (by omega)).mp (h2 2 (by omega))
    have n3 : ¬ F 3 = 0 := fun y => h3 ((z 3 (by omega)).mpr y)
    refine ⟨?_, fun _ => by decide, fun _ => z0⟩
    have e : pzF F = 13 := by unfold pzF; rw [if_pos z0, if_pos z1, if_pos z2, if_neg n3]
    rw [e]
    exact oc_1 pf hl
  | 4, h1 =>
    have e : m0 = 0 := by omega
    subst e
    have z0 : F 0 = 0 := (z 0 (by omega)).mp (h2 0 (by omega))
    have z1 : F 1 = 0 := (z 1 (by omega)).mp (h2 1 (by omega))
    have z2 : F 2 = 0 := (z 2 (by omega)).mp (h2 2 (by omega))
    have z3 : F 3 = 0 := (z 3 (by omega)).mp (h2 3 (by omega))
    have n4 : ¬ F 4 = 0 := fun y => h3 ((z 4 (by omega)).mpr y)
    refine ⟨?_, fun _ => by decide, fun _ => z0⟩
    have e : pzF F = 4 := by unfold pzF; rw [if_pos z0, if_pos z1, if_pos z2, if_pos z3, if_neg n4]
    rw [e]
    exact oc_0 pf hl
  | b + 5, h1 => omega
/-- the long numbers are right -/
theorem mPq_z {f : Nat → Int64} {F : Nat → Int} (hf : ∀ j, j < 5 → f j = Int64.ofInt (F j)) (hb : okF F) : mPq f := fun bb m0 s hd h4 => by
  obtain ⟨c, G, H, c1, fg, g0, pf, nd⟩ := par_z hf (bd_s hb.1) hd
  obtain ⟨h1, h2, h3, _⟩ := hd
  obtain ⟨p1, p2, p3⟩ := pf
  have b := hb.1
  unfold bd at b
  rcases p3 with ⟨a1, a2, a3⟩ | ⟨u, w, t, a1, a2, a3, a4, a5⟩ | ⟨u, w, x, y, a1, a2, a3, a4, a5, a6, a7⟩
  · have e : bb = 0 := by omega
    subst e
    have e : m0 = 4 := by omega
    subst e
    have f0 := fg 0 (by omega); have f1 := fg 1 (by omega); have f2 := fg 2 (by omega); have f3 := fg 3 (by omega); have f4 := fg 4 (by omega)
    rw [Nat.zero_add] at f0 f1 f2 f3 f4
    have bG : bd G := ⟨cG_b c1 f0 b.1, cG_b c1 f1 b.2.1, cG_b c1 f2 b.2.2.1, cG_b c1 f3 b.2.2.2.1, cG_b c1 f4 b.2.2.2.2⟩
    exact mQok_z (fun j hj => by rw [p1 j (by omega), a3 j (by omega)]) bG
  · have := a2.2.2.2.2; omega
  · omega
