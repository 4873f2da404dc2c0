theorem cMb_n {p V : Int32} (h : ¬ V = 2) : cMb p V = 0 := by
  unfold cMb
  by_cases c : 5 ≤ p - p / 10 * 10
  · rw [if_pos c]
  · rw [if_neg c, if_neg h]
theorem gg_1 (u w x y : Int) : (w * w * y - 2 * u * w * x) * (w * w * x) = w * w * w * (w * (y * x) - 2 * (u * (x * x))) := by grind
theorem gg_2 (u w x y z : Int) : (w * w * z - 2 * u * w * y + u * u * x) * (w * w * x) = w * w * (w * w * (z * x) - 2 * (u * (w * (y * x))) + u * u * (x * x)) := by grind
theorem gg_3 (u w x y z : Int) : (u * u * y - 2 * u * w * z) * (w * w * x) = w * w * (u * (u * (y * x) - 2 * (w * (z * x)))) := by grind
theorem vv3 {s0 s1 : Int32} (h0 : s0 = 1 ∨ s0 = -1) (h1 : s1 = 1 ∨ s1 = -1) : (csG (g5 s0 s1 s0 0 0) 3).1 = if 0 < s1 * s0 then 0 else 2 := by
  rcases h0 with rfl | rfl <;> rcases h1 with rfl | rfl <;> decide
theorem sg_pm {x : Int} (h : ¬ x = 0) : sgI x = 1 ∨ sgI x = -1 := by
  rcases sgI_c x with ⟨h1, e⟩ | ⟨h1, e⟩ | ⟨h1, e⟩
  · exact absurd h1 h
  · exact Or.inl e
  · exact Or.inr e
theorem mLA_22 {f : Nat → Int64} {H : Nat → Int} (hf : ∀ j, j ≤ 2 → f j = Int64.ofInt (H j)) (hB : ∀ j, j ≤ 2 → (H j).natAbs ≤ Bd 2) (h0 : ¬ H 0 = 0) (h1 : ¬ H 1 = 0) (h2 : 0 < H 2 * H 0) : mLA 2 (nI 2) 0 f = if 0 < H 1 * H 0 then 0 else 2 := by
  have b : Bd 2 = 7483392 := rfl
  have q : ∀ j, j ≤ 2 → mSg (f j) = sgI (H j) := fun j hj => by have := hB j hj; rw [hf j hj, mSg_o (by omega)]
  have f0 : ¬ f 0 = 0 := by have := hB 0 (by omega); rw [hf 0 (by omega), o6_0 (by omega)]; exact h0
  have e : mLA 2 (nI 2) 0 f = (mLAl f 2).1 := by unfold mLA; rw [if_pos rfl, if_neg (by decide), if_pos (by decide)]
  have e2 : sgI (H 2) = sgI (H 0) := (sg_eq h0).mpr h2
  rw [e, (mLAl_c f0 2).1, csG_e, csG_c (g' := g5 (sgI (H 0)) (sgI (H 1)) (sgI (H 0)) 0 0) 3 (fun k hk => by
    match k, hk with
    | 0, _ => exact q 0 (by omega)
    | 1, _ => exact q 1 (by omega)
    | 2, _ => exact (q 2 (by omega)).trans e2), vv3 (sg_pm h0) (sg_pm h1), sg_mul]
  simp only [sg_gt]
theorem ao_40 {G H : Nat → Int} {s : mP} {rl tw : Int32} (hb : bd G) (h0 : ¬ G 0 = 0) (h4 : 0 < G 4 * G 0) (hr : s.r = 0) (hm : s.m = 4) (hG : ∀ j, j ≤ 4 → G j = H j) (hf : ∀ j, j ≤ 4 → s.f j = Int64.ofInt (H j)) (nd : ∀ u w, w ≠ 0 → ND u w 4 H) (hl : (rl, tw) = mLL s.m s.f) : mAo s rl tw = cMb (p4 (G 0) (G 1) (G 2) (G 3) (G 4)) (Vz (G 1 * G 0) (G 2 * G 0) (G 3 * G 0)) := by
  have nd' : ∀ u w, w ≠ 0 → ND u w 4 G := fun u w hw h1 d => by
    have e := hv_j (by decide) hG u w
    rw [e.1, e.2] at d
    exact nd u w hw h1 d
  have q4 := q4_ h0 nd'
  have hf' : ∀ j, j < 5 → s.f j = Int64.ofInt (G j) := fun j hj => by rw [hf j (by omega), hG j (by omega)]
  have hv := V_z hf' (bd_s hb) h0 h4
  have f0 : ¬ s.f 0 = 0 := by have := hb.1; rw [hf' 0 (by omega), o6_0 (by omega)]; exact h0
  have hb' := hb
  unfold bd at hb'
  have eR : vR (G 0) (G 1) (G 2) (G 3) = 8 * (G 0 * G 0) * G 3 - G 1 * (4 * G 0 * G 2 - G 1 * G 1) := by unfold vR; grind
  have eE : vE (G 0) (G 1) (G 2) = 8 * G 0 * G 2 - 3 * G 1 * G 1 := rfl
  have eI : 16 * (G 0 * G 0) * vI (G 0) (G 1) (G 2) (G 3) (G 4) - vE (G 0) (G 1) (G 2) * vE (G 0) (G 1) (G 2) = 3 * (64 * (G 0 * G 0) * (G 4 * G 0) - (4 * G 0 * G 2 - G 1 * G 1) * (4 * G 0 * G 2 - G 1 * G 1)) - 6 * (G 1 * (8 * (G 0 * G 0) * G 3 - G 1 * (4 * G 0 * G 2 - G 1 * G 1))) := by unfold vI vE; grind
  rw [hm, mLL_4 hf' hb h0] at hl
  unfold p4
  generalize vI (G 0) (G 1) (G 2) (G 3) (G 4) = I at *
  generalize vJ (G 0) (G 1) (G 2) (G 3) (G 4) = J at *
  generalize vE (G 0) (G 1) (G 2) = e at *
  generalize vR (G 0) (G 1) (G 2) (G 3) = R at *
  generalize hS : 16 * (G 0 * G 0) * I - e * e = S at *
  generalize hD : 4 * (I * I * I) - J * J = D at *
  unfold pz4
  by_cases c1 : D < 0
  · rw [if_pos c1] at hl
    obtain ⟨e1, e2⟩ := pr_ hl
    subst e1 e2
    rw [if_neg (by omega), cMb_5 (by decide), mAo_i (mTw_0 hr) (v := 0) (by rw [hm]; unfold mLA; rw [if_pos rfl, if_neg (by decide), if_neg (by decide)]), if_neg (by decide)]
  · rw [if_neg c1] at hl
    rw [if_pos (by omega)]
    by_cases c2 : D = 0
    · rw [if_pos c2] at hl
      obtain ⟨k1, k2, k3⟩ := q4 (by omega)
      have S0 : S = 0 := by rw [← hS, k2, Int.sub_self]
      rw [if_pos (by omega), if_neg k3, if_pos ⟨by rw [k1, Int.zero_mul], S0⟩]
      by_cases c3 : e < 0
      · rw [if_pos c3] at hl
        obtain ⟨e1, e2⟩ := pr_ hl
        subst e1 e2
        rw [if_neg (by omega), cMb_2 (by decide) (by decide)]
        have ep : 4 * s.f 0 * s.f 2 - s.f 1 * s.f 1 = Int64.ofInt (4 * G 0 * G 2 - G 1 * G 1) := by
          rw [hf' 0 (by omega), hf' 1 (by omega), hf' 2 (by omega), kc4, ← Int64.ofInt_mul, ← Int64.ofInt_mul, ← Int64.ofInt_mul, ← Int64.ofInt_sub]
        have bp : (4 * G 0 * G 2 - G 1 * G 1).natAbs < 9223372036854775808 := Nat.lt_of_le_of_lt (ns_ (nm_ (nm_ (k_ 4) hb'.1) hb'.2.2.1) (nm_ hb'.2.1 hb'.2.1)) (by decide)
        have el : mLA s.m 2 1 s.f = if 4 * G 0 * G 2 - G 1 * G 1 < 0 then 2 else if G 1 * G 0 < 0 then 4 else 0 := by
          rw [hm]
          unfold mLA
          rw [if_neg (by decide), if_neg (by decide)]
          have q1 : (¬ 0 ≤ 4 * s.f 0 * s.f 2 - s.f 1 * s.f 1) ↔ 4 * G 0 * G 2 - G 1 * G 1 < 0 := by rw [ep, nb_leL, o6_toInt bp, nb_0L]; omega
          have q2 : (¬ 0 ≤ mSg (s.f 1) * mSg (s.f 0)) ↔ G 1 * G 0 < 0 := by rw [hf' 0 (by omega), hf' 1 (by omega), mSg_o (by omega), mSg_o (by omega), sg_mul, sg_ge]; omega
          simp only [q1, q2]
        rw [mAo_i (mTw_0 hr) el]
        rw [k1] at eR
        have aa := sqp' h0
        have bb := sqp (G 1)
        rw [← eR, Int.mul_zero, S0] at eI
        generalize hQ : 4 * G 0 * G 2 - G 1 * G 1 = Q at *
        have d8 : G 1 * Q * G 0 = 8 * (G 0 * G 0) * (G 3 * G 0) := by
          have : G 1 * Q = 8 * (G 0 * G 0) * G 3 := by omega
          rw [this]; grind
        have d9 : Q * (G 1 * G 0) = 8 * (G 0 * G 0) * (G 3 * G 0) := by rw [← d8]; grind
        have K : 0 < 8 * (G 0 * G 0) := by omega
        have cq : 4 * G 0 * G 2 = 4 * (G 2 * G 0) := by grind
        have ce : 8 * G 0 * G 2 = 8 * (G 2 * G 0) := by grind
        have cb : 3 * G 1 * G 1 = 3 * (G 1 * G 1) := by grind
        by_cases c4 : Q < 0
        · rw [if_pos c4]
          have v2 : Vz (G 1 * G 0) (G 2 * G 0) (G 3 * G 0) = 2 := Vz_2 (fun q => by
            have z1 : Q * (G 1 * G 0) ≤ 0 := Int.mul_nonpos_of_nonpos_of_nonneg (by omega) q.1
            have z2 := (pl_ge K).mpr q.2.2
            have z3 : Q * (G 1 * G 0) = 0 := by omega
            have z4 : G 1 = 0 := by
              rcases Int.mul_eq_zero.mp z3 with y | y
              · omega
              · rcases Int.mul_eq_zero.mp y with y | y
                · exact y
                · exact absurd y h0
            rw [z4] at hQ
            omega) (fun q => by
            have z1 := Int.mul_pos_of_neg_of_neg c4 q.1
            have z2 := (pl_lt K).mpr q.2.2
            omega)
          rw [v2]; decide
        · rw [if_neg c4]
          have q0 : ¬ Q = 0 := fun z => by
            rw [z] at eI
            have := Int.mul_pos (show 0 < 64 * (G 0 * G 0) by omega) h4
            omega
          have b0 : ¬ G 1 * G 0 = 0 := fun z => by
            have : G 1 = 0 := (Int.mul_eq_zero.mp z).elim id (fun y => absurd y h0)
            rw [this] at hQ eE
            omega
          by_cases c5 : G 1 * G 0 < 0
          · rw [if_pos c5]
            have z1 := Int.mul_neg_of_pos_of_neg (show 0 < Q by omega) c5
            rw [d9] at z1
            rw [Vz_4 c5 (by omega) ((pl_lt K).mp z1)]; decide
          · rw [if_neg c5]
            have z1 := Int.mul_pos (show 0 < Q by omega) (show 0 < G 1 * G 0 by omega)
            rw [d9] at z1
            rw [Vz_0 (by omega) (by omega) (Int.le_of_lt ((pl_gt K).mp z1))]; decide
      · rw [if_neg c3] at hl
        obtain ⟨e1, e2⟩ := pr_ hl
        subst e1 e2
        rw [if_pos (by omega), cMb_5 (by decide), mAo_i (mTw_0 hr) (v := 0) (by rw [hm]; unfold mLA; rw [if_neg (by decide), if_pos rfl]), if_neg (by decide)]
    · rw [if_neg c2] at hl
      rw [if_neg (by omega)]
      by_cases c3 : e < 0 ∧ S < 0
      · rw [if_pos c3] at hl
        obtain ⟨e1, e2⟩ := pr_ hl
        subst e1 e2
        rw [if_neg (by omega), cMb_1 (by decide) (by decide), mAo_i (mTw_0 hr) (v := Vz (G 1 * G 0) (G 2 * G 0) (G 3 * G 0)) (by rw [hm]; unfold mLA; rw [if_pos rfl, if_neg (by decide), if_pos (by decide), (mLAl_c f0 4).1]; exact hv), Int32.zero_add, if_neg (show ¬ (0 : Int32) = 2 by decide), if_pos (show (0 : Int32) = 0 from rfl)]
      · rw [if_neg c3] at hl
        obtain ⟨e1, e2⟩ := pr_ hl
        subst e1 e2
        rw [if_pos (by omega), cMb_5 (by decide), mAo_i (mTw_0 hr) (v := 0) (by rw [hm]; unfold mLA; rw [if_pos rfl, if_neg (by decide), if_neg (by decide)]), if_neg (by decide)]
theorem ao_42 {G H : Nat → Int} {s : mP} {rl tw : Int32} {u : Int} {w : Nat} (h0 : ¬ H 0 = 0) (h4 : 0 < G 4 * G 0) (hr : s.r = 1) (hm : s.m = 2) (hs : RS s 0 u w 2) (hg : G42 G H u w) (hn : ¬ hv H u w 2 = 0) (hf : ∀ j, j ≤ 2 → s.f j = Int64.ofInt (H j)) (hB : ∀ j, j ≤ 2 → (H j).natAbs ≤ Bd 2) (nd : ∀ u w, w ≠ 0 → ND u w 2 H) (NB : 0 < u → 0 ≤ H 1 * H 1 - 4 * H 0 * H 2) (hl : (rl, tw) = mLL s.m s.f) : mAo s rl tw = cMb (p4 (G 0) (G 1) (G 2) (G 3) (G 4)) (Vz (G 1 * G 0) (G 2 * G 0) (G 3 * G 0)) := by
  have tw1 := mTw_1 hr hs
  obtain ⟨s1, s2, s3, s4, s5⟩ := hs
  obtain ⟨g0, g1, g2, g3, g4⟩ := hg
  unfold Fr at s4
  have c2 := c2_ h0 nd
  rw [hm, mLL_2 hf hB] at hl
  have wp : 0 < (w : Int) := by omega
  have w2 := Int.mul_pos wp wp
  have w3 := Int.mul_pos w2 wp
  rw [hv2] at hn
  have pp := p_42 (u := u) (w := w) (x := H 0) (y := H 1) (z := H 2) wp h0 hn
  have e40 : G 4 * G 0 = u * u * (w * w) * (H 2 * H 0) := by rw [g0, g4]; grind
  have u0 : ¬ u = 0 := fun z => by rw [z] at e40; rw [e40, Int.zero_mul, Int.zero_mul, Int.zero_mul] at h4; omega
  have zx : 0 < H 2 * H 0 := by rw [e40] at h4; exact (pl_gt (Int.mul_pos (sqp' u0) w2)).mp h4
  have A := sqp' h0
  have dB : H 1 * H 0 * (H 1 * H 0) - 4 * (H 0 * H 0 * (H 2 * H 0)) = H 0 * H 0 * (H 1 * H 1 - 4 * H 0 * H 2) := by grind
  have eV : 0 ≤ H 1 * H 1 - 4 * H 0 * H 2 → ¬ H 1 * H 0 = 0 → Vz (G 1 * G 0) (G 2 * G 0) (G 3 * G 0) = if 0 < u then (if 0 < H 1 * H 0 then 2 else 4) else (if 0 < H 1 * H 0 then 0 else 2) := fun hd hB0 => by
    have k := v42_ (u := u) (w := w) (A := H 0 * H 0) (B := H 1 * H 0) (C := H 2 * H 0) wp A zx hB0 (by have := (pl_ge A).mpr hd; omega) u0
    rw [g0, g1, g2, g3, gg_1, gg_2, gg_3, Vz_k w3 w2 w2, k]
  by_cases d : H 1 * H 1 - 4 * H 0 * H 2 ≤ 0
  · rw [if_pos d] at hl
    obtain ⟨e1, e2⟩ := pr_ hl
    subst e1 e2
    have up : ¬ 0 < u := fun z => by have := NB z; omega
    rw [if_neg up] at tw1
    rw [g0, g1, g2, g3, g4, pp.1 (by omega), cMb_5 (by decide), mAo_i tw1 (v := 0) (by rw [hm]; unfold mLA; rw [if_pos rfl, if_neg (by decide), if_neg (by decide)]), if_neg (by decide)]
  · rw [if_neg d] at hl
    obtain ⟨e1, e2⟩ := pr_ hl
    subst e1 e2
    have AC := Int.mul_pos A zx
    have dp := Int.mul_pos A (show 0 < H 1 * H 1 - 4 * H 0 * H 2 by omega)
    have hB0 : ¬ H 1 * H 0 = 0 := fun z => by rw [z] at dB; omega
    have h1 : ¬ H 1 = 0 := fun z => hB0 (by rw [z, Int.zero_mul])
    rw [mAo_i tw1 (v := if 0 < H 1 * H 0 then 0 else 2) (by rw [hm]; exact mLA_22 hf hB h0 h1 zx), eV (by omega) hB0]
    have eN : (H 0 * (u * u) + H 1 * (u * w) + H 2 * (w * w)) * H 0 = H 0 * H 0 * (u * u) + u * (w * (H 1 * H 0)) + H 2 * H 0 * (w * w) := by grind
    have eS : (2 * H 0 * u + H 1 * w) * H 0 = 2 * (u * (H 0 * H 0)) + w * (H 1 * H 0) := by grind
    have n1 := Int.mul_pos A (sqp' u0)
    have n2 := Int.mul_pos zx w2
    by_cases cu : 0 < u
    · rw [if_pos cu, if_pos cu]
      by_cases cb : 0 < H 1 * H 0
      · rw [if_pos cb, if_pos cb]
        have n3 := Int.mul_pos wp cb
        have n4 := Int.mul_pos cu n3
        have n5 := Int.mul_pos cu A
        have pe : p4 (G 0) (G 1) (G 2) (G 3) (G 4) = 112 := by rw [g0, g1, g2, g3, g4, pp.2 (by omega), if_neg (by omega), if_pos (by omega)]
        rw [pe, cMb_2 (by decide) (by decide)]; decide
      · rw [if_neg cb, if_neg cb, cMb_n (by decide)]; decide
    · rw [if_neg cu, if_neg cu]
      by_cases cb : 0 < H 1 * H 0
      · rw [if_pos cb, cMb_n (by decide)]; decide
      · rw [if_neg cb]
        have n3 := Int.mul_neg_of_pos_of_neg wp (show H 1 * H 0 < 0 by omega)
        have n4 := Int.mul_pos_of_neg_of_neg (show u < 0 by omega) n3
        have n5 := Int.mul_neg_of_neg_of_pos (show u < 0 by omega) A
        have pe : p4 (G 0) (G 1) (G 2) (G 3) (G 4) = 211 := by rw [g0, g1, g2, g3, g4, pp.2 (by omega), if_neg (by omega), if_neg (by omega)]
        rw [pe, cMb_1 (by decide) (by decide)]; decide
