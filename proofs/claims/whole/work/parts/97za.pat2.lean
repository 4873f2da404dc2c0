theorem mPat_0 (m n : Nat) (bt : Int32) (f u w : Nat → Int64) (t : Nat → Int32) : mPat m 0 (nI n) 0 bt n f u w t = mPz 0 bt (nI m) (nI n) 1 (mAp 1 n 0) := rfl
theorem mPat_t (m n : Nat) (bt : Int32) (f u w : Nat → Int64) (t : Nat → Int32) : mPat m 0 (nI n) 1 bt n f u w t = mPz 1 bt (nI m) (nI n) 2 (mAp 2 n 0) := rfl
theorem mPat_1 {m n L : Nat} {T bt : Int32} {f u w : Nat → Int64} {t : Nat → Int32} (h : mLB m (nI n) f (u 0) (w 0) = L) (ht : t 0 = T) : mPat m 1 (nI n) 0 bt n f u w t = mPz 0 bt (nI m) (nI n) 1 (mAp 1 (n - max 0 L) (10 * mAp 1 (L - 0) 0 + T)) := by subst h ht; rfl
theorem mPat_2 {T T' bt : Int32} {f u w : Nat → Int64} {t : Nat → Int32} (ht : t 0 = T) (ht' : t 1 = T') : mPat 0 2 (nI 0) 0 bt 0 f u w t = mPz 0 bt (nI 0) (nI 0) 1 (10 * (10 * 0 + T) + T') := by subst ht ht'; rfl
def Bw (r : Nat) (rl tw z : Int32) : Prop := ∀ ch s1 : Int32, 0 ≤ ch → (if ((tw = 0) ∧ (¬ nI r ≤ 0)) ∨ ((¬ tw = 0) ∧ ((0 < rl) ∨ (¬ nI r ≤ 0))) then (-6 : Int32) else (if ¬ ch = (if ¬ tw = 0 then 0 else rl) then (-6) else s1)) = if ch = z then s1 else -6
theorem Bw_0 (rl : Int32) : Bw 0 rl 0 rl := fun ch s1 _ => by
  rw [if_neg (fun q => q.elim (fun q => q.2 (by decide)) (fun q => q.1 rfl)), if_neg (show ¬ ¬ (0 : Int32) = 0 from fun q => q rfl)]
  by_cases c : ch = rl
  · rw [if_neg (fun q => q c), if_pos c]
  · rw [if_pos c, if_neg c]
theorem ch_m {ch : Int32} (h : 0 ≤ ch) : ¬ ch = -1 := fun z => by subst z; exact absurd h (by decide)
theorem Bw_1 (rl : Int32) {r : Nat} (hr : ¬ nI r ≤ 0) : Bw r rl 0 (-1) := fun ch s1 h => by
  rw [if_pos (Or.inl ⟨rfl, hr⟩), if_neg (ch_m h)]
theorem Bw_t : Bw 0 (nI 2) 1 (-1) := fun ch s1 h => by
  rw [if_pos (Or.inr ⟨by decide, Or.inl (by decide)⟩), if_neg (ch_m h)]
theorem Bw_u : Bw 0 (nI 0) 1 0 := fun ch s1 h => by
  rw [if_neg (by decide), if_pos (show ¬ (1 : Int32) = 0 by decide)]
  by_cases c : ch = 0
  · rw [if_neg (fun q => q c), if_pos c]
  · rw [if_pos c, if_neg c]
/-- what class and reference say of roots, pattern and signs between -/
def Oc (p : Int32) (bb : Nat) (s : mP) (rl tw : Int32) : Prop :=
  (∃ n, n < 5 ∧ rl = nI n ∧ mPat s.m s.r (nI n) tw (nI bb) n s.f s.u s.w s.t = p) ∧
  (nI s.r + rl) + (if ¬ nI bb ≤ 0 then (1 : Int32) else 0) = cRr p ∧
  Bw s.r rl tw (if bb = 0 then cS0 p else cS1 p)
theorem Oc_i {p : Int32} {bb : Nat} {s : mP} {rl tw : Int32} {m r n : Nat} (em : s.m = m) (er : s.r = r) (erl : rl = nI n) (hn : n < 5) (hp : mPat m r (nI n) tw (nI bb) n s.f s.u s.w s.t = p) (hr : (nI r + nI n) + (if ¬ nI bb ≤ 0 then (1 : Int32) else 0) = cRr p) (hB : Bw r (nI n) tw (if bb = 0 then cS0 p else cS1 p)) : Oc p bb s rl tw := by
  subst em er erl
  exact ⟨⟨n, hn, rfl, hp⟩, hr, hB⟩
theorem mLB_2 {f : Nat → Int64} {H : Nat → Int} (hf : ∀ j, j ≤ 2 → f j = Int64.ofInt (H j)) (hb : ∀ j, j ≤ 2 → (H j).natAbs ≤ Bd 2) {u : Int} {w : Nat} (hF : Fr u w) : mLB 2 (nI 2) f (Int64.ofInt u) (lN w) = if hv H u w 2 * H 0 < 0 then 1 else if (2 * H 0 * u + H 1 * w) * H 0 ≤ 0 then 0 else 2 := by
  have hF' := hF
  unfold Fr at hF'
  have ea := mAt_z (u := Int64.ofInt u) (w := lN w) (U := u) (W := (w : Int)) rfl rfl (m := 2) (by omega) hf
  have es : 2 * f 0 * Int64.ofInt u + f 1 * lN w = Int64.ofInt (2 * H 0 * u + H 1 * w) := by
    rw [hf 0 (by omega), hf 1 (by omega), kc2, show lN w = Int64.ofInt (w : Int) from rfl]
    simp only [Int64.ofInt_add, Int64.ofInt_mul]
  have ba := hv_bd (u := u) (w := (w : Int)) (by omega) (by omega) (n := 2) (by omega) hb
  have bs := sl_bd (u := u) (w := (w : Int)) (by omega) (by omega) (n := 2) (by omega) hb
  have b0 := hb 0 (by omega)
  have : Bd 2 = 7483392 := rfl
  unfold mLB
  rw [if_neg (by decide), if_neg (by decide), ea, es, hf 0 (by omega), mSg_o ba, mSg_o (show (2 * H 0 * u + H 1 * (w : Int)).natAbs < _ from bs), mSg_o (by omega), sg_mul, sg_mul]
  simp only [sg_ge, sg_le, Int.not_le]
theorem mLB_1 {f : Nat → Int64} {H : Nat → Int} (hf : ∀ j, j ≤ 1 → f j = Int64.ofInt (H j)) (hb : ∀ j, j ≤ 1 → (H j).natAbs ≤ Bd 1) {u : Int} {w : Nat} (hF : Fr u w) : mLB 1 (nI 1) f (Int64.ofInt u) (lN w) = if hv H u w 1 * H 0 ≤ 0 then 0 else 1 := by
  have hF' := hF
  unfold Fr at hF'
  have ea := mAt_z (u := Int64.ofInt u) (w := lN w) (U := u) (W := (w : Int)) rfl rfl (m := 1) (by omega) hf
  have ba := hv_bd (u := u) (w := (w : Int)) (by omega) (by omega) (n := 1) (by omega) hb
  have b0 := hb 0 (by omega)
  have : Bd 1 = 14966784 := rfl
  unfold mLB
  rw [if_neg (by decide), if_pos rfl, ea, hf 0 (by omega), mSg_o ba, mSg_o (by omega), sg_mul]
  simp only [sg_le]
theorem mLL_2 {f : Nat → Int64} {H : Nat → Int} (hf : ∀ j, j ≤ 2 → f j = Int64.ofInt (H j)) (hb : ∀ j, j ≤ 2 → (H j).natAbs ≤ Bd 2) : mLL 2 f = ((if H 1 * H 1 - 4 * H 0 * H 2 ≤ 0 then 0 else 2), 0) := by
  have e1 : f 1 * f 1 = Int64.ofInt (H 1 * H 1) := by rw [hf 1 (by omega), Int64.ofInt_mul]
  have e2 : 4 * f 0 * f 2 = Int64.ofInt (4 * H 0 * H 2) := by rw [hf 0 (by omega), hf 2 (by omega), kc4, Int64.ofInt_mul, Int64.ofInt_mul]
  have b1 : (H 1 * H 1).natAbs < 9223372036854775808 := Nat.lt_of_le_of_lt (nm_ (hb 1 (by omega)) (hb 1 (by omega))) (by decide)
  have b2 : (4 * H 0 * H 2).natAbs < 9223372036854775808 := Nat.lt_of_le_of_lt (nm_ (nm_ (k_ 4) (hb 0 (by omega))) (hb 2 (by omega))) (by decide)
  have c : (f 1 * f 1 ≤ 4 * f 0 * f 2) ↔ H 1 * H 1 - 4 * H 0 * H 2 ≤ 0 := by
    rw [e1, e2, nb_leL, o6_toInt b1, o6_toInt b2]; omega
  show ((if f 1 * f 1 ≤ 4 * f 0 * f 2 then (0 : Int32) else 2), (0 : Int32)) = _
  simp only [c]
theorem mLL_3 {f : Nat → Int64} {H : Nat → Int} (hf : ∀ j, j ≤ 3 → f j = Int64.ofInt (H j)) (h0 : (H 0).natAbs ≤ 24576) (h1 : (H 1).natAbs ≤ 36864) (h2 : (H 2).natAbs ≤ 24576) (h3 : (H 3).natAbs ≤ 6144) : mLL 3 f = ((if vT (H 0) (H 1) (H 2) (H 3) ≤ 0 then 1 else 3), 0) := by
  have e : ((((((((18 * (f 0)) * (f 1)) * (f 2)) * (f 3)) - ((((4 * (f 1)) * (f 1)) * (f 1)) * (f 3))) + ((((f 1) * (f 1)) * (f 2)) * (f 2))) - ((((4 * (f 0)) * (f 2)) * (f 2)) * (f 2))) - ((((27 * (f 0)) * (f 0)) * (f 3)) * (f 3))) = Int64.ofInt (vT (H 0) (H 1) (H 2) (H 3)) := by
    unfold vT
    rw [hf 0 (by omega), hf 1 (by omega), hf 2 (by omega), hf 3 (by omega), kc18, kc4, kc27]
    simp only [Int64.ofInt_add, Int64.ofInt_sub, Int64.ofInt_mul]
  have b : (vT (H 0) (H 1) (H 2) (H 3)).natAbs < 9223372036854775808 := Nat.lt_of_le_of_lt (ns_ (ns_ (na_ (ns_ (nm_ (nm_ (nm_ (nm_ (k_ 18) h0) h1) h2) h3) (nm_ (nm_ (nm_ (nm_ (k_ 4) h1) h1) h1) h3)) (nm_ (nm_ (nm_ h1 h1) h2) h2)) (nm_ (nm_ (nm_ (nm_ (k_ 4) h0) h2) h2) h2)) (nm_ (nm_ (nm_ (nm_ (k_ 27) h0) h0) h3) h3)) (by decide)
  have c : (((((((((18 * (f 0)) * (f 1)) * (f 2)) * (f 3)) - ((((4 * (f 1)) * (f 1)) * (f 1)) * (f 3))) + ((((f 1) * (f 1)) * (f 2)) * (f 2))) - ((((4 * (f 0)) * (f 2)) * (f 2)) * (f 2))) - ((((27 * (f 0)) * (f 0)) * (f 3)) * (f 3))) ≤ 0) ↔ vT (H 0) (H 1) (H 2) (H 3) ≤ 0 := by
    rw [e, nb_leL, o6_toInt b, nb_0L]
  show ((if ¬ (¬ ((((((((18 * (f 0)) * (f 1)) * (f 2)) * (f 3)) - ((((4 * (f 1)) * (f 1)) * (f 1)) * (f 3))) + ((((f 1) * (f 1)) * (f 2)) * (f 2))) - ((((4 * (f 0)) * (f 2)) * (f 2)) * (f 2))) - ((((27 * (f 0)) * (f 0)) * (f 3)) * (f 3))) ≤ 0) then (1 : Int32) else 3), (0 : Int32)) = _
  simp only [c, Decidable.not_not]
theorem mQr_z {I J e a : Int} (hI : I.natAbs < 9223372036854775808) (hJ : J.natAbs < 9223372036854775808) (he : e.natAbs < 9223372036854775808) (ha : a.natAbs < 9223372036854775808) (h0 : ¬ a = 0) : mQr (Int64.ofInt I) (Int64.ofInt J) (Int64.ofInt e) (Int64.ofInt a) = if 4 * (I * I * I) - J * J < 0 then (2, 0) else if 4 * (I * I * I) - J * J = 0 then (if e < 0 then 2 else 0, 1) else (if e < 0 ∧ 16 * (a * a) * I - e * e < 0 then 4 else 0, 0) := by
  unfold mQr
  have eq1 : ((4 * I.natAbs * I.natAbs * I.natAbs : Nat) : Int) = 4 * ((I.natAbs * I.natAbs : Nat) : Int) * (I.natAbs : Int) := by
    rw [Int.natCast_mul, Int.natCast_mul, Int.natCast_mul, Int.natCast_mul]; grind
  have eq2 : ((16 * a.natAbs * a.natAbs * I.natAbs : Nat) : Int) = 16 * ((a.natAbs * a.natAbs : Nat) : Int) * (I.natAbs : Int) := by
    rw [Int.natCast_mul, Int.natCast_mul, Int.natCast_mul, Int.natCast_mul]; grind
  rw [abs_sq] at eq1 eq2
  have ej := abs_sq J
  have ee := abs_sq e
  simp only [nb_ltL, o6_toInt hI, o6_toInt he, o6_toInt hJ, o6_toInt ha, nb_0L, o6_0 hI, o6_0 hJ]
  have e3 : 4 * (I * I) * I = 4 * (I * I * I) := by grind
  have jj := sqp J
  by_cases c : 0 < I ∨ (I = 0 ∧ J = 0)
  · rw [if_pos c]
    have ai : (I.natAbs : Int) = I := by omega
    rw [ai] at eq1 eq2
    rw [e3] at eq1
    clear e3
    generalize 4 * (I * I * I) = X at *
    by_cases c1 : X - J * J < 0
    · rw [if_pos c1, if_pos (by omega)]
    · rw [if_neg c1, if_neg (by omega)]
      by_cases c2 : X - J * J = 0
      · rw [if_pos c2, if_pos (by omega)]
      · rw [if_neg c2, if_neg (by omega)]
        have c3 : (16 * a.natAbs * a.natAbs * I.natAbs < e.natAbs * e.natAbs) ↔ 16 * (a * a) * I - e * e < 0 := by omega
        simp only [c3]
  · rw [if_neg c, if_pos]
    by_cases i0 : I = 0
    · have := sqp' (fun z => c (Or.inr ⟨i0, z⟩)); rw [i0]; omega
    · have := Int.mul_neg_of_pos_of_neg (sqp' i0) (show I < 0 by omega)
      omega
theorem mLL_4 {f : Nat → Int64} {H : Nat → Int} (hf : ∀ j, j < 5 → f j = Int64.ofInt (H j)) (hb : bd H) (h0 : ¬ H 0 = 0) : mLL 4 f = if 4 * (vI (H 0) (H 1) (H 2) (H 3) (H 4) * vI (H 0) (H 1) (H 2) (H 3) (H 4) * vI (H 0) (H 1) (H 2) (H 3) (H 4)) - vJ (H 0) (H 1) (H 2) (H 3) (H 4) * vJ (H 0) (H 1) (H 2) (H 3) (H 4) < 0 then (2, 0) else if 4 * (vI (H 0) (H 1) (H 2) (H 3) (H 4) * vI (H 0) (H 1) (H 2) (H 3) (H 4) * vI (H 0) (H 1) (H 2) (H 3) (H 4)) - vJ (H 0) (H 1) (H 2) (H 3) (H 4) * vJ (H 0) (H 1) (H 2) (H 3) (H 4) = 0 then (if vE (H 0) (H 1) (H 2) < 0 then 2 else 0, 1) else (if vE (H 0) (H 1) (H 2) < 0 ∧ 16 * (H 0 * H 0) * vI (H 0) (H 1) (H 2) (H 3) (H 4) - vE (H 0) (H 1) (H 2) * vE (H 0) (H 1) (H 2) < 0 then 4 else 0, 0) := by
  have b1 := bd_I hb
  have b2 := bd_J hb
  have b3 := bd_E hb
  have b4 := hb.1
  rw [← mQr_z (by omega) (by omega) (by omega) (by omega) h0, ← cIi_z hf, ← cJj_z hf, ← cEe_z hf, ← hf 0 (by omega)]
  rfl
theorem mQok_z {f : Nat → Int64} {H : Nat → Int} (hf : ∀ j, j < 5 → f j = Int64.ofInt (H j)) (hb : bd H) : mQok f := by
  have b2 := bd_J hb
  have b3 := bd_E hb
  have b4 := hb.1
  have e1 : mQj f = cJj f := rfl
  have e2 : mQp f = cEe f := rfl
  unfold mQok
  rw [e1, e2, cJj_z hf, cEe_z hf, hf 0 (by omega), o6_toInt (by omega), o6_toInt (by omega), o6_toInt (by omega)]
  exact ⟨by omega, by omega, by omega⟩
