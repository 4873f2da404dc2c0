theorem ftr {a b c d e f : Int} (hb : 0 < b) (hd : 0 < d) (hf : 0 < f) (h1 : a * d < c * b) (h2 : c * f < e * d) : a * f < e * b := by
  have k1 : a * d * f < c * b * f := Int.mul_lt_mul_of_pos_right h1 hf
  have k2 : c * f * b < e * d * b := Int.mul_lt_mul_of_pos_right h2 hb
  have e1 : a * d * f = d * (a * f) := by grind
  have e2 : c * b * f = c * f * b := by grind
  have e3 : e * d * b = d * (e * b) := by grind
  exact Int.lt_of_mul_lt_mul_left (a := d) (by omega) (Int.le_of_lt hd)
theorem frac_ne {a x : Int} {y q : Nat} (h1 : 1 ≤ y) (h2 : 1 ≤ q) (hg : Nat.gcd a.natAbs y = 1) (hg' : Nat.gcd x.natAbs q = 1) (e : (q : Int) * a - x * (y : Int) = 0) : y = q ∧ a = x := by
  have e1 : (q : Int) * a = x * (y : Int) := by omega
  have e2 := congrArg Int.natAbs e1
  rw [Int.natAbs_mul, Int.natAbs_mul, Int.natAbs_natCast, Int.natAbs_natCast] at e2
  have d1 : y ∣ q := Nat.Coprime.dvd_of_dvd_mul_right (k := y) (n := a.natAbs) (m := q) (by rw [Nat.gcd_comm] at hg; exact hg) ⟨x.natAbs, by rw [e2, Nat.mul_comm]⟩
  have d2 : q ∣ y := Nat.Coprime.dvd_of_dvd_mul_left (k := q) (m := x.natAbs) (n := y) (by rw [Nat.gcd_comm] at hg'; exact hg') ⟨a.natAbs, e2.symm⟩
  have e3 := Nat.dvd_antisymm d1 d2
  subst e3
  refine ⟨rfl, ?_⟩
  have e4 : (y : Int) * (a - x) = 0 := by rw [Int.mul_sub, Int.mul_comm (y : Int) x]; omega
  have := mz_ (show (y : Int) ≠ 0 by omega) e4
  omega
/-- the fractions that the reference keeps -/
def rJ (F : Nat → Int) (q i : Nat) (s : mFz) : Prop :=
  (∀ k, k < s.1 → ∃ y, 1 ≤ y ∧ y ≤ 64 ∧ s.2.2.1 k = nI y ∧ (s.2.1 k).toInt.natAbs ≤ 64 ∧ RT F (s.2.1 k) y ∧ s.2.2.2 k = nI (4 - (zTk (s.2.1 k).toInt y 4 F).1) ∧ (y < q ∨ (y = q ∧ (s.2.1 k).toInt < (i : Int) - 64))) ∧
  ∀ j k, j < k → k < s.1 → (s.2.2.1 k).toInt * (s.2.1 j).toInt - (s.2.1 k).toInt * (s.2.2.1 j).toInt ≠ 0
theorem rJ_i {F : Nat → Int} {q i q' i' : Nat} {s : mFz} (h : rJ F q i s) (hq : ∀ (y : Nat) (u : Int), u.natAbs ≤ 64 → (y < q ∨ (y = q ∧ u < (i : Int) - 64)) → (y < q' ∨ (y = q' ∧ u < (i' : Int) - 64))) : rJ F q' i' s :=
  ⟨fun k hk => by
    obtain ⟨y, h1, h2, h3, h4, h5, h6, h7⟩ := h.1 k hk
    exact ⟨y, h1, h2, h3, h4, h5, h6, hq y _ h4 h7⟩, h.2⟩
theorem rJ_d {F : Nat → Int} {q i : Nat} {s : mFz} (h : rJ F q i s) (hi : i < 129) (h1 : 1 ≤ q) (h2 : q ≤ 64) (r : RT F (nI i - 64) q) {k : Nat} (hk : k < s.1) : (nI q).toInt * (s.2.1 k).toInt - (nI i - 64).toInt * (s.2.2.1 k).toInt ≠ 0 := fun e => by
  obtain ⟨y, g1, g2, g3, g4, g5, g6, g7⟩ := h.1 k hk
  rw [g3, nI_toInt (by omega), nI_toInt (by omega)] at e
  have f := frac_ne g1 h1 g5.1 r.1 e
  have := i64_ hi
  omega
theorem rJ_s {F : Nat → Int} {q i : Nat} {s : mFz} (h : rJ F q i s) (hi : i < 129) (h1 : 1 ≤ q) (h2 : q ≤ 64) : rJ F q (i + 1) (zRs F (nI i - 64) q s) := by
  have e := i64_ hi
  unfold zRs
  by_cases r : RT F (nI i - 64) q
  · rw [cIf_p r]
    refine ⟨fun k hk => ?_, fun j k hj hk => ?_⟩
    · dsimp only at hk ⊢
      by_cases c : k = s.1
      · rw [c, ma_up_s, ma_up_s, ma_up_s]
        exact ⟨q, h1, h2, rfl, by omega, r, rfl, Or.inr ⟨rfl, by omega⟩⟩
      · rw [ma_up_n _ _ c, ma_up_n _ _ c, ma_up_n _ _ c]
        obtain ⟨y, g1, g2, g3, g4, g5, g6, g7⟩ := h.1 k (by omega)
        exact ⟨y, g1, g2, g3, g4, g5, g6, by omega⟩
    · dsimp only at hk ⊢
      rw [ma_up_n (s.2.1) _ (show j ≠ s.1 by omega), ma_up_n (s.2.2.1) _ (show j ≠ s.1 by omega)]
      by_cases c : k = s.1
      · rw [c, ma_up_s, ma_up_s]; exact rJ_d h hi h1 h2 r (by omega)
      · rw [ma_up_n _ _ c, ma_up_n _ _ c]; exact h.2 j k hj (by omega)
  · rw [cIf_n r]
    exact rJ_i h (fun y u _ z => by omega)
theorem rJ_m {F : Nat → Int} {q : Nat} {s : mFz} (h : rJ F q 0 s) (h1 : 1 ≤ q) (h2 : q ≤ 64) : ∀ i, i ≤ 129 → rJ F q i (zRm F q i s)
  | 0, _ => h
  | i + 1, hi => rJ_s (rJ_m h h1 h2 i (by omega)) (by omega) h1 h2
theorem rJ_q {F : Nat → Int} {s : mFz} (h : s.1 = 0) : ∀ q, q ≤ 64 → rJ F (q + 1) 0 (zRq F q s)
  | 0, _ => ⟨fun k hk => absurd hk (by unfold zRq; omega), fun j k _ hk => absurd hk (by unfold zRq; omega)⟩
  | q + 1, hq => rJ_i (rJ_m (rJ_q h q (by omega)) (by omega) hq 129 (Nat.le_refl _)) (fun y u hu z => by omega)
theorem rJ_4 {F : Nat → Int} {q i : Nat} {s : mFz} (h : rJ F q i s) (hF : ¬ ∀ k, k ≤ 4 → F k = 0) : s.1 ≤ 4 :=
  rt_n 4 s.1 F (fun k => (s.2.1 k).toInt) (fun k => (s.2.2.1 k).toInt) hF (fun k hk => by
    obtain ⟨y, g1, g2, g3, g4, g5, g6, g7⟩ := h.1 k hk
    have e : (s.2.2.1 k).toInt = (y : Int) := by rw [g3, nI_toInt (by omega)]
    rw [e, Int.natAbs_natCast]
    exact ⟨by omega, g5.1, g5.2⟩) (fun j k hj hk => h.2 j k hj hk)
theorem cnt_ins {U V U2 V2 : Nat → Int32} {m q : Int32} {n p : Nat} (hp : p ≤ n) (a1 : ∀ k, k < p → U2 k = U k ∧ V2 k = V k) (a2 : U2 p = m ∧ V2 p = q) (a3 : ∀ k, p ≤ k → k < n → U2 (k + 1) = U k ∧ V2 (k + 1) = V k) (a b : Int) : cnt U2 V2 a b (n + 1) = cnt U V a b n + (if m.toInt * b < a * q.toInt then 1 else 0) := by
  have s1 : cnt U2 V2 a b p = cnt U V a b p := cnt_c a b p a1
  have s2 : ∀ d, p + d ≤ n → cnt U2 V2 a b (p + d + 1) = cnt U V a b (p + d) + (if m.toInt * b < a * q.toInt then 1 else 0) := by
    intro d
    induction d with
    | zero => intro _; show cnt U2 V2 a b p + _ = _; rw [s1, a2.1, a2.2]; rfl
    | succ d ih =>
      intro hd
      have i := ih (by omega)
      have g := a3 (p + d) (by omega) (by omega)
      have e1 : cnt U2 V2 a b (p + (d + 1) + 1) = cnt U2 V2 a b (p + d + 1) + (if (U2 (p + d + 1)).toInt * b < a * (V2 (p + d + 1)).toInt then 1 else 0) := rfl
      have e2 : cnt U V a b (p + (d + 1)) = cnt U V a b (p + d) + (if (U (p + d)).toInt * b < a * (V (p + d)).toInt then 1 else 0) := rfl
      rw [e1, e2, i, g.1, g.2]; omega
  have := s2 (n - p) (by omega)
  rw [show p + (n - p) = n by omega] at this
  exact this
/-- the class's fractions beside the reference's -/
def rI (F : Nat → Int) (q i : Nat) (c : cN3) (s : mFz) : Prop :=
  rJ F q i s ∧ c.1 = s.1 ∧ (∀ j k, j < k → k < c.1 → (c.2.1 j).toInt * (c.2.2 k).toInt < (c.2.1 k).toInt * (c.2.2 j).toInt) ∧
  (∀ k, k < c.1 → ∃ l, l < s.1 ∧ c.2.1 k = s.2.1 l ∧ c.2.2 k = s.2.2.1 l) ∧
  (∀ l, l < s.1 → ∃ k, k < c.1 ∧ c.2.1 k = s.2.1 l ∧ c.2.2 k = s.2.2.1 l) ∧
  ∀ a b, cnt c.2.1 c.2.2 a b c.1 = cnt s.2.1 s.2.2.1 a b s.1
theorem rI_e {F : Nat → Int} {q i : Nat} {c : cN3} {s : mFz} (h : rI F q i c s) {k : Nat} (hk : k < c.1) : ∃ y, 1 ≤ y ∧ y ≤ 64 ∧ c.2.2 k = nI y ∧ (c.2.1 k).toInt.natAbs ≤ 64 ∧ RT F (c.2.1 k) y := by
  obtain ⟨l, hl, e1, e2⟩ := h.2.2.2.1 k hk
  obtain ⟨y, g1, g2, g3, g4, g5, g6, g7⟩ := h.1.1 l hl
  exact ⟨y, g1, g2, by rw [e2]; exact g3, by rw [e1]; exact g4, by rw [e1]; exact g5⟩
theorem rI_s {F : Nat → Int} (hF : ¬ ∀ k, k ≤ 4 → F k = 0) {q i : Nat} {c : cN3} {s : mFz} (h : rI F q i c s) (hi : i < 129) (h1 : 1 ≤ q) (h2 : q ≤ 64) : rI F q (i + 1) (cIf (RT F (nI i - 64) q) (cKf (nI i - 64) (nI q) c) c) (zRs F (nI i - 64) q s) := by
  have J := rJ_s h.1 hi h1 h2
  have B := rJ_4 J hF
  refine ⟨J, ?_⟩
  have ex := i64_ hi
  have eq : (nI q).toInt = (q : Int) := nI_toInt (by omega)
  unfold zRs at B ⊢
  by_cases r : RT F (nI i - 64) q
  · rw [cIf_p r] at B
    rw [cIf_p r, cIf_p r]
    have D : ∀ k, k < s.1 → (nI q).toInt * (s.2.1 k).toInt - (nI i - 64).toInt * (s.2.2.1 k).toInt ≠ 0 := fun k hk => rJ_d h.1 hi h1 h2 r hk
    generalize hx : nI i - 64 = x at *
    have xs : x.toInt.natAbs ≤ 64 := by omega
    obtain ⟨n, U, V⟩ := c
    obtain ⟨hJ, e0, so, cl, lc, ct⟩ := id h
    have En := fun k hk => rI_e h (k := k) hk
    dsimp only at e0 so cl lc ct B En
    subst e0
    unfold cKf
    rw [if_pos (show s.1 < 4 by omega)]
    obtain ⟨⟨U2, V2⟩, hUV⟩ : ∃ z, z = cIn x (nI q) s.1 (U, V) := ⟨_, rfl⟩
    show _ ∧ _
    dsimp only
    rw [← hUV]
    dsimp only
    obtain ⟨p, hp, a1, a2, a3, a4, a5, a6⟩ := cIn_p s.1 U V U2 V2 hUV
    have pos : ∀ k, k < s.1 → 0 < (V k).toInt ∧ (V k).toInt.natAbs ≤ 64 ∧ (U k).toInt.natAbs ≤ 64 := fun k hk => by
      obtain ⟨y, g1, g2, g3, g4, g5⟩ := En k hk
      rw [g3, nI_toInt (by omega)]; exact ⟨by omega, by omega, g4⟩
    have ne : ∀ k, k < s.1 → (U k).toInt * (nI q).toInt ≠ x.toInt * (V k).toInt := fun k hk e => by
      obtain ⟨l, hl, e1, e2⟩ := cl k hk
      refine D l hl ?_
      rw [← e1, ← e2, Int.mul_comm (nI q).toInt]; omega
    have cmp : ∀ k, k < s.1 → (U k * nI q ≤ x * V k ↔ (U k).toInt * (nI q).toInt < x.toInt * (V k).toInt) := fun k hk => by
      have g := pos k hk
      have := ne k hk
      rw [nb_le, p64_ g.2.2 (by omega), p64_ xs g.2.1]; omega
    have qp : 0 < (nI q).toInt := by omega
    have lo : ∀ k, k < p → (U k).toInt * (nI q).toInt < x.toInt * (V k).toInt := fun k hk => by
      have f := (cmp (p - 1) (by omega)).mp (a5 (p - 1) (by omega))
      by_cases c : k = p - 1
      · rw [c]; exact f
      · exact ftr (pos k (by omega)).1 (pos (p - 1) (by omega)).1 qp (so k (p - 1) (by omega) (by omega)) f
    have hi2 : ∀ k, p ≤ k → k < s.1 → x.toInt * (V k).toInt < (U k).toInt * (nI q).toInt := fun k h1 h2 => by
      have f := a6 k h1 h2
      rw [cmp k h2] at f
      have := ne k h2
      omega
    refine ⟨rfl, fun j k hj hk => ?_, fun k hk => ?_, fun l hl => ?_, fun a b => ?_⟩
    · by_cases k1 : k < p
      · rw [(a1 k k1).1, (a1 k k1).2, (a1 j (by omega)).1, (a1 j (by omega)).2]; exact so j k hj (by omega)
      · by_cases k2 : k = p
        · rw [k2, a2.1, a2.2, (a1 j (by omega)).1, (a1 j (by omega)).2]; exact lo j (by omega)
        · have g := a3 (k - 1) (by omega) (by omega)
          rw [show k - 1 + 1 = k by omega] at g
          rw [g.1, g.2]
          by_cases j1 : j < p
          · rw [(a1 j j1).1, (a1 j j1).2]; exact so j (k - 1) (by omega) (by omega)
          · by_cases j2 : j = p
            · rw [j2, a2.1, a2.2]; exact hi2 (k - 1) (by omega) (by omega)
            · have g' := a3 (j - 1) (by omega) (by omega)
              rw [show j - 1 + 1 = j by omega] at g'
              rw [g'.1, g'.2]; exact so (j - 1) (k - 1) (by omega) (by omega)
    · by_cases k2 : k = p
      · exact ⟨s.1, by omega, by rw [k2, a2.1, ma_up_s], by rw [k2, a2.2, ma_up_s]⟩
      · by_cases k1 : k < p
        · obtain ⟨l, hl, e1, e2⟩ := cl k (by omega)
          exact ⟨l, by omega, by rw [(a1 k k1).1, e1, ma_up_n _ _ (by omega)], by rw [(a1 k k1).2, e2, ma_up_n _ _ (by omega)]⟩
        · have g := a3 (k - 1) (by omega) (by omega)
          rw [show k - 1 + 1 = k by omega] at g
          obtain ⟨l, hl, e1, e2⟩ := cl (k - 1) (by omega)
          exact ⟨l, by omega, by rw [g.1, e1, ma_up_n _ _ (by omega)], by rw [g.2, e2, ma_up_n _ _ (by omega)]⟩
    · by_cases l1 : l = s.1
      · exact ⟨p, by omega, by rw [l1, a2.1, ma_up_s], by rw [l1, a2.2, ma_up_s]⟩
      · obtain ⟨k, hk, e1, e2⟩ := lc l (by omega)
        by_cases k1 : k < p
        · exact ⟨k, by omega, by rw [(a1 k k1).1, e1, ma_up_n _ _ l1], by rw [(a1 k k1).2, e2, ma_up_n _ _ l1]⟩
        · have g := a3 k (by omega) hk
          exact ⟨k + 1, by omega, by rw [g.1, e1, ma_up_n _ _ l1], by rw [g.2, e2, ma_up_n _ _ l1]⟩
    · rw [cnt_ins hp a1 a2 a3 a b, ct a b]
      show _ = cnt _ _ a b s.1 + _
      rw [ma_up_s, ma_up_s, cnt_c (U := ma_up s.2.1 s.1 x) (V := ma_up s.2.2.1 s.1 (nI q)) (U' := s.2.1) (V' := s.2.2.1) a b s.1 (fun k hk => ⟨ma_up_n _ _ (by omega), ma_up_n _ _ (by omega)⟩)]
  · rw [cIf_n r, cIf_n r]; exact h.2
theorem cFs_z {f : Nat → Int64} {F : Nat → Int} (hf : ∀ j, j < 5 → f j = Int64.ofInt (F j)) (hb : sml F) {x : Int32} (hx : x.toInt.natAbs ≤ 64) {q : Nat} (h1 : 1 ≤ q) (h2 : q ≤ 64) (c : cN3) : cFs f x (nI q) c = cIf (RT F x q) (cKf x (nI q) c) c := by
  have e : mAt4 f (Int32.toInt64 x) (Int32.toInt64 (nI q)) = Int64.ofInt (hv F x.toInt q 4) := mAt_z (m := 4) (i2l_o x) (by rw [q64_ h2]; rfl) (by omega) (fun j hj => hf j (by omega))
  have vb := hv_b (u := x.toInt) (w := (q : Int)) (N := 64) (B := 623616) hx (by omega) 4 (fun j hj => hb j (by omega))
  have vb2 : (hv F x.toInt q 4).natAbs < 9223372036854775808 := Nat.lt_of_le_of_lt vb (by decide)
  unfold cFs
  by_cases r : RT F x q
  · rw [cIf_p r, if_pos ⟨by rw [e, r.2]; rfl, (gc_ hx h1 h2).mpr r.1⟩]
  · rw [cIf_n r, if_neg (fun z => r ⟨(gc_ hx h1 h2).mp z.2, by have z1 := z.1; rw [e, o6_0 vb2] at z1; exact z1⟩)]
theorem rI_m {f : Nat → Int64} {F : Nat → Int} (hf : ∀ j, j < 5 → f j = Int64.ofInt (F j)) (hb : sml F) (hF : ¬ ∀ k, k ≤ 4 → F k = 0) {q : Nat} {c : cN3} {s : mFz} (h : rI F q 0 c s) (h1 : 1 ≤ q) (h2 : q ≤ 64) : ∀ i, i ≤ 129 → rI F q i (cFq f (nI q) i c) (zRm F q i s)
  | 0, _ => h
  | i + 1, hi => by
    have e := i64_ (i := i) (by omega)
    unfold cFq zRm
    rw [cFs_z hf hb (by rw [e]; omega) h1 h2]
    exact rI_s hF (rI_m hf hb hF h h1 h2 i (by omega)) (by omega) h1 h2
theorem cFq_0 {f : Nat → Int64} {F : Nat → Int} (hf : ∀ j, j < 5 → f j = Int64.ofInt (F j)) (hb : sml F) {q : Nat} (h1 : 1 ≤ q) (h2 : q ≤ 64) (hn : ∀ x : Int32, ¬ RT F x q) (c : cN3) : ∀ i, i ≤ 129 → cFq f (nI q) i c = c
  | 0, _ => rfl
  | i + 1, hi => by
    have e := i64_ (i := i) (by omega)
    unfold cFq
    rw [cFq_0 hf hb h1 h2 hn c i (by omega), cFs_z hf hb (by rw [e]; omega) h1 h2, cIf_n (hn _)]
theorem rI_q {f : Nat → Int64} {F : Nat → Int} (hf : ∀ j, j < 5 → f j = Int64.ofInt (F j)) (hb : sml F) {bb : Nat} (hbb : bb ≤ 4) (h0 : ∀ j, j < bb → F j = 0) (hn : ¬ F bb = 0) {c : cN3} {s : mFz} (hc : c.1 = 0) (hs : s.1 = 0) : ∀ q, q ≤ 64 → rI F (q + 1) 0 (cFr f (f bb) q c) (zRq F q s)
  | 0, hq => ⟨rJ_q hs 0 hq, by unfold cFr zRq; omega, fun j k _ hk => absurd hk (by unfold cFr; omega), fun k hk => absurd hk (by unfold cFr; omega), fun k hk => absurd hk (by unfold zRq; omega), fun a b => by unfold cFr zRq; rw [hc, hs]; rfl⟩
  | q + 1, hq => by
    have i := rI_q hf hb hbb h0 hn hc hs q (by omega)
    have e : cFr f (f bb) (q + 1) c = cFq f (nI (q + 1)) 129 (cFr f (f bb) q c) := by
      show (if f bb - f bb / (Int32.toInt64 (nI (q + 1))) * (Int32.toInt64 (nI (q + 1))) = 0 then _ else _) = _
      by_cases k : f bb - f bb / (Int32.toInt64 (nI (q + 1))) * (Int32.toInt64 (nI (q + 1))) = 0
      · rw [if_pos k]
      · rw [if_neg k, cFq_0 hf hb (by omega) hq (fun x r => k ?_) _ 129 (Nat.le_refl _)]
        obtain ⟨v, hv⟩ := rt_d (W := q + 1) (by omega) r.1 r.2 hbb h0 hn
        have b := hb bb (by omega)
        rw [hv] at b
        rw [q64_ hq, hf bb (by omega), hv, dv_ (by omega) (by omega) (by omega), show lN (q + 1) = Int64.ofInt ((q + 1 : Nat) : Int) from rfl, ← Int64.ofInt_mul, Int.mul_comm v, Int64.sub_self]
    rw [e]
    have J := rI_m hf hb (fun z => hn (z bb hbb)) i (by omega) hq 129 (Nat.le_refl _)
    exact ⟨rJ_q hs (q + 1) hq, J.2⟩
