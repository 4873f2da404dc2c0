/-- the first number that isn't 0 -/
def cLd (F : Nat → Int64) (a : Int64) : Prop := ∃ k, k < 5 ∧ a = F k ∧ (¬ F k = 0) ∧ ∀ j, j < k → F j = 0
theorem z5 {F : Nat → Int64} (h0 : F 0 = 0) (h1 : F 1 = 0) (h2 : F 2 = 0) (h3 : F 3 = 0) (h4 : F 4 = 0) : ∀ j, j < 5 → F j = 0 := pt_all (pt_all (pt_all (pt_all (pt_all (fun j hj => absurd hj (Nat.not_lt_zero j)) h0) h1) h2) h3) h4
theorem n_X0_findFractions {g : ma_G} {Post : ma_P} {I : ma_I} {L : ma_L} (hne : ¬ ∀ j, j < 5 → L 13 j = 0) (k : ∀ (a : Int64) (n : Nat) (U V : Nat → Int32), cLd (L 13) a → n ≤ 4 → (n, U, V) = cFr (L 13) a 64 (0, I 24, I 25) → Post none HS (ma_up (ma_up (ma_up I 24 U) 25 V) 12 (ma_up (I 12) 9 (nI n))) L RF 146) : CT g yX0_findFractions cX0_findFractions 5 none rX0_findFractions [.ref 12] Post HS I L RF 146 := by
  refine t_X0_findFractions ?_ ?_ ?_ ?_ ?_ ?_
  · intro h0 h1 h2 h3 h4; exact absurd (z5 h0 h1 h2 h3 h4) hne
  · intro h0 h1 h2 h3 h4 n U V hn hs; exact k _ n U V ⟨4, by omega, rfl, h4, pt_all (pt_all (pt_all (pt_all (fun j hj => absurd hj (Nat.not_lt_zero j)) h0) h1) h2) h3⟩ hn hs
  · intro h0 h1 h2 h3 n U V hn hs; exact k _ n U V ⟨3, by omega, rfl, h3, pt_all (pt_all (pt_all (fun j hj => absurd hj (Nat.not_lt_zero j)) h0) h1) h2⟩ hn hs
  · intro h0 h1 h2 n U V hn hs; exact k _ n U V ⟨2, by omega, rfl, h2, pt_all (pt_all (fun j hj => absurd hj (Nat.not_lt_zero j)) h0) h1⟩ hn hs
  · intro h0 h1 n U V hn hs; exact k _ n U V ⟨1, by omega, rfl, h1, pt_all (fun j hj => absurd hj (Nat.not_lt_zero j)) h0⟩ hn hs
  · intro h0 n U V hn hs; exact k _ n U V ⟨0, by omega, rfl, h0, fun j hj => absurd hj (Nat.not_lt_zero j)⟩ hn hs
/-- a lower number is 1 to 64 -/
def cGo (v : Int32) : Prop := ∃ y, 1 ≤ y ∧ y ≤ 64 ∧ v = nI y
theorem cIn_v {m q : Int32} (hq : cGo q) {n0 : Nat} : ∀ (s : Nat) (U V : Nat → Int32), s ≤ n0 → (∀ k, k ≤ n0 → k ≠ s → cGo (V k)) → ∀ k, k ≤ n0 → cGo ((cIn m q s (U, V)).2 k)
  | 0, U, V, _, h, k, hk => by
    show cGo (ma_up V 0 q k)
    by_cases e : k = 0
    · rw [e, ma_up_s]; exact hq
    · rw [ma_up_n _ _ e]; exact h k hk e
  | s + 1, U, V, hs, h, k, hk => by
    by_cases c : U s * q ≤ m * V s
    · rw [cIn_y c]
      show cGo (ma_up V (s + 1) q k)
      by_cases e : k = s + 1
      · rw [e, ma_up_s]; exact hq
      · rw [ma_up_n _ _ e]; exact h k hk e
    · rw [cIn_n c]
      refine cIn_v hq s _ _ (by omega) (fun i hi hne => ?_) k hk
      by_cases e : i = s + 1
      · rw [e, ma_up_s]; exact h s (by omega) (by omega)
      · rw [ma_up_n _ _ e]; exact h i hi e
def cGs (s : cN3) : Prop := ∀ k, k < s.1 → cGo (s.2.2 k)
theorem cKf_v {m q : Int32} (hq : cGo q) {s : cN3} (h : cGs s) : cGs (cKf m q s) := by
  unfold cKf
  by_cases c : s.1 < 4
  · rw [if_pos c]
    intro k hk
    have hk : k < s.1 + 1 := hk
    exact cIn_v hq s.1 s.2.1 s.2.2 (Nat.le_refl _) (fun i hi hne => h i (by omega)) k (by omega)
  · rw [if_neg c]; exact h
theorem cFs_v {F : Nat → Int64} {x y : Int32} (hq : cGo y) {s : cN3} (h : cGs s) : cGs (cFs F x y s) := by
  unfold cFs
  by_cases c : mAt4 F (Int32.toInt64 x) (Int32.toInt64 y) = 0 ∧ lN (Nat.gcd (Int32.toInt64 x).toInt.natAbs (Int32.toInt64 y).toInt.natAbs) = 1
  · rw [if_pos c]; exact cKf_v hq h
  · rw [if_neg c]; exact h
theorem cFq_v {F : Nat → Int64} {y : Int32} (hq : cGo y) : ∀ (i : Nat) {s : cN3}, cGs s → cGs (cFq F y i s)
  | 0, s, h => h
  | i + 1, s, h => cFs_v hq (cFq_v hq i h)
theorem cFr_v {F : Nat → Int64} {a : Int64} : ∀ (q : Nat) {s : cN3}, q ≤ 64 → cGs s → cGs (cFr F a q s)
  | 0, s, _, h => h
  | q + 1, s, hq, h => by
    unfold cFr
    by_cases c : a - a / (Int32.toInt64 (nI (q + 1))) * (Int32.toInt64 (nI (q + 1))) = 0
    · rw [if_pos c]; exact cFq_v ⟨q + 1, by omega, hq, rfl⟩ 129 (cFr_v q (by omega) h)
    · rw [if_neg c]; exact cFr_v q (by omega) h
