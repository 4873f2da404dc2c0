def RT (F : Nat → Int) (x : Int32) (q : Nat) : Prop := Nat.gcd x.toInt.natAbs q = 1 ∧ hv F x.toInt q 4 = 0
noncomputable def zRs (F : Nat → Int) (x : Int32) (q : Nat) (s : mFz) : mFz := cIf (RT F x q) (s.1 + 1, ma_up s.2.1 s.1 x, ma_up s.2.2.1 s.1 (nI q), ma_up s.2.2.2 s.1 (nI (4 - (zTk x.toInt q 4 F).1))) s
noncomputable def zRm (F : Nat → Int) (q : Nat) : Nat → mFz → mFz
  | 0, s => s
  | i + 1, s => zRs F (nI i - 64) q (zRm F q i s)
noncomputable def zRq (F : Nat → Int) : Nat → mFz → mFz
  | 0, s => s
  | q + 1, s => zRm F (q + 1) 129 (zRq F q s)
theorem i64_ {i : Nat} (h : i < 129) : (nI i - 64).toInt = (i : Int) - 64 := by
  have a := nI_toInt (n := i) (by omega)
  have b : (64 : Int32).toInt = 64 := by decide
  rw [Int32.toInt_sub, a, b, nb_bmod (by omega) (by omega)]
theorem q64_ {q : Nat} (h : q ≤ 64) : Int32.toInt64 (nI q) = lN q := by
  rw [i2l_o, nI_toInt (by omega)]; rfl
theorem lN_t {q : Nat} (h : q < 9223372036854775808) : (lN q).toInt = q := o6_toInt (v := (q : Int)) (by omega)
theorem gc_ {x : Int32} {q : Nat} (hx : x.toInt.natAbs ≤ 64) (h1 : 1 ≤ q) (h2 : q ≤ 64) : lN (Nat.gcd (Int32.toInt64 x).toInt.natAbs (Int32.toInt64 (nI q)).toInt.natAbs) = 1 ↔ Nat.gcd x.toInt.natAbs q = 1 := by
  rw [q64_ h2, i2l_o, o6_toInt (by omega), lN_t (by omega), Int.natAbs_natCast]
  have : Nat.gcd x.toInt.natAbs q ≤ q := Nat.gcd_le_right _ (by omega)
  exact lz_1 (by omega)
def sml (F : Nat → Int) : Prop := ∀ j, j < 5 → (F j).natAbs ≤ 623616
theorem zTk_4 {F : Nat → Int} {u w : Int} : 0 < 4 - (zTk u w 4 F).1 ↔ hv F u w 4 = 0 := by
  have h : (zTk u w 4 F).1 < 4 ↔ hv F u w 4 = 0 := zTk_lt (m := 3)
  rw [← h]; omega
theorem mRs_z {f : Nat → Int64} {F : Nat → Int} (hf : ∀ j, j < 5 → f j = Int64.ofInt (F j)) (hb : sml F) {bb m0 : Nat} (hm : m0 + bb = 4) (h0 : ∀ j, j < bb → F j = 0) (hn : ¬ F bb = 0) {x : Int32} (hx : x.toInt.natAbs ≤ 64) {q : Nat} (h1 : 1 ≤ q) (h2 : q ≤ 64) (s : mFz) : mRs f bb m0 x (nI q) s = zRs F x q s := by
  have e : Nat.gcd x.toInt.natAbs q = 1 → mTo f bb m0 (Int32.toInt64 x) (Int32.toInt64 (nI q)) = 4 - (zTk x.toInt q 4 F).1 := fun c => by
    rw [q64_ h2, i2l_o]; exact mTo_bz h1 h2 hx c hf hb hm h0 hn
  by_cases c : RT F x q
  · have k : lN (Nat.gcd (Int32.toInt64 x).toInt.natAbs (Int32.toInt64 (nI q)).toInt.natAbs) = 1 ∧ 0 < mTo f bb m0 (Int32.toInt64 x) (Int32.toInt64 (nI q)) := ⟨(gc_ hx h1 h2).mpr c.1, by rw [e c.1, zTk_4]; exact c.2⟩
    unfold mRs zRs
    rw [if_pos k, cIf_p c, e c.1]
  · unfold zRs
    rw [cIf_n c]
    exact if_neg (fun k => c ⟨(gc_ hx h1 h2).mp k.1, by have k2 := k.2; rw [e ((gc_ hx h1 h2).mp k.1), zTk_4] at k2; exact k2⟩)
theorem mRm_z {f : Nat → Int64} {F : Nat → Int} (hf : ∀ j, j < 5 → f j = Int64.ofInt (F j)) (hb : sml F) {bb m0 : Nat} (hm : m0 + bb = 4) (h0 : ∀ j, j < bb → F j = 0) (hn : ¬ F bb = 0) {q : Nat} (h1 : 1 ≤ q) (h2 : q ≤ 64) (s : mFz) : ∀ i, i ≤ 129 → mRm f bb m0 (nI q) i s = zRm F q i s
  | 0, _ => rfl
  | i + 1, hi => by
    have e := i64_ (i := i) (by omega)
    unfold mRm zRm
    rw [mRm_z hf hb hm h0 hn h1 h2 s i (by omega), mRs_z hf hb hm h0 hn (by rw [e]; omega) h1 h2]
theorem mRq_z {f : Nat → Int64} {F : Nat → Int} (hf : ∀ j, j < 5 → f j = Int64.ofInt (F j)) (hb : sml F) {bb m0 : Nat} (hm : m0 + bb = 4) (h0 : ∀ j, j < bb → F j = 0) (hn : ¬ F bb = 0) (s : mFz) : ∀ q, q ≤ 64 → mRq f bb m0 q s = zRq F q s
  | 0, _ => rfl
  | q + 1, hq => by
    unfold mRq zRq
    rw [mRq_z hf hb hm h0 hn s q (by omega), mRm_z hf hb hm h0 hn (by omega) hq _ 129 (Nat.le_refl _)]
/-- what lies behind the count doesn't matter -/
def gE (s s' : mFz) : Prop := s.1 = s'.1 ∧ ∀ k, k < s.1 → s.2.1 k = s'.2.1 k ∧ s.2.2.1 k = s'.2.2.1 k ∧ s.2.2.2 k = s'.2.2.2 k
theorem gE_s {F : Nat → Int} {x : Int32} {q : Nat} {s s' : mFz} (h : gE s s') : gE (zRs F x q s) (zRs F x q s') := by
  unfold zRs
  by_cases c : RT F x q
  · rw [cIf_p c, cIf_p c]
    obtain ⟨h1, h2⟩ := h
    refine ⟨by dsimp only; omega, fun k hk => ?_⟩
    dsimp only at hk ⊢
    rw [← h1]
    by_cases e : k = s.1
    · rw [e, ma_up_s, ma_up_s, ma_up_s, ma_up_s, ma_up_s, ma_up_s]; exact ⟨rfl, rfl, rfl⟩
    · rw [ma_up_n _ _ e, ma_up_n _ _ e, ma_up_n _ _ e, ma_up_n _ _ e, ma_up_n _ _ e, ma_up_n _ _ e]; exact h2 k (by omega)
  · rw [cIf_n c, cIf_n c]; exact h
theorem gE_m {F : Nat → Int} {q : Nat} {s s' : mFz} (h : gE s s') : ∀ i, gE (zRm F q i s) (zRm F q i s')
  | 0 => h
  | i + 1 => gE_s (gE_m h i)
theorem gE_q {F : Nat → Int} {s s' : mFz} (h : gE s s') : ∀ q, gE (zRq F q s) (zRq F q s')
  | 0 => h
  | q + 1 => gE_m (gE_q h q) 129
/-- how many of the first n fractions lie below a by b -/
def cnt (U V : Nat → Int32) (a b : Int) : Nat → Nat
  | 0 => 0
  | j + 1 => cnt U V a b j + (if (U j).toInt * b < a * (V j).toInt then 1 else 0)
theorem cnt_c {U V U' V' : Nat → Int32} (a b : Int) : ∀ n, (∀ k, k < n → U k = U' k ∧ V k = V' k) → cnt U V a b n = cnt U' V' a b n
  | 0, _ => rfl
  | n + 1, h => by unfold cnt; rw [cnt_c a b n (fun k hk => h k (by omega)), (h n (by omega)).1, (h n (by omega)).2]
theorem cnt_le (U V : Nat → Int32) (a b : Int) : ∀ n, cnt U V a b n ≤ n
  | 0 => Nat.le_refl _
  | n + 1 => by unfold cnt; have := cnt_le U V a b n; split <;> omega
theorem cnt_lt {U V : Nat → Int32} {a b : Int} : ∀ {n k : Nat}, k < n → ¬ (U k).toInt * b < a * (V k).toInt → cnt U V a b n < n
  | n + 1, k, hk, h => by
    unfold cnt
    have c := cnt_le U V a b n
    by_cases e : k = n
    · subst e; rw [if_neg h]; omega
    · have := cnt_lt (n := n) (k := k) (by omega) h; split <;> omega
def smF (u v : Int32) : Prop := u.toInt.natAbs ≤ 64 ∧ v.toInt.natAbs ≤ 64
theorem p64_ {a b : Int32} (ha : a.toInt.natAbs ≤ 64) (hb : b.toInt.natAbs ≤ 64) : (a * b).toInt = a.toInt * b.toInt := by
  have h := nm_ ha hb
  rw [show a * b = Int32.ofInt (a.toInt * b.toInt) by rw [Int32.ofInt_mul, Int32.ofInt_toInt, Int32.ofInt_toInt], Int32.toInt_ofInt_of_le (by omega) (by omega)]
theorem mBl_c {U V : Nat → Int32} {k : Nat} (hk : smF (U k) (V k)) : ∀ n, n < 1000 → (∀ j, j < n → smF (U j) (V j)) → mBl U V k n = nI (cnt U V (U k).toInt (V k).toInt n)
  | 0, _, _ => rfl
  | n + 1, hn, h => by
    unfold mBl cnt
    rw [mBl_c hk n (by omega) (fun j hj => h j (by omega))]
    have s := h n (by omega)
    have e : U k * V n ≤ U n * V k ↔ ¬ (U n).toInt * (V k).toInt < (U k).toInt * (V n).toInt := by
      rw [nb_le, p64_ hk.1 s.2, p64_ s.1 hk.2]; omega
    have c := cnt_le U V (U k).toInt (V k).toInt n
    by_cases q : (U n).toInt * (V k).toInt < (U k).toInt * (V n).toInt
    · rw [if_pos q, if_pos (fun z => e.mp z q)]; exact nI_add _ 1
    · rw [if_neg q, if_neg (fun z => z (e.mpr q))]; exact Int32.add_zero _
/-- how a fraction is laid among others -/
theorem cIn_p {m q : Int32} : ∀ (s : Nat) (U V U2 V2 : Nat → Int32), (U2, V2) = cIn m q s (U, V) → ∃ p, p ≤ s ∧ (∀ k, k < p → U2 k = U k ∧ V2 k = V k) ∧ (U2 p = m ∧ V2 p = q) ∧ (∀ k, p ≤ k → k < s → U2 (k + 1) = U k ∧ V2 (k + 1) = V k) ∧ (∀ k, s < k → U2 k = U k ∧ V2 k = V k) ∧ (∀ k, k + 1 = p → U k * q ≤ m * V k) ∧ (∀ k, p ≤ k → k < s → ¬ U k * q ≤ m * V k)
  | 0, U, V, U2, V2, e => by
    have e : (U2, V2) = (ma_up U 0 m, ma_up V 0 q) := e
    obtain ⟨rfl, rfl⟩ := Prod.mk.inj e
    exact ⟨0, Nat.le_refl _, fun k hk => absurd hk (by omega), ⟨ma_up_s _ _ _, ma_up_s _ _ _⟩, fun k _ hk => absurd hk (by omega), fun k hk => ⟨ma_up_n _ _ (by omega), ma_up_n _ _ (by omega)⟩, fun k hk => absurd hk (by omega), fun k _ hk => absurd hk (by omega)⟩
  | s + 1, U, V, U2, V2, e => by
    by_cases c : U s * q ≤ m * V s
    · rw [cIn_y c] at e
      obtain ⟨rfl, rfl⟩ := Prod.mk.inj e
      exact ⟨s + 1, Nat.le_refl _, fun k hk => ⟨ma_up_n _ _ (by omega), ma_up_n _ _ (by omega)⟩, ⟨ma_up_s _ _ _, ma_up_s _ _ _⟩, fun k h1 h2 => absurd h2 (by omega), fun k hk => ⟨ma_up_n _ _ (by omega), ma_up_n _ _ (by omega)⟩, fun k hk => (show k = s by omega) ▸ c, fun k h1 h2 => absurd h2 (by omega)⟩
    · rw [cIn_n c] at e
      obtain ⟨p, hp, a1, a2, a3, a4, a5, a6⟩ := cIn_p s _ _ U2 V2 e
      have n1 : ∀ k, k ≠ s + 1 → ma_up U (s + 1) (U s) k = U k ∧ ma_up V (s + 1) (V s) k = V k := fun k hk => ⟨ma_up_n _ _ hk, ma_up_n _ _ hk⟩
      refine ⟨p, by omega, fun k hk => ?_, a2, fun k h1 h2 => ?_, fun k hk => ?_, fun k hk => ?_, fun k h1 h2 => ?_⟩
      · have := a1 k hk; rw [(n1 k (by omega)).1, (n1 k (by omega)).2] at this; exact this
      · by_cases e2 : k = s
        · subst e2
          have := a4 (k + 1) (by omega); rw [ma_up_s, ma_up_s] at this; exact this
        · have := a3 k h1 (by omega); rw [(n1 k (by omega)).1, (n1 k (by omega)).2] at this; exact this
      · have := a4 k (by omega); rw [(n1 k (by omega)).1, (n1 k (by omega)).2] at this; exact this
      · have := a5 k hk; rw [(n1 k (by omega)).1, (n1 k (by omega)).2] at this; exact this
      · by_cases e2 : k = s
        · subst e2; exact c
        · have := a6 k h1 (by omega); rw [(n1 k (by omega)).1, (n1 k (by omega)).2] at this; exact this
