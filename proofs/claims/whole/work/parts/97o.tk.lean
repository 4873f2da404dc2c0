theorem pw_b {w : Int} {N : Nat} (h : w.natAbs ≤ N) : ∀ n, (pw w n).natAbs ≤ N ^ n := fun n => by rw [pw_abs]; exact Nat.pow_le_pow_left h n
theorem hv_b {f : Nat → Int} {u w : Int} {B N : Nat} (hu : u.natAbs ≤ N) (hw : w.natAbs ≤ N) : ∀ n, (∀ j, j ≤ n → (f j).natAbs ≤ B) → (hv f u w n).natAbs ≤ (n + 1) * (B * N ^ n)
  | 0, h => by have := h 0 (by omega); show (f 0).natAbs ≤ (0 + 1) * (B * 1); omega
  | n + 1, h => by
    have i := hv_b hu hw n (fun j hj => h j (by omega))
    have q := na_ (nm_ i hu) (nm_ (h (n + 1) (by omega)) (pw_b hw (n + 1)))
    refine Nat.le_trans q (Nat.le_of_eq ?_)
    rw [Nat.add_mul (n + 1) 1, Nat.one_mul, Nat.pow_succ, Nat.mul_assoc (n + 1), Nat.mul_assoc B]
/-- the reference's steps over the ints, small numbers -/
theorem mDq_z {f : Nat → Int64} {F : Nat → Int} {W : Nat} {U : Int} {B : Nat} (hW : 1 ≤ W) (hW2 : W ≤ 64) (hU : U.natAbs ≤ 64) (hB : B ≤ 4000000000000) {n : Nat} (hf : ∀ j, j ≤ n + 1 → f j = Int64.ofInt (F j)) (hb : ∀ j, j ≤ n + 1 → (F j).natAbs ≤ B) (hg : ∀ j, j ≤ n → (dq U W j 0 F).natAbs ≤ B) (q : isQ U W n F (fun k => dq U W k 0 F)) : ∀ k, k ≤ n → mDq f (Int64.ofInt U) (lN W) k = Int64.ofInt (dq U W k 0 F)
  | 0, hk => by
    show (f 0 + 0) / lN W = _
    have e : (W : Int) * dq U W 0 0 F = F 0 := q.1
    have := hb 0 (by omega)
    rw [Int64.add_zero, hf 0 (by omega), ← e]
    exact dv_ (by omega) (by omega) (by omega)
  | k + 1, hk => by
    have i := mDq_z hW hW2 hU hB hf hb hg q k (by omega)
    have e : (W : Int) * dq U W (k + 1) 0 F = F (k + 1) + dq U W k 0 F * U := q.2.1 k (by omega)
    show (f (k + 1) + mDq f (Int64.ofInt U) (lN W) k * Int64.ofInt U) / lN W = _
    have h1 := hb (k + 1) (by omega)
    have h2 := nm_ (hg k (by omega)) hU
    have h3 := na_ h1 h2
    rw [i, hf (k + 1) (by omega), ← Int64.ofInt_mul, ← Int64.ofInt_add, ← e]
    refine dv_ (by omega) (by omega) ?_
    rw [e]
    omega
theorem mTk_z {W : Nat} {U : Int} (hW : 1 ≤ W) (hW2 : W ≤ 64) (hU : U.natAbs ≤ 64) (hc : Nat.gcd U.natAbs W = 1) : ∀ (m : Nat) {B : Nat} {f : Nat → Int64} {F : Nat → Int}, m ≤ 4 → B * 4 ^ m ≤ 268435456 → (∀ j, j ≤ m → f j = Int64.ofInt (F j)) → (∀ j, j ≤ m → (F j).natAbs ≤ B) → (mTk (Int64.ofInt U) (lN W) m f).1 = (zTk U W m F).1
  | 0, B, f, F, _, _, _, _ => rfl
  | m + 1, B, f, F, hm, hB, hf, hb => by
    have hw0 : (W : Int) ≠ 0 := by omega
    have lw : lN W = Int64.ofInt (W : Int) := rfl
    have B1 : B ≤ 268435456 := Nat.le_trans (Nat.le_mul_of_pos_right B (Nat.pow_pos (by omega))) hB
    have e := mAt_z (u := Int64.ofInt U) (w := lN W) rfl lw (m := m + 1) (by omega) hf
    have vb := hv_b (u := U) (w := (W : Int)) (N := 64) hU (by omega) (m + 1) hb
    have vb2 : (hv F U W (m + 1)).natAbs < 9223372036854775808 := by
      refine Nat.lt_of_le_of_lt vb ?_
      have p1 : B * 64 ^ (m + 1) ≤ 268435456 * 64 ^ 4 := Nat.mul_le_mul B1 (Nat.pow_le_pow_right (by omega) hm)
      have p2 : (m + 1 + 1) * (B * 64 ^ (m + 1)) ≤ 5 * (268435456 * 64 ^ 4) := Nat.mul_le_mul (by omega) p1
      have p3 : 5 * (268435456 * 64 ^ 4) < 9223372036854775808 := by decide
      omega
    by_cases c : hv F U W (m + 1) = 0
    · have c' : mAt (m + 1) f (Int64.ofInt U) (lN W) = 0 := by rw [e, c]; rfl
      have q := isQ_d hw0 (by rw [Int.natAbs_natCast]; exact hc) c
      have gb := dq_b (u := U) (w := (W : Int)) (g := fun k => dq U W k 0 F) (by rw [Int.natAbs_natCast]; exact hW) hb q.1 q.2.1 q.2.2
      have p4 : (m + 1) * B ≤ 4 * B := Nat.mul_le_mul_right B hm
      rw [mTk_y c', zTk_y c]
      refine mTk_z hW hW2 hU hc m (B := 4 * B) (by omega) ?_ (fun j hj => ?_) (fun j hj => ?_)
      · rw [Nat.pow_succ] at hB
        rw [Nat.mul_comm 4 B, Nat.mul_assoc, Nat.mul_comm 4]; exact hB
      · rw [if_pos (by omega), if_pos (by omega)]
        exact mDq_z (B := 4 * B) hW hW2 hU (by omega) hf (fun j hj => by have := hb j hj; omega) (fun j hj => by have : (dq U W j 0 F).natAbs ≤ (m + 1) * B := gb j hj; omega) q j (by omega)
      · rw [if_pos (by omega)]
        have : (dq U W j 0 F).natAbs ≤ (m + 1) * B := gb j (by omega)
        omega
    · have c' : ¬ mAt (m + 1) f (Int64.ofInt U) (lN W) = 0 := by
        rw [e, o6_0 vb2]; exact c
      rw [mTk_n c', zTk_n c]
/-- how often u by w is a root: from the form's first number or from its first that isn't 0 -/
theorem mTo_z {W : Nat} {U : Int} (hW : 1 ≤ W) (hW2 : W ≤ 64) (hU : U.natAbs ≤ 64) (hc : Nat.gcd U.natAbs W = 1) {f : Nat → Int64} {F : Nat → Int} (hf : ∀ j, j < 5 → f j = Int64.ofInt (F j)) (hb : ∀ j, j < 5 → (F j).natAbs ≤ 623616) : mTo f 0 4 (Int64.ofInt U) (lN W) = 4 - (zTk U W 4 F).1 := by
  unfold mTo
  rw [mTk_z hW hW2 hU hc 4 (B := 623616) (F := F) (by omega) (by decide) (fun j hj => by rw [Nat.zero_add]; exact hf j (by omega)) (fun j hj => hb j (by omega))]
theorem mTo_bz {W : Nat} {U : Int} (hW : 1 ≤ W) (hW2 : W ≤ 64) (hU : U.natAbs ≤ 64) (hc : Nat.gcd U.natAbs W = 1) {f : Nat → Int64} {F : Nat → Int} (hf : ∀ j, j < 5 → f j = Int64.ofInt (F j)) (hb : ∀ j, j < 5 → (F j).natAbs ≤ 623616) {bb m0 : Nat} (hm : m0 + bb = 4) (h0 : ∀ j, j < bb → F j = 0) (hn : ¬ F bb = 0) : mTo f bb m0 (Int64.ofInt U) (lN W) = 4 - (zTk U W 4 F).1 := by
  unfold mTo
  rw [mTk_z hW hW2 hU hc m0 (B := 623616) (F := fun j => F (bb + j)) (by omega) (Nat.le_trans (Nat.mul_le_mul_left _ (Nat.pow_le_pow_right (by omega) (show m0 ≤ 4 by omega))) (by decide)) (fun j hj => hf _ (by omega)) (fun j hj => hb _ (by omega))]
  have e := zTk_b (u := U) (w := (W : Int)) (by omega) (by rw [Int.natAbs_natCast]; exact hc) bb m0 F h0 hn
  rw [show bb + m0 = 4 by omega] at e
  have := zTk_le U W m0 (fun j => F (bb + j))
  omega
/-- a root's lower number divides the first number that isn't 0 -/
theorem rt_d {W : Nat} {U : Int} (hW : 1 ≤ W) (hc : Nat.gcd U.natAbs W = 1) {F : Nat → Int} (h : hv F U W 4 = 0) {bb : Nat} (hb : bb ≤ 4) (h0 : ∀ j, j < bb → F j = 0) (hn : ¬ F bb = 0) : ∃ v : Int, F bb = (W : Int) * v := by
  have hw0 : (W : Int) ≠ 0 := by omega
  have q := isQ_d hw0 (by rw [Int.natAbs_natCast]; exact hc) (n := 3) h
  have z : ∀ j, j < bb → j ≤ 3 → dq U W j 0 F = 0 := by
    intro j
    induction j with
    | zero => intro hj _; exact mz_ hw0 (q.1.trans (h0 0 hj))
    | succ j ih =>
      intro hj h3
      have e : (W : Int) * dq U W (j + 1) 0 F = F (j + 1) + dq U W j 0 F * U := q.2.1 j (by omega)
      rw [ih (by omega) (by omega), h0 (j + 1) hj, Int.zero_mul, Int.add_zero] at e
      exact mz_ hw0 e
  match bb, hb with
  | 0, _ => exact ⟨_, q.1.symm⟩
  | b + 1, hb =>
    by_cases c : b < 3
    · have e : (W : Int) * dq U W (b + 1) 0 F = F (b + 1) + dq U W b 0 F * U := q.2.1 b c
      rw [z b (by omega) (by omega), Int.zero_mul, Int.add_zero] at e
      exact ⟨_, e.symm⟩
    · have c : b = 3 := by omega
      subst c
      have e : F 4 + dq U W 3 0 F * U = 0 := q.2.2
      rw [z 3 (by omega) (by omega), Int.zero_mul, Int.add_zero] at e
      exact absurd e hn
