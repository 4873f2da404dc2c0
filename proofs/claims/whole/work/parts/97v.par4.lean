theorem mGc_d {g : Nat → Int64} : ∀ n k, k < n → mGc g n ∣ (g k).toInt.natAbs
  | n + 1, k, h => by
    show Nat.gcd (mGc g n) (g n).toInt.natAbs ∣ _
    by_cases e : k = n
    · subst e; exact Nat.gcd_dvd_right _ _
    · exact Nat.dvd_trans (Nat.gcd_dvd_left _ _) (mGc_d n k (by omega))
theorem mTk_q1 (f : Nat → Int64) : ∀ m, m < 5 → (mTk 0 1 m f).2 = f ∧ ((mTk 0 1 m f).1 = 0 ∨ ¬ f (mTk 0 1 m f).1 = 0) ∧ ∀ j, (mTk 0 1 m f).1 < j → j ≤ m → f j = 0
  | 0, _ => ⟨rfl, Or.inl rfl, fun j h1 h2 => by have : 0 < j := h1; omega⟩
  | m + 1, hm => by
    have ea : mAt (m + 1) f 0 1 = f (m + 1) := by
      match m, hm with
      | 0, _ => simp only [mAt, mAt1, Int64.mul_zero, Int64.zero_add, Int64.mul_one]
      | 1, _ => simp only [mAt, mAt2, Int64.mul_zero, Int64.zero_add, Int64.mul_one]
      | 2, _ => simp only [mAt, mAt3, Int64.mul_zero, Int64.zero_add, Int64.mul_one]
      | 3, _ => simp only [mAt, mAt4, Int64.mul_zero, Int64.zero_add, Int64.mul_one]
    have ef : (fun j => if j < m + 1 then mDq f 0 1 j else f j) = f := by
      funext j
      by_cases c : j < m + 1
      · rw [if_pos c, mDq_01]
      · rw [if_neg c]
    by_cases c : mAt (m + 1) f 0 1 = 0
    · rw [mTk_y c, ef]
      obtain ⟨i1, i2, i3⟩ := mTk_q1 f m (by omega)
      refine ⟨i1, i2, fun j h1 h2 => ?_⟩
      by_cases e : j = m + 1
      · rw [e, ← ea]; exact c
      · exact i3 j h1 (by omega)
    · rw [mTk_n c]
      refine ⟨rfl, Or.inr (by rw [← ea]; exact c), fun j h1 h2 => ?_⟩
      have : m + 1 < j := h1
      omega
theorem Fr01 : Fr 0 1 := ⟨by decide, by decide, by decide, by decide⟩
theorem hv01 (f : Nat → Int) : ∀ {m : Nat}, 1 < m → m < 5 → hv f 0 (1 : Nat) m = f m ∧ sl f 0 (1 : Nat) m = f (m - 1)
  | 2, _, _ => by constructor <;> simp only [hv, pw, sl, Int.natCast_one, Int.mul_zero, Int.zero_mul, Int.mul_one, Int.one_mul, Int.zero_add] <;> rfl
  | 3, _, _ => by constructor <;> simp only [hv, pw, sl, Int.natCast_one, Int.mul_zero, Int.zero_mul, Int.mul_one, Int.one_mul, Int.zero_add] <;> rfl
  | 4, _, _ => by constructor <;> simp only [hv, pw, sl, Int.natCast_one, Int.mul_zero, Int.zero_mul, Int.mul_one, Int.one_mul, Int.zero_add] <;> rfl
/-- the last number of G that isn't 0 has the size e -/
def Lst (m0 : Nat) (G : Nat → Int) (e : Nat) : Prop := ∃ l, l ≤ m0 ∧ ¬ G l = 0 ∧ (∀ j, l < j → j ≤ m0 → G j = 0) ∧ e = (G l).natAbs
theorem S1_z {m0 : Nat} (h4 : m0 < 5) {G : Nat → Int} (hG : ¬ G 0 = 0) (hb : ∀ j, j ≤ m0 → (G j).natAbs ≤ 623616) {s : mP} (hm : s.m = m0) (hr : s.r = 0) (hf : ∀ j, j ≤ m0 → s.f j = Int64.ofInt (G j)) : QS m0 G (mS1 s) (fun x y => x = 0 ∧ y = 1) ∧ (mS1 s).f 0 = Int64.ofInt (G 0) ∧ mEnd (mS1 s) ≤ 623616 ∧ (1 < m0 → Lst m0 G (mEnd (mS1 s))) := by
  have ps : PS m0 G s G := ⟨by rw [hm]; exact hf, by rw [hm]; exact fun j hj => Nat.le_trans (hb j hj) (Bd_4 _), Or.inl ⟨hr, hm, fun _ _ => rfl⟩⟩
  have z : ∀ j, j ≤ m0 → (s.f j = 0 ↔ G j = 0) := fun j hj => by rw [hf j hj, o6_0 (by have := hb j hj; omega)]
  have ta : ∀ j, j ≤ m0 → (s.f j).toInt.natAbs = (G j).natAbs := fun j hj => by rw [hf j hj, o6_toInt (by have := hb j hj; omega)]
  unfold mS1
  by_cases c : 1 < s.m ∧ s.f s.m = 0 ∧ s.f (s.m - 1) = 0
  · rw [if_pos c]
    have l01 := hv01 G c.1 (by omega)
    have d : hv G 0 (1 : Nat) s.m = 0 ∧ sl G 0 (1 : Nat) s.m = 0 := by
      rw [l01.1, l01.2]
      exact ⟨(z s.m (by omega)).mp c.2.1, (z (s.m - 1) (by omega)).mp c.2.2⟩
    have q := QS_take h4 hG ps (D := fun _ _ => False) (fun _ _ f => f.elim) Fr01 c.1 d
    obtain ⟨k1, k2, k3⟩ := mTk_q1 s.f s.m (by omega)
    have le := mTk_le 0 1 s.m s.f
    have em : (mTake (Int64.ofInt 0) (lN 1) s).m = (mTk 0 1 s.m s.f).1 := rfl
    have ef : (mTake (Int64.ofInt 0) (lN 1) s).f = s.f := k1
    have e01 : mTake 0 1 s = mTake (Int64.ofInt 0) (lN 1) s := rfl
    rw [e01]
    clear e01
    generalize mTake (Int64.ofInt 0) (lN 1) s = S at *
    have eE : mEnd S = (s.f S.m).toInt.natAbs := by
      unfold mEnd
      rw [if_neg (fun y => by
        rw [ef, em] at y
        rcases k2 with k | k
        · omega
        · exact k y.1), ef]
    refine ⟨QS_w q (fun x y h => Or.inr h), by rw [ef]; exact hf 0 (by omega), ?_, fun _ => ?_⟩
    · rw [eE, ta _ (by omega)]; exact hb _ (by omega)
    · refine ⟨S.m, by omega, ?_, fun j h1 h2 => (z j h2).mp (k3 j (by omega) (by omega)), by rw [eE, ta _ (by omega)]⟩
      rw [em]
      rcases k2 with k | k
      · rw [k]; exact hG
      · exact fun y => k ((z _ (by omega)).mpr y)
  · rw [if_neg c]
    refine ⟨⟨G, ps, fun x y h => ?_⟩, hf 0 (by omega), ?_, fun h1 => ?_⟩
    · obtain ⟨e1, e2⟩ := h
      subst e1 e2
      intro h1 d
      have l01 := hv01 G h1 (by omega)
      have d' : hv G 0 (1 : Nat) s.m = 0 ∧ sl G 0 (1 : Nat) s.m = 0 := d
      rw [l01.1, l01.2] at d'
      exact c ⟨h1, (z s.m (by omega)).mpr d'.1, (z (s.m - 1) (by omega)).mpr d'.2⟩
    · unfold mEnd
      split
      · rw [ta _ (by omega)]; exact hb _ (by omega)
      · rw [ta _ (by omega)]; exact hb _ (by omega)
    · by_cases c1 : s.f s.m = 0
      · have c2 : ¬ s.f (s.m - 1) = 0 := fun y => c ⟨by omega, c1, y⟩
        have eE : mEnd s = (s.f (s.m - 1)).toInt.natAbs := by unfold mEnd; rw [if_pos ⟨c1, by omega⟩]
        refine ⟨s.m - 1, by omega, fun y => c2 ((z _ (by omega)).mpr y), fun j q1 q2 => ?_, by rw [eE, ta _ (by omega)]⟩
        obtain rfl : j = s.m := by omega
        exact (z _ (by omega)).mp c1
      · have eE : mEnd s = (s.f s.m).toInt.natAbs := by unfold mEnd; rw [if_neg (fun y => c1 y.1)]
        exact ⟨s.m, by omega, fun y => c1 ((z _ (by omega)).mpr y), fun j q1 q2 => by omega, by rw [eE, ta _ (by omega)]⟩
/-- no root that counts twice is left -/
theorem S2_z {m0 : Nat} (h4 : m0 < 5) {G : Nat → Int} (hG : ¬ G 0 = 0) (hb : ∀ j, j ≤ m0 → (G j).natAbs ≤ 623616) {s : mP} (hm : s.m = m0) (hr : s.r = 0) (hf : ∀ j, j ≤ m0 → s.f j = Int64.ofInt (G j)) : ∃ H, PS m0 G (mS2 (mS1 s)) H ∧ ∀ u w, w ≠ 0 → ND u w (mS2 (mS1 s)).m H := by
  obtain ⟨q1, q2, q3, q4⟩ := S1_z h4 hG hb hm hr hf
  have b0 := hb 0 (by omega)
  have ea : ((mS1 s).f 0).toInt.natAbs = (G 0).natAbs := by rw [q2, o6_toInt (by omega)]
  have q := QS_lq h4 hG (a := (G 0).natAbs) (e := mEnd (mS1 s)) (by omega) (by omega) ((G 0).natAbs + 1) 1 (mS1 s) _ (Nat.le_refl _) q1
  have e2 : mS2 (mS1 s) = mLQ (G 0).natAbs (mEnd (mS1 s)) ((G 0).natAbs + 1) 1 (mS1 s) := by unfold mS2; rw [ea]
  rw [← e2] at q
  obtain ⟨H, p1, p2⟩ := q
  refine ⟨H, p1, ?_⟩
  have ms := PS_m p1
  have main : ∀ (u : Int) (w : Nat), 1 ≤ w → Nat.gcd u.natAbs w = 1 → ND u w (mS2 (mS1 s)).m H := by
    intro u w hw hc h1 d
    have hw0 : (w : Int) ≠ 0 := by omega
    have dG := PS_D h4 p1 d
    by_cases u0 : u = 0
    · subst u0
      have w1 : w = 1 := by rw [Int.natAbs_zero, Nat.gcd_zero_left] at hc; exact hc
      subst w1
      exact p2 0 1 (Or.inl ⟨rfl, rfl⟩) h1 d
    · obtain ⟨n, rfl⟩ : ∃ n, m0 = n + 2 := ⟨m0 - 2, by omega⟩
      have hc' : Nat.gcd u.natAbs (w : Int).natAbs = 1 := by rw [Int.natAbs_natCast]; exact hc
      have k1 := isQ_d hw0 hc' dG.1
      have e := sl_q (by omega) k1 u w
      rw [dG.2, show (w : Int) * u - u * w = 0 by rw [Int.mul_comm]; omega, Int.zero_mul, Int.add_zero] at e
      have k2 := isQ_d hw0 hc' (mz_ hw0 e.symm)
      have a0 : (w : Int) * dq u w 0 0 G = G 0 := k1.1
      have a1 : (w : Int) * dq u w 0 0 (fun k => dq u w k 0 G) = dq u w 0 0 G := k2.1
      obtain ⟨l, l1, l2, l3, l4⟩ := q4 (by omega)
      obtain ⟨r1, r2, r3, r4, r5⟩ := isQ_l u0 k1 l1 l3 hG
      obtain ⟨t1, t2, t3, t4, t5⟩ := isQ_l u0 k2 (by omega) r4 (fun y => hG (by rw [← a0, y, Int.mul_zero]))
      have el : G l = u * u * dq u w t1 0 (fun k => dq u w k 0 G) := by
        rw [r5, t5]; grind
      have al : (G l).natAbs = u.natAbs * u.natAbs * (dq u w t1 0 (fun k => dq u w k 0 G)).natAbs := by rw [el, Int.natAbs_mul, Int.natAbs_mul]
      have aw : (G 0).natAbs = w * w * (dq u w 0 0 (fun k => dq u w k 0 G)).natAbs := by rw [← a0, ← a1, Int.natAbs_mul, Int.natAbs_mul, Int.natAbs_natCast, Nat.mul_assoc]
      have ln : (G l).natAbs ≠ 0 := fun y => l2 (Int.natAbs_eq_zero.mp y)
      have gn : (G 0).natAbs ≠ 0 := fun y => hG (Int.natAbs_eq_zero.mp y)
      have up : 1 ≤ u.natAbs := Int.natAbs_pos.mpr u0
      have d1 : u.natAbs * u.natAbs ≤ (G l).natAbs := Nat.le_of_dvd (by omega) ⟨_, al⟩
      have d2 : w * w ≤ (G 0).natAbs := Nat.le_of_dvd (by omega) ⟨_, aw⟩
      have d3 : u.natAbs ≤ u.natAbs * u.natAbs := Nat.le_mul_of_pos_left _ up
      have d4 : w ≤ w * w := Nat.le_mul_of_pos_left _ hw
      refine p2 u w (Or.inr ⟨w, hw, by omega, d2, Nat.mod_eq_zero_of_dvd ⟨_, aw⟩, rfl, u.natAbs, up, by omega, by rw [l4]; exact d1, by rw [l4]; exact Nat.mod_eq_zero_of_dvd ⟨_, al⟩, hc, by omega⟩) h1 d
  intro u w hw
  obtain ⟨k, x, y, k1, k2, k3, k4, k5⟩ := low_ u w hw
  rw [k4, k5]
  exact ND_k k1 (by omega) (main x y k2 k3)
