theorem sq_1000 {n e : Nat} (h : n * n ≤ e) (he : e ≤ 1000000) : n ≤ 1000 := by
  refine Decidable.by_contra (fun q => ?_)
  have := Nat.mul_le_mul (show 1001 ≤ n by omega) (show 1001 ≤ n by omega)
  omega
theorem ln_neg (n : Nat) : -lN n = Int64.ofInt (-(n : Int)) := by rw [Int64.ofInt_neg]; rfl
def Cd (a e q n d : Nat) (x y : Int) : Prop := a % (q * q) = 0 ∧ y = q ∧ ∃ k, n ≤ k ∧ k < n + d ∧ k * k ≤ e ∧ e % (k * k) = 0 ∧ Nat.gcd k q = 1 ∧ (x = k ∨ x = -(k : Int))
theorem QS_lm {m0 : Nat} (h4 : m0 < 5) {G : Nat → Int} (hG : ¬ G 0 = 0) {a e q : Nat} (h1 : 1 ≤ q) (h2 : q ≤ 1000) (he : e ≤ 1000000) : ∀ (d n : Nat) (s : mP) (D : Int → Int → Prop), 1 ≤ n → QS m0 G s D → QS m0 G (mLM a e q d n s) (fun x y => D x y ∨ Cd a e q n d x y)
  | 0, n, s, D, hn, h => QS_w h (fun x y z => by
    rcases z with z | ⟨_, _, k, k1, k2, _⟩
    · exact z
    · omega)
  | d + 1, n, s, D, hn, h => by
    unfold mLM
    by_cases c : n * n ≤ e ∧ a % (q * q) = 0
    · rw [if_pos c]
      have n3 := sq_1000 c.1 he
      by_cases c2 : e % (n * n) = 0 ∧ Nat.gcd n q = 1
      · rw [if_pos c2]
        have f1 : Fr (n : Int) q := ⟨h1, h2, by omega, by rw [Int.natAbs_natCast]; exact c2.2⟩
        have f2 : Fr (-(n : Int)) q := ⟨h1, h2, by omega, by rw [Int.natAbs_neg, Int.natAbs_natCast]; exact c2.2⟩
        have t1 := QS_try h4 hG h f1
        have t2 := QS_try h4 hG t1 f2
        rw [ln_neg]
        refine QS_w (QS_lm h4 hG h1 h2 he d (n + 1) _ _ (by omega) t2) (fun x y z => ?_)
        rcases z with z | ⟨z1, z2, k, k1, k2, k3, k4, k5, k6⟩
        · exact Or.inl (Or.inl (Or.inl z))
        · by_cases e1 : k = n
          · subst e1
            rcases k6 with k6 | k6
            · exact Or.inl (Or.inl (Or.inr ⟨k6, z2⟩))
            · exact Or.inl (Or.inr ⟨k6, z2⟩)
          · exact Or.inr ⟨z1, z2, k, by omega, by omega, k3, k4, k5, k6⟩
      · rw [if_neg c2]
        refine QS_w (QS_lm h4 hG h1 h2 he d (n + 1) _ _ (by omega) h) (fun x y z => ?_)
        rcases z with z | ⟨z1, z2, k, k1, k2, k3, k4, k5, k6⟩
        · exact Or.inl z
        · by_cases e1 : k = n
          · subst e1; exact absurd ⟨k4, k5⟩ c2
          · exact Or.inr ⟨z1, z2, k, by omega, by omega, k3, k4, k5, k6⟩
    · rw [if_neg c]
      refine QS_w h (fun x y z => ?_)
      rcases z with z | ⟨z1, z2, k, k1, k2, k3, k4, k5, k6⟩
      · exact z
      · exact absurd ⟨Nat.le_trans (Nat.mul_le_mul k1 k1) k3, z1⟩ c
def Ce (a e q d : Nat) (x y : Int) : Prop := ∃ k, q ≤ k ∧ k < q + d ∧ k * k ≤ a ∧ Cd a e k 1 (e + 1) x y
theorem QS_lq {m0 : Nat} (h4 : m0 < 5) {G : Nat → Int} (hG : ¬ G 0 = 0) {a e : Nat} (ha : a ≤ 1000000) (he : e ≤ 1000000) : ∀ (d q : Nat) (s : mP) (D : Int → Int → Prop), 1 ≤ q → QS m0 G s D → QS m0 G (mLQ a e d q s) (fun x y => D x y ∨ Ce a e q d x y)
  | 0, q, s, D, hq, h => QS_w h (fun x y z => by
    rcases z with z | ⟨k, k1, k2, _⟩
    · exact z
    · omega)
  | d + 1, q, s, D, hq, h => by
    unfold mLQ
    by_cases c : q * q ≤ a
    · rw [if_pos c]
      have t := QS_lm h4 hG hq (sq_1000 c ha) he (a := a) (e + 1) 1 s D (Nat.le_refl _) h
      refine QS_w (QS_lq h4 hG ha he d (q + 1) _ _ (by omega) t) (fun x y z => ?_)
      rcases z with z | ⟨k, k1, k2, k3, k4⟩
      · exact Or.inl (Or.inl z)
      · by_cases e1 : k = q
        · subst e1; exact Or.inl (Or.inr k4)
        · exact Or.inr ⟨k, by omega, by omega, k3, k4⟩
    · rw [if_neg c]
      refine QS_w h (fun x y z => ?_)
      rcases z with z | ⟨k, k1, k2, k3, k4⟩
      · exact z
      · exact absurd (Nat.le_trans (Nat.mul_le_mul k1 k1) k3) c
/-- the last number that isn't 0 -/
theorem isQ_l {u w : Int} (hu : u ≠ 0) {n : Nat} {f g : Nat → Int} (h : isQ u w n f g) {l : Nat} (hl : l ≤ n + 1) (hz : ∀ j, l < j → j ≤ n + 1 → f j = 0) (h0 : ¬ f 0 = 0) : ∃ k, l = k + 1 ∧ k ≤ n ∧ (∀ j, k < j → j ≤ n → g j = 0) ∧ f l = -(g k * u) := by
  obtain ⟨q0, qk, ql⟩ := h
  have z : ∀ d j, j + d = n → l ≤ j → g j = 0 := by
    intro d
    induction d with
    | zero =>
      intro j hj hlj
      have e : j = n := by omega
      subst e
      rw [hz (j + 1) (by omega) (by omega), Int.zero_add, Int.mul_comm] at ql
      exact mz_ hu ql
    | succ d ih =>
      intro j hj hlj
      have e := qk j (by omega)
      rw [ih (j + 1) (by omega) (by omega), hz (j + 1) (by omega) (by omega), Int.mul_zero, Int.zero_add, Int.mul_comm] at e
      exact mz_ hu e.symm
  match l, hl, hz, z with
  | 0, hl, hz, z => exact absurd (by rw [← q0, z n 0 (by omega) (by omega), Int.mul_zero]) h0
  | k + 1, hl, hz, z =>
    refine ⟨k, rfl, by omega, fun j h1 h2 => z (n - j) j (by omega) (by omega), ?_⟩
    by_cases c : k < n
    · have e := qk k c
      rw [z (n - (k + 1)) (k + 1) (by omega) (by omega), Int.mul_zero] at e
      omega
    · have e : k = n := by omega
      subst e
      omega
theorem hv_k (f : Nat → Int) (k u w : Int) : ∀ n, hv f (k * u) (k * w) n = pw k n * hv f u w n
  | 0 => by show f 0 = 1 * f 0; omega
  | n + 1 => by
    have pk : ∀ n, pw (k * w) n = pw k n * pw w n := by
      intro n
      induction n with
      | zero => rfl
      | succ n ih => show pw (k * w) n * (k * w) = pw k n * k * (pw w n * w); rw [ih]; grind
    show hv f (k * u) (k * w) n * (k * u) + f (n + 1) * pw (k * w) (n + 1) = pw k n * k * (hv f u w n * u + f (n + 1) * (pw w n * w))
    rw [hv_k f k u w n, pk]
    show pw k n * hv f u w n * (k * u) + f (n + 1) * (pw k n * k * (pw w n * w)) = _
    generalize pw k n = a
    generalize pw w n = b
    generalize hv f u w n = c
    generalize f (n + 1) = d
    grind
theorem pw_nz {k : Int} (hk : k ≠ 0) : ∀ n, pw k n ≠ 0
  | 0 => by show (1 : Int) ≠ 0; decide
  | n + 1 => fun z => (Int.mul_eq_zero.mp (show pw k n * k = 0 from z)).elim (pw_nz hk n) hk
theorem sl_k (f : Nat → Int) (k u w : Int) : ∀ n, n < 4 → sl f (k * u) (k * w) (n + 1) = pw k n * sl f u w (n + 1)
  | 0, _ => by show f 0 = 1 * f 0; omega
  | 1, _ => by show 2 * f 0 * (k * u) + f 1 * (k * w) = 1 * k * (2 * f 0 * u + f 1 * w); grind
  | 2, _ => by show 3 * f 0 * (k * u * (k * u)) + 2 * f 1 * (k * u * (k * w)) + f 2 * (k * w * (k * w)) = 1 * k * k * (3 * f 0 * (u * u) + 2 * f 1 * (u * w) + f 2 * (w * w)); grind
  | 3, _ => by show 4 * f 0 * (k * u * (k * u) * (k * u)) + 3 * f 1 * (k * u * (k * u) * (k * w)) + 2 * f 2 * (k * u * (k * w) * (k * w)) + f 3 * (k * w * (k * w) * (k * w)) = 1 * k * k * k * (4 * f 0 * (u * u * u) + 3 * f 1 * (u * u * w) + 2 * f 2 * (u * w * w) + f 3 * (w * w * w)); grind
theorem ND_k {k u w : Int} (hk : k ≠ 0) {m : Nat} (hm : m < 5) {f : Nat → Int} (h : ND u w m f) : ND (k * u) (k * w) m f := fun h1 d => by
  refine h h1 ?_
  obtain ⟨n, rfl⟩ : ∃ n, m = n + 1 := ⟨m - 1, by omega⟩
  rw [hv_k, sl_k f k u w n (by omega)] at d
  exact ⟨mz_ (pw_nz hk _) d.1, mz_ (pw_nz hk _) d.2⟩
/-- every fraction is one in lowest terms, times a number -/
theorem low_ (u w : Int) (hw : w ≠ 0) : ∃ (k x : Int) (y : Nat), k ≠ 0 ∧ 1 ≤ y ∧ Nat.gcd x.natAbs y = 1 ∧ u = k * x ∧ w = k * y := by
  have wp : 0 < w.natAbs := Int.natAbs_pos.mpr hw
  have gp : 0 < Nat.gcd u.natAbs w.natAbs := Nat.gcd_pos_of_pos_right _ wp
  obtain ⟨a, ha⟩ := Nat.gcd_dvd_left u.natAbs w.natAbs
  obtain ⟨b, hb⟩ := Nat.gcd_dvd_right u.natAbs w.natAbs
  generalize hg : Nat.gcd u.natAbs w.natAbs = g at ha hb gp
  rw [ha, hb, Nat.gcd_mul_left] at hg
  have hc : Nat.gcd a b = 1 := Nat.eq_of_mul_eq_mul_left gp (hg.trans (Nat.mul_one g).symm)
  have b1 : 1 ≤ b := by
    rcases Nat.eq_zero_or_pos b with z | z
    · subst z; omega
    · exact z
  have eu : u = (g : Int) * (if 0 ≤ u then (a : Int) else -(a : Int)) := by
    have : (u.natAbs : Int) = (g : Int) * a := by rw [ha]; exact Int.natCast_mul g a
    split
    · omega
    · rw [Int.mul_neg]; omega
  have ew : w = (g : Int) * b ∨ w = -((g : Int) * b) := by
    have : (w.natAbs : Int) = (g : Int) * b := by rw [hb]; exact Int.natCast_mul g b
    omega
  have na : (if 0 ≤ u then (a : Int) else -(a : Int)).natAbs = a := by split <;> omega
  rcases ew with e | e
  · exact ⟨g, _, b, by omega, b1, by rw [na]; exact hc, eu, e⟩
  · refine ⟨-g, -(if 0 ≤ u then (a : Int) else -(a : Int)), b, by omega, b1, by rw [Int.natAbs_neg, na]; exact hc, ?_, by rw [Int.neg_mul]; exact e⟩
    rw [Int.neg_mul_neg]; exact eu
