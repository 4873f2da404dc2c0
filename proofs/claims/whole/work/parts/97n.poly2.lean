/-- f is w t - u times g -/
def isQ (u w : Int) (n : Nat) (f g : Nat → Int) : Prop := w * g 0 = f 0 ∧ (∀ k, k < n → w * g (k + 1) = f (k + 1) + g k * u) ∧ f (n + 1) + g n * u = 0
theorem isQ_d {u w : Int} (hw : w ≠ 0) (hc : Nat.gcd u.natAbs w.natAbs = 1) {n : Nat} {f : Nat → Int} (h : hv f u w (n + 1) = 0) : isQ u w n f (fun k => dq u w k 0 f) := by
  have q := dq_ok hw hc n 0 f (by rw [Int.add_zero, ← hv_s]; exact h)
  rw [Int.add_zero] at q
  exact q
theorem hv_f {u w : Int} {n : Nat} {f g : Nat → Int} (h : isQ u w n f g) (x y : Int) : hv f x y (n + 1) = (w * x - u * y) * hv g x y n := by
  obtain ⟨h0, hk, hn⟩ := h
  have s : ∀ m, m < n → hv f x y (m + 1) = w * hv g x y (m + 1) - u * y * hv g x y m := by
    intro m
    induction m with
    | zero =>
      intro hm
      have e := hk 0 hm
      show f 0 * x + f 1 * (1 * y) = w * (g 0 * x + g 1 * (1 * y)) - u * y * g 0
      have e : f 1 = w * g 1 - g 0 * u := by have : w * g (0 + 1) = f (0 + 1) + g 0 * u := e; have : w * g 1 = f 1 + g 0 * u := this; omega
      rw [← h0, e]; grind
    | succ m ih =>
      intro hm
      have e := hk (m + 1) hm
      have i := ih (by omega)
      have e1 : hv f x y (m + 2) = hv f x y (m + 1) * x + f (m + 2) * pw y (m + 2) := rfl
      have e2 : hv g x y (m + 2) = hv g x y (m + 1) * x + g (m + 2) * pw y (m + 2) := rfl
      have e3 : hv g x y (m + 1) = hv g x y m * x + g (m + 1) * pw y (m + 1) := rfl
      have e4 : pw y (m + 2) = pw y (m + 1) * y := rfl
      have e5 : f (m + 2) = w * g (m + 2) - g (m + 1) * u := by have : w * g (m + 2) = f (m + 2) + g (m + 1) * u := e; omega
      rw [e1, e2, i, e5, e4, e3]
      generalize hv g x y m = a
      generalize pw y (m + 1) = b
      generalize g (m + 1) = c
      generalize g (m + 2) = d
      grind
  have e1 : hv f x y (n + 1) = hv f x y n * x + f (n + 1) * pw y (n + 1) := rfl
  have e5 : f (n + 1) = -(g n * u) := by omega
  match n, s, e1, e5 with
  | 0, _, e1, e5 =>
    have e6 : hv f x y 0 = f 0 := rfl
    have e7 : hv g x y 0 = g 0 := rfl
    have e8 : pw y 1 = 1 * y := rfl
    rw [e1, e6, e7, e5, e8, ← h0]; grind
  | m + 1, s, e1, e5 =>
    have i := s m (by omega)
    have e3 : hv g x y (m + 1) = hv g x y m * x + g (m + 1) * pw y (m + 1) := rfl
    have e4 : pw y (m + 2) = pw y (m + 1) * y := rfl
    have e1 : hv f x y (m + 2) = hv f x y (m + 1) * x + f (m + 2) * pw y (m + 2) := e1
    have e5 : f (m + 2) = -(g (m + 1) * u) := e5
    show hv f x y (m + 2) = _
    rw [e1, i, e5, e4, e3]
    generalize hv g x y m = a
    generalize pw y (m + 1) = b
    generalize g (m + 1) = c
    grind
theorem isQ_z {u w : Int} {n : Nat} {f g : Nat → Int} (h : isQ u w n f g) (hg : ∀ k, k ≤ n → g k = 0) : ∀ k, k ≤ n + 1 → f k = 0 := fun k hk => by
  obtain ⟨h0, hs, hn⟩ := h
  match k, hk with
  | 0, _ => rw [hg 0 (by omega)] at h0; omega
  | k + 1, hk =>
    by_cases q : k < n
    · have := hs k q; rw [hg (k + 1) (by omega), hg k (by omega)] at this; omega
    · have e : k = n := by omega
      subst e; rw [hg k (by omega)] at hn; omega
/-- a form of degree n that isn't 0 has at most n roots -/
theorem rt_n : ∀ (n c : Nat) (f : Nat → Int) (a b : Nat → Int), (¬ ∀ k, k ≤ n → f k = 0) → (∀ i, i < c → b i ≠ 0 ∧ Nat.gcd (a i).natAbs (b i).natAbs = 1 ∧ hv f (a i) (b i) n = 0) → (∀ i j, i < j → j < c → b j * a i - a j * b i ≠ 0) → c ≤ n
  | 0, c, f, a, b, hf, hr, hd => by
    refine Decidable.by_contra (fun q => hf (fun k hk => ?_))
    have := (hr 0 (by omega)).2.2
    obtain rfl : k = 0 := by omega
    exact this
  | n + 1, 0, f, a, b, hf, hr, hd => Nat.zero_le _
  | n + 1, c + 1, f, a, b, hf, hr, hd => by
    have p := hr c (by omega)
    have q := isQ_d p.1 p.2.1 p.2.2
    have i := rt_n n c (fun k => dq (a c) (b c) k 0 f) a b (fun z => hf (isQ_z q z)) (fun i hi => ⟨(hr i (by omega)).1, (hr i (by omega)).2.1, by
      have e := (hr i (by omega)).2.2
      rw [hv_f q] at e
      exact mz_ (hd i c hi (by omega)) e⟩) (fun i j h h' => hd i j h (by omega))
    omega
/-- the root u by w taken out as often as it goes -/
def zTk (u w : Int) : Nat → (Nat → Int) → Nat × (Nat → Int)
  | 0, f => (0, f)
  | m + 1, f => if hv f u w (m + 1) = 0 then zTk u w m (fun j => if j < m + 1 then dq u w j 0 f else f j) else (m + 1, f)
theorem zTk_y {u w : Int} {m : Nat} {f : Nat → Int} (h : hv f u w (m + 1) = 0) : zTk u w (m + 1) f = zTk u w m (fun j => if j < m + 1 then dq u w j 0 f else f j) := by rw [zTk, if_pos h]
theorem zTk_n {u w : Int} {m : Nat} {f : Nat → Int} (h : ¬ hv f u w (m + 1) = 0) : zTk u w (m + 1) f = (m + 1, f) := by rw [zTk, if_neg h]
theorem zTk_le (u w : Int) : ∀ (m : Nat) (f : Nat → Int), (zTk u w m f).1 ≤ m
  | 0, f => Nat.le_refl _
  | m + 1, f => by
    by_cases h : hv f u w (m + 1) = 0
    · rw [zTk_y h]; exact Nat.le_succ_of_le (zTk_le u w m _)
    · rw [zTk_n h]; exact Nat.le_refl _
theorem zTk_lt {u w : Int} {m : Nat} {f : Nat → Int} : (zTk u w (m + 1) f).1 < m + 1 ↔ hv f u w (m + 1) = 0 := by
  by_cases h : hv f u w (m + 1) = 0
  · rw [zTk_y h]; exact ⟨fun _ => h, fun _ => Nat.lt_succ_of_le (zTk_le u w m _)⟩
  · rw [zTk_n h]; exact ⟨fun q => absurd q (Nat.lt_irrefl _), fun q => absurd q h⟩
theorem isQ_c {u w : Int} {n : Nat} {f g g' : Nat → Int} (h : isQ u w n f g) (e : ∀ k, k ≤ n → g' k = g k) : isQ u w n f g' :=
  ⟨by rw [e 0 (by omega)]; exact h.1, fun k hk => by rw [e (k + 1) (by omega), e k (by omega)]; exact h.2.1 k hk, by rw [e n (by omega)]; exact h.2.2⟩
/-- a number 0 ahead changes nothing but the degree -/
theorem zTk_0 {u w : Int} (hw : w ≠ 0) (hc : Nat.gcd u.natAbs w.natAbs = 1) : ∀ (n : Nat) (f : Nat → Int), f 0 = 0 → (¬ ∀ k, k ≤ n → shf f k = 0) → (zTk u w (n + 1) f).1 = 1 + (zTk u w n (shf f)).1
  | 0, f, h0, hf => by
    have e : ¬ hv f u w 1 = 0 := fun z => hf (fun k hk => by
      rw [hv_s, h0, Int.zero_mul, Int.zero_add] at z
      obtain rfl : k = 0 := by omega
      exact mz_ hw z)
    rw [zTk_n e]; rfl
  | n + 1, f, h0, hf => by
    have e : hv f u w (n + 2) = w * hv (shf f) u w (n + 1) := by rw [hv_s, h0, Int.zero_mul, Int.zero_add]
    by_cases q : hv (shf f) u w (n + 1) = 0
    · have q' : hv f u w (n + 2) = 0 := by rw [e, q, Int.mul_zero]
      rw [zTk_y q, zTk_y q']
      have d0 : dq u w 0 0 f = 0 := by show (f 0 + 0) / w = 0; rw [h0]; exact Int.zero_ediv w
      have ds : ∀ k, dq u w (k + 1) 0 f = dq u w k 0 (shf f) := fun k => by
        show dq u w k ((f 0 + 0) / w * u) (shf f) = _
        rw [h0, show ((0 : Int) + 0) / w * u = 0 by rw [Int.add_zero, Int.zero_ediv, Int.zero_mul]]
      have es : shf (fun j => if j < n + 2 then dq u w j 0 f else f j) = fun j => if j < n + 1 then dq u w j 0 (shf f) else shf f j := by
        funext j
        show (if j + 1 < n + 2 then dq u w (j + 1) 0 f else f (j + 1)) = _
        by_cases c : j < n + 1
        · rw [if_pos c, if_pos (by omega), ds]
        · rw [if_neg c, if_neg (by omega)]; rfl
      have i := zTk_0 hw hc n (fun j => if j < n + 2 then dq u w j 0 f else f j) (by rw [if_pos (by omega)]; exact d0) (fun z => hf (by
        rw [es] at z
        exact isQ_z (isQ_d hw hc q) (fun k hk => by have := z k hk; dsimp only at this; rw [if_pos (by omega)] at this; exact this)))
      rw [i, es]
    · have q' : ¬ hv f u w (n + 2) = 0 := fun z => q (mz_ hw (e ▸ z))
      rw [zTk_n q, zTk_n q']; omega
theorem zTk_c {u w : Int} (hw : w ≠ 0) : ∀ (m : Nat) {f f' : Nat → Int}, (∀ j, j ≤ m → f j = f' j) → (zTk u w m f).1 = (zTk u w m f').1
  | 0, f, f', _ => rfl
  | m + 1, f, f', h => by
    have e := hv_c u w (m + 1) h
    have d : ∀ j, j ≤ m → dq u w j 0 f = dq u w j 0 f' := by
      intro j
      induction j with
      | zero => intro _; show (f 0 + 0) / w = (f' 0 + 0) / w; rw [h 0 (by omega)]
      | succ j ih => intro hj; rw [dq_s, dq_s, ih (by omega), h (j + 1) (by omega)]
    by_cases c : hv f u w (m + 1) = 0
    · rw [zTk_y c, zTk_y (e ▸ c)]
      apply zTk_c hw m
      intro j hj
      rw [if_pos (by omega), if_pos (by omega), d j hj]
    · rw [zTk_n c, zTk_n (e ▸ c)]
/-- the first b numbers are 0 -/
theorem zTk_b {u w : Int} (hw : w ≠ 0) (hc : Nat.gcd u.natAbs w.natAbs = 1) : ∀ (b m : Nat) (f : Nat → Int), (∀ j, j < b → f j = 0) → ¬ f b = 0 → (zTk u w (b + m) f).1 = b + (zTk u w m (fun j => f (b + j))).1
  | 0, m, f, _, _ => by
    rw [Nat.zero_add, Nat.zero_add]
    exact zTk_c hw m (fun j _ => by rw [Nat.zero_add])
  | b + 1, m, f, h0, hb => by
    have i := zTk_b hw hc b m (shf f) (fun j hj => h0 (j + 1) (by omega)) hb
    have e := zTk_0 hw hc (b + m) f (h0 0 (by omega)) (fun z => hb (z b (by omega)))
    rw [show b + 1 + m = b + m + 1 by omega, e, i, show (fun j => shf f (b + j)) = fun j => f (b + 1 + j) from by funext j; show f (b + j + 1) = _; congr 1; omega]
    omega
