/-- the rows of the reference that later answers rest on -/
def oR (a : Nat) : Bool := a == 116 || a == 117 || a == 118 || a == 122 || a == 123 || a == 124 || a == 128 || a == 148
def oF (k : Nat) : Bool := k == 0 || k == 2 || k == 18 || k == 26 || k == 45
def oG (k : Nat) : Bool := k == 3 || k == 4
def oI (I : ma_I) : ma_I := fun a k => if oR a || (a == 115 && oF k) then I a k else 0
def oL (L : ma_L) : ma_L := fun a k => if a == 135 || (a == 115 && oG k) then L a k else 0
abbrev sG : Type := ma_I × ma_L
def ob (I : ma_I) (L : ma_L) : sG := (oI I, oL L)
theorem oI_r {I : ma_I} {a : Nat} (h : oR a = true) : oI I a = I a := by funext k; unfold oI; rw [h]; rfl
theorem oI_f {I : ma_I} {k : Nat} (h : oF k = true) : oI I 115 k = I 115 k := by unfold oI; rw [h]; rfl
theorem oL_r {L : ma_L} : oL L 135 = L 135 := by funext k; rfl
theorem oL_f {L : ma_L} {k : Nat} (h : oG k = true) : oL L 115 k = L 115 k := by unfold oL; rw [h]; rfl
/-- writes to what isn't seen -/
theorem oI_s {I J : ma_I} (h1 : ∀ a, oR a = true → J a = I a) (h2 : ∀ k, oF k = true → J 115 k = I 115 k) : oI J = oI I := by
  funext a k
  unfold oI
  by_cases h : oR a = true
  · rw [h, h1 a h]
  · by_cases q : a = 115
    · subst q
      by_cases r : oF k = true
      · rw [r, h2 k r]
      · have r : oF k = false := by simpa using r
        rw [r]; rfl
    · have : (a == 115) = false := by simpa using q
      have h : oR a = false := by simpa using h
      rw [this, h]; rfl
theorem oL_s {L K : ma_L} (h1 : K 135 = L 135) (h2 : ∀ k, oG k = true → K 115 k = L 115 k) : oL K = oL L := by
  funext a k
  unfold oL
  by_cases h : a = 135
  · subst h; rw [h1]
  · by_cases q : a = 115
    · subst q
      by_cases r : oG k = true
      · rw [r, h2 k r]
      · have r : oG k = false := by simpa using r
        rw [r]; rfl
    · have e1 : (a == 115) = false := by simpa using q
      have e2 : (a == 135) = false := by simpa using h
      rw [e1, e2]; rfl
theorem oI_up {I : ma_I} {a : Nat} (r : Nat → Int32) (h : oR a = true) : oI (ma_up I a r) = ma_up (oI I) a r := by
  funext b k
  by_cases e : b = a
  · subst e; rw [ma_up_s, oI_r h, ma_up_s]
  · rw [ma_up_n _ _ e]; unfold oI; rw [ma_up_n _ _ e]
theorem oI_uf {I : ma_I} {k : Nat} (v : Int32) (h : oF k = true) : oI (ma_up I 115 (ma_up (I 115) k v)) = ma_up (oI I) 115 (ma_up (oI I 115) k v) := by
  funext b j
  by_cases e : b = 115
  · subst e
    rw [ma_up_s]
    by_cases q : j = k
    · subst q; rw [oI_f h, ma_up_s, ma_up_s, ma_up_s]
    · rw [ma_up_n _ _ q]; unfold oI; rw [ma_up_s, ma_up_n _ _ q]
  · rw [ma_up_n _ _ e]; unfold oI; rw [ma_up_n _ _ e]
theorem oI_x {I : ma_I} {a : Nat} (r : Nat → Int32) (h : oR a = false) (h1 : a ≠ 115) : oI (ma_up I a r) = oI I :=
  oI_s (fun b hb => ma_up_n _ _ (fun e => by rw [e, h] at hb; cases hb)) (fun k _ => by rw [ma_up_n _ _ (Ne.symm h1)])
theorem oI_xf {I : ma_I} {k : Nat} (v : Int32) (h : oF k = false) : oI (ma_up I 115 (ma_up (I 115) k v)) = oI I :=
  oI_s (fun b hb => ma_up_n _ _ (fun e => by rw [e] at hb; cases hb)) (fun j hj => by rw [ma_up_s, ma_up_n _ _ (fun e => by rw [e, h] at hj; cases hj)])
theorem oI_sx {A B : List Nat} {I J : ma_I} (h : mSx A B I J) (ha : (A.all fun a => !oR a) = true) (hb : (B.all fun k => !oF k) = true) : oI J = oI I :=
  oI_s (fun a q => h.1 a (fun e => by rw [e] at q; cases q) (fun e => by have := List.all_eq_true.mp ha a e; rw [q] at this; cases this)) (fun k q => h.2 k (fun e => by have := List.all_eq_true.mp hb k e; rw [q] at this; cases this))
theorem oL_sl {A : List Nat} {L K : ma_L} (h : mSl A L K) (ha : (A.all fun a => !(a == 135 || a == 115)) = true) : oL K = oL L :=
  oL_s (h 135 (fun e => by have := List.all_eq_true.mp ha _ e; cases this)) (fun k _ => by rw [h 115 (fun e => by have := List.all_eq_true.mp ha _ e; cases this)])
/-- the class's cells are the same -/
def cS (I : ma_I) (L : ma_L) (J : ma_I) (K : ma_L) : Prop := (∀ a, a < 115 → J a = I a) ∧ ∀ a, a < 115 → K a = L a
/-- the reference's cells are the same -/
def mS (I : ma_I) (L : ma_L) (J : ma_I) (K : ma_L) : Prop := (∀ a, 115 ≤ a → J a = I a) ∧ ∀ a, 115 ≤ a → K a = L a
theorem ob_mS {I J : ma_I} {L K : ma_L} (h : mS I L J K) : ob J K = ob I L := by
  unfold ob
  rw [oI_s (I := I) (J := J) (fun a q => h.1 a (by unfold oR at q; simp only [Bool.or_eq_true, beq_iff_eq] at q; omega)) (fun k _ => by rw [h.1 115 (by omega)]), oL_s (L := L) (K := K) (h.2 135 (by omega)) (fun k _ => by rw [h.2 115 (by omega)])]
theorem cS_sx {A B C : List Nat} {I J : ma_I} {L K : ma_L} (h : mSx A B I J) (h' : mSl C L K) (ha : (A.all fun a => Nat.ble 115 a) = true) (hc : (C.all fun a => Nat.ble 115 a) = true) : cS I L J K :=
  ⟨fun a q => h.1 a (by omega) (fun e => by have := List.all_eq_true.mp ha a e; rw [Nat.ble_eq] at this; omega), fun a q => h' a (fun e => by have := List.all_eq_true.mp hc a e; rw [Nat.ble_eq] at this; omega)⟩
/-- the table of a ground, as long numbers -/
def tb (s : sG) (g : Nat) : Nat → Int64 := fun j => (s.1 123 (16 * g + j)).toInt64
def rcS (s : sG) (I : ma_I) (x : Nat) : Prop := (s.1 117 x < 0 → I (39 + 2 * x) 1 = -1) ∧ (0 ≤ s.1 117 x → I (39 + 2 * x) 1 = s.1 117 x ∧ ∀ j, j < 16 → I (40 + 2 * x) j = s.1 118 (16 * x + j))
def rcG (s : sG) (I : ma_I) (L : ma_L) (g : Nat) : Prop := I (55 + 5 * g) 0 = s.1 122 g ∧ (∀ j, j < 16 → L (57 + 5 * g) j = tb s g j) ∧ ∀ k, k < 10 → I (59 + 5 * g) k = s.1 124 (10 * g + k)
def rcK (s : sG) (I : ma_I) : Prop := ∃ m : Nat, m < 10000 ∧ I 32 1 = nI m ∧ s.1 115 45 = nI (min m 100) ∧ ∀ j, j < 3 * min m 100 → I 33 j = s.1 148 j
def rcM (s : sG) (I : ma_I) (L : ma_L) : Prop := I 3 13 = s.1 115 2 ∧ L 3 14 = s.2 115 3 ∧ L 3 15 = s.2 115 4 ∧ I 3 16 = s.1 115 0 ∧ ∀ k, k < 6 → I 38 k = s.1 116 k
def rcN (s : sG) (I : ma_I) : Prop := I 3 10 = s.1 115 18 ∧ ∀ k, k < 3 → I 36 k = s.1 128 k
def rcF (s : sG) (I : ma_I) : Prop := I 3 12 = s.1 115 26 ∧ ∀ k, k < 5 → I 37 k = (s.2 135 k).toInt32
def rcT (I : ma_I) : Prop := (∀ j, j ≤ 256 → I 27 j = mSb 0 1 8 j) ∧ ∀ j, j ≤ 256 → I 28 j = mSb 1 0 8 j
/-- the class's cells say what s says -/
def rC (s : sG) (I : ma_I) (L : ma_L) : Prop := rcM s I L ∧ rcN s I ∧ rcF s I ∧ rcK s I ∧ rcT I ∧ (∀ x, x < 8 → rcS s I x) ∧ ∀ g, g < 12 → rcG s I L g
def wfS (s : sG) (x : Nat) : Prop := (s.1 117 x).toInt ≤ 16 ∧ (0 ≤ s.1 117 x → ∀ j : Nat, j < 16 → (s.1 117 x).toInt ≤ j → s.1 118 (16 * x + j) = 0)
def wfT (s : sG) (g : Nat) : Prop := (∀ j, j < 16 → -4 ≤ (s.1 123 (16 * g + j)).toInt ∧ (s.1 123 (16 * g + j)).toInt ≤ 4) ∧ ∀ i j, i < 4 → j < 4 → s.1 123 (16 * g + (4 * i + j)) = s.1 123 (16 * g + (4 * j + i))
def wfG (s : sG) (g : Nat) : Prop := (s.1 122 g = 0 ∨ s.1 122 g = 1) ∧ ((s.1 122 g = 0 ∧ ∀ k, k < 10 → s.1 124 (10 * g + k) = 0) ∨ ∀ k, k < 10 → s.1 124 (10 * g + k) = mFc (tb s g) k)
def wF (s : sG) : Prop := (∀ x, x < 8 → wfS s x) ∧ (∀ g, g < 12 → wfT s g) ∧ ∀ g, g < 12 → wfG s g
def INV (I : ma_I) (L : ma_L) : Prop := wF (ob I L) ∧ rC (ob I L) I L
theorem rC_cS {s : sG} {I J : ma_I} {L K : ma_L} (h : cS I L J K) (r : rC s I L) : rC s J K := by
  obtain ⟨hI, hL⟩ := h
  obtain ⟨r1, r2, r3, r4, r5, r6, r7⟩ := r
  unfold rcM at r1; unfold rcN at r2; unfold rcF at r3; unfold rcK at r4; unfold rcT at r5
  refine ⟨?_, ?_, ?_, ?_, ?_, fun x hx => ?_, fun g hg => ?_⟩
  · unfold rcM; rw [hI 3 (by omega), hI 38 (by omega), hL 3 (by omega)]; exact r1
  · unfold rcN; rw [hI 3 (by omega), hI 36 (by omega)]; exact r2
  · unfold rcF; rw [hI 3 (by omega), hI 37 (by omega)]; exact r3
  · unfold rcK; rw [hI 32 (by omega), hI 33 (by omega)]; exact r4
  · unfold rcT; rw [hI 27 (by omega), hI 28 (by omega)]; exact r5
  · have := r6 x hx; unfold rcS at this ⊢; rw [hI (39 + 2 * x) (by omega), hI (40 + 2 * x) (by omega)]; exact this
  · have := r7 g hg; unfold rcG at this ⊢; rw [hI (55 + 5 * g) (by omega), hI (59 + 5 * g) (by omega), hL (57 + 5 * g) (by omega)]; exact this
