theorem mS_rf {I : ma_I} {L : ma_L} : mS I L I L := ⟨fun _ _ => rfl, fun _ _ => rfl⟩
theorem mS_up {I J : ma_I} {L K : ma_L} {a : Nat} {r : Nat → Int32} (h : mS I L J K) (ha : a < 115) : mS I L (ma_up J a r) K := ⟨fun b hb => by rw [ma_up_n _ _ (by omega)]; exact h.1 b hb, h.2⟩
theorem mS_ul {I J : ma_I} {L K : ma_L} {a : Nat} {r : Nat → Int64} (h : mS I L J K) (ha : a < 115) : mS I L J (ma_up K a r) := ⟨h.1, fun b hb => by rw [ma_up_n _ _ (by omega)]; exact h.2 b hb⟩
theorem cS_rf {I : ma_I} {L : ma_L} : cS I L I L := ⟨fun _ _ => rfl, fun _ _ => rfl⟩
theorem cS_up {I J : ma_I} {L K : ma_L} {a : Nat} {r : Nat → Int32} (h : cS I L J K) (ha : 115 ≤ a) : cS I L (ma_up J a r) K := ⟨fun b hb => by rw [ma_up_n _ _ (by omega)]; exact h.1 b hb, h.2⟩
theorem cS_ul {I J : ma_I} {L K : ma_L} {a : Nat} {r : Nat → Int64} (h : cS I L J K) (ha : 115 ≤ a) : cS I L J (ma_up K a r) := ⟨h.1, fun b hb => by rw [ma_up_n _ _ (by omega)]; exact h.2 b hb⟩
theorem cS_tr {I J I' : ma_I} {L K L' : ma_L} (h : cS I L J K) (h' : cS J K I' L') : cS I L I' L' := ⟨fun a ha => (h'.1 a ha).trans (h.1 a ha), fun a ha => (h'.2 a ha).trans (h.2 a ha)⟩
theorem mS_tr {I J I' : ma_I} {L K L' : ma_L} (h : mS I L J K) (h' : mS J K I' L') : mS I L I' L' := ⟨fun a ha => (h'.1 a ha).trans (h.1 a ha), fun a ha => (h'.2 a ha).trans (h.2 a ha)⟩
/-- the number that s names among the first n, if any -/
def ix (n : Nat) (s : Int32) : Option Nat := if 0 ≤ s.toInt ∧ s.toInt < n then some s.toInt.toNat else none
theorem ix_s {n j : Nat} (h : j < n) (hn : n < 2147483648 := by omega) : ix n (nI j) = some j := by
  unfold ix
  rw [nI_toInt (by omega), if_pos (by omega)]
  rfl
theorem ix_no {n : Nat} {s : Int32} (h : ¬ (0 ≤ s.toInt ∧ s.toInt < n)) : ix n s = none := if_neg h
theorem ix_lt {n : Nat} {s : Int32} (h : s < 0) : ix n s = none := ix_no (fun q => by rw [nb_lt, nb_0] at h; omega)
theorem ix_ge {n : Nat} {s m : Int32} (h : ¬ s < m) (hm : m = nI n) (hn : n < 2147483648 := by omega) : ix n s = none := ix_no (fun q => by subst hm; rw [nb_lt, nI_toInt hn] at h; omega)
theorem ix_gt {n : Nat} {s m : Int32} (h : ¬ s ≤ m) (hm : m.toInt + 1 = n) : ix n s = none := ix_no (fun q => by rw [nb_le] at h; omega)
theorem ix_n1 {n : Nat} {s m : Int32} (h : (s < 0) ∨ (¬ s < m)) (hm : m = nI n) (hn : n < 2147483648 := by omega) : ix n s = none := by
  rcases h with h | h
  · exact ix_lt h
  · exact ix_ge h hm hn
theorem ix_n2 {n : Nat} {s m : Int32} (h : ¬ ((¬ s < 0) ∧ (¬ m < s))) (hm : m.toInt + 1 = n) : ix n s = none := ix_no (fun q => h ⟨by rw [nb_lt, nb_0]; omega, by rw [nb_lt]; omega⟩)
theorem ix_c1 {n j : Nat} {s m : Int32} (hs : s = nI j) (hj : j < n) (hm : m = nI n) (hn : n < 2147483648 := by omega) : ¬ ((s < 0) ∨ (¬ s < m)) := fun h => by
  have := ix_n1 h hm hn
  rw [hs, ix_s hj hn] at this
  cases this
theorem ix_c2 {n j : Nat} {s m : Int32} (hs : s = nI j) (hj : j < n) (hm : m.toInt + 1 = n) (hn : n < 2147483648 := by omega) : ¬ ¬ ((¬ s < 0) ∧ (¬ m < s)) := fun h => by
  have := ix_n2 h hm
  rw [hs, ix_s hj hn] at this
  cases this
theorem ix_o {n : Nat} {s m : Int32} (h0 : ¬ s < 0) (h1 : s < m) (hm : m = nI n) (hn : n < 2147483648 := by omega) : ∃ j, j < n ∧ s = nI j := by
  subst hm
  rw [nb_lt, nb_0] at h0
  rw [nb_lt, nI_toInt hn] at h1
  obtain ⟨j, _, h2, h3⟩ := nat_of (x := s) (lo := 0) (hi := n) (by omega) (by omega) hn
  exact ⟨j, h2, h3⟩
theorem ix_ol {n : Nat} {s m : Int32} (h0 : ¬ s < 0) (h1 : s ≤ m) (hm : m.toInt + 1 = n) (hn : n < 2147483648 := by omega) : ∃ j, j < n ∧ s = nI j := by
  rw [nb_lt, nb_0] at h0
  rw [nb_le] at h1
  obtain ⟨j, _, h2, h3⟩ := nat_of (x := s) (lo := 0) (hi := n) (by omega) (by omega) hn
  exact ⟨j, h2, h3⟩
/-- a refusal -/
def sM (s : sG) (w : Nat) : sG := (ma_up (ma_up s.1 115 (ma_up (s.1 115) 0 (nI w))) 116 (ma_up (s.1 116) w (s.1 116 w + 1)), s.2)
/-- a number told by asked() -/
def sA (s : sG) (v : Int32) : sG := (ma_up s.1 115 (ma_up (s.1 115) 2 v), s.2)
theorem ob_M (I : ma_I) (L : ma_L) (w : Nat) : ob (mMt I w) L = sM (ob I L) w := by
  unfold ob mMt sM
  rw [oI_up _ rfl, oI_uf _ rfl]
  have e : I 116 = (oI I) 116 := (oI_r rfl).symm
  rw [e]
theorem ob_A (I : ma_I) (L : ma_L) (v : Int32) : ob (ma_up I 115 (ma_up (I 115) 2 v)) L = sA (ob I L) v := by
  unfold ob sA
  rw [oI_uf _ rfl]
theorem cS_M (I : ma_I) (L : ma_L) (w : Nat) : cS I L (mMt I w) L := cS_up (cS_up cS_rf (by omega)) (by omega)
theorem mS_R (I : ma_I) (L : ma_L) (w : Nat) : mS I L (cRf I w) L := mS_up (mS_up mS_rf (by omega)) (by omega)
theorem sM_r {s : sG} {w a : Nat} (h : a ≠ 115) (h' : a ≠ 116) : (sM s w).1 a = s.1 a := by unfold sM; show ma_up (ma_up _ _ _) _ _ a = _; rw [ma_up_n _ _ h', ma_up_n _ _ h]
theorem sA_r {s : sG} {v : Int32} {a : Nat} (h : a ≠ 115) : (sA s v).1 a = s.1 a := by unfold sA; show ma_up _ _ _ a = _; rw [ma_up_n _ _ h]
/-- what doesn't touch sheets and grounds keeps them well formed -/
theorem wF_s {s t : sG} (h : wF s) (e : ∀ a, a = 117 ∨ a = 118 ∨ a = 122 ∨ a = 123 ∨ a = 124 → t.1 a = s.1 a) : wF t := by
  have e1 := e 117 (by omega); have e2 := e 118 (by omega); have e3 := e 122 (by omega); have e4 := e 123 (by omega); have e5 := e 124 (by omega)
  obtain ⟨h1, h2, h3⟩ := h
  refine ⟨fun x hx => ?_, fun g hg => ?_, fun g hg => ?_⟩
  · have := h1 x hx; unfold wfS at this ⊢; rw [e1, e2]; exact this
  · have := h2 g hg; unfold wfT at this ⊢; rw [e4]; exact this
  · have := h3 g hg; unfold wfG tb at this ⊢; rw [e3, e4, e5]; exact this
theorem wF_M {s : sG} (h : wF s) (w : Nat) : wF (sM s w) := wF_s h (fun a q => sM_r (by omega) (by omega))
theorem wF_A {s : sG} (h : wF s) (v : Int32) : wF (sA s v) := wF_s h (fun a q => sA_r (by omega))
/-- the class's state under a change of its first cells -/
theorem rC_R {s : sG} {I : ma_I} {L : ma_L} (h : rC s I L) {w : Nat} (hw : w < 6) : rC (sM s w) (cRf I w) L := by
  obtain ⟨⟨a1, a2, a3, a4, a5⟩, ⟨b1, b2⟩, ⟨c1, c2⟩, r4, r5, r6, r7⟩ := h
  have q : ∀ a, a ≠ 3 → a ≠ 38 → cRf I w a = I a := fun a h1 h2 => by unfold cRf; rw [ma_up_n _ _ h2, ma_up_n _ _ h1]
  have q3 : cRf I w 3 = ma_up (I 3) 16 (nI w) := by unfold cRf; rw [ma_up_n _ _ (by decide), ma_up_s]
  have q38 : cRf I w 38 = ma_up (I 38) w (I 38 w + 1) := by unfold cRf; rw [ma_up_s]
  have s5 : (sM s w).1 115 = ma_up (s.1 115) 0 (nI w) := rfl
  have s6 : (sM s w).1 116 = ma_up (s.1 116) w (s.1 116 w + 1) := rfl
  refine ⟨⟨?_, a2, a3, ?_, fun k hk => ?_⟩, ⟨?_, fun k hk => ?_⟩, ⟨?_, fun k hk => ?_⟩, ?_, ?_, fun x hx => ?_, fun g hg => ?_⟩
  · rw [q3, s5, ma_up_n _ _ (by decide), ma_up_n _ _ (by decide)]; exact a1
  · rw [q3, s5, ma_up_s, ma_up_s]
  · rw [q38, s6, a5 w hw]
    by_cases e : k = w
    · subst e; rw [ma_up_s, ma_up_s]
    · rw [ma_up_n _ _ e, ma_up_n _ _ e]; exact a5 k hk
  · rw [q3, s5, ma_up_n _ _ (by decide), ma_up_n _ _ (by decide)]; exact b1
  · rw [q 36 (by decide) (by decide), sM_r (by decide) (by decide)]; exact b2 k hk
  · rw [q3, s5, ma_up_n _ _ (by decide), ma_up_n _ _ (by decide)]; exact c1
  · rw [q 37 (by decide) (by decide)]; exact c2 k hk
  · unfold rcK at r4 ⊢; rw [q 32 (by decide) (by decide), q 33 (by decide) (by decide), s5, ma_up_n _ _ (by decide), sM_r (a := 148) (by decide) (by decide)]; exact r4
  · unfold rcT at r5 ⊢; rw [q 27 (by decide) (by decide), q 28 (by decide) (by decide)]; exact r5
  · have := r6 x hx; unfold rcS at this ⊢; rw [q (39 + 2 * x) (by omega) (by omega), q (40 + 2 * x) (by omega) (by omega), sM_r (a := 117) (by decide) (by decide), sM_r (a := 118) (by decide) (by decide)]; exact this
  · have := r7 g hg; unfold rcG tb at this ⊢; rw [q (55 + 5 * g) (by omega) (by omega), q (59 + 5 * g) (by omega) (by omega), sM_r (a := 122) (by decide) (by decide), sM_r (a := 123) (by decide) (by decide), sM_r (a := 124) (by decide) (by decide)]; exact this
theorem rC_A {s : sG} {I : ma_I} {L : ma_L} (h : rC s I L) {v v' : Int32} (hv : v = v') : rC (sA s v') (ma_up I 3 (ma_up (I 3) 13 v)) L := by
  subst hv
  obtain ⟨⟨a1, a2, a3, a4, a5⟩, ⟨b1, b2⟩, ⟨c1, c2⟩, r4, r5, r6, r7⟩ := h
  have q : ∀ a, a ≠ 3 → ma_up I 3 (ma_up (I 3) 13 v) a = I a := fun a h1 => ma_up_n _ _ h1
  have q3 : ma_up I 3 (ma_up (I 3) 13 v) 3 = ma_up (I 3) 13 v := ma_up_s _ _ _
  have s5 : (sA s v).1 115 = ma_up (s.1 115) 2 v := rfl
  refine ⟨⟨?_, a2, a3, ?_, fun k hk => ?_⟩, ⟨?_, fun k hk => ?_⟩, ⟨?_, fun k hk => ?_⟩, ?_, ?_, fun x hx => ?_, fun g hg => ?_⟩
  · rw [q3, s5, ma_up_s, ma_up_s]
  · rw [q3, s5, ma_up_n _ _ (by decide), ma_up_n _ _ (by decide)]; exact a4
  · rw [q 38 (by decide), sA_r (by decide)]; exact a5 k hk
  · rw [q3, s5, ma_up_n _ _ (by decide), ma_up_n _ _ (by decide)]; exact b1
  · rw [q 36 (by decide), sA_r (by decide)]; exact b2 k hk
  · rw [q3, s5, ma_up_n _ _ (by decide), ma_up_n _ _ (by decide)]; exact c1
  · rw [q 37 (by decide)]; exact c2 k hk
  · unfold rcK at r4 ⊢; rw [q 32 (by decide), q 33 (by decide), s5, ma_up_n _ _ (by decide), sA_r (a := 148) (by decide)]; exact r4
  · unfold rcT at r5 ⊢; rw [q 27 (by decide), q 28 (by decide)]; exact r5
  · have := r6 x hx; unfold rcS at this ⊢; rw [q (39 + 2 * x) (by omega), q (40 + 2 * x) (by omega), sA_r (a := 117) (by decide), sA_r (a := 118) (by decide)]; exact this
  · have := r7 g hg; unfold rcG tb at this ⊢; rw [q (55 + 5 * g) (by omega), q (59 + 5 * g) (by omega), sA_r (a := 122) (by decide), sA_r (a := 123) (by decide), sA_r (a := 124) (by decide)]; exact this
/-- scratch cells of the class -/
def cX (a : Nat) : Bool := Nat.blt a 115 && !(a == 3 || a == 38 || a == 36 || a == 37 || a == 32 || a == 33 || a == 27 || a == 28 || Nat.ble 39 a)
theorem rC_x {s : sG} {I J : ma_I} {L K : ma_L} (h : rC s I L) (h1 : ∀ a, a = 3 ∨ a = 38 ∨ a = 36 ∨ a = 37 ∨ a = 32 ∨ a = 33 ∨ a = 27 ∨ a = 28 ∨ (39 ≤ a ∧ a < 115) → J a = I a) (h2 : ∀ a, a = 3 ∨ (57 ≤ a ∧ a < 115) → K a = L a) : rC s J K := by
  obtain ⟨r1, r2, r3, r4, r5, r6, r7⟩ := h
  unfold rcM at r1; unfold rcN at r2; unfold rcF at r3; unfold rcK at r4; unfold rcT at r5
  refine ⟨?_, ?_, ?_, ?_, ?_, fun x hx => ?_, fun g hg => ?_⟩
  · unfold rcM; rw [h1 3 (by omega), h1 38 (by omega), h2 3 (by omega)]; exact r1
  · unfold rcN; rw [h1 3 (by omega), h1 36 (by omega)]; exact r2
  · unfold rcF; rw [h1 3 (by omega), h1 37 (by omega)]; exact r3
  · unfold rcK; rw [h1 32 (by omega), h1 33 (by omega)]; exact r4
  · unfold rcT; rw [h1 27 (by omega), h1 28 (by omega)]; exact r5
  · have := r6 x hx; unfold rcS at this ⊢; rw [h1 (39 + 2 * x) (by omega), h1 (40 + 2 * x) (by omega)]; exact this
  · have := r7 g hg; unfold rcG at this ⊢; rw [h1 (55 + 5 * g) (by omega), h1 (59 + 5 * g) (by omega), h2 (57 + 5 * g) (by omega)]; exact this
theorem pair_i {g : ma_G} {I : ma_I} {L : ma_L} {y7 y8 : MethodName} {c7 c8 : ByteArray} {n7 n8 : Nat} {t7 t8 : Option FieldType} {r7 r8 : Room} {av7 av8 : List Value} {F : Int32 × sG} {P1 : ma_P} (hI : INV I L) (hW : wF F.2)
    (C : ∀ P : ma_P, (∀ I1 L1, rC F.2 I1 L1 → mS I L I1 L1 → P (some (.int F.1)) HS I1 L1 RF 146) → CT g y7 c7 n7 t7 r7 av7 P HS I L RF 146)
    (M : ∀ (I1 : ma_I) (L1 : ma_L) (P : ma_P), ob I1 L1 = ob I L → (∀ I2 L2, ob I2 L2 = F.2 → cS I1 L1 I2 L2 → P (some (.int F.1)) HS I2 L2 RF 146) → CT g y8 c8 n8 t8 r8 av8 P HS I1 L1 RF 146)
    (k : ∀ (r : Int32) (I1 : ma_I) (L1 : ma_L), (∀ {P2 : ma_P}, (∀ (I2 : ma_I) (L2 : ma_L), INV I2 L2 → P2 (some (.int r)) HS I2 L2 RF 146) → CT g y8 c8 n8 t8 r8 av8 P2 HS I1 L1 RF 146) → P1 (some (.int r)) HS I1 L1 RF 146) : CT g y7 c7 n7 t7 r7 av7 P1 HS I L RF 146 :=
  C P1 (fun I1 L1 hR hm => k F.1 I1 L1 (fun {P2} kM => M I1 L1 P2 (ob_mS hm) (fun I2 L2 e hc => kM I2 L2 ⟨by rw [e]; exact hW, by rw [e]; exact rC_cS hc hR⟩)))
theorem pair_l {g : ma_G} {I : ma_I} {L : ma_L} {y7 y8 : MethodName} {c7 c8 : ByteArray} {n7 n8 : Nat} {t7 t8 : Option FieldType} {r7 r8 : Room} {av7 av8 : List Value} {F : Int64 × sG} {P1 : ma_P} (hI : INV I L) (hW : wF F.2)
    (C : ∀ P : ma_P, (∀ I1 L1, rC F.2 I1 L1 → mS I L I1 L1 → P (some (.long F.1)) HS I1 L1 RF 146) → CT g y7 c7 n7 t7 r7 av7 P HS I L RF 146)
    (M : ∀ (I1 : ma_I) (L1 : ma_L) (P : ma_P), ob I1 L1 = ob I L → (∀ I2 L2, ob I2 L2 = F.2 → cS I1 L1 I2 L2 → P (some (.long F.1)) HS I2 L2 RF 146) → CT g y8 c8 n8 t8 r8 av8 P HS I1 L1 RF 146)
    (k : ∀ (r : Int64) (I1 : ma_I) (L1 : ma_L), (∀ {P2 : ma_P}, (∀ (I2 : ma_I) (L2 : ma_L), INV I2 L2 → P2 (some (.long r)) HS I2 L2 RF 146) → CT g y8 c8 n8 t8 r8 av8 P2 HS I1 L1 RF 146) → P1 (some (.long r)) HS I1 L1 RF 146) : CT g y7 c7 n7 t7 r7 av7 P1 HS I L RF 146 :=
  C P1 (fun I1 L1 hR hm => k F.1 I1 L1 (fun {P2} kM => M I1 L1 P2 (ob_mS hm) (fun I2 L2 e hc => kM I2 L2 ⟨by rw [e]; exact hW, by rw [e]; exact rC_cS hc hR⟩)))
/-- guards -/
def gS (s : sG) (a : Int32) : (Int32 × sG) ⊕ Nat := match ix 8 a with
  | none => .inl (-1, s)
  | some x => if s.1 117 x < 0 then .inl (-3, sM s 1) else .inr x
def gG (s : sG) (a : Int32) : (Int32 × sG) ⊕ Nat := match ix 12 a with
  | none => .inl (-1, s)
  | some x => if s.1 122 x = 0 then .inl (-3, sM s 1) else .inr x
def gP (s : sG) (a b : Int32) : (Int32 × sG) ⊕ (Nat × Nat) := match ix 12 a with
  | none => .inl (-1, s)
  | some x => match ix 12 b with
    | none => .inl (-1, s)
    | some y => if s.1 122 x = 0 then .inl (-3, sM s 1) else if s.1 122 y = 0 then .inl (-3, sM s 1) else .inr (x, y)
theorem gS_n {s : sG} {a : Int32} (h : ix 8 a = none) : gS s a = .inl (-1, s) := by unfold gS; rw [h]
theorem gS_m {s : sG} {j : Nat} (hj : j < 8) (h : s.1 117 j < 0) : gS s (nI j) = .inl (-3, sM s 1) := by unfold gS; rw [ix_s hj]; exact if_pos h
theorem gS_o {s : sG} {j : Nat} (hj : j < 8) (h : ¬ s.1 117 j < 0) : gS s (nI j) = .inr j := by unfold gS; rw [ix_s hj]; exact if_neg h
theorem gG_n {s : sG} {a : Int32} (h : ix 12 a = none) : gG s a = .inl (-1, s) := by unfold gG; rw [h]
theorem gG_m {s : sG} {j : Nat} (hj : j < 12) (h : s.1 122 j = 0) : gG s (nI j) = .inl (-3, sM s 1) := by unfold gG; rw [ix_s hj]; exact if_pos h
theorem gG_o {s : sG} {j : Nat} (hj : j < 12) (h : ¬ s.1 122 j = 0) : gG s (nI j) = .inr j := by unfold gG; rw [ix_s hj]; exact if_neg h
theorem gP_n {s : sG} {a b : Int32} (h : ix 12 a = none) : gP s a b = .inl (-1, s) := by unfold gP; rw [h]
theorem gP_n2 {s : sG} {j : Nat} {b : Int32} (hj : j < 12) (h : ix 12 b = none) : gP s (nI j) b = .inl (-1, s) := by unfold gP; rw [ix_s hj]; dsimp only; rw [h]
theorem gP_m {s : sG} {j i : Nat} (hj : j < 12) (hi : i < 12) (h : s.1 122 j = 0) : gP s (nI j) (nI i) = .inl (-3, sM s 1) := by unfold gP; rw [ix_s hj]; dsimp only; rw [ix_s hi]; exact if_pos h
theorem gP_m2 {s : sG} {j i : Nat} (hj : j < 12) (hi : i < 12) (h : ¬ s.1 122 j = 0) (h2 : s.1 122 i = 0) : gP s (nI j) (nI i) = .inl (-3, sM s 1) := by unfold gP; rw [ix_s hj]; dsimp only; rw [ix_s hi]; dsimp only; rw [if_neg h, if_pos h2]
theorem gP_o {s : sG} {j i : Nat} (hj : j < 12) (hi : i < 12) (h : ¬ s.1 122 j = 0) (h2 : ¬ s.1 122 i = 0) : gP s (nI j) (nI i) = .inr (j, i) := by unfold gP; rw [ix_s hj]; dsimp only; rw [ix_s hi]; dsimp only; rw [if_neg h, if_neg h2]
/-- the class's conditions -/
theorem kS_m {s : sG} {I : ma_I} {x : Nat} (r : rcS s I x) (h : ¬ 0 ≤ I (39 + 2 * x) 1) : s.1 117 x < 0 := by
  rw [nb_le, nb_0] at h
  rw [nb_lt, nb_0]
  by_cases q : 0 ≤ s.1 117 x
  · have e := (r.2 q).1
    rw [e] at h
    omega
  · rw [nb_le, nb_0] at q; omega
theorem kS_o {s : sG} {I : ma_I} {x : Nat} (r : rcS s I x) (h : 0 ≤ I (39 + 2 * x) 1) : ¬ s.1 117 x < 0 := fun q => by
  rw [r.1 q] at h
  exact absurd h (by decide)
theorem kS_z {s : sG} {x : Nat} (h : ¬ s.1 117 x < 0) : 0 ≤ s.1 117 x := by rw [nb_lt] at h; rw [nb_le]; omega
theorem kS_y {s : sG} {x : Nat} (h : ¬ 0 ≤ s.1 117 x) : s.1 117 x < 0 := by rw [nb_le] at h; rw [nb_lt]; omega
theorem kS_w {s : sG} {x : Nat} (h : 0 ≤ s.1 117 x) : ¬ s.1 117 x < 0 := by rw [nb_le] at h; rw [nb_lt]; omega
theorem kS_e {s : sG} {I : ma_I} {x : Nat} (r : rcS s I x) (h : ¬ s.1 117 x < 0) : I (39 + 2 * x) 1 = s.1 117 x := (r.2 (kS_z h)).1
theorem kS_r {s : sG} {I : ma_I} {x : Nat} (r : rcS s I x) (h : ¬ s.1 117 x < 0) : ∀ j, j < 16 → I (40 + 2 * x) j = s.1 118 (16 * x + j) := (r.2 (kS_z h)).2
theorem kG_m {s : sG} {I : ma_I} {L : ma_L} {x : Nat} (r : rcG s I L x) (h : I (55 + 5 * x) 0 = 0) : s.1 122 x = 0 := by rw [← r.1]; exact h
theorem kG_o {s : sG} {I : ma_I} {L : ma_L} {x : Nat} (r : rcG s I L x) (h : ¬ I (55 + 5 * x) 0 = 0) : ¬ s.1 122 x = 0 := by rw [← r.1]; exact h
theorem kG_f {s : sG} {I : ma_I} {L : ma_L} {x : Nat} (r : rcG s I L x) (h : ¬ I (55 + 5 * x) 0 = 0) {k : Nat} (hk : k < 10) : I (59 + 5 * x) k = s.1 124 (10 * x + k) := r.2.2 k hk
theorem kZ {s : sG} {I : ma_I} (hW : wF s) (h : ∀ x, x < 8 → rcS s I x) : ∀ x, x < 8 → (I (39 + 2 * x) 1).toInt ≤ 16 := fun x hx => by
  by_cases q : s.1 117 x < 0
  · rw [(h x hx).1 q]; decide
  · rw [kS_e (h x hx) q]; exact (hW.1 x hx).1
theorem ln_3 : (3 : Int32) = nI 3 := rfl
theorem li_3 : (2 : Int32).toInt + 1 = ((3 : Nat) : Int) := by decide
theorem ln_4 : (4 : Int32) = nI 4 := rfl
theorem li_4 : (3 : Int32).toInt + 1 = ((4 : Nat) : Int) := by decide
theorem ln_5 : (5 : Int32) = nI 5 := rfl
theorem li_5 : (4 : Int32).toInt + 1 = ((5 : Nat) : Int) := by decide
theorem ln_6 : (6 : Int32) = nI 6 := rfl
theorem li_6 : (5 : Int32).toInt + 1 = ((6 : Nat) : Int) := by decide
theorem ln_8 : (8 : Int32) = nI 8 := rfl
theorem li_8 : (7 : Int32).toInt + 1 = ((8 : Nat) : Int) := by decide
theorem ln_9 : (9 : Int32) = nI 9 := rfl
theorem li_9 : (8 : Int32).toInt + 1 = ((9 : Nat) : Int) := by decide
theorem ln_10 : (10 : Int32) = nI 10 := rfl
theorem li_10 : (9 : Int32).toInt + 1 = ((10 : Nat) : Int) := by decide
theorem ln_11 : (11 : Int32) = nI 11 := rfl
theorem li_11 : (10 : Int32).toInt + 1 = ((11 : Nat) : Int) := by decide
theorem ln_12 : (12 : Int32) = nI 12 := rfl
theorem li_12 : (11 : Int32).toInt + 1 = ((12 : Nat) : Int) := by decide
theorem ln_21 : (21 : Int32) = nI 21 := rfl
theorem li_21 : (20 : Int32).toInt + 1 = ((21 : Nat) : Int) := by decide
