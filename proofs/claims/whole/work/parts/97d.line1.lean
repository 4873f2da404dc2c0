/-- a line's three numbers are told -/
def sLn (s : sG) (a b c : Int32) : sG := (ma_up (ma_up s.1 115 (ma_up (s.1 115) 18 1)) 128 (ma_up (ma_up (ma_up (s.1 128) 0 a) 1 b) 2 c), s.2)
theorem sLn_r {s : sG} {x y z : Int32} {a : Nat} (h : a ≠ 115) (h' : a ≠ 128) : (sLn s x y z).1 a = s.1 a := by unfold sLn; dsimp only; rw [ma_up_n _ _ h', ma_up_n _ _ h]
theorem sLn_5 (s : sG) (x y z : Int32) : (sLn s x y z).1 115 = ma_up (s.1 115) 18 1 := by unfold sLn; dsimp only; rw [ma_up_n _ _ (by decide), ma_up_s]
theorem sLn_8 (s : sG) (x y z : Int32) : (sLn s x y z).1 128 = ma_up (ma_up (ma_up (s.1 128) 0 x) 1 y) 2 z := by unfold sLn; dsimp only; rw [ma_up_s]
theorem wF_ln {s : sG} (h : wF s) (x y z : Int32) : wF (sLn s x y z) := wF_s h (fun a q => sLn_r (by omega) (by omega))
theorem rC_ln {s : sG} {I : ma_I} {L : ma_L} (h : rC s I L) {x y z x' y' z' : Int32} (hx : x = x') (hy : y = y') (hz : z = z') : rC (sLn s x' y' z') (ma_up (ma_up I 36 (ma_up (ma_up (ma_up (I 36) 0 x) 1 y) 2 z)) 3 (ma_up (I 3) 10 1)) L := by
  subst hx hy hz
  obtain ⟨⟨a1, a2, a3, a4, a5⟩, ⟨b1, b2⟩, ⟨c1, c2⟩, r4, r5, r6, r7⟩ := h
  generalize hJ : ma_up (ma_up I 36 (ma_up (ma_up (ma_up (I 36) 0 x) 1 y) 2 z)) 3 (ma_up (I 3) 10 1) = J
  have q : ∀ a, a ≠ 3 → a ≠ 36 → J a = I a := fun a h1 h2 => by rw [← hJ, ma_up_n _ _ h1, ma_up_n _ _ h2]
  have q3 : J 3 = ma_up (I 3) 10 1 := by rw [← hJ, ma_up_s]
  have q6 : J 36 = ma_up (ma_up (ma_up (I 36) 0 x) 1 y) 2 z := by rw [← hJ, ma_up_n _ _ (by decide), ma_up_s]
  have s5 := sLn_5 s x y z
  have s8 := sLn_8 s x y z
  refine ⟨⟨?_, a2, a3, ?_, fun k hk => ?_⟩, ⟨?_, fun k hk => ?_⟩, ⟨?_, fun k hk => ?_⟩, ?_, ?_, fun x hx => ?_, fun g hg => ?_⟩
  · rw [q3, s5, ma_up_n _ _ (by decide), ma_up_n _ _ (by decide)]; exact a1
  · rw [q3, s5, ma_up_n _ _ (by decide), ma_up_n _ _ (by decide)]; exact a4
  · rw [q 38 (by decide) (by decide), sLn_r (by decide) (by decide)]; exact a5 k hk
  · rw [q3, s5, ma_up_s, ma_up_s]
  · rw [q6, s8]
    match k, hk with
    | 0, _ => rfl
    | 1, _ => rfl
    | 2, _ => rfl
  · rw [q3, s5, ma_up_n _ _ (by decide), ma_up_n _ _ (by decide)]; exact c1
  · rw [q 37 (by decide) (by decide)]; exact c2 k hk
  · unfold rcK at r4 ⊢; rw [q 32 (by decide) (by decide), q 33 (by decide) (by decide), s5, ma_up_n _ _ (by decide), sLn_r (a := 148) (by decide) (by decide)]; exact r4
  · unfold rcT at r5 ⊢; rw [q 27 (by decide) (by decide), q 28 (by decide) (by decide)]; exact r5
  · have := r6 x hx; unfold rcS at this ⊢; rw [q (39 + 2 * x) (by omega) (by omega), q (40 + 2 * x) (by omega) (by omega), sLn_r (a := 117) (by decide) (by decide), sLn_r (a := 118) (by decide) (by decide)]; exact this
  · have := r7 g hg; unfold rcG tb at this ⊢; rw [q (55 + 5 * g) (by omega) (by omega), q (59 + 5 * g) (by omega) (by omega), sLn_r (a := 122) (by decide) (by decide), sLn_r (a := 123) (by decide) (by decide), sLn_r (a := 124) (by decide) (by decide)]; exact this
theorem ob_127 (I : ma_I) (L : ma_L) (f : Nat → Int32) : ob (mfill I 127 0 4 f) L = ob I L := by unfold ob mfill; rw [oI_x _ rfl (by decide)]
theorem cS_127 (I : ma_I) (L : ma_L) (f : Nat → Int32) : cS I L (mfill I 127 0 4 f) L := cS_up cS_rf (by omega)
theorem ob_ln {K : ma_I} {L : ma_L} {s : sG} (hK : ob K L = s) {x y z x' y' z' : Int32} (hx : x = x') (hy : y = y') (hz : z = z') : ob (ma_up (ma_up K 115 (ma_up (K 115) 18 1)) 128 (ma_up (ma_up (ma_up (K 128) 0 x) 1 y) 2 z)) L = sLn s x' y' z' := by
  subst hx hy hz hK
  unfold ob sLn
  rw [oI_up _ rfl, oI_uf _ rfl]
  rfl
/-- two places in one: all their minors are naught -/
def zOn (p r : Nat → Int) : Prop := (p 0) * (r 1) = (p 1) * (r 0) ∧ (p 0) * (r 2) = (p 2) * (r 0) ∧ (p 0) * (r 3) = (p 3) * (r 0) ∧ (p 1) * (r 2) = (p 2) * (r 1) ∧ (p 1) * (r 3) = (p 3) * (r 1) ∧ (p 2) * (r 3) = (p 3) * (r 2)
theorem mo_6 {a b c d : Int} (ha : a.natAbs ≤ 100) (hb : b.natAbs ≤ 100) (hc : c.natAbs ≤ 100) (hd : d.natAbs ≤ 100) : Int64.ofInt a * Int64.ofInt b = Int64.ofInt c * Int64.ofInt d ↔ a * b = c * d := by
  have h1 := nm_ ha hb
  have h2 := nm_ hc hd
  rw [← Int64.ofInt_mul, ← Int64.ofInt_mul, nb_eqL, o6_toInt (by omega), o6_toInt (by omega)]
theorem mo_3 {a b c d : Int32} (ha : a.toInt.natAbs ≤ 100) (hb : b.toInt.natAbs ≤ 100) (hc : c.toInt.natAbs ≤ 100) (hd : d.toInt.natAbs ≤ 100) : a * b = c * d ↔ a.toInt * b.toInt = c.toInt * d.toInt := by
  have h1 := nm_ ha hb
  have h2 := nm_ hc hd
  rw [show a * b = Int32.ofInt (a.toInt * b.toInt) by rw [Int32.ofInt_mul, Int32.ofInt_toInt, Int32.ofInt_toInt], show c * d = Int32.ofInt (c.toInt * d.toInt) by rw [Int32.ofInt_mul, Int32.ofInt_toInt, Int32.ofInt_toInt], nb_eq, Int32.toInt_ofInt_of_le (by omega) (by omega), Int32.toInt_ofInt_of_le (by omega) (by omega)]
theorem cOn_z {u v : Nat → Int64} {p r : Nat → Int} (hu : ∀ j, j < 4 → u j = Int64.ofInt (p j)) (hv : ∀ j, j < 4 → v j = Int64.ofInt (r j)) (hp : ∀ j, j < 4 → (p j).natAbs ≤ 100) (hr : ∀ j, j < 4 → (r j).natAbs ≤ 100) : cOn u v ↔ zOn p r := by
  unfold cOn zOn
  rw [hu 0 (by omega), hu 1 (by omega), hu 2 (by omega), hu 3 (by omega), hv 0 (by omega), hv 1 (by omega), hv 2 (by omega), hv 3 (by omega)]
  have a0 := hp 0 (by omega); have a1 := hp 1 (by omega); have a2 := hp 2 (by omega); have a3 := hp 3 (by omega)
  have b0 := hr 0 (by omega); have b1 := hr 1 (by omega); have b2 := hr 2 (by omega); have b3 := hr 3 (by omega)
  rw [mo_6 a0 b1 a1 b0, mo_6 a0 b2 a2 b0, mo_6 a0 b3 a3 b0, mo_6 a1 b2 a2 b1, mo_6 a1 b3 a3 b1, mo_6 a2 b3 a3 b2]
