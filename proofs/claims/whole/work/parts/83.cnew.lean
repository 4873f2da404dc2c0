def hsP (n : Nat) : ma_S := fun a => if a < n + 3 then HS a else (99, 0)
theorem hsP_s {n : Nat} {t : Nat × Nat} (h : HS (n + 3) = t) : ma_up (hsP n) (n + 3) t = hsP (n + 1) := by
  funext a
  unfold ma_up hsP
  by_cases e : a = n + 3
  · subst e; rw [if_pos rfl, if_pos (by omega)]; exact h.symm
  · rw [if_neg e]
    by_cases q : a < n + 3
    · rw [if_pos q, if_pos (by omega)]
    · rw [if_neg q, if_neg (by omega)]
def rfL : List (Nat × Nat × Nat) → ma_R
  | [] => fun _ _ => none
  | t :: r => ma_up (rfL r) t.1 (ma_up (rfL r t.1) t.2.1 (some t.2.2))
def rfU (n : Nat) : List (Nat × Nat × Nat) → Bool
  | [] => true
  | t :: r => Nat.blt t.1 (n + 3) && rfU n r
theorem rfL_n {n x : Nat} (hx : n + 3 ≤ x) : ∀ {pr : List (Nat × Nat × Nat)}, rfU n pr = true → rfL pr x = fun _ => none
  | [], _ => rfl
  | t :: r, h => by
    unfold rfU at h
    rw [Bool.and_eq_true] at h
    have h1 : t.1 < n + 3 := by have := h.1; rw [Nat.blt_eq] at this; exact this
    show ma_up (rfL r) t.1 _ x = _
    rw [ma_up_n _ _ (show x ≠ t.1 by omega)]
    exact rfL_n hx h.2
def zP {α : Type} [OfNat α 0] (n : Nat) (I : Nat → Nat → α) : Prop := ∀ x, n + 3 ≤ x → I x = fun _ => 0
theorem zP_le {α : Type} [OfNat α 0] {n m : Nat} {I : Nat → Nat → α} (h : zP n I) (hm : n ≤ m) : zP m I := fun x hx => h x (by omega)
theorem zP_up {α : Type} [OfNat α 0] {n a : Nat} {I : Nat → Nat → α} {r : Nat → α} (h : zP n I) (ha : a < n + 3) : zP n (ma_up I a r) := fun x hx => by rw [ma_up_n _ _ (by omega)]; exact h x hx
theorem up_z {α : Type} {I : Nat → Nat → α} {a : Nat} {z : Nat → α} (h : I a = z) : ma_up I a z = I := by rw [← h, ma_up_self]
def cSz (I : ma_I) (a : Nat) : ma_I := ma_up I a (ma_up (I a) 1 (-1))
theorem zP_sz {n a : Nat} {I : ma_I} (h : zP n I) (ha : a < n + 3) : zP n (cSz I a) := zP_up h ha
section Born
variable {g : ma_G} {y : MethodName} {cc : ByteArray} {nL : Nat} {ret : Option FieldType} {rm : Room} {Z : ma_Z} {pc pc' : Nat} {lv : List (Option Value)} {st : List Value} {I : ma_I} {L : ma_L} {n ce sl N a' n' ce' sl' : Nat} {i : Int32} {pr : List (Nat × Nat × Nat)}
theorem en_I (hz : zP n I) (hl : zP n L) (hr : rfU n pr = true) (hH : HS (n + 3) = (9, N)) (hdg : decode cc pc = .ok (.newarray .int, 2)) (hp : pc + 2 = pc') (hi : i = nI N) (hN : N < 134217728) (hce : ce + 1 ≤ rm.cells ∧ sl + N ≤ rm.slots) (e1 : n + 3 = a') (e2 : n + 1 = n') (e3 : ce + 1 = ce') (e4 : sl + N = sl') (k : EV g y cc nL ret rm Z pc' lv (.ref a' :: st) (hsP n') I L (rfL pr) n' ce' sl') : EV g y cc nL ret rm Z pc lv (.int i :: st) (hsP n) I L (rfL pr) n ce sl := by
  subst e1; subst e2; subst e3; subst e4
  refine ev_newI hdg hp hi hN hce ?_
  rw [hsP_s hH, up_z (hz _ (Nat.le_refl _)), up_z (hl _ (Nat.le_refl _)), up_z (rfL_n (Nat.le_refl _) hr)]
  exact k
theorem en_L (hz : zP n I) (hl : zP n L) (hr : rfU n pr = true) (hH : HS (n + 3) = (10, N)) (hdg : decode cc pc = .ok (.newarray .long, 2)) (hp : pc + 2 = pc') (hi : i = nI N) (hN : N < 67108864) (hce : ce + 1 ≤ rm.cells ∧ sl + N ≤ rm.slots) (e1 : n + 3 = a') (e2 : n + 1 = n') (e3 : ce + 1 = ce') (e4 : sl + N = sl') (k : EV g y cc nL ret rm Z pc' lv (.ref a' :: st) (hsP n') I L (rfL pr) n' ce' sl') : EV g y cc nL ret rm Z pc lv (.int i :: st) (hsP n) I L (rfL pr) n ce sl := by
  subst e1; subst e2; subst e3; subst e4
  refine ev_newL hdg hp hi hN hce ?_
  rw [hsP_s hH, up_z (hz _ (Nat.le_refl _)), up_z (hl _ (Nat.le_refl _)), up_z (rfL_n (Nat.le_refl _) hr)]
  exact k
theorem en_Z (hz : zP n I) (hl : zP n L) (hr : rfU n pr = true) (hH : HS (n + 3) = (11, N)) (hdg : decode cc pc = .ok (.newarray .boolean, 2)) (hp : pc + 2 = pc') (hi : i = nI N) (hN : N < 134217728) (hce : ce + 1 ≤ rm.cells ∧ sl + N ≤ rm.slots) (e1 : n + 3 = a') (e2 : n + 1 = n') (e3 : ce + 1 = ce') (e4 : sl + N = sl') (k : EV g y cc nL ret rm Z pc' lv (.ref a' :: st) (hsP n') I L (rfL pr) n' ce' sl') : EV g y cc nL ret rm Z pc lv (.int i :: st) (hsP n) I L (rfL pr) n ce sl := by
  subst e1; subst e2; subst e3; subst e4
  refine ev_newZ hdg hp hi hN hce ?_
  rw [hsP_s hH, up_z (hz _ (Nat.le_refl _)), up_z (hl _ (Nat.le_refl _)), up_z (rfL_n (Nat.le_refl _) hr)]
  exact k
theorem en_R {t idx : Nat} {C : String} (ht : t = 12 ∨ t = 13) (hty : ma_ty t 0 = .object C) (hcl : Cond.classLink y.cls idx C ∈ lw_tbl) (hao : ∀ s, ma_KN g s → va_AO C s) (hz : zP n I) (hl : zP n L) (hr : rfU n pr = true) (hH : HS (n + 3) = (t, N)) (hdg : decode cc pc = .ok (.anewarray idx, 3)) (hp : pc + 3 = pc') (hi : i = nI N) (hN : N < 134217728) (hce : ce + 1 ≤ rm.cells ∧ sl + N ≤ rm.slots) (e1 : n + 3 = a') (e2 : n + 1 = n') (e3 : ce + 1 = ce') (e4 : sl + N = sl') (k : EV g y cc nL ret rm Z pc' lv (.ref a' :: st) (hsP n') I L (rfL pr) n' ce' sl') : EV g y cc nL ret rm Z pc lv (.int i :: st) (hsP n) I L (rfL pr) n ce sl := by
  subst e1; subst e2; subst e3; subst e4
  refine ev_newR ht hty hcl hao hdg hp hi hN hce ?_
  rw [hsP_s hH, up_z (hz _ (Nat.le_refl _)), up_z (hl _ (Nat.le_refl _)), up_z (rfL_n (Nat.le_refl _) hr)]
  exact k
theorem en_new {idx t : Nat} {C : String} {T : u_T} (ht : t < 9) (hr0 : vwCl[t]? = some (C, T, N)) (hcl : Cond.classLink y.cls idx C ∈ lw_tbl) (hins : Cond.instantiable C N ∈ lw_tbl) (hini : Cond.initialized C ∈ lw_tbl) (hws : ∀ w ∈ u_ws C T N, w ∈ lw_tbl ∧ ma_gw w = true) (hty : ∀ k, k < N → parseFieldDescriptor (T k).2.2.1 = some (ma_ty t k)) (hdf : ∀ k, k < N → defaultValue (ma_ty t k) = (match ma_kd t k with | 0 => Value.int 0 | 1 => Value.long 0 | _ => Value.null))
    (hz : zP n I) (hl : zP n L) (hr : rfU n pr = true) (hH : HS (n + 3) = (t, N)) (hdg : decode cc pc = .ok (.new idx, 3)) (hp : pc + 3 = pc') (hce : ce + 1 ≤ rm.cells ∧ sl + N ≤ rm.slots) (e1 : n + 3 = a') (e2 : n + 1 = n') (e3 : ce + 1 = ce') (e4 : sl + N = sl') (k : EV g y cc nL ret rm Z pc' lv (.ref a' :: st) (hsP n') I L (rfL pr) n' ce' sl') : EV g y cc nL ret rm Z pc lv st (hsP n) I L (rfL pr) n ce sl := by
  subst e1; subst e2; subst e3; subst e4
  refine ev_new ht hr0 hcl hins hini hws hty hdf hdg hp hce (up_z (hz _ (Nat.le_refl _))) (up_z (hl _ (Nat.le_refl _))) (up_z (rfL_n (Nat.le_refl _) hr)) ?_
  rw [hsP_s hH]
  exact k
theorem ev_sl (e3 : ce = ce') (e4 : sl = sl') {sh : ma_S} {R : ma_R} (k : EV g y cc nL ret rm Z pc lv st sh I L R n ce' sl') : EV g y cc nL ret rm Z pc lv st sh I L R n ce sl := by subst e3; subst e4; exact k
end Born
def pR_0 : List (Nat × Nat × Nat) := []
def tr (a b : Int32) (st hf x : Nat) : Nat → Int32 := fun p => if p ≤ 256 ∧ (p % st = 0 ∨ (p % hf = 0 ∧ p < x)) then mSb a b 8 p else 0
theorem tr_n {a b : Int32} {st hf st' hf' x x' : Nat} (h : ∀ p, p ≤ 256 → ((p % st = 0 ∨ (p % hf = 0 ∧ p < x)) ↔ (p % st' = 0 ∨ (p % hf' = 0 ∧ p < x')))) : tr a b st hf x = tr a b st' hf' x' := by
  funext p
  unfold tr
  by_cases c : p ≤ 256 ∧ (p % st = 0 ∨ (p % hf = 0 ∧ p < x))
  · rw [if_pos c, if_pos ⟨c.1, (h p c.1).mp c.2⟩]
  · rw [if_neg c, if_neg (fun q => c ⟨q.1, (h p q.1).mpr q.2⟩)]
theorem mSb_odd (a b : Int32) (k i : Nat) : mSb a b (k + 1) (2 * i + 1) = mSb a b k i + mSb a b k (i + 1) := by
  show (if (2 * i + 1) % 2 = 0 then _ else mSb a b k ((2 * i + 1) / 2 + 1) + mSb a b k ((2 * i + 1) / 2)) = _
  rw [if_neg (by omega), show (2 * i + 1) / 2 = i by omega, Int32.add_comm]
theorem tr_o {f : Nat → Int32} (hf : f = fun _ => 0) : ma_up f 256 1 = tr 0 1 256 128 128 := by
  subst hf
  funext p
  unfold tr
  by_cases q : p = 256
  · subst q; rw [ma_up_s]; decide
  · rw [ma_up_n _ _ q]
    by_cases c : p ≤ 256 ∧ (p % 256 = 0 ∨ (p % 128 = 0 ∧ p < 128))
    · obtain rfl : p = 0 := by omega
      rfl
    · rw [if_neg c]
theorem tr_u {f : Nat → Int32} (hf : f = fun _ => 0) : ma_up f 0 1 = tr 1 0 256 128 128 := by
  subst hf
  funext p
  unfold tr
  by_cases q : p = 0
  · subst q; rw [ma_up_s]; rfl
  · rw [ma_up_n _ _ q]
    by_cases c : p ≤ 256 ∧ (p % 256 = 0 ∨ (p % 128 = 0 ∧ p < 128))
    · obtain rfl : p = 256 := by omega
      decide
    · rw [if_neg c]
theorem nI_subc (a c : Nat) : nI (c + a) - nI c = nI a := by rw [← nI_add c a, Int32.add_comm, Int32.add_sub_cancel]
theorem tr_s256 (a b : Int32) {i : Nat} (hi : i < 1) : ma_up (tr a b 256 128 (128 + 256 * i)) (128 + 256 * i) ((tr a b 256 128 (128 + 256 * i)) (256 * i) + (tr a b 256 128 (128 + 256 * i)) ((128 + 256 * i) + 128)) = tr a b 256 128 (128 + 256 * (i + 1)) := by
  have e1 : tr a b 256 128 (128 + 256 * i) (256 * i) = mSb a b 8 (256 * i) := if_pos ⟨by omega, Or.inl (by omega)⟩
  have e2 : tr a b 256 128 (128 + 256 * i) ((128 + 256 * i) + 128) = mSb a b 8 ((128 + 256 * i) + 128) := if_pos ⟨by omega, Or.inl (by omega)⟩
  have h1 := mSb_sc a b 1 (2 * i + 1) 7
  have h2 := mSb_sc a b 0 i 8
  have h3 := mSb_sc a b 0 (i + 1) 8
  rw [show (2 * i + 1) * 2 ^ 7 = 128 + 256 * i by omega] at h1
  rw [show i * 2 ^ 8 = 256 * i by omega] at h2
  rw [show (i + 1) * 2 ^ 8 = (128 + 256 * i) + 128 by omega] at h3
  have e3 : mSb a b 8 (128 + 256 * i) = mSb a b 8 (256 * i) + mSb a b 8 ((128 + 256 * i) + 128) := h1.trans ((mSb_odd a b 0 i).trans (by rw [← h2, ← h3]))
  funext p
  by_cases q : p = 128 + 256 * i
  · subst q
    rw [ma_up_s, e1, e2, ← e3]
    exact (if_pos ⟨by omega, Or.inr ⟨by omega, by omega⟩⟩).symm
  · rw [ma_up_n _ _ q]
    unfold tr
    by_cases c : p ≤ 256 ∧ (p % 256 = 0 ∨ (p % 128 = 0 ∧ p < 128 + 256 * i))
    · rw [if_pos c, if_pos (by omega)]
    · rw [if_neg c, if_neg (by omega)]
theorem tr_s128 (a b : Int32) {i : Nat} (hi : i < 2) : ma_up (tr a b 128 64 (64 + 128 * i)) (64 + 128 * i) ((tr a b 128 64 (64 + 128 * i)) (128 * i) + (tr a b 128 64 (64 + 128 * i)) ((64 + 128 * i) + 64)) = tr a b 128 64 (64 + 128 * (i + 1)) := by
  have e1 : tr a b 128 64 (64 + 128 * i) (128 * i) = mSb a b 8 (128 * i) := if_pos ⟨by omega, Or.inl (by omega)⟩
  have e2 : tr a b 128 64 (64 + 128 * i) ((64 + 128 * i) + 64) = mSb a b 8 ((64 + 128 * i) + 64) := if_pos ⟨by omega, Or.inl (by omega)⟩
  have h1 := mSb_sc a b 2 (2 * i + 1) 6
  have h2 := mSb_sc a b 1 i 7
  have h3 := mSb_sc a b 1 (i + 1) 7
  rw [show (2 * i + 1) * 2 ^ 6 = 64 + 128 * i by omega] at h1
  rw [show i * 2 ^ 7 = 128 * i by omega] at h2
  rw [show (i + 1) * 2 ^ 7 = (64 + 128 * i) + 64 by omega] at h3
  have e3 : mSb a b 8 (64 + 128 * i) = mSb a b 8 (128 * i) + mSb a b 8 ((64 + 128 * i) + 64) := h1.trans ((mSb_odd a b 1 i).trans (by rw [← h2, ← h3]))
  funext p
  by_cases q : p = 64 + 128 * i
  · subst q
    rw [ma_up_s, e1, e2, ← e3]
    exact (if_pos ⟨by omega, Or.inr ⟨by omega, by omega⟩⟩).symm
  · rw [ma_up_n _ _ q]
    unfold tr
    by_cases c : p ≤ 256 ∧ (p % 128 = 0 ∨ (p % 64 = 0 ∧ p < 64 + 128 * i))
    · rw [if_pos c, if_pos (by omega)]
    · rw [if_neg c, if_neg (by omega)]
theorem tr_s64 (a b : Int32) {i : Nat} (hi : i < 4) : ma_up (tr a b 64 32 (32 + 64 * i)) (32 + 64 * i) ((tr a b 64 32 (32 + 64 * i)) (64 * i) + (tr a b 64 32 (32 + 64 * i)) ((32 + 64 * i) + 32)) = tr a b 64 32 (32 + 64 * (i + 1)) := by
  have e1 : tr a b 64 32 (32 + 64 * i) (64 * i) = mSb a b 8 (64 * i) := if_pos ⟨by omega, Or.inl (by omega)⟩
  have e2 : tr a b 64 32 (32 + 64 * i) ((32 + 64 * i) + 32) = mSb a b 8 ((32 + 64 * i) + 32) := if_pos ⟨by omega, Or.inl (by omega)⟩
  have h1 := mSb_sc a b 3 (2 * i + 1) 5
  have h2 := mSb_sc a b 2 i 6
  have h3 := mSb_sc a b 2 (i + 1) 6
  rw [show (2 * i + 1) * 2 ^ 5 = 32 + 64 * i by omega] at h1
  rw [show i * 2 ^ 6 = 64 * i by omega] at h2
  rw [show (i + 1) * 2 ^ 6 = (32 + 64 * i) + 32 by omega] at h3
  have e3 : mSb a b 8 (32 + 64 * i) = mSb a b 8 (64 * i) + mSb a b 8 ((32 + 64 * i) + 32) := h1.trans ((mSb_odd a b 2 i).trans (by rw [← h2, ← h3]))
  funext p
  by_cases q : p = 32 + 64 * i
  · subst q
    rw [ma_up_s, e1, e2, ← e3]
    exact (if_pos ⟨by omega, Or.inr ⟨by omega, by omega⟩⟩).symm
  · rw [ma_up_n _ _ q]
    unfold tr
    by_cases c : p ≤ 256 ∧ (p % 64 = 0 ∨ (p % 32 = 0 ∧ p < 32 + 64 * i))
    · rw [if_pos c, if_pos (by omega)]
    · rw [if_neg c, if_neg (by omega)]
theorem tr_s32 (a b : Int32) {i : Nat} (hi : i < 8) : ma_up (tr a b 32 16 (16 + 32 * i)) (16 + 32 * i) ((tr a b 32 16 (16 + 32 * i)) (32 * i) + (tr a b 32 16 (16 + 32 * i)) ((16 + 32 * i) + 16)) = tr a b 32 16 (16 + 32 * (i + 1)) := by
  have e1 : tr a b 32 16 (16 + 32 * i) (32 * i) = mSb a b 8 (32 * i) := if_pos ⟨by omega, Or.inl (by omega)⟩
  have e2 : tr a b 32 16 (16 + 32 * i) ((16 + 32 * i) + 16) = mSb a b 8 ((16 + 32 * i) + 16) := if_pos ⟨by omega, Or.inl (by omega)⟩
  have h1 := mSb_sc a b 4 (2 * i + 1) 4
  have h2 := mSb_sc a b 3 i 5
  have h3 := mSb_sc a b 3 (i + 1) 5
  rw [show (2 * i + 1) * 2 ^ 4 = 16 + 32 * i by omega] at h1
  rw [show i * 2 ^ 5 = 32 * i by omega] at h2
  rw [show (i + 1) * 2 ^ 5 = (16 + 32 * i) + 16 by omega] at h3
  have e3 : mSb a b 8 (16 + 32 * i) = mSb a b 8 (32 * i) + mSb a b 8 ((16 + 32 * i) + 16) := h1.trans ((mSb_odd a b 3 i).trans (by rw [← h2, ← h3]))
  funext p
  by_cases q : p = 16 + 32 * i
  · subst q
    rw [ma_up_s, e1, e2, ← e3]
    exact (if_pos ⟨by omega, Or.inr ⟨by omega, by omega⟩⟩).symm
  · rw [ma_up_n _ _ q]
    unfold tr
    by_cases c : p ≤ 256 ∧ (p % 32 = 0 ∨ (p % 16 = 0 ∧ p < 16 + 32 * i))
    · rw [if_pos c, if_pos (by omega)]
    · rw [if_neg c, if_neg (by omega)]
theorem tr_s16 (a b : Int32) {i : Nat} (hi : i < 16) : ma_up (tr a b 16 8 (8 + 16 * i)) (8 + 16 * i) ((tr a b 16 8 (8 + 16 * i)) (16 * i) + (tr a b 16 8 (8 + 16 * i)) ((8 + 16 * i) + 8)) = tr a b 16 8 (8 + 16 * (i + 1)) := by
  have e1 : tr a b 16 8 (8 + 16 * i) (16 * i) = mSb a b 8 (16 * i) := if_pos ⟨by omega, Or.inl (by omega)⟩
  have e2 : tr a b 16 8 (8 + 16 * i) ((8 + 16 * i) + 8) = mSb a b 8 ((8 + 16 * i) + 8) := if_pos ⟨by omega, Or.inl (by omega)⟩
  have h1 := mSb_sc a b 5 (2 * i + 1) 3
  have h2 := mSb_sc a b 4 i 4
  have h3 := mSb_sc a b 4 (i + 1) 4
  rw [show (2 * i + 1) * 2 ^ 3 = 8 + 16 * i by omega] at h1
  rw [show i * 2 ^ 4 = 16 * i by omega] at h2
  rw [show (i + 1) * 2 ^ 4 = (8 + 16 * i) + 8 by omega] at h3
  have e3 : mSb a b 8 (8 + 16 * i) = mSb a b 8 (16 * i) + mSb a b 8 ((8 + 16 * i) + 8) := h1.trans ((mSb_odd a b 4 i).trans (by rw [← h2, ← h3]))
  funext p
  by_cases q : p = 8 + 16 * i
  · subst q
    rw [ma_up_s, e1, e2, ← e3]
    exact (if_pos ⟨by omega, Or.inr ⟨by omega, by omega⟩⟩).symm
  · rw [ma_up_n _ _ q]
    unfold tr
    by_cases c : p ≤ 256 ∧ (p % 16 = 0 ∨ (p % 8 = 0 ∧ p < 8 + 16 * i))
    · rw [if_pos c, if_pos (by omega)]
    · rw [if_neg c, if_neg (by omega)]
theorem tr_s8 (a b : Int32) {i : Nat} (hi : i < 32) : ma_up (tr a b 8 4 (4 + 8 * i)) (4 + 8 * i) ((tr a b 8 4 (4 + 8 * i)) (8 * i) + (tr a b 8 4 (4 + 8 * i)) ((4 + 8 * i) + 4)) = tr a b 8 4 (4 + 8 * (i + 1)) := by
  have e1 : tr a b 8 4 (4 + 8 * i) (8 * i) = mSb a b 8 (8 * i) := if_pos ⟨by omega, Or.inl (by omega)⟩
  have e2 : tr a b 8 4 (4 + 8 * i) ((4 + 8 * i) + 4) = mSb a b 8 ((4 + 8 * i) + 4) := if_pos ⟨by omega, Or.inl (by omega)⟩
  have h1 := mSb_sc a b 6 (2 * i + 1) 2
  have h2 := mSb_sc a b 5 i 3
  have h3 := mSb_sc a b 5 (i + 1) 3
  rw [show (2 * i + 1) * 2 ^ 2 = 4 + 8 * i by omega] at h1
  rw [show i * 2 ^ 3 = 8 * i by omega] at h2
  rw [show (i + 1) * 2 ^ 3 = (4 + 8 * i) + 4 by omega] at h3
  have e3 : mSb a b 8 (4 + 8 * i) = mSb a b 8 (8 * i) + mSb a b 8 ((4 + 8 * i) + 4) := h1.trans ((mSb_odd a b 5 i).trans (by rw [← h2, ← h3]))
  funext p
  by_cases q : p = 4 + 8 * i
  · subst q
    rw [ma_up_s, e1, e2, ← e3]
    exact (if_pos ⟨by omega, Or.inr ⟨by omega, by omega⟩⟩).symm
  · rw [ma_up_n _ _ q]
    unfold tr
    by_cases c : p ≤ 256 ∧ (p % 8 = 0 ∨ (p % 4 = 0 ∧ p < 4 + 8 * i))
    · rw [if_pos c, if_pos (by omega)]
    · rw [if_neg c, if_neg (by omega)]
theorem tr_s4 (a b : Int32) {i : Nat} (hi : i < 64) : ma_up (tr a b 4 2 (2 + 4 * i)) (2 + 4 * i) ((tr a b 4 2 (2 + 4 * i)) (4 * i) + (tr a b 4 2 (2 + 4 * i)) ((2 + 4 * i) + 2)) = tr a b 4 2 (2 + 4 * (i + 1)) := by
  have e1 : tr a b 4 2 (2 + 4 * i) (4 * i) = mSb a b 8 (4 * i) := if_pos ⟨by omega, Or.inl (by omega)⟩
  have e2 : tr a b 4 2 (2 + 4 * i) ((2 + 4 * i) + 2) = mSb a b 8 ((2 + 4 * i) + 2) := if_pos ⟨by omega, Or.inl (by omega)⟩
  have h1 := mSb_sc a b 7 (2 * i + 1) 1
  have h2 := mSb_sc a b 6 i 2
  have h3 := mSb_sc a b 6 (i + 1) 2
  rw [show (2 * i + 1) * 2 ^ 1 = 2 + 4 * i by omega] at h1
  rw [show i * 2 ^ 2 = 4 * i by omega] at h2
  rw [show (i + 1) * 2 ^ 2 = (2 + 4 * i) + 2 by omega] at h3
  have e3 : mSb a b 8 (2 + 4 * i) = mSb a b 8 (4 * i) + mSb a b 8 ((2 + 4 * i) + 2) := h1.trans ((mSb_odd a b 6 i).trans (by rw [← h2, ← h3]))
  funext p
  by_cases q : p = 2 + 4 * i
  · subst q
    rw [ma_up_s, e1, e2, ← e3]
    exact (if_pos ⟨by omega, Or.inr ⟨by omega, by omega⟩⟩).symm
  · rw [ma_up_n _ _ q]
    unfold tr
    by_cases c : p ≤ 256 ∧ (p % 4 = 0 ∨ (p % 2 = 0 ∧ p < 2 + 4 * i))
    · rw [if_pos c, if_pos (by omega)]
    · rw [if_neg c, if_neg (by omega)]
theorem tr_s2 (a b : Int32) {i : Nat} (hi : i < 128) : ma_up (tr a b 2 1 (1 + 2 * i)) (1 + 2 * i) ((tr a b 2 1 (1 + 2 * i)) (2 * i) + (tr a b 2 1 (1 + 2 * i)) ((1 + 2 * i) + 1)) = tr a b 2 1 (1 + 2 * (i + 1)) := by
  have e1 : tr a b 2 1 (1 + 2 * i) (2 * i) = mSb a b 8 (2 * i) := if_pos ⟨by omega, Or.inl (by omega)⟩
  have e2 : tr a b 2 1 (1 + 2 * i) ((1 + 2 * i) + 1) = mSb a b 8 ((1 + 2 * i) + 1) := if_pos ⟨by omega, Or.inl (by omega)⟩
  have h1 := mSb_sc a b 8 (2 * i + 1) 0
  have h2 := mSb_sc a b 7 i 1
  have h3 := mSb_sc a b 7 (i + 1) 1
  rw [show (2 * i + 1) * 2 ^ 0 = 1 + 2 * i by omega] at h1
  rw [show i * 2 ^ 1 = 2 * i by omega] at h2
  rw [show (i + 1) * 2 ^ 1 = (1 + 2 * i) + 1 by omega] at h3
  have e3 : mSb a b 8 (1 + 2 * i) = mSb a b 8 (2 * i) + mSb a b 8 ((1 + 2 * i) + 1) := h1.trans ((mSb_odd a b 7 i).trans (by rw [← h2, ← h3]))
  funext p
  by_cases q : p = 1 + 2 * i
  · subst q
    rw [ma_up_s, e1, e2, ← e3]
    exact (if_pos ⟨by omega, Or.inr ⟨by omega, by omega⟩⟩).symm
  · rw [ma_up_n _ _ q]
    unfold tr
    by_cases c : p ≤ 256 ∧ (p % 2 = 0 ∨ (p % 1 = 0 ∧ p < 1 + 2 * i))
    · rw [if_pos c, if_pos (by omega)]
    · rw [if_neg c, if_neg (by omega)]
def pR_1 : List (Nat × Nat × Nat) := (3, 0, 4) :: pR_0
def pR_2 : List (Nat × Nat × Nat) := (3, 1, 5) :: pR_1
def pR_3 : List (Nat × Nat × Nat) := (6, 0, 7) :: pR_2
def pR_4 : List (Nat × Nat × Nat) := (6, 1, 8) :: pR_3
set_option maxRecDepth 4000 in
theorem t_X4_init_6 {g : ma_G} {Post : ma_P} {I : ma_I} {L : ma_L} (hz : zP 4 I) (hl : zP 4 L) (k : Post none (hsP 6) I L (rfL pR_4) 6) : CT g yX4_init cX4_init 1 none rX4_init [.ref 6] Post (hsP 4) I L (rfL pR_2) 4 := by
  refine ct_of (lv := [some (.ref 6)]) (by decide) (Nat.le_of_ble_eq_true rfl) rfl ?_
  refine ev_aload_n (pc' := 1) (i := 0) dX4_init_0 rfl rfl rfl ?_
  refine ev_obj (pc' := 4) ob_X4_3 dX4_init_1 rfl ob_i ob_c (Nat.le_of_ble_eq_true rfl) (Nat.le_of_ble_eq_true rfl) ?_
  refine ev_aload_n (pc' := 5) (i := 0) dX4_init_4 rfl rfl rfl ?_
  refine ev_bipush (pc' := 7) (v := 16) dX4_init_5 rfl kb_16 ?_
  refine en_L (pc' := 9) (N := 16) (a' := 7) (n' := 5) (ce' := 1) (sl' := 16) (zP_le hz (Nat.le_of_ble_eq_true rfl)) (zP_le hl (Nat.le_of_ble_eq_true rfl)) rfl rfl dX4_init_7 rfl rfl (Nat.le_of_ble_eq_true rfl) ⟨(Nat.le_of_ble_eq_true rfl), (Nat.le_of_ble_eq_true rfl)⟩ rfl rfl rfl rfl ?_
  refine ev_putF (pc' := 12) (R' := rfL pR_3) fo_X4_9 dX4_init_9 rfl rfl rfl rfl (fun r hr => by cases hr; exact ⟨rfl, rfl⟩) (fun q => ⟨rfl, rfl⟩) rfl ?_
  refine ev_aload_n (pc' := 13) (i := 0) dX4_init_12 rfl rfl rfl ?_
  refine ev_iconst (pc' := 14) (v := 5) dX4_init_13 rfl ki_5 ?_
  refine en_L (pc' := 16) (N := 5) (a' := 8) (n' := 6) (ce' := 2) (sl' := 21) (zP_le hz (Nat.le_of_ble_eq_true rfl)) (zP_le hl (Nat.le_of_ble_eq_true rfl)) rfl rfl dX4_init_14 rfl rfl (Nat.le_of_ble_eq_true rfl) ⟨(Nat.le_of_ble_eq_true rfl), (Nat.le_of_ble_eq_true rfl)⟩ rfl rfl rfl rfl ?_
  refine ev_putF (pc' := 19) (R' := rfL pR_4) fo_X4_15 dX4_init_16 rfl rfl rfl rfl (fun r hr => by cases hr; exact ⟨rfl, rfl⟩) (fun q => ⟨rfl, rfl⟩) rfl ?_
  refine ev_vret dX4_init_19 rfl ⟨Nat.le_refl _, Nat.le_refl _⟩ ?_
  exact k
def pR_5 : List (Nat × Nat × Nat) := (3, 2, 6) :: pR_4
def pR_6 : List (Nat × Nat × Nat) := (9, 0, 10) :: pR_5
def pR_7 : List (Nat × Nat × Nat) := (9, 1, 11) :: pR_6
set_option maxRecDepth 4000 in
theorem t_X4_init_9 {g : ma_G} {Post : ma_P} {I : ma_I} {L : ma_L} (hz : zP 7 I) (hl : zP 7 L) (k : Post none (hsP 9) I L (rfL pR_7) 9) : CT g yX4_init cX4_init 1 none rX4_init [.ref 9] Post (hsP 7) I L (rfL pR_5) 7 := by
  refine ct_of (lv := [some (.ref 9)]) (by decide) (Nat.le_of_ble_eq_true rfl) rfl ?_
  refine ev_aload_n (pc' := 1) (i := 0) dX4_init_0 rfl rfl rfl ?_
  refine ev_obj (pc' := 4) ob_X4_3 dX4_init_1 rfl ob_i ob_c (Nat.le_of_ble_eq_true rfl) (Nat.le_of_ble_eq_true rfl) ?_
  refine ev_aload_n (pc' := 5) (i := 0) dX4_init_4 rfl rfl rfl ?_
  refine ev_bipush (pc' := 7) (v := 16) dX4_init_5 rfl kb_16 ?_
  refine en_L (pc' := 9) (N := 16) (a' := 10) (n' := 8) (ce' := 1) (sl' := 16) (zP_le hz (Nat.le_of_ble_eq_true rfl)) (zP_le hl (Nat.le_of_ble_eq_true rfl)) rfl rfl dX4_init_7 rfl rfl (Nat.le_of_ble_eq_true rfl) ⟨(Nat.le_of_ble_eq_true rfl), (Nat.le_of_ble_eq_true rfl)⟩ rfl rfl rfl rfl ?_
  refine ev_putF (pc' := 12) (R' := rfL pR_6) fo_X4_9 dX4_init_9 rfl rfl rfl rfl (fun r hr => by cases hr; exact ⟨rfl, rfl⟩) (fun q => ⟨rfl, rfl⟩) rfl ?_
  refine ev_aload_n (pc' := 13) (i := 0) dX4_init_12 rfl rfl rfl ?_
  refine ev_iconst (pc' := 14) (v := 5) dX4_init_13 rfl ki_5 ?_
  refine en_L (pc' := 16) (N := 5) (a' := 11) (n' := 9) (ce' := 2) (sl' := 21) (zP_le hz (Nat.le_of_ble_eq_true rfl)) (zP_le hl (Nat.le_of_ble_eq_true rfl)) rfl rfl dX4_init_14 rfl rfl (Nat.le_of_ble_eq_true rfl) ⟨(Nat.le_of_ble_eq_true rfl), (Nat.le_of_ble_eq_true rfl)⟩ rfl rfl rfl rfl ?_
  refine ev_putF (pc' := 19) (R' := rfL pR_7) fo_X4_15 dX4_init_16 rfl rfl rfl rfl (fun r hr => by cases hr; exact ⟨rfl, rfl⟩) (fun q => ⟨rfl, rfl⟩) rfl ?_
  refine ev_vret dX4_init_19 rfl ⟨Nat.le_refl _, Nat.le_refl _⟩ ?_
  exact k
def pR_8 : List (Nat × Nat × Nat) := (3, 3, 9) :: pR_7
def pR_9 : List (Nat × Nat × Nat) := (12, 0, 13) :: pR_8
def pR_10 : List (Nat × Nat × Nat) := (12, 1, 14) :: pR_9
def pR_11 : List (Nat × Nat × Nat) := (15, 0, 16) :: pR_10
def pR_12 : List (Nat × Nat × Nat) := (15, 1, 17) :: pR_11
set_option maxRecDepth 4000 in
theorem t_X4_init_15 {g : ma_G} {Post : ma_P} {I : ma_I} {L : ma_L} (hz : zP 13 I) (hl : zP 13 L) (k : Post none (hsP 15) I L (rfL pR_12) 15) : CT g yX4_init cX4_init 1 none rX4_init [.ref 15] Post (hsP 13) I L (rfL pR_10) 13 := by
  refine ct_of (lv := [some (.ref 15)]) (by decide) (Nat.le_of_ble_eq_true rfl) rfl ?_
  refine ev_aload_n (pc' := 1) (i := 0) dX4_init_0 rfl rfl rfl ?_
  refine ev_obj (pc' := 4) ob_X4_3 dX4_init_1 rfl ob_i ob_c (Nat.le_of_ble_eq_true rfl) (Nat.le_of_ble_eq_true rfl) ?_
  refine ev_aload_n (pc' := 5) (i := 0) dX4_init_4 rfl rfl rfl ?_
  refine ev_bipush (pc' := 7) (v := 16) dX4_init_5 rfl kb_16 ?_
  refine en_L (pc' := 9) (N := 16) (a' := 16) (n' := 14) (ce' := 1) (sl' := 16) (zP_le hz (Nat.le_of_ble_eq_true rfl)) (zP_le hl (Nat.le_of_ble_eq_true rfl)) rfl rfl dX4_init_7 rfl rfl (Nat.le_of_ble_eq_true rfl) ⟨(Nat.le_of_ble_eq_true rfl), (Nat.le_of_ble_eq_true rfl)⟩ rfl rfl rfl rfl ?_
  refine ev_putF (pc' := 12) (R' := rfL pR_11) fo_X4_9 dX4_init_9 rfl rfl rfl rfl (fun r hr => by cases hr; exact ⟨rfl, rfl⟩) (fun q => ⟨rfl, rfl⟩) rfl ?_
  refine ev_aload_n (pc' := 13) (i := 0) dX4_init_12 rfl rfl rfl ?_
  refine ev_iconst (pc' := 14) (v := 5) dX4_init_13 rfl ki_5 ?_
  refine en_L (pc' := 16) (N := 5) (a' := 17) (n' := 15) (ce' := 2) (sl' := 21) (zP_le hz (Nat.le_of_ble_eq_true rfl)) (zP_le hl (Nat.le_of_ble_eq_true rfl)) rfl rfl dX4_init_14 rfl rfl (Nat.le_of_ble_eq_true rfl) ⟨(Nat.le_of_ble_eq_true rfl), (Nat.le_of_ble_eq_true rfl)⟩ rfl rfl rfl rfl ?_
  refine ev_putF (pc' := 19) (R' := rfL pR_12) fo_X4_15 dX4_init_16 rfl rfl rfl rfl (fun r hr => by cases hr; exact ⟨rfl, rfl⟩) (fun q => ⟨rfl, rfl⟩) rfl ?_
  refine ev_vret dX4_init_19 rfl ⟨Nat.le_refl _, Nat.le_refl _⟩ ?_
  exact k
def pR_13 : List (Nat × Nat × Nat) := (12, 2, 15) :: pR_12
def pR_14 : List (Nat × Nat × Nat) := (18, 0, 19) :: pR_13
def pR_15 : List (Nat × Nat × Nat) := (18, 1, 20) :: pR_14
set_option maxRecDepth 4000 in
theorem t_X6_init_18 {g : ma_G} {Post : ma_P} {I : ma_I} {L : ma_L} (hz : zP 16 I) (hl : zP 16 L) (k : Post none (hsP 18) I L (rfL pR_15) 18) : CT g yX6_init cX6_init 1 none rX6_init [.ref 18] Post (hsP 16) I L (rfL pR_13) 16 := by
  refine ct_of (lv := [some (.ref 18)]) (by decide) (Nat.le_of_ble_eq_true rfl) rfl ?_
  refine ev_aload_n (pc' := 1) (i := 0) dX6_init_0 rfl rfl rfl ?_
  refine ev_obj (pc' := 4) ob_X6_3 dX6_init_1 rfl ob_i ob_c (Nat.le_of_ble_eq_true rfl) (Nat.le_of_ble_eq_true rfl) ?_
  refine ev_aload_n (pc' := 5) (i := 0) dX6_init_4 rfl rfl rfl ?_
  refine ev_bipush (pc' := 7) (v := 6) dX6_init_5 rfl kb_6 ?_
  refine en_L (pc' := 9) (N := 6) (a' := 19) (n' := 17) (ce' := 1) (sl' := 6) (zP_le hz (Nat.le_of_ble_eq_true rfl)) (zP_le hl (Nat.le_of_ble_eq_true rfl)) rfl rfl dX6_init_7 rfl rfl (Nat.le_of_ble_eq_true rfl) ⟨(Nat.le_of_ble_eq_true rfl), (Nat.le_of_ble_eq_true rfl)⟩ rfl rfl rfl rfl ?_
  refine ev_putF (pc' := 12) (R' := rfL pR_14) fo_X6_9 dX6_init_9 rfl rfl rfl rfl (fun r hr => by cases hr; exact ⟨rfl, rfl⟩) (fun q => ⟨rfl, rfl⟩) rfl ?_
  refine ev_aload_n (pc' := 13) (i := 0) dX6_init_12 rfl rfl rfl ?_
  refine ev_bipush (pc' := 15) (v := 6) dX6_init_13 rfl kb_6 ?_
  refine en_L (pc' := 17) (N := 6) (a' := 20) (n' := 18) (ce' := 2) (sl' := 12) (zP_le hz (Nat.le_of_ble_eq_true rfl)) (zP_le hl (Nat.le_of_ble_eq_true rfl)) rfl rfl dX6_init_15 rfl rfl (Nat.le_of_ble_eq_true rfl) ⟨(Nat.le_of_ble_eq_true rfl), (Nat.le_of_ble_eq_true rfl)⟩ rfl rfl rfl rfl ?_
  refine ev_putF (pc' := 20) (R' := rfL pR_15) fo_X6_13 dX6_init_17 rfl rfl rfl rfl (fun r hr => by cases hr; exact ⟨rfl, rfl⟩) (fun q => ⟨rfl, rfl⟩) rfl ?_
  refine ev_vret dX6_init_20 rfl ⟨Nat.le_refl _, Nat.le_refl _⟩ ?_
  exact k
def pR_16 : List (Nat × Nat × Nat) := (12, 3, 18) :: pR_15
def pR_17 : List (Nat × Nat × Nat) := (21, 0, 22) :: pR_16
def pR_18 : List (Nat × Nat × Nat) := (21, 1, 23) :: pR_17
set_option maxRecDepth 4000 in
theorem t_X6_init_21 {g : ma_G} {Post : ma_P} {I : ma_I} {L : ma_L} (hz : zP 19 I) (hl : zP 19 L) (k : Post none (hsP 21) I L (rfL pR_18) 21) : CT g yX6_init cX6_init 1 none rX6_init [.ref 21] Post (hsP 19) I L (rfL pR_16) 19 := by
  refine ct_of (lv := [some (.ref 21)]) (by decide) (Nat.le_of_ble_eq_true rfl) rfl ?_
  refine ev_aload_n (pc' := 1) (i := 0) dX6_init_0 rfl rfl rfl ?_
  refine ev_obj (pc' := 4) ob_X6_3 dX6_init_1 rfl ob_i ob_c (Nat.le_of_ble_eq_true rfl) (Nat.le_of_ble_eq_true rfl) ?_
  refine ev_aload_n (pc' := 5) (i := 0) dX6_init_4 rfl rfl rfl ?_
  refine ev_bipush (pc' := 7) (v := 6) dX6_init_5 rfl kb_6 ?_
  refine en_L (pc' := 9) (N := 6) (a' := 22) (n' := 20) (ce' := 1) (sl' := 6) (zP_le hz (Nat.le_of_ble_eq_true rfl)) (zP_le hl (Nat.le_of_ble_eq_true rfl)) rfl rfl dX6_init_7 rfl rfl (Nat.le_of_ble_eq_true rfl) ⟨(Nat.le_of_ble_eq_true rfl), (Nat.le_of_ble_eq_true rfl)⟩ rfl rfl rfl rfl ?_
  refine ev_putF (pc' := 12) (R' := rfL pR_17) fo_X6_9 dX6_init_9 rfl rfl rfl rfl (fun r hr => by cases hr; exact ⟨rfl, rfl⟩) (fun q => ⟨rfl, rfl⟩) rfl ?_
  refine ev_aload_n (pc' := 13) (i := 0) dX6_init_12 rfl rfl rfl ?_
  refine ev_bipush (pc' := 15) (v := 6) dX6_init_13 rfl kb_6 ?_
  refine en_L (pc' := 17) (N := 6) (a' := 23) (n' := 21) (ce' := 2) (sl' := 12) (zP_le hz (Nat.le_of_ble_eq_true rfl)) (zP_le hl (Nat.le_of_ble_eq_true rfl)) rfl rfl dX6_init_15 rfl rfl (Nat.le_of_ble_eq_true rfl) ⟨(Nat.le_of_ble_eq_true rfl), (Nat.le_of_ble_eq_true rfl)⟩ rfl rfl rfl rfl ?_
  refine ev_putF (pc' := 20) (R' := rfL pR_18) fo_X6_13 dX6_init_17 rfl rfl rfl rfl (fun r hr => by cases hr; exact ⟨rfl, rfl⟩) (fun q => ⟨rfl, rfl⟩) rfl ?_
  refine ev_vret dX6_init_20 rfl ⟨Nat.le_refl _, Nat.le_refl _⟩ ?_
  exact k
def pR_19 : List (Nat × Nat × Nat) := (12, 4, 21) :: pR_18
def pR_20 : List (Nat × Nat × Nat) := (12, 7, 24) :: pR_19
def pR_21 : List (Nat × Nat × Nat) := (12, 8, 25) :: pR_20
set_option maxRecDepth 4000 in
theorem t_X0_init_12 {g : ma_G} {Post : ma_P} {I : ma_I} {L : ma_L} (hz : zP 10 I) (hl : zP 10 L) (k : Post none (hsP 23) I L (rfL pR_21) 23) : CT g yX0_init cX0_init 1 none rX0_init [.ref 12] Post (hsP 10) I L (rfL pR_8) 10 := by
  refine ct_of (lv := [some (.ref 12)]) (by decide) (Nat.le_of_ble_eq_true rfl) rfl ?_
  refine ev_aload_n (pc' := 1) (i := 0) dX0_init_0 rfl rfl rfl ?_
  refine ev_obj (pc' := 4) ob_X0_3 dX0_init_1 rfl ob_i ob_c (Nat.le_of_ble_eq_true rfl) (Nat.le_of_ble_eq_true rfl) ?_
  refine ev_aload_n (pc' := 5) (i := 0) dX0_init_4 rfl rfl rfl ?_
  refine ev_iconst (pc' := 6) (v := 5) dX0_init_5 rfl ki_5 ?_
  refine en_L (pc' := 8) (N := 5) (a' := 13) (n' := 11) (ce' := 1) (sl' := 5) (zP_le hz (Nat.le_of_ble_eq_true rfl)) (zP_le hl (Nat.le_of_ble_eq_true rfl)) rfl rfl dX0_init_6 rfl rfl (Nat.le_of_ble_eq_true rfl) ⟨(Nat.le_of_ble_eq_true rfl), (Nat.le_of_ble_eq_true rfl)⟩ rfl rfl rfl rfl ?_
  refine ev_putF (pc' := 11) (R' := rfL pR_9) fo_X0_9 dX0_init_8 rfl rfl rfl rfl (fun r hr => by cases hr; exact ⟨rfl, rfl⟩) (fun q => ⟨rfl, rfl⟩) rfl ?_
  refine ev_aload_n (pc' := 12) (i := 0) dX0_init_11 rfl rfl rfl ?_
  refine ev_iconst (pc' := 13) (v := 5) dX0_init_12 rfl ki_5 ?_
  refine en_L (pc' := 15) (N := 5) (a' := 14) (n' := 12) (ce' := 2) (sl' := 10) (zP_le hz (Nat.le_of_ble_eq_true rfl)) (zP_le hl (Nat.le_of_ble_eq_true rfl)) rfl rfl dX0_init_13 rfl rfl (Nat.le_of_ble_eq_true rfl) ⟨(Nat.le_of_ble_eq_true rfl), (Nat.le_of_ble_eq_true rfl)⟩ rfl rfl rfl rfl ?_
  refine ev_putF (pc' := 18) (R' := rfL pR_10) fo_X0_15 dX0_init_15 rfl rfl rfl rfl (fun r hr => by cases hr; exact ⟨rfl, rfl⟩) (fun q => ⟨rfl, rfl⟩) rfl ?_
  refine ev_aload_n (pc' := 19) (i := 0) dX0_init_18 rfl rfl rfl ?_
  refine en_new (t := 4) (pc' := 22) (N := 6) (a' := 15) (n' := 13) (ce' := 3) (sl' := 16) (by decide) rfl ck_X0_18 cb_X4 tb_in_X4 tb_ws4 tb_ty4 tb_df4 (zP_le hz (Nat.le_of_ble_eq_true rfl)) (zP_le hl (Nat.le_of_ble_eq_true rfl)) rfl rfl dX0_init_19 rfl ⟨(Nat.le_of_ble_eq_true rfl), (Nat.le_of_ble_eq_true rfl)⟩ rfl rfl rfl rfl ?_
  refine ev_dup (pc' := 23) dX0_init_22 rfl rfl ?_
  refine ev_callI (pc' := 26) (rm' := rX4_init) (b := 15) (av := []) (rest := [.ref 15, .ref 12]) co_X0_20 ci_X4_init rfl dX0_init_23 rfl rfl rfl (Nat.le_of_ble_eq_true rfl) ⟨(Nat.le_of_ble_eq_true rfl), (Nat.le_of_ble_eq_true rfl)⟩ ⟨(Nat.le_of_ble_eq_true rfl), (Nat.le_of_ble_eq_true rfl)⟩ ?_
  refine t_X4_init_15 (zP_le hz (Nat.le_of_ble_eq_true rfl)) (zP_le hl (Nat.le_of_ble_eq_true rfl)) ?_
  refine ev_sl (ce' := 5) (sl' := 37) rfl rfl ?_
  refine ev_putF (pc' := 29) (R' := rfL pR_13) fo_X0_21 dX0_init_26 rfl rfl rfl rfl (fun r hr => by cases hr; exact ⟨rfl, rfl⟩) (fun q => ⟨rfl, rfl⟩) rfl ?_
  refine ev_aload_n (pc' := 30) (i := 0) dX0_init_29 rfl rfl rfl ?_
  refine en_new (t := 6) (pc' := 33) (N := 2) (a' := 18) (n' := 16) (ce' := 6) (sl' := 39) (by decide) rfl ck_X0_25 cb_X6 tb_in_X6 tb_ws6 tb_ty6 tb_df6 (zP_le hz (Nat.le_of_ble_eq_true rfl)) (zP_le hl (Nat.le_of_ble_eq_true rfl)) rfl rfl dX0_init_30 rfl ⟨(Nat.le_of_ble_eq_true rfl), (Nat.le_of_ble_eq_true rfl)⟩ rfl rfl rfl rfl ?_
  refine ev_dup (pc' := 34) dX0_init_33 rfl rfl ?_
  refine ev_callI (pc' := 37) (rm' := rX6_init) (b := 18) (av := []) (rest := [.ref 18, .ref 12]) co_X0_27 ci_X6_init rfl dX0_init_34 rfl rfl rfl (Nat.le_of_ble_eq_true rfl) ⟨(Nat.le_of_ble_eq_true rfl), (Nat.le_of_ble_eq_true rfl)⟩ ⟨(Nat.le_of_ble_eq_true rfl), (Nat.le_of_ble_eq_true rfl)⟩ ?_
  refine t_X6_init_18 (zP_le hz (Nat.le_of_ble_eq_true rfl)) (zP_le hl (Nat.le_of_ble_eq_true rfl)) ?_
  refine ev_sl (ce' := 8) (sl' := 51) rfl rfl ?_
  refine ev_putF (pc' := 40) (R' := rfL pR_16) fo_X0_28 dX0_init_37 rfl rfl rfl rfl (fun r hr => by cases hr; exact ⟨rfl, rfl⟩) (fun q => ⟨rfl, rfl⟩) rfl ?_
  refine ev_aload_n (pc' := 41) (i := 0) dX0_init_40 rfl rfl rfl ?_
  refine en_new (t := 6) (pc' := 44) (N := 2) (a' := 21) (n' := 19) (ce' := 9) (sl' := 53) (by decide) rfl ck_X0_25 cb_X6 tb_in_X6 tb_ws6 tb_ty6 tb_df6 (zP_le hz (Nat.le_of_ble_eq_true rfl)) (zP_le hl (Nat.le_of_ble_eq_true rfl)) rfl rfl dX0_init_41 rfl ⟨(Nat.le_of_ble_eq_true rfl), (Nat.le_of_ble_eq_true rfl)⟩ rfl rfl rfl rfl ?_
  refine ev_dup (pc' := 45) dX0_init_44 rfl rfl ?_
  refine ev_callI (pc' := 48) (rm' := rX6_init) (b := 21) (av := []) (rest := [.ref 21, .ref 12]) co_X0_27 ci_X6_init rfl dX0_init_45 rfl rfl rfl (Nat.le_of_ble_eq_true rfl) ⟨(Nat.le_of_ble_eq_true rfl), (Nat.le_of_ble_eq_true rfl)⟩ ⟨(Nat.le_of_ble_eq_true rfl), (Nat.le_of_ble_eq_true rfl)⟩ ?_
  refine t_X6_init_21 (zP_le hz (Nat.le_of_ble_eq_true rfl)) (zP_le hl (Nat.le_of_ble_eq_true rfl)) ?_
  refine ev_sl (ce' := 11) (sl' := 65) rfl rfl ?_
  refine ev_putF (pc' := 51) (R' := rfL pR_19) fo_X0_32 dX0_init_48 rfl rfl rfl rfl (fun r hr => by cases hr; exact ⟨rfl, rfl⟩) (fun q => ⟨rfl, rfl⟩) rfl ?_
  refine ev_aload_n (pc' := 52) (i := 0) dX0_init_51 rfl rfl rfl ?_
  refine ev_iconst (pc' := 53) (v := 4) dX0_init_52 rfl ki_4 ?_
  refine en_I (pc' := 55) (N := 4) (a' := 24) (n' := 22) (ce' := 12) (sl' := 69) (zP_le hz (Nat.le_of_ble_eq_true rfl)) (zP_le hl (Nat.le_of_ble_eq_true rfl)) rfl rfl dX0_init_53 rfl rfl (Nat.le_of_ble_eq_true rfl) ⟨(Nat.le_of_ble_eq_true rfl), (Nat.le_of_ble_eq_true rfl)⟩ rfl rfl rfl rfl ?_
  refine ev_putF (pc' := 58) (R' := rfL pR_20) fo_X0_35 dX0_init_55 rfl rfl rfl rfl (fun r hr => by cases hr; exact ⟨rfl, rfl⟩) (fun q => ⟨rfl, rfl⟩) rfl ?_
  refine ev_aload_n (pc' := 59) (i := 0) dX0_init_58 rfl rfl rfl ?_
  refine ev_iconst (pc' := 60) (v := 4) dX0_init_59 rfl ki_4 ?_
  refine en_I (pc' := 62) (N := 4) (a' := 25) (n' := 23) (ce' := 13) (sl' := 73) (zP_le hz (Nat.le_of_ble_eq_true rfl)) (zP_le hl (Nat.le_of_ble_eq_true rfl)) rfl rfl dX0_init_60 rfl rfl (Nat.le_of_ble_eq_true rfl) ⟨(Nat.le_of_ble_eq_true rfl), (Nat.le_of_ble_eq_true rfl)⟩ rfl rfl rfl rfl ?_
  refine ev_putF (pc' := 65) (R' := rfL pR_21) fo_X0_39 dX0_init_62 rfl rfl rfl rfl (fun r hr => by cases hr; exact ⟨rfl, rfl⟩) (fun q => ⟨rfl, rfl⟩) rfl ?_
  refine ev_vret dX0_init_65 rfl ⟨Nat.le_refl _, Nat.le_refl _⟩ ?_
  exact k
def pR_22 : List (Nat × Nat × Nat) := (3, 4, 12) :: pR_21
def pR_23 : List (Nat × Nat × Nat) := (26, 0, 27) :: pR_22
def pR_24 : List (Nat × Nat × Nat) := (26, 1, 28) :: pR_23
def pR_25 : List (Nat × Nat × Nat) := (29, 0, 30) :: pR_24
def pR_26 : List (Nat × Nat × Nat) := (29, 1, 31) :: pR_25
set_option maxRecDepth 4000 in
theorem t_X4_init_29 {g : ma_G} {Post : ma_P} {I : ma_I} {L : ma_L} (hz : zP 27 I) (hl : zP 27 L) (k : Post none (hsP 29) I L (rfL pR_26) 29) : CT g yX4_init cX4_init 1 none rX4_init [.ref 29] Post (hsP 27) I L (rfL pR_24) 27 := by
  refine ct_of (lv := [some (.ref 29)]) (by decide) (Nat.le_of_ble_eq_true rfl) rfl ?_
  refine ev_aload_n (pc' := 1) (i := 0) dX4_init_0 rfl rfl rfl ?_
  refine ev_obj (pc' := 4) ob_X4_3 dX4_init_1 rfl ob_i ob_c (Nat.le_of_ble_eq_true rfl) (Nat.le_of_ble_eq_true rfl) ?_
  refine ev_aload_n (pc' := 5) (i := 0) dX4_init_4 rfl rfl rfl ?_
  refine ev_bipush (pc' := 7) (v := 16) dX4_init_5 rfl kb_16 ?_
  refine en_L (pc' := 9) (N := 16) (a' := 30) (n' := 28) (ce' := 1) (sl' := 16) (zP_le hz (Nat.le_of_ble_eq_true rfl)) (zP_le hl (Nat.le_of_ble_eq_true rfl)) rfl rfl dX4_init_7 rfl rfl (Nat.le_of_ble_eq_true rfl) ⟨(Nat.le_of_ble_eq_true rfl), (Nat.le_of_ble_eq_true rfl)⟩ rfl rfl rfl rfl ?_
  refine ev_putF (pc' := 12) (R' := rfL pR_25) fo_X4_9 dX4_init_9 rfl rfl rfl rfl (fun r hr => by cases hr; exact ⟨rfl, rfl⟩) (fun q => ⟨rfl, rfl⟩) rfl ?_
  refine ev_aload_n (pc' := 13) (i := 0) dX4_init_12 rfl rfl rfl ?_
  refine ev_iconst (pc' := 14) (v := 5) dX4_init_13 rfl ki_5 ?_
  refine en_L (pc' := 16) (N := 5) (a' := 31) (n' := 29) (ce' := 2) (sl' := 21) (zP_le hz (Nat.le_of_ble_eq_true rfl)) (zP_le hl (Nat.le_of_ble_eq_true rfl)) rfl rfl dX4_init_14 rfl rfl (Nat.le_of_ble_eq_true rfl) ⟨(Nat.le_of_ble_eq_true rfl), (Nat.le_of_ble_eq_true rfl)⟩ rfl rfl rfl rfl ?_
  refine ev_putF (pc' := 19) (R' := rfL pR_26) fo_X4_15 dX4_init_16 rfl rfl rfl rfl (fun r hr => by cases hr; exact ⟨rfl, rfl⟩) (fun q => ⟨rfl, rfl⟩) rfl ?_
  refine ev_vret dX4_init_19 rfl ⟨Nat.le_refl _, Nat.le_refl _⟩ ?_
  exact k
def pR_27 : List (Nat × Nat × Nat) := (26, 2, 29) :: pR_26
set_option maxRecDepth 4000 in
theorem t_X5_init_26 {g : ma_G} {Post : ma_P} {I : ma_I} {L : ma_L} (hz : zP 24 I) (hl : zP 24 L) (k : ∀ TX TY : Nat → Int32, (∀ j, j ≤ 256 → TX j = mSb 0 1 8 j) → (∀ j, j ≤ 256 → TY j = mSb 1 0 8 j) → Post none (hsP 29) (ma_up (ma_up I 27 TX) 28 TY) L (rfL pR_27) 29) : CT g yX5_init cX5_init 4 none rX5_init [.ref 26] Post (hsP 24) I L (rfL pR_22) 24 := by
  refine ct_of (lv := [some (.ref 26), none, none, none]) (by decide) (Nat.le_of_ble_eq_true rfl) rfl ?_
  refine ev_aload_n (pc' := 1) (i := 0) dX5_init_0 rfl rfl rfl ?_
  refine ev_obj (pc' := 4) ob_X5_3 dX5_init_1 rfl ob_i ob_c (Nat.le_of_ble_eq_true rfl) (Nat.le_of_ble_eq_true rfl) ?_
  refine ev_aload_n (pc' := 5) (i := 0) dX5_init_4 rfl rfl rfl ?_
  refine ev_sipush (pc' := 8) (v := 257) dX5_init_5 rfl ks_257 ?_
  refine en_I (pc' := 10) (N := 257) (a' := 27) (n' := 25) (ce' := 1) (sl' := 257) (zP_le hz (Nat.le_of_ble_eq_true rfl)) (zP_le hl (Nat.le_of_ble_eq_true rfl)) rfl rfl dX5_init_8 rfl rfl (Nat.le_of_ble_eq_true rfl) ⟨(Nat.le_of_ble_eq_true rfl), (Nat.le_of_ble_eq_true rfl)⟩ rfl rfl rfl rfl ?_
  refine ev_putF (pc' := 13) (R' := rfL pR_23) fo_X5_9 dX5_init_10 rfl rfl rfl rfl (fun r hr => by cases hr; exact ⟨rfl, rfl⟩) (fun q => ⟨rfl, rfl⟩) rfl ?_
  refine ev_aload_n (pc' := 14) (i := 0) dX5_init_13 rfl rfl rfl ?_
  refine ev_sipush (pc' := 17) (v := 257) dX5_init_14 rfl ks_257 ?_
  refine en_I (pc' := 19) (N := 257) (a' := 28) (n' := 26) (ce' := 2) (sl' := 514) (zP_le hz (Nat.le_of_ble_eq_true rfl)) (zP_le hl (Nat.le_of_ble_eq_true rfl)) rfl rfl dX5_init_17 rfl rfl (Nat.le_of_ble_eq_true rfl) ⟨(Nat.le_of_ble_eq_true rfl), (Nat.le_of_ble_eq_true rfl)⟩ rfl rfl rfl rfl ?_
  refine ev_putF (pc' := 22) (R' := rfL pR_24) fo_X5_15 dX5_init_19 rfl rfl rfl rfl (fun r hr => by cases hr; exact ⟨rfl, rfl⟩) (fun q => ⟨rfl, rfl⟩) rfl ?_
  refine ev_aload_n (pc' := 23) (i := 0) dX5_init_22 rfl rfl rfl ?_
  refine en_new (t := 4) (pc' := 26) (N := 6) (a' := 29) (n' := 27) (ce' := 3) (sl' := 520) (by decide) rfl ck_X5_18 cb_X4 tb_in_X4 tb_ws4 tb_ty4 tb_df4 (zP_le hz (Nat.le_of_ble_eq_true rfl)) (zP_le hl (Nat.le_of_ble_eq_true rfl)) rfl rfl dX5_init_23 rfl ⟨(Nat.le_of_ble_eq_true rfl), (Nat.le_of_ble_eq_true rfl)⟩ rfl rfl rfl rfl ?_
  refine ev_dup (pc' := 27) dX5_init_26 rfl rfl ?_
  refine ev_callI (pc' := 30) (rm' := rX4_init) (b := 29) (av := []) (rest := [.ref 29, .ref 26]) co_X5_20 ci_X4_init rfl dX5_init_27 rfl rfl rfl (Nat.le_of_ble_eq_true rfl) ⟨(Nat.le_of_ble_eq_true rfl), (Nat.le_of_ble_eq_true rfl)⟩ ⟨(Nat.le_of_ble_eq_true rfl), (Nat.le_of_ble_eq_true rfl)⟩ ?_
  refine t_X4_init_29 (zP_le hz (Nat.le_of_ble_eq_true rfl)) (zP_le hl (Nat.le_of_ble_eq_true rfl)) ?_
  refine ev_sl (ce' := 5) (sl' := 541) rfl rfl ?_
  refine ev_putF (pc' := 33) (R' := rfL pR_27) fo_X5_21 dX5_init_30 rfl rfl rfl rfl (fun r hr => by cases hr; exact ⟨rfl, rfl⟩) (fun q => ⟨rfl, rfl⟩) rfl ?_
  refine ev_aload_n (pc' := 34) (i := 0) dX5_init_33 rfl rfl rfl ?_
  refine ev_getR (pc' := 37) fo_X5_15 dX5_init_34 rfl rfl rfl rfl ?_
  refine ev_iconst (pc' := 38) (v := 0) dX5_init_37 rfl ki_0 ?_
  refine ev_iconst (pc' := 39) (v := 1) dX5_init_38 rfl ki_1 ?_
  refine ev_iast (pc' := 40) (j := 0) (I' := (ma_up I 28 (ma_up (I 28) 0 1))) dX5_init_39 rfl rfl rfl (Nat.le_of_ble_eq_true rfl) (Nat.le_of_ble_eq_true rfl) rfl ?_
  refine ev_aload_n (pc' := 41) (i := 0) dX5_init_40 rfl rfl rfl ?_
  refine ev_getR (pc' := 44) fo_X5_9 dX5_init_41 rfl rfl rfl rfl ?_
  refine ev_sipush (pc' := 47) (v := 256) dX5_init_44 rfl ks_256 ?_
  refine ev_iconst (pc' := 48) (v := 1) dX5_init_47 rfl ki_1 ?_
  refine ev_iast (pc' := 49) (j := 256) (I' := (ma_up (ma_up I 28 (ma_up (I 28) 0 1)) 27 (ma_up (I 27) 256 1))) dX5_init_48 rfl rfl rfl (Nat.le_of_ble_eq_true rfl) (Nat.le_of_ble_eq_true rfl) rfl ?_
  refine ev_sipush (pc' := 52) (v := 256) dX5_init_49 rfl ks_256 ?_
  refine ev_istore_n (pc' := 53) (i := 1) (lv' := [some (.ref 26), some (.int 256), none, none]) dX5_init_52 rfl rfl (Nat.le_of_ble_eq_true rfl) rfl rfl ?_
  refine ev_iload_n (pc' := 54) (i := 1) dX5_init_53 rfl rfl rfl ?_
  refine ev_iconst (pc' := 55) (v := 1) dX5_init_54 rfl ki_1 ?_
  refine ev_icmp_le (tgt := 131) (pc' := 58) dX5_init_55 rfl rfl (fun h => absurd h (by decide)) (fun _ => ?_)
  refine ev_iload_n (pc' := 59) (i := 1) dX5_init_58 rfl rfl rfl ?_
  refine ev_iconst (pc' := 60) (v := 2) dX5_init_59 rfl ki_2 ?_
  refine ev_idiv (pc' := 61) (v := 128) dX5_init_60 rfl (by decide) (by decide) ?_
  refine ev_istore_n (pc' := 62) (i := 2) (lv' := [some (.ref 26), some (.int 256), some (.int 128), none]) dX5_init_61 rfl rfl (Nat.le_of_ble_eq_true rfl) rfl rfl ?_
  refine ev_iload_n (pc' := 63) (i := 2) dX5_init_62 rfl rfl rfl ?_
  refine ev_istore_n (pc' := 64) (i := 3) (lv' := [some (.ref 26), some (.int 256), some (.int 128), some (.int 128)]) dX5_init_63 rfl rfl (Nat.le_of_ble_eq_true rfl) rfl rfl ?_
  refine ev_memI (fun z hz0 => ?_)
  have hz0 : z = (ma_up (ma_up I 27 (tr 0 1 256 128 (128 + 256 * 0))) 28 (tr 1 0 256 128 (128 + 256 * 0))) := by rw [hz0]; rw [tr_o (hz 27 (Nat.le_of_ble_eq_true rfl)), tr_u (hz 28 (Nat.le_of_ble_eq_true rfl))]; exact ma_up_comm I (show 27 ≠ 28 by decide) _ _
  subst hz0
  suffices lp : ∀ (d i : Nat), i + d = 1 → EV g yX5_init cX5_init 4 none rX5_init (ma_ZM g rX5_init Post) 64 [some (.ref 26), some (.int 256), some (.int 128), some (.int (nI (128 + 256 * i)))] [] (hsP 29) (ma_up (ma_up I 27 (tr 0 1 256 128 (128 + 256 * i))) 28 (tr 1 0 256 128 (128 + 256 * i))) L (rfL pR_27) 29 5 541 from lp 1 0 rfl
  intro d
  induction d with
  | zero =>
    intro i hi
    obtain rfl : i = 1 := by omega
    refine ev_iload_n (pc' := 65) (i := 3) dX5_init_64 rfl rfl rfl ?_
    refine ev_sipush (pc' := 68) (v := 256) dX5_init_65 rfl ks_256 ?_
    refine ev_icmp_ge (tgt := 124) (pc' := 71) dX5_init_68 rfl rfl (fun _ => ?_) (fun h => absurd (nx_le (a := 256) (b := (128 + 256 * 1)) (by omega) (by omega)) h)
    refine ev_iload_n (pc' := 125) (i := 1) dX5_init_124 rfl rfl rfl ?_
    refine ev_iconst (pc' := 126) (v := 2) dX5_init_125 rfl ki_2 ?_
    refine ev_idiv (pc' := 127) (v := 128) dX5_init_126 rfl (by decide) (by decide) ?_
    refine ev_istore_n (pc' := 128) (i := 1) (lv' := [some (.ref 26), some (.int 128), some (.int 128), some (.int (nI (128 + 256 * 1)))]) dX5_init_127 rfl rfl (Nat.le_of_ble_eq_true rfl) rfl rfl ?_
    refine ev_goto (tgt := 53) dX5_init_128 rfl ?_
    refine ev_iload_n (pc' := 54) (i := 1) dX5_init_53 rfl rfl rfl ?_
    refine ev_iconst (pc' := 55) (v := 1) dX5_init_54 rfl ki_1 ?_
    refine ev_icmp_le (tgt := 131) (pc' := 58) dX5_init_55 rfl rfl (fun h => absurd h (by decide)) (fun _ => ?_)
    refine ev_iload_n (pc' := 59) (i := 1) dX5_init_58 rfl rfl rfl ?_
    refine ev_iconst (pc' := 60) (v := 2) dX5_init_59 rfl ki_2 ?_
    refine ev_idiv (pc' := 61) (v := 64) dX5_init_60 rfl (by decide) (by decide) ?_
    refine ev_istore_n (pc' := 62) (i := 2) (lv' := [some (.ref 26), some (.int 128), some (.int 64), some (.int (nI (128 + 256 * 1)))]) dX5_init_61 rfl rfl (Nat.le_of_ble_eq_true rfl) rfl rfl ?_
    refine ev_iload_n (pc' := 63) (i := 2) dX5_init_62 rfl rfl rfl ?_
    refine ev_istore_n (pc' := 64) (i := 3) (lv' := [some (.ref 26), some (.int 128), some (.int 64), some (.int 64)]) dX5_init_63 rfl rfl (Nat.le_of_ble_eq_true rfl) rfl rfl ?_
    refine ev_memI (fun z hz0 => ?_)
    have hz0 : z = (ma_up (ma_up I 27 (tr 0 1 128 64 (64 + 128 * 0))) 28 (tr 1 0 128 64 (64 + 128 * 0))) := by rw [hz0, tr_n (a := 0) (st' := 128) (hf' := 64) (x' := 64 + 128 * 0) (by intro p hp; omega), tr_n (a := 1) (st' := 128) (hf' := 64) (x' := 64 + 128 * 0) (by intro p hp; omega)]
    subst hz0
    suffices lp : ∀ (d i : Nat), i + d = 2 → EV g yX5_init cX5_init 4 none rX5_init (ma_ZM g rX5_init Post) 64 [some (.ref 26), some (.int 128), some (.int 64), some (.int (nI (64 + 128 * i)))] [] (hsP 29) (ma_up (ma_up I 27 (tr 0 1 128 64 (64 + 128 * i))) 28 (tr 1 0 128 64 (64 + 128 * i))) L (rfL pR_27) 29 5 541 from lp 2 0 rfl
    intro d
    induction d with
    | zero =>
      intro i hi
      obtain rfl : i = 2 := by omega
      refine ev_iload_n (pc' := 65) (i := 3) dX5_init_64 rfl rfl rfl ?_
      refine ev_sipush (pc' := 68) (v := 256) dX5_init_65 rfl ks_256 ?_
      refine ev_icmp_ge (tgt := 124) (pc' := 71) dX5_init_68 rfl rfl (fun _ => ?_) (fun h => absurd (nx_le (a := 256) (b := (64 + 128 * 2)) (by omega) (by omega)) h)
      refine ev_iload_n (pc' := 125) (i := 1) dX5_init_124 rfl rfl rfl ?_
      refine ev_iconst (pc' := 126) (v := 2) dX5_init_125 rfl ki_2 ?_
      refine ev_idiv (pc' := 127) (v := 64) dX5_init_126 rfl (by decide) (by decide) ?_
      refine ev_istore_n (pc' := 128) (i := 1) (lv' := [some (.ref 26), some (.int 64), some (.int 64), some (.int (nI (64 + 128 * 2)))]) dX5_init_127 rfl rfl (Nat.le_of_ble_eq_true rfl) rfl rfl ?_
      refine ev_goto (tgt := 53) dX5_init_128 rfl ?_
      refine ev_iload_n (pc' := 54) (i := 1) dX5_init_53 rfl rfl rfl ?_
      refine ev_iconst (pc' := 55) (v := 1) dX5_init_54 rfl ki_1 ?_
      refine ev_icmp_le (tgt := 131) (pc' := 58) dX5_init_55 rfl rfl (fun h => absurd h (by decide)) (fun _ => ?_)
      refine ev_iload_n (pc' := 59) (i := 1) dX5_init_58 rfl rfl rfl ?_
      refine ev_iconst (pc' := 60) (v := 2) dX5_init_59 rfl ki_2 ?_
      refine ev_idiv (pc' := 61) (v := 32) dX5_init_60 rfl (by decide) (by decide) ?_
      refine ev_istore_n (pc' := 62) (i := 2) (lv' := [some (.ref 26), some (.int 64), some (.int 32), some (.int (nI (64 + 128 * 2)))]) dX5_init_61 rfl rfl (Nat.le_of_ble_eq_true rfl) rfl rfl ?_
      refine ev_iload_n (pc' := 63) (i := 2) dX5_init_62 rfl rfl rfl ?_
      refine ev_istore_n (pc' := 64) (i := 3) (lv' := [some (.ref 26), some (.int 64), some (.int 32), some (.int 32)]) dX5_init_63 rfl rfl (Nat.le_of_ble_eq_true rfl) rfl rfl ?_
      refine ev_memI (fun z hz0 => ?_)
      have hz0 : z = (ma_up (ma_up I 27 (tr 0 1 64 32 (32 + 64 * 0))) 28 (tr 1 0 64 32 (32 + 64 * 0))) := by rw [hz0, tr_n (a := 0) (st' := 64) (hf' := 32) (x' := 32 + 64 * 0) (by intro p hp; omega), tr_n (a := 1) (st' := 64) (hf' := 32) (x' := 32 + 64 * 0) (by intro p hp; omega)]
      subst hz0
      suffices lp : ∀ (d i : Nat), i + d = 4 → EV g yX5_init cX5_init 4 none rX5_init (ma_ZM g rX5_init Post) 64 [some (.ref 26), some (.int 64), some (.int 32), some (.int (nI (32 + 64 * i)))] [] (hsP 29) (ma_up (ma_up I 27 (tr 0 1 64 32 (32 + 64 * i))) 28 (tr 1 0 64 32 (32 + 64 * i))) L (rfL pR_27) 29 5 541 from lp 4 0 rfl
      intro d
      induction d with
      | zero =>
        intro i hi
        obtain rfl : i = 4 := by omega
        refine ev_iload_n (pc' := 65) (i := 3) dX5_init_64 rfl rfl rfl ?_
        refine ev_sipush (pc' := 68) (v := 256) dX5_init_65 rfl ks_256 ?_
        refine ev_icmp_ge (tgt := 124) (pc' := 71) dX5_init_68 rfl rfl (fun _ => ?_) (fun h => absurd (nx_le (a := 256) (b := (32 + 64 * 4)) (by omega) (by omega)) h)
        refine ev_iload_n (pc' := 125) (i := 1) dX5_init_124 rfl rfl rfl ?_
        refine ev_iconst (pc' := 126) (v := 2) dX5_init_125 rfl ki_2 ?_
        refine ev_idiv (pc' := 127) (v := 32) dX5_init_126 rfl (by decide) (by decide) ?_
        refine ev_istore_n (pc' := 128) (i := 1) (lv' := [some (.ref 26), some (.int 32), some (.int 32), some (.int (nI (32 + 64 * 4)))]) dX5_init_127 rfl rfl (Nat.le_of_ble_eq_true rfl) rfl rfl ?_
        refine ev_goto (tgt := 53) dX5_init_128 rfl ?_
        refine ev_iload_n (pc' := 54) (i := 1) dX5_init_53 rfl rfl rfl ?_
        refine ev_iconst (pc' := 55) (v := 1) dX5_init_54 rfl ki_1 ?_
        refine ev_icmp_le (tgt := 131) (pc' := 58) dX5_init_55 rfl rfl (fun h => absurd h (by decide)) (fun _ => ?_)
        refine ev_iload_n (pc' := 59) (i := 1) dX5_init_58 rfl rfl rfl ?_
        refine ev_iconst (pc' := 60) (v := 2) dX5_init_59 rfl ki_2 ?_
        refine ev_idiv (pc' := 61) (v := 16) dX5_init_60 rfl (by decide) (by decide) ?_
        refine ev_istore_n (pc' := 62) (i := 2) (lv' := [some (.ref 26), some (.int 32), some (.int 16), some (.int (nI (32 + 64 * 4)))]) dX5_init_61 rfl rfl (Nat.le_of_ble_eq_true rfl) rfl rfl ?_
        refine ev_iload_n (pc' := 63) (i := 2) dX5_init_62 rfl rfl rfl ?_
        refine ev_istore_n (pc' := 64) (i := 3) (lv' := [some (.ref 26), some (.int 32), some (.int 16), some (.int 16)]) dX5_init_63 rfl rfl (Nat.le_of_ble_eq_true rfl) rfl rfl ?_
        refine ev_memI (fun z hz0 => ?_)
        have hz0 : z = (ma_up (ma_up I 27 (tr 0 1 32 16 (16 + 32 * 0))) 28 (tr 1 0 32 16 (16 + 32 * 0))) := by rw [hz0, tr_n (a := 0) (st' := 32) (hf' := 16) (x' := 16 + 32 * 0) (by intro p hp; omega), tr_n (a := 1) (st' := 32) (hf' := 16) (x' := 16 + 32 * 0) (by intro p hp; omega)]
        subst hz0
        suffices lp : ∀ (d i : Nat), i + d = 8 → EV g yX5_init cX5_init 4 none rX5_init (ma_ZM g rX5_init Post) 64 [some (.ref 26), some (.int 32), some (.int 16), some (.int (nI (16 + 32 * i)))] [] (hsP 29) (ma_up (ma_up I 27 (tr 0 1 32 16 (16 + 32 * i))) 28 (tr 1 0 32 16 (16 + 32 * i))) L (rfL pR_27) 29 5 541 from lp 8 0 rfl
        intro d
        induction d with
        | zero =>
          intro i hi
          obtain rfl : i = 8 := by omega
          refine ev_iload_n (pc' := 65) (i := 3) dX5_init_64 rfl rfl rfl ?_
          refine ev_sipush (pc' := 68) (v := 256) dX5_init_65 rfl ks_256 ?_
          refine ev_icmp_ge (tgt := 124) (pc' := 71) dX5_init_68 rfl rfl (fun _ => ?_) (fun h => absurd (nx_le (a := 256) (b := (16 + 32 * 8)) (by omega) (by omega)) h)
          refine ev_iload_n (pc' := 125) (i := 1) dX5_init_124 rfl rfl rfl ?_
          refine ev_iconst (pc' := 126) (v := 2) dX5_init_125 rfl ki_2 ?_
          refine ev_idiv (pc' := 127) (v := 16) dX5_init_126 rfl (by decide) (by decide) ?_
          refine ev_istore_n (pc' := 128) (i := 1) (lv' := [some (.ref 26), some (.int 16), some (.int 16), some (.int (nI (16 + 32 * 8)))]) dX5_init_127 rfl rfl (Nat.le_of_ble_eq_true rfl) rfl rfl ?_
          refine ev_goto (tgt := 53) dX5_init_128 rfl ?_
          refine ev_iload_n (pc' := 54) (i := 1) dX5_init_53 rfl rfl rfl ?_
          refine ev_iconst (pc' := 55) (v := 1) dX5_init_54 rfl ki_1 ?_
          refine ev_icmp_le (tgt := 131) (pc' := 58) dX5_init_55 rfl rfl (fun h => absurd h (by decide)) (fun _ => ?_)
          refine ev_iload_n (pc' := 59) (i := 1) dX5_init_58 rfl rfl rfl ?_
          refine ev_iconst (pc' := 60) (v := 2) dX5_init_59 rfl ki_2 ?_
          refine ev_idiv (pc' := 61) (v := 8) dX5_init_60 rfl (by decide) (by decide) ?_
          refine ev_istore_n (pc' := 62) (i := 2) (lv' := [some (.ref 26), some (.int 16), some (.int 8), some (.int (nI (16 + 32 * 8)))]) dX5_init_61 rfl rfl (Nat.le_of_ble_eq_true rfl) rfl rfl ?_
          refine ev_iload_n (pc' := 63) (i := 2) dX5_init_62 rfl rfl rfl ?_
          refine ev_istore_n (pc' := 64) (i := 3) (lv' := [some (.ref 26), some (.int 16), some (.int 8), some (.int 8)]) dX5_init_63 rfl rfl (Nat.le_of_ble_eq_true rfl) rfl rfl ?_
          refine ev_memI (fun z hz0 => ?_)
          have hz0 : z = (ma_up (ma_up I 27 (tr 0 1 16 8 (8 + 16 * 0))) 28 (tr 1 0 16 8 (8 + 16 * 0))) := by rw [hz0, tr_n (a := 0) (st' := 16) (hf' := 8) (x' := 8 + 16 * 0) (by intro p hp; omega), tr_n (a := 1) (st' := 16) (hf' := 8) (x' := 8 + 16 * 0) (by intro p hp; omega)]
          subst hz0
          suffices lp : ∀ (d i : Nat), i + d = 16 → EV g yX5_init cX5_init 4 none rX5_init (ma_ZM g rX5_init Post) 64 [some (.ref 26), some (.int 16), some (.int 8), some (.int (nI (8 + 16 * i)))] [] (hsP 29) (ma_up (ma_up I 27 (tr 0 1 16 8 (8 + 16 * i))) 28 (tr 1 0 16 8 (8 + 16 * i))) L (rfL pR_27) 29 5 541 from lp 16 0 rfl
          intro d
          induction d with
          | zero =>
            intro i hi
            obtain rfl : i = 16 := by omega
            refine ev_iload_n (pc' := 65) (i := 3) dX5_init_64 rfl rfl rfl ?_
            refine ev_sipush (pc' := 68) (v := 256) dX5_init_65 rfl ks_256 ?_
            refine ev_icmp_ge (tgt := 124) (pc' := 71) dX5_init_68 rfl rfl (fun _ => ?_) (fun h => absurd (nx_le (a := 256) (b := (8 + 16 * 16)) (by omega) (by omega)) h)
            refine ev_iload_n (pc' := 125) (i := 1) dX5_init_124 rfl rfl rfl ?_
            refine ev_iconst (pc' := 126) (v := 2) dX5_init_125 rfl ki_2 ?_
            refine ev_idiv (pc' := 127) (v := 8) dX5_init_126 rfl (by decide) (by decide) ?_
            refine ev_istore_n (pc' := 128) (i := 1) (lv' := [some (.ref 26), some (.int 8), some (.int 8), some (.int (nI (8 + 16 * 16)))]) dX5_init_127 rfl rfl (Nat.le_of_ble_eq_true rfl) rfl rfl ?_
            refine ev_goto (tgt := 53) dX5_init_128 rfl ?_
            refine ev_iload_n (pc' := 54) (i := 1) dX5_init_53 rfl rfl rfl ?_
            refine ev_iconst (pc' := 55) (v := 1) dX5_init_54 rfl ki_1 ?_
            refine ev_icmp_le (tgt := 131) (pc' := 58) dX5_init_55 rfl rfl (fun h => absurd h (by decide)) (fun _ => ?_)
            refine ev_iload_n (pc' := 59) (i := 1) dX5_init_58 rfl rfl rfl ?_
            refine ev_iconst (pc' := 60) (v := 2) dX5_init_59 rfl ki_2 ?_
            refine ev_idiv (pc' := 61) (v := 4) dX5_init_60 rfl (by decide) (by decide) ?_
            refine ev_istore_n (pc' := 62) (i := 2) (lv' := [some (.ref 26), some (.int 8), some (.int 4), some (.int (nI (8 + 16 * 16)))]) dX5_init_61 rfl rfl (Nat.le_of_ble_eq_true rfl) rfl rfl ?_
            refine ev_iload_n (pc' := 63) (i := 2) dX5_init_62 rfl rfl rfl ?_
            refine ev_istore_n (pc' := 64) (i := 3) (lv' := [some (.ref 26), some (.int 8), some (.int 4), some (.int 4)]) dX5_init_63 rfl rfl (Nat.le_of_ble_eq_true rfl) rfl rfl ?_
            refine ev_memI (fun z hz0 => ?_)
            have hz0 : z = (ma_up (ma_up I 27 (tr 0 1 8 4 (4 + 8 * 0))) 28 (tr 1 0 8 4 (4 + 8 * 0))) := by rw [hz0, tr_n (a := 0) (st' := 8) (hf' := 4) (x' := 4 + 8 * 0) (by intro p hp; omega), tr_n (a := 1) (st' := 8) (hf' := 4) (x' := 4 + 8 * 0) (by intro p hp; omega)]
            subst hz0
            suffices lp : ∀ (d i : Nat), i + d = 32 → EV g yX5_init cX5_init 4 none rX5_init (ma_ZM g rX5_init Post) 64 [some (.ref 26), some (.int 8), some (.int 4), some (.int (nI (4 + 8 * i)))] [] (hsP 29) (ma_up (ma_up I 27 (tr 0 1 8 4 (4 + 8 * i))) 28 (tr 1 0 8 4 (4 + 8 * i))) L (rfL pR_27) 29 5 541 from lp 32 0 rfl
            intro d
            induction d with
            | zero =>
              intro i hi
              obtain rfl : i = 32 := by omega
              refine ev_iload_n (pc' := 65) (i := 3) dX5_init_64 rfl rfl rfl ?_
              refine ev_sipush (pc' := 68) (v := 256) dX5_init_65 rfl ks_256 ?_
              refine ev_icmp_ge (tgt := 124) (pc' := 71) dX5_init_68 rfl rfl (fun _ => ?_) (fun h => absurd (nx_le (a := 256) (b := (4 + 8 * 32)) (by omega) (by omega)) h)
              refine ev_iload_n (pc' := 125) (i := 1) dX5_init_124 rfl rfl rfl ?_
              refine ev_iconst (pc' := 126) (v := 2) dX5_init_125 rfl ki_2 ?_
              refine ev_idiv (pc' := 127) (v := 4) dX5_init_126 rfl (by decide) (by decide) ?_
              refine ev_istore_n (pc' := 128) (i := 1) (lv' := [some (.ref 26), some (.int 4), some (.int 4), some (.int (nI (4 + 8 * 32)))]) dX5_init_127 rfl rfl (Nat.le_of_ble_eq_true rfl) rfl rfl ?_
              refine ev_goto (tgt := 53) dX5_init_128 rfl ?_
              refine ev_iload_n (pc' := 54) (i := 1) dX5_init_53 rfl rfl rfl ?_
              refine ev_iconst (pc' := 55) (v := 1) dX5_init_54 rfl ki_1 ?_
              refine ev_icmp_le (tgt := 131) (pc' := 58) dX5_init_55 rfl rfl (fun h => absurd h (by decide)) (fun _ => ?_)
              refine ev_iload_n (pc' := 59) (i := 1) dX5_init_58 rfl rfl rfl ?_
              refine ev_iconst (pc' := 60) (v := 2) dX5_init_59 rfl ki_2 ?_
              refine ev_idiv (pc' := 61) (v := 2) dX5_init_60 rfl (by decide) (by decide) ?_
              refine ev_istore_n (pc' := 62) (i := 2) (lv' := [some (.ref 26), some (.int 4), some (.int 2), some (.int (nI (4 + 8 * 32)))]) dX5_init_61 rfl rfl (Nat.le_of_ble_eq_true rfl) rfl rfl ?_
              refine ev_iload_n (pc' := 63) (i := 2) dX5_init_62 rfl rfl rfl ?_
              refine ev_istore_n (pc' := 64) (i := 3) (lv' := [some (.ref 26), some (.int 4), some (.int 2), some (.int 2)]) dX5_init_63 rfl rfl (Nat.le_of_ble_eq_true rfl) rfl rfl ?_
              refine ev_memI (fun z hz0 => ?_)
              have hz0 : z = (ma_up (ma_up I 27 (tr 0 1 4 2 (2 + 4 * 0))) 28 (tr 1 0 4 2 (2 + 4 * 0))) := by rw [hz0, tr_n (a := 0) (st' := 4) (hf' := 2) (x' := 2 + 4 * 0) (by intro p hp; omega), tr_n (a := 1) (st' := 4) (hf' := 2) (x' := 2 + 4 * 0) (by intro p hp; omega)]
              subst hz0
              suffices lp : ∀ (d i : Nat), i + d = 64 → EV g yX5_init cX5_init 4 none rX5_init (ma_ZM g rX5_init Post) 64 [some (.ref 26), some (.int 4), some (.int 2), some (.int (nI (2 + 4 * i)))] [] (hsP 29) (ma_up (ma_up I 27 (tr 0 1 4 2 (2 + 4 * i))) 28 (tr 1 0 4 2 (2 + 4 * i))) L (rfL pR_27) 29 5 541 from lp 64 0 rfl
              intro d
              induction d with
              | zero =>
                intro i hi
                obtain rfl : i = 64 := by omega
                refine ev_iload_n (pc' := 65) (i := 3) dX5_init_64 rfl rfl rfl ?_
                refine ev_sipush (pc' := 68) (v := 256) dX5_init_65 rfl ks_256 ?_
                refine ev_icmp_ge (tgt := 124) (pc' := 71) dX5_init_68 rfl rfl (fun _ => ?_) (fun h => absurd (nx_le (a := 256) (b := (2 + 4 * 64)) (by omega) (by omega)) h)
                refine ev_iload_n (pc' := 125) (i := 1) dX5_init_124 rfl rfl rfl ?_
                refine ev_iconst (pc' := 126) (v := 2) dX5_init_125 rfl ki_2 ?_
                refine ev_idiv (pc' := 127) (v := 2) dX5_init_126 rfl (by decide) (by decide) ?_
                refine ev_istore_n (pc' := 128) (i := 1) (lv' := [some (.ref 26), some (.int 2), some (.int 2), some (.int (nI (2 + 4 * 64)))]) dX5_init_127 rfl rfl (Nat.le_of_ble_eq_true rfl) rfl rfl ?_
                refine ev_goto (tgt := 53) dX5_init_128 rfl ?_
                refine ev_iload_n (pc' := 54) (i := 1) dX5_init_53 rfl rfl rfl ?_
                refine ev_iconst (pc' := 55) (v := 1) dX5_init_54 rfl ki_1 ?_
                refine ev_icmp_le (tgt := 131) (pc' := 58) dX5_init_55 rfl rfl (fun h => absurd h (by decide)) (fun _ => ?_)
                refine ev_iload_n (pc' := 59) (i := 1) dX5_init_58 rfl rfl rfl ?_
                refine ev_iconst (pc' := 60) (v := 2) dX5_init_59 rfl ki_2 ?_
                refine ev_idiv (pc' := 61) (v := 1) dX5_init_60 rfl (by decide) (by decide) ?_
                refine ev_istore_n (pc' := 62) (i := 2) (lv' := [some (.ref 26), some (.int 2), some (.int 1), some (.int (nI (2 + 4 * 64)))]) dX5_init_61 rfl rfl (Nat.le_of_ble_eq_true rfl) rfl rfl ?_
                refine ev_iload_n (pc' := 63) (i := 2) dX5_init_62 rfl rfl rfl ?_
                refine ev_istore_n (pc' := 64) (i := 3) (lv' := [some (.ref 26), some (.int 2), some (.int 1), some (.int 1)]) dX5_init_63 rfl rfl (Nat.le_of_ble_eq_true rfl) rfl rfl ?_
                refine ev_memI (fun z hz0 => ?_)
                have hz0 : z = (ma_up (ma_up I 27 (tr 0 1 2 1 (1 + 2 * 0))) 28 (tr 1 0 2 1 (1 + 2 * 0))) := by rw [hz0, tr_n (a := 0) (st' := 2) (hf' := 1) (x' := 1 + 2 * 0) (by intro p hp; omega), tr_n (a := 1) (st' := 2) (hf' := 1) (x' := 1 + 2 * 0) (by intro p hp; omega)]
                subst hz0
                suffices lp : ∀ (d i : Nat), i + d = 128 → EV g yX5_init cX5_init 4 none rX5_init (ma_ZM g rX5_init Post) 64 [some (.ref 26), some (.int 2), some (.int 1), some (.int (nI (1 + 2 * i)))] [] (hsP 29) (ma_up (ma_up I 27 (tr 0 1 2 1 (1 + 2 * i))) 28 (tr 1 0 2 1 (1 + 2 * i))) L (rfL pR_27) 29 5 541 from lp 128 0 rfl
                intro d
                induction d with
                | zero =>
                  intro i hi
                  obtain rfl : i = 128 := by omega
                  refine ev_iload_n (pc' := 65) (i := 3) dX5_init_64 rfl rfl rfl ?_
                  refine ev_sipush (pc' := 68) (v := 256) dX5_init_65 rfl ks_256 ?_
                  refine ev_icmp_ge (tgt := 124) (pc' := 71) dX5_init_68 rfl rfl (fun _ => ?_) (fun h => absurd (nx_le (a := 256) (b := (1 + 2 * 128)) (by omega) (by omega)) h)
                  refine ev_iload_n (pc' := 125) (i := 1) dX5_init_124 rfl rfl rfl ?_
                  refine ev_iconst (pc' := 126) (v := 2) dX5_init_125 rfl ki_2 ?_
                  refine ev_idiv (pc' := 127) (v := 1) dX5_init_126 rfl (by decide) (by decide) ?_
                  refine ev_istore_n (pc' := 128) (i := 1) (lv' := [some (.ref 26), some (.int 1), some (.int 1), some (.int (nI (1 + 2 * 128)))]) dX5_init_127 rfl rfl (Nat.le_of_ble_eq_true rfl) rfl rfl ?_
                  refine ev_goto (tgt := 53) dX5_init_128 rfl ?_
                  refine ev_iload_n (pc' := 54) (i := 1) dX5_init_53 rfl rfl rfl ?_
                  refine ev_iconst (pc' := 55) (v := 1) dX5_init_54 rfl ki_1 ?_
                  refine ev_icmp_le (tgt := 131) (pc' := 58) dX5_init_55 rfl rfl (fun _ => ?_) (fun h => absurd (by decide) h)
                  refine ev_vret dX5_init_131 rfl ⟨Nat.le_refl _, Nat.le_refl _⟩ ?_
                  refine k _ _ (fun j hj => ?_) (fun j hj => ?_)
                  · exact if_pos ⟨hj, by omega⟩
                  · exact if_pos ⟨hj, by omega⟩
                | succ d ih =>
                  intro i hi
                  refine ev_iload_n (pc' := 65) (i := 3) dX5_init_64 rfl rfl rfl ?_
                  refine ev_sipush (pc' := 68) (v := 256) dX5_init_65 rfl ks_256 ?_
                  refine ev_icmp_ge (tgt := 124) (pc' := 71) dX5_init_68 rfl rfl (fun h => absurd h (nx_nle (a := 256) (b := (1 + 2 * i)) (by omega) (by omega))) (fun _ => ?_)
                  refine ev_aload_n (pc' := 72) (i := 0) dX5_init_71 rfl rfl rfl ?_
                  refine ev_getR (pc' := 75) fo_X5_9 dX5_init_72 rfl rfl rfl rfl ?_
                  refine ev_iload_n (pc' := 76) (i := 3) dX5_init_75 rfl rfl rfl ?_
                  refine ev_aload_n (pc' := 77) (i := 0) dX5_init_76 rfl rfl rfl ?_
                  refine ev_getR (pc' := 80) fo_X5_9 dX5_init_77 rfl rfl rfl rfl ?_
                  refine ev_iload_n (pc' := 81) (i := 3) dX5_init_80 rfl rfl rfl ?_
                  refine ev_iload_n (pc' := 82) (i := 2) dX5_init_81 rfl rfl rfl ?_
                  refine ev_isub (pc' := 83) (v := nI (2 * i)) dX5_init_82 rfl (nI_subc (2 * i) 1) ?_
                  refine ev_iald (pc' := 84) (j := 2 * i) (v := (tr 0 1 2 1 (1 + 2 * i)) (2 * i)) dX5_init_83 rfl rfl rfl (by omega) (Nat.le_of_ble_eq_true rfl) rfl ?_
                  refine ev_aload_n (pc' := 85) (i := 0) dX5_init_84 rfl rfl rfl ?_
                  refine ev_getR (pc' := 88) fo_X5_9 dX5_init_85 rfl rfl rfl rfl ?_
                  refine ev_iload_n (pc' := 89) (i := 3) dX5_init_88 rfl rfl rfl ?_
                  refine ev_iload_n (pc' := 90) (i := 2) dX5_init_89 rfl rfl rfl ?_
                  refine ev_iadd (pc' := 91) (v := nI ((1 + 2 * i) + 1)) dX5_init_90 rfl (nI_add (1 + 2 * i) 1) ?_
                  refine ev_iald (pc' := 92) (j := (1 + 2 * i) + 1) (v := (tr 0 1 2 1 (1 + 2 * i)) ((1 + 2 * i) + 1)) dX5_init_91 rfl rfl rfl (by omega) (Nat.le_of_ble_eq_true rfl) rfl ?_
                  refine ev_iadd (pc' := 93) (v := ((tr 0 1 2 1 (1 + 2 * i)) (2 * i)) + ((tr 0 1 2 1 (1 + 2 * i)) ((1 + 2 * i) + 1))) dX5_init_92 rfl rfl ?_
                  refine ev_iast (pc' := 94) (j := 1 + 2 * i) (I' := (ma_up (ma_up I 27 (ma_up (tr 0 1 2 1 (1 + 2 * i)) (1 + 2 * i) (((tr 0 1 2 1 (1 + 2 * i)) (2 * i)) + ((tr 0 1 2 1 (1 + 2 * i)) ((1 + 2 * i) + 1))))) 28 (tr 1 0 2 1 (1 + 2 * i)))) dX5_init_93 rfl rfl rfl (by omega) (Nat.le_of_ble_eq_true rfl) ((ma_up_comm _ (show 27 ≠ 28 from (by decide)) _ _).trans (congrArg (fun f => ma_up f 28 _) (ma_up_up _ _ _ _))) ?_
                  refine ev_aload_n (pc' := 95) (i := 0) dX5_init_94 rfl rfl rfl ?_
                  refine ev_getR (pc' := 98) fo_X5_15 dX5_init_95 rfl rfl rfl rfl ?_
                  refine ev_iload_n (pc' := 99) (i := 3) dX5_init_98 rfl rfl rfl ?_
                  refine ev_aload_n (pc' := 100) (i := 0) dX5_init_99 rfl rfl rfl ?_
                  refine ev_getR (pc' := 103) fo_X5_15 dX5_init_100 rfl rfl rfl rfl ?_
                  refine ev_iload_n (pc' := 104) (i := 3) dX5_init_103 rfl rfl rfl ?_
                  refine ev_iload_n (pc' := 105) (i := 2) dX5_init_104 rfl rfl rfl ?_
                  refine ev_isub (pc' := 106) (v := nI (2 * i)) dX5_init_105 rfl (nI_subc (2 * i) 1) ?_
                  refine ev_iald (pc' := 107) (j := 2 * i) (v := (tr 1 0 2 1 (1 + 2 * i)) (2 * i)) dX5_init_106 rfl rfl rfl (by omega) (Nat.le_of_ble_eq_true rfl) rfl ?_
                  refine ev_aload_n (pc' := 108) (i := 0) dX5_init_107 rfl rfl rfl ?_
                  refine ev_getR (pc' := 111) fo_X5_15 dX5_init_108 rfl rfl rfl rfl ?_
                  refine ev_iload_n (pc' := 112) (i := 3) dX5_init_111 rfl rfl rfl ?_
                  refine ev_iload_n (pc' := 113) (i := 2) dX5_init_112 rfl rfl rfl ?_
                  refine ev_iadd (pc' := 114) (v := nI ((1 + 2 * i) + 1)) dX5_init_113 rfl (nI_add (1 + 2 * i) 1) ?_
                  refine ev_iald (pc' := 115) (j := (1 + 2 * i) + 1) (v := (tr 1 0 2 1 (1 + 2 * i)) ((1 + 2 * i) + 1)) dX5_init_114 rfl rfl rfl (by omega) (Nat.le_of_ble_eq_true rfl) rfl ?_
                  refine ev_iadd (pc' := 116) (v := ((tr 1 0 2 1 (1 + 2 * i)) (2 * i)) + ((tr 1 0 2 1 (1 + 2 * i)) ((1 + 2 * i) + 1))) dX5_init_115 rfl rfl ?_
                  refine ev_iast (pc' := 117) (j := 1 + 2 * i) (I' := (ma_up (ma_up I 27 (ma_up (tr 0 1 2 1 (1 + 2 * i)) (1 + 2 * i) (((tr 0 1 2 1 (1 + 2 * i)) (2 * i)) + ((tr 0 1 2 1 (1 + 2 * i)) ((1 + 2 * i) + 1))))) 28 (ma_up (tr 1 0 2 1 (1 + 2 * i)) (1 + 2 * i) (((tr 1 0 2 1 (1 + 2 * i)) (2 * i)) + ((tr 1 0 2 1 (1 + 2 * i)) ((1 + 2 * i) + 1)))))) dX5_init_116 rfl rfl rfl (by omega) (Nat.le_of_ble_eq_true rfl) (ma_up_up _ _ _ _) ?_
                  refine ev_iload_n (pc' := 118) (i := 3) dX5_init_117 rfl rfl rfl ?_
                  refine ev_iload_n (pc' := 119) (i := 1) dX5_init_118 rfl rfl rfl ?_
                  refine ev_iadd (pc' := 120) (v := nI (1 + 2 * (i + 1))) dX5_init_119 rfl ((nI_add (1 + 2 * i) 2).trans (congrArg nI (by omega))) ?_
                  refine ev_istore_n (pc' := 121) (i := 3) (lv' := [some (.ref 26), some (.int 2), some (.int 1), some (.int (nI (1 + 2 * (i + 1))))]) dX5_init_120 rfl rfl (Nat.le_of_ble_eq_true rfl) rfl rfl ?_
                  refine ev_goto (tgt := 64) dX5_init_121 rfl ?_
                  refine ev_memI (fun z hz0 => ?_)
                  have hz0 : z = (ma_up (ma_up I 27 (tr 0 1 2 1 (1 + 2 * (i + 1)))) 28 (tr 1 0 2 1 (1 + 2 * (i + 1)))) := by rw [hz0, tr_s2 0 1 (show i < 128 by omega), tr_s2 1 0 (show i < 128 by omega)]
                  subst hz0
                  exact ih (i + 1) (by omega)
              | succ d ih =>
                intro i hi
                refine ev_iload_n (pc' := 65) (i := 3) dX5_init_64 rfl rfl rfl ?_
                refine ev_sipush (pc' := 68) (v := 256) dX5_init_65 rfl ks_256 ?_
                refine ev_icmp_ge (tgt := 124) (pc' := 71) dX5_init_68 rfl rfl (fun h => absurd h (nx_nle (a := 256) (b := (2 + 4 * i)) (by omega) (by omega))) (fun _ => ?_)
                refine ev_aload_n (pc' := 72) (i := 0) dX5_init_71 rfl rfl rfl ?_
                refine ev_getR (pc' := 75) fo_X5_9 dX5_init_72 rfl rfl rfl rfl ?_
                refine ev_iload_n (pc' := 76) (i := 3) dX5_init_75 rfl rfl rfl ?_
                refine ev_aload_n (pc' := 77) (i := 0) dX5_init_76 rfl rfl rfl ?_
                refine ev_getR (pc' := 80) fo_X5_9 dX5_init_77 rfl rfl rfl rfl ?_
                refine ev_iload_n (pc' := 81) (i := 3) dX5_init_80 rfl rfl rfl ?_
                refine ev_iload_n (pc' := 82) (i := 2) dX5_init_81 rfl rfl rfl ?_
                refine ev_isub (pc' := 83) (v := nI (4 * i)) dX5_init_82 rfl (nI_subc (4 * i) 2) ?_
                refine ev_iald (pc' := 84) (j := 4 * i) (v := (tr 0 1 4 2 (2 + 4 * i)) (4 * i)) dX5_init_83 rfl rfl rfl (by omega) (Nat.le_of_ble_eq_true rfl) rfl ?_
                refine ev_aload_n (pc' := 85) (i := 0) dX5_init_84 rfl rfl rfl ?_
                refine ev_getR (pc' := 88) fo_X5_9 dX5_init_85 rfl rfl rfl rfl ?_
                refine ev_iload_n (pc' := 89) (i := 3) dX5_init_88 rfl rfl rfl ?_
                refine ev_iload_n (pc' := 90) (i := 2) dX5_init_89 rfl rfl rfl ?_
                refine ev_iadd (pc' := 91) (v := nI ((2 + 4 * i) + 2)) dX5_init_90 rfl (nI_add (2 + 4 * i) 2) ?_
                refine ev_iald (pc' := 92) (j := (2 + 4 * i) + 2) (v := (tr 0 1 4 2 (2 + 4 * i)) ((2 + 4 * i) + 2)) dX5_init_91 rfl rfl rfl (by omega) (Nat.le_of_ble_eq_true rfl) rfl ?_
                refine ev_iadd (pc' := 93) (v := ((tr 0 1 4 2 (2 + 4 * i)) (4 * i)) + ((tr 0 1 4 2 (2 + 4 * i)) ((2 + 4 * i) + 2))) dX5_init_92 rfl rfl ?_
                refine ev_iast (pc' := 94) (j := 2 + 4 * i) (I' := (ma_up (ma_up I 27 (ma_up (tr 0 1 4 2 (2 + 4 * i)) (2 + 4 * i) (((tr 0 1 4 2 (2 + 4 * i)) (4 * i)) + ((tr 0 1 4 2 (2 + 4 * i)) ((2 + 4 * i) + 2))))) 28 (tr 1 0 4 2 (2 + 4 * i)))) dX5_init_93 rfl rfl rfl (by omega) (Nat.le_of_ble_eq_true rfl) ((ma_up_comm _ (show 27 ≠ 28 from (by decide)) _ _).trans (congrArg (fun f => ma_up f 28 _) (ma_up_up _ _ _ _))) ?_
                refine ev_aload_n (pc' := 95) (i := 0) dX5_init_94 rfl rfl rfl ?_
                refine ev_getR (pc' := 98) fo_X5_15 dX5_init_95 rfl rfl rfl rfl ?_
                refine ev_iload_n (pc' := 99) (i := 3) dX5_init_98 rfl rfl rfl ?_
                refine ev_aload_n (pc' := 100) (i := 0) dX5_init_99 rfl rfl rfl ?_
                refine ev_getR (pc' := 103) fo_X5_15 dX5_init_100 rfl rfl rfl rfl ?_
                refine ev_iload_n (pc' := 104) (i := 3) dX5_init_103 rfl rfl rfl ?_
                refine ev_iload_n (pc' := 105) (i := 2) dX5_init_104 rfl rfl rfl ?_
                refine ev_isub (pc' := 106) (v := nI (4 * i)) dX5_init_105 rfl (nI_subc (4 * i) 2) ?_
                refine ev_iald (pc' := 107) (j := 4 * i) (v := (tr 1 0 4 2 (2 + 4 * i)) (4 * i)) dX5_init_106 rfl rfl rfl (by omega) (Nat.le_of_ble_eq_true rfl) rfl ?_
                refine ev_aload_n (pc' := 108) (i := 0) dX5_init_107 rfl rfl rfl ?_
                refine ev_getR (pc' := 111) fo_X5_15 dX5_init_108 rfl rfl rfl rfl ?_
                refine ev_iload_n (pc' := 112) (i := 3) dX5_init_111 rfl rfl rfl ?_
                refine ev_iload_n (pc' := 113) (i := 2) dX5_init_112 rfl rfl rfl ?_
                refine ev_iadd (pc' := 114) (v := nI ((2 + 4 * i) + 2)) dX5_init_113 rfl (nI_add (2 + 4 * i) 2) ?_
                refine ev_iald (pc' := 115) (j := (2 + 4 * i) + 2) (v := (tr 1 0 4 2 (2 + 4 * i)) ((2 + 4 * i) + 2)) dX5_init_114 rfl rfl rfl (by omega) (Nat.le_of_ble_eq_true rfl) rfl ?_
                refine ev_iadd (pc' := 116) (v := ((tr 1 0 4 2 (2 + 4 * i)) (4 * i)) + ((tr 1 0 4 2 (2 + 4 * i)) ((2 + 4 * i) + 2))) dX5_init_115 rfl rfl ?_
                refine ev_iast (pc' := 117) (j := 2 + 4 * i) (I' := (ma_up (ma_up I 27 (ma_up (tr 0 1 4 2 (2 + 4 * i)) (2 + 4 * i) (((tr 0 1 4 2 (2 + 4 * i)) (4 * i)) + ((tr 0 1 4 2 (2 + 4 * i)) ((2 + 4 * i) + 2))))) 28 (ma_up (tr 1 0 4 2 (2 + 4 * i)) (2 + 4 * i) (((tr 1 0 4 2 (2 + 4 * i)) (4 * i)) + ((tr 1 0 4 2 (2 + 4 * i)) ((2 + 4 * i) + 2)))))) dX5_init_116 rfl rfl rfl (by omega) (Nat.le_of_ble_eq_true rfl) (ma_up_up _ _ _ _) ?_
                refine ev_iload_n (pc' := 118) (i := 3) dX5_init_117 rfl rfl rfl ?_
                refine ev_iload_n (pc' := 119) (i := 1) dX5_init_118 rfl rfl rfl ?_
                refine ev_iadd (pc' := 120) (v := nI (2 + 4 * (i + 1))) dX5_init_119 rfl ((nI_add (2 + 4 * i) 4).trans (congrArg nI (by omega))) ?_
                refine ev_istore_n (pc' := 121) (i := 3) (lv' := [some (.ref 26), some (.int 4), some (.int 2), some (.int (nI (2 + 4 * (i + 1))))]) dX5_init_120 rfl rfl (Nat.le_of_ble_eq_true rfl) rfl rfl ?_
                refine ev_goto (tgt := 64) dX5_init_121 rfl ?_
                refine ev_memI (fun z hz0 => ?_)
                have hz0 : z = (ma_up (ma_up I 27 (tr 0 1 4 2 (2 + 4 * (i + 1)))) 28 (tr 1 0 4 2 (2 + 4 * (i + 1)))) := by rw [hz0, tr_s4 0 1 (show i < 64 by omega), tr_s4 1 0 (show i < 64 by omega)]
                subst hz0
                exact ih (i + 1) (by omega)
            | succ d ih =>
              intro i hi
              refine ev_iload_n (pc' := 65) (i := 3) dX5_init_64 rfl rfl rfl ?_
              refine ev_sipush (pc' := 68) (v := 256) dX5_init_65 rfl ks_256 ?_
              refine ev_icmp_ge (tgt := 124) (pc' := 71) dX5_init_68 rfl rfl (fun h => absurd h (nx_nle (a := 256) (b := (4 + 8 * i)) (by omega) (by omega))) (fun _ => ?_)
              refine ev_aload_n (pc' := 72) (i := 0) dX5_init_71 rfl rfl rfl ?_
              refine ev_getR (pc' := 75) fo_X5_9 dX5_init_72 rfl rfl rfl rfl ?_
              refine ev_iload_n (pc' := 76) (i := 3) dX5_init_75 rfl rfl rfl ?_
              refine ev_aload_n (pc' := 77) (i := 0) dX5_init_76 rfl rfl rfl ?_
              refine ev_getR (pc' := 80) fo_X5_9 dX5_init_77 rfl rfl rfl rfl ?_
              refine ev_iload_n (pc' := 81) (i := 3) dX5_init_80 rfl rfl rfl ?_
              refine ev_iload_n (pc' := 82) (i := 2) dX5_init_81 rfl rfl rfl ?_
              refine ev_isub (pc' := 83) (v := nI (8 * i)) dX5_init_82 rfl (nI_subc (8 * i) 4) ?_
              refine ev_iald (pc' := 84) (j := 8 * i) (v := (tr 0 1 8 4 (4 + 8 * i)) (8 * i)) dX5_init_83 rfl rfl rfl (by omega) (Nat.le_of_ble_eq_true rfl) rfl ?_
              refine ev_aload_n (pc' := 85) (i := 0) dX5_init_84 rfl rfl rfl ?_
              refine ev_getR (pc' := 88) fo_X5_9 dX5_init_85 rfl rfl rfl rfl ?_
              refine ev_iload_n (pc' := 89) (i := 3) dX5_init_88 rfl rfl rfl ?_
              refine ev_iload_n (pc' := 90) (i := 2) dX5_init_89 rfl rfl rfl ?_
              refine ev_iadd (pc' := 91) (v := nI ((4 + 8 * i) + 4)) dX5_init_90 rfl (nI_add (4 + 8 * i) 4) ?_
              refine ev_iald (pc' := 92) (j := (4 + 8 * i) + 4) (v := (tr 0 1 8 4 (4 + 8 * i)) ((4 + 8 * i) + 4)) dX5_init_91 rfl rfl rfl (by omega) (Nat.le_of_ble_eq_true rfl) rfl ?_
              refine ev_iadd (pc' := 93) (v := ((tr 0 1 8 4 (4 + 8 * i)) (8 * i)) + ((tr 0 1 8 4 (4 + 8 * i)) ((4 + 8 * i) + 4))) dX5_init_92 rfl rfl ?_
              refine ev_iast (pc' := 94) (j := 4 + 8 * i) (I' := (ma_up (ma_up I 27 (ma_up (tr 0 1 8 4 (4 + 8 * i)) (4 + 8 * i) (((tr 0 1 8 4 (4 + 8 * i)) (8 * i)) + ((tr 0 1 8 4 (4 + 8 * i)) ((4 + 8 * i) + 4))))) 28 (tr 1 0 8 4 (4 + 8 * i)))) dX5_init_93 rfl rfl rfl (by omega) (Nat.le_of_ble_eq_true rfl) ((ma_up_comm _ (show 27 ≠ 28 from (by decide)) _ _).trans (congrArg (fun f => ma_up f 28 _) (ma_up_up _ _ _ _))) ?_
              refine ev_aload_n (pc' := 95) (i := 0) dX5_init_94 rfl rfl rfl ?_
              refine ev_getR (pc' := 98) fo_X5_15 dX5_init_95 rfl rfl rfl rfl ?_
              refine ev_iload_n (pc' := 99) (i := 3) dX5_init_98 rfl rfl rfl ?_
              refine ev_aload_n (pc' := 100) (i := 0) dX5_init_99 rfl rfl rfl ?_
              refine ev_getR (pc' := 103) fo_X5_15 dX5_init_100 rfl rfl rfl rfl ?_
              refine ev_iload_n (pc' := 104) (i := 3) dX5_init_103 rfl rfl rfl ?_
              refine ev_iload_n (pc' := 105) (i := 2) dX5_init_104 rfl rfl rfl ?_
              refine ev_isub (pc' := 106) (v := nI (8 * i)) dX5_init_105 rfl (nI_subc (8 * i) 4) ?_
              refine ev_iald (pc' := 107) (j := 8 * i) (v := (tr 1 0 8 4 (4 + 8 * i)) (8 * i)) dX5_init_106 rfl rfl rfl (by omega) (Nat.le_of_ble_eq_true rfl) rfl ?_
              refine ev_aload_n (pc' := 108) (i := 0) dX5_init_107 rfl rfl rfl ?_
              refine ev_getR (pc' := 111) fo_X5_15 dX5_init_108 rfl rfl rfl rfl ?_
              refine ev_iload_n (pc' := 112) (i := 3) dX5_init_111 rfl rfl rfl ?_
              refine ev_iload_n (pc' := 113) (i := 2) dX5_init_112 rfl rfl rfl ?_
              refine ev_iadd (pc' := 114) (v := nI ((4 + 8 * i) + 4)) dX5_init_113 rfl (nI_add (4 + 8 * i) 4) ?_
              refine ev_iald (pc' := 115) (j := (4 + 8 * i) + 4) (v := (tr 1 0 8 4 (4 + 8 * i)) ((4 + 8 * i) + 4)) dX5_init_114 rfl rfl rfl (by omega) (Nat.le_of_ble_eq_true rfl) rfl ?_
              refine ev_iadd (pc' := 116) (v := ((tr 1 0 8 4 (4 + 8 * i)) (8 * i)) + ((tr 1 0 8 4 (4 + 8 * i)) ((4 + 8 * i) + 4))) dX5_init_115 rfl rfl ?_
              refine ev_iast (pc' := 117) (j := 4 + 8 * i) (I' := (ma_up (ma_up I 27 (ma_up (tr 0 1 8 4 (4 + 8 * i)) (4 + 8 * i) (((tr 0 1 8 4 (4 + 8 * i)) (8 * i)) + ((tr 0 1 8 4 (4 + 8 * i)) ((4 + 8 * i) + 4))))) 28 (ma_up (tr 1 0 8 4 (4 + 8 * i)) (4 + 8 * i) (((tr 1 0 8 4 (4 + 8 * i)) (8 * i)) + ((tr 1 0 8 4 (4 + 8 * i)) ((4 + 8 * i) + 4)))))) dX5_init_116 rfl rfl rfl (by omega) (Nat.le_of_ble_eq_true rfl) (ma_up_up _ _ _ _) ?_
              refine ev_iload_n (pc' := 118) (i := 3) dX5_init_117 rfl rfl rfl ?_
              refine ev_iload_n (pc' := 119) (i := 1) dX5_init_118 rfl rfl rfl ?_
              refine ev_iadd (pc' := 120) (v := nI (4 + 8 * (i + 1))) dX5_init_119 rfl ((nI_add (4 + 8 * i) 8).trans (congrArg nI (by omega))) ?_
              refine ev_istore_n (pc' := 121) (i := 3) (lv' := [some (.ref 26), some (.int 8), some (.int 4), some (.int (nI (4 + 8 * (i + 1))))]) dX5_init_120 rfl rfl (Nat.le_of_ble_eq_true rfl) rfl rfl ?_
              refine ev_goto (tgt := 64) dX5_init_121 rfl ?_
              refine ev_memI (fun z hz0 => ?_)
              have hz0 : z = (ma_up (ma_up I 27 (tr 0 1 8 4 (4 + 8 * (i + 1)))) 28 (tr 1 0 8 4 (4 + 8 * (i + 1)))) := by rw [hz0, tr_s8 0 1 (show i < 32 by omega), tr_s8 1 0 (show i < 32 by omega)]
              subst hz0
              exact ih (i + 1) (by omega)
          | succ d ih =>
            intro i hi
            refine ev_iload_n (pc' := 65) (i := 3) dX5_init_64 rfl rfl rfl ?_
            refine ev_sipush (pc' := 68) (v := 256) dX5_init_65 rfl ks_256 ?_
            refine ev_icmp_ge (tgt := 124) (pc' := 71) dX5_init_68 rfl rfl (fun h => absurd h (nx_nle (a := 256) (b := (8 + 16 * i)) (by omega) (by omega))) (fun _ => ?_)
            refine ev_aload_n (pc' := 72) (i := 0) dX5_init_71 rfl rfl rfl ?_
            refine ev_getR (pc' := 75) fo_X5_9 dX5_init_72 rfl rfl rfl rfl ?_
            refine ev_iload_n (pc' := 76) (i := 3) dX5_init_75 rfl rfl rfl ?_
            refine ev_aload_n (pc' := 77) (i := 0) dX5_init_76 rfl rfl rfl ?_
            refine ev_getR (pc' := 80) fo_X5_9 dX5_init_77 rfl rfl rfl rfl ?_
            refine ev_iload_n (pc' := 81) (i := 3) dX5_init_80 rfl rfl rfl ?_
            refine ev_iload_n (pc' := 82) (i := 2) dX5_init_81 rfl rfl rfl ?_
            refine ev_isub (pc' := 83) (v := nI (16 * i)) dX5_init_82 rfl (nI_subc (16 * i) 8) ?_
            refine ev_iald (pc' := 84) (j := 16 * i) (v := (tr 0 1 16 8 (8 + 16 * i)) (16 * i)) dX5_init_83 rfl rfl rfl (by omega) (Nat.le_of_ble_eq_true rfl) rfl ?_
            refine ev_aload_n (pc' := 85) (i := 0) dX5_init_84 rfl rfl rfl ?_
            refine ev_getR (pc' := 88) fo_X5_9 dX5_init_85 rfl rfl rfl rfl ?_
            refine ev_iload_n (pc' := 89) (i := 3) dX5_init_88 rfl rfl rfl ?_
            refine ev_iload_n (pc' := 90) (i := 2) dX5_init_89 rfl rfl rfl ?_
            refine ev_iadd (pc' := 91) (v := nI ((8 + 16 * i) + 8)) dX5_init_90 rfl (nI_add (8 + 16 * i) 8) ?_
            refine ev_iald (pc' := 92) (j := (8 + 16 * i) + 8) (v := (tr 0 1 16 8 (8 + 16 * i)) ((8 + 16 * i) + 8)) dX5_init_91 rfl rfl rfl (by omega) (Nat.le_of_ble_eq_true rfl) rfl ?_
            refine ev_iadd (pc' := 93) (v := ((tr 0 1 16 8 (8 + 16 * i)) (16 * i)) + ((tr 0 1 16 8 (8 + 16 * i)) ((8 + 16 * i) + 8))) dX5_init_92 rfl rfl ?_
            refine ev_iast (pc' := 94) (j := 8 + 16 * i) (I' := (ma_up (ma_up I 27 (ma_up (tr 0 1 16 8 (8 + 16 * i)) (8 + 16 * i) (((tr 0 1 16 8 (8 + 16 * i)) (16 * i)) + ((tr 0 1 16 8 (8 + 16 * i)) ((8 + 16 * i) + 8))))) 28 (tr 1 0 16 8 (8 + 16 * i)))) dX5_init_93 rfl rfl rfl (by omega) (Nat.le_of_ble_eq_true rfl) ((ma_up_comm _ (show 27 ≠ 28 from (by decide)) _ _).trans (congrArg (fun f => ma_up f 28 _) (ma_up_up _ _ _ _))) ?_
            refine ev_aload_n (pc' := 95) (i := 0) dX5_init_94 rfl rfl rfl ?_
            refine ev_getR (pc' := 98) fo_X5_15 dX5_init_95 rfl rfl rfl rfl ?_
            refine ev_iload_n (pc' := 99) (i := 3) dX5_init_98 rfl rfl rfl ?_
            refine ev_aload_n (pc' := 100) (i := 0) dX5_init_99 rfl rfl rfl ?_
            refine ev_getR (pc' := 103) fo_X5_15 dX5_init_100 rfl rfl rfl rfl ?_
            refine ev_iload_n (pc' := 104) (i := 3) dX5_init_103 rfl rfl rfl ?_
            refine ev_iload_n (pc' := 105) (i := 2) dX5_init_104 rfl rfl rfl ?_
            refine ev_isub (pc' := 106) (v := nI (16 * i)) dX5_init_105 rfl (nI_subc (16 * i) 8) ?_
            refine ev_iald (pc' := 107) (j := 16 * i) (v := (tr 1 0 16 8 (8 + 16 * i)) (16 * i)) dX5_init_106 rfl rfl rfl (by omega) (Nat.le_of_ble_eq_true rfl) rfl ?_
            refine ev_aload_n (pc' := 108) (i := 0) dX5_init_107 rfl rfl rfl ?_
            refine ev_getR (pc' := 111) fo_X5_15 dX5_init_108 rfl rfl rfl rfl ?_
            refine ev_iload_n (pc' := 112) (i := 3) dX5_init_111 rfl rfl rfl ?_
            refine ev_iload_n (pc' := 113) (i := 2) dX5_init_112 rfl rfl rfl ?_
            refine ev_iadd (pc' := 114) (v := nI ((8 + 16 * i) + 8)) dX5_init_113 rfl (nI_add (8 + 16 * i) 8) ?_
            refine ev_iald (pc' := 115) (j := (8 + 16 * i) + 8) (v := (tr 1 0 16 8 (8 + 16 * i)) ((8 + 16 * i) + 8)) dX5_init_114 rfl rfl rfl (by omega) (Nat.le_of_ble_eq_true rfl) rfl ?_
            refine ev_iadd (pc' := 116) (v := ((tr 1 0 16 8 (8 + 16 * i)) (16 * i)) + ((tr 1 0 16 8 (8 + 16 * i)) ((8 + 16 * i) + 8))) dX5_init_115 rfl rfl ?_
            refine ev_iast (pc' := 117) (j := 8 + 16 * i) (I' := (ma_up (ma_up I 27 (ma_up (tr 0 1 16 8 (8 + 16 * i)) (8 + 16 * i) (((tr 0 1 16 8 (8 + 16 * i)) (16 * i)) + ((tr 0 1 16 8 (8 + 16 * i)) ((8 + 16 * i) + 8))))) 28 (ma_up (tr 1 0 16 8 (8 + 16 * i)) (8 + 16 * i) (((tr 1 0 16 8 (8 + 16 * i)) (16 * i)) + ((tr 1 0 16 8 (8 + 16 * i)) ((8 + 16 * i) + 8)))))) dX5_init_116 rfl rfl rfl (by omega) (Nat.le_of_ble_eq_true rfl) (ma_up_up _ _ _ _) ?_
            refine ev_iload_n (pc' := 118) (i := 3) dX5_init_117 rfl rfl rfl ?_
            refine ev_iload_n (pc' := 119) (i := 1) dX5_init_118 rfl rfl rfl ?_
            refine ev_iadd (pc' := 120) (v := nI (8 + 16 * (i + 1))) dX5_init_119 rfl ((nI_add (8 + 16 * i) 16).trans (congrArg nI (by omega))) ?_
            refine ev_istore_n (pc' := 121) (i := 3) (lv' := [some (.ref 26), some (.int 16), some (.int 8), some (.int (nI (8 + 16 * (i + 1))))]) dX5_init_120 rfl rfl (Nat.le_of_ble_eq_true rfl) rfl rfl ?_
            refine ev_goto (tgt := 64) dX5_init_121 rfl ?_
            refine ev_memI (fun z hz0 => ?_)
            have hz0 : z = (ma_up (ma_up I 27 (tr 0 1 16 8 (8 + 16 * (i + 1)))) 28 (tr 1 0 16 8 (8 + 16 * (i + 1)))) := by rw [hz0, tr_s16 0 1 (show i < 16 by omega), tr_s16 1 0 (show i < 16 by omega)]
            subst hz0
            exact ih (i + 1) (by omega)
        | succ d ih =>
          intro i hi
          refine ev_iload_n (pc' := 65) (i := 3) dX5_init_64 rfl rfl rfl ?_
          refine ev_sipush (pc' := 68) (v := 256) dX5_init_65 rfl ks_256 ?_
          refine ev_icmp_ge (tgt := 124) (pc' := 71) dX5_init_68 rfl rfl (fun h => absurd h (nx_nle (a := 256) (b := (16 + 32 * i)) (by omega) (by omega))) (fun _ => ?_)
          refine ev_aload_n (pc' := 72) (i := 0) dX5_init_71 rfl rfl rfl ?_
          refine ev_getR (pc' := 75) fo_X5_9 dX5_init_72 rfl rfl rfl rfl ?_
          refine ev_iload_n (pc' := 76) (i := 3) dX5_init_75 rfl rfl rfl ?_
          refine ev_aload_n (pc' := 77) (i := 0) dX5_init_76 rfl rfl rfl ?_
          refine ev_getR (pc' := 80) fo_X5_9 dX5_init_77 rfl rfl rfl rfl ?_
          refine ev_iload_n (pc' := 81) (i := 3) dX5_init_80 rfl rfl rfl ?_
          refine ev_iload_n (pc' := 82) (i := 2) dX5_init_81 rfl rfl rfl ?_
          refine ev_isub (pc' := 83) (v := nI (32 * i)) dX5_init_82 rfl (nI_subc (32 * i) 16) ?_
          refine ev_iald (pc' := 84) (j := 32 * i) (v := (tr 0 1 32 16 (16 + 32 * i)) (32 * i)) dX5_init_83 rfl rfl rfl (by omega) (Nat.le_of_ble_eq_true rfl) rfl ?_
          refine ev_aload_n (pc' := 85) (i := 0) dX5_init_84 rfl rfl rfl ?_
          refine ev_getR (pc' := 88) fo_X5_9 dX5_init_85 rfl rfl rfl rfl ?_
          refine ev_iload_n (pc' := 89) (i := 3) dX5_init_88 rfl rfl rfl ?_
          refine ev_iload_n (pc' := 90) (i := 2) dX5_init_89 rfl rfl rfl ?_
          refine ev_iadd (pc' := 91) (v := nI ((16 + 32 * i) + 16)) dX5_init_90 rfl (nI_add (16 + 32 * i) 16) ?_
          refine ev_iald (pc' := 92) (j := (16 + 32 * i) + 16) (v := (tr 0 1 32 16 (16 + 32 * i)) ((16 + 32 * i) + 16)) dX5_init_91 rfl rfl rfl (by omega) (Nat.le_of_ble_eq_true rfl) rfl ?_
          refine ev_iadd (pc' := 93) (v := ((tr 0 1 32 16 (16 + 32 * i)) (32 * i)) + ((tr 0 1 32 16 (16 + 32 * i)) ((16 + 32 * i) + 16))) dX5_init_92 rfl rfl ?_
          refine ev_iast (pc' := 94) (j := 16 + 32 * i) (I' := (ma_up (ma_up I 27 (ma_up (tr 0 1 32 16 (16 + 32 * i)) (16 + 32 * i) (((tr 0 1 32 16 (16 + 32 * i)) (32 * i)) + ((tr 0 1 32 16 (16 + 32 * i)) ((16 + 32 * i) + 16))))) 28 (tr 1 0 32 16 (16 + 32 * i)))) dX5_init_93 rfl rfl rfl (by omega) (Nat.le_of_ble_eq_true rfl) ((ma_up_comm _ (show 27 ≠ 28 from (by decide)) _ _).trans (congrArg (fun f => ma_up f 28 _) (ma_up_up _ _ _ _))) ?_
          refine ev_aload_n (pc' := 95) (i := 0) dX5_init_94 rfl rfl rfl ?_
          refine ev_getR (pc' := 98) fo_X5_15 dX5_init_95 rfl rfl rfl rfl ?_
          refine ev_iload_n (pc' := 99) (i := 3) dX5_init_98 rfl rfl rfl ?_
          refine ev_aload_n (pc' := 100) (i := 0) dX5_init_99 rfl rfl rfl ?_
          refine ev_getR (pc' := 103) fo_X5_15 dX5_init_100 rfl rfl rfl rfl ?_
          refine ev_iload_n (pc' := 104) (i := 3) dX5_init_103 rfl rfl rfl ?_
          refine ev_iload_n (pc' := 105) (i := 2) dX5_init_104 rfl rfl rfl ?_
          refine ev_isub (pc' := 106) (v := nI (32 * i)) dX5_init_105 rfl (nI_subc (32 * i) 16) ?_
          refine ev_iald (pc' := 107) (j := 32 * i) (v := (tr 1 0 32 16 (16 + 32 * i)) (32 * i)) dX5_init_106 rfl rfl rfl (by omega) (Nat.le_of_ble_eq_true rfl) rfl ?_
          refine ev_aload_n (pc' := 108) (i := 0) dX5_init_107 rfl rfl rfl ?_
          refine ev_getR (pc' := 111) fo_X5_15 dX5_init_108 rfl rfl rfl rfl ?_
          refine ev_iload_n (pc' := 112) (i := 3) dX5_init_111 rfl rfl rfl ?_
          refine ev_iload_n (pc' := 113) (i := 2) dX5_init_112 rfl rfl rfl ?_
          refine ev_iadd (pc' := 114) (v := nI ((16 + 32 * i) + 16)) dX5_init_113 rfl (nI_add (16 + 32 * i) 16) ?_
          refine ev_iald (pc' := 115) (j := (16 + 32 * i) + 16) (v := (tr 1 0 32 16 (16 + 32 * i)) ((16 + 32 * i) + 16)) dX5_init_114 rfl rfl rfl (by omega) (Nat.le_of_ble_eq_true rfl) rfl ?_
          refine ev_iadd (pc' := 116) (v := ((tr 1 0 32 16 (16 + 32 * i)) (32 * i)) + ((tr 1 0 32 16 (16 + 32 * i)) ((16 + 32 * i) + 16))) dX5_init_115 rfl rfl ?_
          refine ev_iast (pc' := 117) (j := 16 + 32 * i) (I' := (ma_up (ma_up I 27 (ma_up (tr 0 1 32 16 (16 + 32 * i)) (16 + 32 * i) (((tr 0 1 32 16 (16 + 32 * i)) (32 * i)) + ((tr 0 1 32 16 (16 + 32 * i)) ((16 + 32 * i) + 16))))) 28 (ma_up (tr 1 0 32 16 (16 + 32 * i)) (16 + 32 * i) (((tr 1 0 32 16 (16 + 32 * i)) (32 * i)) + ((tr 1 0 32 16 (16 + 32 * i)) ((16 + 32 * i) + 16)))))) dX5_init_116 rfl rfl rfl (by omega) (Nat.le_of_ble_eq_true rfl) (ma_up_up _ _ _ _) ?_
          refine ev_iload_n (pc' := 118) (i := 3) dX5_init_117 rfl rfl rfl ?_
          refine ev_iload_n (pc' := 119) (i := 1) dX5_init_118 rfl rfl rfl ?_
          refine ev_iadd (pc' := 120) (v := nI (16 + 32 * (i + 1))) dX5_init_119 rfl ((nI_add (16 + 32 * i) 32).trans (congrArg nI (by omega))) ?_
          refine ev_istore_n (pc' := 121) (i := 3) (lv' := [some (.ref 26), some (.int 32), some (.int 16), some (.int (nI (16 + 32 * (i + 1))))]) dX5_init_120 rfl rfl (Nat.le_of_ble_eq_true rfl) rfl rfl ?_
          refine ev_goto (tgt := 64) dX5_init_121 rfl ?_
          refine ev_memI (fun z hz0 => ?_)
          have hz0 : z = (ma_up (ma_up I 27 (tr 0 1 32 16 (16 + 32 * (i + 1)))) 28 (tr 1 0 32 16 (16 + 32 * (i + 1)))) := by rw [hz0, tr_s32 0 1 (show i < 8 by omega), tr_s32 1 0 (show i < 8 by omega)]
          subst hz0
          exact ih (i + 1) (by omega)
      | succ d ih =>
        intro i hi
        refine ev_iload_n (pc' := 65) (i := 3) dX5_init_64 rfl rfl rfl ?_
        refine ev_sipush (pc' := 68) (v := 256) dX5_init_65 rfl ks_256 ?_
        refine ev_icmp_ge (tgt := 124) (pc' := 71) dX5_init_68 rfl rfl (fun h => absurd h (nx_nle (a := 256) (b := (32 + 64 * i)) (by omega) (by omega))) (fun _ => ?_)
        refine ev_aload_n (pc' := 72) (i := 0) dX5_init_71 rfl rfl rfl ?_
        refine ev_getR (pc' := 75) fo_X5_9 dX5_init_72 rfl rfl rfl rfl ?_
        refine ev_iload_n (pc' := 76) (i := 3) dX5_init_75 rfl rfl rfl ?_
        refine ev_aload_n (pc' := 77) (i := 0) dX5_init_76 rfl rfl rfl ?_
        refine ev_getR (pc' := 80) fo_X5_9 dX5_init_77 rfl rfl rfl rfl ?_
        refine ev_iload_n (pc' := 81) (i := 3) dX5_init_80 rfl rfl rfl ?_
        refine ev_iload_n (pc' := 82) (i := 2) dX5_init_81 rfl rfl rfl ?_
        refine ev_isub (pc' := 83) (v := nI (64 * i)) dX5_init_82 rfl (nI_subc (64 * i) 32) ?_
        refine ev_iald (pc' := 84) (j := 64 * i) (v := (tr 0 1 64 32 (32 + 64 * i)) (64 * i)) dX5_init_83 rfl rfl rfl (by omega) (Nat.le_of_ble_eq_true rfl) rfl ?_
        refine ev_aload_n (pc' := 85) (i := 0) dX5_init_84 rfl rfl rfl ?_
        refine ev_getR (pc' := 88) fo_X5_9 dX5_init_85 rfl rfl rfl rfl ?_
        refine ev_iload_n (pc' := 89) (i := 3) dX5_init_88 rfl rfl rfl ?_
        refine ev_iload_n (pc' := 90) (i := 2) dX5_init_89 rfl rfl rfl ?_
        refine ev_iadd (pc' := 91) (v := nI ((32 + 64 * i) + 32)) dX5_init_90 rfl (nI_add (32 + 64 * i) 32) ?_
        refine ev_iald (pc' := 92) (j := (32 + 64 * i) + 32) (v := (tr 0 1 64 32 (32 + 64 * i)) ((32 + 64 * i) + 32)) dX5_init_91 rfl rfl rfl (by omega) (Nat.le_of_ble_eq_true rfl) rfl ?_
        refine ev_iadd (pc' := 93) (v := ((tr 0 1 64 32 (32 + 64 * i)) (64 * i)) + ((tr 0 1 64 32 (32 + 64 * i)) ((32 + 64 * i) + 32))) dX5_init_92 rfl rfl ?_
        refine ev_iast (pc' := 94) (j := 32 + 64 * i) (I' := (ma_up (ma_up I 27 (ma_up (tr 0 1 64 32 (32 + 64 * i)) (32 + 64 * i) (((tr 0 1 64 32 (32 + 64 * i)) (64 * i)) + ((tr 0 1 64 32 (32 + 64 * i)) ((32 + 64 * i) + 32))))) 28 (tr 1 0 64 32 (32 + 64 * i)))) dX5_init_93 rfl rfl rfl (by omega) (Nat.le_of_ble_eq_true rfl) ((ma_up_comm _ (show 27 ≠ 28 from (by decide)) _ _).trans (congrArg (fun f => ma_up f 28 _) (ma_up_up _ _ _ _))) ?_
        refine ev_aload_n (pc' := 95) (i := 0) dX5_init_94 rfl rfl rfl ?_
        refine ev_getR (pc' := 98) fo_X5_15 dX5_init_95 rfl rfl rfl rfl ?_
        refine ev_iload_n (pc' := 99) (i := 3) dX5_init_98 rfl rfl rfl ?_
        refine ev_aload_n (pc' := 100) (i := 0) dX5_init_99 rfl rfl rfl ?_
        refine ev_getR (pc' := 103) fo_X5_15 dX5_init_100 rfl rfl rfl rfl ?_
        refine ev_iload_n (pc' := 104) (i := 3) dX5_init_103 rfl rfl rfl ?_
        refine ev_iload_n (pc' := 105) (i := 2) dX5_init_104 rfl rfl rfl ?_
        refine ev_isub (pc' := 106) (v := nI (64 * i)) dX5_init_105 rfl (nI_subc (64 * i) 32) ?_
        refine ev_iald (pc' := 107) (j := 64 * i) (v := (tr 1 0 64 32 (32 + 64 * i)) (64 * i)) dX5_init_106 rfl rfl rfl (by omega) (Nat.le_of_ble_eq_true rfl) rfl ?_
        refine ev_aload_n (pc' := 108) (i := 0) dX5_init_107 rfl rfl rfl ?_
        refine ev_getR (pc' := 111) fo_X5_15 dX5_init_108 rfl rfl rfl rfl ?_
        refine ev_iload_n (pc' := 112) (i := 3) dX5_init_111 rfl rfl rfl ?_
        refine ev_iload_n (pc' := 113) (i := 2) dX5_init_112 rfl rfl rfl ?_
        refine ev_iadd (pc' := 114) (v := nI ((32 + 64 * i) + 32)) dX5_init_113 rfl (nI_add (32 + 64 * i) 32) ?_
        refine ev_iald (pc' := 115) (j := (32 + 64 * i) + 32) (v := (tr 1 0 64 32 (32 + 64 * i)) ((32 + 64 * i) + 32)) dX5_init_114 rfl rfl rfl (by omega) (Nat.le_of_ble_eq_true rfl) rfl ?_
        refine ev_iadd (pc' := 116) (v := ((tr 1 0 64 32 (32 + 64 * i)) (64 * i)) + ((tr 1 0 64 32 (32 + 64 * i)) ((32 + 64 * i) + 32))) dX5_init_115 rfl rfl ?_
        refine ev_iast (pc' := 117) (j := 32 + 64 * i) (I' := (ma_up (ma_up I 27 (ma_up (tr 0 1 64 32 (32 + 64 * i)) (32 + 64 * i) (((tr 0 1 64 32 (32 + 64 * i)) (64 * i)) + ((tr 0 1 64 32 (32 + 64 * i)) ((32 + 64 * i) + 32))))) 28 (ma_up (tr 1 0 64 32 (32 + 64 * i)) (32 + 64 * i) (((tr 1 0 64 32 (32 + 64 * i)) (64 * i)) + ((tr 1 0 64 32 (32 + 64 * i)) ((32 + 64 * i) + 32)))))) dX5_init_116 rfl rfl rfl (by omega) (Nat.le_of_ble_eq_true rfl) (ma_up_up _ _ _ _) ?_
        refine ev_iload_n (pc' := 118) (i := 3) dX5_init_117 rfl rfl rfl ?_
        refine ev_iload_n (pc' := 119) (i := 1) dX5_init_118 rfl rfl rfl ?_
        refine ev_iadd (pc' := 120) (v := nI (32 + 64 * (i + 1))) dX5_init_119 rfl ((nI_add (32 + 64 * i) 64).trans (congrArg nI (by omega))) ?_
        refine ev_istore_n (pc' := 121) (i := 3) (lv' := [some (.ref 26), some (.int 64), some (.int 32), some (.int (nI (32 + 64 * (i + 1))))]) dX5_init_120 rfl rfl (Nat.le_of_ble_eq_true rfl) rfl rfl ?_
        refine ev_goto (tgt := 64) dX5_init_121 rfl ?_
        refine ev_memI (fun z hz0 => ?_)
        have hz0 : z = (ma_up (ma_up I 27 (tr 0 1 64 32 (32 + 64 * (i + 1)))) 28 (tr 1 0 64 32 (32 + 64 * (i + 1)))) := by rw [hz0, tr_s64 0 1 (show i < 4 by omega), tr_s64 1 0 (show i < 4 by omega)]
        subst hz0
        exact ih (i + 1) (by omega)
    | succ d ih =>
      intro i hi
      refine ev_iload_n (pc' := 65) (i := 3) dX5_init_64 rfl rfl rfl ?_
      refine ev_sipush (pc' := 68) (v := 256) dX5_init_65 rfl ks_256 ?_
      refine ev_icmp_ge (tgt := 124) (pc' := 71) dX5_init_68 rfl rfl (fun h => absurd h (nx_nle (a := 256) (b := (64 + 128 * i)) (by omega) (by omega))) (fun _ => ?_)
      refine ev_aload_n (pc' := 72) (i := 0) dX5_init_71 rfl rfl rfl ?_
      refine ev_getR (pc' := 75) fo_X5_9 dX5_init_72 rfl rfl rfl rfl ?_
      refine ev_iload_n (pc' := 76) (i := 3) dX5_init_75 rfl rfl rfl ?_
      refine ev_aload_n (pc' := 77) (i := 0) dX5_init_76 rfl rfl rfl ?_
      refine ev_getR (pc' := 80) fo_X5_9 dX5_init_77 rfl rfl rfl rfl ?_
      refine ev_iload_n (pc' := 81) (i := 3) dX5_init_80 rfl rfl rfl ?_
      refine ev_iload_n (pc' := 82) (i := 2) dX5_init_81 rfl rfl rfl ?_
      refine ev_isub (pc' := 83) (v := nI (128 * i)) dX5_init_82 rfl (nI_subc (128 * i) 64) ?_
      refine ev_iald (pc' := 84) (j := 128 * i) (v := (tr 0 1 128 64 (64 + 128 * i)) (128 * i)) dX5_init_83 rfl rfl rfl (by omega) (Nat.le_of_ble_eq_true rfl) rfl ?_
      refine ev_aload_n (pc' := 85) (i := 0) dX5_init_84 rfl rfl rfl ?_
      refine ev_getR (pc' := 88) fo_X5_9 dX5_init_85 rfl rfl rfl rfl ?_
      refine ev_iload_n (pc' := 89) (i := 3) dX5_init_88 rfl rfl rfl ?_
      refine ev_iload_n (pc' := 90) (i := 2) dX5_init_89 rfl rfl rfl ?_
      refine ev_iadd (pc' := 91) (v := nI ((64 + 128 * i) + 64)) dX5_init_90 rfl (nI_add (64 + 128 * i) 64) ?_
      refine ev_iald (pc' := 92) (j := (64 + 128 * i) + 64) (v := (tr 0 1 128 64 (64 + 128 * i)) ((64 + 128 * i) + 64)) dX5_init_91 rfl rfl rfl (by omega) (Nat.le_of_ble_eq_true rfl) rfl ?_
      refine ev_iadd (pc' := 93) (v := ((tr 0 1 128 64 (64 + 128 * i)) (128 * i)) + ((tr 0 1 128 64 (64 + 128 * i)) ((64 + 128 * i) + 64))) dX5_init_92 rfl rfl ?_
      refine ev_iast (pc' := 94) (j := 64 + 128 * i) (I' := (ma_up (ma_up I 27 (ma_up (tr 0 1 128 64 (64 + 128 * i)) (64 + 128 * i) (((tr 0 1 128 64 (64 + 128 * i)) (128 * i)) + ((tr 0 1 128 64 (64 + 128 * i)) ((64 + 128 * i) + 64))))) 28 (tr 1 0 128 64 (64 + 128 * i)))) dX5_init_93 rfl rfl rfl (by omega) (Nat.le_of_ble_eq_true rfl) ((ma_up_comm _ (show 27 ≠ 28 from (by decide)) _ _).trans (congrArg (fun f => ma_up f 28 _) (ma_up_up _ _ _ _))) ?_
      refine ev_aload_n (pc' := 95) (i := 0) dX5_init_94 rfl rfl rfl ?_
      refine ev_getR (pc' := 98) fo_X5_15 dX5_init_95 rfl rfl rfl rfl ?_
      refine ev_iload_n (pc' := 99) (i := 3) dX5_init_98 rfl rfl rfl ?_
      refine ev_aload_n (pc' := 100) (i := 0) dX5_init_99 rfl rfl rfl ?_
      refine ev_getR (pc' := 103) fo_X5_15 dX5_init_100 rfl rfl rfl rfl ?_
      refine ev_iload_n (pc' := 104) (i := 3) dX5_init_103 rfl rfl rfl ?_
      refine ev_iload_n (pc' := 105) (i := 2) dX5_init_104 rfl rfl rfl ?_
      refine ev_isub (pc' := 106) (v := nI (128 * i)) dX5_init_105 rfl (nI_subc (128 * i) 64) ?_
      refine ev_iald (pc' := 107) (j := 128 * i) (v := (tr 1 0 128 64 (64 + 128 * i)) (128 * i)) dX5_init_106 rfl rfl rfl (by omega) (Nat.le_of_ble_eq_true rfl) rfl ?_
      refine ev_aload_n (pc' := 108) (i := 0) dX5_init_107 rfl rfl rfl ?_
      refine ev_getR (pc' := 111) fo_X5_15 dX5_init_108 rfl rfl rfl rfl ?_
      refine ev_iload_n (pc' := 112) (i := 3) dX5_init_111 rfl rfl rfl ?_
      refine ev_iload_n (pc' := 113) (i := 2) dX5_init_112 rfl rfl rfl ?_
      refine ev_iadd (pc' := 114) (v := nI ((64 + 128 * i) + 64)) dX5_init_113 rfl (nI_add (64 + 128 * i) 64) ?_
      refine ev_iald (pc' := 115) (j := (64 + 128 * i) + 64) (v := (tr 1 0 128 64 (64 + 128 * i)) ((64 + 128 * i) + 64)) dX5_init_114 rfl rfl rfl (by omega) (Nat.le_of_ble_eq_true rfl) rfl ?_
      refine ev_iadd (pc' := 116) (v := ((tr 1 0 128 64 (64 + 128 * i)) (128 * i)) + ((tr 1 0 128 64 (64 + 128 * i)) ((64 + 128 * i) + 64))) dX5_init_115 rfl rfl ?_
      refine ev_iast (pc' := 117) (j := 64 + 128 * i) (I' := (ma_up (ma_up I 27 (ma_up (tr 0 1 128 64 (64 + 128 * i)) (64 + 128 * i) (((tr 0 1 128 64 (64 + 128 * i)) (128 * i)) + ((tr 0 1 128 64 (64 + 128 * i)) ((64 + 128 * i) + 64))))) 28 (ma_up (tr 1 0 128 64 (64 + 128 * i)) (64 + 128 * i) (((tr 1 0 128 64 (64 + 128 * i)) (128 * i)) + ((tr 1 0 128 64 (64 + 128 * i)) ((64 + 128 * i) + 64)))))) dX5_init_116 rfl rfl rfl (by omega) (Nat.le_of_ble_eq_true rfl) (ma_up_up _ _ _ _) ?_
      refine ev_iload_n (pc' := 118) (i := 3) dX5_init_117 rfl rfl rfl ?_
      refine ev_iload_n (pc' := 119) (i := 1) dX5_init_118 rfl rfl rfl ?_
      refine ev_iadd (pc' := 120) (v := nI (64 + 128 * (i + 1))) dX5_init_119 rfl ((nI_add (64 + 128 * i) 128).trans (congrArg nI (by omega))) ?_
      refine ev_istore_n (pc' := 121) (i := 3) (lv' := [some (.ref 26), some (.int 128), some (.int 64), some (.int (nI (64 + 128 * (i + 1))))]) dX5_init_120 rfl rfl (Nat.le_of_ble_eq_true rfl) rfl rfl ?_
      refine ev_goto (tgt := 64) dX5_init_121 rfl ?_
      refine ev_memI (fun z hz0 => ?_)
      have hz0 : z = (ma_up (ma_up I 27 (tr 0 1 128 64 (64 + 128 * (i + 1)))) 28 (tr 1 0 128 64 (64 + 128 * (i + 1)))) := by rw [hz0, tr_s128 0 1 (show i < 2 by omega), tr_s128 1 0 (show i < 2 by omega)]
      subst hz0
      exact ih (i + 1) (by omega)
  | succ d ih =>
    intro i hi
    refine ev_iload_n (pc' := 65) (i := 3) dX5_init_64 rfl rfl rfl ?_
    refine ev_sipush (pc' := 68) (v := 256) dX5_init_65 rfl ks_256 ?_
    refine ev_icmp_ge (tgt := 124) (pc' := 71) dX5_init_68 rfl rfl (fun h => absurd h (nx_nle (a := 256) (b := (128 + 256 * i)) (by omega) (by omega))) (fun _ => ?_)
    refine ev_aload_n (pc' := 72) (i := 0) dX5_init_71 rfl rfl rfl ?_
    refine ev_getR (pc' := 75) fo_X5_9 dX5_init_72 rfl rfl rfl rfl ?_
    refine ev_iload_n (pc' := 76) (i := 3) dX5_init_75 rfl rfl rfl ?_
    refine ev_aload_n (pc' := 77) (i := 0) dX5_init_76 rfl rfl rfl ?_
    refine ev_getR (pc' := 80) fo_X5_9 dX5_init_77 rfl rfl rfl rfl ?_
    refine ev_iload_n (pc' := 81) (i := 3) dX5_init_80 rfl rfl rfl ?_
    refine ev_iload_n (pc' := 82) (i := 2) dX5_init_81 rfl rfl rfl ?_
    refine ev_isub (pc' := 83) (v := nI (256 * i)) dX5_init_82 rfl (nI_subc (256 * i) 128) ?_
    refine ev_iald (pc' := 84) (j := 256 * i) (v := (tr 0 1 256 128 (128 + 256 * i)) (256 * i)) dX5_init_83 rfl rfl rfl (by omega) (Nat.le_of_ble_eq_true rfl) rfl ?_
    refine ev_aload_n (pc' := 85) (i := 0) dX5_init_84 rfl rfl rfl ?_
    refine ev_getR (pc' := 88) fo_X5_9 dX5_init_85 rfl rfl rfl rfl ?_
    refine ev_iload_n (pc' := 89) (i := 3) dX5_init_88 rfl rfl rfl ?_
    refine ev_iload_n (pc' := 90) (i := 2) dX5_init_89 rfl rfl rfl ?_
    refine ev_iadd (pc' := 91) (v := nI ((128 + 256 * i) + 128)) dX5_init_90 rfl (nI_add (128 + 256 * i) 128) ?_
    refine ev_iald (pc' := 92) (j := (128 + 256 * i) + 128) (v := (tr 0 1 256 128 (128 + 256 * i)) ((128 + 256 * i) + 128)) dX5_init_91 rfl rfl rfl (by omega) (Nat.le_of_ble_eq_true rfl) rfl ?_
    refine ev_iadd (pc' := 93) (v := ((tr 0 1 256 128 (128 + 256 * i)) (256 * i)) + ((tr 0 1 256 128 (128 + 256 * i)) ((128 + 256 * i) + 128))) dX5_init_92 rfl rfl ?_
    refine ev_iast (pc' := 94) (j := 128 + 256 * i) (I' := (ma_up (ma_up I 27 (ma_up (tr 0 1 256 128 (128 + 256 * i)) (128 + 256 * i) (((tr 0 1 256 128 (128 + 256 * i)) (256 * i)) + ((tr 0 1 256 128 (128 + 256 * i)) ((128 + 256 * i) + 128))))) 28 (tr 1 0 256 128 (128 + 256 * i)))) dX5_init_93 rfl rfl rfl (by omega) (Nat.le_of_ble_eq_true rfl) ((ma_up_comm _ (show 27 ≠ 28 from (by decide)) _ _).trans (congrArg (fun f => ma_up f 28 _) (ma_up_up _ _ _ _))) ?_
    refine ev_aload_n (pc' := 95) (i := 0) dX5_init_94 rfl rfl rfl ?_
    refine ev_getR (pc' := 98) fo_X5_15 dX5_init_95 rfl rfl rfl rfl ?_
    refine ev_iload_n (pc' := 99) (i := 3) dX5_init_98 rfl rfl rfl ?_
    refine ev_aload_n (pc' := 100) (i := 0) dX5_init_99 rfl rfl rfl ?_
    refine ev_getR (pc' := 103) fo_X5_15 dX5_init_100 rfl rfl rfl rfl ?_
    refine ev_iload_n (pc' := 104) (i := 3) dX5_init_103 rfl rfl rfl ?_
    refine ev_iload_n (pc' := 105) (i := 2) dX5_init_104 rfl rfl rfl ?_
    refine ev_isub (pc' := 106) (v := nI (256 * i)) dX5_init_105 rfl (nI_subc (256 * i) 128) ?_
    refine ev_iald (pc' := 107) (j := 256 * i) (v := (tr 1 0 256 128 (128 + 256 * i)) (256 * i)) dX5_init_106 rfl rfl rfl (by omega) (Nat.le_of_ble_eq_true rfl) rfl ?_
    refine ev_aload_n (pc' := 108) (i := 0) dX5_init_107 rfl rfl rfl ?_
    refine ev_getR (pc' := 111) fo_X5_15 dX5_init_108 rfl rfl rfl rfl ?_
    refine ev_iload_n (pc' := 112) (i := 3) dX5_init_111 rfl rfl rfl ?_
    refine ev_iload_n (pc' := 113) (i := 2) dX5_init_112 rfl rfl rfl ?_
    refine ev_iadd (pc' := 114) (v := nI ((128 + 256 * i) + 128)) dX5_init_113 rfl (nI_add (128 + 256 * i) 128) ?_
    refine ev_iald (pc' := 115) (j := (128 + 256 * i) + 128) (v := (tr 1 0 256 128 (128 + 256 * i)) ((128 + 256 * i) + 128)) dX5_init_114 rfl rfl rfl (by omega) (Nat.le_of_ble_eq_true rfl) rfl ?_
    refine ev_iadd (pc' := 116) (v := ((tr 1 0 256 128 (128 + 256 * i)) (256 * i)) + ((tr 1 0 256 128 (128 + 256 * i)) ((128 + 256 * i) + 128))) dX5_init_115 rfl rfl ?_
    refine ev_iast (pc' := 117) (j := 128 + 256 * i) (I' := (ma_up (ma_up I 27 (ma_up (tr 0 1 256 128 (128 + 256 * i)) (128 + 256 * i) (((tr 0 1 256 128 (128 + 256 * i)) (256 * i)) + ((tr 0 1 256 128 (128 + 256 * i)) ((128 + 256 * i) + 128))))) 28 (ma_up (tr 1 0 256 128 (128 + 256 * i)) (128 + 256 * i) (((tr 1 0 256 128 (128 + 256 * i)) (256 * i)) + ((tr 1 0 256 128 (128 + 256 * i)) ((128 + 256 * i) + 128)))))) dX5_init_116 rfl rfl rfl (by omega) (Nat.le_of_ble_eq_true rfl) (ma_up_up _ _ _ _) ?_
    refine ev_iload_n (pc' := 118) (i := 3) dX5_init_117 rfl rfl rfl ?_
    refine ev_iload_n (pc' := 119) (i := 1) dX5_init_118 rfl rfl rfl ?_
    refine ev_iadd (pc' := 120) (v := nI (128 + 256 * (i + 1))) dX5_init_119 rfl ((nI_add (128 + 256 * i) 256).trans (congrArg nI (by omega))) ?_
    refine ev_istore_n (pc' := 121) (i := 3) (lv' := [some (.ref 26), some (.int 256), some (.int 128), some (.int (nI (128 + 256 * (i + 1))))]) dX5_init_120 rfl rfl (Nat.le_of_ble_eq_true rfl) rfl rfl ?_
    refine ev_goto (tgt := 64) dX5_init_121 rfl ?_
    refine ev_memI (fun z hz0 => ?_)
    have hz0 : z = (ma_up (ma_up I 27 (tr 0 1 256 128 (128 + 256 * (i + 1)))) 28 (tr 1 0 256 128 (128 + 256 * (i + 1)))) := by rw [hz0, tr_s256 0 1 (show i < 1 by omega), tr_s256 1 0 (show i < 1 by omega)]
    subst hz0
    exact ih (i + 1) (by omega)
def pR_28 : List (Nat × Nat × Nat) := (3, 5, 26) :: pR_27
def pR_29 : List (Nat × Nat × Nat) := (32, 0, 33) :: pR_28
set_option maxRecDepth 4000 in
theorem t_X2_init_32 {g : ma_G} {Post : ma_P} {I : ma_I} {L : ma_L} (hz : zP 30 I) (hl : zP 30 L) (k : Post none (hsP 31) I L (rfL pR_29) 31) : CT g yX2_init cX2_init 1 none rX2_init [.ref 32] Post (hsP 30) I L (rfL pR_28) 30 := by
  refine ct_of (lv := [some (.ref 32)]) (by decide) (Nat.le_of_ble_eq_true rfl) rfl ?_
  refine ev_aload_n (pc' := 1) (i := 0) dX2_init_0 rfl rfl rfl ?_
  refine ev_obj (pc' := 4) ob_X2_3 dX2_init_1 rfl ob_i ob_c (Nat.le_of_ble_eq_true rfl) (Nat.le_of_ble_eq_true rfl) ?_
  refine ev_aload_n (pc' := 5) (i := 0) dX2_init_4 rfl rfl rfl ?_
  refine ev_sipush (pc' := 8) (v := 300) dX2_init_5 rfl ks_300 ?_
  refine en_I (pc' := 10) (N := 300) (a' := 33) (n' := 31) (ce' := 1) (sl' := 300) (zP_le hz (Nat.le_of_ble_eq_true rfl)) (zP_le hl (Nat.le_of_ble_eq_true rfl)) rfl rfl dX2_init_8 rfl rfl (Nat.le_of_ble_eq_true rfl) ⟨(Nat.le_of_ble_eq_true rfl), (Nat.le_of_ble_eq_true rfl)⟩ rfl rfl rfl rfl ?_
  refine ev_putF (pc' := 13) (R' := rfL pR_29) fo_X2_9 dX2_init_10 rfl rfl rfl rfl (fun r hr => by cases hr; exact ⟨rfl, rfl⟩) (fun q => ⟨rfl, rfl⟩) rfl ?_
  refine ev_vret dX2_init_13 rfl ⟨Nat.le_refl _, Nat.le_refl _⟩ ?_
  exact k
def pR_30 : List (Nat × Nat × Nat) := (3, 6, 32) :: pR_29
def pR_31 : List (Nat × Nat × Nat) := (3, 7, 34) :: pR_30
def pR_32 : List (Nat × Nat × Nat) := (3, 8, 35) :: pR_31
def pR_33 : List (Nat × Nat × Nat) := (3, 9, 36) :: pR_32
def pR_34 : List (Nat × Nat × Nat) := (3, 11, 37) :: pR_33
def pR_35 : List (Nat × Nat × Nat) := (3, 17, 38) :: pR_34
def pR_36 : List (Nat × Nat × Nat) := (39, 0, 40) :: pR_35
set_option maxRecDepth 4000 in
theorem t_X3_init_39 {g : ma_G} {Post : ma_P} {I : ma_I} {L : ma_L} (hz : zP 37 I) (hl : zP 37 L) (k : Post none (hsP 38) (cSz I 39) L (rfL pR_36) 38) : CT g yX3_init cX3_init 1 none rX3_init [.ref 39] Post (hsP 37) I L (rfL pR_35) 37 := by
  refine ct_of (lv := [some (.ref 39)]) (by decide) (Nat.le_of_ble_eq_true rfl) rfl ?_
  refine ev_aload_n (pc' := 1) (i := 0) dX3_init_0 rfl rfl rfl ?_
  refine ev_obj (pc' := 4) ob_X3_3 dX3_init_1 rfl ob_i ob_c (Nat.le_of_ble_eq_true rfl) (Nat.le_of_ble_eq_true rfl) ?_
  refine ev_aload_n (pc' := 5) (i := 0) dX3_init_4 rfl rfl rfl ?_
  refine ev_bipush (pc' := 7) (v := 16) dX3_init_5 rfl kb_16 ?_
  refine en_I (pc' := 9) (N := 16) (a' := 40) (n' := 38) (ce' := 1) (sl' := 16) (zP_le hz (Nat.le_of_ble_eq_true rfl)) (zP_le hl (Nat.le_of_ble_eq_true rfl)) rfl rfl dX3_init_7 rfl rfl (Nat.le_of_ble_eq_true rfl) ⟨(Nat.le_of_ble_eq_true rfl), (Nat.le_of_ble_eq_true rfl)⟩ rfl rfl rfl rfl ?_
  refine ev_putF (pc' := 12) (R' := rfL pR_36) fo_X3_9 dX3_init_9 rfl rfl rfl rfl (fun r hr => by cases hr; exact ⟨rfl, rfl⟩) (fun q => ⟨rfl, rfl⟩) rfl ?_
  refine ev_aload_n (pc' := 13) (i := 0) dX3_init_12 rfl rfl rfl ?_
  refine ev_iconst (pc' := 14) (v := (-1)) dX3_init_13 rfl ki_m1 ?_
  refine ev_putI (pc' := 17) (I' := (ma_up I 39 (ma_up (I 39) 1 (-1)))) fo_X3_15 dX3_init_14 rfl rfl rfl (fun r hr => by cases hr; rfl) ⟨rfl, rfl⟩ rfl ?_
  refine ev_vret dX3_init_17 rfl ⟨Nat.le_refl _, Nat.le_refl _⟩ ?_
  exact k
def pR_37 : List (Nat × Nat × Nat) := (4, 0, 39) :: pR_36
def pR_38 : List (Nat × Nat × Nat) := (41, 0, 42) :: pR_37
set_option maxRecDepth 4000 in
theorem t_X3_init_41 {g : ma_G} {Post : ma_P} {I : ma_I} {L : ma_L} (hz : zP 39 I) (hl : zP 39 L) (k : Post none (hsP 40) (cSz I 41) L (rfL pR_38) 40) : CT g yX3_init cX3_init 1 none rX3_init [.ref 41] Post (hsP 39) I L (rfL pR_37) 39 := by
  refine ct_of (lv := [some (.ref 41)]) (by decide) (Nat.le_of_ble_eq_true rfl) rfl ?_
  refine ev_aload_n (pc' := 1) (i := 0) dX3_init_0 rfl rfl rfl ?_
  refine ev_obj (pc' := 4) ob_X3_3 dX3_init_1 rfl ob_i ob_c (Nat.le_of_ble_eq_true rfl) (Nat.le_of_ble_eq_true rfl) ?_
  refine ev_aload_n (pc' := 5) (i := 0) dX3_init_4 rfl rfl rfl ?_
  refine ev_bipush (pc' := 7) (v := 16) dX3_init_5 rfl kb_16 ?_
  refine en_I (pc' := 9) (N := 16) (a' := 42) (n' := 40) (ce' := 1) (sl' := 16) (zP_le hz (Nat.le_of_ble_eq_true rfl)) (zP_le hl (Nat.le_of_ble_eq_true rfl)) rfl rfl dX3_init_7 rfl rfl (Nat.le_of_ble_eq_true rfl) ⟨(Nat.le_of_ble_eq_true rfl), (Nat.le_of_ble_eq_true rfl)⟩ rfl rfl rfl rfl ?_
  refine ev_putF (pc' := 12) (R' := rfL pR_38) fo_X3_9 dX3_init_9 rfl rfl rfl rfl (fun r hr => by cases hr; exact ⟨rfl, rfl⟩) (fun q => ⟨rfl, rfl⟩) rfl ?_
  refine ev_aload_n (pc' := 13) (i := 0) dX3_init_12 rfl rfl rfl ?_
  refine ev_iconst (pc' := 14) (v := (-1)) dX3_init_13 rfl ki_m1 ?_
  refine ev_putI (pc' := 17) (I' := (ma_up I 41 (ma_up (I 41) 1 (-1)))) fo_X3_15 dX3_init_14 rfl rfl rfl (fun r hr => by cases hr; rfl) ⟨rfl, rfl⟩ rfl ?_
  refine ev_vret dX3_init_17 rfl ⟨Nat.le_refl _, Nat.le_refl _⟩ ?_
  exact k
def pR_39 : List (Nat × Nat × Nat) := (4, 1, 41) :: pR_38
def pR_40 : List (Nat × Nat × Nat) := (43, 0, 44) :: pR_39
set_option maxRecDepth 4000 in
theorem t_X3_init_43 {g : ma_G} {Post : ma_P} {I : ma_I} {L : ma_L} (hz : zP 41 I) (hl : zP 41 L) (k : Post none (hsP 42) (cSz I 43) L (rfL pR_40) 42) : CT g yX3_init cX3_init 1 none rX3_init [.ref 43] Post (hsP 41) I L (rfL pR_39) 41 := by
  refine ct_of (lv := [some (.ref 43)]) (by decide) (Nat.le_of_ble_eq_true rfl) rfl ?_
  refine ev_aload_n (pc' := 1) (i := 0) dX3_init_0 rfl rfl rfl ?_
  refine ev_obj (pc' := 4) ob_X3_3 dX3_init_1 rfl ob_i ob_c (Nat.le_of_ble_eq_true rfl) (Nat.le_of_ble_eq_true rfl) ?_
  refine ev_aload_n (pc' := 5) (i := 0) dX3_init_4 rfl rfl rfl ?_
  refine ev_bipush (pc' := 7) (v := 16) dX3_init_5 rfl kb_16 ?_
  refine en_I (pc' := 9) (N := 16) (a' := 44) (n' := 42) (ce' := 1) (sl' := 16) (zP_le hz (Nat.le_of_ble_eq_true rfl)) (zP_le hl (Nat.le_of_ble_eq_true rfl)) rfl rfl dX3_init_7 rfl rfl (Nat.le_of_ble_eq_true rfl) ⟨(Nat.le_of_ble_eq_true rfl), (Nat.le_of_ble_eq_true rfl)⟩ rfl rfl rfl rfl ?_
  refine ev_putF (pc' := 12) (R' := rfL pR_40) fo_X3_9 dX3_init_9 rfl rfl rfl rfl (fun r hr => by cases hr; exact ⟨rfl, rfl⟩) (fun q => ⟨rfl, rfl⟩) rfl ?_
  refine ev_aload_n (pc' := 13) (i := 0) dX3_init_12 rfl rfl rfl ?_
  refine ev_iconst (pc' := 14) (v := (-1)) dX3_init_13 rfl ki_m1 ?_
  refine ev_putI (pc' := 17) (I' := (ma_up I 43 (ma_up (I 43) 1 (-1)))) fo_X3_15 dX3_init_14 rfl rfl rfl (fun r hr => by cases hr; rfl) ⟨rfl, rfl⟩ rfl ?_
  refine ev_vret dX3_init_17 rfl ⟨Nat.le_refl _, Nat.le_refl _⟩ ?_
  exact k
def pR_41 : List (Nat × Nat × Nat) := (4, 2, 43) :: pR_40
def pR_42 : List (Nat × Nat × Nat) := (45, 0, 46) :: pR_41
set_option maxRecDepth 4000 in
theorem t_X3_init_45 {g : ma_G} {Post : ma_P} {I : ma_I} {L : ma_L} (hz : zP 43 I) (hl : zP 43 L) (k : Post none (hsP 44) (cSz I 45) L (rfL pR_42) 44) : CT g yX3_init cX3_init 1 none rX3_init [.ref 45] Post (hsP 43) I L (rfL pR_41) 43 := by
  refine ct_of (lv := [some (.ref 45)]) (by decide) (Nat.le_of_ble_eq_true rfl) rfl ?_
  refine ev_aload_n (pc' := 1) (i := 0) dX3_init_0 rfl rfl rfl ?_
  refine ev_obj (pc' := 4) ob_X3_3 dX3_init_1 rfl ob_i ob_c (Nat.le_of_ble_eq_true rfl) (Nat.le_of_ble_eq_true rfl) ?_
  refine ev_aload_n (pc' := 5) (i := 0) dX3_init_4 rfl rfl rfl ?_
  refine ev_bipush (pc' := 7) (v := 16) dX3_init_5 rfl kb_16 ?_
  refine en_I (pc' := 9) (N := 16) (a' := 46) (n' := 44) (ce' := 1) (sl' := 16) (zP_le hz (Nat.le_of_ble_eq_true rfl)) (zP_le hl (Nat.le_of_ble_eq_true rfl)) rfl rfl dX3_init_7 rfl rfl (Nat.le_of_ble_eq_true rfl) ⟨(Nat.le_of_ble_eq_true rfl), (Nat.le_of_ble_eq_true rfl)⟩ rfl rfl rfl rfl ?_
  refine ev_putF (pc' := 12) (R' := rfL pR_42) fo_X3_9 dX3_init_9 rfl rfl rfl rfl (fun r hr => by cases hr; exact ⟨rfl, rfl⟩) (fun q => ⟨rfl, rfl⟩) rfl ?_
  refine ev_aload_n (pc' := 13) (i := 0) dX3_init_12 rfl rfl rfl ?_
  refine ev_iconst (pc' := 14) (v := (-1)) dX3_init_13 rfl ki_m1 ?_
  refine ev_putI (pc' := 17) (I' := (ma_up I 45 (ma_up (I 45) 1 (-1)))) fo_X3_15 dX3_init_14 rfl rfl rfl (fun r hr => by cases hr; rfl) ⟨rfl, rfl⟩ rfl ?_
  refine ev_vret dX3_init_17 rfl ⟨Nat.le_refl _, Nat.le_refl _⟩ ?_
  exact k
def pR_43 : List (Nat × Nat × Nat) := (4, 3, 45) :: pR_42
def pR_44 : List (Nat × Nat × Nat) := (47, 0, 48) :: pR_43
set_option maxRecDepth 4000 in
theorem t_X3_init_47 {g : ma_G} {Post : ma_P} {I : ma_I} {L : ma_L} (hz : zP 45 I) (hl : zP 45 L) (k : Post none (hsP 46) (cSz I 47) L (rfL pR_44) 46) : CT g yX3_init cX3_init 1 none rX3_init [.ref 47] Post (hsP 45) I L (rfL pR_43) 45 := by
  refine ct_of (lv := [some (.ref 47)]) (by decide) (Nat.le_of_ble_eq_true rfl) rfl ?_
  refine ev_aload_n (pc' := 1) (i := 0) dX3_init_0 rfl rfl rfl ?_
  refine ev_obj (pc' := 4) ob_X3_3 dX3_init_1 rfl ob_i ob_c (Nat.le_of_ble_eq_true rfl) (Nat.le_of_ble_eq_true rfl) ?_
  refine ev_aload_n (pc' := 5) (i := 0) dX3_init_4 rfl rfl rfl ?_
  refine ev_bipush (pc' := 7) (v := 16) dX3_init_5 rfl kb_16 ?_
  refine en_I (pc' := 9) (N := 16) (a' := 48) (n' := 46) (ce' := 1) (sl' := 16) (zP_le hz (Nat.le_of_ble_eq_true rfl)) (zP_le hl (Nat.le_of_ble_eq_true rfl)) rfl rfl dX3_init_7 rfl rfl (Nat.le_of_ble_eq_true rfl) ⟨(Nat.le_of_ble_eq_true rfl), (Nat.le_of_ble_eq_true rfl)⟩ rfl rfl rfl rfl ?_
  refine ev_putF (pc' := 12) (R' := rfL pR_44) fo_X3_9 dX3_init_9 rfl rfl rfl rfl (fun r hr => by cases hr; exact ⟨rfl, rfl⟩) (fun q => ⟨rfl, rfl⟩) rfl ?_
  refine ev_aload_n (pc' := 13) (i := 0) dX3_init_12 rfl rfl rfl ?_
  refine ev_iconst (pc' := 14) (v := (-1)) dX3_init_13 rfl ki_m1 ?_
  refine ev_putI (pc' := 17) (I' := (ma_up I 47 (ma_up (I 47) 1 (-1)))) fo_X3_15 dX3_init_14 rfl rfl rfl (fun r hr => by cases hr; rfl) ⟨rfl, rfl⟩ rfl ?_
  refine ev_vret dX3_init_17 rfl ⟨Nat.le_refl _, Nat.le_refl _⟩ ?_
  exact k
def pR_45 : List (Nat × Nat × Nat) := (4, 4, 47) :: pR_44
def pR_46 : List (Nat × Nat × Nat) := (49, 0, 50) :: pR_45
set_option maxRecDepth 4000 in
theorem t_X3_init_49 {g : ma_G} {Post : ma_P} {I : ma_I} {L : ma_L} (hz : zP 47 I) (hl : zP 47 L) (k : Post none (hsP 48) (cSz I 49) L (rfL pR_46) 48) : CT g yX3_init cX3_init 1 none rX3_init [.ref 49] Post (hsP 47) I L (rfL pR_45) 47 := by
  refine ct_of (lv := [some (.ref 49)]) (by decide) (Nat.le_of_ble_eq_true rfl) rfl ?_
  refine ev_aload_n (pc' := 1) (i := 0) dX3_init_0 rfl rfl rfl ?_
  refine ev_obj (pc' := 4) ob_X3_3 dX3_init_1 rfl ob_i ob_c (Nat.le_of_ble_eq_true rfl) (Nat.le_of_ble_eq_true rfl) ?_
  refine ev_aload_n (pc' := 5) (i := 0) dX3_init_4 rfl rfl rfl ?_
  refine ev_bipush (pc' := 7) (v := 16) dX3_init_5 rfl kb_16 ?_
  refine en_I (pc' := 9) (N := 16) (a' := 50) (n' := 48) (ce' := 1) (sl' := 16) (zP_le hz (Nat.le_of_ble_eq_true rfl)) (zP_le hl (Nat.le_of_ble_eq_true rfl)) rfl rfl dX3_init_7 rfl rfl (Nat.le_of_ble_eq_true rfl) ⟨(Nat.le_of_ble_eq_true rfl), (Nat.le_of_ble_eq_true rfl)⟩ rfl rfl rfl rfl ?_
  refine ev_putF (pc' := 12) (R' := rfL pR_46) fo_X3_9 dX3_init_9 rfl rfl rfl rfl (fun r hr => by cases hr; exact ⟨rfl, rfl⟩) (fun q => ⟨rfl, rfl⟩) rfl ?_
  refine ev_aload_n (pc' := 13) (i := 0) dX3_init_12 rfl rfl rfl ?_
  refine ev_iconst (pc' := 14) (v := (-1)) dX3_init_13 rfl ki_m1 ?_
  refine ev_putI (pc' := 17) (I' := (ma_up I 49 (ma_up (I 49) 1 (-1)))) fo_X3_15 dX3_init_14 rfl rfl rfl (fun r hr => by cases hr; rfl) ⟨rfl, rfl⟩ rfl ?_
  refine ev_vret dX3_init_17 rfl ⟨Nat.le_refl _, Nat.le_refl _⟩ ?_
  exact k
def pR_47 : List (Nat × Nat × Nat) := (4, 5, 49) :: pR_46
def pR_48 : List (Nat × Nat × Nat) := (51, 0, 52) :: pR_47
set_option maxRecDepth 4000 in
theorem t_X3_init_51 {g : ma_G} {Post : ma_P} {I : ma_I} {L : ma_L} (hz : zP 49 I) (hl : zP 49 L) (k : Post none (hsP 50) (cSz I 51) L (rfL pR_48) 50) : CT g yX3_init cX3_init 1 none rX3_init [.ref 51] Post (hsP 49) I L (rfL pR_47) 49 := by
  refine ct_of (lv := [some (.ref 51)]) (by decide) (Nat.le_of_ble_eq_true rfl) rfl ?_
  refine ev_aload_n (pc' := 1) (i := 0) dX3_init_0 rfl rfl rfl ?_
  refine ev_obj (pc' := 4) ob_X3_3 dX3_init_1 rfl ob_i ob_c (Nat.le_of_ble_eq_true rfl) (Nat.le_of_ble_eq_true rfl) ?_
  refine ev_aload_n (pc' := 5) (i := 0) dX3_init_4 rfl rfl rfl ?_
  refine ev_bipush (pc' := 7) (v := 16) dX3_init_5 rfl kb_16 ?_
  refine en_I (pc' := 9) (N := 16) (a' := 52) (n' := 50) (ce' := 1) (sl' := 16) (zP_le hz (Nat.le_of_ble_eq_true rfl)) (zP_le hl (Nat.le_of_ble_eq_true rfl)) rfl rfl dX3_init_7 rfl rfl (Nat.le_of_ble_eq_true rfl) ⟨(Nat.le_of_ble_eq_true rfl), (Nat.le_of_ble_eq_true rfl)⟩ rfl rfl rfl rfl ?_
  refine ev_putF (pc' := 12) (R' := rfL pR_48) fo_X3_9 dX3_init_9 rfl rfl rfl rfl (fun r hr => by cases hr; exact ⟨rfl, rfl⟩) (fun q => ⟨rfl, rfl⟩) rfl ?_
  refine ev_aload_n (pc' := 13) (i := 0) dX3_init_12 rfl rfl rfl ?_
  refine ev_iconst (pc' := 14) (v := (-1)) dX3_init_13 rfl ki_m1 ?_
  refine ev_putI (pc' := 17) (I' := (ma_up I 51 (ma_up (I 51) 1 (-1)))) fo_X3_15 dX3_init_14 rfl rfl rfl (fun r hr => by cases hr; rfl) ⟨rfl, rfl⟩ rfl ?_
  refine ev_vret dX3_init_17 rfl ⟨Nat.le_refl _, Nat.le_refl _⟩ ?_
  exact k
def pR_49 : List (Nat × Nat × Nat) := (4, 6, 51) :: pR_48
def pR_50 : List (Nat × Nat × Nat) := (53, 0, 54) :: pR_49
set_option maxRecDepth 4000 in
theorem t_X3_init_53 {g : ma_G} {Post : ma_P} {I : ma_I} {L : ma_L} (hz : zP 51 I) (hl : zP 51 L) (k : Post none (hsP 52) (cSz I 53) L (rfL pR_50) 52) : CT g yX3_init cX3_init 1 none rX3_init [.ref 53] Post (hsP 51) I L (rfL pR_49) 51 := by
  refine ct_of (lv := [some (.ref 53)]) (by decide) (Nat.le_of_ble_eq_true rfl) rfl ?_
  refine ev_aload_n (pc' := 1) (i := 0) dX3_init_0 rfl rfl rfl ?_
  refine ev_obj (pc' := 4) ob_X3_3 dX3_init_1 rfl ob_i ob_c (Nat.le_of_ble_eq_true rfl) (Nat.le_of_ble_eq_true rfl) ?_
  refine ev_aload_n (pc' := 5) (i := 0) dX3_init_4 rfl rfl rfl ?_
  refine ev_bipush (pc' := 7) (v := 16) dX3_init_5 rfl kb_16 ?_
  refine en_I (pc' := 9) (N := 16) (a' := 54) (n' := 52) (ce' := 1) (sl' := 16) (zP_le hz (Nat.le_of_ble_eq_true rfl)) (zP_le hl (Nat.le_of_ble_eq_true rfl)) rfl rfl dX3_init_7 rfl rfl (Nat.le_of_ble_eq_true rfl) ⟨(Nat.le_of_ble_eq_true rfl), (Nat.le_of_ble_eq_true rfl)⟩ rfl rfl rfl rfl ?_
  refine ev_putF (pc' := 12) (R' := rfL pR_50) fo_X3_9 dX3_init_9 rfl rfl rfl rfl (fun r hr => by cases hr; exact ⟨rfl, rfl⟩) (fun q => ⟨rfl, rfl⟩) rfl ?_
  refine ev_aload_n (pc' := 13) (i := 0) dX3_init_12 rfl rfl rfl ?_
  refine ev_iconst (pc' := 14) (v := (-1)) dX3_init_13 rfl ki_m1 ?_
  refine ev_putI (pc' := 17) (I' := (ma_up I 53 (ma_up (I 53) 1 (-1)))) fo_X3_15 dX3_init_14 rfl rfl rfl (fun r hr => by cases hr; rfl) ⟨rfl, rfl⟩ rfl ?_
  refine ev_vret dX3_init_17 rfl ⟨Nat.le_refl _, Nat.le_refl _⟩ ?_
  exact k
def pR_51 : List (Nat × Nat × Nat) := (4, 7, 53) :: pR_50
def pR_52 : List (Nat × Nat × Nat) := (56, 0, 57) :: pR_51
def pR_53 : List (Nat × Nat × Nat) := (56, 1, 58) :: pR_52
set_option maxRecDepth 4000 in
theorem t_X4_init_56 {g : ma_G} {Post : ma_P} {I : ma_I} {L : ma_L} (hz : zP 54 I) (hl : zP 54 L) (k : Post none (hsP 56) I L (rfL pR_53) 56) : CT g yX4_init cX4_init 1 none rX4_init [.ref 56] Post (hsP 54) I L (rfL pR_51) 54 := by
  refine ct_of (lv := [some (.ref 56)]) (by decide) (Nat.le_of_ble_eq_true rfl) rfl ?_
  refine ev_aload_n (pc' := 1) (i := 0) dX4_init_0 rfl rfl rfl ?_
  refine ev_obj (pc' := 4) ob_X4_3 dX4_init_1 rfl ob_i ob_c (Nat.le_of_ble_eq_true rfl) (Nat.le_of_ble_eq_true rfl) ?_
  refine ev_aload_n (pc' := 5) (i := 0) dX4_init_4 rfl rfl rfl ?_
  refine ev_bipush (pc' := 7) (v := 16) dX4_init_5 rfl kb_16 ?_
  refine en_L (pc' := 9) (N := 16) (a' := 57) (n' := 55) (ce' := 1) (sl' := 16) (zP_le hz (Nat.le_of_ble_eq_true rfl)) (zP_le hl (Nat.le_of_ble_eq_true rfl)) rfl rfl dX4_init_7 rfl rfl (Nat.le_of_ble_eq_true rfl) ⟨(Nat.le_of_ble_eq_true rfl), (Nat.le_of_ble_eq_true rfl)⟩ rfl rfl rfl rfl ?_
  refine ev_putF (pc' := 12) (R' := rfL pR_52) fo_X4_9 dX4_init_9 rfl rfl rfl rfl (fun r hr => by cases hr; exact ⟨rfl, rfl⟩) (fun q => ⟨rfl, rfl⟩) rfl ?_
  refine ev_aload_n (pc' := 13) (i := 0) dX4_init_12 rfl rfl rfl ?_
  refine ev_iconst (pc' := 14) (v := 5) dX4_init_13 rfl ki_5 ?_
  refine en_L (pc' := 16) (N := 5) (a' := 58) (n' := 56) (ce' := 2) (sl' := 21) (zP_le hz (Nat.le_of_ble_eq_true rfl)) (zP_le hl (Nat.le_of_ble_eq_true rfl)) rfl rfl dX4_init_14 rfl rfl (Nat.le_of_ble_eq_true rfl) ⟨(Nat.le_of_ble_eq_true rfl), (Nat.le_of_ble_eq_true rfl)⟩ rfl rfl rfl rfl ?_
  refine ev_putF (pc' := 19) (R' := rfL pR_53) fo_X4_15 dX4_init_16 rfl rfl rfl rfl (fun r hr => by cases hr; exact ⟨rfl, rfl⟩) (fun q => ⟨rfl, rfl⟩) rfl ?_
  refine ev_vret dX4_init_19 rfl ⟨Nat.le_refl _, Nat.le_refl _⟩ ?_
  exact k
def pR_54 : List (Nat × Nat × Nat) := (55, 1, 56) :: pR_53
def pR_55 : List (Nat × Nat × Nat) := (55, 2, 59) :: pR_54
set_option maxRecDepth 4000 in
theorem t_X1_init_55 {g : ma_G} {Post : ma_P} {I : ma_I} {L : ma_L} (hz : zP 53 I) (hl : zP 53 L) (k : Post none (hsP 57) I L (rfL pR_55) 57) : CT g yX1_init cX1_init 1 none rX1_init [.ref 55] Post (hsP 53) I L (rfL pR_51) 53 := by
  refine ct_of (lv := [some (.ref 55)]) (by decide) (Nat.le_of_ble_eq_true rfl) rfl ?_
  refine ev_aload_n (pc' := 1) (i := 0) dX1_init_0 rfl rfl rfl ?_
  refine ev_obj (pc' := 4) ob_X1_3 dX1_init_1 rfl ob_i ob_c (Nat.le_of_ble_eq_true rfl) (Nat.le_of_ble_eq_true rfl) ?_
  refine ev_aload_n (pc' := 5) (i := 0) dX1_init_4 rfl rfl rfl ?_
  refine en_new (t := 4) (pc' := 8) (N := 6) (a' := 56) (n' := 54) (ce' := 1) (sl' := 6) (by decide) rfl ck_X1_9 cb_X4 tb_in_X4 tb_ws4 tb_ty4 tb_df4 (zP_le hz (Nat.le_of_ble_eq_true rfl)) (zP_le hl (Nat.le_of_ble_eq_true rfl)) rfl rfl dX1_init_5 rfl ⟨(Nat.le_of_ble_eq_true rfl), (Nat.le_of_ble_eq_true rfl)⟩ rfl rfl rfl rfl ?_
  refine ev_dup (pc' := 9) dX1_init_8 rfl rfl ?_
  refine ev_callI (pc' := 12) (rm' := rX4_init) (b := 56) (av := []) (rest := [.ref 56, .ref 55]) co_X1_11 ci_X4_init rfl dX1_init_9 rfl rfl rfl (Nat.le_of_ble_eq_true rfl) ⟨(Nat.le_of_ble_eq_true rfl), (Nat.le_of_ble_eq_true rfl)⟩ ⟨(Nat.le_of_ble_eq_true rfl), (Nat.le_of_ble_eq_true rfl)⟩ ?_
  refine t_X4_init_56 (zP_le hz (Nat.le_of_ble_eq_true rfl)) (zP_le hl (Nat.le_of_ble_eq_true rfl)) ?_
  refine ev_sl (ce' := 3) (sl' := 27) rfl rfl ?_
  refine ev_putF (pc' := 15) (R' := rfL pR_54) fo_X1_12 dX1_init_12 rfl rfl rfl rfl (fun r hr => by cases hr; exact ⟨rfl, rfl⟩) (fun q => ⟨rfl, rfl⟩) rfl ?_
  refine ev_aload_n (pc' := 16) (i := 0) dX1_init_15 rfl rfl rfl ?_
  refine ev_bipush (pc' := 18) (v := 10) dX1_init_16 rfl kb_10 ?_
  refine en_I (pc' := 20) (N := 10) (a' := 59) (n' := 57) (ce' := 4) (sl' := 37) (zP_le hz (Nat.le_of_ble_eq_true rfl)) (zP_le hl (Nat.le_of_ble_eq_true rfl)) rfl rfl dX1_init_18 rfl rfl (Nat.le_of_ble_eq_true rfl) ⟨(Nat.le_of_ble_eq_true rfl), (Nat.le_of_ble_eq_true rfl)⟩ rfl rfl rfl rfl ?_
  refine ev_putF (pc' := 23) (R' := rfL pR_55) fo_X1_18 dX1_init_20 rfl rfl rfl rfl (fun r hr => by cases hr; exact ⟨rfl, rfl⟩) (fun q => ⟨rfl, rfl⟩) rfl ?_
  refine ev_vret dX1_init_23 rfl ⟨Nat.le_refl _, Nat.le_refl _⟩ ?_
  exact k
def pR_56 : List (Nat × Nat × Nat) := (5, 0, 55) :: pR_55
def pR_57 : List (Nat × Nat × Nat) := (61, 0, 62) :: pR_56
def pR_58 : List (Nat × Nat × Nat) := (61, 1, 63) :: pR_57
set_option maxRecDepth 4000 in
theorem t_X4_init_61 {g : ma_G} {Post : ma_P} {I : ma_I} {L : ma_L} (hz : zP 59 I) (hl : zP 59 L) (k : Post none (hsP 61) I L (rfL pR_58) 61) : CT g yX4_init cX4_init 1 none rX4_init [.ref 61] Post (hsP 59) I L (rfL pR_56) 59 := by
  refine ct_of (lv := [some (.ref 61)]) (by decide) (Nat.le_of_ble_eq_true rfl) rfl ?_
  refine ev_aload_n (pc' := 1) (i := 0) dX4_init_0 rfl rfl rfl ?_
  refine ev_obj (pc' := 4) ob_X4_3 dX4_init_1 rfl ob_i ob_c (Nat.le_of_ble_eq_true rfl) (Nat.le_of_ble_eq_true rfl) ?_
  refine ev_aload_n (pc' := 5) (i := 0) dX4_init_4 rfl rfl rfl ?_
  refine ev_bipush (pc' := 7) (v := 16) dX4_init_5 rfl kb_16 ?_
  refine en_L (pc' := 9) (N := 16) (a' := 62) (n' := 60) (ce' := 1) (sl' := 16) (zP_le hz (Nat.le_of_ble_eq_true rfl)) (zP_le hl (Nat.le_of_ble_eq_true rfl)) rfl rfl dX4_init_7 rfl rfl (Nat.le_of_ble_eq_true rfl) ⟨(Nat.le_of_ble_eq_true rfl), (Nat.le_of_ble_eq_true rfl)⟩ rfl rfl rfl rfl ?_
  refine ev_putF (pc' := 12) (R' := rfL pR_57) fo_X4_9 dX4_init_9 rfl rfl rfl rfl (fun r hr => by cases hr; exact ⟨rfl, rfl⟩) (fun q => ⟨rfl, rfl⟩) rfl ?_
  refine ev_aload_n (pc' := 13) (i := 0) dX4_init_12 rfl rfl rfl ?_
  refine ev_iconst (pc' := 14) (v := 5) dX4_init_13 rfl ki_5 ?_
  refine en_L (pc' := 16) (N := 5) (a' := 63) (n' := 61) (ce' := 2) (sl' := 21) (zP_le hz (Nat.le_of_ble_eq_true rfl)) (zP_le hl (Nat.le_of_ble_eq_true rfl)) rfl rfl dX4_init_14 rfl rfl (Nat.le_of_ble_eq_true rfl) ⟨(Nat.le_of_ble_eq_true rfl), (Nat.le_of_ble_eq_true rfl)⟩ rfl rfl rfl rfl ?_
  refine ev_putF (pc' := 19) (R' := rfL pR_58) fo_X4_15 dX4_init_16 rfl rfl rfl rfl (fun r hr => by cases hr; exact ⟨rfl, rfl⟩) (fun q => ⟨rfl, rfl⟩) rfl ?_
  refine ev_vret dX4_init_19 rfl ⟨Nat.le_refl _, Nat.le_refl _⟩ ?_
  exact k
def pR_59 : List (Nat × Nat × Nat) := (60, 1, 61) :: pR_58
def pR_60 : List (Nat × Nat × Nat) := (60, 2, 64) :: pR_59
set_option maxRecDepth 4000 in
theorem t_X1_init_60 {g : ma_G} {Post : ma_P} {I : ma_I} {L : ma_L} (hz : zP 58 I) (hl : zP 58 L) (k : Post none (hsP 62) I L (rfL pR_60) 62) : CT g yX1_init cX1_init 1 none rX1_init [.ref 60] Post (hsP 58) I L (rfL pR_56) 58 := by
  refine ct_of (lv := [some (.ref 60)]) (by decide) (Nat.le_of_ble_eq_true rfl) rfl ?_
  refine ev_aload_n (pc' := 1) (i := 0) dX1_init_0 rfl rfl rfl ?_
  refine ev_obj (pc' := 4) ob_X1_3 dX1_init_1 rfl ob_i ob_c (Nat.le_of_ble_eq_true rfl) (Nat.le_of_ble_eq_true rfl) ?_
  refine ev_aload_n (pc' := 5) (i := 0) dX1_init_4 rfl rfl rfl ?_
  refine en_new (t := 4) (pc' := 8) (N := 6) (a' := 61) (n' := 59) (ce' := 1) (sl' := 6) (by decide) rfl ck_X1_9 cb_X4 tb_in_X4 tb_ws4 tb_ty4 tb_df4 (zP_le hz (Nat.le_of_ble_eq_true rfl)) (zP_le hl (Nat.le_of_ble_eq_true rfl)) rfl rfl dX1_init_5 rfl ⟨(Nat.le_of_ble_eq_true rfl), (Nat.le_of_ble_eq_true rfl)⟩ rfl rfl rfl rfl ?_
  refine ev_dup (pc' := 9) dX1_init_8 rfl rfl ?_
  refine ev_callI (pc' := 12) (rm' := rX4_init) (b := 61) (av := []) (rest := [.ref 61, .ref 60]) co_X1_11 ci_X4_init rfl dX1_init_9 rfl rfl rfl (Nat.le_of_ble_eq_true rfl) ⟨(Nat.le_of_ble_eq_true rfl), (Nat.le_of_ble_eq_true rfl)⟩ ⟨(Nat.le_of_ble_eq_true rfl), (Nat.le_of_ble_eq_true rfl)⟩ ?_
  refine t_X4_init_61 (zP_le hz (Nat.le_of_ble_eq_true rfl)) (zP_le hl (Nat.le_of_ble_eq_true rfl)) ?_
  refine ev_sl (ce' := 3) (sl' := 27) rfl rfl ?_
  refine ev_putF (pc' := 15) (R' := rfL pR_59) fo_X1_12 dX1_init_12 rfl rfl rfl rfl (fun r hr => by cases hr; exact ⟨rfl, rfl⟩) (fun q => ⟨rfl, rfl⟩) rfl ?_
  refine ev_aload_n (pc' := 16) (i := 0) dX1_init_15 rfl rfl rfl ?_
  refine ev_bipush (pc' := 18) (v := 10) dX1_init_16 rfl kb_10 ?_
  refine en_I (pc' := 20) (N := 10) (a' := 64) (n' := 62) (ce' := 4) (sl' := 37) (zP_le hz (Nat.le_of_ble_eq_true rfl)) (zP_le hl (Nat.le_of_ble_eq_true rfl)) rfl rfl dX1_init_18 rfl rfl (Nat.le_of_ble_eq_true rfl) ⟨(Nat.le_of_ble_eq_true rfl), (Nat.le_of_ble_eq_true rfl)⟩ rfl rfl rfl rfl ?_
  refine ev_putF (pc' := 23) (R' := rfL pR_60) fo_X1_18 dX1_init_20 rfl rfl rfl rfl (fun r hr => by cases hr; exact ⟨rfl, rfl⟩) (fun q => ⟨rfl, rfl⟩) rfl ?_
  refine ev_vret dX1_init_23 rfl ⟨Nat.le_refl _, Nat.le_refl _⟩ ?_
  exact k
def pR_61 : List (Nat × Nat × Nat) := (5, 1, 60) :: pR_60
def pR_62 : List (Nat × Nat × Nat) := (66, 0, 67) :: pR_61
def pR_63 : List (Nat × Nat × Nat) := (66, 1, 68) :: pR_62
set_option maxRecDepth 4000 in
theorem t_X4_init_66 {g : ma_G} {Post : ma_P} {I : ma_I} {L : ma_L} (hz : zP 64 I) (hl : zP 64 L) (k : Post none (hsP 66) I L (rfL pR_63) 66) : CT g yX4_init cX4_init 1 none rX4_init [.ref 66] Post (hsP 64) I L (rfL pR_61) 64 := by
  refine ct_of (lv := [some (.ref 66)]) (by decide) (Nat.le_of_ble_eq_true rfl) rfl ?_
  refine ev_aload_n (pc' := 1) (i := 0) dX4_init_0 rfl rfl rfl ?_
  refine ev_obj (pc' := 4) ob_X4_3 dX4_init_1 rfl ob_i ob_c (Nat.le_of_ble_eq_true rfl) (Nat.le_of_ble_eq_true rfl) ?_
  refine ev_aload_n (pc' := 5) (i := 0) dX4_init_4 rfl rfl rfl ?_
  refine ev_bipush (pc' := 7) (v := 16) dX4_init_5 rfl kb_16 ?_
  refine en_L (pc' := 9) (N := 16) (a' := 67) (n' := 65) (ce' := 1) (sl' := 16) (zP_le hz (Nat.le_of_ble_eq_true rfl)) (zP_le hl (Nat.le_of_ble_eq_true rfl)) rfl rfl dX4_init_7 rfl rfl (Nat.le_of_ble_eq_true rfl) ⟨(Nat.le_of_ble_eq_true rfl), (Nat.le_of_ble_eq_true rfl)⟩ rfl rfl rfl rfl ?_
  refine ev_putF (pc' := 12) (R' := rfL pR_62) fo_X4_9 dX4_init_9 rfl rfl rfl rfl (fun r hr => by cases hr; exact ⟨rfl, rfl⟩) (fun q => ⟨rfl, rfl⟩) rfl ?_
  refine ev_aload_n (pc' := 13) (i := 0) dX4_init_12 rfl rfl rfl ?_
  refine ev_iconst (pc' := 14) (v := 5) dX4_init_13 rfl ki_5 ?_
  refine en_L (pc' := 16) (N := 5) (a' := 68) (n' := 66) (ce' := 2) (sl' := 21) (zP_le hz (Nat.le_of_ble_eq_true rfl)) (zP_le hl (Nat.le_of_ble_eq_true rfl)) rfl rfl dX4_init_14 rfl rfl (Nat.le_of_ble_eq_true rfl) ⟨(Nat.le_of_ble_eq_true rfl), (Nat.le_of_ble_eq_true rfl)⟩ rfl rfl rfl rfl ?_
  refine ev_putF (pc' := 19) (R' := rfL pR_63) fo_X4_15 dX4_init_16 rfl rfl rfl rfl (fun r hr => by cases hr; exact ⟨rfl, rfl⟩) (fun q => ⟨rfl, rfl⟩) rfl ?_
  refine ev_vret dX4_init_19 rfl ⟨Nat.le_refl _, Nat.le_refl _⟩ ?_
  exact k
def pR_64 : List (Nat × Nat × Nat) := (65, 1, 66) :: pR_63
def pR_65 : List (Nat × Nat × Nat) := (65, 2, 69) :: pR_64
set_option maxRecDepth 4000 in
theorem t_X1_init_65 {g : ma_G} {Post : ma_P} {I : ma_I} {L : ma_L} (hz : zP 63 I) (hl : zP 63 L) (k : Post none (hsP 67) I L (rfL pR_65) 67) : CT g yX1_init cX1_init 1 none rX1_init [.ref 65] Post (hsP 63) I L (rfL pR_61) 63 := by
  refine ct_of (lv := [some (.ref 65)]) (by decide) (Nat.le_of_ble_eq_true rfl) rfl ?_
  refine ev_aload_n (pc' := 1) (i := 0) dX1_init_0 rfl rfl rfl ?_
  refine ev_obj (pc' := 4) ob_X1_3 dX1_init_1 rfl ob_i ob_c (Nat.le_of_ble_eq_true rfl) (Nat.le_of_ble_eq_true rfl) ?_
  refine ev_aload_n (pc' := 5) (i := 0) dX1_init_4 rfl rfl rfl ?_
  refine en_new (t := 4) (pc' := 8) (N := 6) (a' := 66) (n' := 64) (ce' := 1) (sl' := 6) (by decide) rfl ck_X1_9 cb_X4 tb_in_X4 tb_ws4 tb_ty4 tb_df4 (zP_le hz (Nat.le_of_ble_eq_true rfl)) (zP_le hl (Nat.le_of_ble_eq_true rfl)) rfl rfl dX1_init_5 rfl ⟨(Nat.le_of_ble_eq_true rfl), (Nat.le_of_ble_eq_true rfl)⟩ rfl rfl rfl rfl ?_
  refine ev_dup (pc' := 9) dX1_init_8 rfl rfl ?_
  refine ev_callI (pc' := 12) (rm' := rX4_init) (b := 66) (av := []) (rest := [.ref 66, .ref 65]) co_X1_11 ci_X4_init rfl dX1_init_9 rfl rfl rfl (Nat.le_of_ble_eq_true rfl) ⟨(Nat.le_of_ble_eq_true rfl), (Nat.le_of_ble_eq_true rfl)⟩ ⟨(Nat.le_of_ble_eq_true rfl), (Nat.le_of_ble_eq_true rfl)⟩ ?_
  refine t_X4_init_66 (zP_le hz (Nat.le_of_ble_eq_true rfl)) (zP_le hl (Nat.le_of_ble_eq_true rfl)) ?_
  refine ev_sl (ce' := 3) (sl' := 27) rfl rfl ?_
  refine ev_putF (pc' := 15) (R' := rfL pR_64) fo_X1_12 dX1_init_12 rfl rfl rfl rfl (fun r hr => by cases hr; exact ⟨rfl, rfl⟩) (fun q => ⟨rfl, rfl⟩) rfl ?_
  refine ev_aload_n (pc' := 16) (i := 0) dX1_init_15 rfl rfl rfl ?_
  refine ev_bipush (pc' := 18) (v := 10) dX1_init_16 rfl kb_10 ?_
  refine en_I (pc' := 20) (N := 10) (a' := 69) (n' := 67) (ce' := 4) (sl' := 37) (zP_le hz (Nat.le_of_ble_eq_true rfl)) (zP_le hl (Nat.le_of_ble_eq_true rfl)) rfl rfl dX1_init_18 rfl rfl (Nat.le_of_ble_eq_true rfl) ⟨(Nat.le_of_ble_eq_true rfl), (Nat.le_of_ble_eq_true rfl)⟩ rfl rfl rfl rfl ?_
  refine ev_putF (pc' := 23) (R' := rfL pR_65) fo_X1_18 dX1_init_20 rfl rfl rfl rfl (fun r hr => by cases hr; exact ⟨rfl, rfl⟩) (fun q => ⟨rfl, rfl⟩) rfl ?_
  refine ev_vret dX1_init_23 rfl ⟨Nat.le_refl _, Nat.le_refl _⟩ ?_
  exact k
def pR_66 : List (Nat × Nat × Nat) := (5, 2, 65) :: pR_65
def pR_67 : List (Nat × Nat × Nat) := (71, 0, 72) :: pR_66
def pR_68 : List (Nat × Nat × Nat) := (71, 1, 73) :: pR_67
set_option maxRecDepth 4000 in
theorem t_X4_init_71 {g : ma_G} {Post : ma_P} {I : ma_I} {L : ma_L} (hz : zP 69 I) (hl : zP 69 L) (k : Post none (hsP 71) I L (rfL pR_68) 71) : CT g yX4_init cX4_init 1 none rX4_init [.ref 71] Post (hsP 69) I L (rfL pR_66) 69 := by
  refine ct_of (lv := [some (.ref 71)]) (by decide) (Nat.le_of_ble_eq_true rfl) rfl ?_
  refine ev_aload_n (pc' := 1) (i := 0) dX4_init_0 rfl rfl rfl ?_
  refine ev_obj (pc' := 4) ob_X4_3 dX4_init_1 rfl ob_i ob_c (Nat.le_of_ble_eq_true rfl) (Nat.le_of_ble_eq_true rfl) ?_
  refine ev_aload_n (pc' := 5) (i := 0) dX4_init_4 rfl rfl rfl ?_
  refine ev_bipush (pc' := 7) (v := 16) dX4_init_5 rfl kb_16 ?_
  refine en_L (pc' := 9) (N := 16) (a' := 72) (n' := 70) (ce' := 1) (sl' := 16) (zP_le hz (Nat.le_of_ble_eq_true rfl)) (zP_le hl (Nat.le_of_ble_eq_true rfl)) rfl rfl dX4_init_7 rfl rfl (Nat.le_of_ble_eq_true rfl) ⟨(Nat.le_of_ble_eq_true rfl), (Nat.le_of_ble_eq_true rfl)⟩ rfl rfl rfl rfl ?_
  refine ev_putF (pc' := 12) (R' := rfL pR_67) fo_X4_9 dX4_init_9 rfl rfl rfl rfl (fun r hr => by cases hr; exact ⟨rfl, rfl⟩) (fun q => ⟨rfl, rfl⟩) rfl ?_
  refine ev_aload_n (pc' := 13) (i := 0) dX4_init_12 rfl rfl rfl ?_
  refine ev_iconst (pc' := 14) (v := 5) dX4_init_13 rfl ki_5 ?_
  refine en_L (pc' := 16) (N := 5) (a' := 73) (n' := 71) (ce' := 2) (sl' := 21) (zP_le hz (Nat.le_of_ble_eq_true rfl)) (zP_le hl (Nat.le_of_ble_eq_true rfl)) rfl rfl dX4_init_14 rfl rfl (Nat.le_of_ble_eq_true rfl) ⟨(Nat.le_of_ble_eq_true rfl), (Nat.le_of_ble_eq_true rfl)⟩ rfl rfl rfl rfl ?_
  refine ev_putF (pc' := 19) (R' := rfL pR_68) fo_X4_15 dX4_init_16 rfl rfl rfl rfl (fun r hr => by cases hr; exact ⟨rfl, rfl⟩) (fun q => ⟨rfl, rfl⟩) rfl ?_
  refine ev_vret dX4_init_19 rfl ⟨Nat.le_refl _, Nat.le_refl _⟩ ?_
  exact k
def pR_69 : List (Nat × Nat × Nat) := (70, 1, 71) :: pR_68
def pR_70 : List (Nat × Nat × Nat) := (70, 2, 74) :: pR_69
set_option maxRecDepth 4000 in
theorem t_X1_init_70 {g : ma_G} {Post : ma_P} {I : ma_I} {L : ma_L} (hz : zP 68 I) (hl : zP 68 L) (k : Post none (hsP 72) I L (rfL pR_70) 72) : CT g yX1_init cX1_init 1 none rX1_init [.ref 70] Post (hsP 68) I L (rfL pR_66) 68 := by
  refine ct_of (lv := [some (.ref 70)]) (by decide) (Nat.le_of_ble_eq_true rfl) rfl ?_
  refine ev_aload_n (pc' := 1) (i := 0) dX1_init_0 rfl rfl rfl ?_
  refine ev_obj (pc' := 4) ob_X1_3 dX1_init_1 rfl ob_i ob_c (Nat.le_of_ble_eq_true rfl) (Nat.le_of_ble_eq_true rfl) ?_
  refine ev_aload_n (pc' := 5) (i := 0) dX1_init_4 rfl rfl rfl ?_
  refine en_new (t := 4) (pc' := 8) (N := 6) (a' := 71) (n' := 69) (ce' := 1) (sl' := 6) (by decide) rfl ck_X1_9 cb_X4 tb_in_X4 tb_ws4 tb_ty4 tb_df4 (zP_le hz (Nat.le_of_ble_eq_true rfl)) (zP_le hl (Nat.le_of_ble_eq_true rfl)) rfl rfl dX1_init_5 rfl ⟨(Nat.le_of_ble_eq_true rfl), (Nat.le_of_ble_eq_true rfl)⟩ rfl rfl rfl rfl ?_
  refine ev_dup (pc' := 9) dX1_init_8 rfl rfl ?_
  refine ev_callI (pc' := 12) (rm' := rX4_init) (b := 71) (av := []) (rest := [.ref 71, .ref 70]) co_X1_11 ci_X4_init rfl dX1_init_9 rfl rfl rfl (Nat.le_of_ble_eq_true rfl) ⟨(Nat.le_of_ble_eq_true rfl), (Nat.le_of_ble_eq_true rfl)⟩ ⟨(Nat.le_of_ble_eq_true rfl), (Nat.le_of_ble_eq_true rfl)⟩ ?_
  refine t_X4_init_71 (zP_le hz (Nat.le_of_ble_eq_true rfl)) (zP_le hl (Nat.le_of_ble_eq_true rfl)) ?_
  refine ev_sl (ce' := 3) (sl' := 27) rfl rfl ?_
  refine ev_putF (pc' := 15) (R' := rfL pR_69) fo_X1_12 dX1_init_12 rfl rfl rfl rfl (fun r hr => by cases hr; exact ⟨rfl, rfl⟩) (fun q => ⟨rfl, rfl⟩) rfl ?_
  refine ev_aload_n (pc' := 16) (i := 0) dX1_init_15 rfl rfl rfl ?_
  refine ev_bipush (pc' := 18) (v := 10) dX1_init_16 rfl kb_10 ?_
  refine en_I (pc' := 20) (N := 10) (a' := 74) (n' := 72) (ce' := 4) (sl' := 37) (zP_le hz (Nat.le_of_ble_eq_true rfl)) (zP_le hl (Nat.le_of_ble_eq_true rfl)) rfl rfl dX1_init_18 rfl rfl (Nat.le_of_ble_eq_true rfl) ⟨(Nat.le_of_ble_eq_true rfl), (Nat.le_of_ble_eq_true rfl)⟩ rfl rfl rfl rfl ?_
  refine ev_putF (pc' := 23) (R' := rfL pR_70) fo_X1_18 dX1_init_20 rfl rfl rfl rfl (fun r hr => by cases hr; exact ⟨rfl, rfl⟩) (fun q => ⟨rfl, rfl⟩) rfl ?_
  refine ev_vret dX1_init_23 rfl ⟨Nat.le_refl _, Nat.le_refl _⟩ ?_
  exact k
def pR_71 : List (Nat × Nat × Nat) := (5, 3, 70) :: pR_70
def pR_72 : List (Nat × Nat × Nat) := (76, 0, 77) :: pR_71
def pR_73 : List (Nat × Nat × Nat) := (76, 1, 78) :: pR_72
set_option maxRecDepth 4000 in
theorem t_X4_init_76 {g : ma_G} {Post : ma_P} {I : ma_I} {L : ma_L} (hz : zP 74 I) (hl : zP 74 L) (k : Post none (hsP 76) I L (rfL pR_73) 76) : CT g yX4_init cX4_init 1 none rX4_init [.ref 76] Post (hsP 74) I L (rfL pR_71) 74 := by
  refine ct_of (lv := [some (.ref 76)]) (by decide) (Nat.le_of_ble_eq_true rfl) rfl ?_
  refine ev_aload_n (pc' := 1) (i := 0) dX4_init_0 rfl rfl rfl ?_
  refine ev_obj (pc' := 4) ob_X4_3 dX4_init_1 rfl ob_i ob_c (Nat.le_of_ble_eq_true rfl) (Nat.le_of_ble_eq_true rfl) ?_
  refine ev_aload_n (pc' := 5) (i := 0) dX4_init_4 rfl rfl rfl ?_
  refine ev_bipush (pc' := 7) (v := 16) dX4_init_5 rfl kb_16 ?_
  refine en_L (pc' := 9) (N := 16) (a' := 77) (n' := 75) (ce' := 1) (sl' := 16) (zP_le hz (Nat.le_of_ble_eq_true rfl)) (zP_le hl (Nat.le_of_ble_eq_true rfl)) rfl rfl dX4_init_7 rfl rfl (Nat.le_of_ble_eq_true rfl) ⟨(Nat.le_of_ble_eq_true rfl), (Nat.le_of_ble_eq_true rfl)⟩ rfl rfl rfl rfl ?_
  refine ev_putF (pc' := 12) (R' := rfL pR_72) fo_X4_9 dX4_init_9 rfl rfl rfl rfl (fun r hr => by cases hr; exact ⟨rfl, rfl⟩) (fun q => ⟨rfl, rfl⟩) rfl ?_
  refine ev_aload_n (pc' := 13) (i := 0) dX4_init_12 rfl rfl rfl ?_
  refine ev_iconst (pc' := 14) (v := 5) dX4_init_13 rfl ki_5 ?_
  refine en_L (pc' := 16) (N := 5) (a' := 78) (n' := 76) (ce' := 2) (sl' := 21) (zP_le hz (Nat.le_of_ble_eq_true rfl)) (zP_le hl (Nat.le_of_ble_eq_true rfl)) rfl rfl dX4_init_14 rfl rfl (Nat.le_of_ble_eq_true rfl) ⟨(Nat.le_of_ble_eq_true rfl), (Nat.le_of_ble_eq_true rfl)⟩ rfl rfl rfl rfl ?_
  refine ev_putF (pc' := 19) (R' := rfL pR_73) fo_X4_15 dX4_init_16 rfl rfl rfl rfl (fun r hr => by cases hr; exact ⟨rfl, rfl⟩) (fun q => ⟨rfl, rfl⟩) rfl ?_
  refine ev_vret dX4_init_19 rfl ⟨Nat.le_refl _, Nat.le_refl _⟩ ?_
  exact k
def pR_74 : List (Nat × Nat × Nat) := (75, 1, 76) :: pR_73
def pR_75 : List (Nat × Nat × Nat) := (75, 2, 79) :: pR_74
set_option maxRecDepth 4000 in
theorem t_X1_init_75 {g : ma_G} {Post : ma_P} {I : ma_I} {L : ma_L} (hz : zP 73 I) (hl : zP 73 L) (k : Post none (hsP 77) I L (rfL pR_75) 77) : CT g yX1_init cX1_init 1 none rX1_init [.ref 75] Post (hsP 73) I L (rfL pR_71) 73 := by
  refine ct_of (lv := [some (.ref 75)]) (by decide) (Nat.le_of_ble_eq_true rfl) rfl ?_
  refine ev_aload_n (pc' := 1) (i := 0) dX1_init_0 rfl rfl rfl ?_
  refine ev_obj (pc' := 4) ob_X1_3 dX1_init_1 rfl ob_i ob_c (Nat.le_of_ble_eq_true rfl) (Nat.le_of_ble_eq_true rfl) ?_
  refine ev_aload_n (pc' := 5) (i := 0) dX1_init_4 rfl rfl rfl ?_
  refine en_new (t := 4) (pc' := 8) (N := 6) (a' := 76) (n' := 74) (ce' := 1) (sl' := 6) (by decide) rfl ck_X1_9 cb_X4 tb_in_X4 tb_ws4 tb_ty4 tb_df4 (zP_le hz (Nat.le_of_ble_eq_true rfl)) (zP_le hl (Nat.le_of_ble_eq_true rfl)) rfl rfl dX1_init_5 rfl ⟨(Nat.le_of_ble_eq_true rfl), (Nat.le_of_ble_eq_true rfl)⟩ rfl rfl rfl rfl ?_
  refine ev_dup (pc' := 9) dX1_init_8 rfl rfl ?_
  refine ev_callI (pc' := 12) (rm' := rX4_init) (b := 76) (av := []) (rest := [.ref 76, .ref 75]) co_X1_11 ci_X4_init rfl dX1_init_9 rfl rfl rfl (Nat.le_of_ble_eq_true rfl) ⟨(Nat.le_of_ble_eq_true rfl), (Nat.le_of_ble_eq_true rfl)⟩ ⟨(Nat.le_of_ble_eq_true rfl), (Nat.le_of_ble_eq_true rfl)⟩ ?_
  refine t_X4_init_76 (zP_le hz (Nat.le_of_ble_eq_true rfl)) (zP_le hl (Nat.le_of_ble_eq_true rfl)) ?_
  refine ev_sl (ce' := 3) (sl' := 27) rfl rfl ?_
  refine ev_putF (pc' := 15) (R' := rfL pR_74) fo_X1_12 dX1_init_12 rfl rfl rfl rfl (fun r hr => by cases hr; exact ⟨rfl, rfl⟩) (fun q => ⟨rfl, rfl⟩) rfl ?_
  refine ev_aload_n (pc' := 16) (i := 0) dX1_init_15 rfl rfl rfl ?_
  refine ev_bipush (pc' := 18) (v := 10) dX1_init_16 rfl kb_10 ?_
  refine en_I (pc' := 20) (N := 10) (a' := 79) (n' := 77) (ce' := 4) (sl' := 37) (zP_le hz (Nat.le_of_ble_eq_true rfl)) (zP_le hl (Nat.le_of_ble_eq_true rfl)) rfl rfl dX1_init_18 rfl rfl (Nat.le_of_ble_eq_true rfl) ⟨(Nat.le_of_ble_eq_true rfl), (Nat.le_of_ble_eq_true rfl)⟩ rfl rfl rfl rfl ?_
  refine ev_putF (pc' := 23) (R' := rfL pR_75) fo_X1_18 dX1_init_20 rfl rfl rfl rfl (fun r hr => by cases hr; exact ⟨rfl, rfl⟩) (fun q => ⟨rfl, rfl⟩) rfl ?_
  refine ev_vret dX1_init_23 rfl ⟨Nat.le_refl _, Nat.le_refl _⟩ ?_
  exact k
def pR_76 : List (Nat × Nat × Nat) := (5, 4, 75) :: pR_75
def pR_77 : List (Nat × Nat × Nat) := (81, 0, 82) :: pR_76
def pR_78 : List (Nat × Nat × Nat) := (81, 1, 83) :: pR_77
set_option maxRecDepth 4000 in
theorem t_X4_init_81 {g : ma_G} {Post : ma_P} {I : ma_I} {L : ma_L} (hz : zP 79 I) (hl : zP 79 L) (k : Post none (hsP 81) I L (rfL pR_78) 81) : CT g yX4_init cX4_init 1 none rX4_init [.ref 81] Post (hsP 79) I L (rfL pR_76) 79 := by
  refine ct_of (lv := [some (.ref 81)]) (by decide) (Nat.le_of_ble_eq_true rfl) rfl ?_
  refine ev_aload_n (pc' := 1) (i := 0) dX4_init_0 rfl rfl rfl ?_
  refine ev_obj (pc' := 4) ob_X4_3 dX4_init_1 rfl ob_i ob_c (Nat.le_of_ble_eq_true rfl) (Nat.le_of_ble_eq_true rfl) ?_
  refine ev_aload_n (pc' := 5) (i := 0) dX4_init_4 rfl rfl rfl ?_
  refine ev_bipush (pc' := 7) (v := 16) dX4_init_5 rfl kb_16 ?_
  refine en_L (pc' := 9) (N := 16) (a' := 82) (n' := 80) (ce' := 1) (sl' := 16) (zP_le hz (Nat.le_of_ble_eq_true rfl)) (zP_le hl (Nat.le_of_ble_eq_true rfl)) rfl rfl dX4_init_7 rfl rfl (Nat.le_of_ble_eq_true rfl) ⟨(Nat.le_of_ble_eq_true rfl), (Nat.le_of_ble_eq_true rfl)⟩ rfl rfl rfl rfl ?_
  refine ev_putF (pc' := 12) (R' := rfL pR_77) fo_X4_9 dX4_init_9 rfl rfl rfl rfl (fun r hr => by cases hr; exact ⟨rfl, rfl⟩) (fun q => ⟨rfl, rfl⟩) rfl ?_
  refine ev_aload_n (pc' := 13) (i := 0) dX4_init_12 rfl rfl rfl ?_
  refine ev_iconst (pc' := 14) (v := 5) dX4_init_13 rfl ki_5 ?_
  refine en_L (pc' := 16) (N := 5) (a' := 83) (n' := 81) (ce' := 2) (sl' := 21) (zP_le hz (Nat.le_of_ble_eq_true rfl)) (zP_le hl (Nat.le_of_ble_eq_true rfl)) rfl rfl dX4_init_14 rfl rfl (Nat.le_of_ble_eq_true rfl) ⟨(Nat.le_of_ble_eq_true rfl), (Nat.le_of_ble_eq_true rfl)⟩ rfl rfl rfl rfl ?_
  refine ev_putF (pc' := 19) (R' := rfL pR_78) fo_X4_15 dX4_init_16 rfl rfl rfl rfl (fun r hr => by cases hr; exact ⟨rfl, rfl⟩) (fun q => ⟨rfl, rfl⟩) rfl ?_
  refine ev_vret dX4_init_19 rfl ⟨Nat.le_refl _, Nat.le_refl _⟩ ?_
  exact k
def pR_79 : List (Nat × Nat × Nat) := (80, 1, 81) :: pR_78
def pR_80 : List (Nat × Nat × Nat) := (80, 2, 84) :: pR_79
set_option maxRecDepth 4000 in
theorem t_X1_init_80 {g : ma_G} {Post : ma_P} {I : ma_I} {L : ma_L} (hz : zP 78 I) (hl : zP 78 L) (k : Post none (hsP 82) I L (rfL pR_80) 82) : CT g yX1_init cX1_init 1 none rX1_init [.ref 80] Post (hsP 78) I L (rfL pR_76) 78 := by
  refine ct_of (lv := [some (.ref 80)]) (by decide) (Nat.le_of_ble_eq_true rfl) rfl ?_
  refine ev_aload_n (pc' := 1) (i := 0) dX1_init_0 rfl rfl rfl ?_
  refine ev_obj (pc' := 4) ob_X1_3 dX1_init_1 rfl ob_i ob_c (Nat.le_of_ble_eq_true rfl) (Nat.le_of_ble_eq_true rfl) ?_
  refine ev_aload_n (pc' := 5) (i := 0) dX1_init_4 rfl rfl rfl ?_
  refine en_new (t := 4) (pc' := 8) (N := 6) (a' := 81) (n' := 79) (ce' := 1) (sl' := 6) (by decide) rfl ck_X1_9 cb_X4 tb_in_X4 tb_ws4 tb_ty4 tb_df4 (zP_le hz (Nat.le_of_ble_eq_true rfl)) (zP_le hl (Nat.le_of_ble_eq_true rfl)) rfl rfl dX1_init_5 rfl ⟨(Nat.le_of_ble_eq_true rfl), (Nat.le_of_ble_eq_true rfl)⟩ rfl rfl rfl rfl ?_
  refine ev_dup (pc' := 9) dX1_init_8 rfl rfl ?_
  refine ev_callI (pc' := 12) (rm' := rX4_init) (b := 81) (av := []) (rest := [.ref 81, .ref 80]) co_X1_11 ci_X4_init rfl dX1_init_9 rfl rfl rfl (Nat.le_of_ble_eq_true rfl) ⟨(Nat.le_of_ble_eq_true rfl), (Nat.le_of_ble_eq_true rfl)⟩ ⟨(Nat.le_of_ble_eq_true rfl), (Nat.le_of_ble_eq_true rfl)⟩ ?_
  refine t_X4_init_81 (zP_le hz (Nat.le_of_ble_eq_true rfl)) (zP_le hl (Nat.le_of_ble_eq_true rfl)) ?_
  refine ev_sl (ce' := 3) (sl' := 27) rfl rfl ?_
  refine ev_putF (pc' := 15) (R' := rfL pR_79) fo_X1_12 dX1_init_12 rfl rfl rfl rfl (fun r hr => by cases hr; exact ⟨rfl, rfl⟩) (fun q => ⟨rfl, rfl⟩) rfl ?_
  refine ev_aload_n (pc' := 16) (i := 0) dX1_init_15 rfl rfl rfl ?_
  refine ev_bipush (pc' := 18) (v := 10) dX1_init_16 rfl kb_10 ?_
  refine en_I (pc' := 20) (N := 10) (a' := 84) (n' := 82) (ce' := 4) (sl' := 37) (zP_le hz (Nat.le_of_ble_eq_true rfl)) (zP_le hl (Nat.le_of_ble_eq_true rfl)) rfl rfl dX1_init_18 rfl rfl (Nat.le_of_ble_eq_true rfl) ⟨(Nat.le_of_ble_eq_true rfl), (Nat.le_of_ble_eq_true rfl)⟩ rfl rfl rfl rfl ?_
  refine ev_putF (pc' := 23) (R' := rfL pR_80) fo_X1_18 dX1_init_20 rfl rfl rfl rfl (fun r hr => by cases hr; exact ⟨rfl, rfl⟩) (fun q => ⟨rfl, rfl⟩) rfl ?_
  refine ev_vret dX1_init_23 rfl ⟨Nat.le_refl _, Nat.le_refl _⟩ ?_
  exact k
def pR_81 : List (Nat × Nat × Nat) := (5, 5, 80) :: pR_80
def pR_82 : List (Nat × Nat × Nat) := (86, 0, 87) :: pR_81
def pR_83 : List (Nat × Nat × Nat) := (86, 1, 88) :: pR_82
set_option maxRecDepth 4000 in
theorem t_X4_init_86 {g : ma_G} {Post : ma_P} {I : ma_I} {L : ma_L} (hz : zP 84 I) (hl : zP 84 L) (k : Post none (hsP 86) I L (rfL pR_83) 86) : CT g yX4_init cX4_init 1 none rX4_init [.ref 86] Post (hsP 84) I L (rfL pR_81) 84 := by
  refine ct_of (lv := [some (.ref 86)]) (by decide) (Nat.le_of_ble_eq_true rfl) rfl ?_
  refine ev_aload_n (pc' := 1) (i := 0) dX4_init_0 rfl rfl rfl ?_
  refine ev_obj (pc' := 4) ob_X4_3 dX4_init_1 rfl ob_i ob_c (Nat.le_of_ble_eq_true rfl) (Nat.le_of_ble_eq_true rfl) ?_
  refine ev_aload_n (pc' := 5) (i := 0) dX4_init_4 rfl rfl rfl ?_
  refine ev_bipush (pc' := 7) (v := 16) dX4_init_5 rfl kb_16 ?_
  refine en_L (pc' := 9) (N := 16) (a' := 87) (n' := 85) (ce' := 1) (sl' := 16) (zP_le hz (Nat.le_of_ble_eq_true rfl)) (zP_le hl (Nat.le_of_ble_eq_true rfl)) rfl rfl dX4_init_7 rfl rfl (Nat.le_of_ble_eq_true rfl) ⟨(Nat.le_of_ble_eq_true rfl), (Nat.le_of_ble_eq_true rfl)⟩ rfl rfl rfl rfl ?_
  refine ev_putF (pc' := 12) (R' := rfL pR_82) fo_X4_9 dX4_init_9 rfl rfl rfl rfl (fun r hr => by cases hr; exact ⟨rfl, rfl⟩) (fun q => ⟨rfl, rfl⟩) rfl ?_
  refine ev_aload_n (pc' := 13) (i := 0) dX4_init_12 rfl rfl rfl ?_
  refine ev_iconst (pc' := 14) (v := 5) dX4_init_13 rfl ki_5 ?_
  refine en_L (pc' := 16) (N := 5) (a' := 88) (n' := 86) (ce' := 2) (sl' := 21) (zP_le hz (Nat.le_of_ble_eq_true rfl)) (zP_le hl (Nat.le_of_ble_eq_true rfl)) rfl rfl dX4_init_14 rfl rfl (Nat.le_of_ble_eq_true rfl) ⟨(Nat.le_of_ble_eq_true rfl), (Nat.le_of_ble_eq_true rfl)⟩ rfl rfl rfl rfl ?_
  refine ev_putF (pc' := 19) (R' := rfL pR_83) fo_X4_15 dX4_init_16 rfl rfl rfl rfl (fun r hr => by cases hr; exact ⟨rfl, rfl⟩) (fun q => ⟨rfl, rfl⟩) rfl ?_
  refine ev_vret dX4_init_19 rfl ⟨Nat.le_refl _, Nat.le_refl _⟩ ?_
  exact k
def pR_84 : List (Nat × Nat × Nat) := (85, 1, 86) :: pR_83
def pR_85 : List (Nat × Nat × Nat) := (85, 2, 89) :: pR_84
set_option maxRecDepth 4000 in
theorem t_X1_init_85 {g : ma_G} {Post : ma_P} {I : ma_I} {L : ma_L} (hz : zP 83 I) (hl : zP 83 L) (k : Post none (hsP 87) I L (rfL pR_85) 87) : CT g yX1_init cX1_init 1 none rX1_init [.ref 85] Post (hsP 83) I L (rfL pR_81) 83 := by
  refine ct_of (lv := [some (.ref 85)]) (by decide) (Nat.le_of_ble_eq_true rfl) rfl ?_
  refine ev_aload_n (pc' := 1) (i := 0) dX1_init_0 rfl rfl rfl ?_
  refine ev_obj (pc' := 4) ob_X1_3 dX1_init_1 rfl ob_i ob_c (Nat.le_of_ble_eq_true rfl) (Nat.le_of_ble_eq_true rfl) ?_
  refine ev_aload_n (pc' := 5) (i := 0) dX1_init_4 rfl rfl rfl ?_
  refine en_new (t := 4) (pc' := 8) (N := 6) (a' := 86) (n' := 84) (ce' := 1) (sl' := 6) (by decide) rfl ck_X1_9 cb_X4 tb_in_X4 tb_ws4 tb_ty4 tb_df4 (zP_le hz (Nat.le_of_ble_eq_true rfl)) (zP_le hl (Nat.le_of_ble_eq_true rfl)) rfl rfl dX1_init_5 rfl ⟨(Nat.le_of_ble_eq_true rfl), (Nat.le_of_ble_eq_true rfl)⟩ rfl rfl rfl rfl ?_
  refine ev_dup (pc' := 9) dX1_init_8 rfl rfl ?_
  refine ev_callI (pc' := 12) (rm' := rX4_init) (b := 86) (av := []) (rest := [.ref 86, .ref 85]) co_X1_11 ci_X4_init rfl dX1_init_9 rfl rfl rfl (Nat.le_of_ble_eq_true rfl) ⟨(Nat.le_of_ble_eq_true rfl), (Nat.le_of_ble_eq_true rfl)⟩ ⟨(Nat.le_of_ble_eq_true rfl), (Nat.le_of_ble_eq_true rfl)⟩ ?_
  refine t_X4_init_86 (zP_le hz (Nat.le_of_ble_eq_true rfl)) (zP_le hl (Nat.le_of_ble_eq_true rfl)) ?_
  refine ev_sl (ce' := 3) (sl' := 27) rfl rfl ?_
  refine ev_putF (pc' := 15) (R' := rfL pR_84) fo_X1_12 dX1_init_12 rfl rfl rfl rfl (fun r hr => by cases hr; exact ⟨rfl, rfl⟩) (fun q => ⟨rfl, rfl⟩) rfl ?_
  refine ev_aload_n (pc' := 16) (i := 0) dX1_init_15 rfl rfl rfl ?_
  refine ev_bipush (pc' := 18) (v := 10) dX1_init_16 rfl kb_10 ?_
  refine en_I (pc' := 20) (N := 10) (a' := 89) (n' := 87) (ce' := 4) (sl' := 37) (zP_le hz (Nat.le_of_ble_eq_true rfl)) (zP_le hl (Nat.le_of_ble_eq_true rfl)) rfl rfl dX1_init_18 rfl rfl (Nat.le_of_ble_eq_true rfl) ⟨(Nat.le_of_ble_eq_true rfl), (Nat.le_of_ble_eq_true rfl)⟩ rfl rfl rfl rfl ?_
  refine ev_putF (pc' := 23) (R' := rfL pR_85) fo_X1_18 dX1_init_20 rfl rfl rfl rfl (fun r hr => by cases hr; exact ⟨rfl, rfl⟩) (fun q => ⟨rfl, rfl⟩) rfl ?_
  refine ev_vret dX1_init_23 rfl ⟨Nat.le_refl _, Nat.le_refl _⟩ ?_
  exact k
def pR_86 : List (Nat × Nat × Nat) := (5, 6, 85) :: pR_85
def pR_87 : List (Nat × Nat × Nat) := (91, 0, 92) :: pR_86
def pR_88 : List (Nat × Nat × Nat) := (91, 1, 93) :: pR_87
set_option maxRecDepth 4000 in
theorem t_X4_init_91 {g : ma_G} {Post : ma_P} {I : ma_I} {L : ma_L} (hz : zP 89 I) (hl : zP 89 L) (k : Post none (hsP 91) I L (rfL pR_88) 91) : CT g yX4_init cX4_init 1 none rX4_init [.ref 91] Post (hsP 89) I L (rfL pR_86) 89 := by
  refine ct_of (lv := [some (.ref 91)]) (by decide) (Nat.le_of_ble_eq_true rfl) rfl ?_
  refine ev_aload_n (pc' := 1) (i := 0) dX4_init_0 rfl rfl rfl ?_
  refine ev_obj (pc' := 4) ob_X4_3 dX4_init_1 rfl ob_i ob_c (Nat.le_of_ble_eq_true rfl) (Nat.le_of_ble_eq_true rfl) ?_
  refine ev_aload_n (pc' := 5) (i := 0) dX4_init_4 rfl rfl rfl ?_
  refine ev_bipush (pc' := 7) (v := 16) dX4_init_5 rfl kb_16 ?_
  refine en_L (pc' := 9) (N := 16) (a' := 92) (n' := 90) (ce' := 1) (sl' := 16) (zP_le hz (Nat.le_of_ble_eq_true rfl)) (zP_le hl (Nat.le_of_ble_eq_true rfl)) rfl rfl dX4_init_7 rfl rfl (Nat.le_of_ble_eq_true rfl) ⟨(Nat.le_of_ble_eq_true rfl), (Nat.le_of_ble_eq_true rfl)⟩ rfl rfl rfl rfl ?_
  refine ev_putF (pc' := 12) (R' := rfL pR_87) fo_X4_9 dX4_init_9 rfl rfl rfl rfl (fun r hr => by cases hr; exact ⟨rfl, rfl⟩) (fun q => ⟨rfl, rfl⟩) rfl ?_
  refine ev_aload_n (pc' := 13) (i := 0) dX4_init_12 rfl rfl rfl ?_
  refine ev_iconst (pc' := 14) (v := 5) dX4_init_13 rfl ki_5 ?_
  refine en_L (pc' := 16) (N := 5) (a' := 93) (n' := 91) (ce' := 2) (sl' := 21) (zP_le hz (Nat.le_of_ble_eq_true rfl)) (zP_le hl (Nat.le_of_ble_eq_true rfl)) rfl rfl dX4_init_14 rfl rfl (Nat.le_of_ble_eq_true rfl) ⟨(Nat.le_of_ble_eq_true rfl), (Nat.le_of_ble_eq_true rfl)⟩ rfl rfl rfl rfl ?_
  refine ev_putF (pc' := 19) (R' := rfL pR_88) fo_X4_15 dX4_init_16 rfl rfl rfl rfl (fun r hr => by cases hr; exact ⟨rfl, rfl⟩) (fun q => ⟨rfl, rfl⟩) rfl ?_
  refine ev_vret dX4_init_19 rfl ⟨Nat.le_refl _, Nat.le_refl _⟩ ?_
  exact k
def pR_89 : List (Nat × Nat × Nat) := (90, 1, 91) :: pR_88
def pR_90 : List (Nat × Nat × Nat) := (90, 2, 94) :: pR_89
set_option maxRecDepth 4000 in
theorem t_X1_init_90 {g : ma_G} {Post : ma_P} {I : ma_I} {L : ma_L} (hz : zP 88 I) (hl : zP 88 L) (k : Post none (hsP 92) I L (rfL pR_90) 92) : CT g yX1_init cX1_init 1 none rX1_init [.ref 90] Post (hsP 88) I L (rfL pR_86) 88 := by
  refine ct_of (lv := [some (.ref 90)]) (by decide) (Nat.le_of_ble_eq_true rfl) rfl ?_
  refine ev_aload_n (pc' := 1) (i := 0) dX1_init_0 rfl rfl rfl ?_
  refine ev_obj (pc' := 4) ob_X1_3 dX1_init_1 rfl ob_i ob_c (Nat.le_of_ble_eq_true rfl) (Nat.le_of_ble_eq_true rfl) ?_
  refine ev_aload_n (pc' := 5) (i := 0) dX1_init_4 rfl rfl rfl ?_
  refine en_new (t := 4) (pc' := 8) (N := 6) (a' := 91) (n' := 89) (ce' := 1) (sl' := 6) (by decide) rfl ck_X1_9 cb_X4 tb_in_X4 tb_ws4 tb_ty4 tb_df4 (zP_le hz (Nat.le_of_ble_eq_true rfl)) (zP_le hl (Nat.le_of_ble_eq_true rfl)) rfl rfl dX1_init_5 rfl ⟨(Nat.le_of_ble_eq_true rfl), (Nat.le_of_ble_eq_true rfl)⟩ rfl rfl rfl rfl ?_
  refine ev_dup (pc' := 9) dX1_init_8 rfl rfl ?_
  refine ev_callI (pc' := 12) (rm' := rX4_init) (b := 91) (av := []) (rest := [.ref 91, .ref 90]) co_X1_11 ci_X4_init rfl dX1_init_9 rfl rfl rfl (Nat.le_of_ble_eq_true rfl) ⟨(Nat.le_of_ble_eq_true rfl), (Nat.le_of_ble_eq_true rfl)⟩ ⟨(Nat.le_of_ble_eq_true rfl), (Nat.le_of_ble_eq_true rfl)⟩ ?_
  refine t_X4_init_91 (zP_le hz (Nat.le_of_ble_eq_true rfl)) (zP_le hl (Nat.le_of_ble_eq_true rfl)) ?_
  refine ev_sl (ce' := 3) (sl' := 27) rfl rfl ?_
  refine ev_putF (pc' := 15) (R' := rfL pR_89) fo_X1_12 dX1_init_12 rfl rfl rfl rfl (fun r hr => by cases hr; exact ⟨rfl, rfl⟩) (fun q => ⟨rfl, rfl⟩) rfl ?_
  refine ev_aload_n (pc' := 16) (i := 0) dX1_init_15 rfl rfl rfl ?_
  refine ev_bipush (pc' := 18) (v := 10) dX1_init_16 rfl kb_10 ?_
  refine en_I (pc' := 20) (N := 10) (a' := 94) (n' := 92) (ce' := 4) (sl' := 37) (zP_le hz (Nat.le_of_ble_eq_true rfl)) (zP_le hl (Nat.le_of_ble_eq_true rfl)) rfl rfl dX1_init_18 rfl rfl (Nat.le_of_ble_eq_true rfl) ⟨(Nat.le_of_ble_eq_true rfl), (Nat.le_of_ble_eq_true rfl)⟩ rfl rfl rfl rfl ?_
  refine ev_putF (pc' := 23) (R' := rfL pR_90) fo_X1_18 dX1_init_20 rfl rfl rfl rfl (fun r hr => by cases hr; exact ⟨rfl, rfl⟩) (fun q => ⟨rfl, rfl⟩) rfl ?_
  refine ev_vret dX1_init_23 rfl ⟨Nat.le_refl _, Nat.le_refl _⟩ ?_
  exact k
def pR_91 : List (Nat × Nat × Nat) := (5, 7, 90) :: pR_90
def pR_92 : List (Nat × Nat × Nat) := (96, 0, 97) :: pR_91
def pR_93 : List (Nat × Nat × Nat) := (96, 1, 98) :: pR_92
set_option maxRecDepth 4000 in
theorem t_X4_init_96 {g : ma_G} {Post : ma_P} {I : ma_I} {L : ma_L} (hz : zP 94 I) (hl : zP 94 L) (k : Post none (hsP 96) I L (rfL pR_93) 96) : CT g yX4_init cX4_init 1 none rX4_init [.ref 96] Post (hsP 94) I L (rfL pR_91) 94 := by
  refine ct_of (lv := [some (.ref 96)]) (by decide) (Nat.le_of_ble_eq_true rfl) rfl ?_
  refine ev_aload_n (pc' := 1) (i := 0) dX4_init_0 rfl rfl rfl ?_
  refine ev_obj (pc' := 4) ob_X4_3 dX4_init_1 rfl ob_i ob_c (Nat.le_of_ble_eq_true rfl) (Nat.le_of_ble_eq_true rfl) ?_
  refine ev_aload_n (pc' := 5) (i := 0) dX4_init_4 rfl rfl rfl ?_
  refine ev_bipush (pc' := 7) (v := 16) dX4_init_5 rfl kb_16 ?_
  refine en_L (pc' := 9) (N := 16) (a' := 97) (n' := 95) (ce' := 1) (sl' := 16) (zP_le hz (Nat.le_of_ble_eq_true rfl)) (zP_le hl (Nat.le_of_ble_eq_true rfl)) rfl rfl dX4_init_7 rfl rfl (Nat.le_of_ble_eq_true rfl) ⟨(Nat.le_of_ble_eq_true rfl), (Nat.le_of_ble_eq_true rfl)⟩ rfl rfl rfl rfl ?_
  refine ev_putF (pc' := 12) (R' := rfL pR_92) fo_X4_9 dX4_init_9 rfl rfl rfl rfl (fun r hr => by cases hr; exact ⟨rfl, rfl⟩) (fun q => ⟨rfl, rfl⟩) rfl ?_
  refine ev_aload_n (pc' := 13) (i := 0) dX4_init_12 rfl rfl rfl ?_
  refine ev_iconst (pc' := 14) (v := 5) dX4_init_13 rfl ki_5 ?_
  refine en_L (pc' := 16) (N := 5) (a' := 98) (n' := 96) (ce' := 2) (sl' := 21) (zP_le hz (Nat.le_of_ble_eq_true rfl)) (zP_le hl (Nat.le_of_ble_eq_true rfl)) rfl rfl dX4_init_14 rfl rfl (Nat.le_of_ble_eq_true rfl) ⟨(Nat.le_of_ble_eq_true rfl), (Nat.le_of_ble_eq_true rfl)⟩ rfl rfl rfl rfl ?_
  refine ev_putF (pc' := 19) (R' := rfL pR_93) fo_X4_15 dX4_init_16 rfl rfl rfl rfl (fun r hr => by cases hr; exact ⟨rfl, rfl⟩) (fun q => ⟨rfl, rfl⟩) rfl ?_
  refine ev_vret dX4_init_19 rfl ⟨Nat.le_refl _, Nat.le_refl _⟩ ?_
  exact k
def pR_94 : List (Nat × Nat × Nat) := (95, 1, 96) :: pR_93
def pR_95 : List (Nat × Nat × Nat) := (95, 2, 99) :: pR_94
set_option maxRecDepth 4000 in
theorem t_X1_init_95 {g : ma_G} {Post : ma_P} {I : ma_I} {L : ma_L} (hz : zP 93 I) (hl : zP 93 L) (k : Post none (hsP 97) I L (rfL pR_95) 97) : CT g yX1_init cX1_init 1 none rX1_init [.ref 95] Post (hsP 93) I L (rfL pR_91) 93 := by
  refine ct_of (lv := [some (.ref 95)]) (by decide) (Nat.le_of_ble_eq_true rfl) rfl ?_
  refine ev_aload_n (pc' := 1) (i := 0) dX1_init_0 rfl rfl rfl ?_
  refine ev_obj (pc' := 4) ob_X1_3 dX1_init_1 rfl ob_i ob_c (Nat.le_of_ble_eq_true rfl) (Nat.le_of_ble_eq_true rfl) ?_
  refine ev_aload_n (pc' := 5) (i := 0) dX1_init_4 rfl rfl rfl ?_
  refine en_new (t := 4) (pc' := 8) (N := 6) (a' := 96) (n' := 94) (ce' := 1) (sl' := 6) (by decide) rfl ck_X1_9 cb_X4 tb_in_X4 tb_ws4 tb_ty4 tb_df4 (zP_le hz (Nat.le_of_ble_eq_true rfl)) (zP_le hl (Nat.le_of_ble_eq_true rfl)) rfl rfl dX1_init_5 rfl ⟨(Nat.le_of_ble_eq_true rfl), (Nat.le_of_ble_eq_true rfl)⟩ rfl rfl rfl rfl ?_
  refine ev_dup (pc' := 9) dX1_init_8 rfl rfl ?_
  refine ev_callI (pc' := 12) (rm' := rX4_init) (b := 96) (av := []) (rest := [.ref 96, .ref 95]) co_X1_11 ci_X4_init rfl dX1_init_9 rfl rfl rfl (Nat.le_of_ble_eq_true rfl) ⟨(Nat.le_of_ble_eq_true rfl), (Nat.le_of_ble_eq_true rfl)⟩ ⟨(Nat.le_of_ble_eq_true rfl), (Nat.le_of_ble_eq_true rfl)⟩ ?_
  refine t_X4_init_96 (zP_le hz (Nat.le_of_ble_eq_true rfl)) (zP_le hl (Nat.le_of_ble_eq_true rfl)) ?_
  refine ev_sl (ce' := 3) (sl' := 27) rfl rfl ?_
  refine ev_putF (pc' := 15) (R' := rfL pR_94) fo_X1_12 dX1_init_12 rfl rfl rfl rfl (fun r hr => by cases hr; exact ⟨rfl, rfl⟩) (fun q => ⟨rfl, rfl⟩) rfl ?_
  refine ev_aload_n (pc' := 16) (i := 0) dX1_init_15 rfl rfl rfl ?_
  refine ev_bipush (pc' := 18) (v := 10) dX1_init_16 rfl kb_10 ?_
  refine en_I (pc' := 20) (N := 10) (a' := 99) (n' := 97) (ce' := 4) (sl' := 37) (zP_le hz (Nat.le_of_ble_eq_true rfl)) (zP_le hl (Nat.le_of_ble_eq_true rfl)) rfl rfl dX1_init_18 rfl rfl (Nat.le_of_ble_eq_true rfl) ⟨(Nat.le_of_ble_eq_true rfl), (Nat.le_of_ble_eq_true rfl)⟩ rfl rfl rfl rfl ?_
  refine ev_putF (pc' := 23) (R' := rfL pR_95) fo_X1_18 dX1_init_20 rfl rfl rfl rfl (fun r hr => by cases hr; exact ⟨rfl, rfl⟩) (fun q => ⟨rfl, rfl⟩) rfl ?_
  refine ev_vret dX1_init_23 rfl ⟨Nat.le_refl _, Nat.le_refl _⟩ ?_
  exact k
def pR_96 : List (Nat × Nat × Nat) := (5, 8, 95) :: pR_95
def pR_97 : List (Nat × Nat × Nat) := (101, 0, 102) :: pR_96
def pR_98 : List (Nat × Nat × Nat) := (101, 1, 103) :: pR_97
set_option maxRecDepth 4000 in
theorem t_X4_init_101 {g : ma_G} {Post : ma_P} {I : ma_I} {L : ma_L} (hz : zP 99 I) (hl : zP 99 L) (k : Post none (hsP 101) I L (rfL pR_98) 101) : CT g yX4_init cX4_init 1 none rX4_init [.ref 101] Post (hsP 99) I L (rfL pR_96) 99 := by
  refine ct_of (lv := [some (.ref 101)]) (by decide) (Nat.le_of_ble_eq_true rfl) rfl ?_
  refine ev_aload_n (pc' := 1) (i := 0) dX4_init_0 rfl rfl rfl ?_
  refine ev_obj (pc' := 4) ob_X4_3 dX4_init_1 rfl ob_i ob_c (Nat.le_of_ble_eq_true rfl) (Nat.le_of_ble_eq_true rfl) ?_
  refine ev_aload_n (pc' := 5) (i := 0) dX4_init_4 rfl rfl rfl ?_
  refine ev_bipush (pc' := 7) (v := 16) dX4_init_5 rfl kb_16 ?_
  refine en_L (pc' := 9) (N := 16) (a' := 102) (n' := 100) (ce' := 1) (sl' := 16) (zP_le hz (Nat.le_of_ble_eq_true rfl)) (zP_le hl (Nat.le_of_ble_eq_true rfl)) rfl rfl dX4_init_7 rfl rfl (Nat.le_of_ble_eq_true rfl) ⟨(Nat.le_of_ble_eq_true rfl), (Nat.le_of_ble_eq_true rfl)⟩ rfl rfl rfl rfl ?_
  refine ev_putF (pc' := 12) (R' := rfL pR_97) fo_X4_9 dX4_init_9 rfl rfl rfl rfl (fun r hr => by cases hr; exact ⟨rfl, rfl⟩) (fun q => ⟨rfl, rfl⟩) rfl ?_
  refine ev_aload_n (pc' := 13) (i := 0) dX4_init_12 rfl rfl rfl ?_
  refine ev_iconst (pc' := 14) (v := 5) dX4_init_13 rfl ki_5 ?_
  refine en_L (pc' := 16) (N := 5) (a' := 103) (n' := 101) (ce' := 2) (sl' := 21) (zP_le hz (Nat.le_of_ble_eq_true rfl)) (zP_le hl (Nat.le_of_ble_eq_true rfl)) rfl rfl dX4_init_14 rfl rfl (Nat.le_of_ble_eq_true rfl) ⟨(Nat.le_of_ble_eq_true rfl), (Nat.le_of_ble_eq_true rfl)⟩ rfl rfl rfl rfl ?_
  refine ev_putF (pc' := 19) (R' := rfL pR_98) fo_X4_15 dX4_init_16 rfl rfl rfl rfl (fun r hr => by cases hr; exact ⟨rfl, rfl⟩) (fun q => ⟨rfl, rfl⟩) rfl ?_
  refine ev_vret dX4_init_19 rfl ⟨Nat.le_refl _, Nat.le_refl _⟩ ?_
  exact k
def pR_99 : List (Nat × Nat × Nat) := (100, 1, 101) :: pR_98
def pR_100 : List (Nat × Nat × Nat) := (100, 2, 104) :: pR_99
set_option maxRecDepth 4000 in
theorem t_X1_init_100 {g : ma_G} {Post : ma_P} {I : ma_I} {L : ma_L} (hz : zP 98 I) (hl : zP 98 L) (k : Post none (hsP 102) I L (rfL pR_100) 102) : CT g yX1_init cX1_init 1 none rX1_init [.ref 100] Post (hsP 98) I L (rfL pR_96) 98 := by
  refine ct_of (lv := [some (.ref 100)]) (by decide) (Nat.le_of_ble_eq_true rfl) rfl ?_
  refine ev_aload_n (pc' := 1) (i := 0) dX1_init_0 rfl rfl rfl ?_
  refine ev_obj (pc' := 4) ob_X1_3 dX1_init_1 rfl ob_i ob_c (Nat.le_of_ble_eq_true rfl) (Nat.le_of_ble_eq_true rfl) ?_
  refine ev_aload_n (pc' := 5) (i := 0) dX1_init_4 rfl rfl rfl ?_
  refine en_new (t := 4) (pc' := 8) (N := 6) (a' := 101) (n' := 99) (ce' := 1) (sl' := 6) (by decide) rfl ck_X1_9 cb_X4 tb_in_X4 tb_ws4 tb_ty4 tb_df4 (zP_le hz (Nat.le_of_ble_eq_true rfl)) (zP_le hl (Nat.le_of_ble_eq_true rfl)) rfl rfl dX1_init_5 rfl ⟨(Nat.le_of_ble_eq_true rfl), (Nat.le_of_ble_eq_true rfl)⟩ rfl rfl rfl rfl ?_
  refine ev_dup (pc' := 9) dX1_init_8 rfl rfl ?_
  refine ev_callI (pc' := 12) (rm' := rX4_init) (b := 101) (av := []) (rest := [.ref 101, .ref 100]) co_X1_11 ci_X4_init rfl dX1_init_9 rfl rfl rfl (Nat.le_of_ble_eq_true rfl) ⟨(Nat.le_of_ble_eq_true rfl), (Nat.le_of_ble_eq_true rfl)⟩ ⟨(Nat.le_of_ble_eq_true rfl), (Nat.le_of_ble_eq_true rfl)⟩ ?_
  refine t_X4_init_101 (zP_le hz (Nat.le_of_ble_eq_true rfl)) (zP_le hl (Nat.le_of_ble_eq_true rfl)) ?_
  refine ev_sl (ce' := 3) (sl' := 27) rfl rfl ?_
  refine ev_putF (pc' := 15) (R' := rfL pR_99) fo_X1_12 dX1_init_12 rfl rfl rfl rfl (fun r hr => by cases hr; exact ⟨rfl, rfl⟩) (fun q => ⟨rfl, rfl⟩) rfl ?_
  refine ev_aload_n (pc' := 16) (i := 0) dX1_init_15 rfl rfl rfl ?_
  refine ev_bipush (pc' := 18) (v := 10) dX1_init_16 rfl kb_10 ?_
  refine en_I (pc' := 20) (N := 10) (a' := 104) (n' := 102) (ce' := 4) (sl' := 37) (zP_le hz (Nat.le_of_ble_eq_true rfl)) (zP_le hl (Nat.le_of_ble_eq_true rfl)) rfl rfl dX1_init_18 rfl rfl (Nat.le_of_ble_eq_true rfl) ⟨(Nat.le_of_ble_eq_true rfl), (Nat.le_of_ble_eq_true rfl)⟩ rfl rfl rfl rfl ?_
  refine ev_putF (pc' := 23) (R' := rfL pR_100) fo_X1_18 dX1_init_20 rfl rfl rfl rfl (fun r hr => by cases hr; exact ⟨rfl, rfl⟩) (fun q => ⟨rfl, rfl⟩) rfl ?_
  refine ev_vret dX1_init_23 rfl ⟨Nat.le_refl _, Nat.le_refl _⟩ ?_
  exact k
def pR_101 : List (Nat × Nat × Nat) := (5, 9, 100) :: pR_100
def pR_102 : List (Nat × Nat × Nat) := (106, 0, 107) :: pR_101
def pR_103 : List (Nat × Nat × Nat) := (106, 1, 108) :: pR_102
set_option maxRecDepth 4000 in
theorem t_X4_init_106 {g : ma_G} {Post : ma_P} {I : ma_I} {L : ma_L} (hz : zP 104 I) (hl : zP 104 L) (k : Post none (hsP 106) I L (rfL pR_103) 106) : CT g yX4_init cX4_init 1 none rX4_init [.ref 106] Post (hsP 104) I L (rfL pR_101) 104 := by
  refine ct_of (lv := [some (.ref 106)]) (by decide) (Nat.le_of_ble_eq_true rfl) rfl ?_
  refine ev_aload_n (pc' := 1) (i := 0) dX4_init_0 rfl rfl rfl ?_
  refine ev_obj (pc' := 4) ob_X4_3 dX4_init_1 rfl ob_i ob_c (Nat.le_of_ble_eq_true rfl) (Nat.le_of_ble_eq_true rfl) ?_
  refine ev_aload_n (pc' := 5) (i := 0) dX4_init_4 rfl rfl rfl ?_
  refine ev_bipush (pc' := 7) (v := 16) dX4_init_5 rfl kb_16 ?_
  refine en_L (pc' := 9) (N := 16) (a' := 107) (n' := 105) (ce' := 1) (sl' := 16) (zP_le hz (Nat.le_of_ble_eq_true rfl)) (zP_le hl (Nat.le_of_ble_eq_true rfl)) rfl rfl dX4_init_7 rfl rfl (Nat.le_of_ble_eq_true rfl) ⟨(Nat.le_of_ble_eq_true rfl), (Nat.le_of_ble_eq_true rfl)⟩ rfl rfl rfl rfl ?_
  refine ev_putF (pc' := 12) (R' := rfL pR_102) fo_X4_9 dX4_init_9 rfl rfl rfl rfl (fun r hr => by cases hr; exact ⟨rfl, rfl⟩) (fun q => ⟨rfl, rfl⟩) rfl ?_
  refine ev_aload_n (pc' := 13) (i := 0) dX4_init_12 rfl rfl rfl ?_
  refine ev_iconst (pc' := 14) (v := 5) dX4_init_13 rfl ki_5 ?_
  refine en_L (pc' := 16) (N := 5) (a' := 108) (n' := 106) (ce' := 2) (sl' := 21) (zP_le hz (Nat.le_of_ble_eq_true rfl)) (zP_le hl (Nat.le_of_ble_eq_true rfl)) rfl rfl dX4_init_14 rfl rfl (Nat.le_of_ble_eq_true rfl) ⟨(Nat.le_of_ble_eq_true rfl), (Nat.le_of_ble_eq_true rfl)⟩ rfl rfl rfl rfl ?_
  refine ev_putF (pc' := 19) (R' := rfL pR_103) fo_X4_15 dX4_init_16 rfl rfl rfl rfl (fun r hr => by cases hr; exact ⟨rfl, rfl⟩) (fun q => ⟨rfl, rfl⟩) rfl ?_
  refine ev_vret dX4_init_19 rfl ⟨Nat.le_refl _, Nat.le_refl _⟩ ?_
  exact k
def pR_104 : List (Nat × Nat × Nat) := (105, 1, 106) :: pR_103
def pR_105 : List (Nat × Nat × Nat) := (105, 2, 109) :: pR_104
set_option maxRecDepth 4000 in
theorem t_X1_init_105 {g : ma_G} {Post : ma_P} {I : ma_I} {L : ma_L} (hz : zP 103 I) (hl : zP 103 L) (k : Post none (hsP 107) I L (rfL pR_105) 107) : CT g yX1_init cX1_init 1 none rX1_init [.ref 105] Post (hsP 103) I L (rfL pR_101) 103 := by
  refine ct_of (lv := [some (.ref 105)]) (by decide) (Nat.le_of_ble_eq_true rfl) rfl ?_
  refine ev_aload_n (pc' := 1) (i := 0) dX1_init_0 rfl rfl rfl ?_
  refine ev_obj (pc' := 4) ob_X1_3 dX1_init_1 rfl ob_i ob_c (Nat.le_of_ble_eq_true rfl) (Nat.le_of_ble_eq_true rfl) ?_
  refine ev_aload_n (pc' := 5) (i := 0) dX1_init_4 rfl rfl rfl ?_
  refine en_new (t := 4) (pc' := 8) (N := 6) (a' := 106) (n' := 104) (ce' := 1) (sl' := 6) (by decide) rfl ck_X1_9 cb_X4 tb_in_X4 tb_ws4 tb_ty4 tb_df4 (zP_le hz (Nat.le_of_ble_eq_true rfl)) (zP_le hl (Nat.le_of_ble_eq_true rfl)) rfl rfl dX1_init_5 rfl ⟨(Nat.le_of_ble_eq_true rfl), (Nat.le_of_ble_eq_true rfl)⟩ rfl rfl rfl rfl ?_
  refine ev_dup (pc' := 9) dX1_init_8 rfl rfl ?_
  refine ev_callI (pc' := 12) (rm' := rX4_init) (b := 106) (av := []) (rest := [.ref 106, .ref 105]) co_X1_11 ci_X4_init rfl dX1_init_9 rfl rfl rfl (Nat.le_of_ble_eq_true rfl) ⟨(Nat.le_of_ble_eq_true rfl), (Nat.le_of_ble_eq_true rfl)⟩ ⟨(Nat.le_of_ble_eq_true rfl), (Nat.le_of_ble_eq_true rfl)⟩ ?_
  refine t_X4_init_106 (zP_le hz (Nat.le_of_ble_eq_true rfl)) (zP_le hl (Nat.le_of_ble_eq_true rfl)) ?_
  refine ev_sl (ce' := 3) (sl' := 27) rfl rfl ?_
  refine ev_putF (pc' := 15) (R' := rfL pR_104) fo_X1_12 dX1_init_12 rfl rfl rfl rfl (fun r hr => by cases hr; exact ⟨rfl, rfl⟩) (fun q => ⟨rfl, rfl⟩) rfl ?_
  refine ev_aload_n (pc' := 16) (i := 0) dX1_init_15 rfl rfl rfl ?_
  refine ev_bipush (pc' := 18) (v := 10) dX1_init_16 rfl kb_10 ?_
  refine en_I (pc' := 20) (N := 10) (a' := 109) (n' := 107) (ce' := 4) (sl' := 37) (zP_le hz (Nat.le_of_ble_eq_true rfl)) (zP_le hl (Nat.le_of_ble_eq_true rfl)) rfl rfl dX1_init_18 rfl rfl (Nat.le_of_ble_eq_true rfl) ⟨(Nat.le_of_ble_eq_true rfl), (Nat.le_of_ble_eq_true rfl)⟩ rfl rfl rfl rfl ?_
  refine ev_putF (pc' := 23) (R' := rfL pR_105) fo_X1_18 dX1_init_20 rfl rfl rfl rfl (fun r hr => by cases hr; exact ⟨rfl, rfl⟩) (fun q => ⟨rfl, rfl⟩) rfl ?_
  refine ev_vret dX1_init_23 rfl ⟨Nat.le_refl _, Nat.le_refl _⟩ ?_
  exact k
def pR_106 : List (Nat × Nat × Nat) := (5, 10, 105) :: pR_105
def pR_107 : List (Nat × Nat × Nat) := (111, 0, 112) :: pR_106
def pR_108 : List (Nat × Nat × Nat) := (111, 1, 113) :: pR_107
set_option maxRecDepth 4000 in
theorem t_X4_init_111 {g : ma_G} {Post : ma_P} {I : ma_I} {L : ma_L} (hz : zP 109 I) (hl : zP 109 L) (k : Post none (hsP 111) I L (rfL pR_108) 111) : CT g yX4_init cX4_init 1 none rX4_init [.ref 111] Post (hsP 109) I L (rfL pR_106) 109 := by
  refine ct_of (lv := [some (.ref 111)]) (by decide) (Nat.le_of_ble_eq_true rfl) rfl ?_
  refine ev_aload_n (pc' := 1) (i := 0) dX4_init_0 rfl rfl rfl ?_
  refine ev_obj (pc' := 4) ob_X4_3 dX4_init_1 rfl ob_i ob_c (Nat.le_of_ble_eq_true rfl) (Nat.le_of_ble_eq_true rfl) ?_
  refine ev_aload_n (pc' := 5) (i := 0) dX4_init_4 rfl rfl rfl ?_
  refine ev_bipush (pc' := 7) (v := 16) dX4_init_5 rfl kb_16 ?_
  refine en_L (pc' := 9) (N := 16) (a' := 112) (n' := 110) (ce' := 1) (sl' := 16) (zP_le hz (Nat.le_of_ble_eq_true rfl)) (zP_le hl (Nat.le_of_ble_eq_true rfl)) rfl rfl dX4_init_7 rfl rfl (Nat.le_of_ble_eq_true rfl) ⟨(Nat.le_of_ble_eq_true rfl), (Nat.le_of_ble_eq_true rfl)⟩ rfl rfl rfl rfl ?_
  refine ev_putF (pc' := 12) (R' := rfL pR_107) fo_X4_9 dX4_init_9 rfl rfl rfl rfl (fun r hr => by cases hr; exact ⟨rfl, rfl⟩) (fun q => ⟨rfl, rfl⟩) rfl ?_
  refine ev_aload_n (pc' := 13) (i := 0) dX4_init_12 rfl rfl rfl ?_
  refine ev_iconst (pc' := 14) (v := 5) dX4_init_13 rfl ki_5 ?_
  refine en_L (pc' := 16) (N := 5) (a' := 113) (n' := 111) (ce' := 2) (sl' := 21) (zP_le hz (Nat.le_of_ble_eq_true rfl)) (zP_le hl (Nat.le_of_ble_eq_true rfl)) rfl rfl dX4_init_14 rfl rfl (Nat.le_of_ble_eq_true rfl) ⟨(Nat.le_of_ble_eq_true rfl), (Nat.le_of_ble_eq_true rfl)⟩ rfl rfl rfl rfl ?_
  refine ev_putF (pc' := 19) (R' := rfL pR_108) fo_X4_15 dX4_init_16 rfl rfl rfl rfl (fun r hr => by cases hr; exact ⟨rfl, rfl⟩) (fun q => ⟨rfl, rfl⟩) rfl ?_
  refine ev_vret dX4_init_19 rfl ⟨Nat.le_refl _, Nat.le_refl _⟩ ?_
  exact k
def pR_109 : List (Nat × Nat × Nat) := (110, 1, 111) :: pR_108
def pR_110 : List (Nat × Nat × Nat) := (110, 2, 114) :: pR_109
set_option maxRecDepth 4000 in
theorem t_X1_init_110 {g : ma_G} {Post : ma_P} {I : ma_I} {L : ma_L} (hz : zP 108 I) (hl : zP 108 L) (k : Post none (hsP 112) I L (rfL pR_110) 112) : CT g yX1_init cX1_init 1 none rX1_init [.ref 110] Post (hsP 108) I L (rfL pR_106) 108 := by
  refine ct_of (lv := [some (.ref 110)]) (by decide) (Nat.le_of_ble_eq_true rfl) rfl ?_
  refine ev_aload_n (pc' := 1) (i := 0) dX1_init_0 rfl rfl rfl ?_
  refine ev_obj (pc' := 4) ob_X1_3 dX1_init_1 rfl ob_i ob_c (Nat.le_of_ble_eq_true rfl) (Nat.le_of_ble_eq_true rfl) ?_
  refine ev_aload_n (pc' := 5) (i := 0) dX1_init_4 rfl rfl rfl ?_
  refine en_new (t := 4) (pc' := 8) (N := 6) (a' := 111) (n' := 109) (ce' := 1) (sl' := 6) (by decide) rfl ck_X1_9 cb_X4 tb_in_X4 tb_ws4 tb_ty4 tb_df4 (zP_le hz (Nat.le_of_ble_eq_true rfl)) (zP_le hl (Nat.le_of_ble_eq_true rfl)) rfl rfl dX1_init_5 rfl ⟨(Nat.le_of_ble_eq_true rfl), (Nat.le_of_ble_eq_true rfl)⟩ rfl rfl rfl rfl ?_
  refine ev_dup (pc' := 9) dX1_init_8 rfl rfl ?_
  refine ev_callI (pc' := 12) (rm' := rX4_init) (b := 111) (av := []) (rest := [.ref 111, .ref 110]) co_X1_11 ci_X4_init rfl dX1_init_9 rfl rfl rfl (Nat.le_of_ble_eq_true rfl) ⟨(Nat.le_of_ble_eq_true rfl), (Nat.le_of_ble_eq_true rfl)⟩ ⟨(Nat.le_of_ble_eq_true rfl), (Nat.le_of_ble_eq_true rfl)⟩ ?_
  refine t_X4_init_111 (zP_le hz (Nat.le_of_ble_eq_true rfl)) (zP_le hl (Nat.le_of_ble_eq_true rfl)) ?_
  refine ev_sl (ce' := 3) (sl' := 27) rfl rfl ?_
  refine ev_putF (pc' := 15) (R' := rfL pR_109) fo_X1_12 dX1_init_12 rfl rfl rfl rfl (fun r hr => by cases hr; exact ⟨rfl, rfl⟩) (fun q => ⟨rfl, rfl⟩) rfl ?_
  refine ev_aload_n (pc' := 16) (i := 0) dX1_init_15 rfl rfl rfl ?_
  refine ev_bipush (pc' := 18) (v := 10) dX1_init_16 rfl kb_10 ?_
  refine en_I (pc' := 20) (N := 10) (a' := 114) (n' := 112) (ce' := 4) (sl' := 37) (zP_le hz (Nat.le_of_ble_eq_true rfl)) (zP_le hl (Nat.le_of_ble_eq_true rfl)) rfl rfl dX1_init_18 rfl rfl (Nat.le_of_ble_eq_true rfl) ⟨(Nat.le_of_ble_eq_true rfl), (Nat.le_of_ble_eq_true rfl)⟩ rfl rfl rfl rfl ?_
  refine ev_putF (pc' := 23) (R' := rfL pR_110) fo_X1_18 dX1_init_20 rfl rfl rfl rfl (fun r hr => by cases hr; exact ⟨rfl, rfl⟩) (fun q => ⟨rfl, rfl⟩) rfl ?_
  refine ev_vret dX1_init_23 rfl ⟨Nat.le_refl _, Nat.le_refl _⟩ ?_
  exact k
def pR_111 : List (Nat × Nat × Nat) := (5, 11, 110) :: pR_110
set_option maxRecDepth 4000 in
theorem t_X7_init_3 {g : ma_G} {Post : ma_P} {I : ma_I} {L : ma_L} (hz : zP 1 I) (hl : zP 1 L) (k : ∀ TX TY : Nat → Int32, (∀ j, j ≤ 256 → TX j = mSb 0 1 8 j) → (∀ j, j ≤ 256 → TY j = mSb 1 0 8 j) → Post none (hsP 112) (cSz (cSz (cSz (cSz (cSz (cSz (cSz (cSz (ma_up (ma_up I 27 TX) 28 TY) 39) 41) 43) 45) 47) 49) 51) 53) (ma_up L 3 (ma_up (L 3) 15 1)) (rfL pR_111) 112) : CT g yX7_init cX7_init 2 none rX7_init [.ref 3] Post (hsP 1) I L (rfL pR_0) 1 := by
  refine ct_of (lv := [some (.ref 3), none]) (by decide) (Nat.le_of_ble_eq_true rfl) rfl ?_
  refine ev_aload_n (pc' := 1) (i := 0) dX7_init_0 rfl rfl rfl ?_
  refine ev_obj (pc' := 4) ob_X7_1 dX7_init_1 rfl ob_i ob_c (Nat.le_of_ble_eq_true rfl) (Nat.le_of_ble_eq_true rfl) ?_
  refine ev_aload_n (pc' := 5) (i := 0) dX7_init_4 rfl rfl rfl ?_
  refine ev_bipush (pc' := 7) (v := 8) dX7_init_5 rfl kb_8 ?_
  refine en_R (t := 12) (pc' := 10) (N := 8) (a' := 4) (n' := 2) (ce' := 1) (sl' := 8) (Or.inl rfl) rfl ck_X7_9 (fun _ h => h.2.2.2.2.2.2.2.2.2.2.2.1) (zP_le hz (Nat.le_of_ble_eq_true rfl)) (zP_le hl (Nat.le_of_ble_eq_true rfl)) rfl rfl dX7_init_7 rfl rfl (Nat.le_of_ble_eq_true rfl) ⟨(Nat.le_of_ble_eq_true rfl), (Nat.le_of_ble_eq_true rfl)⟩ rfl rfl rfl rfl ?_
  refine ev_putF (pc' := 13) (R' := rfL pR_1) fo_X7_11 dX7_init_10 rfl rfl rfl rfl (fun r hr => by cases hr; exact ⟨rfl, rfl⟩) (fun q => ⟨rfl, rfl⟩) rfl ?_
  refine ev_aload_n (pc' := 14) (i := 0) dX7_init_13 rfl rfl rfl ?_
  refine ev_bipush (pc' := 16) (v := 12) dX7_init_14 rfl kb_12 ?_
  refine en_R (t := 13) (pc' := 19) (N := 12) (a' := 5) (n' := 3) (ce' := 2) (sl' := 20) (Or.inr rfl) rfl ck_X7_15 (fun _ h => h.2.2.2.2.2.2.2.2.2.2.2.2) (zP_le hz (Nat.le_of_ble_eq_true rfl)) (zP_le hl (Nat.le_of_ble_eq_true rfl)) rfl rfl dX7_init_16 rfl rfl (Nat.le_of_ble_eq_true rfl) ⟨(Nat.le_of_ble_eq_true rfl), (Nat.le_of_ble_eq_true rfl)⟩ rfl rfl rfl rfl ?_
  refine ev_putF (pc' := 22) (R' := rfL pR_2) fo_X7_17 dX7_init_19 rfl rfl rfl rfl (fun r hr => by cases hr; exact ⟨rfl, rfl⟩) (fun q => ⟨rfl, rfl⟩) rfl ?_
  refine ev_aload_n (pc' := 23) (i := 0) dX7_init_22 rfl rfl rfl ?_
  refine en_new (t := 4) (pc' := 26) (N := 6) (a' := 6) (n' := 4) (ce' := 3) (sl' := 26) (by decide) rfl ck_X7_21 cb_X4 tb_in_X4 tb_ws4 tb_ty4 tb_df4 (zP_le hz (Nat.le_of_ble_eq_true rfl)) (zP_le hl (Nat.le_of_ble_eq_true rfl)) rfl rfl dX7_init_23 rfl ⟨(Nat.le_of_ble_eq_true rfl), (Nat.le_of_ble_eq_true rfl)⟩ rfl rfl rfl rfl ?_
  refine ev_dup (pc' := 27) dX7_init_26 rfl rfl ?_
  refine ev_callI (pc' := 30) (rm' := rX4_init) (b := 6) (av := []) (rest := [.ref 6, .ref 3]) co_X7_23 ci_X4_init rfl dX7_init_27 rfl rfl rfl (Nat.le_of_ble_eq_true rfl) ⟨(Nat.le_of_ble_eq_true rfl), (Nat.le_of_ble_eq_true rfl)⟩ ⟨(Nat.le_of_ble_eq_true rfl), (Nat.le_of_ble_eq_true rfl)⟩ ?_
  refine t_X4_init_6 (zP_le hz (Nat.le_of_ble_eq_true rfl)) (zP_le hl (Nat.le_of_ble_eq_true rfl)) ?_
  refine ev_sl (ce' := 5) (sl' := 47) rfl rfl ?_
  refine ev_putF (pc' := 33) (R' := rfL pR_5) fo_X7_24 dX7_init_30 rfl rfl rfl rfl (fun r hr => by cases hr; exact ⟨rfl, rfl⟩) (fun q => ⟨rfl, rfl⟩) rfl ?_
  refine ev_aload_n (pc' := 34) (i := 0) dX7_init_33 rfl rfl rfl ?_
  refine en_new (t := 4) (pc' := 37) (N := 6) (a' := 9) (n' := 7) (ce' := 6) (sl' := 53) (by decide) rfl ck_X7_21 cb_X4 tb_in_X4 tb_ws4 tb_ty4 tb_df4 (zP_le hz (Nat.le_of_ble_eq_true rfl)) (zP_le hl (Nat.le_of_ble_eq_true rfl)) rfl rfl dX7_init_34 rfl ⟨(Nat.le_of_ble_eq_true rfl), (Nat.le_of_ble_eq_true rfl)⟩ rfl rfl rfl rfl ?_
  refine ev_dup (pc' := 38) dX7_init_37 rfl rfl ?_
  refine ev_callI (pc' := 41) (rm' := rX4_init) (b := 9) (av := []) (rest := [.ref 9, .ref 3]) co_X7_23 ci_X4_init rfl dX7_init_38 rfl rfl rfl (Nat.le_of_ble_eq_true rfl) ⟨(Nat.le_of_ble_eq_true rfl), (Nat.le_of_ble_eq_true rfl)⟩ ⟨(Nat.le_of_ble_eq_true rfl), (Nat.le_of_ble_eq_true rfl)⟩ ?_
  refine t_X4_init_9 (zP_le hz (Nat.le_of_ble_eq_true rfl)) (zP_le hl (Nat.le_of_ble_eq_true rfl)) ?_
  refine ev_sl (ce' := 8) (sl' := 74) rfl rfl ?_
  refine ev_putF (pc' := 44) (R' := rfL pR_8) fo_X7_28 dX7_init_41 rfl rfl rfl rfl (fun r hr => by cases hr; exact ⟨rfl, rfl⟩) (fun q => ⟨rfl, rfl⟩) rfl ?_
  refine ev_aload_n (pc' := 45) (i := 0) dX7_init_44 rfl rfl rfl ?_
  refine en_new (t := 0) (pc' := 48) (N := 10) (a' := 12) (n' := 10) (ce' := 9) (sl' := 84) (by decide) rfl ck_X7_31 cb_X0 tb_in_X0 tb_ws0 tb_ty0 tb_df0 (zP_le hz (Nat.le_of_ble_eq_true rfl)) (zP_le hl (Nat.le_of_ble_eq_true rfl)) rfl rfl dX7_init_45 rfl ⟨(Nat.le_of_ble_eq_true rfl), (Nat.le_of_ble_eq_true rfl)⟩ rfl rfl rfl rfl ?_
  refine ev_dup (pc' := 49) dX7_init_48 rfl rfl ?_
  refine ev_callI (pc' := 52) (rm' := rX0_init) (b := 12) (av := []) (rest := [.ref 12, .ref 3]) co_X7_33 ci_X0_init rfl dX7_init_49 rfl rfl rfl (Nat.le_of_ble_eq_true rfl) ⟨(Nat.le_of_ble_eq_true rfl), (Nat.le_of_ble_eq_true rfl)⟩ ⟨(Nat.le_of_ble_eq_true rfl), (Nat.le_of_ble_eq_true rfl)⟩ ?_
  refine t_X0_init_12 (zP_le hz (Nat.le_of_ble_eq_true rfl)) (zP_le hl (Nat.le_of_ble_eq_true rfl)) ?_
  refine ev_sl (ce' := 22) (sl' := 157) rfl rfl ?_
  refine ev_putF (pc' := 55) (R' := rfL pR_22) fo_X7_34 dX7_init_52 rfl rfl rfl rfl (fun r hr => by cases hr; exact ⟨rfl, rfl⟩) (fun q => ⟨rfl, rfl⟩) rfl ?_
  refine ev_aload_n (pc' := 56) (i := 0) dX7_init_55 rfl rfl rfl ?_
  refine en_new (t := 5) (pc' := 59) (N := 5) (a' := 26) (n' := 24) (ce' := 23) (sl' := 162) (by decide) rfl ck_X7_38 cb_X5 tb_in_X5 tb_ws5 tb_ty5 tb_df5 (zP_le hz (Nat.le_of_ble_eq_true rfl)) (zP_le hl (Nat.le_of_ble_eq_true rfl)) rfl rfl dX7_init_56 rfl ⟨(Nat.le_of_ble_eq_true rfl), (Nat.le_of_ble_eq_true rfl)⟩ rfl rfl rfl rfl ?_
  refine ev_dup (pc' := 60) dX7_init_59 rfl rfl ?_
  refine ev_callI (pc' := 63) (rm' := rX5_init) (b := 26) (av := []) (rest := [.ref 26, .ref 3]) co_X7_40 ci_X5_init rfl dX7_init_60 rfl rfl rfl (Nat.le_of_ble_eq_true rfl) ⟨(Nat.le_of_ble_eq_true rfl), (Nat.le_of_ble_eq_true rfl)⟩ ⟨(Nat.le_of_ble_eq_true rfl), (Nat.le_of_ble_eq_true rfl)⟩ ?_
  refine t_X5_init_26 (zP_le hz (Nat.le_of_ble_eq_true rfl)) (zP_le hl (Nat.le_of_ble_eq_true rfl)) (fun TX TY hTX hTY => ?_)
  refine ev_sl (ce' := 28) (sl' := 703) rfl rfl ?_
  refine ev_putF (pc' := 66) (R' := rfL pR_28) fo_X7_41 dX7_init_63 rfl rfl rfl rfl (fun r hr => by cases hr; exact ⟨rfl, rfl⟩) (fun q => ⟨rfl, rfl⟩) rfl ?_
  refine ev_aload_n (pc' := 67) (i := 0) dX7_init_66 rfl rfl rfl ?_
  refine en_new (t := 2) (pc' := 70) (N := 2) (a' := 32) (n' := 30) (ce' := 29) (sl' := 705) (by decide) rfl ck_X7_45 cb_X2 tb_in_X2 tb_ws2 tb_ty2 tb_df2 (zP_up (zP_up (zP_le hz (Nat.le_of_ble_eq_true rfl)) (Nat.le_of_ble_eq_true rfl)) (Nat.le_of_ble_eq_true rfl)) (zP_le hl (Nat.le_of_ble_eq_true rfl)) rfl rfl dX7_init_67 rfl ⟨(Nat.le_of_ble_eq_true rfl), (Nat.le_of_ble_eq_true rfl)⟩ rfl rfl rfl rfl ?_
  refine ev_dup (pc' := 71) dX7_init_70 rfl rfl ?_
  refine ev_callI (pc' := 74) (rm' := rX2_init) (b := 32) (av := []) (rest := [.ref 32, .ref 3]) co_X7_47 ci_X2_init rfl dX7_init_71 rfl rfl rfl (Nat.le_of_ble_eq_true rfl) ⟨(Nat.le_of_ble_eq_true rfl), (Nat.le_of_ble_eq_true rfl)⟩ ⟨(Nat.le_of_ble_eq_true rfl), (Nat.le_of_ble_eq_true rfl)⟩ ?_
  refine t_X2_init_32 (zP_up (zP_up (zP_le hz (Nat.le_of_ble_eq_true rfl)) (Nat.le_of_ble_eq_true rfl)) (Nat.le_of_ble_eq_true rfl)) (zP_le hl (Nat.le_of_ble_eq_true rfl)) ?_
  refine ev_sl (ce' := 30) (sl' := 1005) rfl rfl ?_
  refine ev_putF (pc' := 77) (R' := rfL pR_30) fo_X7_48 dX7_init_74 rfl rfl rfl rfl (fun r hr => by cases hr; exact ⟨rfl, rfl⟩) (fun q => ⟨rfl, rfl⟩) rfl ?_
  refine ev_aload_n (pc' := 78) (i := 0) dX7_init_77 rfl rfl rfl ?_
  refine ev_iconst (pc' := 79) (v := 4) dX7_init_78 rfl ki_4 ?_
  refine en_L (pc' := 81) (N := 4) (a' := 34) (n' := 32) (ce' := 31) (sl' := 1009) (zP_up (zP_up (zP_le hz (Nat.le_of_ble_eq_true rfl)) (Nat.le_of_ble_eq_true rfl)) (Nat.le_of_ble_eq_true rfl)) (zP_le hl (Nat.le_of_ble_eq_true rfl)) rfl rfl dX7_init_79 rfl rfl (Nat.le_of_ble_eq_true rfl) ⟨(Nat.le_of_ble_eq_true rfl), (Nat.le_of_ble_eq_true rfl)⟩ rfl rfl rfl rfl ?_
  refine ev_putF (pc' := 84) (R' := rfL pR_31) fo_X7_52 dX7_init_81 rfl rfl rfl rfl (fun r hr => by cases hr; exact ⟨rfl, rfl⟩) (fun q => ⟨rfl, rfl⟩) rfl ?_
  refine ev_aload_n (pc' := 85) (i := 0) dX7_init_84 rfl rfl rfl ?_
  refine ev_iconst (pc' := 86) (v := 4) dX7_init_85 rfl ki_4 ?_
  refine en_L (pc' := 88) (N := 4) (a' := 35) (n' := 33) (ce' := 32) (sl' := 1013) (zP_up (zP_up (zP_le hz (Nat.le_of_ble_eq_true rfl)) (Nat.le_of_ble_eq_true rfl)) (Nat.le_of_ble_eq_true rfl)) (zP_le hl (Nat.le_of_ble_eq_true rfl)) rfl rfl dX7_init_86 rfl rfl (Nat.le_of_ble_eq_true rfl) ⟨(Nat.le_of_ble_eq_true rfl), (Nat.le_of_ble_eq_true rfl)⟩ rfl rfl rfl rfl ?_
  refine ev_putF (pc' := 91) (R' := rfL pR_32) fo_X7_56 dX7_init_88 rfl rfl rfl rfl (fun r hr => by cases hr; exact ⟨rfl, rfl⟩) (fun q => ⟨rfl, rfl⟩) rfl ?_
  refine ev_aload_n (pc' := 92) (i := 0) dX7_init_91 rfl rfl rfl ?_
  refine ev_iconst (pc' := 93) (v := 3) dX7_init_92 rfl ki_3 ?_
  refine en_I (pc' := 95) (N := 3) (a' := 36) (n' := 34) (ce' := 33) (sl' := 1016) (zP_up (zP_up (zP_le hz (Nat.le_of_ble_eq_true rfl)) (Nat.le_of_ble_eq_true rfl)) (Nat.le_of_ble_eq_true rfl)) (zP_le hl (Nat.le_of_ble_eq_true rfl)) rfl rfl dX7_init_93 rfl rfl (Nat.le_of_ble_eq_true rfl) ⟨(Nat.le_of_ble_eq_true rfl), (Nat.le_of_ble_eq_true rfl)⟩ rfl rfl rfl rfl ?_
  refine ev_putF (pc' := 98) (R' := rfL pR_33) fo_X7_59 dX7_init_95 rfl rfl rfl rfl (fun r hr => by cases hr; exact ⟨rfl, rfl⟩) (fun q => ⟨rfl, rfl⟩) rfl ?_
  refine ev_aload_n (pc' := 99) (i := 0) dX7_init_98 rfl rfl rfl ?_
  refine ev_iconst (pc' := 100) (v := 5) dX7_init_99 rfl ki_5 ?_
  refine en_I (pc' := 102) (N := 5) (a' := 37) (n' := 35) (ce' := 34) (sl' := 1021) (zP_up (zP_up (zP_le hz (Nat.le_of_ble_eq_true rfl)) (Nat.le_of_ble_eq_true rfl)) (Nat.le_of_ble_eq_true rfl)) (zP_le hl (Nat.le_of_ble_eq_true rfl)) rfl rfl dX7_init_100 rfl rfl (Nat.le_of_ble_eq_true rfl) ⟨(Nat.le_of_ble_eq_true rfl), (Nat.le_of_ble_eq_true rfl)⟩ rfl rfl rfl rfl ?_
  refine ev_putF (pc' := 105) (R' := rfL pR_34) fo_X7_63 dX7_init_102 rfl rfl rfl rfl (fun r hr => by cases hr; exact ⟨rfl, rfl⟩) (fun q => ⟨rfl, rfl⟩) rfl ?_
  refine ev_aload_n (pc' := 106) (i := 0) dX7_init_105 rfl rfl rfl ?_
  refine ev_lconst (pc' := 107) (v := 1) dX7_init_106 rfl kl_1 ?_
  refine ev_putL (pc' := 110) (L' := (ma_up L 3 (ma_up (L 3) 15 1))) fo_X7_66 dX7_init_107 rfl rfl rfl (fun r hr => by cases hr; rfl) rfl ?_
  refine ev_aload_n (pc' := 111) (i := 0) dX7_init_110 rfl rfl rfl ?_
  refine ev_bipush (pc' := 113) (v := 6) dX7_init_111 rfl kb_6 ?_
  refine en_I (pc' := 115) (N := 6) (a' := 38) (n' := 36) (ce' := 35) (sl' := 1027) (zP_up (zP_up (zP_le hz (Nat.le_of_ble_eq_true rfl)) (Nat.le_of_ble_eq_true rfl)) (Nat.le_of_ble_eq_true rfl)) (zP_up (zP_le hl (Nat.le_of_ble_eq_true rfl)) (Nat.le_of_ble_eq_true rfl)) rfl rfl dX7_init_113 rfl rfl (Nat.le_of_ble_eq_true rfl) ⟨(Nat.le_of_ble_eq_true rfl), (Nat.le_of_ble_eq_true rfl)⟩ rfl rfl rfl rfl ?_
  refine ev_putF (pc' := 118) (R' := rfL pR_35) fo_X7_70 dX7_init_115 rfl rfl rfl rfl (fun r hr => by cases hr; exact ⟨rfl, rfl⟩) (fun q => ⟨rfl, rfl⟩) rfl ?_
  refine ev_iconst (pc' := 119) (v := 0) dX7_init_118 rfl ki_0 ?_
  refine ev_istore_n (pc' := 120) (i := 1) (lv' := [some (.ref 3), some (.int 0)]) dX7_init_119 rfl rfl (Nat.le_of_ble_eq_true rfl) rfl rfl ?_
  refine ev_iload_n (pc' := 121) (i := 1) dX7_init_120 rfl rfl rfl ?_
  refine ev_bipush (pc' := 123) (v := 8) dX7_init_121 rfl kb_8 ?_
  refine ev_icmp_ge (tgt := 145) (pc' := 126) dX7_init_123 rfl rfl (fun h => absurd h (by decide)) (fun _ => ?_)
  refine ev_aload_n (pc' := 127) (i := 0) dX7_init_126 rfl rfl rfl ?_
  refine ev_getR (pc' := 130) fo_X7_11 dX7_init_127 rfl rfl rfl rfl ?_
  refine ev_iload_n (pc' := 131) (i := 1) dX7_init_130 rfl rfl rfl ?_
  refine en_new (t := 3) (pc' := 134) (N := 2) (a' := 39) (n' := 37) (ce' := 36) (sl' := 1029) (by decide) rfl ck_X7_9 cb_X3 tb_in_X3 tb_ws3 tb_ty3 tb_df3 (zP_up (zP_up (zP_le hz (Nat.le_of_ble_eq_true rfl)) (Nat.le_of_ble_eq_true rfl)) (Nat.le_of_ble_eq_true rfl)) (zP_up (zP_le hl (Nat.le_of_ble_eq_true rfl)) (Nat.le_of_ble_eq_true rfl)) rfl rfl dX7_init_131 rfl ⟨(Nat.le_of_ble_eq_true rfl), (Nat.le_of_ble_eq_true rfl)⟩ rfl rfl rfl rfl ?_
  refine ev_dup (pc' := 135) dX7_init_134 rfl rfl ?_
  refine ev_callI (pc' := 138) (rm' := rX3_init) (b := 39) (av := []) (rest := [.ref 39, .int 0, .ref 4]) co_X7_73 ci_X3_init rfl dX7_init_135 rfl rfl rfl (Nat.le_of_ble_eq_true rfl) ⟨(Nat.le_of_ble_eq_true rfl), (Nat.le_of_ble_eq_true rfl)⟩ ⟨(Nat.le_of_ble_eq_true rfl), (Nat.le_of_ble_eq_true rfl)⟩ ?_
  refine t_X3_init_39 (zP_up (zP_up (zP_le hz (Nat.le_of_ble_eq_true rfl)) (Nat.le_of_ble_eq_true rfl)) (Nat.le_of_ble_eq_true rfl)) (zP_up (zP_le hl (Nat.le_of_ble_eq_true rfl)) (Nat.le_of_ble_eq_true rfl)) ?_
  refine ev_sl (ce' := 37) (sl' := 1045) rfl rfl ?_
  refine ev_aast (pc' := 139) (j := 0) (R' := rfL pR_37) dX7_init_138 rfl rfl (Or.inl rfl) ⟨by decide, _, rfl, rfl⟩ rfl (Nat.le_of_ble_eq_true rfl) (Nat.le_of_ble_eq_true rfl) rfl ?_
  refine ev_iinc (pc' := 142) (v := 1) (lv' := [some (.ref 3), some (.int 1)]) dX7_init_139 rfl rfl (by decide) (Nat.le_of_ble_eq_true rfl) rfl rfl ?_
  refine ev_goto (tgt := 120) dX7_init_142 rfl ?_
  refine ev_iload_n (pc' := 121) (i := 1) dX7_init_120 rfl rfl rfl ?_
  refine ev_bipush (pc' := 123) (v := 8) dX7_init_121 rfl kb_8 ?_
  refine ev_icmp_ge (tgt := 145) (pc' := 126) dX7_init_123 rfl rfl (fun h => absurd h (by decide)) (fun _ => ?_)
  refine ev_aload_n (pc' := 127) (i := 0) dX7_init_126 rfl rfl rfl ?_
  refine ev_getR (pc' := 130) fo_X7_11 dX7_init_127 rfl rfl rfl rfl ?_
  refine ev_iload_n (pc' := 131) (i := 1) dX7_init_130 rfl rfl rfl ?_
  refine en_new (t := 3) (pc' := 134) (N := 2) (a' := 41) (n' := 39) (ce' := 38) (sl' := 1047) (by decide) rfl ck_X7_9 cb_X3 tb_in_X3 tb_ws3 tb_ty3 tb_df3 (zP_sz (zP_up (zP_up (zP_le hz (Nat.le_of_ble_eq_true rfl)) (Nat.le_of_ble_eq_true rfl)) (Nat.le_of_ble_eq_true rfl)) (Nat.le_of_ble_eq_true rfl)) (zP_up (zP_le hl (Nat.le_of_ble_eq_true rfl)) (Nat.le_of_ble_eq_true rfl)) rfl rfl dX7_init_131 rfl ⟨(Nat.le_of_ble_eq_true rfl), (Nat.le_of_ble_eq_true rfl)⟩ rfl rfl rfl rfl ?_
  refine ev_dup (pc' := 135) dX7_init_134 rfl rfl ?_
  refine ev_callI (pc' := 138) (rm' := rX3_init) (b := 41) (av := []) (rest := [.ref 41, .int 1, .ref 4]) co_X7_73 ci_X3_init rfl dX7_init_135 rfl rfl rfl (Nat.le_of_ble_eq_true rfl) ⟨(Nat.le_of_ble_eq_true rfl), (Nat.le_of_ble_eq_true rfl)⟩ ⟨(Nat.le_of_ble_eq_true rfl), (Nat.le_of_ble_eq_true rfl)⟩ ?_
  refine t_X3_init_41 (zP_sz (zP_up (zP_up (zP_le hz (Nat.le_of_ble_eq_true rfl)) (Nat.le_of_ble_eq_true rfl)) (Nat.le_of_ble_eq_true rfl)) (Nat.le_of_ble_eq_true rfl)) (zP_up (zP_le hl (Nat.le_of_ble_eq_true rfl)) (Nat.le_of_ble_eq_true rfl)) ?_
  refine ev_sl (ce' := 39) (sl' := 1063) rfl rfl ?_
  refine ev_aast (pc' := 139) (j := 1) (R' := rfL pR_39) dX7_init_138 rfl rfl (Or.inl rfl) ⟨by decide, _, rfl, rfl⟩ rfl (Nat.le_of_ble_eq_true rfl) (Nat.le_of_ble_eq_true rfl) rfl ?_
  refine ev_iinc (pc' := 142) (v := 2) (lv' := [some (.ref 3), some (.int 2)]) dX7_init_139 rfl rfl (by decide) (Nat.le_of_ble_eq_true rfl) rfl rfl ?_
  refine ev_goto (tgt := 120) dX7_init_142 rfl ?_
  refine ev_iload_n (pc' := 121) (i := 1) dX7_init_120 rfl rfl rfl ?_
  refine ev_bipush (pc' := 123) (v := 8) dX7_init_121 rfl kb_8 ?_
  refine ev_icmp_ge (tgt := 145) (pc' := 126) dX7_init_123 rfl rfl (fun h => absurd h (by decide)) (fun _ => ?_)
  refine ev_aload_n (pc' := 127) (i := 0) dX7_init_126 rfl rfl rfl ?_
  refine ev_getR (pc' := 130) fo_X7_11 dX7_init_127 rfl rfl rfl rfl ?_
  refine ev_iload_n (pc' := 131) (i := 1) dX7_init_130 rfl rfl rfl ?_
  refine en_new (t := 3) (pc' := 134) (N := 2) (a' := 43) (n' := 41) (ce' := 40) (sl' := 1065) (by decide) rfl ck_X7_9 cb_X3 tb_in_X3 tb_ws3 tb_ty3 tb_df3 (zP_sz (zP_sz (zP_up (zP_up (zP_le hz (Nat.le_of_ble_eq_true rfl)) (Nat.le_of_ble_eq_true rfl)) (Nat.le_of_ble_eq_true rfl)) (Nat.le_of_ble_eq_true rfl)) (Nat.le_of_ble_eq_true rfl)) (zP_up (zP_le hl (Nat.le_of_ble_eq_true rfl)) (Nat.le_of_ble_eq_true rfl)) rfl rfl dX7_init_131 rfl ⟨(Nat.le_of_ble_eq_true rfl), (Nat.le_of_ble_eq_true rfl)⟩ rfl rfl rfl rfl ?_
  refine ev_dup (pc' := 135) dX7_init_134 rfl rfl ?_
  refine ev_callI (pc' := 138) (rm' := rX3_init) (b := 43) (av := []) (rest := [.ref 43, .int 2, .ref 4]) co_X7_73 ci_X3_init rfl dX7_init_135 rfl rfl rfl (Nat.le_of_ble_eq_true rfl) ⟨(Nat.le_of_ble_eq_true rfl), (Nat.le_of_ble_eq_true rfl)⟩ ⟨(Nat.le_of_ble_eq_true rfl), (Nat.le_of_ble_eq_true rfl)⟩ ?_
  refine t_X3_init_43 (zP_sz (zP_sz (zP_up (zP_up (zP_le hz (Nat.le_of_ble_eq_true rfl)) (Nat.le_of_ble_eq_true rfl)) (Nat.le_of_ble_eq_true rfl)) (Nat.le_of_ble_eq_true rfl)) (Nat.le_of_ble_eq_true rfl)) (zP_up (zP_le hl (Nat.le_of_ble_eq_true rfl)) (Nat.le_of_ble_eq_true rfl)) ?_
  refine ev_sl (ce' := 41) (sl' := 1081) rfl rfl ?_
  refine ev_aast (pc' := 139) (j := 2) (R' := rfL pR_41) dX7_init_138 rfl rfl (Or.inl rfl) ⟨by decide, _, rfl, rfl⟩ rfl (Nat.le_of_ble_eq_true rfl) (Nat.le_of_ble_eq_true rfl) rfl ?_
  refine ev_iinc (pc' := 142) (v := 3) (lv' := [some (.ref 3), some (.int 3)]) dX7_init_139 rfl rfl (by decide) (Nat.le_of_ble_eq_true rfl) rfl rfl ?_
  refine ev_goto (tgt := 120) dX7_init_142 rfl ?_
  refine ev_iload_n (pc' := 121) (i := 1) dX7_init_120 rfl rfl rfl ?_
  refine ev_bipush (pc' := 123) (v := 8) dX7_init_121 rfl kb_8 ?_
  refine ev_icmp_ge (tgt := 145) (pc' := 126) dX7_init_123 rfl rfl (fun h => absurd h (by decide)) (fun _ => ?_)
  refine ev_aload_n (pc' := 127) (i := 0) dX7_init_126 rfl rfl rfl ?_
  refine ev_getR (pc' := 130) fo_X7_11 dX7_init_127 rfl rfl rfl rfl ?_
  refine ev_iload_n (pc' := 131) (i := 1) dX7_init_130 rfl rfl rfl ?_
  refine en_new (t := 3) (pc' := 134) (N := 2) (a' := 45) (n' := 43) (ce' := 42) (sl' := 1083) (by decide) rfl ck_X7_9 cb_X3 tb_in_X3 tb_ws3 tb_ty3 tb_df3 (zP_sz (zP_sz (zP_sz (zP_up (zP_up (zP_le hz (Nat.le_of_ble_eq_true rfl)) (Nat.le_of_ble_eq_true rfl)) (Nat.le_of_ble_eq_true rfl)) (Nat.le_of_ble_eq_true rfl)) (Nat.le_of_ble_eq_true rfl)) (Nat.le_of_ble_eq_true rfl)) (zP_up (zP_le hl (Nat.le_of_ble_eq_true rfl)) (Nat.le_of_ble_eq_true rfl)) rfl rfl dX7_init_131 rfl ⟨(Nat.le_of_ble_eq_true rfl), (Nat.le_of_ble_eq_true rfl)⟩ rfl rfl rfl rfl ?_
  refine ev_dup (pc' := 135) dX7_init_134 rfl rfl ?_
  refine ev_callI (pc' := 138) (rm' := rX3_init) (b := 45) (av := []) (rest := [.ref 45, .int 3, .ref 4]) co_X7_73 ci_X3_init rfl dX7_init_135 rfl rfl rfl (Nat.le_of_ble_eq_true rfl) ⟨(Nat.le_of_ble_eq_true rfl), (Nat.le_of_ble_eq_true rfl)⟩ ⟨(Nat.le_of_ble_eq_true rfl), (Nat.le_of_ble_eq_true rfl)⟩ ?_
  refine t_X3_init_45 (zP_sz (zP_sz (zP_sz (zP_up (zP_up (zP_le hz (Nat.le_of_ble_eq_true rfl)) (Nat.le_of_ble_eq_true rfl)) (Nat.le_of_ble_eq_true rfl)) (Nat.le_of_ble_eq_true rfl)) (Nat.le_of_ble_eq_true rfl)) (Nat.le_of_ble_eq_true rfl)) (zP_up (zP_le hl (Nat.le_of_ble_eq_true rfl)) (Nat.le_of_ble_eq_true rfl)) ?_
  refine ev_sl (ce' := 43) (sl' := 1099) rfl rfl ?_
  refine ev_aast (pc' := 139) (j := 3) (R' := rfL pR_43) dX7_init_138 rfl rfl (Or.inl rfl) ⟨by decide, _, rfl, rfl⟩ rfl (Nat.le_of_ble_eq_true rfl) (Nat.le_of_ble_eq_true rfl) rfl ?_
  refine ev_iinc (pc' := 142) (v := 4) (lv' := [some (.ref 3), some (.int 4)]) dX7_init_139 rfl rfl (by decide) (Nat.le_of_ble_eq_true rfl) rfl rfl ?_
  refine ev_goto (tgt := 120) dX7_init_142 rfl ?_
  refine ev_iload_n (pc' := 121) (i := 1) dX7_init_120 rfl rfl rfl ?_
  refine ev_bipush (pc' := 123) (v := 8) dX7_init_121 rfl kb_8 ?_
  refine ev_icmp_ge (tgt := 145) (pc' := 126) dX7_init_123 rfl rfl (fun h => absurd h (by decide)) (fun _ => ?_)
  refine ev_aload_n (pc' := 127) (i := 0) dX7_init_126 rfl rfl rfl ?_
  refine ev_getR (pc' := 130) fo_X7_11 dX7_init_127 rfl rfl rfl rfl ?_
  refine ev_iload_n (pc' := 131) (i := 1) dX7_init_130 rfl rfl rfl ?_
  refine en_new (t := 3) (pc' := 134) (N := 2) (a' := 47) (n' := 45) (ce' := 44) (sl' := 1101) (by decide) rfl ck_X7_9 cb_X3 tb_in_X3 tb_ws3 tb_ty3 tb_df3 (zP_sz (zP_sz (zP_sz (zP_sz (zP_up (zP_up (zP_le hz (Nat.le_of_ble_eq_true rfl)) (Nat.le_of_ble_eq_true rfl)) (Nat.le_of_ble_eq_true rfl)) (Nat.le_of_ble_eq_true rfl)) (Nat.le_of_ble_eq_true rfl)) (Nat.le_of_ble_eq_true rfl)) (Nat.le_of_ble_eq_true rfl)) (zP_up (zP_le hl (Nat.le_of_ble_eq_true rfl)) (Nat.le_of_ble_eq_true rfl)) rfl rfl dX7_init_131 rfl ⟨(Nat.le_of_ble_eq_true rfl), (Nat.le_of_ble_eq_true rfl)⟩ rfl rfl rfl rfl ?_
  refine ev_dup (pc' := 135) dX7_init_134 rfl rfl ?_
  refine ev_callI (pc' := 138) (rm' := rX3_init) (b := 47) (av := []) (rest := [.ref 47, .int 4, .ref 4]) co_X7_73 ci_X3_init rfl dX7_init_135 rfl rfl rfl (Nat.le_of_ble_eq_true rfl) ⟨(Nat.le_of_ble_eq_true rfl), (Nat.le_of_ble_eq_true rfl)⟩ ⟨(Nat.le_of_ble_eq_true rfl), (Nat.le_of_ble_eq_true rfl)⟩ ?_
  refine t_X3_init_47 (zP_sz (zP_sz (zP_sz (zP_sz (zP_up (zP_up (zP_le hz (Nat.le_of_ble_eq_true rfl)) (Nat.le_of_ble_eq_true rfl)) (Nat.le_of_ble_eq_true rfl)) (Nat.le_of_ble_eq_true rfl)) (Nat.le_of_ble_eq_true rfl)) (Nat.le_of_ble_eq_true rfl)) (Nat.le_of_ble_eq_true rfl)) (zP_up (zP_le hl (Nat.le_of_ble_eq_true rfl)) (Nat.le_of_ble_eq_true rfl)) ?_
  refine ev_sl (ce' := 45) (sl' := 1117) rfl rfl ?_
  refine ev_aast (pc' := 139) (j := 4) (R' := rfL pR_45) dX7_init_138 rfl rfl (Or.inl rfl) ⟨by decide, _, rfl, rfl⟩ rfl (Nat.le_of_ble_eq_true rfl) (Nat.le_of_ble_eq_true rfl) rfl ?_
  refine ev_iinc (pc' := 142) (v := 5) (lv' := [some (.ref 3), some (.int 5)]) dX7_init_139 rfl rfl (by decide) (Nat.le_of_ble_eq_true rfl) rfl rfl ?_
  refine ev_goto (tgt := 120) dX7_init_142 rfl ?_
  refine ev_iload_n (pc' := 121) (i := 1) dX7_init_120 rfl rfl rfl ?_
  refine ev_bipush (pc' := 123) (v := 8) dX7_init_121 rfl kb_8 ?_
  refine ev_icmp_ge (tgt := 145) (pc' := 126) dX7_init_123 rfl rfl (fun h => absurd h (by decide)) (fun _ => ?_)
  refine ev_aload_n (pc' := 127) (i := 0) dX7_init_126 rfl rfl rfl ?_
  refine ev_getR (pc' := 130) fo_X7_11 dX7_init_127 rfl rfl rfl rfl ?_
  refine ev_iload_n (pc' := 131) (i := 1) dX7_init_130 rfl rfl rfl ?_
  refine en_new (t := 3) (pc' := 134) (N := 2) (a' := 49) (n' := 47) (ce' := 46) (sl' := 1119) (by decide) rfl ck_X7_9 cb_X3 tb_in_X3 tb_ws3 tb_ty3 tb_df3 (zP_sz (zP_sz (zP_sz (zP_sz (zP_sz (zP_up (zP_up (zP_le hz (Nat.le_of_ble_eq_true rfl)) (Nat.le_of_ble_eq_true rfl)) (Nat.le_of_ble_eq_true rfl)) (Nat.le_of_ble_eq_true rfl)) (Nat.le_of_ble_eq_true rfl)) (Nat.le_of_ble_eq_true rfl)) (Nat.le_of_ble_eq_true rfl)) (Nat.le_of_ble_eq_true rfl)) (zP_up (zP_le hl (Nat.le_of_ble_eq_true rfl)) (Nat.le_of_ble_eq_true rfl)) rfl rfl dX7_init_131 rfl ⟨(Nat.le_of_ble_eq_true rfl), (Nat.le_of_ble_eq_true rfl)⟩ rfl rfl rfl rfl ?_
  refine ev_dup (pc' := 135) dX7_init_134 rfl rfl ?_
  refine ev_callI (pc' := 138) (rm' := rX3_init) (b := 49) (av := []) (rest := [.ref 49, .int 5, .ref 4]) co_X7_73 ci_X3_init rfl dX7_init_135 rfl rfl rfl (Nat.le_of_ble_eq_true rfl) ⟨(Nat.le_of_ble_eq_true rfl), (Nat.le_of_ble_eq_true rfl)⟩ ⟨(Nat.le_of_ble_eq_true rfl), (Nat.le_of_ble_eq_true rfl)⟩ ?_
  refine t_X3_init_49 (zP_sz (zP_sz (zP_sz (zP_sz (zP_sz (zP_up (zP_up (zP_le hz (Nat.le_of_ble_eq_true rfl)) (Nat.le_of_ble_eq_true rfl)) (Nat.le_of_ble_eq_true rfl)) (Nat.le_of_ble_eq_true rfl)) (Nat.le_of_ble_eq_true rfl)) (Nat.le_of_ble_eq_true rfl)) (Nat.le_of_ble_eq_true rfl)) (Nat.le_of_ble_eq_true rfl)) (zP_up (zP_le hl (Nat.le_of_ble_eq_true rfl)) (Nat.le_of_ble_eq_true rfl)) ?_
  refine ev_sl (ce' := 47) (sl' := 1135) rfl rfl ?_
  refine ev_aast (pc' := 139) (j := 5) (R' := rfL pR_47) dX7_init_138 rfl rfl (Or.inl rfl) ⟨by decide, _, rfl, rfl⟩ rfl (Nat.le_of_ble_eq_true rfl) (Nat.le_of_ble_eq_true rfl) rfl ?_
  refine ev_iinc (pc' := 142) (v := 6) (lv' := [some (.ref 3), some (.int 6)]) dX7_init_139 rfl rfl (by decide) (Nat.le_of_ble_eq_true rfl) rfl rfl ?_
  refine ev_goto (tgt := 120) dX7_init_142 rfl ?_
  refine ev_iload_n (pc' := 121) (i := 1) dX7_init_120 rfl rfl rfl ?_
  refine ev_bipush (pc' := 123) (v := 8) dX7_init_121 rfl kb_8 ?_
  refine ev_icmp_ge (tgt := 145) (pc' := 126) dX7_init_123 rfl rfl (fun h => absurd h (by decide)) (fun _ => ?_)
  refine ev_aload_n (pc' := 127) (i := 0) dX7_init_126 rfl rfl rfl ?_
  refine ev_getR (pc' := 130) fo_X7_11 dX7_init_127 rfl rfl rfl rfl ?_
  refine ev_iload_n (pc' := 131) (i := 1) dX7_init_130 rfl rfl rfl ?_
  refine en_new (t := 3) (pc' := 134) (N := 2) (a' := 51) (n' := 49) (ce' := 48) (sl' := 1137) (by decide) rfl ck_X7_9 cb_X3 tb_in_X3 tb_ws3 tb_ty3 tb_df3 (zP_sz (zP_sz (zP_sz (zP_sz (zP_sz (zP_sz (zP_up (zP_up (zP_le hz (Nat.le_of_ble_eq_true rfl)) (Nat.le_of_ble_eq_true rfl)) (Nat.le_of_ble_eq_true rfl)) (Nat.le_of_ble_eq_true rfl)) (Nat.le_of_ble_eq_true rfl)) (Nat.le_of_ble_eq_true rfl)) (Nat.le_of_ble_eq_true rfl)) (Nat.le_of_ble_eq_true rfl)) (Nat.le_of_ble_eq_true rfl)) (zP_up (zP_le hl (Nat.le_of_ble_eq_true rfl)) (Nat.le_of_ble_eq_true rfl)) rfl rfl dX7_init_131 rfl ⟨(Nat.le_of_ble_eq_true rfl), (Nat.le_of_ble_eq_true rfl)⟩ rfl rfl rfl rfl ?_
  refine ev_dup (pc' := 135) dX7_init_134 rfl rfl ?_
  refine ev_callI (pc' := 138) (rm' := rX3_init) (b := 51) (av := []) (rest := [.ref 51, .int 6, .ref 4]) co_X7_73 ci_X3_init rfl dX7_init_135 rfl rfl rfl (Nat.le_of_ble_eq_true rfl) ⟨(Nat.le_of_ble_eq_true rfl), (Nat.le_of_ble_eq_true rfl)⟩ ⟨(Nat.le_of_ble_eq_true rfl), (Nat.le_of_ble_eq_true rfl)⟩ ?_
  refine t_X3_init_51 (zP_sz (zP_sz (zP_sz (zP_sz (zP_sz (zP_sz (zP_up (zP_up (zP_le hz (Nat.le_of_ble_eq_true rfl)) (Nat.le_of_ble_eq_true rfl)) (Nat.le_of_ble_eq_true rfl)) (Nat.le_of_ble_eq_true rfl)) (Nat.le_of_ble_eq_true rfl)) (Nat.le_of_ble_eq_true rfl)) (Nat.le_of_ble_eq_true rfl)) (Nat.le_of_ble_eq_true rfl)) (Nat.le_of_ble_eq_true rfl)) (zP_up (zP_le hl (Nat.le_of_ble_eq_true rfl)) (Nat.le_of_ble_eq_true rfl)) ?_
  refine ev_sl (ce' := 49) (sl' := 1153) rfl rfl ?_
  refine ev_aast (pc' := 139) (j := 6) (R' := rfL pR_49) dX7_init_138 rfl rfl (Or.inl rfl) ⟨by decide, _, rfl, rfl⟩ rfl (Nat.le_of_ble_eq_true rfl) (Nat.le_of_ble_eq_true rfl) rfl ?_
  refine ev_iinc (pc' := 142) (v := 7) (lv' := [some (.ref 3), some (.int 7)]) dX7_init_139 rfl rfl (by decide) (Nat.le_of_ble_eq_true rfl) rfl rfl ?_
  refine ev_goto (tgt := 120) dX7_init_142 rfl ?_
  refine ev_iload_n (pc' := 121) (i := 1) dX7_init_120 rfl rfl rfl ?_
  refine ev_bipush (pc' := 123) (v := 8) dX7_init_121 rfl kb_8 ?_
  refine ev_icmp_ge (tgt := 145) (pc' := 126) dX7_init_123 rfl rfl (fun h => absurd h (by decide)) (fun _ => ?_)
  refine ev_aload_n (pc' := 127) (i := 0) dX7_init_126 rfl rfl rfl ?_
  refine ev_getR (pc' := 130) fo_X7_11 dX7_init_127 rfl rfl rfl rfl ?_
  refine ev_iload_n (pc' := 131) (i := 1) dX7_init_130 rfl rfl rfl ?_
  refine en_new (t := 3) (pc' := 134) (N := 2) (a' := 53) (n' := 51) (ce' := 50) (sl' := 1155) (by decide) rfl ck_X7_9 cb_X3 tb_in_X3 tb_ws3 tb_ty3 tb_df3 (zP_sz (zP_sz (zP_sz (zP_sz (zP_sz (zP_sz (zP_sz (zP_up (zP_up (zP_le hz (Nat.le_of_ble_eq_true rfl)) (Nat.le_of_ble_eq_true rfl)) (Nat.le_of_ble_eq_true rfl)) (Nat.le_of_ble_eq_true rfl)) (Nat.le_of_ble_eq_true rfl)) (Nat.le_of_ble_eq_true rfl)) (Nat.le_of_ble_eq_true rfl)) (Nat.le_of_ble_eq_true rfl)) (Nat.le_of_ble_eq_true rfl)) (Nat.le_of_ble_eq_true rfl)) (zP_up (zP_le hl (Nat.le_of_ble_eq_true rfl)) (Nat.le_of_ble_eq_true rfl)) rfl rfl dX7_init_131 rfl ⟨(Nat.le_of_ble_eq_true rfl), (Nat.le_of_ble_eq_true rfl)⟩ rfl rfl rfl rfl ?_
  refine ev_dup (pc' := 135) dX7_init_134 rfl rfl ?_
  refine ev_callI (pc' := 138) (rm' := rX3_init) (b := 53) (av := []) (rest := [.ref 53, .int 7, .ref 4]) co_X7_73 ci_X3_init rfl dX7_init_135 rfl rfl rfl (Nat.le_of_ble_eq_true rfl) ⟨(Nat.le_of_ble_eq_true rfl), (Nat.le_of_ble_eq_true rfl)⟩ ⟨(Nat.le_of_ble_eq_true rfl), (Nat.le_of_ble_eq_true rfl)⟩ ?_
  refine t_X3_init_53 (zP_sz (zP_sz (zP_sz (zP_sz (zP_sz (zP_sz (zP_sz (zP_up (zP_up (zP_le hz (Nat.le_of_ble_eq_true rfl)) (Nat.le_of_ble_eq_true rfl)) (Nat.le_of_ble_eq_true rfl)) (Nat.le_of_ble_eq_true rfl)) (Nat.le_of_ble_eq_true rfl)) (Nat.le_of_ble_eq_true rfl)) (Nat.le_of_ble_eq_true rfl)) (Nat.le_of_ble_eq_true rfl)) (Nat.le_of_ble_eq_true rfl)) (Nat.le_of_ble_eq_true rfl)) (zP_up (zP_le hl (Nat.le_of_ble_eq_true rfl)) (Nat.le_of_ble_eq_true rfl)) ?_
  refine ev_sl (ce' := 51) (sl' := 1171) rfl rfl ?_
  refine ev_aast (pc' := 139) (j := 7) (R' := rfL pR_51) dX7_init_138 rfl rfl (Or.inl rfl) ⟨by decide, _, rfl, rfl⟩ rfl (Nat.le_of_ble_eq_true rfl) (Nat.le_of_ble_eq_true rfl) rfl ?_
  refine ev_iinc (pc' := 142) (v := 8) (lv' := [some (.ref 3), some (.int 8)]) dX7_init_139 rfl rfl (by decide) (Nat.le_of_ble_eq_true rfl) rfl rfl ?_
  refine ev_goto (tgt := 120) dX7_init_142 rfl ?_
  refine ev_iload_n (pc' := 121) (i := 1) dX7_init_120 rfl rfl rfl ?_
  refine ev_bipush (pc' := 123) (v := 8) dX7_init_121 rfl kb_8 ?_
  refine ev_icmp_ge (tgt := 145) (pc' := 126) dX7_init_123 rfl rfl (fun _ => ?_) (fun h => absurd (by decide) h)
  refine ev_iconst (pc' := 146) (v := 0) dX7_init_145 rfl ki_0 ?_
  refine ev_istore_n (pc' := 147) (i := 1) (lv' := [some (.ref 3), some (.int 0)]) dX7_init_146 rfl rfl (Nat.le_of_ble_eq_true rfl) rfl rfl ?_
  refine ev_iload_n (pc' := 148) (i := 1) dX7_init_147 rfl rfl rfl ?_
  refine ev_bipush (pc' := 150) (v := 12) dX7_init_148 rfl kb_12 ?_
  refine ev_icmp_ge (tgt := 172) (pc' := 153) dX7_init_150 rfl rfl (fun h => absurd h (by decide)) (fun _ => ?_)
  refine ev_aload_n (pc' := 154) (i := 0) dX7_init_153 rfl rfl rfl ?_
  refine ev_getR (pc' := 157) fo_X7_17 dX7_init_154 rfl rfl rfl rfl ?_
  refine ev_iload_n (pc' := 158) (i := 1) dX7_init_157 rfl rfl rfl ?_
  refine en_new (t := 1) (pc' := 161) (N := 3) (a' := 55) (n' := 53) (ce' := 52) (sl' := 1174) (by decide) rfl ck_X7_15 cb_X1 tb_in_X1 tb_ws1 tb_ty1 tb_df1 (zP_sz (zP_sz (zP_sz (zP_sz (zP_sz (zP_sz (zP_sz (zP_sz (zP_up (zP_up (zP_le hz (Nat.le_of_ble_eq_true rfl)) (Nat.le_of_ble_eq_true rfl)) (Nat.le_of_ble_eq_true rfl)) (Nat.le_of_ble_eq_true rfl)) (Nat.le_of_ble_eq_true rfl)) (Nat.le_of_ble_eq_true rfl)) (Nat.le_of_ble_eq_true rfl)) (Nat.le_of_ble_eq_true rfl)) (Nat.le_of_ble_eq_true rfl)) (Nat.le_of_ble_eq_true rfl)) (Nat.le_of_ble_eq_true rfl)) (zP_up (zP_le hl (Nat.le_of_ble_eq_true rfl)) (Nat.le_of_ble_eq_true rfl)) rfl rfl dX7_init_158 rfl ⟨(Nat.le_of_ble_eq_true rfl), (Nat.le_of_ble_eq_true rfl)⟩ rfl rfl rfl rfl ?_
  refine ev_dup (pc' := 162) dX7_init_161 rfl rfl ?_
  refine ev_callI (pc' := 165) (rm' := rX1_init) (b := 55) (av := []) (rest := [.ref 55, .int 0, .ref 5]) co_X7_74 ci_X1_init rfl dX7_init_162 rfl rfl rfl (Nat.le_of_ble_eq_true rfl) ⟨(Nat.le_of_ble_eq_true rfl), (Nat.le_of_ble_eq_true rfl)⟩ ⟨(Nat.le_of_ble_eq_true rfl), (Nat.le_of_ble_eq_true rfl)⟩ ?_
  refine t_X1_init_55 (zP_sz (zP_sz (zP_sz (zP_sz (zP_sz (zP_sz (zP_sz (zP_sz (zP_up (zP_up (zP_le hz (Nat.le_of_ble_eq_true rfl)) (Nat.le_of_ble_eq_true rfl)) (Nat.le_of_ble_eq_true rfl)) (Nat.le_of_ble_eq_true rfl)) (Nat.le_of_ble_eq_true rfl)) (Nat.le_of_ble_eq_true rfl)) (Nat.le_of_ble_eq_true rfl)) (Nat.le_of_ble_eq_true rfl)) (Nat.le_of_ble_eq_true rfl)) (Nat.le_of_ble_eq_true rfl)) (Nat.le_of_ble_eq_true rfl)) (zP_up (zP_le hl (Nat.le_of_ble_eq_true rfl)) (Nat.le_of_ble_eq_true rfl)) ?_
  refine ev_sl (ce' := 56) (sl' := 1211) rfl rfl ?_
  refine ev_aast (pc' := 166) (j := 0) (R' := rfL pR_56) dX7_init_165 rfl rfl (Or.inr rfl) ⟨by decide, _, rfl, rfl⟩ rfl (Nat.le_of_ble_eq_true rfl) (Nat.le_of_ble_eq_true rfl) rfl ?_
  refine ev_iinc (pc' := 169) (v := 1) (lv' := [some (.ref 3), some (.int 1)]) dX7_init_166 rfl rfl (by decide) (Nat.le_of_ble_eq_true rfl) rfl rfl ?_
  refine ev_goto (tgt := 147) dX7_init_169 rfl ?_
  refine ev_iload_n (pc' := 148) (i := 1) dX7_init_147 rfl rfl rfl ?_
  refine ev_bipush (pc' := 150) (v := 12) dX7_init_148 rfl kb_12 ?_
  refine ev_icmp_ge (tgt := 172) (pc' := 153) dX7_init_150 rfl rfl (fun h => absurd h (by decide)) (fun _ => ?_)
  refine ev_aload_n (pc' := 154) (i := 0) dX7_init_153 rfl rfl rfl ?_
  refine ev_getR (pc' := 157) fo_X7_17 dX7_init_154 rfl rfl rfl rfl ?_
  refine ev_iload_n (pc' := 158) (i := 1) dX7_init_157 rfl rfl rfl ?_
  refine en_new (t := 1) (pc' := 161) (N := 3) (a' := 60) (n' := 58) (ce' := 57) (sl' := 1214) (by decide) rfl ck_X7_15 cb_X1 tb_in_X1 tb_ws1 tb_ty1 tb_df1 (zP_sz (zP_sz (zP_sz (zP_sz (zP_sz (zP_sz (zP_sz (zP_sz (zP_up (zP_up (zP_le hz (Nat.le_of_ble_eq_true rfl)) (Nat.le_of_ble_eq_true rfl)) (Nat.le_of_ble_eq_true rfl)) (Nat.le_of_ble_eq_true rfl)) (Nat.le_of_ble_eq_true rfl)) (Nat.le_of_ble_eq_true rfl)) (Nat.le_of_ble_eq_true rfl)) (Nat.le_of_ble_eq_true rfl)) (Nat.le_of_ble_eq_true rfl)) (Nat.le_of_ble_eq_true rfl)) (Nat.le_of_ble_eq_true rfl)) (zP_up (zP_le hl (Nat.le_of_ble_eq_true rfl)) (Nat.le_of_ble_eq_true rfl)) rfl rfl dX7_init_158 rfl ⟨(Nat.le_of_ble_eq_true rfl), (Nat.le_of_ble_eq_true rfl)⟩ rfl rfl rfl rfl ?_
  refine ev_dup (pc' := 162) dX7_init_161 rfl rfl ?_
  refine ev_callI (pc' := 165) (rm' := rX1_init) (b := 60) (av := []) (rest := [.ref 60, .int 1, .ref 5]) co_X7_74 ci_X1_init rfl dX7_init_162 rfl rfl rfl (Nat.le_of_ble_eq_true rfl) ⟨(Nat.le_of_ble_eq_true rfl), (Nat.le_of_ble_eq_true rfl)⟩ ⟨(Nat.le_of_ble_eq_true rfl), (Nat.le_of_ble_eq_true rfl)⟩ ?_
  refine t_X1_init_60 (zP_sz (zP_sz (zP_sz (zP_sz (zP_sz (zP_sz (zP_sz (zP_sz (zP_up (zP_up (zP_le hz (Nat.le_of_ble_eq_true rfl)) (Nat.le_of_ble_eq_true rfl)) (Nat.le_of_ble_eq_true rfl)) (Nat.le_of_ble_eq_true rfl)) (Nat.le_of_ble_eq_true rfl)) (Nat.le_of_ble_eq_true rfl)) (Nat.le_of_ble_eq_true rfl)) (Nat.le_of_ble_eq_true rfl)) (Nat.le_of_ble_eq_true rfl)) (Nat.le_of_ble_eq_true rfl)) (Nat.le_of_ble_eq_true rfl)) (zP_up (zP_le hl (Nat.le_of_ble_eq_true rfl)) (Nat.le_of_ble_eq_true rfl)) ?_
  refine ev_sl (ce' := 61) (sl' := 1251) rfl rfl ?_
  refine ev_aast (pc' := 166) (j := 1) (R' := rfL pR_61) dX7_init_165 rfl rfl (Or.inr rfl) ⟨by decide, _, rfl, rfl⟩ rfl (Nat.le_of_ble_eq_true rfl) (Nat.le_of_ble_eq_true rfl) rfl ?_
  refine ev_iinc (pc' := 169) (v := 2) (lv' := [some (.ref 3), some (.int 2)]) dX7_init_166 rfl rfl (by decide) (Nat.le_of_ble_eq_true rfl) rfl rfl ?_
  refine ev_goto (tgt := 147) dX7_init_169 rfl ?_
  refine ev_iload_n (pc' := 148) (i := 1) dX7_init_147 rfl rfl rfl ?_
  refine ev_bipush (pc' := 150) (v := 12) dX7_init_148 rfl kb_12 ?_
  refine ev_icmp_ge (tgt := 172) (pc' := 153) dX7_init_150 rfl rfl (fun h => absurd h (by decide)) (fun _ => ?_)
  refine ev_aload_n (pc' := 154) (i := 0) dX7_init_153 rfl rfl rfl ?_
  refine ev_getR (pc' := 157) fo_X7_17 dX7_init_154 rfl rfl rfl rfl ?_
  refine ev_iload_n (pc' := 158) (i := 1) dX7_init_157 rfl rfl rfl ?_
  refine en_new (t := 1) (pc' := 161) (N := 3) (a' := 65) (n' := 63) (ce' := 62) (sl' := 1254) (by decide) rfl ck_X7_15 cb_X1 tb_in_X1 tb_ws1 tb_ty1 tb_df1 (zP_sz (zP_sz (zP_sz (zP_sz (zP_sz (zP_sz (zP_sz (zP_sz (zP_up (zP_up (zP_le hz (Nat.le_of_ble_eq_true rfl)) (Nat.le_of_ble_eq_true rfl)) (Nat.le_of_ble_eq_true rfl)) (Nat.le_of_ble_eq_true rfl)) (Nat.le_of_ble_eq_true rfl)) (Nat.le_of_ble_eq_true rfl)) (Nat.le_of_ble_eq_true rfl)) (Nat.le_of_ble_eq_true rfl)) (Nat.le_of_ble_eq_true rfl)) (Nat.le_of_ble_eq_true rfl)) (Nat.le_of_ble_eq_true rfl)) (zP_up (zP_le hl (Nat.le_of_ble_eq_true rfl)) (Nat.le_of_ble_eq_true rfl)) rfl rfl dX7_init_158 rfl ⟨(Nat.le_of_ble_eq_true rfl), (Nat.le_of_ble_eq_true rfl)⟩ rfl rfl rfl rfl ?_
  refine ev_dup (pc' := 162) dX7_init_161 rfl rfl ?_
  refine ev_callI (pc' := 165) (rm' := rX1_init) (b := 65) (av := []) (rest := [.ref 65, .int 2, .ref 5]) co_X7_74 ci_X1_init rfl dX7_init_162 rfl rfl rfl (Nat.le_of_ble_eq_true rfl) ⟨(Nat.le_of_ble_eq_true rfl), (Nat.le_of_ble_eq_true rfl)⟩ ⟨(Nat.le_of_ble_eq_true rfl), (Nat.le_of_ble_eq_true rfl)⟩ ?_
  refine t_X1_init_65 (zP_sz (zP_sz (zP_sz (zP_sz (zP_sz (zP_sz (zP_sz (zP_sz (zP_up (zP_up (zP_le hz (Nat.le_of_ble_eq_true rfl)) (Nat.le_of_ble_eq_true rfl)) (Nat.le_of_ble_eq_true rfl)) (Nat.le_of_ble_eq_true rfl)) (Nat.le_of_ble_eq_true rfl)) (Nat.le_of_ble_eq_true rfl)) (Nat.le_of_ble_eq_true rfl)) (Nat.le_of_ble_eq_true rfl)) (Nat.le_of_ble_eq_true rfl)) (Nat.le_of_ble_eq_true rfl)) (Nat.le_of_ble_eq_true rfl)) (zP_up (zP_le hl (Nat.le_of_ble_eq_true rfl)) (Nat.le_of_ble_eq_true rfl)) ?_
  refine ev_sl (ce' := 66) (sl' := 1291) rfl rfl ?_
  refine ev_aast (pc' := 166) (j := 2) (R' := rfL pR_66) dX7_init_165 rfl rfl (Or.inr rfl) ⟨by decide, _, rfl, rfl⟩ rfl (Nat.le_of_ble_eq_true rfl) (Nat.le_of_ble_eq_true rfl) rfl ?_
  refine ev_iinc (pc' := 169) (v := 3) (lv' := [some (.ref 3), some (.int 3)]) dX7_init_166 rfl rfl (by decide) (Nat.le_of_ble_eq_true rfl) rfl rfl ?_
  refine ev_goto (tgt := 147) dX7_init_169 rfl ?_
  refine ev_iload_n (pc' := 148) (i := 1) dX7_init_147 rfl rfl rfl ?_
  refine ev_bipush (pc' := 150) (v := 12) dX7_init_148 rfl kb_12 ?_
  refine ev_icmp_ge (tgt := 172) (pc' := 153) dX7_init_150 rfl rfl (fun h => absurd h (by decide)) (fun _ => ?_)
  refine ev_aload_n (pc' := 154) (i := 0) dX7_init_153 rfl rfl rfl ?_
  refine ev_getR (pc' := 157) fo_X7_17 dX7_init_154 rfl rfl rfl rfl ?_
  refine ev_iload_n (pc' := 158) (i := 1) dX7_init_157 rfl rfl rfl ?_
  refine en_new (t := 1) (pc' := 161) (N := 3) (a' := 70) (n' := 68) (ce' := 67) (sl' := 1294) (by decide) rfl ck_X7_15 cb_X1 tb_in_X1 tb_ws1 tb_ty1 tb_df1 (zP_sz (zP_sz (zP_sz (zP_sz (zP_sz (zP_sz (zP_sz (zP_sz (zP_up (zP_up (zP_le hz (Nat.le_of_ble_eq_true rfl)) (Nat.le_of_ble_eq_true rfl)) (Nat.le_of_ble_eq_true rfl)) (Nat.le_of_ble_eq_true rfl)) (Nat.le_of_ble_eq_true rfl)) (Nat.le_of_ble_eq_true rfl)) (Nat.le_of_ble_eq_true rfl)) (Nat.le_of_ble_eq_true rfl)) (Nat.le_of_ble_eq_true rfl)) (Nat.le_of_ble_eq_true rfl)) (Nat.le_of_ble_eq_true rfl)) (zP_up (zP_le hl (Nat.le_of_ble_eq_true rfl)) (Nat.le_of_ble_eq_true rfl)) rfl rfl dX7_init_158 rfl ⟨(Nat.le_of_ble_eq_true rfl), (Nat.le_of_ble_eq_true rfl)⟩ rfl rfl rfl rfl ?_
  refine ev_dup (pc' := 162) dX7_init_161 rfl rfl ?_
  refine ev_callI (pc' := 165) (rm' := rX1_init) (b := 70) (av := []) (rest := [.ref 70, .int 3, .ref 5]) co_X7_74 ci_X1_init rfl dX7_init_162 rfl rfl rfl (Nat.le_of_ble_eq_true rfl) ⟨(Nat.le_of_ble_eq_true rfl), (Nat.le_of_ble_eq_true rfl)⟩ ⟨(Nat.le_of_ble_eq_true rfl), (Nat.le_of_ble_eq_true rfl)⟩ ?_
  refine t_X1_init_70 (zP_sz (zP_sz (zP_sz (zP_sz (zP_sz (zP_sz (zP_sz (zP_sz (zP_up (zP_up (zP_le hz (Nat.le_of_ble_eq_true rfl)) (Nat.le_of_ble_eq_true rfl)) (Nat.le_of_ble_eq_true rfl)) (Nat.le_of_ble_eq_true rfl)) (Nat.le_of_ble_eq_true rfl)) (Nat.le_of_ble_eq_true rfl)) (Nat.le_of_ble_eq_true rfl)) (Nat.le_of_ble_eq_true rfl)) (Nat.le_of_ble_eq_true rfl)) (Nat.le_of_ble_eq_true rfl)) (Nat.le_of_ble_eq_true rfl)) (zP_up (zP_le hl (Nat.le_of_ble_eq_true rfl)) (Nat.le_of_ble_eq_true rfl)) ?_
  refine ev_sl (ce' := 71) (sl' := 1331) rfl rfl ?_
  refine ev_aast (pc' := 166) (j := 3) (R' := rfL pR_71) dX7_init_165 rfl rfl (Or.inr rfl) ⟨by decide, _, rfl, rfl⟩ rfl (Nat.le_of_ble_eq_true rfl) (Nat.le_of_ble_eq_true rfl) rfl ?_
  refine ev_iinc (pc' := 169) (v := 4) (lv' := [some (.ref 3), some (.int 4)]) dX7_init_166 rfl rfl (by decide) (Nat.le_of_ble_eq_true rfl) rfl rfl ?_
  refine ev_goto (tgt := 147) dX7_init_169 rfl ?_
  refine ev_iload_n (pc' := 148) (i := 1) dX7_init_147 rfl rfl rfl ?_
  refine ev_bipush (pc' := 150) (v := 12) dX7_init_148 rfl kb_12 ?_
  refine ev_icmp_ge (tgt := 172) (pc' := 153) dX7_init_150 rfl rfl (fun h => absurd h (by decide)) (fun _ => ?_)
  refine ev_aload_n (pc' := 154) (i := 0) dX7_init_153 rfl rfl rfl ?_
  refine ev_getR (pc' := 157) fo_X7_17 dX7_init_154 rfl rfl rfl rfl ?_
  refine ev_iload_n (pc' := 158) (i := 1) dX7_init_157 rfl rfl rfl ?_
  refine en_new (t := 1) (pc' := 161) (N := 3) (a' := 75) (n' := 73) (ce' := 72) (sl' := 1334) (by decide) rfl ck_X7_15 cb_X1 tb_in_X1 tb_ws1 tb_ty1 tb_df1 (zP_sz (zP_sz (zP_sz (zP_sz (zP_sz (zP_sz (zP_sz (zP_sz (zP_up (zP_up (zP_le hz (Nat.le_of_ble_eq_true rfl)) (Nat.le_of_ble_eq_true rfl)) (Nat.le_of_ble_eq_true rfl)) (Nat.le_of_ble_eq_true rfl)) (Nat.le_of_ble_eq_true rfl)) (Nat.le_of_ble_eq_true rfl)) (Nat.le_of_ble_eq_true rfl)) (Nat.le_of_ble_eq_true rfl)) (Nat.le_of_ble_eq_true rfl)) (Nat.le_of_ble_eq_true rfl)) (Nat.le_of_ble_eq_true rfl)) (zP_up (zP_le hl (Nat.le_of_ble_eq_true rfl)) (Nat.le_of_ble_eq_true rfl)) rfl rfl dX7_init_158 rfl ⟨(Nat.le_of_ble_eq_true rfl), (Nat.le_of_ble_eq_true rfl)⟩ rfl rfl rfl rfl ?_
  refine ev_dup (pc' := 162) dX7_init_161 rfl rfl ?_
  refine ev_callI (pc' := 165) (rm' := rX1_init) (b := 75) (av := []) (rest := [.ref 75, .int 4, .ref 5]) co_X7_74 ci_X1_init rfl dX7_init_162 rfl rfl rfl (Nat.le_of_ble_eq_true rfl) ⟨(Nat.le_of_ble_eq_true rfl), (Nat.le_of_ble_eq_true rfl)⟩ ⟨(Nat.le_of_ble_eq_true rfl), (Nat.le_of_ble_eq_true rfl)⟩ ?_
  refine t_X1_init_75 (zP_sz (zP_sz (zP_sz (zP_sz (zP_sz (zP_sz (zP_sz (zP_sz (zP_up (zP_up (zP_le hz (Nat.le_of_ble_eq_true rfl)) (Nat.le_of_ble_eq_true rfl)) (Nat.le_of_ble_eq_true rfl)) (Nat.le_of_ble_eq_true rfl)) (Nat.le_of_ble_eq_true rfl)) (Nat.le_of_ble_eq_true rfl)) (Nat.le_of_ble_eq_true rfl)) (Nat.le_of_ble_eq_true rfl)) (Nat.le_of_ble_eq_true rfl)) (Nat.le_of_ble_eq_true rfl)) (Nat.le_of_ble_eq_true rfl)) (zP_up (zP_le hl (Nat.le_of_ble_eq_true rfl)) (Nat.le_of_ble_eq_true rfl)) ?_
  refine ev_sl (ce' := 76) (sl' := 1371) rfl rfl ?_
  refine ev_aast (pc' := 166) (j := 4) (R' := rfL pR_76) dX7_init_165 rfl rfl (Or.inr rfl) ⟨by decide, _, rfl, rfl⟩ rfl (Nat.le_of_ble_eq_true rfl) (Nat.le_of_ble_eq_true rfl) rfl ?_
  refine ev_iinc (pc' := 169) (v := 5) (lv' := [some (.ref 3), some (.int 5)]) dX7_init_166 rfl rfl (by decide) (Nat.le_of_ble_eq_true rfl) rfl rfl ?_
  refine ev_goto (tgt := 147) dX7_init_169 rfl ?_
  refine ev_iload_n (pc' := 148) (i := 1) dX7_init_147 rfl rfl rfl ?_
  refine ev_bipush (pc' := 150) (v := 12) dX7_init_148 rfl kb_12 ?_
  refine ev_icmp_ge (tgt := 172) (pc' := 153) dX7_init_150 rfl rfl (fun h => absurd h (by decide)) (fun _ => ?_)
  refine ev_aload_n (pc' := 154) (i := 0) dX7_init_153 rfl rfl rfl ?_
  refine ev_getR (pc' := 157) fo_X7_17 dX7_init_154 rfl rfl rfl rfl ?_
  refine ev_iload_n (pc' := 158) (i := 1) dX7_init_157 rfl rfl rfl ?_
  refine en_new (t := 1) (pc' := 161) (N := 3) (a' := 80) (n' := 78) (ce' := 77) (sl' := 1374) (by decide) rfl ck_X7_15 cb_X1 tb_in_X1 tb_ws1 tb_ty1 tb_df1 (zP_sz (zP_sz (zP_sz (zP_sz (zP_sz (zP_sz (zP_sz (zP_sz (zP_up (zP_up (zP_le hz (Nat.le_of_ble_eq_true rfl)) (Nat.le_of_ble_eq_true rfl)) (Nat.le_of_ble_eq_true rfl)) (Nat.le_of_ble_eq_true rfl)) (Nat.le_of_ble_eq_true rfl)) (Nat.le_of_ble_eq_true rfl)) (Nat.le_of_ble_eq_true rfl)) (Nat.le_of_ble_eq_true rfl)) (Nat.le_of_ble_eq_true rfl)) (Nat.le_of_ble_eq_true rfl)) (Nat.le_of_ble_eq_true rfl)) (zP_up (zP_le hl (Nat.le_of_ble_eq_true rfl)) (Nat.le_of_ble_eq_true rfl)) rfl rfl dX7_init_158 rfl ⟨(Nat.le_of_ble_eq_true rfl), (Nat.le_of_ble_eq_true rfl)⟩ rfl rfl rfl rfl ?_
  refine ev_dup (pc' := 162) dX7_init_161 rfl rfl ?_
  refine ev_callI (pc' := 165) (rm' := rX1_init) (b := 80) (av := []) (rest := [.ref 80, .int 5, .ref 5]) co_X7_74 ci_X1_init rfl dX7_init_162 rfl rfl rfl (Nat.le_of_ble_eq_true rfl) ⟨(Nat.le_of_ble_eq_true rfl), (Nat.le_of_ble_eq_true rfl)⟩ ⟨(Nat.le_of_ble_eq_true rfl), (Nat.le_of_ble_eq_true rfl)⟩ ?_
  refine t_X1_init_80 (zP_sz (zP_sz (zP_sz (zP_sz (zP_sz (zP_sz (zP_sz (zP_sz (zP_up (zP_up (zP_le hz (Nat.le_of_ble_eq_true rfl)) (Nat.le_of_ble_eq_true rfl)) (Nat.le_of_ble_eq_true rfl)) (Nat.le_of_ble_eq_true rfl)) (Nat.le_of_ble_eq_true rfl)) (Nat.le_of_ble_eq_true rfl)) (Nat.le_of_ble_eq_true rfl)) (Nat.le_of_ble_eq_true rfl)) (Nat.le_of_ble_eq_true rfl)) (Nat.le_of_ble_eq_true rfl)) (Nat.le_of_ble_eq_true rfl)) (zP_up (zP_le hl (Nat.le_of_ble_eq_true rfl)) (Nat.le_of_ble_eq_true rfl)) ?_
  refine ev_sl (ce' := 81) (sl' := 1411) rfl rfl ?_
  refine ev_aast (pc' := 166) (j := 5) (R' := rfL pR_81) dX7_init_165 rfl rfl (Or.inr rfl) ⟨by decide, _, rfl, rfl⟩ rfl (Nat.le_of_ble_eq_true rfl) (Nat.le_of_ble_eq_true rfl) rfl ?_
  refine ev_iinc (pc' := 169) (v := 6) (lv' := [some (.ref 3), some (.int 6)]) dX7_init_166 rfl rfl (by decide) (Nat.le_of_ble_eq_true rfl) rfl rfl ?_
  refine ev_goto (tgt := 147) dX7_init_169 rfl ?_
  refine ev_iload_n (pc' := 148) (i := 1) dX7_init_147 rfl rfl rfl ?_
  refine ev_bipush (pc' := 150) (v := 12) dX7_init_148 rfl kb_12 ?_
  refine ev_icmp_ge (tgt := 172) (pc' := 153) dX7_init_150 rfl rfl (fun h => absurd h (by decide)) (fun _ => ?_)
  refine ev_aload_n (pc' := 154) (i := 0) dX7_init_153 rfl rfl rfl ?_
  refine ev_getR (pc' := 157) fo_X7_17 dX7_init_154 rfl rfl rfl rfl ?_
  refine ev_iload_n (pc' := 158) (i := 1) dX7_init_157 rfl rfl rfl ?_
  refine en_new (t := 1) (pc' := 161) (N := 3) (a' := 85) (n' := 83) (ce' := 82) (sl' := 1414) (by decide) rfl ck_X7_15 cb_X1 tb_in_X1 tb_ws1 tb_ty1 tb_df1 (zP_sz (zP_sz (zP_sz (zP_sz (zP_sz (zP_sz (zP_sz (zP_sz (zP_up (zP_up (zP_le hz (Nat.le_of_ble_eq_true rfl)) (Nat.le_of_ble_eq_true rfl)) (Nat.le_of_ble_eq_true rfl)) (Nat.le_of_ble_eq_true rfl)) (Nat.le_of_ble_eq_true rfl)) (Nat.le_of_ble_eq_true rfl)) (Nat.le_of_ble_eq_true rfl)) (Nat.le_of_ble_eq_true rfl)) (Nat.le_of_ble_eq_true rfl)) (Nat.le_of_ble_eq_true rfl)) (Nat.le_of_ble_eq_true rfl)) (zP_up (zP_le hl (Nat.le_of_ble_eq_true rfl)) (Nat.le_of_ble_eq_true rfl)) rfl rfl dX7_init_158 rfl ⟨(Nat.le_of_ble_eq_true rfl), (Nat.le_of_ble_eq_true rfl)⟩ rfl rfl rfl rfl ?_
  refine ev_dup (pc' := 162) dX7_init_161 rfl rfl ?_
  refine ev_callI (pc' := 165) (rm' := rX1_init) (b := 85) (av := []) (rest := [.ref 85, .int 6, .ref 5]) co_X7_74 ci_X1_init rfl dX7_init_162 rfl rfl rfl (Nat.le_of_ble_eq_true rfl) ⟨(Nat.le_of_ble_eq_true rfl), (Nat.le_of_ble_eq_true rfl)⟩ ⟨(Nat.le_of_ble_eq_true rfl), (Nat.le_of_ble_eq_true rfl)⟩ ?_
  refine t_X1_init_85 (zP_sz (zP_sz (zP_sz (zP_sz (zP_sz (zP_sz (zP_sz (zP_sz (zP_up (zP_up (zP_le hz (Nat.le_of_ble_eq_true rfl)) (Nat.le_of_ble_eq_true rfl)) (Nat.le_of_ble_eq_true rfl)) (Nat.le_of_ble_eq_true rfl)) (Nat.le_of_ble_eq_true rfl)) (Nat.le_of_ble_eq_true rfl)) (Nat.le_of_ble_eq_true rfl)) (Nat.le_of_ble_eq_true rfl)) (Nat.le_of_ble_eq_true rfl)) (Nat.le_of_ble_eq_true rfl)) (Nat.le_of_ble_eq_true rfl)) (zP_up (zP_le hl (Nat.le_of_ble_eq_true rfl)) (Nat.le_of_ble_eq_true rfl)) ?_
  refine ev_sl (ce' := 86) (sl' := 1451) rfl rfl ?_
  refine ev_aast (pc' := 166) (j := 6) (R' := rfL pR_86) dX7_init_165 rfl rfl (Or.inr rfl) ⟨by decide, _, rfl, rfl⟩ rfl (Nat.le_of_ble_eq_true rfl) (Nat.le_of_ble_eq_true rfl) rfl ?_
  refine ev_iinc (pc' := 169) (v := 7) (lv' := [some (.ref 3), some (.int 7)]) dX7_init_166 rfl rfl (by decide) (Nat.le_of_ble_eq_true rfl) rfl rfl ?_
  refine ev_goto (tgt := 147) dX7_init_169 rfl ?_
  refine ev_iload_n (pc' := 148) (i := 1) dX7_init_147 rfl rfl rfl ?_
  refine ev_bipush (pc' := 150) (v := 12) dX7_init_148 rfl kb_12 ?_
  refine ev_icmp_ge (tgt := 172) (pc' := 153) dX7_init_150 rfl rfl (fun h => absurd h (by decide)) (fun _ => ?_)
  refine ev_aload_n (pc' := 154) (i := 0) dX7_init_153 rfl rfl rfl ?_
  refine ev_getR (pc' := 157) fo_X7_17 dX7_init_154 rfl rfl rfl rfl ?_
  refine ev_iload_n (pc' := 158) (i := 1) dX7_init_157 rfl rfl rfl ?_
  refine en_new (t := 1) (pc' := 161) (N := 3) (a' := 90) (n' := 88) (ce' := 87) (sl' := 1454) (by decide) rfl ck_X7_15 cb_X1 tb_in_X1 tb_ws1 tb_ty1 tb_df1 (zP_sz (zP_sz (zP_sz (zP_sz (zP_sz (zP_sz (zP_sz (zP_sz (zP_up (zP_up (zP_le hz (Nat.le_of_ble_eq_true rfl)) (Nat.le_of_ble_eq_true rfl)) (Nat.le_of_ble_eq_true rfl)) (Nat.le_of_ble_eq_true rfl)) (Nat.le_of_ble_eq_true rfl)) (Nat.le_of_ble_eq_true rfl)) (Nat.le_of_ble_eq_true rfl)) (Nat.le_of_ble_eq_true rfl)) (Nat.le_of_ble_eq_true rfl)) (Nat.le_of_ble_eq_true rfl)) (Nat.le_of_ble_eq_true rfl)) (zP_up (zP_le hl (Nat.le_of_ble_eq_true rfl)) (Nat.le_of_ble_eq_true rfl)) rfl rfl dX7_init_158 rfl ⟨(Nat.le_of_ble_eq_true rfl), (Nat.le_of_ble_eq_true rfl)⟩ rfl rfl rfl rfl ?_
  refine ev_dup (pc' := 162) dX7_init_161 rfl rfl ?_
  refine ev_callI (pc' := 165) (rm' := rX1_init) (b := 90) (av := []) (rest := [.ref 90, .int 7, .ref 5]) co_X7_74 ci_X1_init rfl dX7_init_162 rfl rfl rfl (Nat.le_of_ble_eq_true rfl) ⟨(Nat.le_of_ble_eq_true rfl), (Nat.le_of_ble_eq_true rfl)⟩ ⟨(Nat.le_of_ble_eq_true rfl), (Nat.le_of_ble_eq_true rfl)⟩ ?_
  refine t_X1_init_90 (zP_sz (zP_sz (zP_sz (zP_sz (zP_sz (zP_sz (zP_sz (zP_sz (zP_up (zP_up (zP_le hz (Nat.le_of_ble_eq_true rfl)) (Nat.le_of_ble_eq_true rfl)) (Nat.le_of_ble_eq_true rfl)) (Nat.le_of_ble_eq_true rfl)) (Nat.le_of_ble_eq_true rfl)) (Nat.le_of_ble_eq_true rfl)) (Nat.le_of_ble_eq_true rfl)) (Nat.le_of_ble_eq_true rfl)) (Nat.le_of_ble_eq_true rfl)) (Nat.le_of_ble_eq_true rfl)) (Nat.le_of_ble_eq_true rfl)) (zP_up (zP_le hl (Nat.le_of_ble_eq_true rfl)) (Nat.le_of_ble_eq_true rfl)) ?_
  refine ev_sl (ce' := 91) (sl' := 1491) rfl rfl ?_
  refine ev_aast (pc' := 166) (j := 7) (R' := rfL pR_91) dX7_init_165 rfl rfl (Or.inr rfl) ⟨by decide, _, rfl, rfl⟩ rfl (Nat.le_of_ble_eq_true rfl) (Nat.le_of_ble_eq_true rfl) rfl ?_
  refine ev_iinc (pc' := 169) (v := 8) (lv' := [some (.ref 3), some (.int 8)]) dX7_init_166 rfl rfl (by decide) (Nat.le_of_ble_eq_true rfl) rfl rfl ?_
  refine ev_goto (tgt := 147) dX7_init_169 rfl ?_
  refine ev_iload_n (pc' := 148) (i := 1) dX7_init_147 rfl rfl rfl ?_
  refine ev_bipush (pc' := 150) (v := 12) dX7_init_148 rfl kb_12 ?_
  refine ev_icmp_ge (tgt := 172) (pc' := 153) dX7_init_150 rfl rfl (fun h => absurd h (by decide)) (fun _ => ?_)
  refine ev_aload_n (pc' := 154) (i := 0) dX7_init_153 rfl rfl rfl ?_
  refine ev_getR (pc' := 157) fo_X7_17 dX7_init_154 rfl rfl rfl rfl ?_
  refine ev_iload_n (pc' := 158) (i := 1) dX7_init_157 rfl rfl rfl ?_
  refine en_new (t := 1) (pc' := 161) (N := 3) (a' := 95) (n' := 93) (ce' := 92) (sl' := 1494) (by decide) rfl ck_X7_15 cb_X1 tb_in_X1 tb_ws1 tb_ty1 tb_df1 (zP_sz (zP_sz (zP_sz (zP_sz (zP_sz (zP_sz (zP_sz (zP_sz (zP_up (zP_up (zP_le hz (Nat.le_of_ble_eq_true rfl)) (Nat.le_of_ble_eq_true rfl)) (Nat.le_of_ble_eq_true rfl)) (Nat.le_of_ble_eq_true rfl)) (Nat.le_of_ble_eq_true rfl)) (Nat.le_of_ble_eq_true rfl)) (Nat.le_of_ble_eq_true rfl)) (Nat.le_of_ble_eq_true rfl)) (Nat.le_of_ble_eq_true rfl)) (Nat.le_of_ble_eq_true rfl)) (Nat.le_of_ble_eq_true rfl)) (zP_up (zP_le hl (Nat.le_of_ble_eq_true rfl)) (Nat.le_of_ble_eq_true rfl)) rfl rfl dX7_init_158 rfl ⟨(Nat.le_of_ble_eq_true rfl), (Nat.le_of_ble_eq_true rfl)⟩ rfl rfl rfl rfl ?_
  refine ev_dup (pc' := 162) dX7_init_161 rfl rfl ?_
  refine ev_callI (pc' := 165) (rm' := rX1_init) (b := 95) (av := []) (rest := [.ref 95, .int 8, .ref 5]) co_X7_74 ci_X1_init rfl dX7_init_162 rfl rfl rfl (Nat.le_of_ble_eq_true rfl) ⟨(Nat.le_of_ble_eq_true rfl), (Nat.le_of_ble_eq_true rfl)⟩ ⟨(Nat.le_of_ble_eq_true rfl), (Nat.le_of_ble_eq_true rfl)⟩ ?_
  refine t_X1_init_95 (zP_sz (zP_sz (zP_sz (zP_sz (zP_sz (zP_sz (zP_sz (zP_sz (zP_up (zP_up (zP_le hz (Nat.le_of_ble_eq_true rfl)) (Nat.le_of_ble_eq_true rfl)) (Nat.le_of_ble_eq_true rfl)) (Nat.le_of_ble_eq_true rfl)) (Nat.le_of_ble_eq_true rfl)) (Nat.le_of_ble_eq_true rfl)) (Nat.le_of_ble_eq_true rfl)) (Nat.le_of_ble_eq_true rfl)) (Nat.le_of_ble_eq_true rfl)) (Nat.le_of_ble_eq_true rfl)) (Nat.le_of_ble_eq_true rfl)) (zP_up (zP_le hl (Nat.le_of_ble_eq_true rfl)) (Nat.le_of_ble_eq_true rfl)) ?_
  refine ev_sl (ce' := 96) (sl' := 1531) rfl rfl ?_
  refine ev_aast (pc' := 166) (j := 8) (R' := rfL pR_96) dX7_init_165 rfl rfl (Or.inr rfl) ⟨by decide, _, rfl, rfl⟩ rfl (Nat.le_of_ble_eq_true rfl) (Nat.le_of_ble_eq_true rfl) rfl ?_
  refine ev_iinc (pc' := 169) (v := 9) (lv' := [some (.ref 3), some (.int 9)]) dX7_init_166 rfl rfl (by decide) (Nat.le_of_ble_eq_true rfl) rfl rfl ?_
  refine ev_goto (tgt := 147) dX7_init_169 rfl ?_
  refine ev_iload_n (pc' := 148) (i := 1) dX7_init_147 rfl rfl rfl ?_
  refine ev_bipush (pc' := 150) (v := 12) dX7_init_148 rfl kb_12 ?_
  refine ev_icmp_ge (tgt := 172) (pc' := 153) dX7_init_150 rfl rfl (fun h => absurd h (by decide)) (fun _ => ?_)
  refine ev_aload_n (pc' := 154) (i := 0) dX7_init_153 rfl rfl rfl ?_
  refine ev_getR (pc' := 157) fo_X7_17 dX7_init_154 rfl rfl rfl rfl ?_
  refine ev_iload_n (pc' := 158) (i := 1) dX7_init_157 rfl rfl rfl ?_
  refine en_new (t := 1) (pc' := 161) (N := 3) (a' := 100) (n' := 98) (ce' := 97) (sl' := 1534) (by decide) rfl ck_X7_15 cb_X1 tb_in_X1 tb_ws1 tb_ty1 tb_df1 (zP_sz (zP_sz (zP_sz (zP_sz (zP_sz (zP_sz (zP_sz (zP_sz (zP_up (zP_up (zP_le hz (Nat.le_of_ble_eq_true rfl)) (Nat.le_of_ble_eq_true rfl)) (Nat.le_of_ble_eq_true rfl)) (Nat.le_of_ble_eq_true rfl)) (Nat.le_of_ble_eq_true rfl)) (Nat.le_of_ble_eq_true rfl)) (Nat.le_of_ble_eq_true rfl)) (Nat.le_of_ble_eq_true rfl)) (Nat.le_of_ble_eq_true rfl)) (Nat.le_of_ble_eq_true rfl)) (Nat.le_of_ble_eq_true rfl)) (zP_up (zP_le hl (Nat.le_of_ble_eq_true rfl)) (Nat.le_of_ble_eq_true rfl)) rfl rfl dX7_init_158 rfl ⟨(Nat.le_of_ble_eq_true rfl), (Nat.le_of_ble_eq_true rfl)⟩ rfl rfl rfl rfl ?_
  refine ev_dup (pc' := 162) dX7_init_161 rfl rfl ?_
  refine ev_callI (pc' := 165) (rm' := rX1_init) (b := 100) (av := []) (rest := [.ref 100, .int 9, .ref 5]) co_X7_74 ci_X1_init rfl dX7_init_162 rfl rfl rfl (Nat.le_of_ble_eq_true rfl) ⟨(Nat.le_of_ble_eq_true rfl), (Nat.le_of_ble_eq_true rfl)⟩ ⟨(Nat.le_of_ble_eq_true rfl), (Nat.le_of_ble_eq_true rfl)⟩ ?_
  refine t_X1_init_100 (zP_sz (zP_sz (zP_sz (zP_sz (zP_sz (zP_sz (zP_sz (zP_sz (zP_up (zP_up (zP_le hz (Nat.le_of_ble_eq_true rfl)) (Nat.le_of_ble_eq_true rfl)) (Nat.le_of_ble_eq_true rfl)) (Nat.le_of_ble_eq_true rfl)) (Nat.le_of_ble_eq_true rfl)) (Nat.le_of_ble_eq_true rfl)) (Nat.le_of_ble_eq_true rfl)) (Nat.le_of_ble_eq_true rfl)) (Nat.le_of_ble_eq_true rfl)) (Nat.le_of_ble_eq_true rfl)) (Nat.le_of_ble_eq_true rfl)) (zP_up (zP_le hl (Nat.le_of_ble_eq_true rfl)) (Nat.le_of_ble_eq_true rfl)) ?_
  refine ev_sl (ce' := 101) (sl' := 1571) rfl rfl ?_
  refine ev_aast (pc' := 166) (j := 9) (R' := rfL pR_101) dX7_init_165 rfl rfl (Or.inr rfl) ⟨by decide, _, rfl, rfl⟩ rfl (Nat.le_of_ble_eq_true rfl) (Nat.le_of_ble_eq_true rfl) rfl ?_
  refine ev_iinc (pc' := 169) (v := 10) (lv' := [some (.ref 3), some (.int 10)]) dX7_init_166 rfl rfl (by decide) (Nat.le_of_ble_eq_true rfl) rfl rfl ?_
  refine ev_goto (tgt := 147) dX7_init_169 rfl ?_
  refine ev_iload_n (pc' := 148) (i := 1) dX7_init_147 rfl rfl rfl ?_
  refine ev_bipush (pc' := 150) (v := 12) dX7_init_148 rfl kb_12 ?_
  refine ev_icmp_ge (tgt := 172) (pc' := 153) dX7_init_150 rfl rfl (fun h => absurd h (by decide)) (fun _ => ?_)
  refine ev_aload_n (pc' := 154) (i := 0) dX7_init_153 rfl rfl rfl ?_
  refine ev_getR (pc' := 157) fo_X7_17 dX7_init_154 rfl rfl rfl rfl ?_
  refine ev_iload_n (pc' := 158) (i := 1) dX7_init_157 rfl rfl rfl ?_
  refine en_new (t := 1) (pc' := 161) (N := 3) (a' := 105) (n' := 103) (ce' := 102) (sl' := 1574) (by decide) rfl ck_X7_15 cb_X1 tb_in_X1 tb_ws1 tb_ty1 tb_df1 (zP_sz (zP_sz (zP_sz (zP_sz (zP_sz (zP_sz (zP_sz (zP_sz (zP_up (zP_up (zP_le hz (Nat.le_of_ble_eq_true rfl)) (Nat.le_of_ble_eq_true rfl)) (Nat.le_of_ble_eq_true rfl)) (Nat.le_of_ble_eq_true rfl)) (Nat.le_of_ble_eq_true rfl)) (Nat.le_of_ble_eq_true rfl)) (Nat.le_of_ble_eq_true rfl)) (Nat.le_of_ble_eq_true rfl)) (Nat.le_of_ble_eq_true rfl)) (Nat.le_of_ble_eq_true rfl)) (Nat.le_of_ble_eq_true rfl)) (zP_up (zP_le hl (Nat.le_of_ble_eq_true rfl)) (Nat.le_of_ble_eq_true rfl)) rfl rfl dX7_init_158 rfl ⟨(Nat.le_of_ble_eq_true rfl), (Nat.le_of_ble_eq_true rfl)⟩ rfl rfl rfl rfl ?_
  refine ev_dup (pc' := 162) dX7_init_161 rfl rfl ?_
  refine ev_callI (pc' := 165) (rm' := rX1_init) (b := 105) (av := []) (rest := [.ref 105, .int 10, .ref 5]) co_X7_74 ci_X1_init rfl dX7_init_162 rfl rfl rfl (Nat.le_of_ble_eq_true rfl) ⟨(Nat.le_of_ble_eq_true rfl), (Nat.le_of_ble_eq_true rfl)⟩ ⟨(Nat.le_of_ble_eq_true rfl), (Nat.le_of_ble_eq_true rfl)⟩ ?_
  refine t_X1_init_105 (zP_sz (zP_sz (zP_sz (zP_sz (zP_sz (zP_sz (zP_sz (zP_sz (zP_up (zP_up (zP_le hz (Nat.le_of_ble_eq_true rfl)) (Nat.le_of_ble_eq_true rfl)) (Nat.le_of_ble_eq_true rfl)) (Nat.le_of_ble_eq_true rfl)) (Nat.le_of_ble_eq_true rfl)) (Nat.le_of_ble_eq_true rfl)) (Nat.le_of_ble_eq_true rfl)) (Nat.le_of_ble_eq_true rfl)) (Nat.le_of_ble_eq_true rfl)) (Nat.le_of_ble_eq_true rfl)) (Nat.le_of_ble_eq_true rfl)) (zP_up (zP_le hl (Nat.le_of_ble_eq_true rfl)) (Nat.le_of_ble_eq_true rfl)) ?_
  refine ev_sl (ce' := 106) (sl' := 1611) rfl rfl ?_
  refine ev_aast (pc' := 166) (j := 10) (R' := rfL pR_106) dX7_init_165 rfl rfl (Or.inr rfl) ⟨by decide, _, rfl, rfl⟩ rfl (Nat.le_of_ble_eq_true rfl) (Nat.le_of_ble_eq_true rfl) rfl ?_
  refine ev_iinc (pc' := 169) (v := 11) (lv' := [some (.ref 3), some (.int 11)]) dX7_init_166 rfl rfl (by decide) (Nat.le_of_ble_eq_true rfl) rfl rfl ?_
  refine ev_goto (tgt := 147) dX7_init_169 rfl ?_
  refine ev_iload_n (pc' := 148) (i := 1) dX7_init_147 rfl rfl rfl ?_
  refine ev_bipush (pc' := 150) (v := 12) dX7_init_148 rfl kb_12 ?_
  refine ev_icmp_ge (tgt := 172) (pc' := 153) dX7_init_150 rfl rfl (fun h => absurd h (by decide)) (fun _ => ?_)
  refine ev_aload_n (pc' := 154) (i := 0) dX7_init_153 rfl rfl rfl ?_
  refine ev_getR (pc' := 157) fo_X7_17 dX7_init_154 rfl rfl rfl rfl ?_
  refine ev_iload_n (pc' := 158) (i := 1) dX7_init_157 rfl rfl rfl ?_
  refine en_new (t := 1) (pc' := 161) (N := 3) (a' := 110) (n' := 108) (ce' := 107) (sl' := 1614) (by decide) rfl ck_X7_15 cb_X1 tb_in_X1 tb_ws1 tb_ty1 tb_df1 (zP_sz (zP_sz (zP_sz (zP_sz (zP_sz (zP_sz (zP_sz (zP_sz (zP_up (zP_up (zP_le hz (Nat.le_of_ble_eq_true rfl)) (Nat.le_of_ble_eq_true rfl)) (Nat.le_of_ble_eq_true rfl)) (Nat.le_of_ble_eq_true rfl)) (Nat.le_of_ble_eq_true rfl)) (Nat.le_of_ble_eq_true rfl)) (Nat.le_of_ble_eq_true rfl)) (Nat.le_of_ble_eq_true rfl)) (Nat.le_of_ble_eq_true rfl)) (Nat.le_of_ble_eq_true rfl)) (Nat.le_of_ble_eq_true rfl)) (zP_up (zP_le hl (Nat.le_of_ble_eq_true rfl)) (Nat.le_of_ble_eq_true rfl)) rfl rfl dX7_init_158 rfl ⟨(Nat.le_of_ble_eq_true rfl), (Nat.le_of_ble_eq_true rfl)⟩ rfl rfl rfl rfl ?_
  refine ev_dup (pc' := 162) dX7_init_161 rfl rfl ?_
  refine ev_callI (pc' := 165) (rm' := rX1_init) (b := 110) (av := []) (rest := [.ref 110, .int 11, .ref 5]) co_X7_74 ci_X1_init rfl dX7_init_162 rfl rfl rfl (Nat.le_of_ble_eq_true rfl) ⟨(Nat.le_of_ble_eq_true rfl), (Nat.le_of_ble_eq_true rfl)⟩ ⟨(Nat.le_of_ble_eq_true rfl), (Nat.le_of_ble_eq_true rfl)⟩ ?_
  refine t_X1_init_110 (zP_sz (zP_sz (zP_sz (zP_sz (zP_sz (zP_sz (zP_sz (zP_sz (zP_up (zP_up (zP_le hz (Nat.le_of_ble_eq_true rfl)) (Nat.le_of_ble_eq_true rfl)) (Nat.le_of_ble_eq_true rfl)) (Nat.le_of_ble_eq_true rfl)) (Nat.le_of_ble_eq_true rfl)) (Nat.le_of_ble_eq_true rfl)) (Nat.le_of_ble_eq_true rfl)) (Nat.le_of_ble_eq_true rfl)) (Nat.le_of_ble_eq_true rfl)) (Nat.le_of_ble_eq_true rfl)) (Nat.le_of_ble_eq_true rfl)) (zP_up (zP_le hl (Nat.le_of_ble_eq_true rfl)) (Nat.le_of_ble_eq_true rfl)) ?_
  refine ev_sl (ce' := 111) (sl' := 1651) rfl rfl ?_
  refine ev_aast (pc' := 166) (j := 11) (R' := rfL pR_111) dX7_init_165 rfl rfl (Or.inr rfl) ⟨by decide, _, rfl, rfl⟩ rfl (Nat.le_of_ble_eq_true rfl) (Nat.le_of_ble_eq_true rfl) rfl ?_
  refine ev_iinc (pc' := 169) (v := 12) (lv' := [some (.ref 3), some (.int 12)]) dX7_init_166 rfl rfl (by decide) (Nat.le_of_ble_eq_true rfl) rfl rfl ?_
  refine ev_goto (tgt := 147) dX7_init_169 rfl ?_
  refine ev_iload_n (pc' := 148) (i := 1) dX7_init_147 rfl rfl rfl ?_
  refine ev_bipush (pc' := 150) (v := 12) dX7_init_148 rfl kb_12 ?_
  refine ev_icmp_ge (tgt := 172) (pc' := 153) dX7_init_150 rfl rfl (fun _ => ?_) (fun h => absurd (by decide) h)
  refine ev_vret dX7_init_172 rfl ⟨Nat.le_refl _, Nat.le_refl _⟩ ?_
  exact k TX TY hTX hTY
def pR_112 : List (Nat × Nat × Nat) := (115, 1, 116) :: pR_111
def pR_113 : List (Nat × Nat × Nat) := (115, 5, 117) :: pR_112
def pR_114 : List (Nat × Nat × Nat) := (115, 6, 118) :: pR_113
def pR_115 : List (Nat × Nat × Nat) := (115, 7, 119) :: pR_114
def pR_116 : List (Nat × Nat × Nat) := (115, 8, 120) :: pR_115
def pR_117 : List (Nat × Nat × Nat) := (115, 11, 121) :: pR_116
def pR_118 : List (Nat × Nat × Nat) := (115, 12, 122) :: pR_117
def pR_119 : List (Nat × Nat × Nat) := (115, 13, 123) :: pR_118
def pR_120 : List (Nat × Nat × Nat) := (115, 14, 124) :: pR_119
def pR_121 : List (Nat × Nat × Nat) := (115, 15, 125) :: pR_120
def pR_122 : List (Nat × Nat × Nat) := (115, 16, 126) :: pR_121
def pR_123 : List (Nat × Nat × Nat) := (115, 17, 127) :: pR_122
def pR_124 : List (Nat × Nat × Nat) := (115, 19, 128) :: pR_123
def pR_125 : List (Nat × Nat × Nat) := (115, 20, 129) :: pR_124
def pR_126 : List (Nat × Nat × Nat) := (115, 21, 130) :: pR_125
def pR_127 : List (Nat × Nat × Nat) := (115, 22, 131) :: pR_126
def pR_128 : List (Nat × Nat × Nat) := (115, 23, 132) :: pR_127
def pR_129 : List (Nat × Nat × Nat) := (115, 24, 133) :: pR_128
def pR_130 : List (Nat × Nat × Nat) := (115, 25, 134) :: pR_129
def pR_131 : List (Nat × Nat × Nat) := (115, 27, 135) :: pR_130
def pR_132 : List (Nat × Nat × Nat) := (115, 28, 136) :: pR_131
def pR_133 : List (Nat × Nat × Nat) := (115, 29, 137) :: pR_132
def pR_134 : List (Nat × Nat × Nat) := (115, 30, 138) :: pR_133
def pR_135 : List (Nat × Nat × Nat) := (115, 32, 139) :: pR_134
def pR_136 : List (Nat × Nat × Nat) := (115, 33, 140) :: pR_135
def pR_137 : List (Nat × Nat × Nat) := (115, 34, 141) :: pR_136
def pR_138 : List (Nat × Nat × Nat) := (115, 37, 142) :: pR_137
def pR_139 : List (Nat × Nat × Nat) := (115, 40, 143) :: pR_138
def pR_140 : List (Nat × Nat × Nat) := (115, 41, 144) :: pR_139
def pR_141 : List (Nat × Nat × Nat) := (115, 42, 145) :: pR_140
def pR_142 : List (Nat × Nat × Nat) := (115, 43, 146) :: pR_141
def pR_143 : List (Nat × Nat × Nat) := (115, 44, 147) :: pR_142
def pR_144 : List (Nat × Nat × Nat) := (115, 46, 148) :: pR_143
set_option maxRecDepth 4000 in
theorem t_X8_init_115 {g : ma_G} {Post : ma_P} {I : ma_I} {L : ma_L} (hz : zP 113 I) (hl : zP 113 L) (k : Post none (hsP 146) (ma_up I 117 (ma_up (ma_up (ma_up (ma_up (ma_up (ma_up (ma_up (ma_up (I 117) 0 (-9)) 1 (-9)) 2 (-9)) 3 (-9)) 4 (-9)) 5 (-9)) 6 (-9)) 7 (-9))) (ma_up L 115 (ma_up (L 115) 4 1)) (rfL pR_144) 146) : CT g yX8_init cX8_init 2 none rX8_init [.ref 115] Post (hsP 113) I L (rfL pR_111) 113 := by
  refine ct_of (lv := [some (.ref 115), none]) (by decide) (Nat.le_of_ble_eq_true rfl) rfl ?_
  refine ev_aload_n (pc' := 1) (i := 0) dX8_init_0 rfl rfl rfl ?_
  refine ev_obj (pc' := 4) ob_X8_1 dX8_init_1 rfl ob_i ob_c (Nat.le_of_ble_eq_true rfl) (Nat.le_of_ble_eq_true rfl) ?_
  refine ev_aload_n (pc' := 5) (i := 0) dX8_init_4 rfl rfl rfl ?_
  refine ev_bipush (pc' := 7) (v := 6) dX8_init_5 rfl kb_6 ?_
  refine en_I (pc' := 9) (N := 6) (a' := 116) (n' := 114) (ce' := 1) (sl' := 6) (zP_le hz (Nat.le_of_ble_eq_true rfl)) (zP_le hl (Nat.le_of_ble_eq_true rfl)) rfl rfl dX8_init_7 rfl rfl (Nat.le_of_ble_eq_true rfl) ⟨(Nat.le_of_ble_eq_true rfl), (Nat.le_of_ble_eq_true rfl)⟩ rfl rfl rfl rfl ?_
  refine ev_putF (pc' := 12) (R' := rfL pR_112) fo_X8_7 dX8_init_9 rfl rfl rfl rfl (fun r hr => by cases hr; exact ⟨rfl, rfl⟩) (fun q => ⟨rfl, rfl⟩) rfl ?_
  refine ev_aload_n (pc' := 13) (i := 0) dX8_init_12 rfl rfl rfl ?_
  refine ev_lconst (pc' := 14) (v := 1) dX8_init_13 rfl kl_1 ?_
  refine ev_putL (pc' := 17) (L' := (ma_up L 115 (ma_up (L 115) 4 1))) fo_X8_13 dX8_init_14 rfl rfl rfl (fun r hr => by cases hr; rfl) rfl ?_
  refine ev_aload_n (pc' := 18) (i := 0) dX8_init_17 rfl rfl rfl ?_
  refine ev_bipush (pc' := 20) (v := 8) dX8_init_18 rfl kb_8 ?_
  refine en_I (pc' := 22) (N := 8) (a' := 117) (n' := 115) (ce' := 2) (sl' := 14) (zP_le hz (Nat.le_of_ble_eq_true rfl)) (zP_up (zP_le hl (Nat.le_of_ble_eq_true rfl)) (Nat.le_of_ble_eq_true rfl)) rfl rfl dX8_init_20 rfl rfl (Nat.le_of_ble_eq_true rfl) ⟨(Nat.le_of_ble_eq_true rfl), (Nat.le_of_ble_eq_true rfl)⟩ rfl rfl rfl rfl ?_
  refine ev_putF (pc' := 25) (R' := rfL pR_113) fo_X8_17 dX8_init_22 rfl rfl rfl rfl (fun r hr => by cases hr; exact ⟨rfl, rfl⟩) (fun q => ⟨rfl, rfl⟩) rfl ?_
  refine ev_aload_n (pc' := 26) (i := 0) dX8_init_25 rfl rfl rfl ?_
  refine ev_sipush (pc' := 29) (v := 128) dX8_init_26 rfl ks_128 ?_
  refine en_I (pc' := 31) (N := 128) (a' := 118) (n' := 116) (ce' := 3) (sl' := 142) (zP_le hz (Nat.le_of_ble_eq_true rfl)) (zP_up (zP_le hl (Nat.le_of_ble_eq_true rfl)) (Nat.le_of_ble_eq_true rfl)) rfl rfl dX8_init_29 rfl rfl (Nat.le_of_ble_eq_true rfl) ⟨(Nat.le_of_ble_eq_true rfl), (Nat.le_of_ble_eq_true rfl)⟩ rfl rfl rfl rfl ?_
  refine ev_putF (pc' := 34) (R' := rfL pR_114) fo_X8_20 dX8_init_31 rfl rfl rfl rfl (fun r hr => by cases hr; exact ⟨rfl, rfl⟩) (fun q => ⟨rfl, rfl⟩) rfl ?_
  refine ev_aload_n (pc' := 35) (i := 0) dX8_init_34 rfl rfl rfl ?_
  refine ev_bipush (pc' := 37) (v := 16) dX8_init_35 rfl kb_16 ?_
  refine en_I (pc' := 39) (N := 16) (a' := 119) (n' := 117) (ce' := 4) (sl' := 158) (zP_le hz (Nat.le_of_ble_eq_true rfl)) (zP_up (zP_le hl (Nat.le_of_ble_eq_true rfl)) (Nat.le_of_ble_eq_true rfl)) rfl rfl dX8_init_37 rfl rfl (Nat.le_of_ble_eq_true rfl) ⟨(Nat.le_of_ble_eq_true rfl), (Nat.le_of_ble_eq_true rfl)⟩ rfl rfl rfl rfl ?_
  refine ev_putF (pc' := 42) (R' := rfL pR_115) fo_X8_23 dX8_init_39 rfl rfl rfl rfl (fun r hr => by cases hr; exact ⟨rfl, rfl⟩) (fun q => ⟨rfl, rfl⟩) rfl ?_
  refine ev_aload_n (pc' := 43) (i := 0) dX8_init_42 rfl rfl rfl ?_
  refine ev_bipush (pc' := 45) (v := 16) dX8_init_43 rfl kb_16 ?_
  refine en_L (pc' := 47) (N := 16) (a' := 120) (n' := 118) (ce' := 5) (sl' := 174) (zP_le hz (Nat.le_of_ble_eq_true rfl)) (zP_up (zP_le hl (Nat.le_of_ble_eq_true rfl)) (Nat.le_of_ble_eq_true rfl)) rfl rfl dX8_init_45 rfl rfl (Nat.le_of_ble_eq_true rfl) ⟨(Nat.le_of_ble_eq_true rfl), (Nat.le_of_ble_eq_true rfl)⟩ rfl rfl rfl rfl ?_
  refine ev_putF (pc' := 50) (R' := rfL pR_116) fo_X8_26 dX8_init_47 rfl rfl rfl rfl (fun r hr => by cases hr; exact ⟨rfl, rfl⟩) (fun q => ⟨rfl, rfl⟩) rfl ?_
  refine ev_aload_n (pc' := 51) (i := 0) dX8_init_50 rfl rfl rfl ?_
  refine ev_iconst (pc' := 52) (v := 5) dX8_init_51 rfl ki_5 ?_
  refine en_I (pc' := 54) (N := 5) (a' := 121) (n' := 119) (ce' := 6) (sl' := 179) (zP_le hz (Nat.le_of_ble_eq_true rfl)) (zP_up (zP_le hl (Nat.le_of_ble_eq_true rfl)) (Nat.le_of_ble_eq_true rfl)) rfl rfl dX8_init_52 rfl rfl (Nat.le_of_ble_eq_true rfl) ⟨(Nat.le_of_ble_eq_true rfl), (Nat.le_of_ble_eq_true rfl)⟩ rfl rfl rfl rfl ?_
  refine ev_putF (pc' := 57) (R' := rfL pR_117) fo_X8_30 dX8_init_54 rfl rfl rfl rfl (fun r hr => by cases hr; exact ⟨rfl, rfl⟩) (fun q => ⟨rfl, rfl⟩) rfl ?_
  refine ev_aload_n (pc' := 58) (i := 0) dX8_init_57 rfl rfl rfl ?_
  refine ev_bipush (pc' := 60) (v := 12) dX8_init_58 rfl kb_12 ?_
  refine en_Z (pc' := 62) (N := 12) (a' := 122) (n' := 120) (ce' := 7) (sl' := 191) (zP_le hz (Nat.le_of_ble_eq_true rfl)) (zP_up (zP_le hl (Nat.le_of_ble_eq_true rfl)) (Nat.le_of_ble_eq_true rfl)) rfl rfl dX8_init_60 rfl rfl (Nat.le_of_ble_eq_true rfl) ⟨(Nat.le_of_ble_eq_true rfl), (Nat.le_of_ble_eq_true rfl)⟩ rfl rfl rfl rfl ?_
  refine ev_putF (pc' := 65) (R' := rfL pR_118) fo_X8_33 dX8_init_62 rfl rfl rfl rfl (fun r hr => by cases hr; exact ⟨rfl, rfl⟩) (fun q => ⟨rfl, rfl⟩) rfl ?_
  refine ev_aload_n (pc' := 66) (i := 0) dX8_init_65 rfl rfl rfl ?_
  refine ev_sipush (pc' := 69) (v := 192) dX8_init_66 rfl ks_192 ?_
  refine en_I (pc' := 71) (N := 192) (a' := 123) (n' := 121) (ce' := 8) (sl' := 383) (zP_le hz (Nat.le_of_ble_eq_true rfl)) (zP_up (zP_le hl (Nat.le_of_ble_eq_true rfl)) (Nat.le_of_ble_eq_true rfl)) rfl rfl dX8_init_69 rfl rfl (Nat.le_of_ble_eq_true rfl) ⟨(Nat.le_of_ble_eq_true rfl), (Nat.le_of_ble_eq_true rfl)⟩ rfl rfl rfl rfl ?_
  refine ev_putF (pc' := 74) (R' := rfL pR_119) fo_X8_37 dX8_init_71 rfl rfl rfl rfl (fun r hr => by cases hr; exact ⟨rfl, rfl⟩) (fun q => ⟨rfl, rfl⟩) rfl ?_
  refine ev_aload_n (pc' := 75) (i := 0) dX8_init_74 rfl rfl rfl ?_
  refine ev_bipush (pc' := 77) (v := 120) dX8_init_75 rfl kb_120 ?_
  refine en_I (pc' := 79) (N := 120) (a' := 124) (n' := 122) (ce' := 9) (sl' := 503) (zP_le hz (Nat.le_of_ble_eq_true rfl)) (zP_up (zP_le hl (Nat.le_of_ble_eq_true rfl)) (Nat.le_of_ble_eq_true rfl)) rfl rfl dX8_init_77 rfl rfl (Nat.le_of_ble_eq_true rfl) ⟨(Nat.le_of_ble_eq_true rfl), (Nat.le_of_ble_eq_true rfl)⟩ rfl rfl rfl rfl ?_
  refine ev_putF (pc' := 82) (R' := rfL pR_120) fo_X8_40 dX8_init_79 rfl rfl rfl rfl (fun r hr => by cases hr; exact ⟨rfl, rfl⟩) (fun q => ⟨rfl, rfl⟩) rfl ?_
  refine ev_aload_n (pc' := 83) (i := 0) dX8_init_82 rfl rfl rfl ?_
  refine ev_bipush (pc' := 85) (v := 16) dX8_init_83 rfl kb_16 ?_
  refine en_I (pc' := 87) (N := 16) (a' := 125) (n' := 123) (ce' := 10) (sl' := 519) (zP_le hz (Nat.le_of_ble_eq_true rfl)) (zP_up (zP_le hl (Nat.le_of_ble_eq_true rfl)) (Nat.le_of_ble_eq_true rfl)) rfl rfl dX8_init_85 rfl rfl (Nat.le_of_ble_eq_true rfl) ⟨(Nat.le_of_ble_eq_true rfl), (Nat.le_of_ble_eq_true rfl)⟩ rfl rfl rfl rfl ?_
  refine ev_putF (pc' := 90) (R' := rfL pR_121) fo_X8_43 dX8_init_87 rfl rfl rfl rfl (fun r hr => by cases hr; exact ⟨rfl, rfl⟩) (fun q => ⟨rfl, rfl⟩) rfl ?_
  refine ev_aload_n (pc' := 91) (i := 0) dX8_init_90 rfl rfl rfl ?_
  refine ev_iconst (pc' := 92) (v := 4) dX8_init_91 rfl ki_4 ?_
  refine en_I (pc' := 94) (N := 4) (a' := 126) (n' := 124) (ce' := 11) (sl' := 523) (zP_le hz (Nat.le_of_ble_eq_true rfl)) (zP_up (zP_le hl (Nat.le_of_ble_eq_true rfl)) (Nat.le_of_ble_eq_true rfl)) rfl rfl dX8_init_92 rfl rfl (Nat.le_of_ble_eq_true rfl) ⟨(Nat.le_of_ble_eq_true rfl), (Nat.le_of_ble_eq_true rfl)⟩ rfl rfl rfl rfl ?_
  refine ev_putF (pc' := 97) (R' := rfL pR_122) fo_X8_46 dX8_init_94 rfl rfl rfl rfl (fun r hr => by cases hr; exact ⟨rfl, rfl⟩) (fun q => ⟨rfl, rfl⟩) rfl ?_
  refine ev_aload_n (pc' := 98) (i := 0) dX8_init_97 rfl rfl rfl ?_
  refine ev_iconst (pc' := 99) (v := 4) dX8_init_98 rfl ki_4 ?_
  refine en_I (pc' := 101) (N := 4) (a' := 127) (n' := 125) (ce' := 12) (sl' := 527) (zP_le hz (Nat.le_of_ble_eq_true rfl)) (zP_up (zP_le hl (Nat.le_of_ble_eq_true rfl)) (Nat.le_of_ble_eq_true rfl)) rfl rfl dX8_init_99 rfl rfl (Nat.le_of_ble_eq_true rfl) ⟨(Nat.le_of_ble_eq_true rfl), (Nat.le_of_ble_eq_true rfl)⟩ rfl rfl rfl rfl ?_
  refine ev_putF (pc' := 104) (R' := rfL pR_123) fo_X8_49 dX8_init_101 rfl rfl rfl rfl (fun r hr => by cases hr; exact ⟨rfl, rfl⟩) (fun q => ⟨rfl, rfl⟩) rfl ?_
  refine ev_aload_n (pc' := 105) (i := 0) dX8_init_104 rfl rfl rfl ?_
  refine ev_iconst (pc' := 106) (v := 3) dX8_init_105 rfl ki_3 ?_
  refine en_I (pc' := 108) (N := 3) (a' := 128) (n' := 126) (ce' := 13) (sl' := 530) (zP_le hz (Nat.le_of_ble_eq_true rfl)) (zP_up (zP_le hl (Nat.le_of_ble_eq_true rfl)) (Nat.le_of_ble_eq_true rfl)) rfl rfl dX8_init_106 rfl rfl (Nat.le_of_ble_eq_true rfl) ⟨(Nat.le_of_ble_eq_true rfl), (Nat.le_of_ble_eq_true rfl)⟩ rfl rfl rfl rfl ?_
  refine ev_putF (pc' := 111) (R' := rfL pR_124) fo_X8_52 dX8_init_108 rfl rfl rfl rfl (fun r hr => by cases hr; exact ⟨rfl, rfl⟩) (fun q => ⟨rfl, rfl⟩) rfl ?_
  refine ev_aload_n (pc' := 112) (i := 0) dX8_init_111 rfl rfl rfl ?_
  refine ev_bipush (pc' := 114) (v := 12) dX8_init_112 rfl kb_12 ?_
  refine en_I (pc' := 116) (N := 12) (a' := 129) (n' := 127) (ce' := 14) (sl' := 542) (zP_le hz (Nat.le_of_ble_eq_true rfl)) (zP_up (zP_le hl (Nat.le_of_ble_eq_true rfl)) (Nat.le_of_ble_eq_true rfl)) rfl rfl dX8_init_114 rfl rfl (Nat.le_of_ble_eq_true rfl) ⟨(Nat.le_of_ble_eq_true rfl), (Nat.le_of_ble_eq_true rfl)⟩ rfl rfl rfl rfl ?_
  refine ev_putF (pc' := 119) (R' := rfL pR_125) fo_X8_55 dX8_init_116 rfl rfl rfl rfl (fun r hr => by cases hr; exact ⟨rfl, rfl⟩) (fun q => ⟨rfl, rfl⟩) rfl ?_
  refine ev_aload_n (pc' := 120) (i := 0) dX8_init_119 rfl rfl rfl ?_
  refine ev_iconst (pc' := 121) (v := 4) dX8_init_120 rfl ki_4 ?_
  refine en_I (pc' := 123) (N := 4) (a' := 130) (n' := 128) (ce' := 15) (sl' := 546) (zP_le hz (Nat.le_of_ble_eq_true rfl)) (zP_up (zP_le hl (Nat.le_of_ble_eq_true rfl)) (Nat.le_of_ble_eq_true rfl)) rfl rfl dX8_init_121 rfl rfl (Nat.le_of_ble_eq_true rfl) ⟨(Nat.le_of_ble_eq_true rfl), (Nat.le_of_ble_eq_true rfl)⟩ rfl rfl rfl rfl ?_
  refine ev_putF (pc' := 126) (R' := rfL pR_126) fo_X8_58 dX8_init_123 rfl rfl rfl rfl (fun r hr => by cases hr; exact ⟨rfl, rfl⟩) (fun q => ⟨rfl, rfl⟩) rfl ?_
  refine ev_aload_n (pc' := 127) (i := 0) dX8_init_126 rfl rfl rfl ?_
  refine ev_iconst (pc' := 128) (v := 4) dX8_init_127 rfl ki_4 ?_
  refine en_I (pc' := 130) (N := 4) (a' := 131) (n' := 129) (ce' := 16) (sl' := 550) (zP_le hz (Nat.le_of_ble_eq_true rfl)) (zP_up (zP_le hl (Nat.le_of_ble_eq_true rfl)) (Nat.le_of_ble_eq_true rfl)) rfl rfl dX8_init_128 rfl rfl (Nat.le_of_ble_eq_true rfl) ⟨(Nat.le_of_ble_eq_true rfl), (Nat.le_of_ble_eq_true rfl)⟩ rfl rfl rfl rfl ?_
  refine ev_putF (pc' := 133) (R' := rfL pR_127) fo_X8_61 dX8_init_130 rfl rfl rfl rfl (fun r hr => by cases hr; exact ⟨rfl, rfl⟩) (fun q => ⟨rfl, rfl⟩) rfl ?_
  refine ev_aload_n (pc' := 134) (i := 0) dX8_init_133 rfl rfl rfl ?_
  refine ev_iconst (pc' := 135) (v := 5) dX8_init_134 rfl ki_5 ?_
  refine en_L (pc' := 137) (N := 5) (a' := 132) (n' := 130) (ce' := 17) (sl' := 555) (zP_le hz (Nat.le_of_ble_eq_true rfl)) (zP_up (zP_le hl (Nat.le_of_ble_eq_true rfl)) (Nat.le_of_ble_eq_true rfl)) rfl rfl dX8_init_135 rfl rfl (Nat.le_of_ble_eq_true rfl) ⟨(Nat.le_of_ble_eq_true rfl), (Nat.le_of_ble_eq_true rfl)⟩ rfl rfl rfl rfl ?_
  refine ev_putF (pc' := 140) (R' := rfL pR_128) fo_X8_64 dX8_init_137 rfl rfl rfl rfl (fun r hr => by cases hr; exact ⟨rfl, rfl⟩) (fun q => ⟨rfl, rfl⟩) rfl ?_
  refine ev_aload_n (pc' := 141) (i := 0) dX8_init_140 rfl rfl rfl ?_
  refine ev_bipush (pc' := 143) (v := 16) dX8_init_141 rfl kb_16 ?_
  refine en_I (pc' := 145) (N := 16) (a' := 133) (n' := 131) (ce' := 18) (sl' := 571) (zP_le hz (Nat.le_of_ble_eq_true rfl)) (zP_up (zP_le hl (Nat.le_of_ble_eq_true rfl)) (Nat.le_of_ble_eq_true rfl)) rfl rfl dX8_init_143 rfl rfl (Nat.le_of_ble_eq_true rfl) ⟨(Nat.le_of_ble_eq_true rfl), (Nat.le_of_ble_eq_true rfl)⟩ rfl rfl rfl rfl ?_
  refine ev_putF (pc' := 148) (R' := rfL pR_129) fo_X8_67 dX8_init_145 rfl rfl rfl rfl (fun r hr => by cases hr; exact ⟨rfl, rfl⟩) (fun q => ⟨rfl, rfl⟩) rfl ?_
  refine ev_aload_n (pc' := 149) (i := 0) dX8_init_148 rfl rfl rfl ?_
  refine ev_bipush (pc' := 151) (v := 16) dX8_init_149 rfl kb_16 ?_
  refine en_I (pc' := 153) (N := 16) (a' := 134) (n' := 132) (ce' := 19) (sl' := 587) (zP_le hz (Nat.le_of_ble_eq_true rfl)) (zP_up (zP_le hl (Nat.le_of_ble_eq_true rfl)) (Nat.le_of_ble_eq_true rfl)) rfl rfl dX8_init_151 rfl rfl (Nat.le_of_ble_eq_true rfl) ⟨(Nat.le_of_ble_eq_true rfl), (Nat.le_of_ble_eq_true rfl)⟩ rfl rfl rfl rfl ?_
  refine ev_putF (pc' := 156) (R' := rfL pR_130) fo_X8_70 dX8_init_153 rfl rfl rfl rfl (fun r hr => by cases hr; exact ⟨rfl, rfl⟩) (fun q => ⟨rfl, rfl⟩) rfl ?_
  refine ev_aload_n (pc' := 157) (i := 0) dX8_init_156 rfl rfl rfl ?_
  refine ev_iconst (pc' := 158) (v := 5) dX8_init_157 rfl ki_5 ?_
  refine en_L (pc' := 160) (N := 5) (a' := 135) (n' := 133) (ce' := 20) (sl' := 592) (zP_le hz (Nat.le_of_ble_eq_true rfl)) (zP_up (zP_le hl (Nat.le_of_ble_eq_true rfl)) (Nat.le_of_ble_eq_true rfl)) rfl rfl dX8_init_158 rfl rfl (Nat.le_of_ble_eq_true rfl) ⟨(Nat.le_of_ble_eq_true rfl), (Nat.le_of_ble_eq_true rfl)⟩ rfl rfl rfl rfl ?_
  refine ev_putF (pc' := 163) (R' := rfL pR_131) fo_X8_73 dX8_init_160 rfl rfl rfl rfl (fun r hr => by cases hr; exact ⟨rfl, rfl⟩) (fun q => ⟨rfl, rfl⟩) rfl ?_
  refine ev_aload_n (pc' := 164) (i := 0) dX8_init_163 rfl rfl rfl ?_
  refine ev_bipush (pc' := 166) (v := 8) dX8_init_164 rfl kb_8 ?_
  refine en_L (pc' := 168) (N := 8) (a' := 136) (n' := 134) (ce' := 21) (sl' := 600) (zP_le hz (Nat.le_of_ble_eq_true rfl)) (zP_up (zP_le hl (Nat.le_of_ble_eq_true rfl)) (Nat.le_of_ble_eq_true rfl)) rfl rfl dX8_init_166 rfl rfl (Nat.le_of_ble_eq_true rfl) ⟨(Nat.le_of_ble_eq_true rfl), (Nat.le_of_ble_eq_true rfl)⟩ rfl rfl rfl rfl ?_
  refine ev_putF (pc' := 171) (R' := rfL pR_132) fo_X8_76 dX8_init_168 rfl rfl rfl rfl (fun r hr => by cases hr; exact ⟨rfl, rfl⟩) (fun q => ⟨rfl, rfl⟩) rfl ?_
  refine ev_aload_n (pc' := 172) (i := 0) dX8_init_171 rfl rfl rfl ?_
  refine ev_bipush (pc' := 174) (v := 8) dX8_init_172 rfl kb_8 ?_
  refine en_L (pc' := 176) (N := 8) (a' := 137) (n' := 135) (ce' := 22) (sl' := 608) (zP_le hz (Nat.le_of_ble_eq_true rfl)) (zP_up (zP_le hl (Nat.le_of_ble_eq_true rfl)) (Nat.le_of_ble_eq_true rfl)) rfl rfl dX8_init_174 rfl rfl (Nat.le_of_ble_eq_true rfl) ⟨(Nat.le_of_ble_eq_true rfl), (Nat.le_of_ble_eq_true rfl)⟩ rfl rfl rfl rfl ?_
  refine ev_putF (pc' := 179) (R' := rfL pR_133) fo_X8_79 dX8_init_176 rfl rfl rfl rfl (fun r hr => by cases hr; exact ⟨rfl, rfl⟩) (fun q => ⟨rfl, rfl⟩) rfl ?_
  refine ev_aload_n (pc' := 180) (i := 0) dX8_init_179 rfl rfl rfl ?_
  refine ev_bipush (pc' := 182) (v := 8) dX8_init_180 rfl kb_8 ?_
  refine en_L (pc' := 184) (N := 8) (a' := 138) (n' := 136) (ce' := 23) (sl' := 616) (zP_le hz (Nat.le_of_ble_eq_true rfl)) (zP_up (zP_le hl (Nat.le_of_ble_eq_true rfl)) (Nat.le_of_ble_eq_true rfl)) rfl rfl dX8_init_182 rfl rfl (Nat.le_of_ble_eq_true rfl) ⟨(Nat.le_of_ble_eq_true rfl), (Nat.le_of_ble_eq_true rfl)⟩ rfl rfl rfl rfl ?_
  refine ev_putF (pc' := 187) (R' := rfL pR_134) fo_X8_82 dX8_init_184 rfl rfl rfl rfl (fun r hr => by cases hr; exact ⟨rfl, rfl⟩) (fun q => ⟨rfl, rfl⟩) rfl ?_
  refine ev_aload_n (pc' := 188) (i := 0) dX8_init_187 rfl rfl rfl ?_
  refine ev_iconst (pc' := 189) (v := 4) dX8_init_188 rfl ki_4 ?_
  refine en_L (pc' := 191) (N := 4) (a' := 139) (n' := 137) (ce' := 24) (sl' := 620) (zP_le hz (Nat.le_of_ble_eq_true rfl)) (zP_up (zP_le hl (Nat.le_of_ble_eq_true rfl)) (Nat.le_of_ble_eq_true rfl)) rfl rfl dX8_init_189 rfl rfl (Nat.le_of_ble_eq_true rfl) ⟨(Nat.le_of_ble_eq_true rfl), (Nat.le_of_ble_eq_true rfl)⟩ rfl rfl rfl rfl ?_
  refine ev_putF (pc' := 194) (R' := rfL pR_135) fo_X8_85 dX8_init_191 rfl rfl rfl rfl (fun r hr => by cases hr; exact ⟨rfl, rfl⟩) (fun q => ⟨rfl, rfl⟩) rfl ?_
  refine ev_aload_n (pc' := 195) (i := 0) dX8_init_194 rfl rfl rfl ?_
  refine ev_iconst (pc' := 196) (v := 4) dX8_init_195 rfl ki_4 ?_
  refine en_L (pc' := 198) (N := 4) (a' := 140) (n' := 138) (ce' := 25) (sl' := 624) (zP_le hz (Nat.le_of_ble_eq_true rfl)) (zP_up (zP_le hl (Nat.le_of_ble_eq_true rfl)) (Nat.le_of_ble_eq_true rfl)) rfl rfl dX8_init_196 rfl rfl (Nat.le_of_ble_eq_true rfl) ⟨(Nat.le_of_ble_eq_true rfl), (Nat.le_of_ble_eq_true rfl)⟩ rfl rfl rfl rfl ?_
  refine ev_putF (pc' := 201) (R' := rfL pR_136) fo_X8_88 dX8_init_198 rfl rfl rfl rfl (fun r hr => by cases hr; exact ⟨rfl, rfl⟩) (fun q => ⟨rfl, rfl⟩) rfl ?_
  refine ev_aload_n (pc' := 202) (i := 0) dX8_init_201 rfl rfl rfl ?_
  refine ev_iconst (pc' := 203) (v := 4) dX8_init_202 rfl ki_4 ?_
  refine en_I (pc' := 205) (N := 4) (a' := 141) (n' := 139) (ce' := 26) (sl' := 628) (zP_le hz (Nat.le_of_ble_eq_true rfl)) (zP_up (zP_le hl (Nat.le_of_ble_eq_true rfl)) (Nat.le_of_ble_eq_true rfl)) rfl rfl dX8_init_203 rfl rfl (Nat.le_of_ble_eq_true rfl) ⟨(Nat.le_of_ble_eq_true rfl), (Nat.le_of_ble_eq_true rfl)⟩ rfl rfl rfl rfl ?_
  refine ev_putF (pc' := 208) (R' := rfL pR_137) fo_X8_91 dX8_init_205 rfl rfl rfl rfl (fun r hr => by cases hr; exact ⟨rfl, rfl⟩) (fun q => ⟨rfl, rfl⟩) rfl ?_
  refine ev_aload_n (pc' := 209) (i := 0) dX8_init_208 rfl rfl rfl ?_
  refine ev_iconst (pc' := 210) (v := 5) dX8_init_209 rfl ki_5 ?_
  refine en_L (pc' := 212) (N := 5) (a' := 142) (n' := 140) (ce' := 27) (sl' := 633) (zP_le hz (Nat.le_of_ble_eq_true rfl)) (zP_up (zP_le hl (Nat.le_of_ble_eq_true rfl)) (Nat.le_of_ble_eq_true rfl)) rfl rfl dX8_init_210 rfl rfl (Nat.le_of_ble_eq_true rfl) ⟨(Nat.le_of_ble_eq_true rfl), (Nat.le_of_ble_eq_true rfl)⟩ rfl rfl rfl rfl ?_
  refine ev_putF (pc' := 215) (R' := rfL pR_138) fo_X8_94 dX8_init_212 rfl rfl rfl rfl (fun r hr => by cases hr; exact ⟨rfl, rfl⟩) (fun q => ⟨rfl, rfl⟩) rfl ?_
  refine ev_aload_n (pc' := 216) (i := 0) dX8_init_215 rfl rfl rfl ?_
  refine ev_iconst (pc' := 217) (v := 4) dX8_init_216 rfl ki_4 ?_
  refine en_I (pc' := 219) (N := 4) (a' := 143) (n' := 141) (ce' := 28) (sl' := 637) (zP_le hz (Nat.le_of_ble_eq_true rfl)) (zP_up (zP_le hl (Nat.le_of_ble_eq_true rfl)) (Nat.le_of_ble_eq_true rfl)) rfl rfl dX8_init_217 rfl rfl (Nat.le_of_ble_eq_true rfl) ⟨(Nat.le_of_ble_eq_true rfl), (Nat.le_of_ble_eq_true rfl)⟩ rfl rfl rfl rfl ?_
  refine ev_putF (pc' := 222) (R' := rfL pR_139) fo_X8_97 dX8_init_219 rfl rfl rfl rfl (fun r hr => by cases hr; exact ⟨rfl, rfl⟩) (fun q => ⟨rfl, rfl⟩) rfl ?_
  refine ev_aload_n (pc' := 223) (i := 0) dX8_init_222 rfl rfl rfl ?_
  refine ev_iconst (pc' := 224) (v := 4) dX8_init_223 rfl ki_4 ?_
  refine en_I (pc' := 226) (N := 4) (a' := 144) (n' := 142) (ce' := 29) (sl' := 641) (zP_le hz (Nat.le_of_ble_eq_true rfl)) (zP_up (zP_le hl (Nat.le_of_ble_eq_true rfl)) (Nat.le_of_ble_eq_true rfl)) rfl rfl dX8_init_224 rfl rfl (Nat.le_of_ble_eq_true rfl) ⟨(Nat.le_of_ble_eq_true rfl), (Nat.le_of_ble_eq_true rfl)⟩ rfl rfl rfl rfl ?_
  refine ev_putF (pc' := 229) (R' := rfL pR_140) fo_X8_100 dX8_init_226 rfl rfl rfl rfl (fun r hr => by cases hr; exact ⟨rfl, rfl⟩) (fun q => ⟨rfl, rfl⟩) rfl ?_
  refine ev_aload_n (pc' := 230) (i := 0) dX8_init_229 rfl rfl rfl ?_
  refine ev_iconst (pc' := 231) (v := 4) dX8_init_230 rfl ki_4 ?_
  refine en_I (pc' := 233) (N := 4) (a' := 145) (n' := 143) (ce' := 30) (sl' := 645) (zP_le hz (Nat.le_of_ble_eq_true rfl)) (zP_up (zP_le hl (Nat.le_of_ble_eq_true rfl)) (Nat.le_of_ble_eq_true rfl)) rfl rfl dX8_init_231 rfl rfl (Nat.le_of_ble_eq_true rfl) ⟨(Nat.le_of_ble_eq_true rfl), (Nat.le_of_ble_eq_true rfl)⟩ rfl rfl rfl rfl ?_
  refine ev_putF (pc' := 236) (R' := rfL pR_141) fo_X8_103 dX8_init_233 rfl rfl rfl rfl (fun r hr => by cases hr; exact ⟨rfl, rfl⟩) (fun q => ⟨rfl, rfl⟩) rfl ?_
  refine ev_aload_n (pc' := 237) (i := 0) dX8_init_236 rfl rfl rfl ?_
  refine ev_sipush (pc' := 240) (v := 257) dX8_init_237 rfl ks_257 ?_
  refine en_I (pc' := 242) (N := 257) (a' := 146) (n' := 144) (ce' := 31) (sl' := 902) (zP_le hz (Nat.le_of_ble_eq_true rfl)) (zP_up (zP_le hl (Nat.le_of_ble_eq_true rfl)) (Nat.le_of_ble_eq_true rfl)) rfl rfl dX8_init_240 rfl rfl (Nat.le_of_ble_eq_true rfl) ⟨(Nat.le_of_ble_eq_true rfl), (Nat.le_of_ble_eq_true rfl)⟩ rfl rfl rfl rfl ?_
  refine ev_putF (pc' := 245) (R' := rfL pR_142) fo_X8_106 dX8_init_242 rfl rfl rfl rfl (fun r hr => by cases hr; exact ⟨rfl, rfl⟩) (fun q => ⟨rfl, rfl⟩) rfl ?_
  refine ev_aload_n (pc' := 246) (i := 0) dX8_init_245 rfl rfl rfl ?_
  refine ev_sipush (pc' := 249) (v := 257) dX8_init_246 rfl ks_257 ?_
  refine en_I (pc' := 251) (N := 257) (a' := 147) (n' := 145) (ce' := 32) (sl' := 1159) (zP_le hz (Nat.le_of_ble_eq_true rfl)) (zP_up (zP_le hl (Nat.le_of_ble_eq_true rfl)) (Nat.le_of_ble_eq_true rfl)) rfl rfl dX8_init_249 rfl rfl (Nat.le_of_ble_eq_true rfl) ⟨(Nat.le_of_ble_eq_true rfl), (Nat.le_of_ble_eq_true rfl)⟩ rfl rfl rfl rfl ?_
  refine ev_putF (pc' := 254) (R' := rfL pR_143) fo_X8_109 dX8_init_251 rfl rfl rfl rfl (fun r hr => by cases hr; exact ⟨rfl, rfl⟩) (fun q => ⟨rfl, rfl⟩) rfl ?_
  refine ev_aload_n (pc' := 255) (i := 0) dX8_init_254 rfl rfl rfl ?_
  refine ev_sipush (pc' := 258) (v := 300) dX8_init_255 rfl ks_300 ?_
  refine en_I (pc' := 260) (N := 300) (a' := 148) (n' := 146) (ce' := 33) (sl' := 1459) (zP_le hz (Nat.le_of_ble_eq_true rfl)) (zP_up (zP_le hl (Nat.le_of_ble_eq_true rfl)) (Nat.le_of_ble_eq_true rfl)) rfl rfl dX8_init_258 rfl rfl (Nat.le_of_ble_eq_true rfl) ⟨(Nat.le_of_ble_eq_true rfl), (Nat.le_of_ble_eq_true rfl)⟩ rfl rfl rfl rfl ?_
  refine ev_putF (pc' := 263) (R' := rfL pR_144) fo_X8_112 dX8_init_260 rfl rfl rfl rfl (fun r hr => by cases hr; exact ⟨rfl, rfl⟩) (fun q => ⟨rfl, rfl⟩) rfl ?_
  refine ev_iconst (pc' := 264) (v := 0) dX8_init_263 rfl ki_0 ?_
  refine ev_istore_n (pc' := 265) (i := 1) (lv' := [some (.ref 115), some (.int 0)]) dX8_init_264 rfl rfl (Nat.le_of_ble_eq_true rfl) rfl rfl ?_
  refine ev_iload_n (pc' := 266) (i := 1) dX8_init_265 rfl rfl rfl ?_
  refine ev_bipush (pc' := 268) (v := 8) dX8_init_266 rfl kb_8 ?_
  refine ev_icmp_ge (tgt := 285) (pc' := 271) dX8_init_268 rfl rfl (fun h => absurd h (by decide)) (fun _ => ?_)
  refine ev_aload_n (pc' := 272) (i := 0) dX8_init_271 rfl rfl rfl ?_
  refine ev_getR (pc' := 275) fo_X8_17 dX8_init_272 rfl rfl rfl rfl ?_
  refine ev_iload_n (pc' := 276) (i := 1) dX8_init_275 rfl rfl rfl ?_
  refine ev_bipush (pc' := 278) (v := (-9)) dX8_init_276 rfl kb_m9 ?_
  refine ev_iast (pc' := 279) (j := 0) (I' := (ma_up I 117 (ma_up (I 117) 0 (-9)))) dX8_init_278 rfl rfl rfl (Nat.le_of_ble_eq_true rfl) (Nat.le_of_ble_eq_true rfl) rfl ?_
  refine ev_iinc (pc' := 282) (v := 1) (lv' := [some (.ref 115), some (.int 1)]) dX8_init_279 rfl rfl (by decide) (Nat.le_of_ble_eq_true rfl) rfl rfl ?_
  refine ev_goto (tgt := 265) dX8_init_282 rfl ?_
  refine ev_iload_n (pc' := 266) (i := 1) dX8_init_265 rfl rfl rfl ?_
  refine ev_bipush (pc' := 268) (v := 8) dX8_init_266 rfl kb_8 ?_
  refine ev_icmp_ge (tgt := 285) (pc' := 271) dX8_init_268 rfl rfl (fun h => absurd h (by decide)) (fun _ => ?_)
  refine ev_aload_n (pc' := 272) (i := 0) dX8_init_271 rfl rfl rfl ?_
  refine ev_getR (pc' := 275) fo_X8_17 dX8_init_272 rfl rfl rfl rfl ?_
  refine ev_iload_n (pc' := 276) (i := 1) dX8_init_275 rfl rfl rfl ?_
  refine ev_bipush (pc' := 278) (v := (-9)) dX8_init_276 rfl kb_m9 ?_
  refine ev_iast (pc' := 279) (j := 1) (I' := (ma_up I 117 (ma_up (ma_up (I 117) 0 (-9)) 1 (-9)))) dX8_init_278 rfl rfl rfl (Nat.le_of_ble_eq_true rfl) (Nat.le_of_ble_eq_true rfl) (ma_up_up _ _ _ _) ?_
  refine ev_iinc (pc' := 282) (v := 2) (lv' := [some (.ref 115), some (.int 2)]) dX8_init_279 rfl rfl (by decide) (Nat.le_of_ble_eq_true rfl) rfl rfl ?_
  refine ev_goto (tgt := 265) dX8_init_282 rfl ?_
  refine ev_iload_n (pc' := 266) (i := 1) dX8_init_265 rfl rfl rfl ?_
  refine ev_bipush (pc' := 268) (v := 8) dX8_init_266 rfl kb_8 ?_
  refine ev_icmp_ge (tgt := 285) (pc' := 271) dX8_init_268 rfl rfl (fun h => absurd h (by decide)) (fun _ => ?_)
  refine ev_aload_n (pc' := 272) (i := 0) dX8_init_271 rfl rfl rfl ?_
  refine ev_getR (pc' := 275) fo_X8_17 dX8_init_272 rfl rfl rfl rfl ?_
  refine ev_iload_n (pc' := 276) (i := 1) dX8_init_275 rfl rfl rfl ?_
  refine ev_bipush (pc' := 278) (v := (-9)) dX8_init_276 rfl kb_m9 ?_
  refine ev_iast (pc' := 279) (j := 2) (I' := (ma_up I 117 (ma_up (ma_up (ma_up (I 117) 0 (-9)) 1 (-9)) 2 (-9)))) dX8_init_278 rfl rfl rfl (Nat.le_of_ble_eq_true rfl) (Nat.le_of_ble_eq_true rfl) (ma_up_up _ _ _ _) ?_
  refine ev_iinc (pc' := 282) (v := 3) (lv' := [some (.ref 115), some (.int 3)]) dX8_init_279 rfl rfl (by decide) (Nat.le_of_ble_eq_true rfl) rfl rfl ?_
  refine ev_goto (tgt := 265) dX8_init_282 rfl ?_
  refine ev_iload_n (pc' := 266) (i := 1) dX8_init_265 rfl rfl rfl ?_
  refine ev_bipush (pc' := 268) (v := 8) dX8_init_266 rfl kb_8 ?_
  refine ev_icmp_ge (tgt := 285) (pc' := 271) dX8_init_268 rfl rfl (fun h => absurd h (by decide)) (fun _ => ?_)
  refine ev_aload_n (pc' := 272) (i := 0) dX8_init_271 rfl rfl rfl ?_
  refine ev_getR (pc' := 275) fo_X8_17 dX8_init_272 rfl rfl rfl rfl ?_
  refine ev_iload_n (pc' := 276) (i := 1) dX8_init_275 rfl rfl rfl ?_
  refine ev_bipush (pc' := 278) (v := (-9)) dX8_init_276 rfl kb_m9 ?_
  refine ev_iast (pc' := 279) (j := 3) (I' := (ma_up I 117 (ma_up (ma_up (ma_up (ma_up (I 117) 0 (-9)) 1 (-9)) 2 (-9)) 3 (-9)))) dX8_init_278 rfl rfl rfl (Nat.le_of_ble_eq_true rfl) (Nat.le_of_ble_eq_true rfl) (ma_up_up _ _ _ _) ?_
  refine ev_iinc (pc' := 282) (v := 4) (lv' := [some (.ref 115), some (.int 4)]) dX8_init_279 rfl rfl (by decide) (Nat.le_of_ble_eq_true rfl) rfl rfl ?_
  refine ev_goto (tgt := 265) dX8_init_282 rfl ?_
  refine ev_iload_n (pc' := 266) (i := 1) dX8_init_265 rfl rfl rfl ?_
  refine ev_bipush (pc' := 268) (v := 8) dX8_init_266 rfl kb_8 ?_
  refine ev_icmp_ge (tgt := 285) (pc' := 271) dX8_init_268 rfl rfl (fun h => absurd h (by decide)) (fun _ => ?_)
  refine ev_aload_n (pc' := 272) (i := 0) dX8_init_271 rfl rfl rfl ?_
  refine ev_getR (pc' := 275) fo_X8_17 dX8_init_272 rfl rfl rfl rfl ?_
  refine ev_iload_n (pc' := 276) (i := 1) dX8_init_275 rfl rfl rfl ?_
  refine ev_bipush (pc' := 278) (v := (-9)) dX8_init_276 rfl kb_m9 ?_
  refine ev_iast (pc' := 279) (j := 4) (I' := (ma_up I 117 (ma_up (ma_up (ma_up (ma_up (ma_up (I 117) 0 (-9)) 1 (-9)) 2 (-9)) 3 (-9)) 4 (-9)))) dX8_init_278 rfl rfl rfl (Nat.le_of_ble_eq_true rfl) (Nat.le_of_ble_eq_true rfl) (ma_up_up _ _ _ _) ?_
  refine ev_iinc (pc' := 282) (v := 5) (lv' := [some (.ref 115), some (.int 5)]) dX8_init_279 rfl rfl (by decide) (Nat.le_of_ble_eq_true rfl) rfl rfl ?_
  refine ev_goto (tgt := 265) dX8_init_282 rfl ?_
  refine ev_iload_n (pc' := 266) (i := 1) dX8_init_265 rfl rfl rfl ?_
  refine ev_bipush (pc' := 268) (v := 8) dX8_init_266 rfl kb_8 ?_
  refine ev_icmp_ge (tgt := 285) (pc' := 271) dX8_init_268 rfl rfl (fun h => absurd h (by decide)) (fun _ => ?_)
  refine ev_aload_n (pc' := 272) (i := 0) dX8_init_271 rfl rfl rfl ?_
  refine ev_getR (pc' := 275) fo_X8_17 dX8_init_272 rfl rfl rfl rfl ?_
  refine ev_iload_n (pc' := 276) (i := 1) dX8_init_275 rfl rfl rfl ?_
  refine ev_bipush (pc' := 278) (v := (-9)) dX8_init_276 rfl kb_m9 ?_
  refine ev_iast (pc' := 279) (j := 5) (I' := (ma_up I 117 (ma_up (ma_up (ma_up (ma_up (ma_up (ma_up (I 117) 0 (-9)) 1 (-9)) 2 (-9)) 3 (-9)) 4 (-9)) 5 (-9)))) dX8_init_278 rfl rfl rfl (Nat.le_of_ble_eq_true rfl) (Nat.le_of_ble_eq_true rfl) (ma_up_up _ _ _ _) ?_
  refine ev_iinc (pc' := 282) (v := 6) (lv' := [some (.ref 115), some (.int 6)]) dX8_init_279 rfl rfl (by decide) (Nat.le_of_ble_eq_true rfl) rfl rfl ?_
  refine ev_goto (tgt := 265) dX8_init_282 rfl ?_
  refine ev_iload_n (pc' := 266) (i := 1) dX8_init_265 rfl rfl rfl ?_
  refine ev_bipush (pc' := 268) (v := 8) dX8_init_266 rfl kb_8 ?_
  refine ev_icmp_ge (tgt := 285) (pc' := 271) dX8_init_268 rfl rfl (fun h => absurd h (by decide)) (fun _ => ?_)
  refine ev_aload_n (pc' := 272) (i := 0) dX8_init_271 rfl rfl rfl ?_
  refine ev_getR (pc' := 275) fo_X8_17 dX8_init_272 rfl rfl rfl rfl ?_
  refine ev_iload_n (pc' := 276) (i := 1) dX8_init_275 rfl rfl rfl ?_
  refine ev_bipush (pc' := 278) (v := (-9)) dX8_init_276 rfl kb_m9 ?_
  refine ev_iast (pc' := 279) (j := 6) (I' := (ma_up I 117 (ma_up (ma_up (ma_up (ma_up (ma_up (ma_up (ma_up (I 117) 0 (-9)) 1 (-9)) 2 (-9)) 3 (-9)) 4 (-9)) 5 (-9)) 6 (-9)))) dX8_init_278 rfl rfl rfl (Nat.le_of_ble_eq_true rfl) (Nat.le_of_ble_eq_true rfl) (ma_up_up _ _ _ _) ?_
  refine ev_iinc (pc' := 282) (v := 7) (lv' := [some (.ref 115), some (.int 7)]) dX8_init_279 rfl rfl (by decide) (Nat.le_of_ble_eq_true rfl) rfl rfl ?_
  refine ev_goto (tgt := 265) dX8_init_282 rfl ?_
  refine ev_iload_n (pc' := 266) (i := 1) dX8_init_265 rfl rfl rfl ?_
  refine ev_bipush (pc' := 268) (v := 8) dX8_init_266 rfl kb_8 ?_
  refine ev_icmp_ge (tgt := 285) (pc' := 271) dX8_init_268 rfl rfl (fun h => absurd h (by decide)) (fun _ => ?_)
  refine ev_aload_n (pc' := 272) (i := 0) dX8_init_271 rfl rfl rfl ?_
  refine ev_getR (pc' := 275) fo_X8_17 dX8_init_272 rfl rfl rfl rfl ?_
  refine ev_iload_n (pc' := 276) (i := 1) dX8_init_275 rfl rfl rfl ?_
  refine ev_bipush (pc' := 278) (v := (-9)) dX8_init_276 rfl kb_m9 ?_
  refine ev_iast (pc' := 279) (j := 7) (I' := (ma_up I 117 (ma_up (ma_up (ma_up (ma_up (ma_up (ma_up (ma_up (ma_up (I 117) 0 (-9)) 1 (-9)) 2 (-9)) 3 (-9)) 4 (-9)) 5 (-9)) 6 (-9)) 7 (-9)))) dX8_init_278 rfl rfl rfl (Nat.le_of_ble_eq_true rfl) (Nat.le_of_ble_eq_true rfl) (ma_up_up _ _ _ _) ?_
  refine ev_iinc (pc' := 282) (v := 8) (lv' := [some (.ref 115), some (.int 8)]) dX8_init_279 rfl rfl (by decide) (Nat.le_of_ble_eq_true rfl) rfl rfl ?_
  refine ev_goto (tgt := 265) dX8_init_282 rfl ?_
  refine ev_iload_n (pc' := 266) (i := 1) dX8_init_265 rfl rfl rfl ?_
  refine ev_bipush (pc' := 268) (v := 8) dX8_init_266 rfl kb_8 ?_
  refine ev_icmp_ge (tgt := 285) (pc' := 271) dX8_init_268 rfl rfl (fun _ => ?_) (fun h => absurd (by decide) h)
  refine ev_vret dX8_init_285 rfl ⟨Nat.le_refl _, Nat.le_refl _⟩ ?_
  exact k
theorem hsP_146 : hsP 146 = HS := by
  funext a
  unfold hsP
  by_cases q : a < 149
  · rw [if_pos q]
  · rw [if_neg q]
    unfold HS
    rw [List.getElem?_eq_none (by show 149 ≤ a; omega)]
    rfl
theorem rfL_A : ∀ (pr : List (Nat × Nat × Nat)) (a k b : Nat), rfL pr a k = some b → (a, k, b) ∈ pr
  | [], _, _, _, h => by cases h
  | t :: r, a, k, b, h => by
    have h : ma_up (rfL r) t.1 (ma_up (rfL r t.1) t.2.1 (some t.2.2)) a k = some b := h
    by_cases e : a = t.1
    · subst e
      rw [ma_up_s] at h
      by_cases q : k = t.2.1
      · subst q; rw [ma_up_s] at h; cases h; exact List.mem_cons_self
      · rw [ma_up_n _ _ q] at h; exact List.mem_cons_of_mem _ (rfL_A r _ _ _ h)
    · rw [ma_up_n _ _ e] at h; exact List.mem_cons_of_mem _ (rfL_A r _ _ _ h)
def rfM (a k b : Nat) : List (Nat × Nat × Nat) → Bool
  | [] => false
  | t :: r => (Nat.beq t.1 a && (Nat.beq t.2.1 k && Nat.beq t.2.2 b)) || rfM a k b r
theorem rfL_B {a k b : Nat} : ∀ (pr : List (Nat × Nat × Nat)), rfM a k b pr = true → rfL pr a k ≠ none
  | [], h => by cases h
  | t :: r, h => by
    unfold rfM at h
    show ma_up (rfL r) t.1 (ma_up (rfL r t.1) t.2.1 (some t.2.2)) a k ≠ none
    by_cases e : a = t.1 ∧ k = t.2.1
    · rw [e.1, e.2, ma_up_s, ma_up_s]; intro z; cases z
    · have h2 : rfM a k b r = true := by
        rw [Bool.or_eq_true, Bool.and_eq_true, Bool.and_eq_true, Nat.beq_eq, Nat.beq_eq] at h
        rcases h with h | h
        · exact absurd ⟨h.1.symm, h.2.1.symm⟩ e
        · exact h
      have ih := rfL_B r h2
      by_cases q : a = t.1
      · subst q; rw [ma_up_s, ma_up_n _ _ (fun z => e ⟨rfl, z⟩)]; exact ih
      · rw [ma_up_n _ _ q]; exact ih
def chR (pr : List (Nat × Nat × Nat)) (a : Nat) : Nat → List (Option Nat) → Bool
  | _, [] => true
  | k, none :: r => chR pr a (k + 1) r
  | k, some b :: r => rfM a k b pr && chR pr a (k + 1) r
def chA (pr : List (Nat × Nat × Nat)) : Nat → List (List (Option Nat)) → Bool
  | _, [] => true
  | a, r :: l => chR pr a 0 r && chA pr (a + 1) l
theorem chR_ok {pr : List (Nat × Nat × Nat)} {a b : Nat} : ∀ (row : List (Option Nat)) (k0 i : Nat), chR pr a k0 row = true → row[i]? = some (some b) → rfM a (k0 + i) b pr = true
  | [], _, _, _, h => by simp at h
  | none :: r, k0, 0, _, h => by simp at h
  | some c :: r, k0, 0, h, e => by
    unfold chR at h
    rw [Bool.and_eq_true] at h
    have : c = b := by simpa using e
    subst this
    exact h.1
  | none :: r, k0, i + 1, h, e => by
    have := chR_ok r (k0 + 1) i h (by simpa using e)
    rw [show k0 + (i + 1) = k0 + 1 + i by omega]; exact this
  | some c :: r, k0, i + 1, h, e => by
    unfold chR at h
    rw [Bool.and_eq_true] at h
    have := chR_ok r (k0 + 1) i h.2 (by simpa using e)
    rw [show k0 + (i + 1) = k0 + 1 + i by omega]; exact this
theorem chA_ok {pr : List (Nat × Nat × Nat)} {b : Nat} : ∀ (l : List (List (Option Nat))) (a0 i k : Nat), chA pr a0 l = true → (((l[i]?).getD [])[k]?).getD none = some b → rfM (a0 + i) k b pr = true
  | [], _, _, _, _, h => by simp at h
  | r :: l, a0, 0, k, h, e => by
    unfold chA at h
    rw [Bool.and_eq_true] at h
    have e : (r[k]?).getD none = some b := e
    have e2 : r[k]? = some (some b) := by
      cases q : r[k]? with
      | none => rw [q] at e; cases e
      | some v => rw [q] at e; simpa using e
    have := chR_ok r 0 k h.1 e2
    rw [Nat.zero_add] at this
    exact this
  | r :: l, a0, i + 1, k, h, e => by
    unfold chA at h
    rw [Bool.and_eq_true] at h
    have := chA_ok l (a0 + 1) i k h.2 (by simpa using e)
    rw [show a0 + (i + 1) = a0 + 1 + i by omega]; exact this
set_option maxRecDepth 20000 in
theorem rfL_all : ∀ t ∈ pR_144, RF t.1 t.2.1 = some t.2.2 := by decide +kernel
theorem rfL_chk : chA pR_144 0 RFL = true := by decide +kernel
theorem rfL_R : rfL pR_144 = RF := by
  funext a k
  cases h : rfL pR_144 a k with
  | some b => exact (rfL_all _ (rfL_A _ _ _ _ h)).symm
  | none =>
    cases q : RF a k with
    | none => rfl
    | some b =>
      have := chA_ok RFL 0 a k rfL_chk q
      rw [Nat.zero_add] at this
      exact absurd h (rfL_B _ this)
