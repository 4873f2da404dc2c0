section Cells
variable {g : ma_G} {y : MethodName} {cc : ByteArray} {nL : Nat} {ret : Option FieldType} {rm : Room} {Z : ma_Z} {pc pc' : Nat} {lv : List (Option Value)} {st : List Value} {sh : ma_S} {I : ma_I} {L : ma_L} {R : ma_R} {n ce sl : Nat}
theorem ma_ad_ne {g : ma_G} {a b : Nat} (ha : 3 ≤ a) (hb : 3 ≤ b) (h : a ≠ b) : ma_ad g a ≠ ma_ad g b := by
  unfold ma_ad
  rw [if_neg (by omega), if_neg (by omega)]
  omega
theorem ma_ad_ge {g : ma_G} {a : Nat} (ha : 3 ≤ a) : g.2.2.2.1 ≤ ma_ad g a := by
  unfold ma_ad
  rw [if_neg (by omega)]
  omega
theorem ma_sl_eq {g : ma_G} {sh : ma_S} {I I' : ma_I} {L L' : ma_L} {R R' : ma_R} {a : Nat} (h1 : I' a = I a) (h2 : L' a = L a) (h3 : R' a = R a) : ma_sl g sh I' L' R' a = ma_sl g sh I L R a := by
  funext k
  unfold ma_sl
  rw [h1, h2, h3]
theorem ma_CR.kept {g : ma_G} {sh : ma_S} {I I' : ma_I} {L L' : ma_L} {R R' : ma_R} {H H' : Heap} {a : Nat} (h : ma_CR g sh I L R H a) (h1 : I' a = I a) (h2 : L' a = L a) (h3 : R' a = R a) (hq : H'[ma_ad g a]? = H[ma_ad g a]?) : ma_CR g sh I' L' R' H' a := by
  unfold ma_CR at h ⊢
  rw [ma_sl_eq h1 h2 h3]
  split
  · rename_i hlt
    rw [if_pos hlt] at h
    obtain ⟨r, hr, ho⟩ := h
    exact ⟨r, hr, ho.kept hq⟩
  · rename_i hlt
    rw [if_neg hlt] at h
    rw [hq]
    exact h
theorem ma_HR.set {g : ma_G} {sh : ma_S} {I I' : ma_I} {L L' : ma_L} {R R' : ma_R} {n : Nat} {H H' : Heap} {a : Nat} (h : ma_HR g sh I L R n H) (ha : (sh a).1 < 14) (hz : H'.size = H.size) (ho : ∀ q, q ≠ ma_ad g a → H'[q]? = H[q]?) (h1 : ∀ b, b ≠ a → I' b = I b) (h2 : ∀ b, b ≠ a → L' b = L b) (h3 : ∀ b, b ≠ a → R' b = R b) (hc : ma_CR g sh I' L' R' H' a) : ma_HR g sh I' L' R' n H' := by
  obtain ⟨e1, e2, e3⟩ := h
  have ha3 := e3 a ha
  refine ⟨hz.trans e1, fun q hq => ?_, fun b hb => ?_⟩
  · have := ma_ad_ge (g := g) ha3.1
    rw [ho q (by omega)]
    exact e2 q hq
  · have hb3 := e3 b hb
    refine ⟨hb3.1, hb3.2.1, ?_⟩
    by_cases e : b = a
    · subst e; exact hc
    · exact hb3.2.2.kept (h1 b e) (h2 b e) (h3 b e) (ho _ (ma_ad_ne hb3.1 ha3.1 e))
theorem ma_sl_0 {g : ma_G} {sh : ma_S} {I : ma_I} {L : ma_L} {R : ma_R} {a k : Nat} (h : ma_kd (sh a).1 k = 0) : ma_sl g sh I L R a k = .int (I a k) := by unfold ma_sl; rw [h]; rfl
theorem ma_sl_1 {g : ma_G} {sh : ma_S} {I : ma_I} {L : ma_L} {R : ma_R} {a k : Nat} (h : ma_kd (sh a).1 k = 1) : ma_sl g sh I L R a k = .long (L a k) := by unfold ma_sl; rw [h]; rfl
theorem ma_sl_2 {g : ma_G} {sh : ma_S} {I : ma_I} {L : ma_L} {R : ma_R} {a k : Nat} (h : ma_kd (sh a).1 k = 2) : ma_sl g sh I L R a k = ma_rf g (R a k) := by unfold ma_sl; rw [h]; rfl
theorem ma_up1 {α : Type} {J : Nat → Nat → α} {a : Nat} (f : Nat → α) : ∀ b, b ≠ a → ma_up J a f b = J b := fun _ h => ma_up_n J f h
/-- the field number k of class t, linked at idx of the class own -/
def ma_FO (own : String) (idx t k : Nat) : Prop := ∃ r : vw_C, vwCl[t]? = some r ∧ k < r.2.2 ∧ (∀ w ∈ u_ws r.1 r.2.1 r.2.2, w ∈ lw_tbl ∧ ma_gw w = true) ∧ Cond.fieldLink own idx (r.2.1 k).1 (r.2.1 k).2.1 (r.2.1 k).2.2.1 ∈ lw_tbl ∧
  (∀ j, j < r.2.2 → parseFieldDescriptor (r.2.1 j).2.2.1 = some (ma_ty t j)) ∧ (∀ a, a < r.2.2 → ∀ b, b < r.2.2 → a ≠ b → (r.2.1 a).2.1 ≠ (r.2.1 b).2.1) ∧ t < 9
theorem ma_vV {N : Nat} {V : Nat → Value} {k : Nat} (h : k < N) : vp_V ((List.range N).map V) k = V k := by
  simp [vp_V, h]
theorem ma_getW {t k a idx : Nat} {v : Value} (hf : ma_FO y.cls idx t k) (hs : (sh a).1 = t) (hv : ∀ g : ma_G, ma_sl g sh I L R a k = ma_sv g v) (hdg : decode cc pc = .ok (.getfield idx, 3)) (k' : EV g y cc nL ret rm Z (pc + 3) lv (v :: st) sh I L R n ce sl) : EV g y cc nL ret rm Z pc lv (.ref a :: st) sh I L R n ce sl := by
  intro p e s m args below meth c H locs ls hC hH hl hq
  obtain ⟨r, hr, hk, hws, hln, hty, hnm, ht⟩ := hf
  subst hs
  have hcr := (hH.2.2 a (by omega)).2.2
  unfold ma_CR at hcr
  rw [if_pos ht] at hcr
  obtain ⟨r', hr', ho⟩ := hcr
  obtain rfl : r' = r := Option.some.inj (hr'.symm.trans hr)
  have hKN := hC.2.2.2.2.2.1
  have hK : va_K g.2.1 vwCl [] s := ⟨hKN.2.1, fun k q h => by simp at h⟩
  have hP : va_P g.2.1 vwCl [(ma_ad g a, .inr ((sh a).1, (List.range r'.2.2).map (ma_sl g sh I L R a)))] H := by
    intro j q hj
    cases j with
    | zero =>
      simp at hj
      subst hj
      exact ⟨r', hr, ho.to (fun j hj => (ma_vV hj).symm)⟩
    | succ j => simp at hj
  refine va_get (C := r'.1) (T := r'.2.1) (N := r'.2.2) (ref := (r'.2.1 k).1) (v := ma_sv g v) hC.1 hC.2.1 (Ts := u_ws r'.1 r'.2.1 r'.2.2) (fun w hw => hKN.use (hws w hw).1 (hws w hw).2) (fun w h => h) hC.2.2.2.2.1 hK hP 0 rfl hr k hk (hKN.use hln rfl) (fun x h => h) ?_ hdg (k' p e s m args below meth c H locs ls hC hH hl hq)
  rw [← hv g]
  simp [hk]
theorem ev_getI {t k a idx N : Nat} {v : Int32} (hf : ma_FO y.cls idx t k) (hdg : decode cc pc = .ok (.getfield idx, 3)) (hp : pc + 3 = pc') (hs0 : sh a = (t, N)) (hk : ma_kd t k = 0) (hv : I a k = v) (k' : EV g y cc nL ret rm Z pc' lv (.int v :: st) sh I L R n ce sl) : EV g y cc nL ret rm Z pc lv (.ref a :: st) sh I L R n ce sl := by
  subst hp
  have hs : (sh a).1 = t := by rw [hs0]
  exact ma_getW hf hs (fun g => by rw [ma_sl_0 (by rw [hs]; exact hk), hv]; rfl) hdg k'
theorem ev_getL {t k a idx N : Nat} {v : Int64} (hf : ma_FO y.cls idx t k) (hdg : decode cc pc = .ok (.getfield idx, 3)) (hp : pc + 3 = pc') (hs0 : sh a = (t, N)) (hk : ma_kd t k = 1) (hv : L a k = v) (k' : EV g y cc nL ret rm Z pc' lv (.long v :: st) sh I L R n ce sl) : EV g y cc nL ret rm Z pc lv (.ref a :: st) sh I L R n ce sl := by
  subst hp
  have hs : (sh a).1 = t := by rw [hs0]
  exact ma_getW hf hs (fun g => by rw [ma_sl_1 (by rw [hs]; exact hk), hv]; rfl) hdg k'
theorem ev_getR {t k a idx N b : Nat} (hf : ma_FO y.cls idx t k) (hdg : decode cc pc = .ok (.getfield idx, 3)) (hp : pc + 3 = pc') (hs0 : sh a = (t, N)) (hk : ma_kd t k = 2) (hv : R a k = some b) (k' : EV g y cc nL ret rm Z pc' lv (.ref b :: st) sh I L R n ce sl) : EV g y cc nL ret rm Z pc lv (.ref a :: st) sh I L R n ce sl := by
  subst hp
  have hs : (sh a).1 = t := by rw [hs0]
  exact ma_getW hf hs (fun g => by rw [ma_sl_2 (by rw [hs]; exact hk), hv]; rfl) hdg k'
/-- putfield of a field that isn't final -/
theorem ma_putW {t k a idx : Nat} {v : Value} {I' : ma_I} {L' : ma_L} {R' : ma_R} (hf : ma_FO y.cls idx t k) (hs : (sh a).1 = t) (hfin : ∀ r : vw_C, vwCl[t]? = some r → (r.2.1 k).2.2.2 = false) (hn : ∀ g : ma_G, narrow (ma_ty t k) (ma_sv g v) = ma_sv g v) (hfit : ∀ g : ma_G, fits (ma_ty t k) (ma_sv g v) = true) (h1 : ∀ b, b ≠ a → I' b = I b) (h2 : ∀ b, b ≠ a → L' b = L b) (h3 : ∀ b, b ≠ a → R' b = R b)
    (hv : ∀ (g : ma_G) (j : Nat), ma_sl g sh I' L' R' a j = updV (ma_sl g sh I L R a) k (ma_sv g v) j) (hdg : decode cc pc = .ok (.putfield idx, 3)) (k' : EV g y cc nL ret rm Z (pc + 3) lv st sh I' L' R' n ce sl) : EV g y cc nL ret rm Z pc lv (v :: .ref a :: st) sh I L R n ce sl := by
  intro p e s m args below meth c H locs ls hC hH hl hq
  obtain ⟨r, hr, hk, hws, hln, hty, hnm, ht⟩ := hf
  subst hs
  have hA := hH.2.2 a (by omega)
  have hcr := hA.2.2
  unfold ma_CR at hcr
  rw [if_pos ht] at hcr
  obtain ⟨r', hr', cell, q1, q2, q3, q4⟩ := hcr
  obtain rfl : r' = r := Option.some.inj (hr'.symm.trans hr)
  have hKN := hC.2.2.2.2.2.1
  have hK : va_K g.2.1 vwCl [] s := ⟨hKN.2.1, fun k q h => by simp at h⟩
  have hts : ∀ w ∈ u_ws r'.1 r'.2.1 r'.2.2, w.before args s = true := fun w hw => hKN.use (hws w hw).1 (hws w hw).2
  have hap := va_apart (own := y.cls) hts (fun w h => h) (ma_ty (sh a).1) hty hnm hK hr
  obtain ⟨hS, hfc, kC, hkC, hkind⟩ := hKN.2.1 _ _ hr
  obtain ⟨cf, kf, fi, f, hi, hsl⟩ := hS k hk
  have hlay := hts _ (u_in_lay hk)
  unfold u_lay at hlay
  rw [if_neg (by rw [hfin r' hr]; decide)] at hlay
  have hst := (u_facts hfc hkC (u_lays hts (fun w h => h) hk) hi).1
  have h6 := u_store hfc hkC hkind hlay hi (hty k hk) (hn g) (hfit g)
  refine W.putK hC.1 hC.2.1 (f := f) ⟨hC.2.2.2.2.1, hKN.use hln rfl, ⟨_, _, _, hi⟩, hst⟩ (by rw [q2]; exact h6) q1 q3 (by rw [hsl]; exact k2_hasslot (q4 k hk)) rfl rfl hdg fun H' e1 e2 e3 => ?_
  refine k' p e s m args below meth c H' _ ls hC (hH.set (by omega) e2 e3 h1 h2 h3 ?_) hl (fun q hq' => ?_)
  · unfold ma_CR
    rw [if_pos ht]
    rw [hsl] at e1
    refine ⟨r', hr, t_OB.to (V := updV (ma_sl g sh I L R a) k (ma_sv g v)) ⟨_, e1, q2, q3, t_set q4 hap hk (ma_sv g v)⟩ (fun j _ => (hv g j).symm)⟩
  · rcases List.mem_append.mp hq' with h | h
    · exact hq q h
    · rw [List.mem_singleton.mp h]
      exact ma_ad_ge hA.1
theorem ev_putI {t k a idx N : Nat} {v : Int32} {I' : ma_I} (hf : ma_FO y.cls idx t k) (hdg : decode cc pc = .ok (.putfield idx, 3)) (hp : pc + 3 = pc') (hs0 : sh a = (t, N)) (hk : ma_kd t k = 0) (hfin : ∀ r : vw_C, vwCl[t]? = some r → (r.2.1 k).2.2.2 = false) (hn : narrow (ma_ty t k) (.int v) = .int v ∧ fits (ma_ty t k) (.int v) = true) (hI : ma_up I a (ma_up (I a) k v) = I') (k' : EV g y cc nL ret rm Z pc' lv st sh I' L R n ce sl) : EV g y cc nL ret rm Z pc lv (.int v :: .ref a :: st) sh I L R n ce sl := by
  subst hp
  have hs : (sh a).1 = t := by rw [hs0]
  subst hI
  refine ma_putW (v := .int v) (L' := L) (R' := R) hf hs hfin (fun _ => hn.1) (fun _ => hn.2) (ma_up1 _) (fun _ _ => rfl) (fun _ _ => rfl) (fun g j => ?_) hdg k'
  by_cases hj : j = k
  · subst hj
    rw [ma_sl_0 (by rw [hs]; exact hk), ma_up_s, ma_up_s]
    simp [updV, ma_sv]
  · simp only [updV, if_neg hj]
    unfold ma_sl
    rw [ma_up_s, ma_up_n _ _ hj]
theorem ev_putL {t k a idx N : Nat} {v : Int64} {L' : ma_L} (hf : ma_FO y.cls idx t k) (hdg : decode cc pc = .ok (.putfield idx, 3)) (hp : pc + 3 = pc') (hs0 : sh a = (t, N)) (hk : ma_ty t k = .long) (hfin : ∀ r : vw_C, vwCl[t]? = some r → (r.2.1 k).2.2.2 = false) (hL : ma_up L a (ma_up (L a) k v) = L') (k' : EV g y cc nL ret rm Z pc' lv st sh I L' R n ce sl) : EV g y cc nL ret rm Z pc lv (.long v :: .ref a :: st) sh I L R n ce sl := by
  subst hp
  have hs : (sh a).1 = t := by rw [hs0]
  subst hL
  have hk1 : ma_kd (sh a).1 k = 1 := by rw [hs]; unfold ma_kd; rw [hk]; rfl
  refine ma_putW (v := .long v) (I' := I) (R' := R) hf hs hfin (fun _ => by rw [hk]; rfl) (fun _ => by rw [hk]; rfl) (fun _ _ => rfl) (ma_up1 _) (fun _ _ => rfl) (fun g j => ?_) hdg k'
  by_cases hj : j = k
  · subst hj
    rw [ma_sl_1 hk1, ma_up_s, ma_up_s]
    simp [updV, ma_sv]
  · simp only [updV, if_neg hj]
    unfold ma_sl
    rw [ma_up_s, ma_up_n _ _ hj]
theorem ma_arr {H : Heap} {a t len : Nat} (hH : ma_HR g sh I L R n H) (hs : sh a = (t, len)) (ht : 9 ≤ t ∧ t < 14) : H[ma_ad g a]? = some (arrV (g.2.2.1 t) len (ma_sl g sh I L R a)) := by
  have h := (hH.2.2 a (by rw [hs]; exact ht.2)).2.2
  unfold ma_CR at h
  rw [if_neg (by rw [hs]; show ¬ t < 9; omega), hs] at h
  exact h
theorem ma_in {i : Int32} {j len : Nat} (hi : i = nI j) (hj : j < len) (hl : len < 2147483648) : ¬ (i < 0 ∨ len ≤ i.toNatClampNeg) ∧ i.toNatClampNeg = j := by
  subst hi
  exact ⟨vp_in_nI hj hl, nI_clamp (by omega)⟩
theorem ev_iald {a j len : Nat} {i v : Int32} (hdg : decode cc pc = .ok (.iaload, 1)) (hp : pc + 1 = pc') (hs : sh a = (9, len)) (hi : i = nI j) (hj : j < len) (hl : len < 2147483648) (hv : I a j = v) (k' : EV g y cc nL ret rm Z pc' lv (.int v :: st) sh I L R n ce sl) : EV g y cc nL ret rm Z pc lv (.int i :: .ref a :: st) sh I L R n ce sl := by
  subst hp
  intro p e s m args below meth c H locs ls hC hH hl' hq
  obtain ⟨h1, h2⟩ := ma_in hi hj hl
  refine W.iald (v := .int v) hC.1 hC.2.1 (ma_arr hH hs (by omega)) ((hC.2.2.2.2.2.1.2.2.1 9 (by omega) (by omega)).1 _ _) (fun q => by cases q) (by rw [arrV_size]; exact h1) ?_ rfl rfl hdg (k' p e s m args below meth c H locs ls hC hH hl' hq)
  rw [h2, arrV_read _ _ hj, ma_sl_0 (by rw [hs]; rfl), hv]
theorem ev_zald {a j len : Nat} {i v : Int32} (hdg : decode cc pc = .ok (.baload, 1)) (hp : pc + 1 = pc') (hs : sh a = (11, len)) (hi : i = nI j) (hj : j < len) (hl : len < 2147483648) (hv : I a j = v) (k' : EV g y cc nL ret rm Z pc' lv (.int v :: st) sh I L R n ce sl) : EV g y cc nL ret rm Z pc lv (.int i :: .ref a :: st) sh I L R n ce sl := by
  subst hp
  intro p e s m args below meth c H locs ls hC hH hl' hq
  obtain ⟨h1, h2⟩ := ma_in hi hj hl
  refine W.zald (v := .int v) hC.1 hC.2.1 (ma_arr hH hs (by omega)) ((hC.2.2.2.2.2.1.2.2.1 11 (by omega) (by omega)).1 _ _) (fun q => by cases q) (by rw [arrV_size]; exact h1) ?_ rfl rfl hdg (k' p e s m args below meth c H locs ls hC hH hl' hq)
  rw [h2, arrV_read _ _ hj, ma_sl_0 (by rw [hs]; rfl), hv]
theorem ev_lald {a j len : Nat} {i : Int32} {v : Int64} (hdg : decode cc pc = .ok (.laload, 1)) (hp : pc + 1 = pc') (hs : sh a = (10, len)) (hi : i = nI j) (hj : j < len) (hl : len < 2147483648) (hv : L a j = v) (k' : EV g y cc nL ret rm Z pc' lv (.long v :: st) sh I L R n ce sl) : EV g y cc nL ret rm Z pc lv (.int i :: .ref a :: st) sh I L R n ce sl := by
  subst hp
  intro p e s m args below meth c H locs ls hC hH hl' hq
  obtain ⟨h1, h2⟩ := ma_in hi hj hl
  refine W.lald (v := .long v) hC.1 hC.2.1 (ma_arr hH hs (by omega)) ((hC.2.2.2.2.2.1.2.2.1 10 (by omega) (by omega)).1 _ _) (fun q => by cases q) (by rw [arrV_size]; exact h1) ?_ rfl rfl hdg (k' p e s m args below meth c H locs ls hC hH hl' hq)
  rw [h2, arrV_read _ _ hj, ma_sl_1 (by rw [hs]; rfl), hv]
theorem ev_aald {a j len b t : Nat} {i : Int32} (hdg : decode cc pc = .ok (.aaload, 1)) (hp : pc + 1 = pc') (hs : sh a = (t, len)) (ht : t = 12 ∨ t = 13) (hi : i = nI j) (hj : j < len) (hl : len < 2147483648) (hv : R a j = some b) (k' : EV g y cc nL ret rm Z pc' lv (.ref b :: st) sh I L R n ce sl) : EV g y cc nL ret rm Z pc lv (.int i :: .ref a :: st) sh I L R n ce sl := by
  subst hp
  intro p e s m args below meth c H locs ls hC hH hl' hq
  obtain ⟨h1, h2⟩ := ma_in hi hj hl
  have hre : (ma_ty t 0).isReference = true := by rcases ht with rfl | rfl <;> rfl
  have hkd : ∀ k, ma_kd t k = 2 := by intro k; rcases ht with rfl | rfl <;> rfl
  refine W.aald (v := .ref (ma_ad g b)) (ty := ma_ty t 0) hC.1 hC.2.1 (ma_arr hH hs (by omega)) ((hC.2.2.2.2.2.1.2.2.1 t (by omega) (by omega)).1 _ _) hre (fun q => by cases q) (by rw [arrV_size]; exact h1) ?_ rfl rfl hdg (k' p e s m args below meth c H locs ls hC hH hl' hq)
  rw [h2, arrV_read _ _ hj, ma_sl_2 (by rw [hs]; exact hkd j), hv]
  rfl
theorem ev_alen {a t len : Nat} {v : Int32} (hdg : decode cc pc = .ok (.arraylength, 1)) (hp : pc + 1 = pc') (hs : sh a = (t, len)) (ht : 9 ≤ t ∧ t < 14) (hv : nI len = v) (k' : EV g y cc nL ret rm Z pc' lv (.int v :: st) sh I L R n ce sl) : EV g y cc nL ret rm Z pc lv (.ref a :: st) sh I L R n ce sl := by
  subst hp
  intro p e s m args below meth c H locs ls hC hH hl' hq
  exact W.alen (n := v) (ty := ma_ty t 0) hC.1 hC.2.1 (ma_arr hH hs ht) ((hC.2.2.2.2.2.1.2.2.1 t ht.1 ht.2).1 _ _) (by rw [arrV_size]; exact hv) rfl rfl hdg (k' p e s m args below meth c H locs ls hC hH hl' hq)
theorem ma_CR_arr {H : Heap} {a t len : Nat} {I' : ma_I} {L' : ma_L} {R' : ma_R} (hs : sh a = (t, len)) (ht : 9 ≤ t) {f : Nat → Value} (hf : ma_sl g sh I' L' R' a = f) (h : H[ma_ad g a]? = some (arrV (g.2.2.1 t) len f)) : ma_CR g sh I' L' R' H a := by
  unfold ma_CR
  rw [if_neg (by rw [hs]; show ¬ t < 9; omega), hs, hf]
  exact h
theorem ma_locs {locs : List Loc} {a k : Nat} (hq : ∀ q ∈ locs, g.2.2.2.1 ≤ q.base) (ha : 3 ≤ a) : ∀ q ∈ locs ++ [⟨ma_ad g a, k⟩], g.2.2.2.1 ≤ q.base := by
  intro q h
  rcases List.mem_append.mp h with h | h
  · exact hq q h
  · rw [List.mem_singleton.mp h]
    exact ma_ad_ge ha
theorem ev_iast {a j len : Nat} {i v : Int32} {I' : ma_I} (hdg : decode cc pc = .ok (.iastore, 1)) (hp : pc + 1 = pc') (hs : sh a = (9, len)) (hi : i = nI j) (hj : j < len) (hl : len < 2147483648) (hI : ma_up I a (ma_up (I a) j v) = I') (k' : EV g y cc nL ret rm Z pc' lv st sh I' L R n ce sl) : EV g y cc nL ret rm Z pc lv (.int v :: .int i :: .ref a :: st) sh I L R n ce sl := by
  subst hp
  subst hI
  intro p e s m args below meth c H locs ls hC hH hl' hq
  obtain ⟨h1, h2⟩ := ma_in hi hj hl
  have hA := hH.2.2 a (by rw [hs]; show 9 < 14; omega)
  refine W.iast hC.1 hC.2.1 (ma_arr hH hs (by omega)) ((hC.2.2.2.2.2.1.2.2.1 9 (by omega) (by omega)).1 _ _) (fun q => by cases q) (by rw [arrV_size]; exact h1) rfl rfl hdg fun H' e1 e2 e3 => ?_
  refine k' p e s m args below meth c H' _ ls hC (hH.set (by rw [hs]; show 9 < 14; omega) e2 e3 (ma_up1 _) (fun _ _ => rfl) (fun _ _ => rfl) (ma_CR_arr hs (by omega) ?_ (by rw [h2, arrV_store] at e1; exact e1))) hl' (ma_locs hq hA.1)
  funext b
  by_cases hb : b = j
  · subst hb
    rw [ma_sl_0 (by rw [hs]; rfl), ma_up_s, ma_up_s]
    simp [updV]
  · simp only [updV, if_neg hb]
    unfold ma_sl
    rw [ma_up_s, ma_up_n _ _ hb]
theorem ev_zast {a j len : Nat} {i v : Int32} {I' : ma_I} (hdg : decode cc pc = .ok (.bastore, 1)) (hp : pc + 1 = pc') (hs : sh a = (11, len)) (hi : i = nI j) (hj : j < len) (hl : len < 2147483648) (hn : narrow .boolean (.int v) = .int v) (hI : ma_up I a (ma_up (I a) j v) = I') (k' : EV g y cc nL ret rm Z pc' lv st sh I' L R n ce sl) : EV g y cc nL ret rm Z pc lv (.int v :: .int i :: .ref a :: st) sh I L R n ce sl := by
  subst hp
  subst hI
  intro p e s m args below meth c H locs ls hC hH hl' hq
  obtain ⟨h1, h2⟩ := ma_in hi hj hl
  have hA := hH.2.2 a (by rw [hs]; show 11 < 14; omega)
  refine W.zast hC.1 hC.2.1 (ma_arr hH hs (by omega)) ((hC.2.2.2.2.2.1.2.2.1 11 (by omega) (by omega)).1 _ _) (fun q => by cases q) (by rw [arrV_size]; exact h1) rfl rfl hdg fun H' e1 e2 e3 => ?_
  refine k' p e s m args below meth c H' _ ls hC (hH.set (by rw [hs]; show 11 < 14; omega) e2 e3 (ma_up1 _) (fun _ _ => rfl) (fun _ _ => rfl) (ma_CR_arr hs (by omega) ?_ (by rw [h2, hn, arrV_store] at e1; exact e1))) hl' (ma_locs hq hA.1)
  funext b
  by_cases hb : b = j
  · subst hb
    rw [ma_sl_0 (by rw [hs]; rfl), ma_up_s, ma_up_s]
    simp [updV]
  · simp only [updV, if_neg hb]
    unfold ma_sl
    rw [ma_up_s, ma_up_n _ _ hb]
theorem ev_last {a j len : Nat} {i : Int32} {v : Int64} {L' : ma_L} (hdg : decode cc pc = .ok (.lastore, 1)) (hp : pc + 1 = pc') (hs : sh a = (10, len)) (hi : i = nI j) (hj : j < len) (hl : len < 2147483648) (hL : ma_up L a (ma_up (L a) j v) = L') (k' : EV g y cc nL ret rm Z pc' lv st sh I L' R n ce sl) : EV g y cc nL ret rm Z pc lv (.long v :: .int i :: .ref a :: st) sh I L R n ce sl := by
  subst hp
  subst hL
  intro p e s m args below meth c H locs ls hC hH hl' hq
  obtain ⟨h1, h2⟩ := ma_in hi hj hl
  have hA := hH.2.2 a (by rw [hs]; show 10 < 14; omega)
  refine W.last hC.1 hC.2.1 (ma_arr hH hs (by omega)) ((hC.2.2.2.2.2.1.2.2.1 10 (by omega) (by omega)).1 _ _) (fun q => by cases q) (by rw [arrV_size]; exact h1) rfl rfl hdg fun H' e1 e2 e3 => ?_
  refine k' p e s m args below meth c H' _ ls hC (hH.set (by rw [hs]; show 10 < 14; omega) e2 e3 (fun _ _ => rfl) (ma_up1 _) (fun _ _ => rfl) (ma_CR_arr hs (by omega) ?_ (by rw [h2, arrV_store] at e1; exact e1))) hl' (ma_locs hq hA.1)
  funext b
  by_cases hb : b = j
  · subst hb
    rw [ma_sl_1 (by rw [hs]; rfl), ma_up_s, ma_up_s]
    simp [updV]
  · simp only [updV, if_neg hb]
    unfold ma_sl
    rw [ma_up_s, ma_up_n _ _ hb]
end Cells
