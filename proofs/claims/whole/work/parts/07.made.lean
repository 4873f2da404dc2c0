section Made
variable {g : ma_G} {y : MethodName} {cc : ByteArray} {nL : Nat} {ret : Option FieldType} {rm : Room} {Z : ma_Z} {pc pc' : Nat} {lv : List (Option Value)} {st : List Value} {sh : ma_S} {I : ma_I} {L : ma_L} {R : ma_R} {n ce sl : Nat}
theorem ma_new_ad {g : ma_G} {n : Nat} : ma_ad g (n + 3) = g.2.2.2.1 + n := by
  unfold ma_ad
  rw [if_neg (by omega)]
  omega
/-- a cell more -/
theorem ma_HR.push {I' : ma_I} {L' : ma_L} {R' : ma_R} {H H' : Heap} {t N : Nat} (h : ma_HR g sh I L R n H) (hz : H'.size = H.size + 1) (ho : ∀ q, q < H.size → H'[q]? = H[q]?) (h1 : ∀ b, b ≠ n + 3 → I' b = I b) (h2 : ∀ b, b ≠ n + 3 → L' b = L b) (h3 : ∀ b, b ≠ n + 3 → R' b = R b) (hc : ma_CR g (ma_up sh (n + 3) (t, N)) I' L' R' H' (n + 3)) : ma_HR g (ma_up sh (n + 3) (t, N)) I' L' R' (n + 1) H' := by
  obtain ⟨e1, e2, e3⟩ := h
  refine ⟨by omega, fun q hq => ?_, fun b hb => ?_⟩
  · rw [ho q (by omega)]
    exact e2 q hq
  · by_cases e : b = n + 3
    · subst e
      exact ⟨by omega, by omega, hc⟩
    · have hsb : ma_up sh (n + 3) (t, N) b = sh b := ma_up_n _ _ e
      rw [hsb] at hb
      have hb3 := e3 b hb
      refine ⟨hb3.1, by omega, ?_⟩
      have hk := hb3.2.2.kept (H' := H') (h1 b e) (h2 b e) (h3 b e) (ho _ (by
        unfold ma_ad
        rw [if_neg (by omega)]
        omega))
      unfold ma_CR ma_sl at hk ⊢
      rw [hsb]
      exact hk
theorem ev_new {idx t : Nat} {C : String} {T : u_T} {N : Nat} {I' : ma_I} {L' : ma_L} {R' : ma_R} (ht : t < 9) (hr : vwCl[t]? = some (C, T, N)) (hcl : Cond.classLink y.cls idx C ∈ lw_tbl) (hins : Cond.instantiable C N ∈ lw_tbl) (hini : Cond.initialized C ∈ lw_tbl) (hws : ∀ w ∈ u_ws C T N, w ∈ lw_tbl ∧ ma_gw w = true) (hty : ∀ k, k < N → parseFieldDescriptor (T k).2.2.1 = some (ma_ty t k)) (hdf : ∀ k, k < N → defaultValue (ma_ty t k) = (match ma_kd t k with | 0 => Value.int 0 | 1 => Value.long 0 | _ => Value.null))
    (hdg : decode cc pc = .ok (.new idx, 3)) (hp : pc + 3 = pc') (hce : ce + 1 ≤ rm.cells ∧ sl + N ≤ rm.slots) (hI : ma_up I (n + 3) (fun _ => 0) = I') (hL : ma_up L (n + 3) (fun _ => 0) = L') (hR : ma_up R (n + 3) (fun _ => none) = R') (k : EV g y cc nL ret rm Z pc' lv (.ref (n + 3) :: st) (ma_up sh (n + 3) (t, N)) I' L' R' (n + 1) (ce + 1) (sl + N)) : EV g y cc nL ret rm Z pc lv st sh I L R n ce sl := by
  subst hp; subst hI; subst hL; subst hR
  intro p e s m args below meth c H locs ls hC hH hl hq
  have hKN := hC.2.2.2.2.2.1
  have hKn := hKN.2.1 t _ hr
  refine W.newcK hC.1 hC.2.1 hC.2.2.2.2.1 (hKN.use hcl rfl) (hKN.use hins rfl) (hKN.use hini rfl) rfl hdg hce.1 hce.2 hKn.2.1 rfl fun H' kC hkC e1 e2 e3 => ?_
  have had : ma_ad g (n + 3) = H.size := by rw [ma_new_ad, hH.1]
  have hk := k p e s m args below meth c H' locs ls hC (hH.push (t := t) (N := N) (by omega) (fun q hq => e3 q hq) (ma_up1 _) (ma_up1 _) (ma_up1 _) (by
    unfold ma_CR
    rw [ma_up_s, if_pos ht]
    refine ⟨_, hr, ?_⟩
    have hb := u_born (ma_ty t) (ws := u_ws C T N) (fun w hw => hKN.use (A := args) (hws w hw).1 (hws w hw).2) (fun w h => h) hKn hkC e1 hty
    rw [had]
    refine hb.to (fun j hj => ?_)
    rw [hdf j hj]
    unfold ma_sl
    rw [ma_up_s, ma_up_s, ma_up_s, ma_up_s]
    show _ = (match ma_kd t j with | 0 => _ | 1 => _ | _ => _)
    split <;> rfl)) hl hq
  have e : (F0 m (pc + 3) ls ((Value.ref (n + 3) :: st).map (ma_sv g))) = F0 m (pc + 3) ls (.ref H.size :: st.map (ma_sv g)) := by rw [List.map_cons]; simp only [ma_sv]; rw [had]
  rw [e] at hk
  exact hk
theorem ma_fresh_arr {H' : Heap} {t N : Nat} (ht : 9 ≤ t) {v : Value} (hd : ∀ k, (match ma_kd t k with | 0 => Value.int 0 | 1 => Value.long 0 | _ => Value.null) = v) (e1 : H'[ma_ad g (n + 3)]? = some (arrV (g.2.2.1 t) N (fun _ => v))) : ma_CR g (ma_up sh (n + 3) (t, N)) (ma_up I (n + 3) (fun _ => 0)) (ma_up L (n + 3) (fun _ => 0)) (ma_up R (n + 3) (fun _ => none)) H' (n + 3) := by
  unfold ma_CR
  rw [ma_up_s, if_neg (by show ¬ t < 9; omega)]
  rw [e1]
  congr 2
  funext j
  rw [← hd j]
  unfold ma_sl
  rw [ma_up_s, ma_up_s, ma_up_s, ma_up_s]
  show (match ma_kd t j with | 0 => _ | 1 => _ | _ => _) = (match ma_kd t j with | 0 => _ | 1 => _ | _ => _)
  split <;> rfl
theorem ma_newarr {at_ : ArrayType} {t N : Nat} {i : Int32} {v : Value} (ht : 9 ≤ t ∧ t < 12) (hat : newarray.typeOf at_ = ma_ty t 0) (hd : ∀ k, (match ma_kd t k with | 0 => Value.int 0 | 1 => Value.long 0 | _ => Value.null) = v) (hdv : defaultValue (ma_ty t 0) = v) (hw : ∀ (s : State) (A : Array Value), ma_KN g s → (Cond.arrayClass (ma_ty t 0)).before A s = true) (hra : ∀ (s : State) (cA : ClassId), va_RA s cA (ma_ty t 0) → s.vm.findClass ("[" ++ (ma_ty t 0).toString) = some cA)
    (hdg : decode cc pc = .ok (.newarray at_, 2)) (hi : i = nI N) (hN : N < 2147483648) (hby : N * componentBytes (ma_ty t 0) ≤ 536870912) (hce : ce + 1 ≤ rm.cells ∧ sl + N ≤ rm.slots) (k : EV g y cc nL ret rm Z (pc + 2) lv (.ref (n + 3) :: st) (ma_up sh (n + 3) (t, N)) (ma_up I (n + 3) (fun _ => 0)) (ma_up L (n + 3) (fun _ => 0)) (ma_up R (n + 3) (fun _ => none)) (n + 1) (ce + 1) (sl + N)) : EV g y cc nL ret rm Z pc lv (.int i :: st) sh I L R n ce sl := by
  subst hi
  intro p e s m args below meth c H locs ls hC hH hl hq
  have hKN := hC.2.2.2.2.2.1
  have had : ma_ad g (n + 3) = H.size := by rw [ma_new_ad, hH.1]
  refine va_newaK hC.1 hC.2.1 (by rw [hat]; exact hw s args hKN) rfl hdg (N := N) rfl (nI_pos (by omega)) (nI_clamp (by omega)) (by rw [hat]; exact hby) hce.1 hce.2 rfl fun H' cA e1 e2 e3 hA hf => ?_
  rw [hat] at e1 hf
  have hcA : cA = g.2.2.1 t := Option.some.inj (hf.symm.trans (hra s _ (hKN.2.2.1 t (by omega) (by omega)).2))
  subst hcA
  rw [hdv, ← had] at e1
  have hk := k p e s m args below meth c H' locs ls hC (hH.push (t := t) (N := N) (by omega) (fun q hq => e3 q hq) (ma_up1 _) (ma_up1 _) (ma_up1 _) (ma_fresh_arr (by omega) hd e1)) hl hq
  have e : (F0 m (pc + 2) ls ((Value.ref (n + 3) :: st).map (ma_sv g))) = F0 m (pc + 2) ls (.ref H.size :: st.map (ma_sv g)) := by rw [List.map_cons]; simp only [ma_sv]; rw [had]
  rw [e] at hk
  exact hk
theorem ev_newI {N : Nat} {i : Int32} (hdg : decode cc pc = .ok (.newarray .int, 2)) (hp : pc + 2 = pc') (hi : i = nI N) (hN : N < 134217728) (hce : ce + 1 ≤ rm.cells ∧ sl + N ≤ rm.slots) (k : EV g y cc nL ret rm Z pc' lv (.ref (n + 3) :: st) (ma_up sh (n + 3) (9, N)) (ma_up I (n + 3) (fun _ => 0)) (ma_up L (n + 3) (fun _ => 0)) (ma_up R (n + 3) (fun _ => none)) (n + 1) (ce + 1) (sl + N)) : EV g y cc nL ret rm Z pc lv (.int i :: st) sh I L R n ce sl := by
  subst hp
  exact ma_newarr (t := 9) (v := .int 0) (by omega) rfl (fun _ => rfl) rfl (fun s A h => h.2.2.2.2.2.2.2.2.2.2.1.1 A) (fun s cA h => h) hdg hi (by omega) (by show N * 4 ≤ _; omega) hce k
theorem ev_newL {N : Nat} {i : Int32} (hdg : decode cc pc = .ok (.newarray .long, 2)) (hp : pc + 2 = pc') (hi : i = nI N) (hN : N < 67108864) (hce : ce + 1 ≤ rm.cells ∧ sl + N ≤ rm.slots) (k : EV g y cc nL ret rm Z pc' lv (.ref (n + 3) :: st) (ma_up sh (n + 3) (10, N)) (ma_up I (n + 3) (fun _ => 0)) (ma_up L (n + 3) (fun _ => 0)) (ma_up R (n + 3) (fun _ => none)) (n + 1) (ce + 1) (sl + N)) : EV g y cc nL ret rm Z pc lv (.int i :: st) sh I L R n ce sl := by
  subst hp
  exact ma_newarr (t := 10) (v := .long 0) (by omega) rfl (fun _ => rfl) rfl (fun s A h => h.2.2.2.2.2.2.2.2.2.2.1.2.1 A) (fun s cA h => h) hdg hi (by omega) (by show N * 8 ≤ _; omega) hce k
theorem ev_newZ {N : Nat} {i : Int32} (hdg : decode cc pc = .ok (.newarray .boolean, 2)) (hp : pc + 2 = pc') (hi : i = nI N) (hN : N < 134217728) (hce : ce + 1 ≤ rm.cells ∧ sl + N ≤ rm.slots) (k : EV g y cc nL ret rm Z pc' lv (.ref (n + 3) :: st) (ma_up sh (n + 3) (11, N)) (ma_up I (n + 3) (fun _ => 0)) (ma_up L (n + 3) (fun _ => 0)) (ma_up R (n + 3) (fun _ => none)) (n + 1) (ce + 1) (sl + N)) : EV g y cc nL ret rm Z pc lv (.int i :: st) sh I L R n ce sl := by
  subst hp
  exact ma_newarr (t := 11) (v := .int 0) (by omega) rfl (fun _ => rfl) rfl (fun s A h => h.2.2.2.2.2.2.2.2.2.2.1.2.2 A) (fun s cA h => h) hdg hi (by omega) (by show N * 1 ≤ _; omega) hce k
theorem ev_newR {N t idx : Nat} {i : Int32} {C : String} (ht : t = 12 ∨ t = 13) (hty : ma_ty t 0 = .object C) (hcl : Cond.classLink y.cls idx C ∈ lw_tbl) (hao : ∀ s, ma_KN g s → va_AO C s) (hdg : decode cc pc = .ok (.anewarray idx, 3)) (hp : pc + 3 = pc') (hi : i = nI N) (hN : N < 134217728) (hce : ce + 1 ≤ rm.cells ∧ sl + N ≤ rm.slots) (k : EV g y cc nL ret rm Z pc' lv (.ref (n + 3) :: st) (ma_up sh (n + 3) (t, N)) (ma_up I (n + 3) (fun _ => 0)) (ma_up L (n + 3) (fun _ => 0)) (ma_up R (n + 3) (fun _ => none)) (n + 1) (ce + 1) (sl + N)) : EV g y cc nL ret rm Z pc lv (.int i :: st) sh I L R n ce sl := by
  subst hp; subst hi
  intro p e s m args below meth c H locs ls hC hH hl hq
  have hKN := hC.2.2.2.2.2.1
  have had : ma_ad g (n + 3) = H.size := by rw [ma_new_ad, hH.1]
  have hcl2 : (nI N).toNatClampNeg = N := nI_clamp (by omega)
  refine W.anew hC.1 hC.2.1 hC.2.2.2.2.1 (hKN.use hcl rfl) (va_AO.use (hao s hKN)) rfl hdg rfl (nI_pos (by omega)) (by rw [hcl2]; omega) hce.1 (by rw [hcl2]; exact hce.2) fun cA kA comp f1 f2 f3 f4 => ?_
  rw [hcl2]
  have hcA : cA = g.2.2.1 t := by
    have h1 := (hKN.2.2.1 t (by omega) (by omega)).2
    rw [hty] at h1
    obtain ⟨kA', comp', -, -, -, h4⟩ := h1
    exact Option.some.inj (f1.symm.trans h4)
  subst hcA
  have e1 : (H.push ({ cls := g.2.2.1 t, slots := Array.replicate N .null, vm := .none } : Cell))[ma_ad g (n + 3)]? = some (arrV (g.2.2.1 t) N (fun _ => .null)) := by rw [had, Array.getElem?_push_size, ← arrV_new]
  have hkd : ∀ k, (match ma_kd t k with | 0 => Value.int 0 | 1 => Value.long 0 | _ => Value.null) = Value.null := by intro k; rcases ht with rfl | rfl <;> rfl
  have hk := k p e s m args below meth c _ locs ls hC (hH.push (t := t) (N := N) (by rw [Array.size_push]) (fun q hq => by rw [Array.getElem?_push, if_neg (Nat.ne_of_lt hq)]) (ma_up1 _) (ma_up1 _) (ma_up1 _) (ma_fresh_arr (by omega) hkd e1)) hl hq
  have e : (F0 m (pc + 3) ls ((Value.ref (n + 3) :: st).map (ma_sv g))) = F0 m (pc + 3) ls (.ref H.size :: st.map (ma_sv g)) := by rw [List.map_cons]; simp only [ma_sv]; rw [had]
  rw [e] at hk
  exact hk
theorem ev_aast {a j len b t : Nat} {i : Int32} {R' : ma_R} (hdg : decode cc pc = .ok (.aastore, 1)) (hp : pc + 1 = pc') (hs : sh a = (t, len)) (ht : t = 12 ∨ t = 13) (hb : (sh b).1 < 9 ∧ ∃ r : vw_C, vwCl[(sh b).1]? = some r ∧ ma_ty t 0 = .object r.1) (hi : i = nI j) (hj : j < len) (hl : len < 2147483648) (hR : ma_up R a (ma_up (R a) j (some b)) = R') (k' : EV g y cc nL ret rm Z pc' lv st sh I L R' n ce sl) : EV g y cc nL ret rm Z pc lv (.ref b :: .int i :: .ref a :: st) sh I L R n ce sl := by
  subst hp; subst hR
  intro p e s m args below meth c H locs ls hC hH hl' hq
  have hKN := hC.2.2.2.2.2.1
  obtain ⟨h1, h2⟩ := ma_in hi hj hl
  have hA := hH.2.2 a (by rw [hs]; show t < 14; omega)
  obtain ⟨hb1, r, hr, hrt⟩ := hb
  have hcr := (hH.2.2 b (by omega)).2.2
  unfold ma_CR at hcr
  rw [if_pos hb1] at hcr
  obtain ⟨r', hr', cell, g1, g2, g3, -⟩ := hcr
  obtain rfl : r' = r := Option.some.inj (hr'.symm.trans hr)
  have hcls := (hKN.2.1 _ _ hr).2
  have hra := (hKN.2.2.1 t (by omega) (by omega)).2
  rw [hrt] at hra
  obtain ⟨kA, comp, k1, k2, k3, -⟩ := hra
  have hcomp : comp = g.2.1.1 (sh b).1 := Option.some.inj (k3.symm.trans hcls.1)
  subst hcomp
  obtain ⟨kC, hkC, -⟩ := hcls.2
  have hkd : ∀ k, ma_kd t k = 2 := by intro k; rcases ht with rfl | rfl <;> rfl
  refine W.aast hC.1 hC.2.1 (ma_arr hH hs (by omega)) (fun q h => by cases h) (fun h => by cases h) k1 k2 rfl hkC ⟨fun h => h1 (Or.inl h), by rw [arrV_size]; exact Nat.not_le.mp fun h => h1 (Or.inr h)⟩ g1 (fun q h => by rw [g3] at h; cases h) (by rw [g2]; exact hkC) (by rw [g2]; exact va_assign hcls) rfl rfl hdg fun H' e1 e2 e3 => ?_
  refine k' p e s m args below meth c H' _ ls hC (hH.set (by rw [hs]; show t < 14; omega) e2 e3 (fun _ _ => rfl) (fun _ _ => rfl) (ma_up1 _) (ma_CR_arr hs (by omega) ?_ (by rw [h2, arrV_store] at e1; exact e1))) hl' (ma_locs hq hA.1)
  funext q
  by_cases hq' : q = j
  · subst hq'
    rw [ma_sl_2 (by rw [hs]; exact hkd q), ma_up_s, ma_up_s]
    simp [updV, ma_rf]
  · simp only [updV, if_neg hq']
    unfold ma_sl
    rw [ma_up_s, ma_up_n _ _ hq']
/-- putfield of a final field, in its constructor: a reference -/
theorem ev_putF {t k a b idx : Nat} {R' : ma_R} (hf : ma_FO y.cls idx t k) (hdg : decode cc pc = .ok (.putfield idx, 3)) (hp : pc + 3 = pc') (hs : (sh a).1 = t) (hk : ma_kd t k = 2) (hnm : y.name = "<init>") (hfin : ∀ r : vw_C, vwCl[t]? = some r → (r.2.1 k).2.2.2 = true ∧ (r.2.1 k).1 = y.cls) (hn : ∀ q : Nat, narrow (ma_ty t k) (.ref q) = .ref q ∧ fits (ma_ty t k) (.ref q) = true) (hR : ma_up R a (ma_up (R a) k (some b)) = R') (k' : EV g y cc nL ret rm Z pc' lv st sh I L R' n ce sl) : EV g y cc nL ret rm Z pc lv (.ref b :: .ref a :: st) sh I L R n ce sl := by
  subst hp; subst hR
  intro p e s m args below meth c H locs ls hC hH hl hq
  obtain ⟨r, hr, hk2, hws, hln, hty, hnm2, ht⟩ := hf
  subst hs
  have hA := hH.2.2 a (by omega)
  have hcr := hA.2.2
  unfold ma_CR at hcr
  rw [if_pos ht] at hcr
  obtain ⟨r', hr', cell, q1, q2, q3, q4⟩ := hcr
  obtain rfl : r' = r := Option.some.inj (hr'.symm.trans hr)
  have hKN := hC.2.2.2.2.2.1
  have hK : va_K g.2.1 vwCl [] s := ⟨hKN.2.1, fun k q h => by simp at h⟩
  have hts : ∀ w ∈ u_ws r'.1 r'.2.1 r'.2.2, w.before args s = true := fun w hw => hKN.use (hws w hw).1 (hws w hw).2
  have hap := va_apart (own := y.cls) hts (fun w h => h) (ma_ty (sh a).1) hty hnm2 hK hr
  obtain ⟨hS, hfc, kC, hkC, hkind⟩ := hKN.2.1 _ _ hr
  obtain ⟨cf, kf, fi, f, hi, hsl⟩ := hS k hk2
  have hlay := hts _ (u_in_lay hk2)
  unfold u_lay at hlay
  rw [if_pos (hfin r' hr).1] at hlay
  have hst := (u_facts hfc hkC (u_lays hts (fun w h => h) hk2) hi).1
  have hcf : m.cls = cf := by
    obtain ⟨_, _, c', _, _, _, -, -, hf', -, -, -, hown2, -⟩ := Cond.laysFinal_spec hlay
    have e1 : c' = cf := by have := hi.symm.trans hf'; simp at this; exact this.1.symm
    rw [(hfin r' hr).2] at hown2
    rw [← e1]; exact Option.some.inj (hC.2.2.2.2.1.symm.trans hown2)
  have h6 := u_fits hfc hkC hkind (Or.inr hlay) hi (hty k hk2) (hn (ma_ad g b)).1 (hn (ma_ad g b)).2
  refine W.putFinK hC.1 hC.2.1 hC.2.2.2.2.1 (hKN.use hln rfl) hi hst hcf (hC.2.2.2.2.2.2.2.trans hnm) (by rw [q2]; exact h6) q1 q3 (by rw [hsl]; exact k2_hasslot (q4 k hk2)) rfl rfl hdg fun H' e1 e2 e3 => ?_
  refine k' p e s m args below meth c H' _ ls hC (hH.set (by omega) e2 e3 (fun _ _ => rfl) (fun _ _ => rfl) (ma_up1 _) ?_) hl (ma_locs hq hA.1)
  unfold ma_CR
  rw [if_pos ht]
  rw [hsl] at e1
  refine ⟨r', hr, t_OB.to (V := updV (ma_sl g sh I L R a) k (.ref (ma_ad g b))) ⟨_, e1, q2, q3, t_set q4 hap hk2 (.ref (ma_ad g b))⟩ (fun j _ => ?_)⟩
  by_cases hj : j = k
  · subst hj
    rw [ma_sl_2 hk, ma_up_s, ma_up_s]
    simp [updV, ma_rf]
  · simp only [updV, if_neg hj]
    unfold ma_sl
    rw [ma_up_s, ma_up_n _ _ hj]
theorem ma_old {H : Heap} (hH : ma_HR g sh I L R n H) {s : State} (hKN : ma_KN g s) {q : Nat} (h : ¬ ma_A g q) : H[q]? = g.2.2.2.2.1[q]? := hH.2.1 q (Nat.not_le.mp h)
theorem ev_getRow {idx : Nat} (hln : Cond.fieldLinkNest y.cls idx "BentGrounds" "ROW_OF" "[I" "BentGrounds" ∈ lw_tbl) (hdg : decode cc pc = .ok (.getstatic idx, 3)) (hp : pc + 3 = pc') (k : EV g y cc nL ret rm Z pc' lv (.ref 1 :: st) sh I L R n ce sl) : EV g y cc nL ret rm Z pc lv st sh I L R n ce sl := by
  subst hp
  intro p e s m args below meth c H locs ls hC hH hl hq
  have hKN := hC.2.2.2.2.2.1
  obtain ⟨cf, kf, fi, f, a, cell, h1, h2, h3, h4, h5, h6, h7, h8⟩ := hKN.2.2.2.2.2.1
  exact va_WgetsN hC.1 hC.2.1 hC.2.2.2.2.1 (hKN.use hln rfl) h1 h2 h3 h4 (by rw [ma_old hH hKN h8]; exact h5) (fun e => by rw [e] at h6; cases h6) h7 rfl hdg (k p e s m args below meth c H locs ls hC hH hl hq)
theorem ev_getCol {idx : Nat} (hln : Cond.fieldLinkNest y.cls idx "BentGrounds" "COLUMN_OF" "[I" "BentGrounds" ∈ lw_tbl) (hdg : decode cc pc = .ok (.getstatic idx, 3)) (hp : pc + 3 = pc') (k : EV g y cc nL ret rm Z pc' lv (.ref 2 :: st) sh I L R n ce sl) : EV g y cc nL ret rm Z pc lv st sh I L R n ce sl := by
  subst hp
  intro p e s m args below meth c H locs ls hC hH hl hq
  have hKN := hC.2.2.2.2.2.1
  obtain ⟨cf, kf, fi, f, a, cell, h1, h2, h3, h4, h5, h6, h7, h8⟩ := hKN.2.2.2.2.2.2.1
  exact va_WgetsN hC.1 hC.2.1 hC.2.2.2.2.1 (hKN.use hln rfl) h1 h2 h3 h4 (by rw [ma_old hH hKN h8]; exact h5) (fun e => by rw [e] at h6; cases h6) h7 rfl hdg (k p e s m args below meth c H locs ls hC hH hl hq)
theorem ma_rowW {a j : Nat} {i v : Int32} {f : Nat → Int32} (ha : ∀ s, ma_KN g s → va_T .int (ma_ad g a) 10 (fun k => .int (f k)) (ma_A g) s g.2.2.2.2.1) (hdg : decode cc pc = .ok (.iaload, 1)) (hi : i = nI j) (hj : j < 10) (hv : f j = v) (k : EV g y cc nL ret rm Z (pc + 1) lv (.int v :: st) sh I L R n ce sl) : EV g y cc nL ret rm Z pc lv (.int i :: .ref a :: st) sh I L R n ce sl := by
  intro p e s m args below meth c H locs ls hC hH hl hq
  have hKN := hC.2.2.2.2.2.1
  obtain ⟨cell, h1, h2, h3, h4, h5, h6, h7⟩ := ha s hKN
  obtain ⟨g1, g2⟩ := ma_in hi hj (by omega)
  exact W.iald (v := .int v) hC.1 hC.2.1 (by rw [ma_old hH hKN h7]; exact h1) h2 h3 (by rw [g2]; intro h; rcases h with h | h; exact g1 (Or.inl h); omega) (by rw [g2, h6 j hj, ← hv]) rfl rfl hdg (k p e s m args below meth c H locs ls hC hH hl hq)
theorem ev_row1 {j : Nat} {i v : Int32} (hdg : decode cc pc = .ok (.iaload, 1)) (hp : pc + 1 = pc') (hi : i = nI j) (hj : j < 10) (hv : ma_rows j = v) (k : EV g y cc nL ret rm Z pc' lv (.int v :: st) sh I L R n ce sl) : EV g y cc nL ret rm Z pc lv (.int i :: .ref 1 :: st) sh I L R n ce sl := by
  subst hp
  exact ma_rowW (f := ma_rows) (fun s h => h.2.2.2.1) hdg hi hj hv k
theorem ev_row2 {j : Nat} {i v : Int32} (hdg : decode cc pc = .ok (.iaload, 1)) (hp : pc + 1 = pc') (hi : i = nI j) (hj : j < 10) (hv : ma_cols j = v) (k : EV g y cc nL ret rm Z pc' lv (.int v :: st) sh I L R n ce sl) : EV g y cc nL ret rm Z pc lv (.int i :: .ref 2 :: st) sh I L R n ce sl := by
  subst hp
  exact ma_rowW (f := ma_cols) (fun s h => h.2.2.2.2.1) hdg hi hj hv k
/-- the script's own ints -/
theorem ev_sld {j : Nat} {i v : Int32} (hdg : decode cc pc = .ok (.iaload, 1)) (hp : pc + 1 = pc') (hi : i = nI j) (hj : j < g.2.2.2.2.2.2.1) (hL : g.2.2.2.2.2.2.1 < 2147483648) (hv : g.2.2.2.2.2.2.2 j = v) (k : EV g y cc nL ret rm Z pc' lv (.int v :: st) sh I L R n ce sl) : EV g y cc nL ret rm Z pc lv (.int i :: .ref 0 :: st) sh I L R n ce sl := by
  subst hp
  intro p e s m args below meth c H locs ls hC hH hl hq
  have hKN := hC.2.2.2.2.2.1
  obtain ⟨scr, h1, h2, h3, h4, h5⟩ := hKN.2.2.2.2.2.2.2.1
  have hb := hKN.2.2.2.2.2.2.2.2.1
  obtain ⟨g1, g2⟩ := ma_in hi hj hL
  exact W.iald (v := .int v) hC.1 hC.2.1 (by rw [hH.2.1 _ hb]; exact h1) h2 h3 (by rw [h4]; exact g1) (by rw [g2, h5 j hj, hv]) rfl rfl hdg (k p e s m args below meth c H locs ls hC hH hl hq)
theorem ev_slen {v : Int32} (hdg : decode cc pc = .ok (.arraylength, 1)) (hp : pc + 1 = pc') (hv : nI g.2.2.2.2.2.2.1 = v) (k : EV g y cc nL ret rm Z pc' lv (.int v :: st) sh I L R n ce sl) : EV g y cc nL ret rm Z pc lv (.ref 0 :: st) sh I L R n ce sl := by
  subst hp
  intro p e s m args below meth c H locs ls hC hH hl hq
  have hKN := hC.2.2.2.2.2.1
  obtain ⟨scr, h1, h2, h3, h4, h5⟩ := hKN.2.2.2.2.2.2.2.1
  have hb := hKN.2.2.2.2.2.2.2.2.1
  exact W.alen (n := v) hC.1 hC.2.1 (by rw [hH.2.1 _ hb]; exact h1) h2 (by rw [h4]; exact hv) rfl rfl hdg (k p e s m args below meth c H locs ls hC hH hl hq)
theorem ev_copy {idx a0 a n0 n1 sp dp k0 : Nat} {i0 i1 i2 : Int32} {I' : ma_I} (hln : Cond.methodLink y.cls idx arraycopyName ∈ lw_tbl) (hnat : Cond.native arraycopyName ∈ lw_tbl) (hstc : Cond.static arraycopyName ∈ lw_tbl) (hini : Cond.initialized "java/lang/System" ∈ lw_tbl) (hdg : decode cc pc = .ok (.invokestatic idx, 3)) (hp : pc + 3 = pc') (hs0 : sh a0 = (9, n0)) (hs1 : sh a = (9, n1)) (e0 : i0 = nI sp) (e1 : i1 = nI dp) (e2 : i2 = nI k0) (hb0 : sp + k0 ≤ n0) (hb1 : dp + k0 ≤ n1) (hz0 : n0 < 2147483648) (hz1 : n1 < 2147483648)
    (hf : 1 ≤ rm.frames) (hlo : (st.map fun v => v.category).sum + (nativeFrameWords "java/lang/System" "arraycopy" 5 + 11) ≤ rm.locals) (hI : ma_up I a (va_cpy (I a0) (I a) sp dp k0) = I') (k : EV g y cc nL ret rm Z pc' lv st sh I' L R n ce sl) : EV g y cc nL ret rm Z pc lv (.int i2 :: .int i1 :: .ref a :: .int i0 :: .ref a0 :: st) sh I L R n ce sl := by
  subst hp; subst hI; subst e0; subst e1; subst e2
  intro p e s m args below meth c H locs ls hC hH hl hq T hT X
  have hKN := hC.2.2.2.2.2.1
  have hA := hH.2.2 a (by rw [hs1]; show 9 < 14; omega)
  have c0 : (nI sp).toNatClampNeg = sp := nI_clamp (by omega)
  have c1 : (nI dp).toNatClampNeg = dp := nI_clamp (by omega)
  have c2 : (nI k0).toNatClampNeg = k0 := nI_clamp (by omega)
  have t0 : (nI sp).toInt = sp := nI_toInt (by omega)
  have t1 : (nI dp).toInt = dp := nI_toInt (by omega)
  have t2 : (nI k0).toInt = k0 := nI_toInt (by omega)
  have sl0 : ∀ b m, sh b = (9, m) → ma_sl g sh I L R b = fun j => .int (I b j) := fun b m hb => by
    funext j
    exact ma_sl_0 (by rw [hb]; rfl)
  have hc0 : H[ma_ad g a0]? = some (arrV (g.2.2.1 9) n0 (fun j => .int (I a0 j))) := by rw [← sl0 a0 n0 hs0]; exact ma_arr hH hs0 (by omega)
  have hc1 : H[ma_ad g a]? = some (arrV (g.2.2.1 9) n1 (fun j => .int (I a j))) := by rw [← sl0 a n1 hs1]; exact ma_arr hH hs1 (by omega)
  obtain ⟨-, kk0, hk0, cm0, hkk0⟩ := (hKN.2.2.1 9 (by omega) (by omega)).1 n0 (fun j => .int (I a0 j))
  obtain ⟨-, kk1, hk1, cm1, hkk1⟩ := (hKN.2.2.1 9 (by omega) (by omega)).1 n1 (fun j => .int (I a j))
  obtain ⟨vm', X', step⟩ := X.arraycopy hC.1 hC.2.2.2.2.1 (hKN.use hln rfl) (hKN.use hnat rfl) (hKN.use hstc rfl) (hKN.use hini rfl) (src := ma_ad g a0) (dst := ma_ad g a) (cs := arrV (g.2.2.1 9) n0 (fun j => .int (I a0 j))) (cd := arrV (g.2.2.1 9) n1 (fun j => .int (I a j))) (srcPos := nI sp) (destPos := nI dp) (n := nI k0) (by rw [hT]; exact hc0) (by rw [hT]; exact hc1)
    (fun _ h => by cases h) (fun _ h => by cases h) (fun h => by cases h) (fun h => by cases h) hk0 hk1 hkk0 hkk1 (by rfl) (nI_pos (by omega)) (nI_pos (by omega)) (nI_pos (by omega))
    (by rw [t0, t2, arrV_size]; omega)
    (by rw [t1, t2, arrV_size]; omega)
    (fun vm₁ _ i hi => by
      rw [c2] at hi
      have e : (arrV (g.2.2.1 9) n0 (fun j => .int (I a0 j))).slots.getD ((nI sp).toNatClampNeg + i) .null = .int (I a0 (sp + i)) := by
        rw [c0, Array.getD_eq_getD_getElem?, arrV_read _ _ (by omega)]
        rfl
      refine ⟨?_, ?_⟩
      · rw [e]
        rfl
      · rw [e]
        exact trivial)
    (g := F0 m pc ls (.int (nI k0) :: .int (nI dp) :: .ref (ma_ad g a) :: .int (nI sp) :: .ref (ma_ad g a0) :: st.map (ma_sv g))) rfl (hl.1.trans hC.2.2.2.1.symm) (rest := st.map (ma_sv g)) rfl (by rw [hC.2.1]; exact hdg) hf (by show 2 * 0 + _ + _ ≤ _; rw [ma_catsum]; omega)
  have e1 : copied (arrV (g.2.2.1 9) n0 (fun j => .int (I a0 j))) (arrV (g.2.2.1 9) n1 (fun j => .int (I a j))) (nI sp) (nI dp) (nI k0) = arrV (g.2.2.1 9) n1 (fun j => .int (va_cpy (I a0) (I a) sp dp k0 j)) := by
    have := va_copied (fun z => Value.int z) (g.2.2.1 9) (g.2.2.1 9) (n0 := n0) (n1 := n1) (sp := (nI sp).toNatClampNeg) (dp := (nI dp).toNatClampNeg) (n := (nI k0).toNatClampNeg) (I a0) (I a) (by rw [c0, c2]; exact hb0)
    rw [c0, c1, c2] at this
    unfold copied
    rw [c0, c1, c2]
    exact this
  rw [e1] at X' step
  have hlt : ma_ad g a < H.size := (Array.getElem?_eq_some_iff.mp hc1).1
  obtain ⟨t, a1, b1⟩ := k p e s m args below meth c (H.setIfInBounds (ma_ad g a) (arrV (g.2.2.1 9) n1 (fun j => .int (va_cpy (I a0) (I a) sp dp k0 j)))) _ ls hC
    (hH.set (a := a) (by rw [hs1]; show 9 < 14; omega) (by simp) (fun q hq => by simp [Array.getElem?_setIfInBounds, Ne.symm hq]) (ma_up1 _) (fun _ _ => rfl) (fun _ _ => rfl) (ma_CR_arr hs1 (by omega) (f := fun j => .int (va_cpy (I a0) (I a) sp dp k0 j)) (by
      funext j
      rw [ma_sl_0 (by rw [hs1]; rfl), ma_up_s]) (by simp [Array.getElem?_setIfInBounds, hlt]))) hl (fun q hq' => by
      rcases List.mem_append.mp hq' with h | h
      · exact hq q h
      · obtain ⟨z, -, hz⟩ := List.mem_map.mp h
        rw [← hz]
        exact ma_ad_ge hA.1) _ (by rw [← hT]; rfl) X'
  exact ⟨t, step t a1, b1⟩
end Made
