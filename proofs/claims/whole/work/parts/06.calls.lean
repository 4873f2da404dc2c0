section Calls
variable {g : ma_G} {y : MethodName} {cc : ByteArray} {nL : Nat} {ret : Option FieldType} {rm : Room} {Z : ma_Z} {pc pc' : Nat} {lv : List (Option Value)} {st : List Value} {sh : ma_S} {I : ma_I} {L : ma_L} {R : ma_R} {n ce sl : Nat}
theorem ev_iret {x : Int32} {Post : ma_P} {ty : FieldType} (hdg : decode cc pc = .ok (.ireturn, 1)) (hr : ret = some ty) (hn : narrow ty (.int x) = .int x) (hce : ce ≤ rm.cells ∧ sl ≤ rm.slots) (k : Post (some (.int x)) sh I L R n) : EV g y cc nL ret rm (ma_ZM g rm Post) pc lv [.int x] sh I L R n ce sl := by
  intro p e s m args below meth c H locs ls hC hH hl hq
  refine W.widen hce.1 hce.2 ?_
  exact W.zret (free := ma_A g) hC.1 hC.2.1 (hC.2.2.1.trans hr) hn (fun t ht hW => ⟨some (.int x), sh, I, L, R, n, rfl, k, by rw [ht]; exact hH, hC.2.2.2.2.2.1.warm hW⟩) hq hdg hC.2.2.2.2.2.2.1
theorem ev_lret {x : Int64} {Post : ma_P} (hdg : decode cc pc = .ok (.lreturn, 1)) (hr : ret = some .long) (hce : ce ≤ rm.cells ∧ sl ≤ rm.slots) (k : Post (some (.long x)) sh I L R n) : EV g y cc nL ret rm (ma_ZM g rm Post) pc lv [.long x] sh I L R n ce sl := by
  intro p e s m args below meth c H locs ls hC hH hl hq
  refine W.widen hce.1 hce.2 ?_
  exact W.lret (free := ma_A g) hC.1 hC.2.1 (hC.2.2.1.trans hr) (fun t ht hW => ⟨some (.long x), sh, I, L, R, n, rfl, k, by rw [ht]; exact hH, hC.2.2.2.2.2.1.warm hW⟩) hq hdg hC.2.2.2.2.2.2.1
theorem ev_vret {Post : ma_P} (hdg : decode cc pc = .ok (.return_, 1)) (hr : ret = none) (hce : ce ≤ rm.cells ∧ sl ≤ rm.slots) (k : Post none sh I L R n) : EV g y cc nL ret rm (ma_ZM g rm Post) pc lv [] sh I L R n ce sl := by
  intro p e s m args below meth c H locs ls hC hH hl hq
  refine W.widen hce.1 hce.2 ?_
  exact W.vret (free := ma_A g) hC.1 hC.2.1 (hC.2.2.1.trans hr) (fun t ht hW => ⟨none, sh, I, L, R, n, rfl, k, by rw [ht]; exact hH, hC.2.2.2.2.2.1.warm hW⟩) hq hdg hC.2.2.2.2.2.2.1
def ma_le : List Value → List (Option Value)
  | [] => []
  | v :: vs => match v.category with
    | 2 => some v :: none :: ma_le vs
    | _ => some v :: ma_le vs
theorem ma_le_2 {v : Value} {vs : List Value} (h : v.category = 2) : ma_le (v :: vs) = some v :: none :: ma_le vs := by rw [ma_le, h]; rfl
theorem ma_le_1 {v : Value} {vs : List Value} (h : v.category = 1) : ma_le (v :: vs) = some v :: ma_le vs := by rw [ma_le, h]; simp
theorem ma_le_len (g : ma_G) : ∀ av : List Value, (lg_sl (av.map (ma_sv g))).length = (ma_le av).length
  | [] => rfl
  | v :: vs => by
    have ih := ma_le_len g vs
    unfold lg_sl at ih ⊢
    rw [List.map_cons, List.flatMap_cons, List.length_append, ih, ma_sv_cat]
    rcases lv_cat v with h | h
    · rw [ma_le_1 h, h]; simp; omega
    · rw [ma_le_2 h, h]; simp; omega
theorem ma_le_at (g : ma_G) : ∀ (av : List Value) (j i : Nat) (v : Value), (ma_le av)[i]? = some (some v) → (j + i, ma_sv g v) ∈ lv_args j (av.map (ma_sv g))
  | [], j, i, v, h => by simp [ma_le] at h
  | w :: ws, j, i, v, h => by
    rw [List.map_cons, lv_args, ma_sv_cat]
    rcases lv_cat w with hc | hc
    · rw [ma_le_1 hc] at h
      rw [if_neg (by omega)]
      cases i with
      | zero => simp at h; subst h; simp
      | succ i =>
        have := ma_le_at g ws (j + 1) i v (by simpa using h)
        rw [show j + (i + 1) = j + 1 + i by omega]
        exact List.mem_cons_of_mem _ this
    · rw [ma_le_2 hc] at h
      rw [if_pos hc]
      cases i with
      | zero => simp at h; subst h; simp
      | succ i =>
        cases i with
        | zero => simp at h
        | succ i =>
          have := ma_le_at g ws (j + 2) i v (by simpa using h)
          rw [show j + (i + 1 + 1) = j + 2 + i by omega]
          exact List.mem_cons_of_mem _ this
theorem ma_sl_len : ∀ av : List Value, (ma_le av).length = (av.map fun v => v.category).sum
  | [] => rfl
  | v :: vs => by
    rcases lv_cat v with h | h
    · rw [ma_le_1 h, List.length_cons, ma_sl_len vs]; simp [h]; omega
    · rw [ma_le_2 h, List.length_cons, List.length_cons, ma_sl_len vs]; simp [h]; omega
/-- a method's contract out of the walk of its body -/
theorem ct_of {av : List Value} {Post : ma_P} {lv : List (Option Value)} (hpl : plainName y.cls = true) (hn : (av.map fun v => v.category).sum ≤ nL) (hlv : ma_le av ++ List.replicate (nL - (av.map fun v => v.category).sum) none = lv) (k : EV g y cc nL ret rm (ma_ZM g rm Post) 0 lv [] sh I L R n 0 0) : CT g y cc nL ret rm av Post sh I L R n := by
  subst hlv
  refine Met.ofW (cc := cc) (maxL := nL) (ret := ret) hpl rfl ?_
  intro p e s m args below meth c s₁ B hml hv
  obtain ⟨rfl, hH, hK⟩ := hv
  have hlen : (lg_sl (av.map (ma_sv g))).length ≤ nL := by rw [ma_le_len, ma_sl_len]; exact hn
  have hl := lv_entry (av.map (ma_sv g)) (n := nL) hlen
  rw [lg_entry_eq]
  generalize (lg_sl (av.map (ma_sv g)) ++ List.replicate (nL - (lg_sl (av.map (ma_sv g))).length) Slot.unset).toArray = ls at hl ⊢
  refine k p e s m _ below meth c s.heap [] ls ⟨B.exec, B.bytes, B.returns, hml, findClass_of_methodNamed B.named, hK, B.notSynchronized, (name_of_methodNamed B.named B.method).1⟩ hH ⟨hl.1, hl.2.1, fun i v h => ?_⟩ (fun q h => by cases h)
  have hi : (ma_le av)[i]? = some (some v) := by
    rw [List.getElem?_append] at h
    split at h
    · exact h
    · rw [List.getElem?_replicate] at h
      split at h <;> cases h
  have := hl.2.2 _ (ma_le_at g av 0 i v hi)
  simpa using this
def ma_st (r : Option Value) (rest : List Value) : List Value := match r with
  | none => rest
  | some v => v :: rest
theorem ma_st_map (g : ma_G) (r : Option Value) (rest : List Value) : (r.map (ma_sv g)).toList ++ rest.map (ma_sv g) = (ma_st r rest).map (ma_sv g) := by cases r <;> rfl
/-- a call's words -/
def ma_CO (own : String) (idx : Nat) (y' : MethodName) (cc' : ByteArray) (nL' : Nat) (ret' : Option FieldType) (na : Nat) : Prop :=
  Cond.code y' cc' nL' ret' ∈ lw_tbl ∧ Cond.initialized y'.cls ∈ lw_tbl ∧ (y'.cls ≠ "java/lang/invoke/MethodHandle" ∧ y'.cls ≠ "java/lang/invoke/VarHandle") ∧ (parseMethodDescriptor y'.desc).map (fun d => d.parameters.length) = some na ∧
  (Cond.methodLink own idx y' ∈ lw_tbl ∨ ∃ host, Cond.methodLinkNest own idx y' host ∈ lw_tbl)
theorem ma_blind {av : List Value} : FrameBlind (ma_PC g av sh I L R n) := by
  intro a U f mk h
  obtain ⟨h1, h2, h3⟩ := h
  exact ⟨h1, h2, ma_KN.same (u := U) (U := U.calling f mk a) rfl h3⟩
theorem ma_pre {av : List Value} {H : Heap} {s : State} (hK : ma_KN g s) (hH : ma_HR g sh I L R n H) : ∀ U : State, U.heap = H → s.WarmedH U.vm → ma_PC g av sh I L R n (av.map (ma_sv g)).toArray U :=
  fun U hU hW => ⟨rfl, by rw [hU]; exact hH, hK.warm hW⟩
theorem ma_catsum (rest : List Value) : ((rest.map (ma_sv g)).map fun v => v.category).sum = (rest.map fun v => v.category).sum := by
  rw [List.map_map]
  congr 1
  apply List.map_congr_left
  intro v _
  exact ma_sv_cat g v
theorem ma_after {p : Program} {e : Env} {s : State} {m : MethodId} {args : Array Value} {below : List Frame} {meth : Method} {c : Code} {H : Heap} {locs : List Loc} {ls : Array Slot} {rest : List Value} {mc ms : Nat} {a : Array Value} {fr : JFrame} {Post : ma_P} (hfr : fr = F0 m pc ls (st.map (ma_sv g)))
    (hr : va_Run p g.1 e rm s m args below meth c H locs ce sl mc ms fr (rest.map (ma_sv g)) (ma_QC g Post a) (ma_A g)) (hC : ma_CX g y cc nL ret p s m meth c) (hl : ma_LV g ls nL lv) (hq : ∀ q ∈ locs, g.2.2.2.1 ≤ q.base)
    (k : ∀ r sh I L R n, Post r sh I L R n → EV g y cc nL ret rm Z (pc + 3) lv (ma_st r rest) sh I L R n (ce + mc) (sl + ms)) : W p g.1 e rm s m args below meth c H locs ce sl (Z below args s) fr := by
  subst hfr
  intro T hT X
  obtain ⟨v, st₀, t, T', Lc, h0, X', hL, e1, e2, ⟨r, sh', I', L', R', n', hv, hp, hH', hK'⟩, stp⟩ := hr T hT X
  cases hv
  obtain ⟨t2, a1, b1⟩ := k r sh' I' L' R' n' hp p e s m args below meth c T'.heap (locs ++ Lc) ls hC (by rw [e1]; exact hH') hl (fun q h => by
    rcases List.mem_append.mp h with h | h
    · exact hq q h
    · exact hL q h) T' rfl X'
  refine ⟨t2, stp t2 ?_, b1⟩
  rw [ma_st_map]
  exact a1
theorem ev_callS {y' : MethodName} {cc' : ByteArray} {nL' idx na : Nat} {ret' : Option FieldType} {rm' : Room} {av rest : List Value} (hco : ma_CO y.cls idx y' cc' nL' ret' na) (hst : Cond.static y' ∈ lw_tbl) (hdg : decode cc pc = .ok (.invokestatic idx, 3)) (hp : pc + 3 = pc') (hs : av.reverse ++ rest = st) (hn : av.length = na) (hc : (rest.map fun v => v.category).sum ≤ 8)
    (hrm : rm'.frames + 1 ≤ rm.frames ∧ 8 + (nL' + 11) + rm'.locals ≤ rm.locals) (hro : ce + rm'.cells ≤ rm.cells ∧ sl + rm'.slots ≤ rm.slots) (k : CT g y' cc' nL' ret' rm' av (fun r sh I L R n => EV g y cc nL ret rm Z pc' lv (ma_st r rest) sh I L R n (ce + rm'.cells) (sl + rm'.slots)) sh I L R n) : EV g y cc nL ret rm Z pc lv st sh I L R n ce sl := by
  subst hp
  subst hs
  intro p e s m args below meth c H locs ls hC hH hl hq
  have hKN := hC.2.2.2.2.2.1
  obtain ⟨h1, h2, h3, h4, h5⟩ := hco
  have hws : ∀ w ∈ [Cond.code y' cc' nL' ret'], ∀ (a' : Array Value) (U : State), s.WarmedH U.vm → w.before a' U = true := by
    intro w hw a' U hW
    rw [List.mem_singleton.mp hw]
    exact (hKN.warm hW).use h1 rfl
  have hdn : ∀ sig, parseMethodDescriptor y'.desc = some sig → na = sig.parameters.length := by
    intro sig h
    rw [h] at h4
    exact (Option.some.inj h4).symm
  have hW8 : 2 * (F0 m pc ls ((av.reverse ++ rest).map (ma_sv g))).monitorRoom + ((rest.map (ma_sv g)).map fun v => v.category).sum ≤ 8 := lv_room (by rw [ma_catsum]; exact hc)
  have hstk : (F0 m pc ls ((av.reverse ++ rest).map (ma_sv g))).stack = (av.map (ma_sv g)).reverse ++ rest.map (ma_sv g) := by simp
  rcases h5 with h5 | ⟨host, h5⟩
  · refine ma_after rfl (va_runS (As := av.map (ma_sv g)) (rest := rest.map (ma_sv g)) (Ts := []) (own := y.cls) (n := na) ⟨hC.1, hC.2.1, hC.2.2.2.1, hC.2.2.2.2.1, fun w h => by cases h⟩ k ⟨⟨rfl, rfl, hrm.1, hrm.2, hws, List.mem_singleton.mpr rfl, hKN.use h1 rfl, hKN.use h2 rfl, h3, hdn, hKN.use h5 rfl⟩, hKN.use hst rfl⟩ ⟨ma_blind, ma_pre hKN hH⟩ rfl (by simpa using hn) hl.1 hstk hW8 hdg hro) hC hl hq (fun r sh I L R n h => h)
  · refine ma_after rfl (va_runSN (As := av.map (ma_sv g)) (rest := rest.map (ma_sv g)) (Ts := []) (own := y.cls) (n := na) ⟨hC.1, hC.2.1, hC.2.2.2.1, hC.2.2.2.2.1, fun w h => by cases h⟩ k ⟨⟨⟨rfl, rfl, hrm.1, hrm.2, hws, List.mem_singleton.mpr rfl⟩, hKN.use h1 rfl, hKN.use h2 rfl, h3, hdn, hKN.use h5 rfl⟩, hKN.use hst rfl, trivial⟩ ⟨ma_blind, ma_pre hKN hH⟩ rfl (by simpa using hn) hl.1 hstk hW8 hdg hro) hC hl hq (fun r sh I L R n h => h)
theorem ev_callV {y' : MethodName} {cc' : ByteArray} {nL' idx na b : Nat} {ret' : Option FieldType} {rm' : Room} {av rest : List Value} (hco : ma_CO y.cls idx y' cc' nL' ret' na) (hin : Cond.instanceMethod y' ∈ lw_tbl) (hse : Cond.selects y'.cls y' y' ∈ lw_tbl) (hdg : decode cc pc = .ok (.invokevirtual idx, 3)) (hp : pc + 3 = pc') {t N : Nat} (hsb : sh b = (t, N)) (hbt : t < 9 ∧ ∃ r : vw_C, vwCl[t]? = some r ∧ r.1 = y'.cls) (hs : av.reverse ++ .ref b :: rest = st) (hn : av.length = na) (hc : (rest.map fun v => v.category).sum ≤ 8)
    (hrm : rm'.frames + 1 ≤ rm.frames ∧ 8 + (nL' + 11) + rm'.locals ≤ rm.locals) (hro : ce + rm'.cells ≤ rm.cells ∧ sl + rm'.slots ≤ rm.slots) (k : CT g y' cc' nL' ret' rm' (.ref b :: av) (fun r sh I L R n => EV g y cc nL ret rm Z pc' lv (ma_st r rest) sh I L R n (ce + rm'.cells) (sl + rm'.slots)) sh I L R n) : EV g y cc nL ret rm Z pc lv st sh I L R n ce sl := by
  subst hp
  subst hs
  intro p e s m args below meth c H locs ls hC hH hl hq
  have hKN := hC.2.2.2.2.2.1
  obtain ⟨h1, h2, h3, h4, h5⟩ := hco
  have hws : ∀ w ∈ [Cond.code y' cc' nL' ret'], ∀ (a' : Array Value) (U : State), s.WarmedH U.vm → w.before a' U = true := by
    intro w hw a' U hW
    rw [List.mem_singleton.mp hw]
    exact (hKN.warm hW).use h1 rfl
  have hdn : ∀ sig, parseMethodDescriptor y'.desc = some sig → na = sig.parameters.length := by
    intro sig h
    rw [h] at h4
    exact (Option.some.inj h4).symm
  have hW8 : 2 * (F0 m pc ls ((av.reverse ++ .ref b :: rest).map (ma_sv g))).monitorRoom + ((rest.map (ma_sv g)).map fun v => v.category).sum ≤ 8 := lv_room (by rw [ma_catsum]; exact hc)
  have hstk : (F0 m pc ls ((av.reverse ++ .ref b :: rest).map (ma_sv g))).stack = (av.map (ma_sv g)).reverse ++ .ref (ma_ad g b) :: rest.map (ma_sv g) := by simp [ma_sv]
  have hrecv : ∃ cellB : Cell, H[ma_ad g b]? = some cellB ∧ cellB.vm.isStatics = false ∧ s.vm.findClass y'.cls = some cellB.cls := by
    obtain ⟨hb1, r, hr, hrn⟩ := hbt
    have hsb1 : (sh b).1 = t := by rw [hsb]
    rw [← hsb1] at hb1 hr
    have hcr := (hH.2.2 b (by omega)).2.2
    unfold ma_CR at hcr
    rw [if_pos hb1] at hcr
    obtain ⟨r', hr', cell, g1, g2, g3, -⟩ := hcr
    obtain rfl : r' = r := Option.some.inj (hr'.symm.trans hr)
    exact ⟨cell, g1, by rw [g3]; rfl, by rw [g2, ← hrn]; exact (hKN.2.1 _ _ hr).2.1⟩
  rcases h5 with h5 | ⟨host, h5⟩
  · refine ma_after rfl (va_runV (As := av.map (ma_sv g)) (rest := rest.map (ma_sv g)) (Ts := []) (own := y.cls) (C := y'.cls) (b := ma_ad g b) (n := na) ⟨hC.1, hC.2.1, hC.2.2.2.1, hC.2.2.2.2.1, fun w h => by cases h⟩ k ⟨⟨rfl, rfl, hrm.1, hrm.2, hws, List.mem_singleton.mpr rfl, hKN.use h1 rfl, hKN.use h2 rfl, h3, hdn, hKN.use h5 rfl⟩, hKN.use hin rfl, hKN.use hse rfl⟩ ⟨ma_blind, hrecv, ma_pre (av := .ref b :: av) hKN hH⟩ rfl (by simpa using hn) hl.1 hstk hW8 hdg hro) hC hl hq (fun r sh I L R n h => h)
  · refine ma_after rfl (va_runVN (As := av.map (ma_sv g)) (rest := rest.map (ma_sv g)) (Ts := []) (own := y.cls) (C := y'.cls) (b := ma_ad g b) (n := na) ⟨hC.1, hC.2.1, hC.2.2.2.1, hC.2.2.2.2.1, fun w h => by cases h⟩ k ⟨⟨⟨rfl, rfl, hrm.1, hrm.2, hws, List.mem_singleton.mpr rfl⟩, hKN.use h1 rfl, hKN.use h2 rfl, h3, hdn, hKN.use h5 rfl⟩, hKN.use hin rfl, hKN.use hse rfl⟩ ⟨ma_blind, hrecv, ma_pre (av := .ref b :: av) hKN hH⟩ rfl (by simpa using hn) hl.1 hstk hW8 hdg hro) hC hl hq (fun r sh I L R n h => h)
theorem ev_callI {y' : MethodName} {cc' : ByteArray} {nL' idx na b : Nat} {rm' : Room} {av rest : List Value} (hco : ma_CO y.cls idx y' cc' nL' none na) (hin : Cond.instanceMethod y' ∈ lw_tbl) (hnm : y'.name = "<init>") (hdg : decode cc pc = .ok (.invokespecial idx, 3)) (hp : pc + 3 = pc') (hs : av.reverse ++ .ref b :: rest = st) (hn : av.length = na) (hc : (rest.map fun v => v.category).sum ≤ 8)
    (hrm : rm'.frames + 1 ≤ rm.frames ∧ 8 + (nL' + 11) + rm'.locals ≤ rm.locals) (hro : ce + rm'.cells ≤ rm.cells ∧ sl + rm'.slots ≤ rm.slots) (k : CT g y' cc' nL' none rm' (.ref b :: av) (fun r sh I L R n => EV g y cc nL ret rm Z pc' lv (ma_st r rest) sh I L R n (ce + rm'.cells) (sl + rm'.slots)) sh I L R n) : EV g y cc nL ret rm Z pc lv st sh I L R n ce sl := by
  subst hp
  subst hs
  intro p e s m args below meth c H locs ls hC hH hl hq
  have hKN := hC.2.2.2.2.2.1
  obtain ⟨h1, h2, h3, h4, h5⟩ := hco
  have hws : ∀ w ∈ [Cond.code y' cc' nL' none], ∀ (a' : Array Value) (U : State), s.WarmedH U.vm → w.before a' U = true := by
    intro w hw a' U hW
    rw [List.mem_singleton.mp hw]
    exact (hKN.warm hW).use h1 rfl
  have hdn : ∀ sig, parseMethodDescriptor y'.desc = some sig → na = sig.parameters.length := by
    intro sig h
    rw [h] at h4
    exact (Option.some.inj h4).symm
  have hW8 : 2 * (F0 m pc ls ((av.reverse ++ .ref b :: rest).map (ma_sv g))).monitorRoom + ((rest.map (ma_sv g)).map fun v => v.category).sum ≤ 8 := lv_room (by rw [ma_catsum]; exact hc)
  have hstk : (F0 m pc ls ((av.reverse ++ .ref b :: rest).map (ma_sv g))).stack = (av.map (ma_sv g)).reverse ++ .ref (ma_ad g b) :: rest.map (ma_sv g) := by simp [ma_sv]
  rcases h5 with h5 | ⟨host, h5⟩
  · refine ma_after rfl (va_runI (As := av.map (ma_sv g)) (rest := rest.map (ma_sv g)) (Ts := []) (own := y.cls) (b := ma_ad g b) (n := na) ⟨hC.1, hC.2.1, hC.2.2.2.1, hC.2.2.2.2.1, fun w h => by cases h⟩ k ⟨⟨rfl, rfl, hrm.1, hrm.2, hws, List.mem_singleton.mpr rfl, hKN.use h1 rfl, hKN.use h2 rfl, h3, hdn, hKN.use h5 rfl⟩, hnm, hKN.use hin rfl⟩ ⟨ma_blind, ma_pre (av := .ref b :: av) hKN hH⟩ rfl (by simpa using hn) hl.1 hstk hW8 hdg hro) hC hl hq (fun r sh I L R n h => h)
  · refine ma_after rfl (va_runIN (As := av.map (ma_sv g)) (rest := rest.map (ma_sv g)) (Ts := []) (own := y.cls) (b := ma_ad g b) (n := na) ⟨hC.1, hC.2.1, hC.2.2.2.1, hC.2.2.2.2.1, fun w h => by cases h⟩ k ⟨⟨⟨rfl, rfl, hrm.1, hrm.2, hws, List.mem_singleton.mpr rfl⟩, hKN.use h1 rfl, hKN.use h2 rfl, h3, hdn, hKN.use h5 rfl⟩, hnm, hKN.use hin rfl⟩ ⟨ma_blind, ma_pre (av := .ref b :: av) hKN hH⟩ rfl (by simpa using hn) hl.1 hstk hW8 hdg hro) hC hl hq (fun r sh I L R n h => h)
theorem ev_obj {idx b : Nat} {rest : List Value} (hl1 : Cond.methodLink y.cls idx objectInit ∈ lw_tbl) (hdg : decode cc pc = .ok (.invokespecial idx, 3)) (hp : pc + 3 = pc') (hin : Cond.instanceMethod objectInit ∈ lw_tbl) (hcd : Cond.code objectInit ⟨#[0xb1]⟩ 1 none ∈ lw_tbl) (hc : (rest.map fun v => v.category).sum + 12 ≤ rm.locals) (hf : 1 ≤ rm.frames) (k : EV g y cc nL ret rm Z pc' lv rest sh I L R n ce sl) : EV g y cc nL ret rm Z pc lv (.ref b :: rest) sh I L R n ce sl := by
  subst hp
  intro p e s m args below meth c H locs ls hC hH hl hq
  have hKN := hC.2.2.2.2.2.1
  refine W.objInit hC.1 hC.2.1 hC.2.2.2.2.1 (hKN.use hl1 rfl) (hKN.use hin rfl) (hKN.use hcd rfl) rfl (hl.1.trans hC.2.2.2.1.symm) (a := ma_ad g b) (rest := rest.map (ma_sv g)) rfl hdg hf (by show 2 * 0 + _ + 12 ≤ _; rw [ma_catsum]; omega) (k p e s m args below meth c H locs ls hC hH hl hq)
end Calls
