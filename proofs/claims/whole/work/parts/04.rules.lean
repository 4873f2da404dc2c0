section Rules
variable {g : ma_G} {y : MethodName} {cc : ByteArray} {nL : Nat} {ret : Option FieldType} {rm : Room} {Z : ma_Z} {pc pc' : Nat} {lv : List (Option Value)} {st : List Value} {sh : ma_S} {I : ma_I} {L : ma_L} {R : ma_R} {n ce sl : Nat}
theorem ma_lv_at {ls : Array Slot} (hl : ma_LV g ls nL lv) {i : Nat} {v : Value} (h : lv[i]? = some (some v)) : ls[i]? = some (.val (ma_sv g v)) := hl.2.2 i v h
theorem ev_iconst {n0 : Int} {v : Int32} (hdg : decode cc pc = .ok (.iconst n0, 1)) (hp : pc + 1 = pc') (hv : Int32.ofInt n0 = v) (k : EV g y cc nL ret rm Z pc' lv (.int v :: st) sh I L R n ce sl) : EV g y cc nL ret rm Z pc lv st sh I L R n ce sl := by
  subst hp
  intro p e s m args below meth c H locs ls hC hH hl hq
  exact lv_iconst hC.1 hC.2.1 hdg hv (k p e s m args below meth c H locs ls hC hH hl hq)
theorem ev_bipush {n0 : Int} {v : Int32} (hdg : decode cc pc = .ok (.bipush n0, 2)) (hp : pc + 2 = pc') (hv : (Int8.ofInt n0).toInt32 = v) (k : EV g y cc nL ret rm Z pc' lv (.int v :: st) sh I L R n ce sl) : EV g y cc nL ret rm Z pc lv st sh I L R n ce sl := by
  subst hp
  intro p e s m args below meth c H locs ls hC hH hl hq
  exact lv_bipush hC.1 hC.2.1 hdg hv (k p e s m args below meth c H locs ls hC hH hl hq)
theorem ev_sipush {n0 : Int} {v : Int32} (hdg : decode cc pc = .ok (.sipush n0, 3)) (hp : pc + 3 = pc') (hv : (Int16.ofInt n0).toInt32 = v) (k : EV g y cc nL ret rm Z pc' lv (.int v :: st) sh I L R n ce sl) : EV g y cc nL ret rm Z pc lv st sh I L R n ce sl := by
  subst hp
  intro p e s m args below meth c H locs ls hC hH hl hq
  exact lv_sipush hC.1 hC.2.1 hdg hv (k p e s m args below meth c H locs ls hC hH hl hq)
theorem ev_lconst {n0 : Fin 2} {v : Int64} (hdg : decode cc pc = .ok (.lconst n0, 1)) (hp : pc + 1 = pc') (hv : Int64.ofNat (n0 : Nat) = v) (k : EV g y cc nL ret rm Z pc' lv (.long v :: st) sh I L R n ce sl) : EV g y cc nL ret rm Z pc lv st sh I L R n ce sl := by
  subst hp
  intro p e s m args below meth c H locs ls hC hH hl hq
  exact lv_lconst hC.1 hC.2.1 hdg hv (k p e s m args below meth c H locs ls hC hH hl hq)
theorem ev_ldc2 {idx : Nat} {v : Int64} (hw : Cond.constantLong y.cls idx v ∈ lw_tbl) (hdg : decode cc pc = .ok (.ldc2_w idx, 3)) (hp : pc + 3 = pc') (k : EV g y cc nL ret rm Z pc' lv (.long v :: st) sh I L R n ce sl) : EV g y cc nL ret rm Z pc lv st sh I L R n ce sl := by
  subst hp
  intro p e s m args below meth c H locs ls hC hH hl hq
  exact lv_ldc2 hC.1 hC.2.1 hC.2.2.2.2.1 (hC.2.2.2.2.2.1.use hw rfl) hdg (k p e s m args below meth c H locs ls hC hH hl hq)
theorem ev_iload_n {k0 : Fin 4} {i : Nat} {x : Int32} (hdg : decode cc pc = .ok (.iload_n k0, 1)) (hp : pc + 1 = pc') (hi : (k0 : Nat) = i) (hx : lv[i]? = some (some (.int x))) (k : EV g y cc nL ret rm Z pc' lv (.int x :: st) sh I L R n ce sl) : EV g y cc nL ret rm Z pc lv st sh I L R n ce sl := by
  subst hp
  intro p e s m args below meth c H locs ls hC hH hl hq
  exact lv_iload_n hC.1 hC.2.1 hdg hi (ma_lv_at hl hx) (k p e s m args below meth c H locs ls hC hH hl hq)
theorem ev_iload {i : Nat} {x : Int32} (hdg : decode cc pc = .ok (.iload i, 2)) (hp : pc + 2 = pc') (hx : lv[i]? = some (some (.int x))) (k : EV g y cc nL ret rm Z pc' lv (.int x :: st) sh I L R n ce sl) : EV g y cc nL ret rm Z pc lv st sh I L R n ce sl := by
  subst hp
  intro p e s m args below meth c H locs ls hC hH hl hq
  exact lv_iload hC.1 hC.2.1 hdg (ma_lv_at hl hx) (k p e s m args below meth c H locs ls hC hH hl hq)
theorem ev_lload_n {k0 : Fin 4} {i : Nat} {x : Int64} (hdg : decode cc pc = .ok (.lload_n k0, 1)) (hp : pc + 1 = pc') (hi : (k0 : Nat) = i) (hx : lv[i]? = some (some (.long x))) (k : EV g y cc nL ret rm Z pc' lv (.long x :: st) sh I L R n ce sl) : EV g y cc nL ret rm Z pc lv st sh I L R n ce sl := by
  subst hp
  intro p e s m args below meth c H locs ls hC hH hl hq
  exact lv_lload_n hC.1 hC.2.1 hdg hi (ma_lv_at hl hx) (k p e s m args below meth c H locs ls hC hH hl hq)
theorem ev_lload {i : Nat} {x : Int64} (hdg : decode cc pc = .ok (.lload i, 2)) (hp : pc + 2 = pc') (hx : lv[i]? = some (some (.long x))) (k : EV g y cc nL ret rm Z pc' lv (.long x :: st) sh I L R n ce sl) : EV g y cc nL ret rm Z pc lv st sh I L R n ce sl := by
  subst hp
  intro p e s m args below meth c H locs ls hC hH hl hq
  exact lv_lload hC.1 hC.2.1 hdg (ma_lv_at hl hx) (k p e s m args below meth c H locs ls hC hH hl hq)
theorem ev_aload_n {k0 : Fin 4} {i : Nat} {x : Nat} (hdg : decode cc pc = .ok (.aload_n k0, 1)) (hp : pc + 1 = pc') (hi : (k0 : Nat) = i) (hx : lv[i]? = some (some (.ref x))) (k : EV g y cc nL ret rm Z pc' lv (.ref x :: st) sh I L R n ce sl) : EV g y cc nL ret rm Z pc lv st sh I L R n ce sl := by
  subst hp
  intro p e s m args below meth c H locs ls hC hH hl hq
  exact lv_aload_n hC.1 hC.2.1 hdg hi (ma_lv_at hl hx) (k p e s m args below meth c H locs ls hC hH hl hq)
theorem ev_aload {i : Nat} {x : Nat} (hdg : decode cc pc = .ok (.aload i, 2)) (hp : pc + 2 = pc') (hx : lv[i]? = some (some (.ref x))) (k : EV g y cc nL ret rm Z pc' lv (.ref x :: st) sh I L R n ce sl) : EV g y cc nL ret rm Z pc lv st sh I L R n ce sl := by
  subst hp
  intro p e s m args below meth c H locs ls hC hH hl hq
  exact lv_aload hC.1 hC.2.1 hdg (ma_lv_at hl hx) (k p e s m args below meth c H locs ls hC hH hl hq)
def ma_la (g : ma_G) : Nat → List (Option Value) → List (Nat × Value)
  | _, [] => []
  | i, none :: r => ma_la g (i + 1) r
  | i, some v :: r => (i, ma_sv g v) :: ma_la g (i + 1) r
theorem ma_la_mem {g : ma_G} : ∀ (lv : List (Option Value)) (i : Nat) (q : Nat × Value), q ∈ ma_la g i lv ↔ ∃ (j : Nat) (v : Value), lv[j]? = some (some v) ∧ q = (i + j, ma_sv g v)
  | [], i, q => by simp [ma_la]
  | none :: r, i, q => by
    rw [ma_la, ma_la_mem r (i + 1) q]
    constructor
    · rintro ⟨j, v, h, rfl⟩
      exact ⟨j + 1, v, by simpa using h, by simp; omega⟩
    · rintro ⟨j, v, h, rfl⟩
      cases j with
      | zero => simp at h
      | succ j => exact ⟨j, v, by simpa using h, by simp; omega⟩
  | some w :: r, i, q => by
    rw [ma_la, List.mem_cons, ma_la_mem r (i + 1) q]
    constructor
    · rintro (rfl | ⟨j, v, h, rfl⟩)
      · exact ⟨0, w, by simp, by simp⟩
      · exact ⟨j + 1, v, by simpa using h, by simp; omega⟩
    · rintro ⟨j, v, h, rfl⟩
      cases j with
      | zero => simp at h; subst h; exact Or.inl (by simp)
      | succ j => exact Or.inr ⟨j, v, by simpa using h, by simp; omega⟩
theorem ma_lv_has {g : ma_G} {ls : Array Slot} {nL : Nat} {lv : List (Option Value)} (h : ma_LV g ls nL lv) : lv_has ls nL (ma_la g 0 lv) := by
  refine ⟨h.1, h.2.1, fun q hq => ?_⟩
  obtain ⟨j, v, h1, rfl⟩ := (ma_la_mem lv 0 q).mp hq
  simpa using h.2.2 j v h1
/-- no long stands just before place i -/
def ma_lq (lv : List (Option Value)) (i : Nat) : Bool := match i with
  | 0 => true
  | j + 1 => match lv[j]? with
    | some (some v) => v.category == 1
    | _ => true
theorem ma_lq_ok {lv : List (Option Value)} {i j : Nat} {v : Value} (h : ma_lq lv i = true) (hj : lv[j]? = some (some v)) (he : j + 1 = i) : ¬ v.category = 2 := by
  subst he
  simp only [ma_lq, hj] at h
  intro h2
  rw [h2] at h
  cases h
theorem ma_lv_set1 {g : ma_G} {ls : Array Slot} {nL : Nat} {lv : List (Option Value)} {i : Nat} {v : Value} (hc : v.category = 1) (hq : ma_lq lv i = true) (h : lv_has ls nL ((i, ma_sv g v) :: (ma_la g 0 lv).filter (fun q => !(q.1 == i) && !(q.1 + 1 == i && q.2.category == 2)))) : ma_LV g ls nL (lv.set i (some v)) := by
  refine ⟨h.1, h.2.1, fun j w hj => ?_⟩
  by_cases e : i = j
  · subst e
    rw [List.getElem?_set] at hj
    simp at hj
    obtain ⟨-, rfl⟩ := hj
    exact h.2.2 _ List.mem_cons_self
  · rw [List.getElem?_set_ne e] at hj
    refine h.2.2 (j, ma_sv g w) (List.mem_cons_of_mem _ (List.mem_filter.mpr ⟨(ma_la_mem lv 0 _).mpr ⟨j, w, hj, by simp⟩, ?_⟩))
    have h1 : ¬ j = i := fun q => e q.symm
    have h2 : ¬ (j + 1 = i ∧ w.category = 2) := fun q => ma_lq_ok hq hj q.1 q.2
    simp only [ma_sv_cat]
    by_cases h3 : j + 1 = i
    · have h4 : ¬ w.category = 2 := fun q => h2 ⟨h3, q⟩
      simp [h1, h4]
    · simp [h1, h3]
theorem ma_lv_set2 {g : ma_G} {ls : Array Slot} {nL : Nat} {lv : List (Option Value)} {i : Nat} {v : Value} (hc : v.category = 2) (hq : ma_lq lv i = true) (h : lv_has ls nL ((i, ma_sv g v) :: (ma_la g 0 lv).filter (fun q => !(q.1 == i) && (!(q.1 == i + 1) && !(q.1 + 1 == i && q.2.category == 2))))) : ma_LV g ls nL ((lv.set i (some v)).set (i + 1) none) := by
  refine ⟨h.1, h.2.1, fun j w hj => ?_⟩
  by_cases e1 : i + 1 = j
  · subst e1
    rw [List.getElem?_set] at hj
    simp at hj
  · rw [List.getElem?_set_ne e1] at hj
    by_cases e : i = j
    · subst e
      rw [List.getElem?_set] at hj
      simp at hj
      obtain ⟨-, rfl⟩ := hj
      exact h.2.2 _ List.mem_cons_self
    · rw [List.getElem?_set_ne e] at hj
      refine h.2.2 (j, ma_sv g w) (List.mem_cons_of_mem _ (List.mem_filter.mpr ⟨(ma_la_mem lv 0 _).mpr ⟨j, w, hj, by simp⟩, ?_⟩))
      have h1 : ¬ j = i := fun q => e q.symm
      have h1' : ¬ j = i + 1 := fun q => e1 q.symm
      simp only [ma_sv_cat]
      by_cases h3 : j + 1 = i
      · have h4 : ¬ w.category = 2 := fun q => ma_lq_ok hq hj h3 q
        simp [h1, h1', h4]
      · simp [h1, h1', h3]
theorem ev_istore_n {k0 : Fin 4} {i : Nat} {x : Int32} {lv' : List (Option Value)} (hdg : decode cc pc = .ok (.istore_n k0, 1)) (hp : pc + 1 = pc') (hi : (k0 : Nat) = i) (hn : i < nL) (hg : ma_lq lv i = true) (hs : (lv.set i (some (.int x))) = lv') (k : EV g y cc nL ret rm Z pc' lv' st sh I L R n ce sl) : EV g y cc nL ret rm Z pc lv (.int x :: st) sh I L R n ce sl := by
  subst hp
  subst hs
  intro p e s m args below meth c H locs ls hC hH hl hq
  exact lv_istore_n hC.1 hC.2.1 hdg hi (ma_lv_has hl) hn rfl (fun ls' hl' => k p e s m args below meth c H locs ls' hC hH (ma_lv_set1 rfl hg hl') hq)
theorem ev_istore {i : Nat} {x : Int32} {lv' : List (Option Value)} (hdg : decode cc pc = .ok (.istore i, 2)) (hp : pc + 2 = pc') (hn : i < nL) (hg : ma_lq lv i = true) (hs : (lv.set i (some (.int x))) = lv') (k : EV g y cc nL ret rm Z pc' lv' st sh I L R n ce sl) : EV g y cc nL ret rm Z pc lv (.int x :: st) sh I L R n ce sl := by
  subst hp
  subst hs
  intro p e s m args below meth c H locs ls hC hH hl hq
  exact lv_istore hC.1 hC.2.1 hdg (ma_lv_has hl) hn rfl (fun ls' hl' => k p e s m args below meth c H locs ls' hC hH (ma_lv_set1 rfl hg hl') hq)
theorem ev_lstore_n {k0 : Fin 4} {i : Nat} {x : Int64} {lv' : List (Option Value)} (hdg : decode cc pc = .ok (.lstore_n k0, 1)) (hp : pc + 1 = pc') (hi : (k0 : Nat) = i) (hn : i + 1 < nL) (hg : ma_lq lv i = true) (hs : ((lv.set i (some (.long x))).set (i + 1) none) = lv') (k : EV g y cc nL ret rm Z pc' lv' st sh I L R n ce sl) : EV g y cc nL ret rm Z pc lv (.long x :: st) sh I L R n ce sl := by
  subst hp
  subst hs
  intro p e s m args below meth c H locs ls hC hH hl hq
  exact lv_lstore_n hC.1 hC.2.1 hdg hi (ma_lv_has hl) hn rfl (fun ls' hl' => k p e s m args below meth c H locs ls' hC hH (ma_lv_set2 rfl hg hl') hq)
theorem ev_lstore {i : Nat} {x : Int64} {lv' : List (Option Value)} (hdg : decode cc pc = .ok (.lstore i, 2)) (hp : pc + 2 = pc') (hn : i + 1 < nL) (hg : ma_lq lv i = true) (hs : ((lv.set i (some (.long x))).set (i + 1) none) = lv') (k : EV g y cc nL ret rm Z pc' lv' st sh I L R n ce sl) : EV g y cc nL ret rm Z pc lv (.long x :: st) sh I L R n ce sl := by
  subst hp
  subst hs
  intro p e s m args below meth c H locs ls hC hH hl hq
  exact lv_lstore hC.1 hC.2.1 hdg (ma_lv_has hl) hn rfl (fun ls' hl' => k p e s m args below meth c H locs ls' hC hH (ma_lv_set2 rfl hg hl') hq)
theorem ev_astore_n {k0 : Fin 4} {i : Nat} {x : Nat} {lv' : List (Option Value)} (hdg : decode cc pc = .ok (.astore_n k0, 1)) (hp : pc + 1 = pc') (hi : (k0 : Nat) = i) (hn : i < nL) (hg : ma_lq lv i = true) (hs : (lv.set i (some (.ref x))) = lv') (k : EV g y cc nL ret rm Z pc' lv' st sh I L R n ce sl) : EV g y cc nL ret rm Z pc lv (.ref x :: st) sh I L R n ce sl := by
  subst hp
  subst hs
  intro p e s m args below meth c H locs ls hC hH hl hq
  exact lv_astore_n hC.1 hC.2.1 hdg hi (ma_lv_has hl) hn rfl (fun ls' hl' => k p e s m args below meth c H locs ls' hC hH (ma_lv_set1 rfl hg hl') hq)
theorem ev_astore {i : Nat} {x : Nat} {lv' : List (Option Value)} (hdg : decode cc pc = .ok (.astore i, 2)) (hp : pc + 2 = pc') (hn : i < nL) (hg : ma_lq lv i = true) (hs : (lv.set i (some (.ref x))) = lv') (k : EV g y cc nL ret rm Z pc' lv' st sh I L R n ce sl) : EV g y cc nL ret rm Z pc lv (.ref x :: st) sh I L R n ce sl := by
  subst hp
  subst hs
  intro p e s m args below meth c H locs ls hC hH hl hq
  exact lv_astore hC.1 hC.2.1 hdg (ma_lv_has hl) hn rfl (fun ls' hl' => k p e s m args below meth c H locs ls' hC hH (ma_lv_set1 rfl hg hl') hq)
theorem ev_iinc {i : Nat} {n0 : Int} {x v : Int32} {lv' : List (Option Value)} (hdg : decode cc pc = .ok (.iinc i n0, 3)) (hp : pc + 3 = pc') (hx : lv[i]? = some (some (.int x))) (hv : x + Int32.ofInt n0 = v) (hn : i < nL) (hg : ma_lq lv i = true) (hs : lv.set i (some (.int v)) = lv') (k : EV g y cc nL ret rm Z pc' lv' st sh I L R n ce sl) : EV g y cc nL ret rm Z pc lv st sh I L R n ce sl := by
  subst hp
  subst hs
  intro p e s m args below meth c H locs ls hC hH hl hq
  obtain ⟨k0, hk0⟩ := List.getElem?_of_mem ((ma_la_mem (g := g) lv 0 (i, .int x)).mpr ⟨i, .int x, hx, by simp [ma_sv]⟩)
  exact lv_iinc hC.1 hC.2.1 hdg (ma_lv_has hl) hk0 hv hn rfl (fun ls' hl' => k p e s m args below meth c H locs ls' hC hH (ma_lv_set1 (v := .int v) rfl hg hl') hq)
theorem ev_iadd {x z v : Int32} (hdg : decode cc pc = .ok (.iadd, 1)) (hp : pc + 1 = pc') (hv : x + z = v) (k : EV g y cc nL ret rm Z pc' lv (.int v :: st) sh I L R n ce sl) : EV g y cc nL ret rm Z pc lv (.int z :: .int x :: st) sh I L R n ce sl := by
  subst hp
  subst hv
  intro p e s m args below meth c H locs ls hC hH hl hq
  exact lv_iadd hC.1 hC.2.1 hdg (k p e s m args below meth c H locs ls hC hH hl hq)
theorem ev_isub {x z v : Int32} (hdg : decode cc pc = .ok (.isub, 1)) (hp : pc + 1 = pc') (hv : x - z = v) (k : EV g y cc nL ret rm Z pc' lv (.int v :: st) sh I L R n ce sl) : EV g y cc nL ret rm Z pc lv (.int z :: .int x :: st) sh I L R n ce sl := by
  subst hp
  subst hv
  intro p e s m args below meth c H locs ls hC hH hl hq
  exact lv_isub hC.1 hC.2.1 hdg (k p e s m args below meth c H locs ls hC hH hl hq)
theorem ev_imul {x z v : Int32} (hdg : decode cc pc = .ok (.imul, 1)) (hp : pc + 1 = pc') (hv : x * z = v) (k : EV g y cc nL ret rm Z pc' lv (.int v :: st) sh I L R n ce sl) : EV g y cc nL ret rm Z pc lv (.int z :: .int x :: st) sh I L R n ce sl := by
  subst hp
  subst hv
  intro p e s m args below meth c H locs ls hC hH hl hq
  exact lv_imul hC.1 hC.2.1 hdg (k p e s m args below meth c H locs ls hC hH hl hq)
theorem ev_iand {x z v : Int32} (hdg : decode cc pc = .ok (.iand, 1)) (hp : pc + 1 = pc') (hv : x &&& z = v) (k : EV g y cc nL ret rm Z pc' lv (.int v :: st) sh I L R n ce sl) : EV g y cc nL ret rm Z pc lv (.int z :: .int x :: st) sh I L R n ce sl := by
  subst hp
  subst hv
  intro p e s m args below meth c H locs ls hC hH hl hq
  exact lv_iand hC.1 hC.2.1 hdg (k p e s m args below meth c H locs ls hC hH hl hq)
theorem ev_ishl {x z v : Int32} (hdg : decode cc pc = .ok (.ishl, 1)) (hp : pc + 1 = pc') (hv : x <<< (z &&& 31) = v) (k : EV g y cc nL ret rm Z pc' lv (.int v :: st) sh I L R n ce sl) : EV g y cc nL ret rm Z pc lv (.int z :: .int x :: st) sh I L R n ce sl := by
  subst hp
  subst hv
  intro p e s m args below meth c H locs ls hC hH hl hq
  exact lv_ishl hC.1 hC.2.1 hdg (k p e s m args below meth c H locs ls hC hH hl hq)
theorem ev_ishr {x z v : Int32} (hdg : decode cc pc = .ok (.ishr, 1)) (hp : pc + 1 = pc') (hv : x >>> (z &&& 31) = v) (k : EV g y cc nL ret rm Z pc' lv (.int v :: st) sh I L R n ce sl) : EV g y cc nL ret rm Z pc lv (.int z :: .int x :: st) sh I L R n ce sl := by
  subst hp
  subst hv
  intro p e s m args below meth c H locs ls hC hH hl hq
  exact lv_ishr hC.1 hC.2.1 hdg (k p e s m args below meth c H locs ls hC hH hl hq)
theorem ev_ladd {x z v : Int64} (hdg : decode cc pc = .ok (.ladd, 1)) (hp : pc + 1 = pc') (hv : x + z = v) (k : EV g y cc nL ret rm Z pc' lv (.long v :: st) sh I L R n ce sl) : EV g y cc nL ret rm Z pc lv (.long z :: .long x :: st) sh I L R n ce sl := by
  subst hp
  subst hv
  intro p e s m args below meth c H locs ls hC hH hl hq
  exact lv_ladd hC.1 hC.2.1 hdg (k p e s m args below meth c H locs ls hC hH hl hq)
theorem ev_lsub {x z v : Int64} (hdg : decode cc pc = .ok (.lsub, 1)) (hp : pc + 1 = pc') (hv : x - z = v) (k : EV g y cc nL ret rm Z pc' lv (.long v :: st) sh I L R n ce sl) : EV g y cc nL ret rm Z pc lv (.long z :: .long x :: st) sh I L R n ce sl := by
  subst hp
  subst hv
  intro p e s m args below meth c H locs ls hC hH hl hq
  exact lv_lsub hC.1 hC.2.1 hdg (k p e s m args below meth c H locs ls hC hH hl hq)
theorem ev_lmul {x z v : Int64} (hdg : decode cc pc = .ok (.lmul, 1)) (hp : pc + 1 = pc') (hv : x * z = v) (k : EV g y cc nL ret rm Z pc' lv (.long v :: st) sh I L R n ce sl) : EV g y cc nL ret rm Z pc lv (.long z :: .long x :: st) sh I L R n ce sl := by
  subst hp
  subst hv
  intro p e s m args below meth c H locs ls hC hH hl hq
  exact lv_lmul hC.1 hC.2.1 hdg (k p e s m args below meth c H locs ls hC hH hl hq)
theorem ev_land {x z v : Int64} (hdg : decode cc pc = .ok (.land, 1)) (hp : pc + 1 = pc') (hv : x &&& z = v) (k : EV g y cc nL ret rm Z pc' lv (.long v :: st) sh I L R n ce sl) : EV g y cc nL ret rm Z pc lv (.long z :: .long x :: st) sh I L R n ce sl := by
  subst hp
  subst hv
  intro p e s m args below meth c H locs ls hC hH hl hq
  exact lv_land hC.1 hC.2.1 hdg (k p e s m args below meth c H locs ls hC hH hl hq)
theorem ev_idiv {x z v : Int32} (hdg : decode cc pc = .ok (.idiv, 1)) (hp : pc + 1 = pc') (hne : ¬ z = 0) (hv : x / z = v) (k : EV g y cc nL ret rm Z pc' lv (.int v :: st) sh I L R n ce sl) : EV g y cc nL ret rm Z pc lv (.int z :: .int x :: st) sh I L R n ce sl := by
  subst hp
  subst hv
  intro p e s m args below meth c H locs ls hC hH hl hq
  exact lv_idiv hC.1 hC.2.1 hdg hne (k p e s m args below meth c H locs ls hC hH hl hq)
theorem ev_irem {x z v : Int32} (hdg : decode cc pc = .ok (.irem, 1)) (hp : pc + 1 = pc') (hne : ¬ z = 0) (hv : x - x / z * z = v) (k : EV g y cc nL ret rm Z pc' lv (.int v :: st) sh I L R n ce sl) : EV g y cc nL ret rm Z pc lv (.int z :: .int x :: st) sh I L R n ce sl := by
  subst hp
  subst hv
  intro p e s m args below meth c H locs ls hC hH hl hq
  exact lv_irem hC.1 hC.2.1 hdg hne (k p e s m args below meth c H locs ls hC hH hl hq)
theorem ev_ldiv {x z v : Int64} (hdg : decode cc pc = .ok (.ldiv, 1)) (hp : pc + 1 = pc') (hne : ¬ z = 0) (hv : x / z = v) (k : EV g y cc nL ret rm Z pc' lv (.long v :: st) sh I L R n ce sl) : EV g y cc nL ret rm Z pc lv (.long z :: .long x :: st) sh I L R n ce sl := by
  subst hp
  subst hv
  intro p e s m args below meth c H locs ls hC hH hl hq
  exact lv_ldiv hC.1 hC.2.1 hdg hne (k p e s m args below meth c H locs ls hC hH hl hq)
theorem ev_lrem {x z v : Int64} (hdg : decode cc pc = .ok (.lrem, 1)) (hp : pc + 1 = pc') (hne : ¬ z = 0) (hv : x - x / z * z = v) (k : EV g y cc nL ret rm Z pc' lv (.long v :: st) sh I L R n ce sl) : EV g y cc nL ret rm Z pc lv (.long z :: .long x :: st) sh I L R n ce sl := by
  subst hp
  subst hv
  intro p e s m args below meth c H locs ls hC hH hl hq
  exact lv_lrem hC.1 hC.2.1 hdg hne (k p e s m args below meth c H locs ls hC hH hl hq)
theorem ev_ineg {x v : Int32} (hdg : decode cc pc = .ok (.ineg, 1)) (hp : pc + 1 = pc') (hv : -x = v) (k : EV g y cc nL ret rm Z pc' lv (.int v :: st) sh I L R n ce sl) : EV g y cc nL ret rm Z pc lv (.int x :: st) sh I L R n ce sl := by
  subst hp
  subst hv
  intro p e s m args below meth c H locs ls hC hH hl hq
  exact lv_ineg hC.1 hC.2.1 hdg (k p e s m args below meth c H locs ls hC hH hl hq)
theorem ev_lneg {x v : Int64} (hdg : decode cc pc = .ok (.lneg, 1)) (hp : pc + 1 = pc') (hv : -x = v) (k : EV g y cc nL ret rm Z pc' lv (.long v :: st) sh I L R n ce sl) : EV g y cc nL ret rm Z pc lv (.long x :: st) sh I L R n ce sl := by
  subst hp
  subst hv
  intro p e s m args below meth c H locs ls hC hH hl hq
  exact lv_lneg hC.1 hC.2.1 hdg (k p e s m args below meth c H locs ls hC hH hl hq)
theorem ev_lushr {x v : Int64} {z : Int32} (hdg : decode cc pc = .ok (.lushr, 1)) (hp : pc + 1 = pc') (hv : (x.toUInt64 >>> (z.toInt64.toUInt64 &&& Int64.toUInt64 63)).toInt64 = v) (k : EV g y cc nL ret rm Z pc' lv (.long v :: st) sh I L R n ce sl) : EV g y cc nL ret rm Z pc lv (.int z :: .long x :: st) sh I L R n ce sl := by
  subst hp
  intro p e s m args below meth c H locs ls hC hH hl hq
  exact lv_lushr hC.1 hC.2.1 hdg hv (k p e s m args below meth c H locs ls hC hH hl hq)
theorem ev_lcmp {x z : Int64} {v : Int32} (hdg : decode cc pc = .ok (.lcmp, 1)) (hp : pc + 1 = pc') (hv : lg_cmp x z = v) (k : EV g y cc nL ret rm Z pc' lv (.int v :: st) sh I L R n ce sl) : EV g y cc nL ret rm Z pc lv (.long z :: .long x :: st) sh I L R n ce sl := by
  subst hp
  subst hv
  intro p e s m args below meth c H locs ls hC hH hl hq
  exact W.lcmp hC.1 hC.2.1 hdg (k p e s m args below meth c H locs ls hC hH hl hq)
theorem ev_i2l {x : Int32} {v : Int64} (hdg : decode cc pc = .ok (.i2l, 1)) (hp : pc + 1 = pc') (hv : x.toInt64 = v) (k : EV g y cc nL ret rm Z pc' lv (.long v :: st) sh I L R n ce sl) : EV g y cc nL ret rm Z pc lv (.int x :: st) sh I L R n ce sl := by
  subst hp
  intro p e s m args below meth c H locs ls hC hH hl hq
  exact lv_i2l hC.1 hC.2.1 hdg hv (k p e s m args below meth c H locs ls hC hH hl hq)
theorem ev_l2i {x : Int64} {v : Int32} (hdg : decode cc pc = .ok (.l2i, 1)) (hp : pc + 1 = pc') (hv : x.toInt32 = v) (k : EV g y cc nL ret rm Z pc' lv (.int v :: st) sh I L R n ce sl) : EV g y cc nL ret rm Z pc lv (.long x :: st) sh I L R n ce sl := by
  subst hp
  intro p e s m args below meth c H locs ls hC hH hl hq
  exact lv_l2i hC.1 hC.2.1 hdg hv (k p e s m args below meth c H locs ls hC hH hl hq)
theorem ev_dup {v : Value} (hdg : decode cc pc = .ok (.dup, 1)) (hp : pc + 1 = pc') (hc : v.category = 1) (k : EV g y cc nL ret rm Z pc' lv (v :: v :: st) sh I L R n ce sl) : EV g y cc nL ret rm Z pc lv (v :: st) sh I L R n ce sl := by
  subst hp
  intro p e s m args below meth c H locs ls hC hH hl hq
  exact lv_dup hC.1 hC.2.1 hdg ((ma_sv_cat g v).trans hc) (k p e s m args below meth c H locs ls hC hH hl hq)
theorem ev_dup2 {v w : Value} (hdg : decode cc pc = .ok (.dup2, 1)) (hp : pc + 1 = pc') (hc : v.category = 1) (hc2 : w.category = 1) (k : EV g y cc nL ret rm Z pc' lv (v :: w :: v :: w :: st) sh I L R n ce sl) : EV g y cc nL ret rm Z pc lv (v :: w :: st) sh I L R n ce sl := by
  subst hp
  intro p e s m args below meth c H locs ls hC hH hl hq
  exact lv_dup2_11 hC.1 hC.2.1 hdg ((ma_sv_cat g v).trans hc) ((ma_sv_cat g w).trans hc2) (k p e s m args below meth c H locs ls hC hH hl hq)
theorem ev_if_eq {x : Int32} {off : Int} {tgt : Nat} (hdg : decode cc pc = .ok (.ifCond .eq off, 3)) (ht : (pc : Int) + off = (tgt : Int)) (hp : pc + 3 = pc') (kt : x = 0 → EV g y cc nL ret rm Z tgt lv st sh I L R n ce sl) (kf : ¬ x = 0 → EV g y cc nL ret rm Z pc' lv st sh I L R n ce sl) : EV g y cc nL ret rm Z pc lv (.int x :: st) sh I L R n ce sl := by
  subst hp
  intro p e s m args below meth c H locs ls hC hH hl hq
  exact lv_if_eq hC.1 hC.2.1 hdg ht (fun h => kt h p e s m args below meth c H locs ls hC hH hl hq) (fun h => kf h p e s m args below meth c H locs ls hC hH hl hq)
theorem ev_icmp_eq {x z : Int32} {off : Int} {tgt : Nat} (hdg : decode cc pc = .ok (.if_icmp .eq off, 3)) (ht : (pc : Int) + off = (tgt : Int)) (hp : pc + 3 = pc') (kt : x = z → EV g y cc nL ret rm Z tgt lv st sh I L R n ce sl) (kf : ¬ x = z → EV g y cc nL ret rm Z pc' lv st sh I L R n ce sl) : EV g y cc nL ret rm Z pc lv (.int z :: .int x :: st) sh I L R n ce sl := by
  subst hp
  intro p e s m args below meth c H locs ls hC hH hl hq
  exact lv_icmp_eq hC.1 hC.2.1 hdg ht (fun h => kt h p e s m args below meth c H locs ls hC hH hl hq) (fun h => kf h p e s m args below meth c H locs ls hC hH hl hq)
theorem ev_if_ne {x : Int32} {off : Int} {tgt : Nat} (hdg : decode cc pc = .ok (.ifCond .ne off, 3)) (ht : (pc : Int) + off = (tgt : Int)) (hp : pc + 3 = pc') (kt : ¬ x = 0 → EV g y cc nL ret rm Z tgt lv st sh I L R n ce sl) (kf : x = 0 → EV g y cc nL ret rm Z pc' lv st sh I L R n ce sl) : EV g y cc nL ret rm Z pc lv (.int x :: st) sh I L R n ce sl := by
  subst hp
  intro p e s m args below meth c H locs ls hC hH hl hq
  exact lv_if_ne hC.1 hC.2.1 hdg ht (fun h => kt h p e s m args below meth c H locs ls hC hH hl hq) (fun h => kf h p e s m args below meth c H locs ls hC hH hl hq)
theorem ev_icmp_ne {x z : Int32} {off : Int} {tgt : Nat} (hdg : decode cc pc = .ok (.if_icmp .ne off, 3)) (ht : (pc : Int) + off = (tgt : Int)) (hp : pc + 3 = pc') (kt : ¬ x = z → EV g y cc nL ret rm Z tgt lv st sh I L R n ce sl) (kf : x = z → EV g y cc nL ret rm Z pc' lv st sh I L R n ce sl) : EV g y cc nL ret rm Z pc lv (.int z :: .int x :: st) sh I L R n ce sl := by
  subst hp
  intro p e s m args below meth c H locs ls hC hH hl hq
  exact lv_icmp_ne hC.1 hC.2.1 hdg ht (fun h => kt h p e s m args below meth c H locs ls hC hH hl hq) (fun h => kf h p e s m args below meth c H locs ls hC hH hl hq)
theorem ev_if_lt {x : Int32} {off : Int} {tgt : Nat} (hdg : decode cc pc = .ok (.ifCond .lt off, 3)) (ht : (pc : Int) + off = (tgt : Int)) (hp : pc + 3 = pc') (kt : x < 0 → EV g y cc nL ret rm Z tgt lv st sh I L R n ce sl) (kf : ¬ x < 0 → EV g y cc nL ret rm Z pc' lv st sh I L R n ce sl) : EV g y cc nL ret rm Z pc lv (.int x :: st) sh I L R n ce sl := by
  subst hp
  intro p e s m args below meth c H locs ls hC hH hl hq
  exact lv_if_lt hC.1 hC.2.1 hdg ht (fun h => kt h p e s m args below meth c H locs ls hC hH hl hq) (fun h => kf h p e s m args below meth c H locs ls hC hH hl hq)
theorem ev_icmp_lt {x z : Int32} {off : Int} {tgt : Nat} (hdg : decode cc pc = .ok (.if_icmp .lt off, 3)) (ht : (pc : Int) + off = (tgt : Int)) (hp : pc + 3 = pc') (kt : x < z → EV g y cc nL ret rm Z tgt lv st sh I L R n ce sl) (kf : ¬ x < z → EV g y cc nL ret rm Z pc' lv st sh I L R n ce sl) : EV g y cc nL ret rm Z pc lv (.int z :: .int x :: st) sh I L R n ce sl := by
  subst hp
  intro p e s m args below meth c H locs ls hC hH hl hq
  exact lv_icmp_lt hC.1 hC.2.1 hdg ht (fun h => kt h p e s m args below meth c H locs ls hC hH hl hq) (fun h => kf h p e s m args below meth c H locs ls hC hH hl hq)
theorem ev_if_ge {x : Int32} {off : Int} {tgt : Nat} (hdg : decode cc pc = .ok (.ifCond .ge off, 3)) (ht : (pc : Int) + off = (tgt : Int)) (hp : pc + 3 = pc') (kt : 0 ≤ x → EV g y cc nL ret rm Z tgt lv st sh I L R n ce sl) (kf : ¬ 0 ≤ x → EV g y cc nL ret rm Z pc' lv st sh I L R n ce sl) : EV g y cc nL ret rm Z pc lv (.int x :: st) sh I L R n ce sl := by
  subst hp
  intro p e s m args below meth c H locs ls hC hH hl hq
  exact lv_if_ge hC.1 hC.2.1 hdg ht (fun h => kt h p e s m args below meth c H locs ls hC hH hl hq) (fun h => kf h p e s m args below meth c H locs ls hC hH hl hq)
theorem ev_icmp_ge {x z : Int32} {off : Int} {tgt : Nat} (hdg : decode cc pc = .ok (.if_icmp .ge off, 3)) (ht : (pc : Int) + off = (tgt : Int)) (hp : pc + 3 = pc') (kt : z ≤ x → EV g y cc nL ret rm Z tgt lv st sh I L R n ce sl) (kf : ¬ z ≤ x → EV g y cc nL ret rm Z pc' lv st sh I L R n ce sl) : EV g y cc nL ret rm Z pc lv (.int z :: .int x :: st) sh I L R n ce sl := by
  subst hp
  intro p e s m args below meth c H locs ls hC hH hl hq
  exact lv_icmp_ge hC.1 hC.2.1 hdg ht (fun h => kt h p e s m args below meth c H locs ls hC hH hl hq) (fun h => kf h p e s m args below meth c H locs ls hC hH hl hq)
theorem ev_if_gt {x : Int32} {off : Int} {tgt : Nat} (hdg : decode cc pc = .ok (.ifCond .gt off, 3)) (ht : (pc : Int) + off = (tgt : Int)) (hp : pc + 3 = pc') (kt : 0 < x → EV g y cc nL ret rm Z tgt lv st sh I L R n ce sl) (kf : ¬ 0 < x → EV g y cc nL ret rm Z pc' lv st sh I L R n ce sl) : EV g y cc nL ret rm Z pc lv (.int x :: st) sh I L R n ce sl := by
  subst hp
  intro p e s m args below meth c H locs ls hC hH hl hq
  exact lv_if_gt hC.1 hC.2.1 hdg ht (fun h => kt h p e s m args below meth c H locs ls hC hH hl hq) (fun h => kf h p e s m args below meth c H locs ls hC hH hl hq)
theorem ev_icmp_gt {x z : Int32} {off : Int} {tgt : Nat} (hdg : decode cc pc = .ok (.if_icmp .gt off, 3)) (ht : (pc : Int) + off = (tgt : Int)) (hp : pc + 3 = pc') (kt : z < x → EV g y cc nL ret rm Z tgt lv st sh I L R n ce sl) (kf : ¬ z < x → EV g y cc nL ret rm Z pc' lv st sh I L R n ce sl) : EV g y cc nL ret rm Z pc lv (.int z :: .int x :: st) sh I L R n ce sl := by
  subst hp
  intro p e s m args below meth c H locs ls hC hH hl hq
  exact lv_icmp_gt hC.1 hC.2.1 hdg ht (fun h => kt h p e s m args below meth c H locs ls hC hH hl hq) (fun h => kf h p e s m args below meth c H locs ls hC hH hl hq)
theorem ev_if_le {x : Int32} {off : Int} {tgt : Nat} (hdg : decode cc pc = .ok (.ifCond .le off, 3)) (ht : (pc : Int) + off = (tgt : Int)) (hp : pc + 3 = pc') (kt : x ≤ 0 → EV g y cc nL ret rm Z tgt lv st sh I L R n ce sl) (kf : ¬ x ≤ 0 → EV g y cc nL ret rm Z pc' lv st sh I L R n ce sl) : EV g y cc nL ret rm Z pc lv (.int x :: st) sh I L R n ce sl := by
  subst hp
  intro p e s m args below meth c H locs ls hC hH hl hq
  exact lv_if_le hC.1 hC.2.1 hdg ht (fun h => kt h p e s m args below meth c H locs ls hC hH hl hq) (fun h => kf h p e s m args below meth c H locs ls hC hH hl hq)
theorem ev_icmp_le {x z : Int32} {off : Int} {tgt : Nat} (hdg : decode cc pc = .ok (.if_icmp .le off, 3)) (ht : (pc : Int) + off = (tgt : Int)) (hp : pc + 3 = pc') (kt : x ≤ z → EV g y cc nL ret rm Z tgt lv st sh I L R n ce sl) (kf : ¬ x ≤ z → EV g y cc nL ret rm Z pc' lv st sh I L R n ce sl) : EV g y cc nL ret rm Z pc lv (.int z :: .int x :: st) sh I L R n ce sl := by
  subst hp
  intro p e s m args below meth c H locs ls hC hH hl hq
  exact lv_icmp_le hC.1 hC.2.1 hdg ht (fun h => kt h p e s m args below meth c H locs ls hC hH hl hq) (fun h => kf h p e s m args below meth c H locs ls hC hH hl hq)
theorem ev_goto {off : Int} {tgt : Nat} (hdg : decode cc pc = .ok (.goto off, 3)) (ht : (pc : Int) + off = (tgt : Int)) (k : EV g y cc nL ret rm Z tgt lv st sh I L R n ce sl) : EV g y cc nL ret rm Z pc lv st sh I L R n ce sl := by
  intro p e s m args below meth c H locs ls hC hH hl hq
  exact lv_goto hC.1 hC.2.1 hdg ht (k p e s m args below meth c H locs ls hC hH hl hq)
theorem ev_tswIn {dflt lo hi : Int} {offs : Array Int} {len : Nat} {x : Int32} {off : Int} {tgt : Nat} (hdg : decode cc pc = .ok (.tableswitch dflt lo hi offs, len)) (h1 : ¬ x.toInt < lo) (h2 : ¬ hi < x.toInt) (ho : offs[(x.toInt - lo).toNat]? = some off) (ht : (pc : Int) + off = (tgt : Int)) (k : EV g y cc nL ret rm Z tgt lv st sh I L R n ce sl) : EV g y cc nL ret rm Z pc lv (.int x :: st) sh I L R n ce sl := by
  intro p e s m args below meth c H locs ls hC hH hl hq
  exact lv_tableIn hC.1 hC.2.1 hdg h1 h2 ho ht (k p e s m args below meth c H locs ls hC hH hl hq)
theorem ev_tswOut {dflt lo hi : Int} {offs : Array Int} {len : Nat} {x : Int32} {tgt : Nat} (hdg : decode cc pc = .ok (.tableswitch dflt lo hi offs, len)) (h : x.toInt < lo ∨ hi < x.toInt) (ht : (pc : Int) + dflt = (tgt : Int)) (k : EV g y cc nL ret rm Z tgt lv st sh I L R n ce sl) : EV g y cc nL ret rm Z pc lv (.int x :: st) sh I L R n ce sl := by
  intro p e s m args below meth c H locs ls hC hH hl hq
  exact lv_tableOut hC.1 hC.2.1 hdg h ht (k p e s m args below meth c H locs ls hC hH hl hq)
theorem ev_topi {x : Int32} (k : ∀ z : Int32, z = x → EV g y cc nL ret rm Z pc lv (.int z :: st) sh I L R n ce sl) : EV g y cc nL ret rm Z pc lv (.int x :: st) sh I L R n ce sl := k x rfl
theorem ev_topl {x : Int64} (k : ∀ z : Int64, z = x → EV g y cc nL ret rm Z pc lv (.long z :: st) sh I L R n ce sl) : EV g y cc nL ret rm Z pc lv (.long x :: st) sh I L R n ce sl := k x rfl
end Rules
