def cAb (v : Int32) : Int32 := if 0 ≤ v then v else -v
theorem cAb_0 (x : Int32) : (if 0 ≤ x then x else 0 - x) = cAb x := by unfold cAb; rw [Int32.zero_sub]
theorem mAb_0 (x : Int64) : (if 0 < x then x else -x) = mAb x := by
  unfold mAb
  by_cases h : 0 < x
  · rw [if_pos h, if_pos (Int64.le_of_lt h)]
  · rw [if_neg h]
    by_cases h2 : 0 ≤ x
    · rw [if_pos h2]
      have e : x = 0 := by rw [nb_eqL, nb_0L]; rw [nb_ltL, nb_0L] at h; rw [nb_leL, nb_0L] at h2; omega
      rw [e]; rfl
    · rw [if_neg h2]
theorem ev_mmax {g : ma_G} {y : MethodName} {cc : ByteArray} {nL : Nat} {ret : Option FieldType} {rm : Room} {Z : ma_Z} {pc pc' : Nat} {lv : List (Option Value)} {st : List Value} {sh : ma_S} {I : ma_I} {L : ma_L} {R : ma_R} {n ce sl : Nat} {idx : Nat} {x z : Int32} (hco : ma_CO y.cls idx yJ9_max_7cf53 cJ9_max_7cf53 2 (some .int) 2) (hst : Cond.static yJ9_max_7cf53 ∈ lw_tbl) (hpr : Cond.methodLink y.cls idx yJ9_max_7cf53 ∈ lw_tbl) (hdg : decode cc pc = .ok (.invokestatic idx, 3)) (hp : pc + 3 = pc') (hf : 1 ≤ rm.frames) (hlo : (st.map fun v => v.category).sum + 13 ≤ rm.locals) (hro : ce ≤ rm.cells ∧ sl ≤ rm.slots) (k : EV g y cc nL ret rm Z pc' lv (.int (if x < z then z else x) :: st) sh I L R n ce sl) : EV g y cc nL ret rm Z pc lv (.int z :: .int x :: st) sh I L R n ce sl := by
  subst hp
  intro p e s m args below meth c H locs ls hC hH hl hq
  have hKN := hC.2.2.2.2.2.1
  obtain ⟨h1, h2, h3, h4, h5⟩ := hco
  refine va_mmax hC.1 hC.2.1 (hC.2.2.2.1.trans hl.1.symm) (own := y.cls) (index := idx) hC.2.2.2.2.1 (hKN.use hpr rfl) (hKN.use hst rfl) (hKN.use h2 rfl) (hKN.use h1 rfl) hf (by rw [ma_catsum]; exact hlo) hro.1 hro.2 hdg ?_
  exact k p e s m args below meth c H locs ls hC hH hl hq
theorem ev_mmin {g : ma_G} {y : MethodName} {cc : ByteArray} {nL : Nat} {ret : Option FieldType} {rm : Room} {Z : ma_Z} {pc pc' : Nat} {lv : List (Option Value)} {st : List Value} {sh : ma_S} {I : ma_I} {L : ma_L} {R : ma_R} {n ce sl : Nat} {idx : Nat} {x z : Int32} (hco : ma_CO y.cls idx yJ9_min_7cf53 cJ9_min_7cf53 2 (some .int) 2) (hst : Cond.static yJ9_min_7cf53 ∈ lw_tbl) (hpr : Cond.methodLink y.cls idx yJ9_min_7cf53 ∈ lw_tbl) (hdg : decode cc pc = .ok (.invokestatic idx, 3)) (hp : pc + 3 = pc') (hf : 1 ≤ rm.frames) (hlo : (st.map fun v => v.category).sum + 13 ≤ rm.locals) (hro : ce ≤ rm.cells ∧ sl ≤ rm.slots) (k : EV g y cc nL ret rm Z pc' lv (.int (if z < x then z else x) :: st) sh I L R n ce sl) : EV g y cc nL ret rm Z pc lv (.int z :: .int x :: st) sh I L R n ce sl := by
  subst hp
  intro p e s m args below meth c H locs ls hC hH hl hq
  have hKN := hC.2.2.2.2.2.1
  obtain ⟨h1, h2, h3, h4, h5⟩ := hco
  refine va_mmin hC.1 hC.2.1 (hC.2.2.2.1.trans hl.1.symm) (own := y.cls) (index := idx) hC.2.2.2.2.1 (hKN.use hpr rfl) (hKN.use hst rfl) (hKN.use h2 rfl) (hKN.use h1 rfl) hf (by rw [ma_catsum]; exact hlo) hro.1 hro.2 hdg ?_
  exact k p e s m args below meth c H locs ls hC hH hl hq
theorem ev_mabs {g : ma_G} {y : MethodName} {cc : ByteArray} {nL : Nat} {ret : Option FieldType} {rm : Room} {Z : ma_Z} {pc pc' : Nat} {lv : List (Option Value)} {st : List Value} {sh : ma_S} {I : ma_I} {L : ma_L} {R : ma_R} {n ce sl : Nat} {idx : Nat} {x : Int32} (hco : ma_CO y.cls idx yJ9_abs_0f7a4 cJ9_abs_0f7a4 1 (some .int) 1) (hst : Cond.static yJ9_abs_0f7a4 ∈ lw_tbl) (hpr : Cond.methodLink y.cls idx yJ9_abs_0f7a4 ∈ lw_tbl) (hdg : decode cc pc = .ok (.invokestatic idx, 3)) (hp : pc + 3 = pc') (hf : 1 ≤ rm.frames) (hlo : (st.map fun v => v.category).sum + 13 ≤ rm.locals) (hro : ce ≤ rm.cells ∧ sl ≤ rm.slots) (k : EV g y cc nL ret rm Z pc' lv (.int (cAb x) :: st) sh I L R n ce sl) : EV g y cc nL ret rm Z pc lv (.int x :: st) sh I L R n ce sl := by
  subst hp
  intro p e s m args below meth c H locs ls hC hH hl hq
  have hKN := hC.2.2.2.2.2.1
  obtain ⟨h1, h2, h3, h4, h5⟩ := hco
  refine va_mabs hC.1 hC.2.1 (hC.2.2.2.1.trans hl.1.symm) (own := y.cls) (index := idx) hC.2.2.2.2.1 (hKN.use hpr rfl) (hKN.use hst rfl) (hKN.use h2 rfl) (hKN.use h1 rfl) hf (by rw [ma_catsum]; exact hlo) hro.1 hro.2 hdg ?_
  rw [cAb_0]
  exact k p e s m args below meth c H locs ls hC hH hl hq
theorem ev_mabsl {g : ma_G} {y : MethodName} {cc : ByteArray} {nL : Nat} {ret : Option FieldType} {rm : Room} {Z : ma_Z} {pc pc' : Nat} {lv : List (Option Value)} {st : List Value} {sh : ma_S} {I : ma_I} {L : ma_L} {R : ma_R} {n ce sl : Nat} {idx : Nat} {x : Int64} (hco : ma_CO y.cls idx yJ9_abs_067f4 cJ9_abs_067f4 2 (some .long) 1) (hst : Cond.static yJ9_abs_067f4 ∈ lw_tbl) (hpr : Cond.methodLink y.cls idx yJ9_abs_067f4 ∈ lw_tbl) (hdg : decode cc pc = .ok (.invokestatic idx, 3)) (hp : pc + 3 = pc') (hf : 1 ≤ rm.frames) (hlo : (st.map fun v => v.category).sum + 13 ≤ rm.locals) (hro : ce ≤ rm.cells ∧ sl ≤ rm.slots) (k : EV g y cc nL ret rm Z pc' lv (.long (mAb x) :: st) sh I L R n ce sl) : EV g y cc nL ret rm Z pc lv (.long x :: st) sh I L R n ce sl := by
  subst hp
  intro p e s m args below meth c H locs ls hC hH hl hq
  have hKN := hC.2.2.2.2.2.1
  obtain ⟨h1, h2, h3, h4, h5⟩ := hco
  refine va_mabs_long hC.1 hC.2.1 (hC.2.2.2.1.trans hl.1.symm) (own := y.cls) (index := idx) hC.2.2.2.2.1 (hKN.use hpr rfl) (hKN.use hst rfl) (hKN.use h2 rfl) (hKN.use h1 rfl) hf (by rw [ma_catsum]; exact hlo) hro.1 hro.2 hdg ?_
  rw [mAb_0]
  exact k p e s m args below meth c H locs ls hC hH hl hq
