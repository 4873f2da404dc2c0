/-! ===== the machine as this claim sees it: addresses by number, three tables of contents, a judgement EV, a contract CT ===== -/
/-- launch; class ids and slots; array classes; where the new cells begin; the heap at the law's entry; the old cells (0 the script, 1 ROW_OF, 2 COLUMN_OF); the script's length, its ints -/
abbrev ma_G : Type := Launch × va_G × (Nat → ClassId) × Nat × Heap × (Nat → Nat) × Nat × (Nat → Int32)
def ma_up {α : Type} (f : Nat → α) (k : Nat) (v : α) : Nat → α := fun j => if j = k then v else f j
theorem ma_up_s {α : Type} (f : Nat → α) (k : Nat) (v : α) : ma_up f k v k = v := by simp [ma_up]
theorem ma_up_n {α : Type} (f : Nat → α) {k j : Nat} (v : α) (h : j ≠ k) : ma_up f k v j = f j := by simp [ma_up, h]
theorem ma_up_up {α : Type} (f : Nat → α) (k : Nat) (v w : α) : ma_up (ma_up f k v) k w = ma_up f k w := by
  funext j
  by_cases h : j = k <;> simp [ma_up, h]
theorem ma_up_self {α : Type} (f : Nat → α) (k : Nat) : ma_up f k (f k) = f := by
  funext j
  by_cases h : j = k <;> simp [ma_up, h]
theorem ma_up_comm {α : Type} (f : Nat → α) {k j : Nat} (h : j ≠ k) (v w : α) : ma_up (ma_up f k v) j w = ma_up (ma_up f j w) k v := by
  funext i
  by_cases h1 : i = k
  · subst h1; simp [ma_up, Ne.symm h]
  · by_cases h2 : i = j
    · subst h2; simp [ma_up, h1]
    · simp [ma_up, h1, h2]
def ma_ad (g : ma_G) (a : Nat) : Nat := if a < 3 then g.2.2.2.2.2.1 a else g.2.2.2.1 + (a - 3)
def ma_sv (g : ma_G) (v : Value) : Value := match v with
  | .ref a => .ref (ma_ad g a)
  | v => v
def ma_rf (g : ma_G) (o : Option Nat) : Value := match o with
  | none => .null
  | some a => .ref (ma_ad g a)
def ma_rv (o : Option Nat) : Value := match o with
  | none => .null
  | some a => .ref a
theorem ma_sv_rv (g : ma_G) (o : Option Nat) : ma_sv g (ma_rv o) = ma_rf g o := by cases o <;> rfl
theorem ma_sv_cat (g : ma_G) (v : Value) : (ma_sv g v).category = v.category := by cases v <;> rfl
def ma_ty (t k : Nat) : FieldType := match t with
  | 0 => tyX0 k
  | 1 => tyX1 k
  | 2 => tyX2 k
  | 3 => tyX3 k
  | 4 => tyX4 k
  | 5 => tyX5 k
  | 6 => tyX6 k
  | 7 => tyX7 k
  | 8 => tyX8 k
  | 9 => .int
  | 10 => .long
  | 11 => .boolean
  | 12 => .object "BentGrounds$Sheet"
  | _ => .object "BentGrounds$Ground"
def ma_kt (ty : FieldType) : Nat := match ty with
  | .int => 0
  | .boolean => 0
  | .long => 1
  | _ => 2
def ma_kd (t k : Nat) : Nat := ma_kt (ma_ty t k)
abbrev ma_S : Type := Nat → Nat × Nat
abbrev ma_I : Type := Nat → Nat → Int32
abbrev ma_L : Type := Nat → Nat → Int64
abbrev ma_R : Type := Nat → Nat → Option Nat
def ma_sl (g : ma_G) (sh : ma_S) (I : ma_I) (L : ma_L) (R : ma_R) (a k : Nat) : Value := match ma_kd (sh a).1 k with
  | 0 => .int (I a k)
  | 1 => .long (L a k)
  | _ => ma_rf g (R a k)
/-- the cell of a -/
def ma_CR (g : ma_G) (sh : ma_S) (I : ma_I) (L : ma_L) (R : ma_R) (H : Heap) (a : Nat) : Prop :=
  if (sh a).1 < 9 then ∃ r : vw_C, vwCl[(sh a).1]? = some r ∧ t_OB (ma_ad g a) (g.2.1.1 (sh a).1) r.2.2 (g.2.1.2 (sh a).1) H (ma_sl g sh I L R a)
  else H[ma_ad g a]? = some (arrV (g.2.2.1 (sh a).1) (sh a).2 (ma_sl g sh I L R a))
/-- the heap holds the tables -/
def ma_HR (g : ma_G) (sh : ma_S) (I : ma_I) (L : ma_L) (R : ma_R) (n : Nat) (H : Heap) : Prop :=
  H.size = g.2.2.2.1 + n ∧ (∀ q, q < g.2.2.2.1 → H[q]? = g.2.2.2.2.1[q]?) ∧ ∀ a, (sh a).1 < 14 → 3 ≤ a ∧ a < n + 3 ∧ ma_CR g sh I L R H a
def ma_nest : Cond → Bool
  | .fieldLinkNest .. => true
  | .methodLinkNest .. => true
  | w => goodWord w
def ma_gw (w : Cond) : Bool := ma_nest w && w.onTables
def ma_rows : Nat → Int32 := fun k => match k with
  | 0 => 0 | 1 => 0 | 2 => 0 | 3 => 0 | 4 => 1 | 5 => 1 | 6 => 1 | 7 => 2 | 8 => 2 | _ => 3
def ma_cols : Nat → Int32 := fun k => match k with
  | 0 => 0 | 1 => 1 | 2 => 2 | 3 => 3 | 4 => 1 | 5 => 2 | 6 => 3 | 7 => 2 | 8 => 3 | _ => 3
abbrev ma_A (g : ma_G) : Nat → Prop := fun q => g.2.2.2.1 ≤ q
/-- what the tables of a state say -/
def ma_KN (g : ma_G) (U : State) : Prop :=
  (∀ w ∈ lw_tbl, ma_gw w = true → va_Nw w U) ∧ (∀ (c : Nat) (q : vw_C), vwCl[c]? = some q → u_Kn U q.1 q.2.1 q.2.2 (g.2.1.1 c) (g.2.1.2 c)) ∧ (∀ t, 9 ≤ t → t < 14 → ArrOfT U (g.2.2.1 t) (ma_ty t 0) ∧ va_RA U (g.2.2.1 t) (ma_ty t 0)) ∧
  va_T .int (ma_ad g 1) 10 (fun k => .int (ma_rows k)) (ma_A g) U g.2.2.2.2.1 ∧ va_T .int (ma_ad g 2) 10 (fun k => .int (ma_cols k)) (ma_A g) U g.2.2.2.2.1 ∧
  va_Z "BentGrounds" "ROW_OF" "[I" (.ref (ma_ad g 1)) (ma_A g) U g.2.2.2.2.1 ∧ va_Z "BentGrounds" "COLUMN_OF" "[I" (.ref (ma_ad g 2)) (ma_A g) U g.2.2.2.2.1 ∧
  va_X (ma_ad g 0) g.2.2.2.2.2.2.1 g.2.2.2.2.2.2.2 U g.2.2.2.2.1 ∧ ma_ad g 0 < g.2.2.2.1 ∧ g.2.2.2.2.1.size = g.2.2.2.1 ∧
  ((∀ A : Array Value, (Cond.arrayClass .int).before A U = true) ∧ (∀ A : Array Value, (Cond.arrayClass .long).before A U = true) ∧ (∀ A : Array Value, (Cond.arrayClass .boolean).before A U = true)) ∧ va_AO "BentGrounds$Sheet" U ∧ va_AO "BentGrounds$Ground" U
theorem ma_KN.warm {g : ma_G} {s U : State} (hW : s.WarmedH U.vm) (h : ma_KN g s) : ma_KN g U := by
  obtain ⟨h1, h2, h3, h4, h5, h6, h7, h8, h9, h10, ⟨a1, a2, a3⟩, o1, o2⟩ := h
  have hvm := hW.alike
  refine ⟨fun w hw hg => ?_, fun c q hq => u_Kn_moved hvm (h2 c q hq), fun t a b => ⟨arrOfT_moved hvm (h3 t a b).1, (h3 t a b).2.moved hvm⟩, h4.moved hvm, h5.moved hvm, h6.moved hvm, h7.moved hvm, h8.moved hvm, h9, h10, ⟨fun A => word_at hW (Or.inr ⟨_, rfl⟩) (a1 #[]), fun A => word_at hW (Or.inr ⟨_, rfl⟩) (a2 #[]), fun A => word_at hW (Or.inr ⟨_, rfl⟩) (a3 #[])⟩, o1.moved hvm, o2.moved hvm⟩
  have h0 := h1 w hw hg
  unfold ma_gw at hg
  simp only [Bool.and_eq_true] at hg
  have hg1 := hg.1
  unfold ma_nest at hg1
  split at hg1
  · exact va_Nw.warmF hW h0
  · exact va_Nw.warmM hW h0
  · exact word_at hW (good_of_word hg1) h0
theorem ma_KN.same {g : ma_G} {u U : State} (hvm : u.vm = U.vm) (h : ma_KN g u) : ma_KN g U := ma_KN.warm (by rw [← hvm]; exact State.WarmedH.refl u) h
theorem ma_KN.use {g : ma_G} {U : State} (h : ma_KN g U) {w : Cond} (hw : w ∈ lw_tbl) (hg : ma_gw w = true) {A : Array Value} : w.before A U = true := by
  have h0 := h.1 w hw hg
  unfold ma_gw at hg
  simp only [Bool.and_eq_true] at hg
  exact va_Nw.use hg.2 h0
def ma_CX (g : ma_G) (y : MethodName) (cc : ByteArray) (nL : Nat) (ret : Option FieldType) (p : Program) (s : State) (m : MethodId) (meth : Method) (c : Code) : Prop :=
  p.tables.exec = Jvm.exec ∧ c.code = cc ∧ meth.sig.returnType = ret ∧ c.maxLocals = nL ∧ s.vm.findClass y.cls = some m.cls ∧ ma_KN g s ∧ meth.locks = false ∧ meth.name = y.name
def ma_LV (g : ma_G) (ls : Array Slot) (nL : Nat) (lv : List (Option Value)) : Prop := ls.size = nL ∧ lv_wf ls ∧ ∀ (i : Nat) (v : Value), lv[i]? = some (some v) → ls[i]? = some (.val (ma_sv g v))
abbrev ma_Z : Type := List Frame → Array Value → State → State → Prop
/-- from this frame, with these tables in the heap, the machine comes to Z -/
def EV (g : ma_G) (y : MethodName) (cc : ByteArray) (nL : Nat) (ret : Option FieldType) (rm : Room) (Z : ma_Z) (pc : Nat) (lv : List (Option Value)) (st : List Value) (sh : ma_S) (I : ma_I) (L : ma_L) (R : ma_R) (n ce sl : Nat) : Prop :=
  ∀ (p : Program) (e : Env) (s : State) (m : MethodId) (args : Array Value) (below : List Frame) (meth : Method) (c : Code) (H : Heap) (locs : List Loc) (ls : Array Slot),
    ma_CX g y cc nL ret p s m meth c → ma_HR g sh I L R n H → ma_LV g ls nL lv → (∀ q ∈ locs, g.2.2.2.1 ≤ q.base) →
    W p g.1 e rm s m args below meth c H locs ce sl (Z below args s) (F0 m pc ls (st.map (ma_sv g)))
abbrev ma_P : Type := Option Value → ma_S → ma_I → ma_L → ma_R → Nat → Prop
def ma_QC (g : ma_G) (Post : ma_P) : Array Value → State → Outcome → State → Prop := fun _ _ o t =>
  ∃ (r : Option Value) (sh : ma_S) (I : ma_I) (L : ma_L) (R : ma_R) (n : Nat), o = .returned (r.map (ma_sv g)) ∧ Post r sh I L R n ∧ ma_HR g sh I L R n t.heap ∧ ma_KN g t
def ma_PC (g : ma_G) (av : List Value) (sh : ma_S) (I : ma_I) (L : ma_L) (R : ma_R) (n : Nat) : Array Value → State → Prop := fun v U =>
  v = (av.map (ma_sv g)).toArray ∧ ma_HR g sh I L R n U.heap ∧ ma_KN g U
def ma_ZM (g : ma_G) (rm : Room) (Post : ma_P) : ma_Z := fun below args s => MQ below (ma_QC g Post) args s rm.cells rm.slots (ma_A g)
/-- a method's contract -/
def CT (g : ma_G) (y : MethodName) (cc : ByteArray) (nL : Nat) (ret : Option FieldType) (rm : Room) (av : List Value) (Post : ma_P) (sh : ma_S) (I : ma_I) (L : ma_L) (R : ma_R) (n : Nat) : Prop :=
  Met g.1 y [Cond.code y cc nL ret] rm (ma_PC g av sh I L R n) (ma_QC g Post) rm.cells rm.slots (ma_A g)
