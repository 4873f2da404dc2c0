/-! THE CLAIM OUT OF ONE WALK OF THE LAW'S BODY. Your part is whole_start (and what it stands on); all else here is the same for every law, but numbers. -/
def R_law : String := "BentGroundsLaw"
def lw_P (b : Addr) (xs : List Int32) (args : Array Value) (s : State) : Prop := args = #[.ref b] ∧ s.IntsAt b xs ∧ xs.length ≤ 3072 ∧ (Jvm.Cond.and given_1 narrow_1).before args s = true
def lw_Q (_ : Array Value) (s : State) (o : Outcome) (t : State) : Prop := o = .returned (some (.int 1)) ∧ Framed s o t [] 600000 7302250
def lw_Z (below : List Frame) (a : Array Value) (s : State) : State → Prop := fun t => ∃ o, t.status = .running ∧ Ended t below o ∧ lw_Q a s o t
/-- the law's own end, with 1 on the stack, nothing written that was there before, its room as the claim has it -/
theorem lw_ret {p : Program} {l : Launch} {e : Env} {s : State} {m : MethodId} {below : List Frame} {meth : Method} {c : Code} {b : Nat} (hx : p.tables.exec = Jvm.exec) (hb : c.code = code) (hr : meth.sig.returnType = ret) (hlocks : meth.locks = false) {pc : Nat} {H : Heap} {ls : Array Slot} (hdg : decode code pc = .ok (.ireturn, 1)) : W p l e room_1 s m #[Value.ref b] below meth c H [] 600000 7302250 (lw_Z below #[Value.ref b] s) (F0 m pc ls [.int 1]) := by
  intro T hT X
  obtain ⟨fs, hret, hrun, hended, hW, hframe⟩ := X.leave (v := some (.int 1)) (hlocks := hlocks) (fun h => by rw [hr] at h; cases h)
  have hmeth' : T.vm.method? m = some meth := X.method'
  refine ⟨T.setFrames fs, ?_, .returned (some (.int 1)), hrun, hended, rfl, ⟨_, rfl⟩, hW, hframe⟩
  jvm_step X.here [X.here.top, hx, hb, hdg, hmeth', hr, ret, narrow_b1]
  (try refine ⟨rfl, ?_⟩); (try refine ⟨rfl, ?_⟩)
  first | (intro acts; rw [hret _ acts rfl rfl rfl]) | rw [hret _ _ rfl rfl rfl]
  exact Steps.refl _
/-- what holds at the law's entry: the machine, the code, the tables' words (any of lw_tbl by 'hts w (by decide +kernel)'), the script of L ints xs at the cell b, what the Statement gives of the start (any of its parts by flat_of_before) -/
def lw_At (p : Program) (s : State) (m : MethodId) (meth : Method) (c : Code) (b L : Nat) (xs : Nat → Int32) : Prop :=
  p.tables.exec = Jvm.exec ∧ c.code = code ∧ meth.sig.returnType = ret ∧ c.maxLocals = 4 ∧ s.vm.findClass R_law = some m.cls ∧ (∀ w ∈ lw_tbl, w.before #[Value.ref b] s = true) ∧ va_X b L xs s s.heap ∧ b < s.heap.size ∧ meth.locks = false ∧ (Jvm.Cond.and given_1 narrow_1).before #[Value.ref b] s = true
abbrev yLn (nm : String) : MethodName := ⟨RL, nm, "([I)Z"⟩
theorem hsP_0 (a : Nat) : hsP 0 a = (99, 0) := by
  unfold hsP
  by_cases h : a < 0 + 3
  · rw [if_pos h]
    have : a = 0 ∨ a = 1 ∨ a = 2 := by omega
    rcases this with rfl | rfl | rfl <;> rfl
  · rw [if_neg h]
def lZ (g : ma_G) (b : Nat) : ma_Z := fun below args s t => args = #[Value.ref b] ∧ s.heap.size = g.2.2.2.1 → lw_Z below args s t
theorem law_end {g : ma_G} {nm : String} {b : Nat} {lv : List (Option Value)} {sh : ma_S} {I : ma_I} {L : ma_L} {R : ma_R} {n ce sl pc : Nat} (hce : ce ≤ 600000 ∧ sl ≤ 7302250) (hdg : decode code pc = .ok (.ireturn, 1)) : EV g (yLn nm) cL_law 4 (some .boolean) room_1 (lZ g b) pc lv [.int 1] sh I L R n ce sl := by
  intro p e s m args below meth c H locs ls hC hH hl hq
  by_cases ha : args = #[Value.ref b] ∧ s.heap.size = g.2.2.2.1
  · obtain ⟨rfl, hz⟩ := ha
    refine va_forget (fun q h => by rw [hz]; exact hq q h) ?_
    refine W.widen hce.1 hce.2 ?_
    have k := lw_ret (p := p) (l := g.1) (e := e) (s := s) (m := m) (below := below) (meth := meth) (c := c) (b := b) (H := H) (ls := ls) hC.1 hC.2.1 hC.2.2.1 hC.2.2.2.2.2.2.1 hdg
    intro T hT X
    obtain ⟨t, a1, b1⟩ := k T hT X
    exact ⟨t, a1, fun _ => b1⟩
  · intro T hT X
    exact ⟨_, Steps.refl _, fun h => absurd h ha⟩
theorem law_c {k N : Nat} (c : ¬ (nI N - 6) < nI (6 * k)) (hk : 6 * k ≤ N + 6) (hN : N ≤ 3072) : 6 * k + 6 ≤ N := by
  rw [nb_lt, nI_toInt (by omega), nb_subI (by rw [nI_toInt (by omega)]; have : (6 : Int32).toInt = 6 := (by decide); omega) (by rw [nI_toInt (by omega)]; have : (6 : Int32).toInt = 6 := (by decide); omega), nI_toInt (by omega)] at c
  have : (6 : Int32).toInt = 6 := by decide
  omega
theorem inv_0 {TX TY : Nat → Int32} {I7 I8 : ma_I} {L7 L8 : ma_L} (hTX : ∀ j, j ≤ 256 → TX j = mSb 0 1 8 j) (hTY : ∀ j, j ≤ 256 → TY j = mSb 1 0 8 j) (h7 : I7 = (cSz (cSz (cSz (cSz (cSz (cSz (cSz (cSz (ma_up (ma_up (fun _ _ => 0) 27 TX) 28 TY) 39) 41) 43) 45) 47) 49) 51) 53)) (l7 : L7 = (ma_up (fun _ _ => 0) 3 (ma_up ((fun _ _ => 0) 3) 15 1))) (h8 : I8 = (ma_up I7 117 (ma_up (ma_up (ma_up (ma_up (ma_up (ma_up (ma_up (ma_up (I7 117) 0 (-9)) 1 (-9)) 2 (-9)) 3 (-9)) 4 (-9)) 5 (-9)) 6 (-9)) 7 (-9)))) (l8 : L8 = (ma_up L7 115 (ma_up (L7 115) 4 1))) : INV I8 L8 := by
  have e117 : ∀ x, x < 8 → I8 117 x = -9 := fun x hx => by
    rw [h8, ma_up_s]
    match x, hx with
    | 0, _ => rfl
    | 1, _ => rfl
    | 2, _ => rfl
    | 3, _ => rfl
    | 4, _ => rfl
    | 5, _ => rfl
    | 6, _ => rfl
    | 7, _ => rfl
    | x + 8, h => exact absurd h (by omega)
  have eI : ∀ a, a ≠ 117 → a ≠ 27 → a ≠ 28 → (a < 39 ∨ 54 < a) → I8 a = fun _ => 0 := fun a q1 q2 q3 q4 => by
    rw [h8, ma_up_n _ _ q1, h7]
    unfold cSz
    rw [ma_up_n _ _ (show a ≠ 53 by omega), ma_up_n _ _ (show a ≠ 51 by omega), ma_up_n _ _ (show a ≠ 49 by omega), ma_up_n _ _ (show a ≠ 47 by omega), ma_up_n _ _ (show a ≠ 45 by omega), ma_up_n _ _ (show a ≠ 43 by omega), ma_up_n _ _ (show a ≠ 41 by omega), ma_up_n _ _ (show a ≠ 39 by omega), ma_up_n _ _ q3, ma_up_n _ _ q2]
  have eS : ∀ x, x < 8 → I8 (39 + 2 * x) 1 = -1 := fun x hx => by
    rw [h8, ma_up_n _ _ (by omega), h7]
    match x, hx with
    | 0, _ => rfl
    | 1, _ => rfl
    | 2, _ => rfl
    | 3, _ => rfl
    | 4, _ => rfl
    | 5, _ => rfl
    | 6, _ => rfl
    | 7, _ => rfl
    | x + 8, h => exact absurd h (by omega)
  have e27 : I8 27 = TX := by rw [h8, h7]; rfl
  have e28 : I8 28 = TY := by rw [h8, h7]; rfl
  have eL : ∀ a, a ≠ 3 → a ≠ 115 → L8 a = fun _ => 0 := fun a q1 q2 => by rw [l8, ma_up_n _ _ q2, l7, ma_up_n _ _ q1]
  have l14 : L8 3 14 = 0 := by rw [l8, l7]; rfl
  have l15 : L8 3 15 = 1 := by rw [l8, l7]; rfl
  have l3 : L8 115 3 = 0 := by rw [l8, l7]; rfl
  have l4 : L8 115 4 = 1 := by rw [l8, l7]; rfl
  have o117 : ∀ x, x < 8 → oI I8 117 x = -9 := fun x hx => by rw [oI_r rfl]; exact e117 x hx
  have oz : ∀ a, oR a = true → a ≠ 117 → oI I8 a = fun _ => 0 := fun a h q => by
    rw [oI_r h]; exact eI a q (fun e => by rw [e] at h; cases h) (fun e => by rw [e] at h; cases h) (by unfold oR at h; simp only [Bool.or_eq_true, beq_iff_eq] at h; omega)
  have of_ : ∀ k, oI I8 115 k = 0 := fun k => by
    unfold oI
    rw [eI 115 (by decide) (by decide) (by decide) (by decide)]
    split <;> rfl
  refine ⟨⟨fun x hx => ⟨?_, fun h => ?_⟩, fun g hg => ⟨fun j hj => ?_, fun i j hi hj => ?_⟩, fun g hg => ⟨Or.inl ?_, Or.inl ⟨?_, fun k hk => ?_⟩⟩⟩, ⟨?_, ?_, ?_, ?_, fun k hk => ?_⟩, ⟨?_, fun k hk => ?_⟩, ⟨?_, fun k hk => ?_⟩, ⟨0, by omega, ?_, ?_, fun j hj => absurd hj (by omega)⟩, ⟨?_, ?_⟩, fun x hx => ⟨fun _ => eS x hx, fun h => ?_⟩, fun g hg => ⟨?_, fun j hj => ?_, fun k hk => ?_⟩⟩
  · show (oI I8 117 x).toInt ≤ 16; rw [o117 x hx]; decide
  · exact absurd h (by show ¬ 0 ≤ oI I8 117 x; rw [o117 x hx]; decide)
  · show -4 ≤ (oI I8 123 (16 * g + j)).toInt ∧ (oI I8 123 (16 * g + j)).toInt ≤ 4; rw [oz 123 rfl (by decide)]; show -4 ≤ (0 : Int32).toInt ∧ (0 : Int32).toInt ≤ 4; decide
  · show oI I8 123 _ = oI I8 123 _; rw [oz 123 rfl (by decide)]
  · show oI I8 122 g = 0; rw [oz 122 rfl (by decide)]
  · show oI I8 122 g = 0; rw [oz 122 rfl (by decide)]
  · show oI I8 124 _ = 0; rw [oz 124 rfl (by decide)]
  · show I8 3 13 = oI I8 115 2; rw [of_, eI 3 (by decide) (by decide) (by decide) (by decide)]
  · show L8 3 14 = oL L8 115 3; rw [oL_f rfl, l14, l3]
  · show L8 3 15 = oL L8 115 4; rw [oL_f rfl, l15, l4]
  · show I8 3 16 = oI I8 115 0; rw [of_, eI 3 (by decide) (by decide) (by decide) (by decide)]
  · show I8 38 k = oI I8 116 k; rw [oz 116 rfl (by decide), eI 38 (by decide) (by decide) (by decide) (by decide)]
  · show I8 3 10 = oI I8 115 18; rw [of_, eI 3 (by decide) (by decide) (by decide) (by decide)]
  · show I8 36 k = oI I8 128 k; rw [oz 128 rfl (by decide), eI 36 (by decide) (by decide) (by decide) (by decide)]
  · show I8 3 12 = oI I8 115 26; rw [of_, eI 3 (by decide) (by decide) (by decide) (by decide)]
  · show I8 37 k = (oL L8 135 k).toInt32; rw [oL_r, eL 135 (by decide) (by decide), eI 37 (by decide) (by decide) (by decide) (by decide)]; rfl
  · rw [eI 32 (by decide) (by decide) (by decide) (by decide)]; rfl
  · show oI I8 115 45 = _; rw [of_]; rfl
  · rw [e27]; exact hTX
  · rw [e28]; exact hTY
  · exact absurd h (by show ¬ 0 ≤ oI I8 117 x; rw [o117 x hx]; decide)
  · show I8 (55 + 5 * g) 0 = oI I8 122 g; rw [oz 122 rfl (by decide), eI (55 + 5 * g) (by omega) (by omega) (by omega) (by omega)]
  · show L8 (57 + 5 * g) j = (oI I8 123 (16 * g + j)).toInt64; rw [oz 123 rfl (by decide), eL (57 + 5 * g) (by omega) (by omega)]; rfl
  · show I8 (59 + 5 * g) k = oI I8 124 (10 * g + k); rw [oz 124 rfl (by decide), eI (59 + 5 * g) (by omega) (by omega) (by omega) (by omega)]
set_option maxRecDepth 4000 in
theorem law_ev {g : ma_G} {nm : String} {b N : Nat} {xs : Nat → Int32} (hN : g.2.2.2.2.2.2.1 = N) (hx : g.2.2.2.2.2.2.2 = xs) (hN3 : N ≤ 3072) : EV g (yLn nm) cL_law 4 (some .boolean) room_1 (lZ g b) 0 [some (.ref 0), none, none, none] [] (hsP 0) (fun _ _ => 0) (fun _ _ => 0) (rfL pR_0) 0 0 0 := by
  have z0I : zP 0 (fun _ _ => (0 : Int32)) := fun x _ => rfl
  have z0L : zP 0 (fun _ _ => (0 : Int64)) := fun x _ => rfl
  refine en_new (t := 7) (pc' := 3) (N := 18) (a' := 3) (n' := 1) (ce' := 1) (sl' := 18) (by decide) rfl ck_L_7 cb_X7 tb_in_X7 tb_ws7 tb_ty7 tb_df7 z0I z0L rfl rfl dL_law_0 rfl ⟨(Nat.le_of_ble_eq_true rfl), (Nat.le_of_ble_eq_true rfl)⟩ rfl rfl rfl rfl ?_
  refine ev_dup (pc' := 4) dL_law_3 rfl rfl ?_
  refine ev_callI (pc' := 7) (rm' := rX7_init) (b := 3) (av := []) (rest := [.ref 3]) co_L_9 ci_X7_init rfl dL_law_4 rfl rfl rfl (Nat.le_of_ble_eq_true rfl) ⟨(Nat.le_of_ble_eq_true rfl), (Nat.le_of_ble_eq_true rfl)⟩ ⟨(Nat.le_of_ble_eq_true rfl), (Nat.le_of_ble_eq_true rfl)⟩ ?_
  refine t_X7_init_3 (fun x _ => rfl) (fun x _ => rfl) (fun TX TY hTX hTY => ?_)
  refine ev_memI (fun I7 h7 => ?_)
  refine ev_memL (fun L7 l7 => ?_)
  have z7 : zP 112 I7 := by rw [h7]; exact (zP_sz (zP_sz (zP_sz (zP_sz (zP_sz (zP_sz (zP_sz (zP_sz (zP_up (zP_up (fun x _ => rfl) (Nat.le_of_ble_eq_true rfl)) (Nat.le_of_ble_eq_true rfl)) (Nat.le_of_ble_eq_true rfl)) (Nat.le_of_ble_eq_true rfl)) (Nat.le_of_ble_eq_true rfl)) (Nat.le_of_ble_eq_true rfl)) (Nat.le_of_ble_eq_true rfl)) (Nat.le_of_ble_eq_true rfl)) (Nat.le_of_ble_eq_true rfl)) (Nat.le_of_ble_eq_true rfl))
  have y7 : zP 112 L7 := by rw [l7]; exact zP_up (fun x _ => rfl) (Nat.le_of_ble_eq_true rfl)
  refine ev_sl (ce' := 112) (sl' := 1669) rfl rfl ?_
  refine ev_astore_n (pc' := 8) (i := 1) (lv' := [some (.ref 0), some (.ref 3), none, none]) dL_law_7 rfl rfl (Nat.le_of_ble_eq_true rfl) rfl rfl ?_
  refine en_new (t := 8) (pc' := 11) (N := 48) (a' := 115) (n' := 113) (ce' := 113) (sl' := 1717) (by decide) rfl ck_L_10 cb_X8 tb_in_X8 tb_ws8 tb_ty8 tb_df8 (zP_le z7 (Nat.le_of_ble_eq_true rfl)) (zP_le y7 (Nat.le_of_ble_eq_true rfl)) rfl rfl dL_law_8 rfl ⟨(Nat.le_of_ble_eq_true rfl), (Nat.le_of_ble_eq_true rfl)⟩ rfl rfl rfl rfl ?_
  refine ev_dup (pc' := 12) dL_law_11 rfl rfl ?_
  refine ev_callI (pc' := 15) (rm' := rX8_init) (b := 115) (av := []) (rest := [.ref 115]) co_L_12 ci_X8_init rfl dL_law_12 rfl rfl rfl (Nat.le_of_ble_eq_true rfl) ⟨(Nat.le_of_ble_eq_true rfl), (Nat.le_of_ble_eq_true rfl)⟩ ⟨(Nat.le_of_ble_eq_true rfl), (Nat.le_of_ble_eq_true rfl)⟩ ?_
  refine t_X8_init_115 (zP_le z7 (Nat.le_of_ble_eq_true rfl)) (zP_le y7 (Nat.le_of_ble_eq_true rfl)) ?_
  rw [hsP_146, rfL_R]
  refine ev_memI (fun I8 h8 => ?_)
  refine ev_memL (fun L8 l8 => ?_)
  have hI := inv_0 hTX hTY h7 l7 h8 l8
  refine ev_sl (ce' := 146) (sl' := 3176) rfl rfl ?_
  refine ev_astore_n (pc' := 16) (i := 2) (lv' := [some (.ref 0), some (.ref 3), some (.ref 115), none]) dL_law_15 rfl rfl (Nat.le_of_ble_eq_true rfl) rfl rfl ?_
  refine ev_iconst (pc' := 17) (v := 0) dL_law_16 rfl ki_0 ?_
  refine ev_istore_n (pc' := 18) (i := 3) (lv' := [some (.ref 0), some (.ref 3), some (.ref 115), some (.int 0)]) dL_law_17 rfl rfl (Nat.le_of_ble_eq_true rfl) rfl rfl ?_
  suffices lp : ∀ (d k : Nat) (I : ma_I) (L : ma_L), N < 6 * k + d → 6 * k ≤ N + 6 → INV I L → EV g (yLn nm) cL_law 4 (some .boolean) room_1 (lZ g b) 18 [some (.ref 0), some (.ref 3), some (.ref 115), some (.int (nI (6 * k)))] [] HS I L RF 146 146 3176 from lp (N + 1) 0 _ _ (by omega) (by omega) hI
  intro d
  induction d with
  | zero =>
    intro k I L hd hk6 hI
    refine ev_iload_n (pc' := 19) (i := 3) dL_law_18 rfl rfl rfl ?_
    refine ev_aload_n (pc' := 20) (i := 0) dL_law_19 rfl rfl rfl ?_
    refine ev_slen (pc' := 21) (v := nI N) dL_law_20 rfl (by rw [hN]) ?_
    refine ev_bipush (pc' := 23) (v := 6) dL_law_21 rfl kb_6 ?_
    refine ev_isub (pc' := 24) (v := (nI N) - 6) dL_law_23 rfl rfl ?_
    refine ev_icmp_gt (tgt := 1537) (pc' := 27) dL_law_24 rfl rfl (fun c => ?_) (fun c => ?_)
    · refine ev_iconst (pc' := 1538) (v := 1) dL_law_1537 rfl ki_1 ?_
      exact law_end ⟨(Nat.le_of_ble_eq_true rfl), (Nat.le_of_ble_eq_true rfl)⟩ dL_law_1538
    · exact absurd (law_c c (by omega) (by omega)) (by omega)
  | succ d ih =>
    intro k I L hd hk6 hI
    refine ev_iload_n (pc' := 19) (i := 3) dL_law_18 rfl rfl rfl ?_
    refine ev_aload_n (pc' := 20) (i := 0) dL_law_19 rfl rfl rfl ?_
    refine ev_slen (pc' := 21) (v := nI N) dL_law_20 rfl (by rw [hN]) ?_
    refine ev_bipush (pc' := 23) (v := 6) dL_law_21 rfl kb_6 ?_
    refine ev_isub (pc' := 24) (v := (nI N) - 6) dL_law_23 rfl rfl ?_
    refine ev_icmp_gt (tgt := 1537) (pc' := 27) dL_law_24 rfl rfl (fun c => ?_) (fun c => ?_)
    · refine ev_iconst (pc' := 1538) (v := 1) dL_law_1537 rfl ki_1 ?_
      exact law_end ⟨(Nat.le_of_ble_eq_true rfl), (Nat.le_of_ble_eq_true rfl)⟩ dL_law_1538
    have hk : 6 * k + 6 ≤ N := law_c c (by omega) (by omega)
    have K : ∀ (I : ma_I) (L : ma_L), INV I L → EV g (yLn nm) cL_law 4 (some .boolean) room_1 (lZ g b) 1531 [some (.ref 0), some (.ref 3), some (.ref 115), some (.int (nI (6 * k)))] [] HS I L RF 146 146 3176 := by
      intro I L hI
      refine ev_iinc (pc' := 1534) (v := nI (6 * (k + 1))) (lv' := [some (.ref 0), some (.ref 3), some (.ref 115), some (.int (nI (6 * (k + 1))))]) dL_law_1531 rfl rfl ((nI_add (6 * k) 6).trans (congrArg nI (by omega))) (Nat.le_of_ble_eq_true rfl) rfl rfl ?_
      refine ev_goto (tgt := 18) dL_law_1534 rfl ?_
      exact ih (k + 1) _ _ (by omega) (by omega) hI
    refine ev_aload_n (pc' := 28) (i := 0) dL_law_27 rfl rfl rfl ?_
    refine ev_iload_n (pc' := 29) (i := 3) dL_law_28 rfl rfl rfl ?_
    refine ev_sld (pc' := 30) (j := 6 * k) (v := xs (6 * k)) dL_law_29 rfl rfl (by omega) (by omega) (by rw [hx]) ?_
    refine ev_bipush (pc' := 32) (v := 63) dL_law_30 rfl kb_63 ?_
    refine ev_iand (pc' := 33) (v := (xs (6 * k)) &&& 63) dL_law_32 rfl rfl ?_
    refine ev_topi (fun x1 hx1 => ?_)
    by_cases c2 : x1 = 0
    · refine ev_tswIn (off := 175) (tgt := 208) dL_law_33 (by rw [c2]; decide) (by rw [c2]; decide) (by rw [c2]; rfl) rfl ?_
      refine ev_aload_n (pc' := 209) (i := 1) dL_law_208 rfl rfl rfl ?_
      refine ev_aload_n (pc' := 210) (i := 0) dL_law_209 rfl rfl rfl ?_
      refine ev_iload_n (pc' := 211) (i := 3) dL_law_210 rfl rfl rfl ?_
      refine ev_iconst (pc' := 212) (v := 1) dL_law_211 rfl ki_1 ?_
      refine ev_iadd (pc' := 213) (v := nI ((6 * k) + 1)) dL_law_212 rfl (nI_add (6 * k) 1) ?_
      refine ev_sld (pc' := 214) (j := (6 * k) + 1) (v := xs ((6 * k) + 1)) dL_law_213 rfl rfl (by omega) (by omega) (by rw [hx]) ?_
      refine ev_aload_n (pc' := 215) (i := 0) dL_law_214 rfl rfl rfl ?_
      refine ev_iload_n (pc' := 216) (i := 3) dL_law_215 rfl rfl rfl ?_
      refine ev_iconst (pc' := 217) (v := 2) dL_law_216 rfl ki_2 ?_
      refine ev_iadd (pc' := 218) (v := nI ((6 * k) + 2)) dL_law_217 rfl (nI_add (6 * k) 2) ?_
      refine ev_sld (pc' := 219) (j := (6 * k) + 2) (v := xs ((6 * k) + 2)) dL_law_218 rfl rfl (by omega) (by omega) (by rw [hx]) ?_
      refine ev_callV (pc' := 222) (rm' := rX7_sheet) (b := 3) (av := [.int (xs ((6 * k) + 1)), .int (xs ((6 * k) + 2))]) (rest := []) co_L_13 ci_X7_sheet cv_X7_sheet dL_law_219 rfl hs_3 hb_X7 rfl rfl (Nat.le_of_ble_eq_true rfl) ⟨(Nat.le_of_ble_eq_true rfl), (Nat.le_of_ble_eq_true rfl)⟩ ⟨(Nat.le_of_ble_eq_true rfl), (Nat.le_of_ble_eq_true rfl)⟩ ?_
      refine p_sheet hI (xs ((6 * k) + 1)) (xs ((6 * k) + 2)) (fun r I1 L1 kM => ?_)
      refine ev_aload_n (pc' := 223) (i := 2) dL_law_222 rfl rfl rfl ?_
      refine ev_aload_n (pc' := 224) (i := 0) dL_law_223 rfl rfl rfl ?_
      refine ev_iload_n (pc' := 225) (i := 3) dL_law_224 rfl rfl rfl ?_
      refine ev_iconst (pc' := 226) (v := 1) dL_law_225 rfl ki_1 ?_
      refine ev_iadd (pc' := 227) (v := nI ((6 * k) + 1)) dL_law_226 rfl (nI_add (6 * k) 1) ?_
      refine ev_sld (pc' := 228) (j := (6 * k) + 1) (v := xs ((6 * k) + 1)) dL_law_227 rfl rfl (by omega) (by omega) (by rw [hx]) ?_
      refine ev_aload_n (pc' := 229) (i := 0) dL_law_228 rfl rfl rfl ?_
      refine ev_iload_n (pc' := 230) (i := 3) dL_law_229 rfl rfl rfl ?_
      refine ev_iconst (pc' := 231) (v := 2) dL_law_230 rfl ki_2 ?_
      refine ev_iadd (pc' := 232) (v := nI ((6 * k) + 2)) dL_law_231 rfl (nI_add (6 * k) 2) ?_
      refine ev_sld (pc' := 233) (j := (6 * k) + 2) (v := xs ((6 * k) + 2)) dL_law_232 rfl rfl (by omega) (by omega) (by rw [hx]) ?_
      refine ev_callV (pc' := 236) (rm' := rX8_sheet) (b := 115) (av := [.int (xs ((6 * k) + 1)), .int (xs ((6 * k) + 2))]) (rest := [.int r]) co_L_17 ci_X8_sheet cv_X8_sheet dL_law_233 rfl hs_115 hb_X8 rfl rfl (Nat.le_of_ble_eq_true rfl) ⟨(Nat.le_of_ble_eq_true rfl), (Nat.le_of_ble_eq_true rfl)⟩ ⟨(Nat.le_of_ble_eq_true rfl), (Nat.le_of_ble_eq_true rfl)⟩ ?_
      refine kM (fun I2 L2 hI2 => ?_)
      refine ev_icmp_eq (tgt := 1531) (pc' := 239) dL_law_236 rfl rfl (fun _ => ?_) (fun h => absurd rfl h)
      exact K _ _ hI2
    by_cases c3 : x1 = 1
    · refine ev_tswIn (off := 208) (tgt := 241) dL_law_33 (by rw [c3]; decide) (by rw [c3]; decide) (by rw [c3]; rfl) rfl ?_
      refine ev_aload_n (pc' := 242) (i := 1) dL_law_241 rfl rfl rfl ?_
      refine ev_aload_n (pc' := 243) (i := 0) dL_law_242 rfl rfl rfl ?_
      refine ev_iload_n (pc' := 244) (i := 3) dL_law_243 rfl rfl rfl ?_
      refine ev_iconst (pc' := 245) (v := 1) dL_law_244 rfl ki_1 ?_
      refine ev_iadd (pc' := 246) (v := nI ((6 * k) + 1)) dL_law_245 rfl (nI_add (6 * k) 1) ?_
      refine ev_sld (pc' := 247) (j := (6 * k) + 1) (v := xs ((6 * k) + 1)) dL_law_246 rfl rfl (by omega) (by omega) (by rw [hx]) ?_
      refine ev_aload_n (pc' := 248) (i := 0) dL_law_247 rfl rfl rfl ?_
      refine ev_iload_n (pc' := 249) (i := 3) dL_law_248 rfl rfl rfl ?_
      refine ev_iconst (pc' := 250) (v := 2) dL_law_249 rfl ki_2 ?_
      refine ev_iadd (pc' := 251) (v := nI ((6 * k) + 2)) dL_law_250 rfl (nI_add (6 * k) 2) ?_
      refine ev_sld (pc' := 252) (j := (6 * k) + 2) (v := xs ((6 * k) + 2)) dL_law_251 rfl rfl (by omega) (by omega) (by rw [hx]) ?_
      refine ev_aload_n (pc' := 253) (i := 0) dL_law_252 rfl rfl rfl ?_
      refine ev_iload_n (pc' := 254) (i := 3) dL_law_253 rfl rfl rfl ?_
      refine ev_iconst (pc' := 255) (v := 3) dL_law_254 rfl ki_3 ?_
      refine ev_iadd (pc' := 256) (v := nI ((6 * k) + 3)) dL_law_255 rfl (nI_add (6 * k) 3) ?_
      refine ev_sld (pc' := 257) (j := (6 * k) + 3) (v := xs ((6 * k) + 3)) dL_law_256 rfl rfl (by omega) (by omega) (by rw [hx]) ?_
      refine ev_callV (pc' := 260) (rm' := rX7_lay) (b := 3) (av := [.int (xs ((6 * k) + 1)), .int (xs ((6 * k) + 2)), .int (xs ((6 * k) + 3))]) (rest := []) co_L_18 ci_X7_lay cv_X7_lay dL_law_257 rfl hs_3 hb_X7 rfl rfl (Nat.le_of_ble_eq_true rfl) ⟨(Nat.le_of_ble_eq_true rfl), (Nat.le_of_ble_eq_true rfl)⟩ ⟨(Nat.le_of_ble_eq_true rfl), (Nat.le_of_ble_eq_true rfl)⟩ ?_
      refine p_lay hI (xs ((6 * k) + 1)) (xs ((6 * k) + 2)) (xs ((6 * k) + 3)) (fun r I1 L1 kM => ?_)
      refine ev_aload_n (pc' := 261) (i := 2) dL_law_260 rfl rfl rfl ?_
      refine ev_aload_n (pc' := 262) (i := 0) dL_law_261 rfl rfl rfl ?_
      refine ev_iload_n (pc' := 263) (i := 3) dL_law_262 rfl rfl rfl ?_
      refine ev_iconst (pc' := 264) (v := 1) dL_law_263 rfl ki_1 ?_
      refine ev_iadd (pc' := 265) (v := nI ((6 * k) + 1)) dL_law_264 rfl (nI_add (6 * k) 1) ?_
      refine ev_sld (pc' := 266) (j := (6 * k) + 1) (v := xs ((6 * k) + 1)) dL_law_265 rfl rfl (by omega) (by omega) (by rw [hx]) ?_
      refine ev_aload_n (pc' := 267) (i := 0) dL_law_266 rfl rfl rfl ?_
      refine ev_iload_n (pc' := 268) (i := 3) dL_law_267 rfl rfl rfl ?_
      refine ev_iconst (pc' := 269) (v := 2) dL_law_268 rfl ki_2 ?_
      refine ev_iadd (pc' := 270) (v := nI ((6 * k) + 2)) dL_law_269 rfl (nI_add (6 * k) 2) ?_
      refine ev_sld (pc' := 271) (j := (6 * k) + 2) (v := xs ((6 * k) + 2)) dL_law_270 rfl rfl (by omega) (by omega) (by rw [hx]) ?_
      refine ev_aload_n (pc' := 272) (i := 0) dL_law_271 rfl rfl rfl ?_
      refine ev_iload_n (pc' := 273) (i := 3) dL_law_272 rfl rfl rfl ?_
      refine ev_iconst (pc' := 274) (v := 3) dL_law_273 rfl ki_3 ?_
      refine ev_iadd (pc' := 275) (v := nI ((6 * k) + 3)) dL_law_274 rfl (nI_add (6 * k) 3) ?_
      refine ev_sld (pc' := 276) (j := (6 * k) + 3) (v := xs ((6 * k) + 3)) dL_law_275 rfl rfl (by omega) (by omega) (by rw [hx]) ?_
      refine ev_callV (pc' := 279) (rm' := rX8_lay) (b := 115) (av := [.int (xs ((6 * k) + 1)), .int (xs ((6 * k) + 2)), .int (xs ((6 * k) + 3))]) (rest := [.int r]) co_L_22 ci_X8_lay cv_X8_lay dL_law_276 rfl hs_115 hb_X8 rfl rfl (Nat.le_of_ble_eq_true rfl) ⟨(Nat.le_of_ble_eq_true rfl), (Nat.le_of_ble_eq_true rfl)⟩ ⟨(Nat.le_of_ble_eq_true rfl), (Nat.le_of_ble_eq_true rfl)⟩ ?_
      refine kM (fun I2 L2 hI2 => ?_)
      refine ev_icmp_eq (tgt := 1531) (pc' := 282) dL_law_279 rfl rfl (fun _ => ?_) (fun h => absurd rfl h)
      exact K _ _ hI2
    by_cases c4 : x1 = 2
    · refine ev_tswIn (off := 251) (tgt := 284) dL_law_33 (by rw [c4]; decide) (by rw [c4]; decide) (by rw [c4]; rfl) rfl ?_
      refine ev_aload_n (pc' := 285) (i := 1) dL_law_284 rfl rfl rfl ?_
      refine ev_aload_n (pc' := 286) (i := 0) dL_law_285 rfl rfl rfl ?_
      refine ev_iload_n (pc' := 287) (i := 3) dL_law_286 rfl rfl rfl ?_
      refine ev_iconst (pc' := 288) (v := 1) dL_law_287 rfl ki_1 ?_
      refine ev_iadd (pc' := 289) (v := nI ((6 * k) + 1)) dL_law_288 rfl (nI_add (6 * k) 1) ?_
      refine ev_sld (pc' := 290) (j := (6 * k) + 1) (v := xs ((6 * k) + 1)) dL_law_289 rfl rfl (by omega) (by omega) (by rw [hx]) ?_
      refine ev_callV (pc' := 293) (rm' := rX7_tear) (b := 3) (av := [.int (xs ((6 * k) + 1))]) (rest := []) co_L_23 ci_X7_tear cv_X7_tear dL_law_290 rfl hs_3 hb_X7 rfl rfl (Nat.le_of_ble_eq_true rfl) ⟨(Nat.le_of_ble_eq_true rfl), (Nat.le_of_ble_eq_true rfl)⟩ ⟨(Nat.le_of_ble_eq_true rfl), (Nat.le_of_ble_eq_true rfl)⟩ ?_
      refine p_tear hI (xs ((6 * k) + 1)) (fun r I1 L1 kM => ?_)
      refine ev_aload_n (pc' := 294) (i := 2) dL_law_293 rfl rfl rfl ?_
      refine ev_aload_n (pc' := 295) (i := 0) dL_law_294 rfl rfl rfl ?_
      refine ev_iload_n (pc' := 296) (i := 3) dL_law_295 rfl rfl rfl ?_
      refine ev_iconst (pc' := 297) (v := 1) dL_law_296 rfl ki_1 ?_
      refine ev_iadd (pc' := 298) (v := nI ((6 * k) + 1)) dL_law_297 rfl (nI_add (6 * k) 1) ?_
      refine ev_sld (pc' := 299) (j := (6 * k) + 1) (v := xs ((6 * k) + 1)) dL_law_298 rfl rfl (by omega) (by omega) (by rw [hx]) ?_
      refine ev_callV (pc' := 302) (rm' := rX8_tear) (b := 115) (av := [.int (xs ((6 * k) + 1))]) (rest := [.int r]) co_L_27 ci_X8_tear cv_X8_tear dL_law_299 rfl hs_115 hb_X8 rfl rfl (Nat.le_of_ble_eq_true rfl) ⟨(Nat.le_of_ble_eq_true rfl), (Nat.le_of_ble_eq_true rfl)⟩ ⟨(Nat.le_of_ble_eq_true rfl), (Nat.le_of_ble_eq_true rfl)⟩ ?_
      refine kM (fun I2 L2 hI2 => ?_)
      refine ev_icmp_eq (tgt := 1531) (pc' := 305) dL_law_302 rfl rfl (fun _ => ?_) (fun h => absurd rfl h)
      exact K _ _ hI2
    by_cases c5 : x1 = 3
    · refine ev_tswIn (off := 274) (tgt := 307) dL_law_33 (by rw [c5]; decide) (by rw [c5]; decide) (by rw [c5]; rfl) rfl ?_
      refine ev_aload_n (pc' := 308) (i := 1) dL_law_307 rfl rfl rfl ?_
      refine ev_aload_n (pc' := 309) (i := 0) dL_law_308 rfl rfl rfl ?_
      refine ev_iload_n (pc' := 310) (i := 3) dL_law_309 rfl rfl rfl ?_
      refine ev_iconst (pc' := 311) (v := 1) dL_law_310 rfl ki_1 ?_
      refine ev_iadd (pc' := 312) (v := nI ((6 * k) + 1)) dL_law_311 rfl (nI_add (6 * k) 1) ?_
      refine ev_sld (pc' := 313) (j := (6 * k) + 1) (v := xs ((6 * k) + 1)) dL_law_312 rfl rfl (by omega) (by omega) (by rw [hx]) ?_
      refine ev_aload_n (pc' := 314) (i := 0) dL_law_313 rfl rfl rfl ?_
      refine ev_iload_n (pc' := 315) (i := 3) dL_law_314 rfl rfl rfl ?_
      refine ev_iconst (pc' := 316) (v := 2) dL_law_315 rfl ki_2 ?_
      refine ev_iadd (pc' := 317) (v := nI ((6 * k) + 2)) dL_law_316 rfl (nI_add (6 * k) 2) ?_
      refine ev_sld (pc' := 318) (j := (6 * k) + 2) (v := xs ((6 * k) + 2)) dL_law_317 rfl rfl (by omega) (by omega) (by rw [hx]) ?_
      refine ev_aload_n (pc' := 319) (i := 0) dL_law_318 rfl rfl rfl ?_
      refine ev_iload_n (pc' := 320) (i := 3) dL_law_319 rfl rfl rfl ?_
      refine ev_iconst (pc' := 321) (v := 3) dL_law_320 rfl ki_3 ?_
      refine ev_iadd (pc' := 322) (v := nI ((6 * k) + 3)) dL_law_321 rfl (nI_add (6 * k) 3) ?_
      refine ev_sld (pc' := 323) (j := (6 * k) + 3) (v := xs ((6 * k) + 3)) dL_law_322 rfl rfl (by omega) (by omega) (by rw [hx]) ?_
      refine ev_aload_n (pc' := 324) (i := 0) dL_law_323 rfl rfl rfl ?_
      refine ev_iload_n (pc' := 325) (i := 3) dL_law_324 rfl rfl rfl ?_
      refine ev_iconst (pc' := 326) (v := 4) dL_law_325 rfl ki_4 ?_
      refine ev_iadd (pc' := 327) (v := nI ((6 * k) + 4)) dL_law_326 rfl (nI_add (6 * k) 4) ?_
      refine ev_sld (pc' := 328) (j := (6 * k) + 4) (v := xs ((6 * k) + 4)) dL_law_327 rfl rfl (by omega) (by omega) (by rw [hx]) ?_
      refine ev_aload_n (pc' := 329) (i := 0) dL_law_328 rfl rfl rfl ?_
      refine ev_iload_n (pc' := 330) (i := 3) dL_law_329 rfl rfl rfl ?_
      refine ev_iconst (pc' := 331) (v := 5) dL_law_330 rfl ki_5 ?_
      refine ev_iadd (pc' := 332) (v := nI ((6 * k) + 5)) dL_law_331 rfl (nI_add (6 * k) 5) ?_
      refine ev_sld (pc' := 333) (j := (6 * k) + 5) (v := xs ((6 * k) + 5)) dL_law_332 rfl rfl (by omega) (by omega) (by rw [hx]) ?_
      refine ev_callV (pc' := 336) (rm' := rX7_copy) (b := 3) (av := [.int (xs ((6 * k) + 1)), .int (xs ((6 * k) + 2)), .int (xs ((6 * k) + 3)), .int (xs ((6 * k) + 4)), .int (xs ((6 * k) + 5))]) (rest := []) co_L_28 ci_X7_copy cv_X7_copy dL_law_333 rfl hs_3 hb_X7 rfl rfl (Nat.le_of_ble_eq_true rfl) ⟨(Nat.le_of_ble_eq_true rfl), (Nat.le_of_ble_eq_true rfl)⟩ ⟨(Nat.le_of_ble_eq_true rfl), (Nat.le_of_ble_eq_true rfl)⟩ ?_
      refine p_copy hI (xs ((6 * k) + 1)) (xs ((6 * k) + 2)) (xs ((6 * k) + 3)) (xs ((6 * k) + 4)) (xs ((6 * k) + 5)) (fun r I1 L1 kM => ?_)
      refine ev_aload_n (pc' := 337) (i := 2) dL_law_336 rfl rfl rfl ?_
      refine ev_aload_n (pc' := 338) (i := 0) dL_law_337 rfl rfl rfl ?_
      refine ev_iload_n (pc' := 339) (i := 3) dL_law_338 rfl rfl rfl ?_
      refine ev_iconst (pc' := 340) (v := 1) dL_law_339 rfl ki_1 ?_
      refine ev_iadd (pc' := 341) (v := nI ((6 * k) + 1)) dL_law_340 rfl (nI_add (6 * k) 1) ?_
      refine ev_sld (pc' := 342) (j := (6 * k) + 1) (v := xs ((6 * k) + 1)) dL_law_341 rfl rfl (by omega) (by omega) (by rw [hx]) ?_
      refine ev_aload_n (pc' := 343) (i := 0) dL_law_342 rfl rfl rfl ?_
      refine ev_iload_n (pc' := 344) (i := 3) dL_law_343 rfl rfl rfl ?_
      refine ev_iconst (pc' := 345) (v := 2) dL_law_344 rfl ki_2 ?_
      refine ev_iadd (pc' := 346) (v := nI ((6 * k) + 2)) dL_law_345 rfl (nI_add (6 * k) 2) ?_
      refine ev_sld (pc' := 347) (j := (6 * k) + 2) (v := xs ((6 * k) + 2)) dL_law_346 rfl rfl (by omega) (by omega) (by rw [hx]) ?_
      refine ev_aload_n (pc' := 348) (i := 0) dL_law_347 rfl rfl rfl ?_
      refine ev_iload_n (pc' := 349) (i := 3) dL_law_348 rfl rfl rfl ?_
      refine ev_iconst (pc' := 350) (v := 3) dL_law_349 rfl ki_3 ?_
      refine ev_iadd (pc' := 351) (v := nI ((6 * k) + 3)) dL_law_350 rfl (nI_add (6 * k) 3) ?_
      refine ev_sld (pc' := 352) (j := (6 * k) + 3) (v := xs ((6 * k) + 3)) dL_law_351 rfl rfl (by omega) (by omega) (by rw [hx]) ?_
      refine ev_aload_n (pc' := 353) (i := 0) dL_law_352 rfl rfl rfl ?_
      refine ev_iload_n (pc' := 354) (i := 3) dL_law_353 rfl rfl rfl ?_
      refine ev_iconst (pc' := 355) (v := 4) dL_law_354 rfl ki_4 ?_
      refine ev_iadd (pc' := 356) (v := nI ((6 * k) + 4)) dL_law_355 rfl (nI_add (6 * k) 4) ?_
      refine ev_sld (pc' := 357) (j := (6 * k) + 4) (v := xs ((6 * k) + 4)) dL_law_356 rfl rfl (by omega) (by omega) (by rw [hx]) ?_
      refine ev_aload_n (pc' := 358) (i := 0) dL_law_357 rfl rfl rfl ?_
      refine ev_iload_n (pc' := 359) (i := 3) dL_law_358 rfl rfl rfl ?_
      refine ev_iconst (pc' := 360) (v := 5) dL_law_359 rfl ki_5 ?_
      refine ev_iadd (pc' := 361) (v := nI ((6 * k) + 5)) dL_law_360 rfl (nI_add (6 * k) 5) ?_
      refine ev_sld (pc' := 362) (j := (6 * k) + 5) (v := xs ((6 * k) + 5)) dL_law_361 rfl rfl (by omega) (by omega) (by rw [hx]) ?_
      refine ev_callV (pc' := 365) (rm' := rX8_copy) (b := 115) (av := [.int (xs ((6 * k) + 1)), .int (xs ((6 * k) + 2)), .int (xs ((6 * k) + 3)), .int (xs ((6 * k) + 4)), .int (xs ((6 * k) + 5))]) (rest := [.int r]) co_L_32 ci_X8_copy cv_X8_copy dL_law_362 rfl hs_115 hb_X8 rfl rfl (Nat.le_of_ble_eq_true rfl) ⟨(Nat.le_of_ble_eq_true rfl), (Nat.le_of_ble_eq_true rfl)⟩ ⟨(Nat.le_of_ble_eq_true rfl), (Nat.le_of_ble_eq_true rfl)⟩ ?_
      refine kM (fun I2 L2 hI2 => ?_)
      refine ev_icmp_eq (tgt := 1531) (pc' := 368) dL_law_365 rfl rfl (fun _ => ?_) (fun h => absurd rfl h)
      exact K _ _ hI2
    by_cases c6 : x1 = 4
    · refine ev_tswIn (off := 337) (tgt := 370) dL_law_33 (by rw [c6]; decide) (by rw [c6]; decide) (by rw [c6]; rfl) rfl ?_
      refine ev_aload_n (pc' := 371) (i := 1) dL_law_370 rfl rfl rfl ?_
      refine ev_aload_n (pc' := 372) (i := 0) dL_law_371 rfl rfl rfl ?_
      refine ev_iload_n (pc' := 373) (i := 3) dL_law_372 rfl rfl rfl ?_
      refine ev_iconst (pc' := 374) (v := 1) dL_law_373 rfl ki_1 ?_
      refine ev_iadd (pc' := 375) (v := nI ((6 * k) + 1)) dL_law_374 rfl (nI_add (6 * k) 1) ?_
      refine ev_sld (pc' := 376) (j := (6 * k) + 1) (v := xs ((6 * k) + 1)) dL_law_375 rfl rfl (by omega) (by omega) (by rw [hx]) ?_
      refine ev_aload_n (pc' := 377) (i := 0) dL_law_376 rfl rfl rfl ?_
      refine ev_iload_n (pc' := 378) (i := 3) dL_law_377 rfl rfl rfl ?_
      refine ev_iconst (pc' := 379) (v := 2) dL_law_378 rfl ki_2 ?_
      refine ev_iadd (pc' := 380) (v := nI ((6 * k) + 2)) dL_law_379 rfl (nI_add (6 * k) 2) ?_
      refine ev_sld (pc' := 381) (j := (6 * k) + 2) (v := xs ((6 * k) + 2)) dL_law_380 rfl rfl (by omega) (by omega) (by rw [hx]) ?_
      refine ev_callV (pc' := 384) (rm' := rX7_ground) (b := 3) (av := [.int (xs ((6 * k) + 1)), .int (xs ((6 * k) + 2))]) (rest := []) co_L_33 ci_X7_ground cv_X7_ground dL_law_381 rfl hs_3 hb_X7 rfl rfl (Nat.le_of_ble_eq_true rfl) ⟨(Nat.le_of_ble_eq_true rfl), (Nat.le_of_ble_eq_true rfl)⟩ ⟨(Nat.le_of_ble_eq_true rfl), (Nat.le_of_ble_eq_true rfl)⟩ ?_
      refine p_ground hI (xs ((6 * k) + 1)) (xs ((6 * k) + 2)) (fun r I1 L1 kM => ?_)
      refine ev_aload_n (pc' := 385) (i := 2) dL_law_384 rfl rfl rfl ?_
      refine ev_aload_n (pc' := 386) (i := 0) dL_law_385 rfl rfl rfl ?_
      refine ev_iload_n (pc' := 387) (i := 3) dL_law_386 rfl rfl rfl ?_
      refine ev_iconst (pc' := 388) (v := 1) dL_law_387 rfl ki_1 ?_
      refine ev_iadd (pc' := 389) (v := nI ((6 * k) + 1)) dL_law_388 rfl (nI_add (6 * k) 1) ?_
      refine ev_sld (pc' := 390) (j := (6 * k) + 1) (v := xs ((6 * k) + 1)) dL_law_389 rfl rfl (by omega) (by omega) (by rw [hx]) ?_
      refine ev_aload_n (pc' := 391) (i := 0) dL_law_390 rfl rfl rfl ?_
      refine ev_iload_n (pc' := 392) (i := 3) dL_law_391 rfl rfl rfl ?_
      refine ev_iconst (pc' := 393) (v := 2) dL_law_392 rfl ki_2 ?_
      refine ev_iadd (pc' := 394) (v := nI ((6 * k) + 2)) dL_law_393 rfl (nI_add (6 * k) 2) ?_
      refine ev_sld (pc' := 395) (j := (6 * k) + 2) (v := xs ((6 * k) + 2)) dL_law_394 rfl rfl (by omega) (by omega) (by rw [hx]) ?_
      refine ev_callV (pc' := 398) (rm' := rX8_ground) (b := 115) (av := [.int (xs ((6 * k) + 1)), .int (xs ((6 * k) + 2))]) (rest := [.int r]) co_L_36 ci_X8_ground cv_X8_ground dL_law_395 rfl hs_115 hb_X8 rfl rfl (Nat.le_of_ble_eq_true rfl) ⟨(Nat.le_of_ble_eq_true rfl), (Nat.le_of_ble_eq_true rfl)⟩ ⟨(Nat.le_of_ble_eq_true rfl), (Nat.le_of_ble_eq_true rfl)⟩ ?_
      refine kM (fun I2 L2 hI2 => ?_)
      refine ev_icmp_eq (tgt := 1531) (pc' := 401) dL_law_398 rfl rfl (fun _ => ?_) (fun h => absurd rfl h)
      exact K _ _ hI2
    by_cases c7 : x1 = 5
    · refine ev_tswIn (off := 370) (tgt := 403) dL_law_33 (by rw [c7]; decide) (by rw [c7]; decide) (by rw [c7]; rfl) rfl ?_
      refine ev_aload_n (pc' := 404) (i := 1) dL_law_403 rfl rfl rfl ?_
      refine ev_aload_n (pc' := 405) (i := 0) dL_law_404 rfl rfl rfl ?_
      refine ev_iload_n (pc' := 406) (i := 3) dL_law_405 rfl rfl rfl ?_
      refine ev_iconst (pc' := 407) (v := 1) dL_law_406 rfl ki_1 ?_
      refine ev_iadd (pc' := 408) (v := nI ((6 * k) + 1)) dL_law_407 rfl (nI_add (6 * k) 1) ?_
      refine ev_sld (pc' := 409) (j := (6 * k) + 1) (v := xs ((6 * k) + 1)) dL_law_408 rfl rfl (by omega) (by omega) (by rw [hx]) ?_
      refine ev_callV (pc' := 412) (rm' := rX7_drop) (b := 3) (av := [.int (xs ((6 * k) + 1))]) (rest := []) co_L_37 ci_X7_drop cv_X7_drop dL_law_409 rfl hs_3 hb_X7 rfl rfl (Nat.le_of_ble_eq_true rfl) ⟨(Nat.le_of_ble_eq_true rfl), (Nat.le_of_ble_eq_true rfl)⟩ ⟨(Nat.le_of_ble_eq_true rfl), (Nat.le_of_ble_eq_true rfl)⟩ ?_
      refine p_drop hI (xs ((6 * k) + 1)) (fun r I1 L1 kM => ?_)
      refine ev_aload_n (pc' := 413) (i := 2) dL_law_412 rfl rfl rfl ?_
      refine ev_aload_n (pc' := 414) (i := 0) dL_law_413 rfl rfl rfl ?_
      refine ev_iload_n (pc' := 415) (i := 3) dL_law_414 rfl rfl rfl ?_
      refine ev_iconst (pc' := 416) (v := 1) dL_law_415 rfl ki_1 ?_
      refine ev_iadd (pc' := 417) (v := nI ((6 * k) + 1)) dL_law_416 rfl (nI_add (6 * k) 1) ?_
      refine ev_sld (pc' := 418) (j := (6 * k) + 1) (v := xs ((6 * k) + 1)) dL_law_417 rfl rfl (by omega) (by omega) (by rw [hx]) ?_
      refine ev_callV (pc' := 421) (rm' := rX8_drop) (b := 115) (av := [.int (xs ((6 * k) + 1))]) (rest := [.int r]) co_L_40 ci_X8_drop cv_X8_drop dL_law_418 rfl hs_115 hb_X8 rfl rfl (Nat.le_of_ble_eq_true rfl) ⟨(Nat.le_of_ble_eq_true rfl), (Nat.le_of_ble_eq_true rfl)⟩ ⟨(Nat.le_of_ble_eq_true rfl), (Nat.le_of_ble_eq_true rfl)⟩ ?_
      refine kM (fun I2 L2 hI2 => ?_)
      refine ev_icmp_eq (tgt := 1531) (pc' := 424) dL_law_421 rfl rfl (fun _ => ?_) (fun h => absurd rfl h)
      exact K _ _ hI2
    by_cases c8 : x1 = 6
    · refine ev_tswIn (off := 393) (tgt := 426) dL_law_33 (by rw [c8]; decide) (by rw [c8]; decide) (by rw [c8]; rfl) rfl ?_
      refine ev_aload_n (pc' := 427) (i := 1) dL_law_426 rfl rfl rfl ?_
      refine ev_aload_n (pc' := 428) (i := 0) dL_law_427 rfl rfl rfl ?_
      refine ev_iload_n (pc' := 429) (i := 3) dL_law_428 rfl rfl rfl ?_
      refine ev_iconst (pc' := 430) (v := 1) dL_law_429 rfl ki_1 ?_
      refine ev_iadd (pc' := 431) (v := nI ((6 * k) + 1)) dL_law_430 rfl (nI_add (6 * k) 1) ?_
      refine ev_sld (pc' := 432) (j := (6 * k) + 1) (v := xs ((6 * k) + 1)) dL_law_431 rfl rfl (by omega) (by omega) (by rw [hx]) ?_
      refine ev_aload_n (pc' := 433) (i := 0) dL_law_432 rfl rfl rfl ?_
      refine ev_iload_n (pc' := 434) (i := 3) dL_law_433 rfl rfl rfl ?_
      refine ev_iconst (pc' := 435) (v := 2) dL_law_434 rfl ki_2 ?_
      refine ev_iadd (pc' := 436) (v := nI ((6 * k) + 2)) dL_law_435 rfl (nI_add (6 * k) 2) ?_
      refine ev_sld (pc' := 437) (j := (6 * k) + 2) (v := xs ((6 * k) + 2)) dL_law_436 rfl rfl (by omega) (by omega) (by rw [hx]) ?_
      refine ev_aload_n (pc' := 438) (i := 0) dL_law_437 rfl rfl rfl ?_
      refine ev_iload_n (pc' := 439) (i := 3) dL_law_438 rfl rfl rfl ?_
      refine ev_iconst (pc' := 440) (v := 3) dL_law_439 rfl ki_3 ?_
      refine ev_iadd (pc' := 441) (v := nI ((6 * k) + 3)) dL_law_440 rfl (nI_add (6 * k) 3) ?_
      refine ev_sld (pc' := 442) (j := (6 * k) + 3) (v := xs ((6 * k) + 3)) dL_law_441 rfl rfl (by omega) (by omega) (by rw [hx]) ?_
      refine ev_callV (pc' := 445) (rm' := rX7_table) (b := 3) (av := [.int (xs ((6 * k) + 1)), .int (xs ((6 * k) + 2)), .int (xs ((6 * k) + 3))]) (rest := []) co_L_41 ci_X7_table cv_X7_table dL_law_442 rfl hs_3 hb_X7 rfl rfl (Nat.le_of_ble_eq_true rfl) ⟨(Nat.le_of_ble_eq_true rfl), (Nat.le_of_ble_eq_true rfl)⟩ ⟨(Nat.le_of_ble_eq_true rfl), (Nat.le_of_ble_eq_true rfl)⟩ ?_
      refine p_table hI (xs ((6 * k) + 1)) (xs ((6 * k) + 2)) (xs ((6 * k) + 3)) (fun r I1 L1 kM => ?_)
      refine ev_aload_n (pc' := 446) (i := 2) dL_law_445 rfl rfl rfl ?_
      refine ev_aload_n (pc' := 447) (i := 0) dL_law_446 rfl rfl rfl ?_
      refine ev_iload_n (pc' := 448) (i := 3) dL_law_447 rfl rfl rfl ?_
      refine ev_iconst (pc' := 449) (v := 1) dL_law_448 rfl ki_1 ?_
      refine ev_iadd (pc' := 450) (v := nI ((6 * k) + 1)) dL_law_449 rfl (nI_add (6 * k) 1) ?_
      refine ev_sld (pc' := 451) (j := (6 * k) + 1) (v := xs ((6 * k) + 1)) dL_law_450 rfl rfl (by omega) (by omega) (by rw [hx]) ?_
      refine ev_aload_n (pc' := 452) (i := 0) dL_law_451 rfl rfl rfl ?_
      refine ev_iload_n (pc' := 453) (i := 3) dL_law_452 rfl rfl rfl ?_
      refine ev_iconst (pc' := 454) (v := 2) dL_law_453 rfl ki_2 ?_
      refine ev_iadd (pc' := 455) (v := nI ((6 * k) + 2)) dL_law_454 rfl (nI_add (6 * k) 2) ?_
      refine ev_sld (pc' := 456) (j := (6 * k) + 2) (v := xs ((6 * k) + 2)) dL_law_455 rfl rfl (by omega) (by omega) (by rw [hx]) ?_
      refine ev_aload_n (pc' := 457) (i := 0) dL_law_456 rfl rfl rfl ?_
      refine ev_iload_n (pc' := 458) (i := 3) dL_law_457 rfl rfl rfl ?_
      refine ev_iconst (pc' := 459) (v := 3) dL_law_458 rfl ki_3 ?_
      refine ev_iadd (pc' := 460) (v := nI ((6 * k) + 3)) dL_law_459 rfl (nI_add (6 * k) 3) ?_
      refine ev_sld (pc' := 461) (j := (6 * k) + 3) (v := xs ((6 * k) + 3)) dL_law_460 rfl rfl (by omega) (by omega) (by rw [hx]) ?_
      refine ev_callV (pc' := 464) (rm' := rX8_table) (b := 115) (av := [.int (xs ((6 * k) + 1)), .int (xs ((6 * k) + 2)), .int (xs ((6 * k) + 3))]) (rest := [.int r]) co_L_44 ci_X8_table cv_X8_table dL_law_461 rfl hs_115 hb_X8 rfl rfl (Nat.le_of_ble_eq_true rfl) ⟨(Nat.le_of_ble_eq_true rfl), (Nat.le_of_ble_eq_true rfl)⟩ ⟨(Nat.le_of_ble_eq_true rfl), (Nat.le_of_ble_eq_true rfl)⟩ ?_
      refine kM (fun I2 L2 hI2 => ?_)
      refine ev_icmp_eq (tgt := 1531) (pc' := 467) dL_law_464 rfl rfl (fun _ => ?_) (fun h => absurd rfl h)
      exact K _ _ hI2
    by_cases c9 : x1 = 7
    · refine ev_tswIn (off := 436) (tgt := 469) dL_law_33 (by rw [c9]; decide) (by rw [c9]; decide) (by rw [c9]; rfl) rfl ?_
      refine ev_aload_n (pc' := 470) (i := 1) dL_law_469 rfl rfl rfl ?_
      refine ev_aload_n (pc' := 471) (i := 0) dL_law_470 rfl rfl rfl ?_
      refine ev_iload_n (pc' := 472) (i := 3) dL_law_471 rfl rfl rfl ?_
      refine ev_iconst (pc' := 473) (v := 1) dL_law_472 rfl ki_1 ?_
      refine ev_iadd (pc' := 474) (v := nI ((6 * k) + 1)) dL_law_473 rfl (nI_add (6 * k) 1) ?_
      refine ev_sld (pc' := 475) (j := (6 * k) + 1) (v := xs ((6 * k) + 1)) dL_law_474 rfl rfl (by omega) (by omega) (by rw [hx]) ?_
      refine ev_aload_n (pc' := 476) (i := 0) dL_law_475 rfl rfl rfl ?_
      refine ev_iload_n (pc' := 477) (i := 3) dL_law_476 rfl rfl rfl ?_
      refine ev_iconst (pc' := 478) (v := 2) dL_law_477 rfl ki_2 ?_
      refine ev_iadd (pc' := 479) (v := nI ((6 * k) + 2)) dL_law_478 rfl (nI_add (6 * k) 2) ?_
      refine ev_sld (pc' := 480) (j := (6 * k) + 2) (v := xs ((6 * k) + 2)) dL_law_479 rfl rfl (by omega) (by omega) (by rw [hx]) ?_
      refine ev_callV (pc' := 483) (rm' := rX7_told) (b := 3) (av := [.int (xs ((6 * k) + 1)), .int (xs ((6 * k) + 2))]) (rest := []) co_L_45 ci_X7_told cv_X7_told dL_law_480 rfl hs_3 hb_X7 rfl rfl (Nat.le_of_ble_eq_true rfl) ⟨(Nat.le_of_ble_eq_true rfl), (Nat.le_of_ble_eq_true rfl)⟩ ⟨(Nat.le_of_ble_eq_true rfl), (Nat.le_of_ble_eq_true rfl)⟩ ?_
      refine p_told hI (xs ((6 * k) + 1)) (xs ((6 * k) + 2)) (fun r I1 L1 kM => ?_)
      refine ev_aload_n (pc' := 484) (i := 2) dL_law_483 rfl rfl rfl ?_
      refine ev_aload_n (pc' := 485) (i := 0) dL_law_484 rfl rfl rfl ?_
      refine ev_iload_n (pc' := 486) (i := 3) dL_law_485 rfl rfl rfl ?_
      refine ev_iconst (pc' := 487) (v := 1) dL_law_486 rfl ki_1 ?_
      refine ev_iadd (pc' := 488) (v := nI ((6 * k) + 1)) dL_law_487 rfl (nI_add (6 * k) 1) ?_
      refine ev_sld (pc' := 489) (j := (6 * k) + 1) (v := xs ((6 * k) + 1)) dL_law_488 rfl rfl (by omega) (by omega) (by rw [hx]) ?_
      refine ev_aload_n (pc' := 490) (i := 0) dL_law_489 rfl rfl rfl ?_
      refine ev_iload_n (pc' := 491) (i := 3) dL_law_490 rfl rfl rfl ?_
      refine ev_iconst (pc' := 492) (v := 2) dL_law_491 rfl ki_2 ?_
      refine ev_iadd (pc' := 493) (v := nI ((6 * k) + 2)) dL_law_492 rfl (nI_add (6 * k) 2) ?_
      refine ev_sld (pc' := 494) (j := (6 * k) + 2) (v := xs ((6 * k) + 2)) dL_law_493 rfl rfl (by omega) (by omega) (by rw [hx]) ?_
      refine ev_callV (pc' := 497) (rm' := rX8_told) (b := 115) (av := [.int (xs ((6 * k) + 1)), .int (xs ((6 * k) + 2))]) (rest := [.int r]) co_L_48 ci_X8_told cv_X8_told dL_law_494 rfl hs_115 hb_X8 rfl rfl (Nat.le_of_ble_eq_true rfl) ⟨(Nat.le_of_ble_eq_true rfl), (Nat.le_of_ble_eq_true rfl)⟩ ⟨(Nat.le_of_ble_eq_true rfl), (Nat.le_of_ble_eq_true rfl)⟩ ?_
      refine kM (fun I2 L2 hI2 => ?_)
      refine ev_icmp_eq (tgt := 1531) (pc' := 500) dL_law_497 rfl rfl (fun _ => ?_) (fun h => absurd rfl h)
      exact K _ _ hI2
    by_cases c10 : x1 = 8
    · refine ev_tswIn (off := 469) (tgt := 502) dL_law_33 (by rw [c10]; decide) (by rw [c10]; decide) (by rw [c10]; rfl) rfl ?_
      refine ev_aload_n (pc' := 503) (i := 1) dL_law_502 rfl rfl rfl ?_
      refine ev_aload_n (pc' := 504) (i := 0) dL_law_503 rfl rfl rfl ?_
      refine ev_iload_n (pc' := 505) (i := 3) dL_law_504 rfl rfl rfl ?_
      refine ev_iconst (pc' := 506) (v := 1) dL_law_505 rfl ki_1 ?_
      refine ev_iadd (pc' := 507) (v := nI ((6 * k) + 1)) dL_law_506 rfl (nI_add (6 * k) 1) ?_
      refine ev_sld (pc' := 508) (j := (6 * k) + 1) (v := xs ((6 * k) + 1)) dL_law_507 rfl rfl (by omega) (by omega) (by rw [hx]) ?_
      refine ev_aload_n (pc' := 509) (i := 0) dL_law_508 rfl rfl rfl ?_
      refine ev_iload_n (pc' := 510) (i := 3) dL_law_509 rfl rfl rfl ?_
      refine ev_iconst (pc' := 511) (v := 2) dL_law_510 rfl ki_2 ?_
      refine ev_iadd (pc' := 512) (v := nI ((6 * k) + 2)) dL_law_511 rfl (nI_add (6 * k) 2) ?_
      refine ev_sld (pc' := 513) (j := (6 * k) + 2) (v := xs ((6 * k) + 2)) dL_law_512 rfl rfl (by omega) (by omega) (by rw [hx]) ?_
      refine ev_callV (pc' := 516) (rm' := rX7_mark) (b := 3) (av := [.int (xs ((6 * k) + 1)), .int (xs ((6 * k) + 2))]) (rest := []) co_L_49 ci_X7_mark cv_X7_mark dL_law_513 rfl hs_3 hb_X7 rfl rfl (Nat.le_of_ble_eq_true rfl) ⟨(Nat.le_of_ble_eq_true rfl), (Nat.le_of_ble_eq_true rfl)⟩ ⟨(Nat.le_of_ble_eq_true rfl), (Nat.le_of_ble_eq_true rfl)⟩ ?_
      refine p_mark hI (xs ((6 * k) + 1)) (xs ((6 * k) + 2)) (fun r I1 L1 kM => ?_)
      refine ev_aload_n (pc' := 517) (i := 2) dL_law_516 rfl rfl rfl ?_
      refine ev_aload_n (pc' := 518) (i := 0) dL_law_517 rfl rfl rfl ?_
      refine ev_iload_n (pc' := 519) (i := 3) dL_law_518 rfl rfl rfl ?_
      refine ev_iconst (pc' := 520) (v := 1) dL_law_519 rfl ki_1 ?_
      refine ev_iadd (pc' := 521) (v := nI ((6 * k) + 1)) dL_law_520 rfl (nI_add (6 * k) 1) ?_
      refine ev_sld (pc' := 522) (j := (6 * k) + 1) (v := xs ((6 * k) + 1)) dL_law_521 rfl rfl (by omega) (by omega) (by rw [hx]) ?_
      refine ev_aload_n (pc' := 523) (i := 0) dL_law_522 rfl rfl rfl ?_
      refine ev_iload_n (pc' := 524) (i := 3) dL_law_523 rfl rfl rfl ?_
      refine ev_iconst (pc' := 525) (v := 2) dL_law_524 rfl ki_2 ?_
      refine ev_iadd (pc' := 526) (v := nI ((6 * k) + 2)) dL_law_525 rfl (nI_add (6 * k) 2) ?_
      refine ev_sld (pc' := 527) (j := (6 * k) + 2) (v := xs ((6 * k) + 2)) dL_law_526 rfl rfl (by omega) (by omega) (by rw [hx]) ?_
      refine ev_callV (pc' := 530) (rm' := rX8_mark) (b := 115) (av := [.int (xs ((6 * k) + 1)), .int (xs ((6 * k) + 2))]) (rest := [.int r]) co_L_52 ci_X8_mark cv_X8_mark dL_law_527 rfl hs_115 hb_X8 rfl rfl (Nat.le_of_ble_eq_true rfl) ⟨(Nat.le_of_ble_eq_true rfl), (Nat.le_of_ble_eq_true rfl)⟩ ⟨(Nat.le_of_ble_eq_true rfl), (Nat.le_of_ble_eq_true rfl)⟩ ?_
      refine kM (fun I2 L2 hI2 => ?_)
      refine ev_icmp_eq (tgt := 1531) (pc' := 533) dL_law_530 rfl rfl (fun _ => ?_) (fun h => absurd rfl h)
      exact K _ _ hI2
    by_cases c11 : x1 = 9
    · refine ev_tswIn (off := 502) (tgt := 535) dL_law_33 (by rw [c11]; decide) (by rw [c11]; decide) (by rw [c11]; rfl) rfl ?_
      refine ev_aload_n (pc' := 536) (i := 1) dL_law_535 rfl rfl rfl ?_
      refine ev_aload_n (pc' := 537) (i := 0) dL_law_536 rfl rfl rfl ?_
      refine ev_iload_n (pc' := 538) (i := 3) dL_law_537 rfl rfl rfl ?_
      refine ev_iconst (pc' := 539) (v := 1) dL_law_538 rfl ki_1 ?_
      refine ev_iadd (pc' := 540) (v := nI ((6 * k) + 1)) dL_law_539 rfl (nI_add (6 * k) 1) ?_
      refine ev_sld (pc' := 541) (j := (6 * k) + 1) (v := xs ((6 * k) + 1)) dL_law_540 rfl rfl (by omega) (by omega) (by rw [hx]) ?_
      refine ev_callV (pc' := 544) (rm' := rX7_turn) (b := 3) (av := [.int (xs ((6 * k) + 1))]) (rest := []) co_L_53 ci_X7_turn cv_X7_turn dL_law_541 rfl hs_3 hb_X7 rfl rfl (Nat.le_of_ble_eq_true rfl) ⟨(Nat.le_of_ble_eq_true rfl), (Nat.le_of_ble_eq_true rfl)⟩ ⟨(Nat.le_of_ble_eq_true rfl), (Nat.le_of_ble_eq_true rfl)⟩ ?_
      refine p_turn hI (xs ((6 * k) + 1)) (fun r I1 L1 kM => ?_)
      refine ev_aload_n (pc' := 545) (i := 2) dL_law_544 rfl rfl rfl ?_
      refine ev_aload_n (pc' := 546) (i := 0) dL_law_545 rfl rfl rfl ?_
      refine ev_iload_n (pc' := 547) (i := 3) dL_law_546 rfl rfl rfl ?_
      refine ev_iconst (pc' := 548) (v := 1) dL_law_547 rfl ki_1 ?_
      refine ev_iadd (pc' := 549) (v := nI ((6 * k) + 1)) dL_law_548 rfl (nI_add (6 * k) 1) ?_
      refine ev_sld (pc' := 550) (j := (6 * k) + 1) (v := xs ((6 * k) + 1)) dL_law_549 rfl rfl (by omega) (by omega) (by rw [hx]) ?_
      refine ev_callV (pc' := 553) (rm' := rX8_turn) (b := 115) (av := [.int (xs ((6 * k) + 1))]) (rest := [.int r]) co_L_56 ci_X8_turn cv_X8_turn dL_law_550 rfl hs_115 hb_X8 rfl rfl (Nat.le_of_ble_eq_true rfl) ⟨(Nat.le_of_ble_eq_true rfl), (Nat.le_of_ble_eq_true rfl)⟩ ⟨(Nat.le_of_ble_eq_true rfl), (Nat.le_of_ble_eq_true rfl)⟩ ?_
      refine kM (fun I2 L2 hI2 => ?_)
      refine ev_icmp_eq (tgt := 1531) (pc' := 556) dL_law_553 rfl rfl (fun _ => ?_) (fun h => absurd rfl h)
      exact K _ _ hI2
    by_cases c12 : x1 = 10
    · refine ev_tswIn (off := 525) (tgt := 558) dL_law_33 (by rw [c12]; decide) (by rw [c12]; decide) (by rw [c12]; rfl) rfl ?_
      refine ev_aload_n (pc' := 559) (i := 1) dL_law_558 rfl rfl rfl ?_
      refine ev_aload_n (pc' := 560) (i := 0) dL_law_559 rfl rfl rfl ?_
      refine ev_iload_n (pc' := 561) (i := 3) dL_law_560 rfl rfl rfl ?_
      refine ev_iconst (pc' := 562) (v := 1) dL_law_561 rfl ki_1 ?_
      refine ev_iadd (pc' := 563) (v := nI ((6 * k) + 1)) dL_law_562 rfl (nI_add (6 * k) 1) ?_
      refine ev_sld (pc' := 564) (j := (6 * k) + 1) (v := xs ((6 * k) + 1)) dL_law_563 rfl rfl (by omega) (by omega) (by rw [hx]) ?_
      refine ev_aload_n (pc' := 565) (i := 0) dL_law_564 rfl rfl rfl ?_
      refine ev_iload_n (pc' := 566) (i := 3) dL_law_565 rfl rfl rfl ?_
      refine ev_iconst (pc' := 567) (v := 2) dL_law_566 rfl ki_2 ?_
      refine ev_iadd (pc' := 568) (v := nI ((6 * k) + 2)) dL_law_567 rfl (nI_add (6 * k) 2) ?_
      refine ev_sld (pc' := 569) (j := (6 * k) + 2) (v := xs ((6 * k) + 2)) dL_law_568 rfl rfl (by omega) (by omega) (by rw [hx]) ?_
      refine ev_aload_n (pc' := 570) (i := 0) dL_law_569 rfl rfl rfl ?_
      refine ev_iload_n (pc' := 571) (i := 3) dL_law_570 rfl rfl rfl ?_
      refine ev_iconst (pc' := 572) (v := 3) dL_law_571 rfl ki_3 ?_
      refine ev_iadd (pc' := 573) (v := nI ((6 * k) + 3)) dL_law_572 rfl (nI_add (6 * k) 3) ?_
      refine ev_sld (pc' := 574) (j := (6 * k) + 3) (v := xs ((6 * k) + 3)) dL_law_573 rfl rfl (by omega) (by omega) (by rw [hx]) ?_
      refine ev_aload_n (pc' := 575) (i := 0) dL_law_574 rfl rfl rfl ?_
      refine ev_iload_n (pc' := 576) (i := 3) dL_law_575 rfl rfl rfl ?_
      refine ev_iconst (pc' := 577) (v := 4) dL_law_576 rfl ki_4 ?_
      refine ev_iadd (pc' := 578) (v := nI ((6 * k) + 4)) dL_law_577 rfl (nI_add (6 * k) 4) ?_
      refine ev_sld (pc' := 579) (j := (6 * k) + 4) (v := xs ((6 * k) + 4)) dL_law_578 rfl rfl (by omega) (by omega) (by rw [hx]) ?_
      refine ev_callV (pc' := 582) (rm' := rX7_shear) (b := 3) (av := [.int (xs ((6 * k) + 1)), .int (xs ((6 * k) + 2)), .int (xs ((6 * k) + 3)), .int (xs ((6 * k) + 4))]) (rest := []) co_L_57 ci_X7_shear cv_X7_shear dL_law_579 rfl hs_3 hb_X7 rfl rfl (Nat.le_of_ble_eq_true rfl) ⟨(Nat.le_of_ble_eq_true rfl), (Nat.le_of_ble_eq_true rfl)⟩ ⟨(Nat.le_of_ble_eq_true rfl), (Nat.le_of_ble_eq_true rfl)⟩ ?_
      refine p_shear hI (xs ((6 * k) + 1)) (xs ((6 * k) + 2)) (xs ((6 * k) + 3)) (xs ((6 * k) + 4)) (fun r I1 L1 kM => ?_)
      refine ev_aload_n (pc' := 583) (i := 2) dL_law_582 rfl rfl rfl ?_
      refine ev_aload_n (pc' := 584) (i := 0) dL_law_583 rfl rfl rfl ?_
      refine ev_iload_n (pc' := 585) (i := 3) dL_law_584 rfl rfl rfl ?_
      refine ev_iconst (pc' := 586) (v := 1) dL_law_585 rfl ki_1 ?_
      refine ev_iadd (pc' := 587) (v := nI ((6 * k) + 1)) dL_law_586 rfl (nI_add (6 * k) 1) ?_
      refine ev_sld (pc' := 588) (j := (6 * k) + 1) (v := xs ((6 * k) + 1)) dL_law_587 rfl rfl (by omega) (by omega) (by rw [hx]) ?_
      refine ev_aload_n (pc' := 589) (i := 0) dL_law_588 rfl rfl rfl ?_
      refine ev_iload_n (pc' := 590) (i := 3) dL_law_589 rfl rfl rfl ?_
      refine ev_iconst (pc' := 591) (v := 2) dL_law_590 rfl ki_2 ?_
      refine ev_iadd (pc' := 592) (v := nI ((6 * k) + 2)) dL_law_591 rfl (nI_add (6 * k) 2) ?_
      refine ev_sld (pc' := 593) (j := (6 * k) + 2) (v := xs ((6 * k) + 2)) dL_law_592 rfl rfl (by omega) (by omega) (by rw [hx]) ?_
      refine ev_aload_n (pc' := 594) (i := 0) dL_law_593 rfl rfl rfl ?_
      refine ev_iload_n (pc' := 595) (i := 3) dL_law_594 rfl rfl rfl ?_
      refine ev_iconst (pc' := 596) (v := 3) dL_law_595 rfl ki_3 ?_
      refine ev_iadd (pc' := 597) (v := nI ((6 * k) + 3)) dL_law_596 rfl (nI_add (6 * k) 3) ?_
      refine ev_sld (pc' := 598) (j := (6 * k) + 3) (v := xs ((6 * k) + 3)) dL_law_597 rfl rfl (by omega) (by omega) (by rw [hx]) ?_
      refine ev_aload_n (pc' := 599) (i := 0) dL_law_598 rfl rfl rfl ?_
      refine ev_iload_n (pc' := 600) (i := 3) dL_law_599 rfl rfl rfl ?_
      refine ev_iconst (pc' := 601) (v := 4) dL_law_600 rfl ki_4 ?_
      refine ev_iadd (pc' := 602) (v := nI ((6 * k) + 4)) dL_law_601 rfl (nI_add (6 * k) 4) ?_
      refine ev_sld (pc' := 603) (j := (6 * k) + 4) (v := xs ((6 * k) + 4)) dL_law_602 rfl rfl (by omega) (by omega) (by rw [hx]) ?_
      refine ev_callV (pc' := 606) (rm' := rX8_shear) (b := 115) (av := [.int (xs ((6 * k) + 1)), .int (xs ((6 * k) + 2)), .int (xs ((6 * k) + 3)), .int (xs ((6 * k) + 4))]) (rest := [.int r]) co_L_61 ci_X8_shear cv_X8_shear dL_law_603 rfl hs_115 hb_X8 rfl rfl (Nat.le_of_ble_eq_true rfl) ⟨(Nat.le_of_ble_eq_true rfl), (Nat.le_of_ble_eq_true rfl)⟩ ⟨(Nat.le_of_ble_eq_true rfl), (Nat.le_of_ble_eq_true rfl)⟩ ?_
      refine kM (fun I2 L2 hI2 => ?_)
      refine ev_icmp_eq (tgt := 1531) (pc' := 609) dL_law_606 rfl rfl (fun _ => ?_) (fun h => absurd rfl h)
      exact K _ _ hI2
    by_cases c13 : x1 = 11
    · refine ev_tswIn (off := 578) (tgt := 611) dL_law_33 (by rw [c13]; decide) (by rw [c13]; decide) (by rw [c13]; rfl) rfl ?_
      refine ev_aload_n (pc' := 612) (i := 1) dL_law_611 rfl rfl rfl ?_
      refine ev_aload_n (pc' := 613) (i := 0) dL_law_612 rfl rfl rfl ?_
      refine ev_iload_n (pc' := 614) (i := 3) dL_law_613 rfl rfl rfl ?_
      refine ev_iconst (pc' := 615) (v := 1) dL_law_614 rfl ki_1 ?_
      refine ev_iadd (pc' := 616) (v := nI ((6 * k) + 1)) dL_law_615 rfl (nI_add (6 * k) 1) ?_
      refine ev_sld (pc' := 617) (j := (6 * k) + 1) (v := xs ((6 * k) + 1)) dL_law_616 rfl rfl (by omega) (by omega) (by rw [hx]) ?_
      refine ev_aload_n (pc' := 618) (i := 0) dL_law_617 rfl rfl rfl ?_
      refine ev_iload_n (pc' := 619) (i := 3) dL_law_618 rfl rfl rfl ?_
      refine ev_iconst (pc' := 620) (v := 2) dL_law_619 rfl ki_2 ?_
      refine ev_iadd (pc' := 621) (v := nI ((6 * k) + 2)) dL_law_620 rfl (nI_add (6 * k) 2) ?_
      refine ev_sld (pc' := 622) (j := (6 * k) + 2) (v := xs ((6 * k) + 2)) dL_law_621 rfl rfl (by omega) (by omega) (by rw [hx]) ?_
      refine ev_aload_n (pc' := 623) (i := 0) dL_law_622 rfl rfl rfl ?_
      refine ev_iload_n (pc' := 624) (i := 3) dL_law_623 rfl rfl rfl ?_
      refine ev_iconst (pc' := 625) (v := 3) dL_law_624 rfl ki_3 ?_
      refine ev_iadd (pc' := 626) (v := nI ((6 * k) + 3)) dL_law_625 rfl (nI_add (6 * k) 3) ?_
      refine ev_sld (pc' := 627) (j := (6 * k) + 3) (v := xs ((6 * k) + 3)) dL_law_626 rfl rfl (by omega) (by omega) (by rw [hx]) ?_
      refine ev_callV (pc' := 630) (rm' := rX7_swap) (b := 3) (av := [.int (xs ((6 * k) + 1)), .int (xs ((6 * k) + 2)), .int (xs ((6 * k) + 3))]) (rest := []) co_L_62 ci_X7_swap cv_X7_swap dL_law_627 rfl hs_3 hb_X7 rfl rfl (Nat.le_of_ble_eq_true rfl) ⟨(Nat.le_of_ble_eq_true rfl), (Nat.le_of_ble_eq_true rfl)⟩ ⟨(Nat.le_of_ble_eq_true rfl), (Nat.le_of_ble_eq_true rfl)⟩ ?_
      refine p_swap hI (xs ((6 * k) + 1)) (xs ((6 * k) + 2)) (xs ((6 * k) + 3)) (fun r I1 L1 kM => ?_)
      refine ev_aload_n (pc' := 631) (i := 2) dL_law_630 rfl rfl rfl ?_
      refine ev_aload_n (pc' := 632) (i := 0) dL_law_631 rfl rfl rfl ?_
      refine ev_iload_n (pc' := 633) (i := 3) dL_law_632 rfl rfl rfl ?_
      refine ev_iconst (pc' := 634) (v := 1) dL_law_633 rfl ki_1 ?_
      refine ev_iadd (pc' := 635) (v := nI ((6 * k) + 1)) dL_law_634 rfl (nI_add (6 * k) 1) ?_
      refine ev_sld (pc' := 636) (j := (6 * k) + 1) (v := xs ((6 * k) + 1)) dL_law_635 rfl rfl (by omega) (by omega) (by rw [hx]) ?_
      refine ev_aload_n (pc' := 637) (i := 0) dL_law_636 rfl rfl rfl ?_
      refine ev_iload_n (pc' := 638) (i := 3) dL_law_637 rfl rfl rfl ?_
      refine ev_iconst (pc' := 639) (v := 2) dL_law_638 rfl ki_2 ?_
      refine ev_iadd (pc' := 640) (v := nI ((6 * k) + 2)) dL_law_639 rfl (nI_add (6 * k) 2) ?_
      refine ev_sld (pc' := 641) (j := (6 * k) + 2) (v := xs ((6 * k) + 2)) dL_law_640 rfl rfl (by omega) (by omega) (by rw [hx]) ?_
      refine ev_aload_n (pc' := 642) (i := 0) dL_law_641 rfl rfl rfl ?_
      refine ev_iload_n (pc' := 643) (i := 3) dL_law_642 rfl rfl rfl ?_
      refine ev_iconst (pc' := 644) (v := 3) dL_law_643 rfl ki_3 ?_
      refine ev_iadd (pc' := 645) (v := nI ((6 * k) + 3)) dL_law_644 rfl (nI_add (6 * k) 3) ?_
      refine ev_sld (pc' := 646) (j := (6 * k) + 3) (v := xs ((6 * k) + 3)) dL_law_645 rfl rfl (by omega) (by omega) (by rw [hx]) ?_
      refine ev_callV (pc' := 649) (rm' := rX8_swap) (b := 115) (av := [.int (xs ((6 * k) + 1)), .int (xs ((6 * k) + 2)), .int (xs ((6 * k) + 3))]) (rest := [.int r]) co_L_65 ci_X8_swap cv_X8_swap dL_law_646 rfl hs_115 hb_X8 rfl rfl (Nat.le_of_ble_eq_true rfl) ⟨(Nat.le_of_ble_eq_true rfl), (Nat.le_of_ble_eq_true rfl)⟩ ⟨(Nat.le_of_ble_eq_true rfl), (Nat.le_of_ble_eq_true rfl)⟩ ?_
      refine kM (fun I2 L2 hI2 => ?_)
      refine ev_icmp_eq (tgt := 1531) (pc' := 652) dL_law_649 rfl rfl (fun _ => ?_) (fun h => absurd rfl h)
      exact K _ _ hI2
    by_cases c14 : x1 = 12
    · refine ev_tswIn (off := 621) (tgt := 654) dL_law_33 (by rw [c14]; decide) (by rw [c14]; decide) (by rw [c14]; rfl) rfl ?_
      refine ev_aload_n (pc' := 655) (i := 1) dL_law_654 rfl rfl rfl ?_
      refine ev_aload_n (pc' := 656) (i := 0) dL_law_655 rfl rfl rfl ?_
      refine ev_iload_n (pc' := 657) (i := 3) dL_law_656 rfl rfl rfl ?_
      refine ev_iconst (pc' := 658) (v := 1) dL_law_657 rfl ki_1 ?_
      refine ev_iadd (pc' := 659) (v := nI ((6 * k) + 1)) dL_law_658 rfl (nI_add (6 * k) 1) ?_
      refine ev_sld (pc' := 660) (j := (6 * k) + 1) (v := xs ((6 * k) + 1)) dL_law_659 rfl rfl (by omega) (by omega) (by rw [hx]) ?_
      refine ev_aload_n (pc' := 661) (i := 0) dL_law_660 rfl rfl rfl ?_
      refine ev_iload_n (pc' := 662) (i := 3) dL_law_661 rfl rfl rfl ?_
      refine ev_iconst (pc' := 663) (v := 2) dL_law_662 rfl ki_2 ?_
      refine ev_iadd (pc' := 664) (v := nI ((6 * k) + 2)) dL_law_663 rfl (nI_add (6 * k) 2) ?_
      refine ev_sld (pc' := 665) (j := (6 * k) + 2) (v := xs ((6 * k) + 2)) dL_law_664 rfl rfl (by omega) (by omega) (by rw [hx]) ?_
      refine ev_callV (pc' := 668) (rm' := rX7_same) (b := 3) (av := [.int (xs ((6 * k) + 1)), .int (xs ((6 * k) + 2))]) (rest := []) co_L_66 ci_X7_same cv_X7_same dL_law_665 rfl hs_3 hb_X7 rfl rfl (Nat.le_of_ble_eq_true rfl) ⟨(Nat.le_of_ble_eq_true rfl), (Nat.le_of_ble_eq_true rfl)⟩ ⟨(Nat.le_of_ble_eq_true rfl), (Nat.le_of_ble_eq_true rfl)⟩ ?_
      refine p_same hI (xs ((6 * k) + 1)) (xs ((6 * k) + 2)) (fun r I1 L1 kM => ?_)
      refine ev_aload_n (pc' := 669) (i := 2) dL_law_668 rfl rfl rfl ?_
      refine ev_aload_n (pc' := 670) (i := 0) dL_law_669 rfl rfl rfl ?_
      refine ev_iload_n (pc' := 671) (i := 3) dL_law_670 rfl rfl rfl ?_
      refine ev_iconst (pc' := 672) (v := 1) dL_law_671 rfl ki_1 ?_
      refine ev_iadd (pc' := 673) (v := nI ((6 * k) + 1)) dL_law_672 rfl (nI_add (6 * k) 1) ?_
      refine ev_sld (pc' := 674) (j := (6 * k) + 1) (v := xs ((6 * k) + 1)) dL_law_673 rfl rfl (by omega) (by omega) (by rw [hx]) ?_
      refine ev_aload_n (pc' := 675) (i := 0) dL_law_674 rfl rfl rfl ?_
      refine ev_iload_n (pc' := 676) (i := 3) dL_law_675 rfl rfl rfl ?_
      refine ev_iconst (pc' := 677) (v := 2) dL_law_676 rfl ki_2 ?_
      refine ev_iadd (pc' := 678) (v := nI ((6 * k) + 2)) dL_law_677 rfl (nI_add (6 * k) 2) ?_
      refine ev_sld (pc' := 679) (j := (6 * k) + 2) (v := xs ((6 * k) + 2)) dL_law_678 rfl rfl (by omega) (by omega) (by rw [hx]) ?_
      refine ev_callV (pc' := 682) (rm' := rX8_same) (b := 115) (av := [.int (xs ((6 * k) + 1)), .int (xs ((6 * k) + 2))]) (rest := [.int r]) co_L_69 ci_X8_same cv_X8_same dL_law_679 rfl hs_115 hb_X8 rfl rfl (Nat.le_of_ble_eq_true rfl) ⟨(Nat.le_of_ble_eq_true rfl), (Nat.le_of_ble_eq_true rfl)⟩ ⟨(Nat.le_of_ble_eq_true rfl), (Nat.le_of_ble_eq_true rfl)⟩ ?_
      refine kM (fun I2 L2 hI2 => ?_)
      refine ev_icmp_eq (tgt := 1531) (pc' := 685) dL_law_682 rfl rfl (fun _ => ?_) (fun h => absurd rfl h)
      exact K _ _ hI2
    by_cases c15 : x1 = 13
    · refine ev_tswIn (off := 654) (tgt := 687) dL_law_33 (by rw [c15]; decide) (by rw [c15]; decide) (by rw [c15]; rfl) rfl ?_
      refine ev_aload_n (pc' := 688) (i := 1) dL_law_687 rfl rfl rfl ?_
      refine ev_aload_n (pc' := 689) (i := 0) dL_law_688 rfl rfl rfl ?_
      refine ev_iload_n (pc' := 690) (i := 3) dL_law_689 rfl rfl rfl ?_
      refine ev_iconst (pc' := 691) (v := 1) dL_law_690 rfl ki_1 ?_
      refine ev_iadd (pc' := 692) (v := nI ((6 * k) + 1)) dL_law_691 rfl (nI_add (6 * k) 1) ?_
      refine ev_sld (pc' := 693) (j := (6 * k) + 1) (v := xs ((6 * k) + 1)) dL_law_692 rfl rfl (by omega) (by omega) (by rw [hx]) ?_
      refine ev_aload_n (pc' := 694) (i := 0) dL_law_693 rfl rfl rfl ?_
      refine ev_iload_n (pc' := 695) (i := 3) dL_law_694 rfl rfl rfl ?_
      refine ev_iconst (pc' := 696) (v := 2) dL_law_695 rfl ki_2 ?_
      refine ev_iadd (pc' := 697) (v := nI ((6 * k) + 2)) dL_law_696 rfl (nI_add (6 * k) 2) ?_
      refine ev_sld (pc' := 698) (j := (6 * k) + 2) (v := xs ((6 * k) + 2)) dL_law_697 rfl rfl (by omega) (by omega) (by rw [hx]) ?_
      refine ev_callV (pc' := 701) (rm' := rX7_alike) (b := 3) (av := [.int (xs ((6 * k) + 1)), .int (xs ((6 * k) + 2))]) (rest := []) co_L_70 ci_X7_alike cv_X7_alike dL_law_698 rfl hs_3 hb_X7 rfl rfl (Nat.le_of_ble_eq_true rfl) ⟨(Nat.le_of_ble_eq_true rfl), (Nat.le_of_ble_eq_true rfl)⟩ ⟨(Nat.le_of_ble_eq_true rfl), (Nat.le_of_ble_eq_true rfl)⟩ ?_
      refine p_alike hI (xs ((6 * k) + 1)) (xs ((6 * k) + 2)) (fun r I1 L1 kM => ?_)
      refine ev_aload_n (pc' := 702) (i := 2) dL_law_701 rfl rfl rfl ?_
      refine ev_aload_n (pc' := 703) (i := 0) dL_law_702 rfl rfl rfl ?_
      refine ev_iload_n (pc' := 704) (i := 3) dL_law_703 rfl rfl rfl ?_
      refine ev_iconst (pc' := 705) (v := 1) dL_law_704 rfl ki_1 ?_
      refine ev_iadd (pc' := 706) (v := nI ((6 * k) + 1)) dL_law_705 rfl (nI_add (6 * k) 1) ?_
      refine ev_sld (pc' := 707) (j := (6 * k) + 1) (v := xs ((6 * k) + 1)) dL_law_706 rfl rfl (by omega) (by omega) (by rw [hx]) ?_
      refine ev_aload_n (pc' := 708) (i := 0) dL_law_707 rfl rfl rfl ?_
      refine ev_iload_n (pc' := 709) (i := 3) dL_law_708 rfl rfl rfl ?_
      refine ev_iconst (pc' := 710) (v := 2) dL_law_709 rfl ki_2 ?_
      refine ev_iadd (pc' := 711) (v := nI ((6 * k) + 2)) dL_law_710 rfl (nI_add (6 * k) 2) ?_
      refine ev_sld (pc' := 712) (j := (6 * k) + 2) (v := xs ((6 * k) + 2)) dL_law_711 rfl rfl (by omega) (by omega) (by rw [hx]) ?_
      refine ev_callV (pc' := 715) (rm' := rX8_alike) (b := 115) (av := [.int (xs ((6 * k) + 1)), .int (xs ((6 * k) + 2))]) (rest := [.int r]) co_L_73 ci_X8_alike cv_X8_alike dL_law_712 rfl hs_115 hb_X8 rfl rfl (Nat.le_of_ble_eq_true rfl) ⟨(Nat.le_of_ble_eq_true rfl), (Nat.le_of_ble_eq_true rfl)⟩ ⟨(Nat.le_of_ble_eq_true rfl), (Nat.le_of_ble_eq_true rfl)⟩ ?_
      refine kM (fun I2 L2 hI2 => ?_)
      refine ev_icmp_eq (tgt := 1531) (pc' := 718) dL_law_715 rfl rfl (fun _ => ?_) (fun h => absurd rfl h)
      exact K _ _ hI2
    by_cases c16 : x1 = 14
    · refine ev_tswIn (off := 687) (tgt := 720) dL_law_33 (by rw [c16]; decide) (by rw [c16]; decide) (by rw [c16]; rfl) rfl ?_
      refine ev_aload_n (pc' := 721) (i := 1) dL_law_720 rfl rfl rfl ?_
      refine ev_aload_n (pc' := 722) (i := 0) dL_law_721 rfl rfl rfl ?_
      refine ev_iload_n (pc' := 723) (i := 3) dL_law_722 rfl rfl rfl ?_
      refine ev_iconst (pc' := 724) (v := 1) dL_law_723 rfl ki_1 ?_
      refine ev_iadd (pc' := 725) (v := nI ((6 * k) + 1)) dL_law_724 rfl (nI_add (6 * k) 1) ?_
      refine ev_sld (pc' := 726) (j := (6 * k) + 1) (v := xs ((6 * k) + 1)) dL_law_725 rfl rfl (by omega) (by omega) (by rw [hx]) ?_
      refine ev_aload_n (pc' := 727) (i := 0) dL_law_726 rfl rfl rfl ?_
      refine ev_iload_n (pc' := 728) (i := 3) dL_law_727 rfl rfl rfl ?_
      refine ev_iconst (pc' := 729) (v := 2) dL_law_728 rfl ki_2 ?_
      refine ev_iadd (pc' := 730) (v := nI ((6 * k) + 2)) dL_law_729 rfl (nI_add (6 * k) 2) ?_
      refine ev_sld (pc' := 731) (j := (6 * k) + 2) (v := xs ((6 * k) + 2)) dL_law_730 rfl rfl (by omega) (by omega) (by rw [hx]) ?_
      refine ev_callV (pc' := 734) (rm' := rX7_value) (b := 3) (av := [.int (xs ((6 * k) + 1)), .int (xs ((6 * k) + 2))]) (rest := []) co_L_74 ci_X7_value cv_X7_value dL_law_731 rfl hs_3 hb_X7 rfl rfl (Nat.le_of_ble_eq_true rfl) ⟨(Nat.le_of_ble_eq_true rfl), (Nat.le_of_ble_eq_true rfl)⟩ ⟨(Nat.le_of_ble_eq_true rfl), (Nat.le_of_ble_eq_true rfl)⟩ ?_
      refine p_value hI (xs ((6 * k) + 1)) (xs ((6 * k) + 2)) (fun r I1 L1 kM => ?_)
      refine ev_aload_n (pc' := 735) (i := 2) dL_law_734 rfl rfl rfl ?_
      refine ev_aload_n (pc' := 736) (i := 0) dL_law_735 rfl rfl rfl ?_
      refine ev_iload_n (pc' := 737) (i := 3) dL_law_736 rfl rfl rfl ?_
      refine ev_iconst (pc' := 738) (v := 1) dL_law_737 rfl ki_1 ?_
      refine ev_iadd (pc' := 739) (v := nI ((6 * k) + 1)) dL_law_738 rfl (nI_add (6 * k) 1) ?_
      refine ev_sld (pc' := 740) (j := (6 * k) + 1) (v := xs ((6 * k) + 1)) dL_law_739 rfl rfl (by omega) (by omega) (by rw [hx]) ?_
      refine ev_aload_n (pc' := 741) (i := 0) dL_law_740 rfl rfl rfl ?_
      refine ev_iload_n (pc' := 742) (i := 3) dL_law_741 rfl rfl rfl ?_
      refine ev_iconst (pc' := 743) (v := 2) dL_law_742 rfl ki_2 ?_
      refine ev_iadd (pc' := 744) (v := nI ((6 * k) + 2)) dL_law_743 rfl (nI_add (6 * k) 2) ?_
      refine ev_sld (pc' := 745) (j := (6 * k) + 2) (v := xs ((6 * k) + 2)) dL_law_744 rfl rfl (by omega) (by omega) (by rw [hx]) ?_
      refine ev_callV (pc' := 748) (rm' := rX8_value) (b := 115) (av := [.int (xs ((6 * k) + 1)), .int (xs ((6 * k) + 2))]) (rest := [.int r]) co_L_77 ci_X8_value cv_X8_value dL_law_745 rfl hs_115 hb_X8 rfl rfl (Nat.le_of_ble_eq_true rfl) ⟨(Nat.le_of_ble_eq_true rfl), (Nat.le_of_ble_eq_true rfl)⟩ ⟨(Nat.le_of_ble_eq_true rfl), (Nat.le_of_ble_eq_true rfl)⟩ ?_
      refine kM (fun I2 L2 hI2 => ?_)
      refine ev_icmp_eq (tgt := 1531) (pc' := 751) dL_law_748 rfl rfl (fun _ => ?_) (fun h => absurd rfl h)
      exact K _ _ hI2
    by_cases c17 : x1 = 15
    · refine ev_tswIn (off := 720) (tgt := 753) dL_law_33 (by rw [c17]; decide) (by rw [c17]; decide) (by rw [c17]; rfl) rfl ?_
      refine ev_aload_n (pc' := 754) (i := 1) dL_law_753 rfl rfl rfl ?_
      refine ev_aload_n (pc' := 755) (i := 0) dL_law_754 rfl rfl rfl ?_
      refine ev_iload_n (pc' := 756) (i := 3) dL_law_755 rfl rfl rfl ?_
      refine ev_iconst (pc' := 757) (v := 1) dL_law_756 rfl ki_1 ?_
      refine ev_iadd (pc' := 758) (v := nI ((6 * k) + 1)) dL_law_757 rfl (nI_add (6 * k) 1) ?_
      refine ev_sld (pc' := 759) (j := (6 * k) + 1) (v := xs ((6 * k) + 1)) dL_law_758 rfl rfl (by omega) (by omega) (by rw [hx]) ?_
      refine ev_aload_n (pc' := 760) (i := 0) dL_law_759 rfl rfl rfl ?_
      refine ev_iload_n (pc' := 761) (i := 3) dL_law_760 rfl rfl rfl ?_
      refine ev_iconst (pc' := 762) (v := 2) dL_law_761 rfl ki_2 ?_
      refine ev_iadd (pc' := 763) (v := nI ((6 * k) + 2)) dL_law_762 rfl (nI_add (6 * k) 2) ?_
      refine ev_sld (pc' := 764) (j := (6 * k) + 2) (v := xs ((6 * k) + 2)) dL_law_763 rfl rfl (by omega) (by omega) (by rw [hx]) ?_
      refine ev_aload_n (pc' := 765) (i := 0) dL_law_764 rfl rfl rfl ?_
      refine ev_iload_n (pc' := 766) (i := 3) dL_law_765 rfl rfl rfl ?_
      refine ev_iconst (pc' := 767) (v := 3) dL_law_766 rfl ki_3 ?_
      refine ev_iadd (pc' := 768) (v := nI ((6 * k) + 3)) dL_law_767 rfl (nI_add (6 * k) 3) ?_
      refine ev_sld (pc' := 769) (j := (6 * k) + 3) (v := xs ((6 * k) + 3)) dL_law_768 rfl rfl (by omega) (by omega) (by rw [hx]) ?_
      refine ev_callV (pc' := 772) (rm' := rX7_tangent) (b := 3) (av := [.int (xs ((6 * k) + 1)), .int (xs ((6 * k) + 2)), .int (xs ((6 * k) + 3))]) (rest := []) co_L_78 ci_X7_tangent cv_X7_tangent dL_law_769 rfl hs_3 hb_X7 rfl rfl (Nat.le_of_ble_eq_true rfl) ⟨(Nat.le_of_ble_eq_true rfl), (Nat.le_of_ble_eq_true rfl)⟩ ⟨(Nat.le_of_ble_eq_true rfl), (Nat.le_of_ble_eq_true rfl)⟩ ?_
      refine p_tangent hI (xs ((6 * k) + 1)) (xs ((6 * k) + 2)) (xs ((6 * k) + 3)) (fun r I1 L1 kM => ?_)
      refine ev_aload_n (pc' := 773) (i := 2) dL_law_772 rfl rfl rfl ?_
      refine ev_aload_n (pc' := 774) (i := 0) dL_law_773 rfl rfl rfl ?_
      refine ev_iload_n (pc' := 775) (i := 3) dL_law_774 rfl rfl rfl ?_
      refine ev_iconst (pc' := 776) (v := 1) dL_law_775 rfl ki_1 ?_
      refine ev_iadd (pc' := 777) (v := nI ((6 * k) + 1)) dL_law_776 rfl (nI_add (6 * k) 1) ?_
      refine ev_sld (pc' := 778) (j := (6 * k) + 1) (v := xs ((6 * k) + 1)) dL_law_777 rfl rfl (by omega) (by omega) (by rw [hx]) ?_
      refine ev_aload_n (pc' := 779) (i := 0) dL_law_778 rfl rfl rfl ?_
      refine ev_iload_n (pc' := 780) (i := 3) dL_law_779 rfl rfl rfl ?_
      refine ev_iconst (pc' := 781) (v := 2) dL_law_780 rfl ki_2 ?_
      refine ev_iadd (pc' := 782) (v := nI ((6 * k) + 2)) dL_law_781 rfl (nI_add (6 * k) 2) ?_
      refine ev_sld (pc' := 783) (j := (6 * k) + 2) (v := xs ((6 * k) + 2)) dL_law_782 rfl rfl (by omega) (by omega) (by rw [hx]) ?_
      refine ev_aload_n (pc' := 784) (i := 0) dL_law_783 rfl rfl rfl ?_
      refine ev_iload_n (pc' := 785) (i := 3) dL_law_784 rfl rfl rfl ?_
      refine ev_iconst (pc' := 786) (v := 3) dL_law_785 rfl ki_3 ?_
      refine ev_iadd (pc' := 787) (v := nI ((6 * k) + 3)) dL_law_786 rfl (nI_add (6 * k) 3) ?_
      refine ev_sld (pc' := 788) (j := (6 * k) + 3) (v := xs ((6 * k) + 3)) dL_law_787 rfl rfl (by omega) (by omega) (by rw [hx]) ?_
      refine ev_callV (pc' := 791) (rm' := rX8_tangent) (b := 115) (av := [.int (xs ((6 * k) + 1)), .int (xs ((6 * k) + 2)), .int (xs ((6 * k) + 3))]) (rest := [.int r]) co_L_81 ci_X8_tangent cv_X8_tangent dL_law_788 rfl hs_115 hb_X8 rfl rfl (Nat.le_of_ble_eq_true rfl) ⟨(Nat.le_of_ble_eq_true rfl), (Nat.le_of_ble_eq_true rfl)⟩ ⟨(Nat.le_of_ble_eq_true rfl), (Nat.le_of_ble_eq_true rfl)⟩ ?_
      refine kM (fun I2 L2 hI2 => ?_)
      refine ev_icmp_eq (tgt := 1531) (pc' := 794) dL_law_791 rfl rfl (fun _ => ?_) (fun h => absurd rfl h)
      exact K _ _ hI2
    by_cases c18 : x1 = 16
    · refine ev_tswIn (off := 763) (tgt := 796) dL_law_33 (by rw [c18]; decide) (by rw [c18]; decide) (by rw [c18]; rfl) rfl ?_
      refine ev_aload_n (pc' := 797) (i := 1) dL_law_796 rfl rfl rfl ?_
      refine ev_aload_n (pc' := 798) (i := 0) dL_law_797 rfl rfl rfl ?_
      refine ev_iload_n (pc' := 799) (i := 3) dL_law_798 rfl rfl rfl ?_
      refine ev_iconst (pc' := 800) (v := 1) dL_law_799 rfl ki_1 ?_
      refine ev_iadd (pc' := 801) (v := nI ((6 * k) + 1)) dL_law_800 rfl (nI_add (6 * k) 1) ?_
      refine ev_sld (pc' := 802) (j := (6 * k) + 1) (v := xs ((6 * k) + 1)) dL_law_801 rfl rfl (by omega) (by omega) (by rw [hx]) ?_
      refine ev_aload_n (pc' := 803) (i := 0) dL_law_802 rfl rfl rfl ?_
      refine ev_iload_n (pc' := 804) (i := 3) dL_law_803 rfl rfl rfl ?_
      refine ev_iconst (pc' := 805) (v := 2) dL_law_804 rfl ki_2 ?_
      refine ev_iadd (pc' := 806) (v := nI ((6 * k) + 2)) dL_law_805 rfl (nI_add (6 * k) 2) ?_
      refine ev_sld (pc' := 807) (j := (6 * k) + 2) (v := xs ((6 * k) + 2)) dL_law_806 rfl rfl (by omega) (by omega) (by rw [hx]) ?_
      refine ev_aload_n (pc' := 808) (i := 0) dL_law_807 rfl rfl rfl ?_
      refine ev_iload_n (pc' := 809) (i := 3) dL_law_808 rfl rfl rfl ?_
      refine ev_iconst (pc' := 810) (v := 3) dL_law_809 rfl ki_3 ?_
      refine ev_iadd (pc' := 811) (v := nI ((6 * k) + 3)) dL_law_810 rfl (nI_add (6 * k) 3) ?_
      refine ev_sld (pc' := 812) (j := (6 * k) + 3) (v := xs ((6 * k) + 3)) dL_law_811 rfl rfl (by omega) (by omega) (by rw [hx]) ?_
      refine ev_callV (pc' := 815) (rm' := rX7_line) (b := 3) (av := [.int (xs ((6 * k) + 1)), .int (xs ((6 * k) + 2)), .int (xs ((6 * k) + 3))]) (rest := []) co_L_82 ci_X7_line cv_X7_line dL_law_812 rfl hs_3 hb_X7 rfl rfl (Nat.le_of_ble_eq_true rfl) ⟨(Nat.le_of_ble_eq_true rfl), (Nat.le_of_ble_eq_true rfl)⟩ ⟨(Nat.le_of_ble_eq_true rfl), (Nat.le_of_ble_eq_true rfl)⟩ ?_
      refine p_line hI (xs ((6 * k) + 1)) (xs ((6 * k) + 2)) (xs ((6 * k) + 3)) (fun r I1 L1 kM => ?_)
      refine ev_aload_n (pc' := 816) (i := 2) dL_law_815 rfl rfl rfl ?_
      refine ev_aload_n (pc' := 817) (i := 0) dL_law_816 rfl rfl rfl ?_
      refine ev_iload_n (pc' := 818) (i := 3) dL_law_817 rfl rfl rfl ?_
      refine ev_iconst (pc' := 819) (v := 1) dL_law_818 rfl ki_1 ?_
      refine ev_iadd (pc' := 820) (v := nI ((6 * k) + 1)) dL_law_819 rfl (nI_add (6 * k) 1) ?_
      refine ev_sld (pc' := 821) (j := (6 * k) + 1) (v := xs ((6 * k) + 1)) dL_law_820 rfl rfl (by omega) (by omega) (by rw [hx]) ?_
      refine ev_aload_n (pc' := 822) (i := 0) dL_law_821 rfl rfl rfl ?_
      refine ev_iload_n (pc' := 823) (i := 3) dL_law_822 rfl rfl rfl ?_
      refine ev_iconst (pc' := 824) (v := 2) dL_law_823 rfl ki_2 ?_
      refine ev_iadd (pc' := 825) (v := nI ((6 * k) + 2)) dL_law_824 rfl (nI_add (6 * k) 2) ?_
      refine ev_sld (pc' := 826) (j := (6 * k) + 2) (v := xs ((6 * k) + 2)) dL_law_825 rfl rfl (by omega) (by omega) (by rw [hx]) ?_
      refine ev_aload_n (pc' := 827) (i := 0) dL_law_826 rfl rfl rfl ?_
      refine ev_iload_n (pc' := 828) (i := 3) dL_law_827 rfl rfl rfl ?_
      refine ev_iconst (pc' := 829) (v := 3) dL_law_828 rfl ki_3 ?_
      refine ev_iadd (pc' := 830) (v := nI ((6 * k) + 3)) dL_law_829 rfl (nI_add (6 * k) 3) ?_
      refine ev_sld (pc' := 831) (j := (6 * k) + 3) (v := xs ((6 * k) + 3)) dL_law_830 rfl rfl (by omega) (by omega) (by rw [hx]) ?_
      refine ev_callV (pc' := 834) (rm' := rX8_line) (b := 115) (av := [.int (xs ((6 * k) + 1)), .int (xs ((6 * k) + 2)), .int (xs ((6 * k) + 3))]) (rest := [.int r]) co_L_85 ci_X8_line cv_X8_line dL_law_831 rfl hs_115 hb_X8 rfl rfl (Nat.le_of_ble_eq_true rfl) ⟨(Nat.le_of_ble_eq_true rfl), (Nat.le_of_ble_eq_true rfl)⟩ ⟨(Nat.le_of_ble_eq_true rfl), (Nat.le_of_ble_eq_true rfl)⟩ ?_
      refine kM (fun I2 L2 hI2 => ?_)
      refine ev_icmp_eq (tgt := 1531) (pc' := 837) dL_law_834 rfl rfl (fun _ => ?_) (fun h => absurd rfl h)
      exact K _ _ hI2
    by_cases c19 : x1 = 17
    · refine ev_tswIn (off := 806) (tgt := 839) dL_law_33 (by rw [c19]; decide) (by rw [c19]; decide) (by rw [c19]; rfl) rfl ?_
      refine ev_aload_n (pc' := 840) (i := 1) dL_law_839 rfl rfl rfl ?_
      refine ev_aload_n (pc' := 841) (i := 0) dL_law_840 rfl rfl rfl ?_
      refine ev_iload_n (pc' := 842) (i := 3) dL_law_841 rfl rfl rfl ?_
      refine ev_iconst (pc' := 843) (v := 1) dL_law_842 rfl ki_1 ?_
      refine ev_iadd (pc' := 844) (v := nI ((6 * k) + 1)) dL_law_843 rfl (nI_add (6 * k) 1) ?_
      refine ev_sld (pc' := 845) (j := (6 * k) + 1) (v := xs ((6 * k) + 1)) dL_law_844 rfl rfl (by omega) (by omega) (by rw [hx]) ?_
      refine ev_callV (pc' := 848) (rm' := rX7_lineTold) (b := 3) (av := [.int (xs ((6 * k) + 1))]) (rest := []) co_L_86 ci_X7_lineTold cv_X7_lineTold dL_law_845 rfl hs_3 hb_X7 rfl rfl (Nat.le_of_ble_eq_true rfl) ⟨(Nat.le_of_ble_eq_true rfl), (Nat.le_of_ble_eq_true rfl)⟩ ⟨(Nat.le_of_ble_eq_true rfl), (Nat.le_of_ble_eq_true rfl)⟩ ?_
      refine p_lineTold hI (xs ((6 * k) + 1)) (fun r I1 L1 kM => ?_)
      refine ev_aload_n (pc' := 849) (i := 2) dL_law_848 rfl rfl rfl ?_
      refine ev_aload_n (pc' := 850) (i := 0) dL_law_849 rfl rfl rfl ?_
      refine ev_iload_n (pc' := 851) (i := 3) dL_law_850 rfl rfl rfl ?_
      refine ev_iconst (pc' := 852) (v := 1) dL_law_851 rfl ki_1 ?_
      refine ev_iadd (pc' := 853) (v := nI ((6 * k) + 1)) dL_law_852 rfl (nI_add (6 * k) 1) ?_
      refine ev_sld (pc' := 854) (j := (6 * k) + 1) (v := xs ((6 * k) + 1)) dL_law_853 rfl rfl (by omega) (by omega) (by rw [hx]) ?_
      refine ev_callV (pc' := 857) (rm' := rX8_lineTold) (b := 115) (av := [.int (xs ((6 * k) + 1))]) (rest := [.int r]) co_L_89 ci_X8_lineTold cv_X8_lineTold dL_law_854 rfl hs_115 hb_X8 rfl rfl (Nat.le_of_ble_eq_true rfl) ⟨(Nat.le_of_ble_eq_true rfl), (Nat.le_of_ble_eq_true rfl)⟩ ⟨(Nat.le_of_ble_eq_true rfl), (Nat.le_of_ble_eq_true rfl)⟩ ?_
      refine kM (fun I2 L2 hI2 => ?_)
      refine ev_icmp_eq (tgt := 1531) (pc' := 860) dL_law_857 rfl rfl (fun _ => ?_) (fun h => absurd rfl h)
      exact K _ _ hI2
    by_cases c20 : x1 = 18
    · refine ev_tswIn (off := 829) (tgt := 862) dL_law_33 (by rw [c20]; decide) (by rw [c20]; decide) (by rw [c20]; rfl) rfl ?_
      refine ev_aload_n (pc' := 863) (i := 1) dL_law_862 rfl rfl rfl ?_
      refine ev_aload_n (pc' := 864) (i := 0) dL_law_863 rfl rfl rfl ?_
      refine ev_iload_n (pc' := 865) (i := 3) dL_law_864 rfl rfl rfl ?_
      refine ev_iconst (pc' := 866) (v := 1) dL_law_865 rfl ki_1 ?_
      refine ev_iadd (pc' := 867) (v := nI ((6 * k) + 1)) dL_law_866 rfl (nI_add (6 * k) 1) ?_
      refine ev_sld (pc' := 868) (j := (6 * k) + 1) (v := xs ((6 * k) + 1)) dL_law_867 rfl rfl (by omega) (by omega) (by rw [hx]) ?_
      refine ev_aload_n (pc' := 869) (i := 0) dL_law_868 rfl rfl rfl ?_
      refine ev_iload_n (pc' := 870) (i := 3) dL_law_869 rfl rfl rfl ?_
      refine ev_iconst (pc' := 871) (v := 2) dL_law_870 rfl ki_2 ?_
      refine ev_iadd (pc' := 872) (v := nI ((6 * k) + 2)) dL_law_871 rfl (nI_add (6 * k) 2) ?_
      refine ev_sld (pc' := 873) (j := (6 * k) + 2) (v := xs ((6 * k) + 2)) dL_law_872 rfl rfl (by omega) (by omega) (by rw [hx]) ?_
      refine ev_callV (pc' := 876) (rm' := rX7_cut) (b := 3) (av := [.int (xs ((6 * k) + 1)), .int (xs ((6 * k) + 2))]) (rest := []) co_L_90 ci_X7_cut cv_X7_cut dL_law_873 rfl hs_3 hb_X7 rfl rfl (Nat.le_of_ble_eq_true rfl) ⟨(Nat.le_of_ble_eq_true rfl), (Nat.le_of_ble_eq_true rfl)⟩ ⟨(Nat.le_of_ble_eq_true rfl), (Nat.le_of_ble_eq_true rfl)⟩ ?_
      refine p_cut hI (xs ((6 * k) + 1)) (xs ((6 * k) + 2)) (fun r I1 L1 kM => ?_)
      refine ev_aload_n (pc' := 877) (i := 2) dL_law_876 rfl rfl rfl ?_
      refine ev_aload_n (pc' := 878) (i := 0) dL_law_877 rfl rfl rfl ?_
      refine ev_iload_n (pc' := 879) (i := 3) dL_law_878 rfl rfl rfl ?_
      refine ev_iconst (pc' := 880) (v := 1) dL_law_879 rfl ki_1 ?_
      refine ev_iadd (pc' := 881) (v := nI ((6 * k) + 1)) dL_law_880 rfl (nI_add (6 * k) 1) ?_
      refine ev_sld (pc' := 882) (j := (6 * k) + 1) (v := xs ((6 * k) + 1)) dL_law_881 rfl rfl (by omega) (by omega) (by rw [hx]) ?_
      refine ev_aload_n (pc' := 883) (i := 0) dL_law_882 rfl rfl rfl ?_
      refine ev_iload_n (pc' := 884) (i := 3) dL_law_883 rfl rfl rfl ?_
      refine ev_iconst (pc' := 885) (v := 2) dL_law_884 rfl ki_2 ?_
      refine ev_iadd (pc' := 886) (v := nI ((6 * k) + 2)) dL_law_885 rfl (nI_add (6 * k) 2) ?_
      refine ev_sld (pc' := 887) (j := (6 * k) + 2) (v := xs ((6 * k) + 2)) dL_law_886 rfl rfl (by omega) (by omega) (by rw [hx]) ?_
      refine ev_callV (pc' := 890) (rm' := rX8_cut) (b := 115) (av := [.int (xs ((6 * k) + 1)), .int (xs ((6 * k) + 2))]) (rest := [.int r]) co_L_93 ci_X8_cut cv_X8_cut dL_law_887 rfl hs_115 hb_X8 rfl rfl (Nat.le_of_ble_eq_true rfl) ⟨(Nat.le_of_ble_eq_true rfl), (Nat.le_of_ble_eq_true rfl)⟩ ⟨(Nat.le_of_ble_eq_true rfl), (Nat.le_of_ble_eq_true rfl)⟩ ?_
      refine kM (fun I2 L2 hI2 => ?_)
      refine ev_icmp_eq (tgt := 1531) (pc' := 893) dL_law_890 rfl rfl (fun _ => ?_) (fun h => absurd rfl h)
      exact K _ _ hI2
    by_cases c21 : x1 = 19
    · refine ev_tswIn (off := 862) (tgt := 895) dL_law_33 (by rw [c21]; decide) (by rw [c21]; decide) (by rw [c21]; rfl) rfl ?_
      refine ev_aload_n (pc' := 896) (i := 1) dL_law_895 rfl rfl rfl ?_
      refine ev_aload_n (pc' := 897) (i := 0) dL_law_896 rfl rfl rfl ?_
      refine ev_iload_n (pc' := 898) (i := 3) dL_law_897 rfl rfl rfl ?_
      refine ev_iconst (pc' := 899) (v := 1) dL_law_898 rfl ki_1 ?_
      refine ev_iadd (pc' := 900) (v := nI ((6 * k) + 1)) dL_law_899 rfl (nI_add (6 * k) 1) ?_
      refine ev_sld (pc' := 901) (j := (6 * k) + 1) (v := xs ((6 * k) + 1)) dL_law_900 rfl rfl (by omega) (by omega) (by rw [hx]) ?_
      refine ev_aload_n (pc' := 902) (i := 0) dL_law_901 rfl rfl rfl ?_
      refine ev_iload_n (pc' := 903) (i := 3) dL_law_902 rfl rfl rfl ?_
      refine ev_iconst (pc' := 904) (v := 2) dL_law_903 rfl ki_2 ?_
      refine ev_iadd (pc' := 905) (v := nI ((6 * k) + 2)) dL_law_904 rfl (nI_add (6 * k) 2) ?_
      refine ev_sld (pc' := 906) (j := (6 * k) + 2) (v := xs ((6 * k) + 2)) dL_law_905 rfl rfl (by omega) (by omega) (by rw [hx]) ?_
      refine ev_callV (pc' := 909) (rm' := rX7_touches) (b := 3) (av := [.int (xs ((6 * k) + 1)), .int (xs ((6 * k) + 2))]) (rest := []) co_L_94 ci_X7_touches cv_X7_touches dL_law_906 rfl hs_3 hb_X7 rfl rfl (Nat.le_of_ble_eq_true rfl) ⟨(Nat.le_of_ble_eq_true rfl), (Nat.le_of_ble_eq_true rfl)⟩ ⟨(Nat.le_of_ble_eq_true rfl), (Nat.le_of_ble_eq_true rfl)⟩ ?_
      refine p_touches hI (xs ((6 * k) + 1)) (xs ((6 * k) + 2)) (fun r I1 L1 kM => ?_)
      refine ev_aload_n (pc' := 910) (i := 2) dL_law_909 rfl rfl rfl ?_
      refine ev_aload_n (pc' := 911) (i := 0) dL_law_910 rfl rfl rfl ?_
      refine ev_iload_n (pc' := 912) (i := 3) dL_law_911 rfl rfl rfl ?_
      refine ev_iconst (pc' := 913) (v := 1) dL_law_912 rfl ki_1 ?_
      refine ev_iadd (pc' := 914) (v := nI ((6 * k) + 1)) dL_law_913 rfl (nI_add (6 * k) 1) ?_
      refine ev_sld (pc' := 915) (j := (6 * k) + 1) (v := xs ((6 * k) + 1)) dL_law_914 rfl rfl (by omega) (by omega) (by rw [hx]) ?_
      refine ev_aload_n (pc' := 916) (i := 0) dL_law_915 rfl rfl rfl ?_
      refine ev_iload_n (pc' := 917) (i := 3) dL_law_916 rfl rfl rfl ?_
      refine ev_iconst (pc' := 918) (v := 2) dL_law_917 rfl ki_2 ?_
      refine ev_iadd (pc' := 919) (v := nI ((6 * k) + 2)) dL_law_918 rfl (nI_add (6 * k) 2) ?_
      refine ev_sld (pc' := 920) (j := (6 * k) + 2) (v := xs ((6 * k) + 2)) dL_law_919 rfl rfl (by omega) (by omega) (by rw [hx]) ?_
      refine ev_callV (pc' := 923) (rm' := rX8_touches) (b := 115) (av := [.int (xs ((6 * k) + 1)), .int (xs ((6 * k) + 2))]) (rest := [.int r]) co_L_97 ci_X8_touches cv_X8_touches dL_law_920 rfl hs_115 hb_X8 rfl rfl (Nat.le_of_ble_eq_true rfl) ⟨(Nat.le_of_ble_eq_true rfl), (Nat.le_of_ble_eq_true rfl)⟩ ⟨(Nat.le_of_ble_eq_true rfl), (Nat.le_of_ble_eq_true rfl)⟩ ?_
      refine kM (fun I2 L2 hI2 => ?_)
      refine ev_icmp_eq (tgt := 1531) (pc' := 926) dL_law_923 rfl rfl (fun _ => ?_) (fun h => absurd rfl h)
      exact K _ _ hI2
    by_cases c22 : x1 = 20
    · refine ev_tswIn (off := 895) (tgt := 928) dL_law_33 (by rw [c22]; decide) (by rw [c22]; decide) (by rw [c22]; rfl) rfl ?_
      refine ev_aload_n (pc' := 929) (i := 1) dL_law_928 rfl rfl rfl ?_
      refine ev_aload_n (pc' := 930) (i := 0) dL_law_929 rfl rfl rfl ?_
      refine ev_iload_n (pc' := 931) (i := 3) dL_law_930 rfl rfl rfl ?_
      refine ev_iconst (pc' := 932) (v := 1) dL_law_931 rfl ki_1 ?_
      refine ev_iadd (pc' := 933) (v := nI ((6 * k) + 1)) dL_law_932 rfl (nI_add (6 * k) 1) ?_
      refine ev_sld (pc' := 934) (j := (6 * k) + 1) (v := xs ((6 * k) + 1)) dL_law_933 rfl rfl (by omega) (by omega) (by rw [hx]) ?_
      refine ev_aload_n (pc' := 935) (i := 0) dL_law_934 rfl rfl rfl ?_
      refine ev_iload_n (pc' := 936) (i := 3) dL_law_935 rfl rfl rfl ?_
      refine ev_iconst (pc' := 937) (v := 2) dL_law_936 rfl ki_2 ?_
      refine ev_iadd (pc' := 938) (v := nI ((6 * k) + 2)) dL_law_937 rfl (nI_add (6 * k) 2) ?_
      refine ev_sld (pc' := 939) (j := (6 * k) + 2) (v := xs ((6 * k) + 2)) dL_law_938 rfl rfl (by omega) (by omega) (by rw [hx]) ?_
      refine ev_callV (pc' := 942) (rm' := rX7_lines) (b := 3) (av := [.int (xs ((6 * k) + 1)), .int (xs ((6 * k) + 2))]) (rest := []) co_L_98 ci_X7_lines cv_X7_lines dL_law_939 rfl hs_3 hb_X7 rfl rfl (Nat.le_of_ble_eq_true rfl) ⟨(Nat.le_of_ble_eq_true rfl), (Nat.le_of_ble_eq_true rfl)⟩ ⟨(Nat.le_of_ble_eq_true rfl), (Nat.le_of_ble_eq_true rfl)⟩ ?_
      refine p_lines hI (xs ((6 * k) + 1)) (xs ((6 * k) + 2)) (fun r I1 L1 kM => ?_)
      refine ev_aload_n (pc' := 943) (i := 2) dL_law_942 rfl rfl rfl ?_
      refine ev_aload_n (pc' := 944) (i := 0) dL_law_943 rfl rfl rfl ?_
      refine ev_iload_n (pc' := 945) (i := 3) dL_law_944 rfl rfl rfl ?_
      refine ev_iconst (pc' := 946) (v := 1) dL_law_945 rfl ki_1 ?_
      refine ev_iadd (pc' := 947) (v := nI ((6 * k) + 1)) dL_law_946 rfl (nI_add (6 * k) 1) ?_
      refine ev_sld (pc' := 948) (j := (6 * k) + 1) (v := xs ((6 * k) + 1)) dL_law_947 rfl rfl (by omega) (by omega) (by rw [hx]) ?_
      refine ev_aload_n (pc' := 949) (i := 0) dL_law_948 rfl rfl rfl ?_
      refine ev_iload_n (pc' := 950) (i := 3) dL_law_949 rfl rfl rfl ?_
      refine ev_iconst (pc' := 951) (v := 2) dL_law_950 rfl ki_2 ?_
      refine ev_iadd (pc' := 952) (v := nI ((6 * k) + 2)) dL_law_951 rfl (nI_add (6 * k) 2) ?_
      refine ev_sld (pc' := 953) (j := (6 * k) + 2) (v := xs ((6 * k) + 2)) dL_law_952 rfl rfl (by omega) (by omega) (by rw [hx]) ?_
      refine ev_callV (pc' := 956) (rm' := rX8_lines) (b := 115) (av := [.int (xs ((6 * k) + 1)), .int (xs ((6 * k) + 2))]) (rest := [.int r]) co_L_101 ci_X8_lines cv_X8_lines dL_law_953 rfl hs_115 hb_X8 rfl rfl (Nat.le_of_ble_eq_true rfl) ⟨(Nat.le_of_ble_eq_true rfl), (Nat.le_of_ble_eq_true rfl)⟩ ⟨(Nat.le_of_ble_eq_true rfl), (Nat.le_of_ble_eq_true rfl)⟩ ?_
      refine kM (fun I2 L2 hI2 => ?_)
      refine ev_icmp_eq (tgt := 1531) (pc' := 959) dL_law_956 rfl rfl (fun _ => ?_) (fun h => absurd rfl h)
      exact K _ _ hI2
    by_cases c23 : x1 = 21
    · refine ev_tswIn (off := 928) (tgt := 961) dL_law_33 (by rw [c23]; decide) (by rw [c23]; decide) (by rw [c23]; rfl) rfl ?_
      refine ev_aload_n (pc' := 962) (i := 1) dL_law_961 rfl rfl rfl ?_
      refine ev_aload_n (pc' := 963) (i := 0) dL_law_962 rfl rfl rfl ?_
      refine ev_iload_n (pc' := 964) (i := 3) dL_law_963 rfl rfl rfl ?_
      refine ev_iconst (pc' := 965) (v := 1) dL_law_964 rfl ki_1 ?_
      refine ev_iadd (pc' := 966) (v := nI ((6 * k) + 1)) dL_law_965 rfl (nI_add (6 * k) 1) ?_
      refine ev_sld (pc' := 967) (j := (6 * k) + 1) (v := xs ((6 * k) + 1)) dL_law_966 rfl rfl (by omega) (by omega) (by rw [hx]) ?_
      refine ev_aload_n (pc' := 968) (i := 0) dL_law_967 rfl rfl rfl ?_
      refine ev_iload_n (pc' := 969) (i := 3) dL_law_968 rfl rfl rfl ?_
      refine ev_iconst (pc' := 970) (v := 2) dL_law_969 rfl ki_2 ?_
      refine ev_iadd (pc' := 971) (v := nI ((6 * k) + 2)) dL_law_970 rfl (nI_add (6 * k) 2) ?_
      refine ev_sld (pc' := 972) (j := (6 * k) + 2) (v := xs ((6 * k) + 2)) dL_law_971 rfl rfl (by omega) (by omega) (by rw [hx]) ?_
      refine ev_callV (pc' := 975) (rm' := rX7_middle) (b := 3) (av := [.int (xs ((6 * k) + 1)), .int (xs ((6 * k) + 2))]) (rest := []) co_L_102 ci_X7_middle cv_X7_middle dL_law_972 rfl hs_3 hb_X7 rfl rfl (Nat.le_of_ble_eq_true rfl) ⟨(Nat.le_of_ble_eq_true rfl), (Nat.le_of_ble_eq_true rfl)⟩ ⟨(Nat.le_of_ble_eq_true rfl), (Nat.le_of_ble_eq_true rfl)⟩ ?_
      refine p_middle hI (xs ((6 * k) + 1)) (xs ((6 * k) + 2)) (fun r I1 L1 kM => ?_)
      refine ev_aload_n (pc' := 976) (i := 2) dL_law_975 rfl rfl rfl ?_
      refine ev_aload_n (pc' := 977) (i := 0) dL_law_976 rfl rfl rfl ?_
      refine ev_iload_n (pc' := 978) (i := 3) dL_law_977 rfl rfl rfl ?_
      refine ev_iconst (pc' := 979) (v := 1) dL_law_978 rfl ki_1 ?_
      refine ev_iadd (pc' := 980) (v := nI ((6 * k) + 1)) dL_law_979 rfl (nI_add (6 * k) 1) ?_
      refine ev_sld (pc' := 981) (j := (6 * k) + 1) (v := xs ((6 * k) + 1)) dL_law_980 rfl rfl (by omega) (by omega) (by rw [hx]) ?_
      refine ev_aload_n (pc' := 982) (i := 0) dL_law_981 rfl rfl rfl ?_
      refine ev_iload_n (pc' := 983) (i := 3) dL_law_982 rfl rfl rfl ?_
      refine ev_iconst (pc' := 984) (v := 2) dL_law_983 rfl ki_2 ?_
      refine ev_iadd (pc' := 985) (v := nI ((6 * k) + 2)) dL_law_984 rfl (nI_add (6 * k) 2) ?_
      refine ev_sld (pc' := 986) (j := (6 * k) + 2) (v := xs ((6 * k) + 2)) dL_law_985 rfl rfl (by omega) (by omega) (by rw [hx]) ?_
      refine ev_callV (pc' := 989) (rm' := rX8_middle) (b := 115) (av := [.int (xs ((6 * k) + 1)), .int (xs ((6 * k) + 2))]) (rest := [.int r]) co_L_105 ci_X8_middle cv_X8_middle dL_law_986 rfl hs_115 hb_X8 rfl rfl (Nat.le_of_ble_eq_true rfl) ⟨(Nat.le_of_ble_eq_true rfl), (Nat.le_of_ble_eq_true rfl)⟩ ⟨(Nat.le_of_ble_eq_true rfl), (Nat.le_of_ble_eq_true rfl)⟩ ?_
      refine kM (fun I2 L2 hI2 => ?_)
      refine ev_icmp_eq (tgt := 1531) (pc' := 992) dL_law_989 rfl rfl (fun _ => ?_) (fun h => absurd rfl h)
      exact K _ _ hI2
    by_cases c24 : x1 = 22
    · refine ev_tswIn (off := 961) (tgt := 994) dL_law_33 (by rw [c24]; decide) (by rw [c24]; decide) (by rw [c24]; rfl) rfl ?_
      refine ev_aload_n (pc' := 995) (i := 1) dL_law_994 rfl rfl rfl ?_
      refine ev_aload_n (pc' := 996) (i := 0) dL_law_995 rfl rfl rfl ?_
      refine ev_iload_n (pc' := 997) (i := 3) dL_law_996 rfl rfl rfl ?_
      refine ev_iconst (pc' := 998) (v := 1) dL_law_997 rfl ki_1 ?_
      refine ev_iadd (pc' := 999) (v := nI ((6 * k) + 1)) dL_law_998 rfl (nI_add (6 * k) 1) ?_
      refine ev_sld (pc' := 1000) (j := (6 * k) + 1) (v := xs ((6 * k) + 1)) dL_law_999 rfl rfl (by omega) (by omega) (by rw [hx]) ?_
      refine ev_aload_n (pc' := 1001) (i := 0) dL_law_1000 rfl rfl rfl ?_
      refine ev_iload_n (pc' := 1002) (i := 3) dL_law_1001 rfl rfl rfl ?_
      refine ev_iconst (pc' := 1003) (v := 2) dL_law_1002 rfl ki_2 ?_
      refine ev_iadd (pc' := 1004) (v := nI ((6 * k) + 2)) dL_law_1003 rfl (nI_add (6 * k) 2) ?_
      refine ev_sld (pc' := 1005) (j := (6 * k) + 2) (v := xs ((6 * k) + 2)) dL_law_1004 rfl rfl (by omega) (by omega) (by rw [hx]) ?_
      refine ev_callV (pc' := 1008) (rm' := rX7_form) (b := 3) (av := [.int (xs ((6 * k) + 1)), .int (xs ((6 * k) + 2))]) (rest := []) co_L_106 ci_X7_form cv_X7_form dL_law_1005 rfl hs_3 hb_X7 rfl rfl (Nat.le_of_ble_eq_true rfl) ⟨(Nat.le_of_ble_eq_true rfl), (Nat.le_of_ble_eq_true rfl)⟩ ⟨(Nat.le_of_ble_eq_true rfl), (Nat.le_of_ble_eq_true rfl)⟩ ?_
      refine p_form hI (xs ((6 * k) + 1)) (xs ((6 * k) + 2)) (fun r I1 L1 kM => ?_)
      refine ev_aload_n (pc' := 1009) (i := 2) dL_law_1008 rfl rfl rfl ?_
      refine ev_aload_n (pc' := 1010) (i := 0) dL_law_1009 rfl rfl rfl ?_
      refine ev_iload_n (pc' := 1011) (i := 3) dL_law_1010 rfl rfl rfl ?_
      refine ev_iconst (pc' := 1012) (v := 1) dL_law_1011 rfl ki_1 ?_
      refine ev_iadd (pc' := 1013) (v := nI ((6 * k) + 1)) dL_law_1012 rfl (nI_add (6 * k) 1) ?_
      refine ev_sld (pc' := 1014) (j := (6 * k) + 1) (v := xs ((6 * k) + 1)) dL_law_1013 rfl rfl (by omega) (by omega) (by rw [hx]) ?_
      refine ev_aload_n (pc' := 1015) (i := 0) dL_law_1014 rfl rfl rfl ?_
      refine ev_iload_n (pc' := 1016) (i := 3) dL_law_1015 rfl rfl rfl ?_
      refine ev_iconst (pc' := 1017) (v := 2) dL_law_1016 rfl ki_2 ?_
      refine ev_iadd (pc' := 1018) (v := nI ((6 * k) + 2)) dL_law_1017 rfl (nI_add (6 * k) 2) ?_
      refine ev_sld (pc' := 1019) (j := (6 * k) + 2) (v := xs ((6 * k) + 2)) dL_law_1018 rfl rfl (by omega) (by omega) (by rw [hx]) ?_
      refine ev_callV (pc' := 1022) (rm' := rX8_form) (b := 115) (av := [.int (xs ((6 * k) + 1)), .int (xs ((6 * k) + 2))]) (rest := [.int r]) co_L_109 ci_X8_form cv_X8_form dL_law_1019 rfl hs_115 hb_X8 rfl rfl (Nat.le_of_ble_eq_true rfl) ⟨(Nat.le_of_ble_eq_true rfl), (Nat.le_of_ble_eq_true rfl)⟩ ⟨(Nat.le_of_ble_eq_true rfl), (Nat.le_of_ble_eq_true rfl)⟩ ?_
      refine kM (fun I2 L2 hI2 => ?_)
      refine ev_icmp_eq (tgt := 1531) (pc' := 1025) dL_law_1022 rfl rfl (fun _ => ?_) (fun h => absurd rfl h)
      exact K _ _ hI2
    by_cases c25 : x1 = 23
    · refine ev_tswIn (off := 994) (tgt := 1027) dL_law_33 (by rw [c25]; decide) (by rw [c25]; decide) (by rw [c25]; rfl) rfl ?_
      refine ev_aload_n (pc' := 1028) (i := 1) dL_law_1027 rfl rfl rfl ?_
      refine ev_aload_n (pc' := 1029) (i := 0) dL_law_1028 rfl rfl rfl ?_
      refine ev_iload_n (pc' := 1030) (i := 3) dL_law_1029 rfl rfl rfl ?_
      refine ev_iconst (pc' := 1031) (v := 1) dL_law_1030 rfl ki_1 ?_
      refine ev_iadd (pc' := 1032) (v := nI ((6 * k) + 1)) dL_law_1031 rfl (nI_add (6 * k) 1) ?_
      refine ev_sld (pc' := 1033) (j := (6 * k) + 1) (v := xs ((6 * k) + 1)) dL_law_1032 rfl rfl (by omega) (by omega) (by rw [hx]) ?_
      refine ev_callV (pc' := 1036) (rm' := rX7_formTold) (b := 3) (av := [.int (xs ((6 * k) + 1))]) (rest := []) co_L_110 ci_X7_formTold cv_X7_formTold dL_law_1033 rfl hs_3 hb_X7 rfl rfl (Nat.le_of_ble_eq_true rfl) ⟨(Nat.le_of_ble_eq_true rfl), (Nat.le_of_ble_eq_true rfl)⟩ ⟨(Nat.le_of_ble_eq_true rfl), (Nat.le_of_ble_eq_true rfl)⟩ ?_
      refine p_formTold hI (xs ((6 * k) + 1)) (fun r I1 L1 kM => ?_)
      refine ev_aload_n (pc' := 1037) (i := 2) dL_law_1036 rfl rfl rfl ?_
      refine ev_aload_n (pc' := 1038) (i := 0) dL_law_1037 rfl rfl rfl ?_
      refine ev_iload_n (pc' := 1039) (i := 3) dL_law_1038 rfl rfl rfl ?_
      refine ev_iconst (pc' := 1040) (v := 1) dL_law_1039 rfl ki_1 ?_
      refine ev_iadd (pc' := 1041) (v := nI ((6 * k) + 1)) dL_law_1040 rfl (nI_add (6 * k) 1) ?_
      refine ev_sld (pc' := 1042) (j := (6 * k) + 1) (v := xs ((6 * k) + 1)) dL_law_1041 rfl rfl (by omega) (by omega) (by rw [hx]) ?_
      refine ev_callV (pc' := 1045) (rm' := rX8_formTold) (b := 115) (av := [.int (xs ((6 * k) + 1))]) (rest := [.int r]) co_L_113 ci_X8_formTold cv_X8_formTold dL_law_1042 rfl hs_115 hb_X8 rfl rfl (Nat.le_of_ble_eq_true rfl) ⟨(Nat.le_of_ble_eq_true rfl), (Nat.le_of_ble_eq_true rfl)⟩ ⟨(Nat.le_of_ble_eq_true rfl), (Nat.le_of_ble_eq_true rfl)⟩ ?_
      refine kM (fun I2 L2 hI2 => ?_)
      refine ev_icmp_eq (tgt := 1531) (pc' := 1048) dL_law_1045 rfl rfl (fun _ => ?_) (fun h => absurd rfl h)
      exact K _ _ hI2
    by_cases c26 : x1 = 24
    · refine ev_tswIn (off := 1017) (tgt := 1050) dL_law_33 (by rw [c26]; decide) (by rw [c26]; decide) (by rw [c26]; rfl) rfl ?_
      refine ev_aload_n (pc' := 1051) (i := 1) dL_law_1050 rfl rfl rfl ?_
      refine ev_aload_n (pc' := 1052) (i := 0) dL_law_1051 rfl rfl rfl ?_
      refine ev_iload_n (pc' := 1053) (i := 3) dL_law_1052 rfl rfl rfl ?_
      refine ev_iconst (pc' := 1054) (v := 1) dL_law_1053 rfl ki_1 ?_
      refine ev_iadd (pc' := 1055) (v := nI ((6 * k) + 1)) dL_law_1054 rfl (nI_add (6 * k) 1) ?_
      refine ev_sld (pc' := 1056) (j := (6 * k) + 1) (v := xs ((6 * k) + 1)) dL_law_1055 rfl rfl (by omega) (by omega) (by rw [hx]) ?_
      refine ev_aload_n (pc' := 1057) (i := 0) dL_law_1056 rfl rfl rfl ?_
      refine ev_iload_n (pc' := 1058) (i := 3) dL_law_1057 rfl rfl rfl ?_
      refine ev_iconst (pc' := 1059) (v := 2) dL_law_1058 rfl ki_2 ?_
      refine ev_iadd (pc' := 1060) (v := nI ((6 * k) + 2)) dL_law_1059 rfl (nI_add (6 * k) 2) ?_
      refine ev_sld (pc' := 1061) (j := (6 * k) + 2) (v := xs ((6 * k) + 2)) dL_law_1060 rfl rfl (by omega) (by omega) (by rw [hx]) ?_
      refine ev_callV (pc' := 1064) (rm' := rX7_roots) (b := 3) (av := [.int (xs ((6 * k) + 1)), .int (xs ((6 * k) + 2))]) (rest := []) co_L_114 ci_X7_roots cv_X7_roots dL_law_1061 rfl hs_3 hb_X7 rfl rfl (Nat.le_of_ble_eq_true rfl) ⟨(Nat.le_of_ble_eq_true rfl), (Nat.le_of_ble_eq_true rfl)⟩ ⟨(Nat.le_of_ble_eq_true rfl), (Nat.le_of_ble_eq_true rfl)⟩ ?_
      refine p_roots hI (xs ((6 * k) + 1)) (xs ((6 * k) + 2)) (fun r I1 L1 kM => ?_)
      refine ev_aload_n (pc' := 1065) (i := 2) dL_law_1064 rfl rfl rfl ?_
      refine ev_aload_n (pc' := 1066) (i := 0) dL_law_1065 rfl rfl rfl ?_
      refine ev_iload_n (pc' := 1067) (i := 3) dL_law_1066 rfl rfl rfl ?_
      refine ev_iconst (pc' := 1068) (v := 1) dL_law_1067 rfl ki_1 ?_
      refine ev_iadd (pc' := 1069) (v := nI ((6 * k) + 1)) dL_law_1068 rfl (nI_add (6 * k) 1) ?_
      refine ev_sld (pc' := 1070) (j := (6 * k) + 1) (v := xs ((6 * k) + 1)) dL_law_1069 rfl rfl (by omega) (by omega) (by rw [hx]) ?_
      refine ev_aload_n (pc' := 1071) (i := 0) dL_law_1070 rfl rfl rfl ?_
      refine ev_iload_n (pc' := 1072) (i := 3) dL_law_1071 rfl rfl rfl ?_
      refine ev_iconst (pc' := 1073) (v := 2) dL_law_1072 rfl ki_2 ?_
      refine ev_iadd (pc' := 1074) (v := nI ((6 * k) + 2)) dL_law_1073 rfl (nI_add (6 * k) 2) ?_
      refine ev_sld (pc' := 1075) (j := (6 * k) + 2) (v := xs ((6 * k) + 2)) dL_law_1074 rfl rfl (by omega) (by omega) (by rw [hx]) ?_
      refine ev_callV (pc' := 1078) (rm' := rX8_roots) (b := 115) (av := [.int (xs ((6 * k) + 1)), .int (xs ((6 * k) + 2))]) (rest := [.int r]) co_L_117 ci_X8_roots cv_X8_roots dL_law_1075 rfl hs_115 hb_X8 rfl rfl (Nat.le_of_ble_eq_true rfl) ⟨(Nat.le_of_ble_eq_true rfl), (Nat.le_of_ble_eq_true rfl)⟩ ⟨(Nat.le_of_ble_eq_true rfl), (Nat.le_of_ble_eq_true rfl)⟩ ?_
      refine kM (fun I2 L2 hI2 => ?_)
      refine ev_icmp_eq (tgt := 1531) (pc' := 1081) dL_law_1078 rfl rfl (fun _ => ?_) (fun h => absurd rfl h)
      exact K _ _ hI2
    by_cases c27 : x1 = 25
    · refine ev_tswIn (off := 1050) (tgt := 1083) dL_law_33 (by rw [c27]; decide) (by rw [c27]; decide) (by rw [c27]; rfl) rfl ?_
      refine ev_aload_n (pc' := 1084) (i := 1) dL_law_1083 rfl rfl rfl ?_
      refine ev_aload_n (pc' := 1085) (i := 0) dL_law_1084 rfl rfl rfl ?_
      refine ev_iload_n (pc' := 1086) (i := 3) dL_law_1085 rfl rfl rfl ?_
      refine ev_iconst (pc' := 1087) (v := 1) dL_law_1086 rfl ki_1 ?_
      refine ev_iadd (pc' := 1088) (v := nI ((6 * k) + 1)) dL_law_1087 rfl (nI_add (6 * k) 1) ?_
      refine ev_sld (pc' := 1089) (j := (6 * k) + 1) (v := xs ((6 * k) + 1)) dL_law_1088 rfl rfl (by omega) (by omega) (by rw [hx]) ?_
      refine ev_aload_n (pc' := 1090) (i := 0) dL_law_1089 rfl rfl rfl ?_
      refine ev_iload_n (pc' := 1091) (i := 3) dL_law_1090 rfl rfl rfl ?_
      refine ev_iconst (pc' := 1092) (v := 2) dL_law_1091 rfl ki_2 ?_
      refine ev_iadd (pc' := 1093) (v := nI ((6 * k) + 2)) dL_law_1092 rfl (nI_add (6 * k) 2) ?_
      refine ev_sld (pc' := 1094) (j := (6 * k) + 2) (v := xs ((6 * k) + 2)) dL_law_1093 rfl rfl (by omega) (by omega) (by rw [hx]) ?_
      refine ev_callV (pc' := 1097) (rm' := rX7_pattern) (b := 3) (av := [.int (xs ((6 * k) + 1)), .int (xs ((6 * k) + 2))]) (rest := []) co_L_118 ci_X7_pattern cv_X7_pattern dL_law_1094 rfl hs_3 hb_X7 rfl rfl (Nat.le_of_ble_eq_true rfl) ⟨(Nat.le_of_ble_eq_true rfl), (Nat.le_of_ble_eq_true rfl)⟩ ⟨(Nat.le_of_ble_eq_true rfl), (Nat.le_of_ble_eq_true rfl)⟩ ?_
      refine p_pattern hI (xs ((6 * k) + 1)) (xs ((6 * k) + 2)) (fun r I1 L1 kM => ?_)
      refine ev_aload_n (pc' := 1098) (i := 2) dL_law_1097 rfl rfl rfl ?_
      refine ev_aload_n (pc' := 1099) (i := 0) dL_law_1098 rfl rfl rfl ?_
      refine ev_iload_n (pc' := 1100) (i := 3) dL_law_1099 rfl rfl rfl ?_
      refine ev_iconst (pc' := 1101) (v := 1) dL_law_1100 rfl ki_1 ?_
      refine ev_iadd (pc' := 1102) (v := nI ((6 * k) + 1)) dL_law_1101 rfl (nI_add (6 * k) 1) ?_
      refine ev_sld (pc' := 1103) (j := (6 * k) + 1) (v := xs ((6 * k) + 1)) dL_law_1102 rfl rfl (by omega) (by omega) (by rw [hx]) ?_
      refine ev_aload_n (pc' := 1104) (i := 0) dL_law_1103 rfl rfl rfl ?_
      refine ev_iload_n (pc' := 1105) (i := 3) dL_law_1104 rfl rfl rfl ?_
      refine ev_iconst (pc' := 1106) (v := 2) dL_law_1105 rfl ki_2 ?_
      refine ev_iadd (pc' := 1107) (v := nI ((6 * k) + 2)) dL_law_1106 rfl (nI_add (6 * k) 2) ?_
      refine ev_sld (pc' := 1108) (j := (6 * k) + 2) (v := xs ((6 * k) + 2)) dL_law_1107 rfl rfl (by omega) (by omega) (by rw [hx]) ?_
      refine ev_callV (pc' := 1111) (rm' := rX8_pattern) (b := 115) (av := [.int (xs ((6 * k) + 1)), .int (xs ((6 * k) + 2))]) (rest := [.int r]) co_L_121 ci_X8_pattern cv_X8_pattern dL_law_1108 rfl hs_115 hb_X8 rfl rfl (Nat.le_of_ble_eq_true rfl) ⟨(Nat.le_of_ble_eq_true rfl), (Nat.le_of_ble_eq_true rfl)⟩ ⟨(Nat.le_of_ble_eq_true rfl), (Nat.le_of_ble_eq_true rfl)⟩ ?_
      refine kM (fun I2 L2 hI2 => ?_)
      refine ev_icmp_eq (tgt := 1531) (pc' := 1114) dL_law_1111 rfl rfl (fun _ => ?_) (fun h => absurd rfl h)
      exact K _ _ hI2
    by_cases c28 : x1 = 26
    · refine ev_tswIn (off := 1083) (tgt := 1116) dL_law_33 (by rw [c28]; decide) (by rw [c28]; decide) (by rw [c28]; rfl) rfl ?_
      refine ev_aload_n (pc' := 1117) (i := 1) dL_law_1116 rfl rfl rfl ?_
      refine ev_aload_n (pc' := 1118) (i := 0) dL_law_1117 rfl rfl rfl ?_
      refine ev_iload_n (pc' := 1119) (i := 3) dL_law_1118 rfl rfl rfl ?_
      refine ev_iconst (pc' := 1120) (v := 1) dL_law_1119 rfl ki_1 ?_
      refine ev_iadd (pc' := 1121) (v := nI ((6 * k) + 1)) dL_law_1120 rfl (nI_add (6 * k) 1) ?_
      refine ev_sld (pc' := 1122) (j := (6 * k) + 1) (v := xs ((6 * k) + 1)) dL_law_1121 rfl rfl (by omega) (by omega) (by rw [hx]) ?_
      refine ev_aload_n (pc' := 1123) (i := 0) dL_law_1122 rfl rfl rfl ?_
      refine ev_iload_n (pc' := 1124) (i := 3) dL_law_1123 rfl rfl rfl ?_
      refine ev_iconst (pc' := 1125) (v := 2) dL_law_1124 rfl ki_2 ?_
      refine ev_iadd (pc' := 1126) (v := nI ((6 * k) + 2)) dL_law_1125 rfl (nI_add (6 * k) 2) ?_
      refine ev_sld (pc' := 1127) (j := (6 * k) + 2) (v := xs ((6 * k) + 2)) dL_law_1126 rfl rfl (by omega) (by omega) (by rw [hx]) ?_
      refine ev_aload_n (pc' := 1128) (i := 0) dL_law_1127 rfl rfl rfl ?_
      refine ev_iload_n (pc' := 1129) (i := 3) dL_law_1128 rfl rfl rfl ?_
      refine ev_iconst (pc' := 1130) (v := 3) dL_law_1129 rfl ki_3 ?_
      refine ev_iadd (pc' := 1131) (v := nI ((6 * k) + 3)) dL_law_1130 rfl (nI_add (6 * k) 3) ?_
      refine ev_sld (pc' := 1132) (j := (6 * k) + 3) (v := xs ((6 * k) + 3)) dL_law_1131 rfl rfl (by omega) (by omega) (by rw [hx]) ?_
      refine ev_callV (pc' := 1135) (rm' := rX7_rational) (b := 3) (av := [.int (xs ((6 * k) + 1)), .int (xs ((6 * k) + 2)), .int (xs ((6 * k) + 3))]) (rest := []) co_L_122 ci_X7_rational cv_X7_rational dL_law_1132 rfl hs_3 hb_X7 rfl rfl (Nat.le_of_ble_eq_true rfl) ⟨(Nat.le_of_ble_eq_true rfl), (Nat.le_of_ble_eq_true rfl)⟩ ⟨(Nat.le_of_ble_eq_true rfl), (Nat.le_of_ble_eq_true rfl)⟩ ?_
      refine p_rational hI (xs ((6 * k) + 1)) (xs ((6 * k) + 2)) (xs ((6 * k) + 3)) (fun r I1 L1 kM => ?_)
      refine ev_aload_n (pc' := 1136) (i := 2) dL_law_1135 rfl rfl rfl ?_
      refine ev_aload_n (pc' := 1137) (i := 0) dL_law_1136 rfl rfl rfl ?_
      refine ev_iload_n (pc' := 1138) (i := 3) dL_law_1137 rfl rfl rfl ?_
      refine ev_iconst (pc' := 1139) (v := 1) dL_law_1138 rfl ki_1 ?_
      refine ev_iadd (pc' := 1140) (v := nI ((6 * k) + 1)) dL_law_1139 rfl (nI_add (6 * k) 1) ?_
      refine ev_sld (pc' := 1141) (j := (6 * k) + 1) (v := xs ((6 * k) + 1)) dL_law_1140 rfl rfl (by omega) (by omega) (by rw [hx]) ?_
      refine ev_aload_n (pc' := 1142) (i := 0) dL_law_1141 rfl rfl rfl ?_
      refine ev_iload_n (pc' := 1143) (i := 3) dL_law_1142 rfl rfl rfl ?_
      refine ev_iconst (pc' := 1144) (v := 2) dL_law_1143 rfl ki_2 ?_
      refine ev_iadd (pc' := 1145) (v := nI ((6 * k) + 2)) dL_law_1144 rfl (nI_add (6 * k) 2) ?_
      refine ev_sld (pc' := 1146) (j := (6 * k) + 2) (v := xs ((6 * k) + 2)) dL_law_1145 rfl rfl (by omega) (by omega) (by rw [hx]) ?_
      refine ev_aload_n (pc' := 1147) (i := 0) dL_law_1146 rfl rfl rfl ?_
      refine ev_iload_n (pc' := 1148) (i := 3) dL_law_1147 rfl rfl rfl ?_
      refine ev_iconst (pc' := 1149) (v := 3) dL_law_1148 rfl ki_3 ?_
      refine ev_iadd (pc' := 1150) (v := nI ((6 * k) + 3)) dL_law_1149 rfl (nI_add (6 * k) 3) ?_
      refine ev_sld (pc' := 1151) (j := (6 * k) + 3) (v := xs ((6 * k) + 3)) dL_law_1150 rfl rfl (by omega) (by omega) (by rw [hx]) ?_
      refine ev_callV (pc' := 1154) (rm' := rX8_rational) (b := 115) (av := [.int (xs ((6 * k) + 1)), .int (xs ((6 * k) + 2)), .int (xs ((6 * k) + 3))]) (rest := [.int r]) co_L_125 ci_X8_rational cv_X8_rational dL_law_1151 rfl hs_115 hb_X8 rfl rfl (Nat.le_of_ble_eq_true rfl) ⟨(Nat.le_of_ble_eq_true rfl), (Nat.le_of_ble_eq_true rfl)⟩ ⟨(Nat.le_of_ble_eq_true rfl), (Nat.le_of_ble_eq_true rfl)⟩ ?_
      refine kM (fun I2 L2 hI2 => ?_)
      refine ev_icmp_eq (tgt := 1531) (pc' := 1157) dL_law_1154 rfl rfl (fun _ => ?_) (fun h => absurd rfl h)
      exact K _ _ hI2
    by_cases c29 : x1 = 27
    · refine ev_tswIn (off := 1126) (tgt := 1159) dL_law_33 (by rw [c29]; decide) (by rw [c29]; decide) (by rw [c29]; rfl) rfl ?_
      refine ev_aload_n (pc' := 1160) (i := 1) dL_law_1159 rfl rfl rfl ?_
      refine ev_aload_n (pc' := 1161) (i := 0) dL_law_1160 rfl rfl rfl ?_
      refine ev_iload_n (pc' := 1162) (i := 3) dL_law_1161 rfl rfl rfl ?_
      refine ev_iconst (pc' := 1163) (v := 1) dL_law_1162 rfl ki_1 ?_
      refine ev_iadd (pc' := 1164) (v := nI ((6 * k) + 1)) dL_law_1163 rfl (nI_add (6 * k) 1) ?_
      refine ev_sld (pc' := 1165) (j := (6 * k) + 1) (v := xs ((6 * k) + 1)) dL_law_1164 rfl rfl (by omega) (by omega) (by rw [hx]) ?_
      refine ev_aload_n (pc' := 1166) (i := 0) dL_law_1165 rfl rfl rfl ?_
      refine ev_iload_n (pc' := 1167) (i := 3) dL_law_1166 rfl rfl rfl ?_
      refine ev_iconst (pc' := 1168) (v := 2) dL_law_1167 rfl ki_2 ?_
      refine ev_iadd (pc' := 1169) (v := nI ((6 * k) + 2)) dL_law_1168 rfl (nI_add (6 * k) 2) ?_
      refine ev_sld (pc' := 1170) (j := (6 * k) + 2) (v := xs ((6 * k) + 2)) dL_law_1169 rfl rfl (by omega) (by omega) (by rw [hx]) ?_
      refine ev_aload_n (pc' := 1171) (i := 0) dL_law_1170 rfl rfl rfl ?_
      refine ev_iload_n (pc' := 1172) (i := 3) dL_law_1171 rfl rfl rfl ?_
      refine ev_iconst (pc' := 1173) (v := 3) dL_law_1172 rfl ki_3 ?_
      refine ev_iadd (pc' := 1174) (v := nI ((6 * k) + 3)) dL_law_1173 rfl (nI_add (6 * k) 3) ?_
      refine ev_sld (pc' := 1175) (j := (6 * k) + 3) (v := xs ((6 * k) + 3)) dL_law_1174 rfl rfl (by omega) (by omega) (by rw [hx]) ?_
      refine ev_callV (pc' := 1178) (rm' := rX7_between) (b := 3) (av := [.int (xs ((6 * k) + 1)), .int (xs ((6 * k) + 2)), .int (xs ((6 * k) + 3))]) (rest := []) co_L_126 ci_X7_between cv_X7_between dL_law_1175 rfl hs_3 hb_X7 rfl rfl (Nat.le_of_ble_eq_true rfl) ⟨(Nat.le_of_ble_eq_true rfl), (Nat.le_of_ble_eq_true rfl)⟩ ⟨(Nat.le_of_ble_eq_true rfl), (Nat.le_of_ble_eq_true rfl)⟩ ?_
      refine p_between hI (xs ((6 * k) + 1)) (xs ((6 * k) + 2)) (xs ((6 * k) + 3)) (fun r I1 L1 kM => ?_)
      refine ev_aload_n (pc' := 1179) (i := 2) dL_law_1178 rfl rfl rfl ?_
      refine ev_aload_n (pc' := 1180) (i := 0) dL_law_1179 rfl rfl rfl ?_
      refine ev_iload_n (pc' := 1181) (i := 3) dL_law_1180 rfl rfl rfl ?_
      refine ev_iconst (pc' := 1182) (v := 1) dL_law_1181 rfl ki_1 ?_
      refine ev_iadd (pc' := 1183) (v := nI ((6 * k) + 1)) dL_law_1182 rfl (nI_add (6 * k) 1) ?_
      refine ev_sld (pc' := 1184) (j := (6 * k) + 1) (v := xs ((6 * k) + 1)) dL_law_1183 rfl rfl (by omega) (by omega) (by rw [hx]) ?_
      refine ev_aload_n (pc' := 1185) (i := 0) dL_law_1184 rfl rfl rfl ?_
      refine ev_iload_n (pc' := 1186) (i := 3) dL_law_1185 rfl rfl rfl ?_
      refine ev_iconst (pc' := 1187) (v := 2) dL_law_1186 rfl ki_2 ?_
      refine ev_iadd (pc' := 1188) (v := nI ((6 * k) + 2)) dL_law_1187 rfl (nI_add (6 * k) 2) ?_
      refine ev_sld (pc' := 1189) (j := (6 * k) + 2) (v := xs ((6 * k) + 2)) dL_law_1188 rfl rfl (by omega) (by omega) (by rw [hx]) ?_
      refine ev_aload_n (pc' := 1190) (i := 0) dL_law_1189 rfl rfl rfl ?_
      refine ev_iload_n (pc' := 1191) (i := 3) dL_law_1190 rfl rfl rfl ?_
      refine ev_iconst (pc' := 1192) (v := 3) dL_law_1191 rfl ki_3 ?_
      refine ev_iadd (pc' := 1193) (v := nI ((6 * k) + 3)) dL_law_1192 rfl (nI_add (6 * k) 3) ?_
      refine ev_sld (pc' := 1194) (j := (6 * k) + 3) (v := xs ((6 * k) + 3)) dL_law_1193 rfl rfl (by omega) (by omega) (by rw [hx]) ?_
      refine ev_callV (pc' := 1197) (rm' := rX8_between) (b := 115) (av := [.int (xs ((6 * k) + 1)), .int (xs ((6 * k) + 2)), .int (xs ((6 * k) + 3))]) (rest := [.int r]) co_L_129 ci_X8_between cv_X8_between dL_law_1194 rfl hs_115 hb_X8 rfl rfl (Nat.le_of_ble_eq_true rfl) ⟨(Nat.le_of_ble_eq_true rfl), (Nat.le_of_ble_eq_true rfl)⟩ ⟨(Nat.le_of_ble_eq_true rfl), (Nat.le_of_ble_eq_true rfl)⟩ ?_
      refine kM (fun I2 L2 hI2 => ?_)
      refine ev_icmp_eq (tgt := 1531) (pc' := 1200) dL_law_1197 rfl rfl (fun _ => ?_) (fun h => absurd rfl h)
      exact K _ _ hI2
    by_cases c30 : x1 = 28
    · refine ev_tswIn (off := 1169) (tgt := 1202) dL_law_33 (by rw [c30]; decide) (by rw [c30]; decide) (by rw [c30]; rfl) rfl ?_
      refine ev_aload_n (pc' := 1203) (i := 1) dL_law_1202 rfl rfl rfl ?_
      refine ev_aload_n (pc' := 1204) (i := 0) dL_law_1203 rfl rfl rfl ?_
      refine ev_iload_n (pc' := 1205) (i := 3) dL_law_1204 rfl rfl rfl ?_
      refine ev_iconst (pc' := 1206) (v := 1) dL_law_1205 rfl ki_1 ?_
      refine ev_iadd (pc' := 1207) (v := nI ((6 * k) + 1)) dL_law_1206 rfl (nI_add (6 * k) 1) ?_
      refine ev_sld (pc' := 1208) (j := (6 * k) + 1) (v := xs ((6 * k) + 1)) dL_law_1207 rfl rfl (by omega) (by omega) (by rw [hx]) ?_
      refine ev_aload_n (pc' := 1209) (i := 0) dL_law_1208 rfl rfl rfl ?_
      refine ev_iload_n (pc' := 1210) (i := 3) dL_law_1209 rfl rfl rfl ?_
      refine ev_iconst (pc' := 1211) (v := 2) dL_law_1210 rfl ki_2 ?_
      refine ev_iadd (pc' := 1212) (v := nI ((6 * k) + 2)) dL_law_1211 rfl (nI_add (6 * k) 2) ?_
      refine ev_sld (pc' := 1213) (j := (6 * k) + 2) (v := xs ((6 * k) + 2)) dL_law_1212 rfl rfl (by omega) (by omega) (by rw [hx]) ?_
      refine ev_callV (pc' := 1216) (rm' := rX7_apart) (b := 3) (av := [.int (xs ((6 * k) + 1)), .int (xs ((6 * k) + 2))]) (rest := []) co_L_130 ci_X7_apart cv_X7_apart dL_law_1213 rfl hs_3 hb_X7 rfl rfl (Nat.le_of_ble_eq_true rfl) ⟨(Nat.le_of_ble_eq_true rfl), (Nat.le_of_ble_eq_true rfl)⟩ ⟨(Nat.le_of_ble_eq_true rfl), (Nat.le_of_ble_eq_true rfl)⟩ ?_
      refine p_apart hI (xs ((6 * k) + 1)) (xs ((6 * k) + 2)) (fun r I1 L1 kM => ?_)
      refine ev_aload_n (pc' := 1217) (i := 2) dL_law_1216 rfl rfl rfl ?_
      refine ev_aload_n (pc' := 1218) (i := 0) dL_law_1217 rfl rfl rfl ?_
      refine ev_iload_n (pc' := 1219) (i := 3) dL_law_1218 rfl rfl rfl ?_
      refine ev_iconst (pc' := 1220) (v := 1) dL_law_1219 rfl ki_1 ?_
      refine ev_iadd (pc' := 1221) (v := nI ((6 * k) + 1)) dL_law_1220 rfl (nI_add (6 * k) 1) ?_
      refine ev_sld (pc' := 1222) (j := (6 * k) + 1) (v := xs ((6 * k) + 1)) dL_law_1221 rfl rfl (by omega) (by omega) (by rw [hx]) ?_
      refine ev_aload_n (pc' := 1223) (i := 0) dL_law_1222 rfl rfl rfl ?_
      refine ev_iload_n (pc' := 1224) (i := 3) dL_law_1223 rfl rfl rfl ?_
      refine ev_iconst (pc' := 1225) (v := 2) dL_law_1224 rfl ki_2 ?_
      refine ev_iadd (pc' := 1226) (v := nI ((6 * k) + 2)) dL_law_1225 rfl (nI_add (6 * k) 2) ?_
      refine ev_sld (pc' := 1227) (j := (6 * k) + 2) (v := xs ((6 * k) + 2)) dL_law_1226 rfl rfl (by omega) (by omega) (by rw [hx]) ?_
      refine ev_callV (pc' := 1230) (rm' := rX8_apart) (b := 115) (av := [.int (xs ((6 * k) + 1)), .int (xs ((6 * k) + 2))]) (rest := [.int r]) co_L_133 ci_X8_apart cv_X8_apart dL_law_1227 rfl hs_115 hb_X8 rfl rfl (Nat.le_of_ble_eq_true rfl) ⟨(Nat.le_of_ble_eq_true rfl), (Nat.le_of_ble_eq_true rfl)⟩ ⟨(Nat.le_of_ble_eq_true rfl), (Nat.le_of_ble_eq_true rfl)⟩ ?_
      refine kM (fun I2 L2 hI2 => ?_)
      refine ev_icmp_eq (tgt := 1531) (pc' := 1233) dL_law_1230 rfl rfl (fun _ => ?_) (fun h => absurd rfl h)
      exact K _ _ hI2
    by_cases c31 : x1 = 29
    · refine ev_tswIn (off := 1202) (tgt := 1235) dL_law_33 (by rw [c31]; decide) (by rw [c31]; decide) (by rw [c31]; rfl) rfl ?_
      refine ev_aload_n (pc' := 1236) (i := 1) dL_law_1235 rfl rfl rfl ?_
      refine ev_aload_n (pc' := 1237) (i := 0) dL_law_1236 rfl rfl rfl ?_
      refine ev_iload_n (pc' := 1238) (i := 3) dL_law_1237 rfl rfl rfl ?_
      refine ev_iconst (pc' := 1239) (v := 1) dL_law_1238 rfl ki_1 ?_
      refine ev_iadd (pc' := 1240) (v := nI ((6 * k) + 1)) dL_law_1239 rfl (nI_add (6 * k) 1) ?_
      refine ev_sld (pc' := 1241) (j := (6 * k) + 1) (v := xs ((6 * k) + 1)) dL_law_1240 rfl rfl (by omega) (by omega) (by rw [hx]) ?_
      refine ev_aload_n (pc' := 1242) (i := 0) dL_law_1241 rfl rfl rfl ?_
      refine ev_iload_n (pc' := 1243) (i := 3) dL_law_1242 rfl rfl rfl ?_
      refine ev_iconst (pc' := 1244) (v := 2) dL_law_1243 rfl ki_2 ?_
      refine ev_iadd (pc' := 1245) (v := nI ((6 * k) + 2)) dL_law_1244 rfl (nI_add (6 * k) 2) ?_
      refine ev_sld (pc' := 1246) (j := (6 * k) + 2) (v := xs ((6 * k) + 2)) dL_law_1245 rfl rfl (by omega) (by omega) (by rw [hx]) ?_
      refine ev_aload_n (pc' := 1247) (i := 0) dL_law_1246 rfl rfl rfl ?_
      refine ev_iload_n (pc' := 1248) (i := 3) dL_law_1247 rfl rfl rfl ?_
      refine ev_iconst (pc' := 1249) (v := 3) dL_law_1248 rfl ki_3 ?_
      refine ev_iadd (pc' := 1250) (v := nI ((6 * k) + 3)) dL_law_1249 rfl (nI_add (6 * k) 3) ?_
      refine ev_sld (pc' := 1251) (j := (6 * k) + 3) (v := xs ((6 * k) + 3)) dL_law_1250 rfl rfl (by omega) (by omega) (by rw [hx]) ?_
      refine ev_aload_n (pc' := 1252) (i := 0) dL_law_1251 rfl rfl rfl ?_
      refine ev_iload_n (pc' := 1253) (i := 3) dL_law_1252 rfl rfl rfl ?_
      refine ev_iconst (pc' := 1254) (v := 4) dL_law_1253 rfl ki_4 ?_
      refine ev_iadd (pc' := 1255) (v := nI ((6 * k) + 4)) dL_law_1254 rfl (nI_add (6 * k) 4) ?_
      refine ev_sld (pc' := 1256) (j := (6 * k) + 4) (v := xs ((6 * k) + 4)) dL_law_1255 rfl rfl (by omega) (by omega) (by rw [hx]) ?_
      refine ev_callV (pc' := 1259) (rm' := rX7_first) (b := 3) (av := [.int (xs ((6 * k) + 1)), .int (xs ((6 * k) + 2)), .int (xs ((6 * k) + 3)), .int (xs ((6 * k) + 4))]) (rest := []) co_L_134 ci_X7_first cv_X7_first dL_law_1256 rfl hs_3 hb_X7 rfl rfl (Nat.le_of_ble_eq_true rfl) ⟨(Nat.le_of_ble_eq_true rfl), (Nat.le_of_ble_eq_true rfl)⟩ ⟨(Nat.le_of_ble_eq_true rfl), (Nat.le_of_ble_eq_true rfl)⟩ ?_
      refine p_first hI (xs ((6 * k) + 1)) (xs ((6 * k) + 2)) (xs ((6 * k) + 3)) (xs ((6 * k) + 4)) (fun r I1 L1 kM => ?_)
      refine ev_aload_n (pc' := 1260) (i := 2) dL_law_1259 rfl rfl rfl ?_
      refine ev_aload_n (pc' := 1261) (i := 0) dL_law_1260 rfl rfl rfl ?_
      refine ev_iload_n (pc' := 1262) (i := 3) dL_law_1261 rfl rfl rfl ?_
      refine ev_iconst (pc' := 1263) (v := 1) dL_law_1262 rfl ki_1 ?_
      refine ev_iadd (pc' := 1264) (v := nI ((6 * k) + 1)) dL_law_1263 rfl (nI_add (6 * k) 1) ?_
      refine ev_sld (pc' := 1265) (j := (6 * k) + 1) (v := xs ((6 * k) + 1)) dL_law_1264 rfl rfl (by omega) (by omega) (by rw [hx]) ?_
      refine ev_aload_n (pc' := 1266) (i := 0) dL_law_1265 rfl rfl rfl ?_
      refine ev_iload_n (pc' := 1267) (i := 3) dL_law_1266 rfl rfl rfl ?_
      refine ev_iconst (pc' := 1268) (v := 2) dL_law_1267 rfl ki_2 ?_
      refine ev_iadd (pc' := 1269) (v := nI ((6 * k) + 2)) dL_law_1268 rfl (nI_add (6 * k) 2) ?_
      refine ev_sld (pc' := 1270) (j := (6 * k) + 2) (v := xs ((6 * k) + 2)) dL_law_1269 rfl rfl (by omega) (by omega) (by rw [hx]) ?_
      refine ev_aload_n (pc' := 1271) (i := 0) dL_law_1270 rfl rfl rfl ?_
      refine ev_iload_n (pc' := 1272) (i := 3) dL_law_1271 rfl rfl rfl ?_
      refine ev_iconst (pc' := 1273) (v := 3) dL_law_1272 rfl ki_3 ?_
      refine ev_iadd (pc' := 1274) (v := nI ((6 * k) + 3)) dL_law_1273 rfl (nI_add (6 * k) 3) ?_
      refine ev_sld (pc' := 1275) (j := (6 * k) + 3) (v := xs ((6 * k) + 3)) dL_law_1274 rfl rfl (by omega) (by omega) (by rw [hx]) ?_
      refine ev_aload_n (pc' := 1276) (i := 0) dL_law_1275 rfl rfl rfl ?_
      refine ev_iload_n (pc' := 1277) (i := 3) dL_law_1276 rfl rfl rfl ?_
      refine ev_iconst (pc' := 1278) (v := 4) dL_law_1277 rfl ki_4 ?_
      refine ev_iadd (pc' := 1279) (v := nI ((6 * k) + 4)) dL_law_1278 rfl (nI_add (6 * k) 4) ?_
      refine ev_sld (pc' := 1280) (j := (6 * k) + 4) (v := xs ((6 * k) + 4)) dL_law_1279 rfl rfl (by omega) (by omega) (by rw [hx]) ?_
      refine ev_callV (pc' := 1283) (rm' := rX8_first) (b := 115) (av := [.int (xs ((6 * k) + 1)), .int (xs ((6 * k) + 2)), .int (xs ((6 * k) + 3)), .int (xs ((6 * k) + 4))]) (rest := [.int r]) co_L_137 ci_X8_first cv_X8_first dL_law_1280 rfl hs_115 hb_X8 rfl rfl (Nat.le_of_ble_eq_true rfl) ⟨(Nat.le_of_ble_eq_true rfl), (Nat.le_of_ble_eq_true rfl)⟩ ⟨(Nat.le_of_ble_eq_true rfl), (Nat.le_of_ble_eq_true rfl)⟩ ?_
      refine kM (fun I2 L2 hI2 => ?_)
      refine ev_icmp_eq (tgt := 1531) (pc' := 1286) dL_law_1283 rfl rfl (fun _ => ?_) (fun h => absurd rfl h)
      exact K _ _ hI2
    by_cases c32 : x1 = 30
    · refine ev_tswIn (off := 1255) (tgt := 1288) dL_law_33 (by rw [c32]; decide) (by rw [c32]; decide) (by rw [c32]; rfl) rfl ?_
      refine ev_aload_n (pc' := 1289) (i := 1) dL_law_1288 rfl rfl rfl ?_
      refine ev_aload_n (pc' := 1290) (i := 0) dL_law_1289 rfl rfl rfl ?_
      refine ev_iload_n (pc' := 1291) (i := 3) dL_law_1290 rfl rfl rfl ?_
      refine ev_iconst (pc' := 1292) (v := 1) dL_law_1291 rfl ki_1 ?_
      refine ev_iadd (pc' := 1293) (v := nI ((6 * k) + 1)) dL_law_1292 rfl (nI_add (6 * k) 1) ?_
      refine ev_sld (pc' := 1294) (j := (6 * k) + 1) (v := xs ((6 * k) + 1)) dL_law_1293 rfl rfl (by omega) (by omega) (by rw [hx]) ?_
      refine ev_aload_n (pc' := 1295) (i := 0) dL_law_1294 rfl rfl rfl ?_
      refine ev_iload_n (pc' := 1296) (i := 3) dL_law_1295 rfl rfl rfl ?_
      refine ev_iconst (pc' := 1297) (v := 2) dL_law_1296 rfl ki_2 ?_
      refine ev_iadd (pc' := 1298) (v := nI ((6 * k) + 2)) dL_law_1297 rfl (nI_add (6 * k) 2) ?_
      refine ev_sld (pc' := 1299) (j := (6 * k) + 2) (v := xs ((6 * k) + 2)) dL_law_1298 rfl rfl (by omega) (by omega) (by rw [hx]) ?_
      refine ev_aload_n (pc' := 1300) (i := 0) dL_law_1299 rfl rfl rfl ?_
      refine ev_iload_n (pc' := 1301) (i := 3) dL_law_1300 rfl rfl rfl ?_
      refine ev_iconst (pc' := 1302) (v := 3) dL_law_1301 rfl ki_3 ?_
      refine ev_iadd (pc' := 1303) (v := nI ((6 * k) + 3)) dL_law_1302 rfl (nI_add (6 * k) 3) ?_
      refine ev_sld (pc' := 1304) (j := (6 * k) + 3) (v := xs ((6 * k) + 3)) dL_law_1303 rfl rfl (by omega) (by omega) (by rw [hx]) ?_
      refine ev_callV (pc' := 1307) (rm' := rX7_shared) (b := 3) (av := [.int (xs ((6 * k) + 1)), .int (xs ((6 * k) + 2)), .int (xs ((6 * k) + 3))]) (rest := []) co_L_138 ci_X7_shared cv_X7_shared dL_law_1304 rfl hs_3 hb_X7 rfl rfl (Nat.le_of_ble_eq_true rfl) ⟨(Nat.le_of_ble_eq_true rfl), (Nat.le_of_ble_eq_true rfl)⟩ ⟨(Nat.le_of_ble_eq_true rfl), (Nat.le_of_ble_eq_true rfl)⟩ ?_
      refine p_shared hI (xs ((6 * k) + 1)) (xs ((6 * k) + 2)) (xs ((6 * k) + 3)) (fun r I1 L1 kM => ?_)
      refine ev_aload_n (pc' := 1308) (i := 2) dL_law_1307 rfl rfl rfl ?_
      refine ev_aload_n (pc' := 1309) (i := 0) dL_law_1308 rfl rfl rfl ?_
      refine ev_iload_n (pc' := 1310) (i := 3) dL_law_1309 rfl rfl rfl ?_
      refine ev_iconst (pc' := 1311) (v := 1) dL_law_1310 rfl ki_1 ?_
      refine ev_iadd (pc' := 1312) (v := nI ((6 * k) + 1)) dL_law_1311 rfl (nI_add (6 * k) 1) ?_
      refine ev_sld (pc' := 1313) (j := (6 * k) + 1) (v := xs ((6 * k) + 1)) dL_law_1312 rfl rfl (by omega) (by omega) (by rw [hx]) ?_
      refine ev_aload_n (pc' := 1314) (i := 0) dL_law_1313 rfl rfl rfl ?_
      refine ev_iload_n (pc' := 1315) (i := 3) dL_law_1314 rfl rfl rfl ?_
      refine ev_iconst (pc' := 1316) (v := 2) dL_law_1315 rfl ki_2 ?_
      refine ev_iadd (pc' := 1317) (v := nI ((6 * k) + 2)) dL_law_1316 rfl (nI_add (6 * k) 2) ?_
      refine ev_sld (pc' := 1318) (j := (6 * k) + 2) (v := xs ((6 * k) + 2)) dL_law_1317 rfl rfl (by omega) (by omega) (by rw [hx]) ?_
      refine ev_aload_n (pc' := 1319) (i := 0) dL_law_1318 rfl rfl rfl ?_
      refine ev_iload_n (pc' := 1320) (i := 3) dL_law_1319 rfl rfl rfl ?_
      refine ev_iconst (pc' := 1321) (v := 3) dL_law_1320 rfl ki_3 ?_
      refine ev_iadd (pc' := 1322) (v := nI ((6 * k) + 3)) dL_law_1321 rfl (nI_add (6 * k) 3) ?_
      refine ev_sld (pc' := 1323) (j := (6 * k) + 3) (v := xs ((6 * k) + 3)) dL_law_1322 rfl rfl (by omega) (by omega) (by rw [hx]) ?_
      refine ev_callV (pc' := 1326) (rm' := rX8_shared) (b := 115) (av := [.int (xs ((6 * k) + 1)), .int (xs ((6 * k) + 2)), .int (xs ((6 * k) + 3))]) (rest := [.int r]) co_L_141 ci_X8_shared cv_X8_shared dL_law_1323 rfl hs_115 hb_X8 rfl rfl (Nat.le_of_ble_eq_true rfl) ⟨(Nat.le_of_ble_eq_true rfl), (Nat.le_of_ble_eq_true rfl)⟩ ⟨(Nat.le_of_ble_eq_true rfl), (Nat.le_of_ble_eq_true rfl)⟩ ?_
      refine kM (fun I2 L2 hI2 => ?_)
      refine ev_icmp_eq (tgt := 1531) (pc' := 1329) dL_law_1326 rfl rfl (fun _ => ?_) (fun h => absurd rfl h)
      exact K _ _ hI2
    by_cases c33 : x1 = 31
    · refine ev_tswIn (off := 1298) (tgt := 1331) dL_law_33 (by rw [c33]; decide) (by rw [c33]; decide) (by rw [c33]; rfl) rfl ?_
      refine ev_aload_n (pc' := 1332) (i := 1) dL_law_1331 rfl rfl rfl ?_
      refine ev_aload_n (pc' := 1333) (i := 0) dL_law_1332 rfl rfl rfl ?_
      refine ev_iload_n (pc' := 1334) (i := 3) dL_law_1333 rfl rfl rfl ?_
      refine ev_iconst (pc' := 1335) (v := 1) dL_law_1334 rfl ki_1 ?_
      refine ev_iadd (pc' := 1336) (v := nI ((6 * k) + 1)) dL_law_1335 rfl (nI_add (6 * k) 1) ?_
      refine ev_sld (pc' := 1337) (j := (6 * k) + 1) (v := xs ((6 * k) + 1)) dL_law_1336 rfl rfl (by omega) (by omega) (by rw [hx]) ?_
      refine ev_aload_n (pc' := 1338) (i := 0) dL_law_1337 rfl rfl rfl ?_
      refine ev_iload_n (pc' := 1339) (i := 3) dL_law_1338 rfl rfl rfl ?_
      refine ev_iconst (pc' := 1340) (v := 2) dL_law_1339 rfl ki_2 ?_
      refine ev_iadd (pc' := 1341) (v := nI ((6 * k) + 2)) dL_law_1340 rfl (nI_add (6 * k) 2) ?_
      refine ev_sld (pc' := 1342) (j := (6 * k) + 2) (v := xs ((6 * k) + 2)) dL_law_1341 rfl rfl (by omega) (by omega) (by rw [hx]) ?_
      refine ev_callV (pc' := 1345) (rm' := rX7_place) (b := 3) (av := [.int (xs ((6 * k) + 1)), .int (xs ((6 * k) + 2))]) (rest := []) co_L_142 ci_X7_place cv_X7_place dL_law_1342 rfl hs_3 hb_X7 rfl rfl (Nat.le_of_ble_eq_true rfl) ⟨(Nat.le_of_ble_eq_true rfl), (Nat.le_of_ble_eq_true rfl)⟩ ⟨(Nat.le_of_ble_eq_true rfl), (Nat.le_of_ble_eq_true rfl)⟩ ?_
      refine p_place hI (xs ((6 * k) + 1)) (xs ((6 * k) + 2)) (fun r I1 L1 kM => ?_)
      refine ev_aload_n (pc' := 1346) (i := 2) dL_law_1345 rfl rfl rfl ?_
      refine ev_aload_n (pc' := 1347) (i := 0) dL_law_1346 rfl rfl rfl ?_
      refine ev_iload_n (pc' := 1348) (i := 3) dL_law_1347 rfl rfl rfl ?_
      refine ev_iconst (pc' := 1349) (v := 1) dL_law_1348 rfl ki_1 ?_
      refine ev_iadd (pc' := 1350) (v := nI ((6 * k) + 1)) dL_law_1349 rfl (nI_add (6 * k) 1) ?_
      refine ev_sld (pc' := 1351) (j := (6 * k) + 1) (v := xs ((6 * k) + 1)) dL_law_1350 rfl rfl (by omega) (by omega) (by rw [hx]) ?_
      refine ev_aload_n (pc' := 1352) (i := 0) dL_law_1351 rfl rfl rfl ?_
      refine ev_iload_n (pc' := 1353) (i := 3) dL_law_1352 rfl rfl rfl ?_
      refine ev_iconst (pc' := 1354) (v := 2) dL_law_1353 rfl ki_2 ?_
      refine ev_iadd (pc' := 1355) (v := nI ((6 * k) + 2)) dL_law_1354 rfl (nI_add (6 * k) 2) ?_
      refine ev_sld (pc' := 1356) (j := (6 * k) + 2) (v := xs ((6 * k) + 2)) dL_law_1355 rfl rfl (by omega) (by omega) (by rw [hx]) ?_
      refine ev_callV (pc' := 1359) (rm' := rX8_place) (b := 115) (av := [.int (xs ((6 * k) + 1)), .int (xs ((6 * k) + 2))]) (rest := [.int r]) co_L_145 ci_X8_place cv_X8_place dL_law_1356 rfl hs_115 hb_X8 rfl rfl (Nat.le_of_ble_eq_true rfl) ⟨(Nat.le_of_ble_eq_true rfl), (Nat.le_of_ble_eq_true rfl)⟩ ⟨(Nat.le_of_ble_eq_true rfl), (Nat.le_of_ble_eq_true rfl)⟩ ?_
      refine kM (fun I2 L2 hI2 => ?_)
      refine ev_icmp_eq (tgt := 1531) (pc' := 1362) dL_law_1359 rfl rfl (fun _ => ?_) (fun h => absurd rfl h)
      exact K _ _ hI2
    by_cases c34 : x1 = 32
    · refine ev_tswIn (off := 1331) (tgt := 1364) dL_law_33 (by rw [c34]; decide) (by rw [c34]; decide) (by rw [c34]; rfl) rfl ?_
      refine ev_aload_n (pc' := 1365) (i := 1) dL_law_1364 rfl rfl rfl ?_
      refine ev_aload_n (pc' := 1366) (i := 0) dL_law_1365 rfl rfl rfl ?_
      refine ev_iload_n (pc' := 1367) (i := 3) dL_law_1366 rfl rfl rfl ?_
      refine ev_iconst (pc' := 1368) (v := 1) dL_law_1367 rfl ki_1 ?_
      refine ev_iadd (pc' := 1369) (v := nI ((6 * k) + 1)) dL_law_1368 rfl (nI_add (6 * k) 1) ?_
      refine ev_sld (pc' := 1370) (j := (6 * k) + 1) (v := xs ((6 * k) + 1)) dL_law_1369 rfl rfl (by omega) (by omega) (by rw [hx]) ?_
      refine ev_aload_n (pc' := 1371) (i := 0) dL_law_1370 rfl rfl rfl ?_
      refine ev_iload_n (pc' := 1372) (i := 3) dL_law_1371 rfl rfl rfl ?_
      refine ev_iconst (pc' := 1373) (v := 2) dL_law_1372 rfl ki_2 ?_
      refine ev_iadd (pc' := 1374) (v := nI ((6 * k) + 2)) dL_law_1373 rfl (nI_add (6 * k) 2) ?_
      refine ev_sld (pc' := 1375) (j := (6 * k) + 2) (v := xs ((6 * k) + 2)) dL_law_1374 rfl rfl (by omega) (by omega) (by rw [hx]) ?_
      refine ev_aload_n (pc' := 1376) (i := 0) dL_law_1375 rfl rfl rfl ?_
      refine ev_iload_n (pc' := 1377) (i := 3) dL_law_1376 rfl rfl rfl ?_
      refine ev_iconst (pc' := 1378) (v := 3) dL_law_1377 rfl ki_3 ?_
      refine ev_iadd (pc' := 1379) (v := nI ((6 * k) + 3)) dL_law_1378 rfl (nI_add (6 * k) 3) ?_
      refine ev_sld (pc' := 1380) (j := (6 * k) + 3) (v := xs ((6 * k) + 3)) dL_law_1379 rfl rfl (by omega) (by omega) (by rw [hx]) ?_
      refine ev_aload_n (pc' := 1381) (i := 0) dL_law_1380 rfl rfl rfl ?_
      refine ev_iload_n (pc' := 1382) (i := 3) dL_law_1381 rfl rfl rfl ?_
      refine ev_iconst (pc' := 1383) (v := 4) dL_law_1382 rfl ki_4 ?_
      refine ev_iadd (pc' := 1384) (v := nI ((6 * k) + 4)) dL_law_1383 rfl (nI_add (6 * k) 4) ?_
      refine ev_sld (pc' := 1385) (j := (6 * k) + 4) (v := xs ((6 * k) + 4)) dL_law_1384 rfl rfl (by omega) (by omega) (by rw [hx]) ?_
      refine ev_callV (pc' := 1388) (rm' := rX7_shared3) (b := 3) (av := [.int (xs ((6 * k) + 1)), .int (xs ((6 * k) + 2)), .int (xs ((6 * k) + 3)), .int (xs ((6 * k) + 4))]) (rest := []) co_L_146 ci_X7_shared3 cv_X7_shared3 dL_law_1385 rfl hs_3 hb_X7 rfl rfl (Nat.le_of_ble_eq_true rfl) ⟨(Nat.le_of_ble_eq_true rfl), (Nat.le_of_ble_eq_true rfl)⟩ ⟨(Nat.le_of_ble_eq_true rfl), (Nat.le_of_ble_eq_true rfl)⟩ ?_
      refine p_shared3 hI (xs ((6 * k) + 1)) (xs ((6 * k) + 2)) (xs ((6 * k) + 3)) (xs ((6 * k) + 4)) (fun r I1 L1 kM => ?_)
      refine ev_aload_n (pc' := 1389) (i := 2) dL_law_1388 rfl rfl rfl ?_
      refine ev_aload_n (pc' := 1390) (i := 0) dL_law_1389 rfl rfl rfl ?_
      refine ev_iload_n (pc' := 1391) (i := 3) dL_law_1390 rfl rfl rfl ?_
      refine ev_iconst (pc' := 1392) (v := 1) dL_law_1391 rfl ki_1 ?_
      refine ev_iadd (pc' := 1393) (v := nI ((6 * k) + 1)) dL_law_1392 rfl (nI_add (6 * k) 1) ?_
      refine ev_sld (pc' := 1394) (j := (6 * k) + 1) (v := xs ((6 * k) + 1)) dL_law_1393 rfl rfl (by omega) (by omega) (by rw [hx]) ?_
      refine ev_aload_n (pc' := 1395) (i := 0) dL_law_1394 rfl rfl rfl ?_
      refine ev_iload_n (pc' := 1396) (i := 3) dL_law_1395 rfl rfl rfl ?_
      refine ev_iconst (pc' := 1397) (v := 2) dL_law_1396 rfl ki_2 ?_
      refine ev_iadd (pc' := 1398) (v := nI ((6 * k) + 2)) dL_law_1397 rfl (nI_add (6 * k) 2) ?_
      refine ev_sld (pc' := 1399) (j := (6 * k) + 2) (v := xs ((6 * k) + 2)) dL_law_1398 rfl rfl (by omega) (by omega) (by rw [hx]) ?_
      refine ev_aload_n (pc' := 1400) (i := 0) dL_law_1399 rfl rfl rfl ?_
      refine ev_iload_n (pc' := 1401) (i := 3) dL_law_1400 rfl rfl rfl ?_
      refine ev_iconst (pc' := 1402) (v := 3) dL_law_1401 rfl ki_3 ?_
      refine ev_iadd (pc' := 1403) (v := nI ((6 * k) + 3)) dL_law_1402 rfl (nI_add (6 * k) 3) ?_
      refine ev_sld (pc' := 1404) (j := (6 * k) + 3) (v := xs ((6 * k) + 3)) dL_law_1403 rfl rfl (by omega) (by omega) (by rw [hx]) ?_
      refine ev_aload_n (pc' := 1405) (i := 0) dL_law_1404 rfl rfl rfl ?_
      refine ev_iload_n (pc' := 1406) (i := 3) dL_law_1405 rfl rfl rfl ?_
      refine ev_iconst (pc' := 1407) (v := 4) dL_law_1406 rfl ki_4 ?_
      refine ev_iadd (pc' := 1408) (v := nI ((6 * k) + 4)) dL_law_1407 rfl (nI_add (6 * k) 4) ?_
      refine ev_sld (pc' := 1409) (j := (6 * k) + 4) (v := xs ((6 * k) + 4)) dL_law_1408 rfl rfl (by omega) (by omega) (by rw [hx]) ?_
      refine ev_callV (pc' := 1412) (rm' := rX8_shared3) (b := 115) (av := [.int (xs ((6 * k) + 1)), .int (xs ((6 * k) + 2)), .int (xs ((6 * k) + 3)), .int (xs ((6 * k) + 4))]) (rest := [.int r]) co_L_149 ci_X8_shared3 cv_X8_shared3 dL_law_1409 rfl hs_115 hb_X8 rfl rfl (Nat.le_of_ble_eq_true rfl) ⟨(Nat.le_of_ble_eq_true rfl), (Nat.le_of_ble_eq_true rfl)⟩ ⟨(Nat.le_of_ble_eq_true rfl), (Nat.le_of_ble_eq_true rfl)⟩ ?_
      refine kM (fun I2 L2 hI2 => ?_)
      refine ev_icmp_eq (tgt := 1531) (pc' := 1415) dL_law_1412 rfl rfl (fun _ => ?_) (fun h => absurd rfl h)
      exact K _ _ hI2
    by_cases c35 : x1 = 33
    · refine ev_tswIn (off := 1384) (tgt := 1417) dL_law_33 (by rw [c35]; decide) (by rw [c35]; decide) (by rw [c35]; rfl) rfl ?_
      refine ev_aload_n (pc' := 1418) (i := 1) dL_law_1417 rfl rfl rfl ?_
      refine ev_callV (pc' := 1421) (rm' := rX7_asked) (b := 3) (av := []) (rest := []) co_L_150 ci_X7_asked cv_X7_asked dL_law_1418 rfl hs_3 hb_X7 rfl rfl (Nat.le_of_ble_eq_true rfl) ⟨(Nat.le_of_ble_eq_true rfl), (Nat.le_of_ble_eq_true rfl)⟩ ⟨(Nat.le_of_ble_eq_true rfl), (Nat.le_of_ble_eq_true rfl)⟩ ?_
      refine p_asked hI  (fun r I1 L1 kM => ?_)
      refine ev_aload_n (pc' := 1422) (i := 2) dL_law_1421 rfl rfl rfl ?_
      refine ev_callV (pc' := 1425) (rm' := rX8_asked) (b := 115) (av := []) (rest := [.int r]) co_L_154 ci_X8_asked cv_X8_asked dL_law_1422 rfl hs_115 hb_X8 rfl rfl (Nat.le_of_ble_eq_true rfl) ⟨(Nat.le_of_ble_eq_true rfl), (Nat.le_of_ble_eq_true rfl)⟩ ⟨(Nat.le_of_ble_eq_true rfl), (Nat.le_of_ble_eq_true rfl)⟩ ?_
      refine kM (fun I2 L2 hI2 => ?_)
      refine ev_icmp_eq (tgt := 1531) (pc' := 1428) dL_law_1425 rfl rfl (fun _ => ?_) (fun h => absurd rfl h)
      exact K _ _ hI2
    by_cases c36 : x1 = 34
    · refine ev_tswIn (off := 1397) (tgt := 1430) dL_law_33 (by rw [c36]; decide) (by rw [c36]; decide) (by rw [c36]; rfl) rfl ?_
      refine ev_aload_n (pc' := 1431) (i := 1) dL_law_1430 rfl rfl rfl ?_
      refine ev_callV (pc' := 1434) (rm' := rX7_upper) (b := 3) (av := []) (rest := []) co_L_155 ci_X7_upper cv_X7_upper dL_law_1431 rfl hs_3 hb_X7 rfl rfl (Nat.le_of_ble_eq_true rfl) ⟨(Nat.le_of_ble_eq_true rfl), (Nat.le_of_ble_eq_true rfl)⟩ ⟨(Nat.le_of_ble_eq_true rfl), (Nat.le_of_ble_eq_true rfl)⟩ ?_
      refine p_upper hI  (fun r I1 L1 kM => ?_)
      refine ev_aload_n (pc' := 1435) (i := 2) dL_law_1434 rfl rfl rfl ?_
      refine ev_callV (pc' := 1438) (rm' := rX8_upper) (b := 115) (av := []) (rest := [.long r]) co_L_159 ci_X8_upper cv_X8_upper dL_law_1435 rfl hs_115 hb_X8 rfl rfl (Nat.le_of_ble_eq_true rfl) ⟨(Nat.le_of_ble_eq_true rfl), (Nat.le_of_ble_eq_true rfl)⟩ ⟨(Nat.le_of_ble_eq_true rfl), (Nat.le_of_ble_eq_true rfl)⟩ ?_
      refine kM (fun I2 L2 hI2 => ?_)
      refine ev_lc_eq (p1 := 1439) (tgt := 1531) (pc' := 1442) dL_law_1438 rfl dL_law_1439 rfl rfl (fun _ => ?_) (fun h => absurd rfl h)
      exact K _ _ hI2
    by_cases c37 : x1 = 35
    · refine ev_tswIn (off := 1411) (tgt := 1444) dL_law_33 (by rw [c37]; decide) (by rw [c37]; decide) (by rw [c37]; rfl) rfl ?_
      refine ev_aload_n (pc' := 1445) (i := 1) dL_law_1444 rfl rfl rfl ?_
      refine ev_callV (pc' := 1448) (rm' := rX7_lower) (b := 3) (av := []) (rest := []) co_L_160 ci_X7_lower cv_X7_lower dL_law_1445 rfl hs_3 hb_X7 rfl rfl (Nat.le_of_ble_eq_true rfl) ⟨(Nat.le_of_ble_eq_true rfl), (Nat.le_of_ble_eq_true rfl)⟩ ⟨(Nat.le_of_ble_eq_true rfl), (Nat.le_of_ble_eq_true rfl)⟩ ?_
      refine p_lower hI  (fun r I1 L1 kM => ?_)
      refine ev_aload_n (pc' := 1449) (i := 2) dL_law_1448 rfl rfl rfl ?_
      refine ev_callV (pc' := 1452) (rm' := rX8_lower) (b := 115) (av := []) (rest := [.long r]) co_L_163 ci_X8_lower cv_X8_lower dL_law_1449 rfl hs_115 hb_X8 rfl rfl (Nat.le_of_ble_eq_true rfl) ⟨(Nat.le_of_ble_eq_true rfl), (Nat.le_of_ble_eq_true rfl)⟩ ⟨(Nat.le_of_ble_eq_true rfl), (Nat.le_of_ble_eq_true rfl)⟩ ?_
      refine kM (fun I2 L2 hI2 => ?_)
      refine ev_lc_eq (p1 := 1453) (tgt := 1531) (pc' := 1456) dL_law_1452 rfl dL_law_1453 rfl rfl (fun _ => ?_) (fun h => absurd rfl h)
      exact K _ _ hI2
    by_cases c38 : x1 = 36
    · refine ev_tswIn (off := 1425) (tgt := 1458) dL_law_33 (by rw [c38]; decide) (by rw [c38]; decide) (by rw [c38]; rfl) rfl ?_
      refine ev_aload_n (pc' := 1459) (i := 1) dL_law_1458 rfl rfl rfl ?_
      refine ev_aload_n (pc' := 1460) (i := 0) dL_law_1459 rfl rfl rfl ?_
      refine ev_iload_n (pc' := 1461) (i := 3) dL_law_1460 rfl rfl rfl ?_
      refine ev_iconst (pc' := 1462) (v := 1) dL_law_1461 rfl ki_1 ?_
      refine ev_iadd (pc' := 1463) (v := nI ((6 * k) + 1)) dL_law_1462 rfl (nI_add (6 * k) 1) ?_
      refine ev_sld (pc' := 1464) (j := (6 * k) + 1) (v := xs ((6 * k) + 1)) dL_law_1463 rfl rfl (by omega) (by omega) (by rw [hx]) ?_
      refine ev_callV (pc' := 1467) (rm' := rX7_count) (b := 3) (av := [.int (xs ((6 * k) + 1))]) (rest := []) co_L_164 ci_X7_count cv_X7_count dL_law_1464 rfl hs_3 hb_X7 rfl rfl (Nat.le_of_ble_eq_true rfl) ⟨(Nat.le_of_ble_eq_true rfl), (Nat.le_of_ble_eq_true rfl)⟩ ⟨(Nat.le_of_ble_eq_true rfl), (Nat.le_of_ble_eq_true rfl)⟩ ?_
      refine p_count hI (xs ((6 * k) + 1)) (fun r I1 L1 kM => ?_)
      refine ev_aload_n (pc' := 1468) (i := 2) dL_law_1467 rfl rfl rfl ?_
      refine ev_aload_n (pc' := 1469) (i := 0) dL_law_1468 rfl rfl rfl ?_
      refine ev_iload_n (pc' := 1470) (i := 3) dL_law_1469 rfl rfl rfl ?_
      refine ev_iconst (pc' := 1471) (v := 1) dL_law_1470 rfl ki_1 ?_
      refine ev_iadd (pc' := 1472) (v := nI ((6 * k) + 1)) dL_law_1471 rfl (nI_add (6 * k) 1) ?_
      refine ev_sld (pc' := 1473) (j := (6 * k) + 1) (v := xs ((6 * k) + 1)) dL_law_1472 rfl rfl (by omega) (by omega) (by rw [hx]) ?_
      refine ev_callV (pc' := 1476) (rm' := rX8_count) (b := 115) (av := [.int (xs ((6 * k) + 1))]) (rest := [.int r]) co_L_167 ci_X8_count cv_X8_count dL_law_1473 rfl hs_115 hb_X8 rfl rfl (Nat.le_of_ble_eq_true rfl) ⟨(Nat.le_of_ble_eq_true rfl), (Nat.le_of_ble_eq_true rfl)⟩ ⟨(Nat.le_of_ble_eq_true rfl), (Nat.le_of_ble_eq_true rfl)⟩ ?_
      refine kM (fun I2 L2 hI2 => ?_)
      refine ev_icmp_eq (tgt := 1531) (pc' := 1479) dL_law_1476 rfl rfl (fun _ => ?_) (fun h => absurd rfl h)
      exact K _ _ hI2
    by_cases c39 : x1 = 37
    · refine ev_tswIn (off := 1448) (tgt := 1481) dL_law_33 (by rw [c39]; decide) (by rw [c39]; decide) (by rw [c39]; rfl) rfl ?_
      refine ev_aload_n (pc' := 1482) (i := 1) dL_law_1481 rfl rfl rfl ?_
      refine ev_callV (pc' := 1485) (rm' := rX7_finding) (b := 3) (av := []) (rest := []) co_L_168 ci_X7_finding cv_X7_finding dL_law_1482 rfl hs_3 hb_X7 rfl rfl (Nat.le_of_ble_eq_true rfl) ⟨(Nat.le_of_ble_eq_true rfl), (Nat.le_of_ble_eq_true rfl)⟩ ⟨(Nat.le_of_ble_eq_true rfl), (Nat.le_of_ble_eq_true rfl)⟩ ?_
      refine p_finding hI  (fun r I1 L1 kM => ?_)
      refine ev_aload_n (pc' := 1486) (i := 2) dL_law_1485 rfl rfl rfl ?_
      refine ev_callV (pc' := 1489) (rm' := rX8_finding) (b := 115) (av := []) (rest := [.int r]) co_L_171 ci_X8_finding cv_X8_finding dL_law_1486 rfl hs_115 hb_X8 rfl rfl (Nat.le_of_ble_eq_true rfl) ⟨(Nat.le_of_ble_eq_true rfl), (Nat.le_of_ble_eq_true rfl)⟩ ⟨(Nat.le_of_ble_eq_true rfl), (Nat.le_of_ble_eq_true rfl)⟩ ?_
      refine kM (fun I2 L2 hI2 => ?_)
      refine ev_icmp_eq (tgt := 1531) (pc' := 1492) dL_law_1489 rfl rfl (fun _ => ?_) (fun h => absurd rfl h)
      exact K _ _ hI2
    by_cases c40 : x1 = 38
    · refine ev_tswIn (off := 1461) (tgt := 1494) dL_law_33 (by rw [c40]; decide) (by rw [c40]; decide) (by rw [c40]; rfl) rfl ?_
      refine ev_aload_n (pc' := 1495) (i := 1) dL_law_1494 rfl rfl rfl ?_
      refine ev_aload_n (pc' := 1496) (i := 0) dL_law_1495 rfl rfl rfl ?_
      refine ev_iload_n (pc' := 1497) (i := 3) dL_law_1496 rfl rfl rfl ?_
      refine ev_iconst (pc' := 1498) (v := 1) dL_law_1497 rfl ki_1 ?_
      refine ev_iadd (pc' := 1499) (v := nI ((6 * k) + 1)) dL_law_1498 rfl (nI_add (6 * k) 1) ?_
      refine ev_sld (pc' := 1500) (j := (6 * k) + 1) (v := xs ((6 * k) + 1)) dL_law_1499 rfl rfl (by omega) (by omega) (by rw [hx]) ?_
      refine ev_callV (pc' := 1503) (rm' := rX7_findings) (b := 3) (av := [.int (xs ((6 * k) + 1))]) (rest := []) co_L_172 ci_X7_findings cv_X7_findings dL_law_1500 rfl hs_3 hb_X7 rfl rfl (Nat.le_of_ble_eq_true rfl) ⟨(Nat.le_of_ble_eq_true rfl), (Nat.le_of_ble_eq_true rfl)⟩ ⟨(Nat.le_of_ble_eq_true rfl), (Nat.le_of_ble_eq_true rfl)⟩ ?_
      refine p_findings hI (xs ((6 * k) + 1)) (fun r I1 L1 kM => ?_)
      refine ev_aload_n (pc' := 1504) (i := 2) dL_law_1503 rfl rfl rfl ?_
      refine ev_aload_n (pc' := 1505) (i := 0) dL_law_1504 rfl rfl rfl ?_
      refine ev_iload_n (pc' := 1506) (i := 3) dL_law_1505 rfl rfl rfl ?_
      refine ev_iconst (pc' := 1507) (v := 1) dL_law_1506 rfl ki_1 ?_
      refine ev_iadd (pc' := 1508) (v := nI ((6 * k) + 1)) dL_law_1507 rfl (nI_add (6 * k) 1) ?_
      refine ev_sld (pc' := 1509) (j := (6 * k) + 1) (v := xs ((6 * k) + 1)) dL_law_1508 rfl rfl (by omega) (by omega) (by rw [hx]) ?_
      refine ev_callV (pc' := 1512) (rm' := rX8_findings) (b := 115) (av := [.int (xs ((6 * k) + 1))]) (rest := [.int r]) co_L_175 ci_X8_findings cv_X8_findings dL_law_1509 rfl hs_115 hb_X8 rfl rfl (Nat.le_of_ble_eq_true rfl) ⟨(Nat.le_of_ble_eq_true rfl), (Nat.le_of_ble_eq_true rfl)⟩ ⟨(Nat.le_of_ble_eq_true rfl), (Nat.le_of_ble_eq_true rfl)⟩ ?_
      refine kM (fun I2 L2 hI2 => ?_)
      refine ev_icmp_eq (tgt := 1531) (pc' := 1515) dL_law_1512 rfl rfl (fun _ => ?_) (fun h => absurd rfl h)
      exact K _ _ hI2
    by_cases c41 : x1 = 39
    · refine ev_tswIn (off := 1484) (tgt := 1517) dL_law_33 (by rw [c41]; decide) (by rw [c41]; decide) (by rw [c41]; rfl) rfl ?_
      refine ev_aload_n (pc' := 1518) (i := 1) dL_law_1517 rfl rfl rfl ?_
      refine ev_callV (pc' := 1521) (rm' := rX7_digest) (b := 3) (av := []) (rest := []) co_L_176 ci_X7_digest cv_X7_digest dL_law_1518 rfl hs_3 hb_X7 rfl rfl (Nat.le_of_ble_eq_true rfl) ⟨(Nat.le_of_ble_eq_true rfl), (Nat.le_of_ble_eq_true rfl)⟩ ⟨(Nat.le_of_ble_eq_true rfl), (Nat.le_of_ble_eq_true rfl)⟩ ?_
      refine p_digest hI  (fun r I1 L1 kM => ?_)
      refine ev_aload_n (pc' := 1522) (i := 2) dL_law_1521 rfl rfl rfl ?_
      refine ev_callV (pc' := 1525) (rm' := rX8_digest) (b := 115) (av := []) (rest := [.long r]) co_L_179 ci_X8_digest cv_X8_digest dL_law_1522 rfl hs_115 hb_X8 rfl rfl (Nat.le_of_ble_eq_true rfl) ⟨(Nat.le_of_ble_eq_true rfl), (Nat.le_of_ble_eq_true rfl)⟩ ⟨(Nat.le_of_ble_eq_true rfl), (Nat.le_of_ble_eq_true rfl)⟩ ?_
      refine kM (fun I2 L2 hI2 => ?_)
      refine ev_lc_eq (p1 := 1526) (tgt := 1531) (pc' := 1529) dL_law_1525 rfl dL_law_1526 rfl rfl (fun _ => ?_) (fun h => absurd rfl h)
      exact K _ _ hI2
    refine ev_tswOut (tgt := 1531) dL_law_33 (by have q0 : ¬ (x1).toInt = 0 := fun q => c2 (nb_eq.mpr (q.trans (by decide))); have q1 : ¬ (x1).toInt = 1 := fun q => c3 (nb_eq.mpr (q.trans (by decide))); have q2 : ¬ (x1).toInt = 2 := fun q => c4 (nb_eq.mpr (q.trans (by decide))); have q3 : ¬ (x1).toInt = 3 := fun q => c5 (nb_eq.mpr (q.trans (by decide))); have q4 : ¬ (x1).toInt = 4 := fun q => c6 (nb_eq.mpr (q.trans (by decide))); have q5 : ¬ (x1).toInt = 5 := fun q => c7 (nb_eq.mpr (q.trans (by decide))); have q6 : ¬ (x1).toInt = 6 := fun q => c8 (nb_eq.mpr (q.trans (by decide))); have q7 : ¬ (x1).toInt = 7 := fun q => c9 (nb_eq.mpr (q.trans (by decide))); have q8 : ¬ (x1).toInt = 8 := fun q => c10 (nb_eq.mpr (q.trans (by decide))); have q9 : ¬ (x1).toInt = 9 := fun q => c11 (nb_eq.mpr (q.trans (by decide))); have q10 : ¬ (x1).toInt = 10 := fun q => c12 (nb_eq.mpr (q.trans (by decide))); have q11 : ¬ (x1).toInt = 11 := fun q => c13 (nb_eq.mpr (q.trans (by decide))); have q12 : ¬ (x1).toInt = 12 := fun q => c14 (nb_eq.mpr (q.trans (by decide))); have q13 : ¬ (x1).toInt = 13 := fun q => c15 (nb_eq.mpr (q.trans (by decide))); have q14 : ¬ (x1).toInt = 14 := fun q => c16 (nb_eq.mpr (q.trans (by decide))); have q15 : ¬ (x1).toInt = 15 := fun q => c17 (nb_eq.mpr (q.trans (by decide))); have q16 : ¬ (x1).toInt = 16 := fun q => c18 (nb_eq.mpr (q.trans (by decide))); have q17 : ¬ (x1).toInt = 17 := fun q => c19 (nb_eq.mpr (q.trans (by decide))); have q18 : ¬ (x1).toInt = 18 := fun q => c20 (nb_eq.mpr (q.trans (by decide))); have q19 : ¬ (x1).toInt = 19 := fun q => c21 (nb_eq.mpr (q.trans (by decide))); have q20 : ¬ (x1).toInt = 20 := fun q => c22 (nb_eq.mpr (q.trans (by decide))); have q21 : ¬ (x1).toInt = 21 := fun q => c23 (nb_eq.mpr (q.trans (by decide))); have q22 : ¬ (x1).toInt = 22 := fun q => c24 (nb_eq.mpr (q.trans (by decide))); have q23 : ¬ (x1).toInt = 23 := fun q => c25 (nb_eq.mpr (q.trans (by decide))); have q24 : ¬ (x1).toInt = 24 := fun q => c26 (nb_eq.mpr (q.trans (by decide))); have q25 : ¬ (x1).toInt = 25 := fun q => c27 (nb_eq.mpr (q.trans (by decide))); have q26 : ¬ (x1).toInt = 26 := fun q => c28 (nb_eq.mpr (q.trans (by decide))); have q27 : ¬ (x1).toInt = 27 := fun q => c29 (nb_eq.mpr (q.trans (by decide))); have q28 : ¬ (x1).toInt = 28 := fun q => c30 (nb_eq.mpr (q.trans (by decide))); have q29 : ¬ (x1).toInt = 29 := fun q => c31 (nb_eq.mpr (q.trans (by decide))); have q30 : ¬ (x1).toInt = 30 := fun q => c32 (nb_eq.mpr (q.trans (by decide))); have q31 : ¬ (x1).toInt = 31 := fun q => c33 (nb_eq.mpr (q.trans (by decide))); have q32 : ¬ (x1).toInt = 32 := fun q => c34 (nb_eq.mpr (q.trans (by decide))); have q33 : ¬ (x1).toInt = 33 := fun q => c35 (nb_eq.mpr (q.trans (by decide))); have q34 : ¬ (x1).toInt = 34 := fun q => c36 (nb_eq.mpr (q.trans (by decide))); have q35 : ¬ (x1).toInt = 35 := fun q => c37 (nb_eq.mpr (q.trans (by decide))); have q36 : ¬ (x1).toInt = 36 := fun q => c38 (nb_eq.mpr (q.trans (by decide))); have q37 : ¬ (x1).toInt = 37 := fun q => c39 (nb_eq.mpr (q.trans (by decide))); have q38 : ¬ (x1).toInt = 38 := fun q => c40 (nb_eq.mpr (q.trans (by decide))); have q39 : ¬ (x1).toInt = 39 := fun q => c41 (nb_eq.mpr (q.trans (by decide))); omega) rfl ?_
    refine ev_iinc (pc' := 1534) (v := nI (6 * (k + 1))) (lv' := [some (.ref 0), some (.ref 3), some (.ref 115), some (.int (nI (6 * (k + 1))))]) dL_law_1531 rfl rfl ((nI_add (6 * k) 6).trans (congrArg nI (by omega))) (Nat.le_of_ble_eq_true rfl) rfl rfl ?_
    refine ev_goto (tgt := 18) dL_law_1534 rfl ?_
    exact ih (k + 1) _ _ (by omega) (by omega) hI
theorem law_ar {s : State} {args : Array Value} {ty : FieldType} (hra : ∀ cA, s.vm.findClass ("[" ++ ty.toString) = some cA → va_RA s cA ty) (h : (Cond.arrayClass ty).before args s = true) : ∃ cA, ArrOfT s cA ty ∧ va_RA s cA ty := by
  obtain ⟨cA, kA, comp, hf, hk, hkind⟩ := Cond.arrayClass_spec h
  exact ⟨cA, fun n z => ⟨fun k h => (by cases h), kA, hk, comp, hkind⟩, hra cA hf⟩
theorem law_ao {s : State} {C : String} (h : va_AO C s) : ∃ cA, ArrOfT s cA (.object C) ∧ va_RA s cA (.object C) := by
  obtain ⟨comp, c, k, h1, h2, h3, h4, h5⟩ := Cond.arrayOver_spec h
  exact ⟨c, fun n z => ⟨fun k h => (by cases h), k, h3, comp, h4⟩, k, comp, h3, h4, h1, h5⟩
theorem law_row {s : State} {args : Array Value} {nm : String} {f : Nat → Int32} (hg : (Jvm.Cond.and given_1 narrow_1).before args s = true) (h1 : Cond.arrayOf (.static "BentGrounds" nm "[I") .int ∈ flatC (Jvm.Cond.and given_1 narrow_1)) (h2 : Cond.eq (.length (.static "BentGrounds" nm "[I")) (.int 10) ∈ flatC (Jvm.Cond.and given_1 narrow_1)) (h3 : ∀ j, j < 10 → Cond.eq (.elem (.static "BentGrounds" nm "[I") (.int (Int32.ofNat j))) (.int (f j)) ∈ flatC (Jvm.Cond.and given_1 narrow_1)) (hl : (Cond.laysStatic "BentGrounds" nm "[I").before args s = true) (hi : (Cond.initialized "BentGrounds").before args s = true) :
    ∃ t, va_T .int t 10 (fun k => .int (f k)) (fun q => s.heap.size ≤ q) s s.heap ∧ va_Z "BentGrounds" nm "[I" (.ref t) (fun q => s.heap.size ≤ q) s s.heap ∧ t < s.heap.size := by
  have hs := flat_of_before _ hg
  obtain ⟨t, ht, hT⟩ := va_Tof (N := 10) (f := fun k => .int (f k)) (A := fun q => s.heap.size ≤ q) (by decide) (hs _ h1) (va_eqt (hs _ h2)) (fun j hj => va_eqt (hs _ (h3 j hj))) (fun a ha => Nat.not_le.mpr ha)
  exact ⟨t, hT, va_Zof hl hi ht (fun a ha => Nat.not_le.mpr ha), Nat.not_le.mp hT.out⟩
set_option maxRecDepth 20000 in
theorem whole_start {p : Program} {e : Env} {s : State} {m : MethodId} {below : List Frame} {meth : Method} {c : Code} (l : Launch) {b L : Nat} {xs : Nat → Int32} (hL : L ≤ 3072) (C0 : lw_At p s m meth c b L xs) : W p l e room_1 s m #[Value.ref b] below meth c s.heap [] 0 0 (lw_Z below #[Value.ref b] s) (entryFrame m ([Value.ref b] : List Value).toArray 4) := by
  obtain ⟨hx, hb, hr, hml, hown, hts, hX, hbl, hlk, hgv⟩ := C0
  obtain ⟨c0, i0, k0⟩ := u_known (C := RX0) (T := TX0) (N := 10) (n := 10) hts (fun w hw => (tb_ws0 w hw).1) (hts _ cb_X0)
  obtain ⟨c1, i1, k1⟩ := u_known (C := RX1) (T := TX1) (N := 3) (n := 3) hts (fun w hw => (tb_ws1 w hw).1) (hts _ cb_X1)
  obtain ⟨c2, i2, k2⟩ := u_known (C := RX2) (T := TX2) (N := 2) (n := 2) hts (fun w hw => (tb_ws2 w hw).1) (hts _ cb_X2)
  obtain ⟨c3, i3, k3⟩ := u_known (C := RX3) (T := TX3) (N := 2) (n := 2) hts (fun w hw => (tb_ws3 w hw).1) (hts _ cb_X3)
  obtain ⟨c4, i4, k4⟩ := u_known (C := RX4) (T := TX4) (N := 6) (n := 6) hts (fun w hw => (tb_ws4 w hw).1) (hts _ cb_X4)
  obtain ⟨c5, i5, k5⟩ := u_known (C := RX5) (T := TX5) (N := 5) (n := 5) hts (fun w hw => (tb_ws5 w hw).1) (hts _ cb_X5)
  obtain ⟨c6, i6, k6⟩ := u_known (C := RX6) (T := TX6) (N := 2) (n := 2) hts (fun w hw => (tb_ws6 w hw).1) (hts _ cb_X6)
  obtain ⟨c7, i7, k7⟩ := u_known (C := RX7) (T := TX7) (N := 18) (n := 18) hts (fun w hw => (tb_ws7 w hw).1) (hts _ cb_X7)
  obtain ⟨c8, i8, k8⟩ := u_known (C := RX8) (T := TX8) (N := 48) (n := 48) hts (fun w hw => (tb_ws8 w hw).1) (hts _ cb_X8)
  have w9 : Cond.arrayClass .int ∈ lw_tbl := tb_m (i := 182) rfl
  have w10 : Cond.arrayClass .long ∈ lw_tbl := tb_m (i := 125) rfl
  have w11 : Cond.arrayClass .boolean ∈ lw_tbl := tb_m (i := 1026) rfl
  have w12 : Cond.arrayOver (.object "BentGrounds$Sheet") ∈ lw_tbl := tb_m (i := 91) rfl
  have w13 : Cond.arrayOver (.object "BentGrounds$Ground") ∈ lw_tbl := tb_m (i := 93) rfl
  have wR : Cond.laysStatic "BentGrounds" "ROW_OF" "[I" ∈ lw_tbl := tb_m (i := 376) rfl
  have wC : Cond.laysStatic "BentGrounds" "COLUMN_OF" "[I" ∈ lw_tbl := tb_m (i := 378) rfl
  obtain ⟨a9, r9, q9⟩ := law_ar (s := s) (ty := .int) (fun _ h => h) (hts _ w9)
  obtain ⟨a10, r10, q10⟩ := law_ar (s := s) (ty := .long) (fun _ h => h) (hts _ w10)
  obtain ⟨a11, r11, q11⟩ := law_ar (s := s) (ty := .boolean) (fun _ h => h) (hts _ w11)
  obtain ⟨a12, r12, q12⟩ := law_ao (va_AO.of (hts _ w12))
  obtain ⟨a13, r13, q13⟩ := law_ao (va_AO.of (hts _ w13))
  obtain ⟨tR, hR1, hR2, hR3⟩ := law_row (nm := "ROW_OF") (f := ma_rows) hgv (by decide +kernel) (by decide +kernel) (by decide +kernel) (hts _ wR) (hts _ tb_in_X7)
  obtain ⟨tC, hC1, hC2, hC3⟩ := law_row (nm := "COLUMN_OF") (f := ma_cols) hgv (by decide +kernel) (by decide +kernel) (by decide +kernel) (hts _ wC) (hts _ tb_in_X7)
  let g : ma_G := (l, (fun t => match t with | 0 => c0 | 1 => c1 | 2 => c2 | 3 => c3 | 4 => c4 | 5 => c5 | 6 => c6 | 7 => c7 | _ => c8, fun t => match t with | 0 => i0 | 1 => i1 | 2 => i2 | 3 => i3 | 4 => i4 | 5 => i5 | 6 => i6 | 7 => i7 | _ => i8), fun t => match t with | 9 => a9 | 10 => a10 | 11 => a11 | 12 => a12 | _ => a13, s.heap.size, s.heap, fun a => match a with | 0 => b | 1 => tR | _ => tC, L, xs)
  have hKN : ma_KN g s := by
    refine ⟨fun w hw hg => ?_, fun c q hq => ?_, fun t h1 h2 => ?_, hR1, hC1, hR2, hC2, hX, hbl, rfl, ⟨fun A => ?_, fun A => ?_, fun A => ?_⟩, va_AO.of (hts _ w12), va_AO.of (hts _ w13)⟩
    · exact va_Nw.of (by unfold ma_gw at hg; simp only [Bool.and_eq_true] at hg; exact hg.2) (hts w hw)
    · match c, hq with
      | 0, hq => cases hq; exact k0
      | 1, hq => cases hq; exact k1
      | 2, hq => cases hq; exact k2
      | 3, hq => cases hq; exact k3
      | 4, hq => cases hq; exact k4
      | 5, hq => cases hq; exact k5
      | 6, hq => cases hq; exact k6
      | 7, hq => cases hq; exact k7
      | 8, hq => cases hq; exact k8
      | c + 9, hq => cases hq
    · have : t = 9 ∨ t = 10 ∨ t = 11 ∨ t = 12 ∨ t = 13 := by omega
      rcases this with rfl | rfl | rfl | rfl | rfl
      · exact ⟨r9, q9⟩
      · exact ⟨r10, q10⟩
      · exact ⟨r11, q11⟩
      · exact ⟨r12, q12⟩
      · exact ⟨r13, q13⟩
    · exact word_at (State.WarmedH.refl s) (Or.inr ⟨_, rfl⟩) (hts _ w9)
    · exact word_at (State.WarmedH.refl s) (Or.inr ⟨_, rfl⟩) (hts _ w10)
    · exact word_at (State.WarmedH.refl s) (Or.inr ⟨_, rfl⟩) (hts _ w11)
  have hE := law_ev (g := g) (nm := meth.name) (b := b) (N := L) (xs := xs) rfl rfl hL
  have hl := lv_entry [Value.ref b] (n := 4) (by show 1 ≤ 4; omega)
  rw [lg_entry_eq]
  generalize (lg_sl [Value.ref b] ++ List.replicate (4 - (lg_sl [Value.ref b]).length) Slot.unset).toArray = ls at hl ⊢
  have k := hE p e s m #[Value.ref b] below meth c s.heap [] ls ⟨hx, hb, hr, hml, hown, hKN, hlk, rfl⟩ ⟨rfl, fun q hq => rfl, fun a ha => absurd ha (by rw [hsP_0]; decide)⟩ ⟨hl.1, hl.2.1, fun i v h => ?_⟩ (fun q h => by cases h)
  · intro T hT X
    obtain ⟨t, a1, b1⟩ := k T hT X
    exact ⟨t, a1, b1 ⟨rfl, rfl⟩⟩
  · match i, h with
    | 0, h => cases h; exact hl.2.2 (0, .ref b) List.mem_cons_self
    | 1, h => cases h
    | 2, h => cases h
    | 3, h => cases h
    | i + 4, h => cases h
set_option maxHeartbeats 4000000 in
theorem lw_walk (l : Launch) (b : Addr) (xs : List Int32) : MetFree l x (headSpec (Jvm.Cond.code x code maxLocals ret :: tables_1) room_1) (lw_P b xs) (fun _ _ _ _ _ => True) lw_Q := by
  refine MetFree.of_bodyS (code := code) (maxLocals := maxLocals) (ret := ret) (by decide) ?_ ?_
  · intro args s m h hn
    obtain ⟨meth, c, h1, h2, h3, h4, h5, h6, -, -⟩ := Cond.code_spec hn (atoms_spec (ws := Jvm.Cond.code x code maxLocals ret :: tables_1) h _ List.mem_cons_self)
    exact ⟨meth, c, h1, h2, h3, h4, h5, h6⟩
  · intro p e s m args below meth c s₁ B hml0 hP _
    obtain ⟨rfl, hx, hbd, hgv⟩ := hP
    obtain ⟨scr, harrAt, hlist, hof, hsmall⟩ := hx
    obtain ⟨hcb, hkn, -, -⟩ := State.arrayAt?_spec harrAt
    have hown : s.vm.findClass R_law = some m.cls := findClass_of_methodNamed B.named
    have hts0 : ∀ c ∈ (Jvm.Cond.code x code maxLocals ret :: tables_1), c.before #[Value.ref b] s = true := atoms_spec (ws := Jvm.Cond.code x code maxLocals ret :: tables_1) B.pre
    have hts : ∀ w ∈ lw_tbl, w.before #[Value.ref b] s = true := k2_hts_sels lw_privs (fun w hw => hts0 w (List.mem_cons_of_mem _ hw)) lw_privs_ok
    have hml : c.maxLocals = 4 := B.maxLocals_eq (hts0 _ List.mem_cons_self)
    have X₀ : Stand p l e room_1 s m #[Value.ref b] below meth c s₁ [] 0 0 := Stand.of_body B
    have hh0 : s₁.heap = s.heap := by rw [B.state]; rfl
    have hsz : scr.slots.size = xs.length := by rw [← Array.length_toList, hlist, List.length_map]
    have hval : ∀ j : Nat, j < xs.length → scr.slots[j]? = some (.int (xs.getD j 0)) := fun j hj => by
      rw [← Array.getElem?_toList, hlist]
      simp [hj]
    have hbl : b < s.heap.size := (Array.getElem?_eq_some_iff.mp hcb).1
    have hX : va_X b xs.length (fun j => xs.getD j 0) s s.heap := ⟨scr, hcb, hof, hkn, hsz, hval⟩
    have K : W p l e room_1 s m #[Value.ref b] below meth c s₁.heap [] 0 0 (lw_Z below #[Value.ref b] s) (entryFrame m ([Value.ref b] : List Value).toArray 4) := by
      rw [hh0]
      exact whole_start l hbd ⟨B.exec, B.bytes, B.returns, hml, hown, hts, hX, hbl, B.notSynchronized, hgv⟩
    obtain ⟨t, a1, o, b1, b2, b3⟩ := K s₁ rfl X₀
    exact ⟨t, o, a1, b1, b2, b3⟩
theorem lw_pre_spec {args : Array Value} {s : State} (h : (Jvm.Cond.and given_1 narrow_1).before args s = true) (hr : rest_1_c.before args s = true) : ∃ (b : Addr) (xs : List Int32), lw_P b xs args s := by
  have hs := flat_of_before _ h
  have hq := flat_of_before _ hr
  have hc : (Cond.count 1).before args s = true := hs _ (by decide +kernel)
  have harr : (Cond.arrayOf (.arg 0) .int).before args s = true := hs _ (by decide +kernel)
  have hle : (Cond.le (.length (.arg 0)) (.int 3072)).before args s = true := hs _ (by decide +kernel)
  have hlen : (Cond.isInt (.length (.arg 0))).before args s = true := hq _ (by decide +kernel)
  have hall : (Cond.all (.arg 0) (.isInt (.elem (.arg 0) (.index 0)))).before args s = true := hq _ (by decide +kernel)
  obtain ⟨b, xs, hb, hx⟩ := State.ints_of_pre rfl harr hlen hall
  have hsm : xs.length < 2 ^ 31 := hx.choose_spec.2.2.2
  have hev : (Term.length (.arg 0)).eval args s none [] s = some (.int xs.length.toInt32) := hx.length_eval hb
  have hv := Cond.le_ints hev (show (Term.int 3072).eval args s none [] s = some (.int 3072) from rfl)
  have hd : xs.length.toInt32 ≤ 3072 := by
    simpa [Cond.before, Cond.holds, hv] using hle
  have hN : xs.length ≤ 3072 := (Int32.ofNat_le_ofNat hsm (by decide)).mp (show Int32.ofNat xs.length ≤ Int32.ofNat 3072 from hd)
  exact ⟨b, xs, Cond.one_arg hc (show args[0]? = some (.ref b) from hb), hx, hN, h⟩
theorem lw_comes (l : Launch) : Comes l x (Jvm.Cond.code x code maxLocals ret :: tables_1) room_1 (fun tb e args s => Calls_1 tb e args s ∧ rest_1 tb e args s ∧ Pre_1 tb e args s)
    (fun _ _ args s o t => lw_Q args s o t) := by
  intro p e ha hc hk s m args below hf hfit hheap happ hpre
  obtain ⟨b, xs, hP⟩ := lw_pre_spec hpre.2.2 hpre.2.1
  obtain ⟨k, o, h1, h2, h3, hQ⟩ := lw_walk l b xs p e ha hc hk s m args below hf ((Spec.applies_iff_loose hf).mp happ).1 hP trivial
  exact ⟨k, o, h1, h2, h3, hQ⟩
theorem lw_frame {s t : State} {o : Outcome} {args : Array Value} (h : Framed s o t [] 600000 7302250) :
    Framed s o t (fieldLocs frame_1_writes args s ++ arrayLocs frame_1_arrays args s ++ staticLocs frame_1_statics s) 600000 7302250 := h
theorem lw_limb (L : Cond) (hL : ∀ (args : Array Value) (s t : State), L.after args s (.returned (some (.int 1))) t = true) :
    ArmFor flags0 classFile x code maxLocals ret World_1 tables_1 room_1 Calls_1 rest_1 Pre_1
      (fun tb e a s o t => postC L tb e a s o t ∧ Framed s o t (fieldLocs frame_1_writes a s ++ arrayLocs frame_1_arrays a s ++ staticLocs frame_1_statics s) 600000 7302250) := by
  intro l _ _ _ p e ha hc hk s m args below hf hfit hheap happ hpre
  obtain ⟨k, o, h1, h2, h3, rfl, hF⟩ := lw_comes l p e ha hc hk s m args below hf hfit hheap happ hpre
  exact ⟨k, _, h1, h2, h3, hL args s _, lw_frame hF⟩
theorem i_vc : Claimed_1_1 ∧ Claimed_1_2 := ⟨lw_limb limb_1_1 (fun args s t => by simp [limb_1_1, Cond.after, Cond.holds, Cond.value]), lw_limb limb_1_2 (fun args s t => Cond.after_iff.mpr (by
  first | (rw [show limb_1_2 = Cond.eq .result (.int 1) from rfl, Cond.eq_ints (x := 1) (y := 1) rfl rfl]; simp; done) | (simp [limb_1_2, Cond.value, Term.eval]; done)))⟩
