theorem ma_cap {α : Type} (M : Nat → Nat → α) (a : Nat) (f : Nat → α) (k : Nat) (v : α) : ma_up (ma_up M a f) a (ma_up (ma_up M a f a) k v) = ma_up M a (ma_up f k v) := by rw [ma_up_up, ma_up_s]
theorem nx_lt {a b : Nat} (h : a < b) (hb : b < 2147483648) : nI a < nI b := nI_lt h hb
theorem nx_nlt {a b : Nat} (h : b ≤ a) (ha : a < 2147483648) : ¬ nI a < nI b := nI_nlt h ha
theorem nx_le {a b : Nat} (h : a ≤ b) (hb : b < 2147483648) : nI a ≤ nI b := nI_le h hb
theorem nx_nle {a b : Nat} (h : b < a) (ha : a < 2147483648) : ¬ nI a ≤ nI b := nI_ge h ha
theorem nx_ne {a b : Nat} (h : a ≠ b) (ha : a < 2147483648) (hb : b < 2147483648) : ¬ nI a = nI b := fun e => h ((nI_eq ha hb).mp e)
theorem nx_eq {a b : Nat} (h : a = b) : nI a = nI b := by rw [h]
theorem nx_neg {z : Int32} (a : Nat) (ha : a < 2147483648) (hz : z.toInt < 0) : ¬ nI a < z := by
  rw [Int32.lt_iff_toInt_lt, nI_toInt ha]; omega
section Nm
variable {g : ma_G} {y : MethodName} {cc : ByteArray} {nL : Nat} {ret : Option FieldType} {rm : Room} {Z : ma_Z} {pc : Nat} {lv : List (Option Value)} {st : List Value} {sh : ma_S} {I : ma_I} {L : ma_L} {R : ma_R} {n ce sl : Nat}
theorem ev_memI (k : ∀ J : ma_I, J = I → EV g y cc nL ret rm Z pc lv st sh J L R n ce sl) : EV g y cc nL ret rm Z pc lv st sh I L R n ce sl := k I rfl
theorem ev_memL (k : ∀ J : ma_L, J = L → EV g y cc nL ret rm Z pc lv st sh I J R n ce sl) : EV g y cc nL ret rm Z pc lv st sh I L R n ce sl := k L rfl
def ma_ls : List (Option Value) → List (Option Value) → Prop
  | [], _ => True
  | none :: r, _ :: s => ma_ls r s
  | some v :: r, some w :: s => v = w ∧ ma_ls r s
  | _, _ => False
theorem ma_ls_ok : ∀ (l' l : List (Option Value)), ma_ls l' l → ∀ (i : Nat) (v : Value), l'[i]? = some (some v) → l[i]? = some (some v)
  | [], l, _, i, v, h => by simp at h
  | none :: r, [], hs, i, v, h => by simp [ma_ls] at hs
  | none :: r, w :: s, hs, i, v, h => by
    cases i with
    | zero => simp at h
    | succ i => simpa using ma_ls_ok r s hs i v (by simpa using h)
  | some u :: r, [], hs, i, v, h => by simp [ma_ls] at hs
  | some u :: r, none :: s, hs, i, v, h => by simp [ma_ls] at hs
  | some u :: r, some w :: s, hs, i, v, h => by
    cases i with
    | zero => simp at h; subst h; simp [hs.1]
    | succ i => simpa using ma_ls_ok r s hs.2 i v (by simpa using h)
theorem ev_lvw {lv' : List (Option Value)} (h : ma_ls lv' lv) (k : EV g y cc nL ret rm Z pc lv' st sh I L R n ce sl) : EV g y cc nL ret rm Z pc lv st sh I L R n ce sl := by
  intro p e s m args below meth c H locs ls hC hH hl hq
  exact k p e s m args below meth c H locs ls hC hH ⟨hl.1, hl.2.1, fun i v hi => hl.2.2 i v (ma_ls_ok _ _ h i v hi)⟩ hq
end Nm
/-- the places lo, lo + 1, .., lo + n - 1 of row a filled by f -/
def mfill {α : Type} (M : Nat → Nat → α) (a lo n : Nat) (f : Nat → α) : Nat → Nat → α := ma_up M a (fun j => if lo ≤ j ∧ j < lo + n then f (j - lo) else M a j)
theorem mfill_0 {α : Type} (M : Nat → Nat → α) (a lo : Nat) (f : Nat → α) : mfill M a lo 0 f = M := by
  unfold mfill
  have : (fun j => if lo ≤ j ∧ j < lo + 0 then f (j - lo) else M a j) = M a := by
    funext j
    rw [if_neg (by omega)]
  rw [this, ma_up_self]
theorem mfill_s {α : Type} (M : Nat → Nat → α) (a lo n : Nat) (f : Nat → α) {j : Nat} {v : α} (hj : j = lo + n) (hv : v = f n) : ma_up (mfill M a lo n f) a (ma_up (mfill M a lo n f a) j v) = mfill M a lo (n + 1) f := by
  subst hj; subst hv
  unfold mfill
  rw [ma_up_up, ma_up_s]
  congr 1
  funext q
  by_cases h1 : q = lo + n
  · subst h1
    rw [ma_up_s, if_pos (by omega)]
    congr 1
    omega
  · rw [ma_up_n _ _ h1]
    by_cases h2 : lo ≤ q ∧ q < lo + n
    · rw [if_pos h2, if_pos (by omega)]
    · rw [if_neg h2, if_neg (by omega)]
theorem mfill_n {α : Type} (M : Nat → Nat → α) {a b : Nat} (lo n : Nat) (f : Nat → α) (h : b ≠ a) : mfill M a lo n f b = M b := ma_up_n _ _ h
theorem mfill_at {α : Type} (M : Nat → Nat → α) (a lo n : Nat) (f : Nat → α) (j : Nat) : mfill M a lo n f a j = if lo ≤ j ∧ j < lo + n then f (j - lo) else M a j := by unfold mfill; rw [ma_up_s]
set_option maxRecDepth 4000 in
theorem t_X8_in {g : ma_G} {Post : ma_P} {I : ma_I} {L : ma_L} (v : Int32) (lo : Int32) (hi : Int32)  (k : Post (some (.int (if (¬ v < lo) ∧ (¬ hi < v) then (1 : Int32) else 0))) HS I L RF 146) : CT g yX8_in cX8_in 3 (some .boolean) rX8_in [.int v, .int lo, .int hi] Post HS I L RF 146 := by
  refine ct_of (lv := [some (.int v), some (.int lo), some (.int hi)]) (by decide) (Nat.le_of_ble_eq_true rfl) rfl ?_
  refine ev_iload_n (pc' := 1) (i := 0) dX8_in_0 rfl rfl rfl ?_
  refine ev_iload_n (pc' := 2) (i := 1) dX8_in_1 rfl rfl rfl ?_
  suffices K3 : ∀ x2 : Int32, x2 = (if (¬ v < lo) ∧ (¬ hi < v) then (1 : Int32) else 0) → EV g yX8_in cX8_in 3 (some .boolean) rX8_in (ma_ZM g rX8_in Post) 15 [some (.int v), some (.int lo), some (.int hi)] [.int x2] HS I L RF 146 0 0 by
    refine ev_icmp_lt (tgt := 14) (pc' := 5) dX8_in_2 rfl rfl (fun c4 => ?_) (fun c4 => ?_)
    · refine ev_iconst (pc' := 15) (v := 0) dX8_in_14 rfl ki_0 ?_
      exact K3 _ (if_neg (fun h => (not_not_intro c4) h.1)).symm
    · refine ev_iload_n (pc' := 6) (i := 0) dX8_in_5 rfl rfl rfl ?_
      refine ev_iload_n (pc' := 7) (i := 2) dX8_in_6 rfl rfl rfl ?_
      refine ev_icmp_gt (tgt := 14) (pc' := 10) dX8_in_7 rfl rfl (fun c5 => ?_) (fun c5 => ?_)
      · refine ev_iconst (pc' := 15) (v := 0) dX8_in_14 rfl ki_0 ?_
        exact K3 _ (if_neg (fun h => (not_not_intro c5) h.2)).symm
      · refine ev_iconst (pc' := 11) (v := 1) dX8_in_10 rfl ki_1 ?_
        refine ev_goto (tgt := 15) dX8_in_11 rfl ?_
        exact K3 _ (if_pos (⟨c4, c5⟩)).symm
  intro x2 hx2
  subst hx2
  refine ev_iret dX8_in_15 rfl b01_n ⟨Nat.le_refl _, Nat.le_refl _⟩ ?_
  exact k
def mAb (v : Int64) : Int64 := (if 0 ≤ v then v else (-v))
set_option maxRecDepth 4000 in
theorem t_X8_size {g : ma_G} {Post : ma_P} {I : ma_I} {L : ma_L} (v : Int64)  (k : Post (some (.long (mAb v))) HS I L RF 146) : CT g yX8_size cX8_size 2 (some .long) rX8_size [.long v] Post HS I L RF 146 := by
  refine ct_of (lv := [some (.long v), none]) (by decide) (Nat.le_of_ble_eq_true rfl) rfl ?_
  refine ev_lload_n (pc' := 1) (i := 0) dX8_size_0 rfl rfl rfl ?_
  refine ev_lconst (pc' := 2) (v := 0) dX8_size_1 rfl kl_0 ?_
  suffices K3 : ∀ x2 : Int64, x2 = (if 0 ≤ v then v else (-v)) → EV g yX8_size cX8_size 2 (some .long) rX8_size (ma_ZM g rX8_size Post) 12 [some (.long v), none] [.long x2] HS I L RF 146 0 0 by
    refine ev_lc_ge (p1 := 3) (tgt := 11) (pc' := 6) dX8_size_2 rfl dX8_size_3 rfl rfl (fun c4 => ?_) (fun c4 => ?_)
    · refine ev_lload_n (pc' := 12) (i := 0) dX8_size_11 rfl rfl rfl ?_
      exact K3 _ (by rw [if_pos c4])
    · refine ev_lload_n (pc' := 7) (i := 0) dX8_size_6 rfl rfl rfl ?_
      refine ev_lneg (pc' := 8) (v := -v) dX8_size_7 rfl rfl ?_
      refine ev_goto (tgt := 12) dX8_size_8 rfl ?_
      exact K3 _ (by rw [if_neg c4])
  intro x2 hx2
  subst hx2
  refine ev_lret dX8_size_12 rfl ⟨Nat.le_refl _, Nat.le_refl _⟩ ?_
  exact k
def mSg (v : Int64) : Int32 := (if v ≤ 0 then (if 0 ≤ v then 0 else (-1)) else 1)
set_option maxRecDepth 4000 in
theorem t_X8_sign {g : ma_G} {Post : ma_P} {I : ma_I} {L : ma_L} (v : Int64)  (k : Post (some (.int (mSg v))) HS I L RF 146) : CT g yX8_sign cX8_sign 2 (some .int) rX8_sign [.long v] Post HS I L RF 146 := by
  refine ct_of (lv := [some (.long v), none]) (by decide) (Nat.le_of_ble_eq_true rfl) rfl ?_
  refine ev_lload_n (pc' := 1) (i := 0) dX8_sign_0 rfl rfl rfl ?_
  refine ev_lconst (pc' := 2) (v := 0) dX8_sign_1 rfl kl_0 ?_
  suffices K3 : ∀ x2 : Int32, x2 = (if v ≤ 0 then (if 0 ≤ v then 0 else (-1)) else 1) → EV g yX8_sign cX8_sign 2 (some .int) rX8_sign (ma_ZM g rX8_sign Post) 21 [some (.long v), none] [.int x2] HS I L RF 146 0 0 by
    refine ev_lc_le (p1 := 3) (tgt := 10) (pc' := 6) dX8_sign_2 rfl dX8_sign_3 rfl rfl (fun c4 => ?_) (fun c4 => ?_)
    · refine ev_lload_n (pc' := 11) (i := 0) dX8_sign_10 rfl rfl rfl ?_
      refine ev_lconst (pc' := 12) (v := 0) dX8_sign_11 rfl kl_0 ?_
      refine ev_lc_ge (p1 := 13) (tgt := 20) (pc' := 16) dX8_sign_12 rfl dX8_sign_13 rfl rfl (fun c5 => ?_) (fun c5 => ?_)
      · refine ev_iconst (pc' := 21) (v := 0) dX8_sign_20 rfl ki_0 ?_
        exact K3 _ (by rw [if_pos c4, if_pos c5])
      · refine ev_iconst (pc' := 17) (v := (-1)) dX8_sign_16 rfl ki_m1 ?_
        refine ev_goto (tgt := 21) dX8_sign_17 rfl ?_
        exact K3 _ (by rw [if_pos c4, if_neg c5])
    · refine ev_iconst (pc' := 7) (v := 1) dX8_sign_6 rfl ki_1 ?_
      refine ev_goto (tgt := 21) dX8_sign_7 rfl ?_
      exact K3 _ (by rw [if_neg c4])
  intro x2 hx2
  subst hx2
  refine ev_iret dX8_sign_21 rfl rfl ⟨Nat.le_refl _, Nat.le_refl _⟩ ?_
  exact k
set_option maxRecDepth 4000 in
theorem t_X8_isSheet {g : ma_G} {Post : ma_P} {I : ma_I} {L : ma_L} (s : Int32)  (k : Post (some (.int (if (¬ s < 0) ∧ (¬ 7 < s) then (1 : Int32) else 0))) HS I L RF 146) : CT g yX8_isSheet cX8_isSheet 1 (some .boolean) rX8_isSheet [.int s] Post HS I L RF 146 := by
  refine ct_of (lv := [some (.int s)]) (by decide) (Nat.le_of_ble_eq_true rfl) rfl ?_
  refine ev_iload_n (pc' := 1) (i := 0) dX8_isSheet_0 rfl rfl rfl ?_
  refine ev_iconst (pc' := 2) (v := 0) dX8_isSheet_1 rfl ki_0 ?_
  refine ev_bipush (pc' := 4) (v := 7) dX8_isSheet_2 rfl kb_7 ?_
  refine ev_callS (pc' := 7) (rm' := rX8_in) (av := [.int s, .int 0, .int 7]) (rest := []) co_X8_133 cs_X8_in dX8_isSheet_4 rfl rfl rfl (Nat.le_of_ble_eq_true rfl) ⟨(Nat.le_of_ble_eq_true rfl), (Nat.le_of_ble_eq_true rfl)⟩ ⟨(Nat.le_of_ble_eq_true rfl), (Nat.le_of_ble_eq_true rfl)⟩ ?_
  refine t_X8_in s 0 7  ?_
  refine ev_iret dX8_isSheet_7 rfl b01_n ⟨Nat.le_refl _, Nat.le_refl _⟩ ?_
  exact k
set_option maxRecDepth 4000 in
theorem t_X8_isGround {g : ma_G} {Post : ma_P} {I : ma_I} {L : ma_L} (q : Int32)  (k : Post (some (.int (if (¬ q < 0) ∧ (¬ 11 < q) then (1 : Int32) else 0))) HS I L RF 146) : CT g yX8_isGround cX8_isGround 1 (some .boolean) rX8_isGround [.int q] Post HS I L RF 146 := by
  refine ct_of (lv := [some (.int q)]) (by decide) (Nat.le_of_ble_eq_true rfl) rfl ?_
  refine ev_iload_n (pc' := 1) (i := 0) dX8_isGround_0 rfl rfl rfl ?_
  refine ev_iconst (pc' := 2) (v := 0) dX8_isGround_1 rfl ki_0 ?_
  refine ev_bipush (pc' := 4) (v := 11) dX8_isGround_2 rfl kb_11 ?_
  refine ev_callS (pc' := 7) (rm' := rX8_in) (av := [.int q, .int 0, .int 11]) (rest := []) co_X8_133 cs_X8_in dX8_isGround_4 rfl rfl rfl (Nat.le_of_ble_eq_true rfl) ⟨(Nat.le_of_ble_eq_true rfl), (Nat.le_of_ble_eq_true rfl)⟩ ⟨(Nat.le_of_ble_eq_true rfl), (Nat.le_of_ble_eq_true rfl)⟩ ?_
  refine t_X8_in q 0 11  ?_
  refine ev_iret dX8_isGround_7 rfl b01_n ⟨Nat.le_refl _, Nat.le_refl _⟩ ?_
  exact k
set_option maxRecDepth 4000 in
theorem t_X8_isSmall {g : ma_G} {Post : ma_P} {I : ma_I} {L : ma_L} (v : Int32)  (k : Post (some (.int (if (¬ v < (-4)) ∧ (¬ 4 < v) then (1 : Int32) else 0))) HS I L RF 146) : CT g yX8_isSmall cX8_isSmall 1 (some .boolean) rX8_isSmall [.int v] Post HS I L RF 146 := by
  refine ct_of (lv := [some (.int v)]) (by decide) (Nat.le_of_ble_eq_true rfl) rfl ?_
  refine ev_iload_n (pc' := 1) (i := 0) dX8_isSmall_0 rfl rfl rfl ?_
  refine ev_bipush (pc' := 3) (v := (-4)) dX8_isSmall_1 rfl kb_m4 ?_
  refine ev_iconst (pc' := 4) (v := 4) dX8_isSmall_3 rfl ki_4 ?_
  refine ev_callS (pc' := 7) (rm' := rX8_in) (av := [.int v, .int (-4), .int 4]) (rest := []) co_X8_133 cs_X8_in dX8_isSmall_4 rfl rfl rfl (Nat.le_of_ble_eq_true rfl) ⟨(Nat.le_of_ble_eq_true rfl), (Nat.le_of_ble_eq_true rfl)⟩ ⟨(Nat.le_of_ble_eq_true rfl), (Nat.le_of_ble_eq_true rfl)⟩ ?_
  refine t_X8_in v (-4) 4  ?_
  refine ev_iret dX8_isSmall_7 rfl b01_n ⟨Nat.le_refl _, Nat.le_refl _⟩ ?_
  exact k
def m3o (aa ab ac bb bc cc : Int64) : Int64 := ((aa * ((bb * cc) - (bc * bc))) - (ab * ((ab * cc) - (bc * ac)))) + (ac * ((ab * bc) - (bb * ac)))
set_option maxRecDepth 4000 in
theorem t_X8_threeOf {g : ma_G} {Post : ma_P} {I : ma_I} {L : ma_L} (aa : Int64) (ab : Int64) (ac : Int64) (bb : Int64) (bc : Int64) (cc : Int64)  (k : Post (some (.long (m3o aa ab ac bb bc cc))) HS I L RF 146) : CT g yX8_threeOf cX8_threeOf 12 (some .long) rX8_threeOf [.long aa, .long ab, .long ac, .long bb, .long bc, .long cc] Post HS I L RF 146 := by
  refine ct_of (lv := [some (.long aa), none, some (.long ab), none, some (.long ac), none, some (.long bb), none, some (.long bc), none, some (.long cc), none]) (by decide) (Nat.le_of_ble_eq_true rfl) rfl ?_
  refine ev_lload_n (pc' := 1) (i := 0) dX8_threeOf_0 rfl rfl rfl ?_
  refine ev_lload (pc' := 3) dX8_threeOf_1 rfl rfl ?_
  refine ev_lload (pc' := 5) dX8_threeOf_3 rfl rfl ?_
  refine ev_lmul (pc' := 6) (v := bb * cc) dX8_threeOf_5 rfl rfl ?_
  refine ev_lload (pc' := 8) dX8_threeOf_6 rfl rfl ?_
  refine ev_lload (pc' := 10) dX8_threeOf_8 rfl rfl ?_
  refine ev_lmul (pc' := 11) (v := bc * bc) dX8_threeOf_10 rfl rfl ?_
  refine ev_lsub (pc' := 12) (v := (bb * cc) - (bc * bc)) dX8_threeOf_11 rfl rfl ?_
  refine ev_lmul (pc' := 13) (v := aa * ((bb * cc) - (bc * bc))) dX8_threeOf_12 rfl rfl ?_
  refine ev_lload_n (pc' := 14) (i := 2) dX8_threeOf_13 rfl rfl rfl ?_
  refine ev_lload_n (pc' := 15) (i := 2) dX8_threeOf_14 rfl rfl rfl ?_
  refine ev_lload (pc' := 17) dX8_threeOf_15 rfl rfl ?_
  refine ev_lmul (pc' := 18) (v := ab * cc) dX8_threeOf_17 rfl rfl ?_
  refine ev_lload (pc' := 20) dX8_threeOf_18 rfl rfl ?_
  refine ev_lload (pc' := 22) dX8_threeOf_20 rfl rfl ?_
  refine ev_lmul (pc' := 23) (v := bc * ac) dX8_threeOf_22 rfl rfl ?_
  refine ev_lsub (pc' := 24) (v := (ab * cc) - (bc * ac)) dX8_threeOf_23 rfl rfl ?_
  refine ev_lmul (pc' := 25) (v := ab * ((ab * cc) - (bc * ac))) dX8_threeOf_24 rfl rfl ?_
  refine ev_lsub (pc' := 26) (v := (aa * ((bb * cc) - (bc * bc))) - (ab * ((ab * cc) - (bc * ac)))) dX8_threeOf_25 rfl rfl ?_
  refine ev_lload (pc' := 28) dX8_threeOf_26 rfl rfl ?_
  refine ev_lload_n (pc' := 29) (i := 2) dX8_threeOf_28 rfl rfl rfl ?_
  refine ev_lload (pc' := 31) dX8_threeOf_29 rfl rfl ?_
  refine ev_lmul (pc' := 32) (v := ab * bc) dX8_threeOf_31 rfl rfl ?_
  refine ev_lload (pc' := 34) dX8_threeOf_32 rfl rfl ?_
  refine ev_lload (pc' := 36) dX8_threeOf_34 rfl rfl ?_
  refine ev_lmul (pc' := 37) (v := bb * ac) dX8_threeOf_36 rfl rfl ?_
  refine ev_lsub (pc' := 38) (v := (ab * bc) - (bb * ac)) dX8_threeOf_37 rfl rfl ?_
  refine ev_lmul (pc' := 39) (v := ac * ((ab * bc) - (bb * ac))) dX8_threeOf_38 rfl rfl ?_
  refine ev_ladd (pc' := 40) (v := ((aa * ((bb * cc) - (bc * bc))) - (ab * ((ab * cc) - (bc * ac)))) + (ac * ((ab * bc) - (bb * ac)))) dX8_threeOf_39 rfl rfl ?_
  refine ev_lret dX8_threeOf_40 rfl ⟨Nat.le_refl _, Nat.le_refl _⟩ ?_
  exact k
def m2 (t : Nat → Int64) (a b : Nat) : Int64 := ((t (5 * a)) * (t (5 * b))) - ((t ((4 * a) + b)) * (t ((4 * a) + b)))
set_option maxRecDepth 4000 in
theorem t_X8_two {g : ma_G} {Post : ma_P} {I : ma_I} {L : ma_L} (a : Nat) (b : Nat) (ha : a < 4) (hb : b < 4) (k : Post (some (.long (m2 (L 120) a b))) HS I L RF 146) : CT g yX8_two cX8_two 3 (some .long) rX8_two [.ref 115, .int (nI a), .int (nI b)] Post HS I L RF 146 := by
  refine ct_of (lv := [some (.ref 115), some (.int (nI a)), some (.int (nI b))]) (by decide) (Nat.le_of_ble_eq_true rfl) rfl ?_
  refine ev_aload_n (pc' := 1) (i := 0) dX8_two_0 rfl rfl rfl ?_
  refine ev_getR (pc' := 4) fo_X8_26 dX8_two_1 rfl hs_115 rfl rf_115_8 ?_
  refine ev_iconst (pc' := 5) (v := 5) dX8_two_4 rfl ki_5 ?_
  refine ev_iload_n (pc' := 6) (i := 1) dX8_two_5 rfl rfl rfl ?_
  refine ev_imul (pc' := 7) (v := nI (5 * a)) dX8_two_6 rfl (pk_mul 5 a) ?_
  refine ev_lald (pc' := 8) (j := 5 * a) (v := (L 120) (5 * a)) dX8_two_7 rfl hs_120 rfl (by omega) (Nat.le_of_ble_eq_true rfl) rfl ?_
  refine ev_aload_n (pc' := 9) (i := 0) dX8_two_8 rfl rfl rfl ?_
  refine ev_getR (pc' := 12) fo_X8_26 dX8_two_9 rfl hs_115 rfl rf_115_8 ?_
  refine ev_iconst (pc' := 13) (v := 5) dX8_two_12 rfl ki_5 ?_
  refine ev_iload_n (pc' := 14) (i := 2) dX8_two_13 rfl rfl rfl ?_
  refine ev_imul (pc' := 15) (v := nI (5 * b)) dX8_two_14 rfl (pk_mul 5 b) ?_
  refine ev_lald (pc' := 16) (j := 5 * b) (v := (L 120) (5 * b)) dX8_two_15 rfl hs_120 rfl (by omega) (Nat.le_of_ble_eq_true rfl) rfl ?_
  refine ev_lmul (pc' := 17) (v := ((L 120) (5 * a)) * ((L 120) (5 * b))) dX8_two_16 rfl rfl ?_
  refine ev_aload_n (pc' := 18) (i := 0) dX8_two_17 rfl rfl rfl ?_
  refine ev_getR (pc' := 21) fo_X8_26 dX8_two_18 rfl hs_115 rfl rf_115_8 ?_
  refine ev_iconst (pc' := 22) (v := 4) dX8_two_21 rfl ki_4 ?_
  refine ev_iload_n (pc' := 23) (i := 1) dX8_two_22 rfl rfl rfl ?_
  refine ev_imul (pc' := 24) (v := nI (4 * a)) dX8_two_23 rfl (pk_mul 4 a) ?_
  refine ev_iload_n (pc' := 25) (i := 2) dX8_two_24 rfl rfl rfl ?_
  refine ev_iadd (pc' := 26) (v := nI ((4 * a) + b)) dX8_two_25 rfl (nI_add (4 * a) b) ?_
  refine ev_lald (pc' := 27) (j := (4 * a) + b) (v := (L 120) ((4 * a) + b)) dX8_two_26 rfl hs_120 rfl (by omega) (Nat.le_of_ble_eq_true rfl) rfl ?_
  refine ev_aload_n (pc' := 28) (i := 0) dX8_two_27 rfl rfl rfl ?_
  refine ev_getR (pc' := 31) fo_X8_26 dX8_two_28 rfl hs_115 rfl rf_115_8 ?_
  refine ev_iconst (pc' := 32) (v := 4) dX8_two_31 rfl ki_4 ?_
  refine ev_iload_n (pc' := 33) (i := 1) dX8_two_32 rfl rfl rfl ?_
  refine ev_imul (pc' := 34) (v := nI (4 * a)) dX8_two_33 rfl (pk_mul 4 a) ?_
  refine ev_iload_n (pc' := 35) (i := 2) dX8_two_34 rfl rfl rfl ?_
  refine ev_iadd (pc' := 36) (v := nI ((4 * a) + b)) dX8_two_35 rfl (nI_add (4 * a) b) ?_
  refine ev_lald (pc' := 37) (j := (4 * a) + b) (v := (L 120) ((4 * a) + b)) dX8_two_36 rfl hs_120 rfl (by omega) (Nat.le_of_ble_eq_true rfl) rfl ?_
  refine ev_lmul (pc' := 38) (v := ((L 120) ((4 * a) + b)) * ((L 120) ((4 * a) + b))) dX8_two_37 rfl rfl ?_
  refine ev_lsub (pc' := 39) (v := (((L 120) (5 * a)) * ((L 120) (5 * b))) - (((L 120) ((4 * a) + b)) * ((L 120) ((4 * a) + b)))) dX8_two_38 rfl rfl ?_
  refine ev_lret dX8_two_39 rfl ⟨Nat.le_refl _, Nat.le_refl _⟩ ?_
  exact k
def m3 (t : Nat → Int64) (a b c : Nat) : Int64 := m3o (t (5 * a)) (t ((4 * a) + b)) (t ((4 * a) + c)) (t (5 * b)) (t ((4 * b) + c)) (t (5 * c))
set_option maxRecDepth 4000 in
theorem t_X8_three {g : ma_G} {Post : ma_P} {I : ma_I} {L : ma_L} (a : Nat) (b : Nat) (c : Nat) (ha : a < 4) (hb : b < 4) (hc : c < 4) (k : Post (some (.long (m3 (L 120) a b c))) HS I L RF 146) : CT g yX8_three cX8_three 4 (some .long) rX8_three [.ref 115, .int (nI a), .int (nI b), .int (nI c)] Post HS I L RF 146 := by
  refine ct_of (lv := [some (.ref 115), some (.int (nI a)), some (.int (nI b)), some (.int (nI c))]) (by decide) (Nat.le_of_ble_eq_true rfl) rfl ?_
  refine ev_aload_n (pc' := 1) (i := 0) dX8_three_0 rfl rfl rfl ?_
  refine ev_getR (pc' := 4) fo_X8_26 dX8_three_1 rfl hs_115 rfl rf_115_8 ?_
  refine ev_iconst (pc' := 5) (v := 5) dX8_three_4 rfl ki_5 ?_
  refine ev_iload_n (pc' := 6) (i := 1) dX8_three_5 rfl rfl rfl ?_
  refine ev_imul (pc' := 7) (v := nI (5 * a)) dX8_three_6 rfl (pk_mul 5 a) ?_
  refine ev_lald (pc' := 8) (j := 5 * a) (v := (L 120) (5 * a)) dX8_three_7 rfl hs_120 rfl (by omega) (Nat.le_of_ble_eq_true rfl) rfl ?_
  refine ev_aload_n (pc' := 9) (i := 0) dX8_three_8 rfl rfl rfl ?_
  refine ev_getR (pc' := 12) fo_X8_26 dX8_three_9 rfl hs_115 rfl rf_115_8 ?_
  refine ev_iconst (pc' := 13) (v := 4) dX8_three_12 rfl ki_4 ?_
  refine ev_iload_n (pc' := 14) (i := 1) dX8_three_13 rfl rfl rfl ?_
  refine ev_imul (pc' := 15) (v := nI (4 * a)) dX8_three_14 rfl (pk_mul 4 a) ?_
  refine ev_iload_n (pc' := 16) (i := 2) dX8_three_15 rfl rfl rfl ?_
  refine ev_iadd (pc' := 17) (v := nI ((4 * a) + b)) dX8_three_16 rfl (nI_add (4 * a) b) ?_
  refine ev_lald (pc' := 18) (j := (4 * a) + b) (v := (L 120) ((4 * a) + b)) dX8_three_17 rfl hs_120 rfl (by omega) (Nat.le_of_ble_eq_true rfl) rfl ?_
  refine ev_aload_n (pc' := 19) (i := 0) dX8_three_18 rfl rfl rfl ?_
  refine ev_getR (pc' := 22) fo_X8_26 dX8_three_19 rfl hs_115 rfl rf_115_8 ?_
  refine ev_iconst (pc' := 23) (v := 4) dX8_three_22 rfl ki_4 ?_
  refine ev_iload_n (pc' := 24) (i := 1) dX8_three_23 rfl rfl rfl ?_
  refine ev_imul (pc' := 25) (v := nI (4 * a)) dX8_three_24 rfl (pk_mul 4 a) ?_
  refine ev_iload_n (pc' := 26) (i := 3) dX8_three_25 rfl rfl rfl ?_
  refine ev_iadd (pc' := 27) (v := nI ((4 * a) + c)) dX8_three_26 rfl (nI_add (4 * a) c) ?_
  refine ev_lald (pc' := 28) (j := (4 * a) + c) (v := (L 120) ((4 * a) + c)) dX8_three_27 rfl hs_120 rfl (by omega) (Nat.le_of_ble_eq_true rfl) rfl ?_
  refine ev_aload_n (pc' := 29) (i := 0) dX8_three_28 rfl rfl rfl ?_
  refine ev_getR (pc' := 32) fo_X8_26 dX8_three_29 rfl hs_115 rfl rf_115_8 ?_
  refine ev_iconst (pc' := 33) (v := 5) dX8_three_32 rfl ki_5 ?_
  refine ev_iload_n (pc' := 34) (i := 2) dX8_three_33 rfl rfl rfl ?_
  refine ev_imul (pc' := 35) (v := nI (5 * b)) dX8_three_34 rfl (pk_mul 5 b) ?_
  refine ev_lald (pc' := 36) (j := 5 * b) (v := (L 120) (5 * b)) dX8_three_35 rfl hs_120 rfl (by omega) (Nat.le_of_ble_eq_true rfl) rfl ?_
  refine ev_aload_n (pc' := 37) (i := 0) dX8_three_36 rfl rfl rfl ?_
  refine ev_getR (pc' := 40) fo_X8_26 dX8_three_37 rfl hs_115 rfl rf_115_8 ?_
  refine ev_iconst (pc' := 41) (v := 4) dX8_three_40 rfl ki_4 ?_
  refine ev_iload_n (pc' := 42) (i := 2) dX8_three_41 rfl rfl rfl ?_
  refine ev_imul (pc' := 43) (v := nI (4 * b)) dX8_three_42 rfl (pk_mul 4 b) ?_
  refine ev_iload_n (pc' := 44) (i := 3) dX8_three_43 rfl rfl rfl ?_
  refine ev_iadd (pc' := 45) (v := nI ((4 * b) + c)) dX8_three_44 rfl (nI_add (4 * b) c) ?_
  refine ev_lald (pc' := 46) (j := (4 * b) + c) (v := (L 120) ((4 * b) + c)) dX8_three_45 rfl hs_120 rfl (by omega) (Nat.le_of_ble_eq_true rfl) rfl ?_
  refine ev_aload_n (pc' := 47) (i := 0) dX8_three_46 rfl rfl rfl ?_
  refine ev_getR (pc' := 50) fo_X8_26 dX8_three_47 rfl hs_115 rfl rf_115_8 ?_
  refine ev_iconst (pc' := 51) (v := 5) dX8_three_50 rfl ki_5 ?_
  refine ev_iload_n (pc' := 52) (i := 3) dX8_three_51 rfl rfl rfl ?_
  refine ev_imul (pc' := 53) (v := nI (5 * c)) dX8_three_52 rfl (pk_mul 5 c) ?_
  refine ev_lald (pc' := 54) (j := 5 * c) (v := (L 120) (5 * c)) dX8_three_53 rfl hs_120 rfl (by omega) (Nat.le_of_ble_eq_true rfl) rfl ?_
  refine ev_callS (pc' := 57) (rm' := rX8_threeOf) (av := [.long ((L 120) (5 * a)), .long ((L 120) ((4 * a) + b)), .long ((L 120) ((4 * a) + c)), .long ((L 120) (5 * b)), .long ((L 120) ((4 * b) + c)), .long ((L 120) (5 * c))]) (rest := []) co_X8_152 cs_X8_threeOf dX8_three_54 rfl rfl rfl (Nat.le_of_ble_eq_true rfl) ⟨(Nat.le_of_ble_eq_true rfl), (Nat.le_of_ble_eq_true rfl)⟩ ⟨(Nat.le_of_ble_eq_true rfl), (Nat.le_of_ble_eq_true rfl)⟩ ?_
  refine t_X8_threeOf ((L 120) (5 * a)) ((L 120) ((4 * a) + b)) ((L 120) ((4 * a) + c)) ((L 120) (5 * b)) ((L 120) ((4 * b) + c)) ((L 120) (5 * c))  ?_
  refine ev_lret dX8_three_57 rfl ⟨Nat.le_refl _, Nat.le_refl _⟩ ?_
  exact k
set_option maxRecDepth 4000 in
theorem t_X8_ask {g : ma_G} {Post : ma_P} {I : ma_I} {L : ma_L} (v : Int32) (a : Int32)  (k : Post (some (.int a)) HS (ma_up I 115 (ma_up (I 115) 2 v)) L RF 146) : CT g yX8_ask cX8_ask 3 (some .int) rX8_ask [.ref 115, .int v, .int a] Post HS I L RF 146 := by
  refine ct_of (lv := [some (.ref 115), some (.int v), some (.int a)]) (by decide) (Nat.le_of_ble_eq_true rfl) rfl ?_
  refine ev_aload_n (pc' := 1) (i := 0) dX8_ask_0 rfl rfl rfl ?_
  refine ev_iload_n (pc' := 2) (i := 1) dX8_ask_1 rfl rfl rfl ?_
  refine ev_putI (pc' := 5) (I' := (ma_up I 115 (ma_up (I 115) 2 v))) fo_X8_119 dX8_ask_2 rfl hs_115 rfl (fun r hr => by cases hr; rfl) ⟨rfl, rfl⟩ rfl ?_
  refine ev_iload_n (pc' := 6) (i := 2) dX8_ask_5 rfl rfl rfl ?_
  refine ev_iret dX8_ask_6 rfl rfl ⟨Nat.le_refl _, Nat.le_refl _⟩ ?_
  exact k
def mNm (a b c d : Int32) : Int32 := (if ((((1000 * a) + (100 * b)) + (10 * c)) + d) ≤ ((((1000 * b) + (100 * a)) + (10 * d)) + c) then ((((1000 * b) + (100 * a)) + (10 * d)) + c) else ((((1000 * a) + (100 * b)) + (10 * c)) + d))
set_option maxRecDepth 4000 in
theorem t_X8_nameOf {g : ma_G} {Post : ma_P} {I : ma_I} {L : ma_L} (a : Int32) (b : Int32) (c : Int32) (d : Int32)  (k : Post (some (.int (mNm a b c d))) HS I L RF 146) : CT g yX8_nameOf cX8_nameOf 6 (some .int) rX8_nameOf [.int a, .int b, .int c, .int d] Post HS I L RF 146 := by
  refine ct_of (lv := [some (.int a), some (.int b), some (.int c), some (.int d), none, none]) (by decide) (Nat.le_of_ble_eq_true rfl) rfl ?_
  refine ev_sipush (pc' := 3) (v := 1000) dX8_nameOf_0 rfl ks_1000 ?_
  refine ev_iload_n (pc' := 4) (i := 0) dX8_nameOf_3 rfl rfl rfl ?_
  refine ev_imul (pc' := 5) (v := 1000 * a) dX8_nameOf_4 rfl rfl ?_
  refine ev_bipush (pc' := 7) (v := 100) dX8_nameOf_5 rfl kb_100 ?_
  refine ev_iload_n (pc' := 8) (i := 1) dX8_nameOf_7 rfl rfl rfl ?_
  refine ev_imul (pc' := 9) (v := 100 * b) dX8_nameOf_8 rfl rfl ?_
  refine ev_iadd (pc' := 10) (v := (1000 * a) + (100 * b)) dX8_nameOf_9 rfl rfl ?_
  refine ev_bipush (pc' := 12) (v := 10) dX8_nameOf_10 rfl kb_10 ?_
  refine ev_iload_n (pc' := 13) (i := 2) dX8_nameOf_12 rfl rfl rfl ?_
  refine ev_imul (pc' := 14) (v := 10 * c) dX8_nameOf_13 rfl rfl ?_
  refine ev_iadd (pc' := 15) (v := ((1000 * a) + (100 * b)) + (10 * c)) dX8_nameOf_14 rfl rfl ?_
  refine ev_iload_n (pc' := 16) (i := 3) dX8_nameOf_15 rfl rfl rfl ?_
  refine ev_iadd (pc' := 17) (v := (((1000 * a) + (100 * b)) + (10 * c)) + d) dX8_nameOf_16 rfl rfl ?_
  refine ev_istore (pc' := 19) (lv' := [some (.int a), some (.int b), some (.int c), some (.int d), some (.int ((((1000 * a) + (100 * b)) + (10 * c)) + d)), none]) dX8_nameOf_17 rfl (Nat.le_of_ble_eq_true rfl) rfl rfl ?_
  refine ev_sipush (pc' := 22) (v := 1000) dX8_nameOf_19 rfl ks_1000 ?_
  refine ev_iload_n (pc' := 23) (i := 1) dX8_nameOf_22 rfl rfl rfl ?_
  refine ev_imul (pc' := 24) (v := 1000 * b) dX8_nameOf_23 rfl rfl ?_
  refine ev_bipush (pc' := 26) (v := 100) dX8_nameOf_24 rfl kb_100 ?_
  refine ev_iload_n (pc' := 27) (i := 0) dX8_nameOf_26 rfl rfl rfl ?_
  refine ev_imul (pc' := 28) (v := 100 * a) dX8_nameOf_27 rfl rfl ?_
  refine ev_iadd (pc' := 29) (v := (1000 * b) + (100 * a)) dX8_nameOf_28 rfl rfl ?_
  refine ev_bipush (pc' := 31) (v := 10) dX8_nameOf_29 rfl kb_10 ?_
  refine ev_iload_n (pc' := 32) (i := 3) dX8_nameOf_31 rfl rfl rfl ?_
  refine ev_imul (pc' := 33) (v := 10 * d) dX8_nameOf_32 rfl rfl ?_
  refine ev_iadd (pc' := 34) (v := ((1000 * b) + (100 * a)) + (10 * d)) dX8_nameOf_33 rfl rfl ?_
  refine ev_iload_n (pc' := 35) (i := 2) dX8_nameOf_34 rfl rfl rfl ?_
  refine ev_iadd (pc' := 36) (v := (((1000 * b) + (100 * a)) + (10 * d)) + c) dX8_nameOf_35 rfl rfl ?_
  refine ev_istore (pc' := 38) (lv' := [some (.int a), some (.int b), some (.int c), some (.int d), some (.int ((((1000 * a) + (100 * b)) + (10 * c)) + d)), some (.int ((((1000 * b) + (100 * a)) + (10 * d)) + c))]) dX8_nameOf_36 rfl (Nat.le_of_ble_eq_true rfl) rfl rfl ?_
  refine ev_iload (pc' := 40) dX8_nameOf_38 rfl rfl ?_
  refine ev_iload (pc' := 42) dX8_nameOf_40 rfl rfl ?_
  suffices K3 : ∀ x2 : Int32, x2 = (if ((((1000 * a) + (100 * b)) + (10 * c)) + d) ≤ ((((1000 * b) + (100 * a)) + (10 * d)) + c) then ((((1000 * b) + (100 * a)) + (10 * d)) + c) else ((((1000 * a) + (100 * b)) + (10 * c)) + d)) → EV g yX8_nameOf cX8_nameOf 6 (some .int) rX8_nameOf (ma_ZM g rX8_nameOf Post) 52 [some (.int a), some (.int b), some (.int c), some (.int d), some (.int ((((1000 * a) + (100 * b)) + (10 * c)) + d)), some (.int ((((1000 * b) + (100 * a)) + (10 * d)) + c))] [.int x2] HS I L RF 146 0 0 by
    refine ev_icmp_le (tgt := 50) (pc' := 45) dX8_nameOf_42 rfl rfl (fun c4 => ?_) (fun c4 => ?_)
    · refine ev_iload (pc' := 52) dX8_nameOf_50 rfl rfl ?_
      exact K3 _ (by rw [if_pos c4])
    · refine ev_iload (pc' := 47) dX8_nameOf_45 rfl rfl ?_
      refine ev_goto (tgt := 52) dX8_nameOf_47 rfl ?_
      exact K3 _ (by rw [if_neg c4])
  intro x2 hx2
  subst hx2
  refine ev_iret dX8_nameOf_52 rfl rfl ⟨Nat.le_refl _, Nat.le_refl _⟩ ?_
  exact k
def mRo (a : Int32) : Int32 := (if 4 ≤ a then (if 7 ≤ a then (if 9 ≤ a then 3 else 2) else 1) else 0)
set_option maxRecDepth 4000 in
theorem t_X8_rowOf {g : ma_G} {Post : ma_P} {I : ma_I} {L : ma_L} (a : Int32)  (k : Post (some (.int (mRo a))) HS I L RF 146) : CT g yX8_rowOf cX8_rowOf 1 (some .int) rX8_rowOf [.int a] Post HS I L RF 146 := by
  refine ct_of (lv := [some (.int a)]) (by decide) (Nat.le_of_ble_eq_true rfl) rfl ?_
  refine ev_iload_n (pc' := 1) (i := 0) dX8_rowOf_0 rfl rfl rfl ?_
  refine ev_iconst (pc' := 2) (v := 4) dX8_rowOf_1 rfl ki_4 ?_
  suffices K3 : ∀ x2 : Int32, x2 = (if 4 ≤ a then (if 7 ≤ a then (if 9 ≤ a then 3 else 2) else 1) else 0) → EV g yX8_rowOf cX8_rowOf 1 (some .int) rX8_rowOf (ma_ZM g rX8_rowOf Post) 30 [some (.int a)] [.int x2] HS I L RF 146 0 0 by
    refine ev_icmp_ge (tgt := 9) (pc' := 5) dX8_rowOf_2 rfl rfl (fun c4 => ?_) (fun c4 => ?_)
    · refine ev_iload_n (pc' := 10) (i := 0) dX8_rowOf_9 rfl rfl rfl ?_
      refine ev_bipush (pc' := 12) (v := 7) dX8_rowOf_10 rfl kb_7 ?_
      refine ev_icmp_ge (tgt := 19) (pc' := 15) dX8_rowOf_12 rfl rfl (fun c5 => ?_) (fun c5 => ?_)
      · refine ev_iload_n (pc' := 20) (i := 0) dX8_rowOf_19 rfl rfl rfl ?_
        refine ev_bipush (pc' := 22) (v := 9) dX8_rowOf_20 rfl kb_9 ?_
        refine ev_icmp_ge (tgt := 29) (pc' := 25) dX8_rowOf_22 rfl rfl (fun c6 => ?_) (fun c6 => ?_)
        · refine ev_iconst (pc' := 30) (v := 3) dX8_rowOf_29 rfl ki_3 ?_
          exact K3 _ (by rw [if_pos c4, if_pos c5, if_pos c6])
        · refine ev_iconst (pc' := 26) (v := 2) dX8_rowOf_25 rfl ki_2 ?_
          refine ev_goto (tgt := 30) dX8_rowOf_26 rfl ?_
          exact K3 _ (by rw [if_pos c4, if_pos c5, if_neg c6])
      · refine ev_iconst (pc' := 16) (v := 1) dX8_rowOf_15 rfl ki_1 ?_
        refine ev_goto (tgt := 30) dX8_rowOf_16 rfl ?_
        exact K3 _ (by rw [if_pos c4, if_neg c5])
    · refine ev_iconst (pc' := 6) (v := 0) dX8_rowOf_5 rfl ki_0 ?_
      refine ev_goto (tgt := 30) dX8_rowOf_6 rfl ?_
      exact K3 _ (by rw [if_neg c4])
  intro x2 hx2
  subst hx2
  refine ev_iret dX8_rowOf_30 rfl rfl ⟨Nat.le_refl _, Nat.le_refl _⟩ ?_
  exact k
def mCo (a : Int32) : Int32 := (if 4 ≤ a then (if 7 ≤ a then (if 9 ≤ a then 3 else (a - 5)) else (a - 3)) else a)
set_option maxRecDepth 4000 in
theorem t_X8_columnOf {g : ma_G} {Post : ma_P} {I : ma_I} {L : ma_L} (a : Int32)  (k : Post (some (.int (mCo a))) HS I L RF 146) : CT g yX8_columnOf cX8_columnOf 1 (some .int) rX8_columnOf [.int a] Post HS I L RF 146 := by
  refine ct_of (lv := [some (.int a)]) (by decide) (Nat.le_of_ble_eq_true rfl) rfl ?_
  refine ev_iload_n (pc' := 1) (i := 0) dX8_columnOf_0 rfl rfl rfl ?_
  refine ev_iconst (pc' := 2) (v := 4) dX8_columnOf_1 rfl ki_4 ?_
  suffices K3 : ∀ x2 : Int32, x2 = (if 4 ≤ a then (if 7 ≤ a then (if 9 ≤ a then 3 else (a - 5)) else (a - 3)) else a) → EV g yX8_columnOf cX8_columnOf 1 (some .int) rX8_columnOf (ma_ZM g rX8_columnOf Post) 34 [some (.int a)] [.int x2] HS I L RF 146 0 0 by
    refine ev_icmp_ge (tgt := 9) (pc' := 5) dX8_columnOf_2 rfl rfl (fun c4 => ?_) (fun c4 => ?_)
    · refine ev_iload_n (pc' := 10) (i := 0) dX8_columnOf_9 rfl rfl rfl ?_
      refine ev_bipush (pc' := 12) (v := 7) dX8_columnOf_10 rfl kb_7 ?_
      refine ev_icmp_ge (tgt := 21) (pc' := 15) dX8_columnOf_12 rfl rfl (fun c5 => ?_) (fun c5 => ?_)
      · refine ev_iload_n (pc' := 22) (i := 0) dX8_columnOf_21 rfl rfl rfl ?_
        refine ev_bipush (pc' := 24) (v := 9) dX8_columnOf_22 rfl kb_9 ?_
        refine ev_icmp_ge (tgt := 33) (pc' := 27) dX8_columnOf_24 rfl rfl (fun c6 => ?_) (fun c6 => ?_)
        · refine ev_iconst (pc' := 34) (v := 3) dX8_columnOf_33 rfl ki_3 ?_
          exact K3 _ (by rw [if_pos c4, if_pos c5, if_pos c6])
        · refine ev_iload_n (pc' := 28) (i := 0) dX8_columnOf_27 rfl rfl rfl ?_
          refine ev_iconst (pc' := 29) (v := 5) dX8_columnOf_28 rfl ki_5 ?_
          refine ev_isub (pc' := 30) (v := a - 5) dX8_columnOf_29 rfl rfl ?_
          refine ev_goto (tgt := 34) dX8_columnOf_30 rfl ?_
          exact K3 _ (by rw [if_pos c4, if_pos c5, if_neg c6])
      · refine ev_iload_n (pc' := 16) (i := 0) dX8_columnOf_15 rfl rfl rfl ?_
        refine ev_iconst (pc' := 17) (v := 3) dX8_columnOf_16 rfl ki_3 ?_
        refine ev_isub (pc' := 18) (v := a - 3) dX8_columnOf_17 rfl rfl ?_
        refine ev_goto (tgt := 34) dX8_columnOf_18 rfl ?_
        exact K3 _ (by rw [if_pos c4, if_neg c5])
    · refine ev_iload_n (pc' := 6) (i := 0) dX8_columnOf_5 rfl rfl rfl ?_
      refine ev_goto (tgt := 34) dX8_columnOf_6 rfl ?_
      exact K3 _ (by rw [if_neg c4])
  intro x2 hx2
  subst hx2
  refine ev_iret dX8_columnOf_34 rfl rfl ⟨Nat.le_refl _, Nat.le_refl _⟩ ?_
  exact k
def mCh (a i j : Int32) : Int32 := (if ¬ a = i then (if ¬ a = j then a else i) else j)
set_option maxRecDepth 4000 in
theorem t_X8_changed {g : ma_G} {Post : ma_P} {I : ma_I} {L : ma_L} (a : Int32) (i : Int32) (j : Int32)  (k : Post (some (.int (mCh a i j))) HS I L RF 146) : CT g yX8_changed cX8_changed 3 (some .int) rX8_changed [.int a, .int i, .int j] Post HS I L RF 146 := by
  refine ct_of (lv := [some (.int a), some (.int i), some (.int j)]) (by decide) (Nat.le_of_ble_eq_true rfl) rfl ?_
  refine ev_iload_n (pc' := 1) (i := 0) dX8_changed_0 rfl rfl rfl ?_
  refine ev_iload_n (pc' := 2) (i := 1) dX8_changed_1 rfl rfl rfl ?_
  suffices K3 : ∀ x2 : Int32, x2 = (if ¬ a = i then (if ¬ a = j then a else i) else j) → EV g yX8_changed cX8_changed 3 (some .int) rX8_changed (ma_ZM g rX8_changed Post) 19 [some (.int a), some (.int i), some (.int j)] [.int x2] HS I L RF 146 0 0 by
    refine ev_icmp_ne (tgt := 9) (pc' := 5) dX8_changed_2 rfl rfl (fun c4 => ?_) (fun c4 => ?_)
    · refine ev_iload_n (pc' := 10) (i := 0) dX8_changed_9 rfl rfl rfl ?_
      refine ev_iload_n (pc' := 11) (i := 2) dX8_changed_10 rfl rfl rfl ?_
      refine ev_icmp_ne (tgt := 18) (pc' := 14) dX8_changed_11 rfl rfl (fun c5 => ?_) (fun c5 => ?_)
      · refine ev_iload_n (pc' := 19) (i := 0) dX8_changed_18 rfl rfl rfl ?_
        exact K3 _ (by rw [if_pos c4, if_pos c5])
      · refine ev_iload_n (pc' := 15) (i := 1) dX8_changed_14 rfl rfl rfl ?_
        refine ev_goto (tgt := 19) dX8_changed_15 rfl ?_
        exact K3 _ (by rw [if_pos c4, if_neg (not_not_intro c5)])
    · refine ev_iload_n (pc' := 6) (i := 2) dX8_changed_5 rfl rfl rfl ?_
      refine ev_goto (tgt := 19) dX8_changed_6 rfl ?_
      exact K3 _ (by rw [if_neg (not_not_intro c4)])
  intro x2 hx2
  subst hx2
  refine ev_iret dX8_changed_19 rfl rfl ⟨Nat.le_refl _, Nat.le_refl _⟩ ?_
  exact k
