section Nm3
variable {g : ma_G} {y : MethodName} {cc : ByteArray} {nL : Nat} {ret : Option FieldType} {rm : Room} {Z : ma_Z} {pc : Nat} {lv : List (Option Value)} {st : List Value} {sh : ma_S} {I : ma_I} {L : ma_L} {R : ma_R} {n ce sl : Nat}
theorem ev_rowL {M : ma_L} {a : Nat} {r : Nat → Int64} (k : ∀ q : Nat → Int64, EV g y cc nL ret rm Z pc lv st sh I (ma_up M a q) R n ce sl) : EV g y cc nL ret rm Z pc lv st sh I (ma_up M a r) R n ce sl := k r
theorem ev_eql {v w : Int64} (h : v = w) (k : EV g y cc nL ret rm Z pc lv (.long w :: st) sh I L R n ce sl) : EV g y cc nL ret rm Z pc lv (.long v :: st) sh I L R n ce sl := by rw [h]; exact k
theorem ev_eqi {v w : Int32} (h : v = w) (k : EV g y cc nL ret rm Z pc lv (.int w :: st) sh I L R n ce sl) : EV g y cc nL ret rm Z pc lv (.int v :: st) sh I L R n ce sl := by rw [h]; exact k
end Nm3
/-- the rows of one for the bits of s, of the other for the rest -/
def mSel (s : Nat) (a b : Nat → Int32) (k : Nat) : Int64 := if s / 2 ^ (k / 4) % 2 = 1 then (a k).toInt64 else (b k).toInt64
def mSf (l : List Nat) (a b : Nat → Int32) : Int64 := l.foldl (fun x s => x + mW (mSel s a b)) 0
set_option maxRecDepth 4000 in
theorem t_X8_layPair {g : ma_G} {Post : ma_P} {I : ma_I} {L : ma_L}  (q : Nat) (r : Nat) (hq : q < 12) (hr : r < 12) (k : Post none HS (mfill (mfill I 133 0 16 (fun k => I 123 (16 * q + k))) 134 0 16 (fun k => I 123 (16 * r + k))) L RF 146) : CT g yX8_layPair cX8_layPair 4 none rX8_layPair [.ref 115, .int (nI q), .int (nI r)] Post HS I L RF 146 := by
  refine ct_of (lv := [some (.ref 115), some (.int (nI q)), some (.int (nI r)), none]) (by decide) (Nat.le_of_ble_eq_true rfl) rfl ?_
  refine ev_iconst (pc' := 1) (v := 0) dX8_layPair_0 rfl ki_0 ?_
  refine ev_istore_n (pc' := 2) (i := 3) (lv' := [some (.ref 115), some (.int (nI q)), some (.int (nI r)), some (.int 0)]) dX8_layPair_1 rfl rfl (Nat.le_of_ble_eq_true rfl) rfl rfl ?_
  suffices loop1 : ∀ (d2 i4 : Nat) (J3 : ma_I), i4 + d2 = 16 → (J3 = mfill (mfill I 133 0 i4 (fun k => I 123 (16 * q + k))) 134 0 i4 (fun k => I 123 (16 * r + k)) ∧ (True)) → EV g yX8_layPair cX8_layPair 4 none rX8_layPair (ma_ZM g rX8_layPair Post) 2 [some (.ref 115), some (.int (nI q)), some (.int (nI r)), some (.int (nI i4))] [] HS J3 L RF 146 0 0 from loop1 (16 - 0) 0 I (by omega) (by exact ⟨by (rw [mfill_0, mfill_0]), by (trivial)⟩)
  intro d2
  induction d2 with
  | zero =>
    intro i4  J3  hi5 hv6
    obtain rfl : i4 = 16 := by omega
    obtain ⟨hjhv6, hv6⟩ := hv6
    subst hjhv6
    refine ev_iload_n (pc' := 3) (i := 3) dX8_layPair_2 rfl rfl rfl ?_
    refine ev_bipush (pc' := 5) (v := 16) dX8_layPair_3 rfl kb_16 ?_
    refine ev_icmp_ge (tgt := 48) (pc' := 8) dX8_layPair_5 rfl rfl (fun _ => ?_) (fun h => absurd (nx_le (a := 16) (b := 16) (by omega) (by omega)) h)
    refine ev_vret dX8_layPair_48 rfl ⟨Nat.le_refl _, Nat.le_refl _⟩ ?_
    exact k
  | succ d2 ih =>
    intro i4  J3  hi5 hv6
    obtain ⟨hjhv6, hv6⟩ := hv6
    subst hjhv6
    refine ev_iload_n (pc' := 3) (i := 3) dX8_layPair_2 rfl rfl rfl ?_
    refine ev_bipush (pc' := 5) (v := 16) dX8_layPair_3 rfl kb_16 ?_
    refine ev_icmp_ge (tgt := 48) (pc' := 8) dX8_layPair_5 rfl rfl (fun h => absurd h (nx_nle (a := 16) (b := i4) (by omega) (by omega))) (fun _ => ?_)
    refine ev_aload_n (pc' := 9) (i := 0) dX8_layPair_8 rfl rfl rfl ?_
    refine ev_getR (pc' := 12) fo_X8_67 dX8_layPair_9 rfl hs_115 rfl rf_115_24 ?_
    refine ev_iload_n (pc' := 13) (i := 3) dX8_layPair_12 rfl rfl rfl ?_
    refine ev_aload_n (pc' := 14) (i := 0) dX8_layPair_13 rfl rfl rfl ?_
    refine ev_getR (pc' := 17) fo_X8_37 dX8_layPair_14 rfl hs_115 rfl rf_115_13 ?_
    refine ev_bipush (pc' := 19) (v := 16) dX8_layPair_17 rfl kb_16 ?_
    refine ev_iload_n (pc' := 20) (i := 1) dX8_layPair_19 rfl rfl rfl ?_
    refine ev_imul (pc' := 21) (v := nI (16 * q)) dX8_layPair_20 rfl (pk_mul 16 q) ?_
    refine ev_iload_n (pc' := 22) (i := 3) dX8_layPair_21 rfl rfl rfl ?_
    refine ev_iadd (pc' := 23) (v := nI ((16 * q) + i4)) dX8_layPair_22 rfl (nI_add (16 * q) i4) ?_
    refine ev_iald (pc' := 24) (j := (16 * q) + i4) (v := ((mfill (mfill I 133 0 i4 (fun k => I 123 (16 * q + k))) 134 0 i4 (fun k => I 123 (16 * r + k))) 123) ((16 * q) + i4)) dX8_layPair_23 rfl hs_123 rfl (by omega) (Nat.le_of_ble_eq_true rfl) rfl ?_
    refine ev_iast (pc' := 25) (j := i4) (I' := (ma_up (mfill (mfill I 133 0 i4 (fun k => I 123 (16 * q + k))) 134 0 i4 (fun k => I 123 (16 * r + k))) 133 (ma_up ((mfill (mfill I 133 0 i4 (fun k => I 123 (16 * q + k))) 134 0 i4 (fun k => I 123 (16 * r + k))) 133) i4 (((mfill (mfill I 133 0 i4 (fun k => I 123 (16 * q + k))) 134 0 i4 (fun k => I 123 (16 * r + k))) 123) ((16 * q) + i4))))) dX8_layPair_24 rfl hs_133 rfl (by omega) (Nat.le_of_ble_eq_true rfl) rfl ?_
    refine ev_aload_n (pc' := 26) (i := 0) dX8_layPair_25 rfl rfl rfl ?_
    refine ev_getR (pc' := 29) fo_X8_70 dX8_layPair_26 rfl hs_115 rfl rf_115_25 ?_
    refine ev_iload_n (pc' := 30) (i := 3) dX8_layPair_29 rfl rfl rfl ?_
    refine ev_aload_n (pc' := 31) (i := 0) dX8_layPair_30 rfl rfl rfl ?_
    refine ev_getR (pc' := 34) fo_X8_37 dX8_layPair_31 rfl hs_115 rfl rf_115_13 ?_
    refine ev_bipush (pc' := 36) (v := 16) dX8_layPair_34 rfl kb_16 ?_
    refine ev_iload_n (pc' := 37) (i := 2) dX8_layPair_36 rfl rfl rfl ?_
    refine ev_imul (pc' := 38) (v := nI (16 * r)) dX8_layPair_37 rfl (pk_mul 16 r) ?_
    refine ev_iload_n (pc' := 39) (i := 3) dX8_layPair_38 rfl rfl rfl ?_
    refine ev_iadd (pc' := 40) (v := nI ((16 * r) + i4)) dX8_layPair_39 rfl (nI_add (16 * r) i4) ?_
    refine ev_iald (pc' := 41) (j := (16 * r) + i4) (v := ((mfill (mfill I 133 0 i4 (fun k => I 123 (16 * q + k))) 134 0 i4 (fun k => I 123 (16 * r + k))) 123) ((16 * r) + i4)) dX8_layPair_40 rfl hs_123 rfl (by omega) (Nat.le_of_ble_eq_true rfl) rfl ?_
    refine ev_iast (pc' := 42) (j := i4) (I' := (ma_up (ma_up (mfill (mfill I 133 0 i4 (fun k => I 123 (16 * q + k))) 134 0 i4 (fun k => I 123 (16 * r + k))) 133 (ma_up ((mfill (mfill I 133 0 i4 (fun k => I 123 (16 * q + k))) 134 0 i4 (fun k => I 123 (16 * r + k))) 133) i4 (((mfill (mfill I 133 0 i4 (fun k => I 123 (16 * q + k))) 134 0 i4 (fun k => I 123 (16 * r + k))) 123) ((16 * q) + i4)))) 134 (ma_up ((mfill (mfill I 133 0 i4 (fun k => I 123 (16 * q + k))) 134 0 i4 (fun k => I 123 (16 * r + k))) 134) i4 (((mfill (mfill I 133 0 i4 (fun k => I 123 (16 * q + k))) 134 0 i4 (fun k => I 123 (16 * r + k))) 123) ((16 * r) + i4))))) dX8_layPair_41 rfl hs_134 rfl (by omega) (Nat.le_of_ble_eq_true rfl) rfl ?_
    refine ev_iinc (pc' := 45) (v := nI (i4 + 1)) (lv' := [some (.ref 115), some (.int (nI q)), some (.int (nI r)), some (.int (nI (i4 + 1)))]) dX8_layPair_42 rfl rfl (nI_add i4 1) (Nat.le_of_ble_eq_true rfl) rfl rfl ?_
    refine ev_goto (tgt := 2) dX8_layPair_45 rfl ?_
    exact ih (i4 + 1) _ (by omega) (by exact ⟨by (exact mfill2_s _ (by decide) _ _ _ rfl rfl), by (trivial)⟩)
theorem f_X8_layPair {g : ma_G} {Post : ma_P} {I : ma_I} {L : ma_L} (q : Nat) (r : Nat) (hq : q < 12) (hr : r < 12) (k : ∀ (J : ma_I), (∀ j, j < 16 → J 133 j = I 123 (16 * q + j)) → (∀ j, j < 16 → J 134 j = I 123 (16 * r + j)) → (mSx [133, 134] [] I J) → Post none HS J L RF 146) : CT g yX8_layPair cX8_layPair 4 none rX8_layPair [.ref 115, .int (nI q), .int (nI r)] Post HS I L RF 146 := by
  refine t_X8_layPair q r hq hr (k _ (fun j hj => ?_) (fun j hj => ?_) ⟨fun a h1 h2 => ?_, fun k h => ?_⟩)
  · rw [mfill_n _ _ _ _ (by decide), mfill_at, if_pos (by omega)]; rfl
  · rw [mfill_at, if_pos (by omega)]; rfl
  · simp only [List.mem_cons, List.not_mem_nil, or_false, not_or] at h2
    rw [mfill_n _ _ _ _ h2.2, mfill_n _ _ _ _ h2.1]
  · rw [mfill_n _ _ _ _ (by decide), mfill_n _ _ _ _ (by decide)]
