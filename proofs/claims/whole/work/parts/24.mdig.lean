def mH (L : ma_L) (x : Int64) : ma_L := ma_up L 115 (ma_up (L 115) 47 x)
theorem mH_up (L : ma_L) (d x : Int64) : ma_up (mH L d) 115 (ma_up ((mH L d) 115) 47 x) = mH L x := by
  unfold mH
  rw [ma_up_up, ma_up_s, ma_up_up]
/-- the sum over the grounds -/
def dgG (I : ma_I) : Nat → Int64
  | 0 => 17
  | i + 1 => if I 122 i = 0 then (31 * (dgG I i)) + (Int32.toInt64 (-1)) else ((31 * ((31 * ((31 * ((31 * ((31 * ((31 * ((31 * ((31 * ((31 * ((31 * ((31 * ((31 * ((31 * ((31 * ((31 * ((31 * ((31 * ((31 * ((31 * ((31 * (dgG I i)) + (Int32.toInt64 (I 123 (((16 * i) + 0) + 0))))) + (Int32.toInt64 (I 123 (((16 * i) + 0) + 1))))) + (Int32.toInt64 (I 123 (((16 * i) + 0) + 2))))) + (Int32.toInt64 (I 123 (((16 * i) + 0) + 3))))) + (Int32.toInt64 (I 123 (((16 * i) + 4) + 1))))) + (Int32.toInt64 (I 123 (((16 * i) + 4) + 2))))) + (Int32.toInt64 (I 123 (((16 * i) + 4) + 3))))) + (Int32.toInt64 (I 123 (((16 * i) + 8) + 2))))) + (Int32.toInt64 (I 123 (((16 * i) + 8) + 3))))) + (Int32.toInt64 (I 123 (((16 * i) + 12) + 3))))) + (Int32.toInt64 (I 124 ((10 * i) + 0))))) + (Int32.toInt64 (I 124 ((10 * i) + 1))))) + (Int32.toInt64 (I 124 ((10 * i) + 2))))) + (Int32.toInt64 (I 124 ((10 * i) + 3))))) + (Int32.toInt64 (I 124 ((10 * i) + 4))))) + (Int32.toInt64 (I 124 ((10 * i) + 5))))) + (Int32.toInt64 (I 124 ((10 * i) + 6))))) + (Int32.toInt64 (I 124 ((10 * i) + 7))))) + (Int32.toInt64 (I 124 ((10 * i) + 8))))) + (Int32.toInt64 (I 124 ((10 * i) + 9))))
/-- the sum over the places of a sheet, from d on -/
def dgR (I : ma_I) (s : Nat) (d : Int64) : Nat → Int64
  | 0 => d
  | i + 1 => (31 * (dgR I s d i)) + (Int32.toInt64 (I 118 (16 * s + i)))
/-- the sum over the sheets -/
def dgS (I : ma_I) (d : Int64) : Nat → Int64
  | 0 => d
  | i + 1 => dgR I i ((31 * dgS I d i) + (Int32.toInt64 (if 0 ≤ I 117 i then I 117 i else (-1)))) (I 117 i).toInt.toNat
section Nm4
variable {g : ma_G} {y : MethodName} {cc : ByteArray} {nL : Nat} {ret : Option FieldType} {rm : Room} {Z : ma_Z} {pc : Nat} {lv : List (Option Value)} {st : List Value} {sh : ma_S} {I I' : ma_I} {L L' : ma_L} {R : ma_R} {n ce sl : Nat}
theorem ev_eqL (h : L = L') (k : EV g y cc nL ret rm Z pc lv st sh I L' R n ce sl) : EV g y cc nL ret rm Z pc lv st sh I L R n ce sl := by rw [h]; exact k
theorem ev_eqI (h : I = I') (k : EV g y cc nL ret rm Z pc lv st sh I' L R n ce sl) : EV g y cc nL ret rm Z pc lv st sh I L R n ce sl := by rw [h]; exact k
end Nm4
theorem dgG_y {I : ma_I} {i : Nat} (h : I 122 i = 0) : dgG I (i + 1) = (31 * (dgG I i)) + (Int32.toInt64 (-1)) := by rw [dgG, if_pos h]
theorem dgG_n {I : ma_I} {i : Nat} (h : ¬ I 122 i = 0) : dgG I (i + 1) = ((31 * ((31 * ((31 * ((31 * ((31 * ((31 * ((31 * ((31 * ((31 * ((31 * ((31 * ((31 * ((31 * ((31 * ((31 * ((31 * ((31 * ((31 * ((31 * ((31 * (dgG I i)) + (Int32.toInt64 (I 123 (((16 * i) + 0) + 0))))) + (Int32.toInt64 (I 123 (((16 * i) + 0) + 1))))) + (Int32.toInt64 (I 123 (((16 * i) + 0) + 2))))) + (Int32.toInt64 (I 123 (((16 * i) + 0) + 3))))) + (Int32.toInt64 (I 123 (((16 * i) + 4) + 1))))) + (Int32.toInt64 (I 123 (((16 * i) + 4) + 2))))) + (Int32.toInt64 (I 123 (((16 * i) + 4) + 3))))) + (Int32.toInt64 (I 123 (((16 * i) + 8) + 2))))) + (Int32.toInt64 (I 123 (((16 * i) + 8) + 3))))) + (Int32.toInt64 (I 123 (((16 * i) + 12) + 3))))) + (Int32.toInt64 (I 124 ((10 * i) + 0))))) + (Int32.toInt64 (I 124 ((10 * i) + 1))))) + (Int32.toInt64 (I 124 ((10 * i) + 2))))) + (Int32.toInt64 (I 124 ((10 * i) + 3))))) + (Int32.toInt64 (I 124 ((10 * i) + 4))))) + (Int32.toInt64 (I 124 ((10 * i) + 5))))) + (Int32.toInt64 (I 124 ((10 * i) + 6))))) + (Int32.toInt64 (I 124 ((10 * i) + 7))))) + (Int32.toInt64 (I 124 ((10 * i) + 8))))) + (Int32.toInt64 (I 124 ((10 * i) + 9)))) := by rw [dgG, if_neg h]
theorem mH_mH (L : ma_L) (d x : Int64) : mH (mH L d) x = mH L x := mH_up L d x
theorem mH_at (L : ma_L) (d : Int64) : mH L d 115 47 = d := rfl
theorem dgS_t {I : ma_I} {L K : ma_L} {d : Int64} {i z : Nat} (hK : K = mH L (dgS I d i)) (ez : I 117 i = nI z) (hz : z < 2147483648) : mH (ma_up K 115 (ma_up (K 115) 47 (31 * ((K 115) 47) + Int32.toInt64 (if 0 ≤ I 117 i then I 117 i else (-1))))) (dgR I i ((ma_up K 115 (ma_up (K 115) 47 (31 * ((K 115) 47) + Int32.toInt64 (if 0 ≤ I 117 i then I 117 i else (-1))))) 115 47) z) = mH L (dgS I d (i + 1)) := by
  subst hK
  rw [mH_up, mH_mH, mH_at, mH_at]
  show mH L (dgR I i _ z) = mH L (dgR I i _ (I 117 i).toInt.toNat)
  have e : (I 117 i).toInt.toNat = z := by rw [ez, nI_toInt hz]; omega
  rw [e]
theorem dgS_g {I : ma_I} {L K : ma_L} {d : Int64} {i : Nat} (hK : K = mH L (dgS I d i)) (hs : I 117 i ≤ 0) : ma_up K 115 (ma_up (K 115) 47 (31 * ((K 115) 47) + Int32.toInt64 (if 0 ≤ I 117 i then I 117 i else (-1)))) = mH L (dgS I d (i + 1)) := by
  subst hK
  rw [mH_up, mH_at]
  show mH L _ = mH L (dgR I i _ (I 117 i).toInt.toNat)
  have e : (I 117 i).toInt.toNat = 0 := by rw [nb_le, nb_0] at hs; omega
  rw [e]
  rfl
set_option maxRecDepth 20000 in
theorem t_X8_digest {g : ma_G} {Post : ma_P} {I : ma_I} {L : ma_L}   (hz : ∀ j, j < 8 → (I 117 j).toInt ≤ 16) (k : Post (some (.long (dgS I (dgG I 12) 8))) HS I (mH L (dgS I (dgG I 12) 8)) RF 146) : CT g yX8_digest cX8_digest 3 (some .long) rX8_digest [.ref 115] Post HS I L RF 146 := by
  refine ct_of (lv := [some (.ref 115), none, none]) (by decide) (Nat.le_of_ble_eq_true rfl) rfl ?_
  refine ev_aload_n (pc' := 1) (i := 0) dX8_digest_0 rfl rfl rfl ?_
  refine ev_ldc2 (pc' := 4) cl_X8_387 dX8_digest_1 rfl ?_
  refine ev_putL (pc' := 7) (L' := (ma_up L 115 (ma_up (L 115) 47 17))) fo_X8_384 dX8_digest_4 rfl hs_115 rfl (fun r hr => by cases hr; rfl) rfl ?_
  refine ev_iconst (pc' := 8) (v := 0) dX8_digest_7 rfl ki_0 ?_
  refine ev_istore_n (pc' := 9) (i := 1) (lv' := [some (.ref 115), some (.int 0), none]) dX8_digest_8 rfl rfl (Nat.le_of_ble_eq_true rfl) rfl rfl ?_
  refine ev_memL (fun L4 hL4 => ?_)
  suffices loop1 : ∀ (d2 i5 : Nat) (K3 : ma_L), i5 + d2 = 12 → (K3 = mH L (dgG I i5)) → EV g yX8_digest cX8_digest 3 (some .long) rX8_digest (ma_ZM g rX8_digest Post) 9 [some (.ref 115), some (.int (nI i5)), none] [] HS I K3 RF 146 0 0 from loop1 (12 - 0) 0 L4 (by omega) (by assumption)
  intro d2
  induction d2 with
  | zero =>
    intro i5   K3 hi6 hv7
    obtain rfl : i5 = 12 := by omega
    subst hv7
    subst hL4
    refine ev_iload_n (pc' := 10) (i := 1) dX8_digest_9 rfl rfl rfl ?_
    refine ev_bipush (pc' := 12) (v := 12) dX8_digest_10 rfl kb_12 ?_
    refine ev_icmp_ge (tgt := 106) (pc' := 15) dX8_digest_12 rfl rfl (fun _ => ?_) (fun h => absurd (nx_le (a := 12) (b := 12) (by omega) (by omega)) h)
    refine ev_iconst (pc' := 107) (v := 0) dX8_digest_106 rfl ki_0 ?_
    refine ev_istore_n (pc' := 108) (i := 1) (lv' := [some (.ref 115), some (.int 0), none]) dX8_digest_107 rfl rfl (Nat.le_of_ble_eq_true rfl) rfl rfl ?_
    refine ev_memL (fun L11 hL11 => ?_)
    suffices loop8 : ∀ (d9 i12 : Nat) (K10 : ma_L), i12 + d9 = 8 → (K10 = mH L (dgS I (dgG I 12) i12)) → EV g yX8_digest cX8_digest 3 (some .long) rX8_digest (ma_ZM g rX8_digest Post) 108 [some (.ref 115), some (.int (nI i12)), none] [] HS I K10 RF 146 0 0 from loop8 (8 - 0) 0 L11 (by omega) (by assumption)
    intro d9
    induction d9 with
    | zero =>
      intro i12   K10 hi13 hv14
      obtain rfl : i12 = 8 := by omega
      subst hv14
      subst hL11
      refine ev_iload_n (pc' := 109) (i := 1) dX8_digest_108 rfl rfl rfl ?_
      refine ev_bipush (pc' := 111) (v := 8) dX8_digest_109 rfl kb_8 ?_
      refine ev_icmp_ge (tgt := 176) (pc' := 114) dX8_digest_111 rfl rfl (fun _ => ?_) (fun h => absurd (nx_le (a := 8) (b := 8) (by omega) (by omega)) h)
      refine ev_aload_n (pc' := 177) (i := 0) dX8_digest_176 rfl rfl rfl ?_
      refine ev_getL (pc' := 180) (v := ((mH L (dgS I (dgG I 12) 8)) 115) 47) fo_X8_384 dX8_digest_177 rfl hs_115 rfl rfl ?_
      refine ev_lret dX8_digest_180 rfl ⟨Nat.le_refl _, Nat.le_refl _⟩ ?_
      exact k
    | succ d9 ih =>
      intro i12   K10 hi13 hv14
      refine ev_iload_n (pc' := 109) (i := 1) dX8_digest_108 rfl rfl rfl ?_
      refine ev_bipush (pc' := 111) (v := 8) dX8_digest_109 rfl kb_8 ?_
      refine ev_icmp_ge (tgt := 176) (pc' := 114) dX8_digest_111 rfl rfl (fun h => absurd h (nx_nle (a := 8) (b := i12) (by omega) (by omega))) (fun _ => ?_)
      refine ev_aload_n (pc' := 115) (i := 0) dX8_digest_114 rfl rfl rfl ?_
      refine ev_aload_n (pc' := 116) (i := 0) dX8_digest_115 rfl rfl rfl ?_
      refine ev_getR (pc' := 119) fo_X8_17 dX8_digest_116 rfl hs_115 rfl rf_115_5 ?_
      refine ev_iload_n (pc' := 120) (i := 1) dX8_digest_119 rfl rfl rfl ?_
      refine ev_iald (pc' := 121) (j := i12) (v := (I 117) i12) dX8_digest_120 rfl hs_117 rfl (by omega) (Nat.le_of_ble_eq_true rfl) rfl ?_
      suffices K17 : ∀ x16 : Int32, x16 = (if 0 ≤ ((I 117) i12) then ((I 117) i12) else (-1)) → EV g yX8_digest cX8_digest 3 (some .long) rX8_digest (ma_ZM g rX8_digest Post) 134 [some (.ref 115), some (.int (nI i12)), none] [.int x16, .ref 115] HS I K10 RF 146 0 0 by
        refine ev_if_ge (tgt := 128) (pc' := 124) dX8_digest_121 rfl rfl (fun c18 => ?_) (fun c18 => ?_)
        · refine ev_aload_n (pc' := 129) (i := 0) dX8_digest_128 rfl rfl rfl ?_
          refine ev_getR (pc' := 132) fo_X8_17 dX8_digest_129 rfl hs_115 rfl rf_115_5 ?_
          refine ev_iload_n (pc' := 133) (i := 1) dX8_digest_132 rfl rfl rfl ?_
          refine ev_iald (pc' := 134) (j := i12) (v := (I 117) i12) dX8_digest_133 rfl hs_117 rfl (by omega) (Nat.le_of_ble_eq_true rfl) rfl ?_
          exact K17 _ (by rw [if_pos c18])
        · refine ev_iconst (pc' := 125) (v := (-1)) dX8_digest_124 rfl ki_m1 ?_
          refine ev_goto (tgt := 134) dX8_digest_125 rfl ?_
          exact K17 _ (by rw [if_neg c18])
      intro x16 hx16
      subst hx16
      refine ev_callV (pc' := 137) (rm' := rX8_mix) (b := 115) (av := [.int (if 0 ≤ ((I 117) i12) then ((I 117) i12) else (-1))]) (rest := []) co_X8_389 ci_X8_mix cv_X8_mix dX8_digest_134 rfl hs_115 hb_X8 rfl rfl (Nat.le_of_ble_eq_true rfl) ⟨(Nat.le_of_ble_eq_true rfl), (Nat.le_of_ble_eq_true rfl)⟩ ⟨(Nat.le_of_ble_eq_true rfl), (Nat.le_of_ble_eq_true rfl)⟩ ?_
      refine t_X8_mix (if 0 ≤ ((I 117) i12) then ((I 117) i12) else (-1)) ?_
      by_cases hs : 0 ≤ I 117 i12
      · obtain ⟨z, hz0, ez⟩ := nI_of (Int32.not_lt.mpr hs)
        have hz16 : z ≤ 16 := by have := hz i12 (by omega); rw [ez, nI_toInt hz0] at this; omega
        refine ev_iconst (pc' := 138) (v := 0) dX8_digest_137 rfl ki_0 ?_
        refine ev_istore_n (pc' := 139) (i := 2) (lv' := [some (.ref 115), some (.int (nI i12)), some (.int 0)]) dX8_digest_138 rfl rfl (Nat.le_of_ble_eq_true rfl) rfl rfl ?_
        refine ev_memL (fun L22 hL22 => ?_)
        suffices loop19 : ∀ (d20 i23 : Nat) (K21 : ma_L), i23 + d20 = z → (K21 = mH L22 (dgR I i12 ((L22 115) 47) i23)) → EV g yX8_digest cX8_digest 3 (some .long) rX8_digest (ma_ZM g rX8_digest Post) 139 [some (.ref 115), some (.int (nI i12)), some (.int (nI i23))] [] HS I K21 RF 146 0 0 from loop19 (z - 0) 0 L22 (by omega) (by show _ = ma_up _ 115 (ma_up _ 47 _); rw [show dgR I i12 ((L22 115) 47) 0 = (L22 115) 47 from rfl, ma_up_self, ma_up_self])
        intro d20
        induction d20 with
        | zero =>
          intro i23   K21 hi24 hv25
          obtain rfl : z = i23 := by omega
          subst hv25
          subst hL22
          refine ev_iload_n (pc' := 140) (i := 2) dX8_digest_139 rfl rfl rfl ?_
          refine ev_aload_n (pc' := 141) (i := 0) dX8_digest_140 rfl rfl rfl ?_
          refine ev_getR (pc' := 144) fo_X8_17 dX8_digest_141 rfl hs_115 rfl rf_115_5 ?_
          refine ev_iload_n (pc' := 145) (i := 1) dX8_digest_144 rfl rfl rfl ?_
          refine ev_iald (pc' := 146) (j := i12) (v := nI z) dX8_digest_145 rfl hs_117 rfl (by omega) (Nat.le_of_ble_eq_true rfl) ez ?_
          refine ev_icmp_ge (tgt := 170) (pc' := 149) dX8_digest_146 rfl rfl (fun _ => ?_) (fun h => absurd (nx_le (a := z) (b := z) (by omega) (by omega)) h)
          refine ev_iinc (pc' := 173) (v := nI (i12 + 1)) (lv' := [some (.ref 115), some (.int (nI (i12 + 1))), some (.int (nI z))]) dX8_digest_170 rfl rfl (nI_add i12 1) (Nat.le_of_ble_eq_true rfl) rfl rfl ?_
          refine ev_goto (tgt := 108) dX8_digest_173 rfl ?_
          refine ev_lvw (lv' := [some (.ref 115), some (.int (nI (i12 + 1))), none]) ⟨rfl, ⟨rfl, trivial⟩⟩ ?_
          exact ih (i12 + 1) _ (by omega) (by first | exact dgS_t hv14 ez hz0 | exact dgS_g hv14 hneg)
        | succ d20 ih =>
          intro i23   K21 hi24 hv25
          refine ev_iload_n (pc' := 140) (i := 2) dX8_digest_139 rfl rfl rfl ?_
          refine ev_aload_n (pc' := 141) (i := 0) dX8_digest_140 rfl rfl rfl ?_
          refine ev_getR (pc' := 144) fo_X8_17 dX8_digest_141 rfl hs_115 rfl rf_115_5 ?_
          refine ev_iload_n (pc' := 145) (i := 1) dX8_digest_144 rfl rfl rfl ?_
          refine ev_iald (pc' := 146) (j := i12) (v := nI z) dX8_digest_145 rfl hs_117 rfl (by omega) (Nat.le_of_ble_eq_true rfl) ez ?_
          refine ev_icmp_ge (tgt := 170) (pc' := 149) dX8_digest_146 rfl rfl (fun h => absurd h (nx_nle (a := z) (b := i23) (by omega) (by omega))) (fun _ => ?_)
          refine ev_aload_n (pc' := 150) (i := 0) dX8_digest_149 rfl rfl rfl ?_
          refine ev_aload_n (pc' := 151) (i := 0) dX8_digest_150 rfl rfl rfl ?_
          refine ev_getR (pc' := 154) fo_X8_20 dX8_digest_151 rfl hs_115 rfl rf_115_6 ?_
          refine ev_bipush (pc' := 156) (v := 16) dX8_digest_154 rfl kb_16 ?_
          refine ev_iload_n (pc' := 157) (i := 1) dX8_digest_156 rfl rfl rfl ?_
          refine ev_imul (pc' := 158) (v := nI (16 * i12)) dX8_digest_157 rfl (pk_mul 16 i12) ?_
          refine ev_iload_n (pc' := 159) (i := 2) dX8_digest_158 rfl rfl rfl ?_
          refine ev_iadd (pc' := 160) (v := nI ((16 * i12) + i23)) dX8_digest_159 rfl (nI_add (16 * i12) i23) ?_
          refine ev_iald (pc' := 161) (j := (16 * i12) + i23) (v := (I 118) ((16 * i12) + i23)) dX8_digest_160 rfl hs_118 rfl (by omega) (Nat.le_of_ble_eq_true rfl) rfl ?_
          refine ev_callV (pc' := 164) (rm' := rX8_mix) (b := 115) (av := [.int ((I 118) ((16 * i12) + i23))]) (rest := []) co_X8_389 ci_X8_mix cv_X8_mix dX8_digest_161 rfl hs_115 hb_X8 rfl rfl (Nat.le_of_ble_eq_true rfl) ⟨(Nat.le_of_ble_eq_true rfl), (Nat.le_of_ble_eq_true rfl)⟩ ⟨(Nat.le_of_ble_eq_true rfl), (Nat.le_of_ble_eq_true rfl)⟩ ?_
          refine t_X8_mix ((I 118) ((16 * i12) + i23)) ?_
          refine ev_iinc (pc' := 167) (v := nI (i23 + 1)) (lv' := [some (.ref 115), some (.int (nI i12)), some (.int (nI (i23 + 1)))]) dX8_digest_164 rfl rfl (nI_add i23 1) (Nat.le_of_ble_eq_true rfl) rfl rfl ?_
          refine ev_goto (tgt := 139) dX8_digest_167 rfl ?_
          exact ih (i23 + 1) _ (by omega) (by rw [hv25]; exact mH_up _ _ _)
      · have hneg : I 117 i12 ≤ 0 := by rw [nb_le, nb_0] at hs ⊢; omega
        refine ev_iconst (pc' := 138) (v := 0) dX8_digest_137 rfl ki_0 ?_
        refine ev_istore_n (pc' := 139) (i := 2) (lv' := [some (.ref 115), some (.int (nI i12)), some (.int 0)]) dX8_digest_138 rfl rfl (Nat.le_of_ble_eq_true rfl) rfl rfl ?_
        refine ev_iload_n (pc' := 140) (i := 2) dX8_digest_139 rfl rfl rfl ?_
        refine ev_aload_n (pc' := 141) (i := 0) dX8_digest_140 rfl rfl rfl ?_
        refine ev_getR (pc' := 144) fo_X8_17 dX8_digest_141 rfl hs_115 rfl rf_115_5 ?_
        refine ev_iload_n (pc' := 145) (i := 1) dX8_digest_144 rfl rfl rfl ?_
        refine ev_iald (pc' := 146) (j := i12) (v := (I 117) i12) dX8_digest_145 rfl hs_117 rfl (by omega) (Nat.le_of_ble_eq_true rfl) rfl ?_
        refine ev_icmp_ge (tgt := 170) (pc' := 149) dX8_digest_146 rfl rfl (fun _ => ?_) (fun h => absurd hneg h)
        refine ev_iinc (pc' := 173) (v := nI (i12 + 1)) (lv' := [some (.ref 115), some (.int (nI (i12 + 1))), some (.int 0)]) dX8_digest_170 rfl rfl (nI_add i12 1) (Nat.le_of_ble_eq_true rfl) rfl rfl ?_
        refine ev_goto (tgt := 108) dX8_digest_173 rfl ?_
        refine ev_lvw (lv' := [some (.ref 115), some (.int (nI (i12 + 1))), none]) ⟨rfl, ⟨rfl, trivial⟩⟩ ?_
        exact ih (i12 + 1) _ (by omega) (by first | exact dgS_t hv14 ez hz0 | exact dgS_g hv14 hneg)
  | succ d2 ih =>
    intro i5   K3 hi6 hv7
    refine ev_iload_n (pc' := 10) (i := 1) dX8_digest_9 rfl rfl rfl ?_
    refine ev_bipush (pc' := 12) (v := 12) dX8_digest_10 rfl kb_12 ?_
    refine ev_icmp_ge (tgt := 106) (pc' := 15) dX8_digest_12 rfl rfl (fun h => absurd h (nx_nle (a := 12) (b := i5) (by omega) (by omega))) (fun _ => ?_)
    refine ev_aload_n (pc' := 16) (i := 0) dX8_digest_15 rfl rfl rfl ?_
    refine ev_getR (pc' := 19) fo_X8_33 dX8_digest_16 rfl hs_115 rfl rf_115_12 ?_
    refine ev_iload_n (pc' := 20) (i := 1) dX8_digest_19 rfl rfl rfl ?_
    refine ev_zald (pc' := 21) (j := i5) (v := (I 122) i5) dX8_digest_20 rfl hs_122 rfl (by omega) (Nat.le_of_ble_eq_true rfl) rfl ?_
    refine ev_if_ne (tgt := 32) (pc' := 24) dX8_digest_21 rfl rfl (fun c26 => ?_) (fun c26 => ?_)
    · refine ev_iconst (pc' := 33) (v := 0) dX8_digest_32 rfl ki_0 ?_
      refine ev_istore_n (pc' := 34) (i := 2) (lv' := [some (.ref 115), some (.int (nI i5)), some (.int 0)]) dX8_digest_33 rfl rfl (Nat.le_of_ble_eq_true rfl) rfl rfl ?_
      refine ev_iload_n (pc' := 35) (i := 2) dX8_digest_34 rfl rfl rfl ?_
      refine ev_bipush (pc' := 37) (v := 10) dX8_digest_35 rfl kb_10 ?_
      refine ev_icmp_ge (tgt := 71) (pc' := 40) dX8_digest_37 rfl rfl (fun h => absurd h (by decide)) (fun _ => ?_)
      refine ev_aload_n (pc' := 41) (i := 0) dX8_digest_40 rfl rfl rfl ?_
      refine ev_aload_n (pc' := 42) (i := 0) dX8_digest_41 rfl rfl rfl ?_
      refine ev_getR (pc' := 45) fo_X8_37 dX8_digest_42 rfl hs_115 rfl rf_115_13 ?_
      refine ev_bipush (pc' := 47) (v := 16) dX8_digest_45 rfl kb_16 ?_
      refine ev_iload_n (pc' := 48) (i := 1) dX8_digest_47 rfl rfl rfl ?_
      refine ev_imul (pc' := 49) (v := nI (16 * i5)) dX8_digest_48 rfl (pk_mul 16 i5) ?_
      refine ev_iconst (pc' := 50) (v := 4) dX8_digest_49 rfl ki_4 ?_
      refine ev_iload_n (pc' := 51) (i := 2) dX8_digest_50 rfl rfl rfl ?_
      refine ev_callS (pc' := 54) (rm' := rX8_rowOf) (av := [.int 0]) (rest := [.int 4, .int (nI (16 * i5)), .ref 123, .ref 115]) co_X8_201 cs_X8_rowOf dX8_digest_51 rfl rfl rfl (Nat.le_of_ble_eq_true rfl) ⟨(Nat.le_of_ble_eq_true rfl), (Nat.le_of_ble_eq_true rfl)⟩ ⟨(Nat.le_of_ble_eq_true rfl), (Nat.le_of_ble_eq_true rfl)⟩ ?_
      refine u_X8_rowOf 0 0 (by decide) ?_
      refine ev_imul (pc' := 55) (v := 0) dX8_digest_54 rfl (by decide) ?_
      refine ev_iadd (pc' := 56) (v := nI ((16 * i5) + 0)) dX8_digest_55 rfl (nI_add (16 * i5) 0) ?_
      refine ev_iload_n (pc' := 57) (i := 2) dX8_digest_56 rfl rfl rfl ?_
      refine ev_callS (pc' := 60) (rm' := rX8_columnOf) (av := [.int 0]) (rest := [.int (nI ((16 * i5) + 0)), .ref 123, .ref 115]) co_X8_204 cs_X8_columnOf dX8_digest_57 rfl rfl rfl (Nat.le_of_ble_eq_true rfl) ⟨(Nat.le_of_ble_eq_true rfl), (Nat.le_of_ble_eq_true rfl)⟩ ⟨(Nat.le_of_ble_eq_true rfl), (Nat.le_of_ble_eq_true rfl)⟩ ?_
      refine u_X8_columnOf 0 0 (by decide) ?_
      refine ev_iadd (pc' := 61) (v := nI (((16 * i5) + 0) + 0)) dX8_digest_60 rfl (nI_add ((16 * i5) + 0) 0) ?_
      refine ev_iald (pc' := 62) (j := ((16 * i5) + 0) + 0) (v := (I 123) (((16 * i5) + 0) + 0)) dX8_digest_61 rfl hs_123 rfl (by omega) (Nat.le_of_ble_eq_true rfl) rfl ?_
      refine ev_callV (pc' := 65) (rm' := rX8_mix) (b := 115) (av := [.int ((I 123) (((16 * i5) + 0) + 0))]) (rest := []) co_X8_389 ci_X8_mix cv_X8_mix dX8_digest_62 rfl hs_115 hb_X8 rfl rfl (Nat.le_of_ble_eq_true rfl) ⟨(Nat.le_of_ble_eq_true rfl), (Nat.le_of_ble_eq_true rfl)⟩ ⟨(Nat.le_of_ble_eq_true rfl), (Nat.le_of_ble_eq_true rfl)⟩ ?_
      refine t_X8_mix ((I 123) (((16 * i5) + 0) + 0)) ?_
      refine ev_iinc (pc' := 68) (v := 1) (lv' := [some (.ref 115), some (.int (nI i5)), some (.int 1)]) dX8_digest_65 rfl rfl (by decide) (Nat.le_of_ble_eq_true rfl) rfl rfl ?_
      refine ev_goto (tgt := 34) dX8_digest_68 rfl ?_
      refine ev_iload_n (pc' := 35) (i := 2) dX8_digest_34 rfl rfl rfl ?_
      refine ev_bipush (pc' := 37) (v := 10) dX8_digest_35 rfl kb_10 ?_
      refine ev_icmp_ge (tgt := 71) (pc' := 40) dX8_digest_37 rfl rfl (fun h => absurd h (by decide)) (fun _ => ?_)
      refine ev_aload_n (pc' := 41) (i := 0) dX8_digest_40 rfl rfl rfl ?_
      refine ev_aload_n (pc' := 42) (i := 0) dX8_digest_41 rfl rfl rfl ?_
      refine ev_getR (pc' := 45) fo_X8_37 dX8_digest_42 rfl hs_115 rfl rf_115_13 ?_
      refine ev_bipush (pc' := 47) (v := 16) dX8_digest_45 rfl kb_16 ?_
      refine ev_iload_n (pc' := 48) (i := 1) dX8_digest_47 rfl rfl rfl ?_
      refine ev_imul (pc' := 49) (v := nI (16 * i5)) dX8_digest_48 rfl (pk_mul 16 i5) ?_
      refine ev_iconst (pc' := 50) (v := 4) dX8_digest_49 rfl ki_4 ?_
      refine ev_iload_n (pc' := 51) (i := 2) dX8_digest_50 rfl rfl rfl ?_
      refine ev_callS (pc' := 54) (rm' := rX8_rowOf) (av := [.int 1]) (rest := [.int 4, .int (nI (16 * i5)), .ref 123, .ref 115]) co_X8_201 cs_X8_rowOf dX8_digest_51 rfl rfl rfl (Nat.le_of_ble_eq_true rfl) ⟨(Nat.le_of_ble_eq_true rfl), (Nat.le_of_ble_eq_true rfl)⟩ ⟨(Nat.le_of_ble_eq_true rfl), (Nat.le_of_ble_eq_true rfl)⟩ ?_
      refine u_X8_rowOf 1 0 (by decide) ?_
      refine ev_imul (pc' := 55) (v := 0) dX8_digest_54 rfl (by decide) ?_
      refine ev_iadd (pc' := 56) (v := nI ((16 * i5) + 0)) dX8_digest_55 rfl (nI_add (16 * i5) 0) ?_
      refine ev_iload_n (pc' := 57) (i := 2) dX8_digest_56 rfl rfl rfl ?_
      refine ev_callS (pc' := 60) (rm' := rX8_columnOf) (av := [.int 1]) (rest := [.int (nI ((16 * i5) + 0)), .ref 123, .ref 115]) co_X8_204 cs_X8_columnOf dX8_digest_57 rfl rfl rfl (Nat.le_of_ble_eq_true rfl) ⟨(Nat.le_of_ble_eq_true rfl), (Nat.le_of_ble_eq_true rfl)⟩ ⟨(Nat.le_of_ble_eq_true rfl), (Nat.le_of_ble_eq_true rfl)⟩ ?_
      refine u_X8_columnOf 1 1 (by decide) ?_
      refine ev_iadd (pc' := 61) (v := nI (((16 * i5) + 0) + 1)) dX8_digest_60 rfl (nI_add ((16 * i5) + 0) 1) ?_
      refine ev_iald (pc' := 62) (j := ((16 * i5) + 0) + 1) (v := (I 123) (((16 * i5) + 0) + 1)) dX8_digest_61 rfl hs_123 rfl (by omega) (Nat.le_of_ble_eq_true rfl) rfl ?_
      refine ev_callV (pc' := 65) (rm' := rX8_mix) (b := 115) (av := [.int ((I 123) (((16 * i5) + 0) + 1))]) (rest := []) co_X8_389 ci_X8_mix cv_X8_mix dX8_digest_62 rfl hs_115 hb_X8 rfl rfl (Nat.le_of_ble_eq_true rfl) ⟨(Nat.le_of_ble_eq_true rfl), (Nat.le_of_ble_eq_true rfl)⟩ ⟨(Nat.le_of_ble_eq_true rfl), (Nat.le_of_ble_eq_true rfl)⟩ ?_
      refine t_X8_mix ((I 123) (((16 * i5) + 0) + 1)) ?_
      refine ev_eqL (L' := (ma_up K3 115 (ma_up (K3 115) 47 ((31 * ((31 * ((K3 115) 47)) + (Int32.toInt64 ((I 123) (((16 * i5) + 0) + 0))))) + (Int32.toInt64 ((I 123) (((16 * i5) + 0) + 1))))))) ((congrArg (ma_up _ 115) (ma_up_up _ _ _ _)).trans (ma_up_up _ _ _ _)) ?_
      refine ev_iinc (pc' := 68) (v := 2) (lv' := [some (.ref 115), some (.int (nI i5)), some (.int 2)]) dX8_digest_65 rfl rfl (by decide) (Nat.le_of_ble_eq_true rfl) rfl rfl ?_
      refine ev_goto (tgt := 34) dX8_digest_68 rfl ?_
      refine ev_iload_n (pc' := 35) (i := 2) dX8_digest_34 rfl rfl rfl ?_
      refine ev_bipush (pc' := 37) (v := 10) dX8_digest_35 rfl kb_10 ?_
      refine ev_icmp_ge (tgt := 71) (pc' := 40) dX8_digest_37 rfl rfl (fun h => absurd h (by decide)) (fun _ => ?_)
      refine ev_aload_n (pc' := 41) (i := 0) dX8_digest_40 rfl rfl rfl ?_
      refine ev_aload_n (pc' := 42) (i := 0) dX8_digest_41 rfl rfl rfl ?_
      refine ev_getR (pc' := 45) fo_X8_37 dX8_digest_42 rfl hs_115 rfl rf_115_13 ?_
      refine ev_bipush (pc' := 47) (v := 16) dX8_digest_45 rfl kb_16 ?_
      refine ev_iload_n (pc' := 48) (i := 1) dX8_digest_47 rfl rfl rfl ?_
      refine ev_imul (pc' := 49) (v := nI (16 * i5)) dX8_digest_48 rfl (pk_mul 16 i5) ?_
      refine ev_iconst (pc' := 50) (v := 4) dX8_digest_49 rfl ki_4 ?_
      refine ev_iload_n (pc' := 51) (i := 2) dX8_digest_50 rfl rfl rfl ?_
      refine ev_callS (pc' := 54) (rm' := rX8_rowOf) (av := [.int 2]) (rest := [.int 4, .int (nI (16 * i5)), .ref 123, .ref 115]) co_X8_201 cs_X8_rowOf dX8_digest_51 rfl rfl rfl (Nat.le_of_ble_eq_true rfl) ⟨(Nat.le_of_ble_eq_true rfl), (Nat.le_of_ble_eq_true rfl)⟩ ⟨(Nat.le_of_ble_eq_true rfl), (Nat.le_of_ble_eq_true rfl)⟩ ?_
      refine u_X8_rowOf 2 0 (by decide) ?_
      refine ev_imul (pc' := 55) (v := 0) dX8_digest_54 rfl (by decide) ?_
      refine ev_iadd (pc' := 56) (v := nI ((16 * i5) + 0)) dX8_digest_55 rfl (nI_add (16 * i5) 0) ?_
      refine ev_iload_n (pc' := 57) (i := 2) dX8_digest_56 rfl rfl rfl ?_
      refine ev_callS (pc' := 60) (rm' := rX8_columnOf) (av := [.int 2]) (rest := [.int (nI ((16 * i5) + 0)), .ref 123, .ref 115]) co_X8_204 cs_X8_columnOf dX8_digest_57 rfl rfl rfl (Nat.le_of_ble_eq_true rfl) ⟨(Nat.le_of_ble_eq_true rfl), (Nat.le_of_ble_eq_true rfl)⟩ ⟨(Nat.le_of_ble_eq_true rfl), (Nat.le_of_ble_eq_true rfl)⟩ ?_
      refine u_X8_columnOf 2 2 (by decide) ?_
      refine ev_iadd (pc' := 61) (v := nI (((16 * i5) + 0) + 2)) dX8_digest_60 rfl (nI_add ((16 * i5) + 0) 2) ?_
      refine ev_iald (pc' := 62) (j := ((16 * i5) + 0) + 2) (v := (I 123) (((16 * i5) + 0) + 2)) dX8_digest_61 rfl hs_123 rfl (by omega) (Nat.le_of_ble_eq_true rfl) rfl ?_
      refine ev_callV (pc' := 65) (rm' := rX8_mix) (b := 115) (av := [.int ((I 123) (((16 * i5) + 0) + 2))]) (rest := []) co_X8_389 ci_X8_mix cv_X8_mix dX8_digest_62 rfl hs_115 hb_X8 rfl rfl (Nat.le_of_ble_eq_true rfl) ⟨(Nat.le_of_ble_eq_true rfl), (Nat.le_of_ble_eq_true rfl)⟩ ⟨(Nat.le_of_ble_eq_true rfl), (Nat.le_of_ble_eq_true rfl)⟩ ?_
      refine t_X8_mix ((I 123) (((16 * i5) + 0) + 2)) ?_
      refine ev_eqL (L' := (ma_up K3 115 (ma_up (K3 115) 47 ((31 * ((31 * ((31 * ((K3 115) 47)) + (Int32.toInt64 ((I 123) (((16 * i5) + 0) + 0))))) + (Int32.toInt64 ((I 123) (((16 * i5) + 0) + 1))))) + (Int32.toInt64 ((I 123) (((16 * i5) + 0) + 2))))))) ((congrArg (ma_up _ 115) (ma_up_up _ _ _ _)).trans (ma_up_up _ _ _ _)) ?_
      refine ev_iinc (pc' := 68) (v := 3) (lv' := [some (.ref 115), some (.int (nI i5)), some (.int 3)]) dX8_digest_65 rfl rfl (by decide) (Nat.le_of_ble_eq_true rfl) rfl rfl ?_
      refine ev_goto (tgt := 34) dX8_digest_68 rfl ?_
      refine ev_iload_n (pc' := 35) (i := 2) dX8_digest_34 rfl rfl rfl ?_
      refine ev_bipush (pc' := 37) (v := 10) dX8_digest_35 rfl kb_10 ?_
      refine ev_icmp_ge (tgt := 71) (pc' := 40) dX8_digest_37 rfl rfl (fun h => absurd h (by decide)) (fun _ => ?_)
      refine ev_aload_n (pc' := 41) (i := 0) dX8_digest_40 rfl rfl rfl ?_
      refine ev_aload_n (pc' := 42) (i := 0) dX8_digest_41 rfl rfl rfl ?_
      refine ev_getR (pc' := 45) fo_X8_37 dX8_digest_42 rfl hs_115 rfl rf_115_13 ?_
      refine ev_bipush (pc' := 47) (v := 16) dX8_digest_45 rfl kb_16 ?_
      refine ev_iload_n (pc' := 48) (i := 1) dX8_digest_47 rfl rfl rfl ?_
      refine ev_imul (pc' := 49) (v := nI (16 * i5)) dX8_digest_48 rfl (pk_mul 16 i5) ?_
      refine ev_iconst (pc' := 50) (v := 4) dX8_digest_49 rfl ki_4 ?_
      refine ev_iload_n (pc' := 51) (i := 2) dX8_digest_50 rfl rfl rfl ?_
      refine ev_callS (pc' := 54) (rm' := rX8_rowOf) (av := [.int 3]) (rest := [.int 4, .int (nI (16 * i5)), .ref 123, .ref 115]) co_X8_201 cs_X8_rowOf dX8_digest_51 rfl rfl rfl (Nat.le_of_ble_eq_true rfl) ⟨(Nat.le_of_ble_eq_true rfl), (Nat.le_of_ble_eq_true rfl)⟩ ⟨(Nat.le_of_ble_eq_true rfl), (Nat.le_of_ble_eq_true rfl)⟩ ?_
      refine u_X8_rowOf 3 0 (by decide) ?_
      refine ev_imul (pc' := 55) (v := 0) dX8_digest_54 rfl (by decide) ?_
      refine ev_iadd (pc' := 56) (v := nI ((16 * i5) + 0)) dX8_digest_55 rfl (nI_add (16 * i5) 0) ?_
      refine ev_iload_n (pc' := 57) (i := 2) dX8_digest_56 rfl rfl rfl ?_
      refine ev_callS (pc' := 60) (rm' := rX8_columnOf) (av := [.int 3]) (rest := [.int (nI ((16 * i5) + 0)), .ref 123, .ref 115]) co_X8_204 cs_X8_columnOf dX8_digest_57 rfl rfl rfl (Nat.le_of_ble_eq_true rfl) ⟨(Nat.le_of_ble_eq_true rfl), (Nat.le_of_ble_eq_true rfl)⟩ ⟨(Nat.le_of_ble_eq_true rfl), (Nat.le_of_ble_eq_true rfl)⟩ ?_
      refine u_X8_columnOf 3 3 (by decide) ?_
      refine ev_iadd (pc' := 61) (v := nI (((16 * i5) + 0) + 3)) dX8_digest_60 rfl (nI_add ((16 * i5) + 0) 3) ?_
      refine ev_iald (pc' := 62) (j := ((16 * i5) + 0) + 3) (v := (I 123) (((16 * i5) + 0) + 3)) dX8_digest_61 rfl hs_123 rfl (by omega) (Nat.le_of_ble_eq_true rfl) rfl ?_
      refine ev_callV (pc' := 65) (rm' := rX8_mix) (b := 115) (av := [.int ((I 123) (((16 * i5) + 0) + 3))]) (rest := []) co_X8_389 ci_X8_mix cv_X8_mix dX8_digest_62 rfl hs_115 hb_X8 rfl rfl (Nat.le_of_ble_eq_true rfl) ⟨(Nat.le_of_ble_eq_true rfl), (Nat.le_of_ble_eq_true rfl)⟩ ⟨(Nat.le_of_ble_eq_true rfl), (Nat.le_of_ble_eq_true rfl)⟩ ?_
      refine t_X8_mix ((I 123) (((16 * i5) + 0) + 3)) ?_
      refine ev_eqL (L' := (ma_up K3 115 (ma_up (K3 115) 47 ((31 * ((31 * ((31 * ((31 * ((K3 115) 47)) + (Int32.toInt64 ((I 123) (((16 * i5) + 0) + 0))))) + (Int32.toInt64 ((I 123) (((16 * i5) + 0) + 1))))) + (Int32.toInt64 ((I 123) (((16 * i5) + 0) + 2))))) + (Int32.toInt64 ((I 123) (((16 * i5) + 0) + 3))))))) ((congrArg (ma_up _ 115) (ma_up_up _ _ _ _)).trans (ma_up_up _ _ _ _)) ?_
      refine ev_iinc (pc' := 68) (v := 4) (lv' := [some (.ref 115), some (.int (nI i5)), some (.int 4)]) dX8_digest_65 rfl rfl (by decide) (Nat.le_of_ble_eq_true rfl) rfl rfl ?_
      refine ev_goto (tgt := 34) dX8_digest_68 rfl ?_
      refine ev_iload_n (pc' := 35) (i := 2) dX8_digest_34 rfl rfl rfl ?_
      refine ev_bipush (pc' := 37) (v := 10) dX8_digest_35 rfl kb_10 ?_
      refine ev_icmp_ge (tgt := 71) (pc' := 40) dX8_digest_37 rfl rfl (fun h => absurd h (by decide)) (fun _ => ?_)
      refine ev_aload_n (pc' := 41) (i := 0) dX8_digest_40 rfl rfl rfl ?_
      refine ev_aload_n (pc' := 42) (i := 0) dX8_digest_41 rfl rfl rfl ?_
      refine ev_getR (pc' := 45) fo_X8_37 dX8_digest_42 rfl hs_115 rfl rf_115_13 ?_
      refine ev_bipush (pc' := 47) (v := 16) dX8_digest_45 rfl kb_16 ?_
      refine ev_iload_n (pc' := 48) (i := 1) dX8_digest_47 rfl rfl rfl ?_
      refine ev_imul (pc' := 49) (v := nI (16 * i5)) dX8_digest_48 rfl (pk_mul 16 i5) ?_
      refine ev_iconst (pc' := 50) (v := 4) dX8_digest_49 rfl ki_4 ?_
      refine ev_iload_n (pc' := 51) (i := 2) dX8_digest_50 rfl rfl rfl ?_
      refine ev_callS (pc' := 54) (rm' := rX8_rowOf) (av := [.int 4]) (rest := [.int 4, .int (nI (16 * i5)), .ref 123, .ref 115]) co_X8_201 cs_X8_rowOf dX8_digest_51 rfl rfl rfl (Nat.le_of_ble_eq_true rfl) ⟨(Nat.le_of_ble_eq_true rfl), (Nat.le_of_ble_eq_true rfl)⟩ ⟨(Nat.le_of_ble_eq_true rfl), (Nat.le_of_ble_eq_true rfl)⟩ ?_
      refine u_X8_rowOf 4 1 (by decide) ?_
      refine ev_imul (pc' := 55) (v := 4) dX8_digest_54 rfl (by decide) ?_
      refine ev_iadd (pc' := 56) (v := nI ((16 * i5) + 4)) dX8_digest_55 rfl (nI_add (16 * i5) 4) ?_
      refine ev_iload_n (pc' := 57) (i := 2) dX8_digest_56 rfl rfl rfl ?_
      refine ev_callS (pc' := 60) (rm' := rX8_columnOf) (av := [.int 4]) (rest := [.int (nI ((16 * i5) + 4)), .ref 123, .ref 115]) co_X8_204 cs_X8_columnOf dX8_digest_57 rfl rfl rfl (Nat.le_of_ble_eq_true rfl) ⟨(Nat.le_of_ble_eq_true rfl), (Nat.le_of_ble_eq_true rfl)⟩ ⟨(Nat.le_of_ble_eq_true rfl), (Nat.le_of_ble_eq_true rfl)⟩ ?_
      refine u_X8_columnOf 4 1 (by decide) ?_
      refine ev_iadd (pc' := 61) (v := nI (((16 * i5) + 4) + 1)) dX8_digest_60 rfl (nI_add ((16 * i5) + 4) 1) ?_
      refine ev_iald (pc' := 62) (j := ((16 * i5) + 4) + 1) (v := (I 123) (((16 * i5) + 4) + 1)) dX8_digest_61 rfl hs_123 rfl (by omega) (Nat.le_of_ble_eq_true rfl) rfl ?_
      refine ev_callV (pc' := 65) (rm' := rX8_mix) (b := 115) (av := [.int ((I 123) (((16 * i5) + 4) + 1))]) (rest := []) co_X8_389 ci_X8_mix cv_X8_mix dX8_digest_62 rfl hs_115 hb_X8 rfl rfl (Nat.le_of_ble_eq_true rfl) ⟨(Nat.le_of_ble_eq_true rfl), (Nat.le_of_ble_eq_true rfl)⟩ ⟨(Nat.le_of_ble_eq_true rfl), (Nat.le_of_ble_eq_true rfl)⟩ ?_
      refine t_X8_mix ((I 123) (((16 * i5) + 4) + 1)) ?_
      refine ev_eqL (L' := (ma_up K3 115 (ma_up (K3 115) 47 ((31 * ((31 * ((31 * ((31 * ((31 * ((K3 115) 47)) + (Int32.toInt64 ((I 123) (((16 * i5) + 0) + 0))))) + (Int32.toInt64 ((I 123) (((16 * i5) + 0) + 1))))) + (Int32.toInt64 ((I 123) (((16 * i5) + 0) + 2))))) + (Int32.toInt64 ((I 123) (((16 * i5) + 0) + 3))))) + (Int32.toInt64 ((I 123) (((16 * i5) + 4) + 1))))))) ((congrArg (ma_up _ 115) (ma_up_up _ _ _ _)).trans (ma_up_up _ _ _ _)) ?_
      refine ev_iinc (pc' := 68) (v := 5) (lv' := [some (.ref 115), some (.int (nI i5)), some (.int 5)]) dX8_digest_65 rfl rfl (by decide) (Nat.le_of_ble_eq_true rfl) rfl rfl ?_
      refine ev_goto (tgt := 34) dX8_digest_68 rfl ?_
      refine ev_iload_n (pc' := 35) (i := 2) dX8_digest_34 rfl rfl rfl ?_
      refine ev_bipush (pc' := 37) (v := 10) dX8_digest_35 rfl kb_10 ?_
      refine ev_icmp_ge (tgt := 71) (pc' := 40) dX8_digest_37 rfl rfl (fun h => absurd h (by decide)) (fun _ => ?_)
      refine ev_aload_n (pc' := 41) (i := 0) dX8_digest_40 rfl rfl rfl ?_
      refine ev_aload_n (pc' := 42) (i := 0) dX8_digest_41 rfl rfl rfl ?_
      refine ev_getR (pc' := 45) fo_X8_37 dX8_digest_42 rfl hs_115 rfl rf_115_13 ?_
      refine ev_bipush (pc' := 47) (v := 16) dX8_digest_45 rfl kb_16 ?_
      refine ev_iload_n (pc' := 48) (i := 1) dX8_digest_47 rfl rfl rfl ?_
      refine ev_imul (pc' := 49) (v := nI (16 * i5)) dX8_digest_48 rfl (pk_mul 16 i5) ?_
      refine ev_iconst (pc' := 50) (v := 4) dX8_digest_49 rfl ki_4 ?_
      refine ev_iload_n (pc' := 51) (i := 2) dX8_digest_50 rfl rfl rfl ?_
      refine ev_callS (pc' := 54) (rm' := rX8_rowOf) (av := [.int 5]) (rest := [.int 4, .int (nI (16 * i5)), .ref 123, .ref 115]) co_X8_201 cs_X8_rowOf dX8_digest_51 rfl rfl rfl (Nat.le_of_ble_eq_true rfl) ⟨(Nat.le_of_ble_eq_true rfl), (Nat.le_of_ble_eq_true rfl)⟩ ⟨(Nat.le_of_ble_eq_true rfl), (Nat.le_of_ble_eq_true rfl)⟩ ?_
      refine u_X8_rowOf 5 1 (by decide) ?_
      refine ev_imul (pc' := 55) (v := 4) dX8_digest_54 rfl (by decide) ?_
      refine ev_iadd (pc' := 56) (v := nI ((16 * i5) + 4)) dX8_digest_55 rfl (nI_add (16 * i5) 4) ?_
      refine ev_iload_n (pc' := 57) (i := 2) dX8_digest_56 rfl rfl rfl ?_
      refine ev_callS (pc' := 60) (rm' := rX8_columnOf) (av := [.int 5]) (rest := [.int (nI ((16 * i5) + 4)), .ref 123, .ref 115]) co_X8_204 cs_X8_columnOf dX8_digest_57 rfl rfl rfl (Nat.le_of_ble_eq_true rfl) ⟨(Nat.le_of_ble_eq_true rfl), (Nat.le_of_ble_eq_true rfl)⟩ ⟨(Nat.le_of_ble_eq_true rfl), (Nat.le_of_ble_eq_true rfl)⟩ ?_
      refine u_X8_columnOf 5 2 (by decide) ?_
      refine ev_iadd (pc' := 61) (v := nI (((16 * i5) + 4) + 2)) dX8_digest_60 rfl (nI_add ((16 * i5) + 4) 2) ?_
      refine ev_iald (pc' := 62) (j := ((16 * i5) + 4) + 2) (v := (I 123) (((16 * i5) + 4) + 2)) dX8_digest_61 rfl hs_123 rfl (by omega) (Nat.le_of_ble_eq_true rfl) rfl ?_
      refine ev_callV (pc' := 65) (rm' := rX8_mix) (b := 115) (av := [.int ((I 123) (((16 * i5) + 4) + 2))]) (rest := []) co_X8_389 ci_X8_mix cv_X8_mix dX8_digest_62 rfl hs_115 hb_X8 rfl rfl (Nat.le_of_ble_eq_true rfl) ⟨(Nat.le_of_ble_eq_true rfl), (Nat.le_of_ble_eq_true rfl)⟩ ⟨(Nat.le_of_ble_eq_true rfl), (Nat.le_of_ble_eq_true rfl)⟩ ?_
      refine t_X8_mix ((I 123) (((16 * i5) + 4) + 2)) ?_
      refine ev_eqL (L' := (ma_up K3 115 (ma_up (K3 115) 47 ((31 * ((31 * ((31 * ((31 * ((31 * ((31 * ((K3 115) 47)) + (Int32.toInt64 ((I 123) (((16 * i5) + 0) + 0))))) + (Int32.toInt64 ((I 123) (((16 * i5) + 0) + 1))))) + (Int32.toInt64 ((I 123) (((16 * i5) + 0) + 2))))) + (Int32.toInt64 ((I 123) (((16 * i5) + 0) + 3))))) + (Int32.toInt64 ((I 123) (((16 * i5) + 4) + 1))))) + (Int32.toInt64 ((I 123) (((16 * i5) + 4) + 2))))))) ((congrArg (ma_up _ 115) (ma_up_up _ _ _ _)).trans (ma_up_up _ _ _ _)) ?_
      refine ev_iinc (pc' := 68) (v := 6) (lv' := [some (.ref 115), some (.int (nI i5)), some (.int 6)]) dX8_digest_65 rfl rfl (by decide) (Nat.le_of_ble_eq_true rfl) rfl rfl ?_
      refine ev_goto (tgt := 34) dX8_digest_68 rfl ?_
      refine ev_iload_n (pc' := 35) (i := 2) dX8_digest_34 rfl rfl rfl ?_
      refine ev_bipush (pc' := 37) (v := 10) dX8_digest_35 rfl kb_10 ?_
      refine ev_icmp_ge (tgt := 71) (pc' := 40) dX8_digest_37 rfl rfl (fun h => absurd h (by decide)) (fun _ => ?_)
      refine ev_aload_n (pc' := 41) (i := 0) dX8_digest_40 rfl rfl rfl ?_
      refine ev_aload_n (pc' := 42) (i := 0) dX8_digest_41 rfl rfl rfl ?_
      refine ev_getR (pc' := 45) fo_X8_37 dX8_digest_42 rfl hs_115 rfl rf_115_13 ?_
      refine ev_bipush (pc' := 47) (v := 16) dX8_digest_45 rfl kb_16 ?_
      refine ev_iload_n (pc' := 48) (i := 1) dX8_digest_47 rfl rfl rfl ?_
      refine ev_imul (pc' := 49) (v := nI (16 * i5)) dX8_digest_48 rfl (pk_mul 16 i5) ?_
      refine ev_iconst (pc' := 50) (v := 4) dX8_digest_49 rfl ki_4 ?_
      refine ev_iload_n (pc' := 51) (i := 2) dX8_digest_50 rfl rfl rfl ?_
      refine ev_callS (pc' := 54) (rm' := rX8_rowOf) (av := [.int 6]) (rest := [.int 4, .int (nI (16 * i5)), .ref 123, .ref 115]) co_X8_201 cs_X8_rowOf dX8_digest_51 rfl rfl rfl (Nat.le_of_ble_eq_true rfl) ⟨(Nat.le_of_ble_eq_true rfl), (Nat.le_of_ble_eq_true rfl)⟩ ⟨(Nat.le_of_ble_eq_true rfl), (Nat.le_of_ble_eq_true rfl)⟩ ?_
      refine u_X8_rowOf 6 1 (by decide) ?_
      refine ev_imul (pc' := 55) (v := 4) dX8_digest_54 rfl (by decide) ?_
      refine ev_iadd (pc' := 56) (v := nI ((16 * i5) + 4)) dX8_digest_55 rfl (nI_add (16 * i5) 4) ?_
      refine ev_iload_n (pc' := 57) (i := 2) dX8_digest_56 rfl rfl rfl ?_
      refine ev_callS (pc' := 60) (rm' := rX8_columnOf) (av := [.int 6]) (rest := [.int (nI ((16 * i5) + 4)), .ref 123, .ref 115]) co_X8_204 cs_X8_columnOf dX8_digest_57 rfl rfl rfl (Nat.le_of_ble_eq_true rfl) ⟨(Nat.le_of_ble_eq_true rfl), (Nat.le_of_ble_eq_true rfl)⟩ ⟨(Nat.le_of_ble_eq_true rfl), (Nat.le_of_ble_eq_true rfl)⟩ ?_
      refine u_X8_columnOf 6 3 (by decide) ?_
      refine ev_iadd (pc' := 61) (v := nI (((16 * i5) + 4) + 3)) dX8_digest_60 rfl (nI_add ((16 * i5) + 4) 3) ?_
      refine ev_iald (pc' := 62) (j := ((16 * i5) + 4) + 3) (v := (I 123) (((16 * i5) + 4) + 3)) dX8_digest_61 rfl hs_123 rfl (by omega) (Nat.le_of_ble_eq_true rfl) rfl ?_
      refine ev_callV (pc' := 65) (rm' := rX8_mix) (b := 115) (av := [.int ((I 123) (((16 * i5) + 4) + 3))]) (rest := []) co_X8_389 ci_X8_mix cv_X8_mix dX8_digest_62 rfl hs_115 hb_X8 rfl rfl (Nat.le_of_ble_eq_true rfl) ⟨(Nat.le_of_ble_eq_true rfl), (Nat.le_of_ble_eq_true rfl)⟩ ⟨(Nat.le_of_ble_eq_true rfl), (Nat.le_of_ble_eq_true rfl)⟩ ?_
      refine t_X8_mix ((I 123) (((16 * i5) + 4) + 3)) ?_
      refine ev_eqL (L' := (ma_up K3 115 (ma_up (K3 115) 47 ((31 * ((31 * ((31 * ((31 * ((31 * ((31 * ((31 * ((K3 115) 47)) + (Int32.toInt64 ((I 123) (((16 * i5) + 0) + 0))))) + (Int32.toInt64 ((I 123) (((16 * i5) + 0) + 1))))) + (Int32.toInt64 ((I 123) (((16 * i5) + 0) + 2))))) + (Int32.toInt64 ((I 123) (((16 * i5) + 0) + 3))))) + (Int32.toInt64 ((I 123) (((16 * i5) + 4) + 1))))) + (Int32.toInt64 ((I 123) (((16 * i5) + 4) + 2))))) + (Int32.toInt64 ((I 123) (((16 * i5) + 4) + 3))))))) ((congrArg (ma_up _ 115) (ma_up_up _ _ _ _)).trans (ma_up_up _ _ _ _)) ?_
      refine ev_iinc (pc' := 68) (v := 7) (lv' := [some (.ref 115), some (.int (nI i5)), some (.int 7)]) dX8_digest_65 rfl rfl (by decide) (Nat.le_of_ble_eq_true rfl) rfl rfl ?_
      refine ev_goto (tgt := 34) dX8_digest_68 rfl ?_
      refine ev_iload_n (pc' := 35) (i := 2) dX8_digest_34 rfl rfl rfl ?_
      refine ev_bipush (pc' := 37) (v := 10) dX8_digest_35 rfl kb_10 ?_
      refine ev_icmp_ge (tgt := 71) (pc' := 40) dX8_digest_37 rfl rfl (fun h => absurd h (by decide)) (fun _ => ?_)
      refine ev_aload_n (pc' := 41) (i := 0) dX8_digest_40 rfl rfl rfl ?_
      refine ev_aload_n (pc' := 42) (i := 0) dX8_digest_41 rfl rfl rfl ?_
      refine ev_getR (pc' := 45) fo_X8_37 dX8_digest_42 rfl hs_115 rfl rf_115_13 ?_
      refine ev_bipush (pc' := 47) (v := 16) dX8_digest_45 rfl kb_16 ?_
      refine ev_iload_n (pc' := 48) (i := 1) dX8_digest_47 rfl rfl rfl ?_
      refine ev_imul (pc' := 49) (v := nI (16 * i5)) dX8_digest_48 rfl (pk_mul 16 i5) ?_
      refine ev_iconst (pc' := 50) (v := 4) dX8_digest_49 rfl ki_4 ?_
      refine ev_iload_n (pc' := 51) (i := 2) dX8_digest_50 rfl rfl rfl ?_
      refine ev_callS (pc' := 54) (rm' := rX8_rowOf) (av := [.int 7]) (rest := [.int 4, .int (nI (16 * i5)), .ref 123, .ref 115]) co_X8_201 cs_X8_rowOf dX8_digest_51 rfl rfl rfl (Nat.le_of_ble_eq_true rfl) ⟨(Nat.le_of_ble_eq_true rfl), (Nat.le_of_ble_eq_true rfl)⟩ ⟨(Nat.le_of_ble_eq_true rfl), (Nat.le_of_ble_eq_true rfl)⟩ ?_
      refine u_X8_rowOf 7 2 (by decide) ?_
      refine ev_imul (pc' := 55) (v := 8) dX8_digest_54 rfl (by decide) ?_
      refine ev_iadd (pc' := 56) (v := nI ((16 * i5) + 8)) dX8_digest_55 rfl (nI_add (16 * i5) 8) ?_
      refine ev_iload_n (pc' := 57) (i := 2) dX8_digest_56 rfl rfl rfl ?_
      refine ev_callS (pc' := 60) (rm' := rX8_columnOf) (av := [.int 7]) (rest := [.int (nI ((16 * i5) + 8)), .ref 123, .ref 115]) co_X8_204 cs_X8_columnOf dX8_digest_57 rfl rfl rfl (Nat.le_of_ble_eq_true rfl) ⟨(Nat.le_of_ble_eq_true rfl), (Nat.le_of_ble_eq_true rfl)⟩ ⟨(Nat.le_of_ble_eq_true rfl), (Nat.le_of_ble_eq_true rfl)⟩ ?_
      refine u_X8_columnOf 7 2 (by decide) ?_
      refine ev_iadd (pc' := 61) (v := nI (((16 * i5) + 8) + 2)) dX8_digest_60 rfl (nI_add ((16 * i5) + 8) 2) ?_
      refine ev_iald (pc' := 62) (j := ((16 * i5) + 8) + 2) (v := (I 123) (((16 * i5) + 8) + 2)) dX8_digest_61 rfl hs_123 rfl (by omega) (Nat.le_of_ble_eq_true rfl) rfl ?_
      refine ev_callV (pc' := 65) (rm' := rX8_mix) (b := 115) (av := [.int ((I 123) (((16 * i5) + 8) + 2))]) (rest := []) co_X8_389 ci_X8_mix cv_X8_mix dX8_digest_62 rfl hs_115 hb_X8 rfl rfl (Nat.le_of_ble_eq_true rfl) ⟨(Nat.le_of_ble_eq_true rfl), (Nat.le_of_ble_eq_true rfl)⟩ ⟨(Nat.le_of_ble_eq_true rfl), (Nat.le_of_ble_eq_true rfl)⟩ ?_
      refine t_X8_mix ((I 123) (((16 * i5) + 8) + 2)) ?_
      refine ev_eqL (L' := (ma_up K3 115 (ma_up (K3 115) 47 ((31 * ((31 * ((31 * ((31 * ((31 * ((31 * ((31 * ((31 * ((K3 115) 47)) + (Int32.toInt64 ((I 123) (((16 * i5) + 0) + 0))))) + (Int32.toInt64 ((I 123) (((16 * i5) + 0) + 1))))) + (Int32.toInt64 ((I 123) (((16 * i5) + 0) + 2))))) + (Int32.toInt64 ((I 123) (((16 * i5) + 0) + 3))))) + (Int32.toInt64 ((I 123) (((16 * i5) + 4) + 1))))) + (Int32.toInt64 ((I 123) (((16 * i5) + 4) + 2))))) + (Int32.toInt64 ((I 123) (((16 * i5) + 4) + 3))))) + (Int32.toInt64 ((I 123) (((16 * i5) + 8) + 2))))))) ((congrArg (ma_up _ 115) (ma_up_up _ _ _ _)).trans (ma_up_up _ _ _ _)) ?_
      refine ev_iinc (pc' := 68) (v := 8) (lv' := [some (.ref 115), some (.int (nI i5)), some (.int 8)]) dX8_digest_65 rfl rfl (by decide) (Nat.le_of_ble_eq_true rfl) rfl rfl ?_
      refine ev_goto (tgt := 34) dX8_digest_68 rfl ?_
      refine ev_iload_n (pc' := 35) (i := 2) dX8_digest_34 rfl rfl rfl ?_
      refine ev_bipush (pc' := 37) (v := 10) dX8_digest_35 rfl kb_10 ?_
      refine ev_icmp_ge (tgt := 71) (pc' := 40) dX8_digest_37 rfl rfl (fun h => absurd h (by decide)) (fun _ => ?_)
      refine ev_aload_n (pc' := 41) (i := 0) dX8_digest_40 rfl rfl rfl ?_
      refine ev_aload_n (pc' := 42) (i := 0) dX8_digest_41 rfl rfl rfl ?_
      refine ev_getR (pc' := 45) fo_X8_37 dX8_digest_42 rfl hs_115 rfl rf_115_13 ?_
      refine ev_bipush (pc' := 47) (v := 16) dX8_digest_45 rfl kb_16 ?_
      refine ev_iload_n (pc' := 48) (i := 1) dX8_digest_47 rfl rfl rfl ?_
      refine ev_imul (pc' := 49) (v := nI (16 * i5)) dX8_digest_48 rfl (pk_mul 16 i5) ?_
      refine ev_iconst (pc' := 50) (v := 4) dX8_digest_49 rfl ki_4 ?_
      refine ev_iload_n (pc' := 51) (i := 2) dX8_digest_50 rfl rfl rfl ?_
      refine ev_callS (pc' := 54) (rm' := rX8_rowOf) (av := [.int 8]) (rest := [.int 4, .int (nI (16 * i5)), .ref 123, .ref 115]) co_X8_201 cs_X8_rowOf dX8_digest_51 rfl rfl rfl (Nat.le_of_ble_eq_true rfl) ⟨(Nat.le_of_ble_eq_true rfl), (Nat.le_of_ble_eq_true rfl)⟩ ⟨(Nat.le_of_ble_eq_true rfl), (Nat.le_of_ble_eq_true rfl)⟩ ?_
      refine u_X8_rowOf 8 2 (by decide) ?_
      refine ev_imul (pc' := 55) (v := 8) dX8_digest_54 rfl (by decide) ?_
      refine ev_iadd (pc' := 56) (v := nI ((16 * i5) + 8)) dX8_digest_55 rfl (nI_add (16 * i5) 8) ?_
      refine ev_iload_n (pc' := 57) (i := 2) dX8_digest_56 rfl rfl rfl ?_
      refine ev_callS (pc' := 60) (rm' := rX8_columnOf) (av := [.int 8]) (rest := [.int (nI ((16 * i5) + 8)), .ref 123, .ref 115]) co_X8_204 cs_X8_columnOf dX8_digest_57 rfl rfl rfl (Nat.le_of_ble_eq_true rfl) ⟨(Nat.le_of_ble_eq_true rfl), (Nat.le_of_ble_eq_true rfl)⟩ ⟨(Nat.le_of_ble_eq_true rfl), (Nat.le_of_ble_eq_true rfl)⟩ ?_
      refine u_X8_columnOf 8 3 (by decide) ?_
      refine ev_iadd (pc' := 61) (v := nI (((16 * i5) + 8) + 3)) dX8_digest_60 rfl (nI_add ((16 * i5) + 8) 3) ?_
      refine ev_iald (pc' := 62) (j := ((16 * i5) + 8) + 3) (v := (I 123) (((16 * i5) + 8) + 3)) dX8_digest_61 rfl hs_123 rfl (by omega) (Nat.le_of_ble_eq_true rfl) rfl ?_
      refine ev_callV (pc' := 65) (rm' := rX8_mix) (b := 115) (av := [.int ((I 123) (((16 * i5) + 8) + 3))]) (rest := []) co_X8_389 ci_X8_mix cv_X8_mix dX8_digest_62 rfl hs_115 hb_X8 rfl rfl (Nat.le_of_ble_eq_true rfl) ⟨(Nat.le_of_ble_eq_true rfl), (Nat.le_of_ble_eq_true rfl)⟩ ⟨(Nat.le_of_ble_eq_true rfl), (Nat.le_of_ble_eq_true rfl)⟩ ?_
      refine t_X8_mix ((I 123) (((16 * i5) + 8) + 3)) ?_
      refine ev_eqL (L' := (ma_up K3 115 (ma_up (K3 115) 47 ((31 * ((31 * ((31 * ((31 * ((31 * ((31 * ((31 * ((31 * ((31 * ((K3 115) 47)) + (Int32.toInt64 ((I 123) (((16 * i5) + 0) + 0))))) + (Int32.toInt64 ((I 123) (((16 * i5) + 0) + 1))))) + (Int32.toInt64 ((I 123) (((16 * i5) + 0) + 2))))) + (Int32.toInt64 ((I 123) (((16 * i5) + 0) + 3))))) + (Int32.toInt64 ((I 123) (((16 * i5) + 4) + 1))))) + (Int32.toInt64 ((I 123) (((16 * i5) + 4) + 2))))) + (Int32.toInt64 ((I 123) (((16 * i5) + 4) + 3))))) + (Int32.toInt64 ((I 123) (((16 * i5) + 8) + 2))))) + (Int32.toInt64 ((I 123) (((16 * i5) + 8) + 3))))))) ((congrArg (ma_up _ 115) (ma_up_up _ _ _ _)).trans (ma_up_up _ _ _ _)) ?_
      refine ev_iinc (pc' := 68) (v := 9) (lv' := [some (.ref 115), some (.int (nI i5)), some (.int 9)]) dX8_digest_65 rfl rfl (by decide) (Nat.le_of_ble_eq_true rfl) rfl rfl ?_
      refine ev_goto (tgt := 34) dX8_digest_68 rfl ?_
      refine ev_iload_n (pc' := 35) (i := 2) dX8_digest_34 rfl rfl rfl ?_
      refine ev_bipush (pc' := 37) (v := 10) dX8_digest_35 rfl kb_10 ?_
      refine ev_icmp_ge (tgt := 71) (pc' := 40) dX8_digest_37 rfl rfl (fun h => absurd h (by decide)) (fun _ => ?_)
      refine ev_aload_n (pc' := 41) (i := 0) dX8_digest_40 rfl rfl rfl ?_
      refine ev_aload_n (pc' := 42) (i := 0) dX8_digest_41 rfl rfl rfl ?_
      refine ev_getR (pc' := 45) fo_X8_37 dX8_digest_42 rfl hs_115 rfl rf_115_13 ?_
      refine ev_bipush (pc' := 47) (v := 16) dX8_digest_45 rfl kb_16 ?_
      refine ev_iload_n (pc' := 48) (i := 1) dX8_digest_47 rfl rfl rfl ?_
      refine ev_imul (pc' := 49) (v := nI (16 * i5)) dX8_digest_48 rfl (pk_mul 16 i5) ?_
      refine ev_iconst (pc' := 50) (v := 4) dX8_digest_49 rfl ki_4 ?_
      refine ev_iload_n (pc' := 51) (i := 2) dX8_digest_50 rfl rfl rfl ?_
      refine ev_callS (pc' := 54) (rm' := rX8_rowOf) (av := [.int 9]) (rest := [.int 4, .int (nI (16 * i5)), .ref 123, .ref 115]) co_X8_201 cs_X8_rowOf dX8_digest_51 rfl rfl rfl (Nat.le_of_ble_eq_true rfl) ⟨(Nat.le_of_ble_eq_true rfl), (Nat.le_of_ble_eq_true rfl)⟩ ⟨(Nat.le_of_ble_eq_true rfl), (Nat.le_of_ble_eq_true rfl)⟩ ?_
      refine u_X8_rowOf 9 3 (by decide) ?_
      refine ev_imul (pc' := 55) (v := 12) dX8_digest_54 rfl (by decide) ?_
      refine ev_iadd (pc' := 56) (v := nI ((16 * i5) + 12)) dX8_digest_55 rfl (nI_add (16 * i5) 12) ?_
      refine ev_iload_n (pc' := 57) (i := 2) dX8_digest_56 rfl rfl rfl ?_
      refine ev_callS (pc' := 60) (rm' := rX8_columnOf) (av := [.int 9]) (rest := [.int (nI ((16 * i5) + 12)), .ref 123, .ref 115]) co_X8_204 cs_X8_columnOf dX8_digest_57 rfl rfl rfl (Nat.le_of_ble_eq_true rfl) ⟨(Nat.le_of_ble_eq_true rfl), (Nat.le_of_ble_eq_true rfl)⟩ ⟨(Nat.le_of_ble_eq_true rfl), (Nat.le_of_ble_eq_true rfl)⟩ ?_
      refine u_X8_columnOf 9 3 (by decide) ?_
      refine ev_iadd (pc' := 61) (v := nI (((16 * i5) + 12) + 3)) dX8_digest_60 rfl (nI_add ((16 * i5) + 12) 3) ?_
      refine ev_iald (pc' := 62) (j := ((16 * i5) + 12) + 3) (v := (I 123) (((16 * i5) + 12) + 3)) dX8_digest_61 rfl hs_123 rfl (by omega) (Nat.le_of_ble_eq_true rfl) rfl ?_
      refine ev_callV (pc' := 65) (rm' := rX8_mix) (b := 115) (av := [.int ((I 123) (((16 * i5) + 12) + 3))]) (rest := []) co_X8_389 ci_X8_mix cv_X8_mix dX8_digest_62 rfl hs_115 hb_X8 rfl rfl (Nat.le_of_ble_eq_true rfl) ⟨(Nat.le_of_ble_eq_true rfl), (Nat.le_of_ble_eq_true rfl)⟩ ⟨(Nat.le_of_ble_eq_true rfl), (Nat.le_of_ble_eq_true rfl)⟩ ?_
      refine t_X8_mix ((I 123) (((16 * i5) + 12) + 3)) ?_
      refine ev_eqL (L' := (ma_up K3 115 (ma_up (K3 115) 47 ((31 * ((31 * ((31 * ((31 * ((31 * ((31 * ((31 * ((31 * ((31 * ((31 * ((K3 115) 47)) + (Int32.toInt64 ((I 123) (((16 * i5) + 0) + 0))))) + (Int32.toInt64 ((I 123) (((16 * i5) + 0) + 1))))) + (Int32.toInt64 ((I 123) (((16 * i5) + 0) + 2))))) + (Int32.toInt64 ((I 123) (((16 * i5) + 0) + 3))))) + (Int32.toInt64 ((I 123) (((16 * i5) + 4) + 1))))) + (Int32.toInt64 ((I 123) (((16 * i5) + 4) + 2))))) + (Int32.toInt64 ((I 123) (((16 * i5) + 4) + 3))))) + (Int32.toInt64 ((I 123) (((16 * i5) + 8) + 2))))) + (Int32.toInt64 ((I 123) (((16 * i5) + 8) + 3))))) + (Int32.toInt64 ((I 123) (((16 * i5) + 12) + 3))))))) ((congrArg (ma_up _ 115) (ma_up_up _ _ _ _)).trans (ma_up_up _ _ _ _)) ?_
      refine ev_iinc (pc' := 68) (v := 10) (lv' := [some (.ref 115), some (.int (nI i5)), some (.int 10)]) dX8_digest_65 rfl rfl (by decide) (Nat.le_of_ble_eq_true rfl) rfl rfl ?_
      refine ev_goto (tgt := 34) dX8_digest_68 rfl ?_
      refine ev_iload_n (pc' := 35) (i := 2) dX8_digest_34 rfl rfl rfl ?_
      refine ev_bipush (pc' := 37) (v := 10) dX8_digest_35 rfl kb_10 ?_
      refine ev_icmp_ge (tgt := 71) (pc' := 40) dX8_digest_37 rfl rfl (fun _ => ?_) (fun h => absurd (by decide) h)
      refine ev_iconst (pc' := 72) (v := 0) dX8_digest_71 rfl ki_0 ?_
      refine ev_istore_n (pc' := 73) (i := 2) (lv' := [some (.ref 115), some (.int (nI i5)), some (.int 0)]) dX8_digest_72 rfl rfl (Nat.le_of_ble_eq_true rfl) rfl rfl ?_
      refine ev_iload_n (pc' := 74) (i := 2) dX8_digest_73 rfl rfl rfl ?_
      refine ev_bipush (pc' := 76) (v := 10) dX8_digest_74 rfl kb_10 ?_
      refine ev_icmp_ge (tgt := 100) (pc' := 79) dX8_digest_76 rfl rfl (fun h => absurd h (by decide)) (fun _ => ?_)
      refine ev_aload_n (pc' := 80) (i := 0) dX8_digest_79 rfl rfl rfl ?_
      refine ev_aload_n (pc' := 81) (i := 0) dX8_digest_80 rfl rfl rfl ?_
      refine ev_getR (pc' := 84) fo_X8_40 dX8_digest_81 rfl hs_115 rfl rf_115_14 ?_
      refine ev_bipush (pc' := 86) (v := 10) dX8_digest_84 rfl kb_10 ?_
      refine ev_iload_n (pc' := 87) (i := 1) dX8_digest_86 rfl rfl rfl ?_
      refine ev_imul (pc' := 88) (v := nI (10 * i5)) dX8_digest_87 rfl (pk_mul 10 i5) ?_
      refine ev_iload_n (pc' := 89) (i := 2) dX8_digest_88 rfl rfl rfl ?_
      refine ev_iadd (pc' := 90) (v := nI ((10 * i5) + 0)) dX8_digest_89 rfl (nI_add (10 * i5) 0) ?_
      refine ev_iald (pc' := 91) (j := (10 * i5) + 0) (v := (I 124) ((10 * i5) + 0)) dX8_digest_90 rfl hs_124 rfl (by omega) (Nat.le_of_ble_eq_true rfl) rfl ?_
      refine ev_callV (pc' := 94) (rm' := rX8_mix) (b := 115) (av := [.int ((I 124) ((10 * i5) + 0))]) (rest := []) co_X8_389 ci_X8_mix cv_X8_mix dX8_digest_91 rfl hs_115 hb_X8 rfl rfl (Nat.le_of_ble_eq_true rfl) ⟨(Nat.le_of_ble_eq_true rfl), (Nat.le_of_ble_eq_true rfl)⟩ ⟨(Nat.le_of_ble_eq_true rfl), (Nat.le_of_ble_eq_true rfl)⟩ ?_
      refine t_X8_mix ((I 124) ((10 * i5) + 0)) ?_
      refine ev_eqL (L' := (ma_up K3 115 (ma_up (K3 115) 47 ((31 * ((31 * ((31 * ((31 * ((31 * ((31 * ((31 * ((31 * ((31 * ((31 * ((31 * ((K3 115) 47)) + (Int32.toInt64 ((I 123) (((16 * i5) + 0) + 0))))) + (Int32.toInt64 ((I 123) (((16 * i5) + 0) + 1))))) + (Int32.toInt64 ((I 123) (((16 * i5) + 0) + 2))))) + (Int32.toInt64 ((I 123) (((16 * i5) + 0) + 3))))) + (Int32.toInt64 ((I 123) (((16 * i5) + 4) + 1))))) + (Int32.toInt64 ((I 123) (((16 * i5) + 4) + 2))))) + (Int32.toInt64 ((I 123) (((16 * i5) + 4) + 3))))) + (Int32.toInt64 ((I 123) (((16 * i5) + 8) + 2))))) + (Int32.toInt64 ((I 123) (((16 * i5) + 8) + 3))))) + (Int32.toInt64 ((I 123) (((16 * i5) + 12) + 3))))) + (Int32.toInt64 ((I 124) ((10 * i5) + 0))))))) ((congrArg (ma_up _ 115) (ma_up_up _ _ _ _)).trans (ma_up_up _ _ _ _)) ?_
      refine ev_iinc (pc' := 97) (v := 1) (lv' := [some (.ref 115), some (.int (nI i5)), some (.int 1)]) dX8_digest_94 rfl rfl (by decide) (Nat.le_of_ble_eq_true rfl) rfl rfl ?_
      refine ev_goto (tgt := 73) dX8_digest_97 rfl ?_
      refine ev_iload_n (pc' := 74) (i := 2) dX8_digest_73 rfl rfl rfl ?_
      refine ev_bipush (pc' := 76) (v := 10) dX8_digest_74 rfl kb_10 ?_
      refine ev_icmp_ge (tgt := 100) (pc' := 79) dX8_digest_76 rfl rfl (fun h => absurd h (by decide)) (fun _ => ?_)
      refine ev_aload_n (pc' := 80) (i := 0) dX8_digest_79 rfl rfl rfl ?_
      refine ev_aload_n (pc' := 81) (i := 0) dX8_digest_80 rfl rfl rfl ?_
      refine ev_getR (pc' := 84) fo_X8_40 dX8_digest_81 rfl hs_115 rfl rf_115_14 ?_
      refine ev_bipush (pc' := 86) (v := 10) dX8_digest_84 rfl kb_10 ?_
      refine ev_iload_n (pc' := 87) (i := 1) dX8_digest_86 rfl rfl rfl ?_
      refine ev_imul (pc' := 88) (v := nI (10 * i5)) dX8_digest_87 rfl (pk_mul 10 i5) ?_
      refine ev_iload_n (pc' := 89) (i := 2) dX8_digest_88 rfl rfl rfl ?_
      refine ev_iadd (pc' := 90) (v := nI ((10 * i5) + 1)) dX8_digest_89 rfl (nI_add (10 * i5) 1) ?_
      refine ev_iald (pc' := 91) (j := (10 * i5) + 1) (v := (I 124) ((10 * i5) + 1)) dX8_digest_90 rfl hs_124 rfl (by omega) (Nat.le_of_ble_eq_true rfl) rfl ?_
      refine ev_callV (pc' := 94) (rm' := rX8_mix) (b := 115) (av := [.int ((I 124) ((10 * i5) + 1))]) (rest := []) co_X8_389 ci_X8_mix cv_X8_mix dX8_digest_91 rfl hs_115 hb_X8 rfl rfl (Nat.le_of_ble_eq_true rfl) ⟨(Nat.le_of_ble_eq_true rfl), (Nat.le_of_ble_eq_true rfl)⟩ ⟨(Nat.le_of_ble_eq_true rfl), (Nat.le_of_ble_eq_true rfl)⟩ ?_
      refine t_X8_mix ((I 124) ((10 * i5) + 1)) ?_
      refine ev_eqL (L' := (ma_up K3 115 (ma_up (K3 115) 47 ((31 * ((31 * ((31 * ((31 * ((31 * ((31 * ((31 * ((31 * ((31 * ((31 * ((31 * ((31 * ((K3 115) 47)) + (Int32.toInt64 ((I 123) (((16 * i5) + 0) + 0))))) + (Int32.toInt64 ((I 123) (((16 * i5) + 0) + 1))))) + (Int32.toInt64 ((I 123) (((16 * i5) + 0) + 2))))) + (Int32.toInt64 ((I 123) (((16 * i5) + 0) + 3))))) + (Int32.toInt64 ((I 123) (((16 * i5) + 4) + 1))))) + (Int32.toInt64 ((I 123) (((16 * i5) + 4) + 2))))) + (Int32.toInt64 ((I 123) (((16 * i5) + 4) + 3))))) + (Int32.toInt64 ((I 123) (((16 * i5) + 8) + 2))))) + (Int32.toInt64 ((I 123) (((16 * i5) + 8) + 3))))) + (Int32.toInt64 ((I 123) (((16 * i5) + 12) + 3))))) + (Int32.toInt64 ((I 124) ((10 * i5) + 0))))) + (Int32.toInt64 ((I 124) ((10 * i5) + 1))))))) ((congrArg (ma_up _ 115) (ma_up_up _ _ _ _)).trans (ma_up_up _ _ _ _)) ?_
      refine ev_iinc (pc' := 97) (v := 2) (lv' := [some (.ref 115), some (.int (nI i5)), some (.int 2)]) dX8_digest_94 rfl rfl (by decide) (Nat.le_of_ble_eq_true rfl) rfl rfl ?_
      refine ev_goto (tgt := 73) dX8_digest_97 rfl ?_
      refine ev_iload_n (pc' := 74) (i := 2) dX8_digest_73 rfl rfl rfl ?_
      refine ev_bipush (pc' := 76) (v := 10) dX8_digest_74 rfl kb_10 ?_
      refine ev_icmp_ge (tgt := 100) (pc' := 79) dX8_digest_76 rfl rfl (fun h => absurd h (by decide)) (fun _ => ?_)
      refine ev_aload_n (pc' := 80) (i := 0) dX8_digest_79 rfl rfl rfl ?_
      refine ev_aload_n (pc' := 81) (i := 0) dX8_digest_80 rfl rfl rfl ?_
      refine ev_getR (pc' := 84) fo_X8_40 dX8_digest_81 rfl hs_115 rfl rf_115_14 ?_
      refine ev_bipush (pc' := 86) (v := 10) dX8_digest_84 rfl kb_10 ?_
      refine ev_iload_n (pc' := 87) (i := 1) dX8_digest_86 rfl rfl rfl ?_
      refine ev_imul (pc' := 88) (v := nI (10 * i5)) dX8_digest_87 rfl (pk_mul 10 i5) ?_
      refine ev_iload_n (pc' := 89) (i := 2) dX8_digest_88 rfl rfl rfl ?_
      refine ev_iadd (pc' := 90) (v := nI ((10 * i5) + 2)) dX8_digest_89 rfl (nI_add (10 * i5) 2) ?_
      refine ev_iald (pc' := 91) (j := (10 * i5) + 2) (v := (I 124) ((10 * i5) + 2)) dX8_digest_90 rfl hs_124 rfl (by omega) (Nat.le_of_ble_eq_true rfl) rfl ?_
      refine ev_callV (pc' := 94) (rm' := rX8_mix) (b := 115) (av := [.int ((I 124) ((10 * i5) + 2))]) (rest := []) co_X8_389 ci_X8_mix cv_X8_mix dX8_digest_91 rfl hs_115 hb_X8 rfl rfl (Nat.le_of_ble_eq_true rfl) ⟨(Nat.le_of_ble_eq_true rfl), (Nat.le_of_ble_eq_true rfl)⟩ ⟨(Nat.le_of_ble_eq_true rfl), (Nat.le_of_ble_eq_true rfl)⟩ ?_
      refine t_X8_mix ((I 124) ((10 * i5) + 2)) ?_
      refine ev_eqL (L' := (ma_up K3 115 (ma_up (K3 115) 47 ((31 * ((31 * ((31 * ((31 * ((31 * ((31 * ((31 * ((31 * ((31 * ((31 * ((31 * ((31 * ((31 * ((K3 115) 47)) + (Int32.toInt64 ((I 123) (((16 * i5) + 0) + 0))))) + (Int32.toInt64 ((I 123) (((16 * i5) + 0) + 1))))) + (Int32.toInt64 ((I 123) (((16 * i5) + 0) + 2))))) + (Int32.toInt64 ((I 123) (((16 * i5) + 0) + 3))))) + (Int32.toInt64 ((I 123) (((16 * i5) + 4) + 1))))) + (Int32.toInt64 ((I 123) (((16 * i5) + 4) + 2))))) + (Int32.toInt64 ((I 123) (((16 * i5) + 4) + 3))))) + (Int32.toInt64 ((I 123) (((16 * i5) + 8) + 2))))) + (Int32.toInt64 ((I 123) (((16 * i5) + 8) + 3))))) + (Int32.toInt64 ((I 123) (((16 * i5) + 12) + 3))))) + (Int32.toInt64 ((I 124) ((10 * i5) + 0))))) + (Int32.toInt64 ((I 124) ((10 * i5) + 1))))) + (Int32.toInt64 ((I 124) ((10 * i5) + 2))))))) ((congrArg (ma_up _ 115) (ma_up_up _ _ _ _)).trans (ma_up_up _ _ _ _)) ?_
      refine ev_iinc (pc' := 97) (v := 3) (lv' := [some (.ref 115), some (.int (nI i5)), some (.int 3)]) dX8_digest_94 rfl rfl (by decide) (Nat.le_of_ble_eq_true rfl) rfl rfl ?_
      refine ev_goto (tgt := 73) dX8_digest_97 rfl ?_
      refine ev_iload_n (pc' := 74) (i := 2) dX8_digest_73 rfl rfl rfl ?_
      refine ev_bipush (pc' := 76) (v := 10) dX8_digest_74 rfl kb_10 ?_
      refine ev_icmp_ge (tgt := 100) (pc' := 79) dX8_digest_76 rfl rfl (fun h => absurd h (by decide)) (fun _ => ?_)
      refine ev_aload_n (pc' := 80) (i := 0) dX8_digest_79 rfl rfl rfl ?_
      refine ev_aload_n (pc' := 81) (i := 0) dX8_digest_80 rfl rfl rfl ?_
      refine ev_getR (pc' := 84) fo_X8_40 dX8_digest_81 rfl hs_115 rfl rf_115_14 ?_
      refine ev_bipush (pc' := 86) (v := 10) dX8_digest_84 rfl kb_10 ?_
      refine ev_iload_n (pc' := 87) (i := 1) dX8_digest_86 rfl rfl rfl ?_
      refine ev_imul (pc' := 88) (v := nI (10 * i5)) dX8_digest_87 rfl (pk_mul 10 i5) ?_
      refine ev_iload_n (pc' := 89) (i := 2) dX8_digest_88 rfl rfl rfl ?_
      refine ev_iadd (pc' := 90) (v := nI ((10 * i5) + 3)) dX8_digest_89 rfl (nI_add (10 * i5) 3) ?_
      refine ev_iald (pc' := 91) (j := (10 * i5) + 3) (v := (I 124) ((10 * i5) + 3)) dX8_digest_90 rfl hs_124 rfl (by omega) (Nat.le_of_ble_eq_true rfl) rfl ?_
      refine ev_callV (pc' := 94) (rm' := rX8_mix) (b := 115) (av := [.int ((I 124) ((10 * i5) + 3))]) (rest := []) co_X8_389 ci_X8_mix cv_X8_mix dX8_digest_91 rfl hs_115 hb_X8 rfl rfl (Nat.le_of_ble_eq_true rfl) ⟨(Nat.le_of_ble_eq_true rfl), (Nat.le_of_ble_eq_true rfl)⟩ ⟨(Nat.le_of_ble_eq_true rfl), (Nat.le_of_ble_eq_true rfl)⟩ ?_
      refine t_X8_mix ((I 124) ((10 * i5) + 3)) ?_
      refine ev_eqL (L' := (ma_up K3 115 (ma_up (K3 115) 47 ((31 * ((31 * ((31 * ((31 * ((31 * ((31 * ((31 * ((31 * ((31 * ((31 * ((31 * ((31 * ((31 * ((31 * ((K3 115) 47)) + (Int32.toInt64 ((I 123) (((16 * i5) + 0) + 0))))) + (Int32.toInt64 ((I 123) (((16 * i5) + 0) + 1))))) + (Int32.toInt64 ((I 123) (((16 * i5) + 0) + 2))))) + (Int32.toInt64 ((I 123) (((16 * i5) + 0) + 3))))) + (Int32.toInt64 ((I 123) (((16 * i5) + 4) + 1))))) + (Int32.toInt64 ((I 123) (((16 * i5) + 4) + 2))))) + (Int32.toInt64 ((I 123) (((16 * i5) + 4) + 3))))) + (Int32.toInt64 ((I 123) (((16 * i5) + 8) + 2))))) + (Int32.toInt64 ((I 123) (((16 * i5) + 8) + 3))))) + (Int32.toInt64 ((I 123) (((16 * i5) + 12) + 3))))) + (Int32.toInt64 ((I 124) ((10 * i5) + 0))))) + (Int32.toInt64 ((I 124) ((10 * i5) + 1))))) + (Int32.toInt64 ((I 124) ((10 * i5) + 2))))) + (Int32.toInt64 ((I 124) ((10 * i5) + 3))))))) ((congrArg (ma_up _ 115) (ma_up_up _ _ _ _)).trans (ma_up_up _ _ _ _)) ?_
      refine ev_iinc (pc' := 97) (v := 4) (lv' := [some (.ref 115), some (.int (nI i5)), some (.int 4)]) dX8_digest_94 rfl rfl (by decide) (Nat.le_of_ble_eq_true rfl) rfl rfl ?_
      refine ev_goto (tgt := 73) dX8_digest_97 rfl ?_
      refine ev_iload_n (pc' := 74) (i := 2) dX8_digest_73 rfl rfl rfl ?_
      refine ev_bipush (pc' := 76) (v := 10) dX8_digest_74 rfl kb_10 ?_
      refine ev_icmp_ge (tgt := 100) (pc' := 79) dX8_digest_76 rfl rfl (fun h => absurd h (by decide)) (fun _ => ?_)
      refine ev_aload_n (pc' := 80) (i := 0) dX8_digest_79 rfl rfl rfl ?_
      refine ev_aload_n (pc' := 81) (i := 0) dX8_digest_80 rfl rfl rfl ?_
      refine ev_getR (pc' := 84) fo_X8_40 dX8_digest_81 rfl hs_115 rfl rf_115_14 ?_
      refine ev_bipush (pc' := 86) (v := 10) dX8_digest_84 rfl kb_10 ?_
      refine ev_iload_n (pc' := 87) (i := 1) dX8_digest_86 rfl rfl rfl ?_
      refine ev_imul (pc' := 88) (v := nI (10 * i5)) dX8_digest_87 rfl (pk_mul 10 i5) ?_
      refine ev_iload_n (pc' := 89) (i := 2) dX8_digest_88 rfl rfl rfl ?_
      refine ev_iadd (pc' := 90) (v := nI ((10 * i5) + 4)) dX8_digest_89 rfl (nI_add (10 * i5) 4) ?_
      refine ev_iald (pc' := 91) (j := (10 * i5) + 4) (v := (I 124) ((10 * i5) + 4)) dX8_digest_90 rfl hs_124 rfl (by omega) (Nat.le_of_ble_eq_true rfl) rfl ?_
      refine ev_callV (pc' := 94) (rm' := rX8_mix) (b := 115) (av := [.int ((I 124) ((10 * i5) + 4))]) (rest := []) co_X8_389 ci_X8_mix cv_X8_mix dX8_digest_91 rfl hs_115 hb_X8 rfl rfl (Nat.le_of_ble_eq_true rfl) ⟨(Nat.le_of_ble_eq_true rfl), (Nat.le_of_ble_eq_true rfl)⟩ ⟨(Nat.le_of_ble_eq_true rfl), (Nat.le_of_ble_eq_true rfl)⟩ ?_
      refine t_X8_mix ((I 124) ((10 * i5) + 4)) ?_
      refine ev_eqL (L' := (ma_up K3 115 (ma_up (K3 115) 47 ((31 * ((31 * ((31 * ((31 * ((31 * ((31 * ((31 * ((31 * ((31 * ((31 * ((31 * ((31 * ((31 * ((31 * ((31 * ((K3 115) 47)) + (Int32.toInt64 ((I 123) (((16 * i5) + 0) + 0))))) + (Int32.toInt64 ((I 123) (((16 * i5) + 0) + 1))))) + (Int32.toInt64 ((I 123) (((16 * i5) + 0) + 2))))) + (Int32.toInt64 ((I 123) (((16 * i5) + 0) + 3))))) + (Int32.toInt64 ((I 123) (((16 * i5) + 4) + 1))))) + (Int32.toInt64 ((I 123) (((16 * i5) + 4) + 2))))) + (Int32.toInt64 ((I 123) (((16 * i5) + 4) + 3))))) + (Int32.toInt64 ((I 123) (((16 * i5) + 8) + 2))))) + (Int32.toInt64 ((I 123) (((16 * i5) + 8) + 3))))) + (Int32.toInt64 ((I 123) (((16 * i5) + 12) + 3))))) + (Int32.toInt64 ((I 124) ((10 * i5) + 0))))) + (Int32.toInt64 ((I 124) ((10 * i5) + 1))))) + (Int32.toInt64 ((I 124) ((10 * i5) + 2))))) + (Int32.toInt64 ((I 124) ((10 * i5) + 3))))) + (Int32.toInt64 ((I 124) ((10 * i5) + 4))))))) ((congrArg (ma_up _ 115) (ma_up_up _ _ _ _)).trans (ma_up_up _ _ _ _)) ?_
      refine ev_iinc (pc' := 97) (v := 5) (lv' := [some (.ref 115), some (.int (nI i5)), some (.int 5)]) dX8_digest_94 rfl rfl (by decide) (Nat.le_of_ble_eq_true rfl) rfl rfl ?_
      refine ev_goto (tgt := 73) dX8_digest_97 rfl ?_
      refine ev_iload_n (pc' := 74) (i := 2) dX8_digest_73 rfl rfl rfl ?_
      refine ev_bipush (pc' := 76) (v := 10) dX8_digest_74 rfl kb_10 ?_
      refine ev_icmp_ge (tgt := 100) (pc' := 79) dX8_digest_76 rfl rfl (fun h => absurd h (by decide)) (fun _ => ?_)
      refine ev_aload_n (pc' := 80) (i := 0) dX8_digest_79 rfl rfl rfl ?_
      refine ev_aload_n (pc' := 81) (i := 0) dX8_digest_80 rfl rfl rfl ?_
      refine ev_getR (pc' := 84) fo_X8_40 dX8_digest_81 rfl hs_115 rfl rf_115_14 ?_
      refine ev_bipush (pc' := 86) (v := 10) dX8_digest_84 rfl kb_10 ?_
      refine ev_iload_n (pc' := 87) (i := 1) dX8_digest_86 rfl rfl rfl ?_
      refine ev_imul (pc' := 88) (v := nI (10 * i5)) dX8_digest_87 rfl (pk_mul 10 i5) ?_
      refine ev_iload_n (pc' := 89) (i := 2) dX8_digest_88 rfl rfl rfl ?_
      refine ev_iadd (pc' := 90) (v := nI ((10 * i5) + 5)) dX8_digest_89 rfl (nI_add (10 * i5) 5) ?_
      refine ev_iald (pc' := 91) (j := (10 * i5) + 5) (v := (I 124) ((10 * i5) + 5)) dX8_digest_90 rfl hs_124 rfl (by omega) (Nat.le_of_ble_eq_true rfl) rfl ?_
      refine ev_callV (pc' := 94) (rm' := rX8_mix) (b := 115) (av := [.int ((I 124) ((10 * i5) + 5))]) (rest := []) co_X8_389 ci_X8_mix cv_X8_mix dX8_digest_91 rfl hs_115 hb_X8 rfl rfl (Nat.le_of_ble_eq_true rfl) ⟨(Nat.le_of_ble_eq_true rfl), (Nat.le_of_ble_eq_true rfl)⟩ ⟨(Nat.le_of_ble_eq_true rfl), (Nat.le_of_ble_eq_true rfl)⟩ ?_
      refine t_X8_mix ((I 124) ((10 * i5) + 5)) ?_
      refine ev_eqL (L' := (ma_up K3 115 (ma_up (K3 115) 47 ((31 * ((31 * ((31 * ((31 * ((31 * ((31 * ((31 * ((31 * ((31 * ((31 * ((31 * ((31 * ((31 * ((31 * ((31 * ((31 * ((K3 115) 47)) + (Int32.toInt64 ((I 123) (((16 * i5) + 0) + 0))))) + (Int32.toInt64 ((I 123) (((16 * i5) + 0) + 1))))) + (Int32.toInt64 ((I 123) (((16 * i5) + 0) + 2))))) + (Int32.toInt64 ((I 123) (((16 * i5) + 0) + 3))))) + (Int32.toInt64 ((I 123) (((16 * i5) + 4) + 1))))) + (Int32.toInt64 ((I 123) (((16 * i5) + 4) + 2))))) + (Int32.toInt64 ((I 123) (((16 * i5) + 4) + 3))))) + (Int32.toInt64 ((I 123) (((16 * i5) + 8) + 2))))) + (Int32.toInt64 ((I 123) (((16 * i5) + 8) + 3))))) + (Int32.toInt64 ((I 123) (((16 * i5) + 12) + 3))))) + (Int32.toInt64 ((I 124) ((10 * i5) + 0))))) + (Int32.toInt64 ((I 124) ((10 * i5) + 1))))) + (Int32.toInt64 ((I 124) ((10 * i5) + 2))))) + (Int32.toInt64 ((I 124) ((10 * i5) + 3))))) + (Int32.toInt64 ((I 124) ((10 * i5) + 4))))) + (Int32.toInt64 ((I 124) ((10 * i5) + 5))))))) ((congrArg (ma_up _ 115) (ma_up_up _ _ _ _)).trans (ma_up_up _ _ _ _)) ?_
      refine ev_iinc (pc' := 97) (v := 6) (lv' := [some (.ref 115), some (.int (nI i5)), some (.int 6)]) dX8_digest_94 rfl rfl (by decide) (Nat.le_of_ble_eq_true rfl) rfl rfl ?_
      refine ev_goto (tgt := 73) dX8_digest_97 rfl ?_
      refine ev_iload_n (pc' := 74) (i := 2) dX8_digest_73 rfl rfl rfl ?_
      refine ev_bipush (pc' := 76) (v := 10) dX8_digest_74 rfl kb_10 ?_
      refine ev_icmp_ge (tgt := 100) (pc' := 79) dX8_digest_76 rfl rfl (fun h => absurd h (by decide)) (fun _ => ?_)
      refine ev_aload_n (pc' := 80) (i := 0) dX8_digest_79 rfl rfl rfl ?_
      refine ev_aload_n (pc' := 81) (i := 0) dX8_digest_80 rfl rfl rfl ?_
      refine ev_getR (pc' := 84) fo_X8_40 dX8_digest_81 rfl hs_115 rfl rf_115_14 ?_
      refine ev_bipush (pc' := 86) (v := 10) dX8_digest_84 rfl kb_10 ?_
      refine ev_iload_n (pc' := 87) (i := 1) dX8_digest_86 rfl rfl rfl ?_
      refine ev_imul (pc' := 88) (v := nI (10 * i5)) dX8_digest_87 rfl (pk_mul 10 i5) ?_
      refine ev_iload_n (pc' := 89) (i := 2) dX8_digest_88 rfl rfl rfl ?_
      refine ev_iadd (pc' := 90) (v := nI ((10 * i5) + 6)) dX8_digest_89 rfl (nI_add (10 * i5) 6) ?_
      refine ev_iald (pc' := 91) (j := (10 * i5) + 6) (v := (I 124) ((10 * i5) + 6)) dX8_digest_90 rfl hs_124 rfl (by omega) (Nat.le_of_ble_eq_true rfl) rfl ?_
      refine ev_callV (pc' := 94) (rm' := rX8_mix) (b := 115) (av := [.int ((I 124) ((10 * i5) + 6))]) (rest := []) co_X8_389 ci_X8_mix cv_X8_mix dX8_digest_91 rfl hs_115 hb_X8 rfl rfl (Nat.le_of_ble_eq_true rfl) ⟨(Nat.le_of_ble_eq_true rfl), (Nat.le_of_ble_eq_true rfl)⟩ ⟨(Nat.le_of_ble_eq_true rfl), (Nat.le_of_ble_eq_true rfl)⟩ ?_
      refine t_X8_mix ((I 124) ((10 * i5) + 6)) ?_
      refine ev_eqL (L' := (ma_up K3 115 (ma_up (K3 115) 47 ((31 * ((31 * ((31 * ((31 * ((31 * ((31 * ((31 * ((31 * ((31 * ((31 * ((31 * ((31 * ((31 * ((31 * ((31 * ((31 * ((31 * ((K3 115) 47)) + (Int32.toInt64 ((I 123) (((16 * i5) + 0) + 0))))) + (Int32.toInt64 ((I 123) (((16 * i5) + 0) + 1))))) + (Int32.toInt64 ((I 123) (((16 * i5) + 0) + 2))))) + (Int32.toInt64 ((I 123) (((16 * i5) + 0) + 3))))) + (Int32.toInt64 ((I 123) (((16 * i5) + 4) + 1))))) + (Int32.toInt64 ((I 123) (((16 * i5) + 4) + 2))))) + (Int32.toInt64 ((I 123) (((16 * i5) + 4) + 3))))) + (Int32.toInt64 ((I 123) (((16 * i5) + 8) + 2))))) + (Int32.toInt64 ((I 123) (((16 * i5) + 8) + 3))))) + (Int32.toInt64 ((I 123) (((16 * i5) + 12) + 3))))) + (Int32.toInt64 ((I 124) ((10 * i5) + 0))))) + (Int32.toInt64 ((I 124) ((10 * i5) + 1))))) + (Int32.toInt64 ((I 124) ((10 * i5) + 2))))) + (Int32.toInt64 ((I 124) ((10 * i5) + 3))))) + (Int32.toInt64 ((I 124) ((10 * i5) + 4))))) + (Int32.toInt64 ((I 124) ((10 * i5) + 5))))) + (Int32.toInt64 ((I 124) ((10 * i5) + 6))))))) ((congrArg (ma_up _ 115) (ma_up_up _ _ _ _)).trans (ma_up_up _ _ _ _)) ?_
      refine ev_iinc (pc' := 97) (v := 7) (lv' := [some (.ref 115), some (.int (nI i5)), some (.int 7)]) dX8_digest_94 rfl rfl (by decide) (Nat.le_of_ble_eq_true rfl) rfl rfl ?_
      refine ev_goto (tgt := 73) dX8_digest_97 rfl ?_
      refine ev_iload_n (pc' := 74) (i := 2) dX8_digest_73 rfl rfl rfl ?_
      refine ev_bipush (pc' := 76) (v := 10) dX8_digest_74 rfl kb_10 ?_
      refine ev_icmp_ge (tgt := 100) (pc' := 79) dX8_digest_76 rfl rfl (fun h => absurd h (by decide)) (fun _ => ?_)
      refine ev_aload_n (pc' := 80) (i := 0) dX8_digest_79 rfl rfl rfl ?_
      refine ev_aload_n (pc' := 81) (i := 0) dX8_digest_80 rfl rfl rfl ?_
      refine ev_getR (pc' := 84) fo_X8_40 dX8_digest_81 rfl hs_115 rfl rf_115_14 ?_
      refine ev_bipush (pc' := 86) (v := 10) dX8_digest_84 rfl kb_10 ?_
      refine ev_iload_n (pc' := 87) (i := 1) dX8_digest_86 rfl rfl rfl ?_
      refine ev_imul (pc' := 88) (v := nI (10 * i5)) dX8_digest_87 rfl (pk_mul 10 i5) ?_
      refine ev_iload_n (pc' := 89) (i := 2) dX8_digest_88 rfl rfl rfl ?_
      refine ev_iadd (pc' := 90) (v := nI ((10 * i5) + 7)) dX8_digest_89 rfl (nI_add (10 * i5) 7) ?_
      refine ev_iald (pc' := 91) (j := (10 * i5) + 7) (v := (I 124) ((10 * i5) + 7)) dX8_digest_90 rfl hs_124 rfl (by omega) (Nat.le_of_ble_eq_true rfl) rfl ?_
      refine ev_callV (pc' := 94) (rm' := rX8_mix) (b := 115) (av := [.int ((I 124) ((10 * i5) + 7))]) (rest := []) co_X8_389 ci_X8_mix cv_X8_mix dX8_digest_91 rfl hs_115 hb_X8 rfl rfl (Nat.le_of_ble_eq_true rfl) ⟨(Nat.le_of_ble_eq_true rfl), (Nat.le_of_ble_eq_true rfl)⟩ ⟨(Nat.le_of_ble_eq_true rfl), (Nat.le_of_ble_eq_true rfl)⟩ ?_
      refine t_X8_mix ((I 124) ((10 * i5) + 7)) ?_
      refine ev_eqL (L' := (ma_up K3 115 (ma_up (K3 115) 47 ((31 * ((31 * ((31 * ((31 * ((31 * ((31 * ((31 * ((31 * ((31 * ((31 * ((31 * ((31 * ((31 * ((31 * ((31 * ((31 * ((31 * ((31 * ((K3 115) 47)) + (Int32.toInt64 ((I 123) (((16 * i5) + 0) + 0))))) + (Int32.toInt64 ((I 123) (((16 * i5) + 0) + 1))))) + (Int32.toInt64 ((I 123) (((16 * i5) + 0) + 2))))) + (Int32.toInt64 ((I 123) (((16 * i5) + 0) + 3))))) + (Int32.toInt64 ((I 123) (((16 * i5) + 4) + 1))))) + (Int32.toInt64 ((I 123) (((16 * i5) + 4) + 2))))) + (Int32.toInt64 ((I 123) (((16 * i5) + 4) + 3))))) + (Int32.toInt64 ((I 123) (((16 * i5) + 8) + 2))))) + (Int32.toInt64 ((I 123) (((16 * i5) + 8) + 3))))) + (Int32.toInt64 ((I 123) (((16 * i5) + 12) + 3))))) + (Int32.toInt64 ((I 124) ((10 * i5) + 0))))) + (Int32.toInt64 ((I 124) ((10 * i5) + 1))))) + (Int32.toInt64 ((I 124) ((10 * i5) + 2))))) + (Int32.toInt64 ((I 124) ((10 * i5) + 3))))) + (Int32.toInt64 ((I 124) ((10 * i5) + 4))))) + (Int32.toInt64 ((I 124) ((10 * i5) + 5))))) + (Int32.toInt64 ((I 124) ((10 * i5) + 6))))) + (Int32.toInt64 ((I 124) ((10 * i5) + 7))))))) ((congrArg (ma_up _ 115) (ma_up_up _ _ _ _)).trans (ma_up_up _ _ _ _)) ?_
      refine ev_iinc (pc' := 97) (v := 8) (lv' := [some (.ref 115), some (.int (nI i5)), some (.int 8)]) dX8_digest_94 rfl rfl (by decide) (Nat.le_of_ble_eq_true rfl) rfl rfl ?_
      refine ev_goto (tgt := 73) dX8_digest_97 rfl ?_
      refine ev_iload_n (pc' := 74) (i := 2) dX8_digest_73 rfl rfl rfl ?_
      refine ev_bipush (pc' := 76) (v := 10) dX8_digest_74 rfl kb_10 ?_
      refine ev_icmp_ge (tgt := 100) (pc' := 79) dX8_digest_76 rfl rfl (fun h => absurd h (by decide)) (fun _ => ?_)
      refine ev_aload_n (pc' := 80) (i := 0) dX8_digest_79 rfl rfl rfl ?_
      refine ev_aload_n (pc' := 81) (i := 0) dX8_digest_80 rfl rfl rfl ?_
      refine ev_getR (pc' := 84) fo_X8_40 dX8_digest_81 rfl hs_115 rfl rf_115_14 ?_
      refine ev_bipush (pc' := 86) (v := 10) dX8_digest_84 rfl kb_10 ?_
      refine ev_iload_n (pc' := 87) (i := 1) dX8_digest_86 rfl rfl rfl ?_
      refine ev_imul (pc' := 88) (v := nI (10 * i5)) dX8_digest_87 rfl (pk_mul 10 i5) ?_
      refine ev_iload_n (pc' := 89) (i := 2) dX8_digest_88 rfl rfl rfl ?_
      refine ev_iadd (pc' := 90) (v := nI ((10 * i5) + 8)) dX8_digest_89 rfl (nI_add (10 * i5) 8) ?_
      refine ev_iald (pc' := 91) (j := (10 * i5) + 8) (v := (I 124) ((10 * i5) + 8)) dX8_digest_90 rfl hs_124 rfl (by omega) (Nat.le_of_ble_eq_true rfl) rfl ?_
      refine ev_callV (pc' := 94) (rm' := rX8_mix) (b := 115) (av := [.int ((I 124) ((10 * i5) + 8))]) (rest := []) co_X8_389 ci_X8_mix cv_X8_mix dX8_digest_91 rfl hs_115 hb_X8 rfl rfl (Nat.le_of_ble_eq_true rfl) ⟨(Nat.le_of_ble_eq_true rfl), (Nat.le_of_ble_eq_true rfl)⟩ ⟨(Nat.le_of_ble_eq_true rfl), (Nat.le_of_ble_eq_true rfl)⟩ ?_
      refine t_X8_mix ((I 124) ((10 * i5) + 8)) ?_
      refine ev_eqL (L' := (ma_up K3 115 (ma_up (K3 115) 47 ((31 * ((31 * ((31 * ((31 * ((31 * ((31 * ((31 * ((31 * ((31 * ((31 * ((31 * ((31 * ((31 * ((31 * ((31 * ((31 * ((31 * ((31 * ((31 * ((K3 115) 47)) + (Int32.toInt64 ((I 123) (((16 * i5) + 0) + 0))))) + (Int32.toInt64 ((I 123) (((16 * i5) + 0) + 1))))) + (Int32.toInt64 ((I 123) (((16 * i5) + 0) + 2))))) + (Int32.toInt64 ((I 123) (((16 * i5) + 0) + 3))))) + (Int32.toInt64 ((I 123) (((16 * i5) + 4) + 1))))) + (Int32.toInt64 ((I 123) (((16 * i5) + 4) + 2))))) + (Int32.toInt64 ((I 123) (((16 * i5) + 4) + 3))))) + (Int32.toInt64 ((I 123) (((16 * i5) + 8) + 2))))) + (Int32.toInt64 ((I 123) (((16 * i5) + 8) + 3))))) + (Int32.toInt64 ((I 123) (((16 * i5) + 12) + 3))))) + (Int32.toInt64 ((I 124) ((10 * i5) + 0))))) + (Int32.toInt64 ((I 124) ((10 * i5) + 1))))) + (Int32.toInt64 ((I 124) ((10 * i5) + 2))))) + (Int32.toInt64 ((I 124) ((10 * i5) + 3))))) + (Int32.toInt64 ((I 124) ((10 * i5) + 4))))) + (Int32.toInt64 ((I 124) ((10 * i5) + 5))))) + (Int32.toInt64 ((I 124) ((10 * i5) + 6))))) + (Int32.toInt64 ((I 124) ((10 * i5) + 7))))) + (Int32.toInt64 ((I 124) ((10 * i5) + 8))))))) ((congrArg (ma_up _ 115) (ma_up_up _ _ _ _)).trans (ma_up_up _ _ _ _)) ?_
      refine ev_iinc (pc' := 97) (v := 9) (lv' := [some (.ref 115), some (.int (nI i5)), some (.int 9)]) dX8_digest_94 rfl rfl (by decide) (Nat.le_of_ble_eq_true rfl) rfl rfl ?_
      refine ev_goto (tgt := 73) dX8_digest_97 rfl ?_
      refine ev_iload_n (pc' := 74) (i := 2) dX8_digest_73 rfl rfl rfl ?_
      refine ev_bipush (pc' := 76) (v := 10) dX8_digest_74 rfl kb_10 ?_
      refine ev_icmp_ge (tgt := 100) (pc' := 79) dX8_digest_76 rfl rfl (fun h => absurd h (by decide)) (fun _ => ?_)
      refine ev_aload_n (pc' := 80) (i := 0) dX8_digest_79 rfl rfl rfl ?_
      refine ev_aload_n (pc' := 81) (i := 0) dX8_digest_80 rfl rfl rfl ?_
      refine ev_getR (pc' := 84) fo_X8_40 dX8_digest_81 rfl hs_115 rfl rf_115_14 ?_
      refine ev_bipush (pc' := 86) (v := 10) dX8_digest_84 rfl kb_10 ?_
      refine ev_iload_n (pc' := 87) (i := 1) dX8_digest_86 rfl rfl rfl ?_
      refine ev_imul (pc' := 88) (v := nI (10 * i5)) dX8_digest_87 rfl (pk_mul 10 i5) ?_
      refine ev_iload_n (pc' := 89) (i := 2) dX8_digest_88 rfl rfl rfl ?_
      refine ev_iadd (pc' := 90) (v := nI ((10 * i5) + 9)) dX8_digest_89 rfl (nI_add (10 * i5) 9) ?_
      refine ev_iald (pc' := 91) (j := (10 * i5) + 9) (v := (I 124) ((10 * i5) + 9)) dX8_digest_90 rfl hs_124 rfl (by omega) (Nat.le_of_ble_eq_true rfl) rfl ?_
      refine ev_callV (pc' := 94) (rm' := rX8_mix) (b := 115) (av := [.int ((I 124) ((10 * i5) + 9))]) (rest := []) co_X8_389 ci_X8_mix cv_X8_mix dX8_digest_91 rfl hs_115 hb_X8 rfl rfl (Nat.le_of_ble_eq_true rfl) ⟨(Nat.le_of_ble_eq_true rfl), (Nat.le_of_ble_eq_true rfl)⟩ ⟨(Nat.le_of_ble_eq_true rfl), (Nat.le_of_ble_eq_true rfl)⟩ ?_
      refine t_X8_mix ((I 124) ((10 * i5) + 9)) ?_
      refine ev_eqL (L' := (ma_up K3 115 (ma_up (K3 115) 47 ((31 * ((31 * ((31 * ((31 * ((31 * ((31 * ((31 * ((31 * ((31 * ((31 * ((31 * ((31 * ((31 * ((31 * ((31 * ((31 * ((31 * ((31 * ((31 * ((31 * ((K3 115) 47)) + (Int32.toInt64 ((I 123) (((16 * i5) + 0) + 0))))) + (Int32.toInt64 ((I 123) (((16 * i5) + 0) + 1))))) + (Int32.toInt64 ((I 123) (((16 * i5) + 0) + 2))))) + (Int32.toInt64 ((I 123) (((16 * i5) + 0) + 3))))) + (Int32.toInt64 ((I 123) (((16 * i5) + 4) + 1))))) + (Int32.toInt64 ((I 123) (((16 * i5) + 4) + 2))))) + (Int32.toInt64 ((I 123) (((16 * i5) + 4) + 3))))) + (Int32.toInt64 ((I 123) (((16 * i5) + 8) + 2))))) + (Int32.toInt64 ((I 123) (((16 * i5) + 8) + 3))))) + (Int32.toInt64 ((I 123) (((16 * i5) + 12) + 3))))) + (Int32.toInt64 ((I 124) ((10 * i5) + 0))))) + (Int32.toInt64 ((I 124) ((10 * i5) + 1))))) + (Int32.toInt64 ((I 124) ((10 * i5) + 2))))) + (Int32.toInt64 ((I 124) ((10 * i5) + 3))))) + (Int32.toInt64 ((I 124) ((10 * i5) + 4))))) + (Int32.toInt64 ((I 124) ((10 * i5) + 5))))) + (Int32.toInt64 ((I 124) ((10 * i5) + 6))))) + (Int32.toInt64 ((I 124) ((10 * i5) + 7))))) + (Int32.toInt64 ((I 124) ((10 * i5) + 8))))) + (Int32.toInt64 ((I 124) ((10 * i5) + 9))))))) ((congrArg (ma_up _ 115) (ma_up_up _ _ _ _)).trans (ma_up_up _ _ _ _)) ?_
      refine ev_iinc (pc' := 97) (v := 10) (lv' := [some (.ref 115), some (.int (nI i5)), some (.int 10)]) dX8_digest_94 rfl rfl (by decide) (Nat.le_of_ble_eq_true rfl) rfl rfl ?_
      refine ev_goto (tgt := 73) dX8_digest_97 rfl ?_
      refine ev_iload_n (pc' := 74) (i := 2) dX8_digest_73 rfl rfl rfl ?_
      refine ev_bipush (pc' := 76) (v := 10) dX8_digest_74 rfl kb_10 ?_
      refine ev_icmp_ge (tgt := 100) (pc' := 79) dX8_digest_76 rfl rfl (fun _ => ?_) (fun h => absurd (by decide) h)
      refine ev_iinc (pc' := 103) (v := nI (i5 + 1)) (lv' := [some (.ref 115), some (.int (nI (i5 + 1))), some (.int 10)]) dX8_digest_100 rfl rfl (nI_add i5 1) (Nat.le_of_ble_eq_true rfl) rfl rfl ?_
      refine ev_goto (tgt := 9) dX8_digest_103 rfl ?_
      refine ev_lvw (lv' := [some (.ref 115), some (.int (nI (i5 + 1))), none]) ⟨rfl, ⟨rfl, trivial⟩⟩ ?_
      exact ih (i5 + 1) _ (by omega) (by rw [hv7]; refine (mH_up _ _ _).trans (congrArg (mH _) ?_); first | (have q : I 122 i5 = 0 := (by assumption); exact (dgG_y q).symm) | (have q : ¬ I 122 i5 = 0 := (by assumption); exact (dgG_n q).symm))
    · refine ev_aload_n (pc' := 25) (i := 0) dX8_digest_24 rfl rfl rfl ?_
      refine ev_iconst (pc' := 26) (v := (-1)) dX8_digest_25 rfl ki_m1 ?_
      refine ev_callV (pc' := 29) (rm' := rX8_mix) (b := 115) (av := [.int (-1)]) (rest := []) co_X8_389 ci_X8_mix cv_X8_mix dX8_digest_26 rfl hs_115 hb_X8 rfl rfl (Nat.le_of_ble_eq_true rfl) ⟨(Nat.le_of_ble_eq_true rfl), (Nat.le_of_ble_eq_true rfl)⟩ ⟨(Nat.le_of_ble_eq_true rfl), (Nat.le_of_ble_eq_true rfl)⟩ ?_
      refine t_X8_mix (-1) ?_
      refine ev_goto (tgt := 100) dX8_digest_29 rfl ?_
      refine ev_iinc (pc' := 103) (v := nI (i5 + 1)) (lv' := [some (.ref 115), some (.int (nI (i5 + 1))), none]) dX8_digest_100 rfl rfl (nI_add i5 1) (Nat.le_of_ble_eq_true rfl) rfl rfl ?_
      refine ev_goto (tgt := 9) dX8_digest_103 rfl ?_
      exact ih (i5 + 1) _ (by omega) (by rw [hv7]; refine (mH_up _ _ _).trans (congrArg (mH _) ?_); first | (have q : I 122 i5 = 0 := (by assumption); exact (dgG_y q).symm) | (have q : ¬ I 122 i5 = 0 := (by assumption); exact (dgG_n q).symm))
