theorem n4_0 (L : ma_L) : L = (ma_up (ma_up (ma_up (ma_up L 20 (L 20)) 19 (L 19)) 23 (L 23)) 22 (L 22)) := by rw [ma_up_self, ma_up_self, ma_up_self, ma_up_self]
theorem n4_19 (L : ma_L) (y z v w T : Nat → Int64) : ma_up (ma_up (ma_up (ma_up (ma_up L 20 y) 19 z) 23 v) 22 w) 19 T = (ma_up (ma_up (ma_up (ma_up L 20 y) 19 T) 23 v) 22 w) := by
  rw [ma_up_comm _ (show 19 ≠ 22 by decide), ma_up_comm _ (show 19 ≠ 23 by decide), ma_up_up]
theorem n4_20 (L : ma_L) (y z v w T : Nat → Int64) : ma_up (ma_up (ma_up (ma_up (ma_up L 20 y) 19 z) 23 v) 22 w) 20 T = (ma_up (ma_up (ma_up (ma_up L 20 T) 19 z) 23 v) 22 w) := by
  rw [ma_up_comm _ (show 20 ≠ 22 by decide), ma_up_comm _ (show 20 ≠ 23 by decide), ma_up_comm _ (show 20 ≠ 19 by decide), ma_up_up]
theorem n4_23 (L : ma_L) (y z v w T : Nat → Int64) : ma_up (ma_up (ma_up (ma_up (ma_up L 20 y) 19 z) 23 v) 22 w) 23 T = (ma_up (ma_up (ma_up (ma_up L 20 y) 19 z) 23 T) 22 w) := by
  rw [ma_up_comm _ (show 23 ≠ 22 by decide), ma_up_up]
theorem n4_22 (L : ma_L) (y z v w T : Nat → Int64) : ma_up (ma_up (ma_up (ma_up (ma_up L 20 y) 19 z) 23 v) 22 w) 22 T = (ma_up (ma_up (ma_up (ma_up L 20 y) 19 z) 23 v) 22 T) := by rw [ma_up_up]
def cCmp (x y : Nat) : Int32 := if x < y then -1 else if x = y then 0 else 1
theorem bg6_2 {x y : Nat} (hx : x < 9223372036854775808) (hy : y < 9223372036854775808) : x * y < W30 6 := Nat.lt_of_lt_of_le (bg_m hx hy) (by decide)
theorem bg6_3 {c x y z : Nat} (hc : c < 17) (hx : x < 288230376151711744) (hy : y < 288230376151711744) (hz : z < 288230376151711744) : c * x * y * z < W30 6 := Nat.lt_of_lt_of_le (bg_m (bg_m (bg_m hc hx) hy) hz) (by decide)
def cSa (i j : Int64) : Int32 := if i ≤ 0 then (if i = 0 ∧ j = 0 then 0 else -1) else cCmp (4 * i.toInt.natAbs * i.toInt.natAbs * i.toInt.natAbs) (j.toInt.natAbs * j.toInt.natAbs)
def cSp (a e i : Int64) : Int32 := if i ≤ 0 then (if i = 0 ∧ mAb e = 0 then 0 else -1) else cCmp (16 * a.toInt.natAbs * a.toInt.natAbs * i.toInt.natAbs) (e.toInt.natAbs * e.toInt.natAbs)
theorem lN_pos {i : Int64} (h : ¬ i ≤ 0) : i = lN i.toInt.natAbs := by
  rw [nb_leL, nb_0L] at h
  have := nb_rngL i
  apply nb_eqL.mpr; rw [lN_toI (by omega)]; omega
theorem ct_lw {g : ma_G} {y : MethodName} {cc : ByteArray} {nL : Nat} {ret : Option FieldType} {rm : Room} {Post : ma_P} {sh : ma_S} {I : ma_I} {L : ma_L} {R : ma_R} {n : Nat} {ob : Nat} {v : Int64} {x : Nat} (h : v = lN x) (k : CT g y cc nL ret rm [.ref ob, .long (lN x)] Post sh I L R n) : CT g y cc nL ret rm [.ref ob, .long v] Post sh I L R n := by rw [h]; exact k
theorem ct_lw2 {g : ma_G} {y : MethodName} {cc : ByteArray} {nL : Nat} {ret : Option FieldType} {rm : Room} {Post : ma_P} {sh : ma_S} {I : ma_I} {L : ma_L} {R : ma_R} {n : Nat} {ob : Nat} {v : Int64} {x : Nat} (h : v = lN x) (k : CT g y cc nL ret rm [.ref ob, .long (lN x)] Post sh I L R n) : CT g y cc nL ret rm [.ref ob, .long v] Post sh I L R n := by rw [h]; exact k
set_option maxRecDepth 4000 in
theorem t_X0_signOfApartness {g : ma_G} {Post : ma_P} {I : ma_I} {L : ma_L} (hI : ((L 12) 5).toInt.natAbs < 288230376151711744) (hJ : ((L 12) 6).toInt ≠ -9223372036854775808) (k0 : ∀ Y Z V W : Nat → Int64, Post (some (.int (cSa ((L 12) 5) ((L 12) 6)))) HS I (ma_up (ma_up (ma_up (ma_up L 20 Y) 19 Z) 23 V) 22 W) RF 146) : CT g yX0_signOfApartness cX0_signOfApartness 1 (some .int) rX0_signOfApartness [.ref 12] Post HS I L RF 146 := by
  refine ct_of (lv := [some (.ref 12)]) (by decide) (Nat.le_of_ble_eq_true rfl) rfl ?_
  refine ev_aload_n (pc' := 1) (i := 0) dX0_signOfApartness_0 rfl rfl rfl ?_
  refine ev_getL (pc' := 4) (v := (L 12) 5) fo_X0_58 dX0_signOfApartness_1 rfl hs_12 rfl rfl ?_
  refine ev_lconst (pc' := 5) (v := 0) dX0_signOfApartness_4 rfl kl_0 ?_
  refine ev_lc_gt (p1 := 6) (tgt := 33) (pc' := 9) dX0_signOfApartness_5 rfl dX0_signOfApartness_6 rfl rfl (fun c1 => ?_) (fun c1 => ?_)
  · have hip : ¬ (L 12) 5 ≤ 0 := Int64.not_le.mpr c1
    have hiN := lN_pos hip
    have hiL : ((L 12) 5).toInt.natAbs < 288230376151711744 := hI
    have hiL2 : ((L 12) 5).toInt.natAbs < 9223372036854775808 := by omega
    have hjL : ((L 12) 6).toInt.natAbs < 9223372036854775808 := by have := nb_rngL ((L 12) 6); omega
    refine ev_memL (fun z hz => ?_)
    have hz := hz.trans (n4_0 L)
    subst hz
    refine ev_aload_n (pc' := 34) (i := 0) dX0_signOfApartness_33 rfl rfl rfl ?_
    refine ev_getR (pc' := 37) fo_X0_28 dX0_signOfApartness_34 rfl hs_12 rfl rf_12_3 ?_
    refine ev_ldc2 (pc' := 40) cl_X0_50 dX0_signOfApartness_37 rfl ?_
    refine ev_callV (pc' := 43) (rm' := rX6_begin) (b := 18) (av := [.long 4]) (rest := []) co_X0_108 ci_X6_begin cv_X6_begin dX0_signOfApartness_40 rfl hs_18 hb_X6 rfl rfl (Nat.le_of_ble_eq_true rfl) ⟨(Nat.le_of_ble_eq_true rfl), (Nat.le_of_ble_eq_true rfl)⟩ ⟨(Nat.le_of_ble_eq_true rfl), (Nat.le_of_ble_eq_true rfl)⟩ ?_
    refine ct_lw (x := 4) rfl ?_
    refine t_X6_begin18 (4) (by omega) (fun Z2 hZ2 => ?_)
    refine ev_memL (fun z hz => ?_)
    rw [n4_19] at hz
    subst hz
    refine ev_aload_n (pc' := 44) (i := 0) dX0_signOfApartness_43 rfl rfl rfl ?_
    refine ev_getR (pc' := 47) fo_X0_28 dX0_signOfApartness_44 rfl hs_12 rfl rf_12_3 ?_
    refine ev_aload_n (pc' := 48) (i := 0) dX0_signOfApartness_47 rfl rfl rfl ?_
    refine ev_getL (pc' := 51) (v := (L 12) 5) fo_X0_58 dX0_signOfApartness_48 rfl hs_12 rfl rfl ?_
    refine ev_callV (pc' := 54) (rm' := rX6_multiply) (b := 18) (av := [.long ((L 12) 5)]) (rest := []) co_X0_112 ci_X6_multiply cv_X6_multiply dX0_signOfApartness_51 rfl hs_18 hb_X6 rfl rfl (Nat.le_of_ble_eq_true rfl) ⟨(Nat.le_of_ble_eq_true rfl), (Nat.le_of_ble_eq_true rfl)⟩ ⟨(Nat.le_of_ble_eq_true rfl), (Nat.le_of_ble_eq_true rfl)⟩ ?_
    refine ct_lw2 (x := ((L 12) 5).toInt.natAbs) hiN ?_
    refine t_X6_multiply18 (4) (((L 12) 5).toInt.natAbs) hiL2 hZ2 (fun Y3 Z4 hZ4 => ?_)
    refine ev_memL (fun z hz => ?_)
    rw [n4_20, n4_19] at hz
    subst hz
    refine ev_aload_n (pc' := 55) (i := 0) dX0_signOfApartness_54 rfl rfl rfl ?_
    refine ev_getR (pc' := 58) fo_X0_28 dX0_signOfApartness_55 rfl hs_12 rfl rf_12_3 ?_
    refine ev_aload_n (pc' := 59) (i := 0) dX0_signOfApartness_58 rfl rfl rfl ?_
    refine ev_getL (pc' := 62) (v := (L 12) 5) fo_X0_58 dX0_signOfApartness_59 rfl hs_12 rfl rfl ?_
    refine ev_callV (pc' := 65) (rm' := rX6_multiply) (b := 18) (av := [.long ((L 12) 5)]) (rest := []) co_X0_112 ci_X6_multiply cv_X6_multiply dX0_signOfApartness_62 rfl hs_18 hb_X6 rfl rfl (Nat.le_of_ble_eq_true rfl) ⟨(Nat.le_of_ble_eq_true rfl), (Nat.le_of_ble_eq_true rfl)⟩ ⟨(Nat.le_of_ble_eq_true rfl), (Nat.le_of_ble_eq_true rfl)⟩ ?_
    refine ct_lw2 (x := ((L 12) 5).toInt.natAbs) hiN ?_
    refine t_X6_multiply18 (4 * ((L 12) 5).toInt.natAbs) (((L 12) 5).toInt.natAbs) hiL2 hZ4 (fun Y5 Z6 hZ6 => ?_)
    refine ev_memL (fun z hz => ?_)
    rw [n4_20, n4_19] at hz
    subst hz
    refine ev_aload_n (pc' := 66) (i := 0) dX0_signOfApartness_65 rfl rfl rfl ?_
    refine ev_getR (pc' := 69) fo_X0_28 dX0_signOfApartness_66 rfl hs_12 rfl rf_12_3 ?_
    refine ev_aload_n (pc' := 70) (i := 0) dX0_signOfApartness_69 rfl rfl rfl ?_
    refine ev_getL (pc' := 73) (v := (L 12) 5) fo_X0_58 dX0_signOfApartness_70 rfl hs_12 rfl rfl ?_
    refine ev_callV (pc' := 76) (rm' := rX6_multiply) (b := 18) (av := [.long ((L 12) 5)]) (rest := []) co_X0_112 ci_X6_multiply cv_X6_multiply dX0_signOfApartness_73 rfl hs_18 hb_X6 rfl rfl (Nat.le_of_ble_eq_true rfl) ⟨(Nat.le_of_ble_eq_true rfl), (Nat.le_of_ble_eq_true rfl)⟩ ⟨(Nat.le_of_ble_eq_true rfl), (Nat.le_of_ble_eq_true rfl)⟩ ?_
    refine ct_lw2 (x := ((L 12) 5).toInt.natAbs) hiN ?_
    refine t_X6_multiply18 (4 * ((L 12) 5).toInt.natAbs * ((L 12) 5).toInt.natAbs) (((L 12) 5).toInt.natAbs) hiL2 hZ6 (fun Y7 Z8 hZ8 => ?_)
    refine ev_memL (fun z hz => ?_)
    rw [n4_20, n4_19] at hz
    subst hz
    refine ev_aload_n (pc' := 77) (i := 0) dX0_signOfApartness_76 rfl rfl rfl ?_
    refine ev_getR (pc' := 80) fo_X0_32 dX0_signOfApartness_77 rfl hs_12 rfl rf_12_4 ?_
    refine ev_aload_n (pc' := 81) (i := 0) dX0_signOfApartness_80 rfl rfl rfl ?_
    refine ev_getL (pc' := 84) (v := (L 12) 6) fo_X0_68 dX0_signOfApartness_81 rfl hs_12 rfl rfl ?_
    refine ev_mabsl (pc' := 87) co_X0_115 cs_J9_abs_067f4 (tb_m (i := 691) rfl) dX0_signOfApartness_84 rfl (Nat.le_of_ble_eq_true rfl) (Nat.le_of_ble_eq_true rfl) ⟨(Nat.le_of_ble_eq_true rfl), (Nat.le_of_ble_eq_true rfl)⟩ ?_
    refine ev_callV (pc' := 90) (rm' := rX6_begin) (b := 21) (av := [.long (mAb ((L 12) 6))]) (rest := []) co_X0_108 ci_X6_begin cv_X6_begin dX0_signOfApartness_87 rfl hs_21 hb_X6 rfl rfl (Nat.le_of_ble_eq_true rfl) ⟨(Nat.le_of_ble_eq_true rfl), (Nat.le_of_ble_eq_true rfl)⟩ ⟨(Nat.le_of_ble_eq_true rfl), (Nat.le_of_ble_eq_true rfl)⟩ ?_
    refine ct_lw (x := ((L 12) 6).toInt.natAbs) (mAb_nat hJ) ?_
    refine t_X6_begin21 (((L 12) 6).toInt.natAbs) hjL (fun Z9 hZ9 => ?_)
    refine ev_memL (fun z hz => ?_)
    rw [n4_22] at hz
    subst hz
    refine ev_aload_n (pc' := 91) (i := 0) dX0_signOfApartness_90 rfl rfl rfl ?_
    refine ev_getR (pc' := 94) fo_X0_32 dX0_signOfApartness_91 rfl hs_12 rfl rf_12_4 ?_
    refine ev_aload_n (pc' := 95) (i := 0) dX0_signOfApartness_94 rfl rfl rfl ?_
    refine ev_getL (pc' := 98) (v := (L 12) 6) fo_X0_68 dX0_signOfApartness_95 rfl hs_12 rfl rfl ?_
    refine ev_mabsl (pc' := 101) co_X0_115 cs_J9_abs_067f4 (tb_m (i := 691) rfl) dX0_signOfApartness_98 rfl (Nat.le_of_ble_eq_true rfl) (Nat.le_of_ble_eq_true rfl) ⟨(Nat.le_of_ble_eq_true rfl), (Nat.le_of_ble_eq_true rfl)⟩ ?_
    refine ev_callV (pc' := 104) (rm' := rX6_multiply) (b := 21) (av := [.long (mAb ((L 12) 6))]) (rest := []) co_X0_112 ci_X6_multiply cv_X6_multiply dX0_signOfApartness_101 rfl hs_21 hb_X6 rfl rfl (Nat.le_of_ble_eq_true rfl) ⟨(Nat.le_of_ble_eq_true rfl), (Nat.le_of_ble_eq_true rfl)⟩ ⟨(Nat.le_of_ble_eq_true rfl), (Nat.le_of_ble_eq_true rfl)⟩ ?_
    refine ct_lw2 (x := ((L 12) 6).toInt.natAbs) (mAb_nat hJ) ?_
    refine t_X6_multiply21 (((L 12) 6).toInt.natAbs) (((L 12) 6).toInt.natAbs) hjL hZ9 (fun Y10 Z11 hZ11 => ?_)
    refine ev_memL (fun z hz => ?_)
    rw [n4_23, n4_22] at hz
    subst hz
    refine ev_aload_n (pc' := 105) (i := 0) dX0_signOfApartness_104 rfl rfl rfl ?_
    refine ev_getR (pc' := 108) fo_X0_28 dX0_signOfApartness_105 rfl hs_12 rfl rf_12_3 ?_
    refine ev_aload_n (pc' := 109) (i := 0) dX0_signOfApartness_108 rfl rfl rfl ?_
    refine ev_getR (pc' := 112) fo_X0_32 dX0_signOfApartness_109 rfl hs_12 rfl rf_12_4 ?_
    refine ev_callV (pc' := 115) (rm' := rX6_against) (b := 18) (av := [.ref 21]) (rest := []) co_X0_121 ci_X6_against cv_X6_against dX0_signOfApartness_112 rfl hs_18 hb_X6 rfl rfl (Nat.le_of_ble_eq_true rfl) ⟨(Nat.le_of_ble_eq_true rfl), (Nat.le_of_ble_eq_true rfl)⟩ ⟨(Nat.le_of_ble_eq_true rfl), (Nat.le_of_ble_eq_true rfl)⟩ ?_
    refine t_X6_against (4 * ((L 12) 5).toInt.natAbs * ((L 12) 5).toInt.natAbs * ((L 12) 5).toInt.natAbs) (((L 12) 6).toInt.natAbs * ((L 12) 6).toInt.natAbs) (bg6_3 (by omega) hiL hiL hiL) (bg6_2 (by assumption) (by assumption)) hZ8 hZ11 (fun q12 => ?_) (fun q12 => ?_) (fun q12 => ?_)
    · skip
      refine ev_iret dX0_signOfApartness_115 rfl rfl ⟨Nat.le_refl _, Nat.le_refl _⟩ ?_
      have e : cSa ((L 12) 5) ((L 12) 6) = (-1) := by
        unfold cSa
        rw [if_neg hip]
        have q := q12
        unfold cCmp
        rw [if_pos q]
      rw [e] at k0
      exact k0 _ _ _ _
    · skip
      refine ev_iret dX0_signOfApartness_115 rfl rfl ⟨Nat.le_refl _, Nat.le_refl _⟩ ?_
      have e : cSa ((L 12) 5) ((L 12) 6) = 0 := by
        unfold cSa
        rw [if_neg hip]
        have q := q12
        unfold cCmp
        rw [if_neg (by omega), if_pos q]
      rw [e] at k0
      exact k0 _ _ _ _
    · skip
      refine ev_iret dX0_signOfApartness_115 rfl rfl ⟨Nat.le_refl _, Nat.le_refl _⟩ ?_
      have e : cSa ((L 12) 5) ((L 12) 6) = 1 := by
        unfold cSa
        rw [if_neg hip]
        have q := q12
        unfold cCmp
        rw [if_neg (by omega), if_neg (by omega)]
      rw [e] at k0
      exact k0 _ _ _ _
  · refine ev_aload_n (pc' := 10) (i := 0) dX0_signOfApartness_9 rfl rfl rfl ?_
    refine ev_getL (pc' := 13) (v := (L 12) 5) fo_X0_58 dX0_signOfApartness_10 rfl hs_12 rfl rfl ?_
    refine ev_lconst (pc' := 14) (v := 0) dX0_signOfApartness_13 rfl kl_0 ?_
    refine ev_lc_ne (p1 := 15) (tgt := 31) (pc' := 18) dX0_signOfApartness_14 rfl dX0_signOfApartness_15 rfl rfl (fun c13 => ?_) (fun c13 => ?_)
    · refine ev_iconst (pc' := 32) (v := (-1)) dX0_signOfApartness_31 rfl ki_m1 ?_
      refine ev_iret dX0_signOfApartness_32 rfl rfl ⟨Nat.le_refl _, Nat.le_refl _⟩ ?_
      have e : cSa ((L 12) 5) ((L 12) 6) = (-1) := by
        unfold cSa
        rw [if_pos (by first | assumption | exact Int64.not_lt.mp (by assumption))]
        rw [if_neg (fun q => by rcases q with ⟨q1, q2⟩; first | exact absurd q1 (by assumption) | exact absurd q2 (by assumption))]
      have q := k0 (L 20) (L 19) (L 23) (L 22)
      rw [← n4_0 L, e] at q
      exact q
    · refine ev_aload_n (pc' := 19) (i := 0) dX0_signOfApartness_18 rfl rfl rfl ?_
      refine ev_getL (pc' := 22) (v := (L 12) 6) fo_X0_68 dX0_signOfApartness_19 rfl hs_12 rfl rfl ?_
      refine ev_lconst (pc' := 23) (v := 0) dX0_signOfApartness_22 rfl kl_0 ?_
      refine ev_lc_ne (p1 := 24) (tgt := 31) (pc' := 27) dX0_signOfApartness_23 rfl dX0_signOfApartness_24 rfl rfl (fun c14 => ?_) (fun c14 => ?_)
      · refine ev_iconst (pc' := 32) (v := (-1)) dX0_signOfApartness_31 rfl ki_m1 ?_
        refine ev_iret dX0_signOfApartness_32 rfl rfl ⟨Nat.le_refl _, Nat.le_refl _⟩ ?_
        have e : cSa ((L 12) 5) ((L 12) 6) = (-1) := by
          unfold cSa
          rw [if_pos (by first | assumption | exact Int64.not_lt.mp (by assumption))]
          rw [if_neg (fun q => by rcases q with ⟨q1, q2⟩; first | exact absurd q1 (by assumption) | exact absurd q2 (by assumption))]
        have q := k0 (L 20) (L 19) (L 23) (L 22)
        rw [← n4_0 L, e] at q
        exact q
      · refine ev_iconst (pc' := 28) (v := 0) dX0_signOfApartness_27 rfl ki_0 ?_
        refine ev_goto (tgt := 32) dX0_signOfApartness_28 rfl ?_
        refine ev_iret dX0_signOfApartness_32 rfl rfl ⟨Nat.le_refl _, Nat.le_refl _⟩ ?_
        have e : cSa ((L 12) 5) ((L 12) 6) = 0 := by
          unfold cSa
          rw [if_pos (by first | assumption | exact Int64.not_lt.mp (by assumption))]
          rw [if_pos ⟨c13, c14⟩]
        have q := k0 (L 20) (L 19) (L 23) (L 22)
        rw [← n4_0 L, e] at q
        exact q
set_option maxRecDepth 4000 in
theorem t_X0_signOfSpread {g : ma_G} {Post : ma_P} {I : ma_I} {L : ma_L} (hI : ((L 12) 5).toInt.natAbs < 288230376151711744) (hA : ((L 13) 0).toInt.natAbs < 288230376151711744) (hJ : (((8 * ((L 13) 0)) * ((L 13) 2)) - ((3 * ((L 13) 1)) * ((L 13) 1))).toInt ≠ -9223372036854775808) (k0 : ∀ Y Z V W : Nat → Int64, Post (some (.int (cSp ((L 13) 0) (((8 * ((L 13) 0)) * ((L 13) 2)) - ((3 * ((L 13) 1)) * ((L 13) 1))) ((L 12) 5)))) HS I (ma_up (ma_up (ma_up (ma_up L 20 Y) 19 Z) 23 V) 22 W) RF 146) : CT g yX0_signOfSpread cX0_signOfSpread 3 (some .int) rX0_signOfSpread [.ref 12] Post HS I L RF 146 := by
  refine ct_of (lv := [some (.ref 12), none, none]) (by decide) (Nat.le_of_ble_eq_true rfl) rfl ?_
  refine ev_aload_n (pc' := 1) (i := 0) dX0_signOfSpread_0 rfl rfl rfl ?_
  refine ev_callV (pc' := 4) (rm' := rX0_eightACLessThreeBB) (b := 12) (av := []) (rest := []) co_X0_99 ci_X0_eightACLessThreeBB cv_X0_eightACLessThreeBB dX0_signOfSpread_1 rfl hs_12 hb_X0 rfl rfl (Nat.le_of_ble_eq_true rfl) ⟨(Nat.le_of_ble_eq_true rfl), (Nat.le_of_ble_eq_true rfl)⟩ ⟨(Nat.le_of_ble_eq_true rfl), (Nat.le_of_ble_eq_true rfl)⟩ ?_
  refine t_X0_eightACLessThreeBB   ?_
  refine ev_mabsl (pc' := 7) co_X0_115 cs_J9_abs_067f4 (tb_m (i := 691) rfl) dX0_signOfSpread_4 rfl (Nat.le_of_ble_eq_true rfl) (Nat.le_of_ble_eq_true rfl) ⟨(Nat.le_of_ble_eq_true rfl), (Nat.le_of_ble_eq_true rfl)⟩ ?_
  refine ev_lstore_n (pc' := 8) (i := 1) (lv' := [some (.ref 12), some (.long (mAb (((8 * ((L 13) 0)) * ((L 13) 2)) - ((3 * ((L 13) 1)) * ((L 13) 1))))), none]) dX0_signOfSpread_7 rfl rfl (Nat.le_of_ble_eq_true rfl) rfl rfl ?_
  refine ev_aload_n (pc' := 9) (i := 0) dX0_signOfSpread_8 rfl rfl rfl ?_
  refine ev_getL (pc' := 12) (v := (L 12) 5) fo_X0_58 dX0_signOfSpread_9 rfl hs_12 rfl rfl ?_
  refine ev_lconst (pc' := 13) (v := 0) dX0_signOfSpread_12 rfl kl_0 ?_
  refine ev_lc_gt (p1 := 14) (tgt := 38) (pc' := 17) dX0_signOfSpread_13 rfl dX0_signOfSpread_14 rfl rfl (fun c1 => ?_) (fun c1 => ?_)
  · have hip : ¬ (L 12) 5 ≤ 0 := Int64.not_le.mpr c1
    have hiN := lN_pos hip
    have hiL : ((L 12) 5).toInt.natAbs < 288230376151711744 := hI
    have hiL2 : ((L 12) 5).toInt.natAbs < 9223372036854775808 := by omega
    have hjL : (((8 * ((L 13) 0)) * ((L 13) 2)) - ((3 * ((L 13) 1)) * ((L 13) 1))).toInt.natAbs < 9223372036854775808 := by have := nb_rngL (((8 * ((L 13) 0)) * ((L 13) 2)) - ((3 * ((L 13) 1)) * ((L 13) 1))); omega
    have haL : ((L 13) 0).toInt.natAbs < 9223372036854775808 := by omega
    refine ev_memL (fun z hz => ?_)
    have hz := hz.trans (n4_0 L)
    subst hz
    refine ev_aload_n (pc' := 39) (i := 0) dX0_signOfSpread_38 rfl rfl rfl ?_
    refine ev_getR (pc' := 42) fo_X0_28 dX0_signOfSpread_39 rfl hs_12 rfl rf_12_3 ?_
    refine ev_ldc2 (pc' := 45) cl_X0_48 dX0_signOfSpread_42 rfl ?_
    refine ev_callV (pc' := 48) (rm' := rX6_begin) (b := 18) (av := [.long 16]) (rest := []) co_X0_108 ci_X6_begin cv_X6_begin dX0_signOfSpread_45 rfl hs_18 hb_X6 rfl rfl (Nat.le_of_ble_eq_true rfl) ⟨(Nat.le_of_ble_eq_true rfl), (Nat.le_of_ble_eq_true rfl)⟩ ⟨(Nat.le_of_ble_eq_true rfl), (Nat.le_of_ble_eq_true rfl)⟩ ?_
    refine ct_lw (x := 16) rfl ?_
    refine t_X6_begin18 (16) (by omega) (fun Z2 hZ2 => ?_)
    refine ev_memL (fun z hz => ?_)
    rw [n4_19] at hz
    subst hz
    refine ev_aload_n (pc' := 49) (i := 0) dX0_signOfSpread_48 rfl rfl rfl ?_
    refine ev_getR (pc' := 52) fo_X0_28 dX0_signOfSpread_49 rfl hs_12 rfl rf_12_3 ?_
    refine ev_aload_n (pc' := 53) (i := 0) dX0_signOfSpread_52 rfl rfl rfl ?_
    refine ev_getR (pc' := 56) fo_X0_9 dX0_signOfSpread_53 rfl hs_12 rfl rf_12_0 ?_
    refine ev_iconst (pc' := 57) (v := 0) dX0_signOfSpread_56 rfl ki_0 ?_
    refine ev_lald (pc' := 58) (j := 0) (v := (L 13) 0) dX0_signOfSpread_57 rfl hs_13 rfl (Nat.le_of_ble_eq_true rfl) (Nat.le_of_ble_eq_true rfl) rfl ?_
    refine ev_mabsl (pc' := 61) co_X0_115 cs_J9_abs_067f4 (tb_m (i := 691) rfl) dX0_signOfSpread_58 rfl (Nat.le_of_ble_eq_true rfl) (Nat.le_of_ble_eq_true rfl) ⟨(Nat.le_of_ble_eq_true rfl), (Nat.le_of_ble_eq_true rfl)⟩ ?_
    refine ev_callV (pc' := 64) (rm' := rX6_multiply) (b := 18) (av := [.long (mAb ((L 13) 0))]) (rest := []) co_X0_112 ci_X6_multiply cv_X6_multiply dX0_signOfSpread_61 rfl hs_18 hb_X6 rfl rfl (Nat.le_of_ble_eq_true rfl) ⟨(Nat.le_of_ble_eq_true rfl), (Nat.le_of_ble_eq_true rfl)⟩ ⟨(Nat.le_of_ble_eq_true rfl), (Nat.le_of_ble_eq_true rfl)⟩ ?_
    refine ct_lw2 (x := ((L 13) 0).toInt.natAbs) (mAb_nat (by omega)) ?_
    refine t_X6_multiply18 (16) (((L 13) 0).toInt.natAbs) haL hZ2 (fun Y3 Z4 hZ4 => ?_)
    refine ev_memL (fun z hz => ?_)
    rw [n4_20, n4_19] at hz
    subst hz
    refine ev_aload_n (pc' := 65) (i := 0) dX0_signOfSpread_64 rfl rfl rfl ?_
    refine ev_getR (pc' := 68) fo_X0_28 dX0_signOfSpread_65 rfl hs_12 rfl rf_12_3 ?_
    refine ev_aload_n (pc' := 69) (i := 0) dX0_signOfSpread_68 rfl rfl rfl ?_
    refine ev_getR (pc' := 72) fo_X0_9 dX0_signOfSpread_69 rfl hs_12 rfl rf_12_0 ?_
    refine ev_iconst (pc' := 73) (v := 0) dX0_signOfSpread_72 rfl ki_0 ?_
    refine ev_lald (pc' := 74) (j := 0) (v := (L 13) 0) dX0_signOfSpread_73 rfl hs_13 rfl (Nat.le_of_ble_eq_true rfl) (Nat.le_of_ble_eq_true rfl) rfl ?_
    refine ev_mabsl (pc' := 77) co_X0_115 cs_J9_abs_067f4 (tb_m (i := 691) rfl) dX0_signOfSpread_74 rfl (Nat.le_of_ble_eq_true rfl) (Nat.le_of_ble_eq_true rfl) ⟨(Nat.le_of_ble_eq_true rfl), (Nat.le_of_ble_eq_true rfl)⟩ ?_
    refine ev_callV (pc' := 80) (rm' := rX6_multiply) (b := 18) (av := [.long (mAb ((L 13) 0))]) (rest := []) co_X0_112 ci_X6_multiply cv_X6_multiply dX0_signOfSpread_77 rfl hs_18 hb_X6 rfl rfl (Nat.le_of_ble_eq_true rfl) ⟨(Nat.le_of_ble_eq_true rfl), (Nat.le_of_ble_eq_true rfl)⟩ ⟨(Nat.le_of_ble_eq_true rfl), (Nat.le_of_ble_eq_true rfl)⟩ ?_
    refine ct_lw2 (x := ((L 13) 0).toInt.natAbs) (mAb_nat (by omega)) ?_
    refine t_X6_multiply18 (16 * ((L 13) 0).toInt.natAbs) (((L 13) 0).toInt.natAbs) haL hZ4 (fun Y5 Z6 hZ6 => ?_)
    refine ev_memL (fun z hz => ?_)
    rw [n4_20, n4_19] at hz
    subst hz
    refine ev_aload_n (pc' := 81) (i := 0) dX0_signOfSpread_80 rfl rfl rfl ?_
    refine ev_getR (pc' := 84) fo_X0_28 dX0_signOfSpread_81 rfl hs_12 rfl rf_12_3 ?_
    refine ev_aload_n (pc' := 85) (i := 0) dX0_signOfSpread_84 rfl rfl rfl ?_
    refine ev_getL (pc' := 88) (v := (L 12) 5) fo_X0_58 dX0_signOfSpread_85 rfl hs_12 rfl rfl ?_
    refine ev_callV (pc' := 91) (rm' := rX6_multiply) (b := 18) (av := [.long ((L 12) 5)]) (rest := []) co_X0_112 ci_X6_multiply cv_X6_multiply dX0_signOfSpread_88 rfl hs_18 hb_X6 rfl rfl (Nat.le_of_ble_eq_true rfl) ⟨(Nat.le_of_ble_eq_true rfl), (Nat.le_of_ble_eq_true rfl)⟩ ⟨(Nat.le_of_ble_eq_true rfl), (Nat.le_of_ble_eq_true rfl)⟩ ?_
    refine ct_lw2 (x := ((L 12) 5).toInt.natAbs) hiN ?_
    refine t_X6_multiply18 (16 * ((L 13) 0).toInt.natAbs * ((L 13) 0).toInt.natAbs) (((L 12) 5).toInt.natAbs) hiL2 hZ6 (fun Y7 Z8 hZ8 => ?_)
    refine ev_memL (fun z hz => ?_)
    rw [n4_20, n4_19] at hz
    subst hz
    refine ev_aload_n (pc' := 92) (i := 0) dX0_signOfSpread_91 rfl rfl rfl ?_
    refine ev_getR (pc' := 95) fo_X0_32 dX0_signOfSpread_92 rfl hs_12 rfl rf_12_4 ?_
    refine ev_lload_n (pc' := 96) (i := 1) dX0_signOfSpread_95 rfl rfl rfl ?_
    refine ev_callV (pc' := 99) (rm' := rX6_begin) (b := 21) (av := [.long (mAb (((8 * ((L 13) 0)) * ((L 13) 2)) - ((3 * ((L 13) 1)) * ((L 13) 1))))]) (rest := []) co_X0_108 ci_X6_begin cv_X6_begin dX0_signOfSpread_96 rfl hs_21 hb_X6 rfl rfl (Nat.le_of_ble_eq_true rfl) ⟨(Nat.le_of_ble_eq_true rfl), (Nat.le_of_ble_eq_true rfl)⟩ ⟨(Nat.le_of_ble_eq_true rfl), (Nat.le_of_ble_eq_true rfl)⟩ ?_
    refine ct_lw (x := (((8 * ((L 13) 0)) * ((L 13) 2)) - ((3 * ((L 13) 1)) * ((L 13) 1))).toInt.natAbs) (mAb_nat hJ) ?_
    refine t_X6_begin21 ((((8 * ((L 13) 0)) * ((L 13) 2)) - ((3 * ((L 13) 1)) * ((L 13) 1))).toInt.natAbs) hjL (fun Z9 hZ9 => ?_)
    refine ev_memL (fun z hz => ?_)
    rw [n4_22] at hz
    subst hz
    refine ev_aload_n (pc' := 100) (i := 0) dX0_signOfSpread_99 rfl rfl rfl ?_
    refine ev_getR (pc' := 103) fo_X0_32 dX0_signOfSpread_100 rfl hs_12 rfl rf_12_4 ?_
    refine ev_lload_n (pc' := 104) (i := 1) dX0_signOfSpread_103 rfl rfl rfl ?_
    refine ev_callV (pc' := 107) (rm' := rX6_multiply) (b := 21) (av := [.long (mAb (((8 * ((L 13) 0)) * ((L 13) 2)) - ((3 * ((L 13) 1)) * ((L 13) 1))))]) (rest := []) co_X0_112 ci_X6_multiply cv_X6_multiply dX0_signOfSpread_104 rfl hs_21 hb_X6 rfl rfl (Nat.le_of_ble_eq_true rfl) ⟨(Nat.le_of_ble_eq_true rfl), (Nat.le_of_ble_eq_true rfl)⟩ ⟨(Nat.le_of_ble_eq_true rfl), (Nat.le_of_ble_eq_true rfl)⟩ ?_
    refine ct_lw2 (x := (((8 * ((L 13) 0)) * ((L 13) 2)) - ((3 * ((L 13) 1)) * ((L 13) 1))).toInt.natAbs) (mAb_nat hJ) ?_
    refine t_X6_multiply21 ((((8 * ((L 13) 0)) * ((L 13) 2)) - ((3 * ((L 13) 1)) * ((L 13) 1))).toInt.natAbs) ((((8 * ((L 13) 0)) * ((L 13) 2)) - ((3 * ((L 13) 1)) * ((L 13) 1))).toInt.natAbs) hjL hZ9 (fun Y10 Z11 hZ11 => ?_)
    refine ev_memL (fun z hz => ?_)
    rw [n4_23, n4_22] at hz
    subst hz
    refine ev_aload_n (pc' := 108) (i := 0) dX0_signOfSpread_107 rfl rfl rfl ?_
    refine ev_getR (pc' := 111) fo_X0_28 dX0_signOfSpread_108 rfl hs_12 rfl rf_12_3 ?_
    refine ev_aload_n (pc' := 112) (i := 0) dX0_signOfSpread_111 rfl rfl rfl ?_
    refine ev_getR (pc' := 115) fo_X0_32 dX0_signOfSpread_112 rfl hs_12 rfl rf_12_4 ?_
    refine ev_callV (pc' := 118) (rm' := rX6_against) (b := 18) (av := [.ref 21]) (rest := []) co_X0_121 ci_X6_against cv_X6_against dX0_signOfSpread_115 rfl hs_18 hb_X6 rfl rfl (Nat.le_of_ble_eq_true rfl) ⟨(Nat.le_of_ble_eq_true rfl), (Nat.le_of_ble_eq_true rfl)⟩ ⟨(Nat.le_of_ble_eq_true rfl), (Nat.le_of_ble_eq_true rfl)⟩ ?_
    refine t_X6_against (16 * ((L 13) 0).toInt.natAbs * ((L 13) 0).toInt.natAbs * ((L 12) 5).toInt.natAbs) ((((8 * ((L 13) 0)) * ((L 13) 2)) - ((3 * ((L 13) 1)) * ((L 13) 1))).toInt.natAbs * (((8 * ((L 13) 0)) * ((L 13) 2)) - ((3 * ((L 13) 1)) * ((L 13) 1))).toInt.natAbs) (bg6_3 (by omega) hA hA hiL) (bg6_2 (by assumption) (by assumption)) hZ8 hZ11 (fun q12 => ?_) (fun q12 => ?_) (fun q12 => ?_)
    · skip
      refine ev_iret dX0_signOfSpread_118 rfl rfl ⟨Nat.le_refl _, Nat.le_refl _⟩ ?_
      have e : cSp ((L 13) 0) (((8 * ((L 13) 0)) * ((L 13) 2)) - ((3 * ((L 13) 1)) * ((L 13) 1))) ((L 12) 5) = (-1) := by
        unfold cSp
        rw [if_neg hip]
        have q := q12
        unfold cCmp
        rw [if_pos q]
      rw [e] at k0
      exact k0 _ _ _ _
    · skip
      refine ev_iret dX0_signOfSpread_118 rfl rfl ⟨Nat.le_refl _, Nat.le_refl _⟩ ?_
      have e : cSp ((L 13) 0) (((8 * ((L 13) 0)) * ((L 13) 2)) - ((3 * ((L 13) 1)) * ((L 13) 1))) ((L 12) 5) = 0 := by
        unfold cSp
        rw [if_neg hip]
        have q := q12
        unfold cCmp
        rw [if_neg (by omega), if_pos q]
      rw [e] at k0
      exact k0 _ _ _ _
    · skip
      refine ev_iret dX0_signOfSpread_118 rfl rfl ⟨Nat.le_refl _, Nat.le_refl _⟩ ?_
      have e : cSp ((L 13) 0) (((8 * ((L 13) 0)) * ((L 13) 2)) - ((3 * ((L 13) 1)) * ((L 13) 1))) ((L 12) 5) = 1 := by
        unfold cSp
        rw [if_neg hip]
        have q := q12
        unfold cCmp
        rw [if_neg (by omega), if_neg (by omega)]
      rw [e] at k0
      exact k0 _ _ _ _
  · refine ev_aload_n (pc' := 18) (i := 0) dX0_signOfSpread_17 rfl rfl rfl ?_
    refine ev_getL (pc' := 21) (v := (L 12) 5) fo_X0_58 dX0_signOfSpread_18 rfl hs_12 rfl rfl ?_
    refine ev_lconst (pc' := 22) (v := 0) dX0_signOfSpread_21 rfl kl_0 ?_
    refine ev_lc_ne (p1 := 23) (tgt := 36) (pc' := 26) dX0_signOfSpread_22 rfl dX0_signOfSpread_23 rfl rfl (fun c13 => ?_) (fun c13 => ?_)
    · refine ev_iconst (pc' := 37) (v := (-1)) dX0_signOfSpread_36 rfl ki_m1 ?_
      refine ev_iret dX0_signOfSpread_37 rfl rfl ⟨Nat.le_refl _, Nat.le_refl _⟩ ?_
      have e : cSp ((L 13) 0) (((8 * ((L 13) 0)) * ((L 13) 2)) - ((3 * ((L 13) 1)) * ((L 13) 1))) ((L 12) 5) = (-1) := by
        unfold cSp
        rw [if_pos (by first | assumption | exact Int64.not_lt.mp (by assumption))]
        rw [if_neg (fun q => by rcases q with ⟨q1, q2⟩; first | exact absurd q1 (by assumption) | exact absurd q2 (by assumption))]
      have q := k0 (L 20) (L 19) (L 23) (L 22)
      rw [← n4_0 L, e] at q
      exact q
    · refine ev_lload_n (pc' := 27) (i := 1) dX0_signOfSpread_26 rfl rfl rfl ?_
      refine ev_lconst (pc' := 28) (v := 0) dX0_signOfSpread_27 rfl kl_0 ?_
      refine ev_lc_ne (p1 := 29) (tgt := 36) (pc' := 32) dX0_signOfSpread_28 rfl dX0_signOfSpread_29 rfl rfl (fun c14 => ?_) (fun c14 => ?_)
      · refine ev_iconst (pc' := 37) (v := (-1)) dX0_signOfSpread_36 rfl ki_m1 ?_
        refine ev_iret dX0_signOfSpread_37 rfl rfl ⟨Nat.le_refl _, Nat.le_refl _⟩ ?_
        have e : cSp ((L 13) 0) (((8 * ((L 13) 0)) * ((L 13) 2)) - ((3 * ((L 13) 1)) * ((L 13) 1))) ((L 12) 5) = (-1) := by
          unfold cSp
          rw [if_pos (by first | assumption | exact Int64.not_lt.mp (by assumption))]
          rw [if_neg (fun q => by rcases q with ⟨q1, q2⟩; first | exact absurd q1 (by assumption) | exact absurd q2 (by assumption))]
        have q := k0 (L 20) (L 19) (L 23) (L 22)
        rw [← n4_0 L, e] at q
        exact q
      · refine ev_iconst (pc' := 33) (v := 0) dX0_signOfSpread_32 rfl ki_0 ?_
        refine ev_goto (tgt := 37) dX0_signOfSpread_33 rfl ?_
        refine ev_iret dX0_signOfSpread_37 rfl rfl ⟨Nat.le_refl _, Nat.le_refl _⟩ ?_
        have e : cSp ((L 13) 0) (((8 * ((L 13) 0)) * ((L 13) 2)) - ((3 * ((L 13) 1)) * ((L 13) 1))) ((L 12) 5) = 0 := by
          unfold cSp
          rw [if_pos (by first | assumption | exact Int64.not_lt.mp (by assumption))]
          rw [if_pos ⟨c13, c14⟩]
        have q := k0 (L 20) (L 19) (L 23) (L 22)
        rw [← n4_0 L, e] at q
        exact q
