def cSm (t u : Nat → Int64) (m q : Int64) : Nat → Int64 := fun k => t k * m + u k * q
theorem cSu_16 (L : ma_L) (d e : Nat) (m q : Int64) : ∀ j, j < 16 → cSu L 16 d e m q 16 j = cSm (L d) (L e) m q j := fun j hj => by
  unfold cSu; rw [mfill_at, if_pos (by omega)]; rfl
theorem cSu_u (L : ma_L) (d e : Nat) (m q : Int64) : cSu L 16 d e m q = ma_up L 16 (cSu L 16 d e m q 16) := by
  unfold cSu mfill; rw [ma_up_s]
def cRd (A E P M T : Int64) : Nat → Int64
  | 0 => A
  | 1 => (T - 16 * A - 4 * ((P + M) / 2 - A - E) - E - 2 * ((P - M) / 2)) / 6
  | 2 => (P + M) / 2 - A - E
  | 3 => (P - M) / 2 - (T - 16 * A - 4 * ((P + M) / 2 - A - E) - E - 2 * ((P - M) / 2)) / 6
  | _ => E
/-- the form of m times one table and q times another, as it is read -/
def cFo (t u : Nat → Int64) (m q : Int32) : Nat → Int64 := cRd (cW (cSm t u (Int32.toInt64 m) (Int32.toInt64 0))) (cW (cSm t u (Int32.toInt64 0) (Int32.toInt64 q))) (cW (cSm t u (Int32.toInt64 m) (Int32.toInt64 q))) (cW (cSm t u (Int32.toInt64 (-m)) (Int32.toInt64 q))) (cW (cSm t u (Int32.toInt64 (2 * m)) (Int32.toInt64 q)))
set_option maxRecDepth 4000 in
theorem t_X0_worthOf {g : ma_G} {Post : ma_P} {I : ma_I} {L : ma_L}  (o : Nat) (m : Int32) (u : Nat) (q : Int32) (d e : Nat) (ho : HS o = (4, 6)) (hro : RF o 0 = d) (hd : HS d = (10, 16)) (hd16 : d ≠ 16) (hu : HS u = (4, 6)) (hru : RF u 0 = e) (he : HS e = (10, 16)) (he16 : e ≠ 16) (k0 : ∀ R : Nat → Int64, Post (some (.long (cW (cSm (L d) (L e) (Int32.toInt64 m) (Int32.toInt64 q))))) HS I (ma_up L 16 R) RF 146) : CT g yX0_worthOf cX0_worthOf 5 (some .long) rX0_worthOf [.ref 12, .ref o, .int m, .ref u, .int q] Post HS I L RF 146 := by
  refine ct_of (lv := [some (.ref 12), some (.ref o), some (.int m), some (.ref u), some (.int q)]) (by decide) (Nat.le_of_ble_eq_true rfl) rfl ?_
  refine ev_aload_n (pc' := 1) (i := 0) dX0_worthOf_0 rfl rfl rfl ?_
  refine ev_getR (pc' := 4) fo_X0_21 dX0_worthOf_1 rfl hs_12 rfl rf_12_2 ?_
  refine ev_aload_n (pc' := 5) (i := 1) dX0_worthOf_4 rfl rfl rfl ?_
  refine ev_iload_n (pc' := 6) (i := 2) dX0_worthOf_5 rfl rfl rfl ?_
  refine ev_i2l (pc' := 7) (v := Int32.toInt64 m) dX0_worthOf_6 rfl rfl ?_
  refine ev_aload_n (pc' := 8) (i := 3) dX0_worthOf_7 rfl rfl rfl ?_
  refine ev_iload (pc' := 10) dX0_worthOf_8 rfl rfl ?_
  refine ev_i2l (pc' := 11) (v := Int32.toInt64 q) dX0_worthOf_10 rfl rfl ?_
  refine ev_callV (pc' := 14) (rm' := rX4_sumOf) (b := 15) (av := [.ref o, .long (Int32.toInt64 m), .ref u, .long (Int32.toInt64 q)]) (rest := []) co_X0_71 ci_X4_sumOf cv_X4_sumOf dX0_worthOf_11 rfl hs_15 hb_X4 rfl rfl (Nat.le_of_ble_eq_true rfl) ⟨(Nat.le_of_ble_eq_true rfl), (Nat.le_of_ble_eq_true rfl)⟩ ⟨(Nat.le_of_ble_eq_true rfl), (Nat.le_of_ble_eq_true rfl)⟩ ?_
  refine t_X4_sumOf 15 16 hs_15 rf_15_0 hs_16 o (Int32.toInt64 m) u (Int32.toInt64 q) d e ho hro hd (by omega) hu hru he (by omega) ?_
  refine ev_aload_n (pc' := 15) (i := 0) dX0_worthOf_14 rfl rfl rfl ?_
  refine ev_getR (pc' := 18) fo_X0_21 dX0_worthOf_15 rfl hs_12 rfl rf_12_2 ?_
  refine ev_callV (pc' := 21) (rm' := rX4_worth) (b := 15) (av := []) (rest := []) co_X0_75 ci_X4_worth cv_X4_worth dX0_worthOf_18 rfl hs_15 hb_X4 rfl rfl (Nat.le_of_ble_eq_true rfl) ⟨(Nat.le_of_ble_eq_true rfl), (Nat.le_of_ble_eq_true rfl)⟩ ⟨(Nat.le_of_ble_eq_true rfl), (Nat.le_of_ble_eq_true rfl)⟩ ?_
  refine t_X4_worth 15 16 hs_15 rf_15_0 hs_16  ?_
  refine ev_lret dX0_worthOf_21 rfl ⟨Nat.le_refl _, Nat.le_refl _⟩ ?_
  rw [cW_c (cSu_16 L d e (Int32.toInt64 m) (Int32.toInt64 q)), cSu_u]
  exact k0 _
def cIi (f : Nat → Int64) : Int64 := 12 * f 0 * f 4 - 3 * f 1 * f 3 + f 2 * f 2
def cJj (f : Nat → Int64) : Int64 := 72 * f 0 * f 2 * f 4 + 9 * f 1 * f 2 * f 3 - 27 * f 0 * f 3 * f 3 - 27 * f 4 * f 1 * f 1 - 2 * f 2 * f 2 * f 2
set_option maxRecDepth 4000 in
theorem t_X0_read {g : ma_G} {Post : ma_P} {I : ma_I} {L : ma_L}  (o : Nat) (m : Int32) (u : Nat) (q : Int32) (d e : Nat) (ho : HS o = (4, 6)) (hro : RF o 0 = d) (hd : HS d = (10, 16)) (hd16 : d ≠ 16) (hu : HS u = (4, 6)) (hru : RF u 0 = e) (he : HS e = (10, 16)) (he16 : e ≠ 16) (k0 : ∀ (R F : Nat → Int64), (∀ j, j < 5 → F j = cFo (L d) (L e) m q j) → Post none HS I (ma_up (ma_up (ma_up L 16 R) 13 F) 12 (ma_up (ma_up (L 12) 5 (cIi (cFo (L d) (L e) m q))) 6 (cJj (cFo (L d) (L e) m q)))) RF 146) : CT g yX0_read cX0_read 23 none rX0_read [.ref 12, .ref o, .int m, .ref u, .int q] Post HS I L RF 146 := by
  refine ct_of (lv := [some (.ref 12), some (.ref o), some (.int m), some (.ref u), some (.int q), none, none, none, none, none, none, none, none, none, none, none, none, none, none, none, none, none, none]) (by decide) (Nat.le_of_ble_eq_true rfl) rfl ?_
  refine ev_aload_n (pc' := 1) (i := 0) dX0_read_0 rfl rfl rfl ?_
  refine ev_aload_n (pc' := 2) (i := 1) dX0_read_1 rfl rfl rfl ?_
  refine ev_iload_n (pc' := 3) (i := 2) dX0_read_2 rfl rfl rfl ?_
  refine ev_aload_n (pc' := 4) (i := 3) dX0_read_3 rfl rfl rfl ?_
  refine ev_iconst (pc' := 5) (v := 0) dX0_read_4 rfl ki_0 ?_
  refine ev_callV (pc' := 8) (rm' := rX0_worthOf) (b := 12) (av := [.ref o, .int m, .ref u, .int 0]) (rest := []) co_X0_42 ci_X0_worthOf cv_X0_worthOf dX0_read_5 rfl hs_12 hb_X0 rfl rfl (Nat.le_of_ble_eq_true rfl) ⟨(Nat.le_of_ble_eq_true rfl), (Nat.le_of_ble_eq_true rfl)⟩ ⟨(Nat.le_of_ble_eq_true rfl), (Nat.le_of_ble_eq_true rfl)⟩ ?_
  refine t_X0_worthOf o m u 0 d e ho hro hd hd16 hu hru he he16 (fun R1 => ?_)
  refine ev_topl (fun v1 hv1 => ?_)
  refine ev_lstore (pc' := 10) (lv' := [some (.ref 12), some (.ref o), some (.int m), some (.ref u), some (.int q), some (.long v1), none, none, none, none, none, none, none, none, none, none, none, none, none, none, none, none, none]) dX0_read_8 rfl (Nat.le_of_ble_eq_true rfl) rfl rfl ?_
  refine ev_aload_n (pc' := 11) (i := 0) dX0_read_10 rfl rfl rfl ?_
  refine ev_aload_n (pc' := 12) (i := 1) dX0_read_11 rfl rfl rfl ?_
  refine ev_iconst (pc' := 13) (v := 0) dX0_read_12 rfl ki_0 ?_
  refine ev_aload_n (pc' := 14) (i := 3) dX0_read_13 rfl rfl rfl ?_
  refine ev_iload (pc' := 16) dX0_read_14 rfl rfl ?_
  refine ev_callV (pc' := 19) (rm' := rX0_worthOf) (b := 12) (av := [.ref o, .int 0, .ref u, .int q]) (rest := []) co_X0_42 ci_X0_worthOf cv_X0_worthOf dX0_read_16 rfl hs_12 hb_X0 rfl rfl (Nat.le_of_ble_eq_true rfl) ⟨(Nat.le_of_ble_eq_true rfl), (Nat.le_of_ble_eq_true rfl)⟩ ⟨(Nat.le_of_ble_eq_true rfl), (Nat.le_of_ble_eq_true rfl)⟩ ?_
  refine t_X0_worthOf o 0 u q d e ho hro hd hd16 hu hru he he16 (fun R2 => ?_)
  refine ev_topl (fun v2 hv2 => ?_)
  rw [ma_up_n L R1 hd16, ma_up_n L R1 he16] at hv2
  refine ev_memL (fun z hz => ?_)
  rw [ma_up_up] at hz
  subst hz
  refine ev_lstore (pc' := 21) (lv' := [some (.ref 12), some (.ref o), some (.int m), some (.ref u), some (.int q), some (.long v1), none, some (.long v2), none, none, none, none, none, none, none, none, none, none, none, none, none, none, none]) dX0_read_19 rfl (Nat.le_of_ble_eq_true rfl) rfl rfl ?_
  refine ev_aload_n (pc' := 22) (i := 0) dX0_read_21 rfl rfl rfl ?_
  refine ev_aload_n (pc' := 23) (i := 1) dX0_read_22 rfl rfl rfl ?_
  refine ev_iload_n (pc' := 24) (i := 2) dX0_read_23 rfl rfl rfl ?_
  refine ev_aload_n (pc' := 25) (i := 3) dX0_read_24 rfl rfl rfl ?_
  refine ev_iload (pc' := 27) dX0_read_25 rfl rfl ?_
  refine ev_callV (pc' := 30) (rm' := rX0_worthOf) (b := 12) (av := [.ref o, .int m, .ref u, .int q]) (rest := []) co_X0_42 ci_X0_worthOf cv_X0_worthOf dX0_read_27 rfl hs_12 hb_X0 rfl rfl (Nat.le_of_ble_eq_true rfl) ⟨(Nat.le_of_ble_eq_true rfl), (Nat.le_of_ble_eq_true rfl)⟩ ⟨(Nat.le_of_ble_eq_true rfl), (Nat.le_of_ble_eq_true rfl)⟩ ?_
  refine t_X0_worthOf o m u q d e ho hro hd hd16 hu hru he he16 (fun R3 => ?_)
  refine ev_topl (fun v3 hv3 => ?_)
  rw [ma_up_n L R2 hd16, ma_up_n L R2 he16] at hv3
  refine ev_memL (fun z hz => ?_)
  rw [ma_up_up] at hz
  subst hz
  refine ev_lstore (pc' := 32) (lv' := [some (.ref 12), some (.ref o), some (.int m), some (.ref u), some (.int q), some (.long v1), none, some (.long v2), none, some (.long v3), none, none, none, none, none, none, none, none, none, none, none, none, none]) dX0_read_30 rfl (Nat.le_of_ble_eq_true rfl) rfl rfl ?_
  refine ev_aload_n (pc' := 33) (i := 0) dX0_read_32 rfl rfl rfl ?_
  refine ev_aload_n (pc' := 34) (i := 1) dX0_read_33 rfl rfl rfl ?_
  refine ev_iload_n (pc' := 35) (i := 2) dX0_read_34 rfl rfl rfl ?_
  refine ev_ineg (pc' := 36) (v := -m) dX0_read_35 rfl rfl ?_
  refine ev_aload_n (pc' := 37) (i := 3) dX0_read_36 rfl rfl rfl ?_
  refine ev_iload (pc' := 39) dX0_read_37 rfl rfl ?_
  refine ev_callV (pc' := 42) (rm' := rX0_worthOf) (b := 12) (av := [.ref o, .int (-m), .ref u, .int q]) (rest := []) co_X0_42 ci_X0_worthOf cv_X0_worthOf dX0_read_39 rfl hs_12 hb_X0 rfl rfl (Nat.le_of_ble_eq_true rfl) ⟨(Nat.le_of_ble_eq_true rfl), (Nat.le_of_ble_eq_true rfl)⟩ ⟨(Nat.le_of_ble_eq_true rfl), (Nat.le_of_ble_eq_true rfl)⟩ ?_
  refine t_X0_worthOf o (-m) u q d e ho hro hd hd16 hu hru he he16 (fun R4 => ?_)
  refine ev_topl (fun v4 hv4 => ?_)
  rw [ma_up_n L R3 hd16, ma_up_n L R3 he16] at hv4
  refine ev_memL (fun z hz => ?_)
  rw [ma_up_up] at hz
  subst hz
  refine ev_lstore (pc' := 44) (lv' := [some (.ref 12), some (.ref o), some (.int m), some (.ref u), some (.int q), some (.long v1), none, some (.long v2), none, some (.long v3), none, some (.long v4), none, none, none, none, none, none, none, none, none, none, none]) dX0_read_42 rfl (Nat.le_of_ble_eq_true rfl) rfl rfl ?_
  refine ev_aload_n (pc' := 45) (i := 0) dX0_read_44 rfl rfl rfl ?_
  refine ev_aload_n (pc' := 46) (i := 1) dX0_read_45 rfl rfl rfl ?_
  refine ev_iconst (pc' := 47) (v := 2) dX0_read_46 rfl ki_2 ?_
  refine ev_iload_n (pc' := 48) (i := 2) dX0_read_47 rfl rfl rfl ?_
  refine ev_imul (pc' := 49) (v := 2 * m) dX0_read_48 rfl rfl ?_
  refine ev_aload_n (pc' := 50) (i := 3) dX0_read_49 rfl rfl rfl ?_
  refine ev_iload (pc' := 52) dX0_read_50 rfl rfl ?_
  refine ev_callV (pc' := 55) (rm' := rX0_worthOf) (b := 12) (av := [.ref o, .int (2 * m), .ref u, .int q]) (rest := []) co_X0_42 ci_X0_worthOf cv_X0_worthOf dX0_read_52 rfl hs_12 hb_X0 rfl rfl (Nat.le_of_ble_eq_true rfl) ⟨(Nat.le_of_ble_eq_true rfl), (Nat.le_of_ble_eq_true rfl)⟩ ⟨(Nat.le_of_ble_eq_true rfl), (Nat.le_of_ble_eq_true rfl)⟩ ?_
  refine t_X0_worthOf o (2 * m) u q d e ho hro hd hd16 hu hru he he16 (fun R5 => ?_)
  refine ev_topl (fun v5 hv5 => ?_)
  rw [ma_up_n L R4 hd16, ma_up_n L R4 he16] at hv5
  refine ev_memL (fun z hz => ?_)
  rw [ma_up_up] at hz
  subst hz
  refine ev_lstore (pc' := 57) (lv' := [some (.ref 12), some (.ref o), some (.int m), some (.ref u), some (.int q), some (.long v1), none, some (.long v2), none, some (.long v3), none, some (.long v4), none, some (.long v5), none, none, none, none, none, none, none, none, none]) dX0_read_55 rfl (Nat.le_of_ble_eq_true rfl) rfl rfl ?_
  refine ev_lload (pc' := 59) dX0_read_57 rfl rfl ?_
  refine ev_lload (pc' := 61) dX0_read_59 rfl rfl ?_
  refine ev_ladd (pc' := 62) (v := v3 + v4) dX0_read_61 rfl rfl ?_
  refine ev_ldc2 (pc' := 65) cl_X0_46 dX0_read_62 rfl ?_
  refine ev_ldiv (pc' := 66) (v := (v3 + v4) / 2) dX0_read_65 rfl (by decide) rfl ?_
  refine ev_lload (pc' := 68) dX0_read_66 rfl rfl ?_
  refine ev_lsub (pc' := 69) (v := ((v3 + v4) / 2) - v1) dX0_read_68 rfl rfl ?_
  refine ev_lload (pc' := 71) dX0_read_69 rfl rfl ?_
  refine ev_lsub (pc' := 72) (v := (((v3 + v4) / 2) - v1) - v2) dX0_read_71 rfl rfl ?_
  refine ev_lstore (pc' := 74) (lv' := [some (.ref 12), some (.ref o), some (.int m), some (.ref u), some (.int q), some (.long v1), none, some (.long v2), none, some (.long v3), none, some (.long v4), none, some (.long v5), none, some (.long ((((v3 + v4) / 2) - v1) - v2)), none, none, none, none, none, none, none]) dX0_read_72 rfl (Nat.le_of_ble_eq_true rfl) rfl rfl ?_
  refine ev_lload (pc' := 76) dX0_read_74 rfl rfl ?_
  refine ev_lload (pc' := 78) dX0_read_76 rfl rfl ?_
  refine ev_lsub (pc' := 79) (v := v3 - v4) dX0_read_78 rfl rfl ?_
  refine ev_ldc2 (pc' := 82) cl_X0_46 dX0_read_79 rfl ?_
  refine ev_ldiv (pc' := 83) (v := (v3 - v4) / 2) dX0_read_82 rfl (by decide) rfl ?_
  refine ev_lstore (pc' := 85) (lv' := [some (.ref 12), some (.ref o), some (.int m), some (.ref u), some (.int q), some (.long v1), none, some (.long v2), none, some (.long v3), none, some (.long v4), none, some (.long v5), none, some (.long ((((v3 + v4) / 2) - v1) - v2)), none, some (.long ((v3 - v4) / 2)), none, none, none, none, none]) dX0_read_83 rfl (Nat.le_of_ble_eq_true rfl) rfl rfl ?_
  refine ev_lload (pc' := 87) dX0_read_85 rfl rfl ?_
  refine ev_ldc2 (pc' := 90) cl_X0_48 dX0_read_87 rfl ?_
  refine ev_lload (pc' := 92) dX0_read_90 rfl rfl ?_
  refine ev_lmul (pc' := 93) (v := 16 * v1) dX0_read_92 rfl rfl ?_
  refine ev_lsub (pc' := 94) (v := v5 - (16 * v1)) dX0_read_93 rfl rfl ?_
  refine ev_ldc2 (pc' := 97) cl_X0_50 dX0_read_94 rfl ?_
  refine ev_lload (pc' := 99) dX0_read_97 rfl rfl ?_
  refine ev_lmul (pc' := 100) (v := 4 * ((((v3 + v4) / 2) - v1) - v2)) dX0_read_99 rfl rfl ?_
  refine ev_lsub (pc' := 101) (v := (v5 - (16 * v1)) - (4 * ((((v3 + v4) / 2) - v1) - v2))) dX0_read_100 rfl rfl ?_
  refine ev_lload (pc' := 103) dX0_read_101 rfl rfl ?_
  refine ev_lsub (pc' := 104) (v := ((v5 - (16 * v1)) - (4 * ((((v3 + v4) / 2) - v1) - v2))) - v2) dX0_read_103 rfl rfl ?_
  refine ev_ldc2 (pc' := 107) cl_X0_46 dX0_read_104 rfl ?_
  refine ev_lload (pc' := 109) dX0_read_107 rfl rfl ?_
  refine ev_lmul (pc' := 110) (v := 2 * ((v3 - v4) / 2)) dX0_read_109 rfl rfl ?_
  refine ev_lsub (pc' := 111) (v := (((v5 - (16 * v1)) - (4 * ((((v3 + v4) / 2) - v1) - v2))) - v2) - (2 * ((v3 - v4) / 2))) dX0_read_110 rfl rfl ?_
  refine ev_ldc2 (pc' := 114) cl_X0_52 dX0_read_111 rfl ?_
  refine ev_ldiv (pc' := 115) (v := ((((v5 - (16 * v1)) - (4 * ((((v3 + v4) / 2) - v1) - v2))) - v2) - (2 * ((v3 - v4) / 2))) / 6) dX0_read_114 rfl (by decide) rfl ?_
  refine ev_lstore (pc' := 117) (lv' := [some (.ref 12), some (.ref o), some (.int m), some (.ref u), some (.int q), some (.long v1), none, some (.long v2), none, some (.long v3), none, some (.long v4), none, some (.long v5), none, some (.long ((((v3 + v4) / 2) - v1) - v2)), none, some (.long ((v3 - v4) / 2)), none, some (.long (((((v5 - (16 * v1)) - (4 * ((((v3 + v4) / 2) - v1) - v2))) - v2) - (2 * ((v3 - v4) / 2))) / 6)), none, none, none]) dX0_read_115 rfl (Nat.le_of_ble_eq_true rfl) rfl rfl ?_
  refine ev_lload (pc' := 119) dX0_read_117 rfl rfl ?_
  refine ev_lload (pc' := 121) dX0_read_119 rfl rfl ?_
  refine ev_lsub (pc' := 122) (v := ((v3 - v4) / 2) - (((((v5 - (16 * v1)) - (4 * ((((v3 + v4) / 2) - v1) - v2))) - v2) - (2 * ((v3 - v4) / 2))) / 6)) dX0_read_121 rfl rfl ?_
  refine ev_lstore (pc' := 124) (lv' := [some (.ref 12), some (.ref o), some (.int m), some (.ref u), some (.int q), some (.long v1), none, some (.long v2), none, some (.long v3), none, some (.long v4), none, some (.long v5), none, some (.long ((((v3 + v4) / 2) - v1) - v2)), none, some (.long ((v3 - v4) / 2)), none, some (.long (((((v5 - (16 * v1)) - (4 * ((((v3 + v4) / 2) - v1) - v2))) - v2) - (2 * ((v3 - v4) / 2))) / 6)), none, some (.long (((v3 - v4) / 2) - (((((v5 - (16 * v1)) - (4 * ((((v3 + v4) / 2) - v1) - v2))) - v2) - (2 * ((v3 - v4) / 2))) / 6))), none]) dX0_read_122 rfl (Nat.le_of_ble_eq_true rfl) rfl rfl ?_
  refine ev_aload_n (pc' := 125) (i := 0) dX0_read_124 rfl rfl rfl ?_
  refine ev_getR (pc' := 128) fo_X0_9 dX0_read_125 rfl hs_12 rfl rf_12_0 ?_
  refine ev_iconst (pc' := 129) (v := 0) dX0_read_128 rfl ki_0 ?_
  refine ev_lload (pc' := 131) dX0_read_129 rfl rfl ?_
  refine ev_last (pc' := 132) (j := 0) (L' := (ma_up (ma_up L 16 R5) 13 (ma_up (L 13) 0 v1))) dX0_read_131 rfl hs_13 rfl (Nat.le_of_ble_eq_true rfl) (Nat.le_of_ble_eq_true rfl) rfl ?_
  refine ev_aload_n (pc' := 133) (i := 0) dX0_read_132 rfl rfl rfl ?_
  refine ev_getR (pc' := 136) fo_X0_9 dX0_read_133 rfl hs_12 rfl rf_12_0 ?_
  refine ev_iconst (pc' := 137) (v := 1) dX0_read_136 rfl ki_1 ?_
  refine ev_lload (pc' := 139) dX0_read_137 rfl rfl ?_
  refine ev_last (pc' := 140) (j := 1) (L' := (ma_up (ma_up L 16 R5) 13 (ma_up (ma_up (L 13) 0 v1) 1 (((((v5 - (16 * v1)) - (4 * ((((v3 + v4) / 2) - v1) - v2))) - v2) - (2 * ((v3 - v4) / 2))) / 6)))) dX0_read_139 rfl hs_13 rfl (Nat.le_of_ble_eq_true rfl) (Nat.le_of_ble_eq_true rfl) (ma_up_up _ _ _ _) ?_
  refine ev_aload_n (pc' := 141) (i := 0) dX0_read_140 rfl rfl rfl ?_
  refine ev_getR (pc' := 144) fo_X0_9 dX0_read_141 rfl hs_12 rfl rf_12_0 ?_
  refine ev_iconst (pc' := 145) (v := 2) dX0_read_144 rfl ki_2 ?_
  refine ev_lload (pc' := 147) dX0_read_145 rfl rfl ?_
  refine ev_last (pc' := 148) (j := 2) (L' := (ma_up (ma_up L 16 R5) 13 (ma_up (ma_up (ma_up (L 13) 0 v1) 1 (((((v5 - (16 * v1)) - (4 * ((((v3 + v4) / 2) - v1) - v2))) - v2) - (2 * ((v3 - v4) / 2))) / 6)) 2 ((((v3 + v4) / 2) - v1) - v2)))) dX0_read_147 rfl hs_13 rfl (Nat.le_of_ble_eq_true rfl) (Nat.le_of_ble_eq_true rfl) (ma_up_up _ _ _ _) ?_
  refine ev_aload_n (pc' := 149) (i := 0) dX0_read_148 rfl rfl rfl ?_
  refine ev_getR (pc' := 152) fo_X0_9 dX0_read_149 rfl hs_12 rfl rf_12_0 ?_
  refine ev_iconst (pc' := 153) (v := 3) dX0_read_152 rfl ki_3 ?_
  refine ev_lload (pc' := 155) dX0_read_153 rfl rfl ?_
  refine ev_last (pc' := 156) (j := 3) (L' := (ma_up (ma_up L 16 R5) 13 (ma_up (ma_up (ma_up (ma_up (L 13) 0 v1) 1 (((((v5 - (16 * v1)) - (4 * ((((v3 + v4) / 2) - v1) - v2))) - v2) - (2 * ((v3 - v4) / 2))) / 6)) 2 ((((v3 + v4) / 2) - v1) - v2)) 3 (((v3 - v4) / 2) - (((((v5 - (16 * v1)) - (4 * ((((v3 + v4) / 2) - v1) - v2))) - v2) - (2 * ((v3 - v4) / 2))) / 6))))) dX0_read_155 rfl hs_13 rfl (Nat.le_of_ble_eq_true rfl) (Nat.le_of_ble_eq_true rfl) (ma_up_up _ _ _ _) ?_
  refine ev_aload_n (pc' := 157) (i := 0) dX0_read_156 rfl rfl rfl ?_
  refine ev_getR (pc' := 160) fo_X0_9 dX0_read_157 rfl hs_12 rfl rf_12_0 ?_
  refine ev_iconst (pc' := 161) (v := 4) dX0_read_160 rfl ki_4 ?_
  refine ev_lload (pc' := 163) dX0_read_161 rfl rfl ?_
  refine ev_last (pc' := 164) (j := 4) (L' := (ma_up (ma_up L 16 R5) 13 (ma_up (ma_up (ma_up (ma_up (ma_up (L 13) 0 v1) 1 (((((v5 - (16 * v1)) - (4 * ((((v3 + v4) / 2) - v1) - v2))) - v2) - (2 * ((v3 - v4) / 2))) / 6)) 2 ((((v3 + v4) / 2) - v1) - v2)) 3 (((v3 - v4) / 2) - (((((v5 - (16 * v1)) - (4 * ((((v3 + v4) / 2) - v1) - v2))) - v2) - (2 * ((v3 - v4) / 2))) / 6))) 4 v2))) dX0_read_163 rfl hs_13 rfl (Nat.le_of_ble_eq_true rfl) (Nat.le_of_ble_eq_true rfl) (ma_up_up _ _ _ _) ?_
  refine ev_aload_n (pc' := 165) (i := 0) dX0_read_164 rfl rfl rfl ?_
  refine ev_ldc2 (pc' := 168) cl_X0_54 dX0_read_165 rfl ?_
  refine ev_lload (pc' := 170) dX0_read_168 rfl rfl ?_
  refine ev_lmul (pc' := 171) (v := 12 * v1) dX0_read_170 rfl rfl ?_
  refine ev_lload (pc' := 173) dX0_read_171 rfl rfl ?_
  refine ev_lmul (pc' := 174) (v := (12 * v1) * v2) dX0_read_173 rfl rfl ?_
  refine ev_ldc2 (pc' := 177) cl_X0_56 dX0_read_174 rfl ?_
  refine ev_lload (pc' := 179) dX0_read_177 rfl rfl ?_
  refine ev_lmul (pc' := 180) (v := 3 * (((((v5 - (16 * v1)) - (4 * ((((v3 + v4) / 2) - v1) - v2))) - v2) - (2 * ((v3 - v4) / 2))) / 6)) dX0_read_179 rfl rfl ?_
  refine ev_lload (pc' := 182) dX0_read_180 rfl rfl ?_
  refine ev_lmul (pc' := 183) (v := (3 * (((((v5 - (16 * v1)) - (4 * ((((v3 + v4) / 2) - v1) - v2))) - v2) - (2 * ((v3 - v4) / 2))) / 6)) * (((v3 - v4) / 2) - (((((v5 - (16 * v1)) - (4 * ((((v3 + v4) / 2) - v1) - v2))) - v2) - (2 * ((v3 - v4) / 2))) / 6))) dX0_read_182 rfl rfl ?_
  refine ev_lsub (pc' := 184) (v := ((12 * v1) * v2) - ((3 * (((((v5 - (16 * v1)) - (4 * ((((v3 + v4) / 2) - v1) - v2))) - v2) - (2 * ((v3 - v4) / 2))) / 6)) * (((v3 - v4) / 2) - (((((v5 - (16 * v1)) - (4 * ((((v3 + v4) / 2) - v1) - v2))) - v2) - (2 * ((v3 - v4) / 2))) / 6)))) dX0_read_183 rfl rfl ?_
  refine ev_lload (pc' := 186) dX0_read_184 rfl rfl ?_
  refine ev_lload (pc' := 188) dX0_read_186 rfl rfl ?_
  refine ev_lmul (pc' := 189) (v := ((((v3 + v4) / 2) - v1) - v2) * ((((v3 + v4) / 2) - v1) - v2)) dX0_read_188 rfl rfl ?_
  refine ev_ladd (pc' := 190) (v := (((12 * v1) * v2) - ((3 * (((((v5 - (16 * v1)) - (4 * ((((v3 + v4) / 2) - v1) - v2))) - v2) - (2 * ((v3 - v4) / 2))) / 6)) * (((v3 - v4) / 2) - (((((v5 - (16 * v1)) - (4 * ((((v3 + v4) / 2) - v1) - v2))) - v2) - (2 * ((v3 - v4) / 2))) / 6)))) + (((((v3 + v4) / 2) - v1) - v2) * ((((v3 + v4) / 2) - v1) - v2))) dX0_read_189 rfl rfl ?_
  refine ev_putL (pc' := 193) (L' := (ma_up (ma_up (ma_up L 16 R5) 13 (ma_up (ma_up (ma_up (ma_up (ma_up (L 13) 0 v1) 1 (((((v5 - (16 * v1)) - (4 * ((((v3 + v4) / 2) - v1) - v2))) - v2) - (2 * ((v3 - v4) / 2))) / 6)) 2 ((((v3 + v4) / 2) - v1) - v2)) 3 (((v3 - v4) / 2) - (((((v5 - (16 * v1)) - (4 * ((((v3 + v4) / 2) - v1) - v2))) - v2) - (2 * ((v3 - v4) / 2))) / 6))) 4 v2)) 12 (ma_up (L 12) 5 ((((12 * v1) * v2) - ((3 * (((((v5 - (16 * v1)) - (4 * ((((v3 + v4) / 2) - v1) - v2))) - v2) - (2 * ((v3 - v4) / 2))) / 6)) * (((v3 - v4) / 2) - (((((v5 - (16 * v1)) - (4 * ((((v3 + v4) / 2) - v1) - v2))) - v2) - (2 * ((v3 - v4) / 2))) / 6)))) + (((((v3 + v4) / 2) - v1) - v2) * ((((v3 + v4) / 2) - v1) - v2)))))) fo_X0_58 dX0_read_190 rfl hs_12 rfl (fun r hr => by cases hr; rfl) rfl ?_
  refine ev_aload_n (pc' := 194) (i := 0) dX0_read_193 rfl rfl rfl ?_
  refine ev_ldc2 (pc' := 197) cl_X0_62 dX0_read_194 rfl ?_
  refine ev_lload (pc' := 199) dX0_read_197 rfl rfl ?_
  refine ev_lmul (pc' := 200) (v := 72 * v1) dX0_read_199 rfl rfl ?_
  refine ev_lload (pc' := 202) dX0_read_200 rfl rfl ?_
  refine ev_lmul (pc' := 203) (v := (72 * v1) * ((((v3 + v4) / 2) - v1) - v2)) dX0_read_202 rfl rfl ?_
  refine ev_lload (pc' := 205) dX0_read_203 rfl rfl ?_
  refine ev_lmul (pc' := 206) (v := ((72 * v1) * ((((v3 + v4) / 2) - v1) - v2)) * v2) dX0_read_205 rfl rfl ?_
  refine ev_ldc2 (pc' := 209) cl_X0_64 dX0_read_206 rfl ?_
  refine ev_lload (pc' := 211) dX0_read_209 rfl rfl ?_
  refine ev_lmul (pc' := 212) (v := 9 * (((((v5 - (16 * v1)) - (4 * ((((v3 + v4) / 2) - v1) - v2))) - v2) - (2 * ((v3 - v4) / 2))) / 6)) dX0_read_211 rfl rfl ?_
  refine ev_lload (pc' := 214) dX0_read_212 rfl rfl ?_
  refine ev_lmul (pc' := 215) (v := (9 * (((((v5 - (16 * v1)) - (4 * ((((v3 + v4) / 2) - v1) - v2))) - v2) - (2 * ((v3 - v4) / 2))) / 6)) * ((((v3 + v4) / 2) - v1) - v2)) dX0_read_214 rfl rfl ?_
  refine ev_lload (pc' := 217) dX0_read_215 rfl rfl ?_
  refine ev_lmul (pc' := 218) (v := ((9 * (((((v5 - (16 * v1)) - (4 * ((((v3 + v4) / 2) - v1) - v2))) - v2) - (2 * ((v3 - v4) / 2))) / 6)) * ((((v3 + v4) / 2) - v1) - v2)) * (((v3 - v4) / 2) - (((((v5 - (16 * v1)) - (4 * ((((v3 + v4) / 2) - v1) - v2))) - v2) - (2 * ((v3 - v4) / 2))) / 6))) dX0_read_217 rfl rfl ?_
  refine ev_ladd (pc' := 219) (v := (((72 * v1) * ((((v3 + v4) / 2) - v1) - v2)) * v2) + (((9 * (((((v5 - (16 * v1)) - (4 * ((((v3 + v4) / 2) - v1) - v2))) - v2) - (2 * ((v3 - v4) / 2))) / 6)) * ((((v3 + v4) / 2) - v1) - v2)) * (((v3 - v4) / 2) - (((((v5 - (16 * v1)) - (4 * ((((v3 + v4) / 2) - v1) - v2))) - v2) - (2 * ((v3 - v4) / 2))) / 6)))) dX0_read_218 rfl rfl ?_
  refine ev_ldc2 (pc' := 222) cl_X0_66 dX0_read_219 rfl ?_
  refine ev_lload (pc' := 224) dX0_read_222 rfl rfl ?_
  refine ev_lmul (pc' := 225) (v := 27 * v1) dX0_read_224 rfl rfl ?_
  refine ev_lload (pc' := 227) dX0_read_225 rfl rfl ?_
  refine ev_lmul (pc' := 228) (v := (27 * v1) * (((v3 - v4) / 2) - (((((v5 - (16 * v1)) - (4 * ((((v3 + v4) / 2) - v1) - v2))) - v2) - (2 * ((v3 - v4) / 2))) / 6))) dX0_read_227 rfl rfl ?_
  refine ev_lload (pc' := 230) dX0_read_228 rfl rfl ?_
  refine ev_lmul (pc' := 231) (v := ((27 * v1) * (((v3 - v4) / 2) - (((((v5 - (16 * v1)) - (4 * ((((v3 + v4) / 2) - v1) - v2))) - v2) - (2 * ((v3 - v4) / 2))) / 6))) * (((v3 - v4) / 2) - (((((v5 - (16 * v1)) - (4 * ((((v3 + v4) / 2) - v1) - v2))) - v2) - (2 * ((v3 - v4) / 2))) / 6))) dX0_read_230 rfl rfl ?_
  refine ev_lsub (pc' := 232) (v := ((((72 * v1) * ((((v3 + v4) / 2) - v1) - v2)) * v2) + (((9 * (((((v5 - (16 * v1)) - (4 * ((((v3 + v4) / 2) - v1) - v2))) - v2) - (2 * ((v3 - v4) / 2))) / 6)) * ((((v3 + v4) / 2) - v1) - v2)) * (((v3 - v4) / 2) - (((((v5 - (16 * v1)) - (4 * ((((v3 + v4) / 2) - v1) - v2))) - v2) - (2 * ((v3 - v4) / 2))) / 6)))) - (((27 * v1) * (((v3 - v4) / 2) - (((((v5 - (16 * v1)) - (4 * ((((v3 + v4) / 2) - v1) - v2))) - v2) - (2 * ((v3 - v4) / 2))) / 6))) * (((v3 - v4) / 2) - (((((v5 - (16 * v1)) - (4 * ((((v3 + v4) / 2) - v1) - v2))) - v2) - (2 * ((v3 - v4) / 2))) / 6)))) dX0_read_231 rfl rfl ?_
  refine ev_ldc2 (pc' := 235) cl_X0_66 dX0_read_232 rfl ?_
  refine ev_lload (pc' := 237) dX0_read_235 rfl rfl ?_
  refine ev_lmul (pc' := 238) (v := 27 * v2) dX0_read_237 rfl rfl ?_
  refine ev_lload (pc' := 240) dX0_read_238 rfl rfl ?_
  refine ev_lmul (pc' := 241) (v := (27 * v2) * (((((v5 - (16 * v1)) - (4 * ((((v3 + v4) / 2) - v1) - v2))) - v2) - (2 * ((v3 - v4) / 2))) / 6)) dX0_read_240 rfl rfl ?_
  refine ev_lload (pc' := 243) dX0_read_241 rfl rfl ?_
  refine ev_lmul (pc' := 244) (v := ((27 * v2) * (((((v5 - (16 * v1)) - (4 * ((((v3 + v4) / 2) - v1) - v2))) - v2) - (2 * ((v3 - v4) / 2))) / 6)) * (((((v5 - (16 * v1)) - (4 * ((((v3 + v4) / 2) - v1) - v2))) - v2) - (2 * ((v3 - v4) / 2))) / 6)) dX0_read_243 rfl rfl ?_
  refine ev_lsub (pc' := 245) (v := (((((72 * v1) * ((((v3 + v4) / 2) - v1) - v2)) * v2) + (((9 * (((((v5 - (16 * v1)) - (4 * ((((v3 + v4) / 2) - v1) - v2))) - v2) - (2 * ((v3 - v4) / 2))) / 6)) * ((((v3 + v4) / 2) - v1) - v2)) * (((v3 - v4) / 2) - (((((v5 - (16 * v1)) - (4 * ((((v3 + v4) / 2) - v1) - v2))) - v2) - (2 * ((v3 - v4) / 2))) / 6)))) - (((27 * v1) * (((v3 - v4) / 2) - (((((v5 - (16 * v1)) - (4 * ((((v3 + v4) / 2) - v1) - v2))) - v2) - (2 * ((v3 - v4) / 2))) / 6))) * (((v3 - v4) / 2) - (((((v5 - (16 * v1)) - (4 * ((((v3 + v4) / 2) - v1) - v2))) - v2) - (2 * ((v3 - v4) / 2))) / 6)))) - (((27 * v2) * (((((v5 - (16 * v1)) - (4 * ((((v3 + v4) / 2) - v1) - v2))) - v2) - (2 * ((v3 - v4) / 2))) / 6)) * (((((v5 - (16 * v1)) - (4 * ((((v3 + v4) / 2) - v1) - v2))) - v2) - (2 * ((v3 - v4) / 2))) / 6))) dX0_read_244 rfl rfl ?_
  refine ev_ldc2 (pc' := 248) cl_X0_46 dX0_read_245 rfl ?_
  refine ev_lload (pc' := 250) dX0_read_248 rfl rfl ?_
  refine ev_lmul (pc' := 251) (v := 2 * ((((v3 + v4) / 2) - v1) - v2)) dX0_read_250 rfl rfl ?_
  refine ev_lload (pc' := 253) dX0_read_251 rfl rfl ?_
  refine ev_lmul (pc' := 254) (v := (2 * ((((v3 + v4) / 2) - v1) - v2)) * ((((v3 + v4) / 2) - v1) - v2)) dX0_read_253 rfl rfl ?_
  refine ev_lload (pc' := 256) dX0_read_254 rfl rfl ?_
  refine ev_lmul (pc' := 257) (v := ((2 * ((((v3 + v4) / 2) - v1) - v2)) * ((((v3 + v4) / 2) - v1) - v2)) * ((((v3 + v4) / 2) - v1) - v2)) dX0_read_256 rfl rfl ?_
  refine ev_lsub (pc' := 258) (v := ((((((72 * v1) * ((((v3 + v4) / 2) - v1) - v2)) * v2) + (((9 * (((((v5 - (16 * v1)) - (4 * ((((v3 + v4) / 2) - v1) - v2))) - v2) - (2 * ((v3 - v4) / 2))) / 6)) * ((((v3 + v4) / 2) - v1) - v2)) * (((v3 - v4) / 2) - (((((v5 - (16 * v1)) - (4 * ((((v3 + v4) / 2) - v1) - v2))) - v2) - (2 * ((v3 - v4) / 2))) / 6)))) - (((27 * v1) * (((v3 - v4) / 2) - (((((v5 - (16 * v1)) - (4 * ((((v3 + v4) / 2) - v1) - v2))) - v2) - (2 * ((v3 - v4) / 2))) / 6))) * (((v3 - v4) / 2) - (((((v5 - (16 * v1)) - (4 * ((((v3 + v4) / 2) - v1) - v2))) - v2) - (2 * ((v3 - v4) / 2))) / 6)))) - (((27 * v2) * (((((v5 - (16 * v1)) - (4 * ((((v3 + v4) / 2) - v1) - v2))) - v2) - (2 * ((v3 - v4) / 2))) / 6)) * (((((v5 - (16 * v1)) - (4 * ((((v3 + v4) / 2) - v1) - v2))) - v2) - (2 * ((v3 - v4) / 2))) / 6))) - (((2 * ((((v3 + v4) / 2) - v1) - v2)) * ((((v3 + v4) / 2) - v1) - v2)) * ((((v3 + v4) / 2) - v1) - v2))) dX0_read_257 rfl rfl ?_
  refine ev_putL (pc' := 261) (L' := (ma_up (ma_up (ma_up L 16 R5) 13 (ma_up (ma_up (ma_up (ma_up (ma_up (L 13) 0 v1) 1 (((((v5 - (16 * v1)) - (4 * ((((v3 + v4) / 2) - v1) - v2))) - v2) - (2 * ((v3 - v4) / 2))) / 6)) 2 ((((v3 + v4) / 2) - v1) - v2)) 3 (((v3 - v4) / 2) - (((((v5 - (16 * v1)) - (4 * ((((v3 + v4) / 2) - v1) - v2))) - v2) - (2 * ((v3 - v4) / 2))) / 6))) 4 v2)) 12 (ma_up (ma_up (L 12) 5 ((((12 * v1) * v2) - ((3 * (((((v5 - (16 * v1)) - (4 * ((((v3 + v4) / 2) - v1) - v2))) - v2) - (2 * ((v3 - v4) / 2))) / 6)) * (((v3 - v4) / 2) - (((((v5 - (16 * v1)) - (4 * ((((v3 + v4) / 2) - v1) - v2))) - v2) - (2 * ((v3 - v4) / 2))) / 6)))) + (((((v3 + v4) / 2) - v1) - v2) * ((((v3 + v4) / 2) - v1) - v2)))) 6 (((((((72 * v1) * ((((v3 + v4) / 2) - v1) - v2)) * v2) + (((9 * (((((v5 - (16 * v1)) - (4 * ((((v3 + v4) / 2) - v1) - v2))) - v2) - (2 * ((v3 - v4) / 2))) / 6)) * ((((v3 + v4) / 2) - v1) - v2)) * (((v3 - v4) / 2) - (((((v5 - (16 * v1)) - (4 * ((((v3 + v4) / 2) - v1) - v2))) - v2) - (2 * ((v3 - v4) / 2))) / 6)))) - (((27 * v1) * (((v3 - v4) / 2) - (((((v5 - (16 * v1)) - (4 * ((((v3 + v4) / 2) - v1) - v2))) - v2) - (2 * ((v3 - v4) / 2))) / 6))) * (((v3 - v4) / 2) - (((((v5 - (16 * v1)) - (4 * ((((v3 + v4) / 2) - v1) - v2))) - v2) - (2 * ((v3 - v4) / 2))) / 6)))) - (((27 * v2) * (((((v5 - (16 * v1)) - (4 * ((((v3 + v4) / 2) - v1) - v2))) - v2) - (2 * ((v3 - v4) / 2))) / 6)) * (((((v5 - (16 * v1)) - (4 * ((((v3 + v4) / 2) - v1) - v2))) - v2) - (2 * ((v3 - v4) / 2))) / 6))) - (((2 * ((((v3 + v4) / 2) - v1) - v2)) * ((((v3 + v4) / 2) - v1) - v2)) * ((((v3 + v4) / 2) - v1) - v2)))))) fo_X0_68 dX0_read_258 rfl hs_12 rfl (fun r hr => by cases hr; rfl) (ma_up_up _ _ _ _) ?_
  refine ev_vret dX0_read_261 rfl ⟨Nat.le_refl _, Nat.le_refl _⟩ ?_
  subst hv1 hv2 hv3 hv4 hv5
  exact k0 _ _ (fun j hj => by
    match j, hj with
    | 0, _ => rfl
    | 1, _ => rfl
    | 2, _ => rfl
    | 3, _ => rfl
    | 4, _ => rfl
    | j + 5, h => exact absurd h (by omega))
set_option maxRecDepth 4000 in
theorem t_X0_degree {g : ma_G} {Post : ma_P} {I : ma_I} {L : ma_L}    (k1 : (((L 13) 0) = 0) → (((L 13) 1) = 0) → (((L 13) 2) = 0) → (((L 13) 3) = 0) → (((L 13) 4) = 0) → Post (some (.int (-1))) HS I L RF 146) (k2 : (((L 13) 0) = 0) → (((L 13) 1) = 0) → (((L 13) 2) = 0) → (((L 13) 3) = 0) → (¬ ((L 13) 4) = 0) → Post (some (.int 0)) HS I L RF 146) (k3 : (((L 13) 0) = 0) → (((L 13) 1) = 0) → (((L 13) 2) = 0) → (¬ ((L 13) 3) = 0) → Post (some (.int 1)) HS I L RF 146) (k4 : (((L 13) 0) = 0) → (((L 13) 1) = 0) → (¬ ((L 13) 2) = 0) → Post (some (.int 2)) HS I L RF 146) (k5 : (((L 13) 0) = 0) → (¬ ((L 13) 1) = 0) → Post (some (.int 3)) HS I L RF 146) (k6 : (¬ ((L 13) 0) = 0) → Post (some (.int 4)) HS I L RF 146) : CT g yX0_degree cX0_degree 2 (some .int) rX0_degree [.ref 12] Post HS I L RF 146 := by
  refine ct_of (lv := [some (.ref 12), none]) (by decide) (Nat.le_of_ble_eq_true rfl) rfl ?_
  refine ev_iconst (pc' := 1) (v := 0) dX0_degree_0 rfl ki_0 ?_
  refine ev_istore_n (pc' := 2) (i := 1) (lv' := [some (.ref 12), some (.int 0)]) dX0_degree_1 rfl rfl (Nat.le_of_ble_eq_true rfl) rfl rfl ?_
  refine ev_iload_n (pc' := 3) (i := 1) dX0_degree_2 rfl rfl rfl ?_
  refine ev_iconst (pc' := 4) (v := 5) dX0_degree_3 rfl ki_5 ?_
  refine ev_icmp_ge (tgt := 28) (pc' := 7) dX0_degree_4 rfl rfl (fun h => absurd h (by decide)) (fun _ => ?_)
  refine ev_aload_n (pc' := 8) (i := 0) dX0_degree_7 rfl rfl rfl ?_
  refine ev_getR (pc' := 11) fo_X0_9 dX0_degree_8 rfl hs_12 rfl rf_12_0 ?_
  refine ev_iload_n (pc' := 12) (i := 1) dX0_degree_11 rfl rfl rfl ?_
  refine ev_lald (pc' := 13) (j := 0) (v := (L 13) 0) dX0_degree_12 rfl hs_13 rfl (Nat.le_of_ble_eq_true rfl) (Nat.le_of_ble_eq_true rfl) rfl ?_
  refine ev_lconst (pc' := 14) (v := 0) dX0_degree_13 rfl kl_0 ?_
  refine ev_lc_eq (p1 := 15) (tgt := 22) (pc' := 18) dX0_degree_14 rfl dX0_degree_15 rfl rfl (fun c1 => ?_) (fun c1 => ?_)
  · refine ev_iinc (pc' := 25) (v := 1) (lv' := [some (.ref 12), some (.int 1)]) dX0_degree_22 rfl rfl (by decide) (Nat.le_of_ble_eq_true rfl) rfl rfl ?_
    refine ev_goto (tgt := 2) dX0_degree_25 rfl ?_
    refine ev_iload_n (pc' := 3) (i := 1) dX0_degree_2 rfl rfl rfl ?_
    refine ev_iconst (pc' := 4) (v := 5) dX0_degree_3 rfl ki_5 ?_
    refine ev_icmp_ge (tgt := 28) (pc' := 7) dX0_degree_4 rfl rfl (fun h => absurd h (by decide)) (fun _ => ?_)
    refine ev_aload_n (pc' := 8) (i := 0) dX0_degree_7 rfl rfl rfl ?_
    refine ev_getR (pc' := 11) fo_X0_9 dX0_degree_8 rfl hs_12 rfl rf_12_0 ?_
    refine ev_iload_n (pc' := 12) (i := 1) dX0_degree_11 rfl rfl rfl ?_
    refine ev_lald (pc' := 13) (j := 1) (v := (L 13) 1) dX0_degree_12 rfl hs_13 rfl (Nat.le_of_ble_eq_true rfl) (Nat.le_of_ble_eq_true rfl) rfl ?_
    refine ev_lconst (pc' := 14) (v := 0) dX0_degree_13 rfl kl_0 ?_
    refine ev_lc_eq (p1 := 15) (tgt := 22) (pc' := 18) dX0_degree_14 rfl dX0_degree_15 rfl rfl (fun c2 => ?_) (fun c2 => ?_)
    · refine ev_iinc (pc' := 25) (v := 2) (lv' := [some (.ref 12), some (.int 2)]) dX0_degree_22 rfl rfl (by decide) (Nat.le_of_ble_eq_true rfl) rfl rfl ?_
      refine ev_goto (tgt := 2) dX0_degree_25 rfl ?_
      refine ev_iload_n (pc' := 3) (i := 1) dX0_degree_2 rfl rfl rfl ?_
      refine ev_iconst (pc' := 4) (v := 5) dX0_degree_3 rfl ki_5 ?_
      refine ev_icmp_ge (tgt := 28) (pc' := 7) dX0_degree_4 rfl rfl (fun h => absurd h (by decide)) (fun _ => ?_)
      refine ev_aload_n (pc' := 8) (i := 0) dX0_degree_7 rfl rfl rfl ?_
      refine ev_getR (pc' := 11) fo_X0_9 dX0_degree_8 rfl hs_12 rfl rf_12_0 ?_
      refine ev_iload_n (pc' := 12) (i := 1) dX0_degree_11 rfl rfl rfl ?_
      refine ev_lald (pc' := 13) (j := 2) (v := (L 13) 2) dX0_degree_12 rfl hs_13 rfl (Nat.le_of_ble_eq_true rfl) (Nat.le_of_ble_eq_true rfl) rfl ?_
      refine ev_lconst (pc' := 14) (v := 0) dX0_degree_13 rfl kl_0 ?_
      refine ev_lc_eq (p1 := 15) (tgt := 22) (pc' := 18) dX0_degree_14 rfl dX0_degree_15 rfl rfl (fun c3 => ?_) (fun c3 => ?_)
      · refine ev_iinc (pc' := 25) (v := 3) (lv' := [some (.ref 12), some (.int 3)]) dX0_degree_22 rfl rfl (by decide) (Nat.le_of_ble_eq_true rfl) rfl rfl ?_
        refine ev_goto (tgt := 2) dX0_degree_25 rfl ?_
        refine ev_iload_n (pc' := 3) (i := 1) dX0_degree_2 rfl rfl rfl ?_
        refine ev_iconst (pc' := 4) (v := 5) dX0_degree_3 rfl ki_5 ?_
        refine ev_icmp_ge (tgt := 28) (pc' := 7) dX0_degree_4 rfl rfl (fun h => absurd h (by decide)) (fun _ => ?_)
        refine ev_aload_n (pc' := 8) (i := 0) dX0_degree_7 rfl rfl rfl ?_
        refine ev_getR (pc' := 11) fo_X0_9 dX0_degree_8 rfl hs_12 rfl rf_12_0 ?_
        refine ev_iload_n (pc' := 12) (i := 1) dX0_degree_11 rfl rfl rfl ?_
        refine ev_lald (pc' := 13) (j := 3) (v := (L 13) 3) dX0_degree_12 rfl hs_13 rfl (Nat.le_of_ble_eq_true rfl) (Nat.le_of_ble_eq_true rfl) rfl ?_
        refine ev_lconst (pc' := 14) (v := 0) dX0_degree_13 rfl kl_0 ?_
        refine ev_lc_eq (p1 := 15) (tgt := 22) (pc' := 18) dX0_degree_14 rfl dX0_degree_15 rfl rfl (fun c4 => ?_) (fun c4 => ?_)
        · refine ev_iinc (pc' := 25) (v := 4) (lv' := [some (.ref 12), some (.int 4)]) dX0_degree_22 rfl rfl (by decide) (Nat.le_of_ble_eq_true rfl) rfl rfl ?_
          refine ev_goto (tgt := 2) dX0_degree_25 rfl ?_
          refine ev_iload_n (pc' := 3) (i := 1) dX0_degree_2 rfl rfl rfl ?_
          refine ev_iconst (pc' := 4) (v := 5) dX0_degree_3 rfl ki_5 ?_
          refine ev_icmp_ge (tgt := 28) (pc' := 7) dX0_degree_4 rfl rfl (fun h => absurd h (by decide)) (fun _ => ?_)
          refine ev_aload_n (pc' := 8) (i := 0) dX0_degree_7 rfl rfl rfl ?_
          refine ev_getR (pc' := 11) fo_X0_9 dX0_degree_8 rfl hs_12 rfl rf_12_0 ?_
          refine ev_iload_n (pc' := 12) (i := 1) dX0_degree_11 rfl rfl rfl ?_
          refine ev_lald (pc' := 13) (j := 4) (v := (L 13) 4) dX0_degree_12 rfl hs_13 rfl (Nat.le_of_ble_eq_true rfl) (Nat.le_of_ble_eq_true rfl) rfl ?_
          refine ev_lconst (pc' := 14) (v := 0) dX0_degree_13 rfl kl_0 ?_
          refine ev_lc_eq (p1 := 15) (tgt := 22) (pc' := 18) dX0_degree_14 rfl dX0_degree_15 rfl rfl (fun c5 => ?_) (fun c5 => ?_)
          · refine ev_iinc (pc' := 25) (v := 5) (lv' := [some (.ref 12), some (.int 5)]) dX0_degree_22 rfl rfl (by decide) (Nat.le_of_ble_eq_true rfl) rfl rfl ?_
            refine ev_goto (tgt := 2) dX0_degree_25 rfl ?_
            refine ev_iload_n (pc' := 3) (i := 1) dX0_degree_2 rfl rfl rfl ?_
            refine ev_iconst (pc' := 4) (v := 5) dX0_degree_3 rfl ki_5 ?_
            refine ev_icmp_ge (tgt := 28) (pc' := 7) dX0_degree_4 rfl rfl (fun _ => ?_) (fun h => absurd (by decide) h)
            refine ev_iconst (pc' := 29) (v := (-1)) dX0_degree_28 rfl ki_m1 ?_
            refine ev_iret dX0_degree_29 rfl rfl ⟨Nat.le_refl _, Nat.le_refl _⟩ ?_
            exact k1 c1 c2 c3 c4 c5
          · refine ev_iconst (pc' := 19) (v := 4) dX0_degree_18 rfl ki_4 ?_
            refine ev_iload_n (pc' := 20) (i := 1) dX0_degree_19 rfl rfl rfl ?_
            refine ev_isub (pc' := 21) (v := 0) dX0_degree_20 rfl (by decide) ?_
            refine ev_iret dX0_degree_21 rfl rfl ⟨Nat.le_refl _, Nat.le_refl _⟩ ?_
            exact k2 c1 c2 c3 c4 c5
        · refine ev_iconst (pc' := 19) (v := 4) dX0_degree_18 rfl ki_4 ?_
          refine ev_iload_n (pc' := 20) (i := 1) dX0_degree_19 rfl rfl rfl ?_
          refine ev_isub (pc' := 21) (v := 1) dX0_degree_20 rfl (by decide) ?_
          refine ev_iret dX0_degree_21 rfl rfl ⟨Nat.le_refl _, Nat.le_refl _⟩ ?_
          exact k3 c1 c2 c3 c4
      · refine ev_iconst (pc' := 19) (v := 4) dX0_degree_18 rfl ki_4 ?_
        refine ev_iload_n (pc' := 20) (i := 1) dX0_degree_19 rfl rfl rfl ?_
        refine ev_isub (pc' := 21) (v := 2) dX0_degree_20 rfl (by decide) ?_
        refine ev_iret dX0_degree_21 rfl rfl ⟨Nat.le_refl _, Nat.le_refl _⟩ ?_
        exact k4 c1 c2 c3
    · refine ev_iconst (pc' := 19) (v := 4) dX0_degree_18 rfl ki_4 ?_
      refine ev_iload_n (pc' := 20) (i := 1) dX0_degree_19 rfl rfl rfl ?_
      refine ev_isub (pc' := 21) (v := 3) dX0_degree_20 rfl (by decide) ?_
      refine ev_iret dX0_degree_21 rfl rfl ⟨Nat.le_refl _, Nat.le_refl _⟩ ?_
      exact k5 c1 c2
  · refine ev_iconst (pc' := 19) (v := 4) dX0_degree_18 rfl ki_4 ?_
    refine ev_iload_n (pc' := 20) (i := 1) dX0_degree_19 rfl rfl rfl ?_
    refine ev_isub (pc' := 21) (v := 4) dX0_degree_20 rfl (by decide) ?_
    refine ev_iret dX0_degree_21 rfl rfl ⟨Nat.le_refl _, Nat.le_refl _⟩ ?_
    exact k6 c1
set_option maxRecDepth 4000 in
theorem t_X0_isNought {g : ma_G} {Post : ma_P} {I : ma_I} {L : ma_L}    (k1 : (((L 13) 0) = 0) → (((L 13) 1) = 0) → (((L 13) 2) = 0) → (((L 13) 3) = 0) → (((L 13) 4) = 0) → Post (some (.int 1)) HS I L RF 146) (k2 : (((L 13) 0) = 0) → (((L 13) 1) = 0) → (((L 13) 2) = 0) → (((L 13) 3) = 0) → (¬ ((L 13) 4) = 0) → Post (some (.int 0)) HS I L RF 146) (k3 : (((L 13) 0) = 0) → (((L 13) 1) = 0) → (((L 13) 2) = 0) → (¬ ((L 13) 3) = 0) → Post (some (.int 0)) HS I L RF 146) (k4 : (((L 13) 0) = 0) → (((L 13) 1) = 0) → (¬ ((L 13) 2) = 0) → Post (some (.int 0)) HS I L RF 146) (k5 : (((L 13) 0) = 0) → (¬ ((L 13) 1) = 0) → Post (some (.int 0)) HS I L RF 146) (k6 : (¬ ((L 13) 0) = 0) → Post (some (.int 0)) HS I L RF 146) : CT g yX0_isNought cX0_isNought 1 (some .boolean) rX0_isNought [.ref 12] Post HS I L RF 146 := by
  refine ct_of (lv := [some (.ref 12)]) (by decide) (Nat.le_of_ble_eq_true rfl) rfl ?_
  refine ev_aload_n (pc' := 1) (i := 0) dX0_isNought_0 rfl rfl rfl ?_
  refine ev_callV (pc' := 4) (rm' := rX0_degree) (b := 12) (av := []) (rest := []) co_X0_79 ci_X0_degree cv_X0_degree dX0_isNought_1 rfl hs_12 hb_X0 rfl rfl (Nat.le_of_ble_eq_true rfl) ⟨(Nat.le_of_ble_eq_true rfl), (Nat.le_of_ble_eq_true rfl)⟩ ⟨(Nat.le_of_ble_eq_true rfl), (Nat.le_of_ble_eq_true rfl)⟩ ?_
  refine t_X0_degree   (fun h1 h2 h3 h4 h5 => ?_) (fun h6 h7 h8 h9 h10 => ?_) (fun h11 h12 h13 h14 => ?_) (fun h15 h16 h17 => ?_) (fun h18 h19 => ?_) (fun h20 => ?_)
  · skip
    refine ev_if_ge (tgt := 11) (pc' := 7) dX0_isNought_4 rfl rfl (fun h => absurd h (by decide)) (fun _ => ?_)
    refine ev_iconst (pc' := 8) (v := 1) dX0_isNought_7 rfl ki_1 ?_
    refine ev_goto (tgt := 12) dX0_isNought_8 rfl ?_
    refine ev_iret dX0_isNought_12 rfl rfl ⟨Nat.le_refl _, Nat.le_refl _⟩ ?_
    exact k1 h1 h2 h3 h4 h5
  · skip
    refine ev_if_ge (tgt := 11) (pc' := 7) dX0_isNought_4 rfl rfl (fun _ => ?_) (fun h => absurd (by decide) h)
    refine ev_iconst (pc' := 12) (v := 0) dX0_isNought_11 rfl ki_0 ?_
    refine ev_iret dX0_isNought_12 rfl rfl ⟨Nat.le_refl _, Nat.le_refl _⟩ ?_
    exact k2 h6 h7 h8 h9 h10
  · skip
    refine ev_if_ge (tgt := 11) (pc' := 7) dX0_isNought_4 rfl rfl (fun _ => ?_) (fun h => absurd (by decide) h)
    refine ev_iconst (pc' := 12) (v := 0) dX0_isNought_11 rfl ki_0 ?_
    refine ev_iret dX0_isNought_12 rfl rfl ⟨Nat.le_refl _, Nat.le_refl _⟩ ?_
    exact k3 h11 h12 h13 h14
  · skip
    refine ev_if_ge (tgt := 11) (pc' := 7) dX0_isNought_4 rfl rfl (fun _ => ?_) (fun h => absurd (by decide) h)
    refine ev_iconst (pc' := 12) (v := 0) dX0_isNought_11 rfl ki_0 ?_
    refine ev_iret dX0_isNought_12 rfl rfl ⟨Nat.le_refl _, Nat.le_refl _⟩ ?_
    exact k4 h15 h16 h17
  · skip
    refine ev_if_ge (tgt := 11) (pc' := 7) dX0_isNought_4 rfl rfl (fun _ => ?_) (fun h => absurd (by decide) h)
    refine ev_iconst (pc' := 12) (v := 0) dX0_isNought_11 rfl ki_0 ?_
    refine ev_iret dX0_isNought_12 rfl rfl ⟨Nat.le_refl _, Nat.le_refl _⟩ ?_
    exact k5 h18 h19
  · skip
    refine ev_if_ge (tgt := 11) (pc' := 7) dX0_isNought_4 rfl rfl (fun _ => ?_) (fun h => absurd (by decide) h)
    refine ev_iconst (pc' := 12) (v := 0) dX0_isNought_11 rfl ki_0 ?_
    refine ev_iret dX0_isNought_12 rfl rfl ⟨Nat.le_refl _, Nat.le_refl _⟩ ?_
    exact k6 h20
set_option maxRecDepth 4000 in
theorem t_X0_eightACLessThreeBB {g : ma_G} {Post : ma_P} {I : ma_I} {L : ma_L}   (k : Post (some (.long (((8 * ((L 13) 0)) * ((L 13) 2)) - ((3 * ((L 13) 1)) * ((L 13) 1))))) HS I L RF 146) : CT g yX0_eightACLessThreeBB cX0_eightACLessThreeBB 1 (some .long) rX0_eightACLessThreeBB [.ref 12] Post HS I L RF 146 := by
  refine ct_of (lv := [some (.ref 12)]) (by decide) (Nat.le_of_ble_eq_true rfl) rfl ?_
  refine ev_ldc2 (pc' := 3) cl_X0_125 dX0_eightACLessThreeBB_0 rfl ?_
  refine ev_aload_n (pc' := 4) (i := 0) dX0_eightACLessThreeBB_3 rfl rfl rfl ?_
  refine ev_getR (pc' := 7) fo_X0_9 dX0_eightACLessThreeBB_4 rfl hs_12 rfl rf_12_0 ?_
  refine ev_iconst (pc' := 8) (v := 0) dX0_eightACLessThreeBB_7 rfl ki_0 ?_
  refine ev_lald (pc' := 9) (j := 0) (v := (L 13) 0) dX0_eightACLessThreeBB_8 rfl hs_13 rfl (Nat.le_of_ble_eq_true rfl) (Nat.le_of_ble_eq_true rfl) rfl ?_
  refine ev_lmul (pc' := 10) (v := 8 * ((L 13) 0)) dX0_eightACLessThreeBB_9 rfl rfl ?_
  refine ev_aload_n (pc' := 11) (i := 0) dX0_eightACLessThreeBB_10 rfl rfl rfl ?_
  refine ev_getR (pc' := 14) fo_X0_9 dX0_eightACLessThreeBB_11 rfl hs_12 rfl rf_12_0 ?_
  refine ev_iconst (pc' := 15) (v := 2) dX0_eightACLessThreeBB_14 rfl ki_2 ?_
  refine ev_lald (pc' := 16) (j := 2) (v := (L 13) 2) dX0_eightACLessThreeBB_15 rfl hs_13 rfl (Nat.le_of_ble_eq_true rfl) (Nat.le_of_ble_eq_true rfl) rfl ?_
  refine ev_lmul (pc' := 17) (v := (8 * ((L 13) 0)) * ((L 13) 2)) dX0_eightACLessThreeBB_16 rfl rfl ?_
  refine ev_ldc2 (pc' := 20) cl_X0_56 dX0_eightACLessThreeBB_17 rfl ?_
  refine ev_aload_n (pc' := 21) (i := 0) dX0_eightACLessThreeBB_20 rfl rfl rfl ?_
  refine ev_getR (pc' := 24) fo_X0_9 dX0_eightACLessThreeBB_21 rfl hs_12 rfl rf_12_0 ?_
  refine ev_iconst (pc' := 25) (v := 1) dX0_eightACLessThreeBB_24 rfl ki_1 ?_
  refine ev_lald (pc' := 26) (j := 1) (v := (L 13) 1) dX0_eightACLessThreeBB_25 rfl hs_13 rfl (Nat.le_of_ble_eq_true rfl) (Nat.le_of_ble_eq_true rfl) rfl ?_
  refine ev_lmul (pc' := 27) (v := 3 * ((L 13) 1)) dX0_eightACLessThreeBB_26 rfl rfl ?_
  refine ev_aload_n (pc' := 28) (i := 0) dX0_eightACLessThreeBB_27 rfl rfl rfl ?_
  refine ev_getR (pc' := 31) fo_X0_9 dX0_eightACLessThreeBB_28 rfl hs_12 rfl rf_12_0 ?_
  refine ev_iconst (pc' := 32) (v := 1) dX0_eightACLessThreeBB_31 rfl ki_1 ?_
  refine ev_lald (pc' := 33) (j := 1) (v := (L 13) 1) dX0_eightACLessThreeBB_32 rfl hs_13 rfl (Nat.le_of_ble_eq_true rfl) (Nat.le_of_ble_eq_true rfl) rfl ?_
  refine ev_lmul (pc' := 34) (v := (3 * ((L 13) 1)) * ((L 13) 1)) dX0_eightACLessThreeBB_33 rfl rfl ?_
  refine ev_lsub (pc' := 35) (v := ((8 * ((L 13) 0)) * ((L 13) 2)) - ((3 * ((L 13) 1)) * ((L 13) 1))) dX0_eightACLessThreeBB_34 rfl rfl ?_
  refine ev_lret dX0_eightACLessThreeBB_35 rfl ⟨Nat.le_refl _, Nat.le_refl _⟩ ?_
  exact k
set_option maxRecDepth 4000 in
theorem t_X0_leaning {g : ma_G} {Post : ma_P} {I : ma_I} {L : ma_L}   (k : Post (some (.long ((((((L 13) 1) * ((L 13) 1)) * ((L 13) 1)) + (((8 * ((L 13) 0)) * ((L 13) 0)) * ((L 13) 3))) - (((4 * ((L 13) 0)) * ((L 13) 1)) * ((L 13) 2))))) HS I L RF 146) : CT g yX0_leaning cX0_leaning 1 (some .long) rX0_leaning [.ref 12] Post HS I L RF 146 := by
  refine ct_of (lv := [some (.ref 12)]) (by decide) (Nat.le_of_ble_eq_true rfl) rfl ?_
  refine ev_aload_n (pc' := 1) (i := 0) dX0_leaning_0 rfl rfl rfl ?_
  refine ev_getR (pc' := 4) fo_X0_9 dX0_leaning_1 rfl hs_12 rfl rf_12_0 ?_
  refine ev_iconst (pc' := 5) (v := 1) dX0_leaning_4 rfl ki_1 ?_
  refine ev_lald (pc' := 6) (j := 1) (v := (L 13) 1) dX0_leaning_5 rfl hs_13 rfl (Nat.le_of_ble_eq_true rfl) (Nat.le_of_ble_eq_true rfl) rfl ?_
  refine ev_aload_n (pc' := 7) (i := 0) dX0_leaning_6 rfl rfl rfl ?_
  refine ev_getR (pc' := 10) fo_X0_9 dX0_leaning_7 rfl hs_12 rfl rf_12_0 ?_
  refine ev_iconst (pc' := 11) (v := 1) dX0_leaning_10 rfl ki_1 ?_
  refine ev_lald (pc' := 12) (j := 1) (v := (L 13) 1) dX0_leaning_11 rfl hs_13 rfl (Nat.le_of_ble_eq_true rfl) (Nat.le_of_ble_eq_true rfl) rfl ?_
  refine ev_lmul (pc' := 13) (v := ((L 13) 1) * ((L 13) 1)) dX0_leaning_12 rfl rfl ?_
  refine ev_aload_n (pc' := 14) (i := 0) dX0_leaning_13 rfl rfl rfl ?_
  refine ev_getR (pc' := 17) fo_X0_9 dX0_leaning_14 rfl hs_12 rfl rf_12_0 ?_
  refine ev_iconst (pc' := 18) (v := 1) dX0_leaning_17 rfl ki_1 ?_
  refine ev_lald (pc' := 19) (j := 1) (v := (L 13) 1) dX0_leaning_18 rfl hs_13 rfl (Nat.le_of_ble_eq_true rfl) (Nat.le_of_ble_eq_true rfl) rfl ?_
  refine ev_lmul (pc' := 20) (v := (((L 13) 1) * ((L 13) 1)) * ((L 13) 1)) dX0_leaning_19 rfl rfl ?_
  refine ev_ldc2 (pc' := 23) cl_X0_125 dX0_leaning_20 rfl ?_
  refine ev_aload_n (pc' := 24) (i := 0) dX0_leaning_23 rfl rfl rfl ?_
  refine ev_getR (pc' := 27) fo_X0_9 dX0_leaning_24 rfl hs_12 rfl rf_12_0 ?_
  refine ev_iconst (pc' := 28) (v := 0) dX0_leaning_27 rfl ki_0 ?_
  refine ev_lald (pc' := 29) (j := 0) (v := (L 13) 0) dX0_leaning_28 rfl hs_13 rfl (Nat.le_of_ble_eq_true rfl) (Nat.le_of_ble_eq_true rfl) rfl ?_
  refine ev_lmul (pc' := 30) (v := 8 * ((L 13) 0)) dX0_leaning_29 rfl rfl ?_
  refine ev_aload_n (pc' := 31) (i := 0) dX0_leaning_30 rfl rfl rfl ?_
  refine ev_getR (pc' := 34) fo_X0_9 dX0_leaning_31 rfl hs_12 rfl rf_12_0 ?_
  refine ev_iconst (pc' := 35) (v := 0) dX0_leaning_34 rfl ki_0 ?_
  refine ev_lald (pc' := 36) (j := 0) (v := (L 13) 0) dX0_leaning_35 rfl hs_13 rfl (Nat.le_of_ble_eq_true rfl) (Nat.le_of_ble_eq_true rfl) rfl ?_
  refine ev_lmul (pc' := 37) (v := (8 * ((L 13) 0)) * ((L 13) 0)) dX0_leaning_36 rfl rfl ?_
  refine ev_aload_n (pc' := 38) (i := 0) dX0_leaning_37 rfl rfl rfl ?_
  refine ev_getR (pc' := 41) fo_X0_9 dX0_leaning_38 rfl hs_12 rfl rf_12_0 ?_
  refine ev_iconst (pc' := 42) (v := 3) dX0_leaning_41 rfl ki_3 ?_
  refine ev_lald (pc' := 43) (j := 3) (v := (L 13) 3) dX0_leaning_42 rfl hs_13 rfl (Nat.le_of_ble_eq_true rfl) (Nat.le_of_ble_eq_true rfl) rfl ?_
  refine ev_lmul (pc' := 44) (v := ((8 * ((L 13) 0)) * ((L 13) 0)) * ((L 13) 3)) dX0_leaning_43 rfl rfl ?_
  refine ev_ladd (pc' := 45) (v := ((((L 13) 1) * ((L 13) 1)) * ((L 13) 1)) + (((8 * ((L 13) 0)) * ((L 13) 0)) * ((L 13) 3))) dX0_leaning_44 rfl rfl ?_
  refine ev_ldc2 (pc' := 48) cl_X0_50 dX0_leaning_45 rfl ?_
  refine ev_aload_n (pc' := 49) (i := 0) dX0_leaning_48 rfl rfl rfl ?_
  refine ev_getR (pc' := 52) fo_X0_9 dX0_leaning_49 rfl hs_12 rfl rf_12_0 ?_
  refine ev_iconst (pc' := 53) (v := 0) dX0_leaning_52 rfl ki_0 ?_
  refine ev_lald (pc' := 54) (j := 0) (v := (L 13) 0) dX0_leaning_53 rfl hs_13 rfl (Nat.le_of_ble_eq_true rfl) (Nat.le_of_ble_eq_true rfl) rfl ?_
  refine ev_lmul (pc' := 55) (v := 4 * ((L 13) 0)) dX0_leaning_54 rfl rfl ?_
  refine ev_aload_n (pc' := 56) (i := 0) dX0_leaning_55 rfl rfl rfl ?_
  refine ev_getR (pc' := 59) fo_X0_9 dX0_leaning_56 rfl hs_12 rfl rf_12_0 ?_
  refine ev_iconst (pc' := 60) (v := 1) dX0_leaning_59 rfl ki_1 ?_
  refine ev_lald (pc' := 61) (j := 1) (v := (L 13) 1) dX0_leaning_60 rfl hs_13 rfl (Nat.le_of_ble_eq_true rfl) (Nat.le_of_ble_eq_true rfl) rfl ?_
  refine ev_lmul (pc' := 62) (v := (4 * ((L 13) 0)) * ((L 13) 1)) dX0_leaning_61 rfl rfl ?_
  refine ev_aload_n (pc' := 63) (i := 0) dX0_leaning_62 rfl rfl rfl ?_
  refine ev_getR (pc' := 66) fo_X0_9 dX0_leaning_63 rfl hs_12 rfl rf_12_0 ?_
  refine ev_iconst (pc' := 67) (v := 2) dX0_leaning_66 rfl ki_2 ?_
  refine ev_lald (pc' := 68) (j := 2) (v := (L 13) 2) dX0_leaning_67 rfl hs_13 rfl (Nat.le_of_ble_eq_true rfl) (Nat.le_of_ble_eq_true rfl) rfl ?_
  refine ev_lmul (pc' := 69) (v := ((4 * ((L 13) 0)) * ((L 13) 1)) * ((L 13) 2)) dX0_leaning_68 rfl rfl ?_
  refine ev_lsub (pc' := 70) (v := (((((L 13) 1) * ((L 13) 1)) * ((L 13) 1)) + (((8 * ((L 13) 0)) * ((L 13) 0)) * ((L 13) 3))) - (((4 * ((L 13) 0)) * ((L 13) 1)) * ((L 13) 2))) dX0_leaning_69 rfl rfl ?_
  refine ev_lret dX0_leaning_70 rfl ⟨Nat.le_refl _, Nat.le_refl _⟩ ?_
  exact k
