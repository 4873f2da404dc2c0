def cCt (t v : Nat → Int64) (k x : Nat) : Int64 := ((((v k) * (v k)) * (t x)) - ((((v k) * (v (x % 4))) * (t (4 * (x / 4) + k))) + (((v k) * (v (x / 4))) * (t (4 * k + x % 4))))) + (((v (x / 4)) * (v (x % 4))) * (t (4 * k + k)))
def cCp (t v : Nat → Int64) (k : Nat) (f : Nat → Int64) (n : Nat) : Nat → Int64 := fun x => if x < n then cCt t v k x else f x
theorem cCp_0 (t v : Nat → Int64) (k : Nat) (f : Nat → Int64) : cCp t v k f 0 = f := lf_0 _ _
theorem cCp_s (t v : Nat → Int64) (k : Nat) (f : Nat → Int64) {i j : Nat} (hj : j < 4) : ma_up (cCp t v k f (4 * i + j)) (4 * i + j) (((((v k) * (v k)) * (t (4 * i + j))) - ((((v k) * (v j)) * (t (4 * i + k))) + (((v k) * (v i)) * (t (4 * k + j))))) + (((v i) * (v j)) * (t (4 * k + k)))) = cCp t v k f (4 * i + (j + 1)) := by
  have e := lf_s (cCt t v k) f (4 * i + j)
  unfold cCt at e
  rw [show (4 * i + j) % 4 = j by omega, show (4 * i + j) / 4 = i by omega] at e
  exact e
set_option maxRecDepth 4000 in
theorem t_X4_cutBy {g : ma_G} {Post : ma_P} {I : ma_I} {L : ma_L}  (o : Nat) (d : Nat) (ho : HS o = (4, 6)) (hro : RF o 0 = d) (hd : HS d = (10, 16)) (hd7 : d ≠ 7) (k0 : ∀ ld : Nat, ld < 4 → (∀ j, j < ld → L 34 j = 0) → (ld < 3 → ¬ L 34 ld = 0) → Post none HS I (ma_up L 7 (cCp (L d) (L 34) ld (L 7) 16)) RF 146) : CT g yX4_cutBy cX4_cutBy 12 none rX4_cutBy [.ref 6, .ref o, .ref 34] Post HS I L RF 146 := by
  refine ct_of (lv := [some (.ref 6), some (.ref o), some (.ref 34), none, none, none, none, none, none, none, none, none]) (by decide) (Nat.le_of_ble_eq_true rfl) rfl ?_
  refine ev_iconst (pc' := 1) (v := 0) dX4_cutBy_0 rfl ki_0 ?_
  refine ev_istore_n (pc' := 2) (i := 3) (lv' := [some (.ref 6), some (.ref o), some (.ref 34), some (.int 0), none, none, none, none, none, none, none, none]) dX4_cutBy_1 rfl rfl (Nat.le_of_ble_eq_true rfl) rfl rfl ?_
  refine ev_iload_n (pc' := 3) (i := 3) dX4_cutBy_2 rfl rfl rfl ?_
  refine ev_iconst (pc' := 4) (v := 3) dX4_cutBy_3 rfl ki_3 ?_
  refine ev_icmp_ge (tgt := 21) (pc' := 7) dX4_cutBy_4 rfl rfl (fun h => absurd h (by decide)) (fun _ => ?_)
  refine ev_aload_n (pc' := 8) (i := 2) dX4_cutBy_7 rfl rfl rfl ?_
  refine ev_iload_n (pc' := 9) (i := 3) dX4_cutBy_8 rfl rfl rfl ?_
  refine ev_lald (pc' := 10) (j := 0) (v := (L 34) 0) dX4_cutBy_9 rfl hs_34 rfl (Nat.le_of_ble_eq_true rfl) (Nat.le_of_ble_eq_true rfl) rfl ?_
  refine ev_lconst (pc' := 11) (v := 0) dX4_cutBy_10 rfl kl_0 ?_
  refine ev_lc_ne (p1 := 12) (tgt := 21) (pc' := 15) dX4_cutBy_11 rfl dX4_cutBy_12 rfl rfl (fun c1 => ?_) (fun c1 => ?_)
  · refine ev_aload_n (pc' := 22) (i := 2) dX4_cutBy_21 rfl rfl rfl ?_
    refine ev_iload_n (pc' := 23) (i := 3) dX4_cutBy_22 rfl rfl rfl ?_
    refine ev_lald (pc' := 24) (j := 0) (v := (L 34) 0) dX4_cutBy_23 rfl hs_34 rfl (Nat.le_of_ble_eq_true rfl) (Nat.le_of_ble_eq_true rfl) rfl ?_
    refine ev_lstore (pc' := 26) (lv' := [some (.ref 6), some (.ref o), some (.ref 34), some (.int 0), some (.long ((L 34) 0)), none, none, none, none, none, none, none]) dX4_cutBy_24 rfl (Nat.le_of_ble_eq_true rfl) rfl rfl ?_
    refine ev_iconst (pc' := 27) (v := 0) dX4_cutBy_26 rfl ki_0 ?_
    refine ev_istore (pc' := 29) (lv' := [some (.ref 6), some (.ref o), some (.ref 34), some (.int 0), some (.long ((L 34) 0)), none, some (.int 0), none, none, none, none, none]) dX4_cutBy_27 rfl (Nat.le_of_ble_eq_true rfl) rfl rfl ?_
    suffices lp : ∀ (x i : Nat), i + x = 4 → EV g yX4_cutBy cX4_cutBy 12 none rX4_cutBy (ma_ZM g rX4_cutBy Post) 29 [some (.ref 6), some (.ref o), some (.ref 34), some (.int 0), some (.long ((L 34) 0)), none, some (.int (nI i)), none, none, none, none, none] [] HS I (ma_up L 7 (cCp (L d) (L 34) 0 (L 7) (4 * i))) RF 146 0 0 by
      refine ev_memL (fun z hz => ?_)
      have hz : z = ma_up L 7 (cCp (L d) (L 34) 0 (L 7) (4 * 0)) := by rw [hz, show 4 * 0 = 0 from rfl, cCp_0, ma_up_self]
      subst hz
      exact lp 4 0 rfl
    intro x
    induction x with
    | zero =>
      intro i hi
      obtain rfl : i = 4 := by omega
      refine ev_iload (pc' := 31) dX4_cutBy_29 rfl rfl ?_
      refine ev_iconst (pc' := 32) (v := 4) dX4_cutBy_31 rfl ki_4 ?_
      refine ev_icmp_ge (tgt := 155) (pc' := 35) dX4_cutBy_32 rfl rfl (fun _ => ?_) (fun h => absurd (nx_le (a := 4) (b := 4) (by omega) (by omega)) h)
      refine ev_vret dX4_cutBy_155 rfl ⟨Nat.le_refl _, Nat.le_refl _⟩ ?_
      exact k0 0 (by omega) (fun j hj => absurd hj (Nat.not_lt_zero j)) (fun _ => c1)
    | succ x ih =>
      intro i hi
      refine ev_iload (pc' := 31) dX4_cutBy_29 rfl rfl ?_
      refine ev_iconst (pc' := 32) (v := 4) dX4_cutBy_31 rfl ki_4 ?_
      refine ev_icmp_ge (tgt := 155) (pc' := 35) dX4_cutBy_32 rfl rfl (fun h => absurd h (nx_nle (a := 4) (b := i) (by omega) (by omega))) (fun _ => ?_)
      refine ev_iconst (pc' := 36) (v := 0) dX4_cutBy_35 rfl ki_0 ?_
      refine ev_istore (pc' := 38) (lv' := [some (.ref 6), some (.ref o), some (.ref 34), some (.int 0), some (.long ((L 34) 0)), none, some (.int (nI i)), some (.int 0), none, none, none, none]) dX4_cutBy_36 rfl (Nat.le_of_ble_eq_true rfl) rfl rfl ?_
      suffices lj : ∀ (y j : Nat), j + y = 4 → EV g yX4_cutBy cX4_cutBy 12 none rX4_cutBy (ma_ZM g rX4_cutBy Post) 38 [some (.ref 6), some (.ref o), some (.ref 34), some (.int 0), some (.long ((L 34) 0)), none, some (.int (nI i)), some (.int (nI j)), none, none, none, none] [] HS I (ma_up L 7 (cCp (L d) (L 34) 0 (L 7) (4 * i + j))) RF 146 0 0 from lj 4 0 rfl
      intro y
      induction y with
      | zero =>
        intro j hj
        obtain rfl : j = 4 := by omega
        refine ev_iload (pc' := 40) dX4_cutBy_38 rfl rfl ?_
        refine ev_iconst (pc' := 41) (v := 4) dX4_cutBy_40 rfl ki_4 ?_
        refine ev_icmp_ge (tgt := 149) (pc' := 44) dX4_cutBy_41 rfl rfl (fun _ => ?_) (fun h => absurd (nx_le (a := 4) (b := 4) (by omega) (by omega)) h)
        refine ev_iinc (pc' := 152) (v := nI (i + 1)) (lv' := [some (.ref 6), some (.ref o), some (.ref 34), some (.int 0), some (.long ((L 34) 0)), none, some (.int (nI (i + 1))), some (.int (nI 4)), none, none, none, none]) dX4_cutBy_149 rfl rfl (nI_add i 1) (Nat.le_of_ble_eq_true rfl) rfl rfl ?_
        refine ev_goto (tgt := 29) dX4_cutBy_152 rfl ?_
        refine ev_lvw (lv' := [some (.ref 6), some (.ref o), some (.ref 34), some (.int 0), some (.long ((L 34) 0)), none, some (.int (nI (i + 1))), none, none, none, none, none]) ⟨rfl, ⟨rfl, ⟨rfl, ⟨rfl, ⟨rfl, ⟨rfl, trivial⟩⟩⟩⟩⟩⟩ ?_
        exact ih (i + 1) (by omega)
      | succ y ihj =>
        intro j hj
        refine ev_iload (pc' := 40) dX4_cutBy_38 rfl rfl ?_
        refine ev_iconst (pc' := 41) (v := 4) dX4_cutBy_40 rfl ki_4 ?_
        refine ev_icmp_ge (tgt := 149) (pc' := 44) dX4_cutBy_41 rfl rfl (fun h => absurd h (nx_nle (a := 4) (b := j) (by omega) (by omega))) (fun _ => ?_)
        refine ev_lload (pc' := 46) dX4_cutBy_44 rfl rfl ?_
        refine ev_lload (pc' := 48) dX4_cutBy_46 rfl rfl ?_
        refine ev_lmul (pc' := 49) (v := ((L 34) 0) * ((L 34) 0)) dX4_cutBy_48 rfl rfl ?_
        refine ev_aload_n (pc' := 50) (i := 1) dX4_cutBy_49 rfl rfl rfl ?_
        refine ev_getR (pc' := 53) fo_X4_9 dX4_cutBy_50 rfl ho rfl hro ?_
        refine ev_iconst (pc' := 54) (v := 4) dX4_cutBy_53 rfl ki_4 ?_
        refine ev_iload (pc' := 56) dX4_cutBy_54 rfl rfl ?_
        refine ev_imul (pc' := 57) (v := nI (4 * i)) dX4_cutBy_56 rfl (pk_mul 4 i) ?_
        refine ev_iload (pc' := 59) dX4_cutBy_57 rfl rfl ?_
        refine ev_iadd (pc' := 60) (v := nI ((4 * i) + j)) dX4_cutBy_59 rfl (nI_add (4 * i) j) ?_
        refine ev_lald (pc' := 61) (j := (4 * i) + j) (v := (ma_up L 7 (cCp (L d) (L 34) 0 (L 7) (4 * i + j))) d ((4 * i) + j)) dX4_cutBy_60 rfl hd rfl (by omega) (Nat.le_of_ble_eq_true rfl) rfl ?_
        refine ev_lmul (pc' := 62) (v := (((L 34) 0) * ((L 34) 0)) * ((ma_up L 7 (cCp (L d) (L 34) 0 (L 7) (4 * i + j))) d ((4 * i) + j))) dX4_cutBy_61 rfl rfl ?_
        refine ev_lstore (pc' := 64) (lv' := [some (.ref 6), some (.ref o), some (.ref 34), some (.int 0), some (.long ((L 34) 0)), none, some (.int (nI i)), some (.int (nI j)), some (.long ((((L 34) 0) * ((L 34) 0)) * ((ma_up L 7 (cCp (L d) (L 34) 0 (L 7) (4 * i + j))) d ((4 * i) + j)))), none, none, none]) dX4_cutBy_62 rfl (Nat.le_of_ble_eq_true rfl) rfl rfl ?_
        refine ev_lload (pc' := 66) dX4_cutBy_64 rfl rfl ?_
        refine ev_aload_n (pc' := 67) (i := 2) dX4_cutBy_66 rfl rfl rfl ?_
        refine ev_iload (pc' := 69) dX4_cutBy_67 rfl rfl ?_
        refine ev_lald (pc' := 70) (j := j) (v := (L 34) j) dX4_cutBy_69 rfl hs_34 rfl (by omega) (Nat.le_of_ble_eq_true rfl) rfl ?_
        refine ev_lmul (pc' := 71) (v := ((L 34) 0) * ((L 34) j)) dX4_cutBy_70 rfl rfl ?_
        refine ev_aload_n (pc' := 72) (i := 1) dX4_cutBy_71 rfl rfl rfl ?_
        refine ev_getR (pc' := 75) fo_X4_9 dX4_cutBy_72 rfl ho rfl hro ?_
        refine ev_iconst (pc' := 76) (v := 4) dX4_cutBy_75 rfl ki_4 ?_
        refine ev_iload (pc' := 78) dX4_cutBy_76 rfl rfl ?_
        refine ev_imul (pc' := 79) (v := nI (4 * i)) dX4_cutBy_78 rfl (pk_mul 4 i) ?_
        refine ev_iload_n (pc' := 80) (i := 3) dX4_cutBy_79 rfl rfl rfl ?_
        refine ev_iadd (pc' := 81) (v := nI ((4 * i) + 0)) dX4_cutBy_80 rfl (nI_add (4 * i) 0) ?_
        refine ev_lald (pc' := 82) (j := (4 * i) + 0) (v := (ma_up L 7 (cCp (L d) (L 34) 0 (L 7) (4 * i + j))) d ((4 * i) + 0)) dX4_cutBy_81 rfl hd rfl (by omega) (Nat.le_of_ble_eq_true rfl) rfl ?_
        refine ev_lmul (pc' := 83) (v := (((L 34) 0) * ((L 34) j)) * ((ma_up L 7 (cCp (L d) (L 34) 0 (L 7) (4 * i + j))) d ((4 * i) + 0))) dX4_cutBy_82 rfl rfl ?_
        refine ev_lload (pc' := 85) dX4_cutBy_83 rfl rfl ?_
        refine ev_aload_n (pc' := 86) (i := 2) dX4_cutBy_85 rfl rfl rfl ?_
        refine ev_iload (pc' := 88) dX4_cutBy_86 rfl rfl ?_
        refine ev_lald (pc' := 89) (j := i) (v := (L 34) i) dX4_cutBy_88 rfl hs_34 rfl (by omega) (Nat.le_of_ble_eq_true rfl) rfl ?_
        refine ev_lmul (pc' := 90) (v := ((L 34) 0) * ((L 34) i)) dX4_cutBy_89 rfl rfl ?_
        refine ev_aload_n (pc' := 91) (i := 1) dX4_cutBy_90 rfl rfl rfl ?_
        refine ev_getR (pc' := 94) fo_X4_9 dX4_cutBy_91 rfl ho rfl hro ?_
        refine ev_iconst (pc' := 95) (v := 4) dX4_cutBy_94 rfl ki_4 ?_
        refine ev_iload_n (pc' := 96) (i := 3) dX4_cutBy_95 rfl rfl rfl ?_
        refine ev_imul (pc' := 97) (v := 0) dX4_cutBy_96 rfl (by decide) ?_
        refine ev_iload (pc' := 99) dX4_cutBy_97 rfl rfl ?_
        refine ev_iadd (pc' := 100) (v := nI (0 + j)) dX4_cutBy_99 rfl (nI_add 0 j) ?_
        refine ev_lald (pc' := 101) (j := 0 + j) (v := (ma_up L 7 (cCp (L d) (L 34) 0 (L 7) (4 * i + j))) d (0 + j)) dX4_cutBy_100 rfl hd rfl (by omega) (Nat.le_of_ble_eq_true rfl) rfl ?_
        refine ev_lmul (pc' := 102) (v := (((L 34) 0) * ((L 34) i)) * ((ma_up L 7 (cCp (L d) (L 34) 0 (L 7) (4 * i + j))) d (0 + j))) dX4_cutBy_101 rfl rfl ?_
        refine ev_ladd (pc' := 103) (v := ((((L 34) 0) * ((L 34) j)) * ((ma_up L 7 (cCp (L d) (L 34) 0 (L 7) (4 * i + j))) d ((4 * i) + 0))) + ((((L 34) 0) * ((L 34) i)) * ((ma_up L 7 (cCp (L d) (L 34) 0 (L 7) (4 * i + j))) d (0 + j)))) dX4_cutBy_102 rfl rfl ?_
        refine ev_lstore (pc' := 105) (lv' := [some (.ref 6), some (.ref o), some (.ref 34), some (.int 0), some (.long ((L 34) 0)), none, some (.int (nI i)), some (.int (nI j)), some (.long ((((L 34) 0) * ((L 34) 0)) * ((ma_up L 7 (cCp (L d) (L 34) 0 (L 7) (4 * i + j))) d ((4 * i) + j)))), none, some (.long (((((L 34) 0) * ((L 34) j)) * ((ma_up L 7 (cCp (L d) (L 34) 0 (L 7) (4 * i + j))) d ((4 * i) + 0))) + ((((L 34) 0) * ((L 34) i)) * ((ma_up L 7 (cCp (L d) (L 34) 0 (L 7) (4 * i + j))) d (0 + j))))), none]) dX4_cutBy_103 rfl (Nat.le_of_ble_eq_true rfl) rfl rfl ?_
        refine ev_aload_n (pc' := 106) (i := 0) dX4_cutBy_105 rfl rfl rfl ?_
        refine ev_getR (pc' := 109) fo_X4_9 dX4_cutBy_106 rfl hs_6 rfl rf_6_0 ?_
        refine ev_iconst (pc' := 110) (v := 4) dX4_cutBy_109 rfl ki_4 ?_
        refine ev_iload (pc' := 112) dX4_cutBy_110 rfl rfl ?_
        refine ev_imul (pc' := 113) (v := nI (4 * i)) dX4_cutBy_112 rfl (pk_mul 4 i) ?_
        refine ev_iload (pc' := 115) dX4_cutBy_113 rfl rfl ?_
        refine ev_iadd (pc' := 116) (v := nI ((4 * i) + j)) dX4_cutBy_115 rfl (nI_add (4 * i) j) ?_
        refine ev_lload (pc' := 118) dX4_cutBy_116 rfl rfl ?_
        refine ev_lload (pc' := 120) dX4_cutBy_118 rfl rfl ?_
        refine ev_lsub (pc' := 121) (v := ((((L 34) 0) * ((L 34) 0)) * ((ma_up L 7 (cCp (L d) (L 34) 0 (L 7) (4 * i + j))) d ((4 * i) + j))) - (((((L 34) 0) * ((L 34) j)) * ((ma_up L 7 (cCp (L d) (L 34) 0 (L 7) (4 * i + j))) d ((4 * i) + 0))) + ((((L 34) 0) * ((L 34) i)) * ((ma_up L 7 (cCp (L d) (L 34) 0 (L 7) (4 * i + j))) d (0 + j))))) dX4_cutBy_120 rfl rfl ?_
        refine ev_aload_n (pc' := 122) (i := 2) dX4_cutBy_121 rfl rfl rfl ?_
        refine ev_iload (pc' := 124) dX4_cutBy_122 rfl rfl ?_
        refine ev_lald (pc' := 125) (j := i) (v := (L 34) i) dX4_cutBy_124 rfl hs_34 rfl (by omega) (Nat.le_of_ble_eq_true rfl) rfl ?_
        refine ev_aload_n (pc' := 126) (i := 2) dX4_cutBy_125 rfl rfl rfl ?_
        refine ev_iload (pc' := 128) dX4_cutBy_126 rfl rfl ?_
        refine ev_lald (pc' := 129) (j := j) (v := (L 34) j) dX4_cutBy_128 rfl hs_34 rfl (by omega) (Nat.le_of_ble_eq_true rfl) rfl ?_
        refine ev_lmul (pc' := 130) (v := ((L 34) i) * ((L 34) j)) dX4_cutBy_129 rfl rfl ?_
        refine ev_aload_n (pc' := 131) (i := 1) dX4_cutBy_130 rfl rfl rfl ?_
        refine ev_getR (pc' := 134) fo_X4_9 dX4_cutBy_131 rfl ho rfl hro ?_
        refine ev_iconst (pc' := 135) (v := 4) dX4_cutBy_134 rfl ki_4 ?_
        refine ev_iload_n (pc' := 136) (i := 3) dX4_cutBy_135 rfl rfl rfl ?_
        refine ev_imul (pc' := 137) (v := 0) dX4_cutBy_136 rfl (by decide) ?_
        refine ev_iload_n (pc' := 138) (i := 3) dX4_cutBy_137 rfl rfl rfl ?_
        refine ev_iadd (pc' := 139) (v := 0) dX4_cutBy_138 rfl (by decide) ?_
        refine ev_lald (pc' := 140) (j := 0) (v := (ma_up L 7 (cCp (L d) (L 34) 0 (L 7) (4 * i + j))) d 0) dX4_cutBy_139 rfl hd rfl (Nat.le_of_ble_eq_true rfl) (Nat.le_of_ble_eq_true rfl) rfl ?_
        refine ev_lmul (pc' := 141) (v := (((L 34) i) * ((L 34) j)) * ((ma_up L 7 (cCp (L d) (L 34) 0 (L 7) (4 * i + j))) d 0)) dX4_cutBy_140 rfl rfl ?_
        refine ev_ladd (pc' := 142) (v := (((((L 34) 0) * ((L 34) 0)) * ((ma_up L 7 (cCp (L d) (L 34) 0 (L 7) (4 * i + j))) d ((4 * i) + j))) - (((((L 34) 0) * ((L 34) j)) * ((ma_up L 7 (cCp (L d) (L 34) 0 (L 7) (4 * i + j))) d ((4 * i) + 0))) + ((((L 34) 0) * ((L 34) i)) * ((ma_up L 7 (cCp (L d) (L 34) 0 (L 7) (4 * i + j))) d (0 + j))))) + ((((L 34) i) * ((L 34) j)) * ((ma_up L 7 (cCp (L d) (L 34) 0 (L 7) (4 * i + j))) d 0))) dX4_cutBy_141 rfl rfl ?_
        refine ev_last (pc' := 143) (j := (4 * i) + j) (L' := (ma_up L 7 (ma_up (cCp (L d) (L 34) 0 (L 7) (4 * i + j)) ((4 * i) + j) ((((((L 34) 0) * ((L 34) 0)) * ((ma_up L 7 (cCp (L d) (L 34) 0 (L 7) (4 * i + j))) d ((4 * i) + j))) - (((((L 34) 0) * ((L 34) j)) * ((ma_up L 7 (cCp (L d) (L 34) 0 (L 7) (4 * i + j))) d ((4 * i) + 0))) + ((((L 34) 0) * ((L 34) i)) * ((ma_up L 7 (cCp (L d) (L 34) 0 (L 7) (4 * i + j))) d (0 + j))))) + ((((L 34) i) * ((L 34) j)) * ((ma_up L 7 (cCp (L d) (L 34) 0 (L 7) (4 * i + j))) d 0)))))) dX4_cutBy_142 rfl hs_7 rfl (by omega) (Nat.le_of_ble_eq_true rfl) (ma_up_up _ _ _ _) ?_
        refine ev_iinc (pc' := 146) (v := nI (j + 1)) (lv' := [some (.ref 6), some (.ref o), some (.ref 34), some (.int 0), some (.long ((L 34) 0)), none, some (.int (nI i)), some (.int (nI (j + 1))), some (.long ((((L 34) 0) * ((L 34) 0)) * ((ma_up L 7 (cCp (L d) (L 34) 0 (L 7) (4 * i + j))) d ((4 * i) + j)))), none, some (.long (((((L 34) 0) * ((L 34) j)) * ((ma_up L 7 (cCp (L d) (L 34) 0 (L 7) (4 * i + j))) d ((4 * i) + 0))) + ((((L 34) 0) * ((L 34) i)) * ((ma_up L 7 (cCp (L d) (L 34) 0 (L 7) (4 * i + j))) d (0 + j))))), none]) dX4_cutBy_143 rfl rfl (nI_add j 1) (Nat.le_of_ble_eq_true rfl) rfl rfl ?_
        refine ev_goto (tgt := 38) dX4_cutBy_146 rfl ?_
        refine ev_lvw (lv' := [some (.ref 6), some (.ref o), some (.ref 34), some (.int 0), some (.long ((L 34) 0)), none, some (.int (nI i)), some (.int (nI (j + 1))), none, none, none, none]) ⟨rfl, ⟨rfl, ⟨rfl, ⟨rfl, ⟨rfl, ⟨rfl, ⟨rfl, trivial⟩⟩⟩⟩⟩⟩⟩ ?_
        refine ev_memL (fun z hz => ?_)
        rw [ma_up_n L (cCp (L d) (L 34) 0 (L 7) (4 * i + j)) hd7] at hz
        have hz := hz.trans (congrArg (ma_up L 7) (cCp_s (L d) (L 34) 0 (L 7) (i := i) (j := j) (by omega)))
        subst hz
        exact ihj (j + 1) (by omega)
  · refine ev_iinc (pc' := 18) (v := 1) (lv' := [some (.ref 6), some (.ref o), some (.ref 34), some (.int 1), none, none, none, none, none, none, none, none]) dX4_cutBy_15 rfl rfl (by decide) (Nat.le_of_ble_eq_true rfl) rfl rfl ?_
    refine ev_goto (tgt := 2) dX4_cutBy_18 rfl ?_
    refine ev_iload_n (pc' := 3) (i := 3) dX4_cutBy_2 rfl rfl rfl ?_
    refine ev_iconst (pc' := 4) (v := 3) dX4_cutBy_3 rfl ki_3 ?_
    refine ev_icmp_ge (tgt := 21) (pc' := 7) dX4_cutBy_4 rfl rfl (fun h => absurd h (by decide)) (fun _ => ?_)
    refine ev_aload_n (pc' := 8) (i := 2) dX4_cutBy_7 rfl rfl rfl ?_
    refine ev_iload_n (pc' := 9) (i := 3) dX4_cutBy_8 rfl rfl rfl ?_
    refine ev_lald (pc' := 10) (j := 1) (v := (L 34) 1) dX4_cutBy_9 rfl hs_34 rfl (Nat.le_of_ble_eq_true rfl) (Nat.le_of_ble_eq_true rfl) rfl ?_
    refine ev_lconst (pc' := 11) (v := 0) dX4_cutBy_10 rfl kl_0 ?_
    refine ev_lc_ne (p1 := 12) (tgt := 21) (pc' := 15) dX4_cutBy_11 rfl dX4_cutBy_12 rfl rfl (fun c2 => ?_) (fun c2 => ?_)
    · refine ev_aload_n (pc' := 22) (i := 2) dX4_cutBy_21 rfl rfl rfl ?_
      refine ev_iload_n (pc' := 23) (i := 3) dX4_cutBy_22 rfl rfl rfl ?_
      refine ev_lald (pc' := 24) (j := 1) (v := (L 34) 1) dX4_cutBy_23 rfl hs_34 rfl (Nat.le_of_ble_eq_true rfl) (Nat.le_of_ble_eq_true rfl) rfl ?_
      refine ev_lstore (pc' := 26) (lv' := [some (.ref 6), some (.ref o), some (.ref 34), some (.int 1), some (.long ((L 34) 1)), none, none, none, none, none, none, none]) dX4_cutBy_24 rfl (Nat.le_of_ble_eq_true rfl) rfl rfl ?_
      refine ev_iconst (pc' := 27) (v := 0) dX4_cutBy_26 rfl ki_0 ?_
      refine ev_istore (pc' := 29) (lv' := [some (.ref 6), some (.ref o), some (.ref 34), some (.int 1), some (.long ((L 34) 1)), none, some (.int 0), none, none, none, none, none]) dX4_cutBy_27 rfl (Nat.le_of_ble_eq_true rfl) rfl rfl ?_
      suffices lp : ∀ (x i : Nat), i + x = 4 → EV g yX4_cutBy cX4_cutBy 12 none rX4_cutBy (ma_ZM g rX4_cutBy Post) 29 [some (.ref 6), some (.ref o), some (.ref 34), some (.int 1), some (.long ((L 34) 1)), none, some (.int (nI i)), none, none, none, none, none] [] HS I (ma_up L 7 (cCp (L d) (L 34) 1 (L 7) (4 * i))) RF 146 0 0 by
        refine ev_memL (fun z hz => ?_)
        have hz : z = ma_up L 7 (cCp (L d) (L 34) 1 (L 7) (4 * 0)) := by rw [hz, show 4 * 0 = 0 from rfl, cCp_0, ma_up_self]
        subst hz
        exact lp 4 0 rfl
      intro x
      induction x with
      | zero =>
        intro i hi
        obtain rfl : i = 4 := by omega
        refine ev_iload (pc' := 31) dX4_cutBy_29 rfl rfl ?_
        refine ev_iconst (pc' := 32) (v := 4) dX4_cutBy_31 rfl ki_4 ?_
        refine ev_icmp_ge (tgt := 155) (pc' := 35) dX4_cutBy_32 rfl rfl (fun _ => ?_) (fun h => absurd (nx_le (a := 4) (b := 4) (by omega) (by omega)) h)
        refine ev_vret dX4_cutBy_155 rfl ⟨Nat.le_refl _, Nat.le_refl _⟩ ?_
        exact k0 1 (by omega) (pt_all (fun j hj => absurd hj (Nat.not_lt_zero j)) c1) (fun _ => c2)
      | succ x ih =>
        intro i hi
        refine ev_iload (pc' := 31) dX4_cutBy_29 rfl rfl ?_
        refine ev_iconst (pc' := 32) (v := 4) dX4_cutBy_31 rfl ki_4 ?_
        refine ev_icmp_ge (tgt := 155) (pc' := 35) dX4_cutBy_32 rfl rfl (fun h => absurd h (nx_nle (a := 4) (b := i) (by omega) (by omega))) (fun _ => ?_)
        refine ev_iconst (pc' := 36) (v := 0) dX4_cutBy_35 rfl ki_0 ?_
        refine ev_istore (pc' := 38) (lv' := [some (.ref 6), some (.ref o), some (.ref 34), some (.int 1), some (.long ((L 34) 1)), none, some (.int (nI i)), some (.int 0), none, none, none, none]) dX4_cutBy_36 rfl (Nat.le_of_ble_eq_true rfl) rfl rfl ?_
        suffices lj : ∀ (y j : Nat), j + y = 4 → EV g yX4_cutBy cX4_cutBy 12 none rX4_cutBy (ma_ZM g rX4_cutBy Post) 38 [some (.ref 6), some (.ref o), some (.ref 34), some (.int 1), some (.long ((L 34) 1)), none, some (.int (nI i)), some (.int (nI j)), none, none, none, none] [] HS I (ma_up L 7 (cCp (L d) (L 34) 1 (L 7) (4 * i + j))) RF 146 0 0 from lj 4 0 rfl
        intro y
        induction y with
        | zero =>
          intro j hj
          obtain rfl : j = 4 := by omega
          refine ev_iload (pc' := 40) dX4_cutBy_38 rfl rfl ?_
          refine ev_iconst (pc' := 41) (v := 4) dX4_cutBy_40 rfl ki_4 ?_
          refine ev_icmp_ge (tgt := 149) (pc' := 44) dX4_cutBy_41 rfl rfl (fun _ => ?_) (fun h => absurd (nx_le (a := 4) (b := 4) (by omega) (by omega)) h)
          refine ev_iinc (pc' := 152) (v := nI (i + 1)) (lv' := [some (.ref 6), some (.ref o), some (.ref 34), some (.int 1), some (.long ((L 34) 1)), none, some (.int (nI (i + 1))), some (.int (nI 4)), none, none, none, none]) dX4_cutBy_149 rfl rfl (nI_add i 1) (Nat.le_of_ble_eq_true rfl) rfl rfl ?_
          refine ev_goto (tgt := 29) dX4_cutBy_152 rfl ?_
          refine ev_lvw (lv' := [some (.ref 6), some (.ref o), some (.ref 34), some (.int 1), some (.long ((L 34) 1)), none, some (.int (nI (i + 1))), none, none, none, none, none]) ⟨rfl, ⟨rfl, ⟨rfl, ⟨rfl, ⟨rfl, ⟨rfl, trivial⟩⟩⟩⟩⟩⟩ ?_
          exact ih (i + 1) (by omega)
        | succ y ihj =>
          intro j hj
          refine ev_iload (pc' := 40) dX4_cutBy_38 rfl rfl ?_
          refine ev_iconst (pc' := 41) (v := 4) dX4_cutBy_40 rfl ki_4 ?_
          refine ev_icmp_ge (tgt := 149) (pc' := 44) dX4_cutBy_41 rfl rfl (fun h => absurd h (nx_nle (a := 4) (b := j) (by omega) (by omega))) (fun _ => ?_)
          refine ev_lload (pc' := 46) dX4_cutBy_44 rfl rfl ?_
          refine ev_lload (pc' := 48) dX4_cutBy_46 rfl rfl ?_
          refine ev_lmul (pc' := 49) (v := ((L 34) 1) * ((L 34) 1)) dX4_cutBy_48 rfl rfl ?_
          refine ev_aload_n (pc' := 50) (i := 1) dX4_cutBy_49 rfl rfl rfl ?_
          refine ev_getR (pc' := 53) fo_X4_9 dX4_cutBy_50 rfl ho rfl hro ?_
          refine ev_iconst (pc' := 54) (v := 4) dX4_cutBy_53 rfl ki_4 ?_
          refine ev_iload (pc' := 56) dX4_cutBy_54 rfl rfl ?_
          refine ev_imul (pc' := 57) (v := nI (4 * i)) dX4_cutBy_56 rfl (pk_mul 4 i) ?_
          refine ev_iload (pc' := 59) dX4_cutBy_57 rfl rfl ?_
          refine ev_iadd (pc' := 60) (v := nI ((4 * i) + j)) dX4_cutBy_59 rfl (nI_add (4 * i) j) ?_
          refine ev_lald (pc' := 61) (j := (4 * i) + j) (v := (ma_up L 7 (cCp (L d) (L 34) 1 (L 7) (4 * i + j))) d ((4 * i) + j)) dX4_cutBy_60 rfl hd rfl (by omega) (Nat.le_of_ble_eq_true rfl) rfl ?_
          refine ev_lmul (pc' := 62) (v := (((L 34) 1) * ((L 34) 1)) * ((ma_up L 7 (cCp (L d) (L 34) 1 (L 7) (4 * i + j))) d ((4 * i) + j))) dX4_cutBy_61 rfl rfl ?_
          refine ev_lstore (pc' := 64) (lv' := [some (.ref 6), some (.ref o), some (.ref 34), some (.int 1), some (.long ((L 34) 1)), none, some (.int (nI i)), some (.int (nI j)), some (.long ((((L 34) 1) * ((L 34) 1)) * ((ma_up L 7 (cCp (L d) (L 34) 1 (L 7) (4 * i + j))) d ((4 * i) + j)))), none, none, none]) dX4_cutBy_62 rfl (Nat.le_of_ble_eq_true rfl) rfl rfl ?_
          refine ev_lload (pc' := 66) dX4_cutBy_64 rfl rfl ?_
          refine ev_aload_n (pc' := 67) (i := 2) dX4_cutBy_66 rfl rfl rfl ?_
          refine ev_iload (pc' := 69) dX4_cutBy_67 rfl rfl ?_
          refine ev_lald (pc' := 70) (j := j) (v := (L 34) j) dX4_cutBy_69 rfl hs_34 rfl (by omega) (Nat.le_of_ble_eq_true rfl) rfl ?_
          refine ev_lmul (pc' := 71) (v := ((L 34) 1) * ((L 34) j)) dX4_cutBy_70 rfl rfl ?_
          refine ev_aload_n (pc' := 72) (i := 1) dX4_cutBy_71 rfl rfl rfl ?_
          refine ev_getR (pc' := 75) fo_X4_9 dX4_cutBy_72 rfl ho rfl hro ?_
          refine ev_iconst (pc' := 76) (v := 4) dX4_cutBy_75 rfl ki_4 ?_
          refine ev_iload (pc' := 78) dX4_cutBy_76 rfl rfl ?_
          refine ev_imul (pc' := 79) (v := nI (4 * i)) dX4_cutBy_78 rfl (pk_mul 4 i) ?_
          refine ev_iload_n (pc' := 80) (i := 3) dX4_cutBy_79 rfl rfl rfl ?_
          refine ev_iadd (pc' := 81) (v := nI ((4 * i) + 1)) dX4_cutBy_80 rfl (nI_add (4 * i) 1) ?_
          refine ev_lald (pc' := 82) (j := (4 * i) + 1) (v := (ma_up L 7 (cCp (L d) (L 34) 1 (L 7) (4 * i + j))) d ((4 * i) + 1)) dX4_cutBy_81 rfl hd rfl (by omega) (Nat.le_of_ble_eq_true rfl) rfl ?_
          refine ev_lmul (pc' := 83) (v := (((L 34) 1) * ((L 34) j)) * ((ma_up L 7 (cCp (L d) (L 34) 1 (L 7) (4 * i + j))) d ((4 * i) + 1))) dX4_cutBy_82 rfl rfl ?_
          refine ev_lload (pc' := 85) dX4_cutBy_83 rfl rfl ?_
          refine ev_aload_n (pc' := 86) (i := 2) dX4_cutBy_85 rfl rfl rfl ?_
          refine ev_iload (pc' := 88) dX4_cutBy_86 rfl rfl ?_
          refine ev_lald (pc' := 89) (j := i) (v := (L 34) i) dX4_cutBy_88 rfl hs_34 rfl (by omega) (Nat.le_of_ble_eq_true rfl) rfl ?_
          refine ev_lmul (pc' := 90) (v := ((L 34) 1) * ((L 34) i)) dX4_cutBy_89 rfl rfl ?_
          refine ev_aload_n (pc' := 91) (i := 1) dX4_cutBy_90 rfl rfl rfl ?_
          refine ev_getR (pc' := 94) fo_X4_9 dX4_cutBy_91 rfl ho rfl hro ?_
          refine ev_iconst (pc' := 95) (v := 4) dX4_cutBy_94 rfl ki_4 ?_
          refine ev_iload_n (pc' := 96) (i := 3) dX4_cutBy_95 rfl rfl rfl ?_
          refine ev_imul (pc' := 97) (v := 4) dX4_cutBy_96 rfl (by decide) ?_
          refine ev_iload (pc' := 99) dX4_cutBy_97 rfl rfl ?_
          refine ev_iadd (pc' := 100) (v := nI (4 + j)) dX4_cutBy_99 rfl (nI_add 4 j) ?_
          refine ev_lald (pc' := 101) (j := 4 + j) (v := (ma_up L 7 (cCp (L d) (L 34) 1 (L 7) (4 * i + j))) d (4 + j)) dX4_cutBy_100 rfl hd rfl (by omega) (Nat.le_of_ble_eq_true rfl) rfl ?_
          refine ev_lmul (pc' := 102) (v := (((L 34) 1) * ((L 34) i)) * ((ma_up L 7 (cCp (L d) (L 34) 1 (L 7) (4 * i + j))) d (4 + j))) dX4_cutBy_101 rfl rfl ?_
          refine ev_ladd (pc' := 103) (v := ((((L 34) 1) * ((L 34) j)) * ((ma_up L 7 (cCp (L d) (L 34) 1 (L 7) (4 * i + j))) d ((4 * i) + 1))) + ((((L 34) 1) * ((L 34) i)) * ((ma_up L 7 (cCp (L d) (L 34) 1 (L 7) (4 * i + j))) d (4 + j)))) dX4_cutBy_102 rfl rfl ?_
          refine ev_lstore (pc' := 105) (lv' := [some (.ref 6), some (.ref o), some (.ref 34), some (.int 1), some (.long ((L 34) 1)), none, some (.int (nI i)), some (.int (nI j)), some (.long ((((L 34) 1) * ((L 34) 1)) * ((ma_up L 7 (cCp (L d) (L 34) 1 (L 7) (4 * i + j))) d ((4 * i) + j)))), none, some (.long (((((L 34) 1) * ((L 34) j)) * ((ma_up L 7 (cCp (L d) (L 34) 1 (L 7) (4 * i + j))) d ((4 * i) + 1))) + ((((L 34) 1) * ((L 34) i)) * ((ma_up L 7 (cCp (L d) (L 34) 1 (L 7) (4 * i + j))) d (4 + j))))), none]) dX4_cutBy_103 rfl (Nat.le_of_ble_eq_true rfl) rfl rfl ?_
          refine ev_aload_n (pc' := 106) (i := 0) dX4_cutBy_105 rfl rfl rfl ?_
          refine ev_getR (pc' := 109) fo_X4_9 dX4_cutBy_106 rfl hs_6 rfl rf_6_0 ?_
          refine ev_iconst (pc' := 110) (v := 4) dX4_cutBy_109 rfl ki_4 ?_
          refine ev_iload (pc' := 112) dX4_cutBy_110 rfl rfl ?_
          refine ev_imul (pc' := 113) (v := nI (4 * i)) dX4_cutBy_112 rfl (pk_mul 4 i) ?_
          refine ev_iload (pc' := 115) dX4_cutBy_113 rfl rfl ?_
          refine ev_iadd (pc' := 116) (v := nI ((4 * i) + j)) dX4_cutBy_115 rfl (nI_add (4 * i) j) ?_
          refine ev_lload (pc' := 118) dX4_cutBy_116 rfl rfl ?_
          refine ev_lload (pc' := 120) dX4_cutBy_118 rfl rfl ?_
          refine ev_lsub (pc' := 121) (v := ((((L 34) 1) * ((L 34) 1)) * ((ma_up L 7 (cCp (L d) (L 34) 1 (L 7) (4 * i + j))) d ((4 * i) + j))) - (((((L 34) 1) * ((L 34) j)) * ((ma_up L 7 (cCp (L d) (L 34) 1 (L 7) (4 * i + j))) d ((4 * i) + 1))) + ((((L 34) 1) * ((L 34) i)) * ((ma_up L 7 (cCp (L d) (L 34) 1 (L 7) (4 * i + j))) d (4 + j))))) dX4_cutBy_120 rfl rfl ?_
          refine ev_aload_n (pc' := 122) (i := 2) dX4_cutBy_121 rfl rfl rfl ?_
          refine ev_iload (pc' := 124) dX4_cutBy_122 rfl rfl ?_
          refine ev_lald (pc' := 125) (j := i) (v := (L 34) i) dX4_cutBy_124 rfl hs_34 rfl (by omega) (Nat.le_of_ble_eq_true rfl) rfl ?_
          refine ev_aload_n (pc' := 126) (i := 2) dX4_cutBy_125 rfl rfl rfl ?_
          refine ev_iload (pc' := 128) dX4_cutBy_126 rfl rfl ?_
          refine ev_lald (pc' := 129) (j := j) (v := (L 34) j) dX4_cutBy_128 rfl hs_34 rfl (by omega) (Nat.le_of_ble_eq_true rfl) rfl ?_
          refine ev_lmul (pc' := 130) (v := ((L 34) i) * ((L 34) j)) dX4_cutBy_129 rfl rfl ?_
          refine ev_aload_n (pc' := 131) (i := 1) dX4_cutBy_130 rfl rfl rfl ?_
          refine ev_getR (pc' := 134) fo_X4_9 dX4_cutBy_131 rfl ho rfl hro ?_
          refine ev_iconst (pc' := 135) (v := 4) dX4_cutBy_134 rfl ki_4 ?_
          refine ev_iload_n (pc' := 136) (i := 3) dX4_cutBy_135 rfl rfl rfl ?_
          refine ev_imul (pc' := 137) (v := 4) dX4_cutBy_136 rfl (by decide) ?_
          refine ev_iload_n (pc' := 138) (i := 3) dX4_cutBy_137 rfl rfl rfl ?_
          refine ev_iadd (pc' := 139) (v := 5) dX4_cutBy_138 rfl (by decide) ?_
          refine ev_lald (pc' := 140) (j := 5) (v := (ma_up L 7 (cCp (L d) (L 34) 1 (L 7) (4 * i + j))) d 5) dX4_cutBy_139 rfl hd rfl (Nat.le_of_ble_eq_true rfl) (Nat.le_of_ble_eq_true rfl) rfl ?_
          refine ev_lmul (pc' := 141) (v := (((L 34) i) * ((L 34) j)) * ((ma_up L 7 (cCp (L d) (L 34) 1 (L 7) (4 * i + j))) d 5)) dX4_cutBy_140 rfl rfl ?_
          refine ev_ladd (pc' := 142) (v := (((((L 34) 1) * ((L 34) 1)) * ((ma_up L 7 (cCp (L d) (L 34) 1 (L 7) (4 * i + j))) d ((4 * i) + j))) - (((((L 34) 1) * ((L 34) j)) * ((ma_up L 7 (cCp (L d) (L 34) 1 (L 7) (4 * i + j))) d ((4 * i) + 1))) + ((((L 34) 1) * ((L 34) i)) * ((ma_up L 7 (cCp (L d) (L 34) 1 (L 7) (4 * i + j))) d (4 + j))))) + ((((L 34) i) * ((L 34) j)) * ((ma_up L 7 (cCp (L d) (L 34) 1 (L 7) (4 * i + j))) d 5))) dX4_cutBy_141 rfl rfl ?_
          refine ev_last (pc' := 143) (j := (4 * i) + j) (L' := (ma_up L 7 (ma_up (cCp (L d) (L 34) 1 (L 7) (4 * i + j)) ((4 * i) + j) ((((((L 34) 1) * ((L 34) 1)) * ((ma_up L 7 (cCp (L d) (L 34) 1 (L 7) (4 * i + j))) d ((4 * i) + j))) - (((((L 34) 1) * ((L 34) j)) * ((ma_up L 7 (cCp (L d) (L 34) 1 (L 7) (4 * i + j))) d ((4 * i) + 1))) + ((((L 34) 1) * ((L 34) i)) * ((ma_up L 7 (cCp (L d) (L 34) 1 (L 7) (4 * i + j))) d (4 + j))))) + ((((L 34) i) * ((L 34) j)) * ((ma_up L 7 (cCp (L d) (L 34) 1 (L 7) (4 * i + j))) d 5)))))) dX4_cutBy_142 rfl hs_7 rfl (by omega) (Nat.le_of_ble_eq_true rfl) (ma_up_up _ _ _ _) ?_
          refine ev_iinc (pc' := 146) (v := nI (j + 1)) (lv' := [some (.ref 6), some (.ref o), some (.ref 34), some (.int 1), some (.long ((L 34) 1)), none, some (.int (nI i)), some (.int (nI (j + 1))), some (.long ((((L 34) 1) * ((L 34) 1)) * ((ma_up L 7 (cCp (L d) (L 34) 1 (L 7) (4 * i + j))) d ((4 * i) + j)))), none, some (.long (((((L 34) 1) * ((L 34) j)) * ((ma_up L 7 (cCp (L d) (L 34) 1 (L 7) (4 * i + j))) d ((4 * i) + 1))) + ((((L 34) 1) * ((L 34) i)) * ((ma_up L 7 (cCp (L d) (L 34) 1 (L 7) (4 * i + j))) d (4 + j))))), none]) dX4_cutBy_143 rfl rfl (nI_add j 1) (Nat.le_of_ble_eq_true rfl) rfl rfl ?_
          refine ev_goto (tgt := 38) dX4_cutBy_146 rfl ?_
          refine ev_lvw (lv' := [some (.ref 6), some (.ref o), some (.ref 34), some (.int 1), some (.long ((L 34) 1)), none, some (.int (nI i)), some (.int (nI (j + 1))), none, none, none, none]) ⟨rfl, ⟨rfl, ⟨rfl, ⟨rfl, ⟨rfl, ⟨rfl, ⟨rfl, trivial⟩⟩⟩⟩⟩⟩⟩ ?_
          refine ev_memL (fun z hz => ?_)
          rw [ma_up_n L (cCp (L d) (L 34) 1 (L 7) (4 * i + j)) hd7] at hz
          have hz := hz.trans (congrArg (ma_up L 7) (cCp_s (L d) (L 34) 1 (L 7) (i := i) (j := j) (by omega)))
          subst hz
          exact ihj (j + 1) (by omega)
    · refine ev_iinc (pc' := 18) (v := 2) (lv' := [some (.ref 6), some (.ref o), some (.ref 34), some (.int 2), none, none, none, none, none, none, none, none]) dX4_cutBy_15 rfl rfl (by decide) (Nat.le_of_ble_eq_true rfl) rfl rfl ?_
      refine ev_goto (tgt := 2) dX4_cutBy_18 rfl ?_
      refine ev_iload_n (pc' := 3) (i := 3) dX4_cutBy_2 rfl rfl rfl ?_
      refine ev_iconst (pc' := 4) (v := 3) dX4_cutBy_3 rfl ki_3 ?_
      refine ev_icmp_ge (tgt := 21) (pc' := 7) dX4_cutBy_4 rfl rfl (fun h => absurd h (by decide)) (fun _ => ?_)
      refine ev_aload_n (pc' := 8) (i := 2) dX4_cutBy_7 rfl rfl rfl ?_
      refine ev_iload_n (pc' := 9) (i := 3) dX4_cutBy_8 rfl rfl rfl ?_
      refine ev_lald (pc' := 10) (j := 2) (v := (L 34) 2) dX4_cutBy_9 rfl hs_34 rfl (Nat.le_of_ble_eq_true rfl) (Nat.le_of_ble_eq_true rfl) rfl ?_
      refine ev_lconst (pc' := 11) (v := 0) dX4_cutBy_10 rfl kl_0 ?_
      refine ev_lc_ne (p1 := 12) (tgt := 21) (pc' := 15) dX4_cutBy_11 rfl dX4_cutBy_12 rfl rfl (fun c3 => ?_) (fun c3 => ?_)
      · refine ev_aload_n (pc' := 22) (i := 2) dX4_cutBy_21 rfl rfl rfl ?_
        refine ev_iload_n (pc' := 23) (i := 3) dX4_cutBy_22 rfl rfl rfl ?_
        refine ev_lald (pc' := 24) (j := 2) (v := (L 34) 2) dX4_cutBy_23 rfl hs_34 rfl (Nat.le_of_ble_eq_true rfl) (Nat.le_of_ble_eq_true rfl) rfl ?_
        refine ev_lstore (pc' := 26) (lv' := [some (.ref 6), some (.ref o), some (.ref 34), some (.int 2), some (.long ((L 34) 2)), none, none, none, none, none, none, none]) dX4_cutBy_24 rfl (Nat.le_of_ble_eq_true rfl) rfl rfl ?_
        refine ev_iconst (pc' := 27) (v := 0) dX4_cutBy_26 rfl ki_0 ?_
        refine ev_istore (pc' := 29) (lv' := [some (.ref 6), some (.ref o), some (.ref 34), some (.int 2), some (.long ((L 34) 2)), none, some (.int 0), none, none, none, none, none]) dX4_cutBy_27 rfl (Nat.le_of_ble_eq_true rfl) rfl rfl ?_
        suffices lp : ∀ (x i : Nat), i + x = 4 → EV g yX4_cutBy cX4_cutBy 12 none rX4_cutBy (ma_ZM g rX4_cutBy Post) 29 [some (.ref 6), some (.ref o), some (.ref 34), some (.int 2), some (.long ((L 34) 2)), none, some (.int (nI i)), none, none, none, none, none] [] HS I (ma_up L 7 (cCp (L d) (L 34) 2 (L 7) (4 * i))) RF 146 0 0 by
          refine ev_memL (fun z hz => ?_)
          have hz : z = ma_up L 7 (cCp (L d) (L 34) 2 (L 7) (4 * 0)) := by rw [hz, show 4 * 0 = 0 from rfl, cCp_0, ma_up_self]
          subst hz
          exact lp 4 0 rfl
        intro x
        induction x with
        | zero =>
          intro i hi
          obtain rfl : i = 4 := by omega
          refine ev_iload (pc' := 31) dX4_cutBy_29 rfl rfl ?_
          refine ev_iconst (pc' := 32) (v := 4) dX4_cutBy_31 rfl ki_4 ?_
          refine ev_icmp_ge (tgt := 155) (pc' := 35) dX4_cutBy_32 rfl rfl (fun _ => ?_) (fun h => absurd (nx_le (a := 4) (b := 4) (by omega) (by omega)) h)
          refine ev_vret dX4_cutBy_155 rfl ⟨Nat.le_refl _, Nat.le_refl _⟩ ?_
          exact k0 2 (by omega) (pt_all (pt_all (fun j hj => absurd hj (Nat.not_lt_zero j)) c1) c2) (fun _ => c3)
        | succ x ih =>
          intro i hi
          refine ev_iload (pc' := 31) dX4_cutBy_29 rfl rfl ?_
          refine ev_iconst (pc' := 32) (v := 4) dX4_cutBy_31 rfl ki_4 ?_
          refine ev_icmp_ge (tgt := 155) (pc' := 35) dX4_cutBy_32 rfl rfl (fun h => absurd h (nx_nle (a := 4) (b := i) (by omega) (by omega))) (fun _ => ?_)
          refine ev_iconst (pc' := 36) (v := 0) dX4_cutBy_35 rfl ki_0 ?_
          refine ev_istore (pc' := 38) (lv' := [some (.ref 6), some (.ref o), some (.ref 34), some (.int 2), some (.long ((L 34) 2)), none, some (.int (nI i)), some (.int 0), none, none, none, none]) dX4_cutBy_36 rfl (Nat.le_of_ble_eq_true rfl) rfl rfl ?_
          suffices lj : ∀ (y j : Nat), j + y = 4 → EV g yX4_cutBy cX4_cutBy 12 none rX4_cutBy (ma_ZM g rX4_cutBy Post) 38 [some (.ref 6), some (.ref o), some (.ref 34), some (.int 2), some (.long ((L 34) 2)), none, some (.int (nI i)), some (.int (nI j)), none, none, none, none] [] HS I (ma_up L 7 (cCp (L d) (L 34) 2 (L 7) (4 * i + j))) RF 146 0 0 from lj 4 0 rfl
          intro y
          induction y with
          | zero =>
            intro j hj
            obtain rfl : j = 4 := by omega
            refine ev_iload (pc' := 40) dX4_cutBy_38 rfl rfl ?_
            refine ev_iconst (pc' := 41) (v := 4) dX4_cutBy_40 rfl ki_4 ?_
            refine ev_icmp_ge (tgt := 149) (pc' := 44) dX4_cutBy_41 rfl rfl (fun _ => ?_) (fun h => absurd (nx_le (a := 4) (b := 4) (by omega) (by omega)) h)
            refine ev_iinc (pc' := 152) (v := nI (i + 1)) (lv' := [some (.ref 6), some (.ref o), some (.ref 34), some (.int 2), some (.long ((L 34) 2)), none, some (.int (nI (i + 1))), some (.int (nI 4)), none, none, none, none]) dX4_cutBy_149 rfl rfl (nI_add i 1) (Nat.le_of_ble_eq_true rfl) rfl rfl ?_
            refine ev_goto (tgt := 29) dX4_cutBy_152 rfl ?_
            refine ev_lvw (lv' := [some (.ref 6), some (.ref o), some (.ref 34), some (.int 2), some (.long ((L 34) 2)), none, some (.int (nI (i + 1))), none, none, none, none, none]) ⟨rfl, ⟨rfl, ⟨rfl, ⟨rfl, ⟨rfl, ⟨rfl, trivial⟩⟩⟩⟩⟩⟩ ?_
            exact ih (i + 1) (by omega)
          | succ y ihj =>
            intro j hj
            refine ev_iload (pc' := 40) dX4_cutBy_38 rfl rfl ?_
            refine ev_iconst (pc' := 41) (v := 4) dX4_cutBy_40 rfl ki_4 ?_
            refine ev_icmp_ge (tgt := 149) (pc' := 44) dX4_cutBy_41 rfl rfl (fun h => absurd h (nx_nle (a := 4) (b := j) (by omega) (by omega))) (fun _ => ?_)
            refine ev_lload (pc' := 46) dX4_cutBy_44 rfl rfl ?_
            refine ev_lload (pc' := 48) dX4_cutBy_46 rfl rfl ?_
            refine ev_lmul (pc' := 49) (v := ((L 34) 2) * ((L 34) 2)) dX4_cutBy_48 rfl rfl ?_
            refine ev_aload_n (pc' := 50) (i := 1) dX4_cutBy_49 rfl rfl rfl ?_
            refine ev_getR (pc' := 53) fo_X4_9 dX4_cutBy_50 rfl ho rfl hro ?_
            refine ev_iconst (pc' := 54) (v := 4) dX4_cutBy_53 rfl ki_4 ?_
            refine ev_iload (pc' := 56) dX4_cutBy_54 rfl rfl ?_
            refine ev_imul (pc' := 57) (v := nI (4 * i)) dX4_cutBy_56 rfl (pk_mul 4 i) ?_
            refine ev_iload (pc' := 59) dX4_cutBy_57 rfl rfl ?_
            refine ev_iadd (pc' := 60) (v := nI ((4 * i) + j)) dX4_cutBy_59 rfl (nI_add (4 * i) j) ?_
            refine ev_lald (pc' := 61) (j := (4 * i) + j) (v := (ma_up L 7 (cCp (L d) (L 34) 2 (L 7) (4 * i + j))) d ((4 * i) + j)) dX4_cutBy_60 rfl hd rfl (by omega) (Nat.le_of_ble_eq_true rfl) rfl ?_
            refine ev_lmul (pc' := 62) (v := (((L 34) 2) * ((L 34) 2)) * ((ma_up L 7 (cCp (L d) (L 34) 2 (L 7) (4 * i + j))) d ((4 * i) + j))) dX4_cutBy_61 rfl rfl ?_
            refine ev_lstore (pc' := 64) (lv' := [some (.ref 6), some (.ref o), some (.ref 34), some (.int 2), some (.long ((L 34) 2)), none, some (.int (nI i)), some (.int (nI j)), some (.long ((((L 34) 2) * ((L 34) 2)) * ((ma_up L 7 (cCp (L d) (L 34) 2 (L 7) (4 * i + j))) d ((4 * i) + j)))), none, none, none]) dX4_cutBy_62 rfl (Nat.le_of_ble_eq_true rfl) rfl rfl ?_
            refine ev_lload (pc' := 66) dX4_cutBy_64 rfl rfl ?_
            refine ev_aload_n (pc' := 67) (i := 2) dX4_cutBy_66 rfl rfl rfl ?_
            refine ev_iload (pc' := 69) dX4_cutBy_67 rfl rfl ?_
            refine ev_lald (pc' := 70) (j := j) (v := (L 34) j) dX4_cutBy_69 rfl hs_34 rfl (by omega) (Nat.le_of_ble_eq_true rfl) rfl ?_
            refine ev_lmul (pc' := 71) (v := ((L 34) 2) * ((L 34) j)) dX4_cutBy_70 rfl rfl ?_
            refine ev_aload_n (pc' := 72) (i := 1) dX4_cutBy_71 rfl rfl rfl ?_
            refine ev_getR (pc' := 75) fo_X4_9 dX4_cutBy_72 rfl ho rfl hro ?_
            refine ev_iconst (pc' := 76) (v := 4) dX4_cutBy_75 rfl ki_4 ?_
            refine ev_iload (pc' := 78) dX4_cutBy_76 rfl rfl ?_
            refine ev_imul (pc' := 79) (v := nI (4 * i)) dX4_cutBy_78 rfl (pk_mul 4 i) ?_
            refine ev_iload_n (pc' := 80) (i := 3) dX4_cutBy_79 rfl rfl rfl ?_
            refine ev_iadd (pc' := 81) (v := nI ((4 * i) + 2)) dX4_cutBy_80 rfl (nI_add (4 * i) 2) ?_
            refine ev_lald (pc' := 82) (j := (4 * i) + 2) (v := (ma_up L 7 (cCp (L d) (L 34) 2 (L 7) (4 * i + j))) d ((4 * i) + 2)) dX4_cutBy_81 rfl hd rfl (by omega) (Nat.le_of_ble_eq_true rfl) rfl ?_
            refine ev_lmul (pc' := 83) (v := (((L 34) 2) * ((L 34) j)) * ((ma_up L 7 (cCp (L d) (L 34) 2 (L 7) (4 * i + j))) d ((4 * i) + 2))) dX4_cutBy_82 rfl rfl ?_
            refine ev_lload (pc' := 85) dX4_cutBy_83 rfl rfl ?_
            refine ev_aload_n (pc' := 86) (i := 2) dX4_cutBy_85 rfl rfl rfl ?_
            refine ev_iload (pc' := 88) dX4_cutBy_86 rfl rfl ?_
            refine ev_lald (pc' := 89) (j := i) (v := (L 34) i) dX4_cutBy_88 rfl hs_34 rfl (by omega) (Nat.le_of_ble_eq_true rfl) rfl ?_
            refine ev_lmul (pc' := 90) (v := ((L 34) 2) * ((L 34) i)) dX4_cutBy_89 rfl rfl ?_
            refine ev_aload_n (pc' := 91) (i := 1) dX4_cutBy_90 rfl rfl rfl ?_
            refine ev_getR (pc' := 94) fo_X4_9 dX4_cutBy_91 rfl ho rfl hro ?_
            refine ev_iconst (pc' := 95) (v := 4) dX4_cutBy_94 rfl ki_4 ?_
            refine ev_iload_n (pc' := 96) (i := 3) dX4_cutBy_95 rfl rfl rfl ?_
            refine ev_imul (pc' := 97) (v := 8) dX4_cutBy_96 rfl (by decide) ?_
            refine ev_iload (pc' := 99) dX4_cutBy_97 rfl rfl ?_
            refine ev_iadd (pc' := 100) (v := nI (8 + j)) dX4_cutBy_99 rfl (nI_add 8 j) ?_
            refine ev_lald (pc' := 101) (j := 8 + j) (v := (ma_up L 7 (cCp (L d) (L 34) 2 (L 7) (4 * i + j))) d (8 + j)) dX4_cutBy_100 rfl hd rfl (by omega) (Nat.le_of_ble_eq_true rfl) rfl ?_
            refine ev_lmul (pc' := 102) (v := (((L 34) 2) * ((L 34) i)) * ((ma_up L 7 (cCp (L d) (L 34) 2 (L 7) (4 * i + j))) d (8 + j))) dX4_cutBy_101 rfl rfl ?_
            refine ev_ladd (pc' := 103) (v := ((((L 34) 2) * ((L 34) j)) * ((ma_up L 7 (cCp (L d) (L 34) 2 (L 7) (4 * i + j))) d ((4 * i) + 2))) + ((((L 34) 2) * ((L 34) i)) * ((ma_up L 7 (cCp (L d) (L 34) 2 (L 7) (4 * i + j))) d (8 + j)))) dX4_cutBy_102 rfl rfl ?_
            refine ev_lstore (pc' := 105) (lv' := [some (.ref 6), some (.ref o), some (.ref 34), some (.int 2), some (.long ((L 34) 2)), none, some (.int (nI i)), some (.int (nI j)), some (.long ((((L 34) 2) * ((L 34) 2)) * ((ma_up L 7 (cCp (L d) (L 34) 2 (L 7) (4 * i + j))) d ((4 * i) + j)))), none, some (.long (((((L 34) 2) * ((L 34) j)) * ((ma_up L 7 (cCp (L d) (L 34) 2 (L 7) (4 * i + j))) d ((4 * i) + 2))) + ((((L 34) 2) * ((L 34) i)) * ((ma_up L 7 (cCp (L d) (L 34) 2 (L 7) (4 * i + j))) d (8 + j))))), none]) dX4_cutBy_103 rfl (Nat.le_of_ble_eq_true rfl) rfl rfl ?_
            refine ev_aload_n (pc' := 106) (i := 0) dX4_cutBy_105 rfl rfl rfl ?_
            refine ev_getR (pc' := 109) fo_X4_9 dX4_cutBy_106 rfl hs_6 rfl rf_6_0 ?_
            refine ev_iconst (pc' := 110) (v := 4) dX4_cutBy_109 rfl ki_4 ?_
            refine ev_iload (pc' := 112) dX4_cutBy_110 rfl rfl ?_
            refine ev_imul (pc' := 113) (v := nI (4 * i)) dX4_cutBy_112 rfl (pk_mul 4 i) ?_
            refine ev_iload (pc' := 115) dX4_cutBy_113 rfl rfl ?_
            refine ev_iadd (pc' := 116) (v := nI ((4 * i) + j)) dX4_cutBy_115 rfl (nI_add (4 * i) j) ?_
            refine ev_lload (pc' := 118) dX4_cutBy_116 rfl rfl ?_
            refine ev_lload (pc' := 120) dX4_cutBy_118 rfl rfl ?_
            refine ev_lsub (pc' := 121) (v := ((((L 34) 2) * ((L 34) 2)) * ((ma_up L 7 (cCp (L d) (L 34) 2 (L 7) (4 * i + j))) d ((4 * i) + j))) - (((((L 34) 2) * ((L 34) j)) * ((ma_up L 7 (cCp (L d) (L 34) 2 (L 7) (4 * i + j))) d ((4 * i) + 2))) + ((((L 34) 2) * ((L 34) i)) * ((ma_up L 7 (cCp (L d) (L 34) 2 (L 7) (4 * i + j))) d (8 + j))))) dX4_cutBy_120 rfl rfl ?_
            refine ev_aload_n (pc' := 122) (i := 2) dX4_cutBy_121 rfl rfl rfl ?_
            refine ev_iload (pc' := 124) dX4_cutBy_122 rfl rfl ?_
            refine ev_lald (pc' := 125) (j := i) (v := (L 34) i) dX4_cutBy_124 rfl hs_34 rfl (by omega) (Nat.le_of_ble_eq_true rfl) rfl ?_
            refine ev_aload_n (pc' := 126) (i := 2) dX4_cutBy_125 rfl rfl rfl ?_
            refine ev_iload (pc' := 128) dX4_cutBy_126 rfl rfl ?_
            refine ev_lald (pc' := 129) (j := j) (v := (L 34) j) dX4_cutBy_128 rfl hs_34 rfl (by omega) (Nat.le_of_ble_eq_true rfl) rfl ?_
            refine ev_lmul (pc' := 130) (v := ((L 34) i) * ((L 34) j)) dX4_cutBy_129 rfl rfl ?_
            refine ev_aload_n (pc' := 131) (i := 1) dX4_cutBy_130 rfl rfl rfl ?_
            refine ev_getR (pc' := 134) fo_X4_9 dX4_cutBy_131 rfl ho rfl hro ?_
            refine ev_iconst (pc' := 135) (v := 4) dX4_cutBy_134 rfl ki_4 ?_
            refine ev_iload_n (pc' := 136) (i := 3) dX4_cutBy_135 rfl rfl rfl ?_
            refine ev_imul (pc' := 137) (v := 8) dX4_cutBy_136 rfl (by decide) ?_
            refine ev_iload_n (pc' := 138) (i := 3) dX4_cutBy_137 rfl rfl rfl ?_
            refine ev_iadd (pc' := 139) (v := 10) dX4_cutBy_138 rfl (by decide) ?_
            refine ev_lald (pc' := 140) (j := 10) (v := (ma_up L 7 (cCp (L d) (L 34) 2 (L 7) (4 * i + j))) d 10) dX4_cutBy_139 rfl hd rfl (Nat.le_of_ble_eq_true rfl) (Nat.le_of_ble_eq_true rfl) rfl ?_
            refine ev_lmul (pc' := 141) (v := (((L 34) i) * ((L 34) j)) * ((ma_up L 7 (cCp (L d) (L 34) 2 (L 7) (4 * i + j))) d 10)) dX4_cutBy_140 rfl rfl ?_
            refine ev_ladd (pc' := 142) (v := (((((L 34) 2) * ((L 34) 2)) * ((ma_up L 7 (cCp (L d) (L 34) 2 (L 7) (4 * i + j))) d ((4 * i) + j))) - (((((L 34) 2) * ((L 34) j)) * ((ma_up L 7 (cCp (L d) (L 34) 2 (L 7) (4 * i + j))) d ((4 * i) + 2))) + ((((L 34) 2) * ((L 34) i)) * ((ma_up L 7 (cCp (L d) (L 34) 2 (L 7) (4 * i + j))) d (8 + j))))) + ((((L 34) i) * ((L 34) j)) * ((ma_up L 7 (cCp (L d) (L 34) 2 (L 7) (4 * i + j))) d 10))) dX4_cutBy_141 rfl rfl ?_
            refine ev_last (pc' := 143) (j := (4 * i) + j) (L' := (ma_up L 7 (ma_up (cCp (L d) (L 34) 2 (L 7) (4 * i + j)) ((4 * i) + j) ((((((L 34) 2) * ((L 34) 2)) * ((ma_up L 7 (cCp (L d) (L 34) 2 (L 7) (4 * i + j))) d ((4 * i) + j))) - (((((L 34) 2) * ((L 34) j)) * ((ma_up L 7 (cCp (L d) (L 34) 2 (L 7) (4 * i + j))) d ((4 * i) + 2))) + ((((L 34) 2) * ((L 34) i)) * ((ma_up L 7 (cCp (L d) (L 34) 2 (L 7) (4 * i + j))) d (8 + j))))) + ((((L 34) i) * ((L 34) j)) * ((ma_up L 7 (cCp (L d) (L 34) 2 (L 7) (4 * i + j))) d 10)))))) dX4_cutBy_142 rfl hs_7 rfl (by omega) (Nat.le_of_ble_eq_true rfl) (ma_up_up _ _ _ _) ?_
            refine ev_iinc (pc' := 146) (v := nI (j + 1)) (lv' := [some (.ref 6), some (.ref o), some (.ref 34), some (.int 2), some (.long ((L 34) 2)), none, some (.int (nI i)), some (.int (nI (j + 1))), some (.long ((((L 34) 2) * ((L 34) 2)) * ((ma_up L 7 (cCp (L d) (L 34) 2 (L 7) (4 * i + j))) d ((4 * i) + j)))), none, some (.long (((((L 34) 2) * ((L 34) j)) * ((ma_up L 7 (cCp (L d) (L 34) 2 (L 7) (4 * i + j))) d ((4 * i) + 2))) + ((((L 34) 2) * ((L 34) i)) * ((ma_up L 7 (cCp (L d) (L 34) 2 (L 7) (4 * i + j))) d (8 + j))))), none]) dX4_cutBy_143 rfl rfl (nI_add j 1) (Nat.le_of_ble_eq_true rfl) rfl rfl ?_
            refine ev_goto (tgt := 38) dX4_cutBy_146 rfl ?_
            refine ev_lvw (lv' := [some (.ref 6), some (.ref o), some (.ref 34), some (.int 2), some (.long ((L 34) 2)), none, some (.int (nI i)), some (.int (nI (j + 1))), none, none, none, none]) ⟨rfl, ⟨rfl, ⟨rfl, ⟨rfl, ⟨rfl, ⟨rfl, ⟨rfl, trivial⟩⟩⟩⟩⟩⟩⟩ ?_
            refine ev_memL (fun z hz => ?_)
            rw [ma_up_n L (cCp (L d) (L 34) 2 (L 7) (4 * i + j)) hd7] at hz
            have hz := hz.trans (congrArg (ma_up L 7) (cCp_s (L d) (L 34) 2 (L 7) (i := i) (j := j) (by omega)))
            subst hz
            exact ihj (j + 1) (by omega)
      · refine ev_iinc (pc' := 18) (v := 3) (lv' := [some (.ref 6), some (.ref o), some (.ref 34), some (.int 3), none, none, none, none, none, none, none, none]) dX4_cutBy_15 rfl rfl (by decide) (Nat.le_of_ble_eq_true rfl) rfl rfl ?_
        refine ev_goto (tgt := 2) dX4_cutBy_18 rfl ?_
        refine ev_iload_n (pc' := 3) (i := 3) dX4_cutBy_2 rfl rfl rfl ?_
        refine ev_iconst (pc' := 4) (v := 3) dX4_cutBy_3 rfl ki_3 ?_
        refine ev_icmp_ge (tgt := 21) (pc' := 7) dX4_cutBy_4 rfl rfl (fun _ => ?_) (fun h => absurd (by decide) h)
        refine ev_aload_n (pc' := 22) (i := 2) dX4_cutBy_21 rfl rfl rfl ?_
        refine ev_iload_n (pc' := 23) (i := 3) dX4_cutBy_22 rfl rfl rfl ?_
        refine ev_lald (pc' := 24) (j := 3) (v := (L 34) 3) dX4_cutBy_23 rfl hs_34 rfl (Nat.le_of_ble_eq_true rfl) (Nat.le_of_ble_eq_true rfl) rfl ?_
        refine ev_lstore (pc' := 26) (lv' := [some (.ref 6), some (.ref o), some (.ref 34), some (.int 3), some (.long ((L 34) 3)), none, none, none, none, none, none, none]) dX4_cutBy_24 rfl (Nat.le_of_ble_eq_true rfl) rfl rfl ?_
        refine ev_iconst (pc' := 27) (v := 0) dX4_cutBy_26 rfl ki_0 ?_
        refine ev_istore (pc' := 29) (lv' := [some (.ref 6), some (.ref o), some (.ref 34), some (.int 3), some (.long ((L 34) 3)), none, some (.int 0), none, none, none, none, none]) dX4_cutBy_27 rfl (Nat.le_of_ble_eq_true rfl) rfl rfl ?_
        suffices lp : ∀ (x i : Nat), i + x = 4 → EV g yX4_cutBy cX4_cutBy 12 none rX4_cutBy (ma_ZM g rX4_cutBy Post) 29 [some (.ref 6), some (.ref o), some (.ref 34), some (.int 3), some (.long ((L 34) 3)), none, some (.int (nI i)), none, none, none, none, none] [] HS I (ma_up L 7 (cCp (L d) (L 34) 3 (L 7) (4 * i))) RF 146 0 0 by
          refine ev_memL (fun z hz => ?_)
          have hz : z = ma_up L 7 (cCp (L d) (L 34) 3 (L 7) (4 * 0)) := by rw [hz, show 4 * 0 = 0 from rfl, cCp_0, ma_up_self]
          subst hz
          exact lp 4 0 rfl
        intro x
        induction x with
        | zero =>
          intro i hi
          obtain rfl : i = 4 := by omega
          refine ev_iload (pc' := 31) dX4_cutBy_29 rfl rfl ?_
          refine ev_iconst (pc' := 32) (v := 4) dX4_cutBy_31 rfl ki_4 ?_
          refine ev_icmp_ge (tgt := 155) (pc' := 35) dX4_cutBy_32 rfl rfl (fun _ => ?_) (fun h => absurd (nx_le (a := 4) (b := 4) (by omega) (by omega)) h)
          refine ev_vret dX4_cutBy_155 rfl ⟨Nat.le_refl _, Nat.le_refl _⟩ ?_
          exact k0 3 (by omega) (pt_all (pt_all (pt_all (fun j hj => absurd hj (Nat.not_lt_zero j)) c1) c2) c3) (fun h => absurd h (by omega))
        | succ x ih =>
          intro i hi
          refine ev_iload (pc' := 31) dX4_cutBy_29 rfl rfl ?_
          refine ev_iconst (pc' := 32) (v := 4) dX4_cutBy_31 rfl ki_4 ?_
          refine ev_icmp_ge (tgt := 155) (pc' := 35) dX4_cutBy_32 rfl rfl (fun h => absurd h (nx_nle (a := 4) (b := i) (by omega) (by omega))) (fun _ => ?_)
          refine ev_iconst (pc' := 36) (v := 0) dX4_cutBy_35 rfl ki_0 ?_
          refine ev_istore (pc' := 38) (lv' := [some (.ref 6), some (.ref o), some (.ref 34), some (.int 3), some (.long ((L 34) 3)), none, some (.int (nI i)), some (.int 0), none, none, none, none]) dX4_cutBy_36 rfl (Nat.le_of_ble_eq_true rfl) rfl rfl ?_
          suffices lj : ∀ (y j : Nat), j + y = 4 → EV g yX4_cutBy cX4_cutBy 12 none rX4_cutBy (ma_ZM g rX4_cutBy Post) 38 [some (.ref 6), some (.ref o), some (.ref 34), some (.int 3), some (.long ((L 34) 3)), none, some (.int (nI i)), some (.int (nI j)), none, none, none, none] [] HS I (ma_up L 7 (cCp (L d) (L 34) 3 (L 7) (4 * i + j))) RF 146 0 0 from lj 4 0 rfl
          intro y
          induction y with
          | zero =>
            intro j hj
            obtain rfl : j = 4 := by omega
            refine ev_iload (pc' := 40) dX4_cutBy_38 rfl rfl ?_
            refine ev_iconst (pc' := 41) (v := 4) dX4_cutBy_40 rfl ki_4 ?_
            refine ev_icmp_ge (tgt := 149) (pc' := 44) dX4_cutBy_41 rfl rfl (fun _ => ?_) (fun h => absurd (nx_le (a := 4) (b := 4) (by omega) (by omega)) h)
            refine ev_iinc (pc' := 152) (v := nI (i + 1)) (lv' := [some (.ref 6), some (.ref o), some (.ref 34), some (.int 3), some (.long ((L 34) 3)), none, some (.int (nI (i + 1))), some (.int (nI 4)), none, none, none, none]) dX4_cutBy_149 rfl rfl (nI_add i 1) (Nat.le_of_ble_eq_true rfl) rfl rfl ?_
            refine ev_goto (tgt := 29) dX4_cutBy_152 rfl ?_
            refine ev_lvw (lv' := [some (.ref 6), some (.ref o), some (.ref 34), some (.int 3), some (.long ((L 34) 3)), none, some (.int (nI (i + 1))), none, none, none, none, none]) ⟨rfl, ⟨rfl, ⟨rfl, ⟨rfl, ⟨rfl, ⟨rfl, trivial⟩⟩⟩⟩⟩⟩ ?_
            exact ih (i + 1) (by omega)
          | succ y ihj =>
            intro j hj
            refine ev_iload (pc' := 40) dX4_cutBy_38 rfl rfl ?_
            refine ev_iconst (pc' := 41) (v := 4) dX4_cutBy_40 rfl ki_4 ?_
            refine ev_icmp_ge (tgt := 149) (pc' := 44) dX4_cutBy_41 rfl rfl (fun h => absurd h (nx_nle (a := 4) (b := j) (by omega) (by omega))) (fun _ => ?_)
            refine ev_lload (pc' := 46) dX4_cutBy_44 rfl rfl ?_
            refine ev_lload (pc' := 48) dX4_cutBy_46 rfl rfl ?_
            refine ev_lmul (pc' := 49) (v := ((L 34) 3) * ((L 34) 3)) dX4_cutBy_48 rfl rfl ?_
            refine ev_aload_n (pc' := 50) (i := 1) dX4_cutBy_49 rfl rfl rfl ?_
            refine ev_getR (pc' := 53) fo_X4_9 dX4_cutBy_50 rfl ho rfl hro ?_
            refine ev_iconst (pc' := 54) (v := 4) dX4_cutBy_53 rfl ki_4 ?_
            refine ev_iload (pc' := 56) dX4_cutBy_54 rfl rfl ?_
            refine ev_imul (pc' := 57) (v := nI (4 * i)) dX4_cutBy_56 rfl (pk_mul 4 i) ?_
            refine ev_iload (pc' := 59) dX4_cutBy_57 rfl rfl ?_
            refine ev_iadd (pc' := 60) (v := nI ((4 * i) + j)) dX4_cutBy_59 rfl (nI_add (4 * i) j) ?_
            refine ev_lald (pc' := 61) (j := (4 * i) + j) (v := (ma_up L 7 (cCp (L d) (L 34) 3 (L 7) (4 * i + j))) d ((4 * i) + j)) dX4_cutBy_60 rfl hd rfl (by omega) (Nat.le_of_ble_eq_true rfl) rfl ?_
            refine ev_lmul (pc' := 62) (v := (((L 34) 3) * ((L 34) 3)) * ((ma_up L 7 (cCp (L d) (L 34) 3 (L 7) (4 * i + j))) d ((4 * i) + j))) dX4_cutBy_61 rfl rfl ?_
            refine ev_lstore (pc' := 64) (lv' := [some (.ref 6), some (.ref o), some (.ref 34), some (.int 3), some (.long ((L 34) 3)), none, some (.int (nI i)), some (.int (nI j)), some (.long ((((L 34) 3) * ((L 34) 3)) * ((ma_up L 7 (cCp (L d) (L 34) 3 (L 7) (4 * i + j))) d ((4 * i) + j)))), none, none, none]) dX4_cutBy_62 rfl (Nat.le_of_ble_eq_true rfl) rfl rfl ?_
            refine ev_lload (pc' := 66) dX4_cutBy_64 rfl rfl ?_
            refine ev_aload_n (pc' := 67) (i := 2) dX4_cutBy_66 rfl rfl rfl ?_
            refine ev_iload (pc' := 69) dX4_cutBy_67 rfl rfl ?_
            refine ev_lald (pc' := 70) (j := j) (v := (L 34) j) dX4_cutBy_69 rfl hs_34 rfl (by omega) (Nat.le_of_ble_eq_true rfl) rfl ?_
            refine ev_lmul (pc' := 71) (v := ((L 34) 3) * ((L 34) j)) dX4_cutBy_70 rfl rfl ?_
            refine ev_aload_n (pc' := 72) (i := 1) dX4_cutBy_71 rfl rfl rfl ?_
            refine ev_getR (pc' := 75) fo_X4_9 dX4_cutBy_72 rfl ho rfl hro ?_
            refine ev_iconst (pc' := 76) (v := 4) dX4_cutBy_75 rfl ki_4 ?_
            refine ev_iload (pc' := 78) dX4_cutBy_76 rfl rfl ?_
            refine ev_imul (pc' := 79) (v := nI (4 * i)) dX4_cutBy_78 rfl (pk_mul 4 i) ?_
            refine ev_iload_n (pc' := 80) (i := 3) dX4_cutBy_79 rfl rfl rfl ?_
            refine ev_iadd (pc' := 81) (v := nI ((4 * i) + 3)) dX4_cutBy_80 rfl (nI_add (4 * i) 3) ?_
            refine ev_lald (pc' := 82) (j := (4 * i) + 3) (v := (ma_up L 7 (cCp (L d) (L 34) 3 (L 7) (4 * i + j))) d ((4 * i) + 3)) dX4_cutBy_81 rfl hd rfl (by omega) (Nat.le_of_ble_eq_true rfl) rfl ?_
            refine ev_lmul (pc' := 83) (v := (((L 34) 3) * ((L 34) j)) * ((ma_up L 7 (cCp (L d) (L 34) 3 (L 7) (4 * i + j))) d ((4 * i) + 3))) dX4_cutBy_82 rfl rfl ?_
            refine ev_lload (pc' := 85) dX4_cutBy_83 rfl rfl ?_
            refine ev_aload_n (pc' := 86) (i := 2) dX4_cutBy_85 rfl rfl rfl ?_
            refine ev_iload (pc' := 88) dX4_cutBy_86 rfl rfl ?_
            refine ev_lald (pc' := 89) (j := i) (v := (L 34) i) dX4_cutBy_88 rfl hs_34 rfl (by omega) (Nat.le_of_ble_eq_true rfl) rfl ?_
            refine ev_lmul (pc' := 90) (v := ((L 34) 3) * ((L 34) i)) dX4_cutBy_89 rfl rfl ?_
            refine ev_aload_n (pc' := 91) (i := 1) dX4_cutBy_90 rfl rfl rfl ?_
            refine ev_getR (pc' := 94) fo_X4_9 dX4_cutBy_91 rfl ho rfl hro ?_
            refine ev_iconst (pc' := 95) (v := 4) dX4_cutBy_94 rfl ki_4 ?_
            refine ev_iload_n (pc' := 96) (i := 3) dX4_cutBy_95 rfl rfl rfl ?_
            refine ev_imul (pc' := 97) (v := 12) dX4_cutBy_96 rfl (by decide) ?_
            refine ev_iload (pc' := 99) dX4_cutBy_97 rfl rfl ?_
            refine ev_iadd (pc' := 100) (v := nI (12 + j)) dX4_cutBy_99 rfl (nI_add 12 j) ?_
            refine ev_lald (pc' := 101) (j := 12 + j) (v := (ma_up L 7 (cCp (L d) (L 34) 3 (L 7) (4 * i + j))) d (12 + j)) dX4_cutBy_100 rfl hd rfl (by omega) (Nat.le_of_ble_eq_true rfl) rfl ?_
            refine ev_lmul (pc' := 102) (v := (((L 34) 3) * ((L 34) i)) * ((ma_up L 7 (cCp (L d) (L 34) 3 (L 7) (4 * i + j))) d (12 + j))) dX4_cutBy_101 rfl rfl ?_
            refine ev_ladd (pc' := 103) (v := ((((L 34) 3) * ((L 34) j)) * ((ma_up L 7 (cCp (L d) (L 34) 3 (L 7) (4 * i + j))) d ((4 * i) + 3))) + ((((L 34) 3) * ((L 34) i)) * ((ma_up L 7 (cCp (L d) (L 34) 3 (L 7) (4 * i + j))) d (12 + j)))) dX4_cutBy_102 rfl rfl ?_
            refine ev_lstore (pc' := 105) (lv' := [some (.ref 6), some (.ref o), some (.ref 34), some (.int 3), some (.long ((L 34) 3)), none, some (.int (nI i)), some (.int (nI j)), some (.long ((((L 34) 3) * ((L 34) 3)) * ((ma_up L 7 (cCp (L d) (L 34) 3 (L 7) (4 * i + j))) d ((4 * i) + j)))), none, some (.long (((((L 34) 3) * ((L 34) j)) * ((ma_up L 7 (cCp (L d) (L 34) 3 (L 7) (4 * i + j))) d ((4 * i) + 3))) + ((((L 34) 3) * ((L 34) i)) * ((ma_up L 7 (cCp (L d) (L 34) 3 (L 7) (4 * i + j))) d (12 + j))))), none]) dX4_cutBy_103 rfl (Nat.le_of_ble_eq_true rfl) rfl rfl ?_
            refine ev_aload_n (pc' := 106) (i := 0) dX4_cutBy_105 rfl rfl rfl ?_
            refine ev_getR (pc' := 109) fo_X4_9 dX4_cutBy_106 rfl hs_6 rfl rf_6_0 ?_
            refine ev_iconst (pc' := 110) (v := 4) dX4_cutBy_109 rfl ki_4 ?_
            refine ev_iload (pc' := 112) dX4_cutBy_110 rfl rfl ?_
            refine ev_imul (pc' := 113) (v := nI (4 * i)) dX4_cutBy_112 rfl (pk_mul 4 i) ?_
            refine ev_iload (pc' := 115) dX4_cutBy_113 rfl rfl ?_
            refine ev_iadd (pc' := 116) (v := nI ((4 * i) + j)) dX4_cutBy_115 rfl (nI_add (4 * i) j) ?_
            refine ev_lload (pc' := 118) dX4_cutBy_116 rfl rfl ?_
            refine ev_lload (pc' := 120) dX4_cutBy_118 rfl rfl ?_
            refine ev_lsub (pc' := 121) (v := ((((L 34) 3) * ((L 34) 3)) * ((ma_up L 7 (cCp (L d) (L 34) 3 (L 7) (4 * i + j))) d ((4 * i) + j))) - (((((L 34) 3) * ((L 34) j)) * ((ma_up L 7 (cCp (L d) (L 34) 3 (L 7) (4 * i + j))) d ((4 * i) + 3))) + ((((L 34) 3) * ((L 34) i)) * ((ma_up L 7 (cCp (L d) (L 34) 3 (L 7) (4 * i + j))) d (12 + j))))) dX4_cutBy_120 rfl rfl ?_
            refine ev_aload_n (pc' := 122) (i := 2) dX4_cutBy_121 rfl rfl rfl ?_
            refine ev_iload (pc' := 124) dX4_cutBy_122 rfl rfl ?_
            refine ev_lald (pc' := 125) (j := i) (v := (L 34) i) dX4_cutBy_124 rfl hs_34 rfl (by omega) (Nat.le_of_ble_eq_true rfl) rfl ?_
            refine ev_aload_n (pc' := 126) (i := 2) dX4_cutBy_125 rfl rfl rfl ?_
            refine ev_iload (pc' := 128) dX4_cutBy_126 rfl rfl ?_
            refine ev_lald (pc' := 129) (j := j) (v := (L 34) j) dX4_cutBy_128 rfl hs_34 rfl (by omega) (Nat.le_of_ble_eq_true rfl) rfl ?_
            refine ev_lmul (pc' := 130) (v := ((L 34) i) * ((L 34) j)) dX4_cutBy_129 rfl rfl ?_
            refine ev_aload_n (pc' := 131) (i := 1) dX4_cutBy_130 rfl rfl rfl ?_
            refine ev_getR (pc' := 134) fo_X4_9 dX4_cutBy_131 rfl ho rfl hro ?_
            refine ev_iconst (pc' := 135) (v := 4) dX4_cutBy_134 rfl ki_4 ?_
            refine ev_iload_n (pc' := 136) (i := 3) dX4_cutBy_135 rfl rfl rfl ?_
            refine ev_imul (pc' := 137) (v := 12) dX4_cutBy_136 rfl (by decide) ?_
            refine ev_iload_n (pc' := 138) (i := 3) dX4_cutBy_137 rfl rfl rfl ?_
            refine ev_iadd (pc' := 139) (v := 15) dX4_cutBy_138 rfl (by decide) ?_
            refine ev_lald (pc' := 140) (j := 15) (v := (ma_up L 7 (cCp (L d) (L 34) 3 (L 7) (4 * i + j))) d 15) dX4_cutBy_139 rfl hd rfl (Nat.le_of_ble_eq_true rfl) (Nat.le_of_ble_eq_true rfl) rfl ?_
            refine ev_lmul (pc' := 141) (v := (((L 34) i) * ((L 34) j)) * ((ma_up L 7 (cCp (L d) (L 34) 3 (L 7) (4 * i + j))) d 15)) dX4_cutBy_140 rfl rfl ?_
            refine ev_ladd (pc' := 142) (v := (((((L 34) 3) * ((L 34) 3)) * ((ma_up L 7 (cCp (L d) (L 34) 3 (L 7) (4 * i + j))) d ((4 * i) + j))) - (((((L 34) 3) * ((L 34) j)) * ((ma_up L 7 (cCp (L d) (L 34) 3 (L 7) (4 * i + j))) d ((4 * i) + 3))) + ((((L 34) 3) * ((L 34) i)) * ((ma_up L 7 (cCp (L d) (L 34) 3 (L 7) (4 * i + j))) d (12 + j))))) + ((((L 34) i) * ((L 34) j)) * ((ma_up L 7 (cCp (L d) (L 34) 3 (L 7) (4 * i + j))) d 15))) dX4_cutBy_141 rfl rfl ?_
            refine ev_last (pc' := 143) (j := (4 * i) + j) (L' := (ma_up L 7 (ma_up (cCp (L d) (L 34) 3 (L 7) (4 * i + j)) ((4 * i) + j) ((((((L 34) 3) * ((L 34) 3)) * ((ma_up L 7 (cCp (L d) (L 34) 3 (L 7) (4 * i + j))) d ((4 * i) + j))) - (((((L 34) 3) * ((L 34) j)) * ((ma_up L 7 (cCp (L d) (L 34) 3 (L 7) (4 * i + j))) d ((4 * i) + 3))) + ((((L 34) 3) * ((L 34) i)) * ((ma_up L 7 (cCp (L d) (L 34) 3 (L 7) (4 * i + j))) d (12 + j))))) + ((((L 34) i) * ((L 34) j)) * ((ma_up L 7 (cCp (L d) (L 34) 3 (L 7) (4 * i + j))) d 15)))))) dX4_cutBy_142 rfl hs_7 rfl (by omega) (Nat.le_of_ble_eq_true rfl) (ma_up_up _ _ _ _) ?_
            refine ev_iinc (pc' := 146) (v := nI (j + 1)) (lv' := [some (.ref 6), some (.ref o), some (.ref 34), some (.int 3), some (.long ((L 34) 3)), none, some (.int (nI i)), some (.int (nI (j + 1))), some (.long ((((L 34) 3) * ((L 34) 3)) * ((ma_up L 7 (cCp (L d) (L 34) 3 (L 7) (4 * i + j))) d ((4 * i) + j)))), none, some (.long (((((L 34) 3) * ((L 34) j)) * ((ma_up L 7 (cCp (L d) (L 34) 3 (L 7) (4 * i + j))) d ((4 * i) + 3))) + ((((L 34) 3) * ((L 34) i)) * ((ma_up L 7 (cCp (L d) (L 34) 3 (L 7) (4 * i + j))) d (12 + j))))), none]) dX4_cutBy_143 rfl rfl (nI_add j 1) (Nat.le_of_ble_eq_true rfl) rfl rfl ?_
            refine ev_goto (tgt := 38) dX4_cutBy_146 rfl ?_
            refine ev_lvw (lv' := [some (.ref 6), some (.ref o), some (.ref 34), some (.int 3), some (.long ((L 34) 3)), none, some (.int (nI i)), some (.int (nI (j + 1))), none, none, none, none]) ⟨rfl, ⟨rfl, ⟨rfl, ⟨rfl, ⟨rfl, ⟨rfl, ⟨rfl, trivial⟩⟩⟩⟩⟩⟩⟩ ?_
            refine ev_memL (fun z hz => ?_)
            rw [ma_up_n L (cCp (L d) (L 34) 3 (L 7) (4 * i + j)) hd7] at hz
            have hz := hz.trans (congrArg (ma_up L 7) (cCp_s (L d) (L 34) 3 (L 7) (i := i) (j := j) (by omega)))
            subst hz
            exact ihj (j + 1) (by omega)
def cLv (t : Nat → Int64) (x y : Int64) : Int64 := (((((t 0) * x) * x) + (((t 5) * y) * y)) + (t 15)) + (2 * (((((t 1) * x) * y) + ((t 3) * x)) + ((t 7) * y)))
def cSl (t : Nat → Int64) (x y : Int64) : Int64 := 2 * ((((t 2) * x) + ((t 6) * y)) + (t 11))
def cTl (L : ma_L) (a b : Nat) (x y : Int64) : ma_L := ma_up L a (ma_up (ma_up (L a) 4 (cLv (L b) x y)) 5 (cSl (L b) x y))
set_option maxRecDepth 4000 in
theorem t_X4_tellAlong {g : ma_G} {Post : ma_P} {I : ma_I} {L : ma_L} (a b : Nat) (ha : HS a = (4, 6)) (hra : RF a 0 = b) (hb : HS b = (10, 16)) (x : Int64) (y : Int64) (hba : b ≠ a) (k0 : Post none HS I (cTl L a b x y) RF 146) : CT g yX4_tellAlong cX4_tellAlong 5 none rX4_tellAlong [.ref a, .long x, .long y] Post HS I L RF 146 := by
  refine ct_of (lv := [some (.ref a), some (.long x), none, some (.long y), none]) (by decide) (Nat.le_of_ble_eq_true rfl) rfl ?_
  refine ev_aload_n (pc' := 1) (i := 0) dX4_tellAlong_0 rfl rfl rfl ?_
  refine ev_aload_n (pc' := 2) (i := 0) dX4_tellAlong_1 rfl rfl rfl ?_
  refine ev_getR (pc' := 5) fo_X4_9 dX4_tellAlong_2 rfl ha rfl hra ?_
  refine ev_iconst (pc' := 6) (v := 0) dX4_tellAlong_5 rfl ki_0 ?_
  refine ev_lald (pc' := 7) (j := 0) (v := (L b) 0) dX4_tellAlong_6 rfl hb rfl (Nat.le_of_ble_eq_true rfl) (Nat.le_of_ble_eq_true rfl) rfl ?_
  refine ev_lload_n (pc' := 8) (i := 1) dX4_tellAlong_7 rfl rfl rfl ?_
  refine ev_lmul (pc' := 9) (v := ((L b) 0) * x) dX4_tellAlong_8 rfl rfl ?_
  refine ev_lload_n (pc' := 10) (i := 1) dX4_tellAlong_9 rfl rfl rfl ?_
  refine ev_lmul (pc' := 11) (v := (((L b) 0) * x) * x) dX4_tellAlong_10 rfl rfl ?_
  refine ev_aload_n (pc' := 12) (i := 0) dX4_tellAlong_11 rfl rfl rfl ?_
  refine ev_getR (pc' := 15) fo_X4_9 dX4_tellAlong_12 rfl ha rfl hra ?_
  refine ev_iconst (pc' := 16) (v := 5) dX4_tellAlong_15 rfl ki_5 ?_
  refine ev_lald (pc' := 17) (j := 5) (v := (L b) 5) dX4_tellAlong_16 rfl hb rfl (Nat.le_of_ble_eq_true rfl) (Nat.le_of_ble_eq_true rfl) rfl ?_
  refine ev_lload_n (pc' := 18) (i := 3) dX4_tellAlong_17 rfl rfl rfl ?_
  refine ev_lmul (pc' := 19) (v := ((L b) 5) * y) dX4_tellAlong_18 rfl rfl ?_
  refine ev_lload_n (pc' := 20) (i := 3) dX4_tellAlong_19 rfl rfl rfl ?_
  refine ev_lmul (pc' := 21) (v := (((L b) 5) * y) * y) dX4_tellAlong_20 rfl rfl ?_
  refine ev_ladd (pc' := 22) (v := ((((L b) 0) * x) * x) + ((((L b) 5) * y) * y)) dX4_tellAlong_21 rfl rfl ?_
  refine ev_aload_n (pc' := 23) (i := 0) dX4_tellAlong_22 rfl rfl rfl ?_
  refine ev_getR (pc' := 26) fo_X4_9 dX4_tellAlong_23 rfl ha rfl hra ?_
  refine ev_bipush (pc' := 28) (v := 15) dX4_tellAlong_26 rfl kb_15 ?_
  refine ev_lald (pc' := 29) (j := 15) (v := (L b) 15) dX4_tellAlong_28 rfl hb rfl (Nat.le_of_ble_eq_true rfl) (Nat.le_of_ble_eq_true rfl) rfl ?_
  refine ev_ladd (pc' := 30) (v := (((((L b) 0) * x) * x) + ((((L b) 5) * y) * y)) + ((L b) 15)) dX4_tellAlong_29 rfl rfl ?_
  refine ev_ldc2 (pc' := 33) cl_X4_71 dX4_tellAlong_30 rfl ?_
  refine ev_aload_n (pc' := 34) (i := 0) dX4_tellAlong_33 rfl rfl rfl ?_
  refine ev_getR (pc' := 37) fo_X4_9 dX4_tellAlong_34 rfl ha rfl hra ?_
  refine ev_iconst (pc' := 38) (v := 1) dX4_tellAlong_37 rfl ki_1 ?_
  refine ev_lald (pc' := 39) (j := 1) (v := (L b) 1) dX4_tellAlong_38 rfl hb rfl (Nat.le_of_ble_eq_true rfl) (Nat.le_of_ble_eq_true rfl) rfl ?_
  refine ev_lload_n (pc' := 40) (i := 1) dX4_tellAlong_39 rfl rfl rfl ?_
  refine ev_lmul (pc' := 41) (v := ((L b) 1) * x) dX4_tellAlong_40 rfl rfl ?_
  refine ev_lload_n (pc' := 42) (i := 3) dX4_tellAlong_41 rfl rfl rfl ?_
  refine ev_lmul (pc' := 43) (v := (((L b) 1) * x) * y) dX4_tellAlong_42 rfl rfl ?_
  refine ev_aload_n (pc' := 44) (i := 0) dX4_tellAlong_43 rfl rfl rfl ?_
  refine ev_getR (pc' := 47) fo_X4_9 dX4_tellAlong_44 rfl ha rfl hra ?_
  refine ev_iconst (pc' := 48) (v := 3) dX4_tellAlong_47 rfl ki_3 ?_
  refine ev_lald (pc' := 49) (j := 3) (v := (L b) 3) dX4_tellAlong_48 rfl hb rfl (Nat.le_of_ble_eq_true rfl) (Nat.le_of_ble_eq_true rfl) rfl ?_
  refine ev_lload_n (pc' := 50) (i := 1) dX4_tellAlong_49 rfl rfl rfl ?_
  refine ev_lmul (pc' := 51) (v := ((L b) 3) * x) dX4_tellAlong_50 rfl rfl ?_
  refine ev_ladd (pc' := 52) (v := ((((L b) 1) * x) * y) + (((L b) 3) * x)) dX4_tellAlong_51 rfl rfl ?_
  refine ev_aload_n (pc' := 53) (i := 0) dX4_tellAlong_52 rfl rfl rfl ?_
  refine ev_getR (pc' := 56) fo_X4_9 dX4_tellAlong_53 rfl ha rfl hra ?_
  refine ev_bipush (pc' := 58) (v := 7) dX4_tellAlong_56 rfl kb_7 ?_
  refine ev_lald (pc' := 59) (j := 7) (v := (L b) 7) dX4_tellAlong_58 rfl hb rfl (Nat.le_of_ble_eq_true rfl) (Nat.le_of_ble_eq_true rfl) rfl ?_
  refine ev_lload_n (pc' := 60) (i := 3) dX4_tellAlong_59 rfl rfl rfl ?_
  refine ev_lmul (pc' := 61) (v := ((L b) 7) * y) dX4_tellAlong_60 rfl rfl ?_
  refine ev_ladd (pc' := 62) (v := (((((L b) 1) * x) * y) + (((L b) 3) * x)) + (((L b) 7) * y)) dX4_tellAlong_61 rfl rfl ?_
  refine ev_lmul (pc' := 63) (v := 2 * ((((((L b) 1) * x) * y) + (((L b) 3) * x)) + (((L b) 7) * y))) dX4_tellAlong_62 rfl rfl ?_
  refine ev_ladd (pc' := 64) (v := ((((((L b) 0) * x) * x) + ((((L b) 5) * y) * y)) + ((L b) 15)) + (2 * ((((((L b) 1) * x) * y) + (((L b) 3) * x)) + (((L b) 7) * y)))) dX4_tellAlong_63 rfl rfl ?_
  refine ev_putL (pc' := 67) (L' := (ma_up L a (ma_up (L a) 4 (((((((L b) 0) * x) * x) + ((((L b) 5) * y) * y)) + ((L b) 15)) + (2 * ((((((L b) 1) * x) * y) + (((L b) 3) * x)) + (((L b) 7) * y))))))) fo_X4_73 dX4_tellAlong_64 rfl ha rfl (fun r hr => by cases hr; rfl) rfl ?_
  refine ev_memL (fun K1 hK1 => ?_)
  have hb1 : K1 b = L b := by rw [hK1, ma_up_n _ _ hba]
  refine ev_aload_n (pc' := 68) (i := 0) dX4_tellAlong_67 rfl rfl rfl ?_
  refine ev_ldc2 (pc' := 71) cl_X4_71 dX4_tellAlong_68 rfl ?_
  refine ev_aload_n (pc' := 72) (i := 0) dX4_tellAlong_71 rfl rfl rfl ?_
  refine ev_getR (pc' := 75) fo_X4_9 dX4_tellAlong_72 rfl ha rfl hra ?_
  refine ev_iconst (pc' := 76) (v := 2) dX4_tellAlong_75 rfl ki_2 ?_
  refine ev_lald (pc' := 77) (j := 2) (v := (K1 b) 2) dX4_tellAlong_76 rfl hb rfl (Nat.le_of_ble_eq_true rfl) (Nat.le_of_ble_eq_true rfl) rfl ?_
  refine ev_lload_n (pc' := 78) (i := 1) dX4_tellAlong_77 rfl rfl rfl ?_
  refine ev_lmul (pc' := 79) (v := ((K1 b) 2) * x) dX4_tellAlong_78 rfl rfl ?_
  refine ev_aload_n (pc' := 80) (i := 0) dX4_tellAlong_79 rfl rfl rfl ?_
  refine ev_getR (pc' := 83) fo_X4_9 dX4_tellAlong_80 rfl ha rfl hra ?_
  refine ev_bipush (pc' := 85) (v := 6) dX4_tellAlong_83 rfl kb_6 ?_
  refine ev_lald (pc' := 86) (j := 6) (v := (K1 b) 6) dX4_tellAlong_85 rfl hb rfl (Nat.le_of_ble_eq_true rfl) (Nat.le_of_ble_eq_true rfl) rfl ?_
  refine ev_lload_n (pc' := 87) (i := 3) dX4_tellAlong_86 rfl rfl rfl ?_
  refine ev_lmul (pc' := 88) (v := ((K1 b) 6) * y) dX4_tellAlong_87 rfl rfl ?_
  refine ev_ladd (pc' := 89) (v := (((K1 b) 2) * x) + (((K1 b) 6) * y)) dX4_tellAlong_88 rfl rfl ?_
  refine ev_aload_n (pc' := 90) (i := 0) dX4_tellAlong_89 rfl rfl rfl ?_
  refine ev_getR (pc' := 93) fo_X4_9 dX4_tellAlong_90 rfl ha rfl hra ?_
  refine ev_bipush (pc' := 95) (v := 11) dX4_tellAlong_93 rfl kb_11 ?_
  refine ev_lald (pc' := 96) (j := 11) (v := (K1 b) 11) dX4_tellAlong_95 rfl hb rfl (Nat.le_of_ble_eq_true rfl) (Nat.le_of_ble_eq_true rfl) rfl ?_
  refine ev_ladd (pc' := 97) (v := ((((K1 b) 2) * x) + (((K1 b) 6) * y)) + ((K1 b) 11)) dX4_tellAlong_96 rfl rfl ?_
  refine ev_lmul (pc' := 98) (v := 2 * (((((K1 b) 2) * x) + (((K1 b) 6) * y)) + ((K1 b) 11))) dX4_tellAlong_97 rfl rfl ?_
  refine ev_topl (fun z hz => ?_)
  rw [hb1] at hz
  refine ev_putL (pc' := 101) (L' := (ma_up K1 a (ma_up (K1 a) 5 z))) fo_X4_77 dX4_tellAlong_98 rfl ha rfl (fun r hr => by cases hr; rfl) rfl ?_
  refine ev_vret dX4_tellAlong_101 rfl ⟨Nat.le_refl _, Nat.le_refl _⟩ ?_
  subst hK1
  rw [ma_up_up, ma_up_s, hz]
  exact k0
theorem cSc_congr {f f' : Nat → Int64} : ∀ n, (∀ j, j < n → f j = f' j) → cSc f n = cSc f' n
  | 0, _ => rfl
  | n + 1, h => by unfold cSc; rw [cSc_congr n (fun j hj => h j (by omega)), h n (by omega)]
def cOw (t : Nat → Int64) : Nat → Int64
  | 0 => 1
  | 1 => -((((t 0) + (t 5)) + (t 10)) + (t 15))
  | 2 => (((((cM2 t 0 1) + (cM2 t 0 2)) + (cM2 t 0 3)) + (cM2 t 1 2)) + (cM2 t 1 3)) + (cM2 t 2 3)
  | 3 => -((((cM3 t 0 1 2) + (cM3 t 0 1 3)) + (cM3 t 0 2 3)) + (cM3 t 1 2 3))
  | _ => cW t
def cRk (t : Nat → Int64) : Nat := if cOw t 4 = 0 then (if cOw t 3 = 0 then (if cOw t 2 = 0 then (if cOw t 1 = 0 then 0 else 1) else 2) else 3) else 4
def cAv (t : Nat → Int64) : Int32 := (cSc (cOw t) 5).1
def cSg (I : ma_I) (a : Nat) (t : Nat → Int64) : ma_I := ma_up I a (ma_up (ma_up (I a) 2 (cAv t)) 3 (nI (cRk t) - cAv t))
set_option maxRecDepth 4000 in
theorem t_X4_readSigns {g : ma_G} {Post : ma_P} {I : ma_I} {L : ma_L} (a b c : Nat) (ha : HS a = (4, 6)) (hra : RF a 0 = b) (hb : HS b = (10, 16)) (hqa : RF a 1 = c) (hc : HS c = (10, 5))  (hbc : b ≠ c) (k0 : ∀ K : ma_L, (∀ x, x ≠ c → K x = L x) → (∀ j, j < 5 → K c j = cOw (L b) j) → Post none HS (cSg I a (L b)) K RF 146) : CT g yX4_readSigns cX4_readSigns 2 none rX4_readSigns [.ref a] Post HS I L RF 146 := by
  refine ct_of (lv := [some (.ref a), none]) (by decide) (Nat.le_of_ble_eq_true rfl) rfl ?_
  refine ev_aload_n (pc' := 1) (i := 0) dX4_readSigns_0 rfl rfl rfl ?_
  refine ev_getR (pc' := 4) fo_X4_15 dX4_readSigns_1 rfl ha rfl hqa ?_
  refine ev_iconst (pc' := 5) (v := 0) dX4_readSigns_4 rfl ki_0 ?_
  refine ev_lconst (pc' := 6) (v := 1) dX4_readSigns_5 rfl kl_1 ?_
  refine ev_last (pc' := 7) (j := 0) (L' := (ma_up L c (ma_up (L c) 0 1))) dX4_readSigns_6 rfl hc rfl (Nat.le_of_ble_eq_true rfl) (Nat.le_of_ble_eq_true rfl) rfl ?_
  refine ev_memL (fun K0 hK0 => ?_)
  have hb0 : K0 b = L b := by rw [hK0, ma_up_n _ _ hbc]
  have hx0 : ∀ x, x ≠ c → K0 x = L x := fun x h => by rw [hK0, ma_up_n _ _ h]
  have ho0 : K0 c = ma_up (L c) 0 1 := by rw [hK0, ma_up_s]
  refine ev_aload_n (pc' := 8) (i := 0) dX4_readSigns_7 rfl rfl rfl ?_
  refine ev_getR (pc' := 11) fo_X4_15 dX4_readSigns_8 rfl ha rfl hqa ?_
  refine ev_iconst (pc' := 12) (v := 1) dX4_readSigns_11 rfl ki_1 ?_
  refine ev_aload_n (pc' := 13) (i := 0) dX4_readSigns_12 rfl rfl rfl ?_
  refine ev_getR (pc' := 16) fo_X4_9 dX4_readSigns_13 rfl ha rfl hra ?_
  refine ev_iconst (pc' := 17) (v := 0) dX4_readSigns_16 rfl ki_0 ?_
  refine ev_lald (pc' := 18) (j := 0) (v := (K0 b) 0) dX4_readSigns_17 rfl hb rfl (Nat.le_of_ble_eq_true rfl) (Nat.le_of_ble_eq_true rfl) rfl ?_
  refine ev_aload_n (pc' := 19) (i := 0) dX4_readSigns_18 rfl rfl rfl ?_
  refine ev_getR (pc' := 22) fo_X4_9 dX4_readSigns_19 rfl ha rfl hra ?_
  refine ev_iconst (pc' := 23) (v := 5) dX4_readSigns_22 rfl ki_5 ?_
  refine ev_lald (pc' := 24) (j := 5) (v := (K0 b) 5) dX4_readSigns_23 rfl hb rfl (Nat.le_of_ble_eq_true rfl) (Nat.le_of_ble_eq_true rfl) rfl ?_
  refine ev_ladd (pc' := 25) (v := ((K0 b) 0) + ((K0 b) 5)) dX4_readSigns_24 rfl rfl ?_
  refine ev_aload_n (pc' := 26) (i := 0) dX4_readSigns_25 rfl rfl rfl ?_
  refine ev_getR (pc' := 29) fo_X4_9 dX4_readSigns_26 rfl ha rfl hra ?_
  refine ev_bipush (pc' := 31) (v := 10) dX4_readSigns_29 rfl kb_10 ?_
  refine ev_lald (pc' := 32) (j := 10) (v := (K0 b) 10) dX4_readSigns_31 rfl hb rfl (Nat.le_of_ble_eq_true rfl) (Nat.le_of_ble_eq_true rfl) rfl ?_
  refine ev_ladd (pc' := 33) (v := (((K0 b) 0) + ((K0 b) 5)) + ((K0 b) 10)) dX4_readSigns_32 rfl rfl ?_
  refine ev_aload_n (pc' := 34) (i := 0) dX4_readSigns_33 rfl rfl rfl ?_
  refine ev_getR (pc' := 37) fo_X4_9 dX4_readSigns_34 rfl ha rfl hra ?_
  refine ev_bipush (pc' := 39) (v := 15) dX4_readSigns_37 rfl kb_15 ?_
  refine ev_lald (pc' := 40) (j := 15) (v := (K0 b) 15) dX4_readSigns_39 rfl hb rfl (Nat.le_of_ble_eq_true rfl) (Nat.le_of_ble_eq_true rfl) rfl ?_
  refine ev_ladd (pc' := 41) (v := ((((K0 b) 0) + ((K0 b) 5)) + ((K0 b) 10)) + ((K0 b) 15)) dX4_readSigns_40 rfl rfl ?_
  refine ev_lneg (pc' := 42) (v := -(((((K0 b) 0) + ((K0 b) 5)) + ((K0 b) 10)) + ((K0 b) 15))) dX4_readSigns_41 rfl rfl ?_
  refine ev_topl (fun z1 hz1 => ?_)
  have hz1 : z1 = cOw (L b) 1 := by rw [hz1, hb0]; rfl
  refine ev_last (pc' := 43) (j := 1) (L' := (ma_up K0 c (ma_up (K0 c) 1 z1))) dX4_readSigns_42 rfl hc rfl (Nat.le_of_ble_eq_true rfl) (Nat.le_of_ble_eq_true rfl) rfl ?_
  refine ev_memL (fun K1 hK1 => ?_)
  have hb1 : K1 b = L b := by rw [hK1, ma_up_n _ _ hbc]; exact hb0
  have hx1 : ∀ x, x ≠ c → K1 x = L x := fun x h => by rw [hK1, ma_up_n _ _ h]; exact hx0 x h
  have ho1 : K1 c = ma_up (K0 c) 1 z1 := by rw [hK1, ma_up_s]
  refine ev_aload_n (pc' := 44) (i := 0) dX4_readSigns_43 rfl rfl rfl ?_
  refine ev_getR (pc' := 47) fo_X4_15 dX4_readSigns_44 rfl ha rfl hqa ?_
  refine ev_iconst (pc' := 48) (v := 2) dX4_readSigns_47 rfl ki_2 ?_
  refine ev_aload_n (pc' := 49) (i := 0) dX4_readSigns_48 rfl rfl rfl ?_
  refine ev_iconst (pc' := 50) (v := 0) dX4_readSigns_49 rfl ki_0 ?_
  refine ev_iconst (pc' := 51) (v := 1) dX4_readSigns_50 rfl ki_1 ?_
  refine ev_callV (pc' := 54) (rm' := rX4_minor2) (b := a) (av := [.int 0, .int 1]) (rest := [.int 2, .ref c]) co_X4_49 ci_X4_minor2 cv_X4_minor2 dX4_readSigns_51 rfl ha hb_X4 rfl rfl (Nat.le_of_ble_eq_true rfl) ⟨(Nat.le_of_ble_eq_true rfl), (Nat.le_of_ble_eq_true rfl)⟩ ⟨(Nat.le_of_ble_eq_true rfl), (Nat.le_of_ble_eq_true rfl)⟩ ?_
  refine t_X4_minor2 a b ha hra hb 0 1 (by omega) (by omega) ?_
  refine ev_aload_n (pc' := 55) (i := 0) dX4_readSigns_54 rfl rfl rfl ?_
  refine ev_iconst (pc' := 56) (v := 0) dX4_readSigns_55 rfl ki_0 ?_
  refine ev_iconst (pc' := 57) (v := 2) dX4_readSigns_56 rfl ki_2 ?_
  refine ev_callV (pc' := 60) (rm' := rX4_minor2) (b := a) (av := [.int 0, .int 2]) (rest := [.long (cM2 (K1 b) 0 1), .int 2, .ref c]) co_X4_49 ci_X4_minor2 cv_X4_minor2 dX4_readSigns_57 rfl ha hb_X4 rfl rfl (Nat.le_of_ble_eq_true rfl) ⟨(Nat.le_of_ble_eq_true rfl), (Nat.le_of_ble_eq_true rfl)⟩ ⟨(Nat.le_of_ble_eq_true rfl), (Nat.le_of_ble_eq_true rfl)⟩ ?_
  refine t_X4_minor2 a b ha hra hb 0 2 (by omega) (by omega) ?_
  refine ev_ladd (pc' := 61) (v := (cM2 (K1 b) 0 1) + (cM2 (K1 b) 0 2)) dX4_readSigns_60 rfl rfl ?_
  refine ev_aload_n (pc' := 62) (i := 0) dX4_readSigns_61 rfl rfl rfl ?_
  refine ev_iconst (pc' := 63) (v := 0) dX4_readSigns_62 rfl ki_0 ?_
  refine ev_iconst (pc' := 64) (v := 3) dX4_readSigns_63 rfl ki_3 ?_
  refine ev_callV (pc' := 67) (rm' := rX4_minor2) (b := a) (av := [.int 0, .int 3]) (rest := [.long ((cM2 (K1 b) 0 1) + (cM2 (K1 b) 0 2)), .int 2, .ref c]) co_X4_49 ci_X4_minor2 cv_X4_minor2 dX4_readSigns_64 rfl ha hb_X4 rfl rfl (Nat.le_of_ble_eq_true rfl) ⟨(Nat.le_of_ble_eq_true rfl), (Nat.le_of_ble_eq_true rfl)⟩ ⟨(Nat.le_of_ble_eq_true rfl), (Nat.le_of_ble_eq_true rfl)⟩ ?_
  refine t_X4_minor2 a b ha hra hb 0 3 (by omega) (by omega) ?_
  refine ev_ladd (pc' := 68) (v := ((cM2 (K1 b) 0 1) + (cM2 (K1 b) 0 2)) + (cM2 (K1 b) 0 3)) dX4_readSigns_67 rfl rfl ?_
  refine ev_aload_n (pc' := 69) (i := 0) dX4_readSigns_68 rfl rfl rfl ?_
  refine ev_iconst (pc' := 70) (v := 1) dX4_readSigns_69 rfl ki_1 ?_
  refine ev_iconst (pc' := 71) (v := 2) dX4_readSigns_70 rfl ki_2 ?_
  refine ev_callV (pc' := 74) (rm' := rX4_minor2) (b := a) (av := [.int 1, .int 2]) (rest := [.long (((cM2 (K1 b) 0 1) + (cM2 (K1 b) 0 2)) + (cM2 (K1 b) 0 3)), .int 2, .ref c]) co_X4_49 ci_X4_minor2 cv_X4_minor2 dX4_readSigns_71 rfl ha hb_X4 rfl rfl (Nat.le_of_ble_eq_true rfl) ⟨(Nat.le_of_ble_eq_true rfl), (Nat.le_of_ble_eq_true rfl)⟩ ⟨(Nat.le_of_ble_eq_true rfl), (Nat.le_of_ble_eq_true rfl)⟩ ?_
  refine t_X4_minor2 a b ha hra hb 1 2 (by omega) (by omega) ?_
  refine ev_ladd (pc' := 75) (v := (((cM2 (K1 b) 0 1) + (cM2 (K1 b) 0 2)) + (cM2 (K1 b) 0 3)) + (cM2 (K1 b) 1 2)) dX4_readSigns_74 rfl rfl ?_
  refine ev_aload_n (pc' := 76) (i := 0) dX4_readSigns_75 rfl rfl rfl ?_
  refine ev_iconst (pc' := 77) (v := 1) dX4_readSigns_76 rfl ki_1 ?_
  refine ev_iconst (pc' := 78) (v := 3) dX4_readSigns_77 rfl ki_3 ?_
  refine ev_callV (pc' := 81) (rm' := rX4_minor2) (b := a) (av := [.int 1, .int 3]) (rest := [.long ((((cM2 (K1 b) 0 1) + (cM2 (K1 b) 0 2)) + (cM2 (K1 b) 0 3)) + (cM2 (K1 b) 1 2)), .int 2, .ref c]) co_X4_49 ci_X4_minor2 cv_X4_minor2 dX4_readSigns_78 rfl ha hb_X4 rfl rfl (Nat.le_of_ble_eq_true rfl) ⟨(Nat.le_of_ble_eq_true rfl), (Nat.le_of_ble_eq_true rfl)⟩ ⟨(Nat.le_of_ble_eq_true rfl), (Nat.le_of_ble_eq_true rfl)⟩ ?_
  refine t_X4_minor2 a b ha hra hb 1 3 (by omega) (by omega) ?_
  refine ev_ladd (pc' := 82) (v := ((((cM2 (K1 b) 0 1) + (cM2 (K1 b) 0 2)) + (cM2 (K1 b) 0 3)) + (cM2 (K1 b) 1 2)) + (cM2 (K1 b) 1 3)) dX4_readSigns_81 rfl rfl ?_
  refine ev_aload_n (pc' := 83) (i := 0) dX4_readSigns_82 rfl rfl rfl ?_
  refine ev_iconst (pc' := 84) (v := 2) dX4_readSigns_83 rfl ki_2 ?_
  refine ev_iconst (pc' := 85) (v := 3) dX4_readSigns_84 rfl ki_3 ?_
  refine ev_callV (pc' := 88) (rm' := rX4_minor2) (b := a) (av := [.int 2, .int 3]) (rest := [.long (((((cM2 (K1 b) 0 1) + (cM2 (K1 b) 0 2)) + (cM2 (K1 b) 0 3)) + (cM2 (K1 b) 1 2)) + (cM2 (K1 b) 1 3)), .int 2, .ref c]) co_X4_49 ci_X4_minor2 cv_X4_minor2 dX4_readSigns_85 rfl ha hb_X4 rfl rfl (Nat.le_of_ble_eq_true rfl) ⟨(Nat.le_of_ble_eq_true rfl), (Nat.le_of_ble_eq_true rfl)⟩ ⟨(Nat.le_of_ble_eq_true rfl), (Nat.le_of_ble_eq_true rfl)⟩ ?_
  refine t_X4_minor2 a b ha hra hb 2 3 (by omega) (by omega) ?_
  refine ev_ladd (pc' := 89) (v := (((((cM2 (K1 b) 0 1) + (cM2 (K1 b) 0 2)) + (cM2 (K1 b) 0 3)) + (cM2 (K1 b) 1 2)) + (cM2 (K1 b) 1 3)) + (cM2 (K1 b) 2 3)) dX4_readSigns_88 rfl rfl ?_
  refine ev_topl (fun z2 hz2 => ?_)
  have hz2 : z2 = cOw (L b) 2 := by rw [hz2, hb1]; rfl
  refine ev_last (pc' := 90) (j := 2) (L' := (ma_up K1 c (ma_up (K1 c) 2 z2))) dX4_readSigns_89 rfl hc rfl (Nat.le_of_ble_eq_true rfl) (Nat.le_of_ble_eq_true rfl) rfl ?_
  refine ev_memL (fun K2 hK2 => ?_)
  have hb2 : K2 b = L b := by rw [hK2, ma_up_n _ _ hbc]; exact hb1
  have hx2 : ∀ x, x ≠ c → K2 x = L x := fun x h => by rw [hK2, ma_up_n _ _ h]; exact hx1 x h
  have ho2 : K2 c = ma_up (K1 c) 2 z2 := by rw [hK2, ma_up_s]
  refine ev_aload_n (pc' := 91) (i := 0) dX4_readSigns_90 rfl rfl rfl ?_
  refine ev_getR (pc' := 94) fo_X4_15 dX4_readSigns_91 rfl ha rfl hqa ?_
  refine ev_iconst (pc' := 95) (v := 3) dX4_readSigns_94 rfl ki_3 ?_
  refine ev_aload_n (pc' := 96) (i := 0) dX4_readSigns_95 rfl rfl rfl ?_
  refine ev_iconst (pc' := 97) (v := 0) dX4_readSigns_96 rfl ki_0 ?_
  refine ev_iconst (pc' := 98) (v := 1) dX4_readSigns_97 rfl ki_1 ?_
  refine ev_iconst (pc' := 99) (v := 2) dX4_readSigns_98 rfl ki_2 ?_
  refine ev_callV (pc' := 102) (rm' := rX4_minor3) (b := a) (av := [.int 0, .int 1, .int 2]) (rest := [.int 3, .ref c]) co_X4_53 ci_X4_minor3 cv_X4_minor3 dX4_readSigns_99 rfl ha hb_X4 rfl rfl (Nat.le_of_ble_eq_true rfl) ⟨(Nat.le_of_ble_eq_true rfl), (Nat.le_of_ble_eq_true rfl)⟩ ⟨(Nat.le_of_ble_eq_true rfl), (Nat.le_of_ble_eq_true rfl)⟩ ?_
  refine t_X4_minor3 a b ha hra hb 0 1 2 (by omega) (by omega) (by omega) ?_
  refine ev_aload_n (pc' := 103) (i := 0) dX4_readSigns_102 rfl rfl rfl ?_
  refine ev_iconst (pc' := 104) (v := 0) dX4_readSigns_103 rfl ki_0 ?_
  refine ev_iconst (pc' := 105) (v := 1) dX4_readSigns_104 rfl ki_1 ?_
  refine ev_iconst (pc' := 106) (v := 3) dX4_readSigns_105 rfl ki_3 ?_
  refine ev_callV (pc' := 109) (rm' := rX4_minor3) (b := a) (av := [.int 0, .int 1, .int 3]) (rest := [.long (cM3 (K2 b) 0 1 2), .int 3, .ref c]) co_X4_53 ci_X4_minor3 cv_X4_minor3 dX4_readSigns_106 rfl ha hb_X4 rfl rfl (Nat.le_of_ble_eq_true rfl) ⟨(Nat.le_of_ble_eq_true rfl), (Nat.le_of_ble_eq_true rfl)⟩ ⟨(Nat.le_of_ble_eq_true rfl), (Nat.le_of_ble_eq_true rfl)⟩ ?_
  refine t_X4_minor3 a b ha hra hb 0 1 3 (by omega) (by omega) (by omega) ?_
  refine ev_ladd (pc' := 110) (v := (cM3 (K2 b) 0 1 2) + (cM3 (K2 b) 0 1 3)) dX4_readSigns_109 rfl rfl ?_
  refine ev_aload_n (pc' := 111) (i := 0) dX4_readSigns_110 rfl rfl rfl ?_
  refine ev_iconst (pc' := 112) (v := 0) dX4_readSigns_111 rfl ki_0 ?_
  refine ev_iconst (pc' := 113) (v := 2) dX4_readSigns_112 rfl ki_2 ?_
  refine ev_iconst (pc' := 114) (v := 3) dX4_readSigns_113 rfl ki_3 ?_
  refine ev_callV (pc' := 117) (rm' := rX4_minor3) (b := a) (av := [.int 0, .int 2, .int 3]) (rest := [.long ((cM3 (K2 b) 0 1 2) + (cM3 (K2 b) 0 1 3)), .int 3, .ref c]) co_X4_53 ci_X4_minor3 cv_X4_minor3 dX4_readSigns_114 rfl ha hb_X4 rfl rfl (Nat.le_of_ble_eq_true rfl) ⟨(Nat.le_of_ble_eq_true rfl), (Nat.le_of_ble_eq_true rfl)⟩ ⟨(Nat.le_of_ble_eq_true rfl), (Nat.le_of_ble_eq_true rfl)⟩ ?_
  refine t_X4_minor3 a b ha hra hb 0 2 3 (by omega) (by omega) (by omega) ?_
  refine ev_ladd (pc' := 118) (v := ((cM3 (K2 b) 0 1 2) + (cM3 (K2 b) 0 1 3)) + (cM3 (K2 b) 0 2 3)) dX4_readSigns_117 rfl rfl ?_
  refine ev_aload_n (pc' := 119) (i := 0) dX4_readSigns_118 rfl rfl rfl ?_
  refine ev_iconst (pc' := 120) (v := 1) dX4_readSigns_119 rfl ki_1 ?_
  refine ev_iconst (pc' := 121) (v := 2) dX4_readSigns_120 rfl ki_2 ?_
  refine ev_iconst (pc' := 122) (v := 3) dX4_readSigns_121 rfl ki_3 ?_
  refine ev_callV (pc' := 125) (rm' := rX4_minor3) (b := a) (av := [.int 1, .int 2, .int 3]) (rest := [.long (((cM3 (K2 b) 0 1 2) + (cM3 (K2 b) 0 1 3)) + (cM3 (K2 b) 0 2 3)), .int 3, .ref c]) co_X4_53 ci_X4_minor3 cv_X4_minor3 dX4_readSigns_122 rfl ha hb_X4 rfl rfl (Nat.le_of_ble_eq_true rfl) ⟨(Nat.le_of_ble_eq_true rfl), (Nat.le_of_ble_eq_true rfl)⟩ ⟨(Nat.le_of_ble_eq_true rfl), (Nat.le_of_ble_eq_true rfl)⟩ ?_
  refine t_X4_minor3 a b ha hra hb 1 2 3 (by omega) (by omega) (by omega) ?_
  refine ev_ladd (pc' := 126) (v := (((cM3 (K2 b) 0 1 2) + (cM3 (K2 b) 0 1 3)) + (cM3 (K2 b) 0 2 3)) + (cM3 (K2 b) 1 2 3)) dX4_readSigns_125 rfl rfl ?_
  refine ev_lneg (pc' := 127) (v := -((((cM3 (K2 b) 0 1 2) + (cM3 (K2 b) 0 1 3)) + (cM3 (K2 b) 0 2 3)) + (cM3 (K2 b) 1 2 3))) dX4_readSigns_126 rfl rfl ?_
  refine ev_topl (fun z3 hz3 => ?_)
  have hz3 : z3 = cOw (L b) 3 := by rw [hz3, hb2]; rfl
  refine ev_last (pc' := 128) (j := 3) (L' := (ma_up K2 c (ma_up (K2 c) 3 z3))) dX4_readSigns_127 rfl hc rfl (Nat.le_of_ble_eq_true rfl) (Nat.le_of_ble_eq_true rfl) rfl ?_
  refine ev_memL (fun K3 hK3 => ?_)
  have hb3 : K3 b = L b := by rw [hK3, ma_up_n _ _ hbc]; exact hb2
  have hx3 : ∀ x, x ≠ c → K3 x = L x := fun x h => by rw [hK3, ma_up_n _ _ h]; exact hx2 x h
  have ho3 : K3 c = ma_up (K2 c) 3 z3 := by rw [hK3, ma_up_s]
  refine ev_aload_n (pc' := 129) (i := 0) dX4_readSigns_128 rfl rfl rfl ?_
  refine ev_getR (pc' := 132) fo_X4_15 dX4_readSigns_129 rfl ha rfl hqa ?_
  refine ev_iconst (pc' := 133) (v := 4) dX4_readSigns_132 rfl ki_4 ?_
  refine ev_aload_n (pc' := 134) (i := 0) dX4_readSigns_133 rfl rfl rfl ?_
  refine ev_callV (pc' := 137) (rm' := rX4_worth) (b := a) (av := []) (rest := [.int 4, .ref c]) co_X4_56 ci_X4_worth cv_X4_worth dX4_readSigns_134 rfl ha hb_X4 rfl rfl (Nat.le_of_ble_eq_true rfl) ⟨(Nat.le_of_ble_eq_true rfl), (Nat.le_of_ble_eq_true rfl)⟩ ⟨(Nat.le_of_ble_eq_true rfl), (Nat.le_of_ble_eq_true rfl)⟩ ?_
  refine t_X4_worth a b ha hra hb  ?_
  refine ev_topl (fun z4 hz4 => ?_)
  have hz4 : z4 = cOw (L b) 4 := by rw [hz4, hb3]; rfl
  refine ev_last (pc' := 138) (j := 4) (L' := (ma_up K3 c (ma_up (K3 c) 4 z4))) dX4_readSigns_137 rfl hc rfl (Nat.le_of_ble_eq_true rfl) (Nat.le_of_ble_eq_true rfl) rfl ?_
  refine ev_memL (fun K4 hK4 => ?_)
  have hb4 : K4 b = L b := by rw [hK4, ma_up_n _ _ hbc]; exact hb3
  have hx4 : ∀ x, x ≠ c → K4 x = L x := fun x h => by rw [hK4, ma_up_n _ _ h]; exact hx3 x h
  have ho4 : K4 c = ma_up (K3 c) 4 z4 := by rw [hK4, ma_up_s]
  refine ev_iconst (pc' := 139) (v := 4) dX4_readSigns_138 rfl ki_4 ?_
  refine ev_istore_n (pc' := 140) (i := 1) (lv' := [some (.ref a), some (.int 4)]) dX4_readSigns_139 rfl rfl (Nat.le_of_ble_eq_true rfl) rfl rfl ?_
  have ho : ∀ j, j < 5 → K4 c j = cOw (L b) j := fun j hj => by
    rw [ho4, ho3, ho2, ho1, ho0]
    match j, hj with
    | 0, _ => first | rfl | exact hz1
    | 1, _ => first | rfl | exact hz1
    | 2, _ => first | rfl | exact hz2
    | 3, _ => first | rfl | exact hz3
    | 4, _ => first | rfl | exact hz4
    | j + 5, h => exact absurd h (by omega)
  refine ev_iload_n (pc' := 141) (i := 1) dX4_readSigns_140 rfl rfl rfl ?_
  refine ev_if_le (tgt := 161) (pc' := 144) dX4_readSigns_141 rfl rfl (fun h => absurd h (by decide)) (fun _ => ?_)
  refine ev_aload_n (pc' := 145) (i := 0) dX4_readSigns_144 rfl rfl rfl ?_
  refine ev_getR (pc' := 148) fo_X4_15 dX4_readSigns_145 rfl ha rfl hqa ?_
  refine ev_iload_n (pc' := 149) (i := 1) dX4_readSigns_148 rfl rfl rfl ?_
  refine ev_lald (pc' := 150) (j := 4) (v := cOw (L b) 4) dX4_readSigns_149 rfl hc rfl (Nat.le_of_ble_eq_true rfl) (Nat.le_of_ble_eq_true rfl) (ho 4 (by omega)) ?_
  refine ev_lconst (pc' := 151) (v := 0) dX4_readSigns_150 rfl kl_0 ?_
  refine ev_lc_ne (p1 := 152) (tgt := 161) (pc' := 155) dX4_readSigns_151 rfl dX4_readSigns_152 rfl rfl (fun c1 => ?_) (fun c1 => ?_)
  · refine ev_aload_n (pc' := 162) (i := 0) dX4_readSigns_161 rfl rfl rfl ?_
    refine ev_aload_n (pc' := 163) (i := 0) dX4_readSigns_162 rfl rfl rfl ?_
    refine ev_getR (pc' := 166) fo_X4_15 dX4_readSigns_163 rfl ha rfl hqa ?_
    refine ev_callS (pc' := 169) (rm' := rX7_signChanges) (av := [.ref c]) (rest := [.ref a]) co_X4_60 cs_X7_signChanges dX4_readSigns_166 rfl rfl rfl (Nat.le_of_ble_eq_true rfl) ⟨(Nat.le_of_ble_eq_true rfl), (Nat.le_of_ble_eq_true rfl)⟩ ⟨(Nat.le_of_ble_eq_true rfl), (Nat.le_of_ble_eq_true rfl)⟩ ?_
    refine t_X7_signChanges c hc ?_
    refine ev_putI (pc' := 172) (I' := (ma_up I a (ma_up (I a) 2 ((cSc (K4 c) 5).1)))) fo_X4_64 dX4_readSigns_169 rfl ha rfl (fun r hr => by cases hr; rfl) ⟨rfl, rfl⟩ rfl ?_
    refine ev_aload_n (pc' := 173) (i := 0) dX4_readSigns_172 rfl rfl rfl ?_
    refine ev_iload_n (pc' := 174) (i := 1) dX4_readSigns_173 rfl rfl rfl ?_
    refine ev_aload_n (pc' := 175) (i := 0) dX4_readSigns_174 rfl rfl rfl ?_
    refine ev_getI (pc' := 178) (v := (cSc (K4 c) 5).1) fo_X4_64 dX4_readSigns_175 rfl ha rfl (by rw [ma_up_s]; rfl) ?_
    refine ev_isub (pc' := 179) (v := 4 - ((cSc (K4 c) 5).1)) dX4_readSigns_178 rfl rfl ?_
    refine ev_putI (pc' := 182) (I' := (ma_up I a (ma_up (ma_up (I a) 2 ((cSc (K4 c) 5).1)) 3 (4 - ((cSc (K4 c) 5).1))))) fo_X4_68 dX4_readSigns_179 rfl ha rfl (fun r hr => by cases hr; rfl) ⟨rfl, rfl⟩ (by rw [ma_up_s, ma_up_up]) ?_
    refine ev_vret dX4_readSigns_182 rfl ⟨Nat.le_refl _, Nat.le_refl _⟩ ?_
    have er : cRk (L b) = 4 := by
      unfold cRk
      rw [if_neg c1]
    rw [cSc_congr (f' := cOw (L b)) 5 (fun j hj => ho j hj)]
    have q := k0 K4 hx4 ho
    unfold cSg at q
    rw [er] at q
    exact q
  · refine ev_iinc (pc' := 158) (v := 3) (lv' := [some (.ref a), some (.int 3)]) dX4_readSigns_155 rfl rfl (by decide) (Nat.le_of_ble_eq_true rfl) rfl rfl ?_
    refine ev_goto (tgt := 140) dX4_readSigns_158 rfl ?_
    have ho : ∀ j, j < 5 → K4 c j = cOw (L b) j := fun j hj => by
      rw [ho4, ho3, ho2, ho1, ho0]
      match j, hj with
      | 0, _ => first | rfl | exact hz1
      | 1, _ => first | rfl | exact hz1
      | 2, _ => first | rfl | exact hz2
      | 3, _ => first | rfl | exact hz3
      | 4, _ => first | rfl | exact hz4
      | j + 5, h => exact absurd h (by omega)
    refine ev_iload_n (pc' := 141) (i := 1) dX4_readSigns_140 rfl rfl rfl ?_
    refine ev_if_le (tgt := 161) (pc' := 144) dX4_readSigns_141 rfl rfl (fun h => absurd h (by decide)) (fun _ => ?_)
    refine ev_aload_n (pc' := 145) (i := 0) dX4_readSigns_144 rfl rfl rfl ?_
    refine ev_getR (pc' := 148) fo_X4_15 dX4_readSigns_145 rfl ha rfl hqa ?_
    refine ev_iload_n (pc' := 149) (i := 1) dX4_readSigns_148 rfl rfl rfl ?_
    refine ev_lald (pc' := 150) (j := 3) (v := cOw (L b) 3) dX4_readSigns_149 rfl hc rfl (Nat.le_of_ble_eq_true rfl) (Nat.le_of_ble_eq_true rfl) (ho 3 (by omega)) ?_
    refine ev_lconst (pc' := 151) (v := 0) dX4_readSigns_150 rfl kl_0 ?_
    refine ev_lc_ne (p1 := 152) (tgt := 161) (pc' := 155) dX4_readSigns_151 rfl dX4_readSigns_152 rfl rfl (fun c2 => ?_) (fun c2 => ?_)
    · refine ev_aload_n (pc' := 162) (i := 0) dX4_readSigns_161 rfl rfl rfl ?_
      refine ev_aload_n (pc' := 163) (i := 0) dX4_readSigns_162 rfl rfl rfl ?_
      refine ev_getR (pc' := 166) fo_X4_15 dX4_readSigns_163 rfl ha rfl hqa ?_
      refine ev_callS (pc' := 169) (rm' := rX7_signChanges) (av := [.ref c]) (rest := [.ref a]) co_X4_60 cs_X7_signChanges dX4_readSigns_166 rfl rfl rfl (Nat.le_of_ble_eq_true rfl) ⟨(Nat.le_of_ble_eq_true rfl), (Nat.le_of_ble_eq_true rfl)⟩ ⟨(Nat.le_of_ble_eq_true rfl), (Nat.le_of_ble_eq_true rfl)⟩ ?_
      refine t_X7_signChanges c hc ?_
      refine ev_putI (pc' := 172) (I' := (ma_up I a (ma_up (I a) 2 ((cSc (K4 c) 5).1)))) fo_X4_64 dX4_readSigns_169 rfl ha rfl (fun r hr => by cases hr; rfl) ⟨rfl, rfl⟩ rfl ?_
      refine ev_aload_n (pc' := 173) (i := 0) dX4_readSigns_172 rfl rfl rfl ?_
      refine ev_iload_n (pc' := 174) (i := 1) dX4_readSigns_173 rfl rfl rfl ?_
      refine ev_aload_n (pc' := 175) (i := 0) dX4_readSigns_174 rfl rfl rfl ?_
      refine ev_getI (pc' := 178) (v := (cSc (K4 c) 5).1) fo_X4_64 dX4_readSigns_175 rfl ha rfl (by rw [ma_up_s]; rfl) ?_
      refine ev_isub (pc' := 179) (v := 3 - ((cSc (K4 c) 5).1)) dX4_readSigns_178 rfl rfl ?_
      refine ev_putI (pc' := 182) (I' := (ma_up I a (ma_up (ma_up (I a) 2 ((cSc (K4 c) 5).1)) 3 (3 - ((cSc (K4 c) 5).1))))) fo_X4_68 dX4_readSigns_179 rfl ha rfl (fun r hr => by cases hr; rfl) ⟨rfl, rfl⟩ (by rw [ma_up_s, ma_up_up]) ?_
      refine ev_vret dX4_readSigns_182 rfl ⟨Nat.le_refl _, Nat.le_refl _⟩ ?_
      have er : cRk (L b) = 3 := by
        unfold cRk
        rw [if_pos c1]
        rw [if_neg c2]
      rw [cSc_congr (f' := cOw (L b)) 5 (fun j hj => ho j hj)]
      have q := k0 K4 hx4 ho
      unfold cSg at q
      rw [er] at q
      exact q
    · refine ev_iinc (pc' := 158) (v := 2) (lv' := [some (.ref a), some (.int 2)]) dX4_readSigns_155 rfl rfl (by decide) (Nat.le_of_ble_eq_true rfl) rfl rfl ?_
      refine ev_goto (tgt := 140) dX4_readSigns_158 rfl ?_
      have ho : ∀ j, j < 5 → K4 c j = cOw (L b) j := fun j hj => by
        rw [ho4, ho3, ho2, ho1, ho0]
        match j, hj with
        | 0, _ => first | rfl | exact hz1
        | 1, _ => first | rfl | exact hz1
        | 2, _ => first | rfl | exact hz2
        | 3, _ => first | rfl | exact hz3
        | 4, _ => first | rfl | exact hz4
        | j + 5, h => exact absurd h (by omega)
      refine ev_iload_n (pc' := 141) (i := 1) dX4_readSigns_140 rfl rfl rfl ?_
      refine ev_if_le (tgt := 161) (pc' := 144) dX4_readSigns_141 rfl rfl (fun h => absurd h (by decide)) (fun _ => ?_)
      refine ev_aload_n (pc' := 145) (i := 0) dX4_readSigns_144 rfl rfl rfl ?_
      refine ev_getR (pc' := 148) fo_X4_15 dX4_readSigns_145 rfl ha rfl hqa ?_
      refine ev_iload_n (pc' := 149) (i := 1) dX4_readSigns_148 rfl rfl rfl ?_
      refine ev_lald (pc' := 150) (j := 2) (v := cOw (L b) 2) dX4_readSigns_149 rfl hc rfl (Nat.le_of_ble_eq_true rfl) (Nat.le_of_ble_eq_true rfl) (ho 2 (by omega)) ?_
      refine ev_lconst (pc' := 151) (v := 0) dX4_readSigns_150 rfl kl_0 ?_
      refine ev_lc_ne (p1 := 152) (tgt := 161) (pc' := 155) dX4_readSigns_151 rfl dX4_readSigns_152 rfl rfl (fun c3 => ?_) (fun c3 => ?_)
      · refine ev_aload_n (pc' := 162) (i := 0) dX4_readSigns_161 rfl rfl rfl ?_
        refine ev_aload_n (pc' := 163) (i := 0) dX4_readSigns_162 rfl rfl rfl ?_
        refine ev_getR (pc' := 166) fo_X4_15 dX4_readSigns_163 rfl ha rfl hqa ?_
        refine ev_callS (pc' := 169) (rm' := rX7_signChanges) (av := [.ref c]) (rest := [.ref a]) co_X4_60 cs_X7_signChanges dX4_readSigns_166 rfl rfl rfl (Nat.le_of_ble_eq_true rfl) ⟨(Nat.le_of_ble_eq_true rfl), (Nat.le_of_ble_eq_true rfl)⟩ ⟨(Nat.le_of_ble_eq_true rfl), (Nat.le_of_ble_eq_true rfl)⟩ ?_
        refine t_X7_signChanges c hc ?_
        refine ev_putI (pc' := 172) (I' := (ma_up I a (ma_up (I a) 2 ((cSc (K4 c) 5).1)))) fo_X4_64 dX4_readSigns_169 rfl ha rfl (fun r hr => by cases hr; rfl) ⟨rfl, rfl⟩ rfl ?_
        refine ev_aload_n (pc' := 173) (i := 0) dX4_readSigns_172 rfl rfl rfl ?_
        refine ev_iload_n (pc' := 174) (i := 1) dX4_readSigns_173 rfl rfl rfl ?_
        refine ev_aload_n (pc' := 175) (i := 0) dX4_readSigns_174 rfl rfl rfl ?_
        refine ev_getI (pc' := 178) (v := (cSc (K4 c) 5).1) fo_X4_64 dX4_readSigns_175 rfl ha rfl (by rw [ma_up_s]; rfl) ?_
        refine ev_isub (pc' := 179) (v := 2 - ((cSc (K4 c) 5).1)) dX4_readSigns_178 rfl rfl ?_
        refine ev_putI (pc' := 182) (I' := (ma_up I a (ma_up (ma_up (I a) 2 ((cSc (K4 c) 5).1)) 3 (2 - ((cSc (K4 c) 5).1))))) fo_X4_68 dX4_readSigns_179 rfl ha rfl (fun r hr => by cases hr; rfl) ⟨rfl, rfl⟩ (by rw [ma_up_s, ma_up_up]) ?_
        refine ev_vret dX4_readSigns_182 rfl ⟨Nat.le_refl _, Nat.le_refl _⟩ ?_
        have er : cRk (L b) = 2 := by
          unfold cRk
          rw [if_pos c1]
          rw [if_pos c2]
          rw [if_neg c3]
        rw [cSc_congr (f' := cOw (L b)) 5 (fun j hj => ho j hj)]
        have q := k0 K4 hx4 ho
        unfold cSg at q
        rw [er] at q
        exact q
      · refine ev_iinc (pc' := 158) (v := 1) (lv' := [some (.ref a), some (.int 1)]) dX4_readSigns_155 rfl rfl (by decide) (Nat.le_of_ble_eq_true rfl) rfl rfl ?_
        refine ev_goto (tgt := 140) dX4_readSigns_158 rfl ?_
        have ho : ∀ j, j < 5 → K4 c j = cOw (L b) j := fun j hj => by
          rw [ho4, ho3, ho2, ho1, ho0]
          match j, hj with
          | 0, _ => first | rfl | exact hz1
          | 1, _ => first | rfl | exact hz1
          | 2, _ => first | rfl | exact hz2
          | 3, _ => first | rfl | exact hz3
          | 4, _ => first | rfl | exact hz4
          | j + 5, h => exact absurd h (by omega)
        refine ev_iload_n (pc' := 141) (i := 1) dX4_readSigns_140 rfl rfl rfl ?_
        refine ev_if_le (tgt := 161) (pc' := 144) dX4_readSigns_141 rfl rfl (fun h => absurd h (by decide)) (fun _ => ?_)
        refine ev_aload_n (pc' := 145) (i := 0) dX4_readSigns_144 rfl rfl rfl ?_
        refine ev_getR (pc' := 148) fo_X4_15 dX4_readSigns_145 rfl ha rfl hqa ?_
        refine ev_iload_n (pc' := 149) (i := 1) dX4_readSigns_148 rfl rfl rfl ?_
        refine ev_lald (pc' := 150) (j := 1) (v := cOw (L b) 1) dX4_readSigns_149 rfl hc rfl (Nat.le_of_ble_eq_true rfl) (Nat.le_of_ble_eq_true rfl) (ho 1 (by omega)) ?_
        refine ev_lconst (pc' := 151) (v := 0) dX4_readSigns_150 rfl kl_0 ?_
        refine ev_lc_ne (p1 := 152) (tgt := 161) (pc' := 155) dX4_readSigns_151 rfl dX4_readSigns_152 rfl rfl (fun c4 => ?_) (fun c4 => ?_)
        · refine ev_aload_n (pc' := 162) (i := 0) dX4_readSigns_161 rfl rfl rfl ?_
          refine ev_aload_n (pc' := 163) (i := 0) dX4_readSigns_162 rfl rfl rfl ?_
          refine ev_getR (pc' := 166) fo_X4_15 dX4_readSigns_163 rfl ha rfl hqa ?_
          refine ev_callS (pc' := 169) (rm' := rX7_signChanges) (av := [.ref c]) (rest := [.ref a]) co_X4_60 cs_X7_signChanges dX4_readSigns_166 rfl rfl rfl (Nat.le_of_ble_eq_true rfl) ⟨(Nat.le_of_ble_eq_true rfl), (Nat.le_of_ble_eq_true rfl)⟩ ⟨(Nat.le_of_ble_eq_true rfl), (Nat.le_of_ble_eq_true rfl)⟩ ?_
          refine t_X7_signChanges c hc ?_
          refine ev_putI (pc' := 172) (I' := (ma_up I a (ma_up (I a) 2 ((cSc (K4 c) 5).1)))) fo_X4_64 dX4_readSigns_169 rfl ha rfl (fun r hr => by cases hr; rfl) ⟨rfl, rfl⟩ rfl ?_
          refine ev_aload_n (pc' := 173) (i := 0) dX4_readSigns_172 rfl rfl rfl ?_
          refine ev_iload_n (pc' := 174) (i := 1) dX4_readSigns_173 rfl rfl rfl ?_
          refine ev_aload_n (pc' := 175) (i := 0) dX4_readSigns_174 rfl rfl rfl ?_
          refine ev_getI (pc' := 178) (v := (cSc (K4 c) 5).1) fo_X4_64 dX4_readSigns_175 rfl ha rfl (by rw [ma_up_s]; rfl) ?_
          refine ev_isub (pc' := 179) (v := 1 - ((cSc (K4 c) 5).1)) dX4_readSigns_178 rfl rfl ?_
          refine ev_putI (pc' := 182) (I' := (ma_up I a (ma_up (ma_up (I a) 2 ((cSc (K4 c) 5).1)) 3 (1 - ((cSc (K4 c) 5).1))))) fo_X4_68 dX4_readSigns_179 rfl ha rfl (fun r hr => by cases hr; rfl) ⟨rfl, rfl⟩ (by rw [ma_up_s, ma_up_up]) ?_
          refine ev_vret dX4_readSigns_182 rfl ⟨Nat.le_refl _, Nat.le_refl _⟩ ?_
          have er : cRk (L b) = 1 := by
            unfold cRk
            rw [if_pos c1]
            rw [if_pos c2]
            rw [if_pos c3]
            rw [if_neg c4]
          rw [cSc_congr (f' := cOw (L b)) 5 (fun j hj => ho j hj)]
          have q := k0 K4 hx4 ho
          unfold cSg at q
          rw [er] at q
          exact q
        · refine ev_iinc (pc' := 158) (v := 0) (lv' := [some (.ref a), some (.int 0)]) dX4_readSigns_155 rfl rfl (by decide) (Nat.le_of_ble_eq_true rfl) rfl rfl ?_
          refine ev_goto (tgt := 140) dX4_readSigns_158 rfl ?_
          have ho : ∀ j, j < 5 → K4 c j = cOw (L b) j := fun j hj => by
            rw [ho4, ho3, ho2, ho1, ho0]
            match j, hj with
            | 0, _ => first | rfl | exact hz1
            | 1, _ => first | rfl | exact hz1
            | 2, _ => first | rfl | exact hz2
            | 3, _ => first | rfl | exact hz3
            | 4, _ => first | rfl | exact hz4
            | j + 5, h => exact absurd h (by omega)
          refine ev_iload_n (pc' := 141) (i := 1) dX4_readSigns_140 rfl rfl rfl ?_
          refine ev_if_le (tgt := 161) (pc' := 144) dX4_readSigns_141 rfl rfl (fun _ => ?_) (fun h => absurd (by decide) h)
          refine ev_aload_n (pc' := 162) (i := 0) dX4_readSigns_161 rfl rfl rfl ?_
          refine ev_aload_n (pc' := 163) (i := 0) dX4_readSigns_162 rfl rfl rfl ?_
          refine ev_getR (pc' := 166) fo_X4_15 dX4_readSigns_163 rfl ha rfl hqa ?_
          refine ev_callS (pc' := 169) (rm' := rX7_signChanges) (av := [.ref c]) (rest := [.ref a]) co_X4_60 cs_X7_signChanges dX4_readSigns_166 rfl rfl rfl (Nat.le_of_ble_eq_true rfl) ⟨(Nat.le_of_ble_eq_true rfl), (Nat.le_of_ble_eq_true rfl)⟩ ⟨(Nat.le_of_ble_eq_true rfl), (Nat.le_of_ble_eq_true rfl)⟩ ?_
          refine t_X7_signChanges c hc ?_
          refine ev_putI (pc' := 172) (I' := (ma_up I a (ma_up (I a) 2 ((cSc (K4 c) 5).1)))) fo_X4_64 dX4_readSigns_169 rfl ha rfl (fun r hr => by cases hr; rfl) ⟨rfl, rfl⟩ rfl ?_
          refine ev_aload_n (pc' := 173) (i := 0) dX4_readSigns_172 rfl rfl rfl ?_
          refine ev_iload_n (pc' := 174) (i := 1) dX4_readSigns_173 rfl rfl rfl ?_
          refine ev_aload_n (pc' := 175) (i := 0) dX4_readSigns_174 rfl rfl rfl ?_
          refine ev_getI (pc' := 178) (v := (cSc (K4 c) 5).1) fo_X4_64 dX4_readSigns_175 rfl ha rfl (by rw [ma_up_s]; rfl) ?_
          refine ev_isub (pc' := 179) (v := 0 - ((cSc (K4 c) 5).1)) dX4_readSigns_178 rfl rfl ?_
          refine ev_putI (pc' := 182) (I' := (ma_up I a (ma_up (ma_up (I a) 2 ((cSc (K4 c) 5).1)) 3 (0 - ((cSc (K4 c) 5).1))))) fo_X4_68 dX4_readSigns_179 rfl ha rfl (fun r hr => by cases hr; rfl) ⟨rfl, rfl⟩ (by rw [ma_up_s, ma_up_up]) ?_
          refine ev_vret dX4_readSigns_182 rfl ⟨Nat.le_refl _, Nat.le_refl _⟩ ?_
          have er : cRk (L b) = 0 := by
            unfold cRk
            rw [if_pos c1]
            rw [if_pos c2]
            rw [if_pos c3]
            rw [if_pos c4]
          rw [cSc_congr (f' := cOw (L b)) 5 (fun j hj => ho j hj)]
          have q := k0 K4 hx4 ho
          unfold cSg at q
          rw [er] at q
          exact q
