/-- the n-th of the three vectors that span the plane v: ld is its first place that isn't 0 -/
def mSn (ld : Nat) (v : Nat → Int32) (n : Nat) : Nat → Int32 := fun i => if i = (if n < ld then n else n + 1) then v ld else if i = ld then -v (if n < ld then n else n + 1) else 0
def mCu (T : Nat → Int32) (q ld : Nat) (v : Nat → Int32) : Nat → Int64 := fun j => Int32.toInt64 (mBo T (mSn ld v (j / 4)) (mSn ld v (j % 4)) q)
set_option maxRecDepth 4000 in
theorem t_X8_layCut {g : ma_G} {Post : ma_P} {I : ma_I} {L : ma_L} (q : Nat) (hq : q < 12) (hne : ¬ ∀ j, j < 4 → I 126 j = 0) (k0 : ∀ (ld : Nat) (J : ma_I) (K : ma_L), ld < 4 → ¬ I 126 ld = 0 → (∀ j, j < ld → I 126 j = 0) → J 115 9 = mTA (mCu (I 123) q ld (I 126)) → J 115 10 = mTB (mCu (I 123) q ld (I 126)) → mSx [129, 130, 131, 121] [9, 10] I J → mSl [120] L K → Post none HS J K RF 146) : CT g yX8_layCut cX8_layCut 7 none rX8_layCut [.ref 115, .int (nI q)] Post HS I L RF 146 := by
  refine ct_of (lv := [some (.ref 115), some (.int (nI q)), none, none, none, none, none]) (by decide) (Nat.le_of_ble_eq_true rfl) rfl ?_
  refine ev_iconst (pc' := 1) (v := 0) dX8_layCut_0 rfl ki_0 ?_
  refine ev_istore_n (pc' := 2) (i := 2) (lv' := [some (.ref 115), some (.int (nI q)), some (.int 0), none, none, none, none]) dX8_layCut_1 rfl rfl (Nat.le_of_ble_eq_true rfl) rfl rfl ?_
  refine ev_aload_n (pc' := 3) (i := 0) dX8_layCut_2 rfl rfl rfl ?_
  refine ev_getR (pc' := 6) fo_X8_46 dX8_layCut_3 rfl hs_115 rfl rf_115_16 ?_
  refine ev_iload_n (pc' := 7) (i := 2) dX8_layCut_6 rfl rfl rfl ?_
  refine ev_iald (pc' := 8) (j := 0) (v := (I 126) 0) dX8_layCut_7 rfl hs_126 rfl (Nat.le_of_ble_eq_true rfl) (Nat.le_of_ble_eq_true rfl) rfl ?_
  refine ev_if_ne (tgt := 17) (pc' := 11) dX8_layCut_8 rfl rfl (fun c1 => ?_) (fun c1 => ?_)
  · refine ev_iconst (pc' := 18) (v := 0) dX8_layCut_17 rfl ki_0 ?_
    refine ev_istore_n (pc' := 19) (i := 3) (lv' := [some (.ref 115), some (.int (nI q)), some (.int 0), some (.int 0), none, none, none]) dX8_layCut_18 rfl rfl (Nat.le_of_ble_eq_true rfl) rfl rfl ?_
    refine ev_iconst (pc' := 20) (v := 0) dX8_layCut_19 rfl ki_0 ?_
    refine ev_istore (pc' := 22) (lv' := [some (.ref 115), some (.int (nI q)), some (.int 0), some (.int 0), some (.int 0), none, none]) dX8_layCut_20 rfl (Nat.le_of_ble_eq_true rfl) rfl rfl ?_
    refine ev_iload (pc' := 24) dX8_layCut_22 rfl rfl ?_
    refine ev_iconst (pc' := 25) (v := 4) dX8_layCut_24 rfl ki_4 ?_
    refine ev_icmp_ge (tgt := 103) (pc' := 28) dX8_layCut_25 rfl rfl (fun h => absurd h (by decide)) (fun _ => ?_)
    refine ev_iload (pc' := 30) dX8_layCut_28 rfl rfl ?_
    refine ev_iload_n (pc' := 31) (i := 2) dX8_layCut_30 rfl rfl rfl ?_
    refine ev_icmp_eq (tgt := 97) (pc' := 34) dX8_layCut_31 rfl rfl (fun _ => ?_) (fun h => absurd (by decide) h)
    refine ev_iinc (pc' := 100) (v := 1) (lv' := [some (.ref 115), some (.int (nI q)), some (.int 0), some (.int 0), some (.int 1), none, none]) dX8_layCut_97 rfl rfl (by decide) (Nat.le_of_ble_eq_true rfl) rfl rfl ?_
    refine ev_goto (tgt := 22) dX8_layCut_100 rfl ?_
    refine ev_iload (pc' := 24) dX8_layCut_22 rfl rfl ?_
    refine ev_iconst (pc' := 25) (v := 4) dX8_layCut_24 rfl ki_4 ?_
    refine ev_icmp_ge (tgt := 103) (pc' := 28) dX8_layCut_25 rfl rfl (fun h => absurd h (by decide)) (fun _ => ?_)
    refine ev_iload (pc' := 30) dX8_layCut_28 rfl rfl ?_
    refine ev_iload_n (pc' := 31) (i := 2) dX8_layCut_30 rfl rfl rfl ?_
    refine ev_icmp_eq (tgt := 97) (pc' := 34) dX8_layCut_31 rfl rfl (fun h => absurd h (by decide)) (fun _ => ?_)
    refine ev_iconst (pc' := 35) (v := 0) dX8_layCut_34 rfl ki_0 ?_
    refine ev_istore (pc' := 37) (lv' := [some (.ref 115), some (.int (nI q)), some (.int 0), some (.int 0), some (.int 1), some (.int 0), none]) dX8_layCut_35 rfl (Nat.le_of_ble_eq_true rfl) rfl rfl ?_
    refine ev_iload (pc' := 39) dX8_layCut_37 rfl rfl ?_
    refine ev_iconst (pc' := 40) (v := 4) dX8_layCut_39 rfl ki_4 ?_
    refine ev_icmp_ge (tgt := 94) (pc' := 43) dX8_layCut_40 rfl rfl (fun h => absurd h (by decide)) (fun _ => ?_)
    refine ev_aload_n (pc' := 44) (i := 0) dX8_layCut_43 rfl rfl rfl ?_
    refine ev_getR (pc' := 47) fo_X8_55 dX8_layCut_44 rfl hs_115 rfl rf_115_20 ?_
    refine ev_iconst (pc' := 48) (v := 4) dX8_layCut_47 rfl ki_4 ?_
    refine ev_iload_n (pc' := 49) (i := 3) dX8_layCut_48 rfl rfl rfl ?_
    refine ev_imul (pc' := 50) (v := 0) dX8_layCut_49 rfl (by decide) ?_
    refine ev_iload (pc' := 52) dX8_layCut_50 rfl rfl ?_
    refine ev_iadd (pc' := 53) (v := 0) dX8_layCut_52 rfl (by decide) ?_
    refine ev_iload (pc' := 55) dX8_layCut_53 rfl rfl ?_
    refine ev_iload (pc' := 57) dX8_layCut_55 rfl rfl ?_
    refine ev_icmp_ne (tgt := 69) (pc' := 60) dX8_layCut_57 rfl rfl (fun _ => ?_) (fun h => absurd h (by decide))
    refine ev_iload (pc' := 71) dX8_layCut_69 rfl rfl ?_
    refine ev_iload_n (pc' := 72) (i := 2) dX8_layCut_71 rfl rfl rfl ?_
    refine ev_icmp_ne (tgt := 86) (pc' := 75) dX8_layCut_72 rfl rfl (fun h => absurd (by decide) h) (fun _ => ?_)
    refine ev_aload_n (pc' := 76) (i := 0) dX8_layCut_75 rfl rfl rfl ?_
    refine ev_getR (pc' := 79) fo_X8_46 dX8_layCut_76 rfl hs_115 rfl rf_115_16 ?_
    refine ev_iload (pc' := 81) dX8_layCut_79 rfl rfl ?_
    refine ev_iald (pc' := 82) (j := 1) (v := (I 126) 1) dX8_layCut_81 rfl hs_126 rfl (Nat.le_of_ble_eq_true rfl) (Nat.le_of_ble_eq_true rfl) rfl ?_
    refine ev_ineg (pc' := 83) (v := -((I 126) 1)) dX8_layCut_82 rfl rfl ?_
    refine ev_goto (tgt := 87) dX8_layCut_83 rfl ?_
    refine ev_iast (pc' := 88) (j := 0) (I' := (ma_up I 129 (ma_up (I 129) 0 (-((I 126) 1))))) dX8_layCut_87 rfl hs_129 rfl (Nat.le_of_ble_eq_true rfl) (Nat.le_of_ble_eq_true rfl) rfl ?_
    refine ev_iinc (pc' := 91) (v := 1) (lv' := [some (.ref 115), some (.int (nI q)), some (.int 0), some (.int 0), some (.int 1), some (.int 1), none]) dX8_layCut_88 rfl rfl (by decide) (Nat.le_of_ble_eq_true rfl) rfl rfl ?_
    refine ev_goto (tgt := 37) dX8_layCut_91 rfl ?_
    refine ev_iload (pc' := 39) dX8_layCut_37 rfl rfl ?_
    refine ev_iconst (pc' := 40) (v := 4) dX8_layCut_39 rfl ki_4 ?_
    refine ev_icmp_ge (tgt := 94) (pc' := 43) dX8_layCut_40 rfl rfl (fun h => absurd h (by decide)) (fun _ => ?_)
    refine ev_aload_n (pc' := 44) (i := 0) dX8_layCut_43 rfl rfl rfl ?_
    refine ev_getR (pc' := 47) fo_X8_55 dX8_layCut_44 rfl hs_115 rfl rf_115_20 ?_
    refine ev_iconst (pc' := 48) (v := 4) dX8_layCut_47 rfl ki_4 ?_
    refine ev_iload_n (pc' := 49) (i := 3) dX8_layCut_48 rfl rfl rfl ?_
    refine ev_imul (pc' := 50) (v := 0) dX8_layCut_49 rfl (by decide) ?_
    refine ev_iload (pc' := 52) dX8_layCut_50 rfl rfl ?_
    refine ev_iadd (pc' := 53) (v := 1) dX8_layCut_52 rfl (by decide) ?_
    refine ev_iload (pc' := 55) dX8_layCut_53 rfl rfl ?_
    refine ev_iload (pc' := 57) dX8_layCut_55 rfl rfl ?_
    refine ev_icmp_ne (tgt := 69) (pc' := 60) dX8_layCut_57 rfl rfl (fun h => absurd (by decide) h) (fun _ => ?_)
    refine ev_aload_n (pc' := 61) (i := 0) dX8_layCut_60 rfl rfl rfl ?_
    refine ev_getR (pc' := 64) fo_X8_46 dX8_layCut_61 rfl hs_115 rfl rf_115_16 ?_
    refine ev_iload_n (pc' := 65) (i := 2) dX8_layCut_64 rfl rfl rfl ?_
    refine ev_iald (pc' := 66) (j := 0) (v := (I 126) 0) dX8_layCut_65 rfl hs_126 rfl (Nat.le_of_ble_eq_true rfl) (Nat.le_of_ble_eq_true rfl) rfl ?_
    refine ev_goto (tgt := 87) dX8_layCut_66 rfl ?_
    refine ev_iast (pc' := 88) (j := 1) (I' := (ma_up I 129 (ma_up (ma_up (I 129) 0 (-((I 126) 1))) 1 ((I 126) 0)))) dX8_layCut_87 rfl hs_129 rfl (Nat.le_of_ble_eq_true rfl) (Nat.le_of_ble_eq_true rfl) (ma_up_up _ _ _ _) ?_
    refine ev_iinc (pc' := 91) (v := 2) (lv' := [some (.ref 115), some (.int (nI q)), some (.int 0), some (.int 0), some (.int 1), some (.int 2), none]) dX8_layCut_88 rfl rfl (by decide) (Nat.le_of_ble_eq_true rfl) rfl rfl ?_
    refine ev_goto (tgt := 37) dX8_layCut_91 rfl ?_
    refine ev_iload (pc' := 39) dX8_layCut_37 rfl rfl ?_
    refine ev_iconst (pc' := 40) (v := 4) dX8_layCut_39 rfl ki_4 ?_
    refine ev_icmp_ge (tgt := 94) (pc' := 43) dX8_layCut_40 rfl rfl (fun h => absurd h (by decide)) (fun _ => ?_)
    refine ev_aload_n (pc' := 44) (i := 0) dX8_layCut_43 rfl rfl rfl ?_
    refine ev_getR (pc' := 47) fo_X8_55 dX8_layCut_44 rfl hs_115 rfl rf_115_20 ?_
    refine ev_iconst (pc' := 48) (v := 4) dX8_layCut_47 rfl ki_4 ?_
    refine ev_iload_n (pc' := 49) (i := 3) dX8_layCut_48 rfl rfl rfl ?_
    refine ev_imul (pc' := 50) (v := 0) dX8_layCut_49 rfl (by decide) ?_
    refine ev_iload (pc' := 52) dX8_layCut_50 rfl rfl ?_
    refine ev_iadd (pc' := 53) (v := 2) dX8_layCut_52 rfl (by decide) ?_
    refine ev_iload (pc' := 55) dX8_layCut_53 rfl rfl ?_
    refine ev_iload (pc' := 57) dX8_layCut_55 rfl rfl ?_
    refine ev_icmp_ne (tgt := 69) (pc' := 60) dX8_layCut_57 rfl rfl (fun _ => ?_) (fun h => absurd h (by decide))
    refine ev_iload (pc' := 71) dX8_layCut_69 rfl rfl ?_
    refine ev_iload_n (pc' := 72) (i := 2) dX8_layCut_71 rfl rfl rfl ?_
    refine ev_icmp_ne (tgt := 86) (pc' := 75) dX8_layCut_72 rfl rfl (fun _ => ?_) (fun h => absurd h (by decide))
    refine ev_iconst (pc' := 87) (v := 0) dX8_layCut_86 rfl ki_0 ?_
    refine ev_iast (pc' := 88) (j := 2) (I' := (ma_up I 129 (ma_up (ma_up (ma_up (I 129) 0 (-((I 126) 1))) 1 ((I 126) 0)) 2 0))) dX8_layCut_87 rfl hs_129 rfl (Nat.le_of_ble_eq_true rfl) (Nat.le_of_ble_eq_true rfl) (ma_up_up _ _ _ _) ?_
    refine ev_iinc (pc' := 91) (v := 3) (lv' := [some (.ref 115), some (.int (nI q)), some (.int 0), some (.int 0), some (.int 1), some (.int 3), none]) dX8_layCut_88 rfl rfl (by decide) (Nat.le_of_ble_eq_true rfl) rfl rfl ?_
    refine ev_goto (tgt := 37) dX8_layCut_91 rfl ?_
    refine ev_iload (pc' := 39) dX8_layCut_37 rfl rfl ?_
    refine ev_iconst (pc' := 40) (v := 4) dX8_layCut_39 rfl ki_4 ?_
    refine ev_icmp_ge (tgt := 94) (pc' := 43) dX8_layCut_40 rfl rfl (fun h => absurd h (by decide)) (fun _ => ?_)
    refine ev_aload_n (pc' := 44) (i := 0) dX8_layCut_43 rfl rfl rfl ?_
    refine ev_getR (pc' := 47) fo_X8_55 dX8_layCut_44 rfl hs_115 rfl rf_115_20 ?_
    refine ev_iconst (pc' := 48) (v := 4) dX8_layCut_47 rfl ki_4 ?_
    refine ev_iload_n (pc' := 49) (i := 3) dX8_layCut_48 rfl rfl rfl ?_
    refine ev_imul (pc' := 50) (v := 0) dX8_layCut_49 rfl (by decide) ?_
    refine ev_iload (pc' := 52) dX8_layCut_50 rfl rfl ?_
    refine ev_iadd (pc' := 53) (v := 3) dX8_layCut_52 rfl (by decide) ?_
    refine ev_iload (pc' := 55) dX8_layCut_53 rfl rfl ?_
    refine ev_iload (pc' := 57) dX8_layCut_55 rfl rfl ?_
    refine ev_icmp_ne (tgt := 69) (pc' := 60) dX8_layCut_57 rfl rfl (fun _ => ?_) (fun h => absurd h (by decide))
    refine ev_iload (pc' := 71) dX8_layCut_69 rfl rfl ?_
    refine ev_iload_n (pc' := 72) (i := 2) dX8_layCut_71 rfl rfl rfl ?_
    refine ev_icmp_ne (tgt := 86) (pc' := 75) dX8_layCut_72 rfl rfl (fun _ => ?_) (fun h => absurd h (by decide))
    refine ev_iconst (pc' := 87) (v := 0) dX8_layCut_86 rfl ki_0 ?_
    refine ev_iast (pc' := 88) (j := 3) (I' := (ma_up I 129 (ma_up (ma_up (ma_up (ma_up (I 129) 0 (-((I 126) 1))) 1 ((I 126) 0)) 2 0) 3 0))) dX8_layCut_87 rfl hs_129 rfl (Nat.le_of_ble_eq_true rfl) (Nat.le_of_ble_eq_true rfl) (ma_up_up _ _ _ _) ?_
    refine ev_iinc (pc' := 91) (v := 4) (lv' := [some (.ref 115), some (.int (nI q)), some (.int 0), some (.int 0), some (.int 1), some (.int 4), none]) dX8_layCut_88 rfl rfl (by decide) (Nat.le_of_ble_eq_true rfl) rfl rfl ?_
    refine ev_goto (tgt := 37) dX8_layCut_91 rfl ?_
    refine ev_iload (pc' := 39) dX8_layCut_37 rfl rfl ?_
    refine ev_iconst (pc' := 40) (v := 4) dX8_layCut_39 rfl ki_4 ?_
    refine ev_icmp_ge (tgt := 94) (pc' := 43) dX8_layCut_40 rfl rfl (fun _ => ?_) (fun h => absurd (by decide) h)
    refine ev_iinc (pc' := 97) (v := 1) (lv' := [some (.ref 115), some (.int (nI q)), some (.int 0), some (.int 1), some (.int 1), some (.int 4), none]) dX8_layCut_94 rfl rfl (by decide) (Nat.le_of_ble_eq_true rfl) rfl rfl ?_
    refine ev_iinc (pc' := 100) (v := 2) (lv' := [some (.ref 115), some (.int (nI q)), some (.int 0), some (.int 1), some (.int 2), some (.int 4), none]) dX8_layCut_97 rfl rfl (by decide) (Nat.le_of_ble_eq_true rfl) rfl rfl ?_
    refine ev_goto (tgt := 22) dX8_layCut_100 rfl ?_
    refine ev_iload (pc' := 24) dX8_layCut_22 rfl rfl ?_
    refine ev_iconst (pc' := 25) (v := 4) dX8_layCut_24 rfl ki_4 ?_
    refine ev_icmp_ge (tgt := 103) (pc' := 28) dX8_layCut_25 rfl rfl (fun h => absurd h (by decide)) (fun _ => ?_)
    refine ev_iload (pc' := 30) dX8_layCut_28 rfl rfl ?_
    refine ev_iload_n (pc' := 31) (i := 2) dX8_layCut_30 rfl rfl rfl ?_
    refine ev_icmp_eq (tgt := 97) (pc' := 34) dX8_layCut_31 rfl rfl (fun h => absurd h (by decide)) (fun _ => ?_)
    refine ev_iconst (pc' := 35) (v := 0) dX8_layCut_34 rfl ki_0 ?_
    refine ev_istore (pc' := 37) (lv' := [some (.ref 115), some (.int (nI q)), some (.int 0), some (.int 1), some (.int 2), some (.int 0), none]) dX8_layCut_35 rfl (Nat.le_of_ble_eq_true rfl) rfl rfl ?_
    refine ev_iload (pc' := 39) dX8_layCut_37 rfl rfl ?_
    refine ev_iconst (pc' := 40) (v := 4) dX8_layCut_39 rfl ki_4 ?_
    refine ev_icmp_ge (tgt := 94) (pc' := 43) dX8_layCut_40 rfl rfl (fun h => absurd h (by decide)) (fun _ => ?_)
    refine ev_aload_n (pc' := 44) (i := 0) dX8_layCut_43 rfl rfl rfl ?_
    refine ev_getR (pc' := 47) fo_X8_55 dX8_layCut_44 rfl hs_115 rfl rf_115_20 ?_
    refine ev_iconst (pc' := 48) (v := 4) dX8_layCut_47 rfl ki_4 ?_
    refine ev_iload_n (pc' := 49) (i := 3) dX8_layCut_48 rfl rfl rfl ?_
    refine ev_imul (pc' := 50) (v := 4) dX8_layCut_49 rfl (by decide) ?_
    refine ev_iload (pc' := 52) dX8_layCut_50 rfl rfl ?_
    refine ev_iadd (pc' := 53) (v := 4) dX8_layCut_52 rfl (by decide) ?_
    refine ev_iload (pc' := 55) dX8_layCut_53 rfl rfl ?_
    refine ev_iload (pc' := 57) dX8_layCut_55 rfl rfl ?_
    refine ev_icmp_ne (tgt := 69) (pc' := 60) dX8_layCut_57 rfl rfl (fun _ => ?_) (fun h => absurd h (by decide))
    refine ev_iload (pc' := 71) dX8_layCut_69 rfl rfl ?_
    refine ev_iload_n (pc' := 72) (i := 2) dX8_layCut_71 rfl rfl rfl ?_
    refine ev_icmp_ne (tgt := 86) (pc' := 75) dX8_layCut_72 rfl rfl (fun h => absurd (by decide) h) (fun _ => ?_)
    refine ev_aload_n (pc' := 76) (i := 0) dX8_layCut_75 rfl rfl rfl ?_
    refine ev_getR (pc' := 79) fo_X8_46 dX8_layCut_76 rfl hs_115 rfl rf_115_16 ?_
    refine ev_iload (pc' := 81) dX8_layCut_79 rfl rfl ?_
    refine ev_iald (pc' := 82) (j := 2) (v := (I 126) 2) dX8_layCut_81 rfl hs_126 rfl (Nat.le_of_ble_eq_true rfl) (Nat.le_of_ble_eq_true rfl) rfl ?_
    refine ev_ineg (pc' := 83) (v := -((I 126) 2)) dX8_layCut_82 rfl rfl ?_
    refine ev_goto (tgt := 87) dX8_layCut_83 rfl ?_
    refine ev_iast (pc' := 88) (j := 4) (I' := (ma_up I 129 (ma_up (ma_up (ma_up (ma_up (ma_up (I 129) 0 (-((I 126) 1))) 1 ((I 126) 0)) 2 0) 3 0) 4 (-((I 126) 2))))) dX8_layCut_87 rfl hs_129 rfl (Nat.le_of_ble_eq_true rfl) (Nat.le_of_ble_eq_true rfl) (ma_up_up _ _ _ _) ?_
    refine ev_iinc (pc' := 91) (v := 1) (lv' := [some (.ref 115), some (.int (nI q)), some (.int 0), some (.int 1), some (.int 2), some (.int 1), none]) dX8_layCut_88 rfl rfl (by decide) (Nat.le_of_ble_eq_true rfl) rfl rfl ?_
    refine ev_goto (tgt := 37) dX8_layCut_91 rfl ?_
    refine ev_iload (pc' := 39) dX8_layCut_37 rfl rfl ?_
    refine ev_iconst (pc' := 40) (v := 4) dX8_layCut_39 rfl ki_4 ?_
    refine ev_icmp_ge (tgt := 94) (pc' := 43) dX8_layCut_40 rfl rfl (fun h => absurd h (by decide)) (fun _ => ?_)
    refine ev_aload_n (pc' := 44) (i := 0) dX8_layCut_43 rfl rfl rfl ?_
    refine ev_getR (pc' := 47) fo_X8_55 dX8_layCut_44 rfl hs_115 rfl rf_115_20 ?_
    refine ev_iconst (pc' := 48) (v := 4) dX8_layCut_47 rfl ki_4 ?_
    refine ev_iload_n (pc' := 49) (i := 3) dX8_layCut_48 rfl rfl rfl ?_
    refine ev_imul (pc' := 50) (v := 4) dX8_layCut_49 rfl (by decide) ?_
    refine ev_iload (pc' := 52) dX8_layCut_50 rfl rfl ?_
    refine ev_iadd (pc' := 53) (v := 5) dX8_layCut_52 rfl (by decide) ?_
    refine ev_iload (pc' := 55) dX8_layCut_53 rfl rfl ?_
    refine ev_iload (pc' := 57) dX8_layCut_55 rfl rfl ?_
    refine ev_icmp_ne (tgt := 69) (pc' := 60) dX8_layCut_57 rfl rfl (fun _ => ?_) (fun h => absurd h (by decide))
    refine ev_iload (pc' := 71) dX8_layCut_69 rfl rfl ?_
    refine ev_iload_n (pc' := 72) (i := 2) dX8_layCut_71 rfl rfl rfl ?_
    refine ev_icmp_ne (tgt := 86) (pc' := 75) dX8_layCut_72 rfl rfl (fun _ => ?_) (fun h => absurd h (by decide))
    refine ev_iconst (pc' := 87) (v := 0) dX8_layCut_86 rfl ki_0 ?_
    refine ev_iast (pc' := 88) (j := 5) (I' := (ma_up I 129 (ma_up (ma_up (ma_up (ma_up (ma_up (ma_up (I 129) 0 (-((I 126) 1))) 1 ((I 126) 0)) 2 0) 3 0) 4 (-((I 126) 2))) 5 0))) dX8_layCut_87 rfl hs_129 rfl (Nat.le_of_ble_eq_true rfl) (Nat.le_of_ble_eq_true rfl) (ma_up_up _ _ _ _) ?_
    refine ev_iinc (pc' := 91) (v := 2) (lv' := [some (.ref 115), some (.int (nI q)), some (.int 0), some (.int 1), some (.int 2), some (.int 2), none]) dX8_layCut_88 rfl rfl (by decide) (Nat.le_of_ble_eq_true rfl) rfl rfl ?_
    refine ev_goto (tgt := 37) dX8_layCut_91 rfl ?_
    refine ev_iload (pc' := 39) dX8_layCut_37 rfl rfl ?_
    refine ev_iconst (pc' := 40) (v := 4) dX8_layCut_39 rfl ki_4 ?_
    refine ev_icmp_ge (tgt := 94) (pc' := 43) dX8_layCut_40 rfl rfl (fun h => absurd h (by decide)) (fun _ => ?_)
    refine ev_aload_n (pc' := 44) (i := 0) dX8_layCut_43 rfl rfl rfl ?_
    refine ev_getR (pc' := 47) fo_X8_55 dX8_layCut_44 rfl hs_115 rfl rf_115_20 ?_
    refine ev_iconst (pc' := 48) (v := 4) dX8_layCut_47 rfl ki_4 ?_
    refine ev_iload_n (pc' := 49) (i := 3) dX8_layCut_48 rfl rfl rfl ?_
    refine ev_imul (pc' := 50) (v := 4) dX8_layCut_49 rfl (by decide) ?_
    refine ev_iload (pc' := 52) dX8_layCut_50 rfl rfl ?_
    refine ev_iadd (pc' := 53) (v := 6) dX8_layCut_52 rfl (by decide) ?_
    refine ev_iload (pc' := 55) dX8_layCut_53 rfl rfl ?_
    refine ev_iload (pc' := 57) dX8_layCut_55 rfl rfl ?_
    refine ev_icmp_ne (tgt := 69) (pc' := 60) dX8_layCut_57 rfl rfl (fun h => absurd (by decide) h) (fun _ => ?_)
    refine ev_aload_n (pc' := 61) (i := 0) dX8_layCut_60 rfl rfl rfl ?_
    refine ev_getR (pc' := 64) fo_X8_46 dX8_layCut_61 rfl hs_115 rfl rf_115_16 ?_
    refine ev_iload_n (pc' := 65) (i := 2) dX8_layCut_64 rfl rfl rfl ?_
    refine ev_iald (pc' := 66) (j := 0) (v := (I 126) 0) dX8_layCut_65 rfl hs_126 rfl (Nat.le_of_ble_eq_true rfl) (Nat.le_of_ble_eq_true rfl) rfl ?_
    refine ev_goto (tgt := 87) dX8_layCut_66 rfl ?_
    refine ev_iast (pc' := 88) (j := 6) (I' := (ma_up I 129 (ma_up (ma_up (ma_up (ma_up (ma_up (ma_up (ma_up (I 129) 0 (-((I 126) 1))) 1 ((I 126) 0)) 2 0) 3 0) 4 (-((I 126) 2))) 5 0) 6 ((I 126) 0)))) dX8_layCut_87 rfl hs_129 rfl (Nat.le_of_ble_eq_true rfl) (Nat.le_of_ble_eq_true rfl) (ma_up_up _ _ _ _) ?_
    refine ev_iinc (pc' := 91) (v := 3) (lv' := [some (.ref 115), some (.int (nI q)), some (.int 0), some (.int 1), some (.int 2), some (.int 3), none]) dX8_layCut_88 rfl rfl (by decide) (Nat.le_of_ble_eq_true rfl) rfl rfl ?_
    refine ev_goto (tgt := 37) dX8_layCut_91 rfl ?_
    refine ev_iload (pc' := 39) dX8_layCut_37 rfl rfl ?_
    refine ev_iconst (pc' := 40) (v := 4) dX8_layCut_39 rfl ki_4 ?_
    refine ev_icmp_ge (tgt := 94) (pc' := 43) dX8_layCut_40 rfl rfl (fun h => absurd h (by decide)) (fun _ => ?_)
    refine ev_aload_n (pc' := 44) (i := 0) dX8_layCut_43 rfl rfl rfl ?_
    refine ev_getR (pc' := 47) fo_X8_55 dX8_layCut_44 rfl hs_115 rfl rf_115_20 ?_
    refine ev_iconst (pc' := 48) (v := 4) dX8_layCut_47 rfl ki_4 ?_
    refine ev_iload_n (pc' := 49) (i := 3) dX8_layCut_48 rfl rfl rfl ?_
    refine ev_imul (pc' := 50) (v := 4) dX8_layCut_49 rfl (by decide) ?_
    refine ev_iload (pc' := 52) dX8_layCut_50 rfl rfl ?_
    refine ev_iadd (pc' := 53) (v := 7) dX8_layCut_52 rfl (by decide) ?_
    refine ev_iload (pc' := 55) dX8_layCut_53 rfl rfl ?_
    refine ev_iload (pc' := 57) dX8_layCut_55 rfl rfl ?_
    refine ev_icmp_ne (tgt := 69) (pc' := 60) dX8_layCut_57 rfl rfl (fun _ => ?_) (fun h => absurd h (by decide))
    refine ev_iload (pc' := 71) dX8_layCut_69 rfl rfl ?_
    refine ev_iload_n (pc' := 72) (i := 2) dX8_layCut_71 rfl rfl rfl ?_
    refine ev_icmp_ne (tgt := 86) (pc' := 75) dX8_layCut_72 rfl rfl (fun _ => ?_) (fun h => absurd h (by decide))
    refine ev_iconst (pc' := 87) (v := 0) dX8_layCut_86 rfl ki_0 ?_
    refine ev_iast (pc' := 88) (j := 7) (I' := (ma_up I 129 (ma_up (ma_up (ma_up (ma_up (ma_up (ma_up (ma_up (ma_up (I 129) 0 (-((I 126) 1))) 1 ((I 126) 0)) 2 0) 3 0) 4 (-((I 126) 2))) 5 0) 6 ((I 126) 0)) 7 0))) dX8_layCut_87 rfl hs_129 rfl (Nat.le_of_ble_eq_true rfl) (Nat.le_of_ble_eq_true rfl) (ma_up_up _ _ _ _) ?_
    refine ev_iinc (pc' := 91) (v := 4) (lv' := [some (.ref 115), some (.int (nI q)), some (.int 0), some (.int 1), some (.int 2), some (.int 4), none]) dX8_layCut_88 rfl rfl (by decide) (Nat.le_of_ble_eq_true rfl) rfl rfl ?_
    refine ev_goto (tgt := 37) dX8_layCut_91 rfl ?_
    refine ev_iload (pc' := 39) dX8_layCut_37 rfl rfl ?_
    refine ev_iconst (pc' := 40) (v := 4) dX8_layCut_39 rfl ki_4 ?_
    refine ev_icmp_ge (tgt := 94) (pc' := 43) dX8_layCut_40 rfl rfl (fun _ => ?_) (fun h => absurd (by decide) h)
    refine ev_iinc (pc' := 97) (v := 2) (lv' := [some (.ref 115), some (.int (nI q)), some (.int 0), some (.int 2), some (.int 2), some (.int 4), none]) dX8_layCut_94 rfl rfl (by decide) (Nat.le_of_ble_eq_true rfl) rfl rfl ?_
    refine ev_iinc (pc' := 100) (v := 3) (lv' := [some (.ref 115), some (.int (nI q)), some (.int 0), some (.int 2), some (.int 3), some (.int 4), none]) dX8_layCut_97 rfl rfl (by decide) (Nat.le_of_ble_eq_true rfl) rfl rfl ?_
    refine ev_goto (tgt := 22) dX8_layCut_100 rfl ?_
    refine ev_iload (pc' := 24) dX8_layCut_22 rfl rfl ?_
    refine ev_iconst (pc' := 25) (v := 4) dX8_layCut_24 rfl ki_4 ?_
    refine ev_icmp_ge (tgt := 103) (pc' := 28) dX8_layCut_25 rfl rfl (fun h => absurd h (by decide)) (fun _ => ?_)
    refine ev_iload (pc' := 30) dX8_layCut_28 rfl rfl ?_
    refine ev_iload_n (pc' := 31) (i := 2) dX8_layCut_30 rfl rfl rfl ?_
    refine ev_icmp_eq (tgt := 97) (pc' := 34) dX8_layCut_31 rfl rfl (fun h => absurd h (by decide)) (fun _ => ?_)
    refine ev_iconst (pc' := 35) (v := 0) dX8_layCut_34 rfl ki_0 ?_
    refine ev_istore (pc' := 37) (lv' := [some (.ref 115), some (.int (nI q)), some (.int 0), some (.int 2), some (.int 3), some (.int 0), none]) dX8_layCut_35 rfl (Nat.le_of_ble_eq_true rfl) rfl rfl ?_
    refine ev_iload (pc' := 39) dX8_layCut_37 rfl rfl ?_
    refine ev_iconst (pc' := 40) (v := 4) dX8_layCut_39 rfl ki_4 ?_
    refine ev_icmp_ge (tgt := 94) (pc' := 43) dX8_layCut_40 rfl rfl (fun h => absurd h (by decide)) (fun _ => ?_)
    refine ev_aload_n (pc' := 44) (i := 0) dX8_layCut_43 rfl rfl rfl ?_
    refine ev_getR (pc' := 47) fo_X8_55 dX8_layCut_44 rfl hs_115 rfl rf_115_20 ?_
    refine ev_iconst (pc' := 48) (v := 4) dX8_layCut_47 rfl ki_4 ?_
    refine ev_iload_n (pc' := 49) (i := 3) dX8_layCut_48 rfl rfl rfl ?_
    refine ev_imul (pc' := 50) (v := 8) dX8_layCut_49 rfl (by decide) ?_
    refine ev_iload (pc' := 52) dX8_layCut_50 rfl rfl ?_
    refine ev_iadd (pc' := 53) (v := 8) dX8_layCut_52 rfl (by decide) ?_
    refine ev_iload (pc' := 55) dX8_layCut_53 rfl rfl ?_
    refine ev_iload (pc' := 57) dX8_layCut_55 rfl rfl ?_
    refine ev_icmp_ne (tgt := 69) (pc' := 60) dX8_layCut_57 rfl rfl (fun _ => ?_) (fun h => absurd h (by decide))
    refine ev_iload (pc' := 71) dX8_layCut_69 rfl rfl ?_
    refine ev_iload_n (pc' := 72) (i := 2) dX8_layCut_71 rfl rfl rfl ?_
    refine ev_icmp_ne (tgt := 86) (pc' := 75) dX8_layCut_72 rfl rfl (fun h => absurd (by decide) h) (fun _ => ?_)
    refine ev_aload_n (pc' := 76) (i := 0) dX8_layCut_75 rfl rfl rfl ?_
    refine ev_getR (pc' := 79) fo_X8_46 dX8_layCut_76 rfl hs_115 rfl rf_115_16 ?_
    refine ev_iload (pc' := 81) dX8_layCut_79 rfl rfl ?_
    refine ev_iald (pc' := 82) (j := 3) (v := (I 126) 3) dX8_layCut_81 rfl hs_126 rfl (Nat.le_of_ble_eq_true rfl) (Nat.le_of_ble_eq_true rfl) rfl ?_
    refine ev_ineg (pc' := 83) (v := -((I 126) 3)) dX8_layCut_82 rfl rfl ?_
    refine ev_goto (tgt := 87) dX8_layCut_83 rfl ?_
    refine ev_iast (pc' := 88) (j := 8) (I' := (ma_up I 129 (ma_up (ma_up (ma_up (ma_up (ma_up (ma_up (ma_up (ma_up (ma_up (I 129) 0 (-((I 126) 1))) 1 ((I 126) 0)) 2 0) 3 0) 4 (-((I 126) 2))) 5 0) 6 ((I 126) 0)) 7 0) 8 (-((I 126) 3))))) dX8_layCut_87 rfl hs_129 rfl (Nat.le_of_ble_eq_true rfl) (Nat.le_of_ble_eq_true rfl) (ma_up_up _ _ _ _) ?_
    refine ev_iinc (pc' := 91) (v := 1) (lv' := [some (.ref 115), some (.int (nI q)), some (.int 0), some (.int 2), some (.int 3), some (.int 1), none]) dX8_layCut_88 rfl rfl (by decide) (Nat.le_of_ble_eq_true rfl) rfl rfl ?_
    refine ev_goto (tgt := 37) dX8_layCut_91 rfl ?_
    refine ev_iload (pc' := 39) dX8_layCut_37 rfl rfl ?_
    refine ev_iconst (pc' := 40) (v := 4) dX8_layCut_39 rfl ki_4 ?_
    refine ev_icmp_ge (tgt := 94) (pc' := 43) dX8_layCut_40 rfl rfl (fun h => absurd h (by decide)) (fun _ => ?_)
    refine ev_aload_n (pc' := 44) (i := 0) dX8_layCut_43 rfl rfl rfl ?_
    refine ev_getR (pc' := 47) fo_X8_55 dX8_layCut_44 rfl hs_115 rfl rf_115_20 ?_
    refine ev_iconst (pc' := 48) (v := 4) dX8_layCut_47 rfl ki_4 ?_
    refine ev_iload_n (pc' := 49) (i := 3) dX8_layCut_48 rfl rfl rfl ?_
    refine ev_imul (pc' := 50) (v := 8) dX8_layCut_49 rfl (by decide) ?_
    refine ev_iload (pc' := 52) dX8_layCut_50 rfl rfl ?_
    refine ev_iadd (pc' := 53) (v := 9) dX8_layCut_52 rfl (by decide) ?_
    refine ev_iload (pc' := 55) dX8_layCut_53 rfl rfl ?_
    refine ev_iload (pc' := 57) dX8_layCut_55 rfl rfl ?_
    refine ev_icmp_ne (tgt := 69) (pc' := 60) dX8_layCut_57 rfl rfl (fun _ => ?_) (fun h => absurd h (by decide))
    refine ev_iload (pc' := 71) dX8_layCut_69 rfl rfl ?_
    refine ev_iload_n (pc' := 72) (i := 2) dX8_layCut_71 rfl rfl rfl ?_
    refine ev_icmp_ne (tgt := 86) (pc' := 75) dX8_layCut_72 rfl rfl (fun _ => ?_) (fun h => absurd h (by decide))
    refine ev_iconst (pc' := 87) (v := 0) dX8_layCut_86 rfl ki_0 ?_
    refine ev_iast (pc' := 88) (j := 9) (I' := (ma_up I 129 (ma_up (ma_up (ma_up (ma_up (ma_up (ma_up (ma_up (ma_up (ma_up (ma_up (I 129) 0 (-((I 126) 1))) 1 ((I 126) 0)) 2 0) 3 0) 4 (-((I 126) 2))) 5 0) 6 ((I 126) 0)) 7 0) 8 (-((I 126) 3))) 9 0))) dX8_layCut_87 rfl hs_129 rfl (Nat.le_of_ble_eq_true rfl) (Nat.le_of_ble_eq_true rfl) (ma_up_up _ _ _ _) ?_
    refine ev_iinc (pc' := 91) (v := 2) (lv' := [some (.ref 115), some (.int (nI q)), some (.int 0), some (.int 2), some (.int 3), some (.int 2), none]) dX8_layCut_88 rfl rfl (by decide) (Nat.le_of_ble_eq_true rfl) rfl rfl ?_
    refine ev_goto (tgt := 37) dX8_layCut_91 rfl ?_
    refine ev_iload (pc' := 39) dX8_layCut_37 rfl rfl ?_
    refine ev_iconst (pc' := 40) (v := 4) dX8_layCut_39 rfl ki_4 ?_
    refine ev_icmp_ge (tgt := 94) (pc' := 43) dX8_layCut_40 rfl rfl (fun h => absurd h (by decide)) (fun _ => ?_)
    refine ev_aload_n (pc' := 44) (i := 0) dX8_layCut_43 rfl rfl rfl ?_
    refine ev_getR (pc' := 47) fo_X8_55 dX8_layCut_44 rfl hs_115 rfl rf_115_20 ?_
    refine ev_iconst (pc' := 48) (v := 4) dX8_layCut_47 rfl ki_4 ?_
    refine ev_iload_n (pc' := 49) (i := 3) dX8_layCut_48 rfl rfl rfl ?_
    refine ev_imul (pc' := 50) (v := 8) dX8_layCut_49 rfl (by decide) ?_
    refine ev_iload (pc' := 52) dX8_layCut_50 rfl rfl ?_
    refine ev_iadd (pc' := 53) (v := 10) dX8_layCut_52 rfl (by decide) ?_
    refine ev_iload (pc' := 55) dX8_layCut_53 rfl rfl ?_
    refine ev_iload (pc' := 57) dX8_layCut_55 rfl rfl ?_
    refine ev_icmp_ne (tgt := 69) (pc' := 60) dX8_layCut_57 rfl rfl (fun _ => ?_) (fun h => absurd h (by decide))
    refine ev_iload (pc' := 71) dX8_layCut_69 rfl rfl ?_
    refine ev_iload_n (pc' := 72) (i := 2) dX8_layCut_71 rfl rfl rfl ?_
    refine ev_icmp_ne (tgt := 86) (pc' := 75) dX8_layCut_72 rfl rfl (fun _ => ?_) (fun h => absurd h (by decide))
    refine ev_iconst (pc' := 87) (v := 0) dX8_layCut_86 rfl ki_0 ?_
    refine ev_iast (pc' := 88) (j := 10) (I' := (ma_up I 129 (ma_up (ma_up (ma_up (ma_up (ma_up (ma_up (ma_up (ma_up (ma_up (ma_up (ma_up (I 129) 0 (-((I 126) 1))) 1 ((I 126) 0)) 2 0) 3 0) 4 (-((I 126) 2))) 5 0) 6 ((I 126) 0)) 7 0) 8 (-((I 126) 3))) 9 0) 10 0))) dX8_layCut_87 rfl hs_129 rfl (Nat.le_of_ble_eq_true rfl) (Nat.le_of_ble_eq_true rfl) (ma_up_up _ _ _ _) ?_
    refine ev_iinc (pc' := 91) (v := 3) (lv' := [some (.ref 115), some (.int (nI q)), some (.int 0), some (.int 2), some (.int 3), some (.int 3), none]) dX8_layCut_88 rfl rfl (by decide) (Nat.le_of_ble_eq_true rfl) rfl rfl ?_
    refine ev_goto (tgt := 37) dX8_layCut_91 rfl ?_
    refine ev_iload (pc' := 39) dX8_layCut_37 rfl rfl ?_
    refine ev_iconst (pc' := 40) (v := 4) dX8_layCut_39 rfl ki_4 ?_
    refine ev_icmp_ge (tgt := 94) (pc' := 43) dX8_layCut_40 rfl rfl (fun h => absurd h (by decide)) (fun _ => ?_)
    refine ev_aload_n (pc' := 44) (i := 0) dX8_layCut_43 rfl rfl rfl ?_
    refine ev_getR (pc' := 47) fo_X8_55 dX8_layCut_44 rfl hs_115 rfl rf_115_20 ?_
    refine ev_iconst (pc' := 48) (v := 4) dX8_layCut_47 rfl ki_4 ?_
    refine ev_iload_n (pc' := 49) (i := 3) dX8_layCut_48 rfl rfl rfl ?_
    refine ev_imul (pc' := 50) (v := 8) dX8_layCut_49 rfl (by decide) ?_
    refine ev_iload (pc' := 52) dX8_layCut_50 rfl rfl ?_
    refine ev_iadd (pc' := 53) (v := 11) dX8_layCut_52 rfl (by decide) ?_
    refine ev_iload (pc' := 55) dX8_layCut_53 rfl rfl ?_
    refine ev_iload (pc' := 57) dX8_layCut_55 rfl rfl ?_
    refine ev_icmp_ne (tgt := 69) (pc' := 60) dX8_layCut_57 rfl rfl (fun h => absurd (by decide) h) (fun _ => ?_)
    refine ev_aload_n (pc' := 61) (i := 0) dX8_layCut_60 rfl rfl rfl ?_
    refine ev_getR (pc' := 64) fo_X8_46 dX8_layCut_61 rfl hs_115 rfl rf_115_16 ?_
    refine ev_iload_n (pc' := 65) (i := 2) dX8_layCut_64 rfl rfl rfl ?_
    refine ev_iald (pc' := 66) (j := 0) (v := (I 126) 0) dX8_layCut_65 rfl hs_126 rfl (Nat.le_of_ble_eq_true rfl) (Nat.le_of_ble_eq_true rfl) rfl ?_
    refine ev_goto (tgt := 87) dX8_layCut_66 rfl ?_
    refine ev_iast (pc' := 88) (j := 11) (I' := (ma_up I 129 (ma_up (ma_up (ma_up (ma_up (ma_up (ma_up (ma_up (ma_up (ma_up (ma_up (ma_up (ma_up (I 129) 0 (-((I 126) 1))) 1 ((I 126) 0)) 2 0) 3 0) 4 (-((I 126) 2))) 5 0) 6 ((I 126) 0)) 7 0) 8 (-((I 126) 3))) 9 0) 10 0) 11 ((I 126) 0)))) dX8_layCut_87 rfl hs_129 rfl (Nat.le_of_ble_eq_true rfl) (Nat.le_of_ble_eq_true rfl) (ma_up_up _ _ _ _) ?_
    refine ev_iinc (pc' := 91) (v := 4) (lv' := [some (.ref 115), some (.int (nI q)), some (.int 0), some (.int 2), some (.int 3), some (.int 4), none]) dX8_layCut_88 rfl rfl (by decide) (Nat.le_of_ble_eq_true rfl) rfl rfl ?_
    refine ev_goto (tgt := 37) dX8_layCut_91 rfl ?_
    refine ev_iload (pc' := 39) dX8_layCut_37 rfl rfl ?_
    refine ev_iconst (pc' := 40) (v := 4) dX8_layCut_39 rfl ki_4 ?_
    refine ev_icmp_ge (tgt := 94) (pc' := 43) dX8_layCut_40 rfl rfl (fun _ => ?_) (fun h => absurd (by decide) h)
    refine ev_iinc (pc' := 97) (v := 3) (lv' := [some (.ref 115), some (.int (nI q)), some (.int 0), some (.int 3), some (.int 3), some (.int 4), none]) dX8_layCut_94 rfl rfl (by decide) (Nat.le_of_ble_eq_true rfl) rfl rfl ?_
    refine ev_iinc (pc' := 100) (v := 4) (lv' := [some (.ref 115), some (.int (nI q)), some (.int 0), some (.int 3), some (.int 4), some (.int 4), none]) dX8_layCut_97 rfl rfl (by decide) (Nat.le_of_ble_eq_true rfl) rfl rfl ?_
    refine ev_goto (tgt := 22) dX8_layCut_100 rfl ?_
    refine ev_iload (pc' := 24) dX8_layCut_22 rfl rfl ?_
    refine ev_iconst (pc' := 25) (v := 4) dX8_layCut_24 rfl ki_4 ?_
    refine ev_icmp_ge (tgt := 103) (pc' := 28) dX8_layCut_25 rfl rfl (fun _ => ?_) (fun h => absurd (by decide) h)
    refine ev_iconst (pc' := 104) (v := 0) dX8_layCut_103 rfl ki_0 ?_
    refine ev_istore (pc' := 106) (lv' := [some (.ref 115), some (.int (nI q)), some (.int 0), some (.int 3), some (.int 0), some (.int 4), none]) dX8_layCut_104 rfl (Nat.le_of_ble_eq_true rfl) rfl rfl ?_
    refine ev_iload (pc' := 108) dX8_layCut_106 rfl rfl ?_
    refine ev_iconst (pc' := 109) (v := 3) dX8_layCut_108 rfl ki_3 ?_
    refine ev_icmp_ge (tgt := 212) (pc' := 112) dX8_layCut_109 rfl rfl (fun h => absurd h (by decide)) (fun _ => ?_)
    refine ev_iconst (pc' := 113) (v := 0) dX8_layCut_112 rfl ki_0 ?_
    refine ev_istore (pc' := 115) (lv' := [some (.ref 115), some (.int (nI q)), some (.int 0), some (.int 3), some (.int 0), some (.int 0), none]) dX8_layCut_113 rfl (Nat.le_of_ble_eq_true rfl) rfl rfl ?_
    refine ev_iload (pc' := 117) dX8_layCut_115 rfl rfl ?_
    refine ev_iconst (pc' := 118) (v := 3) dX8_layCut_117 rfl ki_3 ?_
    refine ev_icmp_ge (tgt := 206) (pc' := 121) dX8_layCut_118 rfl rfl (fun h => absurd h (by decide)) (fun _ => ?_)
    refine ev_iconst (pc' := 122) (v := 0) dX8_layCut_121 rfl ki_0 ?_
    refine ev_istore (pc' := 124) (lv' := [some (.ref 115), some (.int (nI q)), some (.int 0), some (.int 3), some (.int 0), some (.int 0), some (.int 0)]) dX8_layCut_122 rfl (Nat.le_of_ble_eq_true rfl) rfl rfl ?_
    refine ev_iload (pc' := 126) dX8_layCut_124 rfl rfl ?_
    refine ev_iconst (pc' := 127) (v := 4) dX8_layCut_126 rfl ki_4 ?_
    refine ev_icmp_ge (tgt := 174) (pc' := 130) dX8_layCut_127 rfl rfl (fun h => absurd h (by decide)) (fun _ => ?_)
    refine ev_aload_n (pc' := 131) (i := 0) dX8_layCut_130 rfl rfl rfl ?_
    refine ev_getR (pc' := 134) fo_X8_58 dX8_layCut_131 rfl hs_115 rfl rf_115_21 ?_
    refine ev_iload (pc' := 136) dX8_layCut_134 rfl rfl ?_
    refine ev_aload_n (pc' := 137) (i := 0) dX8_layCut_136 rfl rfl rfl ?_
    refine ev_getR (pc' := 140) fo_X8_55 dX8_layCut_137 rfl hs_115 rfl rf_115_20 ?_
    refine ev_iconst (pc' := 141) (v := 4) dX8_layCut_140 rfl ki_4 ?_
    refine ev_iload (pc' := 143) dX8_layCut_141 rfl rfl ?_
    refine ev_imul (pc' := 144) (v := 0) dX8_layCut_143 rfl (by decide) ?_
    refine ev_iload (pc' := 146) dX8_layCut_144 rfl rfl ?_
    refine ev_iadd (pc' := 147) (v := 0) dX8_layCut_146 rfl (by decide) ?_
    refine ev_iald (pc' := 148) (j := 0) (v := -((I 126) 1)) dX8_layCut_147 rfl hs_129 rfl (Nat.le_of_ble_eq_true rfl) (Nat.le_of_ble_eq_true rfl) rfl ?_
    refine ev_iast (pc' := 149) (j := 0) (I' := (ma_up (ma_up I 129 (ma_up (ma_up (ma_up (ma_up (ma_up (ma_up (ma_up (ma_up (ma_up (ma_up (ma_up (ma_up (I 129) 0 (-((I 126) 1))) 1 ((I 126) 0)) 2 0) 3 0) 4 (-((I 126) 2))) 5 0) 6 ((I 126) 0)) 7 0) 8 (-((I 126) 3))) 9 0) 10 0) 11 ((I 126) 0))) 130 (ma_up (I 130) 0 (-((I 126) 1))))) dX8_layCut_148 rfl hs_130 rfl (Nat.le_of_ble_eq_true rfl) (Nat.le_of_ble_eq_true rfl) rfl ?_
    refine ev_aload_n (pc' := 150) (i := 0) dX8_layCut_149 rfl rfl rfl ?_
    refine ev_getR (pc' := 153) fo_X8_61 dX8_layCut_150 rfl hs_115 rfl rf_115_22 ?_
    refine ev_iload (pc' := 155) dX8_layCut_153 rfl rfl ?_
    refine ev_aload_n (pc' := 156) (i := 0) dX8_layCut_155 rfl rfl rfl ?_
    refine ev_getR (pc' := 159) fo_X8_55 dX8_layCut_156 rfl hs_115 rfl rf_115_20 ?_
    refine ev_iconst (pc' := 160) (v := 4) dX8_layCut_159 rfl ki_4 ?_
    refine ev_iload (pc' := 162) dX8_layCut_160 rfl rfl ?_
    refine ev_imul (pc' := 163) (v := 0) dX8_layCut_162 rfl (by decide) ?_
    refine ev_iload (pc' := 165) dX8_layCut_163 rfl rfl ?_
    refine ev_iadd (pc' := 166) (v := 0) dX8_layCut_165 rfl (by decide) ?_
    refine ev_iald (pc' := 167) (j := 0) (v := -((I 126) 1)) dX8_layCut_166 rfl hs_129 rfl (Nat.le_of_ble_eq_true rfl) (Nat.le_of_ble_eq_true rfl) rfl ?_
    refine ev_iast (pc' := 168) (j := 0) (I' := (ma_up (ma_up (ma_up I 129 (ma_up (ma_up (ma_up (ma_up (ma_up (ma_up (ma_up (ma_up (ma_up (ma_up (ma_up (ma_up (I 129) 0 (-((I 126) 1))) 1 ((I 126) 0)) 2 0) 3 0) 4 (-((I 126) 2))) 5 0) 6 ((I 126) 0)) 7 0) 8 (-((I 126) 3))) 9 0) 10 0) 11 ((I 126) 0))) 130 (ma_up (I 130) 0 (-((I 126) 1)))) 131 (ma_up (I 131) 0 (-((I 126) 1))))) dX8_layCut_167 rfl hs_131 rfl (Nat.le_of_ble_eq_true rfl) (Nat.le_of_ble_eq_true rfl) rfl ?_
    refine ev_iinc (pc' := 171) (v := 1) (lv' := [some (.ref 115), some (.int (nI q)), some (.int 0), some (.int 3), some (.int 0), some (.int 0), some (.int 1)]) dX8_layCut_168 rfl rfl (by decide) (Nat.le_of_ble_eq_true rfl) rfl rfl ?_
    refine ev_goto (tgt := 124) dX8_layCut_171 rfl ?_
    refine ev_iload (pc' := 126) dX8_layCut_124 rfl rfl ?_
    refine ev_iconst (pc' := 127) (v := 4) dX8_layCut_126 rfl ki_4 ?_
    refine ev_icmp_ge (tgt := 174) (pc' := 130) dX8_layCut_127 rfl rfl (fun h => absurd h (by decide)) (fun _ => ?_)
    refine ev_aload_n (pc' := 131) (i := 0) dX8_layCut_130 rfl rfl rfl ?_
    refine ev_getR (pc' := 134) fo_X8_58 dX8_layCut_131 rfl hs_115 rfl rf_115_21 ?_
    refine ev_iload (pc' := 136) dX8_layCut_134 rfl rfl ?_
    refine ev_aload_n (pc' := 137) (i := 0) dX8_layCut_136 rfl rfl rfl ?_
    refine ev_getR (pc' := 140) fo_X8_55 dX8_layCut_137 rfl hs_115 rfl rf_115_20 ?_
    refine ev_iconst (pc' := 141) (v := 4) dX8_layCut_140 rfl ki_4 ?_
    refine ev_iload (pc' := 143) dX8_layCut_141 rfl rfl ?_
    refine ev_imul (pc' := 144) (v := 0) dX8_layCut_143 rfl (by decide) ?_
    refine ev_iload (pc' := 146) dX8_layCut_144 rfl rfl ?_
    refine ev_iadd (pc' := 147) (v := 1) dX8_layCut_146 rfl (by decide) ?_
    refine ev_iald (pc' := 148) (j := 1) (v := (I 126) 0) dX8_layCut_147 rfl hs_129 rfl (Nat.le_of_ble_eq_true rfl) (Nat.le_of_ble_eq_true rfl) rfl ?_
    refine ev_iast (pc' := 149) (j := 1) (I' := (ma_up (ma_up (ma_up I 129 (ma_up (ma_up (ma_up (ma_up (ma_up (ma_up (ma_up (ma_up (ma_up (ma_up (ma_up (ma_up (I 129) 0 (-((I 126) 1))) 1 ((I 126) 0)) 2 0) 3 0) 4 (-((I 126) 2))) 5 0) 6 ((I 126) 0)) 7 0) 8 (-((I 126) 3))) 9 0) 10 0) 11 ((I 126) 0))) 130 (ma_up (ma_up (I 130) 0 (-((I 126) 1))) 1 ((I 126) 0))) 131 (ma_up (I 131) 0 (-((I 126) 1))))) dX8_layCut_148 rfl hs_130 rfl (Nat.le_of_ble_eq_true rfl) (Nat.le_of_ble_eq_true rfl) ((ma_up_comm _ (show 130 ≠ 131 from (by decide)) _ _).trans (congrArg (fun f => ma_up f 131 _) (ma_up_up _ _ _ _))) ?_
    refine ev_aload_n (pc' := 150) (i := 0) dX8_layCut_149 rfl rfl rfl ?_
    refine ev_getR (pc' := 153) fo_X8_61 dX8_layCut_150 rfl hs_115 rfl rf_115_22 ?_
    refine ev_iload (pc' := 155) dX8_layCut_153 rfl rfl ?_
    refine ev_aload_n (pc' := 156) (i := 0) dX8_layCut_155 rfl rfl rfl ?_
    refine ev_getR (pc' := 159) fo_X8_55 dX8_layCut_156 rfl hs_115 rfl rf_115_20 ?_
    refine ev_iconst (pc' := 160) (v := 4) dX8_layCut_159 rfl ki_4 ?_
    refine ev_iload (pc' := 162) dX8_layCut_160 rfl rfl ?_
    refine ev_imul (pc' := 163) (v := 0) dX8_layCut_162 rfl (by decide) ?_
    refine ev_iload (pc' := 165) dX8_layCut_163 rfl rfl ?_
    refine ev_iadd (pc' := 166) (v := 1) dX8_layCut_165 rfl (by decide) ?_
    refine ev_iald (pc' := 167) (j := 1) (v := (I 126) 0) dX8_layCut_166 rfl hs_129 rfl (Nat.le_of_ble_eq_true rfl) (Nat.le_of_ble_eq_true rfl) rfl ?_
    refine ev_iast (pc' := 168) (j := 1) (I' := (ma_up (ma_up (ma_up I 129 (ma_up (ma_up (ma_up (ma_up (ma_up (ma_up (ma_up (ma_up (ma_up (ma_up (ma_up (ma_up (I 129) 0 (-((I 126) 1))) 1 ((I 126) 0)) 2 0) 3 0) 4 (-((I 126) 2))) 5 0) 6 ((I 126) 0)) 7 0) 8 (-((I 126) 3))) 9 0) 10 0) 11 ((I 126) 0))) 130 (ma_up (ma_up (I 130) 0 (-((I 126) 1))) 1 ((I 126) 0))) 131 (ma_up (ma_up (I 131) 0 (-((I 126) 1))) 1 ((I 126) 0)))) dX8_layCut_167 rfl hs_131 rfl (Nat.le_of_ble_eq_true rfl) (Nat.le_of_ble_eq_true rfl) (ma_up_up _ _ _ _) ?_
    refine ev_iinc (pc' := 171) (v := 2) (lv' := [some (.ref 115), some (.int (nI q)), some (.int 0), some (.int 3), some (.int 0), some (.int 0), some (.int 2)]) dX8_layCut_168 rfl rfl (by decide) (Nat.le_of_ble_eq_true rfl) rfl rfl ?_
    refine ev_goto (tgt := 124) dX8_layCut_171 rfl ?_
    refine ev_iload (pc' := 126) dX8_layCut_124 rfl rfl ?_
    refine ev_iconst (pc' := 127) (v := 4) dX8_layCut_126 rfl ki_4 ?_
    refine ev_icmp_ge (tgt := 174) (pc' := 130) dX8_layCut_127 rfl rfl (fun h => absurd h (by decide)) (fun _ => ?_)
    refine ev_aload_n (pc' := 131) (i := 0) dX8_layCut_130 rfl rfl rfl ?_
    refine ev_getR (pc' := 134) fo_X8_58 dX8_layCut_131 rfl hs_115 rfl rf_115_21 ?_
    refine ev_iload (pc' := 136) dX8_layCut_134 rfl rfl ?_
    refine ev_aload_n (pc' := 137) (i := 0) dX8_layCut_136 rfl rfl rfl ?_
    refine ev_getR (pc' := 140) fo_X8_55 dX8_layCut_137 rfl hs_115 rfl rf_115_20 ?_
    refine ev_iconst (pc' := 141) (v := 4) dX8_layCut_140 rfl ki_4 ?_
    refine ev_iload (pc' := 143) dX8_layCut_141 rfl rfl ?_
    refine ev_imul (pc' := 144) (v := 0) dX8_layCut_143 rfl (by decide) ?_
    refine ev_iload (pc' := 146) dX8_layCut_144 rfl rfl ?_
    refine ev_iadd (pc' := 147) (v := 2) dX8_layCut_146 rfl (by decide) ?_
    refine ev_iald (pc' := 148) (j := 2) (v := 0) dX8_layCut_147 rfl hs_129 rfl (Nat.le_of_ble_eq_true rfl) (Nat.le_of_ble_eq_true rfl) rfl ?_
    refine ev_iast (pc' := 149) (j := 2) (I' := (ma_up (ma_up (ma_up I 129 (ma_up (ma_up (ma_up (ma_up (ma_up (ma_up (ma_up (ma_up (ma_up (ma_up (ma_up (ma_up (I 129) 0 (-((I 126) 1))) 1 ((I 126) 0)) 2 0) 3 0) 4 (-((I 126) 2))) 5 0) 6 ((I 126) 0)) 7 0) 8 (-((I 126) 3))) 9 0) 10 0) 11 ((I 126) 0))) 130 (ma_up (ma_up (ma_up (I 130) 0 (-((I 126) 1))) 1 ((I 126) 0)) 2 0)) 131 (ma_up (ma_up (I 131) 0 (-((I 126) 1))) 1 ((I 126) 0)))) dX8_layCut_148 rfl hs_130 rfl (Nat.le_of_ble_eq_true rfl) (Nat.le_of_ble_eq_true rfl) ((ma_up_comm _ (show 130 ≠ 131 from (by decide)) _ _).trans (congrArg (fun f => ma_up f 131 _) (ma_up_up _ _ _ _))) ?_
    refine ev_aload_n (pc' := 150) (i := 0) dX8_layCut_149 rfl rfl rfl ?_
    refine ev_getR (pc' := 153) fo_X8_61 dX8_layCut_150 rfl hs_115 rfl rf_115_22 ?_
    refine ev_iload (pc' := 155) dX8_layCut_153 rfl rfl ?_
    refine ev_aload_n (pc' := 156) (i := 0) dX8_layCut_155 rfl rfl rfl ?_
    refine ev_getR (pc' := 159) fo_X8_55 dX8_layCut_156 rfl hs_115 rfl rf_115_20 ?_
    refine ev_iconst (pc' := 160) (v := 4) dX8_layCut_159 rfl ki_4 ?_
    refine ev_iload (pc' := 162) dX8_layCut_160 rfl rfl ?_
    refine ev_imul (pc' := 163) (v := 0) dX8_layCut_162 rfl (by decide) ?_
    refine ev_iload (pc' := 165) dX8_layCut_163 rfl rfl ?_
    refine ev_iadd (pc' := 166) (v := 2) dX8_layCut_165 rfl (by decide) ?_
    refine ev_iald (pc' := 167) (j := 2) (v := 0) dX8_layCut_166 rfl hs_129 rfl (Nat.le_of_ble_eq_true rfl) (Nat.le_of_ble_eq_true rfl) rfl ?_
    refine ev_iast (pc' := 168) (j := 2) (I' := (ma_up (ma_up (ma_up I 129 (ma_up (ma_up (ma_up (ma_up (ma_up (ma_up (ma_up (ma_up (ma_up (ma_up (ma_up (ma_up (I 129) 0 (-((I 126) 1))) 1 ((I 126) 0)) 2 0) 3 0) 4 (-((I 126) 2))) 5 0) 6 ((I 126) 0)) 7 0) 8 (-((I 126) 3))) 9 0) 10 0) 11 ((I 126) 0))) 130 (ma_up (ma_up (ma_up (I 130) 0 (-((I 126) 1))) 1 ((I 126) 0)) 2 0)) 131 (ma_up (ma_up (ma_up (I 131) 0 (-((I 126) 1))) 1 ((I 126) 0)) 2 0))) dX8_layCut_167 rfl hs_131 rfl (Nat.le_of_ble_eq_true rfl) (Nat.le_of_ble_eq_true rfl) (ma_up_up _ _ _ _) ?_
    refine ev_iinc (pc' := 171) (v := 3) (lv' := [some (.ref 115), some (.int (nI q)), some (.int 0), some (.int 3), some (.int 0), some (.int 0), some (.int 3)]) dX8_layCut_168 rfl rfl (by decide) (Nat.le_of_ble_eq_true rfl) rfl rfl ?_
    refine ev_goto (tgt := 124) dX8_layCut_171 rfl ?_
    refine ev_iload (pc' := 126) dX8_layCut_124 rfl rfl ?_
    refine ev_iconst (pc' := 127) (v := 4) dX8_layCut_126 rfl ki_4 ?_
    refine ev_icmp_ge (tgt := 174) (pc' := 130) dX8_layCut_127 rfl rfl (fun h => absurd h (by decide)) (fun _ => ?_)
    refine ev_aload_n (pc' := 131) (i := 0) dX8_layCut_130 rfl rfl rfl ?_
    refine ev_getR (pc' := 134) fo_X8_58 dX8_layCut_131 rfl hs_115 rfl rf_115_21 ?_
    refine ev_iload (pc' := 136) dX8_layCut_134 rfl rfl ?_
    refine ev_aload_n (pc' := 137) (i := 0) dX8_layCut_136 rfl rfl rfl ?_
    refine ev_getR (pc' := 140) fo_X8_55 dX8_layCut_137 rfl hs_115 rfl rf_115_20 ?_
    refine ev_iconst (pc' := 141) (v := 4) dX8_layCut_140 rfl ki_4 ?_
    refine ev_iload (pc' := 143) dX8_layCut_141 rfl rfl ?_
    refine ev_imul (pc' := 144) (v := 0) dX8_layCut_143 rfl (by decide) ?_
    refine ev_iload (pc' := 146) dX8_layCut_144 rfl rfl ?_
    refine ev_iadd (pc' := 147) (v := 3) dX8_layCut_146 rfl (by decide) ?_
    refine ev_iald (pc' := 148) (j := 3) (v := 0) dX8_layCut_147 rfl hs_129 rfl (Nat.le_of_ble_eq_true rfl) (Nat.le_of_ble_eq_true rfl) rfl ?_
    refine ev_iast (pc' := 149) (j := 3) (I' := (ma_up (ma_up (ma_up I 129 (ma_up (ma_up (ma_up (ma_up (ma_up (ma_up (ma_up (ma_up (ma_up (ma_up (ma_up (ma_up (I 129) 0 (-((I 126) 1))) 1 ((I 126) 0)) 2 0) 3 0) 4 (-((I 126) 2))) 5 0) 6 ((I 126) 0)) 7 0) 8 (-((I 126) 3))) 9 0) 10 0) 11 ((I 126) 0))) 130 (ma_up (ma_up (ma_up (ma_up (I 130) 0 (-((I 126) 1))) 1 ((I 126) 0)) 2 0) 3 0)) 131 (ma_up (ma_up (ma_up (I 131) 0 (-((I 126) 1))) 1 ((I 126) 0)) 2 0))) dX8_layCut_148 rfl hs_130 rfl (Nat.le_of_ble_eq_true rfl) (Nat.le_of_ble_eq_true rfl) ((ma_up_comm _ (show 130 ≠ 131 from (by decide)) _ _).trans (congrArg (fun f => ma_up f 131 _) (ma_up_up _ _ _ _))) ?_
    refine ev_aload_n (pc' := 150) (i := 0) dX8_layCut_149 rfl rfl rfl ?_
    refine ev_getR (pc' := 153) fo_X8_61 dX8_layCut_150 rfl hs_115 rfl rf_115_22 ?_
    refine ev_iload (pc' := 155) dX8_layCut_153 rfl rfl ?_
    refine ev_aload_n (pc' := 156) (i := 0) dX8_layCut_155 rfl rfl rfl ?_
    refine ev_getR (pc' := 159) fo_X8_55 dX8_layCut_156 rfl hs_115 rfl rf_115_20 ?_
    refine ev_iconst (pc' := 160) (v := 4) dX8_layCut_159 rfl ki_4 ?_
    refine ev_iload (pc' := 162) dX8_layCut_160 rfl rfl ?_
    refine ev_imul (pc' := 163) (v := 0) dX8_layCut_162 rfl (by decide) ?_
    refine ev_iload (pc' := 165) dX8_layCut_163 rfl rfl ?_
    refine ev_iadd (pc' := 166) (v := 3) dX8_layCut_165 rfl (by decide) ?_
    refine ev_iald (pc' := 167) (j := 3) (v := 0) dX8_layCut_166 rfl hs_129 rfl (Nat.le_of_ble_eq_true rfl) (Nat.le_of_ble_eq_true rfl) rfl ?_
    refine ev_iast (pc' := 168) (j := 3) (I' := (ma_up (ma_up (ma_up I 129 (ma_up (ma_up (ma_up (ma_up (ma_up (ma_up (ma_up (ma_up (ma_up (ma_up (ma_up (ma_up (I 129) 0 (-((I 126) 1))) 1 ((I 126) 0)) 2 0) 3 0) 4 (-((I 126) 2))) 5 0) 6 ((I 126) 0)) 7 0) 8 (-((I 126) 3))) 9 0) 10 0) 11 ((I 126) 0))) 130 (ma_up (ma_up (ma_up (ma_up (I 130) 0 (-((I 126) 1))) 1 ((I 126) 0)) 2 0) 3 0)) 131 (ma_up (ma_up (ma_up (ma_up (I 131) 0 (-((I 126) 1))) 1 ((I 126) 0)) 2 0) 3 0))) dX8_layCut_167 rfl hs_131 rfl (Nat.le_of_ble_eq_true rfl) (Nat.le_of_ble_eq_true rfl) (ma_up_up _ _ _ _) ?_
    refine ev_iinc (pc' := 171) (v := 4) (lv' := [some (.ref 115), some (.int (nI q)), some (.int 0), some (.int 3), some (.int 0), some (.int 0), some (.int 4)]) dX8_layCut_168 rfl rfl (by decide) (Nat.le_of_ble_eq_true rfl) rfl rfl ?_
    refine ev_goto (tgt := 124) dX8_layCut_171 rfl ?_
    refine ev_iload (pc' := 126) dX8_layCut_124 rfl rfl ?_
    refine ev_iconst (pc' := 127) (v := 4) dX8_layCut_126 rfl ki_4 ?_
    refine ev_icmp_ge (tgt := 174) (pc' := 130) dX8_layCut_127 rfl rfl (fun _ => ?_) (fun h => absurd (by decide) h)
    refine ev_aload_n (pc' := 175) (i := 0) dX8_layCut_174 rfl rfl rfl ?_
    refine ev_getR (pc' := 178) fo_X8_26 dX8_layCut_175 rfl hs_115 rfl rf_115_8 ?_
    refine ev_iconst (pc' := 179) (v := 4) dX8_layCut_178 rfl ki_4 ?_
    refine ev_iload (pc' := 181) dX8_layCut_179 rfl rfl ?_
    refine ev_imul (pc' := 182) (v := 0) dX8_layCut_181 rfl (by decide) ?_
    refine ev_iload (pc' := 184) dX8_layCut_182 rfl rfl ?_
    refine ev_iadd (pc' := 185) (v := 0) dX8_layCut_184 rfl (by decide) ?_
    refine ev_aload_n (pc' := 186) (i := 0) dX8_layCut_185 rfl rfl rfl ?_
    refine ev_iload_n (pc' := 187) (i := 1) dX8_layCut_186 rfl rfl rfl ?_
    refine ev_aload_n (pc' := 188) (i := 0) dX8_layCut_187 rfl rfl rfl ?_
    refine ev_getR (pc' := 191) fo_X8_58 dX8_layCut_188 rfl hs_115 rfl rf_115_21 ?_
    refine ev_aload_n (pc' := 192) (i := 0) dX8_layCut_191 rfl rfl rfl ?_
    refine ev_getR (pc' := 195) fo_X8_61 dX8_layCut_192 rfl hs_115 rfl rf_115_22 ?_
    refine ev_callV (pc' := 198) (rm' := rX8_both) (b := 115) (av := [.int (nI q), .ref 130, .ref 131]) (rest := [.int 0, .ref 120]) co_X8_241 ci_X8_both cv_X8_both dX8_layCut_195 rfl hs_115 hb_X8 rfl rfl (Nat.le_of_ble_eq_true rfl) ⟨(Nat.le_of_ble_eq_true rfl), (Nat.le_of_ble_eq_true rfl)⟩ ⟨(Nat.le_of_ble_eq_true rfl), (Nat.le_of_ble_eq_true rfl)⟩ ?_
    refine t_X8_both q 130 131 hq hs_130 hs_131 ?_
    refine ev_eqi (w := mBo (I 123) (mSn 0 (I 126) 0) (mSn 0 (I 126) 0) q) rfl ?_
    refine ev_i2l (pc' := 199) (v := Int32.toInt64 (mBo (I 123) (mSn 0 (I 126) 0) (mSn 0 (I 126) 0) q)) dX8_layCut_198 rfl rfl ?_
    refine ev_last (pc' := 200) (j := 0) (L' := (ma_up L 120 (ma_up (L 120) 0 (Int32.toInt64 (mBo (I 123) (mSn 0 (I 126) 0) (mSn 0 (I 126) 0) q))))) dX8_layCut_199 rfl hs_120 rfl (Nat.le_of_ble_eq_true rfl) (Nat.le_of_ble_eq_true rfl) rfl ?_
    refine ev_iinc (pc' := 203) (v := 1) (lv' := [some (.ref 115), some (.int (nI q)), some (.int 0), some (.int 3), some (.int 0), some (.int 1), some (.int 4)]) dX8_layCut_200 rfl rfl (by decide) (Nat.le_of_ble_eq_true rfl) rfl rfl ?_
    refine ev_goto (tgt := 115) dX8_layCut_203 rfl ?_
    refine ev_iload (pc' := 117) dX8_layCut_115 rfl rfl ?_
    refine ev_iconst (pc' := 118) (v := 3) dX8_layCut_117 rfl ki_3 ?_
    refine ev_icmp_ge (tgt := 206) (pc' := 121) dX8_layCut_118 rfl rfl (fun h => absurd h (by decide)) (fun _ => ?_)
    refine ev_iconst (pc' := 122) (v := 0) dX8_layCut_121 rfl ki_0 ?_
    refine ev_istore (pc' := 124) (lv' := [some (.ref 115), some (.int (nI q)), some (.int 0), some (.int 3), some (.int 0), some (.int 1), some (.int 0)]) dX8_layCut_122 rfl (Nat.le_of_ble_eq_true rfl) rfl rfl ?_
    refine ev_iload (pc' := 126) dX8_layCut_124 rfl rfl ?_
    refine ev_iconst (pc' := 127) (v := 4) dX8_layCut_126 rfl ki_4 ?_
    refine ev_icmp_ge (tgt := 174) (pc' := 130) dX8_layCut_127 rfl rfl (fun h => absurd h (by decide)) (fun _ => ?_)
    refine ev_aload_n (pc' := 131) (i := 0) dX8_layCut_130 rfl rfl rfl ?_
    refine ev_getR (pc' := 134) fo_X8_58 dX8_layCut_131 rfl hs_115 rfl rf_115_21 ?_
    refine ev_iload (pc' := 136) dX8_layCut_134 rfl rfl ?_
    refine ev_aload_n (pc' := 137) (i := 0) dX8_layCut_136 rfl rfl rfl ?_
    refine ev_getR (pc' := 140) fo_X8_55 dX8_layCut_137 rfl hs_115 rfl rf_115_20 ?_
    refine ev_iconst (pc' := 141) (v := 4) dX8_layCut_140 rfl ki_4 ?_
    refine ev_iload (pc' := 143) dX8_layCut_141 rfl rfl ?_
    refine ev_imul (pc' := 144) (v := 0) dX8_layCut_143 rfl (by decide) ?_
    refine ev_iload (pc' := 146) dX8_layCut_144 rfl rfl ?_
    refine ev_iadd (pc' := 147) (v := 0) dX8_layCut_146 rfl (by decide) ?_
    refine ev_iald (pc' := 148) (j := 0) (v := -((I 126) 1)) dX8_layCut_147 rfl hs_129 rfl (Nat.le_of_ble_eq_true rfl) (Nat.le_of_ble_eq_true rfl) rfl ?_
    refine ev_iast (pc' := 149) (j := 0) (I' := (ma_up (ma_up (ma_up I 129 (ma_up (ma_up (ma_up (ma_up (ma_up (ma_up (ma_up (ma_up (ma_up (ma_up (ma_up (ma_up (I 129) 0 (-((I 126) 1))) 1 ((I 126) 0)) 2 0) 3 0) 4 (-((I 126) 2))) 5 0) 6 ((I 126) 0)) 7 0) 8 (-((I 126) 3))) 9 0) 10 0) 11 ((I 126) 0))) 130 (ma_up (ma_up (ma_up (ma_up (I 130) 0 (-((I 126) 1))) 1 ((I 126) 0)) 2 0) 3 0)) 131 (ma_up (ma_up (ma_up (ma_up (I 131) 0 (-((I 126) 1))) 1 ((I 126) 0)) 2 0) 3 0))) dX8_layCut_148 rfl hs_130 rfl (Nat.le_of_ble_eq_true rfl) (Nat.le_of_ble_eq_true rfl) ((congrArg (ma_up _ 130) ((ma_up_comm _ (show 0 ≠ 3 from (by decide)) _ _).trans (congrArg (fun f => ma_up f 3 _) ((ma_up_comm _ (show 0 ≠ 2 from (by decide)) _ _).trans (congrArg (fun f => ma_up f 2 _) ((ma_up_comm _ (show 0 ≠ 1 from (by decide)) _ _).trans (congrArg (fun f => ma_up f 1 _) (ma_up_up _ _ _ _)))))))).trans ((ma_up_comm _ (show 130 ≠ 131 from (by decide)) _ _).trans (congrArg (fun f => ma_up f 131 _) (ma_up_up _ _ _ _)))) ?_
    refine ev_aload_n (pc' := 150) (i := 0) dX8_layCut_149 rfl rfl rfl ?_
    refine ev_getR (pc' := 153) fo_X8_61 dX8_layCut_150 rfl hs_115 rfl rf_115_22 ?_
    refine ev_iload (pc' := 155) dX8_layCut_153 rfl rfl ?_
    refine ev_aload_n (pc' := 156) (i := 0) dX8_layCut_155 rfl rfl rfl ?_
    refine ev_getR (pc' := 159) fo_X8_55 dX8_layCut_156 rfl hs_115 rfl rf_115_20 ?_
    refine ev_iconst (pc' := 160) (v := 4) dX8_layCut_159 rfl ki_4 ?_
    refine ev_iload (pc' := 162) dX8_layCut_160 rfl rfl ?_
    refine ev_imul (pc' := 163) (v := 4) dX8_layCut_162 rfl (by decide) ?_
    refine ev_iload (pc' := 165) dX8_layCut_163 rfl rfl ?_
    refine ev_iadd (pc' := 166) (v := 4) dX8_layCut_165 rfl (by decide) ?_
    refine ev_iald (pc' := 167) (j := 4) (v := -((I 126) 2)) dX8_layCut_166 rfl hs_129 rfl (Nat.le_of_ble_eq_true rfl) (Nat.le_of_ble_eq_true rfl) rfl ?_
    refine ev_iast (pc' := 168) (j := 0) (I' := (ma_up (ma_up (ma_up I 129 (ma_up (ma_up (ma_up (ma_up (ma_up (ma_up (ma_up (ma_up (ma_up (ma_up (ma_up (ma_up (I 129) 0 (-((I 126) 1))) 1 ((I 126) 0)) 2 0) 3 0) 4 (-((I 126) 2))) 5 0) 6 ((I 126) 0)) 7 0) 8 (-((I 126) 3))) 9 0) 10 0) 11 ((I 126) 0))) 130 (ma_up (ma_up (ma_up (ma_up (I 130) 0 (-((I 126) 1))) 1 ((I 126) 0)) 2 0) 3 0)) 131 (ma_up (ma_up (ma_up (ma_up (I 131) 0 (-((I 126) 2))) 1 ((I 126) 0)) 2 0) 3 0))) dX8_layCut_167 rfl hs_131 rfl (Nat.le_of_ble_eq_true rfl) (Nat.le_of_ble_eq_true rfl) ((congrArg (ma_up _ 131) ((ma_up_comm _ (show 0 ≠ 3 from (by decide)) _ _).trans (congrArg (fun f => ma_up f 3 _) ((ma_up_comm _ (show 0 ≠ 2 from (by decide)) _ _).trans (congrArg (fun f => ma_up f 2 _) ((ma_up_comm _ (show 0 ≠ 1 from (by decide)) _ _).trans (congrArg (fun f => ma_up f 1 _) (ma_up_up _ _ _ _)))))))).trans (ma_up_up _ _ _ _)) ?_
    refine ev_iinc (pc' := 171) (v := 1) (lv' := [some (.ref 115), some (.int (nI q)), some (.int 0), some (.int 3), some (.int 0), some (.int 1), some (.int 1)]) dX8_layCut_168 rfl rfl (by decide) (Nat.le_of_ble_eq_true rfl) rfl rfl ?_
    refine ev_goto (tgt := 124) dX8_layCut_171 rfl ?_
    refine ev_iload (pc' := 126) dX8_layCut_124 rfl rfl ?_
    refine ev_iconst (pc' := 127) (v := 4) dX8_layCut_126 rfl ki_4 ?_
    refine ev_icmp_ge (tgt := 174) (pc' := 130) dX8_layCut_127 rfl rfl (fun h => absurd h (by decide)) (fun _ => ?_)
    refine ev_aload_n (pc' := 131) (i := 0) dX8_layCut_130 rfl rfl rfl ?_
    refine ev_getR (pc' := 134) fo_X8_58 dX8_layCut_131 rfl hs_115 rfl rf_115_21 ?_
    refine ev_iload (pc' := 136) dX8_layCut_134 rfl rfl ?_
    refine ev_aload_n (pc' := 137) (i := 0) dX8_layCut_136 rfl rfl rfl ?_
    refine ev_getR (pc' := 140) fo_X8_55 dX8_layCut_137 rfl hs_115 rfl rf_115_20 ?_
    refine ev_iconst (pc' := 141) (v := 4) dX8_layCut_140 rfl ki_4 ?_
    refine ev_iload (pc' := 143) dX8_layCut_141 rfl rfl ?_
    refine ev_imul (pc' := 144) (v := 0) dX8_layCut_143 rfl (by decide) ?_
    refine ev_iload (pc' := 146) dX8_layCut_144 rfl rfl ?_
    refine ev_iadd (pc' := 147) (v := 1) dX8_layCut_146 rfl (by decide) ?_
    refine ev_iald (pc' := 148) (j := 1) (v := (I 126) 0) dX8_layCut_147 rfl hs_129 rfl (Nat.le_of_ble_eq_true rfl) (Nat.le_of_ble_eq_true rfl) rfl ?_
    refine ev_iast (pc' := 149) (j := 1) (I' := (ma_up (ma_up (ma_up I 129 (ma_up (ma_up (ma_up (ma_up (ma_up (ma_up (ma_up (ma_up (ma_up (ma_up (ma_up (ma_up (I 129) 0 (-((I 126) 1))) 1 ((I 126) 0)) 2 0) 3 0) 4 (-((I 126) 2))) 5 0) 6 ((I 126) 0)) 7 0) 8 (-((I 126) 3))) 9 0) 10 0) 11 ((I 126) 0))) 130 (ma_up (ma_up (ma_up (ma_up (I 130) 0 (-((I 126) 1))) 1 ((I 126) 0)) 2 0) 3 0)) 131 (ma_up (ma_up (ma_up (ma_up (I 131) 0 (-((I 126) 2))) 1 ((I 126) 0)) 2 0) 3 0))) dX8_layCut_148 rfl hs_130 rfl (Nat.le_of_ble_eq_true rfl) (Nat.le_of_ble_eq_true rfl) ((congrArg (ma_up _ 130) ((ma_up_comm _ (show 1 ≠ 3 from (by decide)) _ _).trans (congrArg (fun f => ma_up f 3 _) ((ma_up_comm _ (show 1 ≠ 2 from (by decide)) _ _).trans (congrArg (fun f => ma_up f 2 _) (ma_up_up _ _ _ _)))))).trans ((ma_up_comm _ (show 130 ≠ 131 from (by decide)) _ _).trans (congrArg (fun f => ma_up f 131 _) (ma_up_up _ _ _ _)))) ?_
    refine ev_aload_n (pc' := 150) (i := 0) dX8_layCut_149 rfl rfl rfl ?_
    refine ev_getR (pc' := 153) fo_X8_61 dX8_layCut_150 rfl hs_115 rfl rf_115_22 ?_
    refine ev_iload (pc' := 155) dX8_layCut_153 rfl rfl ?_
    refine ev_aload_n (pc' := 156) (i := 0) dX8_layCut_155 rfl rfl rfl ?_
    refine ev_getR (pc' := 159) fo_X8_55 dX8_layCut_156 rfl hs_115 rfl rf_115_20 ?_
    refine ev_iconst (pc' := 160) (v := 4) dX8_layCut_159 rfl ki_4 ?_
    refine ev_iload (pc' := 162) dX8_layCut_160 rfl rfl ?_
    refine ev_imul (pc' := 163) (v := 4) dX8_layCut_162 rfl (by decide) ?_
    refine ev_iload (pc' := 165) dX8_layCut_163 rfl rfl ?_
    refine ev_iadd (pc' := 166) (v := 5) dX8_layCut_165 rfl (by decide) ?_
    refine ev_iald (pc' := 167) (j := 5) (v := 0) dX8_layCut_166 rfl hs_129 rfl (Nat.le_of_ble_eq_true rfl) (Nat.le_of_ble_eq_true rfl) rfl ?_
    refine ev_iast (pc' := 168) (j := 1) (I' := (ma_up (ma_up (ma_up I 129 (ma_up (ma_up (ma_up (ma_up (ma_up (ma_up (ma_up (ma_up (ma_up (ma_up (ma_up (ma_up (I 129) 0 (-((I 126) 1))) 1 ((I 126) 0)) 2 0) 3 0) 4 (-((I 126) 2))) 5 0) 6 ((I 126) 0)) 7 0) 8 (-((I 126) 3))) 9 0) 10 0) 11 ((I 126) 0))) 130 (ma_up (ma_up (ma_up (ma_up (I 130) 0 (-((I 126) 1))) 1 ((I 126) 0)) 2 0) 3 0)) 131 (ma_up (ma_up (ma_up (ma_up (I 131) 0 (-((I 126) 2))) 1 0) 2 0) 3 0))) dX8_layCut_167 rfl hs_131 rfl (Nat.le_of_ble_eq_true rfl) (Nat.le_of_ble_eq_true rfl) ((congrArg (ma_up _ 131) ((ma_up_comm _ (show 1 ≠ 3 from (by decide)) _ _).trans (congrArg (fun f => ma_up f 3 _) ((ma_up_comm _ (show 1 ≠ 2 from (by decide)) _ _).trans (congrArg (fun f => ma_up f 2 _) (ma_up_up _ _ _ _)))))).trans (ma_up_up _ _ _ _)) ?_
    refine ev_iinc (pc' := 171) (v := 2) (lv' := [some (.ref 115), some (.int (nI q)), some (.int 0), some (.int 3), some (.int 0), some (.int 1), some (.int 2)]) dX8_layCut_168 rfl rfl (by decide) (Nat.le_of_ble_eq_true rfl) rfl rfl ?_
    refine ev_goto (tgt := 124) dX8_layCut_171 rfl ?_
    refine ev_iload (pc' := 126) dX8_layCut_124 rfl rfl ?_
    refine ev_iconst (pc' := 127) (v := 4) dX8_layCut_126 rfl ki_4 ?_
    refine ev_icmp_ge (tgt := 174) (pc' := 130) dX8_layCut_127 rfl rfl (fun h => absurd h (by decide)) (fun _ => ?_)
    refine ev_aload_n (pc' := 131) (i := 0) dX8_layCut_130 rfl rfl rfl ?_
    refine ev_getR (pc' := 134) fo_X8_58 dX8_layCut_131 rfl hs_115 rfl rf_115_21 ?_
    refine ev_iload (pc' := 136) dX8_layCut_134 rfl rfl ?_
    refine ev_aload_n (pc' := 137) (i := 0) dX8_layCut_136 rfl rfl rfl ?_
    refine ev_getR (pc' := 140) fo_X8_55 dX8_layCut_137 rfl hs_115 rfl rf_115_20 ?_
    refine ev_iconst (pc' := 141) (v := 4) dX8_layCut_140 rfl ki_4 ?_
    refine ev_iload (pc' := 143) dX8_layCut_141 rfl rfl ?_
    refine ev_imul (pc' := 144) (v := 0) dX8_layCut_143 rfl (by decide) ?_
    refine ev_iload (pc' := 146) dX8_layCut_144 rfl rfl ?_
    refine ev_iadd (pc' := 147) (v := 2) dX8_layCut_146 rfl (by decide) ?_
    refine ev_iald (pc' := 148) (j := 2) (v := 0) dX8_layCut_147 rfl hs_129 rfl (Nat.le_of_ble_eq_true rfl) (Nat.le_of_ble_eq_true rfl) rfl ?_
    refine ev_iast (pc' := 149) (j := 2) (I' := (ma_up (ma_up (ma_up I 129 (ma_up (ma_up (ma_up (ma_up (ma_up (ma_up (ma_up (ma_up (ma_up (ma_up (ma_up (ma_up (I 129) 0 (-((I 126) 1))) 1 ((I 126) 0)) 2 0) 3 0) 4 (-((I 126) 2))) 5 0) 6 ((I 126) 0)) 7 0) 8 (-((I 126) 3))) 9 0) 10 0) 11 ((I 126) 0))) 130 (ma_up (ma_up (ma_up (ma_up (I 130) 0 (-((I 126) 1))) 1 ((I 126) 0)) 2 0) 3 0)) 131 (ma_up (ma_up (ma_up (ma_up (I 131) 0 (-((I 126) 2))) 1 0) 2 0) 3 0))) dX8_layCut_148 rfl hs_130 rfl (Nat.le_of_ble_eq_true rfl) (Nat.le_of_ble_eq_true rfl) ((congrArg (ma_up _ 130) ((ma_up_comm _ (show 2 ≠ 3 from (by decide)) _ _).trans (congrArg (fun f => ma_up f 3 _) (ma_up_up _ _ _ _)))).trans ((ma_up_comm _ (show 130 ≠ 131 from (by decide)) _ _).trans (congrArg (fun f => ma_up f 131 _) (ma_up_up _ _ _ _)))) ?_
    refine ev_aload_n (pc' := 150) (i := 0) dX8_layCut_149 rfl rfl rfl ?_
    refine ev_getR (pc' := 153) fo_X8_61 dX8_layCut_150 rfl hs_115 rfl rf_115_22 ?_
    refine ev_iload (pc' := 155) dX8_layCut_153 rfl rfl ?_
    refine ev_aload_n (pc' := 156) (i := 0) dX8_layCut_155 rfl rfl rfl ?_
    refine ev_getR (pc' := 159) fo_X8_55 dX8_layCut_156 rfl hs_115 rfl rf_115_20 ?_
    refine ev_iconst (pc' := 160) (v := 4) dX8_layCut_159 rfl ki_4 ?_
    refine ev_iload (pc' := 162) dX8_layCut_160 rfl rfl ?_
    refine ev_imul (pc' := 163) (v := 4) dX8_layCut_162 rfl (by decide) ?_
    refine ev_iload (pc' := 165) dX8_layCut_163 rfl rfl ?_
    refine ev_iadd (pc' := 166) (v := 6) dX8_layCut_165 rfl (by decide) ?_
    refine ev_iald (pc' := 167) (j := 6) (v := (I 126) 0) dX8_layCut_166 rfl hs_129 rfl (Nat.le_of_ble_eq_true rfl) (Nat.le_of_ble_eq_true rfl) rfl ?_
    refine ev_iast (pc' := 168) (j := 2) (I' := (ma_up (ma_up (ma_up I 129 (ma_up (ma_up (ma_up (ma_up (ma_up (ma_up (ma_up (ma_up (ma_up (ma_up (ma_up (ma_up (I 129) 0 (-((I 126) 1))) 1 ((I 126) 0)) 2 0) 3 0) 4 (-((I 126) 2))) 5 0) 6 ((I 126) 0)) 7 0) 8 (-((I 126) 3))) 9 0) 10 0) 11 ((I 126) 0))) 130 (ma_up (ma_up (ma_up (ma_up (I 130) 0 (-((I 126) 1))) 1 ((I 126) 0)) 2 0) 3 0)) 131 (ma_up (ma_up (ma_up (ma_up (I 131) 0 (-((I 126) 2))) 1 0) 2 ((I 126) 0)) 3 0))) dX8_layCut_167 rfl hs_131 rfl (Nat.le_of_ble_eq_true rfl) (Nat.le_of_ble_eq_true rfl) ((congrArg (ma_up _ 131) ((ma_up_comm _ (show 2 ≠ 3 from (by decide)) _ _).trans (congrArg (fun f => ma_up f 3 _) (ma_up_up _ _ _ _)))).trans (ma_up_up _ _ _ _)) ?_
    refine ev_iinc (pc' := 171) (v := 3) (lv' := [some (.ref 115), some (.int (nI q)), some (.int 0), some (.int 3), some (.int 0), some (.int 1), some (.int 3)]) dX8_layCut_168 rfl rfl (by decide) (Nat.le_of_ble_eq_true rfl) rfl rfl ?_
    refine ev_goto (tgt := 124) dX8_layCut_171 rfl ?_
    refine ev_iload (pc' := 126) dX8_layCut_124 rfl rfl ?_
    refine ev_iconst (pc' := 127) (v := 4) dX8_layCut_126 rfl ki_4 ?_
    refine ev_icmp_ge (tgt := 174) (pc' := 130) dX8_layCut_127 rfl rfl (fun h => absurd h (by decide)) (fun _ => ?_)
    refine ev_aload_n (pc' := 131) (i := 0) dX8_layCut_130 rfl rfl rfl ?_
    refine ev_getR (pc' := 134) fo_X8_58 dX8_layCut_131 rfl hs_115 rfl rf_115_21 ?_
    refine ev_iload (pc' := 136) dX8_layCut_134 rfl rfl ?_
    refine ev_aload_n (pc' := 137) (i := 0) dX8_layCut_136 rfl rfl rfl ?_
    refine ev_getR (pc' := 140) fo_X8_55 dX8_layCut_137 rfl hs_115 rfl rf_115_20 ?_
    refine ev_iconst (pc' := 141) (v := 4) dX8_layCut_140 rfl ki_4 ?_
    refine ev_iload (pc' := 143) dX8_layCut_141 rfl rfl ?_
    refine ev_imul (pc' := 144) (v := 0) dX8_layCut_143 rfl (by decide) ?_
    refine ev_iload (pc' := 146) dX8_layCut_144 rfl rfl ?_
    refine ev_iadd (pc' := 147) (v := 3) dX8_layCut_146 rfl (by decide) ?_
    refine ev_iald (pc' := 148) (j := 3) (v := 0) dX8_layCut_147 rfl hs_129 rfl (Nat.le_of_ble_eq_true rfl) (Nat.le_of_ble_eq_true rfl) rfl ?_
    refine ev_iast (pc' := 149) (j := 3) (I' := (ma_up (ma_up (ma_up I 129 (ma_up (ma_up (ma_up (ma_up (ma_up (ma_up (ma_up (ma_up (ma_up (ma_up (ma_up (ma_up (I 129) 0 (-((I 126) 1))) 1 ((I 126) 0)) 2 0) 3 0) 4 (-((I 126) 2))) 5 0) 6 ((I 126) 0)) 7 0) 8 (-((I 126) 3))) 9 0) 10 0) 11 ((I 126) 0))) 130 (ma_up (ma_up (ma_up (ma_up (I 130) 0 (-((I 126) 1))) 1 ((I 126) 0)) 2 0) 3 0)) 131 (ma_up (ma_up (ma_up (ma_up (I 131) 0 (-((I 126) 2))) 1 0) 2 ((I 126) 0)) 3 0))) dX8_layCut_148 rfl hs_130 rfl (Nat.le_of_ble_eq_true rfl) (Nat.le_of_ble_eq_true rfl) ((congrArg (ma_up _ 130) (ma_up_up _ _ _ _)).trans ((ma_up_comm _ (show 130 ≠ 131 from (by decide)) _ _).trans (congrArg (fun f => ma_up f 131 _) (ma_up_up _ _ _ _)))) ?_
    refine ev_aload_n (pc' := 150) (i := 0) dX8_layCut_149 rfl rfl rfl ?_
    refine ev_getR (pc' := 153) fo_X8_61 dX8_layCut_150 rfl hs_115 rfl rf_115_22 ?_
    refine ev_iload (pc' := 155) dX8_layCut_153 rfl rfl ?_
    refine ev_aload_n (pc' := 156) (i := 0) dX8_layCut_155 rfl rfl rfl ?_
    refine ev_getR (pc' := 159) fo_X8_55 dX8_layCut_156 rfl hs_115 rfl rf_115_20 ?_
    refine ev_iconst (pc' := 160) (v := 4) dX8_layCut_159 rfl ki_4 ?_
    refine ev_iload (pc' := 162) dX8_layCut_160 rfl rfl ?_
    refine ev_imul (pc' := 163) (v := 4) dX8_layCut_162 rfl (by decide) ?_
    refine ev_iload (pc' := 165) dX8_layCut_163 rfl rfl ?_
    refine ev_iadd (pc' := 166) (v := 7) dX8_layCut_165 rfl (by decide) ?_
    refine ev_iald (pc' := 167) (j := 7) (v := 0) dX8_layCut_166 rfl hs_129 rfl (Nat.le_of_ble_eq_true rfl) (Nat.le_of_ble_eq_true rfl) rfl ?_
    refine ev_iast (pc' := 168) (j := 3) (I' := (ma_up (ma_up (ma_up I 129 (ma_up (ma_up (ma_up (ma_up (ma_up (ma_up (ma_up (ma_up (ma_up (ma_up (ma_up (ma_up (I 129) 0 (-((I 126) 1))) 1 ((I 126) 0)) 2 0) 3 0) 4 (-((I 126) 2))) 5 0) 6 ((I 126) 0)) 7 0) 8 (-((I 126) 3))) 9 0) 10 0) 11 ((I 126) 0))) 130 (ma_up (ma_up (ma_up (ma_up (I 130) 0 (-((I 126) 1))) 1 ((I 126) 0)) 2 0) 3 0)) 131 (ma_up (ma_up (ma_up (ma_up (I 131) 0 (-((I 126) 2))) 1 0) 2 ((I 126) 0)) 3 0))) dX8_layCut_167 rfl hs_131 rfl (Nat.le_of_ble_eq_true rfl) (Nat.le_of_ble_eq_true rfl) ((congrArg (ma_up _ 131) (ma_up_up _ _ _ _)).trans (ma_up_up _ _ _ _)) ?_
    refine ev_iinc (pc' := 171) (v := 4) (lv' := [some (.ref 115), some (.int (nI q)), some (.int 0), some (.int 3), some (.int 0), some (.int 1), some (.int 4)]) dX8_layCut_168 rfl rfl (by decide) (Nat.le_of_ble_eq_true rfl) rfl rfl ?_
    refine ev_goto (tgt := 124) dX8_layCut_171 rfl ?_
    refine ev_iload (pc' := 126) dX8_layCut_124 rfl rfl ?_
    refine ev_iconst (pc' := 127) (v := 4) dX8_layCut_126 rfl ki_4 ?_
    refine ev_icmp_ge (tgt := 174) (pc' := 130) dX8_layCut_127 rfl rfl (fun _ => ?_) (fun h => absurd (by decide) h)
    refine ev_aload_n (pc' := 175) (i := 0) dX8_layCut_174 rfl rfl rfl ?_
    refine ev_getR (pc' := 178) fo_X8_26 dX8_layCut_175 rfl hs_115 rfl rf_115_8 ?_
    refine ev_iconst (pc' := 179) (v := 4) dX8_layCut_178 rfl ki_4 ?_
    refine ev_iload (pc' := 181) dX8_layCut_179 rfl rfl ?_
    refine ev_imul (pc' := 182) (v := 0) dX8_layCut_181 rfl (by decide) ?_
    refine ev_iload (pc' := 184) dX8_layCut_182 rfl rfl ?_
    refine ev_iadd (pc' := 185) (v := 1) dX8_layCut_184 rfl (by decide) ?_
    refine ev_aload_n (pc' := 186) (i := 0) dX8_layCut_185 rfl rfl rfl ?_
    refine ev_iload_n (pc' := 187) (i := 1) dX8_layCut_186 rfl rfl rfl ?_
    refine ev_aload_n (pc' := 188) (i := 0) dX8_layCut_187 rfl rfl rfl ?_
    refine ev_getR (pc' := 191) fo_X8_58 dX8_layCut_188 rfl hs_115 rfl rf_115_21 ?_
    refine ev_aload_n (pc' := 192) (i := 0) dX8_layCut_191 rfl rfl rfl ?_
    refine ev_getR (pc' := 195) fo_X8_61 dX8_layCut_192 rfl hs_115 rfl rf_115_22 ?_
    refine ev_callV (pc' := 198) (rm' := rX8_both) (b := 115) (av := [.int (nI q), .ref 130, .ref 131]) (rest := [.int 1, .ref 120]) co_X8_241 ci_X8_both cv_X8_both dX8_layCut_195 rfl hs_115 hb_X8 rfl rfl (Nat.le_of_ble_eq_true rfl) ⟨(Nat.le_of_ble_eq_true rfl), (Nat.le_of_ble_eq_true rfl)⟩ ⟨(Nat.le_of_ble_eq_true rfl), (Nat.le_of_ble_eq_true rfl)⟩ ?_
    refine t_X8_both q 130 131 hq hs_130 hs_131 ?_
    refine ev_eqi (w := mBo (I 123) (mSn 0 (I 126) 0) (mSn 0 (I 126) 1) q) rfl ?_
    refine ev_i2l (pc' := 199) (v := Int32.toInt64 (mBo (I 123) (mSn 0 (I 126) 0) (mSn 0 (I 126) 1) q)) dX8_layCut_198 rfl rfl ?_
    refine ev_last (pc' := 200) (j := 1) (L' := (ma_up L 120 (ma_up (ma_up (L 120) 0 (Int32.toInt64 (mBo (I 123) (mSn 0 (I 126) 0) (mSn 0 (I 126) 0) q))) 1 (Int32.toInt64 (mBo (I 123) (mSn 0 (I 126) 0) (mSn 0 (I 126) 1) q))))) dX8_layCut_199 rfl hs_120 rfl (Nat.le_of_ble_eq_true rfl) (Nat.le_of_ble_eq_true rfl) (ma_up_up _ _ _ _) ?_
    refine ev_iinc (pc' := 203) (v := 2) (lv' := [some (.ref 115), some (.int (nI q)), some (.int 0), some (.int 3), some (.int 0), some (.int 2), some (.int 4)]) dX8_layCut_200 rfl rfl (by decide) (Nat.le_of_ble_eq_true rfl) rfl rfl ?_
    refine ev_goto (tgt := 115) dX8_layCut_203 rfl ?_
    refine ev_iload (pc' := 117) dX8_layCut_115 rfl rfl ?_
    refine ev_iconst (pc' := 118) (v := 3) dX8_layCut_117 rfl ki_3 ?_
    refine ev_icmp_ge (tgt := 206) (pc' := 121) dX8_layCut_118 rfl rfl (fun h => absurd h (by decide)) (fun _ => ?_)
    refine ev_iconst (pc' := 122) (v := 0) dX8_layCut_121 rfl ki_0 ?_
    refine ev_istore (pc' := 124) (lv' := [some (.ref 115), some (.int (nI q)), some (.int 0), some (.int 3), some (.int 0), some (.int 2), some (.int 0)]) dX8_layCut_122 rfl (Nat.le_of_ble_eq_true rfl) rfl rfl ?_
    refine ev_iload (pc' := 126) dX8_layCut_124 rfl rfl ?_
    refine ev_iconst (pc' := 127) (v := 4) dX8_layCut_126 rfl ki_4 ?_
    refine ev_icmp_ge (tgt := 174) (pc' := 130) dX8_layCut_127 rfl rfl (fun h => absurd h (by decide)) (fun _ => ?_)
    refine ev_aload_n (pc' := 131) (i := 0) dX8_layCut_130 rfl rfl rfl ?_
    refine ev_getR (pc' := 134) fo_X8_58 dX8_layCut_131 rfl hs_115 rfl rf_115_21 ?_
    refine ev_iload (pc' := 136) dX8_layCut_134 rfl rfl ?_
    refine ev_aload_n (pc' := 137) (i := 0) dX8_layCut_136 rfl rfl rfl ?_
    refine ev_getR (pc' := 140) fo_X8_55 dX8_layCut_137 rfl hs_115 rfl rf_115_20 ?_
    refine ev_iconst (pc' := 141) (v := 4) dX8_layCut_140 rfl ki_4 ?_
    refine ev_iload (pc' := 143) dX8_layCut_141 rfl rfl ?_
    refine ev_imul (pc' := 144) (v := 0) dX8_layCut_143 rfl (by decide) ?_
    refine ev_iload (pc' := 146) dX8_layCut_144 rfl rfl ?_
    refine ev_iadd (pc' := 147) (v := 0) dX8_layCut_146 rfl (by decide) ?_
    refine ev_iald (pc' := 148) (j := 0) (v := -((I 126) 1)) dX8_layCut_147 rfl hs_129 rfl (Nat.le_of_ble_eq_true rfl) (Nat.le_of_ble_eq_true rfl) rfl ?_
    refine ev_iast (pc' := 149) (j := 0) (I' := (ma_up (ma_up (ma_up I 129 (ma_up (ma_up (ma_up (ma_up (ma_up (ma_up (ma_up (ma_up (ma_up (ma_up (ma_up (ma_up (I 129) 0 (-((I 126) 1))) 1 ((I 126) 0)) 2 0) 3 0) 4 (-((I 126) 2))) 5 0) 6 ((I 126) 0)) 7 0) 8 (-((I 126) 3))) 9 0) 10 0) 11 ((I 126) 0))) 130 (ma_up (ma_up (ma_up (ma_up (I 130) 0 (-((I 126) 1))) 1 ((I 126) 0)) 2 0) 3 0)) 131 (ma_up (ma_up (ma_up (ma_up (I 131) 0 (-((I 126) 2))) 1 0) 2 ((I 126) 0)) 3 0))) dX8_layCut_148 rfl hs_130 rfl (Nat.le_of_ble_eq_true rfl) (Nat.le_of_ble_eq_true rfl) ((congrArg (ma_up _ 130) ((ma_up_comm _ (show 0 ≠ 3 from (by decide)) _ _).trans (congrArg (fun f => ma_up f 3 _) ((ma_up_comm _ (show 0 ≠ 2 from (by decide)) _ _).trans (congrArg (fun f => ma_up f 2 _) ((ma_up_comm _ (show 0 ≠ 1 from (by decide)) _ _).trans (congrArg (fun f => ma_up f 1 _) (ma_up_up _ _ _ _)))))))).trans ((ma_up_comm _ (show 130 ≠ 131 from (by decide)) _ _).trans (congrArg (fun f => ma_up f 131 _) (ma_up_up _ _ _ _)))) ?_
    refine ev_aload_n (pc' := 150) (i := 0) dX8_layCut_149 rfl rfl rfl ?_
    refine ev_getR (pc' := 153) fo_X8_61 dX8_layCut_150 rfl hs_115 rfl rf_115_22 ?_
    refine ev_iload (pc' := 155) dX8_layCut_153 rfl rfl ?_
    refine ev_aload_n (pc' := 156) (i := 0) dX8_layCut_155 rfl rfl rfl ?_
    refine ev_getR (pc' := 159) fo_X8_55 dX8_layCut_156 rfl hs_115 rfl rf_115_20 ?_
    refine ev_iconst (pc' := 160) (v := 4) dX8_layCut_159 rfl ki_4 ?_
    refine ev_iload (pc' := 162) dX8_layCut_160 rfl rfl ?_
    refine ev_imul (pc' := 163) (v := 8) dX8_layCut_162 rfl (by decide) ?_
    refine ev_iload (pc' := 165) dX8_layCut_163 rfl rfl ?_
    refine ev_iadd (pc' := 166) (v := 8) dX8_layCut_165 rfl (by decide) ?_
    refine ev_iald (pc' := 167) (j := 8) (v := -((I 126) 3)) dX8_layCut_166 rfl hs_129 rfl (Nat.le_of_ble_eq_true rfl) (Nat.le_of_ble_eq_true rfl) rfl ?_
    refine ev_iast (pc' := 168) (j := 0) (I' := (ma_up (ma_up (ma_up I 129 (ma_up (ma_up (ma_up (ma_up (ma_up (ma_up (ma_up (ma_up (ma_up (ma_up (ma_up (ma_up (I 129) 0 (-((I 126) 1))) 1 ((I 126) 0)) 2 0) 3 0) 4 (-((I 126) 2))) 5 0) 6 ((I 126) 0)) 7 0) 8 (-((I 126) 3))) 9 0) 10 0) 11 ((I 126) 0))) 130 (ma_up (ma_up (ma_up (ma_up (I 130) 0 (-((I 126) 1))) 1 ((I 126) 0)) 2 0) 3 0)) 131 (ma_up (ma_up (ma_up (ma_up (I 131) 0 (-((I 126) 3))) 1 0) 2 ((I 126) 0)) 3 0))) dX8_layCut_167 rfl hs_131 rfl (Nat.le_of_ble_eq_true rfl) (Nat.le_of_ble_eq_true rfl) ((congrArg (ma_up _ 131) ((ma_up_comm _ (show 0 ≠ 3 from (by decide)) _ _).trans (congrArg (fun f => ma_up f 3 _) ((ma_up_comm _ (show 0 ≠ 2 from (by decide)) _ _).trans (congrArg (fun f => ma_up f 2 _) ((ma_up_comm _ (show 0 ≠ 1 from (by decide)) _ _).trans (congrArg (fun f => ma_up f 1 _) (ma_up_up _ _ _ _)))))))).trans (ma_up_up _ _ _ _)) ?_
    refine ev_iinc (pc' := 171) (v := 1) (lv' := [some (.ref 115), some (.int (nI q)), some (.int 0), some (.int 3), some (.int 0), some (.int 2), some (.int 1)]) dX8_layCut_168 rfl rfl (by decide) (Nat.le_of_ble_eq_true rfl) rfl rfl ?_
    refine ev_goto (tgt := 124) dX8_layCut_171 rfl ?_
    refine ev_iload (pc' := 126) dX8_layCut_124 rfl rfl ?_
    refine ev_iconst (pc' := 127) (v := 4) dX8_layCut_126 rfl ki_4 ?_
    refine ev_icmp_ge (tgt := 174) (pc' := 130) dX8_layCut_127 rfl rfl (fun h => absurd h (by decide)) (fun _ => ?_)
    refine ev_aload_n (pc' := 131) (i := 0) dX8_layCut_130 rfl rfl rfl ?_
    refine ev_getR (pc' := 134) fo_X8_58 dX8_layCut_131 rfl hs_115 rfl rf_115_21 ?_
    refine ev_iload (pc' := 136) dX8_layCut_134 rfl rfl ?_
    refine ev_aload_n (pc' := 137) (i := 0) dX8_layCut_136 rfl rfl rfl ?_
    refine ev_getR (pc' := 140) fo_X8_55 dX8_layCut_137 rfl hs_115 rfl rf_115_20 ?_
    refine ev_iconst (pc' := 141) (v := 4) dX8_layCut_140 rfl ki_4 ?_
    refine ev_iload (pc' := 143) dX8_layCut_141 rfl rfl ?_
    refine ev_imul (pc' := 144) (v := 0) dX8_layCut_143 rfl (by decide) ?_
    refine ev_iload (pc' := 146) dX8_layCut_144 rfl rfl ?_
    refine ev_iadd (pc' := 147) (v := 1) dX8_layCut_146 rfl (by decide) ?_
    refine ev_iald (pc' := 148) (j := 1) (v := (I 126) 0) dX8_layCut_147 rfl hs_129 rfl (Nat.le_of_ble_eq_true rfl) (Nat.le_of_ble_eq_true rfl) rfl ?_
    refine ev_iast (pc' := 149) (j := 1) (I' := (ma_up (ma_up (ma_up I 129 (ma_up (ma_up (ma_up (ma_up (ma_up (ma_up (ma_up (ma_up (ma_up (ma_up (ma_up (ma_up (I 129) 0 (-((I 126) 1))) 1 ((I 126) 0)) 2 0) 3 0) 4 (-((I 126) 2))) 5 0) 6 ((I 126) 0)) 7 0) 8 (-((I 126) 3))) 9 0) 10 0) 11 ((I 126) 0))) 130 (ma_up (ma_up (ma_up (ma_up (I 130) 0 (-((I 126) 1))) 1 ((I 126) 0)) 2 0) 3 0)) 131 (ma_up (ma_up (ma_up (ma_up (I 131) 0 (-((I 126) 3))) 1 0) 2 ((I 126) 0)) 3 0))) dX8_layCut_148 rfl hs_130 rfl (Nat.le_of_ble_eq_true rfl) (Nat.le_of_ble_eq_true rfl) ((congrArg (ma_up _ 130) ((ma_up_comm _ (show 1 ≠ 3 from (by decide)) _ _).trans (congrArg (fun f => ma_up f 3 _) ((ma_up_comm _ (show 1 ≠ 2 from (by decide)) _ _).trans (congrArg (fun f => ma_up f 2 _) (ma_up_up _ _ _ _)))))).trans ((ma_up_comm _ (show 130 ≠ 131 from (by decide)) _ _).trans (congrArg (fun f => ma_up f 131 _) (ma_up_up _ _ _ _)))) ?_
    refine ev_aload_n (pc' := 150) (i := 0) dX8_layCut_149 rfl rfl rfl ?_
    refine ev_getR (pc' := 153) fo_X8_61 dX8_layCut_150 rfl hs_115 rfl rf_115_22 ?_
    refine ev_iload (pc' := 155) dX8_layCut_153 rfl rfl ?_
    refine ev_aload_n (pc' := 156) (i := 0) dX8_layCut_155 rfl rfl rfl ?_
    refine ev_getR (pc' := 159) fo_X8_55 dX8_layCut_156 rfl hs_115 rfl rf_115_20 ?_
    refine ev_iconst (pc' := 160) (v := 4) dX8_layCut_159 rfl ki_4 ?_
    refine ev_iload (pc' := 162) dX8_layCut_160 rfl rfl ?_
    refine ev_imul (pc' := 163) (v := 8) dX8_layCut_162 rfl (by decide) ?_
    refine ev_iload (pc' := 165) dX8_layCut_163 rfl rfl ?_
    refine ev_iadd (pc' := 166) (v := 9) dX8_layCut_165 rfl (by decide) ?_
    refine ev_iald (pc' := 167) (j := 9) (v := 0) dX8_layCut_166 rfl hs_129 rfl (Nat.le_of_ble_eq_true rfl) (Nat.le_of_ble_eq_true rfl) rfl ?_
    refine ev_iast (pc' := 168) (j := 1) (I' := (ma_up (ma_up (ma_up I 129 (ma_up (ma_up (ma_up (ma_up (ma_up (ma_up (ma_up (ma_up (ma_up (ma_up (ma_up (ma_up (I 129) 0 (-((I 126) 1))) 1 ((I 126) 0)) 2 0) 3 0) 4 (-((I 126) 2))) 5 0) 6 ((I 126) 0)) 7 0) 8 (-((I 126) 3))) 9 0) 10 0) 11 ((I 126) 0))) 130 (ma_up (ma_up (ma_up (ma_up (I 130) 0 (-((I 126) 1))) 1 ((I 126) 0)) 2 0) 3 0)) 131 (ma_up (ma_up (ma_up (ma_up (I 131) 0 (-((I 126) 3))) 1 0) 2 ((I 126) 0)) 3 0))) dX8_layCut_167 rfl hs_131 rfl (Nat.le_of_ble_eq_true rfl) (Nat.le_of_ble_eq_true rfl) ((congrArg (ma_up _ 131) ((ma_up_comm _ (show 1 ≠ 3 from (by decide)) _ _).trans (congrArg (fun f => ma_up f 3 _) ((ma_up_comm _ (show 1 ≠ 2 from (by decide)) _ _).trans (congrArg (fun f => ma_up f 2 _) (ma_up_up _ _ _ _)))))).trans (ma_up_up _ _ _ _)) ?_
    refine ev_iinc (pc' := 171) (v := 2) (lv' := [some (.ref 115), some (.int (nI q)), some (.int 0), some (.int 3), some (.int 0), some (.int 2), some (.int 2)]) dX8_layCut_168 rfl rfl (by decide) (Nat.le_of_ble_eq_true rfl) rfl rfl ?_
    refine ev_goto (tgt := 124) dX8_layCut_171 rfl ?_
    refine ev_iload (pc' := 126) dX8_layCut_124 rfl rfl ?_
    refine ev_iconst (pc' := 127) (v := 4) dX8_layCut_126 rfl ki_4 ?_
    refine ev_icmp_ge (tgt := 174) (pc' := 130) dX8_layCut_127 rfl rfl (fun h => absurd h (by decide)) (fun _ => ?_)
    refine ev_aload_n (pc' := 131) (i := 0) dX8_layCut_130 rfl rfl rfl ?_
    refine ev_getR (pc' := 134) fo_X8_58 dX8_layCut_131 rfl hs_115 rfl rf_115_21 ?_
    refine ev_iload (pc' := 136) dX8_layCut_134 rfl rfl ?_
    refine ev_aload_n (pc' := 137) (i := 0) dX8_layCut_136 rfl rfl rfl ?_
    refine ev_getR (pc' := 140) fo_X8_55 dX8_layCut_137 rfl hs_115 rfl rf_115_20 ?_
    refine ev_iconst (pc' := 141) (v := 4) dX8_layCut_140 rfl ki_4 ?_
    refine ev_iload (pc' := 143) dX8_layCut_141 rfl rfl ?_
    refine ev_imul (pc' := 144) (v := 0) dX8_layCut_143 rfl (by decide) ?_
    refine ev_iload (pc' := 146) dX8_layCut_144 rfl rfl ?_
    refine ev_iadd (pc' := 147) (v := 2) dX8_layCut_146 rfl (by decide) ?_
    refine ev_iald (pc' := 148) (j := 2) (v := 0) dX8_layCut_147 rfl hs_129 rfl (Nat.le_of_ble_eq_true rfl) (Nat.le_of_ble_eq_true rfl) rfl ?_
    refine ev_iast (pc' := 149) (j := 2) (I' := (ma_up (ma_up (ma_up I 129 (ma_up (ma_up (ma_up (ma_up (ma_up (ma_up (ma_up (ma_up (ma_up (ma_up (ma_up (ma_up (I 129) 0 (-((I 126) 1))) 1 ((I 126) 0)) 2 0) 3 0) 4 (-((I 126) 2))) 5 0) 6 ((I 126) 0)) 7 0) 8 (-((I 126) 3))) 9 0) 10 0) 11 ((I 126) 0))) 130 (ma_up (ma_up (ma_up (ma_up (I 130) 0 (-((I 126) 1))) 1 ((I 126) 0)) 2 0) 3 0)) 131 (ma_up (ma_up (ma_up (ma_up (I 131) 0 (-((I 126) 3))) 1 0) 2 ((I 126) 0)) 3 0))) dX8_layCut_148 rfl hs_130 rfl (Nat.le_of_ble_eq_true rfl) (Nat.le_of_ble_eq_true rfl) ((congrArg (ma_up _ 130) ((ma_up_comm _ (show 2 ≠ 3 from (by decide)) _ _).trans (congrArg (fun f => ma_up f 3 _) (ma_up_up _ _ _ _)))).trans ((ma_up_comm _ (show 130 ≠ 131 from (by decide)) _ _).trans (congrArg (fun f => ma_up f 131 _) (ma_up_up _ _ _ _)))) ?_
    refine ev_aload_n (pc' := 150) (i := 0) dX8_layCut_149 rfl rfl rfl ?_
    refine ev_getR (pc' := 153) fo_X8_61 dX8_layCut_150 rfl hs_115 rfl rf_115_22 ?_
    refine ev_iload (pc' := 155) dX8_layCut_153 rfl rfl ?_
    refine ev_aload_n (pc' := 156) (i := 0) dX8_layCut_155 rfl rfl rfl ?_
    refine ev_getR (pc' := 159) fo_X8_55 dX8_layCut_156 rfl hs_115 rfl rf_115_20 ?_
    refine ev_iconst (pc' := 160) (v := 4) dX8_layCut_159 rfl ki_4 ?_
    refine ev_iload (pc' := 162) dX8_layCut_160 rfl rfl ?_
    refine ev_imul (pc' := 163) (v := 8) dX8_layCut_162 rfl (by decide) ?_
    refine ev_iload (pc' := 165) dX8_layCut_163 rfl rfl ?_
    refine ev_iadd (pc' := 166) (v := 10) dX8_layCut_165 rfl (by decide) ?_
    refine ev_iald (pc' := 167) (j := 10) (v := 0) dX8_layCut_166 rfl hs_129 rfl (Nat.le_of_ble_eq_true rfl) (Nat.le_of_ble_eq_true rfl) rfl ?_
    refine ev_iast (pc' := 168) (j := 2) (I' := (ma_up (ma_up (ma_up I 129 (ma_up (ma_up (ma_up (ma_up (ma_up (ma_up (ma_up (ma_up (ma_up (ma_up (ma_up (ma_up (I 129) 0 (-((I 126) 1))) 1 ((I 126) 0)) 2 0) 3 0) 4 (-((I 126) 2))) 5 0) 6 ((I 126) 0)) 7 0) 8 (-((I 126) 3))) 9 0) 10 0) 11 ((I 126) 0))) 130 (ma_up (ma_up (ma_up (ma_up (I 130) 0 (-((I 126) 1))) 1 ((I 126) 0)) 2 0) 3 0)) 131 (ma_up (ma_up (ma_up (ma_up (I 131) 0 (-((I 126) 3))) 1 0) 2 0) 3 0))) dX8_layCut_167 rfl hs_131 rfl (Nat.le_of_ble_eq_true rfl) (Nat.le_of_ble_eq_true rfl) ((congrArg (ma_up _ 131) ((ma_up_comm _ (show 2 ≠ 3 from (by decide)) _ _).trans (congrArg (fun f => ma_up f 3 _) (ma_up_up _ _ _ _)))).trans (ma_up_up _ _ _ _)) ?_
    refine ev_iinc (pc' := 171) (v := 3) (lv' := [some (.ref 115), some (.int (nI q)), some (.int 0), some (.int 3), some (.int 0), some (.int 2), some (.int 3)]) dX8_layCut_168 rfl rfl (by decide) (Nat.le_of_ble_eq_true rfl) rfl rfl ?_
    refine ev_goto (tgt := 124) dX8_layCut_171 rfl ?_
    refine ev_iload (pc' := 126) dX8_layCut_124 rfl rfl ?_
    refine ev_iconst (pc' := 127) (v := 4) dX8_layCut_126 rfl ki_4 ?_
    refine ev_icmp_ge (tgt := 174) (pc' := 130) dX8_layCut_127 rfl rfl (fun h => absurd h (by decide)) (fun _ => ?_)
    refine ev_aload_n (pc' := 131) (i := 0) dX8_layCut_130 rfl rfl rfl ?_
    refine ev_getR (pc' := 134) fo_X8_58 dX8_layCut_131 rfl hs_115 rfl rf_115_21 ?_
    refine ev_iload (pc' := 136) dX8_layCut_134 rfl rfl ?_
    refine ev_aload_n (pc' := 137) (i := 0) dX8_layCut_136 rfl rfl rfl ?_
    refine ev_getR (pc' := 140) fo_X8_55 dX8_layCut_137 rfl hs_115 rfl rf_115_20 ?_
    refine ev_iconst (pc' := 141) (v := 4) dX8_layCut_140 rfl ki_4 ?_
    refine ev_iload (pc' := 143) dX8_layCut_141 rfl rfl ?_
    refine ev_imul (pc' := 144) (v := 0) dX8_layCut_143 rfl (by decide) ?_
    refine ev_iload (pc' := 146) dX8_layCut_144 rfl rfl ?_
    refine ev_iadd (pc' := 147) (v := 3) dX8_layCut_146 rfl (by decide) ?_
    refine ev_iald (pc' := 148) (j := 3) (v := 0) dX8_layCut_147 rfl hs_129 rfl (Nat.le_of_ble_eq_true rfl) (Nat.le_of_ble_eq_true rfl) rfl ?_
    refine ev_iast (pc' := 149) (j := 3) (I' := (ma_up (ma_up (ma_up I 129 (ma_up (ma_up (ma_up (ma_up (ma_up (ma_up (ma_up (ma_up (ma_up (ma_up (ma_up (ma_up (I 129) 0 (-((I 126) 1))) 1 ((I 126) 0)) 2 0) 3 0) 4 (-((I 126) 2))) 5 0) 6 ((I 126) 0)) 7 0) 8 (-((I 126) 3))) 9 0) 10 0) 11 ((I 126) 0))) 130 (ma_up (ma_up (ma_up (ma_up (I 130) 0 (-((I 126) 1))) 1 ((I 126) 0)) 2 0) 3 0)) 131 (ma_up (ma_up (ma_up (ma_up (I 131) 0 (-((I 126) 3))) 1 0) 2 0) 3 0))) dX8_layCut_148 rfl hs_130 rfl (Nat.le_of_ble_eq_true rfl) (Nat.le_of_ble_eq_true rfl) ((congrArg (ma_up _ 130) (ma_up_up _ _ _ _)).trans ((ma_up_comm _ (show 130 ≠ 131 from (by decide)) _ _).trans (congrArg (fun f => ma_up f 131 _) (ma_up_up _ _ _ _)))) ?_
    refine ev_aload_n (pc' := 150) (i := 0) dX8_layCut_149 rfl rfl rfl ?_
    refine ev_getR (pc' := 153) fo_X8_61 dX8_layCut_150 rfl hs_115 rfl rf_115_22 ?_
    refine ev_iload (pc' := 155) dX8_layCut_153 rfl rfl ?_
    refine ev_aload_n (pc' := 156) (i := 0) dX8_layCut_155 rfl rfl rfl ?_
    refine ev_getR (pc' := 159) fo_X8_55 dX8_layCut_156 rfl hs_115 rfl rf_115_20 ?_
    refine ev_iconst (pc' := 160) (v := 4) dX8_layCut_159 rfl ki_4 ?_
    refine ev_iload (pc' := 162) dX8_layCut_160 rfl rfl ?_
    refine ev_imul (pc' := 163) (v := 8) dX8_layCut_162 rfl (by decide) ?_
    refine ev_iload (pc' := 165) dX8_layCut_163 rfl rfl ?_
    refine ev_iadd (pc' := 166) (v := 11) dX8_layCut_165 rfl (by decide) ?_
    refine ev_iald (pc' := 167) (j := 11) (v := (I 126) 0) dX8_layCut_166 rfl hs_129 rfl (Nat.le_of_ble_eq_true rfl) (Nat.le_of_ble_eq_true rfl) rfl ?_
    refine ev_iast (pc' := 168) (j := 3) (I' := (ma_up (ma_up (ma_up I 129 (ma_up (ma_up (ma_up (ma_up (ma_up (ma_up (ma_up (ma_up (ma_up (ma_up (ma_up (ma_up (I 129) 0 (-((I 126) 1))) 1 ((I 126) 0)) 2 0) 3 0) 4 (-((I 126) 2))) 5 0) 6 ((I 126) 0)) 7 0) 8 (-((I 126) 3))) 9 0) 10 0) 11 ((I 126) 0))) 130 (ma_up (ma_up (ma_up (ma_up (I 130) 0 (-((I 126) 1))) 1 ((I 126) 0)) 2 0) 3 0)) 131 (ma_up (ma_up (ma_up (ma_up (I 131) 0 (-((I 126) 3))) 1 0) 2 0) 3 ((I 126) 0)))) dX8_layCut_167 rfl hs_131 rfl (Nat.le_of_ble_eq_true rfl) (Nat.le_of_ble_eq_true rfl) ((congrArg (ma_up _ 131) (ma_up_up _ _ _ _)).trans (ma_up_up _ _ _ _)) ?_
    refine ev_iinc (pc' := 171) (v := 4) (lv' := [some (.ref 115), some (.int (nI q)), some (.int 0), some (.int 3), some (.int 0), some (.int 2), some (.int 4)]) dX8_layCut_168 rfl rfl (by decide) (Nat.le_of_ble_eq_true rfl) rfl rfl ?_
    refine ev_goto (tgt := 124) dX8_layCut_171 rfl ?_
    refine ev_iload (pc' := 126) dX8_layCut_124 rfl rfl ?_
    refine ev_iconst (pc' := 127) (v := 4) dX8_layCut_126 rfl ki_4 ?_
    refine ev_icmp_ge (tgt := 174) (pc' := 130) dX8_layCut_127 rfl rfl (fun _ => ?_) (fun h => absurd (by decide) h)
    refine ev_aload_n (pc' := 175) (i := 0) dX8_layCut_174 rfl rfl rfl ?_
    refine ev_getR (pc' := 178) fo_X8_26 dX8_layCut_175 rfl hs_115 rfl rf_115_8 ?_
    refine ev_iconst (pc' := 179) (v := 4) dX8_layCut_178 rfl ki_4 ?_
    refine ev_iload (pc' := 181) dX8_layCut_179 rfl rfl ?_
    refine ev_imul (pc' := 182) (v := 0) dX8_layCut_181 rfl (by decide) ?_
    refine ev_iload (pc' := 184) dX8_layCut_182 rfl rfl ?_
    refine ev_iadd (pc' := 185) (v := 2) dX8_layCut_184 rfl (by decide) ?_
    refine ev_aload_n (pc' := 186) (i := 0) dX8_layCut_185 rfl rfl rfl ?_
    refine ev_iload_n (pc' := 187) (i := 1) dX8_layCut_186 rfl rfl rfl ?_
    refine ev_aload_n (pc' := 188) (i := 0) dX8_layCut_187 rfl rfl rfl ?_
    refine ev_getR (pc' := 191) fo_X8_58 dX8_layCut_188 rfl hs_115 rfl rf_115_21 ?_
    refine ev_aload_n (pc' := 192) (i := 0) dX8_layCut_191 rfl rfl rfl ?_
    refine ev_getR (pc' := 195) fo_X8_61 dX8_layCut_192 rfl hs_115 rfl rf_115_22 ?_
    refine ev_callV (pc' := 198) (rm' := rX8_both) (b := 115) (av := [.int (nI q), .ref 130, .ref 131]) (rest := [.int 2, .ref 120]) co_X8_241 ci_X8_both cv_X8_both dX8_layCut_195 rfl hs_115 hb_X8 rfl rfl (Nat.le_of_ble_eq_true rfl) ⟨(Nat.le_of_ble_eq_true rfl), (Nat.le_of_ble_eq_true rfl)⟩ ⟨(Nat.le_of_ble_eq_true rfl), (Nat.le_of_ble_eq_true rfl)⟩ ?_
    refine t_X8_both q 130 131 hq hs_130 hs_131 ?_
    refine ev_eqi (w := mBo (I 123) (mSn 0 (I 126) 0) (mSn 0 (I 126) 2) q) rfl ?_
    refine ev_i2l (pc' := 199) (v := Int32.toInt64 (mBo (I 123) (mSn 0 (I 126) 0) (mSn 0 (I 126) 2) q)) dX8_layCut_198 rfl rfl ?_
    refine ev_last (pc' := 200) (j := 2) (L' := (ma_up L 120 (ma_up (ma_up (ma_up (L 120) 0 (Int32.toInt64 (mBo (I 123) (mSn 0 (I 126) 0) (mSn 0 (I 126) 0) q))) 1 (Int32.toInt64 (mBo (I 123) (mSn 0 (I 126) 0) (mSn 0 (I 126) 1) q))) 2 (Int32.toInt64 (mBo (I 123) (mSn 0 (I 126) 0) (mSn 0 (I 126) 2) q))))) dX8_layCut_199 rfl hs_120 rfl (Nat.le_of_ble_eq_true rfl) (Nat.le_of_ble_eq_true rfl) (ma_up_up _ _ _ _) ?_
    refine ev_iinc (pc' := 203) (v := 3) (lv' := [some (.ref 115), some (.int (nI q)), some (.int 0), some (.int 3), some (.int 0), some (.int 3), some (.int 4)]) dX8_layCut_200 rfl rfl (by decide) (Nat.le_of_ble_eq_true rfl) rfl rfl ?_
    refine ev_goto (tgt := 115) dX8_layCut_203 rfl ?_
    refine ev_iload (pc' := 117) dX8_layCut_115 rfl rfl ?_
    refine ev_iconst (pc' := 118) (v := 3) dX8_layCut_117 rfl ki_3 ?_
    refine ev_icmp_ge (tgt := 206) (pc' := 121) dX8_layCut_118 rfl rfl (fun _ => ?_) (fun h => absurd (by decide) h)
    refine ev_iinc (pc' := 209) (v := 1) (lv' := [some (.ref 115), some (.int (nI q)), some (.int 0), some (.int 3), some (.int 1), some (.int 3), some (.int 4)]) dX8_layCut_206 rfl rfl (by decide) (Nat.le_of_ble_eq_true rfl) rfl rfl ?_
    refine ev_goto (tgt := 106) dX8_layCut_209 rfl ?_
    refine ev_iload (pc' := 108) dX8_layCut_106 rfl rfl ?_
    refine ev_iconst (pc' := 109) (v := 3) dX8_layCut_108 rfl ki_3 ?_
    refine ev_icmp_ge (tgt := 212) (pc' := 112) dX8_layCut_109 rfl rfl (fun h => absurd h (by decide)) (fun _ => ?_)
    refine ev_iconst (pc' := 113) (v := 0) dX8_layCut_112 rfl ki_0 ?_
    refine ev_istore (pc' := 115) (lv' := [some (.ref 115), some (.int (nI q)), some (.int 0), some (.int 3), some (.int 1), some (.int 0), some (.int 4)]) dX8_layCut_113 rfl (Nat.le_of_ble_eq_true rfl) rfl rfl ?_
    refine ev_iload (pc' := 117) dX8_layCut_115 rfl rfl ?_
    refine ev_iconst (pc' := 118) (v := 3) dX8_layCut_117 rfl ki_3 ?_
    refine ev_icmp_ge (tgt := 206) (pc' := 121) dX8_layCut_118 rfl rfl (fun h => absurd h (by decide)) (fun _ => ?_)
    refine ev_iconst (pc' := 122) (v := 0) dX8_layCut_121 rfl ki_0 ?_
    refine ev_istore (pc' := 124) (lv' := [some (.ref 115), some (.int (nI q)), some (.int 0), some (.int 3), some (.int 1), some (.int 0), some (.int 0)]) dX8_layCut_122 rfl (Nat.le_of_ble_eq_true rfl) rfl rfl ?_
    refine ev_iload (pc' := 126) dX8_layCut_124 rfl rfl ?_
    refine ev_iconst (pc' := 127) (v := 4) dX8_layCut_126 rfl ki_4 ?_
    refine ev_icmp_ge (tgt := 174) (pc' := 130) dX8_layCut_127 rfl rfl (fun h => absurd h (by decide)) (fun _ => ?_)
    refine ev_aload_n (pc' := 131) (i := 0) dX8_layCut_130 rfl rfl rfl ?_
    refine ev_getR (pc' := 134) fo_X8_58 dX8_layCut_131 rfl hs_115 rfl rf_115_21 ?_
    refine ev_iload (pc' := 136) dX8_layCut_134 rfl rfl ?_
    refine ev_aload_n (pc' := 137) (i := 0) dX8_layCut_136 rfl rfl rfl ?_
    refine ev_getR (pc' := 140) fo_X8_55 dX8_layCut_137 rfl hs_115 rfl rf_115_20 ?_
    refine ev_iconst (pc' := 141) (v := 4) dX8_layCut_140 rfl ki_4 ?_
    refine ev_iload (pc' := 143) dX8_layCut_141 rfl rfl ?_
    refine ev_imul (pc' := 144) (v := 4) dX8_layCut_143 rfl (by decide) ?_
    refine ev_iload (pc' := 146) dX8_layCut_144 rfl rfl ?_
    refine ev_iadd (pc' := 147) (v := 4) dX8_layCut_146 rfl (by decide) ?_
    refine ev_iald (pc' := 148) (j := 4) (v := -((I 126) 2)) dX8_layCut_147 rfl hs_129 rfl (Nat.le_of_ble_eq_true rfl) (Nat.le_of_ble_eq_true rfl) rfl ?_
    refine ev_iast (pc' := 149) (j := 0) (I' := (ma_up (ma_up (ma_up I 129 (ma_up (ma_up (ma_up (ma_up (ma_up (ma_up (ma_up (ma_up (ma_up (ma_up (ma_up (ma_up (I 129) 0 (-((I 126) 1))) 1 ((I 126) 0)) 2 0) 3 0) 4 (-((I 126) 2))) 5 0) 6 ((I 126) 0)) 7 0) 8 (-((I 126) 3))) 9 0) 10 0) 11 ((I 126) 0))) 130 (ma_up (ma_up (ma_up (ma_up (I 130) 0 (-((I 126) 2))) 1 ((I 126) 0)) 2 0) 3 0)) 131 (ma_up (ma_up (ma_up (ma_up (I 131) 0 (-((I 126) 3))) 1 0) 2 0) 3 ((I 126) 0)))) dX8_layCut_148 rfl hs_130 rfl (Nat.le_of_ble_eq_true rfl) (Nat.le_of_ble_eq_true rfl) ((congrArg (ma_up _ 130) ((ma_up_comm _ (show 0 ≠ 3 from (by decide)) _ _).trans (congrArg (fun f => ma_up f 3 _) ((ma_up_comm _ (show 0 ≠ 2 from (by decide)) _ _).trans (congrArg (fun f => ma_up f 2 _) ((ma_up_comm _ (show 0 ≠ 1 from (by decide)) _ _).trans (congrArg (fun f => ma_up f 1 _) (ma_up_up _ _ _ _)))))))).trans ((ma_up_comm _ (show 130 ≠ 131 from (by decide)) _ _).trans (congrArg (fun f => ma_up f 131 _) (ma_up_up _ _ _ _)))) ?_
    refine ev_aload_n (pc' := 150) (i := 0) dX8_layCut_149 rfl rfl rfl ?_
    refine ev_getR (pc' := 153) fo_X8_61 dX8_layCut_150 rfl hs_115 rfl rf_115_22 ?_
    refine ev_iload (pc' := 155) dX8_layCut_153 rfl rfl ?_
    refine ev_aload_n (pc' := 156) (i := 0) dX8_layCut_155 rfl rfl rfl ?_
    refine ev_getR (pc' := 159) fo_X8_55 dX8_layCut_156 rfl hs_115 rfl rf_115_20 ?_
    refine ev_iconst (pc' := 160) (v := 4) dX8_layCut_159 rfl ki_4 ?_
    refine ev_iload (pc' := 162) dX8_layCut_160 rfl rfl ?_
    refine ev_imul (pc' := 163) (v := 0) dX8_layCut_162 rfl (by decide) ?_
    refine ev_iload (pc' := 165) dX8_layCut_163 rfl rfl ?_
    refine ev_iadd (pc' := 166) (v := 0) dX8_layCut_165 rfl (by decide) ?_
    refine ev_iald (pc' := 167) (j := 0) (v := -((I 126) 1)) dX8_layCut_166 rfl hs_129 rfl (Nat.le_of_ble_eq_true rfl) (Nat.le_of_ble_eq_true rfl) rfl ?_
    refine ev_iast (pc' := 168) (j := 0) (I' := (ma_up (ma_up (ma_up I 129 (ma_up (ma_up (ma_up (ma_up (ma_up (ma_up (ma_up (ma_up (ma_up (ma_up (ma_up (ma_up (I 129) 0 (-((I 126) 1))) 1 ((I 126) 0)) 2 0) 3 0) 4 (-((I 126) 2))) 5 0) 6 ((I 126) 0)) 7 0) 8 (-((I 126) 3))) 9 0) 10 0) 11 ((I 126) 0))) 130 (ma_up (ma_up (ma_up (ma_up (I 130) 0 (-((I 126) 2))) 1 ((I 126) 0)) 2 0) 3 0)) 131 (ma_up (ma_up (ma_up (ma_up (I 131) 0 (-((I 126) 1))) 1 0) 2 0) 3 ((I 126) 0)))) dX8_layCut_167 rfl hs_131 rfl (Nat.le_of_ble_eq_true rfl) (Nat.le_of_ble_eq_true rfl) ((congrArg (ma_up _ 131) ((ma_up_comm _ (show 0 ≠ 3 from (by decide)) _ _).trans (congrArg (fun f => ma_up f 3 _) ((ma_up_comm _ (show 0 ≠ 2 from (by decide)) _ _).trans (congrArg (fun f => ma_up f 2 _) ((ma_up_comm _ (show 0 ≠ 1 from (by decide)) _ _).trans (congrArg (fun f => ma_up f 1 _) (ma_up_up _ _ _ _)))))))).trans (ma_up_up _ _ _ _)) ?_
    refine ev_iinc (pc' := 171) (v := 1) (lv' := [some (.ref 115), some (.int (nI q)), some (.int 0), some (.int 3), some (.int 1), some (.int 0), some (.int 1)]) dX8_layCut_168 rfl rfl (by decide) (Nat.le_of_ble_eq_true rfl) rfl rfl ?_
    refine ev_goto (tgt := 124) dX8_layCut_171 rfl ?_
    refine ev_iload (pc' := 126) dX8_layCut_124 rfl rfl ?_
    refine ev_iconst (pc' := 127) (v := 4) dX8_layCut_126 rfl ki_4 ?_
    refine ev_icmp_ge (tgt := 174) (pc' := 130) dX8_layCut_127 rfl rfl (fun h => absurd h (by decide)) (fun _ => ?_)
    refine ev_aload_n (pc' := 131) (i := 0) dX8_layCut_130 rfl rfl rfl ?_
    refine ev_getR (pc' := 134) fo_X8_58 dX8_layCut_131 rfl hs_115 rfl rf_115_21 ?_
    refine ev_iload (pc' := 136) dX8_layCut_134 rfl rfl ?_
    refine ev_aload_n (pc' := 137) (i := 0) dX8_layCut_136 rfl rfl rfl ?_
    refine ev_getR (pc' := 140) fo_X8_55 dX8_layCut_137 rfl hs_115 rfl rf_115_20 ?_
    refine ev_iconst (pc' := 141) (v := 4) dX8_layCut_140 rfl ki_4 ?_
    refine ev_iload (pc' := 143) dX8_layCut_141 rfl rfl ?_
    refine ev_imul (pc' := 144) (v := 4) dX8_layCut_143 rfl (by decide) ?_
    refine ev_iload (pc' := 146) dX8_layCut_144 rfl rfl ?_
    refine ev_iadd (pc' := 147) (v := 5) dX8_layCut_146 rfl (by decide) ?_
    refine ev_iald (pc' := 148) (j := 5) (v := 0) dX8_layCut_147 rfl hs_129 rfl (Nat.le_of_ble_eq_true rfl) (Nat.le_of_ble_eq_true rfl) rfl ?_
    refine ev_iast (pc' := 149) (j := 1) (I' := (ma_up (ma_up (ma_up I 129 (ma_up (ma_up (ma_up (ma_up (ma_up (ma_up (ma_up (ma_up (ma_up (ma_up (ma_up (ma_up (I 129) 0 (-((I 126) 1))) 1 ((I 126) 0)) 2 0) 3 0) 4 (-((I 126) 2))) 5 0) 6 ((I 126) 0)) 7 0) 8 (-((I 126) 3))) 9 0) 10 0) 11 ((I 126) 0))) 130 (ma_up (ma_up (ma_up (ma_up (I 130) 0 (-((I 126) 2))) 1 0) 2 0) 3 0)) 131 (ma_up (ma_up (ma_up (ma_up (I 131) 0 (-((I 126) 1))) 1 0) 2 0) 3 ((I 126) 0)))) dX8_layCut_148 rfl hs_130 rfl (Nat.le_of_ble_eq_true rfl) (Nat.le_of_ble_eq_true rfl) ((congrArg (ma_up _ 130) ((ma_up_comm _ (show 1 ≠ 3 from (by decide)) _ _).trans (congrArg (fun f => ma_up f 3 _) ((ma_up_comm _ (show 1 ≠ 2 from (by decide)) _ _).trans (congrArg (fun f => ma_up f 2 _) (ma_up_up _ _ _ _)))))).trans ((ma_up_comm _ (show 130 ≠ 131 from (by decide)) _ _).trans (congrArg (fun f => ma_up f 131 _) (ma_up_up _ _ _ _)))) ?_
    refine ev_aload_n (pc' := 150) (i := 0) dX8_layCut_149 rfl rfl rfl ?_
    refine ev_getR (pc' := 153) fo_X8_61 dX8_layCut_150 rfl hs_115 rfl rf_115_22 ?_
    refine ev_iload (pc' := 155) dX8_layCut_153 rfl rfl ?_
    refine ev_aload_n (pc' := 156) (i := 0) dX8_layCut_155 rfl rfl rfl ?_
    refine ev_getR (pc' := 159) fo_X8_55 dX8_layCut_156 rfl hs_115 rfl rf_115_20 ?_
    refine ev_iconst (pc' := 160) (v := 4) dX8_layCut_159 rfl ki_4 ?_
    refine ev_iload (pc' := 162) dX8_layCut_160 rfl rfl ?_
    refine ev_imul (pc' := 163) (v := 0) dX8_layCut_162 rfl (by decide) ?_
    refine ev_iload (pc' := 165) dX8_layCut_163 rfl rfl ?_
    refine ev_iadd (pc' := 166) (v := 1) dX8_layCut_165 rfl (by decide) ?_
    refine ev_iald (pc' := 167) (j := 1) (v := (I 126) 0) dX8_layCut_166 rfl hs_129 rfl (Nat.le_of_ble_eq_true rfl) (Nat.le_of_ble_eq_true rfl) rfl ?_
    refine ev_iast (pc' := 168) (j := 1) (I' := (ma_up (ma_up (ma_up I 129 (ma_up (ma_up (ma_up (ma_up (ma_up (ma_up (ma_up (ma_up (ma_up (ma_up (ma_up (ma_up (I 129) 0 (-((I 126) 1))) 1 ((I 126) 0)) 2 0) 3 0) 4 (-((I 126) 2))) 5 0) 6 ((I 126) 0)) 7 0) 8 (-((I 126) 3))) 9 0) 10 0) 11 ((I 126) 0))) 130 (ma_up (ma_up (ma_up (ma_up (I 130) 0 (-((I 126) 2))) 1 0) 2 0) 3 0)) 131 (ma_up (ma_up (ma_up (ma_up (I 131) 0 (-((I 126) 1))) 1 ((I 126) 0)) 2 0) 3 ((I 126) 0)))) dX8_layCut_167 rfl hs_131 rfl (Nat.le_of_ble_eq_true rfl) (Nat.le_of_ble_eq_true rfl) ((congrArg (ma_up _ 131) ((ma_up_comm _ (show 1 ≠ 3 from (by decide)) _ _).trans (congrArg (fun f => ma_up f 3 _) ((ma_up_comm _ (show 1 ≠ 2 from (by decide)) _ _).trans (congrArg (fun f => ma_up f 2 _) (ma_up_up _ _ _ _)))))).trans (ma_up_up _ _ _ _)) ?_
    refine ev_iinc (pc' := 171) (v := 2) (lv' := [some (.ref 115), some (.int (nI q)), some (.int 0), some (.int 3), some (.int 1), some (.int 0), some (.int 2)]) dX8_layCut_168 rfl rfl (by decide) (Nat.le_of_ble_eq_true rfl) rfl rfl ?_
    refine ev_goto (tgt := 124) dX8_layCut_171 rfl ?_
    refine ev_iload (pc' := 126) dX8_layCut_124 rfl rfl ?_
    refine ev_iconst (pc' := 127) (v := 4) dX8_layCut_126 rfl ki_4 ?_
    refine ev_icmp_ge (tgt := 174) (pc' := 130) dX8_layCut_127 rfl rfl (fun h => absurd h (by decide)) (fun _ => ?_)
    refine ev_aload_n (pc' := 131) (i := 0) dX8_layCut_130 rfl rfl rfl ?_
    refine ev_getR (pc' := 134) fo_X8_58 dX8_layCut_131 rfl hs_115 rfl rf_115_21 ?_
    refine ev_iload (pc' := 136) dX8_layCut_134 rfl rfl ?_
    refine ev_aload_n (pc' := 137) (i := 0) dX8_layCut_136 rfl rfl rfl ?_
    refine ev_getR (pc' := 140) fo_X8_55 dX8_layCut_137 rfl hs_115 rfl rf_115_20 ?_
    refine ev_iconst (pc' := 141) (v := 4) dX8_layCut_140 rfl ki_4 ?_
    refine ev_iload (pc' := 143) dX8_layCut_141 rfl rfl ?_
    refine ev_imul (pc' := 144) (v := 4) dX8_layCut_143 rfl (by decide) ?_
    refine ev_iload (pc' := 146) dX8_layCut_144 rfl rfl ?_
    refine ev_iadd (pc' := 147) (v := 6) dX8_layCut_146 rfl (by decide) ?_
    refine ev_iald (pc' := 148) (j := 6) (v := (I 126) 0) dX8_layCut_147 rfl hs_129 rfl (Nat.le_of_ble_eq_true rfl) (Nat.le_of_ble_eq_true rfl) rfl ?_
    refine ev_iast (pc' := 149) (j := 2) (I' := (ma_up (ma_up (ma_up I 129 (ma_up (ma_up (ma_up (ma_up (ma_up (ma_up (ma_up (ma_up (ma_up (ma_up (ma_up (ma_up (I 129) 0 (-((I 126) 1))) 1 ((I 126) 0)) 2 0) 3 0) 4 (-((I 126) 2))) 5 0) 6 ((I 126) 0)) 7 0) 8 (-((I 126) 3))) 9 0) 10 0) 11 ((I 126) 0))) 130 (ma_up (ma_up (ma_up (ma_up (I 130) 0 (-((I 126) 2))) 1 0) 2 ((I 126) 0)) 3 0)) 131 (ma_up (ma_up (ma_up (ma_up (I 131) 0 (-((I 126) 1))) 1 ((I 126) 0)) 2 0) 3 ((I 126) 0)))) dX8_layCut_148 rfl hs_130 rfl (Nat.le_of_ble_eq_true rfl) (Nat.le_of_ble_eq_true rfl) ((congrArg (ma_up _ 130) ((ma_up_comm _ (show 2 ≠ 3 from (by decide)) _ _).trans (congrArg (fun f => ma_up f 3 _) (ma_up_up _ _ _ _)))).trans ((ma_up_comm _ (show 130 ≠ 131 from (by decide)) _ _).trans (congrArg (fun f => ma_up f 131 _) (ma_up_up _ _ _ _)))) ?_
    refine ev_aload_n (pc' := 150) (i := 0) dX8_layCut_149 rfl rfl rfl ?_
    refine ev_getR (pc' := 153) fo_X8_61 dX8_layCut_150 rfl hs_115 rfl rf_115_22 ?_
    refine ev_iload (pc' := 155) dX8_layCut_153 rfl rfl ?_
    refine ev_aload_n (pc' := 156) (i := 0) dX8_layCut_155 rfl rfl rfl ?_
    refine ev_getR (pc' := 159) fo_X8_55 dX8_layCut_156 rfl hs_115 rfl rf_115_20 ?_
    refine ev_iconst (pc' := 160) (v := 4) dX8_layCut_159 rfl ki_4 ?_
    refine ev_iload (pc' := 162) dX8_layCut_160 rfl rfl ?_
    refine ev_imul (pc' := 163) (v := 0) dX8_layCut_162 rfl (by decide) ?_
    refine ev_iload (pc' := 165) dX8_layCut_163 rfl rfl ?_
    refine ev_iadd (pc' := 166) (v := 2) dX8_layCut_165 rfl (by decide) ?_
    refine ev_iald (pc' := 167) (j := 2) (v := 0) dX8_layCut_166 rfl hs_129 rfl (Nat.le_of_ble_eq_true rfl) (Nat.le_of_ble_eq_true rfl) rfl ?_
    refine ev_iast (pc' := 168) (j := 2) (I' := (ma_up (ma_up (ma_up I 129 (ma_up (ma_up (ma_up (ma_up (ma_up (ma_up (ma_up (ma_up (ma_up (ma_up (ma_up (ma_up (I 129) 0 (-((I 126) 1))) 1 ((I 126) 0)) 2 0) 3 0) 4 (-((I 126) 2))) 5 0) 6 ((I 126) 0)) 7 0) 8 (-((I 126) 3))) 9 0) 10 0) 11 ((I 126) 0))) 130 (ma_up (ma_up (ma_up (ma_up (I 130) 0 (-((I 126) 2))) 1 0) 2 ((I 126) 0)) 3 0)) 131 (ma_up (ma_up (ma_up (ma_up (I 131) 0 (-((I 126) 1))) 1 ((I 126) 0)) 2 0) 3 ((I 126) 0)))) dX8_layCut_167 rfl hs_131 rfl (Nat.le_of_ble_eq_true rfl) (Nat.le_of_ble_eq_true rfl) ((congrArg (ma_up _ 131) ((ma_up_comm _ (show 2 ≠ 3 from (by decide)) _ _).trans (congrArg (fun f => ma_up f 3 _) (ma_up_up _ _ _ _)))).trans (ma_up_up _ _ _ _)) ?_
    refine ev_iinc (pc' := 171) (v := 3) (lv' := [some (.ref 115), some (.int (nI q)), some (.int 0), some (.int 3), some (.int 1), some (.int 0), some (.int 3)]) dX8_layCut_168 rfl rfl (by decide) (Nat.le_of_ble_eq_true rfl) rfl rfl ?_
    refine ev_goto (tgt := 124) dX8_layCut_171 rfl ?_
    refine ev_iload (pc' := 126) dX8_layCut_124 rfl rfl ?_
    refine ev_iconst (pc' := 127) (v := 4) dX8_layCut_126 rfl ki_4 ?_
    refine ev_icmp_ge (tgt := 174) (pc' := 130) dX8_layCut_127 rfl rfl (fun h => absurd h (by decide)) (fun _ => ?_)
    refine ev_aload_n (pc' := 131) (i := 0) dX8_layCut_130 rfl rfl rfl ?_
    refine ev_getR (pc' := 134) fo_X8_58 dX8_layCut_131 rfl hs_115 rfl rf_115_21 ?_
    refine ev_iload (pc' := 136) dX8_layCut_134 rfl rfl ?_
    refine ev_aload_n (pc' := 137) (i := 0) dX8_layCut_136 rfl rfl rfl ?_
    refine ev_getR (pc' := 140) fo_X8_55 dX8_layCut_137 rfl hs_115 rfl rf_115_20 ?_
    refine ev_iconst (pc' := 141) (v := 4) dX8_layCut_140 rfl ki_4 ?_
    refine ev_iload (pc' := 143) dX8_layCut_141 rfl rfl ?_
    refine ev_imul (pc' := 144) (v := 4) dX8_layCut_143 rfl (by decide) ?_
    refine ev_iload (pc' := 146) dX8_layCut_144 rfl rfl ?_
    refine ev_iadd (pc' := 147) (v := 7) dX8_layCut_146 rfl (by decide) ?_
    refine ev_iald (pc' := 148) (j := 7) (v := 0) dX8_layCut_147 rfl hs_129 rfl (Nat.le_of_ble_eq_true rfl) (Nat.le_of_ble_eq_true rfl) rfl ?_
    refine ev_iast (pc' := 149) (j := 3) (I' := (ma_up (ma_up (ma_up I 129 (ma_up (ma_up (ma_up (ma_up (ma_up (ma_up (ma_up (ma_up (ma_up (ma_up (ma_up (ma_up (I 129) 0 (-((I 126) 1))) 1 ((I 126) 0)) 2 0) 3 0) 4 (-((I 126) 2))) 5 0) 6 ((I 126) 0)) 7 0) 8 (-((I 126) 3))) 9 0) 10 0) 11 ((I 126) 0))) 130 (ma_up (ma_up (ma_up (ma_up (I 130) 0 (-((I 126) 2))) 1 0) 2 ((I 126) 0)) 3 0)) 131 (ma_up (ma_up (ma_up (ma_up (I 131) 0 (-((I 126) 1))) 1 ((I 126) 0)) 2 0) 3 ((I 126) 0)))) dX8_layCut_148 rfl hs_130 rfl (Nat.le_of_ble_eq_true rfl) (Nat.le_of_ble_eq_true rfl) ((congrArg (ma_up _ 130) (ma_up_up _ _ _ _)).trans ((ma_up_comm _ (show 130 ≠ 131 from (by decide)) _ _).trans (congrArg (fun f => ma_up f 131 _) (ma_up_up _ _ _ _)))) ?_
    refine ev_aload_n (pc' := 150) (i := 0) dX8_layCut_149 rfl rfl rfl ?_
    refine ev_getR (pc' := 153) fo_X8_61 dX8_layCut_150 rfl hs_115 rfl rf_115_22 ?_
    refine ev_iload (pc' := 155) dX8_layCut_153 rfl rfl ?_
    refine ev_aload_n (pc' := 156) (i := 0) dX8_layCut_155 rfl rfl rfl ?_
    refine ev_getR (pc' := 159) fo_X8_55 dX8_layCut_156 rfl hs_115 rfl rf_115_20 ?_
    refine ev_iconst (pc' := 160) (v := 4) dX8_layCut_159 rfl ki_4 ?_
    refine ev_iload (pc' := 162) dX8_layCut_160 rfl rfl ?_
    refine ev_imul (pc' := 163) (v := 0) dX8_layCut_162 rfl (by decide) ?_
    refine ev_iload (pc' := 165) dX8_layCut_163 rfl rfl ?_
    refine ev_iadd (pc' := 166) (v := 3) dX8_layCut_165 rfl (by decide) ?_
    refine ev_iald (pc' := 167) (j := 3) (v := 0) dX8_layCut_166 rfl hs_129 rfl (Nat.le_of_ble_eq_true rfl) (Nat.le_of_ble_eq_true rfl) rfl ?_
    refine ev_iast (pc' := 168) (j := 3) (I' := (ma_up (ma_up (ma_up I 129 (ma_up (ma_up (ma_up (ma_up (ma_up (ma_up (ma_up (ma_up (ma_up (ma_up (ma_up (ma_up (I 129) 0 (-((I 126) 1))) 1 ((I 126) 0)) 2 0) 3 0) 4 (-((I 126) 2))) 5 0) 6 ((I 126) 0)) 7 0) 8 (-((I 126) 3))) 9 0) 10 0) 11 ((I 126) 0))) 130 (ma_up (ma_up (ma_up (ma_up (I 130) 0 (-((I 126) 2))) 1 0) 2 ((I 126) 0)) 3 0)) 131 (ma_up (ma_up (ma_up (ma_up (I 131) 0 (-((I 126) 1))) 1 ((I 126) 0)) 2 0) 3 0))) dX8_layCut_167 rfl hs_131 rfl (Nat.le_of_ble_eq_true rfl) (Nat.le_of_ble_eq_true rfl) ((congrArg (ma_up _ 131) (ma_up_up _ _ _ _)).trans (ma_up_up _ _ _ _)) ?_
    refine ev_iinc (pc' := 171) (v := 4) (lv' := [some (.ref 115), some (.int (nI q)), some (.int 0), some (.int 3), some (.int 1), some (.int 0), some (.int 4)]) dX8_layCut_168 rfl rfl (by decide) (Nat.le_of_ble_eq_true rfl) rfl rfl ?_
    refine ev_goto (tgt := 124) dX8_layCut_171 rfl ?_
    refine ev_iload (pc' := 126) dX8_layCut_124 rfl rfl ?_
    refine ev_iconst (pc' := 127) (v := 4) dX8_layCut_126 rfl ki_4 ?_
    refine ev_icmp_ge (tgt := 174) (pc' := 130) dX8_layCut_127 rfl rfl (fun _ => ?_) (fun h => absurd (by decide) h)
    refine ev_aload_n (pc' := 175) (i := 0) dX8_layCut_174 rfl rfl rfl ?_
    refine ev_getR (pc' := 178) fo_X8_26 dX8_layCut_175 rfl hs_115 rfl rf_115_8 ?_
    refine ev_iconst (pc' := 179) (v := 4) dX8_layCut_178 rfl ki_4 ?_
    refine ev_iload (pc' := 181) dX8_layCut_179 rfl rfl ?_
    refine ev_imul (pc' := 182) (v := 4) dX8_layCut_181 rfl (by decide) ?_
    refine ev_iload (pc' := 184) dX8_layCut_182 rfl rfl ?_
    refine ev_iadd (pc' := 185) (v := 4) dX8_layCut_184 rfl (by decide) ?_
    refine ev_aload_n (pc' := 186) (i := 0) dX8_layCut_185 rfl rfl rfl ?_
    refine ev_iload_n (pc' := 187) (i := 1) dX8_layCut_186 rfl rfl rfl ?_
    refine ev_aload_n (pc' := 188) (i := 0) dX8_layCut_187 rfl rfl rfl ?_
    refine ev_getR (pc' := 191) fo_X8_58 dX8_layCut_188 rfl hs_115 rfl rf_115_21 ?_
    refine ev_aload_n (pc' := 192) (i := 0) dX8_layCut_191 rfl rfl rfl ?_
    refine ev_getR (pc' := 195) fo_X8_61 dX8_layCut_192 rfl hs_115 rfl rf_115_22 ?_
    refine ev_callV (pc' := 198) (rm' := rX8_both) (b := 115) (av := [.int (nI q), .ref 130, .ref 131]) (rest := [.int 4, .ref 120]) co_X8_241 ci_X8_both cv_X8_both dX8_layCut_195 rfl hs_115 hb_X8 rfl rfl (Nat.le_of_ble_eq_true rfl) ⟨(Nat.le_of_ble_eq_true rfl), (Nat.le_of_ble_eq_true rfl)⟩ ⟨(Nat.le_of_ble_eq_true rfl), (Nat.le_of_ble_eq_true rfl)⟩ ?_
    refine t_X8_both q 130 131 hq hs_130 hs_131 ?_
    refine ev_eqi (w := mBo (I 123) (mSn 0 (I 126) 1) (mSn 0 (I 126) 0) q) rfl ?_
    refine ev_i2l (pc' := 199) (v := Int32.toInt64 (mBo (I 123) (mSn 0 (I 126) 1) (mSn 0 (I 126) 0) q)) dX8_layCut_198 rfl rfl ?_
    refine ev_last (pc' := 200) (j := 4) (L' := (ma_up L 120 (ma_up (ma_up (ma_up (ma_up (L 120) 0 (Int32.toInt64 (mBo (I 123) (mSn 0 (I 126) 0) (mSn 0 (I 126) 0) q))) 1 (Int32.toInt64 (mBo (I 123) (mSn 0 (I 126) 0) (mSn 0 (I 126) 1) q))) 2 (Int32.toInt64 (mBo (I 123) (mSn 0 (I 126) 0) (mSn 0 (I 126) 2) q))) 4 (Int32.toInt64 (mBo (I 123) (mSn 0 (I 126) 1) (mSn 0 (I 126) 0) q))))) dX8_layCut_199 rfl hs_120 rfl (Nat.le_of_ble_eq_true rfl) (Nat.le_of_ble_eq_true rfl) (ma_up_up _ _ _ _) ?_
    refine ev_iinc (pc' := 203) (v := 1) (lv' := [some (.ref 115), some (.int (nI q)), some (.int 0), some (.int 3), some (.int 1), some (.int 1), some (.int 4)]) dX8_layCut_200 rfl rfl (by decide) (Nat.le_of_ble_eq_true rfl) rfl rfl ?_
    refine ev_goto (tgt := 115) dX8_layCut_203 rfl ?_
    refine ev_iload (pc' := 117) dX8_layCut_115 rfl rfl ?_
    refine ev_iconst (pc' := 118) (v := 3) dX8_layCut_117 rfl ki_3 ?_
    refine ev_icmp_ge (tgt := 206) (pc' := 121) dX8_layCut_118 rfl rfl (fun h => absurd h (by decide)) (fun _ => ?_)
    refine ev_iconst (pc' := 122) (v := 0) dX8_layCut_121 rfl ki_0 ?_
    refine ev_istore (pc' := 124) (lv' := [some (.ref 115), some (.int (nI q)), some (.int 0), some (.int 3), some (.int 1), some (.int 1), some (.int 0)]) dX8_layCut_122 rfl (Nat.le_of_ble_eq_true rfl) rfl rfl ?_
    refine ev_iload (pc' := 126) dX8_layCut_124 rfl rfl ?_
    refine ev_iconst (pc' := 127) (v := 4) dX8_layCut_126 rfl ki_4 ?_
    refine ev_icmp_ge (tgt := 174) (pc' := 130) dX8_layCut_127 rfl rfl (fun h => absurd h (by decide)) (fun _ => ?_)
    refine ev_aload_n (pc' := 131) (i := 0) dX8_layCut_130 rfl rfl rfl ?_
    refine ev_getR (pc' := 134) fo_X8_58 dX8_layCut_131 rfl hs_115 rfl rf_115_21 ?_
    refine ev_iload (pc' := 136) dX8_layCut_134 rfl rfl ?_
    refine ev_aload_n (pc' := 137) (i := 0) dX8_layCut_136 rfl rfl rfl ?_
    refine ev_getR (pc' := 140) fo_X8_55 dX8_layCut_137 rfl hs_115 rfl rf_115_20 ?_
    refine ev_iconst (pc' := 141) (v := 4) dX8_layCut_140 rfl ki_4 ?_
    refine ev_iload (pc' := 143) dX8_layCut_141 rfl rfl ?_
    refine ev_imul (pc' := 144) (v := 4) dX8_layCut_143 rfl (by decide) ?_
    refine ev_iload (pc' := 146) dX8_layCut_144 rfl rfl ?_
    refine ev_iadd (pc' := 147) (v := 4) dX8_layCut_146 rfl (by decide) ?_
    refine ev_iald (pc' := 148) (j := 4) (v := -((I 126) 2)) dX8_layCut_147 rfl hs_129 rfl (Nat.le_of_ble_eq_true rfl) (Nat.le_of_ble_eq_true rfl) rfl ?_
    refine ev_iast (pc' := 149) (j := 0) (I' := (ma_up (ma_up (ma_up I 129 (ma_up (ma_up (ma_up (ma_up (ma_up (ma_up (ma_up (ma_up (ma_up (ma_up (ma_up (ma_up (I 129) 0 (-((I 126) 1))) 1 ((I 126) 0)) 2 0) 3 0) 4 (-((I 126) 2))) 5 0) 6 ((I 126) 0)) 7 0) 8 (-((I 126) 3))) 9 0) 10 0) 11 ((I 126) 0))) 130 (ma_up (ma_up (ma_up (ma_up (I 130) 0 (-((I 126) 2))) 1 0) 2 ((I 126) 0)) 3 0)) 131 (ma_up (ma_up (ma_up (ma_up (I 131) 0 (-((I 126) 1))) 1 ((I 126) 0)) 2 0) 3 0))) dX8_layCut_148 rfl hs_130 rfl (Nat.le_of_ble_eq_true rfl) (Nat.le_of_ble_eq_true rfl) ((congrArg (ma_up _ 130) ((ma_up_comm _ (show 0 ≠ 3 from (by decide)) _ _).trans (congrArg (fun f => ma_up f 3 _) ((ma_up_comm _ (show 0 ≠ 2 from (by decide)) _ _).trans (congrArg (fun f => ma_up f 2 _) ((ma_up_comm _ (show 0 ≠ 1 from (by decide)) _ _).trans (congrArg (fun f => ma_up f 1 _) (ma_up_up _ _ _ _)))))))).trans ((ma_up_comm _ (show 130 ≠ 131 from (by decide)) _ _).trans (congrArg (fun f => ma_up f 131 _) (ma_up_up _ _ _ _)))) ?_
    refine ev_aload_n (pc' := 150) (i := 0) dX8_layCut_149 rfl rfl rfl ?_
    refine ev_getR (pc' := 153) fo_X8_61 dX8_layCut_150 rfl hs_115 rfl rf_115_22 ?_
    refine ev_iload (pc' := 155) dX8_layCut_153 rfl rfl ?_
    refine ev_aload_n (pc' := 156) (i := 0) dX8_layCut_155 rfl rfl rfl ?_
    refine ev_getR (pc' := 159) fo_X8_55 dX8_layCut_156 rfl hs_115 rfl rf_115_20 ?_
    refine ev_iconst (pc' := 160) (v := 4) dX8_layCut_159 rfl ki_4 ?_
    refine ev_iload (pc' := 162) dX8_layCut_160 rfl rfl ?_
    refine ev_imul (pc' := 163) (v := 4) dX8_layCut_162 rfl (by decide) ?_
    refine ev_iload (pc' := 165) dX8_layCut_163 rfl rfl ?_
    refine ev_iadd (pc' := 166) (v := 4) dX8_layCut_165 rfl (by decide) ?_
    refine ev_iald (pc' := 167) (j := 4) (v := -((I 126) 2)) dX8_layCut_166 rfl hs_129 rfl (Nat.le_of_ble_eq_true rfl) (Nat.le_of_ble_eq_true rfl) rfl ?_
    refine ev_iast (pc' := 168) (j := 0) (I' := (ma_up (ma_up (ma_up I 129 (ma_up (ma_up (ma_up (ma_up (ma_up (ma_up (ma_up (ma_up (ma_up (ma_up (ma_up (ma_up (I 129) 0 (-((I 126) 1))) 1 ((I 126) 0)) 2 0) 3 0) 4 (-((I 126) 2))) 5 0) 6 ((I 126) 0)) 7 0) 8 (-((I 126) 3))) 9 0) 10 0) 11 ((I 126) 0))) 130 (ma_up (ma_up (ma_up (ma_up (I 130) 0 (-((I 126) 2))) 1 0) 2 ((I 126) 0)) 3 0)) 131 (ma_up (ma_up (ma_up (ma_up (I 131) 0 (-((I 126) 2))) 1 ((I 126) 0)) 2 0) 3 0))) dX8_layCut_167 rfl hs_131 rfl (Nat.le_of_ble_eq_true rfl) (Nat.le_of_ble_eq_true rfl) ((congrArg (ma_up _ 131) ((ma_up_comm _ (show 0 ≠ 3 from (by decide)) _ _).trans (congrArg (fun f => ma_up f 3 _) ((ma_up_comm _ (show 0 ≠ 2 from (by decide)) _ _).trans (congrArg (fun f => ma_up f 2 _) ((ma_up_comm _ (show 0 ≠ 1 from (by decide)) _ _).trans (congrArg (fun f => ma_up f 1 _) (ma_up_up _ _ _ _)))))))).trans (ma_up_up _ _ _ _)) ?_
    refine ev_iinc (pc' := 171) (v := 1) (lv' := [some (.ref 115), some (.int (nI q)), some (.int 0), some (.int 3), some (.int 1), some (.int 1), some (.int 1)]) dX8_layCut_168 rfl rfl (by decide) (Nat.le_of_ble_eq_true rfl) rfl rfl ?_
    refine ev_goto (tgt := 124) dX8_layCut_171 rfl ?_
    refine ev_iload (pc' := 126) dX8_layCut_124 rfl rfl ?_
    refine ev_iconst (pc' := 127) (v := 4) dX8_layCut_126 rfl ki_4 ?_
    refine ev_icmp_ge (tgt := 174) (pc' := 130) dX8_layCut_127 rfl rfl (fun h => absurd h (by decide)) (fun _ => ?_)
    refine ev_aload_n (pc' := 131) (i := 0) dX8_layCut_130 rfl rfl rfl ?_
    refine ev_getR (pc' := 134) fo_X8_58 dX8_layCut_131 rfl hs_115 rfl rf_115_21 ?_
    refine ev_iload (pc' := 136) dX8_layCut_134 rfl rfl ?_
    refine ev_aload_n (pc' := 137) (i := 0) dX8_layCut_136 rfl rfl rfl ?_
    refine ev_getR (pc' := 140) fo_X8_55 dX8_layCut_137 rfl hs_115 rfl rf_115_20 ?_
    refine ev_iconst (pc' := 141) (v := 4) dX8_layCut_140 rfl ki_4 ?_
    refine ev_iload (pc' := 143) dX8_layCut_141 rfl rfl ?_
    refine ev_imul (pc' := 144) (v := 4) dX8_layCut_143 rfl (by decide) ?_
    refine ev_iload (pc' := 146) dX8_layCut_144 rfl rfl ?_
    refine ev_iadd (pc' := 147) (v := 5) dX8_layCut_146 rfl (by decide) ?_
    refine ev_iald (pc' := 148) (j := 5) (v := 0) dX8_layCut_147 rfl hs_129 rfl (Nat.le_of_ble_eq_true rfl) (Nat.le_of_ble_eq_true rfl) rfl ?_
    refine ev_iast (pc' := 149) (j := 1) (I' := (ma_up (ma_up (ma_up I 129 (ma_up (ma_up (ma_up (ma_up (ma_up (ma_up (ma_up (ma_up (ma_up (ma_up (ma_up (ma_up (I 129) 0 (-((I 126) 1))) 1 ((I 126) 0)) 2 0) 3 0) 4 (-((I 126) 2))) 5 0) 6 ((I 126) 0)) 7 0) 8 (-((I 126) 3))) 9 0) 10 0) 11 ((I 126) 0))) 130 (ma_up (ma_up (ma_up (ma_up (I 130) 0 (-((I 126) 2))) 1 0) 2 ((I 126) 0)) 3 0)) 131 (ma_up (ma_up (ma_up (ma_up (I 131) 0 (-((I 126) 2))) 1 ((I 126) 0)) 2 0) 3 0))) dX8_layCut_148 rfl hs_130 rfl (Nat.le_of_ble_eq_true rfl) (Nat.le_of_ble_eq_true rfl) ((congrArg (ma_up _ 130) ((ma_up_comm _ (show 1 ≠ 3 from (by decide)) _ _).trans (congrArg (fun f => ma_up f 3 _) ((ma_up_comm _ (show 1 ≠ 2 from (by decide)) _ _).trans (congrArg (fun f => ma_up f 2 _) (ma_up_up _ _ _ _)))))).trans ((ma_up_comm _ (show 130 ≠ 131 from (by decide)) _ _).trans (congrArg (fun f => ma_up f 131 _) (ma_up_up _ _ _ _)))) ?_
    refine ev_aload_n (pc' := 150) (i := 0) dX8_layCut_149 rfl rfl rfl ?_
    refine ev_getR (pc' := 153) fo_X8_61 dX8_layCut_150 rfl hs_115 rfl rf_115_22 ?_
    refine ev_iload (pc' := 155) dX8_layCut_153 rfl rfl ?_
    refine ev_aload_n (pc' := 156) (i := 0) dX8_layCut_155 rfl rfl rfl ?_
    refine ev_getR (pc' := 159) fo_X8_55 dX8_layCut_156 rfl hs_115 rfl rf_115_20 ?_
    refine ev_iconst (pc' := 160) (v := 4) dX8_layCut_159 rfl ki_4 ?_
    refine ev_iload (pc' := 162) dX8_layCut_160 rfl rfl ?_
    refine ev_imul (pc' := 163) (v := 4) dX8_layCut_162 rfl (by decide) ?_
    refine ev_iload (pc' := 165) dX8_layCut_163 rfl rfl ?_
    refine ev_iadd (pc' := 166) (v := 5) dX8_layCut_165 rfl (by decide) ?_
    refine ev_iald (pc' := 167) (j := 5) (v := 0) dX8_layCut_166 rfl hs_129 rfl (Nat.le_of_ble_eq_true rfl) (Nat.le_of_ble_eq_true rfl) rfl ?_
    refine ev_iast (pc' := 168) (j := 1) (I' := (ma_up (ma_up (ma_up I 129 (ma_up (ma_up (ma_up (ma_up (ma_up (ma_up (ma_up (ma_up (ma_up (ma_up (ma_up (ma_up (I 129) 0 (-((I 126) 1))) 1 ((I 126) 0)) 2 0) 3 0) 4 (-((I 126) 2))) 5 0) 6 ((I 126) 0)) 7 0) 8 (-((I 126) 3))) 9 0) 10 0) 11 ((I 126) 0))) 130 (ma_up (ma_up (ma_up (ma_up (I 130) 0 (-((I 126) 2))) 1 0) 2 ((I 126) 0)) 3 0)) 131 (ma_up (ma_up (ma_up (ma_up (I 131) 0 (-((I 126) 2))) 1 0) 2 0) 3 0))) dX8_layCut_167 rfl hs_131 rfl (Nat.le_of_ble_eq_true rfl) (Nat.le_of_ble_eq_true rfl) ((congrArg (ma_up _ 131) ((ma_up_comm _ (show 1 ≠ 3 from (by decide)) _ _).trans (congrArg (fun f => ma_up f 3 _) ((ma_up_comm _ (show 1 ≠ 2 from (by decide)) _ _).trans (congrArg (fun f => ma_up f 2 _) (ma_up_up _ _ _ _)))))).trans (ma_up_up _ _ _ _)) ?_
    refine ev_iinc (pc' := 171) (v := 2) (lv' := [some (.ref 115), some (.int (nI q)), some (.int 0), some (.int 3), some (.int 1), some (.int 1), some (.int 2)]) dX8_layCut_168 rfl rfl (by decide) (Nat.le_of_ble_eq_true rfl) rfl rfl ?_
    refine ev_goto (tgt := 124) dX8_layCut_171 rfl ?_
    refine ev_iload (pc' := 126) dX8_layCut_124 rfl rfl ?_
    refine ev_iconst (pc' := 127) (v := 4) dX8_layCut_126 rfl ki_4 ?_
    refine ev_icmp_ge (tgt := 174) (pc' := 130) dX8_layCut_127 rfl rfl (fun h => absurd h (by decide)) (fun _ => ?_)
    refine ev_aload_n (pc' := 131) (i := 0) dX8_layCut_130 rfl rfl rfl ?_
    refine ev_getR (pc' := 134) fo_X8_58 dX8_layCut_131 rfl hs_115 rfl rf_115_21 ?_
    refine ev_iload (pc' := 136) dX8_layCut_134 rfl rfl ?_
    refine ev_aload_n (pc' := 137) (i := 0) dX8_layCut_136 rfl rfl rfl ?_
    refine ev_getR (pc' := 140) fo_X8_55 dX8_layCut_137 rfl hs_115 rfl rf_115_20 ?_
    refine ev_iconst (pc' := 141) (v := 4) dX8_layCut_140 rfl ki_4 ?_
    refine ev_iload (pc' := 143) dX8_layCut_141 rfl rfl ?_
    refine ev_imul (pc' := 144) (v := 4) dX8_layCut_143 rfl (by decide) ?_
    refine ev_iload (pc' := 146) dX8_layCut_144 rfl rfl ?_
    refine ev_iadd (pc' := 147) (v := 6) dX8_layCut_146 rfl (by decide) ?_
    refine ev_iald (pc' := 148) (j := 6) (v := (I 126) 0) dX8_layCut_147 rfl hs_129 rfl (Nat.le_of_ble_eq_true rfl) (Nat.le_of_ble_eq_true rfl) rfl ?_
    refine ev_iast (pc' := 149) (j := 2) (I' := (ma_up (ma_up (ma_up I 129 (ma_up (ma_up (ma_up (ma_up (ma_up (ma_up (ma_up (ma_up (ma_up (ma_up (ma_up (ma_up (I 129) 0 (-((I 126) 1))) 1 ((I 126) 0)) 2 0) 3 0) 4 (-((I 126) 2))) 5 0) 6 ((I 126) 0)) 7 0) 8 (-((I 126) 3))) 9 0) 10 0) 11 ((I 126) 0))) 130 (ma_up (ma_up (ma_up (ma_up (I 130) 0 (-((I 126) 2))) 1 0) 2 ((I 126) 0)) 3 0)) 131 (ma_up (ma_up (ma_up (ma_up (I 131) 0 (-((I 126) 2))) 1 0) 2 0) 3 0))) dX8_layCut_148 rfl hs_130 rfl (Nat.le_of_ble_eq_true rfl) (Nat.le_of_ble_eq_true rfl) ((congrArg (ma_up _ 130) ((ma_up_comm _ (show 2 ≠ 3 from (by decide)) _ _).trans (congrArg (fun f => ma_up f 3 _) (ma_up_up _ _ _ _)))).trans ((ma_up_comm _ (show 130 ≠ 131 from (by decide)) _ _).trans (congrArg (fun f => ma_up f 131 _) (ma_up_up _ _ _ _)))) ?_
    refine ev_aload_n (pc' := 150) (i := 0) dX8_layCut_149 rfl rfl rfl ?_
    refine ev_getR (pc' := 153) fo_X8_61 dX8_layCut_150 rfl hs_115 rfl rf_115_22 ?_
    refine ev_iload (pc' := 155) dX8_layCut_153 rfl rfl ?_
    refine ev_aload_n (pc' := 156) (i := 0) dX8_layCut_155 rfl rfl rfl ?_
    refine ev_getR (pc' := 159) fo_X8_55 dX8_layCut_156 rfl hs_115 rfl rf_115_20 ?_
    refine ev_iconst (pc' := 160) (v := 4) dX8_layCut_159 rfl ki_4 ?_
    refine ev_iload (pc' := 162) dX8_layCut_160 rfl rfl ?_
    refine ev_imul (pc' := 163) (v := 4) dX8_layCut_162 rfl (by decide) ?_
    refine ev_iload (pc' := 165) dX8_layCut_163 rfl rfl ?_
    refine ev_iadd (pc' := 166) (v := 6) dX8_layCut_165 rfl (by decide) ?_
    refine ev_iald (pc' := 167) (j := 6) (v := (I 126) 0) dX8_layCut_166 rfl hs_129 rfl (Nat.le_of_ble_eq_true rfl) (Nat.le_of_ble_eq_true rfl) rfl ?_
    refine ev_iast (pc' := 168) (j := 2) (I' := (ma_up (ma_up (ma_up I 129 (ma_up (ma_up (ma_up (ma_up (ma_up (ma_up (ma_up (ma_up (ma_up (ma_up (ma_up (ma_up (I 129) 0 (-((I 126) 1))) 1 ((I 126) 0)) 2 0) 3 0) 4 (-((I 126) 2))) 5 0) 6 ((I 126) 0)) 7 0) 8 (-((I 126) 3))) 9 0) 10 0) 11 ((I 126) 0))) 130 (ma_up (ma_up (ma_up (ma_up (I 130) 0 (-((I 126) 2))) 1 0) 2 ((I 126) 0)) 3 0)) 131 (ma_up (ma_up (ma_up (ma_up (I 131) 0 (-((I 126) 2))) 1 0) 2 ((I 126) 0)) 3 0))) dX8_layCut_167 rfl hs_131 rfl (Nat.le_of_ble_eq_true rfl) (Nat.le_of_ble_eq_true rfl) ((congrArg (ma_up _ 131) ((ma_up_comm _ (show 2 ≠ 3 from (by decide)) _ _).trans (congrArg (fun f => ma_up f 3 _) (ma_up_up _ _ _ _)))).trans (ma_up_up _ _ _ _)) ?_
    refine ev_iinc (pc' := 171) (v := 3) (lv' := [some (.ref 115), some (.int (nI q)), some (.int 0), some (.int 3), some (.int 1), some (.int 1), some (.int 3)]) dX8_layCut_168 rfl rfl (by decide) (Nat.le_of_ble_eq_true rfl) rfl rfl ?_
    refine ev_goto (tgt := 124) dX8_layCut_171 rfl ?_
    refine ev_iload (pc' := 126) dX8_layCut_124 rfl rfl ?_
    refine ev_iconst (pc' := 127) (v := 4) dX8_layCut_126 rfl ki_4 ?_
    refine ev_icmp_ge (tgt := 174) (pc' := 130) dX8_layCut_127 rfl rfl (fun h => absurd h (by decide)) (fun _ => ?_)
    refine ev_aload_n (pc' := 131) (i := 0) dX8_layCut_130 rfl rfl rfl ?_
    refine ev_getR (pc' := 134) fo_X8_58 dX8_layCut_131 rfl hs_115 rfl rf_115_21 ?_
    refine ev_iload (pc' := 136) dX8_layCut_134 rfl rfl ?_
    refine ev_aload_n (pc' := 137) (i := 0) dX8_layCut_136 rfl rfl rfl ?_
    refine ev_getR (pc' := 140) fo_X8_55 dX8_layCut_137 rfl hs_115 rfl rf_115_20 ?_
    refine ev_iconst (pc' := 141) (v := 4) dX8_layCut_140 rfl ki_4 ?_
    refine ev_iload (pc' := 143) dX8_layCut_141 rfl rfl ?_
    refine ev_imul (pc' := 144) (v := 4) dX8_layCut_143 rfl (by decide) ?_
    refine ev_iload (pc' := 146) dX8_layCut_144 rfl rfl ?_
    refine ev_iadd (pc' := 147) (v := 7) dX8_layCut_146 rfl (by decide) ?_
    refine ev_iald (pc' := 148) (j := 7) (v := 0) dX8_layCut_147 rfl hs_129 rfl (Nat.le_of_ble_eq_true rfl) (Nat.le_of_ble_eq_true rfl) rfl ?_
    refine ev_iast (pc' := 149) (j := 3) (I' := (ma_up (ma_up (ma_up I 129 (ma_up (ma_up (ma_up (ma_up (ma_up (ma_up (ma_up (ma_up (ma_up (ma_up (ma_up (ma_up (I 129) 0 (-((I 126) 1))) 1 ((I 126) 0)) 2 0) 3 0) 4 (-((I 126) 2))) 5 0) 6 ((I 126) 0)) 7 0) 8 (-((I 126) 3))) 9 0) 10 0) 11 ((I 126) 0))) 130 (ma_up (ma_up (ma_up (ma_up (I 130) 0 (-((I 126) 2))) 1 0) 2 ((I 126) 0)) 3 0)) 131 (ma_up (ma_up (ma_up (ma_up (I 131) 0 (-((I 126) 2))) 1 0) 2 ((I 126) 0)) 3 0))) dX8_layCut_148 rfl hs_130 rfl (Nat.le_of_ble_eq_true rfl) (Nat.le_of_ble_eq_true rfl) ((congrArg (ma_up _ 130) (ma_up_up _ _ _ _)).trans ((ma_up_comm _ (show 130 ≠ 131 from (by decide)) _ _).trans (congrArg (fun f => ma_up f 131 _) (ma_up_up _ _ _ _)))) ?_
    refine ev_aload_n (pc' := 150) (i := 0) dX8_layCut_149 rfl rfl rfl ?_
    refine ev_getR (pc' := 153) fo_X8_61 dX8_layCut_150 rfl hs_115 rfl rf_115_22 ?_
    refine ev_iload (pc' := 155) dX8_layCut_153 rfl rfl ?_
    refine ev_aload_n (pc' := 156) (i := 0) dX8_layCut_155 rfl rfl rfl ?_
    refine ev_getR (pc' := 159) fo_X8_55 dX8_layCut_156 rfl hs_115 rfl rf_115_20 ?_
    refine ev_iconst (pc' := 160) (v := 4) dX8_layCut_159 rfl ki_4 ?_
    refine ev_iload (pc' := 162) dX8_layCut_160 rfl rfl ?_
    refine ev_imul (pc' := 163) (v := 4) dX8_layCut_162 rfl (by decide) ?_
    refine ev_iload (pc' := 165) dX8_layCut_163 rfl rfl ?_
    refine ev_iadd (pc' := 166) (v := 7) dX8_layCut_165 rfl (by decide) ?_
    refine ev_iald (pc' := 167) (j := 7) (v := 0) dX8_layCut_166 rfl hs_129 rfl (Nat.le_of_ble_eq_true rfl) (Nat.le_of_ble_eq_true rfl) rfl ?_
    refine ev_iast (pc' := 168) (j := 3) (I' := (ma_up (ma_up (ma_up I 129 (ma_up (ma_up (ma_up (ma_up (ma_up (ma_up (ma_up (ma_up (ma_up (ma_up (ma_up (ma_up (I 129) 0 (-((I 126) 1))) 1 ((I 126) 0)) 2 0) 3 0) 4 (-((I 126) 2))) 5 0) 6 ((I 126) 0)) 7 0) 8 (-((I 126) 3))) 9 0) 10 0) 11 ((I 126) 0))) 130 (ma_up (ma_up (ma_up (ma_up (I 130) 0 (-((I 126) 2))) 1 0) 2 ((I 126) 0)) 3 0)) 131 (ma_up (ma_up (ma_up (ma_up (I 131) 0 (-((I 126) 2))) 1 0) 2 ((I 126) 0)) 3 0))) dX8_layCut_167 rfl hs_131 rfl (Nat.le_of_ble_eq_true rfl) (Nat.le_of_ble_eq_true rfl) ((congrArg (ma_up _ 131) (ma_up_up _ _ _ _)).trans (ma_up_up _ _ _ _)) ?_
    refine ev_iinc (pc' := 171) (v := 4) (lv' := [some (.ref 115), some (.int (nI q)), some (.int 0), some (.int 3), some (.int 1), some (.int 1), some (.int 4)]) dX8_layCut_168 rfl rfl (by decide) (Nat.le_of_ble_eq_true rfl) rfl rfl ?_
    refine ev_goto (tgt := 124) dX8_layCut_171 rfl ?_
    refine ev_iload (pc' := 126) dX8_layCut_124 rfl rfl ?_
    refine ev_iconst (pc' := 127) (v := 4) dX8_layCut_126 rfl ki_4 ?_
    refine ev_icmp_ge (tgt := 174) (pc' := 130) dX8_layCut_127 rfl rfl (fun _ => ?_) (fun h => absurd (by decide) h)
    refine ev_aload_n (pc' := 175) (i := 0) dX8_layCut_174 rfl rfl rfl ?_
    refine ev_getR (pc' := 178) fo_X8_26 dX8_layCut_175 rfl hs_115 rfl rf_115_8 ?_
    refine ev_iconst (pc' := 179) (v := 4) dX8_layCut_178 rfl ki_4 ?_
    refine ev_iload (pc' := 181) dX8_layCut_179 rfl rfl ?_
    refine ev_imul (pc' := 182) (v := 4) dX8_layCut_181 rfl (by decide) ?_
    refine ev_iload (pc' := 184) dX8_layCut_182 rfl rfl ?_
    refine ev_iadd (pc' := 185) (v := 5) dX8_layCut_184 rfl (by decide) ?_
    refine ev_aload_n (pc' := 186) (i := 0) dX8_layCut_185 rfl rfl rfl ?_
    refine ev_iload_n (pc' := 187) (i := 1) dX8_layCut_186 rfl rfl rfl ?_
    refine ev_aload_n (pc' := 188) (i := 0) dX8_layCut_187 rfl rfl rfl ?_
    refine ev_getR (pc' := 191) fo_X8_58 dX8_layCut_188 rfl hs_115 rfl rf_115_21 ?_
    refine ev_aload_n (pc' := 192) (i := 0) dX8_layCut_191 rfl rfl rfl ?_
    refine ev_getR (pc' := 195) fo_X8_61 dX8_layCut_192 rfl hs_115 rfl rf_115_22 ?_
    refine ev_callV (pc' := 198) (rm' := rX8_both) (b := 115) (av := [.int (nI q), .ref 130, .ref 131]) (rest := [.int 5, .ref 120]) co_X8_241 ci_X8_both cv_X8_both dX8_layCut_195 rfl hs_115 hb_X8 rfl rfl (Nat.le_of_ble_eq_true rfl) ⟨(Nat.le_of_ble_eq_true rfl), (Nat.le_of_ble_eq_true rfl)⟩ ⟨(Nat.le_of_ble_eq_true rfl), (Nat.le_of_ble_eq_true rfl)⟩ ?_
    refine t_X8_both q 130 131 hq hs_130 hs_131 ?_
    refine ev_eqi (w := mBo (I 123) (mSn 0 (I 126) 1) (mSn 0 (I 126) 1) q) rfl ?_
    refine ev_i2l (pc' := 199) (v := Int32.toInt64 (mBo (I 123) (mSn 0 (I 126) 1) (mSn 0 (I 126) 1) q)) dX8_layCut_198 rfl rfl ?_
    refine ev_last (pc' := 200) (j := 5) (L' := (ma_up L 120 (ma_up (ma_up (ma_up (ma_up (ma_up (L 120) 0 (Int32.toInt64 (mBo (I 123) (mSn 0 (I 126) 0) (mSn 0 (I 126) 0) q))) 1 (Int32.toInt64 (mBo (I 123) (mSn 0 (I 126) 0) (mSn 0 (I 126) 1) q))) 2 (Int32.toInt64 (mBo (I 123) (mSn 0 (I 126) 0) (mSn 0 (I 126) 2) q))) 4 (Int32.toInt64 (mBo (I 123) (mSn 0 (I 126) 1) (mSn 0 (I 126) 0) q))) 5 (Int32.toInt64 (mBo (I 123) (mSn 0 (I 126) 1) (mSn 0 (I 126) 1) q))))) dX8_layCut_199 rfl hs_120 rfl (Nat.le_of_ble_eq_true rfl) (Nat.le_of_ble_eq_true rfl) (ma_up_up _ _ _ _) ?_
    refine ev_iinc (pc' := 203) (v := 2) (lv' := [some (.ref 115), some (.int (nI q)), some (.int 0), some (.int 3), some (.int 1), some (.int 2), some (.int 4)]) dX8_layCut_200 rfl rfl (by decide) (Nat.le_of_ble_eq_true rfl) rfl rfl ?_
    refine ev_goto (tgt := 115) dX8_layCut_203 rfl ?_
    refine ev_iload (pc' := 117) dX8_layCut_115 rfl rfl ?_
    refine ev_iconst (pc' := 118) (v := 3) dX8_layCut_117 rfl ki_3 ?_
    refine ev_icmp_ge (tgt := 206) (pc' := 121) dX8_layCut_118 rfl rfl (fun h => absurd h (by decide)) (fun _ => ?_)
    refine ev_iconst (pc' := 122) (v := 0) dX8_layCut_121 rfl ki_0 ?_
    refine ev_istore (pc' := 124) (lv' := [some (.ref 115), some (.int (nI q)), some (.int 0), some (.int 3), some (.int 1), some (.int 2), some (.int 0)]) dX8_layCut_122 rfl (Nat.le_of_ble_eq_true rfl) rfl rfl ?_
    refine ev_iload (pc' := 126) dX8_layCut_124 rfl rfl ?_
    refine ev_iconst (pc' := 127) (v := 4) dX8_layCut_126 rfl ki_4 ?_
    refine ev_icmp_ge (tgt := 174) (pc' := 130) dX8_layCut_127 rfl rfl (fun h => absurd h (by decide)) (fun _ => ?_)
    refine ev_aload_n (pc' := 131) (i := 0) dX8_layCut_130 rfl rfl rfl ?_
    refine ev_getR (pc' := 134) fo_X8_58 dX8_layCut_131 rfl hs_115 rfl rf_115_21 ?_
    refine ev_iload (pc' := 136) dX8_layCut_134 rfl rfl ?_
    refine ev_aload_n (pc' := 137) (i := 0) dX8_layCut_136 rfl rfl rfl ?_
    refine ev_getR (pc' := 140) fo_X8_55 dX8_layCut_137 rfl hs_115 rfl rf_115_20 ?_
    refine ev_iconst (pc' := 141) (v := 4) dX8_layCut_140 rfl ki_4 ?_
    refine ev_iload (pc' := 143) dX8_layCut_141 rfl rfl ?_
    refine ev_imul (pc' := 144) (v := 4) dX8_layCut_143 rfl (by decide) ?_
    refine ev_iload (pc' := 146) dX8_layCut_144 rfl rfl ?_
    refine ev_iadd (pc' := 147) (v := 4) dX8_layCut_146 rfl (by decide) ?_
    refine ev_iald (pc' := 148) (j := 4) (v := -((I 126) 2)) dX8_layCut_147 rfl hs_129 rfl (Nat.le_of_ble_eq_true rfl) (Nat.le_of_ble_eq_true rfl) rfl ?_
    refine ev_iast (pc' := 149) (j := 0) (I' := (ma_up (ma_up (ma_up I 129 (ma_up (ma_up (ma_up (ma_up (ma_up (ma_up (ma_up (ma_up (ma_up (ma_up (ma_up (ma_up (I 129) 0 (-((I 126) 1))) 1 ((I 126) 0)) 2 0) 3 0) 4 (-((I 126) 2))) 5 0) 6 ((I 126) 0)) 7 0) 8 (-((I 126) 3))) 9 0) 10 0) 11 ((I 126) 0))) 130 (ma_up (ma_up (ma_up (ma_up (I 130) 0 (-((I 126) 2))) 1 0) 2 ((I 126) 0)) 3 0)) 131 (ma_up (ma_up (ma_up (ma_up (I 131) 0 (-((I 126) 2))) 1 0) 2 ((I 126) 0)) 3 0))) dX8_layCut_148 rfl hs_130 rfl (Nat.le_of_ble_eq_true rfl) (Nat.le_of_ble_eq_true rfl) ((congrArg (ma_up _ 130) ((ma_up_comm _ (show 0 ≠ 3 from (by decide)) _ _).trans (congrArg (fun f => ma_up f 3 _) ((ma_up_comm _ (show 0 ≠ 2 from (by decide)) _ _).trans (congrArg (fun f => ma_up f 2 _) ((ma_up_comm _ (show 0 ≠ 1 from (by decide)) _ _).trans (congrArg (fun f => ma_up f 1 _) (ma_up_up _ _ _ _)))))))).trans ((ma_up_comm _ (show 130 ≠ 131 from (by decide)) _ _).trans (congrArg (fun f => ma_up f 131 _) (ma_up_up _ _ _ _)))) ?_
    refine ev_aload_n (pc' := 150) (i := 0) dX8_layCut_149 rfl rfl rfl ?_
    refine ev_getR (pc' := 153) fo_X8_61 dX8_layCut_150 rfl hs_115 rfl rf_115_22 ?_
    refine ev_iload (pc' := 155) dX8_layCut_153 rfl rfl ?_
    refine ev_aload_n (pc' := 156) (i := 0) dX8_layCut_155 rfl rfl rfl ?_
    refine ev_getR (pc' := 159) fo_X8_55 dX8_layCut_156 rfl hs_115 rfl rf_115_20 ?_
    refine ev_iconst (pc' := 160) (v := 4) dX8_layCut_159 rfl ki_4 ?_
    refine ev_iload (pc' := 162) dX8_layCut_160 rfl rfl ?_
    refine ev_imul (pc' := 163) (v := 8) dX8_layCut_162 rfl (by decide) ?_
    refine ev_iload (pc' := 165) dX8_layCut_163 rfl rfl ?_
    refine ev_iadd (pc' := 166) (v := 8) dX8_layCut_165 rfl (by decide) ?_
    refine ev_iald (pc' := 167) (j := 8) (v := -((I 126) 3)) dX8_layCut_166 rfl hs_129 rfl (Nat.le_of_ble_eq_true rfl) (Nat.le_of_ble_eq_true rfl) rfl ?_
    refine ev_iast (pc' := 168) (j := 0) (I' := (ma_up (ma_up (ma_up I 129 (ma_up (ma_up (ma_up (ma_up (ma_up (ma_up (ma_up (ma_up (ma_up (ma_up (ma_up (ma_up (I 129) 0 (-((I 126) 1))) 1 ((I 126) 0)) 2 0) 3 0) 4 (-((I 126) 2))) 5 0) 6 ((I 126) 0)) 7 0) 8 (-((I 126) 3))) 9 0) 10 0) 11 ((I 126) 0))) 130 (ma_up (ma_up (ma_up (ma_up (I 130) 0 (-((I 126) 2))) 1 0) 2 ((I 126) 0)) 3 0)) 131 (ma_up (ma_up (ma_up (ma_up (I 131) 0 (-((I 126) 3))) 1 0) 2 ((I 126) 0)) 3 0))) dX8_layCut_167 rfl hs_131 rfl (Nat.le_of_ble_eq_true rfl) (Nat.le_of_ble_eq_true rfl) ((congrArg (ma_up _ 131) ((ma_up_comm _ (show 0 ≠ 3 from (by decide)) _ _).trans (congrArg (fun f => ma_up f 3 _) ((ma_up_comm _ (show 0 ≠ 2 from (by decide)) _ _).trans (congrArg (fun f => ma_up f 2 _) ((ma_up_comm _ (show 0 ≠ 1 from (by decide)) _ _).trans (congrArg (fun f => ma_up f 1 _) (ma_up_up _ _ _ _)))))))).trans (ma_up_up _ _ _ _)) ?_
    refine ev_iinc (pc' := 171) (v := 1) (lv' := [some (.ref 115), some (.int (nI q)), some (.int 0), some (.int 3), some (.int 1), some (.int 2), some (.int 1)]) dX8_layCut_168 rfl rfl (by decide) (Nat.le_of_ble_eq_true rfl) rfl rfl ?_
    refine ev_goto (tgt := 124) dX8_layCut_171 rfl ?_
    refine ev_iload (pc' := 126) dX8_layCut_124 rfl rfl ?_
    refine ev_iconst (pc' := 127) (v := 4) dX8_layCut_126 rfl ki_4 ?_
    refine ev_icmp_ge (tgt := 174) (pc' := 130) dX8_layCut_127 rfl rfl (fun h => absurd h (by decide)) (fun _ => ?_)
    refine ev_aload_n (pc' := 131) (i := 0) dX8_layCut_130 rfl rfl rfl ?_
    refine ev_getR (pc' := 134) fo_X8_58 dX8_layCut_131 rfl hs_115 rfl rf_115_21 ?_
    refine ev_iload (pc' := 136) dX8_layCut_134 rfl rfl ?_
    refine ev_aload_n (pc' := 137) (i := 0) dX8_layCut_136 rfl rfl rfl ?_
    refine ev_getR (pc' := 140) fo_X8_55 dX8_layCut_137 rfl hs_115 rfl rf_115_20 ?_
    refine ev_iconst (pc' := 141) (v := 4) dX8_layCut_140 rfl ki_4 ?_
    refine ev_iload (pc' := 143) dX8_layCut_141 rfl rfl ?_
    refine ev_imul (pc' := 144) (v := 4) dX8_layCut_143 rfl (by decide) ?_
    refine ev_iload (pc' := 146) dX8_layCut_144 rfl rfl ?_
    refine ev_iadd (pc' := 147) (v := 5) dX8_layCut_146 rfl (by decide) ?_
    refine ev_iald (pc' := 148) (j := 5) (v := 0) dX8_layCut_147 rfl hs_129 rfl (Nat.le_of_ble_eq_true rfl) (Nat.le_of_ble_eq_true rfl) rfl ?_
    refine ev_iast (pc' := 149) (j := 1) (I' := (ma_up (ma_up (ma_up I 129 (ma_up (ma_up (ma_up (ma_up (ma_up (ma_up (ma_up (ma_up (ma_up (ma_up (ma_up (ma_up (I 129) 0 (-((I 126) 1))) 1 ((I 126) 0)) 2 0) 3 0) 4 (-((I 126) 2))) 5 0) 6 ((I 126) 0)) 7 0) 8 (-((I 126) 3))) 9 0) 10 0) 11 ((I 126) 0))) 130 (ma_up (ma_up (ma_up (ma_up (I 130) 0 (-((I 126) 2))) 1 0) 2 ((I 126) 0)) 3 0)) 131 (ma_up (ma_up (ma_up (ma_up (I 131) 0 (-((I 126) 3))) 1 0) 2 ((I 126) 0)) 3 0))) dX8_layCut_148 rfl hs_130 rfl (Nat.le_of_ble_eq_true rfl) (Nat.le_of_ble_eq_true rfl) ((congrArg (ma_up _ 130) ((ma_up_comm _ (show 1 ≠ 3 from (by decide)) _ _).trans (congrArg (fun f => ma_up f 3 _) ((ma_up_comm _ (show 1 ≠ 2 from (by decide)) _ _).trans (congrArg (fun f => ma_up f 2 _) (ma_up_up _ _ _ _)))))).trans ((ma_up_comm _ (show 130 ≠ 131 from (by decide)) _ _).trans (congrArg (fun f => ma_up f 131 _) (ma_up_up _ _ _ _)))) ?_
    refine ev_aload_n (pc' := 150) (i := 0) dX8_layCut_149 rfl rfl rfl ?_
    refine ev_getR (pc' := 153) fo_X8_61 dX8_layCut_150 rfl hs_115 rfl rf_115_22 ?_
    refine ev_iload (pc' := 155) dX8_layCut_153 rfl rfl ?_
    refine ev_aload_n (pc' := 156) (i := 0) dX8_layCut_155 rfl rfl rfl ?_
    refine ev_getR (pc' := 159) fo_X8_55 dX8_layCut_156 rfl hs_115 rfl rf_115_20 ?_
    refine ev_iconst (pc' := 160) (v := 4) dX8_layCut_159 rfl ki_4 ?_
    refine ev_iload (pc' := 162) dX8_layCut_160 rfl rfl ?_
    refine ev_imul (pc' := 163) (v := 8) dX8_layCut_162 rfl (by decide) ?_
    refine ev_iload (pc' := 165) dX8_layCut_163 rfl rfl ?_
    refine ev_iadd (pc' := 166) (v := 9) dX8_layCut_165 rfl (by decide) ?_
    refine ev_iald (pc' := 167) (j := 9) (v := 0) dX8_layCut_166 rfl hs_129 rfl (Nat.le_of_ble_eq_true rfl) (Nat.le_of_ble_eq_true rfl) rfl ?_
    refine ev_iast (pc' := 168) (j := 1) (I' := (ma_up (ma_up (ma_up I 129 (ma_up (ma_up (ma_up (ma_up (ma_up (ma_up (ma_up (ma_up (ma_up (ma_up (ma_up (ma_up (I 129) 0 (-((I 126) 1))) 1 ((I 126) 0)) 2 0) 3 0) 4 (-((I 126) 2))) 5 0) 6 ((I 126) 0)) 7 0) 8 (-((I 126) 3))) 9 0) 10 0) 11 ((I 126) 0))) 130 (ma_up (ma_up (ma_up (ma_up (I 130) 0 (-((I 126) 2))) 1 0) 2 ((I 126) 0)) 3 0)) 131 (ma_up (ma_up (ma_up (ma_up (I 131) 0 (-((I 126) 3))) 1 0) 2 ((I 126) 0)) 3 0))) dX8_layCut_167 rfl hs_131 rfl (Nat.le_of_ble_eq_true rfl) (Nat.le_of_ble_eq_true rfl) ((congrArg (ma_up _ 131) ((ma_up_comm _ (show 1 ≠ 3 from (by decide)) _ _).trans (congrArg (fun f => ma_up f 3 _) ((ma_up_comm _ (show 1 ≠ 2 from (by decide)) _ _).trans (congrArg (fun f => ma_up f 2 _) (ma_up_up _ _ _ _)))))).trans (ma_up_up _ _ _ _)) ?_
    refine ev_iinc (pc' := 171) (v := 2) (lv' := [some (.ref 115), some (.int (nI q)), some (.int 0), some (.int 3), some (.int 1), some (.int 2), some (.int 2)]) dX8_layCut_168 rfl rfl (by decide) (Nat.le_of_ble_eq_true rfl) rfl rfl ?_
    refine ev_goto (tgt := 124) dX8_layCut_171 rfl ?_
    refine ev_iload (pc' := 126) dX8_layCut_124 rfl rfl ?_
    refine ev_iconst (pc' := 127) (v := 4) dX8_layCut_126 rfl ki_4 ?_
    refine ev_icmp_ge (tgt := 174) (pc' := 130) dX8_layCut_127 rfl rfl (fun h => absurd h (by decide)) (fun _ => ?_)
    refine ev_aload_n (pc' := 131) (i := 0) dX8_layCut_130 rfl rfl rfl ?_
    refine ev_getR (pc' := 134) fo_X8_58 dX8_layCut_131 rfl hs_115 rfl rf_115_21 ?_
    refine ev_iload (pc' := 136) dX8_layCut_134 rfl rfl ?_
    refine ev_aload_n (pc' := 137) (i := 0) dX8_layCut_136 rfl rfl rfl ?_
    refine ev_getR (pc' := 140) fo_X8_55 dX8_layCut_137 rfl hs_115 rfl rf_115_20 ?_
    refine ev_iconst (pc' := 141) (v := 4) dX8_layCut_140 rfl ki_4 ?_
    refine ev_iload (pc' := 143) dX8_layCut_141 rfl rfl ?_
    refine ev_imul (pc' := 144) (v := 4) dX8_layCut_143 rfl (by decide) ?_
    refine ev_iload (pc' := 146) dX8_layCut_144 rfl rfl ?_
    refine ev_iadd (pc' := 147) (v := 6) dX8_layCut_146 rfl (by decide) ?_
    refine ev_iald (pc' := 148) (j := 6) (v := (I 126) 0) dX8_layCut_147 rfl hs_129 rfl (Nat.le_of_ble_eq_true rfl) (Nat.le_of_ble_eq_true rfl) rfl ?_
    refine ev_iast (pc' := 149) (j := 2) (I' := (ma_up (ma_up (ma_up I 129 (ma_up (ma_up (ma_up (ma_up (ma_up (ma_up (ma_up (ma_up (ma_up (ma_up (ma_up (ma_up (I 129) 0 (-((I 126) 1))) 1 ((I 126) 0)) 2 0) 3 0) 4 (-((I 126) 2))) 5 0) 6 ((I 126) 0)) 7 0) 8 (-((I 126) 3))) 9 0) 10 0) 11 ((I 126) 0))) 130 (ma_up (ma_up (ma_up (ma_up (I 130) 0 (-((I 126) 2))) 1 0) 2 ((I 126) 0)) 3 0)) 131 (ma_up (ma_up (ma_up (ma_up (I 131) 0 (-((I 126) 3))) 1 0) 2 ((I 126) 0)) 3 0))) dX8_layCut_148 rfl hs_130 rfl (Nat.le_of_ble_eq_true rfl) (Nat.le_of_ble_eq_true rfl) ((congrArg (ma_up _ 130) ((ma_up_comm _ (show 2 ≠ 3 from (by decide)) _ _).trans (congrArg (fun f => ma_up f 3 _) (ma_up_up _ _ _ _)))).trans ((ma_up_comm _ (show 130 ≠ 131 from (by decide)) _ _).trans (congrArg (fun f => ma_up f 131 _) (ma_up_up _ _ _ _)))) ?_
    refine ev_aload_n (pc' := 150) (i := 0) dX8_layCut_149 rfl rfl rfl ?_
    refine ev_getR (pc' := 153) fo_X8_61 dX8_layCut_150 rfl hs_115 rfl rf_115_22 ?_
    refine ev_iload (pc' := 155) dX8_layCut_153 rfl rfl ?_
    refine ev_aload_n (pc' := 156) (i := 0) dX8_layCut_155 rfl rfl rfl ?_
    refine ev_getR (pc' := 159) fo_X8_55 dX8_layCut_156 rfl hs_115 rfl rf_115_20 ?_
    refine ev_iconst (pc' := 160) (v := 4) dX8_layCut_159 rfl ki_4 ?_
    refine ev_iload (pc' := 162) dX8_layCut_160 rfl rfl ?_
    refine ev_imul (pc' := 163) (v := 8) dX8_layCut_162 rfl (by decide) ?_
    refine ev_iload (pc' := 165) dX8_layCut_163 rfl rfl ?_
    refine ev_iadd (pc' := 166) (v := 10) dX8_layCut_165 rfl (by decide) ?_
    refine ev_iald (pc' := 167) (j := 10) (v := 0) dX8_layCut_166 rfl hs_129 rfl (Nat.le_of_ble_eq_true rfl) (Nat.le_of_ble_eq_true rfl) rfl ?_
    refine ev_iast (pc' := 168) (j := 2) (I' := (ma_up (ma_up (ma_up I 129 (ma_up (ma_up (ma_up (ma_up (ma_up (ma_up (ma_up (ma_up (ma_up (ma_up (ma_up (ma_up (I 129) 0 (-((I 126) 1))) 1 ((I 126) 0)) 2 0) 3 0) 4 (-((I 126) 2))) 5 0) 6 ((I 126) 0)) 7 0) 8 (-((I 126) 3))) 9 0) 10 0) 11 ((I 126) 0))) 130 (ma_up (ma_up (ma_up (ma_up (I 130) 0 (-((I 126) 2))) 1 0) 2 ((I 126) 0)) 3 0)) 131 (ma_up (ma_up (ma_up (ma_up (I 131) 0 (-((I 126) 3))) 1 0) 2 0) 3 0))) dX8_layCut_167 rfl hs_131 rfl (Nat.le_of_ble_eq_true rfl) (Nat.le_of_ble_eq_true rfl) ((congrArg (ma_up _ 131) ((ma_up_comm _ (show 2 ≠ 3 from (by decide)) _ _).trans (congrArg (fun f => ma_up f 3 _) (ma_up_up _ _ _ _)))).trans (ma_up_up _ _ _ _)) ?_
    refine ev_iinc (pc' := 171) (v := 3) (lv' := [some (.ref 115), some (.int (nI q)), some (.int 0), some (.int 3), some (.int 1), some (.int 2), some (.int 3)]) dX8_layCut_168 rfl rfl (by decide) (Nat.le_of_ble_eq_true rfl) rfl rfl ?_
    refine ev_goto (tgt := 124) dX8_layCut_171 rfl ?_
    refine ev_iload (pc' := 126) dX8_layCut_124 rfl rfl ?_
    refine ev_iconst (pc' := 127) (v := 4) dX8_layCut_126 rfl ki_4 ?_
    refine ev_icmp_ge (tgt := 174) (pc' := 130) dX8_layCut_127 rfl rfl (fun h => absurd h (by decide)) (fun _ => ?_)
    refine ev_aload_n (pc' := 131) (i := 0) dX8_layCut_130 rfl rfl rfl ?_
    refine ev_getR (pc' := 134) fo_X8_58 dX8_layCut_131 rfl hs_115 rfl rf_115_21 ?_
    refine ev_iload (pc' := 136) dX8_layCut_134 rfl rfl ?_
    refine ev_aload_n (pc' := 137) (i := 0) dX8_layCut_136 rfl rfl rfl ?_
    refine ev_getR (pc' := 140) fo_X8_55 dX8_layCut_137 rfl hs_115 rfl rf_115_20 ?_
    refine ev_iconst (pc' := 141) (v := 4) dX8_layCut_140 rfl ki_4 ?_
    refine ev_iload (pc' := 143) dX8_layCut_141 rfl rfl ?_
    refine ev_imul (pc' := 144) (v := 4) dX8_layCut_143 rfl (by decide) ?_
    refine ev_iload (pc' := 146) dX8_layCut_144 rfl rfl ?_
    refine ev_iadd (pc' := 147) (v := 7) dX8_layCut_146 rfl (by decide) ?_
    refine ev_iald (pc' := 148) (j := 7) (v := 0) dX8_layCut_147 rfl hs_129 rfl (Nat.le_of_ble_eq_true rfl) (Nat.le_of_ble_eq_true rfl) rfl ?_
    refine ev_iast (pc' := 149) (j := 3) (I' := (ma_up (ma_up (ma_up I 129 (ma_up (ma_up (ma_up (ma_up (ma_up (ma_up (ma_up (ma_up (ma_up (ma_up (ma_up (ma_up (I 129) 0 (-((I 126) 1))) 1 ((I 126) 0)) 2 0) 3 0) 4 (-((I 126) 2))) 5 0) 6 ((I 126) 0)) 7 0) 8 (-((I 126) 3))) 9 0) 10 0) 11 ((I 126) 0))) 130 (ma_up (ma_up (ma_up (ma_up (I 130) 0 (-((I 126) 2))) 1 0) 2 ((I 126) 0)) 3 0)) 131 (ma_up (ma_up (ma_up (ma_up (I 131) 0 (-((I 126) 3))) 1 0) 2 0) 3 0))) dX8_layCut_148 rfl hs_130 rfl (Nat.le_of_ble_eq_true rfl) (Nat.le_of_ble_eq_true rfl) ((congrArg (ma_up _ 130) (ma_up_up _ _ _ _)).trans ((ma_up_comm _ (show 130 ≠ 131 from (by decide)) _ _).trans (congrArg (fun f => ma_up f 131 _) (ma_up_up _ _ _ _)))) ?_
    refine ev_aload_n (pc' := 150) (i := 0) dX8_layCut_149 rfl rfl rfl ?_
    refine ev_getR (pc' := 153) fo_X8_61 dX8_layCut_150 rfl hs_115 rfl rf_115_22 ?_
    refine ev_iload (pc' := 155) dX8_layCut_153 rfl rfl ?_
    refine ev_aload_n (pc' := 156) (i := 0) dX8_layCut_155 rfl rfl rfl ?_
    refine ev_getR (pc' := 159) fo_X8_55 dX8_layCut_156 rfl hs_115 rfl rf_115_20 ?_
    refine ev_iconst (pc' := 160) (v := 4) dX8_layCut_159 rfl ki_4 ?_
    refine ev_iload (pc' := 162) dX8_layCut_160 rfl rfl ?_
    refine ev_imul (pc' := 163) (v := 8) dX8_layCut_162 rfl (by decide) ?_
    refine ev_iload (pc' := 165) dX8_layCut_163 rfl rfl ?_
    refine ev_iadd (pc' := 166) (v := 11) dX8_layCut_165 rfl (by decide) ?_
    refine ev_iald (pc' := 167) (j := 11) (v := (I 126) 0) dX8_layCut_166 rfl hs_129 rfl (Nat.le_of_ble_eq_true rfl) (Nat.le_of_ble_eq_true rfl) rfl ?_
    refine ev_iast (pc' := 168) (j := 3) (I' := (ma_up (ma_up (ma_up I 129 (ma_up (ma_up (ma_up (ma_up (ma_up (ma_up (ma_up (ma_up (ma_up (ma_up (ma_up (ma_up (I 129) 0 (-((I 126) 1))) 1 ((I 126) 0)) 2 0) 3 0) 4 (-((I 126) 2))) 5 0) 6 ((I 126) 0)) 7 0) 8 (-((I 126) 3))) 9 0) 10 0) 11 ((I 126) 0))) 130 (ma_up (ma_up (ma_up (ma_up (I 130) 0 (-((I 126) 2))) 1 0) 2 ((I 126) 0)) 3 0)) 131 (ma_up (ma_up (ma_up (ma_up (I 131) 0 (-((I 126) 3))) 1 0) 2 0) 3 ((I 126) 0)))) dX8_layCut_167 rfl hs_131 rfl (Nat.le_of_ble_eq_true rfl) (Nat.le_of_ble_eq_true rfl) ((congrArg (ma_up _ 131) (ma_up_up _ _ _ _)).trans (ma_up_up _ _ _ _)) ?_
    refine ev_iinc (pc' := 171) (v := 4) (lv' := [some (.ref 115), some (.int (nI q)), some (.int 0), some (.int 3), some (.int 1), some (.int 2), some (.int 4)]) dX8_layCut_168 rfl rfl (by decide) (Nat.le_of_ble_eq_true rfl) rfl rfl ?_
    refine ev_goto (tgt := 124) dX8_layCut_171 rfl ?_
    refine ev_iload (pc' := 126) dX8_layCut_124 rfl rfl ?_
    refine ev_iconst (pc' := 127) (v := 4) dX8_layCut_126 rfl ki_4 ?_
    refine ev_icmp_ge (tgt := 174) (pc' := 130) dX8_layCut_127 rfl rfl (fun _ => ?_) (fun h => absurd (by decide) h)
    refine ev_aload_n (pc' := 175) (i := 0) dX8_layCut_174 rfl rfl rfl ?_
    refine ev_getR (pc' := 178) fo_X8_26 dX8_layCut_175 rfl hs_115 rfl rf_115_8 ?_
    refine ev_iconst (pc' := 179) (v := 4) dX8_layCut_178 rfl ki_4 ?_
    refine ev_iload (pc' := 181) dX8_layCut_179 rfl rfl ?_
    refine ev_imul (pc' := 182) (v := 4) dX8_layCut_181 rfl (by decide) ?_
    refine ev_iload (pc' := 184) dX8_layCut_182 rfl rfl ?_
    refine ev_iadd (pc' := 185) (v := 6) dX8_layCut_184 rfl (by decide) ?_
    refine ev_aload_n (pc' := 186) (i := 0) dX8_layCut_185 rfl rfl rfl ?_
    refine ev_iload_n (pc' := 187) (i := 1) dX8_layCut_186 rfl rfl rfl ?_
    refine ev_aload_n (pc' := 188) (i := 0) dX8_layCut_187 rfl rfl rfl ?_
    refine ev_getR (pc' := 191) fo_X8_58 dX8_layCut_188 rfl hs_115 rfl rf_115_21 ?_
    refine ev_aload_n (pc' := 192) (i := 0) dX8_layCut_191 rfl rfl rfl ?_
    refine ev_getR (pc' := 195) fo_X8_61 dX8_layCut_192 rfl hs_115 rfl rf_115_22 ?_
    refine ev_callV (pc' := 198) (rm' := rX8_both) (b := 115) (av := [.int (nI q), .ref 130, .ref 131]) (rest := [.int 6, .ref 120]) co_X8_241 ci_X8_both cv_X8_both dX8_layCut_195 rfl hs_115 hb_X8 rfl rfl (Nat.le_of_ble_eq_true rfl) ⟨(Nat.le_of_ble_eq_true rfl), (Nat.le_of_ble_eq_true rfl)⟩ ⟨(Nat.le_of_ble_eq_true rfl), (Nat.le_of_ble_eq_true rfl)⟩ ?_
    refine t_X8_both q 130 131 hq hs_130 hs_131 ?_
    refine ev_eqi (w := mBo (I 123) (mSn 0 (I 126) 1) (mSn 0 (I 126) 2) q) rfl ?_
    refine ev_i2l (pc' := 199) (v := Int32.toInt64 (mBo (I 123) (mSn 0 (I 126) 1) (mSn 0 (I 126) 2) q)) dX8_layCut_198 rfl rfl ?_
    refine ev_last (pc' := 200) (j := 6) (L' := (ma_up L 120 (ma_up (ma_up (ma_up (ma_up (ma_up (ma_up (L 120) 0 (Int32.toInt64 (mBo (I 123) (mSn 0 (I 126) 0) (mSn 0 (I 126) 0) q))) 1 (Int32.toInt64 (mBo (I 123) (mSn 0 (I 126) 0) (mSn 0 (I 126) 1) q))) 2 (Int32.toInt64 (mBo (I 123) (mSn 0 (I 126) 0) (mSn 0 (I 126) 2) q))) 4 (Int32.toInt64 (mBo (I 123) (mSn 0 (I 126) 1) (mSn 0 (I 126) 0) q))) 5 (Int32.toInt64 (mBo (I 123) (mSn 0 (I 126) 1) (mSn 0 (I 126) 1) q))) 6 (Int32.toInt64 (mBo (I 123) (mSn 0 (I 126) 1) (mSn 0 (I 126) 2) q))))) dX8_layCut_199 rfl hs_120 rfl (Nat.le_of_ble_eq_true rfl) (Nat.le_of_ble_eq_true rfl) (ma_up_up _ _ _ _) ?_
    refine ev_iinc (pc' := 203) (v := 3) (lv' := [some (.ref 115), some (.int (nI q)), some (.int 0), some (.int 3), some (.int 1), some (.int 3), some (.int 4)]) dX8_layCut_200 rfl rfl (by decide) (Nat.le_of_ble_eq_true rfl) rfl rfl ?_
    refine ev_goto (tgt := 115) dX8_layCut_203 rfl ?_
    refine ev_iload (pc' := 117) dX8_layCut_115 rfl rfl ?_
    refine ev_iconst (pc' := 118) (v := 3) dX8_layCut_117 rfl ki_3 ?_
    refine ev_icmp_ge (tgt := 206) (pc' := 121) dX8_layCut_118 rfl rfl (fun _ => ?_) (fun h => absurd (by decide) h)
    refine ev_iinc (pc' := 209) (v := 2) (lv' := [some (.ref 115), some (.int (nI q)), some (.int 0), some (.int 3), some (.int 2), some (.int 3), some (.int 4)]) dX8_layCut_206 rfl rfl (by decide) (Nat.le_of_ble_eq_true rfl) rfl rfl ?_
    refine ev_goto (tgt := 106) dX8_layCut_209 rfl ?_
    refine ev_iload (pc' := 108) dX8_layCut_106 rfl rfl ?_
    refine ev_iconst (pc' := 109) (v := 3) dX8_layCut_108 rfl ki_3 ?_
    refine ev_icmp_ge (tgt := 212) (pc' := 112) dX8_layCut_109 rfl rfl (fun h => absurd h (by decide)) (fun _ => ?_)
    refine ev_iconst (pc' := 113) (v := 0) dX8_layCut_112 rfl ki_0 ?_
    refine ev_istore (pc' := 115) (lv' := [some (.ref 115), some (.int (nI q)), some (.int 0), some (.int 3), some (.int 2), some (.int 0), some (.int 4)]) dX8_layCut_113 rfl (Nat.le_of_ble_eq_true rfl) rfl rfl ?_
    refine ev_iload (pc' := 117) dX8_layCut_115 rfl rfl ?_
    refine ev_iconst (pc' := 118) (v := 3) dX8_layCut_117 rfl ki_3 ?_
    refine ev_icmp_ge (tgt := 206) (pc' := 121) dX8_layCut_118 rfl rfl (fun h => absurd h (by decide)) (fun _ => ?_)
    refine ev_iconst (pc' := 122) (v := 0) dX8_layCut_121 rfl ki_0 ?_
    refine ev_istore (pc' := 124) (lv' := [some (.ref 115), some (.int (nI q)), some (.int 0), some (.int 3), some (.int 2), some (.int 0), some (.int 0)]) dX8_layCut_122 rfl (Nat.le_of_ble_eq_true rfl) rfl rfl ?_
    refine ev_iload (pc' := 126) dX8_layCut_124 rfl rfl ?_
    refine ev_iconst (pc' := 127) (v := 4) dX8_layCut_126 rfl ki_4 ?_
    refine ev_icmp_ge (tgt := 174) (pc' := 130) dX8_layCut_127 rfl rfl (fun h => absurd h (by decide)) (fun _ => ?_)
    refine ev_aload_n (pc' := 131) (i := 0) dX8_layCut_130 rfl rfl rfl ?_
    refine ev_getR (pc' := 134) fo_X8_58 dX8_layCut_131 rfl hs_115 rfl rf_115_21 ?_
    refine ev_iload (pc' := 136) dX8_layCut_134 rfl rfl ?_
    refine ev_aload_n (pc' := 137) (i := 0) dX8_layCut_136 rfl rfl rfl ?_
    refine ev_getR (pc' := 140) fo_X8_55 dX8_layCut_137 rfl hs_115 rfl rf_115_20 ?_
    refine ev_iconst (pc' := 141) (v := 4) dX8_layCut_140 rfl ki_4 ?_
    refine ev_iload (pc' := 143) dX8_layCut_141 rfl rfl ?_
    refine ev_imul (pc' := 144) (v := 8) dX8_layCut_143 rfl (by decide) ?_
    refine ev_iload (pc' := 146) dX8_layCut_144 rfl rfl ?_
    refine ev_iadd (pc' := 147) (v := 8) dX8_layCut_146 rfl (by decide) ?_
    refine ev_iald (pc' := 148) (j := 8) (v := -((I 126) 3)) dX8_layCut_147 rfl hs_129 rfl (Nat.le_of_ble_eq_true rfl) (Nat.le_of_ble_eq_true rfl) rfl ?_
    refine ev_iast (pc' := 149) (j := 0) (I' := (ma_up (ma_up (ma_up I 129 (ma_up (ma_up (ma_up (ma_up (ma_up (ma_up (ma_up (ma_up (ma_up (ma_up (ma_up (ma_up (I 129) 0 (-((I 126) 1))) 1 ((I 126) 0)) 2 0) 3 0) 4 (-((I 126) 2))) 5 0) 6 ((I 126) 0)) 7 0) 8 (-((I 126) 3))) 9 0) 10 0) 11 ((I 126) 0))) 130 (ma_up (ma_up (ma_up (ma_up (I 130) 0 (-((I 126) 3))) 1 0) 2 ((I 126) 0)) 3 0)) 131 (ma_up (ma_up (ma_up (ma_up (I 131) 0 (-((I 126) 3))) 1 0) 2 0) 3 ((I 126) 0)))) dX8_layCut_148 rfl hs_130 rfl (Nat.le_of_ble_eq_true rfl) (Nat.le_of_ble_eq_true rfl) ((congrArg (ma_up _ 130) ((ma_up_comm _ (show 0 ≠ 3 from (by decide)) _ _).trans (congrArg (fun f => ma_up f 3 _) ((ma_up_comm _ (show 0 ≠ 2 from (by decide)) _ _).trans (congrArg (fun f => ma_up f 2 _) ((ma_up_comm _ (show 0 ≠ 1 from (by decide)) _ _).trans (congrArg (fun f => ma_up f 1 _) (ma_up_up _ _ _ _)))))))).trans ((ma_up_comm _ (show 130 ≠ 131 from (by decide)) _ _).trans (congrArg (fun f => ma_up f 131 _) (ma_up_up _ _ _ _)))) ?_
    refine ev_aload_n (pc' := 150) (i := 0) dX8_layCut_149 rfl rfl rfl ?_
    refine ev_getR (pc' := 153) fo_X8_61 dX8_layCut_150 rfl hs_115 rfl rf_115_22 ?_
    refine ev_iload (pc' := 155) dX8_layCut_153 rfl rfl ?_
    refine ev_aload_n (pc' := 156) (i := 0) dX8_layCut_155 rfl rfl rfl ?_
    refine ev_getR (pc' := 159) fo_X8_55 dX8_layCut_156 rfl hs_115 rfl rf_115_20 ?_
    refine ev_iconst (pc' := 160) (v := 4) dX8_layCut_159 rfl ki_4 ?_
    refine ev_iload (pc' := 162) dX8_layCut_160 rfl rfl ?_
    refine ev_imul (pc' := 163) (v := 0) dX8_layCut_162 rfl (by decide) ?_
    refine ev_iload (pc' := 165) dX8_layCut_163 rfl rfl ?_
    refine ev_iadd (pc' := 166) (v := 0) dX8_layCut_165 rfl (by decide) ?_
    refine ev_iald (pc' := 167) (j := 0) (v := -((I 126) 1)) dX8_layCut_166 rfl hs_129 rfl (Nat.le_of_ble_eq_true rfl) (Nat.le_of_ble_eq_true rfl) rfl ?_
    refine ev_iast (pc' := 168) (j := 0) (I' := (ma_up (ma_up (ma_up I 129 (ma_up (ma_up (ma_up (ma_up (ma_up (ma_up (ma_up (ma_up (ma_up (ma_up (ma_up (ma_up (I 129) 0 (-((I 126) 1))) 1 ((I 126) 0)) 2 0) 3 0) 4 (-((I 126) 2))) 5 0) 6 ((I 126) 0)) 7 0) 8 (-((I 126) 3))) 9 0) 10 0) 11 ((I 126) 0))) 130 (ma_up (ma_up (ma_up (ma_up (I 130) 0 (-((I 126) 3))) 1 0) 2 ((I 126) 0)) 3 0)) 131 (ma_up (ma_up (ma_up (ma_up (I 131) 0 (-((I 126) 1))) 1 0) 2 0) 3 ((I 126) 0)))) dX8_layCut_167 rfl hs_131 rfl (Nat.le_of_ble_eq_true rfl) (Nat.le_of_ble_eq_true rfl) ((congrArg (ma_up _ 131) ((ma_up_comm _ (show 0 ≠ 3 from (by decide)) _ _).trans (congrArg (fun f => ma_up f 3 _) ((ma_up_comm _ (show 0 ≠ 2 from (by decide)) _ _).trans (congrArg (fun f => ma_up f 2 _) ((ma_up_comm _ (show 0 ≠ 1 from (by decide)) _ _).trans (congrArg (fun f => ma_up f 1 _) (ma_up_up _ _ _ _)))))))).trans (ma_up_up _ _ _ _)) ?_
    refine ev_iinc (pc' := 171) (v := 1) (lv' := [some (.ref 115), some (.int (nI q)), some (.int 0), some (.int 3), some (.int 2), some (.int 0), some (.int 1)]) dX8_layCut_168 rfl rfl (by decide) (Nat.le_of_ble_eq_true rfl) rfl rfl ?_
    refine ev_goto (tgt := 124) dX8_layCut_171 rfl ?_
    refine ev_iload (pc' := 126) dX8_layCut_124 rfl rfl ?_
    refine ev_iconst (pc' := 127) (v := 4) dX8_layCut_126 rfl ki_4 ?_
    refine ev_icmp_ge (tgt := 174) (pc' := 130) dX8_layCut_127 rfl rfl (fun h => absurd h (by decide)) (fun _ => ?_)
    refine ev_aload_n (pc' := 131) (i := 0) dX8_layCut_130 rfl rfl rfl ?_
    refine ev_getR (pc' := 134) fo_X8_58 dX8_layCut_131 rfl hs_115 rfl rf_115_21 ?_
    refine ev_iload (pc' := 136) dX8_layCut_134 rfl rfl ?_
    refine ev_aload_n (pc' := 137) (i := 0) dX8_layCut_136 rfl rfl rfl ?_
    refine ev_getR (pc' := 140) fo_X8_55 dX8_layCut_137 rfl hs_115 rfl rf_115_20 ?_
    refine ev_iconst (pc' := 141) (v := 4) dX8_layCut_140 rfl ki_4 ?_
    refine ev_iload (pc' := 143) dX8_layCut_141 rfl rfl ?_
    refine ev_imul (pc' := 144) (v := 8) dX8_layCut_143 rfl (by decide) ?_
    refine ev_iload (pc' := 146) dX8_layCut_144 rfl rfl ?_
    refine ev_iadd (pc' := 147) (v := 9) dX8_layCut_146 rfl (by decide) ?_
    refine ev_iald (pc' := 148) (j := 9) (v := 0) dX8_layCut_147 rfl hs_129 rfl (Nat.le_of_ble_eq_true rfl) (Nat.le_of_ble_eq_true rfl) rfl ?_
    refine ev_iast (pc' := 149) (j := 1) (I' := (ma_up (ma_up (ma_up I 129 (ma_up (ma_up (ma_up (ma_up (ma_up (ma_up (ma_up (ma_up (ma_up (ma_up (ma_up (ma_up (I 129) 0 (-((I 126) 1))) 1 ((I 126) 0)) 2 0) 3 0) 4 (-((I 126) 2))) 5 0) 6 ((I 126) 0)) 7 0) 8 (-((I 126) 3))) 9 0) 10 0) 11 ((I 126) 0))) 130 (ma_up (ma_up (ma_up (ma_up (I 130) 0 (-((I 126) 3))) 1 0) 2 ((I 126) 0)) 3 0)) 131 (ma_up (ma_up (ma_up (ma_up (I 131) 0 (-((I 126) 1))) 1 0) 2 0) 3 ((I 126) 0)))) dX8_layCut_148 rfl hs_130 rfl (Nat.le_of_ble_eq_true rfl) (Nat.le_of_ble_eq_true rfl) ((congrArg (ma_up _ 130) ((ma_up_comm _ (show 1 ≠ 3 from (by decide)) _ _).trans (congrArg (fun f => ma_up f 3 _) ((ma_up_comm _ (show 1 ≠ 2 from (by decide)) _ _).trans (congrArg (fun f => ma_up f 2 _) (ma_up_up _ _ _ _)))))).trans ((ma_up_comm _ (show 130 ≠ 131 from (by decide)) _ _).trans (congrArg (fun f => ma_up f 131 _) (ma_up_up _ _ _ _)))) ?_
    refine ev_aload_n (pc' := 150) (i := 0) dX8_layCut_149 rfl rfl rfl ?_
    refine ev_getR (pc' := 153) fo_X8_61 dX8_layCut_150 rfl hs_115 rfl rf_115_22 ?_
    refine ev_iload (pc' := 155) dX8_layCut_153 rfl rfl ?_
    refine ev_aload_n (pc' := 156) (i := 0) dX8_layCut_155 rfl rfl rfl ?_
    refine ev_getR (pc' := 159) fo_X8_55 dX8_layCut_156 rfl hs_115 rfl rf_115_20 ?_
    refine ev_iconst (pc' := 160) (v := 4) dX8_layCut_159 rfl ki_4 ?_
    refine ev_iload (pc' := 162) dX8_layCut_160 rfl rfl ?_
    refine ev_imul (pc' := 163) (v := 0) dX8_layCut_162 rfl (by decide) ?_
    refine ev_iload (pc' := 165) dX8_layCut_163 rfl rfl ?_
    refine ev_iadd (pc' := 166) (v := 1) dX8_layCut_165 rfl (by decide) ?_
    refine ev_iald (pc' := 167) (j := 1) (v := (I 126) 0) dX8_layCut_166 rfl hs_129 rfl (Nat.le_of_ble_eq_true rfl) (Nat.le_of_ble_eq_true rfl) rfl ?_
    refine ev_iast (pc' := 168) (j := 1) (I' := (ma_up (ma_up (ma_up I 129 (ma_up (ma_up (ma_up (ma_up (ma_up (ma_up (ma_up (ma_up (ma_up (ma_up (ma_up (ma_up (I 129) 0 (-((I 126) 1))) 1 ((I 126) 0)) 2 0) 3 0) 4 (-((I 126) 2))) 5 0) 6 ((I 126) 0)) 7 0) 8 (-((I 126) 3))) 9 0) 10 0) 11 ((I 126) 0))) 130 (ma_up (ma_up (ma_up (ma_up (I 130) 0 (-((I 126) 3))) 1 0) 2 ((I 126) 0)) 3 0)) 131 (ma_up (ma_up (ma_up (ma_up (I 131) 0 (-((I 126) 1))) 1 ((I 126) 0)) 2 0) 3 ((I 126) 0)))) dX8_layCut_167 rfl hs_131 rfl (Nat.le_of_ble_eq_true rfl) (Nat.le_of_ble_eq_true rfl) ((congrArg (ma_up _ 131) ((ma_up_comm _ (show 1 ≠ 3 from (by decide)) _ _).trans (congrArg (fun f => ma_up f 3 _) ((ma_up_comm _ (show 1 ≠ 2 from (by decide)) _ _).trans (congrArg (fun f => ma_up f 2 _) (ma_up_up _ _ _ _)))))).trans (ma_up_up _ _ _ _)) ?_
    refine ev_iinc (pc' := 171) (v := 2) (lv' := [some (.ref 115), some (.int (nI q)), some (.int 0), some (.int 3), some (.int 2), some (.int 0), some (.int 2)]) dX8_layCut_168 rfl rfl (by decide) (Nat.le_of_ble_eq_true rfl) rfl rfl ?_
    refine ev_goto (tgt := 124) dX8_layCut_171 rfl ?_
    refine ev_iload (pc' := 126) dX8_layCut_124 rfl rfl ?_
    refine ev_iconst (pc' := 127) (v := 4) dX8_layCut_126 rfl ki_4 ?_
    refine ev_icmp_ge (tgt := 174) (pc' := 130) dX8_layCut_127 rfl rfl (fun h => absurd h (by decide)) (fun _ => ?_)
    refine ev_aload_n (pc' := 131) (i := 0) dX8_layCut_130 rfl rfl rfl ?_
    refine ev_getR (pc' := 134) fo_X8_58 dX8_layCut_131 rfl hs_115 rfl rf_115_21 ?_
    refine ev_iload (pc' := 136) dX8_layCut_134 rfl rfl ?_
    refine ev_aload_n (pc' := 137) (i := 0) dX8_layCut_136 rfl rfl rfl ?_
    refine ev_getR (pc' := 140) fo_X8_55 dX8_layCut_137 rfl hs_115 rfl rf_115_20 ?_
    refine ev_iconst (pc' := 141) (v := 4) dX8_layCut_140 rfl ki_4 ?_
    refine ev_iload (pc' := 143) dX8_layCut_141 rfl rfl ?_
    refine ev_imul (pc' := 144) (v := 8) dX8_layCut_143 rfl (by decide) ?_
    refine ev_iload (pc' := 146) dX8_layCut_144 rfl rfl ?_
    refine ev_iadd (pc' := 147) (v := 10) dX8_layCut_146 rfl (by decide) ?_
    refine ev_iald (pc' := 148) (j := 10) (v := 0) dX8_layCut_147 rfl hs_129 rfl (Nat.le_of_ble_eq_true rfl) (Nat.le_of_ble_eq_true rfl) rfl ?_
    refine ev_iast (pc' := 149) (j := 2) (I' := (ma_up (ma_up (ma_up I 129 (ma_up (ma_up (ma_up (ma_up (ma_up (ma_up (ma_up (ma_up (ma_up (ma_up (ma_up (ma_up (I 129) 0 (-((I 126) 1))) 1 ((I 126) 0)) 2 0) 3 0) 4 (-((I 126) 2))) 5 0) 6 ((I 126) 0)) 7 0) 8 (-((I 126) 3))) 9 0) 10 0) 11 ((I 126) 0))) 130 (ma_up (ma_up (ma_up (ma_up (I 130) 0 (-((I 126) 3))) 1 0) 2 0) 3 0)) 131 (ma_up (ma_up (ma_up (ma_up (I 131) 0 (-((I 126) 1))) 1 ((I 126) 0)) 2 0) 3 ((I 126) 0)))) dX8_layCut_148 rfl hs_130 rfl (Nat.le_of_ble_eq_true rfl) (Nat.le_of_ble_eq_true rfl) ((congrArg (ma_up _ 130) ((ma_up_comm _ (show 2 ≠ 3 from (by decide)) _ _).trans (congrArg (fun f => ma_up f 3 _) (ma_up_up _ _ _ _)))).trans ((ma_up_comm _ (show 130 ≠ 131 from (by decide)) _ _).trans (congrArg (fun f => ma_up f 131 _) (ma_up_up _ _ _ _)))) ?_
    refine ev_aload_n (pc' := 150) (i := 0) dX8_layCut_149 rfl rfl rfl ?_
    refine ev_getR (pc' := 153) fo_X8_61 dX8_layCut_150 rfl hs_115 rfl rf_115_22 ?_
    refine ev_iload (pc' := 155) dX8_layCut_153 rfl rfl ?_
    refine ev_aload_n (pc' := 156) (i := 0) dX8_layCut_155 rfl rfl rfl ?_
    refine ev_getR (pc' := 159) fo_X8_55 dX8_layCut_156 rfl hs_115 rfl rf_115_20 ?_
    refine ev_iconst (pc' := 160) (v := 4) dX8_layCut_159 rfl ki_4 ?_
    refine ev_iload (pc' := 162) dX8_layCut_160 rfl rfl ?_
    refine ev_imul (pc' := 163) (v := 0) dX8_layCut_162 rfl (by decide) ?_
    refine ev_iload (pc' := 165) dX8_layCut_163 rfl rfl ?_
    refine ev_iadd (pc' := 166) (v := 2) dX8_layCut_165 rfl (by decide) ?_
    refine ev_iald (pc' := 167) (j := 2) (v := 0) dX8_layCut_166 rfl hs_129 rfl (Nat.le_of_ble_eq_true rfl) (Nat.le_of_ble_eq_true rfl) rfl ?_
    refine ev_iast (pc' := 168) (j := 2) (I' := (ma_up (ma_up (ma_up I 129 (ma_up (ma_up (ma_up (ma_up (ma_up (ma_up (ma_up (ma_up (ma_up (ma_up (ma_up (ma_up (I 129) 0 (-((I 126) 1))) 1 ((I 126) 0)) 2 0) 3 0) 4 (-((I 126) 2))) 5 0) 6 ((I 126) 0)) 7 0) 8 (-((I 126) 3))) 9 0) 10 0) 11 ((I 126) 0))) 130 (ma_up (ma_up (ma_up (ma_up (I 130) 0 (-((I 126) 3))) 1 0) 2 0) 3 0)) 131 (ma_up (ma_up (ma_up (ma_up (I 131) 0 (-((I 126) 1))) 1 ((I 126) 0)) 2 0) 3 ((I 126) 0)))) dX8_layCut_167 rfl hs_131 rfl (Nat.le_of_ble_eq_true rfl) (Nat.le_of_ble_eq_true rfl) ((congrArg (ma_up _ 131) ((ma_up_comm _ (show 2 ≠ 3 from (by decide)) _ _).trans (congrArg (fun f => ma_up f 3 _) (ma_up_up _ _ _ _)))).trans (ma_up_up _ _ _ _)) ?_
    refine ev_iinc (pc' := 171) (v := 3) (lv' := [some (.ref 115), some (.int (nI q)), some (.int 0), some (.int 3), some (.int 2), some (.int 0), some (.int 3)]) dX8_layCut_168 rfl rfl (by decide) (Nat.le_of_ble_eq_true rfl) rfl rfl ?_
    refine ev_goto (tgt := 124) dX8_layCut_171 rfl ?_
    refine ev_iload (pc' := 126) dX8_layCut_124 rfl rfl ?_
    refine ev_iconst (pc' := 127) (v := 4) dX8_layCut_126 rfl ki_4 ?_
    refine ev_icmp_ge (tgt := 174) (pc' := 130) dX8_layCut_127 rfl rfl (fun h => absurd h (by decide)) (fun _ => ?_)
    refine ev_aload_n (pc' := 131) (i := 0) dX8_layCut_130 rfl rfl rfl ?_
    refine ev_getR (pc' := 134) fo_X8_58 dX8_layCut_131 rfl hs_115 rfl rf_115_21 ?_
    refine ev_iload (pc' := 136) dX8_layCut_134 rfl rfl ?_
    refine ev_aload_n (pc' := 137) (i := 0) dX8_layCut_136 rfl rfl rfl ?_
    refine ev_getR (pc' := 140) fo_X8_55 dX8_layCut_137 rfl hs_115 rfl rf_115_20 ?_
    refine ev_iconst (pc' := 141) (v := 4) dX8_layCut_140 rfl ki_4 ?_
    refine ev_iload (pc' := 143) dX8_layCut_141 rfl rfl ?_
    refine ev_imul (pc' := 144) (v := 8) dX8_layCut_143 rfl (by decide) ?_
    refine ev_iload (pc' := 146) dX8_layCut_144 rfl rfl ?_
    refine ev_iadd (pc' := 147) (v := 11) dX8_layCut_146 rfl (by decide) ?_
    refine ev_iald (pc' := 148) (j := 11) (v := (I 126) 0) dX8_layCut_147 rfl hs_129 rfl (Nat.le_of_ble_eq_true rfl) (Nat.le_of_ble_eq_true rfl) rfl ?_
    refine ev_iast (pc' := 149) (j := 3) (I' := (ma_up (ma_up (ma_up I 129 (ma_up (ma_up (ma_up (ma_up (ma_up (ma_up (ma_up (ma_up (ma_up (ma_up (ma_up (ma_up (I 129) 0 (-((I 126) 1))) 1 ((I 126) 0)) 2 0) 3 0) 4 (-((I 126) 2))) 5 0) 6 ((I 126) 0)) 7 0) 8 (-((I 126) 3))) 9 0) 10 0) 11 ((I 126) 0))) 130 (ma_up (ma_up (ma_up (ma_up (I 130) 0 (-((I 126) 3))) 1 0) 2 0) 3 ((I 126) 0))) 131 (ma_up (ma_up (ma_up (ma_up (I 131) 0 (-((I 126) 1))) 1 ((I 126) 0)) 2 0) 3 ((I 126) 0)))) dX8_layCut_148 rfl hs_130 rfl (Nat.le_of_ble_eq_true rfl) (Nat.le_of_ble_eq_true rfl) ((congrArg (ma_up _ 130) (ma_up_up _ _ _ _)).trans ((ma_up_comm _ (show 130 ≠ 131 from (by decide)) _ _).trans (congrArg (fun f => ma_up f 131 _) (ma_up_up _ _ _ _)))) ?_
    refine ev_aload_n (pc' := 150) (i := 0) dX8_layCut_149 rfl rfl rfl ?_
    refine ev_getR (pc' := 153) fo_X8_61 dX8_layCut_150 rfl hs_115 rfl rf_115_22 ?_
    refine ev_iload (pc' := 155) dX8_layCut_153 rfl rfl ?_
    refine ev_aload_n (pc' := 156) (i := 0) dX8_layCut_155 rfl rfl rfl ?_
    refine ev_getR (pc' := 159) fo_X8_55 dX8_layCut_156 rfl hs_115 rfl rf_115_20 ?_
    refine ev_iconst (pc' := 160) (v := 4) dX8_layCut_159 rfl ki_4 ?_
    refine ev_iload (pc' := 162) dX8_layCut_160 rfl rfl ?_
    refine ev_imul (pc' := 163) (v := 0) dX8_layCut_162 rfl (by decide) ?_
    refine ev_iload (pc' := 165) dX8_layCut_163 rfl rfl ?_
    refine ev_iadd (pc' := 166) (v := 3) dX8_layCut_165 rfl (by decide) ?_
    refine ev_iald (pc' := 167) (j := 3) (v := 0) dX8_layCut_166 rfl hs_129 rfl (Nat.le_of_ble_eq_true rfl) (Nat.le_of_ble_eq_true rfl) rfl ?_
    refine ev_iast (pc' := 168) (j := 3) (I' := (ma_up (ma_up (ma_up I 129 (ma_up (ma_up (ma_up (ma_up (ma_up (ma_up (ma_up (ma_up (ma_up (ma_up (ma_up (ma_up (I 129) 0 (-((I 126) 1))) 1 ((I 126) 0)) 2 0) 3 0) 4 (-((I 126) 2))) 5 0) 6 ((I 126) 0)) 7 0) 8 (-((I 126) 3))) 9 0) 10 0) 11 ((I 126) 0))) 130 (ma_up (ma_up (ma_up (ma_up (I 130) 0 (-((I 126) 3))) 1 0) 2 0) 3 ((I 126) 0))) 131 (ma_up (ma_up (ma_up (ma_up (I 131) 0 (-((I 126) 1))) 1 ((I 126) 0)) 2 0) 3 0))) dX8_layCut_167 rfl hs_131 rfl (Nat.le_of_ble_eq_true rfl) (Nat.le_of_ble_eq_true rfl) ((congrArg (ma_up _ 131) (ma_up_up _ _ _ _)).trans (ma_up_up _ _ _ _)) ?_
    refine ev_iinc (pc' := 171) (v := 4) (lv' := [some (.ref 115), some (.int (nI q)), some (.int 0), some (.int 3), some (.int 2), some (.int 0), some (.int 4)]) dX8_layCut_168 rfl rfl (by decide) (Nat.le_of_ble_eq_true rfl) rfl rfl ?_
    refine ev_goto (tgt := 124) dX8_layCut_171 rfl ?_
    refine ev_iload (pc' := 126) dX8_layCut_124 rfl rfl ?_
    refine ev_iconst (pc' := 127) (v := 4) dX8_layCut_126 rfl ki_4 ?_
    refine ev_icmp_ge (tgt := 174) (pc' := 130) dX8_layCut_127 rfl rfl (fun _ => ?_) (fun h => absurd (by decide) h)
    refine ev_aload_n (pc' := 175) (i := 0) dX8_layCut_174 rfl rfl rfl ?_
    refine ev_getR (pc' := 178) fo_X8_26 dX8_layCut_175 rfl hs_115 rfl rf_115_8 ?_
    refine ev_iconst (pc' := 179) (v := 4) dX8_layCut_178 rfl ki_4 ?_
    refine ev_iload (pc' := 181) dX8_layCut_179 rfl rfl ?_
    refine ev_imul (pc' := 182) (v := 8) dX8_layCut_181 rfl (by decide) ?_
    refine ev_iload (pc' := 184) dX8_layCut_182 rfl rfl ?_
    refine ev_iadd (pc' := 185) (v := 8) dX8_layCut_184 rfl (by decide) ?_
    refine ev_aload_n (pc' := 186) (i := 0) dX8_layCut_185 rfl rfl rfl ?_
    refine ev_iload_n (pc' := 187) (i := 1) dX8_layCut_186 rfl rfl rfl ?_
    refine ev_aload_n (pc' := 188) (i := 0) dX8_layCut_187 rfl rfl rfl ?_
    refine ev_getR (pc' := 191) fo_X8_58 dX8_layCut_188 rfl hs_115 rfl rf_115_21 ?_
    refine ev_aload_n (pc' := 192) (i := 0) dX8_layCut_191 rfl rfl rfl ?_
    refine ev_getR (pc' := 195) fo_X8_61 dX8_layCut_192 rfl hs_115 rfl rf_115_22 ?_
    refine ev_callV (pc' := 198) (rm' := rX8_both) (b := 115) (av := [.int (nI q), .ref 130, .ref 131]) (rest := [.int 8, .ref 120]) co_X8_241 ci_X8_both cv_X8_both dX8_layCut_195 rfl hs_115 hb_X8 rfl rfl (Nat.le_of_ble_eq_true rfl) ⟨(Nat.le_of_ble_eq_true rfl), (Nat.le_of_ble_eq_true rfl)⟩ ⟨(Nat.le_of_ble_eq_true rfl), (Nat.le_of_ble_eq_true rfl)⟩ ?_
    refine t_X8_both q 130 131 hq hs_130 hs_131 ?_
    refine ev_eqi (w := mBo (I 123) (mSn 0 (I 126) 2) (mSn 0 (I 126) 0) q) rfl ?_
    refine ev_i2l (pc' := 199) (v := Int32.toInt64 (mBo (I 123) (mSn 0 (I 126) 2) (mSn 0 (I 126) 0) q)) dX8_layCut_198 rfl rfl ?_
    refine ev_last (pc' := 200) (j := 8) (L' := (ma_up L 120 (ma_up (ma_up (ma_up (ma_up (ma_up (ma_up (ma_up (L 120) 0 (Int32.toInt64 (mBo (I 123) (mSn 0 (I 126) 0) (mSn 0 (I 126) 0) q))) 1 (Int32.toInt64 (mBo (I 123) (mSn 0 (I 126) 0) (mSn 0 (I 126) 1) q))) 2 (Int32.toInt64 (mBo (I 123) (mSn 0 (I 126) 0) (mSn 0 (I 126) 2) q))) 4 (Int32.toInt64 (mBo (I 123) (mSn 0 (I 126) 1) (mSn 0 (I 126) 0) q))) 5 (Int32.toInt64 (mBo (I 123) (mSn 0 (I 126) 1) (mSn 0 (I 126) 1) q))) 6 (Int32.toInt64 (mBo (I 123) (mSn 0 (I 126) 1) (mSn 0 (I 126) 2) q))) 8 (Int32.toInt64 (mBo (I 123) (mSn 0 (I 126) 2) (mSn 0 (I 126) 0) q))))) dX8_layCut_199 rfl hs_120 rfl (Nat.le_of_ble_eq_true rfl) (Nat.le_of_ble_eq_true rfl) (ma_up_up _ _ _ _) ?_
    refine ev_iinc (pc' := 203) (v := 1) (lv' := [some (.ref 115), some (.int (nI q)), some (.int 0), some (.int 3), some (.int 2), some (.int 1), some (.int 4)]) dX8_layCut_200 rfl rfl (by decide) (Nat.le_of_ble_eq_true rfl) rfl rfl ?_
    refine ev_goto (tgt := 115) dX8_layCut_203 rfl ?_
    refine ev_iload (pc' := 117) dX8_layCut_115 rfl rfl ?_
    refine ev_iconst (pc' := 118) (v := 3) dX8_layCut_117 rfl ki_3 ?_
    refine ev_icmp_ge (tgt := 206) (pc' := 121) dX8_layCut_118 rfl rfl (fun h => absurd h (by decide)) (fun _ => ?_)
    refine ev_iconst (pc' := 122) (v := 0) dX8_layCut_121 rfl ki_0 ?_
    refine ev_istore (pc' := 124) (lv' := [some (.ref 115), some (.int (nI q)), some (.int 0), some (.int 3), some (.int 2), some (.int 1), some (.int 0)]) dX8_layCut_122 rfl (Nat.le_of_ble_eq_true rfl) rfl rfl ?_
    refine ev_iload (pc' := 126) dX8_layCut_124 rfl rfl ?_
    refine ev_iconst (pc' := 127) (v := 4) dX8_layCut_126 rfl ki_4 ?_
    refine ev_icmp_ge (tgt := 174) (pc' := 130) dX8_layCut_127 rfl rfl (fun h => absurd h (by decide)) (fun _ => ?_)
    refine ev_aload_n (pc' := 131) (i := 0) dX8_layCut_130 rfl rfl rfl ?_
    refine ev_getR (pc' := 134) fo_X8_58 dX8_layCut_131 rfl hs_115 rfl rf_115_21 ?_
    refine ev_iload (pc' := 136) dX8_layCut_134 rfl rfl ?_
    refine ev_aload_n (pc' := 137) (i := 0) dX8_layCut_136 rfl rfl rfl ?_
    refine ev_getR (pc' := 140) fo_X8_55 dX8_layCut_137 rfl hs_115 rfl rf_115_20 ?_
    refine ev_iconst (pc' := 141) (v := 4) dX8_layCut_140 rfl ki_4 ?_
    refine ev_iload (pc' := 143) dX8_layCut_141 rfl rfl ?_
    refine ev_imul (pc' := 144) (v := 8) dX8_layCut_143 rfl (by decide) ?_
    refine ev_iload (pc' := 146) dX8_layCut_144 rfl rfl ?_
    refine ev_iadd (pc' := 147) (v := 8) dX8_layCut_146 rfl (by decide) ?_
    refine ev_iald (pc' := 148) (j := 8) (v := -((I 126) 3)) dX8_layCut_147 rfl hs_129 rfl (Nat.le_of_ble_eq_true rfl) (Nat.le_of_ble_eq_true rfl) rfl ?_
    refine ev_iast (pc' := 149) (j := 0) (I' := (ma_up (ma_up (ma_up I 129 (ma_up (ma_up (ma_up (ma_up (ma_up (ma_up (ma_up (ma_up (ma_up (ma_up (ma_up (ma_up (I 129) 0 (-((I 126) 1))) 1 ((I 126) 0)) 2 0) 3 0) 4 (-((I 126) 2))) 5 0) 6 ((I 126) 0)) 7 0) 8 (-((I 126) 3))) 9 0) 10 0) 11 ((I 126) 0))) 130 (ma_up (ma_up (ma_up (ma_up (I 130) 0 (-((I 126) 3))) 1 0) 2 0) 3 ((I 126) 0))) 131 (ma_up (ma_up (ma_up (ma_up (I 131) 0 (-((I 126) 1))) 1 ((I 126) 0)) 2 0) 3 0))) dX8_layCut_148 rfl hs_130 rfl (Nat.le_of_ble_eq_true rfl) (Nat.le_of_ble_eq_true rfl) ((congrArg (ma_up _ 130) ((ma_up_comm _ (show 0 ≠ 3 from (by decide)) _ _).trans (congrArg (fun f => ma_up f 3 _) ((ma_up_comm _ (show 0 ≠ 2 from (by decide)) _ _).trans (congrArg (fun f => ma_up f 2 _) ((ma_up_comm _ (show 0 ≠ 1 from (by decide)) _ _).trans (congrArg (fun f => ma_up f 1 _) (ma_up_up _ _ _ _)))))))).trans ((ma_up_comm _ (show 130 ≠ 131 from (by decide)) _ _).trans (congrArg (fun f => ma_up f 131 _) (ma_up_up _ _ _ _)))) ?_
    refine ev_aload_n (pc' := 150) (i := 0) dX8_layCut_149 rfl rfl rfl ?_
    refine ev_getR (pc' := 153) fo_X8_61 dX8_layCut_150 rfl hs_115 rfl rf_115_22 ?_
    refine ev_iload (pc' := 155) dX8_layCut_153 rfl rfl ?_
    refine ev_aload_n (pc' := 156) (i := 0) dX8_layCut_155 rfl rfl rfl ?_
    refine ev_getR (pc' := 159) fo_X8_55 dX8_layCut_156 rfl hs_115 rfl rf_115_20 ?_
    refine ev_iconst (pc' := 160) (v := 4) dX8_layCut_159 rfl ki_4 ?_
    refine ev_iload (pc' := 162) dX8_layCut_160 rfl rfl ?_
    refine ev_imul (pc' := 163) (v := 4) dX8_layCut_162 rfl (by decide) ?_
    refine ev_iload (pc' := 165) dX8_layCut_163 rfl rfl ?_
    refine ev_iadd (pc' := 166) (v := 4) dX8_layCut_165 rfl (by decide) ?_
    refine ev_iald (pc' := 167) (j := 4) (v := -((I 126) 2)) dX8_layCut_166 rfl hs_129 rfl (Nat.le_of_ble_eq_true rfl) (Nat.le_of_ble_eq_true rfl) rfl ?_
    refine ev_iast (pc' := 168) (j := 0) (I' := (ma_up (ma_up (ma_up I 129 (ma_up (ma_up (ma_up (ma_up (ma_up (ma_up (ma_up (ma_up (ma_up (ma_up (ma_up (ma_up (I 129) 0 (-((I 126) 1))) 1 ((I 126) 0)) 2 0) 3 0) 4 (-((I 126) 2))) 5 0) 6 ((I 126) 0)) 7 0) 8 (-((I 126) 3))) 9 0) 10 0) 11 ((I 126) 0))) 130 (ma_up (ma_up (ma_up (ma_up (I 130) 0 (-((I 126) 3))) 1 0) 2 0) 3 ((I 126) 0))) 131 (ma_up (ma_up (ma_up (ma_up (I 131) 0 (-((I 126) 2))) 1 ((I 126) 0)) 2 0) 3 0))) dX8_layCut_167 rfl hs_131 rfl (Nat.le_of_ble_eq_true rfl) (Nat.le_of_ble_eq_true rfl) ((congrArg (ma_up _ 131) ((ma_up_comm _ (show 0 ≠ 3 from (by decide)) _ _).trans (congrArg (fun f => ma_up f 3 _) ((ma_up_comm _ (show 0 ≠ 2 from (by decide)) _ _).trans (congrArg (fun f => ma_up f 2 _) ((ma_up_comm _ (show 0 ≠ 1 from (by decide)) _ _).trans (congrArg (fun f => ma_up f 1 _) (ma_up_up _ _ _ _)))))))).trans (ma_up_up _ _ _ _)) ?_
    refine ev_iinc (pc' := 171) (v := 1) (lv' := [some (.ref 115), some (.int (nI q)), some (.int 0), some (.int 3), some (.int 2), some (.int 1), some (.int 1)]) dX8_layCut_168 rfl rfl (by decide) (Nat.le_of_ble_eq_true rfl) rfl rfl ?_
    refine ev_goto (tgt := 124) dX8_layCut_171 rfl ?_
    refine ev_iload (pc' := 126) dX8_layCut_124 rfl rfl ?_
    refine ev_iconst (pc' := 127) (v := 4) dX8_layCut_126 rfl ki_4 ?_
    refine ev_icmp_ge (tgt := 174) (pc' := 130) dX8_layCut_127 rfl rfl (fun h => absurd h (by decide)) (fun _ => ?_)
    refine ev_aload_n (pc' := 131) (i := 0) dX8_layCut_130 rfl rfl rfl ?_
    refine ev_getR (pc' := 134) fo_X8_58 dX8_layCut_131 rfl hs_115 rfl rf_115_21 ?_
    refine ev_iload (pc' := 136) dX8_layCut_134 rfl rfl ?_
    refine ev_aload_n (pc' := 137) (i := 0) dX8_layCut_136 rfl rfl rfl ?_
    refine ev_getR (pc' := 140) fo_X8_55 dX8_layCut_137 rfl hs_115 rfl rf_115_20 ?_
    refine ev_iconst (pc' := 141) (v := 4) dX8_layCut_140 rfl ki_4 ?_
    refine ev_iload (pc' := 143) dX8_layCut_141 rfl rfl ?_
    refine ev_imul (pc' := 144) (v := 8) dX8_layCut_143 rfl (by decide) ?_
    refine ev_iload (pc' := 146) dX8_layCut_144 rfl rfl ?_
    refine ev_iadd (pc' := 147) (v := 9) dX8_layCut_146 rfl (by decide) ?_
    refine ev_iald (pc' := 148) (j := 9) (v := 0) dX8_layCut_147 rfl hs_129 rfl (Nat.le_of_ble_eq_true rfl) (Nat.le_of_ble_eq_true rfl) rfl ?_
    refine ev_iast (pc' := 149) (j := 1) (I' := (ma_up (ma_up (ma_up I 129 (ma_up (ma_up (ma_up (ma_up (ma_up (ma_up (ma_up (ma_up (ma_up (ma_up (ma_up (ma_up (I 129) 0 (-((I 126) 1))) 1 ((I 126) 0)) 2 0) 3 0) 4 (-((I 126) 2))) 5 0) 6 ((I 126) 0)) 7 0) 8 (-((I 126) 3))) 9 0) 10 0) 11 ((I 126) 0))) 130 (ma_up (ma_up (ma_up (ma_up (I 130) 0 (-((I 126) 3))) 1 0) 2 0) 3 ((I 126) 0))) 131 (ma_up (ma_up (ma_up (ma_up (I 131) 0 (-((I 126) 2))) 1 ((I 126) 0)) 2 0) 3 0))) dX8_layCut_148 rfl hs_130 rfl (Nat.le_of_ble_eq_true rfl) (Nat.le_of_ble_eq_true rfl) ((congrArg (ma_up _ 130) ((ma_up_comm _ (show 1 ≠ 3 from (by decide)) _ _).trans (congrArg (fun f => ma_up f 3 _) ((ma_up_comm _ (show 1 ≠ 2 from (by decide)) _ _).trans (congrArg (fun f => ma_up f 2 _) (ma_up_up _ _ _ _)))))).trans ((ma_up_comm _ (show 130 ≠ 131 from (by decide)) _ _).trans (congrArg (fun f => ma_up f 131 _) (ma_up_up _ _ _ _)))) ?_
    refine ev_aload_n (pc' := 150) (i := 0) dX8_layCut_149 rfl rfl rfl ?_
    refine ev_getR (pc' := 153) fo_X8_61 dX8_layCut_150 rfl hs_115 rfl rf_115_22 ?_
    refine ev_iload (pc' := 155) dX8_layCut_153 rfl rfl ?_
    refine ev_aload_n (pc' := 156) (i := 0) dX8_layCut_155 rfl rfl rfl ?_
    refine ev_getR (pc' := 159) fo_X8_55 dX8_layCut_156 rfl hs_115 rfl rf_115_20 ?_
    refine ev_iconst (pc' := 160) (v := 4) dX8_layCut_159 rfl ki_4 ?_
    refine ev_iload (pc' := 162) dX8_layCut_160 rfl rfl ?_
    refine ev_imul (pc' := 163) (v := 4) dX8_layCut_162 rfl (by decide) ?_
    refine ev_iload (pc' := 165) dX8_layCut_163 rfl rfl ?_
    refine ev_iadd (pc' := 166) (v := 5) dX8_layCut_165 rfl (by decide) ?_
    refine ev_iald (pc' := 167) (j := 5) (v := 0) dX8_layCut_166 rfl hs_129 rfl (Nat.le_of_ble_eq_true rfl) (Nat.le_of_ble_eq_true rfl) rfl ?_
    refine ev_iast (pc' := 168) (j := 1) (I' := (ma_up (ma_up (ma_up I 129 (ma_up (ma_up (ma_up (ma_up (ma_up (ma_up (ma_up (ma_up (ma_up (ma_up (ma_up (ma_up (I 129) 0 (-((I 126) 1))) 1 ((I 126) 0)) 2 0) 3 0) 4 (-((I 126) 2))) 5 0) 6 ((I 126) 0)) 7 0) 8 (-((I 126) 3))) 9 0) 10 0) 11 ((I 126) 0))) 130 (ma_up (ma_up (ma_up (ma_up (I 130) 0 (-((I 126) 3))) 1 0) 2 0) 3 ((I 126) 0))) 131 (ma_up (ma_up (ma_up (ma_up (I 131) 0 (-((I 126) 2))) 1 0) 2 0) 3 0))) dX8_layCut_167 rfl hs_131 rfl (Nat.le_of_ble_eq_true rfl) (Nat.le_of_ble_eq_true rfl) ((congrArg (ma_up _ 131) ((ma_up_comm _ (show 1 ≠ 3 from (by decide)) _ _).trans (congrArg (fun f => ma_up f 3 _) ((ma_up_comm _ (show 1 ≠ 2 from (by decide)) _ _).trans (congrArg (fun f => ma_up f 2 _) (ma_up_up _ _ _ _)))))).trans (ma_up_up _ _ _ _)) ?_
    refine ev_iinc (pc' := 171) (v := 2) (lv' := [some (.ref 115), some (.int (nI q)), some (.int 0), some (.int 3), some (.int 2), some (.int 1), some (.int 2)]) dX8_layCut_168 rfl rfl (by decide) (Nat.le_of_ble_eq_true rfl) rfl rfl ?_
    refine ev_goto (tgt := 124) dX8_layCut_171 rfl ?_
    refine ev_iload (pc' := 126) dX8_layCut_124 rfl rfl ?_
    refine ev_iconst (pc' := 127) (v := 4) dX8_layCut_126 rfl ki_4 ?_
    refine ev_icmp_ge (tgt := 174) (pc' := 130) dX8_layCut_127 rfl rfl (fun h => absurd h (by decide)) (fun _ => ?_)
    refine ev_aload_n (pc' := 131) (i := 0) dX8_layCut_130 rfl rfl rfl ?_
    refine ev_getR (pc' := 134) fo_X8_58 dX8_layCut_131 rfl hs_115 rfl rf_115_21 ?_
    refine ev_iload (pc' := 136) dX8_layCut_134 rfl rfl ?_
    refine ev_aload_n (pc' := 137) (i := 0) dX8_layCut_136 rfl rfl rfl ?_
    refine ev_getR (pc' := 140) fo_X8_55 dX8_layCut_137 rfl hs_115 rfl rf_115_20 ?_
    refine ev_iconst (pc' := 141) (v := 4) dX8_layCut_140 rfl ki_4 ?_
    refine ev_iload (pc' := 143) dX8_layCut_141 rfl rfl ?_
    refine ev_imul (pc' := 144) (v := 8) dX8_layCut_143 rfl (by decide) ?_
    refine ev_iload (pc' := 146) dX8_layCut_144 rfl rfl ?_
    refine ev_iadd (pc' := 147) (v := 10) dX8_layCut_146 rfl (by decide) ?_
    refine ev_iald (pc' := 148) (j := 10) (v := 0) dX8_layCut_147 rfl hs_129 rfl (Nat.le_of_ble_eq_true rfl) (Nat.le_of_ble_eq_true rfl) rfl ?_
    refine ev_iast (pc' := 149) (j := 2) (I' := (ma_up (ma_up (ma_up I 129 (ma_up (ma_up (ma_up (ma_up (ma_up (ma_up (ma_up (ma_up (ma_up (ma_up (ma_up (ma_up (I 129) 0 (-((I 126) 1))) 1 ((I 126) 0)) 2 0) 3 0) 4 (-((I 126) 2))) 5 0) 6 ((I 126) 0)) 7 0) 8 (-((I 126) 3))) 9 0) 10 0) 11 ((I 126) 0))) 130 (ma_up (ma_up (ma_up (ma_up (I 130) 0 (-((I 126) 3))) 1 0) 2 0) 3 ((I 126) 0))) 131 (ma_up (ma_up (ma_up (ma_up (I 131) 0 (-((I 126) 2))) 1 0) 2 0) 3 0))) dX8_layCut_148 rfl hs_130 rfl (Nat.le_of_ble_eq_true rfl) (Nat.le_of_ble_eq_true rfl) ((congrArg (ma_up _ 130) ((ma_up_comm _ (show 2 ≠ 3 from (by decide)) _ _).trans (congrArg (fun f => ma_up f 3 _) (ma_up_up _ _ _ _)))).trans ((ma_up_comm _ (show 130 ≠ 131 from (by decide)) _ _).trans (congrArg (fun f => ma_up f 131 _) (ma_up_up _ _ _ _)))) ?_
    refine ev_aload_n (pc' := 150) (i := 0) dX8_layCut_149 rfl rfl rfl ?_
    refine ev_getR (pc' := 153) fo_X8_61 dX8_layCut_150 rfl hs_115 rfl rf_115_22 ?_
    refine ev_iload (pc' := 155) dX8_layCut_153 rfl rfl ?_
    refine ev_aload_n (pc' := 156) (i := 0) dX8_layCut_155 rfl rfl rfl ?_
    refine ev_getR (pc' := 159) fo_X8_55 dX8_layCut_156 rfl hs_115 rfl rf_115_20 ?_
    refine ev_iconst (pc' := 160) (v := 4) dX8_layCut_159 rfl ki_4 ?_
    refine ev_iload (pc' := 162) dX8_layCut_160 rfl rfl ?_
    refine ev_imul (pc' := 163) (v := 4) dX8_layCut_162 rfl (by decide) ?_
    refine ev_iload (pc' := 165) dX8_layCut_163 rfl rfl ?_
    refine ev_iadd (pc' := 166) (v := 6) dX8_layCut_165 rfl (by decide) ?_
    refine ev_iald (pc' := 167) (j := 6) (v := (I 126) 0) dX8_layCut_166 rfl hs_129 rfl (Nat.le_of_ble_eq_true rfl) (Nat.le_of_ble_eq_true rfl) rfl ?_
    refine ev_iast (pc' := 168) (j := 2) (I' := (ma_up (ma_up (ma_up I 129 (ma_up (ma_up (ma_up (ma_up (ma_up (ma_up (ma_up (ma_up (ma_up (ma_up (ma_up (ma_up (I 129) 0 (-((I 126) 1))) 1 ((I 126) 0)) 2 0) 3 0) 4 (-((I 126) 2))) 5 0) 6 ((I 126) 0)) 7 0) 8 (-((I 126) 3))) 9 0) 10 0) 11 ((I 126) 0))) 130 (ma_up (ma_up (ma_up (ma_up (I 130) 0 (-((I 126) 3))) 1 0) 2 0) 3 ((I 126) 0))) 131 (ma_up (ma_up (ma_up (ma_up (I 131) 0 (-((I 126) 2))) 1 0) 2 ((I 126) 0)) 3 0))) dX8_layCut_167 rfl hs_131 rfl (Nat.le_of_ble_eq_true rfl) (Nat.le_of_ble_eq_true rfl) ((congrArg (ma_up _ 131) ((ma_up_comm _ (show 2 ≠ 3 from (by decide)) _ _).trans (congrArg (fun f => ma_up f 3 _) (ma_up_up _ _ _ _)))).trans (ma_up_up _ _ _ _)) ?_
    refine ev_iinc (pc' := 171) (v := 3) (lv' := [some (.ref 115), some (.int (nI q)), some (.int 0), some (.int 3), some (.int 2), some (.int 1), some (.int 3)]) dX8_layCut_168 rfl rfl (by decide) (Nat.le_of_ble_eq_true rfl) rfl rfl ?_
    refine ev_goto (tgt := 124) dX8_layCut_171 rfl ?_
    refine ev_iload (pc' := 126) dX8_layCut_124 rfl rfl ?_
    refine ev_iconst (pc' := 127) (v := 4) dX8_layCut_126 rfl ki_4 ?_
    refine ev_icmp_ge (tgt := 174) (pc' := 130) dX8_layCut_127 rfl rfl (fun h => absurd h (by decide)) (fun _ => ?_)
    refine ev_aload_n (pc' := 131) (i := 0) dX8_layCut_130 rfl rfl rfl ?_
    refine ev_getR (pc' := 134) fo_X8_58 dX8_layCut_131 rfl hs_115 rfl rf_115_21 ?_
    refine ev_iload (pc' := 136) dX8_layCut_134 rfl rfl ?_
    refine ev_aload_n (pc' := 137) (i := 0) dX8_layCut_136 rfl rfl rfl ?_
    refine ev_getR (pc' := 140) fo_X8_55 dX8_layCut_137 rfl hs_115 rfl rf_115_20 ?_
    refine ev_iconst (pc' := 141) (v := 4) dX8_layCut_140 rfl ki_4 ?_
    refine ev_iload (pc' := 143) dX8_layCut_141 rfl rfl ?_
    refine ev_imul (pc' := 144) (v := 8) dX8_layCut_143 rfl (by decide) ?_
    refine ev_iload (pc' := 146) dX8_layCut_144 rfl rfl ?_
    refine ev_iadd (pc' := 147) (v := 11) dX8_layCut_146 rfl (by decide) ?_
    refine ev_iald (pc' := 148) (j := 11) (v := (I 126) 0) dX8_layCut_147 rfl hs_129 rfl (Nat.le_of_ble_eq_true rfl) (Nat.le_of_ble_eq_true rfl) rfl ?_
    refine ev_iast (pc' := 149) (j := 3) (I' := (ma_up (ma_up (ma_up I 129 (ma_up (ma_up (ma_up (ma_up (ma_up (ma_up (ma_up (ma_up (ma_up (ma_up (ma_up (ma_up (I 129) 0 (-((I 126) 1))) 1 ((I 126) 0)) 2 0) 3 0) 4 (-((I 126) 2))) 5 0) 6 ((I 126) 0)) 7 0) 8 (-((I 126) 3))) 9 0) 10 0) 11 ((I 126) 0))) 130 (ma_up (ma_up (ma_up (ma_up (I 130) 0 (-((I 126) 3))) 1 0) 2 0) 3 ((I 126) 0))) 131 (ma_up (ma_up (ma_up (ma_up (I 131) 0 (-((I 126) 2))) 1 0) 2 ((I 126) 0)) 3 0))) dX8_layCut_148 rfl hs_130 rfl (Nat.le_of_ble_eq_true rfl) (Nat.le_of_ble_eq_true rfl) ((congrArg (ma_up _ 130) (ma_up_up _ _ _ _)).trans ((ma_up_comm _ (show 130 ≠ 131 from (by decide)) _ _).trans (congrArg (fun f => ma_up f 131 _) (ma_up_up _ _ _ _)))) ?_
    refine ev_aload_n (pc' := 150) (i := 0) dX8_layCut_149 rfl rfl rfl ?_
    refine ev_getR (pc' := 153) fo_X8_61 dX8_layCut_150 rfl hs_115 rfl rf_115_22 ?_
    refine ev_iload (pc' := 155) dX8_layCut_153 rfl rfl ?_
    refine ev_aload_n (pc' := 156) (i := 0) dX8_layCut_155 rfl rfl rfl ?_
    refine ev_getR (pc' := 159) fo_X8_55 dX8_layCut_156 rfl hs_115 rfl rf_115_20 ?_
    refine ev_iconst (pc' := 160) (v := 4) dX8_layCut_159 rfl ki_4 ?_
    refine ev_iload (pc' := 162) dX8_layCut_160 rfl rfl ?_
    refine ev_imul (pc' := 163) (v := 4) dX8_layCut_162 rfl (by decide) ?_
    refine ev_iload (pc' := 165) dX8_layCut_163 rfl rfl ?_
    refine ev_iadd (pc' := 166) (v := 7) dX8_layCut_165 rfl (by decide) ?_
    refine ev_iald (pc' := 167) (j := 7) (v := 0) dX8_layCut_166 rfl hs_129 rfl (Nat.le_of_ble_eq_true rfl) (Nat.le_of_ble_eq_true rfl) rfl ?_
    refine ev_iast (pc' := 168) (j := 3) (I' := (ma_up (ma_up (ma_up I 129 (ma_up (ma_up (ma_up (ma_up (ma_up (ma_up (ma_up (ma_up (ma_up (ma_up (ma_up (ma_up (I 129) 0 (-((I 126) 1))) 1 ((I 126) 0)) 2 0) 3 0) 4 (-((I 126) 2))) 5 0) 6 ((I 126) 0)) 7 0) 8 (-((I 126) 3))) 9 0) 10 0) 11 ((I 126) 0))) 130 (ma_up (ma_up (ma_up (ma_up (I 130) 0 (-((I 126) 3))) 1 0) 2 0) 3 ((I 126) 0))) 131 (ma_up (ma_up (ma_up (ma_up (I 131) 0 (-((I 126) 2))) 1 0) 2 ((I 126) 0)) 3 0))) dX8_layCut_167 rfl hs_131 rfl (Nat.le_of_ble_eq_true rfl) (Nat.le_of_ble_eq_true rfl) ((congrArg (ma_up _ 131) (ma_up_up _ _ _ _)).trans (ma_up_up _ _ _ _)) ?_
    refine ev_iinc (pc' := 171) (v := 4) (lv' := [some (.ref 115), some (.int (nI q)), some (.int 0), some (.int 3), some (.int 2), some (.int 1), some (.int 4)]) dX8_layCut_168 rfl rfl (by decide) (Nat.le_of_ble_eq_true rfl) rfl rfl ?_
    refine ev_goto (tgt := 124) dX8_layCut_171 rfl ?_
    refine ev_iload (pc' := 126) dX8_layCut_124 rfl rfl ?_
    refine ev_iconst (pc' := 127) (v := 4) dX8_layCut_126 rfl ki_4 ?_
    refine ev_icmp_ge (tgt := 174) (pc' := 130) dX8_layCut_127 rfl rfl (fun _ => ?_) (fun h => absurd (by decide) h)
    refine ev_aload_n (pc' := 175) (i := 0) dX8_layCut_174 rfl rfl rfl ?_
    refine ev_getR (pc' := 178) fo_X8_26 dX8_layCut_175 rfl hs_115 rfl rf_115_8 ?_
    refine ev_iconst (pc' := 179) (v := 4) dX8_layCut_178 rfl ki_4 ?_
    refine ev_iload (pc' := 181) dX8_layCut_179 rfl rfl ?_
    refine ev_imul (pc' := 182) (v := 8) dX8_layCut_181 rfl (by decide) ?_
    refine ev_iload (pc' := 184) dX8_layCut_182 rfl rfl ?_
    refine ev_iadd (pc' := 185) (v := 9) dX8_layCut_184 rfl (by decide) ?_
    refine ev_aload_n (pc' := 186) (i := 0) dX8_layCut_185 rfl rfl rfl ?_
    refine ev_iload_n (pc' := 187) (i := 1) dX8_layCut_186 rfl rfl rfl ?_
    refine ev_aload_n (pc' := 188) (i := 0) dX8_layCut_187 rfl rfl rfl ?_
    refine ev_getR (pc' := 191) fo_X8_58 dX8_layCut_188 rfl hs_115 rfl rf_115_21 ?_
    refine ev_aload_n (pc' := 192) (i := 0) dX8_layCut_191 rfl rfl rfl ?_
    refine ev_getR (pc' := 195) fo_X8_61 dX8_layCut_192 rfl hs_115 rfl rf_115_22 ?_
    refine ev_callV (pc' := 198) (rm' := rX8_both) (b := 115) (av := [.int (nI q), .ref 130, .ref 131]) (rest := [.int 9, .ref 120]) co_X8_241 ci_X8_both cv_X8_both dX8_layCut_195 rfl hs_115 hb_X8 rfl rfl (Nat.le_of_ble_eq_true rfl) ⟨(Nat.le_of_ble_eq_true rfl), (Nat.le_of_ble_eq_true rfl)⟩ ⟨(Nat.le_of_ble_eq_true rfl), (Nat.le_of_ble_eq_true rfl)⟩ ?_
    refine t_X8_both q 130 131 hq hs_130 hs_131 ?_
    refine ev_eqi (w := mBo (I 123) (mSn 0 (I 126) 2) (mSn 0 (I 126) 1) q) rfl ?_
    refine ev_i2l (pc' := 199) (v := Int32.toInt64 (mBo (I 123) (mSn 0 (I 126) 2) (mSn 0 (I 126) 1) q)) dX8_layCut_198 rfl rfl ?_
    refine ev_last (pc' := 200) (j := 9) (L' := (ma_up L 120 (ma_up (ma_up (ma_up (ma_up (ma_up (ma_up (ma_up (ma_up (L 120) 0 (Int32.toInt64 (mBo (I 123) (mSn 0 (I 126) 0) (mSn 0 (I 126) 0) q))) 1 (Int32.toInt64 (mBo (I 123) (mSn 0 (I 126) 0) (mSn 0 (I 126) 1) q))) 2 (Int32.toInt64 (mBo (I 123) (mSn 0 (I 126) 0) (mSn 0 (I 126) 2) q))) 4 (Int32.toInt64 (mBo (I 123) (mSn 0 (I 126) 1) (mSn 0 (I 126) 0) q))) 5 (Int32.toInt64 (mBo (I 123) (mSn 0 (I 126) 1) (mSn 0 (I 126) 1) q))) 6 (Int32.toInt64 (mBo (I 123) (mSn 0 (I 126) 1) (mSn 0 (I 126) 2) q))) 8 (Int32.toInt64 (mBo (I 123) (mSn 0 (I 126) 2) (mSn 0 (I 126) 0) q))) 9 (Int32.toInt64 (mBo (I 123) (mSn 0 (I 126) 2) (mSn 0 (I 126) 1) q))))) dX8_layCut_199 rfl hs_120 rfl (Nat.le_of_ble_eq_true rfl) (Nat.le_of_ble_eq_true rfl) (ma_up_up _ _ _ _) ?_
    refine ev_iinc (pc' := 203) (v := 2) (lv' := [some (.ref 115), some (.int (nI q)), some (.int 0), some (.int 3), some (.int 2), some (.int 2), some (.int 4)]) dX8_layCut_200 rfl rfl (by decide) (Nat.le_of_ble_eq_true rfl) rfl rfl ?_
    refine ev_goto (tgt := 115) dX8_layCut_203 rfl ?_
    refine ev_iload (pc' := 117) dX8_layCut_115 rfl rfl ?_
    refine ev_iconst (pc' := 118) (v := 3) dX8_layCut_117 rfl ki_3 ?_
    refine ev_icmp_ge (tgt := 206) (pc' := 121) dX8_layCut_118 rfl rfl (fun h => absurd h (by decide)) (fun _ => ?_)
    refine ev_iconst (pc' := 122) (v := 0) dX8_layCut_121 rfl ki_0 ?_
    refine ev_istore (pc' := 124) (lv' := [some (.ref 115), some (.int (nI q)), some (.int 0), some (.int 3), some (.int 2), some (.int 2), some (.int 0)]) dX8_layCut_122 rfl (Nat.le_of_ble_eq_true rfl) rfl rfl ?_
    refine ev_iload (pc' := 126) dX8_layCut_124 rfl rfl ?_
    refine ev_iconst (pc' := 127) (v := 4) dX8_layCut_126 rfl ki_4 ?_
    refine ev_icmp_ge (tgt := 174) (pc' := 130) dX8_layCut_127 rfl rfl (fun h => absurd h (by decide)) (fun _ => ?_)
    refine ev_aload_n (pc' := 131) (i := 0) dX8_layCut_130 rfl rfl rfl ?_
    refine ev_getR (pc' := 134) fo_X8_58 dX8_layCut_131 rfl hs_115 rfl rf_115_21 ?_
    refine ev_iload (pc' := 136) dX8_layCut_134 rfl rfl ?_
    refine ev_aload_n (pc' := 137) (i := 0) dX8_layCut_136 rfl rfl rfl ?_
    refine ev_getR (pc' := 140) fo_X8_55 dX8_layCut_137 rfl hs_115 rfl rf_115_20 ?_
    refine ev_iconst (pc' := 141) (v := 4) dX8_layCut_140 rfl ki_4 ?_
    refine ev_iload (pc' := 143) dX8_layCut_141 rfl rfl ?_
    refine ev_imul (pc' := 144) (v := 8) dX8_layCut_143 rfl (by decide) ?_
    refine ev_iload (pc' := 146) dX8_layCut_144 rfl rfl ?_
    refine ev_iadd (pc' := 147) (v := 8) dX8_layCut_146 rfl (by decide) ?_
    refine ev_iald (pc' := 148) (j := 8) (v := -((I 126) 3)) dX8_layCut_147 rfl hs_129 rfl (Nat.le_of_ble_eq_true rfl) (Nat.le_of_ble_eq_true rfl) rfl ?_
    refine ev_iast (pc' := 149) (j := 0) (I' := (ma_up (ma_up (ma_up I 129 (ma_up (ma_up (ma_up (ma_up (ma_up (ma_up (ma_up (ma_up (ma_up (ma_up (ma_up (ma_up (I 129) 0 (-((I 126) 1))) 1 ((I 126) 0)) 2 0) 3 0) 4 (-((I 126) 2))) 5 0) 6 ((I 126) 0)) 7 0) 8 (-((I 126) 3))) 9 0) 10 0) 11 ((I 126) 0))) 130 (ma_up (ma_up (ma_up (ma_up (I 130) 0 (-((I 126) 3))) 1 0) 2 0) 3 ((I 126) 0))) 131 (ma_up (ma_up (ma_up (ma_up (I 131) 0 (-((I 126) 2))) 1 0) 2 ((I 126) 0)) 3 0))) dX8_layCut_148 rfl hs_130 rfl (Nat.le_of_ble_eq_true rfl) (Nat.le_of_ble_eq_true rfl) ((congrArg (ma_up _ 130) ((ma_up_comm _ (show 0 ≠ 3 from (by decide)) _ _).trans (congrArg (fun f => ma_up f 3 _) ((ma_up_comm _ (show 0 ≠ 2 from (by decide)) _ _).trans (congrArg (fun f => ma_up f 2 _) ((ma_up_comm _ (show 0 ≠ 1 from (by decide)) _ _).trans (congrArg (fun f => ma_up f 1 _) (ma_up_up _ _ _ _)))))))).trans ((ma_up_comm _ (show 130 ≠ 131 from (by decide)) _ _).trans (congrArg (fun f => ma_up f 131 _) (ma_up_up _ _ _ _)))) ?_
    refine ev_aload_n (pc' := 150) (i := 0) dX8_layCut_149 rfl rfl rfl ?_
    refine ev_getR (pc' := 153) fo_X8_61 dX8_layCut_150 rfl hs_115 rfl rf_115_22 ?_
    refine ev_iload (pc' := 155) dX8_layCut_153 rfl rfl ?_
    refine ev_aload_n (pc' := 156) (i := 0) dX8_layCut_155 rfl rfl rfl ?_
    refine ev_getR (pc' := 159) fo_X8_55 dX8_layCut_156 rfl hs_115 rfl rf_115_20 ?_
    refine ev_iconst (pc' := 160) (v := 4) dX8_layCut_159 rfl ki_4 ?_
    refine ev_iload (pc' := 162) dX8_layCut_160 rfl rfl ?_
    refine ev_imul (pc' := 163) (v := 8) dX8_layCut_162 rfl (by decide) ?_
    refine ev_iload (pc' := 165) dX8_layCut_163 rfl rfl ?_
    refine ev_iadd (pc' := 166) (v := 8) dX8_layCut_165 rfl (by decide) ?_
    refine ev_iald (pc' := 167) (j := 8) (v := -((I 126) 3)) dX8_layCut_166 rfl hs_129 rfl (Nat.le_of_ble_eq_true rfl) (Nat.le_of_ble_eq_true rfl) rfl ?_
    refine ev_iast (pc' := 168) (j := 0) (I' := (ma_up (ma_up (ma_up I 129 (ma_up (ma_up (ma_up (ma_up (ma_up (ma_up (ma_up (ma_up (ma_up (ma_up (ma_up (ma_up (I 129) 0 (-((I 126) 1))) 1 ((I 126) 0)) 2 0) 3 0) 4 (-((I 126) 2))) 5 0) 6 ((I 126) 0)) 7 0) 8 (-((I 126) 3))) 9 0) 10 0) 11 ((I 126) 0))) 130 (ma_up (ma_up (ma_up (ma_up (I 130) 0 (-((I 126) 3))) 1 0) 2 0) 3 ((I 126) 0))) 131 (ma_up (ma_up (ma_up (ma_up (I 131) 0 (-((I 126) 3))) 1 0) 2 ((I 126) 0)) 3 0))) dX8_layCut_167 rfl hs_131 rfl (Nat.le_of_ble_eq_true rfl) (Nat.le_of_ble_eq_true rfl) ((congrArg (ma_up _ 131) ((ma_up_comm _ (show 0 ≠ 3 from (by decide)) _ _).trans (congrArg (fun f => ma_up f 3 _) ((ma_up_comm _ (show 0 ≠ 2 from (by decide)) _ _).trans (congrArg (fun f => ma_up f 2 _) ((ma_up_comm _ (show 0 ≠ 1 from (by decide)) _ _).trans (congrArg (fun f => ma_up f 1 _) (ma_up_up _ _ _ _)))))))).trans (ma_up_up _ _ _ _)) ?_
    refine ev_iinc (pc' := 171) (v := 1) (lv' := [some (.ref 115), some (.int (nI q)), some (.int 0), some (.int 3), some (.int 2), some (.int 2), some (.int 1)]) dX8_layCut_168 rfl rfl (by decide) (Nat.le_of_ble_eq_true rfl) rfl rfl ?_
    refine ev_goto (tgt := 124) dX8_layCut_171 rfl ?_
    refine ev_iload (pc' := 126) dX8_layCut_124 rfl rfl ?_
    refine ev_iconst (pc' := 127) (v := 4) dX8_layCut_126 rfl ki_4 ?_
    refine ev_icmp_ge (tgt := 174) (pc' := 130) dX8_layCut_127 rfl rfl (fun h => absurd h (by decide)) (fun _ => ?_)
    refine ev_aload_n (pc' := 131) (i := 0) dX8_layCut_130 rfl rfl rfl ?_
    refine ev_getR (pc' := 134) fo_X8_58 dX8_layCut_131 rfl hs_115 rfl rf_115_21 ?_
    refine ev_iload (pc' := 136) dX8_layCut_134 rfl rfl ?_
    refine ev_aload_n (pc' := 137) (i := 0) dX8_layCut_136 rfl rfl rfl ?_
    refine ev_getR (pc' := 140) fo_X8_55 dX8_layCut_137 rfl hs_115 rfl rf_115_20 ?_
    refine ev_iconst (pc' := 141) (v := 4) dX8_layCut_140 rfl ki_4 ?_
    refine ev_iload (pc' := 143) dX8_layCut_141 rfl rfl ?_
    refine ev_imul (pc' := 144) (v := 8) dX8_layCut_143 rfl (by decide) ?_
    refine ev_iload (pc' := 146) dX8_layCut_144 rfl rfl ?_
    refine ev_iadd (pc' := 147) (v := 9) dX8_layCut_146 rfl (by decide) ?_
    refine ev_iald (pc' := 148) (j := 9) (v := 0) dX8_layCut_147 rfl hs_129 rfl (Nat.le_of_ble_eq_true rfl) (Nat.le_of_ble_eq_true rfl) rfl ?_
    refine ev_iast (pc' := 149) (j := 1) (I' := (ma_up (ma_up (ma_up I 129 (ma_up (ma_up (ma_up (ma_up (ma_up (ma_up (ma_up (ma_up (ma_up (ma_up (ma_up (ma_up (I 129) 0 (-((I 126) 1))) 1 ((I 126) 0)) 2 0) 3 0) 4 (-((I 126) 2))) 5 0) 6 ((I 126) 0)) 7 0) 8 (-((I 126) 3))) 9 0) 10 0) 11 ((I 126) 0))) 130 (ma_up (ma_up (ma_up (ma_up (I 130) 0 (-((I 126) 3))) 1 0) 2 0) 3 ((I 126) 0))) 131 (ma_up (ma_up (ma_up (ma_up (I 131) 0 (-((I 126) 3))) 1 0) 2 ((I 126) 0)) 3 0))) dX8_layCut_148 rfl hs_130 rfl (Nat.le_of_ble_eq_true rfl) (Nat.le_of_ble_eq_true rfl) ((congrArg (ma_up _ 130) ((ma_up_comm _ (show 1 ≠ 3 from (by decide)) _ _).trans (congrArg (fun f => ma_up f 3 _) ((ma_up_comm _ (show 1 ≠ 2 from (by decide)) _ _).trans (congrArg (fun f => ma_up f 2 _) (ma_up_up _ _ _ _)))))).trans ((ma_up_comm _ (show 130 ≠ 131 from (by decide)) _ _).trans (congrArg (fun f => ma_up f 131 _) (ma_up_up _ _ _ _)))) ?_
    refine ev_aload_n (pc' := 150) (i := 0) dX8_layCut_149 rfl rfl rfl ?_
    refine ev_getR (pc' := 153) fo_X8_61 dX8_layCut_150 rfl hs_115 rfl rf_115_22 ?_
    refine ev_iload (pc' := 155) dX8_layCut_153 rfl rfl ?_
    refine ev_aload_n (pc' := 156) (i := 0) dX8_layCut_155 rfl rfl rfl ?_
    refine ev_getR (pc' := 159) fo_X8_55 dX8_layCut_156 rfl hs_115 rfl rf_115_20 ?_
    refine ev_iconst (pc' := 160) (v := 4) dX8_layCut_159 rfl ki_4 ?_
    refine ev_iload (pc' := 162) dX8_layCut_160 rfl rfl ?_
    refine ev_imul (pc' := 163) (v := 8) dX8_layCut_162 rfl (by decide) ?_
    refine ev_iload (pc' := 165) dX8_layCut_163 rfl rfl ?_
    refine ev_iadd (pc' := 166) (v := 9) dX8_layCut_165 rfl (by decide) ?_
    refine ev_iald (pc' := 167) (j := 9) (v := 0) dX8_layCut_166 rfl hs_129 rfl (Nat.le_of_ble_eq_true rfl) (Nat.le_of_ble_eq_true rfl) rfl ?_
    refine ev_iast (pc' := 168) (j := 1) (I' := (ma_up (ma_up (ma_up I 129 (ma_up (ma_up (ma_up (ma_up (ma_up (ma_up (ma_up (ma_up (ma_up (ma_up (ma_up (ma_up (I 129) 0 (-((I 126) 1))) 1 ((I 126) 0)) 2 0) 3 0) 4 (-((I 126) 2))) 5 0) 6 ((I 126) 0)) 7 0) 8 (-((I 126) 3))) 9 0) 10 0) 11 ((I 126) 0))) 130 (ma_up (ma_up (ma_up (ma_up (I 130) 0 (-((I 126) 3))) 1 0) 2 0) 3 ((I 126) 0))) 131 (ma_up (ma_up (ma_up (ma_up (I 131) 0 (-((I 126) 3))) 1 0) 2 ((I 126) 0)) 3 0))) dX8_layCut_167 rfl hs_131 rfl (Nat.le_of_ble_eq_true rfl) (Nat.le_of_ble_eq_true rfl) ((congrArg (ma_up _ 131) ((ma_up_comm _ (show 1 ≠ 3 from (by decide)) _ _).trans (congrArg (fun f => ma_up f 3 _) ((ma_up_comm _ (show 1 ≠ 2 from (by decide)) _ _).trans (congrArg (fun f => ma_up f 2 _) (ma_up_up _ _ _ _)))))).trans (ma_up_up _ _ _ _)) ?_
    refine ev_iinc (pc' := 171) (v := 2) (lv' := [some (.ref 115), some (.int (nI q)), some (.int 0), some (.int 3), some (.int 2), some (.int 2), some (.int 2)]) dX8_layCut_168 rfl rfl (by decide) (Nat.le_of_ble_eq_true rfl) rfl rfl ?_
    refine ev_goto (tgt := 124) dX8_layCut_171 rfl ?_
    refine ev_iload (pc' := 126) dX8_layCut_124 rfl rfl ?_
    refine ev_iconst (pc' := 127) (v := 4) dX8_layCut_126 rfl ki_4 ?_
    refine ev_icmp_ge (tgt := 174) (pc' := 130) dX8_layCut_127 rfl rfl (fun h => absurd h (by decide)) (fun _ => ?_)
    refine ev_aload_n (pc' := 131) (i := 0) dX8_layCut_130 rfl rfl rfl ?_
    refine ev_getR (pc' := 134) fo_X8_58 dX8_layCut_131 rfl hs_115 rfl rf_115_21 ?_
    refine ev_iload (pc' := 136) dX8_layCut_134 rfl rfl ?_
    refine ev_aload_n (pc' := 137) (i := 0) dX8_layCut_136 rfl rfl rfl ?_
    refine ev_getR (pc' := 140) fo_X8_55 dX8_layCut_137 rfl hs_115 rfl rf_115_20 ?_
    refine ev_iconst (pc' := 141) (v := 4) dX8_layCut_140 rfl ki_4 ?_
    refine ev_iload (pc' := 143) dX8_layCut_141 rfl rfl ?_
    refine ev_imul (pc' := 144) (v := 8) dX8_layCut_143 rfl (by decide) ?_
    refine ev_iload (pc' := 146) dX8_layCut_144 rfl rfl ?_
    refine ev_iadd (pc' := 147) (v := 10) dX8_layCut_146 rfl (by decide) ?_
    refine ev_iald (pc' := 148) (j := 10) (v := 0) dX8_layCut_147 rfl hs_129 rfl (Nat.le_of_ble_eq_true rfl) (Nat.le_of_ble_eq_true rfl) rfl ?_
    refine ev_iast (pc' := 149) (j := 2) (I' := (ma_up (ma_up (ma_up I 129 (ma_up (ma_up (ma_up (ma_up (ma_up (ma_up (ma_up (ma_up (ma_up (ma_up (ma_up (ma_up (I 129) 0 (-((I 126) 1))) 1 ((I 126) 0)) 2 0) 3 0) 4 (-((I 126) 2))) 5 0) 6 ((I 126) 0)) 7 0) 8 (-((I 126) 3))) 9 0) 10 0) 11 ((I 126) 0))) 130 (ma_up (ma_up (ma_up (ma_up (I 130) 0 (-((I 126) 3))) 1 0) 2 0) 3 ((I 126) 0))) 131 (ma_up (ma_up (ma_up (ma_up (I 131) 0 (-((I 126) 3))) 1 0) 2 ((I 126) 0)) 3 0))) dX8_layCut_148 rfl hs_130 rfl (Nat.le_of_ble_eq_true rfl) (Nat.le_of_ble_eq_true rfl) ((congrArg (ma_up _ 130) ((ma_up_comm _ (show 2 ≠ 3 from (by decide)) _ _).trans (congrArg (fun f => ma_up f 3 _) (ma_up_up _ _ _ _)))).trans ((ma_up_comm _ (show 130 ≠ 131 from (by decide)) _ _).trans (congrArg (fun f => ma_up f 131 _) (ma_up_up _ _ _ _)))) ?_
    refine ev_aload_n (pc' := 150) (i := 0) dX8_layCut_149 rfl rfl rfl ?_
    refine ev_getR (pc' := 153) fo_X8_61 dX8_layCut_150 rfl hs_115 rfl rf_115_22 ?_
    refine ev_iload (pc' := 155) dX8_layCut_153 rfl rfl ?_
    refine ev_aload_n (pc' := 156) (i := 0) dX8_layCut_155 rfl rfl rfl ?_
    refine ev_getR (pc' := 159) fo_X8_55 dX8_layCut_156 rfl hs_115 rfl rf_115_20 ?_
    refine ev_iconst (pc' := 160) (v := 4) dX8_layCut_159 rfl ki_4 ?_
    refine ev_iload (pc' := 162) dX8_layCut_160 rfl rfl ?_
    refine ev_imul (pc' := 163) (v := 8) dX8_layCut_162 rfl (by decide) ?_
    refine ev_iload (pc' := 165) dX8_layCut_163 rfl rfl ?_
    refine ev_iadd (pc' := 166) (v := 10) dX8_layCut_165 rfl (by decide) ?_
    refine ev_iald (pc' := 167) (j := 10) (v := 0) dX8_layCut_166 rfl hs_129 rfl (Nat.le_of_ble_eq_true rfl) (Nat.le_of_ble_eq_true rfl) rfl ?_
    refine ev_iast (pc' := 168) (j := 2) (I' := (ma_up (ma_up (ma_up I 129 (ma_up (ma_up (ma_up (ma_up (ma_up (ma_up (ma_up (ma_up (ma_up (ma_up (ma_up (ma_up (I 129) 0 (-((I 126) 1))) 1 ((I 126) 0)) 2 0) 3 0) 4 (-((I 126) 2))) 5 0) 6 ((I 126) 0)) 7 0) 8 (-((I 126) 3))) 9 0) 10 0) 11 ((I 126) 0))) 130 (ma_up (ma_up (ma_up (ma_up (I 130) 0 (-((I 126) 3))) 1 0) 2 0) 3 ((I 126) 0))) 131 (ma_up (ma_up (ma_up (ma_up (I 131) 0 (-((I 126) 3))) 1 0) 2 0) 3 0))) dX8_layCut_167 rfl hs_131 rfl (Nat.le_of_ble_eq_true rfl) (Nat.le_of_ble_eq_true rfl) ((congrArg (ma_up _ 131) ((ma_up_comm _ (show 2 ≠ 3 from (by decide)) _ _).trans (congrArg (fun f => ma_up f 3 _) (ma_up_up _ _ _ _)))).trans (ma_up_up _ _ _ _)) ?_
    refine ev_iinc (pc' := 171) (v := 3) (lv' := [some (.ref 115), some (.int (nI q)), some (.int 0), some (.int 3), some (.int 2), some (.int 2), some (.int 3)]) dX8_layCut_168 rfl rfl (by decide) (Nat.le_of_ble_eq_true rfl) rfl rfl ?_
    refine ev_goto (tgt := 124) dX8_layCut_171 rfl ?_
    refine ev_iload (pc' := 126) dX8_layCut_124 rfl rfl ?_
    refine ev_iconst (pc' := 127) (v := 4) dX8_layCut_126 rfl ki_4 ?_
    refine ev_icmp_ge (tgt := 174) (pc' := 130) dX8_layCut_127 rfl rfl (fun h => absurd h (by decide)) (fun _ => ?_)
    refine ev_aload_n (pc' := 131) (i := 0) dX8_layCut_130 rfl rfl rfl ?_
    refine ev_getR (pc' := 134) fo_X8_58 dX8_layCut_131 rfl hs_115 rfl rf_115_21 ?_
    refine ev_iload (pc' := 136) dX8_layCut_134 rfl rfl ?_
    refine ev_aload_n (pc' := 137) (i := 0) dX8_layCut_136 rfl rfl rfl ?_
    refine ev_getR (pc' := 140) fo_X8_55 dX8_layCut_137 rfl hs_115 rfl rf_115_20 ?_
    refine ev_iconst (pc' := 141) (v := 4) dX8_layCut_140 rfl ki_4 ?_
    refine ev_iload (pc' := 143) dX8_layCut_141 rfl rfl ?_
    refine ev_imul (pc' := 144) (v := 8) dX8_layCut_143 rfl (by decide) ?_
    refine ev_iload (pc' := 146) dX8_layCut_144 rfl rfl ?_
    refine ev_iadd (pc' := 147) (v := 11) dX8_layCut_146 rfl (by decide) ?_
    refine ev_iald (pc' := 148) (j := 11) (v := (I 126) 0) dX8_layCut_147 rfl hs_129 rfl (Nat.le_of_ble_eq_true rfl) (Nat.le_of_ble_eq_true rfl) rfl ?_
    refine ev_iast (pc' := 149) (j := 3) (I' := (ma_up (ma_up (ma_up I 129 (ma_up (ma_up (ma_up (ma_up (ma_up (ma_up (ma_up (ma_up (ma_up (ma_up (ma_up (ma_up (I 129) 0 (-((I 126) 1))) 1 ((I 126) 0)) 2 0) 3 0) 4 (-((I 126) 2))) 5 0) 6 ((I 126) 0)) 7 0) 8 (-((I 126) 3))) 9 0) 10 0) 11 ((I 126) 0))) 130 (ma_up (ma_up (ma_up (ma_up (I 130) 0 (-((I 126) 3))) 1 0) 2 0) 3 ((I 126) 0))) 131 (ma_up (ma_up (ma_up (ma_up (I 131) 0 (-((I 126) 3))) 1 0) 2 0) 3 0))) dX8_layCut_148 rfl hs_130 rfl (Nat.le_of_ble_eq_true rfl) (Nat.le_of_ble_eq_true rfl) ((congrArg (ma_up _ 130) (ma_up_up _ _ _ _)).trans ((ma_up_comm _ (show 130 ≠ 131 from (by decide)) _ _).trans (congrArg (fun f => ma_up f 131 _) (ma_up_up _ _ _ _)))) ?_
    refine ev_aload_n (pc' := 150) (i := 0) dX8_layCut_149 rfl rfl rfl ?_
    refine ev_getR (pc' := 153) fo_X8_61 dX8_layCut_150 rfl hs_115 rfl rf_115_22 ?_
    refine ev_iload (pc' := 155) dX8_layCut_153 rfl rfl ?_
    refine ev_aload_n (pc' := 156) (i := 0) dX8_layCut_155 rfl rfl rfl ?_
    refine ev_getR (pc' := 159) fo_X8_55 dX8_layCut_156 rfl hs_115 rfl rf_115_20 ?_
    refine ev_iconst (pc' := 160) (v := 4) dX8_layCut_159 rfl ki_4 ?_
    refine ev_iload (pc' := 162) dX8_layCut_160 rfl rfl ?_
    refine ev_imul (pc' := 163) (v := 8) dX8_layCut_162 rfl (by decide) ?_
    refine ev_iload (pc' := 165) dX8_layCut_163 rfl rfl ?_
    refine ev_iadd (pc' := 166) (v := 11) dX8_layCut_165 rfl (by decide) ?_
    refine ev_iald (pc' := 167) (j := 11) (v := (I 126) 0) dX8_layCut_166 rfl hs_129 rfl (Nat.le_of_ble_eq_true rfl) (Nat.le_of_ble_eq_true rfl) rfl ?_
    refine ev_iast (pc' := 168) (j := 3) (I' := (ma_up (ma_up (ma_up I 129 (ma_up (ma_up (ma_up (ma_up (ma_up (ma_up (ma_up (ma_up (ma_up (ma_up (ma_up (ma_up (I 129) 0 (-((I 126) 1))) 1 ((I 126) 0)) 2 0) 3 0) 4 (-((I 126) 2))) 5 0) 6 ((I 126) 0)) 7 0) 8 (-((I 126) 3))) 9 0) 10 0) 11 ((I 126) 0))) 130 (ma_up (ma_up (ma_up (ma_up (I 130) 0 (-((I 126) 3))) 1 0) 2 0) 3 ((I 126) 0))) 131 (ma_up (ma_up (ma_up (ma_up (I 131) 0 (-((I 126) 3))) 1 0) 2 0) 3 ((I 126) 0)))) dX8_layCut_167 rfl hs_131 rfl (Nat.le_of_ble_eq_true rfl) (Nat.le_of_ble_eq_true rfl) ((congrArg (ma_up _ 131) (ma_up_up _ _ _ _)).trans (ma_up_up _ _ _ _)) ?_
    refine ev_iinc (pc' := 171) (v := 4) (lv' := [some (.ref 115), some (.int (nI q)), some (.int 0), some (.int 3), some (.int 2), some (.int 2), some (.int 4)]) dX8_layCut_168 rfl rfl (by decide) (Nat.le_of_ble_eq_true rfl) rfl rfl ?_
    refine ev_goto (tgt := 124) dX8_layCut_171 rfl ?_
    refine ev_iload (pc' := 126) dX8_layCut_124 rfl rfl ?_
    refine ev_iconst (pc' := 127) (v := 4) dX8_layCut_126 rfl ki_4 ?_
    refine ev_icmp_ge (tgt := 174) (pc' := 130) dX8_layCut_127 rfl rfl (fun _ => ?_) (fun h => absurd (by decide) h)
    refine ev_aload_n (pc' := 175) (i := 0) dX8_layCut_174 rfl rfl rfl ?_
    refine ev_getR (pc' := 178) fo_X8_26 dX8_layCut_175 rfl hs_115 rfl rf_115_8 ?_
    refine ev_iconst (pc' := 179) (v := 4) dX8_layCut_178 rfl ki_4 ?_
    refine ev_iload (pc' := 181) dX8_layCut_179 rfl rfl ?_
    refine ev_imul (pc' := 182) (v := 8) dX8_layCut_181 rfl (by decide) ?_
    refine ev_iload (pc' := 184) dX8_layCut_182 rfl rfl ?_
    refine ev_iadd (pc' := 185) (v := 10) dX8_layCut_184 rfl (by decide) ?_
    refine ev_aload_n (pc' := 186) (i := 0) dX8_layCut_185 rfl rfl rfl ?_
    refine ev_iload_n (pc' := 187) (i := 1) dX8_layCut_186 rfl rfl rfl ?_
    refine ev_aload_n (pc' := 188) (i := 0) dX8_layCut_187 rfl rfl rfl ?_
    refine ev_getR (pc' := 191) fo_X8_58 dX8_layCut_188 rfl hs_115 rfl rf_115_21 ?_
    refine ev_aload_n (pc' := 192) (i := 0) dX8_layCut_191 rfl rfl rfl ?_
    refine ev_getR (pc' := 195) fo_X8_61 dX8_layCut_192 rfl hs_115 rfl rf_115_22 ?_
    refine ev_callV (pc' := 198) (rm' := rX8_both) (b := 115) (av := [.int (nI q), .ref 130, .ref 131]) (rest := [.int 10, .ref 120]) co_X8_241 ci_X8_both cv_X8_both dX8_layCut_195 rfl hs_115 hb_X8 rfl rfl (Nat.le_of_ble_eq_true rfl) ⟨(Nat.le_of_ble_eq_true rfl), (Nat.le_of_ble_eq_true rfl)⟩ ⟨(Nat.le_of_ble_eq_true rfl), (Nat.le_of_ble_eq_true rfl)⟩ ?_
    refine t_X8_both q 130 131 hq hs_130 hs_131 ?_
    refine ev_eqi (w := mBo (I 123) (mSn 0 (I 126) 2) (mSn 0 (I 126) 2) q) rfl ?_
    refine ev_i2l (pc' := 199) (v := Int32.toInt64 (mBo (I 123) (mSn 0 (I 126) 2) (mSn 0 (I 126) 2) q)) dX8_layCut_198 rfl rfl ?_
    refine ev_last (pc' := 200) (j := 10) (L' := (ma_up L 120 (ma_up (ma_up (ma_up (ma_up (ma_up (ma_up (ma_up (ma_up (ma_up (L 120) 0 (Int32.toInt64 (mBo (I 123) (mSn 0 (I 126) 0) (mSn 0 (I 126) 0) q))) 1 (Int32.toInt64 (mBo (I 123) (mSn 0 (I 126) 0) (mSn 0 (I 126) 1) q))) 2 (Int32.toInt64 (mBo (I 123) (mSn 0 (I 126) 0) (mSn 0 (I 126) 2) q))) 4 (Int32.toInt64 (mBo (I 123) (mSn 0 (I 126) 1) (mSn 0 (I 126) 0) q))) 5 (Int32.toInt64 (mBo (I 123) (mSn 0 (I 126) 1) (mSn 0 (I 126) 1) q))) 6 (Int32.toInt64 (mBo (I 123) (mSn 0 (I 126) 1) (mSn 0 (I 126) 2) q))) 8 (Int32.toInt64 (mBo (I 123) (mSn 0 (I 126) 2) (mSn 0 (I 126) 0) q))) 9 (Int32.toInt64 (mBo (I 123) (mSn 0 (I 126) 2) (mSn 0 (I 126) 1) q))) 10 (Int32.toInt64 (mBo (I 123) (mSn 0 (I 126) 2) (mSn 0 (I 126) 2) q))))) dX8_layCut_199 rfl hs_120 rfl (Nat.le_of_ble_eq_true rfl) (Nat.le_of_ble_eq_true rfl) (ma_up_up _ _ _ _) ?_
    refine ev_iinc (pc' := 203) (v := 3) (lv' := [some (.ref 115), some (.int (nI q)), some (.int 0), some (.int 3), some (.int 2), some (.int 3), some (.int 4)]) dX8_layCut_200 rfl rfl (by decide) (Nat.le_of_ble_eq_true rfl) rfl rfl ?_
    refine ev_goto (tgt := 115) dX8_layCut_203 rfl ?_
    refine ev_iload (pc' := 117) dX8_layCut_115 rfl rfl ?_
    refine ev_iconst (pc' := 118) (v := 3) dX8_layCut_117 rfl ki_3 ?_
    refine ev_icmp_ge (tgt := 206) (pc' := 121) dX8_layCut_118 rfl rfl (fun _ => ?_) (fun h => absurd (by decide) h)
    refine ev_iinc (pc' := 209) (v := 3) (lv' := [some (.ref 115), some (.int (nI q)), some (.int 0), some (.int 3), some (.int 3), some (.int 3), some (.int 4)]) dX8_layCut_206 rfl rfl (by decide) (Nat.le_of_ble_eq_true rfl) rfl rfl ?_
    refine ev_goto (tgt := 106) dX8_layCut_209 rfl ?_
    refine ev_iload (pc' := 108) dX8_layCut_106 rfl rfl ?_
    refine ev_iconst (pc' := 109) (v := 3) dX8_layCut_108 rfl ki_3 ?_
    refine ev_icmp_ge (tgt := 212) (pc' := 112) dX8_layCut_109 rfl rfl (fun _ => ?_) (fun h => absurd (by decide) h)
    refine ev_aload_n (pc' := 213) (i := 0) dX8_layCut_212 rfl rfl rfl ?_
    refine ev_callV (pc' := 216) (rm' := rX8_layThree) (b := 115) (av := []) (rest := []) co_X8_191 ci_X8_layThree cv_X8_layThree dX8_layCut_213 rfl hs_115 hb_X8 rfl rfl (Nat.le_of_ble_eq_true rfl) ⟨(Nat.le_of_ble_eq_true rfl), (Nat.le_of_ble_eq_true rfl)⟩ ⟨(Nat.le_of_ble_eq_true rfl), (Nat.le_of_ble_eq_true rfl)⟩ ?_
    refine f_X8_layThree (fun J9 f1 f2 f3 => ?_)
    have f1 : J9 115 9 = mTA (mCu (I 123) q 0 (I 126)) := f1
    have f2 : J9 115 10 = mTB (mCu (I 123) q 0 (I 126)) := f2
    refine ev_vret dX8_layCut_216 rfl ⟨Nat.le_refl _, Nat.le_refl _⟩ ?_
    exact k0 0 J9 _ (by omega) c1 (fun j hj => absurd hj (Nat.not_lt_zero j)) f1 f2 ((((((mSx.rf (I := I)).le (A' := [129, 130, 131]) (B' := []) (fun _ h => absurd h List.not_mem_nil) (fun _ h => absurd h List.not_mem_nil)).up (by simp) (by decide)).up (by simp) (by decide)).up (by simp) (by decide)).trans f3) (mSl.up (mSl.rf.le (fun _ h => absurd h List.not_mem_nil)) List.mem_cons_self)
  · refine ev_iinc (pc' := 14) (v := 1) (lv' := [some (.ref 115), some (.int (nI q)), some (.int 1), none, none, none, none]) dX8_layCut_11 rfl rfl (by decide) (Nat.le_of_ble_eq_true rfl) rfl rfl ?_
    refine ev_goto (tgt := 2) dX8_layCut_14 rfl ?_
    refine ev_aload_n (pc' := 3) (i := 0) dX8_layCut_2 rfl rfl rfl ?_
    refine ev_getR (pc' := 6) fo_X8_46 dX8_layCut_3 rfl hs_115 rfl rf_115_16 ?_
    refine ev_iload_n (pc' := 7) (i := 2) dX8_layCut_6 rfl rfl rfl ?_
    refine ev_iald (pc' := 8) (j := 1) (v := (I 126) 1) dX8_layCut_7 rfl hs_126 rfl (Nat.le_of_ble_eq_true rfl) (Nat.le_of_ble_eq_true rfl) rfl ?_
    refine ev_if_ne (tgt := 17) (pc' := 11) dX8_layCut_8 rfl rfl (fun c2 => ?_) (fun c2 => ?_)
    · refine ev_iconst (pc' := 18) (v := 0) dX8_layCut_17 rfl ki_0 ?_
      refine ev_istore_n (pc' := 19) (i := 3) (lv' := [some (.ref 115), some (.int (nI q)), some (.int 1), some (.int 0), none, none, none]) dX8_layCut_18 rfl rfl (Nat.le_of_ble_eq_true rfl) rfl rfl ?_
      refine ev_iconst (pc' := 20) (v := 0) dX8_layCut_19 rfl ki_0 ?_
      refine ev_istore (pc' := 22) (lv' := [some (.ref 115), some (.int (nI q)), some (.int 1), some (.int 0), some (.int 0), none, none]) dX8_layCut_20 rfl (Nat.le_of_ble_eq_true rfl) rfl rfl ?_
      refine ev_iload (pc' := 24) dX8_layCut_22 rfl rfl ?_
      refine ev_iconst (pc' := 25) (v := 4) dX8_layCut_24 rfl ki_4 ?_
      refine ev_icmp_ge (tgt := 103) (pc' := 28) dX8_layCut_25 rfl rfl (fun h => absurd h (by decide)) (fun _ => ?_)
      refine ev_iload (pc' := 30) dX8_layCut_28 rfl rfl ?_
      refine ev_iload_n (pc' := 31) (i := 2) dX8_layCut_30 rfl rfl rfl ?_
      refine ev_icmp_eq (tgt := 97) (pc' := 34) dX8_layCut_31 rfl rfl (fun h => absurd h (by decide)) (fun _ => ?_)
      refine ev_iconst (pc' := 35) (v := 0) dX8_layCut_34 rfl ki_0 ?_
      refine ev_istore (pc' := 37) (lv' := [some (.ref 115), some (.int (nI q)), some (.int 1), some (.int 0), some (.int 0), some (.int 0), none]) dX8_layCut_35 rfl (Nat.le_of_ble_eq_true rfl) rfl rfl ?_
      refine ev_iload (pc' := 39) dX8_layCut_37 rfl rfl ?_
      refine ev_iconst (pc' := 40) (v := 4) dX8_layCut_39 rfl ki_4 ?_
      refine ev_icmp_ge (tgt := 94) (pc' := 43) dX8_layCut_40 rfl rfl (fun h => absurd h (by decide)) (fun _ => ?_)
      refine ev_aload_n (pc' := 44) (i := 0) dX8_layCut_43 rfl rfl rfl ?_
      refine ev_getR (pc' := 47) fo_X8_55 dX8_layCut_44 rfl hs_115 rfl rf_115_20 ?_
      refine ev_iconst (pc' := 48) (v := 4) dX8_layCut_47 rfl ki_4 ?_
      refine ev_iload_n (pc' := 49) (i := 3) dX8_layCut_48 rfl rfl rfl ?_
      refine ev_imul (pc' := 50) (v := 0) dX8_layCut_49 rfl (by decide) ?_
      refine ev_iload (pc' := 52) dX8_layCut_50 rfl rfl ?_
      refine ev_iadd (pc' := 53) (v := 0) dX8_layCut_52 rfl (by decide) ?_
      refine ev_iload (pc' := 55) dX8_layCut_53 rfl rfl ?_
      refine ev_iload (pc' := 57) dX8_layCut_55 rfl rfl ?_
      refine ev_icmp_ne (tgt := 69) (pc' := 60) dX8_layCut_57 rfl rfl (fun h => absurd (by decide) h) (fun _ => ?_)
      refine ev_aload_n (pc' := 61) (i := 0) dX8_layCut_60 rfl rfl rfl ?_
      refine ev_getR (pc' := 64) fo_X8_46 dX8_layCut_61 rfl hs_115 rfl rf_115_16 ?_
      refine ev_iload_n (pc' := 65) (i := 2) dX8_layCut_64 rfl rfl rfl ?_
      refine ev_iald (pc' := 66) (j := 1) (v := (I 126) 1) dX8_layCut_65 rfl hs_126 rfl (Nat.le_of_ble_eq_true rfl) (Nat.le_of_ble_eq_true rfl) rfl ?_
      refine ev_goto (tgt := 87) dX8_layCut_66 rfl ?_
      refine ev_iast (pc' := 88) (j := 0) (I' := (ma_up I 129 (ma_up (I 129) 0 ((I 126) 1)))) dX8_layCut_87 rfl hs_129 rfl (Nat.le_of_ble_eq_true rfl) (Nat.le_of_ble_eq_true rfl) rfl ?_
      refine ev_iinc (pc' := 91) (v := 1) (lv' := [some (.ref 115), some (.int (nI q)), some (.int 1), some (.int 0), some (.int 0), some (.int 1), none]) dX8_layCut_88 rfl rfl (by decide) (Nat.le_of_ble_eq_true rfl) rfl rfl ?_
      refine ev_goto (tgt := 37) dX8_layCut_91 rfl ?_
      refine ev_iload (pc' := 39) dX8_layCut_37 rfl rfl ?_
      refine ev_iconst (pc' := 40) (v := 4) dX8_layCut_39 rfl ki_4 ?_
      refine ev_icmp_ge (tgt := 94) (pc' := 43) dX8_layCut_40 rfl rfl (fun h => absurd h (by decide)) (fun _ => ?_)
      refine ev_aload_n (pc' := 44) (i := 0) dX8_layCut_43 rfl rfl rfl ?_
      refine ev_getR (pc' := 47) fo_X8_55 dX8_layCut_44 rfl hs_115 rfl rf_115_20 ?_
      refine ev_iconst (pc' := 48) (v := 4) dX8_layCut_47 rfl ki_4 ?_
      refine ev_iload_n (pc' := 49) (i := 3) dX8_layCut_48 rfl rfl rfl ?_
      refine ev_imul (pc' := 50) (v := 0) dX8_layCut_49 rfl (by decide) ?_
      refine ev_iload (pc' := 52) dX8_layCut_50 rfl rfl ?_
      refine ev_iadd (pc' := 53) (v := 1) dX8_layCut_52 rfl (by decide) ?_
      refine ev_iload (pc' := 55) dX8_layCut_53 rfl rfl ?_
      refine ev_iload (pc' := 57) dX8_layCut_55 rfl rfl ?_
      refine ev_icmp_ne (tgt := 69) (pc' := 60) dX8_layCut_57 rfl rfl (fun _ => ?_) (fun h => absurd h (by decide))
      refine ev_iload (pc' := 71) dX8_layCut_69 rfl rfl ?_
      refine ev_iload_n (pc' := 72) (i := 2) dX8_layCut_71 rfl rfl rfl ?_
      refine ev_icmp_ne (tgt := 86) (pc' := 75) dX8_layCut_72 rfl rfl (fun h => absurd (by decide) h) (fun _ => ?_)
      refine ev_aload_n (pc' := 76) (i := 0) dX8_layCut_75 rfl rfl rfl ?_
      refine ev_getR (pc' := 79) fo_X8_46 dX8_layCut_76 rfl hs_115 rfl rf_115_16 ?_
      refine ev_iload (pc' := 81) dX8_layCut_79 rfl rfl ?_
      refine ev_iald (pc' := 82) (j := 0) (v := (I 126) 0) dX8_layCut_81 rfl hs_126 rfl (Nat.le_of_ble_eq_true rfl) (Nat.le_of_ble_eq_true rfl) rfl ?_
      refine ev_ineg (pc' := 83) (v := -((I 126) 0)) dX8_layCut_82 rfl rfl ?_
      refine ev_goto (tgt := 87) dX8_layCut_83 rfl ?_
      refine ev_iast (pc' := 88) (j := 1) (I' := (ma_up I 129 (ma_up (ma_up (I 129) 0 ((I 126) 1)) 1 (-((I 126) 0))))) dX8_layCut_87 rfl hs_129 rfl (Nat.le_of_ble_eq_true rfl) (Nat.le_of_ble_eq_true rfl) (ma_up_up _ _ _ _) ?_
      refine ev_iinc (pc' := 91) (v := 2) (lv' := [some (.ref 115), some (.int (nI q)), some (.int 1), some (.int 0), some (.int 0), some (.int 2), none]) dX8_layCut_88 rfl rfl (by decide) (Nat.le_of_ble_eq_true rfl) rfl rfl ?_
      refine ev_goto (tgt := 37) dX8_layCut_91 rfl ?_
      refine ev_iload (pc' := 39) dX8_layCut_37 rfl rfl ?_
      refine ev_iconst (pc' := 40) (v := 4) dX8_layCut_39 rfl ki_4 ?_
      refine ev_icmp_ge (tgt := 94) (pc' := 43) dX8_layCut_40 rfl rfl (fun h => absurd h (by decide)) (fun _ => ?_)
      refine ev_aload_n (pc' := 44) (i := 0) dX8_layCut_43 rfl rfl rfl ?_
      refine ev_getR (pc' := 47) fo_X8_55 dX8_layCut_44 rfl hs_115 rfl rf_115_20 ?_
      refine ev_iconst (pc' := 48) (v := 4) dX8_layCut_47 rfl ki_4 ?_
      refine ev_iload_n (pc' := 49) (i := 3) dX8_layCut_48 rfl rfl rfl ?_
      refine ev_imul (pc' := 50) (v := 0) dX8_layCut_49 rfl (by decide) ?_
      refine ev_iload (pc' := 52) dX8_layCut_50 rfl rfl ?_
      refine ev_iadd (pc' := 53) (v := 2) dX8_layCut_52 rfl (by decide) ?_
      refine ev_iload (pc' := 55) dX8_layCut_53 rfl rfl ?_
      refine ev_iload (pc' := 57) dX8_layCut_55 rfl rfl ?_
      refine ev_icmp_ne (tgt := 69) (pc' := 60) dX8_layCut_57 rfl rfl (fun _ => ?_) (fun h => absurd h (by decide))
      refine ev_iload (pc' := 71) dX8_layCut_69 rfl rfl ?_
      refine ev_iload_n (pc' := 72) (i := 2) dX8_layCut_71 rfl rfl rfl ?_
      refine ev_icmp_ne (tgt := 86) (pc' := 75) dX8_layCut_72 rfl rfl (fun _ => ?_) (fun h => absurd h (by decide))
      refine ev_iconst (pc' := 87) (v := 0) dX8_layCut_86 rfl ki_0 ?_
      refine ev_iast (pc' := 88) (j := 2) (I' := (ma_up I 129 (ma_up (ma_up (ma_up (I 129) 0 ((I 126) 1)) 1 (-((I 126) 0))) 2 0))) dX8_layCut_87 rfl hs_129 rfl (Nat.le_of_ble_eq_true rfl) (Nat.le_of_ble_eq_true rfl) (ma_up_up _ _ _ _) ?_
      refine ev_iinc (pc' := 91) (v := 3) (lv' := [some (.ref 115), some (.int (nI q)), some (.int 1), some (.int 0), some (.int 0), some (.int 3), none]) dX8_layCut_88 rfl rfl (by decide) (Nat.le_of_ble_eq_true rfl) rfl rfl ?_
      refine ev_goto (tgt := 37) dX8_layCut_91 rfl ?_
      refine ev_iload (pc' := 39) dX8_layCut_37 rfl rfl ?_
      refine ev_iconst (pc' := 40) (v := 4) dX8_layCut_39 rfl ki_4 ?_
      refine ev_icmp_ge (tgt := 94) (pc' := 43) dX8_layCut_40 rfl rfl (fun h => absurd h (by decide)) (fun _ => ?_)
      refine ev_aload_n (pc' := 44) (i := 0) dX8_layCut_43 rfl rfl rfl ?_
      refine ev_getR (pc' := 47) fo_X8_55 dX8_layCut_44 rfl hs_115 rfl rf_115_20 ?_
      refine ev_iconst (pc' := 48) (v := 4) dX8_layCut_47 rfl ki_4 ?_
      refine ev_iload_n (pc' := 49) (i := 3) dX8_layCut_48 rfl rfl rfl ?_
      refine ev_imul (pc' := 50) (v := 0) dX8_layCut_49 rfl (by decide) ?_
      refine ev_iload (pc' := 52) dX8_layCut_50 rfl rfl ?_
      refine ev_iadd (pc' := 53) (v := 3) dX8_layCut_52 rfl (by decide) ?_
      refine ev_iload (pc' := 55) dX8_layCut_53 rfl rfl ?_
      refine ev_iload (pc' := 57) dX8_layCut_55 rfl rfl ?_
      refine ev_icmp_ne (tgt := 69) (pc' := 60) dX8_layCut_57 rfl rfl (fun _ => ?_) (fun h => absurd h (by decide))
      refine ev_iload (pc' := 71) dX8_layCut_69 rfl rfl ?_
      refine ev_iload_n (pc' := 72) (i := 2) dX8_layCut_71 rfl rfl rfl ?_
      refine ev_icmp_ne (tgt := 86) (pc' := 75) dX8_layCut_72 rfl rfl (fun _ => ?_) (fun h => absurd h (by decide))
      refine ev_iconst (pc' := 87) (v := 0) dX8_layCut_86 rfl ki_0 ?_
      refine ev_iast (pc' := 88) (j := 3) (I' := (ma_up I 129 (ma_up (ma_up (ma_up (ma_up (I 129) 0 ((I 126) 1)) 1 (-((I 126) 0))) 2 0) 3 0))) dX8_layCut_87 rfl hs_129 rfl (Nat.le_of_ble_eq_true rfl) (Nat.le_of_ble_eq_true rfl) (ma_up_up _ _ _ _) ?_
      refine ev_iinc (pc' := 91) (v := 4) (lv' := [some (.ref 115), some (.int (nI q)), some (.int 1), some (.int 0), some (.int 0), some (.int 4), none]) dX8_layCut_88 rfl rfl (by decide) (Nat.le_of_ble_eq_true rfl) rfl rfl ?_
      refine ev_goto (tgt := 37) dX8_layCut_91 rfl ?_
      refine ev_iload (pc' := 39) dX8_layCut_37 rfl rfl ?_
      refine ev_iconst (pc' := 40) (v := 4) dX8_layCut_39 rfl ki_4 ?_
      refine ev_icmp_ge (tgt := 94) (pc' := 43) dX8_layCut_40 rfl rfl (fun _ => ?_) (fun h => absurd (by decide) h)
      refine ev_iinc (pc' := 97) (v := 1) (lv' := [some (.ref 115), some (.int (nI q)), some (.int 1), some (.int 1), some (.int 0), some (.int 4), none]) dX8_layCut_94 rfl rfl (by decide) (Nat.le_of_ble_eq_true rfl) rfl rfl ?_
      refine ev_iinc (pc' := 100) (v := 1) (lv' := [some (.ref 115), some (.int (nI q)), some (.int 1), some (.int 1), some (.int 1), some (.int 4), none]) dX8_layCut_97 rfl rfl (by decide) (Nat.le_of_ble_eq_true rfl) rfl rfl ?_
      refine ev_goto (tgt := 22) dX8_layCut_100 rfl ?_
      refine ev_iload (pc' := 24) dX8_layCut_22 rfl rfl ?_
      refine ev_iconst (pc' := 25) (v := 4) dX8_layCut_24 rfl ki_4 ?_
      refine ev_icmp_ge (tgt := 103) (pc' := 28) dX8_layCut_25 rfl rfl (fun h => absurd h (by decide)) (fun _ => ?_)
      refine ev_iload (pc' := 30) dX8_layCut_28 rfl rfl ?_
      refine ev_iload_n (pc' := 31) (i := 2) dX8_layCut_30 rfl rfl rfl ?_
      refine ev_icmp_eq (tgt := 97) (pc' := 34) dX8_layCut_31 rfl rfl (fun _ => ?_) (fun h => absurd (by decide) h)
      refine ev_iinc (pc' := 100) (v := 2) (lv' := [some (.ref 115), some (.int (nI q)), some (.int 1), some (.int 1), some (.int 2), some (.int 4), none]) dX8_layCut_97 rfl rfl (by decide) (Nat.le_of_ble_eq_true rfl) rfl rfl ?_
      refine ev_goto (tgt := 22) dX8_layCut_100 rfl ?_
      refine ev_iload (pc' := 24) dX8_layCut_22 rfl rfl ?_
      refine ev_iconst (pc' := 25) (v := 4) dX8_layCut_24 rfl ki_4 ?_
      refine ev_icmp_ge (tgt := 103) (pc' := 28) dX8_layCut_25 rfl rfl (fun h => absurd h (by decide)) (fun _ => ?_)
      refine ev_iload (pc' := 30) dX8_layCut_28 rfl rfl ?_
      refine ev_iload_n (pc' := 31) (i := 2) dX8_layCut_30 rfl rfl rfl ?_
      refine ev_icmp_eq (tgt := 97) (pc' := 34) dX8_layCut_31 rfl rfl (fun h => absurd h (by decide)) (fun _ => ?_)
      refine ev_iconst (pc' := 35) (v := 0) dX8_layCut_34 rfl ki_0 ?_
      refine ev_istore (pc' := 37) (lv' := [some (.ref 115), some (.int (nI q)), some (.int 1), some (.int 1), some (.int 2), some (.int 0), none]) dX8_layCut_35 rfl (Nat.le_of_ble_eq_true rfl) rfl rfl ?_
      refine ev_iload (pc' := 39) dX8_layCut_37 rfl rfl ?_
      refine ev_iconst (pc' := 40) (v := 4) dX8_layCut_39 rfl ki_4 ?_
      refine ev_icmp_ge (tgt := 94) (pc' := 43) dX8_layCut_40 rfl rfl (fun h => absurd h (by decide)) (fun _ => ?_)
      refine ev_aload_n (pc' := 44) (i := 0) dX8_layCut_43 rfl rfl rfl ?_
      refine ev_getR (pc' := 47) fo_X8_55 dX8_layCut_44 rfl hs_115 rfl rf_115_20 ?_
      refine ev_iconst (pc' := 48) (v := 4) dX8_layCut_47 rfl ki_4 ?_
      refine ev_iload_n (pc' := 49) (i := 3) dX8_layCut_48 rfl rfl rfl ?_
      refine ev_imul (pc' := 50) (v := 4) dX8_layCut_49 rfl (by decide) ?_
      refine ev_iload (pc' := 52) dX8_layCut_50 rfl rfl ?_
      refine ev_iadd (pc' := 53) (v := 4) dX8_layCut_52 rfl (by decide) ?_
      refine ev_iload (pc' := 55) dX8_layCut_53 rfl rfl ?_
      refine ev_iload (pc' := 57) dX8_layCut_55 rfl rfl ?_
      refine ev_icmp_ne (tgt := 69) (pc' := 60) dX8_layCut_57 rfl rfl (fun _ => ?_) (fun h => absurd h (by decide))
      refine ev_iload (pc' := 71) dX8_layCut_69 rfl rfl ?_
      refine ev_iload_n (pc' := 72) (i := 2) dX8_layCut_71 rfl rfl rfl ?_
      refine ev_icmp_ne (tgt := 86) (pc' := 75) dX8_layCut_72 rfl rfl (fun _ => ?_) (fun h => absurd h (by decide))
      refine ev_iconst (pc' := 87) (v := 0) dX8_layCut_86 rfl ki_0 ?_
      refine ev_iast (pc' := 88) (j := 4) (I' := (ma_up I 129 (ma_up (ma_up (ma_up (ma_up (ma_up (I 129) 0 ((I 126) 1)) 1 (-((I 126) 0))) 2 0) 3 0) 4 0))) dX8_layCut_87 rfl hs_129 rfl (Nat.le_of_ble_eq_true rfl) (Nat.le_of_ble_eq_true rfl) (ma_up_up _ _ _ _) ?_
      refine ev_iinc (pc' := 91) (v := 1) (lv' := [some (.ref 115), some (.int (nI q)), some (.int 1), some (.int 1), some (.int 2), some (.int 1), none]) dX8_layCut_88 rfl rfl (by decide) (Nat.le_of_ble_eq_true rfl) rfl rfl ?_
      refine ev_goto (tgt := 37) dX8_layCut_91 rfl ?_
      refine ev_iload (pc' := 39) dX8_layCut_37 rfl rfl ?_
      refine ev_iconst (pc' := 40) (v := 4) dX8_layCut_39 rfl ki_4 ?_
      refine ev_icmp_ge (tgt := 94) (pc' := 43) dX8_layCut_40 rfl rfl (fun h => absurd h (by decide)) (fun _ => ?_)
      refine ev_aload_n (pc' := 44) (i := 0) dX8_layCut_43 rfl rfl rfl ?_
      refine ev_getR (pc' := 47) fo_X8_55 dX8_layCut_44 rfl hs_115 rfl rf_115_20 ?_
      refine ev_iconst (pc' := 48) (v := 4) dX8_layCut_47 rfl ki_4 ?_
      refine ev_iload_n (pc' := 49) (i := 3) dX8_layCut_48 rfl rfl rfl ?_
      refine ev_imul (pc' := 50) (v := 4) dX8_layCut_49 rfl (by decide) ?_
      refine ev_iload (pc' := 52) dX8_layCut_50 rfl rfl ?_
      refine ev_iadd (pc' := 53) (v := 5) dX8_layCut_52 rfl (by decide) ?_
      refine ev_iload (pc' := 55) dX8_layCut_53 rfl rfl ?_
      refine ev_iload (pc' := 57) dX8_layCut_55 rfl rfl ?_
      refine ev_icmp_ne (tgt := 69) (pc' := 60) dX8_layCut_57 rfl rfl (fun _ => ?_) (fun h => absurd h (by decide))
      refine ev_iload (pc' := 71) dX8_layCut_69 rfl rfl ?_
      refine ev_iload_n (pc' := 72) (i := 2) dX8_layCut_71 rfl rfl rfl ?_
      refine ev_icmp_ne (tgt := 86) (pc' := 75) dX8_layCut_72 rfl rfl (fun h => absurd (by decide) h) (fun _ => ?_)
      refine ev_aload_n (pc' := 76) (i := 0) dX8_layCut_75 rfl rfl rfl ?_
      refine ev_getR (pc' := 79) fo_X8_46 dX8_layCut_76 rfl hs_115 rfl rf_115_16 ?_
      refine ev_iload (pc' := 81) dX8_layCut_79 rfl rfl ?_
      refine ev_iald (pc' := 82) (j := 2) (v := (I 126) 2) dX8_layCut_81 rfl hs_126 rfl (Nat.le_of_ble_eq_true rfl) (Nat.le_of_ble_eq_true rfl) rfl ?_
      refine ev_ineg (pc' := 83) (v := -((I 126) 2)) dX8_layCut_82 rfl rfl ?_
      refine ev_goto (tgt := 87) dX8_layCut_83 rfl ?_
      refine ev_iast (pc' := 88) (j := 5) (I' := (ma_up I 129 (ma_up (ma_up (ma_up (ma_up (ma_up (ma_up (I 129) 0 ((I 126) 1)) 1 (-((I 126) 0))) 2 0) 3 0) 4 0) 5 (-((I 126) 2))))) dX8_layCut_87 rfl hs_129 rfl (Nat.le_of_ble_eq_true rfl) (Nat.le_of_ble_eq_true rfl) (ma_up_up _ _ _ _) ?_
      refine ev_iinc (pc' := 91) (v := 2) (lv' := [some (.ref 115), some (.int (nI q)), some (.int 1), some (.int 1), some (.int 2), some (.int 2), none]) dX8_layCut_88 rfl rfl (by decide) (Nat.le_of_ble_eq_true rfl) rfl rfl ?_
      refine ev_goto (tgt := 37) dX8_layCut_91 rfl ?_
      refine ev_iload (pc' := 39) dX8_layCut_37 rfl rfl ?_
      refine ev_iconst (pc' := 40) (v := 4) dX8_layCut_39 rfl ki_4 ?_
      refine ev_icmp_ge (tgt := 94) (pc' := 43) dX8_layCut_40 rfl rfl (fun h => absurd h (by decide)) (fun _ => ?_)
      refine ev_aload_n (pc' := 44) (i := 0) dX8_layCut_43 rfl rfl rfl ?_
      refine ev_getR (pc' := 47) fo_X8_55 dX8_layCut_44 rfl hs_115 rfl rf_115_20 ?_
      refine ev_iconst (pc' := 48) (v := 4) dX8_layCut_47 rfl ki_4 ?_
      refine ev_iload_n (pc' := 49) (i := 3) dX8_layCut_48 rfl rfl rfl ?_
      refine ev_imul (pc' := 50) (v := 4) dX8_layCut_49 rfl (by decide) ?_
      refine ev_iload (pc' := 52) dX8_layCut_50 rfl rfl ?_
      refine ev_iadd (pc' := 53) (v := 6) dX8_layCut_52 rfl (by decide) ?_
      refine ev_iload (pc' := 55) dX8_layCut_53 rfl rfl ?_
      refine ev_iload (pc' := 57) dX8_layCut_55 rfl rfl ?_
      refine ev_icmp_ne (tgt := 69) (pc' := 60) dX8_layCut_57 rfl rfl (fun h => absurd (by decide) h) (fun _ => ?_)
      refine ev_aload_n (pc' := 61) (i := 0) dX8_layCut_60 rfl rfl rfl ?_
      refine ev_getR (pc' := 64) fo_X8_46 dX8_layCut_61 rfl hs_115 rfl rf_115_16 ?_
      refine ev_iload_n (pc' := 65) (i := 2) dX8_layCut_64 rfl rfl rfl ?_
      refine ev_iald (pc' := 66) (j := 1) (v := (I 126) 1) dX8_layCut_65 rfl hs_126 rfl (Nat.le_of_ble_eq_true rfl) (Nat.le_of_ble_eq_true rfl) rfl ?_
      refine ev_goto (tgt := 87) dX8_layCut_66 rfl ?_
      refine ev_iast (pc' := 88) (j := 6) (I' := (ma_up I 129 (ma_up (ma_up (ma_up (ma_up (ma_up (ma_up (ma_up (I 129) 0 ((I 126) 1)) 1 (-((I 126) 0))) 2 0) 3 0) 4 0) 5 (-((I 126) 2))) 6 ((I 126) 1)))) dX8_layCut_87 rfl hs_129 rfl (Nat.le_of_ble_eq_true rfl) (Nat.le_of_ble_eq_true rfl) (ma_up_up _ _ _ _) ?_
      refine ev_iinc (pc' := 91) (v := 3) (lv' := [some (.ref 115), some (.int (nI q)), some (.int 1), some (.int 1), some (.int 2), some (.int 3), none]) dX8_layCut_88 rfl rfl (by decide) (Nat.le_of_ble_eq_true rfl) rfl rfl ?_
      refine ev_goto (tgt := 37) dX8_layCut_91 rfl ?_
      refine ev_iload (pc' := 39) dX8_layCut_37 rfl rfl ?_
      refine ev_iconst (pc' := 40) (v := 4) dX8_layCut_39 rfl ki_4 ?_
      refine ev_icmp_ge (tgt := 94) (pc' := 43) dX8_layCut_40 rfl rfl (fun h => absurd h (by decide)) (fun _ => ?_)
      refine ev_aload_n (pc' := 44) (i := 0) dX8_layCut_43 rfl rfl rfl ?_
      refine ev_getR (pc' := 47) fo_X8_55 dX8_layCut_44 rfl hs_115 rfl rf_115_20 ?_
      refine ev_iconst (pc' := 48) (v := 4) dX8_layCut_47 rfl ki_4 ?_
      refine ev_iload_n (pc' := 49) (i := 3) dX8_layCut_48 rfl rfl rfl ?_
      refine ev_imul (pc' := 50) (v := 4) dX8_layCut_49 rfl (by decide) ?_
      refine ev_iload (pc' := 52) dX8_layCut_50 rfl rfl ?_
      refine ev_iadd (pc' := 53) (v := 7) dX8_layCut_52 rfl (by decide) ?_
      refine ev_iload (pc' := 55) dX8_layCut_53 rfl rfl ?_
      refine ev_iload (pc' := 57) dX8_layCut_55 rfl rfl ?_
      refine ev_icmp_ne (tgt := 69) (pc' := 60) dX8_layCut_57 rfl rfl (fun _ => ?_) (fun h => absurd h (by decide))
      refine ev_iload (pc' := 71) dX8_layCut_69 rfl rfl ?_
      refine ev_iload_n (pc' := 72) (i := 2) dX8_layCut_71 rfl rfl rfl ?_
      refine ev_icmp_ne (tgt := 86) (pc' := 75) dX8_layCut_72 rfl rfl (fun _ => ?_) (fun h => absurd h (by decide))
      refine ev_iconst (pc' := 87) (v := 0) dX8_layCut_86 rfl ki_0 ?_
      refine ev_iast (pc' := 88) (j := 7) (I' := (ma_up I 129 (ma_up (ma_up (ma_up (ma_up (ma_up (ma_up (ma_up (ma_up (I 129) 0 ((I 126) 1)) 1 (-((I 126) 0))) 2 0) 3 0) 4 0) 5 (-((I 126) 2))) 6 ((I 126) 1)) 7 0))) dX8_layCut_87 rfl hs_129 rfl (Nat.le_of_ble_eq_true rfl) (Nat.le_of_ble_eq_true rfl) (ma_up_up _ _ _ _) ?_
      refine ev_iinc (pc' := 91) (v := 4) (lv' := [some (.ref 115), some (.int (nI q)), some (.int 1), some (.int 1), some (.int 2), some (.int 4), none]) dX8_layCut_88 rfl rfl (by decide) (Nat.le_of_ble_eq_true rfl) rfl rfl ?_
      refine ev_goto (tgt := 37) dX8_layCut_91 rfl ?_
      refine ev_iload (pc' := 39) dX8_layCut_37 rfl rfl ?_
      refine ev_iconst (pc' := 40) (v := 4) dX8_layCut_39 rfl ki_4 ?_
      refine ev_icmp_ge (tgt := 94) (pc' := 43) dX8_layCut_40 rfl rfl (fun _ => ?_) (fun h => absurd (by decide) h)
      refine ev_iinc (pc' := 97) (v := 2) (lv' := [some (.ref 115), some (.int (nI q)), some (.int 1), some (.int 2), some (.int 2), some (.int 4), none]) dX8_layCut_94 rfl rfl (by decide) (Nat.le_of_ble_eq_true rfl) rfl rfl ?_
      refine ev_iinc (pc' := 100) (v := 3) (lv' := [some (.ref 115), some (.int (nI q)), some (.int 1), some (.int 2), some (.int 3), some (.int 4), none]) dX8_layCut_97 rfl rfl (by decide) (Nat.le_of_ble_eq_true rfl) rfl rfl ?_
      refine ev_goto (tgt := 22) dX8_layCut_100 rfl ?_
      refine ev_iload (pc' := 24) dX8_layCut_22 rfl rfl ?_
      refine ev_iconst (pc' := 25) (v := 4) dX8_layCut_24 rfl ki_4 ?_
      refine ev_icmp_ge (tgt := 103) (pc' := 28) dX8_layCut_25 rfl rfl (fun h => absurd h (by decide)) (fun _ => ?_)
      refine ev_iload (pc' := 30) dX8_layCut_28 rfl rfl ?_
      refine ev_iload_n (pc' := 31) (i := 2) dX8_layCut_30 rfl rfl rfl ?_
      refine ev_icmp_eq (tgt := 97) (pc' := 34) dX8_layCut_31 rfl rfl (fun h => absurd h (by decide)) (fun _ => ?_)
      refine ev_iconst (pc' := 35) (v := 0) dX8_layCut_34 rfl ki_0 ?_
      refine ev_istore (pc' := 37) (lv' := [some (.ref 115), some (.int (nI q)), some (.int 1), some (.int 2), some (.int 3), some (.int 0), none]) dX8_layCut_35 rfl (Nat.le_of_ble_eq_true rfl) rfl rfl ?_
      refine ev_iload (pc' := 39) dX8_layCut_37 rfl rfl ?_
      refine ev_iconst (pc' := 40) (v := 4) dX8_layCut_39 rfl ki_4 ?_
      refine ev_icmp_ge (tgt := 94) (pc' := 43) dX8_layCut_40 rfl rfl (fun h => absurd h (by decide)) (fun _ => ?_)
      refine ev_aload_n (pc' := 44) (i := 0) dX8_layCut_43 rfl rfl rfl ?_
      refine ev_getR (pc' := 47) fo_X8_55 dX8_layCut_44 rfl hs_115 rfl rf_115_20 ?_
      refine ev_iconst (pc' := 48) (v := 4) dX8_layCut_47 rfl ki_4 ?_
      refine ev_iload_n (pc' := 49) (i := 3) dX8_layCut_48 rfl rfl rfl ?_
      refine ev_imul (pc' := 50) (v := 8) dX8_layCut_49 rfl (by decide) ?_
      refine ev_iload (pc' := 52) dX8_layCut_50 rfl rfl ?_
      refine ev_iadd (pc' := 53) (v := 8) dX8_layCut_52 rfl (by decide) ?_
      refine ev_iload (pc' := 55) dX8_layCut_53 rfl rfl ?_
      refine ev_iload (pc' := 57) dX8_layCut_55 rfl rfl ?_
      refine ev_icmp_ne (tgt := 69) (pc' := 60) dX8_layCut_57 rfl rfl (fun _ => ?_) (fun h => absurd h (by decide))
      refine ev_iload (pc' := 71) dX8_layCut_69 rfl rfl ?_
      refine ev_iload_n (pc' := 72) (i := 2) dX8_layCut_71 rfl rfl rfl ?_
      refine ev_icmp_ne (tgt := 86) (pc' := 75) dX8_layCut_72 rfl rfl (fun _ => ?_) (fun h => absurd h (by decide))
      refine ev_iconst (pc' := 87) (v := 0) dX8_layCut_86 rfl ki_0 ?_
      refine ev_iast (pc' := 88) (j := 8) (I' := (ma_up I 129 (ma_up (ma_up (ma_up (ma_up (ma_up (ma_up (ma_up (ma_up (ma_up (I 129) 0 ((I 126) 1)) 1 (-((I 126) 0))) 2 0) 3 0) 4 0) 5 (-((I 126) 2))) 6 ((I 126) 1)) 7 0) 8 0))) dX8_layCut_87 rfl hs_129 rfl (Nat.le_of_ble_eq_true rfl) (Nat.le_of_ble_eq_true rfl) (ma_up_up _ _ _ _) ?_
      refine ev_iinc (pc' := 91) (v := 1) (lv' := [some (.ref 115), some (.int (nI q)), some (.int 1), some (.int 2), some (.int 3), some (.int 1), none]) dX8_layCut_88 rfl rfl (by decide) (Nat.le_of_ble_eq_true rfl) rfl rfl ?_
      refine ev_goto (tgt := 37) dX8_layCut_91 rfl ?_
      refine ev_iload (pc' := 39) dX8_layCut_37 rfl rfl ?_
      refine ev_iconst (pc' := 40) (v := 4) dX8_layCut_39 rfl ki_4 ?_
      refine ev_icmp_ge (tgt := 94) (pc' := 43) dX8_layCut_40 rfl rfl (fun h => absurd h (by decide)) (fun _ => ?_)
      refine ev_aload_n (pc' := 44) (i := 0) dX8_layCut_43 rfl rfl rfl ?_
      refine ev_getR (pc' := 47) fo_X8_55 dX8_layCut_44 rfl hs_115 rfl rf_115_20 ?_
      refine ev_iconst (pc' := 48) (v := 4) dX8_layCut_47 rfl ki_4 ?_
      refine ev_iload_n (pc' := 49) (i := 3) dX8_layCut_48 rfl rfl rfl ?_
      refine ev_imul (pc' := 50) (v := 8) dX8_layCut_49 rfl (by decide) ?_
      refine ev_iload (pc' := 52) dX8_layCut_50 rfl rfl ?_
      refine ev_iadd (pc' := 53) (v := 9) dX8_layCut_52 rfl (by decide) ?_
      refine ev_iload (pc' := 55) dX8_layCut_53 rfl rfl ?_
      refine ev_iload (pc' := 57) dX8_layCut_55 rfl rfl ?_
      refine ev_icmp_ne (tgt := 69) (pc' := 60) dX8_layCut_57 rfl rfl (fun _ => ?_) (fun h => absurd h (by decide))
      refine ev_iload (pc' := 71) dX8_layCut_69 rfl rfl ?_
      refine ev_iload_n (pc' := 72) (i := 2) dX8_layCut_71 rfl rfl rfl ?_
      refine ev_icmp_ne (tgt := 86) (pc' := 75) dX8_layCut_72 rfl rfl (fun h => absurd (by decide) h) (fun _ => ?_)
      refine ev_aload_n (pc' := 76) (i := 0) dX8_layCut_75 rfl rfl rfl ?_
      refine ev_getR (pc' := 79) fo_X8_46 dX8_layCut_76 rfl hs_115 rfl rf_115_16 ?_
      refine ev_iload (pc' := 81) dX8_layCut_79 rfl rfl ?_
      refine ev_iald (pc' := 82) (j := 3) (v := (I 126) 3) dX8_layCut_81 rfl hs_126 rfl (Nat.le_of_ble_eq_true rfl) (Nat.le_of_ble_eq_true rfl) rfl ?_
      refine ev_ineg (pc' := 83) (v := -((I 126) 3)) dX8_layCut_82 rfl rfl ?_
      refine ev_goto (tgt := 87) dX8_layCut_83 rfl ?_
      refine ev_iast (pc' := 88) (j := 9) (I' := (ma_up I 129 (ma_up (ma_up (ma_up (ma_up (ma_up (ma_up (ma_up (ma_up (ma_up (ma_up (I 129) 0 ((I 126) 1)) 1 (-((I 126) 0))) 2 0) 3 0) 4 0) 5 (-((I 126) 2))) 6 ((I 126) 1)) 7 0) 8 0) 9 (-((I 126) 3))))) dX8_layCut_87 rfl hs_129 rfl (Nat.le_of_ble_eq_true rfl) (Nat.le_of_ble_eq_true rfl) (ma_up_up _ _ _ _) ?_
      refine ev_iinc (pc' := 91) (v := 2) (lv' := [some (.ref 115), some (.int (nI q)), some (.int 1), some (.int 2), some (.int 3), some (.int 2), none]) dX8_layCut_88 rfl rfl (by decide) (Nat.le_of_ble_eq_true rfl) rfl rfl ?_
      refine ev_goto (tgt := 37) dX8_layCut_91 rfl ?_
      refine ev_iload (pc' := 39) dX8_layCut_37 rfl rfl ?_
      refine ev_iconst (pc' := 40) (v := 4) dX8_layCut_39 rfl ki_4 ?_
      refine ev_icmp_ge (tgt := 94) (pc' := 43) dX8_layCut_40 rfl rfl (fun h => absurd h (by decide)) (fun _ => ?_)
      refine ev_aload_n (pc' := 44) (i := 0) dX8_layCut_43 rfl rfl rfl ?_
      refine ev_getR (pc' := 47) fo_X8_55 dX8_layCut_44 rfl hs_115 rfl rf_115_20 ?_
      refine ev_iconst (pc' := 48) (v := 4) dX8_layCut_47 rfl ki_4 ?_
      refine ev_iload_n (pc' := 49) (i := 3) dX8_layCut_48 rfl rfl rfl ?_
      refine ev_imul (pc' := 50) (v := 8) dX8_layCut_49 rfl (by decide) ?_
      refine ev_iload (pc' := 52) dX8_layCut_50 rfl rfl ?_
      refine ev_iadd (pc' := 53) (v := 10) dX8_layCut_52 rfl (by decide) ?_
      refine ev_iload (pc' := 55) dX8_layCut_53 rfl rfl ?_
      refine ev_iload (pc' := 57) dX8_layCut_55 rfl rfl ?_
      refine ev_icmp_ne (tgt := 69) (pc' := 60) dX8_layCut_57 rfl rfl (fun _ => ?_) (fun h => absurd h (by decide))
      refine ev_iload (pc' := 71) dX8_layCut_69 rfl rfl ?_
      refine ev_iload_n (pc' := 72) (i := 2) dX8_layCut_71 rfl rfl rfl ?_
      refine ev_icmp_ne (tgt := 86) (pc' := 75) dX8_layCut_72 rfl rfl (fun _ => ?_) (fun h => absurd h (by decide))
      refine ev_iconst (pc' := 87) (v := 0) dX8_layCut_86 rfl ki_0 ?_
      refine ev_iast (pc' := 88) (j := 10) (I' := (ma_up I 129 (ma_up (ma_up (ma_up (ma_up (ma_up (ma_up (ma_up (ma_up (ma_up (ma_up (ma_up (I 129) 0 ((I 126) 1)) 1 (-((I 126) 0))) 2 0) 3 0) 4 0) 5 (-((I 126) 2))) 6 ((I 126) 1)) 7 0) 8 0) 9 (-((I 126) 3))) 10 0))) dX8_layCut_87 rfl hs_129 rfl (Nat.le_of_ble_eq_true rfl) (Nat.le_of_ble_eq_true rfl) (ma_up_up _ _ _ _) ?_
      refine ev_iinc (pc' := 91) (v := 3) (lv' := [some (.ref 115), some (.int (nI q)), some (.int 1), some (.int 2), some (.int 3), some (.int 3), none]) dX8_layCut_88 rfl rfl (by decide) (Nat.le_of_ble_eq_true rfl) rfl rfl ?_
      refine ev_goto (tgt := 37) dX8_layCut_91 rfl ?_
      refine ev_iload (pc' := 39) dX8_layCut_37 rfl rfl ?_
      refine ev_iconst (pc' := 40) (v := 4) dX8_layCut_39 rfl ki_4 ?_
      refine ev_icmp_ge (tgt := 94) (pc' := 43) dX8_layCut_40 rfl rfl (fun h => absurd h (by decide)) (fun _ => ?_)
      refine ev_aload_n (pc' := 44) (i := 0) dX8_layCut_43 rfl rfl rfl ?_
      refine ev_getR (pc' := 47) fo_X8_55 dX8_layCut_44 rfl hs_115 rfl rf_115_20 ?_
      refine ev_iconst (pc' := 48) (v := 4) dX8_layCut_47 rfl ki_4 ?_
      refine ev_iload_n (pc' := 49) (i := 3) dX8_layCut_48 rfl rfl rfl ?_
      refine ev_imul (pc' := 50) (v := 8) dX8_layCut_49 rfl (by decide) ?_
      refine ev_iload (pc' := 52) dX8_layCut_50 rfl rfl ?_
      refine ev_iadd (pc' := 53) (v := 11) dX8_layCut_52 rfl (by decide) ?_
      refine ev_iload (pc' := 55) dX8_layCut_53 rfl rfl ?_
      refine ev_iload (pc' := 57) dX8_layCut_55 rfl rfl ?_
      refine ev_icmp_ne (tgt := 69) (pc' := 60) dX8_layCut_57 rfl rfl (fun h => absurd (by decide) h) (fun _ => ?_)
      refine ev_aload_n (pc' := 61) (i := 0) dX8_layCut_60 rfl rfl rfl ?_
      refine ev_getR (pc' := 64) fo_X8_46 dX8_layCut_61 rfl hs_115 rfl rf_115_16 ?_
      refine ev_iload_n (pc' := 65) (i := 2) dX8_layCut_64 rfl rfl rfl ?_
      refine ev_iald (pc' := 66) (j := 1) (v := (I 126) 1) dX8_layCut_65 rfl hs_126 rfl (Nat.le_of_ble_eq_true rfl) (Nat.le_of_ble_eq_true rfl) rfl ?_
      refine ev_goto (tgt := 87) dX8_layCut_66 rfl ?_
      refine ev_iast (pc' := 88) (j := 11) (I' := (ma_up I 129 (ma_up (ma_up (ma_up (ma_up (ma_up (ma_up (ma_up (ma_up (ma_up (ma_up (ma_up (ma_up (I 129) 0 ((I 126) 1)) 1 (-((I 126) 0))) 2 0) 3 0) 4 0) 5 (-((I 126) 2))) 6 ((I 126) 1)) 7 0) 8 0) 9 (-((I 126) 3))) 10 0) 11 ((I 126) 1)))) dX8_layCut_87 rfl hs_129 rfl (Nat.le_of_ble_eq_true rfl) (Nat.le_of_ble_eq_true rfl) (ma_up_up _ _ _ _) ?_
      refine ev_iinc (pc' := 91) (v := 4) (lv' := [some (.ref 115), some (.int (nI q)), some (.int 1), some (.int 2), some (.int 3), some (.int 4), none]) dX8_layCut_88 rfl rfl (by decide) (Nat.le_of_ble_eq_true rfl) rfl rfl ?_
      refine ev_goto (tgt := 37) dX8_layCut_91 rfl ?_
      refine ev_iload (pc' := 39) dX8_layCut_37 rfl rfl ?_
      refine ev_iconst (pc' := 40) (v := 4) dX8_layCut_39 rfl ki_4 ?_
      refine ev_icmp_ge (tgt := 94) (pc' := 43) dX8_layCut_40 rfl rfl (fun _ => ?_) (fun h => absurd (by decide) h)
      refine ev_iinc (pc' := 97) (v := 3) (lv' := [some (.ref 115), some (.int (nI q)), some (.int 1), some (.int 3), some (.int 3), some (.int 4), none]) dX8_layCut_94 rfl rfl (by decide) (Nat.le_of_ble_eq_true rfl) rfl rfl ?_
      refine ev_iinc (pc' := 100) (v := 4) (lv' := [some (.ref 115), some (.int (nI q)), some (.int 1), some (.int 3), some (.int 4), some (.int 4), none]) dX8_layCut_97 rfl rfl (by decide) (Nat.le_of_ble_eq_true rfl) rfl rfl ?_
      refine ev_goto (tgt := 22) dX8_layCut_100 rfl ?_
      refine ev_iload (pc' := 24) dX8_layCut_22 rfl rfl ?_
      refine ev_iconst (pc' := 25) (v := 4) dX8_layCut_24 rfl ki_4 ?_
      refine ev_icmp_ge (tgt := 103) (pc' := 28) dX8_layCut_25 rfl rfl (fun _ => ?_) (fun h => absurd (by decide) h)
      refine ev_iconst (pc' := 104) (v := 0) dX8_layCut_103 rfl ki_0 ?_
      refine ev_istore (pc' := 106) (lv' := [some (.ref 115), some (.int (nI q)), some (.int 1), some (.int 3), some (.int 0), some (.int 4), none]) dX8_layCut_104 rfl (Nat.le_of_ble_eq_true rfl) rfl rfl ?_
      refine ev_iload (pc' := 108) dX8_layCut_106 rfl rfl ?_
      refine ev_iconst (pc' := 109) (v := 3) dX8_layCut_108 rfl ki_3 ?_
      refine ev_icmp_ge (tgt := 212) (pc' := 112) dX8_layCut_109 rfl rfl (fun h => absurd h (by decide)) (fun _ => ?_)
      refine ev_iconst (pc' := 113) (v := 0) dX8_layCut_112 rfl ki_0 ?_
      refine ev_istore (pc' := 115) (lv' := [some (.ref 115), some (.int (nI q)), some (.int 1), some (.int 3), some (.int 0), some (.int 0), none]) dX8_layCut_113 rfl (Nat.le_of_ble_eq_true rfl) rfl rfl ?_
      refine ev_iload (pc' := 117) dX8_layCut_115 rfl rfl ?_
      refine ev_iconst (pc' := 118) (v := 3) dX8_layCut_117 rfl ki_3 ?_
      refine ev_icmp_ge (tgt := 206) (pc' := 121) dX8_layCut_118 rfl rfl (fun h => absurd h (by decide)) (fun _ => ?_)
      refine ev_iconst (pc' := 122) (v := 0) dX8_layCut_121 rfl ki_0 ?_
      refine ev_istore (pc' := 124) (lv' := [some (.ref 115), some (.int (nI q)), some (.int 1), some (.int 3), some (.int 0), some (.int 0), some (.int 0)]) dX8_layCut_122 rfl (Nat.le_of_ble_eq_true rfl) rfl rfl ?_
      refine ev_iload (pc' := 126) dX8_layCut_124 rfl rfl ?_
      refine ev_iconst (pc' := 127) (v := 4) dX8_layCut_126 rfl ki_4 ?_
      refine ev_icmp_ge (tgt := 174) (pc' := 130) dX8_layCut_127 rfl rfl (fun h => absurd h (by decide)) (fun _ => ?_)
      refine ev_aload_n (pc' := 131) (i := 0) dX8_layCut_130 rfl rfl rfl ?_
      refine ev_getR (pc' := 134) fo_X8_58 dX8_layCut_131 rfl hs_115 rfl rf_115_21 ?_
      refine ev_iload (pc' := 136) dX8_layCut_134 rfl rfl ?_
      refine ev_aload_n (pc' := 137) (i := 0) dX8_layCut_136 rfl rfl rfl ?_
      refine ev_getR (pc' := 140) fo_X8_55 dX8_layCut_137 rfl hs_115 rfl rf_115_20 ?_
      refine ev_iconst (pc' := 141) (v := 4) dX8_layCut_140 rfl ki_4 ?_
      refine ev_iload (pc' := 143) dX8_layCut_141 rfl rfl ?_
      refine ev_imul (pc' := 144) (v := 0) dX8_layCut_143 rfl (by decide) ?_
      refine ev_iload (pc' := 146) dX8_layCut_144 rfl rfl ?_
      refine ev_iadd (pc' := 147) (v := 0) dX8_layCut_146 rfl (by decide) ?_
      refine ev_iald (pc' := 148) (j := 0) (v := (I 126) 1) dX8_layCut_147 rfl hs_129 rfl (Nat.le_of_ble_eq_true rfl) (Nat.le_of_ble_eq_true rfl) rfl ?_
      refine ev_iast (pc' := 149) (j := 0) (I' := (ma_up (ma_up I 129 (ma_up (ma_up (ma_up (ma_up (ma_up (ma_up (ma_up (ma_up (ma_up (ma_up (ma_up (ma_up (I 129) 0 ((I 126) 1)) 1 (-((I 126) 0))) 2 0) 3 0) 4 0) 5 (-((I 126) 2))) 6 ((I 126) 1)) 7 0) 8 0) 9 (-((I 126) 3))) 10 0) 11 ((I 126) 1))) 130 (ma_up (I 130) 0 ((I 126) 1)))) dX8_layCut_148 rfl hs_130 rfl (Nat.le_of_ble_eq_true rfl) (Nat.le_of_ble_eq_true rfl) rfl ?_
      refine ev_aload_n (pc' := 150) (i := 0) dX8_layCut_149 rfl rfl rfl ?_
      refine ev_getR (pc' := 153) fo_X8_61 dX8_layCut_150 rfl hs_115 rfl rf_115_22 ?_
      refine ev_iload (pc' := 155) dX8_layCut_153 rfl rfl ?_
      refine ev_aload_n (pc' := 156) (i := 0) dX8_layCut_155 rfl rfl rfl ?_
      refine ev_getR (pc' := 159) fo_X8_55 dX8_layCut_156 rfl hs_115 rfl rf_115_20 ?_
      refine ev_iconst (pc' := 160) (v := 4) dX8_layCut_159 rfl ki_4 ?_
      refine ev_iload (pc' := 162) dX8_layCut_160 rfl rfl ?_
      refine ev_imul (pc' := 163) (v := 0) dX8_layCut_162 rfl (by decide) ?_
      refine ev_iload (pc' := 165) dX8_layCut_163 rfl rfl ?_
      refine ev_iadd (pc' := 166) (v := 0) dX8_layCut_165 rfl (by decide) ?_
      refine ev_iald (pc' := 167) (j := 0) (v := (I 126) 1) dX8_layCut_166 rfl hs_129 rfl (Nat.le_of_ble_eq_true rfl) (Nat.le_of_ble_eq_true rfl) rfl ?_
      refine ev_iast (pc' := 168) (j := 0) (I' := (ma_up (ma_up (ma_up I 129 (ma_up (ma_up (ma_up (ma_up (ma_up (ma_up (ma_up (ma_up (ma_up (ma_up (ma_up (ma_up (I 129) 0 ((I 126) 1)) 1 (-((I 126) 0))) 2 0) 3 0) 4 0) 5 (-((I 126) 2))) 6 ((I 126) 1)) 7 0) 8 0) 9 (-((I 126) 3))) 10 0) 11 ((I 126) 1))) 130 (ma_up (I 130) 0 ((I 126) 1))) 131 (ma_up (I 131) 0 ((I 126) 1)))) dX8_layCut_167 rfl hs_131 rfl (Nat.le_of_ble_eq_true rfl) (Nat.le_of_ble_eq_true rfl) rfl ?_
      refine ev_iinc (pc' := 171) (v := 1) (lv' := [some (.ref 115), some (.int (nI q)), some (.int 1), some (.int 3), some (.int 0), some (.int 0), some (.int 1)]) dX8_layCut_168 rfl rfl (by decide) (Nat.le_of_ble_eq_true rfl) rfl rfl ?_
      refine ev_goto (tgt := 124) dX8_layCut_171 rfl ?_
      refine ev_iload (pc' := 126) dX8_layCut_124 rfl rfl ?_
      refine ev_iconst (pc' := 127) (v := 4) dX8_layCut_126 rfl ki_4 ?_
      refine ev_icmp_ge (tgt := 174) (pc' := 130) dX8_layCut_127 rfl rfl (fun h => absurd h (by decide)) (fun _ => ?_)
      refine ev_aload_n (pc' := 131) (i := 0) dX8_layCut_130 rfl rfl rfl ?_
      refine ev_getR (pc' := 134) fo_X8_58 dX8_layCut_131 rfl hs_115 rfl rf_115_21 ?_
      refine ev_iload (pc' := 136) dX8_layCut_134 rfl rfl ?_
      refine ev_aload_n (pc' := 137) (i := 0) dX8_layCut_136 rfl rfl rfl ?_
      refine ev_getR (pc' := 140) fo_X8_55 dX8_layCut_137 rfl hs_115 rfl rf_115_20 ?_
      refine ev_iconst (pc' := 141) (v := 4) dX8_layCut_140 rfl ki_4 ?_
      refine ev_iload (pc' := 143) dX8_layCut_141 rfl rfl ?_
      refine ev_imul (pc' := 144) (v := 0) dX8_layCut_143 rfl (by decide) ?_
      refine ev_iload (pc' := 146) dX8_layCut_144 rfl rfl ?_
      refine ev_iadd (pc' := 147) (v := 1) dX8_layCut_146 rfl (by decide) ?_
      refine ev_iald (pc' := 148) (j := 1) (v := -((I 126) 0)) dX8_layCut_147 rfl hs_129 rfl (Nat.le_of_ble_eq_true rfl) (Nat.le_of_ble_eq_true rfl) rfl ?_
      refine ev_iast (pc' := 149) (j := 1) (I' := (ma_up (ma_up (ma_up I 129 (ma_up (ma_up (ma_up (ma_up (ma_up (ma_up (ma_up (ma_up (ma_up (ma_up (ma_up (ma_up (I 129) 0 ((I 126) 1)) 1 (-((I 126) 0))) 2 0) 3 0) 4 0) 5 (-((I 126) 2))) 6 ((I 126) 1)) 7 0) 8 0) 9 (-((I 126) 3))) 10 0) 11 ((I 126) 1))) 130 (ma_up (ma_up (I 130) 0 ((I 126) 1)) 1 (-((I 126) 0)))) 131 (ma_up (I 131) 0 ((I 126) 1)))) dX8_layCut_148 rfl hs_130 rfl (Nat.le_of_ble_eq_true rfl) (Nat.le_of_ble_eq_true rfl) ((ma_up_comm _ (show 130 ≠ 131 from (by decide)) _ _).trans (congrArg (fun f => ma_up f 131 _) (ma_up_up _ _ _ _))) ?_
      refine ev_aload_n (pc' := 150) (i := 0) dX8_layCut_149 rfl rfl rfl ?_
      refine ev_getR (pc' := 153) fo_X8_61 dX8_layCut_150 rfl hs_115 rfl rf_115_22 ?_
      refine ev_iload (pc' := 155) dX8_layCut_153 rfl rfl ?_
      refine ev_aload_n (pc' := 156) (i := 0) dX8_layCut_155 rfl rfl rfl ?_
      refine ev_getR (pc' := 159) fo_X8_55 dX8_layCut_156 rfl hs_115 rfl rf_115_20 ?_
      refine ev_iconst (pc' := 160) (v := 4) dX8_layCut_159 rfl ki_4 ?_
      refine ev_iload (pc' := 162) dX8_layCut_160 rfl rfl ?_
      refine ev_imul (pc' := 163) (v := 0) dX8_layCut_162 rfl (by decide) ?_
      refine ev_iload (pc' := 165) dX8_layCut_163 rfl rfl ?_
      refine ev_iadd (pc' := 166) (v := 1) dX8_layCut_165 rfl (by decide) ?_
      refine ev_iald (pc' := 167) (j := 1) (v := -((I 126) 0)) dX8_layCut_166 rfl hs_129 rfl (Nat.le_of_ble_eq_true rfl) (Nat.le_of_ble_eq_true rfl) rfl ?_
      refine ev_iast (pc' := 168) (j := 1) (I' := (ma_up (ma_up (ma_up I 129 (ma_up (ma_up (ma_up (ma_up (ma_up (ma_up (ma_up (ma_up (ma_up (ma_up (ma_up (ma_up (I 129) 0 ((I 126) 1)) 1 (-((I 126) 0))) 2 0) 3 0) 4 0) 5 (-((I 126) 2))) 6 ((I 126) 1)) 7 0) 8 0) 9 (-((I 126) 3))) 10 0) 11 ((I 126) 1))) 130 (ma_up (ma_up (I 130) 0 ((I 126) 1)) 1 (-((I 126) 0)))) 131 (ma_up (ma_up (I 131) 0 ((I 126) 1)) 1 (-((I 126) 0))))) dX8_layCut_167 rfl hs_131 rfl (Nat.le_of_ble_eq_true rfl) (Nat.le_of_ble_eq_true rfl) (ma_up_up _ _ _ _) ?_
      refine ev_iinc (pc' := 171) (v := 2) (lv' := [some (.ref 115), some (.int (nI q)), some (.int 1), some (.int 3), some (.int 0), some (.int 0), some (.int 2)]) dX8_layCut_168 rfl rfl (by decide) (Nat.le_of_ble_eq_true rfl) rfl rfl ?_
      refine ev_goto (tgt := 124) dX8_layCut_171 rfl ?_
      refine ev_iload (pc' := 126) dX8_layCut_124 rfl rfl ?_
      refine ev_iconst (pc' := 127) (v := 4) dX8_layCut_126 rfl ki_4 ?_
      refine ev_icmp_ge (tgt := 174) (pc' := 130) dX8_layCut_127 rfl rfl (fun h => absurd h (by decide)) (fun _ => ?_)
      refine ev_aload_n (pc' := 131) (i := 0) dX8_layCut_130 rfl rfl rfl ?_
      refine ev_getR (pc' := 134) fo_X8_58 dX8_layCut_131 rfl hs_115 rfl rf_115_21 ?_
      refine ev_iload (pc' := 136) dX8_layCut_134 rfl rfl ?_
      refine ev_aload_n (pc' := 137) (i := 0) dX8_layCut_136 rfl rfl rfl ?_
      refine ev_getR (pc' := 140) fo_X8_55 dX8_layCut_137 rfl hs_115 rfl rf_115_20 ?_
      refine ev_iconst (pc' := 141) (v := 4) dX8_layCut_140 rfl ki_4 ?_
      refine ev_iload (pc' := 143) dX8_layCut_141 rfl rfl ?_
      refine ev_imul (pc' := 144) (v := 0) dX8_layCut_143 rfl (by decide) ?_
      refine ev_iload (pc' := 146) dX8_layCut_144 rfl rfl ?_
      refine ev_iadd (pc' := 147) (v := 2) dX8_layCut_146 rfl (by decide) ?_
      refine ev_iald (pc' := 148) (j := 2) (v := 0) dX8_layCut_147 rfl hs_129 rfl (Nat.le_of_ble_eq_true rfl) (Nat.le_of_ble_eq_true rfl) rfl ?_
      refine ev_iast (pc' := 149) (j := 2) (I' := (ma_up (ma_up (ma_up I 129 (ma_up (ma_up (ma_up (ma_up (ma_up (ma_up (ma_up (ma_up (ma_up (ma_up (ma_up (ma_up (I 129) 0 ((I 126) 1)) 1 (-((I 126) 0))) 2 0) 3 0) 4 0) 5 (-((I 126) 2))) 6 ((I 126) 1)) 7 0) 8 0) 9 (-((I 126) 3))) 10 0) 11 ((I 126) 1))) 130 (ma_up (ma_up (ma_up (I 130) 0 ((I 126) 1)) 1 (-((I 126) 0))) 2 0)) 131 (ma_up (ma_up (I 131) 0 ((I 126) 1)) 1 (-((I 126) 0))))) dX8_layCut_148 rfl hs_130 rfl (Nat.le_of_ble_eq_true rfl) (Nat.le_of_ble_eq_true rfl) ((ma_up_comm _ (show 130 ≠ 131 from (by decide)) _ _).trans (congrArg (fun f => ma_up f 131 _) (ma_up_up _ _ _ _))) ?_
      refine ev_aload_n (pc' := 150) (i := 0) dX8_layCut_149 rfl rfl rfl ?_
      refine ev_getR (pc' := 153) fo_X8_61 dX8_layCut_150 rfl hs_115 rfl rf_115_22 ?_
      refine ev_iload (pc' := 155) dX8_layCut_153 rfl rfl ?_
      refine ev_aload_n (pc' := 156) (i := 0) dX8_layCut_155 rfl rfl rfl ?_
      refine ev_getR (pc' := 159) fo_X8_55 dX8_layCut_156 rfl hs_115 rfl rf_115_20 ?_
      refine ev_iconst (pc' := 160) (v := 4) dX8_layCut_159 rfl ki_4 ?_
      refine ev_iload (pc' := 162) dX8_layCut_160 rfl rfl ?_
      refine ev_imul (pc' := 163) (v := 0) dX8_layCut_162 rfl (by decide) ?_
      refine ev_iload (pc' := 165) dX8_layCut_163 rfl rfl ?_
      refine ev_iadd (pc' := 166) (v := 2) dX8_layCut_165 rfl (by decide) ?_
      refine ev_iald (pc' := 167) (j := 2) (v := 0) dX8_layCut_166 rfl hs_129 rfl (Nat.le_of_ble_eq_true rfl) (Nat.le_of_ble_eq_true rfl) rfl ?_
      refine ev_iast (pc' := 168) (j := 2) (I' := (ma_up (ma_up (ma_up I 129 (ma_up (ma_up (ma_up (ma_up (ma_up (ma_up (ma_up (ma_up (ma_up (ma_up (ma_up (ma_up (I 129) 0 ((I 126) 1)) 1 (-((I 126) 0))) 2 0) 3 0) 4 0) 5 (-((I 126) 2))) 6 ((I 126) 1)) 7 0) 8 0) 9 (-((I 126) 3))) 10 0) 11 ((I 126) 1))) 130 (ma_up (ma_up (ma_up (I 130) 0 ((I 126) 1)) 1 (-((I 126) 0))) 2 0)) 131 (ma_up (ma_up (ma_up (I 131) 0 ((I 126) 1)) 1 (-((I 126) 0))) 2 0))) dX8_layCut_167 rfl hs_131 rfl (Nat.le_of_ble_eq_true rfl) (Nat.le_of_ble_eq_true rfl) (ma_up_up _ _ _ _) ?_
      refine ev_iinc (pc' := 171) (v := 3) (lv' := [some (.ref 115), some (.int (nI q)), some (.int 1), some (.int 3), some (.int 0), some (.int 0), some (.int 3)]) dX8_layCut_168 rfl rfl (by decide) (Nat.le_of_ble_eq_true rfl) rfl rfl ?_
      refine ev_goto (tgt := 124) dX8_layCut_171 rfl ?_
      refine ev_iload (pc' := 126) dX8_layCut_124 rfl rfl ?_
      refine ev_iconst (pc' := 127) (v := 4) dX8_layCut_126 rfl ki_4 ?_
      refine ev_icmp_ge (tgt := 174) (pc' := 130) dX8_layCut_127 rfl rfl (fun h => absurd h (by decide)) (fun _ => ?_)
      refine ev_aload_n (pc' := 131) (i := 0) dX8_layCut_130 rfl rfl rfl ?_
      refine ev_getR (pc' := 134) fo_X8_58 dX8_layCut_131 rfl hs_115 rfl rf_115_21 ?_
      refine ev_iload (pc' := 136) dX8_layCut_134 rfl rfl ?_
      refine ev_aload_n (pc' := 137) (i := 0) dX8_layCut_136 rfl rfl rfl ?_
      refine ev_getR (pc' := 140) fo_X8_55 dX8_layCut_137 rfl hs_115 rfl rf_115_20 ?_
      refine ev_iconst (pc' := 141) (v := 4) dX8_layCut_140 rfl ki_4 ?_
      refine ev_iload (pc' := 143) dX8_layCut_141 rfl rfl ?_
      refine ev_imul (pc' := 144) (v := 0) dX8_layCut_143 rfl (by decide) ?_
      refine ev_iload (pc' := 146) dX8_layCut_144 rfl rfl ?_
      refine ev_iadd (pc' := 147) (v := 3) dX8_layCut_146 rfl (by decide) ?_
      refine ev_iald (pc' := 148) (j := 3) (v := 0) dX8_layCut_147 rfl hs_129 rfl (Nat.le_of_ble_eq_true rfl) (Nat.le_of_ble_eq_true rfl) rfl ?_
      refine ev_iast (pc' := 149) (j := 3) (I' := (ma_up (ma_up (ma_up I 129 (ma_up (ma_up (ma_up (ma_up (ma_up (ma_up (ma_up (ma_up (ma_up (ma_up (ma_up (ma_up (I 129) 0 ((I 126) 1)) 1 (-((I 126) 0))) 2 0) 3 0) 4 0) 5 (-((I 126) 2))) 6 ((I 126) 1)) 7 0) 8 0) 9 (-((I 126) 3))) 10 0) 11 ((I 126) 1))) 130 (ma_up (ma_up (ma_up (ma_up (I 130) 0 ((I 126) 1)) 1 (-((I 126) 0))) 2 0) 3 0)) 131 (ma_up (ma_up (ma_up (I 131) 0 ((I 126) 1)) 1 (-((I 126) 0))) 2 0))) dX8_layCut_148 rfl hs_130 rfl (Nat.le_of_ble_eq_true rfl) (Nat.le_of_ble_eq_true rfl) ((ma_up_comm _ (show 130 ≠ 131 from (by decide)) _ _).trans (congrArg (fun f => ma_up f 131 _) (ma_up_up _ _ _ _))) ?_
      refine ev_aload_n (pc' := 150) (i := 0) dX8_layCut_149 rfl rfl rfl ?_
      refine ev_getR (pc' := 153) fo_X8_61 dX8_layCut_150 rfl hs_115 rfl rf_115_22 ?_
      refine ev_iload (pc' := 155) dX8_layCut_153 rfl rfl ?_
      refine ev_aload_n (pc' := 156) (i := 0) dX8_layCut_155 rfl rfl rfl ?_
      refine ev_getR (pc' := 159) fo_X8_55 dX8_layCut_156 rfl hs_115 rfl rf_115_20 ?_
      refine ev_iconst (pc' := 160) (v := 4) dX8_layCut_159 rfl ki_4 ?_
      refine ev_iload (pc' := 162) dX8_layCut_160 rfl rfl ?_
      refine ev_imul (pc' := 163) (v := 0) dX8_layCut_162 rfl (by decide) ?_
      refine ev_iload (pc' := 165) dX8_layCut_163 rfl rfl ?_
      refine ev_iadd (pc' := 166) (v := 3) dX8_layCut_165 rfl (by decide) ?_
      refine ev_iald (pc' := 167) (j := 3) (v := 0) dX8_layCut_166 rfl hs_129 rfl (Nat.le_of_ble_eq_true rfl) (Nat.le_of_ble_eq_true rfl) rfl ?_
      refine ev_iast (pc' := 168) (j := 3) (I' := (ma_up (ma_up (ma_up I 129 (ma_up (ma_up (ma_up (ma_up (ma_up (ma_up (ma_up (ma_up (ma_up (ma_up (ma_up (ma_up (I 129) 0 ((I 126) 1)) 1 (-((I 126) 0))) 2 0) 3 0) 4 0) 5 (-((I 126) 2))) 6 ((I 126) 1)) 7 0) 8 0) 9 (-((I 126) 3))) 10 0) 11 ((I 126) 1))) 130 (ma_up (ma_up (ma_up (ma_up (I 130) 0 ((I 126) 1)) 1 (-((I 126) 0))) 2 0) 3 0)) 131 (ma_up (ma_up (ma_up (ma_up (I 131) 0 ((I 126) 1)) 1 (-((I 126) 0))) 2 0) 3 0))) dX8_layCut_167 rfl hs_131 rfl (Nat.le_of_ble_eq_true rfl) (Nat.le_of_ble_eq_true rfl) (ma_up_up _ _ _ _) ?_
      refine ev_iinc (pc' := 171) (v := 4) (lv' := [some (.ref 115), some (.int (nI q)), some (.int 1), some (.int 3), some (.int 0), some (.int 0), some (.int 4)]) dX8_layCut_168 rfl rfl (by decide) (Nat.le_of_ble_eq_true rfl) rfl rfl ?_
      refine ev_goto (tgt := 124) dX8_layCut_171 rfl ?_
      refine ev_iload (pc' := 126) dX8_layCut_124 rfl rfl ?_
      refine ev_iconst (pc' := 127) (v := 4) dX8_layCut_126 rfl ki_4 ?_
      refine ev_icmp_ge (tgt := 174) (pc' := 130) dX8_layCut_127 rfl rfl (fun _ => ?_) (fun h => absurd (by decide) h)
      refine ev_aload_n (pc' := 175) (i := 0) dX8_layCut_174 rfl rfl rfl ?_
      refine ev_getR (pc' := 178) fo_X8_26 dX8_layCut_175 rfl hs_115 rfl rf_115_8 ?_
      refine ev_iconst (pc' := 179) (v := 4) dX8_layCut_178 rfl ki_4 ?_
      refine ev_iload (pc' := 181) dX8_layCut_179 rfl rfl ?_
      refine ev_imul (pc' := 182) (v := 0) dX8_layCut_181 rfl (by decide) ?_
      refine ev_iload (pc' := 184) dX8_layCut_182 rfl rfl ?_
      refine ev_iadd (pc' := 185) (v := 0) dX8_layCut_184 rfl (by decide) ?_
      refine ev_aload_n (pc' := 186) (i := 0) dX8_layCut_185 rfl rfl rfl ?_
      refine ev_iload_n (pc' := 187) (i := 1) dX8_layCut_186 rfl rfl rfl ?_
      refine ev_aload_n (pc' := 188) (i := 0) dX8_layCut_187 rfl rfl rfl ?_
      refine ev_getR (pc' := 191) fo_X8_58 dX8_layCut_188 rfl hs_115 rfl rf_115_21 ?_
      refine ev_aload_n (pc' := 192) (i := 0) dX8_layCut_191 rfl rfl rfl ?_
      refine ev_getR (pc' := 195) fo_X8_61 dX8_layCut_192 rfl hs_115 rfl rf_115_22 ?_
      refine ev_callV (pc' := 198) (rm' := rX8_both) (b := 115) (av := [.int (nI q), .ref 130, .ref 131]) (rest := [.int 0, .ref 120]) co_X8_241 ci_X8_both cv_X8_both dX8_layCut_195 rfl hs_115 hb_X8 rfl rfl (Nat.le_of_ble_eq_true rfl) ⟨(Nat.le_of_ble_eq_true rfl), (Nat.le_of_ble_eq_true rfl)⟩ ⟨(Nat.le_of_ble_eq_true rfl), (Nat.le_of_ble_eq_true rfl)⟩ ?_
      refine t_X8_both q 130 131 hq hs_130 hs_131 ?_
      refine ev_eqi (w := mBo (I 123) (mSn 1 (I 126) 0) (mSn 1 (I 126) 0) q) rfl ?_
      refine ev_i2l (pc' := 199) (v := Int32.toInt64 (mBo (I 123) (mSn 1 (I 126) 0) (mSn 1 (I 126) 0) q)) dX8_layCut_198 rfl rfl ?_
      refine ev_last (pc' := 200) (j := 0) (L' := (ma_up L 120 (ma_up (L 120) 0 (Int32.toInt64 (mBo (I 123) (mSn 1 (I 126) 0) (mSn 1 (I 126) 0) q))))) dX8_layCut_199 rfl hs_120 rfl (Nat.le_of_ble_eq_true rfl) (Nat.le_of_ble_eq_true rfl) rfl ?_
      refine ev_iinc (pc' := 203) (v := 1) (lv' := [some (.ref 115), some (.int (nI q)), some (.int 1), some (.int 3), some (.int 0), some (.int 1), some (.int 4)]) dX8_layCut_200 rfl rfl (by decide) (Nat.le_of_ble_eq_true rfl) rfl rfl ?_
      refine ev_goto (tgt := 115) dX8_layCut_203 rfl ?_
      refine ev_iload (pc' := 117) dX8_layCut_115 rfl rfl ?_
      refine ev_iconst (pc' := 118) (v := 3) dX8_layCut_117 rfl ki_3 ?_
      refine ev_icmp_ge (tgt := 206) (pc' := 121) dX8_layCut_118 rfl rfl (fun h => absurd h (by decide)) (fun _ => ?_)
      refine ev_iconst (pc' := 122) (v := 0) dX8_layCut_121 rfl ki_0 ?_
      refine ev_istore (pc' := 124) (lv' := [some (.ref 115), some (.int (nI q)), some (.int 1), some (.int 3), some (.int 0), some (.int 1), some (.int 0)]) dX8_layCut_122 rfl (Nat.le_of_ble_eq_true rfl) rfl rfl ?_
      refine ev_iload (pc' := 126) dX8_layCut_124 rfl rfl ?_
      refine ev_iconst (pc' := 127) (v := 4) dX8_layCut_126 rfl ki_4 ?_
      refine ev_icmp_ge (tgt := 174) (pc' := 130) dX8_layCut_127 rfl rfl (fun h => absurd h (by decide)) (fun _ => ?_)
      refine ev_aload_n (pc' := 131) (i := 0) dX8_layCut_130 rfl rfl rfl ?_
      refine ev_getR (pc' := 134) fo_X8_58 dX8_layCut_131 rfl hs_115 rfl rf_115_21 ?_
      refine ev_iload (pc' := 136) dX8_layCut_134 rfl rfl ?_
      refine ev_aload_n (pc' := 137) (i := 0) dX8_layCut_136 rfl rfl rfl ?_
      refine ev_getR (pc' := 140) fo_X8_55 dX8_layCut_137 rfl hs_115 rfl rf_115_20 ?_
      refine ev_iconst (pc' := 141) (v := 4) dX8_layCut_140 rfl ki_4 ?_
      refine ev_iload (pc' := 143) dX8_layCut_141 rfl rfl ?_
      refine ev_imul (pc' := 144) (v := 0) dX8_layCut_143 rfl (by decide) ?_
      refine ev_iload (pc' := 146) dX8_layCut_144 rfl rfl ?_
      refine ev_iadd (pc' := 147) (v := 0) dX8_layCut_146 rfl (by decide) ?_
      refine ev_iald (pc' := 148) (j := 0) (v := (I 126) 1) dX8_layCut_147 rfl hs_129 rfl (Nat.le_of_ble_eq_true rfl) (Nat.le_of_ble_eq_true rfl) rfl ?_
      refine ev_iast (pc' := 149) (j := 0) (I' := (ma_up (ma_up (ma_up I 129 (ma_up (ma_up (ma_up (ma_up (ma_up (ma_up (ma_up (ma_up (ma_up (ma_up (ma_up (ma_up (I 129) 0 ((I 126) 1)) 1 (-((I 126) 0))) 2 0) 3 0) 4 0) 5 (-((I 126) 2))) 6 ((I 126) 1)) 7 0) 8 0) 9 (-((I 126) 3))) 10 0) 11 ((I 126) 1))) 130 (ma_up (ma_up (ma_up (ma_up (I 130) 0 ((I 126) 1)) 1 (-((I 126) 0))) 2 0) 3 0)) 131 (ma_up (ma_up (ma_up (ma_up (I 131) 0 ((I 126) 1)) 1 (-((I 126) 0))) 2 0) 3 0))) dX8_layCut_148 rfl hs_130 rfl (Nat.le_of_ble_eq_true rfl) (Nat.le_of_ble_eq_true rfl) ((congrArg (ma_up _ 130) ((ma_up_comm _ (show 0 ≠ 3 from (by decide)) _ _).trans (congrArg (fun f => ma_up f 3 _) ((ma_up_comm _ (show 0 ≠ 2 from (by decide)) _ _).trans (congrArg (fun f => ma_up f 2 _) ((ma_up_comm _ (show 0 ≠ 1 from (by decide)) _ _).trans (congrArg (fun f => ma_up f 1 _) (ma_up_up _ _ _ _)))))))).trans ((ma_up_comm _ (show 130 ≠ 131 from (by decide)) _ _).trans (congrArg (fun f => ma_up f 131 _) (ma_up_up _ _ _ _)))) ?_
      refine ev_aload_n (pc' := 150) (i := 0) dX8_layCut_149 rfl rfl rfl ?_
      refine ev_getR (pc' := 153) fo_X8_61 dX8_layCut_150 rfl hs_115 rfl rf_115_22 ?_
      refine ev_iload (pc' := 155) dX8_layCut_153 rfl rfl ?_
      refine ev_aload_n (pc' := 156) (i := 0) dX8_layCut_155 rfl rfl rfl ?_
      refine ev_getR (pc' := 159) fo_X8_55 dX8_layCut_156 rfl hs_115 rfl rf_115_20 ?_
      refine ev_iconst (pc' := 160) (v := 4) dX8_layCut_159 rfl ki_4 ?_
      refine ev_iload (pc' := 162) dX8_layCut_160 rfl rfl ?_
      refine ev_imul (pc' := 163) (v := 4) dX8_layCut_162 rfl (by decide) ?_
      refine ev_iload (pc' := 165) dX8_layCut_163 rfl rfl ?_
      refine ev_iadd (pc' := 166) (v := 4) dX8_layCut_165 rfl (by decide) ?_
      refine ev_iald (pc' := 167) (j := 4) (v := 0) dX8_layCut_166 rfl hs_129 rfl (Nat.le_of_ble_eq_true rfl) (Nat.le_of_ble_eq_true rfl) rfl ?_
      refine ev_iast (pc' := 168) (j := 0) (I' := (ma_up (ma_up (ma_up I 129 (ma_up (ma_up (ma_up (ma_up (ma_up (ma_up (ma_up (ma_up (ma_up (ma_up (ma_up (ma_up (I 129) 0 ((I 126) 1)) 1 (-((I 126) 0))) 2 0) 3 0) 4 0) 5 (-((I 126) 2))) 6 ((I 126) 1)) 7 0) 8 0) 9 (-((I 126) 3))) 10 0) 11 ((I 126) 1))) 130 (ma_up (ma_up (ma_up (ma_up (I 130) 0 ((I 126) 1)) 1 (-((I 126) 0))) 2 0) 3 0)) 131 (ma_up (ma_up (ma_up (ma_up (I 131) 0 0) 1 (-((I 126) 0))) 2 0) 3 0))) dX8_layCut_167 rfl hs_131 rfl (Nat.le_of_ble_eq_true rfl) (Nat.le_of_ble_eq_true rfl) ((congrArg (ma_up _ 131) ((ma_up_comm _ (show 0 ≠ 3 from (by decide)) _ _).trans (congrArg (fun f => ma_up f 3 _) ((ma_up_comm _ (show 0 ≠ 2 from (by decide)) _ _).trans (congrArg (fun f => ma_up f 2 _) ((ma_up_comm _ (show 0 ≠ 1 from (by decide)) _ _).trans (congrArg (fun f => ma_up f 1 _) (ma_up_up _ _ _ _)))))))).trans (ma_up_up _ _ _ _)) ?_
      refine ev_iinc (pc' := 171) (v := 1) (lv' := [some (.ref 115), some (.int (nI q)), some (.int 1), some (.int 3), some (.int 0), some (.int 1), some (.int 1)]) dX8_layCut_168 rfl rfl (by decide) (Nat.le_of_ble_eq_true rfl) rfl rfl ?_
      refine ev_goto (tgt := 124) dX8_layCut_171 rfl ?_
      refine ev_iload (pc' := 126) dX8_layCut_124 rfl rfl ?_
      refine ev_iconst (pc' := 127) (v := 4) dX8_layCut_126 rfl ki_4 ?_
      refine ev_icmp_ge (tgt := 174) (pc' := 130) dX8_layCut_127 rfl rfl (fun h => absurd h (by decide)) (fun _ => ?_)
      refine ev_aload_n (pc' := 131) (i := 0) dX8_layCut_130 rfl rfl rfl ?_
      refine ev_getR (pc' := 134) fo_X8_58 dX8_layCut_131 rfl hs_115 rfl rf_115_21 ?_
      refine ev_iload (pc' := 136) dX8_layCut_134 rfl rfl ?_
      refine ev_aload_n (pc' := 137) (i := 0) dX8_layCut_136 rfl rfl rfl ?_
      refine ev_getR (pc' := 140) fo_X8_55 dX8_layCut_137 rfl hs_115 rfl rf_115_20 ?_
      refine ev_iconst (pc' := 141) (v := 4) dX8_layCut_140 rfl ki_4 ?_
      refine ev_iload (pc' := 143) dX8_layCut_141 rfl rfl ?_
      refine ev_imul (pc' := 144) (v := 0) dX8_layCut_143 rfl (by decide) ?_
      refine ev_iload (pc' := 146) dX8_layCut_144 rfl rfl ?_
      refine ev_iadd (pc' := 147) (v := 1) dX8_layCut_146 rfl (by decide) ?_
      refine ev_iald (pc' := 148) (j := 1) (v := -((I 126) 0)) dX8_layCut_147 rfl hs_129 rfl (Nat.le_of_ble_eq_true rfl) (Nat.le_of_ble_eq_true rfl) rfl ?_
      refine ev_iast (pc' := 149) (j := 1) (I' := (ma_up (ma_up (ma_up I 129 (ma_up (ma_up (ma_up (ma_up (ma_up (ma_up (ma_up (ma_up (ma_up (ma_up (ma_up (ma_up (I 129) 0 ((I 126) 1)) 1 (-((I 126) 0))) 2 0) 3 0) 4 0) 5 (-((I 126) 2))) 6 ((I 126) 1)) 7 0) 8 0) 9 (-((I 126) 3))) 10 0) 11 ((I 126) 1))) 130 (ma_up (ma_up (ma_up (ma_up (I 130) 0 ((I 126) 1)) 1 (-((I 126) 0))) 2 0) 3 0)) 131 (ma_up (ma_up (ma_up (ma_up (I 131) 0 0) 1 (-((I 126) 0))) 2 0) 3 0))) dX8_layCut_148 rfl hs_130 rfl (Nat.le_of_ble_eq_true rfl) (Nat.le_of_ble_eq_true rfl) ((congrArg (ma_up _ 130) ((ma_up_comm _ (show 1 ≠ 3 from (by decide)) _ _).trans (congrArg (fun f => ma_up f 3 _) ((ma_up_comm _ (show 1 ≠ 2 from (by decide)) _ _).trans (congrArg (fun f => ma_up f 2 _) (ma_up_up _ _ _ _)))))).trans ((ma_up_comm _ (show 130 ≠ 131 from (by decide)) _ _).trans (congrArg (fun f => ma_up f 131 _) (ma_up_up _ _ _ _)))) ?_
      refine ev_aload_n (pc' := 150) (i := 0) dX8_layCut_149 rfl rfl rfl ?_
      refine ev_getR (pc' := 153) fo_X8_61 dX8_layCut_150 rfl hs_115 rfl rf_115_22 ?_
      refine ev_iload (pc' := 155) dX8_layCut_153 rfl rfl ?_
      refine ev_aload_n (pc' := 156) (i := 0) dX8_layCut_155 rfl rfl rfl ?_
      refine ev_getR (pc' := 159) fo_X8_55 dX8_layCut_156 rfl hs_115 rfl rf_115_20 ?_
      refine ev_iconst (pc' := 160) (v := 4) dX8_layCut_159 rfl ki_4 ?_
      refine ev_iload (pc' := 162) dX8_layCut_160 rfl rfl ?_
      refine ev_imul (pc' := 163) (v := 4) dX8_layCut_162 rfl (by decide) ?_
      refine ev_iload (pc' := 165) dX8_layCut_163 rfl rfl ?_
      refine ev_iadd (pc' := 166) (v := 5) dX8_layCut_165 rfl (by decide) ?_
      refine ev_iald (pc' := 167) (j := 5) (v := -((I 126) 2)) dX8_layCut_166 rfl hs_129 rfl (Nat.le_of_ble_eq_true rfl) (Nat.le_of_ble_eq_true rfl) rfl ?_
      refine ev_iast (pc' := 168) (j := 1) (I' := (ma_up (ma_up (ma_up I 129 (ma_up (ma_up (ma_up (ma_up (ma_up (ma_up (ma_up (ma_up (ma_up (ma_up (ma_up (ma_up (I 129) 0 ((I 126) 1)) 1 (-((I 126) 0))) 2 0) 3 0) 4 0) 5 (-((I 126) 2))) 6 ((I 126) 1)) 7 0) 8 0) 9 (-((I 126) 3))) 10 0) 11 ((I 126) 1))) 130 (ma_up (ma_up (ma_up (ma_up (I 130) 0 ((I 126) 1)) 1 (-((I 126) 0))) 2 0) 3 0)) 131 (ma_up (ma_up (ma_up (ma_up (I 131) 0 0) 1 (-((I 126) 2))) 2 0) 3 0))) dX8_layCut_167 rfl hs_131 rfl (Nat.le_of_ble_eq_true rfl) (Nat.le_of_ble_eq_true rfl) ((congrArg (ma_up _ 131) ((ma_up_comm _ (show 1 ≠ 3 from (by decide)) _ _).trans (congrArg (fun f => ma_up f 3 _) ((ma_up_comm _ (show 1 ≠ 2 from (by decide)) _ _).trans (congrArg (fun f => ma_up f 2 _) (ma_up_up _ _ _ _)))))).trans (ma_up_up _ _ _ _)) ?_
      refine ev_iinc (pc' := 171) (v := 2) (lv' := [some (.ref 115), some (.int (nI q)), some (.int 1), some (.int 3), some (.int 0), some (.int 1), some (.int 2)]) dX8_layCut_168 rfl rfl (by decide) (Nat.le_of_ble_eq_true rfl) rfl rfl ?_
      refine ev_goto (tgt := 124) dX8_layCut_171 rfl ?_
      refine ev_iload (pc' := 126) dX8_layCut_124 rfl rfl ?_
      refine ev_iconst (pc' := 127) (v := 4) dX8_layCut_126 rfl ki_4 ?_
      refine ev_icmp_ge (tgt := 174) (pc' := 130) dX8_layCut_127 rfl rfl (fun h => absurd h (by decide)) (fun _ => ?_)
      refine ev_aload_n (pc' := 131) (i := 0) dX8_layCut_130 rfl rfl rfl ?_
      refine ev_getR (pc' := 134) fo_X8_58 dX8_layCut_131 rfl hs_115 rfl rf_115_21 ?_
      refine ev_iload (pc' := 136) dX8_layCut_134 rfl rfl ?_
      refine ev_aload_n (pc' := 137) (i := 0) dX8_layCut_136 rfl rfl rfl ?_
      refine ev_getR (pc' := 140) fo_X8_55 dX8_layCut_137 rfl hs_115 rfl rf_115_20 ?_
      refine ev_iconst (pc' := 141) (v := 4) dX8_layCut_140 rfl ki_4 ?_
      refine ev_iload (pc' := 143) dX8_layCut_141 rfl rfl ?_
      refine ev_imul (pc' := 144) (v := 0) dX8_layCut_143 rfl (by decide) ?_
      refine ev_iload (pc' := 146) dX8_layCut_144 rfl rfl ?_
      refine ev_iadd (pc' := 147) (v := 2) dX8_layCut_146 rfl (by decide) ?_
      refine ev_iald (pc' := 148) (j := 2) (v := 0) dX8_layCut_147 rfl hs_129 rfl (Nat.le_of_ble_eq_true rfl) (Nat.le_of_ble_eq_true rfl) rfl ?_
      refine ev_iast (pc' := 149) (j := 2) (I' := (ma_up (ma_up (ma_up I 129 (ma_up (ma_up (ma_up (ma_up (ma_up (ma_up (ma_up (ma_up (ma_up (ma_up (ma_up (ma_up (I 129) 0 ((I 126) 1)) 1 (-((I 126) 0))) 2 0) 3 0) 4 0) 5 (-((I 126) 2))) 6 ((I 126) 1)) 7 0) 8 0) 9 (-((I 126) 3))) 10 0) 11 ((I 126) 1))) 130 (ma_up (ma_up (ma_up (ma_up (I 130) 0 ((I 126) 1)) 1 (-((I 126) 0))) 2 0) 3 0)) 131 (ma_up (ma_up (ma_up (ma_up (I 131) 0 0) 1 (-((I 126) 2))) 2 0) 3 0))) dX8_layCut_148 rfl hs_130 rfl (Nat.le_of_ble_eq_true rfl) (Nat.le_of_ble_eq_true rfl) ((congrArg (ma_up _ 130) ((ma_up_comm _ (show 2 ≠ 3 from (by decide)) _ _).trans (congrArg (fun f => ma_up f 3 _) (ma_up_up _ _ _ _)))).trans ((ma_up_comm _ (show 130 ≠ 131 from (by decide)) _ _).trans (congrArg (fun f => ma_up f 131 _) (ma_up_up _ _ _ _)))) ?_
      refine ev_aload_n (pc' := 150) (i := 0) dX8_layCut_149 rfl rfl rfl ?_
      refine ev_getR (pc' := 153) fo_X8_61 dX8_layCut_150 rfl hs_115 rfl rf_115_22 ?_
      refine ev_iload (pc' := 155) dX8_layCut_153 rfl rfl ?_
      refine ev_aload_n (pc' := 156) (i := 0) dX8_layCut_155 rfl rfl rfl ?_
      refine ev_getR (pc' := 159) fo_X8_55 dX8_layCut_156 rfl hs_115 rfl rf_115_20 ?_
      refine ev_iconst (pc' := 160) (v := 4) dX8_layCut_159 rfl ki_4 ?_
      refine ev_iload (pc' := 162) dX8_layCut_160 rfl rfl ?_
      refine ev_imul (pc' := 163) (v := 4) dX8_layCut_162 rfl (by decide) ?_
      refine ev_iload (pc' := 165) dX8_layCut_163 rfl rfl ?_
      refine ev_iadd (pc' := 166) (v := 6) dX8_layCut_165 rfl (by decide) ?_
      refine ev_iald (pc' := 167) (j := 6) (v := (I 126) 1) dX8_layCut_166 rfl hs_129 rfl (Nat.le_of_ble_eq_true rfl) (Nat.le_of_ble_eq_true rfl) rfl ?_
      refine ev_iast (pc' := 168) (j := 2) (I' := (ma_up (ma_up (ma_up I 129 (ma_up (ma_up (ma_up (ma_up (ma_up (ma_up (ma_up (ma_up (ma_up (ma_up (ma_up (ma_up (I 129) 0 ((I 126) 1)) 1 (-((I 126) 0))) 2 0) 3 0) 4 0) 5 (-((I 126) 2))) 6 ((I 126) 1)) 7 0) 8 0) 9 (-((I 126) 3))) 10 0) 11 ((I 126) 1))) 130 (ma_up (ma_up (ma_up (ma_up (I 130) 0 ((I 126) 1)) 1 (-((I 126) 0))) 2 0) 3 0)) 131 (ma_up (ma_up (ma_up (ma_up (I 131) 0 0) 1 (-((I 126) 2))) 2 ((I 126) 1)) 3 0))) dX8_layCut_167 rfl hs_131 rfl (Nat.le_of_ble_eq_true rfl) (Nat.le_of_ble_eq_true rfl) ((congrArg (ma_up _ 131) ((ma_up_comm _ (show 2 ≠ 3 from (by decide)) _ _).trans (congrArg (fun f => ma_up f 3 _) (ma_up_up _ _ _ _)))).trans (ma_up_up _ _ _ _)) ?_
      refine ev_iinc (pc' := 171) (v := 3) (lv' := [some (.ref 115), some (.int (nI q)), some (.int 1), some (.int 3), some (.int 0), some (.int 1), some (.int 3)]) dX8_layCut_168 rfl rfl (by decide) (Nat.le_of_ble_eq_true rfl) rfl rfl ?_
      refine ev_goto (tgt := 124) dX8_layCut_171 rfl ?_
      refine ev_iload (pc' := 126) dX8_layCut_124 rfl rfl ?_
      refine ev_iconst (pc' := 127) (v := 4) dX8_layCut_126 rfl ki_4 ?_
      refine ev_icmp_ge (tgt := 174) (pc' := 130) dX8_layCut_127 rfl rfl (fun h => absurd h (by decide)) (fun _ => ?_)
      refine ev_aload_n (pc' := 131) (i := 0) dX8_layCut_130 rfl rfl rfl ?_
      refine ev_getR (pc' := 134) fo_X8_58 dX8_layCut_131 rfl hs_115 rfl rf_115_21 ?_
      refine ev_iload (pc' := 136) dX8_layCut_134 rfl rfl ?_
      refine ev_aload_n (pc' := 137) (i := 0) dX8_layCut_136 rfl rfl rfl ?_
      refine ev_getR (pc' := 140) fo_X8_55 dX8_layCut_137 rfl hs_115 rfl rf_115_20 ?_
      refine ev_iconst (pc' := 141) (v := 4) dX8_layCut_140 rfl ki_4 ?_
      refine ev_iload (pc' := 143) dX8_layCut_141 rfl rfl ?_
      refine ev_imul (pc' := 144) (v := 0) dX8_layCut_143 rfl (by decide) ?_
      refine ev_iload (pc' := 146) dX8_layCut_144 rfl rfl ?_
      refine ev_iadd (pc' := 147) (v := 3) dX8_layCut_146 rfl (by decide) ?_
      refine ev_iald (pc' := 148) (j := 3) (v := 0) dX8_layCut_147 rfl hs_129 rfl (Nat.le_of_ble_eq_true rfl) (Nat.le_of_ble_eq_true rfl) rfl ?_
      refine ev_iast (pc' := 149) (j := 3) (I' := (ma_up (ma_up (ma_up I 129 (ma_up (ma_up (ma_up (ma_up (ma_up (ma_up (ma_up (ma_up (ma_up (ma_up (ma_up (ma_up (I 129) 0 ((I 126) 1)) 1 (-((I 126) 0))) 2 0) 3 0) 4 0) 5 (-((I 126) 2))) 6 ((I 126) 1)) 7 0) 8 0) 9 (-((I 126) 3))) 10 0) 11 ((I 126) 1))) 130 (ma_up (ma_up (ma_up (ma_up (I 130) 0 ((I 126) 1)) 1 (-((I 126) 0))) 2 0) 3 0)) 131 (ma_up (ma_up (ma_up (ma_up (I 131) 0 0) 1 (-((I 126) 2))) 2 ((I 126) 1)) 3 0))) dX8_layCut_148 rfl hs_130 rfl (Nat.le_of_ble_eq_true rfl) (Nat.le_of_ble_eq_true rfl) ((congrArg (ma_up _ 130) (ma_up_up _ _ _ _)).trans ((ma_up_comm _ (show 130 ≠ 131 from (by decide)) _ _).trans (congrArg (fun f => ma_up f 131 _) (ma_up_up _ _ _ _)))) ?_
      refine ev_aload_n (pc' := 150) (i := 0) dX8_layCut_149 rfl rfl rfl ?_
      refine ev_getR (pc' := 153) fo_X8_61 dX8_layCut_150 rfl hs_115 rfl rf_115_22 ?_
      refine ev_iload (pc' := 155) dX8_layCut_153 rfl rfl ?_
      refine ev_aload_n (pc' := 156) (i := 0) dX8_layCut_155 rfl rfl rfl ?_
      refine ev_getR (pc' := 159) fo_X8_55 dX8_layCut_156 rfl hs_115 rfl rf_115_20 ?_
      refine ev_iconst (pc' := 160) (v := 4) dX8_layCut_159 rfl ki_4 ?_
      refine ev_iload (pc' := 162) dX8_layCut_160 rfl rfl ?_
      refine ev_imul (pc' := 163) (v := 4) dX8_layCut_162 rfl (by decide) ?_
      refine ev_iload (pc' := 165) dX8_layCut_163 rfl rfl ?_
      refine ev_iadd (pc' := 166) (v := 7) dX8_layCut_165 rfl (by decide) ?_
      refine ev_iald (pc' := 167) (j := 7) (v := 0) dX8_layCut_166 rfl hs_129 rfl (Nat.le_of_ble_eq_true rfl) (Nat.le_of_ble_eq_true rfl) rfl ?_
      refine ev_iast (pc' := 168) (j := 3) (I' := (ma_up (ma_up (ma_up I 129 (ma_up (ma_up (ma_up (ma_up (ma_up (ma_up (ma_up (ma_up (ma_up (ma_up (ma_up (ma_up (I 129) 0 ((I 126) 1)) 1 (-((I 126) 0))) 2 0) 3 0) 4 0) 5 (-((I 126) 2))) 6 ((I 126) 1)) 7 0) 8 0) 9 (-((I 126) 3))) 10 0) 11 ((I 126) 1))) 130 (ma_up (ma_up (ma_up (ma_up (I 130) 0 ((I 126) 1)) 1 (-((I 126) 0))) 2 0) 3 0)) 131 (ma_up (ma_up (ma_up (ma_up (I 131) 0 0) 1 (-((I 126) 2))) 2 ((I 126) 1)) 3 0))) dX8_layCut_167 rfl hs_131 rfl (Nat.le_of_ble_eq_true rfl) (Nat.le_of_ble_eq_true rfl) ((congrArg (ma_up _ 131) (ma_up_up _ _ _ _)).trans (ma_up_up _ _ _ _)) ?_
      refine ev_iinc (pc' := 171) (v := 4) (lv' := [some (.ref 115), some (.int (nI q)), some (.int 1), some (.int 3), some (.int 0), some (.int 1), some (.int 4)]) dX8_layCut_168 rfl rfl (by decide) (Nat.le_of_ble_eq_true rfl) rfl rfl ?_
      refine ev_goto (tgt := 124) dX8_layCut_171 rfl ?_
      refine ev_iload (pc' := 126) dX8_layCut_124 rfl rfl ?_
      refine ev_iconst (pc' := 127) (v := 4) dX8_layCut_126 rfl ki_4 ?_
      refine ev_icmp_ge (tgt := 174) (pc' := 130) dX8_layCut_127 rfl rfl (fun _ => ?_) (fun h => absurd (by decide) h)
      refine ev_aload_n (pc' := 175) (i := 0) dX8_layCut_174 rfl rfl rfl ?_
      refine ev_getR (pc' := 178) fo_X8_26 dX8_layCut_175 rfl hs_115 rfl rf_115_8 ?_
      refine ev_iconst (pc' := 179) (v := 4) dX8_layCut_178 rfl ki_4 ?_
      refine ev_iload (pc' := 181) dX8_layCut_179 rfl rfl ?_
      refine ev_imul (pc' := 182) (v := 0) dX8_layCut_181 rfl (by decide) ?_
      refine ev_iload (pc' := 184) dX8_layCut_182 rfl rfl ?_
      refine ev_iadd (pc' := 185) (v := 1) dX8_layCut_184 rfl (by decide) ?_
      refine ev_aload_n (pc' := 186) (i := 0) dX8_layCut_185 rfl rfl rfl ?_
      refine ev_iload_n (pc' := 187) (i := 1) dX8_layCut_186 rfl rfl rfl ?_
      refine ev_aload_n (pc' := 188) (i := 0) dX8_layCut_187 rfl rfl rfl ?_
      refine ev_getR (pc' := 191) fo_X8_58 dX8_layCut_188 rfl hs_115 rfl rf_115_21 ?_
      refine ev_aload_n (pc' := 192) (i := 0) dX8_layCut_191 rfl rfl rfl ?_
      refine ev_getR (pc' := 195) fo_X8_61 dX8_layCut_192 rfl hs_115 rfl rf_115_22 ?_
      refine ev_callV (pc' := 198) (rm' := rX8_both) (b := 115) (av := [.int (nI q), .ref 130, .ref 131]) (rest := [.int 1, .ref 120]) co_X8_241 ci_X8_both cv_X8_both dX8_layCut_195 rfl hs_115 hb_X8 rfl rfl (Nat.le_of_ble_eq_true rfl) ⟨(Nat.le_of_ble_eq_true rfl), (Nat.le_of_ble_eq_true rfl)⟩ ⟨(Nat.le_of_ble_eq_true rfl), (Nat.le_of_ble_eq_true rfl)⟩ ?_
      refine t_X8_both q 130 131 hq hs_130 hs_131 ?_
      refine ev_eqi (w := mBo (I 123) (mSn 1 (I 126) 0) (mSn 1 (I 126) 1) q) rfl ?_
      refine ev_i2l (pc' := 199) (v := Int32.toInt64 (mBo (I 123) (mSn 1 (I 126) 0) (mSn 1 (I 126) 1) q)) dX8_layCut_198 rfl rfl ?_
      refine ev_last (pc' := 200) (j := 1) (L' := (ma_up L 120 (ma_up (ma_up (L 120) 0 (Int32.toInt64 (mBo (I 123) (mSn 1 (I 126) 0) (mSn 1 (I 126) 0) q))) 1 (Int32.toInt64 (mBo (I 123) (mSn 1 (I 126) 0) (mSn 1 (I 126) 1) q))))) dX8_layCut_199 rfl hs_120 rfl (Nat.le_of_ble_eq_true rfl) (Nat.le_of_ble_eq_true rfl) (ma_up_up _ _ _ _) ?_
      refine ev_iinc (pc' := 203) (v := 2) (lv' := [some (.ref 115), some (.int (nI q)), some (.int 1), some (.int 3), some (.int 0), some (.int 2), some (.int 4)]) dX8_layCut_200 rfl rfl (by decide) (Nat.le_of_ble_eq_true rfl) rfl rfl ?_
      refine ev_goto (tgt := 115) dX8_layCut_203 rfl ?_
      refine ev_iload (pc' := 117) dX8_layCut_115 rfl rfl ?_
      refine ev_iconst (pc' := 118) (v := 3) dX8_layCut_117 rfl ki_3 ?_
      refine ev_icmp_ge (tgt := 206) (pc' := 121) dX8_layCut_118 rfl rfl (fun h => absurd h (by decide)) (fun _ => ?_)
      refine ev_iconst (pc' := 122) (v := 0) dX8_layCut_121 rfl ki_0 ?_
      refine ev_istore (pc' := 124) (lv' := [some (.ref 115), some (.int (nI q)), some (.int 1), some (.int 3), some (.int 0), some (.int 2), some (.int 0)]) dX8_layCut_122 rfl (Nat.le_of_ble_eq_true rfl) rfl rfl ?_
      refine ev_iload (pc' := 126) dX8_layCut_124 rfl rfl ?_
      refine ev_iconst (pc' := 127) (v := 4) dX8_layCut_126 rfl ki_4 ?_
      refine ev_icmp_ge (tgt := 174) (pc' := 130) dX8_layCut_127 rfl rfl (fun h => absurd h (by decide)) (fun _ => ?_)
      refine ev_aload_n (pc' := 131) (i := 0) dX8_layCut_130 rfl rfl rfl ?_
      refine ev_getR (pc' := 134) fo_X8_58 dX8_layCut_131 rfl hs_115 rfl rf_115_21 ?_
      refine ev_iload (pc' := 136) dX8_layCut_134 rfl rfl ?_
      refine ev_aload_n (pc' := 137) (i := 0) dX8_layCut_136 rfl rfl rfl ?_
      refine ev_getR (pc' := 140) fo_X8_55 dX8_layCut_137 rfl hs_115 rfl rf_115_20 ?_
      refine ev_iconst (pc' := 141) (v := 4) dX8_layCut_140 rfl ki_4 ?_
      refine ev_iload (pc' := 143) dX8_layCut_141 rfl rfl ?_
      refine ev_imul (pc' := 144) (v := 0) dX8_layCut_143 rfl (by decide) ?_
      refine ev_iload (pc' := 146) dX8_layCut_144 rfl rfl ?_
      refine ev_iadd (pc' := 147) (v := 0) dX8_layCut_146 rfl (by decide) ?_
      refine ev_iald (pc' := 148) (j := 0) (v := (I 126) 1) dX8_layCut_147 rfl hs_129 rfl (Nat.le_of_ble_eq_true rfl) (Nat.le_of_ble_eq_true rfl) rfl ?_
      refine ev_iast (pc' := 149) (j := 0) (I' := (ma_up (ma_up (ma_up I 129 (ma_up (ma_up (ma_up (ma_up (ma_up (ma_up (ma_up (ma_up (ma_up (ma_up (ma_up (ma_up (I 129) 0 ((I 126) 1)) 1 (-((I 126) 0))) 2 0) 3 0) 4 0) 5 (-((I 126) 2))) 6 ((I 126) 1)) 7 0) 8 0) 9 (-((I 126) 3))) 10 0) 11 ((I 126) 1))) 130 (ma_up (ma_up (ma_up (ma_up (I 130) 0 ((I 126) 1)) 1 (-((I 126) 0))) 2 0) 3 0)) 131 (ma_up (ma_up (ma_up (ma_up (I 131) 0 0) 1 (-((I 126) 2))) 2 ((I 126) 1)) 3 0))) dX8_layCut_148 rfl hs_130 rfl (Nat.le_of_ble_eq_true rfl) (Nat.le_of_ble_eq_true rfl) ((congrArg (ma_up _ 130) ((ma_up_comm _ (show 0 ≠ 3 from (by decide)) _ _).trans (congrArg (fun f => ma_up f 3 _) ((ma_up_comm _ (show 0 ≠ 2 from (by decide)) _ _).trans (congrArg (fun f => ma_up f 2 _) ((ma_up_comm _ (show 0 ≠ 1 from (by decide)) _ _).trans (congrArg (fun f => ma_up f 1 _) (ma_up_up _ _ _ _)))))))).trans ((ma_up_comm _ (show 130 ≠ 131 from (by decide)) _ _).trans (congrArg (fun f => ma_up f 131 _) (ma_up_up _ _ _ _)))) ?_
      refine ev_aload_n (pc' := 150) (i := 0) dX8_layCut_149 rfl rfl rfl ?_
      refine ev_getR (pc' := 153) fo_X8_61 dX8_layCut_150 rfl hs_115 rfl rf_115_22 ?_
      refine ev_iload (pc' := 155) dX8_layCut_153 rfl rfl ?_
      refine ev_aload_n (pc' := 156) (i := 0) dX8_layCut_155 rfl rfl rfl ?_
      refine ev_getR (pc' := 159) fo_X8_55 dX8_layCut_156 rfl hs_115 rfl rf_115_20 ?_
      refine ev_iconst (pc' := 160) (v := 4) dX8_layCut_159 rfl ki_4 ?_
      refine ev_iload (pc' := 162) dX8_layCut_160 rfl rfl ?_
      refine ev_imul (pc' := 163) (v := 8) dX8_layCut_162 rfl (by decide) ?_
      refine ev_iload (pc' := 165) dX8_layCut_163 rfl rfl ?_
      refine ev_iadd (pc' := 166) (v := 8) dX8_layCut_165 rfl (by decide) ?_
      refine ev_iald (pc' := 167) (j := 8) (v := 0) dX8_layCut_166 rfl hs_129 rfl (Nat.le_of_ble_eq_true rfl) (Nat.le_of_ble_eq_true rfl) rfl ?_
      refine ev_iast (pc' := 168) (j := 0) (I' := (ma_up (ma_up (ma_up I 129 (ma_up (ma_up (ma_up (ma_up (ma_up (ma_up (ma_up (ma_up (ma_up (ma_up (ma_up (ma_up (I 129) 0 ((I 126) 1)) 1 (-((I 126) 0))) 2 0) 3 0) 4 0) 5 (-((I 126) 2))) 6 ((I 126) 1)) 7 0) 8 0) 9 (-((I 126) 3))) 10 0) 11 ((I 126) 1))) 130 (ma_up (ma_up (ma_up (ma_up (I 130) 0 ((I 126) 1)) 1 (-((I 126) 0))) 2 0) 3 0)) 131 (ma_up (ma_up (ma_up (ma_up (I 131) 0 0) 1 (-((I 126) 2))) 2 ((I 126) 1)) 3 0))) dX8_layCut_167 rfl hs_131 rfl (Nat.le_of_ble_eq_true rfl) (Nat.le_of_ble_eq_true rfl) ((congrArg (ma_up _ 131) ((ma_up_comm _ (show 0 ≠ 3 from (by decide)) _ _).trans (congrArg (fun f => ma_up f 3 _) ((ma_up_comm _ (show 0 ≠ 2 from (by decide)) _ _).trans (congrArg (fun f => ma_up f 2 _) ((ma_up_comm _ (show 0 ≠ 1 from (by decide)) _ _).trans (congrArg (fun f => ma_up f 1 _) (ma_up_up _ _ _ _)))))))).trans (ma_up_up _ _ _ _)) ?_
      refine ev_iinc (pc' := 171) (v := 1) (lv' := [some (.ref 115), some (.int (nI q)), some (.int 1), some (.int 3), some (.int 0), some (.int 2), some (.int 1)]) dX8_layCut_168 rfl rfl (by decide) (Nat.le_of_ble_eq_true rfl) rfl rfl ?_
      refine ev_goto (tgt := 124) dX8_layCut_171 rfl ?_
      refine ev_iload (pc' := 126) dX8_layCut_124 rfl rfl ?_
      refine ev_iconst (pc' := 127) (v := 4) dX8_layCut_126 rfl ki_4 ?_
      refine ev_icmp_ge (tgt := 174) (pc' := 130) dX8_layCut_127 rfl rfl (fun h => absurd h (by decide)) (fun _ => ?_)
      refine ev_aload_n (pc' := 131) (i := 0) dX8_layCut_130 rfl rfl rfl ?_
      refine ev_getR (pc' := 134) fo_X8_58 dX8_layCut_131 rfl hs_115 rfl rf_115_21 ?_
      refine ev_iload (pc' := 136) dX8_layCut_134 rfl rfl ?_
      refine ev_aload_n (pc' := 137) (i := 0) dX8_layCut_136 rfl rfl rfl ?_
      refine ev_getR (pc' := 140) fo_X8_55 dX8_layCut_137 rfl hs_115 rfl rf_115_20 ?_
      refine ev_iconst (pc' := 141) (v := 4) dX8_layCut_140 rfl ki_4 ?_
      refine ev_iload (pc' := 143) dX8_layCut_141 rfl rfl ?_
      refine ev_imul (pc' := 144) (v := 0) dX8_layCut_143 rfl (by decide) ?_
      refine ev_iload (pc' := 146) dX8_layCut_144 rfl rfl ?_
      refine ev_iadd (pc' := 147) (v := 1) dX8_layCut_146 rfl (by decide) ?_
      refine ev_iald (pc' := 148) (j := 1) (v := -((I 126) 0)) dX8_layCut_147 rfl hs_129 rfl (Nat.le_of_ble_eq_true rfl) (Nat.le_of_ble_eq_true rfl) rfl ?_
      refine ev_iast (pc' := 149) (j := 1) (I' := (ma_up (ma_up (ma_up I 129 (ma_up (ma_up (ma_up (ma_up (ma_up (ma_up (ma_up (ma_up (ma_up (ma_up (ma_up (ma_up (I 129) 0 ((I 126) 1)) 1 (-((I 126) 0))) 2 0) 3 0) 4 0) 5 (-((I 126) 2))) 6 ((I 126) 1)) 7 0) 8 0) 9 (-((I 126) 3))) 10 0) 11 ((I 126) 1))) 130 (ma_up (ma_up (ma_up (ma_up (I 130) 0 ((I 126) 1)) 1 (-((I 126) 0))) 2 0) 3 0)) 131 (ma_up (ma_up (ma_up (ma_up (I 131) 0 0) 1 (-((I 126) 2))) 2 ((I 126) 1)) 3 0))) dX8_layCut_148 rfl hs_130 rfl (Nat.le_of_ble_eq_true rfl) (Nat.le_of_ble_eq_true rfl) ((congrArg (ma_up _ 130) ((ma_up_comm _ (show 1 ≠ 3 from (by decide)) _ _).trans (congrArg (fun f => ma_up f 3 _) ((ma_up_comm _ (show 1 ≠ 2 from (by decide)) _ _).trans (congrArg (fun f => ma_up f 2 _) (ma_up_up _ _ _ _)))))).trans ((ma_up_comm _ (show 130 ≠ 131 from (by decide)) _ _).trans (congrArg (fun f => ma_up f 131 _) (ma_up_up _ _ _ _)))) ?_
      refine ev_aload_n (pc' := 150) (i := 0) dX8_layCut_149 rfl rfl rfl ?_
      refine ev_getR (pc' := 153) fo_X8_61 dX8_layCut_150 rfl hs_115 rfl rf_115_22 ?_
      refine ev_iload (pc' := 155) dX8_layCut_153 rfl rfl ?_
      refine ev_aload_n (pc' := 156) (i := 0) dX8_layCut_155 rfl rfl rfl ?_
      refine ev_getR (pc' := 159) fo_X8_55 dX8_layCut_156 rfl hs_115 rfl rf_115_20 ?_
      refine ev_iconst (pc' := 160) (v := 4) dX8_layCut_159 rfl ki_4 ?_
      refine ev_iload (pc' := 162) dX8_layCut_160 rfl rfl ?_
      refine ev_imul (pc' := 163) (v := 8) dX8_layCut_162 rfl (by decide) ?_
      refine ev_iload (pc' := 165) dX8_layCut_163 rfl rfl ?_
      refine ev_iadd (pc' := 166) (v := 9) dX8_layCut_165 rfl (by decide) ?_
      refine ev_iald (pc' := 167) (j := 9) (v := -((I 126) 3)) dX8_layCut_166 rfl hs_129 rfl (Nat.le_of_ble_eq_true rfl) (Nat.le_of_ble_eq_true rfl) rfl ?_
      refine ev_iast (pc' := 168) (j := 1) (I' := (ma_up (ma_up (ma_up I 129 (ma_up (ma_up (ma_up (ma_up (ma_up (ma_up (ma_up (ma_up (ma_up (ma_up (ma_up (ma_up (I 129) 0 ((I 126) 1)) 1 (-((I 126) 0))) 2 0) 3 0) 4 0) 5 (-((I 126) 2))) 6 ((I 126) 1)) 7 0) 8 0) 9 (-((I 126) 3))) 10 0) 11 ((I 126) 1))) 130 (ma_up (ma_up (ma_up (ma_up (I 130) 0 ((I 126) 1)) 1 (-((I 126) 0))) 2 0) 3 0)) 131 (ma_up (ma_up (ma_up (ma_up (I 131) 0 0) 1 (-((I 126) 3))) 2 ((I 126) 1)) 3 0))) dX8_layCut_167 rfl hs_131 rfl (Nat.le_of_ble_eq_true rfl) (Nat.le_of_ble_eq_true rfl) ((congrArg (ma_up _ 131) ((ma_up_comm _ (show 1 ≠ 3 from (by decide)) _ _).trans (congrArg (fun f => ma_up f 3 _) ((ma_up_comm _ (show 1 ≠ 2 from (by decide)) _ _).trans (congrArg (fun f => ma_up f 2 _) (ma_up_up _ _ _ _)))))).trans (ma_up_up _ _ _ _)) ?_
      refine ev_iinc (pc' := 171) (v := 2) (lv' := [some (.ref 115), some (.int (nI q)), some (.int 1), some (.int 3), some (.int 0), some (.int 2), some (.int 2)]) dX8_layCut_168 rfl rfl (by decide) (Nat.le_of_ble_eq_true rfl) rfl rfl ?_
      refine ev_goto (tgt := 124) dX8_layCut_171 rfl ?_
      refine ev_iload (pc' := 126) dX8_layCut_124 rfl rfl ?_
      refine ev_iconst (pc' := 127) (v := 4) dX8_layCut_126 rfl ki_4 ?_
      refine ev_icmp_ge (tgt := 174) (pc' := 130) dX8_layCut_127 rfl rfl (fun h => absurd h (by decide)) (fun _ => ?_)
      refine ev_aload_n (pc' := 131) (i := 0) dX8_layCut_130 rfl rfl rfl ?_
      refine ev_getR (pc' := 134) fo_X8_58 dX8_layCut_131 rfl hs_115 rfl rf_115_21 ?_
      refine ev_iload (pc' := 136) dX8_layCut_134 rfl rfl ?_
      refine ev_aload_n (pc' := 137) (i := 0) dX8_layCut_136 rfl rfl rfl ?_
      refine ev_getR (pc' := 140) fo_X8_55 dX8_layCut_137 rfl hs_115 rfl rf_115_20 ?_
      refine ev_iconst (pc' := 141) (v := 4) dX8_layCut_140 rfl ki_4 ?_
      refine ev_iload (pc' := 143) dX8_layCut_141 rfl rfl ?_
      refine ev_imul (pc' := 144) (v := 0) dX8_layCut_143 rfl (by decide) ?_
      refine ev_iload (pc' := 146) dX8_layCut_144 rfl rfl ?_
      refine ev_iadd (pc' := 147) (v := 2) dX8_layCut_146 rfl (by decide) ?_
      refine ev_iald (pc' := 148) (j := 2) (v := 0) dX8_layCut_147 rfl hs_129 rfl (Nat.le_of_ble_eq_true rfl) (Nat.le_of_ble_eq_true rfl) rfl ?_
      refine ev_iast (pc' := 149) (j := 2) (I' := (ma_up (ma_up (ma_up I 129 (ma_up (ma_up (ma_up (ma_up (ma_up (ma_up (ma_up (ma_up (ma_up (ma_up (ma_up (ma_up (I 129) 0 ((I 126) 1)) 1 (-((I 126) 0))) 2 0) 3 0) 4 0) 5 (-((I 126) 2))) 6 ((I 126) 1)) 7 0) 8 0) 9 (-((I 126) 3))) 10 0) 11 ((I 126) 1))) 130 (ma_up (ma_up (ma_up (ma_up (I 130) 0 ((I 126) 1)) 1 (-((I 126) 0))) 2 0) 3 0)) 131 (ma_up (ma_up (ma_up (ma_up (I 131) 0 0) 1 (-((I 126) 3))) 2 ((I 126) 1)) 3 0))) dX8_layCut_148 rfl hs_130 rfl (Nat.le_of_ble_eq_true rfl) (Nat.le_of_ble_eq_true rfl) ((congrArg (ma_up _ 130) ((ma_up_comm _ (show 2 ≠ 3 from (by decide)) _ _).trans (congrArg (fun f => ma_up f 3 _) (ma_up_up _ _ _ _)))).trans ((ma_up_comm _ (show 130 ≠ 131 from (by decide)) _ _).trans (congrArg (fun f => ma_up f 131 _) (ma_up_up _ _ _ _)))) ?_
      refine ev_aload_n (pc' := 150) (i := 0) dX8_layCut_149 rfl rfl rfl ?_
      refine ev_getR (pc' := 153) fo_X8_61 dX8_layCut_150 rfl hs_115 rfl rf_115_22 ?_
      refine ev_iload (pc' := 155) dX8_layCut_153 rfl rfl ?_
      refine ev_aload_n (pc' := 156) (i := 0) dX8_layCut_155 rfl rfl rfl ?_
      refine ev_getR (pc' := 159) fo_X8_55 dX8_layCut_156 rfl hs_115 rfl rf_115_20 ?_
      refine ev_iconst (pc' := 160) (v := 4) dX8_layCut_159 rfl ki_4 ?_
      refine ev_iload (pc' := 162) dX8_layCut_160 rfl rfl ?_
      refine ev_imul (pc' := 163) (v := 8) dX8_layCut_162 rfl (by decide) ?_
      refine ev_iload (pc' := 165) dX8_layCut_163 rfl rfl ?_
      refine ev_iadd (pc' := 166) (v := 10) dX8_layCut_165 rfl (by decide) ?_
      refine ev_iald (pc' := 167) (j := 10) (v := 0) dX8_layCut_166 rfl hs_129 rfl (Nat.le_of_ble_eq_true rfl) (Nat.le_of_ble_eq_true rfl) rfl ?_
      refine ev_iast (pc' := 168) (j := 2) (I' := (ma_up (ma_up (ma_up I 129 (ma_up (ma_up (ma_up (ma_up (ma_up (ma_up (ma_up (ma_up (ma_up (ma_up (ma_up (ma_up (I 129) 0 ((I 126) 1)) 1 (-((I 126) 0))) 2 0) 3 0) 4 0) 5 (-((I 126) 2))) 6 ((I 126) 1)) 7 0) 8 0) 9 (-((I 126) 3))) 10 0) 11 ((I 126) 1))) 130 (ma_up (ma_up (ma_up (ma_up (I 130) 0 ((I 126) 1)) 1 (-((I 126) 0))) 2 0) 3 0)) 131 (ma_up (ma_up (ma_up (ma_up (I 131) 0 0) 1 (-((I 126) 3))) 2 0) 3 0))) dX8_layCut_167 rfl hs_131 rfl (Nat.le_of_ble_eq_true rfl) (Nat.le_of_ble_eq_true rfl) ((congrArg (ma_up _ 131) ((ma_up_comm _ (show 2 ≠ 3 from (by decide)) _ _).trans (congrArg (fun f => ma_up f 3 _) (ma_up_up _ _ _ _)))).trans (ma_up_up _ _ _ _)) ?_
      refine ev_iinc (pc' := 171) (v := 3) (lv' := [some (.ref 115), some (.int (nI q)), some (.int 1), some (.int 3), some (.int 0), some (.int 2), some (.int 3)]) dX8_layCut_168 rfl rfl (by decide) (Nat.le_of_ble_eq_true rfl) rfl rfl ?_
      refine ev_goto (tgt := 124) dX8_layCut_171 rfl ?_
      refine ev_iload (pc' := 126) dX8_layCut_124 rfl rfl ?_
      refine ev_iconst (pc' := 127) (v := 4) dX8_layCut_126 rfl ki_4 ?_
      refine ev_icmp_ge (tgt := 174) (pc' := 130) dX8_layCut_127 rfl rfl (fun h => absurd h (by decide)) (fun _ => ?_)
      refine ev_aload_n (pc' := 131) (i := 0) dX8_layCut_130 rfl rfl rfl ?_
      refine ev_getR (pc' := 134) fo_X8_58 dX8_layCut_131 rfl hs_115 rfl rf_115_21 ?_
      refine ev_iload (pc' := 136) dX8_layCut_134 rfl rfl ?_
      refine ev_aload_n (pc' := 137) (i := 0) dX8_layCut_136 rfl rfl rfl ?_
      refine ev_getR (pc' := 140) fo_X8_55 dX8_layCut_137 rfl hs_115 rfl rf_115_20 ?_
      refine ev_iconst (pc' := 141) (v := 4) dX8_layCut_140 rfl ki_4 ?_
      refine ev_iload (pc' := 143) dX8_layCut_141 rfl rfl ?_
      refine ev_imul (pc' := 144) (v := 0) dX8_layCut_143 rfl (by decide) ?_
      refine ev_iload (pc' := 146) dX8_layCut_144 rfl rfl ?_
      refine ev_iadd (pc' := 147) (v := 3) dX8_layCut_146 rfl (by decide) ?_
      refine ev_iald (pc' := 148) (j := 3) (v := 0) dX8_layCut_147 rfl hs_129 rfl (Nat.le_of_ble_eq_true rfl) (Nat.le_of_ble_eq_true rfl) rfl ?_
      refine ev_iast (pc' := 149) (j := 3) (I' := (ma_up (ma_up (ma_up I 129 (ma_up (ma_up (ma_up (ma_up (ma_up (ma_up (ma_up (ma_up (ma_up (ma_up (ma_up (ma_up (I 129) 0 ((I 126) 1)) 1 (-((I 126) 0))) 2 0) 3 0) 4 0) 5 (-((I 126) 2))) 6 ((I 126) 1)) 7 0) 8 0) 9 (-((I 126) 3))) 10 0) 11 ((I 126) 1))) 130 (ma_up (ma_up (ma_up (ma_up (I 130) 0 ((I 126) 1)) 1 (-((I 126) 0))) 2 0) 3 0)) 131 (ma_up (ma_up (ma_up (ma_up (I 131) 0 0) 1 (-((I 126) 3))) 2 0) 3 0))) dX8_layCut_148 rfl hs_130 rfl (Nat.le_of_ble_eq_true rfl) (Nat.le_of_ble_eq_true rfl) ((congrArg (ma_up _ 130) (ma_up_up _ _ _ _)).trans ((ma_up_comm _ (show 130 ≠ 131 from (by decide)) _ _).trans (congrArg (fun f => ma_up f 131 _) (ma_up_up _ _ _ _)))) ?_
      refine ev_aload_n (pc' := 150) (i := 0) dX8_layCut_149 rfl rfl rfl ?_
      refine ev_getR (pc' := 153) fo_X8_61 dX8_layCut_150 rfl hs_115 rfl rf_115_22 ?_
      refine ev_iload (pc' := 155) dX8_layCut_153 rfl rfl ?_
      refine ev_aload_n (pc' := 156) (i := 0) dX8_layCut_155 rfl rfl rfl ?_
      refine ev_getR (pc' := 159) fo_X8_55 dX8_layCut_156 rfl hs_115 rfl rf_115_20 ?_
      refine ev_iconst (pc' := 160) (v := 4) dX8_layCut_159 rfl ki_4 ?_
      refine ev_iload (pc' := 162) dX8_layCut_160 rfl rfl ?_
      refine ev_imul (pc' := 163) (v := 8) dX8_layCut_162 rfl (by decide) ?_
      refine ev_iload (pc' := 165) dX8_layCut_163 rfl rfl ?_
      refine ev_iadd (pc' := 166) (v := 11) dX8_layCut_165 rfl (by decide) ?_
      refine ev_iald (pc' := 167) (j := 11) (v := (I 126) 1) dX8_layCut_166 rfl hs_129 rfl (Nat.le_of_ble_eq_true rfl) (Nat.le_of_ble_eq_true rfl) rfl ?_
      refine ev_iast (pc' := 168) (j := 3) (I' := (ma_up (ma_up (ma_up I 129 (ma_up (ma_up (ma_up (ma_up (ma_up (ma_up (ma_up (ma_up (ma_up (ma_up (ma_up (ma_up (I 129) 0 ((I 126) 1)) 1 (-((I 126) 0))) 2 0) 3 0) 4 0) 5 (-((I 126) 2))) 6 ((I 126) 1)) 7 0) 8 0) 9 (-((I 126) 3))) 10 0) 11 ((I 126) 1))) 130 (ma_up (ma_up (ma_up (ma_up (I 130) 0 ((I 126) 1)) 1 (-((I 126) 0))) 2 0) 3 0)) 131 (ma_up (ma_up (ma_up (ma_up (I 131) 0 0) 1 (-((I 126) 3))) 2 0) 3 ((I 126) 1)))) dX8_layCut_167 rfl hs_131 rfl (Nat.le_of_ble_eq_true rfl) (Nat.le_of_ble_eq_true rfl) ((congrArg (ma_up _ 131) (ma_up_up _ _ _ _)).trans (ma_up_up _ _ _ _)) ?_
      refine ev_iinc (pc' := 171) (v := 4) (lv' := [some (.ref 115), some (.int (nI q)), some (.int 1), some (.int 3), some (.int 0), some (.int 2), some (.int 4)]) dX8_layCut_168 rfl rfl (by decide) (Nat.le_of_ble_eq_true rfl) rfl rfl ?_
      refine ev_goto (tgt := 124) dX8_layCut_171 rfl ?_
      refine ev_iload (pc' := 126) dX8_layCut_124 rfl rfl ?_
      refine ev_iconst (pc' := 127) (v := 4) dX8_layCut_126 rfl ki_4 ?_
      refine ev_icmp_ge (tgt := 174) (pc' := 130) dX8_layCut_127 rfl rfl (fun _ => ?_) (fun h => absurd (by decide) h)
      refine ev_aload_n (pc' := 175) (i := 0) dX8_layCut_174 rfl rfl rfl ?_
      refine ev_getR (pc' := 178) fo_X8_26 dX8_layCut_175 rfl hs_115 rfl rf_115_8 ?_
      refine ev_iconst (pc' := 179) (v := 4) dX8_layCut_178 rfl ki_4 ?_
      refine ev_iload (pc' := 181) dX8_layCut_179 rfl rfl ?_
      refine ev_imul (pc' := 182) (v := 0) dX8_layCut_181 rfl (by decide) ?_
      refine ev_iload (pc' := 184) dX8_layCut_182 rfl rfl ?_
      refine ev_iadd (pc' := 185) (v := 2) dX8_layCut_184 rfl (by decide) ?_
      refine ev_aload_n (pc' := 186) (i := 0) dX8_layCut_185 rfl rfl rfl ?_
      refine ev_iload_n (pc' := 187) (i := 1) dX8_layCut_186 rfl rfl rfl ?_
      refine ev_aload_n (pc' := 188) (i := 0) dX8_layCut_187 rfl rfl rfl ?_
      refine ev_getR (pc' := 191) fo_X8_58 dX8_layCut_188 rfl hs_115 rfl rf_115_21 ?_
      refine ev_aload_n (pc' := 192) (i := 0) dX8_layCut_191 rfl rfl rfl ?_
      refine ev_getR (pc' := 195) fo_X8_61 dX8_layCut_192 rfl hs_115 rfl rf_115_22 ?_
      refine ev_callV (pc' := 198) (rm' := rX8_both) (b := 115) (av := [.int (nI q), .ref 130, .ref 131]) (rest := [.int 2, .ref 120]) co_X8_241 ci_X8_both cv_X8_both dX8_layCut_195 rfl hs_115 hb_X8 rfl rfl (Nat.le_of_ble_eq_true rfl) ⟨(Nat.le_of_ble_eq_true rfl), (Nat.le_of_ble_eq_true rfl)⟩ ⟨(Nat.le_of_ble_eq_true rfl), (Nat.le_of_ble_eq_true rfl)⟩ ?_
      refine t_X8_both q 130 131 hq hs_130 hs_131 ?_
      refine ev_eqi (w := mBo (I 123) (mSn 1 (I 126) 0) (mSn 1 (I 126) 2) q) rfl ?_
      refine ev_i2l (pc' := 199) (v := Int32.toInt64 (mBo (I 123) (mSn 1 (I 126) 0) (mSn 1 (I 126) 2) q)) dX8_layCut_198 rfl rfl ?_
      refine ev_last (pc' := 200) (j := 2) (L' := (ma_up L 120 (ma_up (ma_up (ma_up (L 120) 0 (Int32.toInt64 (mBo (I 123) (mSn 1 (I 126) 0) (mSn 1 (I 126) 0) q))) 1 (Int32.toInt64 (mBo (I 123) (mSn 1 (I 126) 0) (mSn 1 (I 126) 1) q))) 2 (Int32.toInt64 (mBo (I 123) (mSn 1 (I 126) 0) (mSn 1 (I 126) 2) q))))) dX8_layCut_199 rfl hs_120 rfl (Nat.le_of_ble_eq_true rfl) (Nat.le_of_ble_eq_true rfl) (ma_up_up _ _ _ _) ?_
      refine ev_iinc (pc' := 203) (v := 3) (lv' := [some (.ref 115), some (.int (nI q)), some (.int 1), some (.int 3), some (.int 0), some (.int 3), some (.int 4)]) dX8_layCut_200 rfl rfl (by decide) (Nat.le_of_ble_eq_true rfl) rfl rfl ?_
      refine ev_goto (tgt := 115) dX8_layCut_203 rfl ?_
      refine ev_iload (pc' := 117) dX8_layCut_115 rfl rfl ?_
      refine ev_iconst (pc' := 118) (v := 3) dX8_layCut_117 rfl ki_3 ?_
      refine ev_icmp_ge (tgt := 206) (pc' := 121) dX8_layCut_118 rfl rfl (fun _ => ?_) (fun h => absurd (by decide) h)
      refine ev_iinc (pc' := 209) (v := 1) (lv' := [some (.ref 115), some (.int (nI q)), some (.int 1), some (.int 3), some (.int 1), some (.int 3), some (.int 4)]) dX8_layCut_206 rfl rfl (by decide) (Nat.le_of_ble_eq_true rfl) rfl rfl ?_
      refine ev_goto (tgt := 106) dX8_layCut_209 rfl ?_
      refine ev_iload (pc' := 108) dX8_layCut_106 rfl rfl ?_
      refine ev_iconst (pc' := 109) (v := 3) dX8_layCut_108 rfl ki_3 ?_
      refine ev_icmp_ge (tgt := 212) (pc' := 112) dX8_layCut_109 rfl rfl (fun h => absurd h (by decide)) (fun _ => ?_)
      refine ev_iconst (pc' := 113) (v := 0) dX8_layCut_112 rfl ki_0 ?_
      refine ev_istore (pc' := 115) (lv' := [some (.ref 115), some (.int (nI q)), some (.int 1), some (.int 3), some (.int 1), some (.int 0), some (.int 4)]) dX8_layCut_113 rfl (Nat.le_of_ble_eq_true rfl) rfl rfl ?_
      refine ev_iload (pc' := 117) dX8_layCut_115 rfl rfl ?_
      refine ev_iconst (pc' := 118) (v := 3) dX8_layCut_117 rfl ki_3 ?_
      refine ev_icmp_ge (tgt := 206) (pc' := 121) dX8_layCut_118 rfl rfl (fun h => absurd h (by decide)) (fun _ => ?_)
      refine ev_iconst (pc' := 122) (v := 0) dX8_layCut_121 rfl ki_0 ?_
      refine ev_istore (pc' := 124) (lv' := [some (.ref 115), some (.int (nI q)), some (.int 1), some (.int 3), some (.int 1), some (.int 0), some (.int 0)]) dX8_layCut_122 rfl (Nat.le_of_ble_eq_true rfl) rfl rfl ?_
      refine ev_iload (pc' := 126) dX8_layCut_124 rfl rfl ?_
      refine ev_iconst (pc' := 127) (v := 4) dX8_layCut_126 rfl ki_4 ?_
      refine ev_icmp_ge (tgt := 174) (pc' := 130) dX8_layCut_127 rfl rfl (fun h => absurd h (by decide)) (fun _ => ?_)
      refine ev_aload_n (pc' := 131) (i := 0) dX8_layCut_130 rfl rfl rfl ?_
      refine ev_getR (pc' := 134) fo_X8_58 dX8_layCut_131 rfl hs_115 rfl rf_115_21 ?_
      refine ev_iload (pc' := 136) dX8_layCut_134 rfl rfl ?_
      refine ev_aload_n (pc' := 137) (i := 0) dX8_layCut_136 rfl rfl rfl ?_
      refine ev_getR (pc' := 140) fo_X8_55 dX8_layCut_137 rfl hs_115 rfl rf_115_20 ?_
      refine ev_iconst (pc' := 141) (v := 4) dX8_layCut_140 rfl ki_4 ?_
      refine ev_iload (pc' := 143) dX8_layCut_141 rfl rfl ?_
      refine ev_imul (pc' := 144) (v := 4) dX8_layCut_143 rfl (by decide) ?_
      refine ev_iload (pc' := 146) dX8_layCut_144 rfl rfl ?_
      refine ev_iadd (pc' := 147) (v := 4) dX8_layCut_146 rfl (by decide) ?_
      refine ev_iald (pc' := 148) (j := 4) (v := 0) dX8_layCut_147 rfl hs_129 rfl (Nat.le_of_ble_eq_true rfl) (Nat.le_of_ble_eq_true rfl) rfl ?_
      refine ev_iast (pc' := 149) (j := 0) (I' := (ma_up (ma_up (ma_up I 129 (ma_up (ma_up (ma_up (ma_up (ma_up (ma_up (ma_up (ma_up (ma_up (ma_up (ma_up (ma_up (I 129) 0 ((I 126) 1)) 1 (-((I 126) 0))) 2 0) 3 0) 4 0) 5 (-((I 126) 2))) 6 ((I 126) 1)) 7 0) 8 0) 9 (-((I 126) 3))) 10 0) 11 ((I 126) 1))) 130 (ma_up (ma_up (ma_up (ma_up (I 130) 0 0) 1 (-((I 126) 0))) 2 0) 3 0)) 131 (ma_up (ma_up (ma_up (ma_up (I 131) 0 0) 1 (-((I 126) 3))) 2 0) 3 ((I 126) 1)))) dX8_layCut_148 rfl hs_130 rfl (Nat.le_of_ble_eq_true rfl) (Nat.le_of_ble_eq_true rfl) ((congrArg (ma_up _ 130) ((ma_up_comm _ (show 0 ≠ 3 from (by decide)) _ _).trans (congrArg (fun f => ma_up f 3 _) ((ma_up_comm _ (show 0 ≠ 2 from (by decide)) _ _).trans (congrArg (fun f => ma_up f 2 _) ((ma_up_comm _ (show 0 ≠ 1 from (by decide)) _ _).trans (congrArg (fun f => ma_up f 1 _) (ma_up_up _ _ _ _)))))))).trans ((ma_up_comm _ (show 130 ≠ 131 from (by decide)) _ _).trans (congrArg (fun f => ma_up f 131 _) (ma_up_up _ _ _ _)))) ?_
      refine ev_aload_n (pc' := 150) (i := 0) dX8_layCut_149 rfl rfl rfl ?_
      refine ev_getR (pc' := 153) fo_X8_61 dX8_layCut_150 rfl hs_115 rfl rf_115_22 ?_
      refine ev_iload (pc' := 155) dX8_layCut_153 rfl rfl ?_
      refine ev_aload_n (pc' := 156) (i := 0) dX8_layCut_155 rfl rfl rfl ?_
      refine ev_getR (pc' := 159) fo_X8_55 dX8_layCut_156 rfl hs_115 rfl rf_115_20 ?_
      refine ev_iconst (pc' := 160) (v := 4) dX8_layCut_159 rfl ki_4 ?_
      refine ev_iload (pc' := 162) dX8_layCut_160 rfl rfl ?_
      refine ev_imul (pc' := 163) (v := 0) dX8_layCut_162 rfl (by decide) ?_
      refine ev_iload (pc' := 165) dX8_layCut_163 rfl rfl ?_
      refine ev_iadd (pc' := 166) (v := 0) dX8_layCut_165 rfl (by decide) ?_
      refine ev_iald (pc' := 167) (j := 0) (v := (I 126) 1) dX8_layCut_166 rfl hs_129 rfl (Nat.le_of_ble_eq_true rfl) (Nat.le_of_ble_eq_true rfl) rfl ?_
      refine ev_iast (pc' := 168) (j := 0) (I' := (ma_up (ma_up (ma_up I 129 (ma_up (ma_up (ma_up (ma_up (ma_up (ma_up (ma_up (ma_up (ma_up (ma_up (ma_up (ma_up (I 129) 0 ((I 126) 1)) 1 (-((I 126) 0))) 2 0) 3 0) 4 0) 5 (-((I 126) 2))) 6 ((I 126) 1)) 7 0) 8 0) 9 (-((I 126) 3))) 10 0) 11 ((I 126) 1))) 130 (ma_up (ma_up (ma_up (ma_up (I 130) 0 0) 1 (-((I 126) 0))) 2 0) 3 0)) 131 (ma_up (ma_up (ma_up (ma_up (I 131) 0 ((I 126) 1)) 1 (-((I 126) 3))) 2 0) 3 ((I 126) 1)))) dX8_layCut_167 rfl hs_131 rfl (Nat.le_of_ble_eq_true rfl) (Nat.le_of_ble_eq_true rfl) ((congrArg (ma_up _ 131) ((ma_up_comm _ (show 0 ≠ 3 from (by decide)) _ _).trans (congrArg (fun f => ma_up f 3 _) ((ma_up_comm _ (show 0 ≠ 2 from (by decide)) _ _).trans (congrArg (fun f => ma_up f 2 _) ((ma_up_comm _ (show 0 ≠ 1 from (by decide)) _ _).trans (congrArg (fun f => ma_up f 1 _) (ma_up_up _ _ _ _)))))))).trans (ma_up_up _ _ _ _)) ?_
      refine ev_iinc (pc' := 171) (v := 1) (lv' := [some (.ref 115), some (.int (nI q)), some (.int 1), some (.int 3), some (.int 1), some (.int 0), some (.int 1)]) dX8_layCut_168 rfl rfl (by decide) (Nat.le_of_ble_eq_true rfl) rfl rfl ?_
      refine ev_goto (tgt := 124) dX8_layCut_171 rfl ?_
      refine ev_iload (pc' := 126) dX8_layCut_124 rfl rfl ?_
      refine ev_iconst (pc' := 127) (v := 4) dX8_layCut_126 rfl ki_4 ?_
      refine ev_icmp_ge (tgt := 174) (pc' := 130) dX8_layCut_127 rfl rfl (fun h => absurd h (by decide)) (fun _ => ?_)
      refine ev_aload_n (pc' := 131) (i := 0) dX8_layCut_130 rfl rfl rfl ?_
      refine ev_getR (pc' := 134) fo_X8_58 dX8_layCut_131 rfl hs_115 rfl rf_115_21 ?_
      refine ev_iload (pc' := 136) dX8_layCut_134 rfl rfl ?_
      refine ev_aload_n (pc' := 137) (i := 0) dX8_layCut_136 rfl rfl rfl ?_
      refine ev_getR (pc' := 140) fo_X8_55 dX8_layCut_137 rfl hs_115 rfl rf_115_20 ?_
      refine ev_iconst (pc' := 141) (v := 4) dX8_layCut_140 rfl ki_4 ?_
      refine ev_iload (pc' := 143) dX8_layCut_141 rfl rfl ?_
      refine ev_imul (pc' := 144) (v := 4) dX8_layCut_143 rfl (by decide) ?_
      refine ev_iload (pc' := 146) dX8_layCut_144 rfl rfl ?_
      refine ev_iadd (pc' := 147) (v := 5) dX8_layCut_146 rfl (by decide) ?_
      refine ev_iald (pc' := 148) (j := 5) (v := -((I 126) 2)) dX8_layCut_147 rfl hs_129 rfl (Nat.le_of_ble_eq_true rfl) (Nat.le_of_ble_eq_true rfl) rfl ?_
      refine ev_iast (pc' := 149) (j := 1) (I' := (ma_up (ma_up (ma_up I 129 (ma_up (ma_up (ma_up (ma_up (ma_up (ma_up (ma_up (ma_up (ma_up (ma_up (ma_up (ma_up (I 129) 0 ((I 126) 1)) 1 (-((I 126) 0))) 2 0) 3 0) 4 0) 5 (-((I 126) 2))) 6 ((I 126) 1)) 7 0) 8 0) 9 (-((I 126) 3))) 10 0) 11 ((I 126) 1))) 130 (ma_up (ma_up (ma_up (ma_up (I 130) 0 0) 1 (-((I 126) 2))) 2 0) 3 0)) 131 (ma_up (ma_up (ma_up (ma_up (I 131) 0 ((I 126) 1)) 1 (-((I 126) 3))) 2 0) 3 ((I 126) 1)))) dX8_layCut_148 rfl hs_130 rfl (Nat.le_of_ble_eq_true rfl) (Nat.le_of_ble_eq_true rfl) ((congrArg (ma_up _ 130) ((ma_up_comm _ (show 1 ≠ 3 from (by decide)) _ _).trans (congrArg (fun f => ma_up f 3 _) ((ma_up_comm _ (show 1 ≠ 2 from (by decide)) _ _).trans (congrArg (fun f => ma_up f 2 _) (ma_up_up _ _ _ _)))))).trans ((ma_up_comm _ (show 130 ≠ 131 from (by decide)) _ _).trans (congrArg (fun f => ma_up f 131 _) (ma_up_up _ _ _ _)))) ?_
      refine ev_aload_n (pc' := 150) (i := 0) dX8_layCut_149 rfl rfl rfl ?_
      refine ev_getR (pc' := 153) fo_X8_61 dX8_layCut_150 rfl hs_115 rfl rf_115_22 ?_
      refine ev_iload (pc' := 155) dX8_layCut_153 rfl rfl ?_
      refine ev_aload_n (pc' := 156) (i := 0) dX8_layCut_155 rfl rfl rfl ?_
      refine ev_getR (pc' := 159) fo_X8_55 dX8_layCut_156 rfl hs_115 rfl rf_115_20 ?_
      refine ev_iconst (pc' := 160) (v := 4) dX8_layCut_159 rfl ki_4 ?_
      refine ev_iload (pc' := 162) dX8_layCut_160 rfl rfl ?_
      refine ev_imul (pc' := 163) (v := 0) dX8_layCut_162 rfl (by decide) ?_
      refine ev_iload (pc' := 165) dX8_layCut_163 rfl rfl ?_
      refine ev_iadd (pc' := 166) (v := 1) dX8_layCut_165 rfl (by decide) ?_
      refine ev_iald (pc' := 167) (j := 1) (v := -((I 126) 0)) dX8_layCut_166 rfl hs_129 rfl (Nat.le_of_ble_eq_true rfl) (Nat.le_of_ble_eq_true rfl) rfl ?_
      refine ev_iast (pc' := 168) (j := 1) (I' := (ma_up (ma_up (ma_up I 129 (ma_up (ma_up (ma_up (ma_up (ma_up (ma_up (ma_up (ma_up (ma_up (ma_up (ma_up (ma_up (I 129) 0 ((I 126) 1)) 1 (-((I 126) 0))) 2 0) 3 0) 4 0) 5 (-((I 126) 2))) 6 ((I 126) 1)) 7 0) 8 0) 9 (-((I 126) 3))) 10 0) 11 ((I 126) 1))) 130 (ma_up (ma_up (ma_up (ma_up (I 130) 0 0) 1 (-((I 126) 2))) 2 0) 3 0)) 131 (ma_up (ma_up (ma_up (ma_up (I 131) 0 ((I 126) 1)) 1 (-((I 126) 0))) 2 0) 3 ((I 126) 1)))) dX8_layCut_167 rfl hs_131 rfl (Nat.le_of_ble_eq_true rfl) (Nat.le_of_ble_eq_true rfl) ((congrArg (ma_up _ 131) ((ma_up_comm _ (show 1 ≠ 3 from (by decide)) _ _).trans (congrArg (fun f => ma_up f 3 _) ((ma_up_comm _ (show 1 ≠ 2 from (by decide)) _ _).trans (congrArg (fun f => ma_up f 2 _) (ma_up_up _ _ _ _)))))).trans (ma_up_up _ _ _ _)) ?_
      refine ev_iinc (pc' := 171) (v := 2) (lv' := [some (.ref 115), some (.int (nI q)), some (.int 1), some (.int 3), some (.int 1), some (.int 0), some (.int 2)]) dX8_layCut_168 rfl rfl (by decide) (Nat.le_of_ble_eq_true rfl) rfl rfl ?_
      refine ev_goto (tgt := 124) dX8_layCut_171 rfl ?_
      refine ev_iload (pc' := 126) dX8_layCut_124 rfl rfl ?_
      refine ev_iconst (pc' := 127) (v := 4) dX8_layCut_126 rfl ki_4 ?_
      refine ev_icmp_ge (tgt := 174) (pc' := 130) dX8_layCut_127 rfl rfl (fun h => absurd h (by decide)) (fun _ => ?_)
      refine ev_aload_n (pc' := 131) (i := 0) dX8_layCut_130 rfl rfl rfl ?_
      refine ev_getR (pc' := 134) fo_X8_58 dX8_layCut_131 rfl hs_115 rfl rf_115_21 ?_
      refine ev_iload (pc' := 136) dX8_layCut_134 rfl rfl ?_
      refine ev_aload_n (pc' := 137) (i := 0) dX8_layCut_136 rfl rfl rfl ?_
      refine ev_getR (pc' := 140) fo_X8_55 dX8_layCut_137 rfl hs_115 rfl rf_115_20 ?_
      refine ev_iconst (pc' := 141) (v := 4) dX8_layCut_140 rfl ki_4 ?_
      refine ev_iload (pc' := 143) dX8_layCut_141 rfl rfl ?_
      refine ev_imul (pc' := 144) (v := 4) dX8_layCut_143 rfl (by decide) ?_
      refine ev_iload (pc' := 146) dX8_layCut_144 rfl rfl ?_
      refine ev_iadd (pc' := 147) (v := 6) dX8_layCut_146 rfl (by decide) ?_
      refine ev_iald (pc' := 148) (j := 6) (v := (I 126) 1) dX8_layCut_147 rfl hs_129 rfl (Nat.le_of_ble_eq_true rfl) (Nat.le_of_ble_eq_true rfl) rfl ?_
      refine ev_iast (pc' := 149) (j := 2) (I' := (ma_up (ma_up (ma_up I 129 (ma_up (ma_up (ma_up (ma_up (ma_up (ma_up (ma_up (ma_up (ma_up (ma_up (ma_up (ma_up (I 129) 0 ((I 126) 1)) 1 (-((I 126) 0))) 2 0) 3 0) 4 0) 5 (-((I 126) 2))) 6 ((I 126) 1)) 7 0) 8 0) 9 (-((I 126) 3))) 10 0) 11 ((I 126) 1))) 130 (ma_up (ma_up (ma_up (ma_up (I 130) 0 0) 1 (-((I 126) 2))) 2 ((I 126) 1)) 3 0)) 131 (ma_up (ma_up (ma_up (ma_up (I 131) 0 ((I 126) 1)) 1 (-((I 126) 0))) 2 0) 3 ((I 126) 1)))) dX8_layCut_148 rfl hs_130 rfl (Nat.le_of_ble_eq_true rfl) (Nat.le_of_ble_eq_true rfl) ((congrArg (ma_up _ 130) ((ma_up_comm _ (show 2 ≠ 3 from (by decide)) _ _).trans (congrArg (fun f => ma_up f 3 _) (ma_up_up _ _ _ _)))).trans ((ma_up_comm _ (show 130 ≠ 131 from (by decide)) _ _).trans (congrArg (fun f => ma_up f 131 _) (ma_up_up _ _ _ _)))) ?_
      refine ev_aload_n (pc' := 150) (i := 0) dX8_layCut_149 rfl rfl rfl ?_
      refine ev_getR (pc' := 153) fo_X8_61 dX8_layCut_150 rfl hs_115 rfl rf_115_22 ?_
      refine ev_iload (pc' := 155) dX8_layCut_153 rfl rfl ?_
      refine ev_aload_n (pc' := 156) (i := 0) dX8_layCut_155 rfl rfl rfl ?_
      refine ev_getR (pc' := 159) fo_X8_55 dX8_layCut_156 rfl hs_115 rfl rf_115_20 ?_
      refine ev_iconst (pc' := 160) (v := 4) dX8_layCut_159 rfl ki_4 ?_
      refine ev_iload (pc' := 162) dX8_layCut_160 rfl rfl ?_
      refine ev_imul (pc' := 163) (v := 0) dX8_layCut_162 rfl (by decide) ?_
      refine ev_iload (pc' := 165) dX8_layCut_163 rfl rfl ?_
      refine ev_iadd (pc' := 166) (v := 2) dX8_layCut_165 rfl (by decide) ?_
      refine ev_iald (pc' := 167) (j := 2) (v := 0) dX8_layCut_166 rfl hs_129 rfl (Nat.le_of_ble_eq_true rfl) (Nat.le_of_ble_eq_true rfl) rfl ?_
      refine ev_iast (pc' := 168) (j := 2) (I' := (ma_up (ma_up (ma_up I 129 (ma_up (ma_up (ma_up (ma_up (ma_up (ma_up (ma_up (ma_up (ma_up (ma_up (ma_up (ma_up (I 129) 0 ((I 126) 1)) 1 (-((I 126) 0))) 2 0) 3 0) 4 0) 5 (-((I 126) 2))) 6 ((I 126) 1)) 7 0) 8 0) 9 (-((I 126) 3))) 10 0) 11 ((I 126) 1))) 130 (ma_up (ma_up (ma_up (ma_up (I 130) 0 0) 1 (-((I 126) 2))) 2 ((I 126) 1)) 3 0)) 131 (ma_up (ma_up (ma_up (ma_up (I 131) 0 ((I 126) 1)) 1 (-((I 126) 0))) 2 0) 3 ((I 126) 1)))) dX8_layCut_167 rfl hs_131 rfl (Nat.le_of_ble_eq_true rfl) (Nat.le_of_ble_eq_true rfl) ((congrArg (ma_up _ 131) ((ma_up_comm _ (show 2 ≠ 3 from (by decide)) _ _).trans (congrArg (fun f => ma_up f 3 _) (ma_up_up _ _ _ _)))).trans (ma_up_up _ _ _ _)) ?_
      refine ev_iinc (pc' := 171) (v := 3) (lv' := [some (.ref 115), some (.int (nI q)), some (.int 1), some (.int 3), some (.int 1), some (.int 0), some (.int 3)]) dX8_layCut_168 rfl rfl (by decide) (Nat.le_of_ble_eq_true rfl) rfl rfl ?_
      refine ev_goto (tgt := 124) dX8_layCut_171 rfl ?_
      refine ev_iload (pc' := 126) dX8_layCut_124 rfl rfl ?_
      refine ev_iconst (pc' := 127) (v := 4) dX8_layCut_126 rfl ki_4 ?_
      refine ev_icmp_ge (tgt := 174) (pc' := 130) dX8_layCut_127 rfl rfl (fun h => absurd h (by decide)) (fun _ => ?_)
      refine ev_aload_n (pc' := 131) (i := 0) dX8_layCut_130 rfl rfl rfl ?_
      refine ev_getR (pc' := 134) fo_X8_58 dX8_layCut_131 rfl hs_115 rfl rf_115_21 ?_
      refine ev_iload (pc' := 136) dX8_layCut_134 rfl rfl ?_
      refine ev_aload_n (pc' := 137) (i := 0) dX8_layCut_136 rfl rfl rfl ?_
      refine ev_getR (pc' := 140) fo_X8_55 dX8_layCut_137 rfl hs_115 rfl rf_115_20 ?_
      refine ev_iconst (pc' := 141) (v := 4) dX8_layCut_140 rfl ki_4 ?_
      refine ev_iload (pc' := 143) dX8_layCut_141 rfl rfl ?_
      refine ev_imul (pc' := 144) (v := 4) dX8_layCut_143 rfl (by decide) ?_
      refine ev_iload (pc' := 146) dX8_layCut_144 rfl rfl ?_
      refine ev_iadd (pc' := 147) (v := 7) dX8_layCut_146 rfl (by decide) ?_
      refine ev_iald (pc' := 148) (j := 7) (v := 0) dX8_layCut_147 rfl hs_129 rfl (Nat.le_of_ble_eq_true rfl) (Nat.le_of_ble_eq_true rfl) rfl ?_
      refine ev_iast (pc' := 149) (j := 3) (I' := (ma_up (ma_up (ma_up I 129 (ma_up (ma_up (ma_up (ma_up (ma_up (ma_up (ma_up (ma_up (ma_up (ma_up (ma_up (ma_up (I 129) 0 ((I 126) 1)) 1 (-((I 126) 0))) 2 0) 3 0) 4 0) 5 (-((I 126) 2))) 6 ((I 126) 1)) 7 0) 8 0) 9 (-((I 126) 3))) 10 0) 11 ((I 126) 1))) 130 (ma_up (ma_up (ma_up (ma_up (I 130) 0 0) 1 (-((I 126) 2))) 2 ((I 126) 1)) 3 0)) 131 (ma_up (ma_up (ma_up (ma_up (I 131) 0 ((I 126) 1)) 1 (-((I 126) 0))) 2 0) 3 ((I 126) 1)))) dX8_layCut_148 rfl hs_130 rfl (Nat.le_of_ble_eq_true rfl) (Nat.le_of_ble_eq_true rfl) ((congrArg (ma_up _ 130) (ma_up_up _ _ _ _)).trans ((ma_up_comm _ (show 130 ≠ 131 from (by decide)) _ _).trans (congrArg (fun f => ma_up f 131 _) (ma_up_up _ _ _ _)))) ?_
      refine ev_aload_n (pc' := 150) (i := 0) dX8_layCut_149 rfl rfl rfl ?_
      refine ev_getR (pc' := 153) fo_X8_61 dX8_layCut_150 rfl hs_115 rfl rf_115_22 ?_
      refine ev_iload (pc' := 155) dX8_layCut_153 rfl rfl ?_
      refine ev_aload_n (pc' := 156) (i := 0) dX8_layCut_155 rfl rfl rfl ?_
      refine ev_getR (pc' := 159) fo_X8_55 dX8_layCut_156 rfl hs_115 rfl rf_115_20 ?_
      refine ev_iconst (pc' := 160) (v := 4) dX8_layCut_159 rfl ki_4 ?_
      refine ev_iload (pc' := 162) dX8_layCut_160 rfl rfl ?_
      refine ev_imul (pc' := 163) (v := 0) dX8_layCut_162 rfl (by decide) ?_
      refine ev_iload (pc' := 165) dX8_layCut_163 rfl rfl ?_
      refine ev_iadd (pc' := 166) (v := 3) dX8_layCut_165 rfl (by decide) ?_
      refine ev_iald (pc' := 167) (j := 3) (v := 0) dX8_layCut_166 rfl hs_129 rfl (Nat.le_of_ble_eq_true rfl) (Nat.le_of_ble_eq_true rfl) rfl ?_
      refine ev_iast (pc' := 168) (j := 3) (I' := (ma_up (ma_up (ma_up I 129 (ma_up (ma_up (ma_up (ma_up (ma_up (ma_up (ma_up (ma_up (ma_up (ma_up (ma_up (ma_up (I 129) 0 ((I 126) 1)) 1 (-((I 126) 0))) 2 0) 3 0) 4 0) 5 (-((I 126) 2))) 6 ((I 126) 1)) 7 0) 8 0) 9 (-((I 126) 3))) 10 0) 11 ((I 126) 1))) 130 (ma_up (ma_up (ma_up (ma_up (I 130) 0 0) 1 (-((I 126) 2))) 2 ((I 126) 1)) 3 0)) 131 (ma_up (ma_up (ma_up (ma_up (I 131) 0 ((I 126) 1)) 1 (-((I 126) 0))) 2 0) 3 0))) dX8_layCut_167 rfl hs_131 rfl (Nat.le_of_ble_eq_true rfl) (Nat.le_of_ble_eq_true rfl) ((congrArg (ma_up _ 131) (ma_up_up _ _ _ _)).trans (ma_up_up _ _ _ _)) ?_
      refine ev_iinc (pc' := 171) (v := 4) (lv' := [some (.ref 115), some (.int (nI q)), some (.int 1), some (.int 3), some (.int 1), some (.int 0), some (.int 4)]) dX8_layCut_168 rfl rfl (by decide) (Nat.le_of_ble_eq_true rfl) rfl rfl ?_
      refine ev_goto (tgt := 124) dX8_layCut_171 rfl ?_
      refine ev_iload (pc' := 126) dX8_layCut_124 rfl rfl ?_
      refine ev_iconst (pc' := 127) (v := 4) dX8_layCut_126 rfl ki_4 ?_
      refine ev_icmp_ge (tgt := 174) (pc' := 130) dX8_layCut_127 rfl rfl (fun _ => ?_) (fun h => absurd (by decide) h)
      refine ev_aload_n (pc' := 175) (i := 0) dX8_layCut_174 rfl rfl rfl ?_
      refine ev_getR (pc' := 178) fo_X8_26 dX8_layCut_175 rfl hs_115 rfl rf_115_8 ?_
      refine ev_iconst (pc' := 179) (v := 4) dX8_layCut_178 rfl ki_4 ?_
      refine ev_iload (pc' := 181) dX8_layCut_179 rfl rfl ?_
      refine ev_imul (pc' := 182) (v := 4) dX8_layCut_181 rfl (by decide) ?_
      refine ev_iload (pc' := 184) dX8_layCut_182 rfl rfl ?_
      refine ev_iadd (pc' := 185) (v := 4) dX8_layCut_184 rfl (by decide) ?_
      refine ev_aload_n (pc' := 186) (i := 0) dX8_layCut_185 rfl rfl rfl ?_
      refine ev_iload_n (pc' := 187) (i := 1) dX8_layCut_186 rfl rfl rfl ?_
      refine ev_aload_n (pc' := 188) (i := 0) dX8_layCut_187 rfl rfl rfl ?_
      refine ev_getR (pc' := 191) fo_X8_58 dX8_layCut_188 rfl hs_115 rfl rf_115_21 ?_
      refine ev_aload_n (pc' := 192) (i := 0) dX8_layCut_191 rfl rfl rfl ?_
      refine ev_getR (pc' := 195) fo_X8_61 dX8_layCut_192 rfl hs_115 rfl rf_115_22 ?_
      refine ev_callV (pc' := 198) (rm' := rX8_both) (b := 115) (av := [.int (nI q), .ref 130, .ref 131]) (rest := [.int 4, .ref 120]) co_X8_241 ci_X8_both cv_X8_both dX8_layCut_195 rfl hs_115 hb_X8 rfl rfl (Nat.le_of_ble_eq_true rfl) ⟨(Nat.le_of_ble_eq_true rfl), (Nat.le_of_ble_eq_true rfl)⟩ ⟨(Nat.le_of_ble_eq_true rfl), (Nat.le_of_ble_eq_true rfl)⟩ ?_
      refine t_X8_both q 130 131 hq hs_130 hs_131 ?_
      refine ev_eqi (w := mBo (I 123) (mSn 1 (I 126) 1) (mSn 1 (I 126) 0) q) rfl ?_
      refine ev_i2l (pc' := 199) (v := Int32.toInt64 (mBo (I 123) (mSn 1 (I 126) 1) (mSn 1 (I 126) 0) q)) dX8_layCut_198 rfl rfl ?_
      refine ev_last (pc' := 200) (j := 4) (L' := (ma_up L 120 (ma_up (ma_up (ma_up (ma_up (L 120) 0 (Int32.toInt64 (mBo (I 123) (mSn 1 (I 126) 0) (mSn 1 (I 126) 0) q))) 1 (Int32.toInt64 (mBo (I 123) (mSn 1 (I 126) 0) (mSn 1 (I 126) 1) q))) 2 (Int32.toInt64 (mBo (I 123) (mSn 1 (I 126) 0) (mSn 1 (I 126) 2) q))) 4 (Int32.toInt64 (mBo (I 123) (mSn 1 (I 126) 1) (mSn 1 (I 126) 0) q))))) dX8_layCut_199 rfl hs_120 rfl (Nat.le_of_ble_eq_true rfl) (Nat.le_of_ble_eq_true rfl) (ma_up_up _ _ _ _) ?_
      refine ev_iinc (pc' := 203) (v := 1) (lv' := [some (.ref 115), some (.int (nI q)), some (.int 1), some (.int 3), some (.int 1), some (.int 1), some (.int 4)]) dX8_layCut_200 rfl rfl (by decide) (Nat.le_of_ble_eq_true rfl) rfl rfl ?_
      refine ev_goto (tgt := 115) dX8_layCut_203 rfl ?_
      refine ev_iload (pc' := 117) dX8_layCut_115 rfl rfl ?_
      refine ev_iconst (pc' := 118) (v := 3) dX8_layCut_117 rfl ki_3 ?_
      refine ev_icmp_ge (tgt := 206) (pc' := 121) dX8_layCut_118 rfl rfl (fun h => absurd h (by decide)) (fun _ => ?_)
      refine ev_iconst (pc' := 122) (v := 0) dX8_layCut_121 rfl ki_0 ?_
      refine ev_istore (pc' := 124) (lv' := [some (.ref 115), some (.int (nI q)), some (.int 1), some (.int 3), some (.int 1), some (.int 1), some (.int 0)]) dX8_layCut_122 rfl (Nat.le_of_ble_eq_true rfl) rfl rfl ?_
      refine ev_iload (pc' := 126) dX8_layCut_124 rfl rfl ?_
      refine ev_iconst (pc' := 127) (v := 4) dX8_layCut_126 rfl ki_4 ?_
      refine ev_icmp_ge (tgt := 174) (pc' := 130) dX8_layCut_127 rfl rfl (fun h => absurd h (by decide)) (fun _ => ?_)
      refine ev_aload_n (pc' := 131) (i := 0) dX8_layCut_130 rfl rfl rfl ?_
      refine ev_getR (pc' := 134) fo_X8_58 dX8_layCut_131 rfl hs_115 rfl rf_115_21 ?_
      refine ev_iload (pc' := 136) dX8_layCut_134 rfl rfl ?_
      refine ev_aload_n (pc' := 137) (i := 0) dX8_layCut_136 rfl rfl rfl ?_
      refine ev_getR (pc' := 140) fo_X8_55 dX8_layCut_137 rfl hs_115 rfl rf_115_20 ?_
      refine ev_iconst (pc' := 141) (v := 4) dX8_layCut_140 rfl ki_4 ?_
      refine ev_iload (pc' := 143) dX8_layCut_141 rfl rfl ?_
      refine ev_imul (pc' := 144) (v := 4) dX8_layCut_143 rfl (by decide) ?_
      refine ev_iload (pc' := 146) dX8_layCut_144 rfl rfl ?_
      refine ev_iadd (pc' := 147) (v := 4) dX8_layCut_146 rfl (by decide) ?_
      refine ev_iald (pc' := 148) (j := 4) (v := 0) dX8_layCut_147 rfl hs_129 rfl (Nat.le_of_ble_eq_true rfl) (Nat.le_of_ble_eq_true rfl) rfl ?_
      refine ev_iast (pc' := 149) (j := 0) (I' := (ma_up (ma_up (ma_up I 129 (ma_up (ma_up (ma_up (ma_up (ma_up (ma_up (ma_up (ma_up (ma_up (ma_up (ma_up (ma_up (I 129) 0 ((I 126) 1)) 1 (-((I 126) 0))) 2 0) 3 0) 4 0) 5 (-((I 126) 2))) 6 ((I 126) 1)) 7 0) 8 0) 9 (-((I 126) 3))) 10 0) 11 ((I 126) 1))) 130 (ma_up (ma_up (ma_up (ma_up (I 130) 0 0) 1 (-((I 126) 2))) 2 ((I 126) 1)) 3 0)) 131 (ma_up (ma_up (ma_up (ma_up (I 131) 0 ((I 126) 1)) 1 (-((I 126) 0))) 2 0) 3 0))) dX8_layCut_148 rfl hs_130 rfl (Nat.le_of_ble_eq_true rfl) (Nat.le_of_ble_eq_true rfl) ((congrArg (ma_up _ 130) ((ma_up_comm _ (show 0 ≠ 3 from (by decide)) _ _).trans (congrArg (fun f => ma_up f 3 _) ((ma_up_comm _ (show 0 ≠ 2 from (by decide)) _ _).trans (congrArg (fun f => ma_up f 2 _) ((ma_up_comm _ (show 0 ≠ 1 from (by decide)) _ _).trans (congrArg (fun f => ma_up f 1 _) (ma_up_up _ _ _ _)))))))).trans ((ma_up_comm _ (show 130 ≠ 131 from (by decide)) _ _).trans (congrArg (fun f => ma_up f 131 _) (ma_up_up _ _ _ _)))) ?_
      refine ev_aload_n (pc' := 150) (i := 0) dX8_layCut_149 rfl rfl rfl ?_
      refine ev_getR (pc' := 153) fo_X8_61 dX8_layCut_150 rfl hs_115 rfl rf_115_22 ?_
      refine ev_iload (pc' := 155) dX8_layCut_153 rfl rfl ?_
      refine ev_aload_n (pc' := 156) (i := 0) dX8_layCut_155 rfl rfl rfl ?_
      refine ev_getR (pc' := 159) fo_X8_55 dX8_layCut_156 rfl hs_115 rfl rf_115_20 ?_
      refine ev_iconst (pc' := 160) (v := 4) dX8_layCut_159 rfl ki_4 ?_
      refine ev_iload (pc' := 162) dX8_layCut_160 rfl rfl ?_
      refine ev_imul (pc' := 163) (v := 4) dX8_layCut_162 rfl (by decide) ?_
      refine ev_iload (pc' := 165) dX8_layCut_163 rfl rfl ?_
      refine ev_iadd (pc' := 166) (v := 4) dX8_layCut_165 rfl (by decide) ?_
      refine ev_iald (pc' := 167) (j := 4) (v := 0) dX8_layCut_166 rfl hs_129 rfl (Nat.le_of_ble_eq_true rfl) (Nat.le_of_ble_eq_true rfl) rfl ?_
      refine ev_iast (pc' := 168) (j := 0) (I' := (ma_up (ma_up (ma_up I 129 (ma_up (ma_up (ma_up (ma_up (ma_up (ma_up (ma_up (ma_up (ma_up (ma_up (ma_up (ma_up (I 129) 0 ((I 126) 1)) 1 (-((I 126) 0))) 2 0) 3 0) 4 0) 5 (-((I 126) 2))) 6 ((I 126) 1)) 7 0) 8 0) 9 (-((I 126) 3))) 10 0) 11 ((I 126) 1))) 130 (ma_up (ma_up (ma_up (ma_up (I 130) 0 0) 1 (-((I 126) 2))) 2 ((I 126) 1)) 3 0)) 131 (ma_up (ma_up (ma_up (ma_up (I 131) 0 0) 1 (-((I 126) 0))) 2 0) 3 0))) dX8_layCut_167 rfl hs_131 rfl (Nat.le_of_ble_eq_true rfl) (Nat.le_of_ble_eq_true rfl) ((congrArg (ma_up _ 131) ((ma_up_comm _ (show 0 ≠ 3 from (by decide)) _ _).trans (congrArg (fun f => ma_up f 3 _) ((ma_up_comm _ (show 0 ≠ 2 from (by decide)) _ _).trans (congrArg (fun f => ma_up f 2 _) ((ma_up_comm _ (show 0 ≠ 1 from (by decide)) _ _).trans (congrArg (fun f => ma_up f 1 _) (ma_up_up _ _ _ _)))))))).trans (ma_up_up _ _ _ _)) ?_
      refine ev_iinc (pc' := 171) (v := 1) (lv' := [some (.ref 115), some (.int (nI q)), some (.int 1), some (.int 3), some (.int 1), some (.int 1), some (.int 1)]) dX8_layCut_168 rfl rfl (by decide) (Nat.le_of_ble_eq_true rfl) rfl rfl ?_
      refine ev_goto (tgt := 124) dX8_layCut_171 rfl ?_
      refine ev_iload (pc' := 126) dX8_layCut_124 rfl rfl ?_
      refine ev_iconst (pc' := 127) (v := 4) dX8_layCut_126 rfl ki_4 ?_
      refine ev_icmp_ge (tgt := 174) (pc' := 130) dX8_layCut_127 rfl rfl (fun h => absurd h (by decide)) (fun _ => ?_)
      refine ev_aload_n (pc' := 131) (i := 0) dX8_layCut_130 rfl rfl rfl ?_
      refine ev_getR (pc' := 134) fo_X8_58 dX8_layCut_131 rfl hs_115 rfl rf_115_21 ?_
      refine ev_iload (pc' := 136) dX8_layCut_134 rfl rfl ?_
      refine ev_aload_n (pc' := 137) (i := 0) dX8_layCut_136 rfl rfl rfl ?_
      refine ev_getR (pc' := 140) fo_X8_55 dX8_layCut_137 rfl hs_115 rfl rf_115_20 ?_
      refine ev_iconst (pc' := 141) (v := 4) dX8_layCut_140 rfl ki_4 ?_
      refine ev_iload (pc' := 143) dX8_layCut_141 rfl rfl ?_
      refine ev_imul (pc' := 144) (v := 4) dX8_layCut_143 rfl (by decide) ?_
      refine ev_iload (pc' := 146) dX8_layCut_144 rfl rfl ?_
      refine ev_iadd (pc' := 147) (v := 5) dX8_layCut_146 rfl (by decide) ?_
      refine ev_iald (pc' := 148) (j := 5) (v := -((I 126) 2)) dX8_layCut_147 rfl hs_129 rfl (Nat.le_of_ble_eq_true rfl) (Nat.le_of_ble_eq_true rfl) rfl ?_
      refine ev_iast (pc' := 149) (j := 1) (I' := (ma_up (ma_up (ma_up I 129 (ma_up (ma_up (ma_up (ma_up (ma_up (ma_up (ma_up (ma_up (ma_up (ma_up (ma_up (ma_up (I 129) 0 ((I 126) 1)) 1 (-((I 126) 0))) 2 0) 3 0) 4 0) 5 (-((I 126) 2))) 6 ((I 126) 1)) 7 0) 8 0) 9 (-((I 126) 3))) 10 0) 11 ((I 126) 1))) 130 (ma_up (ma_up (ma_up (ma_up (I 130) 0 0) 1 (-((I 126) 2))) 2 ((I 126) 1)) 3 0)) 131 (ma_up (ma_up (ma_up (ma_up (I 131) 0 0) 1 (-((I 126) 0))) 2 0) 3 0))) dX8_layCut_148 rfl hs_130 rfl (Nat.le_of_ble_eq_true rfl) (Nat.le_of_ble_eq_true rfl) ((congrArg (ma_up _ 130) ((ma_up_comm _ (show 1 ≠ 3 from (by decide)) _ _).trans (congrArg (fun f => ma_up f 3 _) ((ma_up_comm _ (show 1 ≠ 2 from (by decide)) _ _).trans (congrArg (fun f => ma_up f 2 _) (ma_up_up _ _ _ _)))))).trans ((ma_up_comm _ (show 130 ≠ 131 from (by decide)) _ _).trans (congrArg (fun f => ma_up f 131 _) (ma_up_up _ _ _ _)))) ?_
      refine ev_aload_n (pc' := 150) (i := 0) dX8_layCut_149 rfl rfl rfl ?_
      refine ev_getR (pc' := 153) fo_X8_61 dX8_layCut_150 rfl hs_115 rfl rf_115_22 ?_
      refine ev_iload (pc' := 155) dX8_layCut_153 rfl rfl ?_
      refine ev_aload_n (pc' := 156) (i := 0) dX8_layCut_155 rfl rfl rfl ?_
      refine ev_getR (pc' := 159) fo_X8_55 dX8_layCut_156 rfl hs_115 rfl rf_115_20 ?_
      refine ev_iconst (pc' := 160) (v := 4) dX8_layCut_159 rfl ki_4 ?_
      refine ev_iload (pc' := 162) dX8_layCut_160 rfl rfl ?_
      refine ev_imul (pc' := 163) (v := 4) dX8_layCut_162 rfl (by decide) ?_
      refine ev_iload (pc' := 165) dX8_layCut_163 rfl rfl ?_
      refine ev_iadd (pc' := 166) (v := 5) dX8_layCut_165 rfl (by decide) ?_
      refine ev_iald (pc' := 167) (j := 5) (v := -((I 126) 2)) dX8_layCut_166 rfl hs_129 rfl (Nat.le_of_ble_eq_true rfl) (Nat.le_of_ble_eq_true rfl) rfl ?_
      refine ev_iast (pc' := 168) (j := 1) (I' := (ma_up (ma_up (ma_up I 129 (ma_up (ma_up (ma_up (ma_up (ma_up (ma_up (ma_up (ma_up (ma_up (ma_up (ma_up (ma_up (I 129) 0 ((I 126) 1)) 1 (-((I 126) 0))) 2 0) 3 0) 4 0) 5 (-((I 126) 2))) 6 ((I 126) 1)) 7 0) 8 0) 9 (-((I 126) 3))) 10 0) 11 ((I 126) 1))) 130 (ma_up (ma_up (ma_up (ma_up (I 130) 0 0) 1 (-((I 126) 2))) 2 ((I 126) 1)) 3 0)) 131 (ma_up (ma_up (ma_up (ma_up (I 131) 0 0) 1 (-((I 126) 2))) 2 0) 3 0))) dX8_layCut_167 rfl hs_131 rfl (Nat.le_of_ble_eq_true rfl) (Nat.le_of_ble_eq_true rfl) ((congrArg (ma_up _ 131) ((ma_up_comm _ (show 1 ≠ 3 from (by decide)) _ _).trans (congrArg (fun f => ma_up f 3 _) ((ma_up_comm _ (show 1 ≠ 2 from (by decide)) _ _).trans (congrArg (fun f => ma_up f 2 _) (ma_up_up _ _ _ _)))))).trans (ma_up_up _ _ _ _)) ?_
      refine ev_iinc (pc' := 171) (v := 2) (lv' := [some (.ref 115), some (.int (nI q)), some (.int 1), some (.int 3), some (.int 1), some (.int 1), some (.int 2)]) dX8_layCut_168 rfl rfl (by decide) (Nat.le_of_ble_eq_true rfl) rfl rfl ?_
      refine ev_goto (tgt := 124) dX8_layCut_171 rfl ?_
      refine ev_iload (pc' := 126) dX8_layCut_124 rfl rfl ?_
      refine ev_iconst (pc' := 127) (v := 4) dX8_layCut_126 rfl ki_4 ?_
      refine ev_icmp_ge (tgt := 174) (pc' := 130) dX8_layCut_127 rfl rfl (fun h => absurd h (by decide)) (fun _ => ?_)
      refine ev_aload_n (pc' := 131) (i := 0) dX8_layCut_130 rfl rfl rfl ?_
      refine ev_getR (pc' := 134) fo_X8_58 dX8_layCut_131 rfl hs_115 rfl rf_115_21 ?_
      refine ev_iload (pc' := 136) dX8_layCut_134 rfl rfl ?_
      refine ev_aload_n (pc' := 137) (i := 0) dX8_layCut_136 rfl rfl rfl ?_
      refine ev_getR (pc' := 140) fo_X8_55 dX8_layCut_137 rfl hs_115 rfl rf_115_20 ?_
      refine ev_iconst (pc' := 141) (v := 4) dX8_layCut_140 rfl ki_4 ?_
      refine ev_iload (pc' := 143) dX8_layCut_141 rfl rfl ?_
      refine ev_imul (pc' := 144) (v := 4) dX8_layCut_143 rfl (by decide) ?_
      refine ev_iload (pc' := 146) dX8_layCut_144 rfl rfl ?_
      refine ev_iadd (pc' := 147) (v := 6) dX8_layCut_146 rfl (by decide) ?_
      refine ev_iald (pc' := 148) (j := 6) (v := (I 126) 1) dX8_layCut_147 rfl hs_129 rfl (Nat.le_of_ble_eq_true rfl) (Nat.le_of_ble_eq_true rfl) rfl ?_
      refine ev_iast (pc' := 149) (j := 2) (I' := (ma_up (ma_up (ma_up I 129 (ma_up (ma_up (ma_up (ma_up (ma_up (ma_up (ma_up (ma_up (ma_up (ma_up (ma_up (ma_up (I 129) 0 ((I 126) 1)) 1 (-((I 126) 0))) 2 0) 3 0) 4 0) 5 (-((I 126) 2))) 6 ((I 126) 1)) 7 0) 8 0) 9 (-((I 126) 3))) 10 0) 11 ((I 126) 1))) 130 (ma_up (ma_up (ma_up (ma_up (I 130) 0 0) 1 (-((I 126) 2))) 2 ((I 126) 1)) 3 0)) 131 (ma_up (ma_up (ma_up (ma_up (I 131) 0 0) 1 (-((I 126) 2))) 2 0) 3 0))) dX8_layCut_148 rfl hs_130 rfl (Nat.le_of_ble_eq_true rfl) (Nat.le_of_ble_eq_true rfl) ((congrArg (ma_up _ 130) ((ma_up_comm _ (show 2 ≠ 3 from (by decide)) _ _).trans (congrArg (fun f => ma_up f 3 _) (ma_up_up _ _ _ _)))).trans ((ma_up_comm _ (show 130 ≠ 131 from (by decide)) _ _).trans (congrArg (fun f => ma_up f 131 _) (ma_up_up _ _ _ _)))) ?_
      refine ev_aload_n (pc' := 150) (i := 0) dX8_layCut_149 rfl rfl rfl ?_
      refine ev_getR (pc' := 153) fo_X8_61 dX8_layCut_150 rfl hs_115 rfl rf_115_22 ?_
      refine ev_iload (pc' := 155) dX8_layCut_153 rfl rfl ?_
      refine ev_aload_n (pc' := 156) (i := 0) dX8_layCut_155 rfl rfl rfl ?_
      refine ev_getR (pc' := 159) fo_X8_55 dX8_layCut_156 rfl hs_115 rfl rf_115_20 ?_
      refine ev_iconst (pc' := 160) (v := 4) dX8_layCut_159 rfl ki_4 ?_
      refine ev_iload (pc' := 162) dX8_layCut_160 rfl rfl ?_
      refine ev_imul (pc' := 163) (v := 4) dX8_layCut_162 rfl (by decide) ?_
      refine ev_iload (pc' := 165) dX8_layCut_163 rfl rfl ?_
      refine ev_iadd (pc' := 166) (v := 6) dX8_layCut_165 rfl (by decide) ?_
      refine ev_iald (pc' := 167) (j := 6) (v := (I 126) 1) dX8_layCut_166 rfl hs_129 rfl (Nat.le_of_ble_eq_true rfl) (Nat.le_of_ble_eq_true rfl) rfl ?_
      refine ev_iast (pc' := 168) (j := 2) (I' := (ma_up (ma_up (ma_up I 129 (ma_up (ma_up (ma_up (ma_up (ma_up (ma_up (ma_up (ma_up (ma_up (ma_up (ma_up (ma_up (I 129) 0 ((I 126) 1)) 1 (-((I 126) 0))) 2 0) 3 0) 4 0) 5 (-((I 126) 2))) 6 ((I 126) 1)) 7 0) 8 0) 9 (-((I 126) 3))) 10 0) 11 ((I 126) 1))) 130 (ma_up (ma_up (ma_up (ma_up (I 130) 0 0) 1 (-((I 126) 2))) 2 ((I 126) 1)) 3 0)) 131 (ma_up (ma_up (ma_up (ma_up (I 131) 0 0) 1 (-((I 126) 2))) 2 ((I 126) 1)) 3 0))) dX8_layCut_167 rfl hs_131 rfl (Nat.le_of_ble_eq_true rfl) (Nat.le_of_ble_eq_true rfl) ((congrArg (ma_up _ 131) ((ma_up_comm _ (show 2 ≠ 3 from (by decide)) _ _).trans (congrArg (fun f => ma_up f 3 _) (ma_up_up _ _ _ _)))).trans (ma_up_up _ _ _ _)) ?_
      refine ev_iinc (pc' := 171) (v := 3) (lv' := [some (.ref 115), some (.int (nI q)), some (.int 1), some (.int 3), some (.int 1), some (.int 1), some (.int 3)]) dX8_layCut_168 rfl rfl (by decide) (Nat.le_of_ble_eq_true rfl) rfl rfl ?_
      refine ev_goto (tgt := 124) dX8_layCut_171 rfl ?_
      refine ev_iload (pc' := 126) dX8_layCut_124 rfl rfl ?_
      refine ev_iconst (pc' := 127) (v := 4) dX8_layCut_126 rfl ki_4 ?_
      refine ev_icmp_ge (tgt := 174) (pc' := 130) dX8_layCut_127 rfl rfl (fun h => absurd h (by decide)) (fun _ => ?_)
      refine ev_aload_n (pc' := 131) (i := 0) dX8_layCut_130 rfl rfl rfl ?_
      refine ev_getR (pc' := 134) fo_X8_58 dX8_layCut_131 rfl hs_115 rfl rf_115_21 ?_
      refine ev_iload (pc' := 136) dX8_layCut_134 rfl rfl ?_
      refine ev_aload_n (pc' := 137) (i := 0) dX8_layCut_136 rfl rfl rfl ?_
      refine ev_getR (pc' := 140) fo_X8_55 dX8_layCut_137 rfl hs_115 rfl rf_115_20 ?_
      refine ev_iconst (pc' := 141) (v := 4) dX8_layCut_140 rfl ki_4 ?_
      refine ev_iload (pc' := 143) dX8_layCut_141 rfl rfl ?_
      refine ev_imul (pc' := 144) (v := 4) dX8_layCut_143 rfl (by decide) ?_
      refine ev_iload (pc' := 146) dX8_layCut_144 rfl rfl ?_
      refine ev_iadd (pc' := 147) (v := 7) dX8_layCut_146 rfl (by decide) ?_
      refine ev_iald (pc' := 148) (j := 7) (v := 0) dX8_layCut_147 rfl hs_129 rfl (Nat.le_of_ble_eq_true rfl) (Nat.le_of_ble_eq_true rfl) rfl ?_
      refine ev_iast (pc' := 149) (j := 3) (I' := (ma_up (ma_up (ma_up I 129 (ma_up (ma_up (ma_up (ma_up (ma_up (ma_up (ma_up (ma_up (ma_up (ma_up (ma_up (ma_up (I 129) 0 ((I 126) 1)) 1 (-((I 126) 0))) 2 0) 3 0) 4 0) 5 (-((I 126) 2))) 6 ((I 126) 1)) 7 0) 8 0) 9 (-((I 126) 3))) 10 0) 11 ((I 126) 1))) 130 (ma_up (ma_up (ma_up (ma_up (I 130) 0 0) 1 (-((I 126) 2))) 2 ((I 126) 1)) 3 0)) 131 (ma_up (ma_up (ma_up (ma_up (I 131) 0 0) 1 (-((I 126) 2))) 2 ((I 126) 1)) 3 0))) dX8_layCut_148 rfl hs_130 rfl (Nat.le_of_ble_eq_true rfl) (Nat.le_of_ble_eq_true rfl) ((congrArg (ma_up _ 130) (ma_up_up _ _ _ _)).trans ((ma_up_comm _ (show 130 ≠ 131 from (by decide)) _ _).trans (congrArg (fun f => ma_up f 131 _) (ma_up_up _ _ _ _)))) ?_
      refine ev_aload_n (pc' := 150) (i := 0) dX8_layCut_149 rfl rfl rfl ?_
      refine ev_getR (pc' := 153) fo_X8_61 dX8_layCut_150 rfl hs_115 rfl rf_115_22 ?_
      refine ev_iload (pc' := 155) dX8_layCut_153 rfl rfl ?_
      refine ev_aload_n (pc' := 156) (i := 0) dX8_layCut_155 rfl rfl rfl ?_
      refine ev_getR (pc' := 159) fo_X8_55 dX8_layCut_156 rfl hs_115 rfl rf_115_20 ?_
      refine ev_iconst (pc' := 160) (v := 4) dX8_layCut_159 rfl ki_4 ?_
      refine ev_iload (pc' := 162) dX8_layCut_160 rfl rfl ?_
      refine ev_imul (pc' := 163) (v := 4) dX8_layCut_162 rfl (by decide) ?_
      refine ev_iload (pc' := 165) dX8_layCut_163 rfl rfl ?_
      refine ev_iadd (pc' := 166) (v := 7) dX8_layCut_165 rfl (by decide) ?_
      refine ev_iald (pc' := 167) (j := 7) (v := 0) dX8_layCut_166 rfl hs_129 rfl (Nat.le_of_ble_eq_true rfl) (Nat.le_of_ble_eq_true rfl) rfl ?_
      refine ev_iast (pc' := 168) (j := 3) (I' := (ma_up (ma_up (ma_up I 129 (ma_up (ma_up (ma_up (ma_up (ma_up (ma_up (ma_up (ma_up (ma_up (ma_up (ma_up (ma_up (I 129) 0 ((I 126) 1)) 1 (-((I 126) 0))) 2 0) 3 0) 4 0) 5 (-((I 126) 2))) 6 ((I 126) 1)) 7 0) 8 0) 9 (-((I 126) 3))) 10 0) 11 ((I 126) 1))) 130 (ma_up (ma_up (ma_up (ma_up (I 130) 0 0) 1 (-((I 126) 2))) 2 ((I 126) 1)) 3 0)) 131 (ma_up (ma_up (ma_up (ma_up (I 131) 0 0) 1 (-((I 126) 2))) 2 ((I 126) 1)) 3 0))) dX8_layCut_167 rfl hs_131 rfl (Nat.le_of_ble_eq_true rfl) (Nat.le_of_ble_eq_true rfl) ((congrArg (ma_up _ 131) (ma_up_up _ _ _ _)).trans (ma_up_up _ _ _ _)) ?_
      refine ev_iinc (pc' := 171) (v := 4) (lv' := [some (.ref 115), some (.int (nI q)), some (.int 1), some (.int 3), some (.int 1), some (.int 1), some (.int 4)]) dX8_layCut_168 rfl rfl (by decide) (Nat.le_of_ble_eq_true rfl) rfl rfl ?_
      refine ev_goto (tgt := 124) dX8_layCut_171 rfl ?_
      refine ev_iload (pc' := 126) dX8_layCut_124 rfl rfl ?_
      refine ev_iconst (pc' := 127) (v := 4) dX8_layCut_126 rfl ki_4 ?_
      refine ev_icmp_ge (tgt := 174) (pc' := 130) dX8_layCut_127 rfl rfl (fun _ => ?_) (fun h => absurd (by decide) h)
      refine ev_aload_n (pc' := 175) (i := 0) dX8_layCut_174 rfl rfl rfl ?_
      refine ev_getR (pc' := 178) fo_X8_26 dX8_layCut_175 rfl hs_115 rfl rf_115_8 ?_
      refine ev_iconst (pc' := 179) (v := 4) dX8_layCut_178 rfl ki_4 ?_
      refine ev_iload (pc' := 181) dX8_layCut_179 rfl rfl ?_
      refine ev_imul (pc' := 182) (v := 4) dX8_layCut_181 rfl (by decide) ?_
      refine ev_iload (pc' := 184) dX8_layCut_182 rfl rfl ?_
      refine ev_iadd (pc' := 185) (v := 5) dX8_layCut_184 rfl (by decide) ?_
      refine ev_aload_n (pc' := 186) (i := 0) dX8_layCut_185 rfl rfl rfl ?_
      refine ev_iload_n (pc' := 187) (i := 1) dX8_layCut_186 rfl rfl rfl ?_
      refine ev_aload_n (pc' := 188) (i := 0) dX8_layCut_187 rfl rfl rfl ?_
      refine ev_getR (pc' := 191) fo_X8_58 dX8_layCut_188 rfl hs_115 rfl rf_115_21 ?_
      refine ev_aload_n (pc' := 192) (i := 0) dX8_layCut_191 rfl rfl rfl ?_
      refine ev_getR (pc' := 195) fo_X8_61 dX8_layCut_192 rfl hs_115 rfl rf_115_22 ?_
      refine ev_callV (pc' := 198) (rm' := rX8_both) (b := 115) (av := [.int (nI q), .ref 130, .ref 131]) (rest := [.int 5, .ref 120]) co_X8_241 ci_X8_both cv_X8_both dX8_layCut_195 rfl hs_115 hb_X8 rfl rfl (Nat.le_of_ble_eq_true rfl) ⟨(Nat.le_of_ble_eq_true rfl), (Nat.le_of_ble_eq_true rfl)⟩ ⟨(Nat.le_of_ble_eq_true rfl), (Nat.le_of_ble_eq_true rfl)⟩ ?_
      refine t_X8_both q 130 131 hq hs_130 hs_131 ?_
      refine ev_eqi (w := mBo (I 123) (mSn 1 (I 126) 1) (mSn 1 (I 126) 1) q) rfl ?_
      refine ev_i2l (pc' := 199) (v := Int32.toInt64 (mBo (I 123) (mSn 1 (I 126) 1) (mSn 1 (I 126) 1) q)) dX8_layCut_198 rfl rfl ?_
      refine ev_last (pc' := 200) (j := 5) (L' := (ma_up L 120 (ma_up (ma_up (ma_up (ma_up (ma_up (L 120) 0 (Int32.toInt64 (mBo (I 123) (mSn 1 (I 126) 0) (mSn 1 (I 126) 0) q))) 1 (Int32.toInt64 (mBo (I 123) (mSn 1 (I 126) 0) (mSn 1 (I 126) 1) q))) 2 (Int32.toInt64 (mBo (I 123) (mSn 1 (I 126) 0) (mSn 1 (I 126) 2) q))) 4 (Int32.toInt64 (mBo (I 123) (mSn 1 (I 126) 1) (mSn 1 (I 126) 0) q))) 5 (Int32.toInt64 (mBo (I 123) (mSn 1 (I 126) 1) (mSn 1 (I 126) 1) q))))) dX8_layCut_199 rfl hs_120 rfl (Nat.le_of_ble_eq_true rfl) (Nat.le_of_ble_eq_true rfl) (ma_up_up _ _ _ _) ?_
      refine ev_iinc (pc' := 203) (v := 2) (lv' := [some (.ref 115), some (.int (nI q)), some (.int 1), some (.int 3), some (.int 1), some (.int 2), some (.int 4)]) dX8_layCut_200 rfl rfl (by decide) (Nat.le_of_ble_eq_true rfl) rfl rfl ?_
      refine ev_goto (tgt := 115) dX8_layCut_203 rfl ?_
      refine ev_iload (pc' := 117) dX8_layCut_115 rfl rfl ?_
      refine ev_iconst (pc' := 118) (v := 3) dX8_layCut_117 rfl ki_3 ?_
      refine ev_icmp_ge (tgt := 206) (pc' := 121) dX8_layCut_118 rfl rfl (fun h => absurd h (by decide)) (fun _ => ?_)
      refine ev_iconst (pc' := 122) (v := 0) dX8_layCut_121 rfl ki_0 ?_
      refine ev_istore (pc' := 124) (lv' := [some (.ref 115), some (.int (nI q)), some (.int 1), some (.int 3), some (.int 1), some (.int 2), some (.int 0)]) dX8_layCut_122 rfl (Nat.le_of_ble_eq_true rfl) rfl rfl ?_
      refine ev_iload (pc' := 126) dX8_layCut_124 rfl rfl ?_
      refine ev_iconst (pc' := 127) (v := 4) dX8_layCut_126 rfl ki_4 ?_
      refine ev_icmp_ge (tgt := 174) (pc' := 130) dX8_layCut_127 rfl rfl (fun h => absurd h (by decide)) (fun _ => ?_)
      refine ev_aload_n (pc' := 131) (i := 0) dX8_layCut_130 rfl rfl rfl ?_
      refine ev_getR (pc' := 134) fo_X8_58 dX8_layCut_131 rfl hs_115 rfl rf_115_21 ?_
      refine ev_iload (pc' := 136) dX8_layCut_134 rfl rfl ?_
      refine ev_aload_n (pc' := 137) (i := 0) dX8_layCut_136 rfl rfl rfl ?_
      refine ev_getR (pc' := 140) fo_X8_55 dX8_layCut_137 rfl hs_115 rfl rf_115_20 ?_
      refine ev_iconst (pc' := 141) (v := 4) dX8_layCut_140 rfl ki_4 ?_
      refine ev_iload (pc' := 143) dX8_layCut_141 rfl rfl ?_
      refine ev_imul (pc' := 144) (v := 4) dX8_layCut_143 rfl (by decide) ?_
      refine ev_iload (pc' := 146) dX8_layCut_144 rfl rfl ?_
      refine ev_iadd (pc' := 147) (v := 4) dX8_layCut_146 rfl (by decide) ?_
      refine ev_iald (pc' := 148) (j := 4) (v := 0) dX8_layCut_147 rfl hs_129 rfl (Nat.le_of_ble_eq_true rfl) (Nat.le_of_ble_eq_true rfl) rfl ?_
      refine ev_iast (pc' := 149) (j := 0) (I' := (ma_up (ma_up (ma_up I 129 (ma_up (ma_up (ma_up (ma_up (ma_up (ma_up (ma_up (ma_up (ma_up (ma_up (ma_up (ma_up (I 129) 0 ((I 126) 1)) 1 (-((I 126) 0))) 2 0) 3 0) 4 0) 5 (-((I 126) 2))) 6 ((I 126) 1)) 7 0) 8 0) 9 (-((I 126) 3))) 10 0) 11 ((I 126) 1))) 130 (ma_up (ma_up (ma_up (ma_up (I 130) 0 0) 1 (-((I 126) 2))) 2 ((I 126) 1)) 3 0)) 131 (ma_up (ma_up (ma_up (ma_up (I 131) 0 0) 1 (-((I 126) 2))) 2 ((I 126) 1)) 3 0))) dX8_layCut_148 rfl hs_130 rfl (Nat.le_of_ble_eq_true rfl) (Nat.le_of_ble_eq_true rfl) ((congrArg (ma_up _ 130) ((ma_up_comm _ (show 0 ≠ 3 from (by decide)) _ _).trans (congrArg (fun f => ma_up f 3 _) ((ma_up_comm _ (show 0 ≠ 2 from (by decide)) _ _).trans (congrArg (fun f => ma_up f 2 _) ((ma_up_comm _ (show 0 ≠ 1 from (by decide)) _ _).trans (congrArg (fun f => ma_up f 1 _) (ma_up_up _ _ _ _)))))))).trans ((ma_up_comm _ (show 130 ≠ 131 from (by decide)) _ _).trans (congrArg (fun f => ma_up f 131 _) (ma_up_up _ _ _ _)))) ?_
      refine ev_aload_n (pc' := 150) (i := 0) dX8_layCut_149 rfl rfl rfl ?_
      refine ev_getR (pc' := 153) fo_X8_61 dX8_layCut_150 rfl hs_115 rfl rf_115_22 ?_
      refine ev_iload (pc' := 155) dX8_layCut_153 rfl rfl ?_
      refine ev_aload_n (pc' := 156) (i := 0) dX8_layCut_155 rfl rfl rfl ?_
      refine ev_getR (pc' := 159) fo_X8_55 dX8_layCut_156 rfl hs_115 rfl rf_115_20 ?_
      refine ev_iconst (pc' := 160) (v := 4) dX8_layCut_159 rfl ki_4 ?_
      refine ev_iload (pc' := 162) dX8_layCut_160 rfl rfl ?_
      refine ev_imul (pc' := 163) (v := 8) dX8_layCut_162 rfl (by decide) ?_
      refine ev_iload (pc' := 165) dX8_layCut_163 rfl rfl ?_
      refine ev_iadd (pc' := 166) (v := 8) dX8_layCut_165 rfl (by decide) ?_
      refine ev_iald (pc' := 167) (j := 8) (v := 0) dX8_layCut_166 rfl hs_129 rfl (Nat.le_of_ble_eq_true rfl) (Nat.le_of_ble_eq_true rfl) rfl ?_
      refine ev_iast (pc' := 168) (j := 0) (I' := (ma_up (ma_up (ma_up I 129 (ma_up (ma_up (ma_up (ma_up (ma_up (ma_up (ma_up (ma_up (ma_up (ma_up (ma_up (ma_up (I 129) 0 ((I 126) 1)) 1 (-((I 126) 0))) 2 0) 3 0) 4 0) 5 (-((I 126) 2))) 6 ((I 126) 1)) 7 0) 8 0) 9 (-((I 126) 3))) 10 0) 11 ((I 126) 1))) 130 (ma_up (ma_up (ma_up (ma_up (I 130) 0 0) 1 (-((I 126) 2))) 2 ((I 126) 1)) 3 0)) 131 (ma_up (ma_up (ma_up (ma_up (I 131) 0 0) 1 (-((I 126) 2))) 2 ((I 126) 1)) 3 0))) dX8_layCut_167 rfl hs_131 rfl (Nat.le_of_ble_eq_true rfl) (Nat.le_of_ble_eq_true rfl) ((congrArg (ma_up _ 131) ((ma_up_comm _ (show 0 ≠ 3 from (by decide)) _ _).trans (congrArg (fun f => ma_up f 3 _) ((ma_up_comm _ (show 0 ≠ 2 from (by decide)) _ _).trans (congrArg (fun f => ma_up f 2 _) ((ma_up_comm _ (show 0 ≠ 1 from (by decide)) _ _).trans (congrArg (fun f => ma_up f 1 _) (ma_up_up _ _ _ _)))))))).trans (ma_up_up _ _ _ _)) ?_
      refine ev_iinc (pc' := 171) (v := 1) (lv' := [some (.ref 115), some (.int (nI q)), some (.int 1), some (.int 3), some (.int 1), some (.int 2), some (.int 1)]) dX8_layCut_168 rfl rfl (by decide) (Nat.le_of_ble_eq_true rfl) rfl rfl ?_
      refine ev_goto (tgt := 124) dX8_layCut_171 rfl ?_
      refine ev_iload (pc' := 126) dX8_layCut_124 rfl rfl ?_
      refine ev_iconst (pc' := 127) (v := 4) dX8_layCut_126 rfl ki_4 ?_
      refine ev_icmp_ge (tgt := 174) (pc' := 130) dX8_layCut_127 rfl rfl (fun h => absurd h (by decide)) (fun _ => ?_)
      refine ev_aload_n (pc' := 131) (i := 0) dX8_layCut_130 rfl rfl rfl ?_
      refine ev_getR (pc' := 134) fo_X8_58 dX8_layCut_131 rfl hs_115 rfl rf_115_21 ?_
      refine ev_iload (pc' := 136) dX8_layCut_134 rfl rfl ?_
      refine ev_aload_n (pc' := 137) (i := 0) dX8_layCut_136 rfl rfl rfl ?_
      refine ev_getR (pc' := 140) fo_X8_55 dX8_layCut_137 rfl hs_115 rfl rf_115_20 ?_
      refine ev_iconst (pc' := 141) (v := 4) dX8_layCut_140 rfl ki_4 ?_
      refine ev_iload (pc' := 143) dX8_layCut_141 rfl rfl ?_
      refine ev_imul (pc' := 144) (v := 4) dX8_layCut_143 rfl (by decide) ?_
      refine ev_iload (pc' := 146) dX8_layCut_144 rfl rfl ?_
      refine ev_iadd (pc' := 147) (v := 5) dX8_layCut_146 rfl (by decide) ?_
      refine ev_iald (pc' := 148) (j := 5) (v := -((I 126) 2)) dX8_layCut_147 rfl hs_129 rfl (Nat.le_of_ble_eq_true rfl) (Nat.le_of_ble_eq_true rfl) rfl ?_
      refine ev_iast (pc' := 149) (j := 1) (I' := (ma_up (ma_up (ma_up I 129 (ma_up (ma_up (ma_up (ma_up (ma_up (ma_up (ma_up (ma_up (ma_up (ma_up (ma_up (ma_up (I 129) 0 ((I 126) 1)) 1 (-((I 126) 0))) 2 0) 3 0) 4 0) 5 (-((I 126) 2))) 6 ((I 126) 1)) 7 0) 8 0) 9 (-((I 126) 3))) 10 0) 11 ((I 126) 1))) 130 (ma_up (ma_up (ma_up (ma_up (I 130) 0 0) 1 (-((I 126) 2))) 2 ((I 126) 1)) 3 0)) 131 (ma_up (ma_up (ma_up (ma_up (I 131) 0 0) 1 (-((I 126) 2))) 2 ((I 126) 1)) 3 0))) dX8_layCut_148 rfl hs_130 rfl (Nat.le_of_ble_eq_true rfl) (Nat.le_of_ble_eq_true rfl) ((congrArg (ma_up _ 130) ((ma_up_comm _ (show 1 ≠ 3 from (by decide)) _ _).trans (congrArg (fun f => ma_up f 3 _) ((ma_up_comm _ (show 1 ≠ 2 from (by decide)) _ _).trans (congrArg (fun f => ma_up f 2 _) (ma_up_up _ _ _ _)))))).trans ((ma_up_comm _ (show 130 ≠ 131 from (by decide)) _ _).trans (congrArg (fun f => ma_up f 131 _) (ma_up_up _ _ _ _)))) ?_
      refine ev_aload_n (pc' := 150) (i := 0) dX8_layCut_149 rfl rfl rfl ?_
      refine ev_getR (pc' := 153) fo_X8_61 dX8_layCut_150 rfl hs_115 rfl rf_115_22 ?_
      refine ev_iload (pc' := 155) dX8_layCut_153 rfl rfl ?_
      refine ev_aload_n (pc' := 156) (i := 0) dX8_layCut_155 rfl rfl rfl ?_
      refine ev_getR (pc' := 159) fo_X8_55 dX8_layCut_156 rfl hs_115 rfl rf_115_20 ?_
      refine ev_iconst (pc' := 160) (v := 4) dX8_layCut_159 rfl ki_4 ?_
      refine ev_iload (pc' := 162) dX8_layCut_160 rfl rfl ?_
      refine ev_imul (pc' := 163) (v := 8) dX8_layCut_162 rfl (by decide) ?_
      refine ev_iload (pc' := 165) dX8_layCut_163 rfl rfl ?_
      refine ev_iadd (pc' := 166) (v := 9) dX8_layCut_165 rfl (by decide) ?_
      refine ev_iald (pc' := 167) (j := 9) (v := -((I 126) 3)) dX8_layCut_166 rfl hs_129 rfl (Nat.le_of_ble_eq_true rfl) (Nat.le_of_ble_eq_true rfl) rfl ?_
      refine ev_iast (pc' := 168) (j := 1) (I' := (ma_up (ma_up (ma_up I 129 (ma_up (ma_up (ma_up (ma_up (ma_up (ma_up (ma_up (ma_up (ma_up (ma_up (ma_up (ma_up (I 129) 0 ((I 126) 1)) 1 (-((I 126) 0))) 2 0) 3 0) 4 0) 5 (-((I 126) 2))) 6 ((I 126) 1)) 7 0) 8 0) 9 (-((I 126) 3))) 10 0) 11 ((I 126) 1))) 130 (ma_up (ma_up (ma_up (ma_up (I 130) 0 0) 1 (-((I 126) 2))) 2 ((I 126) 1)) 3 0)) 131 (ma_up (ma_up (ma_up (ma_up (I 131) 0 0) 1 (-((I 126) 3))) 2 ((I 126) 1)) 3 0))) dX8_layCut_167 rfl hs_131 rfl (Nat.le_of_ble_eq_true rfl) (Nat.le_of_ble_eq_true rfl) ((congrArg (ma_up _ 131) ((ma_up_comm _ (show 1 ≠ 3 from (by decide)) _ _).trans (congrArg (fun f => ma_up f 3 _) ((ma_up_comm _ (show 1 ≠ 2 from (by decide)) _ _).trans (congrArg (fun f => ma_up f 2 _) (ma_up_up _ _ _ _)))))).trans (ma_up_up _ _ _ _)) ?_
      refine ev_iinc (pc' := 171) (v := 2) (lv' := [some (.ref 115), some (.int (nI q)), some (.int 1), some (.int 3), some (.int 1), some (.int 2), some (.int 2)]) dX8_layCut_168 rfl rfl (by decide) (Nat.le_of_ble_eq_true rfl) rfl rfl ?_
      refine ev_goto (tgt := 124) dX8_layCut_171 rfl ?_
      refine ev_iload (pc' := 126) dX8_layCut_124 rfl rfl ?_
      refine ev_iconst (pc' := 127) (v := 4) dX8_layCut_126 rfl ki_4 ?_
      refine ev_icmp_ge (tgt := 174) (pc' := 130) dX8_layCut_127 rfl rfl (fun h => absurd h (by decide)) (fun _ => ?_)
      refine ev_aload_n (pc' := 131) (i := 0) dX8_layCut_130 rfl rfl rfl ?_
      refine ev_getR (pc' := 134) fo_X8_58 dX8_layCut_131 rfl hs_115 rfl rf_115_21 ?_
      refine ev_iload (pc' := 136) dX8_layCut_134 rfl rfl ?_
      refine ev_aload_n (pc' := 137) (i := 0) dX8_layCut_136 rfl rfl rfl ?_
      refine ev_getR (pc' := 140) fo_X8_55 dX8_layCut_137 rfl hs_115 rfl rf_115_20 ?_
      refine ev_iconst (pc' := 141) (v := 4) dX8_layCut_140 rfl ki_4 ?_
      refine ev_iload (pc' := 143) dX8_layCut_141 rfl rfl ?_
      refine ev_imul (pc' := 144) (v := 4) dX8_layCut_143 rfl (by decide) ?_
      refine ev_iload (pc' := 146) dX8_layCut_144 rfl rfl ?_
      refine ev_iadd (pc' := 147) (v := 6) dX8_layCut_146 rfl (by decide) ?_
      refine ev_iald (pc' := 148) (j := 6) (v := (I 126) 1) dX8_layCut_147 rfl hs_129 rfl (Nat.le_of_ble_eq_true rfl) (Nat.le_of_ble_eq_true rfl) rfl ?_
      refine ev_iast (pc' := 149) (j := 2) (I' := (ma_up (ma_up (ma_up I 129 (ma_up (ma_up (ma_up (ma_up (ma_up (ma_up (ma_up (ma_up (ma_up (ma_up (ma_up (ma_up (I 129) 0 ((I 126) 1)) 1 (-((I 126) 0))) 2 0) 3 0) 4 0) 5 (-((I 126) 2))) 6 ((I 126) 1)) 7 0) 8 0) 9 (-((I 126) 3))) 10 0) 11 ((I 126) 1))) 130 (ma_up (ma_up (ma_up (ma_up (I 130) 0 0) 1 (-((I 126) 2))) 2 ((I 126) 1)) 3 0)) 131 (ma_up (ma_up (ma_up (ma_up (I 131) 0 0) 1 (-((I 126) 3))) 2 ((I 126) 1)) 3 0))) dX8_layCut_148 rfl hs_130 rfl (Nat.le_of_ble_eq_true rfl) (Nat.le_of_ble_eq_true rfl) ((congrArg (ma_up _ 130) ((ma_up_comm _ (show 2 ≠ 3 from (by decide)) _ _).trans (congrArg (fun f => ma_up f 3 _) (ma_up_up _ _ _ _)))).trans ((ma_up_comm _ (show 130 ≠ 131 from (by decide)) _ _).trans (congrArg (fun f => ma_up f 131 _) (ma_up_up _ _ _ _)))) ?_
      refine ev_aload_n (pc' := 150) (i := 0) dX8_layCut_149 rfl rfl rfl ?_
      refine ev_getR (pc' := 153) fo_X8_61 dX8_layCut_150 rfl hs_115 rfl rf_115_22 ?_
      refine ev_iload (pc' := 155) dX8_layCut_153 rfl rfl ?_
      refine ev_aload_n (pc' := 156) (i := 0) dX8_layCut_155 rfl rfl rfl ?_
      refine ev_getR (pc' := 159) fo_X8_55 dX8_layCut_156 rfl hs_115 rfl rf_115_20 ?_
      refine ev_iconst (pc' := 160) (v := 4) dX8_layCut_159 rfl ki_4 ?_
      refine ev_iload (pc' := 162) dX8_layCut_160 rfl rfl ?_
      refine ev_imul (pc' := 163) (v := 8) dX8_layCut_162 rfl (by decide) ?_
      refine ev_iload (pc' := 165) dX8_layCut_163 rfl rfl ?_
      refine ev_iadd (pc' := 166) (v := 10) dX8_layCut_165 rfl (by decide) ?_
      refine ev_iald (pc' := 167) (j := 10) (v := 0) dX8_layCut_166 rfl hs_129 rfl (Nat.le_of_ble_eq_true rfl) (Nat.le_of_ble_eq_true rfl) rfl ?_
      refine ev_iast (pc' := 168) (j := 2) (I' := (ma_up (ma_up (ma_up I 129 (ma_up (ma_up (ma_up (ma_up (ma_up (ma_up (ma_up (ma_up (ma_up (ma_up (ma_up (ma_up (I 129) 0 ((I 126) 1)) 1 (-((I 126) 0))) 2 0) 3 0) 4 0) 5 (-((I 126) 2))) 6 ((I 126) 1)) 7 0) 8 0) 9 (-((I 126) 3))) 10 0) 11 ((I 126) 1))) 130 (ma_up (ma_up (ma_up (ma_up (I 130) 0 0) 1 (-((I 126) 2))) 2 ((I 126) 1)) 3 0)) 131 (ma_up (ma_up (ma_up (ma_up (I 131) 0 0) 1 (-((I 126) 3))) 2 0) 3 0))) dX8_layCut_167 rfl hs_131 rfl (Nat.le_of_ble_eq_true rfl) (Nat.le_of_ble_eq_true rfl) ((congrArg (ma_up _ 131) ((ma_up_comm _ (show 2 ≠ 3 from (by decide)) _ _).trans (congrArg (fun f => ma_up f 3 _) (ma_up_up _ _ _ _)))).trans (ma_up_up _ _ _ _)) ?_
      refine ev_iinc (pc' := 171) (v := 3) (lv' := [some (.ref 115), some (.int (nI q)), some (.int 1), some (.int 3), some (.int 1), some (.int 2), some (.int 3)]) dX8_layCut_168 rfl rfl (by decide) (Nat.le_of_ble_eq_true rfl) rfl rfl ?_
      refine ev_goto (tgt := 124) dX8_layCut_171 rfl ?_
      refine ev_iload (pc' := 126) dX8_layCut_124 rfl rfl ?_
      refine ev_iconst (pc' := 127) (v := 4) dX8_layCut_126 rfl ki_4 ?_
      refine ev_icmp_ge (tgt := 174) (pc' := 130) dX8_layCut_127 rfl rfl (fun h => absurd h (by decide)) (fun _ => ?_)
      refine ev_aload_n (pc' := 131) (i := 0) dX8_layCut_130 rfl rfl rfl ?_
      refine ev_getR (pc' := 134) fo_X8_58 dX8_layCut_131 rfl hs_115 rfl rf_115_21 ?_
      refine ev_iload (pc' := 136) dX8_layCut_134 rfl rfl ?_
      refine ev_aload_n (pc' := 137) (i := 0) dX8_layCut_136 rfl rfl rfl ?_
      refine ev_getR (pc' := 140) fo_X8_55 dX8_layCut_137 rfl hs_115 rfl rf_115_20 ?_
      refine ev_iconst (pc' := 141) (v := 4) dX8_layCut_140 rfl ki_4 ?_
      refine ev_iload (pc' := 143) dX8_layCut_141 rfl rfl ?_
      refine ev_imul (pc' := 144) (v := 4) dX8_layCut_143 rfl (by decide) ?_
      refine ev_iload (pc' := 146) dX8_layCut_144 rfl rfl ?_
      refine ev_iadd (pc' := 147) (v := 7) dX8_layCut_146 rfl (by decide) ?_
      refine ev_iald (pc' := 148) (j := 7) (v := 0) dX8_layCut_147 rfl hs_129 rfl (Nat.le_of_ble_eq_true rfl) (Nat.le_of_ble_eq_true rfl) rfl ?_
      refine ev_iast (pc' := 149) (j := 3) (I' := (ma_up (ma_up (ma_up I 129 (ma_up (ma_up (ma_up (ma_up (ma_up (ma_up (ma_up (ma_up (ma_up (ma_up (ma_up (ma_up (I 129) 0 ((I 126) 1)) 1 (-((I 126) 0))) 2 0) 3 0) 4 0) 5 (-((I 126) 2))) 6 ((I 126) 1)) 7 0) 8 0) 9 (-((I 126) 3))) 10 0) 11 ((I 126) 1))) 130 (ma_up (ma_up (ma_up (ma_up (I 130) 0 0) 1 (-((I 126) 2))) 2 ((I 126) 1)) 3 0)) 131 (ma_up (ma_up (ma_up (ma_up (I 131) 0 0) 1 (-((I 126) 3))) 2 0) 3 0))) dX8_layCut_148 rfl hs_130 rfl (Nat.le_of_ble_eq_true rfl) (Nat.le_of_ble_eq_true rfl) ((congrArg (ma_up _ 130) (ma_up_up _ _ _ _)).trans ((ma_up_comm _ (show 130 ≠ 131 from (by decide)) _ _).trans (congrArg (fun f => ma_up f 131 _) (ma_up_up _ _ _ _)))) ?_
      refine ev_aload_n (pc' := 150) (i := 0) dX8_layCut_149 rfl rfl rfl ?_
      refine ev_getR (pc' := 153) fo_X8_61 dX8_layCut_150 rfl hs_115 rfl rf_115_22 ?_
      refine ev_iload (pc' := 155) dX8_layCut_153 rfl rfl ?_
      refine ev_aload_n (pc' := 156) (i := 0) dX8_layCut_155 rfl rfl rfl ?_
      refine ev_getR (pc' := 159) fo_X8_55 dX8_layCut_156 rfl hs_115 rfl rf_115_20 ?_
      refine ev_iconst (pc' := 160) (v := 4) dX8_layCut_159 rfl ki_4 ?_
      refine ev_iload (pc' := 162) dX8_layCut_160 rfl rfl ?_
      refine ev_imul (pc' := 163) (v := 8) dX8_layCut_162 rfl (by decide) ?_
      refine ev_iload (pc' := 165) dX8_layCut_163 rfl rfl ?_
      refine ev_iadd (pc' := 166) (v := 11) dX8_layCut_165 rfl (by decide) ?_
      refine ev_iald (pc' := 167) (j := 11) (v := (I 126) 1) dX8_layCut_166 rfl hs_129 rfl (Nat.le_of_ble_eq_true rfl) (Nat.le_of_ble_eq_true rfl) rfl ?_
      refine ev_iast (pc' := 168) (j := 3) (I' := (ma_up (ma_up (ma_up I 129 (ma_up (ma_up (ma_up (ma_up (ma_up (ma_up (ma_up (ma_up (ma_up (ma_up (ma_up (ma_up (I 129) 0 ((I 126) 1)) 1 (-((I 126) 0))) 2 0) 3 0) 4 0) 5 (-((I 126) 2))) 6 ((I 126) 1)) 7 0) 8 0) 9 (-((I 126) 3))) 10 0) 11 ((I 126) 1))) 130 (ma_up (ma_up (ma_up (ma_up (I 130) 0 0) 1 (-((I 126) 2))) 2 ((I 126) 1)) 3 0)) 131 (ma_up (ma_up (ma_up (ma_up (I 131) 0 0) 1 (-((I 126) 3))) 2 0) 3 ((I 126) 1)))) dX8_layCut_167 rfl hs_131 rfl (Nat.le_of_ble_eq_true rfl) (Nat.le_of_ble_eq_true rfl) ((congrArg (ma_up _ 131) (ma_up_up _ _ _ _)).trans (ma_up_up _ _ _ _)) ?_
      refine ev_iinc (pc' := 171) (v := 4) (lv' := [some (.ref 115), some (.int (nI q)), some (.int 1), some (.int 3), some (.int 1), some (.int 2), some (.int 4)]) dX8_layCut_168 rfl rfl (by decide) (Nat.le_of_ble_eq_true rfl) rfl rfl ?_
      refine ev_goto (tgt := 124) dX8_layCut_171 rfl ?_
      refine ev_iload (pc' := 126) dX8_layCut_124 rfl rfl ?_
      refine ev_iconst (pc' := 127) (v := 4) dX8_layCut_126 rfl ki_4 ?_
      refine ev_icmp_ge (tgt := 174) (pc' := 130) dX8_layCut_127 rfl rfl (fun _ => ?_) (fun h => absurd (by decide) h)
      refine ev_aload_n (pc' := 175) (i := 0) dX8_layCut_174 rfl rfl rfl ?_
      refine ev_getR (pc' := 178) fo_X8_26 dX8_layCut_175 rfl hs_115 rfl rf_115_8 ?_
      refine ev_iconst (pc' := 179) (v := 4) dX8_layCut_178 rfl ki_4 ?_
      refine ev_iload (pc' := 181) dX8_layCut_179 rfl rfl ?_
      refine ev_imul (pc' := 182) (v := 4) dX8_layCut_181 rfl (by decide) ?_
      refine ev_iload (pc' := 184) dX8_layCut_182 rfl rfl ?_
      refine ev_iadd (pc' := 185) (v := 6) dX8_layCut_184 rfl (by decide) ?_
      refine ev_aload_n (pc' := 186) (i := 0) dX8_layCut_185 rfl rfl rfl ?_
      refine ev_iload_n (pc' := 187) (i := 1) dX8_layCut_186 rfl rfl rfl ?_
      refine ev_aload_n (pc' := 188) (i := 0) dX8_layCut_187 rfl rfl rfl ?_
      refine ev_getR (pc' := 191) fo_X8_58 dX8_layCut_188 rfl hs_115 rfl rf_115_21 ?_
      refine ev_aload_n (pc' := 192) (i := 0) dX8_layCut_191 rfl rfl rfl ?_
      refine ev_getR (pc' := 195) fo_X8_61 dX8_layCut_192 rfl hs_115 rfl rf_115_22 ?_
      refine ev_callV (pc' := 198) (rm' := rX8_both) (b := 115) (av := [.int (nI q), .ref 130, .ref 131]) (rest := [.int 6, .ref 120]) co_X8_241 ci_X8_both cv_X8_both dX8_layCut_195 rfl hs_115 hb_X8 rfl rfl (Nat.le_of_ble_eq_true rfl) ⟨(Nat.le_of_ble_eq_true rfl), (Nat.le_of_ble_eq_true rfl)⟩ ⟨(Nat.le_of_ble_eq_true rfl), (Nat.le_of_ble_eq_true rfl)⟩ ?_
      refine t_X8_both q 130 131 hq hs_130 hs_131 ?_
      refine ev_eqi (w := mBo (I 123) (mSn 1 (I 126) 1) (mSn 1 (I 126) 2) q) rfl ?_
      refine ev_i2l (pc' := 199) (v := Int32.toInt64 (mBo (I 123) (mSn 1 (I 126) 1) (mSn 1 (I 126) 2) q)) dX8_layCut_198 rfl rfl ?_
      refine ev_last (pc' := 200) (j := 6) (L' := (ma_up L 120 (ma_up (ma_up (ma_up (ma_up (ma_up (ma_up (L 120) 0 (Int32.toInt64 (mBo (I 123) (mSn 1 (I 126) 0) (mSn 1 (I 126) 0) q))) 1 (Int32.toInt64 (mBo (I 123) (mSn 1 (I 126) 0) (mSn 1 (I 126) 1) q))) 2 (Int32.toInt64 (mBo (I 123) (mSn 1 (I 126) 0) (mSn 1 (I 126) 2) q))) 4 (Int32.toInt64 (mBo (I 123) (mSn 1 (I 126) 1) (mSn 1 (I 126) 0) q))) 5 (Int32.toInt64 (mBo (I 123) (mSn 1 (I 126) 1) (mSn 1 (I 126) 1) q))) 6 (Int32.toInt64 (mBo (I 123) (mSn 1 (I 126) 1) (mSn 1 (I 126) 2) q))))) dX8_layCut_199 rfl hs_120 rfl (Nat.le_of_ble_eq_true rfl) (Nat.le_of_ble_eq_true rfl) (ma_up_up _ _ _ _) ?_
      refine ev_iinc (pc' := 203) (v := 3) (lv' := [some (.ref 115), some (.int (nI q)), some (.int 1), some (.int 3), some (.int 1), some (.int 3), some (.int 4)]) dX8_layCut_200 rfl rfl (by decide) (Nat.le_of_ble_eq_true rfl) rfl rfl ?_
      refine ev_goto (tgt := 115) dX8_layCut_203 rfl ?_
      refine ev_iload (pc' := 117) dX8_layCut_115 rfl rfl ?_
      refine ev_iconst (pc' := 118) (v := 3) dX8_layCut_117 rfl ki_3 ?_
      refine ev_icmp_ge (tgt := 206) (pc' := 121) dX8_layCut_118 rfl rfl (fun _ => ?_) (fun h => absurd (by decide) h)
      refine ev_iinc (pc' := 209) (v := 2) (lv' := [some (.ref 115), some (.int (nI q)), some (.int 1), some (.int 3), some (.int 2), some (.int 3), some (.int 4)]) dX8_layCut_206 rfl rfl (by decide) (Nat.le_of_ble_eq_true rfl) rfl rfl ?_
      refine ev_goto (tgt := 106) dX8_layCut_209 rfl ?_
      refine ev_iload (pc' := 108) dX8_layCut_106 rfl rfl ?_
      refine ev_iconst (pc' := 109) (v := 3) dX8_layCut_108 rfl ki_3 ?_
      refine ev_icmp_ge (tgt := 212) (pc' := 112) dX8_layCut_109 rfl rfl (fun h => absurd h (by decide)) (fun _ => ?_)
      refine ev_iconst (pc' := 113) (v := 0) dX8_layCut_112 rfl ki_0 ?_
      refine ev_istore (pc' := 115) (lv' := [some (.ref 115), some (.int (nI q)), some (.int 1), some (.int 3), some (.int 2), some (.int 0), some (.int 4)]) dX8_layCut_113 rfl (Nat.le_of_ble_eq_true rfl) rfl rfl ?_
      refine ev_iload (pc' := 117) dX8_layCut_115 rfl rfl ?_
      refine ev_iconst (pc' := 118) (v := 3) dX8_layCut_117 rfl ki_3 ?_
      refine ev_icmp_ge (tgt := 206) (pc' := 121) dX8_layCut_118 rfl rfl (fun h => absurd h (by decide)) (fun _ => ?_)
      refine ev_iconst (pc' := 122) (v := 0) dX8_layCut_121 rfl ki_0 ?_
      refine ev_istore (pc' := 124) (lv' := [some (.ref 115), some (.int (nI q)), some (.int 1), some (.int 3), some (.int 2), some (.int 0), some (.int 0)]) dX8_layCut_122 rfl (Nat.le_of_ble_eq_true rfl) rfl rfl ?_
      refine ev_iload (pc' := 126) dX8_layCut_124 rfl rfl ?_
      refine ev_iconst (pc' := 127) (v := 4) dX8_layCut_126 rfl ki_4 ?_
      refine ev_icmp_ge (tgt := 174) (pc' := 130) dX8_layCut_127 rfl rfl (fun h => absurd h (by decide)) (fun _ => ?_)
      refine ev_aload_n (pc' := 131) (i := 0) dX8_layCut_130 rfl rfl rfl ?_
      refine ev_getR (pc' := 134) fo_X8_58 dX8_layCut_131 rfl hs_115 rfl rf_115_21 ?_
      refine ev_iload (pc' := 136) dX8_layCut_134 rfl rfl ?_
      refine ev_aload_n (pc' := 137) (i := 0) dX8_layCut_136 rfl rfl rfl ?_
      refine ev_getR (pc' := 140) fo_X8_55 dX8_layCut_137 rfl hs_115 rfl rf_115_20 ?_
      refine ev_iconst (pc' := 141) (v := 4) dX8_layCut_140 rfl ki_4 ?_
      refine ev_iload (pc' := 143) dX8_layCut_141 rfl rfl ?_
      refine ev_imul (pc' := 144) (v := 8) dX8_layCut_143 rfl (by decide) ?_
      refine ev_iload (pc' := 146) dX8_layCut_144 rfl rfl ?_
      refine ev_iadd (pc' := 147) (v := 8) dX8_layCut_146 rfl (by decide) ?_
      refine ev_iald (pc' := 148) (j := 8) (v := 0) dX8_layCut_147 rfl hs_129 rfl (Nat.le_of_ble_eq_true rfl) (Nat.le_of_ble_eq_true rfl) rfl ?_
      refine ev_iast (pc' := 149) (j := 0) (I' := (ma_up (ma_up (ma_up I 129 (ma_up (ma_up (ma_up (ma_up (ma_up (ma_up (ma_up (ma_up (ma_up (ma_up (ma_up (ma_up (I 129) 0 ((I 126) 1)) 1 (-((I 126) 0))) 2 0) 3 0) 4 0) 5 (-((I 126) 2))) 6 ((I 126) 1)) 7 0) 8 0) 9 (-((I 126) 3))) 10 0) 11 ((I 126) 1))) 130 (ma_up (ma_up (ma_up (ma_up (I 130) 0 0) 1 (-((I 126) 2))) 2 ((I 126) 1)) 3 0)) 131 (ma_up (ma_up (ma_up (ma_up (I 131) 0 0) 1 (-((I 126) 3))) 2 0) 3 ((I 126) 1)))) dX8_layCut_148 rfl hs_130 rfl (Nat.le_of_ble_eq_true rfl) (Nat.le_of_ble_eq_true rfl) ((congrArg (ma_up _ 130) ((ma_up_comm _ (show 0 ≠ 3 from (by decide)) _ _).trans (congrArg (fun f => ma_up f 3 _) ((ma_up_comm _ (show 0 ≠ 2 from (by decide)) _ _).trans (congrArg (fun f => ma_up f 2 _) ((ma_up_comm _ (show 0 ≠ 1 from (by decide)) _ _).trans (congrArg (fun f => ma_up f 1 _) (ma_up_up _ _ _ _)))))))).trans ((ma_up_comm _ (show 130 ≠ 131 from (by decide)) _ _).trans (congrArg (fun f => ma_up f 131 _) (ma_up_up _ _ _ _)))) ?_
      refine ev_aload_n (pc' := 150) (i := 0) dX8_layCut_149 rfl rfl rfl ?_
      refine ev_getR (pc' := 153) fo_X8_61 dX8_layCut_150 rfl hs_115 rfl rf_115_22 ?_
      refine ev_iload (pc' := 155) dX8_layCut_153 rfl rfl ?_
      refine ev_aload_n (pc' := 156) (i := 0) dX8_layCut_155 rfl rfl rfl ?_
      refine ev_getR (pc' := 159) fo_X8_55 dX8_layCut_156 rfl hs_115 rfl rf_115_20 ?_
      refine ev_iconst (pc' := 160) (v := 4) dX8_layCut_159 rfl ki_4 ?_
      refine ev_iload (pc' := 162) dX8_layCut_160 rfl rfl ?_
      refine ev_imul (pc' := 163) (v := 0) dX8_layCut_162 rfl (by decide) ?_
      refine ev_iload (pc' := 165) dX8_layCut_163 rfl rfl ?_
      refine ev_iadd (pc' := 166) (v := 0) dX8_layCut_165 rfl (by decide) ?_
      refine ev_iald (pc' := 167) (j := 0) (v := (I 126) 1) dX8_layCut_166 rfl hs_129 rfl (Nat.le_of_ble_eq_true rfl) (Nat.le_of_ble_eq_true rfl) rfl ?_
      refine ev_iast (pc' := 168) (j := 0) (I' := (ma_up (ma_up (ma_up I 129 (ma_up (ma_up (ma_up (ma_up (ma_up (ma_up (ma_up (ma_up (ma_up (ma_up (ma_up (ma_up (I 129) 0 ((I 126) 1)) 1 (-((I 126) 0))) 2 0) 3 0) 4 0) 5 (-((I 126) 2))) 6 ((I 126) 1)) 7 0) 8 0) 9 (-((I 126) 3))) 10 0) 11 ((I 126) 1))) 130 (ma_up (ma_up (ma_up (ma_up (I 130) 0 0) 1 (-((I 126) 2))) 2 ((I 126) 1)) 3 0)) 131 (ma_up (ma_up (ma_up (ma_up (I 131) 0 ((I 126) 1)) 1 (-((I 126) 3))) 2 0) 3 ((I 126) 1)))) dX8_layCut_167 rfl hs_131 rfl (Nat.le_of_ble_eq_true rfl) (Nat.le_of_ble_eq_true rfl) ((congrArg (ma_up _ 131) ((ma_up_comm _ (show 0 ≠ 3 from (by decide)) _ _).trans (congrArg (fun f => ma_up f 3 _) ((ma_up_comm _ (show 0 ≠ 2 from (by decide)) _ _).trans (congrArg (fun f => ma_up f 2 _) ((ma_up_comm _ (show 0 ≠ 1 from (by decide)) _ _).trans (congrArg (fun f => ma_up f 1 _) (ma_up_up _ _ _ _)))))))).trans (ma_up_up _ _ _ _)) ?_
      refine ev_iinc (pc' := 171) (v := 1) (lv' := [some (.ref 115), some (.int (nI q)), some (.int 1), some (.int 3), some (.int 2), some (.int 0), some (.int 1)]) dX8_layCut_168 rfl rfl (by decide) (Nat.le_of_ble_eq_true rfl) rfl rfl ?_
      refine ev_goto (tgt := 124) dX8_layCut_171 rfl ?_
      refine ev_iload (pc' := 126) dX8_layCut_124 rfl rfl ?_
      refine ev_iconst (pc' := 127) (v := 4) dX8_layCut_126 rfl ki_4 ?_
      refine ev_icmp_ge (tgt := 174) (pc' := 130) dX8_layCut_127 rfl rfl (fun h => absurd h (by decide)) (fun _ => ?_)
      refine ev_aload_n (pc' := 131) (i := 0) dX8_layCut_130 rfl rfl rfl ?_
      refine ev_getR (pc' := 134) fo_X8_58 dX8_layCut_131 rfl hs_115 rfl rf_115_21 ?_
      refine ev_iload (pc' := 136) dX8_layCut_134 rfl rfl ?_
      refine ev_aload_n (pc' := 137) (i := 0) dX8_layCut_136 rfl rfl rfl ?_
      refine ev_getR (pc' := 140) fo_X8_55 dX8_layCut_137 rfl hs_115 rfl rf_115_20 ?_
      refine ev_iconst (pc' := 141) (v := 4) dX8_layCut_140 rfl ki_4 ?_
      refine ev_iload (pc' := 143) dX8_layCut_141 rfl rfl ?_
      refine ev_imul (pc' := 144) (v := 8) dX8_layCut_143 rfl (by decide) ?_
      refine ev_iload (pc' := 146) dX8_layCut_144 rfl rfl ?_
      refine ev_iadd (pc' := 147) (v := 9) dX8_layCut_146 rfl (by decide) ?_
      refine ev_iald (pc' := 148) (j := 9) (v := -((I 126) 3)) dX8_layCut_147 rfl hs_129 rfl (Nat.le_of_ble_eq_true rfl) (Nat.le_of_ble_eq_true rfl) rfl ?_
      refine ev_iast (pc' := 149) (j := 1) (I' := (ma_up (ma_up (ma_up I 129 (ma_up (ma_up (ma_up (ma_up (ma_up (ma_up (ma_up (ma_up (ma_up (ma_up (ma_up (ma_up (I 129) 0 ((I 126) 1)) 1 (-((I 126) 0))) 2 0) 3 0) 4 0) 5 (-((I 126) 2))) 6 ((I 126) 1)) 7 0) 8 0) 9 (-((I 126) 3))) 10 0) 11 ((I 126) 1))) 130 (ma_up (ma_up (ma_up (ma_up (I 130) 0 0) 1 (-((I 126) 3))) 2 ((I 126) 1)) 3 0)) 131 (ma_up (ma_up (ma_up (ma_up (I 131) 0 ((I 126) 1)) 1 (-((I 126) 3))) 2 0) 3 ((I 126) 1)))) dX8_layCut_148 rfl hs_130 rfl (Nat.le_of_ble_eq_true rfl) (Nat.le_of_ble_eq_true rfl) ((congrArg (ma_up _ 130) ((ma_up_comm _ (show 1 ≠ 3 from (by decide)) _ _).trans (congrArg (fun f => ma_up f 3 _) ((ma_up_comm _ (show 1 ≠ 2 from (by decide)) _ _).trans (congrArg (fun f => ma_up f 2 _) (ma_up_up _ _ _ _)))))).trans ((ma_up_comm _ (show 130 ≠ 131 from (by decide)) _ _).trans (congrArg (fun f => ma_up f 131 _) (ma_up_up _ _ _ _)))) ?_
      refine ev_aload_n (pc' := 150) (i := 0) dX8_layCut_149 rfl rfl rfl ?_
      refine ev_getR (pc' := 153) fo_X8_61 dX8_layCut_150 rfl hs_115 rfl rf_115_22 ?_
      refine ev_iload (pc' := 155) dX8_layCut_153 rfl rfl ?_
      refine ev_aload_n (pc' := 156) (i := 0) dX8_layCut_155 rfl rfl rfl ?_
      refine ev_getR (pc' := 159) fo_X8_55 dX8_layCut_156 rfl hs_115 rfl rf_115_20 ?_
      refine ev_iconst (pc' := 160) (v := 4) dX8_layCut_159 rfl ki_4 ?_
      refine ev_iload (pc' := 162) dX8_layCut_160 rfl rfl ?_
      refine ev_imul (pc' := 163) (v := 0) dX8_layCut_162 rfl (by decide) ?_
      refine ev_iload (pc' := 165) dX8_layCut_163 rfl rfl ?_
      refine ev_iadd (pc' := 166) (v := 1) dX8_layCut_165 rfl (by decide) ?_
      refine ev_iald (pc' := 167) (j := 1) (v := -((I 126) 0)) dX8_layCut_166 rfl hs_129 rfl (Nat.le_of_ble_eq_true rfl) (Nat.le_of_ble_eq_true rfl) rfl ?_
      refine ev_iast (pc' := 168) (j := 1) (I' := (ma_up (ma_up (ma_up I 129 (ma_up (ma_up (ma_up (ma_up (ma_up (ma_up (ma_up (ma_up (ma_up (ma_up (ma_up (ma_up (I 129) 0 ((I 126) 1)) 1 (-((I 126) 0))) 2 0) 3 0) 4 0) 5 (-((I 126) 2))) 6 ((I 126) 1)) 7 0) 8 0) 9 (-((I 126) 3))) 10 0) 11 ((I 126) 1))) 130 (ma_up (ma_up (ma_up (ma_up (I 130) 0 0) 1 (-((I 126) 3))) 2 ((I 126) 1)) 3 0)) 131 (ma_up (ma_up (ma_up (ma_up (I 131) 0 ((I 126) 1)) 1 (-((I 126) 0))) 2 0) 3 ((I 126) 1)))) dX8_layCut_167 rfl hs_131 rfl (Nat.le_of_ble_eq_true rfl) (Nat.le_of_ble_eq_true rfl) ((congrArg (ma_up _ 131) ((ma_up_comm _ (show 1 ≠ 3 from (by decide)) _ _).trans (congrArg (fun f => ma_up f 3 _) ((ma_up_comm _ (show 1 ≠ 2 from (by decide)) _ _).trans (congrArg (fun f => ma_up f 2 _) (ma_up_up _ _ _ _)))))).trans (ma_up_up _ _ _ _)) ?_
      refine ev_iinc (pc' := 171) (v := 2) (lv' := [some (.ref 115), some (.int (nI q)), some (.int 1), some (.int 3), some (.int 2), some (.int 0), some (.int 2)]) dX8_layCut_168 rfl rfl (by decide) (Nat.le_of_ble_eq_true rfl) rfl rfl ?_
      refine ev_goto (tgt := 124) dX8_layCut_171 rfl ?_
      refine ev_iload (pc' := 126) dX8_layCut_124 rfl rfl ?_
      refine ev_iconst (pc' := 127) (v := 4) dX8_layCut_126 rfl ki_4 ?_
      refine ev_icmp_ge (tgt := 174) (pc' := 130) dX8_layCut_127 rfl rfl (fun h => absurd h (by decide)) (fun _ => ?_)
      refine ev_aload_n (pc' := 131) (i := 0) dX8_layCut_130 rfl rfl rfl ?_
      refine ev_getR (pc' := 134) fo_X8_58 dX8_layCut_131 rfl hs_115 rfl rf_115_21 ?_
      refine ev_iload (pc' := 136) dX8_layCut_134 rfl rfl ?_
      refine ev_aload_n (pc' := 137) (i := 0) dX8_layCut_136 rfl rfl rfl ?_
      refine ev_getR (pc' := 140) fo_X8_55 dX8_layCut_137 rfl hs_115 rfl rf_115_20 ?_
      refine ev_iconst (pc' := 141) (v := 4) dX8_layCut_140 rfl ki_4 ?_
      refine ev_iload (pc' := 143) dX8_layCut_141 rfl rfl ?_
      refine ev_imul (pc' := 144) (v := 8) dX8_layCut_143 rfl (by decide) ?_
      refine ev_iload (pc' := 146) dX8_layCut_144 rfl rfl ?_
      refine ev_iadd (pc' := 147) (v := 10) dX8_layCut_146 rfl (by decide) ?_
      refine ev_iald (pc' := 148) (j := 10) (v := 0) dX8_layCut_147 rfl hs_129 rfl (Nat.le_of_ble_eq_true rfl) (Nat.le_of_ble_eq_true rfl) rfl ?_
      refine ev_iast (pc' := 149) (j := 2) (I' := (ma_up (ma_up (ma_up I 129 (ma_up (ma_up (ma_up (ma_up (ma_up (ma_up (ma_up (ma_up (ma_up (ma_up (ma_up (ma_up (I 129) 0 ((I 126) 1)) 1 (-((I 126) 0))) 2 0) 3 0) 4 0) 5 (-((I 126) 2))) 6 ((I 126) 1)) 7 0) 8 0) 9 (-((I 126) 3))) 10 0) 11 ((I 126) 1))) 130 (ma_up (ma_up (ma_up (ma_up (I 130) 0 0) 1 (-((I 126) 3))) 2 0) 3 0)) 131 (ma_up (ma_up (ma_up (ma_up (I 131) 0 ((I 126) 1)) 1 (-((I 126) 0))) 2 0) 3 ((I 126) 1)))) dX8_layCut_148 rfl hs_130 rfl (Nat.le_of_ble_eq_true rfl) (Nat.le_of_ble_eq_true rfl) ((congrArg (ma_up _ 130) ((ma_up_comm _ (show 2 ≠ 3 from (by decide)) _ _).trans (congrArg (fun f => ma_up f 3 _) (ma_up_up _ _ _ _)))).trans ((ma_up_comm _ (show 130 ≠ 131 from (by decide)) _ _).trans (congrArg (fun f => ma_up f 131 _) (ma_up_up _ _ _ _)))) ?_
      refine ev_aload_n (pc' := 150) (i := 0) dX8_layCut_149 rfl rfl rfl ?_
      refine ev_getR (pc' := 153) fo_X8_61 dX8_layCut_150 rfl hs_115 rfl rf_115_22 ?_
      refine ev_iload (pc' := 155) dX8_layCut_153 rfl rfl ?_
      refine ev_aload_n (pc' := 156) (i := 0) dX8_layCut_155 rfl rfl rfl ?_
      refine ev_getR (pc' := 159) fo_X8_55 dX8_layCut_156 rfl hs_115 rfl rf_115_20 ?_
      refine ev_iconst (pc' := 160) (v := 4) dX8_layCut_159 rfl ki_4 ?_
      refine ev_iload (pc' := 162) dX8_layCut_160 rfl rfl ?_
      refine ev_imul (pc' := 163) (v := 0) dX8_layCut_162 rfl (by decide) ?_
      refine ev_iload (pc' := 165) dX8_layCut_163 rfl rfl ?_
      refine ev_iadd (pc' := 166) (v := 2) dX8_layCut_165 rfl (by decide) ?_
      refine ev_iald (pc' := 167) (j := 2) (v := 0) dX8_layCut_166 rfl hs_129 rfl (Nat.le_of_ble_eq_true rfl) (Nat.le_of_ble_eq_true rfl) rfl ?_
      refine ev_iast (pc' := 168) (j := 2) (I' := (ma_up (ma_up (ma_up I 129 (ma_up (ma_up (ma_up (ma_up (ma_up (ma_up (ma_up (ma_up (ma_up (ma_up (ma_up (ma_up (I 129) 0 ((I 126) 1)) 1 (-((I 126) 0))) 2 0) 3 0) 4 0) 5 (-((I 126) 2))) 6 ((I 126) 1)) 7 0) 8 0) 9 (-((I 126) 3))) 10 0) 11 ((I 126) 1))) 130 (ma_up (ma_up (ma_up (ma_up (I 130) 0 0) 1 (-((I 126) 3))) 2 0) 3 0)) 131 (ma_up (ma_up (ma_up (ma_up (I 131) 0 ((I 126) 1)) 1 (-((I 126) 0))) 2 0) 3 ((I 126) 1)))) dX8_layCut_167 rfl hs_131 rfl (Nat.le_of_ble_eq_true rfl) (Nat.le_of_ble_eq_true rfl) ((congrArg (ma_up _ 131) ((ma_up_comm _ (show 2 ≠ 3 from (by decide)) _ _).trans (congrArg (fun f => ma_up f 3 _) (ma_up_up _ _ _ _)))).trans (ma_up_up _ _ _ _)) ?_
      refine ev_iinc (pc' := 171) (v := 3) (lv' := [some (.ref 115), some (.int (nI q)), some (.int 1), some (.int 3), some (.int 2), some (.int 0), some (.int 3)]) dX8_layCut_168 rfl rfl (by decide) (Nat.le_of_ble_eq_true rfl) rfl rfl ?_
      refine ev_goto (tgt := 124) dX8_layCut_171 rfl ?_
      refine ev_iload (pc' := 126) dX8_layCut_124 rfl rfl ?_
      refine ev_iconst (pc' := 127) (v := 4) dX8_layCut_126 rfl ki_4 ?_
      refine ev_icmp_ge (tgt := 174) (pc' := 130) dX8_layCut_127 rfl rfl (fun h => absurd h (by decide)) (fun _ => ?_)
      refine ev_aload_n (pc' := 131) (i := 0) dX8_layCut_130 rfl rfl rfl ?_
      refine ev_getR (pc' := 134) fo_X8_58 dX8_layCut_131 rfl hs_115 rfl rf_115_21 ?_
      refine ev_iload (pc' := 136) dX8_layCut_134 rfl rfl ?_
      refine ev_aload_n (pc' := 137) (i := 0) dX8_layCut_136 rfl rfl rfl ?_
      refine ev_getR (pc' := 140) fo_X8_55 dX8_layCut_137 rfl hs_115 rfl rf_115_20 ?_
      refine ev_iconst (pc' := 141) (v := 4) dX8_layCut_140 rfl ki_4 ?_
      refine ev_iload (pc' := 143) dX8_layCut_141 rfl rfl ?_
      refine ev_imul (pc' := 144) (v := 8) dX8_layCut_143 rfl (by decide) ?_
      refine ev_iload (pc' := 146) dX8_layCut_144 rfl rfl ?_
      refine ev_iadd (pc' := 147) (v := 11) dX8_layCut_146 rfl (by decide) ?_
      refine ev_iald (pc' := 148) (j := 11) (v := (I 126) 1) dX8_layCut_147 rfl hs_129 rfl (Nat.le_of_ble_eq_true rfl) (Nat.le_of_ble_eq_true rfl) rfl ?_
      refine ev_iast (pc' := 149) (j := 3) (I' := (ma_up (ma_up (ma_up I 129 (ma_up (ma_up (ma_up (ma_up (ma_up (ma_up (ma_up (ma_up (ma_up (ma_up (ma_up (ma_up (I 129) 0 ((I 126) 1)) 1 (-((I 126) 0))) 2 0) 3 0) 4 0) 5 (-((I 126) 2))) 6 ((I 126) 1)) 7 0) 8 0) 9 (-((I 126) 3))) 10 0) 11 ((I 126) 1))) 130 (ma_up (ma_up (ma_up (ma_up (I 130) 0 0) 1 (-((I 126) 3))) 2 0) 3 ((I 126) 1))) 131 (ma_up (ma_up (ma_up (ma_up (I 131) 0 ((I 126) 1)) 1 (-((I 126) 0))) 2 0) 3 ((I 126) 1)))) dX8_layCut_148 rfl hs_130 rfl (Nat.le_of_ble_eq_true rfl) (Nat.le_of_ble_eq_true rfl) ((congrArg (ma_up _ 130) (ma_up_up _ _ _ _)).trans ((ma_up_comm _ (show 130 ≠ 131 from (by decide)) _ _).trans (congrArg (fun f => ma_up f 131 _) (ma_up_up _ _ _ _)))) ?_
      refine ev_aload_n (pc' := 150) (i := 0) dX8_layCut_149 rfl rfl rfl ?_
      refine ev_getR (pc' := 153) fo_X8_61 dX8_layCut_150 rfl hs_115 rfl rf_115_22 ?_
      refine ev_iload (pc' := 155) dX8_layCut_153 rfl rfl ?_
      refine ev_aload_n (pc' := 156) (i := 0) dX8_layCut_155 rfl rfl rfl ?_
      refine ev_getR (pc' := 159) fo_X8_55 dX8_layCut_156 rfl hs_115 rfl rf_115_20 ?_
      refine ev_iconst (pc' := 160) (v := 4) dX8_layCut_159 rfl ki_4 ?_
      refine ev_iload (pc' := 162) dX8_layCut_160 rfl rfl ?_
      refine ev_imul (pc' := 163) (v := 0) dX8_layCut_162 rfl (by decide) ?_
      refine ev_iload (pc' := 165) dX8_layCut_163 rfl rfl ?_
      refine ev_iadd (pc' := 166) (v := 3) dX8_layCut_165 rfl (by decide) ?_
      refine ev_iald (pc' := 167) (j := 3) (v := 0) dX8_layCut_166 rfl hs_129 rfl (Nat.le_of_ble_eq_true rfl) (Nat.le_of_ble_eq_true rfl) rfl ?_
      refine ev_iast (pc' := 168) (j := 3) (I' := (ma_up (ma_up (ma_up I 129 (ma_up (ma_up (ma_up (ma_up (ma_up (ma_up (ma_up (ma_up (ma_up (ma_up (ma_up (ma_up (I 129) 0 ((I 126) 1)) 1 (-((I 126) 0))) 2 0) 3 0) 4 0) 5 (-((I 126) 2))) 6 ((I 126) 1)) 7 0) 8 0) 9 (-((I 126) 3))) 10 0) 11 ((I 126) 1))) 130 (ma_up (ma_up (ma_up (ma_up (I 130) 0 0) 1 (-((I 126) 3))) 2 0) 3 ((I 126) 1))) 131 (ma_up (ma_up (ma_up (ma_up (I 131) 0 ((I 126) 1)) 1 (-((I 126) 0))) 2 0) 3 0))) dX8_layCut_167 rfl hs_131 rfl (Nat.le_of_ble_eq_true rfl) (Nat.le_of_ble_eq_true rfl) ((congrArg (ma_up _ 131) (ma_up_up _ _ _ _)).trans (ma_up_up _ _ _ _)) ?_
      refine ev_iinc (pc' := 171) (v := 4) (lv' := [some (.ref 115), some (.int (nI q)), some (.int 1), some (.int 3), some (.int 2), some (.int 0), some (.int 4)]) dX8_layCut_168 rfl rfl (by decide) (Nat.le_of_ble_eq_true rfl) rfl rfl ?_
      refine ev_goto (tgt := 124) dX8_layCut_171 rfl ?_
      refine ev_iload (pc' := 126) dX8_layCut_124 rfl rfl ?_
      refine ev_iconst (pc' := 127) (v := 4) dX8_layCut_126 rfl ki_4 ?_
      refine ev_icmp_ge (tgt := 174) (pc' := 130) dX8_layCut_127 rfl rfl (fun _ => ?_) (fun h => absurd (by decide) h)
      refine ev_aload_n (pc' := 175) (i := 0) dX8_layCut_174 rfl rfl rfl ?_
      refine ev_getR (pc' := 178) fo_X8_26 dX8_layCut_175 rfl hs_115 rfl rf_115_8 ?_
      refine ev_iconst (pc' := 179) (v := 4) dX8_layCut_178 rfl ki_4 ?_
      refine ev_iload (pc' := 181) dX8_layCut_179 rfl rfl ?_
      refine ev_imul (pc' := 182) (v := 8) dX8_layCut_181 rfl (by decide) ?_
      refine ev_iload (pc' := 184) dX8_layCut_182 rfl rfl ?_
      refine ev_iadd (pc' := 185) (v := 8) dX8_layCut_184 rfl (by decide) ?_
      refine ev_aload_n (pc' := 186) (i := 0) dX8_layCut_185 rfl rfl rfl ?_
      refine ev_iload_n (pc' := 187) (i := 1) dX8_layCut_186 rfl rfl rfl ?_
      refine ev_aload_n (pc' := 188) (i := 0) dX8_layCut_187 rfl rfl rfl ?_
      refine ev_getR (pc' := 191) fo_X8_58 dX8_layCut_188 rfl hs_115 rfl rf_115_21 ?_
      refine ev_aload_n (pc' := 192) (i := 0) dX8_layCut_191 rfl rfl rfl ?_
      refine ev_getR (pc' := 195) fo_X8_61 dX8_layCut_192 rfl hs_115 rfl rf_115_22 ?_
      refine ev_callV (pc' := 198) (rm' := rX8_both) (b := 115) (av := [.int (nI q), .ref 130, .ref 131]) (rest := [.int 8, .ref 120]) co_X8_241 ci_X8_both cv_X8_both dX8_layCut_195 rfl hs_115 hb_X8 rfl rfl (Nat.le_of_ble_eq_true rfl) ⟨(Nat.le_of_ble_eq_true rfl), (Nat.le_of_ble_eq_true rfl)⟩ ⟨(Nat.le_of_ble_eq_true rfl), (Nat.le_of_ble_eq_true rfl)⟩ ?_
      refine t_X8_both q 130 131 hq hs_130 hs_131 ?_
      refine ev_eqi (w := mBo (I 123) (mSn 1 (I 126) 2) (mSn 1 (I 126) 0) q) rfl ?_
      refine ev_i2l (pc' := 199) (v := Int32.toInt64 (mBo (I 123) (mSn 1 (I 126) 2) (mSn 1 (I 126) 0) q)) dX8_layCut_198 rfl rfl ?_
      refine ev_last (pc' := 200) (j := 8) (L' := (ma_up L 120 (ma_up (ma_up (ma_up (ma_up (ma_up (ma_up (ma_up (L 120) 0 (Int32.toInt64 (mBo (I 123) (mSn 1 (I 126) 0) (mSn 1 (I 126) 0) q))) 1 (Int32.toInt64 (mBo (I 123) (mSn 1 (I 126) 0) (mSn 1 (I 126) 1) q))) 2 (Int32.toInt64 (mBo (I 123) (mSn 1 (I 126) 0) (mSn 1 (I 126) 2) q))) 4 (Int32.toInt64 (mBo (I 123) (mSn 1 (I 126) 1) (mSn 1 (I 126) 0) q))) 5 (Int32.toInt64 (mBo (I 123) (mSn 1 (I 126) 1) (mSn 1 (I 126) 1) q))) 6 (Int32.toInt64 (mBo (I 123) (mSn 1 (I 126) 1) (mSn 1 (I 126) 2) q))) 8 (Int32.toInt64 (mBo (I 123) (mSn 1 (I 126) 2) (mSn 1 (I 126) 0) q))))) dX8_layCut_199 rfl hs_120 rfl (Nat.le_of_ble_eq_true rfl) (Nat.le_of_ble_eq_true rfl) (ma_up_up _ _ _ _) ?_
      refine ev_iinc (pc' := 203) (v := 1) (lv' := [some (.ref 115), some (.int (nI q)), some (.int 1), some (.int 3), some (.int 2), some (.int 1), some (.int 4)]) dX8_layCut_200 rfl rfl (by decide) (Nat.le_of_ble_eq_true rfl) rfl rfl ?_
      refine ev_goto (tgt := 115) dX8_layCut_203 rfl ?_
      refine ev_iload (pc' := 117) dX8_layCut_115 rfl rfl ?_
      refine ev_iconst (pc' := 118) (v := 3) dX8_layCut_117 rfl ki_3 ?_
      refine ev_icmp_ge (tgt := 206) (pc' := 121) dX8_layCut_118 rfl rfl (fun h => absurd h (by decide)) (fun _ => ?_)
      refine ev_iconst (pc' := 122) (v := 0) dX8_layCut_121 rfl ki_0 ?_
      refine ev_istore (pc' := 124) (lv' := [some (.ref 115), some (.int (nI q)), some (.int 1), some (.int 3), some (.int 2), some (.int 1), some (.int 0)]) dX8_layCut_122 rfl (Nat.le_of_ble_eq_true rfl) rfl rfl ?_
      refine ev_iload (pc' := 126) dX8_layCut_124 rfl rfl ?_
      refine ev_iconst (pc' := 127) (v := 4) dX8_layCut_126 rfl ki_4 ?_
      refine ev_icmp_ge (tgt := 174) (pc' := 130) dX8_layCut_127 rfl rfl (fun h => absurd h (by decide)) (fun _ => ?_)
      refine ev_aload_n (pc' := 131) (i := 0) dX8_layCut_130 rfl rfl rfl ?_
      refine ev_getR (pc' := 134) fo_X8_58 dX8_layCut_131 rfl hs_115 rfl rf_115_21 ?_
      refine ev_iload (pc' := 136) dX8_layCut_134 rfl rfl ?_
      refine ev_aload_n (pc' := 137) (i := 0) dX8_layCut_136 rfl rfl rfl ?_
      refine ev_getR (pc' := 140) fo_X8_55 dX8_layCut_137 rfl hs_115 rfl rf_115_20 ?_
      refine ev_iconst (pc' := 141) (v := 4) dX8_layCut_140 rfl ki_4 ?_
      refine ev_iload (pc' := 143) dX8_layCut_141 rfl rfl ?_
      refine ev_imul (pc' := 144) (v := 8) dX8_layCut_143 rfl (by decide) ?_
      refine ev_iload (pc' := 146) dX8_layCut_144 rfl rfl ?_
      refine ev_iadd (pc' := 147) (v := 8) dX8_layCut_146 rfl (by decide) ?_
      refine ev_iald (pc' := 148) (j := 8) (v := 0) dX8_layCut_147 rfl hs_129 rfl (Nat.le_of_ble_eq_true rfl) (Nat.le_of_ble_eq_true rfl) rfl ?_
      refine ev_iast (pc' := 149) (j := 0) (I' := (ma_up (ma_up (ma_up I 129 (ma_up (ma_up (ma_up (ma_up (ma_up (ma_up (ma_up (ma_up (ma_up (ma_up (ma_up (ma_up (I 129) 0 ((I 126) 1)) 1 (-((I 126) 0))) 2 0) 3 0) 4 0) 5 (-((I 126) 2))) 6 ((I 126) 1)) 7 0) 8 0) 9 (-((I 126) 3))) 10 0) 11 ((I 126) 1))) 130 (ma_up (ma_up (ma_up (ma_up (I 130) 0 0) 1 (-((I 126) 3))) 2 0) 3 ((I 126) 1))) 131 (ma_up (ma_up (ma_up (ma_up (I 131) 0 ((I 126) 1)) 1 (-((I 126) 0))) 2 0) 3 0))) dX8_layCut_148 rfl hs_130 rfl (Nat.le_of_ble_eq_true rfl) (Nat.le_of_ble_eq_true rfl) ((congrArg (ma_up _ 130) ((ma_up_comm _ (show 0 ≠ 3 from (by decide)) _ _).trans (congrArg (fun f => ma_up f 3 _) ((ma_up_comm _ (show 0 ≠ 2 from (by decide)) _ _).trans (congrArg (fun f => ma_up f 2 _) ((ma_up_comm _ (show 0 ≠ 1 from (by decide)) _ _).trans (congrArg (fun f => ma_up f 1 _) (ma_up_up _ _ _ _)))))))).trans ((ma_up_comm _ (show 130 ≠ 131 from (by decide)) _ _).trans (congrArg (fun f => ma_up f 131 _) (ma_up_up _ _ _ _)))) ?_
      refine ev_aload_n (pc' := 150) (i := 0) dX8_layCut_149 rfl rfl rfl ?_
      refine ev_getR (pc' := 153) fo_X8_61 dX8_layCut_150 rfl hs_115 rfl rf_115_22 ?_
      refine ev_iload (pc' := 155) dX8_layCut_153 rfl rfl ?_
      refine ev_aload_n (pc' := 156) (i := 0) dX8_layCut_155 rfl rfl rfl ?_
      refine ev_getR (pc' := 159) fo_X8_55 dX8_layCut_156 rfl hs_115 rfl rf_115_20 ?_
      refine ev_iconst (pc' := 160) (v := 4) dX8_layCut_159 rfl ki_4 ?_
      refine ev_iload (pc' := 162) dX8_layCut_160 rfl rfl ?_
      refine ev_imul (pc' := 163) (v := 4) dX8_layCut_162 rfl (by decide) ?_
      refine ev_iload (pc' := 165) dX8_layCut_163 rfl rfl ?_
      refine ev_iadd (pc' := 166) (v := 4) dX8_layCut_165 rfl (by decide) ?_
      refine ev_iald (pc' := 167) (j := 4) (v := 0) dX8_layCut_166 rfl hs_129 rfl (Nat.le_of_ble_eq_true rfl) (Nat.le_of_ble_eq_true rfl) rfl ?_
      refine ev_iast (pc' := 168) (j := 0) (I' := (ma_up (ma_up (ma_up I 129 (ma_up (ma_up (ma_up (ma_up (ma_up (ma_up (ma_up (ma_up (ma_up (ma_up (ma_up (ma_up (I 129) 0 ((I 126) 1)) 1 (-((I 126) 0))) 2 0) 3 0) 4 0) 5 (-((I 126) 2))) 6 ((I 126) 1)) 7 0) 8 0) 9 (-((I 126) 3))) 10 0) 11 ((I 126) 1))) 130 (ma_up (ma_up (ma_up (ma_up (I 130) 0 0) 1 (-((I 126) 3))) 2 0) 3 ((I 126) 1))) 131 (ma_up (ma_up (ma_up (ma_up (I 131) 0 0) 1 (-((I 126) 0))) 2 0) 3 0))) dX8_layCut_167 rfl hs_131 rfl (Nat.le_of_ble_eq_true rfl) (Nat.le_of_ble_eq_true rfl) ((congrArg (ma_up _ 131) ((ma_up_comm _ (show 0 ≠ 3 from (by decide)) _ _).trans (congrArg (fun f => ma_up f 3 _) ((ma_up_comm _ (show 0 ≠ 2 from (by decide)) _ _).trans (congrArg (fun f => ma_up f 2 _) ((ma_up_comm _ (show 0 ≠ 1 from (by decide)) _ _).trans (congrArg (fun f => ma_up f 1 _) (ma_up_up _ _ _ _)))))))).trans (ma_up_up _ _ _ _)) ?_
      refine ev_iinc (pc' := 171) (v := 1) (lv' := [some (.ref 115), some (.int (nI q)), some (.int 1), some (.int 3), some (.int 2), some (.int 1), some (.int 1)]) dX8_layCut_168 rfl rfl (by decide) (Nat.le_of_ble_eq_true rfl) rfl rfl ?_
      refine ev_goto (tgt := 124) dX8_layCut_171 rfl ?_
      refine ev_iload (pc' := 126) dX8_layCut_124 rfl rfl ?_
      refine ev_iconst (pc' := 127) (v := 4) dX8_layCut_126 rfl ki_4 ?_
      refine ev_icmp_ge (tgt := 174) (pc' := 130) dX8_layCut_127 rfl rfl (fun h => absurd h (by decide)) (fun _ => ?_)
      refine ev_aload_n (pc' := 131) (i := 0) dX8_layCut_130 rfl rfl rfl ?_
      refine ev_getR (pc' := 134) fo_X8_58 dX8_layCut_131 rfl hs_115 rfl rf_115_21 ?_
      refine ev_iload (pc' := 136) dX8_layCut_134 rfl rfl ?_
      refine ev_aload_n (pc' := 137) (i := 0) dX8_layCut_136 rfl rfl rfl ?_
      refine ev_getR (pc' := 140) fo_X8_55 dX8_layCut_137 rfl hs_115 rfl rf_115_20 ?_
      refine ev_iconst (pc' := 141) (v := 4) dX8_layCut_140 rfl ki_4 ?_
      refine ev_iload (pc' := 143) dX8_layCut_141 rfl rfl ?_
      refine ev_imul (pc' := 144) (v := 8) dX8_layCut_143 rfl (by decide) ?_
      refine ev_iload (pc' := 146) dX8_layCut_144 rfl rfl ?_
      refine ev_iadd (pc' := 147) (v := 9) dX8_layCut_146 rfl (by decide) ?_
      refine ev_iald (pc' := 148) (j := 9) (v := -((I 126) 3)) dX8_layCut_147 rfl hs_129 rfl (Nat.le_of_ble_eq_true rfl) (Nat.le_of_ble_eq_true rfl) rfl ?_
      refine ev_iast (pc' := 149) (j := 1) (I' := (ma_up (ma_up (ma_up I 129 (ma_up (ma_up (ma_up (ma_up (ma_up (ma_up (ma_up (ma_up (ma_up (ma_up (ma_up (ma_up (I 129) 0 ((I 126) 1)) 1 (-((I 126) 0))) 2 0) 3 0) 4 0) 5 (-((I 126) 2))) 6 ((I 126) 1)) 7 0) 8 0) 9 (-((I 126) 3))) 10 0) 11 ((I 126) 1))) 130 (ma_up (ma_up (ma_up (ma_up (I 130) 0 0) 1 (-((I 126) 3))) 2 0) 3 ((I 126) 1))) 131 (ma_up (ma_up (ma_up (ma_up (I 131) 0 0) 1 (-((I 126) 0))) 2 0) 3 0))) dX8_layCut_148 rfl hs_130 rfl (Nat.le_of_ble_eq_true rfl) (Nat.le_of_ble_eq_true rfl) ((congrArg (ma_up _ 130) ((ma_up_comm _ (show 1 ≠ 3 from (by decide)) _ _).trans (congrArg (fun f => ma_up f 3 _) ((ma_up_comm _ (show 1 ≠ 2 from (by decide)) _ _).trans (congrArg (fun f => ma_up f 2 _) (ma_up_up _ _ _ _)))))).trans ((ma_up_comm _ (show 130 ≠ 131 from (by decide)) _ _).trans (congrArg (fun f => ma_up f 131 _) (ma_up_up _ _ _ _)))) ?_
      refine ev_aload_n (pc' := 150) (i := 0) dX8_layCut_149 rfl rfl rfl ?_
      refine ev_getR (pc' := 153) fo_X8_61 dX8_layCut_150 rfl hs_115 rfl rf_115_22 ?_
      refine ev_iload (pc' := 155) dX8_layCut_153 rfl rfl ?_
      refine ev_aload_n (pc' := 156) (i := 0) dX8_layCut_155 rfl rfl rfl ?_
      refine ev_getR (pc' := 159) fo_X8_55 dX8_layCut_156 rfl hs_115 rfl rf_115_20 ?_
      refine ev_iconst (pc' := 160) (v := 4) dX8_layCut_159 rfl ki_4 ?_
      refine ev_iload (pc' := 162) dX8_layCut_160 rfl rfl ?_
      refine ev_imul (pc' := 163) (v := 4) dX8_layCut_162 rfl (by decide) ?_
      refine ev_iload (pc' := 165) dX8_layCut_163 rfl rfl ?_
      refine ev_iadd (pc' := 166) (v := 5) dX8_layCut_165 rfl (by decide) ?_
      refine ev_iald (pc' := 167) (j := 5) (v := -((I 126) 2)) dX8_layCut_166 rfl hs_129 rfl (Nat.le_of_ble_eq_true rfl) (Nat.le_of_ble_eq_true rfl) rfl ?_
      refine ev_iast (pc' := 168) (j := 1) (I' := (ma_up (ma_up (ma_up I 129 (ma_up (ma_up (ma_up (ma_up (ma_up (ma_up (ma_up (ma_up (ma_up (ma_up (ma_up (ma_up (I 129) 0 ((I 126) 1)) 1 (-((I 126) 0))) 2 0) 3 0) 4 0) 5 (-((I 126) 2))) 6 ((I 126) 1)) 7 0) 8 0) 9 (-((I 126) 3))) 10 0) 11 ((I 126) 1))) 130 (ma_up (ma_up (ma_up (ma_up (I 130) 0 0) 1 (-((I 126) 3))) 2 0) 3 ((I 126) 1))) 131 (ma_up (ma_up (ma_up (ma_up (I 131) 0 0) 1 (-((I 126) 2))) 2 0) 3 0))) dX8_layCut_167 rfl hs_131 rfl (Nat.le_of_ble_eq_true rfl) (Nat.le_of_ble_eq_true rfl) ((congrArg (ma_up _ 131) ((ma_up_comm _ (show 1 ≠ 3 from (by decide)) _ _).trans (congrArg (fun f => ma_up f 3 _) ((ma_up_comm _ (show 1 ≠ 2 from (by decide)) _ _).trans (congrArg (fun f => ma_up f 2 _) (ma_up_up _ _ _ _)))))).trans (ma_up_up _ _ _ _)) ?_
      refine ev_iinc (pc' := 171) (v := 2) (lv' := [some (.ref 115), some (.int (nI q)), some (.int 1), some (.int 3), some (.int 2), some (.int 1), some (.int 2)]) dX8_layCut_168 rfl rfl (by decide) (Nat.le_of_ble_eq_true rfl) rfl rfl ?_
      refine ev_goto (tgt := 124) dX8_layCut_171 rfl ?_
      refine ev_iload (pc' := 126) dX8_layCut_124 rfl rfl ?_
      refine ev_iconst (pc' := 127) (v := 4) dX8_layCut_126 rfl ki_4 ?_
      refine ev_icmp_ge (tgt := 174) (pc' := 130) dX8_layCut_127 rfl rfl (fun h => absurd h (by decide)) (fun _ => ?_)
      refine ev_aload_n (pc' := 131) (i := 0) dX8_layCut_130 rfl rfl rfl ?_
      refine ev_getR (pc' := 134) fo_X8_58 dX8_layCut_131 rfl hs_115 rfl rf_115_21 ?_
      refine ev_iload (pc' := 136) dX8_layCut_134 rfl rfl ?_
      refine ev_aload_n (pc' := 137) (i := 0) dX8_layCut_136 rfl rfl rfl ?_
      refine ev_getR (pc' := 140) fo_X8_55 dX8_layCut_137 rfl hs_115 rfl rf_115_20 ?_
      refine ev_iconst (pc' := 141) (v := 4) dX8_layCut_140 rfl ki_4 ?_
      refine ev_iload (pc' := 143) dX8_layCut_141 rfl rfl ?_
      refine ev_imul (pc' := 144) (v := 8) dX8_layCut_143 rfl (by decide) ?_
      refine ev_iload (pc' := 146) dX8_layCut_144 rfl rfl ?_
      refine ev_iadd (pc' := 147) (v := 10) dX8_layCut_146 rfl (by decide) ?_
      refine ev_iald (pc' := 148) (j := 10) (v := 0) dX8_layCut_147 rfl hs_129 rfl (Nat.le_of_ble_eq_true rfl) (Nat.le_of_ble_eq_true rfl) rfl ?_
      refine ev_iast (pc' := 149) (j := 2) (I' := (ma_up (ma_up (ma_up I 129 (ma_up (ma_up (ma_up (ma_up (ma_up (ma_up (ma_up (ma_up (ma_up (ma_up (ma_up (ma_up (I 129) 0 ((I 126) 1)) 1 (-((I 126) 0))) 2 0) 3 0) 4 0) 5 (-((I 126) 2))) 6 ((I 126) 1)) 7 0) 8 0) 9 (-((I 126) 3))) 10 0) 11 ((I 126) 1))) 130 (ma_up (ma_up (ma_up (ma_up (I 130) 0 0) 1 (-((I 126) 3))) 2 0) 3 ((I 126) 1))) 131 (ma_up (ma_up (ma_up (ma_up (I 131) 0 0) 1 (-((I 126) 2))) 2 0) 3 0))) dX8_layCut_148 rfl hs_130 rfl (Nat.le_of_ble_eq_true rfl) (Nat.le_of_ble_eq_true rfl) ((congrArg (ma_up _ 130) ((ma_up_comm _ (show 2 ≠ 3 from (by decide)) _ _).trans (congrArg (fun f => ma_up f 3 _) (ma_up_up _ _ _ _)))).trans ((ma_up_comm _ (show 130 ≠ 131 from (by decide)) _ _).trans (congrArg (fun f => ma_up f 131 _) (ma_up_up _ _ _ _)))) ?_
      refine ev_aload_n (pc' := 150) (i := 0) dX8_layCut_149 rfl rfl rfl ?_
      refine ev_getR (pc' := 153) fo_X8_61 dX8_layCut_150 rfl hs_115 rfl rf_115_22 ?_
      refine ev_iload (pc' := 155) dX8_layCut_153 rfl rfl ?_
      refine ev_aload_n (pc' := 156) (i := 0) dX8_layCut_155 rfl rfl rfl ?_
      refine ev_getR (pc' := 159) fo_X8_55 dX8_layCut_156 rfl hs_115 rfl rf_115_20 ?_
      refine ev_iconst (pc' := 160) (v := 4) dX8_layCut_159 rfl ki_4 ?_
      refine ev_iload (pc' := 162) dX8_layCut_160 rfl rfl ?_
      refine ev_imul (pc' := 163) (v := 4) dX8_layCut_162 rfl (by decide) ?_
      refine ev_iload (pc' := 165) dX8_layCut_163 rfl rfl ?_
      refine ev_iadd (pc' := 166) (v := 6) dX8_layCut_165 rfl (by decide) ?_
      refine ev_iald (pc' := 167) (j := 6) (v := (I 126) 1) dX8_layCut_166 rfl hs_129 rfl (Nat.le_of_ble_eq_true rfl) (Nat.le_of_ble_eq_true rfl) rfl ?_
      refine ev_iast (pc' := 168) (j := 2) (I' := (ma_up (ma_up (ma_up I 129 (ma_up (ma_up (ma_up (ma_up (ma_up (ma_up (ma_up (ma_up (ma_up (ma_up (ma_up (ma_up (I 129) 0 ((I 126) 1)) 1 (-((I 126) 0))) 2 0) 3 0) 4 0) 5 (-((I 126) 2))) 6 ((I 126) 1)) 7 0) 8 0) 9 (-((I 126) 3))) 10 0) 11 ((I 126) 1))) 130 (ma_up (ma_up (ma_up (ma_up (I 130) 0 0) 1 (-((I 126) 3))) 2 0) 3 ((I 126) 1))) 131 (ma_up (ma_up (ma_up (ma_up (I 131) 0 0) 1 (-((I 126) 2))) 2 ((I 126) 1)) 3 0))) dX8_layCut_167 rfl hs_131 rfl (Nat.le_of_ble_eq_true rfl) (Nat.le_of_ble_eq_true rfl) ((congrArg (ma_up _ 131) ((ma_up_comm _ (show 2 ≠ 3 from (by decide)) _ _).trans (congrArg (fun f => ma_up f 3 _) (ma_up_up _ _ _ _)))).trans (ma_up_up _ _ _ _)) ?_
      refine ev_iinc (pc' := 171) (v := 3) (lv' := [some (.ref 115), some (.int (nI q)), some (.int 1), some (.int 3), some (.int 2), some (.int 1), some (.int 3)]) dX8_layCut_168 rfl rfl (by decide) (Nat.le_of_ble_eq_true rfl) rfl rfl ?_
      refine ev_goto (tgt := 124) dX8_layCut_171 rfl ?_
      refine ev_iload (pc' := 126) dX8_layCut_124 rfl rfl ?_
      refine ev_iconst (pc' := 127) (v := 4) dX8_layCut_126 rfl ki_4 ?_
      refine ev_icmp_ge (tgt := 174) (pc' := 130) dX8_layCut_127 rfl rfl (fun h => absurd h (by decide)) (fun _ => ?_)
      refine ev_aload_n (pc' := 131) (i := 0) dX8_layCut_130 rfl rfl rfl ?_
      refine ev_getR (pc' := 134) fo_X8_58 dX8_layCut_131 rfl hs_115 rfl rf_115_21 ?_
      refine ev_iload (pc' := 136) dX8_layCut_134 rfl rfl ?_
      refine ev_aload_n (pc' := 137) (i := 0) dX8_layCut_136 rfl rfl rfl ?_
      refine ev_getR (pc' := 140) fo_X8_55 dX8_layCut_137 rfl hs_115 rfl rf_115_20 ?_
      refine ev_iconst (pc' := 141) (v := 4) dX8_layCut_140 rfl ki_4 ?_
      refine ev_iload (pc' := 143) dX8_layCut_141 rfl rfl ?_
      refine ev_imul (pc' := 144) (v := 8) dX8_layCut_143 rfl (by decide) ?_
      refine ev_iload (pc' := 146) dX8_layCut_144 rfl rfl ?_
      refine ev_iadd (pc' := 147) (v := 11) dX8_layCut_146 rfl (by decide) ?_
      refine ev_iald (pc' := 148) (j := 11) (v := (I 126) 1) dX8_layCut_147 rfl hs_129 rfl (Nat.le_of_ble_eq_true rfl) (Nat.le_of_ble_eq_true rfl) rfl ?_
      refine ev_iast (pc' := 149) (j := 3) (I' := (ma_up (ma_up (ma_up I 129 (ma_up (ma_up (ma_up (ma_up (ma_up (ma_up (ma_up (ma_up (ma_up (ma_up (ma_up (ma_up (I 129) 0 ((I 126) 1)) 1 (-((I 126) 0))) 2 0) 3 0) 4 0) 5 (-((I 126) 2))) 6 ((I 126) 1)) 7 0) 8 0) 9 (-((I 126) 3))) 10 0) 11 ((I 126) 1))) 130 (ma_up (ma_up (ma_up (ma_up (I 130) 0 0) 1 (-((I 126) 3))) 2 0) 3 ((I 126) 1))) 131 (ma_up (ma_up (ma_up (ma_up (I 131) 0 0) 1 (-((I 126) 2))) 2 ((I 126) 1)) 3 0))) dX8_layCut_148 rfl hs_130 rfl (Nat.le_of_ble_eq_true rfl) (Nat.le_of_ble_eq_true rfl) ((congrArg (ma_up _ 130) (ma_up_up _ _ _ _)).trans ((ma_up_comm _ (show 130 ≠ 131 from (by decide)) _ _).trans (congrArg (fun f => ma_up f 131 _) (ma_up_up _ _ _ _)))) ?_
      refine ev_aload_n (pc' := 150) (i := 0) dX8_layCut_149 rfl rfl rfl ?_
      refine ev_getR (pc' := 153) fo_X8_61 dX8_layCut_150 rfl hs_115 rfl rf_115_22 ?_
      refine ev_iload (pc' := 155) dX8_layCut_153 rfl rfl ?_
      refine ev_aload_n (pc' := 156) (i := 0) dX8_layCut_155 rfl rfl rfl ?_
      refine ev_getR (pc' := 159) fo_X8_55 dX8_layCut_156 rfl hs_115 rfl rf_115_20 ?_
      refine ev_iconst (pc' := 160) (v := 4) dX8_layCut_159 rfl ki_4 ?_
      refine ev_iload (pc' := 162) dX8_layCut_160 rfl rfl ?_
      refine ev_imul (pc' := 163) (v := 4) dX8_layCut_162 rfl (by decide) ?_
      refine ev_iload (pc' := 165) dX8_layCut_163 rfl rfl ?_
      refine ev_iadd (pc' := 166) (v := 7) dX8_layCut_165 rfl (by decide) ?_
      refine ev_iald (pc' := 167) (j := 7) (v := 0) dX8_layCut_166 rfl hs_129 rfl (Nat.le_of_ble_eq_true rfl) (Nat.le_of_ble_eq_true rfl) rfl ?_
      refine ev_iast (pc' := 168) (j := 3) (I' := (ma_up (ma_up (ma_up I 129 (ma_up (ma_up (ma_up (ma_up (ma_up (ma_up (ma_up (ma_up (ma_up (ma_up (ma_up (ma_up (I 129) 0 ((I 126) 1)) 1 (-((I 126) 0))) 2 0) 3 0) 4 0) 5 (-((I 126) 2))) 6 ((I 126) 1)) 7 0) 8 0) 9 (-((I 126) 3))) 10 0) 11 ((I 126) 1))) 130 (ma_up (ma_up (ma_up (ma_up (I 130) 0 0) 1 (-((I 126) 3))) 2 0) 3 ((I 126) 1))) 131 (ma_up (ma_up (ma_up (ma_up (I 131) 0 0) 1 (-((I 126) 2))) 2 ((I 126) 1)) 3 0))) dX8_layCut_167 rfl hs_131 rfl (Nat.le_of_ble_eq_true rfl) (Nat.le_of_ble_eq_true rfl) ((congrArg (ma_up _ 131) (ma_up_up _ _ _ _)).trans (ma_up_up _ _ _ _)) ?_
      refine ev_iinc (pc' := 171) (v := 4) (lv' := [some (.ref 115), some (.int (nI q)), some (.int 1), some (.int 3), some (.int 2), some (.int 1), some (.int 4)]) dX8_layCut_168 rfl rfl (by decide) (Nat.le_of_ble_eq_true rfl) rfl rfl ?_
      refine ev_goto (tgt := 124) dX8_layCut_171 rfl ?_
      refine ev_iload (pc' := 126) dX8_layCut_124 rfl rfl ?_
      refine ev_iconst (pc' := 127) (v := 4) dX8_layCut_126 rfl ki_4 ?_
      refine ev_icmp_ge (tgt := 174) (pc' := 130) dX8_layCut_127 rfl rfl (fun _ => ?_) (fun h => absurd (by decide) h)
      refine ev_aload_n (pc' := 175) (i := 0) dX8_layCut_174 rfl rfl rfl ?_
      refine ev_getR (pc' := 178) fo_X8_26 dX8_layCut_175 rfl hs_115 rfl rf_115_8 ?_
      refine ev_iconst (pc' := 179) (v := 4) dX8_layCut_178 rfl ki_4 ?_
      refine ev_iload (pc' := 181) dX8_layCut_179 rfl rfl ?_
      refine ev_imul (pc' := 182) (v := 8) dX8_layCut_181 rfl (by decide) ?_
      refine ev_iload (pc' := 184) dX8_layCut_182 rfl rfl ?_
      refine ev_iadd (pc' := 185) (v := 9) dX8_layCut_184 rfl (by decide) ?_
      refine ev_aload_n (pc' := 186) (i := 0) dX8_layCut_185 rfl rfl rfl ?_
      refine ev_iload_n (pc' := 187) (i := 1) dX8_layCut_186 rfl rfl rfl ?_
      refine ev_aload_n (pc' := 188) (i := 0) dX8_layCut_187 rfl rfl rfl ?_
      refine ev_getR (pc' := 191) fo_X8_58 dX8_layCut_188 rfl hs_115 rfl rf_115_21 ?_
      refine ev_aload_n (pc' := 192) (i := 0) dX8_layCut_191 rfl rfl rfl ?_
      refine ev_getR (pc' := 195) fo_X8_61 dX8_layCut_192 rfl hs_115 rfl rf_115_22 ?_
      refine ev_callV (pc' := 198) (rm' := rX8_both) (b := 115) (av := [.int (nI q), .ref 130, .ref 131]) (rest := [.int 9, .ref 120]) co_X8_241 ci_X8_both cv_X8_both dX8_layCut_195 rfl hs_115 hb_X8 rfl rfl (Nat.le_of_ble_eq_true rfl) ⟨(Nat.le_of_ble_eq_true rfl), (Nat.le_of_ble_eq_true rfl)⟩ ⟨(Nat.le_of_ble_eq_true rfl), (Nat.le_of_ble_eq_true rfl)⟩ ?_
      refine t_X8_both q 130 131 hq hs_130 hs_131 ?_
      refine ev_eqi (w := mBo (I 123) (mSn 1 (I 126) 2) (mSn 1 (I 126) 1) q) rfl ?_
      refine ev_i2l (pc' := 199) (v := Int32.toInt64 (mBo (I 123) (mSn 1 (I 126) 2) (mSn 1 (I 126) 1) q)) dX8_layCut_198 rfl rfl ?_
      refine ev_last (pc' := 200) (j := 9) (L' := (ma_up L 120 (ma_up (ma_up (ma_up (ma_up (ma_up (ma_up (ma_up (ma_up (L 120) 0 (Int32.toInt64 (mBo (I 123) (mSn 1 (I 126) 0) (mSn 1 (I 126) 0) q))) 1 (Int32.toInt64 (mBo (I 123) (mSn 1 (I 126) 0) (mSn 1 (I 126) 1) q))) 2 (Int32.toInt64 (mBo (I 123) (mSn 1 (I 126) 0) (mSn 1 (I 126) 2) q))) 4 (Int32.toInt64 (mBo (I 123) (mSn 1 (I 126) 1) (mSn 1 (I 126) 0) q))) 5 (Int32.toInt64 (mBo (I 123) (mSn 1 (I 126) 1) (mSn 1 (I 126) 1) q))) 6 (Int32.toInt64 (mBo (I 123) (mSn 1 (I 126) 1) (mSn 1 (I 126) 2) q))) 8 (Int32.toInt64 (mBo (I 123) (mSn 1 (I 126) 2) (mSn 1 (I 126) 0) q))) 9 (Int32.toInt64 (mBo (I 123) (mSn 1 (I 126) 2) (mSn 1 (I 126) 1) q))))) dX8_layCut_199 rfl hs_120 rfl (Nat.le_of_ble_eq_true rfl) (Nat.le_of_ble_eq_true rfl) (ma_up_up _ _ _ _) ?_
      refine ev_iinc (pc' := 203) (v := 2) (lv' := [some (.ref 115), some (.int (nI q)), some (.int 1), some (.int 3), some (.int 2), some (.int 2), some (.int 4)]) dX8_layCut_200 rfl rfl (by decide) (Nat.le_of_ble_eq_true rfl) rfl rfl ?_
      refine ev_goto (tgt := 115) dX8_layCut_203 rfl ?_
      refine ev_iload (pc' := 117) dX8_layCut_115 rfl rfl ?_
      refine ev_iconst (pc' := 118) (v := 3) dX8_layCut_117 rfl ki_3 ?_
      refine ev_icmp_ge (tgt := 206) (pc' := 121) dX8_layCut_118 rfl rfl (fun h => absurd h (by decide)) (fun _ => ?_)
      refine ev_iconst (pc' := 122) (v := 0) dX8_layCut_121 rfl ki_0 ?_
      refine ev_istore (pc' := 124) (lv' := [some (.ref 115), some (.int (nI q)), some (.int 1), some (.int 3), some (.int 2), some (.int 2), some (.int 0)]) dX8_layCut_122 rfl (Nat.le_of_ble_eq_true rfl) rfl rfl ?_
      refine ev_iload (pc' := 126) dX8_layCut_124 rfl rfl ?_
      refine ev_iconst (pc' := 127) (v := 4) dX8_layCut_126 rfl ki_4 ?_
      refine ev_icmp_ge (tgt := 174) (pc' := 130) dX8_layCut_127 rfl rfl (fun h => absurd h (by decide)) (fun _ => ?_)
      refine ev_aload_n (pc' := 131) (i := 0) dX8_layCut_130 rfl rfl rfl ?_
      refine ev_getR (pc' := 134) fo_X8_58 dX8_layCut_131 rfl hs_115 rfl rf_115_21 ?_
      refine ev_iload (pc' := 136) dX8_layCut_134 rfl rfl ?_
      refine ev_aload_n (pc' := 137) (i := 0) dX8_layCut_136 rfl rfl rfl ?_
      refine ev_getR (pc' := 140) fo_X8_55 dX8_layCut_137 rfl hs_115 rfl rf_115_20 ?_
      refine ev_iconst (pc' := 141) (v := 4) dX8_layCut_140 rfl ki_4 ?_
      refine ev_iload (pc' := 143) dX8_layCut_141 rfl rfl ?_
      refine ev_imul (pc' := 144) (v := 8) dX8_layCut_143 rfl (by decide) ?_
      refine ev_iload (pc' := 146) dX8_layCut_144 rfl rfl ?_
      refine ev_iadd (pc' := 147) (v := 8) dX8_layCut_146 rfl (by decide) ?_
      refine ev_iald (pc' := 148) (j := 8) (v := 0) dX8_layCut_147 rfl hs_129 rfl (Nat.le_of_ble_eq_true rfl) (Nat.le_of_ble_eq_true rfl) rfl ?_
      refine ev_iast (pc' := 149) (j := 0) (I' := (ma_up (ma_up (ma_up I 129 (ma_up (ma_up (ma_up (ma_up (ma_up (ma_up (ma_up (ma_up (ma_up (ma_up (ma_up (ma_up (I 129) 0 ((I 126) 1)) 1 (-((I 126) 0))) 2 0) 3 0) 4 0) 5 (-((I 126) 2))) 6 ((I 126) 1)) 7 0) 8 0) 9 (-((I 126) 3))) 10 0) 11 ((I 126) 1))) 130 (ma_up (ma_up (ma_up (ma_up (I 130) 0 0) 1 (-((I 126) 3))) 2 0) 3 ((I 126) 1))) 131 (ma_up (ma_up (ma_up (ma_up (I 131) 0 0) 1 (-((I 126) 2))) 2 ((I 126) 1)) 3 0))) dX8_layCut_148 rfl hs_130 rfl (Nat.le_of_ble_eq_true rfl) (Nat.le_of_ble_eq_true rfl) ((congrArg (ma_up _ 130) ((ma_up_comm _ (show 0 ≠ 3 from (by decide)) _ _).trans (congrArg (fun f => ma_up f 3 _) ((ma_up_comm _ (show 0 ≠ 2 from (by decide)) _ _).trans (congrArg (fun f => ma_up f 2 _) ((ma_up_comm _ (show 0 ≠ 1 from (by decide)) _ _).trans (congrArg (fun f => ma_up f 1 _) (ma_up_up _ _ _ _)))))))).trans ((ma_up_comm _ (show 130 ≠ 131 from (by decide)) _ _).trans (congrArg (fun f => ma_up f 131 _) (ma_up_up _ _ _ _)))) ?_
      refine ev_aload_n (pc' := 150) (i := 0) dX8_layCut_149 rfl rfl rfl ?_
      refine ev_getR (pc' := 153) fo_X8_61 dX8_layCut_150 rfl hs_115 rfl rf_115_22 ?_
      refine ev_iload (pc' := 155) dX8_layCut_153 rfl rfl ?_
      refine ev_aload_n (pc' := 156) (i := 0) dX8_layCut_155 rfl rfl rfl ?_
      refine ev_getR (pc' := 159) fo_X8_55 dX8_layCut_156 rfl hs_115 rfl rf_115_20 ?_
      refine ev_iconst (pc' := 160) (v := 4) dX8_layCut_159 rfl ki_4 ?_
      refine ev_iload (pc' := 162) dX8_layCut_160 rfl rfl ?_
      refine ev_imul (pc' := 163) (v := 8) dX8_layCut_162 rfl (by decide) ?_
      refine ev_iload (pc' := 165) dX8_layCut_163 rfl rfl ?_
      refine ev_iadd (pc' := 166) (v := 8) dX8_layCut_165 rfl (by decide) ?_
      refine ev_iald (pc' := 167) (j := 8) (v := 0) dX8_layCut_166 rfl hs_129 rfl (Nat.le_of_ble_eq_true rfl) (Nat.le_of_ble_eq_true rfl) rfl ?_
      refine ev_iast (pc' := 168) (j := 0) (I' := (ma_up (ma_up (ma_up I 129 (ma_up (ma_up (ma_up (ma_up (ma_up (ma_up (ma_up (ma_up (ma_up (ma_up (ma_up (ma_up (I 129) 0 ((I 126) 1)) 1 (-((I 126) 0))) 2 0) 3 0) 4 0) 5 (-((I 126) 2))) 6 ((I 126) 1)) 7 0) 8 0) 9 (-((I 126) 3))) 10 0) 11 ((I 126) 1))) 130 (ma_up (ma_up (ma_up (ma_up (I 130) 0 0) 1 (-((I 126) 3))) 2 0) 3 ((I 126) 1))) 131 (ma_up (ma_up (ma_up (ma_up (I 131) 0 0) 1 (-((I 126) 2))) 2 ((I 126) 1)) 3 0))) dX8_layCut_167 rfl hs_131 rfl (Nat.le_of_ble_eq_true rfl) (Nat.le_of_ble_eq_true rfl) ((congrArg (ma_up _ 131) ((ma_up_comm _ (show 0 ≠ 3 from (by decide)) _ _).trans (congrArg (fun f => ma_up f 3 _) ((ma_up_comm _ (show 0 ≠ 2 from (by decide)) _ _).trans (congrArg (fun f => ma_up f 2 _) ((ma_up_comm _ (show 0 ≠ 1 from (by decide)) _ _).trans (congrArg (fun f => ma_up f 1 _) (ma_up_up _ _ _ _)))))))).trans (ma_up_up _ _ _ _)) ?_
      refine ev_iinc (pc' := 171) (v := 1) (lv' := [some (.ref 115), some (.int (nI q)), some (.int 1), some (.int 3), some (.int 2), some (.int 2), some (.int 1)]) dX8_layCut_168 rfl rfl (by decide) (Nat.le_of_ble_eq_true rfl) rfl rfl ?_
      refine ev_goto (tgt := 124) dX8_layCut_171 rfl ?_
      refine ev_iload (pc' := 126) dX8_layCut_124 rfl rfl ?_
      refine ev_iconst (pc' := 127) (v := 4) dX8_layCut_126 rfl ki_4 ?_
      refine ev_icmp_ge (tgt := 174) (pc' := 130) dX8_layCut_127 rfl rfl (fun h => absurd h (by decide)) (fun _ => ?_)
      refine ev_aload_n (pc' := 131) (i := 0) dX8_layCut_130 rfl rfl rfl ?_
      refine ev_getR (pc' := 134) fo_X8_58 dX8_layCut_131 rfl hs_115 rfl rf_115_21 ?_
      refine ev_iload (pc' := 136) dX8_layCut_134 rfl rfl ?_
      refine ev_aload_n (pc' := 137) (i := 0) dX8_layCut_136 rfl rfl rfl ?_
      refine ev_getR (pc' := 140) fo_X8_55 dX8_layCut_137 rfl hs_115 rfl rf_115_20 ?_
      refine ev_iconst (pc' := 141) (v := 4) dX8_layCut_140 rfl ki_4 ?_
      refine ev_iload (pc' := 143) dX8_layCut_141 rfl rfl ?_
      refine ev_imul (pc' := 144) (v := 8) dX8_layCut_143 rfl (by decide) ?_
      refine ev_iload (pc' := 146) dX8_layCut_144 rfl rfl ?_
      refine ev_iadd (pc' := 147) (v := 9) dX8_layCut_146 rfl (by decide) ?_
      refine ev_iald (pc' := 148) (j := 9) (v := -((I 126) 3)) dX8_layCut_147 rfl hs_129 rfl (Nat.le_of_ble_eq_true rfl) (Nat.le_of_ble_eq_true rfl) rfl ?_
      refine ev_iast (pc' := 149) (j := 1) (I' := (ma_up (ma_up (ma_up I 129 (ma_up (ma_up (ma_up (ma_up (ma_up (ma_up (ma_up (ma_up (ma_up (ma_up (ma_up (ma_up (I 129) 0 ((I 126) 1)) 1 (-((I 126) 0))) 2 0) 3 0) 4 0) 5 (-((I 126) 2))) 6 ((I 126) 1)) 7 0) 8 0) 9 (-((I 126) 3))) 10 0) 11 ((I 126) 1))) 130 (ma_up (ma_up (ma_up (ma_up (I 130) 0 0) 1 (-((I 126) 3))) 2 0) 3 ((I 126) 1))) 131 (ma_up (ma_up (ma_up (ma_up (I 131) 0 0) 1 (-((I 126) 2))) 2 ((I 126) 1)) 3 0))) dX8_layCut_148 rfl hs_130 rfl (Nat.le_of_ble_eq_true rfl) (Nat.le_of_ble_eq_true rfl) ((congrArg (ma_up _ 130) ((ma_up_comm _ (show 1 ≠ 3 from (by decide)) _ _).trans (congrArg (fun f => ma_up f 3 _) ((ma_up_comm _ (show 1 ≠ 2 from (by decide)) _ _).trans (congrArg (fun f => ma_up f 2 _) (ma_up_up _ _ _ _)))))).trans ((ma_up_comm _ (show 130 ≠ 131 from (by decide)) _ _).trans (congrArg (fun f => ma_up f 131 _) (ma_up_up _ _ _ _)))) ?_
      refine ev_aload_n (pc' := 150) (i := 0) dX8_layCut_149 rfl rfl rfl ?_
      refine ev_getR (pc' := 153) fo_X8_61 dX8_layCut_150 rfl hs_115 rfl rf_115_22 ?_
      refine ev_iload (pc' := 155) dX8_layCut_153 rfl rfl ?_
      refine ev_aload_n (pc' := 156) (i := 0) dX8_layCut_155 rfl rfl rfl ?_
      refine ev_getR (pc' := 159) fo_X8_55 dX8_layCut_156 rfl hs_115 rfl rf_115_20 ?_
      refine ev_iconst (pc' := 160) (v := 4) dX8_layCut_159 rfl ki_4 ?_
      refine ev_iload (pc' := 162) dX8_layCut_160 rfl rfl ?_
      refine ev_imul (pc' := 163) (v := 8) dX8_layCut_162 rfl (by decide) ?_
      refine ev_iload (pc' := 165) dX8_layCut_163 rfl rfl ?_
      refine ev_iadd (pc' := 166) (v := 9) dX8_layCut_165 rfl (by decide) ?_
      refine ev_iald (pc' := 167) (j := 9) (v := -((I 126) 3)) dX8_layCut_166 rfl hs_129 rfl (Nat.le_of_ble_eq_true rfl) (Nat.le_of_ble_eq_true rfl) rfl ?_
      refine ev_iast (pc' := 168) (j := 1) (I' := (ma_up (ma_up (ma_up I 129 (ma_up (ma_up (ma_up (ma_up (ma_up (ma_up (ma_up (ma_up (ma_up (ma_up (ma_up (ma_up (I 129) 0 ((I 126) 1)) 1 (-((I 126) 0))) 2 0) 3 0) 4 0) 5 (-((I 126) 2))) 6 ((I 126) 1)) 7 0) 8 0) 9 (-((I 126) 3))) 10 0) 11 ((I 126) 1))) 130 (ma_up (ma_up (ma_up (ma_up (I 130) 0 0) 1 (-((I 126) 3))) 2 0) 3 ((I 126) 1))) 131 (ma_up (ma_up (ma_up (ma_up (I 131) 0 0) 1 (-((I 126) 3))) 2 ((I 126) 1)) 3 0))) dX8_layCut_167 rfl hs_131 rfl (Nat.le_of_ble_eq_true rfl) (Nat.le_of_ble_eq_true rfl) ((congrArg (ma_up _ 131) ((ma_up_comm _ (show 1 ≠ 3 from (by decide)) _ _).trans (congrArg (fun f => ma_up f 3 _) ((ma_up_comm _ (show 1 ≠ 2 from (by decide)) _ _).trans (congrArg (fun f => ma_up f 2 _) (ma_up_up _ _ _ _)))))).trans (ma_up_up _ _ _ _)) ?_
      refine ev_iinc (pc' := 171) (v := 2) (lv' := [some (.ref 115), some (.int (nI q)), some (.int 1), some (.int 3), some (.int 2), some (.int 2), some (.int 2)]) dX8_layCut_168 rfl rfl (by decide) (Nat.le_of_ble_eq_true rfl) rfl rfl ?_
      refine ev_goto (tgt := 124) dX8_layCut_171 rfl ?_
      refine ev_iload (pc' := 126) dX8_layCut_124 rfl rfl ?_
      refine ev_iconst (pc' := 127) (v := 4) dX8_layCut_126 rfl ki_4 ?_
      refine ev_icmp_ge (tgt := 174) (pc' := 130) dX8_layCut_127 rfl rfl (fun h => absurd h (by decide)) (fun _ => ?_)
      refine ev_aload_n (pc' := 131) (i := 0) dX8_layCut_130 rfl rfl rfl ?_
      refine ev_getR (pc' := 134) fo_X8_58 dX8_layCut_131 rfl hs_115 rfl rf_115_21 ?_
      refine ev_iload (pc' := 136) dX8_layCut_134 rfl rfl ?_
      refine ev_aload_n (pc' := 137) (i := 0) dX8_layCut_136 rfl rfl rfl ?_
      refine ev_getR (pc' := 140) fo_X8_55 dX8_layCut_137 rfl hs_115 rfl rf_115_20 ?_
      refine ev_iconst (pc' := 141) (v := 4) dX8_layCut_140 rfl ki_4 ?_
      refine ev_iload (pc' := 143) dX8_layCut_141 rfl rfl ?_
      refine ev_imul (pc' := 144) (v := 8) dX8_layCut_143 rfl (by decide) ?_
      refine ev_iload (pc' := 146) dX8_layCut_144 rfl rfl ?_
      refine ev_iadd (pc' := 147) (v := 10) dX8_layCut_146 rfl (by decide) ?_
      refine ev_iald (pc' := 148) (j := 10) (v := 0) dX8_layCut_147 rfl hs_129 rfl (Nat.le_of_ble_eq_true rfl) (Nat.le_of_ble_eq_true rfl) rfl ?_
      refine ev_iast (pc' := 149) (j := 2) (I' := (ma_up (ma_up (ma_up I 129 (ma_up (ma_up (ma_up (ma_up (ma_up (ma_up (ma_up (ma_up (ma_up (ma_up (ma_up (ma_up (I 129) 0 ((I 126) 1)) 1 (-((I 126) 0))) 2 0) 3 0) 4 0) 5 (-((I 126) 2))) 6 ((I 126) 1)) 7 0) 8 0) 9 (-((I 126) 3))) 10 0) 11 ((I 126) 1))) 130 (ma_up (ma_up (ma_up (ma_up (I 130) 0 0) 1 (-((I 126) 3))) 2 0) 3 ((I 126) 1))) 131 (ma_up (ma_up (ma_up (ma_up (I 131) 0 0) 1 (-((I 126) 3))) 2 ((I 126) 1)) 3 0))) dX8_layCut_148 rfl hs_130 rfl (Nat.le_of_ble_eq_true rfl) (Nat.le_of_ble_eq_true rfl) ((congrArg (ma_up _ 130) ((ma_up_comm _ (show 2 ≠ 3 from (by decide)) _ _).trans (congrArg (fun f => ma_up f 3 _) (ma_up_up _ _ _ _)))).trans ((ma_up_comm _ (show 130 ≠ 131 from (by decide)) _ _).trans (congrArg (fun f => ma_up f 131 _) (ma_up_up _ _ _ _)))) ?_
      refine ev_aload_n (pc' := 150) (i := 0) dX8_layCut_149 rfl rfl rfl ?_
      refine ev_getR (pc' := 153) fo_X8_61 dX8_layCut_150 rfl hs_115 rfl rf_115_22 ?_
      refine ev_iload (pc' := 155) dX8_layCut_153 rfl rfl ?_
      refine ev_aload_n (pc' := 156) (i := 0) dX8_layCut_155 rfl rfl rfl ?_
      refine ev_getR (pc' := 159) fo_X8_55 dX8_layCut_156 rfl hs_115 rfl rf_115_20 ?_
      refine ev_iconst (pc' := 160) (v := 4) dX8_layCut_159 rfl ki_4 ?_
      refine ev_iload (pc' := 162) dX8_layCut_160 rfl rfl ?_
      refine ev_imul (pc' := 163) (v := 8) dX8_layCut_162 rfl (by decide) ?_
      refine ev_iload (pc' := 165) dX8_layCut_163 rfl rfl ?_
      refine ev_iadd (pc' := 166) (v := 10) dX8_layCut_165 rfl (by decide) ?_
      refine ev_iald (pc' := 167) (j := 10) (v := 0) dX8_layCut_166 rfl hs_129 rfl (Nat.le_of_ble_eq_true rfl) (Nat.le_of_ble_eq_true rfl) rfl ?_
      refine ev_iast (pc' := 168) (j := 2) (I' := (ma_up (ma_up (ma_up I 129 (ma_up (ma_up (ma_up (ma_up (ma_up (ma_up (ma_up (ma_up (ma_up (ma_up (ma_up (ma_up (I 129) 0 ((I 126) 1)) 1 (-((I 126) 0))) 2 0) 3 0) 4 0) 5 (-((I 126) 2))) 6 ((I 126) 1)) 7 0) 8 0) 9 (-((I 126) 3))) 10 0) 11 ((I 126) 1))) 130 (ma_up (ma_up (ma_up (ma_up (I 130) 0 0) 1 (-((I 126) 3))) 2 0) 3 ((I 126) 1))) 131 (ma_up (ma_up (ma_up (ma_up (I 131) 0 0) 1 (-((I 126) 3))) 2 0) 3 0))) dX8_layCut_167 rfl hs_131 rfl (Nat.le_of_ble_eq_true rfl) (Nat.le_of_ble_eq_true rfl) ((congrArg (ma_up _ 131) ((ma_up_comm _ (show 2 ≠ 3 from (by decide)) _ _).trans (congrArg (fun f => ma_up f 3 _) (ma_up_up _ _ _ _)))).trans (ma_up_up _ _ _ _)) ?_
      refine ev_iinc (pc' := 171) (v := 3) (lv' := [some (.ref 115), some (.int (nI q)), some (.int 1), some (.int 3), some (.int 2), some (.int 2), some (.int 3)]) dX8_layCut_168 rfl rfl (by decide) (Nat.le_of_ble_eq_true rfl) rfl rfl ?_
      refine ev_goto (tgt := 124) dX8_layCut_171 rfl ?_
      refine ev_iload (pc' := 126) dX8_layCut_124 rfl rfl ?_
      refine ev_iconst (pc' := 127) (v := 4) dX8_layCut_126 rfl ki_4 ?_
      refine ev_icmp_ge (tgt := 174) (pc' := 130) dX8_layCut_127 rfl rfl (fun h => absurd h (by decide)) (fun _ => ?_)
      refine ev_aload_n (pc' := 131) (i := 0) dX8_layCut_130 rfl rfl rfl ?_
      refine ev_getR (pc' := 134) fo_X8_58 dX8_layCut_131 rfl hs_115 rfl rf_115_21 ?_
      refine ev_iload (pc' := 136) dX8_layCut_134 rfl rfl ?_
      refine ev_aload_n (pc' := 137) (i := 0) dX8_layCut_136 rfl rfl rfl ?_
      refine ev_getR (pc' := 140) fo_X8_55 dX8_layCut_137 rfl hs_115 rfl rf_115_20 ?_
      refine ev_iconst (pc' := 141) (v := 4) dX8_layCut_140 rfl ki_4 ?_
      refine ev_iload (pc' := 143) dX8_layCut_141 rfl rfl ?_
      refine ev_imul (pc' := 144) (v := 8) dX8_layCut_143 rfl (by decide) ?_
      refine ev_iload (pc' := 146) dX8_layCut_144 rfl rfl ?_
      refine ev_iadd (pc' := 147) (v := 11) dX8_layCut_146 rfl (by decide) ?_
      refine ev_iald (pc' := 148) (j := 11) (v := (I 126) 1) dX8_layCut_147 rfl hs_129 rfl (Nat.le_of_ble_eq_true rfl) (Nat.le_of_ble_eq_true rfl) rfl ?_
      refine ev_iast (pc' := 149) (j := 3) (I' := (ma_up (ma_up (ma_up I 129 (ma_up (ma_up (ma_up (ma_up (ma_up (ma_up (ma_up (ma_up (ma_up (ma_up (ma_up (ma_up (I 129) 0 ((I 126) 1)) 1 (-((I 126) 0))) 2 0) 3 0) 4 0) 5 (-((I 126) 2))) 6 ((I 126) 1)) 7 0) 8 0) 9 (-((I 126) 3))) 10 0) 11 ((I 126) 1))) 130 (ma_up (ma_up (ma_up (ma_up (I 130) 0 0) 1 (-((I 126) 3))) 2 0) 3 ((I 126) 1))) 131 (ma_up (ma_up (ma_up (ma_up (I 131) 0 0) 1 (-((I 126) 3))) 2 0) 3 0))) dX8_layCut_148 rfl hs_130 rfl (Nat.le_of_ble_eq_true rfl) (Nat.le_of_ble_eq_true rfl) ((congrArg (ma_up _ 130) (ma_up_up _ _ _ _)).trans ((ma_up_comm _ (show 130 ≠ 131 from (by decide)) _ _).trans (congrArg (fun f => ma_up f 131 _) (ma_up_up _ _ _ _)))) ?_
      refine ev_aload_n (pc' := 150) (i := 0) dX8_layCut_149 rfl rfl rfl ?_
      refine ev_getR (pc' := 153) fo_X8_61 dX8_layCut_150 rfl hs_115 rfl rf_115_22 ?_
      refine ev_iload (pc' := 155) dX8_layCut_153 rfl rfl ?_
      refine ev_aload_n (pc' := 156) (i := 0) dX8_layCut_155 rfl rfl rfl ?_
      refine ev_getR (pc' := 159) fo_X8_55 dX8_layCut_156 rfl hs_115 rfl rf_115_20 ?_
      refine ev_iconst (pc' := 160) (v := 4) dX8_layCut_159 rfl ki_4 ?_
      refine ev_iload (pc' := 162) dX8_layCut_160 rfl rfl ?_
      refine ev_imul (pc' := 163) (v := 8) dX8_layCut_162 rfl (by decide) ?_
      refine ev_iload (pc' := 165) dX8_layCut_163 rfl rfl ?_
      refine ev_iadd (pc' := 166) (v := 11) dX8_layCut_165 rfl (by decide) ?_
      refine ev_iald (pc' := 167) (j := 11) (v := (I 126) 1) dX8_layCut_166 rfl hs_129 rfl (Nat.le_of_ble_eq_true rfl) (Nat.le_of_ble_eq_true rfl) rfl ?_
      refine ev_iast (pc' := 168) (j := 3) (I' := (ma_up (ma_up (ma_up I 129 (ma_up (ma_up (ma_up (ma_up (ma_up (ma_up (ma_up (ma_up (ma_up (ma_up (ma_up (ma_up (I 129) 0 ((I 126) 1)) 1 (-((I 126) 0))) 2 0) 3 0) 4 0) 5 (-((I 126) 2))) 6 ((I 126) 1)) 7 0) 8 0) 9 (-((I 126) 3))) 10 0) 11 ((I 126) 1))) 130 (ma_up (ma_up (ma_up (ma_up (I 130) 0 0) 1 (-((I 126) 3))) 2 0) 3 ((I 126) 1))) 131 (ma_up (ma_up (ma_up (ma_up (I 131) 0 0) 1 (-((I 126) 3))) 2 0) 3 ((I 126) 1)))) dX8_layCut_167 rfl hs_131 rfl (Nat.le_of_ble_eq_true rfl) (Nat.le_of_ble_eq_true rfl) ((congrArg (ma_up _ 131) (ma_up_up _ _ _ _)).trans (ma_up_up _ _ _ _)) ?_
      refine ev_iinc (pc' := 171) (v := 4) (lv' := [some (.ref 115), some (.int (nI q)), some (.int 1), some (.int 3), some (.int 2), some (.int 2), some (.int 4)]) dX8_layCut_168 rfl rfl (by decide) (Nat.le_of_ble_eq_true rfl) rfl rfl ?_
      refine ev_goto (tgt := 124) dX8_layCut_171 rfl ?_
      refine ev_iload (pc' := 126) dX8_layCut_124 rfl rfl ?_
      refine ev_iconst (pc' := 127) (v := 4) dX8_layCut_126 rfl ki_4 ?_
      refine ev_icmp_ge (tgt := 174) (pc' := 130) dX8_layCut_127 rfl rfl (fun _ => ?_) (fun h => absurd (by decide) h)
      refine ev_aload_n (pc' := 175) (i := 0) dX8_layCut_174 rfl rfl rfl ?_
      refine ev_getR (pc' := 178) fo_X8_26 dX8_layCut_175 rfl hs_115 rfl rf_115_8 ?_
      refine ev_iconst (pc' := 179) (v := 4) dX8_layCut_178 rfl ki_4 ?_
      refine ev_iload (pc' := 181) dX8_layCut_179 rfl rfl ?_
      refine ev_imul (pc' := 182) (v := 8) dX8_layCut_181 rfl (by decide) ?_
      refine ev_iload (pc' := 184) dX8_layCut_182 rfl rfl ?_
      refine ev_iadd (pc' := 185) (v := 10) dX8_layCut_184 rfl (by decide) ?_
      refine ev_aload_n (pc' := 186) (i := 0) dX8_layCut_185 rfl rfl rfl ?_
      refine ev_iload_n (pc' := 187) (i := 1) dX8_layCut_186 rfl rfl rfl ?_
      refine ev_aload_n (pc' := 188) (i := 0) dX8_layCut_187 rfl rfl rfl ?_
      refine ev_getR (pc' := 191) fo_X8_58 dX8_layCut_188 rfl hs_115 rfl rf_115_21 ?_
      refine ev_aload_n (pc' := 192) (i := 0) dX8_layCut_191 rfl rfl rfl ?_
      refine ev_getR (pc' := 195) fo_X8_61 dX8_layCut_192 rfl hs_115 rfl rf_115_22 ?_
      refine ev_callV (pc' := 198) (rm' := rX8_both) (b := 115) (av := [.int (nI q), .ref 130, .ref 131]) (rest := [.int 10, .ref 120]) co_X8_241 ci_X8_both cv_X8_both dX8_layCut_195 rfl hs_115 hb_X8 rfl rfl (Nat.le_of_ble_eq_true rfl) ⟨(Nat.le_of_ble_eq_true rfl), (Nat.le_of_ble_eq_true rfl)⟩ ⟨(Nat.le_of_ble_eq_true rfl), (Nat.le_of_ble_eq_true rfl)⟩ ?_
      refine t_X8_both q 130 131 hq hs_130 hs_131 ?_
      refine ev_eqi (w := mBo (I 123) (mSn 1 (I 126) 2) (mSn 1 (I 126) 2) q) rfl ?_
      refine ev_i2l (pc' := 199) (v := Int32.toInt64 (mBo (I 123) (mSn 1 (I 126) 2) (mSn 1 (I 126) 2) q)) dX8_layCut_198 rfl rfl ?_
      refine ev_last (pc' := 200) (j := 10) (L' := (ma_up L 120 (ma_up (ma_up (ma_up (ma_up (ma_up (ma_up (ma_up (ma_up (ma_up (L 120) 0 (Int32.toInt64 (mBo (I 123) (mSn 1 (I 126) 0) (mSn 1 (I 126) 0) q))) 1 (Int32.toInt64 (mBo (I 123) (mSn 1 (I 126) 0) (mSn 1 (I 126) 1) q))) 2 (Int32.toInt64 (mBo (I 123) (mSn 1 (I 126) 0) (mSn 1 (I 126) 2) q))) 4 (Int32.toInt64 (mBo (I 123) (mSn 1 (I 126) 1) (mSn 1 (I 126) 0) q))) 5 (Int32.toInt64 (mBo (I 123) (mSn 1 (I 126) 1) (mSn 1 (I 126) 1) q))) 6 (Int32.toInt64 (mBo (I 123) (mSn 1 (I 126) 1) (mSn 1 (I 126) 2) q))) 8 (Int32.toInt64 (mBo (I 123) (mSn 1 (I 126) 2) (mSn 1 (I 126) 0) q))) 9 (Int32.toInt64 (mBo (I 123) (mSn 1 (I 126) 2) (mSn 1 (I 126) 1) q))) 10 (Int32.toInt64 (mBo (I 123) (mSn 1 (I 126) 2) (mSn 1 (I 126) 2) q))))) dX8_layCut_199 rfl hs_120 rfl (Nat.le_of_ble_eq_true rfl) (Nat.le_of_ble_eq_true rfl) (ma_up_up _ _ _ _) ?_
      refine ev_iinc (pc' := 203) (v := 3) (lv' := [some (.ref 115), some (.int (nI q)), some (.int 1), some (.int 3), some (.int 2), some (.int 3), some (.int 4)]) dX8_layCut_200 rfl rfl (by decide) (Nat.le_of_ble_eq_true rfl) rfl rfl ?_
      refine ev_goto (tgt := 115) dX8_layCut_203 rfl ?_
      refine ev_iload (pc' := 117) dX8_layCut_115 rfl rfl ?_
      refine ev_iconst (pc' := 118) (v := 3) dX8_layCut_117 rfl ki_3 ?_
      refine ev_icmp_ge (tgt := 206) (pc' := 121) dX8_layCut_118 rfl rfl (fun _ => ?_) (fun h => absurd (by decide) h)
      refine ev_iinc (pc' := 209) (v := 3) (lv' := [some (.ref 115), some (.int (nI q)), some (.int 1), some (.int 3), some (.int 3), some (.int 3), some (.int 4)]) dX8_layCut_206 rfl rfl (by decide) (Nat.le_of_ble_eq_true rfl) rfl rfl ?_
      refine ev_goto (tgt := 106) dX8_layCut_209 rfl ?_
      refine ev_iload (pc' := 108) dX8_layCut_106 rfl rfl ?_
      refine ev_iconst (pc' := 109) (v := 3) dX8_layCut_108 rfl ki_3 ?_
      refine ev_icmp_ge (tgt := 212) (pc' := 112) dX8_layCut_109 rfl rfl (fun _ => ?_) (fun h => absurd (by decide) h)
      refine ev_aload_n (pc' := 213) (i := 0) dX8_layCut_212 rfl rfl rfl ?_
      refine ev_callV (pc' := 216) (rm' := rX8_layThree) (b := 115) (av := []) (rest := []) co_X8_191 ci_X8_layThree cv_X8_layThree dX8_layCut_213 rfl hs_115 hb_X8 rfl rfl (Nat.le_of_ble_eq_true rfl) ⟨(Nat.le_of_ble_eq_true rfl), (Nat.le_of_ble_eq_true rfl)⟩ ⟨(Nat.le_of_ble_eq_true rfl), (Nat.le_of_ble_eq_true rfl)⟩ ?_
      refine f_X8_layThree (fun J9 f1 f2 f3 => ?_)
      have f1 : J9 115 9 = mTA (mCu (I 123) q 1 (I 126)) := f1
      have f2 : J9 115 10 = mTB (mCu (I 123) q 1 (I 126)) := f2
      refine ev_vret dX8_layCut_216 rfl ⟨Nat.le_refl _, Nat.le_refl _⟩ ?_
      exact k0 1 J9 _ (by omega) c2 (pt_all (fun j hj => absurd hj (Nat.not_lt_zero j)) c1) f1 f2 ((((((mSx.rf (I := I)).le (A' := [129, 130, 131]) (B' := []) (fun _ h => absurd h List.not_mem_nil) (fun _ h => absurd h List.not_mem_nil)).up (by simp) (by decide)).up (by simp) (by decide)).up (by simp) (by decide)).trans f3) (mSl.up (mSl.rf.le (fun _ h => absurd h List.not_mem_nil)) List.mem_cons_self)
    · refine ev_iinc (pc' := 14) (v := 2) (lv' := [some (.ref 115), some (.int (nI q)), some (.int 2), none, none, none, none]) dX8_layCut_11 rfl rfl (by decide) (Nat.le_of_ble_eq_true rfl) rfl rfl ?_
      refine ev_goto (tgt := 2) dX8_layCut_14 rfl ?_
      refine ev_aload_n (pc' := 3) (i := 0) dX8_layCut_2 rfl rfl rfl ?_
      refine ev_getR (pc' := 6) fo_X8_46 dX8_layCut_3 rfl hs_115 rfl rf_115_16 ?_
      refine ev_iload_n (pc' := 7) (i := 2) dX8_layCut_6 rfl rfl rfl ?_
      refine ev_iald (pc' := 8) (j := 2) (v := (I 126) 2) dX8_layCut_7 rfl hs_126 rfl (Nat.le_of_ble_eq_true rfl) (Nat.le_of_ble_eq_true rfl) rfl ?_
      refine ev_if_ne (tgt := 17) (pc' := 11) dX8_layCut_8 rfl rfl (fun c3 => ?_) (fun c3 => ?_)
      · refine ev_iconst (pc' := 18) (v := 0) dX8_layCut_17 rfl ki_0 ?_
        refine ev_istore_n (pc' := 19) (i := 3) (lv' := [some (.ref 115), some (.int (nI q)), some (.int 2), some (.int 0), none, none, none]) dX8_layCut_18 rfl rfl (Nat.le_of_ble_eq_true rfl) rfl rfl ?_
        refine ev_iconst (pc' := 20) (v := 0) dX8_layCut_19 rfl ki_0 ?_
        refine ev_istore (pc' := 22) (lv' := [some (.ref 115), some (.int (nI q)), some (.int 2), some (.int 0), some (.int 0), none, none]) dX8_layCut_20 rfl (Nat.le_of_ble_eq_true rfl) rfl rfl ?_
        refine ev_iload (pc' := 24) dX8_layCut_22 rfl rfl ?_
        refine ev_iconst (pc' := 25) (v := 4) dX8_layCut_24 rfl ki_4 ?_
        refine ev_icmp_ge (tgt := 103) (pc' := 28) dX8_layCut_25 rfl rfl (fun h => absurd h (by decide)) (fun _ => ?_)
        refine ev_iload (pc' := 30) dX8_layCut_28 rfl rfl ?_
        refine ev_iload_n (pc' := 31) (i := 2) dX8_layCut_30 rfl rfl rfl ?_
        refine ev_icmp_eq (tgt := 97) (pc' := 34) dX8_layCut_31 rfl rfl (fun h => absurd h (by decide)) (fun _ => ?_)
        refine ev_iconst (pc' := 35) (v := 0) dX8_layCut_34 rfl ki_0 ?_
        refine ev_istore (pc' := 37) (lv' := [some (.ref 115), some (.int (nI q)), some (.int 2), some (.int 0), some (.int 0), some (.int 0), none]) dX8_layCut_35 rfl (Nat.le_of_ble_eq_true rfl) rfl rfl ?_
        refine ev_iload (pc' := 39) dX8_layCut_37 rfl rfl ?_
        refine ev_iconst (pc' := 40) (v := 4) dX8_layCut_39 rfl ki_4 ?_
        refine ev_icmp_ge (tgt := 94) (pc' := 43) dX8_layCut_40 rfl rfl (fun h => absurd h (by decide)) (fun _ => ?_)
        refine ev_aload_n (pc' := 44) (i := 0) dX8_layCut_43 rfl rfl rfl ?_
        refine ev_getR (pc' := 47) fo_X8_55 dX8_layCut_44 rfl hs_115 rfl rf_115_20 ?_
        refine ev_iconst (pc' := 48) (v := 4) dX8_layCut_47 rfl ki_4 ?_
        refine ev_iload_n (pc' := 49) (i := 3) dX8_layCut_48 rfl rfl rfl ?_
        refine ev_imul (pc' := 50) (v := 0) dX8_layCut_49 rfl (by decide) ?_
        refine ev_iload (pc' := 52) dX8_layCut_50 rfl rfl ?_
        refine ev_iadd (pc' := 53) (v := 0) dX8_layCut_52 rfl (by decide) ?_
        refine ev_iload (pc' := 55) dX8_layCut_53 rfl rfl ?_
        refine ev_iload (pc' := 57) dX8_layCut_55 rfl rfl ?_
        refine ev_icmp_ne (tgt := 69) (pc' := 60) dX8_layCut_57 rfl rfl (fun h => absurd (by decide) h) (fun _ => ?_)
        refine ev_aload_n (pc' := 61) (i := 0) dX8_layCut_60 rfl rfl rfl ?_
        refine ev_getR (pc' := 64) fo_X8_46 dX8_layCut_61 rfl hs_115 rfl rf_115_16 ?_
        refine ev_iload_n (pc' := 65) (i := 2) dX8_layCut_64 rfl rfl rfl ?_
        refine ev_iald (pc' := 66) (j := 2) (v := (I 126) 2) dX8_layCut_65 rfl hs_126 rfl (Nat.le_of_ble_eq_true rfl) (Nat.le_of_ble_eq_true rfl) rfl ?_
        refine ev_goto (tgt := 87) dX8_layCut_66 rfl ?_
        refine ev_iast (pc' := 88) (j := 0) (I' := (ma_up I 129 (ma_up (I 129) 0 ((I 126) 2)))) dX8_layCut_87 rfl hs_129 rfl (Nat.le_of_ble_eq_true rfl) (Nat.le_of_ble_eq_true rfl) rfl ?_
        refine ev_iinc (pc' := 91) (v := 1) (lv' := [some (.ref 115), some (.int (nI q)), some (.int 2), some (.int 0), some (.int 0), some (.int 1), none]) dX8_layCut_88 rfl rfl (by decide) (Nat.le_of_ble_eq_true rfl) rfl rfl ?_
        refine ev_goto (tgt := 37) dX8_layCut_91 rfl ?_
        refine ev_iload (pc' := 39) dX8_layCut_37 rfl rfl ?_
        refine ev_iconst (pc' := 40) (v := 4) dX8_layCut_39 rfl ki_4 ?_
        refine ev_icmp_ge (tgt := 94) (pc' := 43) dX8_layCut_40 rfl rfl (fun h => absurd h (by decide)) (fun _ => ?_)
        refine ev_aload_n (pc' := 44) (i := 0) dX8_layCut_43 rfl rfl rfl ?_
        refine ev_getR (pc' := 47) fo_X8_55 dX8_layCut_44 rfl hs_115 rfl rf_115_20 ?_
        refine ev_iconst (pc' := 48) (v := 4) dX8_layCut_47 rfl ki_4 ?_
        refine ev_iload_n (pc' := 49) (i := 3) dX8_layCut_48 rfl rfl rfl ?_
        refine ev_imul (pc' := 50) (v := 0) dX8_layCut_49 rfl (by decide) ?_
        refine ev_iload (pc' := 52) dX8_layCut_50 rfl rfl ?_
        refine ev_iadd (pc' := 53) (v := 1) dX8_layCut_52 rfl (by decide) ?_
        refine ev_iload (pc' := 55) dX8_layCut_53 rfl rfl ?_
        refine ev_iload (pc' := 57) dX8_layCut_55 rfl rfl ?_
        refine ev_icmp_ne (tgt := 69) (pc' := 60) dX8_layCut_57 rfl rfl (fun _ => ?_) (fun h => absurd h (by decide))
        refine ev_iload (pc' := 71) dX8_layCut_69 rfl rfl ?_
        refine ev_iload_n (pc' := 72) (i := 2) dX8_layCut_71 rfl rfl rfl ?_
        refine ev_icmp_ne (tgt := 86) (pc' := 75) dX8_layCut_72 rfl rfl (fun _ => ?_) (fun h => absurd h (by decide))
        refine ev_iconst (pc' := 87) (v := 0) dX8_layCut_86 rfl ki_0 ?_
        refine ev_iast (pc' := 88) (j := 1) (I' := (ma_up I 129 (ma_up (ma_up (I 129) 0 ((I 126) 2)) 1 0))) dX8_layCut_87 rfl hs_129 rfl (Nat.le_of_ble_eq_true rfl) (Nat.le_of_ble_eq_true rfl) (ma_up_up _ _ _ _) ?_
        refine ev_iinc (pc' := 91) (v := 2) (lv' := [some (.ref 115), some (.int (nI q)), some (.int 2), some (.int 0), some (.int 0), some (.int 2), none]) dX8_layCut_88 rfl rfl (by decide) (Nat.le_of_ble_eq_true rfl) rfl rfl ?_
        refine ev_goto (tgt := 37) dX8_layCut_91 rfl ?_
        refine ev_iload (pc' := 39) dX8_layCut_37 rfl rfl ?_
        refine ev_iconst (pc' := 40) (v := 4) dX8_layCut_39 rfl ki_4 ?_
        refine ev_icmp_ge (tgt := 94) (pc' := 43) dX8_layCut_40 rfl rfl (fun h => absurd h (by decide)) (fun _ => ?_)
        refine ev_aload_n (pc' := 44) (i := 0) dX8_layCut_43 rfl rfl rfl ?_
        refine ev_getR (pc' := 47) fo_X8_55 dX8_layCut_44 rfl hs_115 rfl rf_115_20 ?_
        refine ev_iconst (pc' := 48) (v := 4) dX8_layCut_47 rfl ki_4 ?_
        refine ev_iload_n (pc' := 49) (i := 3) dX8_layCut_48 rfl rfl rfl ?_
        refine ev_imul (pc' := 50) (v := 0) dX8_layCut_49 rfl (by decide) ?_
        refine ev_iload (pc' := 52) dX8_layCut_50 rfl rfl ?_
        refine ev_iadd (pc' := 53) (v := 2) dX8_layCut_52 rfl (by decide) ?_
        refine ev_iload (pc' := 55) dX8_layCut_53 rfl rfl ?_
        refine ev_iload (pc' := 57) dX8_layCut_55 rfl rfl ?_
        refine ev_icmp_ne (tgt := 69) (pc' := 60) dX8_layCut_57 rfl rfl (fun _ => ?_) (fun h => absurd h (by decide))
        refine ev_iload (pc' := 71) dX8_layCut_69 rfl rfl ?_
        refine ev_iload_n (pc' := 72) (i := 2) dX8_layCut_71 rfl rfl rfl ?_
        refine ev_icmp_ne (tgt := 86) (pc' := 75) dX8_layCut_72 rfl rfl (fun h => absurd (by decide) h) (fun _ => ?_)
        refine ev_aload_n (pc' := 76) (i := 0) dX8_layCut_75 rfl rfl rfl ?_
        refine ev_getR (pc' := 79) fo_X8_46 dX8_layCut_76 rfl hs_115 rfl rf_115_16 ?_
        refine ev_iload (pc' := 81) dX8_layCut_79 rfl rfl ?_
        refine ev_iald (pc' := 82) (j := 0) (v := (I 126) 0) dX8_layCut_81 rfl hs_126 rfl (Nat.le_of_ble_eq_true rfl) (Nat.le_of_ble_eq_true rfl) rfl ?_
        refine ev_ineg (pc' := 83) (v := -((I 126) 0)) dX8_layCut_82 rfl rfl ?_
        refine ev_goto (tgt := 87) dX8_layCut_83 rfl ?_
        refine ev_iast (pc' := 88) (j := 2) (I' := (ma_up I 129 (ma_up (ma_up (ma_up (I 129) 0 ((I 126) 2)) 1 0) 2 (-((I 126) 0))))) dX8_layCut_87 rfl hs_129 rfl (Nat.le_of_ble_eq_true rfl) (Nat.le_of_ble_eq_true rfl) (ma_up_up _ _ _ _) ?_
        refine ev_iinc (pc' := 91) (v := 3) (lv' := [some (.ref 115), some (.int (nI q)), some (.int 2), some (.int 0), some (.int 0), some (.int 3), none]) dX8_layCut_88 rfl rfl (by decide) (Nat.le_of_ble_eq_true rfl) rfl rfl ?_
        refine ev_goto (tgt := 37) dX8_layCut_91 rfl ?_
        refine ev_iload (pc' := 39) dX8_layCut_37 rfl rfl ?_
        refine ev_iconst (pc' := 40) (v := 4) dX8_layCut_39 rfl ki_4 ?_
        refine ev_icmp_ge (tgt := 94) (pc' := 43) dX8_layCut_40 rfl rfl (fun h => absurd h (by decide)) (fun _ => ?_)
        refine ev_aload_n (pc' := 44) (i := 0) dX8_layCut_43 rfl rfl rfl ?_
        refine ev_getR (pc' := 47) fo_X8_55 dX8_layCut_44 rfl hs_115 rfl rf_115_20 ?_
        refine ev_iconst (pc' := 48) (v := 4) dX8_layCut_47 rfl ki_4 ?_
        refine ev_iload_n (pc' := 49) (i := 3) dX8_layCut_48 rfl rfl rfl ?_
        refine ev_imul (pc' := 50) (v := 0) dX8_layCut_49 rfl (by decide) ?_
        refine ev_iload (pc' := 52) dX8_layCut_50 rfl rfl ?_
        refine ev_iadd (pc' := 53) (v := 3) dX8_layCut_52 rfl (by decide) ?_
        refine ev_iload (pc' := 55) dX8_layCut_53 rfl rfl ?_
        refine ev_iload (pc' := 57) dX8_layCut_55 rfl rfl ?_
        refine ev_icmp_ne (tgt := 69) (pc' := 60) dX8_layCut_57 rfl rfl (fun _ => ?_) (fun h => absurd h (by decide))
        refine ev_iload (pc' := 71) dX8_layCut_69 rfl rfl ?_
        refine ev_iload_n (pc' := 72) (i := 2) dX8_layCut_71 rfl rfl rfl ?_
        refine ev_icmp_ne (tgt := 86) (pc' := 75) dX8_layCut_72 rfl rfl (fun _ => ?_) (fun h => absurd h (by decide))
        refine ev_iconst (pc' := 87) (v := 0) dX8_layCut_86 rfl ki_0 ?_
        refine ev_iast (pc' := 88) (j := 3) (I' := (ma_up I 129 (ma_up (ma_up (ma_up (ma_up (I 129) 0 ((I 126) 2)) 1 0) 2 (-((I 126) 0))) 3 0))) dX8_layCut_87 rfl hs_129 rfl (Nat.le_of_ble_eq_true rfl) (Nat.le_of_ble_eq_true rfl) (ma_up_up _ _ _ _) ?_
        refine ev_iinc (pc' := 91) (v := 4) (lv' := [some (.ref 115), some (.int (nI q)), some (.int 2), some (.int 0), some (.int 0), some (.int 4), none]) dX8_layCut_88 rfl rfl (by decide) (Nat.le_of_ble_eq_true rfl) rfl rfl ?_
        refine ev_goto (tgt := 37) dX8_layCut_91 rfl ?_
        refine ev_iload (pc' := 39) dX8_layCut_37 rfl rfl ?_
        refine ev_iconst (pc' := 40) (v := 4) dX8_layCut_39 rfl ki_4 ?_
        refine ev_icmp_ge (tgt := 94) (pc' := 43) dX8_layCut_40 rfl rfl (fun _ => ?_) (fun h => absurd (by decide) h)
        refine ev_iinc (pc' := 97) (v := 1) (lv' := [some (.ref 115), some (.int (nI q)), some (.int 2), some (.int 1), some (.int 0), some (.int 4), none]) dX8_layCut_94 rfl rfl (by decide) (Nat.le_of_ble_eq_true rfl) rfl rfl ?_
        refine ev_iinc (pc' := 100) (v := 1) (lv' := [some (.ref 115), some (.int (nI q)), some (.int 2), some (.int 1), some (.int 1), some (.int 4), none]) dX8_layCut_97 rfl rfl (by decide) (Nat.le_of_ble_eq_true rfl) rfl rfl ?_
        refine ev_goto (tgt := 22) dX8_layCut_100 rfl ?_
        refine ev_iload (pc' := 24) dX8_layCut_22 rfl rfl ?_
        refine ev_iconst (pc' := 25) (v := 4) dX8_layCut_24 rfl ki_4 ?_
        refine ev_icmp_ge (tgt := 103) (pc' := 28) dX8_layCut_25 rfl rfl (fun h => absurd h (by decide)) (fun _ => ?_)
        refine ev_iload (pc' := 30) dX8_layCut_28 rfl rfl ?_
        refine ev_iload_n (pc' := 31) (i := 2) dX8_layCut_30 rfl rfl rfl ?_
        refine ev_icmp_eq (tgt := 97) (pc' := 34) dX8_layCut_31 rfl rfl (fun h => absurd h (by decide)) (fun _ => ?_)
        refine ev_iconst (pc' := 35) (v := 0) dX8_layCut_34 rfl ki_0 ?_
        refine ev_istore (pc' := 37) (lv' := [some (.ref 115), some (.int (nI q)), some (.int 2), some (.int 1), some (.int 1), some (.int 0), none]) dX8_layCut_35 rfl (Nat.le_of_ble_eq_true rfl) rfl rfl ?_
        refine ev_iload (pc' := 39) dX8_layCut_37 rfl rfl ?_
        refine ev_iconst (pc' := 40) (v := 4) dX8_layCut_39 rfl ki_4 ?_
        refine ev_icmp_ge (tgt := 94) (pc' := 43) dX8_layCut_40 rfl rfl (fun h => absurd h (by decide)) (fun _ => ?_)
        refine ev_aload_n (pc' := 44) (i := 0) dX8_layCut_43 rfl rfl rfl ?_
        refine ev_getR (pc' := 47) fo_X8_55 dX8_layCut_44 rfl hs_115 rfl rf_115_20 ?_
        refine ev_iconst (pc' := 48) (v := 4) dX8_layCut_47 rfl ki_4 ?_
        refine ev_iload_n (pc' := 49) (i := 3) dX8_layCut_48 rfl rfl rfl ?_
        refine ev_imul (pc' := 50) (v := 4) dX8_layCut_49 rfl (by decide) ?_
        refine ev_iload (pc' := 52) dX8_layCut_50 rfl rfl ?_
        refine ev_iadd (pc' := 53) (v := 4) dX8_layCut_52 rfl (by decide) ?_
        refine ev_iload (pc' := 55) dX8_layCut_53 rfl rfl ?_
        refine ev_iload (pc' := 57) dX8_layCut_55 rfl rfl ?_
        refine ev_icmp_ne (tgt := 69) (pc' := 60) dX8_layCut_57 rfl rfl (fun _ => ?_) (fun h => absurd h (by decide))
        refine ev_iload (pc' := 71) dX8_layCut_69 rfl rfl ?_
        refine ev_iload_n (pc' := 72) (i := 2) dX8_layCut_71 rfl rfl rfl ?_
        refine ev_icmp_ne (tgt := 86) (pc' := 75) dX8_layCut_72 rfl rfl (fun _ => ?_) (fun h => absurd h (by decide))
        refine ev_iconst (pc' := 87) (v := 0) dX8_layCut_86 rfl ki_0 ?_
        refine ev_iast (pc' := 88) (j := 4) (I' := (ma_up I 129 (ma_up (ma_up (ma_up (ma_up (ma_up (I 129) 0 ((I 126) 2)) 1 0) 2 (-((I 126) 0))) 3 0) 4 0))) dX8_layCut_87 rfl hs_129 rfl (Nat.le_of_ble_eq_true rfl) (Nat.le_of_ble_eq_true rfl) (ma_up_up _ _ _ _) ?_
        refine ev_iinc (pc' := 91) (v := 1) (lv' := [some (.ref 115), some (.int (nI q)), some (.int 2), some (.int 1), some (.int 1), some (.int 1), none]) dX8_layCut_88 rfl rfl (by decide) (Nat.le_of_ble_eq_true rfl) rfl rfl ?_
        refine ev_goto (tgt := 37) dX8_layCut_91 rfl ?_
        refine ev_iload (pc' := 39) dX8_layCut_37 rfl rfl ?_
        refine ev_iconst (pc' := 40) (v := 4) dX8_layCut_39 rfl ki_4 ?_
        refine ev_icmp_ge (tgt := 94) (pc' := 43) dX8_layCut_40 rfl rfl (fun h => absurd h (by decide)) (fun _ => ?_)
        refine ev_aload_n (pc' := 44) (i := 0) dX8_layCut_43 rfl rfl rfl ?_
        refine ev_getR (pc' := 47) fo_X8_55 dX8_layCut_44 rfl hs_115 rfl rf_115_20 ?_
        refine ev_iconst (pc' := 48) (v := 4) dX8_layCut_47 rfl ki_4 ?_
        refine ev_iload_n (pc' := 49) (i := 3) dX8_layCut_48 rfl rfl rfl ?_
        refine ev_imul (pc' := 50) (v := 4) dX8_layCut_49 rfl (by decide) ?_
        refine ev_iload (pc' := 52) dX8_layCut_50 rfl rfl ?_
        refine ev_iadd (pc' := 53) (v := 5) dX8_layCut_52 rfl (by decide) ?_
        refine ev_iload (pc' := 55) dX8_layCut_53 rfl rfl ?_
        refine ev_iload (pc' := 57) dX8_layCut_55 rfl rfl ?_
        refine ev_icmp_ne (tgt := 69) (pc' := 60) dX8_layCut_57 rfl rfl (fun h => absurd (by decide) h) (fun _ => ?_)
        refine ev_aload_n (pc' := 61) (i := 0) dX8_layCut_60 rfl rfl rfl ?_
        refine ev_getR (pc' := 64) fo_X8_46 dX8_layCut_61 rfl hs_115 rfl rf_115_16 ?_
        refine ev_iload_n (pc' := 65) (i := 2) dX8_layCut_64 rfl rfl rfl ?_
        refine ev_iald (pc' := 66) (j := 2) (v := (I 126) 2) dX8_layCut_65 rfl hs_126 rfl (Nat.le_of_ble_eq_true rfl) (Nat.le_of_ble_eq_true rfl) rfl ?_
        refine ev_goto (tgt := 87) dX8_layCut_66 rfl ?_
        refine ev_iast (pc' := 88) (j := 5) (I' := (ma_up I 129 (ma_up (ma_up (ma_up (ma_up (ma_up (ma_up (I 129) 0 ((I 126) 2)) 1 0) 2 (-((I 126) 0))) 3 0) 4 0) 5 ((I 126) 2)))) dX8_layCut_87 rfl hs_129 rfl (Nat.le_of_ble_eq_true rfl) (Nat.le_of_ble_eq_true rfl) (ma_up_up _ _ _ _) ?_
        refine ev_iinc (pc' := 91) (v := 2) (lv' := [some (.ref 115), some (.int (nI q)), some (.int 2), some (.int 1), some (.int 1), some (.int 2), none]) dX8_layCut_88 rfl rfl (by decide) (Nat.le_of_ble_eq_true rfl) rfl rfl ?_
        refine ev_goto (tgt := 37) dX8_layCut_91 rfl ?_
        refine ev_iload (pc' := 39) dX8_layCut_37 rfl rfl ?_
        refine ev_iconst (pc' := 40) (v := 4) dX8_layCut_39 rfl ki_4 ?_
        refine ev_icmp_ge (tgt := 94) (pc' := 43) dX8_layCut_40 rfl rfl (fun h => absurd h (by decide)) (fun _ => ?_)
        refine ev_aload_n (pc' := 44) (i := 0) dX8_layCut_43 rfl rfl rfl ?_
        refine ev_getR (pc' := 47) fo_X8_55 dX8_layCut_44 rfl hs_115 rfl rf_115_20 ?_
        refine ev_iconst (pc' := 48) (v := 4) dX8_layCut_47 rfl ki_4 ?_
        refine ev_iload_n (pc' := 49) (i := 3) dX8_layCut_48 rfl rfl rfl ?_
        refine ev_imul (pc' := 50) (v := 4) dX8_layCut_49 rfl (by decide) ?_
        refine ev_iload (pc' := 52) dX8_layCut_50 rfl rfl ?_
        refine ev_iadd (pc' := 53) (v := 6) dX8_layCut_52 rfl (by decide) ?_
        refine ev_iload (pc' := 55) dX8_layCut_53 rfl rfl ?_
        refine ev_iload (pc' := 57) dX8_layCut_55 rfl rfl ?_
        refine ev_icmp_ne (tgt := 69) (pc' := 60) dX8_layCut_57 rfl rfl (fun _ => ?_) (fun h => absurd h (by decide))
        refine ev_iload (pc' := 71) dX8_layCut_69 rfl rfl ?_
        refine ev_iload_n (pc' := 72) (i := 2) dX8_layCut_71 rfl rfl rfl ?_
        refine ev_icmp_ne (tgt := 86) (pc' := 75) dX8_layCut_72 rfl rfl (fun h => absurd (by decide) h) (fun _ => ?_)
        refine ev_aload_n (pc' := 76) (i := 0) dX8_layCut_75 rfl rfl rfl ?_
        refine ev_getR (pc' := 79) fo_X8_46 dX8_layCut_76 rfl hs_115 rfl rf_115_16 ?_
        refine ev_iload (pc' := 81) dX8_layCut_79 rfl rfl ?_
        refine ev_iald (pc' := 82) (j := 1) (v := (I 126) 1) dX8_layCut_81 rfl hs_126 rfl (Nat.le_of_ble_eq_true rfl) (Nat.le_of_ble_eq_true rfl) rfl ?_
        refine ev_ineg (pc' := 83) (v := -((I 126) 1)) dX8_layCut_82 rfl rfl ?_
        refine ev_goto (tgt := 87) dX8_layCut_83 rfl ?_
        refine ev_iast (pc' := 88) (j := 6) (I' := (ma_up I 129 (ma_up (ma_up (ma_up (ma_up (ma_up (ma_up (ma_up (I 129) 0 ((I 126) 2)) 1 0) 2 (-((I 126) 0))) 3 0) 4 0) 5 ((I 126) 2)) 6 (-((I 126) 1))))) dX8_layCut_87 rfl hs_129 rfl (Nat.le_of_ble_eq_true rfl) (Nat.le_of_ble_eq_true rfl) (ma_up_up _ _ _ _) ?_
        refine ev_iinc (pc' := 91) (v := 3) (lv' := [some (.ref 115), some (.int (nI q)), some (.int 2), some (.int 1), some (.int 1), some (.int 3), none]) dX8_layCut_88 rfl rfl (by decide) (Nat.le_of_ble_eq_true rfl) rfl rfl ?_
        refine ev_goto (tgt := 37) dX8_layCut_91 rfl ?_
        refine ev_iload (pc' := 39) dX8_layCut_37 rfl rfl ?_
        refine ev_iconst (pc' := 40) (v := 4) dX8_layCut_39 rfl ki_4 ?_
        refine ev_icmp_ge (tgt := 94) (pc' := 43) dX8_layCut_40 rfl rfl (fun h => absurd h (by decide)) (fun _ => ?_)
        refine ev_aload_n (pc' := 44) (i := 0) dX8_layCut_43 rfl rfl rfl ?_
        refine ev_getR (pc' := 47) fo_X8_55 dX8_layCut_44 rfl hs_115 rfl rf_115_20 ?_
        refine ev_iconst (pc' := 48) (v := 4) dX8_layCut_47 rfl ki_4 ?_
        refine ev_iload_n (pc' := 49) (i := 3) dX8_layCut_48 rfl rfl rfl ?_
        refine ev_imul (pc' := 50) (v := 4) dX8_layCut_49 rfl (by decide) ?_
        refine ev_iload (pc' := 52) dX8_layCut_50 rfl rfl ?_
        refine ev_iadd (pc' := 53) (v := 7) dX8_layCut_52 rfl (by decide) ?_
        refine ev_iload (pc' := 55) dX8_layCut_53 rfl rfl ?_
        refine ev_iload (pc' := 57) dX8_layCut_55 rfl rfl ?_
        refine ev_icmp_ne (tgt := 69) (pc' := 60) dX8_layCut_57 rfl rfl (fun _ => ?_) (fun h => absurd h (by decide))
        refine ev_iload (pc' := 71) dX8_layCut_69 rfl rfl ?_
        refine ev_iload_n (pc' := 72) (i := 2) dX8_layCut_71 rfl rfl rfl ?_
        refine ev_icmp_ne (tgt := 86) (pc' := 75) dX8_layCut_72 rfl rfl (fun _ => ?_) (fun h => absurd h (by decide))
        refine ev_iconst (pc' := 87) (v := 0) dX8_layCut_86 rfl ki_0 ?_
        refine ev_iast (pc' := 88) (j := 7) (I' := (ma_up I 129 (ma_up (ma_up (ma_up (ma_up (ma_up (ma_up (ma_up (ma_up (I 129) 0 ((I 126) 2)) 1 0) 2 (-((I 126) 0))) 3 0) 4 0) 5 ((I 126) 2)) 6 (-((I 126) 1))) 7 0))) dX8_layCut_87 rfl hs_129 rfl (Nat.le_of_ble_eq_true rfl) (Nat.le_of_ble_eq_true rfl) (ma_up_up _ _ _ _) ?_
        refine ev_iinc (pc' := 91) (v := 4) (lv' := [some (.ref 115), some (.int (nI q)), some (.int 2), some (.int 1), some (.int 1), some (.int 4), none]) dX8_layCut_88 rfl rfl (by decide) (Nat.le_of_ble_eq_true rfl) rfl rfl ?_
        refine ev_goto (tgt := 37) dX8_layCut_91 rfl ?_
        refine ev_iload (pc' := 39) dX8_layCut_37 rfl rfl ?_
        refine ev_iconst (pc' := 40) (v := 4) dX8_layCut_39 rfl ki_4 ?_
        refine ev_icmp_ge (tgt := 94) (pc' := 43) dX8_layCut_40 rfl rfl (fun _ => ?_) (fun h => absurd (by decide) h)
        refine ev_iinc (pc' := 97) (v := 2) (lv' := [some (.ref 115), some (.int (nI q)), some (.int 2), some (.int 2), some (.int 1), some (.int 4), none]) dX8_layCut_94 rfl rfl (by decide) (Nat.le_of_ble_eq_true rfl) rfl rfl ?_
        refine ev_iinc (pc' := 100) (v := 2) (lv' := [some (.ref 115), some (.int (nI q)), some (.int 2), some (.int 2), some (.int 2), some (.int 4), none]) dX8_layCut_97 rfl rfl (by decide) (Nat.le_of_ble_eq_true rfl) rfl rfl ?_
        refine ev_goto (tgt := 22) dX8_layCut_100 rfl ?_
        refine ev_iload (pc' := 24) dX8_layCut_22 rfl rfl ?_
        refine ev_iconst (pc' := 25) (v := 4) dX8_layCut_24 rfl ki_4 ?_
        refine ev_icmp_ge (tgt := 103) (pc' := 28) dX8_layCut_25 rfl rfl (fun h => absurd h (by decide)) (fun _ => ?_)
        refine ev_iload (pc' := 30) dX8_layCut_28 rfl rfl ?_
        refine ev_iload_n (pc' := 31) (i := 2) dX8_layCut_30 rfl rfl rfl ?_
        refine ev_icmp_eq (tgt := 97) (pc' := 34) dX8_layCut_31 rfl rfl (fun _ => ?_) (fun h => absurd (by decide) h)
        refine ev_iinc (pc' := 100) (v := 3) (lv' := [some (.ref 115), some (.int (nI q)), some (.int 2), some (.int 2), some (.int 3), some (.int 4), none]) dX8_layCut_97 rfl rfl (by decide) (Nat.le_of_ble_eq_true rfl) rfl rfl ?_
        refine ev_goto (tgt := 22) dX8_layCut_100 rfl ?_
        refine ev_iload (pc' := 24) dX8_layCut_22 rfl rfl ?_
        refine ev_iconst (pc' := 25) (v := 4) dX8_layCut_24 rfl ki_4 ?_
        refine ev_icmp_ge (tgt := 103) (pc' := 28) dX8_layCut_25 rfl rfl (fun h => absurd h (by decide)) (fun _ => ?_)
        refine ev_iload (pc' := 30) dX8_layCut_28 rfl rfl ?_
        refine ev_iload_n (pc' := 31) (i := 2) dX8_layCut_30 rfl rfl rfl ?_
        refine ev_icmp_eq (tgt := 97) (pc' := 34) dX8_layCut_31 rfl rfl (fun h => absurd h (by decide)) (fun _ => ?_)
        refine ev_iconst (pc' := 35) (v := 0) dX8_layCut_34 rfl ki_0 ?_
        refine ev_istore (pc' := 37) (lv' := [some (.ref 115), some (.int (nI q)), some (.int 2), some (.int 2), some (.int 3), some (.int 0), none]) dX8_layCut_35 rfl (Nat.le_of_ble_eq_true rfl) rfl rfl ?_
        refine ev_iload (pc' := 39) dX8_layCut_37 rfl rfl ?_
        refine ev_iconst (pc' := 40) (v := 4) dX8_layCut_39 rfl ki_4 ?_
        refine ev_icmp_ge (tgt := 94) (pc' := 43) dX8_layCut_40 rfl rfl (fun h => absurd h (by decide)) (fun _ => ?_)
        refine ev_aload_n (pc' := 44) (i := 0) dX8_layCut_43 rfl rfl rfl ?_
        refine ev_getR (pc' := 47) fo_X8_55 dX8_layCut_44 rfl hs_115 rfl rf_115_20 ?_
        refine ev_iconst (pc' := 48) (v := 4) dX8_layCut_47 rfl ki_4 ?_
        refine ev_iload_n (pc' := 49) (i := 3) dX8_layCut_48 rfl rfl rfl ?_
        refine ev_imul (pc' := 50) (v := 8) dX8_layCut_49 rfl (by decide) ?_
        refine ev_iload (pc' := 52) dX8_layCut_50 rfl rfl ?_
        refine ev_iadd (pc' := 53) (v := 8) dX8_layCut_52 rfl (by decide) ?_
        refine ev_iload (pc' := 55) dX8_layCut_53 rfl rfl ?_
        refine ev_iload (pc' := 57) dX8_layCut_55 rfl rfl ?_
        refine ev_icmp_ne (tgt := 69) (pc' := 60) dX8_layCut_57 rfl rfl (fun _ => ?_) (fun h => absurd h (by decide))
        refine ev_iload (pc' := 71) dX8_layCut_69 rfl rfl ?_
        refine ev_iload_n (pc' := 72) (i := 2) dX8_layCut_71 rfl rfl rfl ?_
        refine ev_icmp_ne (tgt := 86) (pc' := 75) dX8_layCut_72 rfl rfl (fun _ => ?_) (fun h => absurd h (by decide))
        refine ev_iconst (pc' := 87) (v := 0) dX8_layCut_86 rfl ki_0 ?_
        refine ev_iast (pc' := 88) (j := 8) (I' := (ma_up I 129 (ma_up (ma_up (ma_up (ma_up (ma_up (ma_up (ma_up (ma_up (ma_up (I 129) 0 ((I 126) 2)) 1 0) 2 (-((I 126) 0))) 3 0) 4 0) 5 ((I 126) 2)) 6 (-((I 126) 1))) 7 0) 8 0))) dX8_layCut_87 rfl hs_129 rfl (Nat.le_of_ble_eq_true rfl) (Nat.le_of_ble_eq_true rfl) (ma_up_up _ _ _ _) ?_
        refine ev_iinc (pc' := 91) (v := 1) (lv' := [some (.ref 115), some (.int (nI q)), some (.int 2), some (.int 2), some (.int 3), some (.int 1), none]) dX8_layCut_88 rfl rfl (by decide) (Nat.le_of_ble_eq_true rfl) rfl rfl ?_
        refine ev_goto (tgt := 37) dX8_layCut_91 rfl ?_
        refine ev_iload (pc' := 39) dX8_layCut_37 rfl rfl ?_
        refine ev_iconst (pc' := 40) (v := 4) dX8_layCut_39 rfl ki_4 ?_
        refine ev_icmp_ge (tgt := 94) (pc' := 43) dX8_layCut_40 rfl rfl (fun h => absurd h (by decide)) (fun _ => ?_)
        refine ev_aload_n (pc' := 44) (i := 0) dX8_layCut_43 rfl rfl rfl ?_
        refine ev_getR (pc' := 47) fo_X8_55 dX8_layCut_44 rfl hs_115 rfl rf_115_20 ?_
        refine ev_iconst (pc' := 48) (v := 4) dX8_layCut_47 rfl ki_4 ?_
        refine ev_iload_n (pc' := 49) (i := 3) dX8_layCut_48 rfl rfl rfl ?_
        refine ev_imul (pc' := 50) (v := 8) dX8_layCut_49 rfl (by decide) ?_
        refine ev_iload (pc' := 52) dX8_layCut_50 rfl rfl ?_
        refine ev_iadd (pc' := 53) (v := 9) dX8_layCut_52 rfl (by decide) ?_
        refine ev_iload (pc' := 55) dX8_layCut_53 rfl rfl ?_
        refine ev_iload (pc' := 57) dX8_layCut_55 rfl rfl ?_
        refine ev_icmp_ne (tgt := 69) (pc' := 60) dX8_layCut_57 rfl rfl (fun _ => ?_) (fun h => absurd h (by decide))
        refine ev_iload (pc' := 71) dX8_layCut_69 rfl rfl ?_
        refine ev_iload_n (pc' := 72) (i := 2) dX8_layCut_71 rfl rfl rfl ?_
        refine ev_icmp_ne (tgt := 86) (pc' := 75) dX8_layCut_72 rfl rfl (fun _ => ?_) (fun h => absurd h (by decide))
        refine ev_iconst (pc' := 87) (v := 0) dX8_layCut_86 rfl ki_0 ?_
        refine ev_iast (pc' := 88) (j := 9) (I' := (ma_up I 129 (ma_up (ma_up (ma_up (ma_up (ma_up (ma_up (ma_up (ma_up (ma_up (ma_up (I 129) 0 ((I 126) 2)) 1 0) 2 (-((I 126) 0))) 3 0) 4 0) 5 ((I 126) 2)) 6 (-((I 126) 1))) 7 0) 8 0) 9 0))) dX8_layCut_87 rfl hs_129 rfl (Nat.le_of_ble_eq_true rfl) (Nat.le_of_ble_eq_true rfl) (ma_up_up _ _ _ _) ?_
        refine ev_iinc (pc' := 91) (v := 2) (lv' := [some (.ref 115), some (.int (nI q)), some (.int 2), some (.int 2), some (.int 3), some (.int 2), none]) dX8_layCut_88 rfl rfl (by decide) (Nat.le_of_ble_eq_true rfl) rfl rfl ?_
        refine ev_goto (tgt := 37) dX8_layCut_91 rfl ?_
        refine ev_iload (pc' := 39) dX8_layCut_37 rfl rfl ?_
        refine ev_iconst (pc' := 40) (v := 4) dX8_layCut_39 rfl ki_4 ?_
        refine ev_icmp_ge (tgt := 94) (pc' := 43) dX8_layCut_40 rfl rfl (fun h => absurd h (by decide)) (fun _ => ?_)
        refine ev_aload_n (pc' := 44) (i := 0) dX8_layCut_43 rfl rfl rfl ?_
        refine ev_getR (pc' := 47) fo_X8_55 dX8_layCut_44 rfl hs_115 rfl rf_115_20 ?_
        refine ev_iconst (pc' := 48) (v := 4) dX8_layCut_47 rfl ki_4 ?_
        refine ev_iload_n (pc' := 49) (i := 3) dX8_layCut_48 rfl rfl rfl ?_
        refine ev_imul (pc' := 50) (v := 8) dX8_layCut_49 rfl (by decide) ?_
        refine ev_iload (pc' := 52) dX8_layCut_50 rfl rfl ?_
        refine ev_iadd (pc' := 53) (v := 10) dX8_layCut_52 rfl (by decide) ?_
        refine ev_iload (pc' := 55) dX8_layCut_53 rfl rfl ?_
        refine ev_iload (pc' := 57) dX8_layCut_55 rfl rfl ?_
        refine ev_icmp_ne (tgt := 69) (pc' := 60) dX8_layCut_57 rfl rfl (fun _ => ?_) (fun h => absurd h (by decide))
        refine ev_iload (pc' := 71) dX8_layCut_69 rfl rfl ?_
        refine ev_iload_n (pc' := 72) (i := 2) dX8_layCut_71 rfl rfl rfl ?_
        refine ev_icmp_ne (tgt := 86) (pc' := 75) dX8_layCut_72 rfl rfl (fun h => absurd (by decide) h) (fun _ => ?_)
        refine ev_aload_n (pc' := 76) (i := 0) dX8_layCut_75 rfl rfl rfl ?_
        refine ev_getR (pc' := 79) fo_X8_46 dX8_layCut_76 rfl hs_115 rfl rf_115_16 ?_
        refine ev_iload (pc' := 81) dX8_layCut_79 rfl rfl ?_
        refine ev_iald (pc' := 82) (j := 3) (v := (I 126) 3) dX8_layCut_81 rfl hs_126 rfl (Nat.le_of_ble_eq_true rfl) (Nat.le_of_ble_eq_true rfl) rfl ?_
        refine ev_ineg (pc' := 83) (v := -((I 126) 3)) dX8_layCut_82 rfl rfl ?_
        refine ev_goto (tgt := 87) dX8_layCut_83 rfl ?_
        refine ev_iast (pc' := 88) (j := 10) (I' := (ma_up I 129 (ma_up (ma_up (ma_up (ma_up (ma_up (ma_up (ma_up (ma_up (ma_up (ma_up (ma_up (I 129) 0 ((I 126) 2)) 1 0) 2 (-((I 126) 0))) 3 0) 4 0) 5 ((I 126) 2)) 6 (-((I 126) 1))) 7 0) 8 0) 9 0) 10 (-((I 126) 3))))) dX8_layCut_87 rfl hs_129 rfl (Nat.le_of_ble_eq_true rfl) (Nat.le_of_ble_eq_true rfl) (ma_up_up _ _ _ _) ?_
        refine ev_iinc (pc' := 91) (v := 3) (lv' := [some (.ref 115), some (.int (nI q)), some (.int 2), some (.int 2), some (.int 3), some (.int 3), none]) dX8_layCut_88 rfl rfl (by decide) (Nat.le_of_ble_eq_true rfl) rfl rfl ?_
        refine ev_goto (tgt := 37) dX8_layCut_91 rfl ?_
        refine ev_iload (pc' := 39) dX8_layCut_37 rfl rfl ?_
        refine ev_iconst (pc' := 40) (v := 4) dX8_layCut_39 rfl ki_4 ?_
        refine ev_icmp_ge (tgt := 94) (pc' := 43) dX8_layCut_40 rfl rfl (fun h => absurd h (by decide)) (fun _ => ?_)
        refine ev_aload_n (pc' := 44) (i := 0) dX8_layCut_43 rfl rfl rfl ?_
        refine ev_getR (pc' := 47) fo_X8_55 dX8_layCut_44 rfl hs_115 rfl rf_115_20 ?_
        refine ev_iconst (pc' := 48) (v := 4) dX8_layCut_47 rfl ki_4 ?_
        refine ev_iload_n (pc' := 49) (i := 3) dX8_layCut_48 rfl rfl rfl ?_
        refine ev_imul (pc' := 50) (v := 8) dX8_layCut_49 rfl (by decide) ?_
        refine ev_iload (pc' := 52) dX8_layCut_50 rfl rfl ?_
        refine ev_iadd (pc' := 53) (v := 11) dX8_layCut_52 rfl (by decide) ?_
        refine ev_iload (pc' := 55) dX8_layCut_53 rfl rfl ?_
        refine ev_iload (pc' := 57) dX8_layCut_55 rfl rfl ?_
        refine ev_icmp_ne (tgt := 69) (pc' := 60) dX8_layCut_57 rfl rfl (fun h => absurd (by decide) h) (fun _ => ?_)
        refine ev_aload_n (pc' := 61) (i := 0) dX8_layCut_60 rfl rfl rfl ?_
        refine ev_getR (pc' := 64) fo_X8_46 dX8_layCut_61 rfl hs_115 rfl rf_115_16 ?_
        refine ev_iload_n (pc' := 65) (i := 2) dX8_layCut_64 rfl rfl rfl ?_
        refine ev_iald (pc' := 66) (j := 2) (v := (I 126) 2) dX8_layCut_65 rfl hs_126 rfl (Nat.le_of_ble_eq_true rfl) (Nat.le_of_ble_eq_true rfl) rfl ?_
        refine ev_goto (tgt := 87) dX8_layCut_66 rfl ?_
        refine ev_iast (pc' := 88) (j := 11) (I' := (ma_up I 129 (ma_up (ma_up (ma_up (ma_up (ma_up (ma_up (ma_up (ma_up (ma_up (ma_up (ma_up (ma_up (I 129) 0 ((I 126) 2)) 1 0) 2 (-((I 126) 0))) 3 0) 4 0) 5 ((I 126) 2)) 6 (-((I 126) 1))) 7 0) 8 0) 9 0) 10 (-((I 126) 3))) 11 ((I 126) 2)))) dX8_layCut_87 rfl hs_129 rfl (Nat.le_of_ble_eq_true rfl) (Nat.le_of_ble_eq_true rfl) (ma_up_up _ _ _ _) ?_
        refine ev_iinc (pc' := 91) (v := 4) (lv' := [some (.ref 115), some (.int (nI q)), some (.int 2), some (.int 2), some (.int 3), some (.int 4), none]) dX8_layCut_88 rfl rfl (by decide) (Nat.le_of_ble_eq_true rfl) rfl rfl ?_
        refine ev_goto (tgt := 37) dX8_layCut_91 rfl ?_
        refine ev_iload (pc' := 39) dX8_layCut_37 rfl rfl ?_
        refine ev_iconst (pc' := 40) (v := 4) dX8_layCut_39 rfl ki_4 ?_
        refine ev_icmp_ge (tgt := 94) (pc' := 43) dX8_layCut_40 rfl rfl (fun _ => ?_) (fun h => absurd (by decide) h)
        refine ev_iinc (pc' := 97) (v := 3) (lv' := [some (.ref 115), some (.int (nI q)), some (.int 2), some (.int 3), some (.int 3), some (.int 4), none]) dX8_layCut_94 rfl rfl (by decide) (Nat.le_of_ble_eq_true rfl) rfl rfl ?_
        refine ev_iinc (pc' := 100) (v := 4) (lv' := [some (.ref 115), some (.int (nI q)), some (.int 2), some (.int 3), some (.int 4), some (.int 4), none]) dX8_layCut_97 rfl rfl (by decide) (Nat.le_of_ble_eq_true rfl) rfl rfl ?_
        refine ev_goto (tgt := 22) dX8_layCut_100 rfl ?_
        refine ev_iload (pc' := 24) dX8_layCut_22 rfl rfl ?_
        refine ev_iconst (pc' := 25) (v := 4) dX8_layCut_24 rfl ki_4 ?_
        refine ev_icmp_ge (tgt := 103) (pc' := 28) dX8_layCut_25 rfl rfl (fun _ => ?_) (fun h => absurd (by decide) h)
        refine ev_iconst (pc' := 104) (v := 0) dX8_layCut_103 rfl ki_0 ?_
        refine ev_istore (pc' := 106) (lv' := [some (.ref 115), some (.int (nI q)), some (.int 2), some (.int 3), some (.int 0), some (.int 4), none]) dX8_layCut_104 rfl (Nat.le_of_ble_eq_true rfl) rfl rfl ?_
        refine ev_iload (pc' := 108) dX8_layCut_106 rfl rfl ?_
        refine ev_iconst (pc' := 109) (v := 3) dX8_layCut_108 rfl ki_3 ?_
        refine ev_icmp_ge (tgt := 212) (pc' := 112) dX8_layCut_109 rfl rfl (fun h => absurd h (by decide)) (fun _ => ?_)
        refine ev_iconst (pc' := 113) (v := 0) dX8_layCut_112 rfl ki_0 ?_
        refine ev_istore (pc' := 115) (lv' := [some (.ref 115), some (.int (nI q)), some (.int 2), some (.int 3), some (.int 0), some (.int 0), none]) dX8_layCut_113 rfl (Nat.le_of_ble_eq_true rfl) rfl rfl ?_
        refine ev_iload (pc' := 117) dX8_layCut_115 rfl rfl ?_
        refine ev_iconst (pc' := 118) (v := 3) dX8_layCut_117 rfl ki_3 ?_
        refine ev_icmp_ge (tgt := 206) (pc' := 121) dX8_layCut_118 rfl rfl (fun h => absurd h (by decide)) (fun _ => ?_)
        refine ev_iconst (pc' := 122) (v := 0) dX8_layCut_121 rfl ki_0 ?_
        refine ev_istore (pc' := 124) (lv' := [some (.ref 115), some (.int (nI q)), some (.int 2), some (.int 3), some (.int 0), some (.int 0), some (.int 0)]) dX8_layCut_122 rfl (Nat.le_of_ble_eq_true rfl) rfl rfl ?_
        refine ev_iload (pc' := 126) dX8_layCut_124 rfl rfl ?_
        refine ev_iconst (pc' := 127) (v := 4) dX8_layCut_126 rfl ki_4 ?_
        refine ev_icmp_ge (tgt := 174) (pc' := 130) dX8_layCut_127 rfl rfl (fun h => absurd h (by decide)) (fun _ => ?_)
        refine ev_aload_n (pc' := 131) (i := 0) dX8_layCut_130 rfl rfl rfl ?_
        refine ev_getR (pc' := 134) fo_X8_58 dX8_layCut_131 rfl hs_115 rfl rf_115_21 ?_
        refine ev_iload (pc' := 136) dX8_layCut_134 rfl rfl ?_
        refine ev_aload_n (pc' := 137) (i := 0) dX8_layCut_136 rfl rfl rfl ?_
        refine ev_getR (pc' := 140) fo_X8_55 dX8_layCut_137 rfl hs_115 rfl rf_115_20 ?_
        refine ev_iconst (pc' := 141) (v := 4) dX8_layCut_140 rfl ki_4 ?_
        refine ev_iload (pc' := 143) dX8_layCut_141 rfl rfl ?_
        refine ev_imul (pc' := 144) (v := 0) dX8_layCut_143 rfl (by decide) ?_
        refine ev_iload (pc' := 146) dX8_layCut_144 rfl rfl ?_
        refine ev_iadd (pc' := 147) (v := 0) dX8_layCut_146 rfl (by decide) ?_
        refine ev_iald (pc' := 148) (j := 0) (v := (I 126) 2) dX8_layCut_147 rfl hs_129 rfl (Nat.le_of_ble_eq_true rfl) (Nat.le_of_ble_eq_true rfl) rfl ?_
        refine ev_iast (pc' := 149) (j := 0) (I' := (ma_up (ma_up I 129 (ma_up (ma_up (ma_up (ma_up (ma_up (ma_up (ma_up (ma_up (ma_up (ma_up (ma_up (ma_up (I 129) 0 ((I 126) 2)) 1 0) 2 (-((I 126) 0))) 3 0) 4 0) 5 ((I 126) 2)) 6 (-((I 126) 1))) 7 0) 8 0) 9 0) 10 (-((I 126) 3))) 11 ((I 126) 2))) 130 (ma_up (I 130) 0 ((I 126) 2)))) dX8_layCut_148 rfl hs_130 rfl (Nat.le_of_ble_eq_true rfl) (Nat.le_of_ble_eq_true rfl) rfl ?_
        refine ev_aload_n (pc' := 150) (i := 0) dX8_layCut_149 rfl rfl rfl ?_
        refine ev_getR (pc' := 153) fo_X8_61 dX8_layCut_150 rfl hs_115 rfl rf_115_22 ?_
        refine ev_iload (pc' := 155) dX8_layCut_153 rfl rfl ?_
        refine ev_aload_n (pc' := 156) (i := 0) dX8_layCut_155 rfl rfl rfl ?_
        refine ev_getR (pc' := 159) fo_X8_55 dX8_layCut_156 rfl hs_115 rfl rf_115_20 ?_
        refine ev_iconst (pc' := 160) (v := 4) dX8_layCut_159 rfl ki_4 ?_
        refine ev_iload (pc' := 162) dX8_layCut_160 rfl rfl ?_
        refine ev_imul (pc' := 163) (v := 0) dX8_layCut_162 rfl (by decide) ?_
        refine ev_iload (pc' := 165) dX8_layCut_163 rfl rfl ?_
        refine ev_iadd (pc' := 166) (v := 0) dX8_layCut_165 rfl (by decide) ?_
        refine ev_iald (pc' := 167) (j := 0) (v := (I 126) 2) dX8_layCut_166 rfl hs_129 rfl (Nat.le_of_ble_eq_true rfl) (Nat.le_of_ble_eq_true rfl) rfl ?_
        refine ev_iast (pc' := 168) (j := 0) (I' := (ma_up (ma_up (ma_up I 129 (ma_up (ma_up (ma_up (ma_up (ma_up (ma_up (ma_up (ma_up (ma_up (ma_up (ma_up (ma_up (I 129) 0 ((I 126) 2)) 1 0) 2 (-((I 126) 0))) 3 0) 4 0) 5 ((I 126) 2)) 6 (-((I 126) 1))) 7 0) 8 0) 9 0) 10 (-((I 126) 3))) 11 ((I 126) 2))) 130 (ma_up (I 130) 0 ((I 126) 2))) 131 (ma_up (I 131) 0 ((I 126) 2)))) dX8_layCut_167 rfl hs_131 rfl (Nat.le_of_ble_eq_true rfl) (Nat.le_of_ble_eq_true rfl) rfl ?_
        refine ev_iinc (pc' := 171) (v := 1) (lv' := [some (.ref 115), some (.int (nI q)), some (.int 2), some (.int 3), some (.int 0), some (.int 0), some (.int 1)]) dX8_layCut_168 rfl rfl (by decide) (Nat.le_of_ble_eq_true rfl) rfl rfl ?_
        refine ev_goto (tgt := 124) dX8_layCut_171 rfl ?_
        refine ev_iload (pc' := 126) dX8_layCut_124 rfl rfl ?_
        refine ev_iconst (pc' := 127) (v := 4) dX8_layCut_126 rfl ki_4 ?_
        refine ev_icmp_ge (tgt := 174) (pc' := 130) dX8_layCut_127 rfl rfl (fun h => absurd h (by decide)) (fun _ => ?_)
        refine ev_aload_n (pc' := 131) (i := 0) dX8_layCut_130 rfl rfl rfl ?_
        refine ev_getR (pc' := 134) fo_X8_58 dX8_layCut_131 rfl hs_115 rfl rf_115_21 ?_
        refine ev_iload (pc' := 136) dX8_layCut_134 rfl rfl ?_
        refine ev_aload_n (pc' := 137) (i := 0) dX8_layCut_136 rfl rfl rfl ?_
        refine ev_getR (pc' := 140) fo_X8_55 dX8_layCut_137 rfl hs_115 rfl rf_115_20 ?_
        refine ev_iconst (pc' := 141) (v := 4) dX8_layCut_140 rfl ki_4 ?_
        refine ev_iload (pc' := 143) dX8_layCut_141 rfl rfl ?_
        refine ev_imul (pc' := 144) (v := 0) dX8_layCut_143 rfl (by decide) ?_
        refine ev_iload (pc' := 146) dX8_layCut_144 rfl rfl ?_
        refine ev_iadd (pc' := 147) (v := 1) dX8_layCut_146 rfl (by decide) ?_
        refine ev_iald (pc' := 148) (j := 1) (v := 0) dX8_layCut_147 rfl hs_129 rfl (Nat.le_of_ble_eq_true rfl) (Nat.le_of_ble_eq_true rfl) rfl ?_
        refine ev_iast (pc' := 149) (j := 1) (I' := (ma_up (ma_up (ma_up I 129 (ma_up (ma_up (ma_up (ma_up (ma_up (ma_up (ma_up (ma_up (ma_up (ma_up (ma_up (ma_up (I 129) 0 ((I 126) 2)) 1 0) 2 (-((I 126) 0))) 3 0) 4 0) 5 ((I 126) 2)) 6 (-((I 126) 1))) 7 0) 8 0) 9 0) 10 (-((I 126) 3))) 11 ((I 126) 2))) 130 (ma_up (ma_up (I 130) 0 ((I 126) 2)) 1 0)) 131 (ma_up (I 131) 0 ((I 126) 2)))) dX8_layCut_148 rfl hs_130 rfl (Nat.le_of_ble_eq_true rfl) (Nat.le_of_ble_eq_true rfl) ((ma_up_comm _ (show 130 ≠ 131 from (by decide)) _ _).trans (congrArg (fun f => ma_up f 131 _) (ma_up_up _ _ _ _))) ?_
        refine ev_aload_n (pc' := 150) (i := 0) dX8_layCut_149 rfl rfl rfl ?_
        refine ev_getR (pc' := 153) fo_X8_61 dX8_layCut_150 rfl hs_115 rfl rf_115_22 ?_
        refine ev_iload (pc' := 155) dX8_layCut_153 rfl rfl ?_
        refine ev_aload_n (pc' := 156) (i := 0) dX8_layCut_155 rfl rfl rfl ?_
        refine ev_getR (pc' := 159) fo_X8_55 dX8_layCut_156 rfl hs_115 rfl rf_115_20 ?_
        refine ev_iconst (pc' := 160) (v := 4) dX8_layCut_159 rfl ki_4 ?_
        refine ev_iload (pc' := 162) dX8_layCut_160 rfl rfl ?_
        refine ev_imul (pc' := 163) (v := 0) dX8_layCut_162 rfl (by decide) ?_
        refine ev_iload (pc' := 165) dX8_layCut_163 rfl rfl ?_
        refine ev_iadd (pc' := 166) (v := 1) dX8_layCut_165 rfl (by decide) ?_
        refine ev_iald (pc' := 167) (j := 1) (v := 0) dX8_layCut_166 rfl hs_129 rfl (Nat.le_of_ble_eq_true rfl) (Nat.le_of_ble_eq_true rfl) rfl ?_
        refine ev_iast (pc' := 168) (j := 1) (I' := (ma_up (ma_up (ma_up I 129 (ma_up (ma_up (ma_up (ma_up (ma_up (ma_up (ma_up (ma_up (ma_up (ma_up (ma_up (ma_up (I 129) 0 ((I 126) 2)) 1 0) 2 (-((I 126) 0))) 3 0) 4 0) 5 ((I 126) 2)) 6 (-((I 126) 1))) 7 0) 8 0) 9 0) 10 (-((I 126) 3))) 11 ((I 126) 2))) 130 (ma_up (ma_up (I 130) 0 ((I 126) 2)) 1 0)) 131 (ma_up (ma_up (I 131) 0 ((I 126) 2)) 1 0))) dX8_layCut_167 rfl hs_131 rfl (Nat.le_of_ble_eq_true rfl) (Nat.le_of_ble_eq_true rfl) (ma_up_up _ _ _ _) ?_
        refine ev_iinc (pc' := 171) (v := 2) (lv' := [some (.ref 115), some (.int (nI q)), some (.int 2), some (.int 3), some (.int 0), some (.int 0), some (.int 2)]) dX8_layCut_168 rfl rfl (by decide) (Nat.le_of_ble_eq_true rfl) rfl rfl ?_
        refine ev_goto (tgt := 124) dX8_layCut_171 rfl ?_
        refine ev_iload (pc' := 126) dX8_layCut_124 rfl rfl ?_
        refine ev_iconst (pc' := 127) (v := 4) dX8_layCut_126 rfl ki_4 ?_
        refine ev_icmp_ge (tgt := 174) (pc' := 130) dX8_layCut_127 rfl rfl (fun h => absurd h (by decide)) (fun _ => ?_)
        refine ev_aload_n (pc' := 131) (i := 0) dX8_layCut_130 rfl rfl rfl ?_
        refine ev_getR (pc' := 134) fo_X8_58 dX8_layCut_131 rfl hs_115 rfl rf_115_21 ?_
        refine ev_iload (pc' := 136) dX8_layCut_134 rfl rfl ?_
        refine ev_aload_n (pc' := 137) (i := 0) dX8_layCut_136 rfl rfl rfl ?_
        refine ev_getR (pc' := 140) fo_X8_55 dX8_layCut_137 rfl hs_115 rfl rf_115_20 ?_
        refine ev_iconst (pc' := 141) (v := 4) dX8_layCut_140 rfl ki_4 ?_
        refine ev_iload (pc' := 143) dX8_layCut_141 rfl rfl ?_
        refine ev_imul (pc' := 144) (v := 0) dX8_layCut_143 rfl (by decide) ?_
        refine ev_iload (pc' := 146) dX8_layCut_144 rfl rfl ?_
        refine ev_iadd (pc' := 147) (v := 2) dX8_layCut_146 rfl (by decide) ?_
        refine ev_iald (pc' := 148) (j := 2) (v := -((I 126) 0)) dX8_layCut_147 rfl hs_129 rfl (Nat.le_of_ble_eq_true rfl) (Nat.le_of_ble_eq_true rfl) rfl ?_
        refine ev_iast (pc' := 149) (j := 2) (I' := (ma_up (ma_up (ma_up I 129 (ma_up (ma_up (ma_up (ma_up (ma_up (ma_up (ma_up (ma_up (ma_up (ma_up (ma_up (ma_up (I 129) 0 ((I 126) 2)) 1 0) 2 (-((I 126) 0))) 3 0) 4 0) 5 ((I 126) 2)) 6 (-((I 126) 1))) 7 0) 8 0) 9 0) 10 (-((I 126) 3))) 11 ((I 126) 2))) 130 (ma_up (ma_up (ma_up (I 130) 0 ((I 126) 2)) 1 0) 2 (-((I 126) 0)))) 131 (ma_up (ma_up (I 131) 0 ((I 126) 2)) 1 0))) dX8_layCut_148 rfl hs_130 rfl (Nat.le_of_ble_eq_true rfl) (Nat.le_of_ble_eq_true rfl) ((ma_up_comm _ (show 130 ≠ 131 from (by decide)) _ _).trans (congrArg (fun f => ma_up f 131 _) (ma_up_up _ _ _ _))) ?_
        refine ev_aload_n (pc' := 150) (i := 0) dX8_layCut_149 rfl rfl rfl ?_
        refine ev_getR (pc' := 153) fo_X8_61 dX8_layCut_150 rfl hs_115 rfl rf_115_22 ?_
        refine ev_iload (pc' := 155) dX8_layCut_153 rfl rfl ?_
        refine ev_aload_n (pc' := 156) (i := 0) dX8_layCut_155 rfl rfl rfl ?_
        refine ev_getR (pc' := 159) fo_X8_55 dX8_layCut_156 rfl hs_115 rfl rf_115_20 ?_
        refine ev_iconst (pc' := 160) (v := 4) dX8_layCut_159 rfl ki_4 ?_
        refine ev_iload (pc' := 162) dX8_layCut_160 rfl rfl ?_
        refine ev_imul (pc' := 163) (v := 0) dX8_layCut_162 rfl (by decide) ?_
        refine ev_iload (pc' := 165) dX8_layCut_163 rfl rfl ?_
        refine ev_iadd (pc' := 166) (v := 2) dX8_layCut_165 rfl (by decide) ?_
        refine ev_iald (pc' := 167) (j := 2) (v := -((I 126) 0)) dX8_layCut_166 rfl hs_129 rfl (Nat.le_of_ble_eq_true rfl) (Nat.le_of_ble_eq_true rfl) rfl ?_
        refine ev_iast (pc' := 168) (j := 2) (I' := (ma_up (ma_up (ma_up I 129 (ma_up (ma_up (ma_up (ma_up (ma_up (ma_up (ma_up (ma_up (ma_up (ma_up (ma_up (ma_up (I 129) 0 ((I 126) 2)) 1 0) 2 (-((I 126) 0))) 3 0) 4 0) 5 ((I 126) 2)) 6 (-((I 126) 1))) 7 0) 8 0) 9 0) 10 (-((I 126) 3))) 11 ((I 126) 2))) 130 (ma_up (ma_up (ma_up (I 130) 0 ((I 126) 2)) 1 0) 2 (-((I 126) 0)))) 131 (ma_up (ma_up (ma_up (I 131) 0 ((I 126) 2)) 1 0) 2 (-((I 126) 0))))) dX8_layCut_167 rfl hs_131 rfl (Nat.le_of_ble_eq_true rfl) (Nat.le_of_ble_eq_true rfl) (ma_up_up _ _ _ _) ?_
        refine ev_iinc (pc' := 171) (v := 3) (lv' := [some (.ref 115), some (.int (nI q)), some (.int 2), some (.int 3), some (.int 0), some (.int 0), some (.int 3)]) dX8_layCut_168 rfl rfl (by decide) (Nat.le_of_ble_eq_true rfl) rfl rfl ?_
        refine ev_goto (tgt := 124) dX8_layCut_171 rfl ?_
        refine ev_iload (pc' := 126) dX8_layCut_124 rfl rfl ?_
        refine ev_iconst (pc' := 127) (v := 4) dX8_layCut_126 rfl ki_4 ?_
        refine ev_icmp_ge (tgt := 174) (pc' := 130) dX8_layCut_127 rfl rfl (fun h => absurd h (by decide)) (fun _ => ?_)
        refine ev_aload_n (pc' := 131) (i := 0) dX8_layCut_130 rfl rfl rfl ?_
        refine ev_getR (pc' := 134) fo_X8_58 dX8_layCut_131 rfl hs_115 rfl rf_115_21 ?_
        refine ev_iload (pc' := 136) dX8_layCut_134 rfl rfl ?_
        refine ev_aload_n (pc' := 137) (i := 0) dX8_layCut_136 rfl rfl rfl ?_
        refine ev_getR (pc' := 140) fo_X8_55 dX8_layCut_137 rfl hs_115 rfl rf_115_20 ?_
        refine ev_iconst (pc' := 141) (v := 4) dX8_layCut_140 rfl ki_4 ?_
        refine ev_iload (pc' := 143) dX8_layCut_141 rfl rfl ?_
        refine ev_imul (pc' := 144) (v := 0) dX8_layCut_143 rfl (by decide) ?_
        refine ev_iload (pc' := 146) dX8_layCut_144 rfl rfl ?_
        refine ev_iadd (pc' := 147) (v := 3) dX8_layCut_146 rfl (by decide) ?_
        refine ev_iald (pc' := 148) (j := 3) (v := 0) dX8_layCut_147 rfl hs_129 rfl (Nat.le_of_ble_eq_true rfl) (Nat.le_of_ble_eq_true rfl) rfl ?_
        refine ev_iast (pc' := 149) (j := 3) (I' := (ma_up (ma_up (ma_up I 129 (ma_up (ma_up (ma_up (ma_up (ma_up (ma_up (ma_up (ma_up (ma_up (ma_up (ma_up (ma_up (I 129) 0 ((I 126) 2)) 1 0) 2 (-((I 126) 0))) 3 0) 4 0) 5 ((I 126) 2)) 6 (-((I 126) 1))) 7 0) 8 0) 9 0) 10 (-((I 126) 3))) 11 ((I 126) 2))) 130 (ma_up (ma_up (ma_up (ma_up (I 130) 0 ((I 126) 2)) 1 0) 2 (-((I 126) 0))) 3 0)) 131 (ma_up (ma_up (ma_up (I 131) 0 ((I 126) 2)) 1 0) 2 (-((I 126) 0))))) dX8_layCut_148 rfl hs_130 rfl (Nat.le_of_ble_eq_true rfl) (Nat.le_of_ble_eq_true rfl) ((ma_up_comm _ (show 130 ≠ 131 from (by decide)) _ _).trans (congrArg (fun f => ma_up f 131 _) (ma_up_up _ _ _ _))) ?_
        refine ev_aload_n (pc' := 150) (i := 0) dX8_layCut_149 rfl rfl rfl ?_
        refine ev_getR (pc' := 153) fo_X8_61 dX8_layCut_150 rfl hs_115 rfl rf_115_22 ?_
        refine ev_iload (pc' := 155) dX8_layCut_153 rfl rfl ?_
        refine ev_aload_n (pc' := 156) (i := 0) dX8_layCut_155 rfl rfl rfl ?_
        refine ev_getR (pc' := 159) fo_X8_55 dX8_layCut_156 rfl hs_115 rfl rf_115_20 ?_
        refine ev_iconst (pc' := 160) (v := 4) dX8_layCut_159 rfl ki_4 ?_
        refine ev_iload (pc' := 162) dX8_layCut_160 rfl rfl ?_
        refine ev_imul (pc' := 163) (v := 0) dX8_layCut_162 rfl (by decide) ?_
        refine ev_iload (pc' := 165) dX8_layCut_163 rfl rfl ?_
        refine ev_iadd (pc' := 166) (v := 3) dX8_layCut_165 rfl (by decide) ?_
        refine ev_iald (pc' := 167) (j := 3) (v := 0) dX8_layCut_166 rfl hs_129 rfl (Nat.le_of_ble_eq_true rfl) (Nat.le_of_ble_eq_true rfl) rfl ?_
        refine ev_iast (pc' := 168) (j := 3) (I' := (ma_up (ma_up (ma_up I 129 (ma_up (ma_up (ma_up (ma_up (ma_up (ma_up (ma_up (ma_up (ma_up (ma_up (ma_up (ma_up (I 129) 0 ((I 126) 2)) 1 0) 2 (-((I 126) 0))) 3 0) 4 0) 5 ((I 126) 2)) 6 (-((I 126) 1))) 7 0) 8 0) 9 0) 10 (-((I 126) 3))) 11 ((I 126) 2))) 130 (ma_up (ma_up (ma_up (ma_up (I 130) 0 ((I 126) 2)) 1 0) 2 (-((I 126) 0))) 3 0)) 131 (ma_up (ma_up (ma_up (ma_up (I 131) 0 ((I 126) 2)) 1 0) 2 (-((I 126) 0))) 3 0))) dX8_layCut_167 rfl hs_131 rfl (Nat.le_of_ble_eq_true rfl) (Nat.le_of_ble_eq_true rfl) (ma_up_up _ _ _ _) ?_
        refine ev_iinc (pc' := 171) (v := 4) (lv' := [some (.ref 115), some (.int (nI q)), some (.int 2), some (.int 3), some (.int 0), some (.int 0), some (.int 4)]) dX8_layCut_168 rfl rfl (by decide) (Nat.le_of_ble_eq_true rfl) rfl rfl ?_
        refine ev_goto (tgt := 124) dX8_layCut_171 rfl ?_
        refine ev_iload (pc' := 126) dX8_layCut_124 rfl rfl ?_
        refine ev_iconst (pc' := 127) (v := 4) dX8_layCut_126 rfl ki_4 ?_
        refine ev_icmp_ge (tgt := 174) (pc' := 130) dX8_layCut_127 rfl rfl (fun _ => ?_) (fun h => absurd (by decide) h)
        refine ev_aload_n (pc' := 175) (i := 0) dX8_layCut_174 rfl rfl rfl ?_
        refine ev_getR (pc' := 178) fo_X8_26 dX8_layCut_175 rfl hs_115 rfl rf_115_8 ?_
        refine ev_iconst (pc' := 179) (v := 4) dX8_layCut_178 rfl ki_4 ?_
        refine ev_iload (pc' := 181) dX8_layCut_179 rfl rfl ?_
        refine ev_imul (pc' := 182) (v := 0) dX8_layCut_181 rfl (by decide) ?_
        refine ev_iload (pc' := 184) dX8_layCut_182 rfl rfl ?_
        refine ev_iadd (pc' := 185) (v := 0) dX8_layCut_184 rfl (by decide) ?_
        refine ev_aload_n (pc' := 186) (i := 0) dX8_layCut_185 rfl rfl rfl ?_
        refine ev_iload_n (pc' := 187) (i := 1) dX8_layCut_186 rfl rfl rfl ?_
        refine ev_aload_n (pc' := 188) (i := 0) dX8_layCut_187 rfl rfl rfl ?_
        refine ev_getR (pc' := 191) fo_X8_58 dX8_layCut_188 rfl hs_115 rfl rf_115_21 ?_
        refine ev_aload_n (pc' := 192) (i := 0) dX8_layCut_191 rfl rfl rfl ?_
        refine ev_getR (pc' := 195) fo_X8_61 dX8_layCut_192 rfl hs_115 rfl rf_115_22 ?_
        refine ev_callV (pc' := 198) (rm' := rX8_both) (b := 115) (av := [.int (nI q), .ref 130, .ref 131]) (rest := [.int 0, .ref 120]) co_X8_241 ci_X8_both cv_X8_both dX8_layCut_195 rfl hs_115 hb_X8 rfl rfl (Nat.le_of_ble_eq_true rfl) ⟨(Nat.le_of_ble_eq_true rfl), (Nat.le_of_ble_eq_true rfl)⟩ ⟨(Nat.le_of_ble_eq_true rfl), (Nat.le_of_ble_eq_true rfl)⟩ ?_
        refine t_X8_both q 130 131 hq hs_130 hs_131 ?_
        refine ev_eqi (w := mBo (I 123) (mSn 2 (I 126) 0) (mSn 2 (I 126) 0) q) rfl ?_
        refine ev_i2l (pc' := 199) (v := Int32.toInt64 (mBo (I 123) (mSn 2 (I 126) 0) (mSn 2 (I 126) 0) q)) dX8_layCut_198 rfl rfl ?_
        refine ev_last (pc' := 200) (j := 0) (L' := (ma_up L 120 (ma_up (L 120) 0 (Int32.toInt64 (mBo (I 123) (mSn 2 (I 126) 0) (mSn 2 (I 126) 0) q))))) dX8_layCut_199 rfl hs_120 rfl (Nat.le_of_ble_eq_true rfl) (Nat.le_of_ble_eq_true rfl) rfl ?_
        refine ev_iinc (pc' := 203) (v := 1) (lv' := [some (.ref 115), some (.int (nI q)), some (.int 2), some (.int 3), some (.int 0), some (.int 1), some (.int 4)]) dX8_layCut_200 rfl rfl (by decide) (Nat.le_of_ble_eq_true rfl) rfl rfl ?_
        refine ev_goto (tgt := 115) dX8_layCut_203 rfl ?_
        refine ev_iload (pc' := 117) dX8_layCut_115 rfl rfl ?_
        refine ev_iconst (pc' := 118) (v := 3) dX8_layCut_117 rfl ki_3 ?_
        refine ev_icmp_ge (tgt := 206) (pc' := 121) dX8_layCut_118 rfl rfl (fun h => absurd h (by decide)) (fun _ => ?_)
        refine ev_iconst (pc' := 122) (v := 0) dX8_layCut_121 rfl ki_0 ?_
        refine ev_istore (pc' := 124) (lv' := [some (.ref 115), some (.int (nI q)), some (.int 2), some (.int 3), some (.int 0), some (.int 1), some (.int 0)]) dX8_layCut_122 rfl (Nat.le_of_ble_eq_true rfl) rfl rfl ?_
        refine ev_iload (pc' := 126) dX8_layCut_124 rfl rfl ?_
        refine ev_iconst (pc' := 127) (v := 4) dX8_layCut_126 rfl ki_4 ?_
        refine ev_icmp_ge (tgt := 174) (pc' := 130) dX8_layCut_127 rfl rfl (fun h => absurd h (by decide)) (fun _ => ?_)
        refine ev_aload_n (pc' := 131) (i := 0) dX8_layCut_130 rfl rfl rfl ?_
        refine ev_getR (pc' := 134) fo_X8_58 dX8_layCut_131 rfl hs_115 rfl rf_115_21 ?_
        refine ev_iload (pc' := 136) dX8_layCut_134 rfl rfl ?_
        refine ev_aload_n (pc' := 137) (i := 0) dX8_layCut_136 rfl rfl rfl ?_
        refine ev_getR (pc' := 140) fo_X8_55 dX8_layCut_137 rfl hs_115 rfl rf_115_20 ?_
        refine ev_iconst (pc' := 141) (v := 4) dX8_layCut_140 rfl ki_4 ?_
        refine ev_iload (pc' := 143) dX8_layCut_141 rfl rfl ?_
        refine ev_imul (pc' := 144) (v := 0) dX8_layCut_143 rfl (by decide) ?_
        refine ev_iload (pc' := 146) dX8_layCut_144 rfl rfl ?_
        refine ev_iadd (pc' := 147) (v := 0) dX8_layCut_146 rfl (by decide) ?_
        refine ev_iald (pc' := 148) (j := 0) (v := (I 126) 2) dX8_layCut_147 rfl hs_129 rfl (Nat.le_of_ble_eq_true rfl) (Nat.le_of_ble_eq_true rfl) rfl ?_
        refine ev_iast (pc' := 149) (j := 0) (I' := (ma_up (ma_up (ma_up I 129 (ma_up (ma_up (ma_up (ma_up (ma_up (ma_up (ma_up (ma_up (ma_up (ma_up (ma_up (ma_up (I 129) 0 ((I 126) 2)) 1 0) 2 (-((I 126) 0))) 3 0) 4 0) 5 ((I 126) 2)) 6 (-((I 126) 1))) 7 0) 8 0) 9 0) 10 (-((I 126) 3))) 11 ((I 126) 2))) 130 (ma_up (ma_up (ma_up (ma_up (I 130) 0 ((I 126) 2)) 1 0) 2 (-((I 126) 0))) 3 0)) 131 (ma_up (ma_up (ma_up (ma_up (I 131) 0 ((I 126) 2)) 1 0) 2 (-((I 126) 0))) 3 0))) dX8_layCut_148 rfl hs_130 rfl (Nat.le_of_ble_eq_true rfl) (Nat.le_of_ble_eq_true rfl) ((congrArg (ma_up _ 130) ((ma_up_comm _ (show 0 ≠ 3 from (by decide)) _ _).trans (congrArg (fun f => ma_up f 3 _) ((ma_up_comm _ (show 0 ≠ 2 from (by decide)) _ _).trans (congrArg (fun f => ma_up f 2 _) ((ma_up_comm _ (show 0 ≠ 1 from (by decide)) _ _).trans (congrArg (fun f => ma_up f 1 _) (ma_up_up _ _ _ _)))))))).trans ((ma_up_comm _ (show 130 ≠ 131 from (by decide)) _ _).trans (congrArg (fun f => ma_up f 131 _) (ma_up_up _ _ _ _)))) ?_
        refine ev_aload_n (pc' := 150) (i := 0) dX8_layCut_149 rfl rfl rfl ?_
        refine ev_getR (pc' := 153) fo_X8_61 dX8_layCut_150 rfl hs_115 rfl rf_115_22 ?_
        refine ev_iload (pc' := 155) dX8_layCut_153 rfl rfl ?_
        refine ev_aload_n (pc' := 156) (i := 0) dX8_layCut_155 rfl rfl rfl ?_
        refine ev_getR (pc' := 159) fo_X8_55 dX8_layCut_156 rfl hs_115 rfl rf_115_20 ?_
        refine ev_iconst (pc' := 160) (v := 4) dX8_layCut_159 rfl ki_4 ?_
        refine ev_iload (pc' := 162) dX8_layCut_160 rfl rfl ?_
        refine ev_imul (pc' := 163) (v := 4) dX8_layCut_162 rfl (by decide) ?_
        refine ev_iload (pc' := 165) dX8_layCut_163 rfl rfl ?_
        refine ev_iadd (pc' := 166) (v := 4) dX8_layCut_165 rfl (by decide) ?_
        refine ev_iald (pc' := 167) (j := 4) (v := 0) dX8_layCut_166 rfl hs_129 rfl (Nat.le_of_ble_eq_true rfl) (Nat.le_of_ble_eq_true rfl) rfl ?_
        refine ev_iast (pc' := 168) (j := 0) (I' := (ma_up (ma_up (ma_up I 129 (ma_up (ma_up (ma_up (ma_up (ma_up (ma_up (ma_up (ma_up (ma_up (ma_up (ma_up (ma_up (I 129) 0 ((I 126) 2)) 1 0) 2 (-((I 126) 0))) 3 0) 4 0) 5 ((I 126) 2)) 6 (-((I 126) 1))) 7 0) 8 0) 9 0) 10 (-((I 126) 3))) 11 ((I 126) 2))) 130 (ma_up (ma_up (ma_up (ma_up (I 130) 0 ((I 126) 2)) 1 0) 2 (-((I 126) 0))) 3 0)) 131 (ma_up (ma_up (ma_up (ma_up (I 131) 0 0) 1 0) 2 (-((I 126) 0))) 3 0))) dX8_layCut_167 rfl hs_131 rfl (Nat.le_of_ble_eq_true rfl) (Nat.le_of_ble_eq_true rfl) ((congrArg (ma_up _ 131) ((ma_up_comm _ (show 0 ≠ 3 from (by decide)) _ _).trans (congrArg (fun f => ma_up f 3 _) ((ma_up_comm _ (show 0 ≠ 2 from (by decide)) _ _).trans (congrArg (fun f => ma_up f 2 _) ((ma_up_comm _ (show 0 ≠ 1 from (by decide)) _ _).trans (congrArg (fun f => ma_up f 1 _) (ma_up_up _ _ _ _)))))))).trans (ma_up_up _ _ _ _)) ?_
        refine ev_iinc (pc' := 171) (v := 1) (lv' := [some (.ref 115), some (.int (nI q)), some (.int 2), some (.int 3), some (.int 0), some (.int 1), some (.int 1)]) dX8_layCut_168 rfl rfl (by decide) (Nat.le_of_ble_eq_true rfl) rfl rfl ?_
        refine ev_goto (tgt := 124) dX8_layCut_171 rfl ?_
        refine ev_iload (pc' := 126) dX8_layCut_124 rfl rfl ?_
        refine ev_iconst (pc' := 127) (v := 4) dX8_layCut_126 rfl ki_4 ?_
        refine ev_icmp_ge (tgt := 174) (pc' := 130) dX8_layCut_127 rfl rfl (fun h => absurd h (by decide)) (fun _ => ?_)
        refine ev_aload_n (pc' := 131) (i := 0) dX8_layCut_130 rfl rfl rfl ?_
        refine ev_getR (pc' := 134) fo_X8_58 dX8_layCut_131 rfl hs_115 rfl rf_115_21 ?_
        refine ev_iload (pc' := 136) dX8_layCut_134 rfl rfl ?_
        refine ev_aload_n (pc' := 137) (i := 0) dX8_layCut_136 rfl rfl rfl ?_
        refine ev_getR (pc' := 140) fo_X8_55 dX8_layCut_137 rfl hs_115 rfl rf_115_20 ?_
        refine ev_iconst (pc' := 141) (v := 4) dX8_layCut_140 rfl ki_4 ?_
        refine ev_iload (pc' := 143) dX8_layCut_141 rfl rfl ?_
        refine ev_imul (pc' := 144) (v := 0) dX8_layCut_143 rfl (by decide) ?_
        refine ev_iload (pc' := 146) dX8_layCut_144 rfl rfl ?_
        refine ev_iadd (pc' := 147) (v := 1) dX8_layCut_146 rfl (by decide) ?_
        refine ev_iald (pc' := 148) (j := 1) (v := 0) dX8_layCut_147 rfl hs_129 rfl (Nat.le_of_ble_eq_true rfl) (Nat.le_of_ble_eq_true rfl) rfl ?_
        refine ev_iast (pc' := 149) (j := 1) (I' := (ma_up (ma_up (ma_up I 129 (ma_up (ma_up (ma_up (ma_up (ma_up (ma_up (ma_up (ma_up (ma_up (ma_up (ma_up (ma_up (I 129) 0 ((I 126) 2)) 1 0) 2 (-((I 126) 0))) 3 0) 4 0) 5 ((I 126) 2)) 6 (-((I 126) 1))) 7 0) 8 0) 9 0) 10 (-((I 126) 3))) 11 ((I 126) 2))) 130 (ma_up (ma_up (ma_up (ma_up (I 130) 0 ((I 126) 2)) 1 0) 2 (-((I 126) 0))) 3 0)) 131 (ma_up (ma_up (ma_up (ma_up (I 131) 0 0) 1 0) 2 (-((I 126) 0))) 3 0))) dX8_layCut_148 rfl hs_130 rfl (Nat.le_of_ble_eq_true rfl) (Nat.le_of_ble_eq_true rfl) ((congrArg (ma_up _ 130) ((ma_up_comm _ (show 1 ≠ 3 from (by decide)) _ _).trans (congrArg (fun f => ma_up f 3 _) ((ma_up_comm _ (show 1 ≠ 2 from (by decide)) _ _).trans (congrArg (fun f => ma_up f 2 _) (ma_up_up _ _ _ _)))))).trans ((ma_up_comm _ (show 130 ≠ 131 from (by decide)) _ _).trans (congrArg (fun f => ma_up f 131 _) (ma_up_up _ _ _ _)))) ?_
        refine ev_aload_n (pc' := 150) (i := 0) dX8_layCut_149 rfl rfl rfl ?_
        refine ev_getR (pc' := 153) fo_X8_61 dX8_layCut_150 rfl hs_115 rfl rf_115_22 ?_
        refine ev_iload (pc' := 155) dX8_layCut_153 rfl rfl ?_
        refine ev_aload_n (pc' := 156) (i := 0) dX8_layCut_155 rfl rfl rfl ?_
        refine ev_getR (pc' := 159) fo_X8_55 dX8_layCut_156 rfl hs_115 rfl rf_115_20 ?_
        refine ev_iconst (pc' := 160) (v := 4) dX8_layCut_159 rfl ki_4 ?_
        refine ev_iload (pc' := 162) dX8_layCut_160 rfl rfl ?_
        refine ev_imul (pc' := 163) (v := 4) dX8_layCut_162 rfl (by decide) ?_
        refine ev_iload (pc' := 165) dX8_layCut_163 rfl rfl ?_
        refine ev_iadd (pc' := 166) (v := 5) dX8_layCut_165 rfl (by decide) ?_
        refine ev_iald (pc' := 167) (j := 5) (v := (I 126) 2) dX8_layCut_166 rfl hs_129 rfl (Nat.le_of_ble_eq_true rfl) (Nat.le_of_ble_eq_true rfl) rfl ?_
        refine ev_iast (pc' := 168) (j := 1) (I' := (ma_up (ma_up (ma_up I 129 (ma_up (ma_up (ma_up (ma_up (ma_up (ma_up (ma_up (ma_up (ma_up (ma_up (ma_up (ma_up (I 129) 0 ((I 126) 2)) 1 0) 2 (-((I 126) 0))) 3 0) 4 0) 5 ((I 126) 2)) 6 (-((I 126) 1))) 7 0) 8 0) 9 0) 10 (-((I 126) 3))) 11 ((I 126) 2))) 130 (ma_up (ma_up (ma_up (ma_up (I 130) 0 ((I 126) 2)) 1 0) 2 (-((I 126) 0))) 3 0)) 131 (ma_up (ma_up (ma_up (ma_up (I 131) 0 0) 1 ((I 126) 2)) 2 (-((I 126) 0))) 3 0))) dX8_layCut_167 rfl hs_131 rfl (Nat.le_of_ble_eq_true rfl) (Nat.le_of_ble_eq_true rfl) ((congrArg (ma_up _ 131) ((ma_up_comm _ (show 1 ≠ 3 from (by decide)) _ _).trans (congrArg (fun f => ma_up f 3 _) ((ma_up_comm _ (show 1 ≠ 2 from (by decide)) _ _).trans (congrArg (fun f => ma_up f 2 _) (ma_up_up _ _ _ _)))))).trans (ma_up_up _ _ _ _)) ?_
        refine ev_iinc (pc' := 171) (v := 2) (lv' := [some (.ref 115), some (.int (nI q)), some (.int 2), some (.int 3), some (.int 0), some (.int 1), some (.int 2)]) dX8_layCut_168 rfl rfl (by decide) (Nat.le_of_ble_eq_true rfl) rfl rfl ?_
        refine ev_goto (tgt := 124) dX8_layCut_171 rfl ?_
        refine ev_iload (pc' := 126) dX8_layCut_124 rfl rfl ?_
        refine ev_iconst (pc' := 127) (v := 4) dX8_layCut_126 rfl ki_4 ?_
        refine ev_icmp_ge (tgt := 174) (pc' := 130) dX8_layCut_127 rfl rfl (fun h => absurd h (by decide)) (fun _ => ?_)
        refine ev_aload_n (pc' := 131) (i := 0) dX8_layCut_130 rfl rfl rfl ?_
        refine ev_getR (pc' := 134) fo_X8_58 dX8_layCut_131 rfl hs_115 rfl rf_115_21 ?_
        refine ev_iload (pc' := 136) dX8_layCut_134 rfl rfl ?_
        refine ev_aload_n (pc' := 137) (i := 0) dX8_layCut_136 rfl rfl rfl ?_
        refine ev_getR (pc' := 140) fo_X8_55 dX8_layCut_137 rfl hs_115 rfl rf_115_20 ?_
        refine ev_iconst (pc' := 141) (v := 4) dX8_layCut_140 rfl ki_4 ?_
        refine ev_iload (pc' := 143) dX8_layCut_141 rfl rfl ?_
        refine ev_imul (pc' := 144) (v := 0) dX8_layCut_143 rfl (by decide) ?_
        refine ev_iload (pc' := 146) dX8_layCut_144 rfl rfl ?_
        refine ev_iadd (pc' := 147) (v := 2) dX8_layCut_146 rfl (by decide) ?_
        refine ev_iald (pc' := 148) (j := 2) (v := -((I 126) 0)) dX8_layCut_147 rfl hs_129 rfl (Nat.le_of_ble_eq_true rfl) (Nat.le_of_ble_eq_true rfl) rfl ?_
        refine ev_iast (pc' := 149) (j := 2) (I' := (ma_up (ma_up (ma_up I 129 (ma_up (ma_up (ma_up (ma_up (ma_up (ma_up (ma_up (ma_up (ma_up (ma_up (ma_up (ma_up (I 129) 0 ((I 126) 2)) 1 0) 2 (-((I 126) 0))) 3 0) 4 0) 5 ((I 126) 2)) 6 (-((I 126) 1))) 7 0) 8 0) 9 0) 10 (-((I 126) 3))) 11 ((I 126) 2))) 130 (ma_up (ma_up (ma_up (ma_up (I 130) 0 ((I 126) 2)) 1 0) 2 (-((I 126) 0))) 3 0)) 131 (ma_up (ma_up (ma_up (ma_up (I 131) 0 0) 1 ((I 126) 2)) 2 (-((I 126) 0))) 3 0))) dX8_layCut_148 rfl hs_130 rfl (Nat.le_of_ble_eq_true rfl) (Nat.le_of_ble_eq_true rfl) ((congrArg (ma_up _ 130) ((ma_up_comm _ (show 2 ≠ 3 from (by decide)) _ _).trans (congrArg (fun f => ma_up f 3 _) (ma_up_up _ _ _ _)))).trans ((ma_up_comm _ (show 130 ≠ 131 from (by decide)) _ _).trans (congrArg (fun f => ma_up f 131 _) (ma_up_up _ _ _ _)))) ?_
        refine ev_aload_n (pc' := 150) (i := 0) dX8_layCut_149 rfl rfl rfl ?_
        refine ev_getR (pc' := 153) fo_X8_61 dX8_layCut_150 rfl hs_115 rfl rf_115_22 ?_
        refine ev_iload (pc' := 155) dX8_layCut_153 rfl rfl ?_
        refine ev_aload_n (pc' := 156) (i := 0) dX8_layCut_155 rfl rfl rfl ?_
        refine ev_getR (pc' := 159) fo_X8_55 dX8_layCut_156 rfl hs_115 rfl rf_115_20 ?_
        refine ev_iconst (pc' := 160) (v := 4) dX8_layCut_159 rfl ki_4 ?_
        refine ev_iload (pc' := 162) dX8_layCut_160 rfl rfl ?_
        refine ev_imul (pc' := 163) (v := 4) dX8_layCut_162 rfl (by decide) ?_
        refine ev_iload (pc' := 165) dX8_layCut_163 rfl rfl ?_
        refine ev_iadd (pc' := 166) (v := 6) dX8_layCut_165 rfl (by decide) ?_
        refine ev_iald (pc' := 167) (j := 6) (v := -((I 126) 1)) dX8_layCut_166 rfl hs_129 rfl (Nat.le_of_ble_eq_true rfl) (Nat.le_of_ble_eq_true rfl) rfl ?_
        refine ev_iast (pc' := 168) (j := 2) (I' := (ma_up (ma_up (ma_up I 129 (ma_up (ma_up (ma_up (ma_up (ma_up (ma_up (ma_up (ma_up (ma_up (ma_up (ma_up (ma_up (I 129) 0 ((I 126) 2)) 1 0) 2 (-((I 126) 0))) 3 0) 4 0) 5 ((I 126) 2)) 6 (-((I 126) 1))) 7 0) 8 0) 9 0) 10 (-((I 126) 3))) 11 ((I 126) 2))) 130 (ma_up (ma_up (ma_up (ma_up (I 130) 0 ((I 126) 2)) 1 0) 2 (-((I 126) 0))) 3 0)) 131 (ma_up (ma_up (ma_up (ma_up (I 131) 0 0) 1 ((I 126) 2)) 2 (-((I 126) 1))) 3 0))) dX8_layCut_167 rfl hs_131 rfl (Nat.le_of_ble_eq_true rfl) (Nat.le_of_ble_eq_true rfl) ((congrArg (ma_up _ 131) ((ma_up_comm _ (show 2 ≠ 3 from (by decide)) _ _).trans (congrArg (fun f => ma_up f 3 _) (ma_up_up _ _ _ _)))).trans (ma_up_up _ _ _ _)) ?_
        refine ev_iinc (pc' := 171) (v := 3) (lv' := [some (.ref 115), some (.int (nI q)), some (.int 2), some (.int 3), some (.int 0), some (.int 1), some (.int 3)]) dX8_layCut_168 rfl rfl (by decide) (Nat.le_of_ble_eq_true rfl) rfl rfl ?_
        refine ev_goto (tgt := 124) dX8_layCut_171 rfl ?_
        refine ev_iload (pc' := 126) dX8_layCut_124 rfl rfl ?_
        refine ev_iconst (pc' := 127) (v := 4) dX8_layCut_126 rfl ki_4 ?_
        refine ev_icmp_ge (tgt := 174) (pc' := 130) dX8_layCut_127 rfl rfl (fun h => absurd h (by decide)) (fun _ => ?_)
        refine ev_aload_n (pc' := 131) (i := 0) dX8_layCut_130 rfl rfl rfl ?_
        refine ev_getR (pc' := 134) fo_X8_58 dX8_layCut_131 rfl hs_115 rfl rf_115_21 ?_
        refine ev_iload (pc' := 136) dX8_layCut_134 rfl rfl ?_
        refine ev_aload_n (pc' := 137) (i := 0) dX8_layCut_136 rfl rfl rfl ?_
        refine ev_getR (pc' := 140) fo_X8_55 dX8_layCut_137 rfl hs_115 rfl rf_115_20 ?_
        refine ev_iconst (pc' := 141) (v := 4) dX8_layCut_140 rfl ki_4 ?_
        refine ev_iload (pc' := 143) dX8_layCut_141 rfl rfl ?_
        refine ev_imul (pc' := 144) (v := 0) dX8_layCut_143 rfl (by decide) ?_
        refine ev_iload (pc' := 146) dX8_layCut_144 rfl rfl ?_
        refine ev_iadd (pc' := 147) (v := 3) dX8_layCut_146 rfl (by decide) ?_
        refine ev_iald (pc' := 148) (j := 3) (v := 0) dX8_layCut_147 rfl hs_129 rfl (Nat.le_of_ble_eq_true rfl) (Nat.le_of_ble_eq_true rfl) rfl ?_
        refine ev_iast (pc' := 149) (j := 3) (I' := (ma_up (ma_up (ma_up I 129 (ma_up (ma_up (ma_up (ma_up (ma_up (ma_up (ma_up (ma_up (ma_up (ma_up (ma_up (ma_up (I 129) 0 ((I 126) 2)) 1 0) 2 (-((I 126) 0))) 3 0) 4 0) 5 ((I 126) 2)) 6 (-((I 126) 1))) 7 0) 8 0) 9 0) 10 (-((I 126) 3))) 11 ((I 126) 2))) 130 (ma_up (ma_up (ma_up (ma_up (I 130) 0 ((I 126) 2)) 1 0) 2 (-((I 126) 0))) 3 0)) 131 (ma_up (ma_up (ma_up (ma_up (I 131) 0 0) 1 ((I 126) 2)) 2 (-((I 126) 1))) 3 0))) dX8_layCut_148 rfl hs_130 rfl (Nat.le_of_ble_eq_true rfl) (Nat.le_of_ble_eq_true rfl) ((congrArg (ma_up _ 130) (ma_up_up _ _ _ _)).trans ((ma_up_comm _ (show 130 ≠ 131 from (by decide)) _ _).trans (congrArg (fun f => ma_up f 131 _) (ma_up_up _ _ _ _)))) ?_
        refine ev_aload_n (pc' := 150) (i := 0) dX8_layCut_149 rfl rfl rfl ?_
        refine ev_getR (pc' := 153) fo_X8_61 dX8_layCut_150 rfl hs_115 rfl rf_115_22 ?_
        refine ev_iload (pc' := 155) dX8_layCut_153 rfl rfl ?_
        refine ev_aload_n (pc' := 156) (i := 0) dX8_layCut_155 rfl rfl rfl ?_
        refine ev_getR (pc' := 159) fo_X8_55 dX8_layCut_156 rfl hs_115 rfl rf_115_20 ?_
        refine ev_iconst (pc' := 160) (v := 4) dX8_layCut_159 rfl ki_4 ?_
        refine ev_iload (pc' := 162) dX8_layCut_160 rfl rfl ?_
        refine ev_imul (pc' := 163) (v := 4) dX8_layCut_162 rfl (by decide) ?_
        refine ev_iload (pc' := 165) dX8_layCut_163 rfl rfl ?_
        refine ev_iadd (pc' := 166) (v := 7) dX8_layCut_165 rfl (by decide) ?_
        refine ev_iald (pc' := 167) (j := 7) (v := 0) dX8_layCut_166 rfl hs_129 rfl (Nat.le_of_ble_eq_true rfl) (Nat.le_of_ble_eq_true rfl) rfl ?_
        refine ev_iast (pc' := 168) (j := 3) (I' := (ma_up (ma_up (ma_up I 129 (ma_up (ma_up (ma_up (ma_up (ma_up (ma_up (ma_up (ma_up (ma_up (ma_up (ma_up (ma_up (I 129) 0 ((I 126) 2)) 1 0) 2 (-((I 126) 0))) 3 0) 4 0) 5 ((I 126) 2)) 6 (-((I 126) 1))) 7 0) 8 0) 9 0) 10 (-((I 126) 3))) 11 ((I 126) 2))) 130 (ma_up (ma_up (ma_up (ma_up (I 130) 0 ((I 126) 2)) 1 0) 2 (-((I 126) 0))) 3 0)) 131 (ma_up (ma_up (ma_up (ma_up (I 131) 0 0) 1 ((I 126) 2)) 2 (-((I 126) 1))) 3 0))) dX8_layCut_167 rfl hs_131 rfl (Nat.le_of_ble_eq_true rfl) (Nat.le_of_ble_eq_true rfl) ((congrArg (ma_up _ 131) (ma_up_up _ _ _ _)).trans (ma_up_up _ _ _ _)) ?_
        refine ev_iinc (pc' := 171) (v := 4) (lv' := [some (.ref 115), some (.int (nI q)), some (.int 2), some (.int 3), some (.int 0), some (.int 1), some (.int 4)]) dX8_layCut_168 rfl rfl (by decide) (Nat.le_of_ble_eq_true rfl) rfl rfl ?_
        refine ev_goto (tgt := 124) dX8_layCut_171 rfl ?_
        refine ev_iload (pc' := 126) dX8_layCut_124 rfl rfl ?_
        refine ev_iconst (pc' := 127) (v := 4) dX8_layCut_126 rfl ki_4 ?_
        refine ev_icmp_ge (tgt := 174) (pc' := 130) dX8_layCut_127 rfl rfl (fun _ => ?_) (fun h => absurd (by decide) h)
        refine ev_aload_n (pc' := 175) (i := 0) dX8_layCut_174 rfl rfl rfl ?_
        refine ev_getR (pc' := 178) fo_X8_26 dX8_layCut_175 rfl hs_115 rfl rf_115_8 ?_
        refine ev_iconst (pc' := 179) (v := 4) dX8_layCut_178 rfl ki_4 ?_
        refine ev_iload (pc' := 181) dX8_layCut_179 rfl rfl ?_
        refine ev_imul (pc' := 182) (v := 0) dX8_layCut_181 rfl (by decide) ?_
        refine ev_iload (pc' := 184) dX8_layCut_182 rfl rfl ?_
        refine ev_iadd (pc' := 185) (v := 1) dX8_layCut_184 rfl (by decide) ?_
        refine ev_aload_n (pc' := 186) (i := 0) dX8_layCut_185 rfl rfl rfl ?_
        refine ev_iload_n (pc' := 187) (i := 1) dX8_layCut_186 rfl rfl rfl ?_
        refine ev_aload_n (pc' := 188) (i := 0) dX8_layCut_187 rfl rfl rfl ?_
        refine ev_getR (pc' := 191) fo_X8_58 dX8_layCut_188 rfl hs_115 rfl rf_115_21 ?_
        refine ev_aload_n (pc' := 192) (i := 0) dX8_layCut_191 rfl rfl rfl ?_
        refine ev_getR (pc' := 195) fo_X8_61 dX8_layCut_192 rfl hs_115 rfl rf_115_22 ?_
        refine ev_callV (pc' := 198) (rm' := rX8_both) (b := 115) (av := [.int (nI q), .ref 130, .ref 131]) (rest := [.int 1, .ref 120]) co_X8_241 ci_X8_both cv_X8_both dX8_layCut_195 rfl hs_115 hb_X8 rfl rfl (Nat.le_of_ble_eq_true rfl) ⟨(Nat.le_of_ble_eq_true rfl), (Nat.le_of_ble_eq_true rfl)⟩ ⟨(Nat.le_of_ble_eq_true rfl), (Nat.le_of_ble_eq_true rfl)⟩ ?_
        refine t_X8_both q 130 131 hq hs_130 hs_131 ?_
        refine ev_eqi (w := mBo (I 123) (mSn 2 (I 126) 0) (mSn 2 (I 126) 1) q) rfl ?_
        refine ev_i2l (pc' := 199) (v := Int32.toInt64 (mBo (I 123) (mSn 2 (I 126) 0) (mSn 2 (I 126) 1) q)) dX8_layCut_198 rfl rfl ?_
        refine ev_last (pc' := 200) (j := 1) (L' := (ma_up L 120 (ma_up (ma_up (L 120) 0 (Int32.toInt64 (mBo (I 123) (mSn 2 (I 126) 0) (mSn 2 (I 126) 0) q))) 1 (Int32.toInt64 (mBo (I 123) (mSn 2 (I 126) 0) (mSn 2 (I 126) 1) q))))) dX8_layCut_199 rfl hs_120 rfl (Nat.le_of_ble_eq_true rfl) (Nat.le_of_ble_eq_true rfl) (ma_up_up _ _ _ _) ?_
        refine ev_iinc (pc' := 203) (v := 2) (lv' := [some (.ref 115), some (.int (nI q)), some (.int 2), some (.int 3), some (.int 0), some (.int 2), some (.int 4)]) dX8_layCut_200 rfl rfl (by decide) (Nat.le_of_ble_eq_true rfl) rfl rfl ?_
        refine ev_goto (tgt := 115) dX8_layCut_203 rfl ?_
        refine ev_iload (pc' := 117) dX8_layCut_115 rfl rfl ?_
        refine ev_iconst (pc' := 118) (v := 3) dX8_layCut_117 rfl ki_3 ?_
        refine ev_icmp_ge (tgt := 206) (pc' := 121) dX8_layCut_118 rfl rfl (fun h => absurd h (by decide)) (fun _ => ?_)
        refine ev_iconst (pc' := 122) (v := 0) dX8_layCut_121 rfl ki_0 ?_
        refine ev_istore (pc' := 124) (lv' := [some (.ref 115), some (.int (nI q)), some (.int 2), some (.int 3), some (.int 0), some (.int 2), some (.int 0)]) dX8_layCut_122 rfl (Nat.le_of_ble_eq_true rfl) rfl rfl ?_
        refine ev_iload (pc' := 126) dX8_layCut_124 rfl rfl ?_
        refine ev_iconst (pc' := 127) (v := 4) dX8_layCut_126 rfl ki_4 ?_
        refine ev_icmp_ge (tgt := 174) (pc' := 130) dX8_layCut_127 rfl rfl (fun h => absurd h (by decide)) (fun _ => ?_)
        refine ev_aload_n (pc' := 131) (i := 0) dX8_layCut_130 rfl rfl rfl ?_
        refine ev_getR (pc' := 134) fo_X8_58 dX8_layCut_131 rfl hs_115 rfl rf_115_21 ?_
        refine ev_iload (pc' := 136) dX8_layCut_134 rfl rfl ?_
        refine ev_aload_n (pc' := 137) (i := 0) dX8_layCut_136 rfl rfl rfl ?_
        refine ev_getR (pc' := 140) fo_X8_55 dX8_layCut_137 rfl hs_115 rfl rf_115_20 ?_
        refine ev_iconst (pc' := 141) (v := 4) dX8_layCut_140 rfl ki_4 ?_
        refine ev_iload (pc' := 143) dX8_layCut_141 rfl rfl ?_
        refine ev_imul (pc' := 144) (v := 0) dX8_layCut_143 rfl (by decide) ?_
        refine ev_iload (pc' := 146) dX8_layCut_144 rfl rfl ?_
        refine ev_iadd (pc' := 147) (v := 0) dX8_layCut_146 rfl (by decide) ?_
        refine ev_iald (pc' := 148) (j := 0) (v := (I 126) 2) dX8_layCut_147 rfl hs_129 rfl (Nat.le_of_ble_eq_true rfl) (Nat.le_of_ble_eq_true rfl) rfl ?_
        refine ev_iast (pc' := 149) (j := 0) (I' := (ma_up (ma_up (ma_up I 129 (ma_up (ma_up (ma_up (ma_up (ma_up (ma_up (ma_up (ma_up (ma_up (ma_up (ma_up (ma_up (I 129) 0 ((I 126) 2)) 1 0) 2 (-((I 126) 0))) 3 0) 4 0) 5 ((I 126) 2)) 6 (-((I 126) 1))) 7 0) 8 0) 9 0) 10 (-((I 126) 3))) 11 ((I 126) 2))) 130 (ma_up (ma_up (ma_up (ma_up (I 130) 0 ((I 126) 2)) 1 0) 2 (-((I 126) 0))) 3 0)) 131 (ma_up (ma_up (ma_up (ma_up (I 131) 0 0) 1 ((I 126) 2)) 2 (-((I 126) 1))) 3 0))) dX8_layCut_148 rfl hs_130 rfl (Nat.le_of_ble_eq_true rfl) (Nat.le_of_ble_eq_true rfl) ((congrArg (ma_up _ 130) ((ma_up_comm _ (show 0 ≠ 3 from (by decide)) _ _).trans (congrArg (fun f => ma_up f 3 _) ((ma_up_comm _ (show 0 ≠ 2 from (by decide)) _ _).trans (congrArg (fun f => ma_up f 2 _) ((ma_up_comm _ (show 0 ≠ 1 from (by decide)) _ _).trans (congrArg (fun f => ma_up f 1 _) (ma_up_up _ _ _ _)))))))).trans ((ma_up_comm _ (show 130 ≠ 131 from (by decide)) _ _).trans (congrArg (fun f => ma_up f 131 _) (ma_up_up _ _ _ _)))) ?_
        refine ev_aload_n (pc' := 150) (i := 0) dX8_layCut_149 rfl rfl rfl ?_
        refine ev_getR (pc' := 153) fo_X8_61 dX8_layCut_150 rfl hs_115 rfl rf_115_22 ?_
        refine ev_iload (pc' := 155) dX8_layCut_153 rfl rfl ?_
        refine ev_aload_n (pc' := 156) (i := 0) dX8_layCut_155 rfl rfl rfl ?_
        refine ev_getR (pc' := 159) fo_X8_55 dX8_layCut_156 rfl hs_115 rfl rf_115_20 ?_
        refine ev_iconst (pc' := 160) (v := 4) dX8_layCut_159 rfl ki_4 ?_
        refine ev_iload (pc' := 162) dX8_layCut_160 rfl rfl ?_
        refine ev_imul (pc' := 163) (v := 8) dX8_layCut_162 rfl (by decide) ?_
        refine ev_iload (pc' := 165) dX8_layCut_163 rfl rfl ?_
        refine ev_iadd (pc' := 166) (v := 8) dX8_layCut_165 rfl (by decide) ?_
        refine ev_iald (pc' := 167) (j := 8) (v := 0) dX8_layCut_166 rfl hs_129 rfl (Nat.le_of_ble_eq_true rfl) (Nat.le_of_ble_eq_true rfl) rfl ?_
        refine ev_iast (pc' := 168) (j := 0) (I' := (ma_up (ma_up (ma_up I 129 (ma_up (ma_up (ma_up (ma_up (ma_up (ma_up (ma_up (ma_up (ma_up (ma_up (ma_up (ma_up (I 129) 0 ((I 126) 2)) 1 0) 2 (-((I 126) 0))) 3 0) 4 0) 5 ((I 126) 2)) 6 (-((I 126) 1))) 7 0) 8 0) 9 0) 10 (-((I 126) 3))) 11 ((I 126) 2))) 130 (ma_up (ma_up (ma_up (ma_up (I 130) 0 ((I 126) 2)) 1 0) 2 (-((I 126) 0))) 3 0)) 131 (ma_up (ma_up (ma_up (ma_up (I 131) 0 0) 1 ((I 126) 2)) 2 (-((I 126) 1))) 3 0))) dX8_layCut_167 rfl hs_131 rfl (Nat.le_of_ble_eq_true rfl) (Nat.le_of_ble_eq_true rfl) ((congrArg (ma_up _ 131) ((ma_up_comm _ (show 0 ≠ 3 from (by decide)) _ _).trans (congrArg (fun f => ma_up f 3 _) ((ma_up_comm _ (show 0 ≠ 2 from (by decide)) _ _).trans (congrArg (fun f => ma_up f 2 _) ((ma_up_comm _ (show 0 ≠ 1 from (by decide)) _ _).trans (congrArg (fun f => ma_up f 1 _) (ma_up_up _ _ _ _)))))))).trans (ma_up_up _ _ _ _)) ?_
        refine ev_iinc (pc' := 171) (v := 1) (lv' := [some (.ref 115), some (.int (nI q)), some (.int 2), some (.int 3), some (.int 0), some (.int 2), some (.int 1)]) dX8_layCut_168 rfl rfl (by decide) (Nat.le_of_ble_eq_true rfl) rfl rfl ?_
        refine ev_goto (tgt := 124) dX8_layCut_171 rfl ?_
        refine ev_iload (pc' := 126) dX8_layCut_124 rfl rfl ?_
        refine ev_iconst (pc' := 127) (v := 4) dX8_layCut_126 rfl ki_4 ?_
        refine ev_icmp_ge (tgt := 174) (pc' := 130) dX8_layCut_127 rfl rfl (fun h => absurd h (by decide)) (fun _ => ?_)
        refine ev_aload_n (pc' := 131) (i := 0) dX8_layCut_130 rfl rfl rfl ?_
        refine ev_getR (pc' := 134) fo_X8_58 dX8_layCut_131 rfl hs_115 rfl rf_115_21 ?_
        refine ev_iload (pc' := 136) dX8_layCut_134 rfl rfl ?_
        refine ev_aload_n (pc' := 137) (i := 0) dX8_layCut_136 rfl rfl rfl ?_
        refine ev_getR (pc' := 140) fo_X8_55 dX8_layCut_137 rfl hs_115 rfl rf_115_20 ?_
        refine ev_iconst (pc' := 141) (v := 4) dX8_layCut_140 rfl ki_4 ?_
        refine ev_iload (pc' := 143) dX8_layCut_141 rfl rfl ?_
        refine ev_imul (pc' := 144) (v := 0) dX8_layCut_143 rfl (by decide) ?_
        refine ev_iload (pc' := 146) dX8_layCut_144 rfl rfl ?_
        refine ev_iadd (pc' := 147) (v := 1) dX8_layCut_146 rfl (by decide) ?_
        refine ev_iald (pc' := 148) (j := 1) (v := 0) dX8_layCut_147 rfl hs_129 rfl (Nat.le_of_ble_eq_true rfl) (Nat.le_of_ble_eq_true rfl) rfl ?_
        refine ev_iast (pc' := 149) (j := 1) (I' := (ma_up (ma_up (ma_up I 129 (ma_up (ma_up (ma_up (ma_up (ma_up (ma_up (ma_up (ma_up (ma_up (ma_up (ma_up (ma_up (I 129) 0 ((I 126) 2)) 1 0) 2 (-((I 126) 0))) 3 0) 4 0) 5 ((I 126) 2)) 6 (-((I 126) 1))) 7 0) 8 0) 9 0) 10 (-((I 126) 3))) 11 ((I 126) 2))) 130 (ma_up (ma_up (ma_up (ma_up (I 130) 0 ((I 126) 2)) 1 0) 2 (-((I 126) 0))) 3 0)) 131 (ma_up (ma_up (ma_up (ma_up (I 131) 0 0) 1 ((I 126) 2)) 2 (-((I 126) 1))) 3 0))) dX8_layCut_148 rfl hs_130 rfl (Nat.le_of_ble_eq_true rfl) (Nat.le_of_ble_eq_true rfl) ((congrArg (ma_up _ 130) ((ma_up_comm _ (show 1 ≠ 3 from (by decide)) _ _).trans (congrArg (fun f => ma_up f 3 _) ((ma_up_comm _ (show 1 ≠ 2 from (by decide)) _ _).trans (congrArg (fun f => ma_up f 2 _) (ma_up_up _ _ _ _)))))).trans ((ma_up_comm _ (show 130 ≠ 131 from (by decide)) _ _).trans (congrArg (fun f => ma_up f 131 _) (ma_up_up _ _ _ _)))) ?_
        refine ev_aload_n (pc' := 150) (i := 0) dX8_layCut_149 rfl rfl rfl ?_
        refine ev_getR (pc' := 153) fo_X8_61 dX8_layCut_150 rfl hs_115 rfl rf_115_22 ?_
        refine ev_iload (pc' := 155) dX8_layCut_153 rfl rfl ?_
        refine ev_aload_n (pc' := 156) (i := 0) dX8_layCut_155 rfl rfl rfl ?_
        refine ev_getR (pc' := 159) fo_X8_55 dX8_layCut_156 rfl hs_115 rfl rf_115_20 ?_
        refine ev_iconst (pc' := 160) (v := 4) dX8_layCut_159 rfl ki_4 ?_
        refine ev_iload (pc' := 162) dX8_layCut_160 rfl rfl ?_
        refine ev_imul (pc' := 163) (v := 8) dX8_layCut_162 rfl (by decide) ?_
        refine ev_iload (pc' := 165) dX8_layCut_163 rfl rfl ?_
        refine ev_iadd (pc' := 166) (v := 9) dX8_layCut_165 rfl (by decide) ?_
        refine ev_iald (pc' := 167) (j := 9) (v := 0) dX8_layCut_166 rfl hs_129 rfl (Nat.le_of_ble_eq_true rfl) (Nat.le_of_ble_eq_true rfl) rfl ?_
        refine ev_iast (pc' := 168) (j := 1) (I' := (ma_up (ma_up (ma_up I 129 (ma_up (ma_up (ma_up (ma_up (ma_up (ma_up (ma_up (ma_up (ma_up (ma_up (ma_up (ma_up (I 129) 0 ((I 126) 2)) 1 0) 2 (-((I 126) 0))) 3 0) 4 0) 5 ((I 126) 2)) 6 (-((I 126) 1))) 7 0) 8 0) 9 0) 10 (-((I 126) 3))) 11 ((I 126) 2))) 130 (ma_up (ma_up (ma_up (ma_up (I 130) 0 ((I 126) 2)) 1 0) 2 (-((I 126) 0))) 3 0)) 131 (ma_up (ma_up (ma_up (ma_up (I 131) 0 0) 1 0) 2 (-((I 126) 1))) 3 0))) dX8_layCut_167 rfl hs_131 rfl (Nat.le_of_ble_eq_true rfl) (Nat.le_of_ble_eq_true rfl) ((congrArg (ma_up _ 131) ((ma_up_comm _ (show 1 ≠ 3 from (by decide)) _ _).trans (congrArg (fun f => ma_up f 3 _) ((ma_up_comm _ (show 1 ≠ 2 from (by decide)) _ _).trans (congrArg (fun f => ma_up f 2 _) (ma_up_up _ _ _ _)))))).trans (ma_up_up _ _ _ _)) ?_
        refine ev_iinc (pc' := 171) (v := 2) (lv' := [some (.ref 115), some (.int (nI q)), some (.int 2), some (.int 3), some (.int 0), some (.int 2), some (.int 2)]) dX8_layCut_168 rfl rfl (by decide) (Nat.le_of_ble_eq_true rfl) rfl rfl ?_
        refine ev_goto (tgt := 124) dX8_layCut_171 rfl ?_
        refine ev_iload (pc' := 126) dX8_layCut_124 rfl rfl ?_
        refine ev_iconst (pc' := 127) (v := 4) dX8_layCut_126 rfl ki_4 ?_
        refine ev_icmp_ge (tgt := 174) (pc' := 130) dX8_layCut_127 rfl rfl (fun h => absurd h (by decide)) (fun _ => ?_)
        refine ev_aload_n (pc' := 131) (i := 0) dX8_layCut_130 rfl rfl rfl ?_
        refine ev_getR (pc' := 134) fo_X8_58 dX8_layCut_131 rfl hs_115 rfl rf_115_21 ?_
        refine ev_iload (pc' := 136) dX8_layCut_134 rfl rfl ?_
        refine ev_aload_n (pc' := 137) (i := 0) dX8_layCut_136 rfl rfl rfl ?_
        refine ev_getR (pc' := 140) fo_X8_55 dX8_layCut_137 rfl hs_115 rfl rf_115_20 ?_
        refine ev_iconst (pc' := 141) (v := 4) dX8_layCut_140 rfl ki_4 ?_
        refine ev_iload (pc' := 143) dX8_layCut_141 rfl rfl ?_
        refine ev_imul (pc' := 144) (v := 0) dX8_layCut_143 rfl (by decide) ?_
        refine ev_iload (pc' := 146) dX8_layCut_144 rfl rfl ?_
        refine ev_iadd (pc' := 147) (v := 2) dX8_layCut_146 rfl (by decide) ?_
        refine ev_iald (pc' := 148) (j := 2) (v := -((I 126) 0)) dX8_layCut_147 rfl hs_129 rfl (Nat.le_of_ble_eq_true rfl) (Nat.le_of_ble_eq_true rfl) rfl ?_
        refine ev_iast (pc' := 149) (j := 2) (I' := (ma_up (ma_up (ma_up I 129 (ma_up (ma_up (ma_up (ma_up (ma_up (ma_up (ma_up (ma_up (ma_up (ma_up (ma_up (ma_up (I 129) 0 ((I 126) 2)) 1 0) 2 (-((I 126) 0))) 3 0) 4 0) 5 ((I 126) 2)) 6 (-((I 126) 1))) 7 0) 8 0) 9 0) 10 (-((I 126) 3))) 11 ((I 126) 2))) 130 (ma_up (ma_up (ma_up (ma_up (I 130) 0 ((I 126) 2)) 1 0) 2 (-((I 126) 0))) 3 0)) 131 (ma_up (ma_up (ma_up (ma_up (I 131) 0 0) 1 0) 2 (-((I 126) 1))) 3 0))) dX8_layCut_148 rfl hs_130 rfl (Nat.le_of_ble_eq_true rfl) (Nat.le_of_ble_eq_true rfl) ((congrArg (ma_up _ 130) ((ma_up_comm _ (show 2 ≠ 3 from (by decide)) _ _).trans (congrArg (fun f => ma_up f 3 _) (ma_up_up _ _ _ _)))).trans ((ma_up_comm _ (show 130 ≠ 131 from (by decide)) _ _).trans (congrArg (fun f => ma_up f 131 _) (ma_up_up _ _ _ _)))) ?_
        refine ev_aload_n (pc' := 150) (i := 0) dX8_layCut_149 rfl rfl rfl ?_
        refine ev_getR (pc' := 153) fo_X8_61 dX8_layCut_150 rfl hs_115 rfl rf_115_22 ?_
        refine ev_iload (pc' := 155) dX8_layCut_153 rfl rfl ?_
        refine ev_aload_n (pc' := 156) (i := 0) dX8_layCut_155 rfl rfl rfl ?_
        refine ev_getR (pc' := 159) fo_X8_55 dX8_layCut_156 rfl hs_115 rfl rf_115_20 ?_
        refine ev_iconst (pc' := 160) (v := 4) dX8_layCut_159 rfl ki_4 ?_
        refine ev_iload (pc' := 162) dX8_layCut_160 rfl rfl ?_
        refine ev_imul (pc' := 163) (v := 8) dX8_layCut_162 rfl (by decide) ?_
        refine ev_iload (pc' := 165) dX8_layCut_163 rfl rfl ?_
        refine ev_iadd (pc' := 166) (v := 10) dX8_layCut_165 rfl (by decide) ?_
        refine ev_iald (pc' := 167) (j := 10) (v := -((I 126) 3)) dX8_layCut_166 rfl hs_129 rfl (Nat.le_of_ble_eq_true rfl) (Nat.le_of_ble_eq_true rfl) rfl ?_
        refine ev_iast (pc' := 168) (j := 2) (I' := (ma_up (ma_up (ma_up I 129 (ma_up (ma_up (ma_up (ma_up (ma_up (ma_up (ma_up (ma_up (ma_up (ma_up (ma_up (ma_up (I 129) 0 ((I 126) 2)) 1 0) 2 (-((I 126) 0))) 3 0) 4 0) 5 ((I 126) 2)) 6 (-((I 126) 1))) 7 0) 8 0) 9 0) 10 (-((I 126) 3))) 11 ((I 126) 2))) 130 (ma_up (ma_up (ma_up (ma_up (I 130) 0 ((I 126) 2)) 1 0) 2 (-((I 126) 0))) 3 0)) 131 (ma_up (ma_up (ma_up (ma_up (I 131) 0 0) 1 0) 2 (-((I 126) 3))) 3 0))) dX8_layCut_167 rfl hs_131 rfl (Nat.le_of_ble_eq_true rfl) (Nat.le_of_ble_eq_true rfl) ((congrArg (ma_up _ 131) ((ma_up_comm _ (show 2 ≠ 3 from (by decide)) _ _).trans (congrArg (fun f => ma_up f 3 _) (ma_up_up _ _ _ _)))).trans (ma_up_up _ _ _ _)) ?_
        refine ev_iinc (pc' := 171) (v := 3) (lv' := [some (.ref 115), some (.int (nI q)), some (.int 2), some (.int 3), some (.int 0), some (.int 2), some (.int 3)]) dX8_layCut_168 rfl rfl (by decide) (Nat.le_of_ble_eq_true rfl) rfl rfl ?_
        refine ev_goto (tgt := 124) dX8_layCut_171 rfl ?_
        refine ev_iload (pc' := 126) dX8_layCut_124 rfl rfl ?_
        refine ev_iconst (pc' := 127) (v := 4) dX8_layCut_126 rfl ki_4 ?_
        refine ev_icmp_ge (tgt := 174) (pc' := 130) dX8_layCut_127 rfl rfl (fun h => absurd h (by decide)) (fun _ => ?_)
        refine ev_aload_n (pc' := 131) (i := 0) dX8_layCut_130 rfl rfl rfl ?_
        refine ev_getR (pc' := 134) fo_X8_58 dX8_layCut_131 rfl hs_115 rfl rf_115_21 ?_
        refine ev_iload (pc' := 136) dX8_layCut_134 rfl rfl ?_
        refine ev_aload_n (pc' := 137) (i := 0) dX8_layCut_136 rfl rfl rfl ?_
        refine ev_getR (pc' := 140) fo_X8_55 dX8_layCut_137 rfl hs_115 rfl rf_115_20 ?_
        refine ev_iconst (pc' := 141) (v := 4) dX8_layCut_140 rfl ki_4 ?_
        refine ev_iload (pc' := 143) dX8_layCut_141 rfl rfl ?_
        refine ev_imul (pc' := 144) (v := 0) dX8_layCut_143 rfl (by decide) ?_
        refine ev_iload (pc' := 146) dX8_layCut_144 rfl rfl ?_
        refine ev_iadd (pc' := 147) (v := 3) dX8_layCut_146 rfl (by decide) ?_
        refine ev_iald (pc' := 148) (j := 3) (v := 0) dX8_layCut_147 rfl hs_129 rfl (Nat.le_of_ble_eq_true rfl) (Nat.le_of_ble_eq_true rfl) rfl ?_
        refine ev_iast (pc' := 149) (j := 3) (I' := (ma_up (ma_up (ma_up I 129 (ma_up (ma_up (ma_up (ma_up (ma_up (ma_up (ma_up (ma_up (ma_up (ma_up (ma_up (ma_up (I 129) 0 ((I 126) 2)) 1 0) 2 (-((I 126) 0))) 3 0) 4 0) 5 ((I 126) 2)) 6 (-((I 126) 1))) 7 0) 8 0) 9 0) 10 (-((I 126) 3))) 11 ((I 126) 2))) 130 (ma_up (ma_up (ma_up (ma_up (I 130) 0 ((I 126) 2)) 1 0) 2 (-((I 126) 0))) 3 0)) 131 (ma_up (ma_up (ma_up (ma_up (I 131) 0 0) 1 0) 2 (-((I 126) 3))) 3 0))) dX8_layCut_148 rfl hs_130 rfl (Nat.le_of_ble_eq_true rfl) (Nat.le_of_ble_eq_true rfl) ((congrArg (ma_up _ 130) (ma_up_up _ _ _ _)).trans ((ma_up_comm _ (show 130 ≠ 131 from (by decide)) _ _).trans (congrArg (fun f => ma_up f 131 _) (ma_up_up _ _ _ _)))) ?_
        refine ev_aload_n (pc' := 150) (i := 0) dX8_layCut_149 rfl rfl rfl ?_
        refine ev_getR (pc' := 153) fo_X8_61 dX8_layCut_150 rfl hs_115 rfl rf_115_22 ?_
        refine ev_iload (pc' := 155) dX8_layCut_153 rfl rfl ?_
        refine ev_aload_n (pc' := 156) (i := 0) dX8_layCut_155 rfl rfl rfl ?_
        refine ev_getR (pc' := 159) fo_X8_55 dX8_layCut_156 rfl hs_115 rfl rf_115_20 ?_
        refine ev_iconst (pc' := 160) (v := 4) dX8_layCut_159 rfl ki_4 ?_
        refine ev_iload (pc' := 162) dX8_layCut_160 rfl rfl ?_
        refine ev_imul (pc' := 163) (v := 8) dX8_layCut_162 rfl (by decide) ?_
        refine ev_iload (pc' := 165) dX8_layCut_163 rfl rfl ?_
        refine ev_iadd (pc' := 166) (v := 11) dX8_layCut_165 rfl (by decide) ?_
        refine ev_iald (pc' := 167) (j := 11) (v := (I 126) 2) dX8_layCut_166 rfl hs_129 rfl (Nat.le_of_ble_eq_true rfl) (Nat.le_of_ble_eq_true rfl) rfl ?_
        refine ev_iast (pc' := 168) (j := 3) (I' := (ma_up (ma_up (ma_up I 129 (ma_up (ma_up (ma_up (ma_up (ma_up (ma_up (ma_up (ma_up (ma_up (ma_up (ma_up (ma_up (I 129) 0 ((I 126) 2)) 1 0) 2 (-((I 126) 0))) 3 0) 4 0) 5 ((I 126) 2)) 6 (-((I 126) 1))) 7 0) 8 0) 9 0) 10 (-((I 126) 3))) 11 ((I 126) 2))) 130 (ma_up (ma_up (ma_up (ma_up (I 130) 0 ((I 126) 2)) 1 0) 2 (-((I 126) 0))) 3 0)) 131 (ma_up (ma_up (ma_up (ma_up (I 131) 0 0) 1 0) 2 (-((I 126) 3))) 3 ((I 126) 2)))) dX8_layCut_167 rfl hs_131 rfl (Nat.le_of_ble_eq_true rfl) (Nat.le_of_ble_eq_true rfl) ((congrArg (ma_up _ 131) (ma_up_up _ _ _ _)).trans (ma_up_up _ _ _ _)) ?_
        refine ev_iinc (pc' := 171) (v := 4) (lv' := [some (.ref 115), some (.int (nI q)), some (.int 2), some (.int 3), some (.int 0), some (.int 2), some (.int 4)]) dX8_layCut_168 rfl rfl (by decide) (Nat.le_of_ble_eq_true rfl) rfl rfl ?_
        refine ev_goto (tgt := 124) dX8_layCut_171 rfl ?_
        refine ev_iload (pc' := 126) dX8_layCut_124 rfl rfl ?_
        refine ev_iconst (pc' := 127) (v := 4) dX8_layCut_126 rfl ki_4 ?_
        refine ev_icmp_ge (tgt := 174) (pc' := 130) dX8_layCut_127 rfl rfl (fun _ => ?_) (fun h => absurd (by decide) h)
        refine ev_aload_n (pc' := 175) (i := 0) dX8_layCut_174 rfl rfl rfl ?_
        refine ev_getR (pc' := 178) fo_X8_26 dX8_layCut_175 rfl hs_115 rfl rf_115_8 ?_
        refine ev_iconst (pc' := 179) (v := 4) dX8_layCut_178 rfl ki_4 ?_
        refine ev_iload (pc' := 181) dX8_layCut_179 rfl rfl ?_
        refine ev_imul (pc' := 182) (v := 0) dX8_layCut_181 rfl (by decide) ?_
        refine ev_iload (pc' := 184) dX8_layCut_182 rfl rfl ?_
        refine ev_iadd (pc' := 185) (v := 2) dX8_layCut_184 rfl (by decide) ?_
        refine ev_aload_n (pc' := 186) (i := 0) dX8_layCut_185 rfl rfl rfl ?_
        refine ev_iload_n (pc' := 187) (i := 1) dX8_layCut_186 rfl rfl rfl ?_
        refine ev_aload_n (pc' := 188) (i := 0) dX8_layCut_187 rfl rfl rfl ?_
        refine ev_getR (pc' := 191) fo_X8_58 dX8_layCut_188 rfl hs_115 rfl rf_115_21 ?_
        refine ev_aload_n (pc' := 192) (i := 0) dX8_layCut_191 rfl rfl rfl ?_
        refine ev_getR (pc' := 195) fo_X8_61 dX8_layCut_192 rfl hs_115 rfl rf_115_22 ?_
        refine ev_callV (pc' := 198) (rm' := rX8_both) (b := 115) (av := [.int (nI q), .ref 130, .ref 131]) (rest := [.int 2, .ref 120]) co_X8_241 ci_X8_both cv_X8_both dX8_layCut_195 rfl hs_115 hb_X8 rfl rfl (Nat.le_of_ble_eq_true rfl) ⟨(Nat.le_of_ble_eq_true rfl), (Nat.le_of_ble_eq_true rfl)⟩ ⟨(Nat.le_of_ble_eq_true rfl), (Nat.le_of_ble_eq_true rfl)⟩ ?_
        refine t_X8_both q 130 131 hq hs_130 hs_131 ?_
        refine ev_eqi (w := mBo (I 123) (mSn 2 (I 126) 0) (mSn 2 (I 126) 2) q) rfl ?_
        refine ev_i2l (pc' := 199) (v := Int32.toInt64 (mBo (I 123) (mSn 2 (I 126) 0) (mSn 2 (I 126) 2) q)) dX8_layCut_198 rfl rfl ?_
        refine ev_last (pc' := 200) (j := 2) (L' := (ma_up L 120 (ma_up (ma_up (ma_up (L 120) 0 (Int32.toInt64 (mBo (I 123) (mSn 2 (I 126) 0) (mSn 2 (I 126) 0) q))) 1 (Int32.toInt64 (mBo (I 123) (mSn 2 (I 126) 0) (mSn 2 (I 126) 1) q))) 2 (Int32.toInt64 (mBo (I 123) (mSn 2 (I 126) 0) (mSn 2 (I 126) 2) q))))) dX8_layCut_199 rfl hs_120 rfl (Nat.le_of_ble_eq_true rfl) (Nat.le_of_ble_eq_true rfl) (ma_up_up _ _ _ _) ?_
        refine ev_iinc (pc' := 203) (v := 3) (lv' := [some (.ref 115), some (.int (nI q)), some (.int 2), some (.int 3), some (.int 0), some (.int 3), some (.int 4)]) dX8_layCut_200 rfl rfl (by decide) (Nat.le_of_ble_eq_true rfl) rfl rfl ?_
        refine ev_goto (tgt := 115) dX8_layCut_203 rfl ?_
        refine ev_iload (pc' := 117) dX8_layCut_115 rfl rfl ?_
        refine ev_iconst (pc' := 118) (v := 3) dX8_layCut_117 rfl ki_3 ?_
        refine ev_icmp_ge (tgt := 206) (pc' := 121) dX8_layCut_118 rfl rfl (fun _ => ?_) (fun h => absurd (by decide) h)
        refine ev_iinc (pc' := 209) (v := 1) (lv' := [some (.ref 115), some (.int (nI q)), some (.int 2), some (.int 3), some (.int 1), some (.int 3), some (.int 4)]) dX8_layCut_206 rfl rfl (by decide) (Nat.le_of_ble_eq_true rfl) rfl rfl ?_
        refine ev_goto (tgt := 106) dX8_layCut_209 rfl ?_
        refine ev_iload (pc' := 108) dX8_layCut_106 rfl rfl ?_
        refine ev_iconst (pc' := 109) (v := 3) dX8_layCut_108 rfl ki_3 ?_
        refine ev_icmp_ge (tgt := 212) (pc' := 112) dX8_layCut_109 rfl rfl (fun h => absurd h (by decide)) (fun _ => ?_)
        refine ev_iconst (pc' := 113) (v := 0) dX8_layCut_112 rfl ki_0 ?_
        refine ev_istore (pc' := 115) (lv' := [some (.ref 115), some (.int (nI q)), some (.int 2), some (.int 3), some (.int 1), some (.int 0), some (.int 4)]) dX8_layCut_113 rfl (Nat.le_of_ble_eq_true rfl) rfl rfl ?_
        refine ev_iload (pc' := 117) dX8_layCut_115 rfl rfl ?_
        refine ev_iconst (pc' := 118) (v := 3) dX8_layCut_117 rfl ki_3 ?_
        refine ev_icmp_ge (tgt := 206) (pc' := 121) dX8_layCut_118 rfl rfl (fun h => absurd h (by decide)) (fun _ => ?_)
        refine ev_iconst (pc' := 122) (v := 0) dX8_layCut_121 rfl ki_0 ?_
        refine ev_istore (pc' := 124) (lv' := [some (.ref 115), some (.int (nI q)), some (.int 2), some (.int 3), some (.int 1), some (.int 0), some (.int 0)]) dX8_layCut_122 rfl (Nat.le_of_ble_eq_true rfl) rfl rfl ?_
        refine ev_iload (pc' := 126) dX8_layCut_124 rfl rfl ?_
        refine ev_iconst (pc' := 127) (v := 4) dX8_layCut_126 rfl ki_4 ?_
        refine ev_icmp_ge (tgt := 174) (pc' := 130) dX8_layCut_127 rfl rfl (fun h => absurd h (by decide)) (fun _ => ?_)
        refine ev_aload_n (pc' := 131) (i := 0) dX8_layCut_130 rfl rfl rfl ?_
        refine ev_getR (pc' := 134) fo_X8_58 dX8_layCut_131 rfl hs_115 rfl rf_115_21 ?_
        refine ev_iload (pc' := 136) dX8_layCut_134 rfl rfl ?_
        refine ev_aload_n (pc' := 137) (i := 0) dX8_layCut_136 rfl rfl rfl ?_
        refine ev_getR (pc' := 140) fo_X8_55 dX8_layCut_137 rfl hs_115 rfl rf_115_20 ?_
        refine ev_iconst (pc' := 141) (v := 4) dX8_layCut_140 rfl ki_4 ?_
        refine ev_iload (pc' := 143) dX8_layCut_141 rfl rfl ?_
        refine ev_imul (pc' := 144) (v := 4) dX8_layCut_143 rfl (by decide) ?_
        refine ev_iload (pc' := 146) dX8_layCut_144 rfl rfl ?_
        refine ev_iadd (pc' := 147) (v := 4) dX8_layCut_146 rfl (by decide) ?_
        refine ev_iald (pc' := 148) (j := 4) (v := 0) dX8_layCut_147 rfl hs_129 rfl (Nat.le_of_ble_eq_true rfl) (Nat.le_of_ble_eq_true rfl) rfl ?_
        refine ev_iast (pc' := 149) (j := 0) (I' := (ma_up (ma_up (ma_up I 129 (ma_up (ma_up (ma_up (ma_up (ma_up (ma_up (ma_up (ma_up (ma_up (ma_up (ma_up (ma_up (I 129) 0 ((I 126) 2)) 1 0) 2 (-((I 126) 0))) 3 0) 4 0) 5 ((I 126) 2)) 6 (-((I 126) 1))) 7 0) 8 0) 9 0) 10 (-((I 126) 3))) 11 ((I 126) 2))) 130 (ma_up (ma_up (ma_up (ma_up (I 130) 0 0) 1 0) 2 (-((I 126) 0))) 3 0)) 131 (ma_up (ma_up (ma_up (ma_up (I 131) 0 0) 1 0) 2 (-((I 126) 3))) 3 ((I 126) 2)))) dX8_layCut_148 rfl hs_130 rfl (Nat.le_of_ble_eq_true rfl) (Nat.le_of_ble_eq_true rfl) ((congrArg (ma_up _ 130) ((ma_up_comm _ (show 0 ≠ 3 from (by decide)) _ _).trans (congrArg (fun f => ma_up f 3 _) ((ma_up_comm _ (show 0 ≠ 2 from (by decide)) _ _).trans (congrArg (fun f => ma_up f 2 _) ((ma_up_comm _ (show 0 ≠ 1 from (by decide)) _ _).trans (congrArg (fun f => ma_up f 1 _) (ma_up_up _ _ _ _)))))))).trans ((ma_up_comm _ (show 130 ≠ 131 from (by decide)) _ _).trans (congrArg (fun f => ma_up f 131 _) (ma_up_up _ _ _ _)))) ?_
        refine ev_aload_n (pc' := 150) (i := 0) dX8_layCut_149 rfl rfl rfl ?_
        refine ev_getR (pc' := 153) fo_X8_61 dX8_layCut_150 rfl hs_115 rfl rf_115_22 ?_
        refine ev_iload (pc' := 155) dX8_layCut_153 rfl rfl ?_
        refine ev_aload_n (pc' := 156) (i := 0) dX8_layCut_155 rfl rfl rfl ?_
        refine ev_getR (pc' := 159) fo_X8_55 dX8_layCut_156 rfl hs_115 rfl rf_115_20 ?_
        refine ev_iconst (pc' := 160) (v := 4) dX8_layCut_159 rfl ki_4 ?_
        refine ev_iload (pc' := 162) dX8_layCut_160 rfl rfl ?_
        refine ev_imul (pc' := 163) (v := 0) dX8_layCut_162 rfl (by decide) ?_
        refine ev_iload (pc' := 165) dX8_layCut_163 rfl rfl ?_
        refine ev_iadd (pc' := 166) (v := 0) dX8_layCut_165 rfl (by decide) ?_
        refine ev_iald (pc' := 167) (j := 0) (v := (I 126) 2) dX8_layCut_166 rfl hs_129 rfl (Nat.le_of_ble_eq_true rfl) (Nat.le_of_ble_eq_true rfl) rfl ?_
        refine ev_iast (pc' := 168) (j := 0) (I' := (ma_up (ma_up (ma_up I 129 (ma_up (ma_up (ma_up (ma_up (ma_up (ma_up (ma_up (ma_up (ma_up (ma_up (ma_up (ma_up (I 129) 0 ((I 126) 2)) 1 0) 2 (-((I 126) 0))) 3 0) 4 0) 5 ((I 126) 2)) 6 (-((I 126) 1))) 7 0) 8 0) 9 0) 10 (-((I 126) 3))) 11 ((I 126) 2))) 130 (ma_up (ma_up (ma_up (ma_up (I 130) 0 0) 1 0) 2 (-((I 126) 0))) 3 0)) 131 (ma_up (ma_up (ma_up (ma_up (I 131) 0 ((I 126) 2)) 1 0) 2 (-((I 126) 3))) 3 ((I 126) 2)))) dX8_layCut_167 rfl hs_131 rfl (Nat.le_of_ble_eq_true rfl) (Nat.le_of_ble_eq_true rfl) ((congrArg (ma_up _ 131) ((ma_up_comm _ (show 0 ≠ 3 from (by decide)) _ _).trans (congrArg (fun f => ma_up f 3 _) ((ma_up_comm _ (show 0 ≠ 2 from (by decide)) _ _).trans (congrArg (fun f => ma_up f 2 _) ((ma_up_comm _ (show 0 ≠ 1 from (by decide)) _ _).trans (congrArg (fun f => ma_up f 1 _) (ma_up_up _ _ _ _)))))))).trans (ma_up_up _ _ _ _)) ?_
        refine ev_iinc (pc' := 171) (v := 1) (lv' := [some (.ref 115), some (.int (nI q)), some (.int 2), some (.int 3), some (.int 1), some (.int 0), some (.int 1)]) dX8_layCut_168 rfl rfl (by decide) (Nat.le_of_ble_eq_true rfl) rfl rfl ?_
        refine ev_goto (tgt := 124) dX8_layCut_171 rfl ?_
        refine ev_iload (pc' := 126) dX8_layCut_124 rfl rfl ?_
        refine ev_iconst (pc' := 127) (v := 4) dX8_layCut_126 rfl ki_4 ?_
        refine ev_icmp_ge (tgt := 174) (pc' := 130) dX8_layCut_127 rfl rfl (fun h => absurd h (by decide)) (fun _ => ?_)
        refine ev_aload_n (pc' := 131) (i := 0) dX8_layCut_130 rfl rfl rfl ?_
        refine ev_getR (pc' := 134) fo_X8_58 dX8_layCut_131 rfl hs_115 rfl rf_115_21 ?_
        refine ev_iload (pc' := 136) dX8_layCut_134 rfl rfl ?_
        refine ev_aload_n (pc' := 137) (i := 0) dX8_layCut_136 rfl rfl rfl ?_
        refine ev_getR (pc' := 140) fo_X8_55 dX8_layCut_137 rfl hs_115 rfl rf_115_20 ?_
        refine ev_iconst (pc' := 141) (v := 4) dX8_layCut_140 rfl ki_4 ?_
        refine ev_iload (pc' := 143) dX8_layCut_141 rfl rfl ?_
        refine ev_imul (pc' := 144) (v := 4) dX8_layCut_143 rfl (by decide) ?_
        refine ev_iload (pc' := 146) dX8_layCut_144 rfl rfl ?_
        refine ev_iadd (pc' := 147) (v := 5) dX8_layCut_146 rfl (by decide) ?_
        refine ev_iald (pc' := 148) (j := 5) (v := (I 126) 2) dX8_layCut_147 rfl hs_129 rfl (Nat.le_of_ble_eq_true rfl) (Nat.le_of_ble_eq_true rfl) rfl ?_
        refine ev_iast (pc' := 149) (j := 1) (I' := (ma_up (ma_up (ma_up I 129 (ma_up (ma_up (ma_up (ma_up (ma_up (ma_up (ma_up (ma_up (ma_up (ma_up (ma_up (ma_up (I 129) 0 ((I 126) 2)) 1 0) 2 (-((I 126) 0))) 3 0) 4 0) 5 ((I 126) 2)) 6 (-((I 126) 1))) 7 0) 8 0) 9 0) 10 (-((I 126) 3))) 11 ((I 126) 2))) 130 (ma_up (ma_up (ma_up (ma_up (I 130) 0 0) 1 ((I 126) 2)) 2 (-((I 126) 0))) 3 0)) 131 (ma_up (ma_up (ma_up (ma_up (I 131) 0 ((I 126) 2)) 1 0) 2 (-((I 126) 3))) 3 ((I 126) 2)))) dX8_layCut_148 rfl hs_130 rfl (Nat.le_of_ble_eq_true rfl) (Nat.le_of_ble_eq_true rfl) ((congrArg (ma_up _ 130) ((ma_up_comm _ (show 1 ≠ 3 from (by decide)) _ _).trans (congrArg (fun f => ma_up f 3 _) ((ma_up_comm _ (show 1 ≠ 2 from (by decide)) _ _).trans (congrArg (fun f => ma_up f 2 _) (ma_up_up _ _ _ _)))))).trans ((ma_up_comm _ (show 130 ≠ 131 from (by decide)) _ _).trans (congrArg (fun f => ma_up f 131 _) (ma_up_up _ _ _ _)))) ?_
        refine ev_aload_n (pc' := 150) (i := 0) dX8_layCut_149 rfl rfl rfl ?_
        refine ev_getR (pc' := 153) fo_X8_61 dX8_layCut_150 rfl hs_115 rfl rf_115_22 ?_
        refine ev_iload (pc' := 155) dX8_layCut_153 rfl rfl ?_
        refine ev_aload_n (pc' := 156) (i := 0) dX8_layCut_155 rfl rfl rfl ?_
        refine ev_getR (pc' := 159) fo_X8_55 dX8_layCut_156 rfl hs_115 rfl rf_115_20 ?_
        refine ev_iconst (pc' := 160) (v := 4) dX8_layCut_159 rfl ki_4 ?_
        refine ev_iload (pc' := 162) dX8_layCut_160 rfl rfl ?_
        refine ev_imul (pc' := 163) (v := 0) dX8_layCut_162 rfl (by decide) ?_
        refine ev_iload (pc' := 165) dX8_layCut_163 rfl rfl ?_
        refine ev_iadd (pc' := 166) (v := 1) dX8_layCut_165 rfl (by decide) ?_
        refine ev_iald (pc' := 167) (j := 1) (v := 0) dX8_layCut_166 rfl hs_129 rfl (Nat.le_of_ble_eq_true rfl) (Nat.le_of_ble_eq_true rfl) rfl ?_
        refine ev_iast (pc' := 168) (j := 1) (I' := (ma_up (ma_up (ma_up I 129 (ma_up (ma_up (ma_up (ma_up (ma_up (ma_up (ma_up (ma_up (ma_up (ma_up (ma_up (ma_up (I 129) 0 ((I 126) 2)) 1 0) 2 (-((I 126) 0))) 3 0) 4 0) 5 ((I 126) 2)) 6 (-((I 126) 1))) 7 0) 8 0) 9 0) 10 (-((I 126) 3))) 11 ((I 126) 2))) 130 (ma_up (ma_up (ma_up (ma_up (I 130) 0 0) 1 ((I 126) 2)) 2 (-((I 126) 0))) 3 0)) 131 (ma_up (ma_up (ma_up (ma_up (I 131) 0 ((I 126) 2)) 1 0) 2 (-((I 126) 3))) 3 ((I 126) 2)))) dX8_layCut_167 rfl hs_131 rfl (Nat.le_of_ble_eq_true rfl) (Nat.le_of_ble_eq_true rfl) ((congrArg (ma_up _ 131) ((ma_up_comm _ (show 1 ≠ 3 from (by decide)) _ _).trans (congrArg (fun f => ma_up f 3 _) ((ma_up_comm _ (show 1 ≠ 2 from (by decide)) _ _).trans (congrArg (fun f => ma_up f 2 _) (ma_up_up _ _ _ _)))))).trans (ma_up_up _ _ _ _)) ?_
        refine ev_iinc (pc' := 171) (v := 2) (lv' := [some (.ref 115), some (.int (nI q)), some (.int 2), some (.int 3), some (.int 1), some (.int 0), some (.int 2)]) dX8_layCut_168 rfl rfl (by decide) (Nat.le_of_ble_eq_true rfl) rfl rfl ?_
        refine ev_goto (tgt := 124) dX8_layCut_171 rfl ?_
        refine ev_iload (pc' := 126) dX8_layCut_124 rfl rfl ?_
        refine ev_iconst (pc' := 127) (v := 4) dX8_layCut_126 rfl ki_4 ?_
        refine ev_icmp_ge (tgt := 174) (pc' := 130) dX8_layCut_127 rfl rfl (fun h => absurd h (by decide)) (fun _ => ?_)
        refine ev_aload_n (pc' := 131) (i := 0) dX8_layCut_130 rfl rfl rfl ?_
        refine ev_getR (pc' := 134) fo_X8_58 dX8_layCut_131 rfl hs_115 rfl rf_115_21 ?_
        refine ev_iload (pc' := 136) dX8_layCut_134 rfl rfl ?_
        refine ev_aload_n (pc' := 137) (i := 0) dX8_layCut_136 rfl rfl rfl ?_
        refine ev_getR (pc' := 140) fo_X8_55 dX8_layCut_137 rfl hs_115 rfl rf_115_20 ?_
        refine ev_iconst (pc' := 141) (v := 4) dX8_layCut_140 rfl ki_4 ?_
        refine ev_iload (pc' := 143) dX8_layCut_141 rfl rfl ?_
        refine ev_imul (pc' := 144) (v := 4) dX8_layCut_143 rfl (by decide) ?_
        refine ev_iload (pc' := 146) dX8_layCut_144 rfl rfl ?_
        refine ev_iadd (pc' := 147) (v := 6) dX8_layCut_146 rfl (by decide) ?_
        refine ev_iald (pc' := 148) (j := 6) (v := -((I 126) 1)) dX8_layCut_147 rfl hs_129 rfl (Nat.le_of_ble_eq_true rfl) (Nat.le_of_ble_eq_true rfl) rfl ?_
        refine ev_iast (pc' := 149) (j := 2) (I' := (ma_up (ma_up (ma_up I 129 (ma_up (ma_up (ma_up (ma_up (ma_up (ma_up (ma_up (ma_up (ma_up (ma_up (ma_up (ma_up (I 129) 0 ((I 126) 2)) 1 0) 2 (-((I 126) 0))) 3 0) 4 0) 5 ((I 126) 2)) 6 (-((I 126) 1))) 7 0) 8 0) 9 0) 10 (-((I 126) 3))) 11 ((I 126) 2))) 130 (ma_up (ma_up (ma_up (ma_up (I 130) 0 0) 1 ((I 126) 2)) 2 (-((I 126) 1))) 3 0)) 131 (ma_up (ma_up (ma_up (ma_up (I 131) 0 ((I 126) 2)) 1 0) 2 (-((I 126) 3))) 3 ((I 126) 2)))) dX8_layCut_148 rfl hs_130 rfl (Nat.le_of_ble_eq_true rfl) (Nat.le_of_ble_eq_true rfl) ((congrArg (ma_up _ 130) ((ma_up_comm _ (show 2 ≠ 3 from (by decide)) _ _).trans (congrArg (fun f => ma_up f 3 _) (ma_up_up _ _ _ _)))).trans ((ma_up_comm _ (show 130 ≠ 131 from (by decide)) _ _).trans (congrArg (fun f => ma_up f 131 _) (ma_up_up _ _ _ _)))) ?_
        refine ev_aload_n (pc' := 150) (i := 0) dX8_layCut_149 rfl rfl rfl ?_
        refine ev_getR (pc' := 153) fo_X8_61 dX8_layCut_150 rfl hs_115 rfl rf_115_22 ?_
        refine ev_iload (pc' := 155) dX8_layCut_153 rfl rfl ?_
        refine ev_aload_n (pc' := 156) (i := 0) dX8_layCut_155 rfl rfl rfl ?_
        refine ev_getR (pc' := 159) fo_X8_55 dX8_layCut_156 rfl hs_115 rfl rf_115_20 ?_
        refine ev_iconst (pc' := 160) (v := 4) dX8_layCut_159 rfl ki_4 ?_
        refine ev_iload (pc' := 162) dX8_layCut_160 rfl rfl ?_
        refine ev_imul (pc' := 163) (v := 0) dX8_layCut_162 rfl (by decide) ?_
        refine ev_iload (pc' := 165) dX8_layCut_163 rfl rfl ?_
        refine ev_iadd (pc' := 166) (v := 2) dX8_layCut_165 rfl (by decide) ?_
        refine ev_iald (pc' := 167) (j := 2) (v := -((I 126) 0)) dX8_layCut_166 rfl hs_129 rfl (Nat.le_of_ble_eq_true rfl) (Nat.le_of_ble_eq_true rfl) rfl ?_
        refine ev_iast (pc' := 168) (j := 2) (I' := (ma_up (ma_up (ma_up I 129 (ma_up (ma_up (ma_up (ma_up (ma_up (ma_up (ma_up (ma_up (ma_up (ma_up (ma_up (ma_up (I 129) 0 ((I 126) 2)) 1 0) 2 (-((I 126) 0))) 3 0) 4 0) 5 ((I 126) 2)) 6 (-((I 126) 1))) 7 0) 8 0) 9 0) 10 (-((I 126) 3))) 11 ((I 126) 2))) 130 (ma_up (ma_up (ma_up (ma_up (I 130) 0 0) 1 ((I 126) 2)) 2 (-((I 126) 1))) 3 0)) 131 (ma_up (ma_up (ma_up (ma_up (I 131) 0 ((I 126) 2)) 1 0) 2 (-((I 126) 0))) 3 ((I 126) 2)))) dX8_layCut_167 rfl hs_131 rfl (Nat.le_of_ble_eq_true rfl) (Nat.le_of_ble_eq_true rfl) ((congrArg (ma_up _ 131) ((ma_up_comm _ (show 2 ≠ 3 from (by decide)) _ _).trans (congrArg (fun f => ma_up f 3 _) (ma_up_up _ _ _ _)))).trans (ma_up_up _ _ _ _)) ?_
        refine ev_iinc (pc' := 171) (v := 3) (lv' := [some (.ref 115), some (.int (nI q)), some (.int 2), some (.int 3), some (.int 1), some (.int 0), some (.int 3)]) dX8_layCut_168 rfl rfl (by decide) (Nat.le_of_ble_eq_true rfl) rfl rfl ?_
        refine ev_goto (tgt := 124) dX8_layCut_171 rfl ?_
        refine ev_iload (pc' := 126) dX8_layCut_124 rfl rfl ?_
        refine ev_iconst (pc' := 127) (v := 4) dX8_layCut_126 rfl ki_4 ?_
        refine ev_icmp_ge (tgt := 174) (pc' := 130) dX8_layCut_127 rfl rfl (fun h => absurd h (by decide)) (fun _ => ?_)
        refine ev_aload_n (pc' := 131) (i := 0) dX8_layCut_130 rfl rfl rfl ?_
        refine ev_getR (pc' := 134) fo_X8_58 dX8_layCut_131 rfl hs_115 rfl rf_115_21 ?_
        refine ev_iload (pc' := 136) dX8_layCut_134 rfl rfl ?_
        refine ev_aload_n (pc' := 137) (i := 0) dX8_layCut_136 rfl rfl rfl ?_
        refine ev_getR (pc' := 140) fo_X8_55 dX8_layCut_137 rfl hs_115 rfl rf_115_20 ?_
        refine ev_iconst (pc' := 141) (v := 4) dX8_layCut_140 rfl ki_4 ?_
        refine ev_iload (pc' := 143) dX8_layCut_141 rfl rfl ?_
        refine ev_imul (pc' := 144) (v := 4) dX8_layCut_143 rfl (by decide) ?_
        refine ev_iload (pc' := 146) dX8_layCut_144 rfl rfl ?_
        refine ev_iadd (pc' := 147) (v := 7) dX8_layCut_146 rfl (by decide) ?_
        refine ev_iald (pc' := 148) (j := 7) (v := 0) dX8_layCut_147 rfl hs_129 rfl (Nat.le_of_ble_eq_true rfl) (Nat.le_of_ble_eq_true rfl) rfl ?_
        refine ev_iast (pc' := 149) (j := 3) (I' := (ma_up (ma_up (ma_up I 129 (ma_up (ma_up (ma_up (ma_up (ma_up (ma_up (ma_up (ma_up (ma_up (ma_up (ma_up (ma_up (I 129) 0 ((I 126) 2)) 1 0) 2 (-((I 126) 0))) 3 0) 4 0) 5 ((I 126) 2)) 6 (-((I 126) 1))) 7 0) 8 0) 9 0) 10 (-((I 126) 3))) 11 ((I 126) 2))) 130 (ma_up (ma_up (ma_up (ma_up (I 130) 0 0) 1 ((I 126) 2)) 2 (-((I 126) 1))) 3 0)) 131 (ma_up (ma_up (ma_up (ma_up (I 131) 0 ((I 126) 2)) 1 0) 2 (-((I 126) 0))) 3 ((I 126) 2)))) dX8_layCut_148 rfl hs_130 rfl (Nat.le_of_ble_eq_true rfl) (Nat.le_of_ble_eq_true rfl) ((congrArg (ma_up _ 130) (ma_up_up _ _ _ _)).trans ((ma_up_comm _ (show 130 ≠ 131 from (by decide)) _ _).trans (congrArg (fun f => ma_up f 131 _) (ma_up_up _ _ _ _)))) ?_
        refine ev_aload_n (pc' := 150) (i := 0) dX8_layCut_149 rfl rfl rfl ?_
        refine ev_getR (pc' := 153) fo_X8_61 dX8_layCut_150 rfl hs_115 rfl rf_115_22 ?_
        refine ev_iload (pc' := 155) dX8_layCut_153 rfl rfl ?_
        refine ev_aload_n (pc' := 156) (i := 0) dX8_layCut_155 rfl rfl rfl ?_
        refine ev_getR (pc' := 159) fo_X8_55 dX8_layCut_156 rfl hs_115 rfl rf_115_20 ?_
        refine ev_iconst (pc' := 160) (v := 4) dX8_layCut_159 rfl ki_4 ?_
        refine ev_iload (pc' := 162) dX8_layCut_160 rfl rfl ?_
        refine ev_imul (pc' := 163) (v := 0) dX8_layCut_162 rfl (by decide) ?_
        refine ev_iload (pc' := 165) dX8_layCut_163 rfl rfl ?_
        refine ev_iadd (pc' := 166) (v := 3) dX8_layCut_165 rfl (by decide) ?_
        refine ev_iald (pc' := 167) (j := 3) (v := 0) dX8_layCut_166 rfl hs_129 rfl (Nat.le_of_ble_eq_true rfl) (Nat.le_of_ble_eq_true rfl) rfl ?_
        refine ev_iast (pc' := 168) (j := 3) (I' := (ma_up (ma_up (ma_up I 129 (ma_up (ma_up (ma_up (ma_up (ma_up (ma_up (ma_up (ma_up (ma_up (ma_up (ma_up (ma_up (I 129) 0 ((I 126) 2)) 1 0) 2 (-((I 126) 0))) 3 0) 4 0) 5 ((I 126) 2)) 6 (-((I 126) 1))) 7 0) 8 0) 9 0) 10 (-((I 126) 3))) 11 ((I 126) 2))) 130 (ma_up (ma_up (ma_up (ma_up (I 130) 0 0) 1 ((I 126) 2)) 2 (-((I 126) 1))) 3 0)) 131 (ma_up (ma_up (ma_up (ma_up (I 131) 0 ((I 126) 2)) 1 0) 2 (-((I 126) 0))) 3 0))) dX8_layCut_167 rfl hs_131 rfl (Nat.le_of_ble_eq_true rfl) (Nat.le_of_ble_eq_true rfl) ((congrArg (ma_up _ 131) (ma_up_up _ _ _ _)).trans (ma_up_up _ _ _ _)) ?_
        refine ev_iinc (pc' := 171) (v := 4) (lv' := [some (.ref 115), some (.int (nI q)), some (.int 2), some (.int 3), some (.int 1), some (.int 0), some (.int 4)]) dX8_layCut_168 rfl rfl (by decide) (Nat.le_of_ble_eq_true rfl) rfl rfl ?_
        refine ev_goto (tgt := 124) dX8_layCut_171 rfl ?_
        refine ev_iload (pc' := 126) dX8_layCut_124 rfl rfl ?_
        refine ev_iconst (pc' := 127) (v := 4) dX8_layCut_126 rfl ki_4 ?_
        refine ev_icmp_ge (tgt := 174) (pc' := 130) dX8_layCut_127 rfl rfl (fun _ => ?_) (fun h => absurd (by decide) h)
        refine ev_aload_n (pc' := 175) (i := 0) dX8_layCut_174 rfl rfl rfl ?_
        refine ev_getR (pc' := 178) fo_X8_26 dX8_layCut_175 rfl hs_115 rfl rf_115_8 ?_
        refine ev_iconst (pc' := 179) (v := 4) dX8_layCut_178 rfl ki_4 ?_
        refine ev_iload (pc' := 181) dX8_layCut_179 rfl rfl ?_
        refine ev_imul (pc' := 182) (v := 4) dX8_layCut_181 rfl (by decide) ?_
        refine ev_iload (pc' := 184) dX8_layCut_182 rfl rfl ?_
        refine ev_iadd (pc' := 185) (v := 4) dX8_layCut_184 rfl (by decide) ?_
        refine ev_aload_n (pc' := 186) (i := 0) dX8_layCut_185 rfl rfl rfl ?_
        refine ev_iload_n (pc' := 187) (i := 1) dX8_layCut_186 rfl rfl rfl ?_
        refine ev_aload_n (pc' := 188) (i := 0) dX8_layCut_187 rfl rfl rfl ?_
        refine ev_getR (pc' := 191) fo_X8_58 dX8_layCut_188 rfl hs_115 rfl rf_115_21 ?_
        refine ev_aload_n (pc' := 192) (i := 0) dX8_layCut_191 rfl rfl rfl ?_
        refine ev_getR (pc' := 195) fo_X8_61 dX8_layCut_192 rfl hs_115 rfl rf_115_22 ?_
        refine ev_callV (pc' := 198) (rm' := rX8_both) (b := 115) (av := [.int (nI q), .ref 130, .ref 131]) (rest := [.int 4, .ref 120]) co_X8_241 ci_X8_both cv_X8_both dX8_layCut_195 rfl hs_115 hb_X8 rfl rfl (Nat.le_of_ble_eq_true rfl) ⟨(Nat.le_of_ble_eq_true rfl), (Nat.le_of_ble_eq_true rfl)⟩ ⟨(Nat.le_of_ble_eq_true rfl), (Nat.le_of_ble_eq_true rfl)⟩ ?_
        refine t_X8_both q 130 131 hq hs_130 hs_131 ?_
        refine ev_eqi (w := mBo (I 123) (mSn 2 (I 126) 1) (mSn 2 (I 126) 0) q) rfl ?_
        refine ev_i2l (pc' := 199) (v := Int32.toInt64 (mBo (I 123) (mSn 2 (I 126) 1) (mSn 2 (I 126) 0) q)) dX8_layCut_198 rfl rfl ?_
        refine ev_last (pc' := 200) (j := 4) (L' := (ma_up L 120 (ma_up (ma_up (ma_up (ma_up (L 120) 0 (Int32.toInt64 (mBo (I 123) (mSn 2 (I 126) 0) (mSn 2 (I 126) 0) q))) 1 (Int32.toInt64 (mBo (I 123) (mSn 2 (I 126) 0) (mSn 2 (I 126) 1) q))) 2 (Int32.toInt64 (mBo (I 123) (mSn 2 (I 126) 0) (mSn 2 (I 126) 2) q))) 4 (Int32.toInt64 (mBo (I 123) (mSn 2 (I 126) 1) (mSn 2 (I 126) 0) q))))) dX8_layCut_199 rfl hs_120 rfl (Nat.le_of_ble_eq_true rfl) (Nat.le_of_ble_eq_true rfl) (ma_up_up _ _ _ _) ?_
        refine ev_iinc (pc' := 203) (v := 1) (lv' := [some (.ref 115), some (.int (nI q)), some (.int 2), some (.int 3), some (.int 1), some (.int 1), some (.int 4)]) dX8_layCut_200 rfl rfl (by decide) (Nat.le_of_ble_eq_true rfl) rfl rfl ?_
        refine ev_goto (tgt := 115) dX8_layCut_203 rfl ?_
        refine ev_iload (pc' := 117) dX8_layCut_115 rfl rfl ?_
        refine ev_iconst (pc' := 118) (v := 3) dX8_layCut_117 rfl ki_3 ?_
        refine ev_icmp_ge (tgt := 206) (pc' := 121) dX8_layCut_118 rfl rfl (fun h => absurd h (by decide)) (fun _ => ?_)
        refine ev_iconst (pc' := 122) (v := 0) dX8_layCut_121 rfl ki_0 ?_
        refine ev_istore (pc' := 124) (lv' := [some (.ref 115), some (.int (nI q)), some (.int 2), some (.int 3), some (.int 1), some (.int 1), some (.int 0)]) dX8_layCut_122 rfl (Nat.le_of_ble_eq_true rfl) rfl rfl ?_
        refine ev_iload (pc' := 126) dX8_layCut_124 rfl rfl ?_
        refine ev_iconst (pc' := 127) (v := 4) dX8_layCut_126 rfl ki_4 ?_
        refine ev_icmp_ge (tgt := 174) (pc' := 130) dX8_layCut_127 rfl rfl (fun h => absurd h (by decide)) (fun _ => ?_)
        refine ev_aload_n (pc' := 131) (i := 0) dX8_layCut_130 rfl rfl rfl ?_
        refine ev_getR (pc' := 134) fo_X8_58 dX8_layCut_131 rfl hs_115 rfl rf_115_21 ?_
        refine ev_iload (pc' := 136) dX8_layCut_134 rfl rfl ?_
        refine ev_aload_n (pc' := 137) (i := 0) dX8_layCut_136 rfl rfl rfl ?_
        refine ev_getR (pc' := 140) fo_X8_55 dX8_layCut_137 rfl hs_115 rfl rf_115_20 ?_
        refine ev_iconst (pc' := 141) (v := 4) dX8_layCut_140 rfl ki_4 ?_
        refine ev_iload (pc' := 143) dX8_layCut_141 rfl rfl ?_
        refine ev_imul (pc' := 144) (v := 4) dX8_layCut_143 rfl (by decide) ?_
        refine ev_iload (pc' := 146) dX8_layCut_144 rfl rfl ?_
        refine ev_iadd (pc' := 147) (v := 4) dX8_layCut_146 rfl (by decide) ?_
        refine ev_iald (pc' := 148) (j := 4) (v := 0) dX8_layCut_147 rfl hs_129 rfl (Nat.le_of_ble_eq_true rfl) (Nat.le_of_ble_eq_true rfl) rfl ?_
        refine ev_iast (pc' := 149) (j := 0) (I' := (ma_up (ma_up (ma_up I 129 (ma_up (ma_up (ma_up (ma_up (ma_up (ma_up (ma_up (ma_up (ma_up (ma_up (ma_up (ma_up (I 129) 0 ((I 126) 2)) 1 0) 2 (-((I 126) 0))) 3 0) 4 0) 5 ((I 126) 2)) 6 (-((I 126) 1))) 7 0) 8 0) 9 0) 10 (-((I 126) 3))) 11 ((I 126) 2))) 130 (ma_up (ma_up (ma_up (ma_up (I 130) 0 0) 1 ((I 126) 2)) 2 (-((I 126) 1))) 3 0)) 131 (ma_up (ma_up (ma_up (ma_up (I 131) 0 ((I 126) 2)) 1 0) 2 (-((I 126) 0))) 3 0))) dX8_layCut_148 rfl hs_130 rfl (Nat.le_of_ble_eq_true rfl) (Nat.le_of_ble_eq_true rfl) ((congrArg (ma_up _ 130) ((ma_up_comm _ (show 0 ≠ 3 from (by decide)) _ _).trans (congrArg (fun f => ma_up f 3 _) ((ma_up_comm _ (show 0 ≠ 2 from (by decide)) _ _).trans (congrArg (fun f => ma_up f 2 _) ((ma_up_comm _ (show 0 ≠ 1 from (by decide)) _ _).trans (congrArg (fun f => ma_up f 1 _) (ma_up_up _ _ _ _)))))))).trans ((ma_up_comm _ (show 130 ≠ 131 from (by decide)) _ _).trans (congrArg (fun f => ma_up f 131 _) (ma_up_up _ _ _ _)))) ?_
        refine ev_aload_n (pc' := 150) (i := 0) dX8_layCut_149 rfl rfl rfl ?_
        refine ev_getR (pc' := 153) fo_X8_61 dX8_layCut_150 rfl hs_115 rfl rf_115_22 ?_
        refine ev_iload (pc' := 155) dX8_layCut_153 rfl rfl ?_
        refine ev_aload_n (pc' := 156) (i := 0) dX8_layCut_155 rfl rfl rfl ?_
        refine ev_getR (pc' := 159) fo_X8_55 dX8_layCut_156 rfl hs_115 rfl rf_115_20 ?_
        refine ev_iconst (pc' := 160) (v := 4) dX8_layCut_159 rfl ki_4 ?_
        refine ev_iload (pc' := 162) dX8_layCut_160 rfl rfl ?_
        refine ev_imul (pc' := 163) (v := 4) dX8_layCut_162 rfl (by decide) ?_
        refine ev_iload (pc' := 165) dX8_layCut_163 rfl rfl ?_
        refine ev_iadd (pc' := 166) (v := 4) dX8_layCut_165 rfl (by decide) ?_
        refine ev_iald (pc' := 167) (j := 4) (v := 0) dX8_layCut_166 rfl hs_129 rfl (Nat.le_of_ble_eq_true rfl) (Nat.le_of_ble_eq_true rfl) rfl ?_
        refine ev_iast (pc' := 168) (j := 0) (I' := (ma_up (ma_up (ma_up I 129 (ma_up (ma_up (ma_up (ma_up (ma_up (ma_up (ma_up (ma_up (ma_up (ma_up (ma_up (ma_up (I 129) 0 ((I 126) 2)) 1 0) 2 (-((I 126) 0))) 3 0) 4 0) 5 ((I 126) 2)) 6 (-((I 126) 1))) 7 0) 8 0) 9 0) 10 (-((I 126) 3))) 11 ((I 126) 2))) 130 (ma_up (ma_up (ma_up (ma_up (I 130) 0 0) 1 ((I 126) 2)) 2 (-((I 126) 1))) 3 0)) 131 (ma_up (ma_up (ma_up (ma_up (I 131) 0 0) 1 0) 2 (-((I 126) 0))) 3 0))) dX8_layCut_167 rfl hs_131 rfl (Nat.le_of_ble_eq_true rfl) (Nat.le_of_ble_eq_true rfl) ((congrArg (ma_up _ 131) ((ma_up_comm _ (show 0 ≠ 3 from (by decide)) _ _).trans (congrArg (fun f => ma_up f 3 _) ((ma_up_comm _ (show 0 ≠ 2 from (by decide)) _ _).trans (congrArg (fun f => ma_up f 2 _) ((ma_up_comm _ (show 0 ≠ 1 from (by decide)) _ _).trans (congrArg (fun f => ma_up f 1 _) (ma_up_up _ _ _ _)))))))).trans (ma_up_up _ _ _ _)) ?_
        refine ev_iinc (pc' := 171) (v := 1) (lv' := [some (.ref 115), some (.int (nI q)), some (.int 2), some (.int 3), some (.int 1), some (.int 1), some (.int 1)]) dX8_layCut_168 rfl rfl (by decide) (Nat.le_of_ble_eq_true rfl) rfl rfl ?_
        refine ev_goto (tgt := 124) dX8_layCut_171 rfl ?_
        refine ev_iload (pc' := 126) dX8_layCut_124 rfl rfl ?_
        refine ev_iconst (pc' := 127) (v := 4) dX8_layCut_126 rfl ki_4 ?_
        refine ev_icmp_ge (tgt := 174) (pc' := 130) dX8_layCut_127 rfl rfl (fun h => absurd h (by decide)) (fun _ => ?_)
        refine ev_aload_n (pc' := 131) (i := 0) dX8_layCut_130 rfl rfl rfl ?_
        refine ev_getR (pc' := 134) fo_X8_58 dX8_layCut_131 rfl hs_115 rfl rf_115_21 ?_
        refine ev_iload (pc' := 136) dX8_layCut_134 rfl rfl ?_
        refine ev_aload_n (pc' := 137) (i := 0) dX8_layCut_136 rfl rfl rfl ?_
        refine ev_getR (pc' := 140) fo_X8_55 dX8_layCut_137 rfl hs_115 rfl rf_115_20 ?_
        refine ev_iconst (pc' := 141) (v := 4) dX8_layCut_140 rfl ki_4 ?_
        refine ev_iload (pc' := 143) dX8_layCut_141 rfl rfl ?_
        refine ev_imul (pc' := 144) (v := 4) dX8_layCut_143 rfl (by decide) ?_
        refine ev_iload (pc' := 146) dX8_layCut_144 rfl rfl ?_
        refine ev_iadd (pc' := 147) (v := 5) dX8_layCut_146 rfl (by decide) ?_
        refine ev_iald (pc' := 148) (j := 5) (v := (I 126) 2) dX8_layCut_147 rfl hs_129 rfl (Nat.le_of_ble_eq_true rfl) (Nat.le_of_ble_eq_true rfl) rfl ?_
        refine ev_iast (pc' := 149) (j := 1) (I' := (ma_up (ma_up (ma_up I 129 (ma_up (ma_up (ma_up (ma_up (ma_up (ma_up (ma_up (ma_up (ma_up (ma_up (ma_up (ma_up (I 129) 0 ((I 126) 2)) 1 0) 2 (-((I 126) 0))) 3 0) 4 0) 5 ((I 126) 2)) 6 (-((I 126) 1))) 7 0) 8 0) 9 0) 10 (-((I 126) 3))) 11 ((I 126) 2))) 130 (ma_up (ma_up (ma_up (ma_up (I 130) 0 0) 1 ((I 126) 2)) 2 (-((I 126) 1))) 3 0)) 131 (ma_up (ma_up (ma_up (ma_up (I 131) 0 0) 1 0) 2 (-((I 126) 0))) 3 0))) dX8_layCut_148 rfl hs_130 rfl (Nat.le_of_ble_eq_true rfl) (Nat.le_of_ble_eq_true rfl) ((congrArg (ma_up _ 130) ((ma_up_comm _ (show 1 ≠ 3 from (by decide)) _ _).trans (congrArg (fun f => ma_up f 3 _) ((ma_up_comm _ (show 1 ≠ 2 from (by decide)) _ _).trans (congrArg (fun f => ma_up f 2 _) (ma_up_up _ _ _ _)))))).trans ((ma_up_comm _ (show 130 ≠ 131 from (by decide)) _ _).trans (congrArg (fun f => ma_up f 131 _) (ma_up_up _ _ _ _)))) ?_
        refine ev_aload_n (pc' := 150) (i := 0) dX8_layCut_149 rfl rfl rfl ?_
        refine ev_getR (pc' := 153) fo_X8_61 dX8_layCut_150 rfl hs_115 rfl rf_115_22 ?_
        refine ev_iload (pc' := 155) dX8_layCut_153 rfl rfl ?_
        refine ev_aload_n (pc' := 156) (i := 0) dX8_layCut_155 rfl rfl rfl ?_
        refine ev_getR (pc' := 159) fo_X8_55 dX8_layCut_156 rfl hs_115 rfl rf_115_20 ?_
        refine ev_iconst (pc' := 160) (v := 4) dX8_layCut_159 rfl ki_4 ?_
        refine ev_iload (pc' := 162) dX8_layCut_160 rfl rfl ?_
        refine ev_imul (pc' := 163) (v := 4) dX8_layCut_162 rfl (by decide) ?_
        refine ev_iload (pc' := 165) dX8_layCut_163 rfl rfl ?_
        refine ev_iadd (pc' := 166) (v := 5) dX8_layCut_165 rfl (by decide) ?_
        refine ev_iald (pc' := 167) (j := 5) (v := (I 126) 2) dX8_layCut_166 rfl hs_129 rfl (Nat.le_of_ble_eq_true rfl) (Nat.le_of_ble_eq_true rfl) rfl ?_
        refine ev_iast (pc' := 168) (j := 1) (I' := (ma_up (ma_up (ma_up I 129 (ma_up (ma_up (ma_up (ma_up (ma_up (ma_up (ma_up (ma_up (ma_up (ma_up (ma_up (ma_up (I 129) 0 ((I 126) 2)) 1 0) 2 (-((I 126) 0))) 3 0) 4 0) 5 ((I 126) 2)) 6 (-((I 126) 1))) 7 0) 8 0) 9 0) 10 (-((I 126) 3))) 11 ((I 126) 2))) 130 (ma_up (ma_up (ma_up (ma_up (I 130) 0 0) 1 ((I 126) 2)) 2 (-((I 126) 1))) 3 0)) 131 (ma_up (ma_up (ma_up (ma_up (I 131) 0 0) 1 ((I 126) 2)) 2 (-((I 126) 0))) 3 0))) dX8_layCut_167 rfl hs_131 rfl (Nat.le_of_ble_eq_true rfl) (Nat.le_of_ble_eq_true rfl) ((congrArg (ma_up _ 131) ((ma_up_comm _ (show 1 ≠ 3 from (by decide)) _ _).trans (congrArg (fun f => ma_up f 3 _) ((ma_up_comm _ (show 1 ≠ 2 from (by decide)) _ _).trans (congrArg (fun f => ma_up f 2 _) (ma_up_up _ _ _ _)))))).trans (ma_up_up _ _ _ _)) ?_
        refine ev_iinc (pc' := 171) (v := 2) (lv' := [some (.ref 115), some (.int (nI q)), some (.int 2), some (.int 3), some (.int 1), some (.int 1), some (.int 2)]) dX8_layCut_168 rfl rfl (by decide) (Nat.le_of_ble_eq_true rfl) rfl rfl ?_
        refine ev_goto (tgt := 124) dX8_layCut_171 rfl ?_
        refine ev_iload (pc' := 126) dX8_layCut_124 rfl rfl ?_
        refine ev_iconst (pc' := 127) (v := 4) dX8_layCut_126 rfl ki_4 ?_
        refine ev_icmp_ge (tgt := 174) (pc' := 130) dX8_layCut_127 rfl rfl (fun h => absurd h (by decide)) (fun _ => ?_)
        refine ev_aload_n (pc' := 131) (i := 0) dX8_layCut_130 rfl rfl rfl ?_
        refine ev_getR (pc' := 134) fo_X8_58 dX8_layCut_131 rfl hs_115 rfl rf_115_21 ?_
        refine ev_iload (pc' := 136) dX8_layCut_134 rfl rfl ?_
        refine ev_aload_n (pc' := 137) (i := 0) dX8_layCut_136 rfl rfl rfl ?_
        refine ev_getR (pc' := 140) fo_X8_55 dX8_layCut_137 rfl hs_115 rfl rf_115_20 ?_
        refine ev_iconst (pc' := 141) (v := 4) dX8_layCut_140 rfl ki_4 ?_
        refine ev_iload (pc' := 143) dX8_layCut_141 rfl rfl ?_
        refine ev_imul (pc' := 144) (v := 4) dX8_layCut_143 rfl (by decide) ?_
        refine ev_iload (pc' := 146) dX8_layCut_144 rfl rfl ?_
        refine ev_iadd (pc' := 147) (v := 6) dX8_layCut_146 rfl (by decide) ?_
        refine ev_iald (pc' := 148) (j := 6) (v := -((I 126) 1)) dX8_layCut_147 rfl hs_129 rfl (Nat.le_of_ble_eq_true rfl) (Nat.le_of_ble_eq_true rfl) rfl ?_
        refine ev_iast (pc' := 149) (j := 2) (I' := (ma_up (ma_up (ma_up I 129 (ma_up (ma_up (ma_up (ma_up (ma_up (ma_up (ma_up (ma_up (ma_up (ma_up (ma_up (ma_up (I 129) 0 ((I 126) 2)) 1 0) 2 (-((I 126) 0))) 3 0) 4 0) 5 ((I 126) 2)) 6 (-((I 126) 1))) 7 0) 8 0) 9 0) 10 (-((I 126) 3))) 11 ((I 126) 2))) 130 (ma_up (ma_up (ma_up (ma_up (I 130) 0 0) 1 ((I 126) 2)) 2 (-((I 126) 1))) 3 0)) 131 (ma_up (ma_up (ma_up (ma_up (I 131) 0 0) 1 ((I 126) 2)) 2 (-((I 126) 0))) 3 0))) dX8_layCut_148 rfl hs_130 rfl (Nat.le_of_ble_eq_true rfl) (Nat.le_of_ble_eq_true rfl) ((congrArg (ma_up _ 130) ((ma_up_comm _ (show 2 ≠ 3 from (by decide)) _ _).trans (congrArg (fun f => ma_up f 3 _) (ma_up_up _ _ _ _)))).trans ((ma_up_comm _ (show 130 ≠ 131 from (by decide)) _ _).trans (congrArg (fun f => ma_up f 131 _) (ma_up_up _ _ _ _)))) ?_
        refine ev_aload_n (pc' := 150) (i := 0) dX8_layCut_149 rfl rfl rfl ?_
        refine ev_getR (pc' := 153) fo_X8_61 dX8_layCut_150 rfl hs_115 rfl rf_115_22 ?_
        refine ev_iload (pc' := 155) dX8_layCut_153 rfl rfl ?_
        refine ev_aload_n (pc' := 156) (i := 0) dX8_layCut_155 rfl rfl rfl ?_
        refine ev_getR (pc' := 159) fo_X8_55 dX8_layCut_156 rfl hs_115 rfl rf_115_20 ?_
        refine ev_iconst (pc' := 160) (v := 4) dX8_layCut_159 rfl ki_4 ?_
        refine ev_iload (pc' := 162) dX8_layCut_160 rfl rfl ?_
        refine ev_imul (pc' := 163) (v := 4) dX8_layCut_162 rfl (by decide) ?_
        refine ev_iload (pc' := 165) dX8_layCut_163 rfl rfl ?_
        refine ev_iadd (pc' := 166) (v := 6) dX8_layCut_165 rfl (by decide) ?_
        refine ev_iald (pc' := 167) (j := 6) (v := -((I 126) 1)) dX8_layCut_166 rfl hs_129 rfl (Nat.le_of_ble_eq_true rfl) (Nat.le_of_ble_eq_true rfl) rfl ?_
        refine ev_iast (pc' := 168) (j := 2) (I' := (ma_up (ma_up (ma_up I 129 (ma_up (ma_up (ma_up (ma_up (ma_up (ma_up (ma_up (ma_up (ma_up (ma_up (ma_up (ma_up (I 129) 0 ((I 126) 2)) 1 0) 2 (-((I 126) 0))) 3 0) 4 0) 5 ((I 126) 2)) 6 (-((I 126) 1))) 7 0) 8 0) 9 0) 10 (-((I 126) 3))) 11 ((I 126) 2))) 130 (ma_up (ma_up (ma_up (ma_up (I 130) 0 0) 1 ((I 126) 2)) 2 (-((I 126) 1))) 3 0)) 131 (ma_up (ma_up (ma_up (ma_up (I 131) 0 0) 1 ((I 126) 2)) 2 (-((I 126) 1))) 3 0))) dX8_layCut_167 rfl hs_131 rfl (Nat.le_of_ble_eq_true rfl) (Nat.le_of_ble_eq_true rfl) ((congrArg (ma_up _ 131) ((ma_up_comm _ (show 2 ≠ 3 from (by decide)) _ _).trans (congrArg (fun f => ma_up f 3 _) (ma_up_up _ _ _ _)))).trans (ma_up_up _ _ _ _)) ?_
        refine ev_iinc (pc' := 171) (v := 3) (lv' := [some (.ref 115), some (.int (nI q)), some (.int 2), some (.int 3), some (.int 1), some (.int 1), some (.int 3)]) dX8_layCut_168 rfl rfl (by decide) (Nat.le_of_ble_eq_true rfl) rfl rfl ?_
        refine ev_goto (tgt := 124) dX8_layCut_171 rfl ?_
        refine ev_iload (pc' := 126) dX8_layCut_124 rfl rfl ?_
        refine ev_iconst (pc' := 127) (v := 4) dX8_layCut_126 rfl ki_4 ?_
        refine ev_icmp_ge (tgt := 174) (pc' := 130) dX8_layCut_127 rfl rfl (fun h => absurd h (by decide)) (fun _ => ?_)
        refine ev_aload_n (pc' := 131) (i := 0) dX8_layCut_130 rfl rfl rfl ?_
        refine ev_getR (pc' := 134) fo_X8_58 dX8_layCut_131 rfl hs_115 rfl rf_115_21 ?_
        refine ev_iload (pc' := 136) dX8_layCut_134 rfl rfl ?_
        refine ev_aload_n (pc' := 137) (i := 0) dX8_layCut_136 rfl rfl rfl ?_
        refine ev_getR (pc' := 140) fo_X8_55 dX8_layCut_137 rfl hs_115 rfl rf_115_20 ?_
        refine ev_iconst (pc' := 141) (v := 4) dX8_layCut_140 rfl ki_4 ?_
        refine ev_iload (pc' := 143) dX8_layCut_141 rfl rfl ?_
        refine ev_imul (pc' := 144) (v := 4) dX8_layCut_143 rfl (by decide) ?_
        refine ev_iload (pc' := 146) dX8_layCut_144 rfl rfl ?_
        refine ev_iadd (pc' := 147) (v := 7) dX8_layCut_146 rfl (by decide) ?_
        refine ev_iald (pc' := 148) (j := 7) (v := 0) dX8_layCut_147 rfl hs_129 rfl (Nat.le_of_ble_eq_true rfl) (Nat.le_of_ble_eq_true rfl) rfl ?_
        refine ev_iast (pc' := 149) (j := 3) (I' := (ma_up (ma_up (ma_up I 129 (ma_up (ma_up (ma_up (ma_up (ma_up (ma_up (ma_up (ma_up (ma_up (ma_up (ma_up (ma_up (I 129) 0 ((I 126) 2)) 1 0) 2 (-((I 126) 0))) 3 0) 4 0) 5 ((I 126) 2)) 6 (-((I 126) 1))) 7 0) 8 0) 9 0) 10 (-((I 126) 3))) 11 ((I 126) 2))) 130 (ma_up (ma_up (ma_up (ma_up (I 130) 0 0) 1 ((I 126) 2)) 2 (-((I 126) 1))) 3 0)) 131 (ma_up (ma_up (ma_up (ma_up (I 131) 0 0) 1 ((I 126) 2)) 2 (-((I 126) 1))) 3 0))) dX8_layCut_148 rfl hs_130 rfl (Nat.le_of_ble_eq_true rfl) (Nat.le_of_ble_eq_true rfl) ((congrArg (ma_up _ 130) (ma_up_up _ _ _ _)).trans ((ma_up_comm _ (show 130 ≠ 131 from (by decide)) _ _).trans (congrArg (fun f => ma_up f 131 _) (ma_up_up _ _ _ _)))) ?_
        refine ev_aload_n (pc' := 150) (i := 0) dX8_layCut_149 rfl rfl rfl ?_
        refine ev_getR (pc' := 153) fo_X8_61 dX8_layCut_150 rfl hs_115 rfl rf_115_22 ?_
        refine ev_iload (pc' := 155) dX8_layCut_153 rfl rfl ?_
        refine ev_aload_n (pc' := 156) (i := 0) dX8_layCut_155 rfl rfl rfl ?_
        refine ev_getR (pc' := 159) fo_X8_55 dX8_layCut_156 rfl hs_115 rfl rf_115_20 ?_
        refine ev_iconst (pc' := 160) (v := 4) dX8_layCut_159 rfl ki_4 ?_
        refine ev_iload (pc' := 162) dX8_layCut_160 rfl rfl ?_
        refine ev_imul (pc' := 163) (v := 4) dX8_layCut_162 rfl (by decide) ?_
        refine ev_iload (pc' := 165) dX8_layCut_163 rfl rfl ?_
        refine ev_iadd (pc' := 166) (v := 7) dX8_layCut_165 rfl (by decide) ?_
        refine ev_iald (pc' := 167) (j := 7) (v := 0) dX8_layCut_166 rfl hs_129 rfl (Nat.le_of_ble_eq_true rfl) (Nat.le_of_ble_eq_true rfl) rfl ?_
        refine ev_iast (pc' := 168) (j := 3) (I' := (ma_up (ma_up (ma_up I 129 (ma_up (ma_up (ma_up (ma_up (ma_up (ma_up (ma_up (ma_up (ma_up (ma_up (ma_up (ma_up (I 129) 0 ((I 126) 2)) 1 0) 2 (-((I 126) 0))) 3 0) 4 0) 5 ((I 126) 2)) 6 (-((I 126) 1))) 7 0) 8 0) 9 0) 10 (-((I 126) 3))) 11 ((I 126) 2))) 130 (ma_up (ma_up (ma_up (ma_up (I 130) 0 0) 1 ((I 126) 2)) 2 (-((I 126) 1))) 3 0)) 131 (ma_up (ma_up (ma_up (ma_up (I 131) 0 0) 1 ((I 126) 2)) 2 (-((I 126) 1))) 3 0))) dX8_layCut_167 rfl hs_131 rfl (Nat.le_of_ble_eq_true rfl) (Nat.le_of_ble_eq_true rfl) ((congrArg (ma_up _ 131) (ma_up_up _ _ _ _)).trans (ma_up_up _ _ _ _)) ?_
        refine ev_iinc (pc' := 171) (v := 4) (lv' := [some (.ref 115), some (.int (nI q)), some (.int 2), some (.int 3), some (.int 1), some (.int 1), some (.int 4)]) dX8_layCut_168 rfl rfl (by decide) (Nat.le_of_ble_eq_true rfl) rfl rfl ?_
        refine ev_goto (tgt := 124) dX8_layCut_171 rfl ?_
        refine ev_iload (pc' := 126) dX8_layCut_124 rfl rfl ?_
        refine ev_iconst (pc' := 127) (v := 4) dX8_layCut_126 rfl ki_4 ?_
        refine ev_icmp_ge (tgt := 174) (pc' := 130) dX8_layCut_127 rfl rfl (fun _ => ?_) (fun h => absurd (by decide) h)
        refine ev_aload_n (pc' := 175) (i := 0) dX8_layCut_174 rfl rfl rfl ?_
        refine ev_getR (pc' := 178) fo_X8_26 dX8_layCut_175 rfl hs_115 rfl rf_115_8 ?_
        refine ev_iconst (pc' := 179) (v := 4) dX8_layCut_178 rfl ki_4 ?_
        refine ev_iload (pc' := 181) dX8_layCut_179 rfl rfl ?_
        refine ev_imul (pc' := 182) (v := 4) dX8_layCut_181 rfl (by decide) ?_
        refine ev_iload (pc' := 184) dX8_layCut_182 rfl rfl ?_
        refine ev_iadd (pc' := 185) (v := 5) dX8_layCut_184 rfl (by decide) ?_
        refine ev_aload_n (pc' := 186) (i := 0) dX8_layCut_185 rfl rfl rfl ?_
        refine ev_iload_n (pc' := 187) (i := 1) dX8_layCut_186 rfl rfl rfl ?_
        refine ev_aload_n (pc' := 188) (i := 0) dX8_layCut_187 rfl rfl rfl ?_
        refine ev_getR (pc' := 191) fo_X8_58 dX8_layCut_188 rfl hs_115 rfl rf_115_21 ?_
        refine ev_aload_n (pc' := 192) (i := 0) dX8_layCut_191 rfl rfl rfl ?_
        refine ev_getR (pc' := 195) fo_X8_61 dX8_layCut_192 rfl hs_115 rfl rf_115_22 ?_
        refine ev_callV (pc' := 198) (rm' := rX8_both) (b := 115) (av := [.int (nI q), .ref 130, .ref 131]) (rest := [.int 5, .ref 120]) co_X8_241 ci_X8_both cv_X8_both dX8_layCut_195 rfl hs_115 hb_X8 rfl rfl (Nat.le_of_ble_eq_true rfl) ⟨(Nat.le_of_ble_eq_true rfl), (Nat.le_of_ble_eq_true rfl)⟩ ⟨(Nat.le_of_ble_eq_true rfl), (Nat.le_of_ble_eq_true rfl)⟩ ?_
        refine t_X8_both q 130 131 hq hs_130 hs_131 ?_
        refine ev_eqi (w := mBo (I 123) (mSn 2 (I 126) 1) (mSn 2 (I 126) 1) q) rfl ?_
        refine ev_i2l (pc' := 199) (v := Int32.toInt64 (mBo (I 123) (mSn 2 (I 126) 1) (mSn 2 (I 126) 1) q)) dX8_layCut_198 rfl rfl ?_
        refine ev_last (pc' := 200) (j := 5) (L' := (ma_up L 120 (ma_up (ma_up (ma_up (ma_up (ma_up (L 120) 0 (Int32.toInt64 (mBo (I 123) (mSn 2 (I 126) 0) (mSn 2 (I 126) 0) q))) 1 (Int32.toInt64 (mBo (I 123) (mSn 2 (I 126) 0) (mSn 2 (I 126) 1) q))) 2 (Int32.toInt64 (mBo (I 123) (mSn 2 (I 126) 0) (mSn 2 (I 126) 2) q))) 4 (Int32.toInt64 (mBo (I 123) (mSn 2 (I 126) 1) (mSn 2 (I 126) 0) q))) 5 (Int32.toInt64 (mBo (I 123) (mSn 2 (I 126) 1) (mSn 2 (I 126) 1) q))))) dX8_layCut_199 rfl hs_120 rfl (Nat.le_of_ble_eq_true rfl) (Nat.le_of_ble_eq_true rfl) (ma_up_up _ _ _ _) ?_
        refine ev_iinc (pc' := 203) (v := 2) (lv' := [some (.ref 115), some (.int (nI q)), some (.int 2), some (.int 3), some (.int 1), some (.int 2), some (.int 4)]) dX8_layCut_200 rfl rfl (by decide) (Nat.le_of_ble_eq_true rfl) rfl rfl ?_
        refine ev_goto (tgt := 115) dX8_layCut_203 rfl ?_
        refine ev_iload (pc' := 117) dX8_layCut_115 rfl rfl ?_
        refine ev_iconst (pc' := 118) (v := 3) dX8_layCut_117 rfl ki_3 ?_
        refine ev_icmp_ge (tgt := 206) (pc' := 121) dX8_layCut_118 rfl rfl (fun h => absurd h (by decide)) (fun _ => ?_)
        refine ev_iconst (pc' := 122) (v := 0) dX8_layCut_121 rfl ki_0 ?_
        refine ev_istore (pc' := 124) (lv' := [some (.ref 115), some (.int (nI q)), some (.int 2), some (.int 3), some (.int 1), some (.int 2), some (.int 0)]) dX8_layCut_122 rfl (Nat.le_of_ble_eq_true rfl) rfl rfl ?_
        refine ev_iload (pc' := 126) dX8_layCut_124 rfl rfl ?_
        refine ev_iconst (pc' := 127) (v := 4) dX8_layCut_126 rfl ki_4 ?_
        refine ev_icmp_ge (tgt := 174) (pc' := 130) dX8_layCut_127 rfl rfl (fun h => absurd h (by decide)) (fun _ => ?_)
        refine ev_aload_n (pc' := 131) (i := 0) dX8_layCut_130 rfl rfl rfl ?_
        refine ev_getR (pc' := 134) fo_X8_58 dX8_layCut_131 rfl hs_115 rfl rf_115_21 ?_
        refine ev_iload (pc' := 136) dX8_layCut_134 rfl rfl ?_
        refine ev_aload_n (pc' := 137) (i := 0) dX8_layCut_136 rfl rfl rfl ?_
        refine ev_getR (pc' := 140) fo_X8_55 dX8_layCut_137 rfl hs_115 rfl rf_115_20 ?_
        refine ev_iconst (pc' := 141) (v := 4) dX8_layCut_140 rfl ki_4 ?_
        refine ev_iload (pc' := 143) dX8_layCut_141 rfl rfl ?_
        refine ev_imul (pc' := 144) (v := 4) dX8_layCut_143 rfl (by decide) ?_
        refine ev_iload (pc' := 146) dX8_layCut_144 rfl rfl ?_
        refine ev_iadd (pc' := 147) (v := 4) dX8_layCut_146 rfl (by decide) ?_
        refine ev_iald (pc' := 148) (j := 4) (v := 0) dX8_layCut_147 rfl hs_129 rfl (Nat.le_of_ble_eq_true rfl) (Nat.le_of_ble_eq_true rfl) rfl ?_
        refine ev_iast (pc' := 149) (j := 0) (I' := (ma_up (ma_up (ma_up I 129 (ma_up (ma_up (ma_up (ma_up (ma_up (ma_up (ma_up (ma_up (ma_up (ma_up (ma_up (ma_up (I 129) 0 ((I 126) 2)) 1 0) 2 (-((I 126) 0))) 3 0) 4 0) 5 ((I 126) 2)) 6 (-((I 126) 1))) 7 0) 8 0) 9 0) 10 (-((I 126) 3))) 11 ((I 126) 2))) 130 (ma_up (ma_up (ma_up (ma_up (I 130) 0 0) 1 ((I 126) 2)) 2 (-((I 126) 1))) 3 0)) 131 (ma_up (ma_up (ma_up (ma_up (I 131) 0 0) 1 ((I 126) 2)) 2 (-((I 126) 1))) 3 0))) dX8_layCut_148 rfl hs_130 rfl (Nat.le_of_ble_eq_true rfl) (Nat.le_of_ble_eq_true rfl) ((congrArg (ma_up _ 130) ((ma_up_comm _ (show 0 ≠ 3 from (by decide)) _ _).trans (congrArg (fun f => ma_up f 3 _) ((ma_up_comm _ (show 0 ≠ 2 from (by decide)) _ _).trans (congrArg (fun f => ma_up f 2 _) ((ma_up_comm _ (show 0 ≠ 1 from (by decide)) _ _).trans (congrArg (fun f => ma_up f 1 _) (ma_up_up _ _ _ _)))))))).trans ((ma_up_comm _ (show 130 ≠ 131 from (by decide)) _ _).trans (congrArg (fun f => ma_up f 131 _) (ma_up_up _ _ _ _)))) ?_
        refine ev_aload_n (pc' := 150) (i := 0) dX8_layCut_149 rfl rfl rfl ?_
        refine ev_getR (pc' := 153) fo_X8_61 dX8_layCut_150 rfl hs_115 rfl rf_115_22 ?_
        refine ev_iload (pc' := 155) dX8_layCut_153 rfl rfl ?_
        refine ev_aload_n (pc' := 156) (i := 0) dX8_layCut_155 rfl rfl rfl ?_
        refine ev_getR (pc' := 159) fo_X8_55 dX8_layCut_156 rfl hs_115 rfl rf_115_20 ?_
        refine ev_iconst (pc' := 160) (v := 4) dX8_layCut_159 rfl ki_4 ?_
        refine ev_iload (pc' := 162) dX8_layCut_160 rfl rfl ?_
        refine ev_imul (pc' := 163) (v := 8) dX8_layCut_162 rfl (by decide) ?_
        refine ev_iload (pc' := 165) dX8_layCut_163 rfl rfl ?_
        refine ev_iadd (pc' := 166) (v := 8) dX8_layCut_165 rfl (by decide) ?_
        refine ev_iald (pc' := 167) (j := 8) (v := 0) dX8_layCut_166 rfl hs_129 rfl (Nat.le_of_ble_eq_true rfl) (Nat.le_of_ble_eq_true rfl) rfl ?_
        refine ev_iast (pc' := 168) (j := 0) (I' := (ma_up (ma_up (ma_up I 129 (ma_up (ma_up (ma_up (ma_up (ma_up (ma_up (ma_up (ma_up (ma_up (ma_up (ma_up (ma_up (I 129) 0 ((I 126) 2)) 1 0) 2 (-((I 126) 0))) 3 0) 4 0) 5 ((I 126) 2)) 6 (-((I 126) 1))) 7 0) 8 0) 9 0) 10 (-((I 126) 3))) 11 ((I 126) 2))) 130 (ma_up (ma_up (ma_up (ma_up (I 130) 0 0) 1 ((I 126) 2)) 2 (-((I 126) 1))) 3 0)) 131 (ma_up (ma_up (ma_up (ma_up (I 131) 0 0) 1 ((I 126) 2)) 2 (-((I 126) 1))) 3 0))) dX8_layCut_167 rfl hs_131 rfl (Nat.le_of_ble_eq_true rfl) (Nat.le_of_ble_eq_true rfl) ((congrArg (ma_up _ 131) ((ma_up_comm _ (show 0 ≠ 3 from (by decide)) _ _).trans (congrArg (fun f => ma_up f 3 _) ((ma_up_comm _ (show 0 ≠ 2 from (by decide)) _ _).trans (congrArg (fun f => ma_up f 2 _) ((ma_up_comm _ (show 0 ≠ 1 from (by decide)) _ _).trans (congrArg (fun f => ma_up f 1 _) (ma_up_up _ _ _ _)))))))).trans (ma_up_up _ _ _ _)) ?_
        refine ev_iinc (pc' := 171) (v := 1) (lv' := [some (.ref 115), some (.int (nI q)), some (.int 2), some (.int 3), some (.int 1), some (.int 2), some (.int 1)]) dX8_layCut_168 rfl rfl (by decide) (Nat.le_of_ble_eq_true rfl) rfl rfl ?_
        refine ev_goto (tgt := 124) dX8_layCut_171 rfl ?_
        refine ev_iload (pc' := 126) dX8_layCut_124 rfl rfl ?_
        refine ev_iconst (pc' := 127) (v := 4) dX8_layCut_126 rfl ki_4 ?_
        refine ev_icmp_ge (tgt := 174) (pc' := 130) dX8_layCut_127 rfl rfl (fun h => absurd h (by decide)) (fun _ => ?_)
        refine ev_aload_n (pc' := 131) (i := 0) dX8_layCut_130 rfl rfl rfl ?_
        refine ev_getR (pc' := 134) fo_X8_58 dX8_layCut_131 rfl hs_115 rfl rf_115_21 ?_
        refine ev_iload (pc' := 136) dX8_layCut_134 rfl rfl ?_
        refine ev_aload_n (pc' := 137) (i := 0) dX8_layCut_136 rfl rfl rfl ?_
        refine ev_getR (pc' := 140) fo_X8_55 dX8_layCut_137 rfl hs_115 rfl rf_115_20 ?_
        refine ev_iconst (pc' := 141) (v := 4) dX8_layCut_140 rfl ki_4 ?_
        refine ev_iload (pc' := 143) dX8_layCut_141 rfl rfl ?_
        refine ev_imul (pc' := 144) (v := 4) dX8_layCut_143 rfl (by decide) ?_
        refine ev_iload (pc' := 146) dX8_layCut_144 rfl rfl ?_
        refine ev_iadd (pc' := 147) (v := 5) dX8_layCut_146 rfl (by decide) ?_
        refine ev_iald (pc' := 148) (j := 5) (v := (I 126) 2) dX8_layCut_147 rfl hs_129 rfl (Nat.le_of_ble_eq_true rfl) (Nat.le_of_ble_eq_true rfl) rfl ?_
        refine ev_iast (pc' := 149) (j := 1) (I' := (ma_up (ma_up (ma_up I 129 (ma_up (ma_up (ma_up (ma_up (ma_up (ma_up (ma_up (ma_up (ma_up (ma_up (ma_up (ma_up (I 129) 0 ((I 126) 2)) 1 0) 2 (-((I 126) 0))) 3 0) 4 0) 5 ((I 126) 2)) 6 (-((I 126) 1))) 7 0) 8 0) 9 0) 10 (-((I 126) 3))) 11 ((I 126) 2))) 130 (ma_up (ma_up (ma_up (ma_up (I 130) 0 0) 1 ((I 126) 2)) 2 (-((I 126) 1))) 3 0)) 131 (ma_up (ma_up (ma_up (ma_up (I 131) 0 0) 1 ((I 126) 2)) 2 (-((I 126) 1))) 3 0))) dX8_layCut_148 rfl hs_130 rfl (Nat.le_of_ble_eq_true rfl) (Nat.le_of_ble_eq_true rfl) ((congrArg (ma_up _ 130) ((ma_up_comm _ (show 1 ≠ 3 from (by decide)) _ _).trans (congrArg (fun f => ma_up f 3 _) ((ma_up_comm _ (show 1 ≠ 2 from (by decide)) _ _).trans (congrArg (fun f => ma_up f 2 _) (ma_up_up _ _ _ _)))))).trans ((ma_up_comm _ (show 130 ≠ 131 from (by decide)) _ _).trans (congrArg (fun f => ma_up f 131 _) (ma_up_up _ _ _ _)))) ?_
        refine ev_aload_n (pc' := 150) (i := 0) dX8_layCut_149 rfl rfl rfl ?_
        refine ev_getR (pc' := 153) fo_X8_61 dX8_layCut_150 rfl hs_115 rfl rf_115_22 ?_
        refine ev_iload (pc' := 155) dX8_layCut_153 rfl rfl ?_
        refine ev_aload_n (pc' := 156) (i := 0) dX8_layCut_155 rfl rfl rfl ?_
        refine ev_getR (pc' := 159) fo_X8_55 dX8_layCut_156 rfl hs_115 rfl rf_115_20 ?_
        refine ev_iconst (pc' := 160) (v := 4) dX8_layCut_159 rfl ki_4 ?_
        refine ev_iload (pc' := 162) dX8_layCut_160 rfl rfl ?_
        refine ev_imul (pc' := 163) (v := 8) dX8_layCut_162 rfl (by decide) ?_
        refine ev_iload (pc' := 165) dX8_layCut_163 rfl rfl ?_
        refine ev_iadd (pc' := 166) (v := 9) dX8_layCut_165 rfl (by decide) ?_
        refine ev_iald (pc' := 167) (j := 9) (v := 0) dX8_layCut_166 rfl hs_129 rfl (Nat.le_of_ble_eq_true rfl) (Nat.le_of_ble_eq_true rfl) rfl ?_
        refine ev_iast (pc' := 168) (j := 1) (I' := (ma_up (ma_up (ma_up I 129 (ma_up (ma_up (ma_up (ma_up (ma_up (ma_up (ma_up (ma_up (ma_up (ma_up (ma_up (ma_up (I 129) 0 ((I 126) 2)) 1 0) 2 (-((I 126) 0))) 3 0) 4 0) 5 ((I 126) 2)) 6 (-((I 126) 1))) 7 0) 8 0) 9 0) 10 (-((I 126) 3))) 11 ((I 126) 2))) 130 (ma_up (ma_up (ma_up (ma_up (I 130) 0 0) 1 ((I 126) 2)) 2 (-((I 126) 1))) 3 0)) 131 (ma_up (ma_up (ma_up (ma_up (I 131) 0 0) 1 0) 2 (-((I 126) 1))) 3 0))) dX8_layCut_167 rfl hs_131 rfl (Nat.le_of_ble_eq_true rfl) (Nat.le_of_ble_eq_true rfl) ((congrArg (ma_up _ 131) ((ma_up_comm _ (show 1 ≠ 3 from (by decide)) _ _).trans (congrArg (fun f => ma_up f 3 _) ((ma_up_comm _ (show 1 ≠ 2 from (by decide)) _ _).trans (congrArg (fun f => ma_up f 2 _) (ma_up_up _ _ _ _)))))).trans (ma_up_up _ _ _ _)) ?_
        refine ev_iinc (pc' := 171) (v := 2) (lv' := [some (.ref 115), some (.int (nI q)), some (.int 2), some (.int 3), some (.int 1), some (.int 2), some (.int 2)]) dX8_layCut_168 rfl rfl (by decide) (Nat.le_of_ble_eq_true rfl) rfl rfl ?_
        refine ev_goto (tgt := 124) dX8_layCut_171 rfl ?_
        refine ev_iload (pc' := 126) dX8_layCut_124 rfl rfl ?_
        refine ev_iconst (pc' := 127) (v := 4) dX8_layCut_126 rfl ki_4 ?_
        refine ev_icmp_ge (tgt := 174) (pc' := 130) dX8_layCut_127 rfl rfl (fun h => absurd h (by decide)) (fun _ => ?_)
        refine ev_aload_n (pc' := 131) (i := 0) dX8_layCut_130 rfl rfl rfl ?_
        refine ev_getR (pc' := 134) fo_X8_58 dX8_layCut_131 rfl hs_115 rfl rf_115_21 ?_
        refine ev_iload (pc' := 136) dX8_layCut_134 rfl rfl ?_
        refine ev_aload_n (pc' := 137) (i := 0) dX8_layCut_136 rfl rfl rfl ?_
        refine ev_getR (pc' := 140) fo_X8_55 dX8_layCut_137 rfl hs_115 rfl rf_115_20 ?_
        refine ev_iconst (pc' := 141) (v := 4) dX8_layCut_140 rfl ki_4 ?_
        refine ev_iload (pc' := 143) dX8_layCut_141 rfl rfl ?_
        refine ev_imul (pc' := 144) (v := 4) dX8_layCut_143 rfl (by decide) ?_
        refine ev_iload (pc' := 146) dX8_layCut_144 rfl rfl ?_
        refine ev_iadd (pc' := 147) (v := 6) dX8_layCut_146 rfl (by decide) ?_
        refine ev_iald (pc' := 148) (j := 6) (v := -((I 126) 1)) dX8_layCut_147 rfl hs_129 rfl (Nat.le_of_ble_eq_true rfl) (Nat.le_of_ble_eq_true rfl) rfl ?_
        refine ev_iast (pc' := 149) (j := 2) (I' := (ma_up (ma_up (ma_up I 129 (ma_up (ma_up (ma_up (ma_up (ma_up (ma_up (ma_up (ma_up (ma_up (ma_up (ma_up (ma_up (I 129) 0 ((I 126) 2)) 1 0) 2 (-((I 126) 0))) 3 0) 4 0) 5 ((I 126) 2)) 6 (-((I 126) 1))) 7 0) 8 0) 9 0) 10 (-((I 126) 3))) 11 ((I 126) 2))) 130 (ma_up (ma_up (ma_up (ma_up (I 130) 0 0) 1 ((I 126) 2)) 2 (-((I 126) 1))) 3 0)) 131 (ma_up (ma_up (ma_up (ma_up (I 131) 0 0) 1 0) 2 (-((I 126) 1))) 3 0))) dX8_layCut_148 rfl hs_130 rfl (Nat.le_of_ble_eq_true rfl) (Nat.le_of_ble_eq_true rfl) ((congrArg (ma_up _ 130) ((ma_up_comm _ (show 2 ≠ 3 from (by decide)) _ _).trans (congrArg (fun f => ma_up f 3 _) (ma_up_up _ _ _ _)))).trans ((ma_up_comm _ (show 130 ≠ 131 from (by decide)) _ _).trans (congrArg (fun f => ma_up f 131 _) (ma_up_up _ _ _ _)))) ?_
        refine ev_aload_n (pc' := 150) (i := 0) dX8_layCut_149 rfl rfl rfl ?_
        refine ev_getR (pc' := 153) fo_X8_61 dX8_layCut_150 rfl hs_115 rfl rf_115_22 ?_
        refine ev_iload (pc' := 155) dX8_layCut_153 rfl rfl ?_
        refine ev_aload_n (pc' := 156) (i := 0) dX8_layCut_155 rfl rfl rfl ?_
        refine ev_getR (pc' := 159) fo_X8_55 dX8_layCut_156 rfl hs_115 rfl rf_115_20 ?_
        refine ev_iconst (pc' := 160) (v := 4) dX8_layCut_159 rfl ki_4 ?_
        refine ev_iload (pc' := 162) dX8_layCut_160 rfl rfl ?_
        refine ev_imul (pc' := 163) (v := 8) dX8_layCut_162 rfl (by decide) ?_
        refine ev_iload (pc' := 165) dX8_layCut_163 rfl rfl ?_
        refine ev_iadd (pc' := 166) (v := 10) dX8_layCut_165 rfl (by decide) ?_
        refine ev_iald (pc' := 167) (j := 10) (v := -((I 126) 3)) dX8_layCut_166 rfl hs_129 rfl (Nat.le_of_ble_eq_true rfl) (Nat.le_of_ble_eq_true rfl) rfl ?_
        refine ev_iast (pc' := 168) (j := 2) (I' := (ma_up (ma_up (ma_up I 129 (ma_up (ma_up (ma_up (ma_up (ma_up (ma_up (ma_up (ma_up (ma_up (ma_up (ma_up (ma_up (I 129) 0 ((I 126) 2)) 1 0) 2 (-((I 126) 0))) 3 0) 4 0) 5 ((I 126) 2)) 6 (-((I 126) 1))) 7 0) 8 0) 9 0) 10 (-((I 126) 3))) 11 ((I 126) 2))) 130 (ma_up (ma_up (ma_up (ma_up (I 130) 0 0) 1 ((I 126) 2)) 2 (-((I 126) 1))) 3 0)) 131 (ma_up (ma_up (ma_up (ma_up (I 131) 0 0) 1 0) 2 (-((I 126) 3))) 3 0))) dX8_layCut_167 rfl hs_131 rfl (Nat.le_of_ble_eq_true rfl) (Nat.le_of_ble_eq_true rfl) ((congrArg (ma_up _ 131) ((ma_up_comm _ (show 2 ≠ 3 from (by decide)) _ _).trans (congrArg (fun f => ma_up f 3 _) (ma_up_up _ _ _ _)))).trans (ma_up_up _ _ _ _)) ?_
        refine ev_iinc (pc' := 171) (v := 3) (lv' := [some (.ref 115), some (.int (nI q)), some (.int 2), some (.int 3), some (.int 1), some (.int 2), some (.int 3)]) dX8_layCut_168 rfl rfl (by decide) (Nat.le_of_ble_eq_true rfl) rfl rfl ?_
        refine ev_goto (tgt := 124) dX8_layCut_171 rfl ?_
        refine ev_iload (pc' := 126) dX8_layCut_124 rfl rfl ?_
        refine ev_iconst (pc' := 127) (v := 4) dX8_layCut_126 rfl ki_4 ?_
        refine ev_icmp_ge (tgt := 174) (pc' := 130) dX8_layCut_127 rfl rfl (fun h => absurd h (by decide)) (fun _ => ?_)
        refine ev_aload_n (pc' := 131) (i := 0) dX8_layCut_130 rfl rfl rfl ?_
        refine ev_getR (pc' := 134) fo_X8_58 dX8_layCut_131 rfl hs_115 rfl rf_115_21 ?_
        refine ev_iload (pc' := 136) dX8_layCut_134 rfl rfl ?_
        refine ev_aload_n (pc' := 137) (i := 0) dX8_layCut_136 rfl rfl rfl ?_
        refine ev_getR (pc' := 140) fo_X8_55 dX8_layCut_137 rfl hs_115 rfl rf_115_20 ?_
        refine ev_iconst (pc' := 141) (v := 4) dX8_layCut_140 rfl ki_4 ?_
        refine ev_iload (pc' := 143) dX8_layCut_141 rfl rfl ?_
        refine ev_imul (pc' := 144) (v := 4) dX8_layCut_143 rfl (by decide) ?_
        refine ev_iload (pc' := 146) dX8_layCut_144 rfl rfl ?_
        refine ev_iadd (pc' := 147) (v := 7) dX8_layCut_146 rfl (by decide) ?_
        refine ev_iald (pc' := 148) (j := 7) (v := 0) dX8_layCut_147 rfl hs_129 rfl (Nat.le_of_ble_eq_true rfl) (Nat.le_of_ble_eq_true rfl) rfl ?_
        refine ev_iast (pc' := 149) (j := 3) (I' := (ma_up (ma_up (ma_up I 129 (ma_up (ma_up (ma_up (ma_up (ma_up (ma_up (ma_up (ma_up (ma_up (ma_up (ma_up (ma_up (I 129) 0 ((I 126) 2)) 1 0) 2 (-((I 126) 0))) 3 0) 4 0) 5 ((I 126) 2)) 6 (-((I 126) 1))) 7 0) 8 0) 9 0) 10 (-((I 126) 3))) 11 ((I 126) 2))) 130 (ma_up (ma_up (ma_up (ma_up (I 130) 0 0) 1 ((I 126) 2)) 2 (-((I 126) 1))) 3 0)) 131 (ma_up (ma_up (ma_up (ma_up (I 131) 0 0) 1 0) 2 (-((I 126) 3))) 3 0))) dX8_layCut_148 rfl hs_130 rfl (Nat.le_of_ble_eq_true rfl) (Nat.le_of_ble_eq_true rfl) ((congrArg (ma_up _ 130) (ma_up_up _ _ _ _)).trans ((ma_up_comm _ (show 130 ≠ 131 from (by decide)) _ _).trans (congrArg (fun f => ma_up f 131 _) (ma_up_up _ _ _ _)))) ?_
        refine ev_aload_n (pc' := 150) (i := 0) dX8_layCut_149 rfl rfl rfl ?_
        refine ev_getR (pc' := 153) fo_X8_61 dX8_layCut_150 rfl hs_115 rfl rf_115_22 ?_
        refine ev_iload (pc' := 155) dX8_layCut_153 rfl rfl ?_
        refine ev_aload_n (pc' := 156) (i := 0) dX8_layCut_155 rfl rfl rfl ?_
        refine ev_getR (pc' := 159) fo_X8_55 dX8_layCut_156 rfl hs_115 rfl rf_115_20 ?_
        refine ev_iconst (pc' := 160) (v := 4) dX8_layCut_159 rfl ki_4 ?_
        refine ev_iload (pc' := 162) dX8_layCut_160 rfl rfl ?_
        refine ev_imul (pc' := 163) (v := 8) dX8_layCut_162 rfl (by decide) ?_
        refine ev_iload (pc' := 165) dX8_layCut_163 rfl rfl ?_
        refine ev_iadd (pc' := 166) (v := 11) dX8_layCut_165 rfl (by decide) ?_
        refine ev_iald (pc' := 167) (j := 11) (v := (I 126) 2) dX8_layCut_166 rfl hs_129 rfl (Nat.le_of_ble_eq_true rfl) (Nat.le_of_ble_eq_true rfl) rfl ?_
        refine ev_iast (pc' := 168) (j := 3) (I' := (ma_up (ma_up (ma_up I 129 (ma_up (ma_up (ma_up (ma_up (ma_up (ma_up (ma_up (ma_up (ma_up (ma_up (ma_up (ma_up (I 129) 0 ((I 126) 2)) 1 0) 2 (-((I 126) 0))) 3 0) 4 0) 5 ((I 126) 2)) 6 (-((I 126) 1))) 7 0) 8 0) 9 0) 10 (-((I 126) 3))) 11 ((I 126) 2))) 130 (ma_up (ma_up (ma_up (ma_up (I 130) 0 0) 1 ((I 126) 2)) 2 (-((I 126) 1))) 3 0)) 131 (ma_up (ma_up (ma_up (ma_up (I 131) 0 0) 1 0) 2 (-((I 126) 3))) 3 ((I 126) 2)))) dX8_layCut_167 rfl hs_131 rfl (Nat.le_of_ble_eq_true rfl) (Nat.le_of_ble_eq_true rfl) ((congrArg (ma_up _ 131) (ma_up_up _ _ _ _)).trans (ma_up_up _ _ _ _)) ?_
        refine ev_iinc (pc' := 171) (v := 4) (lv' := [some (.ref 115), some (.int (nI q)), some (.int 2), some (.int 3), some (.int 1), some (.int 2), some (.int 4)]) dX8_layCut_168 rfl rfl (by decide) (Nat.le_of_ble_eq_true rfl) rfl rfl ?_
        refine ev_goto (tgt := 124) dX8_layCut_171 rfl ?_
        refine ev_iload (pc' := 126) dX8_layCut_124 rfl rfl ?_
        refine ev_iconst (pc' := 127) (v := 4) dX8_layCut_126 rfl ki_4 ?_
        refine ev_icmp_ge (tgt := 174) (pc' := 130) dX8_layCut_127 rfl rfl (fun _ => ?_) (fun h => absurd (by decide) h)
        refine ev_aload_n (pc' := 175) (i := 0) dX8_layCut_174 rfl rfl rfl ?_
        refine ev_getR (pc' := 178) fo_X8_26 dX8_layCut_175 rfl hs_115 rfl rf_115_8 ?_
        refine ev_iconst (pc' := 179) (v := 4) dX8_layCut_178 rfl ki_4 ?_
        refine ev_iload (pc' := 181) dX8_layCut_179 rfl rfl ?_
        refine ev_imul (pc' := 182) (v := 4) dX8_layCut_181 rfl (by decide) ?_
        refine ev_iload (pc' := 184) dX8_layCut_182 rfl rfl ?_
        refine ev_iadd (pc' := 185) (v := 6) dX8_layCut_184 rfl (by decide) ?_
        refine ev_aload_n (pc' := 186) (i := 0) dX8_layCut_185 rfl rfl rfl ?_
        refine ev_iload_n (pc' := 187) (i := 1) dX8_layCut_186 rfl rfl rfl ?_
        refine ev_aload_n (pc' := 188) (i := 0) dX8_layCut_187 rfl rfl rfl ?_
        refine ev_getR (pc' := 191) fo_X8_58 dX8_layCut_188 rfl hs_115 rfl rf_115_21 ?_
        refine ev_aload_n (pc' := 192) (i := 0) dX8_layCut_191 rfl rfl rfl ?_
        refine ev_getR (pc' := 195) fo_X8_61 dX8_layCut_192 rfl hs_115 rfl rf_115_22 ?_
        refine ev_callV (pc' := 198) (rm' := rX8_both) (b := 115) (av := [.int (nI q), .ref 130, .ref 131]) (rest := [.int 6, .ref 120]) co_X8_241 ci_X8_both cv_X8_both dX8_layCut_195 rfl hs_115 hb_X8 rfl rfl (Nat.le_of_ble_eq_true rfl) ⟨(Nat.le_of_ble_eq_true rfl), (Nat.le_of_ble_eq_true rfl)⟩ ⟨(Nat.le_of_ble_eq_true rfl), (Nat.le_of_ble_eq_true rfl)⟩ ?_
        refine t_X8_both q 130 131 hq hs_130 hs_131 ?_
        refine ev_eqi (w := mBo (I 123) (mSn 2 (I 126) 1) (mSn 2 (I 126) 2) q) rfl ?_
        refine ev_i2l (pc' := 199) (v := Int32.toInt64 (mBo (I 123) (mSn 2 (I 126) 1) (mSn 2 (I 126) 2) q)) dX8_layCut_198 rfl rfl ?_
        refine ev_last (pc' := 200) (j := 6) (L' := (ma_up L 120 (ma_up (ma_up (ma_up (ma_up (ma_up (ma_up (L 120) 0 (Int32.toInt64 (mBo (I 123) (mSn 2 (I 126) 0) (mSn 2 (I 126) 0) q))) 1 (Int32.toInt64 (mBo (I 123) (mSn 2 (I 126) 0) (mSn 2 (I 126) 1) q))) 2 (Int32.toInt64 (mBo (I 123) (mSn 2 (I 126) 0) (mSn 2 (I 126) 2) q))) 4 (Int32.toInt64 (mBo (I 123) (mSn 2 (I 126) 1) (mSn 2 (I 126) 0) q))) 5 (Int32.toInt64 (mBo (I 123) (mSn 2 (I 126) 1) (mSn 2 (I 126) 1) q))) 6 (Int32.toInt64 (mBo (I 123) (mSn 2 (I 126) 1) (mSn 2 (I 126) 2) q))))) dX8_layCut_199 rfl hs_120 rfl (Nat.le_of_ble_eq_true rfl) (Nat.le_of_ble_eq_true rfl) (ma_up_up _ _ _ _) ?_
        refine ev_iinc (pc' := 203) (v := 3) (lv' := [some (.ref 115), some (.int (nI q)), some (.int 2), some (.int 3), some (.int 1), some (.int 3), some (.int 4)]) dX8_layCut_200 rfl rfl (by decide) (Nat.le_of_ble_eq_true rfl) rfl rfl ?_
        refine ev_goto (tgt := 115) dX8_layCut_203 rfl ?_
        refine ev_iload (pc' := 117) dX8_layCut_115 rfl rfl ?_
        refine ev_iconst (pc' := 118) (v := 3) dX8_layCut_117 rfl ki_3 ?_
        refine ev_icmp_ge (tgt := 206) (pc' := 121) dX8_layCut_118 rfl rfl (fun _ => ?_) (fun h => absurd (by decide) h)
        refine ev_iinc (pc' := 209) (v := 2) (lv' := [some (.ref 115), some (.int (nI q)), some (.int 2), some (.int 3), some (.int 2), some (.int 3), some (.int 4)]) dX8_layCut_206 rfl rfl (by decide) (Nat.le_of_ble_eq_true rfl) rfl rfl ?_
        refine ev_goto (tgt := 106) dX8_layCut_209 rfl ?_
        refine ev_iload (pc' := 108) dX8_layCut_106 rfl rfl ?_
        refine ev_iconst (pc' := 109) (v := 3) dX8_layCut_108 rfl ki_3 ?_
        refine ev_icmp_ge (tgt := 212) (pc' := 112) dX8_layCut_109 rfl rfl (fun h => absurd h (by decide)) (fun _ => ?_)
        refine ev_iconst (pc' := 113) (v := 0) dX8_layCut_112 rfl ki_0 ?_
        refine ev_istore (pc' := 115) (lv' := [some (.ref 115), some (.int (nI q)), some (.int 2), some (.int 3), some (.int 2), some (.int 0), some (.int 4)]) dX8_layCut_113 rfl (Nat.le_of_ble_eq_true rfl) rfl rfl ?_
        refine ev_iload (pc' := 117) dX8_layCut_115 rfl rfl ?_
        refine ev_iconst (pc' := 118) (v := 3) dX8_layCut_117 rfl ki_3 ?_
        refine ev_icmp_ge (tgt := 206) (pc' := 121) dX8_layCut_118 rfl rfl (fun h => absurd h (by decide)) (fun _ => ?_)
        refine ev_iconst (pc' := 122) (v := 0) dX8_layCut_121 rfl ki_0 ?_
        refine ev_istore (pc' := 124) (lv' := [some (.ref 115), some (.int (nI q)), some (.int 2), some (.int 3), some (.int 2), some (.int 0), some (.int 0)]) dX8_layCut_122 rfl (Nat.le_of_ble_eq_true rfl) rfl rfl ?_
        refine ev_iload (pc' := 126) dX8_layCut_124 rfl rfl ?_
        refine ev_iconst (pc' := 127) (v := 4) dX8_layCut_126 rfl ki_4 ?_
        refine ev_icmp_ge (tgt := 174) (pc' := 130) dX8_layCut_127 rfl rfl (fun h => absurd h (by decide)) (fun _ => ?_)
        refine ev_aload_n (pc' := 131) (i := 0) dX8_layCut_130 rfl rfl rfl ?_
        refine ev_getR (pc' := 134) fo_X8_58 dX8_layCut_131 rfl hs_115 rfl rf_115_21 ?_
        refine ev_iload (pc' := 136) dX8_layCut_134 rfl rfl ?_
        refine ev_aload_n (pc' := 137) (i := 0) dX8_layCut_136 rfl rfl rfl ?_
        refine ev_getR (pc' := 140) fo_X8_55 dX8_layCut_137 rfl hs_115 rfl rf_115_20 ?_
        refine ev_iconst (pc' := 141) (v := 4) dX8_layCut_140 rfl ki_4 ?_
        refine ev_iload (pc' := 143) dX8_layCut_141 rfl rfl ?_
        refine ev_imul (pc' := 144) (v := 8) dX8_layCut_143 rfl (by decide) ?_
        refine ev_iload (pc' := 146) dX8_layCut_144 rfl rfl ?_
        refine ev_iadd (pc' := 147) (v := 8) dX8_layCut_146 rfl (by decide) ?_
        refine ev_iald (pc' := 148) (j := 8) (v := 0) dX8_layCut_147 rfl hs_129 rfl (Nat.le_of_ble_eq_true rfl) (Nat.le_of_ble_eq_true rfl) rfl ?_
        refine ev_iast (pc' := 149) (j := 0) (I' := (ma_up (ma_up (ma_up I 129 (ma_up (ma_up (ma_up (ma_up (ma_up (ma_up (ma_up (ma_up (ma_up (ma_up (ma_up (ma_up (I 129) 0 ((I 126) 2)) 1 0) 2 (-((I 126) 0))) 3 0) 4 0) 5 ((I 126) 2)) 6 (-((I 126) 1))) 7 0) 8 0) 9 0) 10 (-((I 126) 3))) 11 ((I 126) 2))) 130 (ma_up (ma_up (ma_up (ma_up (I 130) 0 0) 1 ((I 126) 2)) 2 (-((I 126) 1))) 3 0)) 131 (ma_up (ma_up (ma_up (ma_up (I 131) 0 0) 1 0) 2 (-((I 126) 3))) 3 ((I 126) 2)))) dX8_layCut_148 rfl hs_130 rfl (Nat.le_of_ble_eq_true rfl) (Nat.le_of_ble_eq_true rfl) ((congrArg (ma_up _ 130) ((ma_up_comm _ (show 0 ≠ 3 from (by decide)) _ _).trans (congrArg (fun f => ma_up f 3 _) ((ma_up_comm _ (show 0 ≠ 2 from (by decide)) _ _).trans (congrArg (fun f => ma_up f 2 _) ((ma_up_comm _ (show 0 ≠ 1 from (by decide)) _ _).trans (congrArg (fun f => ma_up f 1 _) (ma_up_up _ _ _ _)))))))).trans ((ma_up_comm _ (show 130 ≠ 131 from (by decide)) _ _).trans (congrArg (fun f => ma_up f 131 _) (ma_up_up _ _ _ _)))) ?_
        refine ev_aload_n (pc' := 150) (i := 0) dX8_layCut_149 rfl rfl rfl ?_
        refine ev_getR (pc' := 153) fo_X8_61 dX8_layCut_150 rfl hs_115 rfl rf_115_22 ?_
        refine ev_iload (pc' := 155) dX8_layCut_153 rfl rfl ?_
        refine ev_aload_n (pc' := 156) (i := 0) dX8_layCut_155 rfl rfl rfl ?_
        refine ev_getR (pc' := 159) fo_X8_55 dX8_layCut_156 rfl hs_115 rfl rf_115_20 ?_
        refine ev_iconst (pc' := 160) (v := 4) dX8_layCut_159 rfl ki_4 ?_
        refine ev_iload (pc' := 162) dX8_layCut_160 rfl rfl ?_
        refine ev_imul (pc' := 163) (v := 0) dX8_layCut_162 rfl (by decide) ?_
        refine ev_iload (pc' := 165) dX8_layCut_163 rfl rfl ?_
        refine ev_iadd (pc' := 166) (v := 0) dX8_layCut_165 rfl (by decide) ?_
        refine ev_iald (pc' := 167) (j := 0) (v := (I 126) 2) dX8_layCut_166 rfl hs_129 rfl (Nat.le_of_ble_eq_true rfl) (Nat.le_of_ble_eq_true rfl) rfl ?_
        refine ev_iast (pc' := 168) (j := 0) (I' := (ma_up (ma_up (ma_up I 129 (ma_up (ma_up (ma_up (ma_up (ma_up (ma_up (ma_up (ma_up (ma_up (ma_up (ma_up (ma_up (I 129) 0 ((I 126) 2)) 1 0) 2 (-((I 126) 0))) 3 0) 4 0) 5 ((I 126) 2)) 6 (-((I 126) 1))) 7 0) 8 0) 9 0) 10 (-((I 126) 3))) 11 ((I 126) 2))) 130 (ma_up (ma_up (ma_up (ma_up (I 130) 0 0) 1 ((I 126) 2)) 2 (-((I 126) 1))) 3 0)) 131 (ma_up (ma_up (ma_up (ma_up (I 131) 0 ((I 126) 2)) 1 0) 2 (-((I 126) 3))) 3 ((I 126) 2)))) dX8_layCut_167 rfl hs_131 rfl (Nat.le_of_ble_eq_true rfl) (Nat.le_of_ble_eq_true rfl) ((congrArg (ma_up _ 131) ((ma_up_comm _ (show 0 ≠ 3 from (by decide)) _ _).trans (congrArg (fun f => ma_up f 3 _) ((ma_up_comm _ (show 0 ≠ 2 from (by decide)) _ _).trans (congrArg (fun f => ma_up f 2 _) ((ma_up_comm _ (show 0 ≠ 1 from (by decide)) _ _).trans (congrArg (fun f => ma_up f 1 _) (ma_up_up _ _ _ _)))))))).trans (ma_up_up _ _ _ _)) ?_
        refine ev_iinc (pc' := 171) (v := 1) (lv' := [some (.ref 115), some (.int (nI q)), some (.int 2), some (.int 3), some (.int 2), some (.int 0), some (.int 1)]) dX8_layCut_168 rfl rfl (by decide) (Nat.le_of_ble_eq_true rfl) rfl rfl ?_
        refine ev_goto (tgt := 124) dX8_layCut_171 rfl ?_
        refine ev_iload (pc' := 126) dX8_layCut_124 rfl rfl ?_
        refine ev_iconst (pc' := 127) (v := 4) dX8_layCut_126 rfl ki_4 ?_
        refine ev_icmp_ge (tgt := 174) (pc' := 130) dX8_layCut_127 rfl rfl (fun h => absurd h (by decide)) (fun _ => ?_)
        refine ev_aload_n (pc' := 131) (i := 0) dX8_layCut_130 rfl rfl rfl ?_
        refine ev_getR (pc' := 134) fo_X8_58 dX8_layCut_131 rfl hs_115 rfl rf_115_21 ?_
        refine ev_iload (pc' := 136) dX8_layCut_134 rfl rfl ?_
        refine ev_aload_n (pc' := 137) (i := 0) dX8_layCut_136 rfl rfl rfl ?_
        refine ev_getR (pc' := 140) fo_X8_55 dX8_layCut_137 rfl hs_115 rfl rf_115_20 ?_
        refine ev_iconst (pc' := 141) (v := 4) dX8_layCut_140 rfl ki_4 ?_
        refine ev_iload (pc' := 143) dX8_layCut_141 rfl rfl ?_
        refine ev_imul (pc' := 144) (v := 8) dX8_layCut_143 rfl (by decide) ?_
        refine ev_iload (pc' := 146) dX8_layCut_144 rfl rfl ?_
        refine ev_iadd (pc' := 147) (v := 9) dX8_layCut_146 rfl (by decide) ?_
        refine ev_iald (pc' := 148) (j := 9) (v := 0) dX8_layCut_147 rfl hs_129 rfl (Nat.le_of_ble_eq_true rfl) (Nat.le_of_ble_eq_true rfl) rfl ?_
        refine ev_iast (pc' := 149) (j := 1) (I' := (ma_up (ma_up (ma_up I 129 (ma_up (ma_up (ma_up (ma_up (ma_up (ma_up (ma_up (ma_up (ma_up (ma_up (ma_up (ma_up (I 129) 0 ((I 126) 2)) 1 0) 2 (-((I 126) 0))) 3 0) 4 0) 5 ((I 126) 2)) 6 (-((I 126) 1))) 7 0) 8 0) 9 0) 10 (-((I 126) 3))) 11 ((I 126) 2))) 130 (ma_up (ma_up (ma_up (ma_up (I 130) 0 0) 1 0) 2 (-((I 126) 1))) 3 0)) 131 (ma_up (ma_up (ma_up (ma_up (I 131) 0 ((I 126) 2)) 1 0) 2 (-((I 126) 3))) 3 ((I 126) 2)))) dX8_layCut_148 rfl hs_130 rfl (Nat.le_of_ble_eq_true rfl) (Nat.le_of_ble_eq_true rfl) ((congrArg (ma_up _ 130) ((ma_up_comm _ (show 1 ≠ 3 from (by decide)) _ _).trans (congrArg (fun f => ma_up f 3 _) ((ma_up_comm _ (show 1 ≠ 2 from (by decide)) _ _).trans (congrArg (fun f => ma_up f 2 _) (ma_up_up _ _ _ _)))))).trans ((ma_up_comm _ (show 130 ≠ 131 from (by decide)) _ _).trans (congrArg (fun f => ma_up f 131 _) (ma_up_up _ _ _ _)))) ?_
        refine ev_aload_n (pc' := 150) (i := 0) dX8_layCut_149 rfl rfl rfl ?_
        refine ev_getR (pc' := 153) fo_X8_61 dX8_layCut_150 rfl hs_115 rfl rf_115_22 ?_
        refine ev_iload (pc' := 155) dX8_layCut_153 rfl rfl ?_
        refine ev_aload_n (pc' := 156) (i := 0) dX8_layCut_155 rfl rfl rfl ?_
        refine ev_getR (pc' := 159) fo_X8_55 dX8_layCut_156 rfl hs_115 rfl rf_115_20 ?_
        refine ev_iconst (pc' := 160) (v := 4) dX8_layCut_159 rfl ki_4 ?_
        refine ev_iload (pc' := 162) dX8_layCut_160 rfl rfl ?_
        refine ev_imul (pc' := 163) (v := 0) dX8_layCut_162 rfl (by decide) ?_
        refine ev_iload (pc' := 165) dX8_layCut_163 rfl rfl ?_
        refine ev_iadd (pc' := 166) (v := 1) dX8_layCut_165 rfl (by decide) ?_
        refine ev_iald (pc' := 167) (j := 1) (v := 0) dX8_layCut_166 rfl hs_129 rfl (Nat.le_of_ble_eq_true rfl) (Nat.le_of_ble_eq_true rfl) rfl ?_
        refine ev_iast (pc' := 168) (j := 1) (I' := (ma_up (ma_up (ma_up I 129 (ma_up (ma_up (ma_up (ma_up (ma_up (ma_up (ma_up (ma_up (ma_up (ma_up (ma_up (ma_up (I 129) 0 ((I 126) 2)) 1 0) 2 (-((I 126) 0))) 3 0) 4 0) 5 ((I 126) 2)) 6 (-((I 126) 1))) 7 0) 8 0) 9 0) 10 (-((I 126) 3))) 11 ((I 126) 2))) 130 (ma_up (ma_up (ma_up (ma_up (I 130) 0 0) 1 0) 2 (-((I 126) 1))) 3 0)) 131 (ma_up (ma_up (ma_up (ma_up (I 131) 0 ((I 126) 2)) 1 0) 2 (-((I 126) 3))) 3 ((I 126) 2)))) dX8_layCut_167 rfl hs_131 rfl (Nat.le_of_ble_eq_true rfl) (Nat.le_of_ble_eq_true rfl) ((congrArg (ma_up _ 131) ((ma_up_comm _ (show 1 ≠ 3 from (by decide)) _ _).trans (congrArg (fun f => ma_up f 3 _) ((ma_up_comm _ (show 1 ≠ 2 from (by decide)) _ _).trans (congrArg (fun f => ma_up f 2 _) (ma_up_up _ _ _ _)))))).trans (ma_up_up _ _ _ _)) ?_
        refine ev_iinc (pc' := 171) (v := 2) (lv' := [some (.ref 115), some (.int (nI q)), some (.int 2), some (.int 3), some (.int 2), some (.int 0), some (.int 2)]) dX8_layCut_168 rfl rfl (by decide) (Nat.le_of_ble_eq_true rfl) rfl rfl ?_
        refine ev_goto (tgt := 124) dX8_layCut_171 rfl ?_
        refine ev_iload (pc' := 126) dX8_layCut_124 rfl rfl ?_
        refine ev_iconst (pc' := 127) (v := 4) dX8_layCut_126 rfl ki_4 ?_
        refine ev_icmp_ge (tgt := 174) (pc' := 130) dX8_layCut_127 rfl rfl (fun h => absurd h (by decide)) (fun _ => ?_)
        refine ev_aload_n (pc' := 131) (i := 0) dX8_layCut_130 rfl rfl rfl ?_
        refine ev_getR (pc' := 134) fo_X8_58 dX8_layCut_131 rfl hs_115 rfl rf_115_21 ?_
        refine ev_iload (pc' := 136) dX8_layCut_134 rfl rfl ?_
        refine ev_aload_n (pc' := 137) (i := 0) dX8_layCut_136 rfl rfl rfl ?_
        refine ev_getR (pc' := 140) fo_X8_55 dX8_layCut_137 rfl hs_115 rfl rf_115_20 ?_
        refine ev_iconst (pc' := 141) (v := 4) dX8_layCut_140 rfl ki_4 ?_
        refine ev_iload (pc' := 143) dX8_layCut_141 rfl rfl ?_
        refine ev_imul (pc' := 144) (v := 8) dX8_layCut_143 rfl (by decide) ?_
        refine ev_iload (pc' := 146) dX8_layCut_144 rfl rfl ?_
        refine ev_iadd (pc' := 147) (v := 10) dX8_layCut_146 rfl (by decide) ?_
        refine ev_iald (pc' := 148) (j := 10) (v := -((I 126) 3)) dX8_layCut_147 rfl hs_129 rfl (Nat.le_of_ble_eq_true rfl) (Nat.le_of_ble_eq_true rfl) rfl ?_
        refine ev_iast (pc' := 149) (j := 2) (I' := (ma_up (ma_up (ma_up I 129 (ma_up (ma_up (ma_up (ma_up (ma_up (ma_up (ma_up (ma_up (ma_up (ma_up (ma_up (ma_up (I 129) 0 ((I 126) 2)) 1 0) 2 (-((I 126) 0))) 3 0) 4 0) 5 ((I 126) 2)) 6 (-((I 126) 1))) 7 0) 8 0) 9 0) 10 (-((I 126) 3))) 11 ((I 126) 2))) 130 (ma_up (ma_up (ma_up (ma_up (I 130) 0 0) 1 0) 2 (-((I 126) 3))) 3 0)) 131 (ma_up (ma_up (ma_up (ma_up (I 131) 0 ((I 126) 2)) 1 0) 2 (-((I 126) 3))) 3 ((I 126) 2)))) dX8_layCut_148 rfl hs_130 rfl (Nat.le_of_ble_eq_true rfl) (Nat.le_of_ble_eq_true rfl) ((congrArg (ma_up _ 130) ((ma_up_comm _ (show 2 ≠ 3 from (by decide)) _ _).trans (congrArg (fun f => ma_up f 3 _) (ma_up_up _ _ _ _)))).trans ((ma_up_comm _ (show 130 ≠ 131 from (by decide)) _ _).trans (congrArg (fun f => ma_up f 131 _) (ma_up_up _ _ _ _)))) ?_
        refine ev_aload_n (pc' := 150) (i := 0) dX8_layCut_149 rfl rfl rfl ?_
        refine ev_getR (pc' := 153) fo_X8_61 dX8_layCut_150 rfl hs_115 rfl rf_115_22 ?_
        refine ev_iload (pc' := 155) dX8_layCut_153 rfl rfl ?_
        refine ev_aload_n (pc' := 156) (i := 0) dX8_layCut_155 rfl rfl rfl ?_
        refine ev_getR (pc' := 159) fo_X8_55 dX8_layCut_156 rfl hs_115 rfl rf_115_20 ?_
        refine ev_iconst (pc' := 160) (v := 4) dX8_layCut_159 rfl ki_4 ?_
        refine ev_iload (pc' := 162) dX8_layCut_160 rfl rfl ?_
        refine ev_imul (pc' := 163) (v := 0) dX8_layCut_162 rfl (by decide) ?_
        refine ev_iload (pc' := 165) dX8_layCut_163 rfl rfl ?_
        refine ev_iadd (pc' := 166) (v := 2) dX8_layCut_165 rfl (by decide) ?_
        refine ev_iald (pc' := 167) (j := 2) (v := -((I 126) 0)) dX8_layCut_166 rfl hs_129 rfl (Nat.le_of_ble_eq_true rfl) (Nat.le_of_ble_eq_true rfl) rfl ?_
        refine ev_iast (pc' := 168) (j := 2) (I' := (ma_up (ma_up (ma_up I 129 (ma_up (ma_up (ma_up (ma_up (ma_up (ma_up (ma_up (ma_up (ma_up (ma_up (ma_up (ma_up (I 129) 0 ((I 126) 2)) 1 0) 2 (-((I 126) 0))) 3 0) 4 0) 5 ((I 126) 2)) 6 (-((I 126) 1))) 7 0) 8 0) 9 0) 10 (-((I 126) 3))) 11 ((I 126) 2))) 130 (ma_up (ma_up (ma_up (ma_up (I 130) 0 0) 1 0) 2 (-((I 126) 3))) 3 0)) 131 (ma_up (ma_up (ma_up (ma_up (I 131) 0 ((I 126) 2)) 1 0) 2 (-((I 126) 0))) 3 ((I 126) 2)))) dX8_layCut_167 rfl hs_131 rfl (Nat.le_of_ble_eq_true rfl) (Nat.le_of_ble_eq_true rfl) ((congrArg (ma_up _ 131) ((ma_up_comm _ (show 2 ≠ 3 from (by decide)) _ _).trans (congrArg (fun f => ma_up f 3 _) (ma_up_up _ _ _ _)))).trans (ma_up_up _ _ _ _)) ?_
        refine ev_iinc (pc' := 171) (v := 3) (lv' := [some (.ref 115), some (.int (nI q)), some (.int 2), some (.int 3), some (.int 2), some (.int 0), some (.int 3)]) dX8_layCut_168 rfl rfl (by decide) (Nat.le_of_ble_eq_true rfl) rfl rfl ?_
        refine ev_goto (tgt := 124) dX8_layCut_171 rfl ?_
        refine ev_iload (pc' := 126) dX8_layCut_124 rfl rfl ?_
        refine ev_iconst (pc' := 127) (v := 4) dX8_layCut_126 rfl ki_4 ?_
        refine ev_icmp_ge (tgt := 174) (pc' := 130) dX8_layCut_127 rfl rfl (fun h => absurd h (by decide)) (fun _ => ?_)
        refine ev_aload_n (pc' := 131) (i := 0) dX8_layCut_130 rfl rfl rfl ?_
        refine ev_getR (pc' := 134) fo_X8_58 dX8_layCut_131 rfl hs_115 rfl rf_115_21 ?_
        refine ev_iload (pc' := 136) dX8_layCut_134 rfl rfl ?_
        refine ev_aload_n (pc' := 137) (i := 0) dX8_layCut_136 rfl rfl rfl ?_
        refine ev_getR (pc' := 140) fo_X8_55 dX8_layCut_137 rfl hs_115 rfl rf_115_20 ?_
        refine ev_iconst (pc' := 141) (v := 4) dX8_layCut_140 rfl ki_4 ?_
        refine ev_iload (pc' := 143) dX8_layCut_141 rfl rfl ?_
        refine ev_imul (pc' := 144) (v := 8) dX8_layCut_143 rfl (by decide) ?_
        refine ev_iload (pc' := 146) dX8_layCut_144 rfl rfl ?_
        refine ev_iadd (pc' := 147) (v := 11) dX8_layCut_146 rfl (by decide) ?_
        refine ev_iald (pc' := 148) (j := 11) (v := (I 126) 2) dX8_layCut_147 rfl hs_129 rfl (Nat.le_of_ble_eq_true rfl) (Nat.le_of_ble_eq_true rfl) rfl ?_
        refine ev_iast (pc' := 149) (j := 3) (I' := (ma_up (ma_up (ma_up I 129 (ma_up (ma_up (ma_up (ma_up (ma_up (ma_up (ma_up (ma_up (ma_up (ma_up (ma_up (ma_up (I 129) 0 ((I 126) 2)) 1 0) 2 (-((I 126) 0))) 3 0) 4 0) 5 ((I 126) 2)) 6 (-((I 126) 1))) 7 0) 8 0) 9 0) 10 (-((I 126) 3))) 11 ((I 126) 2))) 130 (ma_up (ma_up (ma_up (ma_up (I 130) 0 0) 1 0) 2 (-((I 126) 3))) 3 ((I 126) 2))) 131 (ma_up (ma_up (ma_up (ma_up (I 131) 0 ((I 126) 2)) 1 0) 2 (-((I 126) 0))) 3 ((I 126) 2)))) dX8_layCut_148 rfl hs_130 rfl (Nat.le_of_ble_eq_true rfl) (Nat.le_of_ble_eq_true rfl) ((congrArg (ma_up _ 130) (ma_up_up _ _ _ _)).trans ((ma_up_comm _ (show 130 ≠ 131 from (by decide)) _ _).trans (congrArg (fun f => ma_up f 131 _) (ma_up_up _ _ _ _)))) ?_
        refine ev_aload_n (pc' := 150) (i := 0) dX8_layCut_149 rfl rfl rfl ?_
        refine ev_getR (pc' := 153) fo_X8_61 dX8_layCut_150 rfl hs_115 rfl rf_115_22 ?_
        refine ev_iload (pc' := 155) dX8_layCut_153 rfl rfl ?_
        refine ev_aload_n (pc' := 156) (i := 0) dX8_layCut_155 rfl rfl rfl ?_
        refine ev_getR (pc' := 159) fo_X8_55 dX8_layCut_156 rfl hs_115 rfl rf_115_20 ?_
        refine ev_iconst (pc' := 160) (v := 4) dX8_layCut_159 rfl ki_4 ?_
        refine ev_iload (pc' := 162) dX8_layCut_160 rfl rfl ?_
        refine ev_imul (pc' := 163) (v := 0) dX8_layCut_162 rfl (by decide) ?_
        refine ev_iload (pc' := 165) dX8_layCut_163 rfl rfl ?_
        refine ev_iadd (pc' := 166) (v := 3) dX8_layCut_165 rfl (by decide) ?_
        refine ev_iald (pc' := 167) (j := 3) (v := 0) dX8_layCut_166 rfl hs_129 rfl (Nat.le_of_ble_eq_true rfl) (Nat.le_of_ble_eq_true rfl) rfl ?_
        refine ev_iast (pc' := 168) (j := 3) (I' := (ma_up (ma_up (ma_up I 129 (ma_up (ma_up (ma_up (ma_up (ma_up (ma_up (ma_up (ma_up (ma_up (ma_up (ma_up (ma_up (I 129) 0 ((I 126) 2)) 1 0) 2 (-((I 126) 0))) 3 0) 4 0) 5 ((I 126) 2)) 6 (-((I 126) 1))) 7 0) 8 0) 9 0) 10 (-((I 126) 3))) 11 ((I 126) 2))) 130 (ma_up (ma_up (ma_up (ma_up (I 130) 0 0) 1 0) 2 (-((I 126) 3))) 3 ((I 126) 2))) 131 (ma_up (ma_up (ma_up (ma_up (I 131) 0 ((I 126) 2)) 1 0) 2 (-((I 126) 0))) 3 0))) dX8_layCut_167 rfl hs_131 rfl (Nat.le_of_ble_eq_true rfl) (Nat.le_of_ble_eq_true rfl) ((congrArg (ma_up _ 131) (ma_up_up _ _ _ _)).trans (ma_up_up _ _ _ _)) ?_
        refine ev_iinc (pc' := 171) (v := 4) (lv' := [some (.ref 115), some (.int (nI q)), some (.int 2), some (.int 3), some (.int 2), some (.int 0), some (.int 4)]) dX8_layCut_168 rfl rfl (by decide) (Nat.le_of_ble_eq_true rfl) rfl rfl ?_
        refine ev_goto (tgt := 124) dX8_layCut_171 rfl ?_
        refine ev_iload (pc' := 126) dX8_layCut_124 rfl rfl ?_
        refine ev_iconst (pc' := 127) (v := 4) dX8_layCut_126 rfl ki_4 ?_
        refine ev_icmp_ge (tgt := 174) (pc' := 130) dX8_layCut_127 rfl rfl (fun _ => ?_) (fun h => absurd (by decide) h)
        refine ev_aload_n (pc' := 175) (i := 0) dX8_layCut_174 rfl rfl rfl ?_
        refine ev_getR (pc' := 178) fo_X8_26 dX8_layCut_175 rfl hs_115 rfl rf_115_8 ?_
        refine ev_iconst (pc' := 179) (v := 4) dX8_layCut_178 rfl ki_4 ?_
        refine ev_iload (pc' := 181) dX8_layCut_179 rfl rfl ?_
        refine ev_imul (pc' := 182) (v := 8) dX8_layCut_181 rfl (by decide) ?_
        refine ev_iload (pc' := 184) dX8_layCut_182 rfl rfl ?_
        refine ev_iadd (pc' := 185) (v := 8) dX8_layCut_184 rfl (by decide) ?_
        refine ev_aload_n (pc' := 186) (i := 0) dX8_layCut_185 rfl rfl rfl ?_
        refine ev_iload_n (pc' := 187) (i := 1) dX8_layCut_186 rfl rfl rfl ?_
        refine ev_aload_n (pc' := 188) (i := 0) dX8_layCut_187 rfl rfl rfl ?_
        refine ev_getR (pc' := 191) fo_X8_58 dX8_layCut_188 rfl hs_115 rfl rf_115_21 ?_
        refine ev_aload_n (pc' := 192) (i := 0) dX8_layCut_191 rfl rfl rfl ?_
        refine ev_getR (pc' := 195) fo_X8_61 dX8_layCut_192 rfl hs_115 rfl rf_115_22 ?_
        refine ev_callV (pc' := 198) (rm' := rX8_both) (b := 115) (av := [.int (nI q), .ref 130, .ref 131]) (rest := [.int 8, .ref 120]) co_X8_241 ci_X8_both cv_X8_both dX8_layCut_195 rfl hs_115 hb_X8 rfl rfl (Nat.le_of_ble_eq_true rfl) ⟨(Nat.le_of_ble_eq_true rfl), (Nat.le_of_ble_eq_true rfl)⟩ ⟨(Nat.le_of_ble_eq_true rfl), (Nat.le_of_ble_eq_true rfl)⟩ ?_
        refine t_X8_both q 130 131 hq hs_130 hs_131 ?_
        refine ev_eqi (w := mBo (I 123) (mSn 2 (I 126) 2) (mSn 2 (I 126) 0) q) rfl ?_
        refine ev_i2l (pc' := 199) (v := Int32.toInt64 (mBo (I 123) (mSn 2 (I 126) 2) (mSn 2 (I 126) 0) q)) dX8_layCut_198 rfl rfl ?_
        refine ev_last (pc' := 200) (j := 8) (L' := (ma_up L 120 (ma_up (ma_up (ma_up (ma_up (ma_up (ma_up (ma_up (L 120) 0 (Int32.toInt64 (mBo (I 123) (mSn 2 (I 126) 0) (mSn 2 (I 126) 0) q))) 1 (Int32.toInt64 (mBo (I 123) (mSn 2 (I 126) 0) (mSn 2 (I 126) 1) q))) 2 (Int32.toInt64 (mBo (I 123) (mSn 2 (I 126) 0) (mSn 2 (I 126) 2) q))) 4 (Int32.toInt64 (mBo (I 123) (mSn 2 (I 126) 1) (mSn 2 (I 126) 0) q))) 5 (Int32.toInt64 (mBo (I 123) (mSn 2 (I 126) 1) (mSn 2 (I 126) 1) q))) 6 (Int32.toInt64 (mBo (I 123) (mSn 2 (I 126) 1) (mSn 2 (I 126) 2) q))) 8 (Int32.toInt64 (mBo (I 123) (mSn 2 (I 126) 2) (mSn 2 (I 126) 0) q))))) dX8_layCut_199 rfl hs_120 rfl (Nat.le_of_ble_eq_true rfl) (Nat.le_of_ble_eq_true rfl) (ma_up_up _ _ _ _) ?_
        refine ev_iinc (pc' := 203) (v := 1) (lv' := [some (.ref 115), some (.int (nI q)), some (.int 2), some (.int 3), some (.int 2), some (.int 1), some (.int 4)]) dX8_layCut_200 rfl rfl (by decide) (Nat.le_of_ble_eq_true rfl) rfl rfl ?_
        refine ev_goto (tgt := 115) dX8_layCut_203 rfl ?_
        refine ev_iload (pc' := 117) dX8_layCut_115 rfl rfl ?_
        refine ev_iconst (pc' := 118) (v := 3) dX8_layCut_117 rfl ki_3 ?_
        refine ev_icmp_ge (tgt := 206) (pc' := 121) dX8_layCut_118 rfl rfl (fun h => absurd h (by decide)) (fun _ => ?_)
        refine ev_iconst (pc' := 122) (v := 0) dX8_layCut_121 rfl ki_0 ?_
        refine ev_istore (pc' := 124) (lv' := [some (.ref 115), some (.int (nI q)), some (.int 2), some (.int 3), some (.int 2), some (.int 1), some (.int 0)]) dX8_layCut_122 rfl (Nat.le_of_ble_eq_true rfl) rfl rfl ?_
        refine ev_iload (pc' := 126) dX8_layCut_124 rfl rfl ?_
        refine ev_iconst (pc' := 127) (v := 4) dX8_layCut_126 rfl ki_4 ?_
        refine ev_icmp_ge (tgt := 174) (pc' := 130) dX8_layCut_127 rfl rfl (fun h => absurd h (by decide)) (fun _ => ?_)
        refine ev_aload_n (pc' := 131) (i := 0) dX8_layCut_130 rfl rfl rfl ?_
        refine ev_getR (pc' := 134) fo_X8_58 dX8_layCut_131 rfl hs_115 rfl rf_115_21 ?_
        refine ev_iload (pc' := 136) dX8_layCut_134 rfl rfl ?_
        refine ev_aload_n (pc' := 137) (i := 0) dX8_layCut_136 rfl rfl rfl ?_
        refine ev_getR (pc' := 140) fo_X8_55 dX8_layCut_137 rfl hs_115 rfl rf_115_20 ?_
        refine ev_iconst (pc' := 141) (v := 4) dX8_layCut_140 rfl ki_4 ?_
        refine ev_iload (pc' := 143) dX8_layCut_141 rfl rfl ?_
        refine ev_imul (pc' := 144) (v := 8) dX8_layCut_143 rfl (by decide) ?_
        refine ev_iload (pc' := 146) dX8_layCut_144 rfl rfl ?_
        refine ev_iadd (pc' := 147) (v := 8) dX8_layCut_146 rfl (by decide) ?_
        refine ev_iald (pc' := 148) (j := 8) (v := 0) dX8_layCut_147 rfl hs_129 rfl (Nat.le_of_ble_eq_true rfl) (Nat.le_of_ble_eq_true rfl) rfl ?_
        refine ev_iast (pc' := 149) (j := 0) (I' := (ma_up (ma_up (ma_up I 129 (ma_up (ma_up (ma_up (ma_up (ma_up (ma_up (ma_up (ma_up (ma_up (ma_up (ma_up (ma_up (I 129) 0 ((I 126) 2)) 1 0) 2 (-((I 126) 0))) 3 0) 4 0) 5 ((I 126) 2)) 6 (-((I 126) 1))) 7 0) 8 0) 9 0) 10 (-((I 126) 3))) 11 ((I 126) 2))) 130 (ma_up (ma_up (ma_up (ma_up (I 130) 0 0) 1 0) 2 (-((I 126) 3))) 3 ((I 126) 2))) 131 (ma_up (ma_up (ma_up (ma_up (I 131) 0 ((I 126) 2)) 1 0) 2 (-((I 126) 0))) 3 0))) dX8_layCut_148 rfl hs_130 rfl (Nat.le_of_ble_eq_true rfl) (Nat.le_of_ble_eq_true rfl) ((congrArg (ma_up _ 130) ((ma_up_comm _ (show 0 ≠ 3 from (by decide)) _ _).trans (congrArg (fun f => ma_up f 3 _) ((ma_up_comm _ (show 0 ≠ 2 from (by decide)) _ _).trans (congrArg (fun f => ma_up f 2 _) ((ma_up_comm _ (show 0 ≠ 1 from (by decide)) _ _).trans (congrArg (fun f => ma_up f 1 _) (ma_up_up _ _ _ _)))))))).trans ((ma_up_comm _ (show 130 ≠ 131 from (by decide)) _ _).trans (congrArg (fun f => ma_up f 131 _) (ma_up_up _ _ _ _)))) ?_
        refine ev_aload_n (pc' := 150) (i := 0) dX8_layCut_149 rfl rfl rfl ?_
        refine ev_getR (pc' := 153) fo_X8_61 dX8_layCut_150 rfl hs_115 rfl rf_115_22 ?_
        refine ev_iload (pc' := 155) dX8_layCut_153 rfl rfl ?_
        refine ev_aload_n (pc' := 156) (i := 0) dX8_layCut_155 rfl rfl rfl ?_
        refine ev_getR (pc' := 159) fo_X8_55 dX8_layCut_156 rfl hs_115 rfl rf_115_20 ?_
        refine ev_iconst (pc' := 160) (v := 4) dX8_layCut_159 rfl ki_4 ?_
        refine ev_iload (pc' := 162) dX8_layCut_160 rfl rfl ?_
        refine ev_imul (pc' := 163) (v := 4) dX8_layCut_162 rfl (by decide) ?_
        refine ev_iload (pc' := 165) dX8_layCut_163 rfl rfl ?_
        refine ev_iadd (pc' := 166) (v := 4) dX8_layCut_165 rfl (by decide) ?_
        refine ev_iald (pc' := 167) (j := 4) (v := 0) dX8_layCut_166 rfl hs_129 rfl (Nat.le_of_ble_eq_true rfl) (Nat.le_of_ble_eq_true rfl) rfl ?_
        refine ev_iast (pc' := 168) (j := 0) (I' := (ma_up (ma_up (ma_up I 129 (ma_up (ma_up (ma_up (ma_up (ma_up (ma_up (ma_up (ma_up (ma_up (ma_up (ma_up (ma_up (I 129) 0 ((I 126) 2)) 1 0) 2 (-((I 126) 0))) 3 0) 4 0) 5 ((I 126) 2)) 6 (-((I 126) 1))) 7 0) 8 0) 9 0) 10 (-((I 126) 3))) 11 ((I 126) 2))) 130 (ma_up (ma_up (ma_up (ma_up (I 130) 0 0) 1 0) 2 (-((I 126) 3))) 3 ((I 126) 2))) 131 (ma_up (ma_up (ma_up (ma_up (I 131) 0 0) 1 0) 2 (-((I 126) 0))) 3 0))) dX8_layCut_167 rfl hs_131 rfl (Nat.le_of_ble_eq_true rfl) (Nat.le_of_ble_eq_true rfl) ((congrArg (ma_up _ 131) ((ma_up_comm _ (show 0 ≠ 3 from (by decide)) _ _).trans (congrArg (fun f => ma_up f 3 _) ((ma_up_comm _ (show 0 ≠ 2 from (by decide)) _ _).trans (congrArg (fun f => ma_up f 2 _) ((ma_up_comm _ (show 0 ≠ 1 from (by decide)) _ _).trans (congrArg (fun f => ma_up f 1 _) (ma_up_up _ _ _ _)))))))).trans (ma_up_up _ _ _ _)) ?_
        refine ev_iinc (pc' := 171) (v := 1) (lv' := [some (.ref 115), some (.int (nI q)), some (.int 2), some (.int 3), some (.int 2), some (.int 1), some (.int 1)]) dX8_layCut_168 rfl rfl (by decide) (Nat.le_of_ble_eq_true rfl) rfl rfl ?_
        refine ev_goto (tgt := 124) dX8_layCut_171 rfl ?_
        refine ev_iload (pc' := 126) dX8_layCut_124 rfl rfl ?_
        refine ev_iconst (pc' := 127) (v := 4) dX8_layCut_126 rfl ki_4 ?_
        refine ev_icmp_ge (tgt := 174) (pc' := 130) dX8_layCut_127 rfl rfl (fun h => absurd h (by decide)) (fun _ => ?_)
        refine ev_aload_n (pc' := 131) (i := 0) dX8_layCut_130 rfl rfl rfl ?_
        refine ev_getR (pc' := 134) fo_X8_58 dX8_layCut_131 rfl hs_115 rfl rf_115_21 ?_
        refine ev_iload (pc' := 136) dX8_layCut_134 rfl rfl ?_
        refine ev_aload_n (pc' := 137) (i := 0) dX8_layCut_136 rfl rfl rfl ?_
        refine ev_getR (pc' := 140) fo_X8_55 dX8_layCut_137 rfl hs_115 rfl rf_115_20 ?_
        refine ev_iconst (pc' := 141) (v := 4) dX8_layCut_140 rfl ki_4 ?_
        refine ev_iload (pc' := 143) dX8_layCut_141 rfl rfl ?_
        refine ev_imul (pc' := 144) (v := 8) dX8_layCut_143 rfl (by decide) ?_
        refine ev_iload (pc' := 146) dX8_layCut_144 rfl rfl ?_
        refine ev_iadd (pc' := 147) (v := 9) dX8_layCut_146 rfl (by decide) ?_
        refine ev_iald (pc' := 148) (j := 9) (v := 0) dX8_layCut_147 rfl hs_129 rfl (Nat.le_of_ble_eq_true rfl) (Nat.le_of_ble_eq_true rfl) rfl ?_
        refine ev_iast (pc' := 149) (j := 1) (I' := (ma_up (ma_up (ma_up I 129 (ma_up (ma_up (ma_up (ma_up (ma_up (ma_up (ma_up (ma_up (ma_up (ma_up (ma_up (ma_up (I 129) 0 ((I 126) 2)) 1 0) 2 (-((I 126) 0))) 3 0) 4 0) 5 ((I 126) 2)) 6 (-((I 126) 1))) 7 0) 8 0) 9 0) 10 (-((I 126) 3))) 11 ((I 126) 2))) 130 (ma_up (ma_up (ma_up (ma_up (I 130) 0 0) 1 0) 2 (-((I 126) 3))) 3 ((I 126) 2))) 131 (ma_up (ma_up (ma_up (ma_up (I 131) 0 0) 1 0) 2 (-((I 126) 0))) 3 0))) dX8_layCut_148 rfl hs_130 rfl (Nat.le_of_ble_eq_true rfl) (Nat.le_of_ble_eq_true rfl) ((congrArg (ma_up _ 130) ((ma_up_comm _ (show 1 ≠ 3 from (by decide)) _ _).trans (congrArg (fun f => ma_up f 3 _) ((ma_up_comm _ (show 1 ≠ 2 from (by decide)) _ _).trans (congrArg (fun f => ma_up f 2 _) (ma_up_up _ _ _ _)))))).trans ((ma_up_comm _ (show 130 ≠ 131 from (by decide)) _ _).trans (congrArg (fun f => ma_up f 131 _) (ma_up_up _ _ _ _)))) ?_
        refine ev_aload_n (pc' := 150) (i := 0) dX8_layCut_149 rfl rfl rfl ?_
        refine ev_getR (pc' := 153) fo_X8_61 dX8_layCut_150 rfl hs_115 rfl rf_115_22 ?_
        refine ev_iload (pc' := 155) dX8_layCut_153 rfl rfl ?_
        refine ev_aload_n (pc' := 156) (i := 0) dX8_layCut_155 rfl rfl rfl ?_
        refine ev_getR (pc' := 159) fo_X8_55 dX8_layCut_156 rfl hs_115 rfl rf_115_20 ?_
        refine ev_iconst (pc' := 160) (v := 4) dX8_layCut_159 rfl ki_4 ?_
        refine ev_iload (pc' := 162) dX8_layCut_160 rfl rfl ?_
        refine ev_imul (pc' := 163) (v := 4) dX8_layCut_162 rfl (by decide) ?_
        refine ev_iload (pc' := 165) dX8_layCut_163 rfl rfl ?_
        refine ev_iadd (pc' := 166) (v := 5) dX8_layCut_165 rfl (by decide) ?_
        refine ev_iald (pc' := 167) (j := 5) (v := (I 126) 2) dX8_layCut_166 rfl hs_129 rfl (Nat.le_of_ble_eq_true rfl) (Nat.le_of_ble_eq_true rfl) rfl ?_
        refine ev_iast (pc' := 168) (j := 1) (I' := (ma_up (ma_up (ma_up I 129 (ma_up (ma_up (ma_up (ma_up (ma_up (ma_up (ma_up (ma_up (ma_up (ma_up (ma_up (ma_up (I 129) 0 ((I 126) 2)) 1 0) 2 (-((I 126) 0))) 3 0) 4 0) 5 ((I 126) 2)) 6 (-((I 126) 1))) 7 0) 8 0) 9 0) 10 (-((I 126) 3))) 11 ((I 126) 2))) 130 (ma_up (ma_up (ma_up (ma_up (I 130) 0 0) 1 0) 2 (-((I 126) 3))) 3 ((I 126) 2))) 131 (ma_up (ma_up (ma_up (ma_up (I 131) 0 0) 1 ((I 126) 2)) 2 (-((I 126) 0))) 3 0))) dX8_layCut_167 rfl hs_131 rfl (Nat.le_of_ble_eq_true rfl) (Nat.le_of_ble_eq_true rfl) ((congrArg (ma_up _ 131) ((ma_up_comm _ (show 1 ≠ 3 from (by decide)) _ _).trans (congrArg (fun f => ma_up f 3 _) ((ma_up_comm _ (show 1 ≠ 2 from (by decide)) _ _).trans (congrArg (fun f => ma_up f 2 _) (ma_up_up _ _ _ _)))))).trans (ma_up_up _ _ _ _)) ?_
        refine ev_iinc (pc' := 171) (v := 2) (lv' := [some (.ref 115), some (.int (nI q)), some (.int 2), some (.int 3), some (.int 2), some (.int 1), some (.int 2)]) dX8_layCut_168 rfl rfl (by decide) (Nat.le_of_ble_eq_true rfl) rfl rfl ?_
        refine ev_goto (tgt := 124) dX8_layCut_171 rfl ?_
        refine ev_iload (pc' := 126) dX8_layCut_124 rfl rfl ?_
        refine ev_iconst (pc' := 127) (v := 4) dX8_layCut_126 rfl ki_4 ?_
        refine ev_icmp_ge (tgt := 174) (pc' := 130) dX8_layCut_127 rfl rfl (fun h => absurd h (by decide)) (fun _ => ?_)
        refine ev_aload_n (pc' := 131) (i := 0) dX8_layCut_130 rfl rfl rfl ?_
        refine ev_getR (pc' := 134) fo_X8_58 dX8_layCut_131 rfl hs_115 rfl rf_115_21 ?_
        refine ev_iload (pc' := 136) dX8_layCut_134 rfl rfl ?_
        refine ev_aload_n (pc' := 137) (i := 0) dX8_layCut_136 rfl rfl rfl ?_
        refine ev_getR (pc' := 140) fo_X8_55 dX8_layCut_137 rfl hs_115 rfl rf_115_20 ?_
        refine ev_iconst (pc' := 141) (v := 4) dX8_layCut_140 rfl ki_4 ?_
        refine ev_iload (pc' := 143) dX8_layCut_141 rfl rfl ?_
        refine ev_imul (pc' := 144) (v := 8) dX8_layCut_143 rfl (by decide) ?_
        refine ev_iload (pc' := 146) dX8_layCut_144 rfl rfl ?_
        refine ev_iadd (pc' := 147) (v := 10) dX8_layCut_146 rfl (by decide) ?_
        refine ev_iald (pc' := 148) (j := 10) (v := -((I 126) 3)) dX8_layCut_147 rfl hs_129 rfl (Nat.le_of_ble_eq_true rfl) (Nat.le_of_ble_eq_true rfl) rfl ?_
        refine ev_iast (pc' := 149) (j := 2) (I' := (ma_up (ma_up (ma_up I 129 (ma_up (ma_up (ma_up (ma_up (ma_up (ma_up (ma_up (ma_up (ma_up (ma_up (ma_up (ma_up (I 129) 0 ((I 126) 2)) 1 0) 2 (-((I 126) 0))) 3 0) 4 0) 5 ((I 126) 2)) 6 (-((I 126) 1))) 7 0) 8 0) 9 0) 10 (-((I 126) 3))) 11 ((I 126) 2))) 130 (ma_up (ma_up (ma_up (ma_up (I 130) 0 0) 1 0) 2 (-((I 126) 3))) 3 ((I 126) 2))) 131 (ma_up (ma_up (ma_up (ma_up (I 131) 0 0) 1 ((I 126) 2)) 2 (-((I 126) 0))) 3 0))) dX8_layCut_148 rfl hs_130 rfl (Nat.le_of_ble_eq_true rfl) (Nat.le_of_ble_eq_true rfl) ((congrArg (ma_up _ 130) ((ma_up_comm _ (show 2 ≠ 3 from (by decide)) _ _).trans (congrArg (fun f => ma_up f 3 _) (ma_up_up _ _ _ _)))).trans ((ma_up_comm _ (show 130 ≠ 131 from (by decide)) _ _).trans (congrArg (fun f => ma_up f 131 _) (ma_up_up _ _ _ _)))) ?_
        refine ev_aload_n (pc' := 150) (i := 0) dX8_layCut_149 rfl rfl rfl ?_
        refine ev_getR (pc' := 153) fo_X8_61 dX8_layCut_150 rfl hs_115 rfl rf_115_22 ?_
        refine ev_iload (pc' := 155) dX8_layCut_153 rfl rfl ?_
        refine ev_aload_n (pc' := 156) (i := 0) dX8_layCut_155 rfl rfl rfl ?_
        refine ev_getR (pc' := 159) fo_X8_55 dX8_layCut_156 rfl hs_115 rfl rf_115_20 ?_
        refine ev_iconst (pc' := 160) (v := 4) dX8_layCut_159 rfl ki_4 ?_
        refine ev_iload (pc' := 162) dX8_layCut_160 rfl rfl ?_
        refine ev_imul (pc' := 163) (v := 4) dX8_layCut_162 rfl (by decide) ?_
        refine ev_iload (pc' := 165) dX8_layCut_163 rfl rfl ?_
        refine ev_iadd (pc' := 166) (v := 6) dX8_layCut_165 rfl (by decide) ?_
        refine ev_iald (pc' := 167) (j := 6) (v := -((I 126) 1)) dX8_layCut_166 rfl hs_129 rfl (Nat.le_of_ble_eq_true rfl) (Nat.le_of_ble_eq_true rfl) rfl ?_
        refine ev_iast (pc' := 168) (j := 2) (I' := (ma_up (ma_up (ma_up I 129 (ma_up (ma_up (ma_up (ma_up (ma_up (ma_up (ma_up (ma_up (ma_up (ma_up (ma_up (ma_up (I 129) 0 ((I 126) 2)) 1 0) 2 (-((I 126) 0))) 3 0) 4 0) 5 ((I 126) 2)) 6 (-((I 126) 1))) 7 0) 8 0) 9 0) 10 (-((I 126) 3))) 11 ((I 126) 2))) 130 (ma_up (ma_up (ma_up (ma_up (I 130) 0 0) 1 0) 2 (-((I 126) 3))) 3 ((I 126) 2))) 131 (ma_up (ma_up (ma_up (ma_up (I 131) 0 0) 1 ((I 126) 2)) 2 (-((I 126) 1))) 3 0))) dX8_layCut_167 rfl hs_131 rfl (Nat.le_of_ble_eq_true rfl) (Nat.le_of_ble_eq_true rfl) ((congrArg (ma_up _ 131) ((ma_up_comm _ (show 2 ≠ 3 from (by decide)) _ _).trans (congrArg (fun f => ma_up f 3 _) (ma_up_up _ _ _ _)))).trans (ma_up_up _ _ _ _)) ?_
        refine ev_iinc (pc' := 171) (v := 3) (lv' := [some (.ref 115), some (.int (nI q)), some (.int 2), some (.int 3), some (.int 2), some (.int 1), some (.int 3)]) dX8_layCut_168 rfl rfl (by decide) (Nat.le_of_ble_eq_true rfl) rfl rfl ?_
        refine ev_goto (tgt := 124) dX8_layCut_171 rfl ?_
        refine ev_iload (pc' := 126) dX8_layCut_124 rfl rfl ?_
        refine ev_iconst (pc' := 127) (v := 4) dX8_layCut_126 rfl ki_4 ?_
        refine ev_icmp_ge (tgt := 174) (pc' := 130) dX8_layCut_127 rfl rfl (fun h => absurd h (by decide)) (fun _ => ?_)
        refine ev_aload_n (pc' := 131) (i := 0) dX8_layCut_130 rfl rfl rfl ?_
        refine ev_getR (pc' := 134) fo_X8_58 dX8_layCut_131 rfl hs_115 rfl rf_115_21 ?_
        refine ev_iload (pc' := 136) dX8_layCut_134 rfl rfl ?_
        refine ev_aload_n (pc' := 137) (i := 0) dX8_layCut_136 rfl rfl rfl ?_
        refine ev_getR (pc' := 140) fo_X8_55 dX8_layCut_137 rfl hs_115 rfl rf_115_20 ?_
        refine ev_iconst (pc' := 141) (v := 4) dX8_layCut_140 rfl ki_4 ?_
        refine ev_iload (pc' := 143) dX8_layCut_141 rfl rfl ?_
        refine ev_imul (pc' := 144) (v := 8) dX8_layCut_143 rfl (by decide) ?_
        refine ev_iload (pc' := 146) dX8_layCut_144 rfl rfl ?_
        refine ev_iadd (pc' := 147) (v := 11) dX8_layCut_146 rfl (by decide) ?_
        refine ev_iald (pc' := 148) (j := 11) (v := (I 126) 2) dX8_layCut_147 rfl hs_129 rfl (Nat.le_of_ble_eq_true rfl) (Nat.le_of_ble_eq_true rfl) rfl ?_
        refine ev_iast (pc' := 149) (j := 3) (I' := (ma_up (ma_up (ma_up I 129 (ma_up (ma_up (ma_up (ma_up (ma_up (ma_up (ma_up (ma_up (ma_up (ma_up (ma_up (ma_up (I 129) 0 ((I 126) 2)) 1 0) 2 (-((I 126) 0))) 3 0) 4 0) 5 ((I 126) 2)) 6 (-((I 126) 1))) 7 0) 8 0) 9 0) 10 (-((I 126) 3))) 11 ((I 126) 2))) 130 (ma_up (ma_up (ma_up (ma_up (I 130) 0 0) 1 0) 2 (-((I 126) 3))) 3 ((I 126) 2))) 131 (ma_up (ma_up (ma_up (ma_up (I 131) 0 0) 1 ((I 126) 2)) 2 (-((I 126) 1))) 3 0))) dX8_layCut_148 rfl hs_130 rfl (Nat.le_of_ble_eq_true rfl) (Nat.le_of_ble_eq_true rfl) ((congrArg (ma_up _ 130) (ma_up_up _ _ _ _)).trans ((ma_up_comm _ (show 130 ≠ 131 from (by decide)) _ _).trans (congrArg (fun f => ma_up f 131 _) (ma_up_up _ _ _ _)))) ?_
        refine ev_aload_n (pc' := 150) (i := 0) dX8_layCut_149 rfl rfl rfl ?_
        refine ev_getR (pc' := 153) fo_X8_61 dX8_layCut_150 rfl hs_115 rfl rf_115_22 ?_
        refine ev_iload (pc' := 155) dX8_layCut_153 rfl rfl ?_
        refine ev_aload_n (pc' := 156) (i := 0) dX8_layCut_155 rfl rfl rfl ?_
        refine ev_getR (pc' := 159) fo_X8_55 dX8_layCut_156 rfl hs_115 rfl rf_115_20 ?_
        refine ev_iconst (pc' := 160) (v := 4) dX8_layCut_159 rfl ki_4 ?_
        refine ev_iload (pc' := 162) dX8_layCut_160 rfl rfl ?_
        refine ev_imul (pc' := 163) (v := 4) dX8_layCut_162 rfl (by decide) ?_
        refine ev_iload (pc' := 165) dX8_layCut_163 rfl rfl ?_
        refine ev_iadd (pc' := 166) (v := 7) dX8_layCut_165 rfl (by decide) ?_
        refine ev_iald (pc' := 167) (j := 7) (v := 0) dX8_layCut_166 rfl hs_129 rfl (Nat.le_of_ble_eq_true rfl) (Nat.le_of_ble_eq_true rfl) rfl ?_
        refine ev_iast (pc' := 168) (j := 3) (I' := (ma_up (ma_up (ma_up I 129 (ma_up (ma_up (ma_up (ma_up (ma_up (ma_up (ma_up (ma_up (ma_up (ma_up (ma_up (ma_up (I 129) 0 ((I 126) 2)) 1 0) 2 (-((I 126) 0))) 3 0) 4 0) 5 ((I 126) 2)) 6 (-((I 126) 1))) 7 0) 8 0) 9 0) 10 (-((I 126) 3))) 11 ((I 126) 2))) 130 (ma_up (ma_up (ma_up (ma_up (I 130) 0 0) 1 0) 2 (-((I 126) 3))) 3 ((I 126) 2))) 131 (ma_up (ma_up (ma_up (ma_up (I 131) 0 0) 1 ((I 126) 2)) 2 (-((I 126) 1))) 3 0))) dX8_layCut_167 rfl hs_131 rfl (Nat.le_of_ble_eq_true rfl) (Nat.le_of_ble_eq_true rfl) ((congrArg (ma_up _ 131) (ma_up_up _ _ _ _)).trans (ma_up_up _ _ _ _)) ?_
        refine ev_iinc (pc' := 171) (v := 4) (lv' := [some (.ref 115), some (.int (nI q)), some (.int 2), some (.int 3), some (.int 2), some (.int 1), some (.int 4)]) dX8_layCut_168 rfl rfl (by decide) (Nat.le_of_ble_eq_true rfl) rfl rfl ?_
        refine ev_goto (tgt := 124) dX8_layCut_171 rfl ?_
        refine ev_iload (pc' := 126) dX8_layCut_124 rfl rfl ?_
        refine ev_iconst (pc' := 127) (v := 4) dX8_layCut_126 rfl ki_4 ?_
        refine ev_icmp_ge (tgt := 174) (pc' := 130) dX8_layCut_127 rfl rfl (fun _ => ?_) (fun h => absurd (by decide) h)
        refine ev_aload_n (pc' := 175) (i := 0) dX8_layCut_174 rfl rfl rfl ?_
        refine ev_getR (pc' := 178) fo_X8_26 dX8_layCut_175 rfl hs_115 rfl rf_115_8 ?_
        refine ev_iconst (pc' := 179) (v := 4) dX8_layCut_178 rfl ki_4 ?_
        refine ev_iload (pc' := 181) dX8_layCut_179 rfl rfl ?_
        refine ev_imul (pc' := 182) (v := 8) dX8_layCut_181 rfl (by decide) ?_
        refine ev_iload (pc' := 184) dX8_layCut_182 rfl rfl ?_
        refine ev_iadd (pc' := 185) (v := 9) dX8_layCut_184 rfl (by decide) ?_
        refine ev_aload_n (pc' := 186) (i := 0) dX8_layCut_185 rfl rfl rfl ?_
        refine ev_iload_n (pc' := 187) (i := 1) dX8_layCut_186 rfl rfl rfl ?_
        refine ev_aload_n (pc' := 188) (i := 0) dX8_layCut_187 rfl rfl rfl ?_
        refine ev_getR (pc' := 191) fo_X8_58 dX8_layCut_188 rfl hs_115 rfl rf_115_21 ?_
        refine ev_aload_n (pc' := 192) (i := 0) dX8_layCut_191 rfl rfl rfl ?_
        refine ev_getR (pc' := 195) fo_X8_61 dX8_layCut_192 rfl hs_115 rfl rf_115_22 ?_
        refine ev_callV (pc' := 198) (rm' := rX8_both) (b := 115) (av := [.int (nI q), .ref 130, .ref 131]) (rest := [.int 9, .ref 120]) co_X8_241 ci_X8_both cv_X8_both dX8_layCut_195 rfl hs_115 hb_X8 rfl rfl (Nat.le_of_ble_eq_true rfl) ⟨(Nat.le_of_ble_eq_true rfl), (Nat.le_of_ble_eq_true rfl)⟩ ⟨(Nat.le_of_ble_eq_true rfl), (Nat.le_of_ble_eq_true rfl)⟩ ?_
        refine t_X8_both q 130 131 hq hs_130 hs_131 ?_
        refine ev_eqi (w := mBo (I 123) (mSn 2 (I 126) 2) (mSn 2 (I 126) 1) q) rfl ?_
        refine ev_i2l (pc' := 199) (v := Int32.toInt64 (mBo (I 123) (mSn 2 (I 126) 2) (mSn 2 (I 126) 1) q)) dX8_layCut_198 rfl rfl ?_
        refine ev_last (pc' := 200) (j := 9) (L' := (ma_up L 120 (ma_up (ma_up (ma_up (ma_up (ma_up (ma_up (ma_up (ma_up (L 120) 0 (Int32.toInt64 (mBo (I 123) (mSn 2 (I 126) 0) (mSn 2 (I 126) 0) q))) 1 (Int32.toInt64 (mBo (I 123) (mSn 2 (I 126) 0) (mSn 2 (I 126) 1) q))) 2 (Int32.toInt64 (mBo (I 123) (mSn 2 (I 126) 0) (mSn 2 (I 126) 2) q))) 4 (Int32.toInt64 (mBo (I 123) (mSn 2 (I 126) 1) (mSn 2 (I 126) 0) q))) 5 (Int32.toInt64 (mBo (I 123) (mSn 2 (I 126) 1) (mSn 2 (I 126) 1) q))) 6 (Int32.toInt64 (mBo (I 123) (mSn 2 (I 126) 1) (mSn 2 (I 126) 2) q))) 8 (Int32.toInt64 (mBo (I 123) (mSn 2 (I 126) 2) (mSn 2 (I 126) 0) q))) 9 (Int32.toInt64 (mBo (I 123) (mSn 2 (I 126) 2) (mSn 2 (I 126) 1) q))))) dX8_layCut_199 rfl hs_120 rfl (Nat.le_of_ble_eq_true rfl) (Nat.le_of_ble_eq_true rfl) (ma_up_up _ _ _ _) ?_
        refine ev_iinc (pc' := 203) (v := 2) (lv' := [some (.ref 115), some (.int (nI q)), some (.int 2), some (.int 3), some (.int 2), some (.int 2), some (.int 4)]) dX8_layCut_200 rfl rfl (by decide) (Nat.le_of_ble_eq_true rfl) rfl rfl ?_
        refine ev_goto (tgt := 115) dX8_layCut_203 rfl ?_
        refine ev_iload (pc' := 117) dX8_layCut_115 rfl rfl ?_
        refine ev_iconst (pc' := 118) (v := 3) dX8_layCut_117 rfl ki_3 ?_
        refine ev_icmp_ge (tgt := 206) (pc' := 121) dX8_layCut_118 rfl rfl (fun h => absurd h (by decide)) (fun _ => ?_)
        refine ev_iconst (pc' := 122) (v := 0) dX8_layCut_121 rfl ki_0 ?_
        refine ev_istore (pc' := 124) (lv' := [some (.ref 115), some (.int (nI q)), some (.int 2), some (.int 3), some (.int 2), some (.int 2), some (.int 0)]) dX8_layCut_122 rfl (Nat.le_of_ble_eq_true rfl) rfl rfl ?_
        refine ev_iload (pc' := 126) dX8_layCut_124 rfl rfl ?_
        refine ev_iconst (pc' := 127) (v := 4) dX8_layCut_126 rfl ki_4 ?_
        refine ev_icmp_ge (tgt := 174) (pc' := 130) dX8_layCut_127 rfl rfl (fun h => absurd h (by decide)) (fun _ => ?_)
        refine ev_aload_n (pc' := 131) (i := 0) dX8_layCut_130 rfl rfl rfl ?_
        refine ev_getR (pc' := 134) fo_X8_58 dX8_layCut_131 rfl hs_115 rfl rf_115_21 ?_
        refine ev_iload (pc' := 136) dX8_layCut_134 rfl rfl ?_
        refine ev_aload_n (pc' := 137) (i := 0) dX8_layCut_136 rfl rfl rfl ?_
        refine ev_getR (pc' := 140) fo_X8_55 dX8_layCut_137 rfl hs_115 rfl rf_115_20 ?_
        refine ev_iconst (pc' := 141) (v := 4) dX8_layCut_140 rfl ki_4 ?_
        refine ev_iload (pc' := 143) dX8_layCut_141 rfl rfl ?_
        refine ev_imul (pc' := 144) (v := 8) dX8_layCut_143 rfl (by decide) ?_
        refine ev_iload (pc' := 146) dX8_layCut_144 rfl rfl ?_
        refine ev_iadd (pc' := 147) (v := 8) dX8_layCut_146 rfl (by decide) ?_
        refine ev_iald (pc' := 148) (j := 8) (v := 0) dX8_layCut_147 rfl hs_129 rfl (Nat.le_of_ble_eq_true rfl) (Nat.le_of_ble_eq_true rfl) rfl ?_
        refine ev_iast (pc' := 149) (j := 0) (I' := (ma_up (ma_up (ma_up I 129 (ma_up (ma_up (ma_up (ma_up (ma_up (ma_up (ma_up (ma_up (ma_up (ma_up (ma_up (ma_up (I 129) 0 ((I 126) 2)) 1 0) 2 (-((I 126) 0))) 3 0) 4 0) 5 ((I 126) 2)) 6 (-((I 126) 1))) 7 0) 8 0) 9 0) 10 (-((I 126) 3))) 11 ((I 126) 2))) 130 (ma_up (ma_up (ma_up (ma_up (I 130) 0 0) 1 0) 2 (-((I 126) 3))) 3 ((I 126) 2))) 131 (ma_up (ma_up (ma_up (ma_up (I 131) 0 0) 1 ((I 126) 2)) 2 (-((I 126) 1))) 3 0))) dX8_layCut_148 rfl hs_130 rfl (Nat.le_of_ble_eq_true rfl) (Nat.le_of_ble_eq_true rfl) ((congrArg (ma_up _ 130) ((ma_up_comm _ (show 0 ≠ 3 from (by decide)) _ _).trans (congrArg (fun f => ma_up f 3 _) ((ma_up_comm _ (show 0 ≠ 2 from (by decide)) _ _).trans (congrArg (fun f => ma_up f 2 _) ((ma_up_comm _ (show 0 ≠ 1 from (by decide)) _ _).trans (congrArg (fun f => ma_up f 1 _) (ma_up_up _ _ _ _)))))))).trans ((ma_up_comm _ (show 130 ≠ 131 from (by decide)) _ _).trans (congrArg (fun f => ma_up f 131 _) (ma_up_up _ _ _ _)))) ?_
        refine ev_aload_n (pc' := 150) (i := 0) dX8_layCut_149 rfl rfl rfl ?_
        refine ev_getR (pc' := 153) fo_X8_61 dX8_layCut_150 rfl hs_115 rfl rf_115_22 ?_
        refine ev_iload (pc' := 155) dX8_layCut_153 rfl rfl ?_
        refine ev_aload_n (pc' := 156) (i := 0) dX8_layCut_155 rfl rfl rfl ?_
        refine ev_getR (pc' := 159) fo_X8_55 dX8_layCut_156 rfl hs_115 rfl rf_115_20 ?_
        refine ev_iconst (pc' := 160) (v := 4) dX8_layCut_159 rfl ki_4 ?_
        refine ev_iload (pc' := 162) dX8_layCut_160 rfl rfl ?_
        refine ev_imul (pc' := 163) (v := 8) dX8_layCut_162 rfl (by decide) ?_
        refine ev_iload (pc' := 165) dX8_layCut_163 rfl rfl ?_
        refine ev_iadd (pc' := 166) (v := 8) dX8_layCut_165 rfl (by decide) ?_
        refine ev_iald (pc' := 167) (j := 8) (v := 0) dX8_layCut_166 rfl hs_129 rfl (Nat.le_of_ble_eq_true rfl) (Nat.le_of_ble_eq_true rfl) rfl ?_
        refine ev_iast (pc' := 168) (j := 0) (I' := (ma_up (ma_up (ma_up I 129 (ma_up (ma_up (ma_up (ma_up (ma_up (ma_up (ma_up (ma_up (ma_up (ma_up (ma_up (ma_up (I 129) 0 ((I 126) 2)) 1 0) 2 (-((I 126) 0))) 3 0) 4 0) 5 ((I 126) 2)) 6 (-((I 126) 1))) 7 0) 8 0) 9 0) 10 (-((I 126) 3))) 11 ((I 126) 2))) 130 (ma_up (ma_up (ma_up (ma_up (I 130) 0 0) 1 0) 2 (-((I 126) 3))) 3 ((I 126) 2))) 131 (ma_up (ma_up (ma_up (ma_up (I 131) 0 0) 1 ((I 126) 2)) 2 (-((I 126) 1))) 3 0))) dX8_layCut_167 rfl hs_131 rfl (Nat.le_of_ble_eq_true rfl) (Nat.le_of_ble_eq_true rfl) ((congrArg (ma_up _ 131) ((ma_up_comm _ (show 0 ≠ 3 from (by decide)) _ _).trans (congrArg (fun f => ma_up f 3 _) ((ma_up_comm _ (show 0 ≠ 2 from (by decide)) _ _).trans (congrArg (fun f => ma_up f 2 _) ((ma_up_comm _ (show 0 ≠ 1 from (by decide)) _ _).trans (congrArg (fun f => ma_up f 1 _) (ma_up_up _ _ _ _)))))))).trans (ma_up_up _ _ _ _)) ?_
        refine ev_iinc (pc' := 171) (v := 1) (lv' := [some (.ref 115), some (.int (nI q)), some (.int 2), some (.int 3), some (.int 2), some (.int 2), some (.int 1)]) dX8_layCut_168 rfl rfl (by decide) (Nat.le_of_ble_eq_true rfl) rfl rfl ?_
        refine ev_goto (tgt := 124) dX8_layCut_171 rfl ?_
        refine ev_iload (pc' := 126) dX8_layCut_124 rfl rfl ?_
        refine ev_iconst (pc' := 127) (v := 4) dX8_layCut_126 rfl ki_4 ?_
        refine ev_icmp_ge (tgt := 174) (pc' := 130) dX8_layCut_127 rfl rfl (fun h => absurd h (by decide)) (fun _ => ?_)
        refine ev_aload_n (pc' := 131) (i := 0) dX8_layCut_130 rfl rfl rfl ?_
        refine ev_getR (pc' := 134) fo_X8_58 dX8_layCut_131 rfl hs_115 rfl rf_115_21 ?_
        refine ev_iload (pc' := 136) dX8_layCut_134 rfl rfl ?_
        refine ev_aload_n (pc' := 137) (i := 0) dX8_layCut_136 rfl rfl rfl ?_
        refine ev_getR (pc' := 140) fo_X8_55 dX8_layCut_137 rfl hs_115 rfl rf_115_20 ?_
        refine ev_iconst (pc' := 141) (v := 4) dX8_layCut_140 rfl ki_4 ?_
        refine ev_iload (pc' := 143) dX8_layCut_141 rfl rfl ?_
        refine ev_imul (pc' := 144) (v := 8) dX8_layCut_143 rfl (by decide) ?_
        refine ev_iload (pc' := 146) dX8_layCut_144 rfl rfl ?_
        refine ev_iadd (pc' := 147) (v := 9) dX8_layCut_146 rfl (by decide) ?_
        refine ev_iald (pc' := 148) (j := 9) (v := 0) dX8_layCut_147 rfl hs_129 rfl (Nat.le_of_ble_eq_true rfl) (Nat.le_of_ble_eq_true rfl) rfl ?_
        refine ev_iast (pc' := 149) (j := 1) (I' := (ma_up (ma_up (ma_up I 129 (ma_up (ma_up (ma_up (ma_up (ma_up (ma_up (ma_up (ma_up (ma_up (ma_up (ma_up (ma_up (I 129) 0 ((I 126) 2)) 1 0) 2 (-((I 126) 0))) 3 0) 4 0) 5 ((I 126) 2)) 6 (-((I 126) 1))) 7 0) 8 0) 9 0) 10 (-((I 126) 3))) 11 ((I 126) 2))) 130 (ma_up (ma_up (ma_up (ma_up (I 130) 0 0) 1 0) 2 (-((I 126) 3))) 3 ((I 126) 2))) 131 (ma_up (ma_up (ma_up (ma_up (I 131) 0 0) 1 ((I 126) 2)) 2 (-((I 126) 1))) 3 0))) dX8_layCut_148 rfl hs_130 rfl (Nat.le_of_ble_eq_true rfl) (Nat.le_of_ble_eq_true rfl) ((congrArg (ma_up _ 130) ((ma_up_comm _ (show 1 ≠ 3 from (by decide)) _ _).trans (congrArg (fun f => ma_up f 3 _) ((ma_up_comm _ (show 1 ≠ 2 from (by decide)) _ _).trans (congrArg (fun f => ma_up f 2 _) (ma_up_up _ _ _ _)))))).trans ((ma_up_comm _ (show 130 ≠ 131 from (by decide)) _ _).trans (congrArg (fun f => ma_up f 131 _) (ma_up_up _ _ _ _)))) ?_
        refine ev_aload_n (pc' := 150) (i := 0) dX8_layCut_149 rfl rfl rfl ?_
        refine ev_getR (pc' := 153) fo_X8_61 dX8_layCut_150 rfl hs_115 rfl rf_115_22 ?_
        refine ev_iload (pc' := 155) dX8_layCut_153 rfl rfl ?_
        refine ev_aload_n (pc' := 156) (i := 0) dX8_layCut_155 rfl rfl rfl ?_
        refine ev_getR (pc' := 159) fo_X8_55 dX8_layCut_156 rfl hs_115 rfl rf_115_20 ?_
        refine ev_iconst (pc' := 160) (v := 4) dX8_layCut_159 rfl ki_4 ?_
        refine ev_iload (pc' := 162) dX8_layCut_160 rfl rfl ?_
        refine ev_imul (pc' := 163) (v := 8) dX8_layCut_162 rfl (by decide) ?_
        refine ev_iload (pc' := 165) dX8_layCut_163 rfl rfl ?_
        refine ev_iadd (pc' := 166) (v := 9) dX8_layCut_165 rfl (by decide) ?_
        refine ev_iald (pc' := 167) (j := 9) (v := 0) dX8_layCut_166 rfl hs_129 rfl (Nat.le_of_ble_eq_true rfl) (Nat.le_of_ble_eq_true rfl) rfl ?_
        refine ev_iast (pc' := 168) (j := 1) (I' := (ma_up (ma_up (ma_up I 129 (ma_up (ma_up (ma_up (ma_up (ma_up (ma_up (ma_up (ma_up (ma_up (ma_up (ma_up (ma_up (I 129) 0 ((I 126) 2)) 1 0) 2 (-((I 126) 0))) 3 0) 4 0) 5 ((I 126) 2)) 6 (-((I 126) 1))) 7 0) 8 0) 9 0) 10 (-((I 126) 3))) 11 ((I 126) 2))) 130 (ma_up (ma_up (ma_up (ma_up (I 130) 0 0) 1 0) 2 (-((I 126) 3))) 3 ((I 126) 2))) 131 (ma_up (ma_up (ma_up (ma_up (I 131) 0 0) 1 0) 2 (-((I 126) 1))) 3 0))) dX8_layCut_167 rfl hs_131 rfl (Nat.le_of_ble_eq_true rfl) (Nat.le_of_ble_eq_true rfl) ((congrArg (ma_up _ 131) ((ma_up_comm _ (show 1 ≠ 3 from (by decide)) _ _).trans (congrArg (fun f => ma_up f 3 _) ((ma_up_comm _ (show 1 ≠ 2 from (by decide)) _ _).trans (congrArg (fun f => ma_up f 2 _) (ma_up_up _ _ _ _)))))).trans (ma_up_up _ _ _ _)) ?_
        refine ev_iinc (pc' := 171) (v := 2) (lv' := [some (.ref 115), some (.int (nI q)), some (.int 2), some (.int 3), some (.int 2), some (.int 2), some (.int 2)]) dX8_layCut_168 rfl rfl (by decide) (Nat.le_of_ble_eq_true rfl) rfl rfl ?_
        refine ev_goto (tgt := 124) dX8_layCut_171 rfl ?_
        refine ev_iload (pc' := 126) dX8_layCut_124 rfl rfl ?_
        refine ev_iconst (pc' := 127) (v := 4) dX8_layCut_126 rfl ki_4 ?_
        refine ev_icmp_ge (tgt := 174) (pc' := 130) dX8_layCut_127 rfl rfl (fun h => absurd h (by decide)) (fun _ => ?_)
        refine ev_aload_n (pc' := 131) (i := 0) dX8_layCut_130 rfl rfl rfl ?_
        refine ev_getR (pc' := 134) fo_X8_58 dX8_layCut_131 rfl hs_115 rfl rf_115_21 ?_
        refine ev_iload (pc' := 136) dX8_layCut_134 rfl rfl ?_
        refine ev_aload_n (pc' := 137) (i := 0) dX8_layCut_136 rfl rfl rfl ?_
        refine ev_getR (pc' := 140) fo_X8_55 dX8_layCut_137 rfl hs_115 rfl rf_115_20 ?_
        refine ev_iconst (pc' := 141) (v := 4) dX8_layCut_140 rfl ki_4 ?_
        refine ev_iload (pc' := 143) dX8_layCut_141 rfl rfl ?_
        refine ev_imul (pc' := 144) (v := 8) dX8_layCut_143 rfl (by decide) ?_
        refine ev_iload (pc' := 146) dX8_layCut_144 rfl rfl ?_
        refine ev_iadd (pc' := 147) (v := 10) dX8_layCut_146 rfl (by decide) ?_
        refine ev_iald (pc' := 148) (j := 10) (v := -((I 126) 3)) dX8_layCut_147 rfl hs_129 rfl (Nat.le_of_ble_eq_true rfl) (Nat.le_of_ble_eq_true rfl) rfl ?_
        refine ev_iast (pc' := 149) (j := 2) (I' := (ma_up (ma_up (ma_up I 129 (ma_up (ma_up (ma_up (ma_up (ma_up (ma_up (ma_up (ma_up (ma_up (ma_up (ma_up (ma_up (I 129) 0 ((I 126) 2)) 1 0) 2 (-((I 126) 0))) 3 0) 4 0) 5 ((I 126) 2)) 6 (-((I 126) 1))) 7 0) 8 0) 9 0) 10 (-((I 126) 3))) 11 ((I 126) 2))) 130 (ma_up (ma_up (ma_up (ma_up (I 130) 0 0) 1 0) 2 (-((I 126) 3))) 3 ((I 126) 2))) 131 (ma_up (ma_up (ma_up (ma_up (I 131) 0 0) 1 0) 2 (-((I 126) 1))) 3 0))) dX8_layCut_148 rfl hs_130 rfl (Nat.le_of_ble_eq_true rfl) (Nat.le_of_ble_eq_true rfl) ((congrArg (ma_up _ 130) ((ma_up_comm _ (show 2 ≠ 3 from (by decide)) _ _).trans (congrArg (fun f => ma_up f 3 _) (ma_up_up _ _ _ _)))).trans ((ma_up_comm _ (show 130 ≠ 131 from (by decide)) _ _).trans (congrArg (fun f => ma_up f 131 _) (ma_up_up _ _ _ _)))) ?_
        refine ev_aload_n (pc' := 150) (i := 0) dX8_layCut_149 rfl rfl rfl ?_
        refine ev_getR (pc' := 153) fo_X8_61 dX8_layCut_150 rfl hs_115 rfl rf_115_22 ?_
        refine ev_iload (pc' := 155) dX8_layCut_153 rfl rfl ?_
        refine ev_aload_n (pc' := 156) (i := 0) dX8_layCut_155 rfl rfl rfl ?_
        refine ev_getR (pc' := 159) fo_X8_55 dX8_layCut_156 rfl hs_115 rfl rf_115_20 ?_
        refine ev_iconst (pc' := 160) (v := 4) dX8_layCut_159 rfl ki_4 ?_
        refine ev_iload (pc' := 162) dX8_layCut_160 rfl rfl ?_
        refine ev_imul (pc' := 163) (v := 8) dX8_layCut_162 rfl (by decide) ?_
        refine ev_iload (pc' := 165) dX8_layCut_163 rfl rfl ?_
        refine ev_iadd (pc' := 166) (v := 10) dX8_layCut_165 rfl (by decide) ?_
        refine ev_iald (pc' := 167) (j := 10) (v := -((I 126) 3)) dX8_layCut_166 rfl hs_129 rfl (Nat.le_of_ble_eq_true rfl) (Nat.le_of_ble_eq_true rfl) rfl ?_
        refine ev_iast (pc' := 168) (j := 2) (I' := (ma_up (ma_up (ma_up I 129 (ma_up (ma_up (ma_up (ma_up (ma_up (ma_up (ma_up (ma_up (ma_up (ma_up (ma_up (ma_up (I 129) 0 ((I 126) 2)) 1 0) 2 (-((I 126) 0))) 3 0) 4 0) 5 ((I 126) 2)) 6 (-((I 126) 1))) 7 0) 8 0) 9 0) 10 (-((I 126) 3))) 11 ((I 126) 2))) 130 (ma_up (ma_up (ma_up (ma_up (I 130) 0 0) 1 0) 2 (-((I 126) 3))) 3 ((I 126) 2))) 131 (ma_up (ma_up (ma_up (ma_up (I 131) 0 0) 1 0) 2 (-((I 126) 3))) 3 0))) dX8_layCut_167 rfl hs_131 rfl (Nat.le_of_ble_eq_true rfl) (Nat.le_of_ble_eq_true rfl) ((congrArg (ma_up _ 131) ((ma_up_comm _ (show 2 ≠ 3 from (by decide)) _ _).trans (congrArg (fun f => ma_up f 3 _) (ma_up_up _ _ _ _)))).trans (ma_up_up _ _ _ _)) ?_
        refine ev_iinc (pc' := 171) (v := 3) (lv' := [some (.ref 115), some (.int (nI q)), some (.int 2), some (.int 3), some (.int 2), some (.int 2), some (.int 3)]) dX8_layCut_168 rfl rfl (by decide) (Nat.le_of_ble_eq_true rfl) rfl rfl ?_
        refine ev_goto (tgt := 124) dX8_layCut_171 rfl ?_
        refine ev_iload (pc' := 126) dX8_layCut_124 rfl rfl ?_
        refine ev_iconst (pc' := 127) (v := 4) dX8_layCut_126 rfl ki_4 ?_
        refine ev_icmp_ge (tgt := 174) (pc' := 130) dX8_layCut_127 rfl rfl (fun h => absurd h (by decide)) (fun _ => ?_)
        refine ev_aload_n (pc' := 131) (i := 0) dX8_layCut_130 rfl rfl rfl ?_
        refine ev_getR (pc' := 134) fo_X8_58 dX8_layCut_131 rfl hs_115 rfl rf_115_21 ?_
        refine ev_iload (pc' := 136) dX8_layCut_134 rfl rfl ?_
        refine ev_aload_n (pc' := 137) (i := 0) dX8_layCut_136 rfl rfl rfl ?_
        refine ev_getR (pc' := 140) fo_X8_55 dX8_layCut_137 rfl hs_115 rfl rf_115_20 ?_
        refine ev_iconst (pc' := 141) (v := 4) dX8_layCut_140 rfl ki_4 ?_
        refine ev_iload (pc' := 143) dX8_layCut_141 rfl rfl ?_
        refine ev_imul (pc' := 144) (v := 8) dX8_layCut_143 rfl (by decide) ?_
        refine ev_iload (pc' := 146) dX8_layCut_144 rfl rfl ?_
        refine ev_iadd (pc' := 147) (v := 11) dX8_layCut_146 rfl (by decide) ?_
        refine ev_iald (pc' := 148) (j := 11) (v := (I 126) 2) dX8_layCut_147 rfl hs_129 rfl (Nat.le_of_ble_eq_true rfl) (Nat.le_of_ble_eq_true rfl) rfl ?_
        refine ev_iast (pc' := 149) (j := 3) (I' := (ma_up (ma_up (ma_up I 129 (ma_up (ma_up (ma_up (ma_up (ma_up (ma_up (ma_up (ma_up (ma_up (ma_up (ma_up (ma_up (I 129) 0 ((I 126) 2)) 1 0) 2 (-((I 126) 0))) 3 0) 4 0) 5 ((I 126) 2)) 6 (-((I 126) 1))) 7 0) 8 0) 9 0) 10 (-((I 126) 3))) 11 ((I 126) 2))) 130 (ma_up (ma_up (ma_up (ma_up (I 130) 0 0) 1 0) 2 (-((I 126) 3))) 3 ((I 126) 2))) 131 (ma_up (ma_up (ma_up (ma_up (I 131) 0 0) 1 0) 2 (-((I 126) 3))) 3 0))) dX8_layCut_148 rfl hs_130 rfl (Nat.le_of_ble_eq_true rfl) (Nat.le_of_ble_eq_true rfl) ((congrArg (ma_up _ 130) (ma_up_up _ _ _ _)).trans ((ma_up_comm _ (show 130 ≠ 131 from (by decide)) _ _).trans (congrArg (fun f => ma_up f 131 _) (ma_up_up _ _ _ _)))) ?_
        refine ev_aload_n (pc' := 150) (i := 0) dX8_layCut_149 rfl rfl rfl ?_
        refine ev_getR (pc' := 153) fo_X8_61 dX8_layCut_150 rfl hs_115 rfl rf_115_22 ?_
        refine ev_iload (pc' := 155) dX8_layCut_153 rfl rfl ?_
        refine ev_aload_n (pc' := 156) (i := 0) dX8_layCut_155 rfl rfl rfl ?_
        refine ev_getR (pc' := 159) fo_X8_55 dX8_layCut_156 rfl hs_115 rfl rf_115_20 ?_
        refine ev_iconst (pc' := 160) (v := 4) dX8_layCut_159 rfl ki_4 ?_
        refine ev_iload (pc' := 162) dX8_layCut_160 rfl rfl ?_
        refine ev_imul (pc' := 163) (v := 8) dX8_layCut_162 rfl (by decide) ?_
        refine ev_iload (pc' := 165) dX8_layCut_163 rfl rfl ?_
        refine ev_iadd (pc' := 166) (v := 11) dX8_layCut_165 rfl (by decide) ?_
        refine ev_iald (pc' := 167) (j := 11) (v := (I 126) 2) dX8_layCut_166 rfl hs_129 rfl (Nat.le_of_ble_eq_true rfl) (Nat.le_of_ble_eq_true rfl) rfl ?_
        refine ev_iast (pc' := 168) (j := 3) (I' := (ma_up (ma_up (ma_up I 129 (ma_up (ma_up (ma_up (ma_up (ma_up (ma_up (ma_up (ma_up (ma_up (ma_up (ma_up (ma_up (I 129) 0 ((I 126) 2)) 1 0) 2 (-((I 126) 0))) 3 0) 4 0) 5 ((I 126) 2)) 6 (-((I 126) 1))) 7 0) 8 0) 9 0) 10 (-((I 126) 3))) 11 ((I 126) 2))) 130 (ma_up (ma_up (ma_up (ma_up (I 130) 0 0) 1 0) 2 (-((I 126) 3))) 3 ((I 126) 2))) 131 (ma_up (ma_up (ma_up (ma_up (I 131) 0 0) 1 0) 2 (-((I 126) 3))) 3 ((I 126) 2)))) dX8_layCut_167 rfl hs_131 rfl (Nat.le_of_ble_eq_true rfl) (Nat.le_of_ble_eq_true rfl) ((congrArg (ma_up _ 131) (ma_up_up _ _ _ _)).trans (ma_up_up _ _ _ _)) ?_
        refine ev_iinc (pc' := 171) (v := 4) (lv' := [some (.ref 115), some (.int (nI q)), some (.int 2), some (.int 3), some (.int 2), some (.int 2), some (.int 4)]) dX8_layCut_168 rfl rfl (by decide) (Nat.le_of_ble_eq_true rfl) rfl rfl ?_
        refine ev_goto (tgt := 124) dX8_layCut_171 rfl ?_
        refine ev_iload (pc' := 126) dX8_layCut_124 rfl rfl ?_
        refine ev_iconst (pc' := 127) (v := 4) dX8_layCut_126 rfl ki_4 ?_
        refine ev_icmp_ge (tgt := 174) (pc' := 130) dX8_layCut_127 rfl rfl (fun _ => ?_) (fun h => absurd (by decide) h)
        refine ev_aload_n (pc' := 175) (i := 0) dX8_layCut_174 rfl rfl rfl ?_
        refine ev_getR (pc' := 178) fo_X8_26 dX8_layCut_175 rfl hs_115 rfl rf_115_8 ?_
        refine ev_iconst (pc' := 179) (v := 4) dX8_layCut_178 rfl ki_4 ?_
        refine ev_iload (pc' := 181) dX8_layCut_179 rfl rfl ?_
        refine ev_imul (pc' := 182) (v := 8) dX8_layCut_181 rfl (by decide) ?_
        refine ev_iload (pc' := 184) dX8_layCut_182 rfl rfl ?_
        refine ev_iadd (pc' := 185) (v := 10) dX8_layCut_184 rfl (by decide) ?_
        refine ev_aload_n (pc' := 186) (i := 0) dX8_layCut_185 rfl rfl rfl ?_
        refine ev_iload_n (pc' := 187) (i := 1) dX8_layCut_186 rfl rfl rfl ?_
        refine ev_aload_n (pc' := 188) (i := 0) dX8_layCut_187 rfl rfl rfl ?_
        refine ev_getR (pc' := 191) fo_X8_58 dX8_layCut_188 rfl hs_115 rfl rf_115_21 ?_
        refine ev_aload_n (pc' := 192) (i := 0) dX8_layCut_191 rfl rfl rfl ?_
        refine ev_getR (pc' := 195) fo_X8_61 dX8_layCut_192 rfl hs_115 rfl rf_115_22 ?_
        refine ev_callV (pc' := 198) (rm' := rX8_both) (b := 115) (av := [.int (nI q), .ref 130, .ref 131]) (rest := [.int 10, .ref 120]) co_X8_241 ci_X8_both cv_X8_both dX8_layCut_195 rfl hs_115 hb_X8 rfl rfl (Nat.le_of_ble_eq_true rfl) ⟨(Nat.le_of_ble_eq_true rfl), (Nat.le_of_ble_eq_true rfl)⟩ ⟨(Nat.le_of_ble_eq_true rfl), (Nat.le_of_ble_eq_true rfl)⟩ ?_
        refine t_X8_both q 130 131 hq hs_130 hs_131 ?_
        refine ev_eqi (w := mBo (I 123) (mSn 2 (I 126) 2) (mSn 2 (I 126) 2) q) rfl ?_
        refine ev_i2l (pc' := 199) (v := Int32.toInt64 (mBo (I 123) (mSn 2 (I 126) 2) (mSn 2 (I 126) 2) q)) dX8_layCut_198 rfl rfl ?_
        refine ev_last (pc' := 200) (j := 10) (L' := (ma_up L 120 (ma_up (ma_up (ma_up (ma_up (ma_up (ma_up (ma_up (ma_up (ma_up (L 120) 0 (Int32.toInt64 (mBo (I 123) (mSn 2 (I 126) 0) (mSn 2 (I 126) 0) q))) 1 (Int32.toInt64 (mBo (I 123) (mSn 2 (I 126) 0) (mSn 2 (I 126) 1) q))) 2 (Int32.toInt64 (mBo (I 123) (mSn 2 (I 126) 0) (mSn 2 (I 126) 2) q))) 4 (Int32.toInt64 (mBo (I 123) (mSn 2 (I 126) 1) (mSn 2 (I 126) 0) q))) 5 (Int32.toInt64 (mBo (I 123) (mSn 2 (I 126) 1) (mSn 2 (I 126) 1) q))) 6 (Int32.toInt64 (mBo (I 123) (mSn 2 (I 126) 1) (mSn 2 (I 126) 2) q))) 8 (Int32.toInt64 (mBo (I 123) (mSn 2 (I 126) 2) (mSn 2 (I 126) 0) q))) 9 (Int32.toInt64 (mBo (I 123) (mSn 2 (I 126) 2) (mSn 2 (I 126) 1) q))) 10 (Int32.toInt64 (mBo (I 123) (mSn 2 (I 126) 2) (mSn 2 (I 126) 2) q))))) dX8_layCut_199 rfl hs_120 rfl (Nat.le_of_ble_eq_true rfl) (Nat.le_of_ble_eq_true rfl) (ma_up_up _ _ _ _) ?_
        refine ev_iinc (pc' := 203) (v := 3) (lv' := [some (.ref 115), some (.int (nI q)), some (.int 2), some (.int 3), some (.int 2), some (.int 3), some (.int 4)]) dX8_layCut_200 rfl rfl (by decide) (Nat.le_of_ble_eq_true rfl) rfl rfl ?_
        refine ev_goto (tgt := 115) dX8_layCut_203 rfl ?_
        refine ev_iload (pc' := 117) dX8_layCut_115 rfl rfl ?_
        refine ev_iconst (pc' := 118) (v := 3) dX8_layCut_117 rfl ki_3 ?_
        refine ev_icmp_ge (tgt := 206) (pc' := 121) dX8_layCut_118 rfl rfl (fun _ => ?_) (fun h => absurd (by decide) h)
        refine ev_iinc (pc' := 209) (v := 3) (lv' := [some (.ref 115), some (.int (nI q)), some (.int 2), some (.int 3), some (.int 3), some (.int 3), some (.int 4)]) dX8_layCut_206 rfl rfl (by decide) (Nat.le_of_ble_eq_true rfl) rfl rfl ?_
        refine ev_goto (tgt := 106) dX8_layCut_209 rfl ?_
        refine ev_iload (pc' := 108) dX8_layCut_106 rfl rfl ?_
        refine ev_iconst (pc' := 109) (v := 3) dX8_layCut_108 rfl ki_3 ?_
        refine ev_icmp_ge (tgt := 212) (pc' := 112) dX8_layCut_109 rfl rfl (fun _ => ?_) (fun h => absurd (by decide) h)
        refine ev_aload_n (pc' := 213) (i := 0) dX8_layCut_212 rfl rfl rfl ?_
        refine ev_callV (pc' := 216) (rm' := rX8_layThree) (b := 115) (av := []) (rest := []) co_X8_191 ci_X8_layThree cv_X8_layThree dX8_layCut_213 rfl hs_115 hb_X8 rfl rfl (Nat.le_of_ble_eq_true rfl) ⟨(Nat.le_of_ble_eq_true rfl), (Nat.le_of_ble_eq_true rfl)⟩ ⟨(Nat.le_of_ble_eq_true rfl), (Nat.le_of_ble_eq_true rfl)⟩ ?_
        refine f_X8_layThree (fun J9 f1 f2 f3 => ?_)
        have f1 : J9 115 9 = mTA (mCu (I 123) q 2 (I 126)) := f1
        have f2 : J9 115 10 = mTB (mCu (I 123) q 2 (I 126)) := f2
        refine ev_vret dX8_layCut_216 rfl ⟨Nat.le_refl _, Nat.le_refl _⟩ ?_
        exact k0 2 J9 _ (by omega) c3 (pt_all (pt_all (fun j hj => absurd hj (Nat.not_lt_zero j)) c1) c2) f1 f2 ((((((mSx.rf (I := I)).le (A' := [129, 130, 131]) (B' := []) (fun _ h => absurd h List.not_mem_nil) (fun _ h => absurd h List.not_mem_nil)).up (by simp) (by decide)).up (by simp) (by decide)).up (by simp) (by decide)).trans f3) (mSl.up (mSl.rf.le (fun _ h => absurd h List.not_mem_nil)) List.mem_cons_self)
      · refine ev_iinc (pc' := 14) (v := 3) (lv' := [some (.ref 115), some (.int (nI q)), some (.int 3), none, none, none, none]) dX8_layCut_11 rfl rfl (by decide) (Nat.le_of_ble_eq_true rfl) rfl rfl ?_
        refine ev_goto (tgt := 2) dX8_layCut_14 rfl ?_
        refine ev_aload_n (pc' := 3) (i := 0) dX8_layCut_2 rfl rfl rfl ?_
        refine ev_getR (pc' := 6) fo_X8_46 dX8_layCut_3 rfl hs_115 rfl rf_115_16 ?_
        refine ev_iload_n (pc' := 7) (i := 2) dX8_layCut_6 rfl rfl rfl ?_
        refine ev_iald (pc' := 8) (j := 3) (v := (I 126) 3) dX8_layCut_7 rfl hs_126 rfl (Nat.le_of_ble_eq_true rfl) (Nat.le_of_ble_eq_true rfl) rfl ?_
        refine ev_if_ne (tgt := 17) (pc' := 11) dX8_layCut_8 rfl rfl (fun c4 => ?_) (fun c4 => ?_)
        · refine ev_iconst (pc' := 18) (v := 0) dX8_layCut_17 rfl ki_0 ?_
          refine ev_istore_n (pc' := 19) (i := 3) (lv' := [some (.ref 115), some (.int (nI q)), some (.int 3), some (.int 0), none, none, none]) dX8_layCut_18 rfl rfl (Nat.le_of_ble_eq_true rfl) rfl rfl ?_
          refine ev_iconst (pc' := 20) (v := 0) dX8_layCut_19 rfl ki_0 ?_
          refine ev_istore (pc' := 22) (lv' := [some (.ref 115), some (.int (nI q)), some (.int 3), some (.int 0), some (.int 0), none, none]) dX8_layCut_20 rfl (Nat.le_of_ble_eq_true rfl) rfl rfl ?_
          refine ev_iload (pc' := 24) dX8_layCut_22 rfl rfl ?_
          refine ev_iconst (pc' := 25) (v := 4) dX8_layCut_24 rfl ki_4 ?_
          refine ev_icmp_ge (tgt := 103) (pc' := 28) dX8_layCut_25 rfl rfl (fun h => absurd h (by decide)) (fun _ => ?_)
          refine ev_iload (pc' := 30) dX8_layCut_28 rfl rfl ?_
          refine ev_iload_n (pc' := 31) (i := 2) dX8_layCut_30 rfl rfl rfl ?_
          refine ev_icmp_eq (tgt := 97) (pc' := 34) dX8_layCut_31 rfl rfl (fun h => absurd h (by decide)) (fun _ => ?_)
          refine ev_iconst (pc' := 35) (v := 0) dX8_layCut_34 rfl ki_0 ?_
          refine ev_istore (pc' := 37) (lv' := [some (.ref 115), some (.int (nI q)), some (.int 3), some (.int 0), some (.int 0), some (.int 0), none]) dX8_layCut_35 rfl (Nat.le_of_ble_eq_true rfl) rfl rfl ?_
          refine ev_iload (pc' := 39) dX8_layCut_37 rfl rfl ?_
          refine ev_iconst (pc' := 40) (v := 4) dX8_layCut_39 rfl ki_4 ?_
          refine ev_icmp_ge (tgt := 94) (pc' := 43) dX8_layCut_40 rfl rfl (fun h => absurd h (by decide)) (fun _ => ?_)
          refine ev_aload_n (pc' := 44) (i := 0) dX8_layCut_43 rfl rfl rfl ?_
          refine ev_getR (pc' := 47) fo_X8_55 dX8_layCut_44 rfl hs_115 rfl rf_115_20 ?_
          refine ev_iconst (pc' := 48) (v := 4) dX8_layCut_47 rfl ki_4 ?_
          refine ev_iload_n (pc' := 49) (i := 3) dX8_layCut_48 rfl rfl rfl ?_
          refine ev_imul (pc' := 50) (v := 0) dX8_layCut_49 rfl (by decide) ?_
          refine ev_iload (pc' := 52) dX8_layCut_50 rfl rfl ?_
          refine ev_iadd (pc' := 53) (v := 0) dX8_layCut_52 rfl (by decide) ?_
          refine ev_iload (pc' := 55) dX8_layCut_53 rfl rfl ?_
          refine ev_iload (pc' := 57) dX8_layCut_55 rfl rfl ?_
          refine ev_icmp_ne (tgt := 69) (pc' := 60) dX8_layCut_57 rfl rfl (fun h => absurd (by decide) h) (fun _ => ?_)
          refine ev_aload_n (pc' := 61) (i := 0) dX8_layCut_60 rfl rfl rfl ?_
          refine ev_getR (pc' := 64) fo_X8_46 dX8_layCut_61 rfl hs_115 rfl rf_115_16 ?_
          refine ev_iload_n (pc' := 65) (i := 2) dX8_layCut_64 rfl rfl rfl ?_
          refine ev_iald (pc' := 66) (j := 3) (v := (I 126) 3) dX8_layCut_65 rfl hs_126 rfl (Nat.le_of_ble_eq_true rfl) (Nat.le_of_ble_eq_true rfl) rfl ?_
          refine ev_goto (tgt := 87) dX8_layCut_66 rfl ?_
          refine ev_iast (pc' := 88) (j := 0) (I' := (ma_up I 129 (ma_up (I 129) 0 ((I 126) 3)))) dX8_layCut_87 rfl hs_129 rfl (Nat.le_of_ble_eq_true rfl) (Nat.le_of_ble_eq_true rfl) rfl ?_
          refine ev_iinc (pc' := 91) (v := 1) (lv' := [some (.ref 115), some (.int (nI q)), some (.int 3), some (.int 0), some (.int 0), some (.int 1), none]) dX8_layCut_88 rfl rfl (by decide) (Nat.le_of_ble_eq_true rfl) rfl rfl ?_
          refine ev_goto (tgt := 37) dX8_layCut_91 rfl ?_
          refine ev_iload (pc' := 39) dX8_layCut_37 rfl rfl ?_
          refine ev_iconst (pc' := 40) (v := 4) dX8_layCut_39 rfl ki_4 ?_
          refine ev_icmp_ge (tgt := 94) (pc' := 43) dX8_layCut_40 rfl rfl (fun h => absurd h (by decide)) (fun _ => ?_)
          refine ev_aload_n (pc' := 44) (i := 0) dX8_layCut_43 rfl rfl rfl ?_
          refine ev_getR (pc' := 47) fo_X8_55 dX8_layCut_44 rfl hs_115 rfl rf_115_20 ?_
          refine ev_iconst (pc' := 48) (v := 4) dX8_layCut_47 rfl ki_4 ?_
          refine ev_iload_n (pc' := 49) (i := 3) dX8_layCut_48 rfl rfl rfl ?_
          refine ev_imul (pc' := 50) (v := 0) dX8_layCut_49 rfl (by decide) ?_
          refine ev_iload (pc' := 52) dX8_layCut_50 rfl rfl ?_
          refine ev_iadd (pc' := 53) (v := 1) dX8_layCut_52 rfl (by decide) ?_
          refine ev_iload (pc' := 55) dX8_layCut_53 rfl rfl ?_
          refine ev_iload (pc' := 57) dX8_layCut_55 rfl rfl ?_
          refine ev_icmp_ne (tgt := 69) (pc' := 60) dX8_layCut_57 rfl rfl (fun _ => ?_) (fun h => absurd h (by decide))
          refine ev_iload (pc' := 71) dX8_layCut_69 rfl rfl ?_
          refine ev_iload_n (pc' := 72) (i := 2) dX8_layCut_71 rfl rfl rfl ?_
          refine ev_icmp_ne (tgt := 86) (pc' := 75) dX8_layCut_72 rfl rfl (fun _ => ?_) (fun h => absurd h (by decide))
          refine ev_iconst (pc' := 87) (v := 0) dX8_layCut_86 rfl ki_0 ?_
          refine ev_iast (pc' := 88) (j := 1) (I' := (ma_up I 129 (ma_up (ma_up (I 129) 0 ((I 126) 3)) 1 0))) dX8_layCut_87 rfl hs_129 rfl (Nat.le_of_ble_eq_true rfl) (Nat.le_of_ble_eq_true rfl) (ma_up_up _ _ _ _) ?_
          refine ev_iinc (pc' := 91) (v := 2) (lv' := [some (.ref 115), some (.int (nI q)), some (.int 3), some (.int 0), some (.int 0), some (.int 2), none]) dX8_layCut_88 rfl rfl (by decide) (Nat.le_of_ble_eq_true rfl) rfl rfl ?_
          refine ev_goto (tgt := 37) dX8_layCut_91 rfl ?_
          refine ev_iload (pc' := 39) dX8_layCut_37 rfl rfl ?_
          refine ev_iconst (pc' := 40) (v := 4) dX8_layCut_39 rfl ki_4 ?_
          refine ev_icmp_ge (tgt := 94) (pc' := 43) dX8_layCut_40 rfl rfl (fun h => absurd h (by decide)) (fun _ => ?_)
          refine ev_aload_n (pc' := 44) (i := 0) dX8_layCut_43 rfl rfl rfl ?_
          refine ev_getR (pc' := 47) fo_X8_55 dX8_layCut_44 rfl hs_115 rfl rf_115_20 ?_
          refine ev_iconst (pc' := 48) (v := 4) dX8_layCut_47 rfl ki_4 ?_
          refine ev_iload_n (pc' := 49) (i := 3) dX8_layCut_48 rfl rfl rfl ?_
          refine ev_imul (pc' := 50) (v := 0) dX8_layCut_49 rfl (by decide) ?_
          refine ev_iload (pc' := 52) dX8_layCut_50 rfl rfl ?_
          refine ev_iadd (pc' := 53) (v := 2) dX8_layCut_52 rfl (by decide) ?_
          refine ev_iload (pc' := 55) dX8_layCut_53 rfl rfl ?_
          refine ev_iload (pc' := 57) dX8_layCut_55 rfl rfl ?_
          refine ev_icmp_ne (tgt := 69) (pc' := 60) dX8_layCut_57 rfl rfl (fun _ => ?_) (fun h => absurd h (by decide))
          refine ev_iload (pc' := 71) dX8_layCut_69 rfl rfl ?_
          refine ev_iload_n (pc' := 72) (i := 2) dX8_layCut_71 rfl rfl rfl ?_
          refine ev_icmp_ne (tgt := 86) (pc' := 75) dX8_layCut_72 rfl rfl (fun _ => ?_) (fun h => absurd h (by decide))
          refine ev_iconst (pc' := 87) (v := 0) dX8_layCut_86 rfl ki_0 ?_
          refine ev_iast (pc' := 88) (j := 2) (I' := (ma_up I 129 (ma_up (ma_up (ma_up (I 129) 0 ((I 126) 3)) 1 0) 2 0))) dX8_layCut_87 rfl hs_129 rfl (Nat.le_of_ble_eq_true rfl) (Nat.le_of_ble_eq_true rfl) (ma_up_up _ _ _ _) ?_
          refine ev_iinc (pc' := 91) (v := 3) (lv' := [some (.ref 115), some (.int (nI q)), some (.int 3), some (.int 0), some (.int 0), some (.int 3), none]) dX8_layCut_88 rfl rfl (by decide) (Nat.le_of_ble_eq_true rfl) rfl rfl ?_
          refine ev_goto (tgt := 37) dX8_layCut_91 rfl ?_
          refine ev_iload (pc' := 39) dX8_layCut_37 rfl rfl ?_
          refine ev_iconst (pc' := 40) (v := 4) dX8_layCut_39 rfl ki_4 ?_
          refine ev_icmp_ge (tgt := 94) (pc' := 43) dX8_layCut_40 rfl rfl (fun h => absurd h (by decide)) (fun _ => ?_)
          refine ev_aload_n (pc' := 44) (i := 0) dX8_layCut_43 rfl rfl rfl ?_
          refine ev_getR (pc' := 47) fo_X8_55 dX8_layCut_44 rfl hs_115 rfl rf_115_20 ?_
          refine ev_iconst (pc' := 48) (v := 4) dX8_layCut_47 rfl ki_4 ?_
          refine ev_iload_n (pc' := 49) (i := 3) dX8_layCut_48 rfl rfl rfl ?_
          refine ev_imul (pc' := 50) (v := 0) dX8_layCut_49 rfl (by decide) ?_
          refine ev_iload (pc' := 52) dX8_layCut_50 rfl rfl ?_
          refine ev_iadd (pc' := 53) (v := 3) dX8_layCut_52 rfl (by decide) ?_
          refine ev_iload (pc' := 55) dX8_layCut_53 rfl rfl ?_
          refine ev_iload (pc' := 57) dX8_layCut_55 rfl rfl ?_
          refine ev_icmp_ne (tgt := 69) (pc' := 60) dX8_layCut_57 rfl rfl (fun _ => ?_) (fun h => absurd h (by decide))
          refine ev_iload (pc' := 71) dX8_layCut_69 rfl rfl ?_
          refine ev_iload_n (pc' := 72) (i := 2) dX8_layCut_71 rfl rfl rfl ?_
          refine ev_icmp_ne (tgt := 86) (pc' := 75) dX8_layCut_72 rfl rfl (fun h => absurd (by decide) h) (fun _ => ?_)
          refine ev_aload_n (pc' := 76) (i := 0) dX8_layCut_75 rfl rfl rfl ?_
          refine ev_getR (pc' := 79) fo_X8_46 dX8_layCut_76 rfl hs_115 rfl rf_115_16 ?_
          refine ev_iload (pc' := 81) dX8_layCut_79 rfl rfl ?_
          refine ev_iald (pc' := 82) (j := 0) (v := (I 126) 0) dX8_layCut_81 rfl hs_126 rfl (Nat.le_of_ble_eq_true rfl) (Nat.le_of_ble_eq_true rfl) rfl ?_
          refine ev_ineg (pc' := 83) (v := -((I 126) 0)) dX8_layCut_82 rfl rfl ?_
          refine ev_goto (tgt := 87) dX8_layCut_83 rfl ?_
          refine ev_iast (pc' := 88) (j := 3) (I' := (ma_up I 129 (ma_up (ma_up (ma_up (ma_up (I 129) 0 ((I 126) 3)) 1 0) 2 0) 3 (-((I 126) 0))))) dX8_layCut_87 rfl hs_129 rfl (Nat.le_of_ble_eq_true rfl) (Nat.le_of_ble_eq_true rfl) (ma_up_up _ _ _ _) ?_
          refine ev_iinc (pc' := 91) (v := 4) (lv' := [some (.ref 115), some (.int (nI q)), some (.int 3), some (.int 0), some (.int 0), some (.int 4), none]) dX8_layCut_88 rfl rfl (by decide) (Nat.le_of_ble_eq_true rfl) rfl rfl ?_
          refine ev_goto (tgt := 37) dX8_layCut_91 rfl ?_
          refine ev_iload (pc' := 39) dX8_layCut_37 rfl rfl ?_
          refine ev_iconst (pc' := 40) (v := 4) dX8_layCut_39 rfl ki_4 ?_
          refine ev_icmp_ge (tgt := 94) (pc' := 43) dX8_layCut_40 rfl rfl (fun _ => ?_) (fun h => absurd (by decide) h)
          refine ev_iinc (pc' := 97) (v := 1) (lv' := [some (.ref 115), some (.int (nI q)), some (.int 3), some (.int 1), some (.int 0), some (.int 4), none]) dX8_layCut_94 rfl rfl (by decide) (Nat.le_of_ble_eq_true rfl) rfl rfl ?_
          refine ev_iinc (pc' := 100) (v := 1) (lv' := [some (.ref 115), some (.int (nI q)), some (.int 3), some (.int 1), some (.int 1), some (.int 4), none]) dX8_layCut_97 rfl rfl (by decide) (Nat.le_of_ble_eq_true rfl) rfl rfl ?_
          refine ev_goto (tgt := 22) dX8_layCut_100 rfl ?_
          refine ev_iload (pc' := 24) dX8_layCut_22 rfl rfl ?_
          refine ev_iconst (pc' := 25) (v := 4) dX8_layCut_24 rfl ki_4 ?_
          refine ev_icmp_ge (tgt := 103) (pc' := 28) dX8_layCut_25 rfl rfl (fun h => absurd h (by decide)) (fun _ => ?_)
          refine ev_iload (pc' := 30) dX8_layCut_28 rfl rfl ?_
          refine ev_iload_n (pc' := 31) (i := 2) dX8_layCut_30 rfl rfl rfl ?_
          refine ev_icmp_eq (tgt := 97) (pc' := 34) dX8_layCut_31 rfl rfl (fun h => absurd h (by decide)) (fun _ => ?_)
          refine ev_iconst (pc' := 35) (v := 0) dX8_layCut_34 rfl ki_0 ?_
          refine ev_istore (pc' := 37) (lv' := [some (.ref 115), some (.int (nI q)), some (.int 3), some (.int 1), some (.int 1), some (.int 0), none]) dX8_layCut_35 rfl (Nat.le_of_ble_eq_true rfl) rfl rfl ?_
          refine ev_iload (pc' := 39) dX8_layCut_37 rfl rfl ?_
          refine ev_iconst (pc' := 40) (v := 4) dX8_layCut_39 rfl ki_4 ?_
          refine ev_icmp_ge (tgt := 94) (pc' := 43) dX8_layCut_40 rfl rfl (fun h => absurd h (by decide)) (fun _ => ?_)
          refine ev_aload_n (pc' := 44) (i := 0) dX8_layCut_43 rfl rfl rfl ?_
          refine ev_getR (pc' := 47) fo_X8_55 dX8_layCut_44 rfl hs_115 rfl rf_115_20 ?_
          refine ev_iconst (pc' := 48) (v := 4) dX8_layCut_47 rfl ki_4 ?_
          refine ev_iload_n (pc' := 49) (i := 3) dX8_layCut_48 rfl rfl rfl ?_
          refine ev_imul (pc' := 50) (v := 4) dX8_layCut_49 rfl (by decide) ?_
          refine ev_iload (pc' := 52) dX8_layCut_50 rfl rfl ?_
          refine ev_iadd (pc' := 53) (v := 4) dX8_layCut_52 rfl (by decide) ?_
          refine ev_iload (pc' := 55) dX8_layCut_53 rfl rfl ?_
          refine ev_iload (pc' := 57) dX8_layCut_55 rfl rfl ?_
          refine ev_icmp_ne (tgt := 69) (pc' := 60) dX8_layCut_57 rfl rfl (fun _ => ?_) (fun h => absurd h (by decide))
          refine ev_iload (pc' := 71) dX8_layCut_69 rfl rfl ?_
          refine ev_iload_n (pc' := 72) (i := 2) dX8_layCut_71 rfl rfl rfl ?_
          refine ev_icmp_ne (tgt := 86) (pc' := 75) dX8_layCut_72 rfl rfl (fun _ => ?_) (fun h => absurd h (by decide))
          refine ev_iconst (pc' := 87) (v := 0) dX8_layCut_86 rfl ki_0 ?_
          refine ev_iast (pc' := 88) (j := 4) (I' := (ma_up I 129 (ma_up (ma_up (ma_up (ma_up (ma_up (I 129) 0 ((I 126) 3)) 1 0) 2 0) 3 (-((I 126) 0))) 4 0))) dX8_layCut_87 rfl hs_129 rfl (Nat.le_of_ble_eq_true rfl) (Nat.le_of_ble_eq_true rfl) (ma_up_up _ _ _ _) ?_
          refine ev_iinc (pc' := 91) (v := 1) (lv' := [some (.ref 115), some (.int (nI q)), some (.int 3), some (.int 1), some (.int 1), some (.int 1), none]) dX8_layCut_88 rfl rfl (by decide) (Nat.le_of_ble_eq_true rfl) rfl rfl ?_
          refine ev_goto (tgt := 37) dX8_layCut_91 rfl ?_
          refine ev_iload (pc' := 39) dX8_layCut_37 rfl rfl ?_
          refine ev_iconst (pc' := 40) (v := 4) dX8_layCut_39 rfl ki_4 ?_
          refine ev_icmp_ge (tgt := 94) (pc' := 43) dX8_layCut_40 rfl rfl (fun h => absurd h (by decide)) (fun _ => ?_)
          refine ev_aload_n (pc' := 44) (i := 0) dX8_layCut_43 rfl rfl rfl ?_
          refine ev_getR (pc' := 47) fo_X8_55 dX8_layCut_44 rfl hs_115 rfl rf_115_20 ?_
          refine ev_iconst (pc' := 48) (v := 4) dX8_layCut_47 rfl ki_4 ?_
          refine ev_iload_n (pc' := 49) (i := 3) dX8_layCut_48 rfl rfl rfl ?_
          refine ev_imul (pc' := 50) (v := 4) dX8_layCut_49 rfl (by decide) ?_
          refine ev_iload (pc' := 52) dX8_layCut_50 rfl rfl ?_
          refine ev_iadd (pc' := 53) (v := 5) dX8_layCut_52 rfl (by decide) ?_
          refine ev_iload (pc' := 55) dX8_layCut_53 rfl rfl ?_
          refine ev_iload (pc' := 57) dX8_layCut_55 rfl rfl ?_
          refine ev_icmp_ne (tgt := 69) (pc' := 60) dX8_layCut_57 rfl rfl (fun h => absurd (by decide) h) (fun _ => ?_)
          refine ev_aload_n (pc' := 61) (i := 0) dX8_layCut_60 rfl rfl rfl ?_
          refine ev_getR (pc' := 64) fo_X8_46 dX8_layCut_61 rfl hs_115 rfl rf_115_16 ?_
          refine ev_iload_n (pc' := 65) (i := 2) dX8_layCut_64 rfl rfl rfl ?_
          refine ev_iald (pc' := 66) (j := 3) (v := (I 126) 3) dX8_layCut_65 rfl hs_126 rfl (Nat.le_of_ble_eq_true rfl) (Nat.le_of_ble_eq_true rfl) rfl ?_
          refine ev_goto (tgt := 87) dX8_layCut_66 rfl ?_
          refine ev_iast (pc' := 88) (j := 5) (I' := (ma_up I 129 (ma_up (ma_up (ma_up (ma_up (ma_up (ma_up (I 129) 0 ((I 126) 3)) 1 0) 2 0) 3 (-((I 126) 0))) 4 0) 5 ((I 126) 3)))) dX8_layCut_87 rfl hs_129 rfl (Nat.le_of_ble_eq_true rfl) (Nat.le_of_ble_eq_true rfl) (ma_up_up _ _ _ _) ?_
          refine ev_iinc (pc' := 91) (v := 2) (lv' := [some (.ref 115), some (.int (nI q)), some (.int 3), some (.int 1), some (.int 1), some (.int 2), none]) dX8_layCut_88 rfl rfl (by decide) (Nat.le_of_ble_eq_true rfl) rfl rfl ?_
          refine ev_goto (tgt := 37) dX8_layCut_91 rfl ?_
          refine ev_iload (pc' := 39) dX8_layCut_37 rfl rfl ?_
          refine ev_iconst (pc' := 40) (v := 4) dX8_layCut_39 rfl ki_4 ?_
          refine ev_icmp_ge (tgt := 94) (pc' := 43) dX8_layCut_40 rfl rfl (fun h => absurd h (by decide)) (fun _ => ?_)
          refine ev_aload_n (pc' := 44) (i := 0) dX8_layCut_43 rfl rfl rfl ?_
          refine ev_getR (pc' := 47) fo_X8_55 dX8_layCut_44 rfl hs_115 rfl rf_115_20 ?_
          refine ev_iconst (pc' := 48) (v := 4) dX8_layCut_47 rfl ki_4 ?_
          refine ev_iload_n (pc' := 49) (i := 3) dX8_layCut_48 rfl rfl rfl ?_
          refine ev_imul (pc' := 50) (v := 4) dX8_layCut_49 rfl (by decide) ?_
          refine ev_iload (pc' := 52) dX8_layCut_50 rfl rfl ?_
          refine ev_iadd (pc' := 53) (v := 6) dX8_layCut_52 rfl (by decide) ?_
          refine ev_iload (pc' := 55) dX8_layCut_53 rfl rfl ?_
          refine ev_iload (pc' := 57) dX8_layCut_55 rfl rfl ?_
          refine ev_icmp_ne (tgt := 69) (pc' := 60) dX8_layCut_57 rfl rfl (fun _ => ?_) (fun h => absurd h (by decide))
          refine ev_iload (pc' := 71) dX8_layCut_69 rfl rfl ?_
          refine ev_iload_n (pc' := 72) (i := 2) dX8_layCut_71 rfl rfl rfl ?_
          refine ev_icmp_ne (tgt := 86) (pc' := 75) dX8_layCut_72 rfl rfl (fun _ => ?_) (fun h => absurd h (by decide))
          refine ev_iconst (pc' := 87) (v := 0) dX8_layCut_86 rfl ki_0 ?_
          refine ev_iast (pc' := 88) (j := 6) (I' := (ma_up I 129 (ma_up (ma_up (ma_up (ma_up (ma_up (ma_up (ma_up (I 129) 0 ((I 126) 3)) 1 0) 2 0) 3 (-((I 126) 0))) 4 0) 5 ((I 126) 3)) 6 0))) dX8_layCut_87 rfl hs_129 rfl (Nat.le_of_ble_eq_true rfl) (Nat.le_of_ble_eq_true rfl) (ma_up_up _ _ _ _) ?_
          refine ev_iinc (pc' := 91) (v := 3) (lv' := [some (.ref 115), some (.int (nI q)), some (.int 3), some (.int 1), some (.int 1), some (.int 3), none]) dX8_layCut_88 rfl rfl (by decide) (Nat.le_of_ble_eq_true rfl) rfl rfl ?_
          refine ev_goto (tgt := 37) dX8_layCut_91 rfl ?_
          refine ev_iload (pc' := 39) dX8_layCut_37 rfl rfl ?_
          refine ev_iconst (pc' := 40) (v := 4) dX8_layCut_39 rfl ki_4 ?_
          refine ev_icmp_ge (tgt := 94) (pc' := 43) dX8_layCut_40 rfl rfl (fun h => absurd h (by decide)) (fun _ => ?_)
          refine ev_aload_n (pc' := 44) (i := 0) dX8_layCut_43 rfl rfl rfl ?_
          refine ev_getR (pc' := 47) fo_X8_55 dX8_layCut_44 rfl hs_115 rfl rf_115_20 ?_
          refine ev_iconst (pc' := 48) (v := 4) dX8_layCut_47 rfl ki_4 ?_
          refine ev_iload_n (pc' := 49) (i := 3) dX8_layCut_48 rfl rfl rfl ?_
          refine ev_imul (pc' := 50) (v := 4) dX8_layCut_49 rfl (by decide) ?_
          refine ev_iload (pc' := 52) dX8_layCut_50 rfl rfl ?_
          refine ev_iadd (pc' := 53) (v := 7) dX8_layCut_52 rfl (by decide) ?_
          refine ev_iload (pc' := 55) dX8_layCut_53 rfl rfl ?_
          refine ev_iload (pc' := 57) dX8_layCut_55 rfl rfl ?_
          refine ev_icmp_ne (tgt := 69) (pc' := 60) dX8_layCut_57 rfl rfl (fun _ => ?_) (fun h => absurd h (by decide))
          refine ev_iload (pc' := 71) dX8_layCut_69 rfl rfl ?_
          refine ev_iload_n (pc' := 72) (i := 2) dX8_layCut_71 rfl rfl rfl ?_
          refine ev_icmp_ne (tgt := 86) (pc' := 75) dX8_layCut_72 rfl rfl (fun h => absurd (by decide) h) (fun _ => ?_)
          refine ev_aload_n (pc' := 76) (i := 0) dX8_layCut_75 rfl rfl rfl ?_
          refine ev_getR (pc' := 79) fo_X8_46 dX8_layCut_76 rfl hs_115 rfl rf_115_16 ?_
          refine ev_iload (pc' := 81) dX8_layCut_79 rfl rfl ?_
          refine ev_iald (pc' := 82) (j := 1) (v := (I 126) 1) dX8_layCut_81 rfl hs_126 rfl (Nat.le_of_ble_eq_true rfl) (Nat.le_of_ble_eq_true rfl) rfl ?_
          refine ev_ineg (pc' := 83) (v := -((I 126) 1)) dX8_layCut_82 rfl rfl ?_
          refine ev_goto (tgt := 87) dX8_layCut_83 rfl ?_
          refine ev_iast (pc' := 88) (j := 7) (I' := (ma_up I 129 (ma_up (ma_up (ma_up (ma_up (ma_up (ma_up (ma_up (ma_up (I 129) 0 ((I 126) 3)) 1 0) 2 0) 3 (-((I 126) 0))) 4 0) 5 ((I 126) 3)) 6 0) 7 (-((I 126) 1))))) dX8_layCut_87 rfl hs_129 rfl (Nat.le_of_ble_eq_true rfl) (Nat.le_of_ble_eq_true rfl) (ma_up_up _ _ _ _) ?_
          refine ev_iinc (pc' := 91) (v := 4) (lv' := [some (.ref 115), some (.int (nI q)), some (.int 3), some (.int 1), some (.int 1), some (.int 4), none]) dX8_layCut_88 rfl rfl (by decide) (Nat.le_of_ble_eq_true rfl) rfl rfl ?_
          refine ev_goto (tgt := 37) dX8_layCut_91 rfl ?_
          refine ev_iload (pc' := 39) dX8_layCut_37 rfl rfl ?_
          refine ev_iconst (pc' := 40) (v := 4) dX8_layCut_39 rfl ki_4 ?_
          refine ev_icmp_ge (tgt := 94) (pc' := 43) dX8_layCut_40 rfl rfl (fun _ => ?_) (fun h => absurd (by decide) h)
          refine ev_iinc (pc' := 97) (v := 2) (lv' := [some (.ref 115), some (.int (nI q)), some (.int 3), some (.int 2), some (.int 1), some (.int 4), none]) dX8_layCut_94 rfl rfl (by decide) (Nat.le_of_ble_eq_true rfl) rfl rfl ?_
          refine ev_iinc (pc' := 100) (v := 2) (lv' := [some (.ref 115), some (.int (nI q)), some (.int 3), some (.int 2), some (.int 2), some (.int 4), none]) dX8_layCut_97 rfl rfl (by decide) (Nat.le_of_ble_eq_true rfl) rfl rfl ?_
          refine ev_goto (tgt := 22) dX8_layCut_100 rfl ?_
          refine ev_iload (pc' := 24) dX8_layCut_22 rfl rfl ?_
          refine ev_iconst (pc' := 25) (v := 4) dX8_layCut_24 rfl ki_4 ?_
          refine ev_icmp_ge (tgt := 103) (pc' := 28) dX8_layCut_25 rfl rfl (fun h => absurd h (by decide)) (fun _ => ?_)
          refine ev_iload (pc' := 30) dX8_layCut_28 rfl rfl ?_
          refine ev_iload_n (pc' := 31) (i := 2) dX8_layCut_30 rfl rfl rfl ?_
          refine ev_icmp_eq (tgt := 97) (pc' := 34) dX8_layCut_31 rfl rfl (fun h => absurd h (by decide)) (fun _ => ?_)
          refine ev_iconst (pc' := 35) (v := 0) dX8_layCut_34 rfl ki_0 ?_
          refine ev_istore (pc' := 37) (lv' := [some (.ref 115), some (.int (nI q)), some (.int 3), some (.int 2), some (.int 2), some (.int 0), none]) dX8_layCut_35 rfl (Nat.le_of_ble_eq_true rfl) rfl rfl ?_
          refine ev_iload (pc' := 39) dX8_layCut_37 rfl rfl ?_
          refine ev_iconst (pc' := 40) (v := 4) dX8_layCut_39 rfl ki_4 ?_
          refine ev_icmp_ge (tgt := 94) (pc' := 43) dX8_layCut_40 rfl rfl (fun h => absurd h (by decide)) (fun _ => ?_)
          refine ev_aload_n (pc' := 44) (i := 0) dX8_layCut_43 rfl rfl rfl ?_
          refine ev_getR (pc' := 47) fo_X8_55 dX8_layCut_44 rfl hs_115 rfl rf_115_20 ?_
          refine ev_iconst (pc' := 48) (v := 4) dX8_layCut_47 rfl ki_4 ?_
          refine ev_iload_n (pc' := 49) (i := 3) dX8_layCut_48 rfl rfl rfl ?_
          refine ev_imul (pc' := 50) (v := 8) dX8_layCut_49 rfl (by decide) ?_
          refine ev_iload (pc' := 52) dX8_layCut_50 rfl rfl ?_
          refine ev_iadd (pc' := 53) (v := 8) dX8_layCut_52 rfl (by decide) ?_
          refine ev_iload (pc' := 55) dX8_layCut_53 rfl rfl ?_
          refine ev_iload (pc' := 57) dX8_layCut_55 rfl rfl ?_
          refine ev_icmp_ne (tgt := 69) (pc' := 60) dX8_layCut_57 rfl rfl (fun _ => ?_) (fun h => absurd h (by decide))
          refine ev_iload (pc' := 71) dX8_layCut_69 rfl rfl ?_
          refine ev_iload_n (pc' := 72) (i := 2) dX8_layCut_71 rfl rfl rfl ?_
          refine ev_icmp_ne (tgt := 86) (pc' := 75) dX8_layCut_72 rfl rfl (fun _ => ?_) (fun h => absurd h (by decide))
          refine ev_iconst (pc' := 87) (v := 0) dX8_layCut_86 rfl ki_0 ?_
          refine ev_iast (pc' := 88) (j := 8) (I' := (ma_up I 129 (ma_up (ma_up (ma_up (ma_up (ma_up (ma_up (ma_up (ma_up (ma_up (I 129) 0 ((I 126) 3)) 1 0) 2 0) 3 (-((I 126) 0))) 4 0) 5 ((I 126) 3)) 6 0) 7 (-((I 126) 1))) 8 0))) dX8_layCut_87 rfl hs_129 rfl (Nat.le_of_ble_eq_true rfl) (Nat.le_of_ble_eq_true rfl) (ma_up_up _ _ _ _) ?_
          refine ev_iinc (pc' := 91) (v := 1) (lv' := [some (.ref 115), some (.int (nI q)), some (.int 3), some (.int 2), some (.int 2), some (.int 1), none]) dX8_layCut_88 rfl rfl (by decide) (Nat.le_of_ble_eq_true rfl) rfl rfl ?_
          refine ev_goto (tgt := 37) dX8_layCut_91 rfl ?_
          refine ev_iload (pc' := 39) dX8_layCut_37 rfl rfl ?_
          refine ev_iconst (pc' := 40) (v := 4) dX8_layCut_39 rfl ki_4 ?_
          refine ev_icmp_ge (tgt := 94) (pc' := 43) dX8_layCut_40 rfl rfl (fun h => absurd h (by decide)) (fun _ => ?_)
          refine ev_aload_n (pc' := 44) (i := 0) dX8_layCut_43 rfl rfl rfl ?_
          refine ev_getR (pc' := 47) fo_X8_55 dX8_layCut_44 rfl hs_115 rfl rf_115_20 ?_
          refine ev_iconst (pc' := 48) (v := 4) dX8_layCut_47 rfl ki_4 ?_
          refine ev_iload_n (pc' := 49) (i := 3) dX8_layCut_48 rfl rfl rfl ?_
          refine ev_imul (pc' := 50) (v := 8) dX8_layCut_49 rfl (by decide) ?_
          refine ev_iload (pc' := 52) dX8_layCut_50 rfl rfl ?_
          refine ev_iadd (pc' := 53) (v := 9) dX8_layCut_52 rfl (by decide) ?_
          refine ev_iload (pc' := 55) dX8_layCut_53 rfl rfl ?_
          refine ev_iload (pc' := 57) dX8_layCut_55 rfl rfl ?_
          refine ev_icmp_ne (tgt := 69) (pc' := 60) dX8_layCut_57 rfl rfl (fun _ => ?_) (fun h => absurd h (by decide))
          refine ev_iload (pc' := 71) dX8_layCut_69 rfl rfl ?_
          refine ev_iload_n (pc' := 72) (i := 2) dX8_layCut_71 rfl rfl rfl ?_
          refine ev_icmp_ne (tgt := 86) (pc' := 75) dX8_layCut_72 rfl rfl (fun _ => ?_) (fun h => absurd h (by decide))
          refine ev_iconst (pc' := 87) (v := 0) dX8_layCut_86 rfl ki_0 ?_
          refine ev_iast (pc' := 88) (j := 9) (I' := (ma_up I 129 (ma_up (ma_up (ma_up (ma_up (ma_up (ma_up (ma_up (ma_up (ma_up (ma_up (I 129) 0 ((I 126) 3)) 1 0) 2 0) 3 (-((I 126) 0))) 4 0) 5 ((I 126) 3)) 6 0) 7 (-((I 126) 1))) 8 0) 9 0))) dX8_layCut_87 rfl hs_129 rfl (Nat.le_of_ble_eq_true rfl) (Nat.le_of_ble_eq_true rfl) (ma_up_up _ _ _ _) ?_
          refine ev_iinc (pc' := 91) (v := 2) (lv' := [some (.ref 115), some (.int (nI q)), some (.int 3), some (.int 2), some (.int 2), some (.int 2), none]) dX8_layCut_88 rfl rfl (by decide) (Nat.le_of_ble_eq_true rfl) rfl rfl ?_
          refine ev_goto (tgt := 37) dX8_layCut_91 rfl ?_
          refine ev_iload (pc' := 39) dX8_layCut_37 rfl rfl ?_
          refine ev_iconst (pc' := 40) (v := 4) dX8_layCut_39 rfl ki_4 ?_
          refine ev_icmp_ge (tgt := 94) (pc' := 43) dX8_layCut_40 rfl rfl (fun h => absurd h (by decide)) (fun _ => ?_)
          refine ev_aload_n (pc' := 44) (i := 0) dX8_layCut_43 rfl rfl rfl ?_
          refine ev_getR (pc' := 47) fo_X8_55 dX8_layCut_44 rfl hs_115 rfl rf_115_20 ?_
          refine ev_iconst (pc' := 48) (v := 4) dX8_layCut_47 rfl ki_4 ?_
          refine ev_iload_n (pc' := 49) (i := 3) dX8_layCut_48 rfl rfl rfl ?_
          refine ev_imul (pc' := 50) (v := 8) dX8_layCut_49 rfl (by decide) ?_
          refine ev_iload (pc' := 52) dX8_layCut_50 rfl rfl ?_
          refine ev_iadd (pc' := 53) (v := 10) dX8_layCut_52 rfl (by decide) ?_
          refine ev_iload (pc' := 55) dX8_layCut_53 rfl rfl ?_
          refine ev_iload (pc' := 57) dX8_layCut_55 rfl rfl ?_
          refine ev_icmp_ne (tgt := 69) (pc' := 60) dX8_layCut_57 rfl rfl (fun h => absurd (by decide) h) (fun _ => ?_)
          refine ev_aload_n (pc' := 61) (i := 0) dX8_layCut_60 rfl rfl rfl ?_
          refine ev_getR (pc' := 64) fo_X8_46 dX8_layCut_61 rfl hs_115 rfl rf_115_16 ?_
          refine ev_iload_n (pc' := 65) (i := 2) dX8_layCut_64 rfl rfl rfl ?_
          refine ev_iald (pc' := 66) (j := 3) (v := (I 126) 3) dX8_layCut_65 rfl hs_126 rfl (Nat.le_of_ble_eq_true rfl) (Nat.le_of_ble_eq_true rfl) rfl ?_
          refine ev_goto (tgt := 87) dX8_layCut_66 rfl ?_
          refine ev_iast (pc' := 88) (j := 10) (I' := (ma_up I 129 (ma_up (ma_up (ma_up (ma_up (ma_up (ma_up (ma_up (ma_up (ma_up (ma_up (ma_up (I 129) 0 ((I 126) 3)) 1 0) 2 0) 3 (-((I 126) 0))) 4 0) 5 ((I 126) 3)) 6 0) 7 (-((I 126) 1))) 8 0) 9 0) 10 ((I 126) 3)))) dX8_layCut_87 rfl hs_129 rfl (Nat.le_of_ble_eq_true rfl) (Nat.le_of_ble_eq_true rfl) (ma_up_up _ _ _ _) ?_
          refine ev_iinc (pc' := 91) (v := 3) (lv' := [some (.ref 115), some (.int (nI q)), some (.int 3), some (.int 2), some (.int 2), some (.int 3), none]) dX8_layCut_88 rfl rfl (by decide) (Nat.le_of_ble_eq_true rfl) rfl rfl ?_
          refine ev_goto (tgt := 37) dX8_layCut_91 rfl ?_
          refine ev_iload (pc' := 39) dX8_layCut_37 rfl rfl ?_
          refine ev_iconst (pc' := 40) (v := 4) dX8_layCut_39 rfl ki_4 ?_
          refine ev_icmp_ge (tgt := 94) (pc' := 43) dX8_layCut_40 rfl rfl (fun h => absurd h (by decide)) (fun _ => ?_)
          refine ev_aload_n (pc' := 44) (i := 0) dX8_layCut_43 rfl rfl rfl ?_
          refine ev_getR (pc' := 47) fo_X8_55 dX8_layCut_44 rfl hs_115 rfl rf_115_20 ?_
          refine ev_iconst (pc' := 48) (v := 4) dX8_layCut_47 rfl ki_4 ?_
          refine ev_iload_n (pc' := 49) (i := 3) dX8_layCut_48 rfl rfl rfl ?_
          refine ev_imul (pc' := 50) (v := 8) dX8_layCut_49 rfl (by decide) ?_
          refine ev_iload (pc' := 52) dX8_layCut_50 rfl rfl ?_
          refine ev_iadd (pc' := 53) (v := 11) dX8_layCut_52 rfl (by decide) ?_
          refine ev_iload (pc' := 55) dX8_layCut_53 rfl rfl ?_
          refine ev_iload (pc' := 57) dX8_layCut_55 rfl rfl ?_
          refine ev_icmp_ne (tgt := 69) (pc' := 60) dX8_layCut_57 rfl rfl (fun _ => ?_) (fun h => absurd h (by decide))
          refine ev_iload (pc' := 71) dX8_layCut_69 rfl rfl ?_
          refine ev_iload_n (pc' := 72) (i := 2) dX8_layCut_71 rfl rfl rfl ?_
          refine ev_icmp_ne (tgt := 86) (pc' := 75) dX8_layCut_72 rfl rfl (fun h => absurd (by decide) h) (fun _ => ?_)
          refine ev_aload_n (pc' := 76) (i := 0) dX8_layCut_75 rfl rfl rfl ?_
          refine ev_getR (pc' := 79) fo_X8_46 dX8_layCut_76 rfl hs_115 rfl rf_115_16 ?_
          refine ev_iload (pc' := 81) dX8_layCut_79 rfl rfl ?_
          refine ev_iald (pc' := 82) (j := 2) (v := (I 126) 2) dX8_layCut_81 rfl hs_126 rfl (Nat.le_of_ble_eq_true rfl) (Nat.le_of_ble_eq_true rfl) rfl ?_
          refine ev_ineg (pc' := 83) (v := -((I 126) 2)) dX8_layCut_82 rfl rfl ?_
          refine ev_goto (tgt := 87) dX8_layCut_83 rfl ?_
          refine ev_iast (pc' := 88) (j := 11) (I' := (ma_up I 129 (ma_up (ma_up (ma_up (ma_up (ma_up (ma_up (ma_up (ma_up (ma_up (ma_up (ma_up (ma_up (I 129) 0 ((I 126) 3)) 1 0) 2 0) 3 (-((I 126) 0))) 4 0) 5 ((I 126) 3)) 6 0) 7 (-((I 126) 1))) 8 0) 9 0) 10 ((I 126) 3)) 11 (-((I 126) 2))))) dX8_layCut_87 rfl hs_129 rfl (Nat.le_of_ble_eq_true rfl) (Nat.le_of_ble_eq_true rfl) (ma_up_up _ _ _ _) ?_
          refine ev_iinc (pc' := 91) (v := 4) (lv' := [some (.ref 115), some (.int (nI q)), some (.int 3), some (.int 2), some (.int 2), some (.int 4), none]) dX8_layCut_88 rfl rfl (by decide) (Nat.le_of_ble_eq_true rfl) rfl rfl ?_
          refine ev_goto (tgt := 37) dX8_layCut_91 rfl ?_
          refine ev_iload (pc' := 39) dX8_layCut_37 rfl rfl ?_
          refine ev_iconst (pc' := 40) (v := 4) dX8_layCut_39 rfl ki_4 ?_
          refine ev_icmp_ge (tgt := 94) (pc' := 43) dX8_layCut_40 rfl rfl (fun _ => ?_) (fun h => absurd (by decide) h)
          refine ev_iinc (pc' := 97) (v := 3) (lv' := [some (.ref 115), some (.int (nI q)), some (.int 3), some (.int 3), some (.int 2), some (.int 4), none]) dX8_layCut_94 rfl rfl (by decide) (Nat.le_of_ble_eq_true rfl) rfl rfl ?_
          refine ev_iinc (pc' := 100) (v := 3) (lv' := [some (.ref 115), some (.int (nI q)), some (.int 3), some (.int 3), some (.int 3), some (.int 4), none]) dX8_layCut_97 rfl rfl (by decide) (Nat.le_of_ble_eq_true rfl) rfl rfl ?_
          refine ev_goto (tgt := 22) dX8_layCut_100 rfl ?_
          refine ev_iload (pc' := 24) dX8_layCut_22 rfl rfl ?_
          refine ev_iconst (pc' := 25) (v := 4) dX8_layCut_24 rfl ki_4 ?_
          refine ev_icmp_ge (tgt := 103) (pc' := 28) dX8_layCut_25 rfl rfl (fun h => absurd h (by decide)) (fun _ => ?_)
          refine ev_iload (pc' := 30) dX8_layCut_28 rfl rfl ?_
          refine ev_iload_n (pc' := 31) (i := 2) dX8_layCut_30 rfl rfl rfl ?_
          refine ev_icmp_eq (tgt := 97) (pc' := 34) dX8_layCut_31 rfl rfl (fun _ => ?_) (fun h => absurd (by decide) h)
          refine ev_iinc (pc' := 100) (v := 4) (lv' := [some (.ref 115), some (.int (nI q)), some (.int 3), some (.int 3), some (.int 4), some (.int 4), none]) dX8_layCut_97 rfl rfl (by decide) (Nat.le_of_ble_eq_true rfl) rfl rfl ?_
          refine ev_goto (tgt := 22) dX8_layCut_100 rfl ?_
          refine ev_iload (pc' := 24) dX8_layCut_22 rfl rfl ?_
          refine ev_iconst (pc' := 25) (v := 4) dX8_layCut_24 rfl ki_4 ?_
          refine ev_icmp_ge (tgt := 103) (pc' := 28) dX8_layCut_25 rfl rfl (fun _ => ?_) (fun h => absurd (by decide) h)
          refine ev_iconst (pc' := 104) (v := 0) dX8_layCut_103 rfl ki_0 ?_
          refine ev_istore (pc' := 106) (lv' := [some (.ref 115), some (.int (nI q)), some (.int 3), some (.int 3), some (.int 0), some (.int 4), none]) dX8_layCut_104 rfl (Nat.le_of_ble_eq_true rfl) rfl rfl ?_
          refine ev_iload (pc' := 108) dX8_layCut_106 rfl rfl ?_
          refine ev_iconst (pc' := 109) (v := 3) dX8_layCut_108 rfl ki_3 ?_
          refine ev_icmp_ge (tgt := 212) (pc' := 112) dX8_layCut_109 rfl rfl (fun h => absurd h (by decide)) (fun _ => ?_)
          refine ev_iconst (pc' := 113) (v := 0) dX8_layCut_112 rfl ki_0 ?_
          refine ev_istore (pc' := 115) (lv' := [some (.ref 115), some (.int (nI q)), some (.int 3), some (.int 3), some (.int 0), some (.int 0), none]) dX8_layCut_113 rfl (Nat.le_of_ble_eq_true rfl) rfl rfl ?_
          refine ev_iload (pc' := 117) dX8_layCut_115 rfl rfl ?_
          refine ev_iconst (pc' := 118) (v := 3) dX8_layCut_117 rfl ki_3 ?_
          refine ev_icmp_ge (tgt := 206) (pc' := 121) dX8_layCut_118 rfl rfl (fun h => absurd h (by decide)) (fun _ => ?_)
          refine ev_iconst (pc' := 122) (v := 0) dX8_layCut_121 rfl ki_0 ?_
          refine ev_istore (pc' := 124) (lv' := [some (.ref 115), some (.int (nI q)), some (.int 3), some (.int 3), some (.int 0), some (.int 0), some (.int 0)]) dX8_layCut_122 rfl (Nat.le_of_ble_eq_true rfl) rfl rfl ?_
          refine ev_iload (pc' := 126) dX8_layCut_124 rfl rfl ?_
          refine ev_iconst (pc' := 127) (v := 4) dX8_layCut_126 rfl ki_4 ?_
          refine ev_icmp_ge (tgt := 174) (pc' := 130) dX8_layCut_127 rfl rfl (fun h => absurd h (by decide)) (fun _ => ?_)
          refine ev_aload_n (pc' := 131) (i := 0) dX8_layCut_130 rfl rfl rfl ?_
          refine ev_getR (pc' := 134) fo_X8_58 dX8_layCut_131 rfl hs_115 rfl rf_115_21 ?_
          refine ev_iload (pc' := 136) dX8_layCut_134 rfl rfl ?_
          refine ev_aload_n (pc' := 137) (i := 0) dX8_layCut_136 rfl rfl rfl ?_
          refine ev_getR (pc' := 140) fo_X8_55 dX8_layCut_137 rfl hs_115 rfl rf_115_20 ?_
          refine ev_iconst (pc' := 141) (v := 4) dX8_layCut_140 rfl ki_4 ?_
          refine ev_iload (pc' := 143) dX8_layCut_141 rfl rfl ?_
          refine ev_imul (pc' := 144) (v := 0) dX8_layCut_143 rfl (by decide) ?_
          refine ev_iload (pc' := 146) dX8_layCut_144 rfl rfl ?_
          refine ev_iadd (pc' := 147) (v := 0) dX8_layCut_146 rfl (by decide) ?_
          refine ev_iald (pc' := 148) (j := 0) (v := (I 126) 3) dX8_layCut_147 rfl hs_129 rfl (Nat.le_of_ble_eq_true rfl) (Nat.le_of_ble_eq_true rfl) rfl ?_
          refine ev_iast (pc' := 149) (j := 0) (I' := (ma_up (ma_up I 129 (ma_up (ma_up (ma_up (ma_up (ma_up (ma_up (ma_up (ma_up (ma_up (ma_up (ma_up (ma_up (I 129) 0 ((I 126) 3)) 1 0) 2 0) 3 (-((I 126) 0))) 4 0) 5 ((I 126) 3)) 6 0) 7 (-((I 126) 1))) 8 0) 9 0) 10 ((I 126) 3)) 11 (-((I 126) 2)))) 130 (ma_up (I 130) 0 ((I 126) 3)))) dX8_layCut_148 rfl hs_130 rfl (Nat.le_of_ble_eq_true rfl) (Nat.le_of_ble_eq_true rfl) rfl ?_
          refine ev_aload_n (pc' := 150) (i := 0) dX8_layCut_149 rfl rfl rfl ?_
          refine ev_getR (pc' := 153) fo_X8_61 dX8_layCut_150 rfl hs_115 rfl rf_115_22 ?_
          refine ev_iload (pc' := 155) dX8_layCut_153 rfl rfl ?_
          refine ev_aload_n (pc' := 156) (i := 0) dX8_layCut_155 rfl rfl rfl ?_
          refine ev_getR (pc' := 159) fo_X8_55 dX8_layCut_156 rfl hs_115 rfl rf_115_20 ?_
          refine ev_iconst (pc' := 160) (v := 4) dX8_layCut_159 rfl ki_4 ?_
          refine ev_iload (pc' := 162) dX8_layCut_160 rfl rfl ?_
          refine ev_imul (pc' := 163) (v := 0) dX8_layCut_162 rfl (by decide) ?_
          refine ev_iload (pc' := 165) dX8_layCut_163 rfl rfl ?_
          refine ev_iadd (pc' := 166) (v := 0) dX8_layCut_165 rfl (by decide) ?_
          refine ev_iald (pc' := 167) (j := 0) (v := (I 126) 3) dX8_layCut_166 rfl hs_129 rfl (Nat.le_of_ble_eq_true rfl) (Nat.le_of_ble_eq_true rfl) rfl ?_
          refine ev_iast (pc' := 168) (j := 0) (I' := (ma_up (ma_up (ma_up I 129 (ma_up (ma_up (ma_up (ma_up (ma_up (ma_up (ma_up (ma_up (ma_up (ma_up (ma_up (ma_up (I 129) 0 ((I 126) 3)) 1 0) 2 0) 3 (-((I 126) 0))) 4 0) 5 ((I 126) 3)) 6 0) 7 (-((I 126) 1))) 8 0) 9 0) 10 ((I 126) 3)) 11 (-((I 126) 2)))) 130 (ma_up (I 130) 0 ((I 126) 3))) 131 (ma_up (I 131) 0 ((I 126) 3)))) dX8_layCut_167 rfl hs_131 rfl (Nat.le_of_ble_eq_true rfl) (Nat.le_of_ble_eq_true rfl) rfl ?_
          refine ev_iinc (pc' := 171) (v := 1) (lv' := [some (.ref 115), some (.int (nI q)), some (.int 3), some (.int 3), some (.int 0), some (.int 0), some (.int 1)]) dX8_layCut_168 rfl rfl (by decide) (Nat.le_of_ble_eq_true rfl) rfl rfl ?_
          refine ev_goto (tgt := 124) dX8_layCut_171 rfl ?_
          refine ev_iload (pc' := 126) dX8_layCut_124 rfl rfl ?_
          refine ev_iconst (pc' := 127) (v := 4) dX8_layCut_126 rfl ki_4 ?_
          refine ev_icmp_ge (tgt := 174) (pc' := 130) dX8_layCut_127 rfl rfl (fun h => absurd h (by decide)) (fun _ => ?_)
          refine ev_aload_n (pc' := 131) (i := 0) dX8_layCut_130 rfl rfl rfl ?_
          refine ev_getR (pc' := 134) fo_X8_58 dX8_layCut_131 rfl hs_115 rfl rf_115_21 ?_
          refine ev_iload (pc' := 136) dX8_layCut_134 rfl rfl ?_
          refine ev_aload_n (pc' := 137) (i := 0) dX8_layCut_136 rfl rfl rfl ?_
          refine ev_getR (pc' := 140) fo_X8_55 dX8_layCut_137 rfl hs_115 rfl rf_115_20 ?_
          refine ev_iconst (pc' := 141) (v := 4) dX8_layCut_140 rfl ki_4 ?_
          refine ev_iload (pc' := 143) dX8_layCut_141 rfl rfl ?_
          refine ev_imul (pc' := 144) (v := 0) dX8_layCut_143 rfl (by decide) ?_
          refine ev_iload (pc' := 146) dX8_layCut_144 rfl rfl ?_
          refine ev_iadd (pc' := 147) (v := 1) dX8_layCut_146 rfl (by decide) ?_
          refine ev_iald (pc' := 148) (j := 1) (v := 0) dX8_layCut_147 rfl hs_129 rfl (Nat.le_of_ble_eq_true rfl) (Nat.le_of_ble_eq_true rfl) rfl ?_
          refine ev_iast (pc' := 149) (j := 1) (I' := (ma_up (ma_up (ma_up I 129 (ma_up (ma_up (ma_up (ma_up (ma_up (ma_up (ma_up (ma_up (ma_up (ma_up (ma_up (ma_up (I 129) 0 ((I 126) 3)) 1 0) 2 0) 3 (-((I 126) 0))) 4 0) 5 ((I 126) 3)) 6 0) 7 (-((I 126) 1))) 8 0) 9 0) 10 ((I 126) 3)) 11 (-((I 126) 2)))) 130 (ma_up (ma_up (I 130) 0 ((I 126) 3)) 1 0)) 131 (ma_up (I 131) 0 ((I 126) 3)))) dX8_layCut_148 rfl hs_130 rfl (Nat.le_of_ble_eq_true rfl) (Nat.le_of_ble_eq_true rfl) ((ma_up_comm _ (show 130 ≠ 131 from (by decide)) _ _).trans (congrArg (fun f => ma_up f 131 _) (ma_up_up _ _ _ _))) ?_
          refine ev_aload_n (pc' := 150) (i := 0) dX8_layCut_149 rfl rfl rfl ?_
          refine ev_getR (pc' := 153) fo_X8_61 dX8_layCut_150 rfl hs_115 rfl rf_115_22 ?_
          refine ev_iload (pc' := 155) dX8_layCut_153 rfl rfl ?_
          refine ev_aload_n (pc' := 156) (i := 0) dX8_layCut_155 rfl rfl rfl ?_
          refine ev_getR (pc' := 159) fo_X8_55 dX8_layCut_156 rfl hs_115 rfl rf_115_20 ?_
          refine ev_iconst (pc' := 160) (v := 4) dX8_layCut_159 rfl ki_4 ?_
          refine ev_iload (pc' := 162) dX8_layCut_160 rfl rfl ?_
          refine ev_imul (pc' := 163) (v := 0) dX8_layCut_162 rfl (by decide) ?_
          refine ev_iload (pc' := 165) dX8_layCut_163 rfl rfl ?_
          refine ev_iadd (pc' := 166) (v := 1) dX8_layCut_165 rfl (by decide) ?_
          refine ev_iald (pc' := 167) (j := 1) (v := 0) dX8_layCut_166 rfl hs_129 rfl (Nat.le_of_ble_eq_true rfl) (Nat.le_of_ble_eq_true rfl) rfl ?_
          refine ev_iast (pc' := 168) (j := 1) (I' := (ma_up (ma_up (ma_up I 129 (ma_up (ma_up (ma_up (ma_up (ma_up (ma_up (ma_up (ma_up (ma_up (ma_up (ma_up (ma_up (I 129) 0 ((I 126) 3)) 1 0) 2 0) 3 (-((I 126) 0))) 4 0) 5 ((I 126) 3)) 6 0) 7 (-((I 126) 1))) 8 0) 9 0) 10 ((I 126) 3)) 11 (-((I 126) 2)))) 130 (ma_up (ma_up (I 130) 0 ((I 126) 3)) 1 0)) 131 (ma_up (ma_up (I 131) 0 ((I 126) 3)) 1 0))) dX8_layCut_167 rfl hs_131 rfl (Nat.le_of_ble_eq_true rfl) (Nat.le_of_ble_eq_true rfl) (ma_up_up _ _ _ _) ?_
          refine ev_iinc (pc' := 171) (v := 2) (lv' := [some (.ref 115), some (.int (nI q)), some (.int 3), some (.int 3), some (.int 0), some (.int 0), some (.int 2)]) dX8_layCut_168 rfl rfl (by decide) (Nat.le_of_ble_eq_true rfl) rfl rfl ?_
          refine ev_goto (tgt := 124) dX8_layCut_171 rfl ?_
          refine ev_iload (pc' := 126) dX8_layCut_124 rfl rfl ?_
          refine ev_iconst (pc' := 127) (v := 4) dX8_layCut_126 rfl ki_4 ?_
          refine ev_icmp_ge (tgt := 174) (pc' := 130) dX8_layCut_127 rfl rfl (fun h => absurd h (by decide)) (fun _ => ?_)
          refine ev_aload_n (pc' := 131) (i := 0) dX8_layCut_130 rfl rfl rfl ?_
          refine ev_getR (pc' := 134) fo_X8_58 dX8_layCut_131 rfl hs_115 rfl rf_115_21 ?_
          refine ev_iload (pc' := 136) dX8_layCut_134 rfl rfl ?_
          refine ev_aload_n (pc' := 137) (i := 0) dX8_layCut_136 rfl rfl rfl ?_
          refine ev_getR (pc' := 140) fo_X8_55 dX8_layCut_137 rfl hs_115 rfl rf_115_20 ?_
          refine ev_iconst (pc' := 141) (v := 4) dX8_layCut_140 rfl ki_4 ?_
          refine ev_iload (pc' := 143) dX8_layCut_141 rfl rfl ?_
          refine ev_imul (pc' := 144) (v := 0) dX8_layCut_143 rfl (by decide) ?_
          refine ev_iload (pc' := 146) dX8_layCut_144 rfl rfl ?_
          refine ev_iadd (pc' := 147) (v := 2) dX8_layCut_146 rfl (by decide) ?_
          refine ev_iald (pc' := 148) (j := 2) (v := 0) dX8_layCut_147 rfl hs_129 rfl (Nat.le_of_ble_eq_true rfl) (Nat.le_of_ble_eq_true rfl) rfl ?_
          refine ev_iast (pc' := 149) (j := 2) (I' := (ma_up (ma_up (ma_up I 129 (ma_up (ma_up (ma_up (ma_up (ma_up (ma_up (ma_up (ma_up (ma_up (ma_up (ma_up (ma_up (I 129) 0 ((I 126) 3)) 1 0) 2 0) 3 (-((I 126) 0))) 4 0) 5 ((I 126) 3)) 6 0) 7 (-((I 126) 1))) 8 0) 9 0) 10 ((I 126) 3)) 11 (-((I 126) 2)))) 130 (ma_up (ma_up (ma_up (I 130) 0 ((I 126) 3)) 1 0) 2 0)) 131 (ma_up (ma_up (I 131) 0 ((I 126) 3)) 1 0))) dX8_layCut_148 rfl hs_130 rfl (Nat.le_of_ble_eq_true rfl) (Nat.le_of_ble_eq_true rfl) ((ma_up_comm _ (show 130 ≠ 131 from (by decide)) _ _).trans (congrArg (fun f => ma_up f 131 _) (ma_up_up _ _ _ _))) ?_
          refine ev_aload_n (pc' := 150) (i := 0) dX8_layCut_149 rfl rfl rfl ?_
          refine ev_getR (pc' := 153) fo_X8_61 dX8_layCut_150 rfl hs_115 rfl rf_115_22 ?_
          refine ev_iload (pc' := 155) dX8_layCut_153 rfl rfl ?_
          refine ev_aload_n (pc' := 156) (i := 0) dX8_layCut_155 rfl rfl rfl ?_
          refine ev_getR (pc' := 159) fo_X8_55 dX8_layCut_156 rfl hs_115 rfl rf_115_20 ?_
          refine ev_iconst (pc' := 160) (v := 4) dX8_layCut_159 rfl ki_4 ?_
          refine ev_iload (pc' := 162) dX8_layCut_160 rfl rfl ?_
          refine ev_imul (pc' := 163) (v := 0) dX8_layCut_162 rfl (by decide) ?_
          refine ev_iload (pc' := 165) dX8_layCut_163 rfl rfl ?_
          refine ev_iadd (pc' := 166) (v := 2) dX8_layCut_165 rfl (by decide) ?_
          refine ev_iald (pc' := 167) (j := 2) (v := 0) dX8_layCut_166 rfl hs_129 rfl (Nat.le_of_ble_eq_true rfl) (Nat.le_of_ble_eq_true rfl) rfl ?_
          refine ev_iast (pc' := 168) (j := 2) (I' := (ma_up (ma_up (ma_up I 129 (ma_up (ma_up (ma_up (ma_up (ma_up (ma_up (ma_up (ma_up (ma_up (ma_up (ma_up (ma_up (I 129) 0 ((I 126) 3)) 1 0) 2 0) 3 (-((I 126) 0))) 4 0) 5 ((I 126) 3)) 6 0) 7 (-((I 126) 1))) 8 0) 9 0) 10 ((I 126) 3)) 11 (-((I 126) 2)))) 130 (ma_up (ma_up (ma_up (I 130) 0 ((I 126) 3)) 1 0) 2 0)) 131 (ma_up (ma_up (ma_up (I 131) 0 ((I 126) 3)) 1 0) 2 0))) dX8_layCut_167 rfl hs_131 rfl (Nat.le_of_ble_eq_true rfl) (Nat.le_of_ble_eq_true rfl) (ma_up_up _ _ _ _) ?_
          refine ev_iinc (pc' := 171) (v := 3) (lv' := [some (.ref 115), some (.int (nI q)), some (.int 3), some (.int 3), some (.int 0), some (.int 0), some (.int 3)]) dX8_layCut_168 rfl rfl (by decide) (Nat.le_of_ble_eq_true rfl) rfl rfl ?_
          refine ev_goto (tgt := 124) dX8_layCut_171 rfl ?_
          refine ev_iload (pc' := 126) dX8_layCut_124 rfl rfl ?_
          refine ev_iconst (pc' := 127) (v := 4) dX8_layCut_126 rfl ki_4 ?_
          refine ev_icmp_ge (tgt := 174) (pc' := 130) dX8_layCut_127 rfl rfl (fun h => absurd h (by decide)) (fun _ => ?_)
          refine ev_aload_n (pc' := 131) (i := 0) dX8_layCut_130 rfl rfl rfl ?_
          refine ev_getR (pc' := 134) fo_X8_58 dX8_layCut_131 rfl hs_115 rfl rf_115_21 ?_
          refine ev_iload (pc' := 136) dX8_layCut_134 rfl rfl ?_
          refine ev_aload_n (pc' := 137) (i := 0) dX8_layCut_136 rfl rfl rfl ?_
          refine ev_getR (pc' := 140) fo_X8_55 dX8_layCut_137 rfl hs_115 rfl rf_115_20 ?_
          refine ev_iconst (pc' := 141) (v := 4) dX8_layCut_140 rfl ki_4 ?_
          refine ev_iload (pc' := 143) dX8_layCut_141 rfl rfl ?_
          refine ev_imul (pc' := 144) (v := 0) dX8_layCut_143 rfl (by decide) ?_
          refine ev_iload (pc' := 146) dX8_layCut_144 rfl rfl ?_
          refine ev_iadd (pc' := 147) (v := 3) dX8_layCut_146 rfl (by decide) ?_
          refine ev_iald (pc' := 148) (j := 3) (v := -((I 126) 0)) dX8_layCut_147 rfl hs_129 rfl (Nat.le_of_ble_eq_true rfl) (Nat.le_of_ble_eq_true rfl) rfl ?_
          refine ev_iast (pc' := 149) (j := 3) (I' := (ma_up (ma_up (ma_up I 129 (ma_up (ma_up (ma_up (ma_up (ma_up (ma_up (ma_up (ma_up (ma_up (ma_up (ma_up (ma_up (I 129) 0 ((I 126) 3)) 1 0) 2 0) 3 (-((I 126) 0))) 4 0) 5 ((I 126) 3)) 6 0) 7 (-((I 126) 1))) 8 0) 9 0) 10 ((I 126) 3)) 11 (-((I 126) 2)))) 130 (ma_up (ma_up (ma_up (ma_up (I 130) 0 ((I 126) 3)) 1 0) 2 0) 3 (-((I 126) 0)))) 131 (ma_up (ma_up (ma_up (I 131) 0 ((I 126) 3)) 1 0) 2 0))) dX8_layCut_148 rfl hs_130 rfl (Nat.le_of_ble_eq_true rfl) (Nat.le_of_ble_eq_true rfl) ((ma_up_comm _ (show 130 ≠ 131 from (by decide)) _ _).trans (congrArg (fun f => ma_up f 131 _) (ma_up_up _ _ _ _))) ?_
          refine ev_aload_n (pc' := 150) (i := 0) dX8_layCut_149 rfl rfl rfl ?_
          refine ev_getR (pc' := 153) fo_X8_61 dX8_layCut_150 rfl hs_115 rfl rf_115_22 ?_
          refine ev_iload (pc' := 155) dX8_layCut_153 rfl rfl ?_
          refine ev_aload_n (pc' := 156) (i := 0) dX8_layCut_155 rfl rfl rfl ?_
          refine ev_getR (pc' := 159) fo_X8_55 dX8_layCut_156 rfl hs_115 rfl rf_115_20 ?_
          refine ev_iconst (pc' := 160) (v := 4) dX8_layCut_159 rfl ki_4 ?_
          refine ev_iload (pc' := 162) dX8_layCut_160 rfl rfl ?_
          refine ev_imul (pc' := 163) (v := 0) dX8_layCut_162 rfl (by decide) ?_
          refine ev_iload (pc' := 165) dX8_layCut_163 rfl rfl ?_
          refine ev_iadd (pc' := 166) (v := 3) dX8_layCut_165 rfl (by decide) ?_
          refine ev_iald (pc' := 167) (j := 3) (v := -((I 126) 0)) dX8_layCut_166 rfl hs_129 rfl (Nat.le_of_ble_eq_true rfl) (Nat.le_of_ble_eq_true rfl) rfl ?_
          refine ev_iast (pc' := 168) (j := 3) (I' := (ma_up (ma_up (ma_up I 129 (ma_up (ma_up (ma_up (ma_up (ma_up (ma_up (ma_up (ma_up (ma_up (ma_up (ma_up (ma_up (I 129) 0 ((I 126) 3)) 1 0) 2 0) 3 (-((I 126) 0))) 4 0) 5 ((I 126) 3)) 6 0) 7 (-((I 126) 1))) 8 0) 9 0) 10 ((I 126) 3)) 11 (-((I 126) 2)))) 130 (ma_up (ma_up (ma_up (ma_up (I 130) 0 ((I 126) 3)) 1 0) 2 0) 3 (-((I 126) 0)))) 131 (ma_up (ma_up (ma_up (ma_up (I 131) 0 ((I 126) 3)) 1 0) 2 0) 3 (-((I 126) 0))))) dX8_layCut_167 rfl hs_131 rfl (Nat.le_of_ble_eq_true rfl) (Nat.le_of_ble_eq_true rfl) (ma_up_up _ _ _ _) ?_
          refine ev_iinc (pc' := 171) (v := 4) (lv' := [some (.ref 115), some (.int (nI q)), some (.int 3), some (.int 3), some (.int 0), some (.int 0), some (.int 4)]) dX8_layCut_168 rfl rfl (by decide) (Nat.le_of_ble_eq_true rfl) rfl rfl ?_
          refine ev_goto (tgt := 124) dX8_layCut_171 rfl ?_
          refine ev_iload (pc' := 126) dX8_layCut_124 rfl rfl ?_
          refine ev_iconst (pc' := 127) (v := 4) dX8_layCut_126 rfl ki_4 ?_
          refine ev_icmp_ge (tgt := 174) (pc' := 130) dX8_layCut_127 rfl rfl (fun _ => ?_) (fun h => absurd (by decide) h)
          refine ev_aload_n (pc' := 175) (i := 0) dX8_layCut_174 rfl rfl rfl ?_
          refine ev_getR (pc' := 178) fo_X8_26 dX8_layCut_175 rfl hs_115 rfl rf_115_8 ?_
          refine ev_iconst (pc' := 179) (v := 4) dX8_layCut_178 rfl ki_4 ?_
          refine ev_iload (pc' := 181) dX8_layCut_179 rfl rfl ?_
          refine ev_imul (pc' := 182) (v := 0) dX8_layCut_181 rfl (by decide) ?_
          refine ev_iload (pc' := 184) dX8_layCut_182 rfl rfl ?_
          refine ev_iadd (pc' := 185) (v := 0) dX8_layCut_184 rfl (by decide) ?_
          refine ev_aload_n (pc' := 186) (i := 0) dX8_layCut_185 rfl rfl rfl ?_
          refine ev_iload_n (pc' := 187) (i := 1) dX8_layCut_186 rfl rfl rfl ?_
          refine ev_aload_n (pc' := 188) (i := 0) dX8_layCut_187 rfl rfl rfl ?_
          refine ev_getR (pc' := 191) fo_X8_58 dX8_layCut_188 rfl hs_115 rfl rf_115_21 ?_
          refine ev_aload_n (pc' := 192) (i := 0) dX8_layCut_191 rfl rfl rfl ?_
          refine ev_getR (pc' := 195) fo_X8_61 dX8_layCut_192 rfl hs_115 rfl rf_115_22 ?_
          refine ev_callV (pc' := 198) (rm' := rX8_both) (b := 115) (av := [.int (nI q), .ref 130, .ref 131]) (rest := [.int 0, .ref 120]) co_X8_241 ci_X8_both cv_X8_both dX8_layCut_195 rfl hs_115 hb_X8 rfl rfl (Nat.le_of_ble_eq_true rfl) ⟨(Nat.le_of_ble_eq_true rfl), (Nat.le_of_ble_eq_true rfl)⟩ ⟨(Nat.le_of_ble_eq_true rfl), (Nat.le_of_ble_eq_true rfl)⟩ ?_
          refine t_X8_both q 130 131 hq hs_130 hs_131 ?_
          refine ev_eqi (w := mBo (I 123) (mSn 3 (I 126) 0) (mSn 3 (I 126) 0) q) rfl ?_
          refine ev_i2l (pc' := 199) (v := Int32.toInt64 (mBo (I 123) (mSn 3 (I 126) 0) (mSn 3 (I 126) 0) q)) dX8_layCut_198 rfl rfl ?_
          refine ev_last (pc' := 200) (j := 0) (L' := (ma_up L 120 (ma_up (L 120) 0 (Int32.toInt64 (mBo (I 123) (mSn 3 (I 126) 0) (mSn 3 (I 126) 0) q))))) dX8_layCut_199 rfl hs_120 rfl (Nat.le_of_ble_eq_true rfl) (Nat.le_of_ble_eq_true rfl) rfl ?_
          refine ev_iinc (pc' := 203) (v := 1) (lv' := [some (.ref 115), some (.int (nI q)), some (.int 3), some (.int 3), some (.int 0), some (.int 1), some (.int 4)]) dX8_layCut_200 rfl rfl (by decide) (Nat.le_of_ble_eq_true rfl) rfl rfl ?_
          refine ev_goto (tgt := 115) dX8_layCut_203 rfl ?_
          refine ev_iload (pc' := 117) dX8_layCut_115 rfl rfl ?_
          refine ev_iconst (pc' := 118) (v := 3) dX8_layCut_117 rfl ki_3 ?_
          refine ev_icmp_ge (tgt := 206) (pc' := 121) dX8_layCut_118 rfl rfl (fun h => absurd h (by decide)) (fun _ => ?_)
          refine ev_iconst (pc' := 122) (v := 0) dX8_layCut_121 rfl ki_0 ?_
          refine ev_istore (pc' := 124) (lv' := [some (.ref 115), some (.int (nI q)), some (.int 3), some (.int 3), some (.int 0), some (.int 1), some (.int 0)]) dX8_layCut_122 rfl (Nat.le_of_ble_eq_true rfl) rfl rfl ?_
          refine ev_iload (pc' := 126) dX8_layCut_124 rfl rfl ?_
          refine ev_iconst (pc' := 127) (v := 4) dX8_layCut_126 rfl ki_4 ?_
          refine ev_icmp_ge (tgt := 174) (pc' := 130) dX8_layCut_127 rfl rfl (fun h => absurd h (by decide)) (fun _ => ?_)
          refine ev_aload_n (pc' := 131) (i := 0) dX8_layCut_130 rfl rfl rfl ?_
          refine ev_getR (pc' := 134) fo_X8_58 dX8_layCut_131 rfl hs_115 rfl rf_115_21 ?_
          refine ev_iload (pc' := 136) dX8_layCut_134 rfl rfl ?_
          refine ev_aload_n (pc' := 137) (i := 0) dX8_layCut_136 rfl rfl rfl ?_
          refine ev_getR (pc' := 140) fo_X8_55 dX8_layCut_137 rfl hs_115 rfl rf_115_20 ?_
          refine ev_iconst (pc' := 141) (v := 4) dX8_layCut_140 rfl ki_4 ?_
          refine ev_iload (pc' := 143) dX8_layCut_141 rfl rfl ?_
          refine ev_imul (pc' := 144) (v := 0) dX8_layCut_143 rfl (by decide) ?_
          refine ev_iload (pc' := 146) dX8_layCut_144 rfl rfl ?_
          refine ev_iadd (pc' := 147) (v := 0) dX8_layCut_146 rfl (by decide) ?_
          refine ev_iald (pc' := 148) (j := 0) (v := (I 126) 3) dX8_layCut_147 rfl hs_129 rfl (Nat.le_of_ble_eq_true rfl) (Nat.le_of_ble_eq_true rfl) rfl ?_
          refine ev_iast (pc' := 149) (j := 0) (I' := (ma_up (ma_up (ma_up I 129 (ma_up (ma_up (ma_up (ma_up (ma_up (ma_up (ma_up (ma_up (ma_up (ma_up (ma_up (ma_up (I 129) 0 ((I 126) 3)) 1 0) 2 0) 3 (-((I 126) 0))) 4 0) 5 ((I 126) 3)) 6 0) 7 (-((I 126) 1))) 8 0) 9 0) 10 ((I 126) 3)) 11 (-((I 126) 2)))) 130 (ma_up (ma_up (ma_up (ma_up (I 130) 0 ((I 126) 3)) 1 0) 2 0) 3 (-((I 126) 0)))) 131 (ma_up (ma_up (ma_up (ma_up (I 131) 0 ((I 126) 3)) 1 0) 2 0) 3 (-((I 126) 0))))) dX8_layCut_148 rfl hs_130 rfl (Nat.le_of_ble_eq_true rfl) (Nat.le_of_ble_eq_true rfl) ((congrArg (ma_up _ 130) ((ma_up_comm _ (show 0 ≠ 3 from (by decide)) _ _).trans (congrArg (fun f => ma_up f 3 _) ((ma_up_comm _ (show 0 ≠ 2 from (by decide)) _ _).trans (congrArg (fun f => ma_up f 2 _) ((ma_up_comm _ (show 0 ≠ 1 from (by decide)) _ _).trans (congrArg (fun f => ma_up f 1 _) (ma_up_up _ _ _ _)))))))).trans ((ma_up_comm _ (show 130 ≠ 131 from (by decide)) _ _).trans (congrArg (fun f => ma_up f 131 _) (ma_up_up _ _ _ _)))) ?_
          refine ev_aload_n (pc' := 150) (i := 0) dX8_layCut_149 rfl rfl rfl ?_
          refine ev_getR (pc' := 153) fo_X8_61 dX8_layCut_150 rfl hs_115 rfl rf_115_22 ?_
          refine ev_iload (pc' := 155) dX8_layCut_153 rfl rfl ?_
          refine ev_aload_n (pc' := 156) (i := 0) dX8_layCut_155 rfl rfl rfl ?_
          refine ev_getR (pc' := 159) fo_X8_55 dX8_layCut_156 rfl hs_115 rfl rf_115_20 ?_
          refine ev_iconst (pc' := 160) (v := 4) dX8_layCut_159 rfl ki_4 ?_
          refine ev_iload (pc' := 162) dX8_layCut_160 rfl rfl ?_
          refine ev_imul (pc' := 163) (v := 4) dX8_layCut_162 rfl (by decide) ?_
          refine ev_iload (pc' := 165) dX8_layCut_163 rfl rfl ?_
          refine ev_iadd (pc' := 166) (v := 4) dX8_layCut_165 rfl (by decide) ?_
          refine ev_iald (pc' := 167) (j := 4) (v := 0) dX8_layCut_166 rfl hs_129 rfl (Nat.le_of_ble_eq_true rfl) (Nat.le_of_ble_eq_true rfl) rfl ?_
          refine ev_iast (pc' := 168) (j := 0) (I' := (ma_up (ma_up (ma_up I 129 (ma_up (ma_up (ma_up (ma_up (ma_up (ma_up (ma_up (ma_up (ma_up (ma_up (ma_up (ma_up (I 129) 0 ((I 126) 3)) 1 0) 2 0) 3 (-((I 126) 0))) 4 0) 5 ((I 126) 3)) 6 0) 7 (-((I 126) 1))) 8 0) 9 0) 10 ((I 126) 3)) 11 (-((I 126) 2)))) 130 (ma_up (ma_up (ma_up (ma_up (I 130) 0 ((I 126) 3)) 1 0) 2 0) 3 (-((I 126) 0)))) 131 (ma_up (ma_up (ma_up (ma_up (I 131) 0 0) 1 0) 2 0) 3 (-((I 126) 0))))) dX8_layCut_167 rfl hs_131 rfl (Nat.le_of_ble_eq_true rfl) (Nat.le_of_ble_eq_true rfl) ((congrArg (ma_up _ 131) ((ma_up_comm _ (show 0 ≠ 3 from (by decide)) _ _).trans (congrArg (fun f => ma_up f 3 _) ((ma_up_comm _ (show 0 ≠ 2 from (by decide)) _ _).trans (congrArg (fun f => ma_up f 2 _) ((ma_up_comm _ (show 0 ≠ 1 from (by decide)) _ _).trans (congrArg (fun f => ma_up f 1 _) (ma_up_up _ _ _ _)))))))).trans (ma_up_up _ _ _ _)) ?_
          refine ev_iinc (pc' := 171) (v := 1) (lv' := [some (.ref 115), some (.int (nI q)), some (.int 3), some (.int 3), some (.int 0), some (.int 1), some (.int 1)]) dX8_layCut_168 rfl rfl (by decide) (Nat.le_of_ble_eq_true rfl) rfl rfl ?_
          refine ev_goto (tgt := 124) dX8_layCut_171 rfl ?_
          refine ev_iload (pc' := 126) dX8_layCut_124 rfl rfl ?_
          refine ev_iconst (pc' := 127) (v := 4) dX8_layCut_126 rfl ki_4 ?_
          refine ev_icmp_ge (tgt := 174) (pc' := 130) dX8_layCut_127 rfl rfl (fun h => absurd h (by decide)) (fun _ => ?_)
          refine ev_aload_n (pc' := 131) (i := 0) dX8_layCut_130 rfl rfl rfl ?_
          refine ev_getR (pc' := 134) fo_X8_58 dX8_layCut_131 rfl hs_115 rfl rf_115_21 ?_
          refine ev_iload (pc' := 136) dX8_layCut_134 rfl rfl ?_
          refine ev_aload_n (pc' := 137) (i := 0) dX8_layCut_136 rfl rfl rfl ?_
          refine ev_getR (pc' := 140) fo_X8_55 dX8_layCut_137 rfl hs_115 rfl rf_115_20 ?_
          refine ev_iconst (pc' := 141) (v := 4) dX8_layCut_140 rfl ki_4 ?_
          refine ev_iload (pc' := 143) dX8_layCut_141 rfl rfl ?_
          refine ev_imul (pc' := 144) (v := 0) dX8_layCut_143 rfl (by decide) ?_
          refine ev_iload (pc' := 146) dX8_layCut_144 rfl rfl ?_
          refine ev_iadd (pc' := 147) (v := 1) dX8_layCut_146 rfl (by decide) ?_
          refine ev_iald (pc' := 148) (j := 1) (v := 0) dX8_layCut_147 rfl hs_129 rfl (Nat.le_of_ble_eq_true rfl) (Nat.le_of_ble_eq_true rfl) rfl ?_
          refine ev_iast (pc' := 149) (j := 1) (I' := (ma_up (ma_up (ma_up I 129 (ma_up (ma_up (ma_up (ma_up (ma_up (ma_up (ma_up (ma_up (ma_up (ma_up (ma_up (ma_up (I 129) 0 ((I 126) 3)) 1 0) 2 0) 3 (-((I 126) 0))) 4 0) 5 ((I 126) 3)) 6 0) 7 (-((I 126) 1))) 8 0) 9 0) 10 ((I 126) 3)) 11 (-((I 126) 2)))) 130 (ma_up (ma_up (ma_up (ma_up (I 130) 0 ((I 126) 3)) 1 0) 2 0) 3 (-((I 126) 0)))) 131 (ma_up (ma_up (ma_up (ma_up (I 131) 0 0) 1 0) 2 0) 3 (-((I 126) 0))))) dX8_layCut_148 rfl hs_130 rfl (Nat.le_of_ble_eq_true rfl) (Nat.le_of_ble_eq_true rfl) ((congrArg (ma_up _ 130) ((ma_up_comm _ (show 1 ≠ 3 from (by decide)) _ _).trans (congrArg (fun f => ma_up f 3 _) ((ma_up_comm _ (show 1 ≠ 2 from (by decide)) _ _).trans (congrArg (fun f => ma_up f 2 _) (ma_up_up _ _ _ _)))))).trans ((ma_up_comm _ (show 130 ≠ 131 from (by decide)) _ _).trans (congrArg (fun f => ma_up f 131 _) (ma_up_up _ _ _ _)))) ?_
          refine ev_aload_n (pc' := 150) (i := 0) dX8_layCut_149 rfl rfl rfl ?_
          refine ev_getR (pc' := 153) fo_X8_61 dX8_layCut_150 rfl hs_115 rfl rf_115_22 ?_
          refine ev_iload (pc' := 155) dX8_layCut_153 rfl rfl ?_
          refine ev_aload_n (pc' := 156) (i := 0) dX8_layCut_155 rfl rfl rfl ?_
          refine ev_getR (pc' := 159) fo_X8_55 dX8_layCut_156 rfl hs_115 rfl rf_115_20 ?_
          refine ev_iconst (pc' := 160) (v := 4) dX8_layCut_159 rfl ki_4 ?_
          refine ev_iload (pc' := 162) dX8_layCut_160 rfl rfl ?_
          refine ev_imul (pc' := 163) (v := 4) dX8_layCut_162 rfl (by decide) ?_
          refine ev_iload (pc' := 165) dX8_layCut_163 rfl rfl ?_
          refine ev_iadd (pc' := 166) (v := 5) dX8_layCut_165 rfl (by decide) ?_
          refine ev_iald (pc' := 167) (j := 5) (v := (I 126) 3) dX8_layCut_166 rfl hs_129 rfl (Nat.le_of_ble_eq_true rfl) (Nat.le_of_ble_eq_true rfl) rfl ?_
          refine ev_iast (pc' := 168) (j := 1) (I' := (ma_up (ma_up (ma_up I 129 (ma_up (ma_up (ma_up (ma_up (ma_up (ma_up (ma_up (ma_up (ma_up (ma_up (ma_up (ma_up (I 129) 0 ((I 126) 3)) 1 0) 2 0) 3 (-((I 126) 0))) 4 0) 5 ((I 126) 3)) 6 0) 7 (-((I 126) 1))) 8 0) 9 0) 10 ((I 126) 3)) 11 (-((I 126) 2)))) 130 (ma_up (ma_up (ma_up (ma_up (I 130) 0 ((I 126) 3)) 1 0) 2 0) 3 (-((I 126) 0)))) 131 (ma_up (ma_up (ma_up (ma_up (I 131) 0 0) 1 ((I 126) 3)) 2 0) 3 (-((I 126) 0))))) dX8_layCut_167 rfl hs_131 rfl (Nat.le_of_ble_eq_true rfl) (Nat.le_of_ble_eq_true rfl) ((congrArg (ma_up _ 131) ((ma_up_comm _ (show 1 ≠ 3 from (by decide)) _ _).trans (congrArg (fun f => ma_up f 3 _) ((ma_up_comm _ (show 1 ≠ 2 from (by decide)) _ _).trans (congrArg (fun f => ma_up f 2 _) (ma_up_up _ _ _ _)))))).trans (ma_up_up _ _ _ _)) ?_
          refine ev_iinc (pc' := 171) (v := 2) (lv' := [some (.ref 115), some (.int (nI q)), some (.int 3), some (.int 3), some (.int 0), some (.int 1), some (.int 2)]) dX8_layCut_168 rfl rfl (by decide) (Nat.le_of_ble_eq_true rfl) rfl rfl ?_
          refine ev_goto (tgt := 124) dX8_layCut_171 rfl ?_
          refine ev_iload (pc' := 126) dX8_layCut_124 rfl rfl ?_
          refine ev_iconst (pc' := 127) (v := 4) dX8_layCut_126 rfl ki_4 ?_
          refine ev_icmp_ge (tgt := 174) (pc' := 130) dX8_layCut_127 rfl rfl (fun h => absurd h (by decide)) (fun _ => ?_)
          refine ev_aload_n (pc' := 131) (i := 0) dX8_layCut_130 rfl rfl rfl ?_
          refine ev_getR (pc' := 134) fo_X8_58 dX8_layCut_131 rfl hs_115 rfl rf_115_21 ?_
          refine ev_iload (pc' := 136) dX8_layCut_134 rfl rfl ?_
          refine ev_aload_n (pc' := 137) (i := 0) dX8_layCut_136 rfl rfl rfl ?_
          refine ev_getR (pc' := 140) fo_X8_55 dX8_layCut_137 rfl hs_115 rfl rf_115_20 ?_
          refine ev_iconst (pc' := 141) (v := 4) dX8_layCut_140 rfl ki_4 ?_
          refine ev_iload (pc' := 143) dX8_layCut_141 rfl rfl ?_
          refine ev_imul (pc' := 144) (v := 0) dX8_layCut_143 rfl (by decide) ?_
          refine ev_iload (pc' := 146) dX8_layCut_144 rfl rfl ?_
          refine ev_iadd (pc' := 147) (v := 2) dX8_layCut_146 rfl (by decide) ?_
          refine ev_iald (pc' := 148) (j := 2) (v := 0) dX8_layCut_147 rfl hs_129 rfl (Nat.le_of_ble_eq_true rfl) (Nat.le_of_ble_eq_true rfl) rfl ?_
          refine ev_iast (pc' := 149) (j := 2) (I' := (ma_up (ma_up (ma_up I 129 (ma_up (ma_up (ma_up (ma_up (ma_up (ma_up (ma_up (ma_up (ma_up (ma_up (ma_up (ma_up (I 129) 0 ((I 126) 3)) 1 0) 2 0) 3 (-((I 126) 0))) 4 0) 5 ((I 126) 3)) 6 0) 7 (-((I 126) 1))) 8 0) 9 0) 10 ((I 126) 3)) 11 (-((I 126) 2)))) 130 (ma_up (ma_up (ma_up (ma_up (I 130) 0 ((I 126) 3)) 1 0) 2 0) 3 (-((I 126) 0)))) 131 (ma_up (ma_up (ma_up (ma_up (I 131) 0 0) 1 ((I 126) 3)) 2 0) 3 (-((I 126) 0))))) dX8_layCut_148 rfl hs_130 rfl (Nat.le_of_ble_eq_true rfl) (Nat.le_of_ble_eq_true rfl) ((congrArg (ma_up _ 130) ((ma_up_comm _ (show 2 ≠ 3 from (by decide)) _ _).trans (congrArg (fun f => ma_up f 3 _) (ma_up_up _ _ _ _)))).trans ((ma_up_comm _ (show 130 ≠ 131 from (by decide)) _ _).trans (congrArg (fun f => ma_up f 131 _) (ma_up_up _ _ _ _)))) ?_
          refine ev_aload_n (pc' := 150) (i := 0) dX8_layCut_149 rfl rfl rfl ?_
          refine ev_getR (pc' := 153) fo_X8_61 dX8_layCut_150 rfl hs_115 rfl rf_115_22 ?_
          refine ev_iload (pc' := 155) dX8_layCut_153 rfl rfl ?_
          refine ev_aload_n (pc' := 156) (i := 0) dX8_layCut_155 rfl rfl rfl ?_
          refine ev_getR (pc' := 159) fo_X8_55 dX8_layCut_156 rfl hs_115 rfl rf_115_20 ?_
          refine ev_iconst (pc' := 160) (v := 4) dX8_layCut_159 rfl ki_4 ?_
          refine ev_iload (pc' := 162) dX8_layCut_160 rfl rfl ?_
          refine ev_imul (pc' := 163) (v := 4) dX8_layCut_162 rfl (by decide) ?_
          refine ev_iload (pc' := 165) dX8_layCut_163 rfl rfl ?_
          refine ev_iadd (pc' := 166) (v := 6) dX8_layCut_165 rfl (by decide) ?_
          refine ev_iald (pc' := 167) (j := 6) (v := 0) dX8_layCut_166 rfl hs_129 rfl (Nat.le_of_ble_eq_true rfl) (Nat.le_of_ble_eq_true rfl) rfl ?_
          refine ev_iast (pc' := 168) (j := 2) (I' := (ma_up (ma_up (ma_up I 129 (ma_up (ma_up (ma_up (ma_up (ma_up (ma_up (ma_up (ma_up (ma_up (ma_up (ma_up (ma_up (I 129) 0 ((I 126) 3)) 1 0) 2 0) 3 (-((I 126) 0))) 4 0) 5 ((I 126) 3)) 6 0) 7 (-((I 126) 1))) 8 0) 9 0) 10 ((I 126) 3)) 11 (-((I 126) 2)))) 130 (ma_up (ma_up (ma_up (ma_up (I 130) 0 ((I 126) 3)) 1 0) 2 0) 3 (-((I 126) 0)))) 131 (ma_up (ma_up (ma_up (ma_up (I 131) 0 0) 1 ((I 126) 3)) 2 0) 3 (-((I 126) 0))))) dX8_layCut_167 rfl hs_131 rfl (Nat.le_of_ble_eq_true rfl) (Nat.le_of_ble_eq_true rfl) ((congrArg (ma_up _ 131) ((ma_up_comm _ (show 2 ≠ 3 from (by decide)) _ _).trans (congrArg (fun f => ma_up f 3 _) (ma_up_up _ _ _ _)))).trans (ma_up_up _ _ _ _)) ?_
          refine ev_iinc (pc' := 171) (v := 3) (lv' := [some (.ref 115), some (.int (nI q)), some (.int 3), some (.int 3), some (.int 0), some (.int 1), some (.int 3)]) dX8_layCut_168 rfl rfl (by decide) (Nat.le_of_ble_eq_true rfl) rfl rfl ?_
          refine ev_goto (tgt := 124) dX8_layCut_171 rfl ?_
          refine ev_iload (pc' := 126) dX8_layCut_124 rfl rfl ?_
          refine ev_iconst (pc' := 127) (v := 4) dX8_layCut_126 rfl ki_4 ?_
          refine ev_icmp_ge (tgt := 174) (pc' := 130) dX8_layCut_127 rfl rfl (fun h => absurd h (by decide)) (fun _ => ?_)
          refine ev_aload_n (pc' := 131) (i := 0) dX8_layCut_130 rfl rfl rfl ?_
          refine ev_getR (pc' := 134) fo_X8_58 dX8_layCut_131 rfl hs_115 rfl rf_115_21 ?_
          refine ev_iload (pc' := 136) dX8_layCut_134 rfl rfl ?_
          refine ev_aload_n (pc' := 137) (i := 0) dX8_layCut_136 rfl rfl rfl ?_
          refine ev_getR (pc' := 140) fo_X8_55 dX8_layCut_137 rfl hs_115 rfl rf_115_20 ?_
          refine ev_iconst (pc' := 141) (v := 4) dX8_layCut_140 rfl ki_4 ?_
          refine ev_iload (pc' := 143) dX8_layCut_141 rfl rfl ?_
          refine ev_imul (pc' := 144) (v := 0) dX8_layCut_143 rfl (by decide) ?_
          refine ev_iload (pc' := 146) dX8_layCut_144 rfl rfl ?_
          refine ev_iadd (pc' := 147) (v := 3) dX8_layCut_146 rfl (by decide) ?_
          refine ev_iald (pc' := 148) (j := 3) (v := -((I 126) 0)) dX8_layCut_147 rfl hs_129 rfl (Nat.le_of_ble_eq_true rfl) (Nat.le_of_ble_eq_true rfl) rfl ?_
          refine ev_iast (pc' := 149) (j := 3) (I' := (ma_up (ma_up (ma_up I 129 (ma_up (ma_up (ma_up (ma_up (ma_up (ma_up (ma_up (ma_up (ma_up (ma_up (ma_up (ma_up (I 129) 0 ((I 126) 3)) 1 0) 2 0) 3 (-((I 126) 0))) 4 0) 5 ((I 126) 3)) 6 0) 7 (-((I 126) 1))) 8 0) 9 0) 10 ((I 126) 3)) 11 (-((I 126) 2)))) 130 (ma_up (ma_up (ma_up (ma_up (I 130) 0 ((I 126) 3)) 1 0) 2 0) 3 (-((I 126) 0)))) 131 (ma_up (ma_up (ma_up (ma_up (I 131) 0 0) 1 ((I 126) 3)) 2 0) 3 (-((I 126) 0))))) dX8_layCut_148 rfl hs_130 rfl (Nat.le_of_ble_eq_true rfl) (Nat.le_of_ble_eq_true rfl) ((congrArg (ma_up _ 130) (ma_up_up _ _ _ _)).trans ((ma_up_comm _ (show 130 ≠ 131 from (by decide)) _ _).trans (congrArg (fun f => ma_up f 131 _) (ma_up_up _ _ _ _)))) ?_
          refine ev_aload_n (pc' := 150) (i := 0) dX8_layCut_149 rfl rfl rfl ?_
          refine ev_getR (pc' := 153) fo_X8_61 dX8_layCut_150 rfl hs_115 rfl rf_115_22 ?_
          refine ev_iload (pc' := 155) dX8_layCut_153 rfl rfl ?_
          refine ev_aload_n (pc' := 156) (i := 0) dX8_layCut_155 rfl rfl rfl ?_
          refine ev_getR (pc' := 159) fo_X8_55 dX8_layCut_156 rfl hs_115 rfl rf_115_20 ?_
          refine ev_iconst (pc' := 160) (v := 4) dX8_layCut_159 rfl ki_4 ?_
          refine ev_iload (pc' := 162) dX8_layCut_160 rfl rfl ?_
          refine ev_imul (pc' := 163) (v := 4) dX8_layCut_162 rfl (by decide) ?_
          refine ev_iload (pc' := 165) dX8_layCut_163 rfl rfl ?_
          refine ev_iadd (pc' := 166) (v := 7) dX8_layCut_165 rfl (by decide) ?_
          refine ev_iald (pc' := 167) (j := 7) (v := -((I 126) 1)) dX8_layCut_166 rfl hs_129 rfl (Nat.le_of_ble_eq_true rfl) (Nat.le_of_ble_eq_true rfl) rfl ?_
          refine ev_iast (pc' := 168) (j := 3) (I' := (ma_up (ma_up (ma_up I 129 (ma_up (ma_up (ma_up (ma_up (ma_up (ma_up (ma_up (ma_up (ma_up (ma_up (ma_up (ma_up (I 129) 0 ((I 126) 3)) 1 0) 2 0) 3 (-((I 126) 0))) 4 0) 5 ((I 126) 3)) 6 0) 7 (-((I 126) 1))) 8 0) 9 0) 10 ((I 126) 3)) 11 (-((I 126) 2)))) 130 (ma_up (ma_up (ma_up (ma_up (I 130) 0 ((I 126) 3)) 1 0) 2 0) 3 (-((I 126) 0)))) 131 (ma_up (ma_up (ma_up (ma_up (I 131) 0 0) 1 ((I 126) 3)) 2 0) 3 (-((I 126) 1))))) dX8_layCut_167 rfl hs_131 rfl (Nat.le_of_ble_eq_true rfl) (Nat.le_of_ble_eq_true rfl) ((congrArg (ma_up _ 131) (ma_up_up _ _ _ _)).trans (ma_up_up _ _ _ _)) ?_
          refine ev_iinc (pc' := 171) (v := 4) (lv' := [some (.ref 115), some (.int (nI q)), some (.int 3), some (.int 3), some (.int 0), some (.int 1), some (.int 4)]) dX8_layCut_168 rfl rfl (by decide) (Nat.le_of_ble_eq_true rfl) rfl rfl ?_
          refine ev_goto (tgt := 124) dX8_layCut_171 rfl ?_
          refine ev_iload (pc' := 126) dX8_layCut_124 rfl rfl ?_
          refine ev_iconst (pc' := 127) (v := 4) dX8_layCut_126 rfl ki_4 ?_
          refine ev_icmp_ge (tgt := 174) (pc' := 130) dX8_layCut_127 rfl rfl (fun _ => ?_) (fun h => absurd (by decide) h)
          refine ev_aload_n (pc' := 175) (i := 0) dX8_layCut_174 rfl rfl rfl ?_
          refine ev_getR (pc' := 178) fo_X8_26 dX8_layCut_175 rfl hs_115 rfl rf_115_8 ?_
          refine ev_iconst (pc' := 179) (v := 4) dX8_layCut_178 rfl ki_4 ?_
          refine ev_iload (pc' := 181) dX8_layCut_179 rfl rfl ?_
          refine ev_imul (pc' := 182) (v := 0) dX8_layCut_181 rfl (by decide) ?_
          refine ev_iload (pc' := 184) dX8_layCut_182 rfl rfl ?_
          refine ev_iadd (pc' := 185) (v := 1) dX8_layCut_184 rfl (by decide) ?_
          refine ev_aload_n (pc' := 186) (i := 0) dX8_layCut_185 rfl rfl rfl ?_
          refine ev_iload_n (pc' := 187) (i := 1) dX8_layCut_186 rfl rfl rfl ?_
          refine ev_aload_n (pc' := 188) (i := 0) dX8_layCut_187 rfl rfl rfl ?_
          refine ev_getR (pc' := 191) fo_X8_58 dX8_layCut_188 rfl hs_115 rfl rf_115_21 ?_
          refine ev_aload_n (pc' := 192) (i := 0) dX8_layCut_191 rfl rfl rfl ?_
          refine ev_getR (pc' := 195) fo_X8_61 dX8_layCut_192 rfl hs_115 rfl rf_115_22 ?_
          refine ev_callV (pc' := 198) (rm' := rX8_both) (b := 115) (av := [.int (nI q), .ref 130, .ref 131]) (rest := [.int 1, .ref 120]) co_X8_241 ci_X8_both cv_X8_both dX8_layCut_195 rfl hs_115 hb_X8 rfl rfl (Nat.le_of_ble_eq_true rfl) ⟨(Nat.le_of_ble_eq_true rfl), (Nat.le_of_ble_eq_true rfl)⟩ ⟨(Nat.le_of_ble_eq_true rfl), (Nat.le_of_ble_eq_true rfl)⟩ ?_
          refine t_X8_both q 130 131 hq hs_130 hs_131 ?_
          refine ev_eqi (w := mBo (I 123) (mSn 3 (I 126) 0) (mSn 3 (I 126) 1) q) rfl ?_
          refine ev_i2l (pc' := 199) (v := Int32.toInt64 (mBo (I 123) (mSn 3 (I 126) 0) (mSn 3 (I 126) 1) q)) dX8_layCut_198 rfl rfl ?_
          refine ev_last (pc' := 200) (j := 1) (L' := (ma_up L 120 (ma_up (ma_up (L 120) 0 (Int32.toInt64 (mBo (I 123) (mSn 3 (I 126) 0) (mSn 3 (I 126) 0) q))) 1 (Int32.toInt64 (mBo (I 123) (mSn 3 (I 126) 0) (mSn 3 (I 126) 1) q))))) dX8_layCut_199 rfl hs_120 rfl (Nat.le_of_ble_eq_true rfl) (Nat.le_of_ble_eq_true rfl) (ma_up_up _ _ _ _) ?_
          refine ev_iinc (pc' := 203) (v := 2) (lv' := [some (.ref 115), some (.int (nI q)), some (.int 3), some (.int 3), some (.int 0), some (.int 2), some (.int 4)]) dX8_layCut_200 rfl rfl (by decide) (Nat.le_of_ble_eq_true rfl) rfl rfl ?_
          refine ev_goto (tgt := 115) dX8_layCut_203 rfl ?_
          refine ev_iload (pc' := 117) dX8_layCut_115 rfl rfl ?_
          refine ev_iconst (pc' := 118) (v := 3) dX8_layCut_117 rfl ki_3 ?_
          refine ev_icmp_ge (tgt := 206) (pc' := 121) dX8_layCut_118 rfl rfl (fun h => absurd h (by decide)) (fun _ => ?_)
          refine ev_iconst (pc' := 122) (v := 0) dX8_layCut_121 rfl ki_0 ?_
          refine ev_istore (pc' := 124) (lv' := [some (.ref 115), some (.int (nI q)), some (.int 3), some (.int 3), some (.int 0), some (.int 2), some (.int 0)]) dX8_layCut_122 rfl (Nat.le_of_ble_eq_true rfl) rfl rfl ?_
          refine ev_iload (pc' := 126) dX8_layCut_124 rfl rfl ?_
          refine ev_iconst (pc' := 127) (v := 4) dX8_layCut_126 rfl ki_4 ?_
          refine ev_icmp_ge (tgt := 174) (pc' := 130) dX8_layCut_127 rfl rfl (fun h => absurd h (by decide)) (fun _ => ?_)
          refine ev_aload_n (pc' := 131) (i := 0) dX8_layCut_130 rfl rfl rfl ?_
          refine ev_getR (pc' := 134) fo_X8_58 dX8_layCut_131 rfl hs_115 rfl rf_115_21 ?_
          refine ev_iload (pc' := 136) dX8_layCut_134 rfl rfl ?_
          refine ev_aload_n (pc' := 137) (i := 0) dX8_layCut_136 rfl rfl rfl ?_
          refine ev_getR (pc' := 140) fo_X8_55 dX8_layCut_137 rfl hs_115 rfl rf_115_20 ?_
          refine ev_iconst (pc' := 141) (v := 4) dX8_layCut_140 rfl ki_4 ?_
          refine ev_iload (pc' := 143) dX8_layCut_141 rfl rfl ?_
          refine ev_imul (pc' := 144) (v := 0) dX8_layCut_143 rfl (by decide) ?_
          refine ev_iload (pc' := 146) dX8_layCut_144 rfl rfl ?_
          refine ev_iadd (pc' := 147) (v := 0) dX8_layCut_146 rfl (by decide) ?_
          refine ev_iald (pc' := 148) (j := 0) (v := (I 126) 3) dX8_layCut_147 rfl hs_129 rfl (Nat.le_of_ble_eq_true rfl) (Nat.le_of_ble_eq_true rfl) rfl ?_
          refine ev_iast (pc' := 149) (j := 0) (I' := (ma_up (ma_up (ma_up I 129 (ma_up (ma_up (ma_up (ma_up (ma_up (ma_up (ma_up (ma_up (ma_up (ma_up (ma_up (ma_up (I 129) 0 ((I 126) 3)) 1 0) 2 0) 3 (-((I 126) 0))) 4 0) 5 ((I 126) 3)) 6 0) 7 (-((I 126) 1))) 8 0) 9 0) 10 ((I 126) 3)) 11 (-((I 126) 2)))) 130 (ma_up (ma_up (ma_up (ma_up (I 130) 0 ((I 126) 3)) 1 0) 2 0) 3 (-((I 126) 0)))) 131 (ma_up (ma_up (ma_up (ma_up (I 131) 0 0) 1 ((I 126) 3)) 2 0) 3 (-((I 126) 1))))) dX8_layCut_148 rfl hs_130 rfl (Nat.le_of_ble_eq_true rfl) (Nat.le_of_ble_eq_true rfl) ((congrArg (ma_up _ 130) ((ma_up_comm _ (show 0 ≠ 3 from (by decide)) _ _).trans (congrArg (fun f => ma_up f 3 _) ((ma_up_comm _ (show 0 ≠ 2 from (by decide)) _ _).trans (congrArg (fun f => ma_up f 2 _) ((ma_up_comm _ (show 0 ≠ 1 from (by decide)) _ _).trans (congrArg (fun f => ma_up f 1 _) (ma_up_up _ _ _ _)))))))).trans ((ma_up_comm _ (show 130 ≠ 131 from (by decide)) _ _).trans (congrArg (fun f => ma_up f 131 _) (ma_up_up _ _ _ _)))) ?_
          refine ev_aload_n (pc' := 150) (i := 0) dX8_layCut_149 rfl rfl rfl ?_
          refine ev_getR (pc' := 153) fo_X8_61 dX8_layCut_150 rfl hs_115 rfl rf_115_22 ?_
          refine ev_iload (pc' := 155) dX8_layCut_153 rfl rfl ?_
          refine ev_aload_n (pc' := 156) (i := 0) dX8_layCut_155 rfl rfl rfl ?_
          refine ev_getR (pc' := 159) fo_X8_55 dX8_layCut_156 rfl hs_115 rfl rf_115_20 ?_
          refine ev_iconst (pc' := 160) (v := 4) dX8_layCut_159 rfl ki_4 ?_
          refine ev_iload (pc' := 162) dX8_layCut_160 rfl rfl ?_
          refine ev_imul (pc' := 163) (v := 8) dX8_layCut_162 rfl (by decide) ?_
          refine ev_iload (pc' := 165) dX8_layCut_163 rfl rfl ?_
          refine ev_iadd (pc' := 166) (v := 8) dX8_layCut_165 rfl (by decide) ?_
          refine ev_iald (pc' := 167) (j := 8) (v := 0) dX8_layCut_166 rfl hs_129 rfl (Nat.le_of_ble_eq_true rfl) (Nat.le_of_ble_eq_true rfl) rfl ?_
          refine ev_iast (pc' := 168) (j := 0) (I' := (ma_up (ma_up (ma_up I 129 (ma_up (ma_up (ma_up (ma_up (ma_up (ma_up (ma_up (ma_up (ma_up (ma_up (ma_up (ma_up (I 129) 0 ((I 126) 3)) 1 0) 2 0) 3 (-((I 126) 0))) 4 0) 5 ((I 126) 3)) 6 0) 7 (-((I 126) 1))) 8 0) 9 0) 10 ((I 126) 3)) 11 (-((I 126) 2)))) 130 (ma_up (ma_up (ma_up (ma_up (I 130) 0 ((I 126) 3)) 1 0) 2 0) 3 (-((I 126) 0)))) 131 (ma_up (ma_up (ma_up (ma_up (I 131) 0 0) 1 ((I 126) 3)) 2 0) 3 (-((I 126) 1))))) dX8_layCut_167 rfl hs_131 rfl (Nat.le_of_ble_eq_true rfl) (Nat.le_of_ble_eq_true rfl) ((congrArg (ma_up _ 131) ((ma_up_comm _ (show 0 ≠ 3 from (by decide)) _ _).trans (congrArg (fun f => ma_up f 3 _) ((ma_up_comm _ (show 0 ≠ 2 from (by decide)) _ _).trans (congrArg (fun f => ma_up f 2 _) ((ma_up_comm _ (show 0 ≠ 1 from (by decide)) _ _).trans (congrArg (fun f => ma_up f 1 _) (ma_up_up _ _ _ _)))))))).trans (ma_up_up _ _ _ _)) ?_
          refine ev_iinc (pc' := 171) (v := 1) (lv' := [some (.ref 115), some (.int (nI q)), some (.int 3), some (.int 3), some (.int 0), some (.int 2), some (.int 1)]) dX8_layCut_168 rfl rfl (by decide) (Nat.le_of_ble_eq_true rfl) rfl rfl ?_
          refine ev_goto (tgt := 124) dX8_layCut_171 rfl ?_
          refine ev_iload (pc' := 126) dX8_layCut_124 rfl rfl ?_
          refine ev_iconst (pc' := 127) (v := 4) dX8_layCut_126 rfl ki_4 ?_
          refine ev_icmp_ge (tgt := 174) (pc' := 130) dX8_layCut_127 rfl rfl (fun h => absurd h (by decide)) (fun _ => ?_)
          refine ev_aload_n (pc' := 131) (i := 0) dX8_layCut_130 rfl rfl rfl ?_
          refine ev_getR (pc' := 134) fo_X8_58 dX8_layCut_131 rfl hs_115 rfl rf_115_21 ?_
          refine ev_iload (pc' := 136) dX8_layCut_134 rfl rfl ?_
          refine ev_aload_n (pc' := 137) (i := 0) dX8_layCut_136 rfl rfl rfl ?_
          refine ev_getR (pc' := 140) fo_X8_55 dX8_layCut_137 rfl hs_115 rfl rf_115_20 ?_
          refine ev_iconst (pc' := 141) (v := 4) dX8_layCut_140 rfl ki_4 ?_
          refine ev_iload (pc' := 143) dX8_layCut_141 rfl rfl ?_
          refine ev_imul (pc' := 144) (v := 0) dX8_layCut_143 rfl (by decide) ?_
          refine ev_iload (pc' := 146) dX8_layCut_144 rfl rfl ?_
          refine ev_iadd (pc' := 147) (v := 1) dX8_layCut_146 rfl (by decide) ?_
          refine ev_iald (pc' := 148) (j := 1) (v := 0) dX8_layCut_147 rfl hs_129 rfl (Nat.le_of_ble_eq_true rfl) (Nat.le_of_ble_eq_true rfl) rfl ?_
          refine ev_iast (pc' := 149) (j := 1) (I' := (ma_up (ma_up (ma_up I 129 (ma_up (ma_up (ma_up (ma_up (ma_up (ma_up (ma_up (ma_up (ma_up (ma_up (ma_up (ma_up (I 129) 0 ((I 126) 3)) 1 0) 2 0) 3 (-((I 126) 0))) 4 0) 5 ((I 126) 3)) 6 0) 7 (-((I 126) 1))) 8 0) 9 0) 10 ((I 126) 3)) 11 (-((I 126) 2)))) 130 (ma_up (ma_up (ma_up (ma_up (I 130) 0 ((I 126) 3)) 1 0) 2 0) 3 (-((I 126) 0)))) 131 (ma_up (ma_up (ma_up (ma_up (I 131) 0 0) 1 ((I 126) 3)) 2 0) 3 (-((I 126) 1))))) dX8_layCut_148 rfl hs_130 rfl (Nat.le_of_ble_eq_true rfl) (Nat.le_of_ble_eq_true rfl) ((congrArg (ma_up _ 130) ((ma_up_comm _ (show 1 ≠ 3 from (by decide)) _ _).trans (congrArg (fun f => ma_up f 3 _) ((ma_up_comm _ (show 1 ≠ 2 from (by decide)) _ _).trans (congrArg (fun f => ma_up f 2 _) (ma_up_up _ _ _ _)))))).trans ((ma_up_comm _ (show 130 ≠ 131 from (by decide)) _ _).trans (congrArg (fun f => ma_up f 131 _) (ma_up_up _ _ _ _)))) ?_
          refine ev_aload_n (pc' := 150) (i := 0) dX8_layCut_149 rfl rfl rfl ?_
          refine ev_getR (pc' := 153) fo_X8_61 dX8_layCut_150 rfl hs_115 rfl rf_115_22 ?_
          refine ev_iload (pc' := 155) dX8_layCut_153 rfl rfl ?_
          refine ev_aload_n (pc' := 156) (i := 0) dX8_layCut_155 rfl rfl rfl ?_
          refine ev_getR (pc' := 159) fo_X8_55 dX8_layCut_156 rfl hs_115 rfl rf_115_20 ?_
          refine ev_iconst (pc' := 160) (v := 4) dX8_layCut_159 rfl ki_4 ?_
          refine ev_iload (pc' := 162) dX8_layCut_160 rfl rfl ?_
          refine ev_imul (pc' := 163) (v := 8) dX8_layCut_162 rfl (by decide) ?_
          refine ev_iload (pc' := 165) dX8_layCut_163 rfl rfl ?_
          refine ev_iadd (pc' := 166) (v := 9) dX8_layCut_165 rfl (by decide) ?_
          refine ev_iald (pc' := 167) (j := 9) (v := 0) dX8_layCut_166 rfl hs_129 rfl (Nat.le_of_ble_eq_true rfl) (Nat.le_of_ble_eq_true rfl) rfl ?_
          refine ev_iast (pc' := 168) (j := 1) (I' := (ma_up (ma_up (ma_up I 129 (ma_up (ma_up (ma_up (ma_up (ma_up (ma_up (ma_up (ma_up (ma_up (ma_up (ma_up (ma_up (I 129) 0 ((I 126) 3)) 1 0) 2 0) 3 (-((I 126) 0))) 4 0) 5 ((I 126) 3)) 6 0) 7 (-((I 126) 1))) 8 0) 9 0) 10 ((I 126) 3)) 11 (-((I 126) 2)))) 130 (ma_up (ma_up (ma_up (ma_up (I 130) 0 ((I 126) 3)) 1 0) 2 0) 3 (-((I 126) 0)))) 131 (ma_up (ma_up (ma_up (ma_up (I 131) 0 0) 1 0) 2 0) 3 (-((I 126) 1))))) dX8_layCut_167 rfl hs_131 rfl (Nat.le_of_ble_eq_true rfl) (Nat.le_of_ble_eq_true rfl) ((congrArg (ma_up _ 131) ((ma_up_comm _ (show 1 ≠ 3 from (by decide)) _ _).trans (congrArg (fun f => ma_up f 3 _) ((ma_up_comm _ (show 1 ≠ 2 from (by decide)) _ _).trans (congrArg (fun f => ma_up f 2 _) (ma_up_up _ _ _ _)))))).trans (ma_up_up _ _ _ _)) ?_
          refine ev_iinc (pc' := 171) (v := 2) (lv' := [some (.ref 115), some (.int (nI q)), some (.int 3), some (.int 3), some (.int 0), some (.int 2), some (.int 2)]) dX8_layCut_168 rfl rfl (by decide) (Nat.le_of_ble_eq_true rfl) rfl rfl ?_
          refine ev_goto (tgt := 124) dX8_layCut_171 rfl ?_
          refine ev_iload (pc' := 126) dX8_layCut_124 rfl rfl ?_
          refine ev_iconst (pc' := 127) (v := 4) dX8_layCut_126 rfl ki_4 ?_
          refine ev_icmp_ge (tgt := 174) (pc' := 130) dX8_layCut_127 rfl rfl (fun h => absurd h (by decide)) (fun _ => ?_)
          refine ev_aload_n (pc' := 131) (i := 0) dX8_layCut_130 rfl rfl rfl ?_
          refine ev_getR (pc' := 134) fo_X8_58 dX8_layCut_131 rfl hs_115 rfl rf_115_21 ?_
          refine ev_iload (pc' := 136) dX8_layCut_134 rfl rfl ?_
          refine ev_aload_n (pc' := 137) (i := 0) dX8_layCut_136 rfl rfl rfl ?_
          refine ev_getR (pc' := 140) fo_X8_55 dX8_layCut_137 rfl hs_115 rfl rf_115_20 ?_
          refine ev_iconst (pc' := 141) (v := 4) dX8_layCut_140 rfl ki_4 ?_
          refine ev_iload (pc' := 143) dX8_layCut_141 rfl rfl ?_
          refine ev_imul (pc' := 144) (v := 0) dX8_layCut_143 rfl (by decide) ?_
          refine ev_iload (pc' := 146) dX8_layCut_144 rfl rfl ?_
          refine ev_iadd (pc' := 147) (v := 2) dX8_layCut_146 rfl (by decide) ?_
          refine ev_iald (pc' := 148) (j := 2) (v := 0) dX8_layCut_147 rfl hs_129 rfl (Nat.le_of_ble_eq_true rfl) (Nat.le_of_ble_eq_true rfl) rfl ?_
          refine ev_iast (pc' := 149) (j := 2) (I' := (ma_up (ma_up (ma_up I 129 (ma_up (ma_up (ma_up (ma_up (ma_up (ma_up (ma_up (ma_up (ma_up (ma_up (ma_up (ma_up (I 129) 0 ((I 126) 3)) 1 0) 2 0) 3 (-((I 126) 0))) 4 0) 5 ((I 126) 3)) 6 0) 7 (-((I 126) 1))) 8 0) 9 0) 10 ((I 126) 3)) 11 (-((I 126) 2)))) 130 (ma_up (ma_up (ma_up (ma_up (I 130) 0 ((I 126) 3)) 1 0) 2 0) 3 (-((I 126) 0)))) 131 (ma_up (ma_up (ma_up (ma_up (I 131) 0 0) 1 0) 2 0) 3 (-((I 126) 1))))) dX8_layCut_148 rfl hs_130 rfl (Nat.le_of_ble_eq_true rfl) (Nat.le_of_ble_eq_true rfl) ((congrArg (ma_up _ 130) ((ma_up_comm _ (show 2 ≠ 3 from (by decide)) _ _).trans (congrArg (fun f => ma_up f 3 _) (ma_up_up _ _ _ _)))).trans ((ma_up_comm _ (show 130 ≠ 131 from (by decide)) _ _).trans (congrArg (fun f => ma_up f 131 _) (ma_up_up _ _ _ _)))) ?_
          refine ev_aload_n (pc' := 150) (i := 0) dX8_layCut_149 rfl rfl rfl ?_
          refine ev_getR (pc' := 153) fo_X8_61 dX8_layCut_150 rfl hs_115 rfl rf_115_22 ?_
          refine ev_iload (pc' := 155) dX8_layCut_153 rfl rfl ?_
          refine ev_aload_n (pc' := 156) (i := 0) dX8_layCut_155 rfl rfl rfl ?_
          refine ev_getR (pc' := 159) fo_X8_55 dX8_layCut_156 rfl hs_115 rfl rf_115_20 ?_
          refine ev_iconst (pc' := 160) (v := 4) dX8_layCut_159 rfl ki_4 ?_
          refine ev_iload (pc' := 162) dX8_layCut_160 rfl rfl ?_
          refine ev_imul (pc' := 163) (v := 8) dX8_layCut_162 rfl (by decide) ?_
          refine ev_iload (pc' := 165) dX8_layCut_163 rfl rfl ?_
          refine ev_iadd (pc' := 166) (v := 10) dX8_layCut_165 rfl (by decide) ?_
          refine ev_iald (pc' := 167) (j := 10) (v := (I 126) 3) dX8_layCut_166 rfl hs_129 rfl (Nat.le_of_ble_eq_true rfl) (Nat.le_of_ble_eq_true rfl) rfl ?_
          refine ev_iast (pc' := 168) (j := 2) (I' := (ma_up (ma_up (ma_up I 129 (ma_up (ma_up (ma_up (ma_up (ma_up (ma_up (ma_up (ma_up (ma_up (ma_up (ma_up (ma_up (I 129) 0 ((I 126) 3)) 1 0) 2 0) 3 (-((I 126) 0))) 4 0) 5 ((I 126) 3)) 6 0) 7 (-((I 126) 1))) 8 0) 9 0) 10 ((I 126) 3)) 11 (-((I 126) 2)))) 130 (ma_up (ma_up (ma_up (ma_up (I 130) 0 ((I 126) 3)) 1 0) 2 0) 3 (-((I 126) 0)))) 131 (ma_up (ma_up (ma_up (ma_up (I 131) 0 0) 1 0) 2 ((I 126) 3)) 3 (-((I 126) 1))))) dX8_layCut_167 rfl hs_131 rfl (Nat.le_of_ble_eq_true rfl) (Nat.le_of_ble_eq_true rfl) ((congrArg (ma_up _ 131) ((ma_up_comm _ (show 2 ≠ 3 from (by decide)) _ _).trans (congrArg (fun f => ma_up f 3 _) (ma_up_up _ _ _ _)))).trans (ma_up_up _ _ _ _)) ?_
          refine ev_iinc (pc' := 171) (v := 3) (lv' := [some (.ref 115), some (.int (nI q)), some (.int 3), some (.int 3), some (.int 0), some (.int 2), some (.int 3)]) dX8_layCut_168 rfl rfl (by decide) (Nat.le_of_ble_eq_true rfl) rfl rfl ?_
          refine ev_goto (tgt := 124) dX8_layCut_171 rfl ?_
          refine ev_iload (pc' := 126) dX8_layCut_124 rfl rfl ?_
          refine ev_iconst (pc' := 127) (v := 4) dX8_layCut_126 rfl ki_4 ?_
          refine ev_icmp_ge (tgt := 174) (pc' := 130) dX8_layCut_127 rfl rfl (fun h => absurd h (by decide)) (fun _ => ?_)
          refine ev_aload_n (pc' := 131) (i := 0) dX8_layCut_130 rfl rfl rfl ?_
          refine ev_getR (pc' := 134) fo_X8_58 dX8_layCut_131 rfl hs_115 rfl rf_115_21 ?_
          refine ev_iload (pc' := 136) dX8_layCut_134 rfl rfl ?_
          refine ev_aload_n (pc' := 137) (i := 0) dX8_layCut_136 rfl rfl rfl ?_
          refine ev_getR (pc' := 140) fo_X8_55 dX8_layCut_137 rfl hs_115 rfl rf_115_20 ?_
          refine ev_iconst (pc' := 141) (v := 4) dX8_layCut_140 rfl ki_4 ?_
          refine ev_iload (pc' := 143) dX8_layCut_141 rfl rfl ?_
          refine ev_imul (pc' := 144) (v := 0) dX8_layCut_143 rfl (by decide) ?_
          refine ev_iload (pc' := 146) dX8_layCut_144 rfl rfl ?_
          refine ev_iadd (pc' := 147) (v := 3) dX8_layCut_146 rfl (by decide) ?_
          refine ev_iald (pc' := 148) (j := 3) (v := -((I 126) 0)) dX8_layCut_147 rfl hs_129 rfl (Nat.le_of_ble_eq_true rfl) (Nat.le_of_ble_eq_true rfl) rfl ?_
          refine ev_iast (pc' := 149) (j := 3) (I' := (ma_up (ma_up (ma_up I 129 (ma_up (ma_up (ma_up (ma_up (ma_up (ma_up (ma_up (ma_up (ma_up (ma_up (ma_up (ma_up (I 129) 0 ((I 126) 3)) 1 0) 2 0) 3 (-((I 126) 0))) 4 0) 5 ((I 126) 3)) 6 0) 7 (-((I 126) 1))) 8 0) 9 0) 10 ((I 126) 3)) 11 (-((I 126) 2)))) 130 (ma_up (ma_up (ma_up (ma_up (I 130) 0 ((I 126) 3)) 1 0) 2 0) 3 (-((I 126) 0)))) 131 (ma_up (ma_up (ma_up (ma_up (I 131) 0 0) 1 0) 2 ((I 126) 3)) 3 (-((I 126) 1))))) dX8_layCut_148 rfl hs_130 rfl (Nat.le_of_ble_eq_true rfl) (Nat.le_of_ble_eq_true rfl) ((congrArg (ma_up _ 130) (ma_up_up _ _ _ _)).trans ((ma_up_comm _ (show 130 ≠ 131 from (by decide)) _ _).trans (congrArg (fun f => ma_up f 131 _) (ma_up_up _ _ _ _)))) ?_
          refine ev_aload_n (pc' := 150) (i := 0) dX8_layCut_149 rfl rfl rfl ?_
          refine ev_getR (pc' := 153) fo_X8_61 dX8_layCut_150 rfl hs_115 rfl rf_115_22 ?_
          refine ev_iload (pc' := 155) dX8_layCut_153 rfl rfl ?_
          refine ev_aload_n (pc' := 156) (i := 0) dX8_layCut_155 rfl rfl rfl ?_
          refine ev_getR (pc' := 159) fo_X8_55 dX8_layCut_156 rfl hs_115 rfl rf_115_20 ?_
          refine ev_iconst (pc' := 160) (v := 4) dX8_layCut_159 rfl ki_4 ?_
          refine ev_iload (pc' := 162) dX8_layCut_160 rfl rfl ?_
          refine ev_imul (pc' := 163) (v := 8) dX8_layCut_162 rfl (by decide) ?_
          refine ev_iload (pc' := 165) dX8_layCut_163 rfl rfl ?_
          refine ev_iadd (pc' := 166) (v := 11) dX8_layCut_165 rfl (by decide) ?_
          refine ev_iald (pc' := 167) (j := 11) (v := -((I 126) 2)) dX8_layCut_166 rfl hs_129 rfl (Nat.le_of_ble_eq_true rfl) (Nat.le_of_ble_eq_true rfl) rfl ?_
          refine ev_iast (pc' := 168) (j := 3) (I' := (ma_up (ma_up (ma_up I 129 (ma_up (ma_up (ma_up (ma_up (ma_up (ma_up (ma_up (ma_up (ma_up (ma_up (ma_up (ma_up (I 129) 0 ((I 126) 3)) 1 0) 2 0) 3 (-((I 126) 0))) 4 0) 5 ((I 126) 3)) 6 0) 7 (-((I 126) 1))) 8 0) 9 0) 10 ((I 126) 3)) 11 (-((I 126) 2)))) 130 (ma_up (ma_up (ma_up (ma_up (I 130) 0 ((I 126) 3)) 1 0) 2 0) 3 (-((I 126) 0)))) 131 (ma_up (ma_up (ma_up (ma_up (I 131) 0 0) 1 0) 2 ((I 126) 3)) 3 (-((I 126) 2))))) dX8_layCut_167 rfl hs_131 rfl (Nat.le_of_ble_eq_true rfl) (Nat.le_of_ble_eq_true rfl) ((congrArg (ma_up _ 131) (ma_up_up _ _ _ _)).trans (ma_up_up _ _ _ _)) ?_
          refine ev_iinc (pc' := 171) (v := 4) (lv' := [some (.ref 115), some (.int (nI q)), some (.int 3), some (.int 3), some (.int 0), some (.int 2), some (.int 4)]) dX8_layCut_168 rfl rfl (by decide) (Nat.le_of_ble_eq_true rfl) rfl rfl ?_
          refine ev_goto (tgt := 124) dX8_layCut_171 rfl ?_
          refine ev_iload (pc' := 126) dX8_layCut_124 rfl rfl ?_
          refine ev_iconst (pc' := 127) (v := 4) dX8_layCut_126 rfl ki_4 ?_
          refine ev_icmp_ge (tgt := 174) (pc' := 130) dX8_layCut_127 rfl rfl (fun _ => ?_) (fun h => absurd (by decide) h)
          refine ev_aload_n (pc' := 175) (i := 0) dX8_layCut_174 rfl rfl rfl ?_
          refine ev_getR (pc' := 178) fo_X8_26 dX8_layCut_175 rfl hs_115 rfl rf_115_8 ?_
          refine ev_iconst (pc' := 179) (v := 4) dX8_layCut_178 rfl ki_4 ?_
          refine ev_iload (pc' := 181) dX8_layCut_179 rfl rfl ?_
          refine ev_imul (pc' := 182) (v := 0) dX8_layCut_181 rfl (by decide) ?_
          refine ev_iload (pc' := 184) dX8_layCut_182 rfl rfl ?_
          refine ev_iadd (pc' := 185) (v := 2) dX8_layCut_184 rfl (by decide) ?_
          refine ev_aload_n (pc' := 186) (i := 0) dX8_layCut_185 rfl rfl rfl ?_
          refine ev_iload_n (pc' := 187) (i := 1) dX8_layCut_186 rfl rfl rfl ?_
          refine ev_aload_n (pc' := 188) (i := 0) dX8_layCut_187 rfl rfl rfl ?_
          refine ev_getR (pc' := 191) fo_X8_58 dX8_layCut_188 rfl hs_115 rfl rf_115_21 ?_
          refine ev_aload_n (pc' := 192) (i := 0) dX8_layCut_191 rfl rfl rfl ?_
          refine ev_getR (pc' := 195) fo_X8_61 dX8_layCut_192 rfl hs_115 rfl rf_115_22 ?_
          refine ev_callV (pc' := 198) (rm' := rX8_both) (b := 115) (av := [.int (nI q), .ref 130, .ref 131]) (rest := [.int 2, .ref 120]) co_X8_241 ci_X8_both cv_X8_both dX8_layCut_195 rfl hs_115 hb_X8 rfl rfl (Nat.le_of_ble_eq_true rfl) ⟨(Nat.le_of_ble_eq_true rfl), (Nat.le_of_ble_eq_true rfl)⟩ ⟨(Nat.le_of_ble_eq_true rfl), (Nat.le_of_ble_eq_true rfl)⟩ ?_
          refine t_X8_both q 130 131 hq hs_130 hs_131 ?_
          refine ev_eqi (w := mBo (I 123) (mSn 3 (I 126) 0) (mSn 3 (I 126) 2) q) rfl ?_
          refine ev_i2l (pc' := 199) (v := Int32.toInt64 (mBo (I 123) (mSn 3 (I 126) 0) (mSn 3 (I 126) 2) q)) dX8_layCut_198 rfl rfl ?_
          refine ev_last (pc' := 200) (j := 2) (L' := (ma_up L 120 (ma_up (ma_up (ma_up (L 120) 0 (Int32.toInt64 (mBo (I 123) (mSn 3 (I 126) 0) (mSn 3 (I 126) 0) q))) 1 (Int32.toInt64 (mBo (I 123) (mSn 3 (I 126) 0) (mSn 3 (I 126) 1) q))) 2 (Int32.toInt64 (mBo (I 123) (mSn 3 (I 126) 0) (mSn 3 (I 126) 2) q))))) dX8_layCut_199 rfl hs_120 rfl (Nat.le_of_ble_eq_true rfl) (Nat.le_of_ble_eq_true rfl) (ma_up_up _ _ _ _) ?_
          refine ev_iinc (pc' := 203) (v := 3) (lv' := [some (.ref 115), some (.int (nI q)), some (.int 3), some (.int 3), some (.int 0), some (.int 3), some (.int 4)]) dX8_layCut_200 rfl rfl (by decide) (Nat.le_of_ble_eq_true rfl) rfl rfl ?_
          refine ev_goto (tgt := 115) dX8_layCut_203 rfl ?_
          refine ev_iload (pc' := 117) dX8_layCut_115 rfl rfl ?_
          refine ev_iconst (pc' := 118) (v := 3) dX8_layCut_117 rfl ki_3 ?_
          refine ev_icmp_ge (tgt := 206) (pc' := 121) dX8_layCut_118 rfl rfl (fun _ => ?_) (fun h => absurd (by decide) h)
          refine ev_iinc (pc' := 209) (v := 1) (lv' := [some (.ref 115), some (.int (nI q)), some (.int 3), some (.int 3), some (.int 1), some (.int 3), some (.int 4)]) dX8_layCut_206 rfl rfl (by decide) (Nat.le_of_ble_eq_true rfl) rfl rfl ?_
          refine ev_goto (tgt := 106) dX8_layCut_209 rfl ?_
          refine ev_iload (pc' := 108) dX8_layCut_106 rfl rfl ?_
          refine ev_iconst (pc' := 109) (v := 3) dX8_layCut_108 rfl ki_3 ?_
          refine ev_icmp_ge (tgt := 212) (pc' := 112) dX8_layCut_109 rfl rfl (fun h => absurd h (by decide)) (fun _ => ?_)
          refine ev_iconst (pc' := 113) (v := 0) dX8_layCut_112 rfl ki_0 ?_
          refine ev_istore (pc' := 115) (lv' := [some (.ref 115), some (.int (nI q)), some (.int 3), some (.int 3), some (.int 1), some (.int 0), some (.int 4)]) dX8_layCut_113 rfl (Nat.le_of_ble_eq_true rfl) rfl rfl ?_
          refine ev_iload (pc' := 117) dX8_layCut_115 rfl rfl ?_
          refine ev_iconst (pc' := 118) (v := 3) dX8_layCut_117 rfl ki_3 ?_
          refine ev_icmp_ge (tgt := 206) (pc' := 121) dX8_layCut_118 rfl rfl (fun h => absurd h (by decide)) (fun _ => ?_)
          refine ev_iconst (pc' := 122) (v := 0) dX8_layCut_121 rfl ki_0 ?_
          refine ev_istore (pc' := 124) (lv' := [some (.ref 115), some (.int (nI q)), some (.int 3), some (.int 3), some (.int 1), some (.int 0), some (.int 0)]) dX8_layCut_122 rfl (Nat.le_of_ble_eq_true rfl) rfl rfl ?_
          refine ev_iload (pc' := 126) dX8_layCut_124 rfl rfl ?_
          refine ev_iconst (pc' := 127) (v := 4) dX8_layCut_126 rfl ki_4 ?_
          refine ev_icmp_ge (tgt := 174) (pc' := 130) dX8_layCut_127 rfl rfl (fun h => absurd h (by decide)) (fun _ => ?_)
          refine ev_aload_n (pc' := 131) (i := 0) dX8_layCut_130 rfl rfl rfl ?_
          refine ev_getR (pc' := 134) fo_X8_58 dX8_layCut_131 rfl hs_115 rfl rf_115_21 ?_
          refine ev_iload (pc' := 136) dX8_layCut_134 rfl rfl ?_
          refine ev_aload_n (pc' := 137) (i := 0) dX8_layCut_136 rfl rfl rfl ?_
          refine ev_getR (pc' := 140) fo_X8_55 dX8_layCut_137 rfl hs_115 rfl rf_115_20 ?_
          refine ev_iconst (pc' := 141) (v := 4) dX8_layCut_140 rfl ki_4 ?_
          refine ev_iload (pc' := 143) dX8_layCut_141 rfl rfl ?_
          refine ev_imul (pc' := 144) (v := 4) dX8_layCut_143 rfl (by decide) ?_
          refine ev_iload (pc' := 146) dX8_layCut_144 rfl rfl ?_
          refine ev_iadd (pc' := 147) (v := 4) dX8_layCut_146 rfl (by decide) ?_
          refine ev_iald (pc' := 148) (j := 4) (v := 0) dX8_layCut_147 rfl hs_129 rfl (Nat.le_of_ble_eq_true rfl) (Nat.le_of_ble_eq_true rfl) rfl ?_
          refine ev_iast (pc' := 149) (j := 0) (I' := (ma_up (ma_up (ma_up I 129 (ma_up (ma_up (ma_up (ma_up (ma_up (ma_up (ma_up (ma_up (ma_up (ma_up (ma_up (ma_up (I 129) 0 ((I 126) 3)) 1 0) 2 0) 3 (-((I 126) 0))) 4 0) 5 ((I 126) 3)) 6 0) 7 (-((I 126) 1))) 8 0) 9 0) 10 ((I 126) 3)) 11 (-((I 126) 2)))) 130 (ma_up (ma_up (ma_up (ma_up (I 130) 0 0) 1 0) 2 0) 3 (-((I 126) 0)))) 131 (ma_up (ma_up (ma_up (ma_up (I 131) 0 0) 1 0) 2 ((I 126) 3)) 3 (-((I 126) 2))))) dX8_layCut_148 rfl hs_130 rfl (Nat.le_of_ble_eq_true rfl) (Nat.le_of_ble_eq_true rfl) ((congrArg (ma_up _ 130) ((ma_up_comm _ (show 0 ≠ 3 from (by decide)) _ _).trans (congrArg (fun f => ma_up f 3 _) ((ma_up_comm _ (show 0 ≠ 2 from (by decide)) _ _).trans (congrArg (fun f => ma_up f 2 _) ((ma_up_comm _ (show 0 ≠ 1 from (by decide)) _ _).trans (congrArg (fun f => ma_up f 1 _) (ma_up_up _ _ _ _)))))))).trans ((ma_up_comm _ (show 130 ≠ 131 from (by decide)) _ _).trans (congrArg (fun f => ma_up f 131 _) (ma_up_up _ _ _ _)))) ?_
          refine ev_aload_n (pc' := 150) (i := 0) dX8_layCut_149 rfl rfl rfl ?_
          refine ev_getR (pc' := 153) fo_X8_61 dX8_layCut_150 rfl hs_115 rfl rf_115_22 ?_
          refine ev_iload (pc' := 155) dX8_layCut_153 rfl rfl ?_
          refine ev_aload_n (pc' := 156) (i := 0) dX8_layCut_155 rfl rfl rfl ?_
          refine ev_getR (pc' := 159) fo_X8_55 dX8_layCut_156 rfl hs_115 rfl rf_115_20 ?_
          refine ev_iconst (pc' := 160) (v := 4) dX8_layCut_159 rfl ki_4 ?_
          refine ev_iload (pc' := 162) dX8_layCut_160 rfl rfl ?_
          refine ev_imul (pc' := 163) (v := 0) dX8_layCut_162 rfl (by decide) ?_
          refine ev_iload (pc' := 165) dX8_layCut_163 rfl rfl ?_
          refine ev_iadd (pc' := 166) (v := 0) dX8_layCut_165 rfl (by decide) ?_
          refine ev_iald (pc' := 167) (j := 0) (v := (I 126) 3) dX8_layCut_166 rfl hs_129 rfl (Nat.le_of_ble_eq_true rfl) (Nat.le_of_ble_eq_true rfl) rfl ?_
          refine ev_iast (pc' := 168) (j := 0) (I' := (ma_up (ma_up (ma_up I 129 (ma_up (ma_up (ma_up (ma_up (ma_up (ma_up (ma_up (ma_up (ma_up (ma_up (ma_up (ma_up (I 129) 0 ((I 126) 3)) 1 0) 2 0) 3 (-((I 126) 0))) 4 0) 5 ((I 126) 3)) 6 0) 7 (-((I 126) 1))) 8 0) 9 0) 10 ((I 126) 3)) 11 (-((I 126) 2)))) 130 (ma_up (ma_up (ma_up (ma_up (I 130) 0 0) 1 0) 2 0) 3 (-((I 126) 0)))) 131 (ma_up (ma_up (ma_up (ma_up (I 131) 0 ((I 126) 3)) 1 0) 2 ((I 126) 3)) 3 (-((I 126) 2))))) dX8_layCut_167 rfl hs_131 rfl (Nat.le_of_ble_eq_true rfl) (Nat.le_of_ble_eq_true rfl) ((congrArg (ma_up _ 131) ((ma_up_comm _ (show 0 ≠ 3 from (by decide)) _ _).trans (congrArg (fun f => ma_up f 3 _) ((ma_up_comm _ (show 0 ≠ 2 from (by decide)) _ _).trans (congrArg (fun f => ma_up f 2 _) ((ma_up_comm _ (show 0 ≠ 1 from (by decide)) _ _).trans (congrArg (fun f => ma_up f 1 _) (ma_up_up _ _ _ _)))))))).trans (ma_up_up _ _ _ _)) ?_
          refine ev_iinc (pc' := 171) (v := 1) (lv' := [some (.ref 115), some (.int (nI q)), some (.int 3), some (.int 3), some (.int 1), some (.int 0), some (.int 1)]) dX8_layCut_168 rfl rfl (by decide) (Nat.le_of_ble_eq_true rfl) rfl rfl ?_
          refine ev_goto (tgt := 124) dX8_layCut_171 rfl ?_
          refine ev_iload (pc' := 126) dX8_layCut_124 rfl rfl ?_
          refine ev_iconst (pc' := 127) (v := 4) dX8_layCut_126 rfl ki_4 ?_
          refine ev_icmp_ge (tgt := 174) (pc' := 130) dX8_layCut_127 rfl rfl (fun h => absurd h (by decide)) (fun _ => ?_)
          refine ev_aload_n (pc' := 131) (i := 0) dX8_layCut_130 rfl rfl rfl ?_
          refine ev_getR (pc' := 134) fo_X8_58 dX8_layCut_131 rfl hs_115 rfl rf_115_21 ?_
          refine ev_iload (pc' := 136) dX8_layCut_134 rfl rfl ?_
          refine ev_aload_n (pc' := 137) (i := 0) dX8_layCut_136 rfl rfl rfl ?_
          refine ev_getR (pc' := 140) fo_X8_55 dX8_layCut_137 rfl hs_115 rfl rf_115_20 ?_
          refine ev_iconst (pc' := 141) (v := 4) dX8_layCut_140 rfl ki_4 ?_
          refine ev_iload (pc' := 143) dX8_layCut_141 rfl rfl ?_
          refine ev_imul (pc' := 144) (v := 4) dX8_layCut_143 rfl (by decide) ?_
          refine ev_iload (pc' := 146) dX8_layCut_144 rfl rfl ?_
          refine ev_iadd (pc' := 147) (v := 5) dX8_layCut_146 rfl (by decide) ?_
          refine ev_iald (pc' := 148) (j := 5) (v := (I 126) 3) dX8_layCut_147 rfl hs_129 rfl (Nat.le_of_ble_eq_true rfl) (Nat.le_of_ble_eq_true rfl) rfl ?_
          refine ev_iast (pc' := 149) (j := 1) (I' := (ma_up (ma_up (ma_up I 129 (ma_up (ma_up (ma_up (ma_up (ma_up (ma_up (ma_up (ma_up (ma_up (ma_up (ma_up (ma_up (I 129) 0 ((I 126) 3)) 1 0) 2 0) 3 (-((I 126) 0))) 4 0) 5 ((I 126) 3)) 6 0) 7 (-((I 126) 1))) 8 0) 9 0) 10 ((I 126) 3)) 11 (-((I 126) 2)))) 130 (ma_up (ma_up (ma_up (ma_up (I 130) 0 0) 1 ((I 126) 3)) 2 0) 3 (-((I 126) 0)))) 131 (ma_up (ma_up (ma_up (ma_up (I 131) 0 ((I 126) 3)) 1 0) 2 ((I 126) 3)) 3 (-((I 126) 2))))) dX8_layCut_148 rfl hs_130 rfl (Nat.le_of_ble_eq_true rfl) (Nat.le_of_ble_eq_true rfl) ((congrArg (ma_up _ 130) ((ma_up_comm _ (show 1 ≠ 3 from (by decide)) _ _).trans (congrArg (fun f => ma_up f 3 _) ((ma_up_comm _ (show 1 ≠ 2 from (by decide)) _ _).trans (congrArg (fun f => ma_up f 2 _) (ma_up_up _ _ _ _)))))).trans ((ma_up_comm _ (show 130 ≠ 131 from (by decide)) _ _).trans (congrArg (fun f => ma_up f 131 _) (ma_up_up _ _ _ _)))) ?_
          refine ev_aload_n (pc' := 150) (i := 0) dX8_layCut_149 rfl rfl rfl ?_
          refine ev_getR (pc' := 153) fo_X8_61 dX8_layCut_150 rfl hs_115 rfl rf_115_22 ?_
          refine ev_iload (pc' := 155) dX8_layCut_153 rfl rfl ?_
          refine ev_aload_n (pc' := 156) (i := 0) dX8_layCut_155 rfl rfl rfl ?_
          refine ev_getR (pc' := 159) fo_X8_55 dX8_layCut_156 rfl hs_115 rfl rf_115_20 ?_
          refine ev_iconst (pc' := 160) (v := 4) dX8_layCut_159 rfl ki_4 ?_
          refine ev_iload (pc' := 162) dX8_layCut_160 rfl rfl ?_
          refine ev_imul (pc' := 163) (v := 0) dX8_layCut_162 rfl (by decide) ?_
          refine ev_iload (pc' := 165) dX8_layCut_163 rfl rfl ?_
          refine ev_iadd (pc' := 166) (v := 1) dX8_layCut_165 rfl (by decide) ?_
          refine ev_iald (pc' := 167) (j := 1) (v := 0) dX8_layCut_166 rfl hs_129 rfl (Nat.le_of_ble_eq_true rfl) (Nat.le_of_ble_eq_true rfl) rfl ?_
          refine ev_iast (pc' := 168) (j := 1) (I' := (ma_up (ma_up (ma_up I 129 (ma_up (ma_up (ma_up (ma_up (ma_up (ma_up (ma_up (ma_up (ma_up (ma_up (ma_up (ma_up (I 129) 0 ((I 126) 3)) 1 0) 2 0) 3 (-((I 126) 0))) 4 0) 5 ((I 126) 3)) 6 0) 7 (-((I 126) 1))) 8 0) 9 0) 10 ((I 126) 3)) 11 (-((I 126) 2)))) 130 (ma_up (ma_up (ma_up (ma_up (I 130) 0 0) 1 ((I 126) 3)) 2 0) 3 (-((I 126) 0)))) 131 (ma_up (ma_up (ma_up (ma_up (I 131) 0 ((I 126) 3)) 1 0) 2 ((I 126) 3)) 3 (-((I 126) 2))))) dX8_layCut_167 rfl hs_131 rfl (Nat.le_of_ble_eq_true rfl) (Nat.le_of_ble_eq_true rfl) ((congrArg (ma_up _ 131) ((ma_up_comm _ (show 1 ≠ 3 from (by decide)) _ _).trans (congrArg (fun f => ma_up f 3 _) ((ma_up_comm _ (show 1 ≠ 2 from (by decide)) _ _).trans (congrArg (fun f => ma_up f 2 _) (ma_up_up _ _ _ _)))))).trans (ma_up_up _ _ _ _)) ?_
          refine ev_iinc (pc' := 171) (v := 2) (lv' := [some (.ref 115), some (.int (nI q)), some (.int 3), some (.int 3), some (.int 1), some (.int 0), some (.int 2)]) dX8_layCut_168 rfl rfl (by decide) (Nat.le_of_ble_eq_true rfl) rfl rfl ?_
          refine ev_goto (tgt := 124) dX8_layCut_171 rfl ?_
          refine ev_iload (pc' := 126) dX8_layCut_124 rfl rfl ?_
          refine ev_iconst (pc' := 127) (v := 4) dX8_layCut_126 rfl ki_4 ?_
          refine ev_icmp_ge (tgt := 174) (pc' := 130) dX8_layCut_127 rfl rfl (fun h => absurd h (by decide)) (fun _ => ?_)
          refine ev_aload_n (pc' := 131) (i := 0) dX8_layCut_130 rfl rfl rfl ?_
          refine ev_getR (pc' := 134) fo_X8_58 dX8_layCut_131 rfl hs_115 rfl rf_115_21 ?_
          refine ev_iload (pc' := 136) dX8_layCut_134 rfl rfl ?_
          refine ev_aload_n (pc' := 137) (i := 0) dX8_layCut_136 rfl rfl rfl ?_
          refine ev_getR (pc' := 140) fo_X8_55 dX8_layCut_137 rfl hs_115 rfl rf_115_20 ?_
          refine ev_iconst (pc' := 141) (v := 4) dX8_layCut_140 rfl ki_4 ?_
          refine ev_iload (pc' := 143) dX8_layCut_141 rfl rfl ?_
          refine ev_imul (pc' := 144) (v := 4) dX8_layCut_143 rfl (by decide) ?_
          refine ev_iload (pc' := 146) dX8_layCut_144 rfl rfl ?_
          refine ev_iadd (pc' := 147) (v := 6) dX8_layCut_146 rfl (by decide) ?_
          refine ev_iald (pc' := 148) (j := 6) (v := 0) dX8_layCut_147 rfl hs_129 rfl (Nat.le_of_ble_eq_true rfl) (Nat.le_of_ble_eq_true rfl) rfl ?_
          refine ev_iast (pc' := 149) (j := 2) (I' := (ma_up (ma_up (ma_up I 129 (ma_up (ma_up (ma_up (ma_up (ma_up (ma_up (ma_up (ma_up (ma_up (ma_up (ma_up (ma_up (I 129) 0 ((I 126) 3)) 1 0) 2 0) 3 (-((I 126) 0))) 4 0) 5 ((I 126) 3)) 6 0) 7 (-((I 126) 1))) 8 0) 9 0) 10 ((I 126) 3)) 11 (-((I 126) 2)))) 130 (ma_up (ma_up (ma_up (ma_up (I 130) 0 0) 1 ((I 126) 3)) 2 0) 3 (-((I 126) 0)))) 131 (ma_up (ma_up (ma_up (ma_up (I 131) 0 ((I 126) 3)) 1 0) 2 ((I 126) 3)) 3 (-((I 126) 2))))) dX8_layCut_148 rfl hs_130 rfl (Nat.le_of_ble_eq_true rfl) (Nat.le_of_ble_eq_true rfl) ((congrArg (ma_up _ 130) ((ma_up_comm _ (show 2 ≠ 3 from (by decide)) _ _).trans (congrArg (fun f => ma_up f 3 _) (ma_up_up _ _ _ _)))).trans ((ma_up_comm _ (show 130 ≠ 131 from (by decide)) _ _).trans (congrArg (fun f => ma_up f 131 _) (ma_up_up _ _ _ _)))) ?_
          refine ev_aload_n (pc' := 150) (i := 0) dX8_layCut_149 rfl rfl rfl ?_
          refine ev_getR (pc' := 153) fo_X8_61 dX8_layCut_150 rfl hs_115 rfl rf_115_22 ?_
          refine ev_iload (pc' := 155) dX8_layCut_153 rfl rfl ?_
          refine ev_aload_n (pc' := 156) (i := 0) dX8_layCut_155 rfl rfl rfl ?_
          refine ev_getR (pc' := 159) fo_X8_55 dX8_layCut_156 rfl hs_115 rfl rf_115_20 ?_
          refine ev_iconst (pc' := 160) (v := 4) dX8_layCut_159 rfl ki_4 ?_
          refine ev_iload (pc' := 162) dX8_layCut_160 rfl rfl ?_
          refine ev_imul (pc' := 163) (v := 0) dX8_layCut_162 rfl (by decide) ?_
          refine ev_iload (pc' := 165) dX8_layCut_163 rfl rfl ?_
          refine ev_iadd (pc' := 166) (v := 2) dX8_layCut_165 rfl (by decide) ?_
          refine ev_iald (pc' := 167) (j := 2) (v := 0) dX8_layCut_166 rfl hs_129 rfl (Nat.le_of_ble_eq_true rfl) (Nat.le_of_ble_eq_true rfl) rfl ?_
          refine ev_iast (pc' := 168) (j := 2) (I' := (ma_up (ma_up (ma_up I 129 (ma_up (ma_up (ma_up (ma_up (ma_up (ma_up (ma_up (ma_up (ma_up (ma_up (ma_up (ma_up (I 129) 0 ((I 126) 3)) 1 0) 2 0) 3 (-((I 126) 0))) 4 0) 5 ((I 126) 3)) 6 0) 7 (-((I 126) 1))) 8 0) 9 0) 10 ((I 126) 3)) 11 (-((I 126) 2)))) 130 (ma_up (ma_up (ma_up (ma_up (I 130) 0 0) 1 ((I 126) 3)) 2 0) 3 (-((I 126) 0)))) 131 (ma_up (ma_up (ma_up (ma_up (I 131) 0 ((I 126) 3)) 1 0) 2 0) 3 (-((I 126) 2))))) dX8_layCut_167 rfl hs_131 rfl (Nat.le_of_ble_eq_true rfl) (Nat.le_of_ble_eq_true rfl) ((congrArg (ma_up _ 131) ((ma_up_comm _ (show 2 ≠ 3 from (by decide)) _ _).trans (congrArg (fun f => ma_up f 3 _) (ma_up_up _ _ _ _)))).trans (ma_up_up _ _ _ _)) ?_
          refine ev_iinc (pc' := 171) (v := 3) (lv' := [some (.ref 115), some (.int (nI q)), some (.int 3), some (.int 3), some (.int 1), some (.int 0), some (.int 3)]) dX8_layCut_168 rfl rfl (by decide) (Nat.le_of_ble_eq_true rfl) rfl rfl ?_
          refine ev_goto (tgt := 124) dX8_layCut_171 rfl ?_
          refine ev_iload (pc' := 126) dX8_layCut_124 rfl rfl ?_
          refine ev_iconst (pc' := 127) (v := 4) dX8_layCut_126 rfl ki_4 ?_
          refine ev_icmp_ge (tgt := 174) (pc' := 130) dX8_layCut_127 rfl rfl (fun h => absurd h (by decide)) (fun _ => ?_)
          refine ev_aload_n (pc' := 131) (i := 0) dX8_layCut_130 rfl rfl rfl ?_
          refine ev_getR (pc' := 134) fo_X8_58 dX8_layCut_131 rfl hs_115 rfl rf_115_21 ?_
          refine ev_iload (pc' := 136) dX8_layCut_134 rfl rfl ?_
          refine ev_aload_n (pc' := 137) (i := 0) dX8_layCut_136 rfl rfl rfl ?_
          refine ev_getR (pc' := 140) fo_X8_55 dX8_layCut_137 rfl hs_115 rfl rf_115_20 ?_
          refine ev_iconst (pc' := 141) (v := 4) dX8_layCut_140 rfl ki_4 ?_
          refine ev_iload (pc' := 143) dX8_layCut_141 rfl rfl ?_
          refine ev_imul (pc' := 144) (v := 4) dX8_layCut_143 rfl (by decide) ?_
          refine ev_iload (pc' := 146) dX8_layCut_144 rfl rfl ?_
          refine ev_iadd (pc' := 147) (v := 7) dX8_layCut_146 rfl (by decide) ?_
          refine ev_iald (pc' := 148) (j := 7) (v := -((I 126) 1)) dX8_layCut_147 rfl hs_129 rfl (Nat.le_of_ble_eq_true rfl) (Nat.le_of_ble_eq_true rfl) rfl ?_
          refine ev_iast (pc' := 149) (j := 3) (I' := (ma_up (ma_up (ma_up I 129 (ma_up (ma_up (ma_up (ma_up (ma_up (ma_up (ma_up (ma_up (ma_up (ma_up (ma_up (ma_up (I 129) 0 ((I 126) 3)) 1 0) 2 0) 3 (-((I 126) 0))) 4 0) 5 ((I 126) 3)) 6 0) 7 (-((I 126) 1))) 8 0) 9 0) 10 ((I 126) 3)) 11 (-((I 126) 2)))) 130 (ma_up (ma_up (ma_up (ma_up (I 130) 0 0) 1 ((I 126) 3)) 2 0) 3 (-((I 126) 1)))) 131 (ma_up (ma_up (ma_up (ma_up (I 131) 0 ((I 126) 3)) 1 0) 2 0) 3 (-((I 126) 2))))) dX8_layCut_148 rfl hs_130 rfl (Nat.le_of_ble_eq_true rfl) (Nat.le_of_ble_eq_true rfl) ((congrArg (ma_up _ 130) (ma_up_up _ _ _ _)).trans ((ma_up_comm _ (show 130 ≠ 131 from (by decide)) _ _).trans (congrArg (fun f => ma_up f 131 _) (ma_up_up _ _ _ _)))) ?_
          refine ev_aload_n (pc' := 150) (i := 0) dX8_layCut_149 rfl rfl rfl ?_
          refine ev_getR (pc' := 153) fo_X8_61 dX8_layCut_150 rfl hs_115 rfl rf_115_22 ?_
          refine ev_iload (pc' := 155) dX8_layCut_153 rfl rfl ?_
          refine ev_aload_n (pc' := 156) (i := 0) dX8_layCut_155 rfl rfl rfl ?_
          refine ev_getR (pc' := 159) fo_X8_55 dX8_layCut_156 rfl hs_115 rfl rf_115_20 ?_
          refine ev_iconst (pc' := 160) (v := 4) dX8_layCut_159 rfl ki_4 ?_
          refine ev_iload (pc' := 162) dX8_layCut_160 rfl rfl ?_
          refine ev_imul (pc' := 163) (v := 0) dX8_layCut_162 rfl (by decide) ?_
          refine ev_iload (pc' := 165) dX8_layCut_163 rfl rfl ?_
          refine ev_iadd (pc' := 166) (v := 3) dX8_layCut_165 rfl (by decide) ?_
          refine ev_iald (pc' := 167) (j := 3) (v := -((I 126) 0)) dX8_layCut_166 rfl hs_129 rfl (Nat.le_of_ble_eq_true rfl) (Nat.le_of_ble_eq_true rfl) rfl ?_
          refine ev_iast (pc' := 168) (j := 3) (I' := (ma_up (ma_up (ma_up I 129 (ma_up (ma_up (ma_up (ma_up (ma_up (ma_up (ma_up (ma_up (ma_up (ma_up (ma_up (ma_up (I 129) 0 ((I 126) 3)) 1 0) 2 0) 3 (-((I 126) 0))) 4 0) 5 ((I 126) 3)) 6 0) 7 (-((I 126) 1))) 8 0) 9 0) 10 ((I 126) 3)) 11 (-((I 126) 2)))) 130 (ma_up (ma_up (ma_up (ma_up (I 130) 0 0) 1 ((I 126) 3)) 2 0) 3 (-((I 126) 1)))) 131 (ma_up (ma_up (ma_up (ma_up (I 131) 0 ((I 126) 3)) 1 0) 2 0) 3 (-((I 126) 0))))) dX8_layCut_167 rfl hs_131 rfl (Nat.le_of_ble_eq_true rfl) (Nat.le_of_ble_eq_true rfl) ((congrArg (ma_up _ 131) (ma_up_up _ _ _ _)).trans (ma_up_up _ _ _ _)) ?_
          refine ev_iinc (pc' := 171) (v := 4) (lv' := [some (.ref 115), some (.int (nI q)), some (.int 3), some (.int 3), some (.int 1), some (.int 0), some (.int 4)]) dX8_layCut_168 rfl rfl (by decide) (Nat.le_of_ble_eq_true rfl) rfl rfl ?_
          refine ev_goto (tgt := 124) dX8_layCut_171 rfl ?_
          refine ev_iload (pc' := 126) dX8_layCut_124 rfl rfl ?_
          refine ev_iconst (pc' := 127) (v := 4) dX8_layCut_126 rfl ki_4 ?_
          refine ev_icmp_ge (tgt := 174) (pc' := 130) dX8_layCut_127 rfl rfl (fun _ => ?_) (fun h => absurd (by decide) h)
          refine ev_aload_n (pc' := 175) (i := 0) dX8_layCut_174 rfl rfl rfl ?_
          refine ev_getR (pc' := 178) fo_X8_26 dX8_layCut_175 rfl hs_115 rfl rf_115_8 ?_
          refine ev_iconst (pc' := 179) (v := 4) dX8_layCut_178 rfl ki_4 ?_
          refine ev_iload (pc' := 181) dX8_layCut_179 rfl rfl ?_
          refine ev_imul (pc' := 182) (v := 4) dX8_layCut_181 rfl (by decide) ?_
          refine ev_iload (pc' := 184) dX8_layCut_182 rfl rfl ?_
          refine ev_iadd (pc' := 185) (v := 4) dX8_layCut_184 rfl (by decide) ?_
          refine ev_aload_n (pc' := 186) (i := 0) dX8_layCut_185 rfl rfl rfl ?_
          refine ev_iload_n (pc' := 187) (i := 1) dX8_layCut_186 rfl rfl rfl ?_
          refine ev_aload_n (pc' := 188) (i := 0) dX8_layCut_187 rfl rfl rfl ?_
          refine ev_getR (pc' := 191) fo_X8_58 dX8_layCut_188 rfl hs_115 rfl rf_115_21 ?_
          refine ev_aload_n (pc' := 192) (i := 0) dX8_layCut_191 rfl rfl rfl ?_
          refine ev_getR (pc' := 195) fo_X8_61 dX8_layCut_192 rfl hs_115 rfl rf_115_22 ?_
          refine ev_callV (pc' := 198) (rm' := rX8_both) (b := 115) (av := [.int (nI q), .ref 130, .ref 131]) (rest := [.int 4, .ref 120]) co_X8_241 ci_X8_both cv_X8_both dX8_layCut_195 rfl hs_115 hb_X8 rfl rfl (Nat.le_of_ble_eq_true rfl) ⟨(Nat.le_of_ble_eq_true rfl), (Nat.le_of_ble_eq_true rfl)⟩ ⟨(Nat.le_of_ble_eq_true rfl), (Nat.le_of_ble_eq_true rfl)⟩ ?_
          refine t_X8_both q 130 131 hq hs_130 hs_131 ?_
          refine ev_eqi (w := mBo (I 123) (mSn 3 (I 126) 1) (mSn 3 (I 126) 0) q) rfl ?_
          refine ev_i2l (pc' := 199) (v := Int32.toInt64 (mBo (I 123) (mSn 3 (I 126) 1) (mSn 3 (I 126) 0) q)) dX8_layCut_198 rfl rfl ?_
          refine ev_last (pc' := 200) (j := 4) (L' := (ma_up L 120 (ma_up (ma_up (ma_up (ma_up (L 120) 0 (Int32.toInt64 (mBo (I 123) (mSn 3 (I 126) 0) (mSn 3 (I 126) 0) q))) 1 (Int32.toInt64 (mBo (I 123) (mSn 3 (I 126) 0) (mSn 3 (I 126) 1) q))) 2 (Int32.toInt64 (mBo (I 123) (mSn 3 (I 126) 0) (mSn 3 (I 126) 2) q))) 4 (Int32.toInt64 (mBo (I 123) (mSn 3 (I 126) 1) (mSn 3 (I 126) 0) q))))) dX8_layCut_199 rfl hs_120 rfl (Nat.le_of_ble_eq_true rfl) (Nat.le_of_ble_eq_true rfl) (ma_up_up _ _ _ _) ?_
          refine ev_iinc (pc' := 203) (v := 1) (lv' := [some (.ref 115), some (.int (nI q)), some (.int 3), some (.int 3), some (.int 1), some (.int 1), some (.int 4)]) dX8_layCut_200 rfl rfl (by decide) (Nat.le_of_ble_eq_true rfl) rfl rfl ?_
          refine ev_goto (tgt := 115) dX8_layCut_203 rfl ?_
          refine ev_iload (pc' := 117) dX8_layCut_115 rfl rfl ?_
          refine ev_iconst (pc' := 118) (v := 3) dX8_layCut_117 rfl ki_3 ?_
          refine ev_icmp_ge (tgt := 206) (pc' := 121) dX8_layCut_118 rfl rfl (fun h => absurd h (by decide)) (fun _ => ?_)
          refine ev_iconst (pc' := 122) (v := 0) dX8_layCut_121 rfl ki_0 ?_
          refine ev_istore (pc' := 124) (lv' := [some (.ref 115), some (.int (nI q)), some (.int 3), some (.int 3), some (.int 1), some (.int 1), some (.int 0)]) dX8_layCut_122 rfl (Nat.le_of_ble_eq_true rfl) rfl rfl ?_
          refine ev_iload (pc' := 126) dX8_layCut_124 rfl rfl ?_
          refine ev_iconst (pc' := 127) (v := 4) dX8_layCut_126 rfl ki_4 ?_
          refine ev_icmp_ge (tgt := 174) (pc' := 130) dX8_layCut_127 rfl rfl (fun h => absurd h (by decide)) (fun _ => ?_)
          refine ev_aload_n (pc' := 131) (i := 0) dX8_layCut_130 rfl rfl rfl ?_
          refine ev_getR (pc' := 134) fo_X8_58 dX8_layCut_131 rfl hs_115 rfl rf_115_21 ?_
          refine ev_iload (pc' := 136) dX8_layCut_134 rfl rfl ?_
          refine ev_aload_n (pc' := 137) (i := 0) dX8_layCut_136 rfl rfl rfl ?_
          refine ev_getR (pc' := 140) fo_X8_55 dX8_layCut_137 rfl hs_115 rfl rf_115_20 ?_
          refine ev_iconst (pc' := 141) (v := 4) dX8_layCut_140 rfl ki_4 ?_
          refine ev_iload (pc' := 143) dX8_layCut_141 rfl rfl ?_
          refine ev_imul (pc' := 144) (v := 4) dX8_layCut_143 rfl (by decide) ?_
          refine ev_iload (pc' := 146) dX8_layCut_144 rfl rfl ?_
          refine ev_iadd (pc' := 147) (v := 4) dX8_layCut_146 rfl (by decide) ?_
          refine ev_iald (pc' := 148) (j := 4) (v := 0) dX8_layCut_147 rfl hs_129 rfl (Nat.le_of_ble_eq_true rfl) (Nat.le_of_ble_eq_true rfl) rfl ?_
          refine ev_iast (pc' := 149) (j := 0) (I' := (ma_up (ma_up (ma_up I 129 (ma_up (ma_up (ma_up (ma_up (ma_up (ma_up (ma_up (ma_up (ma_up (ma_up (ma_up (ma_up (I 129) 0 ((I 126) 3)) 1 0) 2 0) 3 (-((I 126) 0))) 4 0) 5 ((I 126) 3)) 6 0) 7 (-((I 126) 1))) 8 0) 9 0) 10 ((I 126) 3)) 11 (-((I 126) 2)))) 130 (ma_up (ma_up (ma_up (ma_up (I 130) 0 0) 1 ((I 126) 3)) 2 0) 3 (-((I 126) 1)))) 131 (ma_up (ma_up (ma_up (ma_up (I 131) 0 ((I 126) 3)) 1 0) 2 0) 3 (-((I 126) 0))))) dX8_layCut_148 rfl hs_130 rfl (Nat.le_of_ble_eq_true rfl) (Nat.le_of_ble_eq_true rfl) ((congrArg (ma_up _ 130) ((ma_up_comm _ (show 0 ≠ 3 from (by decide)) _ _).trans (congrArg (fun f => ma_up f 3 _) ((ma_up_comm _ (show 0 ≠ 2 from (by decide)) _ _).trans (congrArg (fun f => ma_up f 2 _) ((ma_up_comm _ (show 0 ≠ 1 from (by decide)) _ _).trans (congrArg (fun f => ma_up f 1 _) (ma_up_up _ _ _ _)))))))).trans ((ma_up_comm _ (show 130 ≠ 131 from (by decide)) _ _).trans (congrArg (fun f => ma_up f 131 _) (ma_up_up _ _ _ _)))) ?_
          refine ev_aload_n (pc' := 150) (i := 0) dX8_layCut_149 rfl rfl rfl ?_
          refine ev_getR (pc' := 153) fo_X8_61 dX8_layCut_150 rfl hs_115 rfl rf_115_22 ?_
          refine ev_iload (pc' := 155) dX8_layCut_153 rfl rfl ?_
          refine ev_aload_n (pc' := 156) (i := 0) dX8_layCut_155 rfl rfl rfl ?_
          refine ev_getR (pc' := 159) fo_X8_55 dX8_layCut_156 rfl hs_115 rfl rf_115_20 ?_
          refine ev_iconst (pc' := 160) (v := 4) dX8_layCut_159 rfl ki_4 ?_
          refine ev_iload (pc' := 162) dX8_layCut_160 rfl rfl ?_
          refine ev_imul (pc' := 163) (v := 4) dX8_layCut_162 rfl (by decide) ?_
          refine ev_iload (pc' := 165) dX8_layCut_163 rfl rfl ?_
          refine ev_iadd (pc' := 166) (v := 4) dX8_layCut_165 rfl (by decide) ?_
          refine ev_iald (pc' := 167) (j := 4) (v := 0) dX8_layCut_166 rfl hs_129 rfl (Nat.le_of_ble_eq_true rfl) (Nat.le_of_ble_eq_true rfl) rfl ?_
          refine ev_iast (pc' := 168) (j := 0) (I' := (ma_up (ma_up (ma_up I 129 (ma_up (ma_up (ma_up (ma_up (ma_up (ma_up (ma_up (ma_up (ma_up (ma_up (ma_up (ma_up (I 129) 0 ((I 126) 3)) 1 0) 2 0) 3 (-((I 126) 0))) 4 0) 5 ((I 126) 3)) 6 0) 7 (-((I 126) 1))) 8 0) 9 0) 10 ((I 126) 3)) 11 (-((I 126) 2)))) 130 (ma_up (ma_up (ma_up (ma_up (I 130) 0 0) 1 ((I 126) 3)) 2 0) 3 (-((I 126) 1)))) 131 (ma_up (ma_up (ma_up (ma_up (I 131) 0 0) 1 0) 2 0) 3 (-((I 126) 0))))) dX8_layCut_167 rfl hs_131 rfl (Nat.le_of_ble_eq_true rfl) (Nat.le_of_ble_eq_true rfl) ((congrArg (ma_up _ 131) ((ma_up_comm _ (show 0 ≠ 3 from (by decide)) _ _).trans (congrArg (fun f => ma_up f 3 _) ((ma_up_comm _ (show 0 ≠ 2 from (by decide)) _ _).trans (congrArg (fun f => ma_up f 2 _) ((ma_up_comm _ (show 0 ≠ 1 from (by decide)) _ _).trans (congrArg (fun f => ma_up f 1 _) (ma_up_up _ _ _ _)))))))).trans (ma_up_up _ _ _ _)) ?_
          refine ev_iinc (pc' := 171) (v := 1) (lv' := [some (.ref 115), some (.int (nI q)), some (.int 3), some (.int 3), some (.int 1), some (.int 1), some (.int 1)]) dX8_layCut_168 rfl rfl (by decide) (Nat.le_of_ble_eq_true rfl) rfl rfl ?_
          refine ev_goto (tgt := 124) dX8_layCut_171 rfl ?_
          refine ev_iload (pc' := 126) dX8_layCut_124 rfl rfl ?_
          refine ev_iconst (pc' := 127) (v := 4) dX8_layCut_126 rfl ki_4 ?_
          refine ev_icmp_ge (tgt := 174) (pc' := 130) dX8_layCut_127 rfl rfl (fun h => absurd h (by decide)) (fun _ => ?_)
          refine ev_aload_n (pc' := 131) (i := 0) dX8_layCut_130 rfl rfl rfl ?_
          refine ev_getR (pc' := 134) fo_X8_58 dX8_layCut_131 rfl hs_115 rfl rf_115_21 ?_
          refine ev_iload (pc' := 136) dX8_layCut_134 rfl rfl ?_
          refine ev_aload_n (pc' := 137) (i := 0) dX8_layCut_136 rfl rfl rfl ?_
          refine ev_getR (pc' := 140) fo_X8_55 dX8_layCut_137 rfl hs_115 rfl rf_115_20 ?_
          refine ev_iconst (pc' := 141) (v := 4) dX8_layCut_140 rfl ki_4 ?_
          refine ev_iload (pc' := 143) dX8_layCut_141 rfl rfl ?_
          refine ev_imul (pc' := 144) (v := 4) dX8_layCut_143 rfl (by decide) ?_
          refine ev_iload (pc' := 146) dX8_layCut_144 rfl rfl ?_
          refine ev_iadd (pc' := 147) (v := 5) dX8_layCut_146 rfl (by decide) ?_
          refine ev_iald (pc' := 148) (j := 5) (v := (I 126) 3) dX8_layCut_147 rfl hs_129 rfl (Nat.le_of_ble_eq_true rfl) (Nat.le_of_ble_eq_true rfl) rfl ?_
          refine ev_iast (pc' := 149) (j := 1) (I' := (ma_up (ma_up (ma_up I 129 (ma_up (ma_up (ma_up (ma_up (ma_up (ma_up (ma_up (ma_up (ma_up (ma_up (ma_up (ma_up (I 129) 0 ((I 126) 3)) 1 0) 2 0) 3 (-((I 126) 0))) 4 0) 5 ((I 126) 3)) 6 0) 7 (-((I 126) 1))) 8 0) 9 0) 10 ((I 126) 3)) 11 (-((I 126) 2)))) 130 (ma_up (ma_up (ma_up (ma_up (I 130) 0 0) 1 ((I 126) 3)) 2 0) 3 (-((I 126) 1)))) 131 (ma_up (ma_up (ma_up (ma_up (I 131) 0 0) 1 0) 2 0) 3 (-((I 126) 0))))) dX8_layCut_148 rfl hs_130 rfl (Nat.le_of_ble_eq_true rfl) (Nat.le_of_ble_eq_true rfl) ((congrArg (ma_up _ 130) ((ma_up_comm _ (show 1 ≠ 3 from (by decide)) _ _).trans (congrArg (fun f => ma_up f 3 _) ((ma_up_comm _ (show 1 ≠ 2 from (by decide)) _ _).trans (congrArg (fun f => ma_up f 2 _) (ma_up_up _ _ _ _)))))).trans ((ma_up_comm _ (show 130 ≠ 131 from (by decide)) _ _).trans (congrArg (fun f => ma_up f 131 _) (ma_up_up _ _ _ _)))) ?_
          refine ev_aload_n (pc' := 150) (i := 0) dX8_layCut_149 rfl rfl rfl ?_
          refine ev_getR (pc' := 153) fo_X8_61 dX8_layCut_150 rfl hs_115 rfl rf_115_22 ?_
          refine ev_iload (pc' := 155) dX8_layCut_153 rfl rfl ?_
          refine ev_aload_n (pc' := 156) (i := 0) dX8_layCut_155 rfl rfl rfl ?_
          refine ev_getR (pc' := 159) fo_X8_55 dX8_layCut_156 rfl hs_115 rfl rf_115_20 ?_
          refine ev_iconst (pc' := 160) (v := 4) dX8_layCut_159 rfl ki_4 ?_
          refine ev_iload (pc' := 162) dX8_layCut_160 rfl rfl ?_
          refine ev_imul (pc' := 163) (v := 4) dX8_layCut_162 rfl (by decide) ?_
          refine ev_iload (pc' := 165) dX8_layCut_163 rfl rfl ?_
          refine ev_iadd (pc' := 166) (v := 5) dX8_layCut_165 rfl (by decide) ?_
          refine ev_iald (pc' := 167) (j := 5) (v := (I 126) 3) dX8_layCut_166 rfl hs_129 rfl (Nat.le_of_ble_eq_true rfl) (Nat.le_of_ble_eq_true rfl) rfl ?_
          refine ev_iast (pc' := 168) (j := 1) (I' := (ma_up (ma_up (ma_up I 129 (ma_up (ma_up (ma_up (ma_up (ma_up (ma_up (ma_up (ma_up (ma_up (ma_up (ma_up (ma_up (I 129) 0 ((I 126) 3)) 1 0) 2 0) 3 (-((I 126) 0))) 4 0) 5 ((I 126) 3)) 6 0) 7 (-((I 126) 1))) 8 0) 9 0) 10 ((I 126) 3)) 11 (-((I 126) 2)))) 130 (ma_up (ma_up (ma_up (ma_up (I 130) 0 0) 1 ((I 126) 3)) 2 0) 3 (-((I 126) 1)))) 131 (ma_up (ma_up (ma_up (ma_up (I 131) 0 0) 1 ((I 126) 3)) 2 0) 3 (-((I 126) 0))))) dX8_layCut_167 rfl hs_131 rfl (Nat.le_of_ble_eq_true rfl) (Nat.le_of_ble_eq_true rfl) ((congrArg (ma_up _ 131) ((ma_up_comm _ (show 1 ≠ 3 from (by decide)) _ _).trans (congrArg (fun f => ma_up f 3 _) ((ma_up_comm _ (show 1 ≠ 2 from (by decide)) _ _).trans (congrArg (fun f => ma_up f 2 _) (ma_up_up _ _ _ _)))))).trans (ma_up_up _ _ _ _)) ?_
          refine ev_iinc (pc' := 171) (v := 2) (lv' := [some (.ref 115), some (.int (nI q)), some (.int 3), some (.int 3), some (.int 1), some (.int 1), some (.int 2)]) dX8_layCut_168 rfl rfl (by decide) (Nat.le_of_ble_eq_true rfl) rfl rfl ?_
          refine ev_goto (tgt := 124) dX8_layCut_171 rfl ?_
          refine ev_iload (pc' := 126) dX8_layCut_124 rfl rfl ?_
          refine ev_iconst (pc' := 127) (v := 4) dX8_layCut_126 rfl ki_4 ?_
          refine ev_icmp_ge (tgt := 174) (pc' := 130) dX8_layCut_127 rfl rfl (fun h => absurd h (by decide)) (fun _ => ?_)
          refine ev_aload_n (pc' := 131) (i := 0) dX8_layCut_130 rfl rfl rfl ?_
          refine ev_getR (pc' := 134) fo_X8_58 dX8_layCut_131 rfl hs_115 rfl rf_115_21 ?_
          refine ev_iload (pc' := 136) dX8_layCut_134 rfl rfl ?_
          refine ev_aload_n (pc' := 137) (i := 0) dX8_layCut_136 rfl rfl rfl ?_
          refine ev_getR (pc' := 140) fo_X8_55 dX8_layCut_137 rfl hs_115 rfl rf_115_20 ?_
          refine ev_iconst (pc' := 141) (v := 4) dX8_layCut_140 rfl ki_4 ?_
          refine ev_iload (pc' := 143) dX8_layCut_141 rfl rfl ?_
          refine ev_imul (pc' := 144) (v := 4) dX8_layCut_143 rfl (by decide) ?_
          refine ev_iload (pc' := 146) dX8_layCut_144 rfl rfl ?_
          refine ev_iadd (pc' := 147) (v := 6) dX8_layCut_146 rfl (by decide) ?_
          refine ev_iald (pc' := 148) (j := 6) (v := 0) dX8_layCut_147 rfl hs_129 rfl (Nat.le_of_ble_eq_true rfl) (Nat.le_of_ble_eq_true rfl) rfl ?_
          refine ev_iast (pc' := 149) (j := 2) (I' := (ma_up (ma_up (ma_up I 129 (ma_up (ma_up (ma_up (ma_up (ma_up (ma_up (ma_up (ma_up (ma_up (ma_up (ma_up (ma_up (I 129) 0 ((I 126) 3)) 1 0) 2 0) 3 (-((I 126) 0))) 4 0) 5 ((I 126) 3)) 6 0) 7 (-((I 126) 1))) 8 0) 9 0) 10 ((I 126) 3)) 11 (-((I 126) 2)))) 130 (ma_up (ma_up (ma_up (ma_up (I 130) 0 0) 1 ((I 126) 3)) 2 0) 3 (-((I 126) 1)))) 131 (ma_up (ma_up (ma_up (ma_up (I 131) 0 0) 1 ((I 126) 3)) 2 0) 3 (-((I 126) 0))))) dX8_layCut_148 rfl hs_130 rfl (Nat.le_of_ble_eq_true rfl) (Nat.le_of_ble_eq_true rfl) ((congrArg (ma_up _ 130) ((ma_up_comm _ (show 2 ≠ 3 from (by decide)) _ _).trans (congrArg (fun f => ma_up f 3 _) (ma_up_up _ _ _ _)))).trans ((ma_up_comm _ (show 130 ≠ 131 from (by decide)) _ _).trans (congrArg (fun f => ma_up f 131 _) (ma_up_up _ _ _ _)))) ?_
          refine ev_aload_n (pc' := 150) (i := 0) dX8_layCut_149 rfl rfl rfl ?_
          refine ev_getR (pc' := 153) fo_X8_61 dX8_layCut_150 rfl hs_115 rfl rf_115_22 ?_
          refine ev_iload (pc' := 155) dX8_layCut_153 rfl rfl ?_
          refine ev_aload_n (pc' := 156) (i := 0) dX8_layCut_155 rfl rfl rfl ?_
          refine ev_getR (pc' := 159) fo_X8_55 dX8_layCut_156 rfl hs_115 rfl rf_115_20 ?_
          refine ev_iconst (pc' := 160) (v := 4) dX8_layCut_159 rfl ki_4 ?_
          refine ev_iload (pc' := 162) dX8_layCut_160 rfl rfl ?_
          refine ev_imul (pc' := 163) (v := 4) dX8_layCut_162 rfl (by decide) ?_
          refine ev_iload (pc' := 165) dX8_layCut_163 rfl rfl ?_
          refine ev_iadd (pc' := 166) (v := 6) dX8_layCut_165 rfl (by decide) ?_
          refine ev_iald (pc' := 167) (j := 6) (v := 0) dX8_layCut_166 rfl hs_129 rfl (Nat.le_of_ble_eq_true rfl) (Nat.le_of_ble_eq_true rfl) rfl ?_
          refine ev_iast (pc' := 168) (j := 2) (I' := (ma_up (ma_up (ma_up I 129 (ma_up (ma_up (ma_up (ma_up (ma_up (ma_up (ma_up (ma_up (ma_up (ma_up (ma_up (ma_up (I 129) 0 ((I 126) 3)) 1 0) 2 0) 3 (-((I 126) 0))) 4 0) 5 ((I 126) 3)) 6 0) 7 (-((I 126) 1))) 8 0) 9 0) 10 ((I 126) 3)) 11 (-((I 126) 2)))) 130 (ma_up (ma_up (ma_up (ma_up (I 130) 0 0) 1 ((I 126) 3)) 2 0) 3 (-((I 126) 1)))) 131 (ma_up (ma_up (ma_up (ma_up (I 131) 0 0) 1 ((I 126) 3)) 2 0) 3 (-((I 126) 0))))) dX8_layCut_167 rfl hs_131 rfl (Nat.le_of_ble_eq_true rfl) (Nat.le_of_ble_eq_true rfl) ((congrArg (ma_up _ 131) ((ma_up_comm _ (show 2 ≠ 3 from (by decide)) _ _).trans (congrArg (fun f => ma_up f 3 _) (ma_up_up _ _ _ _)))).trans (ma_up_up _ _ _ _)) ?_
          refine ev_iinc (pc' := 171) (v := 3) (lv' := [some (.ref 115), some (.int (nI q)), some (.int 3), some (.int 3), some (.int 1), some (.int 1), some (.int 3)]) dX8_layCut_168 rfl rfl (by decide) (Nat.le_of_ble_eq_true rfl) rfl rfl ?_
          refine ev_goto (tgt := 124) dX8_layCut_171 rfl ?_
          refine ev_iload (pc' := 126) dX8_layCut_124 rfl rfl ?_
          refine ev_iconst (pc' := 127) (v := 4) dX8_layCut_126 rfl ki_4 ?_
          refine ev_icmp_ge (tgt := 174) (pc' := 130) dX8_layCut_127 rfl rfl (fun h => absurd h (by decide)) (fun _ => ?_)
          refine ev_aload_n (pc' := 131) (i := 0) dX8_layCut_130 rfl rfl rfl ?_
          refine ev_getR (pc' := 134) fo_X8_58 dX8_layCut_131 rfl hs_115 rfl rf_115_21 ?_
          refine ev_iload (pc' := 136) dX8_layCut_134 rfl rfl ?_
          refine ev_aload_n (pc' := 137) (i := 0) dX8_layCut_136 rfl rfl rfl ?_
          refine ev_getR (pc' := 140) fo_X8_55 dX8_layCut_137 rfl hs_115 rfl rf_115_20 ?_
          refine ev_iconst (pc' := 141) (v := 4) dX8_layCut_140 rfl ki_4 ?_
          refine ev_iload (pc' := 143) dX8_layCut_141 rfl rfl ?_
          refine ev_imul (pc' := 144) (v := 4) dX8_layCut_143 rfl (by decide) ?_
          refine ev_iload (pc' := 146) dX8_layCut_144 rfl rfl ?_
          refine ev_iadd (pc' := 147) (v := 7) dX8_layCut_146 rfl (by decide) ?_
          refine ev_iald (pc' := 148) (j := 7) (v := -((I 126) 1)) dX8_layCut_147 rfl hs_129 rfl (Nat.le_of_ble_eq_true rfl) (Nat.le_of_ble_eq_true rfl) rfl ?_
          refine ev_iast (pc' := 149) (j := 3) (I' := (ma_up (ma_up (ma_up I 129 (ma_up (ma_up (ma_up (ma_up (ma_up (ma_up (ma_up (ma_up (ma_up (ma_up (ma_up (ma_up (I 129) 0 ((I 126) 3)) 1 0) 2 0) 3 (-((I 126) 0))) 4 0) 5 ((I 126) 3)) 6 0) 7 (-((I 126) 1))) 8 0) 9 0) 10 ((I 126) 3)) 11 (-((I 126) 2)))) 130 (ma_up (ma_up (ma_up (ma_up (I 130) 0 0) 1 ((I 126) 3)) 2 0) 3 (-((I 126) 1)))) 131 (ma_up (ma_up (ma_up (ma_up (I 131) 0 0) 1 ((I 126) 3)) 2 0) 3 (-((I 126) 0))))) dX8_layCut_148 rfl hs_130 rfl (Nat.le_of_ble_eq_true rfl) (Nat.le_of_ble_eq_true rfl) ((congrArg (ma_up _ 130) (ma_up_up _ _ _ _)).trans ((ma_up_comm _ (show 130 ≠ 131 from (by decide)) _ _).trans (congrArg (fun f => ma_up f 131 _) (ma_up_up _ _ _ _)))) ?_
          refine ev_aload_n (pc' := 150) (i := 0) dX8_layCut_149 rfl rfl rfl ?_
          refine ev_getR (pc' := 153) fo_X8_61 dX8_layCut_150 rfl hs_115 rfl rf_115_22 ?_
          refine ev_iload (pc' := 155) dX8_layCut_153 rfl rfl ?_
          refine ev_aload_n (pc' := 156) (i := 0) dX8_layCut_155 rfl rfl rfl ?_
          refine ev_getR (pc' := 159) fo_X8_55 dX8_layCut_156 rfl hs_115 rfl rf_115_20 ?_
          refine ev_iconst (pc' := 160) (v := 4) dX8_layCut_159 rfl ki_4 ?_
          refine ev_iload (pc' := 162) dX8_layCut_160 rfl rfl ?_
          refine ev_imul (pc' := 163) (v := 4) dX8_layCut_162 rfl (by decide) ?_
          refine ev_iload (pc' := 165) dX8_layCut_163 rfl rfl ?_
          refine ev_iadd (pc' := 166) (v := 7) dX8_layCut_165 rfl (by decide) ?_
          refine ev_iald (pc' := 167) (j := 7) (v := -((I 126) 1)) dX8_layCut_166 rfl hs_129 rfl (Nat.le_of_ble_eq_true rfl) (Nat.le_of_ble_eq_true rfl) rfl ?_
          refine ev_iast (pc' := 168) (j := 3) (I' := (ma_up (ma_up (ma_up I 129 (ma_up (ma_up (ma_up (ma_up (ma_up (ma_up (ma_up (ma_up (ma_up (ma_up (ma_up (ma_up (I 129) 0 ((I 126) 3)) 1 0) 2 0) 3 (-((I 126) 0))) 4 0) 5 ((I 126) 3)) 6 0) 7 (-((I 126) 1))) 8 0) 9 0) 10 ((I 126) 3)) 11 (-((I 126) 2)))) 130 (ma_up (ma_up (ma_up (ma_up (I 130) 0 0) 1 ((I 126) 3)) 2 0) 3 (-((I 126) 1)))) 131 (ma_up (ma_up (ma_up (ma_up (I 131) 0 0) 1 ((I 126) 3)) 2 0) 3 (-((I 126) 1))))) dX8_layCut_167 rfl hs_131 rfl (Nat.le_of_ble_eq_true rfl) (Nat.le_of_ble_eq_true rfl) ((congrArg (ma_up _ 131) (ma_up_up _ _ _ _)).trans (ma_up_up _ _ _ _)) ?_
          refine ev_iinc (pc' := 171) (v := 4) (lv' := [some (.ref 115), some (.int (nI q)), some (.int 3), some (.int 3), some (.int 1), some (.int 1), some (.int 4)]) dX8_layCut_168 rfl rfl (by decide) (Nat.le_of_ble_eq_true rfl) rfl rfl ?_
          refine ev_goto (tgt := 124) dX8_layCut_171 rfl ?_
          refine ev_iload (pc' := 126) dX8_layCut_124 rfl rfl ?_
          refine ev_iconst (pc' := 127) (v := 4) dX8_layCut_126 rfl ki_4 ?_
          refine ev_icmp_ge (tgt := 174) (pc' := 130) dX8_layCut_127 rfl rfl (fun _ => ?_) (fun h => absurd (by decide) h)
          refine ev_aload_n (pc' := 175) (i := 0) dX8_layCut_174 rfl rfl rfl ?_
          refine ev_getR (pc' := 178) fo_X8_26 dX8_layCut_175 rfl hs_115 rfl rf_115_8 ?_
          refine ev_iconst (pc' := 179) (v := 4) dX8_layCut_178 rfl ki_4 ?_
          refine ev_iload (pc' := 181) dX8_layCut_179 rfl rfl ?_
          refine ev_imul (pc' := 182) (v := 4) dX8_layCut_181 rfl (by decide) ?_
          refine ev_iload (pc' := 184) dX8_layCut_182 rfl rfl ?_
          refine ev_iadd (pc' := 185) (v := 5) dX8_layCut_184 rfl (by decide) ?_
          refine ev_aload_n (pc' := 186) (i := 0) dX8_layCut_185 rfl rfl rfl ?_
          refine ev_iload_n (pc' := 187) (i := 1) dX8_layCut_186 rfl rfl rfl ?_
          refine ev_aload_n (pc' := 188) (i := 0) dX8_layCut_187 rfl rfl rfl ?_
          refine ev_getR (pc' := 191) fo_X8_58 dX8_layCut_188 rfl hs_115 rfl rf_115_21 ?_
          refine ev_aload_n (pc' := 192) (i := 0) dX8_layCut_191 rfl rfl rfl ?_
          refine ev_getR (pc' := 195) fo_X8_61 dX8_layCut_192 rfl hs_115 rfl rf_115_22 ?_
          refine ev_callV (pc' := 198) (rm' := rX8_both) (b := 115) (av := [.int (nI q), .ref 130, .ref 131]) (rest := [.int 5, .ref 120]) co_X8_241 ci_X8_both cv_X8_both dX8_layCut_195 rfl hs_115 hb_X8 rfl rfl (Nat.le_of_ble_eq_true rfl) ⟨(Nat.le_of_ble_eq_true rfl), (Nat.le_of_ble_eq_true rfl)⟩ ⟨(Nat.le_of_ble_eq_true rfl), (Nat.le_of_ble_eq_true rfl)⟩ ?_
          refine t_X8_both q 130 131 hq hs_130 hs_131 ?_
          refine ev_eqi (w := mBo (I 123) (mSn 3 (I 126) 1) (mSn 3 (I 126) 1) q) rfl ?_
          refine ev_i2l (pc' := 199) (v := Int32.toInt64 (mBo (I 123) (mSn 3 (I 126) 1) (mSn 3 (I 126) 1) q)) dX8_layCut_198 rfl rfl ?_
          refine ev_last (pc' := 200) (j := 5) (L' := (ma_up L 120 (ma_up (ma_up (ma_up (ma_up (ma_up (L 120) 0 (Int32.toInt64 (mBo (I 123) (mSn 3 (I 126) 0) (mSn 3 (I 126) 0) q))) 1 (Int32.toInt64 (mBo (I 123) (mSn 3 (I 126) 0) (mSn 3 (I 126) 1) q))) 2 (Int32.toInt64 (mBo (I 123) (mSn 3 (I 126) 0) (mSn 3 (I 126) 2) q))) 4 (Int32.toInt64 (mBo (I 123) (mSn 3 (I 126) 1) (mSn 3 (I 126) 0) q))) 5 (Int32.toInt64 (mBo (I 123) (mSn 3 (I 126) 1) (mSn 3 (I 126) 1) q))))) dX8_layCut_199 rfl hs_120 rfl (Nat.le_of_ble_eq_true rfl) (Nat.le_of_ble_eq_true rfl) (ma_up_up _ _ _ _) ?_
          refine ev_iinc (pc' := 203) (v := 2) (lv' := [some (.ref 115), some (.int (nI q)), some (.int 3), some (.int 3), some (.int 1), some (.int 2), some (.int 4)]) dX8_layCut_200 rfl rfl (by decide) (Nat.le_of_ble_eq_true rfl) rfl rfl ?_
          refine ev_goto (tgt := 115) dX8_layCut_203 rfl ?_
          refine ev_iload (pc' := 117) dX8_layCut_115 rfl rfl ?_
          refine ev_iconst (pc' := 118) (v := 3) dX8_layCut_117 rfl ki_3 ?_
          refine ev_icmp_ge (tgt := 206) (pc' := 121) dX8_layCut_118 rfl rfl (fun h => absurd h (by decide)) (fun _ => ?_)
          refine ev_iconst (pc' := 122) (v := 0) dX8_layCut_121 rfl ki_0 ?_
          refine ev_istore (pc' := 124) (lv' := [some (.ref 115), some (.int (nI q)), some (.int 3), some (.int 3), some (.int 1), some (.int 2), some (.int 0)]) dX8_layCut_122 rfl (Nat.le_of_ble_eq_true rfl) rfl rfl ?_
          refine ev_iload (pc' := 126) dX8_layCut_124 rfl rfl ?_
          refine ev_iconst (pc' := 127) (v := 4) dX8_layCut_126 rfl ki_4 ?_
          refine ev_icmp_ge (tgt := 174) (pc' := 130) dX8_layCut_127 rfl rfl (fun h => absurd h (by decide)) (fun _ => ?_)
          refine ev_aload_n (pc' := 131) (i := 0) dX8_layCut_130 rfl rfl rfl ?_
          refine ev_getR (pc' := 134) fo_X8_58 dX8_layCut_131 rfl hs_115 rfl rf_115_21 ?_
          refine ev_iload (pc' := 136) dX8_layCut_134 rfl rfl ?_
          refine ev_aload_n (pc' := 137) (i := 0) dX8_layCut_136 rfl rfl rfl ?_
          refine ev_getR (pc' := 140) fo_X8_55 dX8_layCut_137 rfl hs_115 rfl rf_115_20 ?_
          refine ev_iconst (pc' := 141) (v := 4) dX8_layCut_140 rfl ki_4 ?_
          refine ev_iload (pc' := 143) dX8_layCut_141 rfl rfl ?_
          refine ev_imul (pc' := 144) (v := 4) dX8_layCut_143 rfl (by decide) ?_
          refine ev_iload (pc' := 146) dX8_layCut_144 rfl rfl ?_
          refine ev_iadd (pc' := 147) (v := 4) dX8_layCut_146 rfl (by decide) ?_
          refine ev_iald (pc' := 148) (j := 4) (v := 0) dX8_layCut_147 rfl hs_129 rfl (Nat.le_of_ble_eq_true rfl) (Nat.le_of_ble_eq_true rfl) rfl ?_
          refine ev_iast (pc' := 149) (j := 0) (I' := (ma_up (ma_up (ma_up I 129 (ma_up (ma_up (ma_up (ma_up (ma_up (ma_up (ma_up (ma_up (ma_up (ma_up (ma_up (ma_up (I 129) 0 ((I 126) 3)) 1 0) 2 0) 3 (-((I 126) 0))) 4 0) 5 ((I 126) 3)) 6 0) 7 (-((I 126) 1))) 8 0) 9 0) 10 ((I 126) 3)) 11 (-((I 126) 2)))) 130 (ma_up (ma_up (ma_up (ma_up (I 130) 0 0) 1 ((I 126) 3)) 2 0) 3 (-((I 126) 1)))) 131 (ma_up (ma_up (ma_up (ma_up (I 131) 0 0) 1 ((I 126) 3)) 2 0) 3 (-((I 126) 1))))) dX8_layCut_148 rfl hs_130 rfl (Nat.le_of_ble_eq_true rfl) (Nat.le_of_ble_eq_true rfl) ((congrArg (ma_up _ 130) ((ma_up_comm _ (show 0 ≠ 3 from (by decide)) _ _).trans (congrArg (fun f => ma_up f 3 _) ((ma_up_comm _ (show 0 ≠ 2 from (by decide)) _ _).trans (congrArg (fun f => ma_up f 2 _) ((ma_up_comm _ (show 0 ≠ 1 from (by decide)) _ _).trans (congrArg (fun f => ma_up f 1 _) (ma_up_up _ _ _ _)))))))).trans ((ma_up_comm _ (show 130 ≠ 131 from (by decide)) _ _).trans (congrArg (fun f => ma_up f 131 _) (ma_up_up _ _ _ _)))) ?_
          refine ev_aload_n (pc' := 150) (i := 0) dX8_layCut_149 rfl rfl rfl ?_
          refine ev_getR (pc' := 153) fo_X8_61 dX8_layCut_150 rfl hs_115 rfl rf_115_22 ?_
          refine ev_iload (pc' := 155) dX8_layCut_153 rfl rfl ?_
          refine ev_aload_n (pc' := 156) (i := 0) dX8_layCut_155 rfl rfl rfl ?_
          refine ev_getR (pc' := 159) fo_X8_55 dX8_layCut_156 rfl hs_115 rfl rf_115_20 ?_
          refine ev_iconst (pc' := 160) (v := 4) dX8_layCut_159 rfl ki_4 ?_
          refine ev_iload (pc' := 162) dX8_layCut_160 rfl rfl ?_
          refine ev_imul (pc' := 163) (v := 8) dX8_layCut_162 rfl (by decide) ?_
          refine ev_iload (pc' := 165) dX8_layCut_163 rfl rfl ?_
          refine ev_iadd (pc' := 166) (v := 8) dX8_layCut_165 rfl (by decide) ?_
          refine ev_iald (pc' := 167) (j := 8) (v := 0) dX8_layCut_166 rfl hs_129 rfl (Nat.le_of_ble_eq_true rfl) (Nat.le_of_ble_eq_true rfl) rfl ?_
          refine ev_iast (pc' := 168) (j := 0) (I' := (ma_up (ma_up (ma_up I 129 (ma_up (ma_up (ma_up (ma_up (ma_up (ma_up (ma_up (ma_up (ma_up (ma_up (ma_up (ma_up (I 129) 0 ((I 126) 3)) 1 0) 2 0) 3 (-((I 126) 0))) 4 0) 5 ((I 126) 3)) 6 0) 7 (-((I 126) 1))) 8 0) 9 0) 10 ((I 126) 3)) 11 (-((I 126) 2)))) 130 (ma_up (ma_up (ma_up (ma_up (I 130) 0 0) 1 ((I 126) 3)) 2 0) 3 (-((I 126) 1)))) 131 (ma_up (ma_up (ma_up (ma_up (I 131) 0 0) 1 ((I 126) 3)) 2 0) 3 (-((I 126) 1))))) dX8_layCut_167 rfl hs_131 rfl (Nat.le_of_ble_eq_true rfl) (Nat.le_of_ble_eq_true rfl) ((congrArg (ma_up _ 131) ((ma_up_comm _ (show 0 ≠ 3 from (by decide)) _ _).trans (congrArg (fun f => ma_up f 3 _) ((ma_up_comm _ (show 0 ≠ 2 from (by decide)) _ _).trans (congrArg (fun f => ma_up f 2 _) ((ma_up_comm _ (show 0 ≠ 1 from (by decide)) _ _).trans (congrArg (fun f => ma_up f 1 _) (ma_up_up _ _ _ _)))))))).trans (ma_up_up _ _ _ _)) ?_
          refine ev_iinc (pc' := 171) (v := 1) (lv' := [some (.ref 115), some (.int (nI q)), some (.int 3), some (.int 3), some (.int 1), some (.int 2), some (.int 1)]) dX8_layCut_168 rfl rfl (by decide) (Nat.le_of_ble_eq_true rfl) rfl rfl ?_
          refine ev_goto (tgt := 124) dX8_layCut_171 rfl ?_
          refine ev_iload (pc' := 126) dX8_layCut_124 rfl rfl ?_
          refine ev_iconst (pc' := 127) (v := 4) dX8_layCut_126 rfl ki_4 ?_
          refine ev_icmp_ge (tgt := 174) (pc' := 130) dX8_layCut_127 rfl rfl (fun h => absurd h (by decide)) (fun _ => ?_)
          refine ev_aload_n (pc' := 131) (i := 0) dX8_layCut_130 rfl rfl rfl ?_
          refine ev_getR (pc' := 134) fo_X8_58 dX8_layCut_131 rfl hs_115 rfl rf_115_21 ?_
          refine ev_iload (pc' := 136) dX8_layCut_134 rfl rfl ?_
          refine ev_aload_n (pc' := 137) (i := 0) dX8_layCut_136 rfl rfl rfl ?_
          refine ev_getR (pc' := 140) fo_X8_55 dX8_layCut_137 rfl hs_115 rfl rf_115_20 ?_
          refine ev_iconst (pc' := 141) (v := 4) dX8_layCut_140 rfl ki_4 ?_
          refine ev_iload (pc' := 143) dX8_layCut_141 rfl rfl ?_
          refine ev_imul (pc' := 144) (v := 4) dX8_layCut_143 rfl (by decide) ?_
          refine ev_iload (pc' := 146) dX8_layCut_144 rfl rfl ?_
          refine ev_iadd (pc' := 147) (v := 5) dX8_layCut_146 rfl (by decide) ?_
          refine ev_iald (pc' := 148) (j := 5) (v := (I 126) 3) dX8_layCut_147 rfl hs_129 rfl (Nat.le_of_ble_eq_true rfl) (Nat.le_of_ble_eq_true rfl) rfl ?_
          refine ev_iast (pc' := 149) (j := 1) (I' := (ma_up (ma_up (ma_up I 129 (ma_up (ma_up (ma_up (ma_up (ma_up (ma_up (ma_up (ma_up (ma_up (ma_up (ma_up (ma_up (I 129) 0 ((I 126) 3)) 1 0) 2 0) 3 (-((I 126) 0))) 4 0) 5 ((I 126) 3)) 6 0) 7 (-((I 126) 1))) 8 0) 9 0) 10 ((I 126) 3)) 11 (-((I 126) 2)))) 130 (ma_up (ma_up (ma_up (ma_up (I 130) 0 0) 1 ((I 126) 3)) 2 0) 3 (-((I 126) 1)))) 131 (ma_up (ma_up (ma_up (ma_up (I 131) 0 0) 1 ((I 126) 3)) 2 0) 3 (-((I 126) 1))))) dX8_layCut_148 rfl hs_130 rfl (Nat.le_of_ble_eq_true rfl) (Nat.le_of_ble_eq_true rfl) ((congrArg (ma_up _ 130) ((ma_up_comm _ (show 1 ≠ 3 from (by decide)) _ _).trans (congrArg (fun f => ma_up f 3 _) ((ma_up_comm _ (show 1 ≠ 2 from (by decide)) _ _).trans (congrArg (fun f => ma_up f 2 _) (ma_up_up _ _ _ _)))))).trans ((ma_up_comm _ (show 130 ≠ 131 from (by decide)) _ _).trans (congrArg (fun f => ma_up f 131 _) (ma_up_up _ _ _ _)))) ?_
          refine ev_aload_n (pc' := 150) (i := 0) dX8_layCut_149 rfl rfl rfl ?_
          refine ev_getR (pc' := 153) fo_X8_61 dX8_layCut_150 rfl hs_115 rfl rf_115_22 ?_
          refine ev_iload (pc' := 155) dX8_layCut_153 rfl rfl ?_
          refine ev_aload_n (pc' := 156) (i := 0) dX8_layCut_155 rfl rfl rfl ?_
          refine ev_getR (pc' := 159) fo_X8_55 dX8_layCut_156 rfl hs_115 rfl rf_115_20 ?_
          refine ev_iconst (pc' := 160) (v := 4) dX8_layCut_159 rfl ki_4 ?_
          refine ev_iload (pc' := 162) dX8_layCut_160 rfl rfl ?_
          refine ev_imul (pc' := 163) (v := 8) dX8_layCut_162 rfl (by decide) ?_
          refine ev_iload (pc' := 165) dX8_layCut_163 rfl rfl ?_
          refine ev_iadd (pc' := 166) (v := 9) dX8_layCut_165 rfl (by decide) ?_
          refine ev_iald (pc' := 167) (j := 9) (v := 0) dX8_layCut_166 rfl hs_129 rfl (Nat.le_of_ble_eq_true rfl) (Nat.le_of_ble_eq_true rfl) rfl ?_
          refine ev_iast (pc' := 168) (j := 1) (I' := (ma_up (ma_up (ma_up I 129 (ma_up (ma_up (ma_up (ma_up (ma_up (ma_up (ma_up (ma_up (ma_up (ma_up (ma_up (ma_up (I 129) 0 ((I 126) 3)) 1 0) 2 0) 3 (-((I 126) 0))) 4 0) 5 ((I 126) 3)) 6 0) 7 (-((I 126) 1))) 8 0) 9 0) 10 ((I 126) 3)) 11 (-((I 126) 2)))) 130 (ma_up (ma_up (ma_up (ma_up (I 130) 0 0) 1 ((I 126) 3)) 2 0) 3 (-((I 126) 1)))) 131 (ma_up (ma_up (ma_up (ma_up (I 131) 0 0) 1 0) 2 0) 3 (-((I 126) 1))))) dX8_layCut_167 rfl hs_131 rfl (Nat.le_of_ble_eq_true rfl) (Nat.le_of_ble_eq_true rfl) ((congrArg (ma_up _ 131) ((ma_up_comm _ (show 1 ≠ 3 from (by decide)) _ _).trans (congrArg (fun f => ma_up f 3 _) ((ma_up_comm _ (show 1 ≠ 2 from (by decide)) _ _).trans (congrArg (fun f => ma_up f 2 _) (ma_up_up _ _ _ _)))))).trans (ma_up_up _ _ _ _)) ?_
          refine ev_iinc (pc' := 171) (v := 2) (lv' := [some (.ref 115), some (.int (nI q)), some (.int 3), some (.int 3), some (.int 1), some (.int 2), some (.int 2)]) dX8_layCut_168 rfl rfl (by decide) (Nat.le_of_ble_eq_true rfl) rfl rfl ?_
          refine ev_goto (tgt := 124) dX8_layCut_171 rfl ?_
          refine ev_iload (pc' := 126) dX8_layCut_124 rfl rfl ?_
          refine ev_iconst (pc' := 127) (v := 4) dX8_layCut_126 rfl ki_4 ?_
          refine ev_icmp_ge (tgt := 174) (pc' := 130) dX8_layCut_127 rfl rfl (fun h => absurd h (by decide)) (fun _ => ?_)
          refine ev_aload_n (pc' := 131) (i := 0) dX8_layCut_130 rfl rfl rfl ?_
          refine ev_getR (pc' := 134) fo_X8_58 dX8_layCut_131 rfl hs_115 rfl rf_115_21 ?_
          refine ev_iload (pc' := 136) dX8_layCut_134 rfl rfl ?_
          refine ev_aload_n (pc' := 137) (i := 0) dX8_layCut_136 rfl rfl rfl ?_
          refine ev_getR (pc' := 140) fo_X8_55 dX8_layCut_137 rfl hs_115 rfl rf_115_20 ?_
          refine ev_iconst (pc' := 141) (v := 4) dX8_layCut_140 rfl ki_4 ?_
          refine ev_iload (pc' := 143) dX8_layCut_141 rfl rfl ?_
          refine ev_imul (pc' := 144) (v := 4) dX8_layCut_143 rfl (by decide) ?_
          refine ev_iload (pc' := 146) dX8_layCut_144 rfl rfl ?_
          refine ev_iadd (pc' := 147) (v := 6) dX8_layCut_146 rfl (by decide) ?_
          refine ev_iald (pc' := 148) (j := 6) (v := 0) dX8_layCut_147 rfl hs_129 rfl (Nat.le_of_ble_eq_true rfl) (Nat.le_of_ble_eq_true rfl) rfl ?_
          refine ev_iast (pc' := 149) (j := 2) (I' := (ma_up (ma_up (ma_up I 129 (ma_up (ma_up (ma_up (ma_up (ma_up (ma_up (ma_up (ma_up (ma_up (ma_up (ma_up (ma_up (I 129) 0 ((I 126) 3)) 1 0) 2 0) 3 (-((I 126) 0))) 4 0) 5 ((I 126) 3)) 6 0) 7 (-((I 126) 1))) 8 0) 9 0) 10 ((I 126) 3)) 11 (-((I 126) 2)))) 130 (ma_up (ma_up (ma_up (ma_up (I 130) 0 0) 1 ((I 126) 3)) 2 0) 3 (-((I 126) 1)))) 131 (ma_up (ma_up (ma_up (ma_up (I 131) 0 0) 1 0) 2 0) 3 (-((I 126) 1))))) dX8_layCut_148 rfl hs_130 rfl (Nat.le_of_ble_eq_true rfl) (Nat.le_of_ble_eq_true rfl) ((congrArg (ma_up _ 130) ((ma_up_comm _ (show 2 ≠ 3 from (by decide)) _ _).trans (congrArg (fun f => ma_up f 3 _) (ma_up_up _ _ _ _)))).trans ((ma_up_comm _ (show 130 ≠ 131 from (by decide)) _ _).trans (congrArg (fun f => ma_up f 131 _) (ma_up_up _ _ _ _)))) ?_
          refine ev_aload_n (pc' := 150) (i := 0) dX8_layCut_149 rfl rfl rfl ?_
          refine ev_getR (pc' := 153) fo_X8_61 dX8_layCut_150 rfl hs_115 rfl rf_115_22 ?_
          refine ev_iload (pc' := 155) dX8_layCut_153 rfl rfl ?_
          refine ev_aload_n (pc' := 156) (i := 0) dX8_layCut_155 rfl rfl rfl ?_
          refine ev_getR (pc' := 159) fo_X8_55 dX8_layCut_156 rfl hs_115 rfl rf_115_20 ?_
          refine ev_iconst (pc' := 160) (v := 4) dX8_layCut_159 rfl ki_4 ?_
          refine ev_iload (pc' := 162) dX8_layCut_160 rfl rfl ?_
          refine ev_imul (pc' := 163) (v := 8) dX8_layCut_162 rfl (by decide) ?_
          refine ev_iload (pc' := 165) dX8_layCut_163 rfl rfl ?_
          refine ev_iadd (pc' := 166) (v := 10) dX8_layCut_165 rfl (by decide) ?_
          refine ev_iald (pc' := 167) (j := 10) (v := (I 126) 3) dX8_layCut_166 rfl hs_129 rfl (Nat.le_of_ble_eq_true rfl) (Nat.le_of_ble_eq_true rfl) rfl ?_
          refine ev_iast (pc' := 168) (j := 2) (I' := (ma_up (ma_up (ma_up I 129 (ma_up (ma_up (ma_up (ma_up (ma_up (ma_up (ma_up (ma_up (ma_up (ma_up (ma_up (ma_up (I 129) 0 ((I 126) 3)) 1 0) 2 0) 3 (-((I 126) 0))) 4 0) 5 ((I 126) 3)) 6 0) 7 (-((I 126) 1))) 8 0) 9 0) 10 ((I 126) 3)) 11 (-((I 126) 2)))) 130 (ma_up (ma_up (ma_up (ma_up (I 130) 0 0) 1 ((I 126) 3)) 2 0) 3 (-((I 126) 1)))) 131 (ma_up (ma_up (ma_up (ma_up (I 131) 0 0) 1 0) 2 ((I 126) 3)) 3 (-((I 126) 1))))) dX8_layCut_167 rfl hs_131 rfl (Nat.le_of_ble_eq_true rfl) (Nat.le_of_ble_eq_true rfl) ((congrArg (ma_up _ 131) ((ma_up_comm _ (show 2 ≠ 3 from (by decide)) _ _).trans (congrArg (fun f => ma_up f 3 _) (ma_up_up _ _ _ _)))).trans (ma_up_up _ _ _ _)) ?_
          refine ev_iinc (pc' := 171) (v := 3) (lv' := [some (.ref 115), some (.int (nI q)), some (.int 3), some (.int 3), some (.int 1), some (.int 2), some (.int 3)]) dX8_layCut_168 rfl rfl (by decide) (Nat.le_of_ble_eq_true rfl) rfl rfl ?_
          refine ev_goto (tgt := 124) dX8_layCut_171 rfl ?_
          refine ev_iload (pc' := 126) dX8_layCut_124 rfl rfl ?_
          refine ev_iconst (pc' := 127) (v := 4) dX8_layCut_126 rfl ki_4 ?_
          refine ev_icmp_ge (tgt := 174) (pc' := 130) dX8_layCut_127 rfl rfl (fun h => absurd h (by decide)) (fun _ => ?_)
          refine ev_aload_n (pc' := 131) (i := 0) dX8_layCut_130 rfl rfl rfl ?_
          refine ev_getR (pc' := 134) fo_X8_58 dX8_layCut_131 rfl hs_115 rfl rf_115_21 ?_
          refine ev_iload (pc' := 136) dX8_layCut_134 rfl rfl ?_
          refine ev_aload_n (pc' := 137) (i := 0) dX8_layCut_136 rfl rfl rfl ?_
          refine ev_getR (pc' := 140) fo_X8_55 dX8_layCut_137 rfl hs_115 rfl rf_115_20 ?_
          refine ev_iconst (pc' := 141) (v := 4) dX8_layCut_140 rfl ki_4 ?_
          refine ev_iload (pc' := 143) dX8_layCut_141 rfl rfl ?_
          refine ev_imul (pc' := 144) (v := 4) dX8_layCut_143 rfl (by decide) ?_
          refine ev_iload (pc' := 146) dX8_layCut_144 rfl rfl ?_
          refine ev_iadd (pc' := 147) (v := 7) dX8_layCut_146 rfl (by decide) ?_
          refine ev_iald (pc' := 148) (j := 7) (v := -((I 126) 1)) dX8_layCut_147 rfl hs_129 rfl (Nat.le_of_ble_eq_true rfl) (Nat.le_of_ble_eq_true rfl) rfl ?_
          refine ev_iast (pc' := 149) (j := 3) (I' := (ma_up (ma_up (ma_up I 129 (ma_up (ma_up (ma_up (ma_up (ma_up (ma_up (ma_up (ma_up (ma_up (ma_up (ma_up (ma_up (I 129) 0 ((I 126) 3)) 1 0) 2 0) 3 (-((I 126) 0))) 4 0) 5 ((I 126) 3)) 6 0) 7 (-((I 126) 1))) 8 0) 9 0) 10 ((I 126) 3)) 11 (-((I 126) 2)))) 130 (ma_up (ma_up (ma_up (ma_up (I 130) 0 0) 1 ((I 126) 3)) 2 0) 3 (-((I 126) 1)))) 131 (ma_up (ma_up (ma_up (ma_up (I 131) 0 0) 1 0) 2 ((I 126) 3)) 3 (-((I 126) 1))))) dX8_layCut_148 rfl hs_130 rfl (Nat.le_of_ble_eq_true rfl) (Nat.le_of_ble_eq_true rfl) ((congrArg (ma_up _ 130) (ma_up_up _ _ _ _)).trans ((ma_up_comm _ (show 130 ≠ 131 from (by decide)) _ _).trans (congrArg (fun f => ma_up f 131 _) (ma_up_up _ _ _ _)))) ?_
          refine ev_aload_n (pc' := 150) (i := 0) dX8_layCut_149 rfl rfl rfl ?_
          refine ev_getR (pc' := 153) fo_X8_61 dX8_layCut_150 rfl hs_115 rfl rf_115_22 ?_
          refine ev_iload (pc' := 155) dX8_layCut_153 rfl rfl ?_
          refine ev_aload_n (pc' := 156) (i := 0) dX8_layCut_155 rfl rfl rfl ?_
          refine ev_getR (pc' := 159) fo_X8_55 dX8_layCut_156 rfl hs_115 rfl rf_115_20 ?_
          refine ev_iconst (pc' := 160) (v := 4) dX8_layCut_159 rfl ki_4 ?_
          refine ev_iload (pc' := 162) dX8_layCut_160 rfl rfl ?_
          refine ev_imul (pc' := 163) (v := 8) dX8_layCut_162 rfl (by decide) ?_
          refine ev_iload (pc' := 165) dX8_layCut_163 rfl rfl ?_
          refine ev_iadd (pc' := 166) (v := 11) dX8_layCut_165 rfl (by decide) ?_
          refine ev_iald (pc' := 167) (j := 11) (v := -((I 126) 2)) dX8_layCut_166 rfl hs_129 rfl (Nat.le_of_ble_eq_true rfl) (Nat.le_of_ble_eq_true rfl) rfl ?_
          refine ev_iast (pc' := 168) (j := 3) (I' := (ma_up (ma_up (ma_up I 129 (ma_up (ma_up (ma_up (ma_up (ma_up (ma_up (ma_up (ma_up (ma_up (ma_up (ma_up (ma_up (I 129) 0 ((I 126) 3)) 1 0) 2 0) 3 (-((I 126) 0))) 4 0) 5 ((I 126) 3)) 6 0) 7 (-((I 126) 1))) 8 0) 9 0) 10 ((I 126) 3)) 11 (-((I 126) 2)))) 130 (ma_up (ma_up (ma_up (ma_up (I 130) 0 0) 1 ((I 126) 3)) 2 0) 3 (-((I 126) 1)))) 131 (ma_up (ma_up (ma_up (ma_up (I 131) 0 0) 1 0) 2 ((I 126) 3)) 3 (-((I 126) 2))))) dX8_layCut_167 rfl hs_131 rfl (Nat.le_of_ble_eq_true rfl) (Nat.le_of_ble_eq_true rfl) ((congrArg (ma_up _ 131) (ma_up_up _ _ _ _)).trans (ma_up_up _ _ _ _)) ?_
          refine ev_iinc (pc' := 171) (v := 4) (lv' := [some (.ref 115), some (.int (nI q)), some (.int 3), some (.int 3), some (.int 1), some (.int 2), some (.int 4)]) dX8_layCut_168 rfl rfl (by decide) (Nat.le_of_ble_eq_true rfl) rfl rfl ?_
          refine ev_goto (tgt := 124) dX8_layCut_171 rfl ?_
          refine ev_iload (pc' := 126) dX8_layCut_124 rfl rfl ?_
          refine ev_iconst (pc' := 127) (v := 4) dX8_layCut_126 rfl ki_4 ?_
          refine ev_icmp_ge (tgt := 174) (pc' := 130) dX8_layCut_127 rfl rfl (fun _ => ?_) (fun h => absurd (by decide) h)
          refine ev_aload_n (pc' := 175) (i := 0) dX8_layCut_174 rfl rfl rfl ?_
          refine ev_getR (pc' := 178) fo_X8_26 dX8_layCut_175 rfl hs_115 rfl rf_115_8 ?_
          refine ev_iconst (pc' := 179) (v := 4) dX8_layCut_178 rfl ki_4 ?_
          refine ev_iload (pc' := 181) dX8_layCut_179 rfl rfl ?_
          refine ev_imul (pc' := 182) (v := 4) dX8_layCut_181 rfl (by decide) ?_
          refine ev_iload (pc' := 184) dX8_layCut_182 rfl rfl ?_
          refine ev_iadd (pc' := 185) (v := 6) dX8_layCut_184 rfl (by decide) ?_
          refine ev_aload_n (pc' := 186) (i := 0) dX8_layCut_185 rfl rfl rfl ?_
          refine ev_iload_n (pc' := 187) (i := 1) dX8_layCut_186 rfl rfl rfl ?_
          refine ev_aload_n (pc' := 188) (i := 0) dX8_layCut_187 rfl rfl rfl ?_
          refine ev_getR (pc' := 191) fo_X8_58 dX8_layCut_188 rfl hs_115 rfl rf_115_21 ?_
          refine ev_aload_n (pc' := 192) (i := 0) dX8_layCut_191 rfl rfl rfl ?_
          refine ev_getR (pc' := 195) fo_X8_61 dX8_layCut_192 rfl hs_115 rfl rf_115_22 ?_
          refine ev_callV (pc' := 198) (rm' := rX8_both) (b := 115) (av := [.int (nI q), .ref 130, .ref 131]) (rest := [.int 6, .ref 120]) co_X8_241 ci_X8_both cv_X8_both dX8_layCut_195 rfl hs_115 hb_X8 rfl rfl (Nat.le_of_ble_eq_true rfl) ⟨(Nat.le_of_ble_eq_true rfl), (Nat.le_of_ble_eq_true rfl)⟩ ⟨(Nat.le_of_ble_eq_true rfl), (Nat.le_of_ble_eq_true rfl)⟩ ?_
          refine t_X8_both q 130 131 hq hs_130 hs_131 ?_
          refine ev_eqi (w := mBo (I 123) (mSn 3 (I 126) 1) (mSn 3 (I 126) 2) q) rfl ?_
          refine ev_i2l (pc' := 199) (v := Int32.toInt64 (mBo (I 123) (mSn 3 (I 126) 1) (mSn 3 (I 126) 2) q)) dX8_layCut_198 rfl rfl ?_
          refine ev_last (pc' := 200) (j := 6) (L' := (ma_up L 120 (ma_up (ma_up (ma_up (ma_up (ma_up (ma_up (L 120) 0 (Int32.toInt64 (mBo (I 123) (mSn 3 (I 126) 0) (mSn 3 (I 126) 0) q))) 1 (Int32.toInt64 (mBo (I 123) (mSn 3 (I 126) 0) (mSn 3 (I 126) 1) q))) 2 (Int32.toInt64 (mBo (I 123) (mSn 3 (I 126) 0) (mSn 3 (I 126) 2) q))) 4 (Int32.toInt64 (mBo (I 123) (mSn 3 (I 126) 1) (mSn 3 (I 126) 0) q))) 5 (Int32.toInt64 (mBo (I 123) (mSn 3 (I 126) 1) (mSn 3 (I 126) 1) q))) 6 (Int32.toInt64 (mBo (I 123) (mSn 3 (I 126) 1) (mSn 3 (I 126) 2) q))))) dX8_layCut_199 rfl hs_120 rfl (Nat.le_of_ble_eq_true rfl) (Nat.le_of_ble_eq_true rfl) (ma_up_up _ _ _ _) ?_
          refine ev_iinc (pc' := 203) (v := 3) (lv' := [some (.ref 115), some (.int (nI q)), some (.int 3), some (.int 3), some (.int 1), some (.int 3), some (.int 4)]) dX8_layCut_200 rfl rfl (by decide) (Nat.le_of_ble_eq_true rfl) rfl rfl ?_
          refine ev_goto (tgt := 115) dX8_layCut_203 rfl ?_
          refine ev_iload (pc' := 117) dX8_layCut_115 rfl rfl ?_
          refine ev_iconst (pc' := 118) (v := 3) dX8_layCut_117 rfl ki_3 ?_
          refine ev_icmp_ge (tgt := 206) (pc' := 121) dX8_layCut_118 rfl rfl (fun _ => ?_) (fun h => absurd (by decide) h)
          refine ev_iinc (pc' := 209) (v := 2) (lv' := [some (.ref 115), some (.int (nI q)), some (.int 3), some (.int 3), some (.int 2), some (.int 3), some (.int 4)]) dX8_layCut_206 rfl rfl (by decide) (Nat.le_of_ble_eq_true rfl) rfl rfl ?_
          refine ev_goto (tgt := 106) dX8_layCut_209 rfl ?_
          refine ev_iload (pc' := 108) dX8_layCut_106 rfl rfl ?_
          refine ev_iconst (pc' := 109) (v := 3) dX8_layCut_108 rfl ki_3 ?_
          refine ev_icmp_ge (tgt := 212) (pc' := 112) dX8_layCut_109 rfl rfl (fun h => absurd h (by decide)) (fun _ => ?_)
          refine ev_iconst (pc' := 113) (v := 0) dX8_layCut_112 rfl ki_0 ?_
          refine ev_istore (pc' := 115) (lv' := [some (.ref 115), some (.int (nI q)), some (.int 3), some (.int 3), some (.int 2), some (.int 0), some (.int 4)]) dX8_layCut_113 rfl (Nat.le_of_ble_eq_true rfl) rfl rfl ?_
          refine ev_iload (pc' := 117) dX8_layCut_115 rfl rfl ?_
          refine ev_iconst (pc' := 118) (v := 3) dX8_layCut_117 rfl ki_3 ?_
          refine ev_icmp_ge (tgt := 206) (pc' := 121) dX8_layCut_118 rfl rfl (fun h => absurd h (by decide)) (fun _ => ?_)
          refine ev_iconst (pc' := 122) (v := 0) dX8_layCut_121 rfl ki_0 ?_
          refine ev_istore (pc' := 124) (lv' := [some (.ref 115), some (.int (nI q)), some (.int 3), some (.int 3), some (.int 2), some (.int 0), some (.int 0)]) dX8_layCut_122 rfl (Nat.le_of_ble_eq_true rfl) rfl rfl ?_
          refine ev_iload (pc' := 126) dX8_layCut_124 rfl rfl ?_
          refine ev_iconst (pc' := 127) (v := 4) dX8_layCut_126 rfl ki_4 ?_
          refine ev_icmp_ge (tgt := 174) (pc' := 130) dX8_layCut_127 rfl rfl (fun h => absurd h (by decide)) (fun _ => ?_)
          refine ev_aload_n (pc' := 131) (i := 0) dX8_layCut_130 rfl rfl rfl ?_
          refine ev_getR (pc' := 134) fo_X8_58 dX8_layCut_131 rfl hs_115 rfl rf_115_21 ?_
          refine ev_iload (pc' := 136) dX8_layCut_134 rfl rfl ?_
          refine ev_aload_n (pc' := 137) (i := 0) dX8_layCut_136 rfl rfl rfl ?_
          refine ev_getR (pc' := 140) fo_X8_55 dX8_layCut_137 rfl hs_115 rfl rf_115_20 ?_
          refine ev_iconst (pc' := 141) (v := 4) dX8_layCut_140 rfl ki_4 ?_
          refine ev_iload (pc' := 143) dX8_layCut_141 rfl rfl ?_
          refine ev_imul (pc' := 144) (v := 8) dX8_layCut_143 rfl (by decide) ?_
          refine ev_iload (pc' := 146) dX8_layCut_144 rfl rfl ?_
          refine ev_iadd (pc' := 147) (v := 8) dX8_layCut_146 rfl (by decide) ?_
          refine ev_iald (pc' := 148) (j := 8) (v := 0) dX8_layCut_147 rfl hs_129 rfl (Nat.le_of_ble_eq_true rfl) (Nat.le_of_ble_eq_true rfl) rfl ?_
          refine ev_iast (pc' := 149) (j := 0) (I' := (ma_up (ma_up (ma_up I 129 (ma_up (ma_up (ma_up (ma_up (ma_up (ma_up (ma_up (ma_up (ma_up (ma_up (ma_up (ma_up (I 129) 0 ((I 126) 3)) 1 0) 2 0) 3 (-((I 126) 0))) 4 0) 5 ((I 126) 3)) 6 0) 7 (-((I 126) 1))) 8 0) 9 0) 10 ((I 126) 3)) 11 (-((I 126) 2)))) 130 (ma_up (ma_up (ma_up (ma_up (I 130) 0 0) 1 ((I 126) 3)) 2 0) 3 (-((I 126) 1)))) 131 (ma_up (ma_up (ma_up (ma_up (I 131) 0 0) 1 0) 2 ((I 126) 3)) 3 (-((I 126) 2))))) dX8_layCut_148 rfl hs_130 rfl (Nat.le_of_ble_eq_true rfl) (Nat.le_of_ble_eq_true rfl) ((congrArg (ma_up _ 130) ((ma_up_comm _ (show 0 ≠ 3 from (by decide)) _ _).trans (congrArg (fun f => ma_up f 3 _) ((ma_up_comm _ (show 0 ≠ 2 from (by decide)) _ _).trans (congrArg (fun f => ma_up f 2 _) ((ma_up_comm _ (show 0 ≠ 1 from (by decide)) _ _).trans (congrArg (fun f => ma_up f 1 _) (ma_up_up _ _ _ _)))))))).trans ((ma_up_comm _ (show 130 ≠ 131 from (by decide)) _ _).trans (congrArg (fun f => ma_up f 131 _) (ma_up_up _ _ _ _)))) ?_
          refine ev_aload_n (pc' := 150) (i := 0) dX8_layCut_149 rfl rfl rfl ?_
          refine ev_getR (pc' := 153) fo_X8_61 dX8_layCut_150 rfl hs_115 rfl rf_115_22 ?_
          refine ev_iload (pc' := 155) dX8_layCut_153 rfl rfl ?_
          refine ev_aload_n (pc' := 156) (i := 0) dX8_layCut_155 rfl rfl rfl ?_
          refine ev_getR (pc' := 159) fo_X8_55 dX8_layCut_156 rfl hs_115 rfl rf_115_20 ?_
          refine ev_iconst (pc' := 160) (v := 4) dX8_layCut_159 rfl ki_4 ?_
          refine ev_iload (pc' := 162) dX8_layCut_160 rfl rfl ?_
          refine ev_imul (pc' := 163) (v := 0) dX8_layCut_162 rfl (by decide) ?_
          refine ev_iload (pc' := 165) dX8_layCut_163 rfl rfl ?_
          refine ev_iadd (pc' := 166) (v := 0) dX8_layCut_165 rfl (by decide) ?_
          refine ev_iald (pc' := 167) (j := 0) (v := (I 126) 3) dX8_layCut_166 rfl hs_129 rfl (Nat.le_of_ble_eq_true rfl) (Nat.le_of_ble_eq_true rfl) rfl ?_
          refine ev_iast (pc' := 168) (j := 0) (I' := (ma_up (ma_up (ma_up I 129 (ma_up (ma_up (ma_up (ma_up (ma_up (ma_up (ma_up (ma_up (ma_up (ma_up (ma_up (ma_up (I 129) 0 ((I 126) 3)) 1 0) 2 0) 3 (-((I 126) 0))) 4 0) 5 ((I 126) 3)) 6 0) 7 (-((I 126) 1))) 8 0) 9 0) 10 ((I 126) 3)) 11 (-((I 126) 2)))) 130 (ma_up (ma_up (ma_up (ma_up (I 130) 0 0) 1 ((I 126) 3)) 2 0) 3 (-((I 126) 1)))) 131 (ma_up (ma_up (ma_up (ma_up (I 131) 0 ((I 126) 3)) 1 0) 2 ((I 126) 3)) 3 (-((I 126) 2))))) dX8_layCut_167 rfl hs_131 rfl (Nat.le_of_ble_eq_true rfl) (Nat.le_of_ble_eq_true rfl) ((congrArg (ma_up _ 131) ((ma_up_comm _ (show 0 ≠ 3 from (by decide)) _ _).trans (congrArg (fun f => ma_up f 3 _) ((ma_up_comm _ (show 0 ≠ 2 from (by decide)) _ _).trans (congrArg (fun f => ma_up f 2 _) ((ma_up_comm _ (show 0 ≠ 1 from (by decide)) _ _).trans (congrArg (fun f => ma_up f 1 _) (ma_up_up _ _ _ _)))))))).trans (ma_up_up _ _ _ _)) ?_
          refine ev_iinc (pc' := 171) (v := 1) (lv' := [some (.ref 115), some (.int (nI q)), some (.int 3), some (.int 3), some (.int 2), some (.int 0), some (.int 1)]) dX8_layCut_168 rfl rfl (by decide) (Nat.le_of_ble_eq_true rfl) rfl rfl ?_
          refine ev_goto (tgt := 124) dX8_layCut_171 rfl ?_
          refine ev_iload (pc' := 126) dX8_layCut_124 rfl rfl ?_
          refine ev_iconst (pc' := 127) (v := 4) dX8_layCut_126 rfl ki_4 ?_
          refine ev_icmp_ge (tgt := 174) (pc' := 130) dX8_layCut_127 rfl rfl (fun h => absurd h (by decide)) (fun _ => ?_)
          refine ev_aload_n (pc' := 131) (i := 0) dX8_layCut_130 rfl rfl rfl ?_
          refine ev_getR (pc' := 134) fo_X8_58 dX8_layCut_131 rfl hs_115 rfl rf_115_21 ?_
          refine ev_iload (pc' := 136) dX8_layCut_134 rfl rfl ?_
          refine ev_aload_n (pc' := 137) (i := 0) dX8_layCut_136 rfl rfl rfl ?_
          refine ev_getR (pc' := 140) fo_X8_55 dX8_layCut_137 rfl hs_115 rfl rf_115_20 ?_
          refine ev_iconst (pc' := 141) (v := 4) dX8_layCut_140 rfl ki_4 ?_
          refine ev_iload (pc' := 143) dX8_layCut_141 rfl rfl ?_
          refine ev_imul (pc' := 144) (v := 8) dX8_layCut_143 rfl (by decide) ?_
          refine ev_iload (pc' := 146) dX8_layCut_144 rfl rfl ?_
          refine ev_iadd (pc' := 147) (v := 9) dX8_layCut_146 rfl (by decide) ?_
          refine ev_iald (pc' := 148) (j := 9) (v := 0) dX8_layCut_147 rfl hs_129 rfl (Nat.le_of_ble_eq_true rfl) (Nat.le_of_ble_eq_true rfl) rfl ?_
          refine ev_iast (pc' := 149) (j := 1) (I' := (ma_up (ma_up (ma_up I 129 (ma_up (ma_up (ma_up (ma_up (ma_up (ma_up (ma_up (ma_up (ma_up (ma_up (ma_up (ma_up (I 129) 0 ((I 126) 3)) 1 0) 2 0) 3 (-((I 126) 0))) 4 0) 5 ((I 126) 3)) 6 0) 7 (-((I 126) 1))) 8 0) 9 0) 10 ((I 126) 3)) 11 (-((I 126) 2)))) 130 (ma_up (ma_up (ma_up (ma_up (I 130) 0 0) 1 0) 2 0) 3 (-((I 126) 1)))) 131 (ma_up (ma_up (ma_up (ma_up (I 131) 0 ((I 126) 3)) 1 0) 2 ((I 126) 3)) 3 (-((I 126) 2))))) dX8_layCut_148 rfl hs_130 rfl (Nat.le_of_ble_eq_true rfl) (Nat.le_of_ble_eq_true rfl) ((congrArg (ma_up _ 130) ((ma_up_comm _ (show 1 ≠ 3 from (by decide)) _ _).trans (congrArg (fun f => ma_up f 3 _) ((ma_up_comm _ (show 1 ≠ 2 from (by decide)) _ _).trans (congrArg (fun f => ma_up f 2 _) (ma_up_up _ _ _ _)))))).trans ((ma_up_comm _ (show 130 ≠ 131 from (by decide)) _ _).trans (congrArg (fun f => ma_up f 131 _) (ma_up_up _ _ _ _)))) ?_
          refine ev_aload_n (pc' := 150) (i := 0) dX8_layCut_149 rfl rfl rfl ?_
          refine ev_getR (pc' := 153) fo_X8_61 dX8_layCut_150 rfl hs_115 rfl rf_115_22 ?_
          refine ev_iload (pc' := 155) dX8_layCut_153 rfl rfl ?_
          refine ev_aload_n (pc' := 156) (i := 0) dX8_layCut_155 rfl rfl rfl ?_
          refine ev_getR (pc' := 159) fo_X8_55 dX8_layCut_156 rfl hs_115 rfl rf_115_20 ?_
          refine ev_iconst (pc' := 160) (v := 4) dX8_layCut_159 rfl ki_4 ?_
          refine ev_iload (pc' := 162) dX8_layCut_160 rfl rfl ?_
          refine ev_imul (pc' := 163) (v := 0) dX8_layCut_162 rfl (by decide) ?_
          refine ev_iload (pc' := 165) dX8_layCut_163 rfl rfl ?_
          refine ev_iadd (pc' := 166) (v := 1) dX8_layCut_165 rfl (by decide) ?_
          refine ev_iald (pc' := 167) (j := 1) (v := 0) dX8_layCut_166 rfl hs_129 rfl (Nat.le_of_ble_eq_true rfl) (Nat.le_of_ble_eq_true rfl) rfl ?_
          refine ev_iast (pc' := 168) (j := 1) (I' := (ma_up (ma_up (ma_up I 129 (ma_up (ma_up (ma_up (ma_up (ma_up (ma_up (ma_up (ma_up (ma_up (ma_up (ma_up (ma_up (I 129) 0 ((I 126) 3)) 1 0) 2 0) 3 (-((I 126) 0))) 4 0) 5 ((I 126) 3)) 6 0) 7 (-((I 126) 1))) 8 0) 9 0) 10 ((I 126) 3)) 11 (-((I 126) 2)))) 130 (ma_up (ma_up (ma_up (ma_up (I 130) 0 0) 1 0) 2 0) 3 (-((I 126) 1)))) 131 (ma_up (ma_up (ma_up (ma_up (I 131) 0 ((I 126) 3)) 1 0) 2 ((I 126) 3)) 3 (-((I 126) 2))))) dX8_layCut_167 rfl hs_131 rfl (Nat.le_of_ble_eq_true rfl) (Nat.le_of_ble_eq_true rfl) ((congrArg (ma_up _ 131) ((ma_up_comm _ (show 1 ≠ 3 from (by decide)) _ _).trans (congrArg (fun f => ma_up f 3 _) ((ma_up_comm _ (show 1 ≠ 2 from (by decide)) _ _).trans (congrArg (fun f => ma_up f 2 _) (ma_up_up _ _ _ _)))))).trans (ma_up_up _ _ _ _)) ?_
          refine ev_iinc (pc' := 171) (v := 2) (lv' := [some (.ref 115), some (.int (nI q)), some (.int 3), some (.int 3), some (.int 2), some (.int 0), some (.int 2)]) dX8_layCut_168 rfl rfl (by decide) (Nat.le_of_ble_eq_true rfl) rfl rfl ?_
          refine ev_goto (tgt := 124) dX8_layCut_171 rfl ?_
          refine ev_iload (pc' := 126) dX8_layCut_124 rfl rfl ?_
          refine ev_iconst (pc' := 127) (v := 4) dX8_layCut_126 rfl ki_4 ?_
          refine ev_icmp_ge (tgt := 174) (pc' := 130) dX8_layCut_127 rfl rfl (fun h => absurd h (by decide)) (fun _ => ?_)
          refine ev_aload_n (pc' := 131) (i := 0) dX8_layCut_130 rfl rfl rfl ?_
          refine ev_getR (pc' := 134) fo_X8_58 dX8_layCut_131 rfl hs_115 rfl rf_115_21 ?_
          refine ev_iload (pc' := 136) dX8_layCut_134 rfl rfl ?_
          refine ev_aload_n (pc' := 137) (i := 0) dX8_layCut_136 rfl rfl rfl ?_
          refine ev_getR (pc' := 140) fo_X8_55 dX8_layCut_137 rfl hs_115 rfl rf_115_20 ?_
          refine ev_iconst (pc' := 141) (v := 4) dX8_layCut_140 rfl ki_4 ?_
          refine ev_iload (pc' := 143) dX8_layCut_141 rfl rfl ?_
          refine ev_imul (pc' := 144) (v := 8) dX8_layCut_143 rfl (by decide) ?_
          refine ev_iload (pc' := 146) dX8_layCut_144 rfl rfl ?_
          refine ev_iadd (pc' := 147) (v := 10) dX8_layCut_146 rfl (by decide) ?_
          refine ev_iald (pc' := 148) (j := 10) (v := (I 126) 3) dX8_layCut_147 rfl hs_129 rfl (Nat.le_of_ble_eq_true rfl) (Nat.le_of_ble_eq_true rfl) rfl ?_
          refine ev_iast (pc' := 149) (j := 2) (I' := (ma_up (ma_up (ma_up I 129 (ma_up (ma_up (ma_up (ma_up (ma_up (ma_up (ma_up (ma_up (ma_up (ma_up (ma_up (ma_up (I 129) 0 ((I 126) 3)) 1 0) 2 0) 3 (-((I 126) 0))) 4 0) 5 ((I 126) 3)) 6 0) 7 (-((I 126) 1))) 8 0) 9 0) 10 ((I 126) 3)) 11 (-((I 126) 2)))) 130 (ma_up (ma_up (ma_up (ma_up (I 130) 0 0) 1 0) 2 ((I 126) 3)) 3 (-((I 126) 1)))) 131 (ma_up (ma_up (ma_up (ma_up (I 131) 0 ((I 126) 3)) 1 0) 2 ((I 126) 3)) 3 (-((I 126) 2))))) dX8_layCut_148 rfl hs_130 rfl (Nat.le_of_ble_eq_true rfl) (Nat.le_of_ble_eq_true rfl) ((congrArg (ma_up _ 130) ((ma_up_comm _ (show 2 ≠ 3 from (by decide)) _ _).trans (congrArg (fun f => ma_up f 3 _) (ma_up_up _ _ _ _)))).trans ((ma_up_comm _ (show 130 ≠ 131 from (by decide)) _ _).trans (congrArg (fun f => ma_up f 131 _) (ma_up_up _ _ _ _)))) ?_
          refine ev_aload_n (pc' := 150) (i := 0) dX8_layCut_149 rfl rfl rfl ?_
          refine ev_getR (pc' := 153) fo_X8_61 dX8_layCut_150 rfl hs_115 rfl rf_115_22 ?_
          refine ev_iload (pc' := 155) dX8_layCut_153 rfl rfl ?_
          refine ev_aload_n (pc' := 156) (i := 0) dX8_layCut_155 rfl rfl rfl ?_
          refine ev_getR (pc' := 159) fo_X8_55 dX8_layCut_156 rfl hs_115 rfl rf_115_20 ?_
          refine ev_iconst (pc' := 160) (v := 4) dX8_layCut_159 rfl ki_4 ?_
          refine ev_iload (pc' := 162) dX8_layCut_160 rfl rfl ?_
          refine ev_imul (pc' := 163) (v := 0) dX8_layCut_162 rfl (by decide) ?_
          refine ev_iload (pc' := 165) dX8_layCut_163 rfl rfl ?_
          refine ev_iadd (pc' := 166) (v := 2) dX8_layCut_165 rfl (by decide) ?_
          refine ev_iald (pc' := 167) (j := 2) (v := 0) dX8_layCut_166 rfl hs_129 rfl (Nat.le_of_ble_eq_true rfl) (Nat.le_of_ble_eq_true rfl) rfl ?_
          refine ev_iast (pc' := 168) (j := 2) (I' := (ma_up (ma_up (ma_up I 129 (ma_up (ma_up (ma_up (ma_up (ma_up (ma_up (ma_up (ma_up (ma_up (ma_up (ma_up (ma_up (I 129) 0 ((I 126) 3)) 1 0) 2 0) 3 (-((I 126) 0))) 4 0) 5 ((I 126) 3)) 6 0) 7 (-((I 126) 1))) 8 0) 9 0) 10 ((I 126) 3)) 11 (-((I 126) 2)))) 130 (ma_up (ma_up (ma_up (ma_up (I 130) 0 0) 1 0) 2 ((I 126) 3)) 3 (-((I 126) 1)))) 131 (ma_up (ma_up (ma_up (ma_up (I 131) 0 ((I 126) 3)) 1 0) 2 0) 3 (-((I 126) 2))))) dX8_layCut_167 rfl hs_131 rfl (Nat.le_of_ble_eq_true rfl) (Nat.le_of_ble_eq_true rfl) ((congrArg (ma_up _ 131) ((ma_up_comm _ (show 2 ≠ 3 from (by decide)) _ _).trans (congrArg (fun f => ma_up f 3 _) (ma_up_up _ _ _ _)))).trans (ma_up_up _ _ _ _)) ?_
          refine ev_iinc (pc' := 171) (v := 3) (lv' := [some (.ref 115), some (.int (nI q)), some (.int 3), some (.int 3), some (.int 2), some (.int 0), some (.int 3)]) dX8_layCut_168 rfl rfl (by decide) (Nat.le_of_ble_eq_true rfl) rfl rfl ?_
          refine ev_goto (tgt := 124) dX8_layCut_171 rfl ?_
          refine ev_iload (pc' := 126) dX8_layCut_124 rfl rfl ?_
          refine ev_iconst (pc' := 127) (v := 4) dX8_layCut_126 rfl ki_4 ?_
          refine ev_icmp_ge (tgt := 174) (pc' := 130) dX8_layCut_127 rfl rfl (fun h => absurd h (by decide)) (fun _ => ?_)
          refine ev_aload_n (pc' := 131) (i := 0) dX8_layCut_130 rfl rfl rfl ?_
          refine ev_getR (pc' := 134) fo_X8_58 dX8_layCut_131 rfl hs_115 rfl rf_115_21 ?_
          refine ev_iload (pc' := 136) dX8_layCut_134 rfl rfl ?_
          refine ev_aload_n (pc' := 137) (i := 0) dX8_layCut_136 rfl rfl rfl ?_
          refine ev_getR (pc' := 140) fo_X8_55 dX8_layCut_137 rfl hs_115 rfl rf_115_20 ?_
          refine ev_iconst (pc' := 141) (v := 4) dX8_layCut_140 rfl ki_4 ?_
          refine ev_iload (pc' := 143) dX8_layCut_141 rfl rfl ?_
          refine ev_imul (pc' := 144) (v := 8) dX8_layCut_143 rfl (by decide) ?_
          refine ev_iload (pc' := 146) dX8_layCut_144 rfl rfl ?_
          refine ev_iadd (pc' := 147) (v := 11) dX8_layCut_146 rfl (by decide) ?_
          refine ev_iald (pc' := 148) (j := 11) (v := -((I 126) 2)) dX8_layCut_147 rfl hs_129 rfl (Nat.le_of_ble_eq_true rfl) (Nat.le_of_ble_eq_true rfl) rfl ?_
          refine ev_iast (pc' := 149) (j := 3) (I' := (ma_up (ma_up (ma_up I 129 (ma_up (ma_up (ma_up (ma_up (ma_up (ma_up (ma_up (ma_up (ma_up (ma_up (ma_up (ma_up (I 129) 0 ((I 126) 3)) 1 0) 2 0) 3 (-((I 126) 0))) 4 0) 5 ((I 126) 3)) 6 0) 7 (-((I 126) 1))) 8 0) 9 0) 10 ((I 126) 3)) 11 (-((I 126) 2)))) 130 (ma_up (ma_up (ma_up (ma_up (I 130) 0 0) 1 0) 2 ((I 126) 3)) 3 (-((I 126) 2)))) 131 (ma_up (ma_up (ma_up (ma_up (I 131) 0 ((I 126) 3)) 1 0) 2 0) 3 (-((I 126) 2))))) dX8_layCut_148 rfl hs_130 rfl (Nat.le_of_ble_eq_true rfl) (Nat.le_of_ble_eq_true rfl) ((congrArg (ma_up _ 130) (ma_up_up _ _ _ _)).trans ((ma_up_comm _ (show 130 ≠ 131 from (by decide)) _ _).trans (congrArg (fun f => ma_up f 131 _) (ma_up_up _ _ _ _)))) ?_
          refine ev_aload_n (pc' := 150) (i := 0) dX8_layCut_149 rfl rfl rfl ?_
          refine ev_getR (pc' := 153) fo_X8_61 dX8_layCut_150 rfl hs_115 rfl rf_115_22 ?_
          refine ev_iload (pc' := 155) dX8_layCut_153 rfl rfl ?_
          refine ev_aload_n (pc' := 156) (i := 0) dX8_layCut_155 rfl rfl rfl ?_
          refine ev_getR (pc' := 159) fo_X8_55 dX8_layCut_156 rfl hs_115 rfl rf_115_20 ?_
          refine ev_iconst (pc' := 160) (v := 4) dX8_layCut_159 rfl ki_4 ?_
          refine ev_iload (pc' := 162) dX8_layCut_160 rfl rfl ?_
          refine ev_imul (pc' := 163) (v := 0) dX8_layCut_162 rfl (by decide) ?_
          refine ev_iload (pc' := 165) dX8_layCut_163 rfl rfl ?_
          refine ev_iadd (pc' := 166) (v := 3) dX8_layCut_165 rfl (by decide) ?_
          refine ev_iald (pc' := 167) (j := 3) (v := -((I 126) 0)) dX8_layCut_166 rfl hs_129 rfl (Nat.le_of_ble_eq_true rfl) (Nat.le_of_ble_eq_true rfl) rfl ?_
          refine ev_iast (pc' := 168) (j := 3) (I' := (ma_up (ma_up (ma_up I 129 (ma_up (ma_up (ma_up (ma_up (ma_up (ma_up (ma_up (ma_up (ma_up (ma_up (ma_up (ma_up (I 129) 0 ((I 126) 3)) 1 0) 2 0) 3 (-((I 126) 0))) 4 0) 5 ((I 126) 3)) 6 0) 7 (-((I 126) 1))) 8 0) 9 0) 10 ((I 126) 3)) 11 (-((I 126) 2)))) 130 (ma_up (ma_up (ma_up (ma_up (I 130) 0 0) 1 0) 2 ((I 126) 3)) 3 (-((I 126) 2)))) 131 (ma_up (ma_up (ma_up (ma_up (I 131) 0 ((I 126) 3)) 1 0) 2 0) 3 (-((I 126) 0))))) dX8_layCut_167 rfl hs_131 rfl (Nat.le_of_ble_eq_true rfl) (Nat.le_of_ble_eq_true rfl) ((congrArg (ma_up _ 131) (ma_up_up _ _ _ _)).trans (ma_up_up _ _ _ _)) ?_
          refine ev_iinc (pc' := 171) (v := 4) (lv' := [some (.ref 115), some (.int (nI q)), some (.int 3), some (.int 3), some (.int 2), some (.int 0), some (.int 4)]) dX8_layCut_168 rfl rfl (by decide) (Nat.le_of_ble_eq_true rfl) rfl rfl ?_
          refine ev_goto (tgt := 124) dX8_layCut_171 rfl ?_
          refine ev_iload (pc' := 126) dX8_layCut_124 rfl rfl ?_
          refine ev_iconst (pc' := 127) (v := 4) dX8_layCut_126 rfl ki_4 ?_
          refine ev_icmp_ge (tgt := 174) (pc' := 130) dX8_layCut_127 rfl rfl (fun _ => ?_) (fun h => absurd (by decide) h)
          refine ev_aload_n (pc' := 175) (i := 0) dX8_layCut_174 rfl rfl rfl ?_
          refine ev_getR (pc' := 178) fo_X8_26 dX8_layCut_175 rfl hs_115 rfl rf_115_8 ?_
          refine ev_iconst (pc' := 179) (v := 4) dX8_layCut_178 rfl ki_4 ?_
          refine ev_iload (pc' := 181) dX8_layCut_179 rfl rfl ?_
          refine ev_imul (pc' := 182) (v := 8) dX8_layCut_181 rfl (by decide) ?_
          refine ev_iload (pc' := 184) dX8_layCut_182 rfl rfl ?_
          refine ev_iadd (pc' := 185) (v := 8) dX8_layCut_184 rfl (by decide) ?_
          refine ev_aload_n (pc' := 186) (i := 0) dX8_layCut_185 rfl rfl rfl ?_
          refine ev_iload_n (pc' := 187) (i := 1) dX8_layCut_186 rfl rfl rfl ?_
          refine ev_aload_n (pc' := 188) (i := 0) dX8_layCut_187 rfl rfl rfl ?_
          refine ev_getR (pc' := 191) fo_X8_58 dX8_layCut_188 rfl hs_115 rfl rf_115_21 ?_
          refine ev_aload_n (pc' := 192) (i := 0) dX8_layCut_191 rfl rfl rfl ?_
          refine ev_getR (pc' := 195) fo_X8_61 dX8_layCut_192 rfl hs_115 rfl rf_115_22 ?_
          refine ev_callV (pc' := 198) (rm' := rX8_both) (b := 115) (av := [.int (nI q), .ref 130, .ref 131]) (rest := [.int 8, .ref 120]) co_X8_241 ci_X8_both cv_X8_both dX8_layCut_195 rfl hs_115 hb_X8 rfl rfl (Nat.le_of_ble_eq_true rfl) ⟨(Nat.le_of_ble_eq_true rfl), (Nat.le_of_ble_eq_true rfl)⟩ ⟨(Nat.le_of_ble_eq_true rfl), (Nat.le_of_ble_eq_true rfl)⟩ ?_
          refine t_X8_both q 130 131 hq hs_130 hs_131 ?_
          refine ev_eqi (w := mBo (I 123) (mSn 3 (I 126) 2) (mSn 3 (I 126) 0) q) rfl ?_
          refine ev_i2l (pc' := 199) (v := Int32.toInt64 (mBo (I 123) (mSn 3 (I 126) 2) (mSn 3 (I 126) 0) q)) dX8_layCut_198 rfl rfl ?_
          refine ev_last (pc' := 200) (j := 8) (L' := (ma_up L 120 (ma_up (ma_up (ma_up (ma_up (ma_up (ma_up (ma_up (L 120) 0 (Int32.toInt64 (mBo (I 123) (mSn 3 (I 126) 0) (mSn 3 (I 126) 0) q))) 1 (Int32.toInt64 (mBo (I 123) (mSn 3 (I 126) 0) (mSn 3 (I 126) 1) q))) 2 (Int32.toInt64 (mBo (I 123) (mSn 3 (I 126) 0) (mSn 3 (I 126) 2) q))) 4 (Int32.toInt64 (mBo (I 123) (mSn 3 (I 126) 1) (mSn 3 (I 126) 0) q))) 5 (Int32.toInt64 (mBo (I 123) (mSn 3 (I 126) 1) (mSn 3 (I 126) 1) q))) 6 (Int32.toInt64 (mBo (I 123) (mSn 3 (I 126) 1) (mSn 3 (I 126) 2) q))) 8 (Int32.toInt64 (mBo (I 123) (mSn 3 (I 126) 2) (mSn 3 (I 126) 0) q))))) dX8_layCut_199 rfl hs_120 rfl (Nat.le_of_ble_eq_true rfl) (Nat.le_of_ble_eq_true rfl) (ma_up_up _ _ _ _) ?_
          refine ev_iinc (pc' := 203) (v := 1) (lv' := [some (.ref 115), some (.int (nI q)), some (.int 3), some (.int 3), some (.int 2), some (.int 1), some (.int 4)]) dX8_layCut_200 rfl rfl (by decide) (Nat.le_of_ble_eq_true rfl) rfl rfl ?_
          refine ev_goto (tgt := 115) dX8_layCut_203 rfl ?_
          refine ev_iload (pc' := 117) dX8_layCut_115 rfl rfl ?_
          refine ev_iconst (pc' := 118) (v := 3) dX8_layCut_117 rfl ki_3 ?_
          refine ev_icmp_ge (tgt := 206) (pc' := 121) dX8_layCut_118 rfl rfl (fun h => absurd h (by decide)) (fun _ => ?_)
          refine ev_iconst (pc' := 122) (v := 0) dX8_layCut_121 rfl ki_0 ?_
          refine ev_istore (pc' := 124) (lv' := [some (.ref 115), some (.int (nI q)), some (.int 3), some (.int 3), some (.int 2), some (.int 1), some (.int 0)]) dX8_layCut_122 rfl (Nat.le_of_ble_eq_true rfl) rfl rfl ?_
          refine ev_iload (pc' := 126) dX8_layCut_124 rfl rfl ?_
          refine ev_iconst (pc' := 127) (v := 4) dX8_layCut_126 rfl ki_4 ?_
          refine ev_icmp_ge (tgt := 174) (pc' := 130) dX8_layCut_127 rfl rfl (fun h => absurd h (by decide)) (fun _ => ?_)
          refine ev_aload_n (pc' := 131) (i := 0) dX8_layCut_130 rfl rfl rfl ?_
          refine ev_getR (pc' := 134) fo_X8_58 dX8_layCut_131 rfl hs_115 rfl rf_115_21 ?_
          refine ev_iload (pc' := 136) dX8_layCut_134 rfl rfl ?_
          refine ev_aload_n (pc' := 137) (i := 0) dX8_layCut_136 rfl rfl rfl ?_
          refine ev_getR (pc' := 140) fo_X8_55 dX8_layCut_137 rfl hs_115 rfl rf_115_20 ?_
          refine ev_iconst (pc' := 141) (v := 4) dX8_layCut_140 rfl ki_4 ?_
          refine ev_iload (pc' := 143) dX8_layCut_141 rfl rfl ?_
          refine ev_imul (pc' := 144) (v := 8) dX8_layCut_143 rfl (by decide) ?_
          refine ev_iload (pc' := 146) dX8_layCut_144 rfl rfl ?_
          refine ev_iadd (pc' := 147) (v := 8) dX8_layCut_146 rfl (by decide) ?_
          refine ev_iald (pc' := 148) (j := 8) (v := 0) dX8_layCut_147 rfl hs_129 rfl (Nat.le_of_ble_eq_true rfl) (Nat.le_of_ble_eq_true rfl) rfl ?_
          refine ev_iast (pc' := 149) (j := 0) (I' := (ma_up (ma_up (ma_up I 129 (ma_up (ma_up (ma_up (ma_up (ma_up (ma_up (ma_up (ma_up (ma_up (ma_up (ma_up (ma_up (I 129) 0 ((I 126) 3)) 1 0) 2 0) 3 (-((I 126) 0))) 4 0) 5 ((I 126) 3)) 6 0) 7 (-((I 126) 1))) 8 0) 9 0) 10 ((I 126) 3)) 11 (-((I 126) 2)))) 130 (ma_up (ma_up (ma_up (ma_up (I 130) 0 0) 1 0) 2 ((I 126) 3)) 3 (-((I 126) 2)))) 131 (ma_up (ma_up (ma_up (ma_up (I 131) 0 ((I 126) 3)) 1 0) 2 0) 3 (-((I 126) 0))))) dX8_layCut_148 rfl hs_130 rfl (Nat.le_of_ble_eq_true rfl) (Nat.le_of_ble_eq_true rfl) ((congrArg (ma_up _ 130) ((ma_up_comm _ (show 0 ≠ 3 from (by decide)) _ _).trans (congrArg (fun f => ma_up f 3 _) ((ma_up_comm _ (show 0 ≠ 2 from (by decide)) _ _).trans (congrArg (fun f => ma_up f 2 _) ((ma_up_comm _ (show 0 ≠ 1 from (by decide)) _ _).trans (congrArg (fun f => ma_up f 1 _) (ma_up_up _ _ _ _)))))))).trans ((ma_up_comm _ (show 130 ≠ 131 from (by decide)) _ _).trans (congrArg (fun f => ma_up f 131 _) (ma_up_up _ _ _ _)))) ?_
          refine ev_aload_n (pc' := 150) (i := 0) dX8_layCut_149 rfl rfl rfl ?_
          refine ev_getR (pc' := 153) fo_X8_61 dX8_layCut_150 rfl hs_115 rfl rf_115_22 ?_
          refine ev_iload (pc' := 155) dX8_layCut_153 rfl rfl ?_
          refine ev_aload_n (pc' := 156) (i := 0) dX8_layCut_155 rfl rfl rfl ?_
          refine ev_getR (pc' := 159) fo_X8_55 dX8_layCut_156 rfl hs_115 rfl rf_115_20 ?_
          refine ev_iconst (pc' := 160) (v := 4) dX8_layCut_159 rfl ki_4 ?_
          refine ev_iload (pc' := 162) dX8_layCut_160 rfl rfl ?_
          refine ev_imul (pc' := 163) (v := 4) dX8_layCut_162 rfl (by decide) ?_
          refine ev_iload (pc' := 165) dX8_layCut_163 rfl rfl ?_
          refine ev_iadd (pc' := 166) (v := 4) dX8_layCut_165 rfl (by decide) ?_
          refine ev_iald (pc' := 167) (j := 4) (v := 0) dX8_layCut_166 rfl hs_129 rfl (Nat.le_of_ble_eq_true rfl) (Nat.le_of_ble_eq_true rfl) rfl ?_
          refine ev_iast (pc' := 168) (j := 0) (I' := (ma_up (ma_up (ma_up I 129 (ma_up (ma_up (ma_up (ma_up (ma_up (ma_up (ma_up (ma_up (ma_up (ma_up (ma_up (ma_up (I 129) 0 ((I 126) 3)) 1 0) 2 0) 3 (-((I 126) 0))) 4 0) 5 ((I 126) 3)) 6 0) 7 (-((I 126) 1))) 8 0) 9 0) 10 ((I 126) 3)) 11 (-((I 126) 2)))) 130 (ma_up (ma_up (ma_up (ma_up (I 130) 0 0) 1 0) 2 ((I 126) 3)) 3 (-((I 126) 2)))) 131 (ma_up (ma_up (ma_up (ma_up (I 131) 0 0) 1 0) 2 0) 3 (-((I 126) 0))))) dX8_layCut_167 rfl hs_131 rfl (Nat.le_of_ble_eq_true rfl) (Nat.le_of_ble_eq_true rfl) ((congrArg (ma_up _ 131) ((ma_up_comm _ (show 0 ≠ 3 from (by decide)) _ _).trans (congrArg (fun f => ma_up f 3 _) ((ma_up_comm _ (show 0 ≠ 2 from (by decide)) _ _).trans (congrArg (fun f => ma_up f 2 _) ((ma_up_comm _ (show 0 ≠ 1 from (by decide)) _ _).trans (congrArg (fun f => ma_up f 1 _) (ma_up_up _ _ _ _)))))))).trans (ma_up_up _ _ _ _)) ?_
          refine ev_iinc (pc' := 171) (v := 1) (lv' := [some (.ref 115), some (.int (nI q)), some (.int 3), some (.int 3), some (.int 2), some (.int 1), some (.int 1)]) dX8_layCut_168 rfl rfl (by decide) (Nat.le_of_ble_eq_true rfl) rfl rfl ?_
          refine ev_goto (tgt := 124) dX8_layCut_171 rfl ?_
          refine ev_iload (pc' := 126) dX8_layCut_124 rfl rfl ?_
          refine ev_iconst (pc' := 127) (v := 4) dX8_layCut_126 rfl ki_4 ?_
          refine ev_icmp_ge (tgt := 174) (pc' := 130) dX8_layCut_127 rfl rfl (fun h => absurd h (by decide)) (fun _ => ?_)
          refine ev_aload_n (pc' := 131) (i := 0) dX8_layCut_130 rfl rfl rfl ?_
          refine ev_getR (pc' := 134) fo_X8_58 dX8_layCut_131 rfl hs_115 rfl rf_115_21 ?_
          refine ev_iload (pc' := 136) dX8_layCut_134 rfl rfl ?_
          refine ev_aload_n (pc' := 137) (i := 0) dX8_layCut_136 rfl rfl rfl ?_
          refine ev_getR (pc' := 140) fo_X8_55 dX8_layCut_137 rfl hs_115 rfl rf_115_20 ?_
          refine ev_iconst (pc' := 141) (v := 4) dX8_layCut_140 rfl ki_4 ?_
          refine ev_iload (pc' := 143) dX8_layCut_141 rfl rfl ?_
          refine ev_imul (pc' := 144) (v := 8) dX8_layCut_143 rfl (by decide) ?_
          refine ev_iload (pc' := 146) dX8_layCut_144 rfl rfl ?_
          refine ev_iadd (pc' := 147) (v := 9) dX8_layCut_146 rfl (by decide) ?_
          refine ev_iald (pc' := 148) (j := 9) (v := 0) dX8_layCut_147 rfl hs_129 rfl (Nat.le_of_ble_eq_true rfl) (Nat.le_of_ble_eq_true rfl) rfl ?_
          refine ev_iast (pc' := 149) (j := 1) (I' := (ma_up (ma_up (ma_up I 129 (ma_up (ma_up (ma_up (ma_up (ma_up (ma_up (ma_up (ma_up (ma_up (ma_up (ma_up (ma_up (I 129) 0 ((I 126) 3)) 1 0) 2 0) 3 (-((I 126) 0))) 4 0) 5 ((I 126) 3)) 6 0) 7 (-((I 126) 1))) 8 0) 9 0) 10 ((I 126) 3)) 11 (-((I 126) 2)))) 130 (ma_up (ma_up (ma_up (ma_up (I 130) 0 0) 1 0) 2 ((I 126) 3)) 3 (-((I 126) 2)))) 131 (ma_up (ma_up (ma_up (ma_up (I 131) 0 0) 1 0) 2 0) 3 (-((I 126) 0))))) dX8_layCut_148 rfl hs_130 rfl (Nat.le_of_ble_eq_true rfl) (Nat.le_of_ble_eq_true rfl) ((congrArg (ma_up _ 130) ((ma_up_comm _ (show 1 ≠ 3 from (by decide)) _ _).trans (congrArg (fun f => ma_up f 3 _) ((ma_up_comm _ (show 1 ≠ 2 from (by decide)) _ _).trans (congrArg (fun f => ma_up f 2 _) (ma_up_up _ _ _ _)))))).trans ((ma_up_comm _ (show 130 ≠ 131 from (by decide)) _ _).trans (congrArg (fun f => ma_up f 131 _) (ma_up_up _ _ _ _)))) ?_
          refine ev_aload_n (pc' := 150) (i := 0) dX8_layCut_149 rfl rfl rfl ?_
          refine ev_getR (pc' := 153) fo_X8_61 dX8_layCut_150 rfl hs_115 rfl rf_115_22 ?_
          refine ev_iload (pc' := 155) dX8_layCut_153 rfl rfl ?_
          refine ev_aload_n (pc' := 156) (i := 0) dX8_layCut_155 rfl rfl rfl ?_
          refine ev_getR (pc' := 159) fo_X8_55 dX8_layCut_156 rfl hs_115 rfl rf_115_20 ?_
          refine ev_iconst (pc' := 160) (v := 4) dX8_layCut_159 rfl ki_4 ?_
          refine ev_iload (pc' := 162) dX8_layCut_160 rfl rfl ?_
          refine ev_imul (pc' := 163) (v := 4) dX8_layCut_162 rfl (by decide) ?_
          refine ev_iload (pc' := 165) dX8_layCut_163 rfl rfl ?_
          refine ev_iadd (pc' := 166) (v := 5) dX8_layCut_165 rfl (by decide) ?_
          refine ev_iald (pc' := 167) (j := 5) (v := (I 126) 3) dX8_layCut_166 rfl hs_129 rfl (Nat.le_of_ble_eq_true rfl) (Nat.le_of_ble_eq_true rfl) rfl ?_
          refine ev_iast (pc' := 168) (j := 1) (I' := (ma_up (ma_up (ma_up I 129 (ma_up (ma_up (ma_up (ma_up (ma_up (ma_up (ma_up (ma_up (ma_up (ma_up (ma_up (ma_up (I 129) 0 ((I 126) 3)) 1 0) 2 0) 3 (-((I 126) 0))) 4 0) 5 ((I 126) 3)) 6 0) 7 (-((I 126) 1))) 8 0) 9 0) 10 ((I 126) 3)) 11 (-((I 126) 2)))) 130 (ma_up (ma_up (ma_up (ma_up (I 130) 0 0) 1 0) 2 ((I 126) 3)) 3 (-((I 126) 2)))) 131 (ma_up (ma_up (ma_up (ma_up (I 131) 0 0) 1 ((I 126) 3)) 2 0) 3 (-((I 126) 0))))) dX8_layCut_167 rfl hs_131 rfl (Nat.le_of_ble_eq_true rfl) (Nat.le_of_ble_eq_true rfl) ((congrArg (ma_up _ 131) ((ma_up_comm _ (show 1 ≠ 3 from (by decide)) _ _).trans (congrArg (fun f => ma_up f 3 _) ((ma_up_comm _ (show 1 ≠ 2 from (by decide)) _ _).trans (congrArg (fun f => ma_up f 2 _) (ma_up_up _ _ _ _)))))).trans (ma_up_up _ _ _ _)) ?_
          refine ev_iinc (pc' := 171) (v := 2) (lv' := [some (.ref 115), some (.int (nI q)), some (.int 3), some (.int 3), some (.int 2), some (.int 1), some (.int 2)]) dX8_layCut_168 rfl rfl (by decide) (Nat.le_of_ble_eq_true rfl) rfl rfl ?_
          refine ev_goto (tgt := 124) dX8_layCut_171 rfl ?_
          refine ev_iload (pc' := 126) dX8_layCut_124 rfl rfl ?_
          refine ev_iconst (pc' := 127) (v := 4) dX8_layCut_126 rfl ki_4 ?_
          refine ev_icmp_ge (tgt := 174) (pc' := 130) dX8_layCut_127 rfl rfl (fun h => absurd h (by decide)) (fun _ => ?_)
          refine ev_aload_n (pc' := 131) (i := 0) dX8_layCut_130 rfl rfl rfl ?_
          refine ev_getR (pc' := 134) fo_X8_58 dX8_layCut_131 rfl hs_115 rfl rf_115_21 ?_
          refine ev_iload (pc' := 136) dX8_layCut_134 rfl rfl ?_
          refine ev_aload_n (pc' := 137) (i := 0) dX8_layCut_136 rfl rfl rfl ?_
          refine ev_getR (pc' := 140) fo_X8_55 dX8_layCut_137 rfl hs_115 rfl rf_115_20 ?_
          refine ev_iconst (pc' := 141) (v := 4) dX8_layCut_140 rfl ki_4 ?_
          refine ev_iload (pc' := 143) dX8_layCut_141 rfl rfl ?_
          refine ev_imul (pc' := 144) (v := 8) dX8_layCut_143 rfl (by decide) ?_
          refine ev_iload (pc' := 146) dX8_layCut_144 rfl rfl ?_
          refine ev_iadd (pc' := 147) (v := 10) dX8_layCut_146 rfl (by decide) ?_
          refine ev_iald (pc' := 148) (j := 10) (v := (I 126) 3) dX8_layCut_147 rfl hs_129 rfl (Nat.le_of_ble_eq_true rfl) (Nat.le_of_ble_eq_true rfl) rfl ?_
          refine ev_iast (pc' := 149) (j := 2) (I' := (ma_up (ma_up (ma_up I 129 (ma_up (ma_up (ma_up (ma_up (ma_up (ma_up (ma_up (ma_up (ma_up (ma_up (ma_up (ma_up (I 129) 0 ((I 126) 3)) 1 0) 2 0) 3 (-((I 126) 0))) 4 0) 5 ((I 126) 3)) 6 0) 7 (-((I 126) 1))) 8 0) 9 0) 10 ((I 126) 3)) 11 (-((I 126) 2)))) 130 (ma_up (ma_up (ma_up (ma_up (I 130) 0 0) 1 0) 2 ((I 126) 3)) 3 (-((I 126) 2)))) 131 (ma_up (ma_up (ma_up (ma_up (I 131) 0 0) 1 ((I 126) 3)) 2 0) 3 (-((I 126) 0))))) dX8_layCut_148 rfl hs_130 rfl (Nat.le_of_ble_eq_true rfl) (Nat.le_of_ble_eq_true rfl) ((congrArg (ma_up _ 130) ((ma_up_comm _ (show 2 ≠ 3 from (by decide)) _ _).trans (congrArg (fun f => ma_up f 3 _) (ma_up_up _ _ _ _)))).trans ((ma_up_comm _ (show 130 ≠ 131 from (by decide)) _ _).trans (congrArg (fun f => ma_up f 131 _) (ma_up_up _ _ _ _)))) ?_
          refine ev_aload_n (pc' := 150) (i := 0) dX8_layCut_149 rfl rfl rfl ?_
          refine ev_getR (pc' := 153) fo_X8_61 dX8_layCut_150 rfl hs_115 rfl rf_115_22 ?_
          refine ev_iload (pc' := 155) dX8_layCut_153 rfl rfl ?_
          refine ev_aload_n (pc' := 156) (i := 0) dX8_layCut_155 rfl rfl rfl ?_
          refine ev_getR (pc' := 159) fo_X8_55 dX8_layCut_156 rfl hs_115 rfl rf_115_20 ?_
          refine ev_iconst (pc' := 160) (v := 4) dX8_layCut_159 rfl ki_4 ?_
          refine ev_iload (pc' := 162) dX8_layCut_160 rfl rfl ?_
          refine ev_imul (pc' := 163) (v := 4) dX8_layCut_162 rfl (by decide) ?_
          refine ev_iload (pc' := 165) dX8_layCut_163 rfl rfl ?_
          refine ev_iadd (pc' := 166) (v := 6) dX8_layCut_165 rfl (by decide) ?_
          refine ev_iald (pc' := 167) (j := 6) (v := 0) dX8_layCut_166 rfl hs_129 rfl (Nat.le_of_ble_eq_true rfl) (Nat.le_of_ble_eq_true rfl) rfl ?_
          refine ev_iast (pc' := 168) (j := 2) (I' := (ma_up (ma_up (ma_up I 129 (ma_up (ma_up (ma_up (ma_up (ma_up (ma_up (ma_up (ma_up (ma_up (ma_up (ma_up (ma_up (I 129) 0 ((I 126) 3)) 1 0) 2 0) 3 (-((I 126) 0))) 4 0) 5 ((I 126) 3)) 6 0) 7 (-((I 126) 1))) 8 0) 9 0) 10 ((I 126) 3)) 11 (-((I 126) 2)))) 130 (ma_up (ma_up (ma_up (ma_up (I 130) 0 0) 1 0) 2 ((I 126) 3)) 3 (-((I 126) 2)))) 131 (ma_up (ma_up (ma_up (ma_up (I 131) 0 0) 1 ((I 126) 3)) 2 0) 3 (-((I 126) 0))))) dX8_layCut_167 rfl hs_131 rfl (Nat.le_of_ble_eq_true rfl) (Nat.le_of_ble_eq_true rfl) ((congrArg (ma_up _ 131) ((ma_up_comm _ (show 2 ≠ 3 from (by decide)) _ _).trans (congrArg (fun f => ma_up f 3 _) (ma_up_up _ _ _ _)))).trans (ma_up_up _ _ _ _)) ?_
          refine ev_iinc (pc' := 171) (v := 3) (lv' := [some (.ref 115), some (.int (nI q)), some (.int 3), some (.int 3), some (.int 2), some (.int 1), some (.int 3)]) dX8_layCut_168 rfl rfl (by decide) (Nat.le_of_ble_eq_true rfl) rfl rfl ?_
          refine ev_goto (tgt := 124) dX8_layCut_171 rfl ?_
          refine ev_iload (pc' := 126) dX8_layCut_124 rfl rfl ?_
          refine ev_iconst (pc' := 127) (v := 4) dX8_layCut_126 rfl ki_4 ?_
          refine ev_icmp_ge (tgt := 174) (pc' := 130) dX8_layCut_127 rfl rfl (fun h => absurd h (by decide)) (fun _ => ?_)
          refine ev_aload_n (pc' := 131) (i := 0) dX8_layCut_130 rfl rfl rfl ?_
          refine ev_getR (pc' := 134) fo_X8_58 dX8_layCut_131 rfl hs_115 rfl rf_115_21 ?_
          refine ev_iload (pc' := 136) dX8_layCut_134 rfl rfl ?_
          refine ev_aload_n (pc' := 137) (i := 0) dX8_layCut_136 rfl rfl rfl ?_
          refine ev_getR (pc' := 140) fo_X8_55 dX8_layCut_137 rfl hs_115 rfl rf_115_20 ?_
          refine ev_iconst (pc' := 141) (v := 4) dX8_layCut_140 rfl ki_4 ?_
          refine ev_iload (pc' := 143) dX8_layCut_141 rfl rfl ?_
          refine ev_imul (pc' := 144) (v := 8) dX8_layCut_143 rfl (by decide) ?_
          refine ev_iload (pc' := 146) dX8_layCut_144 rfl rfl ?_
          refine ev_iadd (pc' := 147) (v := 11) dX8_layCut_146 rfl (by decide) ?_
          refine ev_iald (pc' := 148) (j := 11) (v := -((I 126) 2)) dX8_layCut_147 rfl hs_129 rfl (Nat.le_of_ble_eq_true rfl) (Nat.le_of_ble_eq_true rfl) rfl ?_
          refine ev_iast (pc' := 149) (j := 3) (I' := (ma_up (ma_up (ma_up I 129 (ma_up (ma_up (ma_up (ma_up (ma_up (ma_up (ma_up (ma_up (ma_up (ma_up (ma_up (ma_up (I 129) 0 ((I 126) 3)) 1 0) 2 0) 3 (-((I 126) 0))) 4 0) 5 ((I 126) 3)) 6 0) 7 (-((I 126) 1))) 8 0) 9 0) 10 ((I 126) 3)) 11 (-((I 126) 2)))) 130 (ma_up (ma_up (ma_up (ma_up (I 130) 0 0) 1 0) 2 ((I 126) 3)) 3 (-((I 126) 2)))) 131 (ma_up (ma_up (ma_up (ma_up (I 131) 0 0) 1 ((I 126) 3)) 2 0) 3 (-((I 126) 0))))) dX8_layCut_148 rfl hs_130 rfl (Nat.le_of_ble_eq_true rfl) (Nat.le_of_ble_eq_true rfl) ((congrArg (ma_up _ 130) (ma_up_up _ _ _ _)).trans ((ma_up_comm _ (show 130 ≠ 131 from (by decide)) _ _).trans (congrArg (fun f => ma_up f 131 _) (ma_up_up _ _ _ _)))) ?_
          refine ev_aload_n (pc' := 150) (i := 0) dX8_layCut_149 rfl rfl rfl ?_
          refine ev_getR (pc' := 153) fo_X8_61 dX8_layCut_150 rfl hs_115 rfl rf_115_22 ?_
          refine ev_iload (pc' := 155) dX8_layCut_153 rfl rfl ?_
          refine ev_aload_n (pc' := 156) (i := 0) dX8_layCut_155 rfl rfl rfl ?_
          refine ev_getR (pc' := 159) fo_X8_55 dX8_layCut_156 rfl hs_115 rfl rf_115_20 ?_
          refine ev_iconst (pc' := 160) (v := 4) dX8_layCut_159 rfl ki_4 ?_
          refine ev_iload (pc' := 162) dX8_layCut_160 rfl rfl ?_
          refine ev_imul (pc' := 163) (v := 4) dX8_layCut_162 rfl (by decide) ?_
          refine ev_iload (pc' := 165) dX8_layCut_163 rfl rfl ?_
          refine ev_iadd (pc' := 166) (v := 7) dX8_layCut_165 rfl (by decide) ?_
          refine ev_iald (pc' := 167) (j := 7) (v := -((I 126) 1)) dX8_layCut_166 rfl hs_129 rfl (Nat.le_of_ble_eq_true rfl) (Nat.le_of_ble_eq_true rfl) rfl ?_
          refine ev_iast (pc' := 168) (j := 3) (I' := (ma_up (ma_up (ma_up I 129 (ma_up (ma_up (ma_up (ma_up (ma_up (ma_up (ma_up (ma_up (ma_up (ma_up (ma_up (ma_up (I 129) 0 ((I 126) 3)) 1 0) 2 0) 3 (-((I 126) 0))) 4 0) 5 ((I 126) 3)) 6 0) 7 (-((I 126) 1))) 8 0) 9 0) 10 ((I 126) 3)) 11 (-((I 126) 2)))) 130 (ma_up (ma_up (ma_up (ma_up (I 130) 0 0) 1 0) 2 ((I 126) 3)) 3 (-((I 126) 2)))) 131 (ma_up (ma_up (ma_up (ma_up (I 131) 0 0) 1 ((I 126) 3)) 2 0) 3 (-((I 126) 1))))) dX8_layCut_167 rfl hs_131 rfl (Nat.le_of_ble_eq_true rfl) (Nat.le_of_ble_eq_true rfl) ((congrArg (ma_up _ 131) (ma_up_up _ _ _ _)).trans (ma_up_up _ _ _ _)) ?_
          refine ev_iinc (pc' := 171) (v := 4) (lv' := [some (.ref 115), some (.int (nI q)), some (.int 3), some (.int 3), some (.int 2), some (.int 1), some (.int 4)]) dX8_layCut_168 rfl rfl (by decide) (Nat.le_of_ble_eq_true rfl) rfl rfl ?_
          refine ev_goto (tgt := 124) dX8_layCut_171 rfl ?_
          refine ev_iload (pc' := 126) dX8_layCut_124 rfl rfl ?_
          refine ev_iconst (pc' := 127) (v := 4) dX8_layCut_126 rfl ki_4 ?_
          refine ev_icmp_ge (tgt := 174) (pc' := 130) dX8_layCut_127 rfl rfl (fun _ => ?_) (fun h => absurd (by decide) h)
          refine ev_aload_n (pc' := 175) (i := 0) dX8_layCut_174 rfl rfl rfl ?_
          refine ev_getR (pc' := 178) fo_X8_26 dX8_layCut_175 rfl hs_115 rfl rf_115_8 ?_
          refine ev_iconst (pc' := 179) (v := 4) dX8_layCut_178 rfl ki_4 ?_
          refine ev_iload (pc' := 181) dX8_layCut_179 rfl rfl ?_
          refine ev_imul (pc' := 182) (v := 8) dX8_layCut_181 rfl (by decide) ?_
          refine ev_iload (pc' := 184) dX8_layCut_182 rfl rfl ?_
          refine ev_iadd (pc' := 185) (v := 9) dX8_layCut_184 rfl (by decide) ?_
          refine ev_aload_n (pc' := 186) (i := 0) dX8_layCut_185 rfl rfl rfl ?_
          refine ev_iload_n (pc' := 187) (i := 1) dX8_layCut_186 rfl rfl rfl ?_
          refine ev_aload_n (pc' := 188) (i := 0) dX8_layCut_187 rfl rfl rfl ?_
          refine ev_getR (pc' := 191) fo_X8_58 dX8_layCut_188 rfl hs_115 rfl rf_115_21 ?_
          refine ev_aload_n (pc' := 192) (i := 0) dX8_layCut_191 rfl rfl rfl ?_
          refine ev_getR (pc' := 195) fo_X8_61 dX8_layCut_192 rfl hs_115 rfl rf_115_22 ?_
          refine ev_callV (pc' := 198) (rm' := rX8_both) (b := 115) (av := [.int (nI q), .ref 130, .ref 131]) (rest := [.int 9, .ref 120]) co_X8_241 ci_X8_both cv_X8_both dX8_layCut_195 rfl hs_115 hb_X8 rfl rfl (Nat.le_of_ble_eq_true rfl) ⟨(Nat.le_of_ble_eq_true rfl), (Nat.le_of_ble_eq_true rfl)⟩ ⟨(Nat.le_of_ble_eq_true rfl), (Nat.le_of_ble_eq_true rfl)⟩ ?_
          refine t_X8_both q 130 131 hq hs_130 hs_131 ?_
          refine ev_eqi (w := mBo (I 123) (mSn 3 (I 126) 2) (mSn 3 (I 126) 1) q) rfl ?_
          refine ev_i2l (pc' := 199) (v := Int32.toInt64 (mBo (I 123) (mSn 3 (I 126) 2) (mSn 3 (I 126) 1) q)) dX8_layCut_198 rfl rfl ?_
          refine ev_last (pc' := 200) (j := 9) (L' := (ma_up L 120 (ma_up (ma_up (ma_up (ma_up (ma_up (ma_up (ma_up (ma_up (L 120) 0 (Int32.toInt64 (mBo (I 123) (mSn 3 (I 126) 0) (mSn 3 (I 126) 0) q))) 1 (Int32.toInt64 (mBo (I 123) (mSn 3 (I 126) 0) (mSn 3 (I 126) 1) q))) 2 (Int32.toInt64 (mBo (I 123) (mSn 3 (I 126) 0) (mSn 3 (I 126) 2) q))) 4 (Int32.toInt64 (mBo (I 123) (mSn 3 (I 126) 1) (mSn 3 (I 126) 0) q))) 5 (Int32.toInt64 (mBo (I 123) (mSn 3 (I 126) 1) (mSn 3 (I 126) 1) q))) 6 (Int32.toInt64 (mBo (I 123) (mSn 3 (I 126) 1) (mSn 3 (I 126) 2) q))) 8 (Int32.toInt64 (mBo (I 123) (mSn 3 (I 126) 2) (mSn 3 (I 126) 0) q))) 9 (Int32.toInt64 (mBo (I 123) (mSn 3 (I 126) 2) (mSn 3 (I 126) 1) q))))) dX8_layCut_199 rfl hs_120 rfl (Nat.le_of_ble_eq_true rfl) (Nat.le_of_ble_eq_true rfl) (ma_up_up _ _ _ _) ?_
          refine ev_iinc (pc' := 203) (v := 2) (lv' := [some (.ref 115), some (.int (nI q)), some (.int 3), some (.int 3), some (.int 2), some (.int 2), some (.int 4)]) dX8_layCut_200 rfl rfl (by decide) (Nat.le_of_ble_eq_true rfl) rfl rfl ?_
          refine ev_goto (tgt := 115) dX8_layCut_203 rfl ?_
          refine ev_iload (pc' := 117) dX8_layCut_115 rfl rfl ?_
          refine ev_iconst (pc' := 118) (v := 3) dX8_layCut_117 rfl ki_3 ?_
          refine ev_icmp_ge (tgt := 206) (pc' := 121) dX8_layCut_118 rfl rfl (fun h => absurd h (by decide)) (fun _ => ?_)
          refine ev_iconst (pc' := 122) (v := 0) dX8_layCut_121 rfl ki_0 ?_
          refine ev_istore (pc' := 124) (lv' := [some (.ref 115), some (.int (nI q)), some (.int 3), some (.int 3), some (.int 2), some (.int 2), some (.int 0)]) dX8_layCut_122 rfl (Nat.le_of_ble_eq_true rfl) rfl rfl ?_
          refine ev_iload (pc' := 126) dX8_layCut_124 rfl rfl ?_
          refine ev_iconst (pc' := 127) (v := 4) dX8_layCut_126 rfl ki_4 ?_
          refine ev_icmp_ge (tgt := 174) (pc' := 130) dX8_layCut_127 rfl rfl (fun h => absurd h (by decide)) (fun _ => ?_)
          refine ev_aload_n (pc' := 131) (i := 0) dX8_layCut_130 rfl rfl rfl ?_
          refine ev_getR (pc' := 134) fo_X8_58 dX8_layCut_131 rfl hs_115 rfl rf_115_21 ?_
          refine ev_iload (pc' := 136) dX8_layCut_134 rfl rfl ?_
          refine ev_aload_n (pc' := 137) (i := 0) dX8_layCut_136 rfl rfl rfl ?_
          refine ev_getR (pc' := 140) fo_X8_55 dX8_layCut_137 rfl hs_115 rfl rf_115_20 ?_
          refine ev_iconst (pc' := 141) (v := 4) dX8_layCut_140 rfl ki_4 ?_
          refine ev_iload (pc' := 143) dX8_layCut_141 rfl rfl ?_
          refine ev_imul (pc' := 144) (v := 8) dX8_layCut_143 rfl (by decide) ?_
          refine ev_iload (pc' := 146) dX8_layCut_144 rfl rfl ?_
          refine ev_iadd (pc' := 147) (v := 8) dX8_layCut_146 rfl (by decide) ?_
          refine ev_iald (pc' := 148) (j := 8) (v := 0) dX8_layCut_147 rfl hs_129 rfl (Nat.le_of_ble_eq_true rfl) (Nat.le_of_ble_eq_true rfl) rfl ?_
          refine ev_iast (pc' := 149) (j := 0) (I' := (ma_up (ma_up (ma_up I 129 (ma_up (ma_up (ma_up (ma_up (ma_up (ma_up (ma_up (ma_up (ma_up (ma_up (ma_up (ma_up (I 129) 0 ((I 126) 3)) 1 0) 2 0) 3 (-((I 126) 0))) 4 0) 5 ((I 126) 3)) 6 0) 7 (-((I 126) 1))) 8 0) 9 0) 10 ((I 126) 3)) 11 (-((I 126) 2)))) 130 (ma_up (ma_up (ma_up (ma_up (I 130) 0 0) 1 0) 2 ((I 126) 3)) 3 (-((I 126) 2)))) 131 (ma_up (ma_up (ma_up (ma_up (I 131) 0 0) 1 ((I 126) 3)) 2 0) 3 (-((I 126) 1))))) dX8_layCut_148 rfl hs_130 rfl (Nat.le_of_ble_eq_true rfl) (Nat.le_of_ble_eq_true rfl) ((congrArg (ma_up _ 130) ((ma_up_comm _ (show 0 ≠ 3 from (by decide)) _ _).trans (congrArg (fun f => ma_up f 3 _) ((ma_up_comm _ (show 0 ≠ 2 from (by decide)) _ _).trans (congrArg (fun f => ma_up f 2 _) ((ma_up_comm _ (show 0 ≠ 1 from (by decide)) _ _).trans (congrArg (fun f => ma_up f 1 _) (ma_up_up _ _ _ _)))))))).trans ((ma_up_comm _ (show 130 ≠ 131 from (by decide)) _ _).trans (congrArg (fun f => ma_up f 131 _) (ma_up_up _ _ _ _)))) ?_
          refine ev_aload_n (pc' := 150) (i := 0) dX8_layCut_149 rfl rfl rfl ?_
          refine ev_getR (pc' := 153) fo_X8_61 dX8_layCut_150 rfl hs_115 rfl rf_115_22 ?_
          refine ev_iload (pc' := 155) dX8_layCut_153 rfl rfl ?_
          refine ev_aload_n (pc' := 156) (i := 0) dX8_layCut_155 rfl rfl rfl ?_
          refine ev_getR (pc' := 159) fo_X8_55 dX8_layCut_156 rfl hs_115 rfl rf_115_20 ?_
          refine ev_iconst (pc' := 160) (v := 4) dX8_layCut_159 rfl ki_4 ?_
          refine ev_iload (pc' := 162) dX8_layCut_160 rfl rfl ?_
          refine ev_imul (pc' := 163) (v := 8) dX8_layCut_162 rfl (by decide) ?_
          refine ev_iload (pc' := 165) dX8_layCut_163 rfl rfl ?_
          refine ev_iadd (pc' := 166) (v := 8) dX8_layCut_165 rfl (by decide) ?_
          refine ev_iald (pc' := 167) (j := 8) (v := 0) dX8_layCut_166 rfl hs_129 rfl (Nat.le_of_ble_eq_true rfl) (Nat.le_of_ble_eq_true rfl) rfl ?_
          refine ev_iast (pc' := 168) (j := 0) (I' := (ma_up (ma_up (ma_up I 129 (ma_up (ma_up (ma_up (ma_up (ma_up (ma_up (ma_up (ma_up (ma_up (ma_up (ma_up (ma_up (I 129) 0 ((I 126) 3)) 1 0) 2 0) 3 (-((I 126) 0))) 4 0) 5 ((I 126) 3)) 6 0) 7 (-((I 126) 1))) 8 0) 9 0) 10 ((I 126) 3)) 11 (-((I 126) 2)))) 130 (ma_up (ma_up (ma_up (ma_up (I 130) 0 0) 1 0) 2 ((I 126) 3)) 3 (-((I 126) 2)))) 131 (ma_up (ma_up (ma_up (ma_up (I 131) 0 0) 1 ((I 126) 3)) 2 0) 3 (-((I 126) 1))))) dX8_layCut_167 rfl hs_131 rfl (Nat.le_of_ble_eq_true rfl) (Nat.le_of_ble_eq_true rfl) ((congrArg (ma_up _ 131) ((ma_up_comm _ (show 0 ≠ 3 from (by decide)) _ _).trans (congrArg (fun f => ma_up f 3 _) ((ma_up_comm _ (show 0 ≠ 2 from (by decide)) _ _).trans (congrArg (fun f => ma_up f 2 _) ((ma_up_comm _ (show 0 ≠ 1 from (by decide)) _ _).trans (congrArg (fun f => ma_up f 1 _) (ma_up_up _ _ _ _)))))))).trans (ma_up_up _ _ _ _)) ?_
          refine ev_iinc (pc' := 171) (v := 1) (lv' := [some (.ref 115), some (.int (nI q)), some (.int 3), some (.int 3), some (.int 2), some (.int 2), some (.int 1)]) dX8_layCut_168 rfl rfl (by decide) (Nat.le_of_ble_eq_true rfl) rfl rfl ?_
          refine ev_goto (tgt := 124) dX8_layCut_171 rfl ?_
          refine ev_iload (pc' := 126) dX8_layCut_124 rfl rfl ?_
          refine ev_iconst (pc' := 127) (v := 4) dX8_layCut_126 rfl ki_4 ?_
          refine ev_icmp_ge (tgt := 174) (pc' := 130) dX8_layCut_127 rfl rfl (fun h => absurd h (by decide)) (fun _ => ?_)
          refine ev_aload_n (pc' := 131) (i := 0) dX8_layCut_130 rfl rfl rfl ?_
          refine ev_getR (pc' := 134) fo_X8_58 dX8_layCut_131 rfl hs_115 rfl rf_115_21 ?_
          refine ev_iload (pc' := 136) dX8_layCut_134 rfl rfl ?_
          refine ev_aload_n (pc' := 137) (i := 0) dX8_layCut_136 rfl rfl rfl ?_
          refine ev_getR (pc' := 140) fo_X8_55 dX8_layCut_137 rfl hs_115 rfl rf_115_20 ?_
          refine ev_iconst (pc' := 141) (v := 4) dX8_layCut_140 rfl ki_4 ?_
          refine ev_iload (pc' := 143) dX8_layCut_141 rfl rfl ?_
          refine ev_imul (pc' := 144) (v := 8) dX8_layCut_143 rfl (by decide) ?_
          refine ev_iload (pc' := 146) dX8_layCut_144 rfl rfl ?_
          refine ev_iadd (pc' := 147) (v := 9) dX8_layCut_146 rfl (by decide) ?_
          refine ev_iald (pc' := 148) (j := 9) (v := 0) dX8_layCut_147 rfl hs_129 rfl (Nat.le_of_ble_eq_true rfl) (Nat.le_of_ble_eq_true rfl) rfl ?_
          refine ev_iast (pc' := 149) (j := 1) (I' := (ma_up (ma_up (ma_up I 129 (ma_up (ma_up (ma_up (ma_up (ma_up (ma_up (ma_up (ma_up (ma_up (ma_up (ma_up (ma_up (I 129) 0 ((I 126) 3)) 1 0) 2 0) 3 (-((I 126) 0))) 4 0) 5 ((I 126) 3)) 6 0) 7 (-((I 126) 1))) 8 0) 9 0) 10 ((I 126) 3)) 11 (-((I 126) 2)))) 130 (ma_up (ma_up (ma_up (ma_up (I 130) 0 0) 1 0) 2 ((I 126) 3)) 3 (-((I 126) 2)))) 131 (ma_up (ma_up (ma_up (ma_up (I 131) 0 0) 1 ((I 126) 3)) 2 0) 3 (-((I 126) 1))))) dX8_layCut_148 rfl hs_130 rfl (Nat.le_of_ble_eq_true rfl) (Nat.le_of_ble_eq_true rfl) ((congrArg (ma_up _ 130) ((ma_up_comm _ (show 1 ≠ 3 from (by decide)) _ _).trans (congrArg (fun f => ma_up f 3 _) ((ma_up_comm _ (show 1 ≠ 2 from (by decide)) _ _).trans (congrArg (fun f => ma_up f 2 _) (ma_up_up _ _ _ _)))))).trans ((ma_up_comm _ (show 130 ≠ 131 from (by decide)) _ _).trans (congrArg (fun f => ma_up f 131 _) (ma_up_up _ _ _ _)))) ?_
          refine ev_aload_n (pc' := 150) (i := 0) dX8_layCut_149 rfl rfl rfl ?_
          refine ev_getR (pc' := 153) fo_X8_61 dX8_layCut_150 rfl hs_115 rfl rf_115_22 ?_
          refine ev_iload (pc' := 155) dX8_layCut_153 rfl rfl ?_
          refine ev_aload_n (pc' := 156) (i := 0) dX8_layCut_155 rfl rfl rfl ?_
          refine ev_getR (pc' := 159) fo_X8_55 dX8_layCut_156 rfl hs_115 rfl rf_115_20 ?_
          refine ev_iconst (pc' := 160) (v := 4) dX8_layCut_159 rfl ki_4 ?_
          refine ev_iload (pc' := 162) dX8_layCut_160 rfl rfl ?_
          refine ev_imul (pc' := 163) (v := 8) dX8_layCut_162 rfl (by decide) ?_
          refine ev_iload (pc' := 165) dX8_layCut_163 rfl rfl ?_
          refine ev_iadd (pc' := 166) (v := 9) dX8_layCut_165 rfl (by decide) ?_
          refine ev_iald (pc' := 167) (j := 9) (v := 0) dX8_layCut_166 rfl hs_129 rfl (Nat.le_of_ble_eq_true rfl) (Nat.le_of_ble_eq_true rfl) rfl ?_
          refine ev_iast (pc' := 168) (j := 1) (I' := (ma_up (ma_up (ma_up I 129 (ma_up (ma_up (ma_up (ma_up (ma_up (ma_up (ma_up (ma_up (ma_up (ma_up (ma_up (ma_up (I 129) 0 ((I 126) 3)) 1 0) 2 0) 3 (-((I 126) 0))) 4 0) 5 ((I 126) 3)) 6 0) 7 (-((I 126) 1))) 8 0) 9 0) 10 ((I 126) 3)) 11 (-((I 126) 2)))) 130 (ma_up (ma_up (ma_up (ma_up (I 130) 0 0) 1 0) 2 ((I 126) 3)) 3 (-((I 126) 2)))) 131 (ma_up (ma_up (ma_up (ma_up (I 131) 0 0) 1 0) 2 0) 3 (-((I 126) 1))))) dX8_layCut_167 rfl hs_131 rfl (Nat.le_of_ble_eq_true rfl) (Nat.le_of_ble_eq_true rfl) ((congrArg (ma_up _ 131) ((ma_up_comm _ (show 1 ≠ 3 from (by decide)) _ _).trans (congrArg (fun f => ma_up f 3 _) ((ma_up_comm _ (show 1 ≠ 2 from (by decide)) _ _).trans (congrArg (fun f => ma_up f 2 _) (ma_up_up _ _ _ _)))))).trans (ma_up_up _ _ _ _)) ?_
          refine ev_iinc (pc' := 171) (v := 2) (lv' := [some (.ref 115), some (.int (nI q)), some (.int 3), some (.int 3), some (.int 2), some (.int 2), some (.int 2)]) dX8_layCut_168 rfl rfl (by decide) (Nat.le_of_ble_eq_true rfl) rfl rfl ?_
          refine ev_goto (tgt := 124) dX8_layCut_171 rfl ?_
          refine ev_iload (pc' := 126) dX8_layCut_124 rfl rfl ?_
          refine ev_iconst (pc' := 127) (v := 4) dX8_layCut_126 rfl ki_4 ?_
          refine ev_icmp_ge (tgt := 174) (pc' := 130) dX8_layCut_127 rfl rfl (fun h => absurd h (by decide)) (fun _ => ?_)
          refine ev_aload_n (pc' := 131) (i := 0) dX8_layCut_130 rfl rfl rfl ?_
          refine ev_getR (pc' := 134) fo_X8_58 dX8_layCut_131 rfl hs_115 rfl rf_115_21 ?_
          refine ev_iload (pc' := 136) dX8_layCut_134 rfl rfl ?_
          refine ev_aload_n (pc' := 137) (i := 0) dX8_layCut_136 rfl rfl rfl ?_
          refine ev_getR (pc' := 140) fo_X8_55 dX8_layCut_137 rfl hs_115 rfl rf_115_20 ?_
          refine ev_iconst (pc' := 141) (v := 4) dX8_layCut_140 rfl ki_4 ?_
          refine ev_iload (pc' := 143) dX8_layCut_141 rfl rfl ?_
          refine ev_imul (pc' := 144) (v := 8) dX8_layCut_143 rfl (by decide) ?_
          refine ev_iload (pc' := 146) dX8_layCut_144 rfl rfl ?_
          refine ev_iadd (pc' := 147) (v := 10) dX8_layCut_146 rfl (by decide) ?_
          refine ev_iald (pc' := 148) (j := 10) (v := (I 126) 3) dX8_layCut_147 rfl hs_129 rfl (Nat.le_of_ble_eq_true rfl) (Nat.le_of_ble_eq_true rfl) rfl ?_
          refine ev_iast (pc' := 149) (j := 2) (I' := (ma_up (ma_up (ma_up I 129 (ma_up (ma_up (ma_up (ma_up (ma_up (ma_up (ma_up (ma_up (ma_up (ma_up (ma_up (ma_up (I 129) 0 ((I 126) 3)) 1 0) 2 0) 3 (-((I 126) 0))) 4 0) 5 ((I 126) 3)) 6 0) 7 (-((I 126) 1))) 8 0) 9 0) 10 ((I 126) 3)) 11 (-((I 126) 2)))) 130 (ma_up (ma_up (ma_up (ma_up (I 130) 0 0) 1 0) 2 ((I 126) 3)) 3 (-((I 126) 2)))) 131 (ma_up (ma_up (ma_up (ma_up (I 131) 0 0) 1 0) 2 0) 3 (-((I 126) 1))))) dX8_layCut_148 rfl hs_130 rfl (Nat.le_of_ble_eq_true rfl) (Nat.le_of_ble_eq_true rfl) ((congrArg (ma_up _ 130) ((ma_up_comm _ (show 2 ≠ 3 from (by decide)) _ _).trans (congrArg (fun f => ma_up f 3 _) (ma_up_up _ _ _ _)))).trans ((ma_up_comm _ (show 130 ≠ 131 from (by decide)) _ _).trans (congrArg (fun f => ma_up f 131 _) (ma_up_up _ _ _ _)))) ?_
          refine ev_aload_n (pc' := 150) (i := 0) dX8_layCut_149 rfl rfl rfl ?_
          refine ev_getR (pc' := 153) fo_X8_61 dX8_layCut_150 rfl hs_115 rfl rf_115_22 ?_
          refine ev_iload (pc' := 155) dX8_layCut_153 rfl rfl ?_
          refine ev_aload_n (pc' := 156) (i := 0) dX8_layCut_155 rfl rfl rfl ?_
          refine ev_getR (pc' := 159) fo_X8_55 dX8_layCut_156 rfl hs_115 rfl rf_115_20 ?_
          refine ev_iconst (pc' := 160) (v := 4) dX8_layCut_159 rfl ki_4 ?_
          refine ev_iload (pc' := 162) dX8_layCut_160 rfl rfl ?_
          refine ev_imul (pc' := 163) (v := 8) dX8_layCut_162 rfl (by decide) ?_
          refine ev_iload (pc' := 165) dX8_layCut_163 rfl rfl ?_
          refine ev_iadd (pc' := 166) (v := 10) dX8_layCut_165 rfl (by decide) ?_
          refine ev_iald (pc' := 167) (j := 10) (v := (I 126) 3) dX8_layCut_166 rfl hs_129 rfl (Nat.le_of_ble_eq_true rfl) (Nat.le_of_ble_eq_true rfl) rfl ?_
          refine ev_iast (pc' := 168) (j := 2) (I' := (ma_up (ma_up (ma_up I 129 (ma_up (ma_up (ma_up (ma_up (ma_up (ma_up (ma_up (ma_up (ma_up (ma_up (ma_up (ma_up (I 129) 0 ((I 126) 3)) 1 0) 2 0) 3 (-((I 126) 0))) 4 0) 5 ((I 126) 3)) 6 0) 7 (-((I 126) 1))) 8 0) 9 0) 10 ((I 126) 3)) 11 (-((I 126) 2)))) 130 (ma_up (ma_up (ma_up (ma_up (I 130) 0 0) 1 0) 2 ((I 126) 3)) 3 (-((I 126) 2)))) 131 (ma_up (ma_up (ma_up (ma_up (I 131) 0 0) 1 0) 2 ((I 126) 3)) 3 (-((I 126) 1))))) dX8_layCut_167 rfl hs_131 rfl (Nat.le_of_ble_eq_true rfl) (Nat.le_of_ble_eq_true rfl) ((congrArg (ma_up _ 131) ((ma_up_comm _ (show 2 ≠ 3 from (by decide)) _ _).trans (congrArg (fun f => ma_up f 3 _) (ma_up_up _ _ _ _)))).trans (ma_up_up _ _ _ _)) ?_
          refine ev_iinc (pc' := 171) (v := 3) (lv' := [some (.ref 115), some (.int (nI q)), some (.int 3), some (.int 3), some (.int 2), some (.int 2), some (.int 3)]) dX8_layCut_168 rfl rfl (by decide) (Nat.le_of_ble_eq_true rfl) rfl rfl ?_
          refine ev_goto (tgt := 124) dX8_layCut_171 rfl ?_
          refine ev_iload (pc' := 126) dX8_layCut_124 rfl rfl ?_
          refine ev_iconst (pc' := 127) (v := 4) dX8_layCut_126 rfl ki_4 ?_
          refine ev_icmp_ge (tgt := 174) (pc' := 130) dX8_layCut_127 rfl rfl (fun h => absurd h (by decide)) (fun _ => ?_)
          refine ev_aload_n (pc' := 131) (i := 0) dX8_layCut_130 rfl rfl rfl ?_
          refine ev_getR (pc' := 134) fo_X8_58 dX8_layCut_131 rfl hs_115 rfl rf_115_21 ?_
          refine ev_iload (pc' := 136) dX8_layCut_134 rfl rfl ?_
          refine ev_aload_n (pc' := 137) (i := 0) dX8_layCut_136 rfl rfl rfl ?_
          refine ev_getR (pc' := 140) fo_X8_55 dX8_layCut_137 rfl hs_115 rfl rf_115_20 ?_
          refine ev_iconst (pc' := 141) (v := 4) dX8_layCut_140 rfl ki_4 ?_
          refine ev_iload (pc' := 143) dX8_layCut_141 rfl rfl ?_
          refine ev_imul (pc' := 144) (v := 8) dX8_layCut_143 rfl (by decide) ?_
          refine ev_iload (pc' := 146) dX8_layCut_144 rfl rfl ?_
          refine ev_iadd (pc' := 147) (v := 11) dX8_layCut_146 rfl (by decide) ?_
          refine ev_iald (pc' := 148) (j := 11) (v := -((I 126) 2)) dX8_layCut_147 rfl hs_129 rfl (Nat.le_of_ble_eq_true rfl) (Nat.le_of_ble_eq_true rfl) rfl ?_
          refine ev_iast (pc' := 149) (j := 3) (I' := (ma_up (ma_up (ma_up I 129 (ma_up (ma_up (ma_up (ma_up (ma_up (ma_up (ma_up (ma_up (ma_up (ma_up (ma_up (ma_up (I 129) 0 ((I 126) 3)) 1 0) 2 0) 3 (-((I 126) 0))) 4 0) 5 ((I 126) 3)) 6 0) 7 (-((I 126) 1))) 8 0) 9 0) 10 ((I 126) 3)) 11 (-((I 126) 2)))) 130 (ma_up (ma_up (ma_up (ma_up (I 130) 0 0) 1 0) 2 ((I 126) 3)) 3 (-((I 126) 2)))) 131 (ma_up (ma_up (ma_up (ma_up (I 131) 0 0) 1 0) 2 ((I 126) 3)) 3 (-((I 126) 1))))) dX8_layCut_148 rfl hs_130 rfl (Nat.le_of_ble_eq_true rfl) (Nat.le_of_ble_eq_true rfl) ((congrArg (ma_up _ 130) (ma_up_up _ _ _ _)).trans ((ma_up_comm _ (show 130 ≠ 131 from (by decide)) _ _).trans (congrArg (fun f => ma_up f 131 _) (ma_up_up _ _ _ _)))) ?_
          refine ev_aload_n (pc' := 150) (i := 0) dX8_layCut_149 rfl rfl rfl ?_
          refine ev_getR (pc' := 153) fo_X8_61 dX8_layCut_150 rfl hs_115 rfl rf_115_22 ?_
          refine ev_iload (pc' := 155) dX8_layCut_153 rfl rfl ?_
          refine ev_aload_n (pc' := 156) (i := 0) dX8_layCut_155 rfl rfl rfl ?_
          refine ev_getR (pc' := 159) fo_X8_55 dX8_layCut_156 rfl hs_115 rfl rf_115_20 ?_
          refine ev_iconst (pc' := 160) (v := 4) dX8_layCut_159 rfl ki_4 ?_
          refine ev_iload (pc' := 162) dX8_layCut_160 rfl rfl ?_
          refine ev_imul (pc' := 163) (v := 8) dX8_layCut_162 rfl (by decide) ?_
          refine ev_iload (pc' := 165) dX8_layCut_163 rfl rfl ?_
          refine ev_iadd (pc' := 166) (v := 11) dX8_layCut_165 rfl (by decide) ?_
          refine ev_iald (pc' := 167) (j := 11) (v := -((I 126) 2)) dX8_layCut_166 rfl hs_129 rfl (Nat.le_of_ble_eq_true rfl) (Nat.le_of_ble_eq_true rfl) rfl ?_
          refine ev_iast (pc' := 168) (j := 3) (I' := (ma_up (ma_up (ma_up I 129 (ma_up (ma_up (ma_up (ma_up (ma_up (ma_up (ma_up (ma_up (ma_up (ma_up (ma_up (ma_up (I 129) 0 ((I 126) 3)) 1 0) 2 0) 3 (-((I 126) 0))) 4 0) 5 ((I 126) 3)) 6 0) 7 (-((I 126) 1))) 8 0) 9 0) 10 ((I 126) 3)) 11 (-((I 126) 2)))) 130 (ma_up (ma_up (ma_up (ma_up (I 130) 0 0) 1 0) 2 ((I 126) 3)) 3 (-((I 126) 2)))) 131 (ma_up (ma_up (ma_up (ma_up (I 131) 0 0) 1 0) 2 ((I 126) 3)) 3 (-((I 126) 2))))) dX8_layCut_167 rfl hs_131 rfl (Nat.le_of_ble_eq_true rfl) (Nat.le_of_ble_eq_true rfl) ((congrArg (ma_up _ 131) (ma_up_up _ _ _ _)).trans (ma_up_up _ _ _ _)) ?_
          refine ev_iinc (pc' := 171) (v := 4) (lv' := [some (.ref 115), some (.int (nI q)), some (.int 3), some (.int 3), some (.int 2), some (.int 2), some (.int 4)]) dX8_layCut_168 rfl rfl (by decide) (Nat.le_of_ble_eq_true rfl) rfl rfl ?_
          refine ev_goto (tgt := 124) dX8_layCut_171 rfl ?_
          refine ev_iload (pc' := 126) dX8_layCut_124 rfl rfl ?_
          refine ev_iconst (pc' := 127) (v := 4) dX8_layCut_126 rfl ki_4 ?_
          refine ev_icmp_ge (tgt := 174) (pc' := 130) dX8_layCut_127 rfl rfl (fun _ => ?_) (fun h => absurd (by decide) h)
          refine ev_aload_n (pc' := 175) (i := 0) dX8_layCut_174 rfl rfl rfl ?_
          refine ev_getR (pc' := 178) fo_X8_26 dX8_layCut_175 rfl hs_115 rfl rf_115_8 ?_
          refine ev_iconst (pc' := 179) (v := 4) dX8_layCut_178 rfl ki_4 ?_
          refine ev_iload (pc' := 181) dX8_layCut_179 rfl rfl ?_
          refine ev_imul (pc' := 182) (v := 8) dX8_layCut_181 rfl (by decide) ?_
          refine ev_iload (pc' := 184) dX8_layCut_182 rfl rfl ?_
          refine ev_iadd (pc' := 185) (v := 10) dX8_layCut_184 rfl (by decide) ?_
          refine ev_aload_n (pc' := 186) (i := 0) dX8_layCut_185 rfl rfl rfl ?_
          refine ev_iload_n (pc' := 187) (i := 1) dX8_layCut_186 rfl rfl rfl ?_
          refine ev_aload_n (pc' := 188) (i := 0) dX8_layCut_187 rfl rfl rfl ?_
          refine ev_getR (pc' := 191) fo_X8_58 dX8_layCut_188 rfl hs_115 rfl rf_115_21 ?_
          refine ev_aload_n (pc' := 192) (i := 0) dX8_layCut_191 rfl rfl rfl ?_
          refine ev_getR (pc' := 195) fo_X8_61 dX8_layCut_192 rfl hs_115 rfl rf_115_22 ?_
          refine ev_callV (pc' := 198) (rm' := rX8_both) (b := 115) (av := [.int (nI q), .ref 130, .ref 131]) (rest := [.int 10, .ref 120]) co_X8_241 ci_X8_both cv_X8_both dX8_layCut_195 rfl hs_115 hb_X8 rfl rfl (Nat.le_of_ble_eq_true rfl) ⟨(Nat.le_of_ble_eq_true rfl), (Nat.le_of_ble_eq_true rfl)⟩ ⟨(Nat.le_of_ble_eq_true rfl), (Nat.le_of_ble_eq_true rfl)⟩ ?_
          refine t_X8_both q 130 131 hq hs_130 hs_131 ?_
          refine ev_eqi (w := mBo (I 123) (mSn 3 (I 126) 2) (mSn 3 (I 126) 2) q) rfl ?_
          refine ev_i2l (pc' := 199) (v := Int32.toInt64 (mBo (I 123) (mSn 3 (I 126) 2) (mSn 3 (I 126) 2) q)) dX8_layCut_198 rfl rfl ?_
          refine ev_last (pc' := 200) (j := 10) (L' := (ma_up L 120 (ma_up (ma_up (ma_up (ma_up (ma_up (ma_up (ma_up (ma_up (ma_up (L 120) 0 (Int32.toInt64 (mBo (I 123) (mSn 3 (I 126) 0) (mSn 3 (I 126) 0) q))) 1 (Int32.toInt64 (mBo (I 123) (mSn 3 (I 126) 0) (mSn 3 (I 126) 1) q))) 2 (Int32.toInt64 (mBo (I 123) (mSn 3 (I 126) 0) (mSn 3 (I 126) 2) q))) 4 (Int32.toInt64 (mBo (I 123) (mSn 3 (I 126) 1) (mSn 3 (I 126) 0) q))) 5 (Int32.toInt64 (mBo (I 123) (mSn 3 (I 126) 1) (mSn 3 (I 126) 1) q))) 6 (Int32.toInt64 (mBo (I 123) (mSn 3 (I 126) 1) (mSn 3 (I 126) 2) q))) 8 (Int32.toInt64 (mBo (I 123) (mSn 3 (I 126) 2) (mSn 3 (I 126) 0) q))) 9 (Int32.toInt64 (mBo (I 123) (mSn 3 (I 126) 2) (mSn 3 (I 126) 1) q))) 10 (Int32.toInt64 (mBo (I 123) (mSn 3 (I 126) 2) (mSn 3 (I 126) 2) q))))) dX8_layCut_199 rfl hs_120 rfl (Nat.le_of_ble_eq_true rfl) (Nat.le_of_ble_eq_true rfl) (ma_up_up _ _ _ _) ?_
          refine ev_iinc (pc' := 203) (v := 3) (lv' := [some (.ref 115), some (.int (nI q)), some (.int 3), some (.int 3), some (.int 2), some (.int 3), some (.int 4)]) dX8_layCut_200 rfl rfl (by decide) (Nat.le_of_ble_eq_true rfl) rfl rfl ?_
          refine ev_goto (tgt := 115) dX8_layCut_203 rfl ?_
          refine ev_iload (pc' := 117) dX8_layCut_115 rfl rfl ?_
          refine ev_iconst (pc' := 118) (v := 3) dX8_layCut_117 rfl ki_3 ?_
          refine ev_icmp_ge (tgt := 206) (pc' := 121) dX8_layCut_118 rfl rfl (fun _ => ?_) (fun h => absurd (by decide) h)
          refine ev_iinc (pc' := 209) (v := 3) (lv' := [some (.ref 115), some (.int (nI q)), some (.int 3), some (.int 3), some (.int 3), some (.int 3), some (.int 4)]) dX8_layCut_206 rfl rfl (by decide) (Nat.le_of_ble_eq_true rfl) rfl rfl ?_
          refine ev_goto (tgt := 106) dX8_layCut_209 rfl ?_
          refine ev_iload (pc' := 108) dX8_layCut_106 rfl rfl ?_
          refine ev_iconst (pc' := 109) (v := 3) dX8_layCut_108 rfl ki_3 ?_
          refine ev_icmp_ge (tgt := 212) (pc' := 112) dX8_layCut_109 rfl rfl (fun _ => ?_) (fun h => absurd (by decide) h)
          refine ev_aload_n (pc' := 213) (i := 0) dX8_layCut_212 rfl rfl rfl ?_
          refine ev_callV (pc' := 216) (rm' := rX8_layThree) (b := 115) (av := []) (rest := []) co_X8_191 ci_X8_layThree cv_X8_layThree dX8_layCut_213 rfl hs_115 hb_X8 rfl rfl (Nat.le_of_ble_eq_true rfl) ⟨(Nat.le_of_ble_eq_true rfl), (Nat.le_of_ble_eq_true rfl)⟩ ⟨(Nat.le_of_ble_eq_true rfl), (Nat.le_of_ble_eq_true rfl)⟩ ?_
          refine f_X8_layThree (fun J9 f1 f2 f3 => ?_)
          have f1 : J9 115 9 = mTA (mCu (I 123) q 3 (I 126)) := f1
          have f2 : J9 115 10 = mTB (mCu (I 123) q 3 (I 126)) := f2
          refine ev_vret dX8_layCut_216 rfl ⟨Nat.le_refl _, Nat.le_refl _⟩ ?_
          exact k0 3 J9 _ (by omega) c4 (pt_all (pt_all (pt_all (fun j hj => absurd hj (Nat.not_lt_zero j)) c1) c2) c3) f1 f2 ((((((mSx.rf (I := I)).le (A' := [129, 130, 131]) (B' := []) (fun _ h => absurd h List.not_mem_nil) (fun _ h => absurd h List.not_mem_nil)).up (by simp) (by decide)).up (by simp) (by decide)).up (by simp) (by decide)).trans f3) (mSl.up (mSl.rf.le (fun _ h => absurd h List.not_mem_nil)) List.mem_cons_self)
        · refine ev_iinc (pc' := 14) (v := 4) (lv' := [some (.ref 115), some (.int (nI q)), some (.int 4), none, none, none, none]) dX8_layCut_11 rfl rfl (by decide) (Nat.le_of_ble_eq_true rfl) rfl rfl ?_
          refine ev_goto (tgt := 2) dX8_layCut_14 rfl ?_
          exact absurd (pt_all (pt_all (pt_all (pt_all (fun j hj => absurd hj (Nat.not_lt_zero j)) c1) c2) c3) c4) hne
theorem mSn_c {v v' : Nat → Int32} {ld n : Nat} (hl : ld < 4) (hn : n < 3) (h : ∀ j, j < 4 → v j = v' j) : mSn ld v n = mSn ld v' n := by
  funext i
  unfold mSn
  rw [h ld hl, h (if n < ld then n else n + 1) (by split <;> omega)]
theorem mCu_16 (T : Nat → Int32) (q ld : Nat) (v v' : Nat → Int32) (h : ∀ n, n < 3 → mSn ld v n = mSn ld v' n) : ∀ j, j < 11 → j % 4 < 3 → mCu T q ld v j = mCu T q ld v' j := fun j hj h4 => by
  unfold mCu
  rw [h (j / 4) (by omega), h (j % 4) h4]
theorem mT_c {t t' : Nat → Int64} (h : ∀ j, j < 11 → j % 4 < 3 → t j = t' j) : mTA t = mTA t' ∧ mTB t = mTB t' := by
  have e : mTA t = mTA (fun j => if j < 11 ∧ j % 4 < 3 then t j else 0) := rfl
  have e' : mTA t' = mTA (fun j => if j < 11 ∧ j % 4 < 3 then t' j else 0) := rfl
  have f : mTB t = mTB (fun j => if j < 11 ∧ j % 4 < 3 then t j else 0) := rfl
  have f' : mTB t' = mTB (fun j => if j < 11 ∧ j % 4 < 3 then t' j else 0) := rfl
  have g : (fun j => if j < 11 ∧ j % 4 < 3 then t j else 0) = (fun j => if j < 11 ∧ j % 4 < 3 then t' j else 0) := by
    funext j
    by_cases q : j < 11 ∧ j % 4 < 3
    · rw [if_pos q, if_pos q, h j q.1 q.2]
    · rw [if_neg q, if_neg q]
  exact ⟨by rw [e, e', g], by rw [f, f', g]⟩
set_option maxRecDepth 4000 in
theorem t_X8_cut {g : ma_G} {Post : ma_P} {I : ma_I} {L : ma_L}  (q : Int32) (s : Int32)  (k1 : (¬ ((¬ q < 0) ∧ (¬ 11 < q))) → Post (some (.int (-1))) HS I L RF 146) (k2 : ∀ j2 : Nat, (j2 < 12) → q = nI j2 → ∀ j5 : Nat, (j5 < 8) → s = nI j5 → (((I 122) j2) = 0) → Post (some (.int (-3))) HS (mMt I 1) L RF 146) (k3 : ∀ j9 : Nat, (j9 < 12) → q = nI j9 → ∀ j12 : Nat, (j12 < 8) → s = nI j12 → (¬ ((I 122) j9) = 0) → (0 ≤ ((I 117) j12)) → (4 ≤ ((I 117) j12)) → ∀ j18 : Int32, ∀ j19 : Int32, (((j18 = 0 ∨ j18 = 1) ∧ (j18 = 1 ↔ ∀ j, j < 4 → ((¬ I 118 (16 * j12 + j) < (-100)) ∧ (¬ 100 < I 118 (16 * j12 + j))))) ∧ ((j19 = 0 ∨ j19 = 1) ∧ (j19 = 1 ↔ ∀ j, j < 4 → I 118 (16 * j12 + j) = 0))) → (¬ j18 = 0) → (j19 = 0) → ∀ ld : Nat, ∀ J : ma_I, ∀ K : ma_L, (ld < 4) → (¬ (fun k => I 118 (16 * j12 + k)) ld = 0) → (∀ j, j < ld → (fun k => I 118 (16 * j12 + k)) j = 0) → (J 115 9 = mTA (mCu (I 123) j9 ld (fun k => I 118 (16 * j12 + k)))) → (J 115 10 = mTB (mCu (I 123) j9 ld (fun k => I 118 (16 * j12 + k)))) → (mSx [126, 129, 130, 131, 121] [9, 10] I J) → (mSl [120] L K) → Post (some (.int (if ((J 115) 9) ≤ ((J 115) 10) then ((10 * ((J 115) 10)) + ((J 115) 9)) else ((10 * ((J 115) 9)) + ((J 115) 10))))) HS J K RF 146) (k4 : ∀ j23 : Nat, (j23 < 12) → q = nI j23 → ∀ j26 : Nat, (j26 < 8) → s = nI j26 → (¬ ((I 122) j23) = 0) → (0 ≤ ((I 117) j26)) → (4 ≤ ((I 117) j26)) → ∀ j32 : Int32, ∀ j33 : Int32, (((j32 = 0 ∨ j32 = 1) ∧ (j32 = 1 ↔ ∀ j, j < 4 → ((¬ I 118 (16 * j26 + j) < (-100)) ∧ (¬ 100 < I 118 (16 * j26 + j))))) ∧ ((j33 = 0 ∨ j33 = 1) ∧ (j33 = 1 ↔ ∀ j, j < 4 → I 118 (16 * j26 + j) = 0))) → (¬ j32 = 0) → (¬ j33 = 0) → Post (some (.int (-3))) HS (mMt (mfill I 126 0 4 (fun k => I 118 (16 * j26 + k))) 4) L RF 146) (k5 : ∀ j37 : Nat, (j37 < 12) → q = nI j37 → ∀ j40 : Nat, (j40 < 8) → s = nI j40 → (¬ ((I 122) j37) = 0) → (0 ≤ ((I 117) j40)) → (4 ≤ ((I 117) j40)) → ∀ j46 : Int32, ∀ j47 : Int32, (((j46 = 0 ∨ j46 = 1) ∧ (j46 = 1 ↔ ∀ j, j < 4 → ((¬ I 118 (16 * j40 + j) < (-100)) ∧ (¬ 100 < I 118 (16 * j40 + j))))) ∧ ((j47 = 0 ∨ j47 = 1) ∧ (j47 = 1 ↔ ∀ j, j < 4 → I 118 (16 * j40 + j) = 0))) → (j46 = 0) → Post (some (.int (-3))) HS (mMt (mfill I 126 0 4 (fun k => I 118 (16 * j40 + k))) 2) L RF 146) (k6 : ∀ j50 : Nat, (j50 < 12) → q = nI j50 → ∀ j53 : Nat, (j53 < 8) → s = nI j53 → (¬ ((I 122) j50) = 0) → (0 ≤ ((I 117) j53)) → (¬ 4 ≤ ((I 117) j53)) → Post (some (.int (-3))) HS (mMt I 5) L RF 146) (k7 : ∀ j59 : Nat, (j59 < 12) → q = nI j59 → ∀ j62 : Nat, (j62 < 8) → s = nI j62 → (¬ ((I 122) j59) = 0) → (¬ 0 ≤ ((I 117) j62)) → Post (some (.int (-3))) HS (mMt I 1) L RF 146) (k8 : ∀ j67 : Nat, (j67 < 12) → q = nI j67 → (¬ ((¬ s < 0) ∧ (¬ 7 < s))) → Post (some (.int (-1))) HS I L RF 146) : CT g yX8_cut cX8_cut 4 (some .int) rX8_cut [.ref 115, .int q, .int s] Post HS I L RF 146 := by
  refine ct_of (lv := [some (.ref 115), some (.int q), some (.int s), none]) (by decide) (Nat.le_of_ble_eq_true rfl) rfl ?_
  refine ev_aload_n (pc' := 1) (i := 0) dX8_cut_0 rfl rfl rfl ?_
  refine ev_iload_n (pc' := 2) (i := 1) dX8_cut_1 rfl rfl rfl ?_
  refine ev_iload_n (pc' := 3) (i := 2) dX8_cut_2 rfl rfl rfl ?_
  refine ev_callV (pc' := 6) (rm' := rX8_askedPlace) (b := 115) (av := [.int q, .int s]) (rest := []) co_X8_238 ci_X8_askedPlace cv_X8_askedPlace dX8_cut_3 rfl hs_115 hb_X8 rfl rfl (Nat.le_of_ble_eq_true rfl) ⟨(Nat.le_of_ble_eq_true rfl), (Nat.le_of_ble_eq_true rfl)⟩ ⟨(Nat.le_of_ble_eq_true rfl), (Nat.le_of_ble_eq_true rfl)⟩ ?_
  refine t_X8_askedPlace q s  (fun h1 => ?_) (fun j2 h3 e4 j5 h6 e7 h8 => ?_) (fun j9 h10 e11 j12 h13 e14 h15 h16 h17 j18 j19 h20 h21 h22 => ?_) (fun j23 h24 e25 j26 h27 e28 h29 h30 h31 j32 j33 h34 h35 h36 => ?_) (fun j37 h38 e39 j40 h41 e42 h43 h44 h45 j46 j47 h48 h49 => ?_) (fun j50 h51 e52 j53 h54 e55 h56 h57 h58 => ?_) (fun j59 h60 e61 j62 h63 e64 h65 h66 => ?_) (fun j67 h68 e69 h70 => ?_)
  · skip
    refine ev_istore_n (pc' := 7) (i := 3) (lv' := [some (.ref 115), some (.int q), some (.int s), some (.int (-1))]) dX8_cut_6 rfl rfl (Nat.le_of_ble_eq_true rfl) rfl rfl ?_
    refine ev_iload_n (pc' := 8) (i := 3) dX8_cut_7 rfl rfl rfl ?_
    refine ev_if_ge (tgt := 13) (pc' := 11) dX8_cut_8 rfl rfl (fun h => absurd h (by decide)) (fun _ => ?_)
    refine ev_iload_n (pc' := 12) (i := 3) dX8_cut_11 rfl rfl rfl ?_
    refine ev_iret dX8_cut_12 rfl rfl ⟨Nat.le_refl _, Nat.le_refl _⟩ ?_
    exact k1 h1
  · subst e4
    subst e7
    refine ev_istore_n (pc' := 7) (i := 3) (lv' := [some (.ref 115), some (.int (nI j2)), some (.int (nI j5)), some (.int (-3))]) dX8_cut_6 rfl rfl (Nat.le_of_ble_eq_true rfl) rfl rfl ?_
    refine ev_iload_n (pc' := 8) (i := 3) dX8_cut_7 rfl rfl rfl ?_
    refine ev_if_ge (tgt := 13) (pc' := 11) dX8_cut_8 rfl rfl (fun h => absurd h (by decide)) (fun _ => ?_)
    refine ev_iload_n (pc' := 12) (i := 3) dX8_cut_11 rfl rfl rfl ?_
    refine ev_iret dX8_cut_12 rfl rfl ⟨Nat.le_refl _, Nat.le_refl _⟩ ?_
    exact k2 j2 h3 rfl j5 h6 rfl h8
  · subst e11
    subst e14
    refine ev_istore_n (pc' := 7) (i := 3) (lv' := [some (.ref 115), some (.int (nI j9)), some (.int (nI j12)), some (.int 0)]) dX8_cut_6 rfl rfl (Nat.le_of_ble_eq_true rfl) rfl rfl ?_
    refine ev_iload_n (pc' := 8) (i := 3) dX8_cut_7 rfl rfl rfl ?_
    refine ev_if_ge (tgt := 13) (pc' := 11) dX8_cut_8 rfl rfl (fun _ => ?_) (fun h => absurd (by decide) h)
    refine ev_aload_n (pc' := 14) (i := 0) dX8_cut_13 rfl rfl rfl ?_
    refine ev_iload_n (pc' := 15) (i := 1) dX8_cut_14 rfl rfl rfl ?_
    refine ev_callV (pc' := 18) (rm' := rX8_layCut) (b := 115) (av := [.int (nI j9)]) (rest := []) co_X8_249 ci_X8_layCut cv_X8_layCut dX8_cut_15 rfl hs_115 hb_X8 rfl rfl (Nat.le_of_ble_eq_true rfl) ⟨(Nat.le_of_ble_eq_true rfl), (Nat.le_of_ble_eq_true rfl)⟩ ⟨(Nat.le_of_ble_eq_true rfl), (Nat.le_of_ble_eq_true rfl)⟩ ?_
    refine t_X8_layCut j9 (by omega) (fun h => by have e := h20.2.2.mpr (fun j hj => by have e2 := h j hj; rw [mfill_at, if_pos (by omega), Nat.sub_zero] at e2; exact e2); rw [h22] at e; exact absurd e (by decide)) (fun ld J K u1 u2 u3 u4 u5 u6 u7 => ?_)
    have e6 : ∀ j, j < 4 → (mfill I 126 0 4 (fun k => I 118 (16 * j12 + k))) 126 j = (fun k => I 118 (16 * j12 + k)) j := fun j hj => by rw [mfill_at, if_pos (by omega)]; rfl
    have u2 : ¬ (fun k => I 118 (16 * j12 + k)) ld = 0 := by rw [← e6 ld u1]; exact u2
    have u3 : ∀ j, j < ld → (fun k => I 118 (16 * j12 + k)) j = 0 := fun j hj => by rw [← e6 j (by omega)]; exact u3 j hj
    have e7 := mT_c (mCu_16 (I 123) j9 ld _ _ (fun n hn => mSn_c u1 hn e6))
    have u4 : J 115 9 = mTA (mCu (I 123) j9 ld (fun k => I 118 (16 * j12 + k))) := u4.trans e7.1
    have u5 : J 115 10 = mTB (mCu (I 123) j9 ld (fun k => I 118 (16 * j12 + k))) := u5.trans e7.2
    have u8 : mSx [126, 129, 130, 131, 121] [9, 10] I J := ((((mSx.rf (I := I)).le (A' := [126]) (B' := []) (fun _ h => absurd h List.not_mem_nil) (fun _ h => absurd h List.not_mem_nil)).up (by simp) (by decide)).trans u6)
    refine ev_aload_n (pc' := 19) (i := 0) dX8_cut_18 rfl rfl rfl ?_
    refine ev_getI (pc' := 22) (v := (J 115) 9) fo_X8_160 dX8_cut_19 rfl hs_115 rfl rfl ?_
    refine ev_aload_n (pc' := 23) (i := 0) dX8_cut_22 rfl rfl rfl ?_
    refine ev_getI (pc' := 26) (v := (J 115) 10) fo_X8_163 dX8_cut_23 rfl hs_115 rfl rfl ?_
    suffices K73 : ∀ x72 : Int32, x72 = (if ((J 115) 9) ≤ ((J 115) 10) then ((10 * ((J 115) 10)) + ((J 115) 9)) else ((10 * ((J 115) 9)) + ((J 115) 10))) → EV g yX8_cut cX8_cut 4 (some .int) rX8_cut (ma_ZM g rX8_cut Post) 56 [some (.ref 115), some (.int (nI j9)), some (.int (nI j12)), some (.int 0)] [.int x72] HS J K RF 146 0 0 by
      refine ev_icmp_le (tgt := 44) (pc' := 29) dX8_cut_26 rfl rfl (fun c74 => ?_) (fun c74 => ?_)
      · refine ev_bipush (pc' := 46) (v := 10) dX8_cut_44 rfl kb_10 ?_
        refine ev_aload_n (pc' := 47) (i := 0) dX8_cut_46 rfl rfl rfl ?_
        refine ev_getI (pc' := 50) (v := (J 115) 10) fo_X8_163 dX8_cut_47 rfl hs_115 rfl rfl ?_
        refine ev_imul (pc' := 51) (v := 10 * ((J 115) 10)) dX8_cut_50 rfl rfl ?_
        refine ev_aload_n (pc' := 52) (i := 0) dX8_cut_51 rfl rfl rfl ?_
        refine ev_getI (pc' := 55) (v := (J 115) 9) fo_X8_160 dX8_cut_52 rfl hs_115 rfl rfl ?_
        refine ev_iadd (pc' := 56) (v := (10 * ((J 115) 10)) + ((J 115) 9)) dX8_cut_55 rfl rfl ?_
        exact K73 _ (by rw [if_pos c74])
      · refine ev_bipush (pc' := 31) (v := 10) dX8_cut_29 rfl kb_10 ?_
        refine ev_aload_n (pc' := 32) (i := 0) dX8_cut_31 rfl rfl rfl ?_
        refine ev_getI (pc' := 35) (v := (J 115) 9) fo_X8_160 dX8_cut_32 rfl hs_115 rfl rfl ?_
        refine ev_imul (pc' := 36) (v := 10 * ((J 115) 9)) dX8_cut_35 rfl rfl ?_
        refine ev_aload_n (pc' := 37) (i := 0) dX8_cut_36 rfl rfl rfl ?_
        refine ev_getI (pc' := 40) (v := (J 115) 10) fo_X8_163 dX8_cut_37 rfl hs_115 rfl rfl ?_
        refine ev_iadd (pc' := 41) (v := (10 * ((J 115) 9)) + ((J 115) 10)) dX8_cut_40 rfl rfl ?_
        refine ev_goto (tgt := 56) dX8_cut_41 rfl ?_
        exact K73 _ (by rw [if_neg c74])
    intro x72 hx72
    subst hx72
    refine ev_iret dX8_cut_56 rfl rfl ⟨Nat.le_refl _, Nat.le_refl _⟩ ?_
    exact k3 j9 h10 rfl j12 h13 rfl h15 h16 h17 j18 j19 h20 h21 h22 ld J K u1 u2 u3 u4 u5 u8 u7
  · subst e25
    subst e28
    refine ev_istore_n (pc' := 7) (i := 3) (lv' := [some (.ref 115), some (.int (nI j23)), some (.int (nI j26)), some (.int (-3))]) dX8_cut_6 rfl rfl (Nat.le_of_ble_eq_true rfl) rfl rfl ?_
    refine ev_iload_n (pc' := 8) (i := 3) dX8_cut_7 rfl rfl rfl ?_
    refine ev_if_ge (tgt := 13) (pc' := 11) dX8_cut_8 rfl rfl (fun h => absurd h (by decide)) (fun _ => ?_)
    refine ev_iload_n (pc' := 12) (i := 3) dX8_cut_11 rfl rfl rfl ?_
    refine ev_iret dX8_cut_12 rfl rfl ⟨Nat.le_refl _, Nat.le_refl _⟩ ?_
    exact k4 j23 h24 rfl j26 h27 rfl h29 h30 h31 j32 j33 h34 h35 h36
  · subst e39
    subst e42
    refine ev_istore_n (pc' := 7) (i := 3) (lv' := [some (.ref 115), some (.int (nI j37)), some (.int (nI j40)), some (.int (-3))]) dX8_cut_6 rfl rfl (Nat.le_of_ble_eq_true rfl) rfl rfl ?_
    refine ev_iload_n (pc' := 8) (i := 3) dX8_cut_7 rfl rfl rfl ?_
    refine ev_if_ge (tgt := 13) (pc' := 11) dX8_cut_8 rfl rfl (fun h => absurd h (by decide)) (fun _ => ?_)
    refine ev_iload_n (pc' := 12) (i := 3) dX8_cut_11 rfl rfl rfl ?_
    refine ev_iret dX8_cut_12 rfl rfl ⟨Nat.le_refl _, Nat.le_refl _⟩ ?_
    exact k5 j37 h38 rfl j40 h41 rfl h43 h44 h45 j46 j47 h48 h49
  · subst e52
    subst e55
    refine ev_istore_n (pc' := 7) (i := 3) (lv' := [some (.ref 115), some (.int (nI j50)), some (.int (nI j53)), some (.int (-3))]) dX8_cut_6 rfl rfl (Nat.le_of_ble_eq_true rfl) rfl rfl ?_
    refine ev_iload_n (pc' := 8) (i := 3) dX8_cut_7 rfl rfl rfl ?_
    refine ev_if_ge (tgt := 13) (pc' := 11) dX8_cut_8 rfl rfl (fun h => absurd h (by decide)) (fun _ => ?_)
    refine ev_iload_n (pc' := 12) (i := 3) dX8_cut_11 rfl rfl rfl ?_
    refine ev_iret dX8_cut_12 rfl rfl ⟨Nat.le_refl _, Nat.le_refl _⟩ ?_
    exact k6 j50 h51 rfl j53 h54 rfl h56 h57 h58
  · subst e61
    subst e64
    refine ev_istore_n (pc' := 7) (i := 3) (lv' := [some (.ref 115), some (.int (nI j59)), some (.int (nI j62)), some (.int (-3))]) dX8_cut_6 rfl rfl (Nat.le_of_ble_eq_true rfl) rfl rfl ?_
    refine ev_iload_n (pc' := 8) (i := 3) dX8_cut_7 rfl rfl rfl ?_
    refine ev_if_ge (tgt := 13) (pc' := 11) dX8_cut_8 rfl rfl (fun h => absurd h (by decide)) (fun _ => ?_)
    refine ev_iload_n (pc' := 12) (i := 3) dX8_cut_11 rfl rfl rfl ?_
    refine ev_iret dX8_cut_12 rfl rfl ⟨Nat.le_refl _, Nat.le_refl _⟩ ?_
    exact k7 j59 h60 rfl j62 h63 rfl h65 h66
  · subst e69
    refine ev_istore_n (pc' := 7) (i := 3) (lv' := [some (.ref 115), some (.int (nI j67)), some (.int s), some (.int (-1))]) dX8_cut_6 rfl rfl (Nat.le_of_ble_eq_true rfl) rfl rfl ?_
    refine ev_iload_n (pc' := 8) (i := 3) dX8_cut_7 rfl rfl rfl ?_
    refine ev_if_ge (tgt := 13) (pc' := 11) dX8_cut_8 rfl rfl (fun h => absurd h (by decide)) (fun _ => ?_)
    refine ev_iload_n (pc' := 12) (i := 3) dX8_cut_11 rfl rfl rfl ?_
    refine ev_iret dX8_cut_12 rfl rfl ⟨Nat.le_refl _, Nat.le_refl _⟩ ?_
    exact k8 j67 h68 rfl h70
set_option maxRecDepth 4000 in
theorem t_X8_touches {g : ma_G} {Post : ma_P} {I : ma_I} {L : ma_L}  (q : Int32) (s : Int32)  (k1 : (¬ ((¬ q < 0) ∧ (¬ 11 < q))) → Post (some (.int (-1))) HS I L RF 146) (k2 : ∀ j2 : Nat, (j2 < 12) → q = nI j2 → ∀ j5 : Nat, (j5 < 8) → s = nI j5 → (((I 122) j2) = 0) → Post (some (.int (-3))) HS (mMt I 1) L RF 146) (k3 : ∀ j9 : Nat, (j9 < 12) → q = nI j9 → ∀ j12 : Nat, (j12 < 8) → s = nI j12 → (¬ ((I 122) j9) = 0) → (0 ≤ ((I 117) j12)) → (4 ≤ ((I 117) j12)) → ∀ j18 : Int32, ∀ j19 : Int32, (((j18 = 0 ∨ j18 = 1) ∧ (j18 = 1 ↔ ∀ j, j < 4 → ((¬ I 118 (16 * j12 + j) < (-100)) ∧ (¬ 100 < I 118 (16 * j12 + j))))) ∧ ((j19 = 0 ∨ j19 = 1) ∧ (j19 = 1 ↔ ∀ j, j < 4 → I 118 (16 * j12 + j) = 0))) → (¬ j18 = 0) → (j19 = 0) → ∀ ld : Nat, ∀ J : ma_I, ∀ K : ma_L, (ld < 4) → (¬ (fun k => I 118 (16 * j12 + k)) ld = 0) → (∀ j, j < ld → (fun k => I 118 (16 * j12 + k)) j = 0) → (J 115 9 = mTA (mCu (I 123) j9 ld (fun k => I 118 (16 * j12 + k)))) → (J 115 10 = mTB (mCu (I 123) j9 ld (fun k => I 118 (16 * j12 + k)))) → (mSx [126, 129, 130, 131, 121] [9, 10] I J) → (mSl [120] L K) → Post (some (.int (if ¬ 3 ≤ (((J 115) 9) + ((J 115) 10)) then (1 : Int32) else 0))) HS J K RF 146) (k4 : ∀ j23 : Nat, (j23 < 12) → q = nI j23 → ∀ j26 : Nat, (j26 < 8) → s = nI j26 → (¬ ((I 122) j23) = 0) → (0 ≤ ((I 117) j26)) → (4 ≤ ((I 117) j26)) → ∀ j32 : Int32, ∀ j33 : Int32, (((j32 = 0 ∨ j32 = 1) ∧ (j32 = 1 ↔ ∀ j, j < 4 → ((¬ I 118 (16 * j26 + j) < (-100)) ∧ (¬ 100 < I 118 (16 * j26 + j))))) ∧ ((j33 = 0 ∨ j33 = 1) ∧ (j33 = 1 ↔ ∀ j, j < 4 → I 118 (16 * j26 + j) = 0))) → (¬ j32 = 0) → (¬ j33 = 0) → Post (some (.int (-3))) HS (mMt (mfill I 126 0 4 (fun k => I 118 (16 * j26 + k))) 4) L RF 146) (k5 : ∀ j37 : Nat, (j37 < 12) → q = nI j37 → ∀ j40 : Nat, (j40 < 8) → s = nI j40 → (¬ ((I 122) j37) = 0) → (0 ≤ ((I 117) j40)) → (4 ≤ ((I 117) j40)) → ∀ j46 : Int32, ∀ j47 : Int32, (((j46 = 0 ∨ j46 = 1) ∧ (j46 = 1 ↔ ∀ j, j < 4 → ((¬ I 118 (16 * j40 + j) < (-100)) ∧ (¬ 100 < I 118 (16 * j40 + j))))) ∧ ((j47 = 0 ∨ j47 = 1) ∧ (j47 = 1 ↔ ∀ j, j < 4 → I 118 (16 * j40 + j) = 0))) → (j46 = 0) → Post (some (.int (-3))) HS (mMt (mfill I 126 0 4 (fun k => I 118 (16 * j40 + k))) 2) L RF 146) (k6 : ∀ j50 : Nat, (j50 < 12) → q = nI j50 → ∀ j53 : Nat, (j53 < 8) → s = nI j53 → (¬ ((I 122) j50) = 0) → (0 ≤ ((I 117) j53)) → (¬ 4 ≤ ((I 117) j53)) → Post (some (.int (-3))) HS (mMt I 5) L RF 146) (k7 : ∀ j59 : Nat, (j59 < 12) → q = nI j59 → ∀ j62 : Nat, (j62 < 8) → s = nI j62 → (¬ ((I 122) j59) = 0) → (¬ 0 ≤ ((I 117) j62)) → Post (some (.int (-3))) HS (mMt I 1) L RF 146) (k8 : ∀ j67 : Nat, (j67 < 12) → q = nI j67 → (¬ ((¬ s < 0) ∧ (¬ 7 < s))) → Post (some (.int (-1))) HS I L RF 146) : CT g yX8_touches cX8_touches 4 (some .int) rX8_touches [.ref 115, .int q, .int s] Post HS I L RF 146 := by
  refine ct_of (lv := [some (.ref 115), some (.int q), some (.int s), none]) (by decide) (Nat.le_of_ble_eq_true rfl) rfl ?_
  refine ev_aload_n (pc' := 1) (i := 0) dX8_touches_0 rfl rfl rfl ?_
  refine ev_iload_n (pc' := 2) (i := 1) dX8_touches_1 rfl rfl rfl ?_
  refine ev_iload_n (pc' := 3) (i := 2) dX8_touches_2 rfl rfl rfl ?_
  refine ev_callV (pc' := 6) (rm' := rX8_askedPlace) (b := 115) (av := [.int q, .int s]) (rest := []) co_X8_238 ci_X8_askedPlace cv_X8_askedPlace dX8_touches_3 rfl hs_115 hb_X8 rfl rfl (Nat.le_of_ble_eq_true rfl) ⟨(Nat.le_of_ble_eq_true rfl), (Nat.le_of_ble_eq_true rfl)⟩ ⟨(Nat.le_of_ble_eq_true rfl), (Nat.le_of_ble_eq_true rfl)⟩ ?_
  refine t_X8_askedPlace q s  (fun h1 => ?_) (fun j2 h3 e4 j5 h6 e7 h8 => ?_) (fun j9 h10 e11 j12 h13 e14 h15 h16 h17 j18 j19 h20 h21 h22 => ?_) (fun j23 h24 e25 j26 h27 e28 h29 h30 h31 j32 j33 h34 h35 h36 => ?_) (fun j37 h38 e39 j40 h41 e42 h43 h44 h45 j46 j47 h48 h49 => ?_) (fun j50 h51 e52 j53 h54 e55 h56 h57 h58 => ?_) (fun j59 h60 e61 j62 h63 e64 h65 h66 => ?_) (fun j67 h68 e69 h70 => ?_)
  · skip
    refine ev_istore_n (pc' := 7) (i := 3) (lv' := [some (.ref 115), some (.int q), some (.int s), some (.int (-1))]) dX8_touches_6 rfl rfl (Nat.le_of_ble_eq_true rfl) rfl rfl ?_
    refine ev_iload_n (pc' := 8) (i := 3) dX8_touches_7 rfl rfl rfl ?_
    refine ev_if_ge (tgt := 13) (pc' := 11) dX8_touches_8 rfl rfl (fun h => absurd h (by decide)) (fun _ => ?_)
    refine ev_iload_n (pc' := 12) (i := 3) dX8_touches_11 rfl rfl rfl ?_
    refine ev_iret dX8_touches_12 rfl rfl ⟨Nat.le_refl _, Nat.le_refl _⟩ ?_
    exact k1 h1
  · subst e4
    subst e7
    refine ev_istore_n (pc' := 7) (i := 3) (lv' := [some (.ref 115), some (.int (nI j2)), some (.int (nI j5)), some (.int (-3))]) dX8_touches_6 rfl rfl (Nat.le_of_ble_eq_true rfl) rfl rfl ?_
    refine ev_iload_n (pc' := 8) (i := 3) dX8_touches_7 rfl rfl rfl ?_
    refine ev_if_ge (tgt := 13) (pc' := 11) dX8_touches_8 rfl rfl (fun h => absurd h (by decide)) (fun _ => ?_)
    refine ev_iload_n (pc' := 12) (i := 3) dX8_touches_11 rfl rfl rfl ?_
    refine ev_iret dX8_touches_12 rfl rfl ⟨Nat.le_refl _, Nat.le_refl _⟩ ?_
    exact k2 j2 h3 rfl j5 h6 rfl h8
  · subst e11
    subst e14
    refine ev_istore_n (pc' := 7) (i := 3) (lv' := [some (.ref 115), some (.int (nI j9)), some (.int (nI j12)), some (.int 0)]) dX8_touches_6 rfl rfl (Nat.le_of_ble_eq_true rfl) rfl rfl ?_
    refine ev_iload_n (pc' := 8) (i := 3) dX8_touches_7 rfl rfl rfl ?_
    refine ev_if_ge (tgt := 13) (pc' := 11) dX8_touches_8 rfl rfl (fun _ => ?_) (fun h => absurd (by decide) h)
    refine ev_aload_n (pc' := 14) (i := 0) dX8_touches_13 rfl rfl rfl ?_
    refine ev_iload_n (pc' := 15) (i := 1) dX8_touches_14 rfl rfl rfl ?_
    refine ev_callV (pc' := 18) (rm' := rX8_layCut) (b := 115) (av := [.int (nI j9)]) (rest := []) co_X8_249 ci_X8_layCut cv_X8_layCut dX8_touches_15 rfl hs_115 hb_X8 rfl rfl (Nat.le_of_ble_eq_true rfl) ⟨(Nat.le_of_ble_eq_true rfl), (Nat.le_of_ble_eq_true rfl)⟩ ⟨(Nat.le_of_ble_eq_true rfl), (Nat.le_of_ble_eq_true rfl)⟩ ?_
    refine t_X8_layCut j9 (by omega) (fun h => by have e := h20.2.2.mpr (fun j hj => by have e2 := h j hj; rw [mfill_at, if_pos (by omega), Nat.sub_zero] at e2; exact e2); rw [h22] at e; exact absurd e (by decide)) (fun ld J K u1 u2 u3 u4 u5 u6 u7 => ?_)
    have e6 : ∀ j, j < 4 → (mfill I 126 0 4 (fun k => I 118 (16 * j12 + k))) 126 j = (fun k => I 118 (16 * j12 + k)) j := fun j hj => by rw [mfill_at, if_pos (by omega)]; rfl
    have u2 : ¬ (fun k => I 118 (16 * j12 + k)) ld = 0 := by rw [← e6 ld u1]; exact u2
    have u3 : ∀ j, j < ld → (fun k => I 118 (16 * j12 + k)) j = 0 := fun j hj => by rw [← e6 j (by omega)]; exact u3 j hj
    have e7 := mT_c (mCu_16 (I 123) j9 ld _ _ (fun n hn => mSn_c u1 hn e6))
    have u4 : J 115 9 = mTA (mCu (I 123) j9 ld (fun k => I 118 (16 * j12 + k))) := u4.trans e7.1
    have u5 : J 115 10 = mTB (mCu (I 123) j9 ld (fun k => I 118 (16 * j12 + k))) := u5.trans e7.2
    have u8 : mSx [126, 129, 130, 131, 121] [9, 10] I J := ((((mSx.rf (I := I)).le (A' := [126]) (B' := []) (fun _ h => absurd h List.not_mem_nil) (fun _ h => absurd h List.not_mem_nil)).up (by simp) (by decide)).trans u6)
    refine ev_aload_n (pc' := 19) (i := 0) dX8_touches_18 rfl rfl rfl ?_
    refine ev_getI (pc' := 22) (v := (J 115) 9) fo_X8_160 dX8_touches_19 rfl hs_115 rfl rfl ?_
    refine ev_aload_n (pc' := 23) (i := 0) dX8_touches_22 rfl rfl rfl ?_
    refine ev_getI (pc' := 26) (v := (J 115) 10) fo_X8_163 dX8_touches_23 rfl hs_115 rfl rfl ?_
    refine ev_iadd (pc' := 27) (v := ((J 115) 9) + ((J 115) 10)) dX8_touches_26 rfl rfl ?_
    refine ev_iconst (pc' := 28) (v := 3) dX8_touches_27 rfl ki_3 ?_
    suffices K73 : ∀ x72 : Int32, x72 = (if ¬ 3 ≤ (((J 115) 9) + ((J 115) 10)) then (1 : Int32) else 0) → EV g yX8_touches cX8_touches 4 (some .int) rX8_touches (ma_ZM g rX8_touches Post) 36 [some (.ref 115), some (.int (nI j9)), some (.int (nI j12)), some (.int 0)] [.int x72] HS J K RF 146 0 0 by
      refine ev_icmp_ge (tgt := 35) (pc' := 31) dX8_touches_28 rfl rfl (fun c74 => ?_) (fun c74 => ?_)
      · refine ev_iconst (pc' := 36) (v := 0) dX8_touches_35 rfl ki_0 ?_
        exact K73 _ (if_neg (not_not_intro c74)).symm
      · refine ev_iconst (pc' := 32) (v := 1) dX8_touches_31 rfl ki_1 ?_
        refine ev_goto (tgt := 36) dX8_touches_32 rfl ?_
        exact K73 _ (if_pos c74).symm
    intro x72 hx72
    subst hx72
    refine ev_iret dX8_touches_36 rfl rfl ⟨Nat.le_refl _, Nat.le_refl _⟩ ?_
    exact k3 j9 h10 rfl j12 h13 rfl h15 h16 h17 j18 j19 h20 h21 h22 ld J K u1 u2 u3 u4 u5 u8 u7
  · subst e25
    subst e28
    refine ev_istore_n (pc' := 7) (i := 3) (lv' := [some (.ref 115), some (.int (nI j23)), some (.int (nI j26)), some (.int (-3))]) dX8_touches_6 rfl rfl (Nat.le_of_ble_eq_true rfl) rfl rfl ?_
    refine ev_iload_n (pc' := 8) (i := 3) dX8_touches_7 rfl rfl rfl ?_
    refine ev_if_ge (tgt := 13) (pc' := 11) dX8_touches_8 rfl rfl (fun h => absurd h (by decide)) (fun _ => ?_)
    refine ev_iload_n (pc' := 12) (i := 3) dX8_touches_11 rfl rfl rfl ?_
    refine ev_iret dX8_touches_12 rfl rfl ⟨Nat.le_refl _, Nat.le_refl _⟩ ?_
    exact k4 j23 h24 rfl j26 h27 rfl h29 h30 h31 j32 j33 h34 h35 h36
  · subst e39
    subst e42
    refine ev_istore_n (pc' := 7) (i := 3) (lv' := [some (.ref 115), some (.int (nI j37)), some (.int (nI j40)), some (.int (-3))]) dX8_touches_6 rfl rfl (Nat.le_of_ble_eq_true rfl) rfl rfl ?_
    refine ev_iload_n (pc' := 8) (i := 3) dX8_touches_7 rfl rfl rfl ?_
    refine ev_if_ge (tgt := 13) (pc' := 11) dX8_touches_8 rfl rfl (fun h => absurd h (by decide)) (fun _ => ?_)
    refine ev_iload_n (pc' := 12) (i := 3) dX8_touches_11 rfl rfl rfl ?_
    refine ev_iret dX8_touches_12 rfl rfl ⟨Nat.le_refl _, Nat.le_refl _⟩ ?_
    exact k5 j37 h38 rfl j40 h41 rfl h43 h44 h45 j46 j47 h48 h49
  · subst e52
    subst e55
    refine ev_istore_n (pc' := 7) (i := 3) (lv' := [some (.ref 115), some (.int (nI j50)), some (.int (nI j53)), some (.int (-3))]) dX8_touches_6 rfl rfl (Nat.le_of_ble_eq_true rfl) rfl rfl ?_
    refine ev_iload_n (pc' := 8) (i := 3) dX8_touches_7 rfl rfl rfl ?_
    refine ev_if_ge (tgt := 13) (pc' := 11) dX8_touches_8 rfl rfl (fun h => absurd h (by decide)) (fun _ => ?_)
    refine ev_iload_n (pc' := 12) (i := 3) dX8_touches_11 rfl rfl rfl ?_
    refine ev_iret dX8_touches_12 rfl rfl ⟨Nat.le_refl _, Nat.le_refl _⟩ ?_
    exact k6 j50 h51 rfl j53 h54 rfl h56 h57 h58
  · subst e61
    subst e64
    refine ev_istore_n (pc' := 7) (i := 3) (lv' := [some (.ref 115), some (.int (nI j59)), some (.int (nI j62)), some (.int (-3))]) dX8_touches_6 rfl rfl (Nat.le_of_ble_eq_true rfl) rfl rfl ?_
    refine ev_iload_n (pc' := 8) (i := 3) dX8_touches_7 rfl rfl rfl ?_
    refine ev_if_ge (tgt := 13) (pc' := 11) dX8_touches_8 rfl rfl (fun h => absurd h (by decide)) (fun _ => ?_)
    refine ev_iload_n (pc' := 12) (i := 3) dX8_touches_11 rfl rfl rfl ?_
    refine ev_iret dX8_touches_12 rfl rfl ⟨Nat.le_refl _, Nat.le_refl _⟩ ?_
    exact k7 j59 h60 rfl j62 h63 rfl h65 h66
  · subst e69
    refine ev_istore_n (pc' := 7) (i := 3) (lv' := [some (.ref 115), some (.int (nI j67)), some (.int s), some (.int (-1))]) dX8_touches_6 rfl rfl (Nat.le_of_ble_eq_true rfl) rfl rfl ?_
    refine ev_iload_n (pc' := 8) (i := 3) dX8_touches_7 rfl rfl rfl ?_
    refine ev_if_ge (tgt := 13) (pc' := 11) dX8_touches_8 rfl rfl (fun h => absurd h (by decide)) (fun _ => ?_)
    refine ev_iload_n (pc' := 12) (i := 3) dX8_touches_11 rfl rfl rfl ?_
    refine ev_iret dX8_touches_12 rfl rfl ⟨Nat.le_refl _, Nat.le_refl _⟩ ?_
    exact k8 j67 h68 rfl h70
