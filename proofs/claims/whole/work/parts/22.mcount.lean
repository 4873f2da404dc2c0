def mCn1 (I : ma_I) (w : Int32) : Nat → Int32
  | 0 => 0
  | i + 1 => (mCn1 I w i) + (if (w = 0) ∧ (¬ ((I 117) i) < 0) then (1 : Int32) else 0)
def mCn2 (I : ma_I) (w x0 : Int32) : Nat → Int32
  | 0 => x0
  | i + 1 => (mCn2 I w x0 i) + (if ((¬ w = 1) ∧ (((¬ w = 2) ∧ (((¬ w = 3) ∧ ((w = 4) ∧ (((if ((I 122) i) = 0 then (-9) else ((I 124) (10 * i))) = 1) ∨ ((if ((I 122) i) = 0 then (-9) else ((I 124) (10 * i))) = 2)))) ∨ ((w = 3) ∧ (((if ((I 122) i) = 0 then (-9) else ((I 124) (10 * i))) = 4) ∨ ((w = 4) ∧ (((if ((I 122) i) = 0 then (-9) else ((I 124) (10 * i))) = 1) ∨ ((if ((I 122) i) = 0 then (-9) else ((I 124) (10 * i))) = 2))))))) ∨ ((w = 2) ∧ (((if ((I 122) i) = 0 then (-9) else ((I 124) (10 * i))) = 3) ∨ (((¬ w = 3) ∧ ((w = 4) ∧ (((if ((I 122) i) = 0 then (-9) else ((I 124) (10 * i))) = 1) ∨ ((if ((I 122) i) = 0 then (-9) else ((I 124) (10 * i))) = 2)))) ∨ ((w = 3) ∧ (((if ((I 122) i) = 0 then (-9) else ((I 124) (10 * i))) = 4) ∨ ((w = 4) ∧ (((if ((I 122) i) = 0 then (-9) else ((I 124) (10 * i))) = 1) ∨ ((if ((I 122) i) = 0 then (-9) else ((I 124) (10 * i))) = 2)))))))))) ∨ ((w = 1) ∧ ((¬ ((I 122) i) = 0) ∨ (((¬ w = 2) ∧ (((¬ w = 3) ∧ ((w = 4) ∧ (((if ((I 122) i) = 0 then (-9) else ((I 124) (10 * i))) = 1) ∨ ((if ((I 122) i) = 0 then (-9) else ((I 124) (10 * i))) = 2)))) ∨ ((w = 3) ∧ (((if ((I 122) i) = 0 then (-9) else ((I 124) (10 * i))) = 4) ∨ ((w = 4) ∧ (((if ((I 122) i) = 0 then (-9) else ((I 124) (10 * i))) = 1) ∨ ((if ((I 122) i) = 0 then (-9) else ((I 124) (10 * i))) = 2))))))) ∨ ((w = 2) ∧ (((if ((I 122) i) = 0 then (-9) else ((I 124) (10 * i))) = 3) ∨ (((¬ w = 3) ∧ ((w = 4) ∧ (((if ((I 122) i) = 0 then (-9) else ((I 124) (10 * i))) = 1) ∨ ((if ((I 122) i) = 0 then (-9) else ((I 124) (10 * i))) = 2)))) ∨ ((w = 3) ∧ (((if ((I 122) i) = 0 then (-9) else ((I 124) (10 * i))) = 4) ∨ ((w = 4) ∧ (((if ((I 122) i) = 0 then (-9) else ((I 124) (10 * i))) = 1) ∨ ((if ((I 122) i) = 0 then (-9) else ((I 124) (10 * i))) = 2))))))))))) then (1 : Int32) else 0)
set_option maxRecDepth 4000 in
theorem t_X8_count {g : ma_G} {Post : ma_P} {I : ma_I} {L : ma_L}  (w : Int32)  (k1 : ∀ x3 : Int32, (x3 = mCn1 I w 8) → ∀ x9 : Int32, (x9 = mCn2 I w x3 12) → Post (some (.int (if ¬ ((¬ w < 0) ∧ (¬ 4 < w)) then (-1) else x9))) HS I L RF 146) : CT g yX8_count cX8_count 6 (some .int) rX8_count [.ref 115, .int w] Post HS I L RF 146 := by
  refine ct_of (lv := [some (.ref 115), some (.int w), none, none, none, none]) (by decide) (Nat.le_of_ble_eq_true rfl) rfl ?_
  refine ev_iconst (pc' := 1) (v := 0) dX8_count_0 rfl ki_0 ?_
  refine ev_istore_n (pc' := 2) (i := 2) (lv' := [some (.ref 115), some (.int w), some (.int 0), none, none, none]) dX8_count_1 rfl rfl (Nat.le_of_ble_eq_true rfl) rfl rfl ?_
  refine ev_iconst (pc' := 3) (v := 0) dX8_count_2 rfl ki_0 ?_
  refine ev_istore_n (pc' := 4) (i := 3) (lv' := [some (.ref 115), some (.int w), some (.int 0), some (.int 0), none, none]) dX8_count_3 rfl rfl (Nat.le_of_ble_eq_true rfl) rfl rfl ?_
  suffices loop1 : ∀ (d2 i4 : Nat) (x3 : Int32), i4 + d2 = 8 → (x3 = mCn1 I w i4) → EV g yX8_count cX8_count 6 (some .int) rX8_count (ma_ZM g rX8_count Post) 4 [some (.ref 115), some (.int w), some (.int x3), some (.int (nI i4)), none, none] [] HS I L RF 146 0 0 from loop1 (8 - 0) 0 0 (by omega) (by rfl)
  intro d2
  induction d2 with
  | zero =>
    intro i4 x3   hi5 hv6
    obtain rfl : i4 = 8 := by omega
    refine ev_iload_n (pc' := 5) (i := 3) dX8_count_4 rfl rfl rfl ?_
    refine ev_bipush (pc' := 7) (v := 8) dX8_count_5 rfl kb_8 ?_
    refine ev_icmp_ge (tgt := 37) (pc' := 10) dX8_count_7 rfl rfl (fun _ => ?_) (fun h => absurd (nx_le (a := 8) (b := 8) (by omega) (by omega)) h)
    refine ev_iconst (pc' := 38) (v := 0) dX8_count_37 rfl ki_0 ?_
    refine ev_istore_n (pc' := 39) (i := 3) (lv' := [some (.ref 115), some (.int w), some (.int x3), some (.int 0), none, none]) dX8_count_38 rfl rfl (Nat.le_of_ble_eq_true rfl) rfl rfl ?_
    suffices loop7 : ∀ (d8 i10 : Nat) (x9 : Int32), i10 + d8 = 12 → (x9 = mCn2 I w x3 i10) → EV g yX8_count cX8_count 6 (some .int) rX8_count (ma_ZM g rX8_count Post) 39 [some (.ref 115), some (.int w), some (.int x9), some (.int (nI i10)), none, none] [] HS I L RF 146 0 0 from loop7 (12 - 0) 0 x3 (by omega) (by rfl)
    intro d8
    induction d8 with
    | zero =>
      intro i10 x9   hi11 hv12
      obtain rfl : i10 = 12 := by omega
      refine ev_iload_n (pc' := 40) (i := 3) dX8_count_39 rfl rfl rfl ?_
      refine ev_bipush (pc' := 42) (v := 12) dX8_count_40 rfl kb_12 ?_
      refine ev_icmp_ge (tgt := 149) (pc' := 45) dX8_count_42 rfl rfl (fun _ => ?_) (fun h => absurd (nx_le (a := 12) (b := 12) (by omega) (by omega)) h)
      refine ev_iload_n (pc' := 150) (i := 1) dX8_count_149 rfl rfl rfl ?_
      refine ev_iconst (pc' := 151) (v := 0) dX8_count_150 rfl ki_0 ?_
      refine ev_iconst (pc' := 152) (v := 4) dX8_count_151 rfl ki_4 ?_
      refine ev_callS (pc' := 155) (rm' := rX8_in) (av := [.int w, .int 0, .int 4]) (rest := []) co_X8_133 cs_X8_in dX8_count_152 rfl rfl rfl (Nat.le_of_ble_eq_true rfl) ⟨(Nat.le_of_ble_eq_true rfl), (Nat.le_of_ble_eq_true rfl)⟩ ⟨(Nat.le_of_ble_eq_true rfl), (Nat.le_of_ble_eq_true rfl)⟩ ?_
      refine t_X8_in w 0 4  ?_
      suffices K15 : ∀ x14 : Int32, x14 = (if ¬ ((¬ w < 0) ∧ (¬ 4 < w)) then (-1) else x9) → EV g yX8_count cX8_count 6 (some .int) rX8_count (ma_ZM g rX8_count Post) 163 [some (.ref 115), some (.int w), some (.int x9), some (.int (nI 12)), none, none] [.int x14] HS I L RF 146 0 0 by
        refine ev_if_eq_b (tgt := 162) (pc' := 158) dX8_count_155 rfl rfl (fun c16 => ?_) (fun c16 => ?_)
        · refine ev_iconst (pc' := 163) (v := (-1)) dX8_count_162 rfl ki_m1 ?_
          exact K15 _ (by rw [if_pos c16])
        · refine ev_iload_n (pc' := 159) (i := 2) dX8_count_158 rfl rfl rfl ?_
          refine ev_goto (tgt := 163) dX8_count_159 rfl ?_
          exact K15 _ (by rw [if_neg (not_not_intro c16)])
      intro x14 hx14
      subst hx14
      refine ev_iret dX8_count_163 rfl rfl ⟨Nat.le_refl _, Nat.le_refl _⟩ ?_
      exact k1 x3 hv6 x9 hv12
    | succ d8 ih =>
      intro i10 x9   hi11 hv12
      refine ev_iload_n (pc' := 40) (i := 3) dX8_count_39 rfl rfl rfl ?_
      refine ev_bipush (pc' := 42) (v := 12) dX8_count_40 rfl kb_12 ?_
      refine ev_icmp_ge (tgt := 149) (pc' := 45) dX8_count_42 rfl rfl (fun h => absurd h (nx_nle (a := 12) (b := i10) (by omega) (by omega))) (fun _ => ?_)
      refine ev_aload_n (pc' := 46) (i := 0) dX8_count_45 rfl rfl rfl ?_
      refine ev_getR (pc' := 49) fo_X8_33 dX8_count_46 rfl hs_115 rfl rf_115_12 ?_
      refine ev_iload_n (pc' := 50) (i := 3) dX8_count_49 rfl rfl rfl ?_
      refine ev_zald (pc' := 51) (j := i10) (v := (I 122) i10) dX8_count_50 rfl hs_122 rfl (by omega) (Nat.le_of_ble_eq_true rfl) rfl ?_
      suffices K19 : ∀ x18 : Int32, x18 = (if ((I 122) i10) = 0 then (-9) else ((I 124) (10 * i10))) → EV g yX8_count cX8_count 6 (some .int) rX8_count (ma_ZM g rX8_count Post) 68 [some (.ref 115), some (.int w), some (.int x9), some (.int (nI i10)), none, none] [.int x18] HS I L RF 146 0 0 by
        refine ev_if_eq (tgt := 66) (pc' := 54) dX8_count_51 rfl rfl (fun c20 => ?_) (fun c20 => ?_)
        · refine ev_bipush (pc' := 68) (v := (-9)) dX8_count_66 rfl kb_m9 ?_
          exact K19 _ (by rw [if_pos c20])
        · refine ev_aload_n (pc' := 55) (i := 0) dX8_count_54 rfl rfl rfl ?_
          refine ev_getR (pc' := 58) fo_X8_40 dX8_count_55 rfl hs_115 rfl rf_115_14 ?_
          refine ev_bipush (pc' := 60) (v := 10) dX8_count_58 rfl kb_10 ?_
          refine ev_iload_n (pc' := 61) (i := 3) dX8_count_60 rfl rfl rfl ?_
          refine ev_imul (pc' := 62) (v := nI (10 * i10)) dX8_count_61 rfl (pk_mul 10 i10) ?_
          refine ev_iald (pc' := 63) (j := 10 * i10) (v := (I 124) (10 * i10)) dX8_count_62 rfl hs_124 rfl (by omega) (Nat.le_of_ble_eq_true rfl) rfl ?_
          refine ev_goto (tgt := 68) dX8_count_63 rfl ?_
          exact K19 _ (by rw [if_neg c20])
      intro x18 hx18
      subst hx18
      refine ev_istore (pc' := 70) (lv' := [some (.ref 115), some (.int w), some (.int x9), some (.int (nI i10)), some (.int (if ((I 122) i10) = 0 then (-9) else ((I 124) (10 * i10)))), none]) dX8_count_68 rfl (Nat.le_of_ble_eq_true rfl) rfl rfl ?_
      refine ev_iload_n (pc' := 71) (i := 1) dX8_count_70 rfl rfl rfl ?_
      refine ev_iconst (pc' := 72) (v := 1) dX8_count_71 rfl ki_1 ?_
      suffices K23 : ∀ x22 : Int32, x22 = (if ((¬ w = 1) ∧ (((¬ w = 2) ∧ (((¬ w = 3) ∧ ((w = 4) ∧ (((if ((I 122) i10) = 0 then (-9) else ((I 124) (10 * i10))) = 1) ∨ ((if ((I 122) i10) = 0 then (-9) else ((I 124) (10 * i10))) = 2)))) ∨ ((w = 3) ∧ (((if ((I 122) i10) = 0 then (-9) else ((I 124) (10 * i10))) = 4) ∨ ((w = 4) ∧ (((if ((I 122) i10) = 0 then (-9) else ((I 124) (10 * i10))) = 1) ∨ ((if ((I 122) i10) = 0 then (-9) else ((I 124) (10 * i10))) = 2))))))) ∨ ((w = 2) ∧ (((if ((I 122) i10) = 0 then (-9) else ((I 124) (10 * i10))) = 3) ∨ (((¬ w = 3) ∧ ((w = 4) ∧ (((if ((I 122) i10) = 0 then (-9) else ((I 124) (10 * i10))) = 1) ∨ ((if ((I 122) i10) = 0 then (-9) else ((I 124) (10 * i10))) = 2)))) ∨ ((w = 3) ∧ (((if ((I 122) i10) = 0 then (-9) else ((I 124) (10 * i10))) = 4) ∨ ((w = 4) ∧ (((if ((I 122) i10) = 0 then (-9) else ((I 124) (10 * i10))) = 1) ∨ ((if ((I 122) i10) = 0 then (-9) else ((I 124) (10 * i10))) = 2)))))))))) ∨ ((w = 1) ∧ ((¬ ((I 122) i10) = 0) ∨ (((¬ w = 2) ∧ (((¬ w = 3) ∧ ((w = 4) ∧ (((if ((I 122) i10) = 0 then (-9) else ((I 124) (10 * i10))) = 1) ∨ ((if ((I 122) i10) = 0 then (-9) else ((I 124) (10 * i10))) = 2)))) ∨ ((w = 3) ∧ (((if ((I 122) i10) = 0 then (-9) else ((I 124) (10 * i10))) = 4) ∨ ((w = 4) ∧ (((if ((I 122) i10) = 0 then (-9) else ((I 124) (10 * i10))) = 1) ∨ ((if ((I 122) i10) = 0 then (-9) else ((I 124) (10 * i10))) = 2))))))) ∨ ((w = 2) ∧ (((if ((I 122) i10) = 0 then (-9) else ((I 124) (10 * i10))) = 3) ∨ (((¬ w = 3) ∧ ((w = 4) ∧ (((if ((I 122) i10) = 0 then (-9) else ((I 124) (10 * i10))) = 1) ∨ ((if ((I 122) i10) = 0 then (-9) else ((I 124) (10 * i10))) = 2)))) ∨ ((w = 3) ∧ (((if ((I 122) i10) = 0 then (-9) else ((I 124) (10 * i10))) = 4) ∨ ((w = 4) ∧ (((if ((I 122) i10) = 0 then (-9) else ((I 124) (10 * i10))) = 1) ∨ ((if ((I 122) i10) = 0 then (-9) else ((I 124) (10 * i10))) = 2))))))))))) then (1 : Int32) else 0) → EV g yX8_count cX8_count 6 (some .int) rX8_count (ma_ZM g rX8_count Post) 128 [some (.ref 115), some (.int w), some (.int x9), some (.int (nI i10)), some (.int (if ((I 122) i10) = 0 then (-9) else ((I 124) (10 * i10)))), none] [.int x22] HS I L RF 146 0 0 by
        refine ev_icmp_ne (tgt := 84) (pc' := 75) dX8_count_72 rfl rfl (fun c24 => ?_) (fun c24 => ?_)
        · refine ev_iload_n (pc' := 85) (i := 1) dX8_count_84 rfl rfl rfl ?_
          refine ev_iconst (pc' := 86) (v := 2) dX8_count_85 rfl ki_2 ?_
          refine ev_icmp_ne (tgt := 95) (pc' := 89) dX8_count_86 rfl rfl (fun c25 => ?_) (fun c25 => ?_)
          · refine ev_iload_n (pc' := 96) (i := 1) dX8_count_95 rfl rfl rfl ?_
            refine ev_iconst (pc' := 97) (v := 3) dX8_count_96 rfl ki_3 ?_
            refine ev_icmp_ne (tgt := 106) (pc' := 100) dX8_count_97 rfl rfl (fun c26 => ?_) (fun c26 => ?_)
            · refine ev_iload_n (pc' := 107) (i := 1) dX8_count_106 rfl rfl rfl ?_
              refine ev_iconst (pc' := 108) (v := 4) dX8_count_107 rfl ki_4 ?_
              refine ev_icmp_ne (tgt := 127) (pc' := 111) dX8_count_108 rfl rfl (fun c27 => ?_) (fun c27 => ?_)
              · refine ev_iconst (pc' := 128) (v := 0) dX8_count_127 rfl ki_0 ?_
                exact K23 _ (if_neg (not_or.mpr ⟨fun h => (not_or.mpr ⟨fun h => (not_or.mpr ⟨fun h => (fun h => c27 h.1) h.2, fun h => c26 h.1⟩) h.2, fun h => c25 h.1⟩) h.2, fun h => c24 h.1⟩)).symm
              · refine ev_iload (pc' := 113) dX8_count_111 rfl rfl ?_
                refine ev_iconst (pc' := 114) (v := 1) dX8_count_113 rfl ki_1 ?_
                refine ev_icmp_eq (tgt := 123) (pc' := 117) dX8_count_114 rfl rfl (fun c28 => ?_) (fun c28 => ?_)
                · refine ev_iconst (pc' := 124) (v := 1) dX8_count_123 rfl ki_1 ?_
                  refine ev_goto (tgt := 128) dX8_count_124 rfl ?_
                  exact K23 _ (if_pos (Or.inl ⟨c24, Or.inl ⟨c25, Or.inl ⟨c26, ⟨c27, Or.inl c28⟩⟩⟩⟩)).symm
                · refine ev_iload (pc' := 119) dX8_count_117 rfl rfl ?_
                  refine ev_iconst (pc' := 120) (v := 2) dX8_count_119 rfl ki_2 ?_
                  refine ev_icmp_ne (tgt := 127) (pc' := 123) dX8_count_120 rfl rfl (fun c29 => ?_) (fun c29 => ?_)
                  · refine ev_iconst (pc' := 128) (v := 0) dX8_count_127 rfl ki_0 ?_
                    exact K23 _ (if_neg (not_or.mpr ⟨fun h => (not_or.mpr ⟨fun h => (not_or.mpr ⟨fun h => (fun h => (not_or.mpr ⟨c28, c29⟩) h.2) h.2, fun h => c26 h.1⟩) h.2, fun h => c25 h.1⟩) h.2, fun h => c24 h.1⟩)).symm
                  · refine ev_iconst (pc' := 124) (v := 1) dX8_count_123 rfl ki_1 ?_
                    refine ev_goto (tgt := 128) dX8_count_124 rfl ?_
                    exact K23 _ (if_pos (Or.inl ⟨c24, Or.inl ⟨c25, Or.inl ⟨c26, ⟨c27, Or.inr c29⟩⟩⟩⟩)).symm
            · refine ev_iload (pc' := 102) dX8_count_100 rfl rfl ?_
              refine ev_iconst (pc' := 103) (v := 4) dX8_count_102 rfl ki_4 ?_
              refine ev_icmp_eq (tgt := 123) (pc' := 106) dX8_count_103 rfl rfl (fun c30 => ?_) (fun c30 => ?_)
              · refine ev_iconst (pc' := 124) (v := 1) dX8_count_123 rfl ki_1 ?_
                refine ev_goto (tgt := 128) dX8_count_124 rfl ?_
                exact K23 _ (if_pos (Or.inl ⟨c24, Or.inl ⟨c25, Or.inr ⟨c26, Or.inl c30⟩⟩⟩)).symm
              · refine ev_iload_n (pc' := 107) (i := 1) dX8_count_106 rfl rfl rfl ?_
                refine ev_iconst (pc' := 108) (v := 4) dX8_count_107 rfl ki_4 ?_
                refine ev_icmp_ne (tgt := 127) (pc' := 111) dX8_count_108 rfl rfl (fun c31 => ?_) (fun c31 => ?_)
                · refine ev_iconst (pc' := 128) (v := 0) dX8_count_127 rfl ki_0 ?_
                  exact K23 _ (if_neg (not_or.mpr ⟨fun h => (not_or.mpr ⟨fun h => (not_or.mpr ⟨fun h => (not_not_intro c26) h.1, fun h => (not_or.mpr ⟨c30, fun h => c31 h.1⟩) h.2⟩) h.2, fun h => c25 h.1⟩) h.2, fun h => c24 h.1⟩)).symm
                · refine ev_iload (pc' := 113) dX8_count_111 rfl rfl ?_
                  refine ev_iconst (pc' := 114) (v := 1) dX8_count_113 rfl ki_1 ?_
                  refine ev_icmp_eq (tgt := 123) (pc' := 117) dX8_count_114 rfl rfl (fun c32 => ?_) (fun c32 => ?_)
                  · refine ev_iconst (pc' := 124) (v := 1) dX8_count_123 rfl ki_1 ?_
                    refine ev_goto (tgt := 128) dX8_count_124 rfl ?_
                    exact K23 _ (if_pos (Or.inl ⟨c24, Or.inl ⟨c25, Or.inr ⟨c26, Or.inr (⟨c31, Or.inl c32⟩)⟩⟩⟩)).symm
                  · refine ev_iload (pc' := 119) dX8_count_117 rfl rfl ?_
                    refine ev_iconst (pc' := 120) (v := 2) dX8_count_119 rfl ki_2 ?_
                    refine ev_icmp_ne (tgt := 127) (pc' := 123) dX8_count_120 rfl rfl (fun c33 => ?_) (fun c33 => ?_)
                    · refine ev_iconst (pc' := 128) (v := 0) dX8_count_127 rfl ki_0 ?_
                      exact K23 _ (if_neg (not_or.mpr ⟨fun h => (not_or.mpr ⟨fun h => (not_or.mpr ⟨fun h => (not_not_intro c26) h.1, fun h => (not_or.mpr ⟨c30, fun h => (not_or.mpr ⟨c32, c33⟩) h.2⟩) h.2⟩) h.2, fun h => c25 h.1⟩) h.2, fun h => c24 h.1⟩)).symm
                    · refine ev_iconst (pc' := 124) (v := 1) dX8_count_123 rfl ki_1 ?_
                      refine ev_goto (tgt := 128) dX8_count_124 rfl ?_
                      exact K23 _ (if_pos (Or.inl ⟨c24, Or.inl ⟨c25, Or.inr ⟨c26, Or.inr (⟨c31, Or.inr c33⟩)⟩⟩⟩)).symm
          · refine ev_iload (pc' := 91) dX8_count_89 rfl rfl ?_
            refine ev_iconst (pc' := 92) (v := 3) dX8_count_91 rfl ki_3 ?_
            refine ev_icmp_eq (tgt := 123) (pc' := 95) dX8_count_92 rfl rfl (fun c34 => ?_) (fun c34 => ?_)
            · refine ev_iconst (pc' := 124) (v := 1) dX8_count_123 rfl ki_1 ?_
              refine ev_goto (tgt := 128) dX8_count_124 rfl ?_
              exact K23 _ (if_pos (Or.inl ⟨c24, Or.inr ⟨c25, Or.inl c34⟩⟩)).symm
            · refine ev_iload_n (pc' := 96) (i := 1) dX8_count_95 rfl rfl rfl ?_
              refine ev_iconst (pc' := 97) (v := 3) dX8_count_96 rfl ki_3 ?_
              refine ev_icmp_ne (tgt := 106) (pc' := 100) dX8_count_97 rfl rfl (fun c35 => ?_) (fun c35 => ?_)
              · refine ev_iload_n (pc' := 107) (i := 1) dX8_count_106 rfl rfl rfl ?_
                refine ev_iconst (pc' := 108) (v := 4) dX8_count_107 rfl ki_4 ?_
                refine ev_icmp_ne (tgt := 127) (pc' := 111) dX8_count_108 rfl rfl (fun c36 => ?_) (fun c36 => ?_)
                · refine ev_iconst (pc' := 128) (v := 0) dX8_count_127 rfl ki_0 ?_
                  exact K23 _ (if_neg (not_or.mpr ⟨fun h => (not_or.mpr ⟨fun h => (not_not_intro c25) h.1, fun h => (not_or.mpr ⟨c34, not_or.mpr ⟨fun h => (fun h => c36 h.1) h.2, fun h => c35 h.1⟩⟩) h.2⟩) h.2, fun h => c24 h.1⟩)).symm
                · refine ev_iload (pc' := 113) dX8_count_111 rfl rfl ?_
                  refine ev_iconst (pc' := 114) (v := 1) dX8_count_113 rfl ki_1 ?_
                  refine ev_icmp_eq (tgt := 123) (pc' := 117) dX8_count_114 rfl rfl (fun c37 => ?_) (fun c37 => ?_)
                  · refine ev_iconst (pc' := 124) (v := 1) dX8_count_123 rfl ki_1 ?_
                    refine ev_goto (tgt := 128) dX8_count_124 rfl ?_
                    exact K23 _ (if_pos (Or.inl ⟨c24, Or.inr ⟨c25, Or.inr (Or.inl ⟨c35, ⟨c36, Or.inl c37⟩⟩)⟩⟩)).symm
                  · refine ev_iload (pc' := 119) dX8_count_117 rfl rfl ?_
                    refine ev_iconst (pc' := 120) (v := 2) dX8_count_119 rfl ki_2 ?_
                    refine ev_icmp_ne (tgt := 127) (pc' := 123) dX8_count_120 rfl rfl (fun c38 => ?_) (fun c38 => ?_)
                    · refine ev_iconst (pc' := 128) (v := 0) dX8_count_127 rfl ki_0 ?_
                      exact K23 _ (if_neg (not_or.mpr ⟨fun h => (not_or.mpr ⟨fun h => (not_not_intro c25) h.1, fun h => (not_or.mpr ⟨c34, not_or.mpr ⟨fun h => (fun h => (not_or.mpr ⟨c37, c38⟩) h.2) h.2, fun h => c35 h.1⟩⟩) h.2⟩) h.2, fun h => c24 h.1⟩)).symm
                    · refine ev_iconst (pc' := 124) (v := 1) dX8_count_123 rfl ki_1 ?_
                      refine ev_goto (tgt := 128) dX8_count_124 rfl ?_
                      exact K23 _ (if_pos (Or.inl ⟨c24, Or.inr ⟨c25, Or.inr (Or.inl ⟨c35, ⟨c36, Or.inr c38⟩⟩)⟩⟩)).symm
              · refine ev_iload (pc' := 102) dX8_count_100 rfl rfl ?_
                refine ev_iconst (pc' := 103) (v := 4) dX8_count_102 rfl ki_4 ?_
                refine ev_icmp_eq (tgt := 123) (pc' := 106) dX8_count_103 rfl rfl (fun c39 => ?_) (fun c39 => ?_)
                · refine ev_iconst (pc' := 124) (v := 1) dX8_count_123 rfl ki_1 ?_
                  refine ev_goto (tgt := 128) dX8_count_124 rfl ?_
                  exact K23 _ (if_pos (Or.inl ⟨c24, Or.inr ⟨c25, Or.inr (Or.inr ⟨c35, Or.inl c39⟩)⟩⟩)).symm
                · refine ev_iload_n (pc' := 107) (i := 1) dX8_count_106 rfl rfl rfl ?_
                  refine ev_iconst (pc' := 108) (v := 4) dX8_count_107 rfl ki_4 ?_
                  refine ev_icmp_ne (tgt := 127) (pc' := 111) dX8_count_108 rfl rfl (fun c40 => ?_) (fun c40 => ?_)
                  · refine ev_iconst (pc' := 128) (v := 0) dX8_count_127 rfl ki_0 ?_
                    exact K23 _ (if_neg (not_or.mpr ⟨fun h => (not_or.mpr ⟨fun h => (not_not_intro c25) h.1, fun h => (not_or.mpr ⟨c34, not_or.mpr ⟨fun h => (not_not_intro c35) h.1, fun h => (not_or.mpr ⟨c39, fun h => c40 h.1⟩) h.2⟩⟩) h.2⟩) h.2, fun h => c24 h.1⟩)).symm
                  · refine ev_iload (pc' := 113) dX8_count_111 rfl rfl ?_
                    refine ev_iconst (pc' := 114) (v := 1) dX8_count_113 rfl ki_1 ?_
                    refine ev_icmp_eq (tgt := 123) (pc' := 117) dX8_count_114 rfl rfl (fun c41 => ?_) (fun c41 => ?_)
                    · refine ev_iconst (pc' := 124) (v := 1) dX8_count_123 rfl ki_1 ?_
                      refine ev_goto (tgt := 128) dX8_count_124 rfl ?_
                      exact K23 _ (if_pos (Or.inl ⟨c24, Or.inr ⟨c25, Or.inr (Or.inr ⟨c35, Or.inr (⟨c40, Or.inl c41⟩)⟩)⟩⟩)).symm
                    · refine ev_iload (pc' := 119) dX8_count_117 rfl rfl ?_
                      refine ev_iconst (pc' := 120) (v := 2) dX8_count_119 rfl ki_2 ?_
                      refine ev_icmp_ne (tgt := 127) (pc' := 123) dX8_count_120 rfl rfl (fun c42 => ?_) (fun c42 => ?_)
                      · refine ev_iconst (pc' := 128) (v := 0) dX8_count_127 rfl ki_0 ?_
                        exact K23 _ (if_neg (not_or.mpr ⟨fun h => (not_or.mpr ⟨fun h => (not_not_intro c25) h.1, fun h => (not_or.mpr ⟨c34, not_or.mpr ⟨fun h => (not_not_intro c35) h.1, fun h => (not_or.mpr ⟨c39, fun h => (not_or.mpr ⟨c41, c42⟩) h.2⟩) h.2⟩⟩) h.2⟩) h.2, fun h => c24 h.1⟩)).symm
                      · refine ev_iconst (pc' := 124) (v := 1) dX8_count_123 rfl ki_1 ?_
                        refine ev_goto (tgt := 128) dX8_count_124 rfl ?_
                        exact K23 _ (if_pos (Or.inl ⟨c24, Or.inr ⟨c25, Or.inr (Or.inr ⟨c35, Or.inr (⟨c40, Or.inr c42⟩)⟩)⟩⟩)).symm
        · refine ev_aload_n (pc' := 76) (i := 0) dX8_count_75 rfl rfl rfl ?_
          refine ev_getR (pc' := 79) fo_X8_33 dX8_count_76 rfl hs_115 rfl rf_115_12 ?_
          refine ev_iload_n (pc' := 80) (i := 3) dX8_count_79 rfl rfl rfl ?_
          refine ev_zald (pc' := 81) (j := i10) (v := (I 122) i10) dX8_count_80 rfl hs_122 rfl (by omega) (Nat.le_of_ble_eq_true rfl) rfl ?_
          refine ev_if_ne (tgt := 123) (pc' := 84) dX8_count_81 rfl rfl (fun c43 => ?_) (fun c43 => ?_)
          · refine ev_iconst (pc' := 124) (v := 1) dX8_count_123 rfl ki_1 ?_
            refine ev_goto (tgt := 128) dX8_count_124 rfl ?_
            exact K23 _ (if_pos (Or.inr ⟨c24, Or.inl c43⟩)).symm
          · refine ev_iload_n (pc' := 85) (i := 1) dX8_count_84 rfl rfl rfl ?_
            refine ev_iconst (pc' := 86) (v := 2) dX8_count_85 rfl ki_2 ?_
            refine ev_icmp_ne (tgt := 95) (pc' := 89) dX8_count_86 rfl rfl (fun c44 => ?_) (fun c44 => ?_)
            · refine ev_iload_n (pc' := 96) (i := 1) dX8_count_95 rfl rfl rfl ?_
              refine ev_iconst (pc' := 97) (v := 3) dX8_count_96 rfl ki_3 ?_
              refine ev_icmp_ne (tgt := 106) (pc' := 100) dX8_count_97 rfl rfl (fun c45 => ?_) (fun c45 => ?_)
              · refine ev_iload_n (pc' := 107) (i := 1) dX8_count_106 rfl rfl rfl ?_
                refine ev_iconst (pc' := 108) (v := 4) dX8_count_107 rfl ki_4 ?_
                refine ev_icmp_ne (tgt := 127) (pc' := 111) dX8_count_108 rfl rfl (fun c46 => ?_) (fun c46 => ?_)
                · refine ev_iconst (pc' := 128) (v := 0) dX8_count_127 rfl ki_0 ?_
                  exact K23 _ (if_neg (not_or.mpr ⟨fun h => (not_not_intro c24) h.1, fun h => (not_or.mpr ⟨(not_not_intro c43), not_or.mpr ⟨fun h => (not_or.mpr ⟨fun h => (fun h => c46 h.1) h.2, fun h => c45 h.1⟩) h.2, fun h => c44 h.1⟩⟩) h.2⟩)).symm
                · refine ev_iload (pc' := 113) dX8_count_111 rfl rfl ?_
                  refine ev_iconst (pc' := 114) (v := 1) dX8_count_113 rfl ki_1 ?_
                  refine ev_icmp_eq (tgt := 123) (pc' := 117) dX8_count_114 rfl rfl (fun c47 => ?_) (fun c47 => ?_)
                  · refine ev_iconst (pc' := 124) (v := 1) dX8_count_123 rfl ki_1 ?_
                    refine ev_goto (tgt := 128) dX8_count_124 rfl ?_
                    exact K23 _ (if_pos (Or.inr ⟨c24, Or.inr (Or.inl ⟨c44, Or.inl ⟨c45, ⟨c46, Or.inl c47⟩⟩⟩)⟩)).symm
                  · refine ev_iload (pc' := 119) dX8_count_117 rfl rfl ?_
                    refine ev_iconst (pc' := 120) (v := 2) dX8_count_119 rfl ki_2 ?_
                    refine ev_icmp_ne (tgt := 127) (pc' := 123) dX8_count_120 rfl rfl (fun c48 => ?_) (fun c48 => ?_)
                    · refine ev_iconst (pc' := 128) (v := 0) dX8_count_127 rfl ki_0 ?_
                      exact K23 _ (if_neg (not_or.mpr ⟨fun h => (not_not_intro c24) h.1, fun h => (not_or.mpr ⟨(not_not_intro c43), not_or.mpr ⟨fun h => (not_or.mpr ⟨fun h => (fun h => (not_or.mpr ⟨c47, c48⟩) h.2) h.2, fun h => c45 h.1⟩) h.2, fun h => c44 h.1⟩⟩) h.2⟩)).symm
                    · refine ev_iconst (pc' := 124) (v := 1) dX8_count_123 rfl ki_1 ?_
                      refine ev_goto (tgt := 128) dX8_count_124 rfl ?_
                      exact K23 _ (if_pos (Or.inr ⟨c24, Or.inr (Or.inl ⟨c44, Or.inl ⟨c45, ⟨c46, Or.inr c48⟩⟩⟩)⟩)).symm
              · refine ev_iload (pc' := 102) dX8_count_100 rfl rfl ?_
                refine ev_iconst (pc' := 103) (v := 4) dX8_count_102 rfl ki_4 ?_
                refine ev_icmp_eq (tgt := 123) (pc' := 106) dX8_count_103 rfl rfl (fun c49 => ?_) (fun c49 => ?_)
                · refine ev_iconst (pc' := 124) (v := 1) dX8_count_123 rfl ki_1 ?_
                  refine ev_goto (tgt := 128) dX8_count_124 rfl ?_
                  exact K23 _ (if_pos (Or.inr ⟨c24, Or.inr (Or.inl ⟨c44, Or.inr ⟨c45, Or.inl c49⟩⟩)⟩)).symm
                · refine ev_iload_n (pc' := 107) (i := 1) dX8_count_106 rfl rfl rfl ?_
                  refine ev_iconst (pc' := 108) (v := 4) dX8_count_107 rfl ki_4 ?_
                  refine ev_icmp_ne (tgt := 127) (pc' := 111) dX8_count_108 rfl rfl (fun c50 => ?_) (fun c50 => ?_)
                  · refine ev_iconst (pc' := 128) (v := 0) dX8_count_127 rfl ki_0 ?_
                    exact K23 _ (if_neg (not_or.mpr ⟨fun h => (not_not_intro c24) h.1, fun h => (not_or.mpr ⟨(not_not_intro c43), not_or.mpr ⟨fun h => (not_or.mpr ⟨fun h => (not_not_intro c45) h.1, fun h => (not_or.mpr ⟨c49, fun h => c50 h.1⟩) h.2⟩) h.2, fun h => c44 h.1⟩⟩) h.2⟩)).symm
                  · refine ev_iload (pc' := 113) dX8_count_111 rfl rfl ?_
                    refine ev_iconst (pc' := 114) (v := 1) dX8_count_113 rfl ki_1 ?_
                    refine ev_icmp_eq (tgt := 123) (pc' := 117) dX8_count_114 rfl rfl (fun c51 => ?_) (fun c51 => ?_)
                    · refine ev_iconst (pc' := 124) (v := 1) dX8_count_123 rfl ki_1 ?_
                      refine ev_goto (tgt := 128) dX8_count_124 rfl ?_
                      exact K23 _ (if_pos (Or.inr ⟨c24, Or.inr (Or.inl ⟨c44, Or.inr ⟨c45, Or.inr (⟨c50, Or.inl c51⟩)⟩⟩)⟩)).symm
                    · refine ev_iload (pc' := 119) dX8_count_117 rfl rfl ?_
                      refine ev_iconst (pc' := 120) (v := 2) dX8_count_119 rfl ki_2 ?_
                      refine ev_icmp_ne (tgt := 127) (pc' := 123) dX8_count_120 rfl rfl (fun c52 => ?_) (fun c52 => ?_)
                      · refine ev_iconst (pc' := 128) (v := 0) dX8_count_127 rfl ki_0 ?_
                        exact K23 _ (if_neg (not_or.mpr ⟨fun h => (not_not_intro c24) h.1, fun h => (not_or.mpr ⟨(not_not_intro c43), not_or.mpr ⟨fun h => (not_or.mpr ⟨fun h => (not_not_intro c45) h.1, fun h => (not_or.mpr ⟨c49, fun h => (not_or.mpr ⟨c51, c52⟩) h.2⟩) h.2⟩) h.2, fun h => c44 h.1⟩⟩) h.2⟩)).symm
                      · refine ev_iconst (pc' := 124) (v := 1) dX8_count_123 rfl ki_1 ?_
                        refine ev_goto (tgt := 128) dX8_count_124 rfl ?_
                        exact K23 _ (if_pos (Or.inr ⟨c24, Or.inr (Or.inl ⟨c44, Or.inr ⟨c45, Or.inr (⟨c50, Or.inr c52⟩)⟩⟩)⟩)).symm
            · refine ev_iload (pc' := 91) dX8_count_89 rfl rfl ?_
              refine ev_iconst (pc' := 92) (v := 3) dX8_count_91 rfl ki_3 ?_
              refine ev_icmp_eq (tgt := 123) (pc' := 95) dX8_count_92 rfl rfl (fun c53 => ?_) (fun c53 => ?_)
              · refine ev_iconst (pc' := 124) (v := 1) dX8_count_123 rfl ki_1 ?_
                refine ev_goto (tgt := 128) dX8_count_124 rfl ?_
                exact K23 _ (if_pos (Or.inr ⟨c24, Or.inr (Or.inr ⟨c44, Or.inl c53⟩)⟩)).symm
              · refine ev_iload_n (pc' := 96) (i := 1) dX8_count_95 rfl rfl rfl ?_
                refine ev_iconst (pc' := 97) (v := 3) dX8_count_96 rfl ki_3 ?_
                refine ev_icmp_ne (tgt := 106) (pc' := 100) dX8_count_97 rfl rfl (fun c54 => ?_) (fun c54 => ?_)
                · refine ev_iload_n (pc' := 107) (i := 1) dX8_count_106 rfl rfl rfl ?_
                  refine ev_iconst (pc' := 108) (v := 4) dX8_count_107 rfl ki_4 ?_
                  refine ev_icmp_ne (tgt := 127) (pc' := 111) dX8_count_108 rfl rfl (fun c55 => ?_) (fun c55 => ?_)
                  · refine ev_iconst (pc' := 128) (v := 0) dX8_count_127 rfl ki_0 ?_
                    exact K23 _ (if_neg (not_or.mpr ⟨fun h => (not_not_intro c24) h.1, fun h => (not_or.mpr ⟨(not_not_intro c43), not_or.mpr ⟨fun h => (not_not_intro c44) h.1, fun h => (not_or.mpr ⟨c53, not_or.mpr ⟨fun h => (fun h => c55 h.1) h.2, fun h => c54 h.1⟩⟩) h.2⟩⟩) h.2⟩)).symm
                  · refine ev_iload (pc' := 113) dX8_count_111 rfl rfl ?_
                    refine ev_iconst (pc' := 114) (v := 1) dX8_count_113 rfl ki_1 ?_
                    refine ev_icmp_eq (tgt := 123) (pc' := 117) dX8_count_114 rfl rfl (fun c56 => ?_) (fun c56 => ?_)
                    · refine ev_iconst (pc' := 124) (v := 1) dX8_count_123 rfl ki_1 ?_
                      refine ev_goto (tgt := 128) dX8_count_124 rfl ?_
                      exact K23 _ (if_pos (Or.inr ⟨c24, Or.inr (Or.inr ⟨c44, Or.inr (Or.inl ⟨c54, ⟨c55, Or.inl c56⟩⟩)⟩)⟩)).symm
                    · refine ev_iload (pc' := 119) dX8_count_117 rfl rfl ?_
                      refine ev_iconst (pc' := 120) (v := 2) dX8_count_119 rfl ki_2 ?_
                      refine ev_icmp_ne (tgt := 127) (pc' := 123) dX8_count_120 rfl rfl (fun c57 => ?_) (fun c57 => ?_)
                      · refine ev_iconst (pc' := 128) (v := 0) dX8_count_127 rfl ki_0 ?_
                        exact K23 _ (if_neg (not_or.mpr ⟨fun h => (not_not_intro c24) h.1, fun h => (not_or.mpr ⟨(not_not_intro c43), not_or.mpr ⟨fun h => (not_not_intro c44) h.1, fun h => (not_or.mpr ⟨c53, not_or.mpr ⟨fun h => (fun h => (not_or.mpr ⟨c56, c57⟩) h.2) h.2, fun h => c54 h.1⟩⟩) h.2⟩⟩) h.2⟩)).symm
                      · refine ev_iconst (pc' := 124) (v := 1) dX8_count_123 rfl ki_1 ?_
                        refine ev_goto (tgt := 128) dX8_count_124 rfl ?_
                        exact K23 _ (if_pos (Or.inr ⟨c24, Or.inr (Or.inr ⟨c44, Or.inr (Or.inl ⟨c54, ⟨c55, Or.inr c57⟩⟩)⟩)⟩)).symm
                · refine ev_iload (pc' := 102) dX8_count_100 rfl rfl ?_
                  refine ev_iconst (pc' := 103) (v := 4) dX8_count_102 rfl ki_4 ?_
                  refine ev_icmp_eq (tgt := 123) (pc' := 106) dX8_count_103 rfl rfl (fun c58 => ?_) (fun c58 => ?_)
                  · refine ev_iconst (pc' := 124) (v := 1) dX8_count_123 rfl ki_1 ?_
                    refine ev_goto (tgt := 128) dX8_count_124 rfl ?_
                    exact K23 _ (if_pos (Or.inr ⟨c24, Or.inr (Or.inr ⟨c44, Or.inr (Or.inr ⟨c54, Or.inl c58⟩)⟩)⟩)).symm
                  · refine ev_iload_n (pc' := 107) (i := 1) dX8_count_106 rfl rfl rfl ?_
                    refine ev_iconst (pc' := 108) (v := 4) dX8_count_107 rfl ki_4 ?_
                    refine ev_icmp_ne (tgt := 127) (pc' := 111) dX8_count_108 rfl rfl (fun c59 => ?_) (fun c59 => ?_)
                    · refine ev_iconst (pc' := 128) (v := 0) dX8_count_127 rfl ki_0 ?_
                      exact K23 _ (if_neg (not_or.mpr ⟨fun h => (not_not_intro c24) h.1, fun h => (not_or.mpr ⟨(not_not_intro c43), not_or.mpr ⟨fun h => (not_not_intro c44) h.1, fun h => (not_or.mpr ⟨c53, not_or.mpr ⟨fun h => (not_not_intro c54) h.1, fun h => (not_or.mpr ⟨c58, fun h => c59 h.1⟩) h.2⟩⟩) h.2⟩⟩) h.2⟩)).symm
                    · refine ev_iload (pc' := 113) dX8_count_111 rfl rfl ?_
                      refine ev_iconst (pc' := 114) (v := 1) dX8_count_113 rfl ki_1 ?_
                      refine ev_icmp_eq (tgt := 123) (pc' := 117) dX8_count_114 rfl rfl (fun c60 => ?_) (fun c60 => ?_)
                      · refine ev_iconst (pc' := 124) (v := 1) dX8_count_123 rfl ki_1 ?_
                        refine ev_goto (tgt := 128) dX8_count_124 rfl ?_
                        exact K23 _ (if_pos (Or.inr ⟨c24, Or.inr (Or.inr ⟨c44, Or.inr (Or.inr ⟨c54, Or.inr (⟨c59, Or.inl c60⟩)⟩)⟩)⟩)).symm
                      · refine ev_iload (pc' := 119) dX8_count_117 rfl rfl ?_
                        refine ev_iconst (pc' := 120) (v := 2) dX8_count_119 rfl ki_2 ?_
                        refine ev_icmp_ne (tgt := 127) (pc' := 123) dX8_count_120 rfl rfl (fun c61 => ?_) (fun c61 => ?_)
                        · refine ev_iconst (pc' := 128) (v := 0) dX8_count_127 rfl ki_0 ?_
                          exact K23 _ (if_neg (not_or.mpr ⟨fun h => (not_not_intro c24) h.1, fun h => (not_or.mpr ⟨(not_not_intro c43), not_or.mpr ⟨fun h => (not_not_intro c44) h.1, fun h => (not_or.mpr ⟨c53, not_or.mpr ⟨fun h => (not_not_intro c54) h.1, fun h => (not_or.mpr ⟨c58, fun h => (not_or.mpr ⟨c60, c61⟩) h.2⟩) h.2⟩⟩) h.2⟩⟩) h.2⟩)).symm
                        · refine ev_iconst (pc' := 124) (v := 1) dX8_count_123 rfl ki_1 ?_
                          refine ev_goto (tgt := 128) dX8_count_124 rfl ?_
                          exact K23 _ (if_pos (Or.inr ⟨c24, Or.inr (Or.inr ⟨c44, Or.inr (Or.inr ⟨c54, Or.inr (⟨c59, Or.inr c61⟩)⟩)⟩)⟩)).symm
      intro x22 hx22
      subst hx22
      refine ev_istore (pc' := 130) (lv' := [some (.ref 115), some (.int w), some (.int x9), some (.int (nI i10)), some (.int (if ((I 122) i10) = 0 then (-9) else ((I 124) (10 * i10)))), some (.int (if ((¬ w = 1) ∧ (((¬ w = 2) ∧ (((¬ w = 3) ∧ ((w = 4) ∧ (((if ((I 122) i10) = 0 then (-9) else ((I 124) (10 * i10))) = 1) ∨ ((if ((I 122) i10) = 0 then (-9) else ((I 124) (10 * i10))) = 2)))) ∨ ((w = 3) ∧ (((if ((I 122) i10) = 0 then (-9) else ((I 124) (10 * i10))) = 4) ∨ ((w = 4) ∧ (((if ((I 122) i10) = 0 then (-9) else ((I 124) (10 * i10))) = 1) ∨ ((if ((I 122) i10) = 0 then (-9) else ((I 124) (10 * i10))) = 2))))))) ∨ ((w = 2) ∧ (((if ((I 122) i10) = 0 then (-9) else ((I 124) (10 * i10))) = 3) ∨ (((¬ w = 3) ∧ ((w = 4) ∧ (((if ((I 122) i10) = 0 then (-9) else ((I 124) (10 * i10))) = 1) ∨ ((if ((I 122) i10) = 0 then (-9) else ((I 124) (10 * i10))) = 2)))) ∨ ((w = 3) ∧ (((if ((I 122) i10) = 0 then (-9) else ((I 124) (10 * i10))) = 4) ∨ ((w = 4) ∧ (((if ((I 122) i10) = 0 then (-9) else ((I 124) (10 * i10))) = 1) ∨ ((if ((I 122) i10) = 0 then (-9) else ((I 124) (10 * i10))) = 2)))))))))) ∨ ((w = 1) ∧ ((¬ ((I 122) i10) = 0) ∨ (((¬ w = 2) ∧ (((¬ w = 3) ∧ ((w = 4) ∧ (((if ((I 122) i10) = 0 then (-9) else ((I 124) (10 * i10))) = 1) ∨ ((if ((I 122) i10) = 0 then (-9) else ((I 124) (10 * i10))) = 2)))) ∨ ((w = 3) ∧ (((if ((I 122) i10) = 0 then (-9) else ((I 124) (10 * i10))) = 4) ∨ ((w = 4) ∧ (((if ((I 122) i10) = 0 then (-9) else ((I 124) (10 * i10))) = 1) ∨ ((if ((I 122) i10) = 0 then (-9) else ((I 124) (10 * i10))) = 2))))))) ∨ ((w = 2) ∧ (((if ((I 122) i10) = 0 then (-9) else ((I 124) (10 * i10))) = 3) ∨ (((¬ w = 3) ∧ ((w = 4) ∧ (((if ((I 122) i10) = 0 then (-9) else ((I 124) (10 * i10))) = 1) ∨ ((if ((I 122) i10) = 0 then (-9) else ((I 124) (10 * i10))) = 2)))) ∨ ((w = 3) ∧ (((if ((I 122) i10) = 0 then (-9) else ((I 124) (10 * i10))) = 4) ∨ ((w = 4) ∧ (((if ((I 122) i10) = 0 then (-9) else ((I 124) (10 * i10))) = 1) ∨ ((if ((I 122) i10) = 0 then (-9) else ((I 124) (10 * i10))) = 2))))))))))) then (1 : Int32) else 0))]) dX8_count_128 rfl (Nat.le_of_ble_eq_true rfl) rfl rfl ?_
      refine ev_iload_n (pc' := 131) (i := 2) dX8_count_130 rfl rfl rfl ?_
      refine ev_iload (pc' := 133) dX8_count_131 rfl rfl ?_
      suffices K64 : ∀ x63 : Int32, x63 = (if ((¬ w = 1) ∧ (((¬ w = 2) ∧ (((¬ w = 3) ∧ ((w = 4) ∧ (((if ((I 122) i10) = 0 then (-9) else ((I 124) (10 * i10))) = 1) ∨ ((if ((I 122) i10) = 0 then (-9) else ((I 124) (10 * i10))) = 2)))) ∨ ((w = 3) ∧ (((if ((I 122) i10) = 0 then (-9) else ((I 124) (10 * i10))) = 4) ∨ ((w = 4) ∧ (((if ((I 122) i10) = 0 then (-9) else ((I 124) (10 * i10))) = 1) ∨ ((if ((I 122) i10) = 0 then (-9) else ((I 124) (10 * i10))) = 2))))))) ∨ ((w = 2) ∧ (((if ((I 122) i10) = 0 then (-9) else ((I 124) (10 * i10))) = 3) ∨ (((¬ w = 3) ∧ ((w = 4) ∧ (((if ((I 122) i10) = 0 then (-9) else ((I 124) (10 * i10))) = 1) ∨ ((if ((I 122) i10) = 0 then (-9) else ((I 124) (10 * i10))) = 2)))) ∨ ((w = 3) ∧ (((if ((I 122) i10) = 0 then (-9) else ((I 124) (10 * i10))) = 4) ∨ ((w = 4) ∧ (((if ((I 122) i10) = 0 then (-9) else ((I 124) (10 * i10))) = 1) ∨ ((if ((I 122) i10) = 0 then (-9) else ((I 124) (10 * i10))) = 2)))))))))) ∨ ((w = 1) ∧ ((¬ ((I 122) i10) = 0) ∨ (((¬ w = 2) ∧ (((¬ w = 3) ∧ ((w = 4) ∧ (((if ((I 122) i10) = 0 then (-9) else ((I 124) (10 * i10))) = 1) ∨ ((if ((I 122) i10) = 0 then (-9) else ((I 124) (10 * i10))) = 2)))) ∨ ((w = 3) ∧ (((if ((I 122) i10) = 0 then (-9) else ((I 124) (10 * i10))) = 4) ∨ ((w = 4) ∧ (((if ((I 122) i10) = 0 then (-9) else ((I 124) (10 * i10))) = 1) ∨ ((if ((I 122) i10) = 0 then (-9) else ((I 124) (10 * i10))) = 2))))))) ∨ ((w = 2) ∧ (((if ((I 122) i10) = 0 then (-9) else ((I 124) (10 * i10))) = 3) ∨ (((¬ w = 3) ∧ ((w = 4) ∧ (((if ((I 122) i10) = 0 then (-9) else ((I 124) (10 * i10))) = 1) ∨ ((if ((I 122) i10) = 0 then (-9) else ((I 124) (10 * i10))) = 2)))) ∨ ((w = 3) ∧ (((if ((I 122) i10) = 0 then (-9) else ((I 124) (10 * i10))) = 4) ∨ ((w = 4) ∧ (((if ((I 122) i10) = 0 then (-9) else ((I 124) (10 * i10))) = 1) ∨ ((if ((I 122) i10) = 0 then (-9) else ((I 124) (10 * i10))) = 2))))))))))) then (1 : Int32) else 0) → EV g yX8_count cX8_count 6 (some .int) rX8_count (ma_ZM g rX8_count Post) 141 [some (.ref 115), some (.int w), some (.int x9), some (.int (nI i10)), some (.int (if ((I 122) i10) = 0 then (-9) else ((I 124) (10 * i10)))), some (.int (if ((¬ w = 1) ∧ (((¬ w = 2) ∧ (((¬ w = 3) ∧ ((w = 4) ∧ (((if ((I 122) i10) = 0 then (-9) else ((I 124) (10 * i10))) = 1) ∨ ((if ((I 122) i10) = 0 then (-9) else ((I 124) (10 * i10))) = 2)))) ∨ ((w = 3) ∧ (((if ((I 122) i10) = 0 then (-9) else ((I 124) (10 * i10))) = 4) ∨ ((w = 4) ∧ (((if ((I 122) i10) = 0 then (-9) else ((I 124) (10 * i10))) = 1) ∨ ((if ((I 122) i10) = 0 then (-9) else ((I 124) (10 * i10))) = 2))))))) ∨ ((w = 2) ∧ (((if ((I 122) i10) = 0 then (-9) else ((I 124) (10 * i10))) = 3) ∨ (((¬ w = 3) ∧ ((w = 4) ∧ (((if ((I 122) i10) = 0 then (-9) else ((I 124) (10 * i10))) = 1) ∨ ((if ((I 122) i10) = 0 then (-9) else ((I 124) (10 * i10))) = 2)))) ∨ ((w = 3) ∧ (((if ((I 122) i10) = 0 then (-9) else ((I 124) (10 * i10))) = 4) ∨ ((w = 4) ∧ (((if ((I 122) i10) = 0 then (-9) else ((I 124) (10 * i10))) = 1) ∨ ((if ((I 122) i10) = 0 then (-9) else ((I 124) (10 * i10))) = 2)))))))))) ∨ ((w = 1) ∧ ((¬ ((I 122) i10) = 0) ∨ (((¬ w = 2) ∧ (((¬ w = 3) ∧ ((w = 4) ∧ (((if ((I 122) i10) = 0 then (-9) else ((I 124) (10 * i10))) = 1) ∨ ((if ((I 122) i10) = 0 then (-9) else ((I 124) (10 * i10))) = 2)))) ∨ ((w = 3) ∧ (((if ((I 122) i10) = 0 then (-9) else ((I 124) (10 * i10))) = 4) ∨ ((w = 4) ∧ (((if ((I 122) i10) = 0 then (-9) else ((I 124) (10 * i10))) = 1) ∨ ((if ((I 122) i10) = 0 then (-9) else ((I 124) (10 * i10))) = 2))))))) ∨ ((w = 2) ∧ (((if ((I 122) i10) = 0 then (-9) else ((I 124) (10 * i10))) = 3) ∨ (((¬ w = 3) ∧ ((w = 4) ∧ (((if ((I 122) i10) = 0 then (-9) else ((I 124) (10 * i10))) = 1) ∨ ((if ((I 122) i10) = 0 then (-9) else ((I 124) (10 * i10))) = 2)))) ∨ ((w = 3) ∧ (((if ((I 122) i10) = 0 then (-9) else ((I 124) (10 * i10))) = 4) ∨ ((w = 4) ∧ (((if ((I 122) i10) = 0 then (-9) else ((I 124) (10 * i10))) = 1) ∨ ((if ((I 122) i10) = 0 then (-9) else ((I 124) (10 * i10))) = 2))))))))))) then (1 : Int32) else 0))] [.int x63, .int x9] HS I L RF 146 0 0 by
        refine ev_if_eq_b (tgt := 140) (pc' := 136) dX8_count_133 rfl rfl (fun c65 => ?_) (fun c65 => ?_)
        · refine ev_iconst (pc' := 141) (v := 0) dX8_count_140 rfl ki_0 ?_
          exact K64 _ (if_neg c65).symm
        · refine ev_iconst (pc' := 137) (v := 1) dX8_count_136 rfl ki_1 ?_
          refine ev_goto (tgt := 141) dX8_count_137 rfl ?_
          exact K64 _ (if_pos c65).symm
      intro x63 hx63
      subst hx63
      refine ev_iadd (pc' := 142) (v := x9 + (if ((¬ w = 1) ∧ (((¬ w = 2) ∧ (((¬ w = 3) ∧ ((w = 4) ∧ (((if ((I 122) i10) = 0 then (-9) else ((I 124) (10 * i10))) = 1) ∨ ((if ((I 122) i10) = 0 then (-9) else ((I 124) (10 * i10))) = 2)))) ∨ ((w = 3) ∧ (((if ((I 122) i10) = 0 then (-9) else ((I 124) (10 * i10))) = 4) ∨ ((w = 4) ∧ (((if ((I 122) i10) = 0 then (-9) else ((I 124) (10 * i10))) = 1) ∨ ((if ((I 122) i10) = 0 then (-9) else ((I 124) (10 * i10))) = 2))))))) ∨ ((w = 2) ∧ (((if ((I 122) i10) = 0 then (-9) else ((I 124) (10 * i10))) = 3) ∨ (((¬ w = 3) ∧ ((w = 4) ∧ (((if ((I 122) i10) = 0 then (-9) else ((I 124) (10 * i10))) = 1) ∨ ((if ((I 122) i10) = 0 then (-9) else ((I 124) (10 * i10))) = 2)))) ∨ ((w = 3) ∧ (((if ((I 122) i10) = 0 then (-9) else ((I 124) (10 * i10))) = 4) ∨ ((w = 4) ∧ (((if ((I 122) i10) = 0 then (-9) else ((I 124) (10 * i10))) = 1) ∨ ((if ((I 122) i10) = 0 then (-9) else ((I 124) (10 * i10))) = 2)))))))))) ∨ ((w = 1) ∧ ((¬ ((I 122) i10) = 0) ∨ (((¬ w = 2) ∧ (((¬ w = 3) ∧ ((w = 4) ∧ (((if ((I 122) i10) = 0 then (-9) else ((I 124) (10 * i10))) = 1) ∨ ((if ((I 122) i10) = 0 then (-9) else ((I 124) (10 * i10))) = 2)))) ∨ ((w = 3) ∧ (((if ((I 122) i10) = 0 then (-9) else ((I 124) (10 * i10))) = 4) ∨ ((w = 4) ∧ (((if ((I 122) i10) = 0 then (-9) else ((I 124) (10 * i10))) = 1) ∨ ((if ((I 122) i10) = 0 then (-9) else ((I 124) (10 * i10))) = 2))))))) ∨ ((w = 2) ∧ (((if ((I 122) i10) = 0 then (-9) else ((I 124) (10 * i10))) = 3) ∨ (((¬ w = 3) ∧ ((w = 4) ∧ (((if ((I 122) i10) = 0 then (-9) else ((I 124) (10 * i10))) = 1) ∨ ((if ((I 122) i10) = 0 then (-9) else ((I 124) (10 * i10))) = 2)))) ∨ ((w = 3) ∧ (((if ((I 122) i10) = 0 then (-9) else ((I 124) (10 * i10))) = 4) ∨ ((w = 4) ∧ (((if ((I 122) i10) = 0 then (-9) else ((I 124) (10 * i10))) = 1) ∨ ((if ((I 122) i10) = 0 then (-9) else ((I 124) (10 * i10))) = 2))))))))))) then (1 : Int32) else 0)) dX8_count_141 rfl rfl ?_
      refine ev_istore_n (pc' := 143) (i := 2) (lv' := [some (.ref 115), some (.int w), some (.int (x9 + (if ((¬ w = 1) ∧ (((¬ w = 2) ∧ (((¬ w = 3) ∧ ((w = 4) ∧ (((if ((I 122) i10) = 0 then (-9) else ((I 124) (10 * i10))) = 1) ∨ ((if ((I 122) i10) = 0 then (-9) else ((I 124) (10 * i10))) = 2)))) ∨ ((w = 3) ∧ (((if ((I 122) i10) = 0 then (-9) else ((I 124) (10 * i10))) = 4) ∨ ((w = 4) ∧ (((if ((I 122) i10) = 0 then (-9) else ((I 124) (10 * i10))) = 1) ∨ ((if ((I 122) i10) = 0 then (-9) else ((I 124) (10 * i10))) = 2))))))) ∨ ((w = 2) ∧ (((if ((I 122) i10) = 0 then (-9) else ((I 124) (10 * i10))) = 3) ∨ (((¬ w = 3) ∧ ((w = 4) ∧ (((if ((I 122) i10) = 0 then (-9) else ((I 124) (10 * i10))) = 1) ∨ ((if ((I 122) i10) = 0 then (-9) else ((I 124) (10 * i10))) = 2)))) ∨ ((w = 3) ∧ (((if ((I 122) i10) = 0 then (-9) else ((I 124) (10 * i10))) = 4) ∨ ((w = 4) ∧ (((if ((I 122) i10) = 0 then (-9) else ((I 124) (10 * i10))) = 1) ∨ ((if ((I 122) i10) = 0 then (-9) else ((I 124) (10 * i10))) = 2)))))))))) ∨ ((w = 1) ∧ ((¬ ((I 122) i10) = 0) ∨ (((¬ w = 2) ∧ (((¬ w = 3) ∧ ((w = 4) ∧ (((if ((I 122) i10) = 0 then (-9) else ((I 124) (10 * i10))) = 1) ∨ ((if ((I 122) i10) = 0 then (-9) else ((I 124) (10 * i10))) = 2)))) ∨ ((w = 3) ∧ (((if ((I 122) i10) = 0 then (-9) else ((I 124) (10 * i10))) = 4) ∨ ((w = 4) ∧ (((if ((I 122) i10) = 0 then (-9) else ((I 124) (10 * i10))) = 1) ∨ ((if ((I 122) i10) = 0 then (-9) else ((I 124) (10 * i10))) = 2))))))) ∨ ((w = 2) ∧ (((if ((I 122) i10) = 0 then (-9) else ((I 124) (10 * i10))) = 3) ∨ (((¬ w = 3) ∧ ((w = 4) ∧ (((if ((I 122) i10) = 0 then (-9) else ((I 124) (10 * i10))) = 1) ∨ ((if ((I 122) i10) = 0 then (-9) else ((I 124) (10 * i10))) = 2)))) ∨ ((w = 3) ∧ (((if ((I 122) i10) = 0 then (-9) else ((I 124) (10 * i10))) = 4) ∨ ((w = 4) ∧ (((if ((I 122) i10) = 0 then (-9) else ((I 124) (10 * i10))) = 1) ∨ ((if ((I 122) i10) = 0 then (-9) else ((I 124) (10 * i10))) = 2))))))))))) then (1 : Int32) else 0))), some (.int (nI i10)), some (.int (if ((I 122) i10) = 0 then (-9) else ((I 124) (10 * i10)))), some (.int (if ((¬ w = 1) ∧ (((¬ w = 2) ∧ (((¬ w = 3) ∧ ((w = 4) ∧ (((if ((I 122) i10) = 0 then (-9) else ((I 124) (10 * i10))) = 1) ∨ ((if ((I 122) i10) = 0 then (-9) else ((I 124) (10 * i10))) = 2)))) ∨ ((w = 3) ∧ (((if ((I 122) i10) = 0 then (-9) else ((I 124) (10 * i10))) = 4) ∨ ((w = 4) ∧ (((if ((I 122) i10) = 0 then (-9) else ((I 124) (10 * i10))) = 1) ∨ ((if ((I 122) i10) = 0 then (-9) else ((I 124) (10 * i10))) = 2))))))) ∨ ((w = 2) ∧ (((if ((I 122) i10) = 0 then (-9) else ((I 124) (10 * i10))) = 3) ∨ (((¬ w = 3) ∧ ((w = 4) ∧ (((if ((I 122) i10) = 0 then (-9) else ((I 124) (10 * i10))) = 1) ∨ ((if ((I 122) i10) = 0 then (-9) else ((I 124) (10 * i10))) = 2)))) ∨ ((w = 3) ∧ (((if ((I 122) i10) = 0 then (-9) else ((I 124) (10 * i10))) = 4) ∨ ((w = 4) ∧ (((if ((I 122) i10) = 0 then (-9) else ((I 124) (10 * i10))) = 1) ∨ ((if ((I 122) i10) = 0 then (-9) else ((I 124) (10 * i10))) = 2)))))))))) ∨ ((w = 1) ∧ ((¬ ((I 122) i10) = 0) ∨ (((¬ w = 2) ∧ (((¬ w = 3) ∧ ((w = 4) ∧ (((if ((I 122) i10) = 0 then (-9) else ((I 124) (10 * i10))) = 1) ∨ ((if ((I 122) i10) = 0 then (-9) else ((I 124) (10 * i10))) = 2)))) ∨ ((w = 3) ∧ (((if ((I 122) i10) = 0 then (-9) else ((I 124) (10 * i10))) = 4) ∨ ((w = 4) ∧ (((if ((I 122) i10) = 0 then (-9) else ((I 124) (10 * i10))) = 1) ∨ ((if ((I 122) i10) = 0 then (-9) else ((I 124) (10 * i10))) = 2))))))) ∨ ((w = 2) ∧ (((if ((I 122) i10) = 0 then (-9) else ((I 124) (10 * i10))) = 3) ∨ (((¬ w = 3) ∧ ((w = 4) ∧ (((if ((I 122) i10) = 0 then (-9) else ((I 124) (10 * i10))) = 1) ∨ ((if ((I 122) i10) = 0 then (-9) else ((I 124) (10 * i10))) = 2)))) ∨ ((w = 3) ∧ (((if ((I 122) i10) = 0 then (-9) else ((I 124) (10 * i10))) = 4) ∨ ((w = 4) ∧ (((if ((I 122) i10) = 0 then (-9) else ((I 124) (10 * i10))) = 1) ∨ ((if ((I 122) i10) = 0 then (-9) else ((I 124) (10 * i10))) = 2))))))))))) then (1 : Int32) else 0))]) dX8_count_142 rfl rfl (Nat.le_of_ble_eq_true rfl) rfl rfl ?_
      refine ev_iinc (pc' := 146) (v := nI (i10 + 1)) (lv' := [some (.ref 115), some (.int w), some (.int (x9 + (if ((¬ w = 1) ∧ (((¬ w = 2) ∧ (((¬ w = 3) ∧ ((w = 4) ∧ (((if ((I 122) i10) = 0 then (-9) else ((I 124) (10 * i10))) = 1) ∨ ((if ((I 122) i10) = 0 then (-9) else ((I 124) (10 * i10))) = 2)))) ∨ ((w = 3) ∧ (((if ((I 122) i10) = 0 then (-9) else ((I 124) (10 * i10))) = 4) ∨ ((w = 4) ∧ (((if ((I 122) i10) = 0 then (-9) else ((I 124) (10 * i10))) = 1) ∨ ((if ((I 122) i10) = 0 then (-9) else ((I 124) (10 * i10))) = 2))))))) ∨ ((w = 2) ∧ (((if ((I 122) i10) = 0 then (-9) else ((I 124) (10 * i10))) = 3) ∨ (((¬ w = 3) ∧ ((w = 4) ∧ (((if ((I 122) i10) = 0 then (-9) else ((I 124) (10 * i10))) = 1) ∨ ((if ((I 122) i10) = 0 then (-9) else ((I 124) (10 * i10))) = 2)))) ∨ ((w = 3) ∧ (((if ((I 122) i10) = 0 then (-9) else ((I 124) (10 * i10))) = 4) ∨ ((w = 4) ∧ (((if ((I 122) i10) = 0 then (-9) else ((I 124) (10 * i10))) = 1) ∨ ((if ((I 122) i10) = 0 then (-9) else ((I 124) (10 * i10))) = 2)))))))))) ∨ ((w = 1) ∧ ((¬ ((I 122) i10) = 0) ∨ (((¬ w = 2) ∧ (((¬ w = 3) ∧ ((w = 4) ∧ (((if ((I 122) i10) = 0 then (-9) else ((I 124) (10 * i10))) = 1) ∨ ((if ((I 122) i10) = 0 then (-9) else ((I 124) (10 * i10))) = 2)))) ∨ ((w = 3) ∧ (((if ((I 122) i10) = 0 then (-9) else ((I 124) (10 * i10))) = 4) ∨ ((w = 4) ∧ (((if ((I 122) i10) = 0 then (-9) else ((I 124) (10 * i10))) = 1) ∨ ((if ((I 122) i10) = 0 then (-9) else ((I 124) (10 * i10))) = 2))))))) ∨ ((w = 2) ∧ (((if ((I 122) i10) = 0 then (-9) else ((I 124) (10 * i10))) = 3) ∨ (((¬ w = 3) ∧ ((w = 4) ∧ (((if ((I 122) i10) = 0 then (-9) else ((I 124) (10 * i10))) = 1) ∨ ((if ((I 122) i10) = 0 then (-9) else ((I 124) (10 * i10))) = 2)))) ∨ ((w = 3) ∧ (((if ((I 122) i10) = 0 then (-9) else ((I 124) (10 * i10))) = 4) ∨ ((w = 4) ∧ (((if ((I 122) i10) = 0 then (-9) else ((I 124) (10 * i10))) = 1) ∨ ((if ((I 122) i10) = 0 then (-9) else ((I 124) (10 * i10))) = 2))))))))))) then (1 : Int32) else 0))), some (.int (nI (i10 + 1))), some (.int (if ((I 122) i10) = 0 then (-9) else ((I 124) (10 * i10)))), some (.int (if ((¬ w = 1) ∧ (((¬ w = 2) ∧ (((¬ w = 3) ∧ ((w = 4) ∧ (((if ((I 122) i10) = 0 then (-9) else ((I 124) (10 * i10))) = 1) ∨ ((if ((I 122) i10) = 0 then (-9) else ((I 124) (10 * i10))) = 2)))) ∨ ((w = 3) ∧ (((if ((I 122) i10) = 0 then (-9) else ((I 124) (10 * i10))) = 4) ∨ ((w = 4) ∧ (((if ((I 122) i10) = 0 then (-9) else ((I 124) (10 * i10))) = 1) ∨ ((if ((I 122) i10) = 0 then (-9) else ((I 124) (10 * i10))) = 2))))))) ∨ ((w = 2) ∧ (((if ((I 122) i10) = 0 then (-9) else ((I 124) (10 * i10))) = 3) ∨ (((¬ w = 3) ∧ ((w = 4) ∧ (((if ((I 122) i10) = 0 then (-9) else ((I 124) (10 * i10))) = 1) ∨ ((if ((I 122) i10) = 0 then (-9) else ((I 124) (10 * i10))) = 2)))) ∨ ((w = 3) ∧ (((if ((I 122) i10) = 0 then (-9) else ((I 124) (10 * i10))) = 4) ∨ ((w = 4) ∧ (((if ((I 122) i10) = 0 then (-9) else ((I 124) (10 * i10))) = 1) ∨ ((if ((I 122) i10) = 0 then (-9) else ((I 124) (10 * i10))) = 2)))))))))) ∨ ((w = 1) ∧ ((¬ ((I 122) i10) = 0) ∨ (((¬ w = 2) ∧ (((¬ w = 3) ∧ ((w = 4) ∧ (((if ((I 122) i10) = 0 then (-9) else ((I 124) (10 * i10))) = 1) ∨ ((if ((I 122) i10) = 0 then (-9) else ((I 124) (10 * i10))) = 2)))) ∨ ((w = 3) ∧ (((if ((I 122) i10) = 0 then (-9) else ((I 124) (10 * i10))) = 4) ∨ ((w = 4) ∧ (((if ((I 122) i10) = 0 then (-9) else ((I 124) (10 * i10))) = 1) ∨ ((if ((I 122) i10) = 0 then (-9) else ((I 124) (10 * i10))) = 2))))))) ∨ ((w = 2) ∧ (((if ((I 122) i10) = 0 then (-9) else ((I 124) (10 * i10))) = 3) ∨ (((¬ w = 3) ∧ ((w = 4) ∧ (((if ((I 122) i10) = 0 then (-9) else ((I 124) (10 * i10))) = 1) ∨ ((if ((I 122) i10) = 0 then (-9) else ((I 124) (10 * i10))) = 2)))) ∨ ((w = 3) ∧ (((if ((I 122) i10) = 0 then (-9) else ((I 124) (10 * i10))) = 4) ∨ ((w = 4) ∧ (((if ((I 122) i10) = 0 then (-9) else ((I 124) (10 * i10))) = 1) ∨ ((if ((I 122) i10) = 0 then (-9) else ((I 124) (10 * i10))) = 2))))))))))) then (1 : Int32) else 0))]) dX8_count_143 rfl rfl (nI_add i10 1) (Nat.le_of_ble_eq_true rfl) rfl rfl ?_
      refine ev_goto (tgt := 39) dX8_count_146 rfl ?_
      refine ev_lvw (lv' := [some (.ref 115), some (.int w), some (.int (x9 + (if ((¬ w = 1) ∧ (((¬ w = 2) ∧ (((¬ w = 3) ∧ ((w = 4) ∧ (((if ((I 122) i10) = 0 then (-9) else ((I 124) (10 * i10))) = 1) ∨ ((if ((I 122) i10) = 0 then (-9) else ((I 124) (10 * i10))) = 2)))) ∨ ((w = 3) ∧ (((if ((I 122) i10) = 0 then (-9) else ((I 124) (10 * i10))) = 4) ∨ ((w = 4) ∧ (((if ((I 122) i10) = 0 then (-9) else ((I 124) (10 * i10))) = 1) ∨ ((if ((I 122) i10) = 0 then (-9) else ((I 124) (10 * i10))) = 2))))))) ∨ ((w = 2) ∧ (((if ((I 122) i10) = 0 then (-9) else ((I 124) (10 * i10))) = 3) ∨ (((¬ w = 3) ∧ ((w = 4) ∧ (((if ((I 122) i10) = 0 then (-9) else ((I 124) (10 * i10))) = 1) ∨ ((if ((I 122) i10) = 0 then (-9) else ((I 124) (10 * i10))) = 2)))) ∨ ((w = 3) ∧ (((if ((I 122) i10) = 0 then (-9) else ((I 124) (10 * i10))) = 4) ∨ ((w = 4) ∧ (((if ((I 122) i10) = 0 then (-9) else ((I 124) (10 * i10))) = 1) ∨ ((if ((I 122) i10) = 0 then (-9) else ((I 124) (10 * i10))) = 2)))))))))) ∨ ((w = 1) ∧ ((¬ ((I 122) i10) = 0) ∨ (((¬ w = 2) ∧ (((¬ w = 3) ∧ ((w = 4) ∧ (((if ((I 122) i10) = 0 then (-9) else ((I 124) (10 * i10))) = 1) ∨ ((if ((I 122) i10) = 0 then (-9) else ((I 124) (10 * i10))) = 2)))) ∨ ((w = 3) ∧ (((if ((I 122) i10) = 0 then (-9) else ((I 124) (10 * i10))) = 4) ∨ ((w = 4) ∧ (((if ((I 122) i10) = 0 then (-9) else ((I 124) (10 * i10))) = 1) ∨ ((if ((I 122) i10) = 0 then (-9) else ((I 124) (10 * i10))) = 2))))))) ∨ ((w = 2) ∧ (((if ((I 122) i10) = 0 then (-9) else ((I 124) (10 * i10))) = 3) ∨ (((¬ w = 3) ∧ ((w = 4) ∧ (((if ((I 122) i10) = 0 then (-9) else ((I 124) (10 * i10))) = 1) ∨ ((if ((I 122) i10) = 0 then (-9) else ((I 124) (10 * i10))) = 2)))) ∨ ((w = 3) ∧ (((if ((I 122) i10) = 0 then (-9) else ((I 124) (10 * i10))) = 4) ∨ ((w = 4) ∧ (((if ((I 122) i10) = 0 then (-9) else ((I 124) (10 * i10))) = 1) ∨ ((if ((I 122) i10) = 0 then (-9) else ((I 124) (10 * i10))) = 2))))))))))) then (1 : Int32) else 0))), some (.int (nI (i10 + 1))), none, none]) ⟨rfl, ⟨rfl, ⟨rfl, ⟨rfl, trivial⟩⟩⟩⟩ ?_
      exact ih (i10 + 1) _ (by omega) (by rw [hv12]; rfl)
  | succ d2 ih =>
    intro i4 x3   hi5 hv6
    refine ev_iload_n (pc' := 5) (i := 3) dX8_count_4 rfl rfl rfl ?_
    refine ev_bipush (pc' := 7) (v := 8) dX8_count_5 rfl kb_8 ?_
    refine ev_icmp_ge (tgt := 37) (pc' := 10) dX8_count_7 rfl rfl (fun h => absurd h (nx_nle (a := 8) (b := i4) (by omega) (by omega))) (fun _ => ?_)
    refine ev_iload_n (pc' := 11) (i := 2) dX8_count_10 rfl rfl rfl ?_
    refine ev_iload_n (pc' := 12) (i := 1) dX8_count_11 rfl rfl rfl ?_
    suffices K68 : ∀ x67 : Int32, x67 = (if (w = 0) ∧ (¬ ((I 117) i4) < 0) then (1 : Int32) else 0) → EV g yX8_count cX8_count 6 (some .int) rX8_count (ma_ZM g rX8_count Post) 29 [some (.ref 115), some (.int w), some (.int x3), some (.int (nI i4)), none, none] [.int x67, .int x3] HS I L RF 146 0 0 by
      refine ev_if_ne (tgt := 28) (pc' := 15) dX8_count_12 rfl rfl (fun c69 => ?_) (fun c69 => ?_)
      · refine ev_iconst (pc' := 29) (v := 0) dX8_count_28 rfl ki_0 ?_
        exact K68 _ (if_neg (fun h => c69 h.1)).symm
      · refine ev_aload_n (pc' := 16) (i := 0) dX8_count_15 rfl rfl rfl ?_
        refine ev_getR (pc' := 19) fo_X8_17 dX8_count_16 rfl hs_115 rfl rf_115_5 ?_
        refine ev_iload_n (pc' := 20) (i := 3) dX8_count_19 rfl rfl rfl ?_
        refine ev_iald (pc' := 21) (j := i4) (v := (I 117) i4) dX8_count_20 rfl hs_117 rfl (by omega) (Nat.le_of_ble_eq_true rfl) rfl ?_
        refine ev_if_lt (tgt := 28) (pc' := 24) dX8_count_21 rfl rfl (fun c70 => ?_) (fun c70 => ?_)
        · refine ev_iconst (pc' := 29) (v := 0) dX8_count_28 rfl ki_0 ?_
          exact K68 _ (if_neg (fun h => (not_not_intro c70) h.2)).symm
        · refine ev_iconst (pc' := 25) (v := 1) dX8_count_24 rfl ki_1 ?_
          refine ev_goto (tgt := 29) dX8_count_25 rfl ?_
          exact K68 _ (if_pos (⟨c69, c70⟩)).symm
    intro x67 hx67
    subst hx67
    refine ev_iadd (pc' := 30) (v := x3 + (if (w = 0) ∧ (¬ ((I 117) i4) < 0) then (1 : Int32) else 0)) dX8_count_29 rfl rfl ?_
    refine ev_istore_n (pc' := 31) (i := 2) (lv' := [some (.ref 115), some (.int w), some (.int (x3 + (if (w = 0) ∧ (¬ ((I 117) i4) < 0) then (1 : Int32) else 0))), some (.int (nI i4)), none, none]) dX8_count_30 rfl rfl (Nat.le_of_ble_eq_true rfl) rfl rfl ?_
    refine ev_iinc (pc' := 34) (v := nI (i4 + 1)) (lv' := [some (.ref 115), some (.int w), some (.int (x3 + (if (w = 0) ∧ (¬ ((I 117) i4) < 0) then (1 : Int32) else 0))), some (.int (nI (i4 + 1))), none, none]) dX8_count_31 rfl rfl (nI_add i4 1) (Nat.le_of_ble_eq_true rfl) rfl rfl ?_
    refine ev_goto (tgt := 4) dX8_count_34 rfl ?_
    exact ih (i4 + 1) _ (by omega) (by rw [hv6]; rfl)
set_option maxRecDepth 4000 in
theorem t_X8_isSquare {g : ma_G} {Post : ma_P} {I : ma_I} {L : ma_L}  (v : Int32) (hv : v.toInt ≤ 4096) (k : ∀ r : Int32, (r = 0 ∨ r = 1) → (r = 1 ↔ ∃ j : Nat, ((j * j : Nat) : Int) = v.toInt) → Post (some (.int r)) HS I L RF 146) : CT g yX8_isSquare cX8_isSquare 2 (some .boolean) rX8_isSquare [.int v] Post HS I L RF 146 := by
  refine ct_of (lv := [some (.int v), none]) (by decide) (Nat.le_of_ble_eq_true rfl) rfl ?_
  refine ev_iconst (pc' := 1) (v := 0) dX8_isSquare_0 rfl ki_0 ?_
  refine ev_istore_n (pc' := 2) (i := 1) (lv' := [some (.int v), some (.int 0)]) dX8_isSquare_1 rfl rfl (Nat.le_of_ble_eq_true rfl) rfl rfl ?_
  suffices lp : ∀ (d m : Nat), m + d = 65 → (∀ j, j < m → ((j * j : Nat) : Int) < v.toInt) → EV g yX8_isSquare cX8_isSquare 2 (some .boolean) rX8_isSquare (ma_ZM g rX8_isSquare Post) 2 [some (.int v), some (.int (nI m))] [] HS I L RF 146 0 0 from lp 65 0 rfl (fun j hj => absurd hj (Nat.not_lt_zero j))
  intro d
  induction d with
  | zero =>
    intro m hm h
    have h1 := h 64 (by omega)
    exact absurd h1 (by omega)
  | succ d ih =>
    intro m hm h
    have hb : m * m < 4226 := Nat.lt_of_le_of_lt (Nat.mul_le_mul (show m ≤ 65 by omega) (show m ≤ 65 by omega)) (by decide)
    refine ev_iload_n (pc' := 3) (i := 1) dX8_isSquare_2 rfl rfl rfl ?_
    refine ev_iload_n (pc' := 4) (i := 1) dX8_isSquare_3 rfl rfl rfl ?_
    refine ev_imul (pc' := 5) (v := nI (m * m)) dX8_isSquare_4 rfl (pk_mul m m) ?_
    refine ev_iload_n (pc' := 6) (i := 0) dX8_isSquare_5 rfl rfl rfl ?_
    refine ev_icmp_ge (tgt := 15) (pc' := 9) dX8_isSquare_6 rfl rfl (fun c1 => ?_) (fun c1 => ?_)
    · refine ev_iload_n (pc' := 16) (i := 1) dX8_isSquare_15 rfl rfl rfl ?_
      refine ev_iload_n (pc' := 17) (i := 1) dX8_isSquare_16 rfl rfl rfl ?_
      refine ev_imul (pc' := 18) (v := nI (m * m)) dX8_isSquare_17 rfl (pk_mul m m) ?_
      refine ev_iload_n (pc' := 19) (i := 0) dX8_isSquare_18 rfl rfl rfl ?_
      suffices K4 : ∀ x3 : Int32, x3 = (if (nI (m * m)) = v then (1 : Int32) else 0) → EV g yX8_isSquare cX8_isSquare 2 (some .boolean) rX8_isSquare (ma_ZM g rX8_isSquare Post) 27 [some (.int v), some (.int (nI m))] [.int x3] HS I L RF 146 0 0 by
        refine ev_icmp_ne (tgt := 26) (pc' := 22) dX8_isSquare_19 rfl rfl (fun c5 => ?_) (fun c5 => ?_)
        · refine ev_iconst (pc' := 27) (v := 0) dX8_isSquare_26 rfl ki_0 ?_
          exact K4 _ (if_neg c5).symm
        · refine ev_iconst (pc' := 23) (v := 1) dX8_isSquare_22 rfl ki_1 ?_
          refine ev_goto (tgt := 27) dX8_isSquare_23 rfl ?_
          exact K4 _ (if_pos c5).symm
      intro x3 hx3
      subst hx3
      refine ev_iret dX8_isSquare_27 rfl b01_n ⟨Nat.le_refl _, Nat.le_refl _⟩ ?_
      refine k _ (by by_cases q : nI (m * m) = v <;> simp [q]) ?_
      have hc := c1
      rw [nb_le, nI_toInt (by omega)] at hc
      constructor
      · intro q
        by_cases q2 : nI (m * m) = v
        · exact ⟨m, by rw [← q2, nI_toInt (by omega)]⟩
        · rw [if_neg q2] at q; exact absurd q (by decide)
      · rintro ⟨j, hj⟩
        have hjm : ¬ j < m := fun q => by have := h j q; omega
        have hjm2 : ¬ m < j := fun q => by
          have := Nat.mul_lt_mul_of_lt_of_lt q q
          omega
        obtain rfl : j = m := by omega
        rw [if_pos]
        apply nb_eq.mpr
        rw [nI_toInt (by omega)]
        exact hj
    · refine ev_iinc (pc' := 12) (v := nI (m + 1)) (lv' := [some (.int v), some (.int (nI (m + 1)))]) dX8_isSquare_9 rfl rfl (nI_add m 1) (Nat.le_of_ble_eq_true rfl) rfl rfl ?_
      refine ev_goto (tgt := 2) dX8_isSquare_12 rfl ?_
      refine ih (m + 1) (by omega) (fun j hj => ?_)
      rcases Nat.lt_or_ge j m with q | q
      · exact h j q
      · obtain rfl : j = m := by omega
        have q2 := c1
        rw [nb_le, nI_toInt (by omega)] at q2
        omega
