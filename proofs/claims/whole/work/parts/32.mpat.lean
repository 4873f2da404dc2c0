def mAp (e : Int32) : Nat → Int32 → Int32
  | 0, s => s
  | n + 1, s => mAp e n (10 * s + e)
def mPL (m : Nat) (rl e : Int32) (f u w : Nat → Int64) (t : Nat → Int32) : Nat → Nat × Int32
  | 0 => (0, 0)
  | k + 1 => (max (mPL m rl e f u w t k).1 (mLB m rl f (u k) (w k)), 10 * mAp e (mLB m rl f (u k) (w k) - (mPL m rl e f u w t k).1) (mPL m rl e f u w t k).2 + t k)
theorem mPL_lt (m : Nat) (rl e : Int32) (f u w : Nat → Int64) (t : Nat → Int32) : ∀ k, (mPL m rl e f u w t k).1 < 3
  | 0 => by show 0 < 3; omega
  | k + 1 => by
    have := mPL_lt m rl e f u w t k
    have := mLB_lt m rl f (u k) (w k)
    show max _ _ < 3
    omega
def mPz (tw bt m n e s : Int32) : Int32 := (if ¬ (m - (e * n)) = 0 then (if ¬ (m - (e * n)) = 2 then (if tw = 0 then ((100 * (if bt ≤ 0 then s else ((10 * s) + bt))) + 55) else ((10 * (if bt ≤ 0 then s else ((10 * s) + bt))) + 6)) else ((10 * (if bt ≤ 0 then s else ((10 * s) + bt))) + 5)) else (if bt ≤ 0 then s else ((10 * s) + bt)))
/-- the pattern's figures -/
def mPat (m r : Nat) (rl tw bt : Int32) (n : Nat) (f u w : Nat → Int64) (t : Nat → Int32) : Int32 :=
  mPz tw bt (nI m) rl (if tw = 0 then 1 else 2) (mAp (if tw = 0 then 1 else 2) (n - (mPL m rl (if tw = 0 then 1 else 2) f u w t r).1) (mPL m rl (if tw = 0 then 1 else 2) f u w t r).2)
set_option maxRecDepth 4000 in
theorem t_X8_patternOf {g : ma_G} {Post : ma_P} {I : ma_I} {L : ma_L} (m r n : Nat) (hm : m < 5) (hr4 : r < 5) (hn5 : n < 5) (hd : I 115 36 = nI m) (hr : I 115 31 = nI r) (hn : I 115 38 = nI n) (k0 : Post (some (.int (mPat m r (nI n) (I 115 39) (I 115 35) n (L 142) (L 139) (L 140) (I 141)))) HS I L RF 146) : CT g yX8_patternOf cX8_patternOf 6 (some .int) rX8_patternOf [.ref 115] Post HS I L RF 146 := by
  refine ct_of (lv := [some (.ref 115), none, none, none, none, none]) (by decide) (Nat.le_of_ble_eq_true rfl) rfl ?_
  refine ev_iconst (pc' := 1) (v := 0) dX8_patternOf_0 rfl ki_0 ?_
  refine ev_istore_n (pc' := 2) (i := 1) (lv' := [some (.ref 115), some (.int 0), none, none, none, none]) dX8_patternOf_1 rfl rfl (Nat.le_of_ble_eq_true rfl) rfl rfl ?_
  refine ev_aload_n (pc' := 3) (i := 0) dX8_patternOf_2 rfl rfl rfl ?_
  refine ev_getI (pc' := 6) (v := (I 115) 39) fo_X8_295 dX8_patternOf_3 rfl hs_115 rfl rfl ?_
  suffices K3 : ∀ x2 : Int32, x2 = (if ((I 115) 39) = 0 then 1 else 2) → EV g yX8_patternOf cX8_patternOf 6 (some .int) rX8_patternOf (ma_ZM g rX8_patternOf Post) 14 [some (.ref 115), some (.int 0), none, none, none, none] [.int x2] HS I L RF 146 0 0 by
    refine ev_if_eq (tgt := 13) (pc' := 9) dX8_patternOf_6 rfl rfl (fun c4 => ?_) (fun c4 => ?_)
    · refine ev_iconst (pc' := 14) (v := 1) dX8_patternOf_13 rfl ki_1 ?_
      exact K3 _ (by rw [if_pos c4])
    · refine ev_iconst (pc' := 10) (v := 2) dX8_patternOf_9 rfl ki_2 ?_
      refine ev_goto (tgt := 14) dX8_patternOf_10 rfl ?_
      exact K3 _ (by rw [if_neg c4])
  intro x2 hx2
  subst hx2
  refine ev_istore_n (pc' := 15) (i := 2) (lv' := [some (.ref 115), some (.int 0), some (.int (if ((I 115) 39) = 0 then 1 else 2)), none, none, none]) dX8_patternOf_14 rfl rfl (Nat.le_of_ble_eq_true rfl) rfl rfl ?_
  refine ev_iconst (pc' := 16) (v := 0) dX8_patternOf_15 rfl ki_0 ?_
  refine ev_istore_n (pc' := 17) (i := 3) (lv' := [some (.ref 115), some (.int 0), some (.int (if ((I 115) 39) = 0 then 1 else 2)), some (.int 0), none, none]) dX8_patternOf_16 rfl rfl (Nat.le_of_ble_eq_true rfl) rfl rfl ?_
  refine ev_iconst (pc' := 18) (v := 0) dX8_patternOf_17 rfl ki_0 ?_
  refine ev_istore (pc' := 20) (lv' := [some (.ref 115), some (.int 0), some (.int (if ((I 115) 39) = 0 then 1 else 2)), some (.int 0), some (.int 0), none]) dX8_patternOf_18 rfl (Nat.le_of_ble_eq_true rfl) rfl rfl ?_
  obtain ⟨e, he⟩ : ∃ e : Int32, e = (if ((I 115) 39) = 0 then 1 else 2) := ⟨_, rfl⟩
  rw [← he]
  suffices lp : ∀ (d k dn : Nat) (s : Int32), k + d = r → (dn, s) = mPL m (nI n) e (L 142) (L 139) (L 140) (I 141) k → EV g yX8_patternOf cX8_patternOf 6 (some .int) rX8_patternOf (ma_ZM g rX8_patternOf Post) 20 [some (.ref 115), some (.int s), some (.int e), some (.int (nI dn)), some (.int (nI k)), none] [] HS I L RF 146 0 0 from lp r 0 0 0 (by omega) rfl
  intro d
  induction d with
  | zero =>
    intro k dn s hk hs
    have hdn : dn < 3 := by have q := mPL_lt m (nI n) e (L 142) (L 139) (L 140) (I 141) k; rw [← hs] at q; exact q
    refine ev_iload (pc' := 22) dX8_patternOf_20 rfl rfl ?_
    refine ev_aload_n (pc' := 23) (i := 0) dX8_patternOf_22 rfl rfl rfl ?_
    refine ev_getI (pc' := 26) (v := nI r) fo_X8_277 dX8_patternOf_23 rfl hs_115 rfl hr ?_
    refine ev_icmp_ge (tgt := 87) (pc' := 29) dX8_patternOf_26 rfl rfl (fun _ => ?_) (fun h => absurd (nx_le (a := r) (b := k) (by omega) (by omega)) h)
    suffices l2 : ∀ (d dn' : Nat) (s' : Int32), d = n - dn' → max dn' n = max dn n → mAp e d s' = mAp e (n - dn) s → EV g yX8_patternOf cX8_patternOf 6 (some .int) rX8_patternOf (ma_ZM g rX8_patternOf Post) 87 [some (.ref 115), some (.int s'), some (.int e), some (.int (nI dn')), some (.int (nI k)), none] [] HS I L RF 146 0 0 from l2 _ dn s rfl rfl rfl
    intro d1
    induction d1 with
    | zero =>
      intro dn' s' hd' hm' ha'
      have hdm : dn' = max dn n := by omega
      have ha' : s' = mAp e _ s := ha'
      refine ev_iload_n (pc' := 88) (i := 3) dX8_patternOf_87 rfl rfl rfl ?_
      refine ev_aload_n (pc' := 89) (i := 0) dX8_patternOf_88 rfl rfl rfl ?_
      refine ev_getI (pc' := 92) (v := nI n) fo_X8_298 dX8_patternOf_89 rfl hs_115 rfl hn ?_
      refine ev_icmp_ge (tgt := 108) (pc' := 95) dX8_patternOf_92 rfl rfl (fun _ => ?_) (fun h => absurd (nx_le (a := n) (b := dn') (by omega) (by omega)) h)
      refine ev_aload_n (pc' := 109) (i := 0) dX8_patternOf_108 rfl rfl rfl ?_
      refine ev_getI (pc' := 112) (v := (I 115) 35) fo_X8_280 dX8_patternOf_109 rfl hs_115 rfl rfl ?_
      suffices K8 : ∀ x7 : Int32, x7 = (if ((I 115) 35) ≤ 0 then s' else ((10 * s') + ((I 115) 35))) → EV g yX8_patternOf cX8_patternOf 6 (some .int) rX8_patternOf (ma_ZM g rX8_patternOf Post) 128 [some (.ref 115), some (.int s'), some (.int e), some (.int (nI dn')), some (.int (nI k)), none] [.int x7] HS I L RF 146 0 0 by
        refine ev_if_le (tgt := 127) (pc' := 115) dX8_patternOf_112 rfl rfl (fun c9 => ?_) (fun c9 => ?_)
        · refine ev_iload_n (pc' := 128) (i := 1) dX8_patternOf_127 rfl rfl rfl ?_
          exact K8 _ (by rw [if_pos c9])
        · refine ev_bipush (pc' := 117) (v := 10) dX8_patternOf_115 rfl kb_10 ?_
          refine ev_iload_n (pc' := 118) (i := 1) dX8_patternOf_117 rfl rfl rfl ?_
          refine ev_imul (pc' := 119) (v := 10 * s') dX8_patternOf_118 rfl rfl ?_
          refine ev_aload_n (pc' := 120) (i := 0) dX8_patternOf_119 rfl rfl rfl ?_
          refine ev_getI (pc' := 123) (v := (I 115) 35) fo_X8_280 dX8_patternOf_120 rfl hs_115 rfl rfl ?_
          refine ev_iadd (pc' := 124) (v := (10 * s') + ((I 115) 35)) dX8_patternOf_123 rfl rfl ?_
          refine ev_goto (tgt := 128) dX8_patternOf_124 rfl ?_
          exact K8 _ (by rw [if_neg c9])
      intro x7 hx7
      subst hx7
      refine ev_istore_n (pc' := 129) (i := 1) (lv' := [some (.ref 115), some (.int (if ((I 115) 35) ≤ 0 then s' else ((10 * s') + ((I 115) 35)))), some (.int e), some (.int (nI dn')), some (.int (nI k)), none]) dX8_patternOf_128 rfl rfl (Nat.le_of_ble_eq_true rfl) rfl rfl ?_
      refine ev_aload_n (pc' := 130) (i := 0) dX8_patternOf_129 rfl rfl rfl ?_
      refine ev_getI (pc' := 133) (v := nI m) fo_X8_267 dX8_patternOf_130 rfl hs_115 rfl hd ?_
      refine ev_iload_n (pc' := 134) (i := 2) dX8_patternOf_133 rfl rfl rfl ?_
      refine ev_aload_n (pc' := 135) (i := 0) dX8_patternOf_134 rfl rfl rfl ?_
      refine ev_getI (pc' := 138) (v := nI n) fo_X8_298 dX8_patternOf_135 rfl hs_115 rfl hn ?_
      refine ev_imul (pc' := 139) (v := e * (nI n)) dX8_patternOf_138 rfl rfl ?_
      refine ev_isub (pc' := 140) (v := (nI m) - (e * (nI n))) dX8_patternOf_139 rfl rfl ?_
      refine ev_istore (pc' := 142) (lv' := [some (.ref 115), some (.int (if ((I 115) 35) ≤ 0 then s' else ((10 * s') + ((I 115) 35)))), some (.int e), some (.int (nI dn')), some (.int ((nI m) - (e * (nI n)))), none]) dX8_patternOf_140 rfl (Nat.le_of_ble_eq_true rfl) rfl rfl ?_
      refine ev_iload (pc' := 144) dX8_patternOf_142 rfl rfl ?_
      suffices K12 : ∀ x11 : Int32, x11 = (if ¬ ((nI m) - (e * (nI n))) = 0 then (if ¬ ((nI m) - (e * (nI n))) = 2 then (if ((I 115) 39) = 0 then ((100 * (if ((I 115) 35) ≤ 0 then s' else ((10 * s') + ((I 115) 35)))) + 55) else ((10 * (if ((I 115) 35) ≤ 0 then s' else ((10 * s') + ((I 115) 35)))) + 6)) else ((10 * (if ((I 115) 35) ≤ 0 then s' else ((10 * s') + ((I 115) 35)))) + 5)) else (if ((I 115) 35) ≤ 0 then s' else ((10 * s') + ((I 115) 35)))) → EV g yX8_patternOf cX8_patternOf 6 (some .int) rX8_patternOf (ma_ZM g rX8_patternOf Post) 190 [some (.ref 115), some (.int (if ((I 115) 35) ≤ 0 then s' else ((10 * s') + ((I 115) 35)))), some (.int e), some (.int (nI dn')), some (.int ((nI m) - (e * (nI n)))), none] [.int x11] HS I L RF 146 0 0 by
        refine ev_if_ne (tgt := 151) (pc' := 147) dX8_patternOf_144 rfl rfl (fun c13 => ?_) (fun c13 => ?_)
        · refine ev_iload (pc' := 153) dX8_patternOf_151 rfl rfl ?_
          refine ev_iconst (pc' := 154) (v := 2) dX8_patternOf_153 rfl ki_2 ?_
          refine ev_icmp_ne (tgt := 166) (pc' := 157) dX8_patternOf_154 rfl rfl (fun c14 => ?_) (fun c14 => ?_)
          · refine ev_aload_n (pc' := 167) (i := 0) dX8_patternOf_166 rfl rfl rfl ?_
            refine ev_getI (pc' := 170) (v := (I 115) 39) fo_X8_295 dX8_patternOf_167 rfl hs_115 rfl rfl ?_
            refine ev_if_eq (tgt := 183) (pc' := 173) dX8_patternOf_170 rfl rfl (fun c15 => ?_) (fun c15 => ?_)
            · refine ev_bipush (pc' := 185) (v := 100) dX8_patternOf_183 rfl kb_100 ?_
              refine ev_iload_n (pc' := 186) (i := 1) dX8_patternOf_185 rfl rfl rfl ?_
              refine ev_imul (pc' := 187) (v := 100 * (if ((I 115) 35) ≤ 0 then s' else ((10 * s') + ((I 115) 35)))) dX8_patternOf_186 rfl rfl ?_
              refine ev_bipush (pc' := 189) (v := 55) dX8_patternOf_187 rfl kb_55 ?_
              refine ev_iadd (pc' := 190) (v := (100 * (if ((I 115) 35) ≤ 0 then s' else ((10 * s') + ((I 115) 35)))) + 55) dX8_patternOf_189 rfl rfl ?_
              exact K12 _ (by rw [if_pos c13, if_pos c14, if_pos c15])
            · refine ev_bipush (pc' := 175) (v := 10) dX8_patternOf_173 rfl kb_10 ?_
              refine ev_iload_n (pc' := 176) (i := 1) dX8_patternOf_175 rfl rfl rfl ?_
              refine ev_imul (pc' := 177) (v := 10 * (if ((I 115) 35) ≤ 0 then s' else ((10 * s') + ((I 115) 35)))) dX8_patternOf_176 rfl rfl ?_
              refine ev_bipush (pc' := 179) (v := 6) dX8_patternOf_177 rfl kb_6 ?_
              refine ev_iadd (pc' := 180) (v := (10 * (if ((I 115) 35) ≤ 0 then s' else ((10 * s') + ((I 115) 35)))) + 6) dX8_patternOf_179 rfl rfl ?_
              refine ev_goto (tgt := 190) dX8_patternOf_180 rfl ?_
              exact K12 _ (by rw [if_pos c13, if_pos c14, if_neg c15])
          · refine ev_bipush (pc' := 159) (v := 10) dX8_patternOf_157 rfl kb_10 ?_
            refine ev_iload_n (pc' := 160) (i := 1) dX8_patternOf_159 rfl rfl rfl ?_
            refine ev_imul (pc' := 161) (v := 10 * (if ((I 115) 35) ≤ 0 then s' else ((10 * s') + ((I 115) 35)))) dX8_patternOf_160 rfl rfl ?_
            refine ev_iconst (pc' := 162) (v := 5) dX8_patternOf_161 rfl ki_5 ?_
            refine ev_iadd (pc' := 163) (v := (10 * (if ((I 115) 35) ≤ 0 then s' else ((10 * s') + ((I 115) 35)))) + 5) dX8_patternOf_162 rfl rfl ?_
            refine ev_goto (tgt := 190) dX8_patternOf_163 rfl ?_
            exact K12 _ (by rw [if_pos c13, if_neg (not_not_intro c14)])
        · refine ev_iload_n (pc' := 148) (i := 1) dX8_patternOf_147 rfl rfl rfl ?_
          refine ev_goto (tgt := 190) dX8_patternOf_148 rfl ?_
          exact K12 _ (by rw [if_neg (not_not_intro c13)])
      intro x11 hx11
      subst hx11
      refine ev_iret dX8_patternOf_190 rfl rfl ⟨Nat.le_refl _, Nat.le_refl _⟩ ?_
      obtain rfl : r = k := by omega
      have q := k0
      unfold mPat at q
      rw [← he, ← hs, ← ha'] at q
      exact q
    | succ d1 ih1 =>
      intro dn' s' hd' hm' ha'
      refine ev_iload_n (pc' := 88) (i := 3) dX8_patternOf_87 rfl rfl rfl ?_
      refine ev_aload_n (pc' := 89) (i := 0) dX8_patternOf_88 rfl rfl rfl ?_
      refine ev_getI (pc' := 92) (v := nI n) fo_X8_298 dX8_patternOf_89 rfl hs_115 rfl hn ?_
      refine ev_icmp_ge (tgt := 108) (pc' := 95) dX8_patternOf_92 rfl rfl (fun h => absurd h (nx_nle (a := n) (b := dn') (by omega) (by omega))) (fun _ => ?_)
      refine ev_bipush (pc' := 97) (v := 10) dX8_patternOf_95 rfl kb_10 ?_
      refine ev_iload_n (pc' := 98) (i := 1) dX8_patternOf_97 rfl rfl rfl ?_
      refine ev_imul (pc' := 99) (v := 10 * s') dX8_patternOf_98 rfl rfl ?_
      refine ev_iload_n (pc' := 100) (i := 2) dX8_patternOf_99 rfl rfl rfl ?_
      refine ev_iadd (pc' := 101) (v := (10 * s') + e) dX8_patternOf_100 rfl rfl ?_
      refine ev_istore_n (pc' := 102) (i := 1) (lv' := [some (.ref 115), some (.int ((10 * s') + e)), some (.int e), some (.int (nI dn')), some (.int (nI k)), none]) dX8_patternOf_101 rfl rfl (Nat.le_of_ble_eq_true rfl) rfl rfl ?_
      refine ev_iinc (pc' := 105) (v := nI (dn' + 1)) (lv' := [some (.ref 115), some (.int ((10 * s') + e)), some (.int e), some (.int (nI (dn' + 1))), some (.int (nI k)), none]) dX8_patternOf_102 rfl rfl (nI_add dn' 1) (Nat.le_of_ble_eq_true rfl) rfl rfl ?_
      refine ev_goto (tgt := 87) dX8_patternOf_105 rfl ?_
      exact ih1 (dn' + 1) _ (by omega) (by omega) ha'
  | succ d ih =>
    intro k dn s hk hs
    have hdn : dn < 3 := by have q := mPL_lt m (nI n) e (L 142) (L 139) (L 140) (I 141) k; rw [← hs] at q; exact q
    refine ev_iload (pc' := 22) dX8_patternOf_20 rfl rfl ?_
    refine ev_aload_n (pc' := 23) (i := 0) dX8_patternOf_22 rfl rfl rfl ?_
    refine ev_getI (pc' := 26) (v := nI r) fo_X8_277 dX8_patternOf_23 rfl hs_115 rfl hr ?_
    refine ev_icmp_ge (tgt := 87) (pc' := 29) dX8_patternOf_26 rfl rfl (fun h => absurd h (nx_nle (a := r) (b := k) (by omega) (by omega))) (fun _ => ?_)
    refine ev_aload_n (pc' := 30) (i := 0) dX8_patternOf_29 rfl rfl rfl ?_
    refine ev_aload_n (pc' := 31) (i := 0) dX8_patternOf_30 rfl rfl rfl ?_
    refine ev_getR (pc' := 34) fo_X8_85 dX8_patternOf_31 rfl hs_115 rfl rf_115_32 ?_
    refine ev_iload (pc' := 36) dX8_patternOf_34 rfl rfl ?_
    refine ev_lald (pc' := 37) (j := k) (v := (L 139) k) dX8_patternOf_36 rfl hs_139 rfl (by omega) (Nat.le_of_ble_eq_true rfl) rfl ?_
    refine ev_aload_n (pc' := 38) (i := 0) dX8_patternOf_37 rfl rfl rfl ?_
    refine ev_getR (pc' := 41) fo_X8_88 dX8_patternOf_38 rfl hs_115 rfl rf_115_33 ?_
    refine ev_iload (pc' := 43) dX8_patternOf_41 rfl rfl ?_
    refine ev_lald (pc' := 44) (j := k) (v := (L 140) k) dX8_patternOf_43 rfl hs_140 rfl (by omega) (Nat.le_of_ble_eq_true rfl) rfl ?_
    refine ev_callV (pc' := 47) (rm' := rX8_leftBelow) (b := 115) (av := [.long ((L 139) k), .long ((L 140) k)]) (rest := []) co_X8_340 ci_X8_leftBelow cv_X8_leftBelow dX8_patternOf_44 rfl hs_115 hb_X8 rfl rfl (Nat.le_of_ble_eq_true rfl) ⟨(Nat.le_of_ble_eq_true rfl), (Nat.le_of_ble_eq_true rfl)⟩ ⟨(Nat.le_of_ble_eq_true rfl), (Nat.le_of_ble_eq_true rfl)⟩ ?_
    refine u_X8_leftBelow ((L 139) k) ((L 140) k) m hm hd ?_
    obtain ⟨b, hb⟩ : ∃ b, b = mLB m (nI n) (L 142) (L 139 k) (L 140 k) := ⟨_, rfl⟩
    have hb3 : b < 3 := by rw [hb]; exact mLB_lt _ _ _ _ _
    rw [hn, ← hb]
    refine ev_istore (pc' := 49) (lv' := [some (.ref 115), some (.int s), some (.int e), some (.int (nI dn)), some (.int (nI k)), some (.int (nI b))]) dX8_patternOf_47 rfl (Nat.le_of_ble_eq_true rfl) rfl rfl ?_
    suffices l1 : ∀ (d dn' : Nat) (s' : Int32), d = b - dn' → max dn' b = max dn b → mAp e d s' = mAp e (b - dn) s → EV g yX8_patternOf cX8_patternOf 6 (some .int) rX8_patternOf (ma_ZM g rX8_patternOf Post) 49 [some (.ref 115), some (.int s'), some (.int e), some (.int (nI dn')), some (.int (nI k)), some (.int (nI b))] [] HS I L RF 146 0 0 from l1 _ dn s rfl rfl rfl
    intro d1
    induction d1 with
    | zero =>
      intro dn' s' hd' hm' ha'
      have hdm : dn' = max dn b := by omega
      have ha' : s' = mAp e _ s := ha'
      refine ev_iload_n (pc' := 50) (i := 3) dX8_patternOf_49 rfl rfl rfl ?_
      refine ev_iload (pc' := 52) dX8_patternOf_50 rfl rfl ?_
      refine ev_icmp_ge (tgt := 68) (pc' := 55) dX8_patternOf_52 rfl rfl (fun _ => ?_) (fun h => absurd (nx_le (a := b) (b := dn') (by omega) (by omega)) h)
      refine ev_bipush (pc' := 70) (v := 10) dX8_patternOf_68 rfl kb_10 ?_
      refine ev_iload_n (pc' := 71) (i := 1) dX8_patternOf_70 rfl rfl rfl ?_
      refine ev_imul (pc' := 72) (v := 10 * s') dX8_patternOf_71 rfl rfl ?_
      refine ev_aload_n (pc' := 73) (i := 0) dX8_patternOf_72 rfl rfl rfl ?_
      refine ev_getR (pc' := 76) fo_X8_91 dX8_patternOf_73 rfl hs_115 rfl rf_115_34 ?_
      refine ev_iload (pc' := 78) dX8_patternOf_76 rfl rfl ?_
      refine ev_iald (pc' := 79) (j := k) (v := (I 141) k) dX8_patternOf_78 rfl hs_141 rfl (by omega) (Nat.le_of_ble_eq_true rfl) rfl ?_
      refine ev_iadd (pc' := 80) (v := (10 * s') + ((I 141) k)) dX8_patternOf_79 rfl rfl ?_
      refine ev_istore_n (pc' := 81) (i := 1) (lv' := [some (.ref 115), some (.int ((10 * s') + ((I 141) k))), some (.int e), some (.int (nI dn')), some (.int (nI k)), some (.int (nI b))]) dX8_patternOf_80 rfl rfl (Nat.le_of_ble_eq_true rfl) rfl rfl ?_
      refine ev_iinc (pc' := 84) (v := nI (k + 1)) (lv' := [some (.ref 115), some (.int ((10 * s') + ((I 141) k))), some (.int e), some (.int (nI dn')), some (.int (nI (k + 1))), some (.int (nI b))]) dX8_patternOf_81 rfl rfl (nI_add k 1) (Nat.le_of_ble_eq_true rfl) rfl rfl ?_
      refine ev_goto (tgt := 20) dX8_patternOf_84 rfl ?_
      refine ev_lvw (lv' := [some (.ref 115), some (.int ((10 * s') + ((I 141) k))), some (.int e), some (.int (nI dn')), some (.int (nI (k + 1))), none]) ⟨rfl, ⟨rfl, ⟨rfl, ⟨rfl, ⟨rfl, trivial⟩⟩⟩⟩⟩ ?_
      exact ih (k + 1) _ _ (by omega) (by show _ = (max (mPL m (nI n) e (L 142) (L 139) (L 140) (I 141) k).1 _, 10 * mAp e (_ - (mPL m (nI n) e (L 142) (L 139) (L 140) (I 141) k).1) (mPL m (nI n) e (L 142) (L 139) (L 140) (I 141) k).2 + _); rw [← hs, ← hb, ha', hdm])
    | succ d1 ih1 =>
      intro dn' s' hd' hm' ha'
      refine ev_iload_n (pc' := 50) (i := 3) dX8_patternOf_49 rfl rfl rfl ?_
      refine ev_iload (pc' := 52) dX8_patternOf_50 rfl rfl ?_
      refine ev_icmp_ge (tgt := 68) (pc' := 55) dX8_patternOf_52 rfl rfl (fun h => absurd h (nx_nle (a := b) (b := dn') (by omega) (by omega))) (fun _ => ?_)
      refine ev_bipush (pc' := 57) (v := 10) dX8_patternOf_55 rfl kb_10 ?_
      refine ev_iload_n (pc' := 58) (i := 1) dX8_patternOf_57 rfl rfl rfl ?_
      refine ev_imul (pc' := 59) (v := 10 * s') dX8_patternOf_58 rfl rfl ?_
      refine ev_iload_n (pc' := 60) (i := 2) dX8_patternOf_59 rfl rfl rfl ?_
      refine ev_iadd (pc' := 61) (v := (10 * s') + e) dX8_patternOf_60 rfl rfl ?_
      refine ev_istore_n (pc' := 62) (i := 1) (lv' := [some (.ref 115), some (.int ((10 * s') + e)), some (.int e), some (.int (nI dn')), some (.int (nI k)), some (.int (nI b))]) dX8_patternOf_61 rfl rfl (Nat.le_of_ble_eq_true rfl) rfl rfl ?_
      refine ev_iinc (pc' := 65) (v := nI (dn' + 1)) (lv' := [some (.ref 115), some (.int ((10 * s') + e)), some (.int e), some (.int (nI (dn' + 1))), some (.int (nI k)), some (.int (nI b))]) dX8_patternOf_62 rfl rfl (nI_add dn' 1) (Nat.le_of_ble_eq_true rfl) rfl rfl ?_
      refine ev_goto (tgt := 49) dX8_patternOf_65 rfl ?_
      exact ih1 (dn' + 1) _ (by omega) (by omega) ha'
