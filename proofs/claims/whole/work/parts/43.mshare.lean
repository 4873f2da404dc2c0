def mV4 (x y z : Int32) : Nat → Int32
  | 0 => x
  | 1 => y
  | 2 => z
  | _ => 1
theorem mBo_V {T V : Nat → Int32} {x y z : Int32} {q : Nat} (hV : V 3 = 1) : mBo T (ma_up (ma_up (ma_up V 0 x) 1 y) 2 z) (ma_up (ma_up (ma_up V 0 x) 1 y) 2 z) q = mBo T (mV4 x y z) (mV4 x y z) q := by
  have h3 : (ma_up (ma_up (ma_up V 0 x) 1 y) 2 z) 3 = 1 := hV
  unfold mBo mTan
  rw [h3]
  rfl
abbrev mG3 : Type := Nat × Nat × (Nat → Int32)
def mGs (T : Nat → Int32) (g h k : Nat) (x y z : Int32) (s : mG3) : mG3 :=
  if mBo T (mV4 x y z) (mV4 x y z) g = 0 ∧ mBo T (mV4 x y z) (mV4 x y z) h = 0 ∧ mBo T (mV4 x y z) (mV4 x y z) k = 0 then
    (s.1 + 1, if s.2.1 < 100 then s.2.1 + 1 else s.2.1, if s.2.1 < 100 then ma_up (ma_up (ma_up s.2.2 (3 * s.2.1) x) (3 * s.2.1 + 1) y) (3 * s.2.1 + 2) z else s.2.2)
  else s
theorem mGs_y {T : Nat → Int32} {g h k : Nat} {x y z : Int32} {m kp : Nat} {P : Nat → Int32} (c : mBo T (mV4 x y z) (mV4 x y z) g = 0 ∧ mBo T (mV4 x y z) (mV4 x y z) h = 0 ∧ mBo T (mV4 x y z) (mV4 x y z) k = 0) (c2 : kp < 100) : mGs T g h k x y z (m, kp, P) = (m + 1, kp + 1, ma_up (ma_up (ma_up P (3 * kp) x) (3 * kp + 1) y) (3 * kp + 2) z) := by
  unfold mGs; rw [if_pos c]; dsimp only; rw [if_pos c2, if_pos c2]
theorem mGs_f {T : Nat → Int32} {g h k : Nat} {x y z : Int32} {m kp : Nat} {P : Nat → Int32} (c : mBo T (mV4 x y z) (mV4 x y z) g = 0 ∧ mBo T (mV4 x y z) (mV4 x y z) h = 0 ∧ mBo T (mV4 x y z) (mV4 x y z) k = 0) (c2 : ¬ kp < 100) : mGs T g h k x y z (m, kp, P) = (m + 1, kp, P) := by
  unfold mGs; rw [if_pos c]; dsimp only; rw [if_neg c2, if_neg c2]
theorem mGs_n {T : Nat → Int32} {g h k : Nat} {x y z : Int32} {s : mG3} (c : ¬ (mBo T (mV4 x y z) (mV4 x y z) g = 0 ∧ mBo T (mV4 x y z) (mV4 x y z) h = 0 ∧ mBo T (mV4 x y z) (mV4 x y z) k = 0)) : mGs T g h k x y z s = s := if_neg c
def mGz (T : Nat → Int32) (g h k n : Nat) (x y : Int32) : Nat → mG3 → mG3
  | 0, s => s
  | l + 1, s => mGs T g h k x y (nI l - nI n) (mGz T g h k n x y l s)
def mGy (T : Nat → Int32) (g h k n : Nat) (x : Int32) : Nat → mG3 → mG3
  | 0, s => s
  | l + 1, s => mGz T g h k n x (nI l - nI n) (2 * n + 1) (mGy T g h k n x l s)
def mGx (T : Nat → Int32) (g h k n : Nat) : Nat → mG3 → mG3
  | 0, s => s
  | l + 1, s => mGy T g h k n (nI l - nI n) (2 * n + 1) (mGx T g h k n l s)
theorem gt_0 (I : ma_I) (x : Int32) (v : Nat → Int32) : ma_up (ma_up I 115 (ma_up (I 115) 45 x)) 126 v = ma_up (ma_up (ma_up I 115 (ma_up (I 115) 45 x)) 126 v) 148 (I 148) := by
  rw [show I 148 = (ma_up (ma_up I 115 (ma_up (I 115) 45 x)) 126 v) 148 from rfl, ma_up_self]
set_option maxRecDepth 4000 in
theorem t_X8_goThrough {g : ma_G} {Post : ma_P} {I : ma_I} {L : ma_L} (q1 : Nat) (q2 : Nat) (q3 : Nat) (n : Nat) (hg : q1 < 12) (hh : q2 < 12) (hk : q3 < 12) (hn : n < 11) (k0 : ∀ (m kp : Nat) (V P : Nat → Int32), kp ≤ 100 → (m, kp, P) = mGx (I 123) q1 q2 q3 n (2 * n + 1) (0, 0, I 148) → Post (some (.int (nI m))) HS (ma_up (ma_up (ma_up I 115 (ma_up (I 115) 45 (nI kp))) 126 V) 148 P) L RF 146) : CT g yX8_goThrough cX8_goThrough 9 (some .int) rX8_goThrough [.ref 115, .int (nI q1), .int (nI q2), .int (nI q3), .int (nI n)] Post HS I L RF 146 := by
  refine ct_of (lv := [some (.ref 115), some (.int (nI q1)), some (.int (nI q2)), some (.int (nI q3)), some (.int (nI n)), none, none, none, none]) (by decide) (Nat.le_of_ble_eq_true rfl) rfl ?_
  refine ev_aload_n (pc' := 1) (i := 0) dX8_goThrough_0 rfl rfl rfl ?_
  refine ev_iconst (pc' := 2) (v := 0) dX8_goThrough_1 rfl ki_0 ?_
  refine ev_putI (pc' := 5) (I' := (ma_up I 115 (ma_up (I 115) 45 0))) fo_X8_376 dX8_goThrough_2 rfl hs_115 rfl (fun r hr => by cases hr; rfl) ⟨rfl, rfl⟩ rfl ?_
  refine ev_iconst (pc' := 6) (v := 0) dX8_goThrough_5 rfl ki_0 ?_
  refine ev_istore (pc' := 8) (lv' := [some (.ref 115), some (.int (nI q1)), some (.int (nI q2)), some (.int (nI q3)), some (.int (nI n)), some (.int 0), none, none, none]) dX8_goThrough_6 rfl (Nat.le_of_ble_eq_true rfl) rfl rfl ?_
  refine ev_aload_n (pc' := 9) (i := 0) dX8_goThrough_8 rfl rfl rfl ?_
  refine ev_getR (pc' := 12) fo_X8_46 dX8_goThrough_9 rfl hs_115 rfl rf_115_16 ?_
  refine ev_iconst (pc' := 13) (v := 3) dX8_goThrough_12 rfl ki_3 ?_
  refine ev_iconst (pc' := 14) (v := 1) dX8_goThrough_13 rfl ki_1 ?_
  refine ev_iast (pc' := 15) (j := 3) (I' := (ma_up (ma_up I 115 (ma_up (I 115) 45 0)) 126 (ma_up (I 126) 3 1))) dX8_goThrough_14 rfl hs_126 rfl (Nat.le_of_ble_eq_true rfl) (Nat.le_of_ble_eq_true rfl) rfl ?_
  refine ev_iload (pc' := 17) dX8_goThrough_15 rfl rfl ?_
  refine ev_ineg (pc' := 18) (v := -(nI n)) dX8_goThrough_17 rfl rfl ?_
  refine ev_istore (pc' := 20) (lv' := [some (.ref 115), some (.int (nI q1)), some (.int (nI q2)), some (.int (nI q3)), some (.int (nI n)), some (.int 0), some (.int (-(nI n))), none, none]) dX8_goThrough_18 rfl (Nat.le_of_ble_eq_true rfl) rfl rfl ?_
  suffices la : ∀ (d1 i ma kpa : Nat) (Va Pa : Nat → Int32), i + d1 = 2 * n + 1 → Va 3 = 1 → kpa ≤ 100 → (ma, kpa, Pa) = mGx (I 123) q1 q2 q3 n i (0, 0, I 148) → EV g yX8_goThrough cX8_goThrough 9 (some .int) rX8_goThrough (ma_ZM g rX8_goThrough Post) 20 [some (.ref 115), some (.int (nI q1)), some (.int (nI q2)), some (.int (nI q3)), some (.int (nI n)), some (.int (nI ma)), some (.int (nI i - nI n)), none, none] [] HS (ma_up (ma_up (ma_up I 115 (ma_up (I 115) 45 (nI kpa))) 126 Va) 148 Pa) L RF 146 0 0 by
    refine ev_memI (fun z hz => ?_)
    rw [gt_0] at hz
    subst hz
    rw [mvc_0]
    exact la (2 * n + 1) 0 _ _ _ _ (by omega) rfl (Nat.zero_le _) rfl
  intro d1
  induction d1 with
  | zero =>
    intro i ma kpa Va Pa hia hVa hka hsa
    have hia : i = 2 * n + 1 := by omega
    rw [hia] at hsa
    refine ev_iload (pc' := 22) dX8_goThrough_20 rfl rfl ?_
    refine ev_iload (pc' := 24) dX8_goThrough_22 rfl rfl ?_
    refine ev_icmp_gt (tgt := 206) (pc' := 27) dX8_goThrough_24 rfl rfl (fun _ => ?_) (fun h => absurd (mvc_gt hia (by omega)) h)
    refine ev_iload (pc' := 208) dX8_goThrough_206 rfl rfl ?_
    refine ev_iret dX8_goThrough_208 rfl rfl ⟨Nat.le_refl _, Nat.le_refl _⟩ ?_
    exact k0 _ _ _ _ hka hsa
  | succ d1 iha =>
    intro i ma kpa Va Pa hia hVa hka hsa
    refine ev_iload (pc' := 22) dX8_goThrough_20 rfl rfl ?_
    refine ev_iload (pc' := 24) dX8_goThrough_22 rfl rfl ?_
    refine ev_icmp_gt (tgt := 206) (pc' := 27) dX8_goThrough_24 rfl rfl (fun h => absurd h (mvc_le (by omega) (by omega))) (fun _ => ?_)
    refine ev_iload (pc' := 29) dX8_goThrough_27 rfl rfl ?_
    refine ev_ineg (pc' := 30) (v := -(nI n)) dX8_goThrough_29 rfl rfl ?_
    refine ev_istore (pc' := 32) (lv' := [some (.ref 115), some (.int (nI q1)), some (.int (nI q2)), some (.int (nI q3)), some (.int (nI n)), some (.int (nI ma)), some (.int (nI i - nI n)), some (.int (-(nI n))), none]) dX8_goThrough_30 rfl (Nat.le_of_ble_eq_true rfl) rfl rfl ?_
    suffices lb : ∀ (d2 j mb kpb : Nat) (Vb Pb : Nat → Int32), j + d2 = 2 * n + 1 → Vb 3 = 1 → kpb ≤ 100 → (mb, kpb, Pb) = mGy (I 123) q1 q2 q3 n (nI i - nI n) j (ma, kpa, Pa) → EV g yX8_goThrough cX8_goThrough 9 (some .int) rX8_goThrough (ma_ZM g rX8_goThrough Post) 32 [some (.ref 115), some (.int (nI q1)), some (.int (nI q2)), some (.int (nI q3)), some (.int (nI n)), some (.int (nI mb)), some (.int (nI i - nI n)), some (.int (nI j - nI n)), none] [] HS (ma_up (ma_up (ma_up I 115 (ma_up (I 115) 45 (nI kpb))) 126 Vb) 148 Pb) L RF 146 0 0 by
      rw [mvc_0]
      exact lb (2 * n + 1) 0 _ _ _ _ (by omega) hVa hka rfl
    intro d2
    induction d2 with
    | zero =>
      intro j mb kpb Vb Pb hib hVb hkb hsb
      have hib : j = 2 * n + 1 := by omega
      rw [hib] at hsb
      refine ev_iload (pc' := 34) dX8_goThrough_32 rfl rfl ?_
      refine ev_iload (pc' := 36) dX8_goThrough_34 rfl rfl ?_
      refine ev_icmp_gt (tgt := 200) (pc' := 39) dX8_goThrough_36 rfl rfl (fun _ => ?_) (fun h => absurd (mvc_gt hib (by omega)) h)
      refine ev_iinc (pc' := 203) (v := (nI i - nI n) + 1) (lv' := [some (.ref 115), some (.int (nI q1)), some (.int (nI q2)), some (.int (nI q3)), some (.int (nI n)), some (.int (nI mb)), some (.int ((nI i - nI n) + 1)), some (.int (nI j - nI n)), none]) dX8_goThrough_200 rfl rfl rfl (Nat.le_of_ble_eq_true rfl) rfl rfl ?_
      refine ev_goto (tgt := 20) dX8_goThrough_203 rfl ?_
      refine ev_lvw (lv' := [some (.ref 115), some (.int (nI q1)), some (.int (nI q2)), some (.int (nI q3)), some (.int (nI n)), some (.int (nI mb)), some (.int ((nI i - nI n) + 1)), none, none]) ⟨rfl, ⟨rfl, ⟨rfl, ⟨rfl, ⟨rfl, ⟨rfl, ⟨rfl, trivial⟩⟩⟩⟩⟩⟩⟩ ?_
      rw [mvc_s]
      exact iha (i + 1) _ _ _ _ (by omega) hVb hkb (by show _ = mGy _ _ _ _ _ _ _ _; rw [← hsa]; exact hsb)
    | succ d2 ihb =>
      intro j mb kpb Vb Pb hib hVb hkb hsb
      refine ev_iload (pc' := 34) dX8_goThrough_32 rfl rfl ?_
      refine ev_iload (pc' := 36) dX8_goThrough_34 rfl rfl ?_
      refine ev_icmp_gt (tgt := 200) (pc' := 39) dX8_goThrough_36 rfl rfl (fun h => absurd h (mvc_le (by omega) (by omega))) (fun _ => ?_)
      refine ev_iload (pc' := 41) dX8_goThrough_39 rfl rfl ?_
      refine ev_ineg (pc' := 42) (v := -(nI n)) dX8_goThrough_41 rfl rfl ?_
      refine ev_istore (pc' := 44) (lv' := [some (.ref 115), some (.int (nI q1)), some (.int (nI q2)), some (.int (nI q3)), some (.int (nI n)), some (.int (nI mb)), some (.int (nI i - nI n)), some (.int (nI j - nI n)), some (.int (-(nI n)))]) dX8_goThrough_42 rfl (Nat.le_of_ble_eq_true rfl) rfl rfl ?_
      suffices lc : ∀ (d3 l mc kpc : Nat) (Vc Pc : Nat → Int32), l + d3 = 2 * n + 1 → Vc 3 = 1 → kpc ≤ 100 → (mc, kpc, Pc) = mGz (I 123) q1 q2 q3 n (nI i - nI n) (nI j - nI n) l (mb, kpb, Pb) → EV g yX8_goThrough cX8_goThrough 9 (some .int) rX8_goThrough (ma_ZM g rX8_goThrough Post) 44 [some (.ref 115), some (.int (nI q1)), some (.int (nI q2)), some (.int (nI q3)), some (.int (nI n)), some (.int (nI mc)), some (.int (nI i - nI n)), some (.int (nI j - nI n)), some (.int (nI l - nI n))] [] HS (ma_up (ma_up (ma_up I 115 (ma_up (I 115) 45 (nI kpc))) 126 Vc) 148 Pc) L RF 146 0 0 by
        rw [mvc_0]
        exact lc (2 * n + 1) 0 _ _ _ _ (by omega) hVb hkb rfl
      intro d3
      induction d3 with
      | zero =>
        intro l mc kpc Vc Pc hic hVc hkc hsc
        have hic : l = 2 * n + 1 := by omega
        rw [hic] at hsc
        refine ev_iload (pc' := 46) dX8_goThrough_44 rfl rfl ?_
        refine ev_iload (pc' := 48) dX8_goThrough_46 rfl rfl ?_
        refine ev_icmp_gt (tgt := 194) (pc' := 51) dX8_goThrough_48 rfl rfl (fun _ => ?_) (fun h => absurd (mvc_gt hic (by omega)) h)
        refine ev_iinc (pc' := 197) (v := (nI j - nI n) + 1) (lv' := [some (.ref 115), some (.int (nI q1)), some (.int (nI q2)), some (.int (nI q3)), some (.int (nI n)), some (.int (nI mc)), some (.int (nI i - nI n)), some (.int ((nI j - nI n) + 1)), some (.int (nI l - nI n))]) dX8_goThrough_194 rfl rfl rfl (Nat.le_of_ble_eq_true rfl) rfl rfl ?_
        refine ev_goto (tgt := 32) dX8_goThrough_197 rfl ?_
        refine ev_lvw (lv' := [some (.ref 115), some (.int (nI q1)), some (.int (nI q2)), some (.int (nI q3)), some (.int (nI n)), some (.int (nI mc)), some (.int (nI i - nI n)), some (.int ((nI j - nI n) + 1)), none]) ⟨rfl, ⟨rfl, ⟨rfl, ⟨rfl, ⟨rfl, ⟨rfl, ⟨rfl, ⟨rfl, trivial⟩⟩⟩⟩⟩⟩⟩⟩ ?_
        rw [mvc_s]
        exact ihb (j + 1) _ _ _ _ (by omega) hVc hkc (by show _ = mGz _ _ _ _ _ _ _ _ _; rw [← hsb]; exact hsc)
      | succ d3 ihc =>
        intro l mc kpc Vc Pc hic hVc hkc hsc
        by_cases hkl : kpc < 100
        · refine ev_iload (pc' := 46) dX8_goThrough_44 rfl rfl ?_
          refine ev_iload (pc' := 48) dX8_goThrough_46 rfl rfl ?_
          refine ev_icmp_gt (tgt := 194) (pc' := 51) dX8_goThrough_48 rfl rfl (fun h => absurd h (mvc_le (by omega) (by omega))) (fun _ => ?_)
          refine ev_aload_n (pc' := 52) (i := 0) dX8_goThrough_51 rfl rfl rfl ?_
          refine ev_getR (pc' := 55) fo_X8_46 dX8_goThrough_52 rfl hs_115 rfl rf_115_16 ?_
          refine ev_iconst (pc' := 56) (v := 0) dX8_goThrough_55 rfl ki_0 ?_
          refine ev_iload (pc' := 58) dX8_goThrough_56 rfl rfl ?_
          refine ev_iast (pc' := 59) (j := 0) (I' := (ma_up (ma_up (ma_up I 115 (ma_up (I 115) 45 (nI kpc))) 126 (ma_up Vc 0 (nI i - nI n))) 148 Pc)) dX8_goThrough_58 rfl hs_126 rfl (Nat.le_of_ble_eq_true rfl) (Nat.le_of_ble_eq_true rfl) ((ma_up_comm _ (show 126 ≠ 148 from (by decide)) _ _).trans (congrArg (fun f => ma_up f 148 _) (ma_up_up _ _ _ _))) ?_
          refine ev_aload_n (pc' := 60) (i := 0) dX8_goThrough_59 rfl rfl rfl ?_
          refine ev_getR (pc' := 63) fo_X8_46 dX8_goThrough_60 rfl hs_115 rfl rf_115_16 ?_
          refine ev_iconst (pc' := 64) (v := 1) dX8_goThrough_63 rfl ki_1 ?_
          refine ev_iload (pc' := 66) dX8_goThrough_64 rfl rfl ?_
          refine ev_iast (pc' := 67) (j := 1) (I' := (ma_up (ma_up (ma_up I 115 (ma_up (I 115) 45 (nI kpc))) 126 (ma_up (ma_up Vc 0 (nI i - nI n)) 1 (nI j - nI n))) 148 Pc)) dX8_goThrough_66 rfl hs_126 rfl (Nat.le_of_ble_eq_true rfl) (Nat.le_of_ble_eq_true rfl) ((ma_up_comm _ (show 126 ≠ 148 from (by decide)) _ _).trans (congrArg (fun f => ma_up f 148 _) (ma_up_up _ _ _ _))) ?_
          refine ev_aload_n (pc' := 68) (i := 0) dX8_goThrough_67 rfl rfl rfl ?_
          refine ev_getR (pc' := 71) fo_X8_46 dX8_goThrough_68 rfl hs_115 rfl rf_115_16 ?_
          refine ev_iconst (pc' := 72) (v := 2) dX8_goThrough_71 rfl ki_2 ?_
          refine ev_iload (pc' := 74) dX8_goThrough_72 rfl rfl ?_
          refine ev_iast (pc' := 75) (j := 2) (I' := (ma_up (ma_up (ma_up I 115 (ma_up (I 115) 45 (nI kpc))) 126 (ma_up (ma_up (ma_up Vc 0 (nI i - nI n)) 1 (nI j - nI n)) 2 (nI l - nI n))) 148 Pc)) dX8_goThrough_74 rfl hs_126 rfl (Nat.le_of_ble_eq_true rfl) (Nat.le_of_ble_eq_true rfl) ((ma_up_comm _ (show 126 ≠ 148 from (by decide)) _ _).trans (congrArg (fun f => ma_up f 148 _) (ma_up_up _ _ _ _))) ?_
          refine ev_aload_n (pc' := 76) (i := 0) dX8_goThrough_75 rfl rfl rfl ?_
          refine ev_iload_n (pc' := 77) (i := 1) dX8_goThrough_76 rfl rfl rfl ?_
          refine ev_aload_n (pc' := 78) (i := 0) dX8_goThrough_77 rfl rfl rfl ?_
          refine ev_getR (pc' := 81) fo_X8_46 dX8_goThrough_78 rfl hs_115 rfl rf_115_16 ?_
          refine ev_aload_n (pc' := 82) (i := 0) dX8_goThrough_81 rfl rfl rfl ?_
          refine ev_getR (pc' := 85) fo_X8_46 dX8_goThrough_82 rfl hs_115 rfl rf_115_16 ?_
          refine ev_callV (pc' := 88) (rm' := rX8_both) (b := 115) (av := [.int (nI q1), .ref 126, .ref 126]) (rest := []) co_X8_241 ci_X8_both cv_X8_both dX8_goThrough_85 rfl hs_115 hb_X8 rfl rfl (Nat.le_of_ble_eq_true rfl) ⟨(Nat.le_of_ble_eq_true rfl), (Nat.le_of_ble_eq_true rfl)⟩ ⟨(Nat.le_of_ble_eq_true rfl), (Nat.le_of_ble_eq_true rfl)⟩ ?_
          refine t_X8_both q1 126 126 (by omega) hs_126 hs_126 ?_
          refine ev_topi (fun z hz => ?_)
          have hz : z = mBo (I 123) (mV4 (nI i - nI n) (nI j - nI n) (nI l - nI n)) (mV4 (nI i - nI n) (nI j - nI n) (nI l - nI n)) q1 := hz.trans (mBo_V hVc)
          subst hz
          refine ev_if_ne (tgt := 188) (pc' := 91) dX8_goThrough_88 rfl rfl (fun c4 => ?_) (fun c4 => ?_)
          · refine ev_iinc (pc' := 191) (v := (nI l - nI n) + 1) (lv' := [some (.ref 115), some (.int (nI q1)), some (.int (nI q2)), some (.int (nI q3)), some (.int (nI n)), some (.int (nI mc)), some (.int (nI i - nI n)), some (.int (nI j - nI n)), some (.int ((nI l - nI n) + 1))]) dX8_goThrough_188 rfl rfl rfl (Nat.le_of_ble_eq_true rfl) rfl rfl ?_
            refine ev_goto (tgt := 44) dX8_goThrough_191 rfl ?_
            rw [mvc_s]
            refine ihc (l + 1) _ _ _ _ (by omega) hVc hkc ?_
            show _ = mGs _ _ _ _ _ _ _ (mGz _ _ _ _ _ _ _ _ _)
            rw [← hsc]; exact (mGs_n (fun c => absurd c.1 c4)).symm
          · refine ev_aload_n (pc' := 92) (i := 0) dX8_goThrough_91 rfl rfl rfl ?_
            refine ev_iload_n (pc' := 93) (i := 2) dX8_goThrough_92 rfl rfl rfl ?_
            refine ev_aload_n (pc' := 94) (i := 0) dX8_goThrough_93 rfl rfl rfl ?_
            refine ev_getR (pc' := 97) fo_X8_46 dX8_goThrough_94 rfl hs_115 rfl rf_115_16 ?_
            refine ev_aload_n (pc' := 98) (i := 0) dX8_goThrough_97 rfl rfl rfl ?_
            refine ev_getR (pc' := 101) fo_X8_46 dX8_goThrough_98 rfl hs_115 rfl rf_115_16 ?_
            refine ev_callV (pc' := 104) (rm' := rX8_both) (b := 115) (av := [.int (nI q2), .ref 126, .ref 126]) (rest := []) co_X8_241 ci_X8_both cv_X8_both dX8_goThrough_101 rfl hs_115 hb_X8 rfl rfl (Nat.le_of_ble_eq_true rfl) ⟨(Nat.le_of_ble_eq_true rfl), (Nat.le_of_ble_eq_true rfl)⟩ ⟨(Nat.le_of_ble_eq_true rfl), (Nat.le_of_ble_eq_true rfl)⟩ ?_
            refine t_X8_both q2 126 126 (by omega) hs_126 hs_126 ?_
            refine ev_topi (fun z hz => ?_)
            have hz : z = mBo (I 123) (mV4 (nI i - nI n) (nI j - nI n) (nI l - nI n)) (mV4 (nI i - nI n) (nI j - nI n) (nI l - nI n)) q2 := hz.trans (mBo_V hVc)
            subst hz
            refine ev_if_ne (tgt := 188) (pc' := 107) dX8_goThrough_104 rfl rfl (fun c5 => ?_) (fun c5 => ?_)
            · refine ev_iinc (pc' := 191) (v := (nI l - nI n) + 1) (lv' := [some (.ref 115), some (.int (nI q1)), some (.int (nI q2)), some (.int (nI q3)), some (.int (nI n)), some (.int (nI mc)), some (.int (nI i - nI n)), some (.int (nI j - nI n)), some (.int ((nI l - nI n) + 1))]) dX8_goThrough_188 rfl rfl rfl (Nat.le_of_ble_eq_true rfl) rfl rfl ?_
              refine ev_goto (tgt := 44) dX8_goThrough_191 rfl ?_
              rw [mvc_s]
              refine ihc (l + 1) _ _ _ _ (by omega) hVc hkc ?_
              show _ = mGs _ _ _ _ _ _ _ (mGz _ _ _ _ _ _ _ _ _)
              rw [← hsc]; exact (mGs_n (fun c => absurd c.2.1 c5)).symm
            · refine ev_aload_n (pc' := 108) (i := 0) dX8_goThrough_107 rfl rfl rfl ?_
              refine ev_iload_n (pc' := 109) (i := 3) dX8_goThrough_108 rfl rfl rfl ?_
              refine ev_aload_n (pc' := 110) (i := 0) dX8_goThrough_109 rfl rfl rfl ?_
              refine ev_getR (pc' := 113) fo_X8_46 dX8_goThrough_110 rfl hs_115 rfl rf_115_16 ?_
              refine ev_aload_n (pc' := 114) (i := 0) dX8_goThrough_113 rfl rfl rfl ?_
              refine ev_getR (pc' := 117) fo_X8_46 dX8_goThrough_114 rfl hs_115 rfl rf_115_16 ?_
              refine ev_callV (pc' := 120) (rm' := rX8_both) (b := 115) (av := [.int (nI q3), .ref 126, .ref 126]) (rest := []) co_X8_241 ci_X8_both cv_X8_both dX8_goThrough_117 rfl hs_115 hb_X8 rfl rfl (Nat.le_of_ble_eq_true rfl) ⟨(Nat.le_of_ble_eq_true rfl), (Nat.le_of_ble_eq_true rfl)⟩ ⟨(Nat.le_of_ble_eq_true rfl), (Nat.le_of_ble_eq_true rfl)⟩ ?_
              refine t_X8_both q3 126 126 (by omega) hs_126 hs_126 ?_
              refine ev_topi (fun z hz => ?_)
              have hz : z = mBo (I 123) (mV4 (nI i - nI n) (nI j - nI n) (nI l - nI n)) (mV4 (nI i - nI n) (nI j - nI n) (nI l - nI n)) q3 := hz.trans (mBo_V hVc)
              subst hz
              refine ev_if_ne (tgt := 188) (pc' := 123) dX8_goThrough_120 rfl rfl (fun c6 => ?_) (fun c6 => ?_)
              · refine ev_iinc (pc' := 191) (v := (nI l - nI n) + 1) (lv' := [some (.ref 115), some (.int (nI q1)), some (.int (nI q2)), some (.int (nI q3)), some (.int (nI n)), some (.int (nI mc)), some (.int (nI i - nI n)), some (.int (nI j - nI n)), some (.int ((nI l - nI n) + 1))]) dX8_goThrough_188 rfl rfl rfl (Nat.le_of_ble_eq_true rfl) rfl rfl ?_
                refine ev_goto (tgt := 44) dX8_goThrough_191 rfl ?_
                rw [mvc_s]
                refine ihc (l + 1) _ _ _ _ (by omega) hVc hkc ?_
                show _ = mGs _ _ _ _ _ _ _ (mGz _ _ _ _ _ _ _ _ _)
                rw [← hsc]; exact (mGs_n (fun c => absurd c.2.2 c6)).symm
              · refine ev_iinc (pc' := 126) (v := nI (mc + 1)) (lv' := [some (.ref 115), some (.int (nI q1)), some (.int (nI q2)), some (.int (nI q3)), some (.int (nI n)), some (.int (nI (mc + 1))), some (.int (nI i - nI n)), some (.int (nI j - nI n)), some (.int (nI l - nI n))]) dX8_goThrough_123 rfl rfl (nI_add mc 1) (Nat.le_of_ble_eq_true rfl) rfl rfl ?_
                refine ev_aload_n (pc' := 127) (i := 0) dX8_goThrough_126 rfl rfl rfl ?_
                refine ev_getI (pc' := 130) (v := nI kpc) fo_X8_376 dX8_goThrough_127 rfl hs_115 rfl rfl ?_
                refine ev_bipush (pc' := 132) (v := 100) dX8_goThrough_130 rfl kb_100 ?_
                refine ev_icmp_ge (tgt := 188) (pc' := 135) dX8_goThrough_132 rfl rfl (fun h => absurd h (nx_nle (a := 100) (b := kpc) (by omega) (by omega))) (fun _ => ?_)
                refine ev_aload_n (pc' := 136) (i := 0) dX8_goThrough_135 rfl rfl rfl ?_
                refine ev_getR (pc' := 139) fo_X8_112 dX8_goThrough_136 rfl hs_115 rfl rf_115_46 ?_
                refine ev_iconst (pc' := 140) (v := 3) dX8_goThrough_139 rfl ki_3 ?_
                refine ev_aload_n (pc' := 141) (i := 0) dX8_goThrough_140 rfl rfl rfl ?_
                refine ev_getI (pc' := 144) (v := nI kpc) fo_X8_376 dX8_goThrough_141 rfl hs_115 rfl rfl ?_
                refine ev_imul (pc' := 145) (v := nI (3 * kpc)) dX8_goThrough_144 rfl (pk_mul 3 kpc) ?_
                refine ev_iload (pc' := 147) dX8_goThrough_145 rfl rfl ?_
                refine ev_iast (pc' := 148) (j := 3 * kpc) (I' := (ma_up (ma_up (ma_up I 115 (ma_up (I 115) 45 (nI kpc))) 126 (ma_up (ma_up (ma_up Vc 0 (nI i - nI n)) 1 (nI j - nI n)) 2 (nI l - nI n))) 148 (ma_up Pc (3 * kpc) (nI i - nI n)))) dX8_goThrough_147 rfl hs_148 rfl (by omega) (Nat.le_of_ble_eq_true rfl) (ma_up_up _ _ _ _) ?_
                refine ev_aload_n (pc' := 149) (i := 0) dX8_goThrough_148 rfl rfl rfl ?_
                refine ev_getR (pc' := 152) fo_X8_112 dX8_goThrough_149 rfl hs_115 rfl rf_115_46 ?_
                refine ev_iconst (pc' := 153) (v := 3) dX8_goThrough_152 rfl ki_3 ?_
                refine ev_aload_n (pc' := 154) (i := 0) dX8_goThrough_153 rfl rfl rfl ?_
                refine ev_getI (pc' := 157) (v := nI kpc) fo_X8_376 dX8_goThrough_154 rfl hs_115 rfl rfl ?_
                refine ev_imul (pc' := 158) (v := nI (3 * kpc)) dX8_goThrough_157 rfl (pk_mul 3 kpc) ?_
                refine ev_iconst (pc' := 159) (v := 1) dX8_goThrough_158 rfl ki_1 ?_
                refine ev_iadd (pc' := 160) (v := nI ((3 * kpc) + 1)) dX8_goThrough_159 rfl (nI_add (3 * kpc) 1) ?_
                refine ev_iload (pc' := 162) dX8_goThrough_160 rfl rfl ?_
                refine ev_iast (pc' := 163) (j := (3 * kpc) + 1) (I' := (ma_up (ma_up (ma_up I 115 (ma_up (I 115) 45 (nI kpc))) 126 (ma_up (ma_up (ma_up Vc 0 (nI i - nI n)) 1 (nI j - nI n)) 2 (nI l - nI n))) 148 (ma_up (ma_up Pc (3 * kpc) (nI i - nI n)) ((3 * kpc) + 1) (nI j - nI n)))) dX8_goThrough_162 rfl hs_148 rfl (by omega) (Nat.le_of_ble_eq_true rfl) (ma_up_up _ _ _ _) ?_
                refine ev_aload_n (pc' := 164) (i := 0) dX8_goThrough_163 rfl rfl rfl ?_
                refine ev_getR (pc' := 167) fo_X8_112 dX8_goThrough_164 rfl hs_115 rfl rf_115_46 ?_
                refine ev_iconst (pc' := 168) (v := 3) dX8_goThrough_167 rfl ki_3 ?_
                refine ev_aload_n (pc' := 169) (i := 0) dX8_goThrough_168 rfl rfl rfl ?_
                refine ev_getI (pc' := 172) (v := nI kpc) fo_X8_376 dX8_goThrough_169 rfl hs_115 rfl rfl ?_
                refine ev_imul (pc' := 173) (v := nI (3 * kpc)) dX8_goThrough_172 rfl (pk_mul 3 kpc) ?_
                refine ev_iconst (pc' := 174) (v := 2) dX8_goThrough_173 rfl ki_2 ?_
                refine ev_iadd (pc' := 175) (v := nI ((3 * kpc) + 2)) dX8_goThrough_174 rfl (nI_add (3 * kpc) 2) ?_
                refine ev_iload (pc' := 177) dX8_goThrough_175 rfl rfl ?_
                refine ev_iast (pc' := 178) (j := (3 * kpc) + 2) (I' := (ma_up (ma_up (ma_up I 115 (ma_up (I 115) 45 (nI kpc))) 126 (ma_up (ma_up (ma_up Vc 0 (nI i - nI n)) 1 (nI j - nI n)) 2 (nI l - nI n))) 148 (ma_up (ma_up (ma_up Pc (3 * kpc) (nI i - nI n)) ((3 * kpc) + 1) (nI j - nI n)) ((3 * kpc) + 2) (nI l - nI n)))) dX8_goThrough_177 rfl hs_148 rfl (by omega) (Nat.le_of_ble_eq_true rfl) (ma_up_up _ _ _ _) ?_
                refine ev_aload_n (pc' := 179) (i := 0) dX8_goThrough_178 rfl rfl rfl ?_
                refine ev_dup (pc' := 180) dX8_goThrough_179 rfl rfl ?_
                refine ev_getI (pc' := 183) (v := nI kpc) fo_X8_376 dX8_goThrough_180 rfl hs_115 rfl rfl ?_
                refine ev_iconst (pc' := 184) (v := 1) dX8_goThrough_183 rfl ki_1 ?_
                refine ev_iadd (pc' := 185) (v := nI (kpc + 1)) dX8_goThrough_184 rfl (nI_add kpc 1) ?_
                refine ev_putI (pc' := 188) (I' := (ma_up (ma_up (ma_up I 115 (ma_up (I 115) 45 (nI (kpc + 1)))) 126 (ma_up (ma_up (ma_up Vc 0 (nI i - nI n)) 1 (nI j - nI n)) 2 (nI l - nI n))) 148 (ma_up (ma_up (ma_up Pc (3 * kpc) (nI i - nI n)) ((3 * kpc) + 1) (nI j - nI n)) ((3 * kpc) + 2) (nI l - nI n)))) fo_X8_376 dX8_goThrough_185 rfl hs_115 rfl (fun r hr => by cases hr; rfl) ⟨rfl, rfl⟩ ((congrArg (ma_up _ 115) (ma_up_up _ _ _ _)).trans ((ma_up_comm _ (show 115 ≠ 148 from (by decide)) _ _).trans (congrArg (fun f => ma_up f 148 _) ((ma_up_comm _ (show 115 ≠ 126 from (by decide)) _ _).trans (congrArg (fun f => ma_up f 126 _) (ma_up_up _ _ _ _)))))) ?_
                refine ev_iinc (pc' := 191) (v := (nI l - nI n) + 1) (lv' := [some (.ref 115), some (.int (nI q1)), some (.int (nI q2)), some (.int (nI q3)), some (.int (nI n)), some (.int (nI (mc + 1))), some (.int (nI i - nI n)), some (.int (nI j - nI n)), some (.int ((nI l - nI n) + 1))]) dX8_goThrough_188 rfl rfl rfl (Nat.le_of_ble_eq_true rfl) rfl rfl ?_
                refine ev_goto (tgt := 44) dX8_goThrough_191 rfl ?_
                rw [mvc_s]
                refine ihc (l + 1) _ _ _ _ (by omega) hVc (by omega) ?_
                show _ = mGs _ _ _ _ _ _ _ (mGz _ _ _ _ _ _ _ _ _)
                rw [← hsc]; exact (mGs_y ⟨c4, c5, c6⟩ hkl).symm
        · refine ev_iload (pc' := 46) dX8_goThrough_44 rfl rfl ?_
          refine ev_iload (pc' := 48) dX8_goThrough_46 rfl rfl ?_
          refine ev_icmp_gt (tgt := 194) (pc' := 51) dX8_goThrough_48 rfl rfl (fun h => absurd h (mvc_le (by omega) (by omega))) (fun _ => ?_)
          refine ev_aload_n (pc' := 52) (i := 0) dX8_goThrough_51 rfl rfl rfl ?_
          refine ev_getR (pc' := 55) fo_X8_46 dX8_goThrough_52 rfl hs_115 rfl rf_115_16 ?_
          refine ev_iconst (pc' := 56) (v := 0) dX8_goThrough_55 rfl ki_0 ?_
          refine ev_iload (pc' := 58) dX8_goThrough_56 rfl rfl ?_
          refine ev_iast (pc' := 59) (j := 0) (I' := (ma_up (ma_up (ma_up I 115 (ma_up (I 115) 45 (nI kpc))) 126 (ma_up Vc 0 (nI i - nI n))) 148 Pc)) dX8_goThrough_58 rfl hs_126 rfl (Nat.le_of_ble_eq_true rfl) (Nat.le_of_ble_eq_true rfl) ((ma_up_comm _ (show 126 ≠ 148 from (by decide)) _ _).trans (congrArg (fun f => ma_up f 148 _) (ma_up_up _ _ _ _))) ?_
          refine ev_aload_n (pc' := 60) (i := 0) dX8_goThrough_59 rfl rfl rfl ?_
          refine ev_getR (pc' := 63) fo_X8_46 dX8_goThrough_60 rfl hs_115 rfl rf_115_16 ?_
          refine ev_iconst (pc' := 64) (v := 1) dX8_goThrough_63 rfl ki_1 ?_
          refine ev_iload (pc' := 66) dX8_goThrough_64 rfl rfl ?_
          refine ev_iast (pc' := 67) (j := 1) (I' := (ma_up (ma_up (ma_up I 115 (ma_up (I 115) 45 (nI kpc))) 126 (ma_up (ma_up Vc 0 (nI i - nI n)) 1 (nI j - nI n))) 148 Pc)) dX8_goThrough_66 rfl hs_126 rfl (Nat.le_of_ble_eq_true rfl) (Nat.le_of_ble_eq_true rfl) ((ma_up_comm _ (show 126 ≠ 148 from (by decide)) _ _).trans (congrArg (fun f => ma_up f 148 _) (ma_up_up _ _ _ _))) ?_
          refine ev_aload_n (pc' := 68) (i := 0) dX8_goThrough_67 rfl rfl rfl ?_
          refine ev_getR (pc' := 71) fo_X8_46 dX8_goThrough_68 rfl hs_115 rfl rf_115_16 ?_
          refine ev_iconst (pc' := 72) (v := 2) dX8_goThrough_71 rfl ki_2 ?_
          refine ev_iload (pc' := 74) dX8_goThrough_72 rfl rfl ?_
          refine ev_iast (pc' := 75) (j := 2) (I' := (ma_up (ma_up (ma_up I 115 (ma_up (I 115) 45 (nI kpc))) 126 (ma_up (ma_up (ma_up Vc 0 (nI i - nI n)) 1 (nI j - nI n)) 2 (nI l - nI n))) 148 Pc)) dX8_goThrough_74 rfl hs_126 rfl (Nat.le_of_ble_eq_true rfl) (Nat.le_of_ble_eq_true rfl) ((ma_up_comm _ (show 126 ≠ 148 from (by decide)) _ _).trans (congrArg (fun f => ma_up f 148 _) (ma_up_up _ _ _ _))) ?_
          refine ev_aload_n (pc' := 76) (i := 0) dX8_goThrough_75 rfl rfl rfl ?_
          refine ev_iload_n (pc' := 77) (i := 1) dX8_goThrough_76 rfl rfl rfl ?_
          refine ev_aload_n (pc' := 78) (i := 0) dX8_goThrough_77 rfl rfl rfl ?_
          refine ev_getR (pc' := 81) fo_X8_46 dX8_goThrough_78 rfl hs_115 rfl rf_115_16 ?_
          refine ev_aload_n (pc' := 82) (i := 0) dX8_goThrough_81 rfl rfl rfl ?_
          refine ev_getR (pc' := 85) fo_X8_46 dX8_goThrough_82 rfl hs_115 rfl rf_115_16 ?_
          refine ev_callV (pc' := 88) (rm' := rX8_both) (b := 115) (av := [.int (nI q1), .ref 126, .ref 126]) (rest := []) co_X8_241 ci_X8_both cv_X8_both dX8_goThrough_85 rfl hs_115 hb_X8 rfl rfl (Nat.le_of_ble_eq_true rfl) ⟨(Nat.le_of_ble_eq_true rfl), (Nat.le_of_ble_eq_true rfl)⟩ ⟨(Nat.le_of_ble_eq_true rfl), (Nat.le_of_ble_eq_true rfl)⟩ ?_
          refine t_X8_both q1 126 126 (by omega) hs_126 hs_126 ?_
          refine ev_topi (fun z hz => ?_)
          have hz : z = mBo (I 123) (mV4 (nI i - nI n) (nI j - nI n) (nI l - nI n)) (mV4 (nI i - nI n) (nI j - nI n) (nI l - nI n)) q1 := hz.trans (mBo_V hVc)
          subst hz
          refine ev_if_ne (tgt := 188) (pc' := 91) dX8_goThrough_88 rfl rfl (fun c7 => ?_) (fun c7 => ?_)
          · refine ev_iinc (pc' := 191) (v := (nI l - nI n) + 1) (lv' := [some (.ref 115), some (.int (nI q1)), some (.int (nI q2)), some (.int (nI q3)), some (.int (nI n)), some (.int (nI mc)), some (.int (nI i - nI n)), some (.int (nI j - nI n)), some (.int ((nI l - nI n) + 1))]) dX8_goThrough_188 rfl rfl rfl (Nat.le_of_ble_eq_true rfl) rfl rfl ?_
            refine ev_goto (tgt := 44) dX8_goThrough_191 rfl ?_
            rw [mvc_s]
            refine ihc (l + 1) _ _ _ _ (by omega) hVc hkc ?_
            show _ = mGs _ _ _ _ _ _ _ (mGz _ _ _ _ _ _ _ _ _)
            rw [← hsc]; exact (mGs_n (fun c => absurd c.1 c7)).symm
          · refine ev_aload_n (pc' := 92) (i := 0) dX8_goThrough_91 rfl rfl rfl ?_
            refine ev_iload_n (pc' := 93) (i := 2) dX8_goThrough_92 rfl rfl rfl ?_
            refine ev_aload_n (pc' := 94) (i := 0) dX8_goThrough_93 rfl rfl rfl ?_
            refine ev_getR (pc' := 97) fo_X8_46 dX8_goThrough_94 rfl hs_115 rfl rf_115_16 ?_
            refine ev_aload_n (pc' := 98) (i := 0) dX8_goThrough_97 rfl rfl rfl ?_
            refine ev_getR (pc' := 101) fo_X8_46 dX8_goThrough_98 rfl hs_115 rfl rf_115_16 ?_
            refine ev_callV (pc' := 104) (rm' := rX8_both) (b := 115) (av := [.int (nI q2), .ref 126, .ref 126]) (rest := []) co_X8_241 ci_X8_both cv_X8_both dX8_goThrough_101 rfl hs_115 hb_X8 rfl rfl (Nat.le_of_ble_eq_true rfl) ⟨(Nat.le_of_ble_eq_true rfl), (Nat.le_of_ble_eq_true rfl)⟩ ⟨(Nat.le_of_ble_eq_true rfl), (Nat.le_of_ble_eq_true rfl)⟩ ?_
            refine t_X8_both q2 126 126 (by omega) hs_126 hs_126 ?_
            refine ev_topi (fun z hz => ?_)
            have hz : z = mBo (I 123) (mV4 (nI i - nI n) (nI j - nI n) (nI l - nI n)) (mV4 (nI i - nI n) (nI j - nI n) (nI l - nI n)) q2 := hz.trans (mBo_V hVc)
            subst hz
            refine ev_if_ne (tgt := 188) (pc' := 107) dX8_goThrough_104 rfl rfl (fun c8 => ?_) (fun c8 => ?_)
            · refine ev_iinc (pc' := 191) (v := (nI l - nI n) + 1) (lv' := [some (.ref 115), some (.int (nI q1)), some (.int (nI q2)), some (.int (nI q3)), some (.int (nI n)), some (.int (nI mc)), some (.int (nI i - nI n)), some (.int (nI j - nI n)), some (.int ((nI l - nI n) + 1))]) dX8_goThrough_188 rfl rfl rfl (Nat.le_of_ble_eq_true rfl) rfl rfl ?_
              refine ev_goto (tgt := 44) dX8_goThrough_191 rfl ?_
              rw [mvc_s]
              refine ihc (l + 1) _ _ _ _ (by omega) hVc hkc ?_
              show _ = mGs _ _ _ _ _ _ _ (mGz _ _ _ _ _ _ _ _ _)
              rw [← hsc]; exact (mGs_n (fun c => absurd c.2.1 c8)).symm
            · refine ev_aload_n (pc' := 108) (i := 0) dX8_goThrough_107 rfl rfl rfl ?_
              refine ev_iload_n (pc' := 109) (i := 3) dX8_goThrough_108 rfl rfl rfl ?_
              refine ev_aload_n (pc' := 110) (i := 0) dX8_goThrough_109 rfl rfl rfl ?_
              refine ev_getR (pc' := 113) fo_X8_46 dX8_goThrough_110 rfl hs_115 rfl rf_115_16 ?_
              refine ev_aload_n (pc' := 114) (i := 0) dX8_goThrough_113 rfl rfl rfl ?_
              refine ev_getR (pc' := 117) fo_X8_46 dX8_goThrough_114 rfl hs_115 rfl rf_115_16 ?_
              refine ev_callV (pc' := 120) (rm' := rX8_both) (b := 115) (av := [.int (nI q3), .ref 126, .ref 126]) (rest := []) co_X8_241 ci_X8_both cv_X8_both dX8_goThrough_117 rfl hs_115 hb_X8 rfl rfl (Nat.le_of_ble_eq_true rfl) ⟨(Nat.le_of_ble_eq_true rfl), (Nat.le_of_ble_eq_true rfl)⟩ ⟨(Nat.le_of_ble_eq_true rfl), (Nat.le_of_ble_eq_true rfl)⟩ ?_
              refine t_X8_both q3 126 126 (by omega) hs_126 hs_126 ?_
              refine ev_topi (fun z hz => ?_)
              have hz : z = mBo (I 123) (mV4 (nI i - nI n) (nI j - nI n) (nI l - nI n)) (mV4 (nI i - nI n) (nI j - nI n) (nI l - nI n)) q3 := hz.trans (mBo_V hVc)
              subst hz
              refine ev_if_ne (tgt := 188) (pc' := 123) dX8_goThrough_120 rfl rfl (fun c9 => ?_) (fun c9 => ?_)
              · refine ev_iinc (pc' := 191) (v := (nI l - nI n) + 1) (lv' := [some (.ref 115), some (.int (nI q1)), some (.int (nI q2)), some (.int (nI q3)), some (.int (nI n)), some (.int (nI mc)), some (.int (nI i - nI n)), some (.int (nI j - nI n)), some (.int ((nI l - nI n) + 1))]) dX8_goThrough_188 rfl rfl rfl (Nat.le_of_ble_eq_true rfl) rfl rfl ?_
                refine ev_goto (tgt := 44) dX8_goThrough_191 rfl ?_
                rw [mvc_s]
                refine ihc (l + 1) _ _ _ _ (by omega) hVc hkc ?_
                show _ = mGs _ _ _ _ _ _ _ (mGz _ _ _ _ _ _ _ _ _)
                rw [← hsc]; exact (mGs_n (fun c => absurd c.2.2 c9)).symm
              · refine ev_iinc (pc' := 126) (v := nI (mc + 1)) (lv' := [some (.ref 115), some (.int (nI q1)), some (.int (nI q2)), some (.int (nI q3)), some (.int (nI n)), some (.int (nI (mc + 1))), some (.int (nI i - nI n)), some (.int (nI j - nI n)), some (.int (nI l - nI n))]) dX8_goThrough_123 rfl rfl (nI_add mc 1) (Nat.le_of_ble_eq_true rfl) rfl rfl ?_
                refine ev_aload_n (pc' := 127) (i := 0) dX8_goThrough_126 rfl rfl rfl ?_
                refine ev_getI (pc' := 130) (v := nI kpc) fo_X8_376 dX8_goThrough_127 rfl hs_115 rfl rfl ?_
                refine ev_bipush (pc' := 132) (v := 100) dX8_goThrough_130 rfl kb_100 ?_
                refine ev_icmp_ge (tgt := 188) (pc' := 135) dX8_goThrough_132 rfl rfl (fun _ => ?_) (fun h => absurd (nx_le (a := 100) (b := kpc) (by omega) (by omega)) h)
                refine ev_iinc (pc' := 191) (v := (nI l - nI n) + 1) (lv' := [some (.ref 115), some (.int (nI q1)), some (.int (nI q2)), some (.int (nI q3)), some (.int (nI n)), some (.int (nI (mc + 1))), some (.int (nI i - nI n)), some (.int (nI j - nI n)), some (.int ((nI l - nI n) + 1))]) dX8_goThrough_188 rfl rfl rfl (Nat.le_of_ble_eq_true rfl) rfl rfl ?_
                refine ev_goto (tgt := 44) dX8_goThrough_191 rfl ?_
                rw [mvc_s]
                refine ihc (l + 1) _ _ _ _ (by omega) hVc (by omega) ?_
                show _ = mGs _ _ _ _ _ _ _ (mGz _ _ _ _ _ _ _ _ _)
                rw [← hsc]; exact (mGs_f ⟨c7, c8, c9⟩ hkl).symm
set_option maxRecDepth 4000 in
theorem t_X8_shared {g : ma_G} {Post : ma_P} {I : ma_I} {L : ma_L}  (q : Int32) (r : Int32) (n : Int32)  (k1 : ∀ n2 : Nat, (n2 < 11) → n = nI n2 → (¬ ((¬ q < 0) ∧ (¬ 11 < q))) → Post (some (.int (-1))) HS I L RF 146) (k2 : ∀ n2 : Nat, (n2 < 11) → n = nI n2 → ∀ j4 : Nat, (j4 < 12) → q = nI j4 → ∀ j7 : Nat, (j7 < 12) → r = nI j7 → (((I 122) j4) = 0) → Post (some (.int (-3))) HS (mMt I 1) L RF 146) (k3 : ∀ n2 : Nat, (n2 < 11) → n = nI n2 → ∀ j11 : Nat, (j11 < 12) → q = nI j11 → ∀ j14 : Nat, (j14 < 12) → r = nI j14 → (¬ ((I 122) j11) = 0) → (((I 122) j14) = 0) → Post (some (.int (-3))) HS (mMt I 1) L RF 146) (k4 : ∀ n2 : Nat, (n2 < 11) → n = nI n2 → ∀ j19 : Nat, (j19 < 12) → q = nI j19 → ∀ j22 : Nat, (j22 < 12) → r = nI j22 → (¬ ((I 122) j19) = 0) → (¬ ((I 122) j22) = 0) → ∀ m31 : Nat, ∀ kp32 : Nat, ∀ V33 : Nat → Int32, ∀ P34 : Nat → Int32, (kp32 ≤ 100) → ((m31, kp32, P34) = mGx (I 123) j19 j22 j22 n2 (2 * n2 + 1) (0, 0, I 148)) → Post (some (.int (nI m31))) HS (ma_up (ma_up (ma_up I 115 (ma_up (I 115) 45 (nI kp32))) 126 V33) 148 P34) L RF 146) (k5 : ∀ n2 : Nat, (n2 < 11) → n = nI n2 → ∀ j27 : Nat, (j27 < 12) → q = nI j27 → (¬ ((¬ r < 0) ∧ (¬ 11 < r))) → Post (some (.int (-1))) HS I L RF 146) (k6 : (¬ ((¬ n < 0) ∧ (¬ 10 < n))) → Post (some (.int (-1))) HS I L RF 146) : CT g yX8_shared cX8_shared 5 (some .int) rX8_shared [.ref 115, .int q, .int r, .int n] Post HS I L RF 146 := by
  refine ct_of (lv := [some (.ref 115), some (.int q), some (.int r), some (.int n), none]) (by decide) (Nat.le_of_ble_eq_true rfl) rfl ?_
  refine ev_iload_n (pc' := 1) (i := 3) dX8_shared_0 rfl rfl rfl ?_
  refine ev_iconst (pc' := 2) (v := 0) dX8_shared_1 rfl ki_0 ?_
  refine ev_bipush (pc' := 4) (v := 10) dX8_shared_2 rfl kb_10 ?_
  refine ev_callS (pc' := 7) (rm' := rX8_in) (av := [.int n, .int 0, .int 10]) (rest := []) co_X8_133 cs_X8_in dX8_shared_4 rfl rfl rfl (Nat.le_of_ble_eq_true rfl) ⟨(Nat.le_of_ble_eq_true rfl), (Nat.le_of_ble_eq_true rfl)⟩ ⟨(Nat.le_of_ble_eq_true rfl), (Nat.le_of_ble_eq_true rfl)⟩ ?_
  refine t_X8_in n 0 10  ?_
  refine ev_if_ne_b (tgt := 12) (pc' := 10) dX8_shared_7 rfl rfl (fun c1 => ?_) (fun c1 => ?_)
  · obtain ⟨n2, hn2, en2⟩ := in_of (n := 10) (by omega) rfl c1
    subst en2
    refine ev_aload_n (pc' := 13) (i := 0) dX8_shared_12 rfl rfl rfl ?_
    refine ev_iload_n (pc' := 14) (i := 1) dX8_shared_13 rfl rfl rfl ?_
    refine ev_iload_n (pc' := 15) (i := 2) dX8_shared_14 rfl rfl rfl ?_
    refine ev_callV (pc' := 18) (rm' := rX8_askedTwo) (b := 115) (av := [.int q, .int r]) (rest := []) co_X8_227 ci_X8_askedTwo cv_X8_askedTwo dX8_shared_15 rfl hs_115 hb_X8 rfl rfl (Nat.le_of_ble_eq_true rfl) ⟨(Nat.le_of_ble_eq_true rfl), (Nat.le_of_ble_eq_true rfl)⟩ ⟨(Nat.le_of_ble_eq_true rfl), (Nat.le_of_ble_eq_true rfl)⟩ ?_
    refine t_X8_askedTwo q r  (fun h3 => ?_) (fun j4 h5 e6 j7 h8 e9 h10 => ?_) (fun j11 h12 e13 j14 h15 e16 h17 h18 => ?_) (fun j19 h20 e21 j22 h23 e24 h25 h26 => ?_) (fun j27 h28 e29 h30 => ?_)
    · skip
      refine ev_istore (pc' := 20) (lv' := [some (.ref 115), some (.int q), some (.int r), some (.int (nI n2)), some (.int (-1))]) dX8_shared_18 rfl (Nat.le_of_ble_eq_true rfl) rfl rfl ?_
      refine ev_iload (pc' := 22) dX8_shared_20 rfl rfl ?_
      refine ev_if_ge (tgt := 30) (pc' := 25) dX8_shared_22 rfl rfl (fun h => absurd h (by decide)) (fun _ => ?_)
      refine ev_iload (pc' := 27) dX8_shared_25 rfl rfl ?_
      refine ev_goto (tgt := 38) dX8_shared_27 rfl ?_
      refine ev_iret dX8_shared_38 rfl rfl ⟨Nat.le_refl _, Nat.le_refl _⟩ ?_
      exact k1 n2 hn2 rfl h3
    · subst e6
      subst e9
      refine ev_istore (pc' := 20) (lv' := [some (.ref 115), some (.int (nI j4)), some (.int (nI j7)), some (.int (nI n2)), some (.int (-3))]) dX8_shared_18 rfl (Nat.le_of_ble_eq_true rfl) rfl rfl ?_
      refine ev_iload (pc' := 22) dX8_shared_20 rfl rfl ?_
      refine ev_if_ge (tgt := 30) (pc' := 25) dX8_shared_22 rfl rfl (fun h => absurd h (by decide)) (fun _ => ?_)
      refine ev_iload (pc' := 27) dX8_shared_25 rfl rfl ?_
      refine ev_goto (tgt := 38) dX8_shared_27 rfl ?_
      refine ev_iret dX8_shared_38 rfl rfl ⟨Nat.le_refl _, Nat.le_refl _⟩ ?_
      exact k2 n2 hn2 rfl j4 h5 rfl j7 h8 rfl h10
    · subst e13
      subst e16
      refine ev_istore (pc' := 20) (lv' := [some (.ref 115), some (.int (nI j11)), some (.int (nI j14)), some (.int (nI n2)), some (.int (-3))]) dX8_shared_18 rfl (Nat.le_of_ble_eq_true rfl) rfl rfl ?_
      refine ev_iload (pc' := 22) dX8_shared_20 rfl rfl ?_
      refine ev_if_ge (tgt := 30) (pc' := 25) dX8_shared_22 rfl rfl (fun h => absurd h (by decide)) (fun _ => ?_)
      refine ev_iload (pc' := 27) dX8_shared_25 rfl rfl ?_
      refine ev_goto (tgt := 38) dX8_shared_27 rfl ?_
      refine ev_iret dX8_shared_38 rfl rfl ⟨Nat.le_refl _, Nat.le_refl _⟩ ?_
      exact k3 n2 hn2 rfl j11 h12 rfl j14 h15 rfl h17 h18
    · subst e21
      subst e24
      refine ev_istore (pc' := 20) (lv' := [some (.ref 115), some (.int (nI j19)), some (.int (nI j22)), some (.int (nI n2)), some (.int 0)]) dX8_shared_18 rfl (Nat.le_of_ble_eq_true rfl) rfl rfl ?_
      refine ev_iload (pc' := 22) dX8_shared_20 rfl rfl ?_
      refine ev_if_ge (tgt := 30) (pc' := 25) dX8_shared_22 rfl rfl (fun _ => ?_) (fun h => absurd (by decide) h)
      refine ev_aload_n (pc' := 31) (i := 0) dX8_shared_30 rfl rfl rfl ?_
      refine ev_iload_n (pc' := 32) (i := 1) dX8_shared_31 rfl rfl rfl ?_
      refine ev_iload_n (pc' := 33) (i := 2) dX8_shared_32 rfl rfl rfl ?_
      refine ev_iload_n (pc' := 34) (i := 2) dX8_shared_33 rfl rfl rfl ?_
      refine ev_iload_n (pc' := 35) (i := 3) dX8_shared_34 rfl rfl rfl ?_
      refine ev_callV (pc' := 38) (rm' := rX8_goThrough) (b := 115) (av := [.int (nI j19), .int (nI j22), .int (nI j22), .int (nI n2)]) (rest := []) co_X8_379 ci_X8_goThrough cv_X8_goThrough dX8_shared_35 rfl hs_115 hb_X8 rfl rfl (Nat.le_of_ble_eq_true rfl) ⟨(Nat.le_of_ble_eq_true rfl), (Nat.le_of_ble_eq_true rfl)⟩ ⟨(Nat.le_of_ble_eq_true rfl), (Nat.le_of_ble_eq_true rfl)⟩ ?_
      refine t_X8_goThrough j19 j22 j22 n2 (by omega) (by omega) (by omega) (by omega) (fun m31 kp32 V33 P34 h35 h36 => ?_)
      refine ev_iret dX8_shared_38 rfl rfl ⟨Nat.le_refl _, Nat.le_refl _⟩ ?_
      exact k4 n2 hn2 rfl j19 h20 rfl j22 h23 rfl h25 h26 m31 kp32 V33 P34 h35 h36
    · subst e29
      refine ev_istore (pc' := 20) (lv' := [some (.ref 115), some (.int (nI j27)), some (.int r), some (.int (nI n2)), some (.int (-1))]) dX8_shared_18 rfl (Nat.le_of_ble_eq_true rfl) rfl rfl ?_
      refine ev_iload (pc' := 22) dX8_shared_20 rfl rfl ?_
      refine ev_if_ge (tgt := 30) (pc' := 25) dX8_shared_22 rfl rfl (fun h => absurd h (by decide)) (fun _ => ?_)
      refine ev_iload (pc' := 27) dX8_shared_25 rfl rfl ?_
      refine ev_goto (tgt := 38) dX8_shared_27 rfl ?_
      refine ev_iret dX8_shared_38 rfl rfl ⟨Nat.le_refl _, Nat.le_refl _⟩ ?_
      exact k5 n2 hn2 rfl j27 h28 rfl h30
  · refine ev_iconst (pc' := 11) (v := (-1)) dX8_shared_10 rfl ki_m1 ?_
    refine ev_iret dX8_shared_11 rfl rfl ⟨Nat.le_refl _, Nat.le_refl _⟩ ?_
    exact k6 c1
set_option maxRecDepth 4000 in
theorem t_X8_shared3 {g : ma_G} {Post : ma_P} {I : ma_I} {L : ma_L}  (q : Int32) (r : Int32) (s : Int32) (n : Int32)  (k1 : (¬ ((¬ q < 0) ∧ (¬ 11 < q))) → Post (some (.int (-1))) HS I L RF 146) (k2 : ∀ n2 : Nat, (n2 < 12) → q = nI n2 → (¬ ((¬ r < 0) ∧ (¬ 11 < r))) → Post (some (.int (-1))) HS I L RF 146) (k3 : ∀ n2 : Nat, (n2 < 12) → q = nI n2 → ∀ n4 : Nat, (n4 < 12) → r = nI n4 → (¬ ((¬ s < 0) ∧ (¬ 11 < s))) → Post (some (.int (-1))) HS I L RF 146) (k4 : ∀ n2 : Nat, (n2 < 12) → q = nI n2 → ∀ n4 : Nat, (n4 < 12) → r = nI n4 → ∀ n6 : Nat, (n6 < 12) → s = nI n6 → ∀ n8 : Nat, (n8 < 11) → n = nI n8 → (((I 122) n2) = 0) → Post (some (.int (-3))) HS (mMt I 1) L RF 146) (k5 : ∀ n2 : Nat, (n2 < 12) → q = nI n2 → ∀ n4 : Nat, (n4 < 12) → r = nI n4 → ∀ n6 : Nat, (n6 < 12) → s = nI n6 → ∀ n8 : Nat, (n8 < 11) → n = nI n8 → (¬ ((I 122) n2) = 0) → (((I 122) n4) = 0) → Post (some (.int (-3))) HS (mMt I 1) L RF 146) (k6 : ∀ n2 : Nat, (n2 < 12) → q = nI n2 → ∀ n4 : Nat, (n4 < 12) → r = nI n4 → ∀ n6 : Nat, (n6 < 12) → s = nI n6 → ∀ n8 : Nat, (n8 < 11) → n = nI n8 → (¬ ((I 122) n2) = 0) → (¬ ((I 122) n4) = 0) → (((I 122) n6) = 0) → Post (some (.int (-3))) HS (mMt I 1) L RF 146) (k7 : ∀ n2 : Nat, (n2 < 12) → q = nI n2 → ∀ n4 : Nat, (n4 < 12) → r = nI n4 → ∀ n6 : Nat, (n6 < 12) → s = nI n6 → ∀ n8 : Nat, (n8 < 11) → n = nI n8 → (¬ ((I 122) n2) = 0) → (¬ ((I 122) n4) = 0) → (¬ ((I 122) n6) = 0) → ∀ m12 : Nat, ∀ kp13 : Nat, ∀ V14 : Nat → Int32, ∀ P15 : Nat → Int32, (kp13 ≤ 100) → ((m12, kp13, P15) = mGx (I 123) n2 n4 n6 n8 (2 * n8 + 1) (0, 0, I 148)) → Post (some (.int (nI m12))) HS (ma_up (ma_up (ma_up I 115 (ma_up (I 115) 45 (nI kp13))) 126 V14) 148 P15) L RF 146) (k8 : ∀ n2 : Nat, (n2 < 12) → q = nI n2 → ∀ n4 : Nat, (n4 < 12) → r = nI n4 → ∀ n6 : Nat, (n6 < 12) → s = nI n6 → (¬ ((¬ n < 0) ∧ (¬ 10 < n))) → Post (some (.int (-1))) HS I L RF 146) : CT g yX8_shared3 cX8_shared3 5 (some .int) rX8_shared3 [.ref 115, .int q, .int r, .int s, .int n] Post HS I L RF 146 := by
  refine ct_of (lv := [some (.ref 115), some (.int q), some (.int r), some (.int s), some (.int n)]) (by decide) (Nat.le_of_ble_eq_true rfl) rfl ?_
  refine ev_iload_n (pc' := 1) (i := 1) dX8_shared3_0 rfl rfl rfl ?_
  refine ev_callS (pc' := 4) (rm' := rX8_isGround) (av := [.int q]) (rest := []) co_X8_181 cs_X8_isGround dX8_shared3_1 rfl rfl rfl (Nat.le_of_ble_eq_true rfl) ⟨(Nat.le_of_ble_eq_true rfl), (Nat.le_of_ble_eq_true rfl)⟩ ⟨(Nat.le_of_ble_eq_true rfl), (Nat.le_of_ble_eq_true rfl)⟩ ?_
  refine t_X8_isGround q  ?_
  refine ev_if_eq_b (tgt := 32) (pc' := 7) dX8_shared3_4 rfl rfl (fun c1 => ?_) (fun c1 => ?_)
  · refine ev_iconst (pc' := 33) (v := (-1)) dX8_shared3_32 rfl ki_m1 ?_
    refine ev_iret dX8_shared3_33 rfl rfl ⟨Nat.le_refl _, Nat.le_refl _⟩ ?_
    exact k1 c1
  · obtain ⟨n2, hn2, en2⟩ := in_of (n := 11) (by omega) rfl c1
    subst en2
    refine ev_iload_n (pc' := 8) (i := 2) dX8_shared3_7 rfl rfl rfl ?_
    refine ev_callS (pc' := 11) (rm' := rX8_isGround) (av := [.int r]) (rest := []) co_X8_181 cs_X8_isGround dX8_shared3_8 rfl rfl rfl (Nat.le_of_ble_eq_true rfl) ⟨(Nat.le_of_ble_eq_true rfl), (Nat.le_of_ble_eq_true rfl)⟩ ⟨(Nat.le_of_ble_eq_true rfl), (Nat.le_of_ble_eq_true rfl)⟩ ?_
    refine t_X8_isGround r  ?_
    refine ev_if_eq_b (tgt := 32) (pc' := 14) dX8_shared3_11 rfl rfl (fun c3 => ?_) (fun c3 => ?_)
    · refine ev_iconst (pc' := 33) (v := (-1)) dX8_shared3_32 rfl ki_m1 ?_
      refine ev_iret dX8_shared3_33 rfl rfl ⟨Nat.le_refl _, Nat.le_refl _⟩ ?_
      exact k2 n2 hn2 rfl c3
    · obtain ⟨n4, hn4, en4⟩ := in_of (n := 11) (by omega) rfl c3
      subst en4
      refine ev_iload_n (pc' := 15) (i := 3) dX8_shared3_14 rfl rfl rfl ?_
      refine ev_callS (pc' := 18) (rm' := rX8_isGround) (av := [.int s]) (rest := []) co_X8_181 cs_X8_isGround dX8_shared3_15 rfl rfl rfl (Nat.le_of_ble_eq_true rfl) ⟨(Nat.le_of_ble_eq_true rfl), (Nat.le_of_ble_eq_true rfl)⟩ ⟨(Nat.le_of_ble_eq_true rfl), (Nat.le_of_ble_eq_true rfl)⟩ ?_
      refine t_X8_isGround s  ?_
      refine ev_if_eq_b (tgt := 32) (pc' := 21) dX8_shared3_18 rfl rfl (fun c5 => ?_) (fun c5 => ?_)
      · refine ev_iconst (pc' := 33) (v := (-1)) dX8_shared3_32 rfl ki_m1 ?_
        refine ev_iret dX8_shared3_33 rfl rfl ⟨Nat.le_refl _, Nat.le_refl _⟩ ?_
        exact k3 n2 hn2 rfl n4 hn4 rfl c5
      · obtain ⟨n6, hn6, en6⟩ := in_of (n := 11) (by omega) rfl c5
        subst en6
        refine ev_iload (pc' := 23) dX8_shared3_21 rfl rfl ?_
        refine ev_iconst (pc' := 24) (v := 0) dX8_shared3_23 rfl ki_0 ?_
        refine ev_bipush (pc' := 26) (v := 10) dX8_shared3_24 rfl kb_10 ?_
        refine ev_callS (pc' := 29) (rm' := rX8_in) (av := [.int n, .int 0, .int 10]) (rest := []) co_X8_133 cs_X8_in dX8_shared3_26 rfl rfl rfl (Nat.le_of_ble_eq_true rfl) ⟨(Nat.le_of_ble_eq_true rfl), (Nat.le_of_ble_eq_true rfl)⟩ ⟨(Nat.le_of_ble_eq_true rfl), (Nat.le_of_ble_eq_true rfl)⟩ ?_
        refine t_X8_in n 0 10  ?_
        refine ev_if_ne_b (tgt := 34) (pc' := 32) dX8_shared3_29 rfl rfl (fun c7 => ?_) (fun c7 => ?_)
        · obtain ⟨n8, hn8, en8⟩ := in_of (n := 10) (by omega) rfl c7
          subst en8
          refine ev_aload_n (pc' := 35) (i := 0) dX8_shared3_34 rfl rfl rfl ?_
          refine ev_getR (pc' := 38) fo_X8_33 dX8_shared3_35 rfl hs_115 rfl rf_115_12 ?_
          refine ev_iload_n (pc' := 39) (i := 1) dX8_shared3_38 rfl rfl rfl ?_
          refine ev_zald (pc' := 40) (j := n2) (v := (I 122) n2) dX8_shared3_39 rfl hs_122 rfl (by omega) (Nat.le_of_ble_eq_true rfl) rfl ?_
          refine ev_if_eq (tgt := 73) (pc' := 43) dX8_shared3_40 rfl rfl (fun c9 => ?_) (fun c9 => ?_)
          · refine ev_aload_n (pc' := 74) (i := 0) dX8_shared3_73 rfl rfl rfl ?_
            refine ev_iconst (pc' := 75) (v := 1) dX8_shared3_74 rfl ki_1 ?_
            refine ev_callV (pc' := 78) (rm' := rX8_meets) (b := 115) (av := [.int 1]) (rest := []) co_X8_141 ci_X8_meets cv_X8_meets dX8_shared3_75 rfl hs_115 hb_X8 rfl rfl (Nat.le_of_ble_eq_true rfl) ⟨(Nat.le_of_ble_eq_true rfl), (Nat.le_of_ble_eq_true rfl)⟩ ⟨(Nat.le_of_ble_eq_true rfl), (Nat.le_of_ble_eq_true rfl)⟩ ?_
            refine t_X8_meets 1 (by omega) ?_
            refine ev_mMt 1 ?_
            refine ev_iret dX8_shared3_78 rfl rfl ⟨Nat.le_refl _, Nat.le_refl _⟩ ?_
            exact k4 n2 hn2 rfl n4 hn4 rfl n6 hn6 rfl n8 hn8 rfl c9
          · refine ev_aload_n (pc' := 44) (i := 0) dX8_shared3_43 rfl rfl rfl ?_
            refine ev_getR (pc' := 47) fo_X8_33 dX8_shared3_44 rfl hs_115 rfl rf_115_12 ?_
            refine ev_iload_n (pc' := 48) (i := 2) dX8_shared3_47 rfl rfl rfl ?_
            refine ev_zald (pc' := 49) (j := n4) (v := (I 122) n4) dX8_shared3_48 rfl hs_122 rfl (by omega) (Nat.le_of_ble_eq_true rfl) rfl ?_
            refine ev_if_eq (tgt := 73) (pc' := 52) dX8_shared3_49 rfl rfl (fun c10 => ?_) (fun c10 => ?_)
            · refine ev_aload_n (pc' := 74) (i := 0) dX8_shared3_73 rfl rfl rfl ?_
              refine ev_iconst (pc' := 75) (v := 1) dX8_shared3_74 rfl ki_1 ?_
              refine ev_callV (pc' := 78) (rm' := rX8_meets) (b := 115) (av := [.int 1]) (rest := []) co_X8_141 ci_X8_meets cv_X8_meets dX8_shared3_75 rfl hs_115 hb_X8 rfl rfl (Nat.le_of_ble_eq_true rfl) ⟨(Nat.le_of_ble_eq_true rfl), (Nat.le_of_ble_eq_true rfl)⟩ ⟨(Nat.le_of_ble_eq_true rfl), (Nat.le_of_ble_eq_true rfl)⟩ ?_
              refine t_X8_meets 1 (by omega) ?_
              refine ev_mMt 1 ?_
              refine ev_iret dX8_shared3_78 rfl rfl ⟨Nat.le_refl _, Nat.le_refl _⟩ ?_
              exact k5 n2 hn2 rfl n4 hn4 rfl n6 hn6 rfl n8 hn8 rfl c9 c10
            · refine ev_aload_n (pc' := 53) (i := 0) dX8_shared3_52 rfl rfl rfl ?_
              refine ev_getR (pc' := 56) fo_X8_33 dX8_shared3_53 rfl hs_115 rfl rf_115_12 ?_
              refine ev_iload_n (pc' := 57) (i := 3) dX8_shared3_56 rfl rfl rfl ?_
              refine ev_zald (pc' := 58) (j := n6) (v := (I 122) n6) dX8_shared3_57 rfl hs_122 rfl (by omega) (Nat.le_of_ble_eq_true rfl) rfl ?_
              refine ev_if_eq (tgt := 73) (pc' := 61) dX8_shared3_58 rfl rfl (fun c11 => ?_) (fun c11 => ?_)
              · refine ev_aload_n (pc' := 74) (i := 0) dX8_shared3_73 rfl rfl rfl ?_
                refine ev_iconst (pc' := 75) (v := 1) dX8_shared3_74 rfl ki_1 ?_
                refine ev_callV (pc' := 78) (rm' := rX8_meets) (b := 115) (av := [.int 1]) (rest := []) co_X8_141 ci_X8_meets cv_X8_meets dX8_shared3_75 rfl hs_115 hb_X8 rfl rfl (Nat.le_of_ble_eq_true rfl) ⟨(Nat.le_of_ble_eq_true rfl), (Nat.le_of_ble_eq_true rfl)⟩ ⟨(Nat.le_of_ble_eq_true rfl), (Nat.le_of_ble_eq_true rfl)⟩ ?_
                refine t_X8_meets 1 (by omega) ?_
                refine ev_mMt 1 ?_
                refine ev_iret dX8_shared3_78 rfl rfl ⟨Nat.le_refl _, Nat.le_refl _⟩ ?_
                exact k6 n2 hn2 rfl n4 hn4 rfl n6 hn6 rfl n8 hn8 rfl c9 c10 c11
              · refine ev_aload_n (pc' := 62) (i := 0) dX8_shared3_61 rfl rfl rfl ?_
                refine ev_iload_n (pc' := 63) (i := 1) dX8_shared3_62 rfl rfl rfl ?_
                refine ev_iload_n (pc' := 64) (i := 2) dX8_shared3_63 rfl rfl rfl ?_
                refine ev_iload_n (pc' := 65) (i := 3) dX8_shared3_64 rfl rfl rfl ?_
                refine ev_iload (pc' := 67) dX8_shared3_65 rfl rfl ?_
                refine ev_callV (pc' := 70) (rm' := rX8_goThrough) (b := 115) (av := [.int (nI n2), .int (nI n4), .int (nI n6), .int (nI n8)]) (rest := []) co_X8_379 ci_X8_goThrough cv_X8_goThrough dX8_shared3_67 rfl hs_115 hb_X8 rfl rfl (Nat.le_of_ble_eq_true rfl) ⟨(Nat.le_of_ble_eq_true rfl), (Nat.le_of_ble_eq_true rfl)⟩ ⟨(Nat.le_of_ble_eq_true rfl), (Nat.le_of_ble_eq_true rfl)⟩ ?_
                refine t_X8_goThrough n2 n4 n6 n8 (by omega) (by omega) (by omega) (by omega) (fun m12 kp13 V14 P15 h16 h17 => ?_)
                refine ev_goto (tgt := 78) dX8_shared3_70 rfl ?_
                refine ev_iret dX8_shared3_78 rfl rfl ⟨Nat.le_refl _, Nat.le_refl _⟩ ?_
                exact k7 n2 hn2 rfl n4 hn4 rfl n6 hn6 rfl n8 hn8 rfl c9 c10 c11 m12 kp13 V14 P15 h16 h17
        · refine ev_iconst (pc' := 33) (v := (-1)) dX8_shared3_32 rfl ki_m1 ?_
          refine ev_iret dX8_shared3_33 rfl rfl ⟨Nat.le_refl _, Nat.le_refl _⟩ ?_
          exact k8 n2 hn2 rfl n4 hn4 rfl n6 hn6 rfl c7
