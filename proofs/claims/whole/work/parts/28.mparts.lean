theorem nI_sub1 {n : Nat} (h : 0 < n) : nI n - 1 = nI (n - 1) := by
  obtain ⟨k, rfl⟩ : ∃ k, n = k + 1 := ⟨n - 1, by omega⟩
  have h1 := pk_m1 k
  have h2 : nI (k + 1) - 1 = nI (k + 1) + (-1) := by rw [Int32.sub_eq_add_neg]
  rw [h2, h1]; rfl
/-- what parts() works on: degree, count of roots, the row left, and the rows of the roots -/
abbrev mP : Type := Nat × Nat × (Nat → Int64) × (Nat → Int64) × (Nat → Int64) × (Nat → Int32)
abbrev mP.m (s : mP) : Nat := s.1
abbrev mP.r (s : mP) : Nat := s.2.1
abbrev mP.f (s : mP) : Nat → Int64 := s.2.2.1
abbrev mP.u (s : mP) : Nat → Int64 := s.2.2.2.1
abbrev mP.w (s : mP) : Nat → Int64 := s.2.2.2.2.1
abbrev mP.t (s : mP) : Nat → Int32 := s.2.2.2.2.2
def mTake (u w : Int64) (s : mP) : mP :=
  ⟨(mTk u w s.m s.f).1, s.r + 1, (mTk u w s.m s.f).2, ma_up s.u s.r u, ma_up s.w s.r w, ma_up s.t s.r (nI (s.m - (mTk u w s.m s.f).1))⟩
def mTry (u w : Int64) (s : mP) : mP :=
  if 1 < s.m ∧ mAt s.m s.f u w = 0 ∧ mSp s.m s.f u w = 0 then mTake u w s else s
theorem mTry_y {x z : Int64} {m r : Nat} {f u w : Nat → Int64} {t : Nat → Int32} (h : 1 < m ∧ mAt m f x z = 0 ∧ mSp m f x z = 0) : mTry x z ⟨m, r, f, u, w, t⟩ = mTake x z ⟨m, r, f, u, w, t⟩ := if_pos h
theorem mTry_n {x z : Int64} {m r : Nat} {f u w : Nat → Int64} {t : Nat → Int32} (h : ¬ (1 < m ∧ mAt m f x z = 0 ∧ mSp m f x z = 0)) : mTry x z ⟨m, r, f, u, w, t⟩ = ⟨m, r, f, u, w, t⟩ := if_neg h
theorem mTake_e {x z : Int64} {m r m1 : Nat} {f u w f1 : Nat → Int64} {t : Nat → Int32} (h : (m1, f1) = mTk x z m f) : mTake x z ⟨m, r, f, u, w, t⟩ = ⟨m1, r + 1, f1, ma_up u r x, ma_up w r z, ma_up t r (nI (m - m1))⟩ := by
  show (⟨(mTk x z m f).1, r + 1, (mTk x z m f).2, ma_up u r x, ma_up w r z, ma_up t r (nI (m - (mTk x z m f).1))⟩ : mP) = _
  rw [← h]
theorem mTk_le (u w : Int64) : ∀ (m : Nat) (f : Nat → Int64), (mTk u w m f).1 ≤ m
  | 0, f => by simp [mTk]
  | m + 1, f => by
    by_cases h : mAt (m + 1) f u w = 0
    · rw [mTk_y h]; have := mTk_le u w m (fun j => if j < m + 1 then mDq f u w j else f j); omega
    · rw [mTk_n h]; exact Nat.le_refl _
theorem mTk_lt {u w : Int64} {m : Nat} {f : Nat → Int64} (h0 : 0 < m) (h : mAt m f u w = 0) : (mTk u w m f).1 < m := by
  obtain ⟨k, rfl⟩ : ∃ k, m = k + 1 := ⟨m - 1, by omega⟩
  rw [mTk_y h]
  have := mTk_le u w k (fun j => if j < k + 1 then mDq f u w j else f j)
  omega
theorem mTry_in {u w : Int64} {s : mP} (h : s.m + s.r ≤ 4) : (mTry u w s).m + (mTry u w s).r ≤ 4 := by
  unfold mTry
  by_cases c : 1 < s.m ∧ mAt s.m s.f u w = 0 ∧ mSp s.m s.f u w = 0
  · rw [if_pos c]
    have := mTk_lt (by omega) c.2.1
    show (mTk u w s.m s.f).1 + (s.r + 1) ≤ 4
    omega
  · rw [if_neg c]; exact h
theorem nf_I (I : ma_I) (t t2 : Nat → Int32) (m r m2 r2 : Int32) : ma_up (ma_up (ma_up (ma_up I 141 t) 115 (ma_up (ma_up (I 115) 36 m) 31 r)) 141 t2) 115 (ma_up (ma_up (ma_up (ma_up (I 115) 36 m) 31 r) 36 m2) 31 r2) = ma_up (ma_up I 141 t2) 115 (ma_up (ma_up (I 115) 36 m2) 31 r2) := by
  rw [ma_up_comm (ma_up I 141 t) (show 141 ≠ 115 by decide), ma_up_up, ma_up_up]
  rw [ma_up_comm (ma_up (I 115) 36 m) (show 36 ≠ 31 by decide), ma_up_up, ma_up_up]
theorem nf_L (L : ma_L) (f u w f2 u2 w2 : Nat → Int64) : ma_up (ma_up (ma_up (ma_up (ma_up (ma_up L 142 f) 139 u) 140 w) 142 f2) 139 u2) 140 w2 = ma_up (ma_up (ma_up L 142 f2) 139 u2) 140 w2 := by
  rw [ma_up_comm _ (show 142 ≠ 140 by decide), ma_up_comm _ (show 142 ≠ 139 by decide), ma_up_up]
  rw [ma_up_comm _ (show 139 ≠ 140 by decide), ma_up_up, ma_up_up]
theorem n_X8_takeRoot {g : ma_G} {Post : ma_P} {I : ma_I} {L : ma_L} (x z : Int64) (m r : Nat) (f u w : Nat → Int64) (t : Nat → Int32) (hm : m < 5) (hr : r < 4) (hz : ¬ z = 0) (k : ∀ (m' r' : Nat) (f' u' w' : Nat → Int64) (t' : Nat → Int32), (⟨m', r', f', u', w', t'⟩ : mP) = mTake x z ⟨m, r, f, u, w, t⟩ → Post none HS (ma_up (ma_up I 141 t') 115 (ma_up (ma_up (I 115) 36 (nI m')) 31 (nI r'))) (ma_up (ma_up (ma_up L 142 f') 139 u') 140 w') RF 146) : CT g yX8_takeRoot cX8_takeRoot 6 none rX8_takeRoot [.ref 115, .long x, .long z] Post HS (ma_up (ma_up I 141 t) 115 (ma_up (ma_up (I 115) 36 (nI m)) 31 (nI r))) (ma_up (ma_up (ma_up L 142 f) 139 u) 140 w) RF 146 := by
  refine t_X8_takeRoot x z m r hm hr rfl rfl hz (fun m1 f1 h1 h2 => ?_)
  have q := k m1 (r + 1) f1 (ma_up u r x) (ma_up w r z) (ma_up t r (nI (m - m1))) (mTake_e h2).symm
  rw [← nf_I I t _ (nI m) (nI r), ← nf_L L f u w] at q
  exact q
theorem n_X8_tryRoot {g : ma_G} {Post : ma_P} {I : ma_I} {L : ma_L} (x z : Int64) (m r : Nat) (f u w : Nat → Int64) (t : Nat → Int32) (hm : m < 5) (hr : 1 < m → r < 4) (hz : ¬ z = 0) (k : ∀ (m' r' : Nat) (f' u' w' : Nat → Int64) (t' : Nat → Int32), (⟨m', r', f', u', w', t'⟩ : mP) = mTry x z ⟨m, r, f, u, w, t⟩ → Post none HS (ma_up (ma_up I 141 t') 115 (ma_up (ma_up (I 115) 36 (nI m')) 31 (nI r'))) (ma_up (ma_up (ma_up L 142 f') 139 u') 140 w') RF 146) : CT g yX8_tryRoot cX8_tryRoot 5 none rX8_tryRoot [.ref 115, .long x, .long z] Post HS (ma_up (ma_up I 141 t) 115 (ma_up (ma_up (I 115) 36 (nI m)) 31 (nI r))) (ma_up (ma_up (ma_up L 142 f) 139 u) 140 w) RF 146 := by
  refine t_X8_tryRoot x z m r hm hr rfl rfl hz (fun c m1 f1 h1 h2 => ?_) (fun c => ?_)
  · have q := k m1 (r + 1) f1 (ma_up u r x) (ma_up w r z) (ma_up t r (nI (m - m1))) ((mTry_y c).trans (mTake_e h2)).symm
    rw [← nf_I I t _ (nI m) (nI r), ← nf_L L f u w] at q
    exact q
  · exact k m r f u w t (mTry_n c).symm
def mSw (i j : Nat) (s : mP) : mP :=
  if s.u i * s.w j < s.u j * s.w i then ⟨s.m, s.r, s.f, ma_up (ma_up s.u i (s.u j)) j (s.u i), ma_up (ma_up s.w i (s.w j)) j (s.w i), ma_up (ma_up s.t i (s.t j)) j (s.t i)⟩ else s
def mSoI (i : Nat) : Nat → mP → mP
  | 0, s => s
  | j + 1, s => mSw i j (mSoI i j s)
def mSo : Nat → mP → mP
  | 0, s => s
  | i + 1, s => mSoI i i (mSo i s)
theorem mSw_y {i j : Nat} {m r : Nat} {f u w : Nat → Int64} {t : Nat → Int32} (h : u i * w j < u j * w i) : mSw i j ⟨m, r, f, u, w, t⟩ = ⟨m, r, f, ma_up (ma_up u i (u j)) j (u i), ma_up (ma_up w i (w j)) j (w i), ma_up (ma_up t i (t j)) j (t i)⟩ := if_pos h
theorem mSw_n {i j : Nat} {m r : Nat} {f u w : Nat → Int64} {t : Nat → Int32} (h : ¬ u i * w j < u j * w i) : mSw i j ⟨m, r, f, u, w, t⟩ = ⟨m, r, f, u, w, t⟩ := if_neg h
set_option maxRecDepth 4000 in
theorem t_X8_sortRoots {g : ma_G} {Post : ma_P} {I : ma_I} {L : ma_L}  (m r : Nat) (f u w : Nat → Int64) (t : Nat → Int32) (hr : r < 5) (k : ∀ (m' r' : Nat) (f' u' w' : Nat → Int64) (t' : Nat → Int32), (⟨m', r', f', u', w', t'⟩ : mP) = mSo r ⟨m, r, f, u, w, t⟩ → Post none HS (ma_up (ma_up I 141 t') 115 (ma_up (ma_up (I 115) 36 (nI m')) 31 (nI r'))) (ma_up (ma_up (ma_up L 142 f') 139 u') 140 w') RF 146) : CT g yX8_sortRoots cX8_sortRoots 8 none rX8_sortRoots [.ref 115] Post HS (ma_up (ma_up I 141 t) 115 (ma_up (ma_up (I 115) 36 (nI m)) 31 (nI r))) (ma_up (ma_up (ma_up L 142 f) 139 u) 140 w) RF 146 := by
  refine ct_of (lv := [some (.ref 115), none, none, none, none, none, none, none]) (by decide) (Nat.le_of_ble_eq_true rfl) rfl ?_
  refine ev_iconst (pc' := 1) (v := 0) dX8_sortRoots_0 rfl ki_0 ?_
  refine ev_istore_n (pc' := 2) (i := 1) (lv' := [some (.ref 115), some (.int 0), none, none, none, none, none, none]) dX8_sortRoots_1 rfl rfl (Nat.le_of_ble_eq_true rfl) rfl rfl ?_
  suffices lp : ∀ (d i : Nat) (u' w' : Nat → Int64) (t' : Nat → Int32), i + d = r → (⟨m, r, f, u', w', t'⟩ : mP) = mSo i ⟨m, r, f, u, w, t⟩ → EV g yX8_sortRoots cX8_sortRoots 8 none rX8_sortRoots (ma_ZM g rX8_sortRoots Post) 2 [some (.ref 115), some (.int (nI i)), none, none, none, none, none, none] [] HS (ma_up (ma_up I 141 t') 115 (ma_up (ma_up (I 115) 36 (nI m)) 31 (nI r))) (ma_up (ma_up (ma_up L 142 f) 139 u') 140 w') RF 146 0 0 from lp r 0 u w t (by omega) rfl
  intro d
  induction d with
  | zero =>
    intro i u' w' t' hi hs
    refine ev_iload_n (pc' := 3) (i := 1) dX8_sortRoots_2 rfl rfl rfl ?_
    refine ev_aload_n (pc' := 4) (i := 0) dX8_sortRoots_3 rfl rfl rfl ?_
    refine ev_getI (pc' := 7) (v := nI r) fo_X8_277 dX8_sortRoots_4 rfl hs_115 rfl rfl ?_
    refine ev_icmp_ge (tgt := 141) (pc' := 10) dX8_sortRoots_7 rfl rfl (fun _ => ?_) (fun h => absurd (nx_le (a := r) (b := i) (by omega) (by omega)) h)
    refine ev_vret dX8_sortRoots_141 rfl ⟨Nat.le_refl _, Nat.le_refl _⟩ ?_
    obtain rfl : r = i := by omega
    exact k _ _ _ _ _ _ hs
  | succ d ih =>
    intro i u' w' t' hi hs
    refine ev_iload_n (pc' := 3) (i := 1) dX8_sortRoots_2 rfl rfl rfl ?_
    refine ev_aload_n (pc' := 4) (i := 0) dX8_sortRoots_3 rfl rfl rfl ?_
    refine ev_getI (pc' := 7) (v := nI r) fo_X8_277 dX8_sortRoots_4 rfl hs_115 rfl rfl ?_
    refine ev_icmp_ge (tgt := 141) (pc' := 10) dX8_sortRoots_7 rfl rfl (fun h => absurd h (nx_nle (a := r) (b := i) (by omega) (by omega))) (fun _ => ?_)
    refine ev_iconst (pc' := 11) (v := 0) dX8_sortRoots_10 rfl ki_0 ?_
    refine ev_istore_n (pc' := 12) (i := 2) (lv' := [some (.ref 115), some (.int (nI i)), some (.int 0), none, none, none, none, none]) dX8_sortRoots_11 rfl rfl (Nat.le_of_ble_eq_true rfl) rfl rfl ?_
    suffices lp2 : ∀ (e j : Nat) (u2 w2 : Nat → Int64) (t2 : Nat → Int32), j + e = i → (⟨m, r, f, u2, w2, t2⟩ : mP) = mSoI i j ⟨m, r, f, u', w', t'⟩ → EV g yX8_sortRoots cX8_sortRoots 8 none rX8_sortRoots (ma_ZM g rX8_sortRoots Post) 12 [some (.ref 115), some (.int (nI i)), some (.int (nI j)), none, none, none, none, none] [] HS (ma_up (ma_up I 141 t2) 115 (ma_up (ma_up (I 115) 36 (nI m)) 31 (nI r))) (ma_up (ma_up (ma_up L 142 f) 139 u2) 140 w2) RF 146 0 0 from lp2 i 0 u' w' t' (by omega) rfl
    intro e
    induction e with
    | zero =>
      intro j u2 w2 t2 hj hs2
      obtain rfl : i = j := by omega
      refine ev_iload_n (pc' := 13) (i := 2) dX8_sortRoots_12 rfl rfl rfl ?_
      refine ev_iload_n (pc' := 14) (i := 1) dX8_sortRoots_13 rfl rfl rfl ?_
      refine ev_icmp_ge (tgt := 135) (pc' := 17) dX8_sortRoots_14 rfl rfl (fun _ => ?_) (fun h => absurd (nx_le (a := i) (b := i) (by omega) (by omega)) h)
      refine ev_iinc (pc' := 138) (v := nI (i + 1)) (lv' := [some (.ref 115), some (.int (nI (i + 1))), some (.int (nI i)), none, none, none, none, none]) dX8_sortRoots_135 rfl rfl (nI_add i 1) (Nat.le_of_ble_eq_true rfl) rfl rfl ?_
      refine ev_goto (tgt := 2) dX8_sortRoots_138 rfl ?_
      refine ev_lvw (lv' := [some (.ref 115), some (.int (nI (i + 1))), none, none, none, none, none, none]) ⟨rfl, ⟨rfl, trivial⟩⟩ ?_
      exact ih (i + 1) _ _ _ (by omega) (by rw [hs2, hs]; rfl)
    | succ e ih2 =>
      intro j u2 w2 t2 hj hs2
      refine ev_iload_n (pc' := 13) (i := 2) dX8_sortRoots_12 rfl rfl rfl ?_
      refine ev_iload_n (pc' := 14) (i := 1) dX8_sortRoots_13 rfl rfl rfl ?_
      refine ev_icmp_ge (tgt := 135) (pc' := 17) dX8_sortRoots_14 rfl rfl (fun h => absurd h (nx_nle (a := i) (b := j) (by omega) (by omega))) (fun _ => ?_)
      refine ev_aload_n (pc' := 18) (i := 0) dX8_sortRoots_17 rfl rfl rfl ?_
      refine ev_getR (pc' := 21) fo_X8_85 dX8_sortRoots_18 rfl hs_115 rfl rf_115_32 ?_
      refine ev_iload_n (pc' := 22) (i := 1) dX8_sortRoots_21 rfl rfl rfl ?_
      refine ev_lald (pc' := 23) (j := i) (v := u2 i) dX8_sortRoots_22 rfl hs_139 rfl (by omega) (Nat.le_of_ble_eq_true rfl) rfl ?_
      refine ev_aload_n (pc' := 24) (i := 0) dX8_sortRoots_23 rfl rfl rfl ?_
      refine ev_getR (pc' := 27) fo_X8_88 dX8_sortRoots_24 rfl hs_115 rfl rf_115_33 ?_
      refine ev_iload_n (pc' := 28) (i := 2) dX8_sortRoots_27 rfl rfl rfl ?_
      refine ev_lald (pc' := 29) (j := j) (v := w2 j) dX8_sortRoots_28 rfl hs_140 rfl (by omega) (Nat.le_of_ble_eq_true rfl) rfl ?_
      refine ev_lmul (pc' := 30) (v := (u2 i) * (w2 j)) dX8_sortRoots_29 rfl rfl ?_
      refine ev_aload_n (pc' := 31) (i := 0) dX8_sortRoots_30 rfl rfl rfl ?_
      refine ev_getR (pc' := 34) fo_X8_85 dX8_sortRoots_31 rfl hs_115 rfl rf_115_32 ?_
      refine ev_iload_n (pc' := 35) (i := 2) dX8_sortRoots_34 rfl rfl rfl ?_
      refine ev_lald (pc' := 36) (j := j) (v := u2 j) dX8_sortRoots_35 rfl hs_139 rfl (by omega) (Nat.le_of_ble_eq_true rfl) rfl ?_
      refine ev_aload_n (pc' := 37) (i := 0) dX8_sortRoots_36 rfl rfl rfl ?_
      refine ev_getR (pc' := 40) fo_X8_88 dX8_sortRoots_37 rfl hs_115 rfl rf_115_33 ?_
      refine ev_iload_n (pc' := 41) (i := 1) dX8_sortRoots_40 rfl rfl rfl ?_
      refine ev_lald (pc' := 42) (j := i) (v := w2 i) dX8_sortRoots_41 rfl hs_140 rfl (by omega) (Nat.le_of_ble_eq_true rfl) rfl ?_
      refine ev_lmul (pc' := 43) (v := (u2 j) * (w2 i)) dX8_sortRoots_42 rfl rfl ?_
      refine ev_lc_ge (p1 := 44) (tgt := 129) (pc' := 47) dX8_sortRoots_43 rfl dX8_sortRoots_44 rfl rfl (fun c1 => ?_) (fun c1 => ?_)
      · refine ev_iinc (pc' := 132) (v := nI (j + 1)) (lv' := [some (.ref 115), some (.int (nI i)), some (.int (nI (j + 1))), none, none, none, none, none]) dX8_sortRoots_129 rfl rfl (nI_add j 1) (Nat.le_of_ble_eq_true rfl) rfl rfl ?_
        refine ev_goto (tgt := 12) dX8_sortRoots_132 rfl ?_
        exact ih2 (j + 1) _ _ _ (by omega) (by show _ = mSw i j _; rw [← hs2]; exact (mSw_n (Int64.not_lt.mpr c1)).symm)
      · refine ev_aload_n (pc' := 48) (i := 0) dX8_sortRoots_47 rfl rfl rfl ?_
        refine ev_getR (pc' := 51) fo_X8_85 dX8_sortRoots_48 rfl hs_115 rfl rf_115_32 ?_
        refine ev_iload_n (pc' := 52) (i := 1) dX8_sortRoots_51 rfl rfl rfl ?_
        refine ev_lald (pc' := 53) (j := i) (v := u2 i) dX8_sortRoots_52 rfl hs_139 rfl (by omega) (Nat.le_of_ble_eq_true rfl) rfl ?_
        refine ev_lstore_n (pc' := 54) (i := 3) (lv' := [some (.ref 115), some (.int (nI i)), some (.int (nI j)), some (.long (u2 i)), none, none, none, none]) dX8_sortRoots_53 rfl rfl (Nat.le_of_ble_eq_true rfl) rfl rfl ?_
        refine ev_aload_n (pc' := 55) (i := 0) dX8_sortRoots_54 rfl rfl rfl ?_
        refine ev_getR (pc' := 58) fo_X8_88 dX8_sortRoots_55 rfl hs_115 rfl rf_115_33 ?_
        refine ev_iload_n (pc' := 59) (i := 1) dX8_sortRoots_58 rfl rfl rfl ?_
        refine ev_lald (pc' := 60) (j := i) (v := w2 i) dX8_sortRoots_59 rfl hs_140 rfl (by omega) (Nat.le_of_ble_eq_true rfl) rfl ?_
        refine ev_lstore (pc' := 62) (lv' := [some (.ref 115), some (.int (nI i)), some (.int (nI j)), some (.long (u2 i)), none, some (.long (w2 i)), none, none]) dX8_sortRoots_60 rfl (Nat.le_of_ble_eq_true rfl) rfl rfl ?_
        refine ev_aload_n (pc' := 63) (i := 0) dX8_sortRoots_62 rfl rfl rfl ?_
        refine ev_getR (pc' := 66) fo_X8_91 dX8_sortRoots_63 rfl hs_115 rfl rf_115_34 ?_
        refine ev_iload_n (pc' := 67) (i := 1) dX8_sortRoots_66 rfl rfl rfl ?_
        refine ev_iald (pc' := 68) (j := i) (v := t2 i) dX8_sortRoots_67 rfl hs_141 rfl (by omega) (Nat.le_of_ble_eq_true rfl) rfl ?_
        refine ev_istore (pc' := 70) (lv' := [some (.ref 115), some (.int (nI i)), some (.int (nI j)), some (.long (u2 i)), none, some (.long (w2 i)), none, some (.int (t2 i))]) dX8_sortRoots_68 rfl (Nat.le_of_ble_eq_true rfl) rfl rfl ?_
        refine ev_aload_n (pc' := 71) (i := 0) dX8_sortRoots_70 rfl rfl rfl ?_
        refine ev_getR (pc' := 74) fo_X8_85 dX8_sortRoots_71 rfl hs_115 rfl rf_115_32 ?_
        refine ev_iload_n (pc' := 75) (i := 1) dX8_sortRoots_74 rfl rfl rfl ?_
        refine ev_aload_n (pc' := 76) (i := 0) dX8_sortRoots_75 rfl rfl rfl ?_
        refine ev_getR (pc' := 79) fo_X8_85 dX8_sortRoots_76 rfl hs_115 rfl rf_115_32 ?_
        refine ev_iload_n (pc' := 80) (i := 2) dX8_sortRoots_79 rfl rfl rfl ?_
        refine ev_lald (pc' := 81) (j := j) (v := u2 j) dX8_sortRoots_80 rfl hs_139 rfl (by omega) (Nat.le_of_ble_eq_true rfl) rfl ?_
        refine ev_last (pc' := 82) (j := i) (L' := (ma_up (ma_up (ma_up L 142 f) 139 (ma_up u2 i (u2 j))) 140 w2)) dX8_sortRoots_81 rfl hs_139 rfl (by omega) (Nat.le_of_ble_eq_true rfl) ((ma_up_comm _ (show 139 ≠ 140 from (by decide)) _ _).trans (congrArg (fun f => ma_up f 140 _) (ma_up_up _ _ _ _))) ?_
        refine ev_aload_n (pc' := 83) (i := 0) dX8_sortRoots_82 rfl rfl rfl ?_
        refine ev_getR (pc' := 86) fo_X8_88 dX8_sortRoots_83 rfl hs_115 rfl rf_115_33 ?_
        refine ev_iload_n (pc' := 87) (i := 1) dX8_sortRoots_86 rfl rfl rfl ?_
        refine ev_aload_n (pc' := 88) (i := 0) dX8_sortRoots_87 rfl rfl rfl ?_
        refine ev_getR (pc' := 91) fo_X8_88 dX8_sortRoots_88 rfl hs_115 rfl rf_115_33 ?_
        refine ev_iload_n (pc' := 92) (i := 2) dX8_sortRoots_91 rfl rfl rfl ?_
        refine ev_lald (pc' := 93) (j := j) (v := w2 j) dX8_sortRoots_92 rfl hs_140 rfl (by omega) (Nat.le_of_ble_eq_true rfl) rfl ?_
        refine ev_last (pc' := 94) (j := i) (L' := (ma_up (ma_up (ma_up L 142 f) 139 (ma_up u2 i (u2 j))) 140 (ma_up w2 i (w2 j)))) dX8_sortRoots_93 rfl hs_140 rfl (by omega) (Nat.le_of_ble_eq_true rfl) (ma_up_up _ _ _ _) ?_
        refine ev_aload_n (pc' := 95) (i := 0) dX8_sortRoots_94 rfl rfl rfl ?_
        refine ev_getR (pc' := 98) fo_X8_91 dX8_sortRoots_95 rfl hs_115 rfl rf_115_34 ?_
        refine ev_iload_n (pc' := 99) (i := 1) dX8_sortRoots_98 rfl rfl rfl ?_
        refine ev_aload_n (pc' := 100) (i := 0) dX8_sortRoots_99 rfl rfl rfl ?_
        refine ev_getR (pc' := 103) fo_X8_91 dX8_sortRoots_100 rfl hs_115 rfl rf_115_34 ?_
        refine ev_iload_n (pc' := 104) (i := 2) dX8_sortRoots_103 rfl rfl rfl ?_
        refine ev_iald (pc' := 105) (j := j) (v := t2 j) dX8_sortRoots_104 rfl hs_141 rfl (by omega) (Nat.le_of_ble_eq_true rfl) rfl ?_
        refine ev_iast (pc' := 106) (j := i) (I' := (ma_up (ma_up I 141 (ma_up t2 i (t2 j))) 115 (ma_up (ma_up (I 115) 36 (nI m)) 31 (nI r)))) dX8_sortRoots_105 rfl hs_141 rfl (by omega) (Nat.le_of_ble_eq_true rfl) ((ma_up_comm _ (show 141 ≠ 115 from (by decide)) _ _).trans (congrArg (fun f => ma_up f 115 _) (ma_up_up _ _ _ _))) ?_
        refine ev_aload_n (pc' := 107) (i := 0) dX8_sortRoots_106 rfl rfl rfl ?_
        refine ev_getR (pc' := 110) fo_X8_85 dX8_sortRoots_107 rfl hs_115 rfl rf_115_32 ?_
        refine ev_iload_n (pc' := 111) (i := 2) dX8_sortRoots_110 rfl rfl rfl ?_
        refine ev_lload_n (pc' := 112) (i := 3) dX8_sortRoots_111 rfl rfl rfl ?_
        refine ev_last (pc' := 113) (j := j) (L' := (ma_up (ma_up (ma_up L 142 f) 139 (ma_up (ma_up u2 i (u2 j)) j (u2 i))) 140 (ma_up w2 i (w2 j)))) dX8_sortRoots_112 rfl hs_139 rfl (by omega) (Nat.le_of_ble_eq_true rfl) ((ma_up_comm _ (show 139 ≠ 140 from (by decide)) _ _).trans (congrArg (fun f => ma_up f 140 _) (ma_up_up _ _ _ _))) ?_
        refine ev_aload_n (pc' := 114) (i := 0) dX8_sortRoots_113 rfl rfl rfl ?_
        refine ev_getR (pc' := 117) fo_X8_88 dX8_sortRoots_114 rfl hs_115 rfl rf_115_33 ?_
        refine ev_iload_n (pc' := 118) (i := 2) dX8_sortRoots_117 rfl rfl rfl ?_
        refine ev_lload (pc' := 120) dX8_sortRoots_118 rfl rfl ?_
        refine ev_last (pc' := 121) (j := j) (L' := (ma_up (ma_up (ma_up L 142 f) 139 (ma_up (ma_up u2 i (u2 j)) j (u2 i))) 140 (ma_up (ma_up w2 i (w2 j)) j (w2 i)))) dX8_sortRoots_120 rfl hs_140 rfl (by omega) (Nat.le_of_ble_eq_true rfl) (ma_up_up _ _ _ _) ?_
        refine ev_aload_n (pc' := 122) (i := 0) dX8_sortRoots_121 rfl rfl rfl ?_
        refine ev_getR (pc' := 125) fo_X8_91 dX8_sortRoots_122 rfl hs_115 rfl rf_115_34 ?_
        refine ev_iload_n (pc' := 126) (i := 2) dX8_sortRoots_125 rfl rfl rfl ?_
        refine ev_iload (pc' := 128) dX8_sortRoots_126 rfl rfl ?_
        refine ev_iast (pc' := 129) (j := j) (I' := (ma_up (ma_up I 141 (ma_up (ma_up t2 i (t2 j)) j (t2 i))) 115 (ma_up (ma_up (I 115) 36 (nI m)) 31 (nI r)))) dX8_sortRoots_128 rfl hs_141 rfl (by omega) (Nat.le_of_ble_eq_true rfl) ((ma_up_comm _ (show 141 ≠ 115 from (by decide)) _ _).trans (congrArg (fun f => ma_up f 115 _) (ma_up_up _ _ _ _))) ?_
        refine ev_iinc (pc' := 132) (v := nI (j + 1)) (lv' := [some (.ref 115), some (.int (nI i)), some (.int (nI (j + 1))), some (.long (u2 i)), none, some (.long (w2 i)), none, some (.int (t2 i))]) dX8_sortRoots_129 rfl rfl (nI_add j 1) (Nat.le_of_ble_eq_true rfl) rfl rfl ?_
        refine ev_goto (tgt := 12) dX8_sortRoots_132 rfl ?_
        refine ev_lvw (lv' := [some (.ref 115), some (.int (nI i)), some (.int (nI (j + 1))), none, none, none, none, none]) ⟨rfl, ⟨rfl, ⟨rfl, trivial⟩⟩⟩ ?_
        exact ih2 (j + 1) _ _ _ (by omega) (by show _ = mSw i j _; rw [← hs2]; exact (mSw_y (Int64.not_le.mp c1)).symm)
def mGc (g : Nat → Int64) : Nat → Nat
  | 0 => 0
  | k + 1 => Nat.gcd (mGc g k) (g k).toInt.natAbs
theorem gcd_lt {a b N : Nat} (ha : a < N) (hb : b < N) : Nat.gcd a b < N := by
  by_cases h : b = 0
  · subst h; rw [Nat.gcd_zero_right]; exact ha
  · exact Nat.lt_of_le_of_lt (Nat.gcd_le_right _ (by omega)) hb
theorem mGc_lt {g : Nat → Int64} {N : Nat} (h0 : 0 < N) : ∀ n, (∀ j, j < n → (g j).toInt.natAbs < N) → mGc g n < N
  | 0, _ => h0
  | n + 1, h => gcd_lt (mGc_lt h0 n (fun j hj => h j (by omega))) (h n (by omega))
theorem mGc_pos {g : Nat → Int64} (h : ¬ g 0 = 0) : ∀ n, 0 < mGc g (n + 1)
  | 0 => by
    apply Nat.gcd_pos_of_pos_right
    have : (g 0).toInt ≠ 0 := fun q => h (nb_eqL.mpr (q.trans nb_0L.symm))
    exact Int.natAbs_pos.mpr this
  | n + 1 => Nat.gcd_pos_of_pos_left _ (mGc_pos h n)
theorem pt_4b : ∀ {m b : Nat}, m + b = 4 → 4 - nI b = nI m
  | m, 0, h => by obtain rfl : m = 4 := by omega
                  decide
  | m, 1, h => by obtain rfl : m = 3 := by omega
                  decide
  | m, 2, h => by obtain rfl : m = 2 := by omega
                  decide
  | m, 3, h => by obtain rfl : m = 1 := by omega
                  decide
  | m, 4, h => by obtain rfl : m = 0 := by omega
                  decide
  | m, b + 5, h => by omega
theorem lf_s (F g : Nat → Int64) (k : Nat) : ma_up (fun j => if j < k then F j else g j) k (F k) = fun j => if j < k + 1 then F j else g j := by
  funext j
  by_cases h : j = k
  · subst h; rw [ma_up_s, if_pos (by omega)]
  · rw [ma_up_n _ _ h]
    by_cases q : j < k
    · rw [if_pos q, if_pos (by omega)]
    · rw [if_neg q, if_neg (by omega)]
theorem lf_0 (F g : Nat → Int64) : (fun j => if j < 0 then F j else g j) = g := by
  funext j; rw [if_neg (by omega)]
/-- before the search: what stands when content and lowest power are off -/
def mF0 (b m : Nat) (f l : Nat → Int64) (k : Nat) : Nat → Int64 := fun j => if j < k then f (b + j) / lN (mGc (fun j => f (b + j)) (m + 1)) else l j
def mS0 (b m : Nat) (f l u w : Nat → Int64) (t : Nat → Int32) : mP := ⟨m, 0, mF0 b m f l (m + 1), u, w, t⟩
theorem mF0_0 (b m : Nat) (f l : Nat → Int64) : mF0 b m f l 0 = l := lf_0 _ _
theorem mF0_s (b m : Nat) (f l : Nat → Int64) (k : Nat) : ma_up (mF0 b m f l k) k (f (b + k) / lN (mGc (fun j => f (b + j)) (m + 1))) = mF0 b m f l (k + 1) := lf_s (fun j => f (b + j) / lN (mGc (fun j => f (b + j)) (m + 1))) l k
def mS1 (s : mP) : mP := if 1 < s.m ∧ s.f s.m = 0 ∧ s.f (s.m - 1) = 0 then mTake 0 1 s else s
theorem mS1_y {m r : Nat} {f u w : Nat → Int64} {t : Nat → Int32} (h : 1 < m ∧ f m = 0 ∧ f (m - 1) = 0) : mS1 ⟨m, r, f, u, w, t⟩ = mTake 0 1 ⟨m, r, f, u, w, t⟩ := if_pos h
theorem mS1_n {m r : Nat} {f u w : Nat → Int64} {t : Nat → Int32} (h : ¬ (1 < m ∧ f m = 0 ∧ f (m - 1) = 0)) : mS1 ⟨m, r, f, u, w, t⟩ = ⟨m, r, f, u, w, t⟩ := if_neg h
def mLM (a e q : Nat) : Nat → Nat → mP → mP
  | 0, _, s => s
  | d + 1, n, s => if n * n ≤ e ∧ a % (q * q) = 0 then mLM a e q d (n + 1) (if e % (n * n) = 0 ∧ Nat.gcd n q = 1 then mTry (-lN n) (lN q) (mTry (lN n) (lN q) s) else s) else s
def mLQ (a e : Nat) : Nat → Nat → mP → mP
  | 0, _, s => s
  | d + 1, q, s => if q * q ≤ a then mLQ a e d (q + 1) (mLM a e q (e + 1) 1 s) else s
def mEnd (s : mP) : Nat := (if s.f s.m = 0 ∧ 0 < s.m then s.f (s.m - 1) else s.f s.m).toInt.natAbs
theorem mEnd_y {m r : Nat} {f u w : Nat → Int64} {t : Nat → Int32} (h : f m = 0 ∧ 0 < m) : mEnd ⟨m, r, f, u, w, t⟩ = (f (m - 1)).toInt.natAbs := congrArg (fun z : Int64 => z.toInt.natAbs) (if_pos h)
theorem mEnd_n {m r : Nat} {f u w : Nat → Int64} {t : Nat → Int32} (h : ¬ (f m = 0 ∧ 0 < m)) : mEnd ⟨m, r, f, u, w, t⟩ = (f m).toInt.natAbs := congrArg (fun z : Int64 => z.toInt.natAbs) (if_neg h)
def mS2 (s : mP) : mP := mLQ (s.f 0).toInt.natAbs (mEnd s) ((s.f 0).toInt.natAbs + 1) 1 s
def mS3 (s : mP) : mP := mSo s.r s
def mPar (b m : Nat) (f l u w : Nat → Int64) (t : Nat → Int32) : mP := mS3 (mS2 (mS1 (mS0 b m f l u w t)))
theorem lz_0 {n : Nat} (h : n < 9223372036854775808) : lN n = 0 ↔ n = 0 := pk_lEQ (a := n) (b := 0) h (by omega)
theorem lz_1 {n : Nat} (h : n < 9223372036854775808) : lN n = 1 ↔ n = 1 := pk_lEQ (a := n) (b := 1) h (by omega)
theorem tdiv_abs (a b : Int) : (a.tdiv b).natAbs ≤ a.natAbs := by
  rw [Int.natAbs_tdiv]; exact Nat.div_le_self _ _
theorem ldiv_abs {x : Int64} {n : Nat} (h0 : 0 < n) (hn : n < 9223372036854775808) (hx : x.toInt.natAbs < 9223372036854775808) : (x / lN n).toInt = x.toInt.tdiv n := by
  rw [Int64.toInt_div, lN_toI hn]
  have := tdiv_abs x.toInt n
  apply nb_bmodL <;> omega
theorem mDq_01 (f : Nat → Int64) : ∀ k, mDq f 0 1 k = f k
  | 0 => by show (f 0 + 0) / 1 = f 0; rw [Int64.add_zero, Int64.div_one]
  | k + 1 => by show (f (k + 1) + mDq f 0 1 k * 0) / 1 = f (k + 1); rw [Int64.mul_zero, Int64.add_zero, Int64.div_one]
theorem mTk_01 : ∀ (m : Nat) (f : Nat → Int64), (mTk 0 1 m f).2 = f
  | 0, f => rfl
  | m + 1, f => by
    by_cases h : mAt (m + 1) f 0 1 = 0
    · rw [mTk_y h, mTk_01 m]
      funext j
      by_cases q : j < m + 1
      · rw [if_pos q, mDq_01]
      · rw [if_neg q]
    · rw [mTk_n h]
theorem mAt_01 : ∀ {m : Nat}, m < 5 → ∀ f : Nat → Int64, mAt m f 0 1 = f m
  | 0, _, f => by simp [mAt, mAt0]
  | 1, _, f => by simp [mAt, mAt1]
  | 2, _, f => by simp [mAt, mAt2]
  | 3, _, f => by simp [mAt, mAt3]
  | 4, _, f => by simp [mAt, mAt4]
theorem mS1_ok {s : mP} {N : Nat} (h : s.m + s.r ≤ 4) (hB : ∀ j, j ≤ s.m → (s.f j).toInt.natAbs < N) : (mS1 s).m + (mS1 s).r ≤ 4 ∧ ∀ j, j ≤ (mS1 s).m → ((mS1 s).f j).toInt.natAbs < N := by
  unfold mS1
  by_cases c : 1 < s.m ∧ s.f s.m = 0 ∧ s.f (s.m - 1) = 0
  · rw [if_pos c]
    have h1 := mTk_lt (u := 0) (w := 1) (f := s.f) (m := s.m) (by omega) (by rw [mAt_01 (by omega)]; exact c.2.1)
    refine ⟨?_, ?_⟩
    · show (mTk 0 1 s.m s.f).1 + (s.r + 1) ≤ 4; omega
    · intro j hj
      show ((mTk 0 1 s.m s.f).2 j).toInt.natAbs < N
      rw [mTk_01]
      exact hB j (Nat.le_trans hj (Nat.le_of_lt h1))
  · rw [if_neg c]; exact ⟨h, hB⟩
theorem mS0_ok {b m : Nat} (hm : m + b = 4) {f : Nat → Int64} (l u w : Nat → Int64) (t : Nat → Int32) (hF : ∀ j, j < 5 → (f j).toInt.natAbs < 2147483648) (h0 : ¬ f b = 0) : ∀ j, j ≤ (mS0 b m f l u w t).m → ((mS0 b m f l u w t).f j).toInt.natAbs < 2147483648 := by
  intro j hj
  have hj : j ≤ m := hj
  show (mF0 b m f l (m + 1) j).toInt.natAbs < 2147483648
  unfold mF0
  rw [if_pos (by omega)]
  have h1 := mGc_pos (g := fun j => f (b + j)) h0 m
  have h2 := mGc_lt (g := fun j => f (b + j)) (N := 2147483648) (by omega) (m + 1) (fun j hj => hF _ (by omega))
  have h3 := hF (b + j) (by omega)
  rw [ldiv_abs h1 (by omega) (by omega)]
  exact Nat.lt_of_le_of_lt (tdiv_abs _ _) h3
theorem pt_all {P : Nat → Prop} {b : Nat} (h : ∀ j, j < b → P j) (hb : P b) : ∀ j, j < b + 1 → P j := fun j hj => by
  rcases Nat.lt_or_ge j b with q | q
  · exact h j q
  · obtain rfl : j = b := by omega
    exact hb
theorem nf_L0 (L : ma_L) (f : Nat → Int64) : ma_up L 142 f = ma_up (ma_up (ma_up L 142 f) 139 (L 139)) 140 (L 140) := by
  rw [show L 139 = ma_up L 142 f 139 from rfl, ma_up_self, show L 140 = ma_up L 142 f 140 from rfl, ma_up_self]
theorem nf_I0 (I : ma_I) (x y : Int32) : ma_up I 115 (ma_up (ma_up (ma_up (I 115) 31 0) 35 x) 36 y) = ma_up (ma_up (ma_up I 115 (ma_up (I 115) 35 x)) 141 (I 141)) 115 (ma_up (ma_up (ma_up (I 115) 35 x) 36 y) 31 (nI 0)) := by
  rw [show I 141 = ma_up I 115 (ma_up (I 115) 35 x) 141 from rfl, ma_up_self, ma_up_up]
  rw [ma_up_comm (I 115) (show 35 ≠ 31 by decide), ma_up_comm _ (show 36 ≠ 31 by decide)]
  rfl
theorem sq_le (n : Nat) : n ≤ n * n := Nat.le_mul_self n
theorem sq_lt {n : Nat} (h : n < 2147483650) : n * n < 9223372036854775808 := Nat.lt_of_le_of_lt (Nat.mul_le_mul (show n ≤ 2147483649 by omega) (show n ≤ 2147483649 by omega)) (by decide)

theorem tr_le0 : ∀ {m : Nat}, m < 5 → (nI m ≤ 0 ↔ m = 0)
  | 0, _ => by decide
  | 1, _ => by decide
  | 2, _ => by decide
  | 3, _ => by decide
  | 4, _ => by decide
set_option maxRecDepth 4000 in
theorem t_X8_parts {g : ma_G} {Post : ma_P} {I : ma_I} {L : ma_L}  (hF : ∀ j, j < 5 → (L 132 j).toInt.natAbs < 2147483648) (k0 : (∀ j, j < 5 → L 132 j = 0) → Post (some (.int 0)) HS (ma_up I 115 (ma_up (ma_up (I 115) 31 0) 35 (nI 5))) L RF 146) (k1 : ∀ (b m0 : Nat) (m' r' : Nat) (f' u' w' : Nat → Int64) (t' : Nat → Int32), m0 + b = 4 → (∀ j, j < b → L 132 j = 0) → ¬ L 132 b = 0 → (⟨m', r', f', u', w', t'⟩ : mP) = mPar b m0 (L 132) (L 142) (L 139) (L 140) (I 141) → Post (some (.int 1)) HS (ma_up (ma_up (ma_up I 115 (ma_up (I 115) 35 (nI b))) 141 t') 115 (ma_up (ma_up ((ma_up I 115 (ma_up (I 115) 35 (nI b))) 115) 36 (nI m')) 31 (nI r'))) (ma_up (ma_up (ma_up L 142 f') 139 u') 140 w') RF 146) : CT g yX8_parts cX8_parts 11 (some .boolean) rX8_parts [.ref 115] Post HS I L RF 146 := by
  refine ct_of (lv := [some (.ref 115), none, none, none, none, none, none, none, none, none, none]) (by decide) (Nat.le_of_ble_eq_true rfl) rfl ?_
  refine ev_aload_n (pc' := 1) (i := 0) dX8_parts_0 rfl rfl rfl ?_
  refine ev_iconst (pc' := 2) (v := 0) dX8_parts_1 rfl ki_0 ?_
  refine ev_putI (pc' := 5) (I' := (ma_up I 115 (ma_up (I 115) 31 0))) fo_X8_277 dX8_parts_2 rfl hs_115 rfl (fun r hr => by cases hr; rfl) ⟨rfl, rfl⟩ rfl ?_
  refine ev_aload_n (pc' := 6) (i := 0) dX8_parts_5 rfl rfl rfl ?_
  refine ev_iconst (pc' := 7) (v := 0) dX8_parts_6 rfl ki_0 ?_
  refine ev_putI (pc' := 10) (I' := (ma_up I 115 (ma_up (ma_up (I 115) 31 0) 35 0))) fo_X8_280 dX8_parts_7 rfl hs_115 rfl (fun r hr => by cases hr; rfl) ⟨rfl, rfl⟩ (ma_up_up _ _ _ _) ?_
  suffices lp : ∀ (d b : Nat), b + d = 5 → (∀ j, j < b → L 132 j = 0) → EV g yX8_parts cX8_parts 11 (some .boolean) rX8_parts (ma_ZM g rX8_parts Post) 10 [some (.ref 115), none, none, none, none, none, none, none, none, none, none] [] HS (ma_up I 115 (ma_up (ma_up (I 115) 31 0) 35 (nI b))) L RF 146 0 0 from lp 5 0 rfl (fun j hj => absurd hj (Nat.not_lt_zero j))
  intro d
  induction d with
  | zero =>
    intro b hb h
    obtain rfl : b = 5 := by omega
    refine ev_aload_n (pc' := 11) (i := 0) dX8_parts_10 rfl rfl rfl ?_
    refine ev_getI (pc' := 14) (v := nI 5) fo_X8_280 dX8_parts_11 rfl hs_115 rfl rfl ?_
    refine ev_iconst (pc' := 15) (v := 5) dX8_parts_14 rfl ki_5 ?_
    refine ev_icmp_ge (tgt := 45) (pc' := 18) dX8_parts_15 rfl rfl (fun _ => ?_) (fun h => absurd (nx_le (a := 5) (b := 5) (by omega) (by omega)) h)
    refine ev_aload_n (pc' := 46) (i := 0) dX8_parts_45 rfl rfl rfl ?_
    refine ev_getI (pc' := 49) (v := nI 5) fo_X8_280 dX8_parts_46 rfl hs_115 rfl rfl ?_
    refine ev_iconst (pc' := 50) (v := 5) dX8_parts_49 rfl ki_5 ?_
    refine ev_icmp_ne (tgt := 55) (pc' := 53) dX8_parts_50 rfl rfl (fun h => absurd (nx_eq (a := 5) (b := 5) (by omega)) h) (fun _ => ?_)
    refine ev_iconst (pc' := 54) (v := 0) dX8_parts_53 rfl ki_0 ?_
    refine ev_iret dX8_parts_54 rfl rfl ⟨Nat.le_refl _, Nat.le_refl _⟩ ?_
    exact k0 h
  | succ d ih =>
    intro b hb h
    refine ev_aload_n (pc' := 11) (i := 0) dX8_parts_10 rfl rfl rfl ?_
    refine ev_getI (pc' := 14) (v := nI b) fo_X8_280 dX8_parts_11 rfl hs_115 rfl rfl ?_
    refine ev_iconst (pc' := 15) (v := 5) dX8_parts_14 rfl ki_5 ?_
    refine ev_icmp_ge (tgt := 45) (pc' := 18) dX8_parts_15 rfl rfl (fun h => absurd h (nx_nle (a := 5) (b := b) (by omega) (by omega))) (fun _ => ?_)
    refine ev_aload_n (pc' := 19) (i := 0) dX8_parts_18 rfl rfl rfl ?_
    refine ev_getR (pc' := 22) fo_X8_64 dX8_parts_19 rfl hs_115 rfl rf_115_23 ?_
    refine ev_aload_n (pc' := 23) (i := 0) dX8_parts_22 rfl rfl rfl ?_
    refine ev_getI (pc' := 26) (v := nI b) fo_X8_280 dX8_parts_23 rfl hs_115 rfl rfl ?_
    refine ev_lald (pc' := 27) (j := b) (v := (L 132) b) dX8_parts_26 rfl hs_132 rfl (by omega) (Nat.le_of_ble_eq_true rfl) rfl ?_
    refine ev_lconst (pc' := 28) (v := 0) dX8_parts_27 rfl kl_0 ?_
    refine ev_lc_ne (p1 := 29) (tgt := 45) (pc' := 32) dX8_parts_28 rfl dX8_parts_29 rfl rfl (fun c1 => ?_) (fun c1 => ?_)
    · refine ev_aload_n (pc' := 46) (i := 0) dX8_parts_45 rfl rfl rfl ?_
      refine ev_getI (pc' := 49) (v := nI b) fo_X8_280 dX8_parts_46 rfl hs_115 rfl rfl ?_
      refine ev_iconst (pc' := 50) (v := 5) dX8_parts_49 rfl ki_5 ?_
      refine ev_icmp_ne (tgt := 55) (pc' := 53) dX8_parts_50 rfl rfl (fun _ => ?_) (fun h => absurd h (nx_ne (a := b) (b := 5) (by omega) (by omega) (by omega)))
      obtain ⟨m0, hm0⟩ : ∃ m0, m0 + b = 4 := ⟨4 - b, by omega⟩
      have hb0 := c1
      refine ev_aload_n (pc' := 56) (i := 0) dX8_parts_55 rfl rfl rfl ?_
      refine ev_iconst (pc' := 57) (v := 4) dX8_parts_56 rfl ki_4 ?_
      refine ev_aload_n (pc' := 58) (i := 0) dX8_parts_57 rfl rfl rfl ?_
      refine ev_getI (pc' := 61) (v := nI b) fo_X8_280 dX8_parts_58 rfl hs_115 rfl rfl ?_
      refine ev_isub (pc' := 62) (v := nI m0) dX8_parts_61 rfl (pt_4b hm0) ?_
      refine ev_putI (pc' := 65) (I' := (ma_up I 115 (ma_up (ma_up (ma_up (I 115) 31 0) 35 (nI b)) 36 (nI m0)))) fo_X8_267 dX8_parts_62 rfl hs_115 rfl (fun r hr => by cases hr; rfl) ⟨rfl, rfl⟩ (ma_up_up _ _ _ _) ?_
      refine ev_lconst (pc' := 66) (v := 0) dX8_parts_65 rfl kl_0 ?_
      refine ev_lstore_n (pc' := 67) (i := 1) (lv' := [some (.ref 115), some (.long 0), none, none, none, none, none, none, none, none, none]) dX8_parts_66 rfl rfl (Nat.le_of_ble_eq_true rfl) rfl rfl ?_
      refine ev_iconst (pc' := 68) (v := 0) dX8_parts_67 rfl ki_0 ?_
      refine ev_istore_n (pc' := 69) (i := 3) (lv' := [some (.ref 115), some (.long 0), none, some (.int 0), none, none, none, none, none, none, none]) dX8_parts_68 rfl rfl (Nat.le_of_ble_eq_true rfl) rfl rfl ?_
      have hCl : ∀ k, k < m0 + 2 → mGc (fun j => L 132 (b + j)) k < 2147483648 := fun k hk => mGc_lt (by omega) k (fun j hj => hF (b + j) (by omega))
      suffices lc : ∀ (d k : Nat), k + d = m0 + 1 → EV g yX8_parts cX8_parts 11 (some .boolean) rX8_parts (ma_ZM g rX8_parts Post) 69 [some (.ref 115), some (.long (lN (mGc (fun j => L 132 (b + j)) k))), none, some (.int (nI k)), none, none, none, none, none, none, none] [] HS (ma_up I 115 (ma_up (ma_up (ma_up (I 115) 31 0) 35 (nI b)) 36 (nI m0))) L RF 146 0 0 from lc (m0 + 1) 0 (by omega)
      intro d1
      induction d1 with
      | zero =>
        intro k hk
        obtain rfl : k = m0 + 1 := by omega
        have hC0 : ¬ lN (mGc (fun j => L 132 (b + j)) (m0 + 1)) = 0 := fun q => Nat.ne_of_gt (mGc_pos (g := (fun j => L 132 (b + j))) hb0 m0) ((lz_0 (by have := hCl (m0 + 1) (by omega); omega)).mp q)
        refine ev_iload_n (pc' := 70) (i := 3) dX8_parts_69 rfl rfl rfl ?_
        refine ev_aload_n (pc' := 71) (i := 0) dX8_parts_70 rfl rfl rfl ?_
        refine ev_getI (pc' := 74) (v := nI m0) fo_X8_267 dX8_parts_71 rfl hs_115 rfl rfl ?_
        refine ev_icmp_gt (tgt := 99) (pc' := 77) dX8_parts_74 rfl rfl (fun _ => ?_) (fun h => absurd (nx_lt (a := m0) (b := (m0 + 1)) (by omega) (by omega)) h)
        refine ev_iconst (pc' := 100) (v := 0) dX8_parts_99 rfl ki_0 ?_
        refine ev_istore_n (pc' := 101) (i := 3) (lv' := [some (.ref 115), some (.long (lN (mGc (fun j => L 132 (b + j)) (m0 + 1)))), none, some (.int 0), none, none, none, none, none, none, none]) dX8_parts_100 rfl rfl (Nat.le_of_ble_eq_true rfl) rfl rfl ?_
        suffices ll : ∀ (d k : Nat), k + d = m0 + 1 → EV g yX8_parts cX8_parts 11 (some .boolean) rX8_parts (ma_ZM g rX8_parts Post) 101 [some (.ref 115), some (.long (lN (mGc (fun j => L 132 (b + j)) (m0 + 1)))), none, some (.int (nI k)), none, none, none, none, none, none, none] [] HS (ma_up I 115 (ma_up (ma_up (ma_up (I 115) 31 0) 35 (nI b)) 36 (nI m0))) (ma_up L 142 (mF0 b m0 (L 132) (L 142) k)) RF 146 0 0 by
          refine ev_memL (fun x hx => ?_)
          have hx : x = ma_up L 142 (mF0 b m0 (L 132) (L 142) 0) := by rw [hx, mF0_0, ma_up_self]
          subst hx
          exact ll (m0 + 1) 0 (by omega)
        intro d2
        induction d2 with
        | zero =>
          intro k hk
          obtain rfl : k = m0 + 1 := by omega
          refine ev_iload_n (pc' := 102) (i := 3) dX8_parts_101 rfl rfl rfl ?_
          refine ev_aload_n (pc' := 103) (i := 0) dX8_parts_102 rfl rfl rfl ?_
          refine ev_getI (pc' := 106) (v := nI m0) fo_X8_267 dX8_parts_103 rfl hs_115 rfl rfl ?_
          refine ev_icmp_gt (tgt := 134) (pc' := 109) dX8_parts_106 rfl rfl (fun _ => ?_) (fun h => absurd (nx_lt (a := m0) (b := (m0 + 1)) (by omega) (by omega)) h)
          refine ev_memI (fun x hx => ?_)
          rw [nf_I0] at hx
          subst hx
          refine ev_memL (fun x hx => ?_)
          rw [nf_L0] at hx
          subst hx
          suffices K1 : ∀ (m r : Nat) (f u w : Nat → Int64) (t : Nat → Int32), (⟨m, r, f, u, w, t⟩ : mP) = mS1 (mS0 b m0 (L 132) (L 142) (L 139) (L 140) (I 141)) → EV g yX8_parts cX8_parts 11 (some .boolean) rX8_parts (ma_ZM g rX8_parts Post) 178 [some (.ref 115), none, none, none, none, none, none, none, none, none, none] [] HS (ma_up (ma_up (ma_up I 115 (ma_up (I 115) 35 (nI b))) 141 t) 115 (ma_up (ma_up ((ma_up I 115 (ma_up (I 115) 35 (nI b))) 115) 36 (nI m)) 31 (nI r))) (ma_up (ma_up (ma_up L 142 f) 139 u) 140 w) RF 146 0 0 by
            refine ev_aload_n (pc' := 135) (i := 0) dX8_parts_134 rfl rfl rfl ?_
            refine ev_getI (pc' := 138) (v := nI m0) fo_X8_267 dX8_parts_135 rfl hs_115 rfl rfl ?_
            refine ev_iconst (pc' := 139) (v := 1) dX8_parts_138 rfl ki_1 ?_
            refine ev_icmp_le (tgt := 178) (pc' := 142) dX8_parts_139 rfl rfl (fun c2 => ?_) (fun c2 => ?_)
            · refine ev_lvw (lv' := [some (.ref 115), none, none, none, none, none, none, none, none, none, none]) ⟨rfl, trivial⟩ ?_
              exact K1 _ _ _ _ _ _ (mS1_n (by rintro ⟨q1, q2, q3⟩; first | exact absurd q2 c2 | exact absurd q3 c2 | (have q := c2; rw [tr_le (by omega)] at q; exact absurd (show 1 < m0 from q1) (by omega)))).symm
            · have hm1 : 1 < m0 := by have q := c2; rw [tr_le (by omega)] at q; omega
              refine ev_aload_n (pc' := 143) (i := 0) dX8_parts_142 rfl rfl rfl ?_
              refine ev_getR (pc' := 146) fo_X8_94 dX8_parts_143 rfl hs_115 rfl rf_115_37 ?_
              refine ev_aload_n (pc' := 147) (i := 0) dX8_parts_146 rfl rfl rfl ?_
              refine ev_getI (pc' := 150) (v := nI m0) fo_X8_267 dX8_parts_147 rfl hs_115 rfl rfl ?_
              refine ev_lald (pc' := 151) (j := m0) (v := (mF0 b m0 (L 132) (L 142) (m0 + 1)) m0) dX8_parts_150 rfl hs_142 rfl (by omega) (Nat.le_of_ble_eq_true rfl) rfl ?_
              refine ev_lconst (pc' := 152) (v := 0) dX8_parts_151 rfl kl_0 ?_
              refine ev_lc_ne (p1 := 153) (tgt := 178) (pc' := 156) dX8_parts_152 rfl dX8_parts_153 rfl rfl (fun c3 => ?_) (fun c3 => ?_)
              · refine ev_lvw (lv' := [some (.ref 115), none, none, none, none, none, none, none, none, none, none]) ⟨rfl, trivial⟩ ?_
                exact K1 _ _ _ _ _ _ (mS1_n (by rintro ⟨q1, q2, q3⟩; first | exact absurd q2 c3 | exact absurd q3 c3 | (have q := c3; rw [tr_le (by omega)] at q; exact absurd (show 1 < m0 from q1) (by omega)))).symm
              · refine ev_aload_n (pc' := 157) (i := 0) dX8_parts_156 rfl rfl rfl ?_
                refine ev_getR (pc' := 160) fo_X8_94 dX8_parts_157 rfl hs_115 rfl rf_115_37 ?_
                refine ev_aload_n (pc' := 161) (i := 0) dX8_parts_160 rfl rfl rfl ?_
                refine ev_getI (pc' := 164) (v := nI m0) fo_X8_267 dX8_parts_161 rfl hs_115 rfl rfl ?_
                refine ev_iconst (pc' := 165) (v := 1) dX8_parts_164 rfl ki_1 ?_
                refine ev_isub (pc' := 166) (v := nI (m0 - 1)) dX8_parts_165 rfl (nI_sub1 (by omega)) ?_
                refine ev_lald (pc' := 167) (j := m0 - 1) (v := (mF0 b m0 (L 132) (L 142) (m0 + 1)) (m0 - 1)) dX8_parts_166 rfl hs_142 rfl (by omega) (Nat.le_of_ble_eq_true rfl) rfl ?_
                refine ev_lconst (pc' := 168) (v := 0) dX8_parts_167 rfl kl_0 ?_
                refine ev_lc_ne (p1 := 169) (tgt := 178) (pc' := 172) dX8_parts_168 rfl dX8_parts_169 rfl rfl (fun c4 => ?_) (fun c4 => ?_)
                · refine ev_lvw (lv' := [some (.ref 115), none, none, none, none, none, none, none, none, none, none]) ⟨rfl, trivial⟩ ?_
                  exact K1 _ _ _ _ _ _ (mS1_n (by rintro ⟨q1, q2, q3⟩; first | exact absurd q2 c4 | exact absurd q3 c4 | (have q := c4; rw [tr_le (by omega)] at q; exact absurd (show 1 < m0 from q1) (by omega)))).symm
                · refine ev_aload_n (pc' := 173) (i := 0) dX8_parts_172 rfl rfl rfl ?_
                  refine ev_lconst (pc' := 174) (v := 0) dX8_parts_173 rfl kl_0 ?_
                  refine ev_lconst (pc' := 175) (v := 1) dX8_parts_174 rfl kl_1 ?_
                  refine ev_callV (pc' := 178) (rm' := rX8_takeRoot) (b := 115) (av := [.long 0, .long 1]) (rest := []) co_X8_283 ci_X8_takeRoot cv_X8_takeRoot dX8_parts_175 rfl hs_115 hb_X8 rfl rfl (Nat.le_of_ble_eq_true rfl) ⟨(Nat.le_of_ble_eq_true rfl), (Nat.le_of_ble_eq_true rfl)⟩ ⟨(Nat.le_of_ble_eq_true rfl), (Nat.le_of_ble_eq_true rfl)⟩ ?_
                  refine n_X8_takeRoot (I := (ma_up I 115 (ma_up (I 115) 35 (nI b)))) (L := L) 0 1 m0 0 (mF0 b m0 (L 132) (L 142) (m0 + 1)) (L 139) (L 140) (I 141) (by omega) (by omega) (by decide) (fun m9 r9 f9 u9 w9 t9 e9 => ?_)
                  refine ev_lvw (lv' := [some (.ref 115), none, none, none, none, none, none, none, none, none, none]) ⟨rfl, trivial⟩ ?_
                  exact K1 _ _ _ _ _ _ (e9.trans (mS1_y ⟨hm1, c3, c4⟩).symm)
          intro m r f u w t hs
          have hok := mS1_ok (s := (mS0 b m0 (L 132) (L 142) (L 139) (L 140) (I 141))) (show m0 + 0 ≤ 4 by omega) (mS0_ok hm0 _ _ _ _ hF hb0)
          rw [← hs] at hok
          have hi : m + r ≤ 4 := hok.1
          have hB : ∀ j, j ≤ m → (f j).toInt.natAbs < 2147483648 := hok.2
          refine ev_aload_n (pc' := 179) (i := 0) dX8_parts_178 rfl rfl rfl ?_
          refine ev_getR (pc' := 182) fo_X8_94 dX8_parts_179 rfl hs_115 rfl rf_115_37 ?_
          refine ev_iconst (pc' := 183) (v := 0) dX8_parts_182 rfl ki_0 ?_
          refine ev_lald (pc' := 184) (j := 0) (v := f 0) dX8_parts_183 rfl hs_142 rfl (Nat.le_of_ble_eq_true rfl) (Nat.le_of_ble_eq_true rfl) rfl ?_
          refine ev_callS (pc' := 187) (rm' := rX8_size) (av := [.long (f 0)]) (rest := []) co_X8_122 cs_X8_size dX8_parts_184 rfl rfl rfl (Nat.le_of_ble_eq_true rfl) ⟨(Nat.le_of_ble_eq_true rfl), (Nat.le_of_ble_eq_true rfl)⟩ ⟨(Nat.le_of_ble_eq_true rfl), (Nat.le_of_ble_eq_true rfl)⟩ ?_
          refine t_X8_size (f 0)  ?_
          refine ev_topl (fun x hx => ?_)
          rw [mAb_nat (by have := hB 0 (by omega); omega)] at hx
          obtain ⟨a, ha⟩ : ∃ a, a = (f 0).toInt.natAbs := ⟨_, rfl⟩
          rw [← ha] at hx
          subst hx
          have ha2 : a < 2147483648 := by rw [ha]; exact hB 0 (by omega)
          refine ev_lstore_n (pc' := 188) (i := 3) (lv' := [some (.ref 115), none, none, some (.long (lN a)), none, none, none, none, none, none, none]) dX8_parts_187 rfl rfl (Nat.le_of_ble_eq_true rfl) rfl rfl ?_
          suffices K2 : ∀ e : Nat, e = mEnd (⟨m, r, f, u, w, t⟩ : mP) → EV g yX8_parts cX8_parts 11 (some .boolean) rX8_parts (ma_ZM g rX8_parts Post) 237 [some (.ref 115), none, none, some (.long (lN a)), none, some (.long (lN e)), none, none, none, none, none] [] HS (ma_up (ma_up (ma_up I 115 (ma_up (I 115) 35 (nI b))) 141 t) 115 (ma_up (ma_up ((ma_up I 115 (ma_up (I 115) 35 (nI b))) 115) 36 (nI m)) 31 (nI r))) (ma_up (ma_up (ma_up L 142 f) 139 u) 140 w) RF 146 0 0 by
            refine ev_aload_n (pc' := 189) (i := 0) dX8_parts_188 rfl rfl rfl ?_
            refine ev_getR (pc' := 192) fo_X8_94 dX8_parts_189 rfl hs_115 rfl rf_115_37 ?_
            refine ev_aload_n (pc' := 193) (i := 0) dX8_parts_192 rfl rfl rfl ?_
            refine ev_getI (pc' := 196) (v := nI m) fo_X8_267 dX8_parts_193 rfl hs_115 rfl rfl ?_
            refine ev_lald (pc' := 197) (j := m) (v := f m) dX8_parts_196 rfl hs_142 rfl (by omega) (Nat.le_of_ble_eq_true rfl) rfl ?_
            refine ev_lconst (pc' := 198) (v := 0) dX8_parts_197 rfl kl_0 ?_
            refine ev_lc_ne (p1 := 199) (tgt := 223) (pc' := 202) dX8_parts_198 rfl dX8_parts_199 rfl rfl (fun c5 => ?_) (fun c5 => ?_)
            · refine ev_aload_n (pc' := 224) (i := 0) dX8_parts_223 rfl rfl rfl ?_
              refine ev_getR (pc' := 227) fo_X8_94 dX8_parts_224 rfl hs_115 rfl rf_115_37 ?_
              refine ev_aload_n (pc' := 228) (i := 0) dX8_parts_227 rfl rfl rfl ?_
              refine ev_getI (pc' := 231) (v := nI m) fo_X8_267 dX8_parts_228 rfl hs_115 rfl rfl ?_
              refine ev_lald (pc' := 232) (j := m) (v := f m) dX8_parts_231 rfl hs_142 rfl (by omega) (Nat.le_of_ble_eq_true rfl) rfl ?_
              refine ev_callS (pc' := 235) (rm' := rX8_size) (av := [.long (f m)]) (rest := []) co_X8_122 cs_X8_size dX8_parts_232 rfl rfl rfl (Nat.le_of_ble_eq_true rfl) ⟨(Nat.le_of_ble_eq_true rfl), (Nat.le_of_ble_eq_true rfl)⟩ ⟨(Nat.le_of_ble_eq_true rfl), (Nat.le_of_ble_eq_true rfl)⟩ ?_
              refine t_X8_size (f m)  ?_
              refine ev_topl (fun x hx => ?_)
              rw [mAb_nat (by have := hB m (by omega); omega)] at hx
              have hx2 : (f m).toInt.natAbs = mEnd (⟨m, r, f, u, w, t⟩ : mP) := (mEnd_n (by rintro ⟨q1, q2⟩; first | exact absurd q1 c5 | (have q := c5; rw [tr_le0 (by omega)] at q; exact absurd (show 0 < m from q2) (by omega)))).symm
              rw [hx2] at hx
              subst hx
              refine ev_lstore (pc' := 237) (lv' := [some (.ref 115), none, none, some (.long (lN a)), none, some (.long (lN (mEnd (⟨m, r, f, u, w, t⟩ : mP)))), none, none, none, none, none]) dX8_parts_235 rfl (Nat.le_of_ble_eq_true rfl) rfl rfl ?_
              exact K2 _ rfl
            · refine ev_aload_n (pc' := 203) (i := 0) dX8_parts_202 rfl rfl rfl ?_
              refine ev_getI (pc' := 206) (v := nI m) fo_X8_267 dX8_parts_203 rfl hs_115 rfl rfl ?_
              refine ev_if_le (tgt := 223) (pc' := 209) dX8_parts_206 rfl rfl (fun c6 => ?_) (fun c6 => ?_)
              · refine ev_aload_n (pc' := 224) (i := 0) dX8_parts_223 rfl rfl rfl ?_
                refine ev_getR (pc' := 227) fo_X8_94 dX8_parts_224 rfl hs_115 rfl rf_115_37 ?_
                refine ev_aload_n (pc' := 228) (i := 0) dX8_parts_227 rfl rfl rfl ?_
                refine ev_getI (pc' := 231) (v := nI m) fo_X8_267 dX8_parts_228 rfl hs_115 rfl rfl ?_
                refine ev_lald (pc' := 232) (j := m) (v := f m) dX8_parts_231 rfl hs_142 rfl (by omega) (Nat.le_of_ble_eq_true rfl) rfl ?_
                refine ev_callS (pc' := 235) (rm' := rX8_size) (av := [.long (f m)]) (rest := []) co_X8_122 cs_X8_size dX8_parts_232 rfl rfl rfl (Nat.le_of_ble_eq_true rfl) ⟨(Nat.le_of_ble_eq_true rfl), (Nat.le_of_ble_eq_true rfl)⟩ ⟨(Nat.le_of_ble_eq_true rfl), (Nat.le_of_ble_eq_true rfl)⟩ ?_
                refine t_X8_size (f m)  ?_
                refine ev_topl (fun x hx => ?_)
                rw [mAb_nat (by have := hB m (by omega); omega)] at hx
                have hx2 : (f m).toInt.natAbs = mEnd (⟨m, r, f, u, w, t⟩ : mP) := (mEnd_n (by rintro ⟨q1, q2⟩; first | exact absurd q1 c6 | (have q := c6; rw [tr_le0 (by omega)] at q; exact absurd (show 0 < m from q2) (by omega)))).symm
                rw [hx2] at hx
                subst hx
                refine ev_lstore (pc' := 237) (lv' := [some (.ref 115), none, none, some (.long (lN a)), none, some (.long (lN (mEnd (⟨m, r, f, u, w, t⟩ : mP)))), none, none, none, none, none]) dX8_parts_235 rfl (Nat.le_of_ble_eq_true rfl) rfl rfl ?_
                exact K2 _ rfl
              · have hm1 : 0 < m := by have q := c6; rw [tr_le0 (by omega)] at q; omega
                refine ev_aload_n (pc' := 210) (i := 0) dX8_parts_209 rfl rfl rfl ?_
                refine ev_getR (pc' := 213) fo_X8_94 dX8_parts_210 rfl hs_115 rfl rf_115_37 ?_
                refine ev_aload_n (pc' := 214) (i := 0) dX8_parts_213 rfl rfl rfl ?_
                refine ev_getI (pc' := 217) (v := nI m) fo_X8_267 dX8_parts_214 rfl hs_115 rfl rfl ?_
                refine ev_iconst (pc' := 218) (v := 1) dX8_parts_217 rfl ki_1 ?_
                refine ev_isub (pc' := 219) (v := nI (m - 1)) dX8_parts_218 rfl (nI_sub1 (by omega)) ?_
                refine ev_lald (pc' := 220) (j := m - 1) (v := f (m - 1)) dX8_parts_219 rfl hs_142 rfl (by omega) (Nat.le_of_ble_eq_true rfl) rfl ?_
                refine ev_goto (tgt := 232) dX8_parts_220 rfl ?_
                refine ev_callS (pc' := 235) (rm' := rX8_size) (av := [.long (f (m - 1))]) (rest := []) co_X8_122 cs_X8_size dX8_parts_232 rfl rfl rfl (Nat.le_of_ble_eq_true rfl) ⟨(Nat.le_of_ble_eq_true rfl), (Nat.le_of_ble_eq_true rfl)⟩ ⟨(Nat.le_of_ble_eq_true rfl), (Nat.le_of_ble_eq_true rfl)⟩ ?_
                refine t_X8_size (f (m - 1))  ?_
                refine ev_topl (fun x hx => ?_)
                rw [mAb_nat (by have := hB (m - 1) (by omega); omega)] at hx
                have hx2 : (f (m - 1)).toInt.natAbs = mEnd (⟨m, r, f, u, w, t⟩ : mP) := (mEnd_y ⟨c5, hm1⟩).symm
                rw [hx2] at hx
                subst hx
                refine ev_lstore (pc' := 237) (lv' := [some (.ref 115), none, none, some (.long (lN a)), none, some (.long (lN (mEnd (⟨m, r, f, u, w, t⟩ : mP)))), none, none, none, none, none]) dX8_parts_235 rfl (Nat.le_of_ble_eq_true rfl) rfl rfl ?_
                exact K2 _ rfl
          intro e he
          have he2 : e < 2147483648 := by by_cases q : f m = 0 ∧ 0 < m; (· rw [he, mEnd_y q]; exact hB _ (by omega)); (· rw [he, mEnd_n q]; exact hB _ (by omega))
          refine ev_lconst (pc' := 238) (v := 1) dX8_parts_237 rfl kl_1 ?_
          refine ev_lstore (pc' := 240) (lv' := [some (.ref 115), none, none, some (.long (lN a)), none, some (.long (lN e)), none, some (.long 1), none, none, none]) dX8_parts_238 rfl (Nat.le_of_ble_eq_true rfl) rfl rfl ?_
          suffices lq : ∀ (d q : Nat) (m1 r1 : Nat) (f1 u1 w1 : Nat → Int64) (t1 : Nat → Int32), q + d = a + 2 → 1 ≤ q → m1 + r1 ≤ 4 → mLQ a e d q (⟨m1, r1, f1, u1, w1, t1⟩ : mP) = mLQ a e (a + 1) 1 (⟨m, r, f, u, w, t⟩ : mP) → EV g yX8_parts cX8_parts 11 (some .boolean) rX8_parts (ma_ZM g rX8_parts Post) 240 [some (.ref 115), none, none, some (.long (lN a)), none, some (.long (lN e)), none, some (.long (lN q)), none, none, none] [] HS (ma_up (ma_up (ma_up I 115 (ma_up (I 115) 35 (nI b))) 141 t1) 115 (ma_up (ma_up ((ma_up I 115 (ma_up (I 115) 35 (nI b))) 115) 36 (nI m1)) 31 (nI r1))) (ma_up (ma_up (ma_up L 142 f1) 139 u1) 140 w1) RF 146 0 0 from lq (a + 1) 1 m r f u w t (by omega) (by omega) hi rfl
          intro d3
          induction d3 with
          | zero =>
            intro q m1 r1 f1 u1 w1 t1 hqd hq1 hi1 hs1
            have hql := sq_le q
            have hqq : q * q < 9223372036854775808 := sq_lt (by omega)
            have hqz : ¬ lN (q * q) = 0 := fun x => absurd ((lz_0 hqq).mp x) (by omega)
            have hqn : ¬ lN q = 0 := fun x => absurd ((lz_0 (by omega)).mp x) (by omega)
            have ht : (⟨m1, r1, f1, u1, w1, t1⟩ : mP) = mLQ a e (a + 1) 1 (⟨m, r, f, u, w, t⟩ : mP) := hs1
            refine ev_lload (pc' := 242) dX8_parts_240 rfl rfl ?_
            refine ev_lload (pc' := 244) dX8_parts_242 rfl rfl ?_
            refine ev_lmul (pc' := 245) (v := lN (q * q)) dX8_parts_244 rfl (lN_mul q q) ?_
            refine ev_lload_n (pc' := 246) (i := 3) dX8_parts_245 rfl rfl rfl ?_
            refine ev_lc_gt (p1 := 247) (tgt := 336) (pc' := 250) dX8_parts_246 rfl dX8_parts_247 rfl rfl (fun _ => ?_) (fun h => absurd ((pk_lLT (by omega) (by omega)).mpr (by omega)) h)
            refine ev_aload_n (pc' := 337) (i := 0) dX8_parts_336 rfl rfl rfl ?_
            refine ev_callV (pc' := 340) (rm' := rX8_sortRoots) (b := 115) (av := []) (rest := []) co_X8_289 ci_X8_sortRoots cv_X8_sortRoots dX8_parts_337 rfl hs_115 hb_X8 rfl rfl (Nat.le_of_ble_eq_true rfl) ⟨(Nat.le_of_ble_eq_true rfl), (Nat.le_of_ble_eq_true rfl)⟩ ⟨(Nat.le_of_ble_eq_true rfl), (Nat.le_of_ble_eq_true rfl)⟩ ?_
            refine t_X8_sortRoots (I := (ma_up I 115 (ma_up (I 115) 35 (nI b)))) (L := L) m1 r1 f1 u1 w1 t1 (by omega) (fun m' r' f' u' w' t' e' => ?_)
            refine ev_iconst (pc' := 341) (v := 1) dX8_parts_340 rfl ki_1 ?_
            refine ev_iret dX8_parts_341 rfl rfl ⟨Nat.le_refl _, Nat.le_refl _⟩ ?_
            exact k1 b m0 m' r' f' u' w' t' hm0 h hb0 (by rw [e']; unfold mPar mS3; rw [← hs]; unfold mS2; rw [← he, show (f 0).toInt.natAbs = a from ha.symm, ← ht])
          | succ d3 ih3 =>
            intro q m1 r1 f1 u1 w1 t1 hqd hq1 hi1 hs1
            have hql := sq_le q
            have hqq : q * q < 9223372036854775808 := sq_lt (by omega)
            have hqz : ¬ lN (q * q) = 0 := fun x => absurd ((lz_0 hqq).mp x) (by omega)
            have hqn : ¬ lN q = 0 := fun x => absurd ((lz_0 (by omega)).mp x) (by omega)
            by_cases hq : q * q ≤ a
            · rw [mLQ, if_pos hq] at hs1
              refine ev_lload (pc' := 242) dX8_parts_240 rfl rfl ?_
              refine ev_lload (pc' := 244) dX8_parts_242 rfl rfl ?_
              refine ev_lmul (pc' := 245) (v := lN (q * q)) dX8_parts_244 rfl (lN_mul q q) ?_
              refine ev_lload_n (pc' := 246) (i := 3) dX8_parts_245 rfl rfl rfl ?_
              refine ev_lc_gt (p1 := 247) (tgt := 336) (pc' := 250) dX8_parts_246 rfl dX8_parts_247 rfl rfl (fun h => absurd h (fun x => absurd ((pk_lLT (by omega) (by omega)).mp x) (by omega))) (fun _ => ?_)
              refine ev_lconst (pc' := 251) (v := 1) dX8_parts_250 rfl kl_1 ?_
              refine ev_lstore (pc' := 253) (lv' := [some (.ref 115), none, none, some (.long (lN a)), none, some (.long (lN e)), none, some (.long (lN q)), none, some (.long 1), none]) dX8_parts_251 rfl (Nat.le_of_ble_eq_true rfl) rfl rfl ?_
              suffices lm : ∀ (d n : Nat) (m2 r2 : Nat) (f2 u2 w2 : Nat → Int64) (t2 : Nat → Int32), n + d = e + 2 → 1 ≤ n → m2 + r2 ≤ 4 → mLM a e q d n (⟨m2, r2, f2, u2, w2, t2⟩ : mP) = mLM a e q (e + 1) 1 (⟨m1, r1, f1, u1, w1, t1⟩ : mP) → EV g yX8_parts cX8_parts 11 (some .boolean) rX8_parts (ma_ZM g rX8_parts Post) 253 [some (.ref 115), none, none, some (.long (lN a)), none, some (.long (lN e)), none, some (.long (lN q)), none, some (.long (lN n)), none] [] HS (ma_up (ma_up (ma_up I 115 (ma_up (I 115) 35 (nI b))) 141 t2) 115 (ma_up (ma_up ((ma_up I 115 (ma_up (I 115) 35 (nI b))) 115) 36 (nI m2)) 31 (nI r2))) (ma_up (ma_up (ma_up L 142 f2) 139 u2) 140 w2) RF 146 0 0 from lm (e + 1) 1 m1 r1 f1 u1 w1 t1 (by omega) (by omega) hi1 rfl
              intro d4
              induction d4 with
              | zero =>
                intro n m2 r2 f2 u2 w2 t2 hnd hn1 hi2 hs2
                have hnl := sq_le n
                have hnn : n * n < 9223372036854775808 := sq_lt (by omega)
                have hnz : ¬ lN (n * n) = 0 := fun x => absurd ((lz_0 hnn).mp x) (by omega)
                have ht2 : (⟨m2, r2, f2, u2, w2, t2⟩ : mP) = mLM a e q (e + 1) 1 (⟨m1, r1, f1, u1, w1, t1⟩ : mP) := hs2
                refine ev_lload (pc' := 255) dX8_parts_253 rfl rfl ?_
                refine ev_lload (pc' := 257) dX8_parts_255 rfl rfl ?_
                refine ev_lmul (pc' := 258) (v := lN (n * n)) dX8_parts_257 rfl (lN_mul n n) ?_
                refine ev_lload (pc' := 260) dX8_parts_258 rfl rfl ?_
                refine ev_lc_gt (p1 := 261) (tgt := 327) (pc' := 264) dX8_parts_260 rfl dX8_parts_261 rfl rfl (fun _ => ?_) (fun h => absurd ((pk_lLT (by omega) (by omega)).mpr (by omega)) h)
                refine ev_lload (pc' := 329) dX8_parts_327 rfl rfl ?_
                refine ev_lconst (pc' := 330) (v := 1) dX8_parts_329 rfl kl_1 ?_
                refine ev_ladd (pc' := 331) (v := lN (q + 1)) dX8_parts_330 rfl (lN_add q 1) ?_
                refine ev_lstore (pc' := 333) (lv' := [some (.ref 115), none, none, some (.long (lN a)), none, some (.long (lN e)), none, some (.long (lN (q + 1))), none, some (.long (lN n)), none]) dX8_parts_331 rfl (Nat.le_of_ble_eq_true rfl) rfl rfl ?_
                refine ev_goto (tgt := 240) dX8_parts_333 rfl ?_
                refine ev_lvw (lv' := [some (.ref 115), none, none, some (.long (lN a)), none, some (.long (lN e)), none, some (.long (lN (q + 1))), none, none, none]) ⟨rfl, ⟨rfl, ⟨rfl, ⟨rfl, trivial⟩⟩⟩⟩ ?_
                exact ih3 (q + 1) _ _ _ _ _ _ (by omega) (by omega) hi2 (by rw [← hs1, ← ht2])
              | succ d4 ih4 =>
                intro n m2 r2 f2 u2 w2 t2 hnd hn1 hi2 hs2
                have hnl := sq_le n
                have hnn : n * n < 9223372036854775808 := sq_lt (by omega)
                have hnz : ¬ lN (n * n) = 0 := fun x => absurd ((lz_0 hnn).mp x) (by omega)
                have hml : a % (q * q) < 9223372036854775808 := Nat.lt_of_le_of_lt (Nat.mod_le _ _) (by omega)
                have hml2 : e % (n * n) < 9223372036854775808 := Nat.lt_of_le_of_lt (Nat.mod_le _ _) (by omega)
                have hgl : Nat.gcd n q < 9223372036854775808 := gcd_lt (by omega) (by omega)
                by_cases hn : n * n ≤ e
                · by_cases hd : a % (q * q) = 0
                  · rw [mLM, if_pos ⟨hn, hd⟩] at hs2
                    by_cases hr : e % (n * n) = 0
                    · by_cases hg : Nat.gcd n q = 1
                      · rw [if_pos ⟨hr, hg⟩] at hs2
                        refine ev_lload (pc' := 255) dX8_parts_253 rfl rfl ?_
                        refine ev_lload (pc' := 257) dX8_parts_255 rfl rfl ?_
                        refine ev_lmul (pc' := 258) (v := lN (n * n)) dX8_parts_257 rfl (lN_mul n n) ?_
                        refine ev_lload (pc' := 260) dX8_parts_258 rfl rfl ?_
                        refine ev_lc_gt (p1 := 261) (tgt := 327) (pc' := 264) dX8_parts_260 rfl dX8_parts_261 rfl rfl (fun h => absurd h (fun x => absurd ((pk_lLT (by omega) (by omega)).mp x) (by omega))) (fun _ => ?_)
                        refine ev_lload_n (pc' := 265) (i := 3) dX8_parts_264 rfl rfl rfl ?_
                        refine ev_lload (pc' := 267) dX8_parts_265 rfl rfl ?_
                        refine ev_lload (pc' := 269) dX8_parts_267 rfl rfl ?_
                        refine ev_lmul (pc' := 270) (v := lN (q * q)) dX8_parts_269 rfl (lN_mul q q) ?_
                        refine ev_lrem (pc' := 271) (v := lN (a % (q * q))) dX8_parts_270 rfl hqz (pk_lRem (by omega) (by omega) (by omega)) ?_
                        refine ev_lconst (pc' := 272) (v := 0) dX8_parts_271 rfl kl_0 ?_
                        refine ev_lc_ne (p1 := 273) (tgt := 327) (pc' := 276) dX8_parts_272 rfl dX8_parts_273 rfl rfl (fun h => absurd ((lz_0 (by omega)).mpr hd) h) (fun _ => ?_)
                        refine ev_lload (pc' := 278) dX8_parts_276 rfl rfl ?_
                        refine ev_lload (pc' := 280) dX8_parts_278 rfl rfl ?_
                        refine ev_lload (pc' := 282) dX8_parts_280 rfl rfl ?_
                        refine ev_lmul (pc' := 283) (v := lN (n * n)) dX8_parts_282 rfl (lN_mul n n) ?_
                        refine ev_lrem (pc' := 284) (v := lN (e % (n * n))) dX8_parts_283 rfl hnz (pk_lRem (by omega) (by omega) (by omega)) ?_
                        refine ev_lconst (pc' := 285) (v := 0) dX8_parts_284 rfl kl_0 ?_
                        refine ev_lc_ne (p1 := 286) (tgt := 318) (pc' := 289) dX8_parts_285 rfl dX8_parts_286 rfl rfl (fun h => absurd ((lz_0 (by omega)).mpr hr) h) (fun _ => ?_)
                        refine ev_lload (pc' := 291) dX8_parts_289 rfl rfl ?_
                        refine ev_lload (pc' := 293) dX8_parts_291 rfl rfl ?_
                        refine ev_callS (pc' := 296) (rm' := rX8_divisor) (av := [.long (lN n), .long (lN q)]) (rest := []) co_X8_126 cs_X8_divisor dX8_parts_293 rfl rfl rfl (Nat.le_of_ble_eq_true rfl) ⟨(Nat.le_of_ble_eq_true rfl), (Nat.le_of_ble_eq_true rfl)⟩ ⟨(Nat.le_of_ble_eq_true rfl), (Nat.le_of_ble_eq_true rfl)⟩ ?_
                        refine t_X8_divisor _ _ (by rw [lN_toI (by omega)]; omega) (by rw [lN_toI (by omega)]; omega) ?_
                        refine ev_topl (fun x hx => ?_)
                        rw [lN_toI (by omega), lN_toI (by omega), Int.natAbs_natCast, Int.natAbs_natCast] at hx
                        subst hx
                        refine ev_lconst (pc' := 297) (v := 1) dX8_parts_296 rfl kl_1 ?_
                        refine ev_lc_ne (p1 := 298) (tgt := 318) (pc' := 301) dX8_parts_297 rfl dX8_parts_298 rfl rfl (fun h => absurd ((lz_1 (by omega)).mpr hg) h) (fun _ => ?_)
                        refine ev_aload_n (pc' := 302) (i := 0) dX8_parts_301 rfl rfl rfl ?_
                        refine ev_lload (pc' := 304) dX8_parts_302 rfl rfl ?_
                        refine ev_lload (pc' := 306) dX8_parts_304 rfl rfl ?_
                        refine ev_callV (pc' := 309) (rm' := rX8_tryRoot) (b := 115) (av := [.long (lN n), .long (lN q)]) (rest := []) co_X8_286 ci_X8_tryRoot cv_X8_tryRoot dX8_parts_306 rfl hs_115 hb_X8 rfl rfl (Nat.le_of_ble_eq_true rfl) ⟨(Nat.le_of_ble_eq_true rfl), (Nat.le_of_ble_eq_true rfl)⟩ ⟨(Nat.le_of_ble_eq_true rfl), (Nat.le_of_ble_eq_true rfl)⟩ ?_
                        refine n_X8_tryRoot (I := (ma_up I 115 (ma_up (I 115) 35 (nI b)))) (L := L) (lN n) (lN q) m2 r2 f2 u2 w2 t2 (by omega) (by omega) hqn (fun m3 r3 f3 u3 w3 t3 e3 => ?_)
                        have hi3 : m3 + r3 ≤ 4 := by have q := mTry_in (u := lN n) (w := lN q) (s := (⟨m2, r2, f2, u2, w2, t2⟩ : mP)) (show m2 + r2 ≤ 4 by omega); rw [← e3] at q; exact q
                        refine ev_aload_n (pc' := 310) (i := 0) dX8_parts_309 rfl rfl rfl ?_
                        refine ev_lload (pc' := 312) dX8_parts_310 rfl rfl ?_
                        refine ev_lneg (pc' := 313) (v := -(lN n)) dX8_parts_312 rfl rfl ?_
                        refine ev_lload (pc' := 315) dX8_parts_313 rfl rfl ?_
                        refine ev_callV (pc' := 318) (rm' := rX8_tryRoot) (b := 115) (av := [.long (-(lN n)), .long (lN q)]) (rest := []) co_X8_286 ci_X8_tryRoot cv_X8_tryRoot dX8_parts_315 rfl hs_115 hb_X8 rfl rfl (Nat.le_of_ble_eq_true rfl) ⟨(Nat.le_of_ble_eq_true rfl), (Nat.le_of_ble_eq_true rfl)⟩ ⟨(Nat.le_of_ble_eq_true rfl), (Nat.le_of_ble_eq_true rfl)⟩ ?_
                        refine n_X8_tryRoot (I := (ma_up I 115 (ma_up (I 115) 35 (nI b)))) (L := L) (-(lN n)) (lN q) m3 r3 f3 u3 w3 t3 (by omega) (by omega) hqn (fun m4 r4 f4 u4 w4 t4 e4 => ?_)
                        have hi4 : m4 + r4 ≤ 4 := by have q := mTry_in (u := -(lN n)) (w := lN q) (s := (⟨m3, r3, f3, u3, w3, t3⟩ : mP)) (show m3 + r3 ≤ 4 by omega); rw [← e4] at q; exact q
                        refine ev_lload (pc' := 320) dX8_parts_318 rfl rfl ?_
                        refine ev_lconst (pc' := 321) (v := 1) dX8_parts_320 rfl kl_1 ?_
                        refine ev_ladd (pc' := 322) (v := lN (n + 1)) dX8_parts_321 rfl (lN_add n 1) ?_
                        refine ev_lstore (pc' := 324) (lv' := [some (.ref 115), none, none, some (.long (lN a)), none, some (.long (lN e)), none, some (.long (lN q)), none, some (.long (lN (n + 1))), none]) dX8_parts_322 rfl (Nat.le_of_ble_eq_true rfl) rfl rfl ?_
                        refine ev_goto (tgt := 253) dX8_parts_324 rfl ?_
                        exact ih4 (n + 1) _ _ _ _ _ _ (by omega) (by omega) hi4 (by rw [← hs2, e4, e3])
                      · rw [if_neg (fun x => absurd x.2 hg)] at hs2
                        refine ev_lload (pc' := 255) dX8_parts_253 rfl rfl ?_
                        refine ev_lload (pc' := 257) dX8_parts_255 rfl rfl ?_
                        refine ev_lmul (pc' := 258) (v := lN (n * n)) dX8_parts_257 rfl (lN_mul n n) ?_
                        refine ev_lload (pc' := 260) dX8_parts_258 rfl rfl ?_
                        refine ev_lc_gt (p1 := 261) (tgt := 327) (pc' := 264) dX8_parts_260 rfl dX8_parts_261 rfl rfl (fun h => absurd h (fun x => absurd ((pk_lLT (by omega) (by omega)).mp x) (by omega))) (fun _ => ?_)
                        refine ev_lload_n (pc' := 265) (i := 3) dX8_parts_264 rfl rfl rfl ?_
                        refine ev_lload (pc' := 267) dX8_parts_265 rfl rfl ?_
                        refine ev_lload (pc' := 269) dX8_parts_267 rfl rfl ?_
                        refine ev_lmul (pc' := 270) (v := lN (q * q)) dX8_parts_269 rfl (lN_mul q q) ?_
                        refine ev_lrem (pc' := 271) (v := lN (a % (q * q))) dX8_parts_270 rfl hqz (pk_lRem (by omega) (by omega) (by omega)) ?_
                        refine ev_lconst (pc' := 272) (v := 0) dX8_parts_271 rfl kl_0 ?_
                        refine ev_lc_ne (p1 := 273) (tgt := 327) (pc' := 276) dX8_parts_272 rfl dX8_parts_273 rfl rfl (fun h => absurd ((lz_0 (by omega)).mpr hd) h) (fun _ => ?_)
                        refine ev_lload (pc' := 278) dX8_parts_276 rfl rfl ?_
                        refine ev_lload (pc' := 280) dX8_parts_278 rfl rfl ?_
                        refine ev_lload (pc' := 282) dX8_parts_280 rfl rfl ?_
                        refine ev_lmul (pc' := 283) (v := lN (n * n)) dX8_parts_282 rfl (lN_mul n n) ?_
                        refine ev_lrem (pc' := 284) (v := lN (e % (n * n))) dX8_parts_283 rfl hnz (pk_lRem (by omega) (by omega) (by omega)) ?_
                        refine ev_lconst (pc' := 285) (v := 0) dX8_parts_284 rfl kl_0 ?_
                        refine ev_lc_ne (p1 := 286) (tgt := 318) (pc' := 289) dX8_parts_285 rfl dX8_parts_286 rfl rfl (fun h => absurd ((lz_0 (by omega)).mpr hr) h) (fun _ => ?_)
                        refine ev_lload (pc' := 291) dX8_parts_289 rfl rfl ?_
                        refine ev_lload (pc' := 293) dX8_parts_291 rfl rfl ?_
                        refine ev_callS (pc' := 296) (rm' := rX8_divisor) (av := [.long (lN n), .long (lN q)]) (rest := []) co_X8_126 cs_X8_divisor dX8_parts_293 rfl rfl rfl (Nat.le_of_ble_eq_true rfl) ⟨(Nat.le_of_ble_eq_true rfl), (Nat.le_of_ble_eq_true rfl)⟩ ⟨(Nat.le_of_ble_eq_true rfl), (Nat.le_of_ble_eq_true rfl)⟩ ?_
                        refine t_X8_divisor _ _ (by rw [lN_toI (by omega)]; omega) (by rw [lN_toI (by omega)]; omega) ?_
                        refine ev_topl (fun x hx => ?_)
                        rw [lN_toI (by omega), lN_toI (by omega), Int.natAbs_natCast, Int.natAbs_natCast] at hx
                        subst hx
                        refine ev_lconst (pc' := 297) (v := 1) dX8_parts_296 rfl kl_1 ?_
                        refine ev_lc_ne (p1 := 298) (tgt := 318) (pc' := 301) dX8_parts_297 rfl dX8_parts_298 rfl rfl (fun _ => ?_) (fun h => absurd h (fun x => absurd ((lz_1 (by omega)).mp x) hg))
                        refine ev_lload (pc' := 320) dX8_parts_318 rfl rfl ?_
                        refine ev_lconst (pc' := 321) (v := 1) dX8_parts_320 rfl kl_1 ?_
                        refine ev_ladd (pc' := 322) (v := lN (n + 1)) dX8_parts_321 rfl (lN_add n 1) ?_
                        refine ev_lstore (pc' := 324) (lv' := [some (.ref 115), none, none, some (.long (lN a)), none, some (.long (lN e)), none, some (.long (lN q)), none, some (.long (lN (n + 1))), none]) dX8_parts_322 rfl (Nat.le_of_ble_eq_true rfl) rfl rfl ?_
                        refine ev_goto (tgt := 253) dX8_parts_324 rfl ?_
                        exact ih4 (n + 1) _ _ _ _ _ _ (by omega) (by omega) hi2 hs2
                    · rw [if_neg (fun x => absurd x.1 hr)] at hs2
                      refine ev_lload (pc' := 255) dX8_parts_253 rfl rfl ?_
                      refine ev_lload (pc' := 257) dX8_parts_255 rfl rfl ?_
                      refine ev_lmul (pc' := 258) (v := lN (n * n)) dX8_parts_257 rfl (lN_mul n n) ?_
                      refine ev_lload (pc' := 260) dX8_parts_258 rfl rfl ?_
                      refine ev_lc_gt (p1 := 261) (tgt := 327) (pc' := 264) dX8_parts_260 rfl dX8_parts_261 rfl rfl (fun h => absurd h (fun x => absurd ((pk_lLT (by omega) (by omega)).mp x) (by omega))) (fun _ => ?_)
                      refine ev_lload_n (pc' := 265) (i := 3) dX8_parts_264 rfl rfl rfl ?_
                      refine ev_lload (pc' := 267) dX8_parts_265 rfl rfl ?_
                      refine ev_lload (pc' := 269) dX8_parts_267 rfl rfl ?_
                      refine ev_lmul (pc' := 270) (v := lN (q * q)) dX8_parts_269 rfl (lN_mul q q) ?_
                      refine ev_lrem (pc' := 271) (v := lN (a % (q * q))) dX8_parts_270 rfl hqz (pk_lRem (by omega) (by omega) (by omega)) ?_
                      refine ev_lconst (pc' := 272) (v := 0) dX8_parts_271 rfl kl_0 ?_
                      refine ev_lc_ne (p1 := 273) (tgt := 327) (pc' := 276) dX8_parts_272 rfl dX8_parts_273 rfl rfl (fun h => absurd ((lz_0 (by omega)).mpr hd) h) (fun _ => ?_)
                      refine ev_lload (pc' := 278) dX8_parts_276 rfl rfl ?_
                      refine ev_lload (pc' := 280) dX8_parts_278 rfl rfl ?_
                      refine ev_lload (pc' := 282) dX8_parts_280 rfl rfl ?_
                      refine ev_lmul (pc' := 283) (v := lN (n * n)) dX8_parts_282 rfl (lN_mul n n) ?_
                      refine ev_lrem (pc' := 284) (v := lN (e % (n * n))) dX8_parts_283 rfl hnz (pk_lRem (by omega) (by omega) (by omega)) ?_
                      refine ev_lconst (pc' := 285) (v := 0) dX8_parts_284 rfl kl_0 ?_
                      refine ev_lc_ne (p1 := 286) (tgt := 318) (pc' := 289) dX8_parts_285 rfl dX8_parts_286 rfl rfl (fun _ => ?_) (fun h => absurd h (fun x => absurd ((lz_0 (by omega)).mp x) hr))
                      refine ev_lload (pc' := 320) dX8_parts_318 rfl rfl ?_
                      refine ev_lconst (pc' := 321) (v := 1) dX8_parts_320 rfl kl_1 ?_
                      refine ev_ladd (pc' := 322) (v := lN (n + 1)) dX8_parts_321 rfl (lN_add n 1) ?_
                      refine ev_lstore (pc' := 324) (lv' := [some (.ref 115), none, none, some (.long (lN a)), none, some (.long (lN e)), none, some (.long (lN q)), none, some (.long (lN (n + 1))), none]) dX8_parts_322 rfl (Nat.le_of_ble_eq_true rfl) rfl rfl ?_
                      refine ev_goto (tgt := 253) dX8_parts_324 rfl ?_
                      exact ih4 (n + 1) _ _ _ _ _ _ (by omega) (by omega) hi2 hs2
                  · rw [mLM, if_neg (fun x => absurd x.2 hd)] at hs2
                    have ht2 : (⟨m2, r2, f2, u2, w2, t2⟩ : mP) = mLM a e q (e + 1) 1 (⟨m1, r1, f1, u1, w1, t1⟩ : mP) := hs2
                    refine ev_lload (pc' := 255) dX8_parts_253 rfl rfl ?_
                    refine ev_lload (pc' := 257) dX8_parts_255 rfl rfl ?_
                    refine ev_lmul (pc' := 258) (v := lN (n * n)) dX8_parts_257 rfl (lN_mul n n) ?_
                    refine ev_lload (pc' := 260) dX8_parts_258 rfl rfl ?_
                    refine ev_lc_gt (p1 := 261) (tgt := 327) (pc' := 264) dX8_parts_260 rfl dX8_parts_261 rfl rfl (fun h => absurd h (fun x => absurd ((pk_lLT (by omega) (by omega)).mp x) (by omega))) (fun _ => ?_)
                    refine ev_lload_n (pc' := 265) (i := 3) dX8_parts_264 rfl rfl rfl ?_
                    refine ev_lload (pc' := 267) dX8_parts_265 rfl rfl ?_
                    refine ev_lload (pc' := 269) dX8_parts_267 rfl rfl ?_
                    refine ev_lmul (pc' := 270) (v := lN (q * q)) dX8_parts_269 rfl (lN_mul q q) ?_
                    refine ev_lrem (pc' := 271) (v := lN (a % (q * q))) dX8_parts_270 rfl hqz (pk_lRem (by omega) (by omega) (by omega)) ?_
                    refine ev_lconst (pc' := 272) (v := 0) dX8_parts_271 rfl kl_0 ?_
                    refine ev_lc_ne (p1 := 273) (tgt := 327) (pc' := 276) dX8_parts_272 rfl dX8_parts_273 rfl rfl (fun _ => ?_) (fun h => absurd h (fun x => absurd ((lz_0 (by omega)).mp x) hd))
                    refine ev_lload (pc' := 329) dX8_parts_327 rfl rfl ?_
                    refine ev_lconst (pc' := 330) (v := 1) dX8_parts_329 rfl kl_1 ?_
                    refine ev_ladd (pc' := 331) (v := lN (q + 1)) dX8_parts_330 rfl (lN_add q 1) ?_
                    refine ev_lstore (pc' := 333) (lv' := [some (.ref 115), none, none, some (.long (lN a)), none, some (.long (lN e)), none, some (.long (lN (q + 1))), none, some (.long (lN n)), none]) dX8_parts_331 rfl (Nat.le_of_ble_eq_true rfl) rfl rfl ?_
                    refine ev_goto (tgt := 240) dX8_parts_333 rfl ?_
                    refine ev_lvw (lv' := [some (.ref 115), none, none, some (.long (lN a)), none, some (.long (lN e)), none, some (.long (lN (q + 1))), none, none, none]) ⟨rfl, ⟨rfl, ⟨rfl, ⟨rfl, trivial⟩⟩⟩⟩ ?_
                    exact ih3 (q + 1) _ _ _ _ _ _ (by omega) (by omega) hi2 (by rw [← hs1, ← ht2])
                · rw [mLM, if_neg (fun x => absurd x.1 hn)] at hs2
                  have ht2 : (⟨m2, r2, f2, u2, w2, t2⟩ : mP) = mLM a e q (e + 1) 1 (⟨m1, r1, f1, u1, w1, t1⟩ : mP) := hs2
                  refine ev_lload (pc' := 255) dX8_parts_253 rfl rfl ?_
                  refine ev_lload (pc' := 257) dX8_parts_255 rfl rfl ?_
                  refine ev_lmul (pc' := 258) (v := lN (n * n)) dX8_parts_257 rfl (lN_mul n n) ?_
                  refine ev_lload (pc' := 260) dX8_parts_258 rfl rfl ?_
                  refine ev_lc_gt (p1 := 261) (tgt := 327) (pc' := 264) dX8_parts_260 rfl dX8_parts_261 rfl rfl (fun _ => ?_) (fun h => absurd ((pk_lLT (by omega) (by omega)).mpr (by omega)) h)
                  refine ev_lload (pc' := 329) dX8_parts_327 rfl rfl ?_
                  refine ev_lconst (pc' := 330) (v := 1) dX8_parts_329 rfl kl_1 ?_
                  refine ev_ladd (pc' := 331) (v := lN (q + 1)) dX8_parts_330 rfl (lN_add q 1) ?_
                  refine ev_lstore (pc' := 333) (lv' := [some (.ref 115), none, none, some (.long (lN a)), none, some (.long (lN e)), none, some (.long (lN (q + 1))), none, some (.long (lN n)), none]) dX8_parts_331 rfl (Nat.le_of_ble_eq_true rfl) rfl rfl ?_
                  refine ev_goto (tgt := 240) dX8_parts_333 rfl ?_
                  refine ev_lvw (lv' := [some (.ref 115), none, none, some (.long (lN a)), none, some (.long (lN e)), none, some (.long (lN (q + 1))), none, none, none]) ⟨rfl, ⟨rfl, ⟨rfl, ⟨rfl, trivial⟩⟩⟩⟩ ?_
                  exact ih3 (q + 1) _ _ _ _ _ _ (by omega) (by omega) hi2 (by rw [← hs1, ← ht2])
            · rw [mLQ, if_neg hq] at hs1
              have ht : (⟨m1, r1, f1, u1, w1, t1⟩ : mP) = mLQ a e (a + 1) 1 (⟨m, r, f, u, w, t⟩ : mP) := hs1
              refine ev_lload (pc' := 242) dX8_parts_240 rfl rfl ?_
              refine ev_lload (pc' := 244) dX8_parts_242 rfl rfl ?_
              refine ev_lmul (pc' := 245) (v := lN (q * q)) dX8_parts_244 rfl (lN_mul q q) ?_
              refine ev_lload_n (pc' := 246) (i := 3) dX8_parts_245 rfl rfl rfl ?_
              refine ev_lc_gt (p1 := 247) (tgt := 336) (pc' := 250) dX8_parts_246 rfl dX8_parts_247 rfl rfl (fun _ => ?_) (fun h => absurd ((pk_lLT (by omega) (by omega)).mpr (by omega)) h)
              refine ev_aload_n (pc' := 337) (i := 0) dX8_parts_336 rfl rfl rfl ?_
              refine ev_callV (pc' := 340) (rm' := rX8_sortRoots) (b := 115) (av := []) (rest := []) co_X8_289 ci_X8_sortRoots cv_X8_sortRoots dX8_parts_337 rfl hs_115 hb_X8 rfl rfl (Nat.le_of_ble_eq_true rfl) ⟨(Nat.le_of_ble_eq_true rfl), (Nat.le_of_ble_eq_true rfl)⟩ ⟨(Nat.le_of_ble_eq_true rfl), (Nat.le_of_ble_eq_true rfl)⟩ ?_
              refine t_X8_sortRoots (I := (ma_up I 115 (ma_up (I 115) 35 (nI b)))) (L := L) m1 r1 f1 u1 w1 t1 (by omega) (fun m' r' f' u' w' t' e' => ?_)
              refine ev_iconst (pc' := 341) (v := 1) dX8_parts_340 rfl ki_1 ?_
              refine ev_iret dX8_parts_341 rfl rfl ⟨Nat.le_refl _, Nat.le_refl _⟩ ?_
              exact k1 b m0 m' r' f' u' w' t' hm0 h hb0 (by rw [e']; unfold mPar mS3; rw [← hs]; unfold mS2; rw [← he, show (f 0).toInt.natAbs = a from ha.symm, ← ht])
        | succ d2 ih2 =>
          intro k hk
          refine ev_iload_n (pc' := 102) (i := 3) dX8_parts_101 rfl rfl rfl ?_
          refine ev_aload_n (pc' := 103) (i := 0) dX8_parts_102 rfl rfl rfl ?_
          refine ev_getI (pc' := 106) (v := nI m0) fo_X8_267 dX8_parts_103 rfl hs_115 rfl rfl ?_
          refine ev_icmp_gt (tgt := 134) (pc' := 109) dX8_parts_106 rfl rfl (fun h => absurd h (nx_nlt (a := m0) (b := k) (by omega) (by omega))) (fun _ => ?_)
          refine ev_aload_n (pc' := 110) (i := 0) dX8_parts_109 rfl rfl rfl ?_
          refine ev_getR (pc' := 113) fo_X8_94 dX8_parts_110 rfl hs_115 rfl rf_115_37 ?_
          refine ev_iload_n (pc' := 114) (i := 3) dX8_parts_113 rfl rfl rfl ?_
          refine ev_aload_n (pc' := 115) (i := 0) dX8_parts_114 rfl rfl rfl ?_
          refine ev_getR (pc' := 118) fo_X8_64 dX8_parts_115 rfl hs_115 rfl rf_115_23 ?_
          refine ev_aload_n (pc' := 119) (i := 0) dX8_parts_118 rfl rfl rfl ?_
          refine ev_getI (pc' := 122) (v := nI b) fo_X8_280 dX8_parts_119 rfl hs_115 rfl rfl ?_
          refine ev_iload_n (pc' := 123) (i := 3) dX8_parts_122 rfl rfl rfl ?_
          refine ev_iadd (pc' := 124) (v := nI (b + k)) dX8_parts_123 rfl (nI_add b k) ?_
          refine ev_lald (pc' := 125) (j := b + k) (v := (L 132) (b + k)) dX8_parts_124 rfl hs_132 rfl (by omega) (Nat.le_of_ble_eq_true rfl) rfl ?_
          refine ev_lload_n (pc' := 126) (i := 1) dX8_parts_125 rfl rfl rfl ?_
          refine ev_ldiv (pc' := 127) (v := ((L 132) (b + k)) / (lN (mGc (fun j => L 132 (b + j)) (m0 + 1)))) dX8_parts_126 rfl hC0 rfl ?_
          refine ev_last (pc' := 128) (j := k) (L' := (ma_up L 142 (ma_up (mF0 b m0 (L 132) (L 142) k) k (((L 132) (b + k)) / (lN (mGc (fun j => L 132 (b + j)) (m0 + 1))))))) dX8_parts_127 rfl hs_142 rfl (by omega) (Nat.le_of_ble_eq_true rfl) (ma_up_up _ _ _ _) ?_
          refine ev_iinc (pc' := 131) (v := nI (k + 1)) (lv' := [some (.ref 115), some (.long (lN (mGc (fun j => L 132 (b + j)) (m0 + 1)))), none, some (.int (nI (k + 1))), none, none, none, none, none, none, none]) dX8_parts_128 rfl rfl (nI_add k 1) (Nat.le_of_ble_eq_true rfl) rfl rfl ?_
          refine ev_goto (tgt := 101) dX8_parts_131 rfl ?_
          refine ev_memL (fun x hx => ?_)
          have hx := hx.trans (congrArg (ma_up L 142) (mF0_s b m0 (L 132) (L 142) k))
          subst hx
          exact ih2 (k + 1) (by omega)
      | succ d1 ih1 =>
        intro k hk
        refine ev_iload_n (pc' := 70) (i := 3) dX8_parts_69 rfl rfl rfl ?_
        refine ev_aload_n (pc' := 71) (i := 0) dX8_parts_70 rfl rfl rfl ?_
        refine ev_getI (pc' := 74) (v := nI m0) fo_X8_267 dX8_parts_71 rfl hs_115 rfl rfl ?_
        refine ev_icmp_gt (tgt := 99) (pc' := 77) dX8_parts_74 rfl rfl (fun h => absurd h (nx_nlt (a := m0) (b := k) (by omega) (by omega))) (fun _ => ?_)
        refine ev_lload_n (pc' := 78) (i := 1) dX8_parts_77 rfl rfl rfl ?_
        refine ev_aload_n (pc' := 79) (i := 0) dX8_parts_78 rfl rfl rfl ?_
        refine ev_getR (pc' := 82) fo_X8_64 dX8_parts_79 rfl hs_115 rfl rf_115_23 ?_
        refine ev_aload_n (pc' := 83) (i := 0) dX8_parts_82 rfl rfl rfl ?_
        refine ev_getI (pc' := 86) (v := nI b) fo_X8_280 dX8_parts_83 rfl hs_115 rfl rfl ?_
        refine ev_iload_n (pc' := 87) (i := 3) dX8_parts_86 rfl rfl rfl ?_
        refine ev_iadd (pc' := 88) (v := nI (b + k)) dX8_parts_87 rfl (nI_add b k) ?_
        refine ev_lald (pc' := 89) (j := b + k) (v := (L 132) (b + k)) dX8_parts_88 rfl hs_132 rfl (by omega) (Nat.le_of_ble_eq_true rfl) rfl ?_
        refine ev_callS (pc' := 92) (rm' := rX8_divisor) (av := [.long (lN (mGc (fun j => L 132 (b + j)) k)), .long ((L 132) (b + k))]) (rest := []) co_X8_126 cs_X8_divisor dX8_parts_89 rfl rfl rfl (Nat.le_of_ble_eq_true rfl) ⟨(Nat.le_of_ble_eq_true rfl), (Nat.le_of_ble_eq_true rfl)⟩ ⟨(Nat.le_of_ble_eq_true rfl), (Nat.le_of_ble_eq_true rfl)⟩ ?_
        have hk1 := hCl k (by omega)
        have hk2 := hF (b + k) (by omega)
        refine t_X8_divisor _ _ (by rw [lN_toI (by omega)]; omega) (by omega) ?_
        refine ev_topl (fun x hx => ?_)
        rw [lN_toI (by omega), Int.natAbs_natCast] at hx
        have hx : x = lN (mGc (fun j => L 132 (b + j)) (k + 1)) := hx
        subst hx
        refine ev_lstore_n (pc' := 93) (i := 1) (lv' := [some (.ref 115), some (.long (lN (mGc (fun j => L 132 (b + j)) (k + 1)))), none, some (.int (nI k)), none, none, none, none, none, none, none]) dX8_parts_92 rfl rfl (Nat.le_of_ble_eq_true rfl) rfl rfl ?_
        refine ev_iinc (pc' := 96) (v := nI (k + 1)) (lv' := [some (.ref 115), some (.long (lN (mGc (fun j => L 132 (b + j)) (k + 1)))), none, some (.int (nI (k + 1))), none, none, none, none, none, none, none]) dX8_parts_93 rfl rfl (nI_add k 1) (Nat.le_of_ble_eq_true rfl) rfl rfl ?_
        refine ev_goto (tgt := 69) dX8_parts_96 rfl ?_
        exact ih1 (k + 1) (by omega)
    · refine ev_aload_n (pc' := 33) (i := 0) dX8_parts_32 rfl rfl rfl ?_
      refine ev_dup (pc' := 34) dX8_parts_33 rfl rfl ?_
      refine ev_getI (pc' := 37) (v := nI b) fo_X8_280 dX8_parts_34 rfl hs_115 rfl rfl ?_
      refine ev_iconst (pc' := 38) (v := 1) dX8_parts_37 rfl ki_1 ?_
      refine ev_iadd (pc' := 39) (v := nI (b + 1)) dX8_parts_38 rfl (nI_add b 1) ?_
      refine ev_putI (pc' := 42) (I' := (ma_up I 115 (ma_up (ma_up (I 115) 31 0) 35 (nI (b + 1))))) fo_X8_280 dX8_parts_39 rfl hs_115 rfl (fun r hr => by cases hr; rfl) ⟨rfl, rfl⟩ ((congrArg (ma_up _ 115) (ma_up_up _ _ _ _)).trans (ma_up_up _ _ _ _)) ?_
      refine ev_goto (tgt := 10) dX8_parts_42 rfl ?_
      exact ih (b + 1) (by omega) (pt_all h c1)
