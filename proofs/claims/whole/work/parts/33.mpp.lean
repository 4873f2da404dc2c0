theorem mW_congr {t t' : Nat → Int64} (h : ∀ j, j < 16 → t j = t' j) : mW t = mW t' := by
  unfold mW
  rw [h 0 (by omega), h 1 (by omega), h 2 (by omega), h 3 (by omega), h 4 (by omega), h 5 (by omega), h 6 (by omega), h 7 (by omega), h 8 (by omega), h 9 (by omega), h 10 (by omega), h 11 (by omega), h 12 (by omega), h 13 (by omega), h 14 (by omega), h 15 (by omega)]
theorem mSel_congr (s : Nat) {a b a' b' : Nat → Int32} (ha : ∀ j, j < 16 → a j = a' j) (hb : ∀ j, j < 16 → b j = b' j) : ∀ j, j < 16 → mSel s a b j = mSel s a' b' j := fun j hj => by
  unfold mSel; rw [ha j hj, hb j hj]
theorem mSf_congr (l : List Nat) {a b a' b' : Nat → Int32} (ha : ∀ j, j < 16 → a j = a' j) (hb : ∀ j, j < 16 → b j = b' j) : mSf l a b = mSf l a' b' := by
  unfold mSf
  congr 1
  funext x s
  rw [mW_congr (mSel_congr s ha hb)]
/-- the form of two tables -/
def mFm (a b : Nat → Int32) : Nat → Int64
  | 0 => mSf [15] a b
  | 1 => mSf [7, 11, 13, 14] a b
  | 2 => mSf [3, 5, 6, 9, 10, 12] a b
  | 3 => mSf [1, 2, 4, 8] a b
  | _ => mSf [0] a b
theorem mFm_congr {a b a' b' : Nat → Int32} (ha : ∀ j, j < 16 → a j = a' j) (hb : ∀ j, j < 16 → b j = b' j) : mFm a b = mFm a' b' := by
  funext j
  match j with
  | 0 => exact mSf_congr _ ha hb
  | 1 => exact mSf_congr _ ha hb
  | 2 => exact mSf_congr _ ha hb
  | 3 => exact mSf_congr _ ha hb
  | j + 4 => exact mSf_congr _ ha hb
theorem mFm_of {f : Nat → Int64} {a b : Nat → Int32} (h0 : f 0 = mSf [15] a b) (h1 : f 1 = mSf [7, 11, 13, 14] a b) (h2 : f 2 = mSf [3, 5, 6, 9, 10, 12] a b) (h3 : f 3 = mSf [1, 2, 4, 8] a b) (h4 : f 4 = mSf [0] a b) : ∀ j, j < 5 → f j = mFm a b j
  | 0, _ => h0
  | 1, _ => h1
  | 2, _ => h2
  | 3, _ => h3
  | 4, _ => h4
  | j + 5, h => absurd h (by omega)
theorem mGc_congr {g g' : Nat → Int64} : ∀ n, (∀ j, j < n → g j = g' j) → mGc g n = mGc g' n
  | 0, _ => rfl
  | n + 1, h => by unfold mGc; rw [mGc_congr n (fun j hj => h j (by omega)), h n (by omega)]
theorem mPar_congr {b m : Nat} (hm : m + b = 4) {f f' : Nat → Int64} (h : ∀ j, j < 5 → f j = f' j) (l u w : Nat → Int64) (t : Nat → Int32) : mPar b m f l u w t = mPar b m f' l u w t := by
  have e : mF0 b m f l (m + 1) = mF0 b m f' l (m + 1) := by
    funext j
    unfold mF0
    by_cases q : j < m + 1
    · rw [if_pos q, if_pos q, h (b + j) (by omega), mGc_congr (g := fun j => f (b + j)) (g' := fun j => f' (b + j)) (m + 1) (fun j hj => h (b + j) (by omega))]
    · rw [if_neg q, if_neg q]
  unfold mPar mS0
  rw [e]
theorem mLM_in (a e q : Nat) : ∀ (d n : Nat) (s : mP), s.m + s.r ≤ 4 → (mLM a e q d n s).m + (mLM a e q d n s).r ≤ 4
  | 0, _, s, h => h
  | d + 1, n, s, h => by
    unfold mLM
    by_cases c : n * n ≤ e ∧ a % (q * q) = 0
    · rw [if_pos c]
      apply mLM_in
      by_cases c2 : e % (n * n) = 0 ∧ Nat.gcd n q = 1
      · rw [if_pos c2]; exact mTry_in (mTry_in h)
      · rw [if_neg c2]; exact h
    · rw [if_neg c]; exact h
theorem mLQ_in (a e : Nat) : ∀ (d q : Nat) (s : mP), s.m + s.r ≤ 4 → (mLQ a e d q s).m + (mLQ a e d q s).r ≤ 4
  | 0, _, s, h => h
  | d + 1, q, s, h => by
    unfold mLQ
    by_cases c : q * q ≤ a
    · rw [if_pos c]; exact mLQ_in a e d _ _ (mLM_in a e q _ _ _ h)
    · rw [if_neg c]; exact h
theorem mSw_mr (i j : Nat) (s : mP) : (mSw i j s).m = s.m ∧ (mSw i j s).r = s.r := by
  unfold mSw
  by_cases c : s.u i * s.w j < s.u j * s.w i
  · rw [if_pos c]; exact ⟨rfl, rfl⟩
  · rw [if_neg c]; exact ⟨rfl, rfl⟩
theorem mSoI_mr (i : Nat) : ∀ (j : Nat) (s : mP), (mSoI i j s).m = s.m ∧ (mSoI i j s).r = s.r
  | 0, s => ⟨rfl, rfl⟩
  | j + 1, s => by
    have h1 := mSw_mr i j (mSoI i j s)
    have h2 := mSoI_mr i j s
    exact ⟨h1.1.trans h2.1, h1.2.trans h2.2⟩
theorem mSo_mr : ∀ (i : Nat) (s : mP), (mSo i s).m = s.m ∧ (mSo i s).r = s.r
  | 0, s => ⟨rfl, rfl⟩
  | i + 1, s => by
    have h1 := mSoI_mr i i (mSo i s)
    have h2 := mSo_mr i s
    exact ⟨h1.1.trans h2.1, h1.2.trans h2.2⟩
theorem mS1_in {s : mP} (h : s.m + s.r ≤ 4) : (mS1 s).m + (mS1 s).r ≤ 4 := by
  unfold mS1
  by_cases c : 1 < s.m ∧ s.f s.m = 0 ∧ s.f (s.m - 1) = 0
  · rw [if_pos c]
    have h1 := mTk_lt (u := 0) (w := 1) (f := s.f) (m := s.m) (by omega) (by rw [mAt_01 (by omega)]; exact c.2.1)
    show (mTk 0 1 s.m s.f).1 + (s.r + 1) ≤ 4
    omega
  · rw [if_neg c]; exact h
theorem mPar_in {b m : Nat} (hm : m + b = 4) (f l u w : Nat → Int64) (t : Nat → Int32) : (mPar b m f l u w t).m + (mPar b m f l u w t).r ≤ 4 := by
  have h1 := mS1_in (s := mS0 b m f l u w t) (show m + 0 ≤ 4 by omega)
  have h2 := mLQ_in ((mS1 (mS0 b m f l u w t)).f 0).toInt.natAbs (mEnd (mS1 (mS0 b m f l u w t))) (((mS1 (mS0 b m f l u w t)).f 0).toInt.natAbs + 1) 1 _ h1
  have h3 := mSo_mr (mS2 (mS1 (mS0 b m f l u w t))).r (mS2 (mS1 (mS0 b m f l u w t)))
  unfold mPar mS3
  rw [h3.1, h3.2]
  exact h2
/-- what parts() finds in a form that isn't all 0 -/
def mPd (F : Nat → Int64) (bb m0 : Nat) (s : mP) : Prop := m0 + bb = 4 ∧ (∀ j, j < bb → F j = 0) ∧ ¬ F bb = 0 ∧ ∃ l u w t, s = mPar bb m0 F l u w t
theorem mPd_in {F : Nat → Int64} {bb m0 : Nat} {s : mP} (h : mPd F bb m0 s) : s.m + s.r ≤ 4 := by
  obtain ⟨h1, _, _, l, u, w, t, rfl⟩ := h
  exact mPar_in h1 _ _ _ _ _
/-- where it lies -/
def mPJ (s : mP) (bb : Nat) (J : ma_I) (K : ma_L) : Prop := J 115 36 = nI s.m ∧ J 115 31 = nI s.r ∧ J 115 35 = nI bb ∧ K 142 = s.f ∧ K 139 = s.u ∧ K 140 = s.w ∧ J 141 = s.t
/-- the long numbers of a quartic that is left are right -/
def mPq (F : Nat → Int64) : Prop := ∀ bb m0 s, mPd F bb m0 s → s.m = 4 → mQok s.f
theorem rl_ite (c : Prop) [Decidable c] (a b : Nat) (ha : a < 5) (hb : b < 5) : ∃ n, n < 5 ∧ (if c then nI a else nI b) = nI n := by
  by_cases q : c
  · rw [if_pos q]; exact ⟨a, ha, rfl⟩
  · rw [if_neg q]; exact ⟨b, hb, rfl⟩
theorem mLL_rl {m : Nat} (hm : m < 5) (f : Nat → Int64) : ∃ n, n < 5 ∧ (mLL m f).1 = nI n := by
  match m, hm with
  | 0, _ => exact ⟨0, by omega, rfl⟩
  | 1, _ => exact ⟨1, by omega, rfl⟩
  | 2, _ => exact rl_ite _ 0 2 (by omega) (by omega)
  | 3, _ => exact rl_ite _ 1 3 (by omega) (by omega)
  | 4, _ =>
    show ∃ n, n < 5 ∧ (mQr (mQi f) (mQj f) (mQp f) (f 0)).1 = nI n
    unfold mQr
    split
    · split
      · exact ⟨2, by omega, rfl⟩
      · split
        · exact rl_ite _ 2 0 (by omega) (by omega)
        · exact rl_ite _ 4 0 (by omega) (by omega)
    · exact ⟨2, by omega, rfl⟩
theorem f_X8_parts {g : ma_G} {Post : ma_P} {I : ma_I} {L : ma_L} (F : Nat → Int64) (hf : ∀ j, j < 5 → L 132 j = F j) (hF : ∀ j, j < 5 → (F j).toInt.natAbs < 2147483648) (k0 : (∀ j, j < 5 → F j = 0) → ∀ J : ma_I, J 115 31 = 0 → J 115 35 = 5 → mSx [] [36, 31, 35] I J → Post (some (.int 0)) HS J L RF 146) (k1 : ∀ (bb m0 : Nat) (s : mP) (J : ma_I) (K : ma_L), mPd F bb m0 s → mPJ s bb J K → mSx [141] [36, 31, 35] I J → mSl [142, 139, 140] L K → Post (some (.int 1)) HS J K RF 146) : CT g yX8_parts cX8_parts 11 (some .boolean) rX8_parts [.ref 115] Post HS I L RF 146 := by
  refine t_X8_parts (fun j hj => by rw [hf j hj]; exact hF j hj) (fun h => ?_) (fun b m0 m r f u w t h1 h2 h3 h4 => ?_)
  · refine k0 (fun j hj => (hf j hj).symm.trans (h j hj)) _ rfl rfl ⟨fun a h1 h2 => ma_up_n _ _ h1, fun k h => ?_⟩
    simp only [List.mem_cons, List.not_mem_nil, or_false, not_or] at h
    simp [ma_up, h]
  · refine k1 b m0 ⟨m, r, f, u, w, t⟩ _ _ ⟨h1, fun j hj => (hf j (by omega)).symm.trans (h2 j hj), fun q => h3 ((hf b (by omega)).trans q), L 142, L 139, L 140, I 141, h4.trans (mPar_congr h1 hf _ _ _ _)⟩ ⟨rfl, rfl, rfl, rfl, rfl, rfl, rfl⟩ ⟨fun a h1 h2 => ?_, fun k h => ?_⟩ (fun a h => ?_)
    · simp only [List.mem_cons, List.not_mem_nil, or_false] at h2
      rw [ma_up_n _ _ h1, ma_up_n _ _ h2, ma_up_n _ _ h1]
    · simp only [List.mem_cons, List.not_mem_nil, or_false, not_or] at h
      show ma_up (ma_up (ma_up (I 115) 35 (nI b)) 36 (nI m)) 31 (nI r) k = I 115 k
      rw [ma_up_n _ _ h.2.1, ma_up_n _ _ h.1, ma_up_n _ _ h.2.2]
    · simp only [List.mem_cons, List.not_mem_nil, or_false, not_or] at h
      rw [ma_up_n _ _ h.2.2, ma_up_n _ _ h.2.1, ma_up_n _ _ h.1]
theorem f_X8_layLeft {g : ma_G} {Post : ma_P} {I : ma_I} {L : ma_L} (m : Nat) (hm : m < 5) (hd : I 115 36 = nI m) (hq : m = 4 → mQok (L 142)) (k : ∀ (J : ma_I) (K : ma_L) (rl tw : Int32), (rl, tw) = mLL m (L 142) → J 115 38 = rl → J 115 39 = tw → mSx [] [38, 39] I J → mSl [138, 136, 137] L K → Post none HS J K RF 146) : CT g yX8_layLeft cX8_layLeft 1 none rX8_layLeft [.ref 115] Post HS I L RF 146 := by
  refine u_X8_layLeft m hm hd hq (fun Y Z W rl tw h => k _ _ rl tw h rfl rfl ⟨fun a h1 h2 => ma_up_n _ _ h1, fun k h => ?_⟩ (fun a h => ?_))
  · simp only [List.mem_cons, List.not_mem_nil, or_false, not_or] at h
    show ma_up (ma_up (I 115) 39 tw) 38 rl k = I 115 k
    rw [ma_up_n _ _ h.1, ma_up_n _ _ h.2]
  · simp only [List.mem_cons, List.not_mem_nil, or_false, not_or] at h
    rw [ma_up_n _ _ h.2.2, ma_up_n _ _ h.2.1, ma_up_n _ _ h.1]
