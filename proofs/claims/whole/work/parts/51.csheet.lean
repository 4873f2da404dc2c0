set_option maxRecDepth 4000 in
theorem t_X3_missing {g : ma_G} {Post : ma_P} {I : ma_I} {L : ma_L} (a b : Nat) (ha : HS a = (3, 2)) (hr : RF a 0 = b) (hb : HS b = (9, 16)) (hab : a ≠ b)  (k : Post (some (.int (if ¬ 0 ≤ ((I a) 1) then (1 : Int32) else 0))) HS I L RF 146) : CT g yX3_missing cX3_missing 1 (some .boolean) rX3_missing [.ref a] Post HS I L RF 146 := by
  refine ct_of (lv := [some (.ref a)]) (by decide) (Nat.le_of_ble_eq_true rfl) rfl ?_
  refine ev_aload_n (pc' := 1) (i := 0) dX3_missing_0 rfl rfl rfl ?_
  refine ev_getI (pc' := 4) (v := (I a) 1) fo_X3_15 dX3_missing_1 rfl ha rfl rfl ?_
  suffices K3 : ∀ x2 : Int32, x2 = (if ¬ 0 ≤ ((I a) 1) then (1 : Int32) else 0) → EV g yX3_missing cX3_missing 1 (some .boolean) rX3_missing (ma_ZM g rX3_missing Post) 12 [some (.ref a)] [.int x2] HS I L RF 146 0 0 by
    refine ev_if_ge (tgt := 11) (pc' := 7) dX3_missing_4 rfl rfl (fun c4 => ?_) (fun c4 => ?_)
    · refine ev_iconst (pc' := 12) (v := 0) dX3_missing_11 rfl ki_0 ?_
      exact K3 _ (if_neg (not_not_intro c4)).symm
    · refine ev_iconst (pc' := 8) (v := 1) dX3_missing_7 rfl ki_1 ?_
      refine ev_goto (tgt := 12) dX3_missing_8 rfl ?_
      exact K3 _ (if_pos c4).symm
  intro x2 hx2
  subst hx2
  refine ev_iret dX3_missing_12 rfl b01_n ⟨Nat.le_refl _, Nat.le_refl _⟩ ?_
  exact k
def cBg (I : ma_I) (a b : Nat) (n : Int32) : ma_I := ma_up (mfill I b 0 16 (fun _ => 0)) a (ma_up ((mfill I b 0 16 (fun _ => 0)) a) 1 n)
set_option maxRecDepth 4000 in
theorem t_X3_begin {g : ma_G} {Post : ma_P} {I : ma_I} {L : ma_L} (a b : Nat) (ha : HS a = (3, 2)) (hr : RF a 0 = b) (hb : HS b = (9, 16)) (hab : a ≠ b) (n : Int32) (k : Post none HS (cBg I a b n) L RF 146) : CT g yX3_begin cX3_begin 3 none rX3_begin [.ref a, .int n] Post HS I L RF 146 := by
  refine ct_of (lv := [some (.ref a), some (.int n), none]) (by decide) (Nat.le_of_ble_eq_true rfl) rfl ?_
  refine ev_iconst (pc' := 1) (v := 0) dX3_begin_0 rfl ki_0 ?_
  refine ev_istore_n (pc' := 2) (i := 2) (lv' := [some (.ref a), some (.int n), some (.int 0)]) dX3_begin_1 rfl rfl (Nat.le_of_ble_eq_true rfl) rfl rfl ?_
  suffices lp : ∀ (d i : Nat), i + d = 16 → EV g yX3_begin cX3_begin 3 none rX3_begin (ma_ZM g rX3_begin Post) 2 [some (.ref a), some (.int n), some (.int (nI i))] [] HS (mfill I b 0 i (fun _ => 0)) L RF 146 0 0 by
    have q := lp 16 0 rfl
    rw [mfill_0] at q
    exact q
  intro d
  induction d with
  | zero =>
    intro i hi
    obtain rfl : i = 16 := by omega
    refine ev_iload_n (pc' := 3) (i := 2) dX3_begin_2 rfl rfl rfl ?_
    refine ev_bipush (pc' := 5) (v := 16) dX3_begin_3 rfl kb_16 ?_
    refine ev_icmp_ge (tgt := 21) (pc' := 8) dX3_begin_5 rfl rfl (fun _ => ?_) (fun h => absurd (nx_le (a := 16) (b := 16) (by omega) (by omega)) h)
    refine ev_aload_n (pc' := 22) (i := 0) dX3_begin_21 rfl rfl rfl ?_
    refine ev_iload_n (pc' := 23) (i := 1) dX3_begin_22 rfl rfl rfl ?_
    refine ev_putI (pc' := 26) (I' := (ma_up (mfill I b 0 16 (fun _ => 0)) a (ma_up ((mfill I b 0 16 (fun _ => 0)) a) 1 n))) fo_X3_15 dX3_begin_23 rfl ha rfl (fun r hr => by cases hr; rfl) ⟨rfl, rfl⟩ rfl ?_
    refine ev_vret dX3_begin_26 rfl ⟨Nat.le_refl _, Nat.le_refl _⟩ ?_
    exact k
  | succ d ih =>
    intro i hi
    refine ev_iload_n (pc' := 3) (i := 2) dX3_begin_2 rfl rfl rfl ?_
    refine ev_bipush (pc' := 5) (v := 16) dX3_begin_3 rfl kb_16 ?_
    refine ev_icmp_ge (tgt := 21) (pc' := 8) dX3_begin_5 rfl rfl (fun h => absurd h (nx_nle (a := 16) (b := i) (by omega) (by omega))) (fun _ => ?_)
    refine ev_aload_n (pc' := 9) (i := 0) dX3_begin_8 rfl rfl rfl ?_
    refine ev_getR (pc' := 12) fo_X3_9 dX3_begin_9 rfl ha rfl hr ?_
    refine ev_iload_n (pc' := 13) (i := 2) dX3_begin_12 rfl rfl rfl ?_
    refine ev_iconst (pc' := 14) (v := 0) dX3_begin_13 rfl ki_0 ?_
    refine ev_iast (pc' := 15) (j := i) (I' := (ma_up (mfill I b 0 i (fun _ => 0)) b (ma_up ((mfill I b 0 i (fun _ => 0)) b) i 0))) dX3_begin_14 rfl hb rfl (by omega) (Nat.le_of_ble_eq_true rfl) rfl ?_
    refine ev_iinc (pc' := 18) (v := nI (i + 1)) (lv' := [some (.ref a), some (.int n), some (.int (nI (i + 1)))]) dX3_begin_15 rfl rfl (nI_add i 1) (Nat.le_of_ble_eq_true rfl) rfl rfl ?_
    refine ev_goto (tgt := 2) dX3_begin_18 rfl ?_
    refine ev_memI (fun z hz => ?_)
    have hz := hz.trans (mfill_s I b 0 i (fun _ => (0 : Int32)) (by omega) rfl)
    subst hz
    exact ih (i + 1) (by omega)
set_option maxRecDepth 4000 in
theorem t_X3_end {g : ma_G} {Post : ma_P} {I : ma_I} {L : ma_L} (a b : Nat) (ha : HS a = (3, 2)) (hr : RF a 0 = b) (hb : HS b = (9, 16)) (hab : a ≠ b)  (k : Post none HS (cBg I a b (-1)) L RF 146) : CT g yX3_end cX3_end 1 none rX3_end [.ref a] Post HS I L RF 146 := by
  refine ct_of (lv := [some (.ref a)]) (by decide) (Nat.le_of_ble_eq_true rfl) rfl ?_
  refine ev_aload_n (pc' := 1) (i := 0) dX3_end_0 rfl rfl rfl ?_
  refine ev_iconst (pc' := 2) (v := (-1)) dX3_end_1 rfl ki_m1 ?_
  refine ev_callV (pc' := 5) (rm' := rX3_begin) (b := a) (av := [.int (-1)]) (rest := []) co_X3_19 ci_X3_begin cv_X3_begin dX3_end_2 rfl ha hb_X3 rfl rfl (Nat.le_of_ble_eq_true rfl) ⟨(Nat.le_of_ble_eq_true rfl), (Nat.le_of_ble_eq_true rfl)⟩ ⟨(Nat.le_of_ble_eq_true rfl), (Nat.le_of_ble_eq_true rfl)⟩ ?_
  refine t_X3_begin a b ha hr hb (by omega) (-1) ?_
  refine ev_vret dX3_end_5 rfl ⟨Nat.le_refl _, Nat.le_refl _⟩ ?_
  exact k
set_option maxRecDepth 4000 in
theorem t_X3_hasFrom {g : ma_G} {Post : ma_P} {I : ma_I} {L : ma_L} (a b : Nat) (ha : HS a = (3, 2)) (hr : RF a 0 = b) (hb : HS b = (9, 16)) (hab : a ≠ b) (i : Int32) (n : Int32) (k : Post (some (.int (if (¬ i < 0) ∧ ((¬ n < 0) ∧ ((¬ ((I a) 1) < n) ∧ (¬ (((I a) 1) - n) < i))) then (1 : Int32) else 0))) HS I L RF 146) : CT g yX3_hasFrom cX3_hasFrom 3 (some .boolean) rX3_hasFrom [.ref a, .int i, .int n] Post HS I L RF 146 := by
  refine ct_of (lv := [some (.ref a), some (.int i), some (.int n)]) (by decide) (Nat.le_of_ble_eq_true rfl) rfl ?_
  refine ev_iload_n (pc' := 1) (i := 1) dX3_hasFrom_0 rfl rfl rfl ?_
  suffices K3 : ∀ x2 : Int32, x2 = (if (¬ i < 0) ∧ ((¬ n < 0) ∧ ((¬ ((I a) 1) < n) ∧ (¬ (((I a) 1) - n) < i))) then (1 : Int32) else 0) → EV g yX3_hasFrom cX3_hasFrom 3 (some .boolean) rX3_hasFrom (ma_ZM g rX3_hasFrom Post) 31 [some (.ref a), some (.int i), some (.int n)] [.int x2] HS I L RF 146 0 0 by
    refine ev_if_lt (tgt := 30) (pc' := 4) dX3_hasFrom_1 rfl rfl (fun c4 => ?_) (fun c4 => ?_)
    · refine ev_iconst (pc' := 31) (v := 0) dX3_hasFrom_30 rfl ki_0 ?_
      exact K3 _ (if_neg (fun h => (not_not_intro c4) h.1)).symm
    · refine ev_iload_n (pc' := 5) (i := 2) dX3_hasFrom_4 rfl rfl rfl ?_
      refine ev_if_lt (tgt := 30) (pc' := 8) dX3_hasFrom_5 rfl rfl (fun c5 => ?_) (fun c5 => ?_)
      · refine ev_iconst (pc' := 31) (v := 0) dX3_hasFrom_30 rfl ki_0 ?_
        exact K3 _ (if_neg (fun h => (fun h => (not_not_intro c5) h.1) h.2)).symm
      · refine ev_iload_n (pc' := 9) (i := 2) dX3_hasFrom_8 rfl rfl rfl ?_
        refine ev_aload_n (pc' := 10) (i := 0) dX3_hasFrom_9 rfl rfl rfl ?_
        refine ev_getI (pc' := 13) (v := (I a) 1) fo_X3_15 dX3_hasFrom_10 rfl ha rfl rfl ?_
        refine ev_icmp_gt (tgt := 30) (pc' := 16) dX3_hasFrom_13 rfl rfl (fun c6 => ?_) (fun c6 => ?_)
        · refine ev_iconst (pc' := 31) (v := 0) dX3_hasFrom_30 rfl ki_0 ?_
          exact K3 _ (if_neg (fun h => (fun h => (fun h => (not_not_intro c6) h.1) h.2) h.2)).symm
        · refine ev_iload_n (pc' := 17) (i := 1) dX3_hasFrom_16 rfl rfl rfl ?_
          refine ev_aload_n (pc' := 18) (i := 0) dX3_hasFrom_17 rfl rfl rfl ?_
          refine ev_getI (pc' := 21) (v := (I a) 1) fo_X3_15 dX3_hasFrom_18 rfl ha rfl rfl ?_
          refine ev_iload_n (pc' := 22) (i := 2) dX3_hasFrom_21 rfl rfl rfl ?_
          refine ev_isub (pc' := 23) (v := ((I a) 1) - n) dX3_hasFrom_22 rfl rfl ?_
          refine ev_icmp_gt (tgt := 30) (pc' := 26) dX3_hasFrom_23 rfl rfl (fun c7 => ?_) (fun c7 => ?_)
          · refine ev_iconst (pc' := 31) (v := 0) dX3_hasFrom_30 rfl ki_0 ?_
            exact K3 _ (if_neg (fun h => (fun h => (fun h => (not_not_intro c7) h.2) h.2) h.2)).symm
          · refine ev_iconst (pc' := 27) (v := 1) dX3_hasFrom_26 rfl ki_1 ?_
            refine ev_goto (tgt := 31) dX3_hasFrom_27 rfl ?_
            exact K3 _ (if_pos (⟨c4, ⟨c5, ⟨c6, c7⟩⟩⟩)).symm
  intro x2 hx2
  subst hx2
  refine ev_iret dX3_hasFrom_31 rfl b01_n ⟨Nat.le_refl _, Nat.le_refl _⟩ ?_
  exact k
def mRg (f : Nat → Int32) (n : Nat) (w : Int32) : Prop := ∀ j, j < n → (¬ f j < -w) ∧ (¬ w < f j)
def mZr (f : Nat → Int32) (n : Nat) : Prop := ∀ j, j < n → f j = 0
def cAd (f : Nat → Int32) : Nat → Int64 → Int64
  | 0, s => s
  | i + 1, s => 31 * cAd f i s + Int32.toInt64 (f i)
set_option maxRecDepth 4000 in
theorem t_X3_goesBeyond {g : ma_G} {Post : ma_P} {I : ma_I} {L : ma_L} (a b : Nat) (ha : HS a = (3, 2)) (hr : RF a 0 = b) (hb : HS b = (9, 16)) (hab : a ≠ b) (n : Nat) (w : Int32) (hn : n < 17) (k0 : mRg (I b) n w → Post (some (.int 0)) HS I L RF 146) (k1 : ¬ mRg (I b) n w → Post (some (.int 1)) HS I L RF 146) : CT g yX3_goesBeyond cX3_goesBeyond 4 (some .boolean) rX3_goesBeyond [.ref a, .int (nI n), .int w] Post HS I L RF 146 := by
  refine ct_of (lv := [some (.ref a), some (.int (nI n)), some (.int w), none]) (by decide) (Nat.le_of_ble_eq_true rfl) rfl ?_
  refine ev_iconst (pc' := 1) (v := 0) dX3_goesBeyond_0 rfl ki_0 ?_
  refine ev_istore_n (pc' := 2) (i := 3) (lv' := [some (.ref a), some (.int (nI n)), some (.int w), some (.int 0)]) dX3_goesBeyond_1 rfl rfl (Nat.le_of_ble_eq_true rfl) rfl rfl ?_
  suffices lp : ∀ (d i : Nat), i + d = n → (∀ j, j < i → (¬ (I b) j < -w) ∧ (¬ w < (I b) j)) → EV g yX3_goesBeyond cX3_goesBeyond 4 (some .boolean) rX3_goesBeyond (ma_ZM g rX3_goesBeyond Post) 2 [some (.ref a), some (.int (nI n)), some (.int w), some (.int (nI i))] [] HS I L RF 146 0 0 from lp n 0 (by omega) (fun j hj => absurd hj (Nat.not_lt_zero j))
  intro d
  induction d with
  | zero =>
    intro i hi hA
    obtain rfl : i = n := by omega
    refine ev_iload_n (pc' := 3) (i := 3) dX3_goesBeyond_2 rfl rfl rfl ?_
    refine ev_iload_n (pc' := 4) (i := 1) dX3_goesBeyond_3 rfl rfl rfl ?_
    refine ev_icmp_ge (tgt := 42) (pc' := 7) dX3_goesBeyond_4 rfl rfl (fun _ => ?_) (fun h => absurd (nx_le (a := i) (b := i) (by omega) (by omega)) h)
    refine ev_iconst (pc' := 43) (v := 0) dX3_goesBeyond_42 rfl ki_0 ?_
    refine ev_iret dX3_goesBeyond_43 rfl rfl ⟨Nat.le_refl _, Nat.le_refl _⟩ ?_
    exact k0 hA
  | succ d ih =>
    intro i hi hA
    refine ev_iload_n (pc' := 3) (i := 3) dX3_goesBeyond_2 rfl rfl rfl ?_
    refine ev_iload_n (pc' := 4) (i := 1) dX3_goesBeyond_3 rfl rfl rfl ?_
    refine ev_icmp_ge (tgt := 42) (pc' := 7) dX3_goesBeyond_4 rfl rfl (fun h => absurd h (nx_nle (a := n) (b := i) (by omega) (by omega))) (fun _ => ?_)
    refine ev_iload_n (pc' := 8) (i := 3) dX3_goesBeyond_7 rfl rfl rfl ?_
    refine ev_bipush (pc' := 10) (v := 16) dX3_goesBeyond_8 rfl kb_16 ?_
    refine ev_icmp_ge (tgt := 42) (pc' := 13) dX3_goesBeyond_10 rfl rfl (fun h => absurd h (nx_nle (a := 16) (b := i) (by omega) (by omega))) (fun _ => ?_)
    refine ev_aload_n (pc' := 14) (i := 0) dX3_goesBeyond_13 rfl rfl rfl ?_
    refine ev_getR (pc' := 17) fo_X3_9 dX3_goesBeyond_14 rfl ha rfl hr ?_
    refine ev_iload_n (pc' := 18) (i := 3) dX3_goesBeyond_17 rfl rfl rfl ?_
    refine ev_iald (pc' := 19) (j := i) (v := (I b) i) dX3_goesBeyond_18 rfl hb rfl (by omega) (Nat.le_of_ble_eq_true rfl) rfl ?_
    refine ev_iload_n (pc' := 20) (i := 2) dX3_goesBeyond_19 rfl rfl rfl ?_
    refine ev_ineg (pc' := 21) (v := -w) dX3_goesBeyond_20 rfl rfl ?_
    refine ev_icmp_lt (tgt := 34) (pc' := 24) dX3_goesBeyond_21 rfl rfl (fun c1 => ?_) (fun c1 => ?_)
    · refine ev_iconst (pc' := 35) (v := 1) dX3_goesBeyond_34 rfl ki_1 ?_
      refine ev_iret dX3_goesBeyond_35 rfl rfl ⟨Nat.le_refl _, Nat.le_refl _⟩ ?_
      exact k1 (fun q => absurd c1 (q i (by omega)).1)
    · refine ev_aload_n (pc' := 25) (i := 0) dX3_goesBeyond_24 rfl rfl rfl ?_
      refine ev_getR (pc' := 28) fo_X3_9 dX3_goesBeyond_25 rfl ha rfl hr ?_
      refine ev_iload_n (pc' := 29) (i := 3) dX3_goesBeyond_28 rfl rfl rfl ?_
      refine ev_iald (pc' := 30) (j := i) (v := (I b) i) dX3_goesBeyond_29 rfl hb rfl (by omega) (Nat.le_of_ble_eq_true rfl) rfl ?_
      refine ev_iload_n (pc' := 31) (i := 2) dX3_goesBeyond_30 rfl rfl rfl ?_
      refine ev_icmp_le (tgt := 36) (pc' := 34) dX3_goesBeyond_31 rfl rfl (fun c2 => ?_) (fun c2 => ?_)
      · refine ev_iinc (pc' := 39) (v := nI (i + 1)) (lv' := [some (.ref a), some (.int (nI n)), some (.int w), some (.int (nI (i + 1)))]) dX3_goesBeyond_36 rfl rfl (nI_add i 1) (Nat.le_of_ble_eq_true rfl) rfl rfl ?_
        refine ev_goto (tgt := 2) dX3_goesBeyond_39 rfl ?_
        exact ih (i + 1) (by omega) (pt_all hA ⟨c1, Int32.not_lt.mpr c2⟩)
      · refine ev_iconst (pc' := 35) (v := 1) dX3_goesBeyond_34 rfl ki_1 ?_
        refine ev_iret dX3_goesBeyond_35 rfl rfl ⟨Nat.le_refl _, Nat.le_refl _⟩ ?_
        exact k1 (fun q => absurd (Int32.not_le.mp c2) (q i (by omega)).2)
set_option maxRecDepth 4000 in
theorem t_X3_isBlank {g : ma_G} {Post : ma_P} {I : ma_I} {L : ma_L} (a b : Nat) (ha : HS a = (3, 2)) (hr : RF a 0 = b) (hb : HS b = (9, 16)) (hab : a ≠ b) (n : Nat) (hn : n < 17) (k0 : ¬ mZr (I b) n → Post (some (.int 0)) HS I L RF 146) (k1 : mZr (I b) n → Post (some (.int 1)) HS I L RF 146) : CT g yX3_isBlank cX3_isBlank 3 (some .boolean) rX3_isBlank [.ref a, .int (nI n)] Post HS I L RF 146 := by
  refine ct_of (lv := [some (.ref a), some (.int (nI n)), none]) (by decide) (Nat.le_of_ble_eq_true rfl) rfl ?_
  refine ev_iconst (pc' := 1) (v := 0) dX3_isBlank_0 rfl ki_0 ?_
  refine ev_istore_n (pc' := 2) (i := 2) (lv' := [some (.ref a), some (.int (nI n)), some (.int 0)]) dX3_isBlank_1 rfl rfl (Nat.le_of_ble_eq_true rfl) rfl rfl ?_
  suffices lp : ∀ (d i : Nat), i + d = n → (∀ j, j < i → I b j = 0) → EV g yX3_isBlank cX3_isBlank 3 (some .boolean) rX3_isBlank (ma_ZM g rX3_isBlank Post) 2 [some (.ref a), some (.int (nI n)), some (.int (nI i))] [] HS I L RF 146 0 0 from lp n 0 (by omega) (fun j hj => absurd hj (Nat.not_lt_zero j))
  intro d
  induction d with
  | zero =>
    intro i hi hA
    obtain rfl : i = n := by omega
    refine ev_iload_n (pc' := 3) (i := 2) dX3_isBlank_2 rfl rfl rfl ?_
    refine ev_iload_n (pc' := 4) (i := 1) dX3_isBlank_3 rfl rfl rfl ?_
    refine ev_icmp_ge (tgt := 30) (pc' := 7) dX3_isBlank_4 rfl rfl (fun _ => ?_) (fun h => absurd (nx_le (a := i) (b := i) (by omega) (by omega)) h)
    refine ev_iconst (pc' := 31) (v := 1) dX3_isBlank_30 rfl ki_1 ?_
    refine ev_iret dX3_isBlank_31 rfl rfl ⟨Nat.le_refl _, Nat.le_refl _⟩ ?_
    exact k1 hA
  | succ d ih =>
    intro i hi hA
    refine ev_iload_n (pc' := 3) (i := 2) dX3_isBlank_2 rfl rfl rfl ?_
    refine ev_iload_n (pc' := 4) (i := 1) dX3_isBlank_3 rfl rfl rfl ?_
    refine ev_icmp_ge (tgt := 30) (pc' := 7) dX3_isBlank_4 rfl rfl (fun h => absurd h (nx_nle (a := n) (b := i) (by omega) (by omega))) (fun _ => ?_)
    refine ev_iload_n (pc' := 8) (i := 2) dX3_isBlank_7 rfl rfl rfl ?_
    refine ev_bipush (pc' := 10) (v := 16) dX3_isBlank_8 rfl kb_16 ?_
    refine ev_icmp_ge (tgt := 30) (pc' := 13) dX3_isBlank_10 rfl rfl (fun h => absurd h (nx_nle (a := 16) (b := i) (by omega) (by omega))) (fun _ => ?_)
    refine ev_aload_n (pc' := 14) (i := 0) dX3_isBlank_13 rfl rfl rfl ?_
    refine ev_getR (pc' := 17) fo_X3_9 dX3_isBlank_14 rfl ha rfl hr ?_
    refine ev_iload_n (pc' := 18) (i := 2) dX3_isBlank_17 rfl rfl rfl ?_
    refine ev_iald (pc' := 19) (j := i) (v := (I b) i) dX3_isBlank_18 rfl hb rfl (by omega) (Nat.le_of_ble_eq_true rfl) rfl ?_
    refine ev_if_eq (tgt := 24) (pc' := 22) dX3_isBlank_19 rfl rfl (fun c1 => ?_) (fun c1 => ?_)
    · refine ev_iinc (pc' := 27) (v := nI (i + 1)) (lv' := [some (.ref a), some (.int (nI n)), some (.int (nI (i + 1)))]) dX3_isBlank_24 rfl rfl (nI_add i 1) (Nat.le_of_ble_eq_true rfl) rfl rfl ?_
      refine ev_goto (tgt := 2) dX3_isBlank_27 rfl ?_
      exact ih (i + 1) (by omega) (pt_all hA c1)
    · refine ev_iconst (pc' := 23) (v := 0) dX3_isBlank_22 rfl ki_0 ?_
      refine ev_iret dX3_isBlank_23 rfl rfl ⟨Nat.le_refl _, Nat.le_refl _⟩ ?_
      exact k0 (fun q => absurd (q i (by omega)) c1)
set_option maxRecDepth 4000 in
theorem t_X3_addTo {g : ma_G} {Post : ma_P} {I : ma_I} {L : ma_L} (a b : Nat) (ha : HS a = (3, 2)) (hr : RF a 0 = b) (hb : HS b = (9, 16)) (hab : a ≠ b) (s : Int64) (n : Nat) (hn : n < 17) (hz : I a 1 = nI n) (k : Post (some (.long (cAd (I b) n (31 * s + Int32.toInt64 (nI n))))) HS I L RF 146) : CT g yX3_addTo cX3_addTo 6 (some .long) rX3_addTo [.ref a, .long s] Post HS I L RF 146 := by
  refine ct_of (lv := [some (.ref a), some (.long s), none, none, none, none]) (by decide) (Nat.le_of_ble_eq_true rfl) rfl ?_
  refine ev_ldc2 (pc' := 3) cl_X3_23 dX3_addTo_0 rfl ?_
  refine ev_lload_n (pc' := 4) (i := 1) dX3_addTo_3 rfl rfl rfl ?_
  refine ev_lmul (pc' := 5) (v := 31 * s) dX3_addTo_4 rfl rfl ?_
  refine ev_aload_n (pc' := 6) (i := 0) dX3_addTo_5 rfl rfl rfl ?_
  refine ev_getI (pc' := 9) (v := nI n) fo_X3_15 dX3_addTo_6 rfl ha rfl hz ?_
  refine ev_i2l (pc' := 10) (v := Int32.toInt64 (nI n)) dX3_addTo_9 rfl rfl ?_
  refine ev_ladd (pc' := 11) (v := (31 * s) + (Int32.toInt64 (nI n))) dX3_addTo_10 rfl rfl ?_
  refine ev_lstore_n (pc' := 12) (i := 3) (lv' := [some (.ref a), some (.long s), none, some (.long ((31 * s) + (Int32.toInt64 (nI n)))), none, none]) dX3_addTo_11 rfl rfl (Nat.le_of_ble_eq_true rfl) rfl rfl ?_
  refine ev_iconst (pc' := 13) (v := 0) dX3_addTo_12 rfl ki_0 ?_
  refine ev_istore (pc' := 15) (lv' := [some (.ref a), some (.long s), none, some (.long ((31 * s) + (Int32.toInt64 (nI n)))), none, some (.int 0)]) dX3_addTo_13 rfl (Nat.le_of_ble_eq_true rfl) rfl rfl ?_
  suffices lp : ∀ (d i : Nat), i + d = n → EV g yX3_addTo cX3_addTo 6 (some .long) rX3_addTo (ma_ZM g rX3_addTo Post) 15 [some (.ref a), some (.long s), none, some (.long (cAd (I b) i ((31 * s) + (Int32.toInt64 (nI n))))), none, some (.int (nI i))] [] HS I L RF 146 0 0 from lp n 0 (by omega)
  intro d
  induction d with
  | zero =>
    intro i hi
    obtain rfl : i = n := by omega
    refine ev_iload (pc' := 17) dX3_addTo_15 rfl rfl ?_
    refine ev_aload_n (pc' := 18) (i := 0) dX3_addTo_17 rfl rfl rfl ?_
    refine ev_getI (pc' := 21) (v := nI i) fo_X3_15 dX3_addTo_18 rfl ha rfl hz ?_
    refine ev_icmp_ge (tgt := 52) (pc' := 24) dX3_addTo_21 rfl rfl (fun _ => ?_) (fun h => absurd (nx_le (a := i) (b := i) (by omega) (by omega)) h)
    refine ev_lload_n (pc' := 53) (i := 3) dX3_addTo_52 rfl rfl rfl ?_
    refine ev_lret dX3_addTo_53 rfl ⟨Nat.le_refl _, Nat.le_refl _⟩ ?_
    exact k
  | succ d ih =>
    intro i hi
    refine ev_iload (pc' := 17) dX3_addTo_15 rfl rfl ?_
    refine ev_aload_n (pc' := 18) (i := 0) dX3_addTo_17 rfl rfl rfl ?_
    refine ev_getI (pc' := 21) (v := nI n) fo_X3_15 dX3_addTo_18 rfl ha rfl hz ?_
    refine ev_icmp_ge (tgt := 52) (pc' := 24) dX3_addTo_21 rfl rfl (fun h => absurd h (nx_nle (a := n) (b := i) (by omega) (by omega))) (fun _ => ?_)
    refine ev_iload (pc' := 26) dX3_addTo_24 rfl rfl ?_
    refine ev_bipush (pc' := 28) (v := 16) dX3_addTo_26 rfl kb_16 ?_
    refine ev_icmp_ge (tgt := 52) (pc' := 31) dX3_addTo_28 rfl rfl (fun h => absurd h (nx_nle (a := 16) (b := i) (by omega) (by omega))) (fun _ => ?_)
    refine ev_ldc2 (pc' := 34) cl_X3_23 dX3_addTo_31 rfl ?_
    refine ev_lload_n (pc' := 35) (i := 3) dX3_addTo_34 rfl rfl rfl ?_
    refine ev_lmul (pc' := 36) (v := 31 * (cAd (I b) i ((31 * s) + (Int32.toInt64 (nI n))))) dX3_addTo_35 rfl rfl ?_
    refine ev_aload_n (pc' := 37) (i := 0) dX3_addTo_36 rfl rfl rfl ?_
    refine ev_getR (pc' := 40) fo_X3_9 dX3_addTo_37 rfl ha rfl hr ?_
    refine ev_iload (pc' := 42) dX3_addTo_40 rfl rfl ?_
    refine ev_iald (pc' := 43) (j := i) (v := (I b) i) dX3_addTo_42 rfl hb rfl (by omega) (Nat.le_of_ble_eq_true rfl) rfl ?_
    refine ev_i2l (pc' := 44) (v := Int32.toInt64 ((I b) i)) dX3_addTo_43 rfl rfl ?_
    refine ev_ladd (pc' := 45) (v := (31 * (cAd (I b) i ((31 * s) + (Int32.toInt64 (nI n))))) + (Int32.toInt64 ((I b) i))) dX3_addTo_44 rfl rfl ?_
    refine ev_lstore_n (pc' := 46) (i := 3) (lv' := [some (.ref a), some (.long s), none, some (.long ((31 * (cAd (I b) i ((31 * s) + (Int32.toInt64 (nI n))))) + (Int32.toInt64 ((I b) i)))), none, some (.int (nI i))]) dX3_addTo_45 rfl rfl (Nat.le_of_ble_eq_true rfl) rfl rfl ?_
    refine ev_iinc (pc' := 49) (v := nI (i + 1)) (lv' := [some (.ref a), some (.long s), none, some (.long ((31 * (cAd (I b) i ((31 * s) + (Int32.toInt64 (nI n))))) + (Int32.toInt64 ((I b) i)))), none, some (.int (nI (i + 1)))]) dX3_addTo_46 rfl rfl (nI_add i 1) (Nat.le_of_ble_eq_true rfl) rfl rfl ?_
    refine ev_goto (tgt := 15) dX3_addTo_49 rfl ?_
    exact ih (i + 1) (by omega)
set_option maxRecDepth 4000 in
theorem t_X3_addToN {g : ma_G} {Post : ma_P} {I : ma_I} {L : ma_L} (a b : Nat) (ha : HS a = (3, 2)) (hr : RF a 0 = b) (hb : HS b = (9, 16)) (hab : a ≠ b) (s : Int64) (hz : I a 1 ≤ 0) (k : Post (some (.long (31 * s + Int32.toInt64 (I a 1)))) HS I L RF 146) : CT g yX3_addTo cX3_addTo 6 (some .long) rX3_addTo [.ref a, .long s] Post HS I L RF 146 := by
  refine ct_of (lv := [some (.ref a), some (.long s), none, none, none, none]) (by decide) (Nat.le_of_ble_eq_true rfl) rfl ?_
  refine ev_ldc2 (pc' := 3) cl_X3_23 dX3_addTo_0 rfl ?_
  refine ev_lload_n (pc' := 4) (i := 1) dX3_addTo_3 rfl rfl rfl ?_
  refine ev_lmul (pc' := 5) (v := 31 * s) dX3_addTo_4 rfl rfl ?_
  refine ev_aload_n (pc' := 6) (i := 0) dX3_addTo_5 rfl rfl rfl ?_
  refine ev_getI (pc' := 9) (v := (I a) 1) fo_X3_15 dX3_addTo_6 rfl ha rfl rfl ?_
  refine ev_i2l (pc' := 10) (v := Int32.toInt64 ((I a) 1)) dX3_addTo_9 rfl rfl ?_
  refine ev_ladd (pc' := 11) (v := (31 * s) + (Int32.toInt64 ((I a) 1))) dX3_addTo_10 rfl rfl ?_
  refine ev_lstore_n (pc' := 12) (i := 3) (lv' := [some (.ref a), some (.long s), none, some (.long ((31 * s) + (Int32.toInt64 ((I a) 1)))), none, none]) dX3_addTo_11 rfl rfl (Nat.le_of_ble_eq_true rfl) rfl rfl ?_
  refine ev_iconst (pc' := 13) (v := 0) dX3_addTo_12 rfl ki_0 ?_
  refine ev_istore (pc' := 15) (lv' := [some (.ref a), some (.long s), none, some (.long ((31 * s) + (Int32.toInt64 ((I a) 1)))), none, some (.int 0)]) dX3_addTo_13 rfl (Nat.le_of_ble_eq_true rfl) rfl rfl ?_
  refine ev_iload (pc' := 17) dX3_addTo_15 rfl rfl ?_
  refine ev_aload_n (pc' := 18) (i := 0) dX3_addTo_17 rfl rfl rfl ?_
  refine ev_getI (pc' := 21) (v := (I a) 1) fo_X3_15 dX3_addTo_18 rfl ha rfl rfl ?_
  refine ev_icmp_ge (tgt := 52) (pc' := 24) dX3_addTo_21 rfl rfl (fun _ => ?_) (fun h => absurd hz h)
  refine ev_lload_n (pc' := 53) (i := 3) dX3_addTo_52 rfl rfl rfl ?_
  refine ev_lret dX3_addTo_53 rfl ⟨Nat.le_refl _, Nat.le_refl _⟩ ?_
  exact k
