def cBe (L : ma_L) (b d : Nat) : ma_L := mfill L b 0 16 (fun k => L d k)
def cSu (L : ma_L) (b d e : Nat) (m q : Int64) : ma_L := mfill L b 0 16 (fun k => (L d k) * m + (L e k) * q)
set_option maxRecDepth 4000 in
theorem t_X4_become {g : ma_G} {Post : ma_P} {I : ma_I} {L : ma_L} (a b : Nat) (ha : HS a = (4, 6)) (hra : RF a 0 = b) (hb : HS b = (10, 16)) (o : Nat) (d : Nat) (ho : HS o = (4, 6)) (hro : RF o 0 = d) (hd : HS d = (10, 16)) (hdb : d ≠ b) (k : Post none HS I (cBe L b d) RF 146) : CT g yX4_become cX4_become 3 none rX4_become [.ref a, .ref o] Post HS I L RF 146 := by
  refine ct_of (lv := [some (.ref a), some (.ref o), none]) (by decide) (Nat.le_of_ble_eq_true rfl) rfl ?_
  refine ev_iconst (pc' := 1) (v := 0) dX4_become_0 rfl ki_0 ?_
  refine ev_istore_n (pc' := 2) (i := 2) (lv' := [some (.ref a), some (.ref o), some (.int 0)]) dX4_become_1 rfl rfl (Nat.le_of_ble_eq_true rfl) rfl rfl ?_
  suffices lp : ∀ (x i : Nat), i + x = 16 → EV g yX4_become cX4_become 3 none rX4_become (ma_ZM g rX4_become Post) 2 [some (.ref a), some (.ref o), some (.int (nI i))] [] HS I (mfill L b 0 i (fun k => L d k)) RF 146 0 0 by
    have q := lp 16 0 rfl
    rw [mfill_0] at q
    exact q
  intro x
  induction x with
  | zero =>
    intro i hi
    obtain rfl : i = 16 := by omega
    refine ev_iload_n (pc' := 3) (i := 2) dX4_become_2 rfl rfl rfl ?_
    refine ev_aload_n (pc' := 4) (i := 0) dX4_become_3 rfl rfl rfl ?_
    refine ev_getR (pc' := 7) fo_X4_9 dX4_become_4 rfl ha rfl hra ?_
    refine ev_alen (pc' := 8) (v := 16) dX4_become_7 rfl hb (by decide) rfl ?_
    refine ev_icmp_ge (tgt := 29) (pc' := 11) dX4_become_8 rfl rfl (fun _ => ?_) (fun h => absurd (nx_le (a := 16) (b := 16) (by omega) (by omega)) h)
    refine ev_vret dX4_become_29 rfl ⟨Nat.le_refl _, Nat.le_refl _⟩ ?_
    exact k
  | succ x ih =>
    intro i hi
    refine ev_iload_n (pc' := 3) (i := 2) dX4_become_2 rfl rfl rfl ?_
    refine ev_aload_n (pc' := 4) (i := 0) dX4_become_3 rfl rfl rfl ?_
    refine ev_getR (pc' := 7) fo_X4_9 dX4_become_4 rfl ha rfl hra ?_
    refine ev_alen (pc' := 8) (v := 16) dX4_become_7 rfl hb (by decide) rfl ?_
    refine ev_icmp_ge (tgt := 29) (pc' := 11) dX4_become_8 rfl rfl (fun h => absurd h (nx_nle (a := 16) (b := i) (by omega) (by omega))) (fun _ => ?_)
    refine ev_aload_n (pc' := 12) (i := 0) dX4_become_11 rfl rfl rfl ?_
    refine ev_getR (pc' := 15) fo_X4_9 dX4_become_12 rfl ha rfl hra ?_
    refine ev_iload_n (pc' := 16) (i := 2) dX4_become_15 rfl rfl rfl ?_
    refine ev_aload_n (pc' := 17) (i := 1) dX4_become_16 rfl rfl rfl ?_
    refine ev_getR (pc' := 20) fo_X4_9 dX4_become_17 rfl ho rfl hro ?_
    refine ev_iload_n (pc' := 21) (i := 2) dX4_become_20 rfl rfl rfl ?_
    refine ev_lald (pc' := 22) (j := i) (v := ((mfill L b 0 i (fun k => L d k)) d) i) dX4_become_21 rfl hd rfl (by omega) (Nat.le_of_ble_eq_true rfl) rfl ?_
    refine ev_last (pc' := 23) (j := i) (L' := (ma_up (mfill L b 0 i (fun k => L d k)) b (ma_up ((mfill L b 0 i (fun k => L d k)) b) i (((mfill L b 0 i (fun k => L d k)) d) i)))) dX4_become_22 rfl hb rfl (by omega) (Nat.le_of_ble_eq_true rfl) rfl ?_
    refine ev_iinc (pc' := 26) (v := nI (i + 1)) (lv' := [some (.ref a), some (.ref o), some (.int (nI (i + 1)))]) dX4_become_23 rfl rfl (nI_add i 1) (Nat.le_of_ble_eq_true rfl) rfl rfl ?_
    refine ev_goto (tgt := 2) dX4_become_26 rfl ?_
    refine ev_memL (fun z hz => ?_)
    have hz := hz.trans (mfill_s L b 0 i (fun k => L d k) (by omega) (by rw [mfill_n _ _ _ _ hdb]))
    subst hz
    exact ih (i + 1) (by omega)
set_option maxRecDepth 4000 in
theorem t_X4_sumOf {g : ma_G} {Post : ma_P} {I : ma_I} {L : ma_L} (a b : Nat) (ha : HS a = (4, 6)) (hra : RF a 0 = b) (hb : HS b = (10, 16)) (o : Nat) (m : Int64) (u : Nat) (q : Int64) (d e : Nat) (ho : HS o = (4, 6)) (hro : RF o 0 = d) (hd : HS d = (10, 16)) (hdb : d ≠ b) (hu : HS u = (4, 6)) (hru : RF u 0 = e) (he : HS e = (10, 16)) (heb : e ≠ b) (k : Post none HS I (cSu L b d e m q) RF 146) : CT g yX4_sumOf cX4_sumOf 8 none rX4_sumOf [.ref a, .ref o, .long m, .ref u, .long q] Post HS I L RF 146 := by
  refine ct_of (lv := [some (.ref a), some (.ref o), some (.long m), none, some (.ref u), some (.long q), none, none]) (by decide) (Nat.le_of_ble_eq_true rfl) rfl ?_
  refine ev_iconst (pc' := 1) (v := 0) dX4_sumOf_0 rfl ki_0 ?_
  refine ev_istore (pc' := 3) (lv' := [some (.ref a), some (.ref o), some (.long m), none, some (.ref u), some (.long q), none, some (.int 0)]) dX4_sumOf_1 rfl (Nat.le_of_ble_eq_true rfl) rfl rfl ?_
  suffices lp : ∀ (x i : Nat), i + x = 16 → EV g yX4_sumOf cX4_sumOf 8 none rX4_sumOf (ma_ZM g rX4_sumOf Post) 3 [some (.ref a), some (.ref o), some (.long m), none, some (.ref u), some (.long q), none, some (.int (nI i))] [] HS I (mfill L b 0 i (fun k => (L d k) * m + (L e k) * q)) RF 146 0 0 by
    have q := lp 16 0 rfl
    rw [mfill_0] at q
    exact q
  intro x
  induction x with
  | zero =>
    intro i hi
    obtain rfl : i = 16 := by omega
    refine ev_iload (pc' := 5) dX4_sumOf_3 rfl rfl ?_
    refine ev_aload_n (pc' := 6) (i := 0) dX4_sumOf_5 rfl rfl rfl ?_
    refine ev_getR (pc' := 9) fo_X4_9 dX4_sumOf_6 rfl ha rfl hra ?_
    refine ev_alen (pc' := 10) (v := 16) dX4_sumOf_9 rfl hb (by decide) rfl ?_
    refine ev_icmp_ge (tgt := 47) (pc' := 13) dX4_sumOf_10 rfl rfl (fun _ => ?_) (fun h => absurd (nx_le (a := 16) (b := 16) (by omega) (by omega)) h)
    refine ev_vret dX4_sumOf_47 rfl ⟨Nat.le_refl _, Nat.le_refl _⟩ ?_
    exact k
  | succ x ih =>
    intro i hi
    refine ev_iload (pc' := 5) dX4_sumOf_3 rfl rfl ?_
    refine ev_aload_n (pc' := 6) (i := 0) dX4_sumOf_5 rfl rfl rfl ?_
    refine ev_getR (pc' := 9) fo_X4_9 dX4_sumOf_6 rfl ha rfl hra ?_
    refine ev_alen (pc' := 10) (v := 16) dX4_sumOf_9 rfl hb (by decide) rfl ?_
    refine ev_icmp_ge (tgt := 47) (pc' := 13) dX4_sumOf_10 rfl rfl (fun h => absurd h (nx_nle (a := 16) (b := i) (by omega) (by omega))) (fun _ => ?_)
    refine ev_aload_n (pc' := 14) (i := 0) dX4_sumOf_13 rfl rfl rfl ?_
    refine ev_getR (pc' := 17) fo_X4_9 dX4_sumOf_14 rfl ha rfl hra ?_
    refine ev_iload (pc' := 19) dX4_sumOf_17 rfl rfl ?_
    refine ev_aload_n (pc' := 20) (i := 1) dX4_sumOf_19 rfl rfl rfl ?_
    refine ev_getR (pc' := 23) fo_X4_9 dX4_sumOf_20 rfl ho rfl hro ?_
    refine ev_iload (pc' := 25) dX4_sumOf_23 rfl rfl ?_
    refine ev_lald (pc' := 26) (j := i) (v := ((mfill L b 0 i (fun k => (L d k) * m + (L e k) * q)) d) i) dX4_sumOf_25 rfl hd rfl (by omega) (Nat.le_of_ble_eq_true rfl) rfl ?_
    refine ev_lload_n (pc' := 27) (i := 2) dX4_sumOf_26 rfl rfl rfl ?_
    refine ev_lmul (pc' := 28) (v := (((mfill L b 0 i (fun k => (L d k) * m + (L e k) * q)) d) i) * m) dX4_sumOf_27 rfl rfl ?_
    refine ev_aload (pc' := 30) dX4_sumOf_28 rfl rfl ?_
    refine ev_getR (pc' := 33) fo_X4_9 dX4_sumOf_30 rfl hu rfl hru ?_
    refine ev_iload (pc' := 35) dX4_sumOf_33 rfl rfl ?_
    refine ev_lald (pc' := 36) (j := i) (v := ((mfill L b 0 i (fun k => (L d k) * m + (L e k) * q)) e) i) dX4_sumOf_35 rfl he rfl (by omega) (Nat.le_of_ble_eq_true rfl) rfl ?_
    refine ev_lload (pc' := 38) dX4_sumOf_36 rfl rfl ?_
    refine ev_lmul (pc' := 39) (v := (((mfill L b 0 i (fun k => (L d k) * m + (L e k) * q)) e) i) * q) dX4_sumOf_38 rfl rfl ?_
    refine ev_ladd (pc' := 40) (v := ((((mfill L b 0 i (fun k => (L d k) * m + (L e k) * q)) d) i) * m) + ((((mfill L b 0 i (fun k => (L d k) * m + (L e k) * q)) e) i) * q)) dX4_sumOf_39 rfl rfl ?_
    refine ev_last (pc' := 41) (j := i) (L' := (ma_up (mfill L b 0 i (fun k => (L d k) * m + (L e k) * q)) b (ma_up ((mfill L b 0 i (fun k => (L d k) * m + (L e k) * q)) b) i (((((mfill L b 0 i (fun k => (L d k) * m + (L e k) * q)) d) i) * m) + ((((mfill L b 0 i (fun k => (L d k) * m + (L e k) * q)) e) i) * q))))) dX4_sumOf_40 rfl hb rfl (by omega) (Nat.le_of_ble_eq_true rfl) rfl ?_
    refine ev_iinc (pc' := 44) (v := nI (i + 1)) (lv' := [some (.ref a), some (.ref o), some (.long m), none, some (.ref u), some (.long q), none, some (.int (nI (i + 1)))]) dX4_sumOf_41 rfl rfl (nI_add i 1) (Nat.le_of_ble_eq_true rfl) rfl rfl ?_
    refine ev_goto (tgt := 3) dX4_sumOf_44 rfl ?_
    refine ev_memL (fun z hz => ?_)
    have hz := hz.trans (mfill_s L b 0 i (fun k => (L d k) * m + (L e k) * q) (by omega) (by rw [mfill_n _ _ _ _ hdb, mfill_n _ _ _ _ heb]))
    subst hz
    exact ih (i + 1) (by omega)
def mRl (f : Nat → Int64) (w : Int32) : Prop := ∀ j, j < 16 → (¬ f j < Int32.toInt64 (-w)) ∧ (¬ Int32.toInt64 w < f j)
set_option maxRecDepth 4000 in
theorem t_X4_goesBeyond {g : ma_G} {Post : ma_P} {I : ma_I} {L : ma_L} (a b : Nat) (ha : HS a = (4, 6)) (hra : RF a 0 = b) (hb : HS b = (10, 16)) (w : Int32)  (k0 : mRl (L b) w → Post (some (.int 0)) HS I L RF 146) (k1 : ¬ mRl (L b) w → Post (some (.int 1)) HS I L RF 146) : CT g yX4_goesBeyond cX4_goesBeyond 3 (some .boolean) rX4_goesBeyond [.ref a, .int w] Post HS I L RF 146 := by
  refine ct_of (lv := [some (.ref a), some (.int w), none]) (by decide) (Nat.le_of_ble_eq_true rfl) rfl ?_
  refine ev_iconst (pc' := 1) (v := 0) dX4_goesBeyond_0 rfl ki_0 ?_
  refine ev_istore_n (pc' := 2) (i := 2) (lv' := [some (.ref a), some (.int w), some (.int 0)]) dX4_goesBeyond_1 rfl rfl (Nat.le_of_ble_eq_true rfl) rfl rfl ?_
  suffices lp : ∀ (d i : Nat), i + d = 16 → (∀ j, j < i → (¬ L b j < Int32.toInt64 (-w)) ∧ (¬ Int32.toInt64 w < L b j)) → EV g yX4_goesBeyond cX4_goesBeyond 3 (some .boolean) rX4_goesBeyond (ma_ZM g rX4_goesBeyond Post) 2 [some (.ref a), some (.int w), some (.int (nI i))] [] HS I L RF 146 0 0 from lp 16 0 rfl (fun j hj => absurd hj (Nat.not_lt_zero j))
  intro d
  induction d with
  | zero =>
    intro i hi hA
    obtain rfl : i = 16 := by omega
    refine ev_iload_n (pc' := 3) (i := 2) dX4_goesBeyond_2 rfl rfl rfl ?_
    refine ev_aload_n (pc' := 4) (i := 0) dX4_goesBeyond_3 rfl rfl rfl ?_
    refine ev_getR (pc' := 7) fo_X4_9 dX4_goesBeyond_4 rfl ha rfl hra ?_
    refine ev_alen (pc' := 8) (v := 16) dX4_goesBeyond_7 rfl hb (by decide) rfl ?_
    refine ev_icmp_ge (tgt := 44) (pc' := 11) dX4_goesBeyond_8 rfl rfl (fun _ => ?_) (fun h => absurd (nx_le (a := 16) (b := 16) (by omega) (by omega)) h)
    refine ev_iconst (pc' := 45) (v := 0) dX4_goesBeyond_44 rfl ki_0 ?_
    refine ev_iret dX4_goesBeyond_45 rfl rfl ⟨Nat.le_refl _, Nat.le_refl _⟩ ?_
    exact k0 hA
  | succ d ih =>
    intro i hi hA
    refine ev_iload_n (pc' := 3) (i := 2) dX4_goesBeyond_2 rfl rfl rfl ?_
    refine ev_aload_n (pc' := 4) (i := 0) dX4_goesBeyond_3 rfl rfl rfl ?_
    refine ev_getR (pc' := 7) fo_X4_9 dX4_goesBeyond_4 rfl ha rfl hra ?_
    refine ev_alen (pc' := 8) (v := 16) dX4_goesBeyond_7 rfl hb (by decide) rfl ?_
    refine ev_icmp_ge (tgt := 44) (pc' := 11) dX4_goesBeyond_8 rfl rfl (fun h => absurd h (nx_nle (a := 16) (b := i) (by omega) (by omega))) (fun _ => ?_)
    refine ev_aload_n (pc' := 12) (i := 0) dX4_goesBeyond_11 rfl rfl rfl ?_
    refine ev_getR (pc' := 15) fo_X4_9 dX4_goesBeyond_12 rfl ha rfl hra ?_
    refine ev_iload_n (pc' := 16) (i := 2) dX4_goesBeyond_15 rfl rfl rfl ?_
    refine ev_lald (pc' := 17) (j := i) (v := (L b) i) dX4_goesBeyond_16 rfl hb rfl (by omega) (Nat.le_of_ble_eq_true rfl) rfl ?_
    refine ev_iload_n (pc' := 18) (i := 1) dX4_goesBeyond_17 rfl rfl rfl ?_
    refine ev_ineg (pc' := 19) (v := -w) dX4_goesBeyond_18 rfl rfl ?_
    refine ev_i2l (pc' := 20) (v := Int32.toInt64 (-w)) dX4_goesBeyond_19 rfl rfl ?_
    refine ev_lc_lt (p1 := 21) (tgt := 36) (pc' := 24) dX4_goesBeyond_20 rfl dX4_goesBeyond_21 rfl rfl (fun c1 => ?_) (fun c1 => ?_)
    · refine ev_iconst (pc' := 37) (v := 1) dX4_goesBeyond_36 rfl ki_1 ?_
      refine ev_iret dX4_goesBeyond_37 rfl rfl ⟨Nat.le_refl _, Nat.le_refl _⟩ ?_
      exact k1 (fun q => absurd c1 (q i (by omega)).1)
    · refine ev_aload_n (pc' := 25) (i := 0) dX4_goesBeyond_24 rfl rfl rfl ?_
      refine ev_getR (pc' := 28) fo_X4_9 dX4_goesBeyond_25 rfl ha rfl hra ?_
      refine ev_iload_n (pc' := 29) (i := 2) dX4_goesBeyond_28 rfl rfl rfl ?_
      refine ev_lald (pc' := 30) (j := i) (v := (L b) i) dX4_goesBeyond_29 rfl hb rfl (by omega) (Nat.le_of_ble_eq_true rfl) rfl ?_
      refine ev_iload_n (pc' := 31) (i := 1) dX4_goesBeyond_30 rfl rfl rfl ?_
      refine ev_i2l (pc' := 32) (v := Int32.toInt64 w) dX4_goesBeyond_31 rfl rfl ?_
      refine ev_lc_le (p1 := 33) (tgt := 38) (pc' := 36) dX4_goesBeyond_32 rfl dX4_goesBeyond_33 rfl rfl (fun c2 => ?_) (fun c2 => ?_)
      · refine ev_iinc (pc' := 41) (v := nI (i + 1)) (lv' := [some (.ref a), some (.int w), some (.int (nI (i + 1)))]) dX4_goesBeyond_38 rfl rfl (nI_add i 1) (Nat.le_of_ble_eq_true rfl) rfl rfl ?_
        refine ev_goto (tgt := 2) dX4_goesBeyond_41 rfl ?_
        exact ih (i + 1) (by omega) (pt_all hA ⟨c1, Int64.not_lt.mpr c2⟩)
      · refine ev_iconst (pc' := 37) (v := 1) dX4_goesBeyond_36 rfl ki_1 ?_
        refine ev_iret dX4_goesBeyond_37 rfl rfl ⟨Nat.le_refl _, Nat.le_refl _⟩ ?_
        exact k1 (fun q => absurd (Int64.not_le.mp c2) (q i (by omega)).2)
/-- column j and k times column i, in the rows below r -/
def cKc (f : Nat → Int64) (i j : Nat) (k : Int64) (r : Nat) : Nat → Int64 := fun x => if x % 4 = j ∧ x / 4 < r then f x + k * f (4 * (x / 4) + i) else f x
def cKr (f : Nat → Int64) (i j : Nat) (k : Int64) (c : Nat) : Nat → Int64 := fun x => if x / 4 = j ∧ x % 4 < c then f x + k * f (4 * i + x % 4) else f x
def cShr (f : Nat → Int64) (i j : Nat) (k : Int64) : Nat → Int64 := cKr (cKc f i j k 4) i j k 4
theorem cKc_0 (f : Nat → Int64) (i j : Nat) (k : Int64) : cKc f i j k 0 = f := by
  funext x; unfold cKc; rw [if_neg (by omega)]
theorem cKr_0 (f : Nat → Int64) (i j : Nat) (k : Int64) : cKr f i j k 0 = f := by
  funext x; unfold cKr; rw [if_neg (by omega)]
theorem cKc_s (f : Nat → Int64) {i j : Nat} (k : Int64) (r : Nat) (hi : i < 4) (hj : j < 4) (h : i ≠ j) : ma_up (cKc f i j k r) (4 * r + j) (cKc f i j k r (4 * r + j) + k * cKc f i j k r (4 * r + i)) = cKc f i j k (r + 1) := by
  funext x
  by_cases e : x = 4 * r + j
  · subst e
    rw [ma_up_s]
    unfold cKc
    rw [if_neg (by omega), if_neg (by omega), if_pos (by omega), show (4 * r + j) / 4 = r by omega]
  · rw [ma_up_n _ _ e]
    unfold cKc
    by_cases q : x % 4 = j ∧ x / 4 < r
    · rw [if_pos q, if_pos (by omega)]
    · rw [if_neg q, if_neg (by omega)]
theorem cKr_s (f : Nat → Int64) {i j : Nat} (k : Int64) {c : Nat} (hc : c < 4) (hi : i < 4) (hj : j < 4) (h : i ≠ j) : ma_up (cKr f i j k c) (4 * j + c) (cKr f i j k c (4 * j + c) + k * cKr f i j k c (4 * i + c)) = cKr f i j k (c + 1) := by
  funext x
  by_cases e : x = 4 * j + c
  · subst e
    rw [ma_up_s]
    unfold cKr
    rw [if_neg (by omega), if_neg (by omega), if_pos (by omega), show (4 * j + c) % 4 = c by omega]
  · rw [ma_up_n _ _ e]
    unfold cKr
    by_cases q : x / 4 = j ∧ x % 4 < c
    · rw [if_pos q, if_pos (by omega)]
    · rw [if_neg q, if_neg (by omega)]
set_option maxRecDepth 4000 in
theorem t_X4_shearBy {g : ma_G} {Post : ma_P} {I : ma_I} {L : ma_L}  (i : Nat) (j : Nat) (k : Int32) (hi : i < 4) (hj : j < 4) (hij : i ≠ j) (k0 : Post none HS I (ma_up L 7 (cShr (L 7) i j (Int32.toInt64 k))) RF 146) : CT g yX4_shearBy cX4_shearBy 5 none rX4_shearBy [.ref 6, .int (nI i), .int (nI j), .int k] Post HS I L RF 146 := by
  refine ct_of (lv := [some (.ref 6), some (.int (nI i)), some (.int (nI j)), some (.int k), none]) (by decide) (Nat.le_of_ble_eq_true rfl) rfl ?_
  refine ev_iload_n (pc' := 1) (i := 1) dX4_shearBy_0 rfl rfl rfl ?_
  refine ev_callS (pc' := 4) (rm' := rX7_noLetter) (av := [.int (nI i)]) (rest := []) co_X4_25 cs_X7_noLetter dX4_shearBy_1 rfl rfl rfl (Nat.le_of_ble_eq_true rfl) ⟨(Nat.le_of_ble_eq_true rfl), (Nat.le_of_ble_eq_true rfl)⟩ ⟨(Nat.le_of_ble_eq_true rfl), (Nat.le_of_ble_eq_true rfl)⟩ ?_
  refine t_X7_noLetter (nI i) ?_
  refine ev_eqi (w := 0) (if_neg (no_nat (n := 4) (by omega) (by omega) rfl)) ?_
  refine ev_if_ne (tgt := 14) (pc' := 7) dX4_shearBy_4 rfl rfl (fun h => absurd (by decide) h) (fun _ => ?_)
  refine ev_iload_n (pc' := 8) (i := 2) dX4_shearBy_7 rfl rfl rfl ?_
  refine ev_callS (pc' := 11) (rm' := rX7_noLetter) (av := [.int (nI j)]) (rest := []) co_X4_25 cs_X7_noLetter dX4_shearBy_8 rfl rfl rfl (Nat.le_of_ble_eq_true rfl) ⟨(Nat.le_of_ble_eq_true rfl), (Nat.le_of_ble_eq_true rfl)⟩ ⟨(Nat.le_of_ble_eq_true rfl), (Nat.le_of_ble_eq_true rfl)⟩ ?_
  refine t_X7_noLetter (nI j) ?_
  refine ev_eqi (w := 0) (if_neg (no_nat (n := 4) (by omega) (by omega) rfl)) ?_
  refine ev_if_eq (tgt := 15) (pc' := 14) dX4_shearBy_11 rfl rfl (fun _ => ?_) (fun h => absurd (by decide) h)
  refine ev_iconst (pc' := 16) (v := 0) dX4_shearBy_15 rfl ki_0 ?_
  refine ev_istore (pc' := 18) (lv' := [some (.ref 6), some (.int (nI i)), some (.int (nI j)), some (.int k), some (.int 0)]) dX4_shearBy_16 rfl (Nat.le_of_ble_eq_true rfl) rfl rfl ?_
  suffices lp2 : ∀ (x1 r : Nat), r + x1 = 4 → EV g yX4_shearBy cX4_shearBy 5 none rX4_shearBy (ma_ZM g rX4_shearBy Post) 18 [some (.ref 6), some (.int (nI i)), some (.int (nI j)), some (.int k), some (.int (nI r))] [] HS I (ma_up L 7 (cKc (L 7) i j (Int32.toInt64 k) r)) RF 146 0 0 by
    refine ev_memL (fun z hz => ?_)
    have hz : z = ma_up L 7 (cKc (L 7) i j (Int32.toInt64 k) 0) := hz.trans (by rw [cKc_0, ma_up_self])
    subst hz
    exact lp2 4 0 rfl
  intro x1
  induction x1 with
  | zero =>
    intro r hr
    obtain rfl : r = 4 := by omega
    refine ev_iload (pc' := 20) dX4_shearBy_18 rfl rfl ?_
    refine ev_iconst (pc' := 21) (v := 4) dX4_shearBy_20 rfl ki_4 ?_
    refine ev_icmp_ge (tgt := 58) (pc' := 24) dX4_shearBy_21 rfl rfl (fun _ => ?_) (fun h => absurd (nx_le (a := 4) (b := 4) (by omega) (by omega)) h)
    refine ev_iconst (pc' := 59) (v := 0) dX4_shearBy_58 rfl ki_0 ?_
    refine ev_istore (pc' := 61) (lv' := [some (.ref 6), some (.int (nI i)), some (.int (nI j)), some (.int k), some (.int 0)]) dX4_shearBy_59 rfl (Nat.le_of_ble_eq_true rfl) rfl rfl ?_
    suffices lp4 : ∀ (x3 s : Nat), s + x3 = 4 → EV g yX4_shearBy cX4_shearBy 5 none rX4_shearBy (ma_ZM g rX4_shearBy Post) 61 [some (.ref 6), some (.int (nI i)), some (.int (nI j)), some (.int k), some (.int (nI s))] [] HS I (ma_up L 7 (cKr (cKc (L 7) i j (Int32.toInt64 k) 4) i j (Int32.toInt64 k) s)) RF 146 0 0 by
      refine ev_memL (fun z hz => ?_)
      have hz : z = ma_up L 7 (cKr (cKc (L 7) i j (Int32.toInt64 k) 4) i j (Int32.toInt64 k) 0) := hz.trans (by rw [cKr_0])
      subst hz
      exact lp4 4 0 rfl
    intro x3
    induction x3 with
    | zero =>
      intro s hs
      obtain rfl : s = 4 := by omega
      refine ev_iload (pc' := 63) dX4_shearBy_61 rfl rfl ?_
      refine ev_iconst (pc' := 64) (v := 4) dX4_shearBy_63 rfl ki_4 ?_
      refine ev_icmp_ge (tgt := 101) (pc' := 67) dX4_shearBy_64 rfl rfl (fun _ => ?_) (fun h => absurd (nx_le (a := 4) (b := 4) (by omega) (by omega)) h)
      refine ev_vret dX4_shearBy_101 rfl ⟨Nat.le_refl _, Nat.le_refl _⟩ ?_
      exact k0
    | succ x3 ihx3 =>
      intro s hs
      refine ev_iload (pc' := 63) dX4_shearBy_61 rfl rfl ?_
      refine ev_iconst (pc' := 64) (v := 4) dX4_shearBy_63 rfl ki_4 ?_
      refine ev_icmp_ge (tgt := 101) (pc' := 67) dX4_shearBy_64 rfl rfl (fun h => absurd h (nx_nle (a := 4) (b := s) (by omega) (by omega))) (fun _ => ?_)
      refine ev_aload_n (pc' := 68) (i := 0) dX4_shearBy_67 rfl rfl rfl ?_
      refine ev_getR (pc' := 71) fo_X4_9 dX4_shearBy_68 rfl hs_6 rfl rf_6_0 ?_
      refine ev_iconst (pc' := 72) (v := 4) dX4_shearBy_71 rfl ki_4 ?_
      refine ev_iload_n (pc' := 73) (i := 2) dX4_shearBy_72 rfl rfl rfl ?_
      refine ev_imul (pc' := 74) (v := nI (4 * j)) dX4_shearBy_73 rfl (pk_mul 4 j) ?_
      refine ev_iload (pc' := 76) dX4_shearBy_74 rfl rfl ?_
      refine ev_iadd (pc' := 77) (v := nI ((4 * j) + s)) dX4_shearBy_76 rfl (nI_add (4 * j) s) ?_
      refine ev_dup2 (pc' := 78) dX4_shearBy_77 rfl rfl rfl ?_
      refine ev_lald (pc' := 79) (j := (4 * j) + s) (v := (cKr (cKc (L 7) i j (Int32.toInt64 k) 4) i j (Int32.toInt64 k) s) ((4 * j) + s)) dX4_shearBy_78 rfl hs_7 rfl (by omega) (Nat.le_of_ble_eq_true rfl) rfl ?_
      refine ev_iload_n (pc' := 80) (i := 3) dX4_shearBy_79 rfl rfl rfl ?_
      refine ev_i2l (pc' := 81) (v := Int32.toInt64 k) dX4_shearBy_80 rfl rfl ?_
      refine ev_aload_n (pc' := 82) (i := 0) dX4_shearBy_81 rfl rfl rfl ?_
      refine ev_getR (pc' := 85) fo_X4_9 dX4_shearBy_82 rfl hs_6 rfl rf_6_0 ?_
      refine ev_iconst (pc' := 86) (v := 4) dX4_shearBy_85 rfl ki_4 ?_
      refine ev_iload_n (pc' := 87) (i := 1) dX4_shearBy_86 rfl rfl rfl ?_
      refine ev_imul (pc' := 88) (v := nI (4 * i)) dX4_shearBy_87 rfl (pk_mul 4 i) ?_
      refine ev_iload (pc' := 90) dX4_shearBy_88 rfl rfl ?_
      refine ev_iadd (pc' := 91) (v := nI ((4 * i) + s)) dX4_shearBy_90 rfl (nI_add (4 * i) s) ?_
      refine ev_lald (pc' := 92) (j := (4 * i) + s) (v := (cKr (cKc (L 7) i j (Int32.toInt64 k) 4) i j (Int32.toInt64 k) s) ((4 * i) + s)) dX4_shearBy_91 rfl hs_7 rfl (by omega) (Nat.le_of_ble_eq_true rfl) rfl ?_
      refine ev_lmul (pc' := 93) (v := (Int32.toInt64 k) * ((cKr (cKc (L 7) i j (Int32.toInt64 k) 4) i j (Int32.toInt64 k) s) ((4 * i) + s))) dX4_shearBy_92 rfl rfl ?_
      refine ev_ladd (pc' := 94) (v := ((cKr (cKc (L 7) i j (Int32.toInt64 k) 4) i j (Int32.toInt64 k) s) ((4 * j) + s)) + ((Int32.toInt64 k) * ((cKr (cKc (L 7) i j (Int32.toInt64 k) 4) i j (Int32.toInt64 k) s) ((4 * i) + s)))) dX4_shearBy_93 rfl rfl ?_
      refine ev_last (pc' := 95) (j := (4 * j) + s) (L' := (ma_up L 7 (ma_up (cKr (cKc (L 7) i j (Int32.toInt64 k) 4) i j (Int32.toInt64 k) s) ((4 * j) + s) (((cKr (cKc (L 7) i j (Int32.toInt64 k) 4) i j (Int32.toInt64 k) s) ((4 * j) + s)) + ((Int32.toInt64 k) * ((cKr (cKc (L 7) i j (Int32.toInt64 k) 4) i j (Int32.toInt64 k) s) ((4 * i) + s))))))) dX4_shearBy_94 rfl hs_7 rfl (by omega) (Nat.le_of_ble_eq_true rfl) (ma_up_up _ _ _ _) ?_
      refine ev_iinc (pc' := 98) (v := nI (s + 1)) (lv' := [some (.ref 6), some (.int (nI i)), some (.int (nI j)), some (.int k), some (.int (nI (s + 1)))]) dX4_shearBy_95 rfl rfl (nI_add s 1) (Nat.le_of_ble_eq_true rfl) rfl rfl ?_
      refine ev_goto (tgt := 61) dX4_shearBy_98 rfl ?_
      refine ev_memL (fun z hz => ?_)
      have hz := hz.trans (congrArg (ma_up L 7) (cKr_s (cKc (L 7) i j (Int32.toInt64 k) 4) (Int32.toInt64 k) (by omega) (by omega) (by omega) hij))
      subst hz
      exact ihx3 (s + 1) (by omega)
  | succ x1 ihx1 =>
    intro r hr
    refine ev_iload (pc' := 20) dX4_shearBy_18 rfl rfl ?_
    refine ev_iconst (pc' := 21) (v := 4) dX4_shearBy_20 rfl ki_4 ?_
    refine ev_icmp_ge (tgt := 58) (pc' := 24) dX4_shearBy_21 rfl rfl (fun h => absurd h (nx_nle (a := 4) (b := r) (by omega) (by omega))) (fun _ => ?_)
    refine ev_aload_n (pc' := 25) (i := 0) dX4_shearBy_24 rfl rfl rfl ?_
    refine ev_getR (pc' := 28) fo_X4_9 dX4_shearBy_25 rfl hs_6 rfl rf_6_0 ?_
    refine ev_iconst (pc' := 29) (v := 4) dX4_shearBy_28 rfl ki_4 ?_
    refine ev_iload (pc' := 31) dX4_shearBy_29 rfl rfl ?_
    refine ev_imul (pc' := 32) (v := nI (4 * r)) dX4_shearBy_31 rfl (pk_mul 4 r) ?_
    refine ev_iload_n (pc' := 33) (i := 2) dX4_shearBy_32 rfl rfl rfl ?_
    refine ev_iadd (pc' := 34) (v := nI ((4 * r) + j)) dX4_shearBy_33 rfl (nI_add (4 * r) j) ?_
    refine ev_dup2 (pc' := 35) dX4_shearBy_34 rfl rfl rfl ?_
    refine ev_lald (pc' := 36) (j := (4 * r) + j) (v := (cKc (L 7) i j (Int32.toInt64 k) r) ((4 * r) + j)) dX4_shearBy_35 rfl hs_7 rfl (by omega) (Nat.le_of_ble_eq_true rfl) rfl ?_
    refine ev_iload_n (pc' := 37) (i := 3) dX4_shearBy_36 rfl rfl rfl ?_
    refine ev_i2l (pc' := 38) (v := Int32.toInt64 k) dX4_shearBy_37 rfl rfl ?_
    refine ev_aload_n (pc' := 39) (i := 0) dX4_shearBy_38 rfl rfl rfl ?_
    refine ev_getR (pc' := 42) fo_X4_9 dX4_shearBy_39 rfl hs_6 rfl rf_6_0 ?_
    refine ev_iconst (pc' := 43) (v := 4) dX4_shearBy_42 rfl ki_4 ?_
    refine ev_iload (pc' := 45) dX4_shearBy_43 rfl rfl ?_
    refine ev_imul (pc' := 46) (v := nI (4 * r)) dX4_shearBy_45 rfl (pk_mul 4 r) ?_
    refine ev_iload_n (pc' := 47) (i := 1) dX4_shearBy_46 rfl rfl rfl ?_
    refine ev_iadd (pc' := 48) (v := nI ((4 * r) + i)) dX4_shearBy_47 rfl (nI_add (4 * r) i) ?_
    refine ev_lald (pc' := 49) (j := (4 * r) + i) (v := (cKc (L 7) i j (Int32.toInt64 k) r) ((4 * r) + i)) dX4_shearBy_48 rfl hs_7 rfl (by omega) (Nat.le_of_ble_eq_true rfl) rfl ?_
    refine ev_lmul (pc' := 50) (v := (Int32.toInt64 k) * ((cKc (L 7) i j (Int32.toInt64 k) r) ((4 * r) + i))) dX4_shearBy_49 rfl rfl ?_
    refine ev_ladd (pc' := 51) (v := ((cKc (L 7) i j (Int32.toInt64 k) r) ((4 * r) + j)) + ((Int32.toInt64 k) * ((cKc (L 7) i j (Int32.toInt64 k) r) ((4 * r) + i)))) dX4_shearBy_50 rfl rfl ?_
    refine ev_last (pc' := 52) (j := (4 * r) + j) (L' := (ma_up L 7 (ma_up (cKc (L 7) i j (Int32.toInt64 k) r) ((4 * r) + j) (((cKc (L 7) i j (Int32.toInt64 k) r) ((4 * r) + j)) + ((Int32.toInt64 k) * ((cKc (L 7) i j (Int32.toInt64 k) r) ((4 * r) + i))))))) dX4_shearBy_51 rfl hs_7 rfl (by omega) (Nat.le_of_ble_eq_true rfl) (ma_up_up _ _ _ _) ?_
    refine ev_iinc (pc' := 55) (v := nI (r + 1)) (lv' := [some (.ref 6), some (.int (nI i)), some (.int (nI j)), some (.int k), some (.int (nI (r + 1)))]) dX4_shearBy_52 rfl rfl (nI_add r 1) (Nat.le_of_ble_eq_true rfl) rfl rfl ?_
    refine ev_goto (tgt := 18) dX4_shearBy_55 rfl ?_
    refine ev_memL (fun z hz => ?_)
    have hz := hz.trans (congrArg (ma_up L 7) (cKc_s (L 7) (Int32.toInt64 k) r (by omega) (by omega) hij))
    subst hz
    exact ihx1 (r + 1) (by omega)
def cMov (f : Nat → Int64) (m : Nat → Int32) (s : Int32) : Nat → Int64 := cShr (cShr (cShr f 0 3 (Int32.toInt64 ((-s) * (m 0)))) 1 3 (Int32.toInt64 ((-s) * (m 1)))) 2 3 (Int32.toInt64 ((-s) * (m 2)))
set_option maxRecDepth 4000 in
theorem t_X4_moveBy {g : ma_G} {Post : ma_P} {I : ma_I} {L : ma_L}  (r : Nat) (s : Int32) (hr : HS r = (9, 16)) (k0 : Post none HS I (ma_up L 7 (cMov (L 7) (I r) s)) RF 146) : CT g yX4_moveBy cX4_moveBy 4 none rX4_moveBy [.ref 6, .ref r, .int s] Post HS I L RF 146 := by
  refine ct_of (lv := [some (.ref 6), some (.ref r), some (.int s), none]) (by decide) (Nat.le_of_ble_eq_true rfl) rfl ?_
  refine ev_iconst (pc' := 1) (v := 0) dX4_moveBy_0 rfl ki_0 ?_
  refine ev_istore_n (pc' := 2) (i := 3) (lv' := [some (.ref 6), some (.ref r), some (.int s), some (.int 0)]) dX4_moveBy_1 rfl rfl (Nat.le_of_ble_eq_true rfl) rfl rfl ?_
  refine ev_iload_n (pc' := 3) (i := 3) dX4_moveBy_2 rfl rfl rfl ?_
  refine ev_iconst (pc' := 4) (v := 3) dX4_moveBy_3 rfl ki_3 ?_
  refine ev_icmp_ge (tgt := 31) (pc' := 7) dX4_moveBy_4 rfl rfl (fun h => absurd h (by decide)) (fun _ => ?_)
  refine ev_iload_n (pc' := 8) (i := 3) dX4_moveBy_7 rfl rfl rfl ?_
  refine ev_aload_n (pc' := 9) (i := 1) dX4_moveBy_8 rfl rfl rfl ?_
  refine ev_alen (pc' := 10) (v := 16) dX4_moveBy_9 rfl hr (by decide) rfl ?_
  refine ev_icmp_ge (tgt := 31) (pc' := 13) dX4_moveBy_10 rfl rfl (fun h => absurd h (by decide)) (fun _ => ?_)
  refine ev_aload_n (pc' := 14) (i := 0) dX4_moveBy_13 rfl rfl rfl ?_
  refine ev_iload_n (pc' := 15) (i := 3) dX4_moveBy_14 rfl rfl rfl ?_
  refine ev_iconst (pc' := 16) (v := 3) dX4_moveBy_15 rfl ki_3 ?_
  refine ev_iload_n (pc' := 17) (i := 2) dX4_moveBy_16 rfl rfl rfl ?_
  refine ev_ineg (pc' := 18) (v := -s) dX4_moveBy_17 rfl rfl ?_
  refine ev_aload_n (pc' := 19) (i := 1) dX4_moveBy_18 rfl rfl rfl ?_
  refine ev_iload_n (pc' := 20) (i := 3) dX4_moveBy_19 rfl rfl rfl ?_
  refine ev_iald (pc' := 21) (j := 0) (v := (I r) 0) dX4_moveBy_20 rfl hr rfl (Nat.le_of_ble_eq_true rfl) (Nat.le_of_ble_eq_true rfl) rfl ?_
  refine ev_imul (pc' := 22) (v := (-s) * ((I r) 0)) dX4_moveBy_21 rfl rfl ?_
  refine ev_callV (pc' := 25) (rm' := rX4_shearBy) (b := 6) (av := [.int 0, .int 3, .int ((-s) * ((I r) 0))]) (rest := []) co_X4_29 ci_X4_shearBy cv_X4_shearBy dX4_moveBy_22 rfl hs_6 hb_X4 rfl rfl (Nat.le_of_ble_eq_true rfl) ⟨(Nat.le_of_ble_eq_true rfl), (Nat.le_of_ble_eq_true rfl)⟩ ⟨(Nat.le_of_ble_eq_true rfl), (Nat.le_of_ble_eq_true rfl)⟩ ?_
  refine t_X4_shearBy 0 3 ((-s) * ((I r) 0)) (by omega) (by omega) (by omega) ?_
  refine ev_iinc (pc' := 28) (v := 1) (lv' := [some (.ref 6), some (.ref r), some (.int s), some (.int 1)]) dX4_moveBy_25 rfl rfl (by decide) (Nat.le_of_ble_eq_true rfl) rfl rfl ?_
  refine ev_goto (tgt := 2) dX4_moveBy_28 rfl ?_
  refine ev_iload_n (pc' := 3) (i := 3) dX4_moveBy_2 rfl rfl rfl ?_
  refine ev_iconst (pc' := 4) (v := 3) dX4_moveBy_3 rfl ki_3 ?_
  refine ev_icmp_ge (tgt := 31) (pc' := 7) dX4_moveBy_4 rfl rfl (fun h => absurd h (by decide)) (fun _ => ?_)
  refine ev_iload_n (pc' := 8) (i := 3) dX4_moveBy_7 rfl rfl rfl ?_
  refine ev_aload_n (pc' := 9) (i := 1) dX4_moveBy_8 rfl rfl rfl ?_
  refine ev_alen (pc' := 10) (v := 16) dX4_moveBy_9 rfl hr (by decide) rfl ?_
  refine ev_icmp_ge (tgt := 31) (pc' := 13) dX4_moveBy_10 rfl rfl (fun h => absurd h (by decide)) (fun _ => ?_)
  refine ev_aload_n (pc' := 14) (i := 0) dX4_moveBy_13 rfl rfl rfl ?_
  refine ev_iload_n (pc' := 15) (i := 3) dX4_moveBy_14 rfl rfl rfl ?_
  refine ev_iconst (pc' := 16) (v := 3) dX4_moveBy_15 rfl ki_3 ?_
  refine ev_iload_n (pc' := 17) (i := 2) dX4_moveBy_16 rfl rfl rfl ?_
  refine ev_ineg (pc' := 18) (v := -s) dX4_moveBy_17 rfl rfl ?_
  refine ev_aload_n (pc' := 19) (i := 1) dX4_moveBy_18 rfl rfl rfl ?_
  refine ev_iload_n (pc' := 20) (i := 3) dX4_moveBy_19 rfl rfl rfl ?_
  refine ev_iald (pc' := 21) (j := 1) (v := (I r) 1) dX4_moveBy_20 rfl hr rfl (Nat.le_of_ble_eq_true rfl) (Nat.le_of_ble_eq_true rfl) rfl ?_
  refine ev_imul (pc' := 22) (v := (-s) * ((I r) 1)) dX4_moveBy_21 rfl rfl ?_
  refine ev_callV (pc' := 25) (rm' := rX4_shearBy) (b := 6) (av := [.int 1, .int 3, .int ((-s) * ((I r) 1))]) (rest := []) co_X4_29 ci_X4_shearBy cv_X4_shearBy dX4_moveBy_22 rfl hs_6 hb_X4 rfl rfl (Nat.le_of_ble_eq_true rfl) ⟨(Nat.le_of_ble_eq_true rfl), (Nat.le_of_ble_eq_true rfl)⟩ ⟨(Nat.le_of_ble_eq_true rfl), (Nat.le_of_ble_eq_true rfl)⟩ ?_
  refine t_X4_shearBy 1 3 ((-s) * ((I r) 1)) (by omega) (by omega) (by omega) ?_
  refine ev_memL (fun z hz => ?_)
  rw [ma_up_up] at hz
  have hz : z = ma_up L 7 (cShr (cShr (L 7) 0 3 (Int32.toInt64 ((-s) * ((I r) 0)))) 1 3 (Int32.toInt64 ((-s) * ((I r) 1)))) := hz
  subst hz
  refine ev_iinc (pc' := 28) (v := 2) (lv' := [some (.ref 6), some (.ref r), some (.int s), some (.int 2)]) dX4_moveBy_25 rfl rfl (by decide) (Nat.le_of_ble_eq_true rfl) rfl rfl ?_
  refine ev_goto (tgt := 2) dX4_moveBy_28 rfl ?_
  refine ev_iload_n (pc' := 3) (i := 3) dX4_moveBy_2 rfl rfl rfl ?_
  refine ev_iconst (pc' := 4) (v := 3) dX4_moveBy_3 rfl ki_3 ?_
  refine ev_icmp_ge (tgt := 31) (pc' := 7) dX4_moveBy_4 rfl rfl (fun h => absurd h (by decide)) (fun _ => ?_)
  refine ev_iload_n (pc' := 8) (i := 3) dX4_moveBy_7 rfl rfl rfl ?_
  refine ev_aload_n (pc' := 9) (i := 1) dX4_moveBy_8 rfl rfl rfl ?_
  refine ev_alen (pc' := 10) (v := 16) dX4_moveBy_9 rfl hr (by decide) rfl ?_
  refine ev_icmp_ge (tgt := 31) (pc' := 13) dX4_moveBy_10 rfl rfl (fun h => absurd h (by decide)) (fun _ => ?_)
  refine ev_aload_n (pc' := 14) (i := 0) dX4_moveBy_13 rfl rfl rfl ?_
  refine ev_iload_n (pc' := 15) (i := 3) dX4_moveBy_14 rfl rfl rfl ?_
  refine ev_iconst (pc' := 16) (v := 3) dX4_moveBy_15 rfl ki_3 ?_
  refine ev_iload_n (pc' := 17) (i := 2) dX4_moveBy_16 rfl rfl rfl ?_
  refine ev_ineg (pc' := 18) (v := -s) dX4_moveBy_17 rfl rfl ?_
  refine ev_aload_n (pc' := 19) (i := 1) dX4_moveBy_18 rfl rfl rfl ?_
  refine ev_iload_n (pc' := 20) (i := 3) dX4_moveBy_19 rfl rfl rfl ?_
  refine ev_iald (pc' := 21) (j := 2) (v := (I r) 2) dX4_moveBy_20 rfl hr rfl (Nat.le_of_ble_eq_true rfl) (Nat.le_of_ble_eq_true rfl) rfl ?_
  refine ev_imul (pc' := 22) (v := (-s) * ((I r) 2)) dX4_moveBy_21 rfl rfl ?_
  refine ev_callV (pc' := 25) (rm' := rX4_shearBy) (b := 6) (av := [.int 2, .int 3, .int ((-s) * ((I r) 2))]) (rest := []) co_X4_29 ci_X4_shearBy cv_X4_shearBy dX4_moveBy_22 rfl hs_6 hb_X4 rfl rfl (Nat.le_of_ble_eq_true rfl) ⟨(Nat.le_of_ble_eq_true rfl), (Nat.le_of_ble_eq_true rfl)⟩ ⟨(Nat.le_of_ble_eq_true rfl), (Nat.le_of_ble_eq_true rfl)⟩ ?_
  refine t_X4_shearBy 2 3 ((-s) * ((I r) 2)) (by omega) (by omega) (by omega) ?_
  refine ev_memL (fun z hz => ?_)
  rw [ma_up_up] at hz
  have hz : z = ma_up L 7 (cShr (cShr (cShr (L 7) 0 3 (Int32.toInt64 ((-s) * ((I r) 0)))) 1 3 (Int32.toInt64 ((-s) * ((I r) 1)))) 2 3 (Int32.toInt64 ((-s) * ((I r) 2)))) := hz
  subst hz
  refine ev_iinc (pc' := 28) (v := 3) (lv' := [some (.ref 6), some (.ref r), some (.int s), some (.int 3)]) dX4_moveBy_25 rfl rfl (by decide) (Nat.le_of_ble_eq_true rfl) rfl rfl ?_
  refine ev_goto (tgt := 2) dX4_moveBy_28 rfl ?_
  refine ev_iload_n (pc' := 3) (i := 3) dX4_moveBy_2 rfl rfl rfl ?_
  refine ev_iconst (pc' := 4) (v := 3) dX4_moveBy_3 rfl ki_3 ?_
  refine ev_icmp_ge (tgt := 31) (pc' := 7) dX4_moveBy_4 rfl rfl (fun _ => ?_) (fun h => absurd (by decide) h)
  refine ev_vret dX4_moveBy_31 rfl ⟨Nat.le_refl _, Nat.le_refl _⟩ ?_
  exact k0
