def W30 (k : Nat) : Nat := 2 ^ (30 * k)
def dg (n k : Nat) : Nat := n / W30 k % 1073741824
/-- the row holds the eight lowest words of n -/
def mBg (T : Nat → Int64) (n : Nat) : Prop := ∀ j, j < 8 → T j = lN (dg n j)
theorem W30_pos (k : Nat) : 0 < W30 k := Nat.pow_pos (by decide)
theorem W30_add (a b : Nat) : W30 (a + b) = W30 a * W30 b := by unfold W30; rw [Nat.mul_add, Nat.pow_add]
theorem W30_1 : W30 1 = 1073741824 := by decide
theorem W30_s (k : Nat) : W30 (k + 1) = W30 k * 1073741824 := by rw [W30_add, W30_1]
theorem dg_lt (n k : Nat) : dg n k < 1073741824 := Nat.mod_lt _ (by decide)
theorem dg_add (a z : Nat) {j m : Nat} (h : j < m) : dg (a + z * W30 m) j = dg a j := by
  obtain ⟨c, rfl⟩ : ∃ c, m = j + (1 + c) := ⟨m - j - 1, by omega⟩
  unfold dg
  rw [W30_add j, W30_add 1 c, W30_1]
  rw [show z * (W30 j * (1073741824 * W30 c)) = (W30 c * z * 1073741824) * W30 j by
    rw [Nat.mul_comm (W30 j), ← Nat.mul_assoc]; congr 1
    rw [Nat.mul_comm 1073741824, ← Nat.mul_assoc, Nat.mul_comm z]]
  rw [Nat.add_mul_div_right _ _ (W30_pos j), Nat.add_mul_mod_self_right]
theorem div_W (n k : Nat) : n / W30 k / 1073741824 = n / W30 (k + 1) := by rw [Nat.div_div_eq_div_mul, W30_s]
theorem mod_W (n k : Nat) : n % W30 (k + 1) = n % W30 k + dg n k * W30 k := by
  rw [W30_s, Nat.mod_mul]; unfold dg; rw [Nat.mul_comm (W30 k)]
/-- what the words below k + s say after k words of the row n times d, laid on P at the word s -/
def bgA (P n d s k : Nat) : Nat := P % W30 (k + s) + n % W30 k * d * W30 s
theorem bgA_0 (P n d s : Nat) : bgA P n d s 0 = P % W30 s := by
  unfold bgA; rw [show n % W30 0 = 0 from Nat.mod_one n, Nat.zero_mul, Nat.zero_mul, Nat.zero_add, Nat.add_zero]
theorem bgA_s (P n d s k : Nat) : bgA P n d s (k + 1) = bgA P n d s k + (dg P (k + s) + dg n k * d) * W30 (k + s) := by
  unfold bgA
  rw [show k + 1 + s = k + s + 1 by omega, mod_W P, mod_W n, Nat.add_mul, Nat.add_mul, Nat.add_mul, W30_add k s]
  have : dg n k * W30 k * d * W30 s = dg n k * d * (W30 k * W30 s) := by
    rw [Nat.mul_assoc (dg n k), Nat.mul_comm (W30 k) d, ← Nat.mul_assoc, Nat.mul_assoc]
  rw [this]; omega
theorem bgA_div (P n d s k : Nat) : bgA P n d s (k + 1) / W30 (k + s) = dg P (k + s) + dg n k * d + bgA P n d s k / W30 (k + s) := by
  rw [bgA_s, Nat.add_mul_div_right _ _ (W30_pos _), Nat.add_comm]
theorem bgA_c (P n d s k : Nat) (hd : d < 1073741824) : bgA P n d s k / W30 (k + s) < 1073741826 := by
  rw [Nat.div_lt_iff_lt_mul (W30_pos _)]
  unfold bgA
  have h1 : P % W30 (k + s) < W30 (k + s) := Nat.mod_lt _ (W30_pos _)
  have h2 : n % W30 k ≤ W30 k := Nat.le_of_lt (Nat.mod_lt _ (W30_pos _))
  have h3 : n % W30 k * d * W30 s ≤ W30 k * 1073741824 * W30 s := Nat.mul_le_mul (Nat.mul_le_mul h2 (by omega)) (Nat.le_refl _)
  rw [show W30 k * 1073741824 * W30 s = 1073741824 * W30 (k + s) by rw [W30_add, Nat.mul_comm (W30 k), Nat.mul_assoc]] at h3
  omega
theorem bgA_end (P n d s k : Nat) (h : k + s = 8) {j : Nat} (hj : j < 8) : dg (P + n * d * W30 s) j = dg (bgA P n d s k) j := by
  have e : P + n * d * W30 s = bgA P n d s k + (P / W30 8 + n / W30 k * d) * W30 8 := by
    unfold bgA
    rw [h]
    have h1 := Nat.mod_add_div P (W30 8)
    have h2 : n * d * W30 s = n % W30 k * d * W30 s + n / W30 k * d * W30 8 := by
      conv => lhs; rw [← Nat.mod_add_div n (W30 k), Nat.add_mul, Nat.add_mul]
      congr 1
      rw [← h, W30_add, Nat.mul_comm (W30 k), Nat.mul_assoc, Nat.mul_assoc, Nat.mul_assoc]
      congr 1
      rw [← Nat.mul_assoc, Nat.mul_comm (W30 k), Nat.mul_assoc]
    rw [h2, Nat.add_mul, Nat.mul_comm (P / W30 8)]
    omega
  rw [e, dg_add _ _ hj]
theorem bg_dig (n x s : Nat) : n * (x % W30 s) + n * (x / W30 s % 1073741824) * W30 s = n * (x % W30 (s + 1)) := by
  rw [mod_W, Nat.mul_add, Nat.mul_assoc]; rfl
theorem bgA_dg (P n d s k : Nat) {j : Nat} (h : j < k + s) : dg (bgA P n d s (k + 1)) j = dg (bgA P n d s k) j := by rw [bgA_s, dg_add _ _ h]
theorem bgA_dk (P n d s k : Nat) : dg (bgA P n d s (k + 1)) (k + s) = (dg P (k + s) + dg n k * d + bgA P n d s k / W30 (k + s)) % 1073741824 := by
  unfold dg; rw [bgA_div]; rfl
theorem mod_dg (P : Nat) {j m : Nat} (h : j < m) : dg (P % W30 m) j = dg P j := by
  conv => rhs; rw [← Nat.mod_add_div P (W30 m), Nat.mul_comm]
  rw [dg_add _ _ h]
theorem div_le63 {x : Nat} (s : Nat) (h : x < 9223372036854775808) : x / W30 s < 9223372036854775808 := Nat.lt_of_le_of_lt (Nat.div_le_self _ _) h
set_option maxRecDepth 4000 in
theorem t_X8_times136 {g : ma_G} {Post : ma_P} {I : ma_I} {L : ma_L} (n x : Nat) (hx : x < 9223372036854775808) (hT : mBg (L 136) n) (k : ∀ Y Z : Nat → Int64, mBg Z (n * x) → Post none HS I (ma_up (ma_up L 138 Y) 136 Z) RF 146) : CT g yX8_times cX8_times 16 none rX8_times [.ref 115, .ref 136, .long (lN x)] Post HS I L RF 146 := by
  refine ct_of (lv := [some (.ref 115), some (.ref 136), some (.long (lN x)), none, none, none, none, none, none, none, none, none, none, none, none, none]) (by decide) (Nat.le_of_ble_eq_true rfl) rfl ?_
  refine ev_ldc2 (pc' := 3) cl_X8_265 dX8_times_0 rfl ?_
  refine ev_topl (fun z hz => ?_)
  have hz : z = lN 1073741824 := hz.trans (by decide)
  subst hz
  refine ev_memL (fun z hz => ?_)
  have hz : z = ma_up (ma_up L 138 (L 138)) 136 (L 136) := by rw [hz, ma_up_self, ma_up_self]
  subst hz
  refine ev_lstore (pc' := 5) (lv' := [some (.ref 115), some (.ref 136), some (.long (lN x)), none, some (.long (lN 1073741824)), none, none, none, none, none, none, none, none, none, none, none]) dX8_times_3 rfl (Nat.le_of_ble_eq_true rfl) rfl rfl ?_
  refine ev_iconst (pc' := 6) (v := 0) dX8_times_5 rfl ki_0 ?_
  refine ev_istore (pc' := 8) (lv' := [some (.ref 115), some (.ref 136), some (.long (lN x)), none, some (.long (lN 1073741824)), none, some (.int 0), none, none, none, none, none, none, none, none, none]) dX8_times_6 rfl (Nat.le_of_ble_eq_true rfl) rfl rfl ?_
  suffices lz : ∀ (d k : Nat) (X : Nat → Int64), k + d = 8 → (∀ j, j < k → X j = lN (dg 0 j)) → EV g yX8_times cX8_times 16 none rX8_times (ma_ZM g rX8_times Post) 8 [some (.ref 115), some (.ref 136), some (.long (lN x)), none, some (.long (lN 1073741824)), none, some (.int (nI k)), none, none, none, none, none, none, none, none, none] [] HS I (ma_up (ma_up L 138 X) 136 (L 136)) RF 146 0 0 from lz 8 0 (L 138) rfl (fun j hj => absurd hj (Nat.not_lt_zero j))
  intro d
  induction d with
  | zero =>
    intro k X hk hX
    obtain rfl : k = 8 := by omega
    refine ev_iload (pc' := 10) dX8_times_8 rfl rfl ?_
    refine ev_bipush (pc' := 12) (v := 8) dX8_times_10 rfl kb_8 ?_
    refine ev_icmp_ge (tgt := 29) (pc' := 15) dX8_times_12 rfl rfl (fun _ => ?_) (fun h => absurd (nx_le (a := 8) (b := 8) (by omega) (by omega)) h)
    refine ev_lload_n (pc' := 30) (i := 2) dX8_times_29 rfl rfl rfl ?_
    refine ev_lstore (pc' := 32) (lv' := [some (.ref 115), some (.ref 136), some (.long (lN x)), none, some (.long (lN 1073741824)), none, some (.long (lN x)), none, none, none, none, none, none, none, none, none]) dX8_times_30 rfl (Nat.le_of_ble_eq_true rfl) rfl rfl ?_
    refine ev_iconst (pc' := 33) (v := 0) dX8_times_32 rfl ki_0 ?_
    refine ev_istore (pc' := 35) (lv' := [some (.ref 115), some (.ref 136), some (.long (lN x)), none, some (.long (lN 1073741824)), none, some (.long (lN x)), none, some (.int 0), none, none, none, none, none, none, none]) dX8_times_33 rfl (Nat.le_of_ble_eq_true rfl) rfl rfl ?_
    suffices lo : ∀ (d s : Nat) (Y : Nat → Int64), s + d = 3 → mBg Y (n * (x % W30 s)) → EV g yX8_times cX8_times 16 none rX8_times (ma_ZM g rX8_times Post) 35 [some (.ref 115), some (.ref 136), some (.long (lN x)), none, some (.long (lN 1073741824)), none, some (.long (lN (x / W30 s))), none, some (.int (nI s)), none, none, none, none, none, none, none] [] HS I (ma_up (ma_up L 138 Y) 136 (L 136)) RF 146 0 0 by
      have q := lo 3 0 X rfl (fun j hj => by rw [show x % W30 0 = 0 from Nat.mod_one x, Nat.mul_zero]; exact hX j hj)
      rw [show x / W30 0 = x from Nat.div_one x] at q
      exact q
    intro d1
    induction d1 with
    | zero =>
      intro s Y hs hY
      obtain rfl : s = 3 := by omega
      have h0 : x / W30 3 = 0 := Nat.div_eq_of_lt (Nat.lt_of_lt_of_le hx (by decide))
      have hY : mBg Y (n * x) := by rw [Nat.mod_eq_of_lt ((Nat.div_eq_zero_iff_lt (W30_pos 3)).mp h0)] at hY; exact hY
      refine ev_lload (pc' := 37) dX8_times_35 rfl rfl ?_
      refine ev_lconst (pc' := 38) (v := 0) dX8_times_37 rfl kl_0 ?_
      refine ev_lc_le (p1 := 39) (tgt := 129) (pc' := 42) dX8_times_38 rfl dX8_times_39 rfl rfl (fun _ => ?_) (fun h => absurd (by rw [h0]; exact Int64.le_refl _) h)
      refine ev_iconst (pc' := 130) (v := 0) dX8_times_129 rfl ki_0 ?_
      refine ev_istore (pc' := 132) (lv' := [some (.ref 115), some (.ref 136), some (.long (lN x)), none, some (.long (lN 1073741824)), none, some (.long (lN (x / W30 3))), none, some (.int 0), none, none, none, none, none, none, none]) dX8_times_130 rfl (Nat.le_of_ble_eq_true rfl) rfl rfl ?_
      suffices lc : ∀ (d k : Nat) (Z : Nat → Int64), k + d = 8 → (∀ j, j < k → Z j = lN (dg (n * x) j)) → EV g yX8_times cX8_times 16 none rX8_times (ma_ZM g rX8_times Post) 132 [some (.ref 115), some (.ref 136), some (.long (lN x)), none, some (.long (lN 1073741824)), none, some (.long (lN (x / W30 3))), none, some (.int (nI k)), none, none, none, none, none, none, none] [] HS I (ma_up (ma_up L 138 Y) 136 Z) RF 146 0 0 from lc 8 0 (L 136) rfl (fun j hj => absurd hj (Nat.not_lt_zero j))
      intro d3
      induction d3 with
      | zero =>
        intro k Z hk hZ
        obtain rfl : k = 8 := by omega
        refine ev_iload (pc' := 134) dX8_times_132 rfl rfl ?_
        refine ev_bipush (pc' := 136) (v := 8) dX8_times_134 rfl kb_8 ?_
        refine ev_icmp_ge (tgt := 156) (pc' := 139) dX8_times_136 rfl rfl (fun _ => ?_) (fun h => absurd (nx_le (a := 8) (b := 8) (by omega) (by omega)) h)
        refine ev_vret dX8_times_156 rfl ⟨Nat.le_refl _, Nat.le_refl _⟩ ?_
        exact k Y Z hZ
      | succ d3 ih3 =>
        intro k Z hk hZ
        refine ev_iload (pc' := 134) dX8_times_132 rfl rfl ?_
        refine ev_bipush (pc' := 136) (v := 8) dX8_times_134 rfl kb_8 ?_
        refine ev_icmp_ge (tgt := 156) (pc' := 139) dX8_times_136 rfl rfl (fun h => absurd h (nx_nle (a := 8) (b := k) (by omega) (by omega))) (fun _ => ?_)
        refine ev_aload_n (pc' := 140) (i := 1) dX8_times_139 rfl rfl rfl ?_
        refine ev_iload (pc' := 142) dX8_times_140 rfl rfl ?_
        refine ev_aload_n (pc' := 143) (i := 0) dX8_times_142 rfl rfl rfl ?_
        refine ev_getR (pc' := 146) fo_X8_82 dX8_times_143 rfl hs_115 rfl rf_115_30 ?_
        refine ev_iload (pc' := 148) dX8_times_146 rfl rfl ?_
        refine ev_lald (pc' := 149) (j := k) (v := Y k) dX8_times_148 rfl hs_138 rfl (by omega) (Nat.le_of_ble_eq_true rfl) rfl ?_
        refine ev_last (pc' := 150) (j := k) (L' := (ma_up (ma_up L 138 Y) 136 (ma_up Z k (Y k)))) dX8_times_149 rfl hs_136 rfl (by omega) (Nat.le_of_ble_eq_true rfl) (ma_up_up _ _ _ _) ?_
        refine ev_iinc (pc' := 153) (v := nI (k + 1)) (lv' := [some (.ref 115), some (.ref 136), some (.long (lN x)), none, some (.long (lN 1073741824)), none, some (.long (lN (x / W30 3))), none, some (.int (nI (k + 1))), none, none, none, none, none, none, none]) dX8_times_150 rfl rfl (nI_add k 1) (Nat.le_of_ble_eq_true rfl) rfl rfl ?_
        refine ev_goto (tgt := 132) dX8_times_153 rfl ?_
        exact ih3 (k + 1) _ (by omega) (pt_all (fun j hj => by rw [ma_up_n _ _ (show j ≠ k by omega)]; exact hZ j hj) (by rw [ma_up_s]; exact hY k (by omega)))
    | succ d1 ih1 =>
      intro s Y hs hY
      have hxs := div_le63 s hx
      by_cases h0 : x / W30 s = 0
      · have hY : mBg Y (n * x) := by rw [Nat.mod_eq_of_lt ((Nat.div_eq_zero_iff_lt (W30_pos s)).mp h0)] at hY; exact hY
        refine ev_lload (pc' := 37) dX8_times_35 rfl rfl ?_
        refine ev_lconst (pc' := 38) (v := 0) dX8_times_37 rfl kl_0 ?_
        refine ev_lc_le (p1 := 39) (tgt := 129) (pc' := 42) dX8_times_38 rfl dX8_times_39 rfl rfl (fun _ => ?_) (fun h => absurd (by rw [h0]; exact Int64.le_refl _) h)
        refine ev_iconst (pc' := 130) (v := 0) dX8_times_129 rfl ki_0 ?_
        refine ev_istore (pc' := 132) (lv' := [some (.ref 115), some (.ref 136), some (.long (lN x)), none, some (.long (lN 1073741824)), none, some (.long (lN (x / W30 s))), none, some (.int 0), none, none, none, none, none, none, none]) dX8_times_130 rfl (Nat.le_of_ble_eq_true rfl) rfl rfl ?_
        suffices lc : ∀ (d k : Nat) (Z : Nat → Int64), k + d = 8 → (∀ j, j < k → Z j = lN (dg (n * x) j)) → EV g yX8_times cX8_times 16 none rX8_times (ma_ZM g rX8_times Post) 132 [some (.ref 115), some (.ref 136), some (.long (lN x)), none, some (.long (lN 1073741824)), none, some (.long (lN (x / W30 s))), none, some (.int (nI k)), none, none, none, none, none, none, none] [] HS I (ma_up (ma_up L 138 Y) 136 Z) RF 146 0 0 from lc 8 0 (L 136) rfl (fun j hj => absurd hj (Nat.not_lt_zero j))
        intro d3
        induction d3 with
        | zero =>
          intro k Z hk hZ
          obtain rfl : k = 8 := by omega
          refine ev_iload (pc' := 134) dX8_times_132 rfl rfl ?_
          refine ev_bipush (pc' := 136) (v := 8) dX8_times_134 rfl kb_8 ?_
          refine ev_icmp_ge (tgt := 156) (pc' := 139) dX8_times_136 rfl rfl (fun _ => ?_) (fun h => absurd (nx_le (a := 8) (b := 8) (by omega) (by omega)) h)
          refine ev_vret dX8_times_156 rfl ⟨Nat.le_refl _, Nat.le_refl _⟩ ?_
          exact k Y Z hZ
        | succ d3 ih3 =>
          intro k Z hk hZ
          refine ev_iload (pc' := 134) dX8_times_132 rfl rfl ?_
          refine ev_bipush (pc' := 136) (v := 8) dX8_times_134 rfl kb_8 ?_
          refine ev_icmp_ge (tgt := 156) (pc' := 139) dX8_times_136 rfl rfl (fun h => absurd h (nx_nle (a := 8) (b := k) (by omega) (by omega))) (fun _ => ?_)
          refine ev_aload_n (pc' := 140) (i := 1) dX8_times_139 rfl rfl rfl ?_
          refine ev_iload (pc' := 142) dX8_times_140 rfl rfl ?_
          refine ev_aload_n (pc' := 143) (i := 0) dX8_times_142 rfl rfl rfl ?_
          refine ev_getR (pc' := 146) fo_X8_82 dX8_times_143 rfl hs_115 rfl rf_115_30 ?_
          refine ev_iload (pc' := 148) dX8_times_146 rfl rfl ?_
          refine ev_lald (pc' := 149) (j := k) (v := Y k) dX8_times_148 rfl hs_138 rfl (by omega) (Nat.le_of_ble_eq_true rfl) rfl ?_
          refine ev_last (pc' := 150) (j := k) (L' := (ma_up (ma_up L 138 Y) 136 (ma_up Z k (Y k)))) dX8_times_149 rfl hs_136 rfl (by omega) (Nat.le_of_ble_eq_true rfl) (ma_up_up _ _ _ _) ?_
          refine ev_iinc (pc' := 153) (v := nI (k + 1)) (lv' := [some (.ref 115), some (.ref 136), some (.long (lN x)), none, some (.long (lN 1073741824)), none, some (.long (lN (x / W30 s))), none, some (.int (nI (k + 1))), none, none, none, none, none, none, none]) dX8_times_150 rfl rfl (nI_add k 1) (Nat.le_of_ble_eq_true rfl) rfl rfl ?_
          refine ev_goto (tgt := 132) dX8_times_153 rfl ?_
          exact ih3 (k + 1) _ (by omega) (pt_all (fun j hj => by rw [ma_up_n _ _ (show j ≠ k by omega)]; exact hZ j hj) (by rw [ma_up_s]; exact hY k (by omega)))
      · refine ev_lload (pc' := 37) dX8_times_35 rfl rfl ?_
        refine ev_lconst (pc' := 38) (v := 0) dX8_times_37 rfl kl_0 ?_
        refine ev_lc_le (p1 := 39) (tgt := 129) (pc' := 42) dX8_times_38 rfl dX8_times_39 rfl rfl (fun h => absurd h (fun q => h0 (Nat.le_zero.mp ((pk_lLE (b := 0) (by omega) (by omega)).mp q)))) (fun _ => ?_)
        refine ev_lload (pc' := 44) dX8_times_42 rfl rfl ?_
        refine ev_lload (pc' := 46) dX8_times_44 rfl rfl ?_
        refine ev_lrem (pc' := 47) (v := lN ((x / W30 s) % 1073741824)) dX8_times_46 rfl (by decide) (pk_lRem (by omega) (by omega) (by omega)) ?_
        obtain ⟨dd, hdd⟩ : ∃ dd, dd = x / W30 s % 1073741824 := ⟨_, rfl⟩
        have hdl : dd < 1073741824 := by rw [hdd]; exact Nat.mod_lt _ (by decide)
        refine ev_topl (fun z hz => ?_)
        rw [← hdd] at hz
        subst hz
        refine ev_lstore (pc' := 49) (lv' := [some (.ref 115), some (.ref 136), some (.long (lN x)), none, some (.long (lN 1073741824)), none, some (.long (lN (x / W30 s))), none, some (.int (nI s)), some (.long (lN dd)), none, none, none, none, none, none]) dX8_times_47 rfl (Nat.le_of_ble_eq_true rfl) rfl rfl ?_
        refine ev_lload (pc' := 51) dX8_times_49 rfl rfl ?_
        refine ev_lload (pc' := 53) dX8_times_51 rfl rfl ?_
        refine ev_ldiv (pc' := 54) (v := lN ((x / W30 s) / 1073741824)) dX8_times_53 rfl (by decide) (pk_lDiv (by omega) (by omega) (by omega)) ?_
        refine ev_topl (fun z hz => ?_)
        rw [div_W] at hz
        subst hz
        refine ev_lstore (pc' := 56) (lv' := [some (.ref 115), some (.ref 136), some (.long (lN x)), none, some (.long (lN 1073741824)), none, some (.long (lN (x / W30 (s + 1)))), none, some (.int (nI s)), some (.long (lN dd)), none, none, none, none, none, none]) dX8_times_54 rfl (Nat.le_of_ble_eq_true rfl) rfl rfl ?_
        refine ev_lconst (pc' := 57) (v := 0) dX8_times_56 rfl kl_0 ?_
        refine ev_lstore (pc' := 59) (lv' := [some (.ref 115), some (.ref 136), some (.long (lN x)), none, some (.long (lN 1073741824)), none, some (.long (lN (x / W30 (s + 1)))), none, some (.int (nI s)), some (.long (lN dd)), none, some (.long 0), none, none, none, none]) dX8_times_57 rfl (Nat.le_of_ble_eq_true rfl) rfl rfl ?_
        refine ev_iconst (pc' := 60) (v := 0) dX8_times_59 rfl ki_0 ?_
        refine ev_istore (pc' := 62) (lv' := [some (.ref 115), some (.ref 136), some (.long (lN x)), none, some (.long (lN 1073741824)), none, some (.long (lN (x / W30 (s + 1)))), none, some (.int (nI s)), some (.long (lN dd)), none, some (.long 0), none, some (.int 0), none, none]) dX8_times_60 rfl (Nat.le_of_ble_eq_true rfl) rfl rfl ?_
        suffices li : ∀ (d k c : Nat) (Y2 : Nat → Int64), k + d + s = 8 → c = bgA (n * (x % W30 s)) n dd s k / W30 (k + s) → (∀ j, j < 8 → Y2 j = lN (dg (if j < k + s then bgA (n * (x % W30 s)) n dd s k else (n * (x % W30 s))) j)) → EV g yX8_times cX8_times 16 none rX8_times (ma_ZM g rX8_times Post) 62 [some (.ref 115), some (.ref 136), some (.long (lN x)), none, some (.long (lN 1073741824)), none, some (.long (lN (x / W30 (s + 1)))), none, some (.int (nI s)), some (.long (lN dd)), none, some (.long (lN c)), none, some (.int (nI k)), none, none] [] HS I (ma_up (ma_up L 138 Y2) 136 (L 136)) RF 146 0 0 by
          refine li (8 - s) 0 0 Y (by omega) (by rw [bgA_0, Nat.zero_add]; exact (Nat.div_eq_of_lt (Nat.mod_lt _ (W30_pos _))).symm) (fun j hj => ?_)
          rw [hY j hj]
          by_cases q : j < 0 + s
          · rw [if_pos q, bgA_0, mod_dg _ (by omega)]
          · rw [if_neg q]
        intro d2
        induction d2 with
        | zero =>
          intro k c Y2 hk hc hY2
          refine ev_iload (pc' := 64) dX8_times_62 rfl rfl ?_
          refine ev_iload (pc' := 66) dX8_times_64 rfl rfl ?_
          refine ev_iadd (pc' := 67) (v := nI (k + s)) dX8_times_66 rfl (nI_add k s) ?_
          refine ev_bipush (pc' := 69) (v := 8) dX8_times_67 rfl kb_8 ?_
          refine ev_icmp_ge (tgt := 123) (pc' := 72) dX8_times_69 rfl rfl (fun _ => ?_) (fun h => absurd (nx_le (a := 8) (b := (k + s)) (by omega) (by omega)) h)
          refine ev_iinc (pc' := 126) (v := nI (s + 1)) (lv' := [some (.ref 115), some (.ref 136), some (.long (lN x)), none, some (.long (lN 1073741824)), none, some (.long (lN (x / W30 (s + 1)))), none, some (.int (nI (s + 1))), some (.long (lN dd)), none, some (.long (lN c)), none, some (.int (nI k)), none, none]) dX8_times_123 rfl rfl (nI_add s 1) (Nat.le_of_ble_eq_true rfl) rfl rfl ?_
          refine ev_goto (tgt := 35) dX8_times_126 rfl ?_
          refine ev_lvw (lv' := [some (.ref 115), some (.ref 136), some (.long (lN x)), none, some (.long (lN 1073741824)), none, some (.long (lN (x / W30 (s + 1)))), none, some (.int (nI (s + 1))), none, none, none, none, none, none, none]) ⟨rfl, ⟨rfl, ⟨rfl, ⟨rfl, ⟨rfl, ⟨rfl, trivial⟩⟩⟩⟩⟩⟩ ?_
          exact ih1 (s + 1) _ (by omega) (fun j hj => by rw [← bg_dig, ← hdd, bgA_end _ _ _ _ k (by omega) hj, hY2 j hj, if_pos (by omega)])
        | succ d2 ih2 =>
          intro k c Y2 hk hc hY2
          obtain ⟨pp, hpp⟩ : ∃ pp, pp = dg (n * (x % W30 s)) (k + s) := ⟨_, rfl⟩
          obtain ⟨t, ht⟩ : ∃ t, t = dg n k := ⟨_, rfl⟩
          have hp : Y2 (k + s) = lN pp := by rw [hpp, hY2 (k + s) (by omega), if_neg (by omega)]
          have htt : L 136 k = lN t := by rw [ht]; exact hT k (by omega)
          have hpl : pp < 1073741824 := by rw [hpp]; exact dg_lt _ _
          have htl : t < 1073741824 := by rw [ht]; exact dg_lt _ _
          have hcl : c < 1073741826 := by rw [hc]; exact bgA_c _ _ _ _ _ hdl
          have htd : t * dd ≤ 1152921504606846976 := Nat.mul_le_mul (Nat.le_of_lt htl) (Nat.le_of_lt hdl)
          refine ev_iload (pc' := 64) dX8_times_62 rfl rfl ?_
          refine ev_iload (pc' := 66) dX8_times_64 rfl rfl ?_
          refine ev_iadd (pc' := 67) (v := nI (k + s)) dX8_times_66 rfl (nI_add k s) ?_
          refine ev_bipush (pc' := 69) (v := 8) dX8_times_67 rfl kb_8 ?_
          refine ev_icmp_ge (tgt := 123) (pc' := 72) dX8_times_69 rfl rfl (fun h => absurd h (nx_nle (a := 8) (b := (k + s)) (by omega) (by omega))) (fun _ => ?_)
          refine ev_aload_n (pc' := 73) (i := 0) dX8_times_72 rfl rfl rfl ?_
          refine ev_getR (pc' := 76) fo_X8_82 dX8_times_73 rfl hs_115 rfl rf_115_30 ?_
          refine ev_iload (pc' := 78) dX8_times_76 rfl rfl ?_
          refine ev_iload (pc' := 80) dX8_times_78 rfl rfl ?_
          refine ev_iadd (pc' := 81) (v := nI (k + s)) dX8_times_80 rfl (nI_add k s) ?_
          refine ev_lald (pc' := 82) (j := k + s) (v := lN pp) dX8_times_81 rfl hs_138 rfl (by omega) (Nat.le_of_ble_eq_true rfl) hp ?_
          refine ev_aload_n (pc' := 83) (i := 1) dX8_times_82 rfl rfl rfl ?_
          refine ev_iload (pc' := 85) dX8_times_83 rfl rfl ?_
          refine ev_lald (pc' := 86) (j := k) (v := lN t) dX8_times_85 rfl hs_136 rfl (by omega) (Nat.le_of_ble_eq_true rfl) htt ?_
          refine ev_lload (pc' := 88) dX8_times_86 rfl rfl ?_
          refine ev_lmul (pc' := 89) (v := lN (t * dd)) dX8_times_88 rfl (lN_mul t dd) ?_
          refine ev_ladd (pc' := 90) (v := lN (pp + (t * dd))) dX8_times_89 rfl (lN_add pp (t * dd)) ?_
          refine ev_lload (pc' := 92) dX8_times_90 rfl rfl ?_
          refine ev_ladd (pc' := 93) (v := lN ((pp + (t * dd)) + c)) dX8_times_92 rfl (lN_add (pp + (t * dd)) c) ?_
          refine ev_lstore (pc' := 95) (lv' := [some (.ref 115), some (.ref 136), some (.long (lN x)), none, some (.long (lN 1073741824)), none, some (.long (lN (x / W30 (s + 1)))), none, some (.int (nI s)), some (.long (lN dd)), none, some (.long (lN c)), none, some (.int (nI k)), some (.long (lN ((pp + (t * dd)) + c))), none]) dX8_times_93 rfl (Nat.le_of_ble_eq_true rfl) rfl rfl ?_
          refine ev_aload_n (pc' := 96) (i := 0) dX8_times_95 rfl rfl rfl ?_
          refine ev_getR (pc' := 99) fo_X8_82 dX8_times_96 rfl hs_115 rfl rf_115_30 ?_
          refine ev_iload (pc' := 101) dX8_times_99 rfl rfl ?_
          refine ev_iload (pc' := 103) dX8_times_101 rfl rfl ?_
          refine ev_iadd (pc' := 104) (v := nI (k + s)) dX8_times_103 rfl (nI_add k s) ?_
          refine ev_lload (pc' := 106) dX8_times_104 rfl rfl ?_
          refine ev_lload (pc' := 108) dX8_times_106 rfl rfl ?_
          refine ev_lrem (pc' := 109) (v := lN (((pp + (t * dd)) + c) % 1073741824)) dX8_times_108 rfl (by decide) (pk_lRem (by omega) (by omega) (by omega)) ?_
          refine ev_last (pc' := 110) (j := k + s) (L' := (ma_up (ma_up L 138 (ma_up Y2 (k + s) (lN (((pp + (t * dd)) + c) % 1073741824)))) 136 (L 136))) dX8_times_109 rfl hs_138 rfl (by omega) (Nat.le_of_ble_eq_true rfl) ((ma_up_comm _ (show 138 ≠ 136 from (by decide)) _ _).trans (congrArg (fun f => ma_up f 136 _) (ma_up_up _ _ _ _))) ?_
          refine ev_lload (pc' := 112) dX8_times_110 rfl rfl ?_
          refine ev_lload (pc' := 114) dX8_times_112 rfl rfl ?_
          refine ev_ldiv (pc' := 115) (v := lN (((pp + (t * dd)) + c) / 1073741824)) dX8_times_114 rfl (by decide) (pk_lDiv (by omega) (by omega) (by omega)) ?_
          refine ev_lstore (pc' := 117) (lv' := [some (.ref 115), some (.ref 136), some (.long (lN x)), none, some (.long (lN 1073741824)), none, some (.long (lN (x / W30 (s + 1)))), none, some (.int (nI s)), some (.long (lN dd)), none, some (.long (lN (((pp + (t * dd)) + c) / 1073741824))), none, some (.int (nI k)), some (.long (lN ((pp + (t * dd)) + c))), none]) dX8_times_115 rfl (Nat.le_of_ble_eq_true rfl) rfl rfl ?_
          refine ev_iinc (pc' := 120) (v := nI (k + 1)) (lv' := [some (.ref 115), some (.ref 136), some (.long (lN x)), none, some (.long (lN 1073741824)), none, some (.long (lN (x / W30 (s + 1)))), none, some (.int (nI s)), some (.long (lN dd)), none, some (.long (lN (((pp + (t * dd)) + c) / 1073741824))), none, some (.int (nI (k + 1))), some (.long (lN ((pp + (t * dd)) + c))), none]) dX8_times_117 rfl rfl (nI_add k 1) (Nat.le_of_ble_eq_true rfl) rfl rfl ?_
          refine ev_goto (tgt := 62) dX8_times_120 rfl ?_
          refine ev_lvw (lv' := [some (.ref 115), some (.ref 136), some (.long (lN x)), none, some (.long (lN 1073741824)), none, some (.long (lN (x / W30 (s + 1)))), none, some (.int (nI s)), some (.long (lN dd)), none, some (.long (lN (((pp + (t * dd)) + c) / 1073741824))), none, some (.int (nI (k + 1))), none, none]) ⟨rfl, ⟨rfl, ⟨rfl, ⟨rfl, ⟨rfl, ⟨rfl, ⟨rfl, ⟨rfl, ⟨rfl, trivial⟩⟩⟩⟩⟩⟩⟩⟩⟩ ?_
          refine ih2 (k + 1) _ _ (by omega) (by rw [show k + 1 + s = k + s + 1 by omega, ← div_W, bgA_div, ← hpp, ← ht, ← hc]) (fun j hj => ?_)
          by_cases q : j = k + s
          · subst q; rw [ma_up_s, if_pos (by omega), bgA_dk, ← hpp, ← ht, ← hc]
          · rw [ma_up_n _ _ q, hY2 j hj]
            by_cases q2 : j < k + s
            · rw [if_pos q2, if_pos (by omega), bgA_dg _ _ _ _ _ q2]
            · rw [if_neg q2, if_neg (by omega)]
  | succ d ih =>
    intro k X hk hX
    refine ev_iload (pc' := 10) dX8_times_8 rfl rfl ?_
    refine ev_bipush (pc' := 12) (v := 8) dX8_times_10 rfl kb_8 ?_
    refine ev_icmp_ge (tgt := 29) (pc' := 15) dX8_times_12 rfl rfl (fun h => absurd h (nx_nle (a := 8) (b := k) (by omega) (by omega))) (fun _ => ?_)
    refine ev_aload_n (pc' := 16) (i := 0) dX8_times_15 rfl rfl rfl ?_
    refine ev_getR (pc' := 19) fo_X8_82 dX8_times_16 rfl hs_115 rfl rf_115_30 ?_
    refine ev_iload (pc' := 21) dX8_times_19 rfl rfl ?_
    refine ev_lconst (pc' := 22) (v := 0) dX8_times_21 rfl kl_0 ?_
    refine ev_last (pc' := 23) (j := k) (L' := (ma_up (ma_up L 138 (ma_up X k 0)) 136 (L 136))) dX8_times_22 rfl hs_138 rfl (by omega) (Nat.le_of_ble_eq_true rfl) ((ma_up_comm _ (show 138 ≠ 136 from (by decide)) _ _).trans (congrArg (fun f => ma_up f 136 _) (ma_up_up _ _ _ _))) ?_
    refine ev_iinc (pc' := 26) (v := nI (k + 1)) (lv' := [some (.ref 115), some (.ref 136), some (.long (lN x)), none, some (.long (lN 1073741824)), none, some (.int (nI (k + 1))), none, none, none, none, none, none, none, none, none]) dX8_times_23 rfl rfl (nI_add k 1) (Nat.le_of_ble_eq_true rfl) rfl rfl ?_
    refine ev_goto (tgt := 8) dX8_times_26 rfl ?_
    exact ih (k + 1) _ (by omega) (pt_all (fun j hj => by rw [ma_up_n _ _ (show j ≠ k by omega)]; exact hX j hj) (by rw [ma_up_s]; show (0 : Int64) = lN (0 / W30 k % 1073741824); rw [Nat.zero_div]; rfl))
set_option maxRecDepth 4000 in
theorem t_X8_times137 {g : ma_G} {Post : ma_P} {I : ma_I} {L : ma_L} (n x : Nat) (hx : x < 9223372036854775808) (hT : mBg (L 137) n) (k : ∀ Y Z : Nat → Int64, mBg Z (n * x) → Post none HS I (ma_up (ma_up L 138 Y) 137 Z) RF 146) : CT g yX8_times cX8_times 16 none rX8_times [.ref 115, .ref 137, .long (lN x)] Post HS I L RF 146 := by
  refine ct_of (lv := [some (.ref 115), some (.ref 137), some (.long (lN x)), none, none, none, none, none, none, none, none, none, none, none, none, none]) (by decide) (Nat.le_of_ble_eq_true rfl) rfl ?_
  refine ev_ldc2 (pc' := 3) cl_X8_265 dX8_times_0 rfl ?_
  refine ev_topl (fun z hz => ?_)
  have hz : z = lN 1073741824 := hz.trans (by decide)
  subst hz
  refine ev_memL (fun z hz => ?_)
  have hz : z = ma_up (ma_up L 138 (L 138)) 137 (L 137) := by rw [hz, ma_up_self, ma_up_self]
  subst hz
  refine ev_lstore (pc' := 5) (lv' := [some (.ref 115), some (.ref 137), some (.long (lN x)), none, some (.long (lN 1073741824)), none, none, none, none, none, none, none, none, none, none, none]) dX8_times_3 rfl (Nat.le_of_ble_eq_true rfl) rfl rfl ?_
  refine ev_iconst (pc' := 6) (v := 0) dX8_times_5 rfl ki_0 ?_
  refine ev_istore (pc' := 8) (lv' := [some (.ref 115), some (.ref 137), some (.long (lN x)), none, some (.long (lN 1073741824)), none, some (.int 0), none, none, none, none, none, none, none, none, none]) dX8_times_6 rfl (Nat.le_of_ble_eq_true rfl) rfl rfl ?_
  suffices lz : ∀ (d k : Nat) (X : Nat → Int64), k + d = 8 → (∀ j, j < k → X j = lN (dg 0 j)) → EV g yX8_times cX8_times 16 none rX8_times (ma_ZM g rX8_times Post) 8 [some (.ref 115), some (.ref 137), some (.long (lN x)), none, some (.long (lN 1073741824)), none, some (.int (nI k)), none, none, none, none, none, none, none, none, none] [] HS I (ma_up (ma_up L 138 X) 137 (L 137)) RF 146 0 0 from lz 8 0 (L 138) rfl (fun j hj => absurd hj (Nat.not_lt_zero j))
  intro d
  induction d with
  | zero =>
    intro k X hk hX
    obtain rfl : k = 8 := by omega
    refine ev_iload (pc' := 10) dX8_times_8 rfl rfl ?_
    refine ev_bipush (pc' := 12) (v := 8) dX8_times_10 rfl kb_8 ?_
    refine ev_icmp_ge (tgt := 29) (pc' := 15) dX8_times_12 rfl rfl (fun _ => ?_) (fun h => absurd (nx_le (a := 8) (b := 8) (by omega) (by omega)) h)
    refine ev_lload_n (pc' := 30) (i := 2) dX8_times_29 rfl rfl rfl ?_
    refine ev_lstore (pc' := 32) (lv' := [some (.ref 115), some (.ref 137), some (.long (lN x)), none, some (.long (lN 1073741824)), none, some (.long (lN x)), none, none, none, none, none, none, none, none, none]) dX8_times_30 rfl (Nat.le_of_ble_eq_true rfl) rfl rfl ?_
    refine ev_iconst (pc' := 33) (v := 0) dX8_times_32 rfl ki_0 ?_
    refine ev_istore (pc' := 35) (lv' := [some (.ref 115), some (.ref 137), some (.long (lN x)), none, some (.long (lN 1073741824)), none, some (.long (lN x)), none, some (.int 0), none, none, none, none, none, none, none]) dX8_times_33 rfl (Nat.le_of_ble_eq_true rfl) rfl rfl ?_
    suffices lo : ∀ (d s : Nat) (Y : Nat → Int64), s + d = 3 → mBg Y (n * (x % W30 s)) → EV g yX8_times cX8_times 16 none rX8_times (ma_ZM g rX8_times Post) 35 [some (.ref 115), some (.ref 137), some (.long (lN x)), none, some (.long (lN 1073741824)), none, some (.long (lN (x / W30 s))), none, some (.int (nI s)), none, none, none, none, none, none, none] [] HS I (ma_up (ma_up L 138 Y) 137 (L 137)) RF 146 0 0 by
      have q := lo 3 0 X rfl (fun j hj => by rw [show x % W30 0 = 0 from Nat.mod_one x, Nat.mul_zero]; exact hX j hj)
      rw [show x / W30 0 = x from Nat.div_one x] at q
      exact q
    intro d1
    induction d1 with
    | zero =>
      intro s Y hs hY
      obtain rfl : s = 3 := by omega
      have h0 : x / W30 3 = 0 := Nat.div_eq_of_lt (Nat.lt_of_lt_of_le hx (by decide))
      have hY : mBg Y (n * x) := by rw [Nat.mod_eq_of_lt ((Nat.div_eq_zero_iff_lt (W30_pos 3)).mp h0)] at hY; exact hY
      refine ev_lload (pc' := 37) dX8_times_35 rfl rfl ?_
      refine ev_lconst (pc' := 38) (v := 0) dX8_times_37 rfl kl_0 ?_
      refine ev_lc_le (p1 := 39) (tgt := 129) (pc' := 42) dX8_times_38 rfl dX8_times_39 rfl rfl (fun _ => ?_) (fun h => absurd (by rw [h0]; exact Int64.le_refl _) h)
      refine ev_iconst (pc' := 130) (v := 0) dX8_times_129 rfl ki_0 ?_
      refine ev_istore (pc' := 132) (lv' := [some (.ref 115), some (.ref 137), some (.long (lN x)), none, some (.long (lN 1073741824)), none, some (.long (lN (x / W30 3))), none, some (.int 0), none, none, none, none, none, none, none]) dX8_times_130 rfl (Nat.le_of_ble_eq_true rfl) rfl rfl ?_
      suffices lc : ∀ (d k : Nat) (Z : Nat → Int64), k + d = 8 → (∀ j, j < k → Z j = lN (dg (n * x) j)) → EV g yX8_times cX8_times 16 none rX8_times (ma_ZM g rX8_times Post) 132 [some (.ref 115), some (.ref 137), some (.long (lN x)), none, some (.long (lN 1073741824)), none, some (.long (lN (x / W30 3))), none, some (.int (nI k)), none, none, none, none, none, none, none] [] HS I (ma_up (ma_up L 138 Y) 137 Z) RF 146 0 0 from lc 8 0 (L 137) rfl (fun j hj => absurd hj (Nat.not_lt_zero j))
      intro d3
      induction d3 with
      | zero =>
        intro k Z hk hZ
        obtain rfl : k = 8 := by omega
        refine ev_iload (pc' := 134) dX8_times_132 rfl rfl ?_
        refine ev_bipush (pc' := 136) (v := 8) dX8_times_134 rfl kb_8 ?_
        refine ev_icmp_ge (tgt := 156) (pc' := 139) dX8_times_136 rfl rfl (fun _ => ?_) (fun h => absurd (nx_le (a := 8) (b := 8) (by omega) (by omega)) h)
        refine ev_vret dX8_times_156 rfl ⟨Nat.le_refl _, Nat.le_refl _⟩ ?_
        exact k Y Z hZ
      | succ d3 ih3 =>
        intro k Z hk hZ
        refine ev_iload (pc' := 134) dX8_times_132 rfl rfl ?_
        refine ev_bipush (pc' := 136) (v := 8) dX8_times_134 rfl kb_8 ?_
        refine ev_icmp_ge (tgt := 156) (pc' := 139) dX8_times_136 rfl rfl (fun h => absurd h (nx_nle (a := 8) (b := k) (by omega) (by omega))) (fun _ => ?_)
        refine ev_aload_n (pc' := 140) (i := 1) dX8_times_139 rfl rfl rfl ?_
        refine ev_iload (pc' := 142) dX8_times_140 rfl rfl ?_
        refine ev_aload_n (pc' := 143) (i := 0) dX8_times_142 rfl rfl rfl ?_
        refine ev_getR (pc' := 146) fo_X8_82 dX8_times_143 rfl hs_115 rfl rf_115_30 ?_
        refine ev_iload (pc' := 148) dX8_times_146 rfl rfl ?_
        refine ev_lald (pc' := 149) (j := k) (v := Y k) dX8_times_148 rfl hs_138 rfl (by omega) (Nat.le_of_ble_eq_true rfl) rfl ?_
        refine ev_last (pc' := 150) (j := k) (L' := (ma_up (ma_up L 138 Y) 137 (ma_up Z k (Y k)))) dX8_times_149 rfl hs_137 rfl (by omega) (Nat.le_of_ble_eq_true rfl) (ma_up_up _ _ _ _) ?_
        refine ev_iinc (pc' := 153) (v := nI (k + 1)) (lv' := [some (.ref 115), some (.ref 137), some (.long (lN x)), none, some (.long (lN 1073741824)), none, some (.long (lN (x / W30 3))), none, some (.int (nI (k + 1))), none, none, none, none, none, none, none]) dX8_times_150 rfl rfl (nI_add k 1) (Nat.le_of_ble_eq_true rfl) rfl rfl ?_
        refine ev_goto (tgt := 132) dX8_times_153 rfl ?_
        exact ih3 (k + 1) _ (by omega) (pt_all (fun j hj => by rw [ma_up_n _ _ (show j ≠ k by omega)]; exact hZ j hj) (by rw [ma_up_s]; exact hY k (by omega)))
    | succ d1 ih1 =>
      intro s Y hs hY
      have hxs := div_le63 s hx
      by_cases h0 : x / W30 s = 0
      · have hY : mBg Y (n * x) := by rw [Nat.mod_eq_of_lt ((Nat.div_eq_zero_iff_lt (W30_pos s)).mp h0)] at hY; exact hY
        refine ev_lload (pc' := 37) dX8_times_35 rfl rfl ?_
        refine ev_lconst (pc' := 38) (v := 0) dX8_times_37 rfl kl_0 ?_
        refine ev_lc_le (p1 := 39) (tgt := 129) (pc' := 42) dX8_times_38 rfl dX8_times_39 rfl rfl (fun _ => ?_) (fun h => absurd (by rw [h0]; exact Int64.le_refl _) h)
        refine ev_iconst (pc' := 130) (v := 0) dX8_times_129 rfl ki_0 ?_
        refine ev_istore (pc' := 132) (lv' := [some (.ref 115), some (.ref 137), some (.long (lN x)), none, some (.long (lN 1073741824)), none, some (.long (lN (x / W30 s))), none, some (.int 0), none, none, none, none, none, none, none]) dX8_times_130 rfl (Nat.le_of_ble_eq_true rfl) rfl rfl ?_
        suffices lc : ∀ (d k : Nat) (Z : Nat → Int64), k + d = 8 → (∀ j, j < k → Z j = lN (dg (n * x) j)) → EV g yX8_times cX8_times 16 none rX8_times (ma_ZM g rX8_times Post) 132 [some (.ref 115), some (.ref 137), some (.long (lN x)), none, some (.long (lN 1073741824)), none, some (.long (lN (x / W30 s))), none, some (.int (nI k)), none, none, none, none, none, none, none] [] HS I (ma_up (ma_up L 138 Y) 137 Z) RF 146 0 0 from lc 8 0 (L 137) rfl (fun j hj => absurd hj (Nat.not_lt_zero j))
        intro d3
        induction d3 with
        | zero =>
          intro k Z hk hZ
          obtain rfl : k = 8 := by omega
          refine ev_iload (pc' := 134) dX8_times_132 rfl rfl ?_
          refine ev_bipush (pc' := 136) (v := 8) dX8_times_134 rfl kb_8 ?_
          refine ev_icmp_ge (tgt := 156) (pc' := 139) dX8_times_136 rfl rfl (fun _ => ?_) (fun h => absurd (nx_le (a := 8) (b := 8) (by omega) (by omega)) h)
          refine ev_vret dX8_times_156 rfl ⟨Nat.le_refl _, Nat.le_refl _⟩ ?_
          exact k Y Z hZ
        | succ d3 ih3 =>
          intro k Z hk hZ
          refine ev_iload (pc' := 134) dX8_times_132 rfl rfl ?_
          refine ev_bipush (pc' := 136) (v := 8) dX8_times_134 rfl kb_8 ?_
          refine ev_icmp_ge (tgt := 156) (pc' := 139) dX8_times_136 rfl rfl (fun h => absurd h (nx_nle (a := 8) (b := k) (by omega) (by omega))) (fun _ => ?_)
          refine ev_aload_n (pc' := 140) (i := 1) dX8_times_139 rfl rfl rfl ?_
          refine ev_iload (pc' := 142) dX8_times_140 rfl rfl ?_
          refine ev_aload_n (pc' := 143) (i := 0) dX8_times_142 rfl rfl rfl ?_
          refine ev_getR (pc' := 146) fo_X8_82 dX8_times_143 rfl hs_115 rfl rf_115_30 ?_
          refine ev_iload (pc' := 148) dX8_times_146 rfl rfl ?_
          refine ev_lald (pc' := 149) (j := k) (v := Y k) dX8_times_148 rfl hs_138 rfl (by omega) (Nat.le_of_ble_eq_true rfl) rfl ?_
          refine ev_last (pc' := 150) (j := k) (L' := (ma_up (ma_up L 138 Y) 137 (ma_up Z k (Y k)))) dX8_times_149 rfl hs_137 rfl (by omega) (Nat.le_of_ble_eq_true rfl) (ma_up_up _ _ _ _) ?_
          refine ev_iinc (pc' := 153) (v := nI (k + 1)) (lv' := [some (.ref 115), some (.ref 137), some (.long (lN x)), none, some (.long (lN 1073741824)), none, some (.long (lN (x / W30 s))), none, some (.int (nI (k + 1))), none, none, none, none, none, none, none]) dX8_times_150 rfl rfl (nI_add k 1) (Nat.le_of_ble_eq_true rfl) rfl rfl ?_
          refine ev_goto (tgt := 132) dX8_times_153 rfl ?_
          exact ih3 (k + 1) _ (by omega) (pt_all (fun j hj => by rw [ma_up_n _ _ (show j ≠ k by omega)]; exact hZ j hj) (by rw [ma_up_s]; exact hY k (by omega)))
      · refine ev_lload (pc' := 37) dX8_times_35 rfl rfl ?_
        refine ev_lconst (pc' := 38) (v := 0) dX8_times_37 rfl kl_0 ?_
        refine ev_lc_le (p1 := 39) (tgt := 129) (pc' := 42) dX8_times_38 rfl dX8_times_39 rfl rfl (fun h => absurd h (fun q => h0 (Nat.le_zero.mp ((pk_lLE (b := 0) (by omega) (by omega)).mp q)))) (fun _ => ?_)
        refine ev_lload (pc' := 44) dX8_times_42 rfl rfl ?_
        refine ev_lload (pc' := 46) dX8_times_44 rfl rfl ?_
        refine ev_lrem (pc' := 47) (v := lN ((x / W30 s) % 1073741824)) dX8_times_46 rfl (by decide) (pk_lRem (by omega) (by omega) (by omega)) ?_
        obtain ⟨dd, hdd⟩ : ∃ dd, dd = x / W30 s % 1073741824 := ⟨_, rfl⟩
        have hdl : dd < 1073741824 := by rw [hdd]; exact Nat.mod_lt _ (by decide)
        refine ev_topl (fun z hz => ?_)
        rw [← hdd] at hz
        subst hz
        refine ev_lstore (pc' := 49) (lv' := [some (.ref 115), some (.ref 137), some (.long (lN x)), none, some (.long (lN 1073741824)), none, some (.long (lN (x / W30 s))), none, some (.int (nI s)), some (.long (lN dd)), none, none, none, none, none, none]) dX8_times_47 rfl (Nat.le_of_ble_eq_true rfl) rfl rfl ?_
        refine ev_lload (pc' := 51) dX8_times_49 rfl rfl ?_
        refine ev_lload (pc' := 53) dX8_times_51 rfl rfl ?_
        refine ev_ldiv (pc' := 54) (v := lN ((x / W30 s) / 1073741824)) dX8_times_53 rfl (by decide) (pk_lDiv (by omega) (by omega) (by omega)) ?_
        refine ev_topl (fun z hz => ?_)
        rw [div_W] at hz
        subst hz
        refine ev_lstore (pc' := 56) (lv' := [some (.ref 115), some (.ref 137), some (.long (lN x)), none, some (.long (lN 1073741824)), none, some (.long (lN (x / W30 (s + 1)))), none, some (.int (nI s)), some (.long (lN dd)), none, none, none, none, none, none]) dX8_times_54 rfl (Nat.le_of_ble_eq_true rfl) rfl rfl ?_
        refine ev_lconst (pc' := 57) (v := 0) dX8_times_56 rfl kl_0 ?_
        refine ev_lstore (pc' := 59) (lv' := [some (.ref 115), some (.ref 137), some (.long (lN x)), none, some (.long (lN 1073741824)), none, some (.long (lN (x / W30 (s + 1)))), none, some (.int (nI s)), some (.long (lN dd)), none, some (.long 0), none, none, none, none]) dX8_times_57 rfl (Nat.le_of_ble_eq_true rfl) rfl rfl ?_
        refine ev_iconst (pc' := 60) (v := 0) dX8_times_59 rfl ki_0 ?_
        refine ev_istore (pc' := 62) (lv' := [some (.ref 115), some (.ref 137), some (.long (lN x)), none, some (.long (lN 1073741824)), none, some (.long (lN (x / W30 (s + 1)))), none, some (.int (nI s)), some (.long (lN dd)), none, some (.long 0), none, some (.int 0), none, none]) dX8_times_60 rfl (Nat.le_of_ble_eq_true rfl) rfl rfl ?_
        suffices li : ∀ (d k c : Nat) (Y2 : Nat → Int64), k + d + s = 8 → c = bgA (n * (x % W30 s)) n dd s k / W30 (k + s) → (∀ j, j < 8 → Y2 j = lN (dg (if j < k + s then bgA (n * (x % W30 s)) n dd s k else (n * (x % W30 s))) j)) → EV g yX8_times cX8_times 16 none rX8_times (ma_ZM g rX8_times Post) 62 [some (.ref 115), some (.ref 137), some (.long (lN x)), none, some (.long (lN 1073741824)), none, some (.long (lN (x / W30 (s + 1)))), none, some (.int (nI s)), some (.long (lN dd)), none, some (.long (lN c)), none, some (.int (nI k)), none, none] [] HS I (ma_up (ma_up L 138 Y2) 137 (L 137)) RF 146 0 0 by
          refine li (8 - s) 0 0 Y (by omega) (by rw [bgA_0, Nat.zero_add]; exact (Nat.div_eq_of_lt (Nat.mod_lt _ (W30_pos _))).symm) (fun j hj => ?_)
          rw [hY j hj]
          by_cases q : j < 0 + s
          · rw [if_pos q, bgA_0, mod_dg _ (by omega)]
          · rw [if_neg q]
        intro d2
        induction d2 with
        | zero =>
          intro k c Y2 hk hc hY2
          refine ev_iload (pc' := 64) dX8_times_62 rfl rfl ?_
          refine ev_iload (pc' := 66) dX8_times_64 rfl rfl ?_
          refine ev_iadd (pc' := 67) (v := nI (k + s)) dX8_times_66 rfl (nI_add k s) ?_
          refine ev_bipush (pc' := 69) (v := 8) dX8_times_67 rfl kb_8 ?_
          refine ev_icmp_ge (tgt := 123) (pc' := 72) dX8_times_69 rfl rfl (fun _ => ?_) (fun h => absurd (nx_le (a := 8) (b := (k + s)) (by omega) (by omega)) h)
          refine ev_iinc (pc' := 126) (v := nI (s + 1)) (lv' := [some (.ref 115), some (.ref 137), some (.long (lN x)), none, some (.long (lN 1073741824)), none, some (.long (lN (x / W30 (s + 1)))), none, some (.int (nI (s + 1))), some (.long (lN dd)), none, some (.long (lN c)), none, some (.int (nI k)), none, none]) dX8_times_123 rfl rfl (nI_add s 1) (Nat.le_of_ble_eq_true rfl) rfl rfl ?_
          refine ev_goto (tgt := 35) dX8_times_126 rfl ?_
          refine ev_lvw (lv' := [some (.ref 115), some (.ref 137), some (.long (lN x)), none, some (.long (lN 1073741824)), none, some (.long (lN (x / W30 (s + 1)))), none, some (.int (nI (s + 1))), none, none, none, none, none, none, none]) ⟨rfl, ⟨rfl, ⟨rfl, ⟨rfl, ⟨rfl, ⟨rfl, trivial⟩⟩⟩⟩⟩⟩ ?_
          exact ih1 (s + 1) _ (by omega) (fun j hj => by rw [← bg_dig, ← hdd, bgA_end _ _ _ _ k (by omega) hj, hY2 j hj, if_pos (by omega)])
        | succ d2 ih2 =>
          intro k c Y2 hk hc hY2
          obtain ⟨pp, hpp⟩ : ∃ pp, pp = dg (n * (x % W30 s)) (k + s) := ⟨_, rfl⟩
          obtain ⟨t, ht⟩ : ∃ t, t = dg n k := ⟨_, rfl⟩
          have hp : Y2 (k + s) = lN pp := by rw [hpp, hY2 (k + s) (by omega), if_neg (by omega)]
          have htt : L 137 k = lN t := by rw [ht]; exact hT k (by omega)
          have hpl : pp < 1073741824 := by rw [hpp]; exact dg_lt _ _
          have htl : t < 1073741824 := by rw [ht]; exact dg_lt _ _
          have hcl : c < 1073741826 := by rw [hc]; exact bgA_c _ _ _ _ _ hdl
          have htd : t * dd ≤ 1152921504606846976 := Nat.mul_le_mul (Nat.le_of_lt htl) (Nat.le_of_lt hdl)
          refine ev_iload (pc' := 64) dX8_times_62 rfl rfl ?_
          refine ev_iload (pc' := 66) dX8_times_64 rfl rfl ?_
          refine ev_iadd (pc' := 67) (v := nI (k + s)) dX8_times_66 rfl (nI_add k s) ?_
          refine ev_bipush (pc' := 69) (v := 8) dX8_times_67 rfl kb_8 ?_
          refine ev_icmp_ge (tgt := 123) (pc' := 72) dX8_times_69 rfl rfl (fun h => absurd h (nx_nle (a := 8) (b := (k + s)) (by omega) (by omega))) (fun _ => ?_)
          refine ev_aload_n (pc' := 73) (i := 0) dX8_times_72 rfl rfl rfl ?_
          refine ev_getR (pc' := 76) fo_X8_82 dX8_times_73 rfl hs_115 rfl rf_115_30 ?_
          refine ev_iload (pc' := 78) dX8_times_76 rfl rfl ?_
          refine ev_iload (pc' := 80) dX8_times_78 rfl rfl ?_
          refine ev_iadd (pc' := 81) (v := nI (k + s)) dX8_times_80 rfl (nI_add k s) ?_
          refine ev_lald (pc' := 82) (j := k + s) (v := lN pp) dX8_times_81 rfl hs_138 rfl (by omega) (Nat.le_of_ble_eq_true rfl) hp ?_
          refine ev_aload_n (pc' := 83) (i := 1) dX8_times_82 rfl rfl rfl ?_
          refine ev_iload (pc' := 85) dX8_times_83 rfl rfl ?_
          refine ev_lald (pc' := 86) (j := k) (v := lN t) dX8_times_85 rfl hs_137 rfl (by omega) (Nat.le_of_ble_eq_true rfl) htt ?_
          refine ev_lload (pc' := 88) dX8_times_86 rfl rfl ?_
          refine ev_lmul (pc' := 89) (v := lN (t * dd)) dX8_times_88 rfl (lN_mul t dd) ?_
          refine ev_ladd (pc' := 90) (v := lN (pp + (t * dd))) dX8_times_89 rfl (lN_add pp (t * dd)) ?_
          refine ev_lload (pc' := 92) dX8_times_90 rfl rfl ?_
          refine ev_ladd (pc' := 93) (v := lN ((pp + (t * dd)) + c)) dX8_times_92 rfl (lN_add (pp + (t * dd)) c) ?_
          refine ev_lstore (pc' := 95) (lv' := [some (.ref 115), some (.ref 137), some (.long (lN x)), none, some (.long (lN 1073741824)), none, some (.long (lN (x / W30 (s + 1)))), none, some (.int (nI s)), some (.long (lN dd)), none, some (.long (lN c)), none, some (.int (nI k)), some (.long (lN ((pp + (t * dd)) + c))), none]) dX8_times_93 rfl (Nat.le_of_ble_eq_true rfl) rfl rfl ?_
          refine ev_aload_n (pc' := 96) (i := 0) dX8_times_95 rfl rfl rfl ?_
          refine ev_getR (pc' := 99) fo_X8_82 dX8_times_96 rfl hs_115 rfl rf_115_30 ?_
          refine ev_iload (pc' := 101) dX8_times_99 rfl rfl ?_
          refine ev_iload (pc' := 103) dX8_times_101 rfl rfl ?_
          refine ev_iadd (pc' := 104) (v := nI (k + s)) dX8_times_103 rfl (nI_add k s) ?_
          refine ev_lload (pc' := 106) dX8_times_104 rfl rfl ?_
          refine ev_lload (pc' := 108) dX8_times_106 rfl rfl ?_
          refine ev_lrem (pc' := 109) (v := lN (((pp + (t * dd)) + c) % 1073741824)) dX8_times_108 rfl (by decide) (pk_lRem (by omega) (by omega) (by omega)) ?_
          refine ev_last (pc' := 110) (j := k + s) (L' := (ma_up (ma_up L 138 (ma_up Y2 (k + s) (lN (((pp + (t * dd)) + c) % 1073741824)))) 137 (L 137))) dX8_times_109 rfl hs_138 rfl (by omega) (Nat.le_of_ble_eq_true rfl) ((ma_up_comm _ (show 138 ≠ 137 from (by decide)) _ _).trans (congrArg (fun f => ma_up f 137 _) (ma_up_up _ _ _ _))) ?_
          refine ev_lload (pc' := 112) dX8_times_110 rfl rfl ?_
          refine ev_lload (pc' := 114) dX8_times_112 rfl rfl ?_
          refine ev_ldiv (pc' := 115) (v := lN (((pp + (t * dd)) + c) / 1073741824)) dX8_times_114 rfl (by decide) (pk_lDiv (by omega) (by omega) (by omega)) ?_
          refine ev_lstore (pc' := 117) (lv' := [some (.ref 115), some (.ref 137), some (.long (lN x)), none, some (.long (lN 1073741824)), none, some (.long (lN (x / W30 (s + 1)))), none, some (.int (nI s)), some (.long (lN dd)), none, some (.long (lN (((pp + (t * dd)) + c) / 1073741824))), none, some (.int (nI k)), some (.long (lN ((pp + (t * dd)) + c))), none]) dX8_times_115 rfl (Nat.le_of_ble_eq_true rfl) rfl rfl ?_
          refine ev_iinc (pc' := 120) (v := nI (k + 1)) (lv' := [some (.ref 115), some (.ref 137), some (.long (lN x)), none, some (.long (lN 1073741824)), none, some (.long (lN (x / W30 (s + 1)))), none, some (.int (nI s)), some (.long (lN dd)), none, some (.long (lN (((pp + (t * dd)) + c) / 1073741824))), none, some (.int (nI (k + 1))), some (.long (lN ((pp + (t * dd)) + c))), none]) dX8_times_117 rfl rfl (nI_add k 1) (Nat.le_of_ble_eq_true rfl) rfl rfl ?_
          refine ev_goto (tgt := 62) dX8_times_120 rfl ?_
          refine ev_lvw (lv' := [some (.ref 115), some (.ref 137), some (.long (lN x)), none, some (.long (lN 1073741824)), none, some (.long (lN (x / W30 (s + 1)))), none, some (.int (nI s)), some (.long (lN dd)), none, some (.long (lN (((pp + (t * dd)) + c) / 1073741824))), none, some (.int (nI (k + 1))), none, none]) ⟨rfl, ⟨rfl, ⟨rfl, ⟨rfl, ⟨rfl, ⟨rfl, ⟨rfl, ⟨rfl, ⟨rfl, trivial⟩⟩⟩⟩⟩⟩⟩⟩⟩ ?_
          refine ih2 (k + 1) _ _ (by omega) (by rw [show k + 1 + s = k + s + 1 by omega, ← div_W, bgA_div, ← hpp, ← ht, ← hc]) (fun j hj => ?_)
          by_cases q : j = k + s
          · subst q; rw [ma_up_s, if_pos (by omega), bgA_dk, ← hpp, ← ht, ← hc]
          · rw [ma_up_n _ _ q, hY2 j hj]
            by_cases q2 : j < k + s
            · rw [if_pos q2, if_pos (by omega), bgA_dg _ _ _ _ _ q2]
            · rw [if_neg q2, if_neg (by omega)]
  | succ d ih =>
    intro k X hk hX
    refine ev_iload (pc' := 10) dX8_times_8 rfl rfl ?_
    refine ev_bipush (pc' := 12) (v := 8) dX8_times_10 rfl kb_8 ?_
    refine ev_icmp_ge (tgt := 29) (pc' := 15) dX8_times_12 rfl rfl (fun h => absurd h (nx_nle (a := 8) (b := k) (by omega) (by omega))) (fun _ => ?_)
    refine ev_aload_n (pc' := 16) (i := 0) dX8_times_15 rfl rfl rfl ?_
    refine ev_getR (pc' := 19) fo_X8_82 dX8_times_16 rfl hs_115 rfl rf_115_30 ?_
    refine ev_iload (pc' := 21) dX8_times_19 rfl rfl ?_
    refine ev_lconst (pc' := 22) (v := 0) dX8_times_21 rfl kl_0 ?_
    refine ev_last (pc' := 23) (j := k) (L' := (ma_up (ma_up L 138 (ma_up X k 0)) 137 (L 137))) dX8_times_22 rfl hs_138 rfl (by omega) (Nat.le_of_ble_eq_true rfl) ((ma_up_comm _ (show 138 ≠ 137 from (by decide)) _ _).trans (congrArg (fun f => ma_up f 137 _) (ma_up_up _ _ _ _))) ?_
    refine ev_iinc (pc' := 26) (v := nI (k + 1)) (lv' := [some (.ref 115), some (.ref 137), some (.long (lN x)), none, some (.long (lN 1073741824)), none, some (.int (nI (k + 1))), none, none, none, none, none, none, none, none, none]) dX8_times_23 rfl rfl (nI_add k 1) (Nat.le_of_ble_eq_true rfl) rfl rfl ?_
    refine ev_goto (tgt := 8) dX8_times_26 rfl ?_
    exact ih (k + 1) _ (by omega) (pt_all (fun j hj => by rw [ma_up_n _ _ (show j ≠ k by omega)]; exact hX j hj) (by rw [ma_up_s]; show (0 : Int64) = lN (0 / W30 k % 1073741824); rw [Nat.zero_div]; rfl))
