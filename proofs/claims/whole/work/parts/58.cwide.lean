theorem lN_u {a : Nat} (h : a < 9223372036854775808) : (lN a).toUInt64.toNat = a := by
  show (Int64.ofNat a).toUInt64.toNat = a
  rw [Int64.toUInt64_ofNat']
  simp only [UInt64.toNat_ofNat']
  exact Nat.mod_eq_of_lt (by omega)
theorem u_lN {u : UInt64} {a : Nat} (h : u.toNat = a) : u.toInt64 = lN a := by
  subst h
  have e : UInt64.ofNat u.toNat = u := UInt64.ofNat_toNat
  exact (congrArg (fun z : UInt64 => z.toInt64) e).symm
theorem lN_shrn {a : Nat} (h : a < 9223372036854775808) (z : Int32) (n : Nat) (hz : (z.toInt64.toUInt64 &&& Int64.toUInt64 63).toNat = n) (hn : n < 64) : ((lN a).toUInt64 >>> (z.toInt64.toUInt64 &&& Int64.toUInt64 63)).toInt64 = lN (a / 2 ^ n) := by
  apply u_lN
  rw [UInt64.toNat_shiftRight, hz, lN_u h, Nat.mod_eq_of_lt hn, Nat.shiftRight_eq_div_pow]
theorem lN_shr0 {a : Nat} (h : a < 9223372036854775808) : ((lN a).toUInt64 >>> ((0 : Int32).toInt64.toUInt64 &&& Int64.toUInt64 63)).toInt64 = lN (a / 1) := lN_shrn h 0 0 (by decide) (by omega)
theorem lN_shr30 {a : Nat} (h : a < 9223372036854775808) : ((lN a).toUInt64 >>> ((30 : Int32).toInt64.toUInt64 &&& Int64.toUInt64 63)).toInt64 = lN (a / 1073741824) := lN_shrn h 30 30 (by decide) (by omega)
theorem lN_shr60 {a : Nat} (h : a < 9223372036854775808) : ((lN a).toUInt64 >>> ((60 : Int32).toInt64.toUInt64 &&& Int64.toUInt64 63)).toInt64 = lN (a / 1152921504606846976) := lN_shrn h 60 60 (by decide) (by omega)
theorem lN_and {a : Nat} (h : a < 9223372036854775808) : lN a &&& 1073741823 = lN (a % 1073741824) := by
  have e : (lN a &&& 1073741823).toUInt64.toInt64 = lN (a % 1073741824) := by
    apply u_lN
    rw [Int64.toUInt64_and, UInt64.toNat_and, lN_u h]
    show a &&& 1073741823 = a % 1073741824
    exact Nat.and_two_pow_sub_one_eq_mod a 30
  simpa using e
/-- the row holds the six lowest words of n -/
def cB6 (T : Nat → Int64) (n : Nat) : Prop := ∀ j, j < 6 → T j = lN (dg n j)
theorem bgA_endN (P n d s k N : Nat) (h : k + s = N) {j : Nat} (hj : j < N) : dg (P + n * d * W30 s) j = dg (bgA P n d s k) j := by
  have e : P + n * d * W30 s = bgA P n d s k + (P / W30 N + n / W30 k * d) * W30 N := by
    unfold bgA
    rw [h]
    have h1 := Nat.mod_add_div P (W30 N)
    have h2 : n * d * W30 s = n % W30 k * d * W30 s + n / W30 k * d * W30 N := by
      conv => lhs; rw [← Nat.mod_add_div n (W30 k), Nat.add_mul, Nat.add_mul]
      congr 1
      rw [← h, W30_add, Nat.mul_comm (W30 k), Nat.mul_assoc, Nat.mul_assoc, Nat.mul_assoc]
      congr 1
      rw [← Nat.mul_assoc, Nat.mul_comm (W30 k), Nat.mul_assoc]
    rw [h2, Nat.add_mul, Nat.mul_comm (P / W30 N)]
    omega
  rw [e, dg_add _ _ hj]
set_option maxRecDepth 4000 in
theorem t_X6_begin18 {g : ma_G} {Post : ma_P} {I : ma_I} {L : ma_L} (x : Nat) (hx : x < 9223372036854775808) (k0 : ∀ T : Nat → Int64, cB6 T x → Post none HS I (ma_up L 19 T) RF 146) : CT g yX6_begin cX6_begin 4 none rX6_begin [.ref 18, .long (lN x)] Post HS I L RF 146 := by
  refine ct_of (lv := [some (.ref 18), some (.long (lN x)), none, none]) (by decide) (Nat.le_of_ble_eq_true rfl) rfl ?_
  refine ev_iconst (pc' := 1) (v := 0) dX6_begin_0 rfl ki_0 ?_
  refine ev_istore_n (pc' := 2) (i := 3) (lv' := [some (.ref 18), some (.long (lN x)), none, some (.int 0)]) dX6_begin_1 rfl rfl (Nat.le_of_ble_eq_true rfl) rfl rfl ?_
  refine ev_iload_n (pc' := 3) (i := 3) dX6_begin_2 rfl rfl rfl ?_
  refine ev_bipush (pc' := 5) (v := 6) dX6_begin_3 rfl kb_6 ?_
  refine ev_icmp_ge (tgt := 21) (pc' := 8) dX6_begin_5 rfl rfl (fun h => absurd h (by decide)) (fun _ => ?_)
  refine ev_aload_n (pc' := 9) (i := 0) dX6_begin_8 rfl rfl rfl ?_
  refine ev_getR (pc' := 12) fo_X6_9 dX6_begin_9 rfl hs_18 rfl rf_18_0 ?_
  refine ev_iload_n (pc' := 13) (i := 3) dX6_begin_12 rfl rfl rfl ?_
  refine ev_lconst (pc' := 14) (v := 0) dX6_begin_13 rfl kl_0 ?_
  refine ev_last (pc' := 15) (j := 0) (L' := (ma_up L 19 (ma_up (L 19) 0 0))) dX6_begin_14 rfl hs_19 rfl (Nat.le_of_ble_eq_true rfl) (Nat.le_of_ble_eq_true rfl) rfl ?_
  refine ev_iinc (pc' := 18) (v := 1) (lv' := [some (.ref 18), some (.long (lN x)), none, some (.int 1)]) dX6_begin_15 rfl rfl (by decide) (Nat.le_of_ble_eq_true rfl) rfl rfl ?_
  refine ev_goto (tgt := 2) dX6_begin_18 rfl ?_
  refine ev_iload_n (pc' := 3) (i := 3) dX6_begin_2 rfl rfl rfl ?_
  refine ev_bipush (pc' := 5) (v := 6) dX6_begin_3 rfl kb_6 ?_
  refine ev_icmp_ge (tgt := 21) (pc' := 8) dX6_begin_5 rfl rfl (fun h => absurd h (by decide)) (fun _ => ?_)
  refine ev_aload_n (pc' := 9) (i := 0) dX6_begin_8 rfl rfl rfl ?_
  refine ev_getR (pc' := 12) fo_X6_9 dX6_begin_9 rfl hs_18 rfl rf_18_0 ?_
  refine ev_iload_n (pc' := 13) (i := 3) dX6_begin_12 rfl rfl rfl ?_
  refine ev_lconst (pc' := 14) (v := 0) dX6_begin_13 rfl kl_0 ?_
  refine ev_last (pc' := 15) (j := 1) (L' := (ma_up L 19 (ma_up (ma_up (L 19) 0 0) 1 0))) dX6_begin_14 rfl hs_19 rfl (Nat.le_of_ble_eq_true rfl) (Nat.le_of_ble_eq_true rfl) (ma_up_up _ _ _ _) ?_
  refine ev_iinc (pc' := 18) (v := 2) (lv' := [some (.ref 18), some (.long (lN x)), none, some (.int 2)]) dX6_begin_15 rfl rfl (by decide) (Nat.le_of_ble_eq_true rfl) rfl rfl ?_
  refine ev_goto (tgt := 2) dX6_begin_18 rfl ?_
  refine ev_iload_n (pc' := 3) (i := 3) dX6_begin_2 rfl rfl rfl ?_
  refine ev_bipush (pc' := 5) (v := 6) dX6_begin_3 rfl kb_6 ?_
  refine ev_icmp_ge (tgt := 21) (pc' := 8) dX6_begin_5 rfl rfl (fun h => absurd h (by decide)) (fun _ => ?_)
  refine ev_aload_n (pc' := 9) (i := 0) dX6_begin_8 rfl rfl rfl ?_
  refine ev_getR (pc' := 12) fo_X6_9 dX6_begin_9 rfl hs_18 rfl rf_18_0 ?_
  refine ev_iload_n (pc' := 13) (i := 3) dX6_begin_12 rfl rfl rfl ?_
  refine ev_lconst (pc' := 14) (v := 0) dX6_begin_13 rfl kl_0 ?_
  refine ev_last (pc' := 15) (j := 2) (L' := (ma_up L 19 (ma_up (ma_up (ma_up (L 19) 0 0) 1 0) 2 0))) dX6_begin_14 rfl hs_19 rfl (Nat.le_of_ble_eq_true rfl) (Nat.le_of_ble_eq_true rfl) (ma_up_up _ _ _ _) ?_
  refine ev_iinc (pc' := 18) (v := 3) (lv' := [some (.ref 18), some (.long (lN x)), none, some (.int 3)]) dX6_begin_15 rfl rfl (by decide) (Nat.le_of_ble_eq_true rfl) rfl rfl ?_
  refine ev_goto (tgt := 2) dX6_begin_18 rfl ?_
  refine ev_iload_n (pc' := 3) (i := 3) dX6_begin_2 rfl rfl rfl ?_
  refine ev_bipush (pc' := 5) (v := 6) dX6_begin_3 rfl kb_6 ?_
  refine ev_icmp_ge (tgt := 21) (pc' := 8) dX6_begin_5 rfl rfl (fun h => absurd h (by decide)) (fun _ => ?_)
  refine ev_aload_n (pc' := 9) (i := 0) dX6_begin_8 rfl rfl rfl ?_
  refine ev_getR (pc' := 12) fo_X6_9 dX6_begin_9 rfl hs_18 rfl rf_18_0 ?_
  refine ev_iload_n (pc' := 13) (i := 3) dX6_begin_12 rfl rfl rfl ?_
  refine ev_lconst (pc' := 14) (v := 0) dX6_begin_13 rfl kl_0 ?_
  refine ev_last (pc' := 15) (j := 3) (L' := (ma_up L 19 (ma_up (ma_up (ma_up (ma_up (L 19) 0 0) 1 0) 2 0) 3 0))) dX6_begin_14 rfl hs_19 rfl (Nat.le_of_ble_eq_true rfl) (Nat.le_of_ble_eq_true rfl) (ma_up_up _ _ _ _) ?_
  refine ev_iinc (pc' := 18) (v := 4) (lv' := [some (.ref 18), some (.long (lN x)), none, some (.int 4)]) dX6_begin_15 rfl rfl (by decide) (Nat.le_of_ble_eq_true rfl) rfl rfl ?_
  refine ev_goto (tgt := 2) dX6_begin_18 rfl ?_
  refine ev_iload_n (pc' := 3) (i := 3) dX6_begin_2 rfl rfl rfl ?_
  refine ev_bipush (pc' := 5) (v := 6) dX6_begin_3 rfl kb_6 ?_
  refine ev_icmp_ge (tgt := 21) (pc' := 8) dX6_begin_5 rfl rfl (fun h => absurd h (by decide)) (fun _ => ?_)
  refine ev_aload_n (pc' := 9) (i := 0) dX6_begin_8 rfl rfl rfl ?_
  refine ev_getR (pc' := 12) fo_X6_9 dX6_begin_9 rfl hs_18 rfl rf_18_0 ?_
  refine ev_iload_n (pc' := 13) (i := 3) dX6_begin_12 rfl rfl rfl ?_
  refine ev_lconst (pc' := 14) (v := 0) dX6_begin_13 rfl kl_0 ?_
  refine ev_last (pc' := 15) (j := 4) (L' := (ma_up L 19 (ma_up (ma_up (ma_up (ma_up (ma_up (L 19) 0 0) 1 0) 2 0) 3 0) 4 0))) dX6_begin_14 rfl hs_19 rfl (Nat.le_of_ble_eq_true rfl) (Nat.le_of_ble_eq_true rfl) (ma_up_up _ _ _ _) ?_
  refine ev_iinc (pc' := 18) (v := 5) (lv' := [some (.ref 18), some (.long (lN x)), none, some (.int 5)]) dX6_begin_15 rfl rfl (by decide) (Nat.le_of_ble_eq_true rfl) rfl rfl ?_
  refine ev_goto (tgt := 2) dX6_begin_18 rfl ?_
  refine ev_iload_n (pc' := 3) (i := 3) dX6_begin_2 rfl rfl rfl ?_
  refine ev_bipush (pc' := 5) (v := 6) dX6_begin_3 rfl kb_6 ?_
  refine ev_icmp_ge (tgt := 21) (pc' := 8) dX6_begin_5 rfl rfl (fun h => absurd h (by decide)) (fun _ => ?_)
  refine ev_aload_n (pc' := 9) (i := 0) dX6_begin_8 rfl rfl rfl ?_
  refine ev_getR (pc' := 12) fo_X6_9 dX6_begin_9 rfl hs_18 rfl rf_18_0 ?_
  refine ev_iload_n (pc' := 13) (i := 3) dX6_begin_12 rfl rfl rfl ?_
  refine ev_lconst (pc' := 14) (v := 0) dX6_begin_13 rfl kl_0 ?_
  refine ev_last (pc' := 15) (j := 5) (L' := (ma_up L 19 (ma_up (ma_up (ma_up (ma_up (ma_up (ma_up (L 19) 0 0) 1 0) 2 0) 3 0) 4 0) 5 0))) dX6_begin_14 rfl hs_19 rfl (Nat.le_of_ble_eq_true rfl) (Nat.le_of_ble_eq_true rfl) (ma_up_up _ _ _ _) ?_
  refine ev_iinc (pc' := 18) (v := 6) (lv' := [some (.ref 18), some (.long (lN x)), none, some (.int 6)]) dX6_begin_15 rfl rfl (by decide) (Nat.le_of_ble_eq_true rfl) rfl rfl ?_
  refine ev_goto (tgt := 2) dX6_begin_18 rfl ?_
  refine ev_iload_n (pc' := 3) (i := 3) dX6_begin_2 rfl rfl rfl ?_
  refine ev_bipush (pc' := 5) (v := 6) dX6_begin_3 rfl kb_6 ?_
  refine ev_icmp_ge (tgt := 21) (pc' := 8) dX6_begin_5 rfl rfl (fun _ => ?_) (fun h => absurd (by decide) h)
  refine ev_aload_n (pc' := 22) (i := 0) dX6_begin_21 rfl rfl rfl ?_
  refine ev_getR (pc' := 25) fo_X6_9 dX6_begin_22 rfl hs_18 rfl rf_18_0 ?_
  refine ev_iconst (pc' := 26) (v := 0) dX6_begin_25 rfl ki_0 ?_
  refine ev_lload_n (pc' := 27) (i := 1) dX6_begin_26 rfl rfl rfl ?_
  refine ev_ldc2 (pc' := 30) cl_X6_16 dX6_begin_27 rfl ?_
  refine ev_land (pc' := 31) (v := lN (x % 1073741824)) dX6_begin_30 rfl (lN_and (by omega)) ?_
  refine ev_last (pc' := 32) (j := 0) (L' := (ma_up L 19 (ma_up (ma_up (ma_up (ma_up (ma_up (ma_up (L 19) 0 (lN (x % 1073741824))) 1 0) 2 0) 3 0) 4 0) 5 0))) dX6_begin_31 rfl hs_19 rfl (Nat.le_of_ble_eq_true rfl) (Nat.le_of_ble_eq_true rfl) ((congrArg (ma_up _ 19) ((ma_up_comm _ (show 0 ≠ 5 from (by decide)) _ _).trans (congrArg (fun f => ma_up f 5 _) ((ma_up_comm _ (show 0 ≠ 4 from (by decide)) _ _).trans (congrArg (fun f => ma_up f 4 _) ((ma_up_comm _ (show 0 ≠ 3 from (by decide)) _ _).trans (congrArg (fun f => ma_up f 3 _) ((ma_up_comm _ (show 0 ≠ 2 from (by decide)) _ _).trans (congrArg (fun f => ma_up f 2 _) ((ma_up_comm _ (show 0 ≠ 1 from (by decide)) _ _).trans (congrArg (fun f => ma_up f 1 _) (ma_up_up _ _ _ _)))))))))))).trans (ma_up_up _ _ _ _)) ?_
  refine ev_aload_n (pc' := 33) (i := 0) dX6_begin_32 rfl rfl rfl ?_
  refine ev_getR (pc' := 36) fo_X6_9 dX6_begin_33 rfl hs_18 rfl rf_18_0 ?_
  refine ev_iconst (pc' := 37) (v := 1) dX6_begin_36 rfl ki_1 ?_
  refine ev_lload_n (pc' := 38) (i := 1) dX6_begin_37 rfl rfl rfl ?_
  refine ev_bipush (pc' := 40) (v := 30) dX6_begin_38 rfl kb_30 ?_
  refine ev_lushr (pc' := 41) (v := lN (x / 1073741824)) dX6_begin_40 rfl (lN_shr30 (by omega)) ?_
  refine ev_ldc2 (pc' := 44) cl_X6_16 dX6_begin_41 rfl ?_
  refine ev_land (pc' := 45) (v := lN ((x / 1073741824) % 1073741824)) dX6_begin_44 rfl (lN_and (by omega)) ?_
  refine ev_last (pc' := 46) (j := 1) (L' := (ma_up L 19 (ma_up (ma_up (ma_up (ma_up (ma_up (ma_up (L 19) 0 (lN (x % 1073741824))) 1 (lN ((x / 1073741824) % 1073741824))) 2 0) 3 0) 4 0) 5 0))) dX6_begin_45 rfl hs_19 rfl (Nat.le_of_ble_eq_true rfl) (Nat.le_of_ble_eq_true rfl) ((congrArg (ma_up _ 19) ((ma_up_comm _ (show 1 ≠ 5 from (by decide)) _ _).trans (congrArg (fun f => ma_up f 5 _) ((ma_up_comm _ (show 1 ≠ 4 from (by decide)) _ _).trans (congrArg (fun f => ma_up f 4 _) ((ma_up_comm _ (show 1 ≠ 3 from (by decide)) _ _).trans (congrArg (fun f => ma_up f 3 _) ((ma_up_comm _ (show 1 ≠ 2 from (by decide)) _ _).trans (congrArg (fun f => ma_up f 2 _) (ma_up_up _ _ _ _)))))))))).trans (ma_up_up _ _ _ _)) ?_
  refine ev_aload_n (pc' := 47) (i := 0) dX6_begin_46 rfl rfl rfl ?_
  refine ev_getR (pc' := 50) fo_X6_9 dX6_begin_47 rfl hs_18 rfl rf_18_0 ?_
  refine ev_iconst (pc' := 51) (v := 2) dX6_begin_50 rfl ki_2 ?_
  refine ev_lload_n (pc' := 52) (i := 1) dX6_begin_51 rfl rfl rfl ?_
  refine ev_bipush (pc' := 54) (v := 60) dX6_begin_52 rfl kb_60 ?_
  refine ev_lushr (pc' := 55) (v := lN (x / 1152921504606846976)) dX6_begin_54 rfl (lN_shr60 (by omega)) ?_
  refine ev_last (pc' := 56) (j := 2) (L' := (ma_up L 19 (ma_up (ma_up (ma_up (ma_up (ma_up (ma_up (L 19) 0 (lN (x % 1073741824))) 1 (lN ((x / 1073741824) % 1073741824))) 2 (lN (x / 1152921504606846976))) 3 0) 4 0) 5 0))) dX6_begin_55 rfl hs_19 rfl (Nat.le_of_ble_eq_true rfl) (Nat.le_of_ble_eq_true rfl) ((congrArg (ma_up _ 19) ((ma_up_comm _ (show 2 ≠ 5 from (by decide)) _ _).trans (congrArg (fun f => ma_up f 5 _) ((ma_up_comm _ (show 2 ≠ 4 from (by decide)) _ _).trans (congrArg (fun f => ma_up f 4 _) ((ma_up_comm _ (show 2 ≠ 3 from (by decide)) _ _).trans (congrArg (fun f => ma_up f 3 _) (ma_up_up _ _ _ _)))))))).trans (ma_up_up _ _ _ _)) ?_
  refine ev_vret dX6_begin_56 rfl ⟨Nat.le_refl _, Nat.le_refl _⟩ ?_
  exact k0 _ (fun j hj => by match j, hj with
    | 0, _ => show lN (x % 1073741824) = lN (x / W30 0 % 1073741824); rw [show W30 0 = 1 from rfl, Nat.div_one]
    | 1, _ => rfl
    | 2, _ => show lN (x / 1152921504606846976) = lN (x / W30 2 % 1073741824); rw [Nat.mod_eq_of_lt (show x / W30 2 < 1073741824 from Nat.lt_of_le_of_lt (Nat.div_le_div_right (Nat.le_of_lt hx)) (by decide))]; rfl
    | 3, _ => show (0 : Int64) = lN (x / W30 3 % 1073741824); rw [Nat.div_eq_of_lt (Nat.lt_of_lt_of_le hx (by decide))]; rfl
    | 4, _ => show (0 : Int64) = lN (x / W30 4 % 1073741824); rw [Nat.div_eq_of_lt (Nat.lt_of_lt_of_le hx (by decide))]; rfl
    | 5, _ => show (0 : Int64) = lN (x / W30 5 % 1073741824); rw [Nat.div_eq_of_lt (Nat.lt_of_lt_of_le hx (by decide))]; rfl
    | j + 6, h => exact absurd h (by omega))
set_option maxRecDepth 4000 in
theorem t_X6_multiply18 {g : ma_G} {Post : ma_P} {I : ma_I} {L : ma_L} (n x : Nat) (hx : x < 9223372036854775808) (hT : cB6 (L 19) n) (k0 : ∀ Y Z : Nat → Int64, cB6 Z (n * x) → Post none HS I (ma_up (ma_up L 20 Y) 19 Z) RF 146) : CT g yX6_multiply cX6_multiply 11 none rX6_multiply [.ref 18, .long (lN x)] Post HS I L RF 146 := by
  refine ct_of (lv := [some (.ref 18), some (.long (lN x)), none, none, none, none, none, none, none, none, none]) (by decide) (Nat.le_of_ble_eq_true rfl) rfl ?_
  refine ev_memL (fun z hz => ?_)
  have hz : z = ma_up (ma_up L 20 (L 20)) 19 (L 19) := by rw [hz, ma_up_self, ma_up_self]
  subst hz
  refine ev_iconst (pc' := 1) (v := 0) dX6_multiply_0 rfl ki_0 ?_
  refine ev_istore_n (pc' := 2) (i := 3) (lv' := [some (.ref 18), some (.long (lN x)), none, some (.int 0), none, none, none, none, none, none, none]) dX6_multiply_1 rfl rfl (Nat.le_of_ble_eq_true rfl) rfl rfl ?_
  suffices lz : ∀ (d k : Nat) (X : Nat → Int64), k + d = 6 → (∀ j, j < k → X j = lN (dg 0 j)) → EV g yX6_multiply cX6_multiply 11 none rX6_multiply (ma_ZM g rX6_multiply Post) 2 [some (.ref 18), some (.long (lN x)), none, some (.int (nI k)), none, none, none, none, none, none, none] [] HS I (ma_up (ma_up L 20 X) 19 (L 19)) RF 146 0 0 from lz 6 0 (L 20) rfl (fun j hj => absurd hj (Nat.not_lt_zero j))
  intro d
  induction d with
  | zero =>
    intro k X hk hX
    obtain rfl : k = 6 := by omega
    have hY0 : cB6 X (n * (x % W30 0)) := fun j hj => by rw [show x % W30 0 = 0 from Nat.mod_one x, Nat.mul_zero]; exact hX j hj
    refine ev_iload_n (pc' := 3) (i := 3) dX6_multiply_2 rfl rfl rfl ?_
    refine ev_bipush (pc' := 5) (v := 6) dX6_multiply_3 rfl kb_6 ?_
    refine ev_icmp_ge (tgt := 21) (pc' := 8) dX6_multiply_5 rfl rfl (fun _ => ?_) (fun h => absurd (nx_le (a := 6) (b := 6) (by omega) (by omega)) h)
    refine ev_iconst (pc' := 22) (v := 0) dX6_multiply_21 rfl ki_0 ?_
    refine ev_istore_n (pc' := 23) (i := 3) (lv' := [some (.ref 18), some (.long (lN x)), none, some (.int 0), none, none, none, none, none, none, none]) dX6_multiply_22 rfl rfl (Nat.le_of_ble_eq_true rfl) rfl rfl ?_
    refine ev_iload_n (pc' := 24) (i := 3) dX6_multiply_23 rfl rfl rfl ?_
    refine ev_iconst (pc' := 25) (v := 3) dX6_multiply_24 rfl ki_3 ?_
    refine ev_icmp_ge (tgt := 114) (pc' := 28) dX6_multiply_25 rfl rfl (fun h => absurd h (by decide)) (fun _ => ?_)
    refine ev_lload_n (pc' := 29) (i := 1) dX6_multiply_28 rfl rfl rfl ?_
    refine ev_iload_n (pc' := 30) (i := 3) dX6_multiply_29 rfl rfl rfl ?_
    refine ev_bipush (pc' := 32) (v := 30) dX6_multiply_30 rfl kb_30 ?_
    refine ev_imul (pc' := 33) (v := 0) dX6_multiply_32 rfl (by decide) ?_
    refine ev_lushr (pc' := 34) (v := lN (x / 1)) dX6_multiply_33 rfl (lN_shr0 (by omega)) ?_
    refine ev_ldc2 (pc' := 37) cl_X6_16 dX6_multiply_34 rfl ?_
    refine ev_land (pc' := 38) (v := lN ((x / 1) % 1073741824)) dX6_multiply_37 rfl (lN_and (by omega)) ?_
    obtain ⟨dd0, hdd0⟩ : ∃ dd, dd = x / W30 0 % 1073741824 := ⟨_, rfl⟩
    have hdl0 : dd0 < 1073741824 := by rw [hdd0]; exact Nat.mod_lt _ (by decide)
    refine ev_topl (fun z hz => ?_)
    have hz : z = lN dd0 := by rw [hdd0]; exact hz
    subst hz
    refine ev_lstore (pc' := 40) (lv' := [some (.ref 18), some (.long (lN x)), none, some (.int 0), some (.long (lN dd0)), none, none, none, none, none, none]) dX6_multiply_38 rfl (Nat.le_of_ble_eq_true rfl) rfl rfl ?_
    refine ev_lconst (pc' := 41) (v := 0) dX6_multiply_40 rfl kl_0 ?_
    refine ev_lstore (pc' := 43) (lv' := [some (.ref 18), some (.long (lN x)), none, some (.int 0), some (.long (lN dd0)), none, some (.long 0), none, none, none, none]) dX6_multiply_41 rfl (Nat.le_of_ble_eq_true rfl) rfl rfl ?_
    refine ev_iconst (pc' := 44) (v := 0) dX6_multiply_43 rfl ki_0 ?_
    refine ev_istore (pc' := 46) (lv' := [some (.ref 18), some (.long (lN x)), none, some (.int 0), some (.long (lN dd0)), none, some (.long 0), none, some (.int 0), none, none]) dX6_multiply_44 rfl (Nat.le_of_ble_eq_true rfl) rfl rfl ?_
    suffices li0 : ∀ (d k c : Nat) (Y0 : Nat → Int64), k + d + 0 = 6 → c = bgA (n * (x % W30 0)) n dd0 0 k / W30 (k + 0) → (∀ j, j < 6 → Y0 j = lN (dg (if j < k + 0 then bgA (n * (x % W30 0)) n dd0 0 k else (n * (x % W30 0))) j)) → EV g yX6_multiply cX6_multiply 11 none rX6_multiply (ma_ZM g rX6_multiply Post) 46 [some (.ref 18), some (.long (lN x)), none, some (.int 0), some (.long (lN dd0)), none, some (.long (lN c)), none, some (.int (nI k)), none, none] [] HS I (ma_up (ma_up L 20 Y0) 19 (L 19)) RF 146 0 0 by
      refine li0 (6 - 0) 0 0 X (by omega) (by rw [bgA_0, Nat.zero_add]; exact (Nat.div_eq_of_lt (Nat.mod_lt _ (W30_pos _))).symm) (fun j hj => ?_)
      rw [hY0 j hj]
      by_cases q : j < 0 + 0
      · rw [if_pos q, bgA_0, mod_dg _ (by omega)]
      · rw [if_neg q]
    intro d0x
    induction d0x with
    | zero =>
      intro k c Y0 hk hc hY2
      have hY1 : cB6 Y0 (n * (x % W30 1)) := fun j hj => by rw [← bg_dig, ← hdd0, bgA_endN _ _ _ _ k 6 (by omega) hj, hY2 j hj, if_pos (by omega)]
      refine ev_iload (pc' := 48) dX6_multiply_46 rfl rfl ?_
      refine ev_iload_n (pc' := 49) (i := 3) dX6_multiply_48 rfl rfl rfl ?_
      refine ev_iadd (pc' := 50) (v := nI (k + 0)) dX6_multiply_49 rfl (nI_add k 0) ?_
      refine ev_bipush (pc' := 52) (v := 6) dX6_multiply_50 rfl kb_6 ?_
      refine ev_icmp_ge (tgt := 108) (pc' := 55) dX6_multiply_52 rfl rfl (fun _ => ?_) (fun h => absurd (nx_le (a := 6) (b := (k + 0)) (by omega) (by omega)) h)
      refine ev_iinc (pc' := 111) (v := 1) (lv' := [some (.ref 18), some (.long (lN x)), none, some (.int 1), some (.long (lN dd0)), none, some (.long (lN c)), none, some (.int (nI k)), none, none]) dX6_multiply_108 rfl rfl (by decide) (Nat.le_of_ble_eq_true rfl) rfl rfl ?_
      refine ev_goto (tgt := 23) dX6_multiply_111 rfl ?_
      refine ev_iload_n (pc' := 24) (i := 3) dX6_multiply_23 rfl rfl rfl ?_
      refine ev_iconst (pc' := 25) (v := 3) dX6_multiply_24 rfl ki_3 ?_
      refine ev_icmp_ge (tgt := 114) (pc' := 28) dX6_multiply_25 rfl rfl (fun h => absurd h (by decide)) (fun _ => ?_)
      refine ev_lload_n (pc' := 29) (i := 1) dX6_multiply_28 rfl rfl rfl ?_
      refine ev_iload_n (pc' := 30) (i := 3) dX6_multiply_29 rfl rfl rfl ?_
      refine ev_bipush (pc' := 32) (v := 30) dX6_multiply_30 rfl kb_30 ?_
      refine ev_imul (pc' := 33) (v := 30) dX6_multiply_32 rfl (by decide) ?_
      refine ev_lushr (pc' := 34) (v := lN (x / 1073741824)) dX6_multiply_33 rfl (lN_shr30 (by omega)) ?_
      refine ev_ldc2 (pc' := 37) cl_X6_16 dX6_multiply_34 rfl ?_
      refine ev_land (pc' := 38) (v := lN ((x / 1073741824) % 1073741824)) dX6_multiply_37 rfl (lN_and (by omega)) ?_
      obtain ⟨dd1, hdd1⟩ : ∃ dd, dd = x / W30 1 % 1073741824 := ⟨_, rfl⟩
      have hdl1 : dd1 < 1073741824 := by rw [hdd1]; exact Nat.mod_lt _ (by decide)
      refine ev_topl (fun z hz => ?_)
      have hz : z = lN dd1 := by rw [hdd1]; exact hz
      subst hz
      refine ev_lstore (pc' := 40) (lv' := [some (.ref 18), some (.long (lN x)), none, some (.int 1), some (.long (lN dd1)), none, some (.long (lN c)), none, some (.int (nI k)), none, none]) dX6_multiply_38 rfl (Nat.le_of_ble_eq_true rfl) rfl rfl ?_
      refine ev_lconst (pc' := 41) (v := 0) dX6_multiply_40 rfl kl_0 ?_
      refine ev_lstore (pc' := 43) (lv' := [some (.ref 18), some (.long (lN x)), none, some (.int 1), some (.long (lN dd1)), none, some (.long 0), none, some (.int (nI k)), none, none]) dX6_multiply_41 rfl (Nat.le_of_ble_eq_true rfl) rfl rfl ?_
      refine ev_iconst (pc' := 44) (v := 0) dX6_multiply_43 rfl ki_0 ?_
      refine ev_istore (pc' := 46) (lv' := [some (.ref 18), some (.long (lN x)), none, some (.int 1), some (.long (lN dd1)), none, some (.long 0), none, some (.int 0), none, none]) dX6_multiply_44 rfl (Nat.le_of_ble_eq_true rfl) rfl rfl ?_
      suffices li1 : ∀ (d k c : Nat) (Y1 : Nat → Int64), k + d + 1 = 6 → c = bgA (n * (x % W30 1)) n dd1 1 k / W30 (k + 1) → (∀ j, j < 6 → Y1 j = lN (dg (if j < k + 1 then bgA (n * (x % W30 1)) n dd1 1 k else (n * (x % W30 1))) j)) → EV g yX6_multiply cX6_multiply 11 none rX6_multiply (ma_ZM g rX6_multiply Post) 46 [some (.ref 18), some (.long (lN x)), none, some (.int 1), some (.long (lN dd1)), none, some (.long (lN c)), none, some (.int (nI k)), none, none] [] HS I (ma_up (ma_up L 20 Y1) 19 (L 19)) RF 146 0 0 by
        refine li1 (6 - 1) 0 0 Y0 (by omega) (by rw [bgA_0, Nat.zero_add]; exact (Nat.div_eq_of_lt (Nat.mod_lt _ (W30_pos _))).symm) (fun j hj => ?_)
        rw [hY1 j hj]
        by_cases q : j < 0 + 1
        · rw [if_pos q, bgA_0, mod_dg _ (by omega)]
        · rw [if_neg q]
      intro d1x
      induction d1x with
      | zero =>
        intro k c Y1 hk hc hY2
        have hY2 : cB6 Y1 (n * (x % W30 2)) := fun j hj => by rw [← bg_dig, ← hdd1, bgA_endN _ _ _ _ k 6 (by omega) hj, hY2 j hj, if_pos (by omega)]
        refine ev_iload (pc' := 48) dX6_multiply_46 rfl rfl ?_
        refine ev_iload_n (pc' := 49) (i := 3) dX6_multiply_48 rfl rfl rfl ?_
        refine ev_iadd (pc' := 50) (v := nI (k + 1)) dX6_multiply_49 rfl (nI_add k 1) ?_
        refine ev_bipush (pc' := 52) (v := 6) dX6_multiply_50 rfl kb_6 ?_
        refine ev_icmp_ge (tgt := 108) (pc' := 55) dX6_multiply_52 rfl rfl (fun _ => ?_) (fun h => absurd (nx_le (a := 6) (b := (k + 1)) (by omega) (by omega)) h)
        refine ev_iinc (pc' := 111) (v := 2) (lv' := [some (.ref 18), some (.long (lN x)), none, some (.int 2), some (.long (lN dd1)), none, some (.long (lN c)), none, some (.int (nI k)), none, none]) dX6_multiply_108 rfl rfl (by decide) (Nat.le_of_ble_eq_true rfl) rfl rfl ?_
        refine ev_goto (tgt := 23) dX6_multiply_111 rfl ?_
        refine ev_iload_n (pc' := 24) (i := 3) dX6_multiply_23 rfl rfl rfl ?_
        refine ev_iconst (pc' := 25) (v := 3) dX6_multiply_24 rfl ki_3 ?_
        refine ev_icmp_ge (tgt := 114) (pc' := 28) dX6_multiply_25 rfl rfl (fun h => absurd h (by decide)) (fun _ => ?_)
        refine ev_lload_n (pc' := 29) (i := 1) dX6_multiply_28 rfl rfl rfl ?_
        refine ev_iload_n (pc' := 30) (i := 3) dX6_multiply_29 rfl rfl rfl ?_
        refine ev_bipush (pc' := 32) (v := 30) dX6_multiply_30 rfl kb_30 ?_
        refine ev_imul (pc' := 33) (v := 60) dX6_multiply_32 rfl (by decide) ?_
        refine ev_lushr (pc' := 34) (v := lN (x / 1152921504606846976)) dX6_multiply_33 rfl (lN_shr60 (by omega)) ?_
        refine ev_ldc2 (pc' := 37) cl_X6_16 dX6_multiply_34 rfl ?_
        refine ev_land (pc' := 38) (v := lN ((x / 1152921504606846976) % 1073741824)) dX6_multiply_37 rfl (lN_and (by omega)) ?_
        obtain ⟨dd2, hdd2⟩ : ∃ dd, dd = x / W30 2 % 1073741824 := ⟨_, rfl⟩
        have hdl2 : dd2 < 1073741824 := by rw [hdd2]; exact Nat.mod_lt _ (by decide)
        refine ev_topl (fun z hz => ?_)
        have hz : z = lN dd2 := by rw [hdd2]; exact hz
        subst hz
        refine ev_lstore (pc' := 40) (lv' := [some (.ref 18), some (.long (lN x)), none, some (.int 2), some (.long (lN dd2)), none, some (.long (lN c)), none, some (.int (nI k)), none, none]) dX6_multiply_38 rfl (Nat.le_of_ble_eq_true rfl) rfl rfl ?_
        refine ev_lconst (pc' := 41) (v := 0) dX6_multiply_40 rfl kl_0 ?_
        refine ev_lstore (pc' := 43) (lv' := [some (.ref 18), some (.long (lN x)), none, some (.int 2), some (.long (lN dd2)), none, some (.long 0), none, some (.int (nI k)), none, none]) dX6_multiply_41 rfl (Nat.le_of_ble_eq_true rfl) rfl rfl ?_
        refine ev_iconst (pc' := 44) (v := 0) dX6_multiply_43 rfl ki_0 ?_
        refine ev_istore (pc' := 46) (lv' := [some (.ref 18), some (.long (lN x)), none, some (.int 2), some (.long (lN dd2)), none, some (.long 0), none, some (.int 0), none, none]) dX6_multiply_44 rfl (Nat.le_of_ble_eq_true rfl) rfl rfl ?_
        suffices li2 : ∀ (d k c : Nat) (Y2 : Nat → Int64), k + d + 2 = 6 → c = bgA (n * (x % W30 2)) n dd2 2 k / W30 (k + 2) → (∀ j, j < 6 → Y2 j = lN (dg (if j < k + 2 then bgA (n * (x % W30 2)) n dd2 2 k else (n * (x % W30 2))) j)) → EV g yX6_multiply cX6_multiply 11 none rX6_multiply (ma_ZM g rX6_multiply Post) 46 [some (.ref 18), some (.long (lN x)), none, some (.int 2), some (.long (lN dd2)), none, some (.long (lN c)), none, some (.int (nI k)), none, none] [] HS I (ma_up (ma_up L 20 Y2) 19 (L 19)) RF 146 0 0 by
          refine li2 (6 - 2) 0 0 Y1 (by omega) (by rw [bgA_0, Nat.zero_add]; exact (Nat.div_eq_of_lt (Nat.mod_lt _ (W30_pos _))).symm) (fun j hj => ?_)
          rw [hY2 j hj]
          by_cases q : j < 0 + 2
          · rw [if_pos q, bgA_0, mod_dg _ (by omega)]
          · rw [if_neg q]
        intro d2x
        induction d2x with
        | zero =>
          intro k c Y2 hk hc hY2
          have hY3 : cB6 Y2 (n * (x % W30 3)) := fun j hj => by rw [← bg_dig, ← hdd2, bgA_endN _ _ _ _ k 6 (by omega) hj, hY2 j hj, if_pos (by omega)]
          refine ev_iload (pc' := 48) dX6_multiply_46 rfl rfl ?_
          refine ev_iload_n (pc' := 49) (i := 3) dX6_multiply_48 rfl rfl rfl ?_
          refine ev_iadd (pc' := 50) (v := nI (k + 2)) dX6_multiply_49 rfl (nI_add k 2) ?_
          refine ev_bipush (pc' := 52) (v := 6) dX6_multiply_50 rfl kb_6 ?_
          refine ev_icmp_ge (tgt := 108) (pc' := 55) dX6_multiply_52 rfl rfl (fun _ => ?_) (fun h => absurd (nx_le (a := 6) (b := (k + 2)) (by omega) (by omega)) h)
          refine ev_iinc (pc' := 111) (v := 3) (lv' := [some (.ref 18), some (.long (lN x)), none, some (.int 3), some (.long (lN dd2)), none, some (.long (lN c)), none, some (.int (nI k)), none, none]) dX6_multiply_108 rfl rfl (by decide) (Nat.le_of_ble_eq_true rfl) rfl rfl ?_
          refine ev_goto (tgt := 23) dX6_multiply_111 rfl ?_
          refine ev_iload_n (pc' := 24) (i := 3) dX6_multiply_23 rfl rfl rfl ?_
          refine ev_iconst (pc' := 25) (v := 3) dX6_multiply_24 rfl ki_3 ?_
          refine ev_icmp_ge (tgt := 114) (pc' := 28) dX6_multiply_25 rfl rfl (fun _ => ?_) (fun h => absurd (by decide) h)
          refine ev_iconst (pc' := 115) (v := 0) dX6_multiply_114 rfl ki_0 ?_
          refine ev_istore_n (pc' := 116) (i := 3) (lv' := [some (.ref 18), some (.long (lN x)), none, some (.int 0), some (.long (lN dd2)), none, some (.long (lN c)), none, some (.int (nI k)), none, none]) dX6_multiply_115 rfl rfl (Nat.le_of_ble_eq_true rfl) rfl rfl ?_
          have hY : cB6 Y2 (n * x) := by rw [Nat.mod_eq_of_lt (Nat.lt_of_lt_of_le hx (show 9223372036854775808 ≤ W30 3 by decide))] at hY3; exact hY3
          suffices lc : ∀ (d k : Nat) (Z : Nat → Int64), k + d = 6 → (∀ j, j < k → Z j = lN (dg (n * x) j)) → EV g yX6_multiply cX6_multiply 11 none rX6_multiply (ma_ZM g rX6_multiply Post) 116 [some (.ref 18), some (.long (lN x)), none, some (.int (nI k)), none, none, none, none, none, none, none] [] HS I (ma_up (ma_up L 20 Y2) 19 Z) RF 146 0 0 by
            refine ev_lvw (lv' := [some (.ref 18), some (.long (lN x)), none, some (.int 0), none, none, none, none, none, none, none]) ⟨rfl, ⟨rfl, ⟨rfl, trivial⟩⟩⟩ ?_
            exact lc 6 0 (L 19) rfl (fun j hj => absurd hj (Nat.not_lt_zero j))
          intro d3
          induction d3 with
          | zero =>
            intro k Z hk hZ
            obtain rfl : k = 6 := by omega
            refine ev_iload_n (pc' := 117) (i := 3) dX6_multiply_116 rfl rfl rfl ?_
            refine ev_bipush (pc' := 119) (v := 6) dX6_multiply_117 rfl kb_6 ?_
            refine ev_icmp_ge (tgt := 140) (pc' := 122) dX6_multiply_119 rfl rfl (fun _ => ?_) (fun h => absurd (nx_le (a := 6) (b := 6) (by omega) (by omega)) h)
            refine ev_vret dX6_multiply_140 rfl ⟨Nat.le_refl _, Nat.le_refl _⟩ ?_
            exact k0 Y2 Z hZ
          | succ d3 ih3 =>
            intro k Z hk hZ
            refine ev_iload_n (pc' := 117) (i := 3) dX6_multiply_116 rfl rfl rfl ?_
            refine ev_bipush (pc' := 119) (v := 6) dX6_multiply_117 rfl kb_6 ?_
            refine ev_icmp_ge (tgt := 140) (pc' := 122) dX6_multiply_119 rfl rfl (fun h => absurd h (nx_nle (a := 6) (b := k) (by omega) (by omega))) (fun _ => ?_)
            refine ev_aload_n (pc' := 123) (i := 0) dX6_multiply_122 rfl rfl rfl ?_
            refine ev_getR (pc' := 126) fo_X6_9 dX6_multiply_123 rfl hs_18 rfl rf_18_0 ?_
            refine ev_iload_n (pc' := 127) (i := 3) dX6_multiply_126 rfl rfl rfl ?_
            refine ev_aload_n (pc' := 128) (i := 0) dX6_multiply_127 rfl rfl rfl ?_
            refine ev_getR (pc' := 131) fo_X6_13 dX6_multiply_128 rfl hs_18 rfl rf_18_1 ?_
            refine ev_iload_n (pc' := 132) (i := 3) dX6_multiply_131 rfl rfl rfl ?_
            refine ev_lald (pc' := 133) (j := k) (v := Y2 k) dX6_multiply_132 rfl hs_20 rfl (by omega) (Nat.le_of_ble_eq_true rfl) rfl ?_
            refine ev_last (pc' := 134) (j := k) (L' := (ma_up (ma_up L 20 Y2) 19 (ma_up Z k (Y2 k)))) dX6_multiply_133 rfl hs_19 rfl (by omega) (Nat.le_of_ble_eq_true rfl) (ma_up_up _ _ _ _) ?_
            refine ev_iinc (pc' := 137) (v := nI (k + 1)) (lv' := [some (.ref 18), some (.long (lN x)), none, some (.int (nI (k + 1))), none, none, none, none, none, none, none]) dX6_multiply_134 rfl rfl (nI_add k 1) (Nat.le_of_ble_eq_true rfl) rfl rfl ?_
            refine ev_goto (tgt := 116) dX6_multiply_137 rfl ?_
            exact ih3 (k + 1) _ (by omega) (pt_all (fun j hj => by rw [ma_up_n _ _ (show j ≠ k by omega)]; exact hZ j hj) (by rw [ma_up_s]; exact hY k (by omega)))
        | succ d2x ih2x =>
          intro k c Y2 hk hc hY2
          obtain ⟨pp, hpp⟩ : ∃ pp, pp = dg (n * (x % W30 2)) (k + 2) := ⟨_, rfl⟩
          obtain ⟨t, ht⟩ : ∃ t, t = dg n k := ⟨_, rfl⟩
          have hp : Y2 (k + 2) = lN pp := by rw [hpp, hY2 (k + 2) (by omega), if_neg (by omega)]
          have htt : L 19 k = lN t := by rw [ht]; exact hT k (by omega)
          have hpl : pp < 1073741824 := by rw [hpp]; exact dg_lt _ _
          have htl : t < 1073741824 := by rw [ht]; exact dg_lt _ _
          have hcl : c < 1073741826 := by rw [hc]; exact bgA_c _ _ _ _ _ hdl2
          have htd : t * dd2 ≤ 1152921504606846976 := Nat.mul_le_mul (Nat.le_of_lt htl) (Nat.le_of_lt hdl2)
          refine ev_iload (pc' := 48) dX6_multiply_46 rfl rfl ?_
          refine ev_iload_n (pc' := 49) (i := 3) dX6_multiply_48 rfl rfl rfl ?_
          refine ev_iadd (pc' := 50) (v := nI (k + 2)) dX6_multiply_49 rfl (nI_add k 2) ?_
          refine ev_bipush (pc' := 52) (v := 6) dX6_multiply_50 rfl kb_6 ?_
          refine ev_icmp_ge (tgt := 108) (pc' := 55) dX6_multiply_52 rfl rfl (fun h => absurd h (nx_nle (a := 6) (b := (k + 2)) (by omega) (by omega))) (fun _ => ?_)
          refine ev_aload_n (pc' := 56) (i := 0) dX6_multiply_55 rfl rfl rfl ?_
          refine ev_getR (pc' := 59) fo_X6_13 dX6_multiply_56 rfl hs_18 rfl rf_18_1 ?_
          refine ev_iload (pc' := 61) dX6_multiply_59 rfl rfl ?_
          refine ev_iload_n (pc' := 62) (i := 3) dX6_multiply_61 rfl rfl rfl ?_
          refine ev_iadd (pc' := 63) (v := nI (k + 2)) dX6_multiply_62 rfl (nI_add k 2) ?_
          refine ev_lald (pc' := 64) (j := k + 2) (v := lN pp) dX6_multiply_63 rfl hs_20 rfl (by omega) (Nat.le_of_ble_eq_true rfl) hp ?_
          refine ev_aload_n (pc' := 65) (i := 0) dX6_multiply_64 rfl rfl rfl ?_
          refine ev_getR (pc' := 68) fo_X6_9 dX6_multiply_65 rfl hs_18 rfl rf_18_0 ?_
          refine ev_iload (pc' := 70) dX6_multiply_68 rfl rfl ?_
          refine ev_lald (pc' := 71) (j := k) (v := lN t) dX6_multiply_70 rfl hs_19 rfl (by omega) (Nat.le_of_ble_eq_true rfl) htt ?_
          refine ev_lload (pc' := 73) dX6_multiply_71 rfl rfl ?_
          refine ev_lmul (pc' := 74) (v := lN (t * dd2)) dX6_multiply_73 rfl (lN_mul t dd2) ?_
          refine ev_ladd (pc' := 75) (v := lN (pp + (t * dd2))) dX6_multiply_74 rfl (lN_add pp (t * dd2)) ?_
          refine ev_lload (pc' := 77) dX6_multiply_75 rfl rfl ?_
          refine ev_ladd (pc' := 78) (v := lN ((pp + (t * dd2)) + c)) dX6_multiply_77 rfl (lN_add (pp + (t * dd2)) c) ?_
          refine ev_lstore (pc' := 80) (lv' := [some (.ref 18), some (.long (lN x)), none, some (.int 2), some (.long (lN dd2)), none, some (.long (lN c)), none, some (.int (nI k)), some (.long (lN ((pp + (t * dd2)) + c))), none]) dX6_multiply_78 rfl (Nat.le_of_ble_eq_true rfl) rfl rfl ?_
          refine ev_aload_n (pc' := 81) (i := 0) dX6_multiply_80 rfl rfl rfl ?_
          refine ev_getR (pc' := 84) fo_X6_13 dX6_multiply_81 rfl hs_18 rfl rf_18_1 ?_
          refine ev_iload (pc' := 86) dX6_multiply_84 rfl rfl ?_
          refine ev_iload_n (pc' := 87) (i := 3) dX6_multiply_86 rfl rfl rfl ?_
          refine ev_iadd (pc' := 88) (v := nI (k + 2)) dX6_multiply_87 rfl (nI_add k 2) ?_
          refine ev_lload (pc' := 90) dX6_multiply_88 rfl rfl ?_
          refine ev_ldc2 (pc' := 93) cl_X6_16 dX6_multiply_90 rfl ?_
          refine ev_land (pc' := 94) (v := lN (((pp + (t * dd2)) + c) % 1073741824)) dX6_multiply_93 rfl (lN_and (by omega)) ?_
          refine ev_last (pc' := 95) (j := k + 2) (L' := (ma_up (ma_up L 20 (ma_up Y2 (k + 2) (lN (((pp + (t * dd2)) + c) % 1073741824)))) 19 (L 19))) dX6_multiply_94 rfl hs_20 rfl (by omega) (Nat.le_of_ble_eq_true rfl) ((ma_up_comm _ (show 20 ≠ 19 from (by decide)) _ _).trans (congrArg (fun f => ma_up f 19 _) (ma_up_up _ _ _ _))) ?_
          refine ev_lload (pc' := 97) dX6_multiply_95 rfl rfl ?_
          refine ev_bipush (pc' := 99) (v := 30) dX6_multiply_97 rfl kb_30 ?_
          refine ev_lushr (pc' := 100) (v := lN (((pp + (t * dd2)) + c) / 1073741824)) dX6_multiply_99 rfl (lN_shr30 (by omega)) ?_
          refine ev_lstore (pc' := 102) (lv' := [some (.ref 18), some (.long (lN x)), none, some (.int 2), some (.long (lN dd2)), none, some (.long (lN (((pp + (t * dd2)) + c) / 1073741824))), none, some (.int (nI k)), some (.long (lN ((pp + (t * dd2)) + c))), none]) dX6_multiply_100 rfl (Nat.le_of_ble_eq_true rfl) rfl rfl ?_
          refine ev_iinc (pc' := 105) (v := nI (k + 1)) (lv' := [some (.ref 18), some (.long (lN x)), none, some (.int 2), some (.long (lN dd2)), none, some (.long (lN (((pp + (t * dd2)) + c) / 1073741824))), none, some (.int (nI (k + 1))), some (.long (lN ((pp + (t * dd2)) + c))), none]) dX6_multiply_102 rfl rfl (nI_add k 1) (Nat.le_of_ble_eq_true rfl) rfl rfl ?_
          refine ev_goto (tgt := 46) dX6_multiply_105 rfl ?_
          refine ev_lvw (lv' := [some (.ref 18), some (.long (lN x)), none, some (.int 2), some (.long (lN dd2)), none, some (.long (lN (((pp + (t * dd2)) + c) / 1073741824))), none, some (.int (nI (k + 1))), none, none]) ⟨rfl, ⟨rfl, ⟨rfl, ⟨rfl, ⟨rfl, ⟨rfl, trivial⟩⟩⟩⟩⟩⟩ ?_
          refine ih2x (k + 1) _ _ (by omega) (by rw [hpp, ht, hc, ← bgA_div]; exact (div_W _ (k + 2)).trans (congrArg (fun z => bgA (n * (x % W30 2)) n dd2 2 (k + 1) / W30 z) (show k + 2 + 1 = k + 1 + 2 by omega))) (fun j hj => ?_)
          by_cases q : j = k + 2
          · rw [q, ma_up_s, if_pos (by omega)]; refine congrArg lN ?_; rw [hpp, ht, hc]; exact (bgA_dk (n * (x % W30 2)) n dd2 2 k).symm
          · rw [ma_up_n _ _ q, hY2 j hj]
            by_cases q2 : j < k + 2
            · rw [if_pos q2, if_pos (by omega), bgA_dg _ _ _ _ _ q2]
            · rw [if_neg q2, if_neg (by omega)]
      | succ d1x ih1x =>
        intro k c Y1 hk hc hY2
        obtain ⟨pp, hpp⟩ : ∃ pp, pp = dg (n * (x % W30 1)) (k + 1) := ⟨_, rfl⟩
        obtain ⟨t, ht⟩ : ∃ t, t = dg n k := ⟨_, rfl⟩
        have hp : Y1 (k + 1) = lN pp := by rw [hpp, hY2 (k + 1) (by omega), if_neg (by omega)]
        have htt : L 19 k = lN t := by rw [ht]; exact hT k (by omega)
        have hpl : pp < 1073741824 := by rw [hpp]; exact dg_lt _ _
        have htl : t < 1073741824 := by rw [ht]; exact dg_lt _ _
        have hcl : c < 1073741826 := by rw [hc]; exact bgA_c _ _ _ _ _ hdl1
        have htd : t * dd1 ≤ 1152921504606846976 := Nat.mul_le_mul (Nat.le_of_lt htl) (Nat.le_of_lt hdl1)
        refine ev_iload (pc' := 48) dX6_multiply_46 rfl rfl ?_
        refine ev_iload_n (pc' := 49) (i := 3) dX6_multiply_48 rfl rfl rfl ?_
        refine ev_iadd (pc' := 50) (v := nI (k + 1)) dX6_multiply_49 rfl (nI_add k 1) ?_
        refine ev_bipush (pc' := 52) (v := 6) dX6_multiply_50 rfl kb_6 ?_
        refine ev_icmp_ge (tgt := 108) (pc' := 55) dX6_multiply_52 rfl rfl (fun h => absurd h (nx_nle (a := 6) (b := (k + 1)) (by omega) (by omega))) (fun _ => ?_)
        refine ev_aload_n (pc' := 56) (i := 0) dX6_multiply_55 rfl rfl rfl ?_
        refine ev_getR (pc' := 59) fo_X6_13 dX6_multiply_56 rfl hs_18 rfl rf_18_1 ?_
        refine ev_iload (pc' := 61) dX6_multiply_59 rfl rfl ?_
        refine ev_iload_n (pc' := 62) (i := 3) dX6_multiply_61 rfl rfl rfl ?_
        refine ev_iadd (pc' := 63) (v := nI (k + 1)) dX6_multiply_62 rfl (nI_add k 1) ?_
        refine ev_lald (pc' := 64) (j := k + 1) (v := lN pp) dX6_multiply_63 rfl hs_20 rfl (by omega) (Nat.le_of_ble_eq_true rfl) hp ?_
        refine ev_aload_n (pc' := 65) (i := 0) dX6_multiply_64 rfl rfl rfl ?_
        refine ev_getR (pc' := 68) fo_X6_9 dX6_multiply_65 rfl hs_18 rfl rf_18_0 ?_
        refine ev_iload (pc' := 70) dX6_multiply_68 rfl rfl ?_
        refine ev_lald (pc' := 71) (j := k) (v := lN t) dX6_multiply_70 rfl hs_19 rfl (by omega) (Nat.le_of_ble_eq_true rfl) htt ?_
        refine ev_lload (pc' := 73) dX6_multiply_71 rfl rfl ?_
        refine ev_lmul (pc' := 74) (v := lN (t * dd1)) dX6_multiply_73 rfl (lN_mul t dd1) ?_
        refine ev_ladd (pc' := 75) (v := lN (pp + (t * dd1))) dX6_multiply_74 rfl (lN_add pp (t * dd1)) ?_
        refine ev_lload (pc' := 77) dX6_multiply_75 rfl rfl ?_
        refine ev_ladd (pc' := 78) (v := lN ((pp + (t * dd1)) + c)) dX6_multiply_77 rfl (lN_add (pp + (t * dd1)) c) ?_
        refine ev_lstore (pc' := 80) (lv' := [some (.ref 18), some (.long (lN x)), none, some (.int 1), some (.long (lN dd1)), none, some (.long (lN c)), none, some (.int (nI k)), some (.long (lN ((pp + (t * dd1)) + c))), none]) dX6_multiply_78 rfl (Nat.le_of_ble_eq_true rfl) rfl rfl ?_
        refine ev_aload_n (pc' := 81) (i := 0) dX6_multiply_80 rfl rfl rfl ?_
        refine ev_getR (pc' := 84) fo_X6_13 dX6_multiply_81 rfl hs_18 rfl rf_18_1 ?_
        refine ev_iload (pc' := 86) dX6_multiply_84 rfl rfl ?_
        refine ev_iload_n (pc' := 87) (i := 3) dX6_multiply_86 rfl rfl rfl ?_
        refine ev_iadd (pc' := 88) (v := nI (k + 1)) dX6_multiply_87 rfl (nI_add k 1) ?_
        refine ev_lload (pc' := 90) dX6_multiply_88 rfl rfl ?_
        refine ev_ldc2 (pc' := 93) cl_X6_16 dX6_multiply_90 rfl ?_
        refine ev_land (pc' := 94) (v := lN (((pp + (t * dd1)) + c) % 1073741824)) dX6_multiply_93 rfl (lN_and (by omega)) ?_
        refine ev_last (pc' := 95) (j := k + 1) (L' := (ma_up (ma_up L 20 (ma_up Y1 (k + 1) (lN (((pp + (t * dd1)) + c) % 1073741824)))) 19 (L 19))) dX6_multiply_94 rfl hs_20 rfl (by omega) (Nat.le_of_ble_eq_true rfl) ((ma_up_comm _ (show 20 ≠ 19 from (by decide)) _ _).trans (congrArg (fun f => ma_up f 19 _) (ma_up_up _ _ _ _))) ?_
        refine ev_lload (pc' := 97) dX6_multiply_95 rfl rfl ?_
        refine ev_bipush (pc' := 99) (v := 30) dX6_multiply_97 rfl kb_30 ?_
        refine ev_lushr (pc' := 100) (v := lN (((pp + (t * dd1)) + c) / 1073741824)) dX6_multiply_99 rfl (lN_shr30 (by omega)) ?_
        refine ev_lstore (pc' := 102) (lv' := [some (.ref 18), some (.long (lN x)), none, some (.int 1), some (.long (lN dd1)), none, some (.long (lN (((pp + (t * dd1)) + c) / 1073741824))), none, some (.int (nI k)), some (.long (lN ((pp + (t * dd1)) + c))), none]) dX6_multiply_100 rfl (Nat.le_of_ble_eq_true rfl) rfl rfl ?_
        refine ev_iinc (pc' := 105) (v := nI (k + 1)) (lv' := [some (.ref 18), some (.long (lN x)), none, some (.int 1), some (.long (lN dd1)), none, some (.long (lN (((pp + (t * dd1)) + c) / 1073741824))), none, some (.int (nI (k + 1))), some (.long (lN ((pp + (t * dd1)) + c))), none]) dX6_multiply_102 rfl rfl (nI_add k 1) (Nat.le_of_ble_eq_true rfl) rfl rfl ?_
        refine ev_goto (tgt := 46) dX6_multiply_105 rfl ?_
        refine ev_lvw (lv' := [some (.ref 18), some (.long (lN x)), none, some (.int 1), some (.long (lN dd1)), none, some (.long (lN (((pp + (t * dd1)) + c) / 1073741824))), none, some (.int (nI (k + 1))), none, none]) ⟨rfl, ⟨rfl, ⟨rfl, ⟨rfl, ⟨rfl, ⟨rfl, trivial⟩⟩⟩⟩⟩⟩ ?_
        refine ih1x (k + 1) _ _ (by omega) (by rw [hpp, ht, hc, ← bgA_div]; exact (div_W _ (k + 1)).trans (congrArg (fun z => bgA (n * (x % W30 1)) n dd1 1 (k + 1) / W30 z) (show k + 1 + 1 = k + 1 + 1 by omega))) (fun j hj => ?_)
        by_cases q : j = k + 1
        · rw [q, ma_up_s, if_pos (by omega)]; refine congrArg lN ?_; rw [hpp, ht, hc]; exact (bgA_dk (n * (x % W30 1)) n dd1 1 k).symm
        · rw [ma_up_n _ _ q, hY2 j hj]
          by_cases q2 : j < k + 1
          · rw [if_pos q2, if_pos (by omega), bgA_dg _ _ _ _ _ q2]
          · rw [if_neg q2, if_neg (by omega)]
    | succ d0x ih0x =>
      intro k c Y0 hk hc hY2
      obtain ⟨pp, hpp⟩ : ∃ pp, pp = dg (n * (x % W30 0)) (k + 0) := ⟨_, rfl⟩
      obtain ⟨t, ht⟩ : ∃ t, t = dg n k := ⟨_, rfl⟩
      have hp : Y0 (k + 0) = lN pp := by rw [hpp, hY2 (k + 0) (by omega), if_neg (by omega)]
      have htt : L 19 k = lN t := by rw [ht]; exact hT k (by omega)
      have hpl : pp < 1073741824 := by rw [hpp]; exact dg_lt _ _
      have htl : t < 1073741824 := by rw [ht]; exact dg_lt _ _
      have hcl : c < 1073741826 := by rw [hc]; exact bgA_c _ _ _ _ _ hdl0
      have htd : t * dd0 ≤ 1152921504606846976 := Nat.mul_le_mul (Nat.le_of_lt htl) (Nat.le_of_lt hdl0)
      refine ev_iload (pc' := 48) dX6_multiply_46 rfl rfl ?_
      refine ev_iload_n (pc' := 49) (i := 3) dX6_multiply_48 rfl rfl rfl ?_
      refine ev_iadd (pc' := 50) (v := nI (k + 0)) dX6_multiply_49 rfl (nI_add k 0) ?_
      refine ev_bipush (pc' := 52) (v := 6) dX6_multiply_50 rfl kb_6 ?_
      refine ev_icmp_ge (tgt := 108) (pc' := 55) dX6_multiply_52 rfl rfl (fun h => absurd h (nx_nle (a := 6) (b := (k + 0)) (by omega) (by omega))) (fun _ => ?_)
      refine ev_aload_n (pc' := 56) (i := 0) dX6_multiply_55 rfl rfl rfl ?_
      refine ev_getR (pc' := 59) fo_X6_13 dX6_multiply_56 rfl hs_18 rfl rf_18_1 ?_
      refine ev_iload (pc' := 61) dX6_multiply_59 rfl rfl ?_
      refine ev_iload_n (pc' := 62) (i := 3) dX6_multiply_61 rfl rfl rfl ?_
      refine ev_iadd (pc' := 63) (v := nI (k + 0)) dX6_multiply_62 rfl (nI_add k 0) ?_
      refine ev_lald (pc' := 64) (j := k + 0) (v := lN pp) dX6_multiply_63 rfl hs_20 rfl (by omega) (Nat.le_of_ble_eq_true rfl) hp ?_
      refine ev_aload_n (pc' := 65) (i := 0) dX6_multiply_64 rfl rfl rfl ?_
      refine ev_getR (pc' := 68) fo_X6_9 dX6_multiply_65 rfl hs_18 rfl rf_18_0 ?_
      refine ev_iload (pc' := 70) dX6_multiply_68 rfl rfl ?_
      refine ev_lald (pc' := 71) (j := k) (v := lN t) dX6_multiply_70 rfl hs_19 rfl (by omega) (Nat.le_of_ble_eq_true rfl) htt ?_
      refine ev_lload (pc' := 73) dX6_multiply_71 rfl rfl ?_
      refine ev_lmul (pc' := 74) (v := lN (t * dd0)) dX6_multiply_73 rfl (lN_mul t dd0) ?_
      refine ev_ladd (pc' := 75) (v := lN (pp + (t * dd0))) dX6_multiply_74 rfl (lN_add pp (t * dd0)) ?_
      refine ev_lload (pc' := 77) dX6_multiply_75 rfl rfl ?_
      refine ev_ladd (pc' := 78) (v := lN ((pp + (t * dd0)) + c)) dX6_multiply_77 rfl (lN_add (pp + (t * dd0)) c) ?_
      refine ev_lstore (pc' := 80) (lv' := [some (.ref 18), some (.long (lN x)), none, some (.int 0), some (.long (lN dd0)), none, some (.long (lN c)), none, some (.int (nI k)), some (.long (lN ((pp + (t * dd0)) + c))), none]) dX6_multiply_78 rfl (Nat.le_of_ble_eq_true rfl) rfl rfl ?_
      refine ev_aload_n (pc' := 81) (i := 0) dX6_multiply_80 rfl rfl rfl ?_
      refine ev_getR (pc' := 84) fo_X6_13 dX6_multiply_81 rfl hs_18 rfl rf_18_1 ?_
      refine ev_iload (pc' := 86) dX6_multiply_84 rfl rfl ?_
      refine ev_iload_n (pc' := 87) (i := 3) dX6_multiply_86 rfl rfl rfl ?_
      refine ev_iadd (pc' := 88) (v := nI (k + 0)) dX6_multiply_87 rfl (nI_add k 0) ?_
      refine ev_lload (pc' := 90) dX6_multiply_88 rfl rfl ?_
      refine ev_ldc2 (pc' := 93) cl_X6_16 dX6_multiply_90 rfl ?_
      refine ev_land (pc' := 94) (v := lN (((pp + (t * dd0)) + c) % 1073741824)) dX6_multiply_93 rfl (lN_and (by omega)) ?_
      refine ev_last (pc' := 95) (j := k + 0) (L' := (ma_up (ma_up L 20 (ma_up Y0 (k + 0) (lN (((pp + (t * dd0)) + c) % 1073741824)))) 19 (L 19))) dX6_multiply_94 rfl hs_20 rfl (by omega) (Nat.le_of_ble_eq_true rfl) ((ma_up_comm _ (show 20 ≠ 19 from (by decide)) _ _).trans (congrArg (fun f => ma_up f 19 _) (ma_up_up _ _ _ _))) ?_
      refine ev_lload (pc' := 97) dX6_multiply_95 rfl rfl ?_
      refine ev_bipush (pc' := 99) (v := 30) dX6_multiply_97 rfl kb_30 ?_
      refine ev_lushr (pc' := 100) (v := lN (((pp + (t * dd0)) + c) / 1073741824)) dX6_multiply_99 rfl (lN_shr30 (by omega)) ?_
      refine ev_lstore (pc' := 102) (lv' := [some (.ref 18), some (.long (lN x)), none, some (.int 0), some (.long (lN dd0)), none, some (.long (lN (((pp + (t * dd0)) + c) / 1073741824))), none, some (.int (nI k)), some (.long (lN ((pp + (t * dd0)) + c))), none]) dX6_multiply_100 rfl (Nat.le_of_ble_eq_true rfl) rfl rfl ?_
      refine ev_iinc (pc' := 105) (v := nI (k + 1)) (lv' := [some (.ref 18), some (.long (lN x)), none, some (.int 0), some (.long (lN dd0)), none, some (.long (lN (((pp + (t * dd0)) + c) / 1073741824))), none, some (.int (nI (k + 1))), some (.long (lN ((pp + (t * dd0)) + c))), none]) dX6_multiply_102 rfl rfl (nI_add k 1) (Nat.le_of_ble_eq_true rfl) rfl rfl ?_
      refine ev_goto (tgt := 46) dX6_multiply_105 rfl ?_
      refine ev_lvw (lv' := [some (.ref 18), some (.long (lN x)), none, some (.int 0), some (.long (lN dd0)), none, some (.long (lN (((pp + (t * dd0)) + c) / 1073741824))), none, some (.int (nI (k + 1))), none, none]) ⟨rfl, ⟨rfl, ⟨rfl, ⟨rfl, ⟨rfl, ⟨rfl, trivial⟩⟩⟩⟩⟩⟩ ?_
      refine ih0x (k + 1) _ _ (by omega) (by rw [hpp, ht, hc, ← bgA_div]; exact (div_W _ (k + 0)).trans (congrArg (fun z => bgA (n * (x % W30 0)) n dd0 0 (k + 1) / W30 z) (show k + 0 + 1 = k + 1 + 0 by omega))) (fun j hj => ?_)
      by_cases q : j = k + 0
      · rw [q, ma_up_s, if_pos (by omega)]; refine congrArg lN ?_; rw [hpp, ht, hc]; exact (bgA_dk (n * (x % W30 0)) n dd0 0 k).symm
      · rw [ma_up_n _ _ q, hY2 j hj]
        by_cases q2 : j < k + 0
        · rw [if_pos q2, if_pos (by omega), bgA_dg _ _ _ _ _ q2]
        · rw [if_neg q2, if_neg (by omega)]
  | succ d ih =>
    intro k X hk hX
    refine ev_iload_n (pc' := 3) (i := 3) dX6_multiply_2 rfl rfl rfl ?_
    refine ev_bipush (pc' := 5) (v := 6) dX6_multiply_3 rfl kb_6 ?_
    refine ev_icmp_ge (tgt := 21) (pc' := 8) dX6_multiply_5 rfl rfl (fun h => absurd h (nx_nle (a := 6) (b := k) (by omega) (by omega))) (fun _ => ?_)
    refine ev_aload_n (pc' := 9) (i := 0) dX6_multiply_8 rfl rfl rfl ?_
    refine ev_getR (pc' := 12) fo_X6_13 dX6_multiply_9 rfl hs_18 rfl rf_18_1 ?_
    refine ev_iload_n (pc' := 13) (i := 3) dX6_multiply_12 rfl rfl rfl ?_
    refine ev_lconst (pc' := 14) (v := 0) dX6_multiply_13 rfl kl_0 ?_
    refine ev_last (pc' := 15) (j := k) (L' := (ma_up (ma_up L 20 (ma_up X k 0)) 19 (L 19))) dX6_multiply_14 rfl hs_20 rfl (by omega) (Nat.le_of_ble_eq_true rfl) ((ma_up_comm _ (show 20 ≠ 19 from (by decide)) _ _).trans (congrArg (fun f => ma_up f 19 _) (ma_up_up _ _ _ _))) ?_
    refine ev_iinc (pc' := 18) (v := nI (k + 1)) (lv' := [some (.ref 18), some (.long (lN x)), none, some (.int (nI (k + 1))), none, none, none, none, none, none, none]) dX6_multiply_15 rfl rfl (nI_add k 1) (Nat.le_of_ble_eq_true rfl) rfl rfl ?_
    refine ev_goto (tgt := 2) dX6_multiply_18 rfl ?_
    exact ih (k + 1) _ (by omega) (pt_all (fun j hj => by rw [ma_up_n _ _ (show j ≠ k by omega)]; exact hX j hj) (by rw [ma_up_s]; show (0 : Int64) = lN (0 / W30 k % 1073741824); rw [Nat.zero_div]; rfl))
set_option maxRecDepth 4000 in
theorem t_X6_begin21 {g : ma_G} {Post : ma_P} {I : ma_I} {L : ma_L} (x : Nat) (hx : x < 9223372036854775808) (k0 : ∀ T : Nat → Int64, cB6 T x → Post none HS I (ma_up L 22 T) RF 146) : CT g yX6_begin cX6_begin 4 none rX6_begin [.ref 21, .long (lN x)] Post HS I L RF 146 := by
  refine ct_of (lv := [some (.ref 21), some (.long (lN x)), none, none]) (by decide) (Nat.le_of_ble_eq_true rfl) rfl ?_
  refine ev_iconst (pc' := 1) (v := 0) dX6_begin_0 rfl ki_0 ?_
  refine ev_istore_n (pc' := 2) (i := 3) (lv' := [some (.ref 21), some (.long (lN x)), none, some (.int 0)]) dX6_begin_1 rfl rfl (Nat.le_of_ble_eq_true rfl) rfl rfl ?_
  refine ev_iload_n (pc' := 3) (i := 3) dX6_begin_2 rfl rfl rfl ?_
  refine ev_bipush (pc' := 5) (v := 6) dX6_begin_3 rfl kb_6 ?_
  refine ev_icmp_ge (tgt := 21) (pc' := 8) dX6_begin_5 rfl rfl (fun h => absurd h (by decide)) (fun _ => ?_)
  refine ev_aload_n (pc' := 9) (i := 0) dX6_begin_8 rfl rfl rfl ?_
  refine ev_getR (pc' := 12) fo_X6_9 dX6_begin_9 rfl hs_21 rfl rf_21_0 ?_
  refine ev_iload_n (pc' := 13) (i := 3) dX6_begin_12 rfl rfl rfl ?_
  refine ev_lconst (pc' := 14) (v := 0) dX6_begin_13 rfl kl_0 ?_
  refine ev_last (pc' := 15) (j := 0) (L' := (ma_up L 22 (ma_up (L 22) 0 0))) dX6_begin_14 rfl hs_22 rfl (Nat.le_of_ble_eq_true rfl) (Nat.le_of_ble_eq_true rfl) rfl ?_
  refine ev_iinc (pc' := 18) (v := 1) (lv' := [some (.ref 21), some (.long (lN x)), none, some (.int 1)]) dX6_begin_15 rfl rfl (by decide) (Nat.le_of_ble_eq_true rfl) rfl rfl ?_
  refine ev_goto (tgt := 2) dX6_begin_18 rfl ?_
  refine ev_iload_n (pc' := 3) (i := 3) dX6_begin_2 rfl rfl rfl ?_
  refine ev_bipush (pc' := 5) (v := 6) dX6_begin_3 rfl kb_6 ?_
  refine ev_icmp_ge (tgt := 21) (pc' := 8) dX6_begin_5 rfl rfl (fun h => absurd h (by decide)) (fun _ => ?_)
  refine ev_aload_n (pc' := 9) (i := 0) dX6_begin_8 rfl rfl rfl ?_
  refine ev_getR (pc' := 12) fo_X6_9 dX6_begin_9 rfl hs_21 rfl rf_21_0 ?_
  refine ev_iload_n (pc' := 13) (i := 3) dX6_begin_12 rfl rfl rfl ?_
  refine ev_lconst (pc' := 14) (v := 0) dX6_begin_13 rfl kl_0 ?_
  refine ev_last (pc' := 15) (j := 1) (L' := (ma_up L 22 (ma_up (ma_up (L 22) 0 0) 1 0))) dX6_begin_14 rfl hs_22 rfl (Nat.le_of_ble_eq_true rfl) (Nat.le_of_ble_eq_true rfl) (ma_up_up _ _ _ _) ?_
  refine ev_iinc (pc' := 18) (v := 2) (lv' := [some (.ref 21), some (.long (lN x)), none, some (.int 2)]) dX6_begin_15 rfl rfl (by decide) (Nat.le_of_ble_eq_true rfl) rfl rfl ?_
  refine ev_goto (tgt := 2) dX6_begin_18 rfl ?_
  refine ev_iload_n (pc' := 3) (i := 3) dX6_begin_2 rfl rfl rfl ?_
  refine ev_bipush (pc' := 5) (v := 6) dX6_begin_3 rfl kb_6 ?_
  refine ev_icmp_ge (tgt := 21) (pc' := 8) dX6_begin_5 rfl rfl (fun h => absurd h (by decide)) (fun _ => ?_)
  refine ev_aload_n (pc' := 9) (i := 0) dX6_begin_8 rfl rfl rfl ?_
  refine ev_getR (pc' := 12) fo_X6_9 dX6_begin_9 rfl hs_21 rfl rf_21_0 ?_
  refine ev_iload_n (pc' := 13) (i := 3) dX6_begin_12 rfl rfl rfl ?_
  refine ev_lconst (pc' := 14) (v := 0) dX6_begin_13 rfl kl_0 ?_
  refine ev_last (pc' := 15) (j := 2) (L' := (ma_up L 22 (ma_up (ma_up (ma_up (L 22) 0 0) 1 0) 2 0))) dX6_begin_14 rfl hs_22 rfl (Nat.le_of_ble_eq_true rfl) (Nat.le_of_ble_eq_true rfl) (ma_up_up _ _ _ _) ?_
  refine ev_iinc (pc' := 18) (v := 3) (lv' := [some (.ref 21), some (.long (lN x)), none, some (.int 3)]) dX6_begin_15 rfl rfl (by decide) (Nat.le_of_ble_eq_true rfl) rfl rfl ?_
  refine ev_goto (tgt := 2) dX6_begin_18 rfl ?_
  refine ev_iload_n (pc' := 3) (i := 3) dX6_begin_2 rfl rfl rfl ?_
  refine ev_bipush (pc' := 5) (v := 6) dX6_begin_3 rfl kb_6 ?_
  refine ev_icmp_ge (tgt := 21) (pc' := 8) dX6_begin_5 rfl rfl (fun h => absurd h (by decide)) (fun _ => ?_)
  refine ev_aload_n (pc' := 9) (i := 0) dX6_begin_8 rfl rfl rfl ?_
  refine ev_getR (pc' := 12) fo_X6_9 dX6_begin_9 rfl hs_21 rfl rf_21_0 ?_
  refine ev_iload_n (pc' := 13) (i := 3) dX6_begin_12 rfl rfl rfl ?_
  refine ev_lconst (pc' := 14) (v := 0) dX6_begin_13 rfl kl_0 ?_
  refine ev_last (pc' := 15) (j := 3) (L' := (ma_up L 22 (ma_up (ma_up (ma_up (ma_up (L 22) 0 0) 1 0) 2 0) 3 0))) dX6_begin_14 rfl hs_22 rfl (Nat.le_of_ble_eq_true rfl) (Nat.le_of_ble_eq_true rfl) (ma_up_up _ _ _ _) ?_
  refine ev_iinc (pc' := 18) (v := 4) (lv' := [some (.ref 21), some (.long (lN x)), none, some (.int 4)]) dX6_begin_15 rfl rfl (by decide) (Nat.le_of_ble_eq_true rfl) rfl rfl ?_
  refine ev_goto (tgt := 2) dX6_begin_18 rfl ?_
  refine ev_iload_n (pc' := 3) (i := 3) dX6_begin_2 rfl rfl rfl ?_
  refine ev_bipush (pc' := 5) (v := 6) dX6_begin_3 rfl kb_6 ?_
  refine ev_icmp_ge (tgt := 21) (pc' := 8) dX6_begin_5 rfl rfl (fun h => absurd h (by decide)) (fun _ => ?_)
  refine ev_aload_n (pc' := 9) (i := 0) dX6_begin_8 rfl rfl rfl ?_
  refine ev_getR (pc' := 12) fo_X6_9 dX6_begin_9 rfl hs_21 rfl rf_21_0 ?_
  refine ev_iload_n (pc' := 13) (i := 3) dX6_begin_12 rfl rfl rfl ?_
  refine ev_lconst (pc' := 14) (v := 0) dX6_begin_13 rfl kl_0 ?_
  refine ev_last (pc' := 15) (j := 4) (L' := (ma_up L 22 (ma_up (ma_up (ma_up (ma_up (ma_up (L 22) 0 0) 1 0) 2 0) 3 0) 4 0))) dX6_begin_14 rfl hs_22 rfl (Nat.le_of_ble_eq_true rfl) (Nat.le_of_ble_eq_true rfl) (ma_up_up _ _ _ _) ?_
  refine ev_iinc (pc' := 18) (v := 5) (lv' := [some (.ref 21), some (.long (lN x)), none, some (.int 5)]) dX6_begin_15 rfl rfl (by decide) (Nat.le_of_ble_eq_true rfl) rfl rfl ?_
  refine ev_goto (tgt := 2) dX6_begin_18 rfl ?_
  refine ev_iload_n (pc' := 3) (i := 3) dX6_begin_2 rfl rfl rfl ?_
  refine ev_bipush (pc' := 5) (v := 6) dX6_begin_3 rfl kb_6 ?_
  refine ev_icmp_ge (tgt := 21) (pc' := 8) dX6_begin_5 rfl rfl (fun h => absurd h (by decide)) (fun _ => ?_)
  refine ev_aload_n (pc' := 9) (i := 0) dX6_begin_8 rfl rfl rfl ?_
  refine ev_getR (pc' := 12) fo_X6_9 dX6_begin_9 rfl hs_21 rfl rf_21_0 ?_
  refine ev_iload_n (pc' := 13) (i := 3) dX6_begin_12 rfl rfl rfl ?_
  refine ev_lconst (pc' := 14) (v := 0) dX6_begin_13 rfl kl_0 ?_
  refine ev_last (pc' := 15) (j := 5) (L' := (ma_up L 22 (ma_up (ma_up (ma_up (ma_up (ma_up (ma_up (L 22) 0 0) 1 0) 2 0) 3 0) 4 0) 5 0))) dX6_begin_14 rfl hs_22 rfl (Nat.le_of_ble_eq_true rfl) (Nat.le_of_ble_eq_true rfl) (ma_up_up _ _ _ _) ?_
  refine ev_iinc (pc' := 18) (v := 6) (lv' := [some (.ref 21), some (.long (lN x)), none, some (.int 6)]) dX6_begin_15 rfl rfl (by decide) (Nat.le_of_ble_eq_true rfl) rfl rfl ?_
  refine ev_goto (tgt := 2) dX6_begin_18 rfl ?_
  refine ev_iload_n (pc' := 3) (i := 3) dX6_begin_2 rfl rfl rfl ?_
  refine ev_bipush (pc' := 5) (v := 6) dX6_begin_3 rfl kb_6 ?_
  refine ev_icmp_ge (tgt := 21) (pc' := 8) dX6_begin_5 rfl rfl (fun _ => ?_) (fun h => absurd (by decide) h)
  refine ev_aload_n (pc' := 22) (i := 0) dX6_begin_21 rfl rfl rfl ?_
  refine ev_getR (pc' := 25) fo_X6_9 dX6_begin_22 rfl hs_21 rfl rf_21_0 ?_
  refine ev_iconst (pc' := 26) (v := 0) dX6_begin_25 rfl ki_0 ?_
  refine ev_lload_n (pc' := 27) (i := 1) dX6_begin_26 rfl rfl rfl ?_
  refine ev_ldc2 (pc' := 30) cl_X6_16 dX6_begin_27 rfl ?_
  refine ev_land (pc' := 31) (v := lN (x % 1073741824)) dX6_begin_30 rfl (lN_and (by omega)) ?_
  refine ev_last (pc' := 32) (j := 0) (L' := (ma_up L 22 (ma_up (ma_up (ma_up (ma_up (ma_up (ma_up (L 22) 0 (lN (x % 1073741824))) 1 0) 2 0) 3 0) 4 0) 5 0))) dX6_begin_31 rfl hs_22 rfl (Nat.le_of_ble_eq_true rfl) (Nat.le_of_ble_eq_true rfl) ((congrArg (ma_up _ 22) ((ma_up_comm _ (show 0 ≠ 5 from (by decide)) _ _).trans (congrArg (fun f => ma_up f 5 _) ((ma_up_comm _ (show 0 ≠ 4 from (by decide)) _ _).trans (congrArg (fun f => ma_up f 4 _) ((ma_up_comm _ (show 0 ≠ 3 from (by decide)) _ _).trans (congrArg (fun f => ma_up f 3 _) ((ma_up_comm _ (show 0 ≠ 2 from (by decide)) _ _).trans (congrArg (fun f => ma_up f 2 _) ((ma_up_comm _ (show 0 ≠ 1 from (by decide)) _ _).trans (congrArg (fun f => ma_up f 1 _) (ma_up_up _ _ _ _)))))))))))).trans (ma_up_up _ _ _ _)) ?_
  refine ev_aload_n (pc' := 33) (i := 0) dX6_begin_32 rfl rfl rfl ?_
  refine ev_getR (pc' := 36) fo_X6_9 dX6_begin_33 rfl hs_21 rfl rf_21_0 ?_
  refine ev_iconst (pc' := 37) (v := 1) dX6_begin_36 rfl ki_1 ?_
  refine ev_lload_n (pc' := 38) (i := 1) dX6_begin_37 rfl rfl rfl ?_
  refine ev_bipush (pc' := 40) (v := 30) dX6_begin_38 rfl kb_30 ?_
  refine ev_lushr (pc' := 41) (v := lN (x / 1073741824)) dX6_begin_40 rfl (lN_shr30 (by omega)) ?_
  refine ev_ldc2 (pc' := 44) cl_X6_16 dX6_begin_41 rfl ?_
  refine ev_land (pc' := 45) (v := lN ((x / 1073741824) % 1073741824)) dX6_begin_44 rfl (lN_and (by omega)) ?_
  refine ev_last (pc' := 46) (j := 1) (L' := (ma_up L 22 (ma_up (ma_up (ma_up (ma_up (ma_up (ma_up (L 22) 0 (lN (x % 1073741824))) 1 (lN ((x / 1073741824) % 1073741824))) 2 0) 3 0) 4 0) 5 0))) dX6_begin_45 rfl hs_22 rfl (Nat.le_of_ble_eq_true rfl) (Nat.le_of_ble_eq_true rfl) ((congrArg (ma_up _ 22) ((ma_up_comm _ (show 1 ≠ 5 from (by decide)) _ _).trans (congrArg (fun f => ma_up f 5 _) ((ma_up_comm _ (show 1 ≠ 4 from (by decide)) _ _).trans (congrArg (fun f => ma_up f 4 _) ((ma_up_comm _ (show 1 ≠ 3 from (by decide)) _ _).trans (congrArg (fun f => ma_up f 3 _) ((ma_up_comm _ (show 1 ≠ 2 from (by decide)) _ _).trans (congrArg (fun f => ma_up f 2 _) (ma_up_up _ _ _ _)))))))))).trans (ma_up_up _ _ _ _)) ?_
  refine ev_aload_n (pc' := 47) (i := 0) dX6_begin_46 rfl rfl rfl ?_
  refine ev_getR (pc' := 50) fo_X6_9 dX6_begin_47 rfl hs_21 rfl rf_21_0 ?_
  refine ev_iconst (pc' := 51) (v := 2) dX6_begin_50 rfl ki_2 ?_
  refine ev_lload_n (pc' := 52) (i := 1) dX6_begin_51 rfl rfl rfl ?_
  refine ev_bipush (pc' := 54) (v := 60) dX6_begin_52 rfl kb_60 ?_
  refine ev_lushr (pc' := 55) (v := lN (x / 1152921504606846976)) dX6_begin_54 rfl (lN_shr60 (by omega)) ?_
  refine ev_last (pc' := 56) (j := 2) (L' := (ma_up L 22 (ma_up (ma_up (ma_up (ma_up (ma_up (ma_up (L 22) 0 (lN (x % 1073741824))) 1 (lN ((x / 1073741824) % 1073741824))) 2 (lN (x / 1152921504606846976))) 3 0) 4 0) 5 0))) dX6_begin_55 rfl hs_22 rfl (Nat.le_of_ble_eq_true rfl) (Nat.le_of_ble_eq_true rfl) ((congrArg (ma_up _ 22) ((ma_up_comm _ (show 2 ≠ 5 from (by decide)) _ _).trans (congrArg (fun f => ma_up f 5 _) ((ma_up_comm _ (show 2 ≠ 4 from (by decide)) _ _).trans (congrArg (fun f => ma_up f 4 _) ((ma_up_comm _ (show 2 ≠ 3 from (by decide)) _ _).trans (congrArg (fun f => ma_up f 3 _) (ma_up_up _ _ _ _)))))))).trans (ma_up_up _ _ _ _)) ?_
  refine ev_vret dX6_begin_56 rfl ⟨Nat.le_refl _, Nat.le_refl _⟩ ?_
  exact k0 _ (fun j hj => by match j, hj with
    | 0, _ => show lN (x % 1073741824) = lN (x / W30 0 % 1073741824); rw [show W30 0 = 1 from rfl, Nat.div_one]
    | 1, _ => rfl
    | 2, _ => show lN (x / 1152921504606846976) = lN (x / W30 2 % 1073741824); rw [Nat.mod_eq_of_lt (show x / W30 2 < 1073741824 from Nat.lt_of_le_of_lt (Nat.div_le_div_right (Nat.le_of_lt hx)) (by decide))]; rfl
    | 3, _ => show (0 : Int64) = lN (x / W30 3 % 1073741824); rw [Nat.div_eq_of_lt (Nat.lt_of_lt_of_le hx (by decide))]; rfl
    | 4, _ => show (0 : Int64) = lN (x / W30 4 % 1073741824); rw [Nat.div_eq_of_lt (Nat.lt_of_lt_of_le hx (by decide))]; rfl
    | 5, _ => show (0 : Int64) = lN (x / W30 5 % 1073741824); rw [Nat.div_eq_of_lt (Nat.lt_of_lt_of_le hx (by decide))]; rfl
    | j + 6, h => exact absurd h (by omega))
set_option maxRecDepth 4000 in
theorem t_X6_multiply21 {g : ma_G} {Post : ma_P} {I : ma_I} {L : ma_L} (n x : Nat) (hx : x < 9223372036854775808) (hT : cB6 (L 22) n) (k0 : ∀ Y Z : Nat → Int64, cB6 Z (n * x) → Post none HS I (ma_up (ma_up L 23 Y) 22 Z) RF 146) : CT g yX6_multiply cX6_multiply 11 none rX6_multiply [.ref 21, .long (lN x)] Post HS I L RF 146 := by
  refine ct_of (lv := [some (.ref 21), some (.long (lN x)), none, none, none, none, none, none, none, none, none]) (by decide) (Nat.le_of_ble_eq_true rfl) rfl ?_
  refine ev_memL (fun z hz => ?_)
  have hz : z = ma_up (ma_up L 23 (L 23)) 22 (L 22) := by rw [hz, ma_up_self, ma_up_self]
  subst hz
  refine ev_iconst (pc' := 1) (v := 0) dX6_multiply_0 rfl ki_0 ?_
  refine ev_istore_n (pc' := 2) (i := 3) (lv' := [some (.ref 21), some (.long (lN x)), none, some (.int 0), none, none, none, none, none, none, none]) dX6_multiply_1 rfl rfl (Nat.le_of_ble_eq_true rfl) rfl rfl ?_
  suffices lz : ∀ (d k : Nat) (X : Nat → Int64), k + d = 6 → (∀ j, j < k → X j = lN (dg 0 j)) → EV g yX6_multiply cX6_multiply 11 none rX6_multiply (ma_ZM g rX6_multiply Post) 2 [some (.ref 21), some (.long (lN x)), none, some (.int (nI k)), none, none, none, none, none, none, none] [] HS I (ma_up (ma_up L 23 X) 22 (L 22)) RF 146 0 0 from lz 6 0 (L 23) rfl (fun j hj => absurd hj (Nat.not_lt_zero j))
  intro d
  induction d with
  | zero =>
    intro k X hk hX
    obtain rfl : k = 6 := by omega
    have hY0 : cB6 X (n * (x % W30 0)) := fun j hj => by rw [show x % W30 0 = 0 from Nat.mod_one x, Nat.mul_zero]; exact hX j hj
    refine ev_iload_n (pc' := 3) (i := 3) dX6_multiply_2 rfl rfl rfl ?_
    refine ev_bipush (pc' := 5) (v := 6) dX6_multiply_3 rfl kb_6 ?_
    refine ev_icmp_ge (tgt := 21) (pc' := 8) dX6_multiply_5 rfl rfl (fun _ => ?_) (fun h => absurd (nx_le (a := 6) (b := 6) (by omega) (by omega)) h)
    refine ev_iconst (pc' := 22) (v := 0) dX6_multiply_21 rfl ki_0 ?_
    refine ev_istore_n (pc' := 23) (i := 3) (lv' := [some (.ref 21), some (.long (lN x)), none, some (.int 0), none, none, none, none, none, none, none]) dX6_multiply_22 rfl rfl (Nat.le_of_ble_eq_true rfl) rfl rfl ?_
    refine ev_iload_n (pc' := 24) (i := 3) dX6_multiply_23 rfl rfl rfl ?_
    refine ev_iconst (pc' := 25) (v := 3) dX6_multiply_24 rfl ki_3 ?_
    refine ev_icmp_ge (tgt := 114) (pc' := 28) dX6_multiply_25 rfl rfl (fun h => absurd h (by decide)) (fun _ => ?_)
    refine ev_lload_n (pc' := 29) (i := 1) dX6_multiply_28 rfl rfl rfl ?_
    refine ev_iload_n (pc' := 30) (i := 3) dX6_multiply_29 rfl rfl rfl ?_
    refine ev_bipush (pc' := 32) (v := 30) dX6_multiply_30 rfl kb_30 ?_
    refine ev_imul (pc' := 33) (v := 0) dX6_multiply_32 rfl (by decide) ?_
    refine ev_lushr (pc' := 34) (v := lN (x / 1)) dX6_multiply_33 rfl (lN_shr0 (by omega)) ?_
    refine ev_ldc2 (pc' := 37) cl_X6_16 dX6_multiply_34 rfl ?_
    refine ev_land (pc' := 38) (v := lN ((x / 1) % 1073741824)) dX6_multiply_37 rfl (lN_and (by omega)) ?_
    obtain ⟨dd0, hdd0⟩ : ∃ dd, dd = x / W30 0 % 1073741824 := ⟨_, rfl⟩
    have hdl0 : dd0 < 1073741824 := by rw [hdd0]; exact Nat.mod_lt _ (by decide)
    refine ev_topl (fun z hz => ?_)
    have hz : z = lN dd0 := by rw [hdd0]; exact hz
    subst hz
    refine ev_lstore (pc' := 40) (lv' := [some (.ref 21), some (.long (lN x)), none, some (.int 0), some (.long (lN dd0)), none, none, none, none, none, none]) dX6_multiply_38 rfl (Nat.le_of_ble_eq_true rfl) rfl rfl ?_
    refine ev_lconst (pc' := 41) (v := 0) dX6_multiply_40 rfl kl_0 ?_
    refine ev_lstore (pc' := 43) (lv' := [some (.ref 21), some (.long (lN x)), none, some (.int 0), some (.long (lN dd0)), none, some (.long 0), none, none, none, none]) dX6_multiply_41 rfl (Nat.le_of_ble_eq_true rfl) rfl rfl ?_
    refine ev_iconst (pc' := 44) (v := 0) dX6_multiply_43 rfl ki_0 ?_
    refine ev_istore (pc' := 46) (lv' := [some (.ref 21), some (.long (lN x)), none, some (.int 0), some (.long (lN dd0)), none, some (.long 0), none, some (.int 0), none, none]) dX6_multiply_44 rfl (Nat.le_of_ble_eq_true rfl) rfl rfl ?_
    suffices li0 : ∀ (d k c : Nat) (Y0 : Nat → Int64), k + d + 0 = 6 → c = bgA (n * (x % W30 0)) n dd0 0 k / W30 (k + 0) → (∀ j, j < 6 → Y0 j = lN (dg (if j < k + 0 then bgA (n * (x % W30 0)) n dd0 0 k else (n * (x % W30 0))) j)) → EV g yX6_multiply cX6_multiply 11 none rX6_multiply (ma_ZM g rX6_multiply Post) 46 [some (.ref 21), some (.long (lN x)), none, some (.int 0), some (.long (lN dd0)), none, some (.long (lN c)), none, some (.int (nI k)), none, none] [] HS I (ma_up (ma_up L 23 Y0) 22 (L 22)) RF 146 0 0 by
      refine li0 (6 - 0) 0 0 X (by omega) (by rw [bgA_0, Nat.zero_add]; exact (Nat.div_eq_of_lt (Nat.mod_lt _ (W30_pos _))).symm) (fun j hj => ?_)
      rw [hY0 j hj]
      by_cases q : j < 0 + 0
      · rw [if_pos q, bgA_0, mod_dg _ (by omega)]
      · rw [if_neg q]
    intro d0x
    induction d0x with
    | zero =>
      intro k c Y0 hk hc hY2
      have hY1 : cB6 Y0 (n * (x % W30 1)) := fun j hj => by rw [← bg_dig, ← hdd0, bgA_endN _ _ _ _ k 6 (by omega) hj, hY2 j hj, if_pos (by omega)]
      refine ev_iload (pc' := 48) dX6_multiply_46 rfl rfl ?_
      refine ev_iload_n (pc' := 49) (i := 3) dX6_multiply_48 rfl rfl rfl ?_
      refine ev_iadd (pc' := 50) (v := nI (k + 0)) dX6_multiply_49 rfl (nI_add k 0) ?_
      refine ev_bipush (pc' := 52) (v := 6) dX6_multiply_50 rfl kb_6 ?_
      refine ev_icmp_ge (tgt := 108) (pc' := 55) dX6_multiply_52 rfl rfl (fun _ => ?_) (fun h => absurd (nx_le (a := 6) (b := (k + 0)) (by omega) (by omega)) h)
      refine ev_iinc (pc' := 111) (v := 1) (lv' := [some (.ref 21), some (.long (lN x)), none, some (.int 1), some (.long (lN dd0)), none, some (.long (lN c)), none, some (.int (nI k)), none, none]) dX6_multiply_108 rfl rfl (by decide) (Nat.le_of_ble_eq_true rfl) rfl rfl ?_
      refine ev_goto (tgt := 23) dX6_multiply_111 rfl ?_
      refine ev_iload_n (pc' := 24) (i := 3) dX6_multiply_23 rfl rfl rfl ?_
      refine ev_iconst (pc' := 25) (v := 3) dX6_multiply_24 rfl ki_3 ?_
      refine ev_icmp_ge (tgt := 114) (pc' := 28) dX6_multiply_25 rfl rfl (fun h => absurd h (by decide)) (fun _ => ?_)
      refine ev_lload_n (pc' := 29) (i := 1) dX6_multiply_28 rfl rfl rfl ?_
      refine ev_iload_n (pc' := 30) (i := 3) dX6_multiply_29 rfl rfl rfl ?_
      refine ev_bipush (pc' := 32) (v := 30) dX6_multiply_30 rfl kb_30 ?_
      refine ev_imul (pc' := 33) (v := 30) dX6_multiply_32 rfl (by decide) ?_
      refine ev_lushr (pc' := 34) (v := lN (x / 1073741824)) dX6_multiply_33 rfl (lN_shr30 (by omega)) ?_
      refine ev_ldc2 (pc' := 37) cl_X6_16 dX6_multiply_34 rfl ?_
      refine ev_land (pc' := 38) (v := lN ((x / 1073741824) % 1073741824)) dX6_multiply_37 rfl (lN_and (by omega)) ?_
      obtain ⟨dd1, hdd1⟩ : ∃ dd, dd = x / W30 1 % 1073741824 := ⟨_, rfl⟩
      have hdl1 : dd1 < 1073741824 := by rw [hdd1]; exact Nat.mod_lt _ (by decide)
      refine ev_topl (fun z hz => ?_)
      have hz : z = lN dd1 := by rw [hdd1]; exact hz
      subst hz
      refine ev_lstore (pc' := 40) (lv' := [some (.ref 21), some (.long (lN x)), none, some (.int 1), some (.long (lN dd1)), none, some (.long (lN c)), none, some (.int (nI k)), none, none]) dX6_multiply_38 rfl (Nat.le_of_ble_eq_true rfl) rfl rfl ?_
      refine ev_lconst (pc' := 41) (v := 0) dX6_multiply_40 rfl kl_0 ?_
      refine ev_lstore (pc' := 43) (lv' := [some (.ref 21), some (.long (lN x)), none, some (.int 1), some (.long (lN dd1)), none, some (.long 0), none, some (.int (nI k)), none, none]) dX6_multiply_41 rfl (Nat.le_of_ble_eq_true rfl) rfl rfl ?_
      refine ev_iconst (pc' := 44) (v := 0) dX6_multiply_43 rfl ki_0 ?_
      refine ev_istore (pc' := 46) (lv' := [some (.ref 21), some (.long (lN x)), none, some (.int 1), some (.long (lN dd1)), none, some (.long 0), none, some (.int 0), none, none]) dX6_multiply_44 rfl (Nat.le_of_ble_eq_true rfl) rfl rfl ?_
      suffices li1 : ∀ (d k c : Nat) (Y1 : Nat → Int64), k + d + 1 = 6 → c = bgA (n * (x % W30 1)) n dd1 1 k / W30 (k + 1) → (∀ j, j < 6 → Y1 j = lN (dg (if j < k + 1 then bgA (n * (x % W30 1)) n dd1 1 k else (n * (x % W30 1))) j)) → EV g yX6_multiply cX6_multiply 11 none rX6_multiply (ma_ZM g rX6_multiply Post) 46 [some (.ref 21), some (.long (lN x)), none, some (.int 1), some (.long (lN dd1)), none, some (.long (lN c)), none, some (.int (nI k)), none, none] [] HS I (ma_up (ma_up L 23 Y1) 22 (L 22)) RF 146 0 0 by
        refine li1 (6 - 1) 0 0 Y0 (by omega) (by rw [bgA_0, Nat.zero_add]; exact (Nat.div_eq_of_lt (Nat.mod_lt _ (W30_pos _))).symm) (fun j hj => ?_)
        rw [hY1 j hj]
        by_cases q : j < 0 + 1
        · rw [if_pos q, bgA_0, mod_dg _ (by omega)]
        · rw [if_neg q]
      intro d1x
      induction d1x with
      | zero =>
        intro k c Y1 hk hc hY2
        have hY2 : cB6 Y1 (n * (x % W30 2)) := fun j hj => by rw [← bg_dig, ← hdd1, bgA_endN _ _ _ _ k 6 (by omega) hj, hY2 j hj, if_pos (by omega)]
        refine ev_iload (pc' := 48) dX6_multiply_46 rfl rfl ?_
        refine ev_iload_n (pc' := 49) (i := 3) dX6_multiply_48 rfl rfl rfl ?_
        refine ev_iadd (pc' := 50) (v := nI (k + 1)) dX6_multiply_49 rfl (nI_add k 1) ?_
        refine ev_bipush (pc' := 52) (v := 6) dX6_multiply_50 rfl kb_6 ?_
        refine ev_icmp_ge (tgt := 108) (pc' := 55) dX6_multiply_52 rfl rfl (fun _ => ?_) (fun h => absurd (nx_le (a := 6) (b := (k + 1)) (by omega) (by omega)) h)
        refine ev_iinc (pc' := 111) (v := 2) (lv' := [some (.ref 21), some (.long (lN x)), none, some (.int 2), some (.long (lN dd1)), none, some (.long (lN c)), none, some (.int (nI k)), none, none]) dX6_multiply_108 rfl rfl (by decide) (Nat.le_of_ble_eq_true rfl) rfl rfl ?_
        refine ev_goto (tgt := 23) dX6_multiply_111 rfl ?_
        refine ev_iload_n (pc' := 24) (i := 3) dX6_multiply_23 rfl rfl rfl ?_
        refine ev_iconst (pc' := 25) (v := 3) dX6_multiply_24 rfl ki_3 ?_
        refine ev_icmp_ge (tgt := 114) (pc' := 28) dX6_multiply_25 rfl rfl (fun h => absurd h (by decide)) (fun _ => ?_)
        refine ev_lload_n (pc' := 29) (i := 1) dX6_multiply_28 rfl rfl rfl ?_
        refine ev_iload_n (pc' := 30) (i := 3) dX6_multiply_29 rfl rfl rfl ?_
        refine ev_bipush (pc' := 32) (v := 30) dX6_multiply_30 rfl kb_30 ?_
        refine ev_imul (pc' := 33) (v := 60) dX6_multiply_32 rfl (by decide) ?_
        refine ev_lushr (pc' := 34) (v := lN (x / 1152921504606846976)) dX6_multiply_33 rfl (lN_shr60 (by omega)) ?_
        refine ev_ldc2 (pc' := 37) cl_X6_16 dX6_multiply_34 rfl ?_
        refine ev_land (pc' := 38) (v := lN ((x / 1152921504606846976) % 1073741824)) dX6_multiply_37 rfl (lN_and (by omega)) ?_
        obtain ⟨dd2, hdd2⟩ : ∃ dd, dd = x / W30 2 % 1073741824 := ⟨_, rfl⟩
        have hdl2 : dd2 < 1073741824 := by rw [hdd2]; exact Nat.mod_lt _ (by decide)
        refine ev_topl (fun z hz => ?_)
        have hz : z = lN dd2 := by rw [hdd2]; exact hz
        subst hz
        refine ev_lstore (pc' := 40) (lv' := [some (.ref 21), some (.long (lN x)), none, some (.int 2), some (.long (lN dd2)), none, some (.long (lN c)), none, some (.int (nI k)), none, none]) dX6_multiply_38 rfl (Nat.le_of_ble_eq_true rfl) rfl rfl ?_
        refine ev_lconst (pc' := 41) (v := 0) dX6_multiply_40 rfl kl_0 ?_
        refine ev_lstore (pc' := 43) (lv' := [some (.ref 21), some (.long (lN x)), none, some (.int 2), some (.long (lN dd2)), none, some (.long 0), none, some (.int (nI k)), none, none]) dX6_multiply_41 rfl (Nat.le_of_ble_eq_true rfl) rfl rfl ?_
        refine ev_iconst (pc' := 44) (v := 0) dX6_multiply_43 rfl ki_0 ?_
        refine ev_istore (pc' := 46) (lv' := [some (.ref 21), some (.long (lN x)), none, some (.int 2), some (.long (lN dd2)), none, some (.long 0), none, some (.int 0), none, none]) dX6_multiply_44 rfl (Nat.le_of_ble_eq_true rfl) rfl rfl ?_
        suffices li2 : ∀ (d k c : Nat) (Y2 : Nat → Int64), k + d + 2 = 6 → c = bgA (n * (x % W30 2)) n dd2 2 k / W30 (k + 2) → (∀ j, j < 6 → Y2 j = lN (dg (if j < k + 2 then bgA (n * (x % W30 2)) n dd2 2 k else (n * (x % W30 2))) j)) → EV g yX6_multiply cX6_multiply 11 none rX6_multiply (ma_ZM g rX6_multiply Post) 46 [some (.ref 21), some (.long (lN x)), none, some (.int 2), some (.long (lN dd2)), none, some (.long (lN c)), none, some (.int (nI k)), none, none] [] HS I (ma_up (ma_up L 23 Y2) 22 (L 22)) RF 146 0 0 by
          refine li2 (6 - 2) 0 0 Y1 (by omega) (by rw [bgA_0, Nat.zero_add]; exact (Nat.div_eq_of_lt (Nat.mod_lt _ (W30_pos _))).symm) (fun j hj => ?_)
          rw [hY2 j hj]
          by_cases q : j < 0 + 2
          · rw [if_pos q, bgA_0, mod_dg _ (by omega)]
          · rw [if_neg q]
        intro d2x
        induction d2x with
        | zero =>
          intro k c Y2 hk hc hY2
          have hY3 : cB6 Y2 (n * (x % W30 3)) := fun j hj => by rw [← bg_dig, ← hdd2, bgA_endN _ _ _ _ k 6 (by omega) hj, hY2 j hj, if_pos (by omega)]
          refine ev_iload (pc' := 48) dX6_multiply_46 rfl rfl ?_
          refine ev_iload_n (pc' := 49) (i := 3) dX6_multiply_48 rfl rfl rfl ?_
          refine ev_iadd (pc' := 50) (v := nI (k + 2)) dX6_multiply_49 rfl (nI_add k 2) ?_
          refine ev_bipush (pc' := 52) (v := 6) dX6_multiply_50 rfl kb_6 ?_
          refine ev_icmp_ge (tgt := 108) (pc' := 55) dX6_multiply_52 rfl rfl (fun _ => ?_) (fun h => absurd (nx_le (a := 6) (b := (k + 2)) (by omega) (by omega)) h)
          refine ev_iinc (pc' := 111) (v := 3) (lv' := [some (.ref 21), some (.long (lN x)), none, some (.int 3), some (.long (lN dd2)), none, some (.long (lN c)), none, some (.int (nI k)), none, none]) dX6_multiply_108 rfl rfl (by decide) (Nat.le_of_ble_eq_true rfl) rfl rfl ?_
          refine ev_goto (tgt := 23) dX6_multiply_111 rfl ?_
          refine ev_iload_n (pc' := 24) (i := 3) dX6_multiply_23 rfl rfl rfl ?_
          refine ev_iconst (pc' := 25) (v := 3) dX6_multiply_24 rfl ki_3 ?_
          refine ev_icmp_ge (tgt := 114) (pc' := 28) dX6_multiply_25 rfl rfl (fun _ => ?_) (fun h => absurd (by decide) h)
          refine ev_iconst (pc' := 115) (v := 0) dX6_multiply_114 rfl ki_0 ?_
          refine ev_istore_n (pc' := 116) (i := 3) (lv' := [some (.ref 21), some (.long (lN x)), none, some (.int 0), some (.long (lN dd2)), none, some (.long (lN c)), none, some (.int (nI k)), none, none]) dX6_multiply_115 rfl rfl (Nat.le_of_ble_eq_true rfl) rfl rfl ?_
          have hY : cB6 Y2 (n * x) := by rw [Nat.mod_eq_of_lt (Nat.lt_of_lt_of_le hx (show 9223372036854775808 ≤ W30 3 by decide))] at hY3; exact hY3
          suffices lc : ∀ (d k : Nat) (Z : Nat → Int64), k + d = 6 → (∀ j, j < k → Z j = lN (dg (n * x) j)) → EV g yX6_multiply cX6_multiply 11 none rX6_multiply (ma_ZM g rX6_multiply Post) 116 [some (.ref 21), some (.long (lN x)), none, some (.int (nI k)), none, none, none, none, none, none, none] [] HS I (ma_up (ma_up L 23 Y2) 22 Z) RF 146 0 0 by
            refine ev_lvw (lv' := [some (.ref 21), some (.long (lN x)), none, some (.int 0), none, none, none, none, none, none, none]) ⟨rfl, ⟨rfl, ⟨rfl, trivial⟩⟩⟩ ?_
            exact lc 6 0 (L 22) rfl (fun j hj => absurd hj (Nat.not_lt_zero j))
          intro d3
          induction d3 with
          | zero =>
            intro k Z hk hZ
            obtain rfl : k = 6 := by omega
            refine ev_iload_n (pc' := 117) (i := 3) dX6_multiply_116 rfl rfl rfl ?_
            refine ev_bipush (pc' := 119) (v := 6) dX6_multiply_117 rfl kb_6 ?_
            refine ev_icmp_ge (tgt := 140) (pc' := 122) dX6_multiply_119 rfl rfl (fun _ => ?_) (fun h => absurd (nx_le (a := 6) (b := 6) (by omega) (by omega)) h)
            refine ev_vret dX6_multiply_140 rfl ⟨Nat.le_refl _, Nat.le_refl _⟩ ?_
            exact k0 Y2 Z hZ
          | succ d3 ih3 =>
            intro k Z hk hZ
            refine ev_iload_n (pc' := 117) (i := 3) dX6_multiply_116 rfl rfl rfl ?_
            refine ev_bipush (pc' := 119) (v := 6) dX6_multiply_117 rfl kb_6 ?_
            refine ev_icmp_ge (tgt := 140) (pc' := 122) dX6_multiply_119 rfl rfl (fun h => absurd h (nx_nle (a := 6) (b := k) (by omega) (by omega))) (fun _ => ?_)
            refine ev_aload_n (pc' := 123) (i := 0) dX6_multiply_122 rfl rfl rfl ?_
            refine ev_getR (pc' := 126) fo_X6_9 dX6_multiply_123 rfl hs_21 rfl rf_21_0 ?_
            refine ev_iload_n (pc' := 127) (i := 3) dX6_multiply_126 rfl rfl rfl ?_
            refine ev_aload_n (pc' := 128) (i := 0) dX6_multiply_127 rfl rfl rfl ?_
            refine ev_getR (pc' := 131) fo_X6_13 dX6_multiply_128 rfl hs_21 rfl rf_21_1 ?_
            refine ev_iload_n (pc' := 132) (i := 3) dX6_multiply_131 rfl rfl rfl ?_
            refine ev_lald (pc' := 133) (j := k) (v := Y2 k) dX6_multiply_132 rfl hs_23 rfl (by omega) (Nat.le_of_ble_eq_true rfl) rfl ?_
            refine ev_last (pc' := 134) (j := k) (L' := (ma_up (ma_up L 23 Y2) 22 (ma_up Z k (Y2 k)))) dX6_multiply_133 rfl hs_22 rfl (by omega) (Nat.le_of_ble_eq_true rfl) (ma_up_up _ _ _ _) ?_
            refine ev_iinc (pc' := 137) (v := nI (k + 1)) (lv' := [some (.ref 21), some (.long (lN x)), none, some (.int (nI (k + 1))), none, none, none, none, none, none, none]) dX6_multiply_134 rfl rfl (nI_add k 1) (Nat.le_of_ble_eq_true rfl) rfl rfl ?_
            refine ev_goto (tgt := 116) dX6_multiply_137 rfl ?_
            exact ih3 (k + 1) _ (by omega) (pt_all (fun j hj => by rw [ma_up_n _ _ (show j ≠ k by omega)]; exact hZ j hj) (by rw [ma_up_s]; exact hY k (by omega)))
        | succ d2x ih2x =>
          intro k c Y2 hk hc hY2
          obtain ⟨pp, hpp⟩ : ∃ pp, pp = dg (n * (x % W30 2)) (k + 2) := ⟨_, rfl⟩
          obtain ⟨t, ht⟩ : ∃ t, t = dg n k := ⟨_, rfl⟩
          have hp : Y2 (k + 2) = lN pp := by rw [hpp, hY2 (k + 2) (by omega), if_neg (by omega)]
          have htt : L 22 k = lN t := by rw [ht]; exact hT k (by omega)
          have hpl : pp < 1073741824 := by rw [hpp]; exact dg_lt _ _
          have htl : t < 1073741824 := by rw [ht]; exact dg_lt _ _
          have hcl : c < 1073741826 := by rw [hc]; exact bgA_c _ _ _ _ _ hdl2
          have htd : t * dd2 ≤ 1152921504606846976 := Nat.mul_le_mul (Nat.le_of_lt htl) (Nat.le_of_lt hdl2)
          refine ev_iload (pc' := 48) dX6_multiply_46 rfl rfl ?_
          refine ev_iload_n (pc' := 49) (i := 3) dX6_multiply_48 rfl rfl rfl ?_
          refine ev_iadd (pc' := 50) (v := nI (k + 2)) dX6_multiply_49 rfl (nI_add k 2) ?_
          refine ev_bipush (pc' := 52) (v := 6) dX6_multiply_50 rfl kb_6 ?_
          refine ev_icmp_ge (tgt := 108) (pc' := 55) dX6_multiply_52 rfl rfl (fun h => absurd h (nx_nle (a := 6) (b := (k + 2)) (by omega) (by omega))) (fun _ => ?_)
          refine ev_aload_n (pc' := 56) (i := 0) dX6_multiply_55 rfl rfl rfl ?_
          refine ev_getR (pc' := 59) fo_X6_13 dX6_multiply_56 rfl hs_21 rfl rf_21_1 ?_
          refine ev_iload (pc' := 61) dX6_multiply_59 rfl rfl ?_
          refine ev_iload_n (pc' := 62) (i := 3) dX6_multiply_61 rfl rfl rfl ?_
          refine ev_iadd (pc' := 63) (v := nI (k + 2)) dX6_multiply_62 rfl (nI_add k 2) ?_
          refine ev_lald (pc' := 64) (j := k + 2) (v := lN pp) dX6_multiply_63 rfl hs_23 rfl (by omega) (Nat.le_of_ble_eq_true rfl) hp ?_
          refine ev_aload_n (pc' := 65) (i := 0) dX6_multiply_64 rfl rfl rfl ?_
          refine ev_getR (pc' := 68) fo_X6_9 dX6_multiply_65 rfl hs_21 rfl rf_21_0 ?_
          refine ev_iload (pc' := 70) dX6_multiply_68 rfl rfl ?_
          refine ev_lald (pc' := 71) (j := k) (v := lN t) dX6_multiply_70 rfl hs_22 rfl (by omega) (Nat.le_of_ble_eq_true rfl) htt ?_
          refine ev_lload (pc' := 73) dX6_multiply_71 rfl rfl ?_
          refine ev_lmul (pc' := 74) (v := lN (t * dd2)) dX6_multiply_73 rfl (lN_mul t dd2) ?_
          refine ev_ladd (pc' := 75) (v := lN (pp + (t * dd2))) dX6_multiply_74 rfl (lN_add pp (t * dd2)) ?_
          refine ev_lload (pc' := 77) dX6_multiply_75 rfl rfl ?_
          refine ev_ladd (pc' := 78) (v := lN ((pp + (t * dd2)) + c)) dX6_multiply_77 rfl (lN_add (pp + (t * dd2)) c) ?_
          refine ev_lstore (pc' := 80) (lv' := [some (.ref 21), some (.long (lN x)), none, some (.int 2), some (.long (lN dd2)), none, some (.long (lN c)), none, some (.int (nI k)), some (.long (lN ((pp + (t * dd2)) + c))), none]) dX6_multiply_78 rfl (Nat.le_of_ble_eq_true rfl) rfl rfl ?_
          refine ev_aload_n (pc' := 81) (i := 0) dX6_multiply_80 rfl rfl rfl ?_
          refine ev_getR (pc' := 84) fo_X6_13 dX6_multiply_81 rfl hs_21 rfl rf_21_1 ?_
          refine ev_iload (pc' := 86) dX6_multiply_84 rfl rfl ?_
          refine ev_iload_n (pc' := 87) (i := 3) dX6_multiply_86 rfl rfl rfl ?_
          refine ev_iadd (pc' := 88) (v := nI (k + 2)) dX6_multiply_87 rfl (nI_add k 2) ?_
          refine ev_lload (pc' := 90) dX6_multiply_88 rfl rfl ?_
          refine ev_ldc2 (pc' := 93) cl_X6_16 dX6_multiply_90 rfl ?_
          refine ev_land (pc' := 94) (v := lN (((pp + (t * dd2)) + c) % 1073741824)) dX6_multiply_93 rfl (lN_and (by omega)) ?_
          refine ev_last (pc' := 95) (j := k + 2) (L' := (ma_up (ma_up L 23 (ma_up Y2 (k + 2) (lN (((pp + (t * dd2)) + c) % 1073741824)))) 22 (L 22))) dX6_multiply_94 rfl hs_23 rfl (by omega) (Nat.le_of_ble_eq_true rfl) ((ma_up_comm _ (show 23 ≠ 22 from (by decide)) _ _).trans (congrArg (fun f => ma_up f 22 _) (ma_up_up _ _ _ _))) ?_
          refine ev_lload (pc' := 97) dX6_multiply_95 rfl rfl ?_
          refine ev_bipush (pc' := 99) (v := 30) dX6_multiply_97 rfl kb_30 ?_
          refine ev_lushr (pc' := 100) (v := lN (((pp + (t * dd2)) + c) / 1073741824)) dX6_multiply_99 rfl (lN_shr30 (by omega)) ?_
          refine ev_lstore (pc' := 102) (lv' := [some (.ref 21), some (.long (lN x)), none, some (.int 2), some (.long (lN dd2)), none, some (.long (lN (((pp + (t * dd2)) + c) / 1073741824))), none, some (.int (nI k)), some (.long (lN ((pp + (t * dd2)) + c))), none]) dX6_multiply_100 rfl (Nat.le_of_ble_eq_true rfl) rfl rfl ?_
          refine ev_iinc (pc' := 105) (v := nI (k + 1)) (lv' := [some (.ref 21), some (.long (lN x)), none, some (.int 2), some (.long (lN dd2)), none, some (.long (lN (((pp + (t * dd2)) + c) / 1073741824))), none, some (.int (nI (k + 1))), some (.long (lN ((pp + (t * dd2)) + c))), none]) dX6_multiply_102 rfl rfl (nI_add k 1) (Nat.le_of_ble_eq_true rfl) rfl rfl ?_
          refine ev_goto (tgt := 46) dX6_multiply_105 rfl ?_
          refine ev_lvw (lv' := [some (.ref 21), some (.long (lN x)), none, some (.int 2), some (.long (lN dd2)), none, some (.long (lN (((pp + (t * dd2)) + c) / 1073741824))), none, some (.int (nI (k + 1))), none, none]) ⟨rfl, ⟨rfl, ⟨rfl, ⟨rfl, ⟨rfl, ⟨rfl, trivial⟩⟩⟩⟩⟩⟩ ?_
          refine ih2x (k + 1) _ _ (by omega) (by rw [hpp, ht, hc, ← bgA_div]; exact (div_W _ (k + 2)).trans (congrArg (fun z => bgA (n * (x % W30 2)) n dd2 2 (k + 1) / W30 z) (show k + 2 + 1 = k + 1 + 2 by omega))) (fun j hj => ?_)
          by_cases q : j = k + 2
          · rw [q, ma_up_s, if_pos (by omega)]; refine congrArg lN ?_; rw [hpp, ht, hc]; exact (bgA_dk (n * (x % W30 2)) n dd2 2 k).symm
          · rw [ma_up_n _ _ q, hY2 j hj]
            by_cases q2 : j < k + 2
            · rw [if_pos q2, if_pos (by omega), bgA_dg _ _ _ _ _ q2]
            · rw [if_neg q2, if_neg (by omega)]
      | succ d1x ih1x =>
        intro k c Y1 hk hc hY2
        obtain ⟨pp, hpp⟩ : ∃ pp, pp = dg (n * (x % W30 1)) (k + 1) := ⟨_, rfl⟩
        obtain ⟨t, ht⟩ : ∃ t, t = dg n k := ⟨_, rfl⟩
        have hp : Y1 (k + 1) = lN pp := by rw [hpp, hY2 (k + 1) (by omega), if_neg (by omega)]
        have htt : L 22 k = lN t := by rw [ht]; exact hT k (by omega)
        have hpl : pp < 1073741824 := by rw [hpp]; exact dg_lt _ _
        have htl : t < 1073741824 := by rw [ht]; exact dg_lt _ _
        have hcl : c < 1073741826 := by rw [hc]; exact bgA_c _ _ _ _ _ hdl1
        have htd : t * dd1 ≤ 1152921504606846976 := Nat.mul_le_mul (Nat.le_of_lt htl) (Nat.le_of_lt hdl1)
        refine ev_iload (pc' := 48) dX6_multiply_46 rfl rfl ?_
        refine ev_iload_n (pc' := 49) (i := 3) dX6_multiply_48 rfl rfl rfl ?_
        refine ev_iadd (pc' := 50) (v := nI (k + 1)) dX6_multiply_49 rfl (nI_add k 1) ?_
        refine ev_bipush (pc' := 52) (v := 6) dX6_multiply_50 rfl kb_6 ?_
        refine ev_icmp_ge (tgt := 108) (pc' := 55) dX6_multiply_52 rfl rfl (fun h => absurd h (nx_nle (a := 6) (b := (k + 1)) (by omega) (by omega))) (fun _ => ?_)
        refine ev_aload_n (pc' := 56) (i := 0) dX6_multiply_55 rfl rfl rfl ?_
        refine ev_getR (pc' := 59) fo_X6_13 dX6_multiply_56 rfl hs_21 rfl rf_21_1 ?_
        refine ev_iload (pc' := 61) dX6_multiply_59 rfl rfl ?_
        refine ev_iload_n (pc' := 62) (i := 3) dX6_multiply_61 rfl rfl rfl ?_
        refine ev_iadd (pc' := 63) (v := nI (k + 1)) dX6_multiply_62 rfl (nI_add k 1) ?_
        refine ev_lald (pc' := 64) (j := k + 1) (v := lN pp) dX6_multiply_63 rfl hs_23 rfl (by omega) (Nat.le_of_ble_eq_true rfl) hp ?_
        refine ev_aload_n (pc' := 65) (i := 0) dX6_multiply_64 rfl rfl rfl ?_
        refine ev_getR (pc' := 68) fo_X6_9 dX6_multiply_65 rfl hs_21 rfl rf_21_0 ?_
        refine ev_iload (pc' := 70) dX6_multiply_68 rfl rfl ?_
        refine ev_lald (pc' := 71) (j := k) (v := lN t) dX6_multiply_70 rfl hs_22 rfl (by omega) (Nat.le_of_ble_eq_true rfl) htt ?_
        refine ev_lload (pc' := 73) dX6_multiply_71 rfl rfl ?_
        refine ev_lmul (pc' := 74) (v := lN (t * dd1)) dX6_multiply_73 rfl (lN_mul t dd1) ?_
        refine ev_ladd (pc' := 75) (v := lN (pp + (t * dd1))) dX6_multiply_74 rfl (lN_add pp (t * dd1)) ?_
        refine ev_lload (pc' := 77) dX6_multiply_75 rfl rfl ?_
        refine ev_ladd (pc' := 78) (v := lN ((pp + (t * dd1)) + c)) dX6_multiply_77 rfl (lN_add (pp + (t * dd1)) c) ?_
        refine ev_lstore (pc' := 80) (lv' := [some (.ref 21), some (.long (lN x)), none, some (.int 1), some (.long (lN dd1)), none, some (.long (lN c)), none, some (.int (nI k)), some (.long (lN ((pp + (t * dd1)) + c))), none]) dX6_multiply_78 rfl (Nat.le_of_ble_eq_true rfl) rfl rfl ?_
        refine ev_aload_n (pc' := 81) (i := 0) dX6_multiply_80 rfl rfl rfl ?_
        refine ev_getR (pc' := 84) fo_X6_13 dX6_multiply_81 rfl hs_21 rfl rf_21_1 ?_
        refine ev_iload (pc' := 86) dX6_multiply_84 rfl rfl ?_
        refine ev_iload_n (pc' := 87) (i := 3) dX6_multiply_86 rfl rfl rfl ?_
        refine ev_iadd (pc' := 88) (v := nI (k + 1)) dX6_multiply_87 rfl (nI_add k 1) ?_
        refine ev_lload (pc' := 90) dX6_multiply_88 rfl rfl ?_
        refine ev_ldc2 (pc' := 93) cl_X6_16 dX6_multiply_90 rfl ?_
        refine ev_land (pc' := 94) (v := lN (((pp + (t * dd1)) + c) % 1073741824)) dX6_multiply_93 rfl (lN_and (by omega)) ?_
        refine ev_last (pc' := 95) (j := k + 1) (L' := (ma_up (ma_up L 23 (ma_up Y1 (k + 1) (lN (((pp + (t * dd1)) + c) % 1073741824)))) 22 (L 22))) dX6_multiply_94 rfl hs_23 rfl (by omega) (Nat.le_of_ble_eq_true rfl) ((ma_up_comm _ (show 23 ≠ 22 from (by decide)) _ _).trans (congrArg (fun f => ma_up f 22 _) (ma_up_up _ _ _ _))) ?_
        refine ev_lload (pc' := 97) dX6_multiply_95 rfl rfl ?_
        refine ev_bipush (pc' := 99) (v := 30) dX6_multiply_97 rfl kb_30 ?_
        refine ev_lushr (pc' := 100) (v := lN (((pp + (t * dd1)) + c) / 1073741824)) dX6_multiply_99 rfl (lN_shr30 (by omega)) ?_
        refine ev_lstore (pc' := 102) (lv' := [some (.ref 21), some (.long (lN x)), none, some (.int 1), some (.long (lN dd1)), none, some (.long (lN (((pp + (t * dd1)) + c) / 1073741824))), none, some (.int (nI k)), some (.long (lN ((pp + (t * dd1)) + c))), none]) dX6_multiply_100 rfl (Nat.le_of_ble_eq_true rfl) rfl rfl ?_
        refine ev_iinc (pc' := 105) (v := nI (k + 1)) (lv' := [some (.ref 21), some (.long (lN x)), none, some (.int 1), some (.long (lN dd1)), none, some (.long (lN (((pp + (t * dd1)) + c) / 1073741824))), none, some (.int (nI (k + 1))), some (.long (lN ((pp + (t * dd1)) + c))), none]) dX6_multiply_102 rfl rfl (nI_add k 1) (Nat.le_of_ble_eq_true rfl) rfl rfl ?_
        refine ev_goto (tgt := 46) dX6_multiply_105 rfl ?_
        refine ev_lvw (lv' := [some (.ref 21), some (.long (lN x)), none, some (.int 1), some (.long (lN dd1)), none, some (.long (lN (((pp + (t * dd1)) + c) / 1073741824))), none, some (.int (nI (k + 1))), none, none]) ⟨rfl, ⟨rfl, ⟨rfl, ⟨rfl, ⟨rfl, ⟨rfl, trivial⟩⟩⟩⟩⟩⟩ ?_
        refine ih1x (k + 1) _ _ (by omega) (by rw [hpp, ht, hc, ← bgA_div]; exact (div_W _ (k + 1)).trans (congrArg (fun z => bgA (n * (x % W30 1)) n dd1 1 (k + 1) / W30 z) (show k + 1 + 1 = k + 1 + 1 by omega))) (fun j hj => ?_)
        by_cases q : j = k + 1
        · rw [q, ma_up_s, if_pos (by omega)]; refine congrArg lN ?_; rw [hpp, ht, hc]; exact (bgA_dk (n * (x % W30 1)) n dd1 1 k).symm
        · rw [ma_up_n _ _ q, hY2 j hj]
          by_cases q2 : j < k + 1
          · rw [if_pos q2, if_pos (by omega), bgA_dg _ _ _ _ _ q2]
          · rw [if_neg q2, if_neg (by omega)]
    | succ d0x ih0x =>
      intro k c Y0 hk hc hY2
      obtain ⟨pp, hpp⟩ : ∃ pp, pp = dg (n * (x % W30 0)) (k + 0) := ⟨_, rfl⟩
      obtain ⟨t, ht⟩ : ∃ t, t = dg n k := ⟨_, rfl⟩
      have hp : Y0 (k + 0) = lN pp := by rw [hpp, hY2 (k + 0) (by omega), if_neg (by omega)]
      have htt : L 22 k = lN t := by rw [ht]; exact hT k (by omega)
      have hpl : pp < 1073741824 := by rw [hpp]; exact dg_lt _ _
      have htl : t < 1073741824 := by rw [ht]; exact dg_lt _ _
      have hcl : c < 1073741826 := by rw [hc]; exact bgA_c _ _ _ _ _ hdl0
      have htd : t * dd0 ≤ 1152921504606846976 := Nat.mul_le_mul (Nat.le_of_lt htl) (Nat.le_of_lt hdl0)
      refine ev_iload (pc' := 48) dX6_multiply_46 rfl rfl ?_
      refine ev_iload_n (pc' := 49) (i := 3) dX6_multiply_48 rfl rfl rfl ?_
      refine ev_iadd (pc' := 50) (v := nI (k + 0)) dX6_multiply_49 rfl (nI_add k 0) ?_
      refine ev_bipush (pc' := 52) (v := 6) dX6_multiply_50 rfl kb_6 ?_
      refine ev_icmp_ge (tgt := 108) (pc' := 55) dX6_multiply_52 rfl rfl (fun h => absurd h (nx_nle (a := 6) (b := (k + 0)) (by omega) (by omega))) (fun _ => ?_)
      refine ev_aload_n (pc' := 56) (i := 0) dX6_multiply_55 rfl rfl rfl ?_
      refine ev_getR (pc' := 59) fo_X6_13 dX6_multiply_56 rfl hs_21 rfl rf_21_1 ?_
      refine ev_iload (pc' := 61) dX6_multiply_59 rfl rfl ?_
      refine ev_iload_n (pc' := 62) (i := 3) dX6_multiply_61 rfl rfl rfl ?_
      refine ev_iadd (pc' := 63) (v := nI (k + 0)) dX6_multiply_62 rfl (nI_add k 0) ?_
      refine ev_lald (pc' := 64) (j := k + 0) (v := lN pp) dX6_multiply_63 rfl hs_23 rfl (by omega) (Nat.le_of_ble_eq_true rfl) hp ?_
      refine ev_aload_n (pc' := 65) (i := 0) dX6_multiply_64 rfl rfl rfl ?_
      refine ev_getR (pc' := 68) fo_X6_9 dX6_multiply_65 rfl hs_21 rfl rf_21_0 ?_
      refine ev_iload (pc' := 70) dX6_multiply_68 rfl rfl ?_
      refine ev_lald (pc' := 71) (j := k) (v := lN t) dX6_multiply_70 rfl hs_22 rfl (by omega) (Nat.le_of_ble_eq_true rfl) htt ?_
      refine ev_lload (pc' := 73) dX6_multiply_71 rfl rfl ?_
      refine ev_lmul (pc' := 74) (v := lN (t * dd0)) dX6_multiply_73 rfl (lN_mul t dd0) ?_
      refine ev_ladd (pc' := 75) (v := lN (pp + (t * dd0))) dX6_multiply_74 rfl (lN_add pp (t * dd0)) ?_
      refine ev_lload (pc' := 77) dX6_multiply_75 rfl rfl ?_
      refine ev_ladd (pc' := 78) (v := lN ((pp + (t * dd0)) + c)) dX6_multiply_77 rfl (lN_add (pp + (t * dd0)) c) ?_
      refine ev_lstore (pc' := 80) (lv' := [some (.ref 21), some (.long (lN x)), none, some (.int 0), some (.long (lN dd0)), none, some (.long (lN c)), none, some (.int (nI k)), some (.long (lN ((pp + (t * dd0)) + c))), none]) dX6_multiply_78 rfl (Nat.le_of_ble_eq_true rfl) rfl rfl ?_
      refine ev_aload_n (pc' := 81) (i := 0) dX6_multiply_80 rfl rfl rfl ?_
      refine ev_getR (pc' := 84) fo_X6_13 dX6_multiply_81 rfl hs_21 rfl rf_21_1 ?_
      refine ev_iload (pc' := 86) dX6_multiply_84 rfl rfl ?_
      refine ev_iload_n (pc' := 87) (i := 3) dX6_multiply_86 rfl rfl rfl ?_
      refine ev_iadd (pc' := 88) (v := nI (k + 0)) dX6_multiply_87 rfl (nI_add k 0) ?_
      refine ev_lload (pc' := 90) dX6_multiply_88 rfl rfl ?_
      refine ev_ldc2 (pc' := 93) cl_X6_16 dX6_multiply_90 rfl ?_
      refine ev_land (pc' := 94) (v := lN (((pp + (t * dd0)) + c) % 1073741824)) dX6_multiply_93 rfl (lN_and (by omega)) ?_
      refine ev_last (pc' := 95) (j := k + 0) (L' := (ma_up (ma_up L 23 (ma_up Y0 (k + 0) (lN (((pp + (t * dd0)) + c) % 1073741824)))) 22 (L 22))) dX6_multiply_94 rfl hs_23 rfl (by omega) (Nat.le_of_ble_eq_true rfl) ((ma_up_comm _ (show 23 ≠ 22 from (by decide)) _ _).trans (congrArg (fun f => ma_up f 22 _) (ma_up_up _ _ _ _))) ?_
      refine ev_lload (pc' := 97) dX6_multiply_95 rfl rfl ?_
      refine ev_bipush (pc' := 99) (v := 30) dX6_multiply_97 rfl kb_30 ?_
      refine ev_lushr (pc' := 100) (v := lN (((pp + (t * dd0)) + c) / 1073741824)) dX6_multiply_99 rfl (lN_shr30 (by omega)) ?_
      refine ev_lstore (pc' := 102) (lv' := [some (.ref 21), some (.long (lN x)), none, some (.int 0), some (.long (lN dd0)), none, some (.long (lN (((pp + (t * dd0)) + c) / 1073741824))), none, some (.int (nI k)), some (.long (lN ((pp + (t * dd0)) + c))), none]) dX6_multiply_100 rfl (Nat.le_of_ble_eq_true rfl) rfl rfl ?_
      refine ev_iinc (pc' := 105) (v := nI (k + 1)) (lv' := [some (.ref 21), some (.long (lN x)), none, some (.int 0), some (.long (lN dd0)), none, some (.long (lN (((pp + (t * dd0)) + c) / 1073741824))), none, some (.int (nI (k + 1))), some (.long (lN ((pp + (t * dd0)) + c))), none]) dX6_multiply_102 rfl rfl (nI_add k 1) (Nat.le_of_ble_eq_true rfl) rfl rfl ?_
      refine ev_goto (tgt := 46) dX6_multiply_105 rfl ?_
      refine ev_lvw (lv' := [some (.ref 21), some (.long (lN x)), none, some (.int 0), some (.long (lN dd0)), none, some (.long (lN (((pp + (t * dd0)) + c) / 1073741824))), none, some (.int (nI (k + 1))), none, none]) ⟨rfl, ⟨rfl, ⟨rfl, ⟨rfl, ⟨rfl, ⟨rfl, trivial⟩⟩⟩⟩⟩⟩ ?_
      refine ih0x (k + 1) _ _ (by omega) (by rw [hpp, ht, hc, ← bgA_div]; exact (div_W _ (k + 0)).trans (congrArg (fun z => bgA (n * (x % W30 0)) n dd0 0 (k + 1) / W30 z) (show k + 0 + 1 = k + 1 + 0 by omega))) (fun j hj => ?_)
      by_cases q : j = k + 0
      · rw [q, ma_up_s, if_pos (by omega)]; refine congrArg lN ?_; rw [hpp, ht, hc]; exact (bgA_dk (n * (x % W30 0)) n dd0 0 k).symm
      · rw [ma_up_n _ _ q, hY2 j hj]
        by_cases q2 : j < k + 0
        · rw [if_pos q2, if_pos (by omega), bgA_dg _ _ _ _ _ q2]
        · rw [if_neg q2, if_neg (by omega)]
  | succ d ih =>
    intro k X hk hX
    refine ev_iload_n (pc' := 3) (i := 3) dX6_multiply_2 rfl rfl rfl ?_
    refine ev_bipush (pc' := 5) (v := 6) dX6_multiply_3 rfl kb_6 ?_
    refine ev_icmp_ge (tgt := 21) (pc' := 8) dX6_multiply_5 rfl rfl (fun h => absurd h (nx_nle (a := 6) (b := k) (by omega) (by omega))) (fun _ => ?_)
    refine ev_aload_n (pc' := 9) (i := 0) dX6_multiply_8 rfl rfl rfl ?_
    refine ev_getR (pc' := 12) fo_X6_13 dX6_multiply_9 rfl hs_21 rfl rf_21_1 ?_
    refine ev_iload_n (pc' := 13) (i := 3) dX6_multiply_12 rfl rfl rfl ?_
    refine ev_lconst (pc' := 14) (v := 0) dX6_multiply_13 rfl kl_0 ?_
    refine ev_last (pc' := 15) (j := k) (L' := (ma_up (ma_up L 23 (ma_up X k 0)) 22 (L 22))) dX6_multiply_14 rfl hs_23 rfl (by omega) (Nat.le_of_ble_eq_true rfl) ((ma_up_comm _ (show 23 ≠ 22 from (by decide)) _ _).trans (congrArg (fun f => ma_up f 22 _) (ma_up_up _ _ _ _))) ?_
    refine ev_iinc (pc' := 18) (v := nI (k + 1)) (lv' := [some (.ref 21), some (.long (lN x)), none, some (.int (nI (k + 1))), none, none, none, none, none, none, none]) dX6_multiply_15 rfl rfl (nI_add k 1) (Nat.le_of_ble_eq_true rfl) rfl rfl ?_
    refine ev_goto (tgt := 2) dX6_multiply_18 rfl ?_
    exact ih (k + 1) _ (by omega) (pt_all (fun j hj => by rw [ma_up_n _ _ (show j ≠ k by omega)]; exact hX j hj) (by rw [ma_up_s]; show (0 : Int64) = lN (0 / W30 k % 1073741824); rw [Nat.zero_div]; rfl))
set_option maxRecDepth 4000 in
theorem t_X6_against {g : ma_G} {Post : ma_P} {I : ma_I} {L : ma_L} (a b : Nat) (ha : a < W30 6) (hb : b < W30 6) (hA : cB6 (L 19) a) (hB : cB6 (L 22) b) (k1 : a < b → Post (some (.int (-1))) HS I L RF 146) (k2 : a = b → Post (some (.int 0)) HS I L RF 146) (k3 : b < a → Post (some (.int 1)) HS I L RF 146) : CT g yX6_against cX6_against 3 (some .int) rX6_against [.ref 18, .ref 21] Post HS I L RF 146 := by
  have d6 : a / W30 6 = b / W30 6 := by rw [Nat.div_eq_of_lt ha, Nat.div_eq_of_lt hb]
  have dq : ∀ k, k < 6 → L 19 k = L 22 k → dg a k = dg b k := fun k hk h => by
    rw [hA k hk, hB k hk, pk_lEQ (by have := dg_lt a k; omega) (by have := dg_lt b k; omega)] at h; exact h
  refine ct_of (lv := [some (.ref 18), some (.ref 21), none]) (by decide) (Nat.le_of_ble_eq_true rfl) rfl ?_
  refine ev_iconst (pc' := 1) (v := 5) dX6_against_0 rfl ki_5 ?_
  refine ev_istore_n (pc' := 2) (i := 2) (lv' := [some (.ref 18), some (.ref 21), some (.int 5)]) dX6_against_1 rfl rfl (Nat.le_of_ble_eq_true rfl) rfl rfl ?_
  refine ev_iload_n (pc' := 3) (i := 2) dX6_against_2 rfl rfl rfl ?_
  refine ev_if_lt (tgt := 50) (pc' := 6) dX6_against_3 rfl rfl (fun h => absurd h (by decide)) (fun _ => ?_)
  refine ev_aload_n (pc' := 7) (i := 0) dX6_against_6 rfl rfl rfl ?_
  refine ev_getR (pc' := 10) fo_X6_9 dX6_against_7 rfl hs_18 rfl rf_18_0 ?_
  refine ev_iload_n (pc' := 11) (i := 2) dX6_against_10 rfl rfl rfl ?_
  refine ev_lald (pc' := 12) (j := 5) (v := (L 19) 5) dX6_against_11 rfl hs_19 rfl (Nat.le_of_ble_eq_true rfl) (Nat.le_of_ble_eq_true rfl) rfl ?_
  refine ev_aload_n (pc' := 13) (i := 1) dX6_against_12 rfl rfl rfl ?_
  refine ev_getR (pc' := 16) fo_X6_9 dX6_against_13 rfl hs_21 rfl rf_21_0 ?_
  refine ev_iload_n (pc' := 17) (i := 2) dX6_against_16 rfl rfl rfl ?_
  refine ev_lald (pc' := 18) (j := 5) (v := (L 22) 5) dX6_against_17 rfl hs_22 rfl (Nat.le_of_ble_eq_true rfl) (Nat.le_of_ble_eq_true rfl) rfl ?_
  refine ev_lc_eq (p1 := 19) (tgt := 44) (pc' := 22) dX6_against_18 rfl dX6_against_19 rfl rfl (fun c1 => ?_) (fun c1 => ?_)
  · refine ev_iinc (pc' := 47) (v := 4) (lv' := [some (.ref 18), some (.ref 21), some (.int 4)]) dX6_against_44 rfl rfl (by decide) (Nat.le_of_ble_eq_true rfl) rfl rfl ?_
    refine ev_goto (tgt := 2) dX6_against_47 rfl ?_
    refine ev_iload_n (pc' := 3) (i := 2) dX6_against_2 rfl rfl rfl ?_
    refine ev_if_lt (tgt := 50) (pc' := 6) dX6_against_3 rfl rfl (fun h => absurd h (by decide)) (fun _ => ?_)
    refine ev_aload_n (pc' := 7) (i := 0) dX6_against_6 rfl rfl rfl ?_
    refine ev_getR (pc' := 10) fo_X6_9 dX6_against_7 rfl hs_18 rfl rf_18_0 ?_
    refine ev_iload_n (pc' := 11) (i := 2) dX6_against_10 rfl rfl rfl ?_
    refine ev_lald (pc' := 12) (j := 4) (v := (L 19) 4) dX6_against_11 rfl hs_19 rfl (Nat.le_of_ble_eq_true rfl) (Nat.le_of_ble_eq_true rfl) rfl ?_
    refine ev_aload_n (pc' := 13) (i := 1) dX6_against_12 rfl rfl rfl ?_
    refine ev_getR (pc' := 16) fo_X6_9 dX6_against_13 rfl hs_21 rfl rf_21_0 ?_
    refine ev_iload_n (pc' := 17) (i := 2) dX6_against_16 rfl rfl rfl ?_
    refine ev_lald (pc' := 18) (j := 4) (v := (L 22) 4) dX6_against_17 rfl hs_22 rfl (Nat.le_of_ble_eq_true rfl) (Nat.le_of_ble_eq_true rfl) rfl ?_
    refine ev_lc_eq (p1 := 19) (tgt := 44) (pc' := 22) dX6_against_18 rfl dX6_against_19 rfl rfl (fun c2 => ?_) (fun c2 => ?_)
    · refine ev_iinc (pc' := 47) (v := 3) (lv' := [some (.ref 18), some (.ref 21), some (.int 3)]) dX6_against_44 rfl rfl (by decide) (Nat.le_of_ble_eq_true rfl) rfl rfl ?_
      refine ev_goto (tgt := 2) dX6_against_47 rfl ?_
      refine ev_iload_n (pc' := 3) (i := 2) dX6_against_2 rfl rfl rfl ?_
      refine ev_if_lt (tgt := 50) (pc' := 6) dX6_against_3 rfl rfl (fun h => absurd h (by decide)) (fun _ => ?_)
      refine ev_aload_n (pc' := 7) (i := 0) dX6_against_6 rfl rfl rfl ?_
      refine ev_getR (pc' := 10) fo_X6_9 dX6_against_7 rfl hs_18 rfl rf_18_0 ?_
      refine ev_iload_n (pc' := 11) (i := 2) dX6_against_10 rfl rfl rfl ?_
      refine ev_lald (pc' := 12) (j := 3) (v := (L 19) 3) dX6_against_11 rfl hs_19 rfl (Nat.le_of_ble_eq_true rfl) (Nat.le_of_ble_eq_true rfl) rfl ?_
      refine ev_aload_n (pc' := 13) (i := 1) dX6_against_12 rfl rfl rfl ?_
      refine ev_getR (pc' := 16) fo_X6_9 dX6_against_13 rfl hs_21 rfl rf_21_0 ?_
      refine ev_iload_n (pc' := 17) (i := 2) dX6_against_16 rfl rfl rfl ?_
      refine ev_lald (pc' := 18) (j := 3) (v := (L 22) 3) dX6_against_17 rfl hs_22 rfl (Nat.le_of_ble_eq_true rfl) (Nat.le_of_ble_eq_true rfl) rfl ?_
      refine ev_lc_eq (p1 := 19) (tgt := 44) (pc' := 22) dX6_against_18 rfl dX6_against_19 rfl rfl (fun c3 => ?_) (fun c3 => ?_)
      · refine ev_iinc (pc' := 47) (v := 2) (lv' := [some (.ref 18), some (.ref 21), some (.int 2)]) dX6_against_44 rfl rfl (by decide) (Nat.le_of_ble_eq_true rfl) rfl rfl ?_
        refine ev_goto (tgt := 2) dX6_against_47 rfl ?_
        refine ev_iload_n (pc' := 3) (i := 2) dX6_against_2 rfl rfl rfl ?_
        refine ev_if_lt (tgt := 50) (pc' := 6) dX6_against_3 rfl rfl (fun h => absurd h (by decide)) (fun _ => ?_)
        refine ev_aload_n (pc' := 7) (i := 0) dX6_against_6 rfl rfl rfl ?_
        refine ev_getR (pc' := 10) fo_X6_9 dX6_against_7 rfl hs_18 rfl rf_18_0 ?_
        refine ev_iload_n (pc' := 11) (i := 2) dX6_against_10 rfl rfl rfl ?_
        refine ev_lald (pc' := 12) (j := 2) (v := (L 19) 2) dX6_against_11 rfl hs_19 rfl (Nat.le_of_ble_eq_true rfl) (Nat.le_of_ble_eq_true rfl) rfl ?_
        refine ev_aload_n (pc' := 13) (i := 1) dX6_against_12 rfl rfl rfl ?_
        refine ev_getR (pc' := 16) fo_X6_9 dX6_against_13 rfl hs_21 rfl rf_21_0 ?_
        refine ev_iload_n (pc' := 17) (i := 2) dX6_against_16 rfl rfl rfl ?_
        refine ev_lald (pc' := 18) (j := 2) (v := (L 22) 2) dX6_against_17 rfl hs_22 rfl (Nat.le_of_ble_eq_true rfl) (Nat.le_of_ble_eq_true rfl) rfl ?_
        refine ev_lc_eq (p1 := 19) (tgt := 44) (pc' := 22) dX6_against_18 rfl dX6_against_19 rfl rfl (fun c4 => ?_) (fun c4 => ?_)
        · refine ev_iinc (pc' := 47) (v := 1) (lv' := [some (.ref 18), some (.ref 21), some (.int 1)]) dX6_against_44 rfl rfl (by decide) (Nat.le_of_ble_eq_true rfl) rfl rfl ?_
          refine ev_goto (tgt := 2) dX6_against_47 rfl ?_
          refine ev_iload_n (pc' := 3) (i := 2) dX6_against_2 rfl rfl rfl ?_
          refine ev_if_lt (tgt := 50) (pc' := 6) dX6_against_3 rfl rfl (fun h => absurd h (by decide)) (fun _ => ?_)
          refine ev_aload_n (pc' := 7) (i := 0) dX6_against_6 rfl rfl rfl ?_
          refine ev_getR (pc' := 10) fo_X6_9 dX6_against_7 rfl hs_18 rfl rf_18_0 ?_
          refine ev_iload_n (pc' := 11) (i := 2) dX6_against_10 rfl rfl rfl ?_
          refine ev_lald (pc' := 12) (j := 1) (v := (L 19) 1) dX6_against_11 rfl hs_19 rfl (Nat.le_of_ble_eq_true rfl) (Nat.le_of_ble_eq_true rfl) rfl ?_
          refine ev_aload_n (pc' := 13) (i := 1) dX6_against_12 rfl rfl rfl ?_
          refine ev_getR (pc' := 16) fo_X6_9 dX6_against_13 rfl hs_21 rfl rf_21_0 ?_
          refine ev_iload_n (pc' := 17) (i := 2) dX6_against_16 rfl rfl rfl ?_
          refine ev_lald (pc' := 18) (j := 1) (v := (L 22) 1) dX6_against_17 rfl hs_22 rfl (Nat.le_of_ble_eq_true rfl) (Nat.le_of_ble_eq_true rfl) rfl ?_
          refine ev_lc_eq (p1 := 19) (tgt := 44) (pc' := 22) dX6_against_18 rfl dX6_against_19 rfl rfl (fun c5 => ?_) (fun c5 => ?_)
          · refine ev_iinc (pc' := 47) (v := 0) (lv' := [some (.ref 18), some (.ref 21), some (.int 0)]) dX6_against_44 rfl rfl (by decide) (Nat.le_of_ble_eq_true rfl) rfl rfl ?_
            refine ev_goto (tgt := 2) dX6_against_47 rfl ?_
            refine ev_iload_n (pc' := 3) (i := 2) dX6_against_2 rfl rfl rfl ?_
            refine ev_if_lt (tgt := 50) (pc' := 6) dX6_against_3 rfl rfl (fun h => absurd h (by decide)) (fun _ => ?_)
            refine ev_aload_n (pc' := 7) (i := 0) dX6_against_6 rfl rfl rfl ?_
            refine ev_getR (pc' := 10) fo_X6_9 dX6_against_7 rfl hs_18 rfl rf_18_0 ?_
            refine ev_iload_n (pc' := 11) (i := 2) dX6_against_10 rfl rfl rfl ?_
            refine ev_lald (pc' := 12) (j := 0) (v := (L 19) 0) dX6_against_11 rfl hs_19 rfl (Nat.le_of_ble_eq_true rfl) (Nat.le_of_ble_eq_true rfl) rfl ?_
            refine ev_aload_n (pc' := 13) (i := 1) dX6_against_12 rfl rfl rfl ?_
            refine ev_getR (pc' := 16) fo_X6_9 dX6_against_13 rfl hs_21 rfl rf_21_0 ?_
            refine ev_iload_n (pc' := 17) (i := 2) dX6_against_16 rfl rfl rfl ?_
            refine ev_lald (pc' := 18) (j := 0) (v := (L 22) 0) dX6_against_17 rfl hs_22 rfl (Nat.le_of_ble_eq_true rfl) (Nat.le_of_ble_eq_true rfl) rfl ?_
            refine ev_lc_eq (p1 := 19) (tgt := 44) (pc' := 22) dX6_against_18 rfl dX6_against_19 rfl rfl (fun c6 => ?_) (fun c6 => ?_)
            · refine ev_iinc (pc' := 47) (v := (-1)) (lv' := [some (.ref 18), some (.ref 21), some (.int (-1))]) dX6_against_44 rfl rfl (by decide) (Nat.le_of_ble_eq_true rfl) rfl rfl ?_
              refine ev_goto (tgt := 2) dX6_against_47 rfl ?_
              refine ev_iload_n (pc' := 3) (i := 2) dX6_against_2 rfl rfl rfl ?_
              refine ev_if_lt (tgt := 50) (pc' := 6) dX6_against_3 rfl rfl (fun _ => ?_) (fun h => absurd (by decide) h)
              refine ev_iconst (pc' := 51) (v := 0) dX6_against_50 rfl ki_0 ?_
              refine ev_iret dX6_against_51 rfl rfl ⟨Nat.le_refl _, Nat.le_refl _⟩ ?_
              have d5 := cmp_eq d6 (dq 5 (by omega) c1)
              have d4 := cmp_eq d5 (dq 4 (by omega) c2)
              have d3 := cmp_eq d4 (dq 3 (by omega) c3)
              have d2 := cmp_eq d3 (dq 2 (by omega) c4)
              have d1 := cmp_eq d2 (dq 1 (by omega) c5)
              have d0 := cmp_eq d1 (dq 0 (by omega) c6)
              rw [show W30 0 = 1 from rfl, Nat.div_one, Nat.div_one] at d0
              exact k2 d0
            · refine ev_aload_n (pc' := 23) (i := 0) dX6_against_22 rfl rfl rfl ?_
              refine ev_getR (pc' := 26) fo_X6_9 dX6_against_23 rfl hs_18 rfl rf_18_0 ?_
              refine ev_iload_n (pc' := 27) (i := 2) dX6_against_26 rfl rfl rfl ?_
              refine ev_lald (pc' := 28) (j := 0) (v := (L 19) 0) dX6_against_27 rfl hs_19 rfl (Nat.le_of_ble_eq_true rfl) (Nat.le_of_ble_eq_true rfl) rfl ?_
              refine ev_aload_n (pc' := 29) (i := 1) dX6_against_28 rfl rfl rfl ?_
              refine ev_getR (pc' := 32) fo_X6_9 dX6_against_29 rfl hs_21 rfl rf_21_0 ?_
              refine ev_iload_n (pc' := 33) (i := 2) dX6_against_32 rfl rfl rfl ?_
              refine ev_lald (pc' := 34) (j := 0) (v := (L 22) 0) dX6_against_33 rfl hs_22 rfl (Nat.le_of_ble_eq_true rfl) (Nat.le_of_ble_eq_true rfl) rfl ?_
              refine ev_lc_le (p1 := 35) (tgt := 42) (pc' := 38) dX6_against_34 rfl dX6_against_35 rfl rfl (fun c7 => ?_) (fun c7 => ?_)
              · refine ev_iconst (pc' := 43) (v := (-1)) dX6_against_42 rfl ki_m1 ?_
                refine ev_iret dX6_against_43 rfl rfl ⟨Nat.le_refl _, Nat.le_refl _⟩ ?_
                have d5 := cmp_eq d6 (dq 5 (by omega) c1)
                have d4 := cmp_eq d5 (dq 4 (by omega) c2)
                have d3 := cmp_eq d4 (dq 3 (by omega) c3)
                have d2 := cmp_eq d3 (dq 2 (by omega) c4)
                have d1 := cmp_eq d2 (dq 1 (by omega) c5)
                have hn : ¬ dg a 0 = dg b 0 := fun q => c6 (by rw [hA 0 (by omega), hB 0 (by omega), q])
                have hle := c7
                rw [hA 0 (by omega), hB 0 (by omega), pk_lLE (by have := dg_lt a 0; omega) (by have := dg_lt b 0; omega)] at hle
                exact k1 (cmp_lt d1 (by omega))
              · refine ev_iconst (pc' := 39) (v := 1) dX6_against_38 rfl ki_1 ?_
                refine ev_goto (tgt := 43) dX6_against_39 rfl ?_
                refine ev_iret dX6_against_43 rfl rfl ⟨Nat.le_refl _, Nat.le_refl _⟩ ?_
                have d5 := cmp_eq d6 (dq 5 (by omega) c1)
                have d4 := cmp_eq d5 (dq 4 (by omega) c2)
                have d3 := cmp_eq d4 (dq 3 (by omega) c3)
                have d2 := cmp_eq d3 (dq 2 (by omega) c4)
                have d1 := cmp_eq d2 (dq 1 (by omega) c5)
                have hn : ¬ dg a 0 = dg b 0 := fun q => c6 (by rw [hA 0 (by omega), hB 0 (by omega), q])
                have hle := c7
                rw [hA 0 (by omega), hB 0 (by omega), pk_lLE (by have := dg_lt a 0; omega) (by have := dg_lt b 0; omega)] at hle
                exact k3 (cmp_lt d1.symm (by omega))
          · refine ev_aload_n (pc' := 23) (i := 0) dX6_against_22 rfl rfl rfl ?_
            refine ev_getR (pc' := 26) fo_X6_9 dX6_against_23 rfl hs_18 rfl rf_18_0 ?_
            refine ev_iload_n (pc' := 27) (i := 2) dX6_against_26 rfl rfl rfl ?_
            refine ev_lald (pc' := 28) (j := 1) (v := (L 19) 1) dX6_against_27 rfl hs_19 rfl (Nat.le_of_ble_eq_true rfl) (Nat.le_of_ble_eq_true rfl) rfl ?_
            refine ev_aload_n (pc' := 29) (i := 1) dX6_against_28 rfl rfl rfl ?_
            refine ev_getR (pc' := 32) fo_X6_9 dX6_against_29 rfl hs_21 rfl rf_21_0 ?_
            refine ev_iload_n (pc' := 33) (i := 2) dX6_against_32 rfl rfl rfl ?_
            refine ev_lald (pc' := 34) (j := 1) (v := (L 22) 1) dX6_against_33 rfl hs_22 rfl (Nat.le_of_ble_eq_true rfl) (Nat.le_of_ble_eq_true rfl) rfl ?_
            refine ev_lc_le (p1 := 35) (tgt := 42) (pc' := 38) dX6_against_34 rfl dX6_against_35 rfl rfl (fun c8 => ?_) (fun c8 => ?_)
            · refine ev_iconst (pc' := 43) (v := (-1)) dX6_against_42 rfl ki_m1 ?_
              refine ev_iret dX6_against_43 rfl rfl ⟨Nat.le_refl _, Nat.le_refl _⟩ ?_
              have d5 := cmp_eq d6 (dq 5 (by omega) c1)
              have d4 := cmp_eq d5 (dq 4 (by omega) c2)
              have d3 := cmp_eq d4 (dq 3 (by omega) c3)
              have d2 := cmp_eq d3 (dq 2 (by omega) c4)
              have hn : ¬ dg a 1 = dg b 1 := fun q => c5 (by rw [hA 1 (by omega), hB 1 (by omega), q])
              have hle := c8
              rw [hA 1 (by omega), hB 1 (by omega), pk_lLE (by have := dg_lt a 1; omega) (by have := dg_lt b 1; omega)] at hle
              exact k1 (cmp_lt d2 (by omega))
            · refine ev_iconst (pc' := 39) (v := 1) dX6_against_38 rfl ki_1 ?_
              refine ev_goto (tgt := 43) dX6_against_39 rfl ?_
              refine ev_iret dX6_against_43 rfl rfl ⟨Nat.le_refl _, Nat.le_refl _⟩ ?_
              have d5 := cmp_eq d6 (dq 5 (by omega) c1)
              have d4 := cmp_eq d5 (dq 4 (by omega) c2)
              have d3 := cmp_eq d4 (dq 3 (by omega) c3)
              have d2 := cmp_eq d3 (dq 2 (by omega) c4)
              have hn : ¬ dg a 1 = dg b 1 := fun q => c5 (by rw [hA 1 (by omega), hB 1 (by omega), q])
              have hle := c8
              rw [hA 1 (by omega), hB 1 (by omega), pk_lLE (by have := dg_lt a 1; omega) (by have := dg_lt b 1; omega)] at hle
              exact k3 (cmp_lt d2.symm (by omega))
        · refine ev_aload_n (pc' := 23) (i := 0) dX6_against_22 rfl rfl rfl ?_
          refine ev_getR (pc' := 26) fo_X6_9 dX6_against_23 rfl hs_18 rfl rf_18_0 ?_
          refine ev_iload_n (pc' := 27) (i := 2) dX6_against_26 rfl rfl rfl ?_
          refine ev_lald (pc' := 28) (j := 2) (v := (L 19) 2) dX6_against_27 rfl hs_19 rfl (Nat.le_of_ble_eq_true rfl) (Nat.le_of_ble_eq_true rfl) rfl ?_
          refine ev_aload_n (pc' := 29) (i := 1) dX6_against_28 rfl rfl rfl ?_
          refine ev_getR (pc' := 32) fo_X6_9 dX6_against_29 rfl hs_21 rfl rf_21_0 ?_
          refine ev_iload_n (pc' := 33) (i := 2) dX6_against_32 rfl rfl rfl ?_
          refine ev_lald (pc' := 34) (j := 2) (v := (L 22) 2) dX6_against_33 rfl hs_22 rfl (Nat.le_of_ble_eq_true rfl) (Nat.le_of_ble_eq_true rfl) rfl ?_
          refine ev_lc_le (p1 := 35) (tgt := 42) (pc' := 38) dX6_against_34 rfl dX6_against_35 rfl rfl (fun c9 => ?_) (fun c9 => ?_)
          · refine ev_iconst (pc' := 43) (v := (-1)) dX6_against_42 rfl ki_m1 ?_
            refine ev_iret dX6_against_43 rfl rfl ⟨Nat.le_refl _, Nat.le_refl _⟩ ?_
            have d5 := cmp_eq d6 (dq 5 (by omega) c1)
            have d4 := cmp_eq d5 (dq 4 (by omega) c2)
            have d3 := cmp_eq d4 (dq 3 (by omega) c3)
            have hn : ¬ dg a 2 = dg b 2 := fun q => c4 (by rw [hA 2 (by omega), hB 2 (by omega), q])
            have hle := c9
            rw [hA 2 (by omega), hB 2 (by omega), pk_lLE (by have := dg_lt a 2; omega) (by have := dg_lt b 2; omega)] at hle
            exact k1 (cmp_lt d3 (by omega))
          · refine ev_iconst (pc' := 39) (v := 1) dX6_against_38 rfl ki_1 ?_
            refine ev_goto (tgt := 43) dX6_against_39 rfl ?_
            refine ev_iret dX6_against_43 rfl rfl ⟨Nat.le_refl _, Nat.le_refl _⟩ ?_
            have d5 := cmp_eq d6 (dq 5 (by omega) c1)
            have d4 := cmp_eq d5 (dq 4 (by omega) c2)
            have d3 := cmp_eq d4 (dq 3 (by omega) c3)
            have hn : ¬ dg a 2 = dg b 2 := fun q => c4 (by rw [hA 2 (by omega), hB 2 (by omega), q])
            have hle := c9
            rw [hA 2 (by omega), hB 2 (by omega), pk_lLE (by have := dg_lt a 2; omega) (by have := dg_lt b 2; omega)] at hle
            exact k3 (cmp_lt d3.symm (by omega))
      · refine ev_aload_n (pc' := 23) (i := 0) dX6_against_22 rfl rfl rfl ?_
        refine ev_getR (pc' := 26) fo_X6_9 dX6_against_23 rfl hs_18 rfl rf_18_0 ?_
        refine ev_iload_n (pc' := 27) (i := 2) dX6_against_26 rfl rfl rfl ?_
        refine ev_lald (pc' := 28) (j := 3) (v := (L 19) 3) dX6_against_27 rfl hs_19 rfl (Nat.le_of_ble_eq_true rfl) (Nat.le_of_ble_eq_true rfl) rfl ?_
        refine ev_aload_n (pc' := 29) (i := 1) dX6_against_28 rfl rfl rfl ?_
        refine ev_getR (pc' := 32) fo_X6_9 dX6_against_29 rfl hs_21 rfl rf_21_0 ?_
        refine ev_iload_n (pc' := 33) (i := 2) dX6_against_32 rfl rfl rfl ?_
        refine ev_lald (pc' := 34) (j := 3) (v := (L 22) 3) dX6_against_33 rfl hs_22 rfl (Nat.le_of_ble_eq_true rfl) (Nat.le_of_ble_eq_true rfl) rfl ?_
        refine ev_lc_le (p1 := 35) (tgt := 42) (pc' := 38) dX6_against_34 rfl dX6_against_35 rfl rfl (fun c10 => ?_) (fun c10 => ?_)
        · refine ev_iconst (pc' := 43) (v := (-1)) dX6_against_42 rfl ki_m1 ?_
          refine ev_iret dX6_against_43 rfl rfl ⟨Nat.le_refl _, Nat.le_refl _⟩ ?_
          have d5 := cmp_eq d6 (dq 5 (by omega) c1)
          have d4 := cmp_eq d5 (dq 4 (by omega) c2)
          have hn : ¬ dg a 3 = dg b 3 := fun q => c3 (by rw [hA 3 (by omega), hB 3 (by omega), q])
          have hle := c10
          rw [hA 3 (by omega), hB 3 (by omega), pk_lLE (by have := dg_lt a 3; omega) (by have := dg_lt b 3; omega)] at hle
          exact k1 (cmp_lt d4 (by omega))
        · refine ev_iconst (pc' := 39) (v := 1) dX6_against_38 rfl ki_1 ?_
          refine ev_goto (tgt := 43) dX6_against_39 rfl ?_
          refine ev_iret dX6_against_43 rfl rfl ⟨Nat.le_refl _, Nat.le_refl _⟩ ?_
          have d5 := cmp_eq d6 (dq 5 (by omega) c1)
          have d4 := cmp_eq d5 (dq 4 (by omega) c2)
          have hn : ¬ dg a 3 = dg b 3 := fun q => c3 (by rw [hA 3 (by omega), hB 3 (by omega), q])
          have hle := c10
          rw [hA 3 (by omega), hB 3 (by omega), pk_lLE (by have := dg_lt a 3; omega) (by have := dg_lt b 3; omega)] at hle
          exact k3 (cmp_lt d4.symm (by omega))
    · refine ev_aload_n (pc' := 23) (i := 0) dX6_against_22 rfl rfl rfl ?_
      refine ev_getR (pc' := 26) fo_X6_9 dX6_against_23 rfl hs_18 rfl rf_18_0 ?_
      refine ev_iload_n (pc' := 27) (i := 2) dX6_against_26 rfl rfl rfl ?_
      refine ev_lald (pc' := 28) (j := 4) (v := (L 19) 4) dX6_against_27 rfl hs_19 rfl (Nat.le_of_ble_eq_true rfl) (Nat.le_of_ble_eq_true rfl) rfl ?_
      refine ev_aload_n (pc' := 29) (i := 1) dX6_against_28 rfl rfl rfl ?_
      refine ev_getR (pc' := 32) fo_X6_9 dX6_against_29 rfl hs_21 rfl rf_21_0 ?_
      refine ev_iload_n (pc' := 33) (i := 2) dX6_against_32 rfl rfl rfl ?_
      refine ev_lald (pc' := 34) (j := 4) (v := (L 22) 4) dX6_against_33 rfl hs_22 rfl (Nat.le_of_ble_eq_true rfl) (Nat.le_of_ble_eq_true rfl) rfl ?_
      refine ev_lc_le (p1 := 35) (tgt := 42) (pc' := 38) dX6_against_34 rfl dX6_against_35 rfl rfl (fun c11 => ?_) (fun c11 => ?_)
      · refine ev_iconst (pc' := 43) (v := (-1)) dX6_against_42 rfl ki_m1 ?_
        refine ev_iret dX6_against_43 rfl rfl ⟨Nat.le_refl _, Nat.le_refl _⟩ ?_
        have d5 := cmp_eq d6 (dq 5 (by omega) c1)
        have hn : ¬ dg a 4 = dg b 4 := fun q => c2 (by rw [hA 4 (by omega), hB 4 (by omega), q])
        have hle := c11
        rw [hA 4 (by omega), hB 4 (by omega), pk_lLE (by have := dg_lt a 4; omega) (by have := dg_lt b 4; omega)] at hle
        exact k1 (cmp_lt d5 (by omega))
      · refine ev_iconst (pc' := 39) (v := 1) dX6_against_38 rfl ki_1 ?_
        refine ev_goto (tgt := 43) dX6_against_39 rfl ?_
        refine ev_iret dX6_against_43 rfl rfl ⟨Nat.le_refl _, Nat.le_refl _⟩ ?_
        have d5 := cmp_eq d6 (dq 5 (by omega) c1)
        have hn : ¬ dg a 4 = dg b 4 := fun q => c2 (by rw [hA 4 (by omega), hB 4 (by omega), q])
        have hle := c11
        rw [hA 4 (by omega), hB 4 (by omega), pk_lLE (by have := dg_lt a 4; omega) (by have := dg_lt b 4; omega)] at hle
        exact k3 (cmp_lt d5.symm (by omega))
  · refine ev_aload_n (pc' := 23) (i := 0) dX6_against_22 rfl rfl rfl ?_
    refine ev_getR (pc' := 26) fo_X6_9 dX6_against_23 rfl hs_18 rfl rf_18_0 ?_
    refine ev_iload_n (pc' := 27) (i := 2) dX6_against_26 rfl rfl rfl ?_
    refine ev_lald (pc' := 28) (j := 5) (v := (L 19) 5) dX6_against_27 rfl hs_19 rfl (Nat.le_of_ble_eq_true rfl) (Nat.le_of_ble_eq_true rfl) rfl ?_
    refine ev_aload_n (pc' := 29) (i := 1) dX6_against_28 rfl rfl rfl ?_
    refine ev_getR (pc' := 32) fo_X6_9 dX6_against_29 rfl hs_21 rfl rf_21_0 ?_
    refine ev_iload_n (pc' := 33) (i := 2) dX6_against_32 rfl rfl rfl ?_
    refine ev_lald (pc' := 34) (j := 5) (v := (L 22) 5) dX6_against_33 rfl hs_22 rfl (Nat.le_of_ble_eq_true rfl) (Nat.le_of_ble_eq_true rfl) rfl ?_
    refine ev_lc_le (p1 := 35) (tgt := 42) (pc' := 38) dX6_against_34 rfl dX6_against_35 rfl rfl (fun c12 => ?_) (fun c12 => ?_)
    · refine ev_iconst (pc' := 43) (v := (-1)) dX6_against_42 rfl ki_m1 ?_
      refine ev_iret dX6_against_43 rfl rfl ⟨Nat.le_refl _, Nat.le_refl _⟩ ?_
      have hn : ¬ dg a 5 = dg b 5 := fun q => c1 (by rw [hA 5 (by omega), hB 5 (by omega), q])
      have hle := c12
      rw [hA 5 (by omega), hB 5 (by omega), pk_lLE (by have := dg_lt a 5; omega) (by have := dg_lt b 5; omega)] at hle
      exact k1 (cmp_lt d6 (by omega))
    · refine ev_iconst (pc' := 39) (v := 1) dX6_against_38 rfl ki_1 ?_
      refine ev_goto (tgt := 43) dX6_against_39 rfl ?_
      refine ev_iret dX6_against_43 rfl rfl ⟨Nat.le_refl _, Nat.le_refl _⟩ ?_
      have hn : ¬ dg a 5 = dg b 5 := fun q => c1 (by rw [hA 5 (by omega), hB 5 (by omega), q])
      have hle := c12
      rw [hA 5 (by omega), hB 5 (by omega), pk_lLE (by have := dg_lt a 5; omega) (by have := dg_lt b 5; omega)] at hle
      exact k3 (cmp_lt d6.symm (by omega))
