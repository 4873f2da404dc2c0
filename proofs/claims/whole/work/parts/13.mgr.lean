section Nm2
variable {g : ma_G} {y : MethodName} {cc : ByteArray} {nL : Nat} {ret : Option FieldType} {rm : Room} {av : List Value} {Post : ma_P} {sh : ma_S} {I : ma_I} {L : ma_L} {R : ma_R} {n : Nat}
theorem ct_memI (k : ∀ J : ma_I, J = I → CT g y cc nL ret rm av Post sh J L R n) : CT g y cc nL ret rm av Post sh I L R n := k I rfl
theorem ct_memL (k : ∀ J : ma_L, J = L → CT g y cc nL ret rm av Post sh I J R n) : CT g y cc nL ret rm av Post sh I L R n := k L rfl
end Nm2
/-- the same but for the rows A, and but for the fields B of the reference's own object -/
def mSx (A B : List Nat) (I J : ma_I) : Prop := (∀ a, a ≠ 115 → a ∉ A → J a = I a) ∧ ∀ k, k ∉ B → J 115 k = I 115 k
def mSl (A : List Nat) (L K : ma_L) : Prop := ∀ a, a ∉ A → K a = L a
theorem mSx.trans {A B A' B' : List Nat} {I J K : ma_I} (h : mSx A B I J) (h' : mSx A' B' J K) : mSx (A ++ A') (B ++ B') I K :=
  ⟨fun a h1 h2 => by rw [List.mem_append, not_or] at h2; rw [h'.1 a h1 h2.2, h.1 a h1 h2.1], fun k hk => by rw [List.mem_append, not_or] at hk; rw [h'.2 k hk.2, h.2 k hk.1]⟩
theorem mSl.trans {A A' : List Nat} {L K M : ma_L} (h : mSl A L K) (h' : mSl A' K M) : mSl (A ++ A') L M := fun a h2 => by rw [List.mem_append, not_or] at h2; rw [h' a h2.2, h a h2.1]
theorem mSl.rf {L : ma_L} : mSl [] L L := fun _ _ => rfl
theorem mSx.rf {I : ma_I} : mSx [] [] I I := ⟨fun _ _ _ => rfl, fun _ _ => rfl⟩
theorem mSx.le {A B A' B' : List Nat} {I J : ma_I} (h : mSx A B I J) (ha : ∀ a, a ∈ A → a ∈ A') (hb : ∀ a, a ∈ B → a ∈ B') : mSx A' B' I J := ⟨fun a h1 h2 => h.1 a h1 (fun q => h2 (ha a q)), fun k hk => h.2 k (fun q => hk (hb k q))⟩
theorem f_X8_layFour {g : ma_G} {Post : ma_P} {I : ma_I} {L : ma_L}   (k : ∀ (J : ma_I), (J 115 9 = mFA (L 120)) → (J 115 10 = mFB (L 120)) → (mSx [121] [9, 10] I J) → Post none HS J L RF 146) : CT g yX8_layFour cX8_layFour 7 none rX8_layFour [.ref 115] Post HS I L RF 146 := by
  refine t_X8_layFour (k _ rfl rfl (?_))
  refine ⟨fun a h1 h2 => ?_, fun k h => ?_⟩
  · simp only [List.mem_cons, List.not_mem_nil, or_false, not_or] at h2
    simp [ma_up, h1, h2]
  · simp only [List.mem_cons, List.not_mem_nil, or_false, not_or] at h
    simp [ma_up, h]
theorem f_X8_layThree {g : ma_G} {Post : ma_P} {I : ma_I} {L : ma_L}   (k : ∀ (J : ma_I), (J 115 9 = mTA (L 120)) → (J 115 10 = mTB (L 120)) → (mSx [121] [9, 10] I J) → Post none HS J L RF 146) : CT g yX8_layThree cX8_layThree 1 none rX8_layThree [.ref 115] Post HS I L RF 146 := by
  refine t_X8_layThree (k _ rfl rfl (?_))
  refine ⟨fun a h1 h2 => ?_, fun k h => ?_⟩
  · simp only [List.mem_cons, List.not_mem_nil, or_false, not_or] at h2
    simp [ma_up, h1, h2]
  · simp only [List.mem_cons, List.not_mem_nil, or_false, not_or] at h
    simp [ma_up, h]
theorem f_X8_layTable {g : ma_G} {Post : ma_P} {I : ma_I} {L : ma_L} (q : Nat) (hq : q < 12) (k : ∀ (K : ma_L), (∀ j, j < 16 → K 120 j = (I 123 (16 * q + j)).toInt64) → (mSl [120] L K) → Post none HS I K RF 146) : CT g yX8_layTable cX8_layTable 3 none rX8_layTable [.ref 115, .int (nI q)] Post HS I L RF 146 := by
  refine t_X8_layTable q hq (k _ (fun j hj => ?_) (fun a h => ?_))
  · rw [mfill_at, if_pos (by omega)]; rfl
  · simp only [List.mem_cons, List.not_mem_nil, or_false] at h; exact mfill_n _ _ _ _ h
set_option maxRecDepth 4000 in
theorem t_X8_setFacts0 {g : ma_G} {Post : ma_P} {I : ma_I} {L : ma_L}  (q : Nat) (hq : q < 12) (k1 : ∀ K1 : ma_L, (∀ j, j < 16 → K1 120 j = (I 123 (16 * q + j)).toInt64) → (mSl [120] L K1) → ∀ J4 : ma_I, (J4 115 9 = mFA (K1 120)) → (J4 115 10 = mFB (K1 120)) → (mSx [121] [9, 10] I J4) → ∀ J8 : ma_I, (J8 115 9 = mTA (K1 120)) → (J8 115 10 = mTB (K1 120)) → (mSx [121] [9, 10] J4 J8) → Post (some (.int (if ¬ (((J4 115) 9) + ((J4 115) 10)) = 4 then (if ¬ ((J4 115) 9) = 2 then (if ¬ (((J4 115) 9) + ((J4 115) 10)) = 3 then (if 3 ≤ (((J4 115) 9) + ((J4 115) 10)) then 0 else 2) else 1) else (if ¬ ((J4 115) 10) = 2 then (if ¬ (((J4 115) 9) + ((J4 115) 10)) = 3 then (if 3 ≤ (((J4 115) 9) + ((J4 115) 10)) then 0 else 2) else 1) else 4)) else (if ¬ ((J4 115) 9) = 3 then (if ¬ ((J4 115) 10) = 3 then (if ¬ ((J4 115) 9) = 2 then (if ¬ (((J4 115) 9) + ((J4 115) 10)) = 3 then (if 3 ≤ (((J4 115) 9) + ((J4 115) 10)) then 0 else 2) else 1) else (if ¬ ((J4 115) 10) = 2 then (if ¬ (((J4 115) 9) + ((J4 115) 10)) = 3 then (if 3 ≤ (((J4 115) 9) + ((J4 115) 10)) then 0 else 2) else 1) else 4)) else (if ¬ ((J8 115) 10) = 3 then (if ¬ ((J4 115) 9) = 2 then (if ¬ (((J4 115) 9) + ((J4 115) 10)) = 3 then (if 3 ≤ (((J4 115) 9) + ((J4 115) 10)) then 0 else 2) else 1) else (if ¬ ((J4 115) 10) = 2 then (if ¬ (((J4 115) 9) + ((J4 115) 10)) = 3 then (if 3 ≤ (((J4 115) 9) + ((J4 115) 10)) then 0 else 2) else 1) else 4)) else 3)) else (if ((J8 115) 9) = 3 then 3 else (if ¬ ((J4 115) 10) = 3 then (if ¬ ((J4 115) 9) = 2 then (if ¬ (((J4 115) 9) + ((J4 115) 10)) = 3 then (if 3 ≤ (((J4 115) 9) + ((J4 115) 10)) then 0 else 2) else 1) else (if ¬ ((J4 115) 10) = 2 then (if ¬ (((J4 115) 9) + ((J4 115) 10)) = 3 then (if 3 ≤ (((J4 115) 9) + ((J4 115) 10)) then 0 else 2) else 1) else 4)) else (if ¬ ((J8 115) 10) = 3 then (if ¬ ((J4 115) 9) = 2 then (if ¬ (((J4 115) 9) + ((J4 115) 10)) = 3 then (if 3 ≤ (((J4 115) 9) + ((J4 115) 10)) then 0 else 2) else 1) else (if ¬ ((J4 115) 10) = 2 then (if ¬ (((J4 115) 9) + ((J4 115) 10)) = 3 then (if 3 ≤ (((J4 115) 9) + ((J4 115) 10)) then 0 else 2) else 1) else 4)) else 3))))))) HS (ma_up J8 124 (ma_up (ma_up (ma_up (ma_up (ma_up (ma_up (ma_up (ma_up (ma_up (ma_up (J8 124) (10 * q) (if ¬ (((J4 115) 9) + ((J4 115) 10)) = 4 then (if ¬ ((J4 115) 9) = 2 then (if ¬ (((J4 115) 9) + ((J4 115) 10)) = 3 then (if 3 ≤ (((J4 115) 9) + ((J4 115) 10)) then 0 else 2) else 1) else (if ¬ ((J4 115) 10) = 2 then (if ¬ (((J4 115) 9) + ((J4 115) 10)) = 3 then (if 3 ≤ (((J4 115) 9) + ((J4 115) 10)) then 0 else 2) else 1) else 4)) else (if ¬ ((J4 115) 9) = 3 then (if ¬ ((J4 115) 10) = 3 then (if ¬ ((J4 115) 9) = 2 then (if ¬ (((J4 115) 9) + ((J4 115) 10)) = 3 then (if 3 ≤ (((J4 115) 9) + ((J4 115) 10)) then 0 else 2) else 1) else (if ¬ ((J4 115) 10) = 2 then (if ¬ (((J4 115) 9) + ((J4 115) 10)) = 3 then (if 3 ≤ (((J4 115) 9) + ((J4 115) 10)) then 0 else 2) else 1) else 4)) else (if ¬ ((J8 115) 10) = 3 then (if ¬ ((J4 115) 9) = 2 then (if ¬ (((J4 115) 9) + ((J4 115) 10)) = 3 then (if 3 ≤ (((J4 115) 9) + ((J4 115) 10)) then 0 else 2) else 1) else (if ¬ ((J4 115) 10) = 2 then (if ¬ (((J4 115) 9) + ((J4 115) 10)) = 3 then (if 3 ≤ (((J4 115) 9) + ((J4 115) 10)) then 0 else 2) else 1) else 4)) else 3)) else (if ((J8 115) 9) = 3 then 3 else (if ¬ ((J4 115) 10) = 3 then (if ¬ ((J4 115) 9) = 2 then (if ¬ (((J4 115) 9) + ((J4 115) 10)) = 3 then (if 3 ≤ (((J4 115) 9) + ((J4 115) 10)) then 0 else 2) else 1) else (if ¬ ((J4 115) 10) = 2 then (if ¬ (((J4 115) 9) + ((J4 115) 10)) = 3 then (if 3 ≤ (((J4 115) 9) + ((J4 115) 10)) then 0 else 2) else 1) else 4)) else (if ¬ ((J8 115) 10) = 3 then (if ¬ ((J4 115) 9) = 2 then (if ¬ (((J4 115) 9) + ((J4 115) 10)) = 3 then (if 3 ≤ (((J4 115) 9) + ((J4 115) 10)) then 0 else 2) else 1) else (if ¬ ((J4 115) 10) = 2 then (if ¬ (((J4 115) 9) + ((J4 115) 10)) = 3 then (if 3 ≤ (((J4 115) 9) + ((J4 115) 10)) then 0 else 2) else 1) else 4)) else 3)))))) ((10 * q) + 1) ((J4 115) 9)) ((10 * q) + 2) ((J4 115) 10)) ((10 * q) + 3) ((4 - ((J4 115) 9)) - ((J4 115) 10))) ((10 * q) + 4) ((J8 115) 9)) ((10 * q) + 5) ((J8 115) 10)) ((10 * q) + 6) ((3 - ((J8 115) 9)) - ((J8 115) 10))) ((10 * q) + 7) (Int64.toInt32 (mW (K1 120)))) ((10 * q) + 8) (Int64.toInt32 (m3 (K1 120) 0 1 2))) ((10 * q) + 9) (mNm ((J4 115) 9) ((J4 115) 10) ((J8 115) 9) ((J8 115) 10)))) K1 RF 146) : CT g yX8_setFacts cX8_setFacts 6 (some .int) rX8_setFacts [.ref 115, .int (nI q)] Post HS I L RF 146 := by
  refine ct_of (lv := [some (.ref 115), some (.int (nI q)), none, none, none, none]) (by decide) (Nat.le_of_ble_eq_true rfl) rfl ?_
  refine ev_aload_n (pc' := 1) (i := 0) dX8_setFacts_0 rfl rfl rfl ?_
  refine ev_iload_n (pc' := 2) (i := 1) dX8_setFacts_1 rfl rfl rfl ?_
  refine ev_callV (pc' := 5) (rm' := rX8_layTable) (b := 115) (av := [.int (nI q)]) (rest := []) co_X8_184 ci_X8_layTable cv_X8_layTable dX8_setFacts_2 rfl hs_115 hb_X8 rfl rfl (Nat.le_of_ble_eq_true rfl) ⟨(Nat.le_of_ble_eq_true rfl), (Nat.le_of_ble_eq_true rfl)⟩ ⟨(Nat.le_of_ble_eq_true rfl), (Nat.le_of_ble_eq_true rfl)⟩ ?_
  refine f_X8_layTable q (by omega) (fun K1 f2 f3 => ?_)
  refine ev_bipush (pc' := 7) (v := 10) dX8_setFacts_5 rfl kb_10 ?_
  refine ev_iload_n (pc' := 8) (i := 1) dX8_setFacts_7 rfl rfl rfl ?_
  refine ev_imul (pc' := 9) (v := nI (10 * q)) dX8_setFacts_8 rfl (pk_mul 10 q) ?_
  refine ev_istore_n (pc' := 10) (i := 2) (lv' := [some (.ref 115), some (.int (nI q)), some (.int (nI (10 * q))), none, none, none]) dX8_setFacts_9 rfl rfl (Nat.le_of_ble_eq_true rfl) rfl rfl ?_
  refine ev_aload_n (pc' := 11) (i := 0) dX8_setFacts_10 rfl rfl rfl ?_
  refine ev_callV (pc' := 14) (rm' := rX8_layFour) (b := 115) (av := []) (rest := []) co_X8_188 ci_X8_layFour cv_X8_layFour dX8_setFacts_11 rfl hs_115 hb_X8 rfl rfl (Nat.le_of_ble_eq_true rfl) ⟨(Nat.le_of_ble_eq_true rfl), (Nat.le_of_ble_eq_true rfl)⟩ ⟨(Nat.le_of_ble_eq_true rfl), (Nat.le_of_ble_eq_true rfl)⟩ ?_
  refine f_X8_layFour   (fun J4 f5 f6 f7 => ?_)
  refine ev_aload_n (pc' := 15) (i := 0) dX8_setFacts_14 rfl rfl rfl ?_
  refine ev_getI (pc' := 18) (v := (J4 115) 9) fo_X8_160 dX8_setFacts_15 rfl hs_115 rfl rfl ?_
  refine ev_istore_n (pc' := 19) (i := 3) (lv' := [some (.ref 115), some (.int (nI q)), some (.int (nI (10 * q))), some (.int ((J4 115) 9)), none, none]) dX8_setFacts_18 rfl rfl (Nat.le_of_ble_eq_true rfl) rfl rfl ?_
  refine ev_aload_n (pc' := 20) (i := 0) dX8_setFacts_19 rfl rfl rfl ?_
  refine ev_getI (pc' := 23) (v := (J4 115) 10) fo_X8_163 dX8_setFacts_20 rfl hs_115 rfl rfl ?_
  refine ev_istore (pc' := 25) (lv' := [some (.ref 115), some (.int (nI q)), some (.int (nI (10 * q))), some (.int ((J4 115) 9)), some (.int ((J4 115) 10)), none]) dX8_setFacts_23 rfl (Nat.le_of_ble_eq_true rfl) rfl rfl ?_
  refine ev_aload_n (pc' := 26) (i := 0) dX8_setFacts_25 rfl rfl rfl ?_
  refine ev_callV (pc' := 29) (rm' := rX8_layThree) (b := 115) (av := []) (rest := []) co_X8_191 ci_X8_layThree cv_X8_layThree dX8_setFacts_26 rfl hs_115 hb_X8 rfl rfl (Nat.le_of_ble_eq_true rfl) ⟨(Nat.le_of_ble_eq_true rfl), (Nat.le_of_ble_eq_true rfl)⟩ ⟨(Nat.le_of_ble_eq_true rfl), (Nat.le_of_ble_eq_true rfl)⟩ ?_
  refine f_X8_layThree   (fun J8 f9 f10 f11 => ?_)
  refine ev_iload_n (pc' := 30) (i := 3) dX8_setFacts_29 rfl rfl rfl ?_
  refine ev_iload (pc' := 32) dX8_setFacts_30 rfl rfl ?_
  refine ev_iadd (pc' := 33) (v := ((J4 115) 9) + ((J4 115) 10)) dX8_setFacts_32 rfl rfl ?_
  refine ev_iconst (pc' := 34) (v := 4) dX8_setFacts_33 rfl ki_4 ?_
  suffices K14 : ∀ x13 : Int32, x13 = (if ¬ (((J4 115) 9) + ((J4 115) 10)) = 4 then (if ¬ ((J4 115) 9) = 2 then (if ¬ (((J4 115) 9) + ((J4 115) 10)) = 3 then (if 3 ≤ (((J4 115) 9) + ((J4 115) 10)) then 0 else 2) else 1) else (if ¬ ((J4 115) 10) = 2 then (if ¬ (((J4 115) 9) + ((J4 115) 10)) = 3 then (if 3 ≤ (((J4 115) 9) + ((J4 115) 10)) then 0 else 2) else 1) else 4)) else (if ¬ ((J4 115) 9) = 3 then (if ¬ ((J4 115) 10) = 3 then (if ¬ ((J4 115) 9) = 2 then (if ¬ (((J4 115) 9) + ((J4 115) 10)) = 3 then (if 3 ≤ (((J4 115) 9) + ((J4 115) 10)) then 0 else 2) else 1) else (if ¬ ((J4 115) 10) = 2 then (if ¬ (((J4 115) 9) + ((J4 115) 10)) = 3 then (if 3 ≤ (((J4 115) 9) + ((J4 115) 10)) then 0 else 2) else 1) else 4)) else (if ¬ ((J8 115) 10) = 3 then (if ¬ ((J4 115) 9) = 2 then (if ¬ (((J4 115) 9) + ((J4 115) 10)) = 3 then (if 3 ≤ (((J4 115) 9) + ((J4 115) 10)) then 0 else 2) else 1) else (if ¬ ((J4 115) 10) = 2 then (if ¬ (((J4 115) 9) + ((J4 115) 10)) = 3 then (if 3 ≤ (((J4 115) 9) + ((J4 115) 10)) then 0 else 2) else 1) else 4)) else 3)) else (if ((J8 115) 9) = 3 then 3 else (if ¬ ((J4 115) 10) = 3 then (if ¬ ((J4 115) 9) = 2 then (if ¬ (((J4 115) 9) + ((J4 115) 10)) = 3 then (if 3 ≤ (((J4 115) 9) + ((J4 115) 10)) then 0 else 2) else 1) else (if ¬ ((J4 115) 10) = 2 then (if ¬ (((J4 115) 9) + ((J4 115) 10)) = 3 then (if 3 ≤ (((J4 115) 9) + ((J4 115) 10)) then 0 else 2) else 1) else 4)) else (if ¬ ((J8 115) 10) = 3 then (if ¬ ((J4 115) 9) = 2 then (if ¬ (((J4 115) 9) + ((J4 115) 10)) = 3 then (if 3 ≤ (((J4 115) 9) + ((J4 115) 10)) then 0 else 2) else 1) else (if ¬ ((J4 115) 10) = 2 then (if ¬ (((J4 115) 9) + ((J4 115) 10)) = 3 then (if 3 ≤ (((J4 115) 9) + ((J4 115) 10)) then 0 else 2) else 1) else 4)) else 3))))) → EV g yX8_setFacts cX8_setFacts 6 (some .int) rX8_setFacts (ma_ZM g rX8_setFacts Post) 108 [some (.ref 115), some (.int (nI q)), some (.int (nI (10 * q))), some (.int ((J4 115) 9)), some (.int ((J4 115) 10)), none] [.int x13] HS J8 K1 RF 146 0 0 by
    refine ev_icmp_ne (tgt := 68) (pc' := 37) dX8_setFacts_34 rfl rfl (fun c15 => ?_) (fun c15 => ?_)
    · refine ev_iload_n (pc' := 69) (i := 3) dX8_setFacts_68 rfl rfl rfl ?_
      refine ev_iconst (pc' := 70) (v := 2) dX8_setFacts_69 rfl ki_2 ?_
      refine ev_icmp_ne (tgt := 83) (pc' := 73) dX8_setFacts_70 rfl rfl (fun c16 => ?_) (fun c16 => ?_)
      · refine ev_iload_n (pc' := 84) (i := 3) dX8_setFacts_83 rfl rfl rfl ?_
        refine ev_iload (pc' := 86) dX8_setFacts_84 rfl rfl ?_
        refine ev_iadd (pc' := 87) (v := ((J4 115) 9) + ((J4 115) 10)) dX8_setFacts_86 rfl rfl ?_
        refine ev_iconst (pc' := 88) (v := 3) dX8_setFacts_87 rfl ki_3 ?_
        refine ev_icmp_ne (tgt := 95) (pc' := 91) dX8_setFacts_88 rfl rfl (fun c17 => ?_) (fun c17 => ?_)
        · refine ev_iload_n (pc' := 96) (i := 3) dX8_setFacts_95 rfl rfl rfl ?_
          refine ev_iload (pc' := 98) dX8_setFacts_96 rfl rfl ?_
          refine ev_iadd (pc' := 99) (v := ((J4 115) 9) + ((J4 115) 10)) dX8_setFacts_98 rfl rfl ?_
          refine ev_iconst (pc' := 100) (v := 3) dX8_setFacts_99 rfl ki_3 ?_
          refine ev_icmp_ge (tgt := 107) (pc' := 103) dX8_setFacts_100 rfl rfl (fun c18 => ?_) (fun c18 => ?_)
          · refine ev_iconst (pc' := 108) (v := 0) dX8_setFacts_107 rfl ki_0 ?_
            exact K14 _ (by rw [if_pos c15, if_pos c16, if_pos c17, if_pos c18])
          · refine ev_iconst (pc' := 104) (v := 2) dX8_setFacts_103 rfl ki_2 ?_
            refine ev_goto (tgt := 108) dX8_setFacts_104 rfl ?_
            exact K14 _ (by rw [if_pos c15, if_pos c16, if_pos c17, if_neg c18])
        · refine ev_iconst (pc' := 92) (v := 1) dX8_setFacts_91 rfl ki_1 ?_
          refine ev_goto (tgt := 108) dX8_setFacts_92 rfl ?_
          exact K14 _ (by rw [if_pos c15, if_pos c16, if_neg (not_not_intro c17)])
      · refine ev_iload (pc' := 75) dX8_setFacts_73 rfl rfl ?_
        refine ev_iconst (pc' := 76) (v := 2) dX8_setFacts_75 rfl ki_2 ?_
        refine ev_icmp_ne (tgt := 83) (pc' := 79) dX8_setFacts_76 rfl rfl (fun c19 => ?_) (fun c19 => ?_)
        · refine ev_iload_n (pc' := 84) (i := 3) dX8_setFacts_83 rfl rfl rfl ?_
          refine ev_iload (pc' := 86) dX8_setFacts_84 rfl rfl ?_
          refine ev_iadd (pc' := 87) (v := ((J4 115) 9) + ((J4 115) 10)) dX8_setFacts_86 rfl rfl ?_
          refine ev_iconst (pc' := 88) (v := 3) dX8_setFacts_87 rfl ki_3 ?_
          refine ev_icmp_ne (tgt := 95) (pc' := 91) dX8_setFacts_88 rfl rfl (fun c20 => ?_) (fun c20 => ?_)
          · refine ev_iload_n (pc' := 96) (i := 3) dX8_setFacts_95 rfl rfl rfl ?_
            refine ev_iload (pc' := 98) dX8_setFacts_96 rfl rfl ?_
            refine ev_iadd (pc' := 99) (v := ((J4 115) 9) + ((J4 115) 10)) dX8_setFacts_98 rfl rfl ?_
            refine ev_iconst (pc' := 100) (v := 3) dX8_setFacts_99 rfl ki_3 ?_
            refine ev_icmp_ge (tgt := 107) (pc' := 103) dX8_setFacts_100 rfl rfl (fun c21 => ?_) (fun c21 => ?_)
            · refine ev_iconst (pc' := 108) (v := 0) dX8_setFacts_107 rfl ki_0 ?_
              exact K14 _ (by rw [if_pos c15, if_neg (not_not_intro c16), if_pos c19, if_pos c20, if_pos c21])
            · refine ev_iconst (pc' := 104) (v := 2) dX8_setFacts_103 rfl ki_2 ?_
              refine ev_goto (tgt := 108) dX8_setFacts_104 rfl ?_
              exact K14 _ (by rw [if_pos c15, if_neg (not_not_intro c16), if_pos c19, if_pos c20, if_neg c21])
          · refine ev_iconst (pc' := 92) (v := 1) dX8_setFacts_91 rfl ki_1 ?_
            refine ev_goto (tgt := 108) dX8_setFacts_92 rfl ?_
            exact K14 _ (by rw [if_pos c15, if_neg (not_not_intro c16), if_pos c19, if_neg (not_not_intro c20)])
        · refine ev_iconst (pc' := 80) (v := 4) dX8_setFacts_79 rfl ki_4 ?_
          refine ev_goto (tgt := 108) dX8_setFacts_80 rfl ?_
          exact K14 _ (by rw [if_pos c15, if_neg (not_not_intro c16), if_neg (not_not_intro c19)])
    · refine ev_iload_n (pc' := 38) (i := 3) dX8_setFacts_37 rfl rfl rfl ?_
      refine ev_iconst (pc' := 39) (v := 3) dX8_setFacts_38 rfl ki_3 ?_
      refine ev_icmp_ne (tgt := 50) (pc' := 42) dX8_setFacts_39 rfl rfl (fun c22 => ?_) (fun c22 => ?_)
      · refine ev_iload (pc' := 52) dX8_setFacts_50 rfl rfl ?_
        refine ev_iconst (pc' := 53) (v := 3) dX8_setFacts_52 rfl ki_3 ?_
        refine ev_icmp_ne (tgt := 68) (pc' := 56) dX8_setFacts_53 rfl rfl (fun c23 => ?_) (fun c23 => ?_)
        · refine ev_iload_n (pc' := 69) (i := 3) dX8_setFacts_68 rfl rfl rfl ?_
          refine ev_iconst (pc' := 70) (v := 2) dX8_setFacts_69 rfl ki_2 ?_
          refine ev_icmp_ne (tgt := 83) (pc' := 73) dX8_setFacts_70 rfl rfl (fun c24 => ?_) (fun c24 => ?_)
          · refine ev_iload_n (pc' := 84) (i := 3) dX8_setFacts_83 rfl rfl rfl ?_
            refine ev_iload (pc' := 86) dX8_setFacts_84 rfl rfl ?_
            refine ev_iadd (pc' := 87) (v := ((J4 115) 9) + ((J4 115) 10)) dX8_setFacts_86 rfl rfl ?_
            refine ev_iconst (pc' := 88) (v := 3) dX8_setFacts_87 rfl ki_3 ?_
            refine ev_icmp_ne (tgt := 95) (pc' := 91) dX8_setFacts_88 rfl rfl (fun c25 => ?_) (fun c25 => ?_)
            · refine ev_iload_n (pc' := 96) (i := 3) dX8_setFacts_95 rfl rfl rfl ?_
              refine ev_iload (pc' := 98) dX8_setFacts_96 rfl rfl ?_
              refine ev_iadd (pc' := 99) (v := ((J4 115) 9) + ((J4 115) 10)) dX8_setFacts_98 rfl rfl ?_
              refine ev_iconst (pc' := 100) (v := 3) dX8_setFacts_99 rfl ki_3 ?_
              refine ev_icmp_ge (tgt := 107) (pc' := 103) dX8_setFacts_100 rfl rfl (fun c26 => ?_) (fun c26 => ?_)
              · refine ev_iconst (pc' := 108) (v := 0) dX8_setFacts_107 rfl ki_0 ?_
                exact K14 _ (by rw [if_neg (not_not_intro c15), if_pos c22, if_pos c23, if_pos c24, if_pos c25, if_pos c26])
              · refine ev_iconst (pc' := 104) (v := 2) dX8_setFacts_103 rfl ki_2 ?_
                refine ev_goto (tgt := 108) dX8_setFacts_104 rfl ?_
                exact K14 _ (by rw [if_neg (not_not_intro c15), if_pos c22, if_pos c23, if_pos c24, if_pos c25, if_neg c26])
            · refine ev_iconst (pc' := 92) (v := 1) dX8_setFacts_91 rfl ki_1 ?_
              refine ev_goto (tgt := 108) dX8_setFacts_92 rfl ?_
              exact K14 _ (by rw [if_neg (not_not_intro c15), if_pos c22, if_pos c23, if_pos c24, if_neg (not_not_intro c25)])
          · refine ev_iload (pc' := 75) dX8_setFacts_73 rfl rfl ?_
            refine ev_iconst (pc' := 76) (v := 2) dX8_setFacts_75 rfl ki_2 ?_
            refine ev_icmp_ne (tgt := 83) (pc' := 79) dX8_setFacts_76 rfl rfl (fun c27 => ?_) (fun c27 => ?_)
            · refine ev_iload_n (pc' := 84) (i := 3) dX8_setFacts_83 rfl rfl rfl ?_
              refine ev_iload (pc' := 86) dX8_setFacts_84 rfl rfl ?_
              refine ev_iadd (pc' := 87) (v := ((J4 115) 9) + ((J4 115) 10)) dX8_setFacts_86 rfl rfl ?_
              refine ev_iconst (pc' := 88) (v := 3) dX8_setFacts_87 rfl ki_3 ?_
              refine ev_icmp_ne (tgt := 95) (pc' := 91) dX8_setFacts_88 rfl rfl (fun c28 => ?_) (fun c28 => ?_)
              · refine ev_iload_n (pc' := 96) (i := 3) dX8_setFacts_95 rfl rfl rfl ?_
                refine ev_iload (pc' := 98) dX8_setFacts_96 rfl rfl ?_
                refine ev_iadd (pc' := 99) (v := ((J4 115) 9) + ((J4 115) 10)) dX8_setFacts_98 rfl rfl ?_
                refine ev_iconst (pc' := 100) (v := 3) dX8_setFacts_99 rfl ki_3 ?_
                refine ev_icmp_ge (tgt := 107) (pc' := 103) dX8_setFacts_100 rfl rfl (fun c29 => ?_) (fun c29 => ?_)
                · refine ev_iconst (pc' := 108) (v := 0) dX8_setFacts_107 rfl ki_0 ?_
                  exact K14 _ (by rw [if_neg (not_not_intro c15), if_pos c22, if_pos c23, if_neg (not_not_intro c24), if_pos c27, if_pos c28, if_pos c29])
                · refine ev_iconst (pc' := 104) (v := 2) dX8_setFacts_103 rfl ki_2 ?_
                  refine ev_goto (tgt := 108) dX8_setFacts_104 rfl ?_
                  exact K14 _ (by rw [if_neg (not_not_intro c15), if_pos c22, if_pos c23, if_neg (not_not_intro c24), if_pos c27, if_pos c28, if_neg c29])
              · refine ev_iconst (pc' := 92) (v := 1) dX8_setFacts_91 rfl ki_1 ?_
                refine ev_goto (tgt := 108) dX8_setFacts_92 rfl ?_
                exact K14 _ (by rw [if_neg (not_not_intro c15), if_pos c22, if_pos c23, if_neg (not_not_intro c24), if_pos c27, if_neg (not_not_intro c28)])
            · refine ev_iconst (pc' := 80) (v := 4) dX8_setFacts_79 rfl ki_4 ?_
              refine ev_goto (tgt := 108) dX8_setFacts_80 rfl ?_
              exact K14 _ (by rw [if_neg (not_not_intro c15), if_pos c22, if_pos c23, if_neg (not_not_intro c24), if_neg (not_not_intro c27)])
        · refine ev_aload_n (pc' := 57) (i := 0) dX8_setFacts_56 rfl rfl rfl ?_
          refine ev_getI (pc' := 60) (v := (J8 115) 10) fo_X8_163 dX8_setFacts_57 rfl hs_115 rfl rfl ?_
          refine ev_iconst (pc' := 61) (v := 3) dX8_setFacts_60 rfl ki_3 ?_
          refine ev_icmp_ne (tgt := 68) (pc' := 64) dX8_setFacts_61 rfl rfl (fun c30 => ?_) (fun c30 => ?_)
          · refine ev_iload_n (pc' := 69) (i := 3) dX8_setFacts_68 rfl rfl rfl ?_
            refine ev_iconst (pc' := 70) (v := 2) dX8_setFacts_69 rfl ki_2 ?_
            refine ev_icmp_ne (tgt := 83) (pc' := 73) dX8_setFacts_70 rfl rfl (fun c31 => ?_) (fun c31 => ?_)
            · refine ev_iload_n (pc' := 84) (i := 3) dX8_setFacts_83 rfl rfl rfl ?_
              refine ev_iload (pc' := 86) dX8_setFacts_84 rfl rfl ?_
              refine ev_iadd (pc' := 87) (v := ((J4 115) 9) + ((J4 115) 10)) dX8_setFacts_86 rfl rfl ?_
              refine ev_iconst (pc' := 88) (v := 3) dX8_setFacts_87 rfl ki_3 ?_
              refine ev_icmp_ne (tgt := 95) (pc' := 91) dX8_setFacts_88 rfl rfl (fun c32 => ?_) (fun c32 => ?_)
              · refine ev_iload_n (pc' := 96) (i := 3) dX8_setFacts_95 rfl rfl rfl ?_
                refine ev_iload (pc' := 98) dX8_setFacts_96 rfl rfl ?_
                refine ev_iadd (pc' := 99) (v := ((J4 115) 9) + ((J4 115) 10)) dX8_setFacts_98 rfl rfl ?_
                refine ev_iconst (pc' := 100) (v := 3) dX8_setFacts_99 rfl ki_3 ?_
                refine ev_icmp_ge (tgt := 107) (pc' := 103) dX8_setFacts_100 rfl rfl (fun c33 => ?_) (fun c33 => ?_)
                · refine ev_iconst (pc' := 108) (v := 0) dX8_setFacts_107 rfl ki_0 ?_
                  exact K14 _ (by rw [if_neg (not_not_intro c15), if_pos c22, if_neg (not_not_intro c23), if_pos c30, if_pos c31, if_pos c32, if_pos c33])
                · refine ev_iconst (pc' := 104) (v := 2) dX8_setFacts_103 rfl ki_2 ?_
                  refine ev_goto (tgt := 108) dX8_setFacts_104 rfl ?_
                  exact K14 _ (by rw [if_neg (not_not_intro c15), if_pos c22, if_neg (not_not_intro c23), if_pos c30, if_pos c31, if_pos c32, if_neg c33])
              · refine ev_iconst (pc' := 92) (v := 1) dX8_setFacts_91 rfl ki_1 ?_
                refine ev_goto (tgt := 108) dX8_setFacts_92 rfl ?_
                exact K14 _ (by rw [if_neg (not_not_intro c15), if_pos c22, if_neg (not_not_intro c23), if_pos c30, if_pos c31, if_neg (not_not_intro c32)])
            · refine ev_iload (pc' := 75) dX8_setFacts_73 rfl rfl ?_
              refine ev_iconst (pc' := 76) (v := 2) dX8_setFacts_75 rfl ki_2 ?_
              refine ev_icmp_ne (tgt := 83) (pc' := 79) dX8_setFacts_76 rfl rfl (fun c34 => ?_) (fun c34 => ?_)
              · refine ev_iload_n (pc' := 84) (i := 3) dX8_setFacts_83 rfl rfl rfl ?_
                refine ev_iload (pc' := 86) dX8_setFacts_84 rfl rfl ?_
                refine ev_iadd (pc' := 87) (v := ((J4 115) 9) + ((J4 115) 10)) dX8_setFacts_86 rfl rfl ?_
                refine ev_iconst (pc' := 88) (v := 3) dX8_setFacts_87 rfl ki_3 ?_
                refine ev_icmp_ne (tgt := 95) (pc' := 91) dX8_setFacts_88 rfl rfl (fun c35 => ?_) (fun c35 => ?_)
                · refine ev_iload_n (pc' := 96) (i := 3) dX8_setFacts_95 rfl rfl rfl ?_
                  refine ev_iload (pc' := 98) dX8_setFacts_96 rfl rfl ?_
                  refine ev_iadd (pc' := 99) (v := ((J4 115) 9) + ((J4 115) 10)) dX8_setFacts_98 rfl rfl ?_
                  refine ev_iconst (pc' := 100) (v := 3) dX8_setFacts_99 rfl ki_3 ?_
                  refine ev_icmp_ge (tgt := 107) (pc' := 103) dX8_setFacts_100 rfl rfl (fun c36 => ?_) (fun c36 => ?_)
                  · refine ev_iconst (pc' := 108) (v := 0) dX8_setFacts_107 rfl ki_0 ?_
                    exact K14 _ (by rw [if_neg (not_not_intro c15), if_pos c22, if_neg (not_not_intro c23), if_pos c30, if_neg (not_not_intro c31), if_pos c34, if_pos c35, if_pos c36])
                  · refine ev_iconst (pc' := 104) (v := 2) dX8_setFacts_103 rfl ki_2 ?_
                    refine ev_goto (tgt := 108) dX8_setFacts_104 rfl ?_
                    exact K14 _ (by rw [if_neg (not_not_intro c15), if_pos c22, if_neg (not_not_intro c23), if_pos c30, if_neg (not_not_intro c31), if_pos c34, if_pos c35, if_neg c36])
                · refine ev_iconst (pc' := 92) (v := 1) dX8_setFacts_91 rfl ki_1 ?_
                  refine ev_goto (tgt := 108) dX8_setFacts_92 rfl ?_
                  exact K14 _ (by rw [if_neg (not_not_intro c15), if_pos c22, if_neg (not_not_intro c23), if_pos c30, if_neg (not_not_intro c31), if_pos c34, if_neg (not_not_intro c35)])
              · refine ev_iconst (pc' := 80) (v := 4) dX8_setFacts_79 rfl ki_4 ?_
                refine ev_goto (tgt := 108) dX8_setFacts_80 rfl ?_
                exact K14 _ (by rw [if_neg (not_not_intro c15), if_pos c22, if_neg (not_not_intro c23), if_pos c30, if_neg (not_not_intro c31), if_neg (not_not_intro c34)])
          · refine ev_iconst (pc' := 65) (v := 3) dX8_setFacts_64 rfl ki_3 ?_
            refine ev_goto (tgt := 108) dX8_setFacts_65 rfl ?_
            exact K14 _ (by rw [if_neg (not_not_intro c15), if_pos c22, if_neg (not_not_intro c23), if_neg (not_not_intro c30)])
      · refine ev_aload_n (pc' := 43) (i := 0) dX8_setFacts_42 rfl rfl rfl ?_
        refine ev_getI (pc' := 46) (v := (J8 115) 9) fo_X8_160 dX8_setFacts_43 rfl hs_115 rfl rfl ?_
        refine ev_iconst (pc' := 47) (v := 3) dX8_setFacts_46 rfl ki_3 ?_
        refine ev_icmp_eq (tgt := 64) (pc' := 50) dX8_setFacts_47 rfl rfl (fun c37 => ?_) (fun c37 => ?_)
        · refine ev_iconst (pc' := 65) (v := 3) dX8_setFacts_64 rfl ki_3 ?_
          refine ev_goto (tgt := 108) dX8_setFacts_65 rfl ?_
          exact K14 _ (by rw [if_neg (not_not_intro c15), if_neg (not_not_intro c22), if_pos c37])
        · refine ev_iload (pc' := 52) dX8_setFacts_50 rfl rfl ?_
          refine ev_iconst (pc' := 53) (v := 3) dX8_setFacts_52 rfl ki_3 ?_
          refine ev_icmp_ne (tgt := 68) (pc' := 56) dX8_setFacts_53 rfl rfl (fun c38 => ?_) (fun c38 => ?_)
          · refine ev_iload_n (pc' := 69) (i := 3) dX8_setFacts_68 rfl rfl rfl ?_
            refine ev_iconst (pc' := 70) (v := 2) dX8_setFacts_69 rfl ki_2 ?_
            refine ev_icmp_ne (tgt := 83) (pc' := 73) dX8_setFacts_70 rfl rfl (fun c39 => ?_) (fun c39 => ?_)
            · refine ev_iload_n (pc' := 84) (i := 3) dX8_setFacts_83 rfl rfl rfl ?_
              refine ev_iload (pc' := 86) dX8_setFacts_84 rfl rfl ?_
              refine ev_iadd (pc' := 87) (v := ((J4 115) 9) + ((J4 115) 10)) dX8_setFacts_86 rfl rfl ?_
              refine ev_iconst (pc' := 88) (v := 3) dX8_setFacts_87 rfl ki_3 ?_
              refine ev_icmp_ne (tgt := 95) (pc' := 91) dX8_setFacts_88 rfl rfl (fun c40 => ?_) (fun c40 => ?_)
              · refine ev_iload_n (pc' := 96) (i := 3) dX8_setFacts_95 rfl rfl rfl ?_
                refine ev_iload (pc' := 98) dX8_setFacts_96 rfl rfl ?_
                refine ev_iadd (pc' := 99) (v := ((J4 115) 9) + ((J4 115) 10)) dX8_setFacts_98 rfl rfl ?_
                refine ev_iconst (pc' := 100) (v := 3) dX8_setFacts_99 rfl ki_3 ?_
                refine ev_icmp_ge (tgt := 107) (pc' := 103) dX8_setFacts_100 rfl rfl (fun c41 => ?_) (fun c41 => ?_)
                · refine ev_iconst (pc' := 108) (v := 0) dX8_setFacts_107 rfl ki_0 ?_
                  exact K14 _ (by rw [if_neg (not_not_intro c15), if_neg (not_not_intro c22), if_neg c37, if_pos c38, if_pos c39, if_pos c40, if_pos c41])
                · refine ev_iconst (pc' := 104) (v := 2) dX8_setFacts_103 rfl ki_2 ?_
                  refine ev_goto (tgt := 108) dX8_setFacts_104 rfl ?_
                  exact K14 _ (by rw [if_neg (not_not_intro c15), if_neg (not_not_intro c22), if_neg c37, if_pos c38, if_pos c39, if_pos c40, if_neg c41])
              · refine ev_iconst (pc' := 92) (v := 1) dX8_setFacts_91 rfl ki_1 ?_
                refine ev_goto (tgt := 108) dX8_setFacts_92 rfl ?_
                exact K14 _ (by rw [if_neg (not_not_intro c15), if_neg (not_not_intro c22), if_neg c37, if_pos c38, if_pos c39, if_neg (not_not_intro c40)])
            · refine ev_iload (pc' := 75) dX8_setFacts_73 rfl rfl ?_
              refine ev_iconst (pc' := 76) (v := 2) dX8_setFacts_75 rfl ki_2 ?_
              refine ev_icmp_ne (tgt := 83) (pc' := 79) dX8_setFacts_76 rfl rfl (fun c42 => ?_) (fun c42 => ?_)
              · refine ev_iload_n (pc' := 84) (i := 3) dX8_setFacts_83 rfl rfl rfl ?_
                refine ev_iload (pc' := 86) dX8_setFacts_84 rfl rfl ?_
                refine ev_iadd (pc' := 87) (v := ((J4 115) 9) + ((J4 115) 10)) dX8_setFacts_86 rfl rfl ?_
                refine ev_iconst (pc' := 88) (v := 3) dX8_setFacts_87 rfl ki_3 ?_
                refine ev_icmp_ne (tgt := 95) (pc' := 91) dX8_setFacts_88 rfl rfl (fun c43 => ?_) (fun c43 => ?_)
                · refine ev_iload_n (pc' := 96) (i := 3) dX8_setFacts_95 rfl rfl rfl ?_
                  refine ev_iload (pc' := 98) dX8_setFacts_96 rfl rfl ?_
                  refine ev_iadd (pc' := 99) (v := ((J4 115) 9) + ((J4 115) 10)) dX8_setFacts_98 rfl rfl ?_
                  refine ev_iconst (pc' := 100) (v := 3) dX8_setFacts_99 rfl ki_3 ?_
                  refine ev_icmp_ge (tgt := 107) (pc' := 103) dX8_setFacts_100 rfl rfl (fun c44 => ?_) (fun c44 => ?_)
                  · refine ev_iconst (pc' := 108) (v := 0) dX8_setFacts_107 rfl ki_0 ?_
                    exact K14 _ (by rw [if_neg (not_not_intro c15), if_neg (not_not_intro c22), if_neg c37, if_pos c38, if_neg (not_not_intro c39), if_pos c42, if_pos c43, if_pos c44])
                  · refine ev_iconst (pc' := 104) (v := 2) dX8_setFacts_103 rfl ki_2 ?_
                    refine ev_goto (tgt := 108) dX8_setFacts_104 rfl ?_
                    exact K14 _ (by rw [if_neg (not_not_intro c15), if_neg (not_not_intro c22), if_neg c37, if_pos c38, if_neg (not_not_intro c39), if_pos c42, if_pos c43, if_neg c44])
                · refine ev_iconst (pc' := 92) (v := 1) dX8_setFacts_91 rfl ki_1 ?_
                  refine ev_goto (tgt := 108) dX8_setFacts_92 rfl ?_
                  exact K14 _ (by rw [if_neg (not_not_intro c15), if_neg (not_not_intro c22), if_neg c37, if_pos c38, if_neg (not_not_intro c39), if_pos c42, if_neg (not_not_intro c43)])
              · refine ev_iconst (pc' := 80) (v := 4) dX8_setFacts_79 rfl ki_4 ?_
                refine ev_goto (tgt := 108) dX8_setFacts_80 rfl ?_
                exact K14 _ (by rw [if_neg (not_not_intro c15), if_neg (not_not_intro c22), if_neg c37, if_pos c38, if_neg (not_not_intro c39), if_neg (not_not_intro c42)])
          · refine ev_aload_n (pc' := 57) (i := 0) dX8_setFacts_56 rfl rfl rfl ?_
            refine ev_getI (pc' := 60) (v := (J8 115) 10) fo_X8_163 dX8_setFacts_57 rfl hs_115 rfl rfl ?_
            refine ev_iconst (pc' := 61) (v := 3) dX8_setFacts_60 rfl ki_3 ?_
            refine ev_icmp_ne (tgt := 68) (pc' := 64) dX8_setFacts_61 rfl rfl (fun c45 => ?_) (fun c45 => ?_)
            · refine ev_iload_n (pc' := 69) (i := 3) dX8_setFacts_68 rfl rfl rfl ?_
              refine ev_iconst (pc' := 70) (v := 2) dX8_setFacts_69 rfl ki_2 ?_
              refine ev_icmp_ne (tgt := 83) (pc' := 73) dX8_setFacts_70 rfl rfl (fun c46 => ?_) (fun c46 => ?_)
              · refine ev_iload_n (pc' := 84) (i := 3) dX8_setFacts_83 rfl rfl rfl ?_
                refine ev_iload (pc' := 86) dX8_setFacts_84 rfl rfl ?_
                refine ev_iadd (pc' := 87) (v := ((J4 115) 9) + ((J4 115) 10)) dX8_setFacts_86 rfl rfl ?_
                refine ev_iconst (pc' := 88) (v := 3) dX8_setFacts_87 rfl ki_3 ?_
                refine ev_icmp_ne (tgt := 95) (pc' := 91) dX8_setFacts_88 rfl rfl (fun c47 => ?_) (fun c47 => ?_)
                · refine ev_iload_n (pc' := 96) (i := 3) dX8_setFacts_95 rfl rfl rfl ?_
                  refine ev_iload (pc' := 98) dX8_setFacts_96 rfl rfl ?_
                  refine ev_iadd (pc' := 99) (v := ((J4 115) 9) + ((J4 115) 10)) dX8_setFacts_98 rfl rfl ?_
                  refine ev_iconst (pc' := 100) (v := 3) dX8_setFacts_99 rfl ki_3 ?_
                  refine ev_icmp_ge (tgt := 107) (pc' := 103) dX8_setFacts_100 rfl rfl (fun c48 => ?_) (fun c48 => ?_)
                  · refine ev_iconst (pc' := 108) (v := 0) dX8_setFacts_107 rfl ki_0 ?_
                    exact K14 _ (by rw [if_neg (not_not_intro c15), if_neg (not_not_intro c22), if_neg c37, if_neg (not_not_intro c38), if_pos c45, if_pos c46, if_pos c47, if_pos c48])
                  · refine ev_iconst (pc' := 104) (v := 2) dX8_setFacts_103 rfl ki_2 ?_
                    refine ev_goto (tgt := 108) dX8_setFacts_104 rfl ?_
                    exact K14 _ (by rw [if_neg (not_not_intro c15), if_neg (not_not_intro c22), if_neg c37, if_neg (not_not_intro c38), if_pos c45, if_pos c46, if_pos c47, if_neg c48])
                · refine ev_iconst (pc' := 92) (v := 1) dX8_setFacts_91 rfl ki_1 ?_
                  refine ev_goto (tgt := 108) dX8_setFacts_92 rfl ?_
                  exact K14 _ (by rw [if_neg (not_not_intro c15), if_neg (not_not_intro c22), if_neg c37, if_neg (not_not_intro c38), if_pos c45, if_pos c46, if_neg (not_not_intro c47)])
              · refine ev_iload (pc' := 75) dX8_setFacts_73 rfl rfl ?_
                refine ev_iconst (pc' := 76) (v := 2) dX8_setFacts_75 rfl ki_2 ?_
                refine ev_icmp_ne (tgt := 83) (pc' := 79) dX8_setFacts_76 rfl rfl (fun c49 => ?_) (fun c49 => ?_)
                · refine ev_iload_n (pc' := 84) (i := 3) dX8_setFacts_83 rfl rfl rfl ?_
                  refine ev_iload (pc' := 86) dX8_setFacts_84 rfl rfl ?_
                  refine ev_iadd (pc' := 87) (v := ((J4 115) 9) + ((J4 115) 10)) dX8_setFacts_86 rfl rfl ?_
                  refine ev_iconst (pc' := 88) (v := 3) dX8_setFacts_87 rfl ki_3 ?_
                  refine ev_icmp_ne (tgt := 95) (pc' := 91) dX8_setFacts_88 rfl rfl (fun c50 => ?_) (fun c50 => ?_)
                  · refine ev_iload_n (pc' := 96) (i := 3) dX8_setFacts_95 rfl rfl rfl ?_
                    refine ev_iload (pc' := 98) dX8_setFacts_96 rfl rfl ?_
                    refine ev_iadd (pc' := 99) (v := ((J4 115) 9) + ((J4 115) 10)) dX8_setFacts_98 rfl rfl ?_
                    refine ev_iconst (pc' := 100) (v := 3) dX8_setFacts_99 rfl ki_3 ?_
                    refine ev_icmp_ge (tgt := 107) (pc' := 103) dX8_setFacts_100 rfl rfl (fun c51 => ?_) (fun c51 => ?_)
                    · refine ev_iconst (pc' := 108) (v := 0) dX8_setFacts_107 rfl ki_0 ?_
                      exact K14 _ (by rw [if_neg (not_not_intro c15), if_neg (not_not_intro c22), if_neg c37, if_neg (not_not_intro c38), if_pos c45, if_neg (not_not_intro c46), if_pos c49, if_pos c50, if_pos c51])
                    · refine ev_iconst (pc' := 104) (v := 2) dX8_setFacts_103 rfl ki_2 ?_
                      refine ev_goto (tgt := 108) dX8_setFacts_104 rfl ?_
                      exact K14 _ (by rw [if_neg (not_not_intro c15), if_neg (not_not_intro c22), if_neg c37, if_neg (not_not_intro c38), if_pos c45, if_neg (not_not_intro c46), if_pos c49, if_pos c50, if_neg c51])
                  · refine ev_iconst (pc' := 92) (v := 1) dX8_setFacts_91 rfl ki_1 ?_
                    refine ev_goto (tgt := 108) dX8_setFacts_92 rfl ?_
                    exact K14 _ (by rw [if_neg (not_not_intro c15), if_neg (not_not_intro c22), if_neg c37, if_neg (not_not_intro c38), if_pos c45, if_neg (not_not_intro c46), if_pos c49, if_neg (not_not_intro c50)])
                · refine ev_iconst (pc' := 80) (v := 4) dX8_setFacts_79 rfl ki_4 ?_
                  refine ev_goto (tgt := 108) dX8_setFacts_80 rfl ?_
                  exact K14 _ (by rw [if_neg (not_not_intro c15), if_neg (not_not_intro c22), if_neg c37, if_neg (not_not_intro c38), if_pos c45, if_neg (not_not_intro c46), if_neg (not_not_intro c49)])
            · refine ev_iconst (pc' := 65) (v := 3) dX8_setFacts_64 rfl ki_3 ?_
              refine ev_goto (tgt := 108) dX8_setFacts_65 rfl ?_
              exact K14 _ (by rw [if_neg (not_not_intro c15), if_neg (not_not_intro c22), if_neg c37, if_neg (not_not_intro c38), if_neg (not_not_intro c45)])
  intro x13 hx13
  subst hx13
  refine ev_istore (pc' := 110) (lv' := [some (.ref 115), some (.int (nI q)), some (.int (nI (10 * q))), some (.int ((J4 115) 9)), some (.int ((J4 115) 10)), some (.int (if ¬ (((J4 115) 9) + ((J4 115) 10)) = 4 then (if ¬ ((J4 115) 9) = 2 then (if ¬ (((J4 115) 9) + ((J4 115) 10)) = 3 then (if 3 ≤ (((J4 115) 9) + ((J4 115) 10)) then 0 else 2) else 1) else (if ¬ ((J4 115) 10) = 2 then (if ¬ (((J4 115) 9) + ((J4 115) 10)) = 3 then (if 3 ≤ (((J4 115) 9) + ((J4 115) 10)) then 0 else 2) else 1) else 4)) else (if ¬ ((J4 115) 9) = 3 then (if ¬ ((J4 115) 10) = 3 then (if ¬ ((J4 115) 9) = 2 then (if ¬ (((J4 115) 9) + ((J4 115) 10)) = 3 then (if 3 ≤ (((J4 115) 9) + ((J4 115) 10)) then 0 else 2) else 1) else (if ¬ ((J4 115) 10) = 2 then (if ¬ (((J4 115) 9) + ((J4 115) 10)) = 3 then (if 3 ≤ (((J4 115) 9) + ((J4 115) 10)) then 0 else 2) else 1) else 4)) else (if ¬ ((J8 115) 10) = 3 then (if ¬ ((J4 115) 9) = 2 then (if ¬ (((J4 115) 9) + ((J4 115) 10)) = 3 then (if 3 ≤ (((J4 115) 9) + ((J4 115) 10)) then 0 else 2) else 1) else (if ¬ ((J4 115) 10) = 2 then (if ¬ (((J4 115) 9) + ((J4 115) 10)) = 3 then (if 3 ≤ (((J4 115) 9) + ((J4 115) 10)) then 0 else 2) else 1) else 4)) else 3)) else (if ((J8 115) 9) = 3 then 3 else (if ¬ ((J4 115) 10) = 3 then (if ¬ ((J4 115) 9) = 2 then (if ¬ (((J4 115) 9) + ((J4 115) 10)) = 3 then (if 3 ≤ (((J4 115) 9) + ((J4 115) 10)) then 0 else 2) else 1) else (if ¬ ((J4 115) 10) = 2 then (if ¬ (((J4 115) 9) + ((J4 115) 10)) = 3 then (if 3 ≤ (((J4 115) 9) + ((J4 115) 10)) then 0 else 2) else 1) else 4)) else (if ¬ ((J8 115) 10) = 3 then (if ¬ ((J4 115) 9) = 2 then (if ¬ (((J4 115) 9) + ((J4 115) 10)) = 3 then (if 3 ≤ (((J4 115) 9) + ((J4 115) 10)) then 0 else 2) else 1) else (if ¬ ((J4 115) 10) = 2 then (if ¬ (((J4 115) 9) + ((J4 115) 10)) = 3 then (if 3 ≤ (((J4 115) 9) + ((J4 115) 10)) then 0 else 2) else 1) else 4)) else 3))))))]) dX8_setFacts_108 rfl (Nat.le_of_ble_eq_true rfl) rfl rfl ?_
  refine ev_aload_n (pc' := 111) (i := 0) dX8_setFacts_110 rfl rfl rfl ?_
  refine ev_getR (pc' := 114) fo_X8_40 dX8_setFacts_111 rfl hs_115 rfl rf_115_14 ?_
  refine ev_iload_n (pc' := 115) (i := 2) dX8_setFacts_114 rfl rfl rfl ?_
  refine ev_iload (pc' := 117) dX8_setFacts_115 rfl rfl ?_
  refine ev_iast (pc' := 118) (j := 10 * q) (I' := (ma_up J8 124 (ma_up (J8 124) (10 * q) (if ¬ (((J4 115) 9) + ((J4 115) 10)) = 4 then (if ¬ ((J4 115) 9) = 2 then (if ¬ (((J4 115) 9) + ((J4 115) 10)) = 3 then (if 3 ≤ (((J4 115) 9) + ((J4 115) 10)) then 0 else 2) else 1) else (if ¬ ((J4 115) 10) = 2 then (if ¬ (((J4 115) 9) + ((J4 115) 10)) = 3 then (if 3 ≤ (((J4 115) 9) + ((J4 115) 10)) then 0 else 2) else 1) else 4)) else (if ¬ ((J4 115) 9) = 3 then (if ¬ ((J4 115) 10) = 3 then (if ¬ ((J4 115) 9) = 2 then (if ¬ (((J4 115) 9) + ((J4 115) 10)) = 3 then (if 3 ≤ (((J4 115) 9) + ((J4 115) 10)) then 0 else 2) else 1) else (if ¬ ((J4 115) 10) = 2 then (if ¬ (((J4 115) 9) + ((J4 115) 10)) = 3 then (if 3 ≤ (((J4 115) 9) + ((J4 115) 10)) then 0 else 2) else 1) else 4)) else (if ¬ ((J8 115) 10) = 3 then (if ¬ ((J4 115) 9) = 2 then (if ¬ (((J4 115) 9) + ((J4 115) 10)) = 3 then (if 3 ≤ (((J4 115) 9) + ((J4 115) 10)) then 0 else 2) else 1) else (if ¬ ((J4 115) 10) = 2 then (if ¬ (((J4 115) 9) + ((J4 115) 10)) = 3 then (if 3 ≤ (((J4 115) 9) + ((J4 115) 10)) then 0 else 2) else 1) else 4)) else 3)) else (if ((J8 115) 9) = 3 then 3 else (if ¬ ((J4 115) 10) = 3 then (if ¬ ((J4 115) 9) = 2 then (if ¬ (((J4 115) 9) + ((J4 115) 10)) = 3 then (if 3 ≤ (((J4 115) 9) + ((J4 115) 10)) then 0 else 2) else 1) else (if ¬ ((J4 115) 10) = 2 then (if ¬ (((J4 115) 9) + ((J4 115) 10)) = 3 then (if 3 ≤ (((J4 115) 9) + ((J4 115) 10)) then 0 else 2) else 1) else 4)) else (if ¬ ((J8 115) 10) = 3 then (if ¬ ((J4 115) 9) = 2 then (if ¬ (((J4 115) 9) + ((J4 115) 10)) = 3 then (if 3 ≤ (((J4 115) 9) + ((J4 115) 10)) then 0 else 2) else 1) else (if ¬ ((J4 115) 10) = 2 then (if ¬ (((J4 115) 9) + ((J4 115) 10)) = 3 then (if 3 ≤ (((J4 115) 9) + ((J4 115) 10)) then 0 else 2) else 1) else 4)) else 3)))))))) dX8_setFacts_117 rfl hs_124 rfl (by omega) (Nat.le_of_ble_eq_true rfl) rfl ?_
  refine ev_aload_n (pc' := 119) (i := 0) dX8_setFacts_118 rfl rfl rfl ?_
  refine ev_getR (pc' := 122) fo_X8_40 dX8_setFacts_119 rfl hs_115 rfl rf_115_14 ?_
  refine ev_iload_n (pc' := 123) (i := 2) dX8_setFacts_122 rfl rfl rfl ?_
  refine ev_iconst (pc' := 124) (v := 1) dX8_setFacts_123 rfl ki_1 ?_
  refine ev_iadd (pc' := 125) (v := nI ((10 * q) + 1)) dX8_setFacts_124 rfl (nI_add (10 * q) 1) ?_
  refine ev_iload_n (pc' := 126) (i := 3) dX8_setFacts_125 rfl rfl rfl ?_
  refine ev_iast (pc' := 127) (j := (10 * q) + 1) (I' := (ma_up J8 124 (ma_up (ma_up (J8 124) (10 * q) (if ¬ (((J4 115) 9) + ((J4 115) 10)) = 4 then (if ¬ ((J4 115) 9) = 2 then (if ¬ (((J4 115) 9) + ((J4 115) 10)) = 3 then (if 3 ≤ (((J4 115) 9) + ((J4 115) 10)) then 0 else 2) else 1) else (if ¬ ((J4 115) 10) = 2 then (if ¬ (((J4 115) 9) + ((J4 115) 10)) = 3 then (if 3 ≤ (((J4 115) 9) + ((J4 115) 10)) then 0 else 2) else 1) else 4)) else (if ¬ ((J4 115) 9) = 3 then (if ¬ ((J4 115) 10) = 3 then (if ¬ ((J4 115) 9) = 2 then (if ¬ (((J4 115) 9) + ((J4 115) 10)) = 3 then (if 3 ≤ (((J4 115) 9) + ((J4 115) 10)) then 0 else 2) else 1) else (if ¬ ((J4 115) 10) = 2 then (if ¬ (((J4 115) 9) + ((J4 115) 10)) = 3 then (if 3 ≤ (((J4 115) 9) + ((J4 115) 10)) then 0 else 2) else 1) else 4)) else (if ¬ ((J8 115) 10) = 3 then (if ¬ ((J4 115) 9) = 2 then (if ¬ (((J4 115) 9) + ((J4 115) 10)) = 3 then (if 3 ≤ (((J4 115) 9) + ((J4 115) 10)) then 0 else 2) else 1) else (if ¬ ((J4 115) 10) = 2 then (if ¬ (((J4 115) 9) + ((J4 115) 10)) = 3 then (if 3 ≤ (((J4 115) 9) + ((J4 115) 10)) then 0 else 2) else 1) else 4)) else 3)) else (if ((J8 115) 9) = 3 then 3 else (if ¬ ((J4 115) 10) = 3 then (if ¬ ((J4 115) 9) = 2 then (if ¬ (((J4 115) 9) + ((J4 115) 10)) = 3 then (if 3 ≤ (((J4 115) 9) + ((J4 115) 10)) then 0 else 2) else 1) else (if ¬ ((J4 115) 10) = 2 then (if ¬ (((J4 115) 9) + ((J4 115) 10)) = 3 then (if 3 ≤ (((J4 115) 9) + ((J4 115) 10)) then 0 else 2) else 1) else 4)) else (if ¬ ((J8 115) 10) = 3 then (if ¬ ((J4 115) 9) = 2 then (if ¬ (((J4 115) 9) + ((J4 115) 10)) = 3 then (if 3 ≤ (((J4 115) 9) + ((J4 115) 10)) then 0 else 2) else 1) else (if ¬ ((J4 115) 10) = 2 then (if ¬ (((J4 115) 9) + ((J4 115) 10)) = 3 then (if 3 ≤ (((J4 115) 9) + ((J4 115) 10)) then 0 else 2) else 1) else 4)) else 3)))))) ((10 * q) + 1) ((J4 115) 9)))) dX8_setFacts_126 rfl hs_124 rfl (by omega) (Nat.le_of_ble_eq_true rfl) (ma_up_up _ _ _ _) ?_
  refine ev_aload_n (pc' := 128) (i := 0) dX8_setFacts_127 rfl rfl rfl ?_
  refine ev_getR (pc' := 131) fo_X8_40 dX8_setFacts_128 rfl hs_115 rfl rf_115_14 ?_
  refine ev_iload_n (pc' := 132) (i := 2) dX8_setFacts_131 rfl rfl rfl ?_
  refine ev_iconst (pc' := 133) (v := 2) dX8_setFacts_132 rfl ki_2 ?_
  refine ev_iadd (pc' := 134) (v := nI ((10 * q) + 2)) dX8_setFacts_133 rfl (nI_add (10 * q) 2) ?_
  refine ev_iload (pc' := 136) dX8_setFacts_134 rfl rfl ?_
  refine ev_iast (pc' := 137) (j := (10 * q) + 2) (I' := (ma_up J8 124 (ma_up (ma_up (ma_up (J8 124) (10 * q) (if ¬ (((J4 115) 9) + ((J4 115) 10)) = 4 then (if ¬ ((J4 115) 9) = 2 then (if ¬ (((J4 115) 9) + ((J4 115) 10)) = 3 then (if 3 ≤ (((J4 115) 9) + ((J4 115) 10)) then 0 else 2) else 1) else (if ¬ ((J4 115) 10) = 2 then (if ¬ (((J4 115) 9) + ((J4 115) 10)) = 3 then (if 3 ≤ (((J4 115) 9) + ((J4 115) 10)) then 0 else 2) else 1) else 4)) else (if ¬ ((J4 115) 9) = 3 then (if ¬ ((J4 115) 10) = 3 then (if ¬ ((J4 115) 9) = 2 then (if ¬ (((J4 115) 9) + ((J4 115) 10)) = 3 then (if 3 ≤ (((J4 115) 9) + ((J4 115) 10)) then 0 else 2) else 1) else (if ¬ ((J4 115) 10) = 2 then (if ¬ (((J4 115) 9) + ((J4 115) 10)) = 3 then (if 3 ≤ (((J4 115) 9) + ((J4 115) 10)) then 0 else 2) else 1) else 4)) else (if ¬ ((J8 115) 10) = 3 then (if ¬ ((J4 115) 9) = 2 then (if ¬ (((J4 115) 9) + ((J4 115) 10)) = 3 then (if 3 ≤ (((J4 115) 9) + ((J4 115) 10)) then 0 else 2) else 1) else (if ¬ ((J4 115) 10) = 2 then (if ¬ (((J4 115) 9) + ((J4 115) 10)) = 3 then (if 3 ≤ (((J4 115) 9) + ((J4 115) 10)) then 0 else 2) else 1) else 4)) else 3)) else (if ((J8 115) 9) = 3 then 3 else (if ¬ ((J4 115) 10) = 3 then (if ¬ ((J4 115) 9) = 2 then (if ¬ (((J4 115) 9) + ((J4 115) 10)) = 3 then (if 3 ≤ (((J4 115) 9) + ((J4 115) 10)) then 0 else 2) else 1) else (if ¬ ((J4 115) 10) = 2 then (if ¬ (((J4 115) 9) + ((J4 115) 10)) = 3 then (if 3 ≤ (((J4 115) 9) + ((J4 115) 10)) then 0 else 2) else 1) else 4)) else (if ¬ ((J8 115) 10) = 3 then (if ¬ ((J4 115) 9) = 2 then (if ¬ (((J4 115) 9) + ((J4 115) 10)) = 3 then (if 3 ≤ (((J4 115) 9) + ((J4 115) 10)) then 0 else 2) else 1) else (if ¬ ((J4 115) 10) = 2 then (if ¬ (((J4 115) 9) + ((J4 115) 10)) = 3 then (if 3 ≤ (((J4 115) 9) + ((J4 115) 10)) then 0 else 2) else 1) else 4)) else 3)))))) ((10 * q) + 1) ((J4 115) 9)) ((10 * q) + 2) ((J4 115) 10)))) dX8_setFacts_136 rfl hs_124 rfl (by omega) (Nat.le_of_ble_eq_true rfl) (ma_up_up _ _ _ _) ?_
  refine ev_aload_n (pc' := 138) (i := 0) dX8_setFacts_137 rfl rfl rfl ?_
  refine ev_getR (pc' := 141) fo_X8_40 dX8_setFacts_138 rfl hs_115 rfl rf_115_14 ?_
  refine ev_iload_n (pc' := 142) (i := 2) dX8_setFacts_141 rfl rfl rfl ?_
  refine ev_iconst (pc' := 143) (v := 3) dX8_setFacts_142 rfl ki_3 ?_
  refine ev_iadd (pc' := 144) (v := nI ((10 * q) + 3)) dX8_setFacts_143 rfl (nI_add (10 * q) 3) ?_
  refine ev_iconst (pc' := 145) (v := 4) dX8_setFacts_144 rfl ki_4 ?_
  refine ev_iload_n (pc' := 146) (i := 3) dX8_setFacts_145 rfl rfl rfl ?_
  refine ev_isub (pc' := 147) (v := 4 - ((J4 115) 9)) dX8_setFacts_146 rfl rfl ?_
  refine ev_iload (pc' := 149) dX8_setFacts_147 rfl rfl ?_
  refine ev_isub (pc' := 150) (v := (4 - ((J4 115) 9)) - ((J4 115) 10)) dX8_setFacts_149 rfl rfl ?_
  refine ev_iast (pc' := 151) (j := (10 * q) + 3) (I' := (ma_up J8 124 (ma_up (ma_up (ma_up (ma_up (J8 124) (10 * q) (if ¬ (((J4 115) 9) + ((J4 115) 10)) = 4 then (if ¬ ((J4 115) 9) = 2 then (if ¬ (((J4 115) 9) + ((J4 115) 10)) = 3 then (if 3 ≤ (((J4 115) 9) + ((J4 115) 10)) then 0 else 2) else 1) else (if ¬ ((J4 115) 10) = 2 then (if ¬ (((J4 115) 9) + ((J4 115) 10)) = 3 then (if 3 ≤ (((J4 115) 9) + ((J4 115) 10)) then 0 else 2) else 1) else 4)) else (if ¬ ((J4 115) 9) = 3 then (if ¬ ((J4 115) 10) = 3 then (if ¬ ((J4 115) 9) = 2 then (if ¬ (((J4 115) 9) + ((J4 115) 10)) = 3 then (if 3 ≤ (((J4 115) 9) + ((J4 115) 10)) then 0 else 2) else 1) else (if ¬ ((J4 115) 10) = 2 then (if ¬ (((J4 115) 9) + ((J4 115) 10)) = 3 then (if 3 ≤ (((J4 115) 9) + ((J4 115) 10)) then 0 else 2) else 1) else 4)) else (if ¬ ((J8 115) 10) = 3 then (if ¬ ((J4 115) 9) = 2 then (if ¬ (((J4 115) 9) + ((J4 115) 10)) = 3 then (if 3 ≤ (((J4 115) 9) + ((J4 115) 10)) then 0 else 2) else 1) else (if ¬ ((J4 115) 10) = 2 then (if ¬ (((J4 115) 9) + ((J4 115) 10)) = 3 then (if 3 ≤ (((J4 115) 9) + ((J4 115) 10)) then 0 else 2) else 1) else 4)) else 3)) else (if ((J8 115) 9) = 3 then 3 else (if ¬ ((J4 115) 10) = 3 then (if ¬ ((J4 115) 9) = 2 then (if ¬ (((J4 115) 9) + ((J4 115) 10)) = 3 then (if 3 ≤ (((J4 115) 9) + ((J4 115) 10)) then 0 else 2) else 1) else (if ¬ ((J4 115) 10) = 2 then (if ¬ (((J4 115) 9) + ((J4 115) 10)) = 3 then (if 3 ≤ (((J4 115) 9) + ((J4 115) 10)) then 0 else 2) else 1) else 4)) else (if ¬ ((J8 115) 10) = 3 then (if ¬ ((J4 115) 9) = 2 then (if ¬ (((J4 115) 9) + ((J4 115) 10)) = 3 then (if 3 ≤ (((J4 115) 9) + ((J4 115) 10)) then 0 else 2) else 1) else (if ¬ ((J4 115) 10) = 2 then (if ¬ (((J4 115) 9) + ((J4 115) 10)) = 3 then (if 3 ≤ (((J4 115) 9) + ((J4 115) 10)) then 0 else 2) else 1) else 4)) else 3)))))) ((10 * q) + 1) ((J4 115) 9)) ((10 * q) + 2) ((J4 115) 10)) ((10 * q) + 3) ((4 - ((J4 115) 9)) - ((J4 115) 10))))) dX8_setFacts_150 rfl hs_124 rfl (by omega) (Nat.le_of_ble_eq_true rfl) (ma_up_up _ _ _ _) ?_
  refine ev_aload_n (pc' := 152) (i := 0) dX8_setFacts_151 rfl rfl rfl ?_
  refine ev_getR (pc' := 155) fo_X8_40 dX8_setFacts_152 rfl hs_115 rfl rf_115_14 ?_
  refine ev_iload_n (pc' := 156) (i := 2) dX8_setFacts_155 rfl rfl rfl ?_
  refine ev_iconst (pc' := 157) (v := 4) dX8_setFacts_156 rfl ki_4 ?_
  refine ev_iadd (pc' := 158) (v := nI ((10 * q) + 4)) dX8_setFacts_157 rfl (nI_add (10 * q) 4) ?_
  refine ev_aload_n (pc' := 159) (i := 0) dX8_setFacts_158 rfl rfl rfl ?_
  refine ev_getI (pc' := 162) (v := (J8 115) 9) fo_X8_160 dX8_setFacts_159 rfl hs_115 rfl rfl ?_
  refine ev_iast (pc' := 163) (j := (10 * q) + 4) (I' := (ma_up J8 124 (ma_up (ma_up (ma_up (ma_up (ma_up (J8 124) (10 * q) (if ¬ (((J4 115) 9) + ((J4 115) 10)) = 4 then (if ¬ ((J4 115) 9) = 2 then (if ¬ (((J4 115) 9) + ((J4 115) 10)) = 3 then (if 3 ≤ (((J4 115) 9) + ((J4 115) 10)) then 0 else 2) else 1) else (if ¬ ((J4 115) 10) = 2 then (if ¬ (((J4 115) 9) + ((J4 115) 10)) = 3 then (if 3 ≤ (((J4 115) 9) + ((J4 115) 10)) then 0 else 2) else 1) else 4)) else (if ¬ ((J4 115) 9) = 3 then (if ¬ ((J4 115) 10) = 3 then (if ¬ ((J4 115) 9) = 2 then (if ¬ (((J4 115) 9) + ((J4 115) 10)) = 3 then (if 3 ≤ (((J4 115) 9) + ((J4 115) 10)) then 0 else 2) else 1) else (if ¬ ((J4 115) 10) = 2 then (if ¬ (((J4 115) 9) + ((J4 115) 10)) = 3 then (if 3 ≤ (((J4 115) 9) + ((J4 115) 10)) then 0 else 2) else 1) else 4)) else (if ¬ ((J8 115) 10) = 3 then (if ¬ ((J4 115) 9) = 2 then (if ¬ (((J4 115) 9) + ((J4 115) 10)) = 3 then (if 3 ≤ (((J4 115) 9) + ((J4 115) 10)) then 0 else 2) else 1) else (if ¬ ((J4 115) 10) = 2 then (if ¬ (((J4 115) 9) + ((J4 115) 10)) = 3 then (if 3 ≤ (((J4 115) 9) + ((J4 115) 10)) then 0 else 2) else 1) else 4)) else 3)) else (if ((J8 115) 9) = 3 then 3 else (if ¬ ((J4 115) 10) = 3 then (if ¬ ((J4 115) 9) = 2 then (if ¬ (((J4 115) 9) + ((J4 115) 10)) = 3 then (if 3 ≤ (((J4 115) 9) + ((J4 115) 10)) then 0 else 2) else 1) else (if ¬ ((J4 115) 10) = 2 then (if ¬ (((J4 115) 9) + ((J4 115) 10)) = 3 then (if 3 ≤ (((J4 115) 9) + ((J4 115) 10)) then 0 else 2) else 1) else 4)) else (if ¬ ((J8 115) 10) = 3 then (if ¬ ((J4 115) 9) = 2 then (if ¬ (((J4 115) 9) + ((J4 115) 10)) = 3 then (if 3 ≤ (((J4 115) 9) + ((J4 115) 10)) then 0 else 2) else 1) else (if ¬ ((J4 115) 10) = 2 then (if ¬ (((J4 115) 9) + ((J4 115) 10)) = 3 then (if 3 ≤ (((J4 115) 9) + ((J4 115) 10)) then 0 else 2) else 1) else 4)) else 3)))))) ((10 * q) + 1) ((J4 115) 9)) ((10 * q) + 2) ((J4 115) 10)) ((10 * q) + 3) ((4 - ((J4 115) 9)) - ((J4 115) 10))) ((10 * q) + 4) ((J8 115) 9)))) dX8_setFacts_162 rfl hs_124 rfl (by omega) (Nat.le_of_ble_eq_true rfl) (ma_up_up _ _ _ _) ?_
  refine ev_aload_n (pc' := 164) (i := 0) dX8_setFacts_163 rfl rfl rfl ?_
  refine ev_getR (pc' := 167) fo_X8_40 dX8_setFacts_164 rfl hs_115 rfl rf_115_14 ?_
  refine ev_iload_n (pc' := 168) (i := 2) dX8_setFacts_167 rfl rfl rfl ?_
  refine ev_iconst (pc' := 169) (v := 5) dX8_setFacts_168 rfl ki_5 ?_
  refine ev_iadd (pc' := 170) (v := nI ((10 * q) + 5)) dX8_setFacts_169 rfl (nI_add (10 * q) 5) ?_
  refine ev_aload_n (pc' := 171) (i := 0) dX8_setFacts_170 rfl rfl rfl ?_
  refine ev_getI (pc' := 174) (v := (J8 115) 10) fo_X8_163 dX8_setFacts_171 rfl hs_115 rfl rfl ?_
  refine ev_iast (pc' := 175) (j := (10 * q) + 5) (I' := (ma_up J8 124 (ma_up (ma_up (ma_up (ma_up (ma_up (ma_up (J8 124) (10 * q) (if ¬ (((J4 115) 9) + ((J4 115) 10)) = 4 then (if ¬ ((J4 115) 9) = 2 then (if ¬ (((J4 115) 9) + ((J4 115) 10)) = 3 then (if 3 ≤ (((J4 115) 9) + ((J4 115) 10)) then 0 else 2) else 1) else (if ¬ ((J4 115) 10) = 2 then (if ¬ (((J4 115) 9) + ((J4 115) 10)) = 3 then (if 3 ≤ (((J4 115) 9) + ((J4 115) 10)) then 0 else 2) else 1) else 4)) else (if ¬ ((J4 115) 9) = 3 then (if ¬ ((J4 115) 10) = 3 then (if ¬ ((J4 115) 9) = 2 then (if ¬ (((J4 115) 9) + ((J4 115) 10)) = 3 then (if 3 ≤ (((J4 115) 9) + ((J4 115) 10)) then 0 else 2) else 1) else (if ¬ ((J4 115) 10) = 2 then (if ¬ (((J4 115) 9) + ((J4 115) 10)) = 3 then (if 3 ≤ (((J4 115) 9) + ((J4 115) 10)) then 0 else 2) else 1) else 4)) else (if ¬ ((J8 115) 10) = 3 then (if ¬ ((J4 115) 9) = 2 then (if ¬ (((J4 115) 9) + ((J4 115) 10)) = 3 then (if 3 ≤ (((J4 115) 9) + ((J4 115) 10)) then 0 else 2) else 1) else (if ¬ ((J4 115) 10) = 2 then (if ¬ (((J4 115) 9) + ((J4 115) 10)) = 3 then (if 3 ≤ (((J4 115) 9) + ((J4 115) 10)) then 0 else 2) else 1) else 4)) else 3)) else (if ((J8 115) 9) = 3 then 3 else (if ¬ ((J4 115) 10) = 3 then (if ¬ ((J4 115) 9) = 2 then (if ¬ (((J4 115) 9) + ((J4 115) 10)) = 3 then (if 3 ≤ (((J4 115) 9) + ((J4 115) 10)) then 0 else 2) else 1) else (if ¬ ((J4 115) 10) = 2 then (if ¬ (((J4 115) 9) + ((J4 115) 10)) = 3 then (if 3 ≤ (((J4 115) 9) + ((J4 115) 10)) then 0 else 2) else 1) else 4)) else (if ¬ ((J8 115) 10) = 3 then (if ¬ ((J4 115) 9) = 2 then (if ¬ (((J4 115) 9) + ((J4 115) 10)) = 3 then (if 3 ≤ (((J4 115) 9) + ((J4 115) 10)) then 0 else 2) else 1) else (if ¬ ((J4 115) 10) = 2 then (if ¬ (((J4 115) 9) + ((J4 115) 10)) = 3 then (if 3 ≤ (((J4 115) 9) + ((J4 115) 10)) then 0 else 2) else 1) else 4)) else 3)))))) ((10 * q) + 1) ((J4 115) 9)) ((10 * q) + 2) ((J4 115) 10)) ((10 * q) + 3) ((4 - ((J4 115) 9)) - ((J4 115) 10))) ((10 * q) + 4) ((J8 115) 9)) ((10 * q) + 5) ((J8 115) 10)))) dX8_setFacts_174 rfl hs_124 rfl (by omega) (Nat.le_of_ble_eq_true rfl) (ma_up_up _ _ _ _) ?_
  refine ev_aload_n (pc' := 176) (i := 0) dX8_setFacts_175 rfl rfl rfl ?_
  refine ev_getR (pc' := 179) fo_X8_40 dX8_setFacts_176 rfl hs_115 rfl rf_115_14 ?_
  refine ev_iload_n (pc' := 180) (i := 2) dX8_setFacts_179 rfl rfl rfl ?_
  refine ev_bipush (pc' := 182) (v := 6) dX8_setFacts_180 rfl kb_6 ?_
  refine ev_iadd (pc' := 183) (v := nI ((10 * q) + 6)) dX8_setFacts_182 rfl (nI_add (10 * q) 6) ?_
  refine ev_iconst (pc' := 184) (v := 3) dX8_setFacts_183 rfl ki_3 ?_
  refine ev_aload_n (pc' := 185) (i := 0) dX8_setFacts_184 rfl rfl rfl ?_
  refine ev_getI (pc' := 188) (v := (J8 115) 9) fo_X8_160 dX8_setFacts_185 rfl hs_115 rfl rfl ?_
  refine ev_isub (pc' := 189) (v := 3 - ((J8 115) 9)) dX8_setFacts_188 rfl rfl ?_
  refine ev_aload_n (pc' := 190) (i := 0) dX8_setFacts_189 rfl rfl rfl ?_
  refine ev_getI (pc' := 193) (v := (J8 115) 10) fo_X8_163 dX8_setFacts_190 rfl hs_115 rfl rfl ?_
  refine ev_isub (pc' := 194) (v := (3 - ((J8 115) 9)) - ((J8 115) 10)) dX8_setFacts_193 rfl rfl ?_
  refine ev_iast (pc' := 195) (j := (10 * q) + 6) (I' := (ma_up J8 124 (ma_up (ma_up (ma_up (ma_up (ma_up (ma_up (ma_up (J8 124) (10 * q) (if ¬ (((J4 115) 9) + ((J4 115) 10)) = 4 then (if ¬ ((J4 115) 9) = 2 then (if ¬ (((J4 115) 9) + ((J4 115) 10)) = 3 then (if 3 ≤ (((J4 115) 9) + ((J4 115) 10)) then 0 else 2) else 1) else (if ¬ ((J4 115) 10) = 2 then (if ¬ (((J4 115) 9) + ((J4 115) 10)) = 3 then (if 3 ≤ (((J4 115) 9) + ((J4 115) 10)) then 0 else 2) else 1) else 4)) else (if ¬ ((J4 115) 9) = 3 then (if ¬ ((J4 115) 10) = 3 then (if ¬ ((J4 115) 9) = 2 then (if ¬ (((J4 115) 9) + ((J4 115) 10)) = 3 then (if 3 ≤ (((J4 115) 9) + ((J4 115) 10)) then 0 else 2) else 1) else (if ¬ ((J4 115) 10) = 2 then (if ¬ (((J4 115) 9) + ((J4 115) 10)) = 3 then (if 3 ≤ (((J4 115) 9) + ((J4 115) 10)) then 0 else 2) else 1) else 4)) else (if ¬ ((J8 115) 10) = 3 then (if ¬ ((J4 115) 9) = 2 then (if ¬ (((J4 115) 9) + ((J4 115) 10)) = 3 then (if 3 ≤ (((J4 115) 9) + ((J4 115) 10)) then 0 else 2) else 1) else (if ¬ ((J4 115) 10) = 2 then (if ¬ (((J4 115) 9) + ((J4 115) 10)) = 3 then (if 3 ≤ (((J4 115) 9) + ((J4 115) 10)) then 0 else 2) else 1) else 4)) else 3)) else (if ((J8 115) 9) = 3 then 3 else (if ¬ ((J4 115) 10) = 3 then (if ¬ ((J4 115) 9) = 2 then (if ¬ (((J4 115) 9) + ((J4 115) 10)) = 3 then (if 3 ≤ (((J4 115) 9) + ((J4 115) 10)) then 0 else 2) else 1) else (if ¬ ((J4 115) 10) = 2 then (if ¬ (((J4 115) 9) + ((J4 115) 10)) = 3 then (if 3 ≤ (((J4 115) 9) + ((J4 115) 10)) then 0 else 2) else 1) else 4)) else (if ¬ ((J8 115) 10) = 3 then (if ¬ ((J4 115) 9) = 2 then (if ¬ (((J4 115) 9) + ((J4 115) 10)) = 3 then (if 3 ≤ (((J4 115) 9) + ((J4 115) 10)) then 0 else 2) else 1) else (if ¬ ((J4 115) 10) = 2 then (if ¬ (((J4 115) 9) + ((J4 115) 10)) = 3 then (if 3 ≤ (((J4 115) 9) + ((J4 115) 10)) then 0 else 2) else 1) else 4)) else 3)))))) ((10 * q) + 1) ((J4 115) 9)) ((10 * q) + 2) ((J4 115) 10)) ((10 * q) + 3) ((4 - ((J4 115) 9)) - ((J4 115) 10))) ((10 * q) + 4) ((J8 115) 9)) ((10 * q) + 5) ((J8 115) 10)) ((10 * q) + 6) ((3 - ((J8 115) 9)) - ((J8 115) 10))))) dX8_setFacts_194 rfl hs_124 rfl (by omega) (Nat.le_of_ble_eq_true rfl) (ma_up_up _ _ _ _) ?_
  refine ev_aload_n (pc' := 196) (i := 0) dX8_setFacts_195 rfl rfl rfl ?_
  refine ev_getR (pc' := 199) fo_X8_40 dX8_setFacts_196 rfl hs_115 rfl rf_115_14 ?_
  refine ev_iload_n (pc' := 200) (i := 2) dX8_setFacts_199 rfl rfl rfl ?_
  refine ev_bipush (pc' := 202) (v := 7) dX8_setFacts_200 rfl kb_7 ?_
  refine ev_iadd (pc' := 203) (v := nI ((10 * q) + 7)) dX8_setFacts_202 rfl (nI_add (10 * q) 7) ?_
  refine ev_aload_n (pc' := 204) (i := 0) dX8_setFacts_203 rfl rfl rfl ?_
  refine ev_getR (pc' := 207) fo_X8_26 dX8_setFacts_204 rfl hs_115 rfl rf_115_8 ?_
  refine ev_callS (pc' := 210) (rm' := rX8_worthOf) (av := [.ref 120]) (rest := [.int (nI ((10 * q) + 7)), .ref 124]) co_X8_173 cs_X8_worthOf dX8_setFacts_207 rfl rfl rfl (Nat.le_of_ble_eq_true rfl) ⟨(Nat.le_of_ble_eq_true rfl), (Nat.le_of_ble_eq_true rfl)⟩ ⟨(Nat.le_of_ble_eq_true rfl), (Nat.le_of_ble_eq_true rfl)⟩ ?_
  refine t_X8_worthOf 120 hs_120 ?_
  refine ev_l2i (pc' := 211) (v := Int64.toInt32 (mW (K1 120))) dX8_setFacts_210 rfl rfl ?_
  refine ev_iast (pc' := 212) (j := (10 * q) + 7) (I' := (ma_up J8 124 (ma_up (ma_up (ma_up (ma_up (ma_up (ma_up (ma_up (ma_up (J8 124) (10 * q) (if ¬ (((J4 115) 9) + ((J4 115) 10)) = 4 then (if ¬ ((J4 115) 9) = 2 then (if ¬ (((J4 115) 9) + ((J4 115) 10)) = 3 then (if 3 ≤ (((J4 115) 9) + ((J4 115) 10)) then 0 else 2) else 1) else (if ¬ ((J4 115) 10) = 2 then (if ¬ (((J4 115) 9) + ((J4 115) 10)) = 3 then (if 3 ≤ (((J4 115) 9) + ((J4 115) 10)) then 0 else 2) else 1) else 4)) else (if ¬ ((J4 115) 9) = 3 then (if ¬ ((J4 115) 10) = 3 then (if ¬ ((J4 115) 9) = 2 then (if ¬ (((J4 115) 9) + ((J4 115) 10)) = 3 then (if 3 ≤ (((J4 115) 9) + ((J4 115) 10)) then 0 else 2) else 1) else (if ¬ ((J4 115) 10) = 2 then (if ¬ (((J4 115) 9) + ((J4 115) 10)) = 3 then (if 3 ≤ (((J4 115) 9) + ((J4 115) 10)) then 0 else 2) else 1) else 4)) else (if ¬ ((J8 115) 10) = 3 then (if ¬ ((J4 115) 9) = 2 then (if ¬ (((J4 115) 9) + ((J4 115) 10)) = 3 then (if 3 ≤ (((J4 115) 9) + ((J4 115) 10)) then 0 else 2) else 1) else (if ¬ ((J4 115) 10) = 2 then (if ¬ (((J4 115) 9) + ((J4 115) 10)) = 3 then (if 3 ≤ (((J4 115) 9) + ((J4 115) 10)) then 0 else 2) else 1) else 4)) else 3)) else (if ((J8 115) 9) = 3 then 3 else (if ¬ ((J4 115) 10) = 3 then (if ¬ ((J4 115) 9) = 2 then (if ¬ (((J4 115) 9) + ((J4 115) 10)) = 3 then (if 3 ≤ (((J4 115) 9) + ((J4 115) 10)) then 0 else 2) else 1) else (if ¬ ((J4 115) 10) = 2 then (if ¬ (((J4 115) 9) + ((J4 115) 10)) = 3 then (if 3 ≤ (((J4 115) 9) + ((J4 115) 10)) then 0 else 2) else 1) else 4)) else (if ¬ ((J8 115) 10) = 3 then (if ¬ ((J4 115) 9) = 2 then (if ¬ (((J4 115) 9) + ((J4 115) 10)) = 3 then (if 3 ≤ (((J4 115) 9) + ((J4 115) 10)) then 0 else 2) else 1) else (if ¬ ((J4 115) 10) = 2 then (if ¬ (((J4 115) 9) + ((J4 115) 10)) = 3 then (if 3 ≤ (((J4 115) 9) + ((J4 115) 10)) then 0 else 2) else 1) else 4)) else 3)))))) ((10 * q) + 1) ((J4 115) 9)) ((10 * q) + 2) ((J4 115) 10)) ((10 * q) + 3) ((4 - ((J4 115) 9)) - ((J4 115) 10))) ((10 * q) + 4) ((J8 115) 9)) ((10 * q) + 5) ((J8 115) 10)) ((10 * q) + 6) ((3 - ((J8 115) 9)) - ((J8 115) 10))) ((10 * q) + 7) (Int64.toInt32 (mW (K1 120)))))) dX8_setFacts_211 rfl hs_124 rfl (by omega) (Nat.le_of_ble_eq_true rfl) (ma_up_up _ _ _ _) ?_
  refine ev_aload_n (pc' := 213) (i := 0) dX8_setFacts_212 rfl rfl rfl ?_
  refine ev_getR (pc' := 216) fo_X8_40 dX8_setFacts_213 rfl hs_115 rfl rf_115_14 ?_
  refine ev_iload_n (pc' := 217) (i := 2) dX8_setFacts_216 rfl rfl rfl ?_
  refine ev_bipush (pc' := 219) (v := 8) dX8_setFacts_217 rfl kb_8 ?_
  refine ev_iadd (pc' := 220) (v := nI ((10 * q) + 8)) dX8_setFacts_219 rfl (nI_add (10 * q) 8) ?_
  refine ev_aload_n (pc' := 221) (i := 0) dX8_setFacts_220 rfl rfl rfl ?_
  refine ev_iconst (pc' := 222) (v := 0) dX8_setFacts_221 rfl ki_0 ?_
  refine ev_iconst (pc' := 223) (v := 1) dX8_setFacts_222 rfl ki_1 ?_
  refine ev_iconst (pc' := 224) (v := 2) dX8_setFacts_223 rfl ki_2 ?_
  refine ev_callV (pc' := 227) (rm' := rX8_three) (b := 115) (av := [.int 0, .int 1, .int 2]) (rest := [.int (nI ((10 * q) + 8)), .ref 124]) co_X8_169 ci_X8_three cv_X8_three dX8_setFacts_224 rfl hs_115 hb_X8 rfl rfl (Nat.le_of_ble_eq_true rfl) ⟨(Nat.le_of_ble_eq_true rfl), (Nat.le_of_ble_eq_true rfl)⟩ ⟨(Nat.le_of_ble_eq_true rfl), (Nat.le_of_ble_eq_true rfl)⟩ ?_
  refine t_X8_three 0 1 2 (by omega) (by omega) (by omega) ?_
  refine ev_l2i (pc' := 228) (v := Int64.toInt32 (m3 (K1 120) 0 1 2)) dX8_setFacts_227 rfl rfl ?_
  refine ev_iast (pc' := 229) (j := (10 * q) + 8) (I' := (ma_up J8 124 (ma_up (ma_up (ma_up (ma_up (ma_up (ma_up (ma_up (ma_up (ma_up (J8 124) (10 * q) (if ¬ (((J4 115) 9) + ((J4 115) 10)) = 4 then (if ¬ ((J4 115) 9) = 2 then (if ¬ (((J4 115) 9) + ((J4 115) 10)) = 3 then (if 3 ≤ (((J4 115) 9) + ((J4 115) 10)) then 0 else 2) else 1) else (if ¬ ((J4 115) 10) = 2 then (if ¬ (((J4 115) 9) + ((J4 115) 10)) = 3 then (if 3 ≤ (((J4 115) 9) + ((J4 115) 10)) then 0 else 2) else 1) else 4)) else (if ¬ ((J4 115) 9) = 3 then (if ¬ ((J4 115) 10) = 3 then (if ¬ ((J4 115) 9) = 2 then (if ¬ (((J4 115) 9) + ((J4 115) 10)) = 3 then (if 3 ≤ (((J4 115) 9) + ((J4 115) 10)) then 0 else 2) else 1) else (if ¬ ((J4 115) 10) = 2 then (if ¬ (((J4 115) 9) + ((J4 115) 10)) = 3 then (if 3 ≤ (((J4 115) 9) + ((J4 115) 10)) then 0 else 2) else 1) else 4)) else (if ¬ ((J8 115) 10) = 3 then (if ¬ ((J4 115) 9) = 2 then (if ¬ (((J4 115) 9) + ((J4 115) 10)) = 3 then (if 3 ≤ (((J4 115) 9) + ((J4 115) 10)) then 0 else 2) else 1) else (if ¬ ((J4 115) 10) = 2 then (if ¬ (((J4 115) 9) + ((J4 115) 10)) = 3 then (if 3 ≤ (((J4 115) 9) + ((J4 115) 10)) then 0 else 2) else 1) else 4)) else 3)) else (if ((J8 115) 9) = 3 then 3 else (if ¬ ((J4 115) 10) = 3 then (if ¬ ((J4 115) 9) = 2 then (if ¬ (((J4 115) 9) + ((J4 115) 10)) = 3 then (if 3 ≤ (((J4 115) 9) + ((J4 115) 10)) then 0 else 2) else 1) else (if ¬ ((J4 115) 10) = 2 then (if ¬ (((J4 115) 9) + ((J4 115) 10)) = 3 then (if 3 ≤ (((J4 115) 9) + ((J4 115) 10)) then 0 else 2) else 1) else 4)) else (if ¬ ((J8 115) 10) = 3 then (if ¬ ((J4 115) 9) = 2 then (if ¬ (((J4 115) 9) + ((J4 115) 10)) = 3 then (if 3 ≤ (((J4 115) 9) + ((J4 115) 10)) then 0 else 2) else 1) else (if ¬ ((J4 115) 10) = 2 then (if ¬ (((J4 115) 9) + ((J4 115) 10)) = 3 then (if 3 ≤ (((J4 115) 9) + ((J4 115) 10)) then 0 else 2) else 1) else 4)) else 3)))))) ((10 * q) + 1) ((J4 115) 9)) ((10 * q) + 2) ((J4 115) 10)) ((10 * q) + 3) ((4 - ((J4 115) 9)) - ((J4 115) 10))) ((10 * q) + 4) ((J8 115) 9)) ((10 * q) + 5) ((J8 115) 10)) ((10 * q) + 6) ((3 - ((J8 115) 9)) - ((J8 115) 10))) ((10 * q) + 7) (Int64.toInt32 (mW (K1 120)))) ((10 * q) + 8) (Int64.toInt32 (m3 (K1 120) 0 1 2))))) dX8_setFacts_228 rfl hs_124 rfl (by omega) (Nat.le_of_ble_eq_true rfl) (ma_up_up _ _ _ _) ?_
  refine ev_aload_n (pc' := 230) (i := 0) dX8_setFacts_229 rfl rfl rfl ?_
  refine ev_getR (pc' := 233) fo_X8_40 dX8_setFacts_230 rfl hs_115 rfl rf_115_14 ?_
  refine ev_iload_n (pc' := 234) (i := 2) dX8_setFacts_233 rfl rfl rfl ?_
  refine ev_bipush (pc' := 236) (v := 9) dX8_setFacts_234 rfl kb_9 ?_
  refine ev_iadd (pc' := 237) (v := nI ((10 * q) + 9)) dX8_setFacts_236 rfl (nI_add (10 * q) 9) ?_
  refine ev_iload_n (pc' := 238) (i := 3) dX8_setFacts_237 rfl rfl rfl ?_
  refine ev_iload (pc' := 240) dX8_setFacts_238 rfl rfl ?_
  refine ev_aload_n (pc' := 241) (i := 0) dX8_setFacts_240 rfl rfl rfl ?_
  refine ev_getI (pc' := 244) (v := (J8 115) 9) fo_X8_160 dX8_setFacts_241 rfl hs_115 rfl rfl ?_
  refine ev_aload_n (pc' := 245) (i := 0) dX8_setFacts_244 rfl rfl rfl ?_
  refine ev_getI (pc' := 248) (v := (J8 115) 10) fo_X8_163 dX8_setFacts_245 rfl hs_115 rfl rfl ?_
  refine ev_callS (pc' := 251) (rm' := rX8_nameOf) (av := [.int ((J4 115) 9), .int ((J4 115) 10), .int ((J8 115) 9), .int ((J8 115) 10)]) (rest := [.int (nI ((10 * q) + 9)), .ref 124]) co_X8_194 cs_X8_nameOf dX8_setFacts_248 rfl rfl rfl (Nat.le_of_ble_eq_true rfl) ⟨(Nat.le_of_ble_eq_true rfl), (Nat.le_of_ble_eq_true rfl)⟩ ⟨(Nat.le_of_ble_eq_true rfl), (Nat.le_of_ble_eq_true rfl)⟩ ?_
  refine t_X8_nameOf ((J4 115) 9) ((J4 115) 10) ((J8 115) 9) ((J8 115) 10)  ?_
  refine ev_iast (pc' := 252) (j := (10 * q) + 9) (I' := (ma_up J8 124 (ma_up (ma_up (ma_up (ma_up (ma_up (ma_up (ma_up (ma_up (ma_up (ma_up (J8 124) (10 * q) (if ¬ (((J4 115) 9) + ((J4 115) 10)) = 4 then (if ¬ ((J4 115) 9) = 2 then (if ¬ (((J4 115) 9) + ((J4 115) 10)) = 3 then (if 3 ≤ (((J4 115) 9) + ((J4 115) 10)) then 0 else 2) else 1) else (if ¬ ((J4 115) 10) = 2 then (if ¬ (((J4 115) 9) + ((J4 115) 10)) = 3 then (if 3 ≤ (((J4 115) 9) + ((J4 115) 10)) then 0 else 2) else 1) else 4)) else (if ¬ ((J4 115) 9) = 3 then (if ¬ ((J4 115) 10) = 3 then (if ¬ ((J4 115) 9) = 2 then (if ¬ (((J4 115) 9) + ((J4 115) 10)) = 3 then (if 3 ≤ (((J4 115) 9) + ((J4 115) 10)) then 0 else 2) else 1) else (if ¬ ((J4 115) 10) = 2 then (if ¬ (((J4 115) 9) + ((J4 115) 10)) = 3 then (if 3 ≤ (((J4 115) 9) + ((J4 115) 10)) then 0 else 2) else 1) else 4)) else (if ¬ ((J8 115) 10) = 3 then (if ¬ ((J4 115) 9) = 2 then (if ¬ (((J4 115) 9) + ((J4 115) 10)) = 3 then (if 3 ≤ (((J4 115) 9) + ((J4 115) 10)) then 0 else 2) else 1) else (if ¬ ((J4 115) 10) = 2 then (if ¬ (((J4 115) 9) + ((J4 115) 10)) = 3 then (if 3 ≤ (((J4 115) 9) + ((J4 115) 10)) then 0 else 2) else 1) else 4)) else 3)) else (if ((J8 115) 9) = 3 then 3 else (if ¬ ((J4 115) 10) = 3 then (if ¬ ((J4 115) 9) = 2 then (if ¬ (((J4 115) 9) + ((J4 115) 10)) = 3 then (if 3 ≤ (((J4 115) 9) + ((J4 115) 10)) then 0 else 2) else 1) else (if ¬ ((J4 115) 10) = 2 then (if ¬ (((J4 115) 9) + ((J4 115) 10)) = 3 then (if 3 ≤ (((J4 115) 9) + ((J4 115) 10)) then 0 else 2) else 1) else 4)) else (if ¬ ((J8 115) 10) = 3 then (if ¬ ((J4 115) 9) = 2 then (if ¬ (((J4 115) 9) + ((J4 115) 10)) = 3 then (if 3 ≤ (((J4 115) 9) + ((J4 115) 10)) then 0 else 2) else 1) else (if ¬ ((J4 115) 10) = 2 then (if ¬ (((J4 115) 9) + ((J4 115) 10)) = 3 then (if 3 ≤ (((J4 115) 9) + ((J4 115) 10)) then 0 else 2) else 1) else 4)) else 3)))))) ((10 * q) + 1) ((J4 115) 9)) ((10 * q) + 2) ((J4 115) 10)) ((10 * q) + 3) ((4 - ((J4 115) 9)) - ((J4 115) 10))) ((10 * q) + 4) ((J8 115) 9)) ((10 * q) + 5) ((J8 115) 10)) ((10 * q) + 6) ((3 - ((J8 115) 9)) - ((J8 115) 10))) ((10 * q) + 7) (Int64.toInt32 (mW (K1 120)))) ((10 * q) + 8) (Int64.toInt32 (m3 (K1 120) 0 1 2))) ((10 * q) + 9) (mNm ((J4 115) 9) ((J4 115) 10) ((J8 115) 9) ((J8 115) 10))))) dX8_setFacts_251 rfl hs_124 rfl (by omega) (Nat.le_of_ble_eq_true rfl) (ma_up_up _ _ _ _) ?_
  refine ev_iload (pc' := 254) dX8_setFacts_252 rfl rfl ?_
  refine ev_iret dX8_setFacts_254 rfl rfl ⟨Nat.le_refl _, Nat.le_refl _⟩ ?_
  exact k1 K1 f2 f3 J4 f5 f6 f7 J8 f9 f10 f11
def mKd (a b c d : Int32) : Int32 := (if ¬ (a + b) = 4 then (if ¬ a = 2 then (if ¬ (a + b) = 3 then (if 3 ≤ (a + b) then 0 else 2) else 1) else (if ¬ b = 2 then (if ¬ (a + b) = 3 then (if 3 ≤ (a + b) then 0 else 2) else 1) else 4)) else (if ¬ a = 3 then (if ¬ b = 3 then (if ¬ a = 2 then (if ¬ (a + b) = 3 then (if 3 ≤ (a + b) then 0 else 2) else 1) else (if ¬ b = 2 then (if ¬ (a + b) = 3 then (if 3 ≤ (a + b) then 0 else 2) else 1) else 4)) else (if ¬ d = 3 then (if ¬ a = 2 then (if ¬ (a + b) = 3 then (if 3 ≤ (a + b) then 0 else 2) else 1) else (if ¬ b = 2 then (if ¬ (a + b) = 3 then (if 3 ≤ (a + b) then 0 else 2) else 1) else 4)) else 3)) else (if c = 3 then 3 else (if ¬ b = 3 then (if ¬ a = 2 then (if ¬ (a + b) = 3 then (if 3 ≤ (a + b) then 0 else 2) else 1) else (if ¬ b = 2 then (if ¬ (a + b) = 3 then (if 3 ≤ (a + b) then 0 else 2) else 1) else 4)) else (if ¬ d = 3 then (if ¬ a = 2 then (if ¬ (a + b) = 3 then (if 3 ≤ (a + b) then 0 else 2) else 1) else (if ¬ b = 2 then (if ¬ (a + b) = 3 then (if 3 ≤ (a + b) then 0 else 2) else 1) else 4)) else 3)))))
theorem row10 (f : Nat → Int32) (b : Nat) (v : Nat → Int32) (j : Nat) : (ma_up (ma_up (ma_up (ma_up (ma_up (ma_up (ma_up (ma_up (ma_up (ma_up f b (v 0)) (b + 1) (v 1)) (b + 2) (v 2)) (b + 3) (v 3)) (b + 4) (v 4)) (b + 5) (v 5)) (b + 6) (v 6)) (b + 7) (v 7)) (b + 8) (v 8)) (b + 9) (v 9)) j = if b ≤ j ∧ j < b + 10 then v (j - b) else f j := by
  by_cases hj : b ≤ j ∧ j < b + 10
  · rw [if_pos hj]
    obtain ⟨i, hi, rfl⟩ : ∃ i, i < 10 ∧ j = b + i := ⟨j - b, by omega, by omega⟩
    rw [Nat.add_sub_cancel_left]
    match i, hi with
    | 0, _ => simp [ma_up]
    | 1, _ => simp [ma_up]
    | 2, _ => simp [ma_up]
    | 3, _ => simp [ma_up]
    | 4, _ => simp [ma_up]
    | 5, _ => simp [ma_up]
    | 6, _ => simp [ma_up]
    | 7, _ => simp [ma_up]
    | 8, _ => simp [ma_up]
    | 9, _ => simp [ma_up]
  · rw [if_neg hj]
    have h0 : j ≠ b := by omega
    have : ∀ c, c < 10 → j ≠ b + c := fun c hc => by omega
    rw [ma_up_n _ _ (this 9 (by omega)), ma_up_n _ _ (this 8 (by omega)), ma_up_n _ _ (this 7 (by omega)), ma_up_n _ _ (this 6 (by omega)), ma_up_n _ _ (this 5 (by omega)), ma_up_n _ _ (this 4 (by omega)), ma_up_n _ _ (this 3 (by omega)), ma_up_n _ _ (this 2 (by omega)), ma_up_n _ _ (this 1 (by omega)), ma_up_n _ _ h0]
def mFc (t : Nat → Int64) (i : Nat) : Int32 := match i with
  | 0 => mKd (mFA t) (mFB t) (mTA t) (mTB t)
  | 1 => mFA t
  | 2 => mFB t
  | 3 => (4 - mFA t) - mFB t
  | 4 => mTA t
  | 5 => mTB t
  | 6 => (3 - mTA t) - mTB t
  | 7 => (mW t).toInt32
  | 8 => (m3 t 0 1 2).toInt32
  | _ => mNm (mFA t) (mFB t) (mTA t) (mTB t)
theorem f_X8_setFacts {g : ma_G} {Post : ma_P} {I : ma_I} {L : ma_L} (q : Nat) (hq : q < 12) (k : ∀ (r : Int32) (J : ma_I) (K : ma_L), (∀ j, J 124 j = if 10 * q ≤ j ∧ j < 10 * q + 10 then mFc (K 120) (j - 10 * q) else I 124 j) → (∀ j, j < 16 → K 120 j = (I 123 (16 * q + j)).toInt64) → (mSl [120] L K) → (mSx [121, 124] [9, 10] I J) → (r = mFc (K 120) 0) → Post (some (.int r)) HS J K RF 146) : CT g yX8_setFacts cX8_setFacts 6 (some .int) rX8_setFacts [.ref 115, .int (nI q)] Post HS I L RF 146 := by
  refine t_X8_setFacts0 q hq (fun K1 h1 h2 J4 a1 a2 a3 J8 b1 b2 b3 => ?_)
  refine k _ K1 ?_ h1 h2 ?_ (r := _) ?_
  · intro j
    rw [ma_up_s, a1, a2, b1, b2]
    have e8 : J8 124 = I 124 := by rw [b3.1 124 (by decide) (by decide), a3.1 124 (by decide) (by decide)]
    rw [← e8]
    exact row10 (J8 124) (10 * q) (mFc (K1 120)) j
  · have e := a3.trans b3
    refine ⟨fun a g1 g2 => ?_, fun k hk => ?_⟩
    · simp only [List.mem_cons, List.not_mem_nil, or_false, not_or] at g2
      rw [ma_up_n _ _ g2.2]
      exact e.1 a g1 (by simp [g2.1])
    · rw [ma_up_n _ _ (by decide)]
      simp only [List.mem_cons, List.not_mem_nil, or_false, not_or] at hk
      exact e.2 k (by simp [hk])
  · rw [a1, a2, b1, b2]; rfl
