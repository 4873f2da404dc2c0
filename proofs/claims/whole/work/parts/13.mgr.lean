section Nm2
variable {g : ma_G} {y : MethodName} {cc : ByteArray} {nL : Nat} {ret : Option FieldType} {rm : Room} {av : List Value} {Post : ma_P} {sh : ma_S} {I : ma_I} {L : ma_L} {R : ma_R} {n : Nat}
theorem ct_memI (k : ∀ J : ma_I, J = I → CT g y cc nL ret rm av Post sh J L R n) : CT g y cc nL ret rm av Post sh I L R n := k I rfl
theorem ct_memL (k : ∀ J : ma_L, J = L → CT g y cc nL ret rm av Post sh I J R n) : CT g y cc nL ret rm av Post sh I L R n := k L rfl
end Nm2
/-- the same but for the rows A, and but for the fields B of the reference's own object -/
def mSx (A B : List Nat) (I J : ma_I) : Prop := (∀ a, a ≠ 115 → a ∉ A → J a = I a) ∧ ∀ k, k ∉ B → J 115 k = I 115 k
def mSl (A : List Nat) (L K : ma_L) : Prop := ∀ a, a ∉ A → K a = L a
theorem mSx.trans {A B A' B' : List Nat} {I J K : ma_I} (h : mSx A B I J) (h' : mSx A' B' J K) : mSx (A ++ A') (B ++ B') I K :=
  ⟨fun a h1 h2 => by rw [List.mem_append, not_or] at h2; rw [h'.1 a h1 h2.2, h.1 a h1 h2.1], fun k hk => by rw [List.mem_append, not_or] at hk; rw [h'.2 k hk.2, h.2 k hk.1]⟩
theorem mSl.trans {A A' : List Nat} {L K M : ma_L} (h : mSl A L K) (h' : mSl A' K M) : mSl (A ++ A') L M := fun a h2 => by rw [List.mem_append, not_or] at h2; rw [h' a h2.2, h a h2.1]
theorem mSl.rf {L : ma_L} : mSl [] L L := fun _ _ => rfl
theorem mSx.rf {I : ma_I} : mSx [] [] I I := ⟨fun _ _ _ => rfl, fun _ _ => rfl⟩
theorem mSx.le {A B A' B' : List Nat} {I J : ma_I} (h : mSx A B I J) (ha : ∀ a, a ∈ A → a ∈ A') (hb : ∀ a, a ∈ B → a ∈ B') : mSx A' B' I J := ⟨fun a h1 h2 => h.1 a h1 (fun q => h2 (ha a q)), fun k hk => h.2 k (fun q => hk (hb k q))⟩
theorem f_X8_layFour {g : ma_G} {Post : ma_P} {I : ma_I} {L : ma_L}   (k : ∀ (J : ma_I), (J 115 9 = mFA (L 120)) → (J 115 10 = mFB (L 120)) → (mSx [121] [9, 10] I J) → Post none HS J L RF 146) : CT g yX8_layFour cX8_layFour 7 none rX8_layFour [.ref 115] Post HS I L RF 146 := by
  refine t_X8_layFour (k _ rfl rfl (?_))
  refine ⟨fun a h1 h2 => ?_, fun k h => ?_⟩
  · simp only [List.mem_cons, List.not_mem_nil, or_false, not_or] at h2
    simp [ma_up, h1, h2]
  · simp only [List.mem_cons, List.not_mem_nil, or_false, not_or] at h
    simp [ma_up, h]
theorem f_X8_layThree {g : ma_G} {Post : ma_P} {I : ma_I} {L : ma_L}   (k : ∀ (J : ma_I), (J 115 9 = mTA (L 120)) → (J 115 10 = mTB (L 120)) → (mSx [121] [9, 10] I J) → Post none HS J L RF 146) : CT g yX8_layThree cX8_layThree 1 none rX8_layThree [.ref 115] Post HS I L RF 146 := by
  refine t_X8_layThree (k _ rfl rfl (?_))
  refine ⟨fun a h1 h2 => ?_, fun k h => ?_⟩
  · simp only [List.mem_cons, List.not_mem_nil, or_false, not_or] at h2
    simp [ma_up, h1, h2]
  · simp only [List.mem_cons, List.not_mem_nil, or_false, not_or] at h
    simp [ma_up, h]
theorem f_X8_layTable {g : ma_G} {Post : ma_P} {I : ma_I} {L : ma_L} (q : Nat) (hq : q < 12) (k : ∀ (K : ma_L), (∀ j, j < 16 → K 120 j = (I 123 (16 * q + j)).toInt64) → (mSl [120] L K) → Post none HS I K RF 146) : CT g yX8_layTable cX8_layTable 3 none rX8_layTable [.ref 115, .int (nI q)] Post HS I L RF 146 := by
  refine t_X8_layTable q hq (k _ (fun j hj => ?_) (fun a h => ?_))
  · rw [mfill_at, if_pos (by omega)]; rfl
  · simp only [List.mem_cons, List.not_mem_nil, or_false] at h; exact mfill_n _ _ _ _ h
set_option maxRecDepth 4000 in
theorem t_X8_setFacts0 {g : ma_G} {Post : ma_P} {I : ma_I} {L : ma_L}  (q : Nat) (hq : q < 12) (k1 : ∀ K1 : ma_L, (∀ j, j < 16 → K1 120 j = (I 123 (16 * q + j)).toInt64) → (mSl [120] L K1) → ∀ J4 : ma_I, (J4 115 9 = mFA (K1 120)) → (J4 115 10 = mFB (K1 120)) → (mSx [121] [9, 10] I J4) → ∀ J8 : ma_I, (J8 115 9 = mTA (K1 120)) → (J8 115 10 = mTB (K1 120)) → (mSx [121] [9, 10] J4 J8) → Post (some (.int (if ¬ (((J4 115) 9) + ((J4 115) 10)) = 4 then (if ¬ ((J4 115) 9) = 2 then (if ¬ (((J4 115) 9) + ((J4 115) 10)) = 3 then (if 3 ≤ (((J4 115) 9) + ((J4 115) 10)) then 0 else 2) else 1) else (if ¬ ((J4 115) 10) = 2 then (if ¬ (((J4 115) 9) + ((J4 115) 10)) = 3 then (if 3 ≤ (((J4 115) 9) + ((J4 115) 10)) then 0 else 2) else 1) else 4)) else (if ¬ ((J4 115) 9) = 3 then (if ¬ ((J4 115) 10) = 3 then (if ¬ ((J4 115) 9) = 2 then (if ¬ (((J4 115) 9) + ((J4 115) 10)) = 3 then (if 3 ≤ (((J4 115) 9) + ((J4 115) 10)) then 0 else 2) else 1) else (if ¬ ((J4 115) 10) = 2 then (if ¬ (((J4 115) 9) + ((J4 115) 10)) = 3 then (if 3 ≤ (((J4 115) 9) + ((J4 115) 10)) then 0 else 2) else 1) else 4)) else (if ¬ ((J8 115) 10) = 3 then (if ¬ ((J4 115) 9) = 2 then (if ¬ (((J4 115) 9) + ((J4 115) 10)) = 3 then (if 3 ≤ (((J4 115) 9) + ((J4 115) 10)) then 0 else 2) else 1) else (if ¬ ((J4 115) 10) = 2 then (if ¬ (((J4 115) 9) + ((J4 115) 10)) = 3 then (if 3 ≤ (((J4 115) 9) + ((J4 115) 10)) then 0 else 2) else 1) else 4)) else 3)) else (if ((J8 115) 9) = 3 then 3 else (if ¬ ((J4 115) 10) = 3 then (if ¬ ((J4 115) 9) = 2 then (if ¬ (((J4 115) 9) + ((J4 115) 10)) = 3 then (if 3 ≤ (((J4 115) 9) + ((J4 115) 10)) then 0 else 2) else 1) else (if ¬ ((J4 115) 10) = 2 then (if ¬ (((J4 115) 9) + ((J4 115) 10)) = 3 then (if 3 ≤ (((J4 115) 9) + ((J4 115) 10)) then 0 else 2) else 1) else 4)) else (if ¬ ((J8 115) 10) = 3 then (if ¬ ((J4 115) 9) = 2 then (if ¬ (((J4 115) 9) + ((J4 115) 10)) = 3 then (if 3 ≤ (((J4 115) 9) + ((J4 115) 10)) then 0 else 2) else 1) else (if ¬ ((J4 115) 10) = 2 then (if ¬ (((J4 115) 9) + ((J4 115) 10)) = 3 then (if 3 ≤ (((J4 115) 9) + ((J4 115) 10)) then 0 else 2) else 1) else 4)) else 3))))))) HS (ma_up J8 124 (ma_up (ma_up (ma_up (ma_up (ma_up (ma_up (ma_up (ma_up (ma_up (ma_up (J8 124) (10 * q) (if ¬ (((J4 115) 9) + ((J4 115) 10)) = 4 then (if ¬ ((J4 115) 9) = 2 then (if ¬ (((J4 115) 9) + ((J4 115) 10)) = 3 then (if 3 ≤ (((J4 115) 9) + ((J4 115) 10)) then 0 else 2) else 1) else (if ¬ ((J4 115) 10) = 2 then (if ¬ (((J4 115) 9) + ((J4 115) 10)) = 3 then (if 3 ≤ (((J4 115) 9) + ((J4 115) 10)) then 0 else 2) else 1) else 4)) else (if ¬ ((J4 115) 9) = 3 then (if ¬ ((J4 115) 10) = 3 then (if ¬ ((J4 115) 9) = 2 then (if ¬ (((J4 115) 9) + ((J4 115) 10)) = 3 then (if 3 ≤ (((J4 115) 9) + ((J4 115) 10)) then 0 else 2) else 1) else (if ¬ ((J4 115) 10) = 2 then (if ¬ (((J4 115) 9) + ((J4 115) 10)) = 3 then (if 3 ≤ (((J4 115) 9) + ((J4 115) 10)) then 0 else 2) else 1) else 4)) else (if ¬ ((J8 115) 10) = 3 then (if ¬ ((J4 115) 9) = 2 then (if ¬ (((J4 115) 9) + ((J4 115) 10)) = 3 then (if 3 ≤ (((J4 115) 9) + ((J4 115) 10)) then 0 else 2) else 1) else (if ¬ ((J4 115) 10) = 2 then (if ¬ (((J4 115) 9) + ((J4 115) 10)) = 3 then (if 3 ≤ (((J4 115) 9) + ((J4 115) 10)) then 0 else 2) else 1) else 4)) else 3)) else (if ((J8 115) 9) = 3 then 3 else (if ¬ ((J4 115) 10) = 3 then (if ¬ ((J4 115) 9) = 2 then (if ¬ (((J4 115) 9) + ((J4 115) 10)) = 3 then (if 3 ≤ (((J4 115) 9) + ((J4 115) 10)) then 0 else 2) else 1) else (if ¬ ((J4 115) 10) = 2 then (if ¬ (((J4 115) 9) + ((J4 115) 10)) = 3 then (if 3 ≤ (((J4 115) 9) + ((J4 115) 10)) then 0 else 2) else 1) else 4)) else (if ¬ ((J8 115) 10) = 3 then (if ¬ ((J4 115) 9) = 2 then (if ¬ (((J4 115) 9) + ((J4 115) 10)) = 3 then (if 3 ≤ (((J4 115) 9) + ((J4 115) 10)) then 0 else 2) else 1) else (if ¬ ((J4 115) 10) = 2 then (if ¬ (((J4 115) 9) + ((J4 115) 10)) = 3 then (if 3 ≤ (((J4 115) 9) + ((J4 115) 10)) then 0 else 2) else 1) else 4)) else 3)))))) ((10 * q) + 1) ((J4 115) 9)) ((10 * q) + 2) ((J4 115) 10)) ((10 * q) + 3) ((4 - ((J4 115) 9)) - ((J4 115) 10))) ((10 * q) + 4) ((J8 115) 9)) ((10 * q) + 5) ((J8 115) 10)) ((10 * q) + 6) ((3 - ((J8 115) 9)) - ((J8 115) 10))) ((10 * q) + 7) (Int64.toInt32 (mW (K1 120)))) ((10 * q) + 8) (Int64.toInt32 (m3 (K1 120) 0 1 2))) ((10 * q) + 9) (mNm ((J4 115) 9) ((J4 115) 10) ((J8 115) 9) ((J8 115) 10)))) K1 RF 146) : CT g yX8_setFacts cX8_setFacts 6 (some .int) rX8_setFacts [.ref 115, .int (nI q)] Post HS I L RF 146 := by
  refine ct_of (lv := [some (.ref 115), some (.int (nI q)), none, none, none, none]) (by decide) (Nat.le_of_ble_eq_true rfl) rfl ?_
  refine ev_aload_n (pc' := 1) (i := 0) dX8_setFacts_0 rfl rfl rfl ?_
  refine ev_iload_n (pc' := 2) (i := 1) dX8_setFacts_1 rfl rfl rfl ?_
  refine ev_callV (pc' := 5) (rm' := rX8_layTable) (b := 115) (av := [.int (nI q)]) (rest := []) co_X8_184 ci_X8_layTable cv_X8_layTable dX8_setFacts_2 rfl hs_115 hb_X8 rfl rfl (Nat.le_of_ble_eq_true rfl) ⟨(Nat.le_of_ble_eq_true rfl), (Nat.le_of_ble_eq_true rfl)⟩ ⟨(Nat.le_of_ble_eq_true rfl), (Nat.le_of_ble_eq_true rfl)⟩ ?_
  refine f_X8_layTable q (by omega) (fun K1 f2 f3 => ?_)
  refine ev_bipush (pc' := 7) (v := 10) dX8_setFacts_5 rfl kb_10 ?_
  refine ev_iload_n (pc' := 8) (i := 1) dX8_setFacts_7 rfl rfl rfl ?_
  refine ev_imul (pc' := 9) (v := nI (10 * q)) dX8_setFacts_8 rfl (pk_mul 10 q) ?_
  refine ev_istore_n (pc' := 10) (i := 2) (lv' := [some (.ref 115), some (.int (nI q)), some (.int (nI (10 * q))), none, none, none]) dX8_setFacts_9 rfl rfl (Nat.le_of_ble_eq_true rfl) rfl rfl ?_
  refine ev_aload_n (pc' := 11) (i := 0) dX8_setFacts_10 rfl rfl rfl ?_
  refine ev_callV (pc' := 14) (rm' := rX8_layFour) (b := 115) (av := []) (rest := []) co_X8_188 ci_X8_layFour cv_X8_layFour dX8_setFacts_11 rfl hs_115 hb_X8 rfl rfl (Nat.le_of_ble_eq_true rfl) ⟨(Nat.le_of_ble_eq_true rfl), (Nat.le_of_ble_eq_true rfl)⟩ ⟨(Nat.le_of_ble_eq_true rfl), (Nat.le_of_ble_eq_true rfl)⟩ ?_
  refine f_X8_layFour   (fun J4 f5 f6 f7 => ?_)
  refine ev_aload_n (pc' := 15) (i := 0) dX8_setFacts_14 rfl rfl rfl ?_
  refine ev_getI (pc' := 18) (v := (J4 115) 9) fo_X8_160 dX8_setFacts_15 rfl hs_115 rfl rfl ?_
  refine ev_istore_n (pc' := 19) (i := 3) (lv' := [some (.ref 115), some (.int (nI q)), some (.int (nI (10 * q))), some (.int ((J4 115) 9)), none, none]) dX8_setFacts_18 rfl rfl (Nat.le_of_ble_eq_true rfl) rfl rfl ?_
  refine ev_aload_n (pc' := 20) (i := 0) dX8_setFacts_19 rfl rfl rfl ?_
  refine ev_getI (pc' := 23) (v := (J4 115) 10) fo_X8_163 dX8_setFacts_20 rfl hs_115 rfl rfl ?_
  refine ev_istore (pc' := 25) (lv' := [some (.ref 115), some (.int (nI q)), some (.int (nI (10 * q))), some (.int ((J4 115) 9)), some (.int ((J4 115) 10)), none]) dX8_setFacts_23 rfl (Nat.le_of_ble_eq_true rfl) rfl rfl ?_
  refine ev_aload_n (pc' := 26) (i := 0) dX8_setFacts_25 rfl rfl rfl ?_
  refine ev_callV (pc' := 29) (rm' := rX8_layThree) (b := 115) (av := []) (rest := []) co_X8_191 ci_X8_layThree cv_X8_layThree dX8_setFacts_26 rfl hs_115 hb_X8 rfl rfl (Nat.le_of_ble_eq_true rfl) ⟨(Nat.le_of_ble_eq_true rfl), (Nat.le_of_ble_eq_true rfl)⟩ ⟨(Nat.le_of_ble_eq_true rfl), (Nat.le_of_ble_eq_true rfl)⟩ ?_
  refine f_X8_layThree   (fun J8 f9 f10 f11 => ?_)
  refine ev_iload_n (pc' := 30) (i := 3) dX8_setFacts_29 rfl rfl rfl ?_
  refine ev_iload (pc' := 32) dX8_setFacts_30 rfl rfl ?_
  refine ev_iadd (pc' := 33) (v := ((J4 115) 9) + ((J4 115) 10)) dX8_setFacts_32 rfl rfl ?_
  refine ev_iconst (pc' := 34) (v := 4) dX8_setFacts_33 rfl ki_4 ?_
  suffices K14 : ∀ x13 : Int32, x13 = (if ¬ (((J4 115) 9) + ((J4 115) 10)) = 4 then (if ¬ ((J4 115) 9) = 2 then (if ¬ (((J4 115) 9) + ((J4 115) 10)) = 3 then (if 3 ≤ (((J4 115) 9) + ((J4 115) 10)) then 0 else 2) else 1) else (if ¬ ((J4 115) 10) = 2 then (if ¬ (((J4 115) 9) + ((J4 115) 10)) = 3 then (if 3 ≤ (((J4 115) 9) + ((J4 115) 10)) then 0 else 2) else 1) else 4)) else (if ¬ ((J4 115) 9) = 3 then (if ¬ ((J4 115) 10) = 3 then (if ¬ ((J4 115) 9) = 2 then (if ¬ (((J4 115) 9) + ((J4 115) 10)) = 3 then (if 3 ≤ (((J4 115) 9) + ((J4 115) 10)) then 0 else 2) else 1) else (if ¬ ((J4 115) 10) = 2 then (if ¬ (((J4 115) 9) + ((J4 115) 10)) = 3 then (if 3 ≤ (((J4 115) 9) + ((J4 115) 10)) then 0 else 2) else 1) else 4)) else (if ¬ ((J8 115) 10) = 3 then (if ¬ ((J4 115) 9) = 2 then (if ¬ (((J4 115) 9) + ((J4 115) 10)) = 3 then (if 3 ≤ (((J4 115) 9) + ((J4 115) 10)) then 0 else 2) else 1) else (if ¬ ((J4 115) 10) = 2 then (if ¬ (((J4 115) 9) + ((J4 115) 10)) = 3 then (if 3 ≤ (((J4 115) 9) + ((J4 115) 10)) then 0 else 2) else 1) else 4)) else 3)) else (if ((J8 115) 9) = 3 then 3 else (if ¬ ((J4 115) 10) = 3 then (if ¬ ((J4 115) 9) = 2 then (if ¬ (((J4 115) 9) + ((J4 115) 10)) = 3 then (if 3 ≤ (((J4 115) 9) + ((J4 115) 10)) then 0 else 2) else 1) else (if ¬ ((J4 115) 10) = 2 then (if ¬ (((J4 115) 9) + ((J4 115) 10)) = 3 then (if 3 ≤ (((J4 115) 9) + ((J4 115) 10)) then 0 else 2) else 1) else 4)) else (if ¬ ((J8 115) 10) = 3 then (if ¬ ((J4 115) 9) = 2 then (if ¬ (((J4 115) 9) + ((J4 115) 10)) = 3 then (if 3 ≤ (((J4 115) 9) + ((J4 115) 10)) then 0 else 2) else 1) else (if ¬ ((J4 115) 10) = 2 then (if ¬ (((J4 115) 9) + ((J4 115) 10)) = 3 then (if 3 ≤ (((J4 115) 9) + ((J4 115) 10)) then 0 else 2) else 1) else 4)) else 3))))) → EV g yX8_setFacts cX8_setFacts 6 (some .int) rX8_setFacts (ma_ZM g rX8_setFacts Post) 108 [some (.ref 115), some (.int (nI q)), some (.int (nI (10 * q))), some (.int ((J4 115) 9)), some (.int ((J4 115) 10)), none] [.int x13] HS J8 K1 RF 146 0 0 by
    refine ev_icmp_ne (tgt := 68) (pc' := 37) dX8_setFacts_34 rfl rfl (fun c15 => ?_) (fun c15 => ?_)
    · refine ev_iload_n (pc' := 69) (i := 3) dX8_setFacts_68 rfl rfl rfl ?_
      refine ev_iconst (pc' := 70) (v := 2) dX8_setFacts_69 rfl ki_2 ?_
      refine ev_icmp_ne (tgt := 83) (pc' := 73) dX8_setFacts_70 rfl rfl (fun c16 => ?_) (fun c16 => ?_)
      · refine ev_iload_n (pc' := 84) (i := 3) dX8_setFacts_83 rfl rfl rfl ?_
        refine ev_iload (pc' := 86) dX8_setFacts_84 rfl rfl ?_
        refine ev_iadd (pc' := 87) (v := ((J4 115) 9) + ((J4 115) 10)) dX8_setFacts_86 rfl rfl ?_
        refine ev_iconst (pc' := 88) (v := 3) dX8_setFacts_87 rfl ki_3 ?_
        refine ev_icmp_ne (tgt := 95) (pc' := 91) dX8_setFacts_88 rfl rfl (fun c17 => ?_) (fun c17 => ?_)
        · refine ev_iload_n (pc' := 96) (i := 3) dX8_setFacts_95 rfl rfl rfl ?_
          refine ev_iload (pc' := 98) dX8_setFacts_96 rfl rfl ?_
          refine ev_iadd (pc' := 99) (v := ((J4 115) 9) + ((J4 115) 10)) dX8_setFacts_98 rfl rfl ?_
          refine ev_iconst (pc' := 100) (v := 3) dX8_setFacts_99 rfl ki_3 ?_
          refine ev_icmp_ge (tgt := 107) (pc' := 103) dX8_setFacts_100 rfl rfl (fun c18 => ?_) (fun c18 => ?_)
          · refine ev_iconst (pc' := 108) (v := 0) dX8_setFacts_107 rfl ki_0 ?_
            exact K14 _ (by rw [if_pos c15, if_pos c16, if_pos c17, if_pos c18])
          · refine ev_iconst (pc' := 104) (v := 2) dX8_setFacts_103 rfl ki_2 ?_
            refine ev_goto (tgt := 108) dX8_setFacts_104 rfl ?_
            exact K14 _ (by rw [if_pos c15, if_pos c16, if_pos c17, if_neg c18])
        · refine ev_iconst (pc' := 92) (v := 1) dX8_setFacts_91 rfl ki_1 ?_
          refine ev_goto (tgt := 108) dX8_setFacts_92 rfl ?_
          exact K14 _ (by rw [if_pos c15, if_pos c16, if_neg (not_not_intro c17)])
      · refine ev_iload (pc' := 75) dX8_setFacts_73 rfl rfl ?_
        refine ev_iconst (pc' := 76) (v := 2) dX8_setFacts_75 rfl ki_2 ?_
        refine ev_icmp_ne (tgt := 83) (pc' := 79) dX8_setFacts_76 rfl rfl (fun c19 => ?_) (fun c19 => ?_)
        · refine ev_iload_n (pc' := 84) (i := 3) dX8_setFacts_83 rfl rfl rfl ?_
          refine ev_iload (pc' := 86) dX8_setFacts_84 rfl rfl ?_
          refine ev_iadd (pc' := 87) (v := ((J4 115) 9) + ((J4 115) 10)) dX8_setFacts_86 rfl rfl ?_
          refine ev_iconst (pc' := 88) (v := 3) dX8_setFacts_87 rfl ki_3 ?_
          refine ev_icmp_ne (tgt := 95) (pc' := 91) dX8_setFacts_88 rfl rfl (fun c20 => ?_) (fun c20 => ?_)
          · refine ev_iload_n (pc' := 96) (i := 3) dX8_setFacts_95 rfl rfl rfl ?_
            refine ev_iload (pc' := 98) dX8_setFacts_96 rfl rfl ?_
            refine ev_iadd (pc' := 99) (v := ((J4 115) 9) + ((J4 115) 10)) dX8_setFacts_98 rfl rfl ?_
            refine ev_iconst (pc' := 100) (v := 3) dX8_setFacts_99 rfl ki_3 ?_
            refine ev_icmp_ge (tgt := 107) (pc' := 103) dX8_setFacts_100 rfl rfl (fun c21 => ?_) (fun c21 => ?_)
            · refine ev_iconst (pc' := 108) (v := 0) dX8_setFacts_107 rfl ki_0 ?_
              exact K14 _ (by rw [if_pos c15, if_neg (not_not_intro c16), if_pos c19, if_pos c20, if_pos c21])
            · refine ev_iconst (pc' := 104) (v := 2) dX8_setFacts_103 rfl ki_2 ?_
              refine ev_goto (tgt := 108) dX8_setFacts_104 rfl ?_
              exact K14 _ (by rw [if_pos c15, if_neg (not_not_intro c16), if_pos c19, if_pos c20, if_neg c21])
          · refine ev_iconst (pc' := 92) (v := 1) dX8_setFacts_91 rfl ki_1 ?_
            refine ev_goto (tgt := 108) dX8_setFacts_92 rfl ?_
            exact K14 _ (by rw [if_pos c15, if_neg (not_not_intro c16), if_pos c19, if_neg (not_not_intro c20)])
        · refine ev_iconst (pc' := 80) (v := 4) dX8_setFacts_79 rfl ki_4 ?_
          refine ev_goto (tgt := 108) dX8_setFacts_80 rfl ?_
          exact K14 _ (by rw [if_pos c15, if_neg (not_not_intro c16), if_neg (not_not_intro c19)])
    · refine ev_iload_n (pc' := 38) (i := 3) dX8_setFacts_37 rfl rfl rfl ?_
      refine ev_iconst (pc' := 39) (v := 3) dX8_setFacts_38 rfl ki_3 ?_
      refine ev_icmp_ne (tgt := 50) (pc' := 42) dX8_setFacts_39 rfl rfl (fun c22 => ?_) (fun c22 => ?_)
      · refine ev_iload (pc' := 52) dX8_setFacts_50 rfl rfl ?_
        refine ev_iconst (pc' := 53) (v := 3) dX8_setFacts_52 rfl ki_3 ?_
        refine ev_icmp_ne (tgt := 68) (pc' := 56) dX8_setFacts_53 rfl rfl (fun c23 => ?_) (fun c23 => ?_)
        · refine ev_iload_n (pc' := 69) (i := 3) dX8_setFacts_68 rfl rfl rfl ?_
          refine ev_iconst (pc' := 70) (v := 2) dX8_setFacts_69 rfl ki_2 ?_
          refine ev_icmp_ne (tgt := 83) (pc' := 73) dX8_setFacts_70 rfl rfl (fun c24 => ?_) (fun c24 => ?_)
          · refine ev_iload_n (pc' := 84) (i := 3) dX8_setFacts_83 rfl rfl rfl ?_
            refine ev_iload (pc' := 86) dX8_setFacts_84 rfl rfl ?_
            refine ev_iadd (pc' := 87) (v := ((J4 115) 9) + ((J4 115) 10)) dX8_setFacts_86 rfl rfl ?_
            refine ev_iconst (pc' := 88) (v := 3) dX8_setFacts_87 rfl ki_3 ?_
            refine ev_icmp_ne (tgt := 95) (pc' := 91) dX8_setFacts_88 rfl rfl (fun c25 => ?_) (fun c25 => ?_)
            · refine ev_iload_n (pc' := 96) (i := 3) dX8_setFacts_95 rfl rfl rfl ?_
              refine ev_iload (pc' := 98) dX8_setFacts_96 rfl rfl ?_
              refine ev_iadd (pc' := 99) (v := ((J4 115) 9) + ((J4 115) 10)) dX8_setFacts_98 rfl rfl ?_
              refine ev_iconst (pc' := 100) (v := 3) dX8_setFacts_99 rfl ki_3 ?_
              refine ev_icmp_ge (tgt := 107) (pc' := 103) dX8_setFacts_100 rfl rfl (fun c26 => ?_) (fun c26 => ?_)
              · refine ev_iconst (pc' := 108) (v := 0) dX8_setFacts_107 rfl ki_0 ?_
                exact K14 _ (by rw [if_neg (not_not_intro c15), if_pos c22, if_pos c23, if_pos c24, if_pos c25, if_pos c26])
              · refine ev_iconst (pc' := 104) (v := 2) dX8_setFacts_103 rfl ki_2 ?_
                refine ev_goto (tgt := 108) dX8_setFacts_104 rfl ?_
                exact K14 _ (by rw [if_neg (not_not_intro c15), if_pos c22, if_pos c23, if_pos c24, if_pos c25, if_neg c26])
            · refine ev_iconst (pc' := 92) (v := 1) dX8_setFacts_91 rfl ki_1 ?_
              refine ev_goto (tgt := 108) dX8_setFacts_92 rfl ?_
              exact K14 _ (by rw [if_neg (not_not_intro c15), if_pos c22, if_pos c23, if_pos c24, if_neg (not_not_intro c25)])
          · refine ev_iload (pc' := 75) dX8_setFacts_73 rfl rfl ?_
            refine ev_iconst (pc' := 76) (v := 2) dX8_setFacts_75 rfl ki_2 ?_
            refine ev_icmp_ne (tgt := 83) (pc' := 79) dX8_setFacts_76 rfl rfl (fun c27 => ?_) (fun c27 => ?_)
            · refine ev_iload_n (pc' := 84) (i := 3) dX8_setFacts_83 rfl rfl rfl ?_
              refine ev_iload (pc' := 86) dX8_setFacts_84 rfl rfl ?_
              refine ev_iadd (pc' := 87) (v := ((J4 115) 9) + ((J4 115) 10)) dX8_setFacts_86 rfl rfl ?_
              refine ev_iconst (pc' := 88) (v := 3) dX8_setFacts_87 rfl ki_3 ?_
              refine ev_icmp_ne (tgt := 95) (pc' := 91) dX8_setFacts_88 rfl rfl (fun c28 => ?_) (fun c28 => ?_)
              · refine ev_iload_n (pc' := 96) (i := 3) dX8_setFacts_95 rfl rfl rfl ?_
                refine ev_iload (pc' := 98) dX8_setFacts_96 rfl rfl ?_
                refine ev_iadd (pc' := 99) (v := ((J4 115) 9) + ((J4 115) 10)) dX8_setFacts_98 rfl rfl ?_
                refine ev_iconst (pc' := 100) (v := 3) dX8_setFacts_99 rfl ki_3 ?_
                refine ev_icmp_ge (tgt := 107) (pc' := 103) dX8_setFacts_100 rfl rfl (fun c29 => ?_) (fun c29 => ?_)
                · refine ev_iconst (pc' := 108) (v := 0) dX8_setFacts_107 rfl ki_0 ?_
                  exact K14 _ (by rw [if_neg (not_not_intro c15), if_pos c22, if_pos c23, if_neg (not_not_intro c24), if_pos c27, if_pos c28, if_pos c29])
                · refine ev_iconst (pc' := 104) (v := 2) dX8_setFacts_103 rfl ki_2 ?_
                  refine ev_goto (tgt := 108) dX8_setFacts_104 rfl ?_
                  exact K14 _ (by rw [if_neg (not_not_intro c15), if_pos c22, if_pos c23, if_neg (not_not_intro c24), if_pos c27, if_pos c28, if_neg c29])
              · refine ev_iconst (pc' := 92) (v := 1) dX8_setFacts_91 rfl ki_1 ?_
                refine ev_goto (tgt := 108) dX8_setFacts_92 rfl ?_
                exact K14 _ (by rw [if_neg (not_not_intro c15), if_pos c22, if_pos c23, if_neg (not_not_intro c24), if_pos c27, if_neg (not_not_intro c28)])
            · refine ev_iconst (pc' := 80) (v := 4) dX8_setFacts_79 rfl ki_4 ?_
              refine ev_goto (tgt := 108) dX8_setFacts_80 rfl ?_
              exact K14 _ (by rw [if_neg (not_not_intro c15), if_pos c22, if_pos c23, if_neg (not_not_intro c24), if_neg (not_not_intro c27)])
        · refine ev_aload_n (pc' := 57) (i := 0) dX8_setFacts_56 rfl rfl rfl ?_
          refine ev_getI (pc' := 60) (v := (J8 115) 10) fo_X8_163 dX8_setFacts_57 rfl hs_115 rfl rfl ?_
          refine ev_iconst (pc' := 61) (v := 3) dX8_setFacts_60 rfl ki_3 ?_
          refine ev_icmp_ne (tgt := 68) (pc' := 64) dX8_setFacts_61 rfl rfl (fun c30 => ?_) (fun c30 => ?_)
          · refine ev_iload_n (pc' := 69) (i := 3) dX8_setFacts_68 rfl rfl rfl ?_
            refine ev_iconst (pc' := 70) (v := 2) dX8_setFacts_69 rfl ki_2 ?_
            refine ev_icmp_ne (tgt := 83) (pc' := 73) dX8_setFacts_70 rfl rfl (fun c31 => ?_) (fun c31 => ?_)
            · refine ev_iload_n (pc' := 84) (i := 3) dX8_setFacts_83 rfl rfl rfl ?_
              refine ev_iload (pc' := 86) dX8_setFacts_84 rfl rfl ?_
              refine ev_iadd (pc' := 87) (v := ((J4 115) 9) + ((J4 115) 10)) dX8_setFacts_86 rfl rfl ?_
              refine ev_iconst (pc' := 88) (v := 3) dX8_setFacts_87 rfl ki_3 ?_
              refine ev_icmp_ne (tgt := 95) (pc' := 91) dX8_setFacts_88 rfl rfl (fun c32 => ?_) (fun c32 => ?_)
              · refine ev_iload_n (pc' := 96) (i := 3) dX8_setFacts_95 rfl rfl rfl ?_
                refine ev_iload (pc' := 98) dX8_setFacts_96 rfl rfl ?_
                refine ev_iadd (pc' := 99) (v := ((J4 115) 9) + ((J4 115) 10)) dX8_setFacts_98 rfl rfl ?_
                refine ev_iconst (pc' := 100) (v := 3) dX8_setFacts_99 rfl ki_3 ?_
                refine ev_icmp_ge (tgt := 107) (pc' := 103) dX8_setFacts_100 rfl rfl (fun c33 => ?_) (fun c33 => ?_)
                · refine ev_iconst (pc' := 108) (v := 0) dX8_setFacts_107 rfl ki_0 ?_
                  exact K14 _ (by rw [if_neg (not_not_intro c15), if_pos c22, if_neg (not_not_intro c23), if_pos c30, if_pos c31, if_pos c32, if_pos c33])
                · refine ev_iconst (pc' := 104) (v := 2) dX8_setFacts_103 rfl ki_2 ?_
                  refine ev_goto (tgt := 108) dX8_setFacts_104 rfl ?_
                  exact K14 _ (by rw [if_neg (not_not_intro c15), if_pos c22, if_neg (not_not_intro c23), if_pos c30, if_pos c31, if_pos c32, if_neg c33])
              · refine ev_iconst (pc' := 92) (v := 1) dX8_setFacts_91 rfl ki_1 ?_
                refine ev_goto (tgt := 108) dX8_setFacts_92 rfl ?_
                exact K14 _ (by rw [if_neg (not_not_intro c15), if_pos c22, if_neg (not_not_intro c23), if_pos c30, if_pos c31, if_neg (not_not_intro c32)])
            · refine ev_iload (pc' := 75) dX8_setFacts_73 rfl rfl ?_
              refine ev_iconst (pc' := 76) (v := 2) dX8_setFacts_75 rfl ki_2 ?_
              refine ev_icmp_ne (tgt := 83) (pc' := 79) dX8_setFacts_76 rfl rfl (fun c34 => ?_) (fun c34 => ?_)
              · refine ev_iload_n (pc' := 84) (i := 3) dX8_setFacts_83 rfl rfl rfl ?_
                refine ev_iload (pc' := 86) dX8_setFacts_84 rfl rfl ?_
                refine ev_iadd (pc' := 87) (v := ((J4 115) 9) + ((J4 115) 10)) dX8_setFacts_86 rfl rfl ?_
                refine ev_iconst (pc' := 88) (v := 3) dX8_setFacts_87 rfl ki_3 ?_
                refine ev_icmp_ne (tgt := 95) (pc' := 91) dX8_setFacts_88 rfl rfl (fun c35 => ?_) (fun c35 => ?_)
                · refine ev_iload_n (pc' := 96) (i := 3) dX8_setFacts_95 rfl rfl rfl ?_
                  refine ev_iload (pc' := 98) dX8_setFacts_96 rfl rfl ?_
                  refine ev_iadd (pc' := 99) (v := ((J4 115) 9) + ((J4 115) 10)) dX8_setFacts_98 rfl rfl ?_
                  refine ev_iconst (pc' := 100) (v := 3) dX8_setFacts_99 rfl ki_3 ?_
                  refine ev_icmp_ge (tgt := 107) (pc' := 103) dX8_setFacts_100 rfl rfl (fun c36 => ?_) (fun c36 => ?_)
                  · refine ev_iconst (pc' := 108) (v := 0) dX8_setFacts_107 rfl ki_0 ?_
                    exact K14 _ (by rw [if_neg (not_not_intro c15), if_pos c22, if_neg (not_not_intro c23), if_pos c30, if_neg (not_not_intro c31), if_pos c34, if_pos c35, if_pos c36])
                  · refine ev_iconst (pc' := 104) (v := 2) dX8_setFacts_103 rfl ki_2 ?_
                    refine ev_goto (tgt := 108) dX8_setFacts_104 rfl ?_
                    exact K14 _ (by rw [if_neg (not_not_intro c15), if_pos c22, if_neg (not_not_intro c23), if_pos c30, if_neg (not_not_intro c31), if_pos c34, if_pos c35, if_neg c36])
                · refine ev_iconst (pc' := 92) (v := 1) dX8_setFacts_91 rfl ki_1 ?_
                  refine ev_goto (tgt := 108) dX8_setFacts_92 rfl ?_
                  exact K14 _ (by rw [if_neg (not_not_intro c15), if_pos c22, if_neg (not_not_intro c23), if_pos c30, if_neg (not_not_intro c31), if_pos c34, if_neg (not_not_intro c35)])
              · refine ev_iconst (pc' := 80) (v := 4) dX8_setFacts_79 rfl ki_4 ?_
                refine ev_goto (tgt := 108) dX8_setFacts_80 rfl ?_
                exact K14 _ (by rw [if_neg (not_not_intro c15), if_pos c22, if_neg (not_not_intro c23), if_pos c30, if_neg (not_not_intro c31), if_neg (not_not_intro c34)])
          · refine ev_iconst (pc' := 65) (v := 3) dX8_setFacts_64 rfl ki_3 ?_
            refine ev_goto (tgt := 108) dX8_setFacts_65 rfl ?_
            exact K14 _ (by rw [if_neg (not_not_intro c15), if_pos c22, if_neg (not_not_intro c23), if_neg (not_not_intro c30)])
      · refine ev_aload_n (pc' := 43) (i := 0) dX8_setFacts_42 rfl rfl rfl ?_
        refine ev_getI (pc' := 46) (v := (J8 115) 9) fo_X8_160 dX8_setFacts_43 rfl hs_115 rfl rfl ?_
        refine ev_iconst (pc' := 47) (v := 3) dX8_setFacts_46 rfl ki_3 ?_
        refine ev_icmp_eq (tgt := 64) (pc' := 50) dX8_setFacts_47 rfl rfl (fun c37 => ?_) (fun c37 => ?_)
        · refine ev_iconst (pc' := 65) (v := 3) dX8_setFacts_64 rfl ki_3 ?_
          refine ev_goto (tgt := 108) dX8_setFacts_65 rfl ?_
          exact K14 _ (by rw [if_neg (not_not_intro c15), if_neg (not_not_intro c22), if_pos c37])
        · refine ev_iload (pc' := 52) dX8_setFacts_50 rfl rfl ?_
          refine ev_iconst (pc' := 53) (v := 3) dX8_setFacts_52 rfl ki_3 ?_
          refine ev_icmp_ne (tgt := 68) (pc' := 56) dX8_setFacts_53 rfl rfl (fun c38 => ?_) (fun c38 => ?_)
          · refine ev_iload_n (pc' := 69) (i := 3) dX8_setFacts_68 rfl rfl rfl ?_
            refine ev_iconst (pc' := 70) (v := 2) dX8_setFacts_69 rfl ki_2 ?_
            refine ev_icmp_ne (tgt := 83) (pc' := 73) dX8_setFacts_70 rfl rfl (fun c39 => ?_) (fun c39 => ?_)
            · refine ev_iload_n (pc' := 84) (i := 3) dX8_setFacts_83 rfl rfl rfl ?_
              refine ev_iload (pc' := 86) dX8_setFacts_84 rfl rfl ?_
              refine ev_iadd (pc' := 87) (v := ((J4 115) 9) + ((J4 115) 10)) dX8_setFacts_86 rfl rfl ?_
              refine ev_iconst (pc' := 88) (v := 3) dX8_setFacts_87 rfl ki_3 ?_
              refine ev_icmp_ne (tgt := 95) (pc' := 91) dX8_setFacts_88 rfl rfl (fun c40 => ?_) (fun c40 => ?_)
              · refine ev_iload_n (pc' := 96) (i := 3) dX8_setFacts_95 rfl rfl rfl ?_
                refine ev_iload (pc' := 98) dX8_setFacts_96 rfl rfl ?_
                refine ev_iadd (pc' := 99) (v := ((J4 115) 9) + ((J4 115) 10)) dX8_setFacts_98 rfl rfl ?_
                refine ev_iconst (pc' := 100) (v := 3) dX8_setFacts_99 rfl ki_3 ?_
                refine ev_icmp_ge (tgt := 107) (pc' := 103) dX8_setFacts_100 rfl rfl (fun c41 => ?_) (fun c41 => ?_)
                · refine ev_iconst (pc' := 108) (v := 0) dX8_setFacts_107 rfl ki_0 ?_
                  exact K14 _ (by rw [if_neg (not_not_intro c15), if_neg (not_not_intro c22), if_neg c37, if_pos c38, if_pos c39, if_pos c40, if_pos c41])
                · refine ev_iconst (pc' := 104) (v := 2) dX8_setFacts_103 rfl ki_2 ?_
                  refine ev_goto (tgt := 108) dX8_setFacts_104 rfl ?_
                  exact K14 _ (by rw [if_neg (not_not_intro c15), if_neg (not_not_intro c22), if_neg c37, if_pos c38, if_pos c39, if_pos c40, if_neg c41])
              · refine ev_iconst (pc' := 92) (v := 1) dX8_setFacts_91 rfl ki_1 ?_
                refine ev_goto (tgt := 108) dX8_setFacts_92 rfl ?_
                exact K14 _ (by rw [if_neg (not_not_intro c15), if_neg (not_not_intro c22), if_neg c37, if_pos c38, if_pos c39, if_neg (not_not_intro c40)])
            · refine ev_iload (pc' := 75) dX8_setFacts_73 rfl rfl ?_
              refine ev_iconst (pc' := 76) (v := 2) dX8_setFacts_75 rfl ki_2 ?_
              refine ev_icmp_ne (tgt := 83) (pc' := 79) dX8_setFacts_76 rfl rfl (fun c42 => ?_) (fun c42 => ?_)
              · refine ev_iload_n (pc' := 84) (i := 3) dX8_setFacts_83 rfl rfl rfl ?_
                refine ev_iload (pc' := 86) dX8_setFacts_84 rfl rfl ?_
                refine ev_iadd (pc' := 87) (v := ((J4 115) 9) + ((J4 115) 10)) dX8_setFacts_86 rfl rfl ?_
                refine ev_iconst (pc' := 88) (v := 3) dX8_setFacts_87 rfl ki_3 ?_
                refine ev_icmp_ne (tgt := 95) (pc' := 91) dX8_setFacts_88 rfl rfl (fun c43 => ?_) (fun c43 => ?_)
                · refine ev_iload_n (pc' := 96) (i := 3) dX8_setFacts_95 rfl rfl rfl ?_
                  refine ev_iload (pc' := 98) dX8_setFacts_96 rfl rfl ?_
                  refine ev_iadd (pc' := 99) (v := ((J4 115) 9) + ((J4 115) 10)) dX8_setFacts_98 rfl rfl ?_
                  refine ev_iconst (pc' := 100) (v := 3) dX8_setFacts_99 rfl ki_3 ?_
                  refine ev_icmp_ge (tgt := 107) (pc' := 103) dX8_setFacts_100 rfl rfl (fun c44 => ?_) (fun c44 => ?_)
                  · refine ev_iconst (pc' := 108) (v := 0) dX8_setFacts_107 rfl ki_0 ?_
                    exact K14 _ (by rw [if_neg (not_not_intro c15), if_neg (not_not_intro c22), if_neg c37, if_pos c38, if_neg (not_not_intro c39), if_pos c42, if_pos c43, if_pos c44])
                  · refine ev_iconst (pc' := 104) (v := 2) dX8_setFacts_103 rfl ki_2 ?_
                    refine ev_goto (tgt := 108) dX8_setFacts_104 rfl ?_
                    exact K14 _ (by rw [if_neg (not_not_intro c15), if_neg (not_not_intro c22), if_neg c37, if_pos c38, if_neg (not_not_intro c39), if_pos c42, if_pos c43, if_neg c44])
                · refine ev_iconst (pc' := 92) (v := 1) dX8_setFacts_91 rfl ki_1 ?_
                  refine ev_goto (tgt := 108) dX8_setFacts_92 rfl ?_
                  exact K14 _ (by rw [if_neg (not_not_intro c15), if_neg (not_not_intro c22), if_neg c37, if_pos c38, if_neg (not_not_intro c39), if_pos c42, if_neg (not_not_intro c43)])
              · refine ev_iconst (pc' := 80) (v := 4) dX8_setFacts_79 rfl ki_4 ?_
                refine ev_goto (tgt := 108) dX8_setFacts_80 rfl ?_
                exact K14 _ (by rw [if_neg (not_not_intro c15), if_neg (not_not_intro c22), if_neg c37, if_pos c38, if_neg (not_not_intro c39), if_neg (not_not_intro c42)])
          · refine ev_aload_n (pc' := 57) (i := 0) dX8_setFacts_56 rfl rfl rfl ?_
            refine ev_getI (pc' := 60) (v := (J8 115) 10) fo_X8_163 dX8_setFacts_57 rfl hs_115 rfl rfl ?_
            refine ev_iconst (pc' := 61) (v := 3) dX8_setFacts_60 rfl ki_3 ?_
            refine ev_icmp_ne (tgt := 68) (pc' := 64) dX8_setFacts_61 rfl rfl (fun c45 => ?_) (fun c45 => ?_)
            · refine ev_iload_n (pc' := 69) (i := 3) dX8_setFacts_68 rfl rfl rfl ?_
              refine ev_iconst (pc' := 70) (v := 2) dX8_setFacts_69 rfl ki_2 ?_
              refine ev_icmp_ne (tgt := 83) (pc' := 73) dX8_setFacts_70 rfl rfl (fun c46 => ?_) (fun c46 => ?_)
              · refine ev_iload_n (pc' := 84) (i := 3) dX8_setFacts_83 rfl rfl rfl ?_
                refine ev_iload (pc' := 86) dX8_setFacts_84 rfl rfl ?_
                refine ev_iadd (pc' := 87) (v := ((J4 115) 9) + ((J4 115) 10)) dX8_setFacts_86 rfl rfl ?_
                refine ev_iconst (pc' := 88) (v := 3) dX8_setFacts_87 rfl ki_3 ?_
                refine ev_icmp_ne (tgt := 95) (pc' := 91) dX8_setFacts_88 rfl rfl (fun c47 => ?_) (fun c47 => ?_)
                · refine ev_iload_n (pc' := 96) (i := 3) dX8_setFacts_95 rfl rfl rfl ?_
                  refine ev_iload (pc' := 98) dX8_setFacts_96 rfl rfl ?_
                  refine ev_iadd (pc' := 99) (v := ((J4 115) 9) + ((J4 115) 10)) dX8_setFacts_98 rfl rfl ?_
                  refine ev_iconst (pc' := 100) (v := 3) dX8_setFacts_99 rfl ki_3 ?_
                  refine ev_icmp_ge (tgt := 107) (pc' := 103) dX8_setFacts_100 rfl rfl (fun c48 => ?_) (fun c48 => ?_)
                  · refine ev_iconst (pc' := 108) (v := 0) dX8_setFacts_107 rfl ki_0 ?_
                    exact K14 _ (by rw [if_neg (not_not_intro c15), if_neg (not_not_intro c22), if_neg c37, if_neg (not_not_intro c38), if_pos c45, if_pos c46, if_pos c47, if_pos c48])
                  · refine ev_iconst (pc' := 104) (v := 2) dX8_setFacts_103 rfl ki_2 ?_
                    refine ev_goto (tgt := 108) dX8_setFacts_104 rfl ?_
                    exact K14 _ (by rw [if_neg (not_not_intro c15), if_neg (not_not_intro c22), if_neg c37, if_neg (not_not_intro c38), if_pos c45, if_pos c46, if_pos c47, if_neg c48])
                · refine ev_iconst (pc' := 92) (v := 1) dX8_setFacts_91 rfl ki_1 ?_
                  refine ev_goto (tgt := 108) dX8_setFacts_92 rfl ?_
                  exact K14 _ (by rw [if_neg (not_not_intro c15), if_neg (not_not_intro c22), if_neg c37, if_neg (not_not_intro c38), if_pos c45, if_pos c46, if_neg (not_not_intro c47)])
              · refine ev_iload (pc' := 75) dX8_setFacts_73 rfl rfl ?_
                refine ev_iconst (pc' := 76) (v := 2) dX8_setFacts_75 rfl ki_2 ?_
                refine ev_icmp_ne (tgt := 83) (pc' := 79) dX8_setFacts_76 rfl rfl (fun c49 => ?_) (fun c49 => ?_)
                · refine ev_iload_n (pc' := 84) (i := 3) dX8_setFacts_83 rfl rfl rfl ?_
                  refine ev_iload (pc' := 86) dX8_setFacts_84 rfl rfl ?_
                  refine ev_iadd (pc' := 87) (v := ((J4 115) 9) + ((J4 115) 10)) dX8_setFacts_86 rfl rfl ?_
                  refine ev_iconst (pc' := 88) (v := 3) dX8_setFacts_87 rfl ki_3 ?_
                  refine ev_icmp_ne (tgt := 95) (pc' := 91) dX8_setFacts_88 rfl rfl (fun c50 => ?_) (fun c50 => ?_)
                  · refine ev_iload_n (pc' := 96) (i := 3) dX8_setFacts_95 rfl rfl rfl ?_
                    refine ev_iload (pc' := 98) dX8_setFacts_96 rfl rfl ?_
                    refine ev_iadd (pc' := 99) (v := ((J4 115) 9) + ((J4 115) 10)) dX8_setFacts_98 rfl rfl ?_
                    refine ev_iconst (pc' := 100) (v := 3) dX8_setFacts_99 rfl ki_3 ?_
                    refine ev_icmp_ge (tgt := 107) (pc' := 103) dX8_setFacts_100 rfl rfl (fun c51 => ?_) (fun c51 => ?_)
                    · refine ev_iconst (pc' := 108) (v := 0) dX8_setFacts_107 rfl ki_0 ?_
                      exact K14 _ (by rw [if_neg (not_not_intro c15), if_neg (not_not_intro c22), if_neg c37, if_neg (not_not_intro c38), if_pos c45, if_neg (not_not_intro c46), if_pos c49, if_pos c50, if_pos c51])
                    · refine ev_iconst (pc' := 104) (v := 2) dX8_setFacts_103 rfl ki_2 ?_
                      refine ev_goto (tgt := 108) dX8_setFacts_104 rfl ?_
                      exact K14 _ (by rw [if_neg (not_not_intro c15), if_neg (not_not_intro c22), if_neg c37, if_neg (not_not_intro c38), if_pos c45, if_neg (not_not_intro c46), if_pos c49, if_pos c50, if_neg c51])
                  · refine ev_iconst (pc' := 92) (v := 1) dX8_setFacts_91 rfl ki_1 ?_
                    refine ev_goto (tgt := 108) dX8_setFacts_92 rfl ?_
                    exact K14 _ (by rw [if_neg (not_not_intro c15), if_neg (not_not_intro c22), if_neg c37, if_neg (not_not_intro c38), if_pos c45, if_neg (not_not_intro c46), if_pos c49, if_neg (not_not_intro c50)])
                · refine ev_iconst (pc' := 80) (v := 4) dX8_setFacts_79 rfl ki_4 ?_
                  refine ev_goto (tgt := 108) dX8_setFacts_80 rfl ?_
                  exact K14 _ (by rw [if_neg (not_not_intro c15), if_neg (not_not_intro c22), if_neg c37, if_neg (not_not_intro c38), if_pos c45, if_neg (not_not_intro c46), if_neg (not_not_intro c49)])
            · refine ev_iconst (pc' := 65) (v := 3) dX8_setFacts_64 rfl ki_3 ?_
              refine ev_goto (tgt := 108) dX8_setFacts_65 rfl ?_
              exact K14 _ (by rw [if_neg (not_not_intro c15), if_neg (not_not_intro c22), if_neg c37, if_neg (not_not_intro c38), if_neg (not_not_intro c45)])
  intro x13 hx13
  subst hx13
  refine ev_istore (pc' := 110) (lv' := [some (.ref 115), some (.int (nI q)), some (.int (nI (10 * q))), some (.int ((J4 115) 9)), some (.int ((J4 115) 10)), some (.int (if ¬ (((J4 115) 9) + ((J4 115) 10)) = 4 then (if ¬ ((J4 115) 9) = 2 then (if ¬ (((J4 115) 9) + ((J4 115) 10)) = 3 then (if 3 ≤ (((J4 115) 9) + ((J4 115) 10)) then 0 else 2) else 1) else (if ¬ ((J4 115) 10) = 2 then (if ¬ (((J4 115) 9) + ((J4 115) 10)) = 3 then (if 3 ≤ (((J4 115) 9) + ((J4 115) 10)) then 0 else 2) else 1) else 4)) else (if ¬ ((J4 115) 9) = 3 then (if ¬ ((J4 115) 10) = 3 then (if ¬ ((J4 115) 9) = 2 then (if ¬ (((J4 115) 9) + ((J4 115) 10)) = 3 then (if 3 ≤ (((J4 115) 9) + ((J4 115) 10)) then 0 else 2) else 1) else (if ¬ ((J4 115) 10) = 2 then (if ¬ (((J4 115) 9) + ((J4 115) 10)) = 3 then (if 3 ≤ (((J4 115) 9) + ((J4 115) 10)) then 0 else 2) else 1) else 4)) else (if ¬ ((J8 115) 10) = 3 then (if ¬ ((J4 115) 9) = 2 then (if ¬ (((J4 115) 9) + ((J4 115) 10)) = 3 then (if 3 ≤ (((J4 115) 9) + ((J4 115) 10)) then 0 else 2) else 1) else (if ¬ ((J4 115) 10) = 2 then (if ¬ (((J4 115) 9) + ((J4 115) 10)) = 3 then (if 3 ≤ (((J4 115) 9) + ((J4 115) 10)) then 0 else 2) else 1) else 4)) else 3)) else (if ((J8 115) 9) = 3 then 3 else (if ¬ ((J4 115) 10) = 3 then (if ¬ ((J4 115) 9) = 2 then (if ¬ (((J4 115) 9) + ((J4 115) 10)) = 3 then (if 3 ≤ (((J4 115) 9) + ((J4 115) 10)) then 0 else 2) else 1) else (if ¬ ((J4 115) 10) = 2 then (if ¬ (((J4 115) 9) + ((J4 115) 10)) = 3 then (if 3 ≤ (((J4 115) 9) + ((J4 115) 10)) then 0 else 2) else 1) else 4)) else (if ¬ ((J8 115) 10) = 3 then (if ¬ ((J4 115) 9) = 2 then (if ¬ (((J4 115) 9) + ((J4 115) 10)) = 3 then (if 3 ≤ (((J4 115) 9) + ((J4 115) 10)) then 0 else 2) else 1) else (if ¬ ((J4 115) 10) = 2 then (if ¬ (((J4 115) 9) + ((J4 115) 10)) = 3 then (if 3 ≤ (((J4 115) 9) + ((J4 115) 10)) then 0 else 2) else 1) else 4)) else 3))))))]) dX8_setFacts_108 rfl (Nat.le_of_ble_eq_true rfl) rfl rfl ?_
  refine ev_aload_n (pc' := 111) (i := 0) dX8_setFacts_110 rfl rfl rfl ?_
  refine ev_getR (pc' := 114) fo_X8_40 dX8_setFacts_111 rfl hs_115 rfl rf_115_14 ?_
  refine ev_iload_n (pc' := 115) (i := 2) dX8_setFacts_114 rfl rfl rfl ?_
  refine ev_iload (pc' := 117) dX8_setFacts_115 rfl rfl ?_
  refine ev_iast (pc' := 118) (j := 10 * q) (I' := (ma_up J8 124 (ma_up (J8 124) (10 * q) (if ¬ (((J4 115) 9) + ((J4 115) 10)) = 4 then (if ¬ ((J4 115) 9) = 2 then (if ¬ (((J4 115) 9) + ((J4 115) 10)) = 3 then (if 3 ≤ (((J4 115) 9) + ((J4 115) 10)) then 0 else 2) else 1) else (if ¬ ((J4 115) 10) = 2 then (if ¬ (((J4 115) 9) + ((J4 115) 10)) = 3 then (if 3 ≤ (((J4 115) 9) + ((J4 115) 10)) then 0 else 2) else 1) else 4)) else (if ¬ ((J4 115) 9) = 3 then (if ¬ ((J4 115) 10) = 3 then (if ¬ ((J4 115) 9) = 2 then (if ¬ (((J4 115) 9) + ((J4 115) 10)) = 3 then (if 3 ≤ (((J4 115) 9) + ((J4 115) 10)) then 0 else 2) else 1) else (if ¬ ((J4 115) 10) = 2 then (if ¬ (((J4 115) 9) + ((J4 115) 10)) = 3 then (if 3 ≤ (((J4 115) 9) + ((J4 115) 10)) then 0 else 2) else 1) else 4)) else (if ¬ ((J8 115) 10) = 3 then (if ¬ ((J4 115) 9) = 2 then (if ¬ (((J4 115) 9) + ((J4 115) 10)) = 3 then (if 3 ≤ (((J4 115) 9) + ((J4 115) 10)) then 0 else 2) else 1) else (if ¬ ((J4 115) 10) = 2 then (if ¬ (((J4 115) 9) + ((J4 115) 10)) = 3 then (if 3 ≤ (((J4 115) 9) + ((J4 115) 10)) then 0 else 2) else 1) else 4)) else 3)) else (if ((J8 115) 9) = 3 then 3 else (if ¬ ((J4 115) 10) = 3 then (if ¬ ((J4 115) 9) = 2 then (if ¬ (((J4 115) 9) + ((J4 115) 10)) = 3 then (if 3 ≤ (((J4 115) 9) + ((J4 115) 10)) then 0 else 2) else 1) else (if ¬ ((J4 115) 10) = 2 then (if ¬ (((J4 115) 9) + ((J4 115) 10)) = 3 then (if 3 ≤ (((J4 115) 9) + ((J4 115) 10)) then 0 else 2) else 1) else 4)) else (if ¬ ((J8 115) 10) = 3 then (if ¬ ((J4 115) 9) = 2 then (if ¬ (((J4 115) 9) + ((J4 115) 10)) = 3 then (if 3 ≤ (((J4 115) 9) + ((J4 115) 10)) then 0 else 2) else 1) else (if ¬ ((J4 115) 10) = 2 then (if ¬ (((J4 115) 9) + ((J4 115) 10)) = 3 then (if 3 ≤ (((J4 115) 9) + ((J4 115) 10)) then 0 else 2) else 1) else 4)) else 3)))))))) dX8_setFacts_117 rfl hs_124 rfl (by omega) (Nat.le_of_ble_eq_true rfl) rfl ?_
  refine ev_aload_n (pc' := 119) (i := 0) dX8_setFacts_118 rfl rfl rfl ?_
  refine ev_getR (pc' := 122) fo_X8_40 dX8_setFacts_119 rfl hs_115 rfl rf_115_14 ?_
  refine ev_iload_n (pc' := 123) (i := 2) dX8_setFacts_122 rfl rfl rfl ?_
  refine ev_iconst (pc' := 124) (v := 1) dX8_setFacts_123 rfl ki_1 ?_
  refine ev_iadd (pc' := 125) (v := nI ((10 * q) + 1)) dX8_setFacts_124 rfl (nI_add (10 * q) 1) ?_
  refine ev_iload_n (pc' := 126) (i := 3) dX8_setFacts_125 rfl rfl rfl ?_
  refine ev_iast (pc' := 127) (j := (10 * q) + 1) (I' := (ma_up J8 124 (ma_up (ma_up (J8 124) (10 * q) (if ¬ (((J4 115) 9) + ((J4 115) 10)) = 4 then (if ¬ ((J4 115) 9) = 2 then (if ¬ (((J4 115) 9) + ((J4 115) 10)) = 3 then (if 3 ≤ (((J4 115) 9) + ((J4 115) 10)) then 0 else 2) else 1) else (if ¬ ((J4 115) 10) = 2 then (if ¬ (((J4 115) 9) + ((J4 115) 10)) = 3 then (if 3 ≤ (((J4 115) 9) + ((J4 115) 10)) then 0 else 2) else 1) else 4)) else (if ¬ ((J4 115) 9) = 3 then (if ¬ ((J4 115) 10) = 3 then (if ¬ ((J4 115) 9) = 2 then (if ¬ (((J4 115) 9) + ((J4 115) 10)) = 3 then (if 3 ≤ (((J4 115) 9) + ((J4 115) 10)) then 0 else 2) else 1) else (if ¬ ((J4 115) 10) = 2 then (if ¬ (((J4 115) 9) + ((J4 115) 10)) = 3 then (if 3 ≤ (((J4 115) 9) + ((J4 115) 10)) then 0 else 2) else 1) else 4)) else (if ¬ ((J8 115) 10) = 3 then (if ¬ ((J4 115) 9) = 2 then (if ¬ (((J4 115) 9) + ((J4 115) 10)) = 3 then (if 3 ≤ (((J4 115) 9) + ((J4 115) 10)) then 0 else 2) else 1) else (if ¬ ((J4 115) 10) = 2 then (if ¬ (((J4 115) 9) + ((J4 115) 10)) = 3 then (if 3 ≤ (((J4 115) 9) + ((J4 115) 10)) then 0 else 2) else 1) else 4)) else 3)) else (if ((J8 115) 9) = 3 then 3 else (if ¬ ((J4 115) 10) = 3 then (if ¬ ((J4 115) 9) = 2 then (if ¬ (((J4 115) 9) + ((J4 115) 10)) = 3 then (if 3 ≤ (((J4 115) 9) + ((J4 115) 10)) then 0 else 2) else 1) else (if ¬ ((J4 115) 10) = 2 then (if ¬ (((J4 115) 9) + ((J4 115) 10)) = 3 then (if 3 ≤ (((J4 115) 9) + ((J4 115) 10)) then 0 else 2) else 1) else 4)) else (if ¬ ((J8 115) 10) = 3 then (if ¬ ((J4 115) 9) = 2 then (if ¬ (((J4 115) 9) + ((J4 115) 10)) = 3 then (if 3 ≤ (((J4 115) 9) + ((J4 115) 10)) then 0 else 2) else 1) else (if ¬ ((J4 115) 10) = 2 then (if ¬ (((J4 115) 9) + ((J4 115) 10)) = 3 then (if 3 ≤ (((J4 115) 9) + ((J4 115) 10)) then 0 else 2) else 1) else 4)) else 3)))))) ((10 * q) + 1) ((J4 115) 9)))) dX8_setFacts_126 rfl hs_124 rfl (by omega) (Nat.le_of_ble_eq_true rfl) (ma_up_up _ _ _ _) ?_
  refine ev_aload_n (pc' := 128) (i := 0) dX8_setFacts_127 rfl rfl rfl ?_
  refine ev_getR (pc' := 131) fo_X8_40 dX8_setFacts_128 rfl hs_115 rfl rf_115_14 ?_
  refine ev_iload_n (pc' := 132) (i := 2) dX8_setFacts_131 rfl rfl rfl ?_
  refine ev_iconst (pc' := 133) (v := 2) dX8_setFacts_132 rfl ki_2 ?_
  refine ev_iadd (pc' := 134) (v := nI ((10 * q) + 2)) dX8_setFacts_133 rfl (nI_add (10 * q) 2) ?_
  refine ev_iload (pc' := 136) dX8_setFacts_134 rfl rfl ?_
  refine ev_iast (pc' := 137) (j := (10 * q) + 2) (I' := (ma_up J8 124 (ma_up (ma_up (ma_up (J8 124) (10 * q) (if ¬ (((J4 115) 9) + ((J4 115) 10)) = 4 then (if ¬ ((J4 115) 9) = 2 then (if ¬ (((J4 115) 9) + ((J4 115) 10)) = 3 then (if 3 ≤ (((J4 115) 9) + ((J4 115) 10)) then 0 else 2) else 1) else (if ¬ ((J4 115) 10) = 2 then (if ¬ (((J4 115) 9) + ((J4 115) 10)) = 3 then (if 3 ≤ (((J4 115) 9) + ((J4 115) 10)) then 0 else 2) else 1) else 4)) else (if ¬ ((J4 115) 9) = 3 then (if ¬ ((J4 115) 10) = 3 then (if ¬ ((J4 115) 9) = 2 then (if ¬ (((J4 115) 9) + ((J4 115) 10)) = 3 then (if 3 ≤ (((J4 115) 9) + ((J4 115) 10)) then 0 else 2) else 1) else (if ¬ ((J4 115) 10) = 2 then (if ¬ (((J4 115) 9) + ((J4 115) 10)) = 3 then (if 3 ≤ (((J4 115) 9) + ((J4 115) 10)) then 0 else 2) else 1) else 4)) else (if ¬ ((J8 115) 10) = 3 then (if ¬ ((J4 115) 9) = 2 then (if ¬ (((J4 115) 9) + ((J4 115) 10)) = 3 then (if 3 ≤ (((J4 115) 9) + ((J4 115) 10)) then 0 else 2) else 1) else (if ¬ ((J4 115) 10) = 2 then (if ¬ (((J4 115) 9) + ((J4 115) 10)) = 3 then (if 3 ≤ (((J4 115) 9) + ((J4 115) 10)) then 0 else 2) else 1) else 4)) else 3)) else (if ((J8 115) 9) = 3 then 3 else (if ¬ ((J4 115) 10) = 3 then (if ¬ ((J4 115) 9) = 2 then (if ¬ (((J4 115) 9) + ((J4 115) 10)) = 3 then (if 3 ≤ (((J4 115) 9) + ((J4 115) 10)) then 0 else 2) else 1) else (if ¬ ((J4 115) 10) = 2 then (if ¬ (((J4 115) 9) + ((J4 115) 10)) = 3 then (if 3 ≤ (((J4 115) 9) + ((J4 115) 10)) then 0 else 2) else 1) else 4)) else (if ¬ ((J8 115) 10) = 3 then (if ¬ ((J4 115) 9) = 2 then (if ¬ (((J4 115) 9) + ((J4 115) 10)) = 3 then (if 3 ≤ (((J4 115) 9) + ((J4 115) 10)) then 0 else 2) else 1) else (if ¬ ((J4 115) 10) = 2 then (if ¬ (((J4 115) 9) + ((J4 115) 10)) = 3 then (if 3 ≤ (((J4 115) 9) + ((J4 115) 10)) then 0 else 2) else 1) else 4)) else 3)))))) ((10 * q) + 1) ((J4 115) 9)) ((10 * q) + 2) ((J4 115) 10)))) dX8_setFacts_136 rfl hs_124 rfl (by omega) (Nat.le_of_ble_eq_true rfl) (ma_up_up _ _ _ _) ?_
  refine ev_aload_n (pc' := 138) (i := 0) dX8_setFacts_137 rfl rfl rfl ?_
  refine ev_getR (pc' := 141) fo_X8_40 dX8_setFacts_138 rfl hs_115 rfl rf_115_14 ?_
  refine ev_iload_n (pc' := 142) (i := 2) dX8_setFacts_141 rfl rfl rfl ?_
  refine ev_iconst (pc' := 143) (v := 3) dX8_setFacts_142 rfl ki_3 ?_
  refine ev_iadd (pc' := 144) (v := nI ((10 * q) + 3)) dX8_setFacts_143 rfl (nI_add (10 * q) 3) ?_
  refine ev_iconst (pc' := 145) (v := 4) dX8_setFacts_144 rfl ki_4 ?_
  refine ev_iload_n (pc' := 146) (i := 3) dX8_setFacts_145 rfl rfl rfl ?_
  refine ev_isub (pc' := 147) (v := 4 - ((J4 115) 9)) dX8_setFacts_146 rfl rfl ?_
  refine ev_iload (pc' := 149) dX8_setFacts_147 rfl rfl ?_
  refine ev_isub (pc' := 150) (v := (4 - ((J4 115) 9)) - ((J4 115) 10)) dX8_setFacts_149 rfl rfl ?_
  refine ev_iast (pc' := 151) (j := (10 * q) + 3) (I' := (ma_up J8 124 (ma_up (ma_up (ma_up (ma_up (J8 124) (10 * q) (if ¬ (((J4 115) 9) + ((J4 115) 10)) = 4 then (if ¬ ((J4 115) 9) = 2 then (if ¬ (((J4 115) 9) + ((J4 115) 10)) = 3 then (if 3 ≤ (((J4 115) 9) + ((J4 115) 10)) then 0 else 2) else 1) else (if ¬ ((J4 115) 10) = 2 then (if ¬ (((J4 115) 9) + ((J4 115) 10)) = 3 then (if 3 ≤ (((J4 115) 9) + ((J4 115) 10)) then 0 else 2) else 1) else 4)) else (if ¬ ((J4 115) 9) = 3 then (if ¬ ((J4 115) 10) = 3 then (if ¬ ((J4 115) 9) = 2 then (if ¬ (((J4 115) 9) + ((J4 115) 10)) = 3 then (if 3 ≤ (((J4 115) 9) + ((J4 115) 10)) then 0 else 2) else 1) else (if ¬ ((J4 115) 10) = 2 then (if ¬ (((J4 115) 9) + ((J4 115) 10)) = 3 then (if 3 ≤ (((J4 115) 9) + ((J4 115) 10)) then 0 else 2) else 1) else 4)) else (if ¬ ((J8 115) 10) = 3 then (if ¬ ((J4 115) 9) = 2 then (if ¬ (((J4 115) 9) + ((J4 115) 10)) = 3 then (if 3 ≤ (((J4 115) 9) + ((J4 115) 10)) then 0 else 2) else 1) else (if ¬ ((J4 115) 10) = 2 then (if ¬ (((J4 115) 9) + ((J4 115) 10)) = 3 then (if 3 ≤ (((J4 115) 9) + ((J4 115) 10)) then 0 else 2) else 1) else 4)) else 3)) else (if ((J8 115) 9) = 3 then 3 else (if ¬ ((J4 115) 10) = 3 then (if ¬ ((J4 115) 9) = 2 then (if ¬ (((J4 115) 9) + ((J4 115) 10)) = 3 then (if 3 ≤ (((J4 115) 9) + ((J4 115) 10)) then 0 else 2) else 1) else (if ¬ ((J4 115) 10) = 2 then (if ¬ (((J4 115) 9) + ((J4 115) 10)) = 3 then (if 3 ≤ (((J4 115) 9) + ((J4 115) 10)) then 0 else 2) else 1) else 4)) else (if ¬ ((J8 115) 10) = 3 then (if ¬ ((J4 115) 9) = 2 then (if ¬ (((J4 115) 9) + ((J4 115) 10)) = 3 then (if 3 ≤ (((J4 115) 9) + ((J4 115) 10)) then 0 else 2) else 1) else (if ¬ ((J4 115) 10) = 2 then (if ¬ (((J4 115) 9) + ((J4 115) 10)) = 3 then (if 3 ≤ (((J4 115) 9) + ((J4 115) 10)) then 0 else 2) else 1) else 4)) else 3)))))) ((10 * q) + 1) ((J4 115) 9)) ((10 * q) + 2) ((J4 115) 10)) ((10 * q) + 3) ((4 - ((J4 115) 9)) - ((J4 115) 10))))) dX8_setFacts_150 rfl hs_124 rfl (by omega) (Nat.le_of_ble_eq_true rfl) (ma_up_up _ _ _ _) ?_
  refine ev_aload_n (pc' := 152) (i := 0) dX8_setFacts_151 rfl rfl rfl ?_
  refine ev_getR (pc' := 155) fo_X8_40 dX8_setFacts_152 rfl hs_115 rfl rf_115_14 ?_
  refine ev_iload_n (pc' := 156) (i := 2) dX8_setFacts_155 rfl rfl rfl ?_
  refine ev_iconst (pc' := 157) (v := 4) dX8_setFacts_156 rfl ki_4 ?_
  refine ev_iadd (pc' := 158) (v := nI ((10 * q) + 4)) dX8_setFacts_157 rfl (nI_add (10 * q) 4) ?_
  refine ev_aload_n (pc' := 159) (i := 0) dX8_setFacts_158 rfl rfl rfl ?_
  refine ev_getI (pc' := 162) (v := (J8 115) 9) fo_X8_160 dX8_setFacts_159 rfl hs_115 rfl rfl ?_
  refine ev_iast (pc' := 163) (j := (10 * q) + 4) (I' := (ma_up J8 124 (ma_up (ma_up (ma_up (ma_up (ma_up (J8 124) (10 * q) (if ¬ (((J4 115) 9) + ((J4 115) 10)) = 4 then (if ¬ ((J4 115) 9) = 2 then (if ¬ (((J4 115) 9) + ((J4 115) 10)) = 3 then (if 3 ≤ (((J4 115) 9) + ((J4 115) 10)) then 0 else 2) else 1) else (if ¬ ((J4 115) 10) = 2 then (if ¬ (((J4 115) 9) + ((J4 115) 10)) = 3 then (if 3 ≤ (((J4 115) 9) + ((J4 115) 10)) then 0 else 2) else 1) else 4)) else (if ¬ ((J4 115) 9) = 3 then (if ¬ ((J4 115) 10) = 3 then (if ¬ ((J4 115) 9) = 2 then (if ¬ (((J4 115) 9) + ((J4 115) 10)) = 3 then (if 3 ≤ (((J4 115) 9) + ((J4 115) 10)) then 0 else 2) else 1) else (if ¬ ((J4 115) 10) = 2 then (if ¬ (((J4 115) 9) + ((J4 115) 10)) = 3 then (if 3 ≤ (((J4 115) 9) + ((J4 115) 10)) then 0 else 2) else 1) else 4)) else (if ¬ ((J8 115) 10) = 3 then (if ¬ ((J4 115) 9) = 2 then (if ¬ (((J4 115) 9) + ((J4 115) 10)) = 3 then (if 3 ≤ (((J4 115) 9) + ((J4 115) 10)) then 0 else 2) else 1) else (if ¬ ((J4 115) 10) = 2 then (if ¬ (((J4 115) 9) + ((J4 115) 10)) = 3 then (if 3 ≤ (((J4 115) 9) + ((J4 115) 10)) then 0 else 2) else 1) else 4)) else 3)) else (if ((J8 115) 9) = 3 then 3 else (if ¬ ((J4 115) 10) = 3 then (if ¬ ((J4 115) 9) = 2 then (if ¬ (((J4 115) 9) + ((J4 115) 10)) = 3 then (if 3 ≤ (((J4 115) 9) + ((J4 115) 10)) then 0 else 2) else 1) else (if ¬ ((J4 115) 10) = 2 then (if ¬ (((J4 115) 9) + ((J4 115) 10)) = 3 then (if 3 ≤ (((J4 115) 9) + ((J4 115) 10)) then 0 else 2) else 1) else 4)) else (if ¬ ((J8 115) 10) = 3 then (if ¬ ((J4 115) 9) = 2 then (if ¬ (((J4 115) 9) + ((J4 115) 10)) = 3 then (if 3 ≤ (((J4 115) 9) + ((J4 115) 10)) then 0 else 2) else 1) else (if ¬ ((J4 115) 10) = 2 then (if ¬ (((J4 115) 9) + ((J4 115) 10)) = 3 then (if 3 ≤ (((J4 115) 9) + ((J4 115) 10)) then 0 else 2) else 1) else 4)) else 3)))))) ((10 * q) + 1) ((J4 115) 9)) ((10 * q) + 2) ((J4 115) 10)) ((10 * q) + 3) ((4 - ((J4 115) 9)) - ((J4 115) 10))) ((10 * q) + 4) ((J8 115) 9)))) dX8_setFacts_162 rfl hs_124 rfl (by omega) (Nat.le_of_ble_eq_true rfl) (ma_up_up _ _ _ _) ?_
  refine ev_aload_n (pc' := 164) (i := 0) dX8_setFacts_163 rfl rfl rfl ?_
  refine ev_getR (pc' := 167) fo_X8_40 dX8_setFacts_164 rfl hs_115 rfl rf_115_14 ?_
  refine ev_iload_n (pc' := 168) (i := 2) dX8_setFacts_167 rfl rfl rfl ?_
  refine ev_iconst (pc' := 169) (v := 5) dX8_setFacts_168 rfl ki_5 ?_
  refine ev_iadd (pc' := 170) (v := nI ((10 * q) + 5)) dX8_setFacts_169 rfl (nI_add (10 * q) 5) ?_
  refine ev_aload_n (pc' := 171) (i := 0) dX8_setFacts_170 rfl rfl rfl ?_
  refine ev_getI (pc' := 174) (v := (J8 115) 10) fo_X8_163 dX8_setFacts_171 rfl hs_115 rfl rfl ?_
  refine ev_iast (pc' := 175) (j := (10 * q) + 5) (I' := (ma_up J8 124 (ma_up (ma_up (ma_up (ma_up (ma_up (ma_up (J8 124) (10 * q) (if ¬ (((J4 115) 9) + ((J4 115) 10)) = 4 then (if ¬ ((J4 115) 9) = 2 then (if ¬ (((J4 115) 9) + ((J4 115) 10)) = 3 then (if 3 ≤ (((J4 115) 9) + ((J4 115) 10)) then 0 else 2) else 1) else (if ¬ ((J4 115) 10) = 2 then (if ¬ (((J4 115) 9) + ((J4 115) 10)) = 3 then (if 3 ≤ (((J4 115) 9) + ((J4 115) 10)) then 0 else 2) else 1) else 4)) else (if ¬ ((J4 115) 9) = 3 then (if ¬ ((J4 115) 10) = 3 then (if ¬ ((J4 115) 9) = 2 then (if ¬ (((J4 115) 9) + ((J4 115) 10)) = 3 then (if 3 ≤ (((J4 115) 9) + ((J4 115) 10)) then 0 else 2) else 1) else (if ¬ ((J4 115) 10) = 2 then (if ¬ (((J4 115) 9) + ((J4 115) 10)) = 3 then (if 3 ≤ (((J4 115) 9) + ((J4 115) 10)) then 0 else 2) else 1) else 4)) else (if ¬ ((J8 115) 10) = 3 then (if ¬ ((J4 115) 9) = 2 then (if ¬ (((J4 115) 9) + ((J4 115) 10)) = 3 then (if 3 ≤ (((J4 115) 9) + ((J4 115) 10)) then 0 else 2) else 1) else (if ¬ ((J4 115) 10) = 2 then (if ¬ (((J4 115) 9) + ((J4 115) 10)) = 3 then (if 3 ≤ (((J4 115) 9) + ((J4 115) 10)) then 0 else 2) else 1) else 4)) else 3)) else (if ((J8 115) 9) = 3 then 3 else (if ¬ ((J4 115) 10) = 3 then (if ¬ ((J4 115) 9) = 2 then (if ¬ (((J4 115) 9) + ((J4 115) 10)) = 3 then (if 3 ≤ (((J4 115) 9) + ((J4 115) 10)) then 0 else 2) else 1) else (if ¬ ((J4 115) 10) = 2 then (if ¬ (((J4 115) 9) + ((J4 115) 10)) = 3 then (if 3 ≤ (((J4 115) 9) + ((J4 115) 10)) then 0 else 2) else 1) else 4)) else (if ¬ ((J8 115) 10) = 3 then (if ¬ ((J4 115) 9) = 2 then (if ¬ (((J4 115) 9) + ((J4 115) 10)) = 3 then (if 3 ≤ (((J4 115) 9) + ((J4 115) 10)) then 0 else 2) else 1) else (if ¬ ((J4 115) 10) = 2 then (if ¬ (((J4 115) 9) + ((J4 115) 10)) = 3 then (if 3 ≤ (((J4 115) 9) + ((J4 115) 10)) then 0 else 2) else 1) else 4)) else 3)))))) ((10 * q) + 1) ((J4 115) 9)) ((10 * q) + 2) ((J4 115) 10)) ((10 * q) + 3) ((4 - ((J4 115) 9)) - ((J4 115) 10))) ((10 * q) + 4) ((J8 115) 9)) ((10 * q) + 5) ((J8 115) 10)))) dX8_setFacts_174 rfl hs_124 rfl (by omega) (Nat.le_of_ble_eq_true rfl) (ma_up_up _ _ _ _) ?_
  refine ev_aload_n (pc' := 176) (i := 0) dX8_setFacts_175 rfl rfl rfl ?_
  refine ev_getR (pc' := 179) fo_X8_40 dX8_setFacts_176 rfl hs_115 rfl rf_115_14 ?_
  refine ev_iload_n (pc' := 180) (i := 2) dX8_setFacts_179 rfl rfl rfl ?_
  refine ev_bipush (pc' := 182) (v := 6) dX8_setFacts_180 rfl kb_6 ?_
  refine ev_iadd (pc' := 183) (v := nI ((10 * q) + 6)) dX8_setFacts_182 rfl (nI_add (10 * q) 6) ?_
  refine ev_iconst (pc' := 184) (v := 3) dX8_setFacts_183 rfl ki_3 ?_
  refine ev_aload_n (pc' := 185) (i := 0) dX8_setFacts_184 rfl rfl rfl ?_
  refine ev_getI (pc' := 188) (v := (J8 115) 9) fo_X8_160 dX8_setFacts_185 rfl hs_115 rfl rfl ?_
  refine ev_isub (pc' := 189) (v := 3 - ((J8 115) 9)) dX8_setFacts_188 rfl rfl ?_
  refine ev_aload_n (pc' := 190) (i := 0) dX8_setFacts_189 rfl rfl rfl ?_
  refine ev_getI (pc' := 193) (v := (J8 115) 10) fo_X8_163 dX8_setFacts_190 rfl hs_115 rfl rfl ?_
  refine ev_isub (pc' := 194) (v := (3 - ((J8 115) 9)) - ((J8 115) 10)) dX8_setFacts_193 rfl rfl ?_
  refine ev_iast (pc' := 195) (j := (10 * q) + 6) (I' := (ma_up J8 124 (ma_up (ma_up (ma_up (ma_up (ma_up (ma_up (ma_up (J8 124) (10 * q) (if ¬ (((J4 115) 9) + ((J4 115) 10)) = 4 then (if ¬ ((J4 115) 9) = 2 then (if ¬ (((J4 115) 9) + ((J4 115) 10)) = 3 then (if 3 ≤ (((J4 115) 9) + ((J4 115) 10)) then 0 else 2) else 1) else (if ¬ ((J4 115) 10) = 2 then (if ¬ (((J4 115) 9) + ((J4 115) 10)) = 3 then (if 3 ≤ (((J4 115) 9) + ((J4 115) 10)) then 0 else 2) else 1) else 4)) else (if ¬ ((J4 115) 9) = 3 then (if ¬ ((J4 115) 10) = 3 then (if ¬ ((J4 115) 9) = 2 then (if ¬ (((J4 115) 9) + ((J4 115) 10)) = 3 then (if 3 ≤ (((J4 115) 9) + ((J4 115) 10)) then 0 else 2) else 1) else (if ¬ ((J4 115) 10) = 2 then (if ¬ (((J4 115) 9) + ((J4 115) 10)) = 3 then (if 3 ≤ (((J4 115) 9) + ((J4 115) 10)) then 0 else 2) else 1) else 4)) else (if ¬ ((J8 115) 10) = 3 then (if ¬ ((J4 115) 9) = 2 then (if ¬ (((J4 115) 9) + ((J4 115) 10)) = 3 then (if 3 ≤ (((J4 115) 9) + ((J4 115) 10)) then 0 else 2) else 1) else (if ¬ ((J4 115) 10) = 2 then (if ¬ (((J4 115) 9) + ((J4 115) 10)) = 3 then (if 3 ≤ (((J4 115) 9) + ((J4 115) 10)) then 0 else 2) else 1) else 4)) else 3)) else (if ((J8 115) 9) = 3 then 3 else (if ¬ ((J4 115) 10) = 3 then (if ¬ ((J4 115) 9) = 2 then (if ¬ (((J4 115) 9) + ((J4 115) 10)) = 3 then (if 3 ≤ (((J4 115) 9) + ((J4 115) 10)) then 0 else 2) else 1) else (if ¬ ((J4 115) 10) = 2 then (if ¬ (((J4 115) 9) + ((J4 115) 10)) = 3 then (if 3 ≤ (((J4 115) 9) + ((J4 115) 10)) then 0 else 2) else 1) else 4)) else (if ¬ ((J8 115) 10) = 3 then (if ¬ ((J4 115) 9) = 2 then (if ¬ (((J4 115) 9) + ((J4 115) 10)) = 3 then (if 3 ≤ (((J4 115) 9) + ((J4 115) 10)) then 0 else 2) else 1) else (if ¬ ((J4 115) 10) = 2 then (if ¬ (((J4 115) 9) + ((J4 115) 10)) = 3 then (if 3 ≤ (((J4 115) 9) + ((J4 115) 10)) then 0 else 2) else 1) else 4)) else 3)))))) ((10 * q) + 1) ((J4 115) 9)) ((10 * q) + 2) ((J4 115) 10)) ((10 * q) + 3) ((4 - ((J4 115) 9)) - ((J4 115) 10))) ((10 * q) + 4) ((J8 115) 9)) ((10 * q) + 5) ((J8 115) 10)) ((10 * q) + 6) ((3 - ((J8 115) 9)) - ((J8 115) 10))))) dX8_setFacts_194 rfl hs_124 rfl (by omega) (Nat.le_of_ble_eq_true rfl) (ma_up_up _ _ _ _) ?_
  refine ev_aload_n (pc' := 196) (i := 0) dX8_setFacts_195 rfl rfl rfl ?_
  refine ev_getR (pc' := 199) fo_X8_40 dX8_setFacts_196 rfl hs_115 rfl rf_115_14 ?_
  refine ev_iload_n (pc' := 200) (i := 2) dX8_setFacts_199 rfl rfl rfl ?_
  refine ev_bipush (pc' := 202) (v := 7) dX8_setFacts_200 rfl kb_7 ?_
  refine ev_iadd (pc' := 203) (v := nI ((10 * q) + 7)) dX8_setFacts_202 rfl (nI_add (10 * q) 7) ?_
  refine ev_aload_n (pc' := 204) (i := 0) dX8_setFacts_203 rfl rfl rfl ?_
  refine ev_getR (pc' := 207) fo_X8_26 dX8_setFacts_204 rfl hs_115 rfl rf_115_8 ?_
  refine ev_callS (pc' := 210) (rm' := rX8_worthOf) (av := [.ref 120]) (rest := [.int (nI ((10 * q) + 7)), .ref 124]) co_X8_173 cs_X8_worthOf dX8_setFacts_207 rfl rfl rfl (Nat.le_of_ble_eq_true rfl) ⟨(Nat.le_of_ble_eq_true rfl), (Nat.le_of_ble_eq_true rfl)⟩ ⟨(Nat.le_of_ble_eq_true rfl), (Nat.le_of_ble_eq_true rfl)⟩ ?_
  refine t_X8_worthOf 120 hs_120 ?_
  refine ev_l2i (pc' := 211) (v := Int64.toInt32 (mW (K1 120))) dX8_setFacts_210 rfl rfl ?_
  refine ev_iast (pc' := 212) (j := (10 * q) + 7) (I' := (ma_up J8 124 (ma_up (ma_up (ma_up (ma_up (ma_up (ma_up (ma_up (ma_up (J8 124) (10 * q) (if ¬ (((J4 115) 9) + ((J4 115) 10)) = 4 then (if ¬ ((J4 115) 9) = 2 then (if ¬ (((J4 115) 9) + ((J4 115) 10)) = 3 then (if 3 ≤ (((J4 115) 9) + ((J4 115) 10)) then 0 else 2) else 1) else (if ¬ ((J4 115) 10) = 2 then (if ¬ (((J4 115) 9) + ((J4 115) 10)) = 3 then (if 3 ≤ (((J4 115) 9) + ((J4 115) 10)) then 0 else 2) else 1) else 4)) else (if ¬ ((J4 115) 9) = 3 then (if ¬ ((J4 115) 10) = 3 then (if ¬ ((J4 115) 9) = 2 then (if ¬ (((J4 115) 9) + ((J4 115) 10)) = 3 then (if 3 ≤ (((J4 115) 9) + ((J4 115) 10)) then 0 else 2) else 1) else (if ¬ ((J4 115) 10) = 2 then (if ¬ (((J4 115) 9) + ((J4 115) 10)) = 3 then (if 3 ≤ (((J4 115) 9) + ((J4 115) 10)) then 0 else 2) else 1) else 4)) else (if ¬ ((J8 115) 10) = 3 then (if ¬ ((J4 115) 9) = 2 then (if ¬ (((J4 115) 9) + ((J4 115) 10)) = 3 then (if 3 ≤ (((J4 115) 9) + ((J4 115) 10)) then 0 else 2) else 1) else (if ¬ ((J4 115) 10) = 2 then (if ¬ (((J4 115) 9) + ((J4 115) 10)) = 3 then (if 3 ≤ (((J4 115) 9) + ((J4 115) 10)) then 0 else 2) else 1) else 4)) else 3)) else (if ((J8 115) 9) = 3 then 3 else (if ¬ ((J4 115) 10) = 3 then (if ¬ ((J4 115) 9) = 2 then (if ¬ (((J4 115) 9) + ((J4 115) 10)) = 3 then (if 3 ≤ (((J4 115) 9) + ((J4 115) 10)) then 0 else 2) else 1) else (if ¬ ((J4 115) 10) = 2 then (if ¬ (((J4 115) 9) + ((J4 115) 10)) = 3 then (if 3 ≤ (((J4 115) 9) + ((J4 115) 10)) then 0 else 2) else 1) else 4)) else (if ¬ ((J8 115) 10) = 3 then (if ¬ ((J4 115) 9) = 2 then (if ¬ (((J4 115) 9) + ((J4 115) 10)) = 3 then (if 3 ≤ (((J4 115) 9) + ((J4 115) 10)) then 0 else 2) else 1) else (if ¬ ((J4 115) 10) = 2 then (if ¬ (((J4 115) 9) + ((J4 115) 10)) = 3 then (if 3 ≤ (((J4 115) 9) + ((J4 115) 10)) then 0 else 2) else 1) else 4)) else 3)))))) ((10 * q) + 1) ((J4 115) 9)) ((10 * q) + 2) ((J4 115) 10)) ((10 * q) + 3) ((4 - ((J4 115) 9)) - ((J4 115) 10))) ((10 * q) + 4) ((J8 115) 9)) ((10 * q) + 5) ((J8 115) 10)) ((10 * q) + 6) ((3 - ((J8 115) 9)) - ((J8 115) 10))) ((10 * q) + 7) (Int64.toInt32 (mW (K1 120)))))) dX8_setFacts_211 rfl hs_124 rfl (by omega) (Nat.le_of_ble_eq_true rfl) (ma_up_up _ _ _ _) ?_
  refine ev_aload_n (pc' := 213) (i := 0) dX8_setFacts_212 rfl rfl rfl ?_
  refine ev_getR (pc' := 216) fo_X8_40 dX8_setFacts_213 rfl hs_115 rfl rf_115_14 ?_
  refine ev_iload_n (pc' := 217) (i := 2) dX8_setFacts_216 rfl rfl rfl ?_
  refine ev_bipush (pc' := 219) (v := 8) dX8_setFacts_217 rfl kb_8 ?_
  refine ev_iadd (pc' := 220) (v := nI ((10 * q) + 8)) dX8_setFacts_219 rfl (nI_add (10 * q) 8) ?_
  refine ev_aload_n (pc' := 221) (i := 0) dX8_setFacts_220 rfl rfl rfl ?_
  refine ev_iconst (pc' := 222) (v := 0) dX8_setFacts_221 rfl ki_0 ?_
  refine ev_iconst (pc' := 223) (v := 1) dX8_setFacts_222 rfl ki_1 ?_
  refine ev_iconst (pc' := 224) (v := 2) dX8_setFacts_223 rfl ki_2 ?_
  refine ev_callV (pc' := 227) (rm' := rX8_three) (b := 115) (av := [.int 0, .int 1, .int 2]) (rest := [.int (nI ((10 * q) + 8)), .ref 124]) co_X8_169 ci_X8_three cv_X8_three dX8_setFacts_224 rfl hs_115 hb_X8 rfl rfl (Nat.le_of_ble_eq_true rfl) ⟨(Nat.le_of_ble_eq_true rfl), (Nat.le_of_ble_eq_true rfl)⟩ ⟨(Nat.le_of_ble_eq_true rfl), (Nat.le_of_ble_eq_true rfl)⟩ ?_
  refine t_X8_three 0 1 2 (by omega) (by omega) (by omega) ?_
  refine ev_l2i (pc' := 228) (v := Int64.toInt32 (m3 (K1 120) 0 1 2)) dX8_setFacts_227 rfl rfl ?_
  refine ev_iast (pc' := 229) (j := (10 * q) + 8) (I' := (ma_up J8 124 (ma_up (ma_up (ma_up (ma_up (ma_up (ma_up (ma_up (ma_up (ma_up (J8 124) (10 * q) (if ¬ (((J4 115) 9) + ((J4 115) 10)) = 4 then (if ¬ ((J4 115) 9) = 2 then (if ¬ (((J4 115) 9) + ((J4 115) 10)) = 3 then (if 3 ≤ (((J4 115) 9) + ((J4 115) 10)) then 0 else 2) else 1) else (if ¬ ((J4 115) 10) = 2 then (if ¬ (((J4 115) 9) + ((J4 115) 10)) = 3 then (if 3 ≤ (((J4 115) 9) + ((J4 115) 10)) then 0 else 2) else 1) else 4)) else (if ¬ ((J4 115) 9) = 3 then (if ¬ ((J4 115) 10) = 3 then (if ¬ ((J4 115) 9) = 2 then (if ¬ (((J4 115) 9) + ((J4 115) 10)) = 3 then (if 3 ≤ (((J4 115) 9) + ((J4 115) 10)) then 0 else 2) else 1) else (if ¬ ((J4 115) 10) = 2 then (if ¬ (((J4 115) 9) + ((J4 115) 10)) = 3 then (if 3 ≤ (((J4 115) 9) + ((J4 115) 10)) then 0 else 2) else 1) else 4)) else (if ¬ ((J8 115) 10) = 3 then (if ¬ ((J4 115) 9) = 2 then (if ¬ (((J4 115) 9) + ((J4 115) 10)) = 3 then (if 3 ≤ (((J4 115) 9) + ((J4 115) 10)) then 0 else 2) else 1) else (if ¬ ((J4 115) 10) = 2 then (if ¬ (((J4 115) 9) + ((J4 115) 10)) = 3 then (if 3 ≤ (((J4 115) 9) + ((J4 115) 10)) then 0 else 2) else 1) else 4)) else 3)) else (if ((J8 115) 9) = 3 then 3 else (if ¬ ((J4 115) 10) = 3 then (if ¬ ((J4 115) 9) = 2 then (if ¬ (((J4 115) 9) + ((J4 115) 10)) = 3 then (if 3 ≤ (((J4 115) 9) + ((J4 115) 10)) then 0 else 2) else 1) else (if ¬ ((J4 115) 10) = 2 then (if ¬ (((J4 115) 9) + ((J4 115) 10)) = 3 then (if 3 ≤ (((J4 115) 9) + ((J4 115) 10)) then 0 else 2) else 1) else 4)) else (if ¬ ((J8 115) 10) = 3 then (if ¬ ((J4 115) 9) = 2 then (if ¬ (((J4 115) 9) + ((J4 115) 10)) = 3 then (if 3 ≤ (((J4 115) 9) + ((J4 115) 10)) then 0 else 2) else 1) else (if ¬ ((J4 115) 10) = 2 then (if ¬ (((J4 115) 9) + ((J4 115) 10)) = 3 then (if 3 ≤ (((J4 115) 9) + ((J4 115) 10)) then 0 else 2) else 1) else 4)) else 3)))))) ((10 * q) + 1) ((J4 115) 9)) ((10 * q) + 2) ((J4 115) 10)) ((10 * q) + 3) ((4 - ((J4 115) 9)) - ((J4 115) 10))) ((10 * q) + 4) ((J8 115) 9)) ((10 * q) + 5) ((J8 115) 10)) ((10 * q) + 6) ((3 - ((J8 115) 9)) - ((J8 115) 10))) ((10 * q) + 7) (Int64.toInt32 (mW (K1 120)))) ((10 * q) + 8) (Int64.toInt32 (m3 (K1 120) 0 1 2))))) dX8_setFacts_228 rfl hs_124 rfl (by omega) (Nat.le_of_ble_eq_true rfl) (ma_up_up _ _ _ _) ?_
  refine ev_aload_n (pc' := 230) (i := 0) dX8_setFacts_229 rfl rfl rfl ?_
  refine ev_getR (pc' := 233) fo_X8_40 dX8_setFacts_230 rfl hs_115 rfl rf_115_14 ?_
  refine ev_iload_n (pc' := 234) (i := 2) dX8_setFacts_233 rfl rfl rfl ?_
  refine ev_bipush (pc' := 236) (v := 9) dX8_setFacts_234 rfl kb_9 ?_
  refine ev_iadd (pc' := 237) (v := nI ((10 * q) + 9)) dX8_setFacts_236 rfl (nI_add (10 * q) 9) ?_
  refine ev_iload_n (pc' := 238) (i := 3) dX8_setFacts_237 rfl rfl rfl ?_
  refine ev_iload (pc' := 240) dX8_setFacts_238 rfl rfl ?_
  refine ev_aload_n (pc' := 241) (i := 0) dX8_setFacts_240 rfl rfl rfl ?_
  refine ev_getI (pc' := 244) (v := (J8 115) 9) fo_X8_160 dX8_setFacts_241 rfl hs_115 rfl rfl ?_
  refine ev_aload_n (pc' := 245) (i := 0) dX8_setFacts_244 rfl rfl rfl ?_
  refine ev_getI (pc' := 248) (v := (J8 115) 10) fo_X8_163 dX8_setFacts_245 rfl hs_115 rfl rfl ?_
  refine ev_callS (pc' := 251) (rm' := rX8_nameOf) (av := [.int ((J4 115) 9), .int ((J4 115) 10), .int ((J8 115) 9), .int ((J8 115) 10)]) (rest := [.int (nI ((10 * q) + 9)), .ref 124]) co_X8_194 cs_X8_nameOf dX8_setFacts_248 rfl rfl rfl (Nat.le_of_ble_eq_true rfl) ⟨(Nat.le_of_ble_eq_true rfl), (Nat.le_of_ble_eq_true rfl)⟩ ⟨(Nat.le_of_ble_eq_true rfl), (Nat.le_of_ble_eq_true rfl)⟩ ?_
  refine t_X8_nameOf ((J4 115) 9) ((J4 115) 10) ((J8 115) 9) ((J8 115) 10)  ?_
  refine ev_iast (pc' := 252) (j := (10 * q) + 9) (I' := (ma_up J8 124 (ma_up (ma_up (ma_up (ma_up (ma_up (ma_up (ma_up (ma_up (ma_up (ma_up (J8 124) (10 * q) (if ¬ (((J4 115) 9) + ((J4 115) 10)) = 4 then (if ¬ ((J4 115) 9) = 2 then (if ¬ (((J4 115) 9) + ((J4 115) 10)) = 3 then (if 3 ≤ (((J4 115) 9) + ((J4 115) 10)) then 0 else 2) else 1) else (if ¬ ((J4 115) 10) = 2 then (if ¬ (((J4 115) 9) + ((J4 115) 10)) = 3 then (if 3 ≤ (((J4 115) 9) + ((J4 115) 10)) then 0 else 2) else 1) else 4)) else (if ¬ ((J4 115) 9) = 3 then (if ¬ ((J4 115) 10) = 3 then (if ¬ ((J4 115) 9) = 2 then (if ¬ (((J4 115) 9) + ((J4 115) 10)) = 3 then (if 3 ≤ (((J4 115) 9) + ((J4 115) 10)) then 0 else 2) else 1) else (if ¬ ((J4 115) 10) = 2 then (if ¬ (((J4 115) 9) + ((J4 115) 10)) = 3 then (if 3 ≤ (((J4 115) 9) + ((J4 115) 10)) then 0 else 2) else 1) else 4)) else (if ¬ ((J8 115) 10) = 3 then (if ¬ ((J4 115) 9) = 2 then (if ¬ (((J4 115) 9) + ((J4 115) 10)) = 3 then (if 3 ≤ (((J4 115) 9) + ((J4 115) 10)) then 0 else 2) else 1) else (if ¬ ((J4 115) 10) = 2 then (if ¬ (((J4 115) 9) + ((J4 115) 10)) = 3 then (if 3 ≤ (((J4 115) 9) + ((J4 115) 10)) then 0 else 2) else 1) else 4)) else 3)) else (if ((J8 115) 9) = 3 then 3 else (if ¬ ((J4 115) 10) = 3 then (if ¬ ((J4 115) 9) = 2 then (if ¬ (((J4 115) 9) + ((J4 115) 10)) = 3 then (if 3 ≤ (((J4 115) 9) + ((J4 115) 10)) then 0 else 2) else 1) else (if ¬ ((J4 115) 10) = 2 then (if ¬ (((J4 115) 9) + ((J4 115) 10)) = 3 then (if 3 ≤ (((J4 115) 9) + ((J4 115) 10)) then 0 else 2) else 1) else 4)) else (if ¬ ((J8 115) 10) = 3 then (if ¬ ((J4 115) 9) = 2 then (if ¬ (((J4 115) 9) + ((J4 115) 10)) = 3 then (if 3 ≤ (((J4 115) 9) + ((J4 115) 10)) then 0 else 2) else 1) else (if ¬ ((J4 115) 10) = 2 then (if ¬ (((J4 115) 9) + ((J4 115) 10)) = 3 then (if 3 ≤ (((J4 115) 9) + ((J4 115) 10)) then 0 else 2) else 1) else 4)) else 3)))))) ((10 * q) + 1) ((J4 115) 9)) ((10 * q) + 2) ((J4 115) 10)) ((10 * q) + 3) ((4 - ((J4 115) 9)) - ((J4 115) 10))) ((10 * q) + 4) ((J8 115) 9)) ((10 * q) + 5) ((J8 115) 10)) ((10 * q) + 6) ((3 - ((J8 115) 9)) - ((J8 115) 10))) ((10 * q) + 7) (Int64.toInt32 (mW (K1 120)))) ((10 * q) + 8) (Int64.toInt32 (m3 (K1 120) 0 1 2))) ((10 * q) + 9) (mNm ((J4 115) 9) ((J4 115) 10) ((J8 115) 9) ((J8 115) 10))))) dX8_setFacts_251 rfl hs_124 rfl (by omega) (Nat.le_of_ble_eq_true rfl) (ma_up_up _ _ _ _) ?_
  refine ev_iload (pc' := 254) dX8_setFacts_252 rfl rfl ?_
  refine ev_iret dX8_setFacts_254 rfl rfl ⟨Nat.le_refl _, Nat.le_refl _⟩ ?_
  exact k1 K1 f2 f3 J4 f5 f6 f7 J8 f9 f10 f11
def mKd (a b c d : Int32) : Int32 := (if ¬ (a + b) = 4 then (if ¬ a = 2 then (if ¬ (a + b) = 3 then (if 3 ≤ (a + b) then 0 else 2) else 1) else (if ¬ b = 2 then (if ¬ (a + b) = 3 then (if 3 ≤ (a + b) then 0 else 2) else 1) else 4)) else (if ¬ a = 3 then (if ¬ b = 3 then (if ¬ a = 2 then (if ¬ (a + b) = 3 then (if 3 ≤ (a + b) then 0 else 2) else 1) else (if ¬ b = 2 then (if ¬ (a + b) = 3 then (if 3 ≤ (a + b) then 0 else 2) else 1) else 4)) else (if ¬ d = 3 then (if ¬ a = 2 then (if ¬ (a + b) = 3 then (if 3 ≤ (a + b) then 0 else 2) else 1) else (if ¬ b = 2 then (if ¬ (a + b) = 3 then (if 3 ≤ (a + b) then 0 else 2) else 1) else 4)) else 3)) else (if c = 3 then 3 else (if ¬ b = 3 then (if ¬ a = 2 then (if ¬ (a + b) = 3 then (if 3 ≤ (a + b) then 0 else 2) else 1) else (if ¬ b = 2 then (if ¬ (a + b) = 3 then (if 3 ≤ (a + b) then 0 else 2) else 1) else 4)) else (if ¬ d = 3 then (if ¬ a = 2 then (if ¬ (a + b) = 3 then (if 3 ≤ (a + b) then 0 else 2) else 1) else (if ¬ b = 2 then (if ¬ (a + b) = 3 then (if 3 ≤ (a + b) then 0 else 2) else 1) else 4)) else 3)))))
theorem row10 (f : Nat → Int32) (b : Nat) (v : Nat → Int32) (j : Nat) : (ma_up (ma_up (ma_up (ma_up (ma_up (ma_up (ma_up (ma_up (ma_up (ma_up f b (v 0)) (b + 1) (v 1)) (b + 2) (v 2)) (b + 3) (v 3)) (b + 4) (v 4)) (b + 5) (v 5)) (b + 6) (v 6)) (b + 7) (v 7)) (b + 8) (v 8)) (b + 9) (v 9)) j = if b ≤ j ∧ j < b + 10 then v (j - b) else f j := by
  by_cases hj : b ≤ j ∧ j < b + 10
  · rw [if_pos hj]
    obtain ⟨i, hi, rfl⟩ : ∃ i, i < 10 ∧ j = b + i := ⟨j - b, by omega, by omega⟩
    rw [Nat.add_sub_cancel_left]
    match i, hi with
    | 0, _ => simp [ma_up]
    | 1, _ => simp [ma_up]
    | 2, _ => simp [ma_up]
    | 3, _ => simp [ma_up]
    | 4, _ => simp [ma_up]
    | 5, _ => simp [ma_up]
    | 6, _ => simp [ma_up]
    | 7, _ => simp [ma_up]
    | 8, _ => simp [ma_up]
    | 9, _ => simp [ma_up]
  · rw [if_neg hj]
    have h0 : j ≠ b := by omega
    have : ∀ c, c < 10 → j ≠ b + c := fun c hc => by omega
    rw [ma_up_n _ _ (this 9 (by omega)), ma_up_n _ _ (this 8 (by omega)), ma_up_n _ _ (this 7 (by omega)), ma_up_n _ _ (this 6 (by omega)), ma_up_n _ _ (this 5 (by omega)), ma_up_n _ _ (this 4 (by omega)), ma_up_n _ _ (this 3 (by omega)), ma_up_n _ _ (this 2 (by omega)), ma_up_n _ _ (this 1 (by omega)), ma_up_n _ _ h0]
def mFc (t : Nat → Int64) (i : Nat) : Int32 := match i with
  | 0 => mKd (mFA t) (mFB t) (mTA t) (mTB t)
  | 1 => mFA t
  | 2 => mFB t
  | 3 => (4 - mFA t) - mFB t
  | 4 => mTA t
  | 5 => mTB t
  | 6 => (3 - mTA t) - mTB t
  | 7 => (mW t).toInt32
  | 8 => (m3 t 0 1 2).toInt32
  | _ => mNm (mFA t) (mFB t) (mTA t) (mTB t)
theorem f_X8_setFacts {g : ma_G} {Post : ma_P} {I : ma_I} {L : ma_L} (q : Nat) (hq : q < 12) (k : ∀ (r : Int32) (J : ma_I) (K : ma_L), (∀ j, J 124 j = if 10 * q ≤ j ∧ j < 10 * q + 10 then mFc (K 120) (j - 10 * q) else I 124 j) → (∀ j, j < 16 → K 120 j = (I 123 (16 * q + j)).toInt64) → (mSl [120] L K) → (mSx [121, 124] [9, 10] I J) → (r = mFc (K 120) 0) → Post (some (.int r)) HS J K RF 146) : CT g yX8_setFacts cX8_setFacts 6 (some .int) rX8_setFacts [.ref 115, .int (nI q)] Post HS I L RF 146 := by
  refine t_X8_setFacts0 q hq (fun K1 h1 h2 J4 a1 a2 a3 J8 b1 b2 b3 => ?_)
  refine k _ K1 ?_ h1 h2 ?_ (r := _) ?_
  · intro j
    rw [ma_up_s, a1, a2, b1, b2]
    have e8 : J8 124 = I 124 := by rw [b3.1 124 (by decide) (by decide), a3.1 124 (by decide) (by decide)]
    rw [← e8]
    exact row10 (J8 124) (10 * q) (mFc (K1 120)) j
  · have e := a3.trans b3
    refine ⟨fun a g1 g2 => ?_, fun k hk => ?_⟩
    · simp only [List.mem_cons, List.not_mem_nil, or_false, not_or] at g2
      rw [ma_up_n _ _ g2.2]
      exact e.1 a g1 (by simp [g2.1])
    · rw [ma_up_n _ _ (by decide)]
      simp only [List.mem_cons, List.not_mem_nil, or_false, not_or] at hk
      exact e.2 k (by simp [hk])
  · rw [a1, a2, b1, b2]; rfl
theorem u_X8_rowOf {g : ma_G} {Post : ma_P} {I : ma_I} {L : ma_L} (a v : Int32) (h : mRo a = v) (k : Post (some (.int v)) HS I L RF 146) : CT g yX8_rowOf cX8_rowOf 1 (some .int) rX8_rowOf [.int a] Post HS I L RF 146 := t_X8_rowOf a (by rw [h]; exact k)
theorem u_X8_columnOf {g : ma_G} {Post : ma_P} {I : ma_I} {L : ma_L} (a v : Int32) (h : mCo a = v) (k : Post (some (.int v)) HS I L RF 146) : CT g yX8_columnOf cX8_columnOf 1 (some .int) rX8_columnOf [.int a] Post HS I L RF 146 := t_X8_columnOf a (by rw [h]; exact k)
theorem b_at {x : Int32} {i : Nat} {q : Nat → Prop} (hx : (x = 0 ∨ x = 1) ∧ (x = 1 ↔ ∀ j, j < i → q j)) (h : ¬ x = 0) (hq : q i) : ((1 : Int32) = 0 ∨ (1 : Int32) = 1) ∧ ((1 : Int32) = 1 ↔ ∀ j, j < i + 1 → q j) := by
  refine ⟨Or.inr rfl, ⟨fun _ j hj => ?_, fun _ => rfl⟩⟩
  rcases Nat.lt_or_ge j i with c | c
  · exact hx.2.mp (hx.1.resolve_left h) j c
  · obtain rfl : j = i := by omega
    exact hq
theorem b_af {x : Int32} {i : Nat} {q : Nat → Prop} (hx : (x = 0 ∨ x = 1) ∧ (x = 1 ↔ ∀ j, j < i → q j)) (h : x = 0) : ((0 : Int32) = 0 ∨ (0 : Int32) = 1) ∧ ((0 : Int32) = 1 ↔ ∀ j, j < i + 1 → q j) := by
  refine ⟨Or.inl rfl, ⟨fun e => absurd e (by decide), fun e => ?_⟩⟩
  have := hx.2.mpr (fun j hj => e j (by omega))
  rw [h] at this
  exact absurd this (by decide)
theorem b_ag {i : Nat} {q : Nat → Prop} (h : ¬ q i) : ((0 : Int32) = 0 ∨ (0 : Int32) = 1) ∧ ((0 : Int32) = 1 ↔ ∀ j, j < i + 1 → q j) := ⟨Or.inl rfl, ⟨fun e => absurd e (by decide), fun e => absurd (e i (by omega)) h⟩⟩
theorem b_am {x : Int32} {i : Nat} {q : Nat → Prop} [Decidable ((¬ x = 0) ∧ q i)] (hx : (x = 0 ∨ x = 1) ∧ (x = 1 ↔ ∀ j, j < i → q j)) : ((if (¬ x = 0) ∧ q i then (1 : Int32) else 0) = 0 ∨ (if (¬ x = 0) ∧ q i then (1 : Int32) else 0) = 1) ∧ ((if (¬ x = 0) ∧ q i then (1 : Int32) else 0) = 1 ↔ ∀ j, j < i + 1 → q j) := by
  by_cases h : (¬ x = 0) ∧ q i
  · rw [if_pos h]
    exact b_at hx h.1 h.2
  · rw [if_neg h]
    by_cases h0 : x = 0
    · exact b_af hx h0
    · exact b_ag (fun hq => h ⟨h0, hq⟩)
theorem b_ap {x : Int32} {i : Nat} {q : Nat → Prop} [Decidable (q i)] (hx : (x = 0 ∨ x = 1) ∧ (x = 1 ↔ ∀ j, j < i → q j)) (h : ¬ x = 0) : ((if q i then (1 : Int32) else 0) = 0 ∨ (if q i then (1 : Int32) else 0) = 1) ∧ ((if q i then (1 : Int32) else 0) = 1 ↔ ∀ j, j < i + 1 → q j) := by
  by_cases h1 : q i
  · rw [if_pos h1]
    exact b_at hx h h1
  · rw [if_neg h1]
    exact b_ag h1
theorem b_a0 {q : Nat → Prop} : ((1 : Int32) = 0 ∨ (1 : Int32) = 1) ∧ ((1 : Int32) = 1 ↔ ∀ j, j < 0 → q j) := ⟨Or.inr rfl, ⟨fun _ j hj => by omega, fun _ => rfl⟩⟩
/-- place k of a sheet of the reference, 0 where it lacks -/
def mPl (I : ma_I) (s k : Nat) : Int32 := if I 117 s ≤ nI k then 0 else I 118 (16 * s + k)
set_option maxRecDepth 4000 in
theorem t_X8_ground {g : ma_G} {Post : ma_P} {I : ma_I} {L : ma_L}  (q : Int32) (s : Int32) (hz : ∀ j, j < 8 → (I 117 j).toInt ≤ 16) (k1 : (¬ ((¬ q < 0) ∧ (¬ 11 < q))) → Post (some (.int (-1))) HS I L RF 146) (k2 : ∀ n2 : Nat, (n2 < 12) → q = nI n2 → ∀ n4 : Nat, (n4 < 8) → s = nI n4 → (n4 < 8) → (0 ≤ ((I 117) n4)) → ∀ x16 : Int32, ∀ y17 : Int32, (((x16 = 0 ∨ x16 = 1) ∧ (x16 = 1 ↔ ∀ j, j < 10 → ((¬ mPl I n4 j < (-4)) ∧ (¬ 4 < mPl I n4 j)))) ∧ ((y17 = 0 ∨ y17 = 1) ∧ (y17 = 1 ↔ ∀ j, j < 10 → mPl I n4 j = 0))) → (x16 = 0) → Post (some (.int (-3))) HS (mMt I 2) L RF 146) (k3 : ∀ n2 : Nat, (n2 < 12) → q = nI n2 → ∀ n4 : Nat, (n4 < 8) → s = nI n4 → (n4 < 8) → (0 ≤ ((I 117) n4)) → ∀ x16 : Int32, ∀ y17 : Int32, (((x16 = 0 ∨ x16 = 1) ∧ (x16 = 1 ↔ ∀ j, j < 10 → ((¬ mPl I n4 j < (-4)) ∧ (¬ 4 < mPl I n4 j)))) ∧ ((y17 = 0 ∨ y17 = 1) ∧ (y17 = 1 ↔ ∀ j, j < 10 → mPl I n4 j = 0))) → (¬ x16 = 0) → (y17 = 0) → ∀ I63 : ma_I, (I63 = (ma_up (ma_up I 123 (ma_up (ma_up (ma_up (ma_up (ma_up (ma_up (ma_up (ma_up (ma_up (ma_up (ma_up (ma_up (ma_up (ma_up (ma_up (ma_up (I 123) (((16 * n2) + 0) + 0) (if ((I 117) n4) ≤ 0 then 0 else ((I 118) ((16 * n4) + 0)))) (((16 * n2) + 0) + 1) (if ((I 117) n4) ≤ 1 then 0 else ((I 118) ((16 * n4) + 1)))) (((16 * n2) + 4) + 0) (if ((I 117) n4) ≤ 1 then 0 else ((I 118) ((16 * n4) + 1)))) (((16 * n2) + 0) + 2) (if ((I 117) n4) ≤ 2 then 0 else ((I 118) ((16 * n4) + 2)))) (((16 * n2) + 8) + 0) (if ((I 117) n4) ≤ 2 then 0 else ((I 118) ((16 * n4) + 2)))) (((16 * n2) + 0) + 3) (if ((I 117) n4) ≤ 3 then 0 else ((I 118) ((16 * n4) + 3)))) (((16 * n2) + 12) + 0) (if ((I 117) n4) ≤ 3 then 0 else ((I 118) ((16 * n4) + 3)))) (((16 * n2) + 4) + 1) (if ((I 117) n4) ≤ 4 then 0 else ((I 118) ((16 * n4) + 4)))) (((16 * n2) + 4) + 2) (if ((I 117) n4) ≤ 5 then 0 else ((I 118) ((16 * n4) + 5)))) (((16 * n2) + 8) + 1) (if ((I 117) n4) ≤ 5 then 0 else ((I 118) ((16 * n4) + 5)))) (((16 * n2) + 4) + 3) (if ((I 117) n4) ≤ 6 then 0 else ((I 118) ((16 * n4) + 6)))) (((16 * n2) + 12) + 1) (if ((I 117) n4) ≤ 6 then 0 else ((I 118) ((16 * n4) + 6)))) (((16 * n2) + 8) + 2) (if ((I 117) n4) ≤ 7 then 0 else ((I 118) ((16 * n4) + 7)))) (((16 * n2) + 8) + 3) (if ((I 117) n4) ≤ 8 then 0 else ((I 118) ((16 * n4) + 8)))) (((16 * n2) + 12) + 2) (if ((I 117) n4) ≤ 8 then 0 else ((I 118) ((16 * n4) + 8)))) (((16 * n2) + 12) + 3) (if ((I 117) n4) ≤ 9 then 0 else ((I 118) ((16 * n4) + 9))))) 122 (ma_up (I 122) n2 1))) → ∀ r64 : Int32, ∀ J65 : ma_I, ∀ K66 : ma_L, (∀ j, J65 124 j = if 10 * n2 ≤ j ∧ j < 10 * n2 + 10 then mFc (K66 120) (j - 10 * n2) else I63 124 j) → (∀ j, j < 16 → K66 120 j = (I63 123 (16 * n2 + j)).toInt64) → (mSl [120] L K66) → (mSx [121, 124] [9, 10] I63 J65) → (r64 = mFc (K66 120) 0) → Post (some (.int r64)) HS J65 K66 RF 146) (k4 : ∀ n2 : Nat, (n2 < 12) → q = nI n2 → ∀ n4 : Nat, (n4 < 8) → s = nI n4 → (n4 < 8) → (0 ≤ ((I 117) n4)) → ∀ x16 : Int32, ∀ y17 : Int32, (((x16 = 0 ∨ x16 = 1) ∧ (x16 = 1 ↔ ∀ j, j < 10 → ((¬ mPl I n4 j < (-4)) ∧ (¬ 4 < mPl I n4 j)))) ∧ ((y17 = 0 ∨ y17 = 1) ∧ (y17 = 1 ↔ ∀ j, j < 10 → mPl I n4 j = 0))) → (¬ x16 = 0) → (¬ y17 = 0) → Post (some (.int (-3))) HS (mMt I 4) L RF 146) (k5 : ∀ n2 : Nat, (n2 < 12) → q = nI n2 → ∀ n4 : Nat, (n4 < 8) → s = nI n4 → (n4 < 8) → (¬ 0 ≤ ((I 117) n4)) → Post (some (.int (-3))) HS (mMt I 1) L RF 146) (k6 : ∀ n2 : Nat, (n2 < 12) → q = nI n2 → ∀ n4 : Nat, (n4 < 8) → s = nI n4 → (¬ ((¬ (nI n4) < 0) ∧ (¬ 7 < (nI n4)))) → Post (some (.int (-1))) HS I L RF 146) (k7 : ∀ n2 : Nat, (n2 < 12) → q = nI n2 → (¬ ((¬ s < 0) ∧ (¬ 7 < s))) → Post (some (.int (-1))) HS I L RF 146) : CT g yX8_ground cX8_ground 8 (some .int) rX8_ground [.ref 115, .int q, .int s] Post HS I L RF 146 := by
  refine ct_of (lv := [some (.ref 115), some (.int q), some (.int s), none, none, none, none, none]) (by decide) (Nat.le_of_ble_eq_true rfl) rfl ?_
  refine ev_iload_n (pc' := 1) (i := 1) dX8_ground_0 rfl rfl rfl ?_
  refine ev_callS (pc' := 4) (rm' := rX8_isGround) (av := [.int q]) (rest := []) co_X8_181 cs_X8_isGround dX8_ground_1 rfl rfl rfl (Nat.le_of_ble_eq_true rfl) ⟨(Nat.le_of_ble_eq_true rfl), (Nat.le_of_ble_eq_true rfl)⟩ ⟨(Nat.le_of_ble_eq_true rfl), (Nat.le_of_ble_eq_true rfl)⟩ ?_
  refine t_X8_isGround q  ?_
  refine ev_if_eq_b (tgt := 14) (pc' := 7) dX8_ground_4 rfl rfl (fun c1 => ?_) (fun c1 => ?_)
  · refine ev_iconst (pc' := 15) (v := (-1)) dX8_ground_14 rfl ki_m1 ?_
    refine ev_iret dX8_ground_15 rfl rfl ⟨Nat.le_refl _, Nat.le_refl _⟩ ?_
    exact k1 c1
  · obtain ⟨n2, hn2, en2⟩ := in_of (n := 11) (by omega) rfl c1
    subst en2
    refine ev_iload_n (pc' := 8) (i := 2) dX8_ground_7 rfl rfl rfl ?_
    refine ev_callS (pc' := 11) (rm' := rX8_isSheet) (av := [.int s]) (rest := []) co_X8_137 cs_X8_isSheet dX8_ground_8 rfl rfl rfl (Nat.le_of_ble_eq_true rfl) ⟨(Nat.le_of_ble_eq_true rfl), (Nat.le_of_ble_eq_true rfl)⟩ ⟨(Nat.le_of_ble_eq_true rfl), (Nat.le_of_ble_eq_true rfl)⟩ ?_
    refine t_X8_isSheet s  ?_
    refine ev_if_ne_b (tgt := 16) (pc' := 14) dX8_ground_11 rfl rfl (fun c3 => ?_) (fun c3 => ?_)
    · obtain ⟨n4, hn4, en4⟩ := in_of (n := 7) (by omega) rfl c3
      subst en4
      refine ev_aload_n (pc' := 17) (i := 0) dX8_ground_16 rfl rfl rfl ?_
      refine ev_iload_n (pc' := 18) (i := 2) dX8_ground_17 rfl rfl rfl ?_
      refine ev_callV (pc' := 21) (rm' := rX8_looked) (b := 115) (av := [.int (nI n4)]) (rest := []) co_X8_149 ci_X8_looked cv_X8_looked dX8_ground_18 rfl hs_115 hb_X8 rfl rfl (Nat.le_of_ble_eq_true rfl) ⟨(Nat.le_of_ble_eq_true rfl), (Nat.le_of_ble_eq_true rfl)⟩ ⟨(Nat.le_of_ble_eq_true rfl), (Nat.le_of_ble_eq_true rfl)⟩ ?_
      refine t_X8_looked (nI n4)  (fun j5 h6 e7 h8 => ?_) (fun j9 h10 e11 h12 => ?_) (fun h13 => ?_)
      · have e7 := nx_inj e7 (by omega) (by omega)
        subst e7
        refine ev_istore_n (pc' := 22) (i := 3) (lv' := [some (.ref 115), some (.int (nI n2)), some (.int (nI n4)), some (.int 0), none, none, none, none]) dX8_ground_21 rfl rfl (Nat.le_of_ble_eq_true rfl) rfl rfl ?_
        refine ev_iload_n (pc' := 23) (i := 3) dX8_ground_22 rfl rfl rfl ?_
        refine ev_if_ge (tgt := 28) (pc' := 26) dX8_ground_23 rfl rfl (fun _ => ?_) (fun h => absurd (by decide) h)
        refine ev_iconst (pc' := 29) (v := 1) dX8_ground_28 rfl ki_1 ?_
        refine ev_istore (pc' := 31) (lv' := [some (.ref 115), some (.int (nI n2)), some (.int (nI n4)), some (.int 0), some (.int 1), none, none, none]) dX8_ground_29 rfl (Nat.le_of_ble_eq_true rfl) rfl rfl ?_
        refine ev_iconst (pc' := 32) (v := 1) dX8_ground_31 rfl ki_1 ?_
        refine ev_istore (pc' := 34) (lv' := [some (.ref 115), some (.int (nI n2)), some (.int (nI n4)), some (.int 0), some (.int 1), some (.int 1), none, none]) dX8_ground_32 rfl (Nat.le_of_ble_eq_true rfl) rfl rfl ?_
        refine ev_iconst (pc' := 35) (v := 0) dX8_ground_34 rfl ki_0 ?_
        refine ev_istore (pc' := 37) (lv' := [some (.ref 115), some (.int (nI n2)), some (.int (nI n4)), some (.int 0), some (.int 1), some (.int 1), some (.int 0), none]) dX8_ground_35 rfl (Nat.le_of_ble_eq_true rfl) rfl rfl ?_
        suffices loop14 : ∀ (d15 i18 : Nat) (x16 : Int32) (y17 : Int32), i18 + d15 = 10 → (((x16 = 0 ∨ x16 = 1) ∧ (x16 = 1 ↔ ∀ j, j < i18 → ((¬ mPl I n4 j < (-4)) ∧ (¬ 4 < mPl I n4 j)))) ∧ ((y17 = 0 ∨ y17 = 1) ∧ (y17 = 1 ↔ ∀ j, j < i18 → mPl I n4 j = 0))) → EV g yX8_ground cX8_ground 8 (some .int) rX8_ground (ma_ZM g rX8_ground Post) 37 [some (.ref 115), some (.int (nI n2)), some (.int (nI n4)), some (.int 0), some (.int x16), some (.int y17), some (.int (nI i18)), none] [] HS I L RF 146 0 0 from loop14 (10 - 0) 0 1 1 (by omega) (by exact ⟨b_a0, b_a0⟩)
        intro d15
        induction d15 with
        | zero =>
          intro i18 x16 y17   hi19 hv20
          obtain rfl : i18 = 10 := by omega
          refine ev_iload (pc' := 39) dX8_ground_37 rfl rfl ?_
          refine ev_bipush (pc' := 41) (v := 10) dX8_ground_39 rfl kb_10 ?_
          refine ev_icmp_ge (tgt := 116) (pc' := 44) dX8_ground_41 rfl rfl (fun _ => ?_) (fun h => absurd (nx_le (a := 10) (b := 10) (by omega) (by omega)) h)
          refine ev_iload (pc' := 118) dX8_ground_116 rfl rfl ?_
          refine ev_if_eq (tgt := 126) (pc' := 121) dX8_ground_118 rfl rfl (fun c21 => ?_) (fun c21 => ?_)
          · refine ev_aload_n (pc' := 127) (i := 0) dX8_ground_126 rfl rfl rfl ?_
            refine ev_iload (pc' := 129) dX8_ground_127 rfl rfl ?_
            refine ev_if_eq (tgt := 136) (pc' := 132) dX8_ground_129 rfl rfl (fun _ => ?_) (fun h => absurd c21 h)
            refine ev_iconst (pc' := 137) (v := 2) dX8_ground_136 rfl ki_2 ?_
            refine ev_callV (pc' := 140) (rm' := rX8_meets) (b := 115) (av := [.int 2]) (rest := []) co_X8_141 ci_X8_meets cv_X8_meets dX8_ground_137 rfl hs_115 hb_X8 rfl rfl (Nat.le_of_ble_eq_true rfl) ⟨(Nat.le_of_ble_eq_true rfl), (Nat.le_of_ble_eq_true rfl)⟩ ⟨(Nat.le_of_ble_eq_true rfl), (Nat.le_of_ble_eq_true rfl)⟩ ?_
            refine t_X8_meets 2 (by omega) ?_
            refine ev_mMt 2 ?_
            refine ev_iret dX8_ground_140 rfl rfl ⟨Nat.le_refl _, Nat.le_refl _⟩ ?_
            exact k2 n2 hn2 rfl n4 hn4 rfl h6 h8 x16 y17 hv20 c21
          · refine ev_iload (pc' := 123) dX8_ground_121 rfl rfl ?_
            refine ev_if_eq (tgt := 141) (pc' := 126) dX8_ground_123 rfl rfl (fun c22 => ?_) (fun c22 => ?_)
            · refine ev_iconst (pc' := 142) (v := 0) dX8_ground_141 rfl ki_0 ?_
              refine ev_istore (pc' := 144) (lv' := [some (.ref 115), some (.int (nI n2)), some (.int (nI n4)), some (.int 0), some (.int x16), some (.int y17), some (.int 0), none]) dX8_ground_142 rfl (Nat.le_of_ble_eq_true rfl) rfl rfl ?_
              refine ev_iload (pc' := 146) dX8_ground_144 rfl rfl ?_
              refine ev_bipush (pc' := 148) (v := 10) dX8_ground_146 rfl kb_10 ?_
              refine ev_icmp_ge (tgt := 236) (pc' := 151) dX8_ground_148 rfl rfl (fun h => absurd h (by decide)) (fun _ => ?_)
              refine ev_iload (pc' := 153) dX8_ground_151 rfl rfl ?_
              refine ev_aload_n (pc' := 154) (i := 0) dX8_ground_153 rfl rfl rfl ?_
              refine ev_getR (pc' := 157) fo_X8_17 dX8_ground_154 rfl hs_115 rfl rf_115_5 ?_
              refine ev_iload_n (pc' := 158) (i := 2) dX8_ground_157 rfl rfl rfl ?_
              refine ev_iald (pc' := 159) (j := n4) (v := (I 117) n4) dX8_ground_158 rfl hs_117 rfl (by omega) (Nat.le_of_ble_eq_true rfl) rfl ?_
              suffices K25 : ∀ x24 : Int32, x24 = (if ((I 117) n4) ≤ 0 then 0 else ((I 118) ((16 * n4) + 0))) → EV g yX8_ground cX8_ground 8 (some .int) rX8_ground (ma_ZM g rX8_ground Post) 178 [some (.ref 115), some (.int (nI n2)), some (.int (nI n4)), some (.int 0), some (.int x16), some (.int y17), some (.int 0), none] [.int x24] HS I L RF 146 0 0 by
                refine ev_icmp_ge (tgt := 177) (pc' := 162) dX8_ground_159 rfl rfl (fun c26 => ?_) (fun c26 => ?_)
                · refine ev_iconst (pc' := 178) (v := 0) dX8_ground_177 rfl ki_0 ?_
                  exact K25 _ (by rw [if_pos c26])
                · refine ev_aload_n (pc' := 163) (i := 0) dX8_ground_162 rfl rfl rfl ?_
                  refine ev_getR (pc' := 166) fo_X8_20 dX8_ground_163 rfl hs_115 rfl rf_115_6 ?_
                  refine ev_bipush (pc' := 168) (v := 16) dX8_ground_166 rfl kb_16 ?_
                  refine ev_iload_n (pc' := 169) (i := 2) dX8_ground_168 rfl rfl rfl ?_
                  refine ev_imul (pc' := 170) (v := nI (16 * n4)) dX8_ground_169 rfl (pk_mul 16 n4) ?_
                  refine ev_iload (pc' := 172) dX8_ground_170 rfl rfl ?_
                  refine ev_iadd (pc' := 173) (v := nI ((16 * n4) + 0)) dX8_ground_172 rfl (nI_add (16 * n4) 0) ?_
                  refine ev_iald (pc' := 174) (j := (16 * n4) + 0) (v := (I 118) ((16 * n4) + 0)) dX8_ground_173 rfl hs_118 rfl (by omega) (Nat.le_of_ble_eq_true rfl) rfl ?_
                  refine ev_goto (tgt := 178) dX8_ground_174 rfl ?_
                  exact K25 _ (by rw [if_neg c26])
              intro x24 hx24
              subst hx24
              refine ev_istore (pc' := 180) (lv' := [some (.ref 115), some (.int (nI n2)), some (.int (nI n4)), some (.int 0), some (.int x16), some (.int y17), some (.int 0), some (.int (if ((I 117) n4) ≤ 0 then 0 else ((I 118) ((16 * n4) + 0))))]) dX8_ground_178 rfl (Nat.le_of_ble_eq_true rfl) rfl rfl ?_
              refine ev_aload_n (pc' := 181) (i := 0) dX8_ground_180 rfl rfl rfl ?_
              refine ev_getR (pc' := 184) fo_X8_37 dX8_ground_181 rfl hs_115 rfl rf_115_13 ?_
              refine ev_bipush (pc' := 186) (v := 16) dX8_ground_184 rfl kb_16 ?_
              refine ev_iload_n (pc' := 187) (i := 1) dX8_ground_186 rfl rfl rfl ?_
              refine ev_imul (pc' := 188) (v := nI (16 * n2)) dX8_ground_187 rfl (pk_mul 16 n2) ?_
              refine ev_iconst (pc' := 189) (v := 4) dX8_ground_188 rfl ki_4 ?_
              refine ev_iload (pc' := 191) dX8_ground_189 rfl rfl ?_
              refine ev_callS (pc' := 194) (rm' := rX8_rowOf) (av := [.int 0]) (rest := [.int 4, .int (nI (16 * n2)), .ref 123]) co_X8_201 cs_X8_rowOf dX8_ground_191 rfl rfl rfl (Nat.le_of_ble_eq_true rfl) ⟨(Nat.le_of_ble_eq_true rfl), (Nat.le_of_ble_eq_true rfl)⟩ ⟨(Nat.le_of_ble_eq_true rfl), (Nat.le_of_ble_eq_true rfl)⟩ ?_
              refine u_X8_rowOf 0 0 (by decide) ?_
              refine ev_imul (pc' := 195) (v := 0) dX8_ground_194 rfl (by decide) ?_
              refine ev_iadd (pc' := 196) (v := nI ((16 * n2) + 0)) dX8_ground_195 rfl (nI_add (16 * n2) 0) ?_
              refine ev_iload (pc' := 198) dX8_ground_196 rfl rfl ?_
              refine ev_callS (pc' := 201) (rm' := rX8_columnOf) (av := [.int 0]) (rest := [.int (nI ((16 * n2) + 0)), .ref 123]) co_X8_204 cs_X8_columnOf dX8_ground_198 rfl rfl rfl (Nat.le_of_ble_eq_true rfl) ⟨(Nat.le_of_ble_eq_true rfl), (Nat.le_of_ble_eq_true rfl)⟩ ⟨(Nat.le_of_ble_eq_true rfl), (Nat.le_of_ble_eq_true rfl)⟩ ?_
              refine u_X8_columnOf 0 0 (by decide) ?_
              refine ev_iadd (pc' := 202) (v := nI (((16 * n2) + 0) + 0)) dX8_ground_201 rfl (nI_add ((16 * n2) + 0) 0) ?_
              refine ev_iload (pc' := 204) dX8_ground_202 rfl rfl ?_
              refine ev_iast (pc' := 205) (j := ((16 * n2) + 0) + 0) (I' := (ma_up I 123 (ma_up (I 123) (((16 * n2) + 0) + 0) (if ((I 117) n4) ≤ 0 then 0 else ((I 118) ((16 * n4) + 0)))))) dX8_ground_204 rfl hs_123 rfl (by omega) (Nat.le_of_ble_eq_true rfl) rfl ?_
              refine ev_aload_n (pc' := 206) (i := 0) dX8_ground_205 rfl rfl rfl ?_
              refine ev_getR (pc' := 209) fo_X8_37 dX8_ground_206 rfl hs_115 rfl rf_115_13 ?_
              refine ev_bipush (pc' := 211) (v := 16) dX8_ground_209 rfl kb_16 ?_
              refine ev_iload_n (pc' := 212) (i := 1) dX8_ground_211 rfl rfl rfl ?_
              refine ev_imul (pc' := 213) (v := nI (16 * n2)) dX8_ground_212 rfl (pk_mul 16 n2) ?_
              refine ev_iconst (pc' := 214) (v := 4) dX8_ground_213 rfl ki_4 ?_
              refine ev_iload (pc' := 216) dX8_ground_214 rfl rfl ?_
              refine ev_callS (pc' := 219) (rm' := rX8_columnOf) (av := [.int 0]) (rest := [.int 4, .int (nI (16 * n2)), .ref 123]) co_X8_204 cs_X8_columnOf dX8_ground_216 rfl rfl rfl (Nat.le_of_ble_eq_true rfl) ⟨(Nat.le_of_ble_eq_true rfl), (Nat.le_of_ble_eq_true rfl)⟩ ⟨(Nat.le_of_ble_eq_true rfl), (Nat.le_of_ble_eq_true rfl)⟩ ?_
              refine u_X8_columnOf 0 0 (by decide) ?_
              refine ev_imul (pc' := 220) (v := 0) dX8_ground_219 rfl (by decide) ?_
              refine ev_iadd (pc' := 221) (v := nI ((16 * n2) + 0)) dX8_ground_220 rfl (nI_add (16 * n2) 0) ?_
              refine ev_iload (pc' := 223) dX8_ground_221 rfl rfl ?_
              refine ev_callS (pc' := 226) (rm' := rX8_rowOf) (av := [.int 0]) (rest := [.int (nI ((16 * n2) + 0)), .ref 123]) co_X8_201 cs_X8_rowOf dX8_ground_223 rfl rfl rfl (Nat.le_of_ble_eq_true rfl) ⟨(Nat.le_of_ble_eq_true rfl), (Nat.le_of_ble_eq_true rfl)⟩ ⟨(Nat.le_of_ble_eq_true rfl), (Nat.le_of_ble_eq_true rfl)⟩ ?_
              refine u_X8_rowOf 0 0 (by decide) ?_
              refine ev_iadd (pc' := 227) (v := nI (((16 * n2) + 0) + 0)) dX8_ground_226 rfl (nI_add ((16 * n2) + 0) 0) ?_
              refine ev_iload (pc' := 229) dX8_ground_227 rfl rfl ?_
              refine ev_iast (pc' := 230) (j := ((16 * n2) + 0) + 0) (I' := (ma_up I 123 (ma_up (I 123) (((16 * n2) + 0) + 0) (if ((I 117) n4) ≤ 0 then 0 else ((I 118) ((16 * n4) + 0)))))) dX8_ground_229 rfl hs_123 rfl (by omega) (Nat.le_of_ble_eq_true rfl) ((congrArg (ma_up _ 123) (ma_up_up _ _ _ _)).trans (ma_up_up _ _ _ _)) ?_
              refine ev_iinc (pc' := 233) (v := 1) (lv' := [some (.ref 115), some (.int (nI n2)), some (.int (nI n4)), some (.int 0), some (.int x16), some (.int y17), some (.int 1), some (.int (if ((I 117) n4) ≤ 0 then 0 else ((I 118) ((16 * n4) + 0))))]) dX8_ground_230 rfl rfl (by decide) (Nat.le_of_ble_eq_true rfl) rfl rfl ?_
              refine ev_goto (tgt := 144) dX8_ground_233 rfl ?_
              refine ev_iload (pc' := 146) dX8_ground_144 rfl rfl ?_
              refine ev_bipush (pc' := 148) (v := 10) dX8_ground_146 rfl kb_10 ?_
              refine ev_icmp_ge (tgt := 236) (pc' := 151) dX8_ground_148 rfl rfl (fun h => absurd h (by decide)) (fun _ => ?_)
              refine ev_iload (pc' := 153) dX8_ground_151 rfl rfl ?_
              refine ev_aload_n (pc' := 154) (i := 0) dX8_ground_153 rfl rfl rfl ?_
              refine ev_getR (pc' := 157) fo_X8_17 dX8_ground_154 rfl hs_115 rfl rf_115_5 ?_
              refine ev_iload_n (pc' := 158) (i := 2) dX8_ground_157 rfl rfl rfl ?_
              refine ev_iald (pc' := 159) (j := n4) (v := (I 117) n4) dX8_ground_158 rfl hs_117 rfl (by omega) (Nat.le_of_ble_eq_true rfl) rfl ?_
              suffices K29 : ∀ x28 : Int32, x28 = (if ((I 117) n4) ≤ 1 then 0 else ((I 118) ((16 * n4) + 1))) → EV g yX8_ground cX8_ground 8 (some .int) rX8_ground (ma_ZM g rX8_ground Post) 178 [some (.ref 115), some (.int (nI n2)), some (.int (nI n4)), some (.int 0), some (.int x16), some (.int y17), some (.int 1), some (.int (if ((I 117) n4) ≤ 0 then 0 else ((I 118) ((16 * n4) + 0))))] [.int x28] HS (ma_up I 123 (ma_up (I 123) (((16 * n2) + 0) + 0) (if ((I 117) n4) ≤ 0 then 0 else ((I 118) ((16 * n4) + 0))))) L RF 146 0 0 by
                refine ev_icmp_ge (tgt := 177) (pc' := 162) dX8_ground_159 rfl rfl (fun c30 => ?_) (fun c30 => ?_)
                · refine ev_iconst (pc' := 178) (v := 0) dX8_ground_177 rfl ki_0 ?_
                  exact K29 _ (by rw [if_pos c30])
                · refine ev_aload_n (pc' := 163) (i := 0) dX8_ground_162 rfl rfl rfl ?_
                  refine ev_getR (pc' := 166) fo_X8_20 dX8_ground_163 rfl hs_115 rfl rf_115_6 ?_
                  refine ev_bipush (pc' := 168) (v := 16) dX8_ground_166 rfl kb_16 ?_
                  refine ev_iload_n (pc' := 169) (i := 2) dX8_ground_168 rfl rfl rfl ?_
                  refine ev_imul (pc' := 170) (v := nI (16 * n4)) dX8_ground_169 rfl (pk_mul 16 n4) ?_
                  refine ev_iload (pc' := 172) dX8_ground_170 rfl rfl ?_
                  refine ev_iadd (pc' := 173) (v := nI ((16 * n4) + 1)) dX8_ground_172 rfl (nI_add (16 * n4) 1) ?_
                  refine ev_iald (pc' := 174) (j := (16 * n4) + 1) (v := (I 118) ((16 * n4) + 1)) dX8_ground_173 rfl hs_118 rfl (by omega) (Nat.le_of_ble_eq_true rfl) rfl ?_
                  refine ev_goto (tgt := 178) dX8_ground_174 rfl ?_
                  exact K29 _ (by rw [if_neg c30])
              intro x28 hx28
              subst hx28
              refine ev_istore (pc' := 180) (lv' := [some (.ref 115), some (.int (nI n2)), some (.int (nI n4)), some (.int 0), some (.int x16), some (.int y17), some (.int 1), some (.int (if ((I 117) n4) ≤ 1 then 0 else ((I 118) ((16 * n4) + 1))))]) dX8_ground_178 rfl (Nat.le_of_ble_eq_true rfl) rfl rfl ?_
              refine ev_aload_n (pc' := 181) (i := 0) dX8_ground_180 rfl rfl rfl ?_
              refine ev_getR (pc' := 184) fo_X8_37 dX8_ground_181 rfl hs_115 rfl rf_115_13 ?_
              refine ev_bipush (pc' := 186) (v := 16) dX8_ground_184 rfl kb_16 ?_
              refine ev_iload_n (pc' := 187) (i := 1) dX8_ground_186 rfl rfl rfl ?_
              refine ev_imul (pc' := 188) (v := nI (16 * n2)) dX8_ground_187 rfl (pk_mul 16 n2) ?_
              refine ev_iconst (pc' := 189) (v := 4) dX8_ground_188 rfl ki_4 ?_
              refine ev_iload (pc' := 191) dX8_ground_189 rfl rfl ?_
              refine ev_callS (pc' := 194) (rm' := rX8_rowOf) (av := [.int 1]) (rest := [.int 4, .int (nI (16 * n2)), .ref 123]) co_X8_201 cs_X8_rowOf dX8_ground_191 rfl rfl rfl (Nat.le_of_ble_eq_true rfl) ⟨(Nat.le_of_ble_eq_true rfl), (Nat.le_of_ble_eq_true rfl)⟩ ⟨(Nat.le_of_ble_eq_true rfl), (Nat.le_of_ble_eq_true rfl)⟩ ?_
              refine u_X8_rowOf 1 0 (by decide) ?_
              refine ev_imul (pc' := 195) (v := 0) dX8_ground_194 rfl (by decide) ?_
              refine ev_iadd (pc' := 196) (v := nI ((16 * n2) + 0)) dX8_ground_195 rfl (nI_add (16 * n2) 0) ?_
              refine ev_iload (pc' := 198) dX8_ground_196 rfl rfl ?_
              refine ev_callS (pc' := 201) (rm' := rX8_columnOf) (av := [.int 1]) (rest := [.int (nI ((16 * n2) + 0)), .ref 123]) co_X8_204 cs_X8_columnOf dX8_ground_198 rfl rfl rfl (Nat.le_of_ble_eq_true rfl) ⟨(Nat.le_of_ble_eq_true rfl), (Nat.le_of_ble_eq_true rfl)⟩ ⟨(Nat.le_of_ble_eq_true rfl), (Nat.le_of_ble_eq_true rfl)⟩ ?_
              refine u_X8_columnOf 1 1 (by decide) ?_
              refine ev_iadd (pc' := 202) (v := nI (((16 * n2) + 0) + 1)) dX8_ground_201 rfl (nI_add ((16 * n2) + 0) 1) ?_
              refine ev_iload (pc' := 204) dX8_ground_202 rfl rfl ?_
              refine ev_iast (pc' := 205) (j := ((16 * n2) + 0) + 1) (I' := (ma_up I 123 (ma_up (ma_up (I 123) (((16 * n2) + 0) + 0) (if ((I 117) n4) ≤ 0 then 0 else ((I 118) ((16 * n4) + 0)))) (((16 * n2) + 0) + 1) (if ((I 117) n4) ≤ 1 then 0 else ((I 118) ((16 * n4) + 1)))))) dX8_ground_204 rfl hs_123 rfl (by omega) (Nat.le_of_ble_eq_true rfl) (ma_up_up _ _ _ _) ?_
              refine ev_aload_n (pc' := 206) (i := 0) dX8_ground_205 rfl rfl rfl ?_
              refine ev_getR (pc' := 209) fo_X8_37 dX8_ground_206 rfl hs_115 rfl rf_115_13 ?_
              refine ev_bipush (pc' := 211) (v := 16) dX8_ground_209 rfl kb_16 ?_
              refine ev_iload_n (pc' := 212) (i := 1) dX8_ground_211 rfl rfl rfl ?_
              refine ev_imul (pc' := 213) (v := nI (16 * n2)) dX8_ground_212 rfl (pk_mul 16 n2) ?_
              refine ev_iconst (pc' := 214) (v := 4) dX8_ground_213 rfl ki_4 ?_
              refine ev_iload (pc' := 216) dX8_ground_214 rfl rfl ?_
              refine ev_callS (pc' := 219) (rm' := rX8_columnOf) (av := [.int 1]) (rest := [.int 4, .int (nI (16 * n2)), .ref 123]) co_X8_204 cs_X8_columnOf dX8_ground_216 rfl rfl rfl (Nat.le_of_ble_eq_true rfl) ⟨(Nat.le_of_ble_eq_true rfl), (Nat.le_of_ble_eq_true rfl)⟩ ⟨(Nat.le_of_ble_eq_true rfl), (Nat.le_of_ble_eq_true rfl)⟩ ?_
              refine u_X8_columnOf 1 1 (by decide) ?_
              refine ev_imul (pc' := 220) (v := 4) dX8_ground_219 rfl (by decide) ?_
              refine ev_iadd (pc' := 221) (v := nI ((16 * n2) + 4)) dX8_ground_220 rfl (nI_add (16 * n2) 4) ?_
              refine ev_iload (pc' := 223) dX8_ground_221 rfl rfl ?_
              refine ev_callS (pc' := 226) (rm' := rX8_rowOf) (av := [.int 1]) (rest := [.int (nI ((16 * n2) + 4)), .ref 123]) co_X8_201 cs_X8_rowOf dX8_ground_223 rfl rfl rfl (Nat.le_of_ble_eq_true rfl) ⟨(Nat.le_of_ble_eq_true rfl), (Nat.le_of_ble_eq_true rfl)⟩ ⟨(Nat.le_of_ble_eq_true rfl), (Nat.le_of_ble_eq_true rfl)⟩ ?_
              refine u_X8_rowOf 1 0 (by decide) ?_
              refine ev_iadd (pc' := 227) (v := nI (((16 * n2) + 4) + 0)) dX8_ground_226 rfl (nI_add ((16 * n2) + 4) 0) ?_
              refine ev_iload (pc' := 229) dX8_ground_227 rfl rfl ?_
              refine ev_iast (pc' := 230) (j := ((16 * n2) + 4) + 0) (I' := (ma_up I 123 (ma_up (ma_up (ma_up (I 123) (((16 * n2) + 0) + 0) (if ((I 117) n4) ≤ 0 then 0 else ((I 118) ((16 * n4) + 0)))) (((16 * n2) + 0) + 1) (if ((I 117) n4) ≤ 1 then 0 else ((I 118) ((16 * n4) + 1)))) (((16 * n2) + 4) + 0) (if ((I 117) n4) ≤ 1 then 0 else ((I 118) ((16 * n4) + 1)))))) dX8_ground_229 rfl hs_123 rfl (by omega) (Nat.le_of_ble_eq_true rfl) (ma_up_up _ _ _ _) ?_
              refine ev_iinc (pc' := 233) (v := 2) (lv' := [some (.ref 115), some (.int (nI n2)), some (.int (nI n4)), some (.int 0), some (.int x16), some (.int y17), some (.int 2), some (.int (if ((I 117) n4) ≤ 1 then 0 else ((I 118) ((16 * n4) + 1))))]) dX8_ground_230 rfl rfl (by decide) (Nat.le_of_ble_eq_true rfl) rfl rfl ?_
              refine ev_goto (tgt := 144) dX8_ground_233 rfl ?_
              refine ev_iload (pc' := 146) dX8_ground_144 rfl rfl ?_
              refine ev_bipush (pc' := 148) (v := 10) dX8_ground_146 rfl kb_10 ?_
              refine ev_icmp_ge (tgt := 236) (pc' := 151) dX8_ground_148 rfl rfl (fun h => absurd h (by decide)) (fun _ => ?_)
              refine ev_iload (pc' := 153) dX8_ground_151 rfl rfl ?_
              refine ev_aload_n (pc' := 154) (i := 0) dX8_ground_153 rfl rfl rfl ?_
              refine ev_getR (pc' := 157) fo_X8_17 dX8_ground_154 rfl hs_115 rfl rf_115_5 ?_
              refine ev_iload_n (pc' := 158) (i := 2) dX8_ground_157 rfl rfl rfl ?_
              refine ev_iald (pc' := 159) (j := n4) (v := (I 117) n4) dX8_ground_158 rfl hs_117 rfl (by omega) (Nat.le_of_ble_eq_true rfl) rfl ?_
              suffices K33 : ∀ x32 : Int32, x32 = (if ((I 117) n4) ≤ 2 then 0 else ((I 118) ((16 * n4) + 2))) → EV g yX8_ground cX8_ground 8 (some .int) rX8_ground (ma_ZM g rX8_ground Post) 178 [some (.ref 115), some (.int (nI n2)), some (.int (nI n4)), some (.int 0), some (.int x16), some (.int y17), some (.int 2), some (.int (if ((I 117) n4) ≤ 1 then 0 else ((I 118) ((16 * n4) + 1))))] [.int x32] HS (ma_up I 123 (ma_up (ma_up (ma_up (I 123) (((16 * n2) + 0) + 0) (if ((I 117) n4) ≤ 0 then 0 else ((I 118) ((16 * n4) + 0)))) (((16 * n2) + 0) + 1) (if ((I 117) n4) ≤ 1 then 0 else ((I 118) ((16 * n4) + 1)))) (((16 * n2) + 4) + 0) (if ((I 117) n4) ≤ 1 then 0 else ((I 118) ((16 * n4) + 1))))) L RF 146 0 0 by
                refine ev_icmp_ge (tgt := 177) (pc' := 162) dX8_ground_159 rfl rfl (fun c34 => ?_) (fun c34 => ?_)
                · refine ev_iconst (pc' := 178) (v := 0) dX8_ground_177 rfl ki_0 ?_
                  exact K33 _ (by rw [if_pos c34])
                · refine ev_aload_n (pc' := 163) (i := 0) dX8_ground_162 rfl rfl rfl ?_
                  refine ev_getR (pc' := 166) fo_X8_20 dX8_ground_163 rfl hs_115 rfl rf_115_6 ?_
                  refine ev_bipush (pc' := 168) (v := 16) dX8_ground_166 rfl kb_16 ?_
                  refine ev_iload_n (pc' := 169) (i := 2) dX8_ground_168 rfl rfl rfl ?_
                  refine ev_imul (pc' := 170) (v := nI (16 * n4)) dX8_ground_169 rfl (pk_mul 16 n4) ?_
                  refine ev_iload (pc' := 172) dX8_ground_170 rfl rfl ?_
                  refine ev_iadd (pc' := 173) (v := nI ((16 * n4) + 2)) dX8_ground_172 rfl (nI_add (16 * n4) 2) ?_
                  refine ev_iald (pc' := 174) (j := (16 * n4) + 2) (v := (I 118) ((16 * n4) + 2)) dX8_ground_173 rfl hs_118 rfl (by omega) (Nat.le_of_ble_eq_true rfl) rfl ?_
                  refine ev_goto (tgt := 178) dX8_ground_174 rfl ?_
                  exact K33 _ (by rw [if_neg c34])
              intro x32 hx32
              subst hx32
              refine ev_istore (pc' := 180) (lv' := [some (.ref 115), some (.int (nI n2)), some (.int (nI n4)), some (.int 0), some (.int x16), some (.int y17), some (.int 2), some (.int (if ((I 117) n4) ≤ 2 then 0 else ((I 118) ((16 * n4) + 2))))]) dX8_ground_178 rfl (Nat.le_of_ble_eq_true rfl) rfl rfl ?_
              refine ev_aload_n (pc' := 181) (i := 0) dX8_ground_180 rfl rfl rfl ?_
              refine ev_getR (pc' := 184) fo_X8_37 dX8_ground_181 rfl hs_115 rfl rf_115_13 ?_
              refine ev_bipush (pc' := 186) (v := 16) dX8_ground_184 rfl kb_16 ?_
              refine ev_iload_n (pc' := 187) (i := 1) dX8_ground_186 rfl rfl rfl ?_
              refine ev_imul (pc' := 188) (v := nI (16 * n2)) dX8_ground_187 rfl (pk_mul 16 n2) ?_
              refine ev_iconst (pc' := 189) (v := 4) dX8_ground_188 rfl ki_4 ?_
              refine ev_iload (pc' := 191) dX8_ground_189 rfl rfl ?_
              refine ev_callS (pc' := 194) (rm' := rX8_rowOf) (av := [.int 2]) (rest := [.int 4, .int (nI (16 * n2)), .ref 123]) co_X8_201 cs_X8_rowOf dX8_ground_191 rfl rfl rfl (Nat.le_of_ble_eq_true rfl) ⟨(Nat.le_of_ble_eq_true rfl), (Nat.le_of_ble_eq_true rfl)⟩ ⟨(Nat.le_of_ble_eq_true rfl), (Nat.le_of_ble_eq_true rfl)⟩ ?_
              refine u_X8_rowOf 2 0 (by decide) ?_
              refine ev_imul (pc' := 195) (v := 0) dX8_ground_194 rfl (by decide) ?_
              refine ev_iadd (pc' := 196) (v := nI ((16 * n2) + 0)) dX8_ground_195 rfl (nI_add (16 * n2) 0) ?_
              refine ev_iload (pc' := 198) dX8_ground_196 rfl rfl ?_
              refine ev_callS (pc' := 201) (rm' := rX8_columnOf) (av := [.int 2]) (rest := [.int (nI ((16 * n2) + 0)), .ref 123]) co_X8_204 cs_X8_columnOf dX8_ground_198 rfl rfl rfl (Nat.le_of_ble_eq_true rfl) ⟨(Nat.le_of_ble_eq_true rfl), (Nat.le_of_ble_eq_true rfl)⟩ ⟨(Nat.le_of_ble_eq_true rfl), (Nat.le_of_ble_eq_true rfl)⟩ ?_
              refine u_X8_columnOf 2 2 (by decide) ?_
              refine ev_iadd (pc' := 202) (v := nI (((16 * n2) + 0) + 2)) dX8_ground_201 rfl (nI_add ((16 * n2) + 0) 2) ?_
              refine ev_iload (pc' := 204) dX8_ground_202 rfl rfl ?_
              refine ev_iast (pc' := 205) (j := ((16 * n2) + 0) + 2) (I' := (ma_up I 123 (ma_up (ma_up (ma_up (ma_up (I 123) (((16 * n2) + 0) + 0) (if ((I 117) n4) ≤ 0 then 0 else ((I 118) ((16 * n4) + 0)))) (((16 * n2) + 0) + 1) (if ((I 117) n4) ≤ 1 then 0 else ((I 118) ((16 * n4) + 1)))) (((16 * n2) + 4) + 0) (if ((I 117) n4) ≤ 1 then 0 else ((I 118) ((16 * n4) + 1)))) (((16 * n2) + 0) + 2) (if ((I 117) n4) ≤ 2 then 0 else ((I 118) ((16 * n4) + 2)))))) dX8_ground_204 rfl hs_123 rfl (by omega) (Nat.le_of_ble_eq_true rfl) (ma_up_up _ _ _ _) ?_
              refine ev_aload_n (pc' := 206) (i := 0) dX8_ground_205 rfl rfl rfl ?_
              refine ev_getR (pc' := 209) fo_X8_37 dX8_ground_206 rfl hs_115 rfl rf_115_13 ?_
              refine ev_bipush (pc' := 211) (v := 16) dX8_ground_209 rfl kb_16 ?_
              refine ev_iload_n (pc' := 212) (i := 1) dX8_ground_211 rfl rfl rfl ?_
              refine ev_imul (pc' := 213) (v := nI (16 * n2)) dX8_ground_212 rfl (pk_mul 16 n2) ?_
              refine ev_iconst (pc' := 214) (v := 4) dX8_ground_213 rfl ki_4 ?_
              refine ev_iload (pc' := 216) dX8_ground_214 rfl rfl ?_
              refine ev_callS (pc' := 219) (rm' := rX8_columnOf) (av := [.int 2]) (rest := [.int 4, .int (nI (16 * n2)), .ref 123]) co_X8_204 cs_X8_columnOf dX8_ground_216 rfl rfl rfl (Nat.le_of_ble_eq_true rfl) ⟨(Nat.le_of_ble_eq_true rfl), (Nat.le_of_ble_eq_true rfl)⟩ ⟨(Nat.le_of_ble_eq_true rfl), (Nat.le_of_ble_eq_true rfl)⟩ ?_
              refine u_X8_columnOf 2 2 (by decide) ?_
              refine ev_imul (pc' := 220) (v := 8) dX8_ground_219 rfl (by decide) ?_
              refine ev_iadd (pc' := 221) (v := nI ((16 * n2) + 8)) dX8_ground_220 rfl (nI_add (16 * n2) 8) ?_
              refine ev_iload (pc' := 223) dX8_ground_221 rfl rfl ?_
              refine ev_callS (pc' := 226) (rm' := rX8_rowOf) (av := [.int 2]) (rest := [.int (nI ((16 * n2) + 8)), .ref 123]) co_X8_201 cs_X8_rowOf dX8_ground_223 rfl rfl rfl (Nat.le_of_ble_eq_true rfl) ⟨(Nat.le_of_ble_eq_true rfl), (Nat.le_of_ble_eq_true rfl)⟩ ⟨(Nat.le_of_ble_eq_true rfl), (Nat.le_of_ble_eq_true rfl)⟩ ?_
              refine u_X8_rowOf 2 0 (by decide) ?_
              refine ev_iadd (pc' := 227) (v := nI (((16 * n2) + 8) + 0)) dX8_ground_226 rfl (nI_add ((16 * n2) + 8) 0) ?_
              refine ev_iload (pc' := 229) dX8_ground_227 rfl rfl ?_
              refine ev_iast (pc' := 230) (j := ((16 * n2) + 8) + 0) (I' := (ma_up I 123 (ma_up (ma_up (ma_up (ma_up (ma_up (I 123) (((16 * n2) + 0) + 0) (if ((I 117) n4) ≤ 0 then 0 else ((I 118) ((16 * n4) + 0)))) (((16 * n2) + 0) + 1) (if ((I 117) n4) ≤ 1 then 0 else ((I 118) ((16 * n4) + 1)))) (((16 * n2) + 4) + 0) (if ((I 117) n4) ≤ 1 then 0 else ((I 118) ((16 * n4) + 1)))) (((16 * n2) + 0) + 2) (if ((I 117) n4) ≤ 2 then 0 else ((I 118) ((16 * n4) + 2)))) (((16 * n2) + 8) + 0) (if ((I 117) n4) ≤ 2 then 0 else ((I 118) ((16 * n4) + 2)))))) dX8_ground_229 rfl hs_123 rfl (by omega) (Nat.le_of_ble_eq_true rfl) (ma_up_up _ _ _ _) ?_
              refine ev_iinc (pc' := 233) (v := 3) (lv' := [some (.ref 115), some (.int (nI n2)), some (.int (nI n4)), some (.int 0), some (.int x16), some (.int y17), some (.int 3), some (.int (if ((I 117) n4) ≤ 2 then 0 else ((I 118) ((16 * n4) + 2))))]) dX8_ground_230 rfl rfl (by decide) (Nat.le_of_ble_eq_true rfl) rfl rfl ?_
              refine ev_goto (tgt := 144) dX8_ground_233 rfl ?_
              refine ev_iload (pc' := 146) dX8_ground_144 rfl rfl ?_
              refine ev_bipush (pc' := 148) (v := 10) dX8_ground_146 rfl kb_10 ?_
              refine ev_icmp_ge (tgt := 236) (pc' := 151) dX8_ground_148 rfl rfl (fun h => absurd h (by decide)) (fun _ => ?_)
              refine ev_iload (pc' := 153) dX8_ground_151 rfl rfl ?_
              refine ev_aload_n (pc' := 154) (i := 0) dX8_ground_153 rfl rfl rfl ?_
              refine ev_getR (pc' := 157) fo_X8_17 dX8_ground_154 rfl hs_115 rfl rf_115_5 ?_
              refine ev_iload_n (pc' := 158) (i := 2) dX8_ground_157 rfl rfl rfl ?_
              refine ev_iald (pc' := 159) (j := n4) (v := (I 117) n4) dX8_ground_158 rfl hs_117 rfl (by omega) (Nat.le_of_ble_eq_true rfl) rfl ?_
              suffices K37 : ∀ x36 : Int32, x36 = (if ((I 117) n4) ≤ 3 then 0 else ((I 118) ((16 * n4) + 3))) → EV g yX8_ground cX8_ground 8 (some .int) rX8_ground (ma_ZM g rX8_ground Post) 178 [some (.ref 115), some (.int (nI n2)), some (.int (nI n4)), some (.int 0), some (.int x16), some (.int y17), some (.int 3), some (.int (if ((I 117) n4) ≤ 2 then 0 else ((I 118) ((16 * n4) + 2))))] [.int x36] HS (ma_up I 123 (ma_up (ma_up (ma_up (ma_up (ma_up (I 123) (((16 * n2) + 0) + 0) (if ((I 117) n4) ≤ 0 then 0 else ((I 118) ((16 * n4) + 0)))) (((16 * n2) + 0) + 1) (if ((I 117) n4) ≤ 1 then 0 else ((I 118) ((16 * n4) + 1)))) (((16 * n2) + 4) + 0) (if ((I 117) n4) ≤ 1 then 0 else ((I 118) ((16 * n4) + 1)))) (((16 * n2) + 0) + 2) (if ((I 117) n4) ≤ 2 then 0 else ((I 118) ((16 * n4) + 2)))) (((16 * n2) + 8) + 0) (if ((I 117) n4) ≤ 2 then 0 else ((I 118) ((16 * n4) + 2))))) L RF 146 0 0 by
                refine ev_icmp_ge (tgt := 177) (pc' := 162) dX8_ground_159 rfl rfl (fun c38 => ?_) (fun c38 => ?_)
                · refine ev_iconst (pc' := 178) (v := 0) dX8_ground_177 rfl ki_0 ?_
                  exact K37 _ (by rw [if_pos c38])
                · refine ev_aload_n (pc' := 163) (i := 0) dX8_ground_162 rfl rfl rfl ?_
                  refine ev_getR (pc' := 166) fo_X8_20 dX8_ground_163 rfl hs_115 rfl rf_115_6 ?_
                  refine ev_bipush (pc' := 168) (v := 16) dX8_ground_166 rfl kb_16 ?_
                  refine ev_iload_n (pc' := 169) (i := 2) dX8_ground_168 rfl rfl rfl ?_
                  refine ev_imul (pc' := 170) (v := nI (16 * n4)) dX8_ground_169 rfl (pk_mul 16 n4) ?_
                  refine ev_iload (pc' := 172) dX8_ground_170 rfl rfl ?_
                  refine ev_iadd (pc' := 173) (v := nI ((16 * n4) + 3)) dX8_ground_172 rfl (nI_add (16 * n4) 3) ?_
                  refine ev_iald (pc' := 174) (j := (16 * n4) + 3) (v := (I 118) ((16 * n4) + 3)) dX8_ground_173 rfl hs_118 rfl (by omega) (Nat.le_of_ble_eq_true rfl) rfl ?_
                  refine ev_goto (tgt := 178) dX8_ground_174 rfl ?_
                  exact K37 _ (by rw [if_neg c38])
              intro x36 hx36
              subst hx36
              refine ev_istore (pc' := 180) (lv' := [some (.ref 115), some (.int (nI n2)), some (.int (nI n4)), some (.int 0), some (.int x16), some (.int y17), some (.int 3), some (.int (if ((I 117) n4) ≤ 3 then 0 else ((I 118) ((16 * n4) + 3))))]) dX8_ground_178 rfl (Nat.le_of_ble_eq_true rfl) rfl rfl ?_
              refine ev_aload_n (pc' := 181) (i := 0) dX8_ground_180 rfl rfl rfl ?_
              refine ev_getR (pc' := 184) fo_X8_37 dX8_ground_181 rfl hs_115 rfl rf_115_13 ?_
              refine ev_bipush (pc' := 186) (v := 16) dX8_ground_184 rfl kb_16 ?_
              refine ev_iload_n (pc' := 187) (i := 1) dX8_ground_186 rfl rfl rfl ?_
              refine ev_imul (pc' := 188) (v := nI (16 * n2)) dX8_ground_187 rfl (pk_mul 16 n2) ?_
              refine ev_iconst (pc' := 189) (v := 4) dX8_ground_188 rfl ki_4 ?_
              refine ev_iload (pc' := 191) dX8_ground_189 rfl rfl ?_
              refine ev_callS (pc' := 194) (rm' := rX8_rowOf) (av := [.int 3]) (rest := [.int 4, .int (nI (16 * n2)), .ref 123]) co_X8_201 cs_X8_rowOf dX8_ground_191 rfl rfl rfl (Nat.le_of_ble_eq_true rfl) ⟨(Nat.le_of_ble_eq_true rfl), (Nat.le_of_ble_eq_true rfl)⟩ ⟨(Nat.le_of_ble_eq_true rfl), (Nat.le_of_ble_eq_true rfl)⟩ ?_
              refine u_X8_rowOf 3 0 (by decide) ?_
              refine ev_imul (pc' := 195) (v := 0) dX8_ground_194 rfl (by decide) ?_
              refine ev_iadd (pc' := 196) (v := nI ((16 * n2) + 0)) dX8_ground_195 rfl (nI_add (16 * n2) 0) ?_
              refine ev_iload (pc' := 198) dX8_ground_196 rfl rfl ?_
              refine ev_callS (pc' := 201) (rm' := rX8_columnOf) (av := [.int 3]) (rest := [.int (nI ((16 * n2) + 0)), .ref 123]) co_X8_204 cs_X8_columnOf dX8_ground_198 rfl rfl rfl (Nat.le_of_ble_eq_true rfl) ⟨(Nat.le_of_ble_eq_true rfl), (Nat.le_of_ble_eq_true rfl)⟩ ⟨(Nat.le_of_ble_eq_true rfl), (Nat.le_of_ble_eq_true rfl)⟩ ?_
              refine u_X8_columnOf 3 3 (by decide) ?_
              refine ev_iadd (pc' := 202) (v := nI (((16 * n2) + 0) + 3)) dX8_ground_201 rfl (nI_add ((16 * n2) + 0) 3) ?_
              refine ev_iload (pc' := 204) dX8_ground_202 rfl rfl ?_
              refine ev_iast (pc' := 205) (j := ((16 * n2) + 0) + 3) (I' := (ma_up I 123 (ma_up (ma_up (ma_up (ma_up (ma_up (ma_up (I 123) (((16 * n2) + 0) + 0) (if ((I 117) n4) ≤ 0 then 0 else ((I 118) ((16 * n4) + 0)))) (((16 * n2) + 0) + 1) (if ((I 117) n4) ≤ 1 then 0 else ((I 118) ((16 * n4) + 1)))) (((16 * n2) + 4) + 0) (if ((I 117) n4) ≤ 1 then 0 else ((I 118) ((16 * n4) + 1)))) (((16 * n2) + 0) + 2) (if ((I 117) n4) ≤ 2 then 0 else ((I 118) ((16 * n4) + 2)))) (((16 * n2) + 8) + 0) (if ((I 117) n4) ≤ 2 then 0 else ((I 118) ((16 * n4) + 2)))) (((16 * n2) + 0) + 3) (if ((I 117) n4) ≤ 3 then 0 else ((I 118) ((16 * n4) + 3)))))) dX8_ground_204 rfl hs_123 rfl (by omega) (Nat.le_of_ble_eq_true rfl) (ma_up_up _ _ _ _) ?_
              refine ev_aload_n (pc' := 206) (i := 0) dX8_ground_205 rfl rfl rfl ?_
              refine ev_getR (pc' := 209) fo_X8_37 dX8_ground_206 rfl hs_115 rfl rf_115_13 ?_
              refine ev_bipush (pc' := 211) (v := 16) dX8_ground_209 rfl kb_16 ?_
              refine ev_iload_n (pc' := 212) (i := 1) dX8_ground_211 rfl rfl rfl ?_
              refine ev_imul (pc' := 213) (v := nI (16 * n2)) dX8_ground_212 rfl (pk_mul 16 n2) ?_
              refine ev_iconst (pc' := 214) (v := 4) dX8_ground_213 rfl ki_4 ?_
              refine ev_iload (pc' := 216) dX8_ground_214 rfl rfl ?_
              refine ev_callS (pc' := 219) (rm' := rX8_columnOf) (av := [.int 3]) (rest := [.int 4, .int (nI (16 * n2)), .ref 123]) co_X8_204 cs_X8_columnOf dX8_ground_216 rfl rfl rfl (Nat.le_of_ble_eq_true rfl) ⟨(Nat.le_of_ble_eq_true rfl), (Nat.le_of_ble_eq_true rfl)⟩ ⟨(Nat.le_of_ble_eq_true rfl), (Nat.le_of_ble_eq_true rfl)⟩ ?_
              refine u_X8_columnOf 3 3 (by decide) ?_
              refine ev_imul (pc' := 220) (v := 12) dX8_ground_219 rfl (by decide) ?_
              refine ev_iadd (pc' := 221) (v := nI ((16 * n2) + 12)) dX8_ground_220 rfl (nI_add (16 * n2) 12) ?_
              refine ev_iload (pc' := 223) dX8_ground_221 rfl rfl ?_
              refine ev_callS (pc' := 226) (rm' := rX8_rowOf) (av := [.int 3]) (rest := [.int (nI ((16 * n2) + 12)), .ref 123]) co_X8_201 cs_X8_rowOf dX8_ground_223 rfl rfl rfl (Nat.le_of_ble_eq_true rfl) ⟨(Nat.le_of_ble_eq_true rfl), (Nat.le_of_ble_eq_true rfl)⟩ ⟨(Nat.le_of_ble_eq_true rfl), (Nat.le_of_ble_eq_true rfl)⟩ ?_
              refine u_X8_rowOf 3 0 (by decide) ?_
              refine ev_iadd (pc' := 227) (v := nI (((16 * n2) + 12) + 0)) dX8_ground_226 rfl (nI_add ((16 * n2) + 12) 0) ?_
              refine ev_iload (pc' := 229) dX8_ground_227 rfl rfl ?_
              refine ev_iast (pc' := 230) (j := ((16 * n2) + 12) + 0) (I' := (ma_up I 123 (ma_up (ma_up (ma_up (ma_up (ma_up (ma_up (ma_up (I 123) (((16 * n2) + 0) + 0) (if ((I 117) n4) ≤ 0 then 0 else ((I 118) ((16 * n4) + 0)))) (((16 * n2) + 0) + 1) (if ((I 117) n4) ≤ 1 then 0 else ((I 118) ((16 * n4) + 1)))) (((16 * n2) + 4) + 0) (if ((I 117) n4) ≤ 1 then 0 else ((I 118) ((16 * n4) + 1)))) (((16 * n2) + 0) + 2) (if ((I 117) n4) ≤ 2 then 0 else ((I 118) ((16 * n4) + 2)))) (((16 * n2) + 8) + 0) (if ((I 117) n4) ≤ 2 then 0 else ((I 118) ((16 * n4) + 2)))) (((16 * n2) + 0) + 3) (if ((I 117) n4) ≤ 3 then 0 else ((I 118) ((16 * n4) + 3)))) (((16 * n2) + 12) + 0) (if ((I 117) n4) ≤ 3 then 0 else ((I 118) ((16 * n4) + 3)))))) dX8_ground_229 rfl hs_123 rfl (by omega) (Nat.le_of_ble_eq_true rfl) (ma_up_up _ _ _ _) ?_
              refine ev_iinc (pc' := 233) (v := 4) (lv' := [some (.ref 115), some (.int (nI n2)), some (.int (nI n4)), some (.int 0), some (.int x16), some (.int y17), some (.int 4), some (.int (if ((I 117) n4) ≤ 3 then 0 else ((I 118) ((16 * n4) + 3))))]) dX8_ground_230 rfl rfl (by decide) (Nat.le_of_ble_eq_true rfl) rfl rfl ?_
              refine ev_goto (tgt := 144) dX8_ground_233 rfl ?_
              refine ev_iload (pc' := 146) dX8_ground_144 rfl rfl ?_
              refine ev_bipush (pc' := 148) (v := 10) dX8_ground_146 rfl kb_10 ?_
              refine ev_icmp_ge (tgt := 236) (pc' := 151) dX8_ground_148 rfl rfl (fun h => absurd h (by decide)) (fun _ => ?_)
              refine ev_iload (pc' := 153) dX8_ground_151 rfl rfl ?_
              refine ev_aload_n (pc' := 154) (i := 0) dX8_ground_153 rfl rfl rfl ?_
              refine ev_getR (pc' := 157) fo_X8_17 dX8_ground_154 rfl hs_115 rfl rf_115_5 ?_
              refine ev_iload_n (pc' := 158) (i := 2) dX8_ground_157 rfl rfl rfl ?_
              refine ev_iald (pc' := 159) (j := n4) (v := (I 117) n4) dX8_ground_158 rfl hs_117 rfl (by omega) (Nat.le_of_ble_eq_true rfl) rfl ?_
              suffices K41 : ∀ x40 : Int32, x40 = (if ((I 117) n4) ≤ 4 then 0 else ((I 118) ((16 * n4) + 4))) → EV g yX8_ground cX8_ground 8 (some .int) rX8_ground (ma_ZM g rX8_ground Post) 178 [some (.ref 115), some (.int (nI n2)), some (.int (nI n4)), some (.int 0), some (.int x16), some (.int y17), some (.int 4), some (.int (if ((I 117) n4) ≤ 3 then 0 else ((I 118) ((16 * n4) + 3))))] [.int x40] HS (ma_up I 123 (ma_up (ma_up (ma_up (ma_up (ma_up (ma_up (ma_up (I 123) (((16 * n2) + 0) + 0) (if ((I 117) n4) ≤ 0 then 0 else ((I 118) ((16 * n4) + 0)))) (((16 * n2) + 0) + 1) (if ((I 117) n4) ≤ 1 then 0 else ((I 118) ((16 * n4) + 1)))) (((16 * n2) + 4) + 0) (if ((I 117) n4) ≤ 1 then 0 else ((I 118) ((16 * n4) + 1)))) (((16 * n2) + 0) + 2) (if ((I 117) n4) ≤ 2 then 0 else ((I 118) ((16 * n4) + 2)))) (((16 * n2) + 8) + 0) (if ((I 117) n4) ≤ 2 then 0 else ((I 118) ((16 * n4) + 2)))) (((16 * n2) + 0) + 3) (if ((I 117) n4) ≤ 3 then 0 else ((I 118) ((16 * n4) + 3)))) (((16 * n2) + 12) + 0) (if ((I 117) n4) ≤ 3 then 0 else ((I 118) ((16 * n4) + 3))))) L RF 146 0 0 by
                refine ev_icmp_ge (tgt := 177) (pc' := 162) dX8_ground_159 rfl rfl (fun c42 => ?_) (fun c42 => ?_)
                · refine ev_iconst (pc' := 178) (v := 0) dX8_ground_177 rfl ki_0 ?_
                  exact K41 _ (by rw [if_pos c42])
                · refine ev_aload_n (pc' := 163) (i := 0) dX8_ground_162 rfl rfl rfl ?_
                  refine ev_getR (pc' := 166) fo_X8_20 dX8_ground_163 rfl hs_115 rfl rf_115_6 ?_
                  refine ev_bipush (pc' := 168) (v := 16) dX8_ground_166 rfl kb_16 ?_
                  refine ev_iload_n (pc' := 169) (i := 2) dX8_ground_168 rfl rfl rfl ?_
                  refine ev_imul (pc' := 170) (v := nI (16 * n4)) dX8_ground_169 rfl (pk_mul 16 n4) ?_
                  refine ev_iload (pc' := 172) dX8_ground_170 rfl rfl ?_
                  refine ev_iadd (pc' := 173) (v := nI ((16 * n4) + 4)) dX8_ground_172 rfl (nI_add (16 * n4) 4) ?_
                  refine ev_iald (pc' := 174) (j := (16 * n4) + 4) (v := (I 118) ((16 * n4) + 4)) dX8_ground_173 rfl hs_118 rfl (by omega) (Nat.le_of_ble_eq_true rfl) rfl ?_
                  refine ev_goto (tgt := 178) dX8_ground_174 rfl ?_
                  exact K41 _ (by rw [if_neg c42])
              intro x40 hx40
              subst hx40
              refine ev_istore (pc' := 180) (lv' := [some (.ref 115), some (.int (nI n2)), some (.int (nI n4)), some (.int 0), some (.int x16), some (.int y17), some (.int 4), some (.int (if ((I 117) n4) ≤ 4 then 0 else ((I 118) ((16 * n4) + 4))))]) dX8_ground_178 rfl (Nat.le_of_ble_eq_true rfl) rfl rfl ?_
              refine ev_aload_n (pc' := 181) (i := 0) dX8_ground_180 rfl rfl rfl ?_
              refine ev_getR (pc' := 184) fo_X8_37 dX8_ground_181 rfl hs_115 rfl rf_115_13 ?_
              refine ev_bipush (pc' := 186) (v := 16) dX8_ground_184 rfl kb_16 ?_
              refine ev_iload_n (pc' := 187) (i := 1) dX8_ground_186 rfl rfl rfl ?_
              refine ev_imul (pc' := 188) (v := nI (16 * n2)) dX8_ground_187 rfl (pk_mul 16 n2) ?_
              refine ev_iconst (pc' := 189) (v := 4) dX8_ground_188 rfl ki_4 ?_
              refine ev_iload (pc' := 191) dX8_ground_189 rfl rfl ?_
              refine ev_callS (pc' := 194) (rm' := rX8_rowOf) (av := [.int 4]) (rest := [.int 4, .int (nI (16 * n2)), .ref 123]) co_X8_201 cs_X8_rowOf dX8_ground_191 rfl rfl rfl (Nat.le_of_ble_eq_true rfl) ⟨(Nat.le_of_ble_eq_true rfl), (Nat.le_of_ble_eq_true rfl)⟩ ⟨(Nat.le_of_ble_eq_true rfl), (Nat.le_of_ble_eq_true rfl)⟩ ?_
              refine u_X8_rowOf 4 1 (by decide) ?_
              refine ev_imul (pc' := 195) (v := 4) dX8_ground_194 rfl (by decide) ?_
              refine ev_iadd (pc' := 196) (v := nI ((16 * n2) + 4)) dX8_ground_195 rfl (nI_add (16 * n2) 4) ?_
              refine ev_iload (pc' := 198) dX8_ground_196 rfl rfl ?_
              refine ev_callS (pc' := 201) (rm' := rX8_columnOf) (av := [.int 4]) (rest := [.int (nI ((16 * n2) + 4)), .ref 123]) co_X8_204 cs_X8_columnOf dX8_ground_198 rfl rfl rfl (Nat.le_of_ble_eq_true rfl) ⟨(Nat.le_of_ble_eq_true rfl), (Nat.le_of_ble_eq_true rfl)⟩ ⟨(Nat.le_of_ble_eq_true rfl), (Nat.le_of_ble_eq_true rfl)⟩ ?_
              refine u_X8_columnOf 4 1 (by decide) ?_
              refine ev_iadd (pc' := 202) (v := nI (((16 * n2) + 4) + 1)) dX8_ground_201 rfl (nI_add ((16 * n2) + 4) 1) ?_
              refine ev_iload (pc' := 204) dX8_ground_202 rfl rfl ?_
              refine ev_iast (pc' := 205) (j := ((16 * n2) + 4) + 1) (I' := (ma_up I 123 (ma_up (ma_up (ma_up (ma_up (ma_up (ma_up (ma_up (ma_up (I 123) (((16 * n2) + 0) + 0) (if ((I 117) n4) ≤ 0 then 0 else ((I 118) ((16 * n4) + 0)))) (((16 * n2) + 0) + 1) (if ((I 117) n4) ≤ 1 then 0 else ((I 118) ((16 * n4) + 1)))) (((16 * n2) + 4) + 0) (if ((I 117) n4) ≤ 1 then 0 else ((I 118) ((16 * n4) + 1)))) (((16 * n2) + 0) + 2) (if ((I 117) n4) ≤ 2 then 0 else ((I 118) ((16 * n4) + 2)))) (((16 * n2) + 8) + 0) (if ((I 117) n4) ≤ 2 then 0 else ((I 118) ((16 * n4) + 2)))) (((16 * n2) + 0) + 3) (if ((I 117) n4) ≤ 3 then 0 else ((I 118) ((16 * n4) + 3)))) (((16 * n2) + 12) + 0) (if ((I 117) n4) ≤ 3 then 0 else ((I 118) ((16 * n4) + 3)))) (((16 * n2) + 4) + 1) (if ((I 117) n4) ≤ 4 then 0 else ((I 118) ((16 * n4) + 4)))))) dX8_ground_204 rfl hs_123 rfl (by omega) (Nat.le_of_ble_eq_true rfl) (ma_up_up _ _ _ _) ?_
              refine ev_aload_n (pc' := 206) (i := 0) dX8_ground_205 rfl rfl rfl ?_
              refine ev_getR (pc' := 209) fo_X8_37 dX8_ground_206 rfl hs_115 rfl rf_115_13 ?_
              refine ev_bipush (pc' := 211) (v := 16) dX8_ground_209 rfl kb_16 ?_
              refine ev_iload_n (pc' := 212) (i := 1) dX8_ground_211 rfl rfl rfl ?_
              refine ev_imul (pc' := 213) (v := nI (16 * n2)) dX8_ground_212 rfl (pk_mul 16 n2) ?_
              refine ev_iconst (pc' := 214) (v := 4) dX8_ground_213 rfl ki_4 ?_
              refine ev_iload (pc' := 216) dX8_ground_214 rfl rfl ?_
              refine ev_callS (pc' := 219) (rm' := rX8_columnOf) (av := [.int 4]) (rest := [.int 4, .int (nI (16 * n2)), .ref 123]) co_X8_204 cs_X8_columnOf dX8_ground_216 rfl rfl rfl (Nat.le_of_ble_eq_true rfl) ⟨(Nat.le_of_ble_eq_true rfl), (Nat.le_of_ble_eq_true rfl)⟩ ⟨(Nat.le_of_ble_eq_true rfl), (Nat.le_of_ble_eq_true rfl)⟩ ?_
              refine u_X8_columnOf 4 1 (by decide) ?_
              refine ev_imul (pc' := 220) (v := 4) dX8_ground_219 rfl (by decide) ?_
              refine ev_iadd (pc' := 221) (v := nI ((16 * n2) + 4)) dX8_ground_220 rfl (nI_add (16 * n2) 4) ?_
              refine ev_iload (pc' := 223) dX8_ground_221 rfl rfl ?_
              refine ev_callS (pc' := 226) (rm' := rX8_rowOf) (av := [.int 4]) (rest := [.int (nI ((16 * n2) + 4)), .ref 123]) co_X8_201 cs_X8_rowOf dX8_ground_223 rfl rfl rfl (Nat.le_of_ble_eq_true rfl) ⟨(Nat.le_of_ble_eq_true rfl), (Nat.le_of_ble_eq_true rfl)⟩ ⟨(Nat.le_of_ble_eq_true rfl), (Nat.le_of_ble_eq_true rfl)⟩ ?_
              refine u_X8_rowOf 4 1 (by decide) ?_
              refine ev_iadd (pc' := 227) (v := nI (((16 * n2) + 4) + 1)) dX8_ground_226 rfl (nI_add ((16 * n2) + 4) 1) ?_
              refine ev_iload (pc' := 229) dX8_ground_227 rfl rfl ?_
              refine ev_iast (pc' := 230) (j := ((16 * n2) + 4) + 1) (I' := (ma_up I 123 (ma_up (ma_up (ma_up (ma_up (ma_up (ma_up (ma_up (ma_up (I 123) (((16 * n2) + 0) + 0) (if ((I 117) n4) ≤ 0 then 0 else ((I 118) ((16 * n4) + 0)))) (((16 * n2) + 0) + 1) (if ((I 117) n4) ≤ 1 then 0 else ((I 118) ((16 * n4) + 1)))) (((16 * n2) + 4) + 0) (if ((I 117) n4) ≤ 1 then 0 else ((I 118) ((16 * n4) + 1)))) (((16 * n2) + 0) + 2) (if ((I 117) n4) ≤ 2 then 0 else ((I 118) ((16 * n4) + 2)))) (((16 * n2) + 8) + 0) (if ((I 117) n4) ≤ 2 then 0 else ((I 118) ((16 * n4) + 2)))) (((16 * n2) + 0) + 3) (if ((I 117) n4) ≤ 3 then 0 else ((I 118) ((16 * n4) + 3)))) (((16 * n2) + 12) + 0) (if ((I 117) n4) ≤ 3 then 0 else ((I 118) ((16 * n4) + 3)))) (((16 * n2) + 4) + 1) (if ((I 117) n4) ≤ 4 then 0 else ((I 118) ((16 * n4) + 4)))))) dX8_ground_229 rfl hs_123 rfl (by omega) (Nat.le_of_ble_eq_true rfl) ((congrArg (ma_up _ 123) (ma_up_up _ _ _ _)).trans (ma_up_up _ _ _ _)) ?_
              refine ev_iinc (pc' := 233) (v := 5) (lv' := [some (.ref 115), some (.int (nI n2)), some (.int (nI n4)), some (.int 0), some (.int x16), some (.int y17), some (.int 5), some (.int (if ((I 117) n4) ≤ 4 then 0 else ((I 118) ((16 * n4) + 4))))]) dX8_ground_230 rfl rfl (by decide) (Nat.le_of_ble_eq_true rfl) rfl rfl ?_
              refine ev_goto (tgt := 144) dX8_ground_233 rfl ?_
              refine ev_iload (pc' := 146) dX8_ground_144 rfl rfl ?_
              refine ev_bipush (pc' := 148) (v := 10) dX8_ground_146 rfl kb_10 ?_
              refine ev_icmp_ge (tgt := 236) (pc' := 151) dX8_ground_148 rfl rfl (fun h => absurd h (by decide)) (fun _ => ?_)
              refine ev_iload (pc' := 153) dX8_ground_151 rfl rfl ?_
              refine ev_aload_n (pc' := 154) (i := 0) dX8_ground_153 rfl rfl rfl ?_
              refine ev_getR (pc' := 157) fo_X8_17 dX8_ground_154 rfl hs_115 rfl rf_115_5 ?_
              refine ev_iload_n (pc' := 158) (i := 2) dX8_ground_157 rfl rfl rfl ?_
              refine ev_iald (pc' := 159) (j := n4) (v := (I 117) n4) dX8_ground_158 rfl hs_117 rfl (by omega) (Nat.le_of_ble_eq_true rfl) rfl ?_
              suffices K45 : ∀ x44 : Int32, x44 = (if ((I 117) n4) ≤ 5 then 0 else ((I 118) ((16 * n4) + 5))) → EV g yX8_ground cX8_ground 8 (some .int) rX8_ground (ma_ZM g rX8_ground Post) 178 [some (.ref 115), some (.int (nI n2)), some (.int (nI n4)), some (.int 0), some (.int x16), some (.int y17), some (.int 5), some (.int (if ((I 117) n4) ≤ 4 then 0 else ((I 118) ((16 * n4) + 4))))] [.int x44] HS (ma_up I 123 (ma_up (ma_up (ma_up (ma_up (ma_up (ma_up (ma_up (ma_up (I 123) (((16 * n2) + 0) + 0) (if ((I 117) n4) ≤ 0 then 0 else ((I 118) ((16 * n4) + 0)))) (((16 * n2) + 0) + 1) (if ((I 117) n4) ≤ 1 then 0 else ((I 118) ((16 * n4) + 1)))) (((16 * n2) + 4) + 0) (if ((I 117) n4) ≤ 1 then 0 else ((I 118) ((16 * n4) + 1)))) (((16 * n2) + 0) + 2) (if ((I 117) n4) ≤ 2 then 0 else ((I 118) ((16 * n4) + 2)))) (((16 * n2) + 8) + 0) (if ((I 117) n4) ≤ 2 then 0 else ((I 118) ((16 * n4) + 2)))) (((16 * n2) + 0) + 3) (if ((I 117) n4) ≤ 3 then 0 else ((I 118) ((16 * n4) + 3)))) (((16 * n2) + 12) + 0) (if ((I 117) n4) ≤ 3 then 0 else ((I 118) ((16 * n4) + 3)))) (((16 * n2) + 4) + 1) (if ((I 117) n4) ≤ 4 then 0 else ((I 118) ((16 * n4) + 4))))) L RF 146 0 0 by
                refine ev_icmp_ge (tgt := 177) (pc' := 162) dX8_ground_159 rfl rfl (fun c46 => ?_) (fun c46 => ?_)
                · refine ev_iconst (pc' := 178) (v := 0) dX8_ground_177 rfl ki_0 ?_
                  exact K45 _ (by rw [if_pos c46])
                · refine ev_aload_n (pc' := 163) (i := 0) dX8_ground_162 rfl rfl rfl ?_
                  refine ev_getR (pc' := 166) fo_X8_20 dX8_ground_163 rfl hs_115 rfl rf_115_6 ?_
                  refine ev_bipush (pc' := 168) (v := 16) dX8_ground_166 rfl kb_16 ?_
                  refine ev_iload_n (pc' := 169) (i := 2) dX8_ground_168 rfl rfl rfl ?_
                  refine ev_imul (pc' := 170) (v := nI (16 * n4)) dX8_ground_169 rfl (pk_mul 16 n4) ?_
                  refine ev_iload (pc' := 172) dX8_ground_170 rfl rfl ?_
                  refine ev_iadd (pc' := 173) (v := nI ((16 * n4) + 5)) dX8_ground_172 rfl (nI_add (16 * n4) 5) ?_
                  refine ev_iald (pc' := 174) (j := (16 * n4) + 5) (v := (I 118) ((16 * n4) + 5)) dX8_ground_173 rfl hs_118 rfl (by omega) (Nat.le_of_ble_eq_true rfl) rfl ?_
                  refine ev_goto (tgt := 178) dX8_ground_174 rfl ?_
                  exact K45 _ (by rw [if_neg c46])
              intro x44 hx44
              subst hx44
              refine ev_istore (pc' := 180) (lv' := [some (.ref 115), some (.int (nI n2)), some (.int (nI n4)), some (.int 0), some (.int x16), some (.int y17), some (.int 5), some (.int (if ((I 117) n4) ≤ 5 then 0 else ((I 118) ((16 * n4) + 5))))]) dX8_ground_178 rfl (Nat.le_of_ble_eq_true rfl) rfl rfl ?_
              refine ev_aload_n (pc' := 181) (i := 0) dX8_ground_180 rfl rfl rfl ?_
              refine ev_getR (pc' := 184) fo_X8_37 dX8_ground_181 rfl hs_115 rfl rf_115_13 ?_
              refine ev_bipush (pc' := 186) (v := 16) dX8_ground_184 rfl kb_16 ?_
              refine ev_iload_n (pc' := 187) (i := 1) dX8_ground_186 rfl rfl rfl ?_
              refine ev_imul (pc' := 188) (v := nI (16 * n2)) dX8_ground_187 rfl (pk_mul 16 n2) ?_
              refine ev_iconst (pc' := 189) (v := 4) dX8_ground_188 rfl ki_4 ?_
              refine ev_iload (pc' := 191) dX8_ground_189 rfl rfl ?_
              refine ev_callS (pc' := 194) (rm' := rX8_rowOf) (av := [.int 5]) (rest := [.int 4, .int (nI (16 * n2)), .ref 123]) co_X8_201 cs_X8_rowOf dX8_ground_191 rfl rfl rfl (Nat.le_of_ble_eq_true rfl) ⟨(Nat.le_of_ble_eq_true rfl), (Nat.le_of_ble_eq_true rfl)⟩ ⟨(Nat.le_of_ble_eq_true rfl), (Nat.le_of_ble_eq_true rfl)⟩ ?_
              refine u_X8_rowOf 5 1 (by decide) ?_
              refine ev_imul (pc' := 195) (v := 4) dX8_ground_194 rfl (by decide) ?_
              refine ev_iadd (pc' := 196) (v := nI ((16 * n2) + 4)) dX8_ground_195 rfl (nI_add (16 * n2) 4) ?_
              refine ev_iload (pc' := 198) dX8_ground_196 rfl rfl ?_
              refine ev_callS (pc' := 201) (rm' := rX8_columnOf) (av := [.int 5]) (rest := [.int (nI ((16 * n2) + 4)), .ref 123]) co_X8_204 cs_X8_columnOf dX8_ground_198 rfl rfl rfl (Nat.le_of_ble_eq_true rfl) ⟨(Nat.le_of_ble_eq_true rfl), (Nat.le_of_ble_eq_true rfl)⟩ ⟨(Nat.le_of_ble_eq_true rfl), (Nat.le_of_ble_eq_true rfl)⟩ ?_
              refine u_X8_columnOf 5 2 (by decide) ?_
              refine ev_iadd (pc' := 202) (v := nI (((16 * n2) + 4) + 2)) dX8_ground_201 rfl (nI_add ((16 * n2) + 4) 2) ?_
              refine ev_iload (pc' := 204) dX8_ground_202 rfl rfl ?_
              refine ev_iast (pc' := 205) (j := ((16 * n2) + 4) + 2) (I' := (ma_up I 123 (ma_up (ma_up (ma_up (ma_up (ma_up (ma_up (ma_up (ma_up (ma_up (I 123) (((16 * n2) + 0) + 0) (if ((I 117) n4) ≤ 0 then 0 else ((I 118) ((16 * n4) + 0)))) (((16 * n2) + 0) + 1) (if ((I 117) n4) ≤ 1 then 0 else ((I 118) ((16 * n4) + 1)))) (((16 * n2) + 4) + 0) (if ((I 117) n4) ≤ 1 then 0 else ((I 118) ((16 * n4) + 1)))) (((16 * n2) + 0) + 2) (if ((I 117) n4) ≤ 2 then 0 else ((I 118) ((16 * n4) + 2)))) (((16 * n2) + 8) + 0) (if ((I 117) n4) ≤ 2 then 0 else ((I 118) ((16 * n4) + 2)))) (((16 * n2) + 0) + 3) (if ((I 117) n4) ≤ 3 then 0 else ((I 118) ((16 * n4) + 3)))) (((16 * n2) + 12) + 0) (if ((I 117) n4) ≤ 3 then 0 else ((I 118) ((16 * n4) + 3)))) (((16 * n2) + 4) + 1) (if ((I 117) n4) ≤ 4 then 0 else ((I 118) ((16 * n4) + 4)))) (((16 * n2) + 4) + 2) (if ((I 117) n4) ≤ 5 then 0 else ((I 118) ((16 * n4) + 5)))))) dX8_ground_204 rfl hs_123 rfl (by omega) (Nat.le_of_ble_eq_true rfl) (ma_up_up _ _ _ _) ?_
              refine ev_aload_n (pc' := 206) (i := 0) dX8_ground_205 rfl rfl rfl ?_
              refine ev_getR (pc' := 209) fo_X8_37 dX8_ground_206 rfl hs_115 rfl rf_115_13 ?_
              refine ev_bipush (pc' := 211) (v := 16) dX8_ground_209 rfl kb_16 ?_
              refine ev_iload_n (pc' := 212) (i := 1) dX8_ground_211 rfl rfl rfl ?_
              refine ev_imul (pc' := 213) (v := nI (16 * n2)) dX8_ground_212 rfl (pk_mul 16 n2) ?_
              refine ev_iconst (pc' := 214) (v := 4) dX8_ground_213 rfl ki_4 ?_
              refine ev_iload (pc' := 216) dX8_ground_214 rfl rfl ?_
              refine ev_callS (pc' := 219) (rm' := rX8_columnOf) (av := [.int 5]) (rest := [.int 4, .int (nI (16 * n2)), .ref 123]) co_X8_204 cs_X8_columnOf dX8_ground_216 rfl rfl rfl (Nat.le_of_ble_eq_true rfl) ⟨(Nat.le_of_ble_eq_true rfl), (Nat.le_of_ble_eq_true rfl)⟩ ⟨(Nat.le_of_ble_eq_true rfl), (Nat.le_of_ble_eq_true rfl)⟩ ?_
              refine u_X8_columnOf 5 2 (by decide) ?_
              refine ev_imul (pc' := 220) (v := 8) dX8_ground_219 rfl (by decide) ?_
              refine ev_iadd (pc' := 221) (v := nI ((16 * n2) + 8)) dX8_ground_220 rfl (nI_add (16 * n2) 8) ?_
              refine ev_iload (pc' := 223) dX8_ground_221 rfl rfl ?_
              refine ev_callS (pc' := 226) (rm' := rX8_rowOf) (av := [.int 5]) (rest := [.int (nI ((16 * n2) + 8)), .ref 123]) co_X8_201 cs_X8_rowOf dX8_ground_223 rfl rfl rfl (Nat.le_of_ble_eq_true rfl) ⟨(Nat.le_of_ble_eq_true rfl), (Nat.le_of_ble_eq_true rfl)⟩ ⟨(Nat.le_of_ble_eq_true rfl), (Nat.le_of_ble_eq_true rfl)⟩ ?_
              refine u_X8_rowOf 5 1 (by decide) ?_
              refine ev_iadd (pc' := 227) (v := nI (((16 * n2) + 8) + 1)) dX8_ground_226 rfl (nI_add ((16 * n2) + 8) 1) ?_
              refine ev_iload (pc' := 229) dX8_ground_227 rfl rfl ?_
              refine ev_iast (pc' := 230) (j := ((16 * n2) + 8) + 1) (I' := (ma_up I 123 (ma_up (ma_up (ma_up (ma_up (ma_up (ma_up (ma_up (ma_up (ma_up (ma_up (I 123) (((16 * n2) + 0) + 0) (if ((I 117) n4) ≤ 0 then 0 else ((I 118) ((16 * n4) + 0)))) (((16 * n2) + 0) + 1) (if ((I 117) n4) ≤ 1 then 0 else ((I 118) ((16 * n4) + 1)))) (((16 * n2) + 4) + 0) (if ((I 117) n4) ≤ 1 then 0 else ((I 118) ((16 * n4) + 1)))) (((16 * n2) + 0) + 2) (if ((I 117) n4) ≤ 2 then 0 else ((I 118) ((16 * n4) + 2)))) (((16 * n2) + 8) + 0) (if ((I 117) n4) ≤ 2 then 0 else ((I 118) ((16 * n4) + 2)))) (((16 * n2) + 0) + 3) (if ((I 117) n4) ≤ 3 then 0 else ((I 118) ((16 * n4) + 3)))) (((16 * n2) + 12) + 0) (if ((I 117) n4) ≤ 3 then 0 else ((I 118) ((16 * n4) + 3)))) (((16 * n2) + 4) + 1) (if ((I 117) n4) ≤ 4 then 0 else ((I 118) ((16 * n4) + 4)))) (((16 * n2) + 4) + 2) (if ((I 117) n4) ≤ 5 then 0 else ((I 118) ((16 * n4) + 5)))) (((16 * n2) + 8) + 1) (if ((I 117) n4) ≤ 5 then 0 else ((I 118) ((16 * n4) + 5)))))) dX8_ground_229 rfl hs_123 rfl (by omega) (Nat.le_of_ble_eq_true rfl) (ma_up_up _ _ _ _) ?_
              refine ev_iinc (pc' := 233) (v := 6) (lv' := [some (.ref 115), some (.int (nI n2)), some (.int (nI n4)), some (.int 0), some (.int x16), some (.int y17), some (.int 6), some (.int (if ((I 117) n4) ≤ 5 then 0 else ((I 118) ((16 * n4) + 5))))]) dX8_ground_230 rfl rfl (by decide) (Nat.le_of_ble_eq_true rfl) rfl rfl ?_
              refine ev_goto (tgt := 144) dX8_ground_233 rfl ?_
              refine ev_iload (pc' := 146) dX8_ground_144 rfl rfl ?_
              refine ev_bipush (pc' := 148) (v := 10) dX8_ground_146 rfl kb_10 ?_
              refine ev_icmp_ge (tgt := 236) (pc' := 151) dX8_ground_148 rfl rfl (fun h => absurd h (by decide)) (fun _ => ?_)
              refine ev_iload (pc' := 153) dX8_ground_151 rfl rfl ?_
              refine ev_aload_n (pc' := 154) (i := 0) dX8_ground_153 rfl rfl rfl ?_
              refine ev_getR (pc' := 157) fo_X8_17 dX8_ground_154 rfl hs_115 rfl rf_115_5 ?_
              refine ev_iload_n (pc' := 158) (i := 2) dX8_ground_157 rfl rfl rfl ?_
              refine ev_iald (pc' := 159) (j := n4) (v := (I 117) n4) dX8_ground_158 rfl hs_117 rfl (by omega) (Nat.le_of_ble_eq_true rfl) rfl ?_
              suffices K49 : ∀ x48 : Int32, x48 = (if ((I 117) n4) ≤ 6 then 0 else ((I 118) ((16 * n4) + 6))) → EV g yX8_ground cX8_ground 8 (some .int) rX8_ground (ma_ZM g rX8_ground Post) 178 [some (.ref 115), some (.int (nI n2)), some (.int (nI n4)), some (.int 0), some (.int x16), some (.int y17), some (.int 6), some (.int (if ((I 117) n4) ≤ 5 then 0 else ((I 118) ((16 * n4) + 5))))] [.int x48] HS (ma_up I 123 (ma_up (ma_up (ma_up (ma_up (ma_up (ma_up (ma_up (ma_up (ma_up (ma_up (I 123) (((16 * n2) + 0) + 0) (if ((I 117) n4) ≤ 0 then 0 else ((I 118) ((16 * n4) + 0)))) (((16 * n2) + 0) + 1) (if ((I 117) n4) ≤ 1 then 0 else ((I 118) ((16 * n4) + 1)))) (((16 * n2) + 4) + 0) (if ((I 117) n4) ≤ 1 then 0 else ((I 118) ((16 * n4) + 1)))) (((16 * n2) + 0) + 2) (if ((I 117) n4) ≤ 2 then 0 else ((I 118) ((16 * n4) + 2)))) (((16 * n2) + 8) + 0) (if ((I 117) n4) ≤ 2 then 0 else ((I 118) ((16 * n4) + 2)))) (((16 * n2) + 0) + 3) (if ((I 117) n4) ≤ 3 then 0 else ((I 118) ((16 * n4) + 3)))) (((16 * n2) + 12) + 0) (if ((I 117) n4) ≤ 3 then 0 else ((I 118) ((16 * n4) + 3)))) (((16 * n2) + 4) + 1) (if ((I 117) n4) ≤ 4 then 0 else ((I 118) ((16 * n4) + 4)))) (((16 * n2) + 4) + 2) (if ((I 117) n4) ≤ 5 then 0 else ((I 118) ((16 * n4) + 5)))) (((16 * n2) + 8) + 1) (if ((I 117) n4) ≤ 5 then 0 else ((I 118) ((16 * n4) + 5))))) L RF 146 0 0 by
                refine ev_icmp_ge (tgt := 177) (pc' := 162) dX8_ground_159 rfl rfl (fun c50 => ?_) (fun c50 => ?_)
                · refine ev_iconst (pc' := 178) (v := 0) dX8_ground_177 rfl ki_0 ?_
                  exact K49 _ (by rw [if_pos c50])
                · refine ev_aload_n (pc' := 163) (i := 0) dX8_ground_162 rfl rfl rfl ?_
                  refine ev_getR (pc' := 166) fo_X8_20 dX8_ground_163 rfl hs_115 rfl rf_115_6 ?_
                  refine ev_bipush (pc' := 168) (v := 16) dX8_ground_166 rfl kb_16 ?_
                  refine ev_iload_n (pc' := 169) (i := 2) dX8_ground_168 rfl rfl rfl ?_
                  refine ev_imul (pc' := 170) (v := nI (16 * n4)) dX8_ground_169 rfl (pk_mul 16 n4) ?_
                  refine ev_iload (pc' := 172) dX8_ground_170 rfl rfl ?_
                  refine ev_iadd (pc' := 173) (v := nI ((16 * n4) + 6)) dX8_ground_172 rfl (nI_add (16 * n4) 6) ?_
                  refine ev_iald (pc' := 174) (j := (16 * n4) + 6) (v := (I 118) ((16 * n4) + 6)) dX8_ground_173 rfl hs_118 rfl (by omega) (Nat.le_of_ble_eq_true rfl) rfl ?_
                  refine ev_goto (tgt := 178) dX8_ground_174 rfl ?_
                  exact K49 _ (by rw [if_neg c50])
              intro x48 hx48
              subst hx48
              refine ev_istore (pc' := 180) (lv' := [some (.ref 115), some (.int (nI n2)), some (.int (nI n4)), some (.int 0), some (.int x16), some (.int y17), some (.int 6), some (.int (if ((I 117) n4) ≤ 6 then 0 else ((I 118) ((16 * n4) + 6))))]) dX8_ground_178 rfl (Nat.le_of_ble_eq_true rfl) rfl rfl ?_
              refine ev_aload_n (pc' := 181) (i := 0) dX8_ground_180 rfl rfl rfl ?_
              refine ev_getR (pc' := 184) fo_X8_37 dX8_ground_181 rfl hs_115 rfl rf_115_13 ?_
              refine ev_bipush (pc' := 186) (v := 16) dX8_ground_184 rfl kb_16 ?_
              refine ev_iload_n (pc' := 187) (i := 1) dX8_ground_186 rfl rfl rfl ?_
              refine ev_imul (pc' := 188) (v := nI (16 * n2)) dX8_ground_187 rfl (pk_mul 16 n2) ?_
              refine ev_iconst (pc' := 189) (v := 4) dX8_ground_188 rfl ki_4 ?_
              refine ev_iload (pc' := 191) dX8_ground_189 rfl rfl ?_
              refine ev_callS (pc' := 194) (rm' := rX8_rowOf) (av := [.int 6]) (rest := [.int 4, .int (nI (16 * n2)), .ref 123]) co_X8_201 cs_X8_rowOf dX8_ground_191 rfl rfl rfl (Nat.le_of_ble_eq_true rfl) ⟨(Nat.le_of_ble_eq_true rfl), (Nat.le_of_ble_eq_true rfl)⟩ ⟨(Nat.le_of_ble_eq_true rfl), (Nat.le_of_ble_eq_true rfl)⟩ ?_
              refine u_X8_rowOf 6 1 (by decide) ?_
              refine ev_imul (pc' := 195) (v := 4) dX8_ground_194 rfl (by decide) ?_
              refine ev_iadd (pc' := 196) (v := nI ((16 * n2) + 4)) dX8_ground_195 rfl (nI_add (16 * n2) 4) ?_
              refine ev_iload (pc' := 198) dX8_ground_196 rfl rfl ?_
              refine ev_callS (pc' := 201) (rm' := rX8_columnOf) (av := [.int 6]) (rest := [.int (nI ((16 * n2) + 4)), .ref 123]) co_X8_204 cs_X8_columnOf dX8_ground_198 rfl rfl rfl (Nat.le_of_ble_eq_true rfl) ⟨(Nat.le_of_ble_eq_true rfl), (Nat.le_of_ble_eq_true rfl)⟩ ⟨(Nat.le_of_ble_eq_true rfl), (Nat.le_of_ble_eq_true rfl)⟩ ?_
              refine u_X8_columnOf 6 3 (by decide) ?_
              refine ev_iadd (pc' := 202) (v := nI (((16 * n2) + 4) + 3)) dX8_ground_201 rfl (nI_add ((16 * n2) + 4) 3) ?_
              refine ev_iload (pc' := 204) dX8_ground_202 rfl rfl ?_
              refine ev_iast (pc' := 205) (j := ((16 * n2) + 4) + 3) (I' := (ma_up I 123 (ma_up (ma_up (ma_up (ma_up (ma_up (ma_up (ma_up (ma_up (ma_up (ma_up (ma_up (I 123) (((16 * n2) + 0) + 0) (if ((I 117) n4) ≤ 0 then 0 else ((I 118) ((16 * n4) + 0)))) (((16 * n2) + 0) + 1) (if ((I 117) n4) ≤ 1 then 0 else ((I 118) ((16 * n4) + 1)))) (((16 * n2) + 4) + 0) (if ((I 117) n4) ≤ 1 then 0 else ((I 118) ((16 * n4) + 1)))) (((16 * n2) + 0) + 2) (if ((I 117) n4) ≤ 2 then 0 else ((I 118) ((16 * n4) + 2)))) (((16 * n2) + 8) + 0) (if ((I 117) n4) ≤ 2 then 0 else ((I 118) ((16 * n4) + 2)))) (((16 * n2) + 0) + 3) (if ((I 117) n4) ≤ 3 then 0 else ((I 118) ((16 * n4) + 3)))) (((16 * n2) + 12) + 0) (if ((I 117) n4) ≤ 3 then 0 else ((I 118) ((16 * n4) + 3)))) (((16 * n2) + 4) + 1) (if ((I 117) n4) ≤ 4 then 0 else ((I 118) ((16 * n4) + 4)))) (((16 * n2) + 4) + 2) (if ((I 117) n4) ≤ 5 then 0 else ((I 118) ((16 * n4) + 5)))) (((16 * n2) + 8) + 1) (if ((I 117) n4) ≤ 5 then 0 else ((I 118) ((16 * n4) + 5)))) (((16 * n2) + 4) + 3) (if ((I 117) n4) ≤ 6 then 0 else ((I 118) ((16 * n4) + 6)))))) dX8_ground_204 rfl hs_123 rfl (by omega) (Nat.le_of_ble_eq_true rfl) (ma_up_up _ _ _ _) ?_
              refine ev_aload_n (pc' := 206) (i := 0) dX8_ground_205 rfl rfl rfl ?_
              refine ev_getR (pc' := 209) fo_X8_37 dX8_ground_206 rfl hs_115 rfl rf_115_13 ?_
              refine ev_bipush (pc' := 211) (v := 16) dX8_ground_209 rfl kb_16 ?_
              refine ev_iload_n (pc' := 212) (i := 1) dX8_ground_211 rfl rfl rfl ?_
              refine ev_imul (pc' := 213) (v := nI (16 * n2)) dX8_ground_212 rfl (pk_mul 16 n2) ?_
              refine ev_iconst (pc' := 214) (v := 4) dX8_ground_213 rfl ki_4 ?_
              refine ev_iload (pc' := 216) dX8_ground_214 rfl rfl ?_
              refine ev_callS (pc' := 219) (rm' := rX8_columnOf) (av := [.int 6]) (rest := [.int 4, .int (nI (16 * n2)), .ref 123]) co_X8_204 cs_X8_columnOf dX8_ground_216 rfl rfl rfl (Nat.le_of_ble_eq_true rfl) ⟨(Nat.le_of_ble_eq_true rfl), (Nat.le_of_ble_eq_true rfl)⟩ ⟨(Nat.le_of_ble_eq_true rfl), (Nat.le_of_ble_eq_true rfl)⟩ ?_
              refine u_X8_columnOf 6 3 (by decide) ?_
              refine ev_imul (pc' := 220) (v := 12) dX8_ground_219 rfl (by decide) ?_
              refine ev_iadd (pc' := 221) (v := nI ((16 * n2) + 12)) dX8_ground_220 rfl (nI_add (16 * n2) 12) ?_
              refine ev_iload (pc' := 223) dX8_ground_221 rfl rfl ?_
              refine ev_callS (pc' := 226) (rm' := rX8_rowOf) (av := [.int 6]) (rest := [.int (nI ((16 * n2) + 12)), .ref 123]) co_X8_201 cs_X8_rowOf dX8_ground_223 rfl rfl rfl (Nat.le_of_ble_eq_true rfl) ⟨(Nat.le_of_ble_eq_true rfl), (Nat.le_of_ble_eq_true rfl)⟩ ⟨(Nat.le_of_ble_eq_true rfl), (Nat.le_of_ble_eq_true rfl)⟩ ?_
              refine u_X8_rowOf 6 1 (by decide) ?_
              refine ev_iadd (pc' := 227) (v := nI (((16 * n2) + 12) + 1)) dX8_ground_226 rfl (nI_add ((16 * n2) + 12) 1) ?_
              refine ev_iload (pc' := 229) dX8_ground_227 rfl rfl ?_
              refine ev_iast (pc' := 230) (j := ((16 * n2) + 12) + 1) (I' := (ma_up I 123 (ma_up (ma_up (ma_up (ma_up (ma_up (ma_up (ma_up (ma_up (ma_up (ma_up (ma_up (ma_up (I 123) (((16 * n2) + 0) + 0) (if ((I 117) n4) ≤ 0 then 0 else ((I 118) ((16 * n4) + 0)))) (((16 * n2) + 0) + 1) (if ((I 117) n4) ≤ 1 then 0 else ((I 118) ((16 * n4) + 1)))) (((16 * n2) + 4) + 0) (if ((I 117) n4) ≤ 1 then 0 else ((I 118) ((16 * n4) + 1)))) (((16 * n2) + 0) + 2) (if ((I 117) n4) ≤ 2 then 0 else ((I 118) ((16 * n4) + 2)))) (((16 * n2) + 8) + 0) (if ((I 117) n4) ≤ 2 then 0 else ((I 118) ((16 * n4) + 2)))) (((16 * n2) + 0) + 3) (if ((I 117) n4) ≤ 3 then 0 else ((I 118) ((16 * n4) + 3)))) (((16 * n2) + 12) + 0) (if ((I 117) n4) ≤ 3 then 0 else ((I 118) ((16 * n4) + 3)))) (((16 * n2) + 4) + 1) (if ((I 117) n4) ≤ 4 then 0 else ((I 118) ((16 * n4) + 4)))) (((16 * n2) + 4) + 2) (if ((I 117) n4) ≤ 5 then 0 else ((I 118) ((16 * n4) + 5)))) (((16 * n2) + 8) + 1) (if ((I 117) n4) ≤ 5 then 0 else ((I 118) ((16 * n4) + 5)))) (((16 * n2) + 4) + 3) (if ((I 117) n4) ≤ 6 then 0 else ((I 118) ((16 * n4) + 6)))) (((16 * n2) + 12) + 1) (if ((I 117) n4) ≤ 6 then 0 else ((I 118) ((16 * n4) + 6)))))) dX8_ground_229 rfl hs_123 rfl (by omega) (Nat.le_of_ble_eq_true rfl) (ma_up_up _ _ _ _) ?_
              refine ev_iinc (pc' := 233) (v := 7) (lv' := [some (.ref 115), some (.int (nI n2)), some (.int (nI n4)), some (.int 0), some (.int x16), some (.int y17), some (.int 7), some (.int (if ((I 117) n4) ≤ 6 then 0 else ((I 118) ((16 * n4) + 6))))]) dX8_ground_230 rfl rfl (by decide) (Nat.le_of_ble_eq_true rfl) rfl rfl ?_
              refine ev_goto (tgt := 144) dX8_ground_233 rfl ?_
              refine ev_iload (pc' := 146) dX8_ground_144 rfl rfl ?_
              refine ev_bipush (pc' := 148) (v := 10) dX8_ground_146 rfl kb_10 ?_
              refine ev_icmp_ge (tgt := 236) (pc' := 151) dX8_ground_148 rfl rfl (fun h => absurd h (by decide)) (fun _ => ?_)
              refine ev_iload (pc' := 153) dX8_ground_151 rfl rfl ?_
              refine ev_aload_n (pc' := 154) (i := 0) dX8_ground_153 rfl rfl rfl ?_
              refine ev_getR (pc' := 157) fo_X8_17 dX8_ground_154 rfl hs_115 rfl rf_115_5 ?_
              refine ev_iload_n (pc' := 158) (i := 2) dX8_ground_157 rfl rfl rfl ?_
              refine ev_iald (pc' := 159) (j := n4) (v := (I 117) n4) dX8_ground_158 rfl hs_117 rfl (by omega) (Nat.le_of_ble_eq_true rfl) rfl ?_
              suffices K53 : ∀ x52 : Int32, x52 = (if ((I 117) n4) ≤ 7 then 0 else ((I 118) ((16 * n4) + 7))) → EV g yX8_ground cX8_ground 8 (some .int) rX8_ground (ma_ZM g rX8_ground Post) 178 [some (.ref 115), some (.int (nI n2)), some (.int (nI n4)), some (.int 0), some (.int x16), some (.int y17), some (.int 7), some (.int (if ((I 117) n4) ≤ 6 then 0 else ((I 118) ((16 * n4) + 6))))] [.int x52] HS (ma_up I 123 (ma_up (ma_up (ma_up (ma_up (ma_up (ma_up (ma_up (ma_up (ma_up (ma_up (ma_up (ma_up (I 123) (((16 * n2) + 0) + 0) (if ((I 117) n4) ≤ 0 then 0 else ((I 118) ((16 * n4) + 0)))) (((16 * n2) + 0) + 1) (if ((I 117) n4) ≤ 1 then 0 else ((I 118) ((16 * n4) + 1)))) (((16 * n2) + 4) + 0) (if ((I 117) n4) ≤ 1 then 0 else ((I 118) ((16 * n4) + 1)))) (((16 * n2) + 0) + 2) (if ((I 117) n4) ≤ 2 then 0 else ((I 118) ((16 * n4) + 2)))) (((16 * n2) + 8) + 0) (if ((I 117) n4) ≤ 2 then 0 else ((I 118) ((16 * n4) + 2)))) (((16 * n2) + 0) + 3) (if ((I 117) n4) ≤ 3 then 0 else ((I 118) ((16 * n4) + 3)))) (((16 * n2) + 12) + 0) (if ((I 117) n4) ≤ 3 then 0 else ((I 118) ((16 * n4) + 3)))) (((16 * n2) + 4) + 1) (if ((I 117) n4) ≤ 4 then 0 else ((I 118) ((16 * n4) + 4)))) (((16 * n2) + 4) + 2) (if ((I 117) n4) ≤ 5 then 0 else ((I 118) ((16 * n4) + 5)))) (((16 * n2) + 8) + 1) (if ((I 117) n4) ≤ 5 then 0 else ((I 118) ((16 * n4) + 5)))) (((16 * n2) + 4) + 3) (if ((I 117) n4) ≤ 6 then 0 else ((I 118) ((16 * n4) + 6)))) (((16 * n2) + 12) + 1) (if ((I 117) n4) ≤ 6 then 0 else ((I 118) ((16 * n4) + 6))))) L RF 146 0 0 by
                refine ev_icmp_ge (tgt := 177) (pc' := 162) dX8_ground_159 rfl rfl (fun c54 => ?_) (fun c54 => ?_)
                · refine ev_iconst (pc' := 178) (v := 0) dX8_ground_177 rfl ki_0 ?_
                  exact K53 _ (by rw [if_pos c54])
                · refine ev_aload_n (pc' := 163) (i := 0) dX8_ground_162 rfl rfl rfl ?_
                  refine ev_getR (pc' := 166) fo_X8_20 dX8_ground_163 rfl hs_115 rfl rf_115_6 ?_
                  refine ev_bipush (pc' := 168) (v := 16) dX8_ground_166 rfl kb_16 ?_
                  refine ev_iload_n (pc' := 169) (i := 2) dX8_ground_168 rfl rfl rfl ?_
                  refine ev_imul (pc' := 170) (v := nI (16 * n4)) dX8_ground_169 rfl (pk_mul 16 n4) ?_
                  refine ev_iload (pc' := 172) dX8_ground_170 rfl rfl ?_
                  refine ev_iadd (pc' := 173) (v := nI ((16 * n4) + 7)) dX8_ground_172 rfl (nI_add (16 * n4) 7) ?_
                  refine ev_iald (pc' := 174) (j := (16 * n4) + 7) (v := (I 118) ((16 * n4) + 7)) dX8_ground_173 rfl hs_118 rfl (by omega) (Nat.le_of_ble_eq_true rfl) rfl ?_
                  refine ev_goto (tgt := 178) dX8_ground_174 rfl ?_
                  exact K53 _ (by rw [if_neg c54])
              intro x52 hx52
              subst hx52
              refine ev_istore (pc' := 180) (lv' := [some (.ref 115), some (.int (nI n2)), some (.int (nI n4)), some (.int 0), some (.int x16), some (.int y17), some (.int 7), some (.int (if ((I 117) n4) ≤ 7 then 0 else ((I 118) ((16 * n4) + 7))))]) dX8_ground_178 rfl (Nat.le_of_ble_eq_true rfl) rfl rfl ?_
              refine ev_aload_n (pc' := 181) (i := 0) dX8_ground_180 rfl rfl rfl ?_
              refine ev_getR (pc' := 184) fo_X8_37 dX8_ground_181 rfl hs_115 rfl rf_115_13 ?_
              refine ev_bipush (pc' := 186) (v := 16) dX8_ground_184 rfl kb_16 ?_
              refine ev_iload_n (pc' := 187) (i := 1) dX8_ground_186 rfl rfl rfl ?_
              refine ev_imul (pc' := 188) (v := nI (16 * n2)) dX8_ground_187 rfl (pk_mul 16 n2) ?_
              refine ev_iconst (pc' := 189) (v := 4) dX8_ground_188 rfl ki_4 ?_
              refine ev_iload (pc' := 191) dX8_ground_189 rfl rfl ?_
              refine ev_callS (pc' := 194) (rm' := rX8_rowOf) (av := [.int 7]) (rest := [.int 4, .int (nI (16 * n2)), .ref 123]) co_X8_201 cs_X8_rowOf dX8_ground_191 rfl rfl rfl (Nat.le_of_ble_eq_true rfl) ⟨(Nat.le_of_ble_eq_true rfl), (Nat.le_of_ble_eq_true rfl)⟩ ⟨(Nat.le_of_ble_eq_true rfl), (Nat.le_of_ble_eq_true rfl)⟩ ?_
              refine u_X8_rowOf 7 2 (by decide) ?_
              refine ev_imul (pc' := 195) (v := 8) dX8_ground_194 rfl (by decide) ?_
              refine ev_iadd (pc' := 196) (v := nI ((16 * n2) + 8)) dX8_ground_195 rfl (nI_add (16 * n2) 8) ?_
              refine ev_iload (pc' := 198) dX8_ground_196 rfl rfl ?_
              refine ev_callS (pc' := 201) (rm' := rX8_columnOf) (av := [.int 7]) (rest := [.int (nI ((16 * n2) + 8)), .ref 123]) co_X8_204 cs_X8_columnOf dX8_ground_198 rfl rfl rfl (Nat.le_of_ble_eq_true rfl) ⟨(Nat.le_of_ble_eq_true rfl), (Nat.le_of_ble_eq_true rfl)⟩ ⟨(Nat.le_of_ble_eq_true rfl), (Nat.le_of_ble_eq_true rfl)⟩ ?_
              refine u_X8_columnOf 7 2 (by decide) ?_
              refine ev_iadd (pc' := 202) (v := nI (((16 * n2) + 8) + 2)) dX8_ground_201 rfl (nI_add ((16 * n2) + 8) 2) ?_
              refine ev_iload (pc' := 204) dX8_ground_202 rfl rfl ?_
              refine ev_iast (pc' := 205) (j := ((16 * n2) + 8) + 2) (I' := (ma_up I 123 (ma_up (ma_up (ma_up (ma_up (ma_up (ma_up (ma_up (ma_up (ma_up (ma_up (ma_up (ma_up (ma_up (I 123) (((16 * n2) + 0) + 0) (if ((I 117) n4) ≤ 0 then 0 else ((I 118) ((16 * n4) + 0)))) (((16 * n2) + 0) + 1) (if ((I 117) n4) ≤ 1 then 0 else ((I 118) ((16 * n4) + 1)))) (((16 * n2) + 4) + 0) (if ((I 117) n4) ≤ 1 then 0 else ((I 118) ((16 * n4) + 1)))) (((16 * n2) + 0) + 2) (if ((I 117) n4) ≤ 2 then 0 else ((I 118) ((16 * n4) + 2)))) (((16 * n2) + 8) + 0) (if ((I 117) n4) ≤ 2 then 0 else ((I 118) ((16 * n4) + 2)))) (((16 * n2) + 0) + 3) (if ((I 117) n4) ≤ 3 then 0 else ((I 118) ((16 * n4) + 3)))) (((16 * n2) + 12) + 0) (if ((I 117) n4) ≤ 3 then 0 else ((I 118) ((16 * n4) + 3)))) (((16 * n2) + 4) + 1) (if ((I 117) n4) ≤ 4 then 0 else ((I 118) ((16 * n4) + 4)))) (((16 * n2) + 4) + 2) (if ((I 117) n4) ≤ 5 then 0 else ((I 118) ((16 * n4) + 5)))) (((16 * n2) + 8) + 1) (if ((I 117) n4) ≤ 5 then 0 else ((I 118) ((16 * n4) + 5)))) (((16 * n2) + 4) + 3) (if ((I 117) n4) ≤ 6 then 0 else ((I 118) ((16 * n4) + 6)))) (((16 * n2) + 12) + 1) (if ((I 117) n4) ≤ 6 then 0 else ((I 118) ((16 * n4) + 6)))) (((16 * n2) + 8) + 2) (if ((I 117) n4) ≤ 7 then 0 else ((I 118) ((16 * n4) + 7)))))) dX8_ground_204 rfl hs_123 rfl (by omega) (Nat.le_of_ble_eq_true rfl) (ma_up_up _ _ _ _) ?_
              refine ev_aload_n (pc' := 206) (i := 0) dX8_ground_205 rfl rfl rfl ?_
              refine ev_getR (pc' := 209) fo_X8_37 dX8_ground_206 rfl hs_115 rfl rf_115_13 ?_
              refine ev_bipush (pc' := 211) (v := 16) dX8_ground_209 rfl kb_16 ?_
              refine ev_iload_n (pc' := 212) (i := 1) dX8_ground_211 rfl rfl rfl ?_
              refine ev_imul (pc' := 213) (v := nI (16 * n2)) dX8_ground_212 rfl (pk_mul 16 n2) ?_
              refine ev_iconst (pc' := 214) (v := 4) dX8_ground_213 rfl ki_4 ?_
              refine ev_iload (pc' := 216) dX8_ground_214 rfl rfl ?_
              refine ev_callS (pc' := 219) (rm' := rX8_columnOf) (av := [.int 7]) (rest := [.int 4, .int (nI (16 * n2)), .ref 123]) co_X8_204 cs_X8_columnOf dX8_ground_216 rfl rfl rfl (Nat.le_of_ble_eq_true rfl) ⟨(Nat.le_of_ble_eq_true rfl), (Nat.le_of_ble_eq_true rfl)⟩ ⟨(Nat.le_of_ble_eq_true rfl), (Nat.le_of_ble_eq_true rfl)⟩ ?_
              refine u_X8_columnOf 7 2 (by decide) ?_
              refine ev_imul (pc' := 220) (v := 8) dX8_ground_219 rfl (by decide) ?_
              refine ev_iadd (pc' := 221) (v := nI ((16 * n2) + 8)) dX8_ground_220 rfl (nI_add (16 * n2) 8) ?_
              refine ev_iload (pc' := 223) dX8_ground_221 rfl rfl ?_
              refine ev_callS (pc' := 226) (rm' := rX8_rowOf) (av := [.int 7]) (rest := [.int (nI ((16 * n2) + 8)), .ref 123]) co_X8_201 cs_X8_rowOf dX8_ground_223 rfl rfl rfl (Nat.le_of_ble_eq_true rfl) ⟨(Nat.le_of_ble_eq_true rfl), (Nat.le_of_ble_eq_true rfl)⟩ ⟨(Nat.le_of_ble_eq_true rfl), (Nat.le_of_ble_eq_true rfl)⟩ ?_
              refine u_X8_rowOf 7 2 (by decide) ?_
              refine ev_iadd (pc' := 227) (v := nI (((16 * n2) + 8) + 2)) dX8_ground_226 rfl (nI_add ((16 * n2) + 8) 2) ?_
              refine ev_iload (pc' := 229) dX8_ground_227 rfl rfl ?_
              refine ev_iast (pc' := 230) (j := ((16 * n2) + 8) + 2) (I' := (ma_up I 123 (ma_up (ma_up (ma_up (ma_up (ma_up (ma_up (ma_up (ma_up (ma_up (ma_up (ma_up (ma_up (ma_up (I 123) (((16 * n2) + 0) + 0) (if ((I 117) n4) ≤ 0 then 0 else ((I 118) ((16 * n4) + 0)))) (((16 * n2) + 0) + 1) (if ((I 117) n4) ≤ 1 then 0 else ((I 118) ((16 * n4) + 1)))) (((16 * n2) + 4) + 0) (if ((I 117) n4) ≤ 1 then 0 else ((I 118) ((16 * n4) + 1)))) (((16 * n2) + 0) + 2) (if ((I 117) n4) ≤ 2 then 0 else ((I 118) ((16 * n4) + 2)))) (((16 * n2) + 8) + 0) (if ((I 117) n4) ≤ 2 then 0 else ((I 118) ((16 * n4) + 2)))) (((16 * n2) + 0) + 3) (if ((I 117) n4) ≤ 3 then 0 else ((I 118) ((16 * n4) + 3)))) (((16 * n2) + 12) + 0) (if ((I 117) n4) ≤ 3 then 0 else ((I 118) ((16 * n4) + 3)))) (((16 * n2) + 4) + 1) (if ((I 117) n4) ≤ 4 then 0 else ((I 118) ((16 * n4) + 4)))) (((16 * n2) + 4) + 2) (if ((I 117) n4) ≤ 5 then 0 else ((I 118) ((16 * n4) + 5)))) (((16 * n2) + 8) + 1) (if ((I 117) n4) ≤ 5 then 0 else ((I 118) ((16 * n4) + 5)))) (((16 * n2) + 4) + 3) (if ((I 117) n4) ≤ 6 then 0 else ((I 118) ((16 * n4) + 6)))) (((16 * n2) + 12) + 1) (if ((I 117) n4) ≤ 6 then 0 else ((I 118) ((16 * n4) + 6)))) (((16 * n2) + 8) + 2) (if ((I 117) n4) ≤ 7 then 0 else ((I 118) ((16 * n4) + 7)))))) dX8_ground_229 rfl hs_123 rfl (by omega) (Nat.le_of_ble_eq_true rfl) ((congrArg (ma_up _ 123) (ma_up_up _ _ _ _)).trans (ma_up_up _ _ _ _)) ?_
              refine ev_iinc (pc' := 233) (v := 8) (lv' := [some (.ref 115), some (.int (nI n2)), some (.int (nI n4)), some (.int 0), some (.int x16), some (.int y17), some (.int 8), some (.int (if ((I 117) n4) ≤ 7 then 0 else ((I 118) ((16 * n4) + 7))))]) dX8_ground_230 rfl rfl (by decide) (Nat.le_of_ble_eq_true rfl) rfl rfl ?_
              refine ev_goto (tgt := 144) dX8_ground_233 rfl ?_
              refine ev_iload (pc' := 146) dX8_ground_144 rfl rfl ?_
              refine ev_bipush (pc' := 148) (v := 10) dX8_ground_146 rfl kb_10 ?_
              refine ev_icmp_ge (tgt := 236) (pc' := 151) dX8_ground_148 rfl rfl (fun h => absurd h (by decide)) (fun _ => ?_)
              refine ev_iload (pc' := 153) dX8_ground_151 rfl rfl ?_
              refine ev_aload_n (pc' := 154) (i := 0) dX8_ground_153 rfl rfl rfl ?_
              refine ev_getR (pc' := 157) fo_X8_17 dX8_ground_154 rfl hs_115 rfl rf_115_5 ?_
              refine ev_iload_n (pc' := 158) (i := 2) dX8_ground_157 rfl rfl rfl ?_
              refine ev_iald (pc' := 159) (j := n4) (v := (I 117) n4) dX8_ground_158 rfl hs_117 rfl (by omega) (Nat.le_of_ble_eq_true rfl) rfl ?_
              suffices K57 : ∀ x56 : Int32, x56 = (if ((I 117) n4) ≤ 8 then 0 else ((I 118) ((16 * n4) + 8))) → EV g yX8_ground cX8_ground 8 (some .int) rX8_ground (ma_ZM g rX8_ground Post) 178 [some (.ref 115), some (.int (nI n2)), some (.int (nI n4)), some (.int 0), some (.int x16), some (.int y17), some (.int 8), some (.int (if ((I 117) n4) ≤ 7 then 0 else ((I 118) ((16 * n4) + 7))))] [.int x56] HS (ma_up I 123 (ma_up (ma_up (ma_up (ma_up (ma_up (ma_up (ma_up (ma_up (ma_up (ma_up (ma_up (ma_up (ma_up (I 123) (((16 * n2) + 0) + 0) (if ((I 117) n4) ≤ 0 then 0 else ((I 118) ((16 * n4) + 0)))) (((16 * n2) + 0) + 1) (if ((I 117) n4) ≤ 1 then 0 else ((I 118) ((16 * n4) + 1)))) (((16 * n2) + 4) + 0) (if ((I 117) n4) ≤ 1 then 0 else ((I 118) ((16 * n4) + 1)))) (((16 * n2) + 0) + 2) (if ((I 117) n4) ≤ 2 then 0 else ((I 118) ((16 * n4) + 2)))) (((16 * n2) + 8) + 0) (if ((I 117) n4) ≤ 2 then 0 else ((I 118) ((16 * n4) + 2)))) (((16 * n2) + 0) + 3) (if ((I 117) n4) ≤ 3 then 0 else ((I 118) ((16 * n4) + 3)))) (((16 * n2) + 12) + 0) (if ((I 117) n4) ≤ 3 then 0 else ((I 118) ((16 * n4) + 3)))) (((16 * n2) + 4) + 1) (if ((I 117) n4) ≤ 4 then 0 else ((I 118) ((16 * n4) + 4)))) (((16 * n2) + 4) + 2) (if ((I 117) n4) ≤ 5 then 0 else ((I 118) ((16 * n4) + 5)))) (((16 * n2) + 8) + 1) (if ((I 117) n4) ≤ 5 then 0 else ((I 118) ((16 * n4) + 5)))) (((16 * n2) + 4) + 3) (if ((I 117) n4) ≤ 6 then 0 else ((I 118) ((16 * n4) + 6)))) (((16 * n2) + 12) + 1) (if ((I 117) n4) ≤ 6 then 0 else ((I 118) ((16 * n4) + 6)))) (((16 * n2) + 8) + 2) (if ((I 117) n4) ≤ 7 then 0 else ((I 118) ((16 * n4) + 7))))) L RF 146 0 0 by
                refine ev_icmp_ge (tgt := 177) (pc' := 162) dX8_ground_159 rfl rfl (fun c58 => ?_) (fun c58 => ?_)
                · refine ev_iconst (pc' := 178) (v := 0) dX8_ground_177 rfl ki_0 ?_
                  exact K57 _ (by rw [if_pos c58])
                · refine ev_aload_n (pc' := 163) (i := 0) dX8_ground_162 rfl rfl rfl ?_
                  refine ev_getR (pc' := 166) fo_X8_20 dX8_ground_163 rfl hs_115 rfl rf_115_6 ?_
                  refine ev_bipush (pc' := 168) (v := 16) dX8_ground_166 rfl kb_16 ?_
                  refine ev_iload_n (pc' := 169) (i := 2) dX8_ground_168 rfl rfl rfl ?_
                  refine ev_imul (pc' := 170) (v := nI (16 * n4)) dX8_ground_169 rfl (pk_mul 16 n4) ?_
                  refine ev_iload (pc' := 172) dX8_ground_170 rfl rfl ?_
                  refine ev_iadd (pc' := 173) (v := nI ((16 * n4) + 8)) dX8_ground_172 rfl (nI_add (16 * n4) 8) ?_
                  refine ev_iald (pc' := 174) (j := (16 * n4) + 8) (v := (I 118) ((16 * n4) + 8)) dX8_ground_173 rfl hs_118 rfl (by omega) (Nat.le_of_ble_eq_true rfl) rfl ?_
                  refine ev_goto (tgt := 178) dX8_ground_174 rfl ?_
                  exact K57 _ (by rw [if_neg c58])
              intro x56 hx56
              subst hx56
              refine ev_istore (pc' := 180) (lv' := [some (.ref 115), some (.int (nI n2)), some (.int (nI n4)), some (.int 0), some (.int x16), some (.int y17), some (.int 8), some (.int (if ((I 117) n4) ≤ 8 then 0 else ((I 118) ((16 * n4) + 8))))]) dX8_ground_178 rfl (Nat.le_of_ble_eq_true rfl) rfl rfl ?_
              refine ev_aload_n (pc' := 181) (i := 0) dX8_ground_180 rfl rfl rfl ?_
              refine ev_getR (pc' := 184) fo_X8_37 dX8_ground_181 rfl hs_115 rfl rf_115_13 ?_
              refine ev_bipush (pc' := 186) (v := 16) dX8_ground_184 rfl kb_16 ?_
              refine ev_iload_n (pc' := 187) (i := 1) dX8_ground_186 rfl rfl rfl ?_
              refine ev_imul (pc' := 188) (v := nI (16 * n2)) dX8_ground_187 rfl (pk_mul 16 n2) ?_
              refine ev_iconst (pc' := 189) (v := 4) dX8_ground_188 rfl ki_4 ?_
              refine ev_iload (pc' := 191) dX8_ground_189 rfl rfl ?_
              refine ev_callS (pc' := 194) (rm' := rX8_rowOf) (av := [.int 8]) (rest := [.int 4, .int (nI (16 * n2)), .ref 123]) co_X8_201 cs_X8_rowOf dX8_ground_191 rfl rfl rfl (Nat.le_of_ble_eq_true rfl) ⟨(Nat.le_of_ble_eq_true rfl), (Nat.le_of_ble_eq_true rfl)⟩ ⟨(Nat.le_of_ble_eq_true rfl), (Nat.le_of_ble_eq_true rfl)⟩ ?_
              refine u_X8_rowOf 8 2 (by decide) ?_
              refine ev_imul (pc' := 195) (v := 8) dX8_ground_194 rfl (by decide) ?_
              refine ev_iadd (pc' := 196) (v := nI ((16 * n2) + 8)) dX8_ground_195 rfl (nI_add (16 * n2) 8) ?_
              refine ev_iload (pc' := 198) dX8_ground_196 rfl rfl ?_
              refine ev_callS (pc' := 201) (rm' := rX8_columnOf) (av := [.int 8]) (rest := [.int (nI ((16 * n2) + 8)), .ref 123]) co_X8_204 cs_X8_columnOf dX8_ground_198 rfl rfl rfl (Nat.le_of_ble_eq_true rfl) ⟨(Nat.le_of_ble_eq_true rfl), (Nat.le_of_ble_eq_true rfl)⟩ ⟨(Nat.le_of_ble_eq_true rfl), (Nat.le_of_ble_eq_true rfl)⟩ ?_
              refine u_X8_columnOf 8 3 (by decide) ?_
              refine ev_iadd (pc' := 202) (v := nI (((16 * n2) + 8) + 3)) dX8_ground_201 rfl (nI_add ((16 * n2) + 8) 3) ?_
              refine ev_iload (pc' := 204) dX8_ground_202 rfl rfl ?_
              refine ev_iast (pc' := 205) (j := ((16 * n2) + 8) + 3) (I' := (ma_up I 123 (ma_up (ma_up (ma_up (ma_up (ma_up (ma_up (ma_up (ma_up (ma_up (ma_up (ma_up (ma_up (ma_up (ma_up (I 123) (((16 * n2) + 0) + 0) (if ((I 117) n4) ≤ 0 then 0 else ((I 118) ((16 * n4) + 0)))) (((16 * n2) + 0) + 1) (if ((I 117) n4) ≤ 1 then 0 else ((I 118) ((16 * n4) + 1)))) (((16 * n2) + 4) + 0) (if ((I 117) n4) ≤ 1 then 0 else ((I 118) ((16 * n4) + 1)))) (((16 * n2) + 0) + 2) (if ((I 117) n4) ≤ 2 then 0 else ((I 118) ((16 * n4) + 2)))) (((16 * n2) + 8) + 0) (if ((I 117) n4) ≤ 2 then 0 else ((I 118) ((16 * n4) + 2)))) (((16 * n2) + 0) + 3) (if ((I 117) n4) ≤ 3 then 0 else ((I 118) ((16 * n4) + 3)))) (((16 * n2) + 12) + 0) (if ((I 117) n4) ≤ 3 then 0 else ((I 118) ((16 * n4) + 3)))) (((16 * n2) + 4) + 1) (if ((I 117) n4) ≤ 4 then 0 else ((I 118) ((16 * n4) + 4)))) (((16 * n2) + 4) + 2) (if ((I 117) n4) ≤ 5 then 0 else ((I 118) ((16 * n4) + 5)))) (((16 * n2) + 8) + 1) (if ((I 117) n4) ≤ 5 then 0 else ((I 118) ((16 * n4) + 5)))) (((16 * n2) + 4) + 3) (if ((I 117) n4) ≤ 6 then 0 else ((I 118) ((16 * n4) + 6)))) (((16 * n2) + 12) + 1) (if ((I 117) n4) ≤ 6 then 0 else ((I 118) ((16 * n4) + 6)))) (((16 * n2) + 8) + 2) (if ((I 117) n4) ≤ 7 then 0 else ((I 118) ((16 * n4) + 7)))) (((16 * n2) + 8) + 3) (if ((I 117) n4) ≤ 8 then 0 else ((I 118) ((16 * n4) + 8)))))) dX8_ground_204 rfl hs_123 rfl (by omega) (Nat.le_of_ble_eq_true rfl) (ma_up_up _ _ _ _) ?_
              refine ev_aload_n (pc' := 206) (i := 0) dX8_ground_205 rfl rfl rfl ?_
              refine ev_getR (pc' := 209) fo_X8_37 dX8_ground_206 rfl hs_115 rfl rf_115_13 ?_
              refine ev_bipush (pc' := 211) (v := 16) dX8_ground_209 rfl kb_16 ?_
              refine ev_iload_n (pc' := 212) (i := 1) dX8_ground_211 rfl rfl rfl ?_
              refine ev_imul (pc' := 213) (v := nI (16 * n2)) dX8_ground_212 rfl (pk_mul 16 n2) ?_
              refine ev_iconst (pc' := 214) (v := 4) dX8_ground_213 rfl ki_4 ?_
              refine ev_iload (pc' := 216) dX8_ground_214 rfl rfl ?_
              refine ev_callS (pc' := 219) (rm' := rX8_columnOf) (av := [.int 8]) (rest := [.int 4, .int (nI (16 * n2)), .ref 123]) co_X8_204 cs_X8_columnOf dX8_ground_216 rfl rfl rfl (Nat.le_of_ble_eq_true rfl) ⟨(Nat.le_of_ble_eq_true rfl), (Nat.le_of_ble_eq_true rfl)⟩ ⟨(Nat.le_of_ble_eq_true rfl), (Nat.le_of_ble_eq_true rfl)⟩ ?_
              refine u_X8_columnOf 8 3 (by decide) ?_
              refine ev_imul (pc' := 220) (v := 12) dX8_ground_219 rfl (by decide) ?_
              refine ev_iadd (pc' := 221) (v := nI ((16 * n2) + 12)) dX8_ground_220 rfl (nI_add (16 * n2) 12) ?_
              refine ev_iload (pc' := 223) dX8_ground_221 rfl rfl ?_
              refine ev_callS (pc' := 226) (rm' := rX8_rowOf) (av := [.int 8]) (rest := [.int (nI ((16 * n2) + 12)), .ref 123]) co_X8_201 cs_X8_rowOf dX8_ground_223 rfl rfl rfl (Nat.le_of_ble_eq_true rfl) ⟨(Nat.le_of_ble_eq_true rfl), (Nat.le_of_ble_eq_true rfl)⟩ ⟨(Nat.le_of_ble_eq_true rfl), (Nat.le_of_ble_eq_true rfl)⟩ ?_
              refine u_X8_rowOf 8 2 (by decide) ?_
              refine ev_iadd (pc' := 227) (v := nI (((16 * n2) + 12) + 2)) dX8_ground_226 rfl (nI_add ((16 * n2) + 12) 2) ?_
              refine ev_iload (pc' := 229) dX8_ground_227 rfl rfl ?_
              refine ev_iast (pc' := 230) (j := ((16 * n2) + 12) + 2) (I' := (ma_up I 123 (ma_up (ma_up (ma_up (ma_up (ma_up (ma_up (ma_up (ma_up (ma_up (ma_up (ma_up (ma_up (ma_up (ma_up (ma_up (I 123) (((16 * n2) + 0) + 0) (if ((I 117) n4) ≤ 0 then 0 else ((I 118) ((16 * n4) + 0)))) (((16 * n2) + 0) + 1) (if ((I 117) n4) ≤ 1 then 0 else ((I 118) ((16 * n4) + 1)))) (((16 * n2) + 4) + 0) (if ((I 117) n4) ≤ 1 then 0 else ((I 118) ((16 * n4) + 1)))) (((16 * n2) + 0) + 2) (if ((I 117) n4) ≤ 2 then 0 else ((I 118) ((16 * n4) + 2)))) (((16 * n2) + 8) + 0) (if ((I 117) n4) ≤ 2 then 0 else ((I 118) ((16 * n4) + 2)))) (((16 * n2) + 0) + 3) (if ((I 117) n4) ≤ 3 then 0 else ((I 118) ((16 * n4) + 3)))) (((16 * n2) + 12) + 0) (if ((I 117) n4) ≤ 3 then 0 else ((I 118) ((16 * n4) + 3)))) (((16 * n2) + 4) + 1) (if ((I 117) n4) ≤ 4 then 0 else ((I 118) ((16 * n4) + 4)))) (((16 * n2) + 4) + 2) (if ((I 117) n4) ≤ 5 then 0 else ((I 118) ((16 * n4) + 5)))) (((16 * n2) + 8) + 1) (if ((I 117) n4) ≤ 5 then 0 else ((I 118) ((16 * n4) + 5)))) (((16 * n2) + 4) + 3) (if ((I 117) n4) ≤ 6 then 0 else ((I 118) ((16 * n4) + 6)))) (((16 * n2) + 12) + 1) (if ((I 117) n4) ≤ 6 then 0 else ((I 118) ((16 * n4) + 6)))) (((16 * n2) + 8) + 2) (if ((I 117) n4) ≤ 7 then 0 else ((I 118) ((16 * n4) + 7)))) (((16 * n2) + 8) + 3) (if ((I 117) n4) ≤ 8 then 0 else ((I 118) ((16 * n4) + 8)))) (((16 * n2) + 12) + 2) (if ((I 117) n4) ≤ 8 then 0 else ((I 118) ((16 * n4) + 8)))))) dX8_ground_229 rfl hs_123 rfl (by omega) (Nat.le_of_ble_eq_true rfl) (ma_up_up _ _ _ _) ?_
              refine ev_iinc (pc' := 233) (v := 9) (lv' := [some (.ref 115), some (.int (nI n2)), some (.int (nI n4)), some (.int 0), some (.int x16), some (.int y17), some (.int 9), some (.int (if ((I 117) n4) ≤ 8 then 0 else ((I 118) ((16 * n4) + 8))))]) dX8_ground_230 rfl rfl (by decide) (Nat.le_of_ble_eq_true rfl) rfl rfl ?_
              refine ev_goto (tgt := 144) dX8_ground_233 rfl ?_
              refine ev_iload (pc' := 146) dX8_ground_144 rfl rfl ?_
              refine ev_bipush (pc' := 148) (v := 10) dX8_ground_146 rfl kb_10 ?_
              refine ev_icmp_ge (tgt := 236) (pc' := 151) dX8_ground_148 rfl rfl (fun h => absurd h (by decide)) (fun _ => ?_)
              refine ev_iload (pc' := 153) dX8_ground_151 rfl rfl ?_
              refine ev_aload_n (pc' := 154) (i := 0) dX8_ground_153 rfl rfl rfl ?_
              refine ev_getR (pc' := 157) fo_X8_17 dX8_ground_154 rfl hs_115 rfl rf_115_5 ?_
              refine ev_iload_n (pc' := 158) (i := 2) dX8_ground_157 rfl rfl rfl ?_
              refine ev_iald (pc' := 159) (j := n4) (v := (I 117) n4) dX8_ground_158 rfl hs_117 rfl (by omega) (Nat.le_of_ble_eq_true rfl) rfl ?_
              suffices K61 : ∀ x60 : Int32, x60 = (if ((I 117) n4) ≤ 9 then 0 else ((I 118) ((16 * n4) + 9))) → EV g yX8_ground cX8_ground 8 (some .int) rX8_ground (ma_ZM g rX8_ground Post) 178 [some (.ref 115), some (.int (nI n2)), some (.int (nI n4)), some (.int 0), some (.int x16), some (.int y17), some (.int 9), some (.int (if ((I 117) n4) ≤ 8 then 0 else ((I 118) ((16 * n4) + 8))))] [.int x60] HS (ma_up I 123 (ma_up (ma_up (ma_up (ma_up (ma_up (ma_up (ma_up (ma_up (ma_up (ma_up (ma_up (ma_up (ma_up (ma_up (ma_up (I 123) (((16 * n2) + 0) + 0) (if ((I 117) n4) ≤ 0 then 0 else ((I 118) ((16 * n4) + 0)))) (((16 * n2) + 0) + 1) (if ((I 117) n4) ≤ 1 then 0 else ((I 118) ((16 * n4) + 1)))) (((16 * n2) + 4) + 0) (if ((I 117) n4) ≤ 1 then 0 else ((I 118) ((16 * n4) + 1)))) (((16 * n2) + 0) + 2) (if ((I 117) n4) ≤ 2 then 0 else ((I 118) ((16 * n4) + 2)))) (((16 * n2) + 8) + 0) (if ((I 117) n4) ≤ 2 then 0 else ((I 118) ((16 * n4) + 2)))) (((16 * n2) + 0) + 3) (if ((I 117) n4) ≤ 3 then 0 else ((I 118) ((16 * n4) + 3)))) (((16 * n2) + 12) + 0) (if ((I 117) n4) ≤ 3 then 0 else ((I 118) ((16 * n4) + 3)))) (((16 * n2) + 4) + 1) (if ((I 117) n4) ≤ 4 then 0 else ((I 118) ((16 * n4) + 4)))) (((16 * n2) + 4) + 2) (if ((I 117) n4) ≤ 5 then 0 else ((I 118) ((16 * n4) + 5)))) (((16 * n2) + 8) + 1) (if ((I 117) n4) ≤ 5 then 0 else ((I 118) ((16 * n4) + 5)))) (((16 * n2) + 4) + 3) (if ((I 117) n4) ≤ 6 then 0 else ((I 118) ((16 * n4) + 6)))) (((16 * n2) + 12) + 1) (if ((I 117) n4) ≤ 6 then 0 else ((I 118) ((16 * n4) + 6)))) (((16 * n2) + 8) + 2) (if ((I 117) n4) ≤ 7 then 0 else ((I 118) ((16 * n4) + 7)))) (((16 * n2) + 8) + 3) (if ((I 117) n4) ≤ 8 then 0 else ((I 118) ((16 * n4) + 8)))) (((16 * n2) + 12) + 2) (if ((I 117) n4) ≤ 8 then 0 else ((I 118) ((16 * n4) + 8))))) L RF 146 0 0 by
                refine ev_icmp_ge (tgt := 177) (pc' := 162) dX8_ground_159 rfl rfl (fun c62 => ?_) (fun c62 => ?_)
                · refine ev_iconst (pc' := 178) (v := 0) dX8_ground_177 rfl ki_0 ?_
                  exact K61 _ (by rw [if_pos c62])
                · refine ev_aload_n (pc' := 163) (i := 0) dX8_ground_162 rfl rfl rfl ?_
                  refine ev_getR (pc' := 166) fo_X8_20 dX8_ground_163 rfl hs_115 rfl rf_115_6 ?_
                  refine ev_bipush (pc' := 168) (v := 16) dX8_ground_166 rfl kb_16 ?_
                  refine ev_iload_n (pc' := 169) (i := 2) dX8_ground_168 rfl rfl rfl ?_
                  refine ev_imul (pc' := 170) (v := nI (16 * n4)) dX8_ground_169 rfl (pk_mul 16 n4) ?_
                  refine ev_iload (pc' := 172) dX8_ground_170 rfl rfl ?_
                  refine ev_iadd (pc' := 173) (v := nI ((16 * n4) + 9)) dX8_ground_172 rfl (nI_add (16 * n4) 9) ?_
                  refine ev_iald (pc' := 174) (j := (16 * n4) + 9) (v := (I 118) ((16 * n4) + 9)) dX8_ground_173 rfl hs_118 rfl (by omega) (Nat.le_of_ble_eq_true rfl) rfl ?_
                  refine ev_goto (tgt := 178) dX8_ground_174 rfl ?_
                  exact K61 _ (by rw [if_neg c62])
              intro x60 hx60
              subst hx60
              refine ev_istore (pc' := 180) (lv' := [some (.ref 115), some (.int (nI n2)), some (.int (nI n4)), some (.int 0), some (.int x16), some (.int y17), some (.int 9), some (.int (if ((I 117) n4) ≤ 9 then 0 else ((I 118) ((16 * n4) + 9))))]) dX8_ground_178 rfl (Nat.le_of_ble_eq_true rfl) rfl rfl ?_
              refine ev_aload_n (pc' := 181) (i := 0) dX8_ground_180 rfl rfl rfl ?_
              refine ev_getR (pc' := 184) fo_X8_37 dX8_ground_181 rfl hs_115 rfl rf_115_13 ?_
              refine ev_bipush (pc' := 186) (v := 16) dX8_ground_184 rfl kb_16 ?_
              refine ev_iload_n (pc' := 187) (i := 1) dX8_ground_186 rfl rfl rfl ?_
              refine ev_imul (pc' := 188) (v := nI (16 * n2)) dX8_ground_187 rfl (pk_mul 16 n2) ?_
              refine ev_iconst (pc' := 189) (v := 4) dX8_ground_188 rfl ki_4 ?_
              refine ev_iload (pc' := 191) dX8_ground_189 rfl rfl ?_
              refine ev_callS (pc' := 194) (rm' := rX8_rowOf) (av := [.int 9]) (rest := [.int 4, .int (nI (16 * n2)), .ref 123]) co_X8_201 cs_X8_rowOf dX8_ground_191 rfl rfl rfl (Nat.le_of_ble_eq_true rfl) ⟨(Nat.le_of_ble_eq_true rfl), (Nat.le_of_ble_eq_true rfl)⟩ ⟨(Nat.le_of_ble_eq_true rfl), (Nat.le_of_ble_eq_true rfl)⟩ ?_
              refine u_X8_rowOf 9 3 (by decide) ?_
              refine ev_imul (pc' := 195) (v := 12) dX8_ground_194 rfl (by decide) ?_
              refine ev_iadd (pc' := 196) (v := nI ((16 * n2) + 12)) dX8_ground_195 rfl (nI_add (16 * n2) 12) ?_
              refine ev_iload (pc' := 198) dX8_ground_196 rfl rfl ?_
              refine ev_callS (pc' := 201) (rm' := rX8_columnOf) (av := [.int 9]) (rest := [.int (nI ((16 * n2) + 12)), .ref 123]) co_X8_204 cs_X8_columnOf dX8_ground_198 rfl rfl rfl (Nat.le_of_ble_eq_true rfl) ⟨(Nat.le_of_ble_eq_true rfl), (Nat.le_of_ble_eq_true rfl)⟩ ⟨(Nat.le_of_ble_eq_true rfl), (Nat.le_of_ble_eq_true rfl)⟩ ?_
              refine u_X8_columnOf 9 3 (by decide) ?_
              refine ev_iadd (pc' := 202) (v := nI (((16 * n2) + 12) + 3)) dX8_ground_201 rfl (nI_add ((16 * n2) + 12) 3) ?_
              refine ev_iload (pc' := 204) dX8_ground_202 rfl rfl ?_
              refine ev_iast (pc' := 205) (j := ((16 * n2) + 12) + 3) (I' := (ma_up I 123 (ma_up (ma_up (ma_up (ma_up (ma_up (ma_up (ma_up (ma_up (ma_up (ma_up (ma_up (ma_up (ma_up (ma_up (ma_up (ma_up (I 123) (((16 * n2) + 0) + 0) (if ((I 117) n4) ≤ 0 then 0 else ((I 118) ((16 * n4) + 0)))) (((16 * n2) + 0) + 1) (if ((I 117) n4) ≤ 1 then 0 else ((I 118) ((16 * n4) + 1)))) (((16 * n2) + 4) + 0) (if ((I 117) n4) ≤ 1 then 0 else ((I 118) ((16 * n4) + 1)))) (((16 * n2) + 0) + 2) (if ((I 117) n4) ≤ 2 then 0 else ((I 118) ((16 * n4) + 2)))) (((16 * n2) + 8) + 0) (if ((I 117) n4) ≤ 2 then 0 else ((I 118) ((16 * n4) + 2)))) (((16 * n2) + 0) + 3) (if ((I 117) n4) ≤ 3 then 0 else ((I 118) ((16 * n4) + 3)))) (((16 * n2) + 12) + 0) (if ((I 117) n4) ≤ 3 then 0 else ((I 118) ((16 * n4) + 3)))) (((16 * n2) + 4) + 1) (if ((I 117) n4) ≤ 4 then 0 else ((I 118) ((16 * n4) + 4)))) (((16 * n2) + 4) + 2) (if ((I 117) n4) ≤ 5 then 0 else ((I 118) ((16 * n4) + 5)))) (((16 * n2) + 8) + 1) (if ((I 117) n4) ≤ 5 then 0 else ((I 118) ((16 * n4) + 5)))) (((16 * n2) + 4) + 3) (if ((I 117) n4) ≤ 6 then 0 else ((I 118) ((16 * n4) + 6)))) (((16 * n2) + 12) + 1) (if ((I 117) n4) ≤ 6 then 0 else ((I 118) ((16 * n4) + 6)))) (((16 * n2) + 8) + 2) (if ((I 117) n4) ≤ 7 then 0 else ((I 118) ((16 * n4) + 7)))) (((16 * n2) + 8) + 3) (if ((I 117) n4) ≤ 8 then 0 else ((I 118) ((16 * n4) + 8)))) (((16 * n2) + 12) + 2) (if ((I 117) n4) ≤ 8 then 0 else ((I 118) ((16 * n4) + 8)))) (((16 * n2) + 12) + 3) (if ((I 117) n4) ≤ 9 then 0 else ((I 118) ((16 * n4) + 9)))))) dX8_ground_204 rfl hs_123 rfl (by omega) (Nat.le_of_ble_eq_true rfl) (ma_up_up _ _ _ _) ?_
              refine ev_aload_n (pc' := 206) (i := 0) dX8_ground_205 rfl rfl rfl ?_
              refine ev_getR (pc' := 209) fo_X8_37 dX8_ground_206 rfl hs_115 rfl rf_115_13 ?_
              refine ev_bipush (pc' := 211) (v := 16) dX8_ground_209 rfl kb_16 ?_
              refine ev_iload_n (pc' := 212) (i := 1) dX8_ground_211 rfl rfl rfl ?_
              refine ev_imul (pc' := 213) (v := nI (16 * n2)) dX8_ground_212 rfl (pk_mul 16 n2) ?_
              refine ev_iconst (pc' := 214) (v := 4) dX8_ground_213 rfl ki_4 ?_
              refine ev_iload (pc' := 216) dX8_ground_214 rfl rfl ?_
              refine ev_callS (pc' := 219) (rm' := rX8_columnOf) (av := [.int 9]) (rest := [.int 4, .int (nI (16 * n2)), .ref 123]) co_X8_204 cs_X8_columnOf dX8_ground_216 rfl rfl rfl (Nat.le_of_ble_eq_true rfl) ⟨(Nat.le_of_ble_eq_true rfl), (Nat.le_of_ble_eq_true rfl)⟩ ⟨(Nat.le_of_ble_eq_true rfl), (Nat.le_of_ble_eq_true rfl)⟩ ?_
              refine u_X8_columnOf 9 3 (by decide) ?_
              refine ev_imul (pc' := 220) (v := 12) dX8_ground_219 rfl (by decide) ?_
              refine ev_iadd (pc' := 221) (v := nI ((16 * n2) + 12)) dX8_ground_220 rfl (nI_add (16 * n2) 12) ?_
              refine ev_iload (pc' := 223) dX8_ground_221 rfl rfl ?_
              refine ev_callS (pc' := 226) (rm' := rX8_rowOf) (av := [.int 9]) (rest := [.int (nI ((16 * n2) + 12)), .ref 123]) co_X8_201 cs_X8_rowOf dX8_ground_223 rfl rfl rfl (Nat.le_of_ble_eq_true rfl) ⟨(Nat.le_of_ble_eq_true rfl), (Nat.le_of_ble_eq_true rfl)⟩ ⟨(Nat.le_of_ble_eq_true rfl), (Nat.le_of_ble_eq_true rfl)⟩ ?_
              refine u_X8_rowOf 9 3 (by decide) ?_
              refine ev_iadd (pc' := 227) (v := nI (((16 * n2) + 12) + 3)) dX8_ground_226 rfl (nI_add ((16 * n2) + 12) 3) ?_
              refine ev_iload (pc' := 229) dX8_ground_227 rfl rfl ?_
              refine ev_iast (pc' := 230) (j := ((16 * n2) + 12) + 3) (I' := (ma_up I 123 (ma_up (ma_up (ma_up (ma_up (ma_up (ma_up (ma_up (ma_up (ma_up (ma_up (ma_up (ma_up (ma_up (ma_up (ma_up (ma_up (I 123) (((16 * n2) + 0) + 0) (if ((I 117) n4) ≤ 0 then 0 else ((I 118) ((16 * n4) + 0)))) (((16 * n2) + 0) + 1) (if ((I 117) n4) ≤ 1 then 0 else ((I 118) ((16 * n4) + 1)))) (((16 * n2) + 4) + 0) (if ((I 117) n4) ≤ 1 then 0 else ((I 118) ((16 * n4) + 1)))) (((16 * n2) + 0) + 2) (if ((I 117) n4) ≤ 2 then 0 else ((I 118) ((16 * n4) + 2)))) (((16 * n2) + 8) + 0) (if ((I 117) n4) ≤ 2 then 0 else ((I 118) ((16 * n4) + 2)))) (((16 * n2) + 0) + 3) (if ((I 117) n4) ≤ 3 then 0 else ((I 118) ((16 * n4) + 3)))) (((16 * n2) + 12) + 0) (if ((I 117) n4) ≤ 3 then 0 else ((I 118) ((16 * n4) + 3)))) (((16 * n2) + 4) + 1) (if ((I 117) n4) ≤ 4 then 0 else ((I 118) ((16 * n4) + 4)))) (((16 * n2) + 4) + 2) (if ((I 117) n4) ≤ 5 then 0 else ((I 118) ((16 * n4) + 5)))) (((16 * n2) + 8) + 1) (if ((I 117) n4) ≤ 5 then 0 else ((I 118) ((16 * n4) + 5)))) (((16 * n2) + 4) + 3) (if ((I 117) n4) ≤ 6 then 0 else ((I 118) ((16 * n4) + 6)))) (((16 * n2) + 12) + 1) (if ((I 117) n4) ≤ 6 then 0 else ((I 118) ((16 * n4) + 6)))) (((16 * n2) + 8) + 2) (if ((I 117) n4) ≤ 7 then 0 else ((I 118) ((16 * n4) + 7)))) (((16 * n2) + 8) + 3) (if ((I 117) n4) ≤ 8 then 0 else ((I 118) ((16 * n4) + 8)))) (((16 * n2) + 12) + 2) (if ((I 117) n4) ≤ 8 then 0 else ((I 118) ((16 * n4) + 8)))) (((16 * n2) + 12) + 3) (if ((I 117) n4) ≤ 9 then 0 else ((I 118) ((16 * n4) + 9)))))) dX8_ground_229 rfl hs_123 rfl (by omega) (Nat.le_of_ble_eq_true rfl) ((congrArg (ma_up _ 123) (ma_up_up _ _ _ _)).trans (ma_up_up _ _ _ _)) ?_
              refine ev_iinc (pc' := 233) (v := 10) (lv' := [some (.ref 115), some (.int (nI n2)), some (.int (nI n4)), some (.int 0), some (.int x16), some (.int y17), some (.int 10), some (.int (if ((I 117) n4) ≤ 9 then 0 else ((I 118) ((16 * n4) + 9))))]) dX8_ground_230 rfl rfl (by decide) (Nat.le_of_ble_eq_true rfl) rfl rfl ?_
              refine ev_goto (tgt := 144) dX8_ground_233 rfl ?_
              refine ev_iload (pc' := 146) dX8_ground_144 rfl rfl ?_
              refine ev_bipush (pc' := 148) (v := 10) dX8_ground_146 rfl kb_10 ?_
              refine ev_icmp_ge (tgt := 236) (pc' := 151) dX8_ground_148 rfl rfl (fun _ => ?_) (fun h => absurd (by decide) h)
              refine ev_aload_n (pc' := 237) (i := 0) dX8_ground_236 rfl rfl rfl ?_
              refine ev_getR (pc' := 240) fo_X8_33 dX8_ground_237 rfl hs_115 rfl rf_115_12 ?_
              refine ev_iload_n (pc' := 241) (i := 1) dX8_ground_240 rfl rfl rfl ?_
              refine ev_iconst (pc' := 242) (v := 1) dX8_ground_241 rfl ki_1 ?_
              refine ev_zast (pc' := 243) (j := n2) (I' := (ma_up (ma_up I 123 (ma_up (ma_up (ma_up (ma_up (ma_up (ma_up (ma_up (ma_up (ma_up (ma_up (ma_up (ma_up (ma_up (ma_up (ma_up (ma_up (I 123) (((16 * n2) + 0) + 0) (if ((I 117) n4) ≤ 0 then 0 else ((I 118) ((16 * n4) + 0)))) (((16 * n2) + 0) + 1) (if ((I 117) n4) ≤ 1 then 0 else ((I 118) ((16 * n4) + 1)))) (((16 * n2) + 4) + 0) (if ((I 117) n4) ≤ 1 then 0 else ((I 118) ((16 * n4) + 1)))) (((16 * n2) + 0) + 2) (if ((I 117) n4) ≤ 2 then 0 else ((I 118) ((16 * n4) + 2)))) (((16 * n2) + 8) + 0) (if ((I 117) n4) ≤ 2 then 0 else ((I 118) ((16 * n4) + 2)))) (((16 * n2) + 0) + 3) (if ((I 117) n4) ≤ 3 then 0 else ((I 118) ((16 * n4) + 3)))) (((16 * n2) + 12) + 0) (if ((I 117) n4) ≤ 3 then 0 else ((I 118) ((16 * n4) + 3)))) (((16 * n2) + 4) + 1) (if ((I 117) n4) ≤ 4 then 0 else ((I 118) ((16 * n4) + 4)))) (((16 * n2) + 4) + 2) (if ((I 117) n4) ≤ 5 then 0 else ((I 118) ((16 * n4) + 5)))) (((16 * n2) + 8) + 1) (if ((I 117) n4) ≤ 5 then 0 else ((I 118) ((16 * n4) + 5)))) (((16 * n2) + 4) + 3) (if ((I 117) n4) ≤ 6 then 0 else ((I 118) ((16 * n4) + 6)))) (((16 * n2) + 12) + 1) (if ((I 117) n4) ≤ 6 then 0 else ((I 118) ((16 * n4) + 6)))) (((16 * n2) + 8) + 2) (if ((I 117) n4) ≤ 7 then 0 else ((I 118) ((16 * n4) + 7)))) (((16 * n2) + 8) + 3) (if ((I 117) n4) ≤ 8 then 0 else ((I 118) ((16 * n4) + 8)))) (((16 * n2) + 12) + 2) (if ((I 117) n4) ≤ 8 then 0 else ((I 118) ((16 * n4) + 8)))) (((16 * n2) + 12) + 3) (if ((I 117) n4) ≤ 9 then 0 else ((I 118) ((16 * n4) + 9))))) 122 (ma_up (I 122) n2 1))) dX8_ground_242 rfl hs_122 rfl (by omega) (Nat.le_of_ble_eq_true rfl) rfl rfl ?_
              refine ev_aload_n (pc' := 244) (i := 0) dX8_ground_243 rfl rfl rfl ?_
              refine ev_iload_n (pc' := 245) (i := 1) dX8_ground_244 rfl rfl rfl ?_
              refine ev_callV (pc' := 248) (rm' := rX8_setFacts) (b := 115) (av := [.int (nI n2)]) (rest := []) co_X8_207 ci_X8_setFacts cv_X8_setFacts dX8_ground_245 rfl hs_115 hb_X8 rfl rfl (Nat.le_of_ble_eq_true rfl) ⟨(Nat.le_of_ble_eq_true rfl), (Nat.le_of_ble_eq_true rfl)⟩ ⟨(Nat.le_of_ble_eq_true rfl), (Nat.le_of_ble_eq_true rfl)⟩ ?_
              refine ct_memI (fun I63 hI63 => ?_)
              refine f_X8_setFacts n2 (by omega) (fun r64 J65 K66 f67 f68 f69 f70 f71 => ?_)
              refine ev_iret dX8_ground_248 rfl rfl ⟨Nat.le_refl _, Nat.le_refl _⟩ ?_
              exact k3 n2 hn2 rfl n4 hn4 rfl h6 h8 x16 y17 hv20 c21 c22 I63 hI63 r64 J65 K66 f67 f68 f69 f70 f71
            · refine ev_aload_n (pc' := 127) (i := 0) dX8_ground_126 rfl rfl rfl ?_
              refine ev_iload (pc' := 129) dX8_ground_127 rfl rfl ?_
              refine ev_if_eq (tgt := 136) (pc' := 132) dX8_ground_129 rfl rfl (fun h => absurd h c21) (fun _ => ?_)
              refine ev_iconst (pc' := 133) (v := 4) dX8_ground_132 rfl ki_4 ?_
              refine ev_goto (tgt := 137) dX8_ground_133 rfl ?_
              refine ev_callV (pc' := 140) (rm' := rX8_meets) (b := 115) (av := [.int 4]) (rest := []) co_X8_141 ci_X8_meets cv_X8_meets dX8_ground_137 rfl hs_115 hb_X8 rfl rfl (Nat.le_of_ble_eq_true rfl) ⟨(Nat.le_of_ble_eq_true rfl), (Nat.le_of_ble_eq_true rfl)⟩ ⟨(Nat.le_of_ble_eq_true rfl), (Nat.le_of_ble_eq_true rfl)⟩ ?_
              refine t_X8_meets 4 (by omega) ?_
              refine ev_mMt 4 ?_
              refine ev_iret dX8_ground_140 rfl rfl ⟨Nat.le_refl _, Nat.le_refl _⟩ ?_
              exact k4 n2 hn2 rfl n4 hn4 rfl h6 h8 x16 y17 hv20 c21 c22
        | succ d15 ih =>
          intro i18 x16 y17   hi19 hv20
          refine ev_iload (pc' := 39) dX8_ground_37 rfl rfl ?_
          refine ev_bipush (pc' := 41) (v := 10) dX8_ground_39 rfl kb_10 ?_
          refine ev_icmp_ge (tgt := 116) (pc' := 44) dX8_ground_41 rfl rfl (fun h => absurd h (nx_nle (a := 10) (b := i18) (by omega) (by omega))) (fun _ => ?_)
          refine ev_iload (pc' := 46) dX8_ground_44 rfl rfl ?_
          refine ev_aload_n (pc' := 47) (i := 0) dX8_ground_46 rfl rfl rfl ?_
          refine ev_getR (pc' := 50) fo_X8_17 dX8_ground_47 rfl hs_115 rfl rf_115_5 ?_
          refine ev_iload_n (pc' := 51) (i := 2) dX8_ground_50 rfl rfl rfl ?_
          refine ev_iald (pc' := 52) (j := n4) (v := (I 117) n4) dX8_ground_51 rfl hs_117 rfl (by omega) (Nat.le_of_ble_eq_true rfl) rfl ?_
          suffices K74 : ∀ x73 : Int32, x73 = (if ((I 117) n4) ≤ (nI i18) then 0 else ((I 118) ((16 * n4) + i18))) → EV g yX8_ground cX8_ground 8 (some .int) rX8_ground (ma_ZM g rX8_ground Post) 71 [some (.ref 115), some (.int (nI n2)), some (.int (nI n4)), some (.int 0), some (.int x16), some (.int y17), some (.int (nI i18)), none] [.int x73] HS I L RF 146 0 0 by
            refine ev_icmp_ge (tgt := 70) (pc' := 55) dX8_ground_52 rfl rfl (fun c75 => ?_) (fun c75 => ?_)
            · refine ev_iconst (pc' := 71) (v := 0) dX8_ground_70 rfl ki_0 ?_
              exact K74 _ (by rw [if_pos c75])
            · refine ev_aload_n (pc' := 56) (i := 0) dX8_ground_55 rfl rfl rfl ?_
              refine ev_getR (pc' := 59) fo_X8_20 dX8_ground_56 rfl hs_115 rfl rf_115_6 ?_
              refine ev_bipush (pc' := 61) (v := 16) dX8_ground_59 rfl kb_16 ?_
              refine ev_iload_n (pc' := 62) (i := 2) dX8_ground_61 rfl rfl rfl ?_
              refine ev_imul (pc' := 63) (v := nI (16 * n4)) dX8_ground_62 rfl (pk_mul 16 n4) ?_
              refine ev_iload (pc' := 65) dX8_ground_63 rfl rfl ?_
              refine ev_iadd (pc' := 66) (v := nI ((16 * n4) + i18)) dX8_ground_65 rfl (nI_add (16 * n4) i18) ?_
              refine ev_iald (pc' := 67) (j := (16 * n4) + i18) (v := (I 118) ((16 * n4) + i18)) dX8_ground_66 rfl hs_118 rfl (by omega) (Nat.le_of_ble_eq_true rfl) rfl ?_
              refine ev_goto (tgt := 71) dX8_ground_67 rfl ?_
              exact K74 _ (by rw [if_neg c75])
          intro x73 hx73
          subst hx73
          refine ev_istore (pc' := 73) (lv' := [some (.ref 115), some (.int (nI n2)), some (.int (nI n4)), some (.int 0), some (.int x16), some (.int y17), some (.int (nI i18)), some (.int (if ((I 117) n4) ≤ (nI i18) then 0 else ((I 118) ((16 * n4) + i18))))]) dX8_ground_71 rfl (Nat.le_of_ble_eq_true rfl) rfl rfl ?_
          refine ev_iload (pc' := 75) dX8_ground_73 rfl rfl ?_
          refine ev_if_eq (tgt := 90) (pc' := 78) dX8_ground_75 rfl rfl (fun c76 => ?_) (fun c76 => ?_)
          · refine ev_iconst (pc' := 91) (v := 0) dX8_ground_90 rfl ki_0 ?_
            refine ev_istore (pc' := 93) (lv' := [some (.ref 115), some (.int (nI n2)), some (.int (nI n4)), some (.int 0), some (.int 0), some (.int y17), some (.int (nI i18)), some (.int (if ((I 117) n4) ≤ (nI i18) then 0 else ((I 118) ((16 * n4) + i18))))]) dX8_ground_91 rfl (Nat.le_of_ble_eq_true rfl) rfl rfl ?_
            refine ev_iload (pc' := 95) dX8_ground_93 rfl rfl ?_
            suffices K79 : ∀ x78 : Int32, x78 = (if (¬ y17 = 0) ∧ ((if ((I 117) n4) ≤ (nI i18) then 0 else ((I 118) ((16 * n4) + i18))) = 0) then (1 : Int32) else 0) → EV g yX8_ground cX8_ground 8 (some .int) rX8_ground (ma_ZM g rX8_ground Post) 108 [some (.ref 115), some (.int (nI n2)), some (.int (nI n4)), some (.int 0), some (.int 0), some (.int y17), some (.int (nI i18)), some (.int (if ((I 117) n4) ≤ (nI i18) then 0 else ((I 118) ((16 * n4) + i18))))] [.int x78] HS I L RF 146 0 0 by
              refine ev_if_eq (tgt := 107) (pc' := 98) dX8_ground_95 rfl rfl (fun c80 => ?_) (fun c80 => ?_)
              · refine ev_iconst (pc' := 108) (v := 0) dX8_ground_107 rfl ki_0 ?_
                exact K79 _ (if_neg (fun h => (not_not_intro c80) h.1)).symm
              · refine ev_iload (pc' := 100) dX8_ground_98 rfl rfl ?_
                refine ev_if_ne (tgt := 107) (pc' := 103) dX8_ground_100 rfl rfl (fun c81 => ?_) (fun c81 => ?_)
                · refine ev_iconst (pc' := 108) (v := 0) dX8_ground_107 rfl ki_0 ?_
                  exact K79 _ (if_neg (fun h => c81 h.2)).symm
                · refine ev_iconst (pc' := 104) (v := 1) dX8_ground_103 rfl ki_1 ?_
                  refine ev_goto (tgt := 108) dX8_ground_104 rfl ?_
                  exact K79 _ (if_pos (⟨c80, c81⟩)).symm
            intro x78 hx78
            subst hx78
            refine ev_istore (pc' := 110) (lv' := [some (.ref 115), some (.int (nI n2)), some (.int (nI n4)), some (.int 0), some (.int 0), some (.int (if (¬ y17 = 0) ∧ ((if ((I 117) n4) ≤ (nI i18) then 0 else ((I 118) ((16 * n4) + i18))) = 0) then (1 : Int32) else 0)), some (.int (nI i18)), some (.int (if ((I 117) n4) ≤ (nI i18) then 0 else ((I 118) ((16 * n4) + i18))))]) dX8_ground_108 rfl (Nat.le_of_ble_eq_true rfl) rfl rfl ?_
            refine ev_iinc (pc' := 113) (v := nI (i18 + 1)) (lv' := [some (.ref 115), some (.int (nI n2)), some (.int (nI n4)), some (.int 0), some (.int 0), some (.int (if (¬ y17 = 0) ∧ ((if ((I 117) n4) ≤ (nI i18) then 0 else ((I 118) ((16 * n4) + i18))) = 0) then (1 : Int32) else 0)), some (.int (nI (i18 + 1))), some (.int (if ((I 117) n4) ≤ (nI i18) then 0 else ((I 118) ((16 * n4) + i18))))]) dX8_ground_110 rfl rfl (nI_add i18 1) (Nat.le_of_ble_eq_true rfl) rfl rfl ?_
            refine ev_goto (tgt := 37) dX8_ground_113 rfl ?_
            refine ev_lvw (lv' := [some (.ref 115), some (.int (nI n2)), some (.int (nI n4)), some (.int 0), some (.int 0), some (.int (if (¬ y17 = 0) ∧ ((if ((I 117) n4) ≤ (nI i18) then 0 else ((I 118) ((16 * n4) + i18))) = 0) then (1 : Int32) else 0)), some (.int (nI (i18 + 1))), none]) ⟨rfl, ⟨rfl, ⟨rfl, ⟨rfl, ⟨rfl, ⟨rfl, ⟨rfl, trivial⟩⟩⟩⟩⟩⟩⟩ ?_
            exact ih (i18 + 1) _ _ (by omega) (by refine ⟨?_, ?_⟩ <;> first | exact b_at (hv20).1 (by assumption) (by assumption) | exact b_at (hv20).2 (by assumption) (by assumption) | exact b_af (hv20).1 (by assumption) | exact b_af (hv20).2 (by assumption) | exact b_ag (by assumption) | exact b_am (hv20).1 | exact b_am (hv20).2 | exact b_ap (hv20).1 (by assumption) | exact b_ap (hv20).2 (by assumption))
          · refine ev_iload (pc' := 80) dX8_ground_78 rfl rfl ?_
            refine ev_callS (pc' := 83) (rm' := rX8_isSmall) (av := [.int (if ((I 117) n4) ≤ (nI i18) then 0 else ((I 118) ((16 * n4) + i18)))]) (rest := []) co_X8_198 cs_X8_isSmall dX8_ground_80 rfl rfl rfl (Nat.le_of_ble_eq_true rfl) ⟨(Nat.le_of_ble_eq_true rfl), (Nat.le_of_ble_eq_true rfl)⟩ ⟨(Nat.le_of_ble_eq_true rfl), (Nat.le_of_ble_eq_true rfl)⟩ ?_
            refine t_X8_isSmall (if ((I 117) n4) ≤ (nI i18) then 0 else ((I 118) ((16 * n4) + i18)))  ?_
            suffices K84 : ∀ x83 : Int32, x83 = (if (¬ (if ((I 117) n4) ≤ (nI i18) then 0 else ((I 118) ((16 * n4) + i18))) < (-4)) ∧ (¬ 4 < (if ((I 117) n4) ≤ (nI i18) then 0 else ((I 118) ((16 * n4) + i18)))) then (1 : Int32) else 0) → EV g yX8_ground cX8_ground 8 (some .int) rX8_ground (ma_ZM g rX8_ground Post) 91 [some (.ref 115), some (.int (nI n2)), some (.int (nI n4)), some (.int 0), some (.int x16), some (.int y17), some (.int (nI i18)), some (.int (if ((I 117) n4) ≤ (nI i18) then 0 else ((I 118) ((16 * n4) + i18))))] [.int x83] HS I L RF 146 0 0 by
              refine ev_if_eq_b (tgt := 90) (pc' := 86) dX8_ground_83 rfl rfl (fun c85 => ?_) (fun c85 => ?_)
              · refine ev_iconst (pc' := 91) (v := 0) dX8_ground_90 rfl ki_0 ?_
                exact K84 _ (if_neg c85).symm
              · refine ev_iconst (pc' := 87) (v := 1) dX8_ground_86 rfl ki_1 ?_
                refine ev_goto (tgt := 91) dX8_ground_87 rfl ?_
                exact K84 _ (if_pos c85).symm
            intro x83 hx83
            subst hx83
            refine ev_istore (pc' := 93) (lv' := [some (.ref 115), some (.int (nI n2)), some (.int (nI n4)), some (.int 0), some (.int (if (¬ (if ((I 117) n4) ≤ (nI i18) then 0 else ((I 118) ((16 * n4) + i18))) < (-4)) ∧ (¬ 4 < (if ((I 117) n4) ≤ (nI i18) then 0 else ((I 118) ((16 * n4) + i18)))) then (1 : Int32) else 0)), some (.int y17), some (.int (nI i18)), some (.int (if ((I 117) n4) ≤ (nI i18) then 0 else ((I 118) ((16 * n4) + i18))))]) dX8_ground_91 rfl (Nat.le_of_ble_eq_true rfl) rfl rfl ?_
            refine ev_iload (pc' := 95) dX8_ground_93 rfl rfl ?_
            suffices K88 : ∀ x87 : Int32, x87 = (if (¬ y17 = 0) ∧ ((if ((I 117) n4) ≤ (nI i18) then 0 else ((I 118) ((16 * n4) + i18))) = 0) then (1 : Int32) else 0) → EV g yX8_ground cX8_ground 8 (some .int) rX8_ground (ma_ZM g rX8_ground Post) 108 [some (.ref 115), some (.int (nI n2)), some (.int (nI n4)), some (.int 0), some (.int (if (¬ (if ((I 117) n4) ≤ (nI i18) then 0 else ((I 118) ((16 * n4) + i18))) < (-4)) ∧ (¬ 4 < (if ((I 117) n4) ≤ (nI i18) then 0 else ((I 118) ((16 * n4) + i18)))) then (1 : Int32) else 0)), some (.int y17), some (.int (nI i18)), some (.int (if ((I 117) n4) ≤ (nI i18) then 0 else ((I 118) ((16 * n4) + i18))))] [.int x87] HS I L RF 146 0 0 by
              refine ev_if_eq (tgt := 107) (pc' := 98) dX8_ground_95 rfl rfl (fun c89 => ?_) (fun c89 => ?_)
              · refine ev_iconst (pc' := 108) (v := 0) dX8_ground_107 rfl ki_0 ?_
                exact K88 _ (if_neg (fun h => (not_not_intro c89) h.1)).symm
              · refine ev_iload (pc' := 100) dX8_ground_98 rfl rfl ?_
                refine ev_if_ne (tgt := 107) (pc' := 103) dX8_ground_100 rfl rfl (fun c90 => ?_) (fun c90 => ?_)
                · refine ev_iconst (pc' := 108) (v := 0) dX8_ground_107 rfl ki_0 ?_
                  exact K88 _ (if_neg (fun h => c90 h.2)).symm
                · refine ev_iconst (pc' := 104) (v := 1) dX8_ground_103 rfl ki_1 ?_
                  refine ev_goto (tgt := 108) dX8_ground_104 rfl ?_
                  exact K88 _ (if_pos (⟨c89, c90⟩)).symm
            intro x87 hx87
            subst hx87
            refine ev_istore (pc' := 110) (lv' := [some (.ref 115), some (.int (nI n2)), some (.int (nI n4)), some (.int 0), some (.int (if (¬ (if ((I 117) n4) ≤ (nI i18) then 0 else ((I 118) ((16 * n4) + i18))) < (-4)) ∧ (¬ 4 < (if ((I 117) n4) ≤ (nI i18) then 0 else ((I 118) ((16 * n4) + i18)))) then (1 : Int32) else 0)), some (.int (if (¬ y17 = 0) ∧ ((if ((I 117) n4) ≤ (nI i18) then 0 else ((I 118) ((16 * n4) + i18))) = 0) then (1 : Int32) else 0)), some (.int (nI i18)), some (.int (if ((I 117) n4) ≤ (nI i18) then 0 else ((I 118) ((16 * n4) + i18))))]) dX8_ground_108 rfl (Nat.le_of_ble_eq_true rfl) rfl rfl ?_
            refine ev_iinc (pc' := 113) (v := nI (i18 + 1)) (lv' := [some (.ref 115), some (.int (nI n2)), some (.int (nI n4)), some (.int 0), some (.int (if (¬ (if ((I 117) n4) ≤ (nI i18) then 0 else ((I 118) ((16 * n4) + i18))) < (-4)) ∧ (¬ 4 < (if ((I 117) n4) ≤ (nI i18) then 0 else ((I 118) ((16 * n4) + i18)))) then (1 : Int32) else 0)), some (.int (if (¬ y17 = 0) ∧ ((if ((I 117) n4) ≤ (nI i18) then 0 else ((I 118) ((16 * n4) + i18))) = 0) then (1 : Int32) else 0)), some (.int (nI (i18 + 1))), some (.int (if ((I 117) n4) ≤ (nI i18) then 0 else ((I 118) ((16 * n4) + i18))))]) dX8_ground_110 rfl rfl (nI_add i18 1) (Nat.le_of_ble_eq_true rfl) rfl rfl ?_
            refine ev_goto (tgt := 37) dX8_ground_113 rfl ?_
            refine ev_lvw (lv' := [some (.ref 115), some (.int (nI n2)), some (.int (nI n4)), some (.int 0), some (.int (if (¬ (if ((I 117) n4) ≤ (nI i18) then 0 else ((I 118) ((16 * n4) + i18))) < (-4)) ∧ (¬ 4 < (if ((I 117) n4) ≤ (nI i18) then 0 else ((I 118) ((16 * n4) + i18)))) then (1 : Int32) else 0)), some (.int (if (¬ y17 = 0) ∧ ((if ((I 117) n4) ≤ (nI i18) then 0 else ((I 118) ((16 * n4) + i18))) = 0) then (1 : Int32) else 0)), some (.int (nI (i18 + 1))), none]) ⟨rfl, ⟨rfl, ⟨rfl, ⟨rfl, ⟨rfl, ⟨rfl, ⟨rfl, trivial⟩⟩⟩⟩⟩⟩⟩ ?_
            exact ih (i18 + 1) _ _ (by omega) (by refine ⟨?_, ?_⟩ <;> first | exact b_at (hv20).1 (by assumption) (by assumption) | exact b_at (hv20).2 (by assumption) (by assumption) | exact b_af (hv20).1 (by assumption) | exact b_af (hv20).2 (by assumption) | exact b_ag (by assumption) | exact b_am (hv20).1 | exact b_am (hv20).2 | exact b_ap (hv20).1 (by assumption) | exact b_ap (hv20).2 (by assumption))
      · have e11 := nx_inj e11 (by omega) (by omega)
        subst e11
        refine ev_istore_n (pc' := 22) (i := 3) (lv' := [some (.ref 115), some (.int (nI n2)), some (.int (nI n4)), some (.int (-3)), none, none, none, none]) dX8_ground_21 rfl rfl (Nat.le_of_ble_eq_true rfl) rfl rfl ?_
        refine ev_iload_n (pc' := 23) (i := 3) dX8_ground_22 rfl rfl rfl ?_
        refine ev_if_ge (tgt := 28) (pc' := 26) dX8_ground_23 rfl rfl (fun h => absurd h (by decide)) (fun _ => ?_)
        refine ev_iload_n (pc' := 27) (i := 3) dX8_ground_26 rfl rfl rfl ?_
        refine ev_iret dX8_ground_27 rfl rfl ⟨Nat.le_refl _, Nat.le_refl _⟩ ?_
        exact k5 n2 hn2 rfl n4 hn4 rfl h10 h12
      · skip
        refine ev_istore_n (pc' := 22) (i := 3) (lv' := [some (.ref 115), some (.int (nI n2)), some (.int (nI n4)), some (.int (-1)), none, none, none, none]) dX8_ground_21 rfl rfl (Nat.le_of_ble_eq_true rfl) rfl rfl ?_
        refine ev_iload_n (pc' := 23) (i := 3) dX8_ground_22 rfl rfl rfl ?_
        refine ev_if_ge (tgt := 28) (pc' := 26) dX8_ground_23 rfl rfl (fun h => absurd h (by decide)) (fun _ => ?_)
        refine ev_iload_n (pc' := 27) (i := 3) dX8_ground_26 rfl rfl rfl ?_
        refine ev_iret dX8_ground_27 rfl rfl ⟨Nat.le_refl _, Nat.le_refl _⟩ ?_
        exact k6 n2 hn2 rfl n4 hn4 rfl h13
    · refine ev_iconst (pc' := 15) (v := (-1)) dX8_ground_14 rfl ki_m1 ?_
      refine ev_iret dX8_ground_15 rfl rfl ⟨Nat.le_refl _, Nat.le_refl _⟩ ?_
      exact k7 n2 hn2 rfl c3
set_option maxRecDepth 4000 in
theorem t_X8_same {g : ma_G} {Post : ma_P} {I : ma_I} {L : ma_L}  (q : Int32) (r : Int32)  (k1 : (¬ ((¬ q < 0) ∧ (¬ 11 < q))) → Post (some (.int (-1))) HS I L RF 146) (k2 : ∀ j2 : Nat, (j2 < 12) → q = nI j2 → ∀ j5 : Nat, (j5 < 12) → r = nI j5 → (((I 122) j2) = 0) → Post (some (.int (-3))) HS (mMt I 1) L RF 146) (k3 : ∀ j9 : Nat, (j9 < 12) → q = nI j9 → ∀ j12 : Nat, (j12 < 12) → r = nI j12 → (¬ ((I 122) j9) = 0) → (((I 122) j12) = 0) → Post (some (.int (-3))) HS (mMt I 1) L RF 146) (k4 : ∀ j17 : Nat, (j17 < 12) → q = nI j17 → ∀ j20 : Nat, (j20 < 12) → r = nI j20 → (¬ ((I 122) j17) = 0) → (¬ ((I 122) j20) = 0) → Post (some (.int (if ((¬ ((I 124) ((10 * j17) + 1)) = ((I 124) ((10 * j20) + 1))) ∧ ((((I 124) ((10 * j17) + 1)) = ((I 124) ((10 * j20) + 2))) ∧ (((I 124) ((10 * j17) + 2)) = ((I 124) ((10 * j20) + 1))))) ∨ ((((I 124) ((10 * j17) + 1)) = ((I 124) ((10 * j20) + 1))) ∧ ((((I 124) ((10 * j17) + 2)) = ((I 124) ((10 * j20) + 2))) ∨ ((((I 124) ((10 * j17) + 1)) = ((I 124) ((10 * j20) + 2))) ∧ (((I 124) ((10 * j17) + 2)) = ((I 124) ((10 * j20) + 1)))))) then (1 : Int32) else 0))) HS I L RF 146) (k5 : ∀ j25 : Nat, (j25 < 12) → q = nI j25 → (¬ ((¬ r < 0) ∧ (¬ 11 < r))) → Post (some (.int (-1))) HS I L RF 146) : CT g yX8_same cX8_same 8 (some .int) rX8_same [.ref 115, .int q, .int r] Post HS I L RF 146 := by
  refine ct_of (lv := [some (.ref 115), some (.int q), some (.int r), none, none, none, none, none]) (by decide) (Nat.le_of_ble_eq_true rfl) rfl ?_
  refine ev_aload_n (pc' := 1) (i := 0) dX8_same_0 rfl rfl rfl ?_
  refine ev_iload_n (pc' := 2) (i := 1) dX8_same_1 rfl rfl rfl ?_
  refine ev_iload_n (pc' := 3) (i := 2) dX8_same_2 rfl rfl rfl ?_
  refine ev_callV (pc' := 6) (rm' := rX8_askedTwo) (b := 115) (av := [.int q, .int r]) (rest := []) co_X8_227 ci_X8_askedTwo cv_X8_askedTwo dX8_same_3 rfl hs_115 hb_X8 rfl rfl (Nat.le_of_ble_eq_true rfl) ⟨(Nat.le_of_ble_eq_true rfl), (Nat.le_of_ble_eq_true rfl)⟩ ⟨(Nat.le_of_ble_eq_true rfl), (Nat.le_of_ble_eq_true rfl)⟩ ?_
  refine t_X8_askedTwo q r  (fun h1 => ?_) (fun j2 h3 e4 j5 h6 e7 h8 => ?_) (fun j9 h10 e11 j12 h13 e14 h15 h16 => ?_) (fun j17 h18 e19 j20 h21 e22 h23 h24 => ?_) (fun j25 h26 e27 h28 => ?_)
  · skip
    refine ev_istore_n (pc' := 7) (i := 3) (lv' := [some (.ref 115), some (.int q), some (.int r), some (.int (-1)), none, none, none, none]) dX8_same_6 rfl rfl (Nat.le_of_ble_eq_true rfl) rfl rfl ?_
    refine ev_iload_n (pc' := 8) (i := 3) dX8_same_7 rfl rfl rfl ?_
    refine ev_if_ge (tgt := 13) (pc' := 11) dX8_same_8 rfl rfl (fun h => absurd h (by decide)) (fun _ => ?_)
    refine ev_iload_n (pc' := 12) (i := 3) dX8_same_11 rfl rfl rfl ?_
    refine ev_iret dX8_same_12 rfl rfl ⟨Nat.le_refl _, Nat.le_refl _⟩ ?_
    exact k1 h1
  · subst e4
    subst e7
    refine ev_istore_n (pc' := 7) (i := 3) (lv' := [some (.ref 115), some (.int (nI j2)), some (.int (nI j5)), some (.int (-3)), none, none, none, none]) dX8_same_6 rfl rfl (Nat.le_of_ble_eq_true rfl) rfl rfl ?_
    refine ev_iload_n (pc' := 8) (i := 3) dX8_same_7 rfl rfl rfl ?_
    refine ev_if_ge (tgt := 13) (pc' := 11) dX8_same_8 rfl rfl (fun h => absurd h (by decide)) (fun _ => ?_)
    refine ev_iload_n (pc' := 12) (i := 3) dX8_same_11 rfl rfl rfl ?_
    refine ev_iret dX8_same_12 rfl rfl ⟨Nat.le_refl _, Nat.le_refl _⟩ ?_
    exact k2 j2 h3 rfl j5 h6 rfl h8
  · subst e11
    subst e14
    refine ev_istore_n (pc' := 7) (i := 3) (lv' := [some (.ref 115), some (.int (nI j9)), some (.int (nI j12)), some (.int (-3)), none, none, none, none]) dX8_same_6 rfl rfl (Nat.le_of_ble_eq_true rfl) rfl rfl ?_
    refine ev_iload_n (pc' := 8) (i := 3) dX8_same_7 rfl rfl rfl ?_
    refine ev_if_ge (tgt := 13) (pc' := 11) dX8_same_8 rfl rfl (fun h => absurd h (by decide)) (fun _ => ?_)
    refine ev_iload_n (pc' := 12) (i := 3) dX8_same_11 rfl rfl rfl ?_
    refine ev_iret dX8_same_12 rfl rfl ⟨Nat.le_refl _, Nat.le_refl _⟩ ?_
    exact k3 j9 h10 rfl j12 h13 rfl h15 h16
  · subst e19
    subst e22
    refine ev_istore_n (pc' := 7) (i := 3) (lv' := [some (.ref 115), some (.int (nI j17)), some (.int (nI j20)), some (.int 0), none, none, none, none]) dX8_same_6 rfl rfl (Nat.le_of_ble_eq_true rfl) rfl rfl ?_
    refine ev_iload_n (pc' := 8) (i := 3) dX8_same_7 rfl rfl rfl ?_
    refine ev_if_ge (tgt := 13) (pc' := 11) dX8_same_8 rfl rfl (fun _ => ?_) (fun h => absurd (by decide) h)
    refine ev_aload_n (pc' := 14) (i := 0) dX8_same_13 rfl rfl rfl ?_
    refine ev_getR (pc' := 17) fo_X8_40 dX8_same_14 rfl hs_115 rfl rf_115_14 ?_
    refine ev_bipush (pc' := 19) (v := 10) dX8_same_17 rfl kb_10 ?_
    refine ev_iload_n (pc' := 20) (i := 1) dX8_same_19 rfl rfl rfl ?_
    refine ev_imul (pc' := 21) (v := nI (10 * j17)) dX8_same_20 rfl (pk_mul 10 j17) ?_
    refine ev_iconst (pc' := 22) (v := 1) dX8_same_21 rfl ki_1 ?_
    refine ev_iadd (pc' := 23) (v := nI ((10 * j17) + 1)) dX8_same_22 rfl (nI_add (10 * j17) 1) ?_
    refine ev_iald (pc' := 24) (j := (10 * j17) + 1) (v := (I 124) ((10 * j17) + 1)) dX8_same_23 rfl hs_124 rfl (by omega) (Nat.le_of_ble_eq_true rfl) rfl ?_
    refine ev_istore (pc' := 26) (lv' := [some (.ref 115), some (.int (nI j17)), some (.int (nI j20)), some (.int 0), some (.int ((I 124) ((10 * j17) + 1))), none, none, none]) dX8_same_24 rfl (Nat.le_of_ble_eq_true rfl) rfl rfl ?_
    refine ev_aload_n (pc' := 27) (i := 0) dX8_same_26 rfl rfl rfl ?_
    refine ev_getR (pc' := 30) fo_X8_40 dX8_same_27 rfl hs_115 rfl rf_115_14 ?_
    refine ev_bipush (pc' := 32) (v := 10) dX8_same_30 rfl kb_10 ?_
    refine ev_iload_n (pc' := 33) (i := 1) dX8_same_32 rfl rfl rfl ?_
    refine ev_imul (pc' := 34) (v := nI (10 * j17)) dX8_same_33 rfl (pk_mul 10 j17) ?_
    refine ev_iconst (pc' := 35) (v := 2) dX8_same_34 rfl ki_2 ?_
    refine ev_iadd (pc' := 36) (v := nI ((10 * j17) + 2)) dX8_same_35 rfl (nI_add (10 * j17) 2) ?_
    refine ev_iald (pc' := 37) (j := (10 * j17) + 2) (v := (I 124) ((10 * j17) + 2)) dX8_same_36 rfl hs_124 rfl (by omega) (Nat.le_of_ble_eq_true rfl) rfl ?_
    refine ev_istore (pc' := 39) (lv' := [some (.ref 115), some (.int (nI j17)), some (.int (nI j20)), some (.int 0), some (.int ((I 124) ((10 * j17) + 1))), some (.int ((I 124) ((10 * j17) + 2))), none, none]) dX8_same_37 rfl (Nat.le_of_ble_eq_true rfl) rfl rfl ?_
    refine ev_aload_n (pc' := 40) (i := 0) dX8_same_39 rfl rfl rfl ?_
    refine ev_getR (pc' := 43) fo_X8_40 dX8_same_40 rfl hs_115 rfl rf_115_14 ?_
    refine ev_bipush (pc' := 45) (v := 10) dX8_same_43 rfl kb_10 ?_
    refine ev_iload_n (pc' := 46) (i := 2) dX8_same_45 rfl rfl rfl ?_
    refine ev_imul (pc' := 47) (v := nI (10 * j20)) dX8_same_46 rfl (pk_mul 10 j20) ?_
    refine ev_iconst (pc' := 48) (v := 1) dX8_same_47 rfl ki_1 ?_
    refine ev_iadd (pc' := 49) (v := nI ((10 * j20) + 1)) dX8_same_48 rfl (nI_add (10 * j20) 1) ?_
    refine ev_iald (pc' := 50) (j := (10 * j20) + 1) (v := (I 124) ((10 * j20) + 1)) dX8_same_49 rfl hs_124 rfl (by omega) (Nat.le_of_ble_eq_true rfl) rfl ?_
    refine ev_istore (pc' := 52) (lv' := [some (.ref 115), some (.int (nI j17)), some (.int (nI j20)), some (.int 0), some (.int ((I 124) ((10 * j17) + 1))), some (.int ((I 124) ((10 * j17) + 2))), some (.int ((I 124) ((10 * j20) + 1))), none]) dX8_same_50 rfl (Nat.le_of_ble_eq_true rfl) rfl rfl ?_
    refine ev_aload_n (pc' := 53) (i := 0) dX8_same_52 rfl rfl rfl ?_
    refine ev_getR (pc' := 56) fo_X8_40 dX8_same_53 rfl hs_115 rfl rf_115_14 ?_
    refine ev_bipush (pc' := 58) (v := 10) dX8_same_56 rfl kb_10 ?_
    refine ev_iload_n (pc' := 59) (i := 2) dX8_same_58 rfl rfl rfl ?_
    refine ev_imul (pc' := 60) (v := nI (10 * j20)) dX8_same_59 rfl (pk_mul 10 j20) ?_
    refine ev_iconst (pc' := 61) (v := 2) dX8_same_60 rfl ki_2 ?_
    refine ev_iadd (pc' := 62) (v := nI ((10 * j20) + 2)) dX8_same_61 rfl (nI_add (10 * j20) 2) ?_
    refine ev_iald (pc' := 63) (j := (10 * j20) + 2) (v := (I 124) ((10 * j20) + 2)) dX8_same_62 rfl hs_124 rfl (by omega) (Nat.le_of_ble_eq_true rfl) rfl ?_
    refine ev_istore (pc' := 65) (lv' := [some (.ref 115), some (.int (nI j17)), some (.int (nI j20)), some (.int 0), some (.int ((I 124) ((10 * j17) + 1))), some (.int ((I 124) ((10 * j17) + 2))), some (.int ((I 124) ((10 * j20) + 1))), some (.int ((I 124) ((10 * j20) + 2)))]) dX8_same_63 rfl (Nat.le_of_ble_eq_true rfl) rfl rfl ?_
    refine ev_iload (pc' := 67) dX8_same_65 rfl rfl ?_
    refine ev_iload (pc' := 69) dX8_same_67 rfl rfl ?_
    suffices K31 : ∀ x30 : Int32, x30 = (if ((¬ ((I 124) ((10 * j17) + 1)) = ((I 124) ((10 * j20) + 1))) ∧ ((((I 124) ((10 * j17) + 1)) = ((I 124) ((10 * j20) + 2))) ∧ (((I 124) ((10 * j17) + 2)) = ((I 124) ((10 * j20) + 1))))) ∨ ((((I 124) ((10 * j17) + 1)) = ((I 124) ((10 * j20) + 1))) ∧ ((((I 124) ((10 * j17) + 2)) = ((I 124) ((10 * j20) + 2))) ∨ ((((I 124) ((10 * j17) + 1)) = ((I 124) ((10 * j20) + 2))) ∧ (((I 124) ((10 * j17) + 2)) = ((I 124) ((10 * j20) + 1)))))) then (1 : Int32) else 0) → EV g yX8_same cX8_same 8 (some .int) rX8_same (ma_ZM g rX8_same Post) 98 [some (.ref 115), some (.int (nI j17)), some (.int (nI j20)), some (.int 0), some (.int ((I 124) ((10 * j17) + 1))), some (.int ((I 124) ((10 * j17) + 2))), some (.int ((I 124) ((10 * j20) + 1))), some (.int ((I 124) ((10 * j20) + 2)))] [.int x30] HS I L RF 146 0 0 by
      refine ev_icmp_ne (tgt := 79) (pc' := 72) dX8_same_69 rfl rfl (fun c32 => ?_) (fun c32 => ?_)
      · refine ev_iload (pc' := 81) dX8_same_79 rfl rfl ?_
        refine ev_iload (pc' := 83) dX8_same_81 rfl rfl ?_
        refine ev_icmp_ne (tgt := 97) (pc' := 86) dX8_same_83 rfl rfl (fun c33 => ?_) (fun c33 => ?_)
        · refine ev_iconst (pc' := 98) (v := 0) dX8_same_97 rfl ki_0 ?_
          exact K31 _ (if_neg (not_or.mpr ⟨fun h => (fun h => c33 h.1) h.2, fun h => c32 h.1⟩)).symm
        · refine ev_iload (pc' := 88) dX8_same_86 rfl rfl ?_
          refine ev_iload (pc' := 90) dX8_same_88 rfl rfl ?_
          refine ev_icmp_ne (tgt := 97) (pc' := 93) dX8_same_90 rfl rfl (fun c34 => ?_) (fun c34 => ?_)
          · refine ev_iconst (pc' := 98) (v := 0) dX8_same_97 rfl ki_0 ?_
            exact K31 _ (if_neg (not_or.mpr ⟨fun h => (fun h => c34 h.2) h.2, fun h => c32 h.1⟩)).symm
          · refine ev_iconst (pc' := 94) (v := 1) dX8_same_93 rfl ki_1 ?_
            refine ev_goto (tgt := 98) dX8_same_94 rfl ?_
            exact K31 _ (if_pos (Or.inl ⟨c32, ⟨c33, c34⟩⟩)).symm
      · refine ev_iload (pc' := 74) dX8_same_72 rfl rfl ?_
        refine ev_iload (pc' := 76) dX8_same_74 rfl rfl ?_
        refine ev_icmp_eq (tgt := 93) (pc' := 79) dX8_same_76 rfl rfl (fun c35 => ?_) (fun c35 => ?_)
        · refine ev_iconst (pc' := 94) (v := 1) dX8_same_93 rfl ki_1 ?_
          refine ev_goto (tgt := 98) dX8_same_94 rfl ?_
          exact K31 _ (if_pos (Or.inr ⟨c32, Or.inl c35⟩)).symm
        · refine ev_iload (pc' := 81) dX8_same_79 rfl rfl ?_
          refine ev_iload (pc' := 83) dX8_same_81 rfl rfl ?_
          refine ev_icmp_ne (tgt := 97) (pc' := 86) dX8_same_83 rfl rfl (fun c36 => ?_) (fun c36 => ?_)
          · refine ev_iconst (pc' := 98) (v := 0) dX8_same_97 rfl ki_0 ?_
            exact K31 _ (if_neg (not_or.mpr ⟨fun h => (not_not_intro c32) h.1, fun h => (not_or.mpr ⟨c35, fun h => c36 h.1⟩) h.2⟩)).symm
          · refine ev_iload (pc' := 88) dX8_same_86 rfl rfl ?_
            refine ev_iload (pc' := 90) dX8_same_88 rfl rfl ?_
            refine ev_icmp_ne (tgt := 97) (pc' := 93) dX8_same_90 rfl rfl (fun c37 => ?_) (fun c37 => ?_)
            · refine ev_iconst (pc' := 98) (v := 0) dX8_same_97 rfl ki_0 ?_
              exact K31 _ (if_neg (not_or.mpr ⟨fun h => (not_not_intro c32) h.1, fun h => (not_or.mpr ⟨c35, fun h => c37 h.2⟩) h.2⟩)).symm
            · refine ev_iconst (pc' := 94) (v := 1) dX8_same_93 rfl ki_1 ?_
              refine ev_goto (tgt := 98) dX8_same_94 rfl ?_
              exact K31 _ (if_pos (Or.inr ⟨c32, Or.inr (⟨c36, c37⟩)⟩)).symm
    intro x30 hx30
    subst hx30
    refine ev_iret dX8_same_98 rfl rfl ⟨Nat.le_refl _, Nat.le_refl _⟩ ?_
    exact k4 j17 h18 rfl j20 h21 rfl h23 h24
  · subst e27
    refine ev_istore_n (pc' := 7) (i := 3) (lv' := [some (.ref 115), some (.int (nI j25)), some (.int r), some (.int (-1)), none, none, none, none]) dX8_same_6 rfl rfl (Nat.le_of_ble_eq_true rfl) rfl rfl ?_
    refine ev_iload_n (pc' := 8) (i := 3) dX8_same_7 rfl rfl rfl ?_
    refine ev_if_ge (tgt := 13) (pc' := 11) dX8_same_8 rfl rfl (fun h => absurd h (by decide)) (fun _ => ?_)
    refine ev_iload_n (pc' := 12) (i := 3) dX8_same_11 rfl rfl rfl ?_
    refine ev_iret dX8_same_12 rfl rfl ⟨Nat.le_refl _, Nat.le_refl _⟩ ?_
    exact k5 j25 h26 rfl h28
set_option maxRecDepth 4000 in
theorem t_X8_alike {g : ma_G} {Post : ma_P} {I : ma_I} {L : ma_L}  (q : Int32) (r : Int32)  (k1 : (¬ ((¬ q < 0) ∧ (¬ 11 < q))) → Post (some (.int (-1))) HS I L RF 146) (k2 : ∀ j2 : Nat, (j2 < 12) → q = nI j2 → ∀ j5 : Nat, (j5 < 12) → r = nI j5 → (((I 122) j2) = 0) → Post (some (.int (-3))) HS (mMt I 1) L RF 146) (k3 : ∀ j9 : Nat, (j9 < 12) → q = nI j9 → ∀ j12 : Nat, (j12 < 12) → r = nI j12 → (¬ ((I 122) j9) = 0) → (((I 122) j12) = 0) → Post (some (.int (-3))) HS (mMt I 1) L RF 146) (k4 : ∀ j17 : Nat, (j17 < 12) → q = nI j17 → ∀ j20 : Nat, (j20 < 12) → r = nI j20 → (¬ ((I 122) j17) = 0) → (¬ ((I 122) j20) = 0) → Post (some (.int (if ((I 124) ((10 * j17) + 9)) = ((I 124) ((10 * j20) + 9)) then (1 : Int32) else 0))) HS I L RF 146) (k5 : ∀ j25 : Nat, (j25 < 12) → q = nI j25 → (¬ ((¬ r < 0) ∧ (¬ 11 < r))) → Post (some (.int (-1))) HS I L RF 146) : CT g yX8_alike cX8_alike 4 (some .int) rX8_alike [.ref 115, .int q, .int r] Post HS I L RF 146 := by
  refine ct_of (lv := [some (.ref 115), some (.int q), some (.int r), none]) (by decide) (Nat.le_of_ble_eq_true rfl) rfl ?_
  refine ev_aload_n (pc' := 1) (i := 0) dX8_alike_0 rfl rfl rfl ?_
  refine ev_iload_n (pc' := 2) (i := 1) dX8_alike_1 rfl rfl rfl ?_
  refine ev_iload_n (pc' := 3) (i := 2) dX8_alike_2 rfl rfl rfl ?_
  refine ev_callV (pc' := 6) (rm' := rX8_askedTwo) (b := 115) (av := [.int q, .int r]) (rest := []) co_X8_227 ci_X8_askedTwo cv_X8_askedTwo dX8_alike_3 rfl hs_115 hb_X8 rfl rfl (Nat.le_of_ble_eq_true rfl) ⟨(Nat.le_of_ble_eq_true rfl), (Nat.le_of_ble_eq_true rfl)⟩ ⟨(Nat.le_of_ble_eq_true rfl), (Nat.le_of_ble_eq_true rfl)⟩ ?_
  refine t_X8_askedTwo q r  (fun h1 => ?_) (fun j2 h3 e4 j5 h6 e7 h8 => ?_) (fun j9 h10 e11 j12 h13 e14 h15 h16 => ?_) (fun j17 h18 e19 j20 h21 e22 h23 h24 => ?_) (fun j25 h26 e27 h28 => ?_)
  · skip
    refine ev_istore_n (pc' := 7) (i := 3) (lv' := [some (.ref 115), some (.int q), some (.int r), some (.int (-1))]) dX8_alike_6 rfl rfl (Nat.le_of_ble_eq_true rfl) rfl rfl ?_
    refine ev_iload_n (pc' := 8) (i := 3) dX8_alike_7 rfl rfl rfl ?_
    refine ev_if_ge (tgt := 15) (pc' := 11) dX8_alike_8 rfl rfl (fun h => absurd h (by decide)) (fun _ => ?_)
    refine ev_iload_n (pc' := 12) (i := 3) dX8_alike_11 rfl rfl rfl ?_
    refine ev_goto (tgt := 47) dX8_alike_12 rfl ?_
    refine ev_iret dX8_alike_47 rfl rfl ⟨Nat.le_refl _, Nat.le_refl _⟩ ?_
    exact k1 h1
  · subst e4
    subst e7
    refine ev_istore_n (pc' := 7) (i := 3) (lv' := [some (.ref 115), some (.int (nI j2)), some (.int (nI j5)), some (.int (-3))]) dX8_alike_6 rfl rfl (Nat.le_of_ble_eq_true rfl) rfl rfl ?_
    refine ev_iload_n (pc' := 8) (i := 3) dX8_alike_7 rfl rfl rfl ?_
    refine ev_if_ge (tgt := 15) (pc' := 11) dX8_alike_8 rfl rfl (fun h => absurd h (by decide)) (fun _ => ?_)
    refine ev_iload_n (pc' := 12) (i := 3) dX8_alike_11 rfl rfl rfl ?_
    refine ev_goto (tgt := 47) dX8_alike_12 rfl ?_
    refine ev_iret dX8_alike_47 rfl rfl ⟨Nat.le_refl _, Nat.le_refl _⟩ ?_
    exact k2 j2 h3 rfl j5 h6 rfl h8
  · subst e11
    subst e14
    refine ev_istore_n (pc' := 7) (i := 3) (lv' := [some (.ref 115), some (.int (nI j9)), some (.int (nI j12)), some (.int (-3))]) dX8_alike_6 rfl rfl (Nat.le_of_ble_eq_true rfl) rfl rfl ?_
    refine ev_iload_n (pc' := 8) (i := 3) dX8_alike_7 rfl rfl rfl ?_
    refine ev_if_ge (tgt := 15) (pc' := 11) dX8_alike_8 rfl rfl (fun h => absurd h (by decide)) (fun _ => ?_)
    refine ev_iload_n (pc' := 12) (i := 3) dX8_alike_11 rfl rfl rfl ?_
    refine ev_goto (tgt := 47) dX8_alike_12 rfl ?_
    refine ev_iret dX8_alike_47 rfl rfl ⟨Nat.le_refl _, Nat.le_refl _⟩ ?_
    exact k3 j9 h10 rfl j12 h13 rfl h15 h16
  · subst e19
    subst e22
    refine ev_istore_n (pc' := 7) (i := 3) (lv' := [some (.ref 115), some (.int (nI j17)), some (.int (nI j20)), some (.int 0)]) dX8_alike_6 rfl rfl (Nat.le_of_ble_eq_true rfl) rfl rfl ?_
    refine ev_iload_n (pc' := 8) (i := 3) dX8_alike_7 rfl rfl rfl ?_
    refine ev_if_ge (tgt := 15) (pc' := 11) dX8_alike_8 rfl rfl (fun _ => ?_) (fun h => absurd (by decide) h)
    refine ev_aload_n (pc' := 16) (i := 0) dX8_alike_15 rfl rfl rfl ?_
    refine ev_getR (pc' := 19) fo_X8_40 dX8_alike_16 rfl hs_115 rfl rf_115_14 ?_
    refine ev_bipush (pc' := 21) (v := 10) dX8_alike_19 rfl kb_10 ?_
    refine ev_iload_n (pc' := 22) (i := 1) dX8_alike_21 rfl rfl rfl ?_
    refine ev_imul (pc' := 23) (v := nI (10 * j17)) dX8_alike_22 rfl (pk_mul 10 j17) ?_
    refine ev_bipush (pc' := 25) (v := 9) dX8_alike_23 rfl kb_9 ?_
    refine ev_iadd (pc' := 26) (v := nI ((10 * j17) + 9)) dX8_alike_25 rfl (nI_add (10 * j17) 9) ?_
    refine ev_iald (pc' := 27) (j := (10 * j17) + 9) (v := (I 124) ((10 * j17) + 9)) dX8_alike_26 rfl hs_124 rfl (by omega) (Nat.le_of_ble_eq_true rfl) rfl ?_
    refine ev_aload_n (pc' := 28) (i := 0) dX8_alike_27 rfl rfl rfl ?_
    refine ev_getR (pc' := 31) fo_X8_40 dX8_alike_28 rfl hs_115 rfl rf_115_14 ?_
    refine ev_bipush (pc' := 33) (v := 10) dX8_alike_31 rfl kb_10 ?_
    refine ev_iload_n (pc' := 34) (i := 2) dX8_alike_33 rfl rfl rfl ?_
    refine ev_imul (pc' := 35) (v := nI (10 * j20)) dX8_alike_34 rfl (pk_mul 10 j20) ?_
    refine ev_bipush (pc' := 37) (v := 9) dX8_alike_35 rfl kb_9 ?_
    refine ev_iadd (pc' := 38) (v := nI ((10 * j20) + 9)) dX8_alike_37 rfl (nI_add (10 * j20) 9) ?_
    refine ev_iald (pc' := 39) (j := (10 * j20) + 9) (v := (I 124) ((10 * j20) + 9)) dX8_alike_38 rfl hs_124 rfl (by omega) (Nat.le_of_ble_eq_true rfl) rfl ?_
    suffices K31 : ∀ x30 : Int32, x30 = (if ((I 124) ((10 * j17) + 9)) = ((I 124) ((10 * j20) + 9)) then (1 : Int32) else 0) → EV g yX8_alike cX8_alike 4 (some .int) rX8_alike (ma_ZM g rX8_alike Post) 47 [some (.ref 115), some (.int (nI j17)), some (.int (nI j20)), some (.int 0)] [.int x30] HS I L RF 146 0 0 by
      refine ev_icmp_ne (tgt := 46) (pc' := 42) dX8_alike_39 rfl rfl (fun c32 => ?_) (fun c32 => ?_)
      · refine ev_iconst (pc' := 47) (v := 0) dX8_alike_46 rfl ki_0 ?_
        exact K31 _ (if_neg c32).symm
      · refine ev_iconst (pc' := 43) (v := 1) dX8_alike_42 rfl ki_1 ?_
        refine ev_goto (tgt := 47) dX8_alike_43 rfl ?_
        exact K31 _ (if_pos c32).symm
    intro x30 hx30
    subst hx30
    refine ev_iret dX8_alike_47 rfl rfl ⟨Nat.le_refl _, Nat.le_refl _⟩ ?_
    exact k4 j17 h18 rfl j20 h21 rfl h23 h24
  · subst e27
    refine ev_istore_n (pc' := 7) (i := 3) (lv' := [some (.ref 115), some (.int (nI j25)), some (.int r), some (.int (-1))]) dX8_alike_6 rfl rfl (Nat.le_of_ble_eq_true rfl) rfl rfl ?_
    refine ev_iload_n (pc' := 8) (i := 3) dX8_alike_7 rfl rfl rfl ?_
    refine ev_if_ge (tgt := 15) (pc' := 11) dX8_alike_8 rfl rfl (fun h => absurd h (by decide)) (fun _ => ?_)
    refine ev_iload_n (pc' := 12) (i := 3) dX8_alike_11 rfl rfl rfl ?_
    refine ev_goto (tgt := 47) dX8_alike_12 rfl ?_
    refine ev_iret dX8_alike_47 rfl rfl ⟨Nat.le_refl _, Nat.le_refl _⟩ ?_
    exact k5 j25 h26 rfl h28
