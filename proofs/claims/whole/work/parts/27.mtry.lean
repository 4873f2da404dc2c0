theorem tr_le : ∀ {m : Nat}, m < 5 → (nI m ≤ 1 ↔ m ≤ 1)
  | 0, _ => by decide
  | 1, _ => by decide
  | 2, _ => by decide
  | 3, _ => by decide
  | 4, _ => by decide
set_option maxRecDepth 4000 in
theorem t_X8_tryRoot {g : ma_G} {Post : ma_P} {I : ma_I} {L : ma_L}  (u : Int64) (w : Int64) (m0 r : Nat) (hm0 : m0 < 5) (hr0 : 1 < m0 → r < 4) (hd : I 115 36 = nI m0) (hr : I 115 31 = nI r) (hw : ¬ w = 0) (k1 : 1 < m0 ∧ mAt m0 (L 142) u w = 0 ∧ mSp m0 (L 142) u w = 0 → ∀ (m : Nat) (f : Nat → Int64), m ≤ m0 → (m, f) = mTk u w m0 (L 142) → Post none HS (ma_up (ma_up I 141 (ma_up (I 141) r (nI (m0 - m)))) 115 (ma_up (ma_up (I 115) 36 (nI m)) 31 (nI (r + 1)))) (ma_up (ma_up (ma_up L 142 f) 139 (ma_up (L 139) r u)) 140 (ma_up (L 140) r w)) RF 146) (k2 : ¬ (1 < m0 ∧ mAt m0 (L 142) u w = 0 ∧ mSp m0 (L 142) u w = 0) → Post none HS I L RF 146) : CT g yX8_tryRoot cX8_tryRoot 5 none rX8_tryRoot [.ref 115, .long u, .long w] Post HS I L RF 146 := by
  refine ct_of (lv := [some (.ref 115), some (.long u), none, some (.long w), none]) (by decide) (Nat.le_of_ble_eq_true rfl) rfl ?_
  refine ev_aload_n (pc' := 1) (i := 0) dX8_tryRoot_0 rfl rfl rfl ?_
  refine ev_getI (pc' := 4) (v := nI m0) fo_X8_267 dX8_tryRoot_1 rfl hs_115 rfl hd ?_
  refine ev_iconst (pc' := 5) (v := 1) dX8_tryRoot_4 rfl ki_1 ?_
  refine ev_icmp_le (tgt := 36) (pc' := 8) dX8_tryRoot_5 rfl rfl (fun c1 => ?_) (fun c1 => ?_)
  · refine ev_vret dX8_tryRoot_36 rfl ⟨Nat.le_refl _, Nat.le_refl _⟩ ?_
    exact k2 (by rintro ⟨q1, q2, q3⟩; first | contradiction | (rw [tr_le hm0] at c1; omega))
  · refine ev_aload_n (pc' := 9) (i := 0) dX8_tryRoot_8 rfl rfl rfl ?_
    refine ev_lload_n (pc' := 10) (i := 1) dX8_tryRoot_9 rfl rfl rfl ?_
    refine ev_lload_n (pc' := 11) (i := 3) dX8_tryRoot_10 rfl rfl rfl ?_
    refine ev_callV (pc' := 14) (rm' := rX8_at) (b := 115) (av := [.long u, .long w]) (rest := []) co_X8_270 ci_X8_at cv_X8_at dX8_tryRoot_11 rfl hs_115 hb_X8 rfl rfl (Nat.le_of_ble_eq_true rfl) ⟨(Nat.le_of_ble_eq_true rfl), (Nat.le_of_ble_eq_true rfl)⟩ ⟨(Nat.le_of_ble_eq_true rfl), (Nat.le_of_ble_eq_true rfl)⟩ ?_
    refine u_X8_at u w m0 (by omega) hd ?_
    refine ev_lconst (pc' := 15) (v := 0) dX8_tryRoot_14 rfl kl_0 ?_
    refine ev_lc_ne (p1 := 16) (tgt := 36) (pc' := 19) dX8_tryRoot_15 rfl dX8_tryRoot_16 rfl rfl (fun c2 => ?_) (fun c2 => ?_)
    · refine ev_vret dX8_tryRoot_36 rfl ⟨Nat.le_refl _, Nat.le_refl _⟩ ?_
      exact k2 (by rintro ⟨q1, q2, q3⟩; first | contradiction | (rw [tr_le hm0] at c1; omega))
    · refine ev_aload_n (pc' := 20) (i := 0) dX8_tryRoot_19 rfl rfl rfl ?_
      refine ev_lload_n (pc' := 21) (i := 1) dX8_tryRoot_20 rfl rfl rfl ?_
      refine ev_lload_n (pc' := 22) (i := 3) dX8_tryRoot_21 rfl rfl rfl ?_
      refine ev_callV (pc' := 25) (rm' := rX8_slopeAt) (b := 115) (av := [.long u, .long w]) (rest := []) co_X8_292 ci_X8_slopeAt cv_X8_slopeAt dX8_tryRoot_22 rfl hs_115 hb_X8 rfl rfl (Nat.le_of_ble_eq_true rfl) ⟨(Nat.le_of_ble_eq_true rfl), (Nat.le_of_ble_eq_true rfl)⟩ ⟨(Nat.le_of_ble_eq_true rfl), (Nat.le_of_ble_eq_true rfl)⟩ ?_
      refine u_X8_slopeAt u w m0 (by omega) hd ?_
      refine ev_lconst (pc' := 26) (v := 0) dX8_tryRoot_25 rfl kl_0 ?_
      refine ev_lc_ne (p1 := 27) (tgt := 36) (pc' := 30) dX8_tryRoot_26 rfl dX8_tryRoot_27 rfl rfl (fun c3 => ?_) (fun c3 => ?_)
      · refine ev_vret dX8_tryRoot_36 rfl ⟨Nat.le_refl _, Nat.le_refl _⟩ ?_
        exact k2 (by rintro ⟨q1, q2, q3⟩; first | contradiction | (rw [tr_le hm0] at c1; omega))
      · refine ev_aload_n (pc' := 31) (i := 0) dX8_tryRoot_30 rfl rfl rfl ?_
        refine ev_lload_n (pc' := 32) (i := 1) dX8_tryRoot_31 rfl rfl rfl ?_
        refine ev_lload_n (pc' := 33) (i := 3) dX8_tryRoot_32 rfl rfl rfl ?_
        refine ev_callV (pc' := 36) (rm' := rX8_takeRoot) (b := 115) (av := [.long u, .long w]) (rest := []) co_X8_283 ci_X8_takeRoot cv_X8_takeRoot dX8_tryRoot_33 rfl hs_115 hb_X8 rfl rfl (Nat.le_of_ble_eq_true rfl) ⟨(Nat.le_of_ble_eq_true rfl), (Nat.le_of_ble_eq_true rfl)⟩ ⟨(Nat.le_of_ble_eq_true rfl), (Nat.le_of_ble_eq_true rfl)⟩ ?_
        refine t_X8_takeRoot u w m0 r hm0 (hr0 (by rw [tr_le hm0] at c1; omega)) hd hr hw (fun m f hm hf => ?_)
        refine ev_vret dX8_tryRoot_36 rfl ⟨Nat.le_refl _, Nat.le_refl _⟩ ?_
        exact k1 ⟨by rw [tr_le hm0] at c1; omega, by assumption, by assumption⟩ m f hm hf
