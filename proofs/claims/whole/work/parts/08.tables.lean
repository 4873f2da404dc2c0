theorem tb_m {i : Nat} {w : Cond} (h : lw_tbl[i]? = some w) : w ∈ lw_tbl := List.mem_of_getElem? h
theorem tb_ws0 : ∀ w ∈ u_ws RX0 TX0 10, w ∈ lw_tbl ∧ ma_gw w = true := by decide +kernel
theorem tb_ty0 : ∀ k, k < 10 → parseFieldDescriptor (TX0 k).2.2.1 = some (ma_ty 0 k) := tyX0_ok
theorem tb_df0 : ∀ k, k < 10 → defaultValue (ma_ty 0 k) = (match ma_kd 0 k with | 0 => Value.int 0 | 1 => Value.long 0 | _ => Value.null) := by decide +kernel
theorem tb_ws1 : ∀ w ∈ u_ws RX1 TX1 3, w ∈ lw_tbl ∧ ma_gw w = true := by decide +kernel
theorem tb_ty1 : ∀ k, k < 3 → parseFieldDescriptor (TX1 k).2.2.1 = some (ma_ty 1 k) := tyX1_ok
theorem tb_df1 : ∀ k, k < 3 → defaultValue (ma_ty 1 k) = (match ma_kd 1 k with | 0 => Value.int 0 | 1 => Value.long 0 | _ => Value.null) := by decide +kernel
theorem tb_ws2 : ∀ w ∈ u_ws RX2 TX2 2, w ∈ lw_tbl ∧ ma_gw w = true := by decide +kernel
theorem tb_ty2 : ∀ k, k < 2 → parseFieldDescriptor (TX2 k).2.2.1 = some (ma_ty 2 k) := tyX2_ok
theorem tb_df2 : ∀ k, k < 2 → defaultValue (ma_ty 2 k) = (match ma_kd 2 k with | 0 => Value.int 0 | 1 => Value.long 0 | _ => Value.null) := by decide +kernel
theorem tb_ws3 : ∀ w ∈ u_ws RX3 TX3 2, w ∈ lw_tbl ∧ ma_gw w = true := by decide +kernel
theorem tb_ty3 : ∀ k, k < 2 → parseFieldDescriptor (TX3 k).2.2.1 = some (ma_ty 3 k) := tyX3_ok
theorem tb_df3 : ∀ k, k < 2 → defaultValue (ma_ty 3 k) = (match ma_kd 3 k with | 0 => Value.int 0 | 1 => Value.long 0 | _ => Value.null) := by decide +kernel
theorem tb_ws4 : ∀ w ∈ u_ws RX4 TX4 6, w ∈ lw_tbl ∧ ma_gw w = true := by decide +kernel
theorem tb_ty4 : ∀ k, k < 6 → parseFieldDescriptor (TX4 k).2.2.1 = some (ma_ty 4 k) := tyX4_ok
theorem tb_df4 : ∀ k, k < 6 → defaultValue (ma_ty 4 k) = (match ma_kd 4 k with | 0 => Value.int 0 | 1 => Value.long 0 | _ => Value.null) := by decide +kernel
theorem tb_ws5 : ∀ w ∈ u_ws RX5 TX5 5, w ∈ lw_tbl ∧ ma_gw w = true := by decide +kernel
theorem tb_ty5 : ∀ k, k < 5 → parseFieldDescriptor (TX5 k).2.2.1 = some (ma_ty 5 k) := tyX5_ok
theorem tb_df5 : ∀ k, k < 5 → defaultValue (ma_ty 5 k) = (match ma_kd 5 k with | 0 => Value.int 0 | 1 => Value.long 0 | _ => Value.null) := by decide +kernel
theorem tb_ws6 : ∀ w ∈ u_ws RX6 TX6 2, w ∈ lw_tbl ∧ ma_gw w = true := by decide +kernel
theorem tb_ty6 : ∀ k, k < 2 → parseFieldDescriptor (TX6 k).2.2.1 = some (ma_ty 6 k) := tyX6_ok
theorem tb_df6 : ∀ k, k < 2 → defaultValue (ma_ty 6 k) = (match ma_kd 6 k with | 0 => Value.int 0 | 1 => Value.long 0 | _ => Value.null) := by decide +kernel
theorem tb_ws7 : ∀ w ∈ u_ws RX7 TX7 18, w ∈ lw_tbl ∧ ma_gw w = true := by decide +kernel
theorem tb_ty7 : ∀ k, k < 18 → parseFieldDescriptor (TX7 k).2.2.1 = some (ma_ty 7 k) := tyX7_ok
theorem tb_df7 : ∀ k, k < 18 → defaultValue (ma_ty 7 k) = (match ma_kd 7 k with | 0 => Value.int 0 | 1 => Value.long 0 | _ => Value.null) := by decide +kernel
theorem tb_ws8 : ∀ w ∈ u_ws RX8 TX8 48, w ∈ lw_tbl ∧ ma_gw w = true := by decide +kernel
theorem tb_ty8 : ∀ k, k < 48 → parseFieldDescriptor (TX8 k).2.2.1 = some (ma_ty 8 k) := tyX8_ok
theorem tb_df8 : ∀ k, k < 48 → defaultValue (ma_ty 8 k) = (match ma_kd 8 k with | 0 => Value.int 0 | 1 => Value.long 0 | _ => Value.null) := by decide +kernel
theorem hb_X0 : 0 < 9 ∧ ∃ r : vw_C, vwCl[0]? = some r ∧ r.1 = RX0 := ⟨by decide, _, rfl, rfl⟩
theorem hb_X1 : 1 < 9 ∧ ∃ r : vw_C, vwCl[1]? = some r ∧ r.1 = RX1 := ⟨by decide, _, rfl, rfl⟩
theorem hb_X2 : 2 < 9 ∧ ∃ r : vw_C, vwCl[2]? = some r ∧ r.1 = RX2 := ⟨by decide, _, rfl, rfl⟩
theorem hb_X3 : 3 < 9 ∧ ∃ r : vw_C, vwCl[3]? = some r ∧ r.1 = RX3 := ⟨by decide, _, rfl, rfl⟩
theorem hb_X4 : 4 < 9 ∧ ∃ r : vw_C, vwCl[4]? = some r ∧ r.1 = RX4 := ⟨by decide, _, rfl, rfl⟩
theorem hb_X5 : 5 < 9 ∧ ∃ r : vw_C, vwCl[5]? = some r ∧ r.1 = RX5 := ⟨by decide, _, rfl, rfl⟩
theorem hb_X6 : 6 < 9 ∧ ∃ r : vw_C, vwCl[6]? = some r ∧ r.1 = RX6 := ⟨by decide, _, rfl, rfl⟩
theorem hb_X7 : 7 < 9 ∧ ∃ r : vw_C, vwCl[7]? = some r ∧ r.1 = RX7 := ⟨by decide, _, rfl, rfl⟩
theorem hb_X8 : 8 < 9 ∧ ∃ r : vw_C, vwCl[8]? = some r ∧ r.1 = RX8 := ⟨by decide, _, rfl, rfl⟩
set_option maxRecDepth 20000 in
theorem tb_in_L : Cond.initialized RL ∈ lw_tbl := tb_m (i := 70) rfl
set_option maxRecDepth 20000 in
theorem tb_in_X7 : Cond.initialized RX7 ∈ lw_tbl := tb_m (i := 71) rfl
set_option maxRecDepth 20000 in
theorem tb_in_X4 : Cond.initialized RX4 ∈ lw_tbl := tb_m (i := 72) rfl
set_option maxRecDepth 20000 in
theorem tb_in_X0 : Cond.initialized RX0 ∈ lw_tbl := tb_m (i := 73) rfl
set_option maxRecDepth 20000 in
theorem tb_in_X6 : Cond.initialized RX6 ∈ lw_tbl := tb_m (i := 74) rfl
set_option maxRecDepth 20000 in
theorem tb_in_X5 : Cond.initialized RX5 ∈ lw_tbl := tb_m (i := 75) rfl
set_option maxRecDepth 20000 in
theorem tb_in_X2 : Cond.initialized RX2 ∈ lw_tbl := tb_m (i := 76) rfl
set_option maxRecDepth 20000 in
theorem tb_in_X3 : Cond.initialized RX3 ∈ lw_tbl := tb_m (i := 77) rfl
set_option maxRecDepth 20000 in
theorem tb_in_X1 : Cond.initialized RX1 ∈ lw_tbl := tb_m (i := 78) rfl
set_option maxRecDepth 20000 in
theorem tb_in_X8 : Cond.initialized RX8 ∈ lw_tbl := tb_m (i := 79) rfl
set_option maxRecDepth 20000 in
theorem tb_in_J10 : Cond.initialized RJ10 ∈ lw_tbl := tb_m (i := 80) rfl
set_option maxRecDepth 20000 in
theorem tb_in_J9 : Cond.initialized RJ9 ∈ lw_tbl := tb_m (i := 81) rfl
set_option maxRecDepth 20000 in
theorem fo_X7_11 : ma_FO RX7 11 7 0 := ⟨(RX7, TX7, 18), rfl, by decide, tb_ws7, tb_m (i := 258) rfl, tb_ty7, nmX7, by decide⟩
set_option maxRecDepth 20000 in
theorem fo_X7_17 : ma_FO RX7 17 7 1 := ⟨(RX7, TX7, 18), rfl, by decide, tb_ws7, tb_m (i := 259) rfl, tb_ty7, nmX7, by decide⟩
set_option maxRecDepth 20000 in
theorem fo_X7_24 : ma_FO RX7 24 7 2 := ⟨(RX7, TX7, 18), rfl, by decide, tb_ws7, tb_m (i := 260) rfl, tb_ty7, nmX7, by decide⟩
set_option maxRecDepth 20000 in
theorem fo_X7_28 : ma_FO RX7 28 7 3 := ⟨(RX7, TX7, 18), rfl, by decide, tb_ws7, tb_m (i := 261) rfl, tb_ty7, nmX7, by decide⟩
set_option maxRecDepth 20000 in
theorem fo_X7_34 : ma_FO RX7 34 7 4 := ⟨(RX7, TX7, 18), rfl, by decide, tb_ws7, tb_m (i := 262) rfl, tb_ty7, nmX7, by decide⟩
set_option maxRecDepth 20000 in
theorem fo_X7_41 : ma_FO RX7 41 7 5 := ⟨(RX7, TX7, 18), rfl, by decide, tb_ws7, tb_m (i := 263) rfl, tb_ty7, nmX7, by decide⟩
set_option maxRecDepth 20000 in
theorem fo_X7_48 : ma_FO RX7 48 7 6 := ⟨(RX7, TX7, 18), rfl, by decide, tb_ws7, tb_m (i := 264) rfl, tb_ty7, nmX7, by decide⟩
set_option maxRecDepth 20000 in
theorem fo_X7_52 : ma_FO RX7 52 7 7 := ⟨(RX7, TX7, 18), rfl, by decide, tb_ws7, tb_m (i := 265) rfl, tb_ty7, nmX7, by decide⟩
set_option maxRecDepth 20000 in
theorem fo_X7_56 : ma_FO RX7 56 7 8 := ⟨(RX7, TX7, 18), rfl, by decide, tb_ws7, tb_m (i := 266) rfl, tb_ty7, nmX7, by decide⟩
set_option maxRecDepth 20000 in
theorem fo_X7_59 : ma_FO RX7 59 7 9 := ⟨(RX7, TX7, 18), rfl, by decide, tb_ws7, tb_m (i := 267) rfl, tb_ty7, nmX7, by decide⟩
set_option maxRecDepth 20000 in
theorem fo_X7_63 : ma_FO RX7 63 7 11 := ⟨(RX7, TX7, 18), rfl, by decide, tb_ws7, tb_m (i := 269) rfl, tb_ty7, nmX7, by decide⟩
set_option maxRecDepth 20000 in
theorem fo_X7_66 : ma_FO RX7 66 7 15 := ⟨(RX7, TX7, 18), rfl, by decide, tb_ws7, tb_m (i := 273) rfl, tb_ty7, nmX7, by decide⟩
set_option maxRecDepth 20000 in
theorem fo_X7_70 : ma_FO RX7 70 7 17 := ⟨(RX7, TX7, 18), rfl, by decide, tb_ws7, tb_m (i := 275) rfl, tb_ty7, nmX7, by decide⟩
set_option maxRecDepth 20000 in
theorem fo_X7_91 : ma_FO RX7 91 3 1 := ⟨(RX3, TX3, 2), rfl, by decide, tb_ws3, tb_m (i := 232) rfl, tb_ty3, nmX3, by decide⟩
set_option maxRecDepth 20000 in
theorem fo_X7_95 : ma_FO RX7 95 3 0 := ⟨(RX3, TX3, 2), rfl, by decide, tb_ws3, tb_m (i := 230) rfl, tb_ty3, nmX3, by decide⟩
set_option maxRecDepth 20000 in
theorem fo_X7_98 : ma_FO RX7 98 7 13 := ⟨(RX7, TX7, 18), rfl, by decide, tb_ws7, tb_m (i := 271) rfl, tb_ty7, nmX7, by decide⟩
set_option maxRecDepth 20000 in
theorem fo_X7_134 : ma_FO RX7 134 1 0 := ⟨(RX1, TX1, 3), rfl, by decide, tb_ws1, tb_m (i := 245) rfl, tb_ty1, nmX1, by decide⟩
set_option maxRecDepth 20000 in
theorem fo_X7_141 : ma_FO RX7 141 1 1 := ⟨(RX1, TX1, 3), rfl, by decide, tb_ws1, tb_m (i := 248) rfl, tb_ty1, nmX1, by decide⟩
set_option maxRecDepth 20000 in
theorem fo_X7_144 : ma_FO RX7 144 4 0 := ⟨(RX4, TX4, 6), rfl, by decide, tb_ws4, tb_m (i := 101) rfl, tb_ty4, nmX4, by decide⟩
set_option maxRecDepth 20000 in
theorem fo_X7_147 : ma_FO RX7 147 1 2 := ⟨(RX1, TX1, 3), rfl, by decide, tb_ws1, tb_m (i := 250) rfl, tb_ty1, nmX1, by decide⟩
set_option maxRecDepth 20000 in
theorem fo_X7_222 : ma_FO RX7 222 7 10 := ⟨(RX7, TX7, 18), rfl, by decide, tb_ws7, tb_m (i := 268) rfl, tb_ty7, nmX7, by decide⟩
set_option maxRecDepth 20000 in
theorem fo_X7_236 : ma_FO RX7 236 4 2 := ⟨(RX4, TX4, 6), rfl, by decide, tb_ws4, tb_m (i := 105) rfl, tb_ty4, nmX4, by decide⟩
set_option maxRecDepth 20000 in
theorem fo_X7_238 : ma_FO RX7 238 4 3 := ⟨(RX4, TX4, 6), rfl, by decide, tb_ws4, tb_m (i := 108) rfl, tb_ty4, nmX4, by decide⟩
set_option maxRecDepth 20000 in
theorem fo_X7_269 : ma_FO RX7 269 0 0 := ⟨(RX0, TX0, 10), rfl, by decide, tb_ws0, tb_m (i := 148) rfl, tb_ty0, nmX0, by decide⟩
set_option maxRecDepth 20000 in
theorem fo_X7_270 : ma_FO RX7 270 7 12 := ⟨(RX7, TX7, 18), rfl, by decide, tb_ws7, tb_m (i := 270) rfl, tb_ty7, nmX7, by decide⟩
set_option maxRecDepth 20000 in
theorem fo_X7_285 : ma_FO RX7 285 0 9 := ⟨(RX0, TX0, 10), rfl, by decide, tb_ws0, tb_m (i := 160) rfl, tb_ty0, nmX0, by decide⟩
set_option maxRecDepth 20000 in
theorem fo_X7_288 : ma_FO RX7 288 0 7 := ⟨(RX0, TX0, 10), rfl, by decide, tb_ws0, tb_m (i := 156) rfl, tb_ty0, nmX0, by decide⟩
set_option maxRecDepth 20000 in
theorem fo_X7_291 : ma_FO RX7 291 0 8 := ⟨(RX0, TX0, 10), rfl, by decide, tb_ws0, tb_m (i := 158) rfl, tb_ty0, nmX0, by decide⟩
set_option maxRecDepth 20000 in
theorem fo_X7_302 : ma_FO RX7 302 5 3 := ⟨(RX5, TX5, 5), rfl, by decide, tb_ws5, tb_m (i := 195) rfl, tb_ty5, nmX5, by decide⟩
set_option maxRecDepth 20000 in
theorem fo_X7_304 : ma_FO RX7 304 5 4 := ⟨(RX5, TX5, 5), rfl, by decide, tb_ws5, tb_m (i := 197) rfl, tb_ty5, nmX5, by decide⟩
set_option maxRecDepth 20000 in
theorem fo_X7_322 : ma_FO RX7 322 2 1 := ⟨(RX2, TX2, 2), rfl, by decide, tb_ws2, tb_m (i := 218) rfl, tb_ty2, nmX2, by decide⟩
set_option maxRecDepth 20000 in
theorem fo_X7_325 : ma_FO RX7 325 2 0 := ⟨(RX2, TX2, 2), rfl, by decide, tb_ws2, tb_m (i := 216) rfl, tb_ty2, nmX2, by decide⟩
set_option maxRecDepth 20000 in
theorem fo_X7_328 : ma_FO RX7 328 7 14 := ⟨(RX7, TX7, 18), rfl, by decide, tb_ws7, tb_m (i := 272) rfl, tb_ty7, nmX7, by decide⟩
set_option maxRecDepth 20000 in
theorem fo_X7_337 : ma_FO RX7 337 7 16 := ⟨(RX7, TX7, 18), rfl, by decide, tb_ws7, tb_m (i := 274) rfl, tb_ty7, nmX7, by decide⟩
set_option maxRecDepth 20000 in
theorem fo_X0_9 : ma_FO RX0 9 0 0 := ⟨(RX0, TX0, 10), rfl, by decide, tb_ws0, tb_m (i := 147) rfl, tb_ty0, nmX0, by decide⟩
set_option maxRecDepth 20000 in
theorem fo_X0_15 : ma_FO RX0 15 0 1 := ⟨(RX0, TX0, 10), rfl, by decide, tb_ws0, tb_m (i := 149) rfl, tb_ty0, nmX0, by decide⟩
set_option maxRecDepth 20000 in
theorem fo_X0_21 : ma_FO RX0 21 0 2 := ⟨(RX0, TX0, 10), rfl, by decide, tb_ws0, tb_m (i := 150) rfl, tb_ty0, nmX0, by decide⟩
set_option maxRecDepth 20000 in
theorem fo_X0_28 : ma_FO RX0 28 0 3 := ⟨(RX0, TX0, 10), rfl, by decide, tb_ws0, tb_m (i := 151) rfl, tb_ty0, nmX0, by decide⟩
set_option maxRecDepth 20000 in
theorem fo_X0_32 : ma_FO RX0 32 0 4 := ⟨(RX0, TX0, 10), rfl, by decide, tb_ws0, tb_m (i := 152) rfl, tb_ty0, nmX0, by decide⟩
set_option maxRecDepth 20000 in
theorem fo_X0_35 : ma_FO RX0 35 0 7 := ⟨(RX0, TX0, 10), rfl, by decide, tb_ws0, tb_m (i := 155) rfl, tb_ty0, nmX0, by decide⟩
set_option maxRecDepth 20000 in
theorem fo_X0_39 : ma_FO RX0 39 0 8 := ⟨(RX0, TX0, 10), rfl, by decide, tb_ws0, tb_m (i := 157) rfl, tb_ty0, nmX0, by decide⟩
set_option maxRecDepth 20000 in
theorem fo_X0_58 : ma_FO RX0 58 0 5 := ⟨(RX0, TX0, 10), rfl, by decide, tb_ws0, tb_m (i := 153) rfl, tb_ty0, nmX0, by decide⟩
set_option maxRecDepth 20000 in
theorem fo_X0_68 : ma_FO RX0 68 0 6 := ⟨(RX0, TX0, 10), rfl, by decide, tb_ws0, tb_m (i := 154) rfl, tb_ty0, nmX0, by decide⟩
set_option maxRecDepth 20000 in
theorem fo_X0_138 : ma_FO RX0 138 0 9 := ⟨(RX0, TX0, 10), rfl, by decide, tb_ws0, tb_m (i := 159) rfl, tb_ty0, nmX0, by decide⟩
set_option maxRecDepth 20000 in
theorem fo_X1_12 : ma_FO RX1 12 1 1 := ⟨(RX1, TX1, 3), rfl, by decide, tb_ws1, tb_m (i := 247) rfl, tb_ty1, nmX1, by decide⟩
set_option maxRecDepth 20000 in
theorem fo_X1_18 : ma_FO RX1 18 1 2 := ⟨(RX1, TX1, 3), rfl, by decide, tb_ws1, tb_m (i := 249) rfl, tb_ty1, nmX1, by decide⟩
set_option maxRecDepth 20000 in
theorem fo_X1_42 : ma_FO RX1 42 1 0 := ⟨(RX1, TX1, 3), rfl, by decide, tb_ws1, tb_m (i := 246) rfl, tb_ty1, nmX1, by decide⟩
set_option maxRecDepth 20000 in
theorem fo_X1_46 : ma_FO RX1 46 4 2 := ⟨(RX4, TX4, 6), rfl, by decide, tb_ws4, tb_m (i := 104) rfl, tb_ty4, nmX4, by decide⟩
set_option maxRecDepth 20000 in
theorem fo_X1_49 : ma_FO RX1 49 4 3 := ⟨(RX4, TX4, 6), rfl, by decide, tb_ws4, tb_m (i := 107) rfl, tb_ty4, nmX4, by decide⟩
set_option maxRecDepth 20000 in
theorem fo_X2_9 : ma_FO RX2 9 2 0 := ⟨(RX2, TX2, 2), rfl, by decide, tb_ws2, tb_m (i := 215) rfl, tb_ty2, nmX2, by decide⟩
set_option maxRecDepth 20000 in
theorem fo_X2_15 : ma_FO RX2 15 2 1 := ⟨(RX2, TX2, 2), rfl, by decide, tb_ws2, tb_m (i := 217) rfl, tb_ty2, nmX2, by decide⟩
set_option maxRecDepth 20000 in
theorem fo_X3_9 : ma_FO RX3 9 3 0 := ⟨(RX3, TX3, 2), rfl, by decide, tb_ws3, tb_m (i := 229) rfl, tb_ty3, nmX3, by decide⟩
set_option maxRecDepth 20000 in
theorem fo_X3_15 : ma_FO RX3 15 3 1 := ⟨(RX3, TX3, 2), rfl, by decide, tb_ws3, tb_m (i := 231) rfl, tb_ty3, nmX3, by decide⟩
set_option maxRecDepth 20000 in
theorem fo_X4_9 : ma_FO RX4 9 4 0 := ⟨(RX4, TX4, 6), rfl, by decide, tb_ws4, tb_m (i := 100) rfl, tb_ty4, nmX4, by decide⟩
set_option maxRecDepth 20000 in
theorem fo_X4_15 : ma_FO RX4 15 4 1 := ⟨(RX4, TX4, 6), rfl, by decide, tb_ws4, tb_m (i := 102) rfl, tb_ty4, nmX4, by decide⟩
set_option maxRecDepth 20000 in
theorem fo_X4_64 : ma_FO RX4 64 4 2 := ⟨(RX4, TX4, 6), rfl, by decide, tb_ws4, tb_m (i := 106) rfl, tb_ty4, nmX4, by decide⟩
set_option maxRecDepth 20000 in
theorem fo_X4_68 : ma_FO RX4 68 4 3 := ⟨(RX4, TX4, 6), rfl, by decide, tb_ws4, tb_m (i := 109) rfl, tb_ty4, nmX4, by decide⟩
set_option maxRecDepth 20000 in
theorem fo_X4_73 : ma_FO RX4 73 4 4 := ⟨(RX4, TX4, 6), rfl, by decide, tb_ws4, tb_m (i := 110) rfl, tb_ty4, nmX4, by decide⟩
set_option maxRecDepth 20000 in
theorem fo_X4_77 : ma_FO RX4 77 4 5 := ⟨(RX4, TX4, 6), rfl, by decide, tb_ws4, tb_m (i := 111) rfl, tb_ty4, nmX4, by decide⟩
set_option maxRecDepth 20000 in
theorem fo_X5_9 : ma_FO RX5 9 5 0 := ⟨(RX5, TX5, 5), rfl, by decide, tb_ws5, tb_m (i := 191) rfl, tb_ty5, nmX5, by decide⟩
set_option maxRecDepth 20000 in
theorem fo_X5_15 : ma_FO RX5 15 5 1 := ⟨(RX5, TX5, 5), rfl, by decide, tb_ws5, tb_m (i := 192) rfl, tb_ty5, nmX5, by decide⟩
set_option maxRecDepth 20000 in
theorem fo_X5_21 : ma_FO RX5 21 5 2 := ⟨(RX5, TX5, 5), rfl, by decide, tb_ws5, tb_m (i := 193) rfl, tb_ty5, nmX5, by decide⟩
set_option maxRecDepth 20000 in
theorem fo_X5_25 : ma_FO RX5 25 5 3 := ⟨(RX5, TX5, 5), rfl, by decide, tb_ws5, tb_m (i := 194) rfl, tb_ty5, nmX5, by decide⟩
set_option maxRecDepth 20000 in
theorem fo_X5_29 : ma_FO RX5 29 5 4 := ⟨(RX5, TX5, 5), rfl, by decide, tb_ws5, tb_m (i := 196) rfl, tb_ty5, nmX5, by decide⟩
set_option maxRecDepth 20000 in
theorem fo_X5_59 : ma_FO RX5 59 4 2 := ⟨(RX4, TX4, 6), rfl, by decide, tb_ws4, tb_m (i := 103) rfl, tb_ty4, nmX4, by decide⟩
set_option maxRecDepth 20000 in
theorem fo_X6_9 : ma_FO RX6 9 6 0 := ⟨(RX6, TX6, 2), rfl, by decide, tb_ws6, tb_m (i := 140) rfl, tb_ty6, nmX6, by decide⟩
set_option maxRecDepth 20000 in
theorem fo_X6_13 : ma_FO RX6 13 6 1 := ⟨(RX6, TX6, 2), rfl, by decide, tb_ws6, tb_m (i := 141) rfl, tb_ty6, nmX6, by decide⟩
set_option maxRecDepth 20000 in
theorem fo_X8_7 : ma_FO RX8 7 8 1 := ⟨(RX8, TX8, 48), rfl, by decide, tb_ws8, tb_m (i := 882) rfl, tb_ty8, nmX8, by decide⟩
set_option maxRecDepth 20000 in
theorem fo_X8_13 : ma_FO RX8 13 8 4 := ⟨(RX8, TX8, 48), rfl, by decide, tb_ws8, tb_m (i := 885) rfl, tb_ty8, nmX8, by decide⟩
set_option maxRecDepth 20000 in
theorem fo_X8_17 : ma_FO RX8 17 8 5 := ⟨(RX8, TX8, 48), rfl, by decide, tb_ws8, tb_m (i := 886) rfl, tb_ty8, nmX8, by decide⟩
set_option maxRecDepth 20000 in
theorem fo_X8_20 : ma_FO RX8 20 8 6 := ⟨(RX8, TX8, 48), rfl, by decide, tb_ws8, tb_m (i := 887) rfl, tb_ty8, nmX8, by decide⟩
set_option maxRecDepth 20000 in
theorem fo_X8_23 : ma_FO RX8 23 8 7 := ⟨(RX8, TX8, 48), rfl, by decide, tb_ws8, tb_m (i := 888) rfl, tb_ty8, nmX8, by decide⟩
set_option maxRecDepth 20000 in
theorem fo_X8_26 : ma_FO RX8 26 8 8 := ⟨(RX8, TX8, 48), rfl, by decide, tb_ws8, tb_m (i := 889) rfl, tb_ty8, nmX8, by decide⟩
set_option maxRecDepth 20000 in
theorem fo_X8_30 : ma_FO RX8 30 8 11 := ⟨(RX8, TX8, 48), rfl, by decide, tb_ws8, tb_m (i := 892) rfl, tb_ty8, nmX8, by decide⟩
set_option maxRecDepth 20000 in
theorem fo_X8_33 : ma_FO RX8 33 8 12 := ⟨(RX8, TX8, 48), rfl, by decide, tb_ws8, tb_m (i := 893) rfl, tb_ty8, nmX8, by decide⟩
set_option maxRecDepth 20000 in
theorem fo_X8_37 : ma_FO RX8 37 8 13 := ⟨(RX8, TX8, 48), rfl, by decide, tb_ws8, tb_m (i := 894) rfl, tb_ty8, nmX8, by decide⟩
set_option maxRecDepth 20000 in
theorem fo_X8_40 : ma_FO RX8 40 8 14 := ⟨(RX8, TX8, 48), rfl, by decide, tb_ws8, tb_m (i := 895) rfl, tb_ty8, nmX8, by decide⟩
set_option maxRecDepth 20000 in
theorem fo_X8_43 : ma_FO RX8 43 8 15 := ⟨(RX8, TX8, 48), rfl, by decide, tb_ws8, tb_m (i := 896) rfl, tb_ty8, nmX8, by decide⟩
set_option maxRecDepth 20000 in
theorem fo_X8_46 : ma_FO RX8 46 8 16 := ⟨(RX8, TX8, 48), rfl, by decide, tb_ws8, tb_m (i := 897) rfl, tb_ty8, nmX8, by decide⟩
set_option maxRecDepth 20000 in
theorem fo_X8_49 : ma_FO RX8 49 8 17 := ⟨(RX8, TX8, 48), rfl, by decide, tb_ws8, tb_m (i := 898) rfl, tb_ty8, nmX8, by decide⟩
set_option maxRecDepth 20000 in
theorem fo_X8_52 : ma_FO RX8 52 8 19 := ⟨(RX8, TX8, 48), rfl, by decide, tb_ws8, tb_m (i := 900) rfl, tb_ty8, nmX8, by decide⟩
set_option maxRecDepth 20000 in
theorem fo_X8_55 : ma_FO RX8 55 8 20 := ⟨(RX8, TX8, 48), rfl, by decide, tb_ws8, tb_m (i := 901) rfl, tb_ty8, nmX8, by decide⟩
set_option maxRecDepth 20000 in
theorem fo_X8_58 : ma_FO RX8 58 8 21 := ⟨(RX8, TX8, 48), rfl, by decide, tb_ws8, tb_m (i := 902) rfl, tb_ty8, nmX8, by decide⟩
set_option maxRecDepth 20000 in
theorem fo_X8_61 : ma_FO RX8 61 8 22 := ⟨(RX8, TX8, 48), rfl, by decide, tb_ws8, tb_m (i := 903) rfl, tb_ty8, nmX8, by decide⟩
set_option maxRecDepth 20000 in
theorem fo_X8_64 : ma_FO RX8 64 8 23 := ⟨(RX8, TX8, 48), rfl, by decide, tb_ws8, tb_m (i := 904) rfl, tb_ty8, nmX8, by decide⟩
set_option maxRecDepth 20000 in
theorem fo_X8_67 : ma_FO RX8 67 8 24 := ⟨(RX8, TX8, 48), rfl, by decide, tb_ws8, tb_m (i := 905) rfl, tb_ty8, nmX8, by decide⟩
set_option maxRecDepth 20000 in
theorem fo_X8_70 : ma_FO RX8 70 8 25 := ⟨(RX8, TX8, 48), rfl, by decide, tb_ws8, tb_m (i := 906) rfl, tb_ty8, nmX8, by decide⟩
set_option maxRecDepth 20000 in
theorem fo_X8_73 : ma_FO RX8 73 8 27 := ⟨(RX8, TX8, 48), rfl, by decide, tb_ws8, tb_m (i := 908) rfl, tb_ty8, nmX8, by decide⟩
set_option maxRecDepth 20000 in
theorem fo_X8_76 : ma_FO RX8 76 8 28 := ⟨(RX8, TX8, 48), rfl, by decide, tb_ws8, tb_m (i := 909) rfl, tb_ty8, nmX8, by decide⟩
set_option maxRecDepth 20000 in
theorem fo_X8_79 : ma_FO RX8 79 8 29 := ⟨(RX8, TX8, 48), rfl, by decide, tb_ws8, tb_m (i := 910) rfl, tb_ty8, nmX8, by decide⟩
set_option maxRecDepth 20000 in
theorem fo_X8_82 : ma_FO RX8 82 8 30 := ⟨(RX8, TX8, 48), rfl, by decide, tb_ws8, tb_m (i := 911) rfl, tb_ty8, nmX8, by decide⟩
set_option maxRecDepth 20000 in
theorem fo_X8_85 : ma_FO RX8 85 8 32 := ⟨(RX8, TX8, 48), rfl, by decide, tb_ws8, tb_m (i := 913) rfl, tb_ty8, nmX8, by decide⟩
set_option maxRecDepth 20000 in
theorem fo_X8_88 : ma_FO RX8 88 8 33 := ⟨(RX8, TX8, 48), rfl, by decide, tb_ws8, tb_m (i := 914) rfl, tb_ty8, nmX8, by decide⟩
set_option maxRecDepth 20000 in
theorem fo_X8_91 : ma_FO RX8 91 8 34 := ⟨(RX8, TX8, 48), rfl, by decide, tb_ws8, tb_m (i := 915) rfl, tb_ty8, nmX8, by decide⟩
set_option maxRecDepth 20000 in
theorem fo_X8_94 : ma_FO RX8 94 8 37 := ⟨(RX8, TX8, 48), rfl, by decide, tb_ws8, tb_m (i := 918) rfl, tb_ty8, nmX8, by decide⟩
set_option maxRecDepth 20000 in
theorem fo_X8_97 : ma_FO RX8 97 8 40 := ⟨(RX8, TX8, 48), rfl, by decide, tb_ws8, tb_m (i := 921) rfl, tb_ty8, nmX8, by decide⟩
set_option maxRecDepth 20000 in
theorem fo_X8_100 : ma_FO RX8 100 8 41 := ⟨(RX8, TX8, 48), rfl, by decide, tb_ws8, tb_m (i := 922) rfl, tb_ty8, nmX8, by decide⟩
set_option maxRecDepth 20000 in
theorem fo_X8_103 : ma_FO RX8 103 8 42 := ⟨(RX8, TX8, 48), rfl, by decide, tb_ws8, tb_m (i := 923) rfl, tb_ty8, nmX8, by decide⟩
set_option maxRecDepth 20000 in
theorem fo_X8_106 : ma_FO RX8 106 8 43 := ⟨(RX8, TX8, 48), rfl, by decide, tb_ws8, tb_m (i := 924) rfl, tb_ty8, nmX8, by decide⟩
set_option maxRecDepth 20000 in
theorem fo_X8_109 : ma_FO RX8 109 8 44 := ⟨(RX8, TX8, 48), rfl, by decide, tb_ws8, tb_m (i := 925) rfl, tb_ty8, nmX8, by decide⟩
set_option maxRecDepth 20000 in
theorem fo_X8_112 : ma_FO RX8 112 8 46 := ⟨(RX8, TX8, 48), rfl, by decide, tb_ws8, tb_m (i := 927) rfl, tb_ty8, nmX8, by decide⟩
set_option maxRecDepth 20000 in
theorem fo_X8_115 : ma_FO RX8 115 8 0 := ⟨(RX8, TX8, 48), rfl, by decide, tb_ws8, tb_m (i := 881) rfl, tb_ty8, nmX8, by decide⟩
set_option maxRecDepth 20000 in
theorem fo_X8_119 : ma_FO RX8 119 8 2 := ⟨(RX8, TX8, 48), rfl, by decide, tb_ws8, tb_m (i := 883) rfl, tb_ty8, nmX8, by decide⟩
set_option maxRecDepth 20000 in
theorem fo_X8_130 : ma_FO RX8 130 8 3 := ⟨(RX8, TX8, 48), rfl, by decide, tb_ws8, tb_m (i := 884) rfl, tb_ty8, nmX8, by decide⟩
set_option maxRecDepth 20000 in
theorem fo_X8_160 : ma_FO RX8 160 8 9 := ⟨(RX8, TX8, 48), rfl, by decide, tb_ws8, tb_m (i := 890) rfl, tb_ty8, nmX8, by decide⟩
set_option maxRecDepth 20000 in
theorem fo_X8_163 : ma_FO RX8 163 8 10 := ⟨(RX8, TX8, 48), rfl, by decide, tb_ws8, tb_m (i := 891) rfl, tb_ty8, nmX8, by decide⟩
set_option maxRecDepth 20000 in
theorem fo_X8_245 : ma_FO RX8 245 8 18 := ⟨(RX8, TX8, 48), rfl, by decide, tb_ws8, tb_m (i := 899) rfl, tb_ty8, nmX8, by decide⟩
set_option maxRecDepth 20000 in
theorem fo_X8_262 : ma_FO RX8 262 8 26 := ⟨(RX8, TX8, 48), rfl, by decide, tb_ws8, tb_m (i := 907) rfl, tb_ty8, nmX8, by decide⟩
set_option maxRecDepth 20000 in
theorem fo_X8_267 : ma_FO RX8 267 8 36 := ⟨(RX8, TX8, 48), rfl, by decide, tb_ws8, tb_m (i := 917) rfl, tb_ty8, nmX8, by decide⟩
set_option maxRecDepth 20000 in
theorem fo_X8_277 : ma_FO RX8 277 8 31 := ⟨(RX8, TX8, 48), rfl, by decide, tb_ws8, tb_m (i := 912) rfl, tb_ty8, nmX8, by decide⟩
set_option maxRecDepth 20000 in
theorem fo_X8_280 : ma_FO RX8 280 8 35 := ⟨(RX8, TX8, 48), rfl, by decide, tb_ws8, tb_m (i := 916) rfl, tb_ty8, nmX8, by decide⟩
set_option maxRecDepth 20000 in
theorem fo_X8_295 : ma_FO RX8 295 8 39 := ⟨(RX8, TX8, 48), rfl, by decide, tb_ws8, tb_m (i := 920) rfl, tb_ty8, nmX8, by decide⟩
set_option maxRecDepth 20000 in
theorem fo_X8_298 : ma_FO RX8 298 8 38 := ⟨(RX8, TX8, 48), rfl, by decide, tb_ws8, tb_m (i := 919) rfl, tb_ty8, nmX8, by decide⟩
set_option maxRecDepth 20000 in
theorem fo_X8_376 : ma_FO RX8 376 8 45 := ⟨(RX8, TX8, 48), rfl, by decide, tb_ws8, tb_m (i := 926) rfl, tb_ty8, nmX8, by decide⟩
set_option maxRecDepth 20000 in
theorem fo_X8_384 : ma_FO RX8 384 8 47 := ⟨(RX8, TX8, 48), rfl, by decide, tb_ws8, tb_m (i := 928) rfl, tb_ty8, nmX8, by decide⟩
set_option maxRecDepth 20000 in
theorem cm_J9_abs_067f4 : Cond.code yJ9_abs_067f4 cJ9_abs_067f4 2 (some .long) ∈ lw_tbl := tb_m (i := 622) rfl
set_option maxRecDepth 20000 in
theorem cs_J9_abs_067f4 : Cond.static yJ9_abs_067f4 ∈ lw_tbl := tb_m (i := 621) rfl
abbrev rJ9_abs_067f4 : Room := { frames := 0, cells := 0, slots := 0, locals := 0 }
set_option maxRecDepth 20000 in
theorem cm_J9_abs_0f7a4 : Cond.code yJ9_abs_0f7a4 cJ9_abs_0f7a4 1 (some .int) ∈ lw_tbl := tb_m (i := 761) rfl
set_option maxRecDepth 20000 in
theorem cs_J9_abs_0f7a4 : Cond.static yJ9_abs_0f7a4 ∈ lw_tbl := tb_m (i := 760) rfl
abbrev rJ9_abs_0f7a4 : Room := { frames := 0, cells := 0, slots := 0, locals := 0 }
set_option maxRecDepth 20000 in
theorem cm_J9_max_7cf53 : Cond.code yJ9_max_7cf53 cJ9_max_7cf53 2 (some .int) ∈ lw_tbl := tb_m (i := 425) rfl
set_option maxRecDepth 20000 in
theorem cs_J9_max_7cf53 : Cond.static yJ9_max_7cf53 ∈ lw_tbl := tb_m (i := 424) rfl
abbrev rJ9_max_7cf53 : Room := { frames := 0, cells := 0, slots := 0, locals := 0 }
set_option maxRecDepth 20000 in
theorem cm_J9_min_7cf53 : Cond.code yJ9_min_7cf53 cJ9_min_7cf53 2 (some .int) ∈ lw_tbl := tb_m (i := 764) rfl
set_option maxRecDepth 20000 in
theorem cs_J9_min_7cf53 : Cond.static yJ9_min_7cf53 ∈ lw_tbl := tb_m (i := 763) rfl
abbrev rJ9_min_7cf53 : Room := { frames := 0, cells := 0, slots := 0, locals := 0 }
set_option maxRecDepth 20000 in
theorem cm_X0_degree : Cond.code yX0_degree cX0_degree 2 (some .int) ∈ lw_tbl := tb_m (i := 665) rfl
set_option maxRecDepth 20000 in
theorem ci_X0_degree : Cond.instanceMethod yX0_degree ∈ lw_tbl := tb_m (i := 663) rfl
set_option maxRecDepth 20000 in
theorem cv_X0_degree : Cond.selects yX0_degree.cls yX0_degree yX0_degree ∈ lw_tbl := tb_m (i := 664) rfl
abbrev rX0_degree : Room := { frames := 0, cells := 0, slots := 0, locals := 0 }
set_option maxRecDepth 20000 in
theorem cm_X0_eightACLessThreeBB : Cond.code yX0_eightACLessThreeBB cX0_eightACLessThreeBB 1 (some .long) ∈ lw_tbl := tb_m (i := 699) rfl
set_option maxRecDepth 20000 in
theorem ci_X0_eightACLessThreeBB : Cond.instanceMethod yX0_eightACLessThreeBB ∈ lw_tbl := tb_m (i := 698) rfl
set_option maxRecDepth 20000 in
theorem cv_X0_eightACLessThreeBB : Cond.selects yX0_eightACLessThreeBB.cls yX0_eightACLessThreeBB yX0_eightACLessThreeBB ∈ lw_tbl := tb_m (i := 14) rfl
abbrev rX0_eightACLessThreeBB : Room := { frames := 0, cells := 0, slots := 0, locals := 0 }
set_option maxRecDepth 20000 in
theorem cm_X0_figures : Cond.code yX0_figures cX0_figures 1 (some .int) ∈ lw_tbl := tb_m (i := 673) rfl
set_option maxRecDepth 20000 in
theorem ci_X0_figures : Cond.instanceMethod yX0_figures ∈ lw_tbl := tb_m (i := 671) rfl
set_option maxRecDepth 20000 in
theorem cv_X0_figures : Cond.selects yX0_figures.cls yX0_figures yX0_figures ∈ lw_tbl := tb_m (i := 672) rfl
abbrev rX0_figures : Room := { frames := 3, cells := 0, slots := 0, locals := 75 }
set_option maxRecDepth 20000 in
theorem cm_X0_figuresOfFour : Cond.code yX0_figuresOfFour cX0_figuresOfFour 4 (some .int) ∈ lw_tbl := tb_m (i := 677) rfl
set_option maxRecDepth 20000 in
theorem ci_X0_figuresOfFour : Cond.instanceMethod yX0_figuresOfFour ∈ lw_tbl := tb_m (i := 676) rfl
set_option maxRecDepth 20000 in
theorem cv_X0_figuresOfFour : Cond.selects yX0_figuresOfFour.cls yX0_figuresOfFour yX0_figuresOfFour ∈ lw_tbl := tb_m (i := 12) rfl
abbrev rX0_figuresOfFour : Room := { frames := 2, cells := 0, slots := 0, locals := 52 }
set_option maxRecDepth 20000 in
theorem cm_X0_figuresOfThree : Cond.code yX0_figuresOfThree cX0_figuresOfThree 2 (some .int) ∈ lw_tbl := tb_m (i := 713) rfl
set_option maxRecDepth 20000 in
theorem ci_X0_figuresOfThree : Cond.instanceMethod yX0_figuresOfThree ∈ lw_tbl := tb_m (i := 712) rfl
set_option maxRecDepth 20000 in
theorem cv_X0_figuresOfThree : Cond.selects yX0_figuresOfThree.cls yX0_figuresOfThree yX0_figuresOfThree ∈ lw_tbl := tb_m (i := 17) rfl
abbrev rX0_figuresOfThree : Room := { frames := 2, cells := 0, slots := 0, locals := 50 }
set_option maxRecDepth 20000 in
theorem cm_X0_figuresOfTwo : Cond.code yX0_figuresOfTwo cX0_figuresOfTwo 2 (some .int) ∈ lw_tbl := tb_m (i := 717) rfl
set_option maxRecDepth 20000 in
theorem ci_X0_figuresOfTwo : Cond.instanceMethod yX0_figuresOfTwo ∈ lw_tbl := tb_m (i := 716) rfl
set_option maxRecDepth 20000 in
theorem cv_X0_figuresOfTwo : Cond.selects yX0_figuresOfTwo.cls yX0_figuresOfTwo yX0_figuresOfTwo ∈ lw_tbl := tb_m (i := 18) rfl
abbrev rX0_figuresOfTwo : Room := { frames := 1, cells := 0, slots := 0, locals := 21 }
set_option maxRecDepth 20000 in
theorem cm_X0_findFractions : Cond.code yX0_findFractions cX0_findFractions 5 none ∈ lw_tbl := tb_m (i := 730) rfl
set_option maxRecDepth 20000 in
theorem ci_X0_findFractions : Cond.instanceMethod yX0_findFractions ∈ lw_tbl := tb_m (i := 728) rfl
set_option maxRecDepth 20000 in
theorem cv_X0_findFractions : Cond.selects yX0_findFractions.cls yX0_findFractions yX0_findFractions ∈ lw_tbl := tb_m (i := 729) rfl
abbrev rX0_findFractions : Room := { frames := 3, cells := 0, slots := 0, locals := 76 }
set_option maxRecDepth 20000 in
theorem cm_X0_findFractionsBy : Cond.code yX0_findFractionsBy cX0_findFractionsBy 3 none ∈ lw_tbl := tb_m (i := 734) rfl
set_option maxRecDepth 20000 in
theorem ci_X0_findFractionsBy : Cond.instanceMethod yX0_findFractionsBy ∈ lw_tbl := tb_m (i := 733) rfl
set_option maxRecDepth 20000 in
theorem cv_X0_findFractionsBy : Cond.selects yX0_findFractionsBy.cls yX0_findFractionsBy yX0_findFractionsBy ∈ lw_tbl := tb_m (i := 19) rfl
abbrev rX0_findFractionsBy : Room := { frames := 2, cells := 0, slots := 0, locals := 54 }
set_option maxRecDepth 20000 in
theorem cm_X0_init : Cond.code yX0_init cX0_init 1 none ∈ lw_tbl := tb_m (i := 130) rfl
set_option maxRecDepth 20000 in
theorem ci_X0_init : Cond.instanceMethod yX0_init ∈ lw_tbl := tb_m (i := 129) rfl
abbrev rX0_init : Room := { frames := 2, cells := 13, slots := 73, locals := 40 }
set_option maxRecDepth 20000 in
theorem cm_X0_isNought : Cond.code yX0_isNought cX0_isNought 1 (some .boolean) ∈ lw_tbl := tb_m (i := 661) rfl
set_option maxRecDepth 20000 in
theorem ci_X0_isNought : Cond.instanceMethod yX0_isNought ∈ lw_tbl := tb_m (i := 659) rfl
set_option maxRecDepth 20000 in
theorem cv_X0_isNought : Cond.selects yX0_isNought.cls yX0_isNought yX0_isNought ∈ lw_tbl := tb_m (i := 660) rfl
abbrev rX0_isNought : Room := { frames := 1, cells := 0, slots := 0, locals := 21 }
set_option maxRecDepth 20000 in
theorem cm_X0_keepFraction : Cond.code yX0_keepFraction cX0_keepFraction 4 none ∈ lw_tbl := tb_m (i := 746) rfl
set_option maxRecDepth 20000 in
theorem ci_X0_keepFraction : Cond.instanceMethod yX0_keepFraction ∈ lw_tbl := tb_m (i := 745) rfl
set_option maxRecDepth 20000 in
theorem cv_X0_keepFraction : Cond.selects yX0_keepFraction.cls yX0_keepFraction yX0_keepFraction ∈ lw_tbl := tb_m (i := 20) rfl
abbrev rX0_keepFraction : Room := { frames := 0, cells := 0, slots := 0, locals := 0 }
set_option maxRecDepth 20000 in
theorem cm_X0_leaning : Cond.code yX0_leaning cX0_leaning 1 (some .long) ∈ lw_tbl := tb_m (i := 708) rfl
set_option maxRecDepth 20000 in
theorem ci_X0_leaning : Cond.instanceMethod yX0_leaning ∈ lw_tbl := tb_m (i := 707) rfl
set_option maxRecDepth 20000 in
theorem cv_X0_leaning : Cond.selects yX0_leaning.cls yX0_leaning yX0_leaning ∈ lw_tbl := tb_m (i := 16) rfl
abbrev rX0_leaning : Room := { frames := 0, cells := 0, slots := 0, locals := 0 }
set_option maxRecDepth 20000 in
theorem cm_X0_meetingOfBalls : Cond.code yX0_meetingOfBalls cX0_meetingOfBalls 2 (some .int) ∈ lw_tbl := tb_m (i := 784) rfl
set_option maxRecDepth 20000 in
theorem ci_X0_meetingOfBalls : Cond.instanceMethod yX0_meetingOfBalls ∈ lw_tbl := tb_m (i := 782) rfl
set_option maxRecDepth 20000 in
theorem cv_X0_meetingOfBalls : Cond.selects yX0_meetingOfBalls.cls yX0_meetingOfBalls yX0_meetingOfBalls ∈ lw_tbl := tb_m (i := 783) rfl
abbrev rX0_meetingOfBalls : Room := { frames := 4, cells := 0, slots := 0, locals := 95 }
set_option maxRecDepth 20000 in
theorem cm_X0_read : Cond.code yX0_read cX0_read 23 none ∈ lw_tbl := tb_m (i := 634) rfl
set_option maxRecDepth 20000 in
theorem ci_X0_read : Cond.instanceMethod yX0_read ∈ lw_tbl := tb_m (i := 632) rfl
set_option maxRecDepth 20000 in
theorem cv_X0_read : Cond.selects yX0_read.cls yX0_read yX0_read ∈ lw_tbl := tb_m (i := 633) rfl
abbrev rX0_read : Room := { frames := 3, cells := 0, slots := 0, locals := 67 }
set_option maxRecDepth 20000 in
theorem cm_X0_realRoots : Cond.code yX0_realRoots cX0_realRoots 4 (some .int) ∈ lw_tbl := tb_m (i := 669) rfl
set_option maxRecDepth 20000 in
theorem ci_X0_realRoots : Cond.instanceMethod yX0_realRoots ∈ lw_tbl := tb_m (i := 667) rfl
set_option maxRecDepth 20000 in
theorem cv_X0_realRoots : Cond.selects yX0_realRoots.cls yX0_realRoots yX0_realRoots ∈ lw_tbl := tb_m (i := 668) rfl
abbrev rX0_realRoots : Room := { frames := 4, cells := 0, slots := 0, locals := 95 }
set_option maxRecDepth 20000 in
theorem cm_X0_signOfApartness : Cond.code yX0_signOfApartness cX0_signOfApartness 1 (some .int) ∈ lw_tbl := tb_m (i := 681) rfl
set_option maxRecDepth 20000 in
theorem ci_X0_signOfApartness : Cond.instanceMethod yX0_signOfApartness ∈ lw_tbl := tb_m (i := 680) rfl
set_option maxRecDepth 20000 in
theorem cv_X0_signOfApartness : Cond.selects yX0_signOfApartness.cls yX0_signOfApartness yX0_signOfApartness ∈ lw_tbl := tb_m (i := 13) rfl
abbrev rX0_signOfApartness : Room := { frames := 1, cells := 0, slots := 0, locals := 30 }
set_option maxRecDepth 20000 in
theorem cm_X0_signOfSpread : Cond.code yX0_signOfSpread cX0_signOfSpread 3 (some .int) ∈ lw_tbl := tb_m (i := 704) rfl
set_option maxRecDepth 20000 in
theorem ci_X0_signOfSpread : Cond.instanceMethod yX0_signOfSpread ∈ lw_tbl := tb_m (i := 703) rfl
set_option maxRecDepth 20000 in
theorem cv_X0_signOfSpread : Cond.selects yX0_signOfSpread.cls yX0_signOfSpread yX0_signOfSpread ∈ lw_tbl := tb_m (i := 15) rfl
abbrev rX0_signOfSpread : Room := { frames := 1, cells := 0, slots := 0, locals := 30 }
set_option maxRecDepth 20000 in
theorem cm_X0_singleRoots : Cond.code yX0_singleRoots cX0_singleRoots 6 (some .int) ∈ lw_tbl := tb_m (i := 772) rfl
set_option maxRecDepth 20000 in
theorem ci_X0_singleRoots : Cond.instanceMethod yX0_singleRoots ∈ lw_tbl := tb_m (i := 770) rfl
set_option maxRecDepth 20000 in
theorem cv_X0_singleRoots : Cond.selects yX0_singleRoots.cls yX0_singleRoots yX0_singleRoots ∈ lw_tbl := tb_m (i := 771) rfl
abbrev rX0_singleRoots : Room := { frames := 4, cells := 0, slots := 0, locals := 95 }
set_option maxRecDepth 20000 in
theorem cm_X0_timesAt : Cond.code yX0_timesAt cX0_timesAt 8 (some .int) ∈ lw_tbl := tb_m (i := 750) rfl
set_option maxRecDepth 20000 in
theorem ci_X0_timesAt : Cond.instanceMethod yX0_timesAt ∈ lw_tbl := tb_m (i := 748) rfl
set_option maxRecDepth 20000 in
theorem cv_X0_timesAt : Cond.selects yX0_timesAt.cls yX0_timesAt yX0_timesAt ∈ lw_tbl := tb_m (i := 749) rfl
abbrev rX0_timesAt : Room := { frames := 1, cells := 0, slots := 0, locals := 30 }
set_option maxRecDepth 20000 in
theorem cm_X0_valueBy : Cond.code yX0_valueBy cX0_valueBy 11 (some .long) ∈ lw_tbl := tb_m (i := 741) rfl
set_option maxRecDepth 20000 in
theorem cs_X0_valueBy : Cond.static yX0_valueBy ∈ lw_tbl := tb_m (i := 740) rfl
abbrev rX0_valueBy : Room := { frames := 0, cells := 0, slots := 0, locals := 0 }
set_option maxRecDepth 20000 in
theorem cm_X0_worthAt : Cond.code yX0_worthAt cX0_worthAt 5 (some .long) ∈ lw_tbl := tb_m (i := 738) rfl
set_option maxRecDepth 20000 in
theorem ci_X0_worthAt : Cond.instanceMethod yX0_worthAt ∈ lw_tbl := tb_m (i := 736) rfl
set_option maxRecDepth 20000 in
theorem cv_X0_worthAt : Cond.selects yX0_worthAt.cls yX0_worthAt yX0_worthAt ∈ lw_tbl := tb_m (i := 737) rfl
abbrev rX0_worthAt : Room := { frames := 1, cells := 0, slots := 0, locals := 30 }
set_option maxRecDepth 20000 in
theorem cm_X0_worthOf : Cond.code yX0_worthOf cX0_worthOf 5 (some .long) ∈ lw_tbl := tb_m (i := 638) rfl
set_option maxRecDepth 20000 in
theorem ci_X0_worthOf : Cond.instanceMethod yX0_worthOf ∈ lw_tbl := tb_m (i := 637) rfl
set_option maxRecDepth 20000 in
theorem cv_X0_worthOf : Cond.selects yX0_worthOf.cls yX0_worthOf yX0_worthOf ∈ lw_tbl := tb_m (i := 11) rfl
abbrev rX0_worthOf : Room := { frames := 2, cells := 0, slots := 0, locals := 43 }
set_option maxRecDepth 20000 in
theorem cm_X1_above : Cond.code yX1_above cX1_above 1 (some .int) ∈ lw_tbl := tb_m (i := 433) rfl
set_option maxRecDepth 20000 in
theorem ci_X1_above : Cond.instanceMethod yX1_above ∈ lw_tbl := tb_m (i := 431) rfl
set_option maxRecDepth 20000 in
theorem cv_X1_above : Cond.selects yX1_above.cls yX1_above yX1_above ∈ lw_tbl := tb_m (i := 432) rfl
abbrev rX1_above : Room := { frames := 0, cells := 0, slots := 0, locals := 0 }
set_option maxRecDepth 20000 in
theorem cm_X1_addTo : Cond.code yX1_addTo cX1_addTo 6 (some .long) ∈ lw_tbl := tb_m (i := 864) rfl
set_option maxRecDepth 20000 in
theorem ci_X1_addTo : Cond.instanceMethod yX1_addTo ∈ lw_tbl := tb_m (i := 862) rfl
set_option maxRecDepth 20000 in
theorem cv_X1_addTo : Cond.selects yX1_addTo.cls yX1_addTo yX1_addTo ∈ lw_tbl := tb_m (i := 863) rfl
abbrev rX1_addTo : Room := { frames := 1, cells := 0, slots := 0, locals := 21 }
set_option maxRecDepth 20000 in
theorem cm_X1_becomes : Cond.code yX1_becomes cX1_becomes 3 (some .int) ∈ lw_tbl := tb_m (i := 382) rfl
set_option maxRecDepth 20000 in
theorem ci_X1_becomes : Cond.instanceMethod yX1_becomes ∈ lw_tbl := tb_m (i := 380) rfl
set_option maxRecDepth 20000 in
theorem cv_X1_becomes : Cond.selects yX1_becomes.cls yX1_becomes yX1_becomes ∈ lw_tbl := tb_m (i := 381) rfl
abbrev rX1_becomes : Room := { frames := 3, cells := 0, slots := 0, locals := 66 }
set_option maxRecDepth 20000 in
theorem cm_X1_below : Cond.code yX1_below cX1_below 1 (some .int) ∈ lw_tbl := tb_m (i := 437) rfl
set_option maxRecDepth 20000 in
theorem ci_X1_below : Cond.instanceMethod yX1_below ∈ lw_tbl := tb_m (i := 435) rfl
set_option maxRecDepth 20000 in
theorem cv_X1_below : Cond.selects yX1_below.cls yX1_below yX1_below ∈ lw_tbl := tb_m (i := 436) rfl
abbrev rX1_below : Room := { frames := 0, cells := 0, slots := 0, locals := 0 }
set_option maxRecDepth 20000 in
theorem cm_X1_changesSign : Cond.code yX1_changesSign cX1_changesSign 1 (some .boolean) ∈ lw_tbl := tb_m (i := 481) rfl
set_option maxRecDepth 20000 in
theorem ci_X1_changesSign : Cond.instanceMethod yX1_changesSign ∈ lw_tbl := tb_m (i := 479) rfl
set_option maxRecDepth 20000 in
theorem cv_X1_changesSign : Cond.selects yX1_changesSign.cls yX1_changesSign yX1_changesSign ∈ lw_tbl := tb_m (i := 480) rfl
abbrev rX1_changesSign : Room := { frames := 1, cells := 0, slots := 0, locals := 20 }
set_option maxRecDepth 20000 in
theorem cm_X1_init : Cond.code yX1_init cX1_init 1 none ∈ lw_tbl := tb_m (i := 241) rfl
set_option maxRecDepth 20000 in
theorem ci_X1_init : Cond.instanceMethod yX1_init ∈ lw_tbl := tb_m (i := 240) rfl
abbrev rX1_init : Room := { frames := 2, cells := 4, slots := 37, locals := 40 }
set_option maxRecDepth 20000 in
theorem cm_X1_is : Cond.code yX1_is cX1_is 2 (some .boolean) ∈ lw_tbl := tb_m (i := 476) rfl
set_option maxRecDepth 20000 in
theorem ci_X1_is : Cond.instanceMethod yX1_is ∈ lw_tbl := tb_m (i := 474) rfl
set_option maxRecDepth 20000 in
theorem cv_X1_is : Cond.selects yX1_is.cls yX1_is yX1_is ∈ lw_tbl := tb_m (i := 475) rfl
abbrev rX1_is : Room := { frames := 1, cells := 0, slots := 0, locals := 20 }
set_option maxRecDepth 20000 in
theorem cm_X1_kind : Cond.code yX1_kind cX1_kind 1 (some .int) ∈ lw_tbl := tb_m (i := 445) rfl
set_option maxRecDepth 20000 in
theorem ci_X1_kind : Cond.instanceMethod yX1_kind ∈ lw_tbl := tb_m (i := 443) rfl
set_option maxRecDepth 20000 in
theorem cv_X1_kind : Cond.selects yX1_kind.cls yX1_kind yX1_kind ∈ lw_tbl := tb_m (i := 444) rfl
abbrev rX1_kind : Room := { frames := 0, cells := 0, slots := 0, locals := 0 }
set_option maxRecDepth 20000 in
theorem cm_X1_kindBySigns : Cond.code yX1_kindBySigns cX1_kindBySigns 3 (some .int) ∈ lw_tbl := tb_m (i := 429) rfl
set_option maxRecDepth 20000 in
theorem ci_X1_kindBySigns : Cond.instanceMethod yX1_kindBySigns ∈ lw_tbl := tb_m (i := 428) rfl
set_option maxRecDepth 20000 in
theorem cv_X1_kindBySigns : Cond.selects yX1_kindBySigns.cls yX1_kindBySigns yX1_kindBySigns ∈ lw_tbl := tb_m (i := 3) rfl
abbrev rX1_kindBySigns : Room := { frames := 1, cells := 0, slots := 0, locals := 20 }
set_option maxRecDepth 20000 in
theorem cm_X1_lesserWorth : Cond.code yX1_lesserWorth cX1_lesserWorth 1 (some .int) ∈ lw_tbl := tb_m (i := 607) rfl
set_option maxRecDepth 20000 in
theorem ci_X1_lesserWorth : Cond.instanceMethod yX1_lesserWorth ∈ lw_tbl := tb_m (i := 605) rfl
set_option maxRecDepth 20000 in
theorem cv_X1_lesserWorth : Cond.selects yX1_lesserWorth.cls yX1_lesserWorth yX1_lesserWorth ∈ lw_tbl := tb_m (i := 606) rfl
abbrev rX1_lesserWorth : Room := { frames := 0, cells := 0, slots := 0, locals := 0 }
set_option maxRecDepth 20000 in
theorem cm_X1_name : Cond.code yX1_name cX1_name 1 (some .int) ∈ lw_tbl := tb_m (i := 540) rfl
set_option maxRecDepth 20000 in
theorem ci_X1_name : Cond.instanceMethod yX1_name ∈ lw_tbl := tb_m (i := 538) rfl
set_option maxRecDepth 20000 in
theorem cv_X1_name : Cond.selects yX1_name.cls yX1_name yX1_name ∈ lw_tbl := tb_m (i := 539) rfl
abbrev rX1_name : Room := { frames := 0, cells := 0, slots := 0, locals := 0 }
set_option maxRecDepth 20000 in
theorem cm_X1_nameBy : Cond.code yX1_nameBy cX1_nameBy 4 (some .int) ∈ lw_tbl := tb_m (i := 422) rfl
set_option maxRecDepth 20000 in
theorem cs_X1_nameBy : Cond.static yX1_nameBy ∈ lw_tbl := tb_m (i := 421) rfl
abbrev rX1_nameBy : Room := { frames := 0, cells := 0, slots := 0, locals := 0 }
set_option maxRecDepth 20000 in
theorem cm_X1_nought : Cond.code yX1_nought cX1_nought 1 (some .int) ∈ lw_tbl := tb_m (i := 441) rfl
set_option maxRecDepth 20000 in
theorem ci_X1_nought : Cond.instanceMethod yX1_nought ∈ lw_tbl := tb_m (i := 439) rfl
set_option maxRecDepth 20000 in
theorem cv_X1_nought : Cond.selects yX1_nought.cls yX1_nought yX1_nought ∈ lw_tbl := tb_m (i := 440) rfl
abbrev rX1_nought : Room := { frames := 0, cells := 0, slots := 0, locals := 0 }
set_option maxRecDepth 20000 in
theorem cm_X1_worth : Cond.code yX1_worth cX1_worth 1 (some .int) ∈ lw_tbl := tb_m (i := 490) rfl
set_option maxRecDepth 20000 in
theorem ci_X1_worth : Cond.instanceMethod yX1_worth ∈ lw_tbl := tb_m (i := 488) rfl
set_option maxRecDepth 20000 in
theorem cv_X1_worth : Cond.selects yX1_worth.cls yX1_worth yX1_worth ∈ lw_tbl := tb_m (i := 489) rfl
abbrev rX1_worth : Room := { frames := 0, cells := 0, slots := 0, locals := 0 }
set_option maxRecDepth 20000 in
theorem cm_X2_init : Cond.code yX2_init cX2_init 1 none ∈ lw_tbl := tb_m (i := 213) rfl
set_option maxRecDepth 20000 in
theorem ci_X2_init : Cond.instanceMethod yX2_init ∈ lw_tbl := tb_m (i := 212) rfl
abbrev rX2_init : Room := { frames := 1, cells := 1, slots := 300, locals := 20 }
set_option maxRecDepth 20000 in
theorem cm_X2_keep : Cond.code yX2_keep cX2_keep 4 none ∈ lw_tbl := tb_m (i := 815) rfl
set_option maxRecDepth 20000 in
theorem ci_X2_keep : Cond.instanceMethod yX2_keep ∈ lw_tbl := tb_m (i := 814) rfl
set_option maxRecDepth 20000 in
theorem cv_X2_keep : Cond.selects yX2_keep.cls yX2_keep yX2_keep ∈ lw_tbl := tb_m (i := 22) rfl
abbrev rX2_keep : Room := { frames := 0, cells := 0, slots := 0, locals := 0 }
set_option maxRecDepth 20000 in
theorem cm_X2_seek : Cond.code yX2_seek cX2_seek 8 (some .int) ∈ lw_tbl := tb_m (i := 802) rfl
set_option maxRecDepth 20000 in
theorem ci_X2_seek : Cond.instanceMethod yX2_seek ∈ lw_tbl := tb_m (i := 800) rfl
set_option maxRecDepth 20000 in
theorem cv_X2_seek : Cond.selects yX2_seek.cls yX2_seek yX2_seek ∈ lw_tbl := tb_m (i := 801) rfl
abbrev rX2_seek : Room := { frames := 1, cells := 0, slots := 0, locals := 24 }
set_option maxRecDepth 20000 in
theorem cm_X3_addTo : Cond.code yX3_addTo cX3_addTo 6 (some .long) ∈ lw_tbl := tb_m (i := 873) rfl
set_option maxRecDepth 20000 in
theorem ci_X3_addTo : Cond.instanceMethod yX3_addTo ∈ lw_tbl := tb_m (i := 871) rfl
set_option maxRecDepth 20000 in
theorem cv_X3_addTo : Cond.selects yX3_addTo.cls yX3_addTo yX3_addTo ∈ lw_tbl := tb_m (i := 872) rfl
abbrev rX3_addTo : Room := { frames := 0, cells := 0, slots := 0, locals := 0 }
set_option maxRecDepth 20000 in
theorem cm_X3_begin : Cond.code yX3_begin cX3_begin 3 none ∈ lw_tbl := tb_m (i := 327) rfl
set_option maxRecDepth 20000 in
theorem ci_X3_begin : Cond.instanceMethod yX3_begin ∈ lw_tbl := tb_m (i := 325) rfl
set_option maxRecDepth 20000 in
theorem cv_X3_begin : Cond.selects yX3_begin.cls yX3_begin yX3_begin ∈ lw_tbl := tb_m (i := 326) rfl
abbrev rX3_begin : Room := { frames := 0, cells := 0, slots := 0, locals := 0 }
set_option maxRecDepth 20000 in
theorem cm_X3_end : Cond.code yX3_end cX3_end 1 none ∈ lw_tbl := tb_m (i := 343) rfl
set_option maxRecDepth 20000 in
theorem ci_X3_end : Cond.instanceMethod yX3_end ∈ lw_tbl := tb_m (i := 341) rfl
set_option maxRecDepth 20000 in
theorem cv_X3_end : Cond.selects yX3_end.cls yX3_end yX3_end ∈ lw_tbl := tb_m (i := 342) rfl
abbrev rX3_end : Room := { frames := 1, cells := 0, slots := 0, locals := 22 }
set_option maxRecDepth 20000 in
theorem cm_X3_goesBeyond : Cond.code yX3_goesBeyond cX3_goesBeyond 4 (some .boolean) ∈ lw_tbl := tb_m (i := 366) rfl
set_option maxRecDepth 20000 in
theorem ci_X3_goesBeyond : Cond.instanceMethod yX3_goesBeyond ∈ lw_tbl := tb_m (i := 364) rfl
set_option maxRecDepth 20000 in
theorem cv_X3_goesBeyond : Cond.selects yX3_goesBeyond.cls yX3_goesBeyond yX3_goesBeyond ∈ lw_tbl := tb_m (i := 365) rfl
abbrev rX3_goesBeyond : Room := { frames := 0, cells := 0, slots := 0, locals := 0 }
set_option maxRecDepth 20000 in
theorem cm_X3_hasFrom : Cond.code yX3_hasFrom cX3_hasFrom 3 (some .boolean) ∈ lw_tbl := tb_m (i := 352) rfl
set_option maxRecDepth 20000 in
theorem ci_X3_hasFrom : Cond.instanceMethod yX3_hasFrom ∈ lw_tbl := tb_m (i := 350) rfl
set_option maxRecDepth 20000 in
theorem cv_X3_hasFrom : Cond.selects yX3_hasFrom.cls yX3_hasFrom yX3_hasFrom ∈ lw_tbl := tb_m (i := 351) rfl
abbrev rX3_hasFrom : Room := { frames := 0, cells := 0, slots := 0, locals := 0 }
set_option maxRecDepth 20000 in
theorem cm_X3_init : Cond.code yX3_init cX3_init 1 none ∈ lw_tbl := tb_m (i := 227) rfl
set_option maxRecDepth 20000 in
theorem ci_X3_init : Cond.instanceMethod yX3_init ∈ lw_tbl := tb_m (i := 226) rfl
abbrev rX3_init : Room := { frames := 1, cells := 1, slots := 16, locals := 20 }
set_option maxRecDepth 20000 in
theorem cm_X3_isBlank : Cond.code yX3_isBlank cX3_isBlank 3 (some .boolean) ∈ lw_tbl := tb_m (i := 370) rfl
set_option maxRecDepth 20000 in
theorem ci_X3_isBlank : Cond.instanceMethod yX3_isBlank ∈ lw_tbl := tb_m (i := 368) rfl
set_option maxRecDepth 20000 in
theorem cv_X3_isBlank : Cond.selects yX3_isBlank.cls yX3_isBlank yX3_isBlank ∈ lw_tbl := tb_m (i := 369) rfl
abbrev rX3_isBlank : Room := { frames := 0, cells := 0, slots := 0, locals := 0 }
set_option maxRecDepth 20000 in
theorem cm_X3_missing : Cond.code yX3_missing cX3_missing 1 (some .boolean) ∈ lw_tbl := tb_m (i := 335) rfl
set_option maxRecDepth 20000 in
theorem ci_X3_missing : Cond.instanceMethod yX3_missing ∈ lw_tbl := tb_m (i := 333) rfl
set_option maxRecDepth 20000 in
theorem cv_X3_missing : Cond.selects yX3_missing.cls yX3_missing yX3_missing ∈ lw_tbl := tb_m (i := 334) rfl
abbrev rX3_missing : Room := { frames := 0, cells := 0, slots := 0, locals := 0 }
set_option maxRecDepth 20000 in
theorem cm_X4_become : Cond.code yX4_become cX4_become 3 none ∈ lw_tbl := tb_m (i := 386) rfl
set_option maxRecDepth 20000 in
theorem ci_X4_become : Cond.instanceMethod yX4_become ∈ lw_tbl := tb_m (i := 384) rfl
set_option maxRecDepth 20000 in
theorem cv_X4_become : Cond.selects yX4_become.cls yX4_become yX4_become ∈ lw_tbl := tb_m (i := 385) rfl
abbrev rX4_become : Room := { frames := 0, cells := 0, slots := 0, locals := 0 }
set_option maxRecDepth 20000 in
theorem cm_X4_cutBy : Cond.code yX4_cutBy cX4_cutBy 12 none ∈ lw_tbl := tb_m (i := 584) rfl
set_option maxRecDepth 20000 in
theorem ci_X4_cutBy : Cond.instanceMethod yX4_cutBy ∈ lw_tbl := tb_m (i := 582) rfl
set_option maxRecDepth 20000 in
theorem cv_X4_cutBy : Cond.selects yX4_cutBy.cls yX4_cutBy yX4_cutBy ∈ lw_tbl := tb_m (i := 583) rfl
abbrev rX4_cutBy : Room := { frames := 0, cells := 0, slots := 0, locals := 0 }
set_option maxRecDepth 20000 in
theorem cm_X4_exchange : Cond.code yX4_exchange cX4_exchange 5 none ∈ lw_tbl := tb_m (i := 528) rfl
set_option maxRecDepth 20000 in
theorem ci_X4_exchange : Cond.instanceMethod yX4_exchange ∈ lw_tbl := tb_m (i := 527) rfl
set_option maxRecDepth 20000 in
theorem cv_X4_exchange : Cond.selects yX4_exchange.cls yX4_exchange yX4_exchange ∈ lw_tbl := tb_m (i := 6) rfl
abbrev rX4_exchange : Room := { frames := 0, cells := 0, slots := 0, locals := 0 }
set_option maxRecDepth 20000 in
theorem cm_X4_goesBeyond : Cond.code yX4_goesBeyond cX4_goesBeyond 3 (some .boolean) ∈ lw_tbl := tb_m (i := 516) rfl
set_option maxRecDepth 20000 in
theorem ci_X4_goesBeyond : Cond.instanceMethod yX4_goesBeyond ∈ lw_tbl := tb_m (i := 514) rfl
set_option maxRecDepth 20000 in
theorem cv_X4_goesBeyond : Cond.selects yX4_goesBeyond.cls yX4_goesBeyond yX4_goesBeyond ∈ lw_tbl := tb_m (i := 515) rfl
abbrev rX4_goesBeyond : Room := { frames := 0, cells := 0, slots := 0, locals := 0 }
set_option maxRecDepth 20000 in
theorem cm_X4_init : Cond.code yX4_init cX4_init 1 none ∈ lw_tbl := tb_m (i := 98) rfl
set_option maxRecDepth 20000 in
theorem ci_X4_init : Cond.instanceMethod yX4_init ∈ lw_tbl := tb_m (i := 97) rfl
abbrev rX4_init : Room := { frames := 1, cells := 2, slots := 21, locals := 20 }
set_option maxRecDepth 20000 in
theorem cm_X4_isOnAt : Cond.code yX4_isOnAt cX4_isOnAt 3 (some .boolean) ∈ lw_tbl := tb_m (i := 811) rfl
set_option maxRecDepth 20000 in
theorem ci_X4_isOnAt : Cond.instanceMethod yX4_isOnAt ∈ lw_tbl := tb_m (i := 809) rfl
set_option maxRecDepth 20000 in
theorem cv_X4_isOnAt : Cond.selects yX4_isOnAt.cls yX4_isOnAt yX4_isOnAt ∈ lw_tbl := tb_m (i := 810) rfl
abbrev rX4_isOnAt : Room := { frames := 0, cells := 0, slots := 0, locals := 0 }
set_option maxRecDepth 20000 in
theorem cm_X4_isPoleless : Cond.code yX4_isPoleless cX4_isPoleless 3 (some .boolean) ∈ lw_tbl := tb_m (i := 599) rfl
set_option maxRecDepth 20000 in
theorem ci_X4_isPoleless : Cond.instanceMethod yX4_isPoleless ∈ lw_tbl := tb_m (i := 597) rfl
set_option maxRecDepth 20000 in
theorem cv_X4_isPoleless : Cond.selects yX4_isPoleless.cls yX4_isPoleless yX4_isPoleless ∈ lw_tbl := tb_m (i := 598) rfl
abbrev rX4_isPoleless : Room := { frames := 2, cells := 0, slots := 0, locals := 45 }
set_option maxRecDepth 20000 in
theorem cm_X4_minor2 : Cond.code yX4_minor2 cX4_minor2 3 (some .long) ∈ lw_tbl := tb_m (i := 394) rfl
set_option maxRecDepth 20000 in
theorem ci_X4_minor2 : Cond.instanceMethod yX4_minor2 ∈ lw_tbl := tb_m (i := 393) rfl
set_option maxRecDepth 20000 in
theorem cv_X4_minor2 : Cond.selects yX4_minor2.cls yX4_minor2 yX4_minor2 ∈ lw_tbl := tb_m (i := 1) rfl
abbrev rX4_minor2 : Room := { frames := 0, cells := 0, slots := 0, locals := 0 }
set_option maxRecDepth 20000 in
theorem cm_X4_minor3 : Cond.code yX4_minor3 cX4_minor3 7 (some .long) ∈ lw_tbl := tb_m (i := 398) rfl
set_option maxRecDepth 20000 in
theorem ci_X4_minor3 : Cond.instanceMethod yX4_minor3 ∈ lw_tbl := tb_m (i := 396) rfl
set_option maxRecDepth 20000 in
theorem cv_X4_minor3 : Cond.selects yX4_minor3.cls yX4_minor3 yX4_minor3 ∈ lw_tbl := tb_m (i := 397) rfl
abbrev rX4_minor3 : Room := { frames := 0, cells := 0, slots := 0, locals := 0 }
set_option maxRecDepth 20000 in
theorem cm_X4_moveBy : Cond.code yX4_moveBy cX4_moveBy 4 none ∈ lw_tbl := tb_m (i := 793) rfl
set_option maxRecDepth 20000 in
theorem ci_X4_moveBy : Cond.instanceMethod yX4_moveBy ∈ lw_tbl := tb_m (i := 791) rfl
set_option maxRecDepth 20000 in
theorem cv_X4_moveBy : Cond.selects yX4_moveBy.cls yX4_moveBy yX4_moveBy ∈ lw_tbl := tb_m (i := 792) rfl
abbrev rX4_moveBy : Room := { frames := 2, cells := 0, slots := 0, locals := 44 }
set_option maxRecDepth 20000 in
theorem cm_X4_pairOf : Cond.code yX4_pairOf cX4_pairOf 4 (some .long) ∈ lw_tbl := tb_m (i := 406) rfl
set_option maxRecDepth 20000 in
theorem ci_X4_pairOf : Cond.instanceMethod yX4_pairOf ∈ lw_tbl := tb_m (i := 405) rfl
set_option maxRecDepth 20000 in
theorem cv_X4_pairOf : Cond.selects yX4_pairOf.cls yX4_pairOf yX4_pairOf ∈ lw_tbl := tb_m (i := 2) rfl
abbrev rX4_pairOf : Room := { frames := 0, cells := 0, slots := 0, locals := 0 }
set_option maxRecDepth 20000 in
theorem cm_X4_poleNumber : Cond.code yX4_poleNumber cX4_poleNumber 6 (some .long) ∈ lw_tbl := tb_m (i := 560) rfl
set_option maxRecDepth 20000 in
theorem ci_X4_poleNumber : Cond.instanceMethod yX4_poleNumber ∈ lw_tbl := tb_m (i := 558) rfl
set_option maxRecDepth 20000 in
theorem cv_X4_poleNumber : Cond.selects yX4_poleNumber.cls yX4_poleNumber yX4_poleNumber ∈ lw_tbl := tb_m (i := 559) rfl
abbrev rX4_poleNumber : Room := { frames := 1, cells := 0, slots := 0, locals := 20 }
set_option maxRecDepth 20000 in
theorem cm_X4_product : Cond.code yX4_product cX4_product 6 (some .long) ∈ lw_tbl := tb_m (i := 556) rfl
set_option maxRecDepth 20000 in
theorem ci_X4_product : Cond.instanceMethod yX4_product ∈ lw_tbl := tb_m (i := 554) rfl
set_option maxRecDepth 20000 in
theorem cv_X4_product : Cond.selects yX4_product.cls yX4_product yX4_product ∈ lw_tbl := tb_m (i := 555) rfl
abbrev rX4_product : Room := { frames := 2, cells := 0, slots := 0, locals := 45 }
set_option maxRecDepth 20000 in
theorem cm_X4_putFarColumnAt : Cond.code yX4_putFarColumnAt cX4_putFarColumnAt 3 none ∈ lw_tbl := tb_m (i := 611) rfl
set_option maxRecDepth 20000 in
theorem ci_X4_putFarColumnAt : Cond.instanceMethod yX4_putFarColumnAt ∈ lw_tbl := tb_m (i := 609) rfl
set_option maxRecDepth 20000 in
theorem cv_X4_putFarColumnAt : Cond.selects yX4_putFarColumnAt.cls yX4_putFarColumnAt yX4_putFarColumnAt ∈ lw_tbl := tb_m (i := 610) rfl
abbrev rX4_putFarColumnAt : Room := { frames := 0, cells := 0, slots := 0, locals := 0 }
set_option maxRecDepth 20000 in
theorem cm_X4_readLesser : Cond.code yX4_readLesser cX4_readLesser 3 none ∈ lw_tbl := tb_m (i := 416) rfl
set_option maxRecDepth 20000 in
theorem ci_X4_readLesser : Cond.instanceMethod yX4_readLesser ∈ lw_tbl := tb_m (i := 414) rfl
set_option maxRecDepth 20000 in
theorem cv_X4_readLesser : Cond.selects yX4_readLesser.cls yX4_readLesser yX4_readLesser ∈ lw_tbl := tb_m (i := 415) rfl
abbrev rX4_readLesser : Room := { frames := 1, cells := 0, slots := 0, locals := 22 }
set_option maxRecDepth 20000 in
theorem cm_X4_readSigns : Cond.code yX4_readSigns cX4_readSigns 2 none ∈ lw_tbl := tb_m (i := 390) rfl
set_option maxRecDepth 20000 in
theorem ci_X4_readSigns : Cond.instanceMethod yX4_readSigns ∈ lw_tbl := tb_m (i := 388) rfl
set_option maxRecDepth 20000 in
theorem cv_X4_readSigns : Cond.selects yX4_readSigns.cls yX4_readSigns yX4_readSigns ∈ lw_tbl := tb_m (i := 389) rfl
abbrev rX4_readSigns : Room := { frames := 2, cells := 0, slots := 0, locals := 45 }
set_option maxRecDepth 20000 in
theorem cm_X4_readTen : Cond.code yX4_readTen cX4_readTen 3 none ∈ lw_tbl := tb_m (i := 374) rfl
set_option maxRecDepth 20000 in
theorem ci_X4_readTen : Cond.instanceMethod yX4_readTen ∈ lw_tbl := tb_m (i := 372) rfl
set_option maxRecDepth 20000 in
theorem cv_X4_readTen : Cond.selects yX4_readTen.cls yX4_readTen yX4_readTen ∈ lw_tbl := tb_m (i := 373) rfl
abbrev rX4_readTen : Room := { frames := 0, cells := 0, slots := 0, locals := 0 }
set_option maxRecDepth 20000 in
theorem cm_X4_shearBy : Cond.code yX4_shearBy cX4_shearBy 5 none ∈ lw_tbl := tb_m (i := 511) rfl
set_option maxRecDepth 20000 in
theorem ci_X4_shearBy : Cond.instanceMethod yX4_shearBy ∈ lw_tbl := tb_m (i := 509) rfl
set_option maxRecDepth 20000 in
theorem cv_X4_shearBy : Cond.selects yX4_shearBy.cls yX4_shearBy yX4_shearBy ∈ lw_tbl := tb_m (i := 510) rfl
abbrev rX4_shearBy : Room := { frames := 1, cells := 0, slots := 0, locals := 20 }
set_option maxRecDepth 20000 in
theorem cm_X4_sumOf : Cond.code yX4_sumOf cX4_sumOf 8 none ∈ lw_tbl := tb_m (i := 502) rfl
set_option maxRecDepth 20000 in
theorem ci_X4_sumOf : Cond.instanceMethod yX4_sumOf ∈ lw_tbl := tb_m (i := 500) rfl
set_option maxRecDepth 20000 in
theorem cv_X4_sumOf : Cond.selects yX4_sumOf.cls yX4_sumOf yX4_sumOf ∈ lw_tbl := tb_m (i := 501) rfl
abbrev rX4_sumOf : Room := { frames := 0, cells := 0, slots := 0, locals := 0 }
set_option maxRecDepth 20000 in
theorem cm_X4_swapLetters : Cond.code yX4_swapLetters cX4_swapLetters 4 none ∈ lw_tbl := tb_m (i := 524) rfl
set_option maxRecDepth 20000 in
theorem ci_X4_swapLetters : Cond.instanceMethod yX4_swapLetters ∈ lw_tbl := tb_m (i := 522) rfl
set_option maxRecDepth 20000 in
theorem cv_X4_swapLetters : Cond.selects yX4_swapLetters.cls yX4_swapLetters yX4_swapLetters ∈ lw_tbl := tb_m (i := 523) rfl
abbrev rX4_swapLetters : Room := { frames := 1, cells := 0, slots := 0, locals := 24 }
set_option maxRecDepth 20000 in
theorem cm_X4_tellAlong : Cond.code yX4_tellAlong cX4_tellAlong 5 none ∈ lw_tbl := tb_m (i := 806) rfl
set_option maxRecDepth 20000 in
theorem ci_X4_tellAlong : Cond.instanceMethod yX4_tellAlong ∈ lw_tbl := tb_m (i := 804) rfl
set_option maxRecDepth 20000 in
theorem cv_X4_tellAlong : Cond.selects yX4_tellAlong.cls yX4_tellAlong yX4_tellAlong ∈ lw_tbl := tb_m (i := 805) rfl
abbrev rX4_tellAlong : Room := { frames := 0, cells := 0, slots := 0, locals := 0 }
set_option maxRecDepth 20000 in
theorem cm_X4_ten : Cond.code yX4_ten cX4_ten 2 (some .long) ∈ lw_tbl := tb_m (i := 869) rfl
set_option maxRecDepth 20000 in
theorem ci_X4_ten : Cond.instanceMethod yX4_ten ∈ lw_tbl := tb_m (i := 867) rfl
set_option maxRecDepth 20000 in
theorem cv_X4_ten : Cond.selects yX4_ten.cls yX4_ten yX4_ten ∈ lw_tbl := tb_m (i := 868) rfl
abbrev rX4_ten : Room := { frames := 0, cells := 0, slots := 0, locals := 0 }
set_option maxRecDepth 20000 in
theorem cm_X4_worth : Cond.code yX4_worth cX4_worth 1 (some .long) ∈ lw_tbl := tb_m (i := 402) rfl
set_option maxRecDepth 20000 in
theorem ci_X4_worth : Cond.instanceMethod yX4_worth ∈ lw_tbl := tb_m (i := 400) rfl
set_option maxRecDepth 20000 in
theorem cv_X4_worth : Cond.selects yX4_worth.cls yX4_worth yX4_worth ∈ lw_tbl := tb_m (i := 401) rfl
abbrev rX4_worth : Room := { frames := 1, cells := 0, slots := 0, locals := 23 }
set_option maxRecDepth 20000 in
theorem cm_X5_init : Cond.code yX5_init cX5_init 4 none ∈ lw_tbl := tb_m (i := 187) rfl
set_option maxRecDepth 20000 in
theorem ci_X5_init : Cond.instanceMethod yX5_init ∈ lw_tbl := tb_m (i := 186) rfl
abbrev rX5_init : Room := { frames := 2, cells := 5, slots := 541, locals := 40 }
set_option maxRecDepth 20000 in
theorem cm_X5_walk : Cond.code yX5_walk cX5_walk 17 none ∈ lw_tbl := tb_m (i := 758) rfl
set_option maxRecDepth 20000 in
theorem ci_X5_walk : Cond.instanceMethod yX5_walk ∈ lw_tbl := tb_m (i := 756) rfl
set_option maxRecDepth 20000 in
theorem cv_X5_walk : Cond.selects yX5_walk.cls yX5_walk yX5_walk ∈ lw_tbl := tb_m (i := 757) rfl
abbrev rX5_walk : Room := { frames := 3, cells := 0, slots := 0, locals := 66 }
set_option maxRecDepth 20000 in
theorem cm_X6_against : Cond.code yX6_against cX6_against 3 (some .int) ∈ lw_tbl := tb_m (i := 695) rfl
set_option maxRecDepth 20000 in
theorem ci_X6_against : Cond.instanceMethod yX6_against ∈ lw_tbl := tb_m (i := 693) rfl
set_option maxRecDepth 20000 in
theorem cv_X6_against : Cond.selects yX6_against.cls yX6_against yX6_against ∈ lw_tbl := tb_m (i := 694) rfl
abbrev rX6_against : Room := { frames := 0, cells := 0, slots := 0, locals := 0 }
set_option maxRecDepth 20000 in
theorem cm_X6_begin : Cond.code yX6_begin cX6_begin 4 none ∈ lw_tbl := tb_m (i := 685) rfl
set_option maxRecDepth 20000 in
theorem ci_X6_begin : Cond.instanceMethod yX6_begin ∈ lw_tbl := tb_m (i := 683) rfl
set_option maxRecDepth 20000 in
theorem cv_X6_begin : Cond.selects yX6_begin.cls yX6_begin yX6_begin ∈ lw_tbl := tb_m (i := 684) rfl
abbrev rX6_begin : Room := { frames := 0, cells := 0, slots := 0, locals := 0 }
set_option maxRecDepth 20000 in
theorem cm_X6_init : Cond.code yX6_init cX6_init 1 none ∈ lw_tbl := tb_m (i := 138) rfl
set_option maxRecDepth 20000 in
theorem ci_X6_init : Cond.instanceMethod yX6_init ∈ lw_tbl := tb_m (i := 137) rfl
abbrev rX6_init : Room := { frames := 1, cells := 2, slots := 12, locals := 20 }
set_option maxRecDepth 20000 in
theorem cm_X6_multiply : Cond.code yX6_multiply cX6_multiply 11 none ∈ lw_tbl := tb_m (i := 690) rfl
set_option maxRecDepth 20000 in
theorem ci_X6_multiply : Cond.instanceMethod yX6_multiply ∈ lw_tbl := tb_m (i := 688) rfl
set_option maxRecDepth 20000 in
theorem cv_X6_multiply : Cond.selects yX6_multiply.cls yX6_multiply yX6_multiply ∈ lw_tbl := tb_m (i := 689) rfl
abbrev rX6_multiply : Room := { frames := 0, cells := 0, slots := 0, locals := 0 }
set_option maxRecDepth 20000 in
theorem cm_X7_alike : Cond.code yX7_alike cX7_alike 4 (some .int) ∈ lw_tbl := tb_m (i := 536) rfl
set_option maxRecDepth 20000 in
theorem ci_X7_alike : Cond.instanceMethod yX7_alike ∈ lw_tbl := tb_m (i := 534) rfl
set_option maxRecDepth 20000 in
theorem cv_X7_alike : Cond.selects yX7_alike.cls yX7_alike yX7_alike ∈ lw_tbl := tb_m (i := 535) rfl
abbrev rX7_alike : Room := { frames := 2, cells := 0, slots := 0, locals := 43 }
set_option maxRecDepth 20000 in
theorem cm_X7_apart : Cond.code yX7_apart cX7_apart 4 (some .int) ∈ lw_tbl := tb_m (i := 776) rfl
set_option maxRecDepth 20000 in
theorem ci_X7_apart : Cond.instanceMethod yX7_apart ∈ lw_tbl := tb_m (i := 774) rfl
set_option maxRecDepth 20000 in
theorem cv_X7_apart : Cond.selects yX7_apart.cls yX7_apart yX7_apart ∈ lw_tbl := tb_m (i := 775) rfl
abbrev rX7_apart : Room := { frames := 6, cells := 0, slots := 0, locals := 141 }
set_option maxRecDepth 20000 in
theorem cm_X7_asked : Cond.code yX7_asked cX7_asked 1 (some .int) ∈ lw_tbl := tb_m (i := 827) rfl
set_option maxRecDepth 20000 in
theorem ci_X7_asked : Cond.instanceMethod yX7_asked ∈ lw_tbl := tb_m (i := 825) rfl
set_option maxRecDepth 20000 in
theorem cv_X7_asked : Cond.selects yX7_asked.cls yX7_asked yX7_asked ∈ lw_tbl := tb_m (i := 826) rfl
abbrev rX7_asked : Room := { frames := 0, cells := 0, slots := 0, locals := 0 }
set_option maxRecDepth 20000 in
theorem cm_X7_between : Cond.code yX7_between cX7_between 6 (some .int) ∈ lw_tbl := tb_m (i := 754) rfl
set_option maxRecDepth 20000 in
theorem ci_X7_between : Cond.instanceMethod yX7_between ∈ lw_tbl := tb_m (i := 752) rfl
set_option maxRecDepth 20000 in
theorem cv_X7_between : Cond.selects yX7_between.cls yX7_between yX7_between ∈ lw_tbl := tb_m (i := 753) rfl
abbrev rX7_between : Room := { frames := 5, cells := 0, slots := 0, locals := 132 }
set_option maxRecDepth 20000 in
theorem cm_X7_commonPart : Cond.code yX7_commonPart cX7_commonPart 11 (some .long) ∈ lw_tbl := tb_m (i := 619) rfl
set_option maxRecDepth 20000 in
theorem cs_X7_commonPart : Cond.static yX7_commonPart ∈ lw_tbl := tb_m (i := 618) rfl
abbrev rX7_commonPart : Room := { frames := 1, cells := 0, slots := 0, locals := 21 }
set_option maxRecDepth 20000 in
theorem cm_X7_copy : Cond.code yX7_copy cX7_copy 8 (some .int) ∈ lw_tbl := tb_m (i := 348) rfl
set_option maxRecDepth 20000 in
theorem ci_X7_copy : Cond.instanceMethod yX7_copy ∈ lw_tbl := tb_m (i := 346) rfl
set_option maxRecDepth 20000 in
theorem cv_X7_copy : Cond.selects yX7_copy.cls yX7_copy yX7_copy ∈ lw_tbl := tb_m (i := 347) rfl
abbrev rX7_copy : Room := { frames := 1, cells := 0, slots := 0, locals := 60 }
set_option maxRecDepth 20000 in
theorem cm_X7_count : Cond.code yX7_count cX7_count 2 (some .int) ∈ lw_tbl := tb_m (i := 839) rfl
set_option maxRecDepth 20000 in
theorem ci_X7_count : Cond.instanceMethod yX7_count ∈ lw_tbl := tb_m (i := 837) rfl
set_option maxRecDepth 20000 in
theorem cv_X7_count : Cond.selects yX7_count.cls yX7_count yX7_count ∈ lw_tbl := tb_m (i := 838) rfl
abbrev rX7_count : Room := { frames := 3, cells := 0, slots := 0, locals := 64 }
set_option maxRecDepth 20000 in
theorem cm_X7_cut : Cond.code yX7_cut cX7_cut 4 (some .int) ∈ lw_tbl := tb_m (i := 580) rfl
set_option maxRecDepth 20000 in
theorem ci_X7_cut : Cond.instanceMethod yX7_cut ∈ lw_tbl := tb_m (i := 578) rfl
set_option maxRecDepth 20000 in
theorem cv_X7_cut : Cond.selects yX7_cut.cls yX7_cut yX7_cut ∈ lw_tbl := tb_m (i := 579) rfl
abbrev rX7_cut : Room := { frames := 3, cells := 0, slots := 0, locals := 69 }
set_option maxRecDepth 20000 in
theorem cm_X7_digest : Cond.code yX7_digest cX7_digest 4 (some .long) ∈ lw_tbl := tb_m (i := 859) rfl
set_option maxRecDepth 20000 in
theorem ci_X7_digest : Cond.instanceMethod yX7_digest ∈ lw_tbl := tb_m (i := 857) rfl
set_option maxRecDepth 20000 in
theorem cv_X7_digest : Cond.selects yX7_digest.cls yX7_digest yX7_digest ∈ lw_tbl := tb_m (i := 858) rfl
abbrev rX7_digest : Room := { frames := 2, cells := 0, slots := 0, locals := 46 }
set_option maxRecDepth 20000 in
theorem cm_X7_drop : Cond.code yX7_drop cX7_drop 3 (some .int) ∈ lw_tbl := tb_m (i := 449) rfl
set_option maxRecDepth 20000 in
theorem ci_X7_drop : Cond.instanceMethod yX7_drop ∈ lw_tbl := tb_m (i := 447) rfl
set_option maxRecDepth 20000 in
theorem cv_X7_drop : Cond.selects yX7_drop.cls yX7_drop yX7_drop ∈ lw_tbl := tb_m (i := 448) rfl
abbrev rX7_drop : Room := { frames := 3, cells := 0, slots := 0, locals := 64 }
set_option maxRecDepth 20000 in
theorem cm_X7_finding : Cond.code yX7_finding cX7_finding 1 (some .int) ∈ lw_tbl := tb_m (i := 851) rfl
set_option maxRecDepth 20000 in
theorem ci_X7_finding : Cond.instanceMethod yX7_finding ∈ lw_tbl := tb_m (i := 849) rfl
set_option maxRecDepth 20000 in
theorem cv_X7_finding : Cond.selects yX7_finding.cls yX7_finding yX7_finding ∈ lw_tbl := tb_m (i := 850) rfl
abbrev rX7_finding : Room := { frames := 0, cells := 0, slots := 0, locals := 0 }
set_option maxRecDepth 20000 in
theorem cm_X7_findings : Cond.code yX7_findings cX7_findings 2 (some .int) ∈ lw_tbl := tb_m (i := 855) rfl
set_option maxRecDepth 20000 in
theorem ci_X7_findings : Cond.instanceMethod yX7_findings ∈ lw_tbl := tb_m (i := 853) rfl
set_option maxRecDepth 20000 in
theorem cv_X7_findings : Cond.selects yX7_findings.cls yX7_findings yX7_findings ∈ lw_tbl := tb_m (i := 854) rfl
abbrev rX7_findings : Room := { frames := 0, cells := 0, slots := 0, locals := 0 }
set_option maxRecDepth 20000 in
theorem cm_X7_first : Cond.code yX7_first cX7_first 7 (some .int) ∈ lw_tbl := tb_m (i := 789) rfl
set_option maxRecDepth 20000 in
theorem ci_X7_first : Cond.instanceMethod yX7_first ∈ lw_tbl := tb_m (i := 787) rfl
set_option maxRecDepth 20000 in
theorem cv_X7_first : Cond.selects yX7_first.cls yX7_first yX7_first ∈ lw_tbl := tb_m (i := 788) rfl
abbrev rX7_first : Room := { frames := 6, cells := 0, slots := 0, locals := 141 }
set_option maxRecDepth 20000 in
theorem cm_X7_form : Cond.code yX7_form cX7_form 6 (some .int) ∈ lw_tbl := tb_m (i := 626) rfl
set_option maxRecDepth 20000 in
theorem ci_X7_form : Cond.instanceMethod yX7_form ∈ lw_tbl := tb_m (i := 624) rfl
set_option maxRecDepth 20000 in
theorem cv_X7_form : Cond.selects yX7_form.cls yX7_form yX7_form ∈ lw_tbl := tb_m (i := 625) rfl
abbrev rX7_form : Room := { frames := 5, cells := 0, slots := 0, locals := 132 }
set_option maxRecDepth 20000 in
theorem cm_X7_formTold : Cond.code yX7_formTold cX7_formTold 2 (some .int) ∈ lw_tbl := tb_m (i := 653) rfl
set_option maxRecDepth 20000 in
theorem ci_X7_formTold : Cond.instanceMethod yX7_formTold ∈ lw_tbl := tb_m (i := 651) rfl
set_option maxRecDepth 20000 in
theorem cv_X7_formTold : Cond.selects yX7_formTold.cls yX7_formTold yX7_formTold ∈ lw_tbl := tb_m (i := 652) rfl
abbrev rX7_formTold : Room := { frames := 0, cells := 0, slots := 0, locals := 0 }
set_option maxRecDepth 20000 in
theorem cm_X7_ground : Cond.code yX7_ground cX7_ground 4 (some .int) ∈ lw_tbl := tb_m (i := 359) rfl
set_option maxRecDepth 20000 in
theorem ci_X7_ground : Cond.instanceMethod yX7_ground ∈ lw_tbl := tb_m (i := 357) rfl
set_option maxRecDepth 20000 in
theorem cv_X7_ground : Cond.selects yX7_ground.cls yX7_ground yX7_ground ∈ lw_tbl := tb_m (i := 358) rfl
abbrev rX7_ground : Room := { frames := 4, cells := 0, slots := 0, locals := 88 }
set_option maxRecDepth 20000 in
theorem cm_X7_groundsThere : Cond.code yX7_groundsThere cX7_groundsThere 4 (some .int) ∈ lw_tbl := tb_m (i := 847) rfl
set_option maxRecDepth 20000 in
theorem ci_X7_groundsThere : Cond.instanceMethod yX7_groundsThere ∈ lw_tbl := tb_m (i := 846) rfl
set_option maxRecDepth 20000 in
theorem cv_X7_groundsThere : Cond.selects yX7_groundsThere.cls yX7_groundsThere yX7_groundsThere ∈ lw_tbl := tb_m (i := 24) rfl
abbrev rX7_groundsThere : Room := { frames := 2, cells := 0, slots := 0, locals := 41 }
set_option maxRecDepth 20000 in
theorem cm_X7_init : Cond.code yX7_init cX7_init 2 none ∈ lw_tbl := tb_m (i := 86) rfl
set_option maxRecDepth 20000 in
theorem ci_X7_init : Cond.instanceMethod yX7_init ∈ lw_tbl := tb_m (i := 85) rfl
abbrev rX7_init : Room := { frames := 3, cells := 111, slots := 1651, locals := 63 }
set_option maxRecDepth 20000 in
theorem cm_X7_isSquare : Cond.code yX7_isSquare cX7_isSquare 2 (some .boolean) ∈ lw_tbl := tb_m (i := 493) rfl
set_option maxRecDepth 20000 in
theorem cs_X7_isSquare : Cond.static yX7_isSquare ∈ lw_tbl := tb_m (i := 492) rfl
abbrev rX7_isSquare : Room := { frames := 0, cells := 0, slots := 0, locals := 0 }
set_option maxRecDepth 20000 in
theorem cm_X7_lay : Cond.code yX7_lay cX7_lay 5 (some .int) ∈ lw_tbl := tb_m (i := 331) rfl
set_option maxRecDepth 20000 in
theorem ci_X7_lay : Cond.instanceMethod yX7_lay ∈ lw_tbl := tb_m (i := 329) rfl
set_option maxRecDepth 20000 in
theorem cv_X7_lay : Cond.selects yX7_lay.cls yX7_lay yX7_lay ∈ lw_tbl := tb_m (i := 330) rfl
abbrev rX7_lay : Room := { frames := 1, cells := 0, slots := 0, locals := 21 }
set_option maxRecDepth 20000 in
theorem cm_X7_line : Cond.code yX7_line cX7_line 12 (some .int) ∈ lw_tbl := tb_m (i := 569) rfl
set_option maxRecDepth 20000 in
theorem ci_X7_line : Cond.instanceMethod yX7_line ∈ lw_tbl := tb_m (i := 567) rfl
set_option maxRecDepth 20000 in
theorem cv_X7_line : Cond.selects yX7_line.cls yX7_line yX7_line ∈ lw_tbl := tb_m (i := 568) rfl
abbrev rX7_line : Room := { frames := 3, cells := 0, slots := 0, locals := 70 }
set_option maxRecDepth 20000 in
theorem cm_X7_lineTold : Cond.code yX7_lineTold cX7_lineTold 2 (some .int) ∈ lw_tbl := tb_m (i := 576) rfl
set_option maxRecDepth 20000 in
theorem ci_X7_lineTold : Cond.instanceMethod yX7_lineTold ∈ lw_tbl := tb_m (i := 574) rfl
set_option maxRecDepth 20000 in
theorem cv_X7_lineTold : Cond.selects yX7_lineTold.cls yX7_lineTold yX7_lineTold ∈ lw_tbl := tb_m (i := 575) rfl
abbrev rX7_lineTold : Room := { frames := 0, cells := 0, slots := 0, locals := 0 }
set_option maxRecDepth 20000 in
theorem cm_X7_lines : Cond.code yX7_lines cX7_lines 5 (some .int) ∈ lw_tbl := tb_m (i := 594) rfl
set_option maxRecDepth 20000 in
theorem ci_X7_lines : Cond.instanceMethod yX7_lines ∈ lw_tbl := tb_m (i := 592) rfl
set_option maxRecDepth 20000 in
theorem cv_X7_lines : Cond.selects yX7_lines.cls yX7_lines yX7_lines ∈ lw_tbl := tb_m (i := 593) rfl
abbrev rX7_lines : Room := { frames := 3, cells := 0, slots := 0, locals := 70 }
set_option maxRecDepth 20000 in
theorem cm_X7_lower : Cond.code yX7_lower cX7_lower 1 (some .long) ∈ lw_tbl := tb_m (i := 835) rfl
set_option maxRecDepth 20000 in
theorem ci_X7_lower : Cond.instanceMethod yX7_lower ∈ lw_tbl := tb_m (i := 833) rfl
set_option maxRecDepth 20000 in
theorem cv_X7_lower : Cond.selects yX7_lower.cls yX7_lower yX7_lower ∈ lw_tbl := tb_m (i := 834) rfl
abbrev rX7_lower : Room := { frames := 0, cells := 0, slots := 0, locals := 0 }
set_option maxRecDepth 20000 in
theorem cm_X7_mark : Cond.code yX7_mark cX7_mark 5 (some .int) ∈ lw_tbl := tb_m (i := 472) rfl
set_option maxRecDepth 20000 in
theorem ci_X7_mark : Cond.instanceMethod yX7_mark ∈ lw_tbl := tb_m (i := 470) rfl
set_option maxRecDepth 20000 in
theorem cv_X7_mark : Cond.selects yX7_mark.cls yX7_mark yX7_mark ∈ lw_tbl := tb_m (i := 471) rfl
abbrev rX7_mark : Room := { frames := 3, cells := 0, slots := 0, locals := 64 }
set_option maxRecDepth 20000 in
theorem cm_X7_meeting : Cond.code yX7_meeting cX7_meeting 6 (some .int) ∈ lw_tbl := tb_m (i := 780) rfl
set_option maxRecDepth 20000 in
theorem ci_X7_meeting : Cond.instanceMethod yX7_meeting ∈ lw_tbl := tb_m (i := 779) rfl
set_option maxRecDepth 20000 in
theorem cv_X7_meeting : Cond.selects yX7_meeting.cls yX7_meeting yX7_meeting ∈ lw_tbl := tb_m (i := 21) rfl
abbrev rX7_meeting : Room := { frames := 5, cells := 0, slots := 0, locals := 116 }
set_option maxRecDepth 20000 in
theorem cm_X7_middle : Cond.code yX7_middle cX7_middle 6 (some .int) ∈ lw_tbl := tb_m (i := 603) rfl
set_option maxRecDepth 20000 in
theorem ci_X7_middle : Cond.instanceMethod yX7_middle ∈ lw_tbl := tb_m (i := 601) rfl
set_option maxRecDepth 20000 in
theorem cv_X7_middle : Cond.selects yX7_middle.cls yX7_middle yX7_middle ∈ lw_tbl := tb_m (i := 602) rfl
abbrev rX7_middle : Room := { frames := 3, cells := 0, slots := 0, locals := 77 }
set_option maxRecDepth 20000 in
theorem cm_X7_noGround : Cond.code yX7_noGround cX7_noGround 1 (some .boolean) ∈ lw_tbl := tb_m (i := 362) rfl
set_option maxRecDepth 20000 in
theorem cs_X7_noGround : Cond.static yX7_noGround ∈ lw_tbl := tb_m (i := 361) rfl
abbrev rX7_noGround : Room := { frames := 0, cells := 0, slots := 0, locals := 0 }
set_option maxRecDepth 20000 in
theorem cm_X7_noLetter : Cond.code yX7_noLetter cX7_noLetter 1 (some .boolean) ∈ lw_tbl := tb_m (i := 464) rfl
set_option maxRecDepth 20000 in
theorem cs_X7_noLetter : Cond.static yX7_noLetter ∈ lw_tbl := tb_m (i := 463) rfl
abbrev rX7_noLetter : Room := { frames := 0, cells := 0, slots := 0, locals := 0 }
set_option maxRecDepth 20000 in
theorem cm_X7_noSheet : Cond.code yX7_noSheet cX7_noSheet 1 (some .boolean) ∈ lw_tbl := tb_m (i := 319) rfl
set_option maxRecDepth 20000 in
theorem cs_X7_noSheet : Cond.static yX7_noSheet ∈ lw_tbl := tb_m (i := 318) rfl
abbrev rX7_noSheet : Room := { frames := 0, cells := 0, slots := 0, locals := 0 }
set_option maxRecDepth 20000 in
theorem cm_X7_oneIf : Cond.code yX7_oneIf cX7_oneIf 1 (some .int) ∈ lw_tbl := tb_m (i := 484) rfl
set_option maxRecDepth 20000 in
theorem cs_X7_oneIf : Cond.static yX7_oneIf ∈ lw_tbl := tb_m (i := 483) rfl
abbrev rX7_oneIf : Room := { frames := 0, cells := 0, slots := 0, locals := 0 }
set_option maxRecDepth 20000 in
theorem cm_X7_onePlaceAlone : Cond.code yX7_onePlaceAlone cX7_onePlaceAlone 4 (some .boolean) ∈ lw_tbl := tb_m (i := 572) rfl
set_option maxRecDepth 20000 in
theorem cs_X7_onePlaceAlone : Cond.static yX7_onePlaceAlone ∈ lw_tbl := tb_m (i := 571) rfl
abbrev rX7_onePlaceAlone : Room := { frames := 0, cells := 0, slots := 0, locals := 0 }
set_option maxRecDepth 20000 in
theorem cm_X7_pattern : Cond.code yX7_pattern cX7_pattern 4 (some .int) ∈ lw_tbl := tb_m (i := 721) rfl
set_option maxRecDepth 20000 in
theorem ci_X7_pattern : Cond.instanceMethod yX7_pattern ∈ lw_tbl := tb_m (i := 719) rfl
set_option maxRecDepth 20000 in
theorem cv_X7_pattern : Cond.selects yX7_pattern.cls yX7_pattern yX7_pattern ∈ lw_tbl := tb_m (i := 720) rfl
abbrev rX7_pattern : Room := { frames := 5, cells := 0, slots := 0, locals := 132 }
set_option maxRecDepth 20000 in
theorem cm_X7_place : Cond.code yX7_place cX7_place 3 (some .int) ∈ lw_tbl := tb_m (i := 819) rfl
set_option maxRecDepth 20000 in
theorem ci_X7_place : Cond.instanceMethod yX7_place ∈ lw_tbl := tb_m (i := 817) rfl
set_option maxRecDepth 20000 in
theorem cv_X7_place : Cond.selects yX7_place.cls yX7_place yX7_place ∈ lw_tbl := tb_m (i := 818) rfl
abbrev rX7_place : Room := { frames := 0, cells := 0, slots := 0, locals := 0 }
set_option maxRecDepth 20000 in
theorem cm_X7_placesFinding : Cond.code yX7_placesFinding cX7_placesFinding 4 (some .int) ∈ lw_tbl := tb_m (i := 552) rfl
set_option maxRecDepth 20000 in
theorem ci_X7_placesFinding : Cond.instanceMethod yX7_placesFinding ∈ lw_tbl := tb_m (i := 551) rfl
set_option maxRecDepth 20000 in
theorem cv_X7_placesFinding : Cond.selects yX7_placesFinding.cls yX7_placesFinding yX7_placesFinding ∈ lw_tbl := tb_m (i := 8) rfl
abbrev rX7_placesFinding : Room := { frames := 1, cells := 0, slots := 0, locals := 23 }
set_option maxRecDepth 20000 in
theorem cm_X7_rational : Cond.code yX7_rational cX7_rational 9 (some .int) ∈ lw_tbl := tb_m (i := 726) rfl
set_option maxRecDepth 20000 in
theorem ci_X7_rational : Cond.instanceMethod yX7_rational ∈ lw_tbl := tb_m (i := 724) rfl
set_option maxRecDepth 20000 in
theorem cv_X7_rational : Cond.selects yX7_rational.cls yX7_rational yX7_rational ∈ lw_tbl := tb_m (i := 725) rfl
abbrev rX7_rational : Room := { frames := 5, cells := 0, slots := 0, locals := 132 }
set_option maxRecDepth 20000 in
theorem cm_X7_refuse : Cond.code yX7_refuse cX7_refuse 2 (some .int) ∈ lw_tbl := tb_m (i := 323) rfl
set_option maxRecDepth 20000 in
theorem ci_X7_refuse : Cond.instanceMethod yX7_refuse ∈ lw_tbl := tb_m (i := 322) rfl
set_option maxRecDepth 20000 in
theorem cv_X7_refuse : Cond.selects yX7_refuse.cls yX7_refuse yX7_refuse ∈ lw_tbl := tb_m (i := 0) rfl
abbrev rX7_refuse : Room := { frames := 0, cells := 0, slots := 0, locals := 0 }
set_option maxRecDepth 20000 in
theorem cm_X7_refusedAt : Cond.code yX7_refusedAt cX7_refusedAt 4 (some .int) ∈ lw_tbl := tb_m (i := 548) rfl
set_option maxRecDepth 20000 in
theorem ci_X7_refusedAt : Cond.instanceMethod yX7_refusedAt ∈ lw_tbl := tb_m (i := 547) rfl
set_option maxRecDepth 20000 in
theorem cv_X7_refusedAt : Cond.selects yX7_refusedAt.cls yX7_refusedAt yX7_refusedAt ∈ lw_tbl := tb_m (i := 7) rfl
abbrev rX7_refusedAt : Room := { frames := 2, cells := 0, slots := 0, locals := 46 }
set_option maxRecDepth 20000 in
theorem cm_X7_refusedGround : Cond.code yX7_refusedGround cX7_refusedGround 2 (some .int) ∈ lw_tbl := tb_m (i := 453) rfl
set_option maxRecDepth 20000 in
theorem ci_X7_refusedGround : Cond.instanceMethod yX7_refusedGround ∈ lw_tbl := tb_m (i := 452) rfl
set_option maxRecDepth 20000 in
theorem cv_X7_refusedGround : Cond.selects yX7_refusedGround.cls yX7_refusedGround yX7_refusedGround ∈ lw_tbl := tb_m (i := 4) rfl
abbrev rX7_refusedGround : Room := { frames := 2, cells := 0, slots := 0, locals := 43 }
set_option maxRecDepth 20000 in
theorem cm_X7_refusedPair : Cond.code yX7_refusedPair cX7_refusedPair 3 (some .int) ∈ lw_tbl := tb_m (i := 457) rfl
set_option maxRecDepth 20000 in
theorem ci_X7_refusedPair : Cond.instanceMethod yX7_refusedPair ∈ lw_tbl := tb_m (i := 456) rfl
set_option maxRecDepth 20000 in
theorem cv_X7_refusedPair : Cond.selects yX7_refusedPair.cls yX7_refusedPair yX7_refusedPair ∈ lw_tbl := tb_m (i := 5) rfl
abbrev rX7_refusedPair : Room := { frames := 1, cells := 0, slots := 0, locals := 21 }
set_option maxRecDepth 20000 in
theorem cm_X7_refusedPencil : Cond.code yX7_refusedPencil cX7_refusedPencil 4 (some .int) ∈ lw_tbl := tb_m (i := 630) rfl
set_option maxRecDepth 20000 in
theorem ci_X7_refusedPencil : Cond.instanceMethod yX7_refusedPencil ∈ lw_tbl := tb_m (i := 629) rfl
set_option maxRecDepth 20000 in
theorem cv_X7_refusedPencil : Cond.selects yX7_refusedPencil.cls yX7_refusedPencil yX7_refusedPencil ∈ lw_tbl := tb_m (i := 10) rfl
abbrev rX7_refusedPencil : Room := { frames := 4, cells := 0, slots := 0, locals := 109 }
set_option maxRecDepth 20000 in
theorem cm_X7_roots : Cond.code yX7_roots cX7_roots 4 (some .int) ∈ lw_tbl := tb_m (i := 657) rfl
set_option maxRecDepth 20000 in
theorem ci_X7_roots : Cond.instanceMethod yX7_roots ∈ lw_tbl := tb_m (i := 655) rfl
set_option maxRecDepth 20000 in
theorem cv_X7_roots : Cond.selects yX7_roots.cls yX7_roots yX7_roots ∈ lw_tbl := tb_m (i := 656) rfl
abbrev rX7_roots : Room := { frames := 5, cells := 0, slots := 0, locals := 132 }
set_option maxRecDepth 20000 in
theorem cm_X7_same : Cond.code yX7_same cX7_same 8 (some .int) ∈ lw_tbl := tb_m (i := 532) rfl
set_option maxRecDepth 20000 in
theorem ci_X7_same : Cond.instanceMethod yX7_same ∈ lw_tbl := tb_m (i := 530) rfl
set_option maxRecDepth 20000 in
theorem cv_X7_same : Cond.selects yX7_same.cls yX7_same yX7_same ∈ lw_tbl := tb_m (i := 531) rfl
abbrev rX7_same : Room := { frames := 2, cells := 0, slots := 0, locals := 43 }
set_option maxRecDepth 20000 in
theorem cm_X7_shared : Cond.code yX7_shared cX7_shared 5 (some .int) ∈ lw_tbl := tb_m (i := 798) rfl
set_option maxRecDepth 20000 in
theorem ci_X7_shared : Cond.instanceMethod yX7_shared ∈ lw_tbl := tb_m (i := 796) rfl
set_option maxRecDepth 20000 in
theorem cv_X7_shared : Cond.selects yX7_shared.cls yX7_shared yX7_shared ∈ lw_tbl := tb_m (i := 797) rfl
abbrev rX7_shared : Room := { frames := 2, cells := 0, slots := 0, locals := 51 }
set_option maxRecDepth 20000 in
theorem cm_X7_shared3 : Cond.code yX7_shared3 cX7_shared3 5 (some .int) ∈ lw_tbl := tb_m (i := 823) rfl
set_option maxRecDepth 20000 in
theorem ci_X7_shared3 : Cond.instanceMethod yX7_shared3 ∈ lw_tbl := tb_m (i := 821) rfl
set_option maxRecDepth 20000 in
theorem cv_X7_shared3 : Cond.selects yX7_shared3.cls yX7_shared3 yX7_shared3 ∈ lw_tbl := tb_m (i := 822) rfl
abbrev rX7_shared3 : Room := { frames := 2, cells := 0, slots := 0, locals := 51 }
set_option maxRecDepth 20000 in
theorem cm_X7_shear : Cond.code yX7_shear cX7_shear 6 (some .int) ∈ lw_tbl := tb_m (i := 506) rfl
set_option maxRecDepth 20000 in
theorem ci_X7_shear : Cond.instanceMethod yX7_shear ∈ lw_tbl := tb_m (i := 504) rfl
set_option maxRecDepth 20000 in
theorem cv_X7_shear : Cond.selects yX7_shear.cls yX7_shear yX7_shear ∈ lw_tbl := tb_m (i := 505) rfl
abbrev rX7_shear : Room := { frames := 4, cells := 0, slots := 0, locals := 88 }
set_option maxRecDepth 20000 in
theorem cm_X7_sheet : Cond.code yX7_sheet cX7_sheet 3 (some .int) ∈ lw_tbl := tb_m (i := 316) rfl
set_option maxRecDepth 20000 in
theorem ci_X7_sheet : Cond.instanceMethod yX7_sheet ∈ lw_tbl := tb_m (i := 314) rfl
set_option maxRecDepth 20000 in
theorem cv_X7_sheet : Cond.selects yX7_sheet.cls yX7_sheet yX7_sheet ∈ lw_tbl := tb_m (i := 315) rfl
abbrev rX7_sheet : Room := { frames := 1, cells := 0, slots := 0, locals := 22 }
set_option maxRecDepth 20000 in
theorem cm_X7_sheetsThere : Cond.code yX7_sheetsThere cX7_sheetsThere 3 (some .int) ∈ lw_tbl := tb_m (i := 843) rfl
set_option maxRecDepth 20000 in
theorem ci_X7_sheetsThere : Cond.instanceMethod yX7_sheetsThere ∈ lw_tbl := tb_m (i := 842) rfl
set_option maxRecDepth 20000 in
theorem cv_X7_sheetsThere : Cond.selects yX7_sheetsThere.cls yX7_sheetsThere yX7_sheetsThere ∈ lw_tbl := tb_m (i := 23) rfl
abbrev rX7_sheetsThere : Room := { frames := 1, cells := 0, slots := 0, locals := 20 }
set_option maxRecDepth 20000 in
theorem cm_X7_signChanges : Cond.code yX7_signChanges cX7_signChanges 5 (some .int) ∈ lw_tbl := tb_m (i := 409) rfl
set_option maxRecDepth 20000 in
theorem cs_X7_signChanges : Cond.static yX7_signChanges ∈ lw_tbl := tb_m (i := 408) rfl
abbrev rX7_signChanges : Room := { frames := 1, cells := 0, slots := 0, locals := 21 }
set_option maxRecDepth 20000 in
theorem cm_X7_signOf : Cond.code yX7_signOf cX7_signOf 2 (some .int) ∈ lw_tbl := tb_m (i := 412) rfl
set_option maxRecDepth 20000 in
theorem cs_X7_signOf : Cond.static yX7_signOf ∈ lw_tbl := tb_m (i := 411) rfl
abbrev rX7_signOf : Room := { frames := 0, cells := 0, slots := 0, locals := 0 }
set_option maxRecDepth 20000 in
theorem cm_X7_swap : Cond.code yX7_swap cX7_swap 5 (some .int) ∈ lw_tbl := tb_m (i := 520) rfl
set_option maxRecDepth 20000 in
theorem ci_X7_swap : Cond.instanceMethod yX7_swap ∈ lw_tbl := tb_m (i := 518) rfl
set_option maxRecDepth 20000 in
theorem cv_X7_swap : Cond.selects yX7_swap.cls yX7_swap yX7_swap ∈ lw_tbl := tb_m (i := 519) rfl
abbrev rX7_swap : Room := { frames := 4, cells := 0, slots := 0, locals := 88 }
set_option maxRecDepth 20000 in
theorem cm_X7_table : Cond.code yX7_table cX7_table 5 (some .int) ∈ lw_tbl := tb_m (i := 461) rfl
set_option maxRecDepth 20000 in
theorem ci_X7_table : Cond.instanceMethod yX7_table ∈ lw_tbl := tb_m (i := 459) rfl
set_option maxRecDepth 20000 in
theorem cv_X7_table : Cond.selects yX7_table.cls yX7_table yX7_table ∈ lw_tbl := tb_m (i := 460) rfl
abbrev rX7_table : Room := { frames := 3, cells := 0, slots := 0, locals := 64 }
set_option maxRecDepth 20000 in
theorem cm_X7_tangent : Cond.code yX7_tangent cX7_tangent 7 (some .int) ∈ lw_tbl := tb_m (i := 564) rfl
set_option maxRecDepth 20000 in
theorem ci_X7_tangent : Cond.instanceMethod yX7_tangent ∈ lw_tbl := tb_m (i := 562) rfl
set_option maxRecDepth 20000 in
theorem cv_X7_tangent : Cond.selects yX7_tangent.cls yX7_tangent yX7_tangent ∈ lw_tbl := tb_m (i := 563) rfl
abbrev rX7_tangent : Room := { frames := 3, cells := 0, slots := 0, locals := 69 }
set_option maxRecDepth 20000 in
theorem cm_X7_tear : Cond.code yX7_tear cX7_tear 2 (some .int) ∈ lw_tbl := tb_m (i := 339) rfl
set_option maxRecDepth 20000 in
theorem ci_X7_tear : Cond.instanceMethod yX7_tear ∈ lw_tbl := tb_m (i := 337) rfl
set_option maxRecDepth 20000 in
theorem cv_X7_tear : Cond.selects yX7_tear.cls yX7_tear yX7_tear ∈ lw_tbl := tb_m (i := 338) rfl
abbrev rX7_tear : Room := { frames := 2, cells := 0, slots := 0, locals := 42 }
set_option maxRecDepth 20000 in
theorem cm_X7_tellFraction : Cond.code yX7_tellFraction cX7_tellFraction 7 none ∈ lw_tbl := tb_m (i := 616) rfl
set_option maxRecDepth 20000 in
theorem ci_X7_tellFraction : Cond.instanceMethod yX7_tellFraction ∈ lw_tbl := tb_m (i := 615) rfl
set_option maxRecDepth 20000 in
theorem cv_X7_tellFraction : Cond.selects yX7_tellFraction.cls yX7_tellFraction yX7_tellFraction ∈ lw_tbl := tb_m (i := 9) rfl
abbrev rX7_tellFraction : Room := { frames := 2, cells := 0, slots := 0, locals := 51 }
set_option maxRecDepth 20000 in
theorem cm_X7_told : Cond.code yX7_told cX7_told 4 (some .int) ∈ lw_tbl := tb_m (i := 468) rfl
set_option maxRecDepth 20000 in
theorem ci_X7_told : Cond.instanceMethod yX7_told ∈ lw_tbl := tb_m (i := 466) rfl
set_option maxRecDepth 20000 in
theorem cv_X7_told : Cond.selects yX7_told.cls yX7_told yX7_told ∈ lw_tbl := tb_m (i := 467) rfl
abbrev rX7_told : Room := { frames := 3, cells := 0, slots := 0, locals := 64 }
set_option maxRecDepth 20000 in
theorem cm_X7_touches : Cond.code yX7_touches cX7_touches 4 (some .int) ∈ lw_tbl := tb_m (i := 590) rfl
set_option maxRecDepth 20000 in
theorem ci_X7_touches : Cond.instanceMethod yX7_touches ∈ lw_tbl := tb_m (i := 588) rfl
set_option maxRecDepth 20000 in
theorem cv_X7_touches : Cond.selects yX7_touches.cls yX7_touches yX7_touches ∈ lw_tbl := tb_m (i := 589) rfl
abbrev rX7_touches : Room := { frames := 3, cells := 0, slots := 0, locals := 69 }
set_option maxRecDepth 20000 in
theorem cm_X7_turn : Cond.code yX7_turn cX7_turn 4 (some .int) ∈ lw_tbl := tb_m (i := 497) rfl
set_option maxRecDepth 20000 in
theorem ci_X7_turn : Cond.instanceMethod yX7_turn ∈ lw_tbl := tb_m (i := 495) rfl
set_option maxRecDepth 20000 in
theorem cv_X7_turn : Cond.selects yX7_turn.cls yX7_turn yX7_turn ∈ lw_tbl := tb_m (i := 496) rfl
abbrev rX7_turn : Room := { frames := 4, cells := 0, slots := 0, locals := 88 }
set_option maxRecDepth 20000 in
theorem cm_X7_upper : Cond.code yX7_upper cX7_upper 1 (some .long) ∈ lw_tbl := tb_m (i := 831) rfl
set_option maxRecDepth 20000 in
theorem ci_X7_upper : Cond.instanceMethod yX7_upper ∈ lw_tbl := tb_m (i := 829) rfl
set_option maxRecDepth 20000 in
theorem cv_X7_upper : Cond.selects yX7_upper.cls yX7_upper yX7_upper ∈ lw_tbl := tb_m (i := 830) rfl
abbrev rX7_upper : Room := { frames := 0, cells := 0, slots := 0, locals := 0 }
set_option maxRecDepth 20000 in
theorem cm_X7_value : Cond.code yX7_value cX7_value 4 (some .int) ∈ lw_tbl := tb_m (i := 544) rfl
set_option maxRecDepth 20000 in
theorem ci_X7_value : Cond.instanceMethod yX7_value ∈ lw_tbl := tb_m (i := 542) rfl
set_option maxRecDepth 20000 in
theorem cv_X7_value : Cond.selects yX7_value.cls yX7_value yX7_value ∈ lw_tbl := tb_m (i := 543) rfl
abbrev rX7_value : Room := { frames := 3, cells := 0, slots := 0, locals := 70 }
set_option maxRecDepth 20000 in
theorem cm_X8_alike : Cond.code yX8_alike cX8_alike 4 (some .int) ∈ lw_tbl := tb_m (i := 1174) rfl
set_option maxRecDepth 20000 in
theorem ci_X8_alike : Cond.instanceMethod yX8_alike ∈ lw_tbl := tb_m (i := 1172) rfl
set_option maxRecDepth 20000 in
theorem cv_X8_alike : Cond.selects yX8_alike.cls yX8_alike yX8_alike ∈ lw_tbl := tb_m (i := 1173) rfl
abbrev rX8_alike : Room := { frames := 3, cells := 0, slots := 0, locals := 64 }
set_option maxRecDepth 20000 in
theorem cm_X8_apart : Cond.code yX8_apart cX8_apart 4 (some .int) ∈ lw_tbl := tb_m (i := 1354) rfl
set_option maxRecDepth 20000 in
theorem ci_X8_apart : Cond.instanceMethod yX8_apart ∈ lw_tbl := tb_m (i := 1352) rfl
set_option maxRecDepth 20000 in
theorem cv_X8_apart : Cond.selects yX8_apart.cls yX8_apart yX8_apart ∈ lw_tbl := tb_m (i := 1353) rfl
abbrev rX8_apart : Room := { frames := 5, cells := 0, slots := 0, locals := 131 }
set_option maxRecDepth 20000 in
theorem cm_X8_apartOf : Cond.code yX8_apartOf cX8_apartOf 4 (some .int) ∈ lw_tbl := tb_m (i := 1366) rfl
set_option maxRecDepth 20000 in
theorem ci_X8_apartOf : Cond.instanceMethod yX8_apartOf ∈ lw_tbl := tb_m (i := 1365) rfl
set_option maxRecDepth 20000 in
theorem cv_X8_apartOf : Cond.selects yX8_apartOf.cls yX8_apartOf yX8_apartOf ∈ lw_tbl := tb_m (i := 66) rfl
abbrev rX8_apartOf : Room := { frames := 4, cells := 0, slots := 0, locals := 108 }
set_option maxRecDepth 20000 in
theorem cm_X8_ask : Cond.code yX8_ask cX8_ask 3 (some .int) ∈ lw_tbl := tb_m (i := 1132) rfl
set_option maxRecDepth 20000 in
theorem ci_X8_ask : Cond.instanceMethod yX8_ask ∈ lw_tbl := tb_m (i := 1131) rfl
set_option maxRecDepth 20000 in
theorem cv_X8_ask : Cond.selects yX8_ask.cls yX8_ask yX8_ask ∈ lw_tbl := tb_m (i := 36) rfl
abbrev rX8_ask : Room := { frames := 0, cells := 0, slots := 0, locals := 0 }
set_option maxRecDepth 20000 in
theorem cm_X8_asked : Cond.code yX8_asked cX8_asked 1 (some .int) ∈ lw_tbl := tb_m (i := 1394) rfl
set_option maxRecDepth 20000 in
theorem ci_X8_asked : Cond.instanceMethod yX8_asked ∈ lw_tbl := tb_m (i := 1392) rfl
set_option maxRecDepth 20000 in
theorem cv_X8_asked : Cond.selects yX8_asked.cls yX8_asked yX8_asked ∈ lw_tbl := tb_m (i := 1393) rfl
abbrev rX8_asked : Room := { frames := 0, cells := 0, slots := 0, locals := 0 }
set_option maxRecDepth 20000 in
theorem cm_X8_askedFor : Cond.code yX8_askedFor cX8_askedFor 2 (some .int) ∈ lw_tbl := tb_m (i := 1124) rfl
set_option maxRecDepth 20000 in
theorem ci_X8_askedFor : Cond.instanceMethod yX8_askedFor ∈ lw_tbl := tb_m (i := 1123) rfl
set_option maxRecDepth 20000 in
theorem cv_X8_askedFor : Cond.selects yX8_askedFor.cls yX8_askedFor yX8_askedFor ∈ lw_tbl := tb_m (i := 35) rfl
abbrev rX8_askedFor : Room := { frames := 2, cells := 0, slots := 0, locals := 42 }
set_option maxRecDepth 20000 in
theorem cm_X8_askedPlace : Cond.code yX8_askedPlace cX8_askedPlace 3 (some .int) ∈ lw_tbl := tb_m (i := 1182) rfl
set_option maxRecDepth 20000 in
theorem ci_X8_askedPlace : Cond.instanceMethod yX8_askedPlace ∈ lw_tbl := tb_m (i := 1181) rfl
set_option maxRecDepth 20000 in
theorem cv_X8_askedPlace : Cond.selects yX8_askedPlace.cls yX8_askedPlace yX8_askedPlace ∈ lw_tbl := tb_m (i := 39) rfl
abbrev rX8_askedPlace : Room := { frames := 2, cells := 0, slots := 0, locals := 47 }
set_option maxRecDepth 20000 in
theorem cm_X8_askedTwo : Cond.code yX8_askedTwo cX8_askedTwo 3 (some .int) ∈ lw_tbl := tb_m (i := 1170) rfl
set_option maxRecDepth 20000 in
theorem ci_X8_askedTwo : Cond.instanceMethod yX8_askedTwo ∈ lw_tbl := tb_m (i := 1169) rfl
set_option maxRecDepth 20000 in
theorem cv_X8_askedTwo : Cond.selects yX8_askedTwo.cls yX8_askedTwo yX8_askedTwo ∈ lw_tbl := tb_m (i := 38) rfl
abbrev rX8_askedTwo : Room := { frames := 2, cells := 0, slots := 0, locals := 42 }
set_option maxRecDepth 20000 in
theorem cm_X8_at : Cond.code yX8_at cX8_at 10 (some .long) ∈ lw_tbl := tb_m (i := 1272) rfl
set_option maxRecDepth 20000 in
theorem ci_X8_at : Cond.instanceMethod yX8_at ∈ lw_tbl := tb_m (i := 1271) rfl
set_option maxRecDepth 20000 in
theorem cv_X8_at : Cond.selects yX8_at.cls yX8_at yX8_at ∈ lw_tbl := tb_m (i := 50) rfl
abbrev rX8_at : Room := { frames := 0, cells := 0, slots := 0, locals := 0 }
set_option maxRecDepth 20000 in
theorem cm_X8_begin : Cond.code yX8_begin cX8_begin 2 none ∈ lw_tbl := tb_m (i := 1312) rfl
set_option maxRecDepth 20000 in
theorem cs_X8_begin : Cond.static yX8_begin ∈ lw_tbl := tb_m (i := 1311) rfl
abbrev rX8_begin : Room := { frames := 0, cells := 0, slots := 0, locals := 0 }
set_option maxRecDepth 20000 in
theorem cm_X8_between : Cond.code yX8_between cX8_between 20 (some .int) ∈ lw_tbl := tb_m (i := 1346) rfl
set_option maxRecDepth 20000 in
theorem ci_X8_between : Cond.instanceMethod yX8_between ∈ lw_tbl := tb_m (i := 1344) rfl
set_option maxRecDepth 20000 in
theorem cv_X8_between : Cond.selects yX8_between.cls yX8_between yX8_between ∈ lw_tbl := tb_m (i := 1345) rfl
abbrev rX8_between : Room := { frames := 5, cells := 0, slots := 0, locals := 130 }
set_option maxRecDepth 20000 in
theorem cm_X8_both : Cond.code yX8_both cX8_both 6 (some .int) ∈ lw_tbl := tb_m (i := 1190) rfl
set_option maxRecDepth 20000 in
theorem ci_X8_both : Cond.instanceMethod yX8_both ∈ lw_tbl := tb_m (i := 1189) rfl
set_option maxRecDepth 20000 in
theorem cv_X8_both : Cond.selects yX8_both.cls yX8_both yX8_both ∈ lw_tbl := tb_m (i := 41) rfl
abbrev rX8_both : Room := { frames := 1, cells := 0, slots := 0, locals := 25 }
set_option maxRecDepth 20000 in
theorem cm_X8_changed : Cond.code yX8_changed cX8_changed 3 (some .int) ∈ lw_tbl := tb_m (i := 1162) rfl
set_option maxRecDepth 20000 in
theorem cs_X8_changed : Cond.static yX8_changed ∈ lw_tbl := tb_m (i := 1161) rfl
abbrev rX8_changed : Room := { frames := 0, cells := 0, slots := 0, locals := 0 }
set_option maxRecDepth 20000 in
theorem cm_X8_changes : Cond.code yX8_changes cX8_changes 2 (some .boolean) ∈ lw_tbl := tb_m (i := 1144) rfl
set_option maxRecDepth 20000 in
theorem ci_X8_changes : Cond.instanceMethod yX8_changes ∈ lw_tbl := tb_m (i := 1143) rfl
set_option maxRecDepth 20000 in
theorem cv_X8_changes : Cond.selects yX8_changes.cls yX8_changes yX8_changes ∈ lw_tbl := tb_m (i := 37) rfl
abbrev rX8_changes : Room := { frames := 0, cells := 0, slots := 0, locals := 0 }
set_option maxRecDepth 20000 in
theorem cm_X8_clear : Cond.code yX8_clear cX8_clear 4 none ∈ lw_tbl := tb_m (i := 1044) rfl
set_option maxRecDepth 20000 in
theorem ci_X8_clear : Cond.instanceMethod yX8_clear ∈ lw_tbl := tb_m (i := 1043) rfl
set_option maxRecDepth 20000 in
theorem cv_X8_clear : Cond.selects yX8_clear.cls yX8_clear yX8_clear ∈ lw_tbl := tb_m (i := 26) rfl
abbrev rX8_clear : Room := { frames := 0, cells := 0, slots := 0, locals := 0 }
set_option maxRecDepth 20000 in
theorem cm_X8_columnOf : Cond.code yX8_columnOf cX8_columnOf 1 (some .int) ∈ lw_tbl := tb_m (i := 1076) rfl
set_option maxRecDepth 20000 in
theorem cs_X8_columnOf : Cond.static yX8_columnOf ∈ lw_tbl := tb_m (i := 1075) rfl
abbrev rX8_columnOf : Room := { frames := 0, cells := 0, slots := 0, locals := 0 }
set_option maxRecDepth 20000 in
theorem cm_X8_compare : Cond.code yX8_compare cX8_compare 2 (some .int) ∈ lw_tbl := tb_m (i := 1321) rfl
set_option maxRecDepth 20000 in
theorem ci_X8_compare : Cond.instanceMethod yX8_compare ∈ lw_tbl := tb_m (i := 1320) rfl
set_option maxRecDepth 20000 in
theorem cv_X8_compare : Cond.selects yX8_compare.cls yX8_compare yX8_compare ∈ lw_tbl := tb_m (i := 59) rfl
abbrev rX8_compare : Room := { frames := 0, cells := 0, slots := 0, locals := 0 }
set_option maxRecDepth 20000 in
theorem cm_X8_copy : Cond.code yX8_copy cX8_copy 7 (some .int) ∈ lw_tbl := tb_m (i := 1060) rfl
set_option maxRecDepth 20000 in
theorem ci_X8_copy : Cond.instanceMethod yX8_copy ∈ lw_tbl := tb_m (i := 1058) rfl
set_option maxRecDepth 20000 in
theorem cv_X8_copy : Cond.selects yX8_copy.cls yX8_copy yX8_copy ∈ lw_tbl := tb_m (i := 1059) rfl
abbrev rX8_copy : Room := { frames := 2, cells := 0, slots := 0, locals := 42 }
set_option maxRecDepth 20000 in
theorem cm_X8_count : Cond.code yX8_count cX8_count 6 (some .int) ∈ lw_tbl := tb_m (i := 1406) rfl
set_option maxRecDepth 20000 in
theorem ci_X8_count : Cond.instanceMethod yX8_count ∈ lw_tbl := tb_m (i := 1404) rfl
set_option maxRecDepth 20000 in
theorem cv_X8_count : Cond.selects yX8_count.cls yX8_count yX8_count ∈ lw_tbl := tb_m (i := 1405) rfl
abbrev rX8_count : Room := { frames := 1, cells := 0, slots := 0, locals := 22 }
set_option maxRecDepth 20000 in
theorem cm_X8_cut : Cond.code yX8_cut cX8_cut 4 (some .int) ∈ lw_tbl := tb_m (i := 1210) rfl
set_option maxRecDepth 20000 in
theorem ci_X8_cut : Cond.instanceMethod yX8_cut ∈ lw_tbl := tb_m (i := 1208) rfl
set_option maxRecDepth 20000 in
theorem cv_X8_cut : Cond.selects yX8_cut.cls yX8_cut yX8_cut ∈ lw_tbl := tb_m (i := 1209) rfl
abbrev rX8_cut : Room := { frames := 4, cells := 0, slots := 0, locals := 101 }
set_option maxRecDepth 20000 in
theorem cm_X8_digest : Cond.code yX8_digest cX8_digest 3 (some .long) ∈ lw_tbl := tb_m (i := 1418) rfl
set_option maxRecDepth 20000 in
theorem ci_X8_digest : Cond.instanceMethod yX8_digest ∈ lw_tbl := tb_m (i := 1416) rfl
set_option maxRecDepth 20000 in
theorem cv_X8_digest : Cond.selects yX8_digest.cls yX8_digest yX8_digest ∈ lw_tbl := tb_m (i := 1417) rfl
abbrev rX8_digest : Room := { frames := 1, cells := 0, slots := 0, locals := 21 }
set_option maxRecDepth 20000 in
theorem cm_X8_divide : Cond.code yX8_divide cX8_divide 10 none ∈ lw_tbl := tb_m (i := 1276) rfl
set_option maxRecDepth 20000 in
theorem ci_X8_divide : Cond.instanceMethod yX8_divide ∈ lw_tbl := tb_m (i := 1275) rfl
set_option maxRecDepth 20000 in
theorem cv_X8_divide : Cond.selects yX8_divide.cls yX8_divide yX8_divide ∈ lw_tbl := tb_m (i := 51) rfl
abbrev rX8_divide : Room := { frames := 0, cells := 0, slots := 0, locals := 0 }
set_option maxRecDepth 20000 in
theorem cm_X8_divisor : Cond.code yX8_divisor cX8_divisor 10 (some .long) ∈ lw_tbl := tb_m (i := 1233) rfl
set_option maxRecDepth 20000 in
theorem cs_X8_divisor : Cond.static yX8_divisor ∈ lw_tbl := tb_m (i := 1232) rfl
abbrev rX8_divisor : Room := { frames := 1, cells := 0, slots := 0, locals := 21 }
set_option maxRecDepth 20000 in
theorem cm_X8_drop : Cond.code yX8_drop cX8_drop 3 (some .int) ∈ lw_tbl := tb_m (i := 1120) rfl
set_option maxRecDepth 20000 in
theorem ci_X8_drop : Cond.instanceMethod yX8_drop ∈ lw_tbl := tb_m (i := 1118) rfl
set_option maxRecDepth 20000 in
theorem cv_X8_drop : Cond.selects yX8_drop.cls yX8_drop yX8_drop ∈ lw_tbl := tb_m (i := 1119) rfl
abbrev rX8_drop : Room := { frames := 3, cells := 0, slots := 0, locals := 63 }
set_option maxRecDepth 20000 in
theorem cm_X8_finding : Cond.code yX8_finding cX8_finding 1 (some .int) ∈ lw_tbl := tb_m (i := 1410) rfl
set_option maxRecDepth 20000 in
theorem ci_X8_finding : Cond.instanceMethod yX8_finding ∈ lw_tbl := tb_m (i := 1408) rfl
set_option maxRecDepth 20000 in
theorem cv_X8_finding : Cond.selects yX8_finding.cls yX8_finding yX8_finding ∈ lw_tbl := tb_m (i := 1409) rfl
abbrev rX8_finding : Room := { frames := 0, cells := 0, slots := 0, locals := 0 }
set_option maxRecDepth 20000 in
theorem cm_X8_findings : Cond.code yX8_findings cX8_findings 2 (some .int) ∈ lw_tbl := tb_m (i := 1414) rfl
set_option maxRecDepth 20000 in
theorem ci_X8_findings : Cond.instanceMethod yX8_findings ∈ lw_tbl := tb_m (i := 1412) rfl
set_option maxRecDepth 20000 in
theorem cv_X8_findings : Cond.selects yX8_findings.cls yX8_findings yX8_findings ∈ lw_tbl := tb_m (i := 1413) rfl
abbrev rX8_findings : Room := { frames := 1, cells := 0, slots := 0, locals := 22 }
set_option maxRecDepth 20000 in
theorem cm_X8_first : Cond.code yX8_first cX8_first 10 (some .int) ∈ lw_tbl := tb_m (i := 1374) rfl
set_option maxRecDepth 20000 in
theorem ci_X8_first : Cond.instanceMethod yX8_first ∈ lw_tbl := tb_m (i := 1372) rfl
set_option maxRecDepth 20000 in
theorem cv_X8_first : Cond.selects yX8_first.cls yX8_first yX8_first ∈ lw_tbl := tb_m (i := 1373) rfl
abbrev rX8_first : Room := { frames := 5, cells := 0, slots := 0, locals := 131 }
set_option maxRecDepth 20000 in
theorem cm_X8_form : Cond.code yX8_form cX8_form 6 (some .int) ∈ lw_tbl := tb_m (i := 1240) rfl
set_option maxRecDepth 20000 in
theorem ci_X8_form : Cond.instanceMethod yX8_form ∈ lw_tbl := tb_m (i := 1238) rfl
set_option maxRecDepth 20000 in
theorem cv_X8_form : Cond.selects yX8_form.cls yX8_form yX8_form ∈ lw_tbl := tb_m (i := 1239) rfl
abbrev rX8_form : Room := { frames := 3, cells := 0, slots := 0, locals := 64 }
set_option maxRecDepth 20000 in
theorem cm_X8_formTold : Cond.code yX8_formTold cX8_formTold 2 (some .int) ∈ lw_tbl := tb_m (i := 1252) rfl
set_option maxRecDepth 20000 in
theorem ci_X8_formTold : Cond.instanceMethod yX8_formTold ∈ lw_tbl := tb_m (i := 1250) rfl
set_option maxRecDepth 20000 in
theorem cv_X8_formTold : Cond.selects yX8_formTold.cls yX8_formTold yX8_formTold ∈ lw_tbl := tb_m (i := 1251) rfl
abbrev rX8_formTold : Room := { frames := 1, cells := 0, slots := 0, locals := 22 }
set_option maxRecDepth 20000 in
theorem cm_X8_goThrough : Cond.code yX8_goThrough cX8_goThrough 9 (some .int) ∈ lw_tbl := tb_m (i := 1382) rfl
set_option maxRecDepth 20000 in
theorem ci_X8_goThrough : Cond.instanceMethod yX8_goThrough ∈ lw_tbl := tb_m (i := 1381) rfl
set_option maxRecDepth 20000 in
theorem cv_X8_goThrough : Cond.selects yX8_goThrough.cls yX8_goThrough yX8_goThrough ∈ lw_tbl := tb_m (i := 68) rfl
abbrev rX8_goThrough : Room := { frames := 2, cells := 0, slots := 0, locals := 50 }
set_option maxRecDepth 20000 in
theorem cm_X8_ground : Cond.code yX8_ground cX8_ground 8 (some .int) ∈ lw_tbl := tb_m (i := 1064) rfl
set_option maxRecDepth 20000 in
theorem ci_X8_ground : Cond.instanceMethod yX8_ground ∈ lw_tbl := tb_m (i := 1062) rfl
set_option maxRecDepth 20000 in
theorem cv_X8_ground : Cond.selects yX8_ground.cls yX8_ground yX8_ground ∈ lw_tbl := tb_m (i := 1063) rfl
abbrev rX8_ground : Room := { frames := 4, cells := 0, slots := 0, locals := 106 }
set_option maxRecDepth 20000 in
theorem cm_X8_in : Cond.code yX8_in cX8_in 3 (some .boolean) ∈ lw_tbl := tb_m (i := 1036) rfl
set_option maxRecDepth 20000 in
theorem cs_X8_in : Cond.static yX8_in ∈ lw_tbl := tb_m (i := 1035) rfl
abbrev rX8_in : Room := { frames := 0, cells := 0, slots := 0, locals := 0 }
set_option maxRecDepth 20000 in
theorem cm_X8_init : Cond.code yX8_init cX8_init 2 none ∈ lw_tbl := tb_m (i := 879) rfl
set_option maxRecDepth 20000 in
theorem ci_X8_init : Cond.instanceMethod yX8_init ∈ lw_tbl := tb_m (i := 878) rfl
abbrev rX8_init : Room := { frames := 1, cells := 33, slots := 1459, locals := 20 }
set_option maxRecDepth 20000 in
theorem cm_X8_isBall : Cond.code yX8_isBall cX8_isBall 2 (some .boolean) ∈ lw_tbl := tb_m (i := 1358) rfl
set_option maxRecDepth 20000 in
theorem ci_X8_isBall : Cond.instanceMethod yX8_isBall ∈ lw_tbl := tb_m (i := 1357) rfl
set_option maxRecDepth 20000 in
theorem cv_X8_isBall : Cond.selects yX8_isBall.cls yX8_isBall yX8_isBall ∈ lw_tbl := tb_m (i := 64) rfl
abbrev rX8_isBall : Room := { frames := 0, cells := 0, slots := 0, locals := 0 }
set_option maxRecDepth 20000 in
theorem cm_X8_isGround : Cond.code yX8_isGround cX8_isGround 1 (some .boolean) ∈ lw_tbl := tb_m (i := 1067) rfl
set_option maxRecDepth 20000 in
theorem cs_X8_isGround : Cond.static yX8_isGround ∈ lw_tbl := tb_m (i := 1066) rfl
abbrev rX8_isGround : Room := { frames := 1, cells := 0, slots := 0, locals := 22 }
set_option maxRecDepth 20000 in
theorem cm_X8_isSheet : Cond.code yX8_isSheet cX8_isSheet 1 (some .boolean) ∈ lw_tbl := tb_m (i := 1033) rfl
set_option maxRecDepth 20000 in
theorem cs_X8_isSheet : Cond.static yX8_isSheet ∈ lw_tbl := tb_m (i := 1032) rfl
abbrev rX8_isSheet : Room := { frames := 1, cells := 0, slots := 0, locals := 22 }
set_option maxRecDepth 20000 in
theorem cm_X8_isSmall : Cond.code yX8_isSmall cX8_isSmall 1 (some .boolean) ∈ lw_tbl := tb_m (i := 1070) rfl
set_option maxRecDepth 20000 in
theorem cs_X8_isSmall : Cond.static yX8_isSmall ∈ lw_tbl := tb_m (i := 1069) rfl
abbrev rX8_isSmall : Room := { frames := 1, cells := 0, slots := 0, locals := 22 }
set_option maxRecDepth 20000 in
theorem cm_X8_isSquare : Cond.code yX8_isSquare cX8_isSquare 2 (some .boolean) ∈ lw_tbl := tb_m (i := 1147) rfl
set_option maxRecDepth 20000 in
theorem cs_X8_isSquare : Cond.static yX8_isSquare ∈ lw_tbl := tb_m (i := 1146) rfl
abbrev rX8_isSquare : Room := { frames := 0, cells := 0, slots := 0, locals := 0 }
set_option maxRecDepth 20000 in
theorem cm_X8_lay : Cond.code yX8_lay cX8_lay 5 (some .int) ∈ lw_tbl := tb_m (i := 1048) rfl
set_option maxRecDepth 20000 in
theorem ci_X8_lay : Cond.instanceMethod yX8_lay ∈ lw_tbl := tb_m (i := 1046) rfl
set_option maxRecDepth 20000 in
theorem cv_X8_lay : Cond.selects yX8_lay.cls yX8_lay yX8_lay ∈ lw_tbl := tb_m (i := 1047) rfl
abbrev rX8_lay : Room := { frames := 3, cells := 0, slots := 0, locals := 63 }
set_option maxRecDepth 20000 in
theorem cm_X8_layCut : Cond.code yX8_layCut cX8_layCut 7 none ∈ lw_tbl := tb_m (i := 1214) rfl
set_option maxRecDepth 20000 in
theorem ci_X8_layCut : Cond.instanceMethod yX8_layCut ∈ lw_tbl := tb_m (i := 1213) rfl
set_option maxRecDepth 20000 in
theorem cv_X8_layCut : Cond.selects yX8_layCut.cls yX8_layCut yX8_layCut ∈ lw_tbl := tb_m (i := 43) rfl
abbrev rX8_layCut : Room := { frames := 3, cells := 0, slots := 0, locals := 75 }
set_option maxRecDepth 20000 in
theorem cm_X8_layForm : Cond.code yX8_layForm cX8_layForm 6 none ∈ lw_tbl := tb_m (i := 1248) rfl
set_option maxRecDepth 20000 in
theorem ci_X8_layForm : Cond.instanceMethod yX8_layForm ∈ lw_tbl := tb_m (i := 1247) rfl
set_option maxRecDepth 20000 in
theorem cv_X8_layForm : Cond.selects yX8_layForm.cls yX8_layForm yX8_layForm ∈ lw_tbl := tb_m (i := 46) rfl
abbrev rX8_layForm : Room := { frames := 1, cells := 0, slots := 0, locals := 28 }
set_option maxRecDepth 20000 in
theorem cm_X8_layFour : Cond.code yX8_layFour cX8_layFour 7 none ∈ lw_tbl := tb_m (i := 1088) rfl
set_option maxRecDepth 20000 in
theorem ci_X8_layFour : Cond.instanceMethod yX8_layFour ∈ lw_tbl := tb_m (i := 1087) rfl
set_option maxRecDepth 20000 in
theorem cv_X8_layFour : Cond.selects yX8_layFour.cls yX8_layFour yX8_layFour ∈ lw_tbl := tb_m (i := 30) rfl
abbrev rX8_layFour : Room := { frames := 2, cells := 0, slots := 0, locals := 55 }
set_option maxRecDepth 20000 in
theorem cm_X8_layLeft : Cond.code yX8_layLeft cX8_layLeft 1 none ∈ lw_tbl := tb_m (i := 1292) rfl
set_option maxRecDepth 20000 in
theorem ci_X8_layLeft : Cond.instanceMethod yX8_layLeft ∈ lw_tbl := tb_m (i := 1291) rfl
set_option maxRecDepth 20000 in
theorem cv_X8_layLeft : Cond.selects yX8_layLeft.cls yX8_layLeft yX8_layLeft ∈ lw_tbl := tb_m (i := 55) rfl
abbrev rX8_layLeft : Room := { frames := 2, cells := 0, slots := 0, locals := 72 }
set_option maxRecDepth 20000 in
theorem cm_X8_layMoved : Cond.code yX8_layMoved cX8_layMoved 10 none ∈ lw_tbl := tb_m (i := 1362) rfl
set_option maxRecDepth 20000 in
theorem ci_X8_layMoved : Cond.instanceMethod yX8_layMoved ∈ lw_tbl := tb_m (i := 1361) rfl
set_option maxRecDepth 20000 in
theorem cv_X8_layMoved : Cond.selects yX8_layMoved.cls yX8_layMoved yX8_layMoved ∈ lw_tbl := tb_m (i := 65) rfl
abbrev rX8_layMoved : Room := { frames := 0, cells := 0, slots := 0, locals := 0 }
set_option maxRecDepth 20000 in
theorem cm_X8_layPair : Cond.code yX8_layPair cX8_layPair 4 none ∈ lw_tbl := tb_m (i := 1244) rfl
set_option maxRecDepth 20000 in
theorem ci_X8_layPair : Cond.instanceMethod yX8_layPair ∈ lw_tbl := tb_m (i := 1243) rfl
set_option maxRecDepth 20000 in
theorem cv_X8_layPair : Cond.selects yX8_layPair.cls yX8_layPair yX8_layPair ∈ lw_tbl := tb_m (i := 45) rfl
abbrev rX8_layPair : Room := { frames := 0, cells := 0, slots := 0, locals := 0 }
set_option maxRecDepth 20000 in
theorem cm_X8_layQuartic : Cond.code yX8_layQuartic cX8_layQuartic 18 none ∈ lw_tbl := tb_m (i := 1303) rfl
set_option maxRecDepth 20000 in
theorem ci_X8_layQuartic : Cond.instanceMethod yX8_layQuartic ∈ lw_tbl := tb_m (i := 1302) rfl
set_option maxRecDepth 20000 in
theorem cv_X8_layQuartic : Cond.selects yX8_layQuartic.cls yX8_layQuartic yX8_layQuartic ∈ lw_tbl := tb_m (i := 57) rfl
abbrev rX8_layQuartic : Room := { frames := 1, cells := 0, slots := 0, locals := 35 }
set_option maxRecDepth 20000 in
theorem cm_X8_laySigns : Cond.code yX8_laySigns cX8_laySigns 15 none ∈ lw_tbl := tb_m (i := 1106) rfl
set_option maxRecDepth 20000 in
theorem ci_X8_laySigns : Cond.instanceMethod yX8_laySigns ∈ lw_tbl := tb_m (i := 1105) rfl
set_option maxRecDepth 20000 in
theorem cv_X8_laySigns : Cond.selects yX8_laySigns.cls yX8_laySigns yX8_laySigns ∈ lw_tbl := tb_m (i := 33) rfl
abbrev rX8_laySigns : Room := { frames := 1, cells := 0, slots := 0, locals := 21 }
set_option maxRecDepth 20000 in
theorem cm_X8_layTable : Cond.code yX8_layTable cX8_layTable 3 none ∈ lw_tbl := tb_m (i := 1084) rfl
set_option maxRecDepth 20000 in
theorem ci_X8_layTable : Cond.instanceMethod yX8_layTable ∈ lw_tbl := tb_m (i := 1083) rfl
set_option maxRecDepth 20000 in
theorem cv_X8_layTable : Cond.selects yX8_layTable.cls yX8_layTable yX8_layTable ∈ lw_tbl := tb_m (i := 29) rfl
abbrev rX8_layTable : Room := { frames := 0, cells := 0, slots := 0, locals := 0 }
set_option maxRecDepth 20000 in
theorem cm_X8_layThree : Cond.code yX8_layThree cX8_layThree 1 none ∈ lw_tbl := tb_m (i := 1113) rfl
set_option maxRecDepth 20000 in
theorem ci_X8_layThree : Cond.instanceMethod yX8_layThree ∈ lw_tbl := tb_m (i := 1112) rfl
set_option maxRecDepth 20000 in
theorem cv_X8_layThree : Cond.selects yX8_layThree.cls yX8_layThree yX8_layThree ∈ lw_tbl := tb_m (i := 34) rfl
abbrev rX8_layThree : Room := { frames := 2, cells := 0, slots := 0, locals := 55 }
set_option maxRecDepth 20000 in
theorem cm_X8_layTree : Cond.code yX8_layTree cX8_layTree 5 (some .int) ∈ lw_tbl := tb_m (i := 1350) rfl
set_option maxRecDepth 20000 in
theorem ci_X8_layTree : Cond.instanceMethod yX8_layTree ∈ lw_tbl := tb_m (i := 1349) rfl
set_option maxRecDepth 20000 in
theorem cv_X8_layTree : Cond.selects yX8_layTree.cls yX8_layTree yX8_layTree ∈ lw_tbl := tb_m (i := 63) rfl
abbrev rX8_layTree : Room := { frames := 0, cells := 0, slots := 0, locals := 0 }
set_option maxRecDepth 20000 in
theorem cm_X8_leftAbove : Cond.code yX8_leftAbove cX8_leftAbove 4 (some .int) ∈ lw_tbl := tb_m (i := 1370) rfl
set_option maxRecDepth 20000 in
theorem ci_X8_leftAbove : Cond.instanceMethod yX8_leftAbove ∈ lw_tbl := tb_m (i := 1369) rfl
set_option maxRecDepth 20000 in
theorem cv_X8_leftAbove : Cond.selects yX8_leftAbove.cls yX8_leftAbove yX8_leftAbove ∈ lw_tbl := tb_m (i := 67) rfl
abbrev rX8_leftAbove : Room := { frames := 1, cells := 0, slots := 0, locals := 21 }
set_option maxRecDepth 20000 in
theorem cm_X8_leftBelow : Cond.code yX8_leftBelow cX8_leftBelow 8 (some .int) ∈ lw_tbl := tb_m (i := 1334) rfl
set_option maxRecDepth 20000 in
theorem ci_X8_leftBelow : Cond.instanceMethod yX8_leftBelow ∈ lw_tbl := tb_m (i := 1333) rfl
set_option maxRecDepth 20000 in
theorem cv_X8_leftBelow : Cond.selects yX8_leftBelow.cls yX8_leftBelow yX8_leftBelow ∈ lw_tbl := tb_m (i := 61) rfl
abbrev rX8_leftBelow : Room := { frames := 1, cells := 0, slots := 0, locals := 29 }
set_option maxRecDepth 20000 in
theorem cm_X8_line : Cond.code yX8_line cX8_line 10 (some .int) ∈ lw_tbl := tb_m (i := 1202) rfl
set_option maxRecDepth 20000 in
theorem ci_X8_line : Cond.instanceMethod yX8_line ∈ lw_tbl := tb_m (i := 1200) rfl
set_option maxRecDepth 20000 in
theorem cv_X8_line : Cond.selects yX8_line.cls yX8_line yX8_line ∈ lw_tbl := tb_m (i := 1201) rfl
abbrev rX8_line : Room := { frames := 2, cells := 0, slots := 0, locals := 50 }
set_option maxRecDepth 20000 in
theorem cm_X8_lineTold : Cond.code yX8_lineTold cX8_lineTold 2 (some .int) ∈ lw_tbl := tb_m (i := 1206) rfl
set_option maxRecDepth 20000 in
theorem ci_X8_lineTold : Cond.instanceMethod yX8_lineTold ∈ lw_tbl := tb_m (i := 1204) rfl
set_option maxRecDepth 20000 in
theorem cv_X8_lineTold : Cond.selects yX8_lineTold.cls yX8_lineTold yX8_lineTold ∈ lw_tbl := tb_m (i := 1205) rfl
abbrev rX8_lineTold : Room := { frames := 1, cells := 0, slots := 0, locals := 22 }
set_option maxRecDepth 20000 in
theorem cm_X8_lines : Cond.code yX8_lines cX8_lines 6 (some .int) ∈ lw_tbl := tb_m (i := 1222) rfl
set_option maxRecDepth 20000 in
theorem ci_X8_lines : Cond.instanceMethod yX8_lines ∈ lw_tbl := tb_m (i := 1220) rfl
set_option maxRecDepth 20000 in
theorem cv_X8_lines : Cond.selects yX8_lines.cls yX8_lines yX8_lines ∈ lw_tbl := tb_m (i := 1221) rfl
abbrev rX8_lines : Room := { frames := 3, cells := 0, slots := 0, locals := 69 }
set_option maxRecDepth 20000 in
theorem cm_X8_looked : Cond.code yX8_looked cX8_looked 2 (some .int) ∈ lw_tbl := tb_m (i := 1052) rfl
set_option maxRecDepth 20000 in
theorem ci_X8_looked : Cond.instanceMethod yX8_looked ∈ lw_tbl := tb_m (i := 1051) rfl
set_option maxRecDepth 20000 in
theorem cv_X8_looked : Cond.selects yX8_looked.cls yX8_looked yX8_looked ∈ lw_tbl := tb_m (i := 27) rfl
abbrev rX8_looked : Room := { frames := 2, cells := 0, slots := 0, locals := 42 }
set_option maxRecDepth 20000 in
theorem cm_X8_lower : Cond.code yX8_lower cX8_lower 1 (some .long) ∈ lw_tbl := tb_m (i := 1402) rfl
set_option maxRecDepth 20000 in
theorem ci_X8_lower : Cond.instanceMethod yX8_lower ∈ lw_tbl := tb_m (i := 1400) rfl
set_option maxRecDepth 20000 in
theorem cv_X8_lower : Cond.selects yX8_lower.cls yX8_lower yX8_lower ∈ lw_tbl := tb_m (i := 1401) rfl
abbrev rX8_lower : Room := { frames := 0, cells := 0, slots := 0, locals := 0 }
set_option maxRecDepth 20000 in
theorem cm_X8_mark : Cond.code yX8_mark cX8_mark 5 (some .int) ∈ lw_tbl := tb_m (i := 1140) rfl
set_option maxRecDepth 20000 in
theorem ci_X8_mark : Cond.instanceMethod yX8_mark ∈ lw_tbl := tb_m (i := 1138) rfl
set_option maxRecDepth 20000 in
theorem cv_X8_mark : Cond.selects yX8_mark.cls yX8_mark yX8_mark ∈ lw_tbl := tb_m (i := 1139) rfl
abbrev rX8_mark : Room := { frames := 3, cells := 0, slots := 0, locals := 63 }
set_option maxRecDepth 20000 in
theorem cm_X8_meets : Cond.code yX8_meets cX8_meets 2 (some .int) ∈ lw_tbl := tb_m (i := 1040) rfl
set_option maxRecDepth 20000 in
theorem ci_X8_meets : Cond.instanceMethod yX8_meets ∈ lw_tbl := tb_m (i := 1039) rfl
set_option maxRecDepth 20000 in
theorem cv_X8_meets : Cond.selects yX8_meets.cls yX8_meets yX8_meets ∈ lw_tbl := tb_m (i := 25) rfl
abbrev rX8_meets : Room := { frames := 0, cells := 0, slots := 0, locals := 0 }
set_option maxRecDepth 20000 in
theorem cm_X8_middle : Cond.code yX8_middle cX8_middle 8 (some .int) ∈ lw_tbl := tb_m (i := 1226) rfl
set_option maxRecDepth 20000 in
theorem ci_X8_middle : Cond.instanceMethod yX8_middle ∈ lw_tbl := tb_m (i := 1224) rfl
set_option maxRecDepth 20000 in
theorem cv_X8_middle : Cond.selects yX8_middle.cls yX8_middle yX8_middle ∈ lw_tbl := tb_m (i := 1225) rfl
abbrev rX8_middle : Room := { frames := 3, cells := 0, slots := 0, locals := 77 }
set_option maxRecDepth 20000 in
theorem cm_X8_mix : Cond.code yX8_mix cX8_mix 2 none ∈ lw_tbl := tb_m (i := 1423) rfl
set_option maxRecDepth 20000 in
theorem ci_X8_mix : Cond.instanceMethod yX8_mix ∈ lw_tbl := tb_m (i := 1422) rfl
set_option maxRecDepth 20000 in
theorem cv_X8_mix : Cond.selects yX8_mix.cls yX8_mix yX8_mix ∈ lw_tbl := tb_m (i := 69) rfl
abbrev rX8_mix : Room := { frames := 0, cells := 0, slots := 0, locals := 0 }
set_option maxRecDepth 20000 in
theorem cm_X8_nameOf : Cond.code yX8_nameOf cX8_nameOf 6 (some .int) ∈ lw_tbl := tb_m (i := 1116) rfl
set_option maxRecDepth 20000 in
theorem cs_X8_nameOf : Cond.static yX8_nameOf ∈ lw_tbl := tb_m (i := 1115) rfl
abbrev rX8_nameOf : Room := { frames := 0, cells := 0, slots := 0, locals := 0 }
set_option maxRecDepth 20000 in
theorem cm_X8_parts : Cond.code yX8_parts cX8_parts 11 (some .boolean) ∈ lw_tbl := tb_m (i := 1264) rfl
set_option maxRecDepth 20000 in
theorem ci_X8_parts : Cond.instanceMethod yX8_parts ∈ lw_tbl := tb_m (i := 1263) rfl
set_option maxRecDepth 20000 in
theorem cv_X8_parts : Cond.selects yX8_parts.cls yX8_parts yX8_parts ∈ lw_tbl := tb_m (i := 48) rfl
abbrev rX8_parts : Room := { frames := 3, cells := 0, slots := 0, locals := 78 }
set_option maxRecDepth 20000 in
theorem cm_X8_partsPair : Cond.code yX8_partsPair cX8_partsPair 3 (some .boolean) ∈ lw_tbl := tb_m (i := 1260) rfl
set_option maxRecDepth 20000 in
theorem ci_X8_partsPair : Cond.instanceMethod yX8_partsPair ∈ lw_tbl := tb_m (i := 1259) rfl
set_option maxRecDepth 20000 in
theorem cv_X8_partsPair : Cond.selects yX8_partsPair.cls yX8_partsPair yX8_partsPair ∈ lw_tbl := tb_m (i := 47) rfl
abbrev rX8_partsPair : Room := { frames := 4, cells := 0, slots := 0, locals := 108 }
set_option maxRecDepth 20000 in
theorem cm_X8_pattern : Cond.code yX8_pattern cX8_pattern 4 (some .int) ∈ lw_tbl := tb_m (i := 1326) rfl
set_option maxRecDepth 20000 in
theorem ci_X8_pattern : Cond.instanceMethod yX8_pattern ∈ lw_tbl := tb_m (i := 1324) rfl
set_option maxRecDepth 20000 in
theorem cv_X8_pattern : Cond.selects yX8_pattern.cls yX8_pattern yX8_pattern ∈ lw_tbl := tb_m (i := 1325) rfl
abbrev rX8_pattern : Room := { frames := 5, cells := 0, slots := 0, locals := 130 }
set_option maxRecDepth 20000 in
theorem cm_X8_patternOf : Cond.code yX8_patternOf cX8_patternOf 6 (some .int) ∈ lw_tbl := tb_m (i := 1330) rfl
set_option maxRecDepth 20000 in
theorem ci_X8_patternOf : Cond.instanceMethod yX8_patternOf ∈ lw_tbl := tb_m (i := 1329) rfl
set_option maxRecDepth 20000 in
theorem cv_X8_patternOf : Cond.selects yX8_patternOf.cls yX8_patternOf yX8_patternOf ∈ lw_tbl := tb_m (i := 60) rfl
abbrev rX8_patternOf : Room := { frames := 2, cells := 0, slots := 0, locals := 56 }
set_option maxRecDepth 20000 in
theorem cm_X8_place : Cond.code yX8_place cX8_place 3 (some .int) ∈ lw_tbl := tb_m (i := 1390) rfl
set_option maxRecDepth 20000 in
theorem ci_X8_place : Cond.instanceMethod yX8_place ∈ lw_tbl := tb_m (i := 1388) rfl
set_option maxRecDepth 20000 in
theorem cv_X8_place : Cond.selects yX8_place.cls yX8_place yX8_place ∈ lw_tbl := tb_m (i := 1389) rfl
abbrev rX8_place : Room := { frames := 1, cells := 0, slots := 0, locals := 22 }
set_option maxRecDepth 20000 in
theorem cm_X8_rational : Cond.code yX8_rational cX8_rational 9 (some .int) ∈ lw_tbl := tb_m (i := 1338) rfl
set_option maxRecDepth 20000 in
theorem ci_X8_rational : Cond.instanceMethod yX8_rational ∈ lw_tbl := tb_m (i := 1336) rfl
set_option maxRecDepth 20000 in
theorem cv_X8_rational : Cond.selects yX8_rational.cls yX8_rational yX8_rational ∈ lw_tbl := tb_m (i := 1337) rfl
abbrev rX8_rational : Room := { frames := 4, cells := 0, slots := 0, locals := 108 }
set_option maxRecDepth 20000 in
theorem cm_X8_readFour : Cond.code yX8_readFour cX8_readFour 6 (some .int) ∈ lw_tbl := tb_m (i := 1186) rfl
set_option maxRecDepth 20000 in
theorem ci_X8_readFour : Cond.instanceMethod yX8_readFour ∈ lw_tbl := tb_m (i := 1185) rfl
set_option maxRecDepth 20000 in
theorem cv_X8_readFour : Cond.selects yX8_readFour.cls yX8_readFour yX8_readFour ∈ lw_tbl := tb_m (i := 40) rfl
abbrev rX8_readFour : Room := { frames := 1, cells := 0, slots := 0, locals := 22 }
set_option maxRecDepth 20000 in
theorem cm_X8_roots : Cond.code yX8_roots cX8_roots 4 (some .int) ∈ lw_tbl := tb_m (i := 1256) rfl
set_option maxRecDepth 20000 in
theorem ci_X8_roots : Cond.instanceMethod yX8_roots ∈ lw_tbl := tb_m (i := 1254) rfl
set_option maxRecDepth 20000 in
theorem cv_X8_roots : Cond.selects yX8_roots.cls yX8_roots yX8_roots ∈ lw_tbl := tb_m (i := 1255) rfl
abbrev rX8_roots : Room := { frames := 5, cells := 0, slots := 0, locals := 130 }
set_option maxRecDepth 20000 in
theorem cm_X8_rowOf : Cond.code yX8_rowOf cX8_rowOf 1 (some .int) ∈ lw_tbl := tb_m (i := 1073) rfl
set_option maxRecDepth 20000 in
theorem cs_X8_rowOf : Cond.static yX8_rowOf ∈ lw_tbl := tb_m (i := 1072) rfl
abbrev rX8_rowOf : Room := { frames := 0, cells := 0, slots := 0, locals := 0 }
set_option maxRecDepth 20000 in
theorem cm_X8_same : Cond.code yX8_same cX8_same 8 (some .int) ∈ lw_tbl := tb_m (i := 1166) rfl
set_option maxRecDepth 20000 in
theorem ci_X8_same : Cond.instanceMethod yX8_same ∈ lw_tbl := tb_m (i := 1164) rfl
set_option maxRecDepth 20000 in
theorem cv_X8_same : Cond.selects yX8_same.cls yX8_same yX8_same ∈ lw_tbl := tb_m (i := 1165) rfl
abbrev rX8_same : Room := { frames := 3, cells := 0, slots := 0, locals := 64 }
set_option maxRecDepth 20000 in
theorem cm_X8_setFacts : Cond.code yX8_setFacts cX8_setFacts 6 (some .int) ∈ lw_tbl := tb_m (i := 1080) rfl
set_option maxRecDepth 20000 in
theorem ci_X8_setFacts : Cond.instanceMethod yX8_setFacts ∈ lw_tbl := tb_m (i := 1079) rfl
set_option maxRecDepth 20000 in
theorem cv_X8_setFacts : Cond.selects yX8_setFacts.cls yX8_setFacts yX8_setFacts ∈ lw_tbl := tb_m (i := 28) rfl
abbrev rX8_setFacts : Room := { frames := 3, cells := 0, slots := 0, locals := 81 }
set_option maxRecDepth 20000 in
theorem cm_X8_share : Cond.code yX8_share cX8_share 8 (some .int) ∈ lw_tbl := tb_m (i := 1230) rfl
set_option maxRecDepth 20000 in
theorem ci_X8_share : Cond.instanceMethod yX8_share ∈ lw_tbl := tb_m (i := 1229) rfl
set_option maxRecDepth 20000 in
theorem cv_X8_share : Cond.selects yX8_share.cls yX8_share yX8_share ∈ lw_tbl := tb_m (i := 44) rfl
abbrev rX8_share : Room := { frames := 2, cells := 0, slots := 0, locals := 50 }
set_option maxRecDepth 20000 in
theorem cm_X8_shared : Cond.code yX8_shared cX8_shared 5 (some .int) ∈ lw_tbl := tb_m (i := 1378) rfl
set_option maxRecDepth 20000 in
theorem ci_X8_shared : Cond.instanceMethod yX8_shared ∈ lw_tbl := tb_m (i := 1376) rfl
set_option maxRecDepth 20000 in
theorem cv_X8_shared : Cond.selects yX8_shared.cls yX8_shared yX8_shared ∈ lw_tbl := tb_m (i := 1377) rfl
abbrev rX8_shared : Room := { frames := 3, cells := 0, slots := 0, locals := 78 }
set_option maxRecDepth 20000 in
theorem cm_X8_shared3 : Cond.code yX8_shared3 cX8_shared3 5 (some .int) ∈ lw_tbl := tb_m (i := 1386) rfl
set_option maxRecDepth 20000 in
theorem ci_X8_shared3 : Cond.instanceMethod yX8_shared3 ∈ lw_tbl := tb_m (i := 1384) rfl
set_option maxRecDepth 20000 in
theorem cv_X8_shared3 : Cond.selects yX8_shared3.cls yX8_shared3 yX8_shared3 ∈ lw_tbl := tb_m (i := 1385) rfl
abbrev rX8_shared3 : Room := { frames := 3, cells := 0, slots := 0, locals := 78 }
set_option maxRecDepth 20000 in
theorem cm_X8_shear : Cond.code yX8_shear cX8_shear 9 (some .int) ∈ lw_tbl := tb_m (i := 1155) rfl
set_option maxRecDepth 20000 in
theorem ci_X8_shear : Cond.instanceMethod yX8_shear ∈ lw_tbl := tb_m (i := 1153) rfl
set_option maxRecDepth 20000 in
theorem cv_X8_shear : Cond.selects yX8_shear.cls yX8_shear yX8_shear ∈ lw_tbl := tb_m (i := 1154) rfl
abbrev rX8_shear : Room := { frames := 4, cells := 0, slots := 0, locals := 106 }
set_option maxRecDepth 20000 in
theorem cm_X8_sheet : Cond.code yX8_sheet cX8_sheet 3 (some .int) ∈ lw_tbl := tb_m (i := 1030) rfl
set_option maxRecDepth 20000 in
theorem ci_X8_sheet : Cond.instanceMethod yX8_sheet ∈ lw_tbl := tb_m (i := 1028) rfl
set_option maxRecDepth 20000 in
theorem cv_X8_sheet : Cond.selects yX8_sheet.cls yX8_sheet yX8_sheet ∈ lw_tbl := tb_m (i := 1029) rfl
abbrev rX8_sheet : Room := { frames := 2, cells := 0, slots := 0, locals := 42 }
set_option maxRecDepth 20000 in
theorem cm_X8_sign : Cond.code yX8_sign cX8_sign 2 (some .int) ∈ lw_tbl := tb_m (i := 1109) rfl
set_option maxRecDepth 20000 in
theorem cs_X8_sign : Cond.static yX8_sign ∈ lw_tbl := tb_m (i := 1108) rfl
abbrev rX8_sign : Room := { frames := 0, cells := 0, slots := 0, locals := 0 }
set_option maxRecDepth 20000 in
theorem cm_X8_size : Cond.code yX8_size cX8_size 2 (some .long) ∈ lw_tbl := tb_m (i := 1236) rfl
set_option maxRecDepth 20000 in
theorem cs_X8_size : Cond.static yX8_size ∈ lw_tbl := tb_m (i := 1235) rfl
abbrev rX8_size : Room := { frames := 0, cells := 0, slots := 0, locals := 0 }
set_option maxRecDepth 20000 in
theorem cm_X8_slopeAt : Cond.code yX8_slopeAt cX8_slopeAt 10 (some .long) ∈ lw_tbl := tb_m (i := 1284) rfl
set_option maxRecDepth 20000 in
theorem ci_X8_slopeAt : Cond.instanceMethod yX8_slopeAt ∈ lw_tbl := tb_m (i := 1283) rfl
set_option maxRecDepth 20000 in
theorem cv_X8_slopeAt : Cond.selects yX8_slopeAt.cls yX8_slopeAt yX8_slopeAt ∈ lw_tbl := tb_m (i := 53) rfl
abbrev rX8_slopeAt : Room := { frames := 0, cells := 0, slots := 0, locals := 0 }
set_option maxRecDepth 20000 in
theorem cm_X8_sortRoots : Cond.code yX8_sortRoots cX8_sortRoots 8 none ∈ lw_tbl := tb_m (i := 1288) rfl
set_option maxRecDepth 20000 in
theorem ci_X8_sortRoots : Cond.instanceMethod yX8_sortRoots ∈ lw_tbl := tb_m (i := 1287) rfl
set_option maxRecDepth 20000 in
theorem cv_X8_sortRoots : Cond.selects yX8_sortRoots.cls yX8_sortRoots yX8_sortRoots ∈ lw_tbl := tb_m (i := 54) rfl
abbrev rX8_sortRoots : Room := { frames := 0, cells := 0, slots := 0, locals := 0 }
set_option maxRecDepth 20000 in
theorem cm_X8_swap : Cond.code yX8_swap cX8_swap 6 (some .int) ∈ lw_tbl := tb_m (i := 1159) rfl
set_option maxRecDepth 20000 in
theorem ci_X8_swap : Cond.instanceMethod yX8_swap ∈ lw_tbl := tb_m (i := 1157) rfl
set_option maxRecDepth 20000 in
theorem cv_X8_swap : Cond.selects yX8_swap.cls yX8_swap yX8_swap ∈ lw_tbl := tb_m (i := 1158) rfl
abbrev rX8_swap : Room := { frames := 4, cells := 0, slots := 0, locals := 106 }
set_option maxRecDepth 20000 in
theorem cm_X8_table : Cond.code yX8_table cX8_table 5 (some .int) ∈ lw_tbl := tb_m (i := 1128) rfl
set_option maxRecDepth 20000 in
theorem ci_X8_table : Cond.instanceMethod yX8_table ∈ lw_tbl := tb_m (i := 1126) rfl
set_option maxRecDepth 20000 in
theorem cv_X8_table : Cond.selects yX8_table.cls yX8_table yX8_table ∈ lw_tbl := tb_m (i := 1127) rfl
abbrev rX8_table : Room := { frames := 3, cells := 0, slots := 0, locals := 63 }
set_option maxRecDepth 20000 in
theorem cm_X8_takeRoot : Cond.code yX8_takeRoot cX8_takeRoot 6 none ∈ lw_tbl := tb_m (i := 1268) rfl
set_option maxRecDepth 20000 in
theorem ci_X8_takeRoot : Cond.instanceMethod yX8_takeRoot ∈ lw_tbl := tb_m (i := 1267) rfl
set_option maxRecDepth 20000 in
theorem cv_X8_takeRoot : Cond.selects yX8_takeRoot.cls yX8_takeRoot yX8_takeRoot ∈ lw_tbl := tb_m (i := 49) rfl
abbrev rX8_takeRoot : Room := { frames := 1, cells := 0, slots := 0, locals := 29 }
set_option maxRecDepth 20000 in
theorem cm_X8_tangent : Cond.code yX8_tangent cX8_tangent 6 (some .int) ∈ lw_tbl := tb_m (i := 1198) rfl
set_option maxRecDepth 20000 in
theorem ci_X8_tangent : Cond.instanceMethod yX8_tangent ∈ lw_tbl := tb_m (i := 1196) rfl
set_option maxRecDepth 20000 in
theorem cv_X8_tangent : Cond.selects yX8_tangent.cls yX8_tangent yX8_tangent ∈ lw_tbl := tb_m (i := 1197) rfl
abbrev rX8_tangent : Room := { frames := 3, cells := 0, slots := 0, locals := 69 }
set_option maxRecDepth 20000 in
theorem cm_X8_tangentAt : Cond.code yX8_tangentAt cX8_tangentAt 6 (some .int) ∈ lw_tbl := tb_m (i := 1194) rfl
set_option maxRecDepth 20000 in
theorem ci_X8_tangentAt : Cond.instanceMethod yX8_tangentAt ∈ lw_tbl := tb_m (i := 1193) rfl
set_option maxRecDepth 20000 in
theorem cv_X8_tangentAt : Cond.selects yX8_tangentAt.cls yX8_tangentAt yX8_tangentAt ∈ lw_tbl := tb_m (i := 42) rfl
abbrev rX8_tangentAt : Room := { frames := 0, cells := 0, slots := 0, locals := 0 }
set_option maxRecDepth 20000 in
theorem cm_X8_tear : Cond.code yX8_tear cX8_tear 3 (some .int) ∈ lw_tbl := tb_m (i := 1056) rfl
set_option maxRecDepth 20000 in
theorem ci_X8_tear : Cond.instanceMethod yX8_tear ∈ lw_tbl := tb_m (i := 1054) rfl
set_option maxRecDepth 20000 in
theorem cv_X8_tear : Cond.selects yX8_tear.cls yX8_tear yX8_tear ∈ lw_tbl := tb_m (i := 1055) rfl
abbrev rX8_tear : Room := { frames := 3, cells := 0, slots := 0, locals := 63 }
set_option maxRecDepth 20000 in
theorem cm_X8_three : Cond.code yX8_three cX8_three 4 (some .long) ∈ lw_tbl := tb_m (i := 1096) rfl
set_option maxRecDepth 20000 in
theorem ci_X8_three : Cond.instanceMethod yX8_three ∈ lw_tbl := tb_m (i := 1095) rfl
set_option maxRecDepth 20000 in
theorem cv_X8_three : Cond.selects yX8_three.cls yX8_three yX8_three ∈ lw_tbl := tb_m (i := 32) rfl
abbrev rX8_three : Room := { frames := 1, cells := 0, slots := 0, locals := 31 }
set_option maxRecDepth 20000 in
theorem cm_X8_threeOf : Cond.code yX8_threeOf cX8_threeOf 12 (some .long) ∈ lw_tbl := tb_m (i := 1099) rfl
set_option maxRecDepth 20000 in
theorem cs_X8_threeOf : Cond.static yX8_threeOf ∈ lw_tbl := tb_m (i := 1098) rfl
abbrev rX8_threeOf : Room := { frames := 0, cells := 0, slots := 0, locals := 0 }
set_option maxRecDepth 20000 in
theorem cm_X8_threeRoots : Cond.code yX8_threeRoots cX8_threeRoots 9 (some .boolean) ∈ lw_tbl := tb_m (i := 1297) rfl
set_option maxRecDepth 20000 in
theorem ci_X8_threeRoots : Cond.instanceMethod yX8_threeRoots ∈ lw_tbl := tb_m (i := 1296) rfl
set_option maxRecDepth 20000 in
theorem cv_X8_threeRoots : Cond.selects yX8_threeRoots.cls yX8_threeRoots yX8_threeRoots ∈ lw_tbl := tb_m (i := 56) rfl
abbrev rX8_threeRoots : Room := { frames := 0, cells := 0, slots := 0, locals := 0 }
set_option maxRecDepth 20000 in
theorem cm_X8_times : Cond.code yX8_times cX8_times 16 none ∈ lw_tbl := tb_m (i := 1316) rfl
set_option maxRecDepth 20000 in
theorem ci_X8_times : Cond.instanceMethod yX8_times ∈ lw_tbl := tb_m (i := 1315) rfl
set_option maxRecDepth 20000 in
theorem cv_X8_times : Cond.selects yX8_times.cls yX8_times yX8_times ∈ lw_tbl := tb_m (i := 58) rfl
abbrev rX8_times : Room := { frames := 0, cells := 0, slots := 0, locals := 0 }
set_option maxRecDepth 20000 in
theorem cm_X8_timesOf : Cond.code yX8_timesOf cX8_timesOf 6 (some .int) ∈ lw_tbl := tb_m (i := 1342) rfl
set_option maxRecDepth 20000 in
theorem ci_X8_timesOf : Cond.instanceMethod yX8_timesOf ∈ lw_tbl := tb_m (i := 1341) rfl
set_option maxRecDepth 20000 in
theorem cv_X8_timesOf : Cond.selects yX8_timesOf.cls yX8_timesOf yX8_timesOf ∈ lw_tbl := tb_m (i := 62) rfl
abbrev rX8_timesOf : Room := { frames := 1, cells := 0, slots := 0, locals := 29 }
set_option maxRecDepth 20000 in
theorem cm_X8_told : Cond.code yX8_told cX8_told 4 (some .int) ∈ lw_tbl := tb_m (i := 1136) rfl
set_option maxRecDepth 20000 in
theorem ci_X8_told : Cond.instanceMethod yX8_told ∈ lw_tbl := tb_m (i := 1134) rfl
set_option maxRecDepth 20000 in
theorem cv_X8_told : Cond.selects yX8_told.cls yX8_told yX8_told ∈ lw_tbl := tb_m (i := 1135) rfl
abbrev rX8_told : Room := { frames := 3, cells := 0, slots := 0, locals := 63 }
set_option maxRecDepth 20000 in
theorem cm_X8_touches : Cond.code yX8_touches cX8_touches 4 (some .int) ∈ lw_tbl := tb_m (i := 1218) rfl
set_option maxRecDepth 20000 in
theorem ci_X8_touches : Cond.instanceMethod yX8_touches ∈ lw_tbl := tb_m (i := 1216) rfl
set_option maxRecDepth 20000 in
theorem cv_X8_touches : Cond.selects yX8_touches.cls yX8_touches yX8_touches ∈ lw_tbl := tb_m (i := 1217) rfl
abbrev rX8_touches : Room := { frames := 4, cells := 0, slots := 0, locals := 101 }
set_option maxRecDepth 20000 in
theorem cm_X8_tryRoot : Cond.code yX8_tryRoot cX8_tryRoot 5 none ∈ lw_tbl := tb_m (i := 1280) rfl
set_option maxRecDepth 20000 in
theorem ci_X8_tryRoot : Cond.instanceMethod yX8_tryRoot ∈ lw_tbl := tb_m (i := 1279) rfl
set_option maxRecDepth 20000 in
theorem cv_X8_tryRoot : Cond.selects yX8_tryRoot.cls yX8_tryRoot yX8_tryRoot ∈ lw_tbl := tb_m (i := 52) rfl
abbrev rX8_tryRoot : Room := { frames := 2, cells := 0, slots := 0, locals := 54 }
set_option maxRecDepth 20000 in
theorem cm_X8_turn : Cond.code yX8_turn cX8_turn 4 (some .int) ∈ lw_tbl := tb_m (i := 1151) rfl
set_option maxRecDepth 20000 in
theorem ci_X8_turn : Cond.instanceMethod yX8_turn ∈ lw_tbl := tb_m (i := 1149) rfl
set_option maxRecDepth 20000 in
theorem cv_X8_turn : Cond.selects yX8_turn.cls yX8_turn yX8_turn ∈ lw_tbl := tb_m (i := 1150) rfl
abbrev rX8_turn : Room := { frames := 4, cells := 0, slots := 0, locals := 106 }
set_option maxRecDepth 20000 in
theorem cm_X8_two : Cond.code yX8_two cX8_two 3 (some .long) ∈ lw_tbl := tb_m (i := 1092) rfl
set_option maxRecDepth 20000 in
theorem ci_X8_two : Cond.instanceMethod yX8_two ∈ lw_tbl := tb_m (i := 1091) rfl
set_option maxRecDepth 20000 in
theorem cv_X8_two : Cond.selects yX8_two.cls yX8_two yX8_two ∈ lw_tbl := tb_m (i := 31) rfl
abbrev rX8_two : Room := { frames := 0, cells := 0, slots := 0, locals := 0 }
set_option maxRecDepth 20000 in
theorem cm_X8_upper : Cond.code yX8_upper cX8_upper 1 (some .long) ∈ lw_tbl := tb_m (i := 1398) rfl
set_option maxRecDepth 20000 in
theorem ci_X8_upper : Cond.instanceMethod yX8_upper ∈ lw_tbl := tb_m (i := 1396) rfl
set_option maxRecDepth 20000 in
theorem cv_X8_upper : Cond.selects yX8_upper.cls yX8_upper yX8_upper ∈ lw_tbl := tb_m (i := 1397) rfl
abbrev rX8_upper : Room := { frames := 0, cells := 0, slots := 0, locals := 0 }
set_option maxRecDepth 20000 in
theorem cm_X8_value : Cond.code yX8_value cX8_value 4 (some .int) ∈ lw_tbl := tb_m (i := 1178) rfl
set_option maxRecDepth 20000 in
theorem ci_X8_value : Cond.instanceMethod yX8_value ∈ lw_tbl := tb_m (i := 1176) rfl
set_option maxRecDepth 20000 in
theorem cv_X8_value : Cond.selects yX8_value.cls yX8_value yX8_value ∈ lw_tbl := tb_m (i := 1177) rfl
abbrev rX8_value : Room := { frames := 3, cells := 0, slots := 0, locals := 69 }
set_option maxRecDepth 20000 in
theorem cm_X8_worthOf : Cond.code yX8_worthOf cX8_worthOf 9 (some .long) ∈ lw_tbl := tb_m (i := 1102) rfl
set_option maxRecDepth 20000 in
theorem cs_X8_worthOf : Cond.static yX8_worthOf ∈ lw_tbl := tb_m (i := 1101) rfl
abbrev rX8_worthOf : Room := { frames := 0, cells := 0, slots := 0, locals := 0 }
set_option maxRecDepth 20000 in
theorem co_X7_23 : ma_CO RX7 23 yX4_init cX4_init 1 none 0 := ⟨cm_X4_init, tb_in_X4, ⟨by decide, by decide⟩, by decide +kernel, Or.inr ⟨"BentGrounds", tb_m (i := 96) rfl⟩⟩
set_option maxRecDepth 20000 in
theorem co_X7_33 : ma_CO RX7 33 yX0_init cX0_init 1 none 0 := ⟨cm_X0_init, tb_in_X0, ⟨by decide, by decide⟩, by decide +kernel, Or.inr ⟨"BentGrounds", tb_m (i := 128) rfl⟩⟩
set_option maxRecDepth 20000 in
theorem co_X7_40 : ma_CO RX7 40 yX5_init cX5_init 4 none 0 := ⟨cm_X5_init, tb_in_X5, ⟨by decide, by decide⟩, by decide +kernel, Or.inl (tb_m (i := 185) rfl)⟩
set_option maxRecDepth 20000 in
theorem co_X7_47 : ma_CO RX7 47 yX2_init cX2_init 1 none 0 := ⟨cm_X2_init, tb_in_X2, ⟨by decide, by decide⟩, by decide +kernel, Or.inr ⟨"BentGrounds", tb_m (i := 211) rfl⟩⟩
set_option maxRecDepth 20000 in
theorem co_X7_73 : ma_CO RX7 73 yX3_init cX3_init 1 none 0 := ⟨cm_X3_init, tb_in_X3, ⟨by decide, by decide⟩, by decide +kernel, Or.inr ⟨"BentGrounds", tb_m (i := 225) rfl⟩⟩
set_option maxRecDepth 20000 in
theorem co_X7_74 : ma_CO RX7 74 yX1_init cX1_init 1 none 0 := ⟨cm_X1_init, tb_in_X1, ⟨by decide, by decide⟩, by decide +kernel, Or.inr ⟨"BentGrounds", tb_m (i := 239) rfl⟩⟩
set_option maxRecDepth 20000 in
theorem co_X7_75 : ma_CO RX7 75 yX7_noSheet cX7_noSheet 1 (some .boolean) 1 := ⟨cm_X7_noSheet, tb_in_X7, ⟨by decide, by decide⟩, by decide +kernel, Or.inl (tb_m (i := 317) rfl)⟩
set_option maxRecDepth 20000 in
theorem co_X7_79 : ma_CO RX7 79 yX7_refuse cX7_refuse 2 (some .int) 1 := ⟨cm_X7_refuse, tb_in_X7, ⟨by decide, by decide⟩, by decide +kernel, Or.inl (tb_m (i := 320) rfl)⟩
set_option maxRecDepth 20000 in
theorem co_X7_83 : ma_CO RX7 83 yX3_begin cX3_begin 3 none 1 := ⟨cm_X3_begin, tb_in_X3, ⟨by decide, by decide⟩, by decide +kernel, Or.inl (tb_m (i := 324) rfl)⟩
set_option maxRecDepth 20000 in
theorem co_X7_87 : ma_CO RX7 87 yX3_missing cX3_missing 1 (some .boolean) 0 := ⟨cm_X3_missing, tb_in_X3, ⟨by decide, by decide⟩, by decide +kernel, Or.inl (tb_m (i := 332) rfl)⟩
set_option maxRecDepth 20000 in
theorem co_X7_101 : ma_CO RX7 101 yX3_end cX3_end 1 none 0 := ⟨cm_X3_end, tb_in_X3, ⟨by decide, by decide⟩, by decide +kernel, Or.inl (tb_m (i := 340) rfl)⟩
set_option maxRecDepth 20000 in
theorem co_X7_104 : ma_CO RX7 104 yX3_hasFrom cX3_hasFrom 3 (some .boolean) 2 := ⟨cm_X3_hasFrom, tb_in_X3, ⟨by decide, by decide⟩, by decide +kernel, Or.inl (tb_m (i := 349) rfl)⟩
set_option maxRecDepth 20000 in
theorem co_X7_114 : ma_CO RX7 114 yX7_noGround cX7_noGround 1 (some .boolean) 1 := ⟨cm_X7_noGround, tb_in_X7, ⟨by decide, by decide⟩, by decide +kernel, Or.inl (tb_m (i := 360) rfl)⟩
set_option maxRecDepth 20000 in
theorem co_X7_117 : ma_CO RX7 117 yX3_goesBeyond cX3_goesBeyond 4 (some .boolean) 2 := ⟨cm_X3_goesBeyond, tb_in_X3, ⟨by decide, by decide⟩, by decide +kernel, Or.inl (tb_m (i := 363) rfl)⟩
set_option maxRecDepth 20000 in
theorem co_X7_120 : ma_CO RX7 120 yX3_isBlank cX3_isBlank 3 (some .boolean) 1 := ⟨cm_X3_isBlank, tb_in_X3, ⟨by decide, by decide⟩, by decide +kernel, Or.inl (tb_m (i := 367) rfl)⟩
set_option maxRecDepth 20000 in
theorem co_X7_123 : ma_CO RX7 123 yX4_readTen cX4_readTen 3 none 1 := ⟨cm_X4_readTen, tb_in_X4, ⟨by decide, by decide⟩, by decide +kernel, Or.inl (tb_m (i := 371) rfl)⟩
set_option maxRecDepth 20000 in
theorem co_X7_127 : ma_CO RX7 127 yX1_becomes cX1_becomes 3 (some .int) 2 := ⟨cm_X1_becomes, tb_in_X1, ⟨by decide, by decide⟩, by decide +kernel, Or.inl (tb_m (i := 379) rfl)⟩
set_option maxRecDepth 20000 in
theorem co_X7_131 : ma_CO RX7 131 yX7_refusedGround cX7_refusedGround 2 (some .int) 1 := ⟨cm_X7_refusedGround, tb_in_X7, ⟨by decide, by decide⟩, by decide +kernel, Or.inl (tb_m (i := 450) rfl)⟩
set_option maxRecDepth 20000 in
theorem co_X7_138 : ma_CO RX7 138 yX7_noLetter cX7_noLetter 1 (some .boolean) 1 := ⟨cm_X7_noLetter, tb_in_X7, ⟨by decide, by decide⟩, by decide +kernel, Or.inl (tb_m (i := 462) rfl)⟩
set_option maxRecDepth 20000 in
theorem co_X7_150 : ma_CO RX7 150 yX1_is cX1_is 2 (some .boolean) 1 := ⟨cm_X1_is, tb_in_X1, ⟨by decide, by decide⟩, by decide +kernel, Or.inl (tb_m (i := 473) rfl)⟩
set_option maxRecDepth 20000 in
theorem co_X7_153 : ma_CO RX7 153 yX1_nought cX1_nought 1 (some .int) 0 := ⟨cm_X1_nought, tb_in_X1, ⟨by decide, by decide⟩, by decide +kernel, Or.inl (tb_m (i := 477) rfl)⟩
set_option maxRecDepth 20000 in
theorem co_X7_157 : ma_CO RX7 157 yX1_changesSign cX1_changesSign 1 (some .boolean) 0 := ⟨cm_X1_changesSign, tb_in_X1, ⟨by decide, by decide⟩, by decide +kernel, Or.inl (tb_m (i := 478) rfl)⟩
set_option maxRecDepth 20000 in
theorem co_X7_160 : ma_CO RX7 160 yX7_oneIf cX7_oneIf 1 (some .int) 1 := ⟨cm_X7_oneIf, tb_in_X7, ⟨by decide, by decide⟩, by decide +kernel, Or.inl (tb_m (i := 482) rfl)⟩
set_option maxRecDepth 20000 in
theorem co_X7_164 : ma_CO RX7 164 yX1_above cX1_above 1 (some .int) 0 := ⟨cm_X1_above, tb_in_X1, ⟨by decide, by decide⟩, by decide +kernel, Or.inl (tb_m (i := 485) rfl)⟩
set_option maxRecDepth 20000 in
theorem co_X7_167 : ma_CO RX7 167 yX1_below cX1_below 1 (some .int) 0 := ⟨cm_X1_below, tb_in_X1, ⟨by decide, by decide⟩, by decide +kernel, Or.inl (tb_m (i := 486) rfl)⟩
set_option maxRecDepth 20000 in
theorem co_X7_170 : ma_CO RX7 170 yX1_worth cX1_worth 1 (some .int) 0 := ⟨cm_X1_worth, tb_in_X1, ⟨by decide, by decide⟩, by decide +kernel, Or.inl (tb_m (i := 487) rfl)⟩
set_option maxRecDepth 20000 in
theorem co_X7_173 : ma_CO RX7 173 yX7_isSquare cX7_isSquare 2 (some .boolean) 1 := ⟨cm_X7_isSquare, tb_in_X7, ⟨by decide, by decide⟩, by decide +kernel, Or.inl (tb_m (i := 491) rfl)⟩
set_option maxRecDepth 20000 in
theorem co_X7_178 : ma_CO RX7 178 yX4_sumOf cX4_sumOf 8 none 4 := ⟨cm_X4_sumOf, tb_in_X4, ⟨by decide, by decide⟩, by decide +kernel, Or.inl (tb_m (i := 499) rfl)⟩
set_option maxRecDepth 20000 in
theorem co_X7_182 : ma_CO RX7 182 yX4_become cX4_become 3 none 1 := ⟨cm_X4_become, tb_in_X4, ⟨by decide, by decide⟩, by decide +kernel, Or.inl (tb_m (i := 507) rfl)⟩
set_option maxRecDepth 20000 in
theorem co_X7_186 : ma_CO RX7 186 yX4_shearBy cX4_shearBy 5 none 3 := ⟨cm_X4_shearBy, tb_in_X4, ⟨by decide, by decide⟩, by decide +kernel, Or.inl (tb_m (i := 508) rfl)⟩
set_option maxRecDepth 20000 in
theorem co_X7_190 : ma_CO RX7 190 yX4_goesBeyond cX4_goesBeyond 3 (some .boolean) 1 := ⟨cm_X4_goesBeyond, tb_in_X4, ⟨by decide, by decide⟩, by decide +kernel, Or.inl (tb_m (i := 513) rfl)⟩
set_option maxRecDepth 20000 in
theorem co_X7_192 : ma_CO RX7 192 yX4_swapLetters cX4_swapLetters 4 none 2 := ⟨cm_X4_swapLetters, tb_in_X4, ⟨by decide, by decide⟩, by decide +kernel, Or.inl (tb_m (i := 521) rfl)⟩
set_option maxRecDepth 20000 in
theorem co_X7_196 : ma_CO RX7 196 yX7_refusedPair cX7_refusedPair 3 (some .int) 2 := ⟨cm_X7_refusedPair, tb_in_X7, ⟨by decide, by decide⟩, by decide +kernel, Or.inl (tb_m (i := 454) rfl)⟩
set_option maxRecDepth 20000 in
theorem co_X7_200 : ma_CO RX7 200 yX1_name cX1_name 1 (some .int) 0 := ⟨cm_X1_name, tb_in_X1, ⟨by decide, by decide⟩, by decide +kernel, Or.inl (tb_m (i := 537) rfl)⟩
set_option maxRecDepth 20000 in
theorem co_X7_203 : ma_CO RX7 203 yX7_refusedAt cX7_refusedAt 4 (some .int) 2 := ⟨cm_X7_refusedAt, tb_in_X7, ⟨by decide, by decide⟩, by decide +kernel, Or.inl (tb_m (i := 545) rfl)⟩
set_option maxRecDepth 20000 in
theorem co_X7_206 : ma_CO RX7 206 yX4_product cX4_product 6 (some .long) 2 := ⟨cm_X4_product, tb_in_X4, ⟨by decide, by decide⟩, by decide +kernel, Or.inl (tb_m (i := 553) rfl)⟩
set_option maxRecDepth 20000 in
theorem co_X7_210 : ma_CO RX7 210 yX4_poleNumber cX4_poleNumber 6 (some .long) 2 := ⟨cm_X4_poleNumber, tb_in_X4, ⟨by decide, by decide⟩, by decide +kernel, Or.inl (tb_m (i := 565) rfl)⟩
set_option maxRecDepth 20000 in
theorem co_X7_214 : ma_CO RX7 214 yX7_placesFinding cX7_placesFinding 4 (some .int) 2 := ⟨cm_X7_placesFinding, tb_in_X7, ⟨by decide, by decide⟩, by decide +kernel, Or.inl (tb_m (i := 549) rfl)⟩
set_option maxRecDepth 20000 in
theorem co_X7_218 : ma_CO RX7 218 yX7_onePlaceAlone cX7_onePlaceAlone 4 (some .boolean) 2 := ⟨cm_X7_onePlaceAlone, tb_in_X7, ⟨by decide, by decide⟩, by decide +kernel, Or.inl (tb_m (i := 570) rfl)⟩
set_option maxRecDepth 20000 in
theorem co_X7_225 : ma_CO RX7 225 yX7_signOf cX7_signOf 2 (some .int) 1 := ⟨cm_X7_signOf, tb_in_X7, ⟨by decide, by decide⟩, by decide +kernel, Or.inl (tb_m (i := 410) rfl)⟩
set_option maxRecDepth 20000 in
theorem co_X7_229 : ma_CO RX7 229 yX4_cutBy cX4_cutBy 12 none 2 := ⟨cm_X4_cutBy, tb_in_X4, ⟨by decide, by decide⟩, by decide +kernel, Or.inl (tb_m (i := 581) rfl)⟩
set_option maxRecDepth 20000 in
theorem co_X7_233 : ma_CO RX7 233 yX4_readSigns cX4_readSigns 2 none 0 := ⟨cm_X4_readSigns, tb_in_X4, ⟨by decide, by decide⟩, by decide +kernel, Or.inl (tb_m (i := 585) rfl)⟩
set_option maxRecDepth 20000 in
theorem co_X7_240 : ma_CO RX7 240 yJ9_max_7cf53 cJ9_max_7cf53 2 (some .int) 2 := ⟨cm_J9_max_7cf53, tb_in_J9, ⟨by decide, by decide⟩, by decide +kernel, Or.inl (tb_m (i := 586) rfl)⟩
set_option maxRecDepth 20000 in
theorem co_X7_245 : ma_CO RX7 245 yX1_kind cX1_kind 1 (some .int) 0 := ⟨cm_X1_kind, tb_in_X1, ⟨by decide, by decide⟩, by decide +kernel, Or.inl (tb_m (i := 595) rfl)⟩
set_option maxRecDepth 20000 in
theorem co_X7_248 : ma_CO RX7 248 yX4_isPoleless cX4_isPoleless 3 (some .boolean) 1 := ⟨cm_X4_isPoleless, tb_in_X4, ⟨by decide, by decide⟩, by decide +kernel, Or.inl (tb_m (i := 596) rfl)⟩
set_option maxRecDepth 20000 in
theorem co_X7_252 : ma_CO RX7 252 yX1_lesserWorth cX1_lesserWorth 1 (some .int) 0 := ⟨cm_X1_lesserWorth, tb_in_X1, ⟨by decide, by decide⟩, by decide +kernel, Or.inl (tb_m (i := 604) rfl)⟩
set_option maxRecDepth 20000 in
theorem co_X7_255 : ma_CO RX7 255 yX4_putFarColumnAt cX4_putFarColumnAt 3 none 1 := ⟨cm_X4_putFarColumnAt, tb_in_X4, ⟨by decide, by decide⟩, by decide +kernel, Or.inl (tb_m (i := 608) rfl)⟩
set_option maxRecDepth 20000 in
theorem co_X7_258 : ma_CO RX7 258 yX4_minor3 cX4_minor3 7 (some .long) 3 := ⟨cm_X4_minor3, tb_in_X4, ⟨by decide, by decide⟩, by decide +kernel, Or.inl (tb_m (i := 612) rfl)⟩
set_option maxRecDepth 20000 in
theorem co_X7_262 : ma_CO RX7 262 yX7_tellFraction cX7_tellFraction 7 none 2 := ⟨cm_X7_tellFraction, tb_in_X7, ⟨by decide, by decide⟩, by decide +kernel, Or.inl (tb_m (i := 613) rfl)⟩
set_option maxRecDepth 20000 in
theorem co_X7_266 : ma_CO RX7 266 yX7_refusedPencil cX7_refusedPencil 4 (some .int) 2 := ⟨cm_X7_refusedPencil, tb_in_X7, ⟨by decide, by decide⟩, by decide +kernel, Or.inl (tb_m (i := 627) rfl)⟩
set_option maxRecDepth 20000 in
theorem co_X7_273 : ma_CO RX7 273 yX0_isNought cX0_isNought 1 (some .boolean) 0 := ⟨cm_X0_isNought, tb_in_X0, ⟨by decide, by decide⟩, by decide +kernel, Or.inl (tb_m (i := 658) rfl)⟩
set_option maxRecDepth 20000 in
theorem co_X7_276 : ma_CO RX7 276 yX0_realRoots cX0_realRoots 4 (some .int) 0 := ⟨cm_X0_realRoots, tb_in_X0, ⟨by decide, by decide⟩, by decide +kernel, Or.inl (tb_m (i := 666) rfl)⟩
set_option maxRecDepth 20000 in
theorem co_X7_279 : ma_CO RX7 279 yX0_figures cX0_figures 1 (some .int) 0 := ⟨cm_X0_figures, tb_in_X0, ⟨by decide, by decide⟩, by decide +kernel, Or.inl (tb_m (i := 722) rfl)⟩
set_option maxRecDepth 20000 in
theorem co_X7_282 : ma_CO RX7 282 yX0_findFractions cX0_findFractions 5 none 0 := ⟨cm_X0_findFractions, tb_in_X0, ⟨by decide, by decide⟩, by decide +kernel, Or.inl (tb_m (i := 727) rfl)⟩
set_option maxRecDepth 20000 in
theorem co_X7_294 : ma_CO RX7 294 yX0_timesAt cX0_timesAt 8 (some .int) 2 := ⟨cm_X0_timesAt, tb_in_X0, ⟨by decide, by decide⟩, by decide +kernel, Or.inl (tb_m (i := 747) rfl)⟩
set_option maxRecDepth 20000 in
theorem co_X7_298 : ma_CO RX7 298 yX5_walk cX5_walk 17 none 4 := ⟨cm_X5_walk, tb_in_X5, ⟨by decide, by decide⟩, by decide +kernel, Or.inl (tb_m (i := 755) rfl)⟩
set_option maxRecDepth 20000 in
theorem co_X7_307 : ma_CO RX7 307 yX0_singleRoots cX0_singleRoots 6 (some .int) 0 := ⟨cm_X0_singleRoots, tb_in_X0, ⟨by decide, by decide⟩, by decide +kernel, Or.inl (tb_m (i := 769) rfl)⟩
set_option maxRecDepth 20000 in
theorem co_X7_310 : ma_CO RX7 310 yX7_meeting cX7_meeting 6 (some .int) 3 := ⟨cm_X7_meeting, tb_in_X7, ⟨by decide, by decide⟩, by decide +kernel, Or.inl (tb_m (i := 777) rfl)⟩
set_option maxRecDepth 20000 in
theorem co_X7_314 : ma_CO RX7 314 yX4_moveBy cX4_moveBy 4 none 2 := ⟨cm_X4_moveBy, tb_in_X4, ⟨by decide, by decide⟩, by decide +kernel, Or.inl (tb_m (i := 790) rfl)⟩
set_option maxRecDepth 20000 in
theorem co_X7_318 : ma_CO RX7 318 yX2_seek cX2_seek 8 (some .int) 4 := ⟨cm_X2_seek, tb_in_X2, ⟨by decide, by decide⟩, by decide +kernel, Or.inl (tb_m (i := 799) rfl)⟩
set_option maxRecDepth 20000 in
theorem co_X7_331 : ma_CO RX7 331 yX7_sheetsThere cX7_sheetsThere 3 (some .int) 0 := ⟨cm_X7_sheetsThere, tb_in_X7, ⟨by decide, by decide⟩, by decide +kernel, Or.inl (tb_m (i := 840) rfl)⟩
set_option maxRecDepth 20000 in
theorem co_X7_334 : ma_CO RX7 334 yX7_groundsThere cX7_groundsThere 4 (some .int) 1 := ⟨cm_X7_groundsThere, tb_in_X7, ⟨by decide, by decide⟩, by decide +kernel, Or.inl (tb_m (i := 844) rfl)⟩
set_option maxRecDepth 20000 in
theorem co_X7_342 : ma_CO RX7 342 yX1_addTo cX1_addTo 6 (some .long) 1 := ⟨cm_X1_addTo, tb_in_X1, ⟨by decide, by decide⟩, by decide +kernel, Or.inl (tb_m (i := 861) rfl)⟩
set_option maxRecDepth 20000 in
theorem co_X7_346 : ma_CO RX7 346 yX3_addTo cX3_addTo 6 (some .long) 1 := ⟨cm_X3_addTo, tb_in_X3, ⟨by decide, by decide⟩, by decide +kernel, Or.inl (tb_m (i := 870) rfl)⟩
set_option maxRecDepth 20000 in
theorem co_X7_347 : ma_CO RX7 347 yX0_read cX0_read 23 none 4 := ⟨cm_X0_read, tb_in_X0, ⟨by decide, by decide⟩, by decide +kernel, Or.inl (tb_m (i := 631) rfl)⟩
set_option maxRecDepth 20000 in
theorem co_X7_351 : ma_CO RX7 351 yX0_meetingOfBalls cX0_meetingOfBalls 2 (some .int) 0 := ⟨cm_X0_meetingOfBalls, tb_in_X0, ⟨by decide, by decide⟩, by decide +kernel, Or.inl (tb_m (i := 781) rfl)⟩
set_option maxRecDepth 20000 in
theorem co_X7_354 : ma_CO RX7 354 yX7_commonPart cX7_commonPart 11 (some .long) 2 := ⟨cm_X7_commonPart, tb_in_X7, ⟨by decide, by decide⟩, by decide +kernel, Or.inl (tb_m (i := 617) rfl)⟩
set_option maxRecDepth 20000 in
theorem co_X7_358 : ma_CO RX7 358 yJ9_abs_067f4 cJ9_abs_067f4 2 (some .long) 1 := ⟨cm_J9_abs_067f4, tb_in_J9, ⟨by decide, by decide⟩, by decide +kernel, Or.inl (tb_m (i := 620) rfl)⟩
set_option maxRecDepth 20000 in
theorem co_X0_20 : ma_CO RX0 20 yX4_init cX4_init 1 none 0 := ⟨cm_X4_init, tb_in_X4, ⟨by decide, by decide⟩, by decide +kernel, Or.inr ⟨"BentGrounds", tb_m (i := 133) rfl⟩⟩
set_option maxRecDepth 20000 in
theorem co_X0_27 : ma_CO RX0 27 yX6_init cX6_init 1 none 0 := ⟨cm_X6_init, tb_in_X6, ⟨by decide, by decide⟩, by decide +kernel, Or.inr ⟨"BentGrounds", tb_m (i := 136) rfl⟩⟩
set_option maxRecDepth 20000 in
theorem co_X0_42 : ma_CO RX0 42 yX0_worthOf cX0_worthOf 5 (some .long) 4 := ⟨cm_X0_worthOf, tb_in_X0, ⟨by decide, by decide⟩, by decide +kernel, Or.inl (tb_m (i := 635) rfl)⟩
set_option maxRecDepth 20000 in
theorem co_X0_71 : ma_CO RX0 71 yX4_sumOf cX4_sumOf 8 none 4 := ⟨cm_X4_sumOf, tb_in_X4, ⟨by decide, by decide⟩, by decide +kernel, Or.inl (tb_m (i := 639) rfl)⟩
set_option maxRecDepth 20000 in
theorem co_X0_75 : ma_CO RX0 75 yX4_worth cX4_worth 1 (some .long) 0 := ⟨cm_X4_worth, tb_in_X4, ⟨by decide, by decide⟩, by decide +kernel, Or.inl (tb_m (i := 640) rfl)⟩
set_option maxRecDepth 20000 in
theorem co_X0_79 : ma_CO RX0 79 yX0_degree cX0_degree 2 (some .int) 0 := ⟨cm_X0_degree, tb_in_X0, ⟨by decide, by decide⟩, by decide +kernel, Or.inl (tb_m (i := 662) rfl)⟩
set_option maxRecDepth 20000 in
theorem co_X0_83 : ma_CO RX0 83 yX0_figuresOfFour cX0_figuresOfFour 4 (some .int) 0 := ⟨cm_X0_figuresOfFour, tb_in_X0, ⟨by decide, by decide⟩, by decide +kernel, Or.inl (tb_m (i := 674) rfl)⟩
set_option maxRecDepth 20000 in
theorem co_X0_86 : ma_CO RX0 86 yX0_figuresOfThree cX0_figuresOfThree 2 (some .int) 0 := ⟨cm_X0_figuresOfThree, tb_in_X0, ⟨by decide, by decide⟩, by decide +kernel, Or.inl (tb_m (i := 710) rfl)⟩
set_option maxRecDepth 20000 in
theorem co_X0_89 : ma_CO RX0 89 yX0_figuresOfTwo cX0_figuresOfTwo 2 (some .int) 0 := ⟨cm_X0_figuresOfTwo, tb_in_X0, ⟨by decide, by decide⟩, by decide +kernel, Or.inl (tb_m (i := 714) rfl)⟩
set_option maxRecDepth 20000 in
theorem co_X0_92 : ma_CO RX0 92 yX7_signOf cX7_signOf 2 (some .int) 1 := ⟨cm_X7_signOf, tb_in_X7, ⟨by decide, by decide⟩, by decide +kernel, Or.inr ⟨"BentGrounds", tb_m (i := 709) rfl⟩⟩
set_option maxRecDepth 20000 in
theorem co_X0_96 : ma_CO RX0 96 yX0_signOfApartness cX0_signOfApartness 1 (some .int) 0 := ⟨cm_X0_signOfApartness, tb_in_X0, ⟨by decide, by decide⟩, by decide +kernel, Or.inl (tb_m (i := 678) rfl)⟩
set_option maxRecDepth 20000 in
theorem co_X0_99 : ma_CO RX0 99 yX0_eightACLessThreeBB cX0_eightACLessThreeBB 1 (some .long) 0 := ⟨cm_X0_eightACLessThreeBB, tb_in_X0, ⟨by decide, by decide⟩, by decide +kernel, Or.inl (tb_m (i := 696) rfl)⟩
set_option maxRecDepth 20000 in
theorem co_X0_102 : ma_CO RX0 102 yX0_signOfSpread cX0_signOfSpread 3 (some .int) 0 := ⟨cm_X0_signOfSpread, tb_in_X0, ⟨by decide, by decide⟩, by decide +kernel, Or.inl (tb_m (i := 701) rfl)⟩
set_option maxRecDepth 20000 in
theorem co_X0_105 : ma_CO RX0 105 yX0_leaning cX0_leaning 1 (some .long) 0 := ⟨cm_X0_leaning, tb_in_X0, ⟨by decide, by decide⟩, by decide +kernel, Or.inl (tb_m (i := 705) rfl)⟩
set_option maxRecDepth 20000 in
theorem co_X0_108 : ma_CO RX0 108 yX6_begin cX6_begin 4 none 1 := ⟨cm_X6_begin, tb_in_X6, ⟨by decide, by decide⟩, by decide +kernel, Or.inl (tb_m (i := 682) rfl)⟩
set_option maxRecDepth 20000 in
theorem co_X0_112 : ma_CO RX0 112 yX6_multiply cX6_multiply 11 none 1 := ⟨cm_X6_multiply, tb_in_X6, ⟨by decide, by decide⟩, by decide +kernel, Or.inl (tb_m (i := 687) rfl)⟩
set_option maxRecDepth 20000 in
theorem co_X0_115 : ma_CO RX0 115 yJ9_abs_067f4 cJ9_abs_067f4 2 (some .long) 1 := ⟨cm_J9_abs_067f4, tb_in_J9, ⟨by decide, by decide⟩, by decide +kernel, Or.inl (tb_m (i := 691) rfl)⟩
set_option maxRecDepth 20000 in
theorem co_X0_121 : ma_CO RX0 121 yX6_against cX6_against 3 (some .int) 1 := ⟨cm_X6_against, tb_in_X6, ⟨by decide, by decide⟩, by decide +kernel, Or.inl (tb_m (i := 692) rfl)⟩
set_option maxRecDepth 20000 in
theorem co_X0_127 : ma_CO RX0 127 yX0_figures cX0_figures 1 (some .int) 0 := ⟨cm_X0_figures, tb_in_X0, ⟨by decide, by decide⟩, by decide +kernel, Or.inl (tb_m (i := 670) rfl)⟩
set_option maxRecDepth 20000 in
theorem co_X0_130 : ma_CO RX0 130 yX7_signChanges cX7_signChanges 5 (some .int) 1 := ⟨cm_X7_signChanges, tb_in_X7, ⟨by decide, by decide⟩, by decide +kernel, Or.inr ⟨"BentGrounds", tb_m (i := 785) rfl⟩⟩
set_option maxRecDepth 20000 in
theorem co_X0_134 : ma_CO RX0 134 yX0_valueBy cX0_valueBy 11 (some .long) 4 := ⟨cm_X0_valueBy, tb_in_X0, ⟨by decide, by decide⟩, by decide +kernel, Or.inl (tb_m (i := 739) rfl)⟩
set_option maxRecDepth 20000 in
theorem co_X0_142 : ma_CO RX0 142 yX0_findFractionsBy cX0_findFractionsBy 3 none 1 := ⟨cm_X0_findFractionsBy, tb_in_X0, ⟨by decide, by decide⟩, by decide +kernel, Or.inl (tb_m (i := 731) rfl)⟩
set_option maxRecDepth 20000 in
theorem co_X0_146 : ma_CO RX0 146 yX0_worthAt cX0_worthAt 5 (some .long) 2 := ⟨cm_X0_worthAt, tb_in_X0, ⟨by decide, by decide⟩, by decide +kernel, Or.inl (tb_m (i := 735) rfl)⟩
set_option maxRecDepth 20000 in
theorem co_X0_150 : ma_CO RX0 150 yX7_commonPart cX7_commonPart 11 (some .long) 2 := ⟨cm_X7_commonPart, tb_in_X7, ⟨by decide, by decide⟩, by decide +kernel, Or.inr ⟨"BentGrounds", tb_m (i := 742) rfl⟩⟩
set_option maxRecDepth 20000 in
theorem co_X0_153 : ma_CO RX0 153 yX0_keepFraction cX0_keepFraction 4 none 2 := ⟨cm_X0_keepFraction, tb_in_X0, ⟨by decide, by decide⟩, by decide +kernel, Or.inl (tb_m (i := 743) rfl)⟩
set_option maxRecDepth 20000 in
theorem co_X1_11 : ma_CO RX1 11 yX4_init cX4_init 1 none 0 := ⟨cm_X4_init, tb_in_X4, ⟨by decide, by decide⟩, by decide +kernel, Or.inr ⟨"BentGrounds", tb_m (i := 244) rfl⟩⟩
set_option maxRecDepth 20000 in
theorem co_X1_22 : ma_CO RX1 22 yX1_above cX1_above 1 (some .int) 0 := ⟨cm_X1_above, tb_in_X1, ⟨by decide, by decide⟩, by decide +kernel, Or.inl (tb_m (i := 430) rfl)⟩
set_option maxRecDepth 20000 in
theorem co_X1_26 : ma_CO RX1 26 yX1_below cX1_below 1 (some .int) 0 := ⟨cm_X1_below, tb_in_X1, ⟨by decide, by decide⟩, by decide +kernel, Or.inl (tb_m (i := 434) rfl)⟩
set_option maxRecDepth 20000 in
theorem co_X1_29 : ma_CO RX1 29 yX1_kind cX1_kind 1 (some .int) 0 := ⟨cm_X1_kind, tb_in_X1, ⟨by decide, by decide⟩, by decide +kernel, Or.inl (tb_m (i := 442) rfl)⟩
set_option maxRecDepth 20000 in
theorem co_X1_32 : ma_CO RX1 32 yX4_become cX4_become 3 none 1 := ⟨cm_X4_become, tb_in_X4, ⟨by decide, by decide⟩, by decide +kernel, Or.inl (tb_m (i := 383) rfl)⟩
set_option maxRecDepth 20000 in
theorem co_X1_36 : ma_CO RX1 36 yX4_readSigns cX4_readSigns 2 none 0 := ⟨cm_X4_readSigns, tb_in_X4, ⟨by decide, by decide⟩, by decide +kernel, Or.inl (tb_m (i := 387) rfl)⟩
set_option maxRecDepth 20000 in
theorem co_X1_39 : ma_CO RX1 39 yX4_readLesser cX4_readLesser 3 none 1 := ⟨cm_X4_readLesser, tb_in_X4, ⟨by decide, by decide⟩, by decide +kernel, Or.inl (tb_m (i := 413) rfl)⟩
set_option maxRecDepth 20000 in
theorem co_X1_51 : ma_CO RX1 51 yX4_worth cX4_worth 1 (some .long) 0 := ⟨cm_X4_worth, tb_in_X4, ⟨by decide, by decide⟩, by decide +kernel, Or.inl (tb_m (i := 418) rfl)⟩
set_option maxRecDepth 20000 in
theorem co_X1_55 : ma_CO RX1 55 yX4_minor3 cX4_minor3 7 (some .long) 3 := ⟨cm_X4_minor3, tb_in_X4, ⟨by decide, by decide⟩, by decide +kernel, Or.inl (tb_m (i := 419) rfl)⟩
set_option maxRecDepth 20000 in
theorem co_X1_59 : ma_CO RX1 59 yX1_nameBy cX1_nameBy 4 (some .int) 4 := ⟨cm_X1_nameBy, tb_in_X1, ⟨by decide, by decide⟩, by decide +kernel, Or.inl (tb_m (i := 420) rfl)⟩
set_option maxRecDepth 20000 in
theorem co_X1_63 : ma_CO RX1 63 yJ9_max_7cf53 cJ9_max_7cf53 2 (some .int) 2 := ⟨cm_J9_max_7cf53, tb_in_J9, ⟨by decide, by decide⟩, by decide +kernel, Or.inl (tb_m (i := 423) rfl)⟩
set_option maxRecDepth 20000 in
theorem co_X1_69 : ma_CO RX1 69 yX1_kindBySigns cX1_kindBySigns 3 (some .int) 0 := ⟨cm_X1_kindBySigns, tb_in_X1, ⟨by decide, by decide⟩, by decide +kernel, Or.inl (tb_m (i := 426) rfl)⟩
set_option maxRecDepth 20000 in
theorem co_X1_72 : ma_CO RX1 72 yX1_nought cX1_nought 1 (some .int) 0 := ⟨cm_X1_nought, tb_in_X1, ⟨by decide, by decide⟩, by decide +kernel, Or.inl (tb_m (i := 438) rfl)⟩
set_option maxRecDepth 20000 in
theorem co_X1_77 : ma_CO RX1 77 yX4_ten cX4_ten 2 (some .long) 1 := ⟨cm_X4_ten, tb_in_X4, ⟨by decide, by decide⟩, by decide +kernel, Or.inl (tb_m (i := 866) rfl)⟩
set_option maxRecDepth 20000 in
theorem co_X2_19 : ma_CO RX2 19 yX4_tellAlong cX4_tellAlong 5 none 2 := ⟨cm_X4_tellAlong, tb_in_X4, ⟨by decide, by decide⟩, by decide +kernel, Or.inl (tb_m (i := 803) rfl)⟩
set_option maxRecDepth 20000 in
theorem co_X2_25 : ma_CO RX2 25 yX4_isOnAt cX4_isOnAt 3 (some .boolean) 1 := ⟨cm_X4_isOnAt, tb_in_X4, ⟨by decide, by decide⟩, by decide +kernel, Or.inl (tb_m (i := 808) rfl)⟩
set_option maxRecDepth 20000 in
theorem co_X2_29 : ma_CO RX2 29 yX2_keep cX2_keep 4 none 3 := ⟨cm_X2_keep, tb_in_X2, ⟨by decide, by decide⟩, by decide +kernel, Or.inl (tb_m (i := 812) rfl)⟩
set_option maxRecDepth 20000 in
theorem co_X3_19 : ma_CO RX3 19 yX3_begin cX3_begin 3 none 1 := ⟨cm_X3_begin, tb_in_X3, ⟨by decide, by decide⟩, by decide +kernel, Or.inl (tb_m (i := 344) rfl)⟩
set_option maxRecDepth 20000 in
theorem co_X4_25 : ma_CO RX4 25 yX7_noLetter cX7_noLetter 1 (some .boolean) 1 := ⟨cm_X7_noLetter, tb_in_X7, ⟨by decide, by decide⟩, by decide +kernel, Or.inr ⟨"BentGrounds", tb_m (i := 512) rfl⟩⟩
set_option maxRecDepth 20000 in
theorem co_X4_29 : ma_CO RX4 29 yX4_shearBy cX4_shearBy 5 none 3 := ⟨cm_X4_shearBy, tb_in_X4, ⟨by decide, by decide⟩, by decide +kernel, Or.inl (tb_m (i := 794) rfl)⟩
set_option maxRecDepth 20000 in
theorem co_X4_33 : ma_CO RX4 33 yX4_exchange cX4_exchange 5 none 2 := ⟨cm_X4_exchange, tb_in_X4, ⟨by decide, by decide⟩, by decide +kernel, Or.inl (tb_m (i := 525) rfl)⟩
set_option maxRecDepth 20000 in
theorem co_X4_37 : ma_CO RX4 37 yX4_poleNumber cX4_poleNumber 6 (some .long) 2 := ⟨cm_X4_poleNumber, tb_in_X4, ⟨by decide, by decide⟩, by decide +kernel, Or.inl (tb_m (i := 557) rfl)⟩
set_option maxRecDepth 20000 in
theorem co_X4_41 : ma_CO RX4 41 yX4_become cX4_become 3 none 1 := ⟨cm_X4_become, tb_in_X4, ⟨by decide, by decide⟩, by decide +kernel, Or.inl (tb_m (i := 417) rfl)⟩
set_option maxRecDepth 20000 in
theorem co_X4_45 : ma_CO RX4 45 yX4_pairOf cX4_pairOf 4 (some .long) 3 := ⟨cm_X4_pairOf, tb_in_X4, ⟨by decide, by decide⟩, by decide +kernel, Or.inl (tb_m (i := 403) rfl)⟩
set_option maxRecDepth 20000 in
theorem co_X4_49 : ma_CO RX4 49 yX4_minor2 cX4_minor2 3 (some .long) 2 := ⟨cm_X4_minor2, tb_in_X4, ⟨by decide, by decide⟩, by decide +kernel, Or.inl (tb_m (i := 391) rfl)⟩
set_option maxRecDepth 20000 in
theorem co_X4_53 : ma_CO RX4 53 yX4_minor3 cX4_minor3 7 (some .long) 3 := ⟨cm_X4_minor3, tb_in_X4, ⟨by decide, by decide⟩, by decide +kernel, Or.inl (tb_m (i := 395) rfl)⟩
set_option maxRecDepth 20000 in
theorem co_X4_56 : ma_CO RX4 56 yX4_worth cX4_worth 1 (some .long) 0 := ⟨cm_X4_worth, tb_in_X4, ⟨by decide, by decide⟩, by decide +kernel, Or.inl (tb_m (i := 399) rfl)⟩
set_option maxRecDepth 20000 in
theorem co_X4_60 : ma_CO RX4 60 yX7_signChanges cX7_signChanges 5 (some .int) 1 := ⟨cm_X7_signChanges, tb_in_X7, ⟨by decide, by decide⟩, by decide +kernel, Or.inr ⟨"BentGrounds", tb_m (i := 407) rfl⟩⟩
set_option maxRecDepth 20000 in
theorem co_X5_20 : ma_CO RX5 20 yX4_init cX4_init 1 none 0 := ⟨cm_X4_init, tb_in_X4, ⟨by decide, by decide⟩, by decide +kernel, Or.inr ⟨"BentGrounds", tb_m (i := 190) rfl⟩⟩
set_option maxRecDepth 20000 in
theorem co_X5_32 : ma_CO RX5 32 yJ9_abs_0f7a4 cJ9_abs_0f7a4 1 (some .int) 1 := ⟨cm_J9_abs_0f7a4, tb_in_J9, ⟨by decide, by decide⟩, by decide +kernel, Or.inl (tb_m (i := 759) rfl)⟩
set_option maxRecDepth 20000 in
theorem co_X5_38 : ma_CO RX5 38 yJ9_min_7cf53 cJ9_min_7cf53 2 (some .int) 2 := ⟨cm_J9_min_7cf53, tb_in_J9, ⟨by decide, by decide⟩, by decide +kernel, Or.inl (tb_m (i := 762) rfl)⟩
set_option maxRecDepth 20000 in
theorem co_X5_42 : ma_CO RX5 42 yX0_worthAt cX0_worthAt 5 (some .long) 2 := ⟨cm_X0_worthAt, tb_in_X0, ⟨by decide, by decide⟩, by decide +kernel, Or.inl (tb_m (i := 765) rfl)⟩
set_option maxRecDepth 20000 in
theorem co_X5_48 : ma_CO RX5 48 yX7_signOf cX7_signOf 2 (some .int) 1 := ⟨cm_X7_signOf, tb_in_X7, ⟨by decide, by decide⟩, by decide +kernel, Or.inr ⟨"BentGrounds", tb_m (i := 766) rfl⟩⟩
set_option maxRecDepth 20000 in
theorem co_X5_52 : ma_CO RX5 52 yX4_sumOf cX4_sumOf 8 none 4 := ⟨cm_X4_sumOf, tb_in_X4, ⟨by decide, by decide⟩, by decide +kernel, Or.inl (tb_m (i := 767) rfl)⟩
set_option maxRecDepth 20000 in
theorem co_X5_56 : ma_CO RX5 56 yX4_readSigns cX4_readSigns 2 none 0 := ⟨cm_X4_readSigns, tb_in_X4, ⟨by decide, by decide⟩, by decide +kernel, Or.inl (tb_m (i := 768) rfl)⟩
set_option maxRecDepth 20000 in
theorem co_L_9 : ma_CO RL 9 yX7_init cX7_init 2 none 0 := ⟨cm_X7_init, tb_in_X7, ⟨by decide, by decide⟩, by decide +kernel, Or.inl (tb_m (i := 84) rfl)⟩
set_option maxRecDepth 20000 in
theorem co_L_12 : ma_CO RL 12 yX8_init cX8_init 2 none 0 := ⟨cm_X8_init, tb_in_X8, ⟨by decide, by decide⟩, by decide +kernel, Or.inl (tb_m (i := 877) rfl)⟩
set_option maxRecDepth 20000 in
theorem co_L_13 : ma_CO RL 13 yX7_sheet cX7_sheet 3 (some .int) 2 := ⟨cm_X7_sheet, tb_in_X7, ⟨by decide, by decide⟩, by decide +kernel, Or.inl (tb_m (i := 313) rfl)⟩
set_option maxRecDepth 20000 in
theorem co_L_17 : ma_CO RL 17 yX8_sheet cX8_sheet 3 (some .int) 2 := ⟨cm_X8_sheet, tb_in_X8, ⟨by decide, by decide⟩, by decide +kernel, Or.inl (tb_m (i := 1027) rfl)⟩
set_option maxRecDepth 20000 in
theorem co_L_18 : ma_CO RL 18 yX7_lay cX7_lay 5 (some .int) 3 := ⟨cm_X7_lay, tb_in_X7, ⟨by decide, by decide⟩, by decide +kernel, Or.inl (tb_m (i := 328) rfl)⟩
set_option maxRecDepth 20000 in
theorem co_L_22 : ma_CO RL 22 yX8_lay cX8_lay 5 (some .int) 3 := ⟨cm_X8_lay, tb_in_X8, ⟨by decide, by decide⟩, by decide +kernel, Or.inl (tb_m (i := 1045) rfl)⟩
set_option maxRecDepth 20000 in
theorem co_L_23 : ma_CO RL 23 yX7_tear cX7_tear 2 (some .int) 1 := ⟨cm_X7_tear, tb_in_X7, ⟨by decide, by decide⟩, by decide +kernel, Or.inl (tb_m (i := 336) rfl)⟩
set_option maxRecDepth 20000 in
theorem co_L_27 : ma_CO RL 27 yX8_tear cX8_tear 3 (some .int) 1 := ⟨cm_X8_tear, tb_in_X8, ⟨by decide, by decide⟩, by decide +kernel, Or.inl (tb_m (i := 1053) rfl)⟩
set_option maxRecDepth 20000 in
theorem co_L_28 : ma_CO RL 28 yX7_copy cX7_copy 8 (some .int) 5 := ⟨cm_X7_copy, tb_in_X7, ⟨by decide, by decide⟩, by decide +kernel, Or.inl (tb_m (i := 345) rfl)⟩
set_option maxRecDepth 20000 in
theorem co_L_32 : ma_CO RL 32 yX8_copy cX8_copy 7 (some .int) 5 := ⟨cm_X8_copy, tb_in_X8, ⟨by decide, by decide⟩, by decide +kernel, Or.inl (tb_m (i := 1057) rfl)⟩
set_option maxRecDepth 20000 in
theorem co_L_33 : ma_CO RL 33 yX7_ground cX7_ground 4 (some .int) 2 := ⟨cm_X7_ground, tb_in_X7, ⟨by decide, by decide⟩, by decide +kernel, Or.inl (tb_m (i := 356) rfl)⟩
set_option maxRecDepth 20000 in
theorem co_L_36 : ma_CO RL 36 yX8_ground cX8_ground 8 (some .int) 2 := ⟨cm_X8_ground, tb_in_X8, ⟨by decide, by decide⟩, by decide +kernel, Or.inl (tb_m (i := 1061) rfl)⟩
set_option maxRecDepth 20000 in
theorem co_L_37 : ma_CO RL 37 yX7_drop cX7_drop 3 (some .int) 1 := ⟨cm_X7_drop, tb_in_X7, ⟨by decide, by decide⟩, by decide +kernel, Or.inl (tb_m (i := 446) rfl)⟩
set_option maxRecDepth 20000 in
theorem co_L_40 : ma_CO RL 40 yX8_drop cX8_drop 3 (some .int) 1 := ⟨cm_X8_drop, tb_in_X8, ⟨by decide, by decide⟩, by decide +kernel, Or.inl (tb_m (i := 1117) rfl)⟩
set_option maxRecDepth 20000 in
theorem co_L_41 : ma_CO RL 41 yX7_table cX7_table 5 (some .int) 3 := ⟨cm_X7_table, tb_in_X7, ⟨by decide, by decide⟩, by decide +kernel, Or.inl (tb_m (i := 458) rfl)⟩
set_option maxRecDepth 20000 in
theorem co_L_44 : ma_CO RL 44 yX8_table cX8_table 5 (some .int) 3 := ⟨cm_X8_table, tb_in_X8, ⟨by decide, by decide⟩, by decide +kernel, Or.inl (tb_m (i := 1125) rfl)⟩
set_option maxRecDepth 20000 in
theorem co_L_45 : ma_CO RL 45 yX7_told cX7_told 4 (some .int) 2 := ⟨cm_X7_told, tb_in_X7, ⟨by decide, by decide⟩, by decide +kernel, Or.inl (tb_m (i := 465) rfl)⟩
set_option maxRecDepth 20000 in
theorem co_L_48 : ma_CO RL 48 yX8_told cX8_told 4 (some .int) 2 := ⟨cm_X8_told, tb_in_X8, ⟨by decide, by decide⟩, by decide +kernel, Or.inl (tb_m (i := 1133) rfl)⟩
set_option maxRecDepth 20000 in
theorem co_L_49 : ma_CO RL 49 yX7_mark cX7_mark 5 (some .int) 2 := ⟨cm_X7_mark, tb_in_X7, ⟨by decide, by decide⟩, by decide +kernel, Or.inl (tb_m (i := 469) rfl)⟩
set_option maxRecDepth 20000 in
theorem co_L_52 : ma_CO RL 52 yX8_mark cX8_mark 5 (some .int) 2 := ⟨cm_X8_mark, tb_in_X8, ⟨by decide, by decide⟩, by decide +kernel, Or.inl (tb_m (i := 1137) rfl)⟩
set_option maxRecDepth 20000 in
theorem co_L_53 : ma_CO RL 53 yX7_turn cX7_turn 4 (some .int) 1 := ⟨cm_X7_turn, tb_in_X7, ⟨by decide, by decide⟩, by decide +kernel, Or.inl (tb_m (i := 494) rfl)⟩
set_option maxRecDepth 20000 in
theorem co_L_56 : ma_CO RL 56 yX8_turn cX8_turn 4 (some .int) 1 := ⟨cm_X8_turn, tb_in_X8, ⟨by decide, by decide⟩, by decide +kernel, Or.inl (tb_m (i := 1148) rfl)⟩
set_option maxRecDepth 20000 in
theorem co_L_57 : ma_CO RL 57 yX7_shear cX7_shear 6 (some .int) 4 := ⟨cm_X7_shear, tb_in_X7, ⟨by decide, by decide⟩, by decide +kernel, Or.inl (tb_m (i := 503) rfl)⟩
set_option maxRecDepth 20000 in
theorem co_L_61 : ma_CO RL 61 yX8_shear cX8_shear 9 (some .int) 4 := ⟨cm_X8_shear, tb_in_X8, ⟨by decide, by decide⟩, by decide +kernel, Or.inl (tb_m (i := 1152) rfl)⟩
set_option maxRecDepth 20000 in
theorem co_L_62 : ma_CO RL 62 yX7_swap cX7_swap 5 (some .int) 3 := ⟨cm_X7_swap, tb_in_X7, ⟨by decide, by decide⟩, by decide +kernel, Or.inl (tb_m (i := 517) rfl)⟩
set_option maxRecDepth 20000 in
theorem co_L_65 : ma_CO RL 65 yX8_swap cX8_swap 6 (some .int) 3 := ⟨cm_X8_swap, tb_in_X8, ⟨by decide, by decide⟩, by decide +kernel, Or.inl (tb_m (i := 1156) rfl)⟩
set_option maxRecDepth 20000 in
theorem co_L_66 : ma_CO RL 66 yX7_same cX7_same 8 (some .int) 2 := ⟨cm_X7_same, tb_in_X7, ⟨by decide, by decide⟩, by decide +kernel, Or.inl (tb_m (i := 529) rfl)⟩
set_option maxRecDepth 20000 in
theorem co_L_69 : ma_CO RL 69 yX8_same cX8_same 8 (some .int) 2 := ⟨cm_X8_same, tb_in_X8, ⟨by decide, by decide⟩, by decide +kernel, Or.inl (tb_m (i := 1163) rfl)⟩
set_option maxRecDepth 20000 in
theorem co_L_70 : ma_CO RL 70 yX7_alike cX7_alike 4 (some .int) 2 := ⟨cm_X7_alike, tb_in_X7, ⟨by decide, by decide⟩, by decide +kernel, Or.inl (tb_m (i := 533) rfl)⟩
set_option maxRecDepth 20000 in
theorem co_L_73 : ma_CO RL 73 yX8_alike cX8_alike 4 (some .int) 2 := ⟨cm_X8_alike, tb_in_X8, ⟨by decide, by decide⟩, by decide +kernel, Or.inl (tb_m (i := 1171) rfl)⟩
set_option maxRecDepth 20000 in
theorem co_L_74 : ma_CO RL 74 yX7_value cX7_value 4 (some .int) 2 := ⟨cm_X7_value, tb_in_X7, ⟨by decide, by decide⟩, by decide +kernel, Or.inl (tb_m (i := 541) rfl)⟩
set_option maxRecDepth 20000 in
theorem co_L_77 : ma_CO RL 77 yX8_value cX8_value 4 (some .int) 2 := ⟨cm_X8_value, tb_in_X8, ⟨by decide, by decide⟩, by decide +kernel, Or.inl (tb_m (i := 1175) rfl)⟩
set_option maxRecDepth 20000 in
theorem co_L_78 : ma_CO RL 78 yX7_tangent cX7_tangent 7 (some .int) 3 := ⟨cm_X7_tangent, tb_in_X7, ⟨by decide, by decide⟩, by decide +kernel, Or.inl (tb_m (i := 561) rfl)⟩
set_option maxRecDepth 20000 in
theorem co_L_81 : ma_CO RL 81 yX8_tangent cX8_tangent 6 (some .int) 3 := ⟨cm_X8_tangent, tb_in_X8, ⟨by decide, by decide⟩, by decide +kernel, Or.inl (tb_m (i := 1195) rfl)⟩
set_option maxRecDepth 20000 in
theorem co_L_82 : ma_CO RL 82 yX7_line cX7_line 12 (some .int) 3 := ⟨cm_X7_line, tb_in_X7, ⟨by decide, by decide⟩, by decide +kernel, Or.inl (tb_m (i := 566) rfl)⟩
set_option maxRecDepth 20000 in
theorem co_L_85 : ma_CO RL 85 yX8_line cX8_line 10 (some .int) 3 := ⟨cm_X8_line, tb_in_X8, ⟨by decide, by decide⟩, by decide +kernel, Or.inl (tb_m (i := 1199) rfl)⟩
set_option maxRecDepth 20000 in
theorem co_L_86 : ma_CO RL 86 yX7_lineTold cX7_lineTold 2 (some .int) 1 := ⟨cm_X7_lineTold, tb_in_X7, ⟨by decide, by decide⟩, by decide +kernel, Or.inl (tb_m (i := 573) rfl)⟩
set_option maxRecDepth 20000 in
theorem co_L_89 : ma_CO RL 89 yX8_lineTold cX8_lineTold 2 (some .int) 1 := ⟨cm_X8_lineTold, tb_in_X8, ⟨by decide, by decide⟩, by decide +kernel, Or.inl (tb_m (i := 1203) rfl)⟩
set_option maxRecDepth 20000 in
theorem co_L_90 : ma_CO RL 90 yX7_cut cX7_cut 4 (some .int) 2 := ⟨cm_X7_cut, tb_in_X7, ⟨by decide, by decide⟩, by decide +kernel, Or.inl (tb_m (i := 577) rfl)⟩
set_option maxRecDepth 20000 in
theorem co_L_93 : ma_CO RL 93 yX8_cut cX8_cut 4 (some .int) 2 := ⟨cm_X8_cut, tb_in_X8, ⟨by decide, by decide⟩, by decide +kernel, Or.inl (tb_m (i := 1207) rfl)⟩
set_option maxRecDepth 20000 in
theorem co_L_94 : ma_CO RL 94 yX7_touches cX7_touches 4 (some .int) 2 := ⟨cm_X7_touches, tb_in_X7, ⟨by decide, by decide⟩, by decide +kernel, Or.inl (tb_m (i := 587) rfl)⟩
set_option maxRecDepth 20000 in
theorem co_L_97 : ma_CO RL 97 yX8_touches cX8_touches 4 (some .int) 2 := ⟨cm_X8_touches, tb_in_X8, ⟨by decide, by decide⟩, by decide +kernel, Or.inl (tb_m (i := 1215) rfl)⟩
set_option maxRecDepth 20000 in
theorem co_L_98 : ma_CO RL 98 yX7_lines cX7_lines 5 (some .int) 2 := ⟨cm_X7_lines, tb_in_X7, ⟨by decide, by decide⟩, by decide +kernel, Or.inl (tb_m (i := 591) rfl)⟩
set_option maxRecDepth 20000 in
theorem co_L_101 : ma_CO RL 101 yX8_lines cX8_lines 6 (some .int) 2 := ⟨cm_X8_lines, tb_in_X8, ⟨by decide, by decide⟩, by decide +kernel, Or.inl (tb_m (i := 1219) rfl)⟩
set_option maxRecDepth 20000 in
theorem co_L_102 : ma_CO RL 102 yX7_middle cX7_middle 6 (some .int) 2 := ⟨cm_X7_middle, tb_in_X7, ⟨by decide, by decide⟩, by decide +kernel, Or.inl (tb_m (i := 600) rfl)⟩
set_option maxRecDepth 20000 in
theorem co_L_105 : ma_CO RL 105 yX8_middle cX8_middle 8 (some .int) 2 := ⟨cm_X8_middle, tb_in_X8, ⟨by decide, by decide⟩, by decide +kernel, Or.inl (tb_m (i := 1223) rfl)⟩
set_option maxRecDepth 20000 in
theorem co_L_106 : ma_CO RL 106 yX7_form cX7_form 6 (some .int) 2 := ⟨cm_X7_form, tb_in_X7, ⟨by decide, by decide⟩, by decide +kernel, Or.inl (tb_m (i := 623) rfl)⟩
set_option maxRecDepth 20000 in
theorem co_L_109 : ma_CO RL 109 yX8_form cX8_form 6 (some .int) 2 := ⟨cm_X8_form, tb_in_X8, ⟨by decide, by decide⟩, by decide +kernel, Or.inl (tb_m (i := 1237) rfl)⟩
set_option maxRecDepth 20000 in
theorem co_L_110 : ma_CO RL 110 yX7_formTold cX7_formTold 2 (some .int) 1 := ⟨cm_X7_formTold, tb_in_X7, ⟨by decide, by decide⟩, by decide +kernel, Or.inl (tb_m (i := 650) rfl)⟩
set_option maxRecDepth 20000 in
theorem co_L_113 : ma_CO RL 113 yX8_formTold cX8_formTold 2 (some .int) 1 := ⟨cm_X8_formTold, tb_in_X8, ⟨by decide, by decide⟩, by decide +kernel, Or.inl (tb_m (i := 1249) rfl)⟩
set_option maxRecDepth 20000 in
theorem co_L_114 : ma_CO RL 114 yX7_roots cX7_roots 4 (some .int) 2 := ⟨cm_X7_roots, tb_in_X7, ⟨by decide, by decide⟩, by decide +kernel, Or.inl (tb_m (i := 654) rfl)⟩
set_option maxRecDepth 20000 in
theorem co_L_117 : ma_CO RL 117 yX8_roots cX8_roots 4 (some .int) 2 := ⟨cm_X8_roots, tb_in_X8, ⟨by decide, by decide⟩, by decide +kernel, Or.inl (tb_m (i := 1253) rfl)⟩
set_option maxRecDepth 20000 in
theorem co_L_118 : ma_CO RL 118 yX7_pattern cX7_pattern 4 (some .int) 2 := ⟨cm_X7_pattern, tb_in_X7, ⟨by decide, by decide⟩, by decide +kernel, Or.inl (tb_m (i := 718) rfl)⟩
set_option maxRecDepth 20000 in
theorem co_L_121 : ma_CO RL 121 yX8_pattern cX8_pattern 4 (some .int) 2 := ⟨cm_X8_pattern, tb_in_X8, ⟨by decide, by decide⟩, by decide +kernel, Or.inl (tb_m (i := 1323) rfl)⟩
set_option maxRecDepth 20000 in
theorem co_L_122 : ma_CO RL 122 yX7_rational cX7_rational 9 (some .int) 3 := ⟨cm_X7_rational, tb_in_X7, ⟨by decide, by decide⟩, by decide +kernel, Or.inl (tb_m (i := 723) rfl)⟩
set_option maxRecDepth 20000 in
theorem co_L_125 : ma_CO RL 125 yX8_rational cX8_rational 9 (some .int) 3 := ⟨cm_X8_rational, tb_in_X8, ⟨by decide, by decide⟩, by decide +kernel, Or.inl (tb_m (i := 1335) rfl)⟩
set_option maxRecDepth 20000 in
theorem co_L_126 : ma_CO RL 126 yX7_between cX7_between 6 (some .int) 3 := ⟨cm_X7_between, tb_in_X7, ⟨by decide, by decide⟩, by decide +kernel, Or.inl (tb_m (i := 751) rfl)⟩
set_option maxRecDepth 20000 in
theorem co_L_129 : ma_CO RL 129 yX8_between cX8_between 20 (some .int) 3 := ⟨cm_X8_between, tb_in_X8, ⟨by decide, by decide⟩, by decide +kernel, Or.inl (tb_m (i := 1343) rfl)⟩
set_option maxRecDepth 20000 in
theorem co_L_130 : ma_CO RL 130 yX7_apart cX7_apart 4 (some .int) 2 := ⟨cm_X7_apart, tb_in_X7, ⟨by decide, by decide⟩, by decide +kernel, Or.inl (tb_m (i := 773) rfl)⟩
set_option maxRecDepth 20000 in
theorem co_L_133 : ma_CO RL 133 yX8_apart cX8_apart 4 (some .int) 2 := ⟨cm_X8_apart, tb_in_X8, ⟨by decide, by decide⟩, by decide +kernel, Or.inl (tb_m (i := 1351) rfl)⟩
set_option maxRecDepth 20000 in
theorem co_L_134 : ma_CO RL 134 yX7_first cX7_first 7 (some .int) 4 := ⟨cm_X7_first, tb_in_X7, ⟨by decide, by decide⟩, by decide +kernel, Or.inl (tb_m (i := 786) rfl)⟩
set_option maxRecDepth 20000 in
theorem co_L_137 : ma_CO RL 137 yX8_first cX8_first 10 (some .int) 4 := ⟨cm_X8_first, tb_in_X8, ⟨by decide, by decide⟩, by decide +kernel, Or.inl (tb_m (i := 1371) rfl)⟩
set_option maxRecDepth 20000 in
theorem co_L_138 : ma_CO RL 138 yX7_shared cX7_shared 5 (some .int) 3 := ⟨cm_X7_shared, tb_in_X7, ⟨by decide, by decide⟩, by decide +kernel, Or.inl (tb_m (i := 795) rfl)⟩
set_option maxRecDepth 20000 in
theorem co_L_141 : ma_CO RL 141 yX8_shared cX8_shared 5 (some .int) 3 := ⟨cm_X8_shared, tb_in_X8, ⟨by decide, by decide⟩, by decide +kernel, Or.inl (tb_m (i := 1375) rfl)⟩
set_option maxRecDepth 20000 in
theorem co_L_142 : ma_CO RL 142 yX7_place cX7_place 3 (some .int) 2 := ⟨cm_X7_place, tb_in_X7, ⟨by decide, by decide⟩, by decide +kernel, Or.inl (tb_m (i := 816) rfl)⟩
set_option maxRecDepth 20000 in
theorem co_L_145 : ma_CO RL 145 yX8_place cX8_place 3 (some .int) 2 := ⟨cm_X8_place, tb_in_X8, ⟨by decide, by decide⟩, by decide +kernel, Or.inl (tb_m (i := 1387) rfl)⟩
set_option maxRecDepth 20000 in
theorem co_L_146 : ma_CO RL 146 yX7_shared3 cX7_shared3 5 (some .int) 4 := ⟨cm_X7_shared3, tb_in_X7, ⟨by decide, by decide⟩, by decide +kernel, Or.inl (tb_m (i := 820) rfl)⟩
set_option maxRecDepth 20000 in
theorem co_L_149 : ma_CO RL 149 yX8_shared3 cX8_shared3 5 (some .int) 4 := ⟨cm_X8_shared3, tb_in_X8, ⟨by decide, by decide⟩, by decide +kernel, Or.inl (tb_m (i := 1383) rfl)⟩
set_option maxRecDepth 20000 in
theorem co_L_150 : ma_CO RL 150 yX7_asked cX7_asked 1 (some .int) 0 := ⟨cm_X7_asked, tb_in_X7, ⟨by decide, by decide⟩, by decide +kernel, Or.inl (tb_m (i := 824) rfl)⟩
set_option maxRecDepth 20000 in
theorem co_L_154 : ma_CO RL 154 yX8_asked cX8_asked 1 (some .int) 0 := ⟨cm_X8_asked, tb_in_X8, ⟨by decide, by decide⟩, by decide +kernel, Or.inl (tb_m (i := 1391) rfl)⟩
set_option maxRecDepth 20000 in
theorem co_L_155 : ma_CO RL 155 yX7_upper cX7_upper 1 (some .long) 0 := ⟨cm_X7_upper, tb_in_X7, ⟨by decide, by decide⟩, by decide +kernel, Or.inl (tb_m (i := 828) rfl)⟩
set_option maxRecDepth 20000 in
theorem co_L_159 : ma_CO RL 159 yX8_upper cX8_upper 1 (some .long) 0 := ⟨cm_X8_upper, tb_in_X8, ⟨by decide, by decide⟩, by decide +kernel, Or.inl (tb_m (i := 1395) rfl)⟩
set_option maxRecDepth 20000 in
theorem co_L_160 : ma_CO RL 160 yX7_lower cX7_lower 1 (some .long) 0 := ⟨cm_X7_lower, tb_in_X7, ⟨by decide, by decide⟩, by decide +kernel, Or.inl (tb_m (i := 832) rfl)⟩
set_option maxRecDepth 20000 in
theorem co_L_163 : ma_CO RL 163 yX8_lower cX8_lower 1 (some .long) 0 := ⟨cm_X8_lower, tb_in_X8, ⟨by decide, by decide⟩, by decide +kernel, Or.inl (tb_m (i := 1399) rfl)⟩
set_option maxRecDepth 20000 in
theorem co_L_164 : ma_CO RL 164 yX7_count cX7_count 2 (some .int) 1 := ⟨cm_X7_count, tb_in_X7, ⟨by decide, by decide⟩, by decide +kernel, Or.inl (tb_m (i := 836) rfl)⟩
set_option maxRecDepth 20000 in
theorem co_L_167 : ma_CO RL 167 yX8_count cX8_count 6 (some .int) 1 := ⟨cm_X8_count, tb_in_X8, ⟨by decide, by decide⟩, by decide +kernel, Or.inl (tb_m (i := 1403) rfl)⟩
set_option maxRecDepth 20000 in
theorem co_L_168 : ma_CO RL 168 yX7_finding cX7_finding 1 (some .int) 0 := ⟨cm_X7_finding, tb_in_X7, ⟨by decide, by decide⟩, by decide +kernel, Or.inl (tb_m (i := 848) rfl)⟩
set_option maxRecDepth 20000 in
theorem co_L_171 : ma_CO RL 171 yX8_finding cX8_finding 1 (some .int) 0 := ⟨cm_X8_finding, tb_in_X8, ⟨by decide, by decide⟩, by decide +kernel, Or.inl (tb_m (i := 1407) rfl)⟩
set_option maxRecDepth 20000 in
theorem co_L_172 : ma_CO RL 172 yX7_findings cX7_findings 2 (some .int) 1 := ⟨cm_X7_findings, tb_in_X7, ⟨by decide, by decide⟩, by decide +kernel, Or.inl (tb_m (i := 852) rfl)⟩
set_option maxRecDepth 20000 in
theorem co_L_175 : ma_CO RL 175 yX8_findings cX8_findings 2 (some .int) 1 := ⟨cm_X8_findings, tb_in_X8, ⟨by decide, by decide⟩, by decide +kernel, Or.inl (tb_m (i := 1411) rfl)⟩
set_option maxRecDepth 20000 in
theorem co_L_176 : ma_CO RL 176 yX7_digest cX7_digest 4 (some .long) 0 := ⟨cm_X7_digest, tb_in_X7, ⟨by decide, by decide⟩, by decide +kernel, Or.inl (tb_m (i := 856) rfl)⟩
set_option maxRecDepth 20000 in
theorem co_L_179 : ma_CO RL 179 yX8_digest cX8_digest 3 (some .long) 0 := ⟨cm_X8_digest, tb_in_X8, ⟨by decide, by decide⟩, by decide +kernel, Or.inl (tb_m (i := 1415) rfl)⟩
set_option maxRecDepth 20000 in
theorem co_X8_122 : ma_CO RX8 122 yX8_size cX8_size 2 (some .long) 1 := ⟨cm_X8_size, tb_in_X8, ⟨by decide, by decide⟩, by decide +kernel, Or.inl (tb_m (i := 1234) rfl)⟩
set_option maxRecDepth 20000 in
theorem co_X8_126 : ma_CO RX8 126 yX8_divisor cX8_divisor 10 (some .long) 2 := ⟨cm_X8_divisor, tb_in_X8, ⟨by decide, by decide⟩, by decide +kernel, Or.inl (tb_m (i := 1231) rfl)⟩
set_option maxRecDepth 20000 in
theorem co_X8_133 : ma_CO RX8 133 yX8_in cX8_in 3 (some .boolean) 3 := ⟨cm_X8_in, tb_in_X8, ⟨by decide, by decide⟩, by decide +kernel, Or.inl (tb_m (i := 1034) rfl)⟩
set_option maxRecDepth 20000 in
theorem co_X8_137 : ma_CO RX8 137 yX8_isSheet cX8_isSheet 1 (some .boolean) 1 := ⟨cm_X8_isSheet, tb_in_X8, ⟨by decide, by decide⟩, by decide +kernel, Or.inl (tb_m (i := 1031) rfl)⟩
set_option maxRecDepth 20000 in
theorem co_X8_141 : ma_CO RX8 141 yX8_meets cX8_meets 2 (some .int) 1 := ⟨cm_X8_meets, tb_in_X8, ⟨by decide, by decide⟩, by decide +kernel, Or.inl (tb_m (i := 1037) rfl)⟩
set_option maxRecDepth 20000 in
theorem co_X8_145 : ma_CO RX8 145 yX8_clear cX8_clear 4 none 2 := ⟨cm_X8_clear, tb_in_X8, ⟨by decide, by decide⟩, by decide +kernel, Or.inl (tb_m (i := 1041) rfl)⟩
set_option maxRecDepth 20000 in
theorem co_X8_149 : ma_CO RX8 149 yX8_looked cX8_looked 2 (some .int) 1 := ⟨cm_X8_looked, tb_in_X8, ⟨by decide, by decide⟩, by decide +kernel, Or.inl (tb_m (i := 1049) rfl)⟩
set_option maxRecDepth 20000 in
theorem co_X8_152 : ma_CO RX8 152 yX8_threeOf cX8_threeOf 12 (some .long) 6 := ⟨cm_X8_threeOf, tb_in_X8, ⟨by decide, by decide⟩, by decide +kernel, Or.inl (tb_m (i := 1097) rfl)⟩
set_option maxRecDepth 20000 in
theorem co_X8_156 : ma_CO RX8 156 yX8_sign cX8_sign 2 (some .int) 1 := ⟨cm_X8_sign, tb_in_X8, ⟨by decide, by decide⟩, by decide +kernel, Or.inl (tb_m (i := 1107) rfl)⟩
set_option maxRecDepth 20000 in
theorem co_X8_166 : ma_CO RX8 166 yX8_two cX8_two 3 (some .long) 2 := ⟨cm_X8_two, tb_in_X8, ⟨by decide, by decide⟩, by decide +kernel, Or.inl (tb_m (i := 1089) rfl)⟩
set_option maxRecDepth 20000 in
theorem co_X8_169 : ma_CO RX8 169 yX8_three cX8_three 4 (some .long) 3 := ⟨cm_X8_three, tb_in_X8, ⟨by decide, by decide⟩, by decide +kernel, Or.inl (tb_m (i := 1093) rfl)⟩
set_option maxRecDepth 20000 in
theorem co_X8_173 : ma_CO RX8 173 yX8_worthOf cX8_worthOf 9 (some .long) 1 := ⟨cm_X8_worthOf, tb_in_X8, ⟨by decide, by decide⟩, by decide +kernel, Or.inl (tb_m (i := 1100) rfl)⟩
set_option maxRecDepth 20000 in
theorem co_X8_177 : ma_CO RX8 177 yX8_laySigns cX8_laySigns 15 none 5 := ⟨cm_X8_laySigns, tb_in_X8, ⟨by decide, by decide⟩, by decide +kernel, Or.inl (tb_m (i := 1103) rfl)⟩
set_option maxRecDepth 20000 in
theorem co_X8_181 : ma_CO RX8 181 yX8_isGround cX8_isGround 1 (some .boolean) 1 := ⟨cm_X8_isGround, tb_in_X8, ⟨by decide, by decide⟩, by decide +kernel, Or.inl (tb_m (i := 1065) rfl)⟩
set_option maxRecDepth 20000 in
theorem co_X8_184 : ma_CO RX8 184 yX8_layTable cX8_layTable 3 none 1 := ⟨cm_X8_layTable, tb_in_X8, ⟨by decide, by decide⟩, by decide +kernel, Or.inl (tb_m (i := 1081) rfl)⟩
set_option maxRecDepth 20000 in
theorem co_X8_188 : ma_CO RX8 188 yX8_layFour cX8_layFour 7 none 0 := ⟨cm_X8_layFour, tb_in_X8, ⟨by decide, by decide⟩, by decide +kernel, Or.inl (tb_m (i := 1085) rfl)⟩
set_option maxRecDepth 20000 in
theorem co_X8_191 : ma_CO RX8 191 yX8_layThree cX8_layThree 1 none 0 := ⟨cm_X8_layThree, tb_in_X8, ⟨by decide, by decide⟩, by decide +kernel, Or.inl (tb_m (i := 1110) rfl)⟩
set_option maxRecDepth 20000 in
theorem co_X8_194 : ma_CO RX8 194 yX8_nameOf cX8_nameOf 6 (some .int) 4 := ⟨cm_X8_nameOf, tb_in_X8, ⟨by decide, by decide⟩, by decide +kernel, Or.inl (tb_m (i := 1114) rfl)⟩
set_option maxRecDepth 20000 in
theorem co_X8_198 : ma_CO RX8 198 yX8_isSmall cX8_isSmall 1 (some .boolean) 1 := ⟨cm_X8_isSmall, tb_in_X8, ⟨by decide, by decide⟩, by decide +kernel, Or.inl (tb_m (i := 1068) rfl)⟩
set_option maxRecDepth 20000 in
theorem co_X8_201 : ma_CO RX8 201 yX8_rowOf cX8_rowOf 1 (some .int) 1 := ⟨cm_X8_rowOf, tb_in_X8, ⟨by decide, by decide⟩, by decide +kernel, Or.inl (tb_m (i := 1071) rfl)⟩
set_option maxRecDepth 20000 in
theorem co_X8_204 : ma_CO RX8 204 yX8_columnOf cX8_columnOf 1 (some .int) 1 := ⟨cm_X8_columnOf, tb_in_X8, ⟨by decide, by decide⟩, by decide +kernel, Or.inl (tb_m (i := 1074) rfl)⟩
set_option maxRecDepth 20000 in
theorem co_X8_207 : ma_CO RX8 207 yX8_setFacts cX8_setFacts 6 (some .int) 1 := ⟨cm_X8_setFacts, tb_in_X8, ⟨by decide, by decide⟩, by decide +kernel, Or.inl (tb_m (i := 1077) rfl)⟩
set_option maxRecDepth 20000 in
theorem co_X8_210 : ma_CO RX8 210 yX8_askedFor cX8_askedFor 2 (some .int) 1 := ⟨cm_X8_askedFor, tb_in_X8, ⟨by decide, by decide⟩, by decide +kernel, Or.inl (tb_m (i := 1121) rfl)⟩
set_option maxRecDepth 20000 in
theorem co_X8_213 : ma_CO RX8 213 yX8_ask cX8_ask 3 (some .int) 2 := ⟨cm_X8_ask, tb_in_X8, ⟨by decide, by decide⟩, by decide +kernel, Or.inl (tb_m (i := 1129) rfl)⟩
set_option maxRecDepth 20000 in
theorem co_X8_217 : ma_CO RX8 217 yX8_changes cX8_changes 2 (some .boolean) 1 := ⟨cm_X8_changes, tb_in_X8, ⟨by decide, by decide⟩, by decide +kernel, Or.inl (tb_m (i := 1141) rfl)⟩
set_option maxRecDepth 20000 in
theorem co_X8_220 : ma_CO RX8 220 yX8_isSquare cX8_isSquare 2 (some .boolean) 1 := ⟨cm_X8_isSquare, tb_in_X8, ⟨by decide, by decide⟩, by decide +kernel, Or.inl (tb_m (i := 1145) rfl)⟩
set_option maxRecDepth 20000 in
theorem co_X8_223 : ma_CO RX8 223 yX8_changed cX8_changed 3 (some .int) 3 := ⟨cm_X8_changed, tb_in_X8, ⟨by decide, by decide⟩, by decide +kernel, Or.inl (tb_m (i := 1160) rfl)⟩
set_option maxRecDepth 20000 in
theorem co_X8_227 : ma_CO RX8 227 yX8_askedTwo cX8_askedTwo 3 (some .int) 2 := ⟨cm_X8_askedTwo, tb_in_X8, ⟨by decide, by decide⟩, by decide +kernel, Or.inl (tb_m (i := 1167) rfl)⟩
set_option maxRecDepth 20000 in
theorem co_X8_230 : ma_CO RX8 230 yX8_readFour cX8_readFour 6 (some .int) 2 := ⟨cm_X8_readFour, tb_in_X8, ⟨by decide, by decide⟩, by decide +kernel, Or.inl (tb_m (i := 1183) rfl)⟩
set_option maxRecDepth 20000 in
theorem co_X8_234 : ma_CO RX8 234 yX8_tangentAt cX8_tangentAt 6 (some .int) 3 := ⟨cm_X8_tangentAt, tb_in_X8, ⟨by decide, by decide⟩, by decide +kernel, Or.inl (tb_m (i := 1191) rfl)⟩
set_option maxRecDepth 20000 in
theorem co_X8_238 : ma_CO RX8 238 yX8_askedPlace cX8_askedPlace 3 (some .int) 2 := ⟨cm_X8_askedPlace, tb_in_X8, ⟨by decide, by decide⟩, by decide +kernel, Or.inl (tb_m (i := 1179) rfl)⟩
set_option maxRecDepth 20000 in
theorem co_X8_241 : ma_CO RX8 241 yX8_both cX8_both 6 (some .int) 3 := ⟨cm_X8_both, tb_in_X8, ⟨by decide, by decide⟩, by decide +kernel, Or.inl (tb_m (i := 1187) rfl)⟩
set_option maxRecDepth 20000 in
theorem co_X8_249 : ma_CO RX8 249 yX8_layCut cX8_layCut 7 none 1 := ⟨cm_X8_layCut, tb_in_X8, ⟨by decide, by decide⟩, by decide +kernel, Or.inl (tb_m (i := 1211) rfl)⟩
set_option maxRecDepth 20000 in
theorem co_X8_252 : ma_CO RX8 252 yX8_share cX8_share 8 (some .int) 3 := ⟨cm_X8_share, tb_in_X8, ⟨by decide, by decide⟩, by decide +kernel, Or.inl (tb_m (i := 1227) rfl)⟩
set_option maxRecDepth 20000 in
theorem co_X8_256 : ma_CO RX8 256 yX8_layPair cX8_layPair 4 none 2 := ⟨cm_X8_layPair, tb_in_X8, ⟨by decide, by decide⟩, by decide +kernel, Or.inl (tb_m (i := 1241) rfl)⟩
set_option maxRecDepth 20000 in
theorem co_X8_259 : ma_CO RX8 259 yX8_layForm cX8_layForm 6 none 0 := ⟨cm_X8_layForm, tb_in_X8, ⟨by decide, by decide⟩, by decide +kernel, Or.inl (tb_m (i := 1245) rfl)⟩
set_option maxRecDepth 20000 in
theorem co_X8_270 : ma_CO RX8 270 yX8_at cX8_at 10 (some .long) 2 := ⟨cm_X8_at, tb_in_X8, ⟨by decide, by decide⟩, by decide +kernel, Or.inl (tb_m (i := 1269) rfl)⟩
set_option maxRecDepth 20000 in
theorem co_X8_273 : ma_CO RX8 273 yX8_divide cX8_divide 10 none 2 := ⟨cm_X8_divide, tb_in_X8, ⟨by decide, by decide⟩, by decide +kernel, Or.inl (tb_m (i := 1273) rfl)⟩
set_option maxRecDepth 20000 in
theorem co_X8_283 : ma_CO RX8 283 yX8_takeRoot cX8_takeRoot 6 none 2 := ⟨cm_X8_takeRoot, tb_in_X8, ⟨by decide, by decide⟩, by decide +kernel, Or.inl (tb_m (i := 1265) rfl)⟩
set_option maxRecDepth 20000 in
theorem co_X8_286 : ma_CO RX8 286 yX8_tryRoot cX8_tryRoot 5 none 2 := ⟨cm_X8_tryRoot, tb_in_X8, ⟨by decide, by decide⟩, by decide +kernel, Or.inl (tb_m (i := 1277) rfl)⟩
set_option maxRecDepth 20000 in
theorem co_X8_289 : ma_CO RX8 289 yX8_sortRoots cX8_sortRoots 8 none 0 := ⟨cm_X8_sortRoots, tb_in_X8, ⟨by decide, by decide⟩, by decide +kernel, Or.inl (tb_m (i := 1285) rfl)⟩
set_option maxRecDepth 20000 in
theorem co_X8_292 : ma_CO RX8 292 yX8_slopeAt cX8_slopeAt 10 (some .long) 2 := ⟨cm_X8_slopeAt, tb_in_X8, ⟨by decide, by decide⟩, by decide +kernel, Or.inl (tb_m (i := 1281) rfl)⟩
set_option maxRecDepth 20000 in
theorem co_X8_303 : ma_CO RX8 303 yX8_threeRoots cX8_threeRoots 9 (some .boolean) 0 := ⟨cm_X8_threeRoots, tb_in_X8, ⟨by decide, by decide⟩, by decide +kernel, Or.inl (tb_m (i := 1294) rfl)⟩
set_option maxRecDepth 20000 in
theorem co_X8_307 : ma_CO RX8 307 yX8_layQuartic cX8_layQuartic 18 none 0 := ⟨cm_X8_layQuartic, tb_in_X8, ⟨by decide, by decide⟩, by decide +kernel, Or.inl (tb_m (i := 1300) rfl)⟩
set_option maxRecDepth 20000 in
theorem co_X8_326 : ma_CO RX8 326 yX8_begin cX8_begin 2 none 1 := ⟨cm_X8_begin, tb_in_X8, ⟨by decide, by decide⟩, by decide +kernel, Or.inl (tb_m (i := 1310) rfl)⟩
set_option maxRecDepth 20000 in
theorem co_X8_330 : ma_CO RX8 330 yX8_times cX8_times 16 none 2 := ⟨cm_X8_times, tb_in_X8, ⟨by decide, by decide⟩, by decide +kernel, Or.inl (tb_m (i := 1313) rfl)⟩
set_option maxRecDepth 20000 in
theorem co_X8_334 : ma_CO RX8 334 yX8_compare cX8_compare 2 (some .int) 0 := ⟨cm_X8_compare, tb_in_X8, ⟨by decide, by decide⟩, by decide +kernel, Or.inl (tb_m (i := 1318) rfl)⟩
set_option maxRecDepth 20000 in
theorem co_X8_340 : ma_CO RX8 340 yX8_leftBelow cX8_leftBelow 8 (some .int) 2 := ⟨cm_X8_leftBelow, tb_in_X8, ⟨by decide, by decide⟩, by decide +kernel, Or.inl (tb_m (i := 1331) rfl)⟩
set_option maxRecDepth 20000 in
theorem co_X8_344 : ma_CO RX8 344 yX8_parts cX8_parts 11 (some .boolean) 0 := ⟨cm_X8_parts, tb_in_X8, ⟨by decide, by decide⟩, by decide +kernel, Or.inl (tb_m (i := 1261) rfl)⟩
set_option maxRecDepth 20000 in
theorem co_X8_347 : ma_CO RX8 347 yX8_layLeft cX8_layLeft 1 none 0 := ⟨cm_X8_layLeft, tb_in_X8, ⟨by decide, by decide⟩, by decide +kernel, Or.inl (tb_m (i := 1289) rfl)⟩
set_option maxRecDepth 20000 in
theorem co_X8_350 : ma_CO RX8 350 yX8_partsPair cX8_partsPair 3 (some .boolean) 2 := ⟨cm_X8_partsPair, tb_in_X8, ⟨by decide, by decide⟩, by decide +kernel, Or.inl (tb_m (i := 1257) rfl)⟩
set_option maxRecDepth 20000 in
theorem co_X8_354 : ma_CO RX8 354 yX8_patternOf cX8_patternOf 6 (some .int) 0 := ⟨cm_X8_patternOf, tb_in_X8, ⟨by decide, by decide⟩, by decide +kernel, Or.inl (tb_m (i := 1327) rfl)⟩
set_option maxRecDepth 20000 in
theorem co_X8_357 : ma_CO RX8 357 yX8_timesOf cX8_timesOf 6 (some .int) 2 := ⟨cm_X8_timesOf, tb_in_X8, ⟨by decide, by decide⟩, by decide +kernel, Or.inl (tb_m (i := 1339) rfl)⟩
set_option maxRecDepth 20000 in
theorem co_X8_360 : ma_CO RX8 360 yX8_layTree cX8_layTree 5 (some .int) 1 := ⟨cm_X8_layTree, tb_in_X8, ⟨by decide, by decide⟩, by decide +kernel, Or.inl (tb_m (i := 1347) rfl)⟩
set_option maxRecDepth 20000 in
theorem co_X8_363 : ma_CO RX8 363 yX8_leftAbove cX8_leftAbove 4 (some .int) 0 := ⟨cm_X8_leftAbove, tb_in_X8, ⟨by decide, by decide⟩, by decide +kernel, Or.inl (tb_m (i := 1367) rfl)⟩
set_option maxRecDepth 20000 in
theorem co_X8_366 : ma_CO RX8 366 yX8_isBall cX8_isBall 2 (some .boolean) 1 := ⟨cm_X8_isBall, tb_in_X8, ⟨by decide, by decide⟩, by decide +kernel, Or.inl (tb_m (i := 1355) rfl)⟩
set_option maxRecDepth 20000 in
theorem co_X8_369 : ma_CO RX8 369 yX8_layMoved cX8_layMoved 10 none 5 := ⟨cm_X8_layMoved, tb_in_X8, ⟨by decide, by decide⟩, by decide +kernel, Or.inl (tb_m (i := 1359) rfl)⟩
set_option maxRecDepth 20000 in
theorem co_X8_373 : ma_CO RX8 373 yX8_apartOf cX8_apartOf 4 (some .int) 0 := ⟨cm_X8_apartOf, tb_in_X8, ⟨by decide, by decide⟩, by decide +kernel, Or.inl (tb_m (i := 1363) rfl)⟩
set_option maxRecDepth 20000 in
theorem co_X8_379 : ma_CO RX8 379 yX8_goThrough cX8_goThrough 9 (some .int) 4 := ⟨cm_X8_goThrough, tb_in_X8, ⟨by decide, by decide⟩, by decide +kernel, Or.inl (tb_m (i := 1379) rfl)⟩
set_option maxRecDepth 20000 in
theorem co_X8_389 : ma_CO RX8 389 yX8_mix cX8_mix 2 none 1 := ⟨cm_X8_mix, tb_in_X8, ⟨by decide, by decide⟩, by decide +kernel, Or.inl (tb_m (i := 1420) rfl)⟩
set_option maxRecDepth 20000 in
theorem cl_X7_176 : Cond.constantLong RX7 176 (-1) ∈ lw_tbl := tb_m (i := 498) rfl
set_option maxRecDepth 20000 in
theorem cl_X7_340 : Cond.constantLong RX7 340 (17) ∈ lw_tbl := tb_m (i := 860) rfl
set_option maxRecDepth 20000 in
theorem cl_X0_46 : Cond.constantLong RX0 46 (2) ∈ lw_tbl := tb_m (i := 641) rfl
set_option maxRecDepth 20000 in
theorem cl_X0_48 : Cond.constantLong RX0 48 (16) ∈ lw_tbl := tb_m (i := 642) rfl
set_option maxRecDepth 20000 in
theorem cl_X0_50 : Cond.constantLong RX0 50 (4) ∈ lw_tbl := tb_m (i := 643) rfl
set_option maxRecDepth 20000 in
theorem cl_X0_52 : Cond.constantLong RX0 52 (6) ∈ lw_tbl := tb_m (i := 644) rfl
set_option maxRecDepth 20000 in
theorem cl_X0_54 : Cond.constantLong RX0 54 (12) ∈ lw_tbl := tb_m (i := 645) rfl
set_option maxRecDepth 20000 in
theorem cl_X0_56 : Cond.constantLong RX0 56 (3) ∈ lw_tbl := tb_m (i := 646) rfl
set_option maxRecDepth 20000 in
theorem cl_X0_62 : Cond.constantLong RX0 62 (72) ∈ lw_tbl := tb_m (i := 647) rfl
set_option maxRecDepth 20000 in
theorem cl_X0_64 : Cond.constantLong RX0 64 (9) ∈ lw_tbl := tb_m (i := 648) rfl
set_option maxRecDepth 20000 in
theorem cl_X0_66 : Cond.constantLong RX0 66 (27) ∈ lw_tbl := tb_m (i := 649) rfl
set_option maxRecDepth 20000 in
theorem cl_X0_125 : Cond.constantLong RX0 125 (8) ∈ lw_tbl := tb_m (i := 700) rfl
set_option maxRecDepth 20000 in
theorem cl_X1_75 : Cond.constantLong RX1 75 (31) ∈ lw_tbl := tb_m (i := 865) rfl
set_option maxRecDepth 20000 in
theorem cl_X3_23 : Cond.constantLong RX3 23 (31) ∈ lw_tbl := tb_m (i := 874) rfl
set_option maxRecDepth 20000 in
theorem cl_X4_71 : Cond.constantLong RX4 71 (2) ∈ lw_tbl := tb_m (i := 807) rfl
set_option maxRecDepth 20000 in
theorem cl_X6_16 : Cond.constantLong RX6 16 (1073741823) ∈ lw_tbl := tb_m (i := 686) rfl
set_option maxRecDepth 20000 in
theorem cl_X8_265 : Cond.constantLong RX8 265 (1073741824) ∈ lw_tbl := tb_m (i := 1317) rfl
set_option maxRecDepth 20000 in
theorem cl_X8_301 : Cond.constantLong RX8 301 (4) ∈ lw_tbl := tb_m (i := 1293) rfl
set_option maxRecDepth 20000 in
theorem cl_X8_310 : Cond.constantLong RX8 310 (18) ∈ lw_tbl := tb_m (i := 1298) rfl
set_option maxRecDepth 20000 in
theorem cl_X8_312 : Cond.constantLong RX8 312 (27) ∈ lw_tbl := tb_m (i := 1299) rfl
set_option maxRecDepth 20000 in
theorem cl_X8_314 : Cond.constantLong RX8 314 (12) ∈ lw_tbl := tb_m (i := 1304) rfl
set_option maxRecDepth 20000 in
theorem cl_X8_316 : Cond.constantLong RX8 316 (3) ∈ lw_tbl := tb_m (i := 1305) rfl
set_option maxRecDepth 20000 in
theorem cl_X8_318 : Cond.constantLong RX8 318 (72) ∈ lw_tbl := tb_m (i := 1306) rfl
set_option maxRecDepth 20000 in
theorem cl_X8_320 : Cond.constantLong RX8 320 (9) ∈ lw_tbl := tb_m (i := 1307) rfl
set_option maxRecDepth 20000 in
theorem cl_X8_322 : Cond.constantLong RX8 322 (2) ∈ lw_tbl := tb_m (i := 1308) rfl
set_option maxRecDepth 20000 in
theorem cl_X8_324 : Cond.constantLong RX8 324 (8) ∈ lw_tbl := tb_m (i := 1309) rfl
set_option maxRecDepth 20000 in
theorem cl_X8_338 : Cond.constantLong RX8 338 (16) ∈ lw_tbl := tb_m (i := 1322) rfl
set_option maxRecDepth 20000 in
theorem cl_X8_382 : Cond.constantLong RX8 382 (31) ∈ lw_tbl := tb_m (i := 1424) rfl
set_option maxRecDepth 20000 in
theorem cl_X8_387 : Cond.constantLong RX8 387 (17) ∈ lw_tbl := tb_m (i := 1419) rfl
set_option maxRecDepth 20000 in
theorem ck_X7_9 : Cond.classLink RX7 9 RX3 ∈ lw_tbl := tb_m (i := 90) rfl
set_option maxRecDepth 20000 in
theorem ck_X7_15 : Cond.classLink RX7 15 RX1 ∈ lw_tbl := tb_m (i := 92) rfl
set_option maxRecDepth 20000 in
theorem ck_X7_21 : Cond.classLink RX7 21 RX4 ∈ lw_tbl := tb_m (i := 94) rfl
set_option maxRecDepth 20000 in
theorem ck_X7_31 : Cond.classLink RX7 31 RX0 ∈ lw_tbl := tb_m (i := 126) rfl
set_option maxRecDepth 20000 in
theorem ck_X7_38 : Cond.classLink RX7 38 RX5 ∈ lw_tbl := tb_m (i := 183) rfl
set_option maxRecDepth 20000 in
theorem ck_X7_45 : Cond.classLink RX7 45 RX2 ∈ lw_tbl := tb_m (i := 209) rfl
set_option maxRecDepth 20000 in
theorem ck_X0_18 : Cond.classLink RX0 18 RX4 ∈ lw_tbl := tb_m (i := 132) rfl
set_option maxRecDepth 20000 in
theorem ck_X0_25 : Cond.classLink RX0 25 RX6 ∈ lw_tbl := tb_m (i := 134) rfl
set_option maxRecDepth 20000 in
theorem ck_X1_9 : Cond.classLink RX1 9 RX4 ∈ lw_tbl := tb_m (i := 243) rfl
set_option maxRecDepth 20000 in
theorem ck_X5_18 : Cond.classLink RX5 18 RX4 ∈ lw_tbl := tb_m (i := 189) rfl
set_option maxRecDepth 20000 in
theorem ck_L_7 : Cond.classLink RL 7 RX7 ∈ lw_tbl := tb_m (i := 82) rfl
set_option maxRecDepth 20000 in
theorem ck_L_10 : Cond.classLink RL 10 RX8 ∈ lw_tbl := tb_m (i := 875) rfl
set_option maxRecDepth 20000 in
theorem cb_X7 : Cond.instantiable RX7 18 ∈ lw_tbl := tb_m (i := 83) rfl
set_option maxRecDepth 20000 in
theorem cb_X0 : Cond.instantiable RX0 10 ∈ lw_tbl := tb_m (i := 127) rfl
set_option maxRecDepth 20000 in
theorem cb_X1 : Cond.instantiable RX1 3 ∈ lw_tbl := tb_m (i := 238) rfl
set_option maxRecDepth 20000 in
theorem cb_X2 : Cond.instantiable RX2 2 ∈ lw_tbl := tb_m (i := 210) rfl
set_option maxRecDepth 20000 in
theorem cb_X3 : Cond.instantiable RX3 2 ∈ lw_tbl := tb_m (i := 224) rfl
set_option maxRecDepth 20000 in
theorem cb_X4 : Cond.instantiable RX4 6 ∈ lw_tbl := tb_m (i := 95) rfl
set_option maxRecDepth 20000 in
theorem cb_X5 : Cond.instantiable RX5 5 ∈ lw_tbl := tb_m (i := 184) rfl
set_option maxRecDepth 20000 in
theorem cb_X6 : Cond.instantiable RX6 2 ∈ lw_tbl := tb_m (i := 135) rfl
set_option maxRecDepth 20000 in
theorem cb_X8 : Cond.instantiable RX8 48 ∈ lw_tbl := tb_m (i := 876) rfl
set_option maxRecDepth 20000 in
theorem fn_X4_18 : Cond.fieldLinkNest RX4 18 "BentGrounds" "ROW_OF" "[I" "BentGrounds" ∈ lw_tbl := tb_m (i := 375) rfl
set_option maxRecDepth 20000 in
theorem fn_X4_22 : Cond.fieldLinkNest RX4 22 "BentGrounds" "COLUMN_OF" "[I" "BentGrounds" ∈ lw_tbl := tb_m (i := 377) rfl
set_option maxRecDepth 20000 in
theorem ob_i : Cond.instanceMethod objectInit ∈ lw_tbl := tb_m (i := 88) rfl
set_option maxRecDepth 20000 in
theorem ob_c : Cond.code objectInit ⟨#[0xb1]⟩ 1 none ∈ lw_tbl := tb_m (i := 89) rfl
set_option maxRecDepth 20000 in
theorem ob_X7_1 : Cond.methodLink RX7 1 objectInit ∈ lw_tbl := tb_m (i := 87) rfl
set_option maxRecDepth 20000 in
theorem ac_X7_108 : Cond.methodLink RX7 108 arraycopyName ∈ lw_tbl := tb_m (i := 353) rfl
set_option maxRecDepth 20000 in
theorem ac_n : Cond.native arraycopyName ∈ lw_tbl := tb_m (i := 355) rfl
set_option maxRecDepth 20000 in
theorem ac_s : Cond.static arraycopyName ∈ lw_tbl := tb_m (i := 354) rfl
set_option maxRecDepth 20000 in
theorem ob_X0_3 : Cond.methodLink RX0 3 objectInit ∈ lw_tbl := tb_m (i := 131) rfl
set_option maxRecDepth 20000 in
theorem ob_X1_3 : Cond.methodLink RX1 3 objectInit ∈ lw_tbl := tb_m (i := 242) rfl
set_option maxRecDepth 20000 in
theorem ob_X2_3 : Cond.methodLink RX2 3 objectInit ∈ lw_tbl := tb_m (i := 214) rfl
set_option maxRecDepth 20000 in
theorem ob_X3_3 : Cond.methodLink RX3 3 objectInit ∈ lw_tbl := tb_m (i := 228) rfl
set_option maxRecDepth 20000 in
theorem ob_X4_3 : Cond.methodLink RX4 3 objectInit ∈ lw_tbl := tb_m (i := 99) rfl
set_option maxRecDepth 20000 in
theorem ob_X5_3 : Cond.methodLink RX5 3 objectInit ∈ lw_tbl := tb_m (i := 188) rfl
set_option maxRecDepth 20000 in
theorem ob_X6_3 : Cond.methodLink RX6 3 objectInit ∈ lw_tbl := tb_m (i := 139) rfl
set_option maxRecDepth 20000 in
theorem ob_X8_1 : Cond.methodLink RX8 1 objectInit ∈ lw_tbl := tb_m (i := 880) rfl
