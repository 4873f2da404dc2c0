theorem sg_mul (x y : Int) : sgI x * sgI y = sgI (x * y) := by
  rcases sgI_c x with ⟨h1, e1⟩ | ⟨h1, e1⟩ | ⟨h1, e1⟩
  · rw [e1, h1, Int.zero_mul, Int32.zero_mul]; rfl
  · rcases sgI_c y with ⟨h2, e2⟩ | ⟨h2, e2⟩ | ⟨h2, e2⟩
    · rw [e2, h2, Int.mul_zero, Int32.mul_zero]; rfl
    · have := Int.mul_pos h1 h2
      rcases sgI_c (x * y) with ⟨h, e⟩ | ⟨h, e⟩ | ⟨h, e⟩
      · omega
      · rw [e1, e2, e]; rfl
      · omega
    · have := Int.mul_neg_of_pos_of_neg h1 h2
      rw [e1, e2, neg_sgI this]; rfl
  · rcases sgI_c y with ⟨h2, e2⟩ | ⟨h2, e2⟩ | ⟨h2, e2⟩
    · rw [e2, h2, Int.mul_zero, Int32.mul_zero]; rfl
    · have := Int.mul_neg_of_neg_of_pos h1 h2
      rw [e1, e2, neg_sgI this]; rfl
    · have := Int.mul_pos_of_neg_of_neg h1 h2
      rcases sgI_c (x * y) with ⟨h, e⟩ | ⟨h, e⟩ | ⟨h, e⟩
      · omega
      · rw [e1, e2, e]; rfl
      · omega
theorem sg_ge (x : Int) : 0 ≤ sgI x ↔ 0 ≤ x := by
  rcases sgI_c x with ⟨h, e⟩ | ⟨h, e⟩ | ⟨h, e⟩ <;> rw [e]
  · exact ⟨fun _ => by omega, fun _ => by decide⟩
  · exact ⟨fun _ => by omega, fun _ => by decide⟩
  · exact ⟨fun q => absurd q (by decide), fun q => by omega⟩
theorem sg_le (x : Int) : sgI x ≤ 0 ↔ x ≤ 0 := by
  rcases sgI_c x with ⟨h, e⟩ | ⟨h, e⟩ | ⟨h, e⟩ <;> rw [e]
  · exact ⟨fun _ => by omega, fun _ => by decide⟩
  · exact ⟨fun q => absurd q (by decide), fun q => by omega⟩
  · exact ⟨fun _ => by omega, fun _ => by decide⟩
theorem sg_0 (x : Int) : sgI x = 0 ↔ x = 0 := ⟨sgI_z, z_sgI⟩
theorem sg_eq {x y : Int} (hy : ¬ y = 0) : sgI x = sgI y ↔ 0 < x * y := by
  rcases sgI_c x with ⟨h, e⟩ | ⟨h, e⟩ | ⟨h, e⟩
  · rw [h, Int.zero_mul]
    refine ⟨fun q => absurd (sgI_z (q.symm.trans rfl)) hy, fun q => by omega⟩
  · rw [e]
    rcases sgI_c y with ⟨h2, e2⟩ | ⟨h2, e2⟩ | ⟨h2, e2⟩
    · exact absurd h2 hy
    · rw [e2]; exact ⟨fun _ => Int.mul_pos h h2, fun _ => rfl⟩
    · rw [e2]; have := Int.mul_neg_of_pos_of_neg h h2; exact ⟨fun q => absurd q (by decide), fun q => by omega⟩
  · rw [e]
    rcases sgI_c y with ⟨h2, e2⟩ | ⟨h2, e2⟩ | ⟨h2, e2⟩
    · exact absurd h2 hy
    · rw [e2]; have := Int.mul_neg_of_neg_of_pos h h2; exact ⟨fun q => absurd q (by decide), fun q => by omega⟩
    · rw [e2]; exact ⟨fun _ => Int.mul_pos_of_neg_of_neg h h2, fun _ => rfl⟩
theorem cCmp_z (x y : Nat) : cCmp x y = sgI ((x : Int) - y) := by
  unfold cCmp
  rcases sgI_c ((x : Int) - y) with ⟨h, e⟩ | ⟨h, e⟩ | ⟨h, e⟩
  · rw [e, if_neg (by omega), if_pos (by omega)]
  · rw [e, if_neg (by omega), if_neg (by omega)]
  · rw [e, if_pos (by omega)]
theorem abs_sq (x : Int) : ((x.natAbs * x.natAbs : Nat) : Int) = x * x := Int.natAbs_mul_self
theorem sqp (x : Int) : 0 ≤ x * x := by rw [← abs_sq]; omega
theorem sqp' {x : Int} (h : ¬ x = 0) : 0 < x * x := by
  have := sqp x
  have : x * x ≠ 0 := fun z => h (sq0 z)
  omega
theorem cSa_z {I J : Int} (hI : I.natAbs < 9223372036854775808) (hJ : J.natAbs < 9223372036854775808) : cSa (Int64.ofInt I) (Int64.ofInt J) = sgI (4 * (I * I * I) - J * J) := by
  unfold cSa
  simp only [nb_leL, o6_toInt hI, nb_0L, o6_0 hI, o6_0 hJ, o6_toInt hJ, cCmp_z]
  have jj := sqp J
  by_cases c : I ≤ 0
  · rw [if_pos c]
    by_cases c2 : I = 0 ∧ J = 0
    · rw [if_pos c2, c2.1, c2.2]; rfl
    · rw [if_neg c2]
      refine (neg_sgI ?_).symm
      by_cases i0 : I = 0
      · have := sqp' (fun z => c2 ⟨i0, z⟩); rw [i0]; omega
      · have := Int.mul_neg_of_pos_of_neg (sqp' i0) (show I < 0 by omega)
        omega
  · rw [if_neg c, abs_sq]
    congr 1
    have e : (I.natAbs : Int) = I := by omega
    rw [Int.natCast_mul, Int.natCast_mul, Int.natCast_mul, e]
    grind
theorem mAb_z {v : Int} (h : v.natAbs < 9223372036854775808) : mAb (Int64.ofInt v) = 0 ↔ v = 0 := by
  unfold mAb
  split
  · exact o6_0 h
  · rw [← Int64.ofInt_neg, o6_0 (by omega)]; omega
theorem cSp_z {a e I : Int} (ha : a.natAbs < 9223372036854775808) (he : e.natAbs < 9223372036854775808) (hI : I.natAbs < 9223372036854775808) (h0 : ¬ a = 0) : cSp (Int64.ofInt a) (Int64.ofInt e) (Int64.ofInt I) = sgI (16 * (a * a) * I - e * e) := by
  unfold cSp
  simp only [nb_leL, o6_toInt hI, nb_0L, o6_0 hI, mAb_z he, o6_toInt ha, o6_toInt he, cCmp_z]
  have jj := sqp e
  have aa := sqp' h0
  by_cases c : I ≤ 0
  · rw [if_pos c]
    by_cases c2 : I = 0 ∧ e = 0
    · rw [if_pos c2, c2.1, c2.2, Int.mul_zero]; rfl
    · rw [if_neg c2]
      refine (neg_sgI ?_).symm
      by_cases i0 : I = 0
      · have := sqp' (fun z => c2 ⟨i0, z⟩); rw [i0, Int.mul_zero]; omega
      · have := Int.mul_neg_of_pos_of_neg (show 0 < 16 * (a * a) by omega) (show I < 0 by omega)
        omega
  · rw [if_neg c, abs_sq]
    congr 1
    have e1 : (I.natAbs : Int) = I := by omega
    have e2 : ((16 * a.natAbs * a.natAbs * I.natAbs : Nat) : Int) = 16 * ((a.natAbs * a.natAbs : Nat) : Int) * (I.natAbs : Int) := by
      rw [Int.natCast_mul, Int.natCast_mul, Int.natCast_mul, Int.natCast_mul]; grind
    rw [e2, abs_sq, e1]
def bd (F : Nat → Int) : Prop := (F 0).natAbs ≤ 6144 ∧ (F 1).natAbs ≤ 94464 ∧ (F 2).natAbs ≤ 441216 ∧ (F 3).natAbs ≤ 623616 ∧ (F 4).natAbs ≤ 270720
def sm4 (F : Nat → Int) : Prop := (F 0).natAbs ≤ 6144 ∧ (F 1).natAbs ≤ 24576 ∧ (F 2).natAbs ≤ 36864 ∧ (F 3).natAbs ≤ 24576 ∧ (F 4).natAbs ≤ 6144
def okF (F : Nat → Int) : Prop := bd F ∧ (F 0 = 0 → sm4 F)
theorem bd_s {F : Nat → Int} (h : bd F) : sml F := fun j hj => by
  obtain ⟨h0, h1, h2, h3, h4⟩ := h
  match j, hj with
  | 0, _ => exact Nat.le_trans h0 (by decide)
  | 1, _ => exact Nat.le_trans h1 (by decide)
  | 2, _ => exact Nat.le_trans h2 (by decide)
  | 3, _ => exact h3
  | 4, _ => exact Nat.le_trans h4 (by decide)
theorem k_ (n : Nat) : ((n : Int)).natAbs ≤ n := by omega
theorem bd_I {F : Nat → Int} (h : bd F) : (vI (F 0) (F 1) (F 2) (F 3) (F 4)).natAbs < 288230376151711744 := by
  obtain ⟨h0, h1, h2, h3, h4⟩ := h
  exact Nat.lt_of_le_of_lt (na_ (ns_ (nm_ (nm_ (k_ 12) h0) h4) (nm_ (nm_ (k_ 3) h1) h3)) (nm_ h2 h2)) (by decide)
theorem bd_J {F : Nat → Int} (h : bd F) : (vJ (F 0) (F 1) (F 2) (F 3) (F 4)).natAbs < 9000000000000000000 := by
  obtain ⟨h0, h1, h2, h3, h4⟩ := h
  exact Nat.lt_of_le_of_lt (ns_ (ns_ (ns_ (na_ (nm_ (nm_ (nm_ (k_ 72) h0) h2) h4) (nm_ (nm_ (nm_ (k_ 9) h1) h2) h3)) (nm_ (nm_ (nm_ (k_ 27) h0) h3) h3)) (nm_ (nm_ (nm_ (k_ 27) h4) h1) h1)) (nm_ (nm_ (nm_ (k_ 2) h2) h2) h2)) (by decide)
theorem bd_E {F : Nat → Int} (h : bd F) : (vE (F 0) (F 1) (F 2)).natAbs < 288230376151711744 := by
  obtain ⟨h0, h1, h2, h3, h4⟩ := h
  exact Nat.lt_of_le_of_lt (ns_ (nm_ (nm_ (k_ 8) h0) h2) (nm_ (nm_ (k_ 3) h1) h1)) (by decide)
theorem bd_R {F : Nat → Int} (h : bd F) : (vR (F 0) (F 1) (F 2) (F 3)).natAbs < 288230376151711744 := by
  obtain ⟨h0, h1, h2, h3, h4⟩ := h
  exact Nat.lt_of_le_of_lt (ns_ (na_ (nm_ (nm_ h1 h1) h1) (nm_ (nm_ (nm_ (k_ 8) h0) h0) h3)) (nm_ (nm_ (nm_ (k_ 4) h0) h1) h2)) (by decide)
theorem kc12 : (12 : Int64) = Int64.ofInt 12 := rfl
theorem kc3 : (3 : Int64) = Int64.ofInt 3 := rfl
theorem kc72 : (72 : Int64) = Int64.ofInt 72 := rfl
theorem kc9 : (9 : Int64) = Int64.ofInt 9 := rfl
theorem kc27 : (27 : Int64) = Int64.ofInt 27 := rfl
theorem kc2 : (2 : Int64) = Int64.ofInt 2 := rfl
theorem kc8 : (8 : Int64) = Int64.ofInt 8 := rfl
theorem kc4 : (4 : Int64) = Int64.ofInt 4 := rfl
theorem kc18 : (18 : Int64) = Int64.ofInt 18 := rfl
theorem cIi_z {f : Nat → Int64} {F : Nat → Int} (hf : ∀ j, j < 5 → f j = Int64.ofInt (F j)) : cIi f = Int64.ofInt (vI (F 0) (F 1) (F 2) (F 3) (F 4)) := by
  unfold cIi vI
  rw [hf 0 (by omega), hf 1 (by omega), hf 2 (by omega), hf 3 (by omega), hf 4 (by omega), kc12, kc3]
  simp only [Int64.ofInt_add, Int64.ofInt_sub, Int64.ofInt_mul]
theorem cJj_z {f : Nat → Int64} {F : Nat → Int} (hf : ∀ j, j < 5 → f j = Int64.ofInt (F j)) : cJj f = Int64.ofInt (vJ (F 0) (F 1) (F 2) (F 3) (F 4)) := by
  unfold cJj vJ
  rw [hf 0 (by omega), hf 1 (by omega), hf 2 (by omega), hf 3 (by omega), hf 4 (by omega), kc72, kc9, kc27, kc2]
  simp only [Int64.ofInt_add, Int64.ofInt_sub, Int64.ofInt_mul]
theorem cEe_z {f : Nat → Int64} {F : Nat → Int} (hf : ∀ j, j < 5 → f j = Int64.ofInt (F j)) : cEe f = Int64.ofInt (vE (F 0) (F 1) (F 2)) := by
  unfold cEe vE
  rw [hf 0 (by omega), hf 1 (by omega), hf 2 (by omega), kc8, kc3]
  simp only [Int64.ofInt_add, Int64.ofInt_sub, Int64.ofInt_mul]
theorem cLe_z {f : Nat → Int64} {F : Nat → Int} (hf : ∀ j, j < 5 → f j = Int64.ofInt (F j)) (hb : bd F) : cLe f = sgI (vR (F 0) (F 1) (F 2) (F 3) * F 0) := by
  have e : ((((((f 1) * (f 1)) * (f 1)) + (((8 * (f 0)) * (f 0)) * (f 3))) - (((4 * (f 0)) * (f 1)) * (f 2)))) = Int64.ofInt (vR (F 0) (F 1) (F 2) (F 3)) := by
    unfold vR
    rw [hf 0 (by omega), hf 1 (by omega), hf 2 (by omega), hf 3 (by omega), kc8, kc4]
    simp only [Int64.ofInt_add, Int64.ofInt_sub, Int64.ofInt_mul]
  unfold cLe
  rw [e, hf 0 (by omega), mSg_o (by have := bd_R hb; omega), mSg_o (by have := hb.1; omega), sg_mul]
theorem cFk_z {f : Nat → Int64} {F : Nat → Int} (hf : ∀ j, j < 5 → f j = Int64.ofInt (F j)) (hb : bd F) : cFk f := by
  have b1 := bd_I hb
  have b2 := bd_J hb
  have b3 := bd_E hb
  have b4 := hb.1
  unfold cFk
  rw [cIi_z hf, cJj_z hf, cEe_z hf, hf 0 (by omega), o6_toInt (by omega), o6_toInt (by omega), o6_toInt (by omega), o6_toInt (by omega)]
  exact ⟨b1, by omega, by omega, by omega⟩
def pz4 (D I R E S J a : Int) : Int32 := if 0 ≤ D then (if D ≤ 0 then (if I = 0 then (if R * a = 0 then 4 else if R * a ≤ 0 then 31 else 13) else if R * a = 0 ∧ S = 0 then (if 0 ≤ E then 6 else 22) else if 0 ≤ E ∨ 0 ≤ S then 25 else if 0 < J * a then 121 else if 0 ≤ R * a then 112 else 211) else if 0 ≤ E ∨ 0 ≤ S then 55 else 1111) else 115
def pz3 (D I J b : Int) : Int32 := if D = 0 then (if I = 0 then 31 else if 0 < J * b then 211 else 121) else if D ≤ 0 then 115 else 1111
def pz2 (T : Int) : Int32 := if T = 0 then 22 else if T ≤ 0 then 25 else 112
def p4 (a b c d e : Int) : Int32 := pz4 (4 * (vI a b c d e * vI a b c d e * vI a b c d e) - vJ a b c d e * vJ a b c d e) (vI a b c d e) (vR a b c d) (vE a b c) (16 * (a * a) * vI a b c d e - vE a b c * vE a b c) (vJ a b c d e) a
def p3 (b c d e : Int) : Int32 := pz3 (4 * (vI 0 b c d e * vI 0 b c d e * vI 0 b c d e) - vJ 0 b c d e * vJ 0 b c d e) (vI 0 b c d e) (vJ 0 b c d e) b
/-- the pattern as the class finds it -/
def pzF (F : Nat → Int) : Int32 := if F 0 = 0 then (if F 1 = 0 then (if F 2 = 0 then (if F 3 = 0 then (if F 4 = 0 then 0 else 4) else 13) else pz2 (F 3 * F 3 - 4 * F 2 * F 4)) else p3 (F 1) (F 2) (F 3) (F 4)) else p4 (F 0) (F 1) (F 2) (F 3) (F 4)
theorem fig_z {f : Nat → Int64} {F : Nat → Int} (hf : ∀ j, j < 5 → f j = Int64.ofInt (F j)) (hb : bd F) : cFig f (cIi f) (cJj f) = pzF F := by
  have z : ∀ j, j < 5 → (f j = 0 ↔ F j = 0) := fun j hj => by have := bd_s hb j hj; rw [hf j hj, o6_0 (by omega)]
  have b1 := bd_I hb
  have b2 := bd_J hb
  have b3 := bd_E hb
  have b5 := hb
  unfold bd at b5
  unfold cFig pzF
  simp only [z 0 (by omega), z 1 (by omega), z 2 (by omega), z 3 (by omega), z 4 (by omega)]
  rw [cIi_z hf, cJj_z hf]
  by_cases c0 : F 0 = 0
  · rw [if_pos c0, if_pos c0]
    by_cases c1 : F 1 = 0
    · rw [if_pos c1, if_pos c1]
      by_cases c2 : F 2 = 0
      · rw [if_pos c2, if_pos c2]
      · rw [if_neg c2, if_neg c2]
        have e : cDi f = sgI (F 3 * F 3 - 4 * F 2 * F 4) := by
          unfold cDi
          rw [hf 2 (by omega), hf 3 (by omega), hf 4 (by omega), kc4, ← Int64.ofInt_mul, ← Int64.ofInt_mul, ← Int64.ofInt_mul, ← Int64.ofInt_sub]
          exact mSg_o (Nat.lt_of_le_of_lt (ns_ (nm_ b5.2.2.2.1 b5.2.2.2.1) (nm_ (nm_ (k_ 4) b5.2.2.1) b5.2.2.2.2)) (by decide))
        unfold cF2 pz2
        simp only [e, sg_0, sg_le]
    · rw [if_neg c1, if_neg c1]
      unfold cF3 p3 pz3
      rw [cSa_z (by omega) (by omega), hf 1 (by omega), mSg_o (by omega), mSg_o (by omega), c0]
      rw [c0] at b1
      simp only [sg_0, sg_le, sg_eq c1, o6_0 (show (vI 0 (F 1) (F 2) (F 3) (F 4)).natAbs < 9223372036854775808 by omega)]
  · rw [if_neg c0, if_neg c0]
    unfold cF4 p4 pz4
    rw [cSa_z (by omega) (by omega), cEe_z hf, hf 0 (by omega), cSp_z (by omega) (by omega) (by omega) c0, mSg_o (by omega), mSg_o (by omega), cLe_z hf hb]
    have hE : (0 ≤ Int64.ofInt (vE (F 0) (F 1) (F 2))) ↔ 0 ≤ vE (F 0) (F 1) (F 2) := by rw [nb_leL, o6_toInt (by omega), nb_0L]
    simp only [hE, sg_0, sg_le, sg_ge, sg_eq c0, o6_0 (show (vI (F 0) (F 1) (F 2) (F 3) (F 4)).natAbs < 9223372036854775808 by omega)]
