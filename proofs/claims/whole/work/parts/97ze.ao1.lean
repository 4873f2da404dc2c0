def g5 (s0 s1 s2 s3 s4 : Int32) : Nat → Int32
  | 0 => s0
  | 1 => s1
  | 2 => s2
  | 3 => s3
  | _ => s4
theorem vv_1 {s1 s2 s3 : Int32} (h1 : in3 s1) (h2 : in3 s2) (h3 : in3 s3) : (csG (g5 1 s1 s2 s3 1) 5).1 = if 0 ≤ s1 * 1 ∧ 0 ≤ s2 * 1 ∧ 0 ≤ s3 * 1 then 0 else if s1 * 1 < 0 ∧ 0 < s2 * 1 ∧ s3 * 1 < 0 then 4 else 2 := by
  rcases h1 with rfl | rfl | rfl <;> rcases h2 with rfl | rfl | rfl <;> rcases h3 with rfl | rfl | rfl <;> decide
theorem vv_m {s1 s2 s3 : Int32} (h1 : in3 s1) (h2 : in3 s2) (h3 : in3 s3) : (csG (g5 (-1) s1 s2 s3 (-1)) 5).1 = if 0 ≤ s1 * (-1) ∧ 0 ≤ s2 * (-1) ∧ 0 ≤ s3 * (-1) then 0 else if s1 * (-1) < 0 ∧ 0 < s2 * (-1) ∧ s3 * (-1) < 0 then 4 else 2 := by
  rcases h1 with rfl | rfl | rfl <;> rcases h2 with rfl | rfl | rfl <;> rcases h3 with rfl | rfl | rfl <;> decide
theorem sg_lt (x : Int) : sgI x < 0 ↔ x < 0 := by
  rcases sgI_c x with ⟨h, e⟩ | ⟨h, e⟩ | ⟨h, e⟩ <;> rw [e]
  · exact ⟨fun q => absurd q (by decide), fun q => by omega⟩
  · exact ⟨fun q => absurd q (by decide), fun q => by omega⟩
  · exact ⟨fun _ => by omega, fun _ => by decide⟩
theorem sg_gt (x : Int) : 0 < sgI x ↔ 0 < x := by
  rcases sgI_c x with ⟨h, e⟩ | ⟨h, e⟩ | ⟨h, e⟩ <;> rw [e]
  · exact ⟨fun q => absurd q (by decide), fun q => by omega⟩
  · exact ⟨fun _ => by omega, fun _ => by decide⟩
  · exact ⟨fun q => absurd q (by decide), fun q => by omega⟩
/-- the changes of sign of five numbers, from their products with the first -/
def Vz (x y z : Int) : Int32 := if 0 ≤ x ∧ 0 ≤ y ∧ 0 ≤ z then 0 else if x < 0 ∧ 0 < y ∧ z < 0 then 4 else 2
theorem V_z {f : Nat → Int64} {F : Nat → Int} (hf : ∀ j, j < 5 → f j = Int64.ofInt (F j)) (hb : sml F) (h0 : ¬ F 0 = 0) (h4 : 0 < F 4 * F 0) : (cSc f 5).1 = Vz (F 1 * F 0) (F 2 * F 0) (F 3 * F 0) := by
  have q : ∀ j, j < 5 → mSg (f j) = sgI (F j) := fun j hj => by have := hb j hj; rw [hf j hj, mSg_o (by omega)]
  have e4 : sgI (F 4) = sgI (F 0) := (sg_eq h0).mpr h4
  rw [csG_e, csG_c (g' := g5 (sgI (F 0)) (sgI (F 1)) (sgI (F 2)) (sgI (F 3)) (sgI (F 0))) 5 (fun k hk => by
    match k, hk with
    | 0, _ => exact q 0 (by omega)
    | 1, _ => exact q 1 (by omega)
    | 2, _ => exact q 2 (by omega)
    | 3, _ => exact q 3 (by omega)
    | 4, _ => exact (q 4 (by omega)).trans e4)]
  unfold Vz
  rcases sgI_c (F 0) with ⟨h, e⟩ | ⟨h, e⟩ | ⟨h, e⟩
  · exact absurd h h0
  · have k := vv_1 (sgI_3 (F 1)) (sgI_3 (F 2)) (sgI_3 (F 3))
    rw [← e, sg_mul, sg_mul, sg_mul] at k
    simp only [sg_ge, sg_lt, sg_gt] at k
    exact k
  · have k := vv_m (sgI_3 (F 1)) (sgI_3 (F 2)) (sgI_3 (F 3))
    rw [← e, sg_mul, sg_mul, sg_mul] at k
    simp only [sg_ge, sg_lt, sg_gt] at k
    exact k
theorem Vz_k {K L M x y z : Int} (hK : 0 < K) (hL : 0 < L) (hM : 0 < M) : Vz (K * x) (L * y) (M * z) = Vz x y z := by
  unfold Vz
  simp only [pl_ge hK, pl_ge hL, pl_ge hM, pl_lt hK, pl_gt hL, pl_lt hM]
theorem Vz_4 {x y z : Int} (h1 : x < 0) (h2 : 0 < y) (h3 : z < 0) : Vz x y z = 4 := by unfold Vz; rw [if_neg (by omega), if_pos ⟨h1, h2, h3⟩]
theorem Vz_0 {x y z : Int} (h1 : 0 ≤ x) (h2 : 0 ≤ y) (h3 : 0 ≤ z) : Vz x y z = 0 := by unfold Vz; rw [if_pos ⟨h1, h2, h3⟩]
theorem Vz_2 {x y z : Int} (h1 : ¬ (0 ≤ x ∧ 0 ≤ y ∧ 0 ≤ z)) (h2 : ¬ (x < 0 ∧ 0 < y ∧ z < 0)) : Vz x y z = 2 := by unfold Vz; rw [if_neg h1, if_neg h2]
theorem v42_p {u w A B C : Int} (hu : 0 < u) (hw : 0 < w) (hA : 0 < A) (hC : 0 < C) (hB : 0 < B) (hd : 4 * (A * C) ≤ B * B) : Vz (w * B - 2 * (u * A)) (w * w * C - 2 * (u * (w * B)) + u * u * A) (u * B - 2 * (w * C)) = 2 := by
  have wB := Int.mul_pos hw hB
  have uB := Int.mul_pos hu hB
  have uA := Int.mul_pos hu hA
  have wC := Int.mul_pos hw hC
  have uwB := Int.mul_pos hu wB
  have e1 : w * w * C = w * (w * C) := by grind
  have e2 : u * u * A = u * (u * A) := by grind
  have e3 : w * (u * B) = u * (w * B) := by grind
  refine Vz_2 (fun q => ?_) (fun q => ?_)
  · have k1 := Int.mul_le_mul_of_nonneg_left (show 2 * (w * C) ≤ u * B by omega) (Int.le_of_lt hw)
    have k2 := Int.mul_le_mul_of_nonneg_left (show 2 * (u * A) ≤ w * B by omega) (Int.le_of_lt hu)
    have e4 : w * (2 * (w * C)) = 2 * (w * (w * C)) := by grind
    have e5 : u * (2 * (u * A)) = 2 * (u * (u * A)) := by grind
    omega
  · have k1 := Int.mul_lt_mul_of_pos_right (show w * B < 2 * (u * A) by omega) uB
    have k2 := Int.mul_lt_mul_of_pos_left (show u * B < 2 * (w * C) by omega) (show 0 < 2 * (u * A) by omega)
    have uw := Int.mul_pos hu hw
    have e4 : w * B * (u * B) = u * w * (B * B) := by grind
    have e5 : 2 * (u * A) * (2 * (w * C)) = u * w * (4 * (A * C)) := by grind
    have k3 := Int.mul_le_mul_of_nonneg_left hd (Int.le_of_lt uw)
    omega
theorem v42_n {u w A B C : Int} (hu : 0 < u) (hw : 0 < w) (hA : 0 < A) (hC : 0 < C) (hB : 0 < B) (hd : 4 * (A * C) ≤ B * B) : Vz (2 * (u * A) - w * B) (w * w * C - 2 * (u * (w * B)) + u * u * A) (2 * (w * C) - u * B) = 2 := by
  have wB := Int.mul_pos hw hB
  have uB := Int.mul_pos hu hB
  have uA := Int.mul_pos hu hA
  have wC := Int.mul_pos hw hC
  have uwB := Int.mul_pos hu wB
  have e1 : w * w * C = w * (w * C) := by grind
  have e2 : u * u * A = u * (u * A) := by grind
  have e3 : w * (u * B) = u * (w * B) := by grind
  have e4 : w * (2 * (w * C)) = 2 * (w * (w * C)) := by grind
  have e5 : u * (2 * (u * A)) = 2 * (u * (u * A)) := by grind
  have key : 2 * (w * C) ≤ u * B → 2 * (u * A) ≤ w * B → w * w * C - 2 * (u * (w * B)) + u * u * A < 0 := fun q1 q2 => by
    have k1 := Int.mul_le_mul_of_nonneg_left q1 (Int.le_of_lt hw)
    have k2 := Int.mul_le_mul_of_nonneg_left q2 (Int.le_of_lt hu)
    omega
  have uw := Int.mul_pos hu hw
  have k3 := Int.mul_le_mul_of_nonneg_left hd (Int.le_of_lt uw)
  have e6 : w * B * (u * B) = u * w * (B * B) := by grind
  have e7 : 2 * (u * A) * (2 * (w * C)) = u * w * (4 * (A * C)) := by grind
  refine Vz_2 (fun q => ?_) (fun q => ?_)
  · have c1 : 2 * (w * C) ≤ u * B := Decidable.by_contra (fun n => by
      have k1 := Int.mul_lt_mul_of_pos_left (show u * B < 2 * (w * C) by omega) wB
      have k2 := Int.mul_le_mul_of_nonneg_right (show w * B ≤ 2 * (u * A) by omega) (show 0 ≤ 2 * (w * C) by omega)
      omega)
    have c2 : 2 * (u * A) ≤ w * B := Decidable.by_contra (fun n => by
      have k1 := Int.mul_lt_mul_of_pos_right (show w * B < 2 * (u * A) by omega) uB
      have k2 := Int.mul_le_mul_of_nonneg_left (show u * B ≤ 2 * (w * C) by omega) (show 0 ≤ 2 * (u * A) by omega)
      omega)
    have := key c1 c2
    omega
  · have := key (by omega) (by omega)
    omega
theorem v42_ {u w A B C : Int} (hw : 0 < w) (hA : 0 < A) (hC : 0 < C) (h0 : ¬ B = 0) (hd : 4 * (A * C) ≤ B * B) (hu : ¬ u = 0) : Vz (w * B - 2 * (u * A)) (w * w * C - 2 * (u * (w * B)) + u * u * A) (u * (u * B - 2 * (w * C))) = if 0 < u then (if 0 < B then 2 else 4) else (if 0 < B then 0 else 2) := by
  have uu := sqp' hu
  have wwC := Int.mul_pos (Int.mul_pos hw hw) hC
  have uuA := Int.mul_pos uu hA
  have wC := Int.mul_pos hw hC
  by_cases c : 0 < u
  · rw [if_pos c]
    have uA := Int.mul_pos c hA
    by_cases d : 0 < B
    · rw [if_pos d]
      have k := Vz_k (K := 1) (L := 1) (M := u) (x := w * B - 2 * (u * A)) (y := w * w * C - 2 * (u * (w * B)) + u * u * A) (z := u * B - 2 * (w * C)) (by decide) (by decide) c
      rw [Int.one_mul, Int.one_mul] at k
      rw [k]
      exact v42_p c hw hA hC d hd
    · rw [if_neg d]
      have wB := Int.mul_neg_of_pos_of_neg hw (show B < 0 by omega)
      have uB := Int.mul_neg_of_pos_of_neg c (show B < 0 by omega)
      have uwB := Int.mul_neg_of_pos_of_neg c wB
      exact Vz_4 (by omega) (by omega) (Int.mul_neg_of_pos_of_neg c (by omega))
  · rw [if_neg c]
    have u0 : u < 0 := by omega
    have uA := Int.mul_neg_of_neg_of_pos u0 hA
    by_cases d : 0 < B
    · rw [if_pos d]
      have wB := Int.mul_pos hw d
      have uB := Int.mul_neg_of_neg_of_pos u0 d
      have uwB := Int.mul_neg_of_neg_of_pos u0 wB
      have := Int.mul_pos_of_neg_of_neg u0 (show u * B - 2 * (w * C) < 0 by omega)
      exact Vz_0 (by omega) (by omega) (by omega)
    · rw [if_neg d]
      have k := v42_n (u := -u) (w := w) (A := A) (B := -B) (C := C) (by omega) hw hA hC (by omega) (by rw [Int.neg_mul_neg]; exact hd)
      have k2 := Vz_k (K := 1) (L := 1) (M := -u) (x := 2 * (-u * A) - w * -B) (y := w * w * C - 2 * (-u * (w * -B)) + -u * -u * A) (z := 2 * (w * C) - -u * -B) (by decide) (by decide) (by omega)
      rw [k, Int.one_mul, Int.one_mul] at k2
      rw [← k2]
      congr 1 <;> grind
theorem mLAl_c {f : Nat → Int64} (h0 : ¬ f 0 = 0) : ∀ k, mLAl f k = cSc f (k + 1) ∧ ¬ (cSc f (k + 1)).2 = 0
  | 0 => by
    have z : ¬ mSg (f 0) = 0 := fun q => h0 ((mSg_0 _).mp q)
    have e : cSc f 1 = (0, mSg (f 0)) := by
      have z2 : (cSc f 0).2 = 0 ∨ mSg (f 0) = (cSc f 0).2 := Or.inl rfl
      unfold cSc
      rw [if_neg z, if_pos z2]; rfl
    rw [e]
    exact ⟨rfl, z⟩
  | k + 1 => by
    obtain ⟨i1, i2⟩ := mLAl_c h0 k
    have e1 : mLAl f (k + 1) = if f (k + 1) = 0 then mLAl f k else ((mLAl f k).1 + (if mSg (f (k + 1)) = (mLAl f k).2 then 0 else 1), mSg (f (k + 1))) := rfl
    have e2 : cSc f (k + 2) = if mSg (f (k + 1)) = 0 then cSc f (k + 1) else ((cSc f (k + 1)).1 + (if (cSc f (k + 1)).2 = 0 ∨ mSg (f (k + 1)) = (cSc f (k + 1)).2 then 0 else 1), mSg (f (k + 1))) := rfl
    rw [e1, e2, i1]
    by_cases c : f (k + 1) = 0
    · rw [if_pos c, if_pos ((mSg_0 _).mpr c)]; exact ⟨rfl, i2⟩
    · have c' : ¬ mSg (f (k + 1)) = 0 := fun q => c ((mSg_0 _).mp q)
      rw [if_neg c, if_neg c']
      refine ⟨?_, c'⟩
      have e3 : ((cSc f (k + 1)).2 = 0 ∨ mSg (f (k + 1)) = (cSc f (k + 1)).2) ↔ mSg (f (k + 1)) = (cSc f (k + 1)).2 := ⟨fun q => q.elim (fun y => absurd y i2) id, Or.inr⟩
      simp only [e3]
theorem cMb_5 {p V : Int32} (h : 5 ≤ p - p / 10 * 10) : cMb p V = 0 := by unfold cMb; rw [if_pos h]
theorem cMb_1 {p V : Int32} (h : ¬ 5 ≤ p - p / 10 * 10) (h1 : p - p / 10 * 10 = 1) : cMb p V = if V = 2 then 2 else 0 := by unfold cMb; rw [if_neg h, if_pos h1]
theorem cMb_2 {p V : Int32} (h : ¬ 5 ≤ p - p / 10 * 10) (h1 : ¬ p - p / 10 * 10 = 1) : cMb p V = if V = 2 then 1 else 0 := by unfold cMb; rw [if_neg h, if_neg h1]
theorem mAo_i {s : mP} {rl tw T v : Int32} (hT : mTw s.u s.t s.r = T) (hL : mLA s.m rl tw s.f = v) : mAo s rl tw = if T + v = 2 then (if T = 2 then 1 else if tw = 0 then 2 else 1) else 0 := by unfold mAo; rw [hT, hL]
theorem mTw_1 {s : mP} {u : Int} {w t : Nat} (hr : s.r = 1) (h : RS s 0 u w t) : mTw s.u s.t s.r = if 0 < u then nI t else 0 := by
  have b : u.natAbs ≤ 1000 := by have := h.2.2.2.1; unfold Fr at this; omega
  rw [hr]
  show 0 + (if s.u 0 ≤ 0 then 0 else s.t 0) = _
  rw [h.1, h.2.2.1, Int32.zero_add]
  have e : (Int64.ofInt u ≤ 0) ↔ ¬ 0 < u := by rw [nb_leL, o6_toInt (by omega), nb_0L]; omega
  by_cases c : 0 < u
  · rw [if_pos c, if_neg (fun q => e.mp q c)]
  · rw [if_neg c, if_pos (e.mpr c)]
theorem mTw_2 {s : mP} {u x : Int} {w y t t' : Nat} (hr : s.r = 2) (h : RS s 0 u w t) (h' : RS s 1 x y t') : mTw s.u s.t s.r = (if 0 < u then nI t else 0) + (if 0 < x then nI t' else 0) := by
  have b : u.natAbs ≤ 1000 := by have := h.2.2.2.1; unfold Fr at this; omega
  have b' : x.natAbs ≤ 1000 := by have := h'.2.2.2.1; unfold Fr at this; omega
  rw [hr]
  show 0 + (if s.u 0 ≤ 0 then 0 else s.t 0) + (if s.u 1 ≤ 0 then 0 else s.t 1) = _
  rw [h.1, h.2.2.1, h'.1, h'.2.2.1, Int32.zero_add]
  have e : (Int64.ofInt u ≤ 0) ↔ ¬ 0 < u := by rw [nb_leL, o6_toInt (by omega), nb_0L]; omega
  have e' : (Int64.ofInt x ≤ 0) ↔ ¬ 0 < x := by rw [nb_leL, o6_toInt (by omega), nb_0L]; omega
  congr 1
  · by_cases c : 0 < u
    · rw [if_pos c, if_neg (fun q => e.mp q c)]
    · rw [if_neg c, if_pos (e.mpr c)]
  · by_cases c : 0 < x
    · rw [if_pos c, if_neg (fun q => e'.mp q c)]
    · rw [if_neg c, if_pos (e'.mpr c)]
theorem mTw_0 {s : mP} (hr : s.r = 0) : mTw s.u s.t s.r = 0 := by rw [hr]; rfl
