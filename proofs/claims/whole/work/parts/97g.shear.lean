def zSv (w : Nat → Int) (i j : Nat) (k : Int) (m : Nat) : Int := if ¬ m = j then w (4 * j + m) + k * w (4 * i + m) else (w (5 * j) + (2 * k) * w (4 * i + j)) + (k * k) * w (5 * i)
def zSh (w : Nat → Int) (i j : Nat) (k : Int) : Nat → Int := fun x => if x / 4 = j then zSv w i j k (x % 4) else if x % 4 = j then zSv w i j k (x / 4) else w x
def tSh (T : Nat → Int32) (i j : Nat) (z : Int32) : Nat → Int32 := fun x => Int32.ofInt (zSh (pz T) i j z.toInt x)
theorem sh_row {f v : Nat → Int32} {j : Nat} (hj : j < 4) {x : Nat} (hx : x < 16) : (ma_up (ma_up (ma_up (ma_up (ma_up (ma_up (ma_up (ma_up f ((4 * j) + 0) (v 0)) (0 + j) (v 0)) ((4 * j) + 1) (v 1)) (4 + j) (v 1)) ((4 * j) + 2) (v 2)) (8 + j) (v 2)) ((4 * j) + 3) (v 3)) (12 + j) (v 3)) x = if x / 4 = j then v (x % 4) else if x % 4 = j then v (x / 4) else f x := by
  match j, hj with
  | 0, _ =>
    (match x, hx with
    | 0, _ => rfl
    | 1, _ => rfl
    | 2, _ => rfl
    | 3, _ => rfl
    | 4, _ => rfl
    | 5, _ => rfl
    | 6, _ => rfl
    | 7, _ => rfl
    | 8, _ => rfl
    | 9, _ => rfl
    | 10, _ => rfl
    | 11, _ => rfl
    | 12, _ => rfl
    | 13, _ => rfl
    | 14, _ => rfl
    | 15, _ => rfl
    | x + 16, h => exact absurd h (by omega))
  | 1, _ =>
    (match x, hx with
    | 0, _ => rfl
    | 1, _ => rfl
    | 2, _ => rfl
    | 3, _ => rfl
    | 4, _ => rfl
    | 5, _ => rfl
    | 6, _ => rfl
    | 7, _ => rfl
    | 8, _ => rfl
    | 9, _ => rfl
    | 10, _ => rfl
    | 11, _ => rfl
    | 12, _ => rfl
    | 13, _ => rfl
    | 14, _ => rfl
    | 15, _ => rfl
    | x + 16, h => exact absurd h (by omega))
  | 2, _ =>
    (match x, hx with
    | 0, _ => rfl
    | 1, _ => rfl
    | 2, _ => rfl
    | 3, _ => rfl
    | 4, _ => rfl
    | 5, _ => rfl
    | 6, _ => rfl
    | 7, _ => rfl
    | 8, _ => rfl
    | 9, _ => rfl
    | 10, _ => rfl
    | 11, _ => rfl
    | 12, _ => rfl
    | 13, _ => rfl
    | 14, _ => rfl
    | 15, _ => rfl
    | x + 16, h => exact absurd h (by omega))
  | 3, _ =>
    (match x, hx with
    | 0, _ => rfl
    | 1, _ => rfl
    | 2, _ => rfl
    | 3, _ => rfl
    | 4, _ => rfl
    | 5, _ => rfl
    | 6, _ => rfl
    | 7, _ => rfl
    | 8, _ => rfl
    | 9, _ => rfl
    | 10, _ => rfl
    | 11, _ => rfl
    | 12, _ => rfl
    | 13, _ => rfl
    | 14, _ => rfl
    | 15, _ => rfl
    | x + 16, h => exact absurd h (by omega))
theorem sh_v (A : Nat → Int32) (g i j : Nat) (z : Int32) {m : Nat} (hm : m < 4) (hj : j < 4) : (if ¬ nI m = nI j then A (((16 * g) + (4 * j)) + m) + z * A (((16 * g) + (4 * i)) + m) else (A ((16 * g) + (5 * j)) + (2 * z) * A (((16 * g) + (4 * i)) + j)) + (z * z) * A ((16 * g) + (5 * i))) = Int32.ofInt (zSv (pz (fun k => A (16 * g + k))) i j z.toInt m) := by
  unfold zSv pz
  by_cases h : m = j
  · rw [if_neg (Decidable.not_not.mpr (congrArg nI h)), if_neg (Decidable.not_not.mpr h)]
    simp only [Int32.ofInt_add, Int32.ofInt_mul, Int32.ofInt_toInt, Nat.add_assoc]
    rfl
  · rw [if_pos (nx_ne h (by omega) (by omega)), if_pos h]
    simp only [Int32.ofInt_add, Int32.ofInt_mul, Int32.ofInt_toInt, Nat.add_assoc]
theorem sh_M {A f : Nat → Int32} {g i j : Nat} {z : Int32} (hj : j < 4) (hf : ∀ x, x < 16 → f x = A (16 * g + x)) {x : Nat} (hx : x < 16) : (ma_up (ma_up (ma_up (ma_up (ma_up (ma_up (ma_up (ma_up f ((4 * j) + 0) (if ¬ 0 = (nI j) then ((A (((16 * g) + (4 * j)) + 0)) + (z * (A (((16 * g) + (4 * i)) + 0)))) else (((A ((16 * g) + (5 * j))) + ((2 * z) * (A (((16 * g) + (4 * i)) + j)))) + ((z * z) * (A ((16 * g) + (5 * i))))))) (0 + j) (if ¬ 0 = (nI j) then ((A (((16 * g) + (4 * j)) + 0)) + (z * (A (((16 * g) + (4 * i)) + 0)))) else (((A ((16 * g) + (5 * j))) + ((2 * z) * (A (((16 * g) + (4 * i)) + j)))) + ((z * z) * (A ((16 * g) + (5 * i))))))) ((4 * j) + 1) (if ¬ 1 = (nI j) then ((A (((16 * g) + (4 * j)) + 1)) + (z * (A (((16 * g) + (4 * i)) + 1)))) else (((A ((16 * g) + (5 * j))) + ((2 * z) * (A (((16 * g) + (4 * i)) + j)))) + ((z * z) * (A ((16 * g) + (5 * i))))))) (4 + j) (if ¬ 1 = (nI j) then ((A (((16 * g) + (4 * j)) + 1)) + (z * (A (((16 * g) + (4 * i)) + 1)))) else (((A ((16 * g) + (5 * j))) + ((2 * z) * (A (((16 * g) + (4 * i)) + j)))) + ((z * z) * (A ((16 * g) + (5 * i))))))) ((4 * j) + 2) (if ¬ 2 = (nI j) then ((A (((16 * g) + (4 * j)) + 2)) + (z * (A (((16 * g) + (4 * i)) + 2)))) else (((A ((16 * g) + (5 * j))) + ((2 * z) * (A (((16 * g) + (4 * i)) + j)))) + ((z * z) * (A ((16 * g) + (5 * i))))))) (8 + j) (if ¬ 2 = (nI j) then ((A (((16 * g) + (4 * j)) + 2)) + (z * (A (((16 * g) + (4 * i)) + 2)))) else (((A ((16 * g) + (5 * j))) + ((2 * z) * (A (((16 * g) + (4 * i)) + j)))) + ((z * z) * (A ((16 * g) + (5 * i))))))) ((4 * j) + 3) (if ¬ 3 = (nI j) then ((A (((16 * g) + (4 * j)) + 3)) + (z * (A (((16 * g) + (4 * i)) + 3)))) else (((A ((16 * g) + (5 * j))) + ((2 * z) * (A (((16 * g) + (4 * i)) + j)))) + ((z * z) * (A ((16 * g) + (5 * i))))))) (12 + j) (if ¬ 3 = (nI j) then ((A (((16 * g) + (4 * j)) + 3)) + (z * (A (((16 * g) + (4 * i)) + 3)))) else (((A ((16 * g) + (5 * j))) + ((2 * z) * (A (((16 * g) + (4 * i)) + j)))) + ((z * z) * (A ((16 * g) + (5 * i))))))) x = tSh (fun k => A (16 * g + k)) i j z x := by
  refine (sh_row (f := f) (v := fun m => if ¬ nI m = nI j then A (((16 * g) + (4 * j)) + m) + z * A (((16 * g) + (4 * i)) + m) else (A ((16 * g) + (5 * j)) + (2 * z) * A (((16 * g) + (4 * i)) + j)) + (z * z) * A ((16 * g) + (5 * i))) hj hx).trans ?_
  unfold tSh zSh
  by_cases h : x / 4 = j
  · rw [if_pos h, if_pos h]; exact sh_v A g i j z (by omega) hj
  · rw [if_neg h, if_neg h]
    by_cases h' : x % 4 = j
    · rw [if_pos h', if_pos h']; exact sh_v A g i j z (by omega) hj
    · rw [if_neg h', if_neg h', hf x hx]; exact (Int32.ofInt_toInt _).symm
theorem sh_C {f : Nat → Int64} {w : Nat → Int} {i j : Nat} {k : Int} (hf : ∀ x, x < 16 → f x = Int64.ofInt (w x)) (hs : ∀ a b, a < 4 → b < 4 → w (4 * a + b) = w (4 * b + a)) (hi : i < 4) (hj : j < 4) (hij : i ≠ j) {x : Nat} (hx : x < 16) : cShr f i j (Int64.ofInt k) x = Int64.ofInt (zSh w i j k x) := by
  unfold cShr cKr cKc zSh zSv
  by_cases ha : x / 4 = j
  · by_cases hb : x % 4 = j
    · rw [if_pos ⟨ha, by omega⟩, if_pos ⟨hb, by omega⟩, if_pos ⟨by omega, by omega⟩, if_pos ha, if_neg (Decidable.not_not.mpr hb)]
      rw [show 4 * ((4 * i + x % 4) / 4) + i = 5 * i by omega, show 4 * (x / 4) + i = 4 * j + i by omega, show 4 * i + x % 4 = 4 * i + j by omega, show x = 5 * j by omega, hf _ (by omega), hf _ (by omega), hf _ (by omega), hf _ (by omega), hs j i hj hi]
      rw [← Int64.ofInt_mul, ← Int64.ofInt_add, ← Int64.ofInt_mul, ← Int64.ofInt_add, ← Int64.ofInt_mul, ← Int64.ofInt_add]
      congr 1
      generalize w (5 * j) = w1
      generalize w (4 * i + j) = w2
      generalize w (5 * i) = w3
      grind
    · rw [if_pos ⟨ha, by omega⟩, if_neg (fun q => hb q.1), if_neg (fun q => hb (by omega)), if_pos ha, if_pos hb, hf _ hx, hf _ (by omega), ← Int64.ofInt_mul, ← Int64.ofInt_add, show 4 * j + x % 4 = x by omega]
  · rw [if_neg (fun q => ha q.1), if_neg ha]
    by_cases hb : x % 4 = j
    · rw [if_pos ⟨hb, by omega⟩, if_pos hb, if_pos ha, hf _ hx, hf _ (by omega), ← Int64.ofInt_mul, ← Int64.ofInt_add, ← hs (x / 4) j (by omega) hj, ← hs (x / 4) i (by omega) hi, show 4 * (x / 4) + j = x by omega]
    · rw [if_neg (fun q => hb q.1), if_neg hb, hf _ hx]
theorem zSv_b {w : Nat → Int} {i j : Nat} {k : Int} (hw : ∀ x, x < 16 → (w x).natAbs ≤ 4) (hk : k.natAbs ≤ 2) (hi : i < 4) (hj : j < 4) {m : Nat} (hm : m < 4) : (zSv w i j k m).natAbs ≤ 36 := by
  unfold zSv
  split
  · have := na_ (hw (4 * j + m) (by omega)) (nm_ hk (hw (4 * i + m) (by omega))); omega
  · have := na_ (na_ (hw (5 * j) (by omega)) (nm_ (nm_ (show (2 : Int).natAbs ≤ 2 by decide) hk) (hw (4 * i + j) (by omega)))) (nm_ (nm_ hk hk) (hw (5 * i) (by omega))); omega
theorem zSh_b {w : Nat → Int} {i j : Nat} {k : Int} (hw : ∀ x, x < 16 → (w x).natAbs ≤ 4) (hk : k.natAbs ≤ 2) (hi : i < 4) (hj : j < 4) {x : Nat} (hx : x < 16) : (zSh w i j k x).natAbs ≤ 36 := by
  unfold zSh
  split
  · exact zSv_b hw hk hi hj (by omega)
  · split
    · exact zSv_b hw hk hi hj (by omega)
    · have := hw x hx; omega
theorem zSh_s {w : Nat → Int} (i j : Nat) (k : Int) (hs : ∀ a b, a < 4 → b < 4 → w (4 * a + b) = w (4 * b + a)) {a b : Nat} (ha : a < 4) (hb : b < 4) : zSh w i j k (4 * a + b) = zSh w i j k (4 * b + a) := by
  unfold zSh
  rw [show (4 * a + b) / 4 = a by omega, show (4 * a + b) % 4 = b by omega, show (4 * b + a) / 4 = b by omega, show (4 * b + a) % 4 = a by omega]
  by_cases h1 : a = j
  · by_cases h2 : b = j
    · rw [if_pos h1, if_pos h2, h1, h2]
    · rw [if_pos h1, if_neg h2, if_pos h1]
  · by_cases h2 : b = j
    · rw [if_neg h1, if_pos h2, if_pos h2]
    · rw [if_neg h1, if_neg h2, if_neg h2, if_neg h1, hs a b ha hb]
theorem sh_3 {v : Int} (h : v.natAbs ≤ 36) : ((¬ Int32.ofInt v < (-4)) ∧ (¬ 4 < Int32.ofInt v)) ↔ v.natAbs ≤ 4 := by
  have z1 : (4 : Int32).toInt = 4 := by decide
  have z2 : (-4 : Int32).toInt = -4 := by decide
  rw [nb_lt, nb_lt, z1, z2, Int32.toInt_ofInt_of_le (by omega) (by omega)]
  omega
theorem sh_6 {v : Int} (h : v.natAbs ≤ 36) : ((¬ Int64.ofInt v < Int32.toInt64 (-4)) ∧ (¬ Int32.toInt64 4 < Int64.ofInt v)) ↔ v.natAbs ≤ 4 := by
  have z1 : (Int32.toInt64 4).toInt = 4 := by decide
  have z2 : (Int32.toInt64 (-4)).toInt = -4 := by decide
  rw [nb_ltL, nb_ltL, z1, z2, o6_toInt (by omega)]
  omega
def shK (s : sG) (g i j : Nat) (z : Int32) : Prop := ∀ x, x < 16 → (zSh (tz s g) i j z.toInt x).natAbs ≤ 4
def sT (s : sG) (g : Nat) : Nat → Int32 := fun k => s.1 123 (16 * g + k)
theorem tz_s {s : sG} {g : Nat} (h : wfT s g) : ∀ a b, a < 4 → b < 4 → tz s g (4 * a + b) = tz s g (4 * b + a) := fun a b ha hb => by unfold tz; rw [h.2 a b ha hb]
theorem tSh_s {s : sG} {g i j : Nat} {z : Int32} (h : wfT s g) (hk : shK s g i j z) : tSm (tSh (sT s g) i j z) :=
  ⟨fun x hx => by
    have q : (zSh (tz s g) i j z.toInt x).natAbs ≤ 4 := hk x hx
    show -4 ≤ (Int32.ofInt (zSh (tz s g) i j z.toInt x)).toInt ∧ (Int32.ofInt (zSh (tz s g) i j z.toInt x)).toInt ≤ 4
    rw [Int32.toInt_ofInt_of_le (by omega) (by omega)]; omega, fun a b ha hb => congrArg Int32.ofInt (zSh_s (w := tz s g) i j z.toInt (tz_s h) ha hb)⟩
noncomputable def F_shear (s : sG) (q x y z : Int32) : Int32 × sG := match ix 4 x with
  | none => (-1, s)
  | some i => match ix 4 y with
    | none => (-1, s)
    | some j => if i = j then (-1, s) else if z < -2 ∨ 2 < z then (-1, s) else match gG s q with
      | .inl r => r
      | .inr g => cIf (shK s g i j z) (mFc (t64 (tSh (sT s g) i j z)) 0, sB s g (tSh (sT s g) i j z)) (-3, sM s 2)
theorem W_shear {s : sG} (h : wF s) (a1 a2 a3 a4 : Int32) : wF (F_shear s a1 a2 a3 a4).2 := by
  unfold F_shear
  split
  · exact h
  · rename_i i hi
    split
    · exact h
    · rename_i j hj
      split
      · exact h
      · split
        · exact h
        · split
          · rename_i e; exact gG_w h e
          · rename_i g e
            by_cases k : shK s g i j a4
            · rw [cIf_p k]; exact wF_B h g (tSh_s (h.2.1 g (gG_b e)) k)
            · rw [cIf_n k]; exact wF_M h _
theorem kz_1 {z : Int32} (h : ¬ z < (-2)) (h' : z ≤ 2) : z.toInt.natAbs ≤ 2 := by
  have z1 : (2 : Int32).toInt = 2 := by decide
  have z2 : (-2 : Int32).toInt = -2 := by decide
  rw [nb_lt, z2] at h
  rw [nb_le, z1] at h'
  omega
theorem ob_125 (I : ma_I) (L : ma_L) (f r : Nat → Int32) : ob (ma_up (mfill I 125 0 16 f) 125 r) L = ob I L := by unfold ob mfill; rw [oI_x _ rfl (by decide), oI_x _ rfl (by decide)]
theorem C_shear {g : ma_G} {I : ma_I} {L : ma_L} {P : ma_P} {s : sG} (hW : wF s) (hC : rC s I L) (q_ i_ j_ k_ : Int32) (k : ∀ I1 L1, rC (F_shear s q_ i_ j_ k_).2 I1 L1 → mS I L I1 L1 → P (some (.int (F_shear s q_ i_ j_ k_).1)) HS I1 L1 RF 146) : CT g yX7_shear cX7_shear 6 (some .int) rX7_shear [.ref 3, .int q_, .int i_, .int j_, .int k_] P HS I L RF 146 := by
  obtain ⟨hcM, hcN, hcF, hcK, hcT, hcS, hcG⟩ := id hC
  exact t_X7_shear q_ i_ j_ k_ 
    (fun h1 => by
      have e_ : F_shear s q_ i_ j_ k_ = ((-1), s) := by simp only [F_shear, (show ix 4 i_ = none from (ix_n1 h1 ln_4))]
      rw [e_] at k
      dsimp only at k
      exact k _ _ hC mS_rf)
    (fun n2 h2 e3 h4 => by
      subst e3
      have e_ : F_shear s q_ (nI n2) j_ k_ = ((-1), s) := by simp only [F_shear, ix_s (n := 4) h2, (show ix 4 j_ = none from (ix_n1 h4 ln_4))]
      rw [e_] at k
      dsimp only at k
      exact k _ _ hC mS_rf)
    (fun n2 h2 e3 n4 h5 e6 h7 => by
      subst e3
      subst e6
      have e_ : F_shear s q_ (nI n2) (nI n4) k_ = ((-1), s) := by simp only [F_shear, ix_s (n := 4) h2, ix_s (n := 4) h5, if_pos (show n2 = n4 from nx_inj h7 (by omega) (by omega))]
      rw [e_] at k
      dsimp only at k
      exact k _ _ hC mS_rf)
    (fun n2 h2 e3 n4 h5 e6 h7 h8 => by
      subst e3
      subst e6
      have e_ : F_shear s q_ (nI n2) (nI n4) k_ = ((-1), s) := by simp only [F_shear, ix_s (n := 4) h2, ix_s (n := 4) h5, if_neg (show ¬ n2 = n4 from fun z => h7 (congrArg nI z)), if_pos (show (k_ < -2 ∨ 2 < k_) from Or.inl h8)]
      rw [e_] at k
      dsimp only at k
      exact k _ _ hC mS_rf)
    (fun n2 h2 e3 n4 h5 e6 h7 h8 h9 h10 => by
      subst e3
      subst e6
      have e_ : F_shear s q_ (nI n2) (nI n4) k_ = ((-1), s) := by simp only [F_shear, ix_s (n := 4) h2, ix_s (n := 4) h5, gG_n (s := s) (ix_n1 h10 ln_12), if_neg (show ¬ n2 = n4 from fun z => h7 (congrArg nI z)), if_neg (show ¬ (k_ < -2 ∨ 2 < k_) from fun q => q.elim h8 (fun q => Int32.not_le.mpr q h9))]
      rw [e_] at k
      dsimp only at k
      exact k _ _ hC mS_rf)
    (fun n2 h2 e3 n4 h5 e6 h7 h8 h9 j9 h11 e12 h13 h14 => by
      subst e3
      subst e6
      subst e12
      have e_ : F_shear s (nI j9) (nI n2) (nI n4) k_ = ((-3), (sM s 1)) := by simp only [F_shear, ix_s (n := 4) h2, ix_s (n := 4) h5, gG_m (s := s) h13 (kG_m (hcG j9 (by omega)) h14), if_neg (show ¬ n2 = n4 from fun z => h7 (congrArg nI z)), if_neg (show ¬ (k_ < -2 ∨ 2 < k_) from fun q => q.elim h8 (fun q => Int32.not_le.mpr q h9))]
      rw [e_] at k
      dsimp only at k
      exact k _ _ (rC_R hC (by omega)) (mS_R _ _ _))
    (fun n2 h2 e3 n4 h5 e6 h7 h8 h9 j14 h11 e12 h13 h14 h15 h16 L31 h18 J32 K33 h21 h22 h23 h24 h25 h26 h27 h28 => by
      subst e3
      subst e6
      subst e12
      have kz_ := kz_1 h8 h9
      have nij_ : n2 ≠ n4 := fun z => h7 (congrArg nI z)
      have rw7_ : ∀ x, x < 16 → (ma_up (cBe L 7 (57 + 5 * j14)) 7 (cShr ((cBe L 7 (57 + 5 * j14)) 7) n2 n4 (Int32.toInt64 k_))) 7 x = Int64.ofInt (zSh (tz s j14) n2 n4 k_.toInt x) := fun x hx => by rw [ma_up_s, i2l_o]; exact sh_C (cBe_o (by omega) (fun j hj => ((hcG j14 (by omega)).2.1 j hj).trans (i2l_o _))) (tz_s (hW.2.1 j14 (by omega))) (by omega) (by omega) nij_ hx
      have bd_ : ∀ x, x < 16 → (zSh (tz s j14) n2 n4 k_.toInt x).natAbs ≤ 36 := fun x hx => zSh_b (tz_b (hW.2.1 j14 (by omega))) kz_ (by omega) (by omega) hx
      have sk_ : shK s j14 n2 n4 k_ := fun x hx => (sh_6 (bd_ x hx)).mp (by have q_ := h16 x hx; rw [rw7_ x hx] at q_; exact q_)
      have hT : tSm (tSh (sT s j14) n2 n4 k_) := tSh_s (hW.2.1 j14 (by omega)) sk_
      have hL7_ : ∀ j, j < 16 → L31 7 j = t64 (tSh (sT s j14) n2 n4 k_) j := fun j hj => by rw [h18]; exact (rw7_ j hj).trans (by have q_ := bd_ j hj; unfold t64; rw [i2l_o]; show _ = Int64.ofInt (Int32.ofInt (zSh (tz s j14) n2 n4 k_.toInt j)).toInt; rw [Int32.toInt_ofInt_of_le (by omega) (by omega)])
      have hX : ∀ x, x ≠ 7 → L31 x = L x := fun x hx => by rw [h18, ma_up_n _ _ hx]; unfold cBe; rw [mfill_n _ _ _ _ hx]
      have e_ : F_shear s (nI j14) (nI n2) (nI n4) k_ = (mFc (t64 (tSh (sT s j14) n2 n4 k_)) 0, (sB s j14 (tSh (sT s j14) n2 n4 k_))) := by simp only [F_shear, ix_s (n := 4) h2, ix_s (n := 4) h5, gG_o (s := s) h13 (kG_o (hcG j14 (by omega)) h15), if_neg (show ¬ n2 = n4 from fun z => h7 (congrArg nI z)), if_neg (show ¬ (k_ < -2 ∨ 2 < k_) from fun q => q.elim h8 (fun q => Int32.not_le.mpr q h9)), cIf_p sk_]
      rw [e_] at k
      dsimp only at k
      rw [fc_t hT hL7_ (show 0 < 10 by omega)]
      exact k _ _ (rC_B hC hT hL7_ hX h21 h22 h23 h25 h26) (mS_B (by omega) hX h23 h26))
    (fun n2 h2 e3 n4 h5 e6 h7 h8 h9 j14 h11 e12 h13 h14 h15 h16 => by
      subst e3
      subst e6
      subst e12
      have kz_ := kz_1 h8 h9
      have nij_ : n2 ≠ n4 := fun z => h7 (congrArg nI z)
      have rw7_ : ∀ x, x < 16 → (ma_up (cBe L 7 (57 + 5 * j14)) 7 (cShr ((cBe L 7 (57 + 5 * j14)) 7) n2 n4 (Int32.toInt64 k_))) 7 x = Int64.ofInt (zSh (tz s j14) n2 n4 k_.toInt x) := fun x hx => by rw [ma_up_s, i2l_o]; exact sh_C (cBe_o (by omega) (fun j hj => ((hcG j14 (by omega)).2.1 j hj).trans (i2l_o _))) (tz_s (hW.2.1 j14 (by omega))) (by omega) (by omega) nij_ hx
      have bd_ : ∀ x, x < 16 → (zSh (tz s j14) n2 n4 k_.toInt x).natAbs ≤ 36 := fun x hx => zSh_b (tz_b (hW.2.1 j14 (by omega))) kz_ (by omega) (by omega) hx
      have sk_ : ¬ shK s j14 n2 n4 k_ := fun z => h16 (fun x hx => by rw [rw7_ x hx]; exact (sh_6 (bd_ x hx)).mpr (z x hx))
      have e_ : F_shear s (nI j14) (nI n2) (nI n4) k_ = ((-3), (sM s 2)) := by simp only [F_shear, ix_s (n := 4) h2, ix_s (n := 4) h5, gG_o (s := s) h13 (kG_o (hcG j14 (by omega)) h15), if_neg (show ¬ n2 = n4 from fun z => h7 (congrArg nI z)), if_neg (show ¬ (k_ < -2 ∨ 2 < k_) from fun q => q.elim h8 (fun q => Int32.not_le.mpr q h9)), cIf_n sk_]
      rw [e_] at k
      dsimp only at k
      exact k _ _ (rC_x (rC_R hC (by omega)) (fun _ _ => rfl) (fun a ha => by rw [ma_up_n _ _ (by omega)]; unfold cBe; rw [mfill_n _ _ _ _ (by omega)])) (mS_ul (mS_ul (mS_R _ _ _) (by omega)) (by omega)))
    (fun n2 h2 e3 n4 h5 e6 h7 h8 h9 j20 h11 e12 h13 h14 h15 => by
      subst e3
      subst e6
      subst e12
      exact absurd h15 h14)
    (fun n2 h2 e3 n4 h5 e6 h7 h8 h9 j26 h11 e12 h13 => by
      subst e3
      subst e6
      subst e12
      exact absurd h13 (ix_c1 rfl h11 ln_12))
    (fun n2 h2 e3 n4 h5 e6 h7 h8 h9 => by
      subst e3
      subst e6
      have e_ : F_shear s q_ (nI n2) (nI n4) k_ = ((-1), s) := by simp only [F_shear, ix_s (n := 4) h2, ix_s (n := 4) h5, if_neg (show ¬ n2 = n4 from fun z => h7 (congrArg nI z)), if_pos (show (k_ < -2 ∨ 2 < k_) from Or.inr (Int32.not_le.mp h9))]
      rw [e_] at k
      dsimp only at k
      exact k _ _ hC mS_rf)
theorem M_shear {g : ma_G} {I : ma_I} {L : ma_L} {P : ma_P} (hW : wF (ob I L))  (q_ x_ y_ z_ : Int32) (k : ∀ I2 L2, ob I2 L2 = (F_shear (ob I L) q_ x_ y_ z_).2 → cS I L I2 L2 → P (some (.int (F_shear (ob I L) q_ x_ y_ z_).1)) HS I2 L2 RF 146) : CT g yX8_shear cX8_shear 9 (some .int) rX8_shear [.ref 115, .int q_, .int x_, .int y_, .int z_] P HS I L RF 146 := by
  exact t_X8_shear q_ x_ y_ z_ 
    (fun h1 => by
      have e_ : F_shear (ob I L) q_ x_ y_ z_ = ((-1), (ob I L)) := by simp only [F_shear, (show ix 4 x_ = none from (ix_n2 h1 li_4))]
      rw [e_] at k
      dsimp only at k
      exact k _ _ rfl cS_rf)
    (fun n2 h2 e3 h4 => by
      subst e3
      have e_ : F_shear (ob I L) q_ (nI n2) y_ z_ = ((-1), (ob I L)) := by simp only [F_shear, ix_s (n := 4) h2, (show ix 4 y_ = none from (ix_n2 h4 li_4))]
      rw [e_] at k
      dsimp only at k
      exact k _ _ rfl cS_rf)
    (fun n2 h2 e3 n4 h5 e6 h7 => by
      subst e3
      subst e6
      have e_ : F_shear (ob I L) q_ (nI n2) (nI n4) z_ = ((-1), (ob I L)) := by simp only [F_shear, ix_s (n := 4) h2, ix_s (n := 4) h5, if_pos (show n2 = n4 from nx_inj h7 (by omega) (by omega))]
      rw [e_] at k
      dsimp only at k
      exact k _ _ rfl cS_rf)
    (fun n2 h2 e3 n4 h5 e6 h7 h8 j7 h10 e11 h12 => by
      subst e3
      subst e6
      subst e11
      have e_ : F_shear (ob I L) (nI j7) (nI n2) (nI n4) z_ = ((-3), (sM (ob I L) 1)) := by simp only [F_shear, ix_s (n := 4) h2, ix_s (n := 4) h5, gG_m (s := (ob I L)) h10 (show (ob I L).1 122 j7 = 0 from h12), if_neg (show ¬ n2 = n4 from fun z => h7 (congrArg nI z)), if_neg (show ¬ (z_ < -2 ∨ 2 < z_) from fun q => q.elim h8.1 h8.2)]
      rw [e_] at k
      dsimp only at k
      exact k _ _ (ob_M _ _ _) (cS_M _ _ _))
    (fun n2 h2 e3 n4 h5 e6 h7 h8 j11 h10 e11 h12 I41 h14 x40 h16 h17 I52 h19 r53 J54 K55 h23 h24 h25 h26 h27 => by
      subst e3
      subst e6
      subst e11
      have kz_ := kz_1 h8.1 (Int32.not_lt.mp h8.2)
      have r_ : ∀ x, x < 16 → I41 125 x = tSh (sT (ob I L) j11) n2 n4 z_ x := fun x hx => by rw [h14, ma_up_s, show mfill I 125 0 16 (fun k => I 123 (16 * j11 + k)) 123 = I 123 from mfill_n _ _ _ _ (by decide)]; exact sh_M (A := I 123) (g := j11) (by omega) (fun x hx => by rw [mfill_at, if_pos (by omega), Nat.sub_zero]) hx
      have bd_ : ∀ x, x < 16 → (zSh (tz (ob I L) j11) n2 n4 z_.toInt x).natAbs ≤ 36 := fun x hx => zSh_b (tz_b (hW.2.1 j11 (by omega))) kz_ (by omega) (by omega) hx
      have xx_ : x40 = 1 ↔ shK (ob I L) j11 n2 n4 z_ := h16.2.trans ⟨fun q x hx => (sh_3 (bd_ x hx)).mp (by have q_ := q x hx; rw [r_ x hx] at q_; exact q_), fun q x hx => by rw [r_ x hx]; exact (sh_3 (bd_ x hx)).mpr (q x hx)⟩
      have sk_ := xx_.mp (h16.1.elim (fun z => absurd z h17) id)
      have e3 : ∀ j, I52 123 j = if 16 * j11 ≤ j ∧ j < 16 * j11 + 16 then (tSh (sT (ob I L) j11) n2 n4 z_) (j - 16 * j11) else I 123 j := fun j => by rw [h19, mfill_at]; by_cases q_ : 16 * j11 ≤ j ∧ j < 16 * j11 + 16; (· rw [if_pos q_, if_pos q_]; exact r_ _ (by omega)); (· rw [if_neg q_, if_neg q_, h14, ma_up_n _ _ (by decide), mfill_n _ _ _ _ (by decide)])
      have e2 : I52 122 = ma_up (I 122) j11 1 := by rw [h19, mfill_n _ _ _ _ (by decide), h14, ma_up_n _ _ (by decide), mfill_n _ _ _ _ (by decide)]; exact up_1 (th_1 hW (by omega) (show ¬ (ob I L).1 122 j11 = 0 from h12))
      have eo : ∀ a, a = 116 ∨ a = 117 ∨ a = 118 ∨ a = 124 ∨ a = 128 ∨ a = 148 ∨ a = 115 → I52 a = I a := fun a ha => by rw [h19, mfill_n _ _ _ _ (by omega), h14, ma_up_n _ _ (by omega), mfill_n _ _ _ _ (by omega)]
      have ec : ∀ a, a < 115 → I52 a = I a := fun a ha => by rw [h19, mfill_n _ _ _ _ (by omega), h14, ma_up_n _ _ (by omega), mfill_n _ _ _ _ (by omega)]
      have e_ : F_shear (ob I L) (nI j11) (nI n2) (nI n4) z_ = (mFc (t64 (tSh (sT (ob I L) j11) n2 n4 z_)) 0, (sB (ob I L) j11 (tSh (sT (ob I L) j11) n2 n4 z_))) := by simp only [F_shear, ix_s (n := 4) h2, ix_s (n := 4) h5, gG_o (s := (ob I L)) h10 (show ¬ (ob I L).1 122 j11 = 0 from h12), if_neg (show ¬ n2 = n4 from fun z => h7 (congrArg nI z)), if_neg (show ¬ (z_ < -2 ∨ 2 < z_) from fun q => q.elim h8.1 h8.2), cIf_p sk_]
      rw [e_] at k
      dsimp only at k
      rw [h27, mFc_c (t := K55 120) (t' := t64 (tSh (sT (ob I L) j11) n2 n4 z_)) (fun j hj => by rw [h24 j hj, e3, if_pos (by omega), Nat.add_sub_cancel_left]; rfl)]
      exact k _ _ (ob_B e3 e2 eo h23 h24 h25 h26) (cS_B ec h25 h26))
    (fun n2 h2 e3 n4 h5 e6 h7 h8 j11 h10 e11 h12 I41 h14 x40 h16 h17 => by
      subst e3
      subst e6
      subst e11
      have kz_ := kz_1 h8.1 (Int32.not_lt.mp h8.2)
      have r_ : ∀ x, x < 16 → I41 125 x = tSh (sT (ob I L) j11) n2 n4 z_ x := fun x hx => by rw [h14, ma_up_s, show mfill I 125 0 16 (fun k => I 123 (16 * j11 + k)) 123 = I 123 from mfill_n _ _ _ _ (by decide)]; exact sh_M (A := I 123) (g := j11) (by omega) (fun x hx => by rw [mfill_at, if_pos (by omega), Nat.sub_zero]) hx
      have bd_ : ∀ x, x < 16 → (zSh (tz (ob I L) j11) n2 n4 z_.toInt x).natAbs ≤ 36 := fun x hx => zSh_b (tz_b (hW.2.1 j11 (by omega))) kz_ (by omega) (by omega) hx
      have xx_ : x40 = 1 ↔ shK (ob I L) j11 n2 n4 z_ := h16.2.trans ⟨fun q x hx => (sh_3 (bd_ x hx)).mp (by have q_ := q x hx; rw [r_ x hx] at q_; exact q_), fun q x hx => by rw [r_ x hx]; exact (sh_3 (bd_ x hx)).mpr (q x hx)⟩
      have e_ : F_shear (ob I L) (nI j11) (nI n2) (nI n4) z_ = ((-3), (sM (ob I L) 2)) := by simp only [F_shear, ix_s (n := 4) h2, ix_s (n := 4) h5, gG_o (s := (ob I L)) h10 (show ¬ (ob I L).1 122 j11 = 0 from h12), if_neg (show ¬ n2 = n4 from fun z => h7 (congrArg nI z)), if_neg (show ¬ (z_ < -2 ∨ 2 < z_) from fun q => q.elim h8.1 h8.2), cIf_n (fun z => absurd (xx_.mpr z) (by rw [h17]; decide))]
      rw [e_] at k
      dsimp only at k
      exact k _ _ ((ob_M _ _ _).trans (congrArg (fun z => sM z 2) (by rw [h14]; exact ob_125 _ _ _ _))) (cS_tr (by rw [h14]; exact cS_up (cS_up cS_rf (by omega)) (by omega)) (cS_M _ _ _)))
    (fun n2 h2 e3 n4 h5 e6 h7 h8 h9 => by
      subst e3
      subst e6
      have e_ : F_shear (ob I L) q_ (nI n2) (nI n4) z_ = ((-1), (ob I L)) := by simp only [F_shear, ix_s (n := 4) h2, ix_s (n := 4) h5, gG_n (s := (ob I L)) (ix_n2 h9 li_12), if_neg (show ¬ n2 = n4 from fun z => h7 (congrArg nI z)), if_neg (show ¬ (z_ < -2 ∨ 2 < z_) from fun q => q.elim h8.1 h8.2)]
      rw [e_] at k
      dsimp only at k
      exact k _ _ rfl cS_rf)
    (fun n2 h2 e3 n4 h5 e6 h7 h8 => by
      subst e3
      subst e6
      have e_ : F_shear (ob I L) q_ (nI n2) (nI n4) z_ = ((-1), (ob I L)) := by simp only [F_shear, ix_s (n := 4) h2, ix_s (n := 4) h5, if_neg (show ¬ n2 = n4 from fun z => h7 (congrArg nI z)), if_pos (show (z_ < -2 ∨ 2 < z_) from Decidable.by_contra (fun q => h8 ⟨fun z => q (Or.inl z), fun z => q (Or.inr z)⟩))]
      rw [e_] at k
      dsimp only at k
      exact k _ _ rfl cS_rf)
theorem p_shear {g : ma_G} {I : ma_I} {L : ma_L} {P1 : ma_P} (hI : INV I L) (a1 a2 a3 a4 : Int32) (k : ∀ (r : Int32) (I1 : ma_I) (L1 : ma_L), (∀ {P2 : ma_P}, (∀ (I2 : ma_I) (L2 : ma_L), INV I2 L2 → P2 (some (.int r)) HS I2 L2 RF 146) → CT g yX8_shear cX8_shear 9 (some .int) rX8_shear [.ref 115, .int a1, .int a2, .int a3, .int a4] P2 HS I1 L1 RF 146) → P1 (some (.int r)) HS I1 L1 RF 146) : CT g yX7_shear cX7_shear 6 (some .int) rX7_shear [.ref 3, .int a1, .int a2, .int a3, .int a4] P1 HS I L RF 146 :=
  pair_i (F := F_shear (ob I L) a1 a2 a3 a4) hI (W_shear hI.1 a1 a2 a3 a4) (fun P kk => C_shear hI.1 hI.2 a1 a2 a3 a4 kk) (fun I1 L1 P e kk => M_shear (by rw [e]; exact hI.1)  a1 a2 a3 a4 (by rw [e]; exact kk)) k
