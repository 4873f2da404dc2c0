theorem hf_ {z i n : Int32} (h0 : 0 ≤ z.toInt) : ((¬ i < 0) ∧ ((¬ n < 0) ∧ ((¬ z < n) ∧ (¬ (z - n) < i)))) ↔ 0 ≤ i.toInt ∧ 0 ≤ n.toInt ∧ i.toInt + n.toInt ≤ z.toInt := by
  have hz := nb_rng z; have hn := nb_rng n; have hi := nb_rng i
  by_cases q : 0 ≤ n.toInt
  · rw [nb_lt (y := 0), nb_lt (y := 0), nb_lt, nb_lt, nb_0, nb_subI (by omega) (by omega)]
    omega
  · rw [nb_lt (y := 0), nb_lt (y := 0), nb_0]
    constructor
    · intro h; omega
    · intro h; omega
theorem lf_lt {z x n : Int32} : (Int32.toInt64 z < Int32.toInt64 x + Int32.toInt64 n) ↔ z.toInt < x.toInt + n.toInt := by
  have hz := nb_rng z; have hn := nb_rng n; have hx := nb_rng x
  rw [nb_ltL, nb_addL (by rw [nb_i2l, nb_i2l]; omega) (by rw [nb_i2l, nb_i2l]; omega), nb_i2l, nb_i2l, nb_i2l]
theorem lf_le {z x n : Int32} : (Int32.toInt64 x + Int32.toInt64 n ≤ Int32.toInt64 z) ↔ x.toInt + n.toInt ≤ z.toInt := by
  have hz := nb_rng z; have hn := nb_rng n; have hx := nb_rng x
  rw [nb_leL, nb_addL (by rw [nb_i2l, nb_i2l]; omega) (by rw [nb_i2l, nb_i2l]; omega), nb_i2l, nb_i2l, nb_i2l]
def sCp (s : sG) (x a y b c : Nat) : sG := (mfill s.1 118 (16 * y + b) c (fun k => s.1 118 (16 * x + a + k)), s.2)
theorem sCp_r {s : sG} {x a y b c q : Nat} (h : q ≠ 118) : (sCp s x a y b c).1 q = s.1 q := by unfold sCp; dsimp only; exact mfill_n _ _ _ _ h
theorem sCp_8 (s : sG) (x a y b c i : Nat) : (sCp s x a y b c).1 118 i = if 16 * y + b ≤ i ∧ i < 16 * y + b + c then s.1 118 (16 * x + a + (i - (16 * y + b))) else s.1 118 i := by unfold sCp; dsimp only; exact mfill_at _ _ _ _ _ _
theorem ob_cp (I : ma_I) (L : ma_L) (x a y b c : Nat) : ob (mfill (mfill I 119 0 c (fun k => I 118 (16 * x + a + k))) 118 (16 * y + b) c (fun k => (mfill I 119 0 c (fun k => I 118 (16 * x + a + k))) 119 k)) L = sCp (ob I L) x a y b c := by
  unfold ob sCp
  refine congrArg (fun z => (z, oL L)) ?_
  have e : mfill (mfill I 119 0 c (fun k => I 118 (16 * x + a + k))) 118 (16 * y + b) c (fun k => (mfill I 119 0 c (fun k => I 118 (16 * x + a + k))) 119 k) = ma_up (mfill I 119 0 c (fun k => I 118 (16 * x + a + k))) 118 (mfill (oI I) 118 (16 * y + b) c (fun k => oI I 118 (16 * x + a + k)) 118) := by
    funext q j
    by_cases h : q = 118
    · subst h
      rw [ma_up_s, mfill_at]
      by_cases h2 : 16 * y + b ≤ j ∧ j < 16 * y + b + c
      · rw [if_pos h2, mfill_at, if_pos (by omega), mfill_at, if_pos h2]; rfl
      · rw [if_neg h2, mfill_n _ _ _ _ (show 118 ≠ 119 by decide), mfill_at, if_neg h2]; rfl
    · rw [ma_up_n _ _ h, mfill_n _ _ _ _ h]
  rw [e, oI_up _ rfl]
  unfold mfill
  rw [oI_x _ rfl (by decide), ma_up_s]
theorem rC_cp {s : sG} {I : ma_I} {L : ma_L} (h : rC s I L) {x a y b c : Nat} (hx : x < 8) (hy : y < 8) (h1 : ¬ s.1 117 x < 0) (h2 : ¬ s.1 117 y < 0) (ha : a + c ≤ 16) (hb : b + c ≤ 16) : rC (sCp s x a y b c) (ma_up I (40 + 2 * y) (va_cpy (I (40 + 2 * x)) (I (40 + 2 * y)) a b c)) L := by
  have rx := kS_r (h.2.2.2.2.2.1 x hx) h1
  have ry := kS_r (h.2.2.2.2.2.1 y hy) h2
  refine rC_sh h hy rfl (fun q _ q2 => sCp_r q2) (fun z _ => by rw [sCp_r (by decide)]) (fun z j hz hj => by rw [sCp_8, if_neg (by omega)]) (fun q _ q2 => ma_up_n _ _ q2) ⟨fun q => ?_, fun _ => ⟨?_, fun j hj => ?_⟩⟩
  · rw [sCp_r (by decide)] at q; exact absurd q h2
  · rw [sCp_r (by decide), ma_up_n _ _ (by omega)]; exact kS_e (h.2.2.2.2.2.1 y hy) h2
  · rw [sCp_8, ma_up_s]
    unfold va_cpy
    by_cases q : b ≤ j ∧ j < b + c
    · rw [if_pos q, if_pos (by omega), rx _ (by omega), show 16 * x + (a + (j - b)) = 16 * x + a + (16 * y + j - (16 * y + b)) by omega]
    · rw [if_neg q, if_neg (by omega)]; exact ry j hj
theorem wF_cp {s : sG} (h : wF s) {x a y b c : Nat} (hy : y < 8) (hc : ((b + c : Nat) : Int) ≤ (s.1 117 y).toInt) : wF (sCp s x a y b c) := by
  have hz := (h.1 y hy).1
  refine wF_sh (x := y) h (fun q hq => sCp_r (by omega)) (fun z _ => by rw [sCp_r (by decide)]) (fun z j hz hj => by rw [sCp_8, if_neg (by omega)]) ⟨?_, fun q j hj hz => ?_⟩
  · rw [sCp_r (by decide)]; exact hz
  · rw [sCp_r (by decide)] at q hz
    rw [sCp_8, if_neg (by omega)]
    exact (h.1 y hy).2 q j hj hz
def F_copy (s : sG) (a i b j n : Int32) : Int32 × sG := match ix 8 a with
  | none => (-1, s)
  | some x => match ix 8 b with
    | none => (-1, s)
    | some y => if n.toInt < 0 then (-3, sM s 5) else if s.1 117 x < 0 then (-3, sM s 1) else if s.1 117 y < 0 then (-3, sM s 1) else
      if i.toInt < 0 ∨ j.toInt < 0 ∨ (s.1 117 x).toInt < i.toInt + n.toInt ∨ (s.1 117 y).toInt < j.toInt + n.toInt then (-3, sM s 2) else (1, sCp s x i.toInt.toNat y j.toInt.toNat n.toInt.toNat)
theorem W_copy {s : sG} (h : wF s) (a1 a2 a3 a4 a5 : Int32) : wF (F_copy s a1 a2 a3 a4 a5).2 := by
  unfold F_copy
  split
  · exact h
  · split
    · exact h
    · rename_i y hy
      split
      · exact wF_M h _
      · split
        · exact wF_M h _
        · split
          · exact wF_M h _
          · split
            · exact wF_M h _
            · exact wF_cp h (ix_b hy) (by omega)
theorem C_copy {g : ma_G} {I : ma_I} {L : ma_L} {P : ma_P} {s : sG} (hW : wF s) (hC : rC s I L) (s_ i_ t_ j_ n_ : Int32) (k : ∀ I1 L1, rC (F_copy s s_ i_ t_ j_ n_).2 I1 L1 → mS I L I1 L1 → P (some (.int (F_copy s s_ i_ t_ j_ n_).1)) HS I1 L1 RF 146) : CT g yX7_copy cX7_copy 8 (some .int) rX7_copy [.ref 3, .int s_, .int i_, .int t_, .int j_, .int n_] P HS I L RF 146 := by
  obtain ⟨hcM, hcN, hcF, hcK, hcT, hcS, hcG⟩ := id hC
  exact t_X7_copy s_ i_ t_ j_ n_ (kZ hW hcS)
    (fun h1 => by
      have e_ : F_copy s s_ i_ t_ j_ n_ = ((-1), s) := by simp only [F_copy, (show ix 8 s_ = none from (ix_n1 h1 ln_8))]
      rw [e_] at k
      dsimp only at k
      exact k _ _ hC mS_rf)
    (fun n2 h2 e3 n4 h5 e6 h7 h8 => by
      subst e3
      subst e6
      have e_ : F_copy s (nI n2) i_ (nI n4) j_ n_ = ((-3), (sM s 1)) := by simp only [F_copy, ix_s (n := 8) h2, ix_s (n := 8) h5, if_neg (show ¬ n_.toInt < 0 by have q_ := h7; rw [nb_le, nb_0] at q_; omega), if_pos (kS_m (hcS n2 (by omega)) h8)]
      rw [e_] at k
      dsimp only at k
      exact k _ _ (rC_R hC (by omega)) (mS_R _ _ _))
    (fun n2 h2 e3 n4 h5 e6 h7 h8 h9 h10 => by
      subst e3
      subst e6
      have zzn2 := kS_e (hcS n2 (by omega)) (kS_o (hcS n2 (by omega)) (Decidable.not_not.mp h8))
      have z0n2 : 0 ≤ (s.1 117 n2).toInt := by have q_ := (kS_o (hcS n2 (by omega)) (Decidable.not_not.mp h8)); rw [nb_lt, nb_0] at q_; omega
      have zzn4 := kS_e (hcS n4 (by omega)) (kS_o (hcS n4 (by omega)) (Decidable.not_not.mp h9))
      have z0n4 : 0 ≤ (s.1 117 n4).toInt := by have q_ := (kS_o (hcS n4 (by omega)) (Decidable.not_not.mp h9)); rw [nb_lt, nb_0] at q_; omega
      rw [zzn2, hf_ z0n2] at h10
      have qn_ := h7
      rw [nb_le, nb_0] at qn_
      have e_ : F_copy s (nI n2) i_ (nI n4) j_ n_ = ((-3), (sM s 2)) := by simp only [F_copy, ix_s (n := 8) h2, ix_s (n := 8) h5, if_neg (show ¬ n_.toInt < 0 by have q_ := h7; rw [nb_le, nb_0] at q_; omega), if_neg (kS_o (hcS n2 (by omega)) (Decidable.not_not.mp h8)), if_neg (kS_o (hcS n4 (by omega)) (Decidable.not_not.mp h9)), if_pos (show i_.toInt < 0 ∨ j_.toInt < 0 ∨ (s.1 117 n2).toInt < i_.toInt + n_.toInt ∨ (s.1 117 n4).toInt < j_.toInt + n_.toInt by omega)]
      rw [e_] at k
      dsimp only at k
      exact k _ _ (rC_R hC (by omega)) (mS_R _ _ _))
    (fun n2 h2 e3 n4 h5 e6 h7 h8 a1 b1 a2 h12 h13 e14 e15 e16 h17 h18 h19 => by
      subst e3
      subst e6
      subst e14
      subst e15
      subst e16
      have zzn2_1 := kS_e (hcS n2 (by omega)) (kS_o (hcS n2 (by omega)) (Decidable.not_not.mp h7))
      have z0n2 : 0 ≤ (s.1 117 n2).toInt := by have q_ := (kS_o (hcS n2 (by omega)) (Decidable.not_not.mp h7)); rw [nb_lt, nb_0] at q_; omega
      have zzn4_1 := kS_e (hcS n4 (by omega)) (kS_o (hcS n4 (by omega)) (Decidable.not_not.mp h8))
      have z0n4 : 0 ≤ (s.1 117 n4).toInt := by have q_ := (kS_o (hcS n4 (by omega)) (Decidable.not_not.mp h8)); rw [nb_lt, nb_0] at q_; omega
      rw [zzn2_1, hf_ z0n2, nI_toInt (by omega), nI_toInt (by omega)] at h18
      rw [zzn4_1, hf_ z0n4, nI_toInt (by omega), nI_toInt (by omega)] at h19
      have e_ : F_copy s (nI n2) (nI a1) (nI n4) (nI a2) (nI b1) = (1, (sCp s n2 a1 n4 a2 b1)) := by unfold F_copy; rw [ix_s (n := 8) h2]; dsimp only; rw [ix_s (n := 8) h5]; dsimp only; rw [nI_toInt (show a1 < 2147483648 by omega), nI_toInt (show a2 < 2147483648 by omega), nI_toInt (show b1 < 2147483648 by omega), if_neg (by omega), if_neg (kS_o (hcS n2 (by omega)) (Decidable.not_not.mp h7)), if_neg (kS_o (hcS n4 (by omega)) (Decidable.not_not.mp h8)), if_neg (by omega)]; rfl
      rw [e_] at k
      dsimp only at k
      exact k _ _ (rC_cp hC (by omega) (by omega) (kS_o (hcS n2 (by omega)) (Decidable.not_not.mp h7)) (kS_o (hcS n4 (by omega)) (Decidable.not_not.mp h8)) (by omega) (by omega)) (mS_up mS_rf (by omega)))
    (fun n2 h2 e3 n4 h5 e6 h7 h8 h9 h10 h11 => by
      subst e3
      subst e6
      have zzn2 := kS_e (hcS n2 (by omega)) (kS_o (hcS n2 (by omega)) (Decidable.not_not.mp h8))
      have z0n2 : 0 ≤ (s.1 117 n2).toInt := by have q_ := (kS_o (hcS n2 (by omega)) (Decidable.not_not.mp h8)); rw [nb_lt, nb_0] at q_; omega
      have zzn4 := kS_e (hcS n4 (by omega)) (kS_o (hcS n4 (by omega)) (Decidable.not_not.mp h9))
      have z0n4 : 0 ≤ (s.1 117 n4).toInt := by have q_ := (kS_o (hcS n4 (by omega)) (Decidable.not_not.mp h9)); rw [nb_lt, nb_0] at q_; omega
      rw [zzn2, hf_ z0n2] at h10
      rw [zzn4, hf_ z0n4] at h11
      have qn_ := h7
      rw [nb_le, nb_0] at qn_
      have e_ : F_copy s (nI n2) i_ (nI n4) j_ n_ = ((-3), (sM s 2)) := by simp only [F_copy, ix_s (n := 8) h2, ix_s (n := 8) h5, if_neg (show ¬ n_.toInt < 0 by have q_ := h7; rw [nb_le, nb_0] at q_; omega), if_neg (kS_o (hcS n2 (by omega)) (Decidable.not_not.mp h8)), if_neg (kS_o (hcS n4 (by omega)) (Decidable.not_not.mp h9)), if_pos (show i_.toInt < 0 ∨ j_.toInt < 0 ∨ (s.1 117 n2).toInt < i_.toInt + n_.toInt ∨ (s.1 117 n4).toInt < j_.toInt + n_.toInt by omega)]
      rw [e_] at k
      dsimp only at k
      exact k _ _ (rC_R hC (by omega)) (mS_R _ _ _))
    (fun n2 h2 e3 n4 h5 e6 h7 h8 h9 => by
      subst e3
      subst e6
      have e_ : F_copy s (nI n2) i_ (nI n4) j_ n_ = ((-3), (sM s 1)) := by simp only [F_copy, ix_s (n := 8) h2, ix_s (n := 8) h5, if_neg (show ¬ n_.toInt < 0 by have q_ := h7; rw [nb_le, nb_0] at q_; omega), if_neg (kS_o (hcS n2 (by omega)) (Decidable.not_not.mp h8)), if_pos (kS_m (hcS n4 (by omega)) h9)]
      rw [e_] at k
      dsimp only at k
      exact k _ _ (rC_R hC (by omega)) (mS_R _ _ _))
    (fun n2 h2 e3 n4 h5 e6 h7 => by
      subst e3
      subst e6
      have e_ : F_copy s (nI n2) i_ (nI n4) j_ n_ = ((-3), (sM s 5)) := by simp only [F_copy, ix_s (n := 8) h2, ix_s (n := 8) h5, if_pos (show n_.toInt < 0 by have q_ := h7; rw [nb_le, nb_0] at q_; omega)]
      rw [e_] at k
      dsimp only at k
      exact k _ _ (rC_R hC (by omega)) (mS_R _ _ _))
    (fun n2 h2 e3 h4 => by
      subst e3
      have e_ : F_copy s (nI n2) i_ t_ j_ n_ = ((-1), s) := by simp only [F_copy, ix_s (n := 8) h2, (show ix 8 t_ = none from (ix_n1 h4 ln_8))]
      rw [e_] at k
      dsimp only at k
      exact k _ _ hC mS_rf)
theorem M_copy {g : ma_G} {I : ma_I} {L : ma_L} {P : ma_P} (hW : wF (ob I L))  (s_ x_ t_ y_ n_ : Int32) (k : ∀ I2 L2, ob I2 L2 = (F_copy (ob I L) s_ x_ t_ y_ n_).2 → cS I L I2 L2 → P (some (.int (F_copy (ob I L) s_ x_ t_ y_ n_).1)) HS I2 L2 RF 146) : CT g yX8_copy cX8_copy 7 (some .int) rX8_copy [.ref 115, .int s_, .int x_, .int t_, .int y_, .int n_] P HS I L RF 146 := by
  exact t_X8_copy s_ x_ t_ y_ n_ (fun j hj => (hW.1 j hj).1)
    (fun h1 => by
      have e_ : F_copy (ob I L) s_ x_ t_ y_ n_ = ((-1), (ob I L)) := by simp only [F_copy, (show ix 8 s_ = none from (ix_n2 h1 li_8))]
      rw [e_] at k
      dsimp only at k
      exact k _ _ rfl cS_rf)
    (fun n2 h2 e3 n4 h5 e6 h7 h8 => by
      subst e3
      subst e6
      have e_ : F_copy (ob I L) (nI n2) x_ (nI n4) y_ n_ = ((-3), (sM (ob I L) 1)) := by simp only [F_copy, ix_s (n := 8) h2, ix_s (n := 8) h5, if_neg (show ¬ n_.toInt < 0 by have q_ := h7; rw [nb_le, nb_0] at q_; omega), if_pos (show (ob I L).1 117 n2 < 0 from h8)]
      rw [e_] at k
      dsimp only at k
      exact k _ _ (ob_M _ _ _) (cS_M _ _ _))
    (fun n2 h2 e3 n4 h5 e6 h7 h8 h9 h10 => by
      subst e3
      subst e6
      have qn_ := h7
      rw [nb_le, nb_0] at qn_
      rw [nb_lt, nb_0] at h10
      have e_ : F_copy (ob I L) (nI n2) x_ (nI n4) y_ n_ = ((-3), (sM (ob I L) 2)) := by simp only [F_copy, ix_s (n := 8) h2, ix_s (n := 8) h5, if_neg (show ¬ n_.toInt < 0 by have q_ := h7; rw [nb_le, nb_0] at q_; omega), if_neg (show ¬ (ob I L).1 117 n2 < 0 from h8), if_neg (kS_w (s := ob I L) h9), if_pos (show x_.toInt < 0 ∨ y_.toInt < 0 ∨ ((ob I L).1 117 n2).toInt < x_.toInt + n_.toInt ∨ ((ob I L).1 117 n4).toInt < y_.toInt + n_.toInt by show x_.toInt < 0 ∨ y_.toInt < 0 ∨ (I 117 n2).toInt < x_.toInt + n_.toInt ∨ (I 117 n4).toInt < y_.toInt + n_.toInt; omega)]
      rw [e_] at k
      dsimp only at k
      exact k _ _ (ob_M _ _ _) (cS_M _ _ _))
    (fun n2 h2 e3 n4 h5 e6 h7 h8 h9 h10 h11 => by
      subst e3
      subst e6
      have qn_ := h7
      rw [nb_le, nb_0] at qn_
      rw [nb_lt, nb_0] at h10
      rw [nb_lt, nb_0] at h11
      have e_ : F_copy (ob I L) (nI n2) x_ (nI n4) y_ n_ = ((-3), (sM (ob I L) 2)) := by simp only [F_copy, ix_s (n := 8) h2, ix_s (n := 8) h5, if_neg (show ¬ n_.toInt < 0 by have q_ := h7; rw [nb_le, nb_0] at q_; omega), if_neg (show ¬ (ob I L).1 117 n2 < 0 from h8), if_neg (kS_w (s := ob I L) h9), if_pos (show x_.toInt < 0 ∨ y_.toInt < 0 ∨ ((ob I L).1 117 n2).toInt < x_.toInt + n_.toInt ∨ ((ob I L).1 117 n4).toInt < y_.toInt + n_.toInt by show x_.toInt < 0 ∨ y_.toInt < 0 ∨ (I 117 n2).toInt < x_.toInt + n_.toInt ∨ (I 117 n4).toInt < y_.toInt + n_.toInt; omega)]
      rw [e_] at k
      dsimp only at k
      exact k _ _ (ob_M _ _ _) (cS_M _ _ _))
    (fun n2 h2 e3 n4 h5 e6 h7 h8 h9 h10 h11 h12 => by
      subst e3
      subst e6
      have qn_ := h7
      rw [nb_le, nb_0] at qn_
      rw [nb_lt, nb_0] at h10
      rw [nb_lt, nb_0] at h11
      rw [lf_lt] at h12
      have e_ : F_copy (ob I L) (nI n2) x_ (nI n4) y_ n_ = ((-3), (sM (ob I L) 2)) := by simp only [F_copy, ix_s (n := 8) h2, ix_s (n := 8) h5, if_neg (show ¬ n_.toInt < 0 by have q_ := h7; rw [nb_le, nb_0] at q_; omega), if_neg (show ¬ (ob I L).1 117 n2 < 0 from h8), if_neg (kS_w (s := ob I L) h9), if_pos (show x_.toInt < 0 ∨ y_.toInt < 0 ∨ ((ob I L).1 117 n2).toInt < x_.toInt + n_.toInt ∨ ((ob I L).1 117 n4).toInt < y_.toInt + n_.toInt by show x_.toInt < 0 ∨ y_.toInt < 0 ∨ (I 117 n2).toInt < x_.toInt + n_.toInt ∨ (I 117 n4).toInt < y_.toInt + n_.toInt; omega)]
      rw [e_] at k
      dsimp only at k
      exact k _ _ (ob_M _ _ _) (cS_M _ _ _))
    (fun n2 h2 e3 n4 h5 e6 h7 h8 a b c h12 h13 h14 h15 e16 e17 e18 => by
      subst e3
      subst e6
      subst e16
      subst e17
      subst e18
      have g1_ : ((a + c : Nat) : Int) ≤ ((ob I L).1 117 n2).toInt := h14
      have g2_ : ((b + c : Nat) : Int) ≤ ((ob I L).1 117 n4).toInt := h15
      have e_ : F_copy (ob I L) (nI n2) (nI a) (nI n4) (nI b) (nI c) = (1, (sCp (ob I L) n2 a n4 b c)) := by unfold F_copy; rw [ix_s (n := 8) h2]; dsimp only; rw [ix_s (n := 8) h5]; dsimp only; rw [nI_toInt (show a < 2147483648 by omega), nI_toInt (show b < 2147483648 by omega), nI_toInt (show c < 2147483648 by omega), if_neg (by omega), if_neg (show ¬ (ob I L).1 117 n2 < 0 from h7), if_neg (kS_w (s := ob I L) h8), if_neg (by omega)]; rfl
      rw [e_] at k
      dsimp only at k
      exact k _ _ (ob_cp _ _ _ _ _ _ _) (cS_up (cS_up cS_rf (by omega)) (by omega)))
    (fun n2 h2 e3 n4 h5 e6 h7 h8 h9 h10 h11 h12 h13 => by
      subst e3
      subst e6
      have qn_ := h7
      rw [nb_le, nb_0] at qn_
      rw [nb_lt, nb_0] at h10
      rw [nb_lt, nb_0] at h11
      rw [lf_lt] at h12
      rw [lf_le] at h13
      have e_ : F_copy (ob I L) (nI n2) x_ (nI n4) y_ n_ = ((-3), (sM (ob I L) 2)) := by simp only [F_copy, ix_s (n := 8) h2, ix_s (n := 8) h5, if_neg (show ¬ n_.toInt < 0 by have q_ := h7; rw [nb_le, nb_0] at q_; omega), if_neg (show ¬ (ob I L).1 117 n2 < 0 from h8), if_neg (kS_w (s := ob I L) h9), if_pos (show x_.toInt < 0 ∨ y_.toInt < 0 ∨ ((ob I L).1 117 n2).toInt < x_.toInt + n_.toInt ∨ ((ob I L).1 117 n4).toInt < y_.toInt + n_.toInt by show x_.toInt < 0 ∨ y_.toInt < 0 ∨ (I 117 n2).toInt < x_.toInt + n_.toInt ∨ (I 117 n4).toInt < y_.toInt + n_.toInt; omega)]
      rw [e_] at k
      dsimp only at k
      exact k _ _ (ob_M _ _ _) (cS_M _ _ _))
    (fun n2 h2 e3 n4 h5 e6 h7 h8 h9 => by
      subst e3
      subst e6
      have e_ : F_copy (ob I L) (nI n2) x_ (nI n4) y_ n_ = ((-3), (sM (ob I L) 1)) := by simp only [F_copy, ix_s (n := 8) h2, ix_s (n := 8) h5, if_neg (show ¬ n_.toInt < 0 by have q_ := h7; rw [nb_le, nb_0] at q_; omega), if_neg (show ¬ (ob I L).1 117 n2 < 0 from h8), if_pos (kS_y (s := ob I L) h9)]
      rw [e_] at k
      dsimp only at k
      exact k _ _ (ob_M _ _ _) (cS_M _ _ _))
    (fun n2 h2 e3 n4 h5 e6 h7 => by
      subst e3
      subst e6
      have e_ : F_copy (ob I L) (nI n2) x_ (nI n4) y_ n_ = ((-3), (sM (ob I L) 5)) := by simp only [F_copy, ix_s (n := 8) h2, ix_s (n := 8) h5, if_pos (show n_.toInt < 0 by have q_ := h7; rw [nb_le, nb_0] at q_; omega)]
      rw [e_] at k
      dsimp only at k
      exact k _ _ (ob_M _ _ _) (cS_M _ _ _))
    (fun n2 h2 e3 h4 => by
      subst e3
      have e_ : F_copy (ob I L) (nI n2) x_ t_ y_ n_ = ((-1), (ob I L)) := by simp only [F_copy, ix_s (n := 8) h2, (show ix 8 t_ = none from (ix_n2 h4 li_8))]
      rw [e_] at k
      dsimp only at k
      exact k _ _ rfl cS_rf)
theorem p_copy {g : ma_G} {I : ma_I} {L : ma_L} {P1 : ma_P} (hI : INV I L) (a1 a2 a3 a4 a5 : Int32) (k : ∀ (r : Int32) (I1 : ma_I) (L1 : ma_L), (∀ {P2 : ma_P}, (∀ (I2 : ma_I) (L2 : ma_L), INV I2 L2 → P2 (some (.int r)) HS I2 L2 RF 146) → CT g yX8_copy cX8_copy 7 (some .int) rX8_copy [.ref 115, .int a1, .int a2, .int a3, .int a4, .int a5] P2 HS I1 L1 RF 146) → P1 (some (.int r)) HS I1 L1 RF 146) : CT g yX7_copy cX7_copy 8 (some .int) rX7_copy [.ref 3, .int a1, .int a2, .int a3, .int a4, .int a5] P1 HS I L RF 146 :=
  pair_i (F := F_copy (ob I L) a1 a2 a3 a4 a5) hI (W_copy hI.1 a1 a2 a3 a4 a5) (fun P kk => C_copy hI.1 hI.2 a1 a2 a3 a4 a5 kk) (fun I1 L1 P e kk => M_copy (by rw [e]; exact hI.1)  a1 a2 a3 a4 a5 (by rw [e]; exact kk)) k
theorem ix_sy {z i : Int32} (h1 : z.toInt ≤ 100) (h : ¬ ((¬ i < 0) ∧ (¬ (z - 1) < i))) : ix z.toInt.toNat i = none := by
  by_cases q : z < 0
  · exact ix_no (fun w => by rw [nb_lt, nb_0] at q; omega)
  · exact ix_sz q h
theorem min_t (m : Nat) : (nI (min m 100)).toInt.toNat = min m 100 := by rw [nI_toInt (by omega)]; rfl
def F_place (s : sG) (i k : Int32) : Int32 × sG := match ix 3 k with
  | none => (-1, s)
  | some w => match ix (s.1 115 45).toInt.toNat i with
    | none => (-9, s)
    | some m => (1, sA s (s.1 148 (3 * m + w)))
theorem kK {s : sG} {I : ma_I} {L : ma_L} (h : rC s I L) : 0 ≤ (s.1 115 45).toInt ∧ (s.1 115 45).toInt ≤ 100 := by
  obtain ⟨m, _, _, e, _⟩ := h.2.2.2.1
  rw [e, nI_toInt (by omega)]
  omega
theorem W_place {s : sG} (h : wF s) (a1 a2 : Int32) : wF (F_place s a1 a2).2 := by
  unfold F_place
  repeat' split
  all_goals with_reducible first | exact h | exact wF_M h _ | exact wF_A h _ | exact gG_w h (by assumption) | exact gS_w h (by assumption) | exact gP_w h (by assumption)
theorem C_place {g : ma_G} {I : ma_I} {L : ma_L} {P : ma_P} {s : sG} (hW : wF s) (hC : rC s I L) (i_ k_ : Int32) (k : ∀ I1 L1, rC (F_place s i_ k_).2 I1 L1 → mS I L I1 L1 → P (some (.int (F_place s i_ k_).1)) HS I1 L1 RF 146) : CT g yX7_place cX7_place 3 (some .int) rX7_place [.ref 3, .int i_, .int k_] P HS I L RF 146 := by
  obtain ⟨hcM, hcN, hcF, hcK, hcT, hcS, hcG⟩ := id hC
  exact t_X7_place i_ k_ 
    (fun h1 => by
      have e_ : F_place s i_ k_ = ((-1), s) := by simp only [F_place, (show ix 3 k_ = none from (ix_lt h1))]
      rw [e_] at k
      dsimp only at k
      exact k _ _ hC mS_rf)
    (fun h1 h2 h3 => by
      obtain ⟨zk_, bzk_, qzk_⟩ := ix_ol h1 h2 li_3
      subst qzk_
      obtain ⟨m0, b0, f0, e0, g0⟩ := hcK
      have e_ : F_place s i_ (nI zk_) = ((-9), s) := by simp only [F_place, ix_s (n := 3) bzk_, ix_lt (n := (s.1 115 45).toInt.toNat) h3]
      rw [e_] at k
      dsimp only at k
      exact k _ _ hC mS_rf)
    (fun h1 h2 h3 h4 => by
      obtain ⟨zk_, bzk_, qzk_⟩ := ix_ol h1 h2 li_3
      subst qzk_
      obtain ⟨m0, b0, f0, e0, g0⟩ := hcK
      have e_ : F_place s i_ (nI zk_) = ((-9), s) := by simp only [F_place, ix_s (n := 3) bzk_, (show ix (s.1 115 45).toInt.toNat i_ = none by rw [e0, min_t]; exact ix_no (fun w => by have q_ := h4; rw [nb_le] at q_; have z_ : (100 : Int32).toInt = 100 := (by decide); omega))]
      rw [e_] at k
      dsimp only at k
      exact k _ _ hC mS_rf)
    (fun n6 h2 h3 e4 h5 n7 h7 h8 e9 => by
      subst e4
      subst e9
      obtain ⟨m0, b0, f0, e0, g0⟩ := hcK
      have q_ := h5
      rw [f0] at q_
      have q2_ : n6 < m0 := by rw [nb_lt, nI_toInt (by omega), nI_toInt (by omega)] at q_; omega
      have e_ : F_place s (nI n6) (nI n7) = (1, (sA s (s.1 148 (3 * n6 + n7)))) := by simp only [F_place, ix_s (n := 3) h8, (show ix (s.1 115 45).toInt.toNat (nI n6) = some n6 by rw [e0, min_t]; exact ix_s (by omega))]
      rw [e_] at k
      dsimp only at k
      exact k _ _ (rC_A hC (g0 _ (by omega))) (mS_up mS_rf (by omega)))
    (fun h1 h2 h3 h4 h5 => by
      obtain ⟨zk_, bzk_, qzk_⟩ := ix_ol h1 h2 li_3
      subst qzk_
      obtain ⟨m0, b0, f0, e0, g0⟩ := hcK
      have e_ : F_place s i_ (nI zk_) = ((-9), s) := by simp only [F_place, ix_s (n := 3) bzk_, (show ix (s.1 115 45).toInt.toNat i_ = none by rw [e0, min_t]; exact ix_no (fun w => by have q_ := h5; rw [f0, nb_lt, nI_toInt (by omega)] at q_; omega))]
      rw [e_] at k
      dsimp only at k
      exact k _ _ hC mS_rf)
    (fun h1 h2 => by
      have e_ : F_place s i_ k_ = ((-1), s) := by simp only [F_place, (show ix 3 k_ = none from (ix_gt h2 li_3))]
      rw [e_] at k
      dsimp only at k
      exact k _ _ hC mS_rf)
theorem M_place {g : ma_G} {I : ma_I} {L : ma_L} {P : ma_P} (hW : wF (ob I L)) (hkk : 0 ≤ ((ob I L).1 115 45).toInt ∧ ((ob I L).1 115 45).toInt ≤ 100) (i_ w_ : Int32) (k : ∀ I2 L2, ob I2 L2 = (F_place (ob I L) i_ w_).2 → cS I L I2 L2 → P (some (.int (F_place (ob I L) i_ w_).1)) HS I2 L2 RF 146) : CT g yX8_place cX8_place 3 (some .int) rX8_place [.ref 115, .int i_, .int w_] P HS I L RF 146 := by
  exact t_X8_place i_ w_ hkk
    (fun n2 h2 e3 h4 => by
      subst e3
      have e_ : F_place (ob I L) i_ (nI n2) = ((-9), (ob I L)) := by simp only [F_place, ix_s (n := 3) h2, (show ix ((ob I L).1 115 45).toInt.toNat i_ = none from ix_sy hkk.2 h4)]
      rw [e_] at k
      dsimp only at k
      exact k _ _ rfl cS_rf)
    (fun n2 h2 e3 m h5 h6 e7 => by
      subst e3
      subst e7
      have e_ : F_place (ob I L) (nI m) (nI n2) = (1, (sA (ob I L) ((ob I L).1 148 (3 * m + n2)))) := by simp only [F_place, ix_s (n := 3) h2, (show ix ((ob I L).1 115 45).toInt.toNat (nI m) = some m from ix_sm h6)]
      rw [e_] at k
      dsimp only at k
      exact k _ _ (ob_A _ _ _) (cS_up cS_rf (by omega)))
    (fun h1 => by
      have e_ : F_place (ob I L) i_ w_ = ((-1), (ob I L)) := by simp only [F_place, (show ix 3 w_ = none from (ix_n2 h1 li_3))]
      rw [e_] at k
      dsimp only at k
      exact k _ _ rfl cS_rf)
theorem p_place {g : ma_G} {I : ma_I} {L : ma_L} {P1 : ma_P} (hI : INV I L) (a1 a2 : Int32) (k : ∀ (r : Int32) (I1 : ma_I) (L1 : ma_L), (∀ {P2 : ma_P}, (∀ (I2 : ma_I) (L2 : ma_L), INV I2 L2 → P2 (some (.int r)) HS I2 L2 RF 146) → CT g yX8_place cX8_place 3 (some .int) rX8_place [.ref 115, .int a1, .int a2] P2 HS I1 L1 RF 146) → P1 (some (.int r)) HS I1 L1 RF 146) : CT g yX7_place cX7_place 3 (some .int) rX7_place [.ref 3, .int a1, .int a2] P1 HS I L RF 146 :=
  pair_i (F := F_place (ob I L) a1 a2) hI (W_place hI.1 a1 a2) (fun P kk => C_place hI.1 hI.2 a1 a2 kk) (fun I1 L1 P e kk => M_place (by rw [e]; exact hI.1) (by rw [e]; exact kK hI.2) a1 a2 (by rw [e]; exact kk)) k
theorem dgR_c {I J : ma_I} {x y : Nat} (d : Int64) : ∀ n, (∀ j, j < n → J 118 (16 * x + j) = I y j) → dgR J x d n = cAd (I y) n d
  | 0, _ => rfl
  | n + 1, h => by
    show 31 * dgR J x d n + Int32.toInt64 (J 118 (16 * x + n)) = 31 * cAd (I y) n d + Int32.toInt64 (I y n)
    rw [dgR_c d n (fun j hj => h j (by omega)), h n (by omega)]
theorem dgR_o {I : ma_I} {x : Nat} (d : Int64) : ∀ n, dgR (oI I) x d n = dgR I x d n
  | 0 => rfl
  | n + 1 => by
    show 31 * dgR (oI I) x d n + Int32.toInt64 (oI I 118 (16 * x + n)) = 31 * dgR I x d n + Int32.toInt64 (I 118 (16 * x + n))
    rw [dgR_o d n]; rfl
theorem dgS_o {I : ma_I} (d : Int64) : ∀ n, dgS (oI I) d n = dgS I d n
  | 0 => rfl
  | n + 1 => by
    show dgR (oI I) n ((31 * dgS (oI I) d n) + (Int32.toInt64 (if 0 ≤ oI I 117 n then oI I 117 n else (-1)))) (oI I 117 n).toInt.toNat = _
    rw [dgS_o d n, dgR_o]; rfl
theorem dgG_o {I : ma_I} : ∀ n, dgG (oI I) n = dgG I n
  | 0 => rfl
  | n + 1 => by
    unfold dgG
    rw [dgG_o n]; rfl
theorem m1_ : Int32.toInt64 (-1) = -1 := by decide
theorem cDg_s {s : sG} {I : ma_I} {L : ma_L} (h : ∀ g, g < 12 → rcG s I L g) : ∀ n, n ≤ 12 → cDg I L n = dgG s.1 n
  | 0, _ => rfl
  | n + 1, hn => by
    have r := h n (by omega)
    have ih := cDg_s h n (by omega)
    unfold cDg dgG
    by_cases q : I (55 + 5 * n) 0 = 0
    · rw [if_pos q, if_pos (kG_m r q), ih, m1_, Int64.sub_eq_add_neg]
    · rw [if_neg q, if_neg (kG_o r q), ih]
      unfold cGa
      rw [r.2.1 0 (by omega), r.2.1 1 (by omega), r.2.1 2 (by omega), r.2.1 3 (by omega), r.2.1 5 (by omega), r.2.1 6 (by omega), r.2.1 7 (by omega), r.2.1 10 (by omega), r.2.1 11 (by omega), r.2.1 15 (by omega), r.2.2 0 (by omega), r.2.2 1 (by omega), r.2.2 2 (by omega), r.2.2 3 (by omega), r.2.2 4 (by omega), r.2.2 5 (by omega), r.2.2 6 (by omega), r.2.2 7 (by omega), r.2.2 8 (by omega), r.2.2 9 (by omega)]
      rfl
theorem cDs_s {s : sG} {I : ma_I} (hW : wF s) (h : ∀ x, x < 8 → rcS s I x) (d : Int64) : ∀ n, n ≤ 8 → cDs I d n = dgS s.1 d n
  | 0, _ => rfl
  | n + 1, hn => by
    have r := h n (by omega)
    have ih := cDs_s hW h d n (by omega)
    unfold cDs dgS
    by_cases q : s.1 117 n < 0
    · have e := r.1 q
      rw [e, if_pos (by decide), ih, if_neg (by rw [nb_le]; rw [nb_lt] at q; omega), show (s.1 117 n).toInt.toNat = 0 by rw [nb_lt, nb_0] at q; omega]
      rfl
    · have e := kS_e r q
      have hz := (hW.1 n (by omega)).1
      rw [e, ih, if_pos (kS_z q)]
      by_cases q2 : s.1 117 n ≤ 0
      · rw [if_pos q2, show (s.1 117 n).toInt.toNat = 0 by rw [nb_le, nb_0] at q2; omega]
        rfl
      · rw [if_neg q2]
        exact (dgR_c (I := I) (J := s.1) (x := n) (y := 40 + 2 * n) _ _ (fun j hj => (kS_r r q j (by omega)).symm)).symm
def F_digest (s : sG) : Int64 × sG := (dgS s.1 (dgG s.1 12) 8, s)
theorem W_digest {s : sG} (h : wF s) : wF (F_digest s).2 := h
theorem C_digest {g : ma_G} {I : ma_I} {L : ma_L} {P : ma_P} {s : sG} (hW : wF s) (hC : rC s I L) (k : ∀ I1 L1, rC (F_digest s ).2 I1 L1 → mS I L I1 L1 → P (some (.long (F_digest s ).1)) HS I1 L1 RF 146) : CT g yX7_digest cX7_digest 4 (some .long) rX7_digest [.ref 3] P HS I L RF 146 := by
  obtain ⟨hcM, hcN, hcF, hcK, hcT, hcS, hcG⟩ := id hC
  exact t_X7_digest  (kZ hW hcS)
    (by
      have e_ : cDs I (cDg I L 12) 8 = (F_digest s).1 := by rw [cDg_s hcG 12 (by omega), cDs_s hW hcS _ 8 (by omega)]; rfl
      rw [e_]
      exact k _ _ hC mS_rf)
theorem M_digest {g : ma_G} {I : ma_I} {L : ma_L} {P : ma_P} (hW : wF (ob I L))  (k : ∀ I2 L2, ob I2 L2 = (F_digest (ob I L) ).2 → cS I L I2 L2 → P (some (.long (F_digest (ob I L) ).1)) HS I2 L2 RF 146) : CT g yX8_digest cX8_digest 3 (some .long) rX8_digest [.ref 115] P HS I L RF 146 := by
  exact t_X8_digest  (fun j hj => (hW.1 j hj).1)
    (by
      have e_ : dgS I (dgG I 12) 8 = (F_digest (ob I L)).1 := by rw [← dgG_o, ← dgS_o]; rfl
      rw [e_]
      exact k _ _ (by unfold ob; rw [oL_s (K := mH L _) (L := L) (by unfold mH; rw [ma_up_n _ _ (by decide)]) (fun j hj => by unfold mH; rw [ma_up_s, ma_up_n _ _ (fun q => by rw [q] at hj; cases hj)])]; rfl) (cS_ul cS_rf (by omega)))
theorem p_digest {g : ma_G} {I : ma_I} {L : ma_L} {P1 : ma_P} (hI : INV I L) (k : ∀ (r : Int64) (I1 : ma_I) (L1 : ma_L), (∀ {P2 : ma_P}, (∀ (I2 : ma_I) (L2 : ma_L), INV I2 L2 → P2 (some (.long r)) HS I2 L2 RF 146) → CT g yX8_digest cX8_digest 3 (some .long) rX8_digest [.ref 115] P2 HS I1 L1 RF 146) → P1 (some (.long r)) HS I1 L1 RF 146) : CT g yX7_digest cX7_digest 4 (some .long) rX7_digest [.ref 3] P1 HS I L RF 146 :=
  pair_l (F := F_digest (ob I L) ) hI (W_digest hI.1 ) (fun P kk => C_digest hI.1 hI.2  kk) (fun I1 L1 P e kk => M_digest (by rw [e]; exact hI.1)   (by rw [e]; exact kk)) k
