abbrev cS2 : Type := Nat × (Nat → Int32)
def cNe3 (p a b c : Nat) : Prop := p ≠ a ∧ p ≠ b ∧ p ≠ c
theorem cNe_1 {p a b c : Nat} (h : cNe3 p a b c) : p ≠ a := And.left h
theorem cNe_2 {p a b c : Nat} (h : cNe3 p a b c) : p ≠ b := And.left (And.right h)
theorem cNe_3 {p a b c : Nat} (h : cNe3 p a b c) : p ≠ c := And.right (And.right h)
def cOt (t : Nat → Int64) (x y z : Int32) : Int64 := cLv t (Int32.toInt64 x) (Int32.toInt64 y) + (Int32.toInt64 z) * (cSl t (Int32.toInt64 x) (Int32.toInt64 y) + (t 10) * (Int32.toInt64 z))
def cKs (t u v : Nat → Int64) (x y z : Int32) (s : cS2) : cS2 := if cOt t x y z = 0 ∧ cOt u x y z = 0 ∧ cOt v x y z = 0 then (s.1 + 1, cKp s.2 s.1 x y z) else s
def cKz (t u v : Nat → Int64) (n : Nat) (x y : Int32) : Nat → cS2 → cS2
  | 0, s => s
  | l + 1, s => cKs t u v x y (nI l - nI n) (cKz t u v n x y l s)
def cKy (t u v : Nat → Int64) (n : Nat) (x : Int32) : Nat → cS2 → cS2
  | 0, s => s
  | l + 1, s => cKz t u v n x (nI l - nI n) (2 * n + 1) (cKy t u v n x l s)
def cKx (t u v : Nat → Int64) (n : Nat) : Nat → cS2 → cS2
  | 0, s => s
  | l + 1, s => cKy t u v n (nI l - nI n) (2 * n + 1) (cKx t u v n l s)
theorem tl_4 (K : ma_L) (a b : Nat) (x y : Int64) : cTl K a b x y a 4 = cLv (K b) x y := by unfold cTl; rw [ma_up_s]; rfl
theorem tl_5 (K : ma_L) (a b : Nat) (x y : Int64) : cTl K a b x y a 5 = cSl (K b) x y := by unfold cTl; rw [ma_up_s]; rfl
theorem tl_n (K : ma_L) {a b r : Nat} (x y : Int64) (h : r ≠ a) : cTl K a b x y r = K r := by unfold cTl; rw [ma_up_n _ _ h]
theorem tl_3 {L K0 : ma_L} {a b c p q r : Nat} (x y : Int64) (hK : ∀ i, i ≠ a → i ≠ b → i ≠ c → K0 i = L i) (hp : p ≠ a ∧ p ≠ b ∧ p ≠ c) (hq : q ≠ a ∧ q ≠ b ∧ q ≠ c) (hr : r ≠ a ∧ r ≠ b ∧ r ≠ c) (e1 : a = b → p = q) (e2 : a = c → p = r) (e3 : b = c → q = r) {K : ma_L} (e : K = cTl (cTl (cTl K0 a p x y) b q x y) c r x y) :
    (∀ i, i ≠ a → i ≠ b → i ≠ c → K i = L i) ∧ (K a 4 = cLv (L p) x y ∧ K a 5 = cSl (L p) x y) ∧ (K b 4 = cLv (L q) x y ∧ K b 5 = cSl (L q) x y) ∧ (K c 4 = cLv (L r) x y ∧ K c 5 = cSl (L r) x y) := by
  have k1p : K0 p = L p := hK p hp.1 hp.2.1 hp.2.2
  have k2q : cTl K0 a p x y q = L q := by rw [tl_n _ _ _ hq.1, hK q hq.1 hq.2.1 hq.2.2]
  have k3r : cTl (cTl K0 a p x y) b q x y r = L r := by rw [tl_n _ _ _ hr.2.1, tl_n _ _ _ hr.1, hK r hr.1 hr.2.1 hr.2.2]
  subst e
  refine ⟨fun i h1 h2 h3 => by rw [tl_n _ _ _ h3, tl_n _ _ _ h2, tl_n _ _ _ h1, hK i h1 h2 h3], ?_, ?_, ⟨by rw [tl_4, k3r], by rw [tl_5, k3r]⟩⟩
  · by_cases h : a = c
    · have := e2 h
      subst h; subst this
      exact ⟨by rw [tl_4, k3r], by rw [tl_5, k3r]⟩
    · rw [tl_n _ _ _ h]
      by_cases h2 : a = b
      · have := e1 h2
        subst h2; subst this
        exact ⟨by rw [tl_4, k2q], by rw [tl_5, k2q]⟩
      · rw [tl_n _ _ _ h2]
        exact ⟨by rw [tl_4, k1p], by rw [tl_5, k1p]⟩
  · by_cases h : b = c
    · have := e3 h
      subst h; subst this
      exact ⟨by rw [tl_4, k3r], by rw [tl_5, k3r]⟩
    · rw [tl_n _ _ _ h]
      exact ⟨by rw [tl_4, k2q], by rw [tl_5, k2q]⟩
theorem sk_0 (I : ma_I) (x : Int32) : ma_up I 32 (ma_up (I 32) 1 x) = ma_up (ma_up I 32 (ma_up (I 32) 1 x)) 33 (I 33) := by
  rw [show I 33 = (ma_up I 32 (ma_up (I 32) 1 x)) 33 from rfl, ma_up_self]
theorem sk_L (I : ma_I) (x y : Int32) (P Q : Nat → Int32) : ma_up (ma_up (ma_up (ma_up I 32 (ma_up (I 32) 1 x)) 33 P) 33 Q) 32 (ma_up (ma_up (I 32) 1 x) 1 y) = ma_up (ma_up I 32 (ma_up (I 32) 1 y)) 33 Q := by
  rw [ma_up_up, ma_up_comm _ (show 32 ≠ 33 by decide), ma_up_up, ma_up_up]
theorem sk_G (I : ma_I) (x y : Int32) (P : Nat → Int32) : ma_up (ma_up (ma_up I 32 (ma_up (I 32) 1 x)) 33 P) 32 (ma_up (ma_up (I 32) 1 x) 1 y) = ma_up (ma_up I 32 (ma_up (I 32) 1 y)) 33 P := by
  rw [ma_up_comm _ (show 32 ≠ 33 by decide), ma_up_up, ma_up_up]
set_option maxRecDepth 4000 in
theorem t_X2_seek {g : ma_G} {Post : ma_P} {I : ma_I} {L : ma_L}  (o1 : Nat) (o2 : Nat) (o3 : Nat) (n : Nat) (d1 : Nat) (ho1 : HS o1 = (4, 6)) (hro1 : RF o1 0 = d1) (hd1 : HS d1 = (10, 16)) (d2 : Nat) (ho2 : HS o2 = (4, 6)) (hro2 : RF o2 0 = d2) (hd2 : HS d2 = (10, 16)) (d3 : Nat) (ho3 : HS o3 = (4, 6)) (hro3 : RF o3 0 = d3) (hd3 : HS d3 = (10, 16)) (hp : cNe3 d1 o1 o2 o3) (hq : cNe3 d2 o1 o2 o3) (hr : cNe3 d3 o1 o2 o3) (q12 : o1 = o2 → d1 = d2) (q13 : o1 = o3 → d1 = d3) (q23 : o2 = o3 → d2 = d3) (hn : n < 11) (k0 : ∀ (m : Nat) (P : Nat → Int32) (K : ma_L), m ≤ 9261 → (∀ x, x ≠ o1 → x ≠ o2 → x ≠ o3 → K x = L x) → (m, P) = cKx (L d1) (L d2) (L d3) n (2 * n + 1) (0, I 33) → Post (some (.int (nI m))) HS (ma_up (ma_up I 32 (ma_up (I 32) 1 (nI m))) 33 P) K RF 146) : CT g yX2_seek cX2_seek 8 (some .int) rX2_seek [.ref 32, .ref o1, .ref o2, .ref o3, .int (nI n)] Post HS I L RF 146 := by
  refine ct_of (lv := [some (.ref 32), some (.ref o1), some (.ref o2), some (.ref o3), some (.int (nI n)), none, none, none]) (by decide) (Nat.le_of_ble_eq_true rfl) rfl ?_
  refine ev_aload_n (pc' := 1) (i := 0) dX2_seek_0 rfl rfl rfl ?_
  refine ev_iconst (pc' := 2) (v := 0) dX2_seek_1 rfl ki_0 ?_
  refine ev_putI (pc' := 5) (I' := (ma_up I 32 (ma_up (I 32) 1 0))) fo_X2_15 dX2_seek_2 rfl hs_32 rfl (fun r hr => by cases hr; rfl) ⟨rfl, rfl⟩ rfl ?_
  refine ev_iload (pc' := 7) dX2_seek_5 rfl rfl ?_
  refine ev_ineg (pc' := 8) (v := -(nI n)) dX2_seek_7 rfl rfl ?_
  refine ev_istore (pc' := 10) (lv' := [some (.ref 32), some (.ref o1), some (.ref o2), some (.ref o3), some (.int (nI n)), some (.int (-(nI n))), none, none]) dX2_seek_8 rfl (Nat.le_of_ble_eq_true rfl) rfl rfl ?_
  suffices la : ∀ (ya i ma : Nat) (Pa : Nat → Int32) (Ka : ma_L), i + ya = 2 * n + 1 → ma ≤ 441 * i → (∀ x, x ≠ o1 → x ≠ o2 → x ≠ o3 → Ka x = L x) → (ma, Pa) = cKx (L d1) (L d2) (L d3) n i (0, I 33) → EV g yX2_seek cX2_seek 8 (some .int) rX2_seek (ma_ZM g rX2_seek Post) 10 [some (.ref 32), some (.ref o1), some (.ref o2), some (.ref o3), some (.int (nI n)), some (.int (nI i - nI n)), none, none] [] HS (ma_up (ma_up I 32 (ma_up (I 32) 1 (nI ma))) 33 Pa) Ka RF 146 0 0 by
    refine ev_memI (fun z hz => ?_)
    rw [sk_0] at hz
    subst hz
    rw [mvc_0]
    exact la (2 * n + 1) 0 0 (I 33) L (by omega) (by omega) (fun _ _ _ _ => rfl) rfl
  intro ya
  induction ya with
  | zero =>
    intro i ma Pa Ka hia hma hKa hsa
    have hia : i = 2 * n + 1 := by omega
    rw [hia] at hsa
    refine ev_iload (pc' := 12) dX2_seek_10 rfl rfl ?_
    refine ev_iload (pc' := 14) dX2_seek_12 rfl rfl ?_
    refine ev_icmp_gt (tgt := 129) (pc' := 17) dX2_seek_14 rfl rfl (fun _ => ?_) (fun h => absurd (mvc_gt hia (by omega)) h)
    refine ev_aload_n (pc' := 130) (i := 0) dX2_seek_129 rfl rfl rfl ?_
    refine ev_getI (pc' := 133) (v := nI ma) fo_X2_15 dX2_seek_130 rfl hs_32 rfl rfl ?_
    refine ev_iret dX2_seek_133 rfl rfl ⟨Nat.le_refl _, Nat.le_refl _⟩ ?_
    exact k0 _ _ _ (by omega) hKa hsa
  | succ ya iha =>
    intro i ma Pa Ka hia hma hKa hsa
    refine ev_iload (pc' := 12) dX2_seek_10 rfl rfl ?_
    refine ev_iload (pc' := 14) dX2_seek_12 rfl rfl ?_
    refine ev_icmp_gt (tgt := 129) (pc' := 17) dX2_seek_14 rfl rfl (fun h => absurd h (mvc_le (by omega) (by omega))) (fun _ => ?_)
    refine ev_iload (pc' := 19) dX2_seek_17 rfl rfl ?_
    refine ev_ineg (pc' := 20) (v := -(nI n)) dX2_seek_19 rfl rfl ?_
    refine ev_istore (pc' := 22) (lv' := [some (.ref 32), some (.ref o1), some (.ref o2), some (.ref o3), some (.int (nI n)), some (.int (nI i - nI n)), some (.int (-(nI n))), none]) dX2_seek_20 rfl (Nat.le_of_ble_eq_true rfl) rfl rfl ?_
    suffices lb : ∀ (yb j mb : Nat) (Pb : Nat → Int32) (Kb : ma_L), j + yb = 2 * n + 1 → mb ≤ 441 * i + 21 * j → (∀ x, x ≠ o1 → x ≠ o2 → x ≠ o3 → Kb x = L x) → (mb, Pb) = cKy (L d1) (L d2) (L d3) n (nI i - nI n) j (ma, Pa) → EV g yX2_seek cX2_seek 8 (some .int) rX2_seek (ma_ZM g rX2_seek Post) 22 [some (.ref 32), some (.ref o1), some (.ref o2), some (.ref o3), some (.int (nI n)), some (.int (nI i - nI n)), some (.int (nI j - nI n)), none] [] HS (ma_up (ma_up I 32 (ma_up (I 32) 1 (nI mb))) 33 Pb) Kb RF 146 0 0 by
      rw [mvc_0]
      exact lb (2 * n + 1) 0 ma Pa Ka (by omega) (by omega) hKa rfl
    intro yb
    induction yb with
    | zero =>
      intro j mb Pb Kb hib hmb hKb hsb
      have hib : j = 2 * n + 1 := by omega
      rw [hib] at hsb
      refine ev_iload (pc' := 24) dX2_seek_22 rfl rfl ?_
      refine ev_iload (pc' := 26) dX2_seek_24 rfl rfl ?_
      refine ev_icmp_gt (tgt := 123) (pc' := 29) dX2_seek_26 rfl rfl (fun _ => ?_) (fun h => absurd (mvc_gt hib (by omega)) h)
      refine ev_iinc (pc' := 126) (v := (nI i - nI n) + 1) (lv' := [some (.ref 32), some (.ref o1), some (.ref o2), some (.ref o3), some (.int (nI n)), some (.int ((nI i - nI n) + 1)), some (.int (nI j - nI n)), none]) dX2_seek_123 rfl rfl rfl (Nat.le_of_ble_eq_true rfl) rfl rfl ?_
      refine ev_goto (tgt := 10) dX2_seek_126 rfl ?_
      refine ev_lvw (lv' := [some (.ref 32), some (.ref o1), some (.ref o2), some (.ref o3), some (.int (nI n)), some (.int ((nI i - nI n) + 1)), none, none]) ⟨rfl, ⟨rfl, ⟨rfl, ⟨rfl, ⟨rfl, ⟨rfl, trivial⟩⟩⟩⟩⟩⟩ ?_
      rw [mvc_s]
      exact iha (i + 1) _ _ _ (by omega) (by omega) hKb (by show _ = cKy _ _ _ _ _ _ _; rw [← hsa]; exact hsb)
    | succ yb ihb =>
      intro j mb Pb Kb hib hmb hKb hsb
      refine ev_iload (pc' := 24) dX2_seek_22 rfl rfl ?_
      refine ev_iload (pc' := 26) dX2_seek_24 rfl rfl ?_
      refine ev_icmp_gt (tgt := 123) (pc' := 29) dX2_seek_26 rfl rfl (fun h => absurd h (mvc_le (by omega) (by omega))) (fun _ => ?_)
      refine ev_aload_n (pc' := 30) (i := 1) dX2_seek_29 rfl rfl rfl ?_
      refine ev_iload (pc' := 32) dX2_seek_30 rfl rfl ?_
      refine ev_i2l (pc' := 33) (v := Int32.toInt64 (nI i - nI n)) dX2_seek_32 rfl rfl ?_
      refine ev_iload (pc' := 35) dX2_seek_33 rfl rfl ?_
      refine ev_i2l (pc' := 36) (v := Int32.toInt64 (nI j - nI n)) dX2_seek_35 rfl rfl ?_
      refine ev_callV (pc' := 39) (rm' := rX4_tellAlong) (b := o1) (av := [.long (Int32.toInt64 (nI i - nI n)), .long (Int32.toInt64 (nI j - nI n))]) (rest := []) co_X2_19 ci_X4_tellAlong cv_X4_tellAlong dX2_seek_36 rfl ho1 hb_X4 rfl rfl (Nat.le_of_ble_eq_true rfl) ⟨(Nat.le_of_ble_eq_true rfl), (Nat.le_of_ble_eq_true rfl)⟩ ⟨(Nat.le_of_ble_eq_true rfl), (Nat.le_of_ble_eq_true rfl)⟩ ?_
      refine t_X4_tellAlong o1 d1 ho1 hro1 hd1 (Int32.toInt64 (nI i - nI n)) (Int32.toInt64 (nI j - nI n)) (cNe_1 hp) ?_
      refine ev_aload_n (pc' := 40) (i := 2) dX2_seek_39 rfl rfl rfl ?_
      refine ev_iload (pc' := 42) dX2_seek_40 rfl rfl ?_
      refine ev_i2l (pc' := 43) (v := Int32.toInt64 (nI i - nI n)) dX2_seek_42 rfl rfl ?_
      refine ev_iload (pc' := 45) dX2_seek_43 rfl rfl ?_
      refine ev_i2l (pc' := 46) (v := Int32.toInt64 (nI j - nI n)) dX2_seek_45 rfl rfl ?_
      refine ev_callV (pc' := 49) (rm' := rX4_tellAlong) (b := o2) (av := [.long (Int32.toInt64 (nI i - nI n)), .long (Int32.toInt64 (nI j - nI n))]) (rest := []) co_X2_19 ci_X4_tellAlong cv_X4_tellAlong dX2_seek_46 rfl ho2 hb_X4 rfl rfl (Nat.le_of_ble_eq_true rfl) ⟨(Nat.le_of_ble_eq_true rfl), (Nat.le_of_ble_eq_true rfl)⟩ ⟨(Nat.le_of_ble_eq_true rfl), (Nat.le_of_ble_eq_true rfl)⟩ ?_
      refine t_X4_tellAlong o2 d2 ho2 hro2 hd2 (Int32.toInt64 (nI i - nI n)) (Int32.toInt64 (nI j - nI n)) (cNe_2 hq) ?_
      refine ev_aload_n (pc' := 50) (i := 3) dX2_seek_49 rfl rfl rfl ?_
      refine ev_iload (pc' := 52) dX2_seek_50 rfl rfl ?_
      refine ev_i2l (pc' := 53) (v := Int32.toInt64 (nI i - nI n)) dX2_seek_52 rfl rfl ?_
      refine ev_iload (pc' := 55) dX2_seek_53 rfl rfl ?_
      refine ev_i2l (pc' := 56) (v := Int32.toInt64 (nI j - nI n)) dX2_seek_55 rfl rfl ?_
      refine ev_callV (pc' := 59) (rm' := rX4_tellAlong) (b := o3) (av := [.long (Int32.toInt64 (nI i - nI n)), .long (Int32.toInt64 (nI j - nI n))]) (rest := []) co_X2_19 ci_X4_tellAlong cv_X4_tellAlong dX2_seek_56 rfl ho3 hb_X4 rfl rfl (Nat.le_of_ble_eq_true rfl) ⟨(Nat.le_of_ble_eq_true rfl), (Nat.le_of_ble_eq_true rfl)⟩ ⟨(Nat.le_of_ble_eq_true rfl), (Nat.le_of_ble_eq_true rfl)⟩ ?_
      refine t_X4_tellAlong o3 d3 ho3 hro3 hd3 (Int32.toInt64 (nI i - nI n)) (Int32.toInt64 (nI j - nI n)) (cNe_3 hr) ?_
      refine ev_memL (fun K3 hK3 => ?_)
      obtain ⟨g0, f0, f1, f2⟩ := tl_3 _ _ hKb ⟨cNe_1 hp, cNe_2 hp, cNe_3 hp⟩ ⟨cNe_1 hq, cNe_2 hq, cNe_3 hq⟩ ⟨cNe_1 hr, cNe_2 hr, cNe_3 hr⟩ q12 q13 q23 hK3
      have r0 : K3 d1 = L d1 := g0 d1 (cNe_1 hp) (cNe_2 hp) (cNe_3 hp)
      have r1 : K3 d2 = L d2 := g0 d2 (cNe_1 hq) (cNe_2 hq) (cNe_3 hq)
      have r2 : K3 d3 = L d3 := g0 d3 (cNe_1 hr) (cNe_2 hr) (cNe_3 hr)
      refine ev_iload (pc' := 61) dX2_seek_59 rfl rfl ?_
      refine ev_ineg (pc' := 62) (v := -(nI n)) dX2_seek_61 rfl rfl ?_
      refine ev_istore (pc' := 64) (lv' := [some (.ref 32), some (.ref o1), some (.ref o2), some (.ref o3), some (.int (nI n)), some (.int (nI i - nI n)), some (.int (nI j - nI n)), some (.int (-(nI n)))]) dX2_seek_62 rfl (Nat.le_of_ble_eq_true rfl) rfl rfl ?_
      suffices lc : ∀ (yc l mc : Nat) (Pc : Nat → Int32) (Kc : ma_L), l + yc = 2 * n + 1 → mc ≤ 441 * i + 21 * j + l → (∀ x, x ≠ o1 → x ≠ o2 → x ≠ o3 → Kc x = L x) → Kc = K3 → (mc, Pc) = cKz (L d1) (L d2) (L d3) n (nI i - nI n) (nI j - nI n) l (mb, Pb) → EV g yX2_seek cX2_seek 8 (some .int) rX2_seek (ma_ZM g rX2_seek Post) 64 [some (.ref 32), some (.ref o1), some (.ref o2), some (.ref o3), some (.int (nI n)), some (.int (nI i - nI n)), some (.int (nI j - nI n)), some (.int (nI l - nI n))] [] HS (ma_up (ma_up I 32 (ma_up (I 32) 1 (nI mc))) 33 Pc) Kc RF 146 0 0 by
        rw [mvc_0]
        exact lc (2 * n + 1) 0 mb Pb K3 (by omega) (by omega) g0 rfl rfl
      intro yc
      induction yc with
      | zero =>
        intro l mc Pc Kc hic hmc hKc hE hsc
        have hic : l = 2 * n + 1 := by omega
        rw [hic] at hsc
        refine ev_iload (pc' := 66) dX2_seek_64 rfl rfl ?_
        refine ev_iload (pc' := 68) dX2_seek_66 rfl rfl ?_
        refine ev_icmp_gt (tgt := 117) (pc' := 71) dX2_seek_68 rfl rfl (fun _ => ?_) (fun h => absurd (mvc_gt hic (by omega)) h)
        refine ev_iinc (pc' := 120) (v := (nI j - nI n) + 1) (lv' := [some (.ref 32), some (.ref o1), some (.ref o2), some (.ref o3), some (.int (nI n)), some (.int (nI i - nI n)), some (.int ((nI j - nI n) + 1)), some (.int (nI l - nI n))]) dX2_seek_117 rfl rfl rfl (Nat.le_of_ble_eq_true rfl) rfl rfl ?_
        refine ev_goto (tgt := 22) dX2_seek_120 rfl ?_
        refine ev_lvw (lv' := [some (.ref 32), some (.ref o1), some (.ref o2), some (.ref o3), some (.int (nI n)), some (.int (nI i - nI n)), some (.int ((nI j - nI n) + 1)), none]) ⟨rfl, ⟨rfl, ⟨rfl, ⟨rfl, ⟨rfl, ⟨rfl, ⟨rfl, trivial⟩⟩⟩⟩⟩⟩⟩ ?_
        rw [mvc_s]
        exact ihb (j + 1) _ _ _ (by omega) (by omega) hKc (by show _ = cKz _ _ _ _ _ _ _ _; rw [← hsb]; exact hsc)
      | succ yc ihc =>
        intro l mc Pc Kc hic hmc hKc hE hsc
        subst hE
        by_cases hkl : mc < 100
        · refine ev_iload (pc' := 66) dX2_seek_64 rfl rfl ?_
          refine ev_iload (pc' := 68) dX2_seek_66 rfl rfl ?_
          refine ev_icmp_gt (tgt := 117) (pc' := 71) dX2_seek_68 rfl rfl (fun h => absurd h (mvc_le (by omega) (by omega))) (fun _ => ?_)
          refine ev_aload_n (pc' := 72) (i := 1) dX2_seek_71 rfl rfl rfl ?_
          refine ev_iload (pc' := 74) dX2_seek_72 rfl rfl ?_
          refine ev_i2l (pc' := 75) (v := Int32.toInt64 (nI l - nI n)) dX2_seek_74 rfl rfl ?_
          refine ev_callV (pc' := 78) (rm' := rX4_isOnAt) (b := o1) (av := [.long (Int32.toInt64 (nI l - nI n))]) (rest := []) co_X2_25 ci_X4_isOnAt cv_X4_isOnAt dX2_seek_75 rfl ho1 hb_X4 rfl rfl (Nat.le_of_ble_eq_true rfl) ⟨(Nat.le_of_ble_eq_true rfl), (Nat.le_of_ble_eq_true rfl)⟩ ⟨(Nat.le_of_ble_eq_true rfl), (Nat.le_of_ble_eq_true rfl)⟩ ?_
          refine t_X4_isOnAt o1 d1 ho1 hro1 hd1 (Int32.toInt64 (nI l - nI n)) ?_
          refine ev_if_eq_b (tgt := 111) (pc' := 81) dX2_seek_78 rfl rfl (fun c1 => ?_) (fun c1 => ?_)
          · refine ev_iinc (pc' := 114) (v := (nI l - nI n) + 1) (lv' := [some (.ref 32), some (.ref o1), some (.ref o2), some (.ref o3), some (.int (nI n)), some (.int (nI i - nI n)), some (.int (nI j - nI n)), some (.int ((nI l - nI n) + 1))]) dX2_seek_111 rfl rfl rfl (Nat.le_of_ble_eq_true rfl) rfl rfl ?_
            refine ev_goto (tgt := 64) dX2_seek_114 rfl ?_
            rw [mvc_s]
            have t0 := c1
            rw [f0.1, f0.2, r0] at t0
            refine ihc (l + 1) _ _ _ (by omega) (by omega) hKc rfl ?_
            show _ = cKs _ _ _ _ _ _ (cKz _ _ _ _ _ _ _ _)
            rw [← hsc]
            exact (if_neg (fun c => absurd c.1 t0)).symm
          · refine ev_aload_n (pc' := 82) (i := 2) dX2_seek_81 rfl rfl rfl ?_
            refine ev_iload (pc' := 84) dX2_seek_82 rfl rfl ?_
            refine ev_i2l (pc' := 85) (v := Int32.toInt64 (nI l - nI n)) dX2_seek_84 rfl rfl ?_
            refine ev_callV (pc' := 88) (rm' := rX4_isOnAt) (b := o2) (av := [.long (Int32.toInt64 (nI l - nI n))]) (rest := []) co_X2_25 ci_X4_isOnAt cv_X4_isOnAt dX2_seek_85 rfl ho2 hb_X4 rfl rfl (Nat.le_of_ble_eq_true rfl) ⟨(Nat.le_of_ble_eq_true rfl), (Nat.le_of_ble_eq_true rfl)⟩ ⟨(Nat.le_of_ble_eq_true rfl), (Nat.le_of_ble_eq_true rfl)⟩ ?_
            refine t_X4_isOnAt o2 d2 ho2 hro2 hd2 (Int32.toInt64 (nI l - nI n)) ?_
            refine ev_if_eq_b (tgt := 111) (pc' := 91) dX2_seek_88 rfl rfl (fun c2 => ?_) (fun c2 => ?_)
            · refine ev_iinc (pc' := 114) (v := (nI l - nI n) + 1) (lv' := [some (.ref 32), some (.ref o1), some (.ref o2), some (.ref o3), some (.int (nI n)), some (.int (nI i - nI n)), some (.int (nI j - nI n)), some (.int ((nI l - nI n) + 1))]) dX2_seek_111 rfl rfl rfl (Nat.le_of_ble_eq_true rfl) rfl rfl ?_
              refine ev_goto (tgt := 64) dX2_seek_114 rfl ?_
              rw [mvc_s]
              have t0 := c1
              rw [f0.1, f0.2, r0] at t0
              have t1 := c2
              rw [f1.1, f1.2, r1] at t1
              refine ihc (l + 1) _ _ _ (by omega) (by omega) hKc rfl ?_
              show _ = cKs _ _ _ _ _ _ (cKz _ _ _ _ _ _ _ _)
              rw [← hsc]
              exact (if_neg (fun c => absurd c.2.1 t1)).symm
            · refine ev_aload_n (pc' := 92) (i := 3) dX2_seek_91 rfl rfl rfl ?_
              refine ev_iload (pc' := 94) dX2_seek_92 rfl rfl ?_
              refine ev_i2l (pc' := 95) (v := Int32.toInt64 (nI l - nI n)) dX2_seek_94 rfl rfl ?_
              refine ev_callV (pc' := 98) (rm' := rX4_isOnAt) (b := o3) (av := [.long (Int32.toInt64 (nI l - nI n))]) (rest := []) co_X2_25 ci_X4_isOnAt cv_X4_isOnAt dX2_seek_95 rfl ho3 hb_X4 rfl rfl (Nat.le_of_ble_eq_true rfl) ⟨(Nat.le_of_ble_eq_true rfl), (Nat.le_of_ble_eq_true rfl)⟩ ⟨(Nat.le_of_ble_eq_true rfl), (Nat.le_of_ble_eq_true rfl)⟩ ?_
              refine t_X4_isOnAt o3 d3 ho3 hro3 hd3 (Int32.toInt64 (nI l - nI n)) ?_
              refine ev_if_eq_b (tgt := 111) (pc' := 101) dX2_seek_98 rfl rfl (fun c3 => ?_) (fun c3 => ?_)
              · refine ev_iinc (pc' := 114) (v := (nI l - nI n) + 1) (lv' := [some (.ref 32), some (.ref o1), some (.ref o2), some (.ref o3), some (.int (nI n)), some (.int (nI i - nI n)), some (.int (nI j - nI n)), some (.int ((nI l - nI n) + 1))]) dX2_seek_111 rfl rfl rfl (Nat.le_of_ble_eq_true rfl) rfl rfl ?_
                refine ev_goto (tgt := 64) dX2_seek_114 rfl ?_
                rw [mvc_s]
                have t0 := c1
                rw [f0.1, f0.2, r0] at t0
                have t1 := c2
                rw [f1.1, f1.2, r1] at t1
                have t2 := c3
                rw [f2.1, f2.2, r2] at t2
                refine ihc (l + 1) _ _ _ (by omega) (by omega) hKc rfl ?_
                show _ = cKs _ _ _ _ _ _ (cKz _ _ _ _ _ _ _ _)
                rw [← hsc]
                exact (if_neg (fun c => absurd c.2.2 t2)).symm
              · refine ev_aload_n (pc' := 102) (i := 0) dX2_seek_101 rfl rfl rfl ?_
                refine ev_iload (pc' := 104) dX2_seek_102 rfl rfl ?_
                refine ev_iload (pc' := 106) dX2_seek_104 rfl rfl ?_
                refine ev_iload (pc' := 108) dX2_seek_106 rfl rfl ?_
                refine ev_callV (pc' := 111) (rm' := rX2_keep) (b := 32) (av := [.int (nI i - nI n), .int (nI j - nI n), .int (nI l - nI n)]) (rest := []) co_X2_29 ci_X2_keep cv_X2_keep dX2_seek_108 rfl hs_32 hb_X2 rfl rfl (Nat.le_of_ble_eq_true rfl) ⟨(Nat.le_of_ble_eq_true rfl), (Nat.le_of_ble_eq_true rfl)⟩ ⟨(Nat.le_of_ble_eq_true rfl), (Nat.le_of_ble_eq_true rfl)⟩ ?_
                refine t_X2_keepL (nI i - nI n) (nI j - nI n) (nI l - nI n) mc hkl rfl ?_
                refine ev_memI (fun z hz => ?_)
                have hz := hz.trans (sk_L I (nI mc) (nI (mc + 1)) Pc (ma_up (ma_up (ma_up Pc (3 * mc) (nI i - nI n)) ((3 * mc) + 1) (nI j - nI n)) ((3 * mc) + 2) (nI l - nI n)))
                subst hz
                refine ev_iinc (pc' := 114) (v := (nI l - nI n) + 1) (lv' := [some (.ref 32), some (.ref o1), some (.ref o2), some (.ref o3), some (.int (nI n)), some (.int (nI i - nI n)), some (.int (nI j - nI n)), some (.int ((nI l - nI n) + 1))]) dX2_seek_111 rfl rfl rfl (Nat.le_of_ble_eq_true rfl) rfl rfl ?_
                refine ev_goto (tgt := 64) dX2_seek_114 rfl ?_
                rw [mvc_s]
                have t0 := c1
                rw [f0.1, f0.2, r0] at t0
                have t1 := c2
                rw [f1.1, f1.2, r1] at t1
                have t2 := c3
                rw [f2.1, f2.2, r2] at t2
                refine ihc (l + 1) _ _ _ (by omega) (by omega) hKc rfl ?_
                show _ = cKs _ _ _ _ _ _ (cKz _ _ _ _ _ _ _ _)
                rw [← hsc]
                refine Eq.trans ?_ (if_pos ⟨t0, t1, t2⟩).symm
                unfold cKp; dsimp only; rw [if_pos hkl]
        · refine ev_iload (pc' := 66) dX2_seek_64 rfl rfl ?_
          refine ev_iload (pc' := 68) dX2_seek_66 rfl rfl ?_
          refine ev_icmp_gt (tgt := 117) (pc' := 71) dX2_seek_68 rfl rfl (fun h => absurd h (mvc_le (by omega) (by omega))) (fun _ => ?_)
          refine ev_aload_n (pc' := 72) (i := 1) dX2_seek_71 rfl rfl rfl ?_
          refine ev_iload (pc' := 74) dX2_seek_72 rfl rfl ?_
          refine ev_i2l (pc' := 75) (v := Int32.toInt64 (nI l - nI n)) dX2_seek_74 rfl rfl ?_
          refine ev_callV (pc' := 78) (rm' := rX4_isOnAt) (b := o1) (av := [.long (Int32.toInt64 (nI l - nI n))]) (rest := []) co_X2_25 ci_X4_isOnAt cv_X4_isOnAt dX2_seek_75 rfl ho1 hb_X4 rfl rfl (Nat.le_of_ble_eq_true rfl) ⟨(Nat.le_of_ble_eq_true rfl), (Nat.le_of_ble_eq_true rfl)⟩ ⟨(Nat.le_of_ble_eq_true rfl), (Nat.le_of_ble_eq_true rfl)⟩ ?_
          refine t_X4_isOnAt o1 d1 ho1 hro1 hd1 (Int32.toInt64 (nI l - nI n)) ?_
          refine ev_if_eq_b (tgt := 111) (pc' := 81) dX2_seek_78 rfl rfl (fun c4 => ?_) (fun c4 => ?_)
          · refine ev_iinc (pc' := 114) (v := (nI l - nI n) + 1) (lv' := [some (.ref 32), some (.ref o1), some (.ref o2), some (.ref o3), some (.int (nI n)), some (.int (nI i - nI n)), some (.int (nI j - nI n)), some (.int ((nI l - nI n) + 1))]) dX2_seek_111 rfl rfl rfl (Nat.le_of_ble_eq_true rfl) rfl rfl ?_
            refine ev_goto (tgt := 64) dX2_seek_114 rfl ?_
            rw [mvc_s]
            have t0 := c4
            rw [f0.1, f0.2, r0] at t0
            refine ihc (l + 1) _ _ _ (by omega) (by omega) hKc rfl ?_
            show _ = cKs _ _ _ _ _ _ (cKz _ _ _ _ _ _ _ _)
            rw [← hsc]
            exact (if_neg (fun c => absurd c.1 t0)).symm
          · refine ev_aload_n (pc' := 82) (i := 2) dX2_seek_81 rfl rfl rfl ?_
            refine ev_iload (pc' := 84) dX2_seek_82 rfl rfl ?_
            refine ev_i2l (pc' := 85) (v := Int32.toInt64 (nI l - nI n)) dX2_seek_84 rfl rfl ?_
            refine ev_callV (pc' := 88) (rm' := rX4_isOnAt) (b := o2) (av := [.long (Int32.toInt64 (nI l - nI n))]) (rest := []) co_X2_25 ci_X4_isOnAt cv_X4_isOnAt dX2_seek_85 rfl ho2 hb_X4 rfl rfl (Nat.le_of_ble_eq_true rfl) ⟨(Nat.le_of_ble_eq_true rfl), (Nat.le_of_ble_eq_true rfl)⟩ ⟨(Nat.le_of_ble_eq_true rfl), (Nat.le_of_ble_eq_true rfl)⟩ ?_
            refine t_X4_isOnAt o2 d2 ho2 hro2 hd2 (Int32.toInt64 (nI l - nI n)) ?_
            refine ev_if_eq_b (tgt := 111) (pc' := 91) dX2_seek_88 rfl rfl (fun c5 => ?_) (fun c5 => ?_)
            · refine ev_iinc (pc' := 114) (v := (nI l - nI n) + 1) (lv' := [some (.ref 32), some (.ref o1), some (.ref o2), some (.ref o3), some (.int (nI n)), some (.int (nI i - nI n)), some (.int (nI j - nI n)), some (.int ((nI l - nI n) + 1))]) dX2_seek_111 rfl rfl rfl (Nat.le_of_ble_eq_true rfl) rfl rfl ?_
              refine ev_goto (tgt := 64) dX2_seek_114 rfl ?_
              rw [mvc_s]
              have t0 := c4
              rw [f0.1, f0.2, r0] at t0
              have t1 := c5
              rw [f1.1, f1.2, r1] at t1
              refine ihc (l + 1) _ _ _ (by omega) (by omega) hKc rfl ?_
              show _ = cKs _ _ _ _ _ _ (cKz _ _ _ _ _ _ _ _)
              rw [← hsc]
              exact (if_neg (fun c => absurd c.2.1 t1)).symm
            · refine ev_aload_n (pc' := 92) (i := 3) dX2_seek_91 rfl rfl rfl ?_
              refine ev_iload (pc' := 94) dX2_seek_92 rfl rfl ?_
              refine ev_i2l (pc' := 95) (v := Int32.toInt64 (nI l - nI n)) dX2_seek_94 rfl rfl ?_
              refine ev_callV (pc' := 98) (rm' := rX4_isOnAt) (b := o3) (av := [.long (Int32.toInt64 (nI l - nI n))]) (rest := []) co_X2_25 ci_X4_isOnAt cv_X4_isOnAt dX2_seek_95 rfl ho3 hb_X4 rfl rfl (Nat.le_of_ble_eq_true rfl) ⟨(Nat.le_of_ble_eq_true rfl), (Nat.le_of_ble_eq_true rfl)⟩ ⟨(Nat.le_of_ble_eq_true rfl), (Nat.le_of_ble_eq_true rfl)⟩ ?_
              refine t_X4_isOnAt o3 d3 ho3 hro3 hd3 (Int32.toInt64 (nI l - nI n)) ?_
              refine ev_if_eq_b (tgt := 111) (pc' := 101) dX2_seek_98 rfl rfl (fun c6 => ?_) (fun c6 => ?_)
              · refine ev_iinc (pc' := 114) (v := (nI l - nI n) + 1) (lv' := [some (.ref 32), some (.ref o1), some (.ref o2), some (.ref o3), some (.int (nI n)), some (.int (nI i - nI n)), some (.int (nI j - nI n)), some (.int ((nI l - nI n) + 1))]) dX2_seek_111 rfl rfl rfl (Nat.le_of_ble_eq_true rfl) rfl rfl ?_
                refine ev_goto (tgt := 64) dX2_seek_114 rfl ?_
                rw [mvc_s]
                have t0 := c4
                rw [f0.1, f0.2, r0] at t0
                have t1 := c5
                rw [f1.1, f1.2, r1] at t1
                have t2 := c6
                rw [f2.1, f2.2, r2] at t2
                refine ihc (l + 1) _ _ _ (by omega) (by omega) hKc rfl ?_
                show _ = cKs _ _ _ _ _ _ (cKz _ _ _ _ _ _ _ _)
                rw [← hsc]
                exact (if_neg (fun c => absurd c.2.2 t2)).symm
              · refine ev_aload_n (pc' := 102) (i := 0) dX2_seek_101 rfl rfl rfl ?_
                refine ev_iload (pc' := 104) dX2_seek_102 rfl rfl ?_
                refine ev_iload (pc' := 106) dX2_seek_104 rfl rfl ?_
                refine ev_iload (pc' := 108) dX2_seek_106 rfl rfl ?_
                refine ev_callV (pc' := 111) (rm' := rX2_keep) (b := 32) (av := [.int (nI i - nI n), .int (nI j - nI n), .int (nI l - nI n)]) (rest := []) co_X2_29 ci_X2_keep cv_X2_keep dX2_seek_108 rfl hs_32 hb_X2 rfl rfl (Nat.le_of_ble_eq_true rfl) ⟨(Nat.le_of_ble_eq_true rfl), (Nat.le_of_ble_eq_true rfl)⟩ ⟨(Nat.le_of_ble_eq_true rfl), (Nat.le_of_ble_eq_true rfl)⟩ ?_
                refine t_X2_keepG (nI i - nI n) (nI j - nI n) (nI l - nI n) mc ⟨by omega, by omega⟩ rfl ?_
                refine ev_memI (fun z hz => ?_)
                have hz := hz.trans (sk_G I (nI mc) (nI (mc + 1)) Pc)
                subst hz
                refine ev_iinc (pc' := 114) (v := (nI l - nI n) + 1) (lv' := [some (.ref 32), some (.ref o1), some (.ref o2), some (.ref o3), some (.int (nI n)), some (.int (nI i - nI n)), some (.int (nI j - nI n)), some (.int ((nI l - nI n) + 1))]) dX2_seek_111 rfl rfl rfl (Nat.le_of_ble_eq_true rfl) rfl rfl ?_
                refine ev_goto (tgt := 64) dX2_seek_114 rfl ?_
                rw [mvc_s]
                have t0 := c4
                rw [f0.1, f0.2, r0] at t0
                have t1 := c5
                rw [f1.1, f1.2, r1] at t1
                have t2 := c6
                rw [f2.1, f2.2, r2] at t2
                refine ihc (l + 1) _ _ _ (by omega) (by omega) hKc rfl ?_
                show _ = cKs _ _ _ _ _ _ (cKz _ _ _ _ _ _ _ _)
                rw [← hsc]
                refine Eq.trans ?_ (if_pos ⟨t0, t1, t2⟩).symm
                unfold cKp; dsimp only; rw [if_neg hkl]
