section Fused
variable {g : ma_G} {y : MethodName} {cc : ByteArray} {nL : Nat} {ret : Option FieldType} {rm : Room} {Z : ma_Z} {pc pc' : Nat} {lv : List (Option Value)} {st : List Value} {sh : ma_S} {I : ma_I} {L : ma_L} {R : ma_R} {n ce sl : Nat}
theorem b01_0 {c : Prop} [Decidable c] : ((if c then (1 : Int32) else 0) = 0) ↔ ¬ c := by by_cases h : c <;> simp [h]
theorem b01_1 {c : Prop} [Decidable c] : (¬ (if c then (1 : Int32) else 0) = 0) ↔ c := by by_cases h : c <;> simp [h]
theorem b01_n {c : Prop} [Decidable c] : narrow .boolean (.int (if c then (1 : Int32) else 0)) = .int (if c then (1 : Int32) else 0) := by by_cases h : c <;> simp [h] <;> rfl
theorem b01_f {c : Prop} [Decidable c] : fits .boolean (.int (if c then (1 : Int32) else 0)) = true := by by_cases h : c <;> simp [h] <;> rfl
theorem ev_if_eq_b {c : Prop} [Decidable c] {off : Int} {tgt : Nat} (hdg : decode cc pc = .ok (.ifCond .eq off, 3)) (ht : (pc : Int) + off = (tgt : Int)) (hp : pc + 3 = pc') (kt : ¬ c → EV g y cc nL ret rm Z tgt lv st sh I L R n ce sl) (kf : c → EV g y cc nL ret rm Z pc' lv st sh I L R n ce sl) : EV g y cc nL ret rm Z pc lv (.int (if c then (1 : Int32) else 0) :: st) sh I L R n ce sl := ev_if_eq hdg ht hp (fun h => kt (b01_0.mp h)) (fun h => kf (b01_1.mp h))
theorem ev_if_ne_b {c : Prop} [Decidable c] {off : Int} {tgt : Nat} (hdg : decode cc pc = .ok (.ifCond .ne off, 3)) (ht : (pc : Int) + off = (tgt : Int)) (hp : pc + 3 = pc') (kt : c → EV g y cc nL ret rm Z tgt lv st sh I L R n ce sl) (kf : ¬ c → EV g y cc nL ret rm Z pc' lv st sh I L R n ce sl) : EV g y cc nL ret rm Z pc lv (.int (if c then (1 : Int32) else 0) :: st) sh I L R n ce sl := ev_if_ne hdg ht hp (fun h => kt (b01_1.mp h)) (fun h => kf (b01_0.mp h))
theorem lc_eq {x z : Int64} : (lg_cmp x z = 0) ↔ (x = z) := lg_cmp_eq x z
theorem ev_lc_eq {x z : Int64} {off : Int} {tgt p1 : Nat} (hdg : decode cc pc = .ok (.lcmp, 1)) (hp1 : pc + 1 = p1) (hd2 : decode cc p1 = .ok (.ifCond .eq off, 3)) (ht : (p1 : Int) + off = (tgt : Int)) (hp : p1 + 3 = pc') (kt : x = z → EV g y cc nL ret rm Z tgt lv st sh I L R n ce sl) (kf : ¬ (x = z) → EV g y cc nL ret rm Z pc' lv st sh I L R n ce sl) : EV g y cc nL ret rm Z pc lv (.long z :: .long x :: st) sh I L R n ce sl := by
  refine ev_lcmp hdg hp1 rfl ?_
  refine ev_if_eq hd2 ht hp (fun h => kt (lc_eq.mp h)) (fun h => kf ?_)
  intro h2; exact absurd (lc_eq.mpr h2) h
theorem lc_ne {x z : Int64} : (¬ lg_cmp x z = 0) ↔ (¬ x = z) := not_congr (lg_cmp_eq x z)
theorem ev_lc_ne {x z : Int64} {off : Int} {tgt p1 : Nat} (hdg : decode cc pc = .ok (.lcmp, 1)) (hp1 : pc + 1 = p1) (hd2 : decode cc p1 = .ok (.ifCond .ne off, 3)) (ht : (p1 : Int) + off = (tgt : Int)) (hp : p1 + 3 = pc') (kt : ¬ x = z → EV g y cc nL ret rm Z tgt lv st sh I L R n ce sl) (kf : x = z → EV g y cc nL ret rm Z pc' lv st sh I L R n ce sl) : EV g y cc nL ret rm Z pc lv (.long z :: .long x :: st) sh I L R n ce sl := by
  refine ev_lcmp hdg hp1 rfl ?_
  refine ev_if_ne hd2 ht hp (fun h => kt (lc_ne.mp h)) (fun h => kf ?_)
  exact lc_eq.mp h
theorem lc_lt {x z : Int64} : (lg_cmp x z < 0) ↔ (x < z) := lg_cmp_lt x z
theorem ev_lc_lt {x z : Int64} {off : Int} {tgt p1 : Nat} (hdg : decode cc pc = .ok (.lcmp, 1)) (hp1 : pc + 1 = p1) (hd2 : decode cc p1 = .ok (.ifCond .lt off, 3)) (ht : (p1 : Int) + off = (tgt : Int)) (hp : p1 + 3 = pc') (kt : x < z → EV g y cc nL ret rm Z tgt lv st sh I L R n ce sl) (kf : ¬ (x < z) → EV g y cc nL ret rm Z pc' lv st sh I L R n ce sl) : EV g y cc nL ret rm Z pc lv (.long z :: .long x :: st) sh I L R n ce sl := by
  refine ev_lcmp hdg hp1 rfl ?_
  refine ev_if_lt hd2 ht hp (fun h => kt (lc_lt.mp h)) (fun h => kf ?_)
  intro h2; exact absurd (lc_lt.mpr h2) h
theorem lc_ge {x z : Int64} : (0 ≤ lg_cmp x z) ↔ (z ≤ x) := lg_cmp_ge x z
theorem ev_lc_ge {x z : Int64} {off : Int} {tgt p1 : Nat} (hdg : decode cc pc = .ok (.lcmp, 1)) (hp1 : pc + 1 = p1) (hd2 : decode cc p1 = .ok (.ifCond .ge off, 3)) (ht : (p1 : Int) + off = (tgt : Int)) (hp : p1 + 3 = pc') (kt : z ≤ x → EV g y cc nL ret rm Z tgt lv st sh I L R n ce sl) (kf : ¬ (z ≤ x) → EV g y cc nL ret rm Z pc' lv st sh I L R n ce sl) : EV g y cc nL ret rm Z pc lv (.long z :: .long x :: st) sh I L R n ce sl := by
  refine ev_lcmp hdg hp1 rfl ?_
  refine ev_if_ge hd2 ht hp (fun h => kt (lc_ge.mp h)) (fun h => kf ?_)
  intro h2; exact absurd (lc_ge.mpr h2) h
theorem lc_gt {x z : Int64} : (0 < lg_cmp x z) ↔ (z < x) := lg_cmp_gt x z
theorem ev_lc_gt {x z : Int64} {off : Int} {tgt p1 : Nat} (hdg : decode cc pc = .ok (.lcmp, 1)) (hp1 : pc + 1 = p1) (hd2 : decode cc p1 = .ok (.ifCond .gt off, 3)) (ht : (p1 : Int) + off = (tgt : Int)) (hp : p1 + 3 = pc') (kt : z < x → EV g y cc nL ret rm Z tgt lv st sh I L R n ce sl) (kf : ¬ (z < x) → EV g y cc nL ret rm Z pc' lv st sh I L R n ce sl) : EV g y cc nL ret rm Z pc lv (.long z :: .long x :: st) sh I L R n ce sl := by
  refine ev_lcmp hdg hp1 rfl ?_
  refine ev_if_gt hd2 ht hp (fun h => kt (lc_gt.mp h)) (fun h => kf ?_)
  intro h2; exact absurd (lc_gt.mpr h2) h
theorem lc_le {x z : Int64} : (lg_cmp x z ≤ 0) ↔ (x ≤ z) := lg_cmp_le x z
theorem ev_lc_le {x z : Int64} {off : Int} {tgt p1 : Nat} (hdg : decode cc pc = .ok (.lcmp, 1)) (hp1 : pc + 1 = p1) (hd2 : decode cc p1 = .ok (.ifCond .le off, 3)) (ht : (p1 : Int) + off = (tgt : Int)) (hp : p1 + 3 = pc') (kt : x ≤ z → EV g y cc nL ret rm Z tgt lv st sh I L R n ce sl) (kf : ¬ (x ≤ z) → EV g y cc nL ret rm Z pc' lv st sh I L R n ce sl) : EV g y cc nL ret rm Z pc lv (.long z :: .long x :: st) sh I L R n ce sl := by
  refine ev_lcmp hdg hp1 rfl ?_
  refine ev_if_le hd2 ht hp (fun h => kt (lc_le.mp h)) (fun h => kf ?_)
  intro h2; exact absurd (lc_le.mpr h2) h
end Fused
