noncomputable def lnR (s : sG) (g x y : Nat) : Int32 × sG := (if sVal s g (rw_ s x) (rw_ s x) = 0 ∧ sVal s g (rw_ s x) (rw_ s y) = 0 ∧ sVal s g (rw_ s y) (rw_ s y) = 0 then 9 else 1 + mSg ((Int64.ofInt (sVal s g (rw_ s x) (rw_ s y)) * Int64.ofInt (sVal s g (rw_ s x) (rw_ s y))) - (Int64.ofInt (sVal s g (rw_ s x) (rw_ s x)) * Int64.ofInt (sVal s g (rw_ s y) (rw_ s y)))), sLn s (Int32.ofInt (sVal s g (rw_ s x) (rw_ s x))) (Int32.ofInt (sVal s g (rw_ s x) (rw_ s y))) (Int32.ofInt (sVal s g (rw_ s y) (rw_ s y))))
noncomputable def F_line (s : sG) (q a b : Int32) : Int32 × sG := match ix 12 q with
  | none => (-1, s)
  | some g => match ix 8 a with
    | none => (-1, s)
    | some x => match ix 8 b with
      | none => (-1, s)
      | some y => if s.1 122 g = 0 then (-3, sM s 1) else if s.1 117 x < 0 then (-3, sM s 1) else if s.1 117 y < 0 then (-3, sM s 1) else if s.1 117 x < 4 then (-3, sM s 5) else if s.1 117 y < 4 then (-3, sM s 5) else cIf (mRg (rw_ s x) 4 100 ∧ mRg (rw_ s y) 4 100) (cIf (mZr (rw_ s x) 4) (-3, sM s 4) (cIf (mZr (rw_ s y) 4) (-3, sM s 4) (cIf (zOn (pz (rw_ s x)) (pz (rw_ s y))) (-3, sM s 4) (lnR s g x y)))) (-3, sM s 2)
theorem wF_cIf {P : Prop} {a b : Int32 × sG} (h : wF a.2) (h' : wF b.2) : wF (cIf P a b).2 := by
  by_cases q : P
  · rw [cIf_p q]; exact h
  · rw [cIf_n q]; exact h'
theorem W_line {s : sG} (h : wF s) (a1 a2 a3 : Int32) : wF (F_line s a1 a2 a3).2 := by
  unfold F_line
  split
  · exact h
  · split
    · exact h
    · split
      · exact h
      · split
        · exact wF_M h _
        · split
          · exact wF_M h _
          · split
            · exact wF_M h _
            · split
              · exact wF_M h _
              · split
                · exact wF_M h _
                · exact wF_cIf (wF_cIf (wF_M h _) (wF_cIf (wF_M h _) (wF_cIf (wF_M h _) (wF_ln h _ _ _)))) (wF_M h _)
/-- the reference's value where its rows 123, 126, 127 are these -/
theorem mBo_k {I : ma_I} {L : ma_L} {g : Nat} {T u v u' v' : Nat → Int32} (hT : ∀ j, j < 16 → T (16 * g + j) = I 123 (16 * g + j)) (hu : ∀ j, j < 4 → u j = u' j) (hv : ∀ j, j < 4 → v j = v' j) : mBo T u v g = Int32.ofInt (sVal (ob I L) g u' v') := by
  rw [mBo_o]
  exact congrArg Int32.ofInt (vPr_c (fun j hj => congrArg Int32.toInt (hT j hj)) (fun j hj => congrArg Int32.toInt (hu j hj)) (fun j hj => congrArg Int32.toInt (hv j hj)))
theorem i2l_3 {v : Int} (h : v.natAbs ≤ 640000) : Int32.toInt64 (Int32.ofInt v) = Int64.ofInt v := by
  rw [i2l_o, Int32.toInt_ofInt_of_le (by omega) (by omega)]
