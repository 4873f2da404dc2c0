theorem cKc_c {f f' : Nat → Int64} {i : Nat} (hi : i < 4) (j : Nat) (k : Int64) (r : Nat) (h : ∀ x, x < 16 → f x = f' x) : ∀ x, x < 16 → cKc f i j k r x = cKc f' i j k r x := fun x hx => by
  unfold cKc
  rw [h x hx, h (4 * (x / 4) + i) (by omega)]
theorem cKr_c {f f' : Nat → Int64} {i : Nat} (hi : i < 4) (j : Nat) (k : Int64) (c : Nat) (h : ∀ x, x < 16 → f x = f' x) : ∀ x, x < 16 → cKr f i j k c x = cKr f' i j k c x := fun x hx => by
  unfold cKr
  rw [h x hx, h (4 * i + x % 4) (by omega)]
theorem cShr_c {f f' : Nat → Int64} {i : Nat} (hi : i < 4) (j : Nat) (k : Int64) (h : ∀ x, x < 16 → f x = f' x) : ∀ x, x < 16 → cShr f i j k x = cShr f' i j k x := cKr_c hi j k 4 (cKc_c hi j k 4 h)
theorem cMov_c {f f' : Nat → Int64} (m : Nat → Int32) (s : Int32) (h : ∀ x, x < 16 → f x = f' x) : ∀ x, x < 16 → cMov f m s x = cMov f' m s x :=
  cShr_c (by omega) 3 _ (cShr_c (by omega) 3 _ (cShr_c (by omega) 3 _ h))
theorem cSm_c {t t' u u' : Nat → Int64} (m q : Int64) (ht : ∀ x, x < 16 → t x = t' x) (hu : ∀ x, x < 16 → u x = u' x) : ∀ x, x < 16 → cSm t u m q x = cSm t' u' m q x := fun x hx => by
  unfold cSm; rw [ht x hx, hu x hx]
theorem cFo_c {t t' u u' : Nat → Int64} (m q : Int32) (ht : ∀ x, x < 16 → t x = t' x) (hu : ∀ x, x < 16 → u x = u' x) : cFo t u m q = cFo t' u' m q := by
  unfold cFo
  rw [cW_c (cSm_c (Int32.toInt64 m) (Int32.toInt64 0) ht hu), cW_c (cSm_c (Int32.toInt64 0) (Int32.toInt64 q) ht hu), cW_c (cSm_c (Int32.toInt64 m) (Int32.toInt64 q) ht hu), cW_c (cSm_c (Int32.toInt64 (-m)) (Int32.toInt64 q) ht hu), cW_c (cSm_c (Int32.toInt64 (2 * m)) (Int32.toInt64 q) ht hu)]
theorem mRl_c {f f' : Nat → Int64} (w : Int32) (h : ∀ x, x < 16 → f x = f' x) : mRl f w ↔ mRl f' w :=
  ⟨fun q j hj => by rw [← h j hj]; exact q j hj, fun q j hj => by rw [h j hj]; exact q j hj⟩
