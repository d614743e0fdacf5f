/-! Numbers of the pad. -/
theorem x_dm {m : Nat} (h : m < 2 ^ 31) : nI m - 1 < 0 ↔ m = 0 := by
  constructor
  · intro q
    rcases Nat.eq_zero_or_pos m with e | e
    · exact e
    · rw [x_pred e] at q
      exact absurd q (Int32.not_lt.mpr (nI_le (a := 0) (Nat.zero_le _) (by omega)))
  · rintro rfl
    decide
theorem x_dm2 (x : Int32) : x + Int32.ofInt (-1) = x - 1 := (Int32.sub_eq_add_neg x 1).symm
