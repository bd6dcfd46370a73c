theorem ix25 : ∀ k : Nat, k < 5 → ∀ j : Nat, j < 5 → vp_in (5 * nI k + nI j) 25 := by unfold vp_in; decide +kernel
theorem le7 {x : Int32} (h : ¬ x ≤ 6) : 7 ≤ x := by
  have h1 := Int32.not_le.mp h
  rw [Int32.lt_iff_toInt_lt] at h1
  rw [Int32.le_iff_toInt_le]
  have e6 : (6 : Int32).toInt = 6 := by decide
  have e7 : (7 : Int32).toInt = 7 := by decide
  omega
theorem nle7 {x : Int32} (h : x ≤ 6) : ¬ 7 ≤ x := by
  intro h2
  rw [Int32.le_iff_toInt_le] at h h2
  have e6 : (6 : Int32).toInt = 6 := by decide
  have e7 : (7 : Int32).toInt = 7 := by decide
  omega
