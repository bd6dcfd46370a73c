def cbv (k : Nat) : Int32 := nI (31 - 2 ^ k)
theorem cbit : ∀ k : Nat, k < 5 → ∀ j : Nat, j < 5 → k ≠ j → ¬ (cbv k &&& ((1 : Int32) <<< (nI j &&& 31)) = 0) := by decide +kernel
def abv (x : Int32) : Int32 := if x = 0 then 5 else if x = 1 then 0 else if x = 2 then 0 else if x = 3 then -1 else if x = 4 then -1 else if x = 5 then -1 else 1
theorem sw7 (x : Int32) : (x < 0 ∨ 7 ≤ x) ∨ x = 0 ∨ x = 1 ∨ x = 2 ∨ x = 3 ∨ x = 4 ∨ x = 5 ∨ x = 6 := by
  rcases pk_ix x (n := 7) (by decide) with h | h | ⟨j, hj, e⟩
  · exact Or.inl (Or.inl h)
  · exact Or.inl (Or.inr h)
  · rw [e]
    rcases (show j = 0 ∨ j = 1 ∨ j = 2 ∨ j = 3 ∨ j = 4 ∨ j = 5 ∨ j = 6 by omega) with rfl | rfl | rfl | rfl | rfl | rfl | rfl
    · exact Or.inr (Or.inl (by decide))
    · exact Or.inr (Or.inr (Or.inl (by decide)))
    · exact Or.inr (Or.inr (Or.inr (Or.inl (by decide))))
    · exact Or.inr (Or.inr (Or.inr (Or.inr (Or.inl (by decide)))))
    · exact Or.inr (Or.inr (Or.inr (Or.inr (Or.inr (Or.inl (by decide))))))
    · exact Or.inr (Or.inr (Or.inr (Or.inr (Or.inr (Or.inr (Or.inl (by decide)))))))
    · exact Or.inr (Or.inr (Or.inr (Or.inr (Or.inr (Or.inr (Or.inr (by decide)))))))
theorem sw_out {x : Int32} {n : Nat} (hn : n < 2 ^ 31 - 1) (h : x < 0 ∨ nI (n + 1) ≤ x) : x.toInt < 0 ∨ (n : Int) < x.toInt := by
  rcases h with h | h
  · exact Or.inl (Int32.lt_iff_toInt_lt.mp h)
  · have h1 := Int32.le_iff_toInt_le.mp h
    rw [nI_toInt (by omega)] at h1
    exact Or.inr (by omega)
theorem sw7_out {x : Int32} (h : x < 0 ∨ 7 ≤ x) : x.toInt < 0 ∨ 6 < x.toInt := sw_out (n := 6) (by decide) h
