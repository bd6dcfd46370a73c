theorem len_pos {n : Nat} {v : Int32} (h : ¬ nI n ≤ v) (hv : ¬ v < 0) : 0 < n := by
  by_cases e : n = 0
  · subst e
    exact absurd (Int32.not_lt.mp hv) h
  · omega
/-- the first with the most entries, as far as looked at -/
def gInv (F : Nat → Nat → Int32) (N i : Nat) (u : Int32) : Prop := (u = -1 ∧ ∀ k : Nat, k < i → F 28 k < 0) ∨ ∃ k : Nat, k < 5 ∧ u = F 28 k ∧ iX N (F 28 k)
section GI
variable {F F2 : Nat → Nat → Int32} {N i k : Nat} {u v : Int32}
theorem gi_n (h : gInv F N i u) : iXn N u := by
  rcases h with ⟨h, -⟩ | ⟨k, -, e, h⟩
  · exact Or.inl (by rw [h]; decide)
  · exact Or.inr (by rw [e]; exact h)
theorem gi_1 (h : gInv F N i u) (hz : F 28 i < 0) : gInv F N (i + 1) u := by
  rcases h with ⟨h, h2⟩ | h
  · refine Or.inl ⟨h, fun k hk => ?_⟩
    by_cases e : k = i
    · rw [e]; exact hz
    · exact h2 k (by omega)
  · exact Or.inr h
theorem gi_2 (h : gInv F N i (nI k)) (hk : k < 2 ^ 31) : gInv F N (i + 1) (nI k) := by
  rcases h with ⟨h, -⟩ | h
  · exact absurd (show nI k < 0 by rw [h]; decide) (nI_pos hk)
  · exact Or.inr h
theorem gi_3 (hi : i < 5) (e : F 28 i = v) (h : iX N v) : gInv F N (i + 1) v := Or.inr ⟨i, hi, e.symm, by rw [e]; exact h⟩
theorem gi_5 (h : gInv F N i (nI k)) (hk : k < 2 ^ 31) : ∃ j : Nat, j < 5 ∧ iX N (F 28 j) := by
  rcases h with ⟨h, -⟩ | ⟨j, hj, -, h⟩
  · exact absurd (show nI k < 0 by rw [h]; decide) (nI_pos hk)
  · exact ⟨j, hj, h⟩
theorem gi_6 (h : gInv F N 5 u) (hN : N ≤ 500) (h2 : ∃ j : Nat, j < 5 ∧ iX N (F 28 j)) : iX N u := by
  rcases h with ⟨-, h⟩ | ⟨k, -, e, h⟩
  · obtain ⟨j, hj, k, hk, e⟩ := h2
    have h3 := h j hj
    rw [e] at h3
    exact absurd h3 (nI_pos (by omega))
  · rw [e]; exact h
theorem ag_st {P : Nat → Prop} (h : ∀ k : Nat, k < i → F 28 k < 0 ∨ P k) (e : F2 = updF F 28 (upd (F 28) i v)) (hv : v < 0 ∨ P i) : ∀ k : Nat, k < i + 1 → F2 28 k < 0 ∨ P k := by
  subst e
  intro k hk
  rw [updF_at]
  by_cases q : k = i
  · subst q; rw [pk_us]; exact hv
  · rw [pk_un q]; exact h k (by omega)
end GI
theorem cnt_1 {x : Int32} {s i : Nat} (h : i ≠ s ∧ hasb x (nI i)) : cnt x s (i + 1) = cnt x s i + 1 := by
  show cnt x s i + (if i ≠ s ∧ hasb x (nI i) then 1 else 0) = _
  rw [if_pos h]
theorem updF_2 {F : Nat → Nat → Int32} {j : Nat} {f g : Nat → Int32} : updF (updF F j f) j g = updF F j g := by
  funext i
  unfold updF
  by_cases e : i = j
  · rw [if_pos e, if_pos e]
  · rw [if_neg e, if_neg e, if_neg e]
theorem dc_bit {F F1 : Nat → Nat → Int32} {N a : Nat} (hN : N ≤ 500) (h : ∃ j : Nat, j < 5 ∧ iX N (F1 28 j)) (h2 : ∀ k : Nat, k < 5 → F1 28 k < 0 ∨ hasb (F 18 a) (nI k)) : ∃ k : Nat, k < 5 ∧ hasb (F 18 a) (nI k) := by
  obtain ⟨j, hj, k, hk, e⟩ := h
  refine ⟨j, hj, (h2 j hj).resolve_left (fun q => ?_)⟩
  rw [e] at q
  exact nI_pos (by omega) q
