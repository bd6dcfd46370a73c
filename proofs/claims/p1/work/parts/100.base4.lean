theorem nilP {D : va_G} {cl : List vw_C} {H : Heap} : va_P D cl [] H := fun k q h => by simp at h
theorem nilD {A : Nat → Prop} : va_D A [] := ⟨fun i j p q h => by simp at h, fun k q h => by simp at h⟩
theorem bv0 {P : Prop} [Decidable P] {r : Int32} (hw : r = if P then 1 else 0) (h : r = 0) : ¬ P := by
  intro q
  rw [if_pos q] at hw
  rw [hw] at h
  exact absurd h (by decide)
theorem bv1 {P : Prop} [Decidable P] {r : Int32} (hw : r = if P then 1 else 0) (h : ¬ r = 0) : P := by
  by_cases q : P
  · exact q
  · rw [if_neg q] at hw
    exact absurd hw h
