def bl : Nat → Int32
  | 0 => 1
  | 1 => 2
  | 2 => 4
  | 3 => 8
  | _ => 16
def bqb (x : Int32) (i : Nat) : Bool := !(decide (x &&& bl i = 0))
def hsl : Nat → Int32
  | 0 => 0
  | 1 => 1
  | 2 => 2
  | 3 => 3
  | _ => 4
def hbb (x : Int32) (i : Nat) : Bool := decide ((x >>> (hsl i &&& 31)) &&& 1 = 1)
theorem bqT {x y : Int32} (h : ¬ x &&& y = 0) : (!(decide (x &&& y = 0))) = true := by simp [h]
theorem bqF {x y : Int32} (h : x &&& y = 0) : (!(decide (x &&& y = 0))) = false := by simp [h]
def cntb (bt : Nat → Bool) : Nat := (if bt 0 then 1 else 0) + (if bt 1 then 1 else 0) + (if bt 2 then 1 else 0) + (if bt 3 then 1 else 0) + (if bt 4 then 1 else 0)
def mayg (bt : Nat → Bool) : Bool := decide (3 ≤ cntb bt)
theorem mayg_same : ∀ k : Nat, k < 32 → mayg (bqb (nI k)) = mayg (hbb (nI k)) := by decide +kernel
theorem mayg_eq {x : Int32} (h : ¬ (x < 0 ∨ 32 ≤ x)) : mayg (bqb x) = mayg (hbb x) := by
  rcases pk_ix x (n := 32) (by decide) with h1 | h1 | ⟨k, hk, e⟩
  · exact absurd (Or.inl h1) h
  · exact absurd (Or.inr h1) h
  · rw [e]
    exact mayg_same k hk
theorem le32 {x : Int32} (h : ¬ x ≤ 31) : 32 ≤ x := by
  have h1 := Int32.not_le.mp h
  rw [Int32.lt_iff_toInt_lt] at h1
  rw [Int32.le_iff_toInt_le]
  have e6 : (31 : Int32).toInt = 31 := by decide
  have e7 : (32 : Int32).toInt = 32 := by decide
  omega
theorem nle32 {x : Int32} (h : x ≤ 31) : ¬ 32 ≤ x := by
  intro h2
  rw [Int32.le_iff_toInt_le] at h h2
  have e6 : (31 : Int32).toInt = 31 := by decide
  have e7 : (32 : Int32).toInt = 32 := by decide
  omega
theorem hv1 {P : Prop} [Decidable P] {r : Int32} (hw : r = if P then 1 else 0) (h : ¬ r = 0) : decide P = true := decide_eq_true (bv1 hw h)
theorem hv0 {P : Prop} [Decidable P] {r : Int32} (hw : r = if P then 1 else 0) (h : r = 0) : decide P = false := decide_eq_false (bv0 hw h)
