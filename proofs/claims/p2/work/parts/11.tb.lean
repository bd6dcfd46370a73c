/-! pure methods: nothing that was there moves -/
def xN (sz : Nat) : Nat → Prop := fun q => sz ≤ q
theorem xN_A {pl : va_W} {sz : Nat} : ∀ q : Nat, xN sz q → va_A pl sz q := fun _ h => Or.inr h
theorem va_S.mono {A B : Nat → Prop} {H0 H : Heap} {locs : List Loc} (h : va_S A H0 H locs) (hAB : ∀ q : Nat, A q → B q) : va_S B H0 H locs := ⟨h.1, fun q hq hB => h.2.1 q hq (fun a => hB (hAB q a)), fun z hz => hAB _ (h.2.2 z hz)⟩
theorem keepP {D : va_G} {cl : List vw_C} {pl : va_W} {H H1 : Heap} (hP : va_P D cl pl H) (hk : ∀ q : Nat, q < H.size → ¬ xN H.size q → H1[q]? = H[q]?) : va_P D cl pl H1 := hP.kept (fun k q hq => hk q.1 (hP k q hq).lt (Nat.not_le.mpr (hP k q hq).lt))
theorem freeA {A : Nat → Prop} {pl : va_W} {H0 H : Heap} {locs : List Loc} (hD : va_D A pl) (hS : va_S A H0 H locs) (hA : ∀ q : Nat, H0.size ≤ q → A q) : ∀ q : Nat, va_A pl H.size q → A q := by
  intro q h
  rcases h with ⟨k, e, h⟩ | h
  · exact hD.2 k (q, e) h
  · exact hA q (Nat.le_trans hS.1 h)
theorem freeN {H0 H : Heap} {A : Nat → Prop} {locs : List Loc} (hS : va_S A H0 H locs) (hA : ∀ q : Nat, H0.size ≤ q → A q) : ∀ q : Nat, xN H.size q → A q := fun q h => hA q (Nat.le_trans hS.1 h)
theorem oldN {n : Nat} {A : Nat → Prop} : ∀ q : Nat, q < n → xN n q → A q := fun _ h1 h2 => absurd h2 (Nat.not_le.mpr h1)
