/-! pure methods: nothing that was there moves -/
def xN (sz : Nat) : Nat → Prop := fun q => sz ≤ q
theorem xN_A {pl : va_W} {sz : Nat} : ∀ q : Nat, xN sz q → va_A pl sz q := fun _ h => Or.inr h
theorem va_S.mono {A B : Nat → Prop} {H0 H : Heap} {locs : List Loc} (h : va_S A H0 H locs) (hAB : ∀ q : Nat, A q → B q) : va_S B H0 H locs := ⟨h.1, fun q hq hB => h.2.1 q hq (fun a => hB (hAB q a)), fun z hz => hAB _ (h.2.2 z hz)⟩
theorem keepP {D : va_G} {cl : List vw_C} {pl : va_W} {H H1 : Heap} (hP : va_P D cl pl H) (hk : ∀ q : Nat, q < H.size → ¬ xN H.size q → H1[q]? = H[q]?) : va_P D cl pl H1 := hP.kept (fun k q hq => hk q.1 (hP k q hq).lt (Nat.not_le.mpr (hP k q hq).lt))
theorem freeA {A : Nat → Prop} {pl : va_W} {H0 H : Heap} {locs : List Loc} (hD : va_D A pl) (hS : va_S A H0 H locs) (hA : ∀ q : Nat, H0.size ≤ q → A q) : ∀ q : Nat, va_A pl H.size q → A q := by
  intro q h
  rcases h with ⟨k, e, h⟩ | h
  · exact hD.2 k (q, e) h
  · exact hA q (Nat.le_trans hS.1 h)
theorem freeN {H0 H : Heap} {A : Nat → Prop} {locs : List Loc} (hS : va_S A H0 H locs) (hA : ∀ q : Nat, H0.size ≤ q → A q) : ∀ q : Nat, xN H.size q → A q := fun q h => hA q (Nat.le_trans hS.1 h)
theorem oldN {n : Nat} {A : Nat → Prop} : ∀ q : Nat, q < n → xN n q → A q := fun _ h1 h2 => absurd h2 (Nat.not_le.mpr h1)
theorem ixn {x : Int32} {n : Nat} (h : ¬ (x < 0 ∨ nI n ≤ x)) (hn : n < 2 ^ 31) : ∃ k : Nat, k < n ∧ x = nI k := by
  rcases pk_ix x (n := n) hn with h1 | h1 | h1
  · exact absurd (Or.inl h1) h
  · exact absurd (Or.inr h1) h
  · exact h1
theorem two5 {x y : Int32} (h1 : ¬ (x < 0 ∨ 5 ≤ x)) (h2 : ¬ (y < 0 ∨ 5 ≤ y)) (h3 : ¬ x = y) : ∃ j k : Nat, j < 5 ∧ k < 5 ∧ x = nI j ∧ y = nI k ∧ j ≠ k := by
  obtain ⟨j, hj, ej⟩ := ix5 h1
  obtain ⟨k, hk, ek⟩ := ix5 h2
  exact ⟨j, k, hj, hk, ej, ek, fun e => h3 (by rw [ej, ek, e])⟩
theorem Ok.rs31 {tC : Nat → ClassId} {dz : Nat} {t : Nat → Nat × Nat} {ad : Nat → Nat} {ed : Nat} {cb up : Nat → Int32} {rs cp : Nat} {pl : va_W} (hO : Ok tC dz t ad ed cb up rs cp pl) : rs < 2 ^ 31 := by
  have h1 := hO.2.2.2.2.1
  have h2 := hO.2.2.2.2.2.1
  omega
theorem Ok.cp31 {tC : Nat → ClassId} {dz : Nat} {t : Nat → Nat × Nat} {ad : Nat → Nat} {ed : Nat} {cb up : Nat → Int32} {rs cp : Nat} {pl : va_W} (hO : Ok tC dz t ad ed cb up rs cp pl) : cp < 2 ^ 31 := by
  have h2 := hO.2.2.2.2.2.1
  omega
theorem Ok.edt {tC : Nat → ClassId} {dz : Nat} {t : Nat → Nat × Nat} {ad : Nat → Nat} {ed : Nat} {cb up : Nat → Int32} {rs cp : Nat} {pl : va_W} (hO : Ok tC dz t ad ed cb up rs cp pl) {k : Nat} (hk : k < rs) : t ed = (11, ed) := by
  rcases hO.2.2.1 with ⟨-, h, -⟩ | h
  · omega
  · exact h.1
section LQ
variable {p : Program} {l : Launch} {e : Env} {R : Room} {s : State} {m : MethodId} {args : Array Value} {below : List Frame} {meth : Method} {c : Code} {H : Heap} {locs : List Loc} {cells slots : Nat} {Q : State → Prop}
variable {cc : ByteArray} {pc : Nat} {ls : Array Slot} {rest : List Value} {o : Option Nat}
theorem lv_aload_nQ (hexec : p.tables.exec = Jvm.exec) (hb : c.code = cc) {k : Fin 4} {i : Nat} (hdg : decode cc pc = .ok (.aload_n k, 1)) (hi : (k : Nat) = i) (hl : ls[i]? = some (.val (va_rf o)))
    (kk : W p l e R s m args below meth c H locs cells slots Q (F0 m (pc + 1) ls (va_rf o :: rest))) : W p l e R s m args below meth c H locs cells slots Q (F0 m pc ls (rest)) := by
  cases o with
  | none => exact lv_aload_nN hexec hb hdg hi hl kk
  | some x => exact lv_aload_n hexec hb hdg hi hl kk
theorem lv_aloadQ (hexec : p.tables.exec = Jvm.exec) (hb : c.code = cc) {i : Nat} (hdg : decode cc pc = .ok (.aload i, 2)) (hl : ls[i]? = some (.val (va_rf o)))
    (kk : W p l e R s m args below meth c H locs cells slots Q (F0 m (pc + 2) ls (va_rf o :: rest))) : W p l e R s m args below meth c H locs cells slots Q (F0 m pc ls (rest)) := by
  cases o with
  | none => exact lv_aloadN hexec hb hdg hl kk
  | some x => exact lv_aload hexec hb hdg hl kk
theorem lv_astore_nQ (hexec : p.tables.exec = Jvm.exec) (hb : c.code = cc) {k : Fin 4} {i nL : Nat} {lv lv' : List (Nat × Value)} (hdg : decode cc pc = .ok (.astore_n k, 1)) (hi : (k : Nat) = i) (h : lv_has ls nL lv) (hn : i < nL) (hl : (i, va_rf o) :: lv.filter (fun q => !(q.1 == i) && !(q.1 + 1 == i && q.2.category == 2)) = lv')
    (kk : ∀ ls' : Array Slot, lv_has ls' nL lv' → W p l e R s m args below meth c H locs cells slots Q (F0 m (pc + 1) ls' rest)) : W p l e R s m args below meth c H locs cells slots Q (F0 m pc ls (va_rf o :: rest)) := by
  cases o with
  | none => exact lv_astore_nN hexec hb hdg hi h hn hl kk
  | some x => exact lv_astore_n hexec hb hdg hi h hn hl kk
theorem lv_astoreQ (hexec : p.tables.exec = Jvm.exec) (hb : c.code = cc) {i nL : Nat} {lv lv' : List (Nat × Value)} (hdg : decode cc pc = .ok (.astore i, 2)) (h : lv_has ls nL lv) (hn : i < nL) (hl : (i, va_rf o) :: lv.filter (fun q => !(q.1 == i) && !(q.1 + 1 == i && q.2.category == 2)) = lv')
    (kk : ∀ ls' : Array Slot, lv_has ls' nL lv' → W p l e R s m args below meth c H locs cells slots Q (F0 m (pc + 2) ls' rest)) : W p l e R s m args below meth c H locs cells slots Q (F0 m pc ls (va_rf o :: rest)) := by
  cases o with
  | none => exact lv_astoreN hexec hb hdg h hn hl kk
  | some x => exact lv_astore hexec hb hdg h hn hl kk
end LQ
section LP
variable {p : Program} {l : Launch} {e : Env} {R : Room} {s : State} {m : MethodId} {args : Array Value} {below : List Frame} {meth : Method} {c : Code} {cells slots : Nat} {Q : State → Prop} {D : va_G} {pl : va_W} {A : Nat → Prop} {H0 : Heap}
/-- a loop that counts up to N and makes nothing: Iv and lvf say what holds, and what the locals are, when it comes to its head with the count i and the rest u -/
theorem lp {S : Type} (N i0 : Nat) (Iv : Nat → S → Prop) (lvf : Nat → S → List (Nat × Value)) {nL pc : Nat} {u0 : S} {H : Heap} {locs : List Loc} {ls : Array Slot}
    (done : ∀ (u : S) (H : Heap) (locs : List Loc) (ls : Array Slot), Iv N u → va_P D vwCl pl H → va_S A H0 H locs → lv_has ls nL (lvf N u) → W p l e R s m args below meth c H locs cells slots Q (F0 m pc ls []))
    (step : ∀ (i : Nat) (u : S) (H : Heap) (locs : List Loc) (ls : Array Slot), i < N → Iv i u → va_P D vwCl pl H → va_S A H0 H locs → lv_has ls nL (lvf i u) → (∀ (u : S) (H : Heap) (locs : List Loc) (ls : Array Slot), Iv (i + 1) u → va_P D vwCl pl H → va_S A H0 H locs → lv_has ls nL (lvf (i + 1) u) → W p l e R s m args below meth c H locs cells slots Q (F0 m pc ls [])) → W p l e R s m args below meth c H locs cells slots Q (F0 m pc ls []))
    (h0 : i0 ≤ N) (hI : Iv i0 u0) (hP : va_P D vwCl pl H) (hS : va_S A H0 H locs) (hl : lv_has ls nL (lvf i0 u0)) : W p l e R s m args below meth c H locs cells slots Q (F0 m pc ls []) := by
  have key : ∀ (k i : Nat), i + k = N → ∀ (u : S) (H : Heap) (locs : List Loc) (ls : Array Slot), Iv i u → va_P D vwCl pl H → va_S A H0 H locs → lv_has ls nL (lvf i u) → W p l e R s m args below meth c H locs cells slots Q (F0 m pc ls []) := by
    intro k
    induction k with
    | zero =>
      intro i hi u H locs ls g1 g2 g3 g4
      have e : i = N := by omega
      subst e
      exact done u H locs ls g1 g2 g3 g4
    | succ k ih =>
      intro i hi u H locs ls g1 g2 g3 g4
      exact step i u H locs ls (by omega) g1 g2 g3 g4 (fun u H locs ls q1 q2 q3 q4 => ih (i + 1) (by omega) u H locs ls q1 q2 q3 q4)
  exact key (N - i0) i0 (by omega) u0 H locs ls hI hP hS hl
end LP
theorem swo {z : Int32} {n : Nat} (h : ∀ j : Nat, j < n → ¬ z = nI j) (hn : n < 2 ^ 31) : z.toInt < 0 ∨ (n : Int) ≤ z.toInt := by
  rcases pk_ix z (n := n) hn with h1 | h1 | ⟨j, hj, e⟩
  · left
    have := Int32.lt_iff_toInt_lt.mp h1
    simpa using this
  · right
    have := Int32.le_iff_toInt_le.mp h1
    rw [nI_toInt hn] at this
    exact this
  · exact absurd e (h j hj)
