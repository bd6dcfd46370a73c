/-! THE CLASS'S WORLD: one list of cells, of which the typed ones keep a shape. t a: the kind of the cell at a (0: none), and a number. Kinds: 1 Standing of n entries, 2 int array of n places, 3 Letter, 4 OpenWrite, 5 five Standings or nulls, 6 five booleans, 7 the object, 8 its stations, 9 its cables, 10 its row, 11 the row's places, 12 Station n. ad: the object's own cells (0 itself, 1 stations, 2 cables, 3 row, 4 asIfGranted, 6 + i station i); ed: the row's places. -/
def isK (t : Nat → Nat × Nat) (k : Nat) (o : Option Nat) : Prop := ∀ y : Nat, o = some y → (t y).1 = k
def tLe (t t' : Nat → Nat × Nat) : Prop := ∀ a : Nat, (t a).1 ≠ 0 → t' a = t a
theorem tLe.rf {t : Nat → Nat × Nat} : tLe t t := fun _ _ => rfl
theorem tLe.trans {t t' t2 : Nat → Nat × Nat} (h : tLe t t') (h2 : tLe t' t2) : tLe t t2 := fun a ha => (h2 a (by rw [h a ha]; exact ha)).trans (h a ha)
theorem tLe.at {t t' : Nat → Nat × Nat} (h : tLe t t') {a k n : Nat} (ha : t a = (k, n)) (h0 : k ≠ 0) : t' a = (k, n) := (h a (by rw [ha]; exact h0)).trans ha
theorem tLe.k {t t' : Nat → Nat × Nat} (h : tLe t t') {a k : Nat} (ha : (t a).1 = k) (h0 : k ≠ 0) : (t' a).1 = k := by rw [h a (by rw [ha]; exact h0)]; exact ha
theorem isK.mono {t t' : Nat → Nat × Nat} (h : tLe t t') {k : Nat} {o : Option Nat} (h0 : k ≠ 0) (ho : isK t k o) : isK t' k o := fun y hy => h.k (ho y hy) h0
theorem isK.no {t : Nat → Nat × Nat} {k : Nat} : isK t k none := fun _ h => by cases h
theorem isK.so {t : Nat → Nat × Nat} {k y : Nat} (h : (t y).1 = k) : isK t k (some y) := fun z hz => by cases hz; exact h
/-- the kinds that speak of nothing but the typing -/
def cS (tC : Nat → ClassId) (t : Nat → Nat × Nat) (k n : Nat) (c : va_E) : Prop :=
  (k = 1 → ∃ (e u : Nat) (z d : Int32), c = .inr (3, [.ref e, .ref u, .int z, .int d]) ∧ t e = (2, n) ∧ t u = (2, n) ∧ n ≤ 16) ∧
  (k = 2 → ∃ f : Nat → Int32, c = wI tC n f) ∧
  (k = 3 → ∃ (kd nu : Int32) (fr to : Nat) (o : Option Nat), c = .inr (1, [.int kd, .int (nI fr), .int (nI to), .int nu, va_rf o]) ∧ fr < 5 ∧ to < 5 ∧ isK t 1 o) ∧
  (k = 4 → ∃ (nu en : Int32) (g b : Nat) (o : Option Nat), c = .inr (2, [.int nu, .int en, .ref g, .ref b, va_rf o]) ∧ (t g).1 = 5 ∧ (t b).1 = 6 ∧ isK t 1 o) ∧
  (k = 5 → ∃ f : Nat → Option Nat, c = wS tC 5 f ∧ ∀ i : Nat, i < 5 → isK t 1 (f i)) ∧
  (k = 6 → ∃ f : Nat → Int32, c = wZ tC 5 f)
/-- the object's own cells -/
def cX (tC : Nat → ClassId) (t : Nat → Nat × Nat) (ad : Nat → Nat) (ed : Nat) (cb up : Nat → Int32) (rs cp : Nat) (k n : Nat) (c : va_E) : Prop :=
  (k = 7 → c = .inr (5, [.ref (ad 1), .ref (ad 2), .ref (ad 3), .ref (ad 4)])) ∧
  (k = 8 → ∃ f : Nat → Option Nat, c = wT tC 5 f ∧ ∀ i : Nat, i < 5 → f i = some (ad (6 + i))) ∧
  (k = 9 → c = wI tC 5 cb) ∧
  (k = 10 → ∃ mc : Int32, c = .inr (0, [.int mc, .ref (ed), .int (nI rs)])) ∧
  (k = 11 → n = ed → ∃ f : Nat → Option Nat, c = wO tC cp f ∧ ∀ i : Nat, i < rs → ∃ y : Nat, f i = some y ∧ (t y).1 = 3) ∧
  (k = 12 → ∃ (st : Nat) (bg pn lk : Int32) (ps op : Option Nat), c = .inr (4, [.int (nI n), .int (up n), .ref st, .int bg, .int pn, va_rf ps, .int lk, va_rf op]) ∧ (t st).1 = 1 ∧ isK t 1 ps ∧ isK t 4 op)
theorem cS.mono {tC : Nat → ClassId} {t t' : Nat → Nat × Nat} (h : tLe t t') {k n : Nat} {c : va_E} (hc : cS tC t k n c) : cS tC t' k n c := by
  obtain ⟨h1, h2, h3, h4, h5, h6⟩ := hc
  refine ⟨fun e => ?_, h2, fun e => ?_, fun e => ?_, fun e => ?_, h6⟩
  · obtain ⟨a, b, z, d, q, q1, q2, q3⟩ := h1 e
    exact ⟨a, b, z, d, q, h.at q1 (by decide), h.at q2 (by decide), q3⟩
  · obtain ⟨kd, nu, fr, to, o, q, q1, q2, q3⟩ := h3 e
    exact ⟨kd, nu, fr, to, o, q, q1, q2, q3.mono h (by decide)⟩
  · obtain ⟨nu, en, g, b, o, q, q1, q2, q3⟩ := h4 e
    exact ⟨nu, en, g, b, o, q, h.k q1 (by decide), h.k q2 (by decide), q3.mono h (by decide)⟩
  · obtain ⟨f, q, q1⟩ := h5 e
    exact ⟨f, q, fun i hi => (q1 i hi).mono h (by decide)⟩
theorem cX.mono {tC : Nat → ClassId} {t t' : Nat → Nat × Nat} (h : tLe t t') {ad : Nat → Nat} {ed : Nat} {cb up : Nat → Int32} {rs cp k n : Nat} {c : va_E} (hc : cX tC t ad ed cb up rs cp k n c) : cX tC t' ad ed cb up rs cp k n c := by
  obtain ⟨h1, h2, h3, h4, h5, h6⟩ := hc
  refine ⟨h1, h2, h3, h4, fun e e2 => ?_, fun e => ?_⟩
  · obtain ⟨f, q, q1⟩ := h5 e e2
    refine ⟨f, q, fun i hi => ?_⟩
    obtain ⟨y, y1, y2⟩ := q1 i hi
    exact ⟨y, y1, h.k y2 (by decide)⟩
  · obtain ⟨st, bg, pn, lk, ps, op, q, q1, q2, q3⟩ := h6 e
    exact ⟨st, bg, pn, lk, ps, op, q, h.k q1 (by decide), q2.mono h (by decide), q3.mono h (by decide)⟩
/-- the world keeps its shape -/
def Ok (tC : Nat → ClassId) (dz : Nat) (t : Nat → Nat × Nat) (ad : Nat → Nat) (ed : Nat) (cb up : Nat → Int32) (rs cp : Nat) (pl : va_W) : Prop :=
  (∀ a : Nat, (t a).1 ≠ 0 → ∃ (k : Nat) (c : va_E), pl[k]? = some (a, c) ∧ cS tC t (t a).1 (t a).2 c ∧ cX tC t ad ed cb up rs cp (t a).1 (t a).2 c) ∧
  (t (ad 0) = (7, 0) ∧ t (ad 1) = (8, 0) ∧ t (ad 2) = (9, 0) ∧ t (ad 3) = (10, 0) ∧ t (ad 4) = (5, 0) ∧ ∀ i : Nat, i < 5 → t (ad (6 + i)) = (12, i)) ∧
  ((ed = dz ∧ rs = 0 ∧ cp = 0 ∧ ∀ a : Nat, (t a).1 ≠ 11) ∨ (t (ed) = (11, ed) ∧ 1 ≤ cp)) ∧
  ((∀ a : Nat, (t a).1 = 9 → a = ad 2) ∧ (∀ a : Nat, (t a).1 = 10 → a = ad 3) ∧ (∀ a : Nat, (t a).1 = 11 → (t a).2 = a) ∧ ∀ a : Nat, (t a).1 = 12 → (t a).2 < 5 ∧ a = ad (6 + (t a).2)) ∧ rs ≤ cp ∧ cp ≤ 1600 ∧ ∀ i : Nat, i < 5 → up i = 0 ∨ up i = 1
section OK
variable {tC : Nat → ClassId} {dz : Nat} {t : Nat → Nat × Nat} {ad : Nat → Nat} {ed : Nat} {cb up : Nat → Int32} {rs cp : Nat} {pl : va_W}
/-- a cell of its kind is written again: the world's shape stays -/
theorem Ok.put (hO : Ok tC dz t ad ed cb up rs cp pl) {k a : Nat} {c0 c1 : va_E} (hk : pl[k]? = some (a, c0)) (hs : cS tC t (t a).1 (t a).2 c1) (hx : cX tC t ad ed cb up rs cp (t a).1 (t a).2 c1) : Ok tC dz t ad ed cb up rs cp (pl.set k (a, c1)) := by
  refine ⟨fun b hb => ?_, hO.2⟩
  have hl : k < pl.length := (List.getElem?_eq_some_iff.mp hk).1
  by_cases e : b = a
  · subst e
    exact ⟨k, c1, by rw [List.getElem?_set_self hl], hs, hx⟩
  · obtain ⟨j, c, h1, h2⟩ := hO.1 b hb
    have hj : k ≠ j := fun q => by
      subst q
      rw [hk] at h1
      exact e (Prod.mk.inj (Option.some.inj h1)).1.symm
    exact ⟨j, c, by rw [List.getElem?_set_ne hj]; exact h1, h2⟩
/-- .. also an untyped one -/
theorem Ok.put0 (hO : Ok tC dz t ad ed cb up rs cp pl) {k a : Nat} {c0 c1 : va_E} (hk : pl[k]? = some (a, c0)) (h0 : (t a).1 = 0) : Ok tC dz t ad ed cb up rs cp (pl.set k (a, c1)) := by
  refine ⟨fun b hb => ?_, hO.2⟩
  obtain ⟨j, c, h1, h2⟩ := hO.1 b hb
  have hj : k ≠ j := fun q => by
    subst q
    rw [hk] at h1
    have e : a = b := (Prod.mk.inj (Option.some.inj h1)).1
    subst e
    exact hb h0
  exact ⟨j, c, by rw [List.getElem?_set_ne hj]; exact h1, h2⟩
/-- a new cell, without a type -/
theorem Ok.more (hO : Ok tC dz t ad ed cb up rs cp pl) (w : va_W) : Ok tC dz t ad ed cb up rs cp (pl ++ w) := by
  refine ⟨fun b hb => ?_, hO.2⟩
  obtain ⟨j, c, h1, h2⟩ := hO.1 b hb
  exact ⟨j, c, by rw [List.getElem?_append_left (List.getElem?_eq_some_iff.mp h1).1]; exact h1, h2⟩
theorem Ok.new0 (hO : Ok tC dz t ad ed cb up rs cp pl) {A : Nat → Prop} {q : Nat} {c : va_E} (hD : va_D A (pl ++ [(q, c)])) : (t q).1 = 0 := by
  by_cases h : (t q).1 = 0
  · exact h
  · obtain ⟨j, c2, h1, -⟩ := hO.1 q h
    have hl := (List.getElem?_eq_some_iff.mp h1).1
    have e := hD.1 j pl.length (q, c2) (q, c) (by rw [List.getElem?_append_left hl]; exact h1) (by simp) rfl
    omega
def tUp (t : Nat → Nat × Nat) (q k n : Nat) : Nat → Nat × Nat := fun a => if a = q then (k, n) else t a
theorem tUp_at (t : Nat → Nat × Nat) (q k n : Nat) : tUp t q k n q = (k, n) := by unfold tUp; rw [if_pos rfl]
theorem tUp_ne {t : Nat → Nat × Nat} {q k n a : Nat} (h : a ≠ q) : tUp t q k n a = t a := by unfold tUp; rw [if_neg h]
theorem tUp_le {t : Nat → Nat × Nat} {q k n : Nat} (h0 : (t q).1 = 0) : tLe t (tUp t q k n) := fun a ha => tUp_ne (fun e => by subst e; exact ha h0)
/-- an untyped cell gets its type -/
theorem Ok.ty (hO : Ok tC dz t ad ed cb up rs cp pl) {j q k n : Nat} {c : va_E} (hj : pl[j]? = some (q, c)) (h0 : (t q).1 = 0) (hk : k < 7) (hc : cS tC (tUp t q k n) k n c) : Ok tC dz (tUp t q k n) ad ed cb up rs cp pl := by
  have hle : tLe t (tUp t q k n) := tUp_le h0
  obtain ⟨h1, ⟨f0, f1, f2, f3, f4, f5⟩, h3, ⟨u1, u2, u3, u4⟩, h5⟩ := hO
  have old : ∀ a : Nat, 7 ≤ (tUp t q k n a).1 → tUp t q k n a = t a := fun a ha => tUp_ne (fun e => by
    subst e
    rw [tUp_at] at ha
    exact absurd ha (by show ¬ 7 ≤ k; omega))
  refine ⟨fun b hb => ?_, ⟨hle.at f0 (by decide), hle.at f1 (by decide), hle.at f2 (by decide), hle.at f3 (by decide), hle.at f4 (by decide), fun i hi => hle.at (f5 i hi) (by decide)⟩, ?_, ⟨fun a ha => ?_, fun a ha => ?_, fun a ha => ?_, fun a ha => ?_⟩, h5⟩
  · by_cases e : b = q
    · subst e
      rw [tUp_at]
      refine ⟨j, c, hj, hc, ?_, ?_, ?_, ?_, ?_, ?_⟩ <;> intro e <;> exact absurd (show k = _ from e) (by omega)
    · rw [tUp_ne e] at hb ⊢
      obtain ⟨i, c2, g1, g2, g3⟩ := h1 b hb
      exact ⟨i, c2, g1, g2.mono hle, g3.mono hle⟩
  · rcases h3 with ⟨a1, a2, a3, a4⟩ | h3
    · exact Or.inl ⟨a1, a2, a3, fun a ha => a4 a (by rw [← old a (by omega)]; exact ha)⟩
    · exact Or.inr ⟨hle.at h3.1 (by decide), h3.2⟩
  · exact u1 a (by rw [← old a (by omega)]; exact ha)
  · exact u2 a (by rw [← old a (by omega)]; exact ha)
  · have e := old a (by omega)
    rw [e] at ha ⊢
    exact u3 a ha
  · have e := old a (by omega)
    rw [e] at ha ⊢
    exact u4 a ha
/-! what a typed cell holds -/
theorem Ok.k1 (hO : Ok tC dz t ad ed cb up rs cp pl) {a n : Nat} (h : t a = (1, n)) : ∃ (k e u : Nat) (z d : Int32), pl[k]? = some (a, .inr (3, [.ref e, .ref u, .int z, .int d])) ∧ t e = (2, n) ∧ t u = (2, n) ∧ n ≤ 16 := by
  obtain ⟨k, c, h1, h2, -⟩ := hO.1 a (by rw [h]; exact (by decide : (1 : Nat) ≠ 0))
  rw [h] at h2
  obtain ⟨e, u, z, d, q, r⟩ := h2.1 rfl
  subst q
  exact ⟨k, e, u, z, d, h1, r⟩
theorem Ok.k2 (hO : Ok tC dz t ad ed cb up rs cp pl) {a n : Nat} (h : t a = (2, n)) : ∃ (k : Nat) (f : Nat → Int32), pl[k]? = some (a, wI tC n f) := by
  obtain ⟨k, c, h1, h2, -⟩ := hO.1 a (by rw [h]; exact (by decide : (2 : Nat) ≠ 0))
  rw [h] at h2
  obtain ⟨f, q⟩ := h2.2.1 rfl
  subst q
  exact ⟨k, f, h1⟩
theorem Ok.k3 (hO : Ok tC dz t ad ed cb up rs cp pl) {a : Nat} (h : (t a).1 = 3) : ∃ (k : Nat) (kd nu : Int32) (fr to : Nat) (o : Option Nat), pl[k]? = some (a, .inr (1, [.int kd, .int (nI fr), .int (nI to), .int nu, va_rf o])) ∧ fr < 5 ∧ to < 5 ∧ isK t 1 o := by
  obtain ⟨k, c, h1, h2, -⟩ := hO.1 a (by rw [h]; decide)
  obtain ⟨kd, nu, fr, to, o, q, r⟩ := h2.2.2.1 h
  subst q
  exact ⟨k, kd, nu, fr, to, o, h1, r⟩
theorem Ok.k4 (hO : Ok tC dz t ad ed cb up rs cp pl) {a : Nat} (h : (t a).1 = 4) : ∃ (k : Nat) (nu en : Int32) (g b : Nat) (o : Option Nat), pl[k]? = some (a, .inr (2, [.int nu, .int en, .ref g, .ref b, va_rf o])) ∧ (t g).1 = 5 ∧ (t b).1 = 6 ∧ isK t 1 o := by
  obtain ⟨k, c, h1, h2, -⟩ := hO.1 a (by rw [h]; decide)
  obtain ⟨nu, en, g, b, o, q, r⟩ := h2.2.2.2.1 h
  subst q
  exact ⟨k, nu, en, g, b, o, h1, r⟩
theorem Ok.k5 (hO : Ok tC dz t ad ed cb up rs cp pl) {a : Nat} (h : (t a).1 = 5) : ∃ (k : Nat) (f : Nat → Option Nat), pl[k]? = some (a, wS tC 5 f) ∧ ∀ i : Nat, i < 5 → isK t 1 (f i) := by
  obtain ⟨k, c, h1, h2, -⟩ := hO.1 a (by rw [h]; decide)
  obtain ⟨f, q, r⟩ := h2.2.2.2.2.1 h
  subst q
  exact ⟨k, f, h1, r⟩
theorem Ok.k6 (hO : Ok tC dz t ad ed cb up rs cp pl) {a : Nat} (h : (t a).1 = 6) : ∃ (k : Nat) (f : Nat → Int32), pl[k]? = some (a, wZ tC 5 f) := by
  obtain ⟨k, c, h1, h2, -⟩ := hO.1 a (by rw [h]; decide)
  obtain ⟨f, q⟩ := h2.2.2.2.2.2 h
  subst q
  exact ⟨k, f, h1⟩
theorem Ok.k7 (hO : Ok tC dz t ad ed cb up rs cp pl) : ∃ k : Nat, pl[k]? = some (ad 0, .inr (5, [.ref (ad 1), .ref (ad 2), .ref (ad 3), .ref (ad 4)])) := by
  have h := hO.2.1.1
  obtain ⟨k, c, h1, -, h2⟩ := hO.1 (ad 0) (by rw [h]; decide)
  rw [h] at h2
  have q := h2.1 rfl
  subst q
  exact ⟨k, h1⟩
theorem Ok.k8 (hO : Ok tC dz t ad ed cb up rs cp pl) : ∃ (k : Nat) (f : Nat → Option Nat), pl[k]? = some (ad 1, wT tC 5 f) ∧ ∀ i : Nat, i < 5 → f i = some (ad (6 + i)) := by
  have h := hO.2.1.2.1
  obtain ⟨k, c, h1, -, h2⟩ := hO.1 (ad 1) (by rw [h]; decide)
  rw [h] at h2
  obtain ⟨f, q, r⟩ := h2.2.1 rfl
  subst q
  exact ⟨k, f, h1, r⟩
theorem Ok.k9 (hO : Ok tC dz t ad ed cb up rs cp pl) : ∃ k : Nat, pl[k]? = some (ad 2, wI tC 5 cb) := by
  have h := hO.2.1.2.2.1
  obtain ⟨k, c, h1, -, h2⟩ := hO.1 (ad 2) (by rw [h]; decide)
  rw [h] at h2
  have q := h2.2.2.1 rfl
  subst q
  exact ⟨k, h1⟩
theorem Ok.k10 (hO : Ok tC dz t ad ed cb up rs cp pl) : ∃ (k : Nat) (mc : Int32), pl[k]? = some (ad 3, .inr (0, [.int mc, .ref (ed), .int (nI rs)])) := by
  have h := hO.2.1.2.2.2.1
  obtain ⟨k, c, h1, -, h2⟩ := hO.1 (ad 3) (by rw [h]; decide)
  rw [h] at h2
  obtain ⟨mc, q⟩ := h2.2.2.2.1 rfl
  subst q
  exact ⟨k, mc, h1⟩
theorem Ok.k11 (hO : Ok tC dz t ad ed cb up rs cp pl) (h : t (ed) = (11, ed)) : ∃ (k : Nat) (f : Nat → Option Nat), pl[k]? = some (ed, wO tC cp f) ∧ ∀ i : Nat, i < rs → ∃ y : Nat, f i = some y ∧ (t y).1 = 3 := by
  obtain ⟨k, c, h1, -, h2⟩ := hO.1 (ed) (by rw [h]; exact (by decide : (11 : Nat) ≠ 0))
  rw [h] at h2
  obtain ⟨f, q, r⟩ := h2.2.2.2.2.1 rfl rfl
  subst q
  exact ⟨k, f, h1, r⟩
theorem Ok.k12 (hO : Ok tC dz t ad ed cb up rs cp pl) {i : Nat} (hi : i < 5) : ∃ (k st : Nat) (bg pn lk : Int32) (ps op : Option Nat), pl[k]? = some (ad (6 + i), .inr (4, [.int (nI i), .int (up i), .ref st, .int bg, .int pn, va_rf ps, .int lk, va_rf op])) ∧ (t st).1 = 1 ∧ isK t 1 ps ∧ isK t 4 op := by
  have h := hO.2.1.2.2.2.2.2 i hi
  obtain ⟨k, c, h1, -, h2⟩ := hO.1 (ad (6 + i)) (by rw [h]; exact (by decide : (12 : Nat) ≠ 0))
  rw [h] at h2
  obtain ⟨st, bg, pn, lk, ps, op, q, r⟩ := h2.2.2.2.2.2 rfl
  subst q
  exact ⟨k, st, bg, pn, lk, ps, op, h1, r⟩
/-! a cell of a kind, made -/
theorem cS.no {k n : Nat} {c : va_E} (h : 7 ≤ k) : cS tC t k n c := by
  refine ⟨?_, ?_, ?_, ?_, ?_, ?_⟩ <;> intro e <;> omega
theorem cX.no {k n : Nat} {c : va_E} (h : k < 7) : cX tC t ad ed cb up rs cp k n c := by
  refine ⟨?_, ?_, ?_, ?_, ?_, ?_⟩ <;> intro e <;> omega
theorem cS.m1 {n e u : Nat} {z d : Int32} (he : t e = (2, n)) (hu : t u = (2, n)) (hn : n ≤ 16) : cS tC t 1 n (.inr (3, [.ref e, .ref u, .int z, .int d])) :=
  ⟨fun _ => ⟨e, u, z, d, rfl, he, hu, hn⟩, fun h => absurd h (by decide), fun h => absurd h (by decide), fun h => absurd h (by decide), fun h => absurd h (by decide), fun h => absurd h (by decide)⟩
theorem cS.m2 {n : Nat} {f : Nat → Int32} : cS tC t 2 n (wI tC n f) :=
  ⟨fun h => absurd h (by decide), fun _ => ⟨f, rfl⟩, fun h => absurd h (by decide), fun h => absurd h (by decide), fun h => absurd h (by decide), fun h => absurd h (by decide)⟩
theorem cS.m3 {n fr to : Nat} {kd nu : Int32} {o : Option Nat} (h1 : fr < 5) (h2 : to < 5) (h3 : isK t 1 o) : cS tC t 3 n (.inr (1, [.int kd, .int (nI fr), .int (nI to), .int nu, va_rf o])) :=
  ⟨fun h => absurd h (by decide), fun h => absurd h (by decide), fun _ => ⟨kd, nu, fr, to, o, rfl, h1, h2, h3⟩, fun h => absurd h (by decide), fun h => absurd h (by decide), fun h => absurd h (by decide)⟩
theorem cS.m4 {n g b : Nat} {nu en : Int32} {o : Option Nat} (h1 : (t g).1 = 5) (h2 : (t b).1 = 6) (h3 : isK t 1 o) : cS tC t 4 n (.inr (2, [.int nu, .int en, .ref g, .ref b, va_rf o])) :=
  ⟨fun h => absurd h (by decide), fun h => absurd h (by decide), fun h => absurd h (by decide), fun _ => ⟨nu, en, g, b, o, rfl, h1, h2, h3⟩, fun h => absurd h (by decide), fun h => absurd h (by decide)⟩
theorem cS.m5 {n : Nat} {f : Nat → Option Nat} (h1 : ∀ i : Nat, i < 5 → isK t 1 (f i)) : cS tC t 5 n (wS tC 5 f) :=
  ⟨fun h => absurd h (by decide), fun h => absurd h (by decide), fun h => absurd h (by decide), fun h => absurd h (by decide), fun _ => ⟨f, rfl, h1⟩, fun h => absurd h (by decide)⟩
theorem cS.m6 {n : Nat} {f : Nat → Int32} : cS tC t 6 n (wZ tC 5 f) :=
  ⟨fun h => absurd h (by decide), fun h => absurd h (by decide), fun h => absurd h (by decide), fun h => absurd h (by decide), fun h => absurd h (by decide), fun _ => ⟨f, rfl⟩⟩
theorem cX.m12 {n st : Nat} {bg pn lk : Int32} {ps op : Option Nat} (h1 : (t st).1 = 1) (h2 : isK t 1 ps) (h3 : isK t 4 op) : cX tC t ad ed cb up rs cp 12 n (.inr (4, [.int (nI n), .int (up n), .ref st, .int bg, .int pn, va_rf ps, .int lk, va_rf op])) :=
  ⟨fun h => absurd h (by decide), fun h => absurd h (by decide), fun h => absurd h (by decide), fun h => absurd h (by decide), fun h => absurd h (by decide), fun _ => ⟨st, bg, pn, lk, ps, op, rfl, h1, h2, h3⟩⟩
/-! puts: into a station, an open write, its two arrays -/
theorem Ok.p12 (hO : Ok tC dz t ad ed cb up rs cp pl) {i k st : Nat} {c0 : va_E} {bg pn lk : Int32} {ps op : Option Nat} (hi : i < 5) (hk : pl[k]? = some (ad (6 + i), c0)) (h1 : (t st).1 = 1) (h2 : isK t 1 ps) (h3 : isK t 4 op) : Ok tC dz t ad ed cb up rs cp (pl.set k (ad (6 + i), .inr (4, [.int (nI i), .int (up i), .ref st, .int bg, .int pn, va_rf ps, .int lk, va_rf op]))) := by
  have h := hO.2.1.2.2.2.2.2 i hi
  exact hO.put hk (by rw [h]; exact cS.no (show 7 ≤ 12 by decide)) (by rw [h]; exact cX.m12 h1 h2 h3)
theorem Ok.p4 (hO : Ok tC dz t ad ed cb up rs cp pl) {a k g b : Nat} {c0 : va_E} {nu en : Int32} {o : Option Nat} (ha : (t a).1 = 4) (hk : pl[k]? = some (a, c0)) (h1 : (t g).1 = 5) (h2 : (t b).1 = 6) (h3 : isK t 1 o) : Ok tC dz t ad ed cb up rs cp (pl.set k (a, .inr (2, [.int nu, .int en, .ref g, .ref b, va_rf o]))) :=
  hO.put hk (by rw [ha]; exact cS.m4 h1 h2 h3) (by rw [ha]; exact cX.no (by decide))
theorem Ok.p5 (hO : Ok tC dz t ad ed cb up rs cp pl) {a k : Nat} {c0 : va_E} {f : Nat → Option Nat} (ha : (t a).1 = 5) (hk : pl[k]? = some (a, c0)) (h1 : ∀ i : Nat, i < 5 → isK t 1 (f i)) : Ok tC dz t ad ed cb up rs cp (pl.set k (a, wS tC 5 f)) :=
  hO.put hk (by rw [ha]; exact cS.m5 h1) (by rw [ha]; exact cX.no (by decide))
theorem Ok.p6 (hO : Ok tC dz t ad ed cb up rs cp pl) {a k : Nat} {c0 : va_E} {f : Nat → Int32} (ha : (t a).1 = 6) (hk : pl[k]? = some (a, c0)) : Ok tC dz t ad ed cb up rs cp (pl.set k (a, wZ tC 5 f)) :=
  hO.put hk (by rw [ha]; exact cS.m6) (by rw [ha]; exact cX.no (by decide))
theorem isK.at5 {f : Nat → Option Nat} {j : Nat} {o : Option Nat} (h : ∀ i : Nat, i < 5 → isK t 1 (f i)) (ho : isK t 1 o) : ∀ i : Nat, i < 5 → isK t 1 (va_up f j o i) := by
  intro i hi
  unfold va_up
  by_cases e : i = j
  · rw [if_pos e]; exact ho
  · rw [if_neg e]; exact h i hi
theorem tk {k a : Nat} (h : (t a).1 = k) : ∃ n : Nat, t a = (k, n) := ⟨(t a).2, by rw [← h]⟩
theorem tk1 {k n a : Nat} (h : t a = (k, n)) : (t a).1 = k := by rw [h]
theorem setP {pl2 : va_W} {k a : Nat} {c0 c1 : va_E} (hk : pl[k]? = some (a, c0)) (e : pl2 = pl.set k (a, c1)) : pl2[k]? = some (a, c1) := by
  rw [e]
  exact List.getElem?_set_self (List.getElem?_eq_some_iff.mp hk).1
end OK
/-- a station that is in doubt; an open write that prepares -/
def stD (t : Nat → Nat × Nat) (ad : Nat → Nat) (up : Nat → Int32) (pl : va_W) (i : Nat) : Prop := ∃ (k st : Nat) (bg pn lk : Int32) (y : Nat) (op : Option Nat), pl[k]? = some (ad (6 + i), .inr (4, [.int (nI i), .int (up i), .ref st, .int bg, .int pn, .ref y, .int lk, va_rf op])) ∧ (t st).1 = 1 ∧ (t y).1 = 1 ∧ isK t 4 op
def opN (t : Nat → Nat × Nat) (pl : va_W) (a : Nat) : Prop := ∃ (k : Nat) (nu en : Int32) (g b y : Nat), pl[k]? = some (a, .inr (2, [.int nu, .int en, .ref g, .ref b, .ref y])) ∧ (t g).1 = 5 ∧ (t b).1 = 6 ∧ (t y).1 = 1
