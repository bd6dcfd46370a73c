/-! worlds of two parts -/
section AP
variable {A A0 : Nat → Prop} {D : va_G} {cl : List vw_C} {X C C1 : va_W} {H H1 : Heap}
theorem apP (h : va_P D cl (X ++ C) H) : va_P D cl C H := fun k q hk => h (X.length + k) q (by rw [List.getElem?_append_right (Nat.le_add_right _ _), Nat.add_sub_cancel_left]; exact hk)
theorem apP1 (h : va_P D cl (X ++ C) H) : va_P D cl X H := fun k q hk => h k q (by rw [List.getElem?_append_left (List.getElem?_eq_some_iff.mp hk).1]; exact hk)
theorem apD (h : va_D A (X ++ C)) : va_D A C := by
  have e : ∀ (k : Nat) (q : Nat × va_E), C[k]? = some q → (X ++ C)[X.length + k]? = some q := fun k q hk => by rw [List.getElem?_append_right (Nat.le_add_right _ _), Nat.add_sub_cancel_left]; exact hk
  exact ⟨fun i j p q hi hj hpq => by have := h.1 _ _ p q (e i p hi) (e j q hj) hpq; omega, fun k q hk => h.2 _ q (e k q hk)⟩
theorem apD1 (h : va_D A (X ++ C)) : va_D A X := by
  have e : ∀ (k : Nat) (q : Nat × va_E), X[k]? = some q → (X ++ C)[k]? = some q := fun k q hk => by rw [List.getElem?_append_left (List.getElem?_eq_some_iff.mp hk).1]; exact hk
  exact ⟨fun i j p q hi hj hpq => h.1 _ _ p q (e i p hi) (e j q hj) hpq, fun k q hk => h.2 _ q (e k q hk)⟩
theorem apN (h : va_D A (X ++ C)) {i j : Nat} {p q : Nat × va_E} (hi : X[i]? = some p) (hj : C[j]? = some q) : p.1 ≠ q.1 := by
  intro e
  have hl := (List.getElem?_eq_some_iff.mp hi).1
  have h1 := h.1 i (X.length + j) p q (by rw [List.getElem?_append_left hl]; exact hi) (by rw [List.getElem?_append_right (Nat.le_add_right _ _), Nat.add_sub_cancel_left]; exact hj) e
  omega
theorem jn2 (hP : va_P D cl (X ++ C) H) (hD : va_D A0 (X ++ C)) (hk : ∀ q : Nat, q < H.size → ¬ va_A C H.size q → H1[q]? = H[q]?) (hF : ∀ q : Nat, va_A C H.size q → A0 q) (hP1 : va_P D cl C1 H1) (hD1 : va_D (va_A C H.size) C1) : va_P D cl (X ++ C1) H1 ∧ va_D A0 (X ++ C1) := by
  have apart : ∀ (k : Nat) (q : Nat × va_E), X[k]? = some q → q.1 < H.size ∧ ¬ va_A C H.size q.1 := by
    intro k q hq
    have hl := (apP1 hP k q hq).lt
    refine ⟨hl, fun h => ?_⟩
    rcases h with ⟨j, e, h⟩ | h
    · exact apN hD hq h rfl
    · omega
  refine ⟨va_P.app (fun k q hq => ?_) hP1, va_D.app (apD1 hD) (hD1.weaken (fun k q _ h => hF q.1 h)) (fun i j x y hx hy hxy => ?_)⟩
  · exact (apP1 hP k q hq).kept (hk q.1 (apart k q hq).1 (apart k q hq).2)
  · exact (apart i x hx).2 (by rw [hxy]; exact hD1.2 j y hy)
theorem jn1 {Y : va_W} (hP : va_P D cl (C ++ Y) H) (hD : va_D A0 (C ++ Y)) (hk : ∀ q : Nat, q < H.size → ¬ va_A C H.size q → H1[q]? = H[q]?) (hF : ∀ q : Nat, va_A C H.size q → A0 q) (hP1 : va_P D cl C1 H1) (hD1 : va_D (va_A C H.size) C1) : va_P D cl (C1 ++ Y) H1 ∧ va_D A0 (C1 ++ Y) := by
  have apart : ∀ (k : Nat) (q : Nat × va_E), Y[k]? = some q → q.1 < H.size ∧ ¬ va_A C H.size q.1 := by
    intro k q hq
    have hl := (apP hP k q hq).lt
    refine ⟨hl, fun h => ?_⟩
    rcases h with ⟨j, e, h⟩ | h
    · exact apN hD h hq rfl
    · omega
  refine ⟨va_P.app hP1 (fun k q hq => ?_), va_D.app (hD1.weaken (fun k q _ h => hF q.1 h)) (apD hD) (fun i j x y hx hy hxy => ?_)⟩
  · exact (apP hP k q hq).kept (hk q.1 (apart k q hq).1 (apart k q hq).2)
  · exact (apart j y hy).2 (by rw [← hxy]; exact hD1.2 i x hx)
end AP
/-! bits -/
def bt (x : Int32) (i : Nat) : Bool := x.toBitVec.getLsbD i
theorem b_ext {x y : Int32} (h : ∀ i, i < 32 → bt x i = bt y i) : x = y := Int32.toBitVec_inj.mp (BitVec.eq_of_getLsbD_eq (fun i hi => h i hi))
theorem b_and (x y : Int32) (i : Nat) : bt (x &&& y) i = (bt x i && bt y i) := by unfold bt; rw [Int32.toBitVec_and, BitVec.getLsbD_and]
theorem b_xor (x y : Int32) (i : Nat) : bt (x ^^^ y) i = (bt x i ^^ bt y i) := by unfold bt; rw [Int32.toBitVec_xor, BitVec.getLsbD_xor]
theorem b_0 (i : Nat) : bt 0 i = false := BitVec.getLsbD_zero
theorem b_one : ∀ n, n < 5 → ∀ i, i < 32 → bt ((1 : Int32) <<< (nI n &&& 31)) i = decide (i = n) := by decide +kernel
theorem b_tst {x : Int32} {k : Nat} (hk : k < 5) : x &&& ((1 : Int32) <<< (nI k &&& 31)) = 0 ↔ bt x k = false := by
  constructor
  · intro h
    have h1 : bt (x &&& ((1 : Int32) <<< (nI k &&& 31))) k = bt 0 k := by rw [h]
    rw [b_and, b_one k hk k (by omega), b_0] at h1
    simpa using h1
  · intro h
    refine b_ext (fun i hi => ?_)
    rw [b_and, b_one k hk i hi, b_0]
    by_cases e : i = k
    · subst e; rw [h]; rfl
    · rw [decide_eq_false e, Bool.and_false]
theorem cb_bt {cb : Nat → Int32} {j k : Nat} (hk : k < 5) : cbit1 cb j k = if bt (cb j) k then 1 else 0 := by
  unfold cbit1
  by_cases h : bt (cb j) k = true
  · rw [if_pos h, if_neg (fun q => by rw [b_tst hk] at q; rw [q] at h; cases h)]
  · have h' : bt (cb j) k = false := by simpa using h
    rw [if_neg h, if_pos ((b_tst hk).mpr h')]
/-- a cable's bit flips in the row of j, at k -/
theorem cbx_bt {cb : Nat → Int32} {j k a b : Nat} (hk : k < 5) (hb : b < 5) : bt (cbx cb j k a) b = (bt (cb a) b ^^ decide (a = j ∧ b = k)) := by
  unfold cbx
  by_cases e : a = j
  · subst e
    rw [pk_us, b_xor, b_one k hk b (by omega)]
    by_cases e2 : b = k
    · subst e2; simp
    · simp [e2]
  · rw [pk_un e]
    simp [e]
/-! what the class and the reference have alike: the cables, and who is up -/
def lnk (cb : Nat → Int32) (F : Nat → Nat → Int32) : Prop := ∀ j k : Nat, j < 5 → k < 5 → j ≠ k → F 20 (5 * j + k) = (if bt (cb j) k then 0 else 1) ∧ bt (cb j) k = bt (cb k) j
def lnu (up : Nat → Int32) (F : Nat → Nat → Int32) : Prop := ∀ k : Nat, k < 5 → F 12 k = if up k = 0 then 1 else 0
theorem lnk_x {cb : Nat → Int32} {F F2 : Nat → Nat → Int32} {j k : Nat} {w : Int32} (h : lnk cb F) (hj : j < 5) (hk : k < 5) (hn : j ≠ k) (hw : w = if bt (cb j) k then 1 else 0) (h2 : F2 20 = upd (upd (F 20) (5 * j + k) w) (5 * k + j) w) : lnk (cbx (cbx cb j k) k j) F2 := by
  have bit : ∀ a b : Nat, b < 5 → bt (cbx (cbx cb j k) k j a) b = ((bt (cb a) b ^^ decide (a = j ∧ b = k)) ^^ decide (a = k ∧ b = j)) := fun a b hb => by rw [cbx_bt hj hb, cbx_bt hk hb]
  have sym := (h j k hj hk hn).2
  intro a b ha hb hab
  rw [h2, bit a b hb, bit b a ha]
  by_cases e1 : a = k ∧ b = j
  · obtain ⟨rfl, rfl⟩ := e1
    rw [pk_us, ← sym, hw, decide_eq_false (show ¬ (a = b ∧ b = a) from fun q => hn q.2), decide_eq_true (show a = a ∧ b = b from ⟨rfl, rfl⟩), decide_eq_false (show ¬ (b = a ∧ a = b) from fun q => hn q.1)]
    cases bt (cb b) a <;> simp
  · by_cases e2 : a = j ∧ b = k
    · obtain ⟨rfl, rfl⟩ := e2
      rw [pk_un (by omega), pk_us, ← sym, hw, decide_eq_false (show ¬ (a = b ∧ b = a) from fun q => hn q.1), decide_eq_true (show a = a ∧ b = b from ⟨rfl, rfl⟩), decide_eq_false (show ¬ (b = a ∧ a = b) from fun q => hn q.2)]
      cases bt (cb a) b <;> simp
    · rw [pk_un (by omega), pk_un (by omega), decide_eq_false e1, decide_eq_false e2, decide_eq_false (show ¬ (b = j ∧ a = k) from fun q => e1 ⟨q.2, q.1⟩), decide_eq_false (show ¬ (b = k ∧ a = j) from fun q => e2 ⟨q.2, q.1⟩)]
      have h3 := h a b ha hb hab
      simpa using h3
theorem lnk_c {cb : Nat → Int32} {F F2 : Nat → Nat → Int32} (h : lnk cb F) (e : F2 20 = F 20) : lnk cb F2 := fun j k hj hk hn => by rw [e]; exact h j k hj hk hn
theorem lnu_c {up : Nat → Int32} {F F2 : Nat → Nat → Int32} (h : lnu up F) (e : F2 12 = F 12) : lnu up F2 := fun k hk => by rw [e]; exact h k hk
theorem lnu_x {up : Nat → Int32} {F F2 : Nat → Nat → Int32} {k : Nat} {u w : Int32} (h : lnu up F) (hw : w = if u = 0 then 1 else 0) (e : F2 12 = upd (F 12) k w) : lnu (upd up k u) F2 := by
  intro i hi
  rw [e]
  by_cases q : i = k
  · subst q; rw [pk_us, pk_us]; exact hw
  · rw [pk_un q, pk_un q]; exact h i hi
theorem lnu_s {up : Nat → Int32} {F F2 : Nat → Nat → Int32} {k : Nat} {u : Int32} (h : lnu up F) (hk : k < 5) (hu : F 12 k = if u = 0 then 1 else 0) (e : F2 12 = F 12) : lnu (upd up k u) F2 := by
  intro i hi
  rw [e]
  by_cases q : i = k
  · subst q; rw [pk_us]; exact hu
  · rw [pk_un q]; exact h i hi
theorem lnk_0 {cb : Nat → Int32} {F : Nat → Nat → Int32} (hcb : ∀ i : Nat, i < 5 → cb i = cbv i) (hF : ∀ j : Nat, F 20 j = 0) : lnk cb F := by
  intro j k hj hk hn
  rw [hcb j hj, hcb k hk, hF]
  exact (by decide +kernel : ∀ j : Nat, j < 5 → ∀ k : Nat, k < 5 → j ≠ k → (0 : Int32) = (if bt (cbv j) k then 0 else 1) ∧ bt (cbv j) k = bt (cbv k) j) j hj k hk hn
theorem lnu_0 {F : Nat → Nat → Int32} (hF : ∀ j : Nat, F 12 j = 0) : lnu (fun _ => 1) F := fun k _ => by rw [hF]; exact (by decide : (0 : Int32) = if (1 : Int32) = 0 then 1 else 0)
theorem MI_0 {F : Nat → Nat → Int32} (h2 : ∀ j : Nat, F 2 j = 0) (h8 : ∀ j : Nat, F 8 j = 0) (h11 : ∀ j : Nat, F 11 j = 0) (h16 : ∀ j : Nat, F 16 j = 0) (h19 : ∀ j : Nat, F 19 j = 0) (h28 : ∀ j : Nat, F 28 j = 0) : MI F 1 0 := by
  refine ⟨fun y hy => ⟨0, by omega, h2 y, fun h => absurd h (Nat.lt_irrefl 0)⟩, fun i _ => ⟨0, by omega, h8 i⟩, fun i _ => ⟨0, by omega, h11 i⟩, fun i _ => ⟨0, by omega, h19 i⟩, fun i _ => Or.inr ⟨0, by omega, h16 i⟩, fun i _ => Or.inr ⟨0, by omega, h28 i⟩, fun i hi => absurd hi (Nat.not_lt_zero i), by omega, by omega⟩
/-! the class's world at the start -/
def tOf (pl : va_W) (kd : Nat → Nat × Nat) (a : Nat) : Nat × Nat := match pl.findIdx? (fun q => q.1 == a) with
  | some i => kd i
  | none => (0, 0)
theorem tOf_at {A : Nat → Prop} {pl : va_W} {kd : Nat → Nat × Nat} {a i : Nat} {c : va_E} (hD : va_D A pl) (h : pl[i]? = some (a, c)) : tOf pl kd a = kd i := by
  unfold tOf
  cases hf : pl.findIdx? (fun q => q.1 == a) with
  | none =>
    rw [List.findIdx?_eq_none_iff] at hf
    have h1 := hf (a, c) (List.mem_of_getElem? h)
    simp at h1
  | some j =>
    rw [List.findIdx?_eq_some_iff_getElem] at hf
    obtain ⟨h1, h2, -⟩ := hf
    have h3 : (pl[j]).1 = a := by simpa using h2
    have h4 := hD.1 j i pl[j] (a, c) (List.getElem?_eq_getElem h1) h h3
    subst h4
    rfl
theorem tOf_in {pl : va_W} {kd : Nat → Nat × Nat} {a : Nat} (h0 : (tOf pl kd a).1 ≠ 0) : ∃ (i : Nat) (c : va_E), pl[i]? = some (a, c) ∧ tOf pl kd a = kd i := by
  unfold tOf at h0 ⊢
  cases hf : pl.findIdx? (fun q => q.1 == a) with
  | none => rw [hf] at h0; exact absurd rfl h0
  | some j =>
    rw [List.findIdx?_eq_some_iff_getElem] at hf
    obtain ⟨h1, h2, -⟩ := hf
    have h3 : (pl[j]).1 = a := by simpa using h2
    refine ⟨j, (pl[j]).2, ?_, rfl⟩
    rw [List.getElem?_eq_getElem h1, ← h3]
def kd0 (i : Nat) : Nat × Nat := match i with
  | 0 => (7, 0)
  | 1 => (8, 0)
  | 2 => (9, 0)
  | 3 => (10, 0)
  | 4 => (5, 0)
  | 5 => (1, 0)
  | 6 => (2, 0)
  | 7 => (2, 0)
  | i => (12, i - 8)
def ad0 (x a1 a2 a3 a4 : Nat) (qs : Nat → Nat) (i : Nat) : Nat := if i = 0 then x else if i = 1 then a1 else if i = 2 then a2 else if i = 3 then a3 else if i = 4 then a4 else qs (i - 6)
theorem ad0_6 {x a1 a2 a3 a4 : Nat} {qs : Nat → Nat} (i : Nat) : ad0 x a1 a2 a3 a4 qs (6 + i) = qs i := by
  unfold ad0
  rw [if_neg (by omega), if_neg (by omega), if_neg (by omega), if_neg (by omega), if_neg (by omega), Nat.add_sub_cancel_left]
def xW (tC : Nat → ClassId) (dz x a1 a2 a3 a4 f e1 e2 : Nat) (qs : Nat → Nat) (fs : Nat → Option Nat) (cb : Nat → Int32) : va_W := [(x, .inr (5, [.ref a1, .ref a2, .ref a3, .ref a4])), (a1, wT tC 5 fs), (a2, wI tC 5 cb), (a3, .inr (0, [.int 0, .ref dz, .int 0])), (a4, wS tC 5 (fun _ => none)), (f, .inr (3, [.ref e1, .ref e2, .int 5, .int 0])), (e1, wI tC 0 (fun _ => 0)), (e2, wI tC 0 (fun _ => 0)), ((qs 0), .inr (4, [.int 0, .int 1, .ref f, .int 0, .int (-1), .null, .int (-1), .null])), ((qs 1), .inr (4, [.int 1, .int 1, .ref f, .int 0, .int (-1), .null, .int (-1), .null])), ((qs 2), .inr (4, [.int 2, .int 1, .ref f, .int 0, .int (-1), .null, .int (-1), .null])), ((qs 3), .inr (4, [.int 3, .int 1, .ref f, .int 0, .int (-1), .null, .int (-1), .null])), ((qs 4), .inr (4, [.int 4, .int 1, .ref f, .int 0, .int (-1), .null, .int (-1), .null]))]
theorem ok_0 {A : Nat → Prop} {tC : Nat → ClassId} {dz x a1 a2 a3 a4 f e1 e2 : Nat} {qs : Nat → Nat} {fs : Nat → Option Nat} {cb : Nat → Int32} (hfs : ∀ i : Nat, i < 5 → fs i = some (qs i)) (hD : va_D A (xW tC dz x a1 a2 a3 a4 f e1 e2 qs fs cb)) : Ok tC dz (tOf (xW tC dz x a1 a2 a3 a4 f e1 e2 qs fs cb) kd0) (ad0 x a1 a2 a3 a4 qs) dz cb (fun _ => 1) 0 0 (xW tC dz x a1 a2 a3 a4 f e1 e2 qs fs cb) := by
  generalize hpl : xW tC dz x a1 a2 a3 a4 f e1 e2 qs fs cb = pl at hD ⊢
  have at0 : ∀ (i a : Nat) (c : va_E), (xW tC dz x a1 a2 a3 a4 f e1 e2 qs fs cb)[i]? = some (a, c) → tOf pl kd0 a = kd0 i := fun i a c h => tOf_at hD (by rw [← hpl]; exact h)
  have g0 := at0 0 _ _ rfl
  have g1 := at0 1 _ _ rfl
  have g2 := at0 2 _ _ rfl
  have g3 := at0 3 _ _ rfl
  have g4 := at0 4 _ _ rfl
  have g5 := at0 5 _ _ rfl
  have g6 := at0 6 _ _ rfl
  have g7 := at0 7 _ _ rfl
  have gq : ∀ i : Nat, i < 5 → tOf pl kd0 (qs i) = (12, i) := fun i hi => by
    rcases (show i = 0 ∨ i = 1 ∨ i = 2 ∨ i = 3 ∨ i = 4 by omega) with rfl | rfl | rfl | rfl | rfl
    · exact at0 8 _ _ rfl
    · exact at0 9 _ _ rfl
    · exact at0 10 _ _ rfl
    · exact at0 11 _ _ rfl
    · exact at0 12 _ _ rfl
  have inv : ∀ a : Nat, (tOf pl kd0 a).1 ≠ 0 → ∃ (i : Nat) (c : va_E), (xW tC dz x a1 a2 a3 a4 f e1 e2 qs fs cb)[i]? = some (a, c) ∧ i < 13 ∧ pl[i]? = some (a, c) ∧ tOf pl kd0 a = kd0 i := fun a ha => by
    obtain ⟨i, c, h1, h2⟩ := tOf_in ha
    have h3 : (xW tC dz x a1 a2 a3 a4 f e1 e2 qs fs cb)[i]? = some (a, c) := by rw [hpl]; exact h1
    exact ⟨i, c, h3, (List.getElem?_eq_some_iff.mp h3).1, h1, h2⟩
  have f5 : (tOf pl kd0 f).1 = 1 := by rw [g5]; rfl
  refine ⟨fun a ha => ?_, ⟨g0, g1, g2, g3, g4, fun i hi => by rw [ad0_6]; exact gq i hi⟩, Or.inl ⟨rfl, rfl, rfl, fun a ha => ?_⟩, ⟨fun a ha => ?_, fun a ha => ?_, fun a ha => ?_, fun a ha => ?_⟩, Nat.le_refl 0, by omega, fun i _ => Or.inr rfl⟩
  · obtain ⟨i, c, h1, h2, h3, h4⟩ := inv a ha
    refine ⟨i, c, h3, ?_⟩
    rw [h4]
    rcases (show i = 0 ∨ i = 1 ∨ i = 2 ∨ i = 3 ∨ i = 4 ∨ i = 5 ∨ i = 6 ∨ i = 7 ∨ i = 8 ∨ i = 9 ∨ i = 10 ∨ i = 11 ∨ i = 12 by omega) with rfl | rfl | rfl | rfl | rfl | rfl | rfl | rfl | rfl | rfl | rfl | rfl | rfl <;> cases h1
    · exact ⟨cS.no (show 7 ≤ 7 by decide), fun _ => rfl, fun q => absurd q (show ¬ 7 = 8 by decide), fun q => absurd q (show ¬ 7 = 9 by decide), fun q => absurd q (show ¬ 7 = 10 by decide), fun q => absurd q (show ¬ 7 = 11 by decide), fun q => absurd q (show ¬ 7 = 12 by decide)⟩
    · exact ⟨cS.no (show 7 ≤ 8 by decide), fun q => absurd q (show ¬ 8 = 7 by decide), fun _ => ⟨fs, rfl, fun i hi => by rw [ad0_6]; exact hfs i hi⟩, fun q => absurd q (show ¬ 8 = 9 by decide), fun q => absurd q (show ¬ 8 = 10 by decide), fun q => absurd q (show ¬ 8 = 11 by decide), fun q => absurd q (show ¬ 8 = 12 by decide)⟩
    · exact ⟨cS.no (show 7 ≤ 9 by decide), fun q => absurd q (show ¬ 9 = 7 by decide), fun q => absurd q (show ¬ 9 = 8 by decide), fun _ => rfl, fun q => absurd q (show ¬ 9 = 10 by decide), fun q => absurd q (show ¬ 9 = 11 by decide), fun q => absurd q (show ¬ 9 = 12 by decide)⟩
    · exact ⟨cS.no (show 7 ≤ 10 by decide), cX.m10⟩
    · exact ⟨cS.m5 (fun _ _ => isK.no), cX.no (show 5 < 7 by decide)⟩
    · exact ⟨cS.m1 g6 g7 (by decide), cX.no (show 1 < 7 by decide)⟩
    · exact ⟨cS.m2, cX.no (show 2 < 7 by decide)⟩
    · exact ⟨cS.m2, cX.no (show 2 < 7 by decide)⟩
    · exact ⟨cS.no (show 7 ≤ 12 by decide), cX.m12 (ps := none) (op := none) f5 isK.no isK.no⟩
    · exact ⟨cS.no (show 7 ≤ 12 by decide), cX.m12 (ps := none) (op := none) f5 isK.no isK.no⟩
    · exact ⟨cS.no (show 7 ≤ 12 by decide), cX.m12 (ps := none) (op := none) f5 isK.no isK.no⟩
    · exact ⟨cS.no (show 7 ≤ 12 by decide), cX.m12 (ps := none) (op := none) f5 isK.no isK.no⟩
    · exact ⟨cS.no (show 7 ≤ 12 by decide), cX.m12 (ps := none) (op := none) f5 isK.no isK.no⟩
  all_goals
    obtain ⟨i, c, h1, h2, h3, h4⟩ := inv a (by omega)
    rw [h4] at ha
    rcases (show i = 0 ∨ i = 1 ∨ i = 2 ∨ i = 3 ∨ i = 4 ∨ i = 5 ∨ i = 6 ∨ i = 7 ∨ i = 8 ∨ i = 9 ∨ i = 10 ∨ i = 11 ∨ i = 12 by omega) with rfl | rfl | rfl | rfl | rfl | rfl | rfl | rfl | rfl | rfl | rfl | rfl | rfl <;> first | (exact absurd ha (by decide)) | (cases h1; rfl) | (cases h1; rw [h4]; exact ⟨by decide, rfl⟩)
