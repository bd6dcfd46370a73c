section OKG
variable {tC : Nat → ClassId} {dz : Nat} {t : Nat → Nat × Nat} {ad : Nat → Nat} {ed : Nat} {cb up : Nat → Int32} {rs cp : Nat} {pl : va_W}
theorem newP {x : Nat × va_E} {pl2 : va_W} (e : pl2 = pl ++ [x]) : ∃ k : Nat, pl2[k]? = some x := ⟨pl.length, by rw [e]; simp⟩
theorem keepA {j : Nat} {x : Nat × va_E} {w pl2 : va_W} (h : pl[j]? = some x) (e : pl2 = pl ++ w) : pl2[j]? = some x := by
  rw [e, List.getElem?_append_left (List.getElem?_eq_some_iff.mp h).1]
  exact h
theorem keepS {j k a q : Nat} {c c0 c1 : va_E} {pl2 : va_W} (hk : pl[k]? = some (a, c0)) (h : pl[j]? = some (q, c)) (hne : q ≠ a) (e : pl2 = pl.set k (a, c1)) : pl2[j]? = some (q, c) := by
  have hj : k ≠ j := fun z => by
    subst z
    rw [hk] at h
    exact hne (Prod.mk.inj (Option.some.inj h)).1.symm
  rw [e, List.getElem?_set_ne hj]
  exact h
theorem neT {a q k : Nat} (h0 : (t q).1 = 0) (ha : (t a).1 = k) (hk : k ≠ 0) : q ≠ a := fun e => by
  subst e
  exact hk (ha.symm.trans h0)
theorem neP {A : Nat → Prop} {i j a q : Nat} {x : Nat × List Value} {y : ClassId × vp_A} (hD : va_D A pl) (h1 : pl[i]? = some (a, .inr x)) (h2 : pl[j]? = some (q, .inl y)) : a ≠ q := fun e => by
  subst e
  have h3 := hD.1 i j _ _ h1 h2 rfl
  subst h3
  rw [h1] at h2
  cases (Prod.mk.inj (Option.some.inj h2)).2
theorem Ok.ta (hO : Ok tC dz t ad ed cb up rs cp pl) : (t (ad 0)).1 = 7 ∧ (t (ad 1)).1 = 8 ∧ (t (ad 2)).1 = 9 ∧ (t (ad 3)).1 = 10 ∧ (t (ad 4)).1 = 5 ∧ ∀ i : Nat, i < 5 → (t (ad (6 + i))).1 = 12 := by
  obtain ⟨-, ⟨f0, f1, f2, f3, f4, f5⟩, -⟩ := hO
  exact ⟨by rw [f0], by rw [f1], by rw [f2], by rw [f3], by rw [f4], fun i hi => by rw [f5 i hi]⟩
theorem cX.m10 {n : Nat} {mc : Int32} : cX tC t ad ed cb up rs cp 10 n (.inr (0, [.int mc, .ref ed, .int (nI rs)])) :=
  ⟨fun h => absurd h (by decide), fun h => absurd h (by decide), fun h => absurd h (by decide), fun _ => ⟨mc, rfl⟩, fun h => absurd h (by decide), fun h => absurd h (by decide)⟩
theorem cX.m11 {n : Nat} {f : Nat → Option Nat} (hf : ∀ i : Nat, i < rs → ∃ y : Nat, f i = some y ∧ (t y).1 = 3) : cX tC t ad ed cb up rs cp 11 n (wO tC cp f) :=
  ⟨fun h => absurd h (by decide), fun h => absurd h (by decide), fun h => absurd h (by decide), fun h => absurd h (by decide), fun _ _ => ⟨f, rfl, hf⟩, fun h => absurd h (by decide)⟩
theorem Ok.p2 (hO : Ok tC dz t ad ed cb up rs cp pl) {a k n : Nat} {c0 : va_E} {f : Nat → Int32} (ha : t a = (2, n)) (hk : pl[k]? = some (a, c0)) : Ok tC dz t ad ed cb up rs cp (pl.set k (a, wI tC n f)) :=
  hO.put hk (by rw [ha]; exact cS.m2) (by rw [ha]; exact cX.no (show 2 < 7 by decide))
theorem Ok.p11 (hO : Ok tC dz t ad ed cb up rs cp pl) {k : Nat} {c0 : va_E} {f : Nat → Option Nat} (he : t ed = (11, ed)) (hk : pl[k]? = some (ed, c0)) (hf : ∀ i : Nat, i < rs → ∃ y : Nat, f i = some y ∧ (t y).1 = 3) : Ok tC dz t ad ed cb up rs cp (pl.set k (ed, wO tC cp f)) :=
  hO.put hk (by rw [he]; exact cS.no (show 7 ≤ 11 by decide)) (by rw [he]; exact cX.m11 hf)
theorem Ok.pMc (hO : Ok tC dz t ad ed cb up rs cp pl) {k : Nat} {c0 : va_E} {mc : Int32} (hk : pl[k]? = some (ad 3, c0)) : Ok tC dz t ad ed cb up rs cp (pl.set k (ad 3, .inr (0, [.int mc, .ref ed, .int (nI rs)]))) :=
  hO.put hk (by rw [hO.2.1.2.2.2.1]; exact cS.no (by decide)) (by rw [hO.2.1.2.2.2.1]; exact cX.m10)
/-- the row's size is written -/
theorem Ok.pRow (hO : Ok tC dz t ad ed cb up rs cp pl) {A : Nat → Prop} {k j rs' : Nat} {c0 : va_E} {mc : Int32} {f : Nat → Option Nat} (he : t ed = (11, ed)) (hD : va_D A pl) (hk : pl[k]? = some (ad 3, c0)) (hj : pl[j]? = some (ed, wO tC cp f)) (hf : ∀ i : Nat, i < rs' → ∃ y : Nat, f i = some y ∧ (t y).1 = 3) (hr : rs' ≤ cp) : Ok tC dz t ad ed cb up rs' cp (pl.set k (ad 3, .inr (0, [.int mc, .ref ed, .int (nI rs')]))) := by
  have h := hO.2.1.2.2.2.1
  obtain ⟨g1, g2, g3, ⟨u1, u2, u3, u4⟩, g5, g6, g7⟩ := hO
  refine ⟨fun b hb => ?_, g2, ?_, ⟨u1, u2, u3, u4⟩, hr, g6, g7⟩
  · have hl : k < pl.length := (List.getElem?_eq_some_iff.mp hk).1
    by_cases e : b = ad 3
    · subst e
      refine ⟨k, _, List.getElem?_set_self hl, ?_, ?_⟩
      · rw [h]; exact cS.no (by decide)
      · rw [h]; exact cX.m10
    · obtain ⟨i, c, q1, q2, q3⟩ := g1 b hb
      have hi : k ≠ i := fun q => by
        subst q
        rw [hk] at q1
        exact e (Prod.mk.inj (Option.some.inj q1)).1.symm
      refine ⟨i, c, by rw [List.getElem?_set_ne hi]; exact q1, q2, q3.1, q3.2.1, q3.2.2.1, fun q => absurd (u2 b q) e, fun q qe => ?_, q3.2.2.2.2.2⟩
      have eb : b = ed := (u3 b q).symm.trans qe
      subst eb
      have e2 := hD.1 i j _ _ q1 hj rfl
      subst e2
      rw [q1] at hj
      have e3 : c = wO tC cp f := (Prod.mk.inj (Option.some.inj hj)).2
      exact ⟨f, e3, hf⟩
  · rcases g3 with ⟨a1, a2, a3, a4⟩ | g3
    · exact absurd (show (t ed).1 = 11 by rw [he]) (a4 ed)
    · exact Or.inr g3
/-- the row gets other places -/
theorem Ok.grow (hO : Ok tC dz t ad ed cb up rs cp pl) {k kq q cp2 : Nat} {c0 : va_E} {mc : Int32} {f : Nat → Option Nat} (hk : pl[k]? = some (ad 3, c0)) (hq : pl[kq]? = some (q, wO tC cp2 f)) (h0 : (t q).1 = 0) (hf : ∀ i : Nat, i < rs → ∃ y : Nat, f i = some y ∧ (t y).1 = 3) (h1 : 1 ≤ cp2) (h2 : rs ≤ cp2) (h3 : cp2 ≤ 1600) : Ok tC dz (tUp t q 11 q) ad q cb up rs cp2 (pl.set k (ad 3, .inr (0, [.int mc, .ref q, .int (nI rs)]))) := by
  have hle : tLe t (tUp t q 11 q) := tUp_le h0
  have h := hO.2.1.2.2.2.1
  have hne : ad 3 ≠ q := fun e => by
    rw [← e, h] at h0
    exact absurd h0 (by decide)
  obtain ⟨g1, ⟨f0, f1, f2, f3, f4, f5⟩, -, ⟨u1, u2, u3, u4⟩, g5, g6, g7⟩ := hO
  have old : ∀ a j : Nat, j ≠ 11 → (tUp t q 11 q a).1 = j → tUp t q 11 q a = t a := fun a j hj ha => tUp_ne (fun e => by
    subst e
    rw [tUp_at] at ha
    exact hj ha.symm)
  have hl : k < pl.length := (List.getElem?_eq_some_iff.mp hk).1
  have hf' : ∀ i : Nat, i < rs → ∃ y : Nat, f i = some y ∧ (tUp t q 11 q y).1 = 3 := fun i hi => by
    obtain ⟨y, y1, y2⟩ := hf i hi
    exact ⟨y, y1, hle.k y2 (by decide)⟩
  refine ⟨fun b hb => ?_, ⟨hle.at f0 (by decide), hle.at f1 (by decide), hle.at f2 (by decide), hle.at f3 (by decide), hle.at f4 (by decide), fun i hi => hle.at (f5 i hi) (by decide)⟩, Or.inr ⟨tUp_at _ _ _ _, h1⟩, ⟨fun a ha => ?_, fun a ha => ?_, fun a ha => ?_, fun a ha => ?_⟩, h2, h3, g7⟩
  · by_cases e : b = q
    · subst e
      rw [tUp_at]
      refine ⟨kq, _, keepS hk hq (fun e => hne e.symm) rfl, cS.no (show 7 ≤ 11 by decide), cX.m11 hf'⟩
    · rw [tUp_ne e] at hb ⊢
      by_cases e3 : b = ad 3
      · subst e3
        refine ⟨k, _, List.getElem?_set_self hl, ?_, ?_⟩
        · rw [h]; exact cS.no (by decide)
        · rw [h]; exact cX.m10
      · obtain ⟨i, c, q1, q2, q3⟩ := g1 b hb
        have q4 := q3.mono hle
        refine ⟨i, c, keepS hk q1 e3 rfl, q2.mono hle, q4.1, q4.2.1, q4.2.2.1, fun z => absurd (u2 b z) e3, fun z ze => absurd ((u3 b z).symm.trans ze) e, q4.2.2.2.2.2⟩
  · exact u1 a (by rw [← old a 9 (by decide) ha]; exact ha)
  · exact u2 a (by rw [← old a 10 (by decide) ha]; exact ha)
  · by_cases e : a = q
    · subst e; rw [tUp_at]
    · rw [tUp_ne e] at ha ⊢; exact u3 a ha
  · have e := old a 12 (by decide) ha
    rw [e] at ha ⊢
    exact u4 a ha
end OKG
section LPM
variable {p : Program} {l : Launch} {e : Env} {R : Room} {s : State} {m : MethodId} {args : Array Value} {below : List Frame} {meth : Method} {c : Code} {Q : State → Prop} {D : va_G} {A : Nat → Prop} {H0 : Heap}
/-- a loop that counts up to N, and makes and writes: I says of the world, cn and sn count what is made -/
theorem lpm (N : Nat) (I : Nat → (Nat → Nat × Nat) → Nat → Nat → Nat → va_W → Prop) (cn sn : Nat → Nat) (lvf : Nat → List (Nat × Value)) {nL pc : Nat} {t : Nat → Nat × Nat} {ed rs cp : Nat} {pl : va_W} {H : Heap} {locs : List Loc} {ls : Array Slot}
    (done : ∀ (t : Nat → Nat × Nat) (ed rs cp : Nat) (pl : va_W) (H : Heap) (locs : List Loc) (ls : Array Slot), I N t ed rs cp pl → va_P D vwCl pl H → va_D A pl → va_S A H0 H locs → lv_has ls nL (lvf N) → W p l e R s m args below meth c H locs (cn N) (sn N) Q (F0 m pc ls []))
    (step : ∀ i : Nat, i < N → (∀ (t : Nat → Nat × Nat) (ed rs cp : Nat) (pl : va_W) (H : Heap) (locs : List Loc) (ls : Array Slot), I (i + 1) t ed rs cp pl → va_P D vwCl pl H → va_D A pl → va_S A H0 H locs → lv_has ls nL (lvf (i + 1)) → W p l e R s m args below meth c H locs (cn (i + 1)) (sn (i + 1)) Q (F0 m pc ls [])) → ∀ (t : Nat → Nat × Nat) (ed rs cp : Nat) (pl : va_W) (H : Heap) (locs : List Loc) (ls : Array Slot), I i t ed rs cp pl → va_P D vwCl pl H → va_D A pl → va_S A H0 H locs → lv_has ls nL (lvf i) → W p l e R s m args below meth c H locs (cn i) (sn i) Q (F0 m pc ls []))
    (hI : I 0 t ed rs cp pl) (hP : va_P D vwCl pl H) (hD : va_D A pl) (hS : va_S A H0 H locs) (hl : lv_has ls nL (lvf 0)) : W p l e R s m args below meth c H locs (cn 0) (sn 0) Q (F0 m pc ls []) := by
  have key : ∀ (k i : Nat), i + k = N → ∀ (t : Nat → Nat × Nat) (ed rs cp : Nat) (pl : va_W) (H : Heap) (locs : List Loc) (ls : Array Slot), I i t ed rs cp pl → va_P D vwCl pl H → va_D A pl → va_S A H0 H locs → lv_has ls nL (lvf i) → W p l e R s m args below meth c H locs (cn i) (sn i) Q (F0 m pc ls []) := by
    intro k
    induction k with
    | zero =>
      intro i hi t ed rs cp pl H locs ls g1 g2 g3 g4 g5
      have e : i = N := by omega
      subst e
      exact done t ed rs cp pl H locs ls g1 g2 g3 g4 g5
    | succ k ih =>
      intro i hi
      exact step i (by omega) (ih (i + 1) (by omega))
  exact key N 0 (by omega) t ed rs cp pl H locs ls hI hP hD hS hl
end LPM
/-- a contract's start that knows the class object of Object[] -/
def pM (D : va_G) (tC : Nat → ClassId) (dz : Nat) (ws : va_W) (sz mi : Nat) (U : State) : Prop := va_Mi "[Ljava/lang/Object;" mi U ∧ pB D tC dz ws sz U
theorem pM_blind {D : va_G} {tC : Nat → ClassId} {dz : Nat} {ws : va_W} {sz mi : Nat} {av : List Value} : FrameBlind (va_Pc av (pM D tC dz ws sz mi)) := by
  intro a U g mk q
  obtain ⟨q0, qm, qb⟩ := q
  have h := pB_blind (D := D) (tC := tC) (dz := dz) (ws := ws) (sz := sz) (av := av) a U g mk ⟨q0, qb⟩
  exact ⟨q0, va_Mi.moved (u := U) (U := U.calling g mk a) (Vm.Alike.refl U.vm) qm, h.2⟩
theorem pM_at {D : va_G} {tC : Nat → ClassId} {dz mi : Nat} {wc : va_W} {A : Nat → Prop} {s : State} {H : Heap} {locs : List Loc} {av : List Value} (hM : va_Mi "[Ljava/lang/Object;" mi s) (hP : va_P D vwCl wc H) (hD : va_D A wc) (hK : va_K D vwCl (tY tC) s) (hN : eN s) (hE : eH dz A s s.heap) (hS : va_S A s.heap H locs) (hF : ∀ q, va_A wc H.size q → A q) (U : State) (hU : U.heap = H) (hW : s.WarmedH U.vm) : va_Pc av (pM D tC dz wc H.size mi) av.toArray U := by
  obtain ⟨h1, h2⟩ := pB_at (av := av) hP hD hK hN hE hS hF U hU hW
  exact ⟨h1, va_Mi.moved hW.alike hM, h2⟩
theorem grw {n : Nat} (h1 : 1 ≤ n) (h : n ≤ 100000) : ∃ k : Nat, n + 1 ≤ k ∧ k ≤ n + n / 2 + 1 ∧ nI n + (if nI (n + 1) - nI n < nI n >>> ((1 : Int32) &&& 31) then nI n >>> ((1 : Int32) &&& 31) else nI (n + 1) - nI n) = nI k := by
  have es : nI n >>> ((1 : Int32) &&& 31) = nI (n / 2) := by
    have k := pk_shrN (n := n) (by omega) ((1 : Int32) &&& 31) 1 (by decide)
    rw [Nat.pow_one] at k
    exact k
  have ed : nI (n + 1) - nI n = nI 1 := by
    have k := pk_sub (a := n + 1) (b := n) (by omega)
    rw [Nat.add_sub_cancel_left] at k
    exact k
  rw [es, ed]
  by_cases c : 1 < n / 2
  · rw [if_pos (nI_lt c (by omega)), nI_add]
    exact ⟨_, by omega, by omega, rfl⟩
  · rw [if_neg (nI_nlt (by omega) (by decide)), nI_add]
    exact ⟨_, by omega, by omega, rfl⟩
section ELS
variable {tC : Nat → ClassId} {dz : Nat} {t : Nat → Nat × Nat} {ad : Nat → Nat} {ed : Nat} {cb up : Nat → Int32} {rs cp : Nat} {pl : va_W} {D : va_G} {s : State} {H : Heap} {f g : Nat → Option Nat}
def lts (t : Nat → Nat × Nat) (n : Nat) (f : Nat → Option Nat) : Prop := ∀ i : Nat, i < n → ∃ y : Nat, f i = some y ∧ (t y).1 = 3
theorem elL (hO : Ok tC dz t ad ed cb up rs cp pl) (hK : va_K D vwCl (tY tC) s) (hP : va_P D vwCl pl H) (hf : lts t rs f) {i j y : Nat} (hi : j < rs) (e : i = j) (hy : f i = some y) : ∃ cellV : Cell, H[y]? = some cellV ∧ cellV.vm.isStatics = false ∧ s.vm.findClass "NoticeStations$Letter" = some cellV.cls := by
  subst e
  obtain ⟨y2, h1, h2⟩ := hf i hi
  have e2 : y2 = y := Option.some.inj (h1.symm.trans hy)
  subst e2
  obtain ⟨k, kd, nu, fr, to, o, h3, -⟩ := hO.k3 h2
  exact va_recv hK hP (ci := 1) rfl h3
theorem asgL (hN : eN s) : ∀ comp c0 : ClassId, s.vm.findClass "java/lang/Object" = some comp → s.vm.findClass "NoticeStations$Letter" = some c0 → s.vm.assignable c0 comp = true := by
  intro comp c0 h1 h2
  obtain ⟨c1, t1, f1, f2, f3⟩ := Cond.castable_spec (va_Nw.use (A := #[]) rfl (hN.2.2.2.2.1 ("NoticeStations$Letter", "java/lang/Object") (by decide +kernel)))
  have e1 : c1 = c0 := Option.some.inj (f1.symm.trans h2)
  have e2 : t1 = comp := Option.some.inj (f2.symm.trans h1)
  subst e1
  subst e2
  exact f3
theorem cpyL (hf : lts t rs f) {a b n : Nat} (ha : a = 0) (hb : b = 0) (hn : n = rs) : lts t rs (va_cpy f g a b n) := by
  subst ha hb hn
  intro i hi
  rw [pk_cpy_in (by omega) (by omega)]
  have e : 0 + (i - 0) = i := by omega
  rw [e]
  exact hf i hi
theorem cpyR {r k a b n : Nat} (hf : lts t (r + 1) f) (ha : a = k + 1) (hb : b = k) (hn : n = r - k) (hk : k < r) : lts t (r + 1) (va_cpy f f a b n) := by
  subst ha hb hn
  intro i hi
  by_cases c : b ≤ i ∧ i < b + (r - b)
  · rw [pk_cpy_in c.1 c.2]
    exact hf _ (by omega)
  · rw [pk_cpy_out (by omega)]
    exact hf i hi
theorem upL {n a y : Nat} (hf : lts t n f) (ha : a = n) (hy : (t y).1 = 3) : lts t (n + 1) (va_up f a (some y)) := by
  subst ha
  intro i hi
  unfold va_up
  by_cases e : i = a
  · rw [if_pos e]
    exact ⟨y, rfl, hy⟩
  · rw [if_neg e]
    exact hf i (by omega)
theorem upN {n a : Nat} {o : Option Nat} (hf : lts t n f) (ha : n ≤ a) : lts t n (va_up f a o) := by
  intro i hi
  unfold va_up
  rw [if_neg (by omega)]
  exact hf i hi
theorem lts.le {n k : Nat} (hf : lts t n f) (h : k ≤ n) : lts t k f := fun i hi => hf i (by omega)
end ELS
