section OKU
variable {tC : Nat → ClassId} {dz : Nat} {t : Nat → Nat × Nat} {ad : Nat → Nat} {ed : Nat} {cb up : Nat → Int32} {rs cp : Nat} {pl : va_W}
/-- a station's up flag is written -/
theorem Ok.pUp (hO : Ok tC dz t ad ed cb up rs cp pl) {i k st : Nat} {c0 : va_E} {v bg pn lk : Int32} {ps op : Option Nat} (hi : i < 5) (hv : v = 0 ∨ v = 1) (hk : pl[k]? = some (ad (6 + i), c0)) (h1 : (t st).1 = 1) (h2 : isK t 1 ps) (h3 : isK t 4 op) : Ok tC dz t ad ed cb (upd up i v) rs cp (pl.set k (ad (6 + i), .inr (4, [.int (nI i), .int v, .ref st, .int bg, .int pn, va_rf ps, .int lk, va_rf op]))) := by
  have h := hO.2.1.2.2.2.2.2 i hi
  obtain ⟨g1, g2, g3, ⟨u1, u2, u3, u4⟩, g5, g6, g7⟩ := hO
  refine ⟨fun b hb => ?_, g2, g3, ⟨u1, u2, u3, u4⟩, g5, g6, fun j hj => ?_⟩
  · have hl : k < pl.length := (List.getElem?_eq_some_iff.mp hk).1
    by_cases e : b = ad (6 + i)
    · subst e
      refine ⟨k, _, List.getElem?_set_self hl, ?_, ?_⟩
      · rw [h]; exact cS.no (show 7 ≤ 12 by decide)
      · rw [h]
        refine ⟨fun q => absurd q (show ¬ 12 = 7 by decide), fun q => absurd q (show ¬ 12 = 8 by decide), fun q => absurd q (show ¬ 12 = 9 by decide), fun q => absurd q (show ¬ 12 = 10 by decide), fun q => absurd q (show ¬ 12 = 11 by decide), fun _ => ⟨st, bg, pn, lk, ps, op, ?_, h1, h2, h3⟩⟩
        rw [pk_us]
    · obtain ⟨j, c, q1, q2, q3⟩ := g1 b hb
      have hj : k ≠ j := fun q => by
        subst q
        rw [hk] at q1
        exact e (Prod.mk.inj (Option.some.inj q1)).1.symm
      refine ⟨j, c, by rw [List.getElem?_set_ne hj]; exact q1, q2, q3.1, q3.2.1, q3.2.2.1, q3.2.2.2.1, q3.2.2.2.2.1, fun q => ?_⟩
      obtain ⟨h5, h6⟩ := u4 b q
      have hne : (t b).2 ≠ i := fun z => e (by rw [h6, z])
      rw [pk_un hne]
      exact q3.2.2.2.2.2 q
  · by_cases e : j = i
    · rw [e, pk_us]; exact hv
    · rw [pk_un e]; exact g7 j hj
/-- the cables are written -/
theorem Ok.pCb (hO : Ok tC dz t ad ed cb up rs cp pl) {k : Nat} {c0 : va_E} {f : Nat → Int32} (hk : pl[k]? = some (ad 2, c0)) : Ok tC dz t ad ed f up rs cp (pl.set k (ad 2, wI tC 5 f)) := by
  have h := hO.2.1.2.2.1
  obtain ⟨g1, g2, g3, ⟨u1, u2, u3, u4⟩, g5⟩ := hO
  refine ⟨fun b hb => ?_, g2, g3, ⟨u1, u2, u3, u4⟩, g5⟩
  have hl : k < pl.length := (List.getElem?_eq_some_iff.mp hk).1
  by_cases e : b = ad 2
  · subst e
    refine ⟨k, _, List.getElem?_set_self hl, ?_, ?_⟩
    · rw [h]; exact cS.no (by decide)
    · rw [h]
      exact ⟨fun q => absurd q (show ¬ 9 = 7 by decide), fun q => absurd q (show ¬ 9 = 8 by decide), fun _ => rfl, fun q => absurd q (show ¬ 9 = 10 by decide), fun q => absurd q (show ¬ 9 = 11 by decide), fun q => absurd q (show ¬ 9 = 12 by decide)⟩
  · obtain ⟨j, c, q1, q2, q3⟩ := g1 b hb
    have hj : k ≠ j := fun q => by
      subst q
      rw [hk] at q1
      exact e (Prod.mk.inj (Option.some.inj q1)).1.symm
    exact ⟨j, c, by rw [List.getElem?_set_ne hj]; exact q1, q2, q3.1, q3.2.1, fun q => absurd (u1 b q) e, q3.2.2.2⟩
end OKU
def cbit1 (cb : Nat → Int32) (j k : Nat) : Int32 := if cb j &&& ((1 : Int32) <<< (nI k &&& 31)) = 0 then 0 else 1
def cbx (cb : Nat → Int32) (j k : Nat) : Nat → Int32 := upd cb j (cb j ^^^ ((1 : Int32) <<< (nI k &&& 31)))
