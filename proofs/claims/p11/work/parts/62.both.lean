theorem nI_bad {k : Nat} (hk : k < 5) : ¬ (nI k < 0 ∨ 5 ≤ nI k) := fun h => h.elim (nI_pos (by omega)) (nI_ge (b := 5) hk (by decide))
theorem cable_both {cb up : Nat → Int32} {F : Nat → Nat → Int32} {p0 p1 v r rM : Int32} {u2 : (Nat → Int32) × (Nat → Int32) × (Nat → Int64)} {w2 : (Nat → Nat → Int32) × Int32} (hv : v = 0 ∨ v = 1) (hlk : lnk cb F) (hC : (r = 1 ∧ u2.1 = cb ∧ u2.2.1 = up ∧ ((p0 < 0 ∨ 5 ≤ p0) ∨ (p1 < 0 ∨ 5 ≤ p1) ∨ p0 = p1)) ∨ (r = 0 ∧ u2.2.1 = up ∧ ∃ j k : Nat, j < 5 ∧ k < 5 ∧ p0 = nI j ∧ p1 = nI k ∧ j ≠ k ∧ ((u2.2.2 0 = 0 ∧ u2.1 = cb ∧ cbit1 cb j k = v) ∨ (u2.2.2 0 = 1 ∧ ¬ cbit1 cb j k = v ∧ u2.1 = cbx (cbx cb j k) k j)))) (hM : (w2.2 = 1 ∧ w2.1 = F ∧ ((p0 < 0 ∨ 5 ≤ p0) ∨ (p1 < 0 ∨ 5 ≤ p1) ∨ p0 = p1)) ∨ (w2.2 = 0 ∧ ∃ j k : Nat, j < 5 ∧ k < 5 ∧ p0 = nI j ∧ p1 = nI k ∧ j ≠ k ∧ ((rM = 0 ∧ w2.1 = F ∧ ¬ F 20 (5 * j + k) = v) ∨ (rM = 1 ∧ F 20 (5 * j + k) = v ∧ w2.1 = updF F 20 (upd (upd (F 20) (5 * j + k) (if v = 0 then 1 else 0)) (5 * k + j) (if v = 0 then 1 else 0)))))) : w2.2 = r ∧ (r = 0 → u2.2.2 0 = if rM = 0 then 0 else 1) ∧ lnk u2.1 w2.1 ∧ u2.2.1 = up := by
  have bad : ∀ j k : Nat, j < 5 → k < 5 → p0 = nI j → p1 = nI k → j ≠ k → ¬ ((p0 < 0 ∨ 5 ≤ p0) ∨ (p1 < 0 ∨ 5 ≤ p1) ∨ p0 = p1) := by
    intro j k hj hk e1 e2 hn h
    subst e1
    subst e2
    rcases h with h | h | h
    · exact nI_bad hj h
    · exact nI_bad hk h
    · exact hn ((nI_eq (by omega) (by omega)).mp h)
  rcases hC with ⟨c1, c2, c3, c4⟩ | ⟨c1, c2, j, k, c3, c4, c5, c6, c7, c8⟩
  · rcases hM with ⟨m1, m2, m3⟩ | ⟨m1, j', k', m3, m4, m5, m6, m7, m8⟩
    · exact ⟨m1.trans c1.symm, fun h => absurd (c1.symm.trans h) (by decide), by rw [c2, m2]; exact hlk, c3⟩
    · exact absurd c4 (bad j' k' m3 m4 m5 m6 m7)
  · rcases hM with ⟨m1, m2, m3⟩ | ⟨m1, j', k', m3, m4, m5, m6, m7, m8⟩
    · exact absurd m3 (bad j k c3 c4 c5 c6 c7)
    · have ej : j = j' := (nI_eq (by omega) (by omega)).mp (c5.symm.trans m5)
      have ek : k = k' := (nI_eq (by omega) (by omega)).mp (c6.symm.trans m6)
      subst ej
      subst ek
      have hb := (hlk j k c3 c4 c7).1
      rw [cb_bt c4] at c8
      rw [hb] at m8
      refine ⟨m1.trans c1.symm, ?_⟩
      cases hbt : bt (cb j) k with
      | true =>
        rw [hbt] at c8 m8
        rcases c8 with ⟨g1, g2, g3⟩ | ⟨g1, g2, g3⟩
        · rcases m8 with ⟨n1, n2, n3⟩ | ⟨n1, n2, n3⟩
          · exact ⟨fun _ => by rw [n1, g1]; rfl, by rw [g2, n2]; exact hlk, c2⟩
          · exact absurd (g3.trans n2.symm) (by decide)
        · have hv0 : v = 0 := hv.resolve_right (fun q => g2 q.symm)
          rcases m8 with ⟨n1, n2, n3⟩ | ⟨n1, n2, n3⟩
          · exact absurd hv0.symm n3
          · refine ⟨fun _ => by rw [n1, g1]; rfl, ?_, c2⟩
            rw [g3]
            exact lnk_x (w := 1) hlk c3 c4 c7 (by rw [hbt]; rfl) (by rw [n3, updF_at, if_pos hv0])
      | false =>
        rw [hbt] at c8 m8
        rcases c8 with ⟨g1, g2, g3⟩ | ⟨g1, g2, g3⟩
        · rcases m8 with ⟨n1, n2, n3⟩ | ⟨n1, n2, n3⟩
          · exact ⟨fun _ => by rw [n1, g1]; rfl, by rw [g2, n2]; exact hlk, c2⟩
          · exact absurd (g3.trans n2.symm) (by decide)
        · have hv1 : v = 1 := hv.resolve_left (fun q => g2 q.symm)
          rcases m8 with ⟨n1, n2, n3⟩ | ⟨n1, n2, n3⟩
          · exact absurd hv1.symm n3
          · refine ⟨fun _ => by rw [n1, g1]; rfl, ?_, c2⟩
            rw [g3]
            exact lnk_x (w := 0) hlk c3 c4 c7 (by rw [hbt]; rfl) (by rw [n3, updF_at, if_neg (by rw [hv1]; decide)])
theorem stop_both {cb up : Nat → Int32} {F : Nat → Nat → Int32} {p0 r rM : Int32} {u2 : (Nat → Int32) × (Nat → Int32) × (Nat → Int64)} {w2 : (Nat → Nat → Int32) × Int32} (hlu : lnu up F) (hC : (r = 1 ∧ u2.1 = cb ∧ u2.2.1 = up ∧ (p0 < 0 ∨ 5 ≤ p0)) ∨ (r = 0 ∧ u2.1 = cb ∧ ∃ k : Nat, k < 5 ∧ p0 = nI k ∧ u2.2.1 = upd up k 0 ∧ u2.2.2 0 = (if up k = 0 then 0 else 1))) (hM : (w2.2 = 1 ∧ w2.1 = F ∧ (p0 < 0 ∨ 5 ≤ p0)) ∨ (w2.2 = 0 ∧ ∃ k : Nat, k < 5 ∧ p0 = nI k ∧ ((rM = 0 ∧ ¬ F 12 k = 0 ∧ w2.1 12 = F 12) ∨ (rM = 1 ∧ F 12 k = 0 ∧ w2.1 12 = upd (F 12) k 1)))) : w2.2 = r ∧ (r = 0 → u2.2.2 0 = if rM = 0 then 0 else 1) ∧ lnu u2.2.1 w2.1 ∧ u2.1 = cb := by
  rcases hC with ⟨c1, c2, c3, c4⟩ | ⟨c1, c2, k, c3, c4, c5, c6⟩
  · rcases hM with ⟨m1, m2, m3⟩ | ⟨m1, k', m3, m4, m5⟩
    · exact ⟨m1.trans c1.symm, fun h => absurd (c1.symm.trans h) (by decide), by rw [c3, m2]; exact hlu, c2⟩
    · exact absurd c4 (by rw [m4]; exact nI_bad m3)
  · rcases hM with ⟨m1, m2, m3⟩ | ⟨m1, k', m3, m4, m5⟩
    · exact absurd m3 (by rw [c4]; exact nI_bad c3)
    · have ek : k = k' := (nI_eq (by omega) (by omega)).mp (c4.symm.trans m4)
      subst ek
      have hu := hlu k c3
      refine ⟨m1.trans c1.symm, ?_⟩
      by_cases q : up k = 0
      · rw [if_pos q] at c6 hu
        rcases m5 with ⟨n1, n2, n3⟩ | ⟨n1, n2, n3⟩
        · exact ⟨fun _ => by rw [n1, c6]; rfl, by rw [c5]; exact lnu_s hlu c3 hu n3, c2⟩
        · exact absurd (hu.symm.trans n2) (by decide)
      · rw [if_neg q] at c6 hu
        rcases m5 with ⟨n1, n2, n3⟩ | ⟨n1, n2, n3⟩
        · exact absurd hu n2
        · exact ⟨fun _ => by rw [n1, c6]; rfl, by rw [c5]; exact lnu_x hlu rfl n3, c2⟩
theorem start_both {cb up : Nat → Int32} {F : Nat → Nat → Int32} {p0 r rM : Int32} {u2 : (Nat → Int32) × (Nat → Int32) × (Nat → Int64)} {w2 : (Nat → Nat → Int32) × Int32} (hlu : lnu up F) (hC : (r = 1 ∧ u2.1 = cb ∧ u2.2.1 = up ∧ (p0 < 0 ∨ 5 ≤ p0)) ∨ (r = 0 ∧ u2.1 = cb ∧ ∃ k : Nat, k < 5 ∧ p0 = nI k ∧ u2.2.1 = upd up k 1 ∧ u2.2.2 0 = (if up k = 0 then 1 else 0))) (hM : (w2.2 = 1 ∧ w2.1 = F ∧ (p0 < 0 ∨ 5 ≤ p0)) ∨ (w2.2 = 0 ∧ ∃ k : Nat, k < 5 ∧ p0 = nI k ∧ ((rM = 0 ∧ F 12 k = 0 ∧ w2.1 12 = F 12) ∨ (rM = 1 ∧ ¬ F 12 k = 0 ∧ w2.1 12 = upd (F 12) k 0)))) : w2.2 = r ∧ (r = 0 → u2.2.2 0 = if rM = 0 then 0 else 1) ∧ lnu u2.2.1 w2.1 ∧ u2.1 = cb := by
  rcases hC with ⟨c1, c2, c3, c4⟩ | ⟨c1, c2, k, c3, c4, c5, c6⟩
  · rcases hM with ⟨m1, m2, m3⟩ | ⟨m1, k', m3, m4, m5⟩
    · exact ⟨m1.trans c1.symm, fun h => absurd (c1.symm.trans h) (by decide), by rw [c3, m2]; exact hlu, c2⟩
    · exact absurd c4 (by rw [m4]; exact nI_bad m3)
  · rcases hM with ⟨m1, m2, m3⟩ | ⟨m1, k', m3, m4, m5⟩
    · exact absurd m3 (by rw [c4]; exact nI_bad c3)
    · have ek : k = k' := (nI_eq (by omega) (by omega)).mp (c4.symm.trans m4)
      subst ek
      have hu := hlu k c3
      refine ⟨m1.trans c1.symm, ?_⟩
      by_cases q : up k = 0
      · rw [if_pos q] at c6 hu
        rcases m5 with ⟨n1, n2, n3⟩ | ⟨n1, n2, n3⟩
        · exact absurd (hu.symm.trans n2) (by decide)
        · exact ⟨fun _ => by rw [n1, c6]; rfl, by rw [c5]; exact lnu_x hlu rfl n3, c2⟩
      · rw [if_neg q] at c6 hu
        rcases m5 with ⟨n1, n2, n3⟩ | ⟨n1, n2, n3⟩
        · exact ⟨fun _ => by rw [n1, c6]; rfl, by rw [c5]; exact lnu_s hlu c3 hu n3, c2⟩
        · exact absurd hu n2
/-- what holds at the head of the law's loop, after c0 calls -/
def LI (D : va_G) (tC : Nat → ClassId) (dz mo oa : Nat) (ma ad : Nat → Nat) (s : State) (c0 : Nat) (F : Nat → Nat → Int32) (th : Int32) (N L : Nat) (t : Nat → Nat × Nat) (ed : Nat) (cb up : Nat → Int32) (rs cp : Nat) (pl : va_W) (fo : Nat → Int64) (H : Heap) (locs : List Loc) : Prop :=
  MI F N L ∧ N ≤ 1 + c0 ∧ Ok tC dz t ad ed cb up rs cp pl ∧ rs ≤ 10 * c0 ∧ lnk cb F ∧ lnu up F ∧ va_P D vwCl (mW tC mo ma F th N L ++ ((oa, wL tC 1 fo) :: pl)) H ∧ va_D (fun q : Nat => s.heap.size ≤ q) (mW tC mo ma F th N L ++ ((oa, wL tC 1 fo) :: pl)) ∧ va_S (fun q : Nat => s.heap.size ≤ q) s.heap H locs
theorem i_gt {a k : Nat} (ha : a ≤ 1000) (hk : k ≤ 1000) : nI a - 5 < nI k ↔ a < k + 5 := by
  rw [Int32.lt_iff_toInt_lt, show (5 : Int32) = nI 5 from rfl, pk_sub_toInt (by omega) (by omega), nI_toInt (by omega)]
  omega
