set_option maxRecDepth 100000 in
theorem dL_law_23 : decode cL_law 23 = .ok (.iload 4, 2) := by decide +kernel
set_option maxRecDepth 100000 in
theorem dL_law_25 : decode cL_law 25 = .ok (.aload_n 0, 1) := by decide +kernel
set_option maxRecDepth 100000 in
theorem dL_law_26 : decode cL_law 26 = .ok (.arraylength, 1) := by decide +kernel
set_option maxRecDepth 100000 in
theorem dL_law_27 : decode cL_law 27 = .ok (.iconst 5, 1) := by decide +kernel
set_option maxRecDepth 100000 in
theorem dL_law_28 : decode cL_law 28 = .ok (.isub, 1) := by decide +kernel
set_option maxRecDepth 100000 in
theorem dL_law_29 : decode cL_law 29 = .ok (.if_icmp .gt 862, 3) := by decide +kernel
set_option maxRecDepth 100000 in
theorem dL_law_32 : decode cL_law 32 = .ok (.aload_n 0, 1) := by decide +kernel
set_option maxRecDepth 100000 in
theorem dL_law_33 : decode cL_law 33 = .ok (.iload 4, 2) := by decide +kernel
set_option maxRecDepth 100000 in
theorem dL_law_35 : decode cL_law 35 = .ok (.iaload, 1) := by decide +kernel
set_option maxRecDepth 100000 in
theorem dL_law_36 : decode cL_law 36 = .ok (.bipush 31, 2) := by decide +kernel
set_option maxRecDepth 100000 in
theorem dL_law_38 : decode cL_law 38 = .ok (.iand, 1) := by decide +kernel
set_option maxRecDepth 100000 in
theorem dL_law_39 : decode cL_law 39 = .ok (.tableswitch 846 0 19 #[93, 161, 225, 265, 293, 318, 346, 371, 408, 436, 499, 512, 540, 565, 590, 630, 658, 726, 766, 794], 93) := by decide +kernel
set_option maxRecDepth 100000 in
theorem dL_law_885 : decode cL_law 885 = .ok (.iinc 4 5, 3) := by decide +kernel
set_option maxRecDepth 100000 in
theorem dL_law_888 : decode cL_law 888 = .ok (.goto (-865), 3) := by decide +kernel
set_option maxRecDepth 100000 in
theorem dL_law_891 : decode cL_law 891 = .ok (.iconst 1, 1) := by decide +kernel
set_option maxRecDepth 100000 in
theorem dL_law_892 : decode cL_law 892 = .ok (.ireturn, 1) := by decide +kernel
set_option maxHeartbeats 8000000 in
set_option maxRecDepth 100000 in
theorem law_main {p : Program} {l : Launch} {e : Env} {s : State} {m : MethodId} {below : List Frame} {meth : Method} {c : Code} {b Lx : Nat} {xs : Nat → Int32} (hlt : l.stackTraces = false) (C0 : lw_At p s m meth c b Lx xs) (hLx : Lx ≤ 320) (D : va_G) (tC : Nat → ClassId) (dz mo oa : Nat) (ma ad : Nat → Nat) (hK : va_K D vwCl (tY tC) s) (hN : eN s) (hE : eH dz (fun q : Nat => s.heap.size ≤ q) s s.heap) : ∀ (n c0 : Nat), c0 + n = 64 → ∀ (F : Nat → Nat → Int32) (th : Int32) (N L : Nat) (t : Nat → Nat × Nat) (ed : Nat) (cb up : Nat → Int32) (rs cp : Nat) (pl : va_W) (fo : Nat → Int64) (H : Heap) (locs : List Loc) (ls : Array Slot), LI D tC dz mo oa ma ad s c0 F th N L t ed cb up rs cp pl fo H locs → lv_has ls 7 [(4, .int (nI (5 * c0))), (3, .ref oa), (2, .ref mo), (1, .ref (ad 0)), (0, .ref b)] → W p l e room_1 s m #[Value.ref b] below meth c H locs (41 + c0 * 25) (4016 + c0 * 16098) (lw_Z below #[Value.ref b] s) (F0 m 23 ls []) := by
  have C9 := C0
  obtain ⟨hx, hb, hr, hml, hown, hts0, hX, hbl, hlocks, hgv⟩ := C0
  intro n
  induction n with
  | zero =>
    intro c0 hc0 F th N L t ed cb up rs cp pl fo H locs ls hI hl
    obtain ⟨A, hAe⟩ : ∃ A : Nat → Prop, A = fun q : Nat => s.heap.size ≤ q := ⟨_, rfl⟩
    have hS : va_S A s.heap H locs := by rw [hAe]; exact hI.2.2.2.2.2.2.2.2
    have hbA : ¬ A b := by rw [hAe]; exact Nat.not_le.mpr hbl
    refine lv_iload hx hb dL_law_23 (lv_at hl 0 rfl) ?_
    refine lv_aload_n hx hb dL_law_25 rfl (lv_at hl 4 rfl) ?_
    refine va_slen hx hb hX hbl hbA hS dL_law_26 ?_
    refine lv_iconst (v := 5) hx hb dL_law_27 (by decide) ?_
    refine lv_isub hx hb dL_law_28 ?_
    refine lv_topi (fun z9 ez9 => ?_)
    have ez8 : z9 = nI Lx - 5 := ez9
    refine lv_icmp_gt (tgt := 891) hx hb dL_law_29 (by decide) (fun _ => ?_) (fun hc => absurd (show z9 < nI (5 * c0) by rw [ez8]; exact (i_gt (by omega) (by omega)).mpr (by omega)) hc)
    refine lv_iconst (v := 1) hx hb dL_law_891 (by decide) ?_
    refine va_forget (fun q hq => by have h9 := hS.2.2 q hq; rw [hAe] at h9; exact h9) ?_
    refine W.widen (k := 600128) (n := 7301098) (by omega) (by omega) ?_
    exact lw_ret hx hb hr hlocks dL_law_892
  | succ n ih =>
    intro c0 hc0 F th N L t ed cb up rs cp pl fo H locs ls hI hl
    obtain ⟨A, hAe⟩ : ∃ A : Nat → Prop, A = fun q : Nat => s.heap.size ≤ q := ⟨_, rfl⟩
    have hS : va_S A s.heap H locs := by rw [hAe]; exact hI.2.2.2.2.2.2.2.2
    have hbA : ¬ A b := by rw [hAe]; exact Nat.not_le.mpr hbl
    refine lv_iload hx hb dL_law_23 (lv_at hl 0 rfl) ?_
    refine lv_aload_n hx hb dL_law_25 rfl (lv_at hl 4 rfl) ?_
    refine va_slen hx hb hX hbl hbA hS dL_law_26 ?_
    refine lv_iconst (v := 5) hx hb dL_law_27 (by decide) ?_
    refine lv_isub hx hb dL_law_28 ?_
    refine lv_topi (fun z9 ez9 => ?_)
    have ez8 : z9 = nI Lx - 5 := ez9
    refine lv_icmp_gt (tgt := 891) hx hb dL_law_29 (by decide) (fun _ => ?_) (fun hc => ?_)
    · skip
      refine lv_iconst (v := 1) hx hb dL_law_891 (by decide) ?_
      refine va_forget (fun q hq => by have h9 := hS.2.2 q hq; rw [hAe] at h9; exact h9) ?_
      refine W.widen (k := 600128) (n := 7301098) (by omega) (by omega) ?_
      exact lw_ret hx hb hr hlocks dL_law_892
    · have hc5 : 5 * c0 + 5 ≤ Lx := by
        have h9 : ¬ nI Lx - 5 < nI (5 * c0) := by rw [← ez8]; exact hc
        rw [i_gt (by omega) (by omega)] at h9
        omega
      have KK : ∀ (F : Nat → Nat → Int32) (th : Int32) (N L : Nat) (t : Nat → Nat × Nat) (ed : Nat) (cb up : Nat → Int32) (rs cp : Nat) (pl : va_W) (fo : Nat → Int64) (H : Heap) (locs : List Loc) (ls : Array Slot), LI D tC dz mo oa ma ad s (c0 + 1) F th N L t ed cb up rs cp pl fo H locs → lv_has ls 7 [(4, .int (nI (5 * c0))), (3, .ref oa), (2, .ref mo), (1, .ref (ad 0)), (0, .ref b)] → W p l e room_1 s m #[Value.ref b] below meth c H locs ((41 + c0 * 25) + 25) ((4016 + c0 * 16098) + 16098) (lw_Z below #[Value.ref b] s) (F0 m 885 ls []) := by
        intro F th N L t ed cb up rs cp pl fo H locs ls hI hl
        refine lv_iinc (v := nI (5 * (c0 + 1))) (lv' := [(4, .int (nI (5 * (c0 + 1)))), (3, .ref oa), (2, .ref mo), (1, .ref (ad 0)), (0, .ref b)]) hx hb dL_law_885 hl (k := 0) rfl (by first | exact (show nI (5 * c0) + nI 5 = nI (5 * (c0 + 1)) by rw [nI_add]; rfl) | exact (show nI (5 * (c0 + 1)) = nI (5 * c0) + nI 5 by rw [nI_add]; rfl)) (by decide) rfl (fun ls hl => ?_)
        refine lv_goto (tgt := 23) hx hb dL_law_888 (by decide) ?_
        refine W.widen (k := 41 + (c0 + 1) * 25) (n := 4016 + (c0 + 1) * 16098) (by omega) (by omega) ?_
        exact ih (c0 + 1) (by omega) F th N L t ed cb up rs cp pl fo H locs ls hI hl
      refine lv_aload_n hx hb dL_law_32 rfl (lv_at hl 4 rfl) ?_
      refine lv_iload hx hb dL_law_33 (lv_at hl 0 rfl) ?_
      refine va_sld hx hb hX hbl hbA hS (vp_in_nI (by omega) (by omega)) dL_law_35 ?_
      refine lv_topi (fun z8 ez7 => ?_)
      refine lv_bipush (v := 31) hx hb dL_law_36 (by decide) ?_
      refine lv_iand hx hb dL_law_38 ?_
      refine lv_topi (fun z7 ez6 => ?_)
      obtain ⟨j, hj, ej⟩ := pk_andE z8 (m := 31) 5 (by decide)
      have ez5 : z7 = nI j := ez6.trans ej
      rcases (show j = 0 ∨ j = 1 ∨ j = 2 ∨ j = 3 ∨ j = 4 ∨ j = 5 ∨ j = 6 ∨ j = 7 ∨ j = 8 ∨ j = 9 ∨ j = 10 ∨ j = 11 ∨ j = 12 ∨ j = 13 ∨ j = 14 ∨ j = 15 ∨ j = 16 ∨ j = 17 ∨ j = 18 ∨ j = 19 ∨ 20 ≤ j by omega) with rfl | rfl | rfl | rfl | rfl | rfl | rfl | rfl | rfl | rfl | rfl | rfl | rfl | rfl | rfl | rfl | rfl | rfl | rfl | rfl | h20
      · have fz9 : z7 = 0 := ez5.trans (by decide)
        subst fz9
        refine lv_tableIn (off := 93) (tgt := 132) hx hb dL_law_39 (by decide) (by decide) (by decide) (by decide) ?_
        exact lc_0 hlt C9 hLx D tC dz mo oa ma ad hK hN hE c0 hc5 (41 + c0 * 25) (4016 + c0 * 16098) (by omega) (by omega) KK F th N L t ed cb up rs cp pl fo H locs ls hI hl
      · have fz9 : z7 = 1 := ez5.trans (by decide)
        subst fz9
        refine lv_tableIn (off := 161) (tgt := 200) hx hb dL_law_39 (by decide) (by decide) (by decide) (by decide) ?_
        exact lc_1 hlt C9 hLx D tC dz mo oa ma ad hK hN hE c0 hc5 (41 + c0 * 25) (4016 + c0 * 16098) (by omega) (by omega) KK F th N L t ed cb up rs cp pl fo H locs ls hI hl
      · have fz9 : z7 = 2 := ez5.trans (by decide)
        subst fz9
        refine lv_tableIn (off := 225) (tgt := 264) hx hb dL_law_39 (by decide) (by decide) (by decide) (by decide) ?_
        exact lc_2 hlt C9 hLx D tC dz mo oa ma ad hK hN hE c0 hc5 (41 + c0 * 25) (4016 + c0 * 16098) (by omega) (by omega) KK F th N L t ed cb up rs cp pl fo H locs ls hI hl
      · have fz9 : z7 = 3 := ez5.trans (by decide)
        subst fz9
        refine lv_tableIn (off := 265) (tgt := 304) hx hb dL_law_39 (by decide) (by decide) (by decide) (by decide) ?_
        exact lc_3 hlt C9 hLx D tC dz mo oa ma ad hK hN hE c0 hc5 (41 + c0 * 25) (4016 + c0 * 16098) (by omega) (by omega) KK F th N L t ed cb up rs cp pl fo H locs ls hI hl
      · have fz9 : z7 = 4 := ez5.trans (by decide)
        subst fz9
        refine lv_tableIn (off := 293) (tgt := 332) hx hb dL_law_39 (by decide) (by decide) (by decide) (by decide) ?_
        exact lc_4 hlt C9 hLx D tC dz mo oa ma ad hK hN hE c0 hc5 (41 + c0 * 25) (4016 + c0 * 16098) (by omega) (by omega) KK F th N L t ed cb up rs cp pl fo H locs ls hI hl
      · have fz9 : z7 = 5 := ez5.trans (by decide)
        subst fz9
        refine lv_tableIn (off := 318) (tgt := 357) hx hb dL_law_39 (by decide) (by decide) (by decide) (by decide) ?_
        exact lc_5 hlt C9 hLx D tC dz mo oa ma ad hK hN hE c0 hc5 (41 + c0 * 25) (4016 + c0 * 16098) (by omega) (by omega) KK F th N L t ed cb up rs cp pl fo H locs ls hI hl
      · have fz9 : z7 = 6 := ez5.trans (by decide)
        subst fz9
        refine lv_tableIn (off := 346) (tgt := 385) hx hb dL_law_39 (by decide) (by decide) (by decide) (by decide) ?_
        exact lc_6 hlt C9 hLx D tC dz mo oa ma ad hK hN hE c0 hc5 (41 + c0 * 25) (4016 + c0 * 16098) (by omega) (by omega) KK F th N L t ed cb up rs cp pl fo H locs ls hI hl
      · have fz9 : z7 = 7 := ez5.trans (by decide)
        subst fz9
        refine lv_tableIn (off := 371) (tgt := 410) hx hb dL_law_39 (by decide) (by decide) (by decide) (by decide) ?_
        exact lc_7 hlt C9 hLx D tC dz mo oa ma ad hK hN hE c0 hc5 (41 + c0 * 25) (4016 + c0 * 16098) (by omega) (by omega) KK F th N L t ed cb up rs cp pl fo H locs ls hI hl
      · have fz9 : z7 = 8 := ez5.trans (by decide)
        subst fz9
        refine lv_tableIn (off := 408) (tgt := 447) hx hb dL_law_39 (by decide) (by decide) (by decide) (by decide) ?_
        exact lc_8 hlt C9 hLx D tC dz mo oa ma ad hK hN hE c0 hc5 (41 + c0 * 25) (4016 + c0 * 16098) (by omega) (by omega) KK F th N L t ed cb up rs cp pl fo H locs ls hI hl
      · have fz9 : z7 = 9 := ez5.trans (by decide)
        subst fz9
        refine lv_tableIn (off := 436) (tgt := 475) hx hb dL_law_39 (by decide) (by decide) (by decide) (by decide) ?_
        exact lc_9 hlt C9 hLx D tC dz mo oa ma ad hK hN hE c0 hc5 (41 + c0 * 25) (4016 + c0 * 16098) (by omega) (by omega) KK F th N L t ed cb up rs cp pl fo H locs ls hI hl
      · have fz9 : z7 = 10 := ez5.trans (by decide)
        subst fz9
        refine lv_tableIn (off := 499) (tgt := 538) hx hb dL_law_39 (by decide) (by decide) (by decide) (by decide) ?_
        exact lc_10 hlt C9 hLx D tC dz mo oa ma ad hK hN hE c0 hc5 (41 + c0 * 25) (4016 + c0 * 16098) (by omega) (by omega) KK F th N L t ed cb up rs cp pl fo H locs ls hI hl
      · have fz9 : z7 = 11 := ez5.trans (by decide)
        subst fz9
        refine lv_tableIn (off := 512) (tgt := 551) hx hb dL_law_39 (by decide) (by decide) (by decide) (by decide) ?_
        exact lc_11 hlt C9 hLx D tC dz mo oa ma ad hK hN hE c0 hc5 (41 + c0 * 25) (4016 + c0 * 16098) (by omega) (by omega) KK F th N L t ed cb up rs cp pl fo H locs ls hI hl
      · have fz9 : z7 = 12 := ez5.trans (by decide)
        subst fz9
        refine lv_tableIn (off := 540) (tgt := 579) hx hb dL_law_39 (by decide) (by decide) (by decide) (by decide) ?_
        exact lc_12 hlt C9 hLx D tC dz mo oa ma ad hK hN hE c0 hc5 (41 + c0 * 25) (4016 + c0 * 16098) (by omega) (by omega) KK F th N L t ed cb up rs cp pl fo H locs ls hI hl
      · have fz9 : z7 = 13 := ez5.trans (by decide)
        subst fz9
        refine lv_tableIn (off := 565) (tgt := 604) hx hb dL_law_39 (by decide) (by decide) (by decide) (by decide) ?_
        exact lc_13 hlt C9 hLx D tC dz mo oa ma ad hK hN hE c0 hc5 (41 + c0 * 25) (4016 + c0 * 16098) (by omega) (by omega) KK F th N L t ed cb up rs cp pl fo H locs ls hI hl
      · have fz9 : z7 = 14 := ez5.trans (by decide)
        subst fz9
        refine lv_tableIn (off := 590) (tgt := 629) hx hb dL_law_39 (by decide) (by decide) (by decide) (by decide) ?_
        exact lc_14 hlt C9 hLx D tC dz mo oa ma ad hK hN hE c0 hc5 (41 + c0 * 25) (4016 + c0 * 16098) (by omega) (by omega) KK F th N L t ed cb up rs cp pl fo H locs ls hI hl
      · have fz9 : z7 = 15 := ez5.trans (by decide)
        subst fz9
        refine lv_tableIn (off := 630) (tgt := 669) hx hb dL_law_39 (by decide) (by decide) (by decide) (by decide) ?_
        exact lc_15 hlt C9 hLx D tC dz mo oa ma ad hK hN hE c0 hc5 (41 + c0 * 25) (4016 + c0 * 16098) (by omega) (by omega) KK F th N L t ed cb up rs cp pl fo H locs ls hI hl
      · have fz9 : z7 = 16 := ez5.trans (by decide)
        subst fz9
        refine lv_tableIn (off := 658) (tgt := 697) hx hb dL_law_39 (by decide) (by decide) (by decide) (by decide) ?_
        exact lc_16 hlt C9 hLx D tC dz mo oa ma ad hK hN hE c0 hc5 (41 + c0 * 25) (4016 + c0 * 16098) (by omega) (by omega) KK F th N L t ed cb up rs cp pl fo H locs ls hI hl
      · have fz9 : z7 = 17 := ez5.trans (by decide)
        subst fz9
        refine lv_tableIn (off := 726) (tgt := 765) hx hb dL_law_39 (by decide) (by decide) (by decide) (by decide) ?_
        exact lc_17 hlt C9 hLx D tC dz mo oa ma ad hK hN hE c0 hc5 (41 + c0 * 25) (4016 + c0 * 16098) (by omega) (by omega) KK F th N L t ed cb up rs cp pl fo H locs ls hI hl
      · have fz9 : z7 = 18 := ez5.trans (by decide)
        subst fz9
        refine lv_tableIn (off := 766) (tgt := 805) hx hb dL_law_39 (by decide) (by decide) (by decide) (by decide) ?_
        exact lc_18 hlt C9 hLx D tC dz mo oa ma ad hK hN hE c0 hc5 (41 + c0 * 25) (4016 + c0 * 16098) (by omega) (by omega) KK F th N L t ed cb up rs cp pl fo H locs ls hI hl
      · have fz9 : z7 = 19 := ez5.trans (by decide)
        subst fz9
        refine lv_tableIn (off := 794) (tgt := 833) hx hb dL_law_39 (by decide) (by decide) (by decide) (by decide) ?_
        exact lc_19 hlt C9 hLx D tC dz mo oa ma ad hK hN hE c0 hc5 (41 + c0 * 25) (4016 + c0 * 16098) (by omega) (by omega) KK F th N L t ed cb up rs cp pl fo H locs ls hI hl
      · refine lv_tableOut (tgt := 885) hx hb dL_law_39 (Or.inr (by rw [ez5, nI_toInt (by omega)]; omega)) (by decide) ?_
        refine W.widen (k := (41 + c0 * 25) + 25) (n := (4016 + c0 * 16098) + 16098) (by omega) (by omega) ?_
        exact KK F th N L t ed cb up rs cp pl fo H locs ls ⟨hI.1, Nat.le_trans hI.2.1 (by omega), hI.2.2.1, Nat.le_trans hI.2.2.2.1 (by omega), hI.2.2.2.2⟩ hl
