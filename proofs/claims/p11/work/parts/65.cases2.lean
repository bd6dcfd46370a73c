set_option maxHeartbeats 8000000 in
set_option maxRecDepth 100000 in
theorem lc_8 {p : Program} {l : Launch} {e : Env} {s : State} {m : MethodId} {below : List Frame} {meth : Method} {c : Code} {b Lx : Nat} {xs : Nat → Int32} (hlt : l.stackTraces = false) (C0 : lw_At p s m meth c b Lx xs) (hLx : Lx ≤ 320) (D : va_G) (tC : Nat → ClassId) (dz mo oa : Nat) (ma ad : Nat → Nat) (hK : va_K D vwCl (tY tC) s) (hN : eN s) (hE : eH dz (fun q : Nat => s.heap.size ≤ q) s s.heap) (c0 : Nat) (hc0 : 5 * c0 + 5 ≤ Lx) (cn sn : Nat) (hcn : cn ≤ 500000) (hsn : sn ≤ 7000000) (KK : ∀ (F : Nat → Nat → Int32) (th : Int32) (N L : Nat) (t : Nat → Nat × Nat) (ed : Nat) (cb up : Nat → Int32) (rs cp : Nat) (pl : va_W) (fo : Nat → Int64) (H : Heap) (locs : List Loc) (ls : Array Slot), LI D tC dz mo oa ma ad s (c0 + 1) F th N L t ed cb up rs cp pl fo H locs → lv_has ls 7 [(4, .int (nI (5 * c0))), (3, .ref oa), (2, .ref mo), (1, .ref (ad 0)), (0, .ref b)] → W p l e room_1 s m #[Value.ref b] below meth c H locs (cn + 25) (sn + 16098) (lw_Z below #[Value.ref b] s) (F0 m 885 ls [])) (F : Nat → Nat → Int32) (th : Int32) (N L : Nat) (t : Nat → Nat × Nat) (ed : Nat) (cb up : Nat → Int32) (rs cp : Nat) (pl : va_W) (fo : Nat → Int64) (H : Heap) (locs : List Loc) (ls : Array Slot) (hI : LI D tC dz mo oa ma ad s c0 F th N L t ed cb up rs cp pl fo H locs) (hl : lv_has ls 7 [(4, .int (nI (5 * c0))), (3, .ref oa), (2, .ref mo), (1, .ref (ad 0)), (0, .ref b)]) : W p l e room_1 s m #[Value.ref b] below meth c H locs cn sn (lw_Z below #[Value.ref b] s) (F0 m 447 ls []) := by
  obtain ⟨hx, hb, hr, hml, hown, hts0, hX, hbl, hlocks, hgv⟩ := C0
  have hts : ∀ w ∈ wsL_law, w.before #[Value.ref b] s = true := fun w h => hts0 w (wsL_law_in w h)
  have hown : s.vm.findClass RL = some m.cls := hown
  obtain ⟨hJ, hN9, hO, hrs9, hlk, hlu, hP, hD, hS⟩ := hI
  have hN5 := hJ.n9
  obtain ⟨A, hAe⟩ : ∃ A : Nat → Prop, A = fun q : Nat => s.heap.size ≤ q := ⟨_, rfl⟩
  rw [← hAe] at hE hD hS
  have hA : ∀ q : Nat, s.heap.size ≤ q → A q := fun q h => by rw [hAe]; exact h
  have hbA : ¬ A b := by rw [hAe]; exact Nat.not_le.mpr hbl
  refine lv_aload_n hx hb dL_law_447 rfl (lv_at hl 3 rfl) ?_
  refine lv_aload_n hx hb dL_law_448 rfl (lv_at hl 4 rfl) ?_
  refine lv_iload hx hb dL_law_449 (lv_at hl 0 rfl) ?_
  refine lv_iconst (v := 1) hx hb dL_law_451 (by decide) ?_
  refine lv_iadd hx hb dL_law_452 ?_
  refine lv_topi (fun z_1 ez_1 => ?_)
  have fz_1 : z_1 = (nI (5 * c0 + 1)) := ez_1.trans (show nI (5 * c0) + nI 1 = _ from nI_add _ _)
  subst fz_1
  refine va_sld hx hb hX hbl hbA hS (vp_in_nI (by omega) (by omega)) dL_law_453 ?_
  refine lv_topi (fun z_2 ez_2 => ?_)
  refine lv_aload_n hx hb dL_law_454 rfl (lv_at hl 1 rfl) ?_
  have hPc := apP (X := (mW tC mo ma F th N L)) hP
  have hDc := apD (X := (mW tC mo ma F th N L)) hD
  have hFc := freeA hDc hS hA
  refine vx_calli (vx_runSX (As := [.ref (ad 0), .int z_2, .ref oa]) (rest := []) ⟨hx, hb, hml, hown, hts⟩ (c_L_stop l hlt D tC dz H.size pl t ad ed cb up rs cp hO oa fo z_2 ) (vx_cwSW 3 hts gL_law_L_stop rfl rfl rfl (by decide +kernel) ⟨Nat.le_of_ble_eq_true rfl, Nat.le_of_ble_eq_true rfl⟩) ⟨pB_blind, pB_at hPc hDc hK hN hE hS hFc⟩ rfl rfl hl.1 rfl (lv_room (Nat.le_of_ble_eq_true rfl)) dL_law_455 ⟨(by show cn + 1 ≤ 600128; omega), (by show sn + 6 ≤ 7301098; omega)⟩) hS (fun q _ h => hFc q h) hFc (fun q _ h => hFc q h) (fun E ce q9 u t9 H1 locs ht hvm hpx hPE hz1 hk1 hS hce hcv hcl => False.elim hPE) (fun r_3 u t9 H1 locs ht hvm hw hB hz1 hk1 hS => ?_)
  obtain ⟨cb_4, up_5, fo_6⟩ := u
  obtain ⟨t_7, ed_8, rs_9, cp_10, pl_11, hrs_13, hO_12, hP1, _, hD1⟩ := hB
  rw [ht] at hP1
  obtain ⟨hP, hD⟩ := jn2 (X := (mW tC mo ma F th N L)) hP hD hk1 hFc hP1 hD1
  generalize H1 = H at hP hS ⊢
  have hw_14 := hw
  have hO_12 : Ok tC dz t_7 ad ed_8 cb_4 up_5 rs_9 cp_10 pl_11 := hO_12
  have hrs_13 : rs_9 ≤ rs + 0 := hrs_13
  have hP : va_P D vwCl (mW tC mo ma F th N L ++ ((oa, wL tC 1 fo_6) :: pl_11)) H := hP
  have hD : va_D A (mW tC mo ma F th N L ++ ((oa, wL tC 1 fo_6) :: pl_11)) := hD
  refine W.widen (k := cn + 25) (n := sn + 16098) (by omega) (by omega) ?_
  refine lv_istore (lv' := [(5, .int r_3), (4, .int (nI (5 * c0))), (3, .ref oa), (2, .ref mo), (1, .ref (ad 0)), (0, .ref b)]) hx hb dL_law_458 hl (by decide) rfl (fun ls hl => ?_)
  refine lv_aload_n hx hb dL_law_460 rfl (lv_at hl 3 rfl) ?_
  refine lv_aload_n hx hb dL_law_461 rfl (lv_at hl 5 rfl) ?_
  refine lv_iload hx hb dL_law_462 (lv_at hl 1 rfl) ?_
  refine lv_iconst (v := 1) hx hb dL_law_464 (by decide) ?_
  refine lv_iadd hx hb dL_law_465 ?_
  refine lv_topi (fun z_15 ez_15 => ?_)
  have fz_15 : z_15 = (nI (5 * c0 + 1)) := ez_15.trans (show nI (5 * c0) + nI 1 = _ from nI_add _ _)
  subst fz_15
  refine va_sld hx hb hX hbl hbA hS (vp_in_nI (by omega) (by omega)) dL_law_466 ?_
  refine lv_eqi (v := z_2) ez_2.symm ?_
  have hPc := apP1 (X := (mW tC mo ma F th N L)) hP
  have hDc := apD1 (X := (mW tC mo ma F th N L)) hD
  have hFc := freeA hDc hS hA
  refine va_calli (va_runV (As := [.int z_2]) (rest := []) ⟨hx, hb, hml, hown, hts⟩ (c_X5_stop l hlt D tC dz H.size mo ma F th N L hJ z_2 ) (cwV 1 hts gL_law_X5_stop rfl rfl rfl (by decide +kernel) ⟨Nat.le_of_ble_eq_true rfl, Nat.le_of_ble_eq_true rfl⟩) ⟨pB_blind, va_recv hK hPc (ci := 6) (q0 := 0) rfl mW_0, pB_at hPc hDc hK hN hE hS hFc⟩ rfl rfl hl.1 rfl (lv_room (Nat.le_of_ble_eq_true rfl)) dL_law_467 ⟨(by show cn + 25 + 0 ≤ 600128; omega), (by show sn + 16098 + 0 ≤ 7301098; omega)⟩) hS (fun q _ h => hFc q h) hFc (fun r_16 u t9 H1 locs ht hvm hw hB hz1 hk1 hS => ?_)
  obtain ⟨F_18, th_19⟩ := u
  obtain ⟨N_20, hJ_22, hN8, hN9, hT9, hP1, _, hD1⟩ := hB
  rw [ht] at hP1
  obtain ⟨hP, hD⟩ := jn1 (C := (mW tC mo ma F th N L)) hP hD hk1 hFc hP1 hD1
  generalize H1 = H at hP hS ⊢
  have hw_17 := hw
  have hJ_22 : MI F_18 N_20 L := hJ_22
  have hN7 : N_20 ≤ N + 0 := hN9
  have hP : va_P D vwCl (mW tC mo ma F_18 th_19 N_20 L ++ ((oa, wL tC 1 fo_6) :: pl_11)) H := hP
  have hD : va_D A (mW tC mo ma F_18 th_19 N_20 L ++ ((oa, wL tC 1 fo_6) :: pl_11)) := hD
  have hBo : th_19 = r_3 ∧ (r_3 = 0 → fo_6 0 = if r_16 = 0 then 0 else 1) ∧ lnu up_5 F_18 ∧ cb_4 = cb := stop_both (u2 := (cb_4, up_5, fo_6)) (w2 := (F_18, th_19)) hlu hw_14 hw_17
  have hlu := hBo.2.2.1
  have hq9 : cb = cb_4 := hBo.2.2.2.symm
  subst hq9
  have hP : va_P D vwCl (mW tC mo ma F_18 th_19 N_20 L ++ ((oa, wL tC 1 fo_6) :: pl_11)) H := by assumption
  have hD : va_D A (mW tC mo ma F_18 th_19 N_20 L ++ ((oa, wL tC 1 fo_6) :: pl_11)) := by assumption
  have hlk := lnk_c hlk (show F_18 20 = F 20 from hT9)
  refine W.widen (k := cn + 25) (n := sn + 16098) (by omega) (by omega) ?_
  refine lv_istore (lv' := [(6, .int r_16), (5, .int r_3), (4, .int (nI (5 * c0))), (3, .ref oa), (2, .ref mo), (1, .ref (ad 0)), (0, .ref b)]) hx hb dL_law_470 hl (by decide) rfl (fun ls hl => ?_)
  refine lv_goto (tgt := 885) hx hb dL_law_472 (by decide) ?_
  refine W.widen (k := cn + 25) (n := sn + 16098) (by omega) (by omega) ?_
  subst hAe
  exact KK F_18 th_19 N_20 L t_7 ed_8 cb up_5 rs_9 cp_10 pl_11 fo_6 H locs ls ⟨hJ_22, by omega, hO_12, by omega, hlk, hlu, hP, hD, hS⟩ (lv_sub hl [2, 3, 4, 5, 6] rfl)
set_option maxHeartbeats 8000000 in
set_option maxRecDepth 100000 in
theorem lc_9 {p : Program} {l : Launch} {e : Env} {s : State} {m : MethodId} {below : List Frame} {meth : Method} {c : Code} {b Lx : Nat} {xs : Nat → Int32} (hlt : l.stackTraces = false) (C0 : lw_At p s m meth c b Lx xs) (hLx : Lx ≤ 320) (D : va_G) (tC : Nat → ClassId) (dz mo oa : Nat) (ma ad : Nat → Nat) (hK : va_K D vwCl (tY tC) s) (hN : eN s) (hE : eH dz (fun q : Nat => s.heap.size ≤ q) s s.heap) (c0 : Nat) (hc0 : 5 * c0 + 5 ≤ Lx) (cn sn : Nat) (hcn : cn ≤ 500000) (hsn : sn ≤ 7000000) (KK : ∀ (F : Nat → Nat → Int32) (th : Int32) (N L : Nat) (t : Nat → Nat × Nat) (ed : Nat) (cb up : Nat → Int32) (rs cp : Nat) (pl : va_W) (fo : Nat → Int64) (H : Heap) (locs : List Loc) (ls : Array Slot), LI D tC dz mo oa ma ad s (c0 + 1) F th N L t ed cb up rs cp pl fo H locs → lv_has ls 7 [(4, .int (nI (5 * c0))), (3, .ref oa), (2, .ref mo), (1, .ref (ad 0)), (0, .ref b)] → W p l e room_1 s m #[Value.ref b] below meth c H locs (cn + 25) (sn + 16098) (lw_Z below #[Value.ref b] s) (F0 m 885 ls [])) (F : Nat → Nat → Int32) (th : Int32) (N L : Nat) (t : Nat → Nat × Nat) (ed : Nat) (cb up : Nat → Int32) (rs cp : Nat) (pl : va_W) (fo : Nat → Int64) (H : Heap) (locs : List Loc) (ls : Array Slot) (hI : LI D tC dz mo oa ma ad s c0 F th N L t ed cb up rs cp pl fo H locs) (hl : lv_has ls 7 [(4, .int (nI (5 * c0))), (3, .ref oa), (2, .ref mo), (1, .ref (ad 0)), (0, .ref b)]) : W p l e room_1 s m #[Value.ref b] below meth c H locs cn sn (lw_Z below #[Value.ref b] s) (F0 m 475 ls []) := by
  obtain ⟨hx, hb, hr, hml, hown, hts0, hX, hbl, hlocks, hgv⟩ := C0
  have hts : ∀ w ∈ wsL_law, w.before #[Value.ref b] s = true := fun w h => hts0 w (wsL_law_in w h)
  have hown : s.vm.findClass RL = some m.cls := hown
  obtain ⟨hJ, hN9, hO, hrs9, hlk, hlu, hP, hD, hS⟩ := hI
  have hN5 := hJ.n9
  obtain ⟨A, hAe⟩ : ∃ A : Nat → Prop, A = fun q : Nat => s.heap.size ≤ q := ⟨_, rfl⟩
  rw [← hAe] at hE hD hS
  have hA : ∀ q : Nat, s.heap.size ≤ q → A q := fun q h => by rw [hAe]; exact h
  have hbA : ¬ A b := by rw [hAe]; exact Nat.not_le.mpr hbl
  refine lv_aload_n hx hb dL_law_475 rfl (lv_at hl 3 rfl) ?_
  refine lv_aload_n hx hb dL_law_476 rfl (lv_at hl 4 rfl) ?_
  refine lv_iload hx hb dL_law_477 (lv_at hl 0 rfl) ?_
  refine lv_iconst (v := 1) hx hb dL_law_479 (by decide) ?_
  refine lv_iadd hx hb dL_law_480 ?_
  refine lv_topi (fun z_1 ez_1 => ?_)
  have fz_1 : z_1 = (nI (5 * c0 + 1)) := ez_1.trans (show nI (5 * c0) + nI 1 = _ from nI_add _ _)
  subst fz_1
  refine va_sld hx hb hX hbl hbA hS (vp_in_nI (by omega) (by omega)) dL_law_481 ?_
  refine lv_topi (fun z_2 ez_2 => ?_)
  refine lv_aload_n hx hb dL_law_482 rfl (lv_at hl 1 rfl) ?_
  have hPc := apP (X := (mW tC mo ma F th N L)) hP
  have hDc := apD (X := (mW tC mo ma F th N L)) hD
  have hFc := freeA hDc hS hA
  refine vx_calli (vx_runSX (As := [.ref (ad 0), .int z_2, .ref oa]) (rest := []) ⟨hx, hb, hml, hown, hts⟩ (c_L_start l hlt D tC dz H.size pl t ad ed cb up rs cp hO oa fo z_2 ) (vx_cwSW 3 hts gL_law_L_start rfl rfl rfl (by decide +kernel) ⟨Nat.le_of_ble_eq_true rfl, Nat.le_of_ble_eq_true rfl⟩) ⟨pB_blind, pB_at hPc hDc hK hN hE hS hFc⟩ rfl rfl hl.1 rfl (lv_room (Nat.le_of_ble_eq_true rfl)) dL_law_483 ⟨(by show cn + 1 ≤ 600128; omega), (by show sn + 6 ≤ 7301098; omega)⟩) hS (fun q _ h => hFc q h) hFc (fun q _ h => hFc q h) (fun E ce q9 u t9 H1 locs ht hvm hpx hPE hz1 hk1 hS hce hcv hcl => False.elim hPE) (fun r_3 u t9 H1 locs ht hvm hw hB hz1 hk1 hS => ?_)
  obtain ⟨cb_4, up_5, fo_6⟩ := u
  obtain ⟨t_7, ed_8, rs_9, cp_10, pl_11, hrs_13, hO_12, hP1, _, hD1⟩ := hB
  rw [ht] at hP1
  obtain ⟨hP, hD⟩ := jn2 (X := (mW tC mo ma F th N L)) hP hD hk1 hFc hP1 hD1
  generalize H1 = H at hP hS ⊢
  have hw_14 := hw
  have hO_12 : Ok tC dz t_7 ad ed_8 cb_4 up_5 rs_9 cp_10 pl_11 := hO_12
  have hrs_13 : rs_9 ≤ rs + 0 := hrs_13
  have hP : va_P D vwCl (mW tC mo ma F th N L ++ ((oa, wL tC 1 fo_6) :: pl_11)) H := hP
  have hD : va_D A (mW tC mo ma F th N L ++ ((oa, wL tC 1 fo_6) :: pl_11)) := hD
  refine W.widen (k := cn + 25) (n := sn + 16098) (by omega) (by omega) ?_
  refine lv_istore (lv' := [(5, .int r_3), (4, .int (nI (5 * c0))), (3, .ref oa), (2, .ref mo), (1, .ref (ad 0)), (0, .ref b)]) hx hb dL_law_486 hl (by decide) rfl (fun ls hl => ?_)
  refine lv_aload_n hx hb dL_law_488 rfl (lv_at hl 3 rfl) ?_
  refine lv_aload_n hx hb dL_law_489 rfl (lv_at hl 5 rfl) ?_
  refine lv_iload hx hb dL_law_490 (lv_at hl 1 rfl) ?_
  refine lv_iconst (v := 1) hx hb dL_law_492 (by decide) ?_
  refine lv_iadd hx hb dL_law_493 ?_
  refine lv_topi (fun z_15 ez_15 => ?_)
  have fz_15 : z_15 = (nI (5 * c0 + 1)) := ez_15.trans (show nI (5 * c0) + nI 1 = _ from nI_add _ _)
  subst fz_15
  refine va_sld hx hb hX hbl hbA hS (vp_in_nI (by omega) (by omega)) dL_law_494 ?_
  refine lv_eqi (v := z_2) ez_2.symm ?_
  have hPc := apP1 (X := (mW tC mo ma F th N L)) hP
  have hDc := apD1 (X := (mW tC mo ma F th N L)) hD
  have hFc := freeA hDc hS hA
  refine va_calli (va_runV (As := [.int z_2]) (rest := []) ⟨hx, hb, hml, hown, hts⟩ (c_X5_start l hlt D tC dz H.size mo ma F th N L hJ z_2 ) (cwV 1 hts gL_law_X5_start rfl rfl rfl (by decide +kernel) ⟨Nat.le_of_ble_eq_true rfl, Nat.le_of_ble_eq_true rfl⟩) ⟨pB_blind, va_recv hK hPc (ci := 6) (q0 := 0) rfl mW_0, pB_at hPc hDc hK hN hE hS hFc⟩ rfl rfl hl.1 rfl (lv_room (Nat.le_of_ble_eq_true rfl)) dL_law_495 ⟨(by show cn + 25 + 0 ≤ 600128; omega), (by show sn + 16098 + 0 ≤ 7301098; omega)⟩) hS (fun q _ h => hFc q h) hFc (fun r_16 u t9 H1 locs ht hvm hw hB hz1 hk1 hS => ?_)
  obtain ⟨F_18, th_19⟩ := u
  obtain ⟨N_20, hJ_22, hN8, hN9, hT9, hP1, _, hD1⟩ := hB
  rw [ht] at hP1
  obtain ⟨hP, hD⟩ := jn1 (C := (mW tC mo ma F th N L)) hP hD hk1 hFc hP1 hD1
  generalize H1 = H at hP hS ⊢
  have hw_17 := hw
  have hJ_22 : MI F_18 N_20 L := hJ_22
  have hN7 : N_20 ≤ N + 0 := hN9
  have hP : va_P D vwCl (mW tC mo ma F_18 th_19 N_20 L ++ ((oa, wL tC 1 fo_6) :: pl_11)) H := hP
  have hD : va_D A (mW tC mo ma F_18 th_19 N_20 L ++ ((oa, wL tC 1 fo_6) :: pl_11)) := hD
  have hBo : th_19 = r_3 ∧ (r_3 = 0 → fo_6 0 = if r_16 = 0 then 0 else 1) ∧ lnu up_5 F_18 ∧ cb_4 = cb := start_both (u2 := (cb_4, up_5, fo_6)) (w2 := (F_18, th_19)) hlu hw_14 hw_17
  have hlu := hBo.2.2.1
  have hq9 : cb = cb_4 := hBo.2.2.2.symm
  subst hq9
  have hP : va_P D vwCl (mW tC mo ma F_18 th_19 N_20 L ++ ((oa, wL tC 1 fo_6) :: pl_11)) H := by assumption
  have hD : va_D A (mW tC mo ma F_18 th_19 N_20 L ++ ((oa, wL tC 1 fo_6) :: pl_11)) := by assumption
  have hlk := lnk_c hlk (show F_18 20 = F 20 from hT9)
  refine W.widen (k := cn + 25) (n := sn + 16098) (by omega) (by omega) ?_
  refine lv_istore (lv' := [(6, .int r_16), (5, .int r_3), (4, .int (nI (5 * c0))), (3, .ref oa), (2, .ref mo), (1, .ref (ad 0)), (0, .ref b)]) hx hb dL_law_498 hl (by decide) rfl (fun ls hl => ?_)
  refine lv_aload_n hx hb dL_law_500 rfl (lv_at hl 4 rfl) ?_
  have hPc := apP1 (X := (mW tC mo ma F_18 th_19 N_20 L)) hP
  have hDc := apD1 (X := (mW tC mo ma F_18 th_19 N_20 L)) hD
  have hFc := freeA hDc hS hA
  refine va_calli (va_runV (As := []) (rest := []) ⟨hx, hb, hml, hown, hts⟩ (c_X5_thrown l hlt D tC dz H.size mo ma F_18 th_19 N_20 L hJ_22  ) (cwV 0 hts gL_law_X5_thrown rfl rfl rfl (by decide +kernel) ⟨Nat.le_of_ble_eq_true rfl, Nat.le_of_ble_eq_true rfl⟩) ⟨pB_blind, va_recv hK hPc (ci := 6) (q0 := 0) rfl mW_0, pB_at hPc hDc hK hN hE hS hFc⟩ rfl rfl hl.1 rfl (lv_room (Nat.le_of_ble_eq_true rfl)) dL_law_501 ⟨(by show cn + 25 + 0 ≤ 600128; omega), (by show sn + 16098 + 0 ≤ 7301098; omega)⟩) hS oldN (freeN hS hA) (fun r_23 u t9 H1 locs ht hvm hw hB hz1 hk1 hS => ?_)
  have hw_24 := hw
  have hP := keepP hP hk1
  generalize H1 = H at hP hS ⊢
  refine W.widen (k := cn + 25) (n := sn + 16098) (by omega) (by omega) ?_
  refine lv_iload hx hb dL_law_504 (lv_at hl 1 rfl) ?_
  refine lv_icmp_eq (tgt := 511) hx hb dL_law_506 (by decide) (fun _ => ?_) (fun hc => absurd (hw_24.trans hBo.1) hc)
  refine lv_iload hx hb dL_law_511 (lv_at hl 1 rfl) ?_
  refine lv_if_ne (tgt := 535) hx hb dL_law_513 (by decide) (fun c_25 => ?_) (fun c_25 => ?_)
  · skip
    refine lv_goto (tgt := 885) hx hb dL_law_535 (by decide) ?_
    refine W.widen (k := cn + 25) (n := sn + 16098) (by omega) (by omega) ?_
    subst hAe
    exact KK F_18 th_19 N_20 L t_7 ed_8 cb up_5 rs_9 cp_10 pl_11 fo_6 H locs ls ⟨hJ_22, by omega, hO_12, by omega, hlk, hlu, hP, hD, hS⟩ (lv_sub hl [2, 3, 4, 5, 6] rfl)
  · skip
    refine lv_aload_n hx hb dL_law_516 rfl (lv_at hl 3 rfl) ?_
    refine lv_iconst (v := 0) hx hb dL_law_517 (by decide) ?_
    refine va_lald hx hb hK hP 27 5 rfl rfl (by unfold vp_in; decide) dL_law_518 ?_
    rw [show (0 : Int32).toNatClampNeg = 0 by decide]
    refine lv_iload hx hb dL_law_519 (lv_at hl 0 rfl) ?_
    refine lv_if_eq (tgt := 528) hx hb dL_law_521 (by decide) (fun c_26 => ?_) (fun c_26 => ?_)
    · skip
      refine lv_lconst (v := 0) hx hb dL_law_528 (by decide) ?_
      refine W.lcmp hx hb dL_law_529 ?_
      refine lv_topi (fun z_27 ez_27 => ?_)
      have fz_27 : z_27 = 0 := ez_27.trans (lgc ((hBo.2.1 c_25).trans (if_pos c_26)))
      subst fz_27
      refine lv_if_eq (tgt := 535) hx hb dL_law_530 (by decide) (fun _ => ?_) (fun hc => absurd (by decide) hc)
      refine lv_goto (tgt := 885) hx hb dL_law_535 (by decide) ?_
      refine W.widen (k := cn + 25) (n := sn + 16098) (by omega) (by omega) ?_
      subst hAe
      exact KK F_18 th_19 N_20 L t_7 ed_8 cb up_5 rs_9 cp_10 pl_11 fo_6 H locs ls ⟨hJ_22, by omega, hO_12, by omega, hlk, hlu, hP, hD, hS⟩ (lv_sub hl [2, 3, 4, 5, 6] rfl)
    · skip
      refine lv_lconst (v := 1) hx hb dL_law_524 (by decide) ?_
      refine lv_goto (tgt := 529) hx hb dL_law_525 (by decide) ?_
      refine W.lcmp hx hb dL_law_529 ?_
      refine lv_topi (fun z_28 ez_28 => ?_)
      have fz_28 : z_28 = 0 := ez_28.trans (lgc ((hBo.2.1 c_25).trans (if_neg c_26)))
      subst fz_28
      refine lv_if_eq (tgt := 535) hx hb dL_law_530 (by decide) (fun _ => ?_) (fun hc => absurd (by decide) hc)
      refine lv_goto (tgt := 885) hx hb dL_law_535 (by decide) ?_
      refine W.widen (k := cn + 25) (n := sn + 16098) (by omega) (by omega) ?_
      subst hAe
      exact KK F_18 th_19 N_20 L t_7 ed_8 cb up_5 rs_9 cp_10 pl_11 fo_6 H locs ls ⟨hJ_22, by omega, hO_12, by omega, hlk, hlu, hP, hD, hS⟩ (lv_sub hl [2, 3, 4, 5, 6] rfl)
set_option maxHeartbeats 8000000 in
set_option maxRecDepth 100000 in
theorem lc_10 {p : Program} {l : Launch} {e : Env} {s : State} {m : MethodId} {below : List Frame} {meth : Method} {c : Code} {b Lx : Nat} {xs : Nat → Int32} (hlt : l.stackTraces = false) (C0 : lw_At p s m meth c b Lx xs) (hLx : Lx ≤ 320) (D : va_G) (tC : Nat → ClassId) (dz mo oa : Nat) (ma ad : Nat → Nat) (hK : va_K D vwCl (tY tC) s) (hN : eN s) (hE : eH dz (fun q : Nat => s.heap.size ≤ q) s s.heap) (c0 : Nat) (hc0 : 5 * c0 + 5 ≤ Lx) (cn sn : Nat) (hcn : cn ≤ 500000) (hsn : sn ≤ 7000000) (KK : ∀ (F : Nat → Nat → Int32) (th : Int32) (N L : Nat) (t : Nat → Nat × Nat) (ed : Nat) (cb up : Nat → Int32) (rs cp : Nat) (pl : va_W) (fo : Nat → Int64) (H : Heap) (locs : List Loc) (ls : Array Slot), LI D tC dz mo oa ma ad s (c0 + 1) F th N L t ed cb up rs cp pl fo H locs → lv_has ls 7 [(4, .int (nI (5 * c0))), (3, .ref oa), (2, .ref mo), (1, .ref (ad 0)), (0, .ref b)] → W p l e room_1 s m #[Value.ref b] below meth c H locs (cn + 25) (sn + 16098) (lw_Z below #[Value.ref b] s) (F0 m 885 ls [])) (F : Nat → Nat → Int32) (th : Int32) (N L : Nat) (t : Nat → Nat × Nat) (ed : Nat) (cb up : Nat → Int32) (rs cp : Nat) (pl : va_W) (fo : Nat → Int64) (H : Heap) (locs : List Loc) (ls : Array Slot) (hI : LI D tC dz mo oa ma ad s c0 F th N L t ed cb up rs cp pl fo H locs) (hl : lv_has ls 7 [(4, .int (nI (5 * c0))), (3, .ref oa), (2, .ref mo), (1, .ref (ad 0)), (0, .ref b)]) : W p l e room_1 s m #[Value.ref b] below meth c H locs cn sn (lw_Z below #[Value.ref b] s) (F0 m 538 ls []) := by
  obtain ⟨hx, hb, hr, hml, hown, hts0, hX, hbl, hlocks, hgv⟩ := C0
  have hts : ∀ w ∈ wsL_law, w.before #[Value.ref b] s = true := fun w h => hts0 w (wsL_law_in w h)
  have hown : s.vm.findClass RL = some m.cls := hown
  obtain ⟨hJ, hN9, hO, hrs9, hlk, hlu, hP, hD, hS⟩ := hI
  have hN5 := hJ.n9
  obtain ⟨A, hAe⟩ : ∃ A : Nat → Prop, A = fun q : Nat => s.heap.size ≤ q := ⟨_, rfl⟩
  rw [← hAe] at hE hD hS
  have hA : ∀ q : Nat, s.heap.size ≤ q → A q := fun q h => by rw [hAe]; exact h
  have hbA : ¬ A b := by rw [hAe]; exact Nat.not_le.mpr hbl
  refine lv_aload_n hx hb dL_law_538 rfl (lv_at hl 3 rfl) ?_
  have hPc := apP (X := [(oa, wL tC 1 fo)]) (apP (X := (mW tC mo ma F th N L)) hP)
  have hDc := apD (X := [(oa, wL tC 1 fo)]) (apD (X := (mW tC mo ma F th N L)) hD)
  obtain ⟨p9, hp9⟩ := hO.k7
  refine va_calli (va_runV (As := []) (rest := []) ⟨hx, hb, hml, hown, hts⟩ (c_X4_letters l hlt D tC dz H.size pl t ad ed cb up rs cp hO) (cwV 0 hts gL_law_X4_letters rfl rfl rfl (by decide +kernel) ⟨Nat.le_of_ble_eq_true rfl, Nat.le_of_ble_eq_true rfl⟩) ⟨pB_blind, va_recv hK hPc (ci := 5) (q0 := p9) rfl hp9, pB_at hPc hDc hK hN hE hS (freeA hDc hS hA)⟩ rfl rfl hl.1 rfl (lv_room (Nat.le_of_ble_eq_true rfl)) dL_law_539 ⟨(by show cn + 0 ≤ 600128; omega), (by show sn + 0 ≤ 7301098; omega)⟩) hS oldN (freeN hS hA) (fun r_1 u t9 H1 locs ht hvm hw hB hz1 hk1 hS => ?_)
  have hP := keepP hP hk1
  generalize H1 = H at hP hS ⊢
  refine W.widen (k := cn + 25) (n := sn + 16098) (by omega) (by omega) ?_
  refine lv_pop hx hb dL_law_542 rfl ?_
  refine lv_aload_n hx hb dL_law_543 rfl (lv_at hl 2 rfl) ?_
  have hPc := apP1 (X := (mW tC mo ma F th N L)) hP
  have hDc := apD1 (X := (mW tC mo ma F th N L)) hD
  have hFc := freeA hDc hS hA
  refine va_calli (va_runV (As := []) (rest := []) ⟨hx, hb, hml, hown, hts⟩ (c_X5_letters l hlt D tC dz H.size mo ma F th N L hJ  ) (cwV 0 hts gL_law_X5_letters rfl rfl rfl (by decide +kernel) ⟨Nat.le_of_ble_eq_true rfl, Nat.le_of_ble_eq_true rfl⟩) ⟨pB_blind, va_recv hK hPc (ci := 6) (q0 := 0) rfl mW_0, pB_at hPc hDc hK hN hE hS hFc⟩ rfl rfl hl.1 rfl (lv_room (Nat.le_of_ble_eq_true rfl)) dL_law_544 ⟨(by show cn + 25 + 0 ≤ 600128; omega), (by show sn + 16098 + 0 ≤ 7301098; omega)⟩) hS (fun q _ h => hFc q h) hFc (fun r_2 u t9 H1 locs ht hvm hw hB hz1 hk1 hS => ?_)
  obtain ⟨F_4, th_5, N_6, L_7, hJ_8, hN8, hN9, hT9, hP1, _, hD1⟩ := hB
  rw [ht] at hP1
  obtain ⟨hP, hD⟩ := jn1 (C := (mW tC mo ma F th N L)) hP hD hk1 hFc hP1 hD1
  generalize H1 = H at hP hS ⊢
  have hw_3 := hw
  have hJ_8 : MI F_4 N_6 L_7 := hJ_8
  have hN7 : N_6 ≤ N + 0 := hN9
  have hP : va_P D vwCl (mW tC mo ma F_4 th_5 N_6 L_7 ++ ((oa, wL tC 1 fo) :: pl)) H := hP
  have hD : va_D A (mW tC mo ma F_4 th_5 N_6 L_7 ++ ((oa, wL tC 1 fo) :: pl)) := hD
  have hlk := lnk_c hlk hT9.2
  have hlu := lnu_c hlu hT9.1
  refine W.widen (k := cn + 25) (n := sn + 16098) (by omega) (by omega) ?_
  refine lv_pop hx hb dL_law_547 rfl ?_
  refine lv_goto (tgt := 885) hx hb dL_law_548 (by decide) ?_
  refine W.widen (k := cn + 25) (n := sn + 16098) (by omega) (by omega) ?_
  subst hAe
  exact KK F_4 th_5 N_6 L_7 t ed cb up rs cp pl fo H locs ls ⟨hJ_8, by omega, hO, by omega, hlk, hlu, hP, hD, hS⟩ (lv_sub hl [0, 1, 2, 3, 4] rfl)
set_option maxHeartbeats 8000000 in
set_option maxRecDepth 100000 in
theorem lc_11 {p : Program} {l : Launch} {e : Env} {s : State} {m : MethodId} {below : List Frame} {meth : Method} {c : Code} {b Lx : Nat} {xs : Nat → Int32} (hlt : l.stackTraces = false) (C0 : lw_At p s m meth c b Lx xs) (hLx : Lx ≤ 320) (D : va_G) (tC : Nat → ClassId) (dz mo oa : Nat) (ma ad : Nat → Nat) (hK : va_K D vwCl (tY tC) s) (hN : eN s) (hE : eH dz (fun q : Nat => s.heap.size ≤ q) s s.heap) (c0 : Nat) (hc0 : 5 * c0 + 5 ≤ Lx) (cn sn : Nat) (hcn : cn ≤ 500000) (hsn : sn ≤ 7000000) (KK : ∀ (F : Nat → Nat → Int32) (th : Int32) (N L : Nat) (t : Nat → Nat × Nat) (ed : Nat) (cb up : Nat → Int32) (rs cp : Nat) (pl : va_W) (fo : Nat → Int64) (H : Heap) (locs : List Loc) (ls : Array Slot), LI D tC dz mo oa ma ad s (c0 + 1) F th N L t ed cb up rs cp pl fo H locs → lv_has ls 7 [(4, .int (nI (5 * c0))), (3, .ref oa), (2, .ref mo), (1, .ref (ad 0)), (0, .ref b)] → W p l e room_1 s m #[Value.ref b] below meth c H locs (cn + 25) (sn + 16098) (lw_Z below #[Value.ref b] s) (F0 m 885 ls [])) (F : Nat → Nat → Int32) (th : Int32) (N L : Nat) (t : Nat → Nat × Nat) (ed : Nat) (cb up : Nat → Int32) (rs cp : Nat) (pl : va_W) (fo : Nat → Int64) (H : Heap) (locs : List Loc) (ls : Array Slot) (hI : LI D tC dz mo oa ma ad s c0 F th N L t ed cb up rs cp pl fo H locs) (hl : lv_has ls 7 [(4, .int (nI (5 * c0))), (3, .ref oa), (2, .ref mo), (1, .ref (ad 0)), (0, .ref b)]) : W p l e room_1 s m #[Value.ref b] below meth c H locs cn sn (lw_Z below #[Value.ref b] s) (F0 m 551 ls []) := by
  obtain ⟨hx, hb, hr, hml, hown, hts0, hX, hbl, hlocks, hgv⟩ := C0
  have hts : ∀ w ∈ wsL_law, w.before #[Value.ref b] s = true := fun w h => hts0 w (wsL_law_in w h)
  have hown : s.vm.findClass RL = some m.cls := hown
  obtain ⟨hJ, hN9, hO, hrs9, hlk, hlu, hP, hD, hS⟩ := hI
  have hN5 := hJ.n9
  obtain ⟨A, hAe⟩ : ∃ A : Nat → Prop, A = fun q : Nat => s.heap.size ≤ q := ⟨_, rfl⟩
  rw [← hAe] at hE hD hS
  have hA : ∀ q : Nat, s.heap.size ≤ q → A q := fun q h => by rw [hAe]; exact h
  have hbA : ¬ A b := by rw [hAe]; exact Nat.not_le.mpr hbl
  refine lv_aload_n hx hb dL_law_551 rfl (lv_at hl 3 rfl) ?_
  refine lv_aload_n hx hb dL_law_552 rfl (lv_at hl 4 rfl) ?_
  refine lv_iload hx hb dL_law_553 (lv_at hl 0 rfl) ?_
  refine lv_iconst (v := 1) hx hb dL_law_555 (by decide) ?_
  refine lv_iadd hx hb dL_law_556 ?_
  refine lv_topi (fun z_1 ez_1 => ?_)
  have fz_1 : z_1 = (nI (5 * c0 + 1)) := ez_1.trans (show nI (5 * c0) + nI 1 = _ from nI_add _ _)
  subst fz_1
  refine va_sld hx hb hX hbl hbA hS (vp_in_nI (by omega) (by omega)) dL_law_557 ?_
  refine lv_topi (fun z_2 ez_2 => ?_)
  refine lv_aload_n hx hb dL_law_558 rfl (lv_at hl 1 rfl) ?_
  have hPc := apP (X := (mW tC mo ma F th N L)) hP
  have hDc := apD (X := (mW tC mo ma F th N L)) hD
  have hFc := freeA hDc hS hA
  refine vx_calli (vx_runSX (As := [.ref (ad 0), .int z_2, .ref oa]) (rest := []) ⟨hx, hb, hml, hown, hts⟩ (c_L_deliver l hlt D tC dz H.size pl t ad ed cb up rs cp hO oa fo z_2 (by omega)) (vx_cwSW 3 hts gL_law_L_deliver rfl rfl rfl (by decide +kernel) ⟨Nat.le_of_ble_eq_true rfl, Nat.le_of_ble_eq_true rfl⟩) ⟨pB_blind, pB_at hPc hDc hK hN hE hS hFc⟩ rfl rfl hl.1 rfl (lv_room (Nat.le_of_ble_eq_true rfl)) dL_law_559 ⟨(by show cn + 12 ≤ 600128; omega), (by show sn + 8037 ≤ 7301098; omega)⟩) hS (fun q _ h => hFc q h) hFc (fun q _ h => hFc q h) (fun E ce q9 u t9 H1 locs ht hvm hpx hPE hz1 hk1 hS hce hcv hcl => False.elim hPE) (fun r_3 u t9 H1 locs ht hvm hw hB hz1 hk1 hS => ?_)
  obtain ⟨cb_4, up_5, fo_6⟩ := u
  obtain ⟨t_7, ed_8, rs_9, cp_10, pl_11, hrs_13, hO_12, hP1, _, hD1⟩ := hB
  rw [ht] at hP1
  obtain ⟨hP, hD⟩ := jn2 (X := (mW tC mo ma F th N L)) hP hD hk1 hFc hP1 hD1
  generalize H1 = H at hP hS ⊢
  have hw_14 := hw
  have hq9 : cb = cb_4 ∧ up = up_5 := ⟨hw.1.symm, hw.2.symm⟩
  obtain ⟨rfl, rfl⟩ := hq9
  have hO_12 : Ok tC dz t_7 ad ed_8 cb up rs_9 cp_10 pl_11 := hO_12
  have hrs_13 : rs_9 ≤ rs + 5 := hrs_13
  have hP : va_P D vwCl (mW tC mo ma F th N L ++ ((oa, wL tC 1 fo_6) :: pl_11)) H := hP
  have hD : va_D A (mW tC mo ma F th N L ++ ((oa, wL tC 1 fo_6) :: pl_11)) := hD
  refine W.widen (k := cn + 25) (n := sn + 16098) (by omega) (by omega) ?_
  refine lv_istore (lv' := [(5, .int r_3), (4, .int (nI (5 * c0))), (3, .ref oa), (2, .ref mo), (1, .ref (ad 0)), (0, .ref b)]) hx hb dL_law_562 hl (by decide) rfl (fun ls hl => ?_)
  refine lv_aload_n hx hb dL_law_564 rfl (lv_at hl 3 rfl) ?_
  refine lv_aload_n hx hb dL_law_565 rfl (lv_at hl 5 rfl) ?_
  refine lv_iload hx hb dL_law_566 (lv_at hl 1 rfl) ?_
  refine lv_iconst (v := 1) hx hb dL_law_568 (by decide) ?_
  refine lv_iadd hx hb dL_law_569 ?_
  refine lv_topi (fun z_15 ez_15 => ?_)
  have fz_15 : z_15 = (nI (5 * c0 + 1)) := ez_15.trans (show nI (5 * c0) + nI 1 = _ from nI_add _ _)
  subst fz_15
  refine va_sld hx hb hX hbl hbA hS (vp_in_nI (by omega) (by omega)) dL_law_570 ?_
  refine lv_eqi (v := z_2) ez_2.symm ?_
  have hPc := apP1 (X := (mW tC mo ma F th N L)) hP
  have hDc := apD1 (X := (mW tC mo ma F th N L)) hD
  have hFc := freeA hDc hS hA
  refine va_calli (va_runV (As := [.int z_2]) (rest := []) ⟨hx, hb, hml, hown, hts⟩ (c_X5_deliver l hlt D tC dz H.size mo ma F th N L hJ z_2 ) (cwV 1 hts gL_law_X5_deliver rfl rfl rfl (by decide +kernel) ⟨Nat.le_of_ble_eq_true rfl, Nat.le_of_ble_eq_true rfl⟩) ⟨pB_blind, va_recv hK hPc (ci := 6) (q0 := 0) rfl mW_0, pB_at hPc hDc hK hN hE hS hFc⟩ rfl rfl hl.1 rfl (lv_room (Nat.le_of_ble_eq_true rfl)) dL_law_571 ⟨(by show cn + 25 + 0 ≤ 600128; omega), (by show sn + 16098 + 0 ≤ 7301098; omega)⟩) hS (fun q _ h => hFc q h) hFc (fun r_16 u t9 H1 locs ht hvm hw hB hz1 hk1 hS => ?_)
  obtain ⟨F_18, th_19, N_20, L_21, hJ_22, hN8, hN9, hT9, hP1, _, hD1⟩ := hB
  rw [ht] at hP1
  obtain ⟨hP, hD⟩ := jn1 (C := (mW tC mo ma F th N L)) hP hD hk1 hFc hP1 hD1
  generalize H1 = H at hP hS ⊢
  have hw_17 := hw
  have hJ_22 : MI F_18 N_20 L_21 := hJ_22
  have hN7 : N_20 ≤ N + 0 := hN9
  have hP : va_P D vwCl (mW tC mo ma F_18 th_19 N_20 L_21 ++ ((oa, wL tC 1 fo_6) :: pl_11)) H := hP
  have hD : va_D A (mW tC mo ma F_18 th_19 N_20 L_21 ++ ((oa, wL tC 1 fo_6) :: pl_11)) := hD
  have hlk := lnk_c hlk hT9.2
  have hlu := lnu_c hlu hT9.1
  refine W.widen (k := cn + 25) (n := sn + 16098) (by omega) (by omega) ?_
  refine lv_istore (lv' := [(6, .int r_16), (5, .int r_3), (4, .int (nI (5 * c0))), (3, .ref oa), (2, .ref mo), (1, .ref (ad 0)), (0, .ref b)]) hx hb dL_law_574 hl (by decide) rfl (fun ls hl => ?_)
  refine lv_goto (tgt := 885) hx hb dL_law_576 (by decide) ?_
  refine W.widen (k := cn + 25) (n := sn + 16098) (by omega) (by omega) ?_
  subst hAe
  exact KK F_18 th_19 N_20 L_21 t_7 ed_8 cb up rs_9 cp_10 pl_11 fo_6 H locs ls ⟨hJ_22, by omega, hO_12, by omega, hlk, hlu, hP, hD, hS⟩ (lv_sub hl [2, 3, 4, 5, 6] rfl)
set_option maxHeartbeats 8000000 in
set_option maxRecDepth 100000 in
theorem lc_12 {p : Program} {l : Launch} {e : Env} {s : State} {m : MethodId} {below : List Frame} {meth : Method} {c : Code} {b Lx : Nat} {xs : Nat → Int32} (hlt : l.stackTraces = false) (C0 : lw_At p s m meth c b Lx xs) (hLx : Lx ≤ 320) (D : va_G) (tC : Nat → ClassId) (dz mo oa : Nat) (ma ad : Nat → Nat) (hK : va_K D vwCl (tY tC) s) (hN : eN s) (hE : eH dz (fun q : Nat => s.heap.size ≤ q) s s.heap) (c0 : Nat) (hc0 : 5 * c0 + 5 ≤ Lx) (cn sn : Nat) (hcn : cn ≤ 500000) (hsn : sn ≤ 7000000) (KK : ∀ (F : Nat → Nat → Int32) (th : Int32) (N L : Nat) (t : Nat → Nat × Nat) (ed : Nat) (cb up : Nat → Int32) (rs cp : Nat) (pl : va_W) (fo : Nat → Int64) (H : Heap) (locs : List Loc) (ls : Array Slot), LI D tC dz mo oa ma ad s (c0 + 1) F th N L t ed cb up rs cp pl fo H locs → lv_has ls 7 [(4, .int (nI (5 * c0))), (3, .ref oa), (2, .ref mo), (1, .ref (ad 0)), (0, .ref b)] → W p l e room_1 s m #[Value.ref b] below meth c H locs (cn + 25) (sn + 16098) (lw_Z below #[Value.ref b] s) (F0 m 885 ls [])) (F : Nat → Nat → Int32) (th : Int32) (N L : Nat) (t : Nat → Nat × Nat) (ed : Nat) (cb up : Nat → Int32) (rs cp : Nat) (pl : va_W) (fo : Nat → Int64) (H : Heap) (locs : List Loc) (ls : Array Slot) (hI : LI D tC dz mo oa ma ad s c0 F th N L t ed cb up rs cp pl fo H locs) (hl : lv_has ls 7 [(4, .int (nI (5 * c0))), (3, .ref oa), (2, .ref mo), (1, .ref (ad 0)), (0, .ref b)]) : W p l e room_1 s m #[Value.ref b] below meth c H locs cn sn (lw_Z below #[Value.ref b] s) (F0 m 579 ls []) := by
  obtain ⟨hx, hb, hr, hml, hown, hts0, hX, hbl, hlocks, hgv⟩ := C0
  have hts : ∀ w ∈ wsL_law, w.before #[Value.ref b] s = true := fun w h => hts0 w (wsL_law_in w h)
  have hown : s.vm.findClass RL = some m.cls := hown
  obtain ⟨hJ, hN9, hO, hrs9, hlk, hlu, hP, hD, hS⟩ := hI
  have hN5 := hJ.n9
  obtain ⟨A, hAe⟩ : ∃ A : Nat → Prop, A = fun q : Nat => s.heap.size ≤ q := ⟨_, rfl⟩
  rw [← hAe] at hE hD hS
  have hA : ∀ q : Nat, s.heap.size ≤ q → A q := fun q h => by rw [hAe]; exact h
  have hbA : ¬ A b := by rw [hAe]; exact Nat.not_le.mpr hbl
  refine lv_aload_n hx hb dL_law_579 rfl (lv_at hl 3 rfl) ?_
  refine lv_aload_n hx hb dL_law_580 rfl (lv_at hl 4 rfl) ?_
  refine lv_iload hx hb dL_law_581 (lv_at hl 0 rfl) ?_
  refine lv_iconst (v := 1) hx hb dL_law_583 (by decide) ?_
  refine lv_iadd hx hb dL_law_584 ?_
  refine lv_topi (fun z_1 ez_1 => ?_)
  have fz_1 : z_1 = (nI (5 * c0 + 1)) := ez_1.trans (show nI (5 * c0) + nI 1 = _ from nI_add _ _)
  subst fz_1
  refine va_sld hx hb hX hbl hbA hS (vp_in_nI (by omega) (by omega)) dL_law_585 ?_
  refine lv_topi (fun z_2 ez_2 => ?_)
  have hPc := apP (X := (mW tC mo ma F th N L)) hP
  have hDc := apD (X := (mW tC mo ma F th N L)) hD
  have hFc := freeA hDc hS hA
  refine vx_calli (vx_runSX (As := [.ref (ad 0), .int z_2]) (rest := []) ⟨hx, hb, hml, hown, hts⟩ (c_L_lose l hlt D tC dz H.size pl t ad ed cb up rs cp hO oa fo z_2 ) (vx_cwSW 2 hts gL_law_L_lose rfl rfl rfl (by decide +kernel) ⟨Nat.le_of_ble_eq_true rfl, Nat.le_of_ble_eq_true rfl⟩) ⟨pB_blind, pB_at hPc hDc hK hN hE hS hFc⟩ rfl rfl hl.1 rfl (lv_room (Nat.le_of_ble_eq_true rfl)) dL_law_586 ⟨(by show cn + 1 ≤ 600128; omega), (by show sn + 6 ≤ 7301098; omega)⟩) hS (fun q _ h => hFc q h) hFc (fun q _ h => hFc q h) (fun E ce q9 u t9 H1 locs ht hvm hpx hPE hz1 hk1 hS hce hcv hcl => False.elim hPE) (fun r_3 u t9 H1 locs ht hvm hw hB hz1 hk1 hS => ?_)
  obtain ⟨cb_4, up_5, fo_6⟩ := u
  obtain ⟨t_7, ed_8, rs_9, cp_10, pl_11, hrs_13, hO_12, hP1, _, hD1⟩ := hB
  rw [ht] at hP1
  obtain ⟨hP, hD⟩ := jn2 (X := (mW tC mo ma F th N L)) hP hD hk1 hFc hP1 hD1
  generalize H1 = H at hP hS ⊢
  have hw_14 := hw
  have hq9 : cb = cb_4 ∧ up = up_5 := ⟨hw.1.symm, hw.2.symm⟩
  obtain ⟨rfl, rfl⟩ := hq9
  have hO_12 : Ok tC dz t_7 ad ed_8 cb up rs_9 cp_10 pl_11 := hO_12
  have hrs_13 : rs_9 ≤ rs + 0 := hrs_13
  have hP : va_P D vwCl (mW tC mo ma F th N L ++ ((oa, wL tC 1 fo_6) :: pl_11)) H := hP
  have hD : va_D A (mW tC mo ma F th N L ++ ((oa, wL tC 1 fo_6) :: pl_11)) := hD
  refine W.widen (k := cn + 25) (n := sn + 16098) (by omega) (by omega) ?_
  refine lv_istore (lv' := [(5, .int r_3), (4, .int (nI (5 * c0))), (3, .ref oa), (2, .ref mo), (1, .ref (ad 0)), (0, .ref b)]) hx hb dL_law_589 hl (by decide) rfl (fun ls hl => ?_)
  refine lv_aload_n hx hb dL_law_591 rfl (lv_at hl 3 rfl) ?_
  refine lv_aload_n hx hb dL_law_592 rfl (lv_at hl 5 rfl) ?_
  refine lv_iload hx hb dL_law_593 (lv_at hl 1 rfl) ?_
  refine lv_iconst (v := 1) hx hb dL_law_595 (by decide) ?_
  refine lv_iadd hx hb dL_law_596 ?_
  refine lv_topi (fun z_15 ez_15 => ?_)
  have fz_15 : z_15 = (nI (5 * c0 + 1)) := ez_15.trans (show nI (5 * c0) + nI 1 = _ from nI_add _ _)
  subst fz_15
  refine va_sld hx hb hX hbl hbA hS (vp_in_nI (by omega) (by omega)) dL_law_597 ?_
  refine lv_eqi (v := z_2) ez_2.symm ?_
  have hPc := apP1 (X := (mW tC mo ma F th N L)) hP
  have hDc := apD1 (X := (mW tC mo ma F th N L)) hD
  have hFc := freeA hDc hS hA
  refine va_callv (va_runV (As := [.int z_2]) (rest := []) ⟨hx, hb, hml, hown, hts⟩ (c_X5_lose l hlt D tC dz H.size mo ma F th N L hJ z_2 ) (cwV 1 hts gL_law_X5_lose rfl rfl rfl (by decide +kernel) ⟨Nat.le_of_ble_eq_true rfl, Nat.le_of_ble_eq_true rfl⟩) ⟨pB_blind, va_recv hK hPc (ci := 6) (q0 := 0) rfl mW_0, pB_at hPc hDc hK hN hE hS hFc⟩ rfl rfl hl.1 rfl (lv_room (Nat.le_of_ble_eq_true rfl)) dL_law_598 ⟨(by show cn + 25 + 0 ≤ 600128; omega), (by show sn + 16098 + 0 ≤ 7301098; omega)⟩) hS (fun q _ h => hFc q h) hFc (fun u t9 H1 locs ht hvm hw hB hz1 hk1 hS => ?_)
  obtain ⟨F_18, th_19, N_20, L_21, hJ_22, hN8, hN9, hT9, hP1, _, hD1⟩ := hB
  rw [ht] at hP1
  obtain ⟨hP, hD⟩ := jn1 (C := (mW tC mo ma F th N L)) hP hD hk1 hFc hP1 hD1
  generalize H1 = H at hP hS ⊢
  have hw_17 := hw
  have hJ_22 : MI F_18 N_20 L_21 := hJ_22
  have hN7 : N_20 ≤ N + 0 := hN9
  have hP : va_P D vwCl (mW tC mo ma F_18 th_19 N_20 L_21 ++ ((oa, wL tC 1 fo_6) :: pl_11)) H := hP
  have hD : va_D A (mW tC mo ma F_18 th_19 N_20 L_21 ++ ((oa, wL tC 1 fo_6) :: pl_11)) := hD
  have hlk := lnk_c hlk hT9.2
  have hlu := lnu_c hlu hT9.1
  refine W.widen (k := cn + 25) (n := sn + 16098) (by omega) (by omega) ?_
  refine lv_goto (tgt := 885) hx hb dL_law_601 (by decide) ?_
  refine W.widen (k := cn + 25) (n := sn + 16098) (by omega) (by omega) ?_
  subst hAe
  exact KK F_18 th_19 N_20 L_21 t_7 ed_8 cb up rs_9 cp_10 pl_11 fo_6 H locs ls ⟨hJ_22, by omega, hO_12, by omega, hlk, hlu, hP, hD, hS⟩ (lv_sub hl [1, 2, 3, 4, 5] rfl)
set_option maxHeartbeats 8000000 in
set_option maxRecDepth 100000 in
theorem lc_13 {p : Program} {l : Launch} {e : Env} {s : State} {m : MethodId} {below : List Frame} {meth : Method} {c : Code} {b Lx : Nat} {xs : Nat → Int32} (hlt : l.stackTraces = false) (C0 : lw_At p s m meth c b Lx xs) (hLx : Lx ≤ 320) (D : va_G) (tC : Nat → ClassId) (dz mo oa : Nat) (ma ad : Nat → Nat) (hK : va_K D vwCl (tY tC) s) (hN : eN s) (hE : eH dz (fun q : Nat => s.heap.size ≤ q) s s.heap) (c0 : Nat) (hc0 : 5 * c0 + 5 ≤ Lx) (cn sn : Nat) (hcn : cn ≤ 500000) (hsn : sn ≤ 7000000) (KK : ∀ (F : Nat → Nat → Int32) (th : Int32) (N L : Nat) (t : Nat → Nat × Nat) (ed : Nat) (cb up : Nat → Int32) (rs cp : Nat) (pl : va_W) (fo : Nat → Int64) (H : Heap) (locs : List Loc) (ls : Array Slot), LI D tC dz mo oa ma ad s (c0 + 1) F th N L t ed cb up rs cp pl fo H locs → lv_has ls 7 [(4, .int (nI (5 * c0))), (3, .ref oa), (2, .ref mo), (1, .ref (ad 0)), (0, .ref b)] → W p l e room_1 s m #[Value.ref b] below meth c H locs (cn + 25) (sn + 16098) (lw_Z below #[Value.ref b] s) (F0 m 885 ls [])) (F : Nat → Nat → Int32) (th : Int32) (N L : Nat) (t : Nat → Nat × Nat) (ed : Nat) (cb up : Nat → Int32) (rs cp : Nat) (pl : va_W) (fo : Nat → Int64) (H : Heap) (locs : List Loc) (ls : Array Slot) (hI : LI D tC dz mo oa ma ad s c0 F th N L t ed cb up rs cp pl fo H locs) (hl : lv_has ls 7 [(4, .int (nI (5 * c0))), (3, .ref oa), (2, .ref mo), (1, .ref (ad 0)), (0, .ref b)]) : W p l e room_1 s m #[Value.ref b] below meth c H locs cn sn (lw_Z below #[Value.ref b] s) (F0 m 604 ls []) := by
  obtain ⟨hx, hb, hr, hml, hown, hts0, hX, hbl, hlocks, hgv⟩ := C0
  have hts : ∀ w ∈ wsL_law, w.before #[Value.ref b] s = true := fun w h => hts0 w (wsL_law_in w h)
  have hown : s.vm.findClass RL = some m.cls := hown
  obtain ⟨hJ, hN9, hO, hrs9, hlk, hlu, hP, hD, hS⟩ := hI
  have hN5 := hJ.n9
  obtain ⟨A, hAe⟩ : ∃ A : Nat → Prop, A = fun q : Nat => s.heap.size ≤ q := ⟨_, rfl⟩
  rw [← hAe] at hE hD hS
  have hA : ∀ q : Nat, s.heap.size ≤ q → A q := fun q h => by rw [hAe]; exact h
  have hbA : ¬ A b := by rw [hAe]; exact Nat.not_le.mpr hbl
  refine lv_aload_n hx hb dL_law_604 rfl (lv_at hl 3 rfl) ?_
  refine lv_aload_n hx hb dL_law_605 rfl (lv_at hl 4 rfl) ?_
  refine lv_iload hx hb dL_law_606 (lv_at hl 0 rfl) ?_
  refine lv_iconst (v := 1) hx hb dL_law_608 (by decide) ?_
  refine lv_iadd hx hb dL_law_609 ?_
  refine lv_topi (fun z_1 ez_1 => ?_)
  have fz_1 : z_1 = (nI (5 * c0 + 1)) := ez_1.trans (show nI (5 * c0) + nI 1 = _ from nI_add _ _)
  subst fz_1
  refine va_sld hx hb hX hbl hbA hS (vp_in_nI (by omega) (by omega)) dL_law_610 ?_
  refine lv_topi (fun z_2 ez_2 => ?_)
  have hPc := apP (X := (mW tC mo ma F th N L)) hP
  have hDc := apD (X := (mW tC mo ma F th N L)) hD
  have hFc := freeA hDc hS hA
  refine vx_calli (vx_runSX (As := [.ref (ad 0), .int z_2]) (rest := []) ⟨hx, hb, hml, hown, hts⟩ (c_L_twin l hlt D tC dz H.size pl t ad ed cb up rs cp hO oa fo z_2 (by omega)) (vx_cwSW 2 hts gL_law_L_twin rfl rfl rfl (by decide +kernel) ⟨Nat.le_of_ble_eq_true rfl, Nat.le_of_ble_eq_true rfl⟩) ⟨pB_blind, pB_at hPc hDc hK hN hE hS hFc⟩ rfl rfl hl.1 rfl (lv_room (Nat.le_of_ble_eq_true rfl)) dL_law_611 ⟨(by show cn + 3 ≤ 600128; omega), (by show sn + 1612 ≤ 7301098; omega)⟩) hS (fun q _ h => hFc q h) hFc (fun q _ h => hFc q h) (fun E ce q9 u t9 H1 locs ht hvm hpx hPE hz1 hk1 hS hce hcv hcl => False.elim hPE) (fun r_3 u t9 H1 locs ht hvm hw hB hz1 hk1 hS => ?_)
  obtain ⟨cb_4, up_5, fo_6⟩ := u
  obtain ⟨t_7, ed_8, rs_9, cp_10, pl_11, hrs_13, hO_12, hP1, _, hD1⟩ := hB
  rw [ht] at hP1
  obtain ⟨hP, hD⟩ := jn2 (X := (mW tC mo ma F th N L)) hP hD hk1 hFc hP1 hD1
  generalize H1 = H at hP hS ⊢
  have hw_14 := hw
  have hq9 : cb = cb_4 ∧ up = up_5 := ⟨hw.1.symm, hw.2.symm⟩
  obtain ⟨rfl, rfl⟩ := hq9
  have hO_12 : Ok tC dz t_7 ad ed_8 cb up rs_9 cp_10 pl_11 := hO_12
  have hrs_13 : rs_9 ≤ rs + 1 := hrs_13
  have hP : va_P D vwCl (mW tC mo ma F th N L ++ ((oa, wL tC 1 fo_6) :: pl_11)) H := hP
  have hD : va_D A (mW tC mo ma F th N L ++ ((oa, wL tC 1 fo_6) :: pl_11)) := hD
  refine W.widen (k := cn + 25) (n := sn + 16098) (by omega) (by omega) ?_
  refine lv_istore (lv' := [(5, .int r_3), (4, .int (nI (5 * c0))), (3, .ref oa), (2, .ref mo), (1, .ref (ad 0)), (0, .ref b)]) hx hb dL_law_614 hl (by decide) rfl (fun ls hl => ?_)
  refine lv_aload_n hx hb dL_law_616 rfl (lv_at hl 3 rfl) ?_
  refine lv_aload_n hx hb dL_law_617 rfl (lv_at hl 5 rfl) ?_
  refine lv_iload hx hb dL_law_618 (lv_at hl 1 rfl) ?_
  refine lv_iconst (v := 1) hx hb dL_law_620 (by decide) ?_
  refine lv_iadd hx hb dL_law_621 ?_
  refine lv_topi (fun z_15 ez_15 => ?_)
  have fz_15 : z_15 = (nI (5 * c0 + 1)) := ez_15.trans (show nI (5 * c0) + nI 1 = _ from nI_add _ _)
  subst fz_15
  refine va_sld hx hb hX hbl hbA hS (vp_in_nI (by omega) (by omega)) dL_law_622 ?_
  refine lv_eqi (v := z_2) ez_2.symm ?_
  have hPc := apP1 (X := (mW tC mo ma F th N L)) hP
  have hDc := apD1 (X := (mW tC mo ma F th N L)) hD
  have hFc := freeA hDc hS hA
  refine va_callv (va_runV (As := [.int z_2]) (rest := []) ⟨hx, hb, hml, hown, hts⟩ (c_X5_twin l hlt D tC dz H.size mo ma F th N L hJ z_2 ) (cwV 1 hts gL_law_X5_twin rfl rfl rfl (by decide +kernel) ⟨Nat.le_of_ble_eq_true rfl, Nat.le_of_ble_eq_true rfl⟩) ⟨pB_blind, va_recv hK hPc (ci := 6) (q0 := 0) rfl mW_0, pB_at hPc hDc hK hN hE hS hFc⟩ rfl rfl hl.1 rfl (lv_room (Nat.le_of_ble_eq_true rfl)) dL_law_623 ⟨(by show cn + 25 + 0 ≤ 600128; omega), (by show sn + 16098 + 0 ≤ 7301098; omega)⟩) hS (fun q _ h => hFc q h) hFc (fun u t9 H1 locs ht hvm hw hB hz1 hk1 hS => ?_)
  obtain ⟨F_18, th_19, N_20, L_21, hJ_22, hN8, hN9, hT9, hP1, _, hD1⟩ := hB
  rw [ht] at hP1
  obtain ⟨hP, hD⟩ := jn1 (C := (mW tC mo ma F th N L)) hP hD hk1 hFc hP1 hD1
  generalize H1 = H at hP hS ⊢
  have hw_17 := hw
  have hJ_22 : MI F_18 N_20 L_21 := hJ_22
  have hN7 : N_20 ≤ N + 0 := hN9
  have hP : va_P D vwCl (mW tC mo ma F_18 th_19 N_20 L_21 ++ ((oa, wL tC 1 fo_6) :: pl_11)) H := hP
  have hD : va_D A (mW tC mo ma F_18 th_19 N_20 L_21 ++ ((oa, wL tC 1 fo_6) :: pl_11)) := hD
  have hlk := lnk_c hlk hT9.2
  have hlu := lnu_c hlu hT9.1
  refine W.widen (k := cn + 25) (n := sn + 16098) (by omega) (by omega) ?_
  refine lv_goto (tgt := 885) hx hb dL_law_626 (by decide) ?_
  refine W.widen (k := cn + 25) (n := sn + 16098) (by omega) (by omega) ?_
  subst hAe
  exact KK F_18 th_19 N_20 L_21 t_7 ed_8 cb up rs_9 cp_10 pl_11 fo_6 H locs ls ⟨hJ_22, by omega, hO_12, by omega, hlk, hlu, hP, hD, hS⟩ (lv_sub hl [1, 2, 3, 4, 5] rfl)
