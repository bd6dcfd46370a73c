set_option maxHeartbeats 8000000 in
set_option maxRecDepth 100000 in
theorem lc_14 {p : Program} {l : Launch} {e : Env} {s : State} {m : MethodId} {below : List Frame} {meth : Method} {c : Code} {b Lx : Nat} {xs : Nat → Int32} (hlt : l.stackTraces = false) (C0 : lw_At p s m meth c b Lx xs) (hLx : Lx ≤ 320) (D : va_G) (tC : Nat → ClassId) (dz mo oa : Nat) (ma ad : Nat → Nat) (hK : va_K D vwCl (tY tC) s) (hN : eN s) (hE : eH dz (fun q : Nat => s.heap.size ≤ q) s s.heap) (c0 : Nat) (hc0 : 5 * c0 + 5 ≤ Lx) (cn sn : Nat) (hcn : cn ≤ 500000) (hsn : sn ≤ 7000000) (KK : ∀ (F : Nat → Nat → Int32) (th : Int32) (N L : Nat) (t : Nat → Nat × Nat) (ed : Nat) (cb up : Nat → Int32) (rs cp : Nat) (pl : va_W) (fo : Nat → Int64) (H : Heap) (locs : List Loc) (ls : Array Slot), LI D tC dz mo oa ma ad s (c0 + 1) F th N L t ed cb up rs cp pl fo H locs → lv_has ls 7 [(4, .int (nI (5 * c0))), (3, .ref oa), (2, .ref mo), (1, .ref (ad 0)), (0, .ref b)] → W p l e room_1 s m #[Value.ref b] below meth c H locs (cn + 25) (sn + 16098) (lw_Z below #[Value.ref b] s) (F0 m 885 ls [])) (F : Nat → Nat → Int32) (th : Int32) (N L : Nat) (t : Nat → Nat × Nat) (ed : Nat) (cb up : Nat → Int32) (rs cp : Nat) (pl : va_W) (fo : Nat → Int64) (H : Heap) (locs : List Loc) (ls : Array Slot) (hI : LI D tC dz mo oa ma ad s c0 F th N L t ed cb up rs cp pl fo H locs) (hl : lv_has ls 7 [(4, .int (nI (5 * c0))), (3, .ref oa), (2, .ref mo), (1, .ref (ad 0)), (0, .ref b)]) : W p l e room_1 s m #[Value.ref b] below meth c H locs cn sn (lw_Z below #[Value.ref b] s) (F0 m 629 ls []) := by
  obtain ⟨hx, hb, hr, hml, hown, hts0, hX, hbl, hlocks, hgv⟩ := C0
  have hts : ∀ w ∈ wsL_law, w.before #[Value.ref b] s = true := fun w h => hts0 w (wsL_law_in w h)
  have hown : s.vm.findClass RL = some m.cls := hown
  obtain ⟨hJ, hN9, hO, hrs9, hlk, hlu, hP, hD, hS⟩ := hI
  have hN5 := hJ.n9
  obtain ⟨A, hAe⟩ : ∃ A : Nat → Prop, A = fun q : Nat => s.heap.size ≤ q := ⟨_, rfl⟩
  rw [← hAe] at hE hD hS
  have hA : ∀ q : Nat, s.heap.size ≤ q → A q := fun q h => by rw [hAe]; exact h
  have hbA : ¬ A b := by rw [hAe]; exact Nat.not_le.mpr hbl
  refine lv_aload_n hx hb dL_law_629 rfl (lv_at hl 3 rfl) ?_
  refine lv_aload_n hx hb dL_law_630 rfl (lv_at hl 4 rfl) ?_
  refine lv_iload hx hb dL_law_631 (lv_at hl 0 rfl) ?_
  refine lv_iconst (v := 1) hx hb dL_law_633 (by decide) ?_
  refine lv_iadd hx hb dL_law_634 ?_
  refine lv_topi (fun z_1 ez_1 => ?_)
  have fz_1 : z_1 = (nI (5 * c0 + 1)) := ez_1.trans (show nI (5 * c0) + nI 1 = _ from nI_add _ _)
  subst fz_1
  refine va_sld hx hb hX hbl hbA hS (vp_in_nI (by omega) (by omega)) dL_law_635 ?_
  refine lv_topi (fun z_2 ez_2 => ?_)
  refine lv_aload_n hx hb dL_law_636 rfl (lv_at hl 4 rfl) ?_
  refine lv_iload hx hb dL_law_637 (lv_at hl 0 rfl) ?_
  refine lv_iconst (v := 2) hx hb dL_law_639 (by decide) ?_
  refine lv_iadd hx hb dL_law_640 ?_
  refine lv_topi (fun z_3 ez_3 => ?_)
  have fz_3 : z_3 = (nI (5 * c0 + 2)) := ez_3.trans (show nI (5 * c0) + nI 2 = _ from nI_add _ _)
  subst fz_3
  refine va_sld hx hb hX hbl hbA hS (vp_in_nI (by omega) (by omega)) dL_law_641 ?_
  refine lv_topi (fun z_4 ez_4 => ?_)
  refine lv_aload_n hx hb dL_law_642 rfl (lv_at hl 1 rfl) ?_
  have hPc := apP (X := (mW tC mo ma F th N L)) hP
  have hDc := apD (X := (mW tC mo ma F th N L)) hD
  have hFc := freeA hDc hS hA
  refine vx_calli (vx_runSX (As := [.ref (ad 0), .int z_2, .int z_4, .ref oa]) (rest := []) ⟨hx, hb, hml, hown, hts⟩ (c_L_letter l hlt D tC dz H.size pl t ad ed cb up rs cp hO oa fo z_2 z_4 ) (vx_cwSW 4 hts gL_law_L_letter rfl rfl rfl (by decide +kernel) ⟨Nat.le_of_ble_eq_true rfl, Nat.le_of_ble_eq_true rfl⟩) ⟨pB_blind, pB_at hPc hDc hK hN hE hS hFc⟩ rfl rfl hl.1 rfl (lv_room (Nat.le_of_ble_eq_true rfl)) dL_law_643 ⟨(by show cn + 2 ≤ 600128; omega), (by show sn + 12 ≤ 7301098; omega)⟩) hS (fun q _ h => hFc q h) hFc (fun q _ h => hFc q h) (fun E ce q9 u t9 H1 locs ht hvm hpx hPE hz1 hk1 hS hce hcv hcl => False.elim hPE) (fun r_5 u t9 H1 locs ht hvm hw hB hz1 hk1 hS => ?_)
  obtain ⟨cb_6, up_7, fo_8⟩ := u
  obtain ⟨t_9, ed_10, rs_11, cp_12, pl_13, hrs_15, hO_14, hP1, _, hD1⟩ := hB
  rw [ht] at hP1
  obtain ⟨hP, hD⟩ := jn2 (X := (mW tC mo ma F th N L)) hP hD hk1 hFc hP1 hD1
  generalize H1 = H at hP hS ⊢
  have hw_16 := hw
  have hq9 : cb = cb_6 ∧ up = up_7 := ⟨hw.1.symm, hw.2.symm⟩
  obtain ⟨rfl, rfl⟩ := hq9
  have hO_14 : Ok tC dz t_9 ad ed_10 cb up rs_11 cp_12 pl_13 := hO_14
  have hrs_15 : rs_11 ≤ rs + 0 := hrs_15
  have hP : va_P D vwCl (mW tC mo ma F th N L ++ ((oa, wL tC 1 fo_8) :: pl_13)) H := hP
  have hD : va_D A (mW tC mo ma F th N L ++ ((oa, wL tC 1 fo_8) :: pl_13)) := hD
  refine W.widen (k := cn + 25) (n := sn + 16098) (by omega) (by omega) ?_
  refine lv_istore (lv' := [(5, .int r_5), (4, .int (nI (5 * c0))), (3, .ref oa), (2, .ref mo), (1, .ref (ad 0)), (0, .ref b)]) hx hb dL_law_646 hl (by decide) rfl (fun ls hl => ?_)
  refine lv_aload_n hx hb dL_law_648 rfl (lv_at hl 3 rfl) ?_
  refine lv_aload_n hx hb dL_law_649 rfl (lv_at hl 5 rfl) ?_
  refine lv_iload hx hb dL_law_650 (lv_at hl 1 rfl) ?_
  refine lv_iconst (v := 1) hx hb dL_law_652 (by decide) ?_
  refine lv_iadd hx hb dL_law_653 ?_
  refine lv_topi (fun z_17 ez_17 => ?_)
  have fz_17 : z_17 = (nI (5 * c0 + 1)) := ez_17.trans (show nI (5 * c0) + nI 1 = _ from nI_add _ _)
  subst fz_17
  refine va_sld hx hb hX hbl hbA hS (vp_in_nI (by omega) (by omega)) dL_law_654 ?_
  refine lv_eqi (v := z_2) ez_2.symm ?_
  refine lv_aload_n hx hb dL_law_655 rfl (lv_at hl 5 rfl) ?_
  refine lv_iload hx hb dL_law_656 (lv_at hl 1 rfl) ?_
  refine lv_iconst (v := 2) hx hb dL_law_658 (by decide) ?_
  refine lv_iadd hx hb dL_law_659 ?_
  refine lv_topi (fun z_18 ez_18 => ?_)
  have fz_18 : z_18 = (nI (5 * c0 + 2)) := ez_18.trans (show nI (5 * c0) + nI 2 = _ from nI_add _ _)
  subst fz_18
  refine va_sld hx hb hX hbl hbA hS (vp_in_nI (by omega) (by omega)) dL_law_660 ?_
  refine lv_eqi (v := z_4) ez_4.symm ?_
  have hPc := apP1 (X := (mW tC mo ma F th N L)) hP
  have hDc := apD1 (X := (mW tC mo ma F th N L)) hD
  have hFc := freeA hDc hS hA
  refine va_calli (va_runV (As := [.int z_2, .int z_4]) (rest := []) ⟨hx, hb, hml, hown, hts⟩ (c_X5_letter l hlt D tC dz H.size mo ma F th N L hJ z_2 z_4 ) (cwV 2 hts gL_law_X5_letter rfl rfl rfl (by decide +kernel) ⟨Nat.le_of_ble_eq_true rfl, Nat.le_of_ble_eq_true rfl⟩) ⟨pB_blind, va_recv hK hPc (ci := 6) (q0 := 0) rfl mW_0, pB_at hPc hDc hK hN hE hS hFc⟩ rfl rfl hl.1 rfl (lv_room (Nat.le_of_ble_eq_true rfl)) dL_law_661 ⟨(by show cn + 25 + 0 ≤ 600128; omega), (by show sn + 16098 + 0 ≤ 7301098; omega)⟩) hS (fun q _ h => hFc q h) hFc (fun r_19 u t9 H1 locs ht hvm hw hB hz1 hk1 hS => ?_)
  obtain ⟨F_21, th_22, N_23, L_24, hJ_25, hN8, hN9, hT9, hP1, _, hD1⟩ := hB
  rw [ht] at hP1
  obtain ⟨hP, hD⟩ := jn1 (C := (mW tC mo ma F th N L)) hP hD hk1 hFc hP1 hD1
  generalize H1 = H at hP hS ⊢
  have hw_20 := hw
  have hJ_25 : MI F_21 N_23 L_24 := hJ_25
  have hN7 : N_23 ≤ N + 0 := hN9
  have hP : va_P D vwCl (mW tC mo ma F_21 th_22 N_23 L_24 ++ ((oa, wL tC 1 fo_8) :: pl_13)) H := hP
  have hD : va_D A (mW tC mo ma F_21 th_22 N_23 L_24 ++ ((oa, wL tC 1 fo_8) :: pl_13)) := hD
  have hlk := lnk_c hlk hT9.2
  have hlu := lnu_c hlu hT9.1
  refine W.widen (k := cn + 25) (n := sn + 16098) (by omega) (by omega) ?_
  refine lv_istore (lv' := [(6, .int r_19), (5, .int r_5), (4, .int (nI (5 * c0))), (3, .ref oa), (2, .ref mo), (1, .ref (ad 0)), (0, .ref b)]) hx hb dL_law_664 hl (by decide) rfl (fun ls hl => ?_)
  refine lv_goto (tgt := 885) hx hb dL_law_666 (by decide) ?_
  refine W.widen (k := cn + 25) (n := sn + 16098) (by omega) (by omega) ?_
  subst hAe
  exact KK F_21 th_22 N_23 L_24 t_9 ed_10 cb up rs_11 cp_12 pl_13 fo_8 H locs ls ⟨hJ_25, by omega, hO_14, by omega, hlk, hlu, hP, hD, hS⟩ (lv_sub hl [2, 3, 4, 5, 6] rfl)
set_option maxHeartbeats 8000000 in
set_option maxRecDepth 100000 in
theorem lc_15 {p : Program} {l : Launch} {e : Env} {s : State} {m : MethodId} {below : List Frame} {meth : Method} {c : Code} {b Lx : Nat} {xs : Nat → Int32} (hlt : l.stackTraces = false) (C0 : lw_At p s m meth c b Lx xs) (hLx : Lx ≤ 320) (D : va_G) (tC : Nat → ClassId) (dz mo oa : Nat) (ma ad : Nat → Nat) (hK : va_K D vwCl (tY tC) s) (hN : eN s) (hE : eH dz (fun q : Nat => s.heap.size ≤ q) s s.heap) (c0 : Nat) (hc0 : 5 * c0 + 5 ≤ Lx) (cn sn : Nat) (hcn : cn ≤ 500000) (hsn : sn ≤ 7000000) (KK : ∀ (F : Nat → Nat → Int32) (th : Int32) (N L : Nat) (t : Nat → Nat × Nat) (ed : Nat) (cb up : Nat → Int32) (rs cp : Nat) (pl : va_W) (fo : Nat → Int64) (H : Heap) (locs : List Loc) (ls : Array Slot), LI D tC dz mo oa ma ad s (c0 + 1) F th N L t ed cb up rs cp pl fo H locs → lv_has ls 7 [(4, .int (nI (5 * c0))), (3, .ref oa), (2, .ref mo), (1, .ref (ad 0)), (0, .ref b)] → W p l e room_1 s m #[Value.ref b] below meth c H locs (cn + 25) (sn + 16098) (lw_Z below #[Value.ref b] s) (F0 m 885 ls [])) (F : Nat → Nat → Int32) (th : Int32) (N L : Nat) (t : Nat → Nat × Nat) (ed : Nat) (cb up : Nat → Int32) (rs cp : Nat) (pl : va_W) (fo : Nat → Int64) (H : Heap) (locs : List Loc) (ls : Array Slot) (hI : LI D tC dz mo oa ma ad s c0 F th N L t ed cb up rs cp pl fo H locs) (hl : lv_has ls 7 [(4, .int (nI (5 * c0))), (3, .ref oa), (2, .ref mo), (1, .ref (ad 0)), (0, .ref b)]) : W p l e room_1 s m #[Value.ref b] below meth c H locs cn sn (lw_Z below #[Value.ref b] s) (F0 m 669 ls []) := by
  obtain ⟨hx, hb, hr, hml, hown, hts0, hX, hbl, hlocks, hgv⟩ := C0
  have hts : ∀ w ∈ wsL_law, w.before #[Value.ref b] s = true := fun w h => hts0 w (wsL_law_in w h)
  have hown : s.vm.findClass RL = some m.cls := hown
  obtain ⟨hJ, hN9, hO, hrs9, hlk, hlu, hP, hD, hS⟩ := hI
  have hN5 := hJ.n9
  obtain ⟨A, hAe⟩ : ∃ A : Nat → Prop, A = fun q : Nat => s.heap.size ≤ q := ⟨_, rfl⟩
  rw [← hAe] at hE hD hS
  have hA : ∀ q : Nat, s.heap.size ≤ q → A q := fun q h => by rw [hAe]; exact h
  have hbA : ¬ A b := by rw [hAe]; exact Nat.not_le.mpr hbl
  refine lv_aload_n hx hb dL_law_669 rfl (lv_at hl 3 rfl) ?_
  refine lv_aload_n hx hb dL_law_670 rfl (lv_at hl 4 rfl) ?_
  refine lv_iload hx hb dL_law_671 (lv_at hl 0 rfl) ?_
  refine lv_iconst (v := 1) hx hb dL_law_673 (by decide) ?_
  refine lv_iadd hx hb dL_law_674 ?_
  refine lv_topi (fun z_1 ez_1 => ?_)
  have fz_1 : z_1 = (nI (5 * c0 + 1)) := ez_1.trans (show nI (5 * c0) + nI 1 = _ from nI_add _ _)
  subst fz_1
  refine va_sld hx hb hX hbl hbA hS (vp_in_nI (by omega) (by omega)) dL_law_675 ?_
  refine lv_topi (fun z_2 ez_2 => ?_)
  refine lv_aload_n hx hb dL_law_676 rfl (lv_at hl 1 rfl) ?_
  have hPc := apP (X := (mW tC mo ma F th N L)) hP
  have hDc := apD (X := (mW tC mo ma F th N L)) hD
  have hFc := freeA hDc hS hA
  refine vx_calli (vx_runSX (As := [.ref (ad 0), .int z_2, .ref oa]) (rest := []) ⟨hx, hb, hml, hown, hts⟩ (c_L_count l hlt D tC dz H.size pl t ad ed cb up rs cp hO oa fo z_2 ) (vx_cwSW 3 hts gL_law_L_count rfl rfl rfl (by decide +kernel) ⟨Nat.le_of_ble_eq_true rfl, Nat.le_of_ble_eq_true rfl⟩) ⟨pB_blind, pB_at hPc hDc hK hN hE hS hFc⟩ rfl rfl hl.1 rfl (lv_room (Nat.le_of_ble_eq_true rfl)) dL_law_677 ⟨(by show cn + 1 ≤ 600128; omega), (by show sn + 6 ≤ 7301098; omega)⟩) hS (fun q _ h => hFc q h) hFc (fun q _ h => hFc q h) (fun E ce q9 u t9 H1 locs ht hvm hpx hPE hz1 hk1 hS hce hcv hcl => False.elim hPE) (fun r_3 u t9 H1 locs ht hvm hw hB hz1 hk1 hS => ?_)
  obtain ⟨cb_4, up_5, fo_6⟩ := u
  obtain ⟨t_7, ed_8, rs_9, cp_10, pl_11, hrs_13, hO_12, hP1, _, hD1⟩ := hB
  rw [ht] at hP1
  obtain ⟨hP, hD⟩ := jn2 (X := (mW tC mo ma F th N L)) hP hD hk1 hFc hP1 hD1
  generalize H1 = H at hP hS ⊢
  have hw_14 := hw
  have hq9 : cb = cb_4 ∧ up = up_5 := ⟨hw.1.symm, hw.2.symm⟩
  obtain ⟨rfl, rfl⟩ := hq9
  have hO_12 : Ok tC dz t_7 ad ed_8 cb up rs_9 cp_10 pl_11 := hO_12
  have hrs_13 : rs_9 ≤ rs + 0 := hrs_13
  have hP : va_P D vwCl (mW tC mo ma F th N L ++ ((oa, wL tC 1 fo_6) :: pl_11)) H := hP
  have hD : va_D A (mW tC mo ma F th N L ++ ((oa, wL tC 1 fo_6) :: pl_11)) := hD
  refine W.widen (k := cn + 25) (n := sn + 16098) (by omega) (by omega) ?_
  refine lv_istore (lv' := [(5, .int r_3), (4, .int (nI (5 * c0))), (3, .ref oa), (2, .ref mo), (1, .ref (ad 0)), (0, .ref b)]) hx hb dL_law_680 hl (by decide) rfl (fun ls hl => ?_)
  refine lv_aload_n hx hb dL_law_682 rfl (lv_at hl 3 rfl) ?_
  refine lv_aload_n hx hb dL_law_683 rfl (lv_at hl 5 rfl) ?_
  refine lv_iload hx hb dL_law_684 (lv_at hl 1 rfl) ?_
  refine lv_iconst (v := 1) hx hb dL_law_686 (by decide) ?_
  refine lv_iadd hx hb dL_law_687 ?_
  refine lv_topi (fun z_15 ez_15 => ?_)
  have fz_15 : z_15 = (nI (5 * c0 + 1)) := ez_15.trans (show nI (5 * c0) + nI 1 = _ from nI_add _ _)
  subst fz_15
  refine va_sld hx hb hX hbl hbA hS (vp_in_nI (by omega) (by omega)) dL_law_688 ?_
  refine lv_eqi (v := z_2) ez_2.symm ?_
  have hPc := apP1 (X := (mW tC mo ma F th N L)) hP
  have hDc := apD1 (X := (mW tC mo ma F th N L)) hD
  have hFc := freeA hDc hS hA
  refine va_calli (va_runV (As := [.int z_2]) (rest := []) ⟨hx, hb, hml, hown, hts⟩ (c_X5_count l hlt D tC dz H.size mo ma F th N L hJ z_2 ) (cwV 1 hts gL_law_X5_count rfl rfl rfl (by decide +kernel) ⟨Nat.le_of_ble_eq_true rfl, Nat.le_of_ble_eq_true rfl⟩) ⟨pB_blind, va_recv hK hPc (ci := 6) (q0 := 0) rfl mW_0, pB_at hPc hDc hK hN hE hS hFc⟩ rfl rfl hl.1 rfl (lv_room (Nat.le_of_ble_eq_true rfl)) dL_law_689 ⟨(by show cn + 25 + 0 ≤ 600128; omega), (by show sn + 16098 + 0 ≤ 7301098; omega)⟩) hS (fun q _ h => hFc q h) hFc (fun r_16 u t9 H1 locs ht hvm hw hB hz1 hk1 hS => ?_)
  obtain ⟨F_18, th_19, N_20, L_21, hJ_22, hN8, hN9, hT9, hP1, _, hD1⟩ := hB
  rw [ht] at hP1
  obtain ⟨hP, hD⟩ := jn1 (C := (mW tC mo ma F th N L)) hP hD hk1 hFc hP1 hD1
  generalize H1 = H at hP hS ⊢
  have hw_17 := hw
  have hJ_22 : MI F_18 N_20 L_21 := hJ_22
  have hN7 : N_20 ≤ N + 0 := hN9
  have hP : va_P D vwCl (mW tC mo ma F_18 th_19 N_20 L_21 ++ ((oa, wL tC 1 fo_6) :: pl_11)) H := hP
  have hD : va_D A (mW tC mo ma F_18 th_19 N_20 L_21 ++ ((oa, wL tC 1 fo_6) :: pl_11)) := hD
  have hlk := lnk_c hlk hT9.2
  have hlu := lnu_c hlu hT9.1
  refine W.widen (k := cn + 25) (n := sn + 16098) (by omega) (by omega) ?_
  refine lv_istore (lv' := [(6, .int r_16), (5, .int r_3), (4, .int (nI (5 * c0))), (3, .ref oa), (2, .ref mo), (1, .ref (ad 0)), (0, .ref b)]) hx hb dL_law_692 hl (by decide) rfl (fun ls hl => ?_)
  refine lv_goto (tgt := 885) hx hb dL_law_694 (by decide) ?_
  refine W.widen (k := cn + 25) (n := sn + 16098) (by omega) (by omega) ?_
  subst hAe
  exact KK F_18 th_19 N_20 L_21 t_7 ed_8 cb up rs_9 cp_10 pl_11 fo_6 H locs ls ⟨hJ_22, by omega, hO_12, by omega, hlk, hlu, hP, hD, hS⟩ (lv_sub hl [2, 3, 4, 5, 6] rfl)
set_option maxHeartbeats 8000000 in
set_option maxRecDepth 100000 in
theorem lc_16 {p : Program} {l : Launch} {e : Env} {s : State} {m : MethodId} {below : List Frame} {meth : Method} {c : Code} {b Lx : Nat} {xs : Nat → Int32} (hlt : l.stackTraces = false) (C0 : lw_At p s m meth c b Lx xs) (hLx : Lx ≤ 320) (D : va_G) (tC : Nat → ClassId) (dz mo oa : Nat) (ma ad : Nat → Nat) (hK : va_K D vwCl (tY tC) s) (hN : eN s) (hE : eH dz (fun q : Nat => s.heap.size ≤ q) s s.heap) (c0 : Nat) (hc0 : 5 * c0 + 5 ≤ Lx) (cn sn : Nat) (hcn : cn ≤ 500000) (hsn : sn ≤ 7000000) (KK : ∀ (F : Nat → Nat → Int32) (th : Int32) (N L : Nat) (t : Nat → Nat × Nat) (ed : Nat) (cb up : Nat → Int32) (rs cp : Nat) (pl : va_W) (fo : Nat → Int64) (H : Heap) (locs : List Loc) (ls : Array Slot), LI D tC dz mo oa ma ad s (c0 + 1) F th N L t ed cb up rs cp pl fo H locs → lv_has ls 7 [(4, .int (nI (5 * c0))), (3, .ref oa), (2, .ref mo), (1, .ref (ad 0)), (0, .ref b)] → W p l e room_1 s m #[Value.ref b] below meth c H locs (cn + 25) (sn + 16098) (lw_Z below #[Value.ref b] s) (F0 m 885 ls [])) (F : Nat → Nat → Int32) (th : Int32) (N L : Nat) (t : Nat → Nat × Nat) (ed : Nat) (cb up : Nat → Int32) (rs cp : Nat) (pl : va_W) (fo : Nat → Int64) (H : Heap) (locs : List Loc) (ls : Array Slot) (hI : LI D tC dz mo oa ma ad s c0 F th N L t ed cb up rs cp pl fo H locs) (hl : lv_has ls 7 [(4, .int (nI (5 * c0))), (3, .ref oa), (2, .ref mo), (1, .ref (ad 0)), (0, .ref b)]) : W p l e room_1 s m #[Value.ref b] below meth c H locs cn sn (lw_Z below #[Value.ref b] s) (F0 m 697 ls []) := by
  obtain ⟨hx, hb, hr, hml, hown, hts0, hX, hbl, hlocks, hgv⟩ := C0
  have hts : ∀ w ∈ wsL_law, w.before #[Value.ref b] s = true := fun w h => hts0 w (wsL_law_in w h)
  have hown : s.vm.findClass RL = some m.cls := hown
  obtain ⟨hJ, hN9, hO, hrs9, hlk, hlu, hP, hD, hS⟩ := hI
  have hN5 := hJ.n9
  obtain ⟨A, hAe⟩ : ∃ A : Nat → Prop, A = fun q : Nat => s.heap.size ≤ q := ⟨_, rfl⟩
  rw [← hAe] at hE hD hS
  have hA : ∀ q : Nat, s.heap.size ≤ q → A q := fun q h => by rw [hAe]; exact h
  have hbA : ¬ A b := by rw [hAe]; exact Nat.not_le.mpr hbl
  refine lv_aload_n hx hb dL_law_697 rfl (lv_at hl 3 rfl) ?_
  refine lv_aload_n hx hb dL_law_698 rfl (lv_at hl 4 rfl) ?_
  refine lv_iload hx hb dL_law_699 (lv_at hl 0 rfl) ?_
  refine lv_iconst (v := 1) hx hb dL_law_701 (by decide) ?_
  refine lv_iadd hx hb dL_law_702 ?_
  refine lv_topi (fun z_1 ez_1 => ?_)
  have fz_1 : z_1 = (nI (5 * c0 + 1)) := ez_1.trans (show nI (5 * c0) + nI 1 = _ from nI_add _ _)
  subst fz_1
  refine va_sld hx hb hX hbl hbA hS (vp_in_nI (by omega) (by omega)) dL_law_703 ?_
  refine lv_topi (fun z_2 ez_2 => ?_)
  refine lv_aload_n hx hb dL_law_704 rfl (lv_at hl 4 rfl) ?_
  refine lv_iload hx hb dL_law_705 (lv_at hl 0 rfl) ?_
  refine lv_iconst (v := 2) hx hb dL_law_707 (by decide) ?_
  refine lv_iadd hx hb dL_law_708 ?_
  refine lv_topi (fun z_3 ez_3 => ?_)
  have fz_3 : z_3 = (nI (5 * c0 + 2)) := ez_3.trans (show nI (5 * c0) + nI 2 = _ from nI_add _ _)
  subst fz_3
  refine va_sld hx hb hX hbl hbA hS (vp_in_nI (by omega) (by omega)) dL_law_709 ?_
  refine lv_topi (fun z_4 ez_4 => ?_)
  refine lv_aload_n hx hb dL_law_710 rfl (lv_at hl 4 rfl) ?_
  refine lv_iload hx hb dL_law_711 (lv_at hl 0 rfl) ?_
  refine lv_iconst (v := 3) hx hb dL_law_713 (by decide) ?_
  refine lv_iadd hx hb dL_law_714 ?_
  refine lv_topi (fun z_5 ez_5 => ?_)
  have fz_5 : z_5 = (nI (5 * c0 + 3)) := ez_5.trans (show nI (5 * c0) + nI 3 = _ from nI_add _ _)
  subst fz_5
  refine va_sld hx hb hX hbl hbA hS (vp_in_nI (by omega) (by omega)) dL_law_715 ?_
  refine lv_topi (fun z_6 ez_6 => ?_)
  refine lv_if_eq (tgt := 723) hx hb dL_law_716 (by decide) (fun c_7 => ?_) (fun c_7 => ?_)
  · skip
    refine lv_iconst (v := 0) hx hb dL_law_723 (by decide) ?_
    refine lv_aload_n hx hb dL_law_724 rfl (lv_at hl 1 rfl) ?_
    have hPc := apP (X := (mW tC mo ma F th N L)) hP
    have hDc := apD (X := (mW tC mo ma F th N L)) hD
    have hFc := freeA hDc hS hA
    refine vx_calli (vx_runSX (As := [.ref (ad 0), .int z_2, .int z_4, .int 0, .ref oa]) (rest := []) ⟨hx, hb, hml, hown, hts⟩ (c_L_entry l hlt D tC dz H.size pl t ad ed cb up rs cp hO oa fo z_2 z_4 0 ) (vx_cwSW 5 hts gL_law_L_entry rfl rfl rfl (by decide +kernel) ⟨Nat.le_of_ble_eq_true rfl, Nat.le_of_ble_eq_true rfl⟩) ⟨pB_blind, pB_at hPc hDc hK hN hE hS hFc⟩ rfl rfl hl.1 rfl (lv_room (Nat.le_of_ble_eq_true rfl)) dL_law_725 ⟨(by show cn + 2 ≤ 600128; omega), (by show sn + 12 ≤ 7301098; omega)⟩) hS (fun q _ h => hFc q h) hFc (fun q _ h => hFc q h) (fun E ce q9 u t9 H1 locs ht hvm hpx hPE hz1 hk1 hS hce hcv hcl => False.elim hPE) (fun r_8 u t9 H1 locs ht hvm hw hB hz1 hk1 hS => ?_)
    obtain ⟨cb_9, up_10, fo_11⟩ := u
    obtain ⟨t_12, ed_13, rs_14, cp_15, pl_16, hrs_18, hO_17, hP1, _, hD1⟩ := hB
    rw [ht] at hP1
    obtain ⟨hP, hD⟩ := jn2 (X := (mW tC mo ma F th N L)) hP hD hk1 hFc hP1 hD1
    generalize H1 = H at hP hS ⊢
    have hw_19 := hw
    have hq9 : cb = cb_9 ∧ up = up_10 := ⟨hw.1.symm, hw.2.symm⟩
    obtain ⟨rfl, rfl⟩ := hq9
    have hO_17 : Ok tC dz t_12 ad ed_13 cb up rs_14 cp_15 pl_16 := hO_17
    have hrs_18 : rs_14 ≤ rs + 0 := hrs_18
    have hP : va_P D vwCl (mW tC mo ma F th N L ++ ((oa, wL tC 1 fo_11) :: pl_16)) H := hP
    have hD : va_D A (mW tC mo ma F th N L ++ ((oa, wL tC 1 fo_11) :: pl_16)) := hD
    refine W.widen (k := cn + 25) (n := sn + 16098) (by omega) (by omega) ?_
    refine lv_istore (lv' := [(5, .int r_8), (4, .int (nI (5 * c0))), (3, .ref oa), (2, .ref mo), (1, .ref (ad 0)), (0, .ref b)]) hx hb dL_law_728 hl (by decide) rfl (fun ls hl => ?_)
    refine lv_aload_n hx hb dL_law_730 rfl (lv_at hl 3 rfl) ?_
    refine lv_aload_n hx hb dL_law_731 rfl (lv_at hl 5 rfl) ?_
    refine lv_iload hx hb dL_law_732 (lv_at hl 1 rfl) ?_
    refine lv_iconst (v := 1) hx hb dL_law_734 (by decide) ?_
    refine lv_iadd hx hb dL_law_735 ?_
    refine lv_topi (fun z_20 ez_20 => ?_)
    have fz_20 : z_20 = (nI (5 * c0 + 1)) := ez_20.trans (show nI (5 * c0) + nI 1 = _ from nI_add _ _)
    subst fz_20
    refine va_sld hx hb hX hbl hbA hS (vp_in_nI (by omega) (by omega)) dL_law_736 ?_
    refine lv_eqi (v := z_2) ez_2.symm ?_
    refine lv_aload_n hx hb dL_law_737 rfl (lv_at hl 5 rfl) ?_
    refine lv_iload hx hb dL_law_738 (lv_at hl 1 rfl) ?_
    refine lv_iconst (v := 2) hx hb dL_law_740 (by decide) ?_
    refine lv_iadd hx hb dL_law_741 ?_
    refine lv_topi (fun z_21 ez_21 => ?_)
    have fz_21 : z_21 = (nI (5 * c0 + 2)) := ez_21.trans (show nI (5 * c0) + nI 2 = _ from nI_add _ _)
    subst fz_21
    refine va_sld hx hb hX hbl hbA hS (vp_in_nI (by omega) (by omega)) dL_law_742 ?_
    refine lv_eqi (v := z_4) ez_4.symm ?_
    refine lv_aload_n hx hb dL_law_743 rfl (lv_at hl 5 rfl) ?_
    refine lv_iload hx hb dL_law_744 (lv_at hl 1 rfl) ?_
    refine lv_iconst (v := 3) hx hb dL_law_746 (by decide) ?_
    refine lv_iadd hx hb dL_law_747 ?_
    refine lv_topi (fun z_22 ez_22 => ?_)
    have fz_22 : z_22 = (nI (5 * c0 + 3)) := ez_22.trans (show nI (5 * c0) + nI 3 = _ from nI_add _ _)
    subst fz_22
    refine va_sld hx hb hX hbl hbA hS (vp_in_nI (by omega) (by omega)) dL_law_748 ?_
    refine lv_eqi (v := z_6) ez_6.symm ?_
    refine lv_if_eq (tgt := 756) hx hb dL_law_749 (by decide) (fun _ => ?_) (fun hc => absurd (c_7) hc)
    refine lv_iconst (v := 0) hx hb dL_law_756 (by decide) ?_
    have hPc := apP1 (X := (mW tC mo ma F th N L)) hP
    have hDc := apD1 (X := (mW tC mo ma F th N L)) hD
    have hFc := freeA hDc hS hA
    refine va_calli (va_runV (As := [.int z_2, .int z_4, .int 0]) (rest := []) ⟨hx, hb, hml, hown, hts⟩ (c_X5_entry l hlt D tC dz H.size mo ma F th N L hJ z_2 z_4 0 ) (cwV 3 hts gL_law_X5_entry rfl rfl rfl (by decide +kernel) ⟨Nat.le_of_ble_eq_true rfl, Nat.le_of_ble_eq_true rfl⟩) ⟨pB_blind, va_recv hK hPc (ci := 6) (q0 := 0) rfl mW_0, pB_at hPc hDc hK hN hE hS hFc⟩ rfl rfl hl.1 rfl (lv_room (Nat.le_of_ble_eq_true rfl)) dL_law_757 ⟨(by show cn + 25 + 0 ≤ 600128; omega), (by show sn + 16098 + 0 ≤ 7301098; omega)⟩) hS (fun q _ h => hFc q h) hFc (fun r_23 u t9 H1 locs ht hvm hw hB hz1 hk1 hS => ?_)
    obtain ⟨F_25, th_26, N_27, L_28, hJ_29, hN8, hN9, hT9, hP1, _, hD1⟩ := hB
    rw [ht] at hP1
    obtain ⟨hP, hD⟩ := jn1 (C := (mW tC mo ma F th N L)) hP hD hk1 hFc hP1 hD1
    generalize H1 = H at hP hS ⊢
    have hw_24 := hw
    have hJ_29 : MI F_25 N_27 L_28 := hJ_29
    have hN7 : N_27 ≤ N + 0 := hN9
    have hP : va_P D vwCl (mW tC mo ma F_25 th_26 N_27 L_28 ++ ((oa, wL tC 1 fo_11) :: pl_16)) H := hP
    have hD : va_D A (mW tC mo ma F_25 th_26 N_27 L_28 ++ ((oa, wL tC 1 fo_11) :: pl_16)) := hD
    have hlk := lnk_c hlk hT9.2
    have hlu := lnu_c hlu hT9.1
    refine W.widen (k := cn + 25) (n := sn + 16098) (by omega) (by omega) ?_
    refine lv_istore (lv' := [(6, .int r_23), (5, .int r_8), (4, .int (nI (5 * c0))), (3, .ref oa), (2, .ref mo), (1, .ref (ad 0)), (0, .ref b)]) hx hb dL_law_760 hl (by decide) rfl (fun ls hl => ?_)
    refine lv_goto (tgt := 885) hx hb dL_law_762 (by decide) ?_
    refine W.widen (k := cn + 25) (n := sn + 16098) (by omega) (by omega) ?_
    subst hAe
    exact KK F_25 th_26 N_27 L_28 t_12 ed_13 cb up rs_14 cp_15 pl_16 fo_11 H locs ls ⟨hJ_29, by omega, hO_17, by omega, hlk, hlu, hP, hD, hS⟩ (lv_sub hl [2, 3, 4, 5, 6] rfl)
  · skip
    refine lv_iconst (v := 1) hx hb dL_law_719 (by decide) ?_
    refine lv_goto (tgt := 724) hx hb dL_law_720 (by decide) ?_
    refine lv_aload_n hx hb dL_law_724 rfl (lv_at hl 1 rfl) ?_
    have hPc := apP (X := (mW tC mo ma F th N L)) hP
    have hDc := apD (X := (mW tC mo ma F th N L)) hD
    have hFc := freeA hDc hS hA
    refine vx_calli (vx_runSX (As := [.ref (ad 0), .int z_2, .int z_4, .int 1, .ref oa]) (rest := []) ⟨hx, hb, hml, hown, hts⟩ (c_L_entry l hlt D tC dz H.size pl t ad ed cb up rs cp hO oa fo z_2 z_4 1 ) (vx_cwSW 5 hts gL_law_L_entry rfl rfl rfl (by decide +kernel) ⟨Nat.le_of_ble_eq_true rfl, Nat.le_of_ble_eq_true rfl⟩) ⟨pB_blind, pB_at hPc hDc hK hN hE hS hFc⟩ rfl rfl hl.1 rfl (lv_room (Nat.le_of_ble_eq_true rfl)) dL_law_725 ⟨(by show cn + 2 ≤ 600128; omega), (by show sn + 12 ≤ 7301098; omega)⟩) hS (fun q _ h => hFc q h) hFc (fun q _ h => hFc q h) (fun E ce q9 u t9 H1 locs ht hvm hpx hPE hz1 hk1 hS hce hcv hcl => False.elim hPE) (fun r_30 u t9 H1 locs ht hvm hw hB hz1 hk1 hS => ?_)
    obtain ⟨cb_31, up_32, fo_33⟩ := u
    obtain ⟨t_34, ed_35, rs_36, cp_37, pl_38, hrs_40, hO_39, hP1, _, hD1⟩ := hB
    rw [ht] at hP1
    obtain ⟨hP, hD⟩ := jn2 (X := (mW tC mo ma F th N L)) hP hD hk1 hFc hP1 hD1
    generalize H1 = H at hP hS ⊢
    have hw_41 := hw
    have hq9 : cb = cb_31 ∧ up = up_32 := ⟨hw.1.symm, hw.2.symm⟩
    obtain ⟨rfl, rfl⟩ := hq9
    have hO_39 : Ok tC dz t_34 ad ed_35 cb up rs_36 cp_37 pl_38 := hO_39
    have hrs_40 : rs_36 ≤ rs + 0 := hrs_40
    have hP : va_P D vwCl (mW tC mo ma F th N L ++ ((oa, wL tC 1 fo_33) :: pl_38)) H := hP
    have hD : va_D A (mW tC mo ma F th N L ++ ((oa, wL tC 1 fo_33) :: pl_38)) := hD
    refine W.widen (k := cn + 25) (n := sn + 16098) (by omega) (by omega) ?_
    refine lv_istore (lv' := [(5, .int r_30), (4, .int (nI (5 * c0))), (3, .ref oa), (2, .ref mo), (1, .ref (ad 0)), (0, .ref b)]) hx hb dL_law_728 hl (by decide) rfl (fun ls hl => ?_)
    refine lv_aload_n hx hb dL_law_730 rfl (lv_at hl 3 rfl) ?_
    refine lv_aload_n hx hb dL_law_731 rfl (lv_at hl 5 rfl) ?_
    refine lv_iload hx hb dL_law_732 (lv_at hl 1 rfl) ?_
    refine lv_iconst (v := 1) hx hb dL_law_734 (by decide) ?_
    refine lv_iadd hx hb dL_law_735 ?_
    refine lv_topi (fun z_42 ez_42 => ?_)
    have fz_42 : z_42 = (nI (5 * c0 + 1)) := ez_42.trans (show nI (5 * c0) + nI 1 = _ from nI_add _ _)
    subst fz_42
    refine va_sld hx hb hX hbl hbA hS (vp_in_nI (by omega) (by omega)) dL_law_736 ?_
    refine lv_eqi (v := z_2) ez_2.symm ?_
    refine lv_aload_n hx hb dL_law_737 rfl (lv_at hl 5 rfl) ?_
    refine lv_iload hx hb dL_law_738 (lv_at hl 1 rfl) ?_
    refine lv_iconst (v := 2) hx hb dL_law_740 (by decide) ?_
    refine lv_iadd hx hb dL_law_741 ?_
    refine lv_topi (fun z_43 ez_43 => ?_)
    have fz_43 : z_43 = (nI (5 * c0 + 2)) := ez_43.trans (show nI (5 * c0) + nI 2 = _ from nI_add _ _)
    subst fz_43
    refine va_sld hx hb hX hbl hbA hS (vp_in_nI (by omega) (by omega)) dL_law_742 ?_
    refine lv_eqi (v := z_4) ez_4.symm ?_
    refine lv_aload_n hx hb dL_law_743 rfl (lv_at hl 5 rfl) ?_
    refine lv_iload hx hb dL_law_744 (lv_at hl 1 rfl) ?_
    refine lv_iconst (v := 3) hx hb dL_law_746 (by decide) ?_
    refine lv_iadd hx hb dL_law_747 ?_
    refine lv_topi (fun z_44 ez_44 => ?_)
    have fz_44 : z_44 = (nI (5 * c0 + 3)) := ez_44.trans (show nI (5 * c0) + nI 3 = _ from nI_add _ _)
    subst fz_44
    refine va_sld hx hb hX hbl hbA hS (vp_in_nI (by omega) (by omega)) dL_law_748 ?_
    refine lv_eqi (v := z_6) ez_6.symm ?_
    refine lv_if_eq (tgt := 756) hx hb dL_law_749 (by decide) (fun hc => absurd hc (c_7)) (fun _ => ?_)
    refine lv_iconst (v := 1) hx hb dL_law_752 (by decide) ?_
    refine lv_goto (tgt := 757) hx hb dL_law_753 (by decide) ?_
    have hPc := apP1 (X := (mW tC mo ma F th N L)) hP
    have hDc := apD1 (X := (mW tC mo ma F th N L)) hD
    have hFc := freeA hDc hS hA
    refine va_calli (va_runV (As := [.int z_2, .int z_4, .int 1]) (rest := []) ⟨hx, hb, hml, hown, hts⟩ (c_X5_entry l hlt D tC dz H.size mo ma F th N L hJ z_2 z_4 1 ) (cwV 3 hts gL_law_X5_entry rfl rfl rfl (by decide +kernel) ⟨Nat.le_of_ble_eq_true rfl, Nat.le_of_ble_eq_true rfl⟩) ⟨pB_blind, va_recv hK hPc (ci := 6) (q0 := 0) rfl mW_0, pB_at hPc hDc hK hN hE hS hFc⟩ rfl rfl hl.1 rfl (lv_room (Nat.le_of_ble_eq_true rfl)) dL_law_757 ⟨(by show cn + 25 + 0 ≤ 600128; omega), (by show sn + 16098 + 0 ≤ 7301098; omega)⟩) hS (fun q _ h => hFc q h) hFc (fun r_45 u t9 H1 locs ht hvm hw hB hz1 hk1 hS => ?_)
    obtain ⟨F_47, th_48, N_49, L_50, hJ_51, hN8, hN9, hT9, hP1, _, hD1⟩ := hB
    rw [ht] at hP1
    obtain ⟨hP, hD⟩ := jn1 (C := (mW tC mo ma F th N L)) hP hD hk1 hFc hP1 hD1
    generalize H1 = H at hP hS ⊢
    have hw_46 := hw
    have hJ_51 : MI F_47 N_49 L_50 := hJ_51
    have hN7 : N_49 ≤ N + 0 := hN9
    have hP : va_P D vwCl (mW tC mo ma F_47 th_48 N_49 L_50 ++ ((oa, wL tC 1 fo_33) :: pl_38)) H := hP
    have hD : va_D A (mW tC mo ma F_47 th_48 N_49 L_50 ++ ((oa, wL tC 1 fo_33) :: pl_38)) := hD
    have hlk := lnk_c hlk hT9.2
    have hlu := lnu_c hlu hT9.1
    refine W.widen (k := cn + 25) (n := sn + 16098) (by omega) (by omega) ?_
    refine lv_istore (lv' := [(6, .int r_45), (5, .int r_30), (4, .int (nI (5 * c0))), (3, .ref oa), (2, .ref mo), (1, .ref (ad 0)), (0, .ref b)]) hx hb dL_law_760 hl (by decide) rfl (fun ls hl => ?_)
    refine lv_goto (tgt := 885) hx hb dL_law_762 (by decide) ?_
    refine W.widen (k := cn + 25) (n := sn + 16098) (by omega) (by omega) ?_
    subst hAe
    exact KK F_47 th_48 N_49 L_50 t_34 ed_35 cb up rs_36 cp_37 pl_38 fo_33 H locs ls ⟨hJ_51, by omega, hO_39, by omega, hlk, hlu, hP, hD, hS⟩ (lv_sub hl [2, 3, 4, 5, 6] rfl)
set_option maxHeartbeats 8000000 in
set_option maxRecDepth 100000 in
theorem lc_17 {p : Program} {l : Launch} {e : Env} {s : State} {m : MethodId} {below : List Frame} {meth : Method} {c : Code} {b Lx : Nat} {xs : Nat → Int32} (hlt : l.stackTraces = false) (C0 : lw_At p s m meth c b Lx xs) (hLx : Lx ≤ 320) (D : va_G) (tC : Nat → ClassId) (dz mo oa : Nat) (ma ad : Nat → Nat) (hK : va_K D vwCl (tY tC) s) (hN : eN s) (hE : eH dz (fun q : Nat => s.heap.size ≤ q) s s.heap) (c0 : Nat) (hc0 : 5 * c0 + 5 ≤ Lx) (cn sn : Nat) (hcn : cn ≤ 500000) (hsn : sn ≤ 7000000) (KK : ∀ (F : Nat → Nat → Int32) (th : Int32) (N L : Nat) (t : Nat → Nat × Nat) (ed : Nat) (cb up : Nat → Int32) (rs cp : Nat) (pl : va_W) (fo : Nat → Int64) (H : Heap) (locs : List Loc) (ls : Array Slot), LI D tC dz mo oa ma ad s (c0 + 1) F th N L t ed cb up rs cp pl fo H locs → lv_has ls 7 [(4, .int (nI (5 * c0))), (3, .ref oa), (2, .ref mo), (1, .ref (ad 0)), (0, .ref b)] → W p l e room_1 s m #[Value.ref b] below meth c H locs (cn + 25) (sn + 16098) (lw_Z below #[Value.ref b] s) (F0 m 885 ls [])) (F : Nat → Nat → Int32) (th : Int32) (N L : Nat) (t : Nat → Nat × Nat) (ed : Nat) (cb up : Nat → Int32) (rs cp : Nat) (pl : va_W) (fo : Nat → Int64) (H : Heap) (locs : List Loc) (ls : Array Slot) (hI : LI D tC dz mo oa ma ad s c0 F th N L t ed cb up rs cp pl fo H locs) (hl : lv_has ls 7 [(4, .int (nI (5 * c0))), (3, .ref oa), (2, .ref mo), (1, .ref (ad 0)), (0, .ref b)]) : W p l e room_1 s m #[Value.ref b] below meth c H locs cn sn (lw_Z below #[Value.ref b] s) (F0 m 765 ls []) := by
  obtain ⟨hx, hb, hr, hml, hown, hts0, hX, hbl, hlocks, hgv⟩ := C0
  have hts : ∀ w ∈ wsL_law, w.before #[Value.ref b] s = true := fun w h => hts0 w (wsL_law_in w h)
  have hown : s.vm.findClass RL = some m.cls := hown
  obtain ⟨hJ, hN9, hO, hrs9, hlk, hlu, hP, hD, hS⟩ := hI
  have hN5 := hJ.n9
  obtain ⟨A, hAe⟩ : ∃ A : Nat → Prop, A = fun q : Nat => s.heap.size ≤ q := ⟨_, rfl⟩
  rw [← hAe] at hE hD hS
  have hA : ∀ q : Nat, s.heap.size ≤ q → A q := fun q h => by rw [hAe]; exact h
  have hbA : ¬ A b := by rw [hAe]; exact Nat.not_le.mpr hbl
  refine lv_aload_n hx hb dL_law_765 rfl (lv_at hl 3 rfl) ?_
  refine lv_aload_n hx hb dL_law_766 rfl (lv_at hl 4 rfl) ?_
  refine lv_iload hx hb dL_law_767 (lv_at hl 0 rfl) ?_
  refine lv_iconst (v := 1) hx hb dL_law_769 (by decide) ?_
  refine lv_iadd hx hb dL_law_770 ?_
  refine lv_topi (fun z_1 ez_1 => ?_)
  have fz_1 : z_1 = (nI (5 * c0 + 1)) := ez_1.trans (show nI (5 * c0) + nI 1 = _ from nI_add _ _)
  subst fz_1
  refine va_sld hx hb hX hbl hbA hS (vp_in_nI (by omega) (by omega)) dL_law_771 ?_
  refine lv_topi (fun z_2 ez_2 => ?_)
  refine lv_aload_n hx hb dL_law_772 rfl (lv_at hl 4 rfl) ?_
  refine lv_iload hx hb dL_law_773 (lv_at hl 0 rfl) ?_
  refine lv_iconst (v := 2) hx hb dL_law_775 (by decide) ?_
  refine lv_iadd hx hb dL_law_776 ?_
  refine lv_topi (fun z_3 ez_3 => ?_)
  have fz_3 : z_3 = (nI (5 * c0 + 2)) := ez_3.trans (show nI (5 * c0) + nI 2 = _ from nI_add _ _)
  subst fz_3
  refine va_sld hx hb hX hbl hbA hS (vp_in_nI (by omega) (by omega)) dL_law_777 ?_
  refine lv_topi (fun z_4 ez_4 => ?_)
  refine lv_aload_n hx hb dL_law_778 rfl (lv_at hl 1 rfl) ?_
  have hPc := apP (X := (mW tC mo ma F th N L)) hP
  have hDc := apD (X := (mW tC mo ma F th N L)) hD
  have hFc := freeA hDc hS hA
  refine vx_calli (vx_runSX (As := [.ref (ad 0), .int z_2, .int z_4, .ref oa]) (rest := []) ⟨hx, hb, hml, hown, hts⟩ (c_L_about l hlt D tC dz H.size pl t ad ed cb up rs cp hO oa fo z_2 z_4 ) (vx_cwSW 4 hts gL_law_L_about rfl rfl rfl (by decide +kernel) ⟨Nat.le_of_ble_eq_true rfl, Nat.le_of_ble_eq_true rfl⟩) ⟨pB_blind, pB_at hPc hDc hK hN hE hS hFc⟩ rfl rfl hl.1 rfl (lv_room (Nat.le_of_ble_eq_true rfl)) dL_law_779 ⟨(by show cn + 2 ≤ 600128; omega), (by show sn + 12 ≤ 7301098; omega)⟩) hS (fun q _ h => hFc q h) hFc (fun q _ h => hFc q h) (fun E ce q9 u t9 H1 locs ht hvm hpx hPE hz1 hk1 hS hce hcv hcl => False.elim hPE) (fun r_5 u t9 H1 locs ht hvm hw hB hz1 hk1 hS => ?_)
  obtain ⟨cb_6, up_7, fo_8⟩ := u
  obtain ⟨t_9, ed_10, rs_11, cp_12, pl_13, hrs_15, hO_14, hP1, _, hD1⟩ := hB
  rw [ht] at hP1
  obtain ⟨hP, hD⟩ := jn2 (X := (mW tC mo ma F th N L)) hP hD hk1 hFc hP1 hD1
  generalize H1 = H at hP hS ⊢
  have hw_16 := hw
  have hq9 : cb = cb_6 ∧ up = up_7 := ⟨hw.1.symm, hw.2.symm⟩
  obtain ⟨rfl, rfl⟩ := hq9
  have hO_14 : Ok tC dz t_9 ad ed_10 cb up rs_11 cp_12 pl_13 := hO_14
  have hrs_15 : rs_11 ≤ rs + 0 := hrs_15
  have hP : va_P D vwCl (mW tC mo ma F th N L ++ ((oa, wL tC 1 fo_8) :: pl_13)) H := hP
  have hD : va_D A (mW tC mo ma F th N L ++ ((oa, wL tC 1 fo_8) :: pl_13)) := hD
  refine W.widen (k := cn + 25) (n := sn + 16098) (by omega) (by omega) ?_
  refine lv_istore (lv' := [(5, .int r_5), (4, .int (nI (5 * c0))), (3, .ref oa), (2, .ref mo), (1, .ref (ad 0)), (0, .ref b)]) hx hb dL_law_782 hl (by decide) rfl (fun ls hl => ?_)
  refine lv_aload_n hx hb dL_law_784 rfl (lv_at hl 3 rfl) ?_
  refine lv_aload_n hx hb dL_law_785 rfl (lv_at hl 5 rfl) ?_
  refine lv_iload hx hb dL_law_786 (lv_at hl 1 rfl) ?_
  refine lv_iconst (v := 1) hx hb dL_law_788 (by decide) ?_
  refine lv_iadd hx hb dL_law_789 ?_
  refine lv_topi (fun z_17 ez_17 => ?_)
  have fz_17 : z_17 = (nI (5 * c0 + 1)) := ez_17.trans (show nI (5 * c0) + nI 1 = _ from nI_add _ _)
  subst fz_17
  refine va_sld hx hb hX hbl hbA hS (vp_in_nI (by omega) (by omega)) dL_law_790 ?_
  refine lv_eqi (v := z_2) ez_2.symm ?_
  refine lv_aload_n hx hb dL_law_791 rfl (lv_at hl 5 rfl) ?_
  refine lv_iload hx hb dL_law_792 (lv_at hl 1 rfl) ?_
  refine lv_iconst (v := 2) hx hb dL_law_794 (by decide) ?_
  refine lv_iadd hx hb dL_law_795 ?_
  refine lv_topi (fun z_18 ez_18 => ?_)
  have fz_18 : z_18 = (nI (5 * c0 + 2)) := ez_18.trans (show nI (5 * c0) + nI 2 = _ from nI_add _ _)
  subst fz_18
  refine va_sld hx hb hX hbl hbA hS (vp_in_nI (by omega) (by omega)) dL_law_796 ?_
  refine lv_eqi (v := z_4) ez_4.symm ?_
  have hPc := apP1 (X := (mW tC mo ma F th N L)) hP
  have hDc := apD1 (X := (mW tC mo ma F th N L)) hD
  have hFc := freeA hDc hS hA
  refine va_calli (va_runV (As := [.int z_2, .int z_4]) (rest := []) ⟨hx, hb, hml, hown, hts⟩ (c_X5_about l hlt D tC dz H.size mo ma F th N L hJ z_2 z_4 ) (cwV 2 hts gL_law_X5_about rfl rfl rfl (by decide +kernel) ⟨Nat.le_of_ble_eq_true rfl, Nat.le_of_ble_eq_true rfl⟩) ⟨pB_blind, va_recv hK hPc (ci := 6) (q0 := 0) rfl mW_0, pB_at hPc hDc hK hN hE hS hFc⟩ rfl rfl hl.1 rfl (lv_room (Nat.le_of_ble_eq_true rfl)) dL_law_797 ⟨(by show cn + 25 + 0 ≤ 600128; omega), (by show sn + 16098 + 0 ≤ 7301098; omega)⟩) hS (fun q _ h => hFc q h) hFc (fun r_19 u t9 H1 locs ht hvm hw hB hz1 hk1 hS => ?_)
  obtain ⟨F_21, th_22, N_23, L_24, hJ_25, hN8, hN9, hT9, hP1, _, hD1⟩ := hB
  rw [ht] at hP1
  obtain ⟨hP, hD⟩ := jn1 (C := (mW tC mo ma F th N L)) hP hD hk1 hFc hP1 hD1
  generalize H1 = H at hP hS ⊢
  have hw_20 := hw
  have hJ_25 : MI F_21 N_23 L_24 := hJ_25
  have hN7 : N_23 ≤ N + 0 := hN9
  have hP : va_P D vwCl (mW tC mo ma F_21 th_22 N_23 L_24 ++ ((oa, wL tC 1 fo_8) :: pl_13)) H := hP
  have hD : va_D A (mW tC mo ma F_21 th_22 N_23 L_24 ++ ((oa, wL tC 1 fo_8) :: pl_13)) := hD
  have hlk := lnk_c hlk hT9.2
  have hlu := lnu_c hlu hT9.1
  refine W.widen (k := cn + 25) (n := sn + 16098) (by omega) (by omega) ?_
  refine lv_istore (lv' := [(6, .int r_19), (5, .int r_5), (4, .int (nI (5 * c0))), (3, .ref oa), (2, .ref mo), (1, .ref (ad 0)), (0, .ref b)]) hx hb dL_law_800 hl (by decide) rfl (fun ls hl => ?_)
  refine lv_goto (tgt := 885) hx hb dL_law_802 (by decide) ?_
  refine W.widen (k := cn + 25) (n := sn + 16098) (by omega) (by omega) ?_
  subst hAe
  exact KK F_21 th_22 N_23 L_24 t_9 ed_10 cb up rs_11 cp_12 pl_13 fo_8 H locs ls ⟨hJ_25, by omega, hO_14, by omega, hlk, hlu, hP, hD, hS⟩ (lv_sub hl [2, 3, 4, 5, 6] rfl)
set_option maxHeartbeats 8000000 in
set_option maxRecDepth 100000 in
theorem lc_18 {p : Program} {l : Launch} {e : Env} {s : State} {m : MethodId} {below : List Frame} {meth : Method} {c : Code} {b Lx : Nat} {xs : Nat → Int32} (hlt : l.stackTraces = false) (C0 : lw_At p s m meth c b Lx xs) (hLx : Lx ≤ 320) (D : va_G) (tC : Nat → ClassId) (dz mo oa : Nat) (ma ad : Nat → Nat) (hK : va_K D vwCl (tY tC) s) (hN : eN s) (hE : eH dz (fun q : Nat => s.heap.size ≤ q) s s.heap) (c0 : Nat) (hc0 : 5 * c0 + 5 ≤ Lx) (cn sn : Nat) (hcn : cn ≤ 500000) (hsn : sn ≤ 7000000) (KK : ∀ (F : Nat → Nat → Int32) (th : Int32) (N L : Nat) (t : Nat → Nat × Nat) (ed : Nat) (cb up : Nat → Int32) (rs cp : Nat) (pl : va_W) (fo : Nat → Int64) (H : Heap) (locs : List Loc) (ls : Array Slot), LI D tC dz mo oa ma ad s (c0 + 1) F th N L t ed cb up rs cp pl fo H locs → lv_has ls 7 [(4, .int (nI (5 * c0))), (3, .ref oa), (2, .ref mo), (1, .ref (ad 0)), (0, .ref b)] → W p l e room_1 s m #[Value.ref b] below meth c H locs (cn + 25) (sn + 16098) (lw_Z below #[Value.ref b] s) (F0 m 885 ls [])) (F : Nat → Nat → Int32) (th : Int32) (N L : Nat) (t : Nat → Nat × Nat) (ed : Nat) (cb up : Nat → Int32) (rs cp : Nat) (pl : va_W) (fo : Nat → Int64) (H : Heap) (locs : List Loc) (ls : Array Slot) (hI : LI D tC dz mo oa ma ad s c0 F th N L t ed cb up rs cp pl fo H locs) (hl : lv_has ls 7 [(4, .int (nI (5 * c0))), (3, .ref oa), (2, .ref mo), (1, .ref (ad 0)), (0, .ref b)]) : W p l e room_1 s m #[Value.ref b] below meth c H locs cn sn (lw_Z below #[Value.ref b] s) (F0 m 805 ls []) := by
  obtain ⟨hx, hb, hr, hml, hown, hts0, hX, hbl, hlocks, hgv⟩ := C0
  have hts : ∀ w ∈ wsL_law, w.before #[Value.ref b] s = true := fun w h => hts0 w (wsL_law_in w h)
  have hown : s.vm.findClass RL = some m.cls := hown
  obtain ⟨hJ, hN9, hO, hrs9, hlk, hlu, hP, hD, hS⟩ := hI
  have hN5 := hJ.n9
  obtain ⟨A, hAe⟩ : ∃ A : Nat → Prop, A = fun q : Nat => s.heap.size ≤ q := ⟨_, rfl⟩
  rw [← hAe] at hE hD hS
  have hA : ∀ q : Nat, s.heap.size ≤ q → A q := fun q h => by rw [hAe]; exact h
  have hbA : ¬ A b := by rw [hAe]; exact Nat.not_le.mpr hbl
  refine lv_aload_n hx hb dL_law_805 rfl (lv_at hl 3 rfl) ?_
  refine lv_aload_n hx hb dL_law_806 rfl (lv_at hl 4 rfl) ?_
  refine lv_iload hx hb dL_law_807 (lv_at hl 0 rfl) ?_
  refine lv_iconst (v := 1) hx hb dL_law_809 (by decide) ?_
  refine lv_iadd hx hb dL_law_810 ?_
  refine lv_topi (fun z_1 ez_1 => ?_)
  have fz_1 : z_1 = (nI (5 * c0 + 1)) := ez_1.trans (show nI (5 * c0) + nI 1 = _ from nI_add _ _)
  subst fz_1
  refine va_sld hx hb hX hbl hbA hS (vp_in_nI (by omega) (by omega)) dL_law_811 ?_
  refine lv_topi (fun z_2 ez_2 => ?_)
  refine lv_aload_n hx hb dL_law_812 rfl (lv_at hl 1 rfl) ?_
  have hPc := apP (X := (mW tC mo ma F th N L)) hP
  have hDc := apD (X := (mW tC mo ma F th N L)) hD
  have hFc := freeA hDc hS hA
  refine vx_calli (vx_runSX (As := [.ref (ad 0), .int z_2, .ref oa]) (rest := []) ⟨hx, hb, hml, hown, hts⟩ (c_L_allowed l hlt D tC dz H.size pl t ad ed cb up rs cp hO oa fo z_2 ) (vx_cwSW 3 hts gL_law_L_allowed rfl rfl rfl (by decide +kernel) ⟨Nat.le_of_ble_eq_true rfl, Nat.le_of_ble_eq_true rfl⟩) ⟨pB_blind, pB_at hPc hDc hK hN hE hS hFc⟩ rfl rfl hl.1 rfl (lv_room (Nat.le_of_ble_eq_true rfl)) dL_law_813 ⟨(by show cn + 1 ≤ 600128; omega), (by show sn + 6 ≤ 7301098; omega)⟩) hS (fun q _ h => hFc q h) hFc (fun q _ h => hFc q h) (fun E ce q9 u t9 H1 locs ht hvm hpx hPE hz1 hk1 hS hce hcv hcl => False.elim hPE) (fun r_3 u t9 H1 locs ht hvm hw hB hz1 hk1 hS => ?_)
  obtain ⟨cb_4, up_5, fo_6⟩ := u
  obtain ⟨t_7, ed_8, rs_9, cp_10, pl_11, hrs_13, hO_12, hP1, _, hD1⟩ := hB
  rw [ht] at hP1
  obtain ⟨hP, hD⟩ := jn2 (X := (mW tC mo ma F th N L)) hP hD hk1 hFc hP1 hD1
  generalize H1 = H at hP hS ⊢
  have hw_14 := hw
  have hq9 : cb = cb_4 ∧ up = up_5 := ⟨hw.1.symm, hw.2.symm⟩
  obtain ⟨rfl, rfl⟩ := hq9
  have hO_12 : Ok tC dz t_7 ad ed_8 cb up rs_9 cp_10 pl_11 := hO_12
  have hrs_13 : rs_9 ≤ rs + 0 := hrs_13
  have hP : va_P D vwCl (mW tC mo ma F th N L ++ ((oa, wL tC 1 fo_6) :: pl_11)) H := hP
  have hD : va_D A (mW tC mo ma F th N L ++ ((oa, wL tC 1 fo_6) :: pl_11)) := hD
  refine W.widen (k := cn + 25) (n := sn + 16098) (by omega) (by omega) ?_
  refine lv_istore (lv' := [(5, .int r_3), (4, .int (nI (5 * c0))), (3, .ref oa), (2, .ref mo), (1, .ref (ad 0)), (0, .ref b)]) hx hb dL_law_816 hl (by decide) rfl (fun ls hl => ?_)
  refine lv_aload_n hx hb dL_law_818 rfl (lv_at hl 3 rfl) ?_
  refine lv_aload_n hx hb dL_law_819 rfl (lv_at hl 5 rfl) ?_
  refine lv_iload hx hb dL_law_820 (lv_at hl 1 rfl) ?_
  refine lv_iconst (v := 1) hx hb dL_law_822 (by decide) ?_
  refine lv_iadd hx hb dL_law_823 ?_
  refine lv_topi (fun z_15 ez_15 => ?_)
  have fz_15 : z_15 = (nI (5 * c0 + 1)) := ez_15.trans (show nI (5 * c0) + nI 1 = _ from nI_add _ _)
  subst fz_15
  refine va_sld hx hb hX hbl hbA hS (vp_in_nI (by omega) (by omega)) dL_law_824 ?_
  refine lv_eqi (v := z_2) ez_2.symm ?_
  have hPc := apP1 (X := (mW tC mo ma F th N L)) hP
  have hDc := apD1 (X := (mW tC mo ma F th N L)) hD
  have hFc := freeA hDc hS hA
  refine va_calli (va_runV (As := [.int z_2]) (rest := []) ⟨hx, hb, hml, hown, hts⟩ (c_X5_allowed l hlt D tC dz H.size mo ma F th N L hJ z_2 ) (cwV 1 hts gL_law_X5_allowed rfl rfl rfl (by decide +kernel) ⟨Nat.le_of_ble_eq_true rfl, Nat.le_of_ble_eq_true rfl⟩) ⟨pB_blind, va_recv hK hPc (ci := 6) (q0 := 0) rfl mW_0, pB_at hPc hDc hK hN hE hS hFc⟩ rfl rfl hl.1 rfl (lv_room (Nat.le_of_ble_eq_true rfl)) dL_law_825 ⟨(by show cn + 25 + 0 ≤ 600128; omega), (by show sn + 16098 + 0 ≤ 7301098; omega)⟩) hS (fun q _ h => hFc q h) hFc (fun r_16 u t9 H1 locs ht hvm hw hB hz1 hk1 hS => ?_)
  obtain ⟨F_18, th_19, N_20, L_21, hJ_22, hN8, hN9, hT9, hP1, _, hD1⟩ := hB
  rw [ht] at hP1
  obtain ⟨hP, hD⟩ := jn1 (C := (mW tC mo ma F th N L)) hP hD hk1 hFc hP1 hD1
  generalize H1 = H at hP hS ⊢
  have hw_17 := hw
  have hJ_22 : MI F_18 N_20 L_21 := hJ_22
  have hN7 : N_20 ≤ N + 0 := hN9
  have hP : va_P D vwCl (mW tC mo ma F_18 th_19 N_20 L_21 ++ ((oa, wL tC 1 fo_6) :: pl_11)) H := hP
  have hD : va_D A (mW tC mo ma F_18 th_19 N_20 L_21 ++ ((oa, wL tC 1 fo_6) :: pl_11)) := hD
  have hlk := lnk_c hlk hT9.2
  have hlu := lnu_c hlu hT9.1
  refine W.widen (k := cn + 25) (n := sn + 16098) (by omega) (by omega) ?_
  refine lv_istore (lv' := [(6, .int r_16), (5, .int r_3), (4, .int (nI (5 * c0))), (3, .ref oa), (2, .ref mo), (1, .ref (ad 0)), (0, .ref b)]) hx hb dL_law_828 hl (by decide) rfl (fun ls hl => ?_)
  refine lv_goto (tgt := 885) hx hb dL_law_830 (by decide) ?_
  refine W.widen (k := cn + 25) (n := sn + 16098) (by omega) (by omega) ?_
  subst hAe
  exact KK F_18 th_19 N_20 L_21 t_7 ed_8 cb up rs_9 cp_10 pl_11 fo_6 H locs ls ⟨hJ_22, by omega, hO_12, by omega, hlk, hlu, hP, hD, hS⟩ (lv_sub hl [2, 3, 4, 5, 6] rfl)
set_option maxHeartbeats 8000000 in
set_option maxRecDepth 100000 in
theorem lc_19 {p : Program} {l : Launch} {e : Env} {s : State} {m : MethodId} {below : List Frame} {meth : Method} {c : Code} {b Lx : Nat} {xs : Nat → Int32} (hlt : l.stackTraces = false) (C0 : lw_At p s m meth c b Lx xs) (hLx : Lx ≤ 320) (D : va_G) (tC : Nat → ClassId) (dz mo oa : Nat) (ma ad : Nat → Nat) (hK : va_K D vwCl (tY tC) s) (hN : eN s) (hE : eH dz (fun q : Nat => s.heap.size ≤ q) s s.heap) (c0 : Nat) (hc0 : 5 * c0 + 5 ≤ Lx) (cn sn : Nat) (hcn : cn ≤ 500000) (hsn : sn ≤ 7000000) (KK : ∀ (F : Nat → Nat → Int32) (th : Int32) (N L : Nat) (t : Nat → Nat × Nat) (ed : Nat) (cb up : Nat → Int32) (rs cp : Nat) (pl : va_W) (fo : Nat → Int64) (H : Heap) (locs : List Loc) (ls : Array Slot), LI D tC dz mo oa ma ad s (c0 + 1) F th N L t ed cb up rs cp pl fo H locs → lv_has ls 7 [(4, .int (nI (5 * c0))), (3, .ref oa), (2, .ref mo), (1, .ref (ad 0)), (0, .ref b)] → W p l e room_1 s m #[Value.ref b] below meth c H locs (cn + 25) (sn + 16098) (lw_Z below #[Value.ref b] s) (F0 m 885 ls [])) (F : Nat → Nat → Int32) (th : Int32) (N L : Nat) (t : Nat → Nat × Nat) (ed : Nat) (cb up : Nat → Int32) (rs cp : Nat) (pl : va_W) (fo : Nat → Int64) (H : Heap) (locs : List Loc) (ls : Array Slot) (hI : LI D tC dz mo oa ma ad s c0 F th N L t ed cb up rs cp pl fo H locs) (hl : lv_has ls 7 [(4, .int (nI (5 * c0))), (3, .ref oa), (2, .ref mo), (1, .ref (ad 0)), (0, .ref b)]) : W p l e room_1 s m #[Value.ref b] below meth c H locs cn sn (lw_Z below #[Value.ref b] s) (F0 m 833 ls []) := by
  obtain ⟨hx, hb, hr, hml, hown, hts0, hX, hbl, hlocks, hgv⟩ := C0
  have hts : ∀ w ∈ wsL_law, w.before #[Value.ref b] s = true := fun w h => hts0 w (wsL_law_in w h)
  have hown : s.vm.findClass RL = some m.cls := hown
  obtain ⟨hJ, hN9, hO, hrs9, hlk, hlu, hP, hD, hS⟩ := hI
  have hN5 := hJ.n9
  obtain ⟨A, hAe⟩ : ∃ A : Nat → Prop, A = fun q : Nat => s.heap.size ≤ q := ⟨_, rfl⟩
  rw [← hAe] at hE hD hS
  have hA : ∀ q : Nat, s.heap.size ≤ q → A q := fun q h => by rw [hAe]; exact h
  have hbA : ¬ A b := by rw [hAe]; exact Nat.not_le.mpr hbl
  refine lv_aload_n hx hb dL_law_833 rfl (lv_at hl 3 rfl) ?_
  refine lv_aload_n hx hb dL_law_834 rfl (lv_at hl 4 rfl) ?_
  refine lv_iload hx hb dL_law_835 (lv_at hl 0 rfl) ?_
  refine lv_iconst (v := 1) hx hb dL_law_837 (by decide) ?_
  refine lv_iadd hx hb dL_law_838 ?_
  refine lv_topi (fun z_1 ez_1 => ?_)
  have fz_1 : z_1 = (nI (5 * c0 + 1)) := ez_1.trans (show nI (5 * c0) + nI 1 = _ from nI_add _ _)
  subst fz_1
  refine va_sld hx hb hX hbl hbA hS (vp_in_nI (by omega) (by omega)) dL_law_839 ?_
  refine lv_topi (fun z_2 ez_2 => ?_)
  refine lv_aload_n hx hb dL_law_840 rfl (lv_at hl 4 rfl) ?_
  refine lv_iload hx hb dL_law_841 (lv_at hl 0 rfl) ?_
  refine lv_iconst (v := 2) hx hb dL_law_843 (by decide) ?_
  refine lv_iadd hx hb dL_law_844 ?_
  refine lv_topi (fun z_3 ez_3 => ?_)
  have fz_3 : z_3 = (nI (5 * c0 + 2)) := ez_3.trans (show nI (5 * c0) + nI 2 = _ from nI_add _ _)
  subst fz_3
  refine va_sld hx hb hX hbl hbA hS (vp_in_nI (by omega) (by omega)) dL_law_845 ?_
  refine lv_topi (fun z_4 ez_4 => ?_)
  refine lv_aload_n hx hb dL_law_846 rfl (lv_at hl 4 rfl) ?_
  refine lv_iload hx hb dL_law_847 (lv_at hl 0 rfl) ?_
  refine lv_iconst (v := 3) hx hb dL_law_849 (by decide) ?_
  refine lv_iadd hx hb dL_law_850 ?_
  refine lv_topi (fun z_5 ez_5 => ?_)
  have fz_5 : z_5 = (nI (5 * c0 + 3)) := ez_5.trans (show nI (5 * c0) + nI 3 = _ from nI_add _ _)
  subst fz_5
  refine va_sld hx hb hX hbl hbA hS (vp_in_nI (by omega) (by omega)) dL_law_851 ?_
  refine lv_topi (fun z_6 ez_6 => ?_)
  refine lv_aload_n hx hb dL_law_852 rfl (lv_at hl 1 rfl) ?_
  have hPc := apP (X := (mW tC mo ma F th N L)) hP
  have hDc := apD (X := (mW tC mo ma F th N L)) hD
  have hFc := freeA hDc hS hA
  refine vx_calli (vx_runSX (As := [.ref (ad 0), .int z_2, .int z_4, .int z_6, .ref oa]) (rest := []) ⟨hx, hb, hml, hown, hts⟩ (c_L_inForce l hlt D tC dz H.size pl t ad ed cb up rs cp hO oa fo z_2 z_4 z_6 ) (vx_cwSW 5 hts gL_law_L_inForce rfl rfl rfl (by decide +kernel) ⟨Nat.le_of_ble_eq_true rfl, Nat.le_of_ble_eq_true rfl⟩) ⟨pB_blind, pB_at hPc hDc hK hN hE hS hFc⟩ rfl rfl hl.1 rfl (lv_room (Nat.le_of_ble_eq_true rfl)) dL_law_853 ⟨(by show cn + 1 ≤ 600128; omega), (by show sn + 6 ≤ 7301098; omega)⟩) hS (fun q _ h => hFc q h) hFc (fun q _ h => hFc q h) (fun E ce q9 u t9 H1 locs ht hvm hpx hPE hz1 hk1 hS hce hcv hcl => False.elim hPE) (fun r_7 u t9 H1 locs ht hvm hw hB hz1 hk1 hS => ?_)
  obtain ⟨cb_8, up_9, fo_10⟩ := u
  obtain ⟨t_11, ed_12, rs_13, cp_14, pl_15, hrs_17, hO_16, hP1, _, hD1⟩ := hB
  rw [ht] at hP1
  obtain ⟨hP, hD⟩ := jn2 (X := (mW tC mo ma F th N L)) hP hD hk1 hFc hP1 hD1
  generalize H1 = H at hP hS ⊢
  have hw_18 := hw
  have hq9 : cb = cb_8 ∧ up = up_9 := ⟨hw.1.symm, hw.2.symm⟩
  obtain ⟨rfl, rfl⟩ := hq9
  have hO_16 : Ok tC dz t_11 ad ed_12 cb up rs_13 cp_14 pl_15 := hO_16
  have hrs_17 : rs_13 ≤ rs + 0 := hrs_17
  have hP : va_P D vwCl (mW tC mo ma F th N L ++ ((oa, wL tC 1 fo_10) :: pl_15)) H := hP
  have hD : va_D A (mW tC mo ma F th N L ++ ((oa, wL tC 1 fo_10) :: pl_15)) := hD
  refine W.widen (k := cn + 25) (n := sn + 16098) (by omega) (by omega) ?_
  refine lv_istore (lv' := [(5, .int r_7), (4, .int (nI (5 * c0))), (3, .ref oa), (2, .ref mo), (1, .ref (ad 0)), (0, .ref b)]) hx hb dL_law_856 hl (by decide) rfl (fun ls hl => ?_)
  refine lv_aload_n hx hb dL_law_858 rfl (lv_at hl 3 rfl) ?_
  refine lv_aload_n hx hb dL_law_859 rfl (lv_at hl 5 rfl) ?_
  refine lv_iload hx hb dL_law_860 (lv_at hl 1 rfl) ?_
  refine lv_iconst (v := 1) hx hb dL_law_862 (by decide) ?_
  refine lv_iadd hx hb dL_law_863 ?_
  refine lv_topi (fun z_19 ez_19 => ?_)
  have fz_19 : z_19 = (nI (5 * c0 + 1)) := ez_19.trans (show nI (5 * c0) + nI 1 = _ from nI_add _ _)
  subst fz_19
  refine va_sld hx hb hX hbl hbA hS (vp_in_nI (by omega) (by omega)) dL_law_864 ?_
  refine lv_eqi (v := z_2) ez_2.symm ?_
  refine lv_aload_n hx hb dL_law_865 rfl (lv_at hl 5 rfl) ?_
  refine lv_iload hx hb dL_law_866 (lv_at hl 1 rfl) ?_
  refine lv_iconst (v := 2) hx hb dL_law_868 (by decide) ?_
  refine lv_iadd hx hb dL_law_869 ?_
  refine lv_topi (fun z_20 ez_20 => ?_)
  have fz_20 : z_20 = (nI (5 * c0 + 2)) := ez_20.trans (show nI (5 * c0) + nI 2 = _ from nI_add _ _)
  subst fz_20
  refine va_sld hx hb hX hbl hbA hS (vp_in_nI (by omega) (by omega)) dL_law_870 ?_
  refine lv_eqi (v := z_4) ez_4.symm ?_
  refine lv_aload_n hx hb dL_law_871 rfl (lv_at hl 5 rfl) ?_
  refine lv_iload hx hb dL_law_872 (lv_at hl 1 rfl) ?_
  refine lv_iconst (v := 3) hx hb dL_law_874 (by decide) ?_
  refine lv_iadd hx hb dL_law_875 ?_
  refine lv_topi (fun z_21 ez_21 => ?_)
  have fz_21 : z_21 = (nI (5 * c0 + 3)) := ez_21.trans (show nI (5 * c0) + nI 3 = _ from nI_add _ _)
  subst fz_21
  refine va_sld hx hb hX hbl hbA hS (vp_in_nI (by omega) (by omega)) dL_law_876 ?_
  refine lv_eqi (v := z_6) ez_6.symm ?_
  have hPc := apP1 (X := (mW tC mo ma F th N L)) hP
  have hDc := apD1 (X := (mW tC mo ma F th N L)) hD
  have hFc := freeA hDc hS hA
  refine va_calli (va_runV (As := [.int z_2, .int z_4, .int z_6]) (rest := []) ⟨hx, hb, hml, hown, hts⟩ (c_X5_inForce l hlt D tC dz H.size mo ma F th N L hJ z_2 z_4 z_6 ) (cwV 3 hts gL_law_X5_inForce rfl rfl rfl (by decide +kernel) ⟨Nat.le_of_ble_eq_true rfl, Nat.le_of_ble_eq_true rfl⟩) ⟨pB_blind, va_recv hK hPc (ci := 6) (q0 := 0) rfl mW_0, pB_at hPc hDc hK hN hE hS hFc⟩ rfl rfl hl.1 rfl (lv_room (Nat.le_of_ble_eq_true rfl)) dL_law_877 ⟨(by show cn + 25 + 0 ≤ 600128; omega), (by show sn + 16098 + 0 ≤ 7301098; omega)⟩) hS (fun q _ h => hFc q h) hFc (fun r_22 u t9 H1 locs ht hvm hw hB hz1 hk1 hS => ?_)
  obtain ⟨F_24, th_25, N_26, L_27, hJ_28, hN8, hN9, hT9, hP1, _, hD1⟩ := hB
  rw [ht] at hP1
  obtain ⟨hP, hD⟩ := jn1 (C := (mW tC mo ma F th N L)) hP hD hk1 hFc hP1 hD1
  generalize H1 = H at hP hS ⊢
  have hw_23 := hw
  have hJ_28 : MI F_24 N_26 L_27 := hJ_28
  have hN7 : N_26 ≤ N + 0 := hN9
  have hP : va_P D vwCl (mW tC mo ma F_24 th_25 N_26 L_27 ++ ((oa, wL tC 1 fo_10) :: pl_15)) H := hP
  have hD : va_D A (mW tC mo ma F_24 th_25 N_26 L_27 ++ ((oa, wL tC 1 fo_10) :: pl_15)) := hD
  have hlk := lnk_c hlk hT9.2
  have hlu := lnu_c hlu hT9.1
  refine W.widen (k := cn + 25) (n := sn + 16098) (by omega) (by omega) ?_
  refine lv_istore (lv' := [(6, .int r_22), (5, .int r_7), (4, .int (nI (5 * c0))), (3, .ref oa), (2, .ref mo), (1, .ref (ad 0)), (0, .ref b)]) hx hb dL_law_880 hl (by decide) rfl (fun ls hl => ?_)
  refine lv_goto (tgt := 885) hx hb dL_law_882 (by decide) ?_
  refine W.widen (k := cn + 25) (n := sn + 16098) (by omega) (by omega) ?_
  subst hAe
  exact KK F_24 th_25 N_26 L_27 t_11 ed_12 cb up rs_13 cp_14 pl_15 fo_10 H locs ls ⟨hJ_28, by omega, hO_16, by omega, hlk, hlu, hP, hD, hS⟩ (lv_sub hl [2, 3, 4, 5, 6] rfl)
