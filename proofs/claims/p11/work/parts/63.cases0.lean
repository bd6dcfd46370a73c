set_option maxHeartbeats 8000000 in
set_option maxRecDepth 100000 in
theorem lc_0 {p : Program} {l : Launch} {e : Env} {s : State} {m : MethodId} {below : List Frame} {meth : Method} {c : Code} {b Lx : Nat} {xs : Nat → Int32} (hlt : l.stackTraces = false) (C0 : lw_At p s m meth c b Lx xs) (hLx : Lx ≤ 320) (D : va_G) (tC : Nat → ClassId) (dz mo oa : Nat) (ma ad : Nat → Nat) (hK : va_K D vwCl (tY tC) s) (hN : eN s) (hE : eH dz (fun q : Nat => s.heap.size ≤ q) s s.heap) (c0 : Nat) (hc0 : 5 * c0 + 5 ≤ Lx) (cn sn : Nat) (hcn : cn ≤ 500000) (hsn : sn ≤ 7000000) (KK : ∀ (F : Nat → Nat → Int32) (th : Int32) (N L : Nat) (t : Nat → Nat × Nat) (ed : Nat) (cb up : Nat → Int32) (rs cp : Nat) (pl : va_W) (fo : Nat → Int64) (H : Heap) (locs : List Loc) (ls : Array Slot), LI D tC dz mo oa ma ad s (c0 + 1) F th N L t ed cb up rs cp pl fo H locs → lv_has ls 7 [(4, .int (nI (5 * c0))), (3, .ref oa), (2, .ref mo), (1, .ref (ad 0)), (0, .ref b)] → W p l e room_1 s m #[Value.ref b] below meth c H locs (cn + 25) (sn + 16098) (lw_Z below #[Value.ref b] s) (F0 m 885 ls [])) (F : Nat → Nat → Int32) (th : Int32) (N L : Nat) (t : Nat → Nat × Nat) (ed : Nat) (cb up : Nat → Int32) (rs cp : Nat) (pl : va_W) (fo : Nat → Int64) (H : Heap) (locs : List Loc) (ls : Array Slot) (hI : LI D tC dz mo oa ma ad s c0 F th N L t ed cb up rs cp pl fo H locs) (hl : lv_has ls 7 [(4, .int (nI (5 * c0))), (3, .ref oa), (2, .ref mo), (1, .ref (ad 0)), (0, .ref b)]) : W p l e room_1 s m #[Value.ref b] below meth c H locs cn sn (lw_Z below #[Value.ref b] s) (F0 m 132 ls []) := by
  obtain ⟨hx, hb, hr, hml, hown, hts0, hX, hbl, hlocks, hgv⟩ := C0
  have hts : ∀ w ∈ wsL_law, w.before #[Value.ref b] s = true := fun w h => hts0 w (wsL_law_in w h)
  have hown : s.vm.findClass RL = some m.cls := hown
  obtain ⟨hJ, hN9, hO, hrs9, hlk, hlu, hP, hD, hS⟩ := hI
  have hN5 := hJ.n9
  obtain ⟨A, hAe⟩ : ∃ A : Nat → Prop, A = fun q : Nat => s.heap.size ≤ q := ⟨_, rfl⟩
  rw [← hAe] at hE hD hS
  have hA : ∀ q : Nat, s.heap.size ≤ q → A q := fun q h => by rw [hAe]; exact h
  have hbA : ¬ A b := by rw [hAe]; exact Nat.not_le.mpr hbl
  refine lv_aload_n hx hb dL_law_132 rfl (lv_at hl 3 rfl) ?_
  refine lv_aload_n hx hb dL_law_133 rfl (lv_at hl 4 rfl) ?_
  refine lv_iload hx hb dL_law_134 (lv_at hl 0 rfl) ?_
  refine lv_iconst (v := 1) hx hb dL_law_136 (by decide) ?_
  refine lv_iadd hx hb dL_law_137 ?_
  refine lv_topi (fun z_1 ez_1 => ?_)
  have fz_1 : z_1 = (nI (5 * c0 + 1)) := ez_1.trans (show nI (5 * c0) + nI 1 = _ from nI_add _ _)
  subst fz_1
  refine va_sld hx hb hX hbl hbA hS (vp_in_nI (by omega) (by omega)) dL_law_138 ?_
  refine lv_topi (fun z_2 ez_2 => ?_)
  refine lv_aload_n hx hb dL_law_139 rfl (lv_at hl 4 rfl) ?_
  refine lv_iload hx hb dL_law_140 (lv_at hl 0 rfl) ?_
  refine lv_iconst (v := 2) hx hb dL_law_142 (by decide) ?_
  refine lv_iadd hx hb dL_law_143 ?_
  refine lv_topi (fun z_3 ez_3 => ?_)
  have fz_3 : z_3 = (nI (5 * c0 + 2)) := ez_3.trans (show nI (5 * c0) + nI 2 = _ from nI_add _ _)
  subst fz_3
  refine va_sld hx hb hX hbl hbA hS (vp_in_nI (by omega) (by omega)) dL_law_144 ?_
  refine lv_topi (fun z_4 ez_4 => ?_)
  refine lv_aload_n hx hb dL_law_145 rfl (lv_at hl 4 rfl) ?_
  refine lv_iload hx hb dL_law_146 (lv_at hl 0 rfl) ?_
  refine lv_iconst (v := 3) hx hb dL_law_148 (by decide) ?_
  refine lv_iadd hx hb dL_law_149 ?_
  refine lv_topi (fun z_5 ez_5 => ?_)
  have fz_5 : z_5 = (nI (5 * c0 + 3)) := ez_5.trans (show nI (5 * c0) + nI 3 = _ from nI_add _ _)
  subst fz_5
  refine va_sld hx hb hX hbl hbA hS (vp_in_nI (by omega) (by omega)) dL_law_150 ?_
  refine lv_topi (fun z_6 ez_6 => ?_)
  refine lv_if_eq (tgt := 158) hx hb dL_law_151 (by decide) (fun c_7 => ?_) (fun c_7 => ?_)
  · skip
    refine lv_iconst (v := 0) hx hb dL_law_158 (by decide) ?_
    refine lv_aload_n hx hb dL_law_159 rfl (lv_at hl 1 rfl) ?_
    have hPc := apP (X := (mW tC mo ma F th N L)) hP
    have hDc := apD (X := (mW tC mo ma F th N L)) hD
    have hFc := freeA hDc hS hA
    refine vx_calli (vx_runSX (As := [.ref (ad 0), .int z_2, .int z_4, .int 0, .ref oa]) (rest := []) ⟨hx, hb, hml, hown, hts⟩ (c_L_cable l hlt D tC dz H.size pl t ad ed cb up rs cp hO oa fo z_2 z_4 0 ) (vx_cwSW 5 hts gL_law_L_cable rfl rfl rfl (by decide +kernel) ⟨Nat.le_of_ble_eq_true rfl, Nat.le_of_ble_eq_true rfl⟩) ⟨pB_blind, pB_at hPc hDc hK hN hE hS hFc⟩ rfl rfl hl.1 rfl (lv_room (Nat.le_of_ble_eq_true rfl)) dL_law_160 ⟨(by show cn + 1 ≤ 600128; omega), (by show sn + 6 ≤ 7301098; omega)⟩) hS (fun q _ h => hFc q h) hFc (fun q _ h => hFc q h) (fun E ce q9 u t9 H1 locs ht hvm hpx hPE hz1 hk1 hS hce hcv hcl => False.elim hPE) (fun r_8 u t9 H1 locs ht hvm hw hB hz1 hk1 hS => ?_)
    obtain ⟨cb_9, up_10, fo_11⟩ := u
    obtain ⟨t_12, ed_13, rs_14, cp_15, pl_16, hrs_18, hO_17, hP1, _, hD1⟩ := hB
    rw [ht] at hP1
    obtain ⟨hP, hD⟩ := jn2 (X := (mW tC mo ma F th N L)) hP hD hk1 hFc hP1 hD1
    generalize H1 = H at hP hS ⊢
    have hw_19 := hw
    have hO_17 : Ok tC dz t_12 ad ed_13 cb_9 up_10 rs_14 cp_15 pl_16 := hO_17
    have hrs_18 : rs_14 ≤ rs + 0 := hrs_18
    have hP : va_P D vwCl (mW tC mo ma F th N L ++ ((oa, wL tC 1 fo_11) :: pl_16)) H := hP
    have hD : va_D A (mW tC mo ma F th N L ++ ((oa, wL tC 1 fo_11) :: pl_16)) := hD
    refine W.widen (k := cn + 25) (n := sn + 16098) (by omega) (by omega) ?_
    refine lv_istore (lv' := [(5, .int r_8), (4, .int (nI (5 * c0))), (3, .ref oa), (2, .ref mo), (1, .ref (ad 0)), (0, .ref b)]) hx hb dL_law_163 hl (by decide) rfl (fun ls hl => ?_)
    refine lv_aload_n hx hb dL_law_165 rfl (lv_at hl 3 rfl) ?_
    refine lv_aload_n hx hb dL_law_166 rfl (lv_at hl 5 rfl) ?_
    refine lv_iload hx hb dL_law_167 (lv_at hl 1 rfl) ?_
    refine lv_iconst (v := 1) hx hb dL_law_169 (by decide) ?_
    refine lv_iadd hx hb dL_law_170 ?_
    refine lv_topi (fun z_20 ez_20 => ?_)
    have fz_20 : z_20 = (nI (5 * c0 + 1)) := ez_20.trans (show nI (5 * c0) + nI 1 = _ from nI_add _ _)
    subst fz_20
    refine va_sld hx hb hX hbl hbA hS (vp_in_nI (by omega) (by omega)) dL_law_171 ?_
    refine lv_eqi (v := z_2) ez_2.symm ?_
    refine lv_aload_n hx hb dL_law_172 rfl (lv_at hl 5 rfl) ?_
    refine lv_iload hx hb dL_law_173 (lv_at hl 1 rfl) ?_
    refine lv_iconst (v := 2) hx hb dL_law_175 (by decide) ?_
    refine lv_iadd hx hb dL_law_176 ?_
    refine lv_topi (fun z_21 ez_21 => ?_)
    have fz_21 : z_21 = (nI (5 * c0 + 2)) := ez_21.trans (show nI (5 * c0) + nI 2 = _ from nI_add _ _)
    subst fz_21
    refine va_sld hx hb hX hbl hbA hS (vp_in_nI (by omega) (by omega)) dL_law_177 ?_
    refine lv_eqi (v := z_4) ez_4.symm ?_
    refine lv_aload_n hx hb dL_law_178 rfl (lv_at hl 5 rfl) ?_
    refine lv_iload hx hb dL_law_179 (lv_at hl 1 rfl) ?_
    refine lv_iconst (v := 3) hx hb dL_law_181 (by decide) ?_
    refine lv_iadd hx hb dL_law_182 ?_
    refine lv_topi (fun z_22 ez_22 => ?_)
    have fz_22 : z_22 = (nI (5 * c0 + 3)) := ez_22.trans (show nI (5 * c0) + nI 3 = _ from nI_add _ _)
    subst fz_22
    refine va_sld hx hb hX hbl hbA hS (vp_in_nI (by omega) (by omega)) dL_law_183 ?_
    refine lv_eqi (v := z_6) ez_6.symm ?_
    refine lv_if_eq (tgt := 191) hx hb dL_law_184 (by decide) (fun _ => ?_) (fun hc => absurd (c_7) hc)
    refine lv_iconst (v := 0) hx hb dL_law_191 (by decide) ?_
    have hPc := apP1 (X := (mW tC mo ma F th N L)) hP
    have hDc := apD1 (X := (mW tC mo ma F th N L)) hD
    have hFc := freeA hDc hS hA
    refine va_calli (va_runV (As := [.int z_2, .int z_4, .int 0]) (rest := []) ⟨hx, hb, hml, hown, hts⟩ (c_X5_cable l hlt D tC dz H.size mo ma F th N L hJ z_2 z_4 0 ) (cwV 3 hts gL_law_X5_cable rfl rfl rfl (by decide +kernel) ⟨Nat.le_of_ble_eq_true rfl, Nat.le_of_ble_eq_true rfl⟩) ⟨pB_blind, va_recv hK hPc (ci := 6) (q0 := 0) rfl mW_0, pB_at hPc hDc hK hN hE hS hFc⟩ rfl rfl hl.1 rfl (lv_room (Nat.le_of_ble_eq_true rfl)) dL_law_192 ⟨(by show cn + 25 + 0 ≤ 600128; omega), (by show sn + 16098 + 0 ≤ 7301098; omega)⟩) hS (fun q _ h => hFc q h) hFc (fun r_23 u t9 H1 locs ht hvm hw hB hz1 hk1 hS => ?_)
    obtain ⟨F_25, th_26⟩ := u
    obtain ⟨N_27, hJ_29, hN8, hN9, hT9, hP1, _, hD1⟩ := hB
    rw [ht] at hP1
    obtain ⟨hP, hD⟩ := jn1 (C := (mW tC mo ma F th N L)) hP hD hk1 hFc hP1 hD1
    generalize H1 = H at hP hS ⊢
    have hw_24 := hw
    have hJ_29 : MI F_25 N_27 L := hJ_29
    have hN7 : N_27 ≤ N + 0 := hN9
    have hP : va_P D vwCl (mW tC mo ma F_25 th_26 N_27 L ++ ((oa, wL tC 1 fo_11) :: pl_16)) H := hP
    have hD : va_D A (mW tC mo ma F_25 th_26 N_27 L ++ ((oa, wL tC 1 fo_11) :: pl_16)) := hD
    have hBo : th_26 = r_8 ∧ (r_8 = 0 → fo_11 0 = if r_23 = 0 then 0 else 1) ∧ lnk cb_9 F_25 ∧ up_10 = up := cable_both (u2 := (cb_9, up_10, fo_11)) (w2 := (F_25, th_26)) (Or.inl rfl) hlk hw_19 hw_24
    have hlk := hBo.2.2.1
    have hq9 : up = up_10 := hBo.2.2.2.symm
    subst hq9
    have hP : va_P D vwCl (mW tC mo ma F_25 th_26 N_27 L ++ ((oa, wL tC 1 fo_11) :: pl_16)) H := by assumption
    have hD : va_D A (mW tC mo ma F_25 th_26 N_27 L ++ ((oa, wL tC 1 fo_11) :: pl_16)) := by assumption
    have hlu := lnu_c hlu (show F_25 12 = F 12 from hT9)
    refine W.widen (k := cn + 25) (n := sn + 16098) (by omega) (by omega) ?_
    refine lv_istore (lv' := [(6, .int r_23), (5, .int r_8), (4, .int (nI (5 * c0))), (3, .ref oa), (2, .ref mo), (1, .ref (ad 0)), (0, .ref b)]) hx hb dL_law_195 hl (by decide) rfl (fun ls hl => ?_)
    refine lv_goto (tgt := 885) hx hb dL_law_197 (by decide) ?_
    refine W.widen (k := cn + 25) (n := sn + 16098) (by omega) (by omega) ?_
    subst hAe
    exact KK F_25 th_26 N_27 L t_12 ed_13 cb_9 up rs_14 cp_15 pl_16 fo_11 H locs ls ⟨hJ_29, by omega, hO_17, by omega, hlk, hlu, hP, hD, hS⟩ (lv_sub hl [2, 3, 4, 5, 6] rfl)
  · skip
    refine lv_iconst (v := 1) hx hb dL_law_154 (by decide) ?_
    refine lv_goto (tgt := 159) hx hb dL_law_155 (by decide) ?_
    refine lv_aload_n hx hb dL_law_159 rfl (lv_at hl 1 rfl) ?_
    have hPc := apP (X := (mW tC mo ma F th N L)) hP
    have hDc := apD (X := (mW tC mo ma F th N L)) hD
    have hFc := freeA hDc hS hA
    refine vx_calli (vx_runSX (As := [.ref (ad 0), .int z_2, .int z_4, .int 1, .ref oa]) (rest := []) ⟨hx, hb, hml, hown, hts⟩ (c_L_cable l hlt D tC dz H.size pl t ad ed cb up rs cp hO oa fo z_2 z_4 1 ) (vx_cwSW 5 hts gL_law_L_cable rfl rfl rfl (by decide +kernel) ⟨Nat.le_of_ble_eq_true rfl, Nat.le_of_ble_eq_true rfl⟩) ⟨pB_blind, pB_at hPc hDc hK hN hE hS hFc⟩ rfl rfl hl.1 rfl (lv_room (Nat.le_of_ble_eq_true rfl)) dL_law_160 ⟨(by show cn + 1 ≤ 600128; omega), (by show sn + 6 ≤ 7301098; omega)⟩) hS (fun q _ h => hFc q h) hFc (fun q _ h => hFc q h) (fun E ce q9 u t9 H1 locs ht hvm hpx hPE hz1 hk1 hS hce hcv hcl => False.elim hPE) (fun r_30 u t9 H1 locs ht hvm hw hB hz1 hk1 hS => ?_)
    obtain ⟨cb_31, up_32, fo_33⟩ := u
    obtain ⟨t_34, ed_35, rs_36, cp_37, pl_38, hrs_40, hO_39, hP1, _, hD1⟩ := hB
    rw [ht] at hP1
    obtain ⟨hP, hD⟩ := jn2 (X := (mW tC mo ma F th N L)) hP hD hk1 hFc hP1 hD1
    generalize H1 = H at hP hS ⊢
    have hw_41 := hw
    have hO_39 : Ok tC dz t_34 ad ed_35 cb_31 up_32 rs_36 cp_37 pl_38 := hO_39
    have hrs_40 : rs_36 ≤ rs + 0 := hrs_40
    have hP : va_P D vwCl (mW tC mo ma F th N L ++ ((oa, wL tC 1 fo_33) :: pl_38)) H := hP
    have hD : va_D A (mW tC mo ma F th N L ++ ((oa, wL tC 1 fo_33) :: pl_38)) := hD
    refine W.widen (k := cn + 25) (n := sn + 16098) (by omega) (by omega) ?_
    refine lv_istore (lv' := [(5, .int r_30), (4, .int (nI (5 * c0))), (3, .ref oa), (2, .ref mo), (1, .ref (ad 0)), (0, .ref b)]) hx hb dL_law_163 hl (by decide) rfl (fun ls hl => ?_)
    refine lv_aload_n hx hb dL_law_165 rfl (lv_at hl 3 rfl) ?_
    refine lv_aload_n hx hb dL_law_166 rfl (lv_at hl 5 rfl) ?_
    refine lv_iload hx hb dL_law_167 (lv_at hl 1 rfl) ?_
    refine lv_iconst (v := 1) hx hb dL_law_169 (by decide) ?_
    refine lv_iadd hx hb dL_law_170 ?_
    refine lv_topi (fun z_42 ez_42 => ?_)
    have fz_42 : z_42 = (nI (5 * c0 + 1)) := ez_42.trans (show nI (5 * c0) + nI 1 = _ from nI_add _ _)
    subst fz_42
    refine va_sld hx hb hX hbl hbA hS (vp_in_nI (by omega) (by omega)) dL_law_171 ?_
    refine lv_eqi (v := z_2) ez_2.symm ?_
    refine lv_aload_n hx hb dL_law_172 rfl (lv_at hl 5 rfl) ?_
    refine lv_iload hx hb dL_law_173 (lv_at hl 1 rfl) ?_
    refine lv_iconst (v := 2) hx hb dL_law_175 (by decide) ?_
    refine lv_iadd hx hb dL_law_176 ?_
    refine lv_topi (fun z_43 ez_43 => ?_)
    have fz_43 : z_43 = (nI (5 * c0 + 2)) := ez_43.trans (show nI (5 * c0) + nI 2 = _ from nI_add _ _)
    subst fz_43
    refine va_sld hx hb hX hbl hbA hS (vp_in_nI (by omega) (by omega)) dL_law_177 ?_
    refine lv_eqi (v := z_4) ez_4.symm ?_
    refine lv_aload_n hx hb dL_law_178 rfl (lv_at hl 5 rfl) ?_
    refine lv_iload hx hb dL_law_179 (lv_at hl 1 rfl) ?_
    refine lv_iconst (v := 3) hx hb dL_law_181 (by decide) ?_
    refine lv_iadd hx hb dL_law_182 ?_
    refine lv_topi (fun z_44 ez_44 => ?_)
    have fz_44 : z_44 = (nI (5 * c0 + 3)) := ez_44.trans (show nI (5 * c0) + nI 3 = _ from nI_add _ _)
    subst fz_44
    refine va_sld hx hb hX hbl hbA hS (vp_in_nI (by omega) (by omega)) dL_law_183 ?_
    refine lv_eqi (v := z_6) ez_6.symm ?_
    refine lv_if_eq (tgt := 191) hx hb dL_law_184 (by decide) (fun hc => absurd hc (c_7)) (fun _ => ?_)
    refine lv_iconst (v := 1) hx hb dL_law_187 (by decide) ?_
    refine lv_goto (tgt := 192) hx hb dL_law_188 (by decide) ?_
    have hPc := apP1 (X := (mW tC mo ma F th N L)) hP
    have hDc := apD1 (X := (mW tC mo ma F th N L)) hD
    have hFc := freeA hDc hS hA
    refine va_calli (va_runV (As := [.int z_2, .int z_4, .int 1]) (rest := []) ⟨hx, hb, hml, hown, hts⟩ (c_X5_cable l hlt D tC dz H.size mo ma F th N L hJ z_2 z_4 1 ) (cwV 3 hts gL_law_X5_cable rfl rfl rfl (by decide +kernel) ⟨Nat.le_of_ble_eq_true rfl, Nat.le_of_ble_eq_true rfl⟩) ⟨pB_blind, va_recv hK hPc (ci := 6) (q0 := 0) rfl mW_0, pB_at hPc hDc hK hN hE hS hFc⟩ rfl rfl hl.1 rfl (lv_room (Nat.le_of_ble_eq_true rfl)) dL_law_192 ⟨(by show cn + 25 + 0 ≤ 600128; omega), (by show sn + 16098 + 0 ≤ 7301098; omega)⟩) hS (fun q _ h => hFc q h) hFc (fun r_45 u t9 H1 locs ht hvm hw hB hz1 hk1 hS => ?_)
    obtain ⟨F_47, th_48⟩ := u
    obtain ⟨N_49, hJ_51, hN8, hN9, hT9, hP1, _, hD1⟩ := hB
    rw [ht] at hP1
    obtain ⟨hP, hD⟩ := jn1 (C := (mW tC mo ma F th N L)) hP hD hk1 hFc hP1 hD1
    generalize H1 = H at hP hS ⊢
    have hw_46 := hw
    have hJ_51 : MI F_47 N_49 L := hJ_51
    have hN7 : N_49 ≤ N + 0 := hN9
    have hP : va_P D vwCl (mW tC mo ma F_47 th_48 N_49 L ++ ((oa, wL tC 1 fo_33) :: pl_38)) H := hP
    have hD : va_D A (mW tC mo ma F_47 th_48 N_49 L ++ ((oa, wL tC 1 fo_33) :: pl_38)) := hD
    have hBo : th_48 = r_30 ∧ (r_30 = 0 → fo_33 0 = if r_45 = 0 then 0 else 1) ∧ lnk cb_31 F_47 ∧ up_32 = up := cable_both (u2 := (cb_31, up_32, fo_33)) (w2 := (F_47, th_48)) (Or.inr rfl) hlk hw_41 hw_46
    have hlk := hBo.2.2.1
    have hq9 : up = up_32 := hBo.2.2.2.symm
    subst hq9
    have hP : va_P D vwCl (mW tC mo ma F_47 th_48 N_49 L ++ ((oa, wL tC 1 fo_33) :: pl_38)) H := by assumption
    have hD : va_D A (mW tC mo ma F_47 th_48 N_49 L ++ ((oa, wL tC 1 fo_33) :: pl_38)) := by assumption
    have hlu := lnu_c hlu (show F_47 12 = F 12 from hT9)
    refine W.widen (k := cn + 25) (n := sn + 16098) (by omega) (by omega) ?_
    refine lv_istore (lv' := [(6, .int r_45), (5, .int r_30), (4, .int (nI (5 * c0))), (3, .ref oa), (2, .ref mo), (1, .ref (ad 0)), (0, .ref b)]) hx hb dL_law_195 hl (by decide) rfl (fun ls hl => ?_)
    refine lv_goto (tgt := 885) hx hb dL_law_197 (by decide) ?_
    refine W.widen (k := cn + 25) (n := sn + 16098) (by omega) (by omega) ?_
    subst hAe
    exact KK F_47 th_48 N_49 L t_34 ed_35 cb_31 up rs_36 cp_37 pl_38 fo_33 H locs ls ⟨hJ_51, by omega, hO_39, by omega, hlk, hlu, hP, hD, hS⟩ (lv_sub hl [2, 3, 4, 5, 6] rfl)
