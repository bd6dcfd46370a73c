set_option maxHeartbeats 8000000 in
set_option maxRecDepth 100000 in
theorem lc_0 {p : Program} {l : Launch} {e : Env} {s : State} {m : MethodId} {below : List Frame} {meth : Method} {c : Code} {b Lx : Nat} {xs : Nat → Int32} (hlt : l.stackTraces = false) (C0 : lw_At p s m meth c b Lx xs) (hLx : Lx ≤ 320) (D : va_G) (tC : Nat → ClassId) (dz mo oa : Nat) (ma ad : Nat → Nat) (hK : va_K D vwCl (tY tC) s) (hN : eN s) (hE : eH dz (fun q : Nat => s.heap.size ≤ q) s s.heap) (c0 : Nat) (hc0 : 5 * c0 + 5 ≤ Lx) (cn sn : Nat) (hcn : cn ≤ 500000) (hsn : sn ≤ 7000000) (KK : ∀ (F : Nat → Nat → Int32) (th : Int32) (N L : Nat) (t : Nat → Nat × Nat) (ed : Nat) (cb up : Nat → Int32) (rs cp : Nat) (pl : va_W) (fo : Nat → Int64) (H : Heap) (locs : List Loc) (ls : Array Slot), LI D tC dz mo oa ma ad s (c0 + 1) F th N L t ed cb up rs cp pl fo H locs → lv_has ls 7 [(4, .int (nI (5 * c0))), (3, .ref oa), (2, .ref mo), (1, .ref (ad 0)), (0, .ref b)] → W p l e room_1 s m #[Value.ref b] below meth c H locs (cn + 25) (sn + 16098) (lw_Z below #[Value.ref b] s) (F0 m 885 ls [])) (F : Nat → Nat → Int32) (th : Int32) (N L : Nat) (t : Nat → Nat × Nat) (ed : Nat) (cb up : Nat → Int32) (rs cp : Nat) (pl : va_W) (fo : Nat → Int64) (H : Heap) (locs : List Loc) (ls : Array Slot) (hI : LI D tC dz mo oa ma ad s c0 F th N L t ed cb up rs cp pl fo H locs) (hl : lv_has ls 7 [(4, .int (nI (5 * c0))), (3, .ref oa), (2, .ref mo), (1, .ref (ad 0)), (0, .ref b)]) : W p l e room_1 s m #[Value.ref b] below meth c H locs cn sn (lw_Z below #[Value.ref b] s) (F0 m 132 ls []) := by
  obtain ⟨hx, hb, hr, hml, hown, hts0, hX, hbl, hlocks, hgv⟩ := C0
  have hts : ∀ w ∈ wsL_law, w.before #[Value.ref b] s = true := fun w h => hts0 w (wsL_law_in w h)
  have hown : s.vm.findClass RL = some m.cls := hown
  obtain ⟨hJ, hN9, hO, hrs9, hlk, hlu, hP, hD, hS⟩ := hI
  have hN5 := hJ.n9
  obtain ⟨A, hAe⟩ : ∃ A : Nat → Prop, A = fun q : Nat => s.heap.size ≤ q := ⟨_, rfl⟩
  rw [← hAe] at hE hD hS
  have hA : ∀ q : Nat, s.heap.size ≤ q → A q := fun q h => by rw [hAe]; exact h
  have hbA : ¬ A b := by rw [hAe]; exact Nat.not_le.mpr hbl
  refine lv_aload_n hx hb dL_law_132 rfl (lv_at hl 3 rfl) ?_
  refine lv_aload_n hx hb dL_law_133 rfl (lv_at hl 4 rfl) ?_
  refine lv_iload hx hb dL_law_134 (lv_at hl 0 rfl) ?_
  refine lv_iconst (v := 1) hx hb dL_law_136 (by decide) ?_
  refine lv_iadd hx hb dL_law_137 ?_
  refine lv_topi (fun z_1 ez_1 => ?_)
  have fz_1 : z_1 = (nI (5 * c0 + 1)) := ez_1.trans (show nI (5 * c0) + nI 1 = _ from nI_add _ _)
  subst fz_1
  refine va_sld hx hb hX hbl hbA hS (vp_in_nI (by omega) (by omega)) dL_law_138 ?_
  refine lv_topi (fun z_2 ez_2 => ?_)
  refine lv_aload_n hx hb dL_law_139 rfl (lv_at hl 4 rfl) ?_
  refine lv_iload hx hb dL_law_140 (lv_at hl 0 rfl) ?_
  refine lv_iconst (v := 2) hx hb dL_law_142 (by decide) ?_
  refine lv_iadd hx hb dL_law_143 ?_
  refine lv_topi (fun z_3 ez_3 => ?_)
  have fz_3 : z_3 = (nI (5 * c0 + 2)) := ez_3.trans (show nI (5 * c0) + nI 2 = _ from nI_add _ _)
  subst fz_3
  refine va_sld hx hb hX hbl hbA hS (vp_in_nI (by omega) (by omega)) dL_law_144 ?_
  refine lv_topi (fun z_4 ez_4 => ?_)
  refine lv_aload_n hx hb dL_law_145 rfl (lv_at hl 4 rfl) ?_
  refine lv_iload hx hb dL_law_146 (lv_at hl 0 rfl) ?_
  refine lv_iconst (v := 3) hx hb dL_law_148 (by decide) ?_
  refine lv_iadd hx hb dL_law_149 ?_
  refine lv_topi (fun z_5 ez_5 => ?_)
  have fz_5 : z_5 = (nI (5 * c0 + 3)) := ez_5.trans (show nI (5 * c0) + nI 3 = _ from nI_add _ _)
  subst fz_5
  refine va_sld hx hb hX hbl hbA hS (vp_in_nI (by omega) (by omega)) dL_law_150 ?_
  refine lv_topi (fun z_6 ez_6 => ?_)
  refine lv_if_eq (tgt := 158) hx hb dL_law_151 (by decide) (fun c_7 => ?_) (fun c_7 => ?_)
  · skip
    refine lv_iconst (v := 0) hx hb dL_law_158 (by decide) ?_
    refine lv_aload_n hx hb dL_law_159 rfl (lv_at hl 1 rfl) ?_
    have hPc := apP (X := (mW tC mo ma F th N L)) hP
    have hDc := apD (X := (mW tC mo ma F th N L)) hD
    have hFc := freeA hDc hS hA
    refine vx_calli (vx_runSX (As := [.ref (ad 0), .int z_2, .int z_4, .int 0, .ref oa]) (rest := []) ⟨hx, hb, hml, hown, hts⟩ (c_L_cable l hlt D tC dz H.size pl t ad ed cb up rs cp hO oa fo z_2 z_4 0 ) (vx_cwSW 5 hts gL_law_L_cable rfl rfl rfl (by decide +kernel) ⟨Nat.le_of_ble_eq_true rfl, Nat.le_of_ble_eq_true rfl⟩) ⟨pB_blind, pB_at hPc hDc hK hN hE hS hFc⟩ rfl rfl hl.1 rfl (lv_room (Nat.le_of_ble_eq_true rfl)) dL_law_160 ⟨(by show cn + 1 ≤ 600128; omega), (by show sn + 6 ≤ 7301098; omega)⟩) hS (fun q _ h => hFc q h) hFc (fun q _ h => hFc q h) (fun E ce q9 u t9 H1 locs ht hvm hpx hPE hz1 hk1 hS hce hcv hcl => False.elim hPE) (fun r_8 u t9 H1 locs ht hvm hw hB hz1 hk1 hS => ?_)
    obtain ⟨cb_9, up_10, fo_11⟩ := u
    obtain ⟨t_12, ed_13, rs_14, cp_15, pl_16, hrs_18, hO_17, hP1, _, hD1⟩ := hB
    rw [ht] at hP1
    obtain ⟨hP, hD⟩ := jn2 (X := (mW tC mo ma F th N L)) hP hD hk1 hFc hP1 hD1
    generalize H1 = H at hP hS ⊢
    have hw_19 := hw
    have hO_17 : Ok tC dz t_12 ad ed_13 cb_9 up_10 rs_14 cp_15 pl_16 := hO_17
    have hrs_18 : rs_14 ≤ rs + 0 := hrs_18
    have hP : va_P D vwCl (mW tC mo ma F th N L ++ ((oa, wL tC 1 fo_11) :: pl_16)) H := hP
    have hD : va_D A (mW tC mo ma F th N L ++ ((oa, wL tC 1 fo_11) :: pl_16)) := hD
    refine W.widen (k := cn + 25) (n := sn + 16098) (by omega) (by omega) ?_
    refine lv_istore (lv' := [(5, .int r_8), (4, .int (nI (5 * c0))), (3, .ref oa), (2, .ref mo), (1, .ref (ad 0)), (0, .ref b)]) hx hb dL_law_163 hl (by decide) rfl (fun ls hl => ?_)
    refine lv_aload_n hx hb dL_law_165 rfl (lv_at hl 3 rfl) ?_
    refine lv_aload_n hx hb dL_law_166 rfl (lv_at hl 5 rfl) ?_
    refine lv_iload hx hb dL_law_167 (lv_at hl 1 rfl) ?_
    refine lv_iconst (v := 1) hx hb dL_law_169 (by decide) ?_
    refine lv_iadd hx hb dL_law_170 ?_
    refine lv_topi (fun z_20 ez_20 => ?_)
    have fz_20 : z_20 = (nI (5 * c0 + 1)) := ez_20.trans (show nI (5 * c0) + nI 1 = _ from nI_add _ _)
    subst fz_20
    refine va_sld hx hb hX hbl hbA hS (vp_in_nI (by omega) (by omega)) dL_law_171 ?_
    refine lv_eqi (v := z_2) ez_2.symm ?_
    refine lv_aload_n hx hb dL_law_172 rfl (lv_at hl 5 rfl) ?_
    refine lv_iload hx hb dL_law_173 (lv_at hl 1 rfl) ?_
    refine lv_iconst (v := 2) hx hb dL_law_175 (by decide) ?_
    refine lv_iadd hx hb dL_law_176 ?_
    refine lv_topi (fun z_21 ez_21 => ?_)
    have fz_21 : z_21 = (nI (5 * c0 + 2)) := ez_21.trans (show nI (5 * c0) + nI 2 = _ from nI_add _ _)
    subst fz_21
    refine va_sld hx hb hX hbl hbA hS (vp_in_nI (by omega) (by omega)) dL_law_177 ?_
    refine lv_eqi (v := z_4) ez_4.symm ?_
    refine lv_aload_n hx hb dL_law_178 rfl (lv_at hl 5 rfl) ?_
    refine lv_iload hx hb dL_law_179 (lv_at hl 1 rfl) ?_
    refine lv_iconst (v := 3) hx hb dL_law_181 (by decide) ?_
    refine lv_iadd hx hb dL_law_182 ?_
    refine lv_topi (fun z_22 ez_22 => ?_)
    have fz_22 : z_22 = (nI (5 * c0 + 3)) := ez_22.trans (show nI (5 * c0) + nI 3 = _ from nI_add _ _)
    subst fz_22
    refine va_sld hx hb hX hbl hbA hS (vp_in_nI (by omega) (by omega)) dL_law_183 ?_
    refine lv_eqi (v := z_6) ez_6.symm ?_
    refine lv_if_eq (tgt := 191) hx hb dL_law_184 (by decide) (fun _ => ?_) (fun hc => absurd (c_7) hc)
    refine lv_iconst (v := 0) hx hb dL_law_191 (by decide) ?_
    have hPc := apP1 (X := (mW tC mo ma F th N L)) hP
    have hDc := apD1 (X := (mW tC mo ma F th N L)) hD
    have hFc := freeA hDc hS hA
    refine va_calli (va_runV (As := [.int z_2, .int z_4, .int 0]) (rest := []) ⟨hx, hb, hml, hown, hts⟩ (c_X5_cable l hlt D tC dz H.size mo ma F th N L hJ z_2 z_4 0 ) (cwV 3 hts gL_law_X5_cable rfl rfl rfl (by decide +kernel) ⟨Nat.le_of_ble_eq_true rfl, Nat.le_of_ble_eq_true rfl⟩) ⟨pB_blind, va_recv hK hPc (ci := 6) (q0 := 0) rfl mW_0, pB_at hPc hDc hK hN hE hS hFc⟩ rfl rfl hl.1 rfl (lv_room (Nat.le_of_ble_eq_true rfl)) dL_law_192 ⟨(by show cn + 25 + 0 ≤ 600128; omega), (by show sn + 16098 + 0 ≤ 7301098; omega)⟩) hS (fun q _ h => hFc q h) hFc (fun r_23 u t9 H1 locs ht hvm hw hB hz1 hk1 hS => ?_)
    obtain ⟨F_25, th_26⟩ := u
    obtain ⟨N_27, hJ_29, hN8, hN9, hT9, hP1, _, hD1⟩ := hB
    rw [ht] at hP1
    obtain ⟨hP, hD⟩ := jn1 (C := (mW tC mo ma F th N L)) hP hD hk1 hFc hP1 hD1
    generalize H1 = H at hP hS ⊢
    have hw_24 := hw
    have hJ_29 : MI F_25 N_27 L := hJ_29
    have hN7 : N_27 ≤ N + 0 := hN9
    have hP : va_P D vwCl (mW tC mo ma F_25 th_26 N_27 L ++ ((oa, wL tC 1 fo_11) :: pl_16)) H := hP
    have hD : va_D A (mW tC mo ma F_25 th_26 N_27 L ++ ((oa, wL tC 1 fo_11) :: pl_16)) := hD
    have hBo : th_26 = r_8 ∧ (r_8 = 0 → fo_11 0 = if r_23 = 0 then 0 else 1) ∧ lnk cb_9 F_25 ∧ up_10 = up := cable_both (u2 := (cb_9, up_10, fo_11)) (w2 := (F_25, th_26)) (Or.inl rfl) hlk hw_19 hw_24
    have hlk := hBo.2.2.1
    have hq9 : up = up_10 := hBo.2.2.2.symm
    subst hq9
    have hP : va_P D vwCl (mW tC mo ma F_25 th_26 N_27 L ++ ((oa, wL tC 1 fo_11) :: pl_16)) H := by assumption
    have hD : va_D A (mW tC mo ma F_25 th_26 N_27 L ++ ((oa, wL tC 1 fo_11) :: pl_16)) := by assumption
    have hlu := lnu_c hlu (show F_25 12 = F 12 from hT9)
    refine W.widen (k := cn + 25) (n := sn + 16098) (by omega) (by omega) ?_
    refine lv_istore (lv' := [(6, .int r_23), (5, .int r_8), (4, .int (nI (5 * c0))), (3, .ref oa), (2, .ref mo), (1, .ref (ad 0)), (0, .ref b)]) hx hb dL_law_195 hl (by decide) rfl (fun ls hl => ?_)
    refine lv_aload_n hx hb dL_law_197 rfl (lv_at hl 4 rfl) ?_
    have hPc := apP1 (X := (mW tC mo ma F_25 th_26 N_27 L)) hP
    have hDc := apD1 (X := (mW tC mo ma F_25 th_26 N_27 L)) hD
    have hFc := freeA hDc hS hA
    refine va_calli (va_runV (As := []) (rest := []) ⟨hx, hb, hml, hown, hts⟩ (c_X5_thrown l hlt D tC dz H.size mo ma F_25 th_26 N_27 L hJ_29  ) (cwV 0 hts gL_law_X5_thrown rfl rfl rfl (by decide +kernel) ⟨Nat.le_of_ble_eq_true rfl, Nat.le_of_ble_eq_true rfl⟩) ⟨pB_blind, va_recv hK hPc (ci := 6) (q0 := 0) rfl mW_0, pB_at hPc hDc hK hN hE hS hFc⟩ rfl rfl hl.1 rfl (lv_room (Nat.le_of_ble_eq_true rfl)) dL_law_198 ⟨(by show cn + 25 + 0 ≤ 600128; omega), (by show sn + 16098 + 0 ≤ 7301098; omega)⟩) hS oldN (freeN hS hA) (fun r_30 u t9 H1 locs ht hvm hw hB hz1 hk1 hS => ?_)
    have hw_31 := hw
    have hP := keepP hP hk1
    generalize H1 = H at hP hS ⊢
    refine W.widen (k := cn + 25) (n := sn + 16098) (by omega) (by omega) ?_
    refine lv_iload hx hb dL_law_201 (lv_at hl 1 rfl) ?_
    refine lv_icmp_eq (tgt := 208) hx hb dL_law_203 (by decide) (fun _ => ?_) (fun hc => absurd (hw_31.trans hBo.1) hc)
    refine lv_iload hx hb dL_law_208 (lv_at hl 1 rfl) ?_
    refine lv_if_ne (tgt := 232) hx hb dL_law_210 (by decide) (fun c_32 => ?_) (fun c_32 => ?_)
    · skip
      refine lv_goto (tgt := 885) hx hb dL_law_232 (by decide) ?_
      refine W.widen (k := cn + 25) (n := sn + 16098) (by omega) (by omega) ?_
      subst hAe
      exact KK F_25 th_26 N_27 L t_12 ed_13 cb_9 up rs_14 cp_15 pl_16 fo_11 H locs ls ⟨hJ_29, by omega, hO_17, by omega, hlk, hlu, hP, hD, hS⟩ (lv_sub hl [2, 3, 4, 5, 6] rfl)
    · skip
      refine lv_aload_n hx hb dL_law_213 rfl (lv_at hl 3 rfl) ?_
      refine lv_iconst (v := 0) hx hb dL_law_214 (by decide) ?_
      refine va_lald hx hb hK hP 27 5 rfl rfl (by unfold vp_in; decide) dL_law_215 ?_
      rw [show (0 : Int32).toNatClampNeg = 0 by decide]
      refine lv_iload hx hb dL_law_216 (lv_at hl 0 rfl) ?_
      refine lv_if_eq (tgt := 225) hx hb dL_law_218 (by decide) (fun c_33 => ?_) (fun c_33 => ?_)
      · skip
        refine lv_lconst (v := 0) hx hb dL_law_225 (by decide) ?_
        refine W.lcmp hx hb dL_law_226 ?_
        refine lv_topi (fun z_34 ez_34 => ?_)
        have fz_34 : z_34 = 0 := ez_34.trans (lgc ((hBo.2.1 c_32).trans (if_pos c_33)))
        subst fz_34
        refine lv_if_eq (tgt := 232) hx hb dL_law_227 (by decide) (fun _ => ?_) (fun hc => absurd (by decide) hc)
        refine lv_goto (tgt := 885) hx hb dL_law_232 (by decide) ?_
        refine W.widen (k := cn + 25) (n := sn + 16098) (by omega) (by omega) ?_
        subst hAe
        exact KK F_25 th_26 N_27 L t_12 ed_13 cb_9 up rs_14 cp_15 pl_16 fo_11 H locs ls ⟨hJ_29, by omega, hO_17, by omega, hlk, hlu, hP, hD, hS⟩ (lv_sub hl [2, 3, 4, 5, 6] rfl)
      · skip
        refine lv_lconst (v := 1) hx hb dL_law_221 (by decide) ?_
        refine lv_goto (tgt := 226) hx hb dL_law_222 (by decide) ?_
        refine W.lcmp hx hb dL_law_226 ?_
        refine lv_topi (fun z_35 ez_35 => ?_)
        have fz_35 : z_35 = 0 := ez_35.trans (lgc ((hBo.2.1 c_32).trans (if_neg c_33)))
        subst fz_35
        refine lv_if_eq (tgt := 232) hx hb dL_law_227 (by decide) (fun _ => ?_) (fun hc => absurd (by decide) hc)
        refine lv_goto (tgt := 885) hx hb dL_law_232 (by decide) ?_
        refine W.widen (k := cn + 25) (n := sn + 16098) (by omega) (by omega) ?_
        subst hAe
        exact KK F_25 th_26 N_27 L t_12 ed_13 cb_9 up rs_14 cp_15 pl_16 fo_11 H locs ls ⟨hJ_29, by omega, hO_17, by omega, hlk, hlu, hP, hD, hS⟩ (lv_sub hl [2, 3, 4, 5, 6] rfl)
  · skip
    refine lv_iconst (v := 1) hx hb dL_law_154 (by decide) ?_
    refine lv_goto (tgt := 159) hx hb dL_law_155 (by decide) ?_
    refine lv_aload_n hx hb dL_law_159 rfl (lv_at hl 1 rfl) ?_
    have hPc := apP (X := (mW tC mo ma F th N L)) hP
    have hDc := apD (X := (mW tC mo ma F th N L)) hD
    have hFc := freeA hDc hS hA
    refine vx_calli (vx_runSX (As := [.ref (ad 0), .int z_2, .int z_4, .int 1, .ref oa]) (rest := []) ⟨hx, hb, hml, hown, hts⟩ (c_L_cable l hlt D tC dz H.size pl t ad ed cb up rs cp hO oa fo z_2 z_4 1 ) (vx_cwSW 5 hts gL_law_L_cable rfl rfl rfl (by decide +kernel) ⟨Nat.le_of_ble_eq_true rfl, Nat.le_of_ble_eq_true rfl⟩) ⟨pB_blind, pB_at hPc hDc hK hN hE hS hFc⟩ rfl rfl hl.1 rfl (lv_room (Nat.le_of_ble_eq_true rfl)) dL_law_160 ⟨(by show cn + 1 ≤ 600128; omega), (by show sn + 6 ≤ 7301098; omega)⟩) hS (fun q _ h => hFc q h) hFc (fun q _ h => hFc q h) (fun E ce q9 u t9 H1 locs ht hvm hpx hPE hz1 hk1 hS hce hcv hcl => False.elim hPE) (fun r_36 u t9 H1 locs ht hvm hw hB hz1 hk1 hS => ?_)
    obtain ⟨cb_37, up_38, fo_39⟩ := u
    obtain ⟨t_40, ed_41, rs_42, cp_43, pl_44, hrs_46, hO_45, hP1, _, hD1⟩ := hB
    rw [ht] at hP1
    obtain ⟨hP, hD⟩ := jn2 (X := (mW tC mo ma F th N L)) hP hD hk1 hFc hP1 hD1
    generalize H1 = H at hP hS ⊢
    have hw_47 := hw
    have hO_45 : Ok tC dz t_40 ad ed_41 cb_37 up_38 rs_42 cp_43 pl_44 := hO_45
    have hrs_46 : rs_42 ≤ rs + 0 := hrs_46
    have hP : va_P D vwCl (mW tC mo ma F th N L ++ ((oa, wL tC 1 fo_39) :: pl_44)) H := hP
    have hD : va_D A (mW tC mo ma F th N L ++ ((oa, wL tC 1 fo_39) :: pl_44)) := hD
    refine W.widen (k := cn + 25) (n := sn + 16098) (by omega) (by omega) ?_
    refine lv_istore (lv' := [(5, .int r_36), (4, .int (nI (5 * c0))), (3, .ref oa), (2, .ref mo), (1, .ref (ad 0)), (0, .ref b)]) hx hb dL_law_163 hl (by decide) rfl (fun ls hl => ?_)
    refine lv_aload_n hx hb dL_law_165 rfl (lv_at hl 3 rfl) ?_
    refine lv_aload_n hx hb dL_law_166 rfl (lv_at hl 5 rfl) ?_
    refine lv_iload hx hb dL_law_167 (lv_at hl 1 rfl) ?_
    refine lv_iconst (v := 1) hx hb dL_law_169 (by decide) ?_
    refine lv_iadd hx hb dL_law_170 ?_
    refine lv_topi (fun z_48 ez_48 => ?_)
    have fz_48 : z_48 = (nI (5 * c0 + 1)) := ez_48.trans (show nI (5 * c0) + nI 1 = _ from nI_add _ _)
    subst fz_48
    refine va_sld hx hb hX hbl hbA hS (vp_in_nI (by omega) (by omega)) dL_law_171 ?_
    refine lv_eqi (v := z_2) ez_2.symm ?_
    refine lv_aload_n hx hb dL_law_172 rfl (lv_at hl 5 rfl) ?_
    refine lv_iload hx hb dL_law_173 (lv_at hl 1 rfl) ?_
    refine lv_iconst (v := 2) hx hb dL_law_175 (by decide) ?_
    refine lv_iadd hx hb dL_law_176 ?_
    refine lv_topi (fun z_49 ez_49 => ?_)
    have fz_49 : z_49 = (nI (5 * c0 + 2)) := ez_49.trans (show nI (5 * c0) + nI 2 = _ from nI_add _ _)
    subst fz_49
    refine va_sld hx hb hX hbl hbA hS (vp_in_nI (by omega) (by omega)) dL_law_177 ?_
    refine lv_eqi (v := z_4) ez_4.symm ?_
    refine lv_aload_n hx hb dL_law_178 rfl (lv_at hl 5 rfl) ?_
    refine lv_iload hx hb dL_law_179 (lv_at hl 1 rfl) ?_
    refine lv_iconst (v := 3) hx hb dL_law_181 (by decide) ?_
    refine lv_iadd hx hb dL_law_182 ?_
    refine lv_topi (fun z_50 ez_50 => ?_)
    have fz_50 : z_50 = (nI (5 * c0 + 3)) := ez_50.trans (show nI (5 * c0) + nI 3 = _ from nI_add _ _)
    subst fz_50
    refine va_sld hx hb hX hbl hbA hS (vp_in_nI (by omega) (by omega)) dL_law_183 ?_
    refine lv_eqi (v := z_6) ez_6.symm ?_
    refine lv_if_eq (tgt := 191) hx hb dL_law_184 (by decide) (fun hc => absurd hc (c_7)) (fun _ => ?_)
    refine lv_iconst (v := 1) hx hb dL_law_187 (by decide) ?_
    refine lv_goto (tgt := 192) hx hb dL_law_188 (by decide) ?_
    have hPc := apP1 (X := (mW tC mo ma F th N L)) hP
    have hDc := apD1 (X := (mW tC mo ma F th N L)) hD
    have hFc := freeA hDc hS hA
    refine va_calli (va_runV (As := [.int z_2, .int z_4, .int 1]) (rest := []) ⟨hx, hb, hml, hown, hts⟩ (c_X5_cable l hlt D tC dz H.size mo ma F th N L hJ z_2 z_4 1 ) (cwV 3 hts gL_law_X5_cable rfl rfl rfl (by decide +kernel) ⟨Nat.le_of_ble_eq_true rfl, Nat.le_of_ble_eq_true rfl⟩) ⟨pB_blind, va_recv hK hPc (ci := 6) (q0 := 0) rfl mW_0, pB_at hPc hDc hK hN hE hS hFc⟩ rfl rfl hl.1 rfl (lv_room (Nat.le_of_ble_eq_true rfl)) dL_law_192 ⟨(by show cn + 25 + 0 ≤ 600128; omega), (by show sn + 16098 + 0 ≤ 7301098; omega)⟩) hS (fun q _ h => hFc q h) hFc (fun r_51 u t9 H1 locs ht hvm hw hB hz1 hk1 hS => ?_)
    obtain ⟨F_53, th_54⟩ := u
    obtain ⟨N_55, hJ_57, hN8, hN9, hT9, hP1, _, hD1⟩ := hB
    rw [ht] at hP1
    obtain ⟨hP, hD⟩ := jn1 (C := (mW tC mo ma F th N L)) hP hD hk1 hFc hP1 hD1
    generalize H1 = H at hP hS ⊢
    have hw_52 := hw
    have hJ_57 : MI F_53 N_55 L := hJ_57
    have hN7 : N_55 ≤ N + 0 := hN9
    have hP : va_P D vwCl (mW tC mo ma F_53 th_54 N_55 L ++ ((oa, wL tC 1 fo_39) :: pl_44)) H := hP
    have hD : va_D A (mW tC mo ma F_53 th_54 N_55 L ++ ((oa, wL tC 1 fo_39) :: pl_44)) := hD
    have hBo : th_54 = r_36 ∧ (r_36 = 0 → fo_39 0 = if r_51 = 0 then 0 else 1) ∧ lnk cb_37 F_53 ∧ up_38 = up := cable_both (u2 := (cb_37, up_38, fo_39)) (w2 := (F_53, th_54)) (Or.inr rfl) hlk hw_47 hw_52
    have hlk := hBo.2.2.1
    have hq9 : up = up_38 := hBo.2.2.2.symm
    subst hq9
    have hP : va_P D vwCl (mW tC mo ma F_53 th_54 N_55 L ++ ((oa, wL tC 1 fo_39) :: pl_44)) H := by assumption
    have hD : va_D A (mW tC mo ma F_53 th_54 N_55 L ++ ((oa, wL tC 1 fo_39) :: pl_44)) := by assumption
    have hlu := lnu_c hlu (show F_53 12 = F 12 from hT9)
    refine W.widen (k := cn + 25) (n := sn + 16098) (by omega) (by omega) ?_
    refine lv_istore (lv' := [(6, .int r_51), (5, .int r_36), (4, .int (nI (5 * c0))), (3, .ref oa), (2, .ref mo), (1, .ref (ad 0)), (0, .ref b)]) hx hb dL_law_195 hl (by decide) rfl (fun ls hl => ?_)
    refine lv_aload_n hx hb dL_law_197 rfl (lv_at hl 4 rfl) ?_
    have hPc := apP1 (X := (mW tC mo ma F_53 th_54 N_55 L)) hP
    have hDc := apD1 (X := (mW tC mo ma F_53 th_54 N_55 L)) hD
    have hFc := freeA hDc hS hA
    refine va_calli (va_runV (As := []) (rest := []) ⟨hx, hb, hml, hown, hts⟩ (c_X5_thrown l hlt D tC dz H.size mo ma F_53 th_54 N_55 L hJ_57  ) (cwV 0 hts gL_law_X5_thrown rfl rfl rfl (by decide +kernel) ⟨Nat.le_of_ble_eq_true rfl, Nat.le_of_ble_eq_true rfl⟩) ⟨pB_blind, va_recv hK hPc (ci := 6) (q0 := 0) rfl mW_0, pB_at hPc hDc hK hN hE hS hFc⟩ rfl rfl hl.1 rfl (lv_room (Nat.le_of_ble_eq_true rfl)) dL_law_198 ⟨(by show cn + 25 + 0 ≤ 600128; omega), (by show sn + 16098 + 0 ≤ 7301098; omega)⟩) hS oldN (freeN hS hA) (fun r_58 u t9 H1 locs ht hvm hw hB hz1 hk1 hS => ?_)
    have hw_59 := hw
    have hP := keepP hP hk1
    generalize H1 = H at hP hS ⊢
    refine W.widen (k := cn + 25) (n := sn + 16098) (by omega) (by omega) ?_
    refine lv_iload hx hb dL_law_201 (lv_at hl 1 rfl) ?_
    refine lv_icmp_eq (tgt := 208) hx hb dL_law_203 (by decide) (fun _ => ?_) (fun hc => absurd (hw_59.trans hBo.1) hc)
    refine lv_iload hx hb dL_law_208 (lv_at hl 1 rfl) ?_
    refine lv_if_ne (tgt := 232) hx hb dL_law_210 (by decide) (fun c_60 => ?_) (fun c_60 => ?_)
    · skip
      refine lv_goto (tgt := 885) hx hb dL_law_232 (by decide) ?_
      refine W.widen (k := cn + 25) (n := sn + 16098) (by omega) (by omega) ?_
      subst hAe
      exact KK F_53 th_54 N_55 L t_40 ed_41 cb_37 up rs_42 cp_43 pl_44 fo_39 H locs ls ⟨hJ_57, by omega, hO_45, by omega, hlk, hlu, hP, hD, hS⟩ (lv_sub hl [2, 3, 4, 5, 6] rfl)
    · skip
      refine lv_aload_n hx hb dL_law_213 rfl (lv_at hl 3 rfl) ?_
      refine lv_iconst (v := 0) hx hb dL_law_214 (by decide) ?_
      refine va_lald hx hb hK hP 27 5 rfl rfl (by unfold vp_in; decide) dL_law_215 ?_
      rw [show (0 : Int32).toNatClampNeg = 0 by decide]
      refine lv_iload hx hb dL_law_216 (lv_at hl 0 rfl) ?_
      refine lv_if_eq (tgt := 225) hx hb dL_law_218 (by decide) (fun c_61 => ?_) (fun c_61 => ?_)
      · skip
        refine lv_lconst (v := 0) hx hb dL_law_225 (by decide) ?_
        refine W.lcmp hx hb dL_law_226 ?_
        refine lv_topi (fun z_62 ez_62 => ?_)
        have fz_62 : z_62 = 0 := ez_62.trans (lgc ((hBo.2.1 c_60).trans (if_pos c_61)))
        subst fz_62
        refine lv_if_eq (tgt := 232) hx hb dL_law_227 (by decide) (fun _ => ?_) (fun hc => absurd (by decide) hc)
        refine lv_goto (tgt := 885) hx hb dL_law_232 (by decide) ?_
        refine W.widen (k := cn + 25) (n := sn + 16098) (by omega) (by omega) ?_
        subst hAe
        exact KK F_53 th_54 N_55 L t_40 ed_41 cb_37 up rs_42 cp_43 pl_44 fo_39 H locs ls ⟨hJ_57, by omega, hO_45, by omega, hlk, hlu, hP, hD, hS⟩ (lv_sub hl [2, 3, 4, 5, 6] rfl)
      · skip
        refine lv_lconst (v := 1) hx hb dL_law_221 (by decide) ?_
        refine lv_goto (tgt := 226) hx hb dL_law_222 (by decide) ?_
        refine W.lcmp hx hb dL_law_226 ?_
        refine lv_topi (fun z_63 ez_63 => ?_)
        have fz_63 : z_63 = 0 := ez_63.trans (lgc ((hBo.2.1 c_60).trans (if_neg c_61)))
        subst fz_63
        refine lv_if_eq (tgt := 232) hx hb dL_law_227 (by decide) (fun _ => ?_) (fun hc => absurd (by decide) hc)
        refine lv_goto (tgt := 885) hx hb dL_law_232 (by decide) ?_
        refine W.widen (k := cn + 25) (n := sn + 16098) (by omega) (by omega) ?_
        subst hAe
        exact KK F_53 th_54 N_55 L t_40 ed_41 cb_37 up rs_42 cp_43 pl_44 fo_39 H locs ls ⟨hJ_57, by omega, hO_45, by omega, hlk, hlu, hP, hD, hS⟩ (lv_sub hl [2, 3, 4, 5, 6] rfl)
