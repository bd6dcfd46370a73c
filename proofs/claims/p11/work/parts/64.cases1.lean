set_option maxHeartbeats 8000000 in
set_option maxRecDepth 100000 in
theorem lc_1 {p : Program} {l : Launch} {e : Env} {s : State} {m : MethodId} {below : List Frame} {meth : Method} {c : Code} {b Lx : Nat} {xs : Nat → Int32} (hlt : l.stackTraces = false) (C0 : lw_At p s m meth c b Lx xs) (hLx : Lx ≤ 320) (D : va_G) (tC : Nat → ClassId) (dz mo oa : Nat) (ma ad : Nat → Nat) (hK : va_K D vwCl (tY tC) s) (hN : eN s) (hE : eH dz (fun q : Nat => s.heap.size ≤ q) s s.heap) (c0 : Nat) (hc0 : 5 * c0 + 5 ≤ Lx) (cn sn : Nat) (hcn : cn ≤ 500000) (hsn : sn ≤ 7000000) (KK : ∀ (F : Nat → Nat → Int32) (th : Int32) (N L : Nat) (t : Nat → Nat × Nat) (ed : Nat) (cb up : Nat → Int32) (rs cp : Nat) (pl : va_W) (fo : Nat → Int64) (H : Heap) (locs : List Loc) (ls : Array Slot), LI D tC dz mo oa ma ad s (c0 + 1) F th N L t ed cb up rs cp pl fo H locs → lv_has ls 7 [(4, .int (nI (5 * c0))), (3, .ref oa), (2, .ref mo), (1, .ref (ad 0)), (0, .ref b)] → W p l e room_1 s m #[Value.ref b] below meth c H locs (cn + 25) (sn + 16098) (lw_Z below #[Value.ref b] s) (F0 m 885 ls [])) (F : Nat → Nat → Int32) (th : Int32) (N L : Nat) (t : Nat → Nat × Nat) (ed : Nat) (cb up : Nat → Int32) (rs cp : Nat) (pl : va_W) (fo : Nat → Int64) (H : Heap) (locs : List Loc) (ls : Array Slot) (hI : LI D tC dz mo oa ma ad s c0 F th N L t ed cb up rs cp pl fo H locs) (hl : lv_has ls 7 [(4, .int (nI (5 * c0))), (3, .ref oa), (2, .ref mo), (1, .ref (ad 0)), (0, .ref b)]) : W p l e room_1 s m #[Value.ref b] below meth c H locs cn sn (lw_Z below #[Value.ref b] s) (F0 m 200 ls []) := by
  obtain ⟨hx, hb, hr, hml, hown, hts0, hX, hbl, hlocks, hgv⟩ := C0
  have hts : ∀ w ∈ wsL_law, w.before #[Value.ref b] s = true := fun w h => hts0 w (wsL_law_in w h)
  have hown : s.vm.findClass RL = some m.cls := hown
  obtain ⟨hJ, hN9, hO, hrs9, hlk, hlu, hP, hD, hS⟩ := hI
  have hN5 := hJ.n9
  obtain ⟨A, hAe⟩ : ∃ A : Nat → Prop, A = fun q : Nat => s.heap.size ≤ q := ⟨_, rfl⟩
  rw [← hAe] at hE hD hS
  have hA : ∀ q : Nat, s.heap.size ≤ q → A q := fun q h => by rw [hAe]; exact h
  have hbA : ¬ A b := by rw [hAe]; exact Nat.not_le.mpr hbl
  refine lv_aload_n hx hb dL_law_200 rfl (lv_at hl 3 rfl) ?_
  refine lv_aload_n hx hb dL_law_201 rfl (lv_at hl 4 rfl) ?_
  refine lv_iload hx hb dL_law_202 (lv_at hl 0 rfl) ?_
  refine lv_iconst (v := 1) hx hb dL_law_204 (by decide) ?_
  refine lv_iadd hx hb dL_law_205 ?_
  refine lv_topi (fun z_1 ez_1 => ?_)
  have fz_1 : z_1 = (nI (5 * c0 + 1)) := ez_1.trans (show nI (5 * c0) + nI 1 = _ from nI_add _ _)
  subst fz_1
  refine va_sld hx hb hX hbl hbA hS (vp_in_nI (by omega) (by omega)) dL_law_206 ?_
  refine lv_topi (fun z_2 ez_2 => ?_)
  refine lv_aload_n hx hb dL_law_207 rfl (lv_at hl 4 rfl) ?_
  refine lv_iload hx hb dL_law_208 (lv_at hl 0 rfl) ?_
  refine lv_iconst (v := 2) hx hb dL_law_210 (by decide) ?_
  refine lv_iadd hx hb dL_law_211 ?_
  refine lv_topi (fun z_3 ez_3 => ?_)
  have fz_3 : z_3 = (nI (5 * c0 + 2)) := ez_3.trans (show nI (5 * c0) + nI 2 = _ from nI_add _ _)
  subst fz_3
  refine va_sld hx hb hX hbl hbA hS (vp_in_nI (by omega) (by omega)) dL_law_212 ?_
  refine lv_topi (fun z_4 ez_4 => ?_)
  refine lv_aload_n hx hb dL_law_213 rfl (lv_at hl 4 rfl) ?_
  refine lv_iload hx hb dL_law_214 (lv_at hl 0 rfl) ?_
  refine lv_iconst (v := 3) hx hb dL_law_216 (by decide) ?_
  refine lv_iadd hx hb dL_law_217 ?_
  refine lv_topi (fun z_5 ez_5 => ?_)
  have fz_5 : z_5 = (nI (5 * c0 + 3)) := ez_5.trans (show nI (5 * c0) + nI 3 = _ from nI_add _ _)
  subst fz_5
  refine va_sld hx hb hX hbl hbA hS (vp_in_nI (by omega) (by omega)) dL_law_218 ?_
  refine lv_topi (fun z_6 ez_6 => ?_)
  refine lv_aload_n hx hb dL_law_219 rfl (lv_at hl 4 rfl) ?_
  refine lv_iload hx hb dL_law_220 (lv_at hl 0 rfl) ?_
  refine lv_iconst (v := 4) hx hb dL_law_222 (by decide) ?_
  refine lv_iadd hx hb dL_law_223 ?_
  refine lv_topi (fun z_7 ez_7 => ?_)
  have fz_7 : z_7 = (nI (5 * c0 + 4)) := ez_7.trans (show nI (5 * c0) + nI 4 = _ from nI_add _ _)
  subst fz_7
  refine va_sld hx hb hX hbl hbA hS (vp_in_nI (by omega) (by omega)) dL_law_224 ?_
  refine lv_topi (fun z_8 ez_8 => ?_)
  refine lv_aload_n hx hb dL_law_225 rfl (lv_at hl 1 rfl) ?_
  have hPc := apP (X := (mW tC mo ma F th N L)) hP
  have hDc := apD (X := (mW tC mo ma F th N L)) hD
  have hFc := freeA hDc hS hA
  refine vx_calli (vx_runSX (As := [.ref (ad 0), .int z_2, .int z_4, .int z_6, .int z_8, .ref oa]) (rest := []) ⟨hx, hb, hml, hown, hts⟩ (c_L_write l hlt D tC dz H.size pl t ad ed cb up rs cp hO oa fo z_2 z_4 z_6 z_8 (by omega)) (vx_cwSW 6 hts gL_law_L_write rfl rfl rfl (by decide +kernel) ⟨Nat.le_of_ble_eq_true rfl, Nat.le_of_ble_eq_true rfl⟩) ⟨pB_blind, pB_at hPc hDc hK hN hE hS hFc⟩ rfl rfl hl.1 rfl (lv_room (Nat.le_of_ble_eq_true rfl)) dL_law_226 ⟨(by show cn + 15 ≤ 600128; omega), (by show sn + 8052 ≤ 7301098; omega)⟩) hS (fun q _ h => hFc q h) hFc (fun q _ h => hFc q h) (fun E ce q9 u t9 H1 locs ht hvm hpx hPE hz1 hk1 hS hce hcv hcl => False.elim hPE) (fun r_9 u t9 H1 locs ht hvm hw hB hz1 hk1 hS => ?_)
  obtain ⟨cb_10, up_11, fo_12⟩ := u
  obtain ⟨t_13, ed_14, rs_15, cp_16, pl_17, hrs_19, hO_18, hP1, _, hD1⟩ := hB
  rw [ht] at hP1
  obtain ⟨hP, hD⟩ := jn2 (X := (mW tC mo ma F th N L)) hP hD hk1 hFc hP1 hD1
  generalize H1 = H at hP hS ⊢
  have hw_20 := hw
  have hq9 : cb = cb_10 ∧ up = up_11 := ⟨hw.1.symm, hw.2.symm⟩
  obtain ⟨rfl, rfl⟩ := hq9
  have hO_18 : Ok tC dz t_13 ad ed_14 cb up rs_15 cp_16 pl_17 := hO_18
  have hrs_19 : rs_15 ≤ rs + 5 := hrs_19
  have hP : va_P D vwCl (mW tC mo ma F th N L ++ ((oa, wL tC 1 fo_12) :: pl_17)) H := hP
  have hD : va_D A (mW tC mo ma F th N L ++ ((oa, wL tC 1 fo_12) :: pl_17)) := hD
  refine W.widen (k := cn + 25) (n := sn + 16098) (by omega) (by omega) ?_
  refine lv_istore (lv' := [(5, .int r_9), (4, .int (nI (5 * c0))), (3, .ref oa), (2, .ref mo), (1, .ref (ad 0)), (0, .ref b)]) hx hb dL_law_229 hl (by decide) rfl (fun ls hl => ?_)
  refine lv_aload_n hx hb dL_law_231 rfl (lv_at hl 3 rfl) ?_
  refine lv_aload_n hx hb dL_law_232 rfl (lv_at hl 5 rfl) ?_
  refine lv_iload hx hb dL_law_233 (lv_at hl 1 rfl) ?_
  refine lv_iconst (v := 1) hx hb dL_law_235 (by decide) ?_
  refine lv_iadd hx hb dL_law_236 ?_
  refine lv_topi (fun z_21 ez_21 => ?_)
  have fz_21 : z_21 = (nI (5 * c0 + 1)) := ez_21.trans (show nI (5 * c0) + nI 1 = _ from nI_add _ _)
  subst fz_21
  refine va_sld hx hb hX hbl hbA hS (vp_in_nI (by omega) (by omega)) dL_law_237 ?_
  refine lv_eqi (v := z_2) ez_2.symm ?_
  refine lv_aload_n hx hb dL_law_238 rfl (lv_at hl 5 rfl) ?_
  refine lv_iload hx hb dL_law_239 (lv_at hl 1 rfl) ?_
  refine lv_iconst (v := 2) hx hb dL_law_241 (by decide) ?_
  refine lv_iadd hx hb dL_law_242 ?_
  refine lv_topi (fun z_22 ez_22 => ?_)
  have fz_22 : z_22 = (nI (5 * c0 + 2)) := ez_22.trans (show nI (5 * c0) + nI 2 = _ from nI_add _ _)
  subst fz_22
  refine va_sld hx hb hX hbl hbA hS (vp_in_nI (by omega) (by omega)) dL_law_243 ?_
  refine lv_eqi (v := z_4) ez_4.symm ?_
  refine lv_aload_n hx hb dL_law_244 rfl (lv_at hl 5 rfl) ?_
  refine lv_iload hx hb dL_law_245 (lv_at hl 1 rfl) ?_
  refine lv_iconst (v := 3) hx hb dL_law_247 (by decide) ?_
  refine lv_iadd hx hb dL_law_248 ?_
  refine lv_topi (fun z_23 ez_23 => ?_)
  have fz_23 : z_23 = (nI (5 * c0 + 3)) := ez_23.trans (show nI (5 * c0) + nI 3 = _ from nI_add _ _)
  subst fz_23
  refine va_sld hx hb hX hbl hbA hS (vp_in_nI (by omega) (by omega)) dL_law_249 ?_
  refine lv_eqi (v := z_6) ez_6.symm ?_
  refine lv_aload_n hx hb dL_law_250 rfl (lv_at hl 5 rfl) ?_
  refine lv_iload hx hb dL_law_251 (lv_at hl 1 rfl) ?_
  refine lv_iconst (v := 4) hx hb dL_law_253 (by decide) ?_
  refine lv_iadd hx hb dL_law_254 ?_
  refine lv_topi (fun z_24 ez_24 => ?_)
  have fz_24 : z_24 = (nI (5 * c0 + 4)) := ez_24.trans (show nI (5 * c0) + nI 4 = _ from nI_add _ _)
  subst fz_24
  refine va_sld hx hb hX hbl hbA hS (vp_in_nI (by omega) (by omega)) dL_law_255 ?_
  refine lv_eqi (v := z_8) ez_8.symm ?_
  have hPc := apP1 (X := (mW tC mo ma F th N L)) hP
  have hDc := apD1 (X := (mW tC mo ma F th N L)) hD
  have hFc := freeA hDc hS hA
  refine va_calli (va_runV (As := [.int z_2, .int z_4, .int z_6, .int z_8]) (rest := []) ⟨hx, hb, hml, hown, hts⟩ (c_X5_write l hlt D tC dz H.size mo ma F th N L hJ z_2 z_4 z_6 z_8 ) (cwV 4 hts gL_law_X5_write rfl rfl rfl (by decide +kernel) ⟨Nat.le_of_ble_eq_true rfl, Nat.le_of_ble_eq_true rfl⟩) ⟨pB_blind, va_recv hK hPc (ci := 6) (q0 := 0) rfl mW_0, pB_at hPc hDc hK hN hE hS hFc⟩ rfl rfl hl.1 rfl (lv_room (Nat.le_of_ble_eq_true rfl)) dL_law_256 ⟨(by show cn + 25 + 0 ≤ 600128; omega), (by show sn + 16098 + 0 ≤ 7301098; omega)⟩) hS (fun q _ h => hFc q h) hFc (fun r_25 u t9 H1 locs ht hvm hw hB hz1 hk1 hS => ?_)
  obtain ⟨F_27, th_28, N_29, L_30, hJ_31, hN8, hN9, hT9, hP1, _, hD1⟩ := hB
  rw [ht] at hP1
  obtain ⟨hP, hD⟩ := jn1 (C := (mW tC mo ma F th N L)) hP hD hk1 hFc hP1 hD1
  generalize H1 = H at hP hS ⊢
  have hw_26 := hw
  have hJ_31 : MI F_27 N_29 L_30 := hJ_31
  have hN7 : N_29 ≤ N + 0 := hN9
  have hP : va_P D vwCl (mW tC mo ma F_27 th_28 N_29 L_30 ++ ((oa, wL tC 1 fo_12) :: pl_17)) H := hP
  have hD : va_D A (mW tC mo ma F_27 th_28 N_29 L_30 ++ ((oa, wL tC 1 fo_12) :: pl_17)) := hD
  have hlk := lnk_c hlk hT9.2
  have hlu := lnu_c hlu hT9.1
  refine W.widen (k := cn + 25) (n := sn + 16098) (by omega) (by omega) ?_
  refine lv_istore (lv' := [(6, .int r_25), (5, .int r_9), (4, .int (nI (5 * c0))), (3, .ref oa), (2, .ref mo), (1, .ref (ad 0)), (0, .ref b)]) hx hb dL_law_259 hl (by decide) rfl (fun ls hl => ?_)
  refine lv_goto (tgt := 885) hx hb dL_law_261 (by decide) ?_
  refine W.widen (k := cn + 25) (n := sn + 16098) (by omega) (by omega) ?_
  subst hAe
  exact KK F_27 th_28 N_29 L_30 t_13 ed_14 cb up rs_15 cp_16 pl_17 fo_12 H locs ls ⟨hJ_31, by omega, hO_18, by omega, hlk, hlu, hP, hD, hS⟩ (lv_sub hl [2, 3, 4, 5, 6] rfl)
set_option maxHeartbeats 8000000 in
set_option maxRecDepth 100000 in
theorem lc_2 {p : Program} {l : Launch} {e : Env} {s : State} {m : MethodId} {below : List Frame} {meth : Method} {c : Code} {b Lx : Nat} {xs : Nat → Int32} (hlt : l.stackTraces = false) (C0 : lw_At p s m meth c b Lx xs) (hLx : Lx ≤ 320) (D : va_G) (tC : Nat → ClassId) (dz mo oa : Nat) (ma ad : Nat → Nat) (hK : va_K D vwCl (tY tC) s) (hN : eN s) (hE : eH dz (fun q : Nat => s.heap.size ≤ q) s s.heap) (c0 : Nat) (hc0 : 5 * c0 + 5 ≤ Lx) (cn sn : Nat) (hcn : cn ≤ 500000) (hsn : sn ≤ 7000000) (KK : ∀ (F : Nat → Nat → Int32) (th : Int32) (N L : Nat) (t : Nat → Nat × Nat) (ed : Nat) (cb up : Nat → Int32) (rs cp : Nat) (pl : va_W) (fo : Nat → Int64) (H : Heap) (locs : List Loc) (ls : Array Slot), LI D tC dz mo oa ma ad s (c0 + 1) F th N L t ed cb up rs cp pl fo H locs → lv_has ls 7 [(4, .int (nI (5 * c0))), (3, .ref oa), (2, .ref mo), (1, .ref (ad 0)), (0, .ref b)] → W p l e room_1 s m #[Value.ref b] below meth c H locs (cn + 25) (sn + 16098) (lw_Z below #[Value.ref b] s) (F0 m 885 ls [])) (F : Nat → Nat → Int32) (th : Int32) (N L : Nat) (t : Nat → Nat × Nat) (ed : Nat) (cb up : Nat → Int32) (rs cp : Nat) (pl : va_W) (fo : Nat → Int64) (H : Heap) (locs : List Loc) (ls : Array Slot) (hI : LI D tC dz mo oa ma ad s c0 F th N L t ed cb up rs cp pl fo H locs) (hl : lv_has ls 7 [(4, .int (nI (5 * c0))), (3, .ref oa), (2, .ref mo), (1, .ref (ad 0)), (0, .ref b)]) : W p l e room_1 s m #[Value.ref b] below meth c H locs cn sn (lw_Z below #[Value.ref b] s) (F0 m 264 ls []) := by
  obtain ⟨hx, hb, hr, hml, hown, hts0, hX, hbl, hlocks, hgv⟩ := C0
  have hts : ∀ w ∈ wsL_law, w.before #[Value.ref b] s = true := fun w h => hts0 w (wsL_law_in w h)
  have hown : s.vm.findClass RL = some m.cls := hown
  obtain ⟨hJ, hN9, hO, hrs9, hlk, hlu, hP, hD, hS⟩ := hI
  have hN5 := hJ.n9
  obtain ⟨A, hAe⟩ : ∃ A : Nat → Prop, A = fun q : Nat => s.heap.size ≤ q := ⟨_, rfl⟩
  rw [← hAe] at hE hD hS
  have hA : ∀ q : Nat, s.heap.size ≤ q → A q := fun q h => by rw [hAe]; exact h
  have hbA : ¬ A b := by rw [hAe]; exact Nat.not_le.mpr hbl
  refine lv_aload_n hx hb dL_law_264 rfl (lv_at hl 3 rfl) ?_
  refine lv_aload_n hx hb dL_law_265 rfl (lv_at hl 4 rfl) ?_
  refine lv_iload hx hb dL_law_266 (lv_at hl 0 rfl) ?_
  refine lv_iconst (v := 1) hx hb dL_law_268 (by decide) ?_
  refine lv_iadd hx hb dL_law_269 ?_
  refine lv_topi (fun z_1 ez_1 => ?_)
  have fz_1 : z_1 = (nI (5 * c0 + 1)) := ez_1.trans (show nI (5 * c0) + nI 1 = _ from nI_add _ _)
  subst fz_1
  refine va_sld hx hb hX hbl hbA hS (vp_in_nI (by omega) (by omega)) dL_law_270 ?_
  refine lv_topi (fun z_2 ez_2 => ?_)
  refine lv_aload_n hx hb dL_law_271 rfl (lv_at hl 4 rfl) ?_
  refine lv_iload hx hb dL_law_272 (lv_at hl 0 rfl) ?_
  refine lv_iconst (v := 2) hx hb dL_law_274 (by decide) ?_
  refine lv_iadd hx hb dL_law_275 ?_
  refine lv_topi (fun z_3 ez_3 => ?_)
  have fz_3 : z_3 = (nI (5 * c0 + 2)) := ez_3.trans (show nI (5 * c0) + nI 2 = _ from nI_add _ _)
  subst fz_3
  refine va_sld hx hb hX hbl hbA hS (vp_in_nI (by omega) (by omega)) dL_law_276 ?_
  refine lv_topi (fun z_4 ez_4 => ?_)
  refine lv_aload_n hx hb dL_law_277 rfl (lv_at hl 1 rfl) ?_
  have hPc := apP (X := (mW tC mo ma F th N L)) hP
  have hDc := apD (X := (mW tC mo ma F th N L)) hD
  have hFc := freeA hDc hS hA
  refine vx_calli (vx_runSX (As := [.ref (ad 0), .int z_2, .int z_4, .ref oa]) (rest := []) ⟨hx, hb, hml, hown, hts⟩ (c_L_withdraw l hlt D tC dz H.size pl t ad ed cb up rs cp hO oa fo z_2 z_4 (by omega)) (vx_cwSW 4 hts gL_law_L_withdraw rfl rfl rfl (by decide +kernel) ⟨Nat.le_of_ble_eq_true rfl, Nat.le_of_ble_eq_true rfl⟩) ⟨pB_blind, pB_at hPc hDc hK hN hE hS hFc⟩ rfl rfl hl.1 rfl (lv_room (Nat.le_of_ble_eq_true rfl)) dL_law_278 ⟨(by show cn + 15 ≤ 600128; omega), (by show sn + 8052 ≤ 7301098; omega)⟩) hS (fun q _ h => hFc q h) hFc (fun q _ h => hFc q h) (fun E ce q9 u t9 H1 locs ht hvm hpx hPE hz1 hk1 hS hce hcv hcl => False.elim hPE) (fun r_5 u t9 H1 locs ht hvm hw hB hz1 hk1 hS => ?_)
  obtain ⟨cb_6, up_7, fo_8⟩ := u
  obtain ⟨t_9, ed_10, rs_11, cp_12, pl_13, hrs_15, hO_14, hP1, _, hD1⟩ := hB
  rw [ht] at hP1
  obtain ⟨hP, hD⟩ := jn2 (X := (mW tC mo ma F th N L)) hP hD hk1 hFc hP1 hD1
  generalize H1 = H at hP hS ⊢
  have hw_16 := hw
  have hq9 : cb = cb_6 ∧ up = up_7 := ⟨hw.1.symm, hw.2.symm⟩
  obtain ⟨rfl, rfl⟩ := hq9
  have hO_14 : Ok tC dz t_9 ad ed_10 cb up rs_11 cp_12 pl_13 := hO_14
  have hrs_15 : rs_11 ≤ rs + 5 := hrs_15
  have hP : va_P D vwCl (mW tC mo ma F th N L ++ ((oa, wL tC 1 fo_8) :: pl_13)) H := hP
  have hD : va_D A (mW tC mo ma F th N L ++ ((oa, wL tC 1 fo_8) :: pl_13)) := hD
  refine W.widen (k := cn + 25) (n := sn + 16098) (by omega) (by omega) ?_
  refine lv_istore (lv' := [(5, .int r_5), (4, .int (nI (5 * c0))), (3, .ref oa), (2, .ref mo), (1, .ref (ad 0)), (0, .ref b)]) hx hb dL_law_281 hl (by decide) rfl (fun ls hl => ?_)
  refine lv_aload_n hx hb dL_law_283 rfl (lv_at hl 3 rfl) ?_
  refine lv_aload_n hx hb dL_law_284 rfl (lv_at hl 5 rfl) ?_
  refine lv_iload hx hb dL_law_285 (lv_at hl 1 rfl) ?_
  refine lv_iconst (v := 1) hx hb dL_law_287 (by decide) ?_
  refine lv_iadd hx hb dL_law_288 ?_
  refine lv_topi (fun z_17 ez_17 => ?_)
  have fz_17 : z_17 = (nI (5 * c0 + 1)) := ez_17.trans (show nI (5 * c0) + nI 1 = _ from nI_add _ _)
  subst fz_17
  refine va_sld hx hb hX hbl hbA hS (vp_in_nI (by omega) (by omega)) dL_law_289 ?_
  refine lv_eqi (v := z_2) ez_2.symm ?_
  refine lv_aload_n hx hb dL_law_290 rfl (lv_at hl 5 rfl) ?_
  refine lv_iload hx hb dL_law_291 (lv_at hl 1 rfl) ?_
  refine lv_iconst (v := 2) hx hb dL_law_293 (by decide) ?_
  refine lv_iadd hx hb dL_law_294 ?_
  refine lv_topi (fun z_18 ez_18 => ?_)
  have fz_18 : z_18 = (nI (5 * c0 + 2)) := ez_18.trans (show nI (5 * c0) + nI 2 = _ from nI_add _ _)
  subst fz_18
  refine va_sld hx hb hX hbl hbA hS (vp_in_nI (by omega) (by omega)) dL_law_295 ?_
  refine lv_eqi (v := z_4) ez_4.symm ?_
  have hPc := apP1 (X := (mW tC mo ma F th N L)) hP
  have hDc := apD1 (X := (mW tC mo ma F th N L)) hD
  have hFc := freeA hDc hS hA
  refine va_calli (va_runV (As := [.int z_2, .int z_4]) (rest := []) ⟨hx, hb, hml, hown, hts⟩ (c_X5_withdraw l hlt D tC dz H.size mo ma F th N L hJ z_2 z_4 ) (cwV 2 hts gL_law_X5_withdraw rfl rfl rfl (by decide +kernel) ⟨Nat.le_of_ble_eq_true rfl, Nat.le_of_ble_eq_true rfl⟩) ⟨pB_blind, va_recv hK hPc (ci := 6) (q0 := 0) rfl mW_0, pB_at hPc hDc hK hN hE hS hFc⟩ rfl rfl hl.1 rfl (lv_room (Nat.le_of_ble_eq_true rfl)) dL_law_296 ⟨(by show cn + 25 + 0 ≤ 600128; omega), (by show sn + 16098 + 0 ≤ 7301098; omega)⟩) hS (fun q _ h => hFc q h) hFc (fun r_19 u t9 H1 locs ht hvm hw hB hz1 hk1 hS => ?_)
  obtain ⟨F_21, th_22, N_23, L_24, hJ_25, hN8, hN9, hT9, hP1, _, hD1⟩ := hB
  rw [ht] at hP1
  obtain ⟨hP, hD⟩ := jn1 (C := (mW tC mo ma F th N L)) hP hD hk1 hFc hP1 hD1
  generalize H1 = H at hP hS ⊢
  have hw_20 := hw
  have hJ_25 : MI F_21 N_23 L_24 := hJ_25
  have hN7 : N_23 ≤ N + 0 := hN9
  have hP : va_P D vwCl (mW tC mo ma F_21 th_22 N_23 L_24 ++ ((oa, wL tC 1 fo_8) :: pl_13)) H := hP
  have hD : va_D A (mW tC mo ma F_21 th_22 N_23 L_24 ++ ((oa, wL tC 1 fo_8) :: pl_13)) := hD
  have hlk := lnk_c hlk hT9.2
  have hlu := lnu_c hlu hT9.1
  refine W.widen (k := cn + 25) (n := sn + 16098) (by omega) (by omega) ?_
  refine lv_istore (lv' := [(6, .int r_19), (5, .int r_5), (4, .int (nI (5 * c0))), (3, .ref oa), (2, .ref mo), (1, .ref (ad 0)), (0, .ref b)]) hx hb dL_law_299 hl (by decide) rfl (fun ls hl => ?_)
  refine lv_goto (tgt := 885) hx hb dL_law_301 (by decide) ?_
  refine W.widen (k := cn + 25) (n := sn + 16098) (by omega) (by omega) ?_
  subst hAe
  exact KK F_21 th_22 N_23 L_24 t_9 ed_10 cb up rs_11 cp_12 pl_13 fo_8 H locs ls ⟨hJ_25, by omega, hO_14, by omega, hlk, hlu, hP, hD, hS⟩ (lv_sub hl [2, 3, 4, 5, 6] rfl)
set_option maxHeartbeats 8000000 in
set_option maxRecDepth 100000 in
theorem lc_3 {p : Program} {l : Launch} {e : Env} {s : State} {m : MethodId} {below : List Frame} {meth : Method} {c : Code} {b Lx : Nat} {xs : Nat → Int32} (hlt : l.stackTraces = false) (C0 : lw_At p s m meth c b Lx xs) (hLx : Lx ≤ 320) (D : va_G) (tC : Nat → ClassId) (dz mo oa : Nat) (ma ad : Nat → Nat) (hK : va_K D vwCl (tY tC) s) (hN : eN s) (hE : eH dz (fun q : Nat => s.heap.size ≤ q) s s.heap) (c0 : Nat) (hc0 : 5 * c0 + 5 ≤ Lx) (cn sn : Nat) (hcn : cn ≤ 500000) (hsn : sn ≤ 7000000) (KK : ∀ (F : Nat → Nat → Int32) (th : Int32) (N L : Nat) (t : Nat → Nat × Nat) (ed : Nat) (cb up : Nat → Int32) (rs cp : Nat) (pl : va_W) (fo : Nat → Int64) (H : Heap) (locs : List Loc) (ls : Array Slot), LI D tC dz mo oa ma ad s (c0 + 1) F th N L t ed cb up rs cp pl fo H locs → lv_has ls 7 [(4, .int (nI (5 * c0))), (3, .ref oa), (2, .ref mo), (1, .ref (ad 0)), (0, .ref b)] → W p l e room_1 s m #[Value.ref b] below meth c H locs (cn + 25) (sn + 16098) (lw_Z below #[Value.ref b] s) (F0 m 885 ls [])) (F : Nat → Nat → Int32) (th : Int32) (N L : Nat) (t : Nat → Nat × Nat) (ed : Nat) (cb up : Nat → Int32) (rs cp : Nat) (pl : va_W) (fo : Nat → Int64) (H : Heap) (locs : List Loc) (ls : Array Slot) (hI : LI D tC dz mo oa ma ad s c0 F th N L t ed cb up rs cp pl fo H locs) (hl : lv_has ls 7 [(4, .int (nI (5 * c0))), (3, .ref oa), (2, .ref mo), (1, .ref (ad 0)), (0, .ref b)]) : W p l e room_1 s m #[Value.ref b] below meth c H locs cn sn (lw_Z below #[Value.ref b] s) (F0 m 304 ls []) := by
  obtain ⟨hx, hb, hr, hml, hown, hts0, hX, hbl, hlocks, hgv⟩ := C0
  have hts : ∀ w ∈ wsL_law, w.before #[Value.ref b] s = true := fun w h => hts0 w (wsL_law_in w h)
  have hown : s.vm.findClass RL = some m.cls := hown
  obtain ⟨hJ, hN9, hO, hrs9, hlk, hlu, hP, hD, hS⟩ := hI
  have hN5 := hJ.n9
  obtain ⟨A, hAe⟩ : ∃ A : Nat → Prop, A = fun q : Nat => s.heap.size ≤ q := ⟨_, rfl⟩
  rw [← hAe] at hE hD hS
  have hA : ∀ q : Nat, s.heap.size ≤ q → A q := fun q h => by rw [hAe]; exact h
  have hbA : ¬ A b := by rw [hAe]; exact Nat.not_le.mpr hbl
  refine lv_aload_n hx hb dL_law_304 rfl (lv_at hl 3 rfl) ?_
  refine lv_aload_n hx hb dL_law_305 rfl (lv_at hl 4 rfl) ?_
  refine lv_iload hx hb dL_law_306 (lv_at hl 0 rfl) ?_
  refine lv_iconst (v := 1) hx hb dL_law_308 (by decide) ?_
  refine lv_iadd hx hb dL_law_309 ?_
  refine lv_topi (fun z_1 ez_1 => ?_)
  have fz_1 : z_1 = (nI (5 * c0 + 1)) := ez_1.trans (show nI (5 * c0) + nI 1 = _ from nI_add _ _)
  subst fz_1
  refine va_sld hx hb hX hbl hbA hS (vp_in_nI (by omega) (by omega)) dL_law_310 ?_
  refine lv_topi (fun z_2 ez_2 => ?_)
  refine lv_aload_n hx hb dL_law_311 rfl (lv_at hl 1 rfl) ?_
  have hPc := apP (X := (mW tC mo ma F th N L)) hP
  have hDc := apD (X := (mW tC mo ma F th N L)) hD
  have hFc := freeA hDc hS hA
  refine vx_calli (vx_runSX (As := [.ref (ad 0), .int z_2, .ref oa]) (rest := []) ⟨hx, hb, hml, hown, hts⟩ (c_L_decide l hlt D tC dz H.size pl t ad ed cb up rs cp hO oa fo z_2 (by omega)) (vx_cwSW 3 hts gL_law_L_decide rfl rfl rfl (by decide +kernel) ⟨Nat.le_of_ble_eq_true rfl, Nat.le_of_ble_eq_true rfl⟩) ⟨pB_blind, pB_at hPc hDc hK hN hE hS hFc⟩ rfl rfl hl.1 rfl (lv_room (Nat.le_of_ble_eq_true rfl)) dL_law_312 ⟨(by show cn + 25 ≤ 600128; omega), (by show sn + 16098 ≤ 7301098; omega)⟩) hS (fun q _ h => hFc q h) hFc (fun q _ h => hFc q h) (fun E ce q9 u t9 H1 locs ht hvm hpx hPE hz1 hk1 hS hce hcv hcl => False.elim hPE) (fun r_3 u t9 H1 locs ht hvm hw hB hz1 hk1 hS => ?_)
  obtain ⟨cb_4, up_5, fo_6⟩ := u
  obtain ⟨t_7, ed_8, rs_9, cp_10, pl_11, hrs_13, hO_12, hP1, _, hD1⟩ := hB
  rw [ht] at hP1
  obtain ⟨hP, hD⟩ := jn2 (X := (mW tC mo ma F th N L)) hP hD hk1 hFc hP1 hD1
  generalize H1 = H at hP hS ⊢
  have hw_14 := hw
  have hq9 : cb = cb_4 ∧ up = up_5 := ⟨hw.1.symm, hw.2.symm⟩
  obtain ⟨rfl, rfl⟩ := hq9
  have hO_12 : Ok tC dz t_7 ad ed_8 cb up rs_9 cp_10 pl_11 := hO_12
  have hrs_13 : rs_9 ≤ rs + 10 := hrs_13
  have hP : va_P D vwCl (mW tC mo ma F th N L ++ ((oa, wL tC 1 fo_6) :: pl_11)) H := hP
  have hD : va_D A (mW tC mo ma F th N L ++ ((oa, wL tC 1 fo_6) :: pl_11)) := hD
  refine W.widen (k := cn + 25) (n := sn + 16098) (by omega) (by omega) ?_
  refine lv_istore (lv' := [(5, .int r_3), (4, .int (nI (5 * c0))), (3, .ref oa), (2, .ref mo), (1, .ref (ad 0)), (0, .ref b)]) hx hb dL_law_315 hl (by decide) rfl (fun ls hl => ?_)
  refine lv_aload_n hx hb dL_law_317 rfl (lv_at hl 3 rfl) ?_
  refine lv_aload_n hx hb dL_law_318 rfl (lv_at hl 5 rfl) ?_
  refine lv_iload hx hb dL_law_319 (lv_at hl 1 rfl) ?_
  refine lv_iconst (v := 1) hx hb dL_law_321 (by decide) ?_
  refine lv_iadd hx hb dL_law_322 ?_
  refine lv_topi (fun z_15 ez_15 => ?_)
  have fz_15 : z_15 = (nI (5 * c0 + 1)) := ez_15.trans (show nI (5 * c0) + nI 1 = _ from nI_add _ _)
  subst fz_15
  refine va_sld hx hb hX hbl hbA hS (vp_in_nI (by omega) (by omega)) dL_law_323 ?_
  refine lv_eqi (v := z_2) ez_2.symm ?_
  have hPc := apP1 (X := (mW tC mo ma F th N L)) hP
  have hDc := apD1 (X := (mW tC mo ma F th N L)) hD
  have hFc := freeA hDc hS hA
  refine va_calli (va_runV (As := [.int z_2]) (rest := []) ⟨hx, hb, hml, hown, hts⟩ (c_X5_decide l hlt D tC dz H.size mo ma F th N L hJ z_2 (by omega)) (cwV 1 hts gL_law_X5_decide rfl rfl rfl (by decide +kernel) ⟨Nat.le_of_ble_eq_true rfl, Nat.le_of_ble_eq_true rfl⟩) ⟨pB_blind, va_recv hK hPc (ci := 6) (q0 := 0) rfl mW_0, pB_at hPc hDc hK hN hE hS hFc⟩ rfl rfl hl.1 rfl (lv_room (Nat.le_of_ble_eq_true rfl)) dL_law_324 ⟨(by show cn + 25 + 0 ≤ 600128; omega), (by show sn + 16098 + 0 ≤ 7301098; omega)⟩) hS (fun q _ h => hFc q h) hFc (fun r_16 u t9 H1 locs ht hvm hw hB hz1 hk1 hS => ?_)
  obtain ⟨F_18, th_19, N_20, L_21, hJ_22, hN8, hN9, hT9, hP1, _, hD1⟩ := hB
  rw [ht] at hP1
  obtain ⟨hP, hD⟩ := jn1 (C := (mW tC mo ma F th N L)) hP hD hk1 hFc hP1 hD1
  generalize H1 = H at hP hS ⊢
  have hw_17 := hw
  have hJ_22 : MI F_18 N_20 L_21 := hJ_22
  have hN7 : N_20 ≤ N + 1 := hN9
  have hP : va_P D vwCl (mW tC mo ma F_18 th_19 N_20 L_21 ++ ((oa, wL tC 1 fo_6) :: pl_11)) H := hP
  have hD : va_D A (mW tC mo ma F_18 th_19 N_20 L_21 ++ ((oa, wL tC 1 fo_6) :: pl_11)) := hD
  have hlk := lnk_c hlk hT9.2
  have hlu := lnu_c hlu hT9.1
  refine W.widen (k := cn + 25) (n := sn + 16098) (by omega) (by omega) ?_
  refine lv_istore (lv' := [(6, .int r_16), (5, .int r_3), (4, .int (nI (5 * c0))), (3, .ref oa), (2, .ref mo), (1, .ref (ad 0)), (0, .ref b)]) hx hb dL_law_327 hl (by decide) rfl (fun ls hl => ?_)
  refine lv_goto (tgt := 885) hx hb dL_law_329 (by decide) ?_
  refine W.widen (k := cn + 25) (n := sn + 16098) (by omega) (by omega) ?_
  subst hAe
  exact KK F_18 th_19 N_20 L_21 t_7 ed_8 cb up rs_9 cp_10 pl_11 fo_6 H locs ls ⟨hJ_22, by omega, hO_12, by omega, hlk, hlu, hP, hD, hS⟩ (lv_sub hl [2, 3, 4, 5, 6] rfl)
set_option maxHeartbeats 8000000 in
set_option maxRecDepth 100000 in
theorem lc_4 {p : Program} {l : Launch} {e : Env} {s : State} {m : MethodId} {below : List Frame} {meth : Method} {c : Code} {b Lx : Nat} {xs : Nat → Int32} (hlt : l.stackTraces = false) (C0 : lw_At p s m meth c b Lx xs) (hLx : Lx ≤ 320) (D : va_G) (tC : Nat → ClassId) (dz mo oa : Nat) (ma ad : Nat → Nat) (hK : va_K D vwCl (tY tC) s) (hN : eN s) (hE : eH dz (fun q : Nat => s.heap.size ≤ q) s s.heap) (c0 : Nat) (hc0 : 5 * c0 + 5 ≤ Lx) (cn sn : Nat) (hcn : cn ≤ 500000) (hsn : sn ≤ 7000000) (KK : ∀ (F : Nat → Nat → Int32) (th : Int32) (N L : Nat) (t : Nat → Nat × Nat) (ed : Nat) (cb up : Nat → Int32) (rs cp : Nat) (pl : va_W) (fo : Nat → Int64) (H : Heap) (locs : List Loc) (ls : Array Slot), LI D tC dz mo oa ma ad s (c0 + 1) F th N L t ed cb up rs cp pl fo H locs → lv_has ls 7 [(4, .int (nI (5 * c0))), (3, .ref oa), (2, .ref mo), (1, .ref (ad 0)), (0, .ref b)] → W p l e room_1 s m #[Value.ref b] below meth c H locs (cn + 25) (sn + 16098) (lw_Z below #[Value.ref b] s) (F0 m 885 ls [])) (F : Nat → Nat → Int32) (th : Int32) (N L : Nat) (t : Nat → Nat × Nat) (ed : Nat) (cb up : Nat → Int32) (rs cp : Nat) (pl : va_W) (fo : Nat → Int64) (H : Heap) (locs : List Loc) (ls : Array Slot) (hI : LI D tC dz mo oa ma ad s c0 F th N L t ed cb up rs cp pl fo H locs) (hl : lv_has ls 7 [(4, .int (nI (5 * c0))), (3, .ref oa), (2, .ref mo), (1, .ref (ad 0)), (0, .ref b)]) : W p l e room_1 s m #[Value.ref b] below meth c H locs cn sn (lw_Z below #[Value.ref b] s) (F0 m 332 ls []) := by
  obtain ⟨hx, hb, hr, hml, hown, hts0, hX, hbl, hlocks, hgv⟩ := C0
  have hts : ∀ w ∈ wsL_law, w.before #[Value.ref b] s = true := fun w h => hts0 w (wsL_law_in w h)
  have hown : s.vm.findClass RL = some m.cls := hown
  obtain ⟨hJ, hN9, hO, hrs9, hlk, hlu, hP, hD, hS⟩ := hI
  have hN5 := hJ.n9
  obtain ⟨A, hAe⟩ : ∃ A : Nat → Prop, A = fun q : Nat => s.heap.size ≤ q := ⟨_, rfl⟩
  rw [← hAe] at hE hD hS
  have hA : ∀ q : Nat, s.heap.size ≤ q → A q := fun q h => by rw [hAe]; exact h
  have hbA : ¬ A b := by rw [hAe]; exact Nat.not_le.mpr hbl
  refine lv_aload_n hx hb dL_law_332 rfl (lv_at hl 3 rfl) ?_
  refine lv_aload_n hx hb dL_law_333 rfl (lv_at hl 4 rfl) ?_
  refine lv_iload hx hb dL_law_334 (lv_at hl 0 rfl) ?_
  refine lv_iconst (v := 1) hx hb dL_law_336 (by decide) ?_
  refine lv_iadd hx hb dL_law_337 ?_
  refine lv_topi (fun z_1 ez_1 => ?_)
  have fz_1 : z_1 = (nI (5 * c0 + 1)) := ez_1.trans (show nI (5 * c0) + nI 1 = _ from nI_add _ _)
  subst fz_1
  refine va_sld hx hb hX hbl hbA hS (vp_in_nI (by omega) (by omega)) dL_law_338 ?_
  refine lv_topi (fun z_2 ez_2 => ?_)
  have hPc := apP (X := (mW tC mo ma F th N L)) hP
  have hDc := apD (X := (mW tC mo ma F th N L)) hD
  have hFc := freeA hDc hS hA
  refine vx_calli (vx_runSX (As := [.ref (ad 0), .int z_2]) (rest := []) ⟨hx, hb, hml, hown, hts⟩ (c_L_giveUp l hlt D tC dz H.size pl t ad ed cb up rs cp hO oa fo z_2 (by omega)) (vx_cwSW 2 hts gL_law_L_giveUp rfl rfl rfl (by decide +kernel) ⟨Nat.le_of_ble_eq_true rfl, Nat.le_of_ble_eq_true rfl⟩) ⟨pB_blind, pB_at hPc hDc hK hN hE hS hFc⟩ rfl rfl hl.1 rfl (lv_room (Nat.le_of_ble_eq_true rfl)) dL_law_339 ⟨(by show cn + 13 ≤ 600128; omega), (by show sn + 8043 ≤ 7301098; omega)⟩) hS (fun q _ h => hFc q h) hFc (fun q _ h => hFc q h) (fun E ce q9 u t9 H1 locs ht hvm hpx hPE hz1 hk1 hS hce hcv hcl => False.elim hPE) (fun r_3 u t9 H1 locs ht hvm hw hB hz1 hk1 hS => ?_)
  obtain ⟨cb_4, up_5, fo_6⟩ := u
  obtain ⟨t_7, ed_8, rs_9, cp_10, pl_11, hrs_13, hO_12, hP1, _, hD1⟩ := hB
  rw [ht] at hP1
  obtain ⟨hP, hD⟩ := jn2 (X := (mW tC mo ma F th N L)) hP hD hk1 hFc hP1 hD1
  generalize H1 = H at hP hS ⊢
  have hw_14 := hw
  have hq9 : cb = cb_4 ∧ up = up_5 := ⟨hw.1.symm, hw.2.symm⟩
  obtain ⟨rfl, rfl⟩ := hq9
  have hO_12 : Ok tC dz t_7 ad ed_8 cb up rs_9 cp_10 pl_11 := hO_12
  have hrs_13 : rs_9 ≤ rs + 5 := hrs_13
  have hP : va_P D vwCl (mW tC mo ma F th N L ++ ((oa, wL tC 1 fo_6) :: pl_11)) H := hP
  have hD : va_D A (mW tC mo ma F th N L ++ ((oa, wL tC 1 fo_6) :: pl_11)) := hD
  refine W.widen (k := cn + 25) (n := sn + 16098) (by omega) (by omega) ?_
  refine lv_istore (lv' := [(5, .int r_3), (4, .int (nI (5 * c0))), (3, .ref oa), (2, .ref mo), (1, .ref (ad 0)), (0, .ref b)]) hx hb dL_law_342 hl (by decide) rfl (fun ls hl => ?_)
  refine lv_aload_n hx hb dL_law_344 rfl (lv_at hl 3 rfl) ?_
  refine lv_aload_n hx hb dL_law_345 rfl (lv_at hl 5 rfl) ?_
  refine lv_iload hx hb dL_law_346 (lv_at hl 1 rfl) ?_
  refine lv_iconst (v := 1) hx hb dL_law_348 (by decide) ?_
  refine lv_iadd hx hb dL_law_349 ?_
  refine lv_topi (fun z_15 ez_15 => ?_)
  have fz_15 : z_15 = (nI (5 * c0 + 1)) := ez_15.trans (show nI (5 * c0) + nI 1 = _ from nI_add _ _)
  subst fz_15
  refine va_sld hx hb hX hbl hbA hS (vp_in_nI (by omega) (by omega)) dL_law_350 ?_
  refine lv_eqi (v := z_2) ez_2.symm ?_
  have hPc := apP1 (X := (mW tC mo ma F th N L)) hP
  have hDc := apD1 (X := (mW tC mo ma F th N L)) hD
  have hFc := freeA hDc hS hA
  refine va_callv (va_runV (As := [.int z_2]) (rest := []) ⟨hx, hb, hml, hown, hts⟩ (c_X5_giveUp l hlt D tC dz H.size mo ma F th N L hJ z_2 ) (cwV 1 hts gL_law_X5_giveUp rfl rfl rfl (by decide +kernel) ⟨Nat.le_of_ble_eq_true rfl, Nat.le_of_ble_eq_true rfl⟩) ⟨pB_blind, va_recv hK hPc (ci := 6) (q0 := 0) rfl mW_0, pB_at hPc hDc hK hN hE hS hFc⟩ rfl rfl hl.1 rfl (lv_room (Nat.le_of_ble_eq_true rfl)) dL_law_351 ⟨(by show cn + 25 + 0 ≤ 600128; omega), (by show sn + 16098 + 0 ≤ 7301098; omega)⟩) hS (fun q _ h => hFc q h) hFc (fun u t9 H1 locs ht hvm hw hB hz1 hk1 hS => ?_)
  obtain ⟨F_18, th_19, N_20, L_21, hJ_22, hN8, hN9, hT9, hP1, _, hD1⟩ := hB
  rw [ht] at hP1
  obtain ⟨hP, hD⟩ := jn1 (C := (mW tC mo ma F th N L)) hP hD hk1 hFc hP1 hD1
  generalize H1 = H at hP hS ⊢
  have hw_17 := hw
  have hJ_22 : MI F_18 N_20 L_21 := hJ_22
  have hN7 : N_20 ≤ N + 0 := hN9
  have hP : va_P D vwCl (mW tC mo ma F_18 th_19 N_20 L_21 ++ ((oa, wL tC 1 fo_6) :: pl_11)) H := hP
  have hD : va_D A (mW tC mo ma F_18 th_19 N_20 L_21 ++ ((oa, wL tC 1 fo_6) :: pl_11)) := hD
  have hlk := lnk_c hlk hT9.2
  have hlu := lnu_c hlu hT9.1
  refine W.widen (k := cn + 25) (n := sn + 16098) (by omega) (by omega) ?_
  refine lv_goto (tgt := 885) hx hb dL_law_354 (by decide) ?_
  refine W.widen (k := cn + 25) (n := sn + 16098) (by omega) (by omega) ?_
  subst hAe
  exact KK F_18 th_19 N_20 L_21 t_7 ed_8 cb up rs_9 cp_10 pl_11 fo_6 H locs ls ⟨hJ_22, by omega, hO_12, by omega, hlk, hlu, hP, hD, hS⟩ (lv_sub hl [1, 2, 3, 4, 5] rfl)
set_option maxHeartbeats 8000000 in
set_option maxRecDepth 100000 in
theorem lc_5 {p : Program} {l : Launch} {e : Env} {s : State} {m : MethodId} {below : List Frame} {meth : Method} {c : Code} {b Lx : Nat} {xs : Nat → Int32} (hlt : l.stackTraces = false) (C0 : lw_At p s m meth c b Lx xs) (hLx : Lx ≤ 320) (D : va_G) (tC : Nat → ClassId) (dz mo oa : Nat) (ma ad : Nat → Nat) (hK : va_K D vwCl (tY tC) s) (hN : eN s) (hE : eH dz (fun q : Nat => s.heap.size ≤ q) s s.heap) (c0 : Nat) (hc0 : 5 * c0 + 5 ≤ Lx) (cn sn : Nat) (hcn : cn ≤ 500000) (hsn : sn ≤ 7000000) (KK : ∀ (F : Nat → Nat → Int32) (th : Int32) (N L : Nat) (t : Nat → Nat × Nat) (ed : Nat) (cb up : Nat → Int32) (rs cp : Nat) (pl : va_W) (fo : Nat → Int64) (H : Heap) (locs : List Loc) (ls : Array Slot), LI D tC dz mo oa ma ad s (c0 + 1) F th N L t ed cb up rs cp pl fo H locs → lv_has ls 7 [(4, .int (nI (5 * c0))), (3, .ref oa), (2, .ref mo), (1, .ref (ad 0)), (0, .ref b)] → W p l e room_1 s m #[Value.ref b] below meth c H locs (cn + 25) (sn + 16098) (lw_Z below #[Value.ref b] s) (F0 m 885 ls [])) (F : Nat → Nat → Int32) (th : Int32) (N L : Nat) (t : Nat → Nat × Nat) (ed : Nat) (cb up : Nat → Int32) (rs cp : Nat) (pl : va_W) (fo : Nat → Int64) (H : Heap) (locs : List Loc) (ls : Array Slot) (hI : LI D tC dz mo oa ma ad s c0 F th N L t ed cb up rs cp pl fo H locs) (hl : lv_has ls 7 [(4, .int (nI (5 * c0))), (3, .ref oa), (2, .ref mo), (1, .ref (ad 0)), (0, .ref b)]) : W p l e room_1 s m #[Value.ref b] below meth c H locs cn sn (lw_Z below #[Value.ref b] s) (F0 m 357 ls []) := by
  obtain ⟨hx, hb, hr, hml, hown, hts0, hX, hbl, hlocks, hgv⟩ := C0
  have hts : ∀ w ∈ wsL_law, w.before #[Value.ref b] s = true := fun w h => hts0 w (wsL_law_in w h)
  have hown : s.vm.findClass RL = some m.cls := hown
  obtain ⟨hJ, hN9, hO, hrs9, hlk, hlu, hP, hD, hS⟩ := hI
  have hN5 := hJ.n9
  obtain ⟨A, hAe⟩ : ∃ A : Nat → Prop, A = fun q : Nat => s.heap.size ≤ q := ⟨_, rfl⟩
  rw [← hAe] at hE hD hS
  have hA : ∀ q : Nat, s.heap.size ≤ q → A q := fun q h => by rw [hAe]; exact h
  have hbA : ¬ A b := by rw [hAe]; exact Nat.not_le.mpr hbl
  refine lv_aload_n hx hb dL_law_357 rfl (lv_at hl 3 rfl) ?_
  refine lv_aload_n hx hb dL_law_358 rfl (lv_at hl 4 rfl) ?_
  refine lv_iload hx hb dL_law_359 (lv_at hl 0 rfl) ?_
  refine lv_iconst (v := 1) hx hb dL_law_361 (by decide) ?_
  refine lv_iadd hx hb dL_law_362 ?_
  refine lv_topi (fun z_1 ez_1 => ?_)
  have fz_1 : z_1 = (nI (5 * c0 + 1)) := ez_1.trans (show nI (5 * c0) + nI 1 = _ from nI_add _ _)
  subst fz_1
  refine va_sld hx hb hX hbl hbA hS (vp_in_nI (by omega) (by omega)) dL_law_363 ?_
  refine lv_topi (fun z_2 ez_2 => ?_)
  refine lv_aload_n hx hb dL_law_364 rfl (lv_at hl 1 rfl) ?_
  have hPc := apP (X := (mW tC mo ma F th N L)) hP
  have hDc := apD (X := (mW tC mo ma F th N L)) hD
  have hFc := freeA hDc hS hA
  refine vx_calli (vx_runSX (As := [.ref (ad 0), .int z_2, .ref oa]) (rest := []) ⟨hx, hb, hml, hown, hts⟩ (c_L_resend l hlt D tC dz H.size pl t ad ed cb up rs cp hO oa fo z_2 (by omega)) (vx_cwSW 3 hts gL_law_L_resend rfl rfl rfl (by decide +kernel) ⟨Nat.le_of_ble_eq_true rfl, Nat.le_of_ble_eq_true rfl⟩) ⟨pB_blind, pB_at hPc hDc hK hN hE hS hFc⟩ rfl rfl hl.1 rfl (lv_room (Nat.le_of_ble_eq_true rfl)) dL_law_365 ⟨(by show cn + 13 ≤ 600128; omega), (by show sn + 8043 ≤ 7301098; omega)⟩) hS (fun q _ h => hFc q h) hFc (fun q _ h => hFc q h) (fun E ce q9 u t9 H1 locs ht hvm hpx hPE hz1 hk1 hS hce hcv hcl => False.elim hPE) (fun r_3 u t9 H1 locs ht hvm hw hB hz1 hk1 hS => ?_)
  obtain ⟨cb_4, up_5, fo_6⟩ := u
  obtain ⟨t_7, ed_8, rs_9, cp_10, pl_11, hrs_13, hO_12, hP1, _, hD1⟩ := hB
  rw [ht] at hP1
  obtain ⟨hP, hD⟩ := jn2 (X := (mW tC mo ma F th N L)) hP hD hk1 hFc hP1 hD1
  generalize H1 = H at hP hS ⊢
  have hw_14 := hw
  have hq9 : cb = cb_4 ∧ up = up_5 := ⟨hw.1.symm, hw.2.symm⟩
  obtain ⟨rfl, rfl⟩ := hq9
  have hO_12 : Ok tC dz t_7 ad ed_8 cb up rs_9 cp_10 pl_11 := hO_12
  have hrs_13 : rs_9 ≤ rs + 5 := hrs_13
  have hP : va_P D vwCl (mW tC mo ma F th N L ++ ((oa, wL tC 1 fo_6) :: pl_11)) H := hP
  have hD : va_D A (mW tC mo ma F th N L ++ ((oa, wL tC 1 fo_6) :: pl_11)) := hD
  refine W.widen (k := cn + 25) (n := sn + 16098) (by omega) (by omega) ?_
  refine lv_istore (lv' := [(5, .int r_3), (4, .int (nI (5 * c0))), (3, .ref oa), (2, .ref mo), (1, .ref (ad 0)), (0, .ref b)]) hx hb dL_law_368 hl (by decide) rfl (fun ls hl => ?_)
  refine lv_aload_n hx hb dL_law_370 rfl (lv_at hl 3 rfl) ?_
  refine lv_aload_n hx hb dL_law_371 rfl (lv_at hl 5 rfl) ?_
  refine lv_iload hx hb dL_law_372 (lv_at hl 1 rfl) ?_
  refine lv_iconst (v := 1) hx hb dL_law_374 (by decide) ?_
  refine lv_iadd hx hb dL_law_375 ?_
  refine lv_topi (fun z_15 ez_15 => ?_)
  have fz_15 : z_15 = (nI (5 * c0 + 1)) := ez_15.trans (show nI (5 * c0) + nI 1 = _ from nI_add _ _)
  subst fz_15
  refine va_sld hx hb hX hbl hbA hS (vp_in_nI (by omega) (by omega)) dL_law_376 ?_
  refine lv_eqi (v := z_2) ez_2.symm ?_
  have hPc := apP1 (X := (mW tC mo ma F th N L)) hP
  have hDc := apD1 (X := (mW tC mo ma F th N L)) hD
  have hFc := freeA hDc hS hA
  refine va_calli (va_runV (As := [.int z_2]) (rest := []) ⟨hx, hb, hml, hown, hts⟩ (c_X5_resend l hlt D tC dz H.size mo ma F th N L hJ z_2 ) (cwV 1 hts gL_law_X5_resend rfl rfl rfl (by decide +kernel) ⟨Nat.le_of_ble_eq_true rfl, Nat.le_of_ble_eq_true rfl⟩) ⟨pB_blind, va_recv hK hPc (ci := 6) (q0 := 0) rfl mW_0, pB_at hPc hDc hK hN hE hS hFc⟩ rfl rfl hl.1 rfl (lv_room (Nat.le_of_ble_eq_true rfl)) dL_law_377 ⟨(by show cn + 25 + 0 ≤ 600128; omega), (by show sn + 16098 + 0 ≤ 7301098; omega)⟩) hS (fun q _ h => hFc q h) hFc (fun r_16 u t9 H1 locs ht hvm hw hB hz1 hk1 hS => ?_)
  obtain ⟨F_18, th_19, N_20, L_21, hJ_22, hN8, hN9, hT9, hP1, _, hD1⟩ := hB
  rw [ht] at hP1
  obtain ⟨hP, hD⟩ := jn1 (C := (mW tC mo ma F th N L)) hP hD hk1 hFc hP1 hD1
  generalize H1 = H at hP hS ⊢
  have hw_17 := hw
  have hJ_22 : MI F_18 N_20 L_21 := hJ_22
  have hN7 : N_20 ≤ N + 0 := hN9
  have hP : va_P D vwCl (mW tC mo ma F_18 th_19 N_20 L_21 ++ ((oa, wL tC 1 fo_6) :: pl_11)) H := hP
  have hD : va_D A (mW tC mo ma F_18 th_19 N_20 L_21 ++ ((oa, wL tC 1 fo_6) :: pl_11)) := hD
  have hlk := lnk_c hlk hT9.2
  have hlu := lnu_c hlu hT9.1
  refine W.widen (k := cn + 25) (n := sn + 16098) (by omega) (by omega) ?_
  refine lv_istore (lv' := [(6, .int r_16), (5, .int r_3), (4, .int (nI (5 * c0))), (3, .ref oa), (2, .ref mo), (1, .ref (ad 0)), (0, .ref b)]) hx hb dL_law_380 hl (by decide) rfl (fun ls hl => ?_)
  refine lv_goto (tgt := 885) hx hb dL_law_382 (by decide) ?_
  refine W.widen (k := cn + 25) (n := sn + 16098) (by omega) (by omega) ?_
  subst hAe
  exact KK F_18 th_19 N_20 L_21 t_7 ed_8 cb up rs_9 cp_10 pl_11 fo_6 H locs ls ⟨hJ_22, by omega, hO_12, by omega, hlk, hlu, hP, hD, hS⟩ (lv_sub hl [2, 3, 4, 5, 6] rfl)
set_option maxHeartbeats 8000000 in
set_option maxRecDepth 100000 in
theorem lc_6 {p : Program} {l : Launch} {e : Env} {s : State} {m : MethodId} {below : List Frame} {meth : Method} {c : Code} {b Lx : Nat} {xs : Nat → Int32} (hlt : l.stackTraces = false) (C0 : lw_At p s m meth c b Lx xs) (hLx : Lx ≤ 320) (D : va_G) (tC : Nat → ClassId) (dz mo oa : Nat) (ma ad : Nat → Nat) (hK : va_K D vwCl (tY tC) s) (hN : eN s) (hE : eH dz (fun q : Nat => s.heap.size ≤ q) s s.heap) (c0 : Nat) (hc0 : 5 * c0 + 5 ≤ Lx) (cn sn : Nat) (hcn : cn ≤ 500000) (hsn : sn ≤ 7000000) (KK : ∀ (F : Nat → Nat → Int32) (th : Int32) (N L : Nat) (t : Nat → Nat × Nat) (ed : Nat) (cb up : Nat → Int32) (rs cp : Nat) (pl : va_W) (fo : Nat → Int64) (H : Heap) (locs : List Loc) (ls : Array Slot), LI D tC dz mo oa ma ad s (c0 + 1) F th N L t ed cb up rs cp pl fo H locs → lv_has ls 7 [(4, .int (nI (5 * c0))), (3, .ref oa), (2, .ref mo), (1, .ref (ad 0)), (0, .ref b)] → W p l e room_1 s m #[Value.ref b] below meth c H locs (cn + 25) (sn + 16098) (lw_Z below #[Value.ref b] s) (F0 m 885 ls [])) (F : Nat → Nat → Int32) (th : Int32) (N L : Nat) (t : Nat → Nat × Nat) (ed : Nat) (cb up : Nat → Int32) (rs cp : Nat) (pl : va_W) (fo : Nat → Int64) (H : Heap) (locs : List Loc) (ls : Array Slot) (hI : LI D tC dz mo oa ma ad s c0 F th N L t ed cb up rs cp pl fo H locs) (hl : lv_has ls 7 [(4, .int (nI (5 * c0))), (3, .ref oa), (2, .ref mo), (1, .ref (ad 0)), (0, .ref b)]) : W p l e room_1 s m #[Value.ref b] below meth c H locs cn sn (lw_Z below #[Value.ref b] s) (F0 m 385 ls []) := by
  obtain ⟨hx, hb, hr, hml, hown, hts0, hX, hbl, hlocks, hgv⟩ := C0
  have hts : ∀ w ∈ wsL_law, w.before #[Value.ref b] s = true := fun w h => hts0 w (wsL_law_in w h)
  have hown : s.vm.findClass RL = some m.cls := hown
  obtain ⟨hJ, hN9, hO, hrs9, hlk, hlu, hP, hD, hS⟩ := hI
  have hN5 := hJ.n9
  obtain ⟨A, hAe⟩ : ∃ A : Nat → Prop, A = fun q : Nat => s.heap.size ≤ q := ⟨_, rfl⟩
  rw [← hAe] at hE hD hS
  have hA : ∀ q : Nat, s.heap.size ≤ q → A q := fun q h => by rw [hAe]; exact h
  have hbA : ¬ A b := by rw [hAe]; exact Nat.not_le.mpr hbl
  refine lv_aload_n hx hb dL_law_385 rfl (lv_at hl 3 rfl) ?_
  refine lv_aload_n hx hb dL_law_386 rfl (lv_at hl 4 rfl) ?_
  refine lv_iload hx hb dL_law_387 (lv_at hl 0 rfl) ?_
  refine lv_iconst (v := 1) hx hb dL_law_389 (by decide) ?_
  refine lv_iadd hx hb dL_law_390 ?_
  refine lv_topi (fun z_1 ez_1 => ?_)
  have fz_1 : z_1 = (nI (5 * c0 + 1)) := ez_1.trans (show nI (5 * c0) + nI 1 = _ from nI_add _ _)
  subst fz_1
  refine va_sld hx hb hX hbl hbA hS (vp_in_nI (by omega) (by omega)) dL_law_391 ?_
  refine lv_topi (fun z_2 ez_2 => ?_)
  have hPc := apP (X := (mW tC mo ma F th N L)) hP
  have hDc := apD (X := (mW tC mo ma F th N L)) hD
  have hFc := freeA hDc hS hA
  refine vx_calli (vx_runSX (As := [.ref (ad 0), .int z_2]) (rest := []) ⟨hx, hb, hml, hown, hts⟩ (c_L_unlock l hlt D tC dz H.size pl t ad ed cb up rs cp hO oa fo z_2 ) (vx_cwSW 2 hts gL_law_L_unlock rfl rfl rfl (by decide +kernel) ⟨Nat.le_of_ble_eq_true rfl, Nat.le_of_ble_eq_true rfl⟩) ⟨pB_blind, pB_at hPc hDc hK hN hE hS hFc⟩ rfl rfl hl.1 rfl (lv_room (Nat.le_of_ble_eq_true rfl)) dL_law_392 ⟨(by show cn + 2 ≤ 600128; omega), (by show sn + 12 ≤ 7301098; omega)⟩) hS (fun q _ h => hFc q h) hFc (fun q _ h => hFc q h) (fun E ce q9 u t9 H1 locs ht hvm hpx hPE hz1 hk1 hS hce hcv hcl => False.elim hPE) (fun r_3 u t9 H1 locs ht hvm hw hB hz1 hk1 hS => ?_)
  obtain ⟨cb_4, up_5, fo_6⟩ := u
  obtain ⟨t_7, ed_8, rs_9, cp_10, pl_11, hrs_13, hO_12, hP1, _, hD1⟩ := hB
  rw [ht] at hP1
  obtain ⟨hP, hD⟩ := jn2 (X := (mW tC mo ma F th N L)) hP hD hk1 hFc hP1 hD1
  generalize H1 = H at hP hS ⊢
  have hw_14 := hw
  have hq9 : cb = cb_4 ∧ up = up_5 := ⟨hw.1.symm, hw.2.symm⟩
  obtain ⟨rfl, rfl⟩ := hq9
  have hO_12 : Ok tC dz t_7 ad ed_8 cb up rs_9 cp_10 pl_11 := hO_12
  have hrs_13 : rs_9 ≤ rs + 0 := hrs_13
  have hP : va_P D vwCl (mW tC mo ma F th N L ++ ((oa, wL tC 1 fo_6) :: pl_11)) H := hP
  have hD : va_D A (mW tC mo ma F th N L ++ ((oa, wL tC 1 fo_6) :: pl_11)) := hD
  refine W.widen (k := cn + 25) (n := sn + 16098) (by omega) (by omega) ?_
  refine lv_istore (lv' := [(5, .int r_3), (4, .int (nI (5 * c0))), (3, .ref oa), (2, .ref mo), (1, .ref (ad 0)), (0, .ref b)]) hx hb dL_law_395 hl (by decide) rfl (fun ls hl => ?_)
  refine lv_aload_n hx hb dL_law_397 rfl (lv_at hl 3 rfl) ?_
  refine lv_aload_n hx hb dL_law_398 rfl (lv_at hl 5 rfl) ?_
  refine lv_iload hx hb dL_law_399 (lv_at hl 1 rfl) ?_
  refine lv_iconst (v := 1) hx hb dL_law_401 (by decide) ?_
  refine lv_iadd hx hb dL_law_402 ?_
  refine lv_topi (fun z_15 ez_15 => ?_)
  have fz_15 : z_15 = (nI (5 * c0 + 1)) := ez_15.trans (show nI (5 * c0) + nI 1 = _ from nI_add _ _)
  subst fz_15
  refine va_sld hx hb hX hbl hbA hS (vp_in_nI (by omega) (by omega)) dL_law_403 ?_
  refine lv_eqi (v := z_2) ez_2.symm ?_
  have hPc := apP1 (X := (mW tC mo ma F th N L)) hP
  have hDc := apD1 (X := (mW tC mo ma F th N L)) hD
  have hFc := freeA hDc hS hA
  refine va_callv (va_runV (As := [.int z_2]) (rest := []) ⟨hx, hb, hml, hown, hts⟩ (c_X5_unlock l hlt D tC dz H.size mo ma F th N L hJ z_2 ) (cwV 1 hts gL_law_X5_unlock rfl rfl rfl (by decide +kernel) ⟨Nat.le_of_ble_eq_true rfl, Nat.le_of_ble_eq_true rfl⟩) ⟨pB_blind, va_recv hK hPc (ci := 6) (q0 := 0) rfl mW_0, pB_at hPc hDc hK hN hE hS hFc⟩ rfl rfl hl.1 rfl (lv_room (Nat.le_of_ble_eq_true rfl)) dL_law_404 ⟨(by show cn + 25 + 0 ≤ 600128; omega), (by show sn + 16098 + 0 ≤ 7301098; omega)⟩) hS (fun q _ h => hFc q h) hFc (fun u t9 H1 locs ht hvm hw hB hz1 hk1 hS => ?_)
  obtain ⟨F_18, th_19, N_20, L_21, hJ_22, hN8, hN9, hT9, hP1, _, hD1⟩ := hB
  rw [ht] at hP1
  obtain ⟨hP, hD⟩ := jn1 (C := (mW tC mo ma F th N L)) hP hD hk1 hFc hP1 hD1
  generalize H1 = H at hP hS ⊢
  have hw_17 := hw
  have hJ_22 : MI F_18 N_20 L_21 := hJ_22
  have hN7 : N_20 ≤ N + 0 := hN9
  have hP : va_P D vwCl (mW tC mo ma F_18 th_19 N_20 L_21 ++ ((oa, wL tC 1 fo_6) :: pl_11)) H := hP
  have hD : va_D A (mW tC mo ma F_18 th_19 N_20 L_21 ++ ((oa, wL tC 1 fo_6) :: pl_11)) := hD
  have hlk := lnk_c hlk hT9.2
  have hlu := lnu_c hlu hT9.1
  refine W.widen (k := cn + 25) (n := sn + 16098) (by omega) (by omega) ?_
  refine lv_goto (tgt := 885) hx hb dL_law_407 (by decide) ?_
  refine W.widen (k := cn + 25) (n := sn + 16098) (by omega) (by omega) ?_
  subst hAe
  exact KK F_18 th_19 N_20 L_21 t_7 ed_8 cb up rs_9 cp_10 pl_11 fo_6 H locs ls ⟨hJ_22, by omega, hO_12, by omega, hlk, hlu, hP, hD, hS⟩ (lv_sub hl [1, 2, 3, 4, 5] rfl)
set_option maxHeartbeats 8000000 in
set_option maxRecDepth 100000 in
theorem lc_7 {p : Program} {l : Launch} {e : Env} {s : State} {m : MethodId} {below : List Frame} {meth : Method} {c : Code} {b Lx : Nat} {xs : Nat → Int32} (hlt : l.stackTraces = false) (C0 : lw_At p s m meth c b Lx xs) (hLx : Lx ≤ 320) (D : va_G) (tC : Nat → ClassId) (dz mo oa : Nat) (ma ad : Nat → Nat) (hK : va_K D vwCl (tY tC) s) (hN : eN s) (hE : eH dz (fun q : Nat => s.heap.size ≤ q) s s.heap) (c0 : Nat) (hc0 : 5 * c0 + 5 ≤ Lx) (cn sn : Nat) (hcn : cn ≤ 500000) (hsn : sn ≤ 7000000) (KK : ∀ (F : Nat → Nat → Int32) (th : Int32) (N L : Nat) (t : Nat → Nat × Nat) (ed : Nat) (cb up : Nat → Int32) (rs cp : Nat) (pl : va_W) (fo : Nat → Int64) (H : Heap) (locs : List Loc) (ls : Array Slot), LI D tC dz mo oa ma ad s (c0 + 1) F th N L t ed cb up rs cp pl fo H locs → lv_has ls 7 [(4, .int (nI (5 * c0))), (3, .ref oa), (2, .ref mo), (1, .ref (ad 0)), (0, .ref b)] → W p l e room_1 s m #[Value.ref b] below meth c H locs (cn + 25) (sn + 16098) (lw_Z below #[Value.ref b] s) (F0 m 885 ls [])) (F : Nat → Nat → Int32) (th : Int32) (N L : Nat) (t : Nat → Nat × Nat) (ed : Nat) (cb up : Nat → Int32) (rs cp : Nat) (pl : va_W) (fo : Nat → Int64) (H : Heap) (locs : List Loc) (ls : Array Slot) (hI : LI D tC dz mo oa ma ad s c0 F th N L t ed cb up rs cp pl fo H locs) (hl : lv_has ls 7 [(4, .int (nI (5 * c0))), (3, .ref oa), (2, .ref mo), (1, .ref (ad 0)), (0, .ref b)]) : W p l e room_1 s m #[Value.ref b] below meth c H locs cn sn (lw_Z below #[Value.ref b] s) (F0 m 410 ls []) := by
  obtain ⟨hx, hb, hr, hml, hown, hts0, hX, hbl, hlocks, hgv⟩ := C0
  have hts : ∀ w ∈ wsL_law, w.before #[Value.ref b] s = true := fun w h => hts0 w (wsL_law_in w h)
  have hown : s.vm.findClass RL = some m.cls := hown
  obtain ⟨hJ, hN9, hO, hrs9, hlk, hlu, hP, hD, hS⟩ := hI
  have hN5 := hJ.n9
  obtain ⟨A, hAe⟩ : ∃ A : Nat → Prop, A = fun q : Nat => s.heap.size ≤ q := ⟨_, rfl⟩
  rw [← hAe] at hE hD hS
  have hA : ∀ q : Nat, s.heap.size ≤ q → A q := fun q h => by rw [hAe]; exact h
  have hbA : ¬ A b := by rw [hAe]; exact Nat.not_le.mpr hbl
  refine lv_aload_n hx hb dL_law_410 rfl (lv_at hl 3 rfl) ?_
  refine lv_aload_n hx hb dL_law_411 rfl (lv_at hl 4 rfl) ?_
  refine lv_iload hx hb dL_law_412 (lv_at hl 0 rfl) ?_
  refine lv_iconst (v := 1) hx hb dL_law_414 (by decide) ?_
  refine lv_iadd hx hb dL_law_415 ?_
  refine lv_topi (fun z_1 ez_1 => ?_)
  have fz_1 : z_1 = (nI (5 * c0 + 1)) := ez_1.trans (show nI (5 * c0) + nI 1 = _ from nI_add _ _)
  subst fz_1
  refine va_sld hx hb hX hbl hbA hS (vp_in_nI (by omega) (by omega)) dL_law_416 ?_
  refine lv_topi (fun z_2 ez_2 => ?_)
  refine lv_aload_n hx hb dL_law_417 rfl (lv_at hl 4 rfl) ?_
  refine lv_iload hx hb dL_law_418 (lv_at hl 0 rfl) ?_
  refine lv_iconst (v := 2) hx hb dL_law_420 (by decide) ?_
  refine lv_iadd hx hb dL_law_421 ?_
  refine lv_topi (fun z_3 ez_3 => ?_)
  have fz_3 : z_3 = (nI (5 * c0 + 2)) := ez_3.trans (show nI (5 * c0) + nI 2 = _ from nI_add _ _)
  subst fz_3
  refine va_sld hx hb hX hbl hbA hS (vp_in_nI (by omega) (by omega)) dL_law_422 ?_
  refine lv_topi (fun z_4 ez_4 => ?_)
  have hPc := apP (X := (mW tC mo ma F th N L)) hP
  have hDc := apD (X := (mW tC mo ma F th N L)) hD
  have hFc := freeA hDc hS hA
  refine vx_calli (vx_runSX (As := [.ref (ad 0), .int z_2, .int z_4]) (rest := []) ⟨hx, hb, hml, hown, hts⟩ (c_L_ask l hlt D tC dz H.size pl t ad ed cb up rs cp hO oa fo z_2 z_4 (by omega)) (vx_cwSW 3 hts gL_law_L_ask rfl rfl rfl (by decide +kernel) ⟨Nat.le_of_ble_eq_true rfl, Nat.le_of_ble_eq_true rfl⟩) ⟨pB_blind, pB_at hPc hDc hK hN hE hS hFc⟩ rfl rfl hl.1 rfl (lv_room (Nat.le_of_ble_eq_true rfl)) dL_law_423 ⟨(by show cn + 4 ≤ 600128; omega), (by show sn + 1617 ≤ 7301098; omega)⟩) hS (fun q _ h => hFc q h) hFc (fun q _ h => hFc q h) (fun E ce q9 u t9 H1 locs ht hvm hpx hPE hz1 hk1 hS hce hcv hcl => False.elim hPE) (fun r_5 u t9 H1 locs ht hvm hw hB hz1 hk1 hS => ?_)
  obtain ⟨cb_6, up_7, fo_8⟩ := u
  obtain ⟨t_9, ed_10, rs_11, cp_12, pl_13, hrs_15, hO_14, hP1, _, hD1⟩ := hB
  rw [ht] at hP1
  obtain ⟨hP, hD⟩ := jn2 (X := (mW tC mo ma F th N L)) hP hD hk1 hFc hP1 hD1
  generalize H1 = H at hP hS ⊢
  have hw_16 := hw
  have hq9 : cb = cb_6 ∧ up = up_7 := ⟨hw.1.symm, hw.2.symm⟩
  obtain ⟨rfl, rfl⟩ := hq9
  have hO_14 : Ok tC dz t_9 ad ed_10 cb up rs_11 cp_12 pl_13 := hO_14
  have hrs_15 : rs_11 ≤ rs + 1 := hrs_15
  have hP : va_P D vwCl (mW tC mo ma F th N L ++ ((oa, wL tC 1 fo_8) :: pl_13)) H := hP
  have hD : va_D A (mW tC mo ma F th N L ++ ((oa, wL tC 1 fo_8) :: pl_13)) := hD
  refine W.widen (k := cn + 25) (n := sn + 16098) (by omega) (by omega) ?_
  refine lv_istore (lv' := [(5, .int r_5), (4, .int (nI (5 * c0))), (3, .ref oa), (2, .ref mo), (1, .ref (ad 0)), (0, .ref b)]) hx hb dL_law_426 hl (by decide) rfl (fun ls hl => ?_)
  refine lv_aload_n hx hb dL_law_428 rfl (lv_at hl 3 rfl) ?_
  refine lv_aload_n hx hb dL_law_429 rfl (lv_at hl 5 rfl) ?_
  refine lv_iload hx hb dL_law_430 (lv_at hl 1 rfl) ?_
  refine lv_iconst (v := 1) hx hb dL_law_432 (by decide) ?_
  refine lv_iadd hx hb dL_law_433 ?_
  refine lv_topi (fun z_17 ez_17 => ?_)
  have fz_17 : z_17 = (nI (5 * c0 + 1)) := ez_17.trans (show nI (5 * c0) + nI 1 = _ from nI_add _ _)
  subst fz_17
  refine va_sld hx hb hX hbl hbA hS (vp_in_nI (by omega) (by omega)) dL_law_434 ?_
  refine lv_eqi (v := z_2) ez_2.symm ?_
  refine lv_aload_n hx hb dL_law_435 rfl (lv_at hl 5 rfl) ?_
  refine lv_iload hx hb dL_law_436 (lv_at hl 1 rfl) ?_
  refine lv_iconst (v := 2) hx hb dL_law_438 (by decide) ?_
  refine lv_iadd hx hb dL_law_439 ?_
  refine lv_topi (fun z_18 ez_18 => ?_)
  have fz_18 : z_18 = (nI (5 * c0 + 2)) := ez_18.trans (show nI (5 * c0) + nI 2 = _ from nI_add _ _)
  subst fz_18
  refine va_sld hx hb hX hbl hbA hS (vp_in_nI (by omega) (by omega)) dL_law_440 ?_
  refine lv_eqi (v := z_4) ez_4.symm ?_
  have hPc := apP1 (X := (mW tC mo ma F th N L)) hP
  have hDc := apD1 (X := (mW tC mo ma F th N L)) hD
  have hFc := freeA hDc hS hA
  refine va_callv (va_runV (As := [.int z_2, .int z_4]) (rest := []) ⟨hx, hb, hml, hown, hts⟩ (c_X5_ask l hlt D tC dz H.size mo ma F th N L hJ z_2 z_4 ) (cwV 2 hts gL_law_X5_ask rfl rfl rfl (by decide +kernel) ⟨Nat.le_of_ble_eq_true rfl, Nat.le_of_ble_eq_true rfl⟩) ⟨pB_blind, va_recv hK hPc (ci := 6) (q0 := 0) rfl mW_0, pB_at hPc hDc hK hN hE hS hFc⟩ rfl rfl hl.1 rfl (lv_room (Nat.le_of_ble_eq_true rfl)) dL_law_441 ⟨(by show cn + 25 + 0 ≤ 600128; omega), (by show sn + 16098 + 0 ≤ 7301098; omega)⟩) hS (fun q _ h => hFc q h) hFc (fun u t9 H1 locs ht hvm hw hB hz1 hk1 hS => ?_)
  obtain ⟨F_21, th_22, N_23, L_24, hJ_25, hN8, hN9, hT9, hP1, _, hD1⟩ := hB
  rw [ht] at hP1
  obtain ⟨hP, hD⟩ := jn1 (C := (mW tC mo ma F th N L)) hP hD hk1 hFc hP1 hD1
  generalize H1 = H at hP hS ⊢
  have hw_20 := hw
  have hJ_25 : MI F_21 N_23 L_24 := hJ_25
  have hN7 : N_23 ≤ N + 0 := hN9
  have hP : va_P D vwCl (mW tC mo ma F_21 th_22 N_23 L_24 ++ ((oa, wL tC 1 fo_8) :: pl_13)) H := hP
  have hD : va_D A (mW tC mo ma F_21 th_22 N_23 L_24 ++ ((oa, wL tC 1 fo_8) :: pl_13)) := hD
  have hlk := lnk_c hlk hT9.2
  have hlu := lnu_c hlu hT9.1
  refine W.widen (k := cn + 25) (n := sn + 16098) (by omega) (by omega) ?_
  refine lv_goto (tgt := 885) hx hb dL_law_444 (by decide) ?_
  refine W.widen (k := cn + 25) (n := sn + 16098) (by omega) (by omega) ?_
  subst hAe
  exact KK F_21 th_22 N_23 L_24 t_9 ed_10 cb up rs_11 cp_12 pl_13 fo_8 H locs ls ⟨hJ_25, by omega, hO_14, by omega, hlk, hlu, hP, hD, hS⟩ (lv_sub hl [1, 2, 3, 4, 5] rfl)
