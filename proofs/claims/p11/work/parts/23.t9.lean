set_option maxRecDepth 100000 in
theorem dX4_cable_0 : decode cX4_cable 0 = .ok (.aload_n 0, 1) := by decide +kernel
set_option maxRecDepth 100000 in
theorem dX4_cable_1 : decode cX4_cable 1 = .ok (.iload_n 1, 1) := by decide +kernel
set_option maxRecDepth 100000 in
theorem dX4_cable_2 : decode cX4_cable 2 = .ok (.iload_n 2, 1) := by decide +kernel
set_option maxRecDepth 100000 in
theorem dX4_cable_3 : decode cX4_cable 3 = .ok (.invokevirtual 38, 3) := by decide +kernel
set_option maxRecDepth 20000 in
theorem ggX4_cable_X4_requireTwoStations : GoodIn wsX4_cable wsX4_requireTwoStations := goodIn_ca (goodIn_r _ [6, 7, 8, 9, 10, 5, 11] (by decide +kernel) (by decide +kernel)) (goodIn_sub (fun _ h => List.mem_cons_of_mem _ (List.mem_append_right _ h)) (by decide +kernel))
set_option maxRecDepth 20000 in
theorem gX4_cable_X4_requireTwoStations : GoodIn wsX4_cable (wsV RX4 38 RX4 yX4_requireTwoStations wsX4_requireTwoStations) := goodIn_app (goodIn_of _ (by decide +kernel)) ggX4_cable_X4_requireTwoStations
set_option maxRecDepth 100000 in
theorem dX4_cable_6 : decode cX4_cable 6 = .ok (.aload_n 0, 1) := by decide +kernel
set_option maxRecDepth 100000 in
theorem dX4_cable_7 : decode cX4_cable 7 = .ok (.getfield 15, 3) := by decide +kernel
set_option maxRecDepth 100000 in
theorem in_X4_cable_X4 : ∀ w ∈ wsX40, w ∈ wsX4_cable := fun _ h => List.mem_cons_of_mem _ (List.mem_append_left _ (List.mem_append_right _ h))
set_option maxRecDepth 100000 in
theorem dX4_cable_10 : decode cX4_cable 10 = .ok (.iload_n 1, 1) := by decide +kernel
set_option maxRecDepth 100000 in
theorem dX4_cable_11 : decode cX4_cable 11 = .ok (.iaload, 1) := by decide +kernel
set_option maxRecDepth 100000 in
theorem dX4_cable_12 : decode cX4_cable 12 = .ok (.iconst 1, 1) := by decide +kernel
set_option maxRecDepth 100000 in
theorem dX4_cable_13 : decode cX4_cable 13 = .ok (.iload_n 2, 1) := by decide +kernel
set_option maxRecDepth 100000 in
theorem dX4_cable_14 : decode cX4_cable 14 = .ok (.ishl, 1) := by decide +kernel
set_option maxRecDepth 100000 in
theorem dX4_cable_15 : decode cX4_cable 15 = .ok (.iand, 1) := by decide +kernel
set_option maxRecDepth 100000 in
theorem dX4_cable_16 : decode cX4_cable 16 = .ok (.ifCond .eq 7, 3) := by decide +kernel
set_option maxRecDepth 100000 in
theorem dX4_cable_23 : decode cX4_cable 23 = .ok (.iconst 0, 1) := by decide +kernel
set_option maxRecDepth 100000 in
theorem dX4_cable_24 : decode cX4_cable 24 = .ok (.istore 4, 2) := by decide +kernel
set_option maxRecDepth 100000 in
theorem dX4_cable_26 : decode cX4_cable 26 = .ok (.iload 4, 2) := by decide +kernel
set_option maxRecDepth 100000 in
theorem dX4_cable_28 : decode cX4_cable 28 = .ok (.iload_n 3, 1) := by decide +kernel
set_option maxRecDepth 100000 in
theorem dX4_cable_29 : decode cX4_cable 29 = .ok (.if_icmp .ne 5, 3) := by decide +kernel
set_option maxRecDepth 100000 in
theorem dX4_cable_34 : decode cX4_cable 34 = .ok (.aload_n 0, 1) := by decide +kernel
set_option maxRecDepth 100000 in
theorem dX4_cable_35 : decode cX4_cable 35 = .ok (.getfield 15, 3) := by decide +kernel
set_option maxRecDepth 100000 in
theorem dX4_cable_38 : decode cX4_cable 38 = .ok (.iload_n 1, 1) := by decide +kernel
set_option maxRecDepth 100000 in
theorem dX4_cable_39 : decode cX4_cable 39 = .ok (.dup2, 1) := by decide +kernel
set_option maxRecDepth 100000 in
theorem dX4_cable_40 : decode cX4_cable 40 = .ok (.iaload, 1) := by decide +kernel
set_option maxRecDepth 100000 in
theorem dX4_cable_41 : decode cX4_cable 41 = .ok (.iconst 1, 1) := by decide +kernel
set_option maxRecDepth 100000 in
theorem dX4_cable_42 : decode cX4_cable 42 = .ok (.iload_n 2, 1) := by decide +kernel
set_option maxRecDepth 100000 in
theorem dX4_cable_43 : decode cX4_cable 43 = .ok (.ishl, 1) := by decide +kernel
set_option maxRecDepth 100000 in
theorem dX4_cable_44 : decode cX4_cable 44 = .ok (.ixor, 1) := by decide +kernel
set_option maxRecDepth 100000 in
theorem dX4_cable_45 : decode cX4_cable 45 = .ok (.iastore, 1) := by decide +kernel
set_option maxRecDepth 100000 in
theorem dX4_cable_46 : decode cX4_cable 46 = .ok (.aload_n 0, 1) := by decide +kernel
set_option maxRecDepth 100000 in
theorem dX4_cable_47 : decode cX4_cable 47 = .ok (.getfield 15, 3) := by decide +kernel
set_option maxRecDepth 100000 in
theorem dX4_cable_50 : decode cX4_cable 50 = .ok (.iload_n 2, 1) := by decide +kernel
set_option maxRecDepth 100000 in
theorem dX4_cable_51 : decode cX4_cable 51 = .ok (.dup2, 1) := by decide +kernel
set_option maxRecDepth 100000 in
theorem dX4_cable_52 : decode cX4_cable 52 = .ok (.iaload, 1) := by decide +kernel
set_option maxRecDepth 100000 in
theorem dX4_cable_53 : decode cX4_cable 53 = .ok (.iconst 1, 1) := by decide +kernel
set_option maxRecDepth 100000 in
theorem dX4_cable_54 : decode cX4_cable 54 = .ok (.iload_n 1, 1) := by decide +kernel
set_option maxRecDepth 100000 in
theorem dX4_cable_55 : decode cX4_cable 55 = .ok (.ishl, 1) := by decide +kernel
set_option maxRecDepth 100000 in
theorem dX4_cable_56 : decode cX4_cable 56 = .ok (.ixor, 1) := by decide +kernel
set_option maxRecDepth 100000 in
theorem dX4_cable_57 : decode cX4_cable 57 = .ok (.iastore, 1) := by decide +kernel
set_option maxRecDepth 100000 in
theorem dX4_cable_58 : decode cX4_cable 58 = .ok (.iconst 1, 1) := by decide +kernel
set_option maxRecDepth 100000 in
theorem dX4_cable_59 : decode cX4_cable 59 = .ok (.ireturn, 1) := by decide +kernel
set_option maxRecDepth 100000 in
theorem dX4_cable_32 : decode cX4_cable 32 = .ok (.iconst 0, 1) := by decide +kernel
set_option maxRecDepth 100000 in
theorem dX4_cable_33 : decode cX4_cable 33 = .ok (.ireturn, 1) := by decide +kernel
set_option maxRecDepth 100000 in
theorem dX4_cable_19 : decode cX4_cable 19 = .ok (.iconst 1, 1) := by decide +kernel
set_option maxRecDepth 100000 in
theorem dX4_cable_20 : decode cX4_cable 20 = .ok (.goto 4, 3) := by decide +kernel
set_option maxHeartbeats 4000000 in
set_option maxRecDepth 100000 in
theorem c_X4_cable (l : Launch) (hlt : l.stackTraces = false) (D : va_G) (tC : Nat → ClassId) (dz sz : Nat) (pl : va_W) (t : Nat → Nat × Nat) (ad : Nat → Nat) (ed : Nat) (cb up : Nat → Int32) (rs cp : Nat) (hO : Ok tC dz t ad ed cb up rs cp pl) (p0 : Int32) (p1 : Int32) (v : Int32)  : vx_Met l yX4_cable wsX4_cable ({ frames := 7, cells := 1, slots := 6, locals := 104 }) (va_Pc [.ref (ad 0), .int p0, .int p1, .int v] (pB D tC dz pl sz)) (va_Qi (fun (r : Int32) (u2 : Nat → Int32) => ∃ j k : Nat, j < 5 ∧ k < 5 ∧ p0 = nI j ∧ p1 = nI k ∧ j ≠ k ∧ ((r = 0 ∧ u2 = cb ∧ cbit1 cb j k = v) ∨ (r = 1 ∧ ¬ cbit1 cb j k = v ∧ u2 = cbx (cbx cb j k) k j))) (fun (u2 : Nat → Int32) t9 => ∃ (t2 : Nat → Nat × Nat) (ed2 rs2 cp2 : Nat) (pl2 : va_W), tLe t t2 ∧ rs2 ≤ rs + 0 ∧ Ok tC dz t2 ad ed2 u2 up rs2 cp2 pl2 ∧ pA D tC (va_A pl sz) pl2 t9) (va_A pl sz)) (xX (fun E => E = "java/lang/IndexOutOfBoundsException" ∧ ((p0 < 0 ∨ 5 ≤ p0) ∨ (p1 < 0 ∨ 5 ≤ p1) ∨ p0 = p1)) (xN sz)) 1 6 (va_A pl sz) := by
  refine vx_ofW (cc := cX4_cable) (maxL := 5) (ret := (some .boolean)) (by decide) rfl ?_
  intro p e s m args below meth c s₁ B hml hnx hv
  obtain ⟨rfl, hsz, hP, hK, hD0, hN, hE⟩ := hv
  have hx := B.exec
  have hb := B.bytes
  have hr := B.returns
  have hts := atoms_spec (ws := wsX4_cable) B.pre
  have hown : s.vm.findClass RX4 = some m.cls := findClass_of_methodNamed B.named
  have hlocks := B.notSynchronized
  subst hsz
  have hD := hD0.self (sz := s.heap.size)
  have hAm : ∀ q : Nat, xN s.heap.size q → va_A pl s.heap.size q := xN_A
  have hN0 : ∀ q : Nat, s.heap.size ≤ q → xN s.heap.size q := fun _ h => h
  have hE0 := eH_narrow hE hAm
  generalize va_A pl s.heap.size = A at hD hE hAm
  have hA : ∀ q : Nat, s.heap.size ≤ q → A q := fun q h => hAm q h
  have hS : va_S (xN s.heap.size) s.heap s.heap [] := va_S.rf
  obtain ⟨rs0, hrs0⟩ : ∃ z9, z9 = rs := ⟨_, rfl⟩
  obtain ⟨up0, hup0⟩ : ∃ z9, z9 = up := ⟨_, rfl⟩
  obtain ⟨cb0, hcb0⟩ : ∃ z9, z9 = cb := ⟨_, rfl⟩
  have hLe : tLe t t := tLe.rf
  have hRs : rs ≤ rs0 + 0 := by omega
  have hl := lv_entry ([.ref (ad 0), .int p0, .int p1, .int v]) (n := 5) (Nat.le_of_ble_eq_true rfl)
  rw [lg_entry_eq]
  generalize (lg_sl ([.ref (ad 0), .int p0, .int p1, .int v]) ++ List.replicate (5 - (lg_sl ([.ref (ad 0), .int p0, .int p1, .int v])).length) Slot.unset).toArray = ls at hl ⊢
  have hl : lv_has ls 5 [(0, .ref (ad 0)), (1, .int p0), (2, .int p1), (3, .int v)] := hl
  have w_0 := hts (.fieldLink RX4 15 "NoticeStations" "cables" "[I") (by decide +kernel)
  refine lv_aload_n hx hb dX4_cable_0 rfl (lv_at hl 0 rfl) ?_
  refine lv_iload_n hx hb dX4_cable_1 rfl (lv_at hl 1 rfl) ?_
  refine lv_iload_n hx hb dX4_cable_2 rfl (lv_at hl 2 rfl) ?_
  obtain ⟨p_1, hp_1⟩ := hO.k7
  refine vx_callv (vx_runV (As := [.int p0, .int p1]) (rest := []) ⟨hx, hb, hml, hown, hts⟩ (c_X4_requireTwoStations l hlt D tC dz s.heap.size pl t ad ed cb up rs cp hO p0 p1 ) (cwV 2 hts gX4_cable_X4_requireTwoStations rfl rfl rfl (by decide +kernel) ⟨Nat.le_of_ble_eq_true rfl, Nat.le_of_ble_eq_true rfl⟩) ⟨pB_blind, va_recv hK hP (ci := 5) (q0 := p_1) rfl hp_1, pB_at hP hD hK hN hE (hS.mono hAm) (freeA hD (hS.mono hAm) hA)⟩ rfl rfl hl.1 rfl (lv_room (Nat.le_of_ble_eq_true rfl)) dX4_cable_3 ⟨Nat.le_of_ble_eq_true rfl, Nat.le_of_ble_eq_true rfl⟩) hS oldN (freeN hS hN0) oldN (fun E ce q9 u t9 H1 locs ht hvm hpx hPE hz1 hk1 hS hce hcv hcl => ?_) (fun u t9 H1 locs ht hvm hw hB hz1 hk1 hS => ?_)
  · skip
    have hP := keepP hP hk1
    generalize H1 = H at hP hS hce ⊢
    exact vx_out (fun x h => (hnx x h).elim) hlocks hce hcv hcl (fun t9 h9 _ => ⟨(), trivial, hPE, hS.F h9⟩) (fun z9 h9 => hAm _ (hS.2.2 z9 h9)) (Nat.le_of_ble_eq_true rfl) (Nat.le_of_ble_eq_true rfl)
  · skip
    have hw_3 := hw
    have hP := keepP hP hk1
    generalize H1 = H at hP hS ⊢
    refine W.widen (k := 1) (n := 6) (by omega) (by omega) ?_
    obtain ⟨j_4, k_5, hj_4, hk_5, ej_4, ek_5, hn_6⟩ := hw_3
    subst ej_4
    subst ek_5
    refine lv_aload_n hx hb dX4_cable_6 rfl (lv_at hl 0 rfl) ?_
    refine va_get (D := D) (ci := 5) (v := .ref (ad 2)) (C := RX4) (T := TX4) (N := 4) hx hb hts in_X4_cable_X4 hown hK hP p_1 hp_1 rfl 1 (by decide) w_0 (fun _ h9 => h9) rfl dX4_cable_7 ?_
    refine lv_iload_n hx hb dX4_cable_10 rfl (lv_at hl 1 rfl) ?_
    obtain ⟨p_7, hp_7⟩ := hO.k9
    refine va_iald hx hb hK hP p_7 0 hp_7 rfl (in5 hj_4) dX4_cable_11 ?_
    refine lv_topi (fun z_8 ez_8 => ?_)
    refine lv_iconst (v := 1) hx hb dX4_cable_12 (by decide) ?_
    refine lv_iload_n hx hb dX4_cable_13 rfl (lv_at hl 2 rfl) ?_
    refine lv_ishl hx hb dX4_cable_14 ?_
    refine lv_topi (fun z_9 ez_9 => ?_)
    refine lv_iand hx hb dX4_cable_15 ?_
    refine lv_topi (fun z_10 ez_10 => ?_)
    refine lv_if_eq (tgt := 23) hx hb dX4_cable_16 (by decide) (fun c_11 => ?_) (fun c_11 => ?_)
    · skip
      refine lv_iconst (v := 0) hx hb dX4_cable_23 (by decide) ?_
      refine lv_istore (lv' := [(4, .int 0), (0, .ref (ad 0)), (1, .int (nI j_4)), (2, .int (nI k_5)), (3, .int v)]) hx hb dX4_cable_24 hl (by decide) rfl (fun ls hl => ?_)
      refine lv_iload hx hb dX4_cable_26 (lv_at hl 0 rfl) ?_
      refine lv_iload_n hx hb dX4_cable_28 rfl (lv_at hl 4 rfl) ?_
      refine lv_icmp_ne (tgt := 34) hx hb dX4_cable_29 (by decide) (fun c_12 => ?_) (fun c_12 => ?_)
      · skip
        refine lv_aload_n hx hb dX4_cable_34 rfl (lv_at hl 1 rfl) ?_
        refine va_get (D := D) (ci := 5) (v := .ref (ad 2)) (C := RX4) (T := TX4) (N := 4) hx hb hts in_X4_cable_X4 hown hK hP p_1 hp_1 rfl 1 (by decide) w_0 (fun _ h9 => h9) rfl dX4_cable_35 ?_
        refine lv_iload_n hx hb dX4_cable_38 rfl (lv_at hl 2 rfl) ?_
        refine lv_dup2_11 hx hb dX4_cable_39 rfl rfl ?_
        refine va_iald hx hb hK hP p_7 0 hp_7 rfl (in5 hj_4) dX4_cable_40 ?_
        refine lv_topi (fun z_13 ez_13 => ?_)
        refine lv_iconst (v := 1) hx hb dX4_cable_41 (by decide) ?_
        refine lv_iload_n hx hb dX4_cable_42 rfl (lv_at hl 3 rfl) ?_
        refine lv_ishl hx hb dX4_cable_43 ?_
        refine lv_topi (fun z_14 ez_14 => ?_)
        refine lv_ixor hx hb dX4_cable_44 ?_
        refine lv_topi (fun z_15 ez_15 => ?_)
        have hS := hS.mono hAm
        refine va_iast hx hb hK hP hD hS p_7 0 hp_7 rfl (in5 hj_4) dX4_cable_45 (fun H locs hP hD hS => ?_)
        have hO := hO.pCb (f := upd cb (nI j_4).toNatClampNeg z_15) hp_7
        obtain ⟨cb, hcb_16⟩ : ∃ z9, z9 = upd cb (nI j_4).toNatClampNeg z_15 := ⟨_, rfl⟩
        rw [← hcb_16] at hO hP hD
        obtain ⟨pl, hpl9⟩ : ∃ z9, z9 = pl.set p_7 ((ad 2), wI tC 5 cb) := ⟨_, rfl⟩
        have hk_17 := setP hp_7 hpl9
        have hP : va_P D vwCl pl H := by rw [hpl9]; exact hP
        have hD : va_D A pl := by rw [hpl9]; exact hD
        have hO : Ok tC dz t ad ed cb up rs cp pl := by rw [hpl9]; exact hO
        refine lv_aload_n hx hb dX4_cable_46 rfl (lv_at hl 1 rfl) ?_
        obtain ⟨p_18, hp_18⟩ := hO.k7
        refine va_get (D := D) (ci := 5) (v := .ref (ad 2)) (C := RX4) (T := TX4) (N := 4) hx hb hts in_X4_cable_X4 hown hK hP p_18 hp_18 rfl 1 (by decide) w_0 (fun _ h9 => h9) rfl dX4_cable_47 ?_
        refine lv_iload_n hx hb dX4_cable_50 rfl (lv_at hl 3 rfl) ?_
        refine lv_dup2_11 hx hb dX4_cable_51 rfl rfl ?_
        refine va_iald hx hb hK hP p_7 0 hk_17 rfl (in5 hk_5) dX4_cable_52 ?_
        refine lv_topi (fun z_19 ez_19 => ?_)
        refine lv_iconst (v := 1) hx hb dX4_cable_53 (by decide) ?_
        refine lv_iload_n hx hb dX4_cable_54 rfl (lv_at hl 2 rfl) ?_
        refine lv_ishl hx hb dX4_cable_55 ?_
        refine lv_topi (fun z_20 ez_20 => ?_)
        refine lv_ixor hx hb dX4_cable_56 ?_
        refine lv_topi (fun z_21 ez_21 => ?_)
        refine va_iast hx hb hK hP hD hS p_7 0 hk_17 rfl (in5 hk_5) dX4_cable_57 (fun H locs hP hD hS => ?_)
        have hO := hO.pCb (f := upd cb (nI k_5).toNatClampNeg z_21) hk_17
        obtain ⟨cb, hcb_22⟩ : ∃ z9, z9 = upd cb (nI k_5).toNatClampNeg z_21 := ⟨_, rfl⟩
        rw [← hcb_22] at hO hP hD
        obtain ⟨pl, hpl9⟩ : ∃ z9, z9 = pl.set p_7 ((ad 2), wI tC 5 cb) := ⟨_, rfl⟩
        have hk_23 := setP hk_17 hpl9
        have hP : va_P D vwCl pl H := by rw [hpl9]; exact hP
        have hD : va_D A pl := by rw [hpl9]; exact hD
        have hO : Ok tC dz t ad ed cb up rs cp pl := by rw [hpl9]; exact hO
        refine lv_iconst (v := 1) hx hb dX4_cable_58 (by decide) ?_
        refine W.widen (k := 1) (n := 6) (by omega) (by omega) ?_
        exact vx_ret (W.zret (v := 1) hx hb hr (by decide) (fun t9 ht hW => ⟨⟨1, cb, rfl, ⟨j_4, k_5, hj_4, hk_5, rfl, rfl, hn_6, Or.inr ⟨rfl, fun h8 => c_12 ((show cbit1 _ j_4 k_5 = 0 from if_pos (by have h9 := c_11; simp only [ez_8, ez_9, ez_10, ez_13, ez_14, ez_15, ez_19, ez_20, ez_21, cl5 hj_4, cl5 hk_5] at h9; exact h9)).symm.trans h8), (by simp only [cbx, hcb_22, hcb_16, ez_8, ez_9, ez_10, ez_13, ez_14, ez_15, ez_19, ez_20, ez_21, cl5 hj_4, cl5 hk_5])⟩⟩, ⟨t, ed, rs, cp, pl, hLe, by omega, hO, (by rw [ht]; exact hP), va_K.moved hW.alike hK, hD⟩⟩, hS.F ht⟩) hS.2.2 dX4_cable_59 hlocks)
      · skip
        refine lv_iconst (v := 0) hx hb dX4_cable_32 (by decide) ?_
        have hS := hS.mono hAm
        refine W.widen (k := 1) (n := 6) (by omega) (by omega) ?_
        exact vx_ret (W.zret (v := 0) hx hb hr (by decide) (fun t9 ht hW => ⟨⟨0, cb, rfl, ⟨j_4, k_5, hj_4, hk_5, rfl, rfl, hn_6, Or.inl ⟨rfl, rfl, (show cbit1 _ j_4 k_5 = 0 from if_pos (by have h9 := c_11; simp only [ez_8, ez_9, ez_10, cl5 hj_4, cl5 hk_5] at h9; exact h9)).trans c_12⟩⟩, ⟨t, ed, rs, cp, pl, hLe, by omega, hO, (by rw [ht]; exact hP), va_K.moved hW.alike hK, hD⟩⟩, hS.F ht⟩) hS.2.2 dX4_cable_33 hlocks)
    · skip
      refine lv_iconst (v := 1) hx hb dX4_cable_19 (by decide) ?_
      refine lv_goto (tgt := 24) hx hb dX4_cable_20 (by decide) ?_
      refine lv_istore (lv' := [(4, .int 1), (0, .ref (ad 0)), (1, .int (nI j_4)), (2, .int (nI k_5)), (3, .int v)]) hx hb dX4_cable_24 hl (by decide) rfl (fun ls hl => ?_)
      refine lv_iload hx hb dX4_cable_26 (lv_at hl 0 rfl) ?_
      refine lv_iload_n hx hb dX4_cable_28 rfl (lv_at hl 4 rfl) ?_
      refine lv_icmp_ne (tgt := 34) hx hb dX4_cable_29 (by decide) (fun c_24 => ?_) (fun c_24 => ?_)
      · skip
        refine lv_aload_n hx hb dX4_cable_34 rfl (lv_at hl 1 rfl) ?_
        refine va_get (D := D) (ci := 5) (v := .ref (ad 2)) (C := RX4) (T := TX4) (N := 4) hx hb hts in_X4_cable_X4 hown hK hP p_1 hp_1 rfl 1 (by decide) w_0 (fun _ h9 => h9) rfl dX4_cable_35 ?_
        refine lv_iload_n hx hb dX4_cable_38 rfl (lv_at hl 2 rfl) ?_
        refine lv_dup2_11 hx hb dX4_cable_39 rfl rfl ?_
        refine va_iald hx hb hK hP p_7 0 hp_7 rfl (in5 hj_4) dX4_cable_40 ?_
        refine lv_topi (fun z_25 ez_25 => ?_)
        refine lv_iconst (v := 1) hx hb dX4_cable_41 (by decide) ?_
        refine lv_iload_n hx hb dX4_cable_42 rfl (lv_at hl 3 rfl) ?_
        refine lv_ishl hx hb dX4_cable_43 ?_
        refine lv_topi (fun z_26 ez_26 => ?_)
        refine lv_ixor hx hb dX4_cable_44 ?_
        refine lv_topi (fun z_27 ez_27 => ?_)
        have hS := hS.mono hAm
        refine va_iast hx hb hK hP hD hS p_7 0 hp_7 rfl (in5 hj_4) dX4_cable_45 (fun H locs hP hD hS => ?_)
        have hO := hO.pCb (f := upd cb (nI j_4).toNatClampNeg z_27) hp_7
        obtain ⟨cb, hcb_28⟩ : ∃ z9, z9 = upd cb (nI j_4).toNatClampNeg z_27 := ⟨_, rfl⟩
        rw [← hcb_28] at hO hP hD
        obtain ⟨pl, hpl9⟩ : ∃ z9, z9 = pl.set p_7 ((ad 2), wI tC 5 cb) := ⟨_, rfl⟩
        have hk_29 := setP hp_7 hpl9
        have hP : va_P D vwCl pl H := by rw [hpl9]; exact hP
        have hD : va_D A pl := by rw [hpl9]; exact hD
        have hO : Ok tC dz t ad ed cb up rs cp pl := by rw [hpl9]; exact hO
        refine lv_aload_n hx hb dX4_cable_46 rfl (lv_at hl 1 rfl) ?_
        obtain ⟨p_30, hp_30⟩ := hO.k7
        refine va_get (D := D) (ci := 5) (v := .ref (ad 2)) (C := RX4) (T := TX4) (N := 4) hx hb hts in_X4_cable_X4 hown hK hP p_30 hp_30 rfl 1 (by decide) w_0 (fun _ h9 => h9) rfl dX4_cable_47 ?_
        refine lv_iload_n hx hb dX4_cable_50 rfl (lv_at hl 3 rfl) ?_
        refine lv_dup2_11 hx hb dX4_cable_51 rfl rfl ?_
        refine va_iald hx hb hK hP p_7 0 hk_29 rfl (in5 hk_5) dX4_cable_52 ?_
        refine lv_topi (fun z_31 ez_31 => ?_)
        refine lv_iconst (v := 1) hx hb dX4_cable_53 (by decide) ?_
        refine lv_iload_n hx hb dX4_cable_54 rfl (lv_at hl 2 rfl) ?_
        refine lv_ishl hx hb dX4_cable_55 ?_
        refine lv_topi (fun z_32 ez_32 => ?_)
        refine lv_ixor hx hb dX4_cable_56 ?_
        refine lv_topi (fun z_33 ez_33 => ?_)
        refine va_iast hx hb hK hP hD hS p_7 0 hk_29 rfl (in5 hk_5) dX4_cable_57 (fun H locs hP hD hS => ?_)
        have hO := hO.pCb (f := upd cb (nI k_5).toNatClampNeg z_33) hk_29
        obtain ⟨cb, hcb_34⟩ : ∃ z9, z9 = upd cb (nI k_5).toNatClampNeg z_33 := ⟨_, rfl⟩
        rw [← hcb_34] at hO hP hD
        obtain ⟨pl, hpl9⟩ : ∃ z9, z9 = pl.set p_7 ((ad 2), wI tC 5 cb) := ⟨_, rfl⟩
        have hk_35 := setP hk_29 hpl9
        have hP : va_P D vwCl pl H := by rw [hpl9]; exact hP
        have hD : va_D A pl := by rw [hpl9]; exact hD
        have hO : Ok tC dz t ad ed cb up rs cp pl := by rw [hpl9]; exact hO
        refine lv_iconst (v := 1) hx hb dX4_cable_58 (by decide) ?_
        refine W.widen (k := 1) (n := 6) (by omega) (by omega) ?_
        exact vx_ret (W.zret (v := 1) hx hb hr (by decide) (fun t9 ht hW => ⟨⟨1, cb, rfl, ⟨j_4, k_5, hj_4, hk_5, rfl, rfl, hn_6, Or.inr ⟨rfl, fun h8 => c_24 ((show cbit1 _ j_4 k_5 = 1 from if_neg (by have h9 := c_11; simp only [ez_8, ez_9, ez_10, ez_25, ez_26, ez_27, ez_31, ez_32, ez_33, cl5 hj_4, cl5 hk_5] at h9; exact h9)).symm.trans h8), (by simp only [cbx, hcb_34, hcb_28, ez_8, ez_9, ez_10, ez_25, ez_26, ez_27, ez_31, ez_32, ez_33, cl5 hj_4, cl5 hk_5])⟩⟩, ⟨t, ed, rs, cp, pl, hLe, by omega, hO, (by rw [ht]; exact hP), va_K.moved hW.alike hK, hD⟩⟩, hS.F ht⟩) hS.2.2 dX4_cable_59 hlocks)
      · skip
        refine lv_iconst (v := 0) hx hb dX4_cable_32 (by decide) ?_
        have hS := hS.mono hAm
        refine W.widen (k := 1) (n := 6) (by omega) (by omega) ?_
        exact vx_ret (W.zret (v := 0) hx hb hr (by decide) (fun t9 ht hW => ⟨⟨0, cb, rfl, ⟨j_4, k_5, hj_4, hk_5, rfl, rfl, hn_6, Or.inl ⟨rfl, rfl, (show cbit1 _ j_4 k_5 = 1 from if_neg (by have h9 := c_11; simp only [ez_8, ez_9, ez_10, cl5 hj_4, cl5 hk_5] at h9; exact h9)).trans c_24⟩⟩, ⟨t, ed, rs, cp, pl, hLe, by omega, hO, (by rw [ht]; exact hP), va_K.moved hW.alike hK, hD⟩⟩, hS.F ht⟩) hS.2.2 dX4_cable_33 hlocks)
