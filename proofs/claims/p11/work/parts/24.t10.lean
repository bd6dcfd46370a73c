set_option maxRecDepth 100000 in
theorem dX4_takeAbort_0 : decode cX4_takeAbort 0 = .ok (.aload_n 2, 1) := by decide +kernel
set_option maxRecDepth 100000 in
theorem dX4_takeAbort_1 : decode cX4_takeAbort 1 = .ok (.aload_n 1, 1) := by decide +kernel
set_option maxRecDepth 100000 in
theorem dX4_takeAbort_2 : decode cX4_takeAbort 2 = .ok (.getfield 217, 3) := by decide +kernel
set_option maxRecDepth 100000 in
theorem in_X4_takeAbort_X0 : ∀ w ∈ wsX00, w ∈ wsX4_takeAbort := fun _ h => List.mem_cons_of_mem _ (List.mem_append_left _ (List.mem_append_right _ h))
set_option maxRecDepth 100000 in
theorem dX4_takeAbort_5 : decode cX4_takeAbort 5 = .ok (.invokevirtual 316, 3) := by decide +kernel
set_option maxRecDepth 20000 in
theorem ggX4_takeAbort_X3_isPreparedFor : GoodIn wsX4_takeAbort wsX3_isPreparedFor := goodIn_r _ [4, 5, 6, 7, 8, 2, 9, 10, 19, 20, 21, 22, 23, 24, 25, 26] (by decide +kernel) (by decide +kernel)
set_option maxRecDepth 20000 in
theorem gX4_takeAbort_X3_isPreparedFor_n316 : GoodIn wsX4_takeAbort (wsX3_isPreparedFor) := ggX4_takeAbort_X3_isPreparedFor
set_option maxRecDepth 100000 in
theorem dX4_takeAbort_8 : decode cX4_takeAbort 8 = .ok (.ifCond .eq 7, 3) := by decide +kernel
set_option maxRecDepth 100000 in
theorem dX4_takeAbort_15 : decode cX4_takeAbort 15 = .ok (.aload_n 2, 1) := by decide +kernel
set_option maxRecDepth 100000 in
theorem dX4_takeAbort_16 : decode cX4_takeAbort 16 = .ok (.getfield 155, 3) := by decide +kernel
set_option maxRecDepth 100000 in
theorem in_X4_takeAbort_X3 : ∀ w ∈ wsX30, w ∈ wsX4_takeAbort := fun _ h => List.mem_cons_of_mem _ (List.mem_append_right _ h)
set_option maxRecDepth 100000 in
theorem dX4_takeAbort_19 : decode cX4_takeAbort 19 = .ok (.aload_n 1, 1) := by decide +kernel
set_option maxRecDepth 100000 in
theorem dX4_takeAbort_20 : decode cX4_takeAbort 20 = .ok (.getfield 217, 3) := by decide +kernel
set_option maxRecDepth 100000 in
theorem dX4_takeAbort_23 : decode cX4_takeAbort 23 = .ok (.if_icmp .ne 15, 3) := by decide +kernel
set_option maxRecDepth 100000 in
theorem dX4_takeAbort_38 : decode cX4_takeAbort 38 = .ok (.return_, 1) := by decide +kernel
set_option maxRecDepth 100000 in
theorem dX4_takeAbort_26 : decode cX4_takeAbort 26 = .ok (.aload_n 2, 1) := by decide +kernel
set_option maxRecDepth 100000 in
theorem dX4_takeAbort_27 : decode cX4_takeAbort 27 = .ok (.getfield 81, 3) := by decide +kernel
set_option maxRecDepth 100000 in
theorem dX4_takeAbort_30 : decode cX4_takeAbort 30 = .ok (.ifnonnull 8, 3) := by decide +kernel
set_option maxRecDepth 100000 in
theorem dX4_takeAbort_33 : decode cX4_takeAbort 33 = .ok (.aload_n 2, 1) := by decide +kernel
set_option maxRecDepth 100000 in
theorem dX4_takeAbort_34 : decode cX4_takeAbort 34 = .ok (.iconst (-1), 1) := by decide +kernel
set_option maxRecDepth 100000 in
theorem dX4_takeAbort_35 : decode cX4_takeAbort 35 = .ok (.putfield 155, 3) := by decide +kernel
set_option maxRecDepth 100000 in
theorem dX4_takeAbort_11 : decode cX4_takeAbort 11 = .ok (.aload_n 2, 1) := by decide +kernel
set_option maxRecDepth 100000 in
theorem dX4_takeAbort_12 : decode cX4_takeAbort 12 = .ok (.invokevirtual 323, 3) := by decide +kernel
set_option maxRecDepth 20000 in
theorem ggX4_takeAbort_X3_endDoubt : GoodIn wsX4_takeAbort wsX3_endDoubt := goodIn_r _ [13, 5, 10, 19, 20, 21, 22, 23, 24, 25, 26] (by decide +kernel) (by decide +kernel)
set_option maxRecDepth 20000 in
theorem gX4_takeAbort_X3_endDoubt_n323 : GoodIn wsX4_takeAbort (wsX3_endDoubt) := ggX4_takeAbort_X3_endDoubt
set_option maxRecDepth 100000 in
theorem dX4_takeGrant_0 : decode cX4_takeGrant 0 = .ok (.aload_n 1, 1) := by decide +kernel
set_option maxRecDepth 100000 in
theorem dX4_takeGrant_1 : decode cX4_takeGrant 1 = .ok (.aload_n 2, 1) := by decide +kernel
set_option maxRecDepth 100000 in
theorem dX4_takeGrant_2 : decode cX4_takeGrant 2 = .ok (.invokestatic 280, 3) := by decide +kernel
set_option maxRecDepth 20000 in
theorem ggX4_takeGrant_X4_openWriteFor : GoodIn wsX4_takeGrant wsX4_openWriteFor := goodIn_r _ [4, 20, 21, 22, 23, 24, 25, 26, 27, 10, 11, 12, 13, 14, 15, 16, 17, 18, 19] (by decide +kernel) (by decide +kernel)
set_option maxRecDepth 20000 in
theorem gX4_takeGrant_X4_openWriteFor : GoodIn wsX4_takeGrant (va_wsS RX4 280 yX4_openWriteFor wsX4_openWriteFor) := goodIn_app (goodIn_of _ (by decide +kernel)) ggX4_takeGrant_X4_openWriteFor
set_option maxRecDepth 100000 in
theorem dX4_takeGrant_5 : decode cX4_takeGrant 5 = .ok (.astore_n 3, 1) := by decide +kernel
set_option maxRecDepth 100000 in
theorem dX4_takeGrant_6 : decode cX4_takeGrant 6 = .ok (.aload_n 3, 1) := by decide +kernel
set_option maxRecDepth 100000 in
theorem dX4_takeGrant_7 : decode cX4_takeGrant 7 = .ok (.ifnull 35, 3) := by decide +kernel
set_option maxRecDepth 100000 in
theorem dX4_takeGrant_42 : decode cX4_takeGrant 42 = .ok (.return_, 1) := by decide +kernel
set_option maxRecDepth 100000 in
theorem dX4_takeGrant_10 : decode cX4_takeGrant 10 = .ok (.aload_n 3, 1) := by decide +kernel
set_option maxRecDepth 100000 in
theorem dX4_takeGrant_11 : decode cX4_takeGrant 11 = .ok (.invokevirtual 85, 3) := by decide +kernel
set_option maxRecDepth 20000 in
theorem ggX4_takeGrant_X1_isCollecting : GoodIn wsX4_takeGrant wsX1_isCollecting := goodIn_r _ [8, 9, 10, 11, 12, 13, 14] (by decide +kernel) (by decide +kernel)
set_option maxRecDepth 20000 in
theorem gX4_takeGrant_X1_isCollecting_n85 : GoodIn wsX4_takeGrant (wsX1_isCollecting) := ggX4_takeGrant_X1_isCollecting
set_option maxRecDepth 100000 in
theorem dX4_takeGrant_14 : decode cX4_takeGrant 14 = .ok (.ifCond .eq 28, 3) := by decide +kernel
set_option maxRecDepth 100000 in
theorem dX4_takeGrant_17 : decode cX4_takeGrant 17 = .ok (.aload_n 3, 1) := by decide +kernel
set_option maxRecDepth 100000 in
theorem dX4_takeGrant_18 : decode cX4_takeGrant 18 = .ok (.getfield 96, 3) := by decide +kernel
set_option maxRecDepth 100000 in
theorem in_X4_takeGrant_X1 : ∀ w ∈ wsX10, w ∈ wsX4_takeGrant := fun _ h => List.mem_cons_of_mem _ (List.mem_append_left _ (List.mem_append_left _ (List.mem_append_right _ h)))
set_option maxRecDepth 100000 in
theorem dX4_takeGrant_21 : decode cX4_takeGrant 21 = .ok (.aload_n 1, 1) := by decide +kernel
set_option maxRecDepth 100000 in
theorem dX4_takeGrant_22 : decode cX4_takeGrant 22 = .ok (.getfield 187, 3) := by decide +kernel
set_option maxRecDepth 100000 in
theorem in_X4_takeGrant_X0 : ∀ w ∈ wsX00, w ∈ wsX4_takeGrant := fun _ h => List.mem_cons_of_mem _ (List.mem_append_left _ (List.mem_append_right _ h))
set_option maxRecDepth 100000 in
theorem dX4_takeGrant_25 : decode cX4_takeGrant 25 = .ok (.aaload, 1) := by decide +kernel
set_option maxRecDepth 100000 in
theorem dX4_takeGrant_26 : decode cX4_takeGrant 26 = .ok (.ifnonnull 16, 3) := by decide +kernel
set_option maxRecDepth 100000 in
theorem dX4_takeGrant_29 : decode cX4_takeGrant 29 = .ok (.aload_n 3, 1) := by decide +kernel
set_option maxRecDepth 100000 in
theorem dX4_takeGrant_30 : decode cX4_takeGrant 30 = .ok (.getfield 96, 3) := by decide +kernel
set_option maxRecDepth 100000 in
theorem dX4_takeGrant_33 : decode cX4_takeGrant 33 = .ok (.aload_n 1, 1) := by decide +kernel
set_option maxRecDepth 100000 in
theorem dX4_takeGrant_34 : decode cX4_takeGrant 34 = .ok (.getfield 187, 3) := by decide +kernel
set_option maxRecDepth 100000 in
theorem dX4_takeGrant_37 : decode cX4_takeGrant 37 = .ok (.aload_n 1, 1) := by decide +kernel
set_option maxRecDepth 100000 in
theorem dX4_takeGrant_38 : decode cX4_takeGrant 38 = .ok (.getfield 309, 3) := by decide +kernel
set_option maxRecDepth 100000 in
theorem dX4_takeGrant_41 : decode cX4_takeGrant 41 = .ok (.aastore, 1) := by decide +kernel
set_option maxHeartbeats 4000000 in
set_option maxRecDepth 100000 in
theorem c_X4_takeAbort (l : Launch) (hlt : l.stackTraces = false) (D : va_G) (tC : Nat → ClassId) (dz sz : Nat) (pl : va_W) (t : Nat → Nat × Nat) (ad : Nat → Nat) (ed : Nat) (cb up : Nat → Int32) (rs cp : Nat) (hO : Ok tC dz t ad ed cb up rs cp pl) (a : Nat) (i : Nat) (ha : (t a).1 = 3) (hi : i < 5) : Met l yX4_takeAbort wsX4_takeAbort ({ frames := 2, cells := 0, slots := 0, locals := 41 }) (va_Pc [.ref (ad 0), .ref a, .ref (ad (6 + i))] (pB D tC dz pl sz)) (va_Qv (fun (_ : Unit) => True) (fun (_ : Unit) t9 => ∃ (t2 : Nat → Nat × Nat) (ed2 rs2 cp2 : Nat) (pl2 : va_W), tLe t t2 ∧ rs2 ≤ rs + 0 ∧ Ok tC dz t2 ad ed2 cb up rs2 cp2 pl2 ∧ pA D tC (va_A pl sz) pl2 t9) (va_A pl sz)) 0 0 (va_A pl sz) := by
  refine Met.ofW (cc := cX4_takeAbort) (maxL := 3) (ret := none) (by decide) rfl ?_
  intro p e s m args below meth c s₁ B hml hv
  obtain ⟨rfl, hsz, hP, hK, hD0, hN, hE⟩ := hv
  have hx := B.exec
  have hb := B.bytes
  have hr := B.returns
  have hts := atoms_spec (ws := wsX4_takeAbort) B.pre
  have hown : s.vm.findClass RX4 = some m.cls := findClass_of_methodNamed B.named
  have hlocks := B.notSynchronized
  subst hsz
  have hD := hD0.self (sz := s.heap.size)
  have hAm : ∀ q : Nat, xN s.heap.size q → va_A pl s.heap.size q := xN_A
  have hN0 : ∀ q : Nat, s.heap.size ≤ q → xN s.heap.size q := fun _ h => h
  have hE0 := eH_narrow hE hAm
  generalize va_A pl s.heap.size = A at hD hE hAm
  have hA : ∀ q : Nat, s.heap.size ≤ q → A q := fun q h => hAm q h
  have hS : va_S (xN s.heap.size) s.heap s.heap [] := va_S.rf
  obtain ⟨rs0, hrs0⟩ : ∃ z9, z9 = rs := ⟨_, rfl⟩
  obtain ⟨up0, hup0⟩ : ∃ z9, z9 = up := ⟨_, rfl⟩
  obtain ⟨cb0, hcb0⟩ : ∃ z9, z9 = cb := ⟨_, rfl⟩
  have hLe : tLe t t := tLe.rf
  have hRs : rs ≤ rs0 + 0 := by omega
  have hl := lv_entry ([.ref (ad 0), .ref a, .ref (ad (6 + i))]) (n := 3) (Nat.le_of_ble_eq_true rfl)
  rw [lg_entry_eq]
  generalize (lg_sl ([.ref (ad 0), .ref a, .ref (ad (6 + i))]) ++ List.replicate (3 - (lg_sl ([.ref (ad 0), .ref a, .ref (ad (6 + i))])).length) Slot.unset).toArray = ls at hl ⊢
  have hl : lv_has ls 3 [(0, .ref (ad 0)), (1, .ref a), (2, .ref (ad (6 + i)))] := hl
  have w_0 := hts (.initialized RX3) (by decide +kernel)
  have w_1 := hts (.instanceMethod yX3_isPreparedFor) (by decide +kernel)
  have w_2 := hts (.selects RX3 yX3_isPreparedFor yX3_isPreparedFor) (by decide +kernel)
  have w_3 := hts (.instanceMethod yX3_endDoubt) (by decide +kernel)
  have w_4 := hts (.selects RX3 yX3_endDoubt yX3_endDoubt) (by decide +kernel)
  refine lv_aload_n hx hb dX4_takeAbort_0 rfl (lv_at hl 2 rfl) ?_
  refine lv_aload_n hx hb dX4_takeAbort_1 rfl (lv_at hl 1 rfl) ?_
  obtain ⟨p_1, kd_2, nu_3, fr_4, to_5, o_6, hp_1, h_7, h_8, h_9⟩ := hO.k3 ha
  refine va_getN (host := "NoticeStations") (D := D) (ci := 1) (v := .int nu_3) (C := RX0) (T := TX0) (N := 5) hx hb hts in_X4_takeAbort_X0 hown hK hP p_1 hp_1 rfl 3 (by decide) (va_Nw.use rfl (hN.1 (.fieldLinkNest "NoticeStations" 217 "NoticeStations$Letter" "number" "I" "NoticeStations") (by decide +kernel))) (fun _ h9 => h9) rfl dX4_takeAbort_2 ?_
  obtain ⟨p_10, st_11, bg_12, pn_13, lk_14, ps_15, o_16, hp_10, h_17, h_18, h_19⟩ := hO.k12 hi
  refine va_calli (va_runVN (As := [.int nu_3]) (rest := []) ⟨hx, hb, hml, hown, hts⟩ (c_X3_isPreparedFor l hlt D tC dz s.heap.size pl t ad ed cb up rs cp hO i nu_3 hi) ⟨(va_cnB (host := "NoticeStations") 1 hts gX4_takeAbort_X3_isPreparedFor_n316 rfl rfl rfl (hN.1 (.methodLinkNest "NoticeStations" 316 ⟨"NoticeStations$Station", "isPreparedFor", "(I)Z"⟩ "NoticeStations") (by decide +kernel)) w_0 (by decide +kernel) ⟨Nat.le_of_ble_eq_true rfl, Nat.le_of_ble_eq_true rfl⟩), w_1, w_2⟩ ⟨pB_blind, va_recv hK hP (ci := 4) (q0 := p_10) rfl hp_10, pB_at hP hD hK hN hE (hS.mono hAm) (freeA hD (hS.mono hAm) hA)⟩ rfl rfl hl.1 rfl (lv_room (Nat.le_of_ble_eq_true rfl)) dX4_takeAbort_5 ⟨Nat.le_of_ble_eq_true rfl, Nat.le_of_ble_eq_true rfl⟩) hS oldN (freeN hS hN0) (fun r_20 u t9 H1 locs ht hvm hw hB hz1 hk1 hS => ?_)
  have hw_21 := hw
  have hP := keepP hP hk1
  generalize H1 = H at hP hS ⊢
  refine lv_if_eq (tgt := 15) hx hb dX4_takeAbort_8 (by decide) (fun c_22 => ?_) (fun c_22 => ?_)
  · skip
    refine lv_aload_n hx hb dX4_takeAbort_15 rfl (lv_at hl 2 rfl) ?_
    refine va_getN (host := "NoticeStations") (D := D) (ci := 4) (v := .int lk_14) (C := RX3) (T := TX3) (N := 8) hx hb hts in_X4_takeAbort_X3 hown hK hP p_10 hp_10 rfl 6 (by decide) (va_Nw.use rfl (hN.1 (.fieldLinkNest "NoticeStations" 155 "NoticeStations$Station" "lock" "I" "NoticeStations") (by decide +kernel))) (fun _ h9 => h9) rfl dX4_takeAbort_16 ?_
    refine lv_aload_n hx hb dX4_takeAbort_19 rfl (lv_at hl 1 rfl) ?_
    refine va_getN (host := "NoticeStations") (D := D) (ci := 1) (v := .int nu_3) (C := RX0) (T := TX0) (N := 5) hx hb hts in_X4_takeAbort_X0 hown hK hP p_1 hp_1 rfl 3 (by decide) (va_Nw.use rfl (hN.1 (.fieldLinkNest "NoticeStations" 217 "NoticeStations$Letter" "number" "I" "NoticeStations") (by decide +kernel))) (fun _ h9 => h9) rfl dX4_takeAbort_20 ?_
    refine lv_icmp_ne (tgt := 38) hx hb dX4_takeAbort_23 (by decide) (fun c_23 => ?_) (fun c_23 => ?_)
    · skip
      have hS := hS.mono hAm
      refine W.widen (k := 0) (n := 0) (by omega) (by omega) ?_
      exact W.vret hx hb hr (fun t9 ht hW => ⟨⟨(), rfl, trivial, ⟨t, ed, rs, cp, pl, hLe, by omega, hO, (by rw [ht]; exact hP), va_K.moved hW.alike hK, hD⟩⟩, hS.F ht⟩) hS.2.2 dX4_takeAbort_38 hlocks
    · skip
      refine lv_aload_n hx hb dX4_takeAbort_26 rfl (lv_at hl 2 rfl) ?_
      refine va_getN (host := "NoticeStations") (D := D) (ci := 4) (v := va_rf o_16) (C := RX3) (T := TX3) (N := 8) hx hb hts in_X4_takeAbort_X3 hown hK hP p_10 hp_10 rfl 7 (by decide) (va_Nw.use rfl (hN.1 (.fieldLinkNest "NoticeStations" 81 "NoticeStations$Station" "open" "LNoticeStations$OpenWrite;" "NoticeStations") (by decide +kernel))) (fun _ h9 => h9) rfl dX4_takeAbort_27 ?_
      rcases o_16 with _ | y_24
      · skip
        refine W.eq (g2 := F0 m 30 ls [.null]) rfl ?_
        refine lv_ifnonnullN hx hb dX4_takeAbort_30 ?_
        refine lv_aload_n hx hb dX4_takeAbort_33 rfl (lv_at hl 2 rfl) ?_
        refine lv_iconst (v := (-1)) hx hb dX4_takeAbort_34 (by decide) ?_
        have hS := hS.mono hAm
        refine va_putN (host := "NoticeStations") (D := D) (ci := 4) (v := .int (-1)) (ty := .int) (C := RX3) (T := TX3) (N := 8) hx hb hts in_X4_takeAbort_X3 tyX3 tyX3_ok nmX3 hown hK hP hD hS p_10 hp_10 rfl 6 (by decide) (va_Nw.use rfl (hN.1 (.fieldLinkNest "NoticeStations" 155 "NoticeStations$Station" "lock" "I" "NoticeStations") (by decide +kernel))) (fun _ h9 => h9) rfl (by decide +kernel) (by first | rfl | decide) (by first | rfl | decide) (Nat.le_of_ble_eq_true rfl) dX4_takeAbort_35 (fun H locs hP hD hS => ?_)
        have hO := hO.p12 hi hp_10 h_17 h_18 isK.no (bg := bg_12) (pn := pn_13) (lk := (-1)) (ps := ps_15) (op := none)
        obtain ⟨pl, hpl9⟩ : ∃ z9, z9 = pl.set p_10 ((ad (6 + i)), .inr (4, [.int (nI i), .int (up i), .ref st_11, .int bg_12, .int pn_13, va_rf ps_15, .int (-1), .null])) := ⟨_, rfl⟩
        have hk_26 := setP hp_10 hpl9
        have hP : va_P D vwCl pl H := by rw [hpl9]; exact hP
        have hD : va_D A pl := by rw [hpl9]; exact hD
        have hO : Ok tC dz t ad ed cb up rs cp pl := by rw [hpl9]; exact hO
        refine W.widen (k := 0) (n := 0) (by omega) (by omega) ?_
        exact W.vret hx hb hr (fun t9 ht hW => ⟨⟨(), rfl, trivial, ⟨t, ed, rs, cp, pl, hLe, by omega, hO, (by rw [ht]; exact hP), va_K.moved hW.alike hK, hD⟩⟩, hS.F ht⟩) hS.2.2 dX4_takeAbort_38 hlocks
      · skip
        have h_25 : (t y_24).1 = 4 := h_19 _ rfl
        refine W.eq (g2 := F0 m 30 ls [.ref y_24]) rfl ?_
        refine lv_ifnonnull (tgt := 38) hx hb dX4_takeAbort_30 (by decide) ?_
        have hS := hS.mono hAm
        refine W.widen (k := 0) (n := 0) (by omega) (by omega) ?_
        exact W.vret hx hb hr (fun t9 ht hW => ⟨⟨(), rfl, trivial, ⟨t, ed, rs, cp, pl, hLe, by omega, hO, (by rw [ht]; exact hP), va_K.moved hW.alike hK, hD⟩⟩, hS.F ht⟩) hS.2.2 dX4_takeAbort_38 hlocks
  · skip
    refine lv_aload_n hx hb dX4_takeAbort_11 rfl (lv_at hl 2 rfl) ?_
    have hFA := (freeA hD (hS.mono hAm) hA)
    refine va_callv (va_runVN (As := []) (rest := []) ⟨hx, hb, hml, hown, hts⟩ (c_X3_endDoubt l hlt D tC dz H.size pl t ad ed cb up rs cp hO i hi) ⟨(va_cnB (host := "NoticeStations") 0 hts gX4_takeAbort_X3_endDoubt_n323 rfl rfl rfl (hN.1 (.methodLinkNest "NoticeStations" 323 ⟨"NoticeStations$Station", "endDoubt", "()V"⟩ "NoticeStations") (by decide +kernel)) w_0 (by decide +kernel) ⟨Nat.le_of_ble_eq_true rfl, Nat.le_of_ble_eq_true rfl⟩), w_3, w_4⟩ ⟨pB_blind, va_recv hK hP (ci := 4) (q0 := p_10) rfl hp_10, pB_at hP hD hK hN hE (hS.mono hAm) (freeA hD (hS.mono hAm) hA)⟩ rfl rfl hl.1 rfl (lv_room (Nat.le_of_ble_eq_true rfl)) dX4_takeAbort_12 ⟨Nat.le_of_ble_eq_true rfl, Nat.le_of_ble_eq_true rfl⟩) (hS.mono hAm) (fun q _ h => hFA q h) hFA (fun u t9 H1 locs ht hvm hw hB hz1 hk1 hS => ?_)
    have hw_28 := hw
    obtain ⟨t, ed, rs, cp, pl, hle9, hrs9, hO, hP1, _, hD1⟩ := hB
    rw [ht] at hP1
    have hD : va_D A pl := hD1.weaken (fun _ _ _ h9 => hFA _ h9)
    have hP := hP1
    generalize H1 = H at hP hS ⊢
    have hRs : rs ≤ rs0 + 0 := by omega
    have hLe := hLe.trans hle9
    have h_30 := hle9.k ha (by decide)
    refine lv_aload_n hx hb dX4_takeAbort_15 rfl (lv_at hl 2 rfl) ?_
    obtain ⟨p_31, st_32, bg_33, pn_34, lk_35, ps_36, o_37, hp_31, h_38, h_39, h_40⟩ := hO.k12 hi
    refine va_getN (host := "NoticeStations") (D := D) (ci := 4) (v := .int lk_35) (C := RX3) (T := TX3) (N := 8) hx hb hts in_X4_takeAbort_X3 hown hK hP p_31 hp_31 rfl 6 (by decide) (va_Nw.use rfl (hN.1 (.fieldLinkNest "NoticeStations" 155 "NoticeStations$Station" "lock" "I" "NoticeStations") (by decide +kernel))) (fun _ h9 => h9) rfl dX4_takeAbort_16 ?_
    refine lv_aload_n hx hb dX4_takeAbort_19 rfl (lv_at hl 1 rfl) ?_
    obtain ⟨p_41, kd_42, nu_43, fr_44, to_45, o_46, hp_41, h_47, h_48, h_49⟩ := hO.k3 h_30
    refine va_getN (host := "NoticeStations") (D := D) (ci := 1) (v := .int nu_43) (C := RX0) (T := TX0) (N := 5) hx hb hts in_X4_takeAbort_X0 hown hK hP p_41 hp_41 rfl 3 (by decide) (va_Nw.use rfl (hN.1 (.fieldLinkNest "NoticeStations" 217 "NoticeStations$Letter" "number" "I" "NoticeStations") (by decide +kernel))) (fun _ h9 => h9) rfl dX4_takeAbort_20 ?_
    refine lv_icmp_ne (tgt := 38) hx hb dX4_takeAbort_23 (by decide) (fun c_50 => ?_) (fun c_50 => ?_)
    · skip
      refine W.widen (k := 0) (n := 0) (by omega) (by omega) ?_
      exact W.vret hx hb hr (fun t9 ht hW => ⟨⟨(), rfl, trivial, ⟨t, ed, rs, cp, pl, hLe, by omega, hO, (by rw [ht]; exact hP), va_K.moved hW.alike hK, hD⟩⟩, hS.F ht⟩) hS.2.2 dX4_takeAbort_38 hlocks
    · skip
      refine lv_aload_n hx hb dX4_takeAbort_26 rfl (lv_at hl 2 rfl) ?_
      refine va_getN (host := "NoticeStations") (D := D) (ci := 4) (v := va_rf o_37) (C := RX3) (T := TX3) (N := 8) hx hb hts in_X4_takeAbort_X3 hown hK hP p_31 hp_31 rfl 7 (by decide) (va_Nw.use rfl (hN.1 (.fieldLinkNest "NoticeStations" 81 "NoticeStations$Station" "open" "LNoticeStations$OpenWrite;" "NoticeStations") (by decide +kernel))) (fun _ h9 => h9) rfl dX4_takeAbort_27 ?_
      rcases o_37 with _ | y_51
      · skip
        refine W.eq (g2 := F0 m 30 ls [.null]) rfl ?_
        refine lv_ifnonnullN hx hb dX4_takeAbort_30 ?_
        refine lv_aload_n hx hb dX4_takeAbort_33 rfl (lv_at hl 2 rfl) ?_
        refine lv_iconst (v := (-1)) hx hb dX4_takeAbort_34 (by decide) ?_
        refine va_putN (host := "NoticeStations") (D := D) (ci := 4) (v := .int (-1)) (ty := .int) (C := RX3) (T := TX3) (N := 8) hx hb hts in_X4_takeAbort_X3 tyX3 tyX3_ok nmX3 hown hK hP hD hS p_31 hp_31 rfl 6 (by decide) (va_Nw.use rfl (hN.1 (.fieldLinkNest "NoticeStations" 155 "NoticeStations$Station" "lock" "I" "NoticeStations") (by decide +kernel))) (fun _ h9 => h9) rfl (by decide +kernel) (by first | rfl | decide) (by first | rfl | decide) (Nat.le_of_ble_eq_true rfl) dX4_takeAbort_35 (fun H locs hP hD hS => ?_)
        have hO := hO.p12 hi hp_31 h_38 h_39 isK.no (bg := bg_33) (pn := pn_34) (lk := (-1)) (ps := ps_36) (op := none)
        obtain ⟨pl, hpl9⟩ : ∃ z9, z9 = pl.set p_31 ((ad (6 + i)), .inr (4, [.int (nI i), .int (up i), .ref st_32, .int bg_33, .int pn_34, va_rf ps_36, .int (-1), .null])) := ⟨_, rfl⟩
        have hk_53 := setP hp_31 hpl9
        have hP : va_P D vwCl pl H := by rw [hpl9]; exact hP
        have hD : va_D A pl := by rw [hpl9]; exact hD
        have hO : Ok tC dz t ad ed cb up rs cp pl := by rw [hpl9]; exact hO
        refine W.widen (k := 0) (n := 0) (by omega) (by omega) ?_
        exact W.vret hx hb hr (fun t9 ht hW => ⟨⟨(), rfl, trivial, ⟨t, ed, rs, cp, pl, hLe, by omega, hO, (by rw [ht]; exact hP), va_K.moved hW.alike hK, hD⟩⟩, hS.F ht⟩) hS.2.2 dX4_takeAbort_38 hlocks
      · skip
        have h_52 : (t y_51).1 = 4 := h_40 _ rfl
        refine W.eq (g2 := F0 m 30 ls [.ref y_51]) rfl ?_
        refine lv_ifnonnull (tgt := 38) hx hb dX4_takeAbort_30 (by decide) ?_
        refine W.widen (k := 0) (n := 0) (by omega) (by omega) ?_
        exact W.vret hx hb hr (fun t9 ht hW => ⟨⟨(), rfl, trivial, ⟨t, ed, rs, cp, pl, hLe, by omega, hO, (by rw [ht]; exact hP), va_K.moved hW.alike hK, hD⟩⟩, hS.F ht⟩) hS.2.2 dX4_takeAbort_38 hlocks
set_option maxHeartbeats 4000000 in
set_option maxRecDepth 100000 in
theorem c_X4_takeGrant (l : Launch) (hlt : l.stackTraces = false) (D : va_G) (tC : Nat → ClassId) (dz sz : Nat) (pl : va_W) (t : Nat → Nat × Nat) (ad : Nat → Nat) (ed : Nat) (cb up : Nat → Int32) (rs cp : Nat) (hO : Ok tC dz t ad ed cb up rs cp pl) (a : Nat) (i : Nat) (ha : (t a).1 = 3) (hi : i < 5) : Met l yX4_takeGrant wsX4_takeGrant ({ frames := 1, cells := 0, slots := 0, locals := 22 }) (va_Pc [.ref (ad 0), .ref a, .ref (ad (6 + i))] (pB D tC dz pl sz)) (va_Qv (fun (_ : Unit) => True) (fun (_ : Unit) t9 => ∃ (t2 : Nat → Nat × Nat) (ed2 rs2 cp2 : Nat) (pl2 : va_W), tLe t t2 ∧ rs2 ≤ rs + 0 ∧ Ok tC dz t2 ad ed2 cb up rs2 cp2 pl2 ∧ pA D tC (va_A pl sz) pl2 t9) (va_A pl sz)) 0 0 (va_A pl sz) := by
  refine Met.ofW (cc := cX4_takeGrant) (maxL := 4) (ret := none) (by decide) rfl ?_
  intro p e s m args below meth c s₁ B hml hv
  obtain ⟨rfl, hsz, hP, hK, hD0, hN, hE⟩ := hv
  have hx := B.exec
  have hb := B.bytes
  have hr := B.returns
  have hts := atoms_spec (ws := wsX4_takeGrant) B.pre
  have hown : s.vm.findClass RX4 = some m.cls := findClass_of_methodNamed B.named
  have hlocks := B.notSynchronized
  subst hsz
  have hD := hD0.self (sz := s.heap.size)
  have hAm : ∀ q : Nat, xN s.heap.size q → va_A pl s.heap.size q := xN_A
  have hN0 : ∀ q : Nat, s.heap.size ≤ q → xN s.heap.size q := fun _ h => h
  have hE0 := eH_narrow hE hAm
  generalize va_A pl s.heap.size = A at hD hE hAm
  have hA : ∀ q : Nat, s.heap.size ≤ q → A q := fun q h => hAm q h
  have hS : va_S (xN s.heap.size) s.heap s.heap [] := va_S.rf
  obtain ⟨rs0, hrs0⟩ : ∃ z9, z9 = rs := ⟨_, rfl⟩
  obtain ⟨up0, hup0⟩ : ∃ z9, z9 = up := ⟨_, rfl⟩
  obtain ⟨cb0, hcb0⟩ : ∃ z9, z9 = cb := ⟨_, rfl⟩
  have hLe : tLe t t := tLe.rf
  have hRs : rs ≤ rs0 + 0 := by omega
  have hl := lv_entry ([.ref (ad 0), .ref a, .ref (ad (6 + i))]) (n := 4) (Nat.le_of_ble_eq_true rfl)
  rw [lg_entry_eq]
  generalize (lg_sl ([.ref (ad 0), .ref a, .ref (ad (6 + i))]) ++ List.replicate (4 - (lg_sl ([.ref (ad 0), .ref a, .ref (ad (6 + i))])).length) Slot.unset).toArray = ls at hl ⊢
  have hl : lv_has ls 4 [(0, .ref (ad 0)), (1, .ref a), (2, .ref (ad (6 + i)))] := hl
  have w_0 := hts (.initialized RX1) (by decide +kernel)
  have w_1 := hts (.instanceMethod yX1_isCollecting) (by decide +kernel)
  have w_2 := hts (.selects RX1 yX1_isCollecting yX1_isCollecting) (by decide +kernel)
  refine lv_aload_n hx hb dX4_takeGrant_0 rfl (lv_at hl 1 rfl) ?_
  refine lv_aload_n hx hb dX4_takeGrant_1 rfl (lv_at hl 2 rfl) ?_
  refine va_callq (va_runS (As := [.ref a, .ref (ad (6 + i))]) (rest := []) ⟨hx, hb, hml, hown, hts⟩ (c_X4_openWriteFor l hlt D tC dz s.heap.size pl t ad ed cb up rs cp hO a i ha hi) (va_cwS 2 hts gX4_takeGrant_X4_openWriteFor rfl rfl rfl (by decide +kernel) ⟨Nat.le_of_ble_eq_true rfl, Nat.le_of_ble_eq_true rfl⟩) ⟨pB_blind, pB_at hP hD hK hN hE (hS.mono hAm) (freeA hD (hS.mono hAm) hA)⟩ rfl rfl hl.1 rfl (lv_room (Nat.le_of_ble_eq_true rfl)) dX4_takeGrant_2 ⟨Nat.le_of_ble_eq_true rfl, Nat.le_of_ble_eq_true rfl⟩) hS oldN (freeN hS hN0) (fun r_1 u t9 H1 locs ht hvm hw hB hz1 hk1 hS => ?_)
  have hw_2 := hw
  have hP := keepP hP hk1
  generalize H1 = H at hP hS ⊢
  refine lv_astore_nQ (lv' := [(3, va_rf r_1), (0, .ref (ad 0)), (1, .ref a), (2, .ref (ad (6 + i)))]) hx hb dX4_takeGrant_5 rfl hl (by decide) rfl (fun ls hl => ?_)
  refine lv_aload_nQ hx hb dX4_takeGrant_6 rfl (lv_at hl 0 rfl) ?_
  rcases r_1 with _ | y_3
  · skip
    refine W.eq (g2 := F0 m 7 ls [.null]) rfl ?_
    refine lv_ifnullN (tgt := 42) hx hb dX4_takeGrant_7 (by decide) ?_
    have hS := hS.mono hAm
    refine W.widen (k := 0) (n := 0) (by omega) (by omega) ?_
    exact W.vret hx hb hr (fun t9 ht hW => ⟨⟨(), rfl, trivial, ⟨t, ed, rs, cp, pl, hLe, by omega, hO, (by rw [ht]; exact hP), va_K.moved hW.alike hK, hD⟩⟩, hS.F ht⟩) hS.2.2 dX4_takeGrant_42 hlocks
  · skip
    have h_4 : (t y_3).1 = 4 := hw_2 _ rfl
    refine W.eq (g2 := F0 m 7 ls [.ref y_3]) rfl ?_
    refine lv_ifnull hx hb dX4_takeGrant_7 ?_
    refine lv_aload_n hx hb dX4_takeGrant_10 rfl (lv_at hl 0 rfl) ?_
    obtain ⟨p_5, nu_6, en_7, g_8, b_9, o_10, hp_5, h_11, h_12, h_13⟩ := hO.k4 h_4
    refine va_calli (va_runVN (As := []) (rest := []) ⟨hx, hb, hml, hown, hts⟩ (c_X1_isCollecting l hlt D tC dz H.size pl t ad ed cb up rs cp hO y_3 h_4) ⟨(va_cnB (host := "NoticeStations") 0 hts gX4_takeGrant_X1_isCollecting_n85 rfl rfl rfl (hN.1 (.methodLinkNest "NoticeStations" 85 ⟨"NoticeStations$OpenWrite", "isCollecting", "()Z"⟩ "NoticeStations") (by decide +kernel)) w_0 (by decide +kernel) ⟨Nat.le_of_ble_eq_true rfl, Nat.le_of_ble_eq_true rfl⟩), w_1, w_2⟩ ⟨pB_blind, va_recv hK hP (ci := 2) (q0 := p_5) rfl hp_5, pB_at hP hD hK hN hE (hS.mono hAm) (freeA hD (hS.mono hAm) hA)⟩ rfl rfl hl.1 rfl (lv_room (Nat.le_of_ble_eq_true rfl)) dX4_takeGrant_11 ⟨Nat.le_of_ble_eq_true rfl, Nat.le_of_ble_eq_true rfl⟩) hS oldN (freeN hS hN0) (fun r_14 u t9 H1 locs ht hvm hw hB hz1 hk1 hS => ?_)
    have hw_15 := hw
    have hP := keepP hP hk1
    generalize H1 = H at hP hS ⊢
    refine lv_if_eq (tgt := 42) hx hb dX4_takeGrant_14 (by decide) (fun c_16 => ?_) (fun c_16 => ?_)
    · skip
      have hS := hS.mono hAm
      refine W.widen (k := 0) (n := 0) (by omega) (by omega) ?_
      exact W.vret hx hb hr (fun t9 ht hW => ⟨⟨(), rfl, trivial, ⟨t, ed, rs, cp, pl, hLe, by omega, hO, (by rw [ht]; exact hP), va_K.moved hW.alike hK, hD⟩⟩, hS.F ht⟩) hS.2.2 dX4_takeGrant_42 hlocks
    · skip
      refine lv_aload_n hx hb dX4_takeGrant_17 rfl (lv_at hl 0 rfl) ?_
      refine va_getN (host := "NoticeStations") (D := D) (ci := 2) (v := .ref g_8) (C := RX1) (T := TX1) (N := 5) hx hb hts in_X4_takeGrant_X1 hown hK hP p_5 hp_5 rfl 2 (by decide) (va_Nw.use rfl (hN.1 (.fieldLinkNest "NoticeStations" 96 "NoticeStations$OpenWrite" "granted" "[LNoticeStations$Standing;" "NoticeStations") (by decide +kernel))) (fun _ h9 => h9) rfl dX4_takeGrant_18 ?_
      refine lv_aload_n hx hb dX4_takeGrant_21 rfl (lv_at hl 2 rfl) ?_
      obtain ⟨p_17, kd_18, nu_19, fr_20, to_21, o_22, hp_17, h_23, h_24, h_25⟩ := hO.k3 ha
      refine va_getN (host := "NoticeStations") (D := D) (ci := 1) (v := .int (nI fr_20)) (C := RX0) (T := TX0) (N := 5) hx hb hts in_X4_takeGrant_X0 hown hK hP p_17 hp_17 rfl 1 (by decide) (va_Nw.use rfl (hN.1 (.fieldLinkNest "NoticeStations" 187 "NoticeStations$Letter" "from" "I" "NoticeStations") (by decide +kernel))) (fun _ h9 => h9) rfl dX4_takeGrant_22 ?_
      obtain ⟨p_26, f_27, hp_26, h_28⟩ := hO.k5 h_11
      refine va_aldq hx hb hK hP p_26 2 hp_26 rfl (in5 h_23) dX4_takeGrant_25 ?_
      obtain ⟨o_29, eo_29⟩ : ∃ z9, z9 = f_27 fr_20 := ⟨_, rfl⟩
      have h_30 : isK t 1 o_29 := by rw [eo_29]; exact h_28 fr_20 h_23
      rw [show f_27 (nI fr_20).toNatClampNeg = o_29 by rw [(cl5 h_23), eo_29]]
      rcases o_29 with _ | y_31
      · skip
        refine W.eq (g2 := F0 m 26 ls [.null]) rfl ?_
        refine lv_ifnonnullN hx hb dX4_takeGrant_26 ?_
        refine lv_aload_n hx hb dX4_takeGrant_29 rfl (lv_at hl 0 rfl) ?_
        refine va_getN (host := "NoticeStations") (D := D) (ci := 2) (v := .ref g_8) (C := RX1) (T := TX1) (N := 5) hx hb hts in_X4_takeGrant_X1 hown hK hP p_5 hp_5 rfl 2 (by decide) (va_Nw.use rfl (hN.1 (.fieldLinkNest "NoticeStations" 96 "NoticeStations$OpenWrite" "granted" "[LNoticeStations$Standing;" "NoticeStations") (by decide +kernel))) (fun _ h9 => h9) rfl dX4_takeGrant_30 ?_
        refine lv_aload_n hx hb dX4_takeGrant_33 rfl (lv_at hl 2 rfl) ?_
        refine va_getN (host := "NoticeStations") (D := D) (ci := 1) (v := .int (nI fr_20)) (C := RX0) (T := TX0) (N := 5) hx hb hts in_X4_takeGrant_X0 hown hK hP p_17 hp_17 rfl 1 (by decide) (va_Nw.use rfl (hN.1 (.fieldLinkNest "NoticeStations" 187 "NoticeStations$Letter" "from" "I" "NoticeStations") (by decide +kernel))) (fun _ h9 => h9) rfl dX4_takeGrant_34 ?_
        refine lv_aload_n hx hb dX4_takeGrant_37 rfl (lv_at hl 2 rfl) ?_
        refine va_getN (host := "NoticeStations") (D := D) (ci := 1) (v := va_rf o_22) (C := RX0) (T := TX0) (N := 5) hx hb hts in_X4_takeGrant_X0 hown hK hP p_17 hp_17 rfl 4 (by decide) (va_Nw.use rfl (hN.1 (.fieldLinkNest "NoticeStations" 309 "NoticeStations$Letter" "standing" "LNoticeStations$Standing;" "NoticeStations") (by decide +kernel))) (fun _ h9 => h9) rfl dX4_takeGrant_38 ?_
        rcases o_22 with _ | y_33
        · skip
          refine W.eq (g2 := F0 m 41 ls [.null, .int (nI fr_20), .ref g_8]) rfl ?_
          have hS := hS.mono hAm
          refine va_astqN hx hb hK hP hD hS p_26 2 hp_26 rfl (in5 h_23) dX4_takeGrant_41 (fun H locs hP hD hS => ?_)
          have h_35 := isK.at5 (j := (nI fr_20).toNatClampNeg) h_28 isK.no
          have hO := hO.p5 h_11 hp_26 h_35
          obtain ⟨pl, hpl9⟩ : ∃ z9, z9 = pl.set p_26 (g_8, wS tC 5 (va_up f_27 (nI fr_20).toNatClampNeg none)) := ⟨_, rfl⟩
          have hk_36 := setP hp_26 hpl9
          have hP : va_P D vwCl pl H := by rw [hpl9]; exact hP
          have hD : va_D A pl := by rw [hpl9]; exact hD
          have hO : Ok tC dz t ad ed cb up rs cp pl := by rw [hpl9]; exact hO
          refine W.widen (k := 0) (n := 0) (by omega) (by omega) ?_
          exact W.vret hx hb hr (fun t9 ht hW => ⟨⟨(), rfl, trivial, ⟨t, ed, rs, cp, pl, hLe, by omega, hO, (by rw [ht]; exact hP), va_K.moved hW.alike hK, hD⟩⟩, hS.F ht⟩) hS.2.2 dX4_takeGrant_42 hlocks
        · skip
          have h_34 : (t y_33).1 = 1 := h_25 _ rfl
          refine W.eq (g2 := F0 m 41 ls [.ref y_33, .int (nI fr_20), .ref g_8]) rfl ?_
          have hS := hS.mono hAm
          obtain ⟨n_38, h_39⟩ := tk h_34
          obtain ⟨p_37, e_40, u_41, z_42, d_43, hp_37, h_44, h_45, h_46⟩ := hO.k1 h_39
          refine va_astq hx hb hK hP hD hS p_26 2 p_37 3 hp_26 rfl hp_37 rfl (in5 h_23) dX4_takeGrant_41 (fun H locs hP hD hS => ?_)
          have h_47 := isK.at5 (j := (nI fr_20).toNatClampNeg) h_28 (isK.so (tk1 h_39))
          have hO := hO.p5 h_11 hp_26 h_47
          obtain ⟨pl, hpl9⟩ : ∃ z9, z9 = pl.set p_26 (g_8, wS tC 5 (va_up f_27 (nI fr_20).toNatClampNeg (some y_33))) := ⟨_, rfl⟩
          have hk_48 := setP hp_26 hpl9
          have hP : va_P D vwCl pl H := by rw [hpl9]; exact hP
          have hD : va_D A pl := by rw [hpl9]; exact hD
          have hO : Ok tC dz t ad ed cb up rs cp pl := by rw [hpl9]; exact hO
          refine W.widen (k := 0) (n := 0) (by omega) (by omega) ?_
          exact W.vret hx hb hr (fun t9 ht hW => ⟨⟨(), rfl, trivial, ⟨t, ed, rs, cp, pl, hLe, by omega, hO, (by rw [ht]; exact hP), va_K.moved hW.alike hK, hD⟩⟩, hS.F ht⟩) hS.2.2 dX4_takeGrant_42 hlocks
      · skip
        have h_32 : (t y_31).1 = 1 := h_30 _ rfl
        refine W.eq (g2 := F0 m 26 ls [.ref y_31]) rfl ?_
        refine lv_ifnonnull (tgt := 42) hx hb dX4_takeGrant_26 (by decide) ?_
        have hS := hS.mono hAm
        refine W.widen (k := 0) (n := 0) (by omega) (by omega) ?_
        exact W.vret hx hb hr (fun t9 ht hW => ⟨⟨(), rfl, trivial, ⟨t, ed, rs, cp, pl, hLe, by omega, hO, (by rw [ht]; exact hP), va_K.moved hW.alike hK, hD⟩⟩, hS.F ht⟩) hS.2.2 dX4_takeGrant_42 hlocks
