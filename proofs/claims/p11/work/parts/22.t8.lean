set_option maxRecDepth 100000 in
theorem dX4_stop_0 : decode cX4_stop 0 = .ok (.aload_n 0, 1) := by decide +kernel
set_option maxRecDepth 100000 in
theorem dX4_stop_1 : decode cX4_stop 1 = .ok (.iload_n 1, 1) := by decide +kernel
set_option maxRecDepth 100000 in
theorem dX4_stop_2 : decode cX4_stop 2 = .ok (.invokevirtual 42, 3) := by decide +kernel
set_option maxRecDepth 20000 in
theorem ggX4_stop_X4_stationAt : GoodIn wsX4_stop wsX4_stationAt := goodIn_ca (goodIn_r _ [5, 6, 7, 8, 9, 10, 4, 11, 26, 27, 28, 29] (by decide +kernel) (by decide +kernel)) (goodIn_sub (fun _ h => List.mem_cons_of_mem _ (List.mem_append_right _ h)) (by decide +kernel))
set_option maxRecDepth 20000 in
theorem gX4_stop_X4_stationAt : GoodIn wsX4_stop (wsV RX4 42 RX4 yX4_stationAt wsX4_stationAt) := goodIn_app (goodIn_of _ (by decide +kernel)) ggX4_stop_X4_stationAt
set_option maxRecDepth 100000 in
theorem dX4_stop_5 : decode cX4_stop 5 = .ok (.astore_n 2, 1) := by decide +kernel
set_option maxRecDepth 100000 in
theorem dX4_stop_6 : decode cX4_stop 6 = .ok (.aload_n 2, 1) := by decide +kernel
set_option maxRecDepth 100000 in
theorem dX4_stop_7 : decode cX4_stop 7 = .ok (.getfield 160, 3) := by decide +kernel
set_option maxRecDepth 100000 in
theorem in_X4_stop_X3 : ∀ w ∈ wsX30, w ∈ wsX4_stop := fun _ h => List.mem_cons_of_mem _ (List.mem_append_left _ (List.mem_append_left _ (List.mem_append_right _ h)))
set_option maxRecDepth 100000 in
theorem dX4_stop_10 : decode cX4_stop 10 = .ok (.istore_n 3, 1) := by decide +kernel
set_option maxRecDepth 100000 in
theorem dX4_stop_11 : decode cX4_stop 11 = .ok (.aload_n 2, 1) := by decide +kernel
set_option maxRecDepth 100000 in
theorem dX4_stop_12 : decode cX4_stop 12 = .ok (.iconst 0, 1) := by decide +kernel
set_option maxRecDepth 100000 in
theorem dX4_stop_13 : decode cX4_stop 13 = .ok (.putfield 160, 3) := by decide +kernel
set_option maxRecDepth 100000 in
theorem dX4_stop_16 : decode cX4_stop 16 = .ok (.aload_n 2, 1) := by decide +kernel
set_option maxRecDepth 100000 in
theorem dX4_stop_17 : decode cX4_stop 17 = .ok (.invokevirtual 142, 3) := by decide +kernel
set_option maxRecDepth 20000 in
theorem ggX4_stop_X3_forgetWrite : GoodIn wsX4_stop wsX3_forgetWrite := goodIn_r _ [15, 16, 17, 18, 19, 20, 21, 22, 23, 24, 25] (by decide +kernel) (by decide +kernel)
set_option maxRecDepth 20000 in
theorem gX4_stop_X3_forgetWrite_n142 : GoodIn wsX4_stop (wsX3_forgetWrite) := ggX4_stop_X3_forgetWrite
set_option maxRecDepth 100000 in
theorem dX4_stop_20 : decode cX4_stop 20 = .ok (.iload_n 3, 1) := by decide +kernel
set_option maxRecDepth 100000 in
theorem dX4_stop_21 : decode cX4_stop 21 = .ok (.ireturn, 1) := by decide +kernel
set_option maxRecDepth 100000 in
theorem dX4_start_0 : decode cX4_start 0 = .ok (.aload_n 0, 1) := by decide +kernel
set_option maxRecDepth 100000 in
theorem dX4_start_1 : decode cX4_start 1 = .ok (.iload_n 1, 1) := by decide +kernel
set_option maxRecDepth 100000 in
theorem dX4_start_2 : decode cX4_start 2 = .ok (.invokevirtual 42, 3) := by decide +kernel
set_option maxRecDepth 20000 in
theorem ggX4_start_X4_stationAt : GoodIn wsX4_start wsX4_stationAt := goodIn_ca (goodIn_r _ [5, 6, 7, 8, 9, 10, 4, 11, 26, 27, 28, 29] (by decide +kernel) (by decide +kernel)) (goodIn_sub (fun _ h => List.mem_cons_of_mem _ (List.mem_append_right _ h)) (by decide +kernel))
set_option maxRecDepth 20000 in
theorem gX4_start_X4_stationAt : GoodIn wsX4_start (wsV RX4 42 RX4 yX4_stationAt wsX4_stationAt) := goodIn_app (goodIn_of _ (by decide +kernel)) ggX4_start_X4_stationAt
set_option maxRecDepth 100000 in
theorem dX4_start_5 : decode cX4_start 5 = .ok (.astore_n 2, 1) := by decide +kernel
set_option maxRecDepth 100000 in
theorem dX4_start_6 : decode cX4_start 6 = .ok (.aload_n 2, 1) := by decide +kernel
set_option maxRecDepth 100000 in
theorem dX4_start_7 : decode cX4_start 7 = .ok (.getfield 160, 3) := by decide +kernel
set_option maxRecDepth 100000 in
theorem in_X4_start_X3 : ∀ w ∈ wsX30, w ∈ wsX4_start := fun _ h => List.mem_cons_of_mem _ (List.mem_append_left _ (List.mem_append_left _ (List.mem_append_right _ h)))
set_option maxRecDepth 100000 in
theorem dX4_start_10 : decode cX4_start 10 = .ok (.ifCond .ne 7, 3) := by decide +kernel
set_option maxRecDepth 100000 in
theorem dX4_start_17 : decode cX4_start 17 = .ok (.iconst 0, 1) := by decide +kernel
set_option maxRecDepth 100000 in
theorem dX4_start_18 : decode cX4_start 18 = .ok (.istore_n 3, 1) := by decide +kernel
set_option maxRecDepth 100000 in
theorem dX4_start_19 : decode cX4_start 19 = .ok (.aload_n 2, 1) := by decide +kernel
set_option maxRecDepth 100000 in
theorem dX4_start_20 : decode cX4_start 20 = .ok (.iconst 1, 1) := by decide +kernel
set_option maxRecDepth 100000 in
theorem dX4_start_21 : decode cX4_start 21 = .ok (.putfield 160, 3) := by decide +kernel
set_option maxRecDepth 100000 in
theorem dX4_start_24 : decode cX4_start 24 = .ok (.aload_n 2, 1) := by decide +kernel
set_option maxRecDepth 100000 in
theorem dX4_start_25 : decode cX4_start 25 = .ok (.invokevirtual 142, 3) := by decide +kernel
set_option maxRecDepth 20000 in
theorem ggX4_start_X3_forgetWrite : GoodIn wsX4_start wsX3_forgetWrite := goodIn_r _ [15, 16, 17, 18, 19, 20, 21, 22, 23, 24, 25] (by decide +kernel) (by decide +kernel)
set_option maxRecDepth 20000 in
theorem gX4_start_X3_forgetWrite_n142 : GoodIn wsX4_start (wsX3_forgetWrite) := ggX4_start_X3_forgetWrite
set_option maxRecDepth 100000 in
theorem dX4_start_28 : decode cX4_start 28 = .ok (.iload_n 3, 1) := by decide +kernel
set_option maxRecDepth 100000 in
theorem dX4_start_29 : decode cX4_start 29 = .ok (.ireturn, 1) := by decide +kernel
set_option maxRecDepth 100000 in
theorem dX4_start_13 : decode cX4_start 13 = .ok (.iconst 1, 1) := by decide +kernel
set_option maxRecDepth 100000 in
theorem dX4_start_14 : decode cX4_start 14 = .ok (.goto 4, 3) := by decide +kernel
set_option maxHeartbeats 4000000 in
set_option maxRecDepth 100000 in
theorem c_X4_stop (l : Launch) (hlt : l.stackTraces = false) (D : va_G) (tC : Nat → ClassId) (dz sz : Nat) (pl : va_W) (t : Nat → Nat × Nat) (ad : Nat → Nat) (ed : Nat) (cb up : Nat → Int32) (rs cp : Nat) (hO : Ok tC dz t ad ed cb up rs cp pl) (p0 : Int32)  : vx_Met l yX4_stop wsX4_stop ({ frames := 7, cells := 1, slots := 6, locals := 103 }) (va_Pc [.ref (ad 0), .int p0] (pB D tC dz pl sz)) (va_Qi (fun (r : Int32) (u2 : Nat → Int32) => ∃ k : Nat, k < 5 ∧ p0 = nI k ∧ r = up k ∧ u2 = upd up k 0) (fun (u2 : Nat → Int32) t9 => ∃ (t2 : Nat → Nat × Nat) (ed2 rs2 cp2 : Nat) (pl2 : va_W), tLe t t2 ∧ rs2 ≤ rs + 0 ∧ Ok tC dz t2 ad ed2 cb u2 rs2 cp2 pl2 ∧ pA D tC (va_A pl sz) pl2 t9) (va_A pl sz)) (xX (fun E => E = "java/lang/IndexOutOfBoundsException" ∧ (p0 < 0 ∨ 5 ≤ p0)) (xN sz)) 1 6 (va_A pl sz) := by
  refine vx_ofW (cc := cX4_stop) (maxL := 4) (ret := (some .boolean)) (by decide) rfl ?_
  intro p e s m args below meth c s₁ B hml hnx hv
  obtain ⟨rfl, hsz, hP, hK, hD0, hN, hE⟩ := hv
  have hx := B.exec
  have hb := B.bytes
  have hr := B.returns
  have hts := atoms_spec (ws := wsX4_stop) B.pre
  have hown : s.vm.findClass RX4 = some m.cls := findClass_of_methodNamed B.named
  have hlocks := B.notSynchronized
  subst hsz
  have hD := hD0.self (sz := s.heap.size)
  have hAm : ∀ q : Nat, xN s.heap.size q → va_A pl s.heap.size q := xN_A
  have hN0 : ∀ q : Nat, s.heap.size ≤ q → xN s.heap.size q := fun _ h => h
  have hE0 := eH_narrow hE hAm
  generalize va_A pl s.heap.size = A at hD hE hAm
  have hA : ∀ q : Nat, s.heap.size ≤ q → A q := fun q h => hAm q h
  have hS : va_S (xN s.heap.size) s.heap s.heap [] := va_S.rf
  obtain ⟨rs0, hrs0⟩ : ∃ z9, z9 = rs := ⟨_, rfl⟩
  obtain ⟨up0, hup0⟩ : ∃ z9, z9 = up := ⟨_, rfl⟩
  obtain ⟨cb0, hcb0⟩ : ∃ z9, z9 = cb := ⟨_, rfl⟩
  have hLe : tLe t t := tLe.rf
  have hRs : rs ≤ rs0 + 0 := by omega
  have hl := lv_entry ([.ref (ad 0), .int p0]) (n := 4) (Nat.le_of_ble_eq_true rfl)
  rw [lg_entry_eq]
  generalize (lg_sl ([.ref (ad 0), .int p0]) ++ List.replicate (4 - (lg_sl ([.ref (ad 0), .int p0])).length) Slot.unset).toArray = ls at hl ⊢
  have hl : lv_has ls 4 [(0, .ref (ad 0)), (1, .int p0)] := hl
  have w_0 := hts (.initialized RX3) (by decide +kernel)
  have w_1 := hts (.instanceMethod yX3_forgetWrite) (by decide +kernel)
  have w_2 := hts (.selects RX3 yX3_forgetWrite yX3_forgetWrite) (by decide +kernel)
  refine lv_aload_n hx hb dX4_stop_0 rfl (lv_at hl 0 rfl) ?_
  refine lv_iload_n hx hb dX4_stop_1 rfl (lv_at hl 1 rfl) ?_
  obtain ⟨p_1, hp_1⟩ := hO.k7
  refine vx_callr (vx_runV (As := [.int p0]) (rest := []) ⟨hx, hb, hml, hown, hts⟩ (c_X4_stationAt l hlt D tC dz s.heap.size pl t ad ed cb up rs cp hO p0 ) (cwV 1 hts gX4_stop_X4_stationAt rfl rfl rfl (by decide +kernel) ⟨Nat.le_of_ble_eq_true rfl, Nat.le_of_ble_eq_true rfl⟩) ⟨pB_blind, va_recv hK hP (ci := 5) (q0 := p_1) rfl hp_1, pB_at hP hD hK hN hE (hS.mono hAm) (freeA hD (hS.mono hAm) hA)⟩ rfl rfl hl.1 rfl (lv_room (Nat.le_of_ble_eq_true rfl)) dX4_stop_2 ⟨Nat.le_of_ble_eq_true rfl, Nat.le_of_ble_eq_true rfl⟩) hS oldN (freeN hS hN0) oldN (fun E ce q9 u t9 H1 locs ht hvm hpx hPE hz1 hk1 hS hce hcv hcl => ?_) (fun u r_2 t9 H1 locs ht hvm hw hB hz1 hk1 hS => ?_)
  · skip
    have hP := keepP hP hk1
    generalize H1 = H at hP hS hce ⊢
    exact vx_out (fun x h => (hnx x h).elim) hlocks hce hcv hcl (fun t9 h9 _ => ⟨(), trivial, hPE, hS.F h9⟩) (fun z9 h9 => hAm _ (hS.2.2 z9 h9)) (Nat.le_of_ble_eq_true rfl) (Nat.le_of_ble_eq_true rfl)
  · skip
    have hw_3 := hB
    have hP := keepP hP hk1
    generalize H1 = H at hP hS ⊢
    refine W.widen (k := 1) (n := 6) (by omega) (by omega) ?_
    obtain ⟨k_4, hk_4, ek_4, er⟩ := hw_3
    subst er
    subst ek_4
    refine lv_astore_n (lv' := [(2, .ref (ad (6 + k_4))), (0, .ref (ad 0)), (1, .int (nI k_4))]) hx hb dX4_stop_5 rfl hl (by decide) rfl (fun ls hl => ?_)
    refine lv_aload_n hx hb dX4_stop_6 rfl (lv_at hl 0 rfl) ?_
    obtain ⟨p_5, st_6, bg_7, pn_8, lk_9, ps_10, o_11, hp_5, h_12, h_13, h_14⟩ := hO.k12 hk_4
    refine va_getN (host := "NoticeStations") (D := D) (ci := 4) (v := .int (up k_4)) (C := RX3) (T := TX3) (N := 8) hx hb hts in_X4_stop_X3 hown hK hP p_5 hp_5 rfl 1 (by decide) (va_Nw.use rfl (hN.1 (.fieldLinkNest "NoticeStations" 160 "NoticeStations$Station" "up" "Z" "NoticeStations") (by decide +kernel))) (fun _ h9 => h9) rfl dX4_stop_7 ?_
    refine lv_istore_n (lv' := [(3, .int (up k_4)), (2, .ref (ad (6 + k_4))), (0, .ref (ad 0)), (1, .int (nI k_4))]) hx hb dX4_stop_10 rfl hl (by decide) rfl (fun ls hl => ?_)
    refine lv_aload_n hx hb dX4_stop_11 rfl (lv_at hl 1 rfl) ?_
    refine lv_iconst (v := 0) hx hb dX4_stop_12 (by decide) ?_
    have hS := hS.mono hAm
    obtain ⟨uv_15, euv_15⟩ : ∃ z9, z9 = (up k_4) := ⟨_, rfl⟩
    have hvuv_15 : uv_15 = 0 ∨ uv_15 = 1 := by rw [euv_15]; exact hO.2.2.2.2.2.2 _ hk_4
    have hl : lv_has ls 4 [(3, .int uv_15), (2, .ref (ad (6 + k_4))), (0, .ref (ad 0)), (1, .int (nI k_4))] := by rw [euv_15]; exact hl
    refine va_putN (host := "NoticeStations") (D := D) (ci := 4) (v := .int 0) (ty := .boolean) (C := RX3) (T := TX3) (N := 8) hx hb hts in_X4_stop_X3 tyX3 tyX3_ok nmX3 hown hK hP hD hS p_5 hp_5 rfl 1 (by decide) (va_Nw.use rfl (hN.1 (.fieldLinkNest "NoticeStations" 160 "NoticeStations$Station" "up" "Z" "NoticeStations") (by decide +kernel))) (fun _ h9 => h9) rfl (by decide +kernel) (by first | rfl | decide) (by first | rfl | decide) (Nat.le_of_ble_eq_true rfl) dX4_stop_13 (fun H locs hP hD hS => ?_)
    have hO := hO.pUp (v := 0) hk_4 (by decide) hp_5 h_12 h_13 h_14 (bg := bg_7) (pn := pn_8) (lk := lk_9) (ps := ps_10) (op := o_11)
    obtain ⟨up, hup9⟩ : ∃ z9, z9 = upd up k_4 0 := ⟨_, rfl⟩
    rw [← hup9] at hO
    obtain ⟨pl, hpl9⟩ : ∃ z9, z9 = pl.set p_5 ((ad (6 + k_4)), .inr (4, [.int (nI k_4), .int 0, .ref st_6, .int bg_7, .int pn_8, va_rf ps_10, .int lk_9, va_rf o_11])) := ⟨_, rfl⟩
    have hk_16 := setP hp_5 hpl9
    have hP : va_P D vwCl pl H := by rw [hpl9]; exact hP
    have hD : va_D A pl := by rw [hpl9]; exact hD
    have hO : Ok tC dz t ad ed cb up rs cp pl := by rw [hpl9]; exact hO
    refine lv_aload_n hx hb dX4_stop_16 rfl (lv_at hl 1 rfl) ?_
    have hFA := (freeA hD hS hA)
    refine va_callv (va_runVN (As := []) (rest := []) ⟨hx, hb, hml, hown, hts⟩ (c_X3_forgetWrite l hlt D tC dz H.size pl t ad ed cb up rs cp hO k_4 hk_4) ⟨(va_cnB (host := "NoticeStations") 0 hts gX4_stop_X3_forgetWrite_n142 rfl rfl rfl (hN.1 (.methodLinkNest "NoticeStations" 142 ⟨"NoticeStations$Station", "forgetWrite", "()V"⟩ "NoticeStations") (by decide +kernel)) w_0 (by decide +kernel) ⟨Nat.le_of_ble_eq_true rfl, Nat.le_of_ble_eq_true rfl⟩), w_1, w_2⟩ ⟨pB_blind, va_recv hK hP (ci := 4) (q0 := p_5) rfl hk_16, pB_at hP hD hK hN hE hS (freeA hD hS hA)⟩ rfl rfl hl.1 rfl (lv_room (Nat.le_of_ble_eq_true rfl)) dX4_stop_17 ⟨Nat.le_of_ble_eq_true rfl, Nat.le_of_ble_eq_true rfl⟩) hS (fun q _ h => hFA q h) hFA (fun u t9 H1 locs ht hvm hw hB hz1 hk1 hS => ?_)
    have hw_18 := hw
    obtain ⟨t, ed, rs, cp, pl, hle9, hrs9, hO, hP1, _, hD1⟩ := hB
    rw [ht] at hP1
    have hD : va_D A pl := hD1.weaken (fun _ _ _ h9 => hFA _ h9)
    have hP := hP1
    generalize H1 = H at hP hS ⊢
    have hRs : rs ≤ rs0 + 0 := by omega
    have hLe := hLe.trans hle9
    refine lv_iload_n hx hb dX4_stop_20 rfl (lv_at hl 0 rfl) ?_
    refine W.widen (k := 1) (n := 6) (by omega) (by omega) ?_
    exact vx_ret (W.zret (v := uv_15) hx hb hr (by rcases hvuv_15 with h9 | h9 <;> rw [h9] <;> decide) (fun t9 ht hW => ⟨⟨uv_15, up, rfl, ⟨k_4, hk_4, rfl, euv_15, hup9⟩, ⟨t, ed, rs, cp, pl, hLe, by omega, hO, (by rw [ht]; exact hP), va_K.moved hW.alike hK, hD⟩⟩, hS.F ht⟩) hS.2.2 dX4_stop_21 hlocks)
set_option maxHeartbeats 4000000 in
set_option maxRecDepth 100000 in
theorem c_X4_start (l : Launch) (hlt : l.stackTraces = false) (D : va_G) (tC : Nat → ClassId) (dz sz : Nat) (pl : va_W) (t : Nat → Nat × Nat) (ad : Nat → Nat) (ed : Nat) (cb up : Nat → Int32) (rs cp : Nat) (hO : Ok tC dz t ad ed cb up rs cp pl) (p0 : Int32)  : vx_Met l yX4_start wsX4_start ({ frames := 7, cells := 1, slots := 6, locals := 103 }) (va_Pc [.ref (ad 0), .int p0] (pB D tC dz pl sz)) (va_Qi (fun (r : Int32) (u2 : Nat → Int32) => ∃ k : Nat, k < 5 ∧ p0 = nI k ∧ r = (if up k = 0 then 1 else 0) ∧ u2 = upd up k 1) (fun (u2 : Nat → Int32) t9 => ∃ (t2 : Nat → Nat × Nat) (ed2 rs2 cp2 : Nat) (pl2 : va_W), tLe t t2 ∧ rs2 ≤ rs + 0 ∧ Ok tC dz t2 ad ed2 cb u2 rs2 cp2 pl2 ∧ pA D tC (va_A pl sz) pl2 t9) (va_A pl sz)) (xX (fun E => E = "java/lang/IndexOutOfBoundsException" ∧ (p0 < 0 ∨ 5 ≤ p0)) (xN sz)) 1 6 (va_A pl sz) := by
  refine vx_ofW (cc := cX4_start) (maxL := 4) (ret := (some .boolean)) (by decide) rfl ?_
  intro p e s m args below meth c s₁ B hml hnx hv
  obtain ⟨rfl, hsz, hP, hK, hD0, hN, hE⟩ := hv
  have hx := B.exec
  have hb := B.bytes
  have hr := B.returns
  have hts := atoms_spec (ws := wsX4_start) B.pre
  have hown : s.vm.findClass RX4 = some m.cls := findClass_of_methodNamed B.named
  have hlocks := B.notSynchronized
  subst hsz
  have hD := hD0.self (sz := s.heap.size)
  have hAm : ∀ q : Nat, xN s.heap.size q → va_A pl s.heap.size q := xN_A
  have hN0 : ∀ q : Nat, s.heap.size ≤ q → xN s.heap.size q := fun _ h => h
  have hE0 := eH_narrow hE hAm
  generalize va_A pl s.heap.size = A at hD hE hAm
  have hA : ∀ q : Nat, s.heap.size ≤ q → A q := fun q h => hAm q h
  have hS : va_S (xN s.heap.size) s.heap s.heap [] := va_S.rf
  obtain ⟨rs0, hrs0⟩ : ∃ z9, z9 = rs := ⟨_, rfl⟩
  obtain ⟨up0, hup0⟩ : ∃ z9, z9 = up := ⟨_, rfl⟩
  obtain ⟨cb0, hcb0⟩ : ∃ z9, z9 = cb := ⟨_, rfl⟩
  have hLe : tLe t t := tLe.rf
  have hRs : rs ≤ rs0 + 0 := by omega
  have hl := lv_entry ([.ref (ad 0), .int p0]) (n := 4) (Nat.le_of_ble_eq_true rfl)
  rw [lg_entry_eq]
  generalize (lg_sl ([.ref (ad 0), .int p0]) ++ List.replicate (4 - (lg_sl ([.ref (ad 0), .int p0])).length) Slot.unset).toArray = ls at hl ⊢
  have hl : lv_has ls 4 [(0, .ref (ad 0)), (1, .int p0)] := hl
  have w_0 := hts (.initialized RX3) (by decide +kernel)
  have w_1 := hts (.instanceMethod yX3_forgetWrite) (by decide +kernel)
  have w_2 := hts (.selects RX3 yX3_forgetWrite yX3_forgetWrite) (by decide +kernel)
  refine lv_aload_n hx hb dX4_start_0 rfl (lv_at hl 0 rfl) ?_
  refine lv_iload_n hx hb dX4_start_1 rfl (lv_at hl 1 rfl) ?_
  obtain ⟨p_1, hp_1⟩ := hO.k7
  refine vx_callr (vx_runV (As := [.int p0]) (rest := []) ⟨hx, hb, hml, hown, hts⟩ (c_X4_stationAt l hlt D tC dz s.heap.size pl t ad ed cb up rs cp hO p0 ) (cwV 1 hts gX4_start_X4_stationAt rfl rfl rfl (by decide +kernel) ⟨Nat.le_of_ble_eq_true rfl, Nat.le_of_ble_eq_true rfl⟩) ⟨pB_blind, va_recv hK hP (ci := 5) (q0 := p_1) rfl hp_1, pB_at hP hD hK hN hE (hS.mono hAm) (freeA hD (hS.mono hAm) hA)⟩ rfl rfl hl.1 rfl (lv_room (Nat.le_of_ble_eq_true rfl)) dX4_start_2 ⟨Nat.le_of_ble_eq_true rfl, Nat.le_of_ble_eq_true rfl⟩) hS oldN (freeN hS hN0) oldN (fun E ce q9 u t9 H1 locs ht hvm hpx hPE hz1 hk1 hS hce hcv hcl => ?_) (fun u r_2 t9 H1 locs ht hvm hw hB hz1 hk1 hS => ?_)
  · skip
    have hP := keepP hP hk1
    generalize H1 = H at hP hS hce ⊢
    exact vx_out (fun x h => (hnx x h).elim) hlocks hce hcv hcl (fun t9 h9 _ => ⟨(), trivial, hPE, hS.F h9⟩) (fun z9 h9 => hAm _ (hS.2.2 z9 h9)) (Nat.le_of_ble_eq_true rfl) (Nat.le_of_ble_eq_true rfl)
  · skip
    have hw_3 := hB
    have hP := keepP hP hk1
    generalize H1 = H at hP hS ⊢
    refine W.widen (k := 1) (n := 6) (by omega) (by omega) ?_
    obtain ⟨k_4, hk_4, ek_4, er⟩ := hw_3
    subst er
    subst ek_4
    refine lv_astore_n (lv' := [(2, .ref (ad (6 + k_4))), (0, .ref (ad 0)), (1, .int (nI k_4))]) hx hb dX4_start_5 rfl hl (by decide) rfl (fun ls hl => ?_)
    refine lv_aload_n hx hb dX4_start_6 rfl (lv_at hl 0 rfl) ?_
    obtain ⟨p_5, st_6, bg_7, pn_8, lk_9, ps_10, o_11, hp_5, h_12, h_13, h_14⟩ := hO.k12 hk_4
    refine va_getN (host := "NoticeStations") (D := D) (ci := 4) (v := .int (up k_4)) (C := RX3) (T := TX3) (N := 8) hx hb hts in_X4_start_X3 hown hK hP p_5 hp_5 rfl 1 (by decide) (va_Nw.use rfl (hN.1 (.fieldLinkNest "NoticeStations" 160 "NoticeStations$Station" "up" "Z" "NoticeStations") (by decide +kernel))) (fun _ h9 => h9) rfl dX4_start_7 ?_
    refine lv_if_ne (tgt := 17) hx hb dX4_start_10 (by decide) (fun c_15 => ?_) (fun c_15 => ?_)
    · skip
      refine lv_iconst (v := 0) hx hb dX4_start_17 (by decide) ?_
      refine lv_istore_n (lv' := [(3, .int 0), (2, .ref (ad (6 + k_4))), (0, .ref (ad 0)), (1, .int (nI k_4))]) hx hb dX4_start_18 rfl hl (by decide) rfl (fun ls hl => ?_)
      refine lv_aload_n hx hb dX4_start_19 rfl (lv_at hl 1 rfl) ?_
      refine lv_iconst (v := 1) hx hb dX4_start_20 (by decide) ?_
      have hS := hS.mono hAm
      refine va_putN (host := "NoticeStations") (D := D) (ci := 4) (v := .int 1) (ty := .boolean) (C := RX3) (T := TX3) (N := 8) hx hb hts in_X4_start_X3 tyX3 tyX3_ok nmX3 hown hK hP hD hS p_5 hp_5 rfl 1 (by decide) (va_Nw.use rfl (hN.1 (.fieldLinkNest "NoticeStations" 160 "NoticeStations$Station" "up" "Z" "NoticeStations") (by decide +kernel))) (fun _ h9 => h9) rfl (by decide +kernel) (by first | rfl | decide) (by first | rfl | decide) (Nat.le_of_ble_eq_true rfl) dX4_start_21 (fun H locs hP hD hS => ?_)
      have hO := hO.pUp (v := 1) hk_4 (by decide) hp_5 h_12 h_13 h_14 (bg := bg_7) (pn := pn_8) (lk := lk_9) (ps := ps_10) (op := o_11)
      obtain ⟨up, hup9⟩ : ∃ z9, z9 = upd up k_4 1 := ⟨_, rfl⟩
      rw [← hup9] at hO
      obtain ⟨pl, hpl9⟩ : ∃ z9, z9 = pl.set p_5 ((ad (6 + k_4)), .inr (4, [.int (nI k_4), .int 1, .ref st_6, .int bg_7, .int pn_8, va_rf ps_10, .int lk_9, va_rf o_11])) := ⟨_, rfl⟩
      have hk_16 := setP hp_5 hpl9
      have hP : va_P D vwCl pl H := by rw [hpl9]; exact hP
      have hD : va_D A pl := by rw [hpl9]; exact hD
      have hO : Ok tC dz t ad ed cb up rs cp pl := by rw [hpl9]; exact hO
      refine lv_aload_n hx hb dX4_start_24 rfl (lv_at hl 1 rfl) ?_
      have hFA := (freeA hD hS hA)
      refine va_callv (va_runVN (As := []) (rest := []) ⟨hx, hb, hml, hown, hts⟩ (c_X3_forgetWrite l hlt D tC dz H.size pl t ad ed cb up rs cp hO k_4 hk_4) ⟨(va_cnB (host := "NoticeStations") 0 hts gX4_start_X3_forgetWrite_n142 rfl rfl rfl (hN.1 (.methodLinkNest "NoticeStations" 142 ⟨"NoticeStations$Station", "forgetWrite", "()V"⟩ "NoticeStations") (by decide +kernel)) w_0 (by decide +kernel) ⟨Nat.le_of_ble_eq_true rfl, Nat.le_of_ble_eq_true rfl⟩), w_1, w_2⟩ ⟨pB_blind, va_recv hK hP (ci := 4) (q0 := p_5) rfl hk_16, pB_at hP hD hK hN hE hS (freeA hD hS hA)⟩ rfl rfl hl.1 rfl (lv_room (Nat.le_of_ble_eq_true rfl)) dX4_start_25 ⟨Nat.le_of_ble_eq_true rfl, Nat.le_of_ble_eq_true rfl⟩) hS (fun q _ h => hFA q h) hFA (fun u t9 H1 locs ht hvm hw hB hz1 hk1 hS => ?_)
      have hw_18 := hw
      obtain ⟨t, ed, rs, cp, pl, hle9, hrs9, hO, hP1, _, hD1⟩ := hB
      rw [ht] at hP1
      have hD : va_D A pl := hD1.weaken (fun _ _ _ h9 => hFA _ h9)
      have hP := hP1
      generalize H1 = H at hP hS ⊢
      have hRs : rs ≤ rs0 + 0 := by omega
      have hLe := hLe.trans hle9
      refine lv_iload_n hx hb dX4_start_28 rfl (lv_at hl 0 rfl) ?_
      refine W.widen (k := 1) (n := 6) (by omega) (by omega) ?_
      exact vx_ret (W.zret (v := 0) hx hb hr (by decide) (fun t9 ht hW => ⟨⟨0, up, rfl, ⟨k_4, hk_4, rfl, (by rw [if_neg c_15]), hup9⟩, ⟨t, ed, rs, cp, pl, hLe, by omega, hO, (by rw [ht]; exact hP), va_K.moved hW.alike hK, hD⟩⟩, hS.F ht⟩) hS.2.2 dX4_start_29 hlocks)
    · skip
      refine lv_iconst (v := 1) hx hb dX4_start_13 (by decide) ?_
      refine lv_goto (tgt := 18) hx hb dX4_start_14 (by decide) ?_
      refine lv_istore_n (lv' := [(3, .int 1), (2, .ref (ad (6 + k_4))), (0, .ref (ad 0)), (1, .int (nI k_4))]) hx hb dX4_start_18 rfl hl (by decide) rfl (fun ls hl => ?_)
      refine lv_aload_n hx hb dX4_start_19 rfl (lv_at hl 1 rfl) ?_
      refine lv_iconst (v := 1) hx hb dX4_start_20 (by decide) ?_
      have hS := hS.mono hAm
      refine va_putN (host := "NoticeStations") (D := D) (ci := 4) (v := .int 1) (ty := .boolean) (C := RX3) (T := TX3) (N := 8) hx hb hts in_X4_start_X3 tyX3 tyX3_ok nmX3 hown hK hP hD hS p_5 hp_5 rfl 1 (by decide) (va_Nw.use rfl (hN.1 (.fieldLinkNest "NoticeStations" 160 "NoticeStations$Station" "up" "Z" "NoticeStations") (by decide +kernel))) (fun _ h9 => h9) rfl (by decide +kernel) (by first | rfl | decide) (by first | rfl | decide) (Nat.le_of_ble_eq_true rfl) dX4_start_21 (fun H locs hP hD hS => ?_)
      have hO := hO.pUp (v := 1) hk_4 (by decide) hp_5 h_12 h_13 h_14 (bg := bg_7) (pn := pn_8) (lk := lk_9) (ps := ps_10) (op := o_11)
      obtain ⟨up, hup9⟩ : ∃ z9, z9 = upd up k_4 1 := ⟨_, rfl⟩
      rw [← hup9] at hO
      obtain ⟨pl, hpl9⟩ : ∃ z9, z9 = pl.set p_5 ((ad (6 + k_4)), .inr (4, [.int (nI k_4), .int 1, .ref st_6, .int bg_7, .int pn_8, va_rf ps_10, .int lk_9, va_rf o_11])) := ⟨_, rfl⟩
      have hk_20 := setP hp_5 hpl9
      have hP : va_P D vwCl pl H := by rw [hpl9]; exact hP
      have hD : va_D A pl := by rw [hpl9]; exact hD
      have hO : Ok tC dz t ad ed cb up rs cp pl := by rw [hpl9]; exact hO
      refine lv_aload_n hx hb dX4_start_24 rfl (lv_at hl 1 rfl) ?_
      have hFA := (freeA hD hS hA)
      refine va_callv (va_runVN (As := []) (rest := []) ⟨hx, hb, hml, hown, hts⟩ (c_X3_forgetWrite l hlt D tC dz H.size pl t ad ed cb up rs cp hO k_4 hk_4) ⟨(va_cnB (host := "NoticeStations") 0 hts gX4_start_X3_forgetWrite_n142 rfl rfl rfl (hN.1 (.methodLinkNest "NoticeStations" 142 ⟨"NoticeStations$Station", "forgetWrite", "()V"⟩ "NoticeStations") (by decide +kernel)) w_0 (by decide +kernel) ⟨Nat.le_of_ble_eq_true rfl, Nat.le_of_ble_eq_true rfl⟩), w_1, w_2⟩ ⟨pB_blind, va_recv hK hP (ci := 4) (q0 := p_5) rfl hk_20, pB_at hP hD hK hN hE hS (freeA hD hS hA)⟩ rfl rfl hl.1 rfl (lv_room (Nat.le_of_ble_eq_true rfl)) dX4_start_25 ⟨Nat.le_of_ble_eq_true rfl, Nat.le_of_ble_eq_true rfl⟩) hS (fun q _ h => hFA q h) hFA (fun u t9 H1 locs ht hvm hw hB hz1 hk1 hS => ?_)
      have hw_22 := hw
      obtain ⟨t, ed, rs, cp, pl, hle9, hrs9, hO, hP1, _, hD1⟩ := hB
      rw [ht] at hP1
      have hD : va_D A pl := hD1.weaken (fun _ _ _ h9 => hFA _ h9)
      have hP := hP1
      generalize H1 = H at hP hS ⊢
      have hRs : rs ≤ rs0 + 0 := by omega
      have hLe := hLe.trans hle9
      refine lv_iload_n hx hb dX4_start_28 rfl (lv_at hl 0 rfl) ?_
      refine W.widen (k := 1) (n := 6) (by omega) (by omega) ?_
      exact vx_ret (W.zret (v := 1) hx hb hr (by decide) (fun t9 ht hW => ⟨⟨1, up, rfl, ⟨k_4, hk_4, rfl, (by rw [if_pos c_15]), hup9⟩, ⟨t, ed, rs, cp, pl, hLe, by omega, hO, (by rw [ht]; exact hP), va_K.moved hW.alike hK, hD⟩⟩, hS.F ht⟩) hS.2.2 dX4_start_29 hlocks)
