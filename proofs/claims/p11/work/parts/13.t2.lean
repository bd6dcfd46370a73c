set_option maxRecDepth 100000 in
theorem dX4_stationAt_0 : decode cX4_stationAt 0 = .ok (.iload_n 1, 1) := by decide +kernel
set_option maxRecDepth 100000 in
theorem dX4_stationAt_1 : decode cX4_stationAt 1 = .ok (.iconst 5, 1) := by decide +kernel
set_option maxRecDepth 100000 in
theorem dX4_stationAt_2 : decode cX4_stationAt 2 = .ok (.invokestatic 46, 3) := by decide +kernel
set_option maxRecDepth 20000 in
theorem ggX4_stationAt_X4_isBelow : GoodIn wsX4_stationAt wsX4_isBelow := goodIn_r _ [7] (by decide +kernel) (by decide +kernel)
set_option maxRecDepth 20000 in
theorem gX4_stationAt_X4_isBelow : GoodIn wsX4_stationAt (va_wsS RX4 46 yX4_isBelow wsX4_isBelow) := goodIn_app (goodIn_of _ (by decide +kernel)) ggX4_stationAt_X4_isBelow
set_option maxRecDepth 100000 in
theorem dX4_stationAt_5 : decode cX4_stationAt 5 = .ok (.ifCond .ne 13, 3) := by decide +kernel
set_option maxRecDepth 100000 in
theorem dX4_stationAt_18 : decode cX4_stationAt 18 = .ok (.aload_n 0, 1) := by decide +kernel
set_option maxRecDepth 100000 in
theorem dX4_stationAt_19 : decode cX4_stationAt 19 = .ok (.getfield 11, 3) := by decide +kernel
set_option maxRecDepth 100000 in
theorem in_X4_stationAt_X4 : ∀ w ∈ wsX40, w ∈ wsX4_stationAt := fun _ h => List.mem_cons_of_mem _ (List.mem_append_left _ (List.mem_append_right _ h))
set_option maxRecDepth 100000 in
theorem dX4_stationAt_22 : decode cX4_stationAt 22 = .ok (.iload_n 1, 1) := by decide +kernel
set_option maxRecDepth 100000 in
theorem dX4_stationAt_23 : decode cX4_stationAt 23 = .ok (.aaload, 1) := by decide +kernel
set_option maxRecDepth 100000 in
theorem dX4_stationAt_24 : decode cX4_stationAt 24 = .ok (.areturn, 1) := by decide +kernel
set_option maxRecDepth 100000 in
theorem dX4_stationAt_8 : decode cX4_stationAt 8 = .ok (.new 247, 3) := by decide +kernel
set_option maxRecDepth 100000 in
theorem dX4_stationAt_11 : decode cX4_stationAt 11 = .ok (.dup, 1) := by decide +kernel
set_option maxRecDepth 100000 in
theorem dX4_stationAt_12 : decode cX4_stationAt 12 = .ok (.ldc 249, 2) := by decide +kernel
set_option maxRecDepth 100000 in
theorem dX4_stationAt_14 : decode cX4_stationAt 14 = .ok (.invokespecial 251, 3) := by decide +kernel
set_option maxRecDepth 100000 in
theorem dX4_stationAt_17 : decode cX4_stationAt 17 = .ok (.athrow, 1) := by decide +kernel
set_option maxRecDepth 100000 in
theorem th_X4_stationAt_IOOBE : ∀ w ∈ (vx_atS RX4 251 "java/lang/IndexOutOfBoundsException" ["java/lang/RuntimeException", "java/lang/Exception"]).filter goodWord, w ∈ wsX4_stationAt := fun _ h => List.mem_cons_of_mem _ (List.mem_append_right _ h)
set_option maxHeartbeats 4000000 in
set_option maxRecDepth 100000 in
theorem c_X4_stationAt (l : Launch) (hlt : l.stackTraces = false) (D : va_G) (tC : Nat → ClassId) (dz sz : Nat) (pl : va_W) (t : Nat → Nat × Nat) (ad : Nat → Nat) (ed : Nat) (cb up : Nat → Int32) (rs cp : Nat) (hO : Ok tC dz t ad ed cb up rs cp pl) (p0 : Int32)  : vx_Met l yX4_stationAt wsX4_stationAt ({ frames := 6, cells := 1, slots := 6, locals := 82 }) (va_Pc [.ref (ad 0), .int p0] (pB D tC dz pl sz)) (va_Qr (fun (_ : Unit) => True) (fun (_ : Unit) (r : Nat) _ => ∃ k : Nat, k < 5 ∧ p0 = nI k ∧ r = ad (6 + k)) (xN sz)) (xX (fun E => E = "java/lang/IndexOutOfBoundsException" ∧ (p0 < 0 ∨ 5 ≤ p0)) (xN sz)) 1 6 (xN sz) := by
  refine vx_ofW (cc := cX4_stationAt) (maxL := 2) (ret := (some (.object "NoticeStations$Station"))) (by decide) rfl ?_
  intro p e s m args below meth c s₁ B hml hnx hv
  obtain ⟨rfl, hsz, hP, hK, hD0, hN, hE⟩ := hv
  have hx := B.exec
  have hb := B.bytes
  have hr := B.returns
  have hts := atoms_spec (ws := wsX4_stationAt) B.pre
  have hown : s.vm.findClass RX4 = some m.cls := findClass_of_methodNamed B.named
  have hlocks := B.notSynchronized
  subst hsz
  have hD := hD0.self (sz := s.heap.size)
  have hAm : ∀ q : Nat, xN s.heap.size q → va_A pl s.heap.size q := xN_A
  have hN0 : ∀ q : Nat, s.heap.size ≤ q → xN s.heap.size q := fun _ h => h
  have hE0 := eH_narrow hE hAm
  generalize va_A pl s.heap.size = A at hD hE hAm
  have hA : ∀ q : Nat, s.heap.size ≤ q → A q := fun q h => hAm q h
  have hS : va_S (xN s.heap.size) s.heap s.heap [] := va_S.rf
  have hl := lv_entry ([.ref (ad 0), .int p0]) (n := 2) (Nat.le_of_ble_eq_true rfl)
  rw [lg_entry_eq]
  generalize (lg_sl ([.ref (ad 0), .int p0]) ++ List.replicate (2 - (lg_sl ([.ref (ad 0), .int p0])).length) Slot.unset).toArray = ls at hl ⊢
  have hl : lv_has ls 2 [(0, .ref (ad 0)), (1, .int p0)] := hl
  have w_0 := hts (.fieldLink RX4 11 "NoticeStations" "stations" "[LNoticeStations$Station;") (by decide +kernel)
  have w_1 := hts (.classLink RX4 247 "java/lang/IndexOutOfBoundsException") (by decide +kernel)
  have w_2 := hts (.initialized "java/lang/IndexOutOfBoundsException") (by decide +kernel)
  refine lv_iload_n hx hb dX4_stationAt_0 rfl (lv_at hl 1 rfl) ?_
  refine lv_iconst (v := 5) hx hb dX4_stationAt_1 (by decide) ?_
  refine va_calli (va_runS (As := [.int p0, .int 5]) (rest := []) ⟨hx, hb, hml, hown, hts⟩ (c_X4_isBelow l hlt D tC dz s.heap.size pl t ad ed cb up rs cp hO p0 5 ) (va_cwS 2 hts gX4_stationAt_X4_isBelow rfl rfl rfl (by decide +kernel) ⟨Nat.le_of_ble_eq_true rfl, Nat.le_of_ble_eq_true rfl⟩) ⟨pB_blind, pB_at hP hD hK hN hE (hS.mono hAm) (freeA hD (hS.mono hAm) hA)⟩ rfl rfl hl.1 rfl (lv_room (Nat.le_of_ble_eq_true rfl)) dX4_stationAt_2 ⟨Nat.le_of_ble_eq_true rfl, Nat.le_of_ble_eq_true rfl⟩) hS oldN (freeN hS hN0) (fun r_1 u t9 H1 locs ht hvm hw hB hz1 hk1 hS => ?_)
  have hw_2 := hw
  have hP := keepP hP hk1
  generalize H1 = H at hP hS ⊢
  refine lv_if_ne (tgt := 18) hx hb dX4_stationAt_5 (by decide) (fun c_3 => ?_) (fun c_3 => ?_)
  · skip
    refine lv_aload_n hx hb dX4_stationAt_18 rfl (lv_at hl 0 rfl) ?_
    obtain ⟨p_4, hp_4⟩ := hO.k7
    refine va_get (D := D) (ci := 5) (v := .ref (ad 1)) (C := RX4) (T := TX4) (N := 4) hx hb hts in_X4_stationAt_X4 hown hK hP p_4 hp_4 rfl 0 (by decide) w_0 (fun _ h9 => h9) rfl dX4_stationAt_19 ?_
    refine lv_iload_n hx hb dX4_stationAt_22 rfl (lv_at hl 1 rfl) ?_
    obtain ⟨k_5, hk_5, ek_5⟩ := ix5 (bl1 hw_2 c_3)
    subst ek_5
    obtain ⟨p_6, f_7, hp_6, h_8⟩ := hO.k8
    refine va_aldq hx hb hK hP p_6 3 hp_6 rfl (in5 hk_5) dX4_stationAt_23 ?_
    rw [show f_7 (nI k_5).toNatClampNeg = some (ad (6 + k_5)) by rw [(cl5 hk_5)]; exact h_8 k_5 hk_5]
    refine W.eq (g2 := F0 m 24 ls [.ref (ad (6 + k_5))]) rfl ?_
    refine W.widen (k := 1) (n := 6) (by omega) (by omega) ?_
    exact vx_ret (W.aret (v := .ref (ad (6 + k_5))) hx hb hr (Or.inl ⟨_, rfl⟩) (Or.inr ⟨_, rfl⟩) (fun t9 ht hW => ⟨⟨(), (ad (6 + k_5)), rfl, trivial, ⟨k_5, hk_5, rfl, rfl⟩⟩, hS.F ht⟩) hS.2.2 dX4_stationAt_24 hlocks)
  · skip
    obtain ⟨sa, hstr⟩ := hN.2.1 (249, "no such station") (by decide +kernel)
    exact vx_throwS hx hb hlt hown (by decide +kernel) (by decide +kernel) w_1 w_2 hstr (vx_hat (fun w hw => hts w (th_X4_stationAt_IOOBE w hw)) at_IOOBE_rest (at_IOOBE_hat hN)) at_IOOBE_ok hE0.1 hE0.2.1 hS (by rw [hml]; exact hl.1) dX4_stationAt_8 dX4_stationAt_11 dX4_stationAt_12 dX4_stationAt_14 dX4_stationAt_17 (fun x h => (hnx x h).elim) (by decide) (by decide) (Nat.le_of_ble_eq_true rfl) (Nat.le_of_ble_eq_true rfl) hlocks (fun t9 _ h1 h2 => ⟨(), trivial, ⟨rfl, bl0 hw_2 c_3⟩, xF hS h1 h2⟩) hS.2.2 (Nat.le_of_ble_eq_true rfl) (Nat.le_of_ble_eq_true rfl)
