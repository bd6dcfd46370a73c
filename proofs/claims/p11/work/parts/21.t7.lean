set_option maxRecDepth 100000 in
theorem dX3_forgetWrite_0 : decode cX3_forgetWrite 0 = .ok (.aload_n 0, 1) := by decide +kernel
set_option maxRecDepth 100000 in
theorem dX3_forgetWrite_1 : decode cX3_forgetWrite 1 = .ok (.iconst (-1), 1) := by decide +kernel
set_option maxRecDepth 100000 in
theorem dX3_forgetWrite_2 : decode cX3_forgetWrite 2 = .ok (.putfield 26, 3) := by decide +kernel
set_option maxRecDepth 100000 in
theorem in_X3_forgetWrite_X3 : ∀ w ∈ wsX30, w ∈ wsX3_forgetWrite := fun _ h => List.mem_cons_of_mem _ (List.mem_append_right _ h)
set_option maxRecDepth 100000 in
theorem dX3_forgetWrite_5 : decode cX3_forgetWrite 5 = .ok (.aload_n 0, 1) := by decide +kernel
set_option maxRecDepth 100000 in
theorem dX3_forgetWrite_6 : decode cX3_forgetWrite 6 = .ok (.aconst_null, 1) := by decide +kernel
set_option maxRecDepth 100000 in
theorem dX3_forgetWrite_7 : decode cX3_forgetWrite 7 = .ok (.putfield 29, 3) := by decide +kernel
set_option maxRecDepth 100000 in
theorem dX3_forgetWrite_10 : decode cX3_forgetWrite 10 = .ok (.return_, 1) := by decide +kernel
set_option maxRecDepth 100000 in
theorem dX3_endDoubt_0 : decode cX3_endDoubt 0 = .ok (.aload_n 0, 1) := by decide +kernel
set_option maxRecDepth 100000 in
theorem dX3_endDoubt_1 : decode cX3_endDoubt 1 = .ok (.iconst (-1), 1) := by decide +kernel
set_option maxRecDepth 100000 in
theorem dX3_endDoubt_2 : decode cX3_endDoubt 2 = .ok (.putfield 19, 3) := by decide +kernel
set_option maxRecDepth 100000 in
theorem in_X3_endDoubt_X3 : ∀ w ∈ wsX30, w ∈ wsX3_endDoubt := fun _ h => List.mem_cons_of_mem _ (List.mem_append_right _ h)
set_option maxRecDepth 100000 in
theorem dX3_endDoubt_5 : decode cX3_endDoubt 5 = .ok (.aload_n 0, 1) := by decide +kernel
set_option maxRecDepth 100000 in
theorem dX3_endDoubt_6 : decode cX3_endDoubt 6 = .ok (.aconst_null, 1) := by decide +kernel
set_option maxRecDepth 100000 in
theorem dX3_endDoubt_7 : decode cX3_endDoubt 7 = .ok (.putfield 22, 3) := by decide +kernel
set_option maxRecDepth 100000 in
theorem dX3_endDoubt_10 : decode cX3_endDoubt 10 = .ok (.return_, 1) := by decide +kernel
set_option maxRecDepth 100000 in
theorem dX4_unlock_0 : decode cX4_unlock 0 = .ok (.aload_n 0, 1) := by decide +kernel
set_option maxRecDepth 100000 in
theorem dX4_unlock_1 : decode cX4_unlock 1 = .ok (.iload_n 1, 1) := by decide +kernel
set_option maxRecDepth 100000 in
theorem dX4_unlock_2 : decode cX4_unlock 2 = .ok (.invokevirtual 42, 3) := by decide +kernel
set_option maxRecDepth 20000 in
theorem ggX4_unlock_X4_stationAt : GoodIn wsX4_unlock wsX4_stationAt := goodIn_ca (goodIn_r _ [7, 8, 9, 10, 11, 12, 6, 13, 22, 23, 24, 25] (by decide +kernel) (by decide +kernel)) (goodIn_sub (fun _ h => List.mem_cons_of_mem _ (List.mem_append_right _ h)) (by decide +kernel))
set_option maxRecDepth 20000 in
theorem gX4_unlock_X4_stationAt : GoodIn wsX4_unlock (wsV RX4 42 RX4 yX4_stationAt wsX4_stationAt) := goodIn_app (goodIn_of _ (by decide +kernel)) ggX4_unlock_X4_stationAt
set_option maxRecDepth 100000 in
theorem dX4_unlock_5 : decode cX4_unlock 5 = .ok (.astore_n 2, 1) := by decide +kernel
set_option maxRecDepth 100000 in
theorem dX4_unlock_6 : decode cX4_unlock 6 = .ok (.aload_n 2, 1) := by decide +kernel
set_option maxRecDepth 100000 in
theorem dX4_unlock_7 : decode cX4_unlock 7 = .ok (.getfield 155, 3) := by decide +kernel
set_option maxRecDepth 100000 in
theorem in_X4_unlock_X3 : ∀ w ∈ wsX30, w ∈ wsX4_unlock := fun _ h => List.mem_cons_of_mem _ (List.mem_append_left _ (List.mem_append_left _ (List.mem_append_left _ (List.mem_append_right _ h))))
set_option maxRecDepth 100000 in
theorem dX4_unlock_10 : decode cX4_unlock 10 = .ok (.iconst (-1), 1) := by decide +kernel
set_option maxRecDepth 100000 in
theorem dX4_unlock_11 : decode cX4_unlock 11 = .ok (.if_icmp .eq 10, 3) := by decide +kernel
set_option maxRecDepth 100000 in
theorem dX4_unlock_21 : decode cX4_unlock 21 = .ok (.new 91, 3) := by decide +kernel
set_option maxRecDepth 100000 in
theorem dX4_unlock_24 : decode cX4_unlock 24 = .ok (.dup, 1) := by decide +kernel
set_option maxRecDepth 100000 in
theorem dX4_unlock_25 : decode cX4_unlock 25 = .ok (.ldc 158, 2) := by decide +kernel
set_option maxRecDepth 100000 in
theorem dX4_unlock_27 : decode cX4_unlock 27 = .ok (.invokespecial 95, 3) := by decide +kernel
set_option maxRecDepth 100000 in
theorem dX4_unlock_30 : decode cX4_unlock 30 = .ok (.athrow, 1) := by decide +kernel
set_option maxRecDepth 100000 in
theorem th_X4_unlock_ISE : ∀ w ∈ (vx_atS RX4 95 "java/lang/IllegalStateException" ["java/lang/RuntimeException", "java/lang/Exception"]).filter goodWord, w ∈ wsX4_unlock := fun _ h => List.mem_cons_of_mem _ (List.mem_append_left _ (List.mem_append_right _ h))
set_option maxRecDepth 100000 in
theorem dX4_unlock_14 : decode cX4_unlock 14 = .ok (.aload_n 2, 1) := by decide +kernel
set_option maxRecDepth 100000 in
theorem dX4_unlock_15 : decode cX4_unlock 15 = .ok (.getfield 81, 3) := by decide +kernel
set_option maxRecDepth 100000 in
theorem dX4_unlock_18 : decode cX4_unlock 18 = .ok (.ifnull 13, 3) := by decide +kernel
set_option maxRecDepth 100000 in
theorem dX4_unlock_31 : decode cX4_unlock 31 = .ok (.aload_n 2, 1) := by decide +kernel
set_option maxRecDepth 100000 in
theorem dX4_unlock_32 : decode cX4_unlock 32 = .ok (.iconst (-1), 1) := by decide +kernel
set_option maxRecDepth 100000 in
theorem dX4_unlock_33 : decode cX4_unlock 33 = .ok (.putfield 155, 3) := by decide +kernel
set_option maxRecDepth 100000 in
theorem dX4_unlock_36 : decode cX4_unlock 36 = .ok (.return_, 1) := by decide +kernel
set_option maxHeartbeats 4000000 in
set_option maxRecDepth 100000 in
theorem c_X3_forgetWrite (l : Launch) (hlt : l.stackTraces = false) (D : va_G) (tC : Nat → ClassId) (dz sz : Nat) (pl : va_W) (t : Nat → Nat × Nat) (ad : Nat → Nat) (ed : Nat) (cb up : Nat → Int32) (rs cp : Nat) (hO : Ok tC dz t ad ed cb up rs cp pl) (i : Nat) (hi : i < 5) : Met l yX3_forgetWrite wsX3_forgetWrite ({ frames := 0, cells := 0, slots := 0, locals := 0 }) (va_Pc [.ref (ad (6 + i))] (pB D tC dz pl sz)) (va_Qv (fun (_ : Unit) => True) (fun (_ : Unit) t9 => ∃ (t2 : Nat → Nat × Nat) (ed2 rs2 cp2 : Nat) (pl2 : va_W), tLe t t2 ∧ rs2 ≤ rs + 0 ∧ Ok tC dz t2 ad ed2 cb up rs2 cp2 pl2 ∧ pA D tC (va_A pl sz) pl2 t9) (va_A pl sz)) 0 0 (va_A pl sz) := by
  refine Met.ofW (cc := cX3_forgetWrite) (maxL := 1) (ret := none) (by decide) rfl ?_
  intro p e s m args below meth c s₁ B hml hv
  obtain ⟨rfl, hsz, hP, hK, hD0, hN, hE⟩ := hv
  have hx := B.exec
  have hb := B.bytes
  have hr := B.returns
  have hts := atoms_spec (ws := wsX3_forgetWrite) B.pre
  have hown : s.vm.findClass RX3 = some m.cls := findClass_of_methodNamed B.named
  have hlocks := B.notSynchronized
  subst hsz
  have hD := hD0.self (sz := s.heap.size)
  have hAm : ∀ q : Nat, xN s.heap.size q → va_A pl s.heap.size q := xN_A
  have hN0 : ∀ q : Nat, s.heap.size ≤ q → xN s.heap.size q := fun _ h => h
  have hE0 := eH_narrow hE hAm
  generalize va_A pl s.heap.size = A at hD hE hAm
  have hA : ∀ q : Nat, s.heap.size ≤ q → A q := fun q h => hAm q h
  have hS : va_S (xN s.heap.size) s.heap s.heap [] := va_S.rf
  obtain ⟨rs0, hrs0⟩ : ∃ z9, z9 = rs := ⟨_, rfl⟩
  obtain ⟨up0, hup0⟩ : ∃ z9, z9 = up := ⟨_, rfl⟩
  obtain ⟨cb0, hcb0⟩ : ∃ z9, z9 = cb := ⟨_, rfl⟩
  have hLe : tLe t t := tLe.rf
  have hRs : rs ≤ rs0 + 0 := by omega
  have hl := lv_entry ([.ref (ad (6 + i))]) (n := 1) (Nat.le_of_ble_eq_true rfl)
  rw [lg_entry_eq]
  generalize (lg_sl ([.ref (ad (6 + i))]) ++ List.replicate (1 - (lg_sl ([.ref (ad (6 + i))])).length) Slot.unset).toArray = ls at hl ⊢
  have hl : lv_has ls 1 [(0, .ref (ad (6 + i)))] := hl
  have w_0 := hts (.fieldLink RX3 26 "NoticeStations$Station" "lock" "I") (by decide +kernel)
  have w_1 := hts (.fieldLink RX3 29 "NoticeStations$Station" "open" "LNoticeStations$OpenWrite;") (by decide +kernel)
  refine lv_aload_n hx hb dX3_forgetWrite_0 rfl (lv_at hl 0 rfl) ?_
  refine lv_iconst (v := (-1)) hx hb dX3_forgetWrite_1 (by decide) ?_
  obtain ⟨p_1, st_2, bg_3, pn_4, lk_5, ps_6, o_7, hp_1, h_8, h_9, h_10⟩ := hO.k12 hi
  have hS := hS.mono hAm
  refine va_put (D := D) (ci := 4) (v := .int (-1)) (ty := .int) (C := RX3) (T := TX3) (N := 8) hx hb hts in_X3_forgetWrite_X3 tyX3 tyX3_ok nmX3 hown hK hP hD hS p_1 hp_1 rfl 6 (by decide) w_0 (fun _ h9 => h9) rfl (by decide +kernel) (by first | rfl | decide) (by first | rfl | decide) (Nat.le_of_ble_eq_true rfl) dX3_forgetWrite_2 (fun H locs hP hD hS => ?_)
  have hO := hO.p12 hi hp_1 h_8 h_9 h_10 (bg := bg_3) (pn := pn_4) (lk := (-1)) (ps := ps_6) (op := o_7)
  obtain ⟨pl, hpl9⟩ : ∃ z9, z9 = pl.set p_1 ((ad (6 + i)), .inr (4, [.int (nI i), .int (up i), .ref st_2, .int bg_3, .int pn_4, va_rf ps_6, .int (-1), va_rf o_7])) := ⟨_, rfl⟩
  have hk_11 := setP hp_1 hpl9
  have hP : va_P D vwCl pl H := by rw [hpl9]; exact hP
  have hD : va_D A pl := by rw [hpl9]; exact hD
  have hO : Ok tC dz t ad ed cb up rs cp pl := by rw [hpl9]; exact hO
  refine lv_aload_n hx hb dX3_forgetWrite_5 rfl (lv_at hl 0 rfl) ?_
  refine lv_null hx hb dX3_forgetWrite_6 ?_
  refine va_put (D := D) (ci := 4) (v := .null) (ty := .object "NoticeStations$OpenWrite") (C := RX3) (T := TX3) (N := 8) hx hb hts in_X3_forgetWrite_X3 tyX3 tyX3_ok nmX3 hown hK hP hD hS p_1 hk_11 rfl 7 (by decide) w_1 (fun _ h9 => h9) rfl (by decide +kernel) (by first | rfl | decide) (by first | rfl | decide) (Nat.le_of_ble_eq_true rfl) dX3_forgetWrite_7 (fun H locs hP hD hS => ?_)
  have hO := hO.p12 hi hk_11 h_8 h_9 isK.no (bg := bg_3) (pn := pn_4) (lk := (-1)) (ps := ps_6) (op := none)
  obtain ⟨pl, hpl9⟩ : ∃ z9, z9 = pl.set p_1 ((ad (6 + i)), .inr (4, [.int (nI i), .int (up i), .ref st_2, .int bg_3, .int pn_4, va_rf ps_6, .int (-1), .null])) := ⟨_, rfl⟩
  have hk_12 := setP hk_11 hpl9
  have hP : va_P D vwCl pl H := by rw [hpl9]; exact hP
  have hD : va_D A pl := by rw [hpl9]; exact hD
  have hO : Ok tC dz t ad ed cb up rs cp pl := by rw [hpl9]; exact hO
  refine W.widen (k := 0) (n := 0) (by omega) (by omega) ?_
  exact W.vret hx hb hr (fun t9 ht hW => ⟨⟨(), rfl, trivial, ⟨t, ed, rs, cp, pl, hLe, by omega, hO, (by rw [ht]; exact hP), va_K.moved hW.alike hK, hD⟩⟩, hS.F ht⟩) hS.2.2 dX3_forgetWrite_10 hlocks
set_option maxHeartbeats 4000000 in
set_option maxRecDepth 100000 in
theorem c_X3_endDoubt (l : Launch) (hlt : l.stackTraces = false) (D : va_G) (tC : Nat → ClassId) (dz sz : Nat) (pl : va_W) (t : Nat → Nat × Nat) (ad : Nat → Nat) (ed : Nat) (cb up : Nat → Int32) (rs cp : Nat) (hO : Ok tC dz t ad ed cb up rs cp pl) (i : Nat) (hi : i < 5) : Met l yX3_endDoubt wsX3_endDoubt ({ frames := 0, cells := 0, slots := 0, locals := 0 }) (va_Pc [.ref (ad (6 + i))] (pB D tC dz pl sz)) (va_Qv (fun (_ : Unit) => True) (fun (_ : Unit) t9 => ∃ (t2 : Nat → Nat × Nat) (ed2 rs2 cp2 : Nat) (pl2 : va_W), tLe t t2 ∧ rs2 ≤ rs + 0 ∧ Ok tC dz t2 ad ed2 cb up rs2 cp2 pl2 ∧ pA D tC (va_A pl sz) pl2 t9) (va_A pl sz)) 0 0 (va_A pl sz) := by
  refine Met.ofW (cc := cX3_endDoubt) (maxL := 1) (ret := none) (by decide) rfl ?_
  intro p e s m args below meth c s₁ B hml hv
  obtain ⟨rfl, hsz, hP, hK, hD0, hN, hE⟩ := hv
  have hx := B.exec
  have hb := B.bytes
  have hr := B.returns
  have hts := atoms_spec (ws := wsX3_endDoubt) B.pre
  have hown : s.vm.findClass RX3 = some m.cls := findClass_of_methodNamed B.named
  have hlocks := B.notSynchronized
  subst hsz
  have hD := hD0.self (sz := s.heap.size)
  have hAm : ∀ q : Nat, xN s.heap.size q → va_A pl s.heap.size q := xN_A
  have hN0 : ∀ q : Nat, s.heap.size ≤ q → xN s.heap.size q := fun _ h => h
  have hE0 := eH_narrow hE hAm
  generalize va_A pl s.heap.size = A at hD hE hAm
  have hA : ∀ q : Nat, s.heap.size ≤ q → A q := fun q h => hAm q h
  have hS : va_S (xN s.heap.size) s.heap s.heap [] := va_S.rf
  obtain ⟨rs0, hrs0⟩ : ∃ z9, z9 = rs := ⟨_, rfl⟩
  obtain ⟨up0, hup0⟩ : ∃ z9, z9 = up := ⟨_, rfl⟩
  obtain ⟨cb0, hcb0⟩ : ∃ z9, z9 = cb := ⟨_, rfl⟩
  have hLe : tLe t t := tLe.rf
  have hRs : rs ≤ rs0 + 0 := by omega
  have hl := lv_entry ([.ref (ad (6 + i))]) (n := 1) (Nat.le_of_ble_eq_true rfl)
  rw [lg_entry_eq]
  generalize (lg_sl ([.ref (ad (6 + i))]) ++ List.replicate (1 - (lg_sl ([.ref (ad (6 + i))])).length) Slot.unset).toArray = ls at hl ⊢
  have hl : lv_has ls 1 [(0, .ref (ad (6 + i)))] := hl
  have w_0 := hts (.fieldLink RX3 19 "NoticeStations$Station" "preparedNumber" "I") (by decide +kernel)
  have w_1 := hts (.fieldLink RX3 22 "NoticeStations$Station" "preparedStanding" "LNoticeStations$Standing;") (by decide +kernel)
  refine lv_aload_n hx hb dX3_endDoubt_0 rfl (lv_at hl 0 rfl) ?_
  refine lv_iconst (v := (-1)) hx hb dX3_endDoubt_1 (by decide) ?_
  obtain ⟨p_1, st_2, bg_3, pn_4, lk_5, ps_6, o_7, hp_1, h_8, h_9, h_10⟩ := hO.k12 hi
  have hS := hS.mono hAm
  refine va_put (D := D) (ci := 4) (v := .int (-1)) (ty := .int) (C := RX3) (T := TX3) (N := 8) hx hb hts in_X3_endDoubt_X3 tyX3 tyX3_ok nmX3 hown hK hP hD hS p_1 hp_1 rfl 4 (by decide) w_0 (fun _ h9 => h9) rfl (by decide +kernel) (by first | rfl | decide) (by first | rfl | decide) (Nat.le_of_ble_eq_true rfl) dX3_endDoubt_2 (fun H locs hP hD hS => ?_)
  have hO := hO.p12 hi hp_1 h_8 h_9 h_10 (bg := bg_3) (pn := (-1)) (lk := lk_5) (ps := ps_6) (op := o_7)
  obtain ⟨pl, hpl9⟩ : ∃ z9, z9 = pl.set p_1 ((ad (6 + i)), .inr (4, [.int (nI i), .int (up i), .ref st_2, .int bg_3, .int (-1), va_rf ps_6, .int lk_5, va_rf o_7])) := ⟨_, rfl⟩
  have hk_11 := setP hp_1 hpl9
  have hP : va_P D vwCl pl H := by rw [hpl9]; exact hP
  have hD : va_D A pl := by rw [hpl9]; exact hD
  have hO : Ok tC dz t ad ed cb up rs cp pl := by rw [hpl9]; exact hO
  refine lv_aload_n hx hb dX3_endDoubt_5 rfl (lv_at hl 0 rfl) ?_
  refine lv_null hx hb dX3_endDoubt_6 ?_
  refine va_put (D := D) (ci := 4) (v := .null) (ty := .object "NoticeStations$Standing") (C := RX3) (T := TX3) (N := 8) hx hb hts in_X3_endDoubt_X3 tyX3 tyX3_ok nmX3 hown hK hP hD hS p_1 hk_11 rfl 5 (by decide) w_1 (fun _ h9 => h9) rfl (by decide +kernel) (by first | rfl | decide) (by first | rfl | decide) (Nat.le_of_ble_eq_true rfl) dX3_endDoubt_7 (fun H locs hP hD hS => ?_)
  have hO := hO.p12 hi hk_11 h_8 isK.no h_10 (bg := bg_3) (pn := (-1)) (lk := lk_5) (ps := none) (op := o_7)
  obtain ⟨pl, hpl9⟩ : ∃ z9, z9 = pl.set p_1 ((ad (6 + i)), .inr (4, [.int (nI i), .int (up i), .ref st_2, .int bg_3, .int (-1), .null, .int lk_5, va_rf o_7])) := ⟨_, rfl⟩
  have hk_12 := setP hk_11 hpl9
  have hP : va_P D vwCl pl H := by rw [hpl9]; exact hP
  have hD : va_D A pl := by rw [hpl9]; exact hD
  have hO : Ok tC dz t ad ed cb up rs cp pl := by rw [hpl9]; exact hO
  refine W.widen (k := 0) (n := 0) (by omega) (by omega) ?_
  exact W.vret hx hb hr (fun t9 ht hW => ⟨⟨(), rfl, trivial, ⟨t, ed, rs, cp, pl, hLe, by omega, hO, (by rw [ht]; exact hP), va_K.moved hW.alike hK, hD⟩⟩, hS.F ht⟩) hS.2.2 dX3_endDoubt_10 hlocks
set_option maxHeartbeats 4000000 in
set_option maxRecDepth 100000 in
theorem c_X4_unlock (l : Launch) (hlt : l.stackTraces = false) (D : va_G) (tC : Nat → ClassId) (dz sz : Nat) (pl : va_W) (t : Nat → Nat × Nat) (ad : Nat → Nat) (ed : Nat) (cb up : Nat → Int32) (rs cp : Nat) (hO : Ok tC dz t ad ed cb up rs cp pl) (p0 : Int32)  : vx_Met l yX4_unlock wsX4_unlock ({ frames := 7, cells := 2, slots := 12, locals := 103 }) (va_Pc [.ref (ad 0), .int p0] (pB D tC dz pl sz)) (va_Qv (fun (_ : Unit) => True) (fun (_ : Unit) t9 => ∃ (t2 : Nat → Nat × Nat) (ed2 rs2 cp2 : Nat) (pl2 : va_W), tLe t t2 ∧ rs2 ≤ rs + 0 ∧ Ok tC dz t2 ad ed2 cb up rs2 cp2 pl2 ∧ pA D tC (va_A pl sz) pl2 t9) (va_A pl sz)) (xX (fun E => E = "java/lang/IndexOutOfBoundsException" ∨ E = "java/lang/IllegalStateException") (xN sz)) 2 12 (va_A pl sz) := by
  refine vx_ofW (cc := cX4_unlock) (maxL := 3) (ret := none) (by decide) rfl ?_
  intro p e s m args below meth c s₁ B hml hnx hv
  obtain ⟨rfl, hsz, hP, hK, hD0, hN, hE⟩ := hv
  have hx := B.exec
  have hb := B.bytes
  have hr := B.returns
  have hts := atoms_spec (ws := wsX4_unlock) B.pre
  have hown : s.vm.findClass RX4 = some m.cls := findClass_of_methodNamed B.named
  have hlocks := B.notSynchronized
  subst hsz
  have hD := hD0.self (sz := s.heap.size)
  have hAm : ∀ q : Nat, xN s.heap.size q → va_A pl s.heap.size q := xN_A
  have hN0 : ∀ q : Nat, s.heap.size ≤ q → xN s.heap.size q := fun _ h => h
  have hE0 := eH_narrow hE hAm
  generalize va_A pl s.heap.size = A at hD hE hAm
  have hA : ∀ q : Nat, s.heap.size ≤ q → A q := fun q h => hAm q h
  have hS : va_S (xN s.heap.size) s.heap s.heap [] := va_S.rf
  obtain ⟨rs0, hrs0⟩ : ∃ z9, z9 = rs := ⟨_, rfl⟩
  obtain ⟨up0, hup0⟩ : ∃ z9, z9 = up := ⟨_, rfl⟩
  obtain ⟨cb0, hcb0⟩ : ∃ z9, z9 = cb := ⟨_, rfl⟩
  have hLe : tLe t t := tLe.rf
  have hRs : rs ≤ rs0 + 0 := by omega
  have hl := lv_entry ([.ref (ad 0), .int p0]) (n := 3) (Nat.le_of_ble_eq_true rfl)
  rw [lg_entry_eq]
  generalize (lg_sl ([.ref (ad 0), .int p0]) ++ List.replicate (3 - (lg_sl ([.ref (ad 0), .int p0])).length) Slot.unset).toArray = ls at hl ⊢
  have hl : lv_has ls 3 [(0, .ref (ad 0)), (1, .int p0)] := hl
  have w_0 := hts (.classLink RX4 91 "java/lang/IllegalStateException") (by decide +kernel)
  have w_1 := hts (.initialized "java/lang/IllegalStateException") (by decide +kernel)
  refine lv_aload_n hx hb dX4_unlock_0 rfl (lv_at hl 0 rfl) ?_
  refine lv_iload_n hx hb dX4_unlock_1 rfl (lv_at hl 1 rfl) ?_
  obtain ⟨p_1, hp_1⟩ := hO.k7
  refine vx_callr (vx_runV (As := [.int p0]) (rest := []) ⟨hx, hb, hml, hown, hts⟩ (c_X4_stationAt l hlt D tC dz s.heap.size pl t ad ed cb up rs cp hO p0 ) (cwV 1 hts gX4_unlock_X4_stationAt rfl rfl rfl (by decide +kernel) ⟨Nat.le_of_ble_eq_true rfl, Nat.le_of_ble_eq_true rfl⟩) ⟨pB_blind, va_recv hK hP (ci := 5) (q0 := p_1) rfl hp_1, pB_at hP hD hK hN hE (hS.mono hAm) (freeA hD (hS.mono hAm) hA)⟩ rfl rfl hl.1 rfl (lv_room (Nat.le_of_ble_eq_true rfl)) dX4_unlock_2 ⟨Nat.le_of_ble_eq_true rfl, Nat.le_of_ble_eq_true rfl⟩) hS oldN (freeN hS hN0) oldN (fun E ce q9 u t9 H1 locs ht hvm hpx hPE hz1 hk1 hS hce hcv hcl => ?_) (fun u r_2 t9 H1 locs ht hvm hw hB hz1 hk1 hS => ?_)
  · skip
    have hP := keepP hP hk1
    generalize H1 = H at hP hS hce ⊢
    exact vx_out (fun x h => (hnx x h).elim) hlocks hce hcv hcl (fun t9 h9 _ => ⟨(), trivial, Or.inl hPE.1, hS.F h9⟩) (fun z9 h9 => hAm _ (hS.2.2 z9 h9)) (Nat.le_of_ble_eq_true rfl) (Nat.le_of_ble_eq_true rfl)
  · skip
    have hw_3 := hB
    have hP := keepP hP hk1
    generalize H1 = H at hP hS ⊢
    refine W.widen (k := 1) (n := 6) (by omega) (by omega) ?_
    obtain ⟨k_4, hk_4, ek_4, er⟩ := hw_3
    subst er
    subst ek_4
    refine lv_astore_n (lv' := [(2, .ref (ad (6 + k_4))), (0, .ref (ad 0)), (1, .int (nI k_4))]) hx hb dX4_unlock_5 rfl hl (by decide) rfl (fun ls hl => ?_)
    refine lv_aload_n hx hb dX4_unlock_6 rfl (lv_at hl 0 rfl) ?_
    obtain ⟨p_5, st_6, bg_7, pn_8, lk_9, ps_10, o_11, hp_5, h_12, h_13, h_14⟩ := hO.k12 hk_4
    refine va_getN (host := "NoticeStations") (D := D) (ci := 4) (v := .int lk_9) (C := RX3) (T := TX3) (N := 8) hx hb hts in_X4_unlock_X3 hown hK hP p_5 hp_5 rfl 6 (by decide) (va_Nw.use rfl (hN.1 (.fieldLinkNest "NoticeStations" 155 "NoticeStations$Station" "lock" "I" "NoticeStations") (by decide +kernel))) (fun _ h9 => h9) rfl dX4_unlock_7 ?_
    refine lv_iconst (v := (-1)) hx hb dX4_unlock_10 (by decide) ?_
    refine lv_icmp_eq (tgt := 21) hx hb dX4_unlock_11 (by decide) (fun c_15 => ?_) (fun c_15 => ?_)
    · skip
      obtain ⟨sa, hstr⟩ := hN.2.1 (158, "no lock, or one of an open write of its own") (by decide +kernel)
      exact vx_throwS hx hb hlt hown (by decide +kernel) (by decide +kernel) w_0 w_1 hstr (vx_hat (fun w hw => hts w (th_X4_unlock_ISE w hw)) at_ISE_rest (at_ISE_hat hN)) at_ISE_ok hE0.1 hE0.2.1 hS (by rw [hml]; exact hl.1) dX4_unlock_21 dX4_unlock_24 dX4_unlock_25 dX4_unlock_27 dX4_unlock_30 (fun x h => (hnx x h).elim) (by decide) (by decide) (Nat.le_of_ble_eq_true rfl) (Nat.le_of_ble_eq_true rfl) hlocks (fun t9 _ h1 h2 => ⟨(), trivial, Or.inr rfl, xF hS h1 h2⟩) (fun z9 h9 => hAm _ (hS.2.2 z9 h9)) (Nat.le_of_ble_eq_true rfl) (Nat.le_of_ble_eq_true rfl)
    · skip
      refine lv_aload_n hx hb dX4_unlock_14 rfl (lv_at hl 0 rfl) ?_
      refine va_getN (host := "NoticeStations") (D := D) (ci := 4) (v := va_rf o_11) (C := RX3) (T := TX3) (N := 8) hx hb hts in_X4_unlock_X3 hown hK hP p_5 hp_5 rfl 7 (by decide) (va_Nw.use rfl (hN.1 (.fieldLinkNest "NoticeStations" 81 "NoticeStations$Station" "open" "LNoticeStations$OpenWrite;" "NoticeStations") (by decide +kernel))) (fun _ h9 => h9) rfl dX4_unlock_15 ?_
      rcases o_11 with _ | y_16
      · skip
        refine W.eq (g2 := F0 m 18 ls [.null]) rfl ?_
        refine lv_ifnullN (tgt := 31) hx hb dX4_unlock_18 (by decide) ?_
        refine lv_aload_n hx hb dX4_unlock_31 rfl (lv_at hl 0 rfl) ?_
        refine lv_iconst (v := (-1)) hx hb dX4_unlock_32 (by decide) ?_
        have hS := hS.mono hAm
        refine va_putN (host := "NoticeStations") (D := D) (ci := 4) (v := .int (-1)) (ty := .int) (C := RX3) (T := TX3) (N := 8) hx hb hts in_X4_unlock_X3 tyX3 tyX3_ok nmX3 hown hK hP hD hS p_5 hp_5 rfl 6 (by decide) (va_Nw.use rfl (hN.1 (.fieldLinkNest "NoticeStations" 155 "NoticeStations$Station" "lock" "I" "NoticeStations") (by decide +kernel))) (fun _ h9 => h9) rfl (by decide +kernel) (by first | rfl | decide) (by first | rfl | decide) (Nat.le_of_ble_eq_true rfl) dX4_unlock_33 (fun H locs hP hD hS => ?_)
        have hO := hO.p12 hk_4 hp_5 h_12 h_13 isK.no (bg := bg_7) (pn := pn_8) (lk := (-1)) (ps := ps_10) (op := none)
        obtain ⟨pl, hpl9⟩ : ∃ z9, z9 = pl.set p_5 ((ad (6 + k_4)), .inr (4, [.int (nI k_4), .int (up k_4), .ref st_6, .int bg_7, .int pn_8, va_rf ps_10, .int (-1), .null])) := ⟨_, rfl⟩
        have hk_18 := setP hp_5 hpl9
        have hP : va_P D vwCl pl H := by rw [hpl9]; exact hP
        have hD : va_D A pl := by rw [hpl9]; exact hD
        have hO : Ok tC dz t ad ed cb up rs cp pl := by rw [hpl9]; exact hO
        refine W.widen (k := 2) (n := 12) (by omega) (by omega) ?_
        exact vx_ret (W.vret hx hb hr (fun t9 ht hW => ⟨⟨(), rfl, trivial, ⟨t, ed, rs, cp, pl, hLe, by omega, hO, (by rw [ht]; exact hP), va_K.moved hW.alike hK, hD⟩⟩, hS.F ht⟩) hS.2.2 dX4_unlock_36 hlocks)
      · skip
        have h_17 : (t y_16).1 = 4 := h_14 _ rfl
        refine W.eq (g2 := F0 m 18 ls [.ref y_16]) rfl ?_
        refine lv_ifnull hx hb dX4_unlock_18 ?_
        obtain ⟨sa, hstr⟩ := hN.2.1 (158, "no lock, or one of an open write of its own") (by decide +kernel)
        exact vx_throwS hx hb hlt hown (by decide +kernel) (by decide +kernel) w_0 w_1 hstr (vx_hat (fun w hw => hts w (th_X4_unlock_ISE w hw)) at_ISE_rest (at_ISE_hat hN)) at_ISE_ok hE0.1 hE0.2.1 hS (by rw [hml]; exact hl.1) dX4_unlock_21 dX4_unlock_24 dX4_unlock_25 dX4_unlock_27 dX4_unlock_30 (fun x h => (hnx x h).elim) (by decide) (by decide) (Nat.le_of_ble_eq_true rfl) (Nat.le_of_ble_eq_true rfl) hlocks (fun t9 _ h1 h2 => ⟨(), trivial, Or.inr rfl, xF hS h1 h2⟩) (fun z9 h9 => hAm _ (hS.2.2 z9 h9)) (Nat.le_of_ble_eq_true rfl) (Nat.le_of_ble_eq_true rfl)
