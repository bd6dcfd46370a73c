set_option maxRecDepth 100000 in
theorem dX4_isBelow_0 : decode cX4_isBelow 0 = .ok (.iload_n 0, 1) := by decide +kernel
set_option maxRecDepth 100000 in
theorem dX4_isBelow_1 : decode cX4_isBelow 1 = .ok (.ifCond .lt 12, 3) := by decide +kernel
set_option maxRecDepth 100000 in
theorem dX4_isBelow_13 : decode cX4_isBelow 13 = .ok (.iconst 0, 1) := by decide +kernel
set_option maxRecDepth 100000 in
theorem dX4_isBelow_14 : decode cX4_isBelow 14 = .ok (.ireturn, 1) := by decide +kernel
set_option maxRecDepth 100000 in
theorem dX4_isBelow_4 : decode cX4_isBelow 4 = .ok (.iload_n 0, 1) := by decide +kernel
set_option maxRecDepth 100000 in
theorem dX4_isBelow_5 : decode cX4_isBelow 5 = .ok (.iload_n 1, 1) := by decide +kernel
set_option maxRecDepth 100000 in
theorem dX4_isBelow_6 : decode cX4_isBelow 6 = .ok (.if_icmp .ge 7, 3) := by decide +kernel
set_option maxRecDepth 100000 in
theorem dX4_isBelow_9 : decode cX4_isBelow 9 = .ok (.iconst 1, 1) := by decide +kernel
set_option maxRecDepth 100000 in
theorem dX4_isBelow_10 : decode cX4_isBelow 10 = .ok (.goto 4, 3) := by decide +kernel
set_option maxRecDepth 100000 in
theorem dX2_length_0 : decode cX2_length 0 = .ok (.aload_n 0, 1) := by decide +kernel
set_option maxRecDepth 100000 in
theorem dX2_length_1 : decode cX2_length 1 = .ok (.getfield 7, 3) := by decide +kernel
set_option maxRecDepth 100000 in
theorem in_X2_length_X2 : ∀ w ∈ wsX20, w ∈ wsX2_length := fun _ h => List.mem_cons_of_mem _ (List.mem_append_right _ h)
set_option maxRecDepth 100000 in
theorem dX2_length_4 : decode cX2_length 4 = .ok (.arraylength, 1) := by decide +kernel
set_option maxRecDepth 100000 in
theorem dX2_length_5 : decode cX2_length 5 = .ok (.ireturn, 1) := by decide +kernel
set_option maxRecDepth 100000 in
theorem dX3_isInDoubt_0 : decode cX3_isInDoubt 0 = .ok (.aload_n 0, 1) := by decide +kernel
set_option maxRecDepth 100000 in
theorem dX3_isInDoubt_1 : decode cX3_isInDoubt 1 = .ok (.getfield 22, 3) := by decide +kernel
set_option maxRecDepth 100000 in
theorem in_X3_isInDoubt_X3 : ∀ w ∈ wsX30, w ∈ wsX3_isInDoubt := fun _ h => List.mem_cons_of_mem _ (List.mem_append_right _ h)
set_option maxRecDepth 100000 in
theorem dX3_isInDoubt_4 : decode cX3_isInDoubt 4 = .ok (.ifnull 7, 3) := by decide +kernel
set_option maxRecDepth 100000 in
theorem dX3_isInDoubt_11 : decode cX3_isInDoubt 11 = .ok (.iconst 0, 1) := by decide +kernel
set_option maxRecDepth 100000 in
theorem dX3_isInDoubt_12 : decode cX3_isInDoubt 12 = .ok (.ireturn, 1) := by decide +kernel
set_option maxRecDepth 100000 in
theorem dX3_isFree_0 : decode cX3_isFree 0 = .ok (.aload_n 0, 1) := by decide +kernel
set_option maxRecDepth 100000 in
theorem dX3_isFree_1 : decode cX3_isFree 1 = .ok (.getfield 9, 3) := by decide +kernel
set_option maxRecDepth 100000 in
theorem in_X3_isFree_X3 : ∀ w ∈ wsX30, w ∈ wsX3_isFree := fun _ h => List.mem_cons_of_mem _ (List.mem_append_right _ h)
set_option maxRecDepth 100000 in
theorem dX3_isFree_4 : decode cX3_isFree 4 = .ok (.ifCond .eq 22, 3) := by decide +kernel
set_option maxRecDepth 100000 in
theorem dX3_isFree_7 : decode cX3_isFree 7 = .ok (.aload_n 0, 1) := by decide +kernel
set_option maxRecDepth 100000 in
theorem dX3_isFree_8 : decode cX3_isFree 8 = .ok (.getfield 26, 3) := by decide +kernel
set_option maxRecDepth 100000 in
theorem dX3_isFree_11 : decode cX3_isFree 11 = .ok (.iconst (-1), 1) := by decide +kernel
set_option maxRecDepth 100000 in
theorem dX3_isFree_12 : decode cX3_isFree 12 = .ok (.if_icmp .ne 14, 3) := by decide +kernel
set_option maxRecDepth 100000 in
theorem dX3_isFree_15 : decode cX3_isFree 15 = .ok (.aload_n 0, 1) := by decide +kernel
set_option maxRecDepth 100000 in
theorem dX3_isFree_16 : decode cX3_isFree 16 = .ok (.invokevirtual 39, 3) := by decide +kernel
set_option maxRecDepth 20000 in
theorem ggX3_isFree_X3_isInDoubt : GoodIn wsX3_isFree wsX3_isInDoubt := goodIn_r _ [7, 8, 9, 10, 11, 12, 13, 14, 15, 16] (by decide +kernel) (by decide +kernel)
set_option maxRecDepth 20000 in
theorem gX3_isFree_X3_isInDoubt : GoodIn wsX3_isFree (wsV RX3 39 RX3 yX3_isInDoubt wsX3_isInDoubt) := goodIn_app (goodIn_of _ (by decide +kernel)) ggX3_isFree_X3_isInDoubt
set_option maxRecDepth 100000 in
theorem dX3_isFree_19 : decode cX3_isFree 19 = .ok (.ifCond .ne 7, 3) := by decide +kernel
set_option maxRecDepth 100000 in
theorem dX3_isFree_22 : decode cX3_isFree 22 = .ok (.iconst 1, 1) := by decide +kernel
set_option maxRecDepth 100000 in
theorem dX3_isFree_23 : decode cX3_isFree 23 = .ok (.goto 4, 3) := by decide +kernel
set_option maxRecDepth 100000 in
theorem dX3_isFree_27 : decode cX3_isFree 27 = .ok (.ireturn, 1) := by decide +kernel
set_option maxRecDepth 100000 in
theorem dX4_stationAt_0 : decode cX4_stationAt 0 = .ok (.iload_n 1, 1) := by decide +kernel
set_option maxRecDepth 100000 in
theorem dX4_stationAt_1 : decode cX4_stationAt 1 = .ok (.iconst 5, 1) := by decide +kernel
set_option maxRecDepth 100000 in
theorem dX4_stationAt_2 : decode cX4_stationAt 2 = .ok (.invokestatic 46, 3) := by decide +kernel
set_option maxRecDepth 20000 in
theorem ggX4_stationAt_X4_isBelow : GoodIn wsX4_stationAt wsX4_isBelow := goodIn_r _ [7] (by decide +kernel) (by decide +kernel)
set_option maxRecDepth 20000 in
theorem gX4_stationAt_X4_isBelow : GoodIn wsX4_stationAt (va_wsS RX4 46 yX4_isBelow wsX4_isBelow) := goodIn_app (goodIn_of _ (by decide +kernel)) ggX4_stationAt_X4_isBelow
set_option maxRecDepth 100000 in
theorem dX4_stationAt_5 : decode cX4_stationAt 5 = .ok (.ifCond .ne 13, 3) := by decide +kernel
set_option maxRecDepth 100000 in
theorem dX4_stationAt_18 : decode cX4_stationAt 18 = .ok (.aload_n 0, 1) := by decide +kernel
set_option maxRecDepth 100000 in
theorem dX4_stationAt_19 : decode cX4_stationAt 19 = .ok (.getfield 11, 3) := by decide +kernel
set_option maxRecDepth 100000 in
theorem in_X4_stationAt_X4 : ∀ w ∈ wsX40, w ∈ wsX4_stationAt := fun _ h => List.mem_cons_of_mem _ (List.mem_append_left _ (List.mem_append_right _ h))
set_option maxRecDepth 100000 in
theorem dX4_stationAt_22 : decode cX4_stationAt 22 = .ok (.iload_n 1, 1) := by decide +kernel
set_option maxRecDepth 100000 in
theorem dX4_stationAt_23 : decode cX4_stationAt 23 = .ok (.aaload, 1) := by decide +kernel
set_option maxRecDepth 100000 in
theorem dX4_stationAt_24 : decode cX4_stationAt 24 = .ok (.areturn, 1) := by decide +kernel
set_option maxRecDepth 100000 in
theorem dX4_stationAt_8 : decode cX4_stationAt 8 = .ok (.new 247, 3) := by decide +kernel
set_option maxRecDepth 100000 in
theorem dX4_stationAt_11 : decode cX4_stationAt 11 = .ok (.dup, 1) := by decide +kernel
set_option maxRecDepth 100000 in
theorem dX4_stationAt_12 : decode cX4_stationAt 12 = .ok (.ldc 249, 2) := by decide +kernel
set_option maxRecDepth 100000 in
theorem dX4_stationAt_14 : decode cX4_stationAt 14 = .ok (.invokespecial 251, 3) := by decide +kernel
set_option maxRecDepth 100000 in
theorem dX4_stationAt_17 : decode cX4_stationAt 17 = .ok (.athrow, 1) := by decide +kernel
set_option maxRecDepth 100000 in
theorem th_X4_stationAt_IOOBE : ∀ w ∈ (vx_atS RX4 251 "java/lang/IndexOutOfBoundsException" ["java/lang/RuntimeException", "java/lang/Exception"]).filter goodWord, w ∈ wsX4_stationAt := fun _ h => List.mem_cons_of_mem _ (List.mem_append_right _ h)
set_option maxRecDepth 100000 in
theorem dX4_count_0 : decode cX4_count 0 = .ok (.aload_n 0, 1) := by decide +kernel
set_option maxRecDepth 100000 in
theorem dX4_count_1 : decode cX4_count 1 = .ok (.iload_n 1, 1) := by decide +kernel
set_option maxRecDepth 100000 in
theorem dX4_count_2 : decode cX4_count 2 = .ok (.invokevirtual 42, 3) := by decide +kernel
set_option maxRecDepth 20000 in
theorem ggX4_count_X4_stationAt : GoodIn wsX4_count wsX4_stationAt := goodIn_ca (goodIn_r _ [5, 6, 7, 8, 9, 10, 4, 11, 25, 26, 27, 28] (by decide +kernel) (by decide +kernel)) (goodIn_sub (fun _ h => List.mem_cons_of_mem _ (List.mem_append_right _ h)) (by decide +kernel))
set_option maxRecDepth 20000 in
theorem gX4_count_X4_stationAt : GoodIn wsX4_count (wsV RX4 42 RX4 yX4_stationAt wsX4_stationAt) := goodIn_app (goodIn_of _ (by decide +kernel)) ggX4_count_X4_stationAt
set_option maxRecDepth 100000 in
theorem dX4_count_5 : decode cX4_count 5 = .ok (.getfield 61, 3) := by decide +kernel
set_option maxRecDepth 100000 in
theorem in_X4_count_X3 : ∀ w ∈ wsX30, w ∈ wsX4_count := fun _ h => List.mem_cons_of_mem _ (List.mem_append_left _ (List.mem_append_left _ (List.mem_append_left _ (List.mem_append_right _ h))))
set_option maxRecDepth 100000 in
theorem dX4_count_8 : decode cX4_count 8 = .ok (.invokevirtual 107, 3) := by decide +kernel
set_option maxRecDepth 20000 in
theorem ggX4_count_X2_length : GoodIn wsX4_count wsX2_length := goodIn_r _ [15, 16, 29, 30, 31, 32] (by decide +kernel) (by decide +kernel)
set_option maxRecDepth 20000 in
theorem gX4_count_X2_length_n107 : GoodIn wsX4_count (wsX2_length) := ggX4_count_X2_length
set_option maxRecDepth 100000 in
theorem dX4_count_11 : decode cX4_count 11 = .ok (.ireturn, 1) := by decide +kernel
set_option maxHeartbeats 4000000 in
set_option maxRecDepth 100000 in
theorem c_X4_isBelow (l : Launch) (hlt : l.stackTraces = false) (D : va_G) (tC : Nat → ClassId) (dz sz : Nat) (v : Int32) (bd : Int32)  : Met l yX4_isBelow wsX4_isBelow ({ frames := 0, cells := 0, slots := 0, locals := 0 }) (va_Pc [.int v, .int bd] (pB D tC dz [] sz)) (va_Qi (fun (r : Int32) (_ : Unit) => r = if v < 0 ∨ bd ≤ v then 0 else 1) (fun (_ : Unit) t => pA D tC (va_A [] sz) [] t) (va_A [] sz)) 0 0 (va_A [] sz) := by
  refine Met.ofW (cc := cX4_isBelow) (maxL := 2) (ret := (some .boolean)) (by decide) rfl ?_
  intro p e s m args below meth c s₁ B hml hv
  obtain ⟨rfl, hsz, hP, hK, hD0, hN, hE⟩ := hv
  have hx := B.exec
  have hb := B.bytes
  have hr := B.returns
  have hts := atoms_spec (ws := wsX4_isBelow) B.pre
  have hown : s.vm.findClass RX4 = some m.cls := findClass_of_methodNamed B.named
  have hlocks := B.notSynchronized
  subst hsz
  have hD := hD0.self (sz := s.heap.size)
  generalize hAe : va_A [] s.heap.size = A at hD hE ⊢
  have hA : ∀ q : Nat, s.heap.size ≤ q → A q := fun q h => by rw [← hAe]; exact Or.inr h
  have hS : va_S A s.heap s.heap [] := va_S.rf
  have hP : va_P D vwCl [] s.heap := hP
  have hl := lv_entry ([.int v, .int bd]) (n := 2) (Nat.le_of_ble_eq_true rfl)
  rw [lg_entry_eq]
  generalize (lg_sl ([.int v, .int bd]) ++ List.replicate (2 - (lg_sl ([.int v, .int bd])).length) Slot.unset).toArray = ls at hl ⊢
  have hl : lv_has ls 2 [(0, .int v), (1, .int bd)] := hl
  refine lv_iload_n hx hb dX4_isBelow_0 rfl (lv_at hl 0 rfl) ?_
  refine lv_if_lt (tgt := 13) hx hb dX4_isBelow_1 (by decide) (fun c_1 => ?_) (fun c_1 => ?_)
  · skip
    refine lv_iconst (v := 0) hx hb dX4_isBelow_13 (by decide) ?_
    have hP9 := hP.sub (ws' := []) [] rfl
    have hD9 := hD.sub (ws' := []) [] (by decide) rfl
    refine W.widen (k := 0) (n := 0) (by omega) (by omega) ?_
    exact W.zret (v := 0) hx hb hr (by decide) (fun t ht hW => ⟨⟨0, (), rfl, (by simp [c_1]), (by rw [ht]; exact hP9), va_K.moved hW.alike hK, hD9⟩, hS.F ht⟩) hS.2.2 dX4_isBelow_14 hlocks
  · skip
    refine lv_iload_n hx hb dX4_isBelow_4 rfl (lv_at hl 0 rfl) ?_
    refine lv_iload_n hx hb dX4_isBelow_5 rfl (lv_at hl 1 rfl) ?_
    refine lv_icmp_ge (tgt := 13) hx hb dX4_isBelow_6 (by decide) (fun c_2 => ?_) (fun c_2 => ?_)
    · skip
      refine lv_iconst (v := 0) hx hb dX4_isBelow_13 (by decide) ?_
      have hP9 := hP.sub (ws' := []) [] rfl
      have hD9 := hD.sub (ws' := []) [] (by decide) rfl
      refine W.widen (k := 0) (n := 0) (by omega) (by omega) ?_
      exact W.zret (v := 0) hx hb hr (by decide) (fun t ht hW => ⟨⟨0, (), rfl, (by simp [c_1, c_2]), (by rw [ht]; exact hP9), va_K.moved hW.alike hK, hD9⟩, hS.F ht⟩) hS.2.2 dX4_isBelow_14 hlocks
    · skip
      refine lv_iconst (v := 1) hx hb dX4_isBelow_9 (by decide) ?_
      refine lv_goto (tgt := 14) hx hb dX4_isBelow_10 (by decide) ?_
      have hP9 := hP.sub (ws' := []) [] rfl
      have hD9 := hD.sub (ws' := []) [] (by decide) rfl
      refine W.widen (k := 0) (n := 0) (by omega) (by omega) ?_
      exact W.zret (v := 1) hx hb hr (by decide) (fun t ht hW => ⟨⟨1, (), rfl, (by simp [c_1, c_2]), (by rw [ht]; exact hP9), va_K.moved hW.alike hK, hD9⟩, hS.F ht⟩) hS.2.2 dX4_isBelow_14 hlocks
set_option maxHeartbeats 4000000 in
set_option maxRecDepth 100000 in
theorem c_X2_length (l : Launch) (hlt : l.stackTraces = false) (D : va_G) (tC : Nat → ClassId) (dz sz : Nat) (f : Nat) (e1 : Nat) (e2 : Nat) (z1 : Nat → Int32)  : Met l yX2_length wsX2_length ({ frames := 0, cells := 0, slots := 0, locals := 0 }) (va_Pc [.ref f] (pB D tC dz [(f, .inr (3, [.ref e1, .ref e2, .int 5, .int 0])), (e1, wI tC 0 z1)] sz)) (va_Qi (fun (r : Int32) (_ : Unit) => r = 0) (fun (_ : Unit) t => pA D tC (va_A [(f, .inr (3, [.ref e1, .ref e2, .int 5, .int 0])), (e1, wI tC 0 z1)] sz) [(f, .inr (3, [.ref e1, .ref e2, .int 5, .int 0])), (e1, wI tC 0 z1)] t) (va_A [(f, .inr (3, [.ref e1, .ref e2, .int 5, .int 0])), (e1, wI tC 0 z1)] sz)) 0 0 (va_A [(f, .inr (3, [.ref e1, .ref e2, .int 5, .int 0])), (e1, wI tC 0 z1)] sz) := by
  refine Met.ofW (cc := cX2_length) (maxL := 1) (ret := (some .int)) (by decide) rfl ?_
  intro p e s m args below meth c s₁ B hml hv
  obtain ⟨rfl, hsz, hP, hK, hD0, hN, hE⟩ := hv
  have hx := B.exec
  have hb := B.bytes
  have hr := B.returns
  have hts := atoms_spec (ws := wsX2_length) B.pre
  have hown : s.vm.findClass RX2 = some m.cls := findClass_of_methodNamed B.named
  have hlocks := B.notSynchronized
  subst hsz
  have hD := hD0.self (sz := s.heap.size)
  generalize hAe : va_A [(f, .inr (3, [.ref e1, .ref e2, .int 5, .int 0])), (e1, wI tC 0 z1)] s.heap.size = A at hD hE ⊢
  have hA : ∀ q : Nat, s.heap.size ≤ q → A q := fun q h => by rw [← hAe]; exact Or.inr h
  have hS : va_S A s.heap s.heap [] := va_S.rf
  have hP : va_P D vwCl [(f, .inr (3, [.ref e1, .ref e2, .int 5, .int 0])), (e1, wI tC 0 z1)] s.heap := hP
  have hl := lv_entry ([.ref f]) (n := 1) (Nat.le_of_ble_eq_true rfl)
  rw [lg_entry_eq]
  generalize (lg_sl ([.ref f]) ++ List.replicate (1 - (lg_sl ([.ref f])).length) Slot.unset).toArray = ls at hl ⊢
  have hl : lv_has ls 1 [(0, .ref f)] := hl
  have w_0 := hts (.fieldLink RX2 7 "NoticeStations$Standing" "entries" "[I") (by decide +kernel)
  refine lv_aload_n hx hb dX2_length_0 rfl (lv_at hl 0 rfl) ?_
  refine va_get (D := D) (ci := 3) (v := .ref e1) (C := RX2) (T := TX2) (N := 4) hx hb hts in_X2_length_X2 hown hK hP 0 rfl rfl 0 (by decide) w_0 (fun _ h9 => h9) rfl dX2_length_1 ?_
  refine va_alen (v := 0) hx hb hK hP 1 0 rfl rfl (by first | decide | rfl) dX2_length_4 ?_
  have hP9 := hP.sub (ws' := [(f, .inr (3, [.ref e1, .ref e2, .int 5, .int 0])), (e1, wI tC 0 z1)]) [0, 1] rfl
  have hD9 := hD.sub (ws' := [(f, .inr (3, [.ref e1, .ref e2, .int 5, .int 0])), (e1, wI tC 0 z1)]) [0, 1] (by decide) rfl
  refine W.widen (k := 0) (n := 0) (by omega) (by omega) ?_
  exact W.iret (v := 0) hx hb hr (fun t ht hW => ⟨⟨0, (), rfl, (by first | rfl | simp), (by rw [ht]; exact hP9), va_K.moved hW.alike hK, hD9⟩, hS.F ht⟩) hS.2.2 dX2_length_5 hlocks
set_option maxHeartbeats 4000000 in
set_option maxRecDepth 100000 in
theorem c_X3_isInDoubt (l : Launch) (hlt : l.stackTraces = false) (D : va_G) (tC : Nat → ClassId) (dz sz : Nat) (f : Nat) (q : Nat) (ow : Int32)  : Met l yX3_isInDoubt wsX3_isInDoubt ({ frames := 0, cells := 0, slots := 0, locals := 0 }) (va_Pc [.ref q] (pB D tC dz [(q, .inr (4, [.int ow, .int 1, .ref f, .int 0, .int (-1), .null, .int (-1), .null]))] sz)) (va_Qi (fun (r : Int32) (_ : Unit) => r = 0) (fun (_ : Unit) t => pA D tC (va_A [(q, .inr (4, [.int ow, .int 1, .ref f, .int 0, .int (-1), .null, .int (-1), .null]))] sz) [(q, .inr (4, [.int ow, .int 1, .ref f, .int 0, .int (-1), .null, .int (-1), .null]))] t) (va_A [(q, .inr (4, [.int ow, .int 1, .ref f, .int 0, .int (-1), .null, .int (-1), .null]))] sz)) 0 0 (va_A [(q, .inr (4, [.int ow, .int 1, .ref f, .int 0, .int (-1), .null, .int (-1), .null]))] sz) := by
  refine Met.ofW (cc := cX3_isInDoubt) (maxL := 1) (ret := (some .boolean)) (by decide) rfl ?_
  intro p e s m args below meth c s₁ B hml hv
  obtain ⟨rfl, hsz, hP, hK, hD0, hN, hE⟩ := hv
  have hx := B.exec
  have hb := B.bytes
  have hr := B.returns
  have hts := atoms_spec (ws := wsX3_isInDoubt) B.pre
  have hown : s.vm.findClass RX3 = some m.cls := findClass_of_methodNamed B.named
  have hlocks := B.notSynchronized
  subst hsz
  have hD := hD0.self (sz := s.heap.size)
  generalize hAe : va_A [(q, .inr (4, [.int ow, .int 1, .ref f, .int 0, .int (-1), .null, .int (-1), .null]))] s.heap.size = A at hD hE ⊢
  have hA : ∀ q : Nat, s.heap.size ≤ q → A q := fun q h => by rw [← hAe]; exact Or.inr h
  have hS : va_S A s.heap s.heap [] := va_S.rf
  have hP : va_P D vwCl [(q, .inr (4, [.int ow, .int 1, .ref f, .int 0, .int (-1), .null, .int (-1), .null]))] s.heap := hP
  have hl := lv_entry ([.ref q]) (n := 1) (Nat.le_of_ble_eq_true rfl)
  rw [lg_entry_eq]
  generalize (lg_sl ([.ref q]) ++ List.replicate (1 - (lg_sl ([.ref q])).length) Slot.unset).toArray = ls at hl ⊢
  have hl : lv_has ls 1 [(0, .ref q)] := hl
  have w_0 := hts (.fieldLink RX3 22 "NoticeStations$Station" "preparedStanding" "LNoticeStations$Standing;") (by decide +kernel)
  refine lv_aload_n hx hb dX3_isInDoubt_0 rfl (lv_at hl 0 rfl) ?_
  refine va_get (D := D) (ci := 4) (v := .null) (C := RX3) (T := TX3) (N := 8) hx hb hts in_X3_isInDoubt_X3 hown hK hP 0 rfl rfl 5 (by decide) w_0 (fun _ h9 => h9) rfl dX3_isInDoubt_1 ?_
  refine lv_ifnullN (tgt := 11) hx hb dX3_isInDoubt_4 (by decide) ?_
  refine lv_iconst (v := 0) hx hb dX3_isInDoubt_11 (by decide) ?_
  have hP9 := hP.sub (ws' := [(q, .inr (4, [.int ow, .int 1, .ref f, .int 0, .int (-1), .null, .int (-1), .null]))]) [0] rfl
  have hD9 := hD.sub (ws' := [(q, .inr (4, [.int ow, .int 1, .ref f, .int 0, .int (-1), .null, .int (-1), .null]))]) [0] (by decide) rfl
  refine W.widen (k := 0) (n := 0) (by omega) (by omega) ?_
  exact W.zret (v := 0) hx hb hr (by decide) (fun t ht hW => ⟨⟨0, (), rfl, (by first | rfl | simp), (by rw [ht]; exact hP9), va_K.moved hW.alike hK, hD9⟩, hS.F ht⟩) hS.2.2 dX3_isInDoubt_12 hlocks
set_option maxHeartbeats 4000000 in
set_option maxRecDepth 100000 in
theorem c_X3_isFree (l : Launch) (hlt : l.stackTraces = false) (D : va_G) (tC : Nat → ClassId) (dz sz : Nat) (f : Nat) (q : Nat) (ow : Int32)  : Met l yX3_isFree wsX3_isFree ({ frames := 1, cells := 0, slots := 0, locals := 20 }) (va_Pc [.ref q] (pB D tC dz [(q, .inr (4, [.int ow, .int 1, .ref f, .int 0, .int (-1), .null, .int (-1), .null]))] sz)) (va_Qi (fun (r : Int32) (_ : Unit) => r = 1) (fun (_ : Unit) t => pA D tC (va_A [(q, .inr (4, [.int ow, .int 1, .ref f, .int 0, .int (-1), .null, .int (-1), .null]))] sz) [(q, .inr (4, [.int ow, .int 1, .ref f, .int 0, .int (-1), .null, .int (-1), .null]))] t) (va_A [(q, .inr (4, [.int ow, .int 1, .ref f, .int 0, .int (-1), .null, .int (-1), .null]))] sz)) 0 0 (va_A [(q, .inr (4, [.int ow, .int 1, .ref f, .int 0, .int (-1), .null, .int (-1), .null]))] sz) := by
  refine Met.ofW (cc := cX3_isFree) (maxL := 1) (ret := (some .boolean)) (by decide) rfl ?_
  intro p e s m args below meth c s₁ B hml hv
  obtain ⟨rfl, hsz, hP, hK, hD0, hN, hE⟩ := hv
  have hx := B.exec
  have hb := B.bytes
  have hr := B.returns
  have hts := atoms_spec (ws := wsX3_isFree) B.pre
  have hown : s.vm.findClass RX3 = some m.cls := findClass_of_methodNamed B.named
  have hlocks := B.notSynchronized
  subst hsz
  have hD := hD0.self (sz := s.heap.size)
  generalize hAe : va_A [(q, .inr (4, [.int ow, .int 1, .ref f, .int 0, .int (-1), .null, .int (-1), .null]))] s.heap.size = A at hD hE ⊢
  have hA : ∀ q : Nat, s.heap.size ≤ q → A q := fun q h => by rw [← hAe]; exact Or.inr h
  have hS : va_S A s.heap s.heap [] := va_S.rf
  have hP : va_P D vwCl [(q, .inr (4, [.int ow, .int 1, .ref f, .int 0, .int (-1), .null, .int (-1), .null]))] s.heap := hP
  have hl := lv_entry ([.ref q]) (n := 1) (Nat.le_of_ble_eq_true rfl)
  rw [lg_entry_eq]
  generalize (lg_sl ([.ref q]) ++ List.replicate (1 - (lg_sl ([.ref q])).length) Slot.unset).toArray = ls at hl ⊢
  have hl : lv_has ls 1 [(0, .ref q)] := hl
  have w_0 := hts (.fieldLink RX3 9 "NoticeStations$Station" "up" "Z") (by decide +kernel)
  have w_1 := hts (.fieldLink RX3 26 "NoticeStations$Station" "lock" "I") (by decide +kernel)
  refine lv_aload_n hx hb dX3_isFree_0 rfl (lv_at hl 0 rfl) ?_
  refine va_get (D := D) (ci := 4) (v := .int 1) (C := RX3) (T := TX3) (N := 8) hx hb hts in_X3_isFree_X3 hown hK hP 0 rfl rfl 1 (by decide) w_0 (fun _ h9 => h9) rfl dX3_isFree_1 ?_
  refine lv_if_eq (tgt := 26) hx hb dX3_isFree_4 (by decide) (fun hc => absurd hc (by decide)) (fun _ => ?_)
  refine lv_aload_n hx hb dX3_isFree_7 rfl (lv_at hl 0 rfl) ?_
  refine va_get (D := D) (ci := 4) (v := .int (-1)) (C := RX3) (T := TX3) (N := 8) hx hb hts in_X3_isFree_X3 hown hK hP 0 rfl rfl 6 (by decide) w_1 (fun _ h9 => h9) rfl dX3_isFree_8 ?_
  refine lv_iconst (v := (-1)) hx hb dX3_isFree_11 (by decide) ?_
  refine lv_icmp_ne (tgt := 26) hx hb dX3_isFree_12 (by decide) (fun hc => absurd (by decide) hc) (fun _ => ?_)
  refine lv_aload_n hx hb dX3_isFree_15 rfl (lv_at hl 0 rfl) ?_
  have hPc := hP.sub (ws' := [(q, .inr (4, [.int ow, .int 1, .ref f, .int 0, .int (-1), .null, .int (-1), .null]))]) [0] rfl
  have hDc := hD.sub (ws' := [(q, .inr (4, [.int ow, .int 1, .ref f, .int 0, .int (-1), .null, .int (-1), .null]))]) [0] (by decide) rfl
  have hFc := va_free (wc := [(q, .inr (4, [.int ow, .int 1, .ref f, .int 0, .int (-1), .null, .int (-1), .null]))]) hD hS hA [0] rfl
  refine va_calli (va_runV (As := []) (rest := []) ⟨hx, hb, hml, hown, hts⟩ (c_X3_isInDoubt l hlt D tC dz s.heap.size f q ow ) (cwV 0 hts gX3_isFree_X3_isInDoubt rfl rfl rfl (by decide +kernel) ⟨Nat.le_of_ble_eq_true rfl, Nat.le_of_ble_eq_true rfl⟩) ⟨pB_blind, va_recv hK hPc (ci := 4) (q0 := 0) rfl rfl, pB_at hPc hDc hK hN hE hS hFc⟩ rfl rfl hl.1 rfl (lv_room (Nat.le_of_ble_eq_true rfl)) dX3_isFree_16 ⟨Nat.le_of_ble_eq_true rfl, Nat.le_of_ble_eq_true rfl⟩) hS (fun q _ h => hFc q h) hFc (fun r_1 u t H1 locs ht hvm hw hB hz1 hk1 hS => ?_)
  obtain ⟨hP1, _, hD1⟩ := hB
  have hw_2 := hw
  rw [ht] at hP1
  obtain ⟨hP, hD⟩ := va_join (wr := []) (w1 := [(q, .inr (4, [.int ow, .int 1, .ref f, .int 0, .int (-1), .null, .int (-1), .null]))]) hP hD [0] [] rfl rfl (by decide) (by decide) hk1 hFc hP1 hD1
  generalize H1 = H at hP hS ⊢
  have hP : va_P D vwCl [(q, .inr (4, [.int ow, .int 1, .ref f, .int 0, .int (-1), .null, .int (-1), .null]))] H := hP
  have hD : va_D A [(q, .inr (4, [.int ow, .int 1, .ref f, .int 0, .int (-1), .null, .int (-1), .null]))] := hD
  subst hw_2
  refine lv_if_ne (tgt := 26) hx hb dX3_isFree_19 (by decide) (fun hc => absurd (by decide) hc) (fun _ => ?_)
  refine lv_iconst (v := 1) hx hb dX3_isFree_22 (by decide) ?_
  refine lv_goto (tgt := 27) hx hb dX3_isFree_23 (by decide) ?_
  have hP9 := hP.sub (ws' := [(q, .inr (4, [.int ow, .int 1, .ref f, .int 0, .int (-1), .null, .int (-1), .null]))]) [0] rfl
  have hD9 := hD.sub (ws' := [(q, .inr (4, [.int ow, .int 1, .ref f, .int 0, .int (-1), .null, .int (-1), .null]))]) [0] (by decide) rfl
  refine W.widen (k := 0) (n := 0) (by omega) (by omega) ?_
  exact W.zret (v := 1) hx hb hr (by decide) (fun t ht hW => ⟨⟨1, (), rfl, (by first | rfl | simp), (by rw [ht]; exact hP9), va_K.moved hW.alike hK, hD9⟩, hS.F ht⟩) hS.2.2 dX3_isFree_27 hlocks
set_option maxHeartbeats 4000000 in
set_option maxRecDepth 100000 in
theorem c_X4_stationAt (l : Launch) (hlt : l.stackTraces = false) (D : va_G) (tC : Nat → ClassId) (dz sz : Nat) (x : Nat) (a1 : Nat) (a2 : Nat) (a3 : Nat) (a4 : Nat) (fs : Nat → Option Nat) (p0 : Int32) (q : Nat) (hq : ∀ k : Nat, k < 5 → p0 = nI k → fs k = some q) : vx_Met l yX4_stationAt wsX4_stationAt ({ frames := 6, cells := 1, slots := 6, locals := 82 }) (va_Pc [.ref x, .int p0] (pB D tC dz [(x, .inr (5, [.ref a1, .ref a2, .ref a3, .ref a4])), (a1, wT tC 5 fs)] sz)) (va_Qr (fun (_ : Unit) => True) (fun (_ : Unit) (r : Nat) t => r = q ∧ ¬ (p0 < 0 ∨ 5 ≤ p0) ∧ pA D tC (va_A [(x, .inr (5, [.ref a1, .ref a2, .ref a3, .ref a4])), (a1, wT tC 5 fs)] sz) [(x, .inr (5, [.ref a1, .ref a2, .ref a3, .ref a4])), (a1, wT tC 5 fs)] t) (va_A [(x, .inr (5, [.ref a1, .ref a2, .ref a3, .ref a4])), (a1, wT tC 5 fs)] sz)) (xX (fun E => E = "java/lang/IndexOutOfBoundsException" ∧ (p0 < 0 ∨ 5 ≤ p0)) (va_A [(x, .inr (5, [.ref a1, .ref a2, .ref a3, .ref a4])), (a1, wT tC 5 fs)] sz)) 1 6 (va_A [(x, .inr (5, [.ref a1, .ref a2, .ref a3, .ref a4])), (a1, wT tC 5 fs)] sz) := by
  refine vx_ofW (cc := cX4_stationAt) (maxL := 2) (ret := (some (.object "NoticeStations$Station"))) (by decide) rfl ?_
  intro p e s m args below meth c s₁ B hml hnx hv
  obtain ⟨rfl, hsz, hP, hK, hD0, hN, hE⟩ := hv
  have hx := B.exec
  have hb := B.bytes
  have hr := B.returns
  have hts := atoms_spec (ws := wsX4_stationAt) B.pre
  have hown : s.vm.findClass RX4 = some m.cls := findClass_of_methodNamed B.named
  have hlocks := B.notSynchronized
  subst hsz
  have hD := hD0.self (sz := s.heap.size)
  generalize hAe : va_A [(x, .inr (5, [.ref a1, .ref a2, .ref a3, .ref a4])), (a1, wT tC 5 fs)] s.heap.size = A at hD hE ⊢
  have hA : ∀ q : Nat, s.heap.size ≤ q → A q := fun q h => by rw [← hAe]; exact Or.inr h
  have hS : va_S A s.heap s.heap [] := va_S.rf
  have hP : va_P D vwCl [(x, .inr (5, [.ref a1, .ref a2, .ref a3, .ref a4])), (a1, wT tC 5 fs)] s.heap := hP
  have hl := lv_entry ([.ref x, .int p0]) (n := 2) (Nat.le_of_ble_eq_true rfl)
  rw [lg_entry_eq]
  generalize (lg_sl ([.ref x, .int p0]) ++ List.replicate (2 - (lg_sl ([.ref x, .int p0])).length) Slot.unset).toArray = ls at hl ⊢
  have hl : lv_has ls 2 [(0, .ref x), (1, .int p0)] := hl
  have w_0 := hts (.fieldLink RX4 11 "NoticeStations" "stations" "[LNoticeStations$Station;") (by decide +kernel)
  have w_1 := hts (.classLink RX4 247 "java/lang/IndexOutOfBoundsException") (by decide +kernel)
  have w_2 := hts (.initialized "java/lang/IndexOutOfBoundsException") (by decide +kernel)
  refine lv_iload_n hx hb dX4_stationAt_0 rfl (lv_at hl 1 rfl) ?_
  refine lv_iconst (v := 5) hx hb dX4_stationAt_1 (by decide) ?_
  have hPc := hP.sub (ws' := []) [] rfl
  have hDc := hD.sub (ws' := []) [] (by decide) rfl
  have hFc := va_free (wc := []) hD hS hA [] rfl
  refine va_calli (va_runS (As := [.int p0, .int 5]) (rest := []) ⟨hx, hb, hml, hown, hts⟩ (c_X4_isBelow l hlt D tC dz s.heap.size p0 5 ) (va_cwS 2 hts gX4_stationAt_X4_isBelow rfl rfl rfl (by decide +kernel) ⟨Nat.le_of_ble_eq_true rfl, Nat.le_of_ble_eq_true rfl⟩) ⟨pB_blind, pB_at hPc hDc hK hN hE hS hFc⟩ rfl rfl hl.1 rfl (lv_room (Nat.le_of_ble_eq_true rfl)) dX4_stationAt_2 ⟨Nat.le_of_ble_eq_true rfl, Nat.le_of_ble_eq_true rfl⟩) hS (fun q _ h => hFc q h) hFc (fun r_1 u t H1 locs ht hvm hw hB hz1 hk1 hS => ?_)
  obtain ⟨hP1, _, hD1⟩ := hB
  have hw_2 := hw
  rw [ht] at hP1
  obtain ⟨hP, hD⟩ := va_join (wr := [(x, .inr (5, [.ref a1, .ref a2, .ref a3, .ref a4])), (a1, wT tC 5 fs)]) (w1 := []) hP hD [] [0, 1] rfl rfl (by decide) (by decide) hk1 hFc hP1 hD1
  generalize H1 = H at hP hS ⊢
  have hP : va_P D vwCl [(x, .inr (5, [.ref a1, .ref a2, .ref a3, .ref a4])), (a1, wT tC 5 fs)] H := hP
  have hD : va_D A [(x, .inr (5, [.ref a1, .ref a2, .ref a3, .ref a4])), (a1, wT tC 5 fs)] := hD
  refine lv_if_ne (tgt := 18) hx hb dX4_stationAt_5 (by decide) (fun c_3 => ?_) (fun c_3 => ?_)
  · skip
    refine lv_aload_n hx hb dX4_stationAt_18 rfl (lv_at hl 0 rfl) ?_
    refine va_get (D := D) (ci := 5) (v := .ref a1) (C := RX4) (T := TX4) (N := 4) hx hb hts in_X4_stationAt_X4 hown hK hP 0 rfl rfl 0 (by decide) w_0 (fun _ h9 => h9) rfl dX4_stationAt_19 ?_
    refine lv_iload_n hx hb dX4_stationAt_22 rfl (lv_at hl 1 rfl) ?_
    obtain ⟨k, hk, ek⟩ := ix5 (bl1 hw_2 c_3)
    refine va_aldq hx hb hK hP 1 3 rfl rfl (by rw [ek]; exact in5 hk) dX4_stationAt_23 ?_
    rw [show fs p0.toNatClampNeg = some q from (by rw [ek, cl5 hk]; exact hq k hk ek)]
    refine W.eq (g2 := F0 m 24 ls [.ref q]) rfl ?_
    have hP9 := hP.sub (ws' := [(x, .inr (5, [.ref a1, .ref a2, .ref a3, .ref a4])), (a1, wT tC 5 fs)]) [0, 1] rfl
    have hD9 := hD.sub (ws' := [(x, .inr (5, [.ref a1, .ref a2, .ref a3, .ref a4])), (a1, wT tC 5 fs)]) [0, 1] (by decide) rfl
    refine W.widen (k := 1) (n := 6) (by omega) (by omega) ?_
    exact vx_ret (W.aret (v := .ref q) hx hb hr (Or.inl ⟨_, rfl⟩) (Or.inr ⟨_, rfl⟩) (fun t ht hW => ⟨⟨(), q, rfl, trivial, rfl, bl1 hw_2 c_3, (by rw [ht]; exact hP9), va_K.moved hW.alike hK, hD9⟩, hS.F ht⟩) hS.2.2 dX4_stationAt_24 hlocks)
  · skip
    obtain ⟨sa, hstr⟩ := hN.2.1 (249, "no such station") (by decide +kernel)
    exact vx_throwS hx hb hlt hown (by decide +kernel) (by decide +kernel) w_1 w_2 hstr (vx_hat (fun w hw => hts w (th_X4_stationAt_IOOBE w hw)) at_IOOBE_rest (at_IOOBE_hat hN)) at_IOOBE_ok hE.1 hE.2.1 hS (by rw [hml]; exact hl.1) dX4_stationAt_8 dX4_stationAt_11 dX4_stationAt_12 dX4_stationAt_14 dX4_stationAt_17 (fun x h => (hnx x h).elim) (by decide) (by decide) (Nat.le_of_ble_eq_true rfl) (Nat.le_of_ble_eq_true rfl) hlocks (fun t _ h1 h2 => ⟨(), trivial, ⟨rfl, bl0 hw_2 c_3⟩, xF hS h1 h2⟩) hS.2.2 (Nat.le_of_ble_eq_true rfl) (Nat.le_of_ble_eq_true rfl)
set_option maxHeartbeats 4000000 in
set_option maxRecDepth 100000 in
theorem c_X4_count (l : Launch) (hlt : l.stackTraces = false) (D : va_G) (tC : Nat → ClassId) (dz sz : Nat) (x : Nat) (a1 : Nat) (a2 : Nat) (a3 : Nat) (a4 : Nat) (fs : Nat → Option Nat) (p0 : Int32) (f : Nat) (e1 : Nat) (e2 : Nat) (z1 : Nat → Int32) (q : Nat) (ow : Int32) (hq : ∀ k : Nat, k < 5 → p0 = nI k → fs k = some q) : vx_Met l yX4_count wsX4_count ({ frames := 7, cells := 1, slots := 6, locals := 103 }) (va_Pc [.ref x, .int p0] (pB D tC dz [(x, .inr (5, [.ref a1, .ref a2, .ref a3, .ref a4])), (a1, wT tC 5 fs), (q, .inr (4, [.int ow, .int 1, .ref f, .int 0, .int (-1), .null, .int (-1), .null])), (f, .inr (3, [.ref e1, .ref e2, .int 5, .int 0])), (e1, wI tC 0 z1)] sz)) (va_Qi (fun (r : Int32) (_ : Unit) => r = 0 ∧ ¬ (p0 < 0 ∨ 5 ≤ p0)) (fun (_ : Unit) t => pA D tC (va_A [(x, .inr (5, [.ref a1, .ref a2, .ref a3, .ref a4])), (a1, wT tC 5 fs), (q, .inr (4, [.int ow, .int 1, .ref f, .int 0, .int (-1), .null, .int (-1), .null])), (f, .inr (3, [.ref e1, .ref e2, .int 5, .int 0])), (e1, wI tC 0 z1)] sz) [] t) (va_A [(x, .inr (5, [.ref a1, .ref a2, .ref a3, .ref a4])), (a1, wT tC 5 fs), (q, .inr (4, [.int ow, .int 1, .ref f, .int 0, .int (-1), .null, .int (-1), .null])), (f, .inr (3, [.ref e1, .ref e2, .int 5, .int 0])), (e1, wI tC 0 z1)] sz)) (xX (fun E => E = "java/lang/IndexOutOfBoundsException" ∧ (p0 < 0 ∨ 5 ≤ p0)) (va_A [(x, .inr (5, [.ref a1, .ref a2, .ref a3, .ref a4])), (a1, wT tC 5 fs), (q, .inr (4, [.int ow, .int 1, .ref f, .int 0, .int (-1), .null, .int (-1), .null])), (f, .inr (3, [.ref e1, .ref e2, .int 5, .int 0])), (e1, wI tC 0 z1)] sz)) 1 6 (va_A [(x, .inr (5, [.ref a1, .ref a2, .ref a3, .ref a4])), (a1, wT tC 5 fs), (q, .inr (4, [.int ow, .int 1, .ref f, .int 0, .int (-1), .null, .int (-1), .null])), (f, .inr (3, [.ref e1, .ref e2, .int 5, .int 0])), (e1, wI tC 0 z1)] sz) := by
  refine vx_ofW (cc := cX4_count) (maxL := 2) (ret := (some .int)) (by decide) rfl ?_
  intro p e s m args below meth c s₁ B hml hnx hv
  obtain ⟨rfl, hsz, hP, hK, hD0, hN, hE⟩ := hv
  have hx := B.exec
  have hb := B.bytes
  have hr := B.returns
  have hts := atoms_spec (ws := wsX4_count) B.pre
  have hown : s.vm.findClass RX4 = some m.cls := findClass_of_methodNamed B.named
  have hlocks := B.notSynchronized
  subst hsz
  have hD := hD0.self (sz := s.heap.size)
  generalize hAe : va_A [(x, .inr (5, [.ref a1, .ref a2, .ref a3, .ref a4])), (a1, wT tC 5 fs), (q, .inr (4, [.int ow, .int 1, .ref f, .int 0, .int (-1), .null, .int (-1), .null])), (f, .inr (3, [.ref e1, .ref e2, .int 5, .int 0])), (e1, wI tC 0 z1)] s.heap.size = A at hD hE ⊢
  have hA : ∀ q : Nat, s.heap.size ≤ q → A q := fun q h => by rw [← hAe]; exact Or.inr h
  have hS : va_S A s.heap s.heap [] := va_S.rf
  have hP : va_P D vwCl [(x, .inr (5, [.ref a1, .ref a2, .ref a3, .ref a4])), (a1, wT tC 5 fs), (q, .inr (4, [.int ow, .int 1, .ref f, .int 0, .int (-1), .null, .int (-1), .null])), (f, .inr (3, [.ref e1, .ref e2, .int 5, .int 0])), (e1, wI tC 0 z1)] s.heap := hP
  have hl := lv_entry ([.ref x, .int p0]) (n := 2) (Nat.le_of_ble_eq_true rfl)
  rw [lg_entry_eq]
  generalize (lg_sl ([.ref x, .int p0]) ++ List.replicate (2 - (lg_sl ([.ref x, .int p0])).length) Slot.unset).toArray = ls at hl ⊢
  have hl : lv_has ls 2 [(0, .ref x), (1, .int p0)] := hl
  have w_0 := hts (.initialized RX2) (by decide +kernel)
  have w_1 := hts (.instanceMethod yX2_length) (by decide +kernel)
  have w_2 := hts (.selects RX2 yX2_length yX2_length) (by decide +kernel)
  refine lv_aload_n hx hb dX4_count_0 rfl (lv_at hl 0 rfl) ?_
  refine lv_iload_n hx hb dX4_count_1 rfl (lv_at hl 1 rfl) ?_
  have hPc := hP.sub (ws' := [(x, .inr (5, [.ref a1, .ref a2, .ref a3, .ref a4])), (a1, wT tC 5 fs)]) [0, 1] rfl
  have hDc := hD.sub (ws' := [(x, .inr (5, [.ref a1, .ref a2, .ref a3, .ref a4])), (a1, wT tC 5 fs)]) [0, 1] (by decide) rfl
  have hFc := va_free (wc := [(x, .inr (5, [.ref a1, .ref a2, .ref a3, .ref a4])), (a1, wT tC 5 fs)]) hD hS hA [0, 1] rfl
  refine vx_callr (vx_runV (As := [.int p0]) (rest := []) ⟨hx, hb, hml, hown, hts⟩ (c_X4_stationAt l hlt D tC dz s.heap.size x a1 a2 a3 a4 fs p0 q hq) (cwV 1 hts gX4_count_X4_stationAt rfl rfl rfl (by decide +kernel) ⟨Nat.le_of_ble_eq_true rfl, Nat.le_of_ble_eq_true rfl⟩) ⟨pB_blind, va_recv hK hPc (ci := 5) (q0 := 0) rfl rfl, pB_at hPc hDc hK hN hE hS hFc⟩ rfl rfl hl.1 rfl (lv_room (Nat.le_of_ble_eq_true rfl)) dX4_count_2 ⟨Nat.le_of_ble_eq_true rfl, Nat.le_of_ble_eq_true rfl⟩) hS (fun q _ h => hFc q h) hFc (fun q _ h => hFc q h) (fun E ce q9 u t H1 locs ht hvm hpx hPE hz1 hk1 hS hce hcv hcl => ?_) (fun u r1 t H1 locs ht hvm hw hB hz1 hk1 hS => ?_)
  · skip
    exact vx_out (fun x h => (hnx x h).elim) hlocks hce hcv hcl (fun t9 h9 _ => ⟨(), trivial, hPE, hS.F h9⟩) hS.2.2 (Nat.le_of_ble_eq_true rfl) (Nat.le_of_ble_eq_true rfl)
  · skip
    obtain ⟨k_1, k_2, hP1, _, hD1⟩ := hB
    have hw_3 := hw
    rw [ht] at hP1
    obtain ⟨hP, hD⟩ := va_join (wr := [(q, .inr (4, [.int ow, .int 1, .ref f, .int 0, .int (-1), .null, .int (-1), .null])), (f, .inr (3, [.ref e1, .ref e2, .int 5, .int 0])), (e1, wI tC 0 z1)]) (w1 := [(x, .inr (5, [.ref a1, .ref a2, .ref a3, .ref a4])), (a1, wT tC 5 fs)]) hP hD [0, 1] [2, 3, 4] rfl rfl (by decide) (by decide) hk1 hFc hP1 hD1
    generalize H1 = H at hP hS ⊢
    have hP : va_P D vwCl [(q, .inr (4, [.int ow, .int 1, .ref f, .int 0, .int (-1), .null, .int (-1), .null])), (f, .inr (3, [.ref e1, .ref e2, .int 5, .int 0])), (e1, wI tC 0 z1), (x, .inr (5, [.ref a1, .ref a2, .ref a3, .ref a4])), (a1, wT tC 5 fs)] H := hP
    have hD : va_D A [(q, .inr (4, [.int ow, .int 1, .ref f, .int 0, .int (-1), .null, .int (-1), .null])), (f, .inr (3, [.ref e1, .ref e2, .int 5, .int 0])), (e1, wI tC 0 z1), (x, .inr (5, [.ref a1, .ref a2, .ref a3, .ref a4])), (a1, wT tC 5 fs)] := hD
    refine W.widen (k := 1) (n := 6) (by omega) (by omega) ?_
    rw [k_1]
    refine va_getN (host := "NoticeStations") (D := D) (ci := 4) (v := .ref f) (C := RX3) (T := TX3) (N := 8) hx hb hts in_X4_count_X3 hown hK hP 0 rfl rfl 2 (by decide) (va_Nw.use rfl (hN.1 (.fieldLinkNest "NoticeStations" 61 "NoticeStations$Station" "stored" "LNoticeStations$Standing;" "NoticeStations") (by decide +kernel))) (fun _ h9 => h9) rfl dX4_count_5 ?_
    have hPc := hP.sub (ws' := [(f, .inr (3, [.ref e1, .ref e2, .int 5, .int 0])), (e1, wI tC 0 z1)]) [1, 2] rfl
    have hDc := hD.sub (ws' := [(f, .inr (3, [.ref e1, .ref e2, .int 5, .int 0])), (e1, wI tC 0 z1)]) [1, 2] (by decide) rfl
    have hFc := va_free (wc := [(f, .inr (3, [.ref e1, .ref e2, .int 5, .int 0])), (e1, wI tC 0 z1)]) hD hS hA [1, 2] rfl
    refine va_calli (va_runVN (As := []) (rest := []) ⟨hx, hb, hml, hown, hts⟩ (c_X2_length l hlt D tC dz H.size f e1 e2 z1 ) ⟨(va_cnB (host := "NoticeStations") 0 hts gX4_count_X2_length_n107 rfl rfl rfl (hN.1 (.methodLinkNest "NoticeStations" 107 ⟨"NoticeStations$Standing", "length", "()I"⟩ "NoticeStations") (by decide +kernel)) w_0 (by decide +kernel) ⟨Nat.le_of_ble_eq_true rfl, Nat.le_of_ble_eq_true rfl⟩), w_1, w_2⟩ ⟨pB_blind, va_recv hK hPc (ci := 3) (q0 := 0) rfl rfl, pB_at hPc hDc hK hN hE hS hFc⟩ rfl rfl hl.1 rfl (lv_room (Nat.le_of_ble_eq_true rfl)) dX4_count_8 ⟨Nat.le_of_ble_eq_true rfl, Nat.le_of_ble_eq_true rfl⟩) hS (fun q _ h => hFc q h) hFc (fun r_4 u t H1 locs ht hvm hw hB hz1 hk1 hS => ?_)
    obtain ⟨hP1, _, hD1⟩ := hB
    have hw_5 := hw
    rw [ht] at hP1
    obtain ⟨hP, hD⟩ := va_join (wr := [(q, .inr (4, [.int ow, .int 1, .ref f, .int 0, .int (-1), .null, .int (-1), .null])), (x, .inr (5, [.ref a1, .ref a2, .ref a3, .ref a4])), (a1, wT tC 5 fs)]) (w1 := [(f, .inr (3, [.ref e1, .ref e2, .int 5, .int 0])), (e1, wI tC 0 z1)]) hP hD [1, 2] [0, 3, 4] rfl rfl (by decide) (by decide) hk1 hFc hP1 hD1
    generalize H1 = H at hP hS ⊢
    have hP : va_P D vwCl [(q, .inr (4, [.int ow, .int 1, .ref f, .int 0, .int (-1), .null, .int (-1), .null])), (x, .inr (5, [.ref a1, .ref a2, .ref a3, .ref a4])), (a1, wT tC 5 fs), (f, .inr (3, [.ref e1, .ref e2, .int 5, .int 0])), (e1, wI tC 0 z1)] H := hP
    have hD : va_D A [(q, .inr (4, [.int ow, .int 1, .ref f, .int 0, .int (-1), .null, .int (-1), .null])), (x, .inr (5, [.ref a1, .ref a2, .ref a3, .ref a4])), (a1, wT tC 5 fs), (f, .inr (3, [.ref e1, .ref e2, .int 5, .int 0])), (e1, wI tC 0 z1)] := hD
    have hP9 := hP.sub (ws' := []) [] rfl
    have hD9 := hD.sub (ws' := []) [] (by decide) rfl
    refine W.widen (k := 1) (n := 6) (by omega) (by omega) ?_
    exact vx_ret (W.iret (v := r_4) hx hb hr (fun t ht hW => ⟨⟨r_4, (), rfl, ⟨hw_5, k_2⟩, (by rw [ht]; exact hP9), va_K.moved hW.alike hK, hD9⟩, hS.F ht⟩) hS.2.2 dX4_count_11 hlocks)
