set_option maxRecDepth 100000 in
theorem dX4_isBelow_0 : decode cX4_isBelow 0 = .ok (.iload_n 0, 1) := by decide +kernel
set_option maxRecDepth 100000 in
theorem dX4_isBelow_1 : decode cX4_isBelow 1 = .ok (.ifCond .lt 12, 3) := by decide +kernel
set_option maxRecDepth 100000 in
theorem dX4_isBelow_13 : decode cX4_isBelow 13 = .ok (.iconst 0, 1) := by decide +kernel
set_option maxRecDepth 100000 in
theorem dX4_isBelow_14 : decode cX4_isBelow 14 = .ok (.ireturn, 1) := by decide +kernel
set_option maxRecDepth 100000 in
theorem dX4_isBelow_4 : decode cX4_isBelow 4 = .ok (.iload_n 0, 1) := by decide +kernel
set_option maxRecDepth 100000 in
theorem dX4_isBelow_5 : decode cX4_isBelow 5 = .ok (.iload_n 1, 1) := by decide +kernel
set_option maxRecDepth 100000 in
theorem dX4_isBelow_6 : decode cX4_isBelow 6 = .ok (.if_icmp .ge 7, 3) := by decide +kernel
set_option maxRecDepth 100000 in
theorem dX4_isBelow_9 : decode cX4_isBelow 9 = .ok (.iconst 1, 1) := by decide +kernel
set_option maxRecDepth 100000 in
theorem dX4_isBelow_10 : decode cX4_isBelow 10 = .ok (.goto 4, 3) := by decide +kernel
set_option maxRecDepth 100000 in
theorem dX2_length_0 : decode cX2_length 0 = .ok (.aload_n 0, 1) := by decide +kernel
set_option maxRecDepth 100000 in
theorem dX2_length_1 : decode cX2_length 1 = .ok (.getfield 7, 3) := by decide +kernel
set_option maxRecDepth 100000 in
theorem in_X2_length_X2 : ∀ w ∈ wsX20, w ∈ wsX2_length := fun _ h => List.mem_cons_of_mem _ (List.mem_append_right _ h)
set_option maxRecDepth 100000 in
theorem dX2_length_4 : decode cX2_length 4 = .ok (.arraylength, 1) := by decide +kernel
set_option maxRecDepth 100000 in
theorem dX2_length_5 : decode cX2_length 5 = .ok (.ireturn, 1) := by decide +kernel
set_option maxRecDepth 100000 in
theorem dX3_isInDoubt_0 : decode cX3_isInDoubt 0 = .ok (.aload_n 0, 1) := by decide +kernel
set_option maxRecDepth 100000 in
theorem dX3_isInDoubt_1 : decode cX3_isInDoubt 1 = .ok (.getfield 22, 3) := by decide +kernel
set_option maxRecDepth 100000 in
theorem in_X3_isInDoubt_X3 : ∀ w ∈ wsX30, w ∈ wsX3_isInDoubt := fun _ h => List.mem_cons_of_mem _ (List.mem_append_right _ h)
set_option maxRecDepth 100000 in
theorem dX3_isInDoubt_4 : decode cX3_isInDoubt 4 = .ok (.ifnull 7, 3) := by decide +kernel
set_option maxRecDepth 100000 in
theorem dX3_isInDoubt_11 : decode cX3_isInDoubt 11 = .ok (.iconst 0, 1) := by decide +kernel
set_option maxRecDepth 100000 in
theorem dX3_isInDoubt_12 : decode cX3_isInDoubt 12 = .ok (.ireturn, 1) := by decide +kernel
set_option maxRecDepth 100000 in
theorem dX3_isInDoubt_7 : decode cX3_isInDoubt 7 = .ok (.iconst 1, 1) := by decide +kernel
set_option maxRecDepth 100000 in
theorem dX3_isInDoubt_8 : decode cX3_isInDoubt 8 = .ok (.goto 4, 3) := by decide +kernel
set_option maxRecDepth 100000 in
theorem dX3_isFree_0 : decode cX3_isFree 0 = .ok (.aload_n 0, 1) := by decide +kernel
set_option maxRecDepth 100000 in
theorem dX3_isFree_1 : decode cX3_isFree 1 = .ok (.getfield 9, 3) := by decide +kernel
set_option maxRecDepth 100000 in
theorem in_X3_isFree_X3 : ∀ w ∈ wsX30, w ∈ wsX3_isFree := fun _ h => List.mem_cons_of_mem _ (List.mem_append_right _ h)
set_option maxRecDepth 100000 in
theorem dX3_isFree_4 : decode cX3_isFree 4 = .ok (.ifCond .eq 22, 3) := by decide +kernel
set_option maxRecDepth 100000 in
theorem dX3_isFree_26 : decode cX3_isFree 26 = .ok (.iconst 0, 1) := by decide +kernel
set_option maxRecDepth 100000 in
theorem dX3_isFree_27 : decode cX3_isFree 27 = .ok (.ireturn, 1) := by decide +kernel
set_option maxRecDepth 100000 in
theorem dX3_isFree_7 : decode cX3_isFree 7 = .ok (.aload_n 0, 1) := by decide +kernel
set_option maxRecDepth 100000 in
theorem dX3_isFree_8 : decode cX3_isFree 8 = .ok (.getfield 26, 3) := by decide +kernel
set_option maxRecDepth 100000 in
theorem dX3_isFree_11 : decode cX3_isFree 11 = .ok (.iconst (-1), 1) := by decide +kernel
set_option maxRecDepth 100000 in
theorem dX3_isFree_12 : decode cX3_isFree 12 = .ok (.if_icmp .ne 14, 3) := by decide +kernel
set_option maxRecDepth 100000 in
theorem dX3_isFree_15 : decode cX3_isFree 15 = .ok (.aload_n 0, 1) := by decide +kernel
set_option maxRecDepth 100000 in
theorem dX3_isFree_16 : decode cX3_isFree 16 = .ok (.invokevirtual 39, 3) := by decide +kernel
set_option maxRecDepth 20000 in
theorem ggX3_isFree_X3_isInDoubt : GoodIn wsX3_isFree wsX3_isInDoubt := goodIn_r _ [7, 8, 9, 10, 11, 12, 13, 14, 15, 16] (by decide +kernel) (by decide +kernel)
set_option maxRecDepth 20000 in
theorem gX3_isFree_X3_isInDoubt : GoodIn wsX3_isFree (wsV RX3 39 RX3 yX3_isInDoubt wsX3_isInDoubt) := goodIn_app (goodIn_of _ (by decide +kernel)) ggX3_isFree_X3_isInDoubt
set_option maxRecDepth 100000 in
theorem dX3_isFree_19 : decode cX3_isFree 19 = .ok (.ifCond .ne 7, 3) := by decide +kernel
set_option maxRecDepth 100000 in
theorem dX3_isFree_22 : decode cX3_isFree 22 = .ok (.iconst 1, 1) := by decide +kernel
set_option maxRecDepth 100000 in
theorem dX3_isFree_23 : decode cX3_isFree 23 = .ok (.goto 4, 3) := by decide +kernel
set_option maxRecDepth 100000 in
theorem dX1_isCollecting_0 : decode cX1_isCollecting 0 = .ok (.aload_n 0, 1) := by decide +kernel
set_option maxRecDepth 100000 in
theorem dX1_isCollecting_1 : decode cX1_isCollecting 1 = .ok (.getfield 21, 3) := by decide +kernel
set_option maxRecDepth 100000 in
theorem in_X1_isCollecting_X1 : ∀ w ∈ wsX10, w ∈ wsX1_isCollecting := fun _ h => List.mem_cons_of_mem _ (List.mem_append_right _ h)
set_option maxRecDepth 100000 in
theorem dX1_isCollecting_4 : decode cX1_isCollecting 4 = .ok (.ifnonnull 7, 3) := by decide +kernel
set_option maxRecDepth 100000 in
theorem dX1_isCollecting_7 : decode cX1_isCollecting 7 = .ok (.iconst 1, 1) := by decide +kernel
set_option maxRecDepth 100000 in
theorem dX1_isCollecting_8 : decode cX1_isCollecting 8 = .ok (.goto 4, 3) := by decide +kernel
set_option maxRecDepth 100000 in
theorem dX1_isCollecting_12 : decode cX1_isCollecting 12 = .ok (.ireturn, 1) := by decide +kernel
set_option maxRecDepth 100000 in
theorem dX1_isCollecting_11 : decode cX1_isCollecting 11 = .ok (.iconst 0, 1) := by decide +kernel
set_option maxRecDepth 100000 in
theorem dX1_isOfGroup_0 : decode cX1_isOfGroup 0 = .ok (.aload_n 0, 1) := by decide +kernel
set_option maxRecDepth 100000 in
theorem dX1_isOfGroup_1 : decode cX1_isOfGroup 1 = .ok (.getfield 11, 3) := by decide +kernel
set_option maxRecDepth 100000 in
theorem in_X1_isOfGroup_X1 : ∀ w ∈ wsX10, w ∈ wsX1_isOfGroup := fun _ h => List.mem_cons_of_mem _ (List.mem_append_right _ h)
set_option maxRecDepth 100000 in
theorem dX1_isOfGroup_4 : decode cX1_isOfGroup 4 = .ok (.iload_n 1, 1) := by decide +kernel
set_option maxRecDepth 100000 in
theorem dX1_isOfGroup_5 : decode cX1_isOfGroup 5 = .ok (.aaload, 1) := by decide +kernel
set_option maxRecDepth 100000 in
theorem dX1_isOfGroup_6 : decode cX1_isOfGroup 6 = .ok (.ifnull 7, 3) := by decide +kernel
set_option maxRecDepth 100000 in
theorem dX1_isOfGroup_13 : decode cX1_isOfGroup 13 = .ok (.iconst 0, 1) := by decide +kernel
set_option maxRecDepth 100000 in
theorem dX1_isOfGroup_14 : decode cX1_isOfGroup 14 = .ok (.ireturn, 1) := by decide +kernel
set_option maxRecDepth 100000 in
theorem dX1_isOfGroup_9 : decode cX1_isOfGroup 9 = .ok (.iconst 1, 1) := by decide +kernel
set_option maxRecDepth 100000 in
theorem dX1_isOfGroup_10 : decode cX1_isOfGroup 10 = .ok (.goto 4, 3) := by decide +kernel
set_option maxHeartbeats 4000000 in
set_option maxRecDepth 100000 in
theorem c_X4_isBelow (l : Launch) (hlt : l.stackTraces = false) (D : va_G) (tC : Nat → ClassId) (dz sz : Nat) (pl : va_W) (t : Nat → Nat × Nat) (ad : Nat → Nat) (ed : Nat) (cb up : Nat → Int32) (rs cp : Nat) (hO : Ok tC dz t ad ed cb up rs cp pl) (v : Int32) (bd : Int32)  : Met l yX4_isBelow wsX4_isBelow ({ frames := 0, cells := 0, slots := 0, locals := 0 }) (va_Pc [.int v, .int bd] (pB D tC dz pl sz)) (va_Qi (fun (r : Int32) (_ : Unit) => r = if v < 0 ∨ bd ≤ v then 0 else 1) (fun (_ : Unit) _ => True) (xN sz)) 0 0 (xN sz) := by
  refine Met.ofW (cc := cX4_isBelow) (maxL := 2) (ret := (some .boolean)) (by decide) rfl ?_
  intro p e s m args below meth c s₁ B hml hv
  obtain ⟨rfl, hsz, hP, hK, hD0, hN, hE⟩ := hv
  have hx := B.exec
  have hb := B.bytes
  have hr := B.returns
  have hts := atoms_spec (ws := wsX4_isBelow) B.pre
  have hown : s.vm.findClass RX4 = some m.cls := findClass_of_methodNamed B.named
  have hlocks := B.notSynchronized
  subst hsz
  have hD := hD0.self (sz := s.heap.size)
  have hAm : ∀ q : Nat, xN s.heap.size q → va_A pl s.heap.size q := xN_A
  have hN0 : ∀ q : Nat, s.heap.size ≤ q → xN s.heap.size q := fun _ h => h
  have hE0 := eH_narrow hE hAm
  generalize va_A pl s.heap.size = A at hD hE hAm
  have hA : ∀ q : Nat, s.heap.size ≤ q → A q := fun q h => hAm q h
  have hS : va_S (xN s.heap.size) s.heap s.heap [] := va_S.rf
  have hl := lv_entry ([.int v, .int bd]) (n := 2) (Nat.le_of_ble_eq_true rfl)
  rw [lg_entry_eq]
  generalize (lg_sl ([.int v, .int bd]) ++ List.replicate (2 - (lg_sl ([.int v, .int bd])).length) Slot.unset).toArray = ls at hl ⊢
  have hl : lv_has ls 2 [(0, .int v), (1, .int bd)] := hl
  refine lv_iload_n hx hb dX4_isBelow_0 rfl (lv_at hl 0 rfl) ?_
  refine lv_if_lt (tgt := 13) hx hb dX4_isBelow_1 (by decide) (fun c_1 => ?_) (fun c_1 => ?_)
  · skip
    refine lv_iconst (v := 0) hx hb dX4_isBelow_13 (by decide) ?_
    refine W.widen (k := 0) (n := 0) (by omega) (by omega) ?_
    exact W.zret (v := 0) hx hb hr (by decide) (fun t9 ht hW => ⟨⟨0, (), rfl, (by simp [c_1]), trivial⟩, hS.F ht⟩) hS.2.2 dX4_isBelow_14 hlocks
  · skip
    refine lv_iload_n hx hb dX4_isBelow_4 rfl (lv_at hl 0 rfl) ?_
    refine lv_iload_n hx hb dX4_isBelow_5 rfl (lv_at hl 1 rfl) ?_
    refine lv_icmp_ge (tgt := 13) hx hb dX4_isBelow_6 (by decide) (fun c_2 => ?_) (fun c_2 => ?_)
    · skip
      refine lv_iconst (v := 0) hx hb dX4_isBelow_13 (by decide) ?_
      refine W.widen (k := 0) (n := 0) (by omega) (by omega) ?_
      exact W.zret (v := 0) hx hb hr (by decide) (fun t9 ht hW => ⟨⟨0, (), rfl, (by simp [c_1, c_2]), trivial⟩, hS.F ht⟩) hS.2.2 dX4_isBelow_14 hlocks
    · skip
      refine lv_iconst (v := 1) hx hb dX4_isBelow_9 (by decide) ?_
      refine lv_goto (tgt := 14) hx hb dX4_isBelow_10 (by decide) ?_
      refine W.widen (k := 0) (n := 0) (by omega) (by omega) ?_
      exact W.zret (v := 1) hx hb hr (by decide) (fun t9 ht hW => ⟨⟨1, (), rfl, (by simp [c_1, c_2]), trivial⟩, hS.F ht⟩) hS.2.2 dX4_isBelow_14 hlocks
set_option maxHeartbeats 4000000 in
set_option maxRecDepth 100000 in
theorem c_X2_length (l : Launch) (hlt : l.stackTraces = false) (D : va_G) (tC : Nat → ClassId) (dz sz : Nat) (pl : va_W) (t : Nat → Nat × Nat) (ad : Nat → Nat) (ed : Nat) (cb up : Nat → Int32) (rs cp : Nat) (hO : Ok tC dz t ad ed cb up rs cp pl) (a : Nat) (n : Nat) (ha : t a = (1, n)) : Met l yX2_length wsX2_length ({ frames := 0, cells := 0, slots := 0, locals := 0 }) (va_Pc [.ref a] (pB D tC dz pl sz)) (va_Qi (fun (r : Int32) (_ : Unit) => r = nI n) (fun (_ : Unit) _ => True) (xN sz)) 0 0 (xN sz) := by
  refine Met.ofW (cc := cX2_length) (maxL := 1) (ret := (some .int)) (by decide) rfl ?_
  intro p e s m args below meth c s₁ B hml hv
  obtain ⟨rfl, hsz, hP, hK, hD0, hN, hE⟩ := hv
  have hx := B.exec
  have hb := B.bytes
  have hr := B.returns
  have hts := atoms_spec (ws := wsX2_length) B.pre
  have hown : s.vm.findClass RX2 = some m.cls := findClass_of_methodNamed B.named
  have hlocks := B.notSynchronized
  subst hsz
  have hD := hD0.self (sz := s.heap.size)
  have hAm : ∀ q : Nat, xN s.heap.size q → va_A pl s.heap.size q := xN_A
  have hN0 : ∀ q : Nat, s.heap.size ≤ q → xN s.heap.size q := fun _ h => h
  have hE0 := eH_narrow hE hAm
  generalize va_A pl s.heap.size = A at hD hE hAm
  have hA : ∀ q : Nat, s.heap.size ≤ q → A q := fun q h => hAm q h
  have hS : va_S (xN s.heap.size) s.heap s.heap [] := va_S.rf
  have hl := lv_entry ([.ref a]) (n := 1) (Nat.le_of_ble_eq_true rfl)
  rw [lg_entry_eq]
  generalize (lg_sl ([.ref a]) ++ List.replicate (1 - (lg_sl ([.ref a])).length) Slot.unset).toArray = ls at hl ⊢
  have hl : lv_has ls 1 [(0, .ref a)] := hl
  have w_0 := hts (.fieldLink RX2 7 "NoticeStations$Standing" "entries" "[I") (by decide +kernel)
  refine lv_aload_n hx hb dX2_length_0 rfl (lv_at hl 0 rfl) ?_
  obtain ⟨p_1, e_2, u_3, z_4, d_5, hp_1, h_6, h_7, h_8⟩ := hO.k1 ha
  refine va_get (D := D) (ci := 3) (v := .ref e_2) (C := RX2) (T := TX2) (N := 4) hx hb hts in_X2_length_X2 hown hK hP p_1 hp_1 rfl 0 (by decide) w_0 (fun _ h9 => h9) rfl dX2_length_1 ?_
  obtain ⟨p_9, f_10, hp_9⟩ := hO.k2 h_6
  refine va_alen (v := (nI n)) hx hb hK hP p_9 0 hp_9 rfl (by first | decide | rfl) dX2_length_4 ?_
  refine W.widen (k := 0) (n := 0) (by omega) (by omega) ?_
  exact W.iret (v := (nI n)) hx hb hr (fun t9 ht hW => ⟨⟨(nI n), (), rfl, rfl, trivial⟩, hS.F ht⟩) hS.2.2 dX2_length_5 hlocks
set_option maxHeartbeats 4000000 in
set_option maxRecDepth 100000 in
theorem c_X3_isInDoubt (l : Launch) (hlt : l.stackTraces = false) (D : va_G) (tC : Nat → ClassId) (dz sz : Nat) (pl : va_W) (t : Nat → Nat × Nat) (ad : Nat → Nat) (ed : Nat) (cb up : Nat → Int32) (rs cp : Nat) (hO : Ok tC dz t ad ed cb up rs cp pl) (i : Nat) (hi : i < 5) : Met l yX3_isInDoubt wsX3_isInDoubt ({ frames := 0, cells := 0, slots := 0, locals := 0 }) (va_Pc [.ref (ad (6 + i))] (pB D tC dz pl sz)) (va_Qi (fun (r : Int32) (_ : Unit) => r = 0 ∨ stD t ad up pl i) (fun (_ : Unit) _ => True) (xN sz)) 0 0 (xN sz) := by
  refine Met.ofW (cc := cX3_isInDoubt) (maxL := 1) (ret := (some .boolean)) (by decide) rfl ?_
  intro p e s m args below meth c s₁ B hml hv
  obtain ⟨rfl, hsz, hP, hK, hD0, hN, hE⟩ := hv
  have hx := B.exec
  have hb := B.bytes
  have hr := B.returns
  have hts := atoms_spec (ws := wsX3_isInDoubt) B.pre
  have hown : s.vm.findClass RX3 = some m.cls := findClass_of_methodNamed B.named
  have hlocks := B.notSynchronized
  subst hsz
  have hD := hD0.self (sz := s.heap.size)
  have hAm : ∀ q : Nat, xN s.heap.size q → va_A pl s.heap.size q := xN_A
  have hN0 : ∀ q : Nat, s.heap.size ≤ q → xN s.heap.size q := fun _ h => h
  have hE0 := eH_narrow hE hAm
  generalize va_A pl s.heap.size = A at hD hE hAm
  have hA : ∀ q : Nat, s.heap.size ≤ q → A q := fun q h => hAm q h
  have hS : va_S (xN s.heap.size) s.heap s.heap [] := va_S.rf
  have hl := lv_entry ([.ref (ad (6 + i))]) (n := 1) (Nat.le_of_ble_eq_true rfl)
  rw [lg_entry_eq]
  generalize (lg_sl ([.ref (ad (6 + i))]) ++ List.replicate (1 - (lg_sl ([.ref (ad (6 + i))])).length) Slot.unset).toArray = ls at hl ⊢
  have hl : lv_has ls 1 [(0, .ref (ad (6 + i)))] := hl
  have w_0 := hts (.fieldLink RX3 22 "NoticeStations$Station" "preparedStanding" "LNoticeStations$Standing;") (by decide +kernel)
  refine lv_aload_n hx hb dX3_isInDoubt_0 rfl (lv_at hl 0 rfl) ?_
  obtain ⟨p_1, st_2, bg_3, pn_4, lk_5, ps_6, o_7, hp_1, h_8, h_9, h_10⟩ := hO.k12 hi
  refine va_get (D := D) (ci := 4) (v := va_rf ps_6) (C := RX3) (T := TX3) (N := 8) hx hb hts in_X3_isInDoubt_X3 hown hK hP p_1 hp_1 rfl 5 (by decide) w_0 (fun _ h9 => h9) rfl dX3_isInDoubt_1 ?_
  rcases ps_6 with _ | y_11
  · skip
    refine W.eq (g2 := F0 m 4 ls [.null]) rfl ?_
    refine lv_ifnullN (tgt := 11) hx hb dX3_isInDoubt_4 (by decide) ?_
    refine lv_iconst (v := 0) hx hb dX3_isInDoubt_11 (by decide) ?_
    refine W.widen (k := 0) (n := 0) (by omega) (by omega) ?_
    exact W.zret (v := 0) hx hb hr (by decide) (fun t9 ht hW => ⟨⟨0, (), rfl, (Or.inl rfl), trivial⟩, hS.F ht⟩) hS.2.2 dX3_isInDoubt_12 hlocks
  · skip
    have h_12 : (t y_11).1 = 1 := h_9 _ rfl
    refine W.eq (g2 := F0 m 4 ls [.ref y_11]) rfl ?_
    refine lv_ifnull hx hb dX3_isInDoubt_4 ?_
    refine lv_iconst (v := 1) hx hb dX3_isInDoubt_7 (by decide) ?_
    refine lv_goto (tgt := 12) hx hb dX3_isInDoubt_8 (by decide) ?_
    refine W.widen (k := 0) (n := 0) (by omega) (by omega) ?_
    exact W.zret (v := 1) hx hb hr (by decide) (fun t9 ht hW => ⟨⟨1, (), rfl, (Or.inr ⟨p_1, st_2, bg_3, pn_4, lk_5, y_11, o_7, hp_1, h_8, h_12, h_10⟩), trivial⟩, hS.F ht⟩) hS.2.2 dX3_isInDoubt_12 hlocks
set_option maxHeartbeats 4000000 in
set_option maxRecDepth 100000 in
theorem c_X3_isFree (l : Launch) (hlt : l.stackTraces = false) (D : va_G) (tC : Nat → ClassId) (dz sz : Nat) (pl : va_W) (t : Nat → Nat × Nat) (ad : Nat → Nat) (ed : Nat) (cb up : Nat → Int32) (rs cp : Nat) (hO : Ok tC dz t ad ed cb up rs cp pl) (i : Nat) (hi : i < 5) : Met l yX3_isFree wsX3_isFree ({ frames := 1, cells := 0, slots := 0, locals := 20 }) (va_Pc [.ref (ad (6 + i))] (pB D tC dz pl sz)) (va_Qi (fun (r : Int32) (_ : Unit) => True) (fun (_ : Unit) _ => True) (xN sz)) 0 0 (xN sz) := by
  refine Met.ofW (cc := cX3_isFree) (maxL := 1) (ret := (some .boolean)) (by decide) rfl ?_
  intro p e s m args below meth c s₁ B hml hv
  obtain ⟨rfl, hsz, hP, hK, hD0, hN, hE⟩ := hv
  have hx := B.exec
  have hb := B.bytes
  have hr := B.returns
  have hts := atoms_spec (ws := wsX3_isFree) B.pre
  have hown : s.vm.findClass RX3 = some m.cls := findClass_of_methodNamed B.named
  have hlocks := B.notSynchronized
  subst hsz
  have hD := hD0.self (sz := s.heap.size)
  have hAm : ∀ q : Nat, xN s.heap.size q → va_A pl s.heap.size q := xN_A
  have hN0 : ∀ q : Nat, s.heap.size ≤ q → xN s.heap.size q := fun _ h => h
  have hE0 := eH_narrow hE hAm
  generalize va_A pl s.heap.size = A at hD hE hAm
  have hA : ∀ q : Nat, s.heap.size ≤ q → A q := fun q h => hAm q h
  have hS : va_S (xN s.heap.size) s.heap s.heap [] := va_S.rf
  have hl := lv_entry ([.ref (ad (6 + i))]) (n := 1) (Nat.le_of_ble_eq_true rfl)
  rw [lg_entry_eq]
  generalize (lg_sl ([.ref (ad (6 + i))]) ++ List.replicate (1 - (lg_sl ([.ref (ad (6 + i))])).length) Slot.unset).toArray = ls at hl ⊢
  have hl : lv_has ls 1 [(0, .ref (ad (6 + i)))] := hl
  have w_0 := hts (.fieldLink RX3 9 "NoticeStations$Station" "up" "Z") (by decide +kernel)
  have w_1 := hts (.fieldLink RX3 26 "NoticeStations$Station" "lock" "I") (by decide +kernel)
  refine lv_aload_n hx hb dX3_isFree_0 rfl (lv_at hl 0 rfl) ?_
  obtain ⟨p_1, st_2, bg_3, pn_4, lk_5, ps_6, o_7, hp_1, h_8, h_9, h_10⟩ := hO.k12 hi
  refine va_get (D := D) (ci := 4) (v := .int (up i)) (C := RX3) (T := TX3) (N := 8) hx hb hts in_X3_isFree_X3 hown hK hP p_1 hp_1 rfl 1 (by decide) w_0 (fun _ h9 => h9) rfl dX3_isFree_1 ?_
  refine lv_if_eq (tgt := 26) hx hb dX3_isFree_4 (by decide) (fun c_11 => ?_) (fun c_11 => ?_)
  · skip
    refine lv_iconst (v := 0) hx hb dX3_isFree_26 (by decide) ?_
    refine W.widen (k := 0) (n := 0) (by omega) (by omega) ?_
    exact W.zret (v := 0) hx hb hr (by decide) (fun t9 ht hW => ⟨⟨0, (), rfl, trivial, trivial⟩, hS.F ht⟩) hS.2.2 dX3_isFree_27 hlocks
  · skip
    refine lv_aload_n hx hb dX3_isFree_7 rfl (lv_at hl 0 rfl) ?_
    refine va_get (D := D) (ci := 4) (v := .int lk_5) (C := RX3) (T := TX3) (N := 8) hx hb hts in_X3_isFree_X3 hown hK hP p_1 hp_1 rfl 6 (by decide) w_1 (fun _ h9 => h9) rfl dX3_isFree_8 ?_
    refine lv_iconst (v := (-1)) hx hb dX3_isFree_11 (by decide) ?_
    refine lv_icmp_ne (tgt := 26) hx hb dX3_isFree_12 (by decide) (fun c_12 => ?_) (fun c_12 => ?_)
    · skip
      refine lv_iconst (v := 0) hx hb dX3_isFree_26 (by decide) ?_
      refine W.widen (k := 0) (n := 0) (by omega) (by omega) ?_
      exact W.zret (v := 0) hx hb hr (by decide) (fun t9 ht hW => ⟨⟨0, (), rfl, trivial, trivial⟩, hS.F ht⟩) hS.2.2 dX3_isFree_27 hlocks
    · skip
      refine lv_aload_n hx hb dX3_isFree_15 rfl (lv_at hl 0 rfl) ?_
      refine va_calli (va_runV (As := []) (rest := []) ⟨hx, hb, hml, hown, hts⟩ (c_X3_isInDoubt l hlt D tC dz s.heap.size pl t ad ed cb up rs cp hO i hi) (cwV 0 hts gX3_isFree_X3_isInDoubt rfl rfl rfl (by decide +kernel) ⟨Nat.le_of_ble_eq_true rfl, Nat.le_of_ble_eq_true rfl⟩) ⟨pB_blind, va_recv hK hP (ci := 4) (q0 := p_1) rfl hp_1, pB_at hP hD hK hN hE (hS.mono hAm) (freeA hD (hS.mono hAm) hA)⟩ rfl rfl hl.1 rfl (lv_room (Nat.le_of_ble_eq_true rfl)) dX3_isFree_16 ⟨Nat.le_of_ble_eq_true rfl, Nat.le_of_ble_eq_true rfl⟩) hS oldN (freeN hS hN0) (fun r_13 u t9 H1 locs ht hvm hw hB hz1 hk1 hS => ?_)
      have hw_14 := hw
      have hP := keepP hP hk1
      generalize H1 = H at hP hS ⊢
      refine lv_if_ne (tgt := 26) hx hb dX3_isFree_19 (by decide) (fun c_15 => ?_) (fun c_15 => ?_)
      · skip
        refine lv_iconst (v := 0) hx hb dX3_isFree_26 (by decide) ?_
        refine W.widen (k := 0) (n := 0) (by omega) (by omega) ?_
        exact W.zret (v := 0) hx hb hr (by decide) (fun t9 ht hW => ⟨⟨0, (), rfl, trivial, trivial⟩, hS.F ht⟩) hS.2.2 dX3_isFree_27 hlocks
      · skip
        refine lv_iconst (v := 1) hx hb dX3_isFree_22 (by decide) ?_
        refine lv_goto (tgt := 27) hx hb dX3_isFree_23 (by decide) ?_
        refine W.widen (k := 0) (n := 0) (by omega) (by omega) ?_
        exact W.zret (v := 1) hx hb hr (by decide) (fun t9 ht hW => ⟨⟨1, (), rfl, trivial, trivial⟩, hS.F ht⟩) hS.2.2 dX3_isFree_27 hlocks
set_option maxHeartbeats 4000000 in
set_option maxRecDepth 100000 in
theorem c_X1_isCollecting (l : Launch) (hlt : l.stackTraces = false) (D : va_G) (tC : Nat → ClassId) (dz sz : Nat) (pl : va_W) (t : Nat → Nat × Nat) (ad : Nat → Nat) (ed : Nat) (cb up : Nat → Int32) (rs cp : Nat) (hO : Ok tC dz t ad ed cb up rs cp pl) (a : Nat) (ha : (t a).1 = 4) : Met l yX1_isCollecting wsX1_isCollecting ({ frames := 0, cells := 0, slots := 0, locals := 0 }) (va_Pc [.ref a] (pB D tC dz pl sz)) (va_Qi (fun (r : Int32) (_ : Unit) => ¬ r = 0 ∨ opN t pl a) (fun (_ : Unit) _ => True) (xN sz)) 0 0 (xN sz) := by
  refine Met.ofW (cc := cX1_isCollecting) (maxL := 1) (ret := (some .boolean)) (by decide) rfl ?_
  intro p e s m args below meth c s₁ B hml hv
  obtain ⟨rfl, hsz, hP, hK, hD0, hN, hE⟩ := hv
  have hx := B.exec
  have hb := B.bytes
  have hr := B.returns
  have hts := atoms_spec (ws := wsX1_isCollecting) B.pre
  have hown : s.vm.findClass RX1 = some m.cls := findClass_of_methodNamed B.named
  have hlocks := B.notSynchronized
  subst hsz
  have hD := hD0.self (sz := s.heap.size)
  have hAm : ∀ q : Nat, xN s.heap.size q → va_A pl s.heap.size q := xN_A
  have hN0 : ∀ q : Nat, s.heap.size ≤ q → xN s.heap.size q := fun _ h => h
  have hE0 := eH_narrow hE hAm
  generalize va_A pl s.heap.size = A at hD hE hAm
  have hA : ∀ q : Nat, s.heap.size ≤ q → A q := fun q h => hAm q h
  have hS : va_S (xN s.heap.size) s.heap s.heap [] := va_S.rf
  have hl := lv_entry ([.ref a]) (n := 1) (Nat.le_of_ble_eq_true rfl)
  rw [lg_entry_eq]
  generalize (lg_sl ([.ref a]) ++ List.replicate (1 - (lg_sl ([.ref a])).length) Slot.unset).toArray = ls at hl ⊢
  have hl : lv_has ls 1 [(0, .ref a)] := hl
  have w_0 := hts (.fieldLink RX1 21 "NoticeStations$OpenWrite" "next" "LNoticeStations$Standing;") (by decide +kernel)
  refine lv_aload_n hx hb dX1_isCollecting_0 rfl (lv_at hl 0 rfl) ?_
  obtain ⟨p_1, nu_2, en_3, g_4, b_5, o_6, hp_1, h_7, h_8, h_9⟩ := hO.k4 ha
  refine va_get (D := D) (ci := 2) (v := va_rf o_6) (C := RX1) (T := TX1) (N := 5) hx hb hts in_X1_isCollecting_X1 hown hK hP p_1 hp_1 rfl 4 (by decide) w_0 (fun _ h9 => h9) rfl dX1_isCollecting_1 ?_
  rcases o_6 with _ | y_10
  · skip
    refine W.eq (g2 := F0 m 4 ls [.null]) rfl ?_
    refine lv_ifnonnullN hx hb dX1_isCollecting_4 ?_
    refine lv_iconst (v := 1) hx hb dX1_isCollecting_7 (by decide) ?_
    refine lv_goto (tgt := 12) hx hb dX1_isCollecting_8 (by decide) ?_
    refine W.widen (k := 0) (n := 0) (by omega) (by omega) ?_
    exact W.zret (v := 1) hx hb hr (by decide) (fun t9 ht hW => ⟨⟨1, (), rfl, (Or.inl (by decide)), trivial⟩, hS.F ht⟩) hS.2.2 dX1_isCollecting_12 hlocks
  · skip
    have h_11 : (t y_10).1 = 1 := h_9 _ rfl
    refine W.eq (g2 := F0 m 4 ls [.ref y_10]) rfl ?_
    refine lv_ifnonnull (tgt := 11) hx hb dX1_isCollecting_4 (by decide) ?_
    refine lv_iconst (v := 0) hx hb dX1_isCollecting_11 (by decide) ?_
    refine W.widen (k := 0) (n := 0) (by omega) (by omega) ?_
    exact W.zret (v := 0) hx hb hr (by decide) (fun t9 ht hW => ⟨⟨0, (), rfl, (Or.inr ⟨p_1, nu_2, en_3, g_4, b_5, y_10, hp_1, h_7, h_8, h_11⟩), trivial⟩, hS.F ht⟩) hS.2.2 dX1_isCollecting_12 hlocks
set_option maxHeartbeats 4000000 in
set_option maxRecDepth 100000 in
theorem c_X1_isOfGroup (l : Launch) (hlt : l.stackTraces = false) (D : va_G) (tC : Nat → ClassId) (dz sz : Nat) (pl : va_W) (t : Nat → Nat × Nat) (ad : Nat → Nat) (ed : Nat) (cb up : Nat → Int32) (rs cp : Nat) (hO : Ok tC dz t ad ed cb up rs cp pl) (a : Nat) (i : Nat) (ha : (t a).1 = 4) (hi : i < 5) : Met l yX1_isOfGroup wsX1_isOfGroup ({ frames := 0, cells := 0, slots := 0, locals := 0 }) (va_Pc [.ref a, .int (nI i)] (pB D tC dz pl sz)) (va_Qi (fun (r : Int32) (_ : Unit) => True) (fun (_ : Unit) _ => True) (xN sz)) 0 0 (xN sz) := by
  refine Met.ofW (cc := cX1_isOfGroup) (maxL := 2) (ret := (some .boolean)) (by decide) rfl ?_
  intro p e s m args below meth c s₁ B hml hv
  obtain ⟨rfl, hsz, hP, hK, hD0, hN, hE⟩ := hv
  have hx := B.exec
  have hb := B.bytes
  have hr := B.returns
  have hts := atoms_spec (ws := wsX1_isOfGroup) B.pre
  have hown : s.vm.findClass RX1 = some m.cls := findClass_of_methodNamed B.named
  have hlocks := B.notSynchronized
  subst hsz
  have hD := hD0.self (sz := s.heap.size)
  have hAm : ∀ q : Nat, xN s.heap.size q → va_A pl s.heap.size q := xN_A
  have hN0 : ∀ q : Nat, s.heap.size ≤ q → xN s.heap.size q := fun _ h => h
  have hE0 := eH_narrow hE hAm
  generalize va_A pl s.heap.size = A at hD hE hAm
  have hA : ∀ q : Nat, s.heap.size ≤ q → A q := fun q h => hAm q h
  have hS : va_S (xN s.heap.size) s.heap s.heap [] := va_S.rf
  have hl := lv_entry ([.ref a, .int (nI i)]) (n := 2) (Nat.le_of_ble_eq_true rfl)
  rw [lg_entry_eq]
  generalize (lg_sl ([.ref a, .int (nI i)]) ++ List.replicate (2 - (lg_sl ([.ref a, .int (nI i)])).length) Slot.unset).toArray = ls at hl ⊢
  have hl : lv_has ls 2 [(0, .ref a), (1, .int (nI i))] := hl
  have w_0 := hts (.fieldLink RX1 11 "NoticeStations$OpenWrite" "granted" "[LNoticeStations$Standing;") (by decide +kernel)
  refine lv_aload_n hx hb dX1_isOfGroup_0 rfl (lv_at hl 0 rfl) ?_
  obtain ⟨p_1, nu_2, en_3, g_4, b_5, o_6, hp_1, h_7, h_8, h_9⟩ := hO.k4 ha
  refine va_get (D := D) (ci := 2) (v := .ref g_4) (C := RX1) (T := TX1) (N := 5) hx hb hts in_X1_isOfGroup_X1 hown hK hP p_1 hp_1 rfl 2 (by decide) w_0 (fun _ h9 => h9) rfl dX1_isOfGroup_1 ?_
  refine lv_iload_n hx hb dX1_isOfGroup_4 rfl (lv_at hl 1 rfl) ?_
  obtain ⟨p_10, f_11, hp_10, h_12⟩ := hO.k5 h_7
  refine va_aldq hx hb hK hP p_10 2 hp_10 rfl (in5 hi) dX1_isOfGroup_5 ?_
  obtain ⟨o_13, eo_13⟩ : ∃ z9, z9 = f_11 i := ⟨_, rfl⟩
  have h_14 : isK t 1 o_13 := by rw [eo_13]; exact h_12 i hi
  rw [show f_11 (nI i).toNatClampNeg = o_13 by rw [(cl5 hi), eo_13]]
  rcases o_13 with _ | y_15
  · skip
    refine W.eq (g2 := F0 m 6 ls [.null]) rfl ?_
    refine lv_ifnullN (tgt := 13) hx hb dX1_isOfGroup_6 (by decide) ?_
    refine lv_iconst (v := 0) hx hb dX1_isOfGroup_13 (by decide) ?_
    refine W.widen (k := 0) (n := 0) (by omega) (by omega) ?_
    exact W.zret (v := 0) hx hb hr (by decide) (fun t9 ht hW => ⟨⟨0, (), rfl, trivial, trivial⟩, hS.F ht⟩) hS.2.2 dX1_isOfGroup_14 hlocks
  · skip
    have h_16 : (t y_15).1 = 1 := h_14 _ rfl
    refine W.eq (g2 := F0 m 6 ls [.ref y_15]) rfl ?_
    refine lv_ifnull hx hb dX1_isOfGroup_6 ?_
    refine lv_iconst (v := 1) hx hb dX1_isOfGroup_9 (by decide) ?_
    refine lv_goto (tgt := 14) hx hb dX1_isOfGroup_10 (by decide) ?_
    refine W.widen (k := 0) (n := 0) (by omega) (by omega) ?_
    exact W.zret (v := 1) hx hb hr (by decide) (fun t9 ht hW => ⟨⟨1, (), rfl, trivial, trivial⟩, hS.F ht⟩) hS.2.2 dX1_isOfGroup_14 hlocks
