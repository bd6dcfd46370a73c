set_option maxRecDepth 100000 in
theorem dX1_awaited_0 : decode cX1_awaited 0 = .ok (.iconst 0, 1) := by decide +kernel
set_option maxRecDepth 100000 in
theorem dX1_awaited_1 : decode cX1_awaited 1 = .ok (.istore_n 1, 1) := by decide +kernel
set_option maxRecDepth 100000 in
theorem dX1_awaited_2 : decode cX1_awaited 2 = .ok (.iconst 0, 1) := by decide +kernel
set_option maxRecDepth 100000 in
theorem dX1_awaited_3 : decode cX1_awaited 3 = .ok (.istore_n 2, 1) := by decide +kernel
set_option maxRecDepth 100000 in
theorem dX1_awaited_4 : decode cX1_awaited 4 = .ok (.iload_n 2, 1) := by decide +kernel
set_option maxRecDepth 100000 in
theorem dX1_awaited_5 : decode cX1_awaited 5 = .ok (.iconst 5, 1) := by decide +kernel
set_option maxRecDepth 100000 in
theorem dX1_awaited_6 : decode cX1_awaited 6 = .ok (.if_icmp .ge 20, 3) := by decide +kernel
set_option maxRecDepth 100000 in
theorem dX1_awaited_26 : decode cX1_awaited 26 = .ok (.iload_n 1, 1) := by decide +kernel
set_option maxRecDepth 100000 in
theorem dX1_awaited_27 : decode cX1_awaited 27 = .ok (.ireturn, 1) := by decide +kernel
set_option maxRecDepth 100000 in
theorem dX1_awaited_9 : decode cX1_awaited 9 = .ok (.aload_n 0, 1) := by decide +kernel
set_option maxRecDepth 100000 in
theorem dX1_awaited_10 : decode cX1_awaited 10 = .ok (.iload_n 2, 1) := by decide +kernel
set_option maxRecDepth 100000 in
theorem dX1_awaited_11 : decode cX1_awaited 11 = .ok (.invokevirtual 40, 3) := by decide +kernel
set_option maxRecDepth 20000 in
theorem ggX1_awaited_X1_awaits : GoodIn wsX1_awaited wsX1_awaits := goodIn_r _ [5, 6, 7, 8, 9, 10, 4, 11, 12, 13, 14, 15, 16, 17, 18, 19, 20, 21] (by decide +kernel) (by decide +kernel)
set_option maxRecDepth 20000 in
theorem gX1_awaited_X1_awaits : GoodIn wsX1_awaited (wsV RX1 40 RX1 yX1_awaits wsX1_awaits) := goodIn_app (goodIn_of _ (by decide +kernel)) ggX1_awaited_X1_awaits
set_option maxRecDepth 100000 in
theorem dX1_awaited_14 : decode cX1_awaited 14 = .ok (.ifCond .eq 6, 3) := by decide +kernel
set_option maxRecDepth 100000 in
theorem dX1_awaited_20 : decode cX1_awaited 20 = .ok (.iinc 2 1, 3) := by decide +kernel
set_option maxRecDepth 100000 in
theorem dX1_awaited_23 : decode cX1_awaited 23 = .ok (.goto (-19), 3) := by decide +kernel
set_option maxRecDepth 100000 in
theorem dX1_awaited_17 : decode cX1_awaited 17 = .ok (.iinc 1 1, 3) := by decide +kernel
set_option maxRecDepth 100000 in
theorem dX1_groupSize_0 : decode cX1_groupSize 0 = .ok (.iconst 0, 1) := by decide +kernel
set_option maxRecDepth 100000 in
theorem dX1_groupSize_1 : decode cX1_groupSize 1 = .ok (.istore_n 1, 1) := by decide +kernel
set_option maxRecDepth 100000 in
theorem dX1_groupSize_2 : decode cX1_groupSize 2 = .ok (.iconst 0, 1) := by decide +kernel
set_option maxRecDepth 100000 in
theorem dX1_groupSize_3 : decode cX1_groupSize 3 = .ok (.istore_n 2, 1) := by decide +kernel
set_option maxRecDepth 100000 in
theorem dX1_groupSize_4 : decode cX1_groupSize 4 = .ok (.iload_n 2, 1) := by decide +kernel
set_option maxRecDepth 100000 in
theorem dX1_groupSize_5 : decode cX1_groupSize 5 = .ok (.iconst 5, 1) := by decide +kernel
set_option maxRecDepth 100000 in
theorem dX1_groupSize_6 : decode cX1_groupSize 6 = .ok (.if_icmp .ge 20, 3) := by decide +kernel
set_option maxRecDepth 100000 in
theorem dX1_groupSize_26 : decode cX1_groupSize 26 = .ok (.iload_n 1, 1) := by decide +kernel
set_option maxRecDepth 100000 in
theorem dX1_groupSize_27 : decode cX1_groupSize 27 = .ok (.ireturn, 1) := by decide +kernel
set_option maxRecDepth 100000 in
theorem dX1_groupSize_9 : decode cX1_groupSize 9 = .ok (.aload_n 0, 1) := by decide +kernel
set_option maxRecDepth 100000 in
theorem dX1_groupSize_10 : decode cX1_groupSize 10 = .ok (.iload_n 2, 1) := by decide +kernel
set_option maxRecDepth 100000 in
theorem dX1_groupSize_11 : decode cX1_groupSize 11 = .ok (.invokevirtual 36, 3) := by decide +kernel
set_option maxRecDepth 20000 in
theorem ggX1_groupSize_X1_isOfGroup : GoodIn wsX1_groupSize wsX1_isOfGroup := goodIn_r _ [5, 6, 7, 8, 9, 10, 11] (by decide +kernel) (by decide +kernel)
set_option maxRecDepth 20000 in
theorem gX1_groupSize_X1_isOfGroup : GoodIn wsX1_groupSize (wsV RX1 36 RX1 yX1_isOfGroup wsX1_isOfGroup) := goodIn_app (goodIn_of _ (by decide +kernel)) ggX1_groupSize_X1_isOfGroup
set_option maxRecDepth 100000 in
theorem dX1_groupSize_14 : decode cX1_groupSize 14 = .ok (.ifCond .eq 6, 3) := by decide +kernel
set_option maxRecDepth 100000 in
theorem dX1_groupSize_20 : decode cX1_groupSize 20 = .ok (.iinc 2 1, 3) := by decide +kernel
set_option maxRecDepth 100000 in
theorem dX1_groupSize_23 : decode cX1_groupSize 23 = .ok (.goto (-19), 3) := by decide +kernel
set_option maxRecDepth 100000 in
theorem dX1_groupSize_17 : decode cX1_groupSize 17 = .ok (.iinc 1 1, 3) := by decide +kernel
set_option maxRecDepth 100000 in
theorem dX1_leastOfGroup_0 : decode cX1_leastOfGroup 0 = .ok (.iconst 0, 1) := by decide +kernel
set_option maxRecDepth 100000 in
theorem dX1_leastOfGroup_1 : decode cX1_leastOfGroup 1 = .ok (.istore_n 1, 1) := by decide +kernel
set_option maxRecDepth 100000 in
theorem dX1_leastOfGroup_2 : decode cX1_leastOfGroup 2 = .ok (.iload_n 1, 1) := by decide +kernel
set_option maxRecDepth 100000 in
theorem dX1_leastOfGroup_3 : decode cX1_leastOfGroup 3 = .ok (.iconst 5, 1) := by decide +kernel
set_option maxRecDepth 100000 in
theorem dX1_leastOfGroup_4 : decode cX1_leastOfGroup 4 = .ok (.if_icmp .ge 19, 3) := by decide +kernel
set_option maxRecDepth 100000 in
theorem dX1_leastOfGroup_23 : decode cX1_leastOfGroup 23 = .ok (.iconst (-1), 1) := by decide +kernel
set_option maxRecDepth 100000 in
theorem dX1_leastOfGroup_24 : decode cX1_leastOfGroup 24 = .ok (.ireturn, 1) := by decide +kernel
set_option maxRecDepth 100000 in
theorem dX1_leastOfGroup_7 : decode cX1_leastOfGroup 7 = .ok (.aload_n 0, 1) := by decide +kernel
set_option maxRecDepth 100000 in
theorem dX1_leastOfGroup_8 : decode cX1_leastOfGroup 8 = .ok (.iload_n 1, 1) := by decide +kernel
set_option maxRecDepth 100000 in
theorem dX1_leastOfGroup_9 : decode cX1_leastOfGroup 9 = .ok (.invokevirtual 36, 3) := by decide +kernel
set_option maxRecDepth 20000 in
theorem ggX1_leastOfGroup_X1_isOfGroup : GoodIn wsX1_leastOfGroup wsX1_isOfGroup := goodIn_r _ [5, 6, 7, 8, 9, 10, 11] (by decide +kernel) (by decide +kernel)
set_option maxRecDepth 20000 in
theorem gX1_leastOfGroup_X1_isOfGroup : GoodIn wsX1_leastOfGroup (wsV RX1 36 RX1 yX1_isOfGroup wsX1_isOfGroup) := goodIn_app (goodIn_of _ (by decide +kernel)) ggX1_leastOfGroup_X1_isOfGroup
set_option maxRecDepth 100000 in
theorem dX1_leastOfGroup_12 : decode cX1_leastOfGroup 12 = .ok (.ifCond .eq 5, 3) := by decide +kernel
set_option maxRecDepth 100000 in
theorem dX1_leastOfGroup_17 : decode cX1_leastOfGroup 17 = .ok (.iinc 1 1, 3) := by decide +kernel
set_option maxRecDepth 100000 in
theorem dX1_leastOfGroup_20 : decode cX1_leastOfGroup 20 = .ok (.goto (-18), 3) := by decide +kernel
set_option maxRecDepth 100000 in
theorem dX1_leastOfGroup_15 : decode cX1_leastOfGroup 15 = .ok (.iload_n 1, 1) := by decide +kernel
set_option maxRecDepth 100000 in
theorem dX1_leastOfGroup_16 : decode cX1_leastOfGroup 16 = .ok (.ireturn, 1) := by decide +kernel
set_option maxHeartbeats 4000000 in
set_option maxRecDepth 100000 in
theorem c_X1_awaited (l : Launch) (hlt : l.stackTraces = false) (D : va_G) (tC : Nat → ClassId) (dz sz : Nat) (pl : va_W) (t : Nat → Nat × Nat) (ad : Nat → Nat) (ed : Nat) (cb up : Nat → Int32) (rs cp : Nat) (hO : Ok tC dz t ad ed cb up rs cp pl) (a : Nat) (ha : (t a).1 = 4) : Met l yX1_awaited wsX1_awaited ({ frames := 2, cells := 0, slots := 0, locals := 42 }) (va_Pc [.ref a] (pB D tC dz pl sz)) (va_Qi (fun (r : Int32) (_ : Unit) => True) (fun (_ : Unit) _ => True) (xN sz)) 0 0 (xN sz) := by
  refine Met.ofW (cc := cX1_awaited) (maxL := 3) (ret := (some .int)) (by decide) rfl ?_
  intro p e s m args below meth c s₁ B hml hv
  obtain ⟨rfl, hsz, hP, hK, hD0, hN, hE⟩ := hv
  have hx := B.exec
  have hb := B.bytes
  have hr := B.returns
  have hts := atoms_spec (ws := wsX1_awaited) B.pre
  have hown : s.vm.findClass RX1 = some m.cls := findClass_of_methodNamed B.named
  have hlocks := B.notSynchronized
  subst hsz
  have hD := hD0.self (sz := s.heap.size)
  have hAm : ∀ q : Nat, xN s.heap.size q → va_A pl s.heap.size q := xN_A
  have hN0 : ∀ q : Nat, s.heap.size ≤ q → xN s.heap.size q := fun _ h => h
  have hE0 := eH_narrow hE hAm
  generalize va_A pl s.heap.size = A at hD hE hAm
  have hA : ∀ q : Nat, s.heap.size ≤ q → A q := fun q h => hAm q h
  have hS : va_S (xN s.heap.size) s.heap s.heap [] := va_S.rf
  have hl := lv_entry ([.ref a]) (n := 3) (Nat.le_of_ble_eq_true rfl)
  rw [lg_entry_eq]
  generalize (lg_sl ([.ref a]) ++ List.replicate (3 - (lg_sl ([.ref a])).length) Slot.unset).toArray = ls at hl ⊢
  have hl : lv_has ls 3 [(0, .ref a)] := hl
  refine lv_iconst (v := 0) hx hb dX1_awaited_0 (by decide) ?_
  refine lv_istore_n (lv' := [(1, .int 0), (0, .ref a)]) hx hb dX1_awaited_1 rfl hl (by decide) rfl (fun ls hl => ?_)
  refine lv_iconst (v := 0) hx hb dX1_awaited_2 (by decide) ?_
  refine lv_istore_n (lv' := [(2, .int 0), (1, .int 0), (0, .ref a)]) hx hb dX1_awaited_3 rfl hl (by decide) rfl (fun ls hl => ?_)
  refine lp (S := Int32 × Unit) 5 0 (fun i u => True) (fun i u => [(2, .int (nI i)), (1, .int u.1), (0, .ref a)]) (u0 := (0, ())) (fun u H locs ls hI hP hS hl => ?_) (fun i_1 u H locs ls hi_1 hI hP hS hl ih_4 => ?_) (by omega) trivial hP hS (lv_sub hl [0, 1, 2] rfl)
  · skip
    obtain ⟨u_2, _⟩ := u
    have hI_3 := hI
    have hl : lv_has ls 3 [(2, .int 5), (1, .int u_2), (0, .ref a)] := hl
    refine lv_iload_n hx hb dX1_awaited_4 rfl (lv_at hl 0 rfl) ?_
    refine lv_iconst (v := 5) hx hb dX1_awaited_5 (by decide) ?_
    refine lv_icmp_ge (tgt := 26) hx hb dX1_awaited_6 (by decide) (fun _ => ?_) (fun hc => absurd (by decide) hc)
    refine lv_iload_n hx hb dX1_awaited_26 rfl (lv_at hl 1 rfl) ?_
    refine W.widen (k := 0) (n := 0) (by omega) (by omega) ?_
    exact W.iret (v := u_2) hx hb hr (fun t9 ht hW => ⟨⟨u_2, (), rfl, trivial, trivial⟩, hS.F ht⟩) hS.2.2 dX1_awaited_27 hlocks
  · skip
    obtain ⟨u_4, _⟩ := u
    have hI_5 := hI
    have hl : lv_has ls 3 [(2, .int (nI i_1)), (1, .int u_4), (0, .ref a)] := hl
    refine lv_iload_n hx hb dX1_awaited_4 rfl (lv_at hl 0 rfl) ?_
    refine lv_iconst (v := 5) hx hb dX1_awaited_5 (by decide) ?_
    refine lv_icmp_ge (tgt := 26) hx hb dX1_awaited_6 (by decide) (fun hc => absurd hc ((show ¬ nI 5 ≤ nI i_1 from nI_ge hi_1 (by omega)))) (fun _ => ?_)
    refine lv_aload_n hx hb dX1_awaited_9 rfl (lv_at hl 2 rfl) ?_
    refine lv_iload_n hx hb dX1_awaited_10 rfl (lv_at hl 0 rfl) ?_
    obtain ⟨p_6, nu_7, en_8, g_9, b_10, o_11, hp_6, h_12, h_13, h_14⟩ := hO.k4 ha
    refine va_calli (va_runV (As := [.int (nI i_1)]) (rest := []) ⟨hx, hb, hml, hown, hts⟩ (c_X1_awaits l hlt D tC dz H.size pl t ad ed cb up rs cp hO a i_1 ha hi_1) (cwV 1 hts gX1_awaited_X1_awaits rfl rfl rfl (by decide +kernel) ⟨Nat.le_of_ble_eq_true rfl, Nat.le_of_ble_eq_true rfl⟩) ⟨pB_blind, va_recv hK hP (ci := 2) (q0 := p_6) rfl hp_6, pB_at hP hD hK hN hE (hS.mono hAm) (freeA hD (hS.mono hAm) hA)⟩ rfl rfl hl.1 rfl (lv_room (Nat.le_of_ble_eq_true rfl)) dX1_awaited_11 ⟨Nat.le_of_ble_eq_true rfl, Nat.le_of_ble_eq_true rfl⟩) hS oldN (freeN hS hN0) (fun r_15 u t9 H1 locs ht hvm hw hB hz1 hk1 hS => ?_)
    have hw_16 := hw
    have hP := keepP hP hk1
    generalize H1 = H at hP hS ⊢
    refine lv_if_eq (tgt := 20) hx hb dX1_awaited_14 (by decide) (fun c_17 => ?_) (fun c_17 => ?_)
    · skip
      refine lv_iinc (v := (nI (i_1 + 1))) (lv' := [(2, .int (nI (i_1 + 1))), (1, .int u_4), (0, .ref a)]) hx hb dX1_awaited_20 hl (k := 0) rfl (by first | exact nI_1 _ | exact (nI_1 _).symm) (by decide) rfl (fun ls hl => ?_)
      refine lv_goto (tgt := 4) hx hb dX1_awaited_23 (by decide) ?_
      exact ih_4 (u_4, ()) H locs ls trivial hP hS (lv_sub hl [0, 1, 2] rfl)
    · skip
      obtain ⟨z_18, ez_18⟩ : ∃ y : Int32, y = u_4 + 1 := ⟨_, rfl⟩
      refine lv_iinc (v := z_18) (lv' := [(1, .int z_18), (2, .int (nI i_1)), (0, .ref a)]) hx hb dX1_awaited_17 hl (k := 1) rfl (by rw [ez_18]; rfl) (by decide) rfl (fun ls hl => ?_)
      refine lv_iinc (v := (nI (i_1 + 1))) (lv' := [(2, .int (nI (i_1 + 1))), (1, .int z_18), (0, .ref a)]) hx hb dX1_awaited_20 hl (k := 1) rfl (by first | exact nI_1 _ | exact (nI_1 _).symm) (by decide) rfl (fun ls hl => ?_)
      refine lv_goto (tgt := 4) hx hb dX1_awaited_23 (by decide) ?_
      exact ih_4 (z_18, ()) H locs ls trivial hP hS (lv_sub hl [0, 1, 2] rfl)
set_option maxHeartbeats 4000000 in
set_option maxRecDepth 100000 in
theorem c_X1_groupSize (l : Launch) (hlt : l.stackTraces = false) (D : va_G) (tC : Nat → ClassId) (dz sz : Nat) (pl : va_W) (t : Nat → Nat × Nat) (ad : Nat → Nat) (ed : Nat) (cb up : Nat → Int32) (rs cp : Nat) (hO : Ok tC dz t ad ed cb up rs cp pl) (a : Nat) (ha : (t a).1 = 4) : Met l yX1_groupSize wsX1_groupSize ({ frames := 1, cells := 0, slots := 0, locals := 21 }) (va_Pc [.ref a] (pB D tC dz pl sz)) (va_Qi (fun (r : Int32) (_ : Unit) => True) (fun (_ : Unit) _ => True) (xN sz)) 0 0 (xN sz) := by
  refine Met.ofW (cc := cX1_groupSize) (maxL := 3) (ret := (some .int)) (by decide) rfl ?_
  intro p e s m args below meth c s₁ B hml hv
  obtain ⟨rfl, hsz, hP, hK, hD0, hN, hE⟩ := hv
  have hx := B.exec
  have hb := B.bytes
  have hr := B.returns
  have hts := atoms_spec (ws := wsX1_groupSize) B.pre
  have hown : s.vm.findClass RX1 = some m.cls := findClass_of_methodNamed B.named
  have hlocks := B.notSynchronized
  subst hsz
  have hD := hD0.self (sz := s.heap.size)
  have hAm : ∀ q : Nat, xN s.heap.size q → va_A pl s.heap.size q := xN_A
  have hN0 : ∀ q : Nat, s.heap.size ≤ q → xN s.heap.size q := fun _ h => h
  have hE0 := eH_narrow hE hAm
  generalize va_A pl s.heap.size = A at hD hE hAm
  have hA : ∀ q : Nat, s.heap.size ≤ q → A q := fun q h => hAm q h
  have hS : va_S (xN s.heap.size) s.heap s.heap [] := va_S.rf
  have hl := lv_entry ([.ref a]) (n := 3) (Nat.le_of_ble_eq_true rfl)
  rw [lg_entry_eq]
  generalize (lg_sl ([.ref a]) ++ List.replicate (3 - (lg_sl ([.ref a])).length) Slot.unset).toArray = ls at hl ⊢
  have hl : lv_has ls 3 [(0, .ref a)] := hl
  refine lv_iconst (v := 0) hx hb dX1_groupSize_0 (by decide) ?_
  refine lv_istore_n (lv' := [(1, .int 0), (0, .ref a)]) hx hb dX1_groupSize_1 rfl hl (by decide) rfl (fun ls hl => ?_)
  refine lv_iconst (v := 0) hx hb dX1_groupSize_2 (by decide) ?_
  refine lv_istore_n (lv' := [(2, .int 0), (1, .int 0), (0, .ref a)]) hx hb dX1_groupSize_3 rfl hl (by decide) rfl (fun ls hl => ?_)
  refine lp (S := Int32 × Unit) 5 0 (fun i u => True) (fun i u => [(2, .int (nI i)), (1, .int u.1), (0, .ref a)]) (u0 := (0, ())) (fun u H locs ls hI hP hS hl => ?_) (fun i_1 u H locs ls hi_1 hI hP hS hl ih_4 => ?_) (by omega) trivial hP hS (lv_sub hl [0, 1, 2] rfl)
  · skip
    obtain ⟨u_2, _⟩ := u
    have hI_3 := hI
    have hl : lv_has ls 3 [(2, .int 5), (1, .int u_2), (0, .ref a)] := hl
    refine lv_iload_n hx hb dX1_groupSize_4 rfl (lv_at hl 0 rfl) ?_
    refine lv_iconst (v := 5) hx hb dX1_groupSize_5 (by decide) ?_
    refine lv_icmp_ge (tgt := 26) hx hb dX1_groupSize_6 (by decide) (fun _ => ?_) (fun hc => absurd (by decide) hc)
    refine lv_iload_n hx hb dX1_groupSize_26 rfl (lv_at hl 1 rfl) ?_
    refine W.widen (k := 0) (n := 0) (by omega) (by omega) ?_
    exact W.iret (v := u_2) hx hb hr (fun t9 ht hW => ⟨⟨u_2, (), rfl, trivial, trivial⟩, hS.F ht⟩) hS.2.2 dX1_groupSize_27 hlocks
  · skip
    obtain ⟨u_4, _⟩ := u
    have hI_5 := hI
    have hl : lv_has ls 3 [(2, .int (nI i_1)), (1, .int u_4), (0, .ref a)] := hl
    refine lv_iload_n hx hb dX1_groupSize_4 rfl (lv_at hl 0 rfl) ?_
    refine lv_iconst (v := 5) hx hb dX1_groupSize_5 (by decide) ?_
    refine lv_icmp_ge (tgt := 26) hx hb dX1_groupSize_6 (by decide) (fun hc => absurd hc ((show ¬ nI 5 ≤ nI i_1 from nI_ge hi_1 (by omega)))) (fun _ => ?_)
    refine lv_aload_n hx hb dX1_groupSize_9 rfl (lv_at hl 2 rfl) ?_
    refine lv_iload_n hx hb dX1_groupSize_10 rfl (lv_at hl 0 rfl) ?_
    obtain ⟨p_6, nu_7, en_8, g_9, b_10, o_11, hp_6, h_12, h_13, h_14⟩ := hO.k4 ha
    refine va_calli (va_runV (As := [.int (nI i_1)]) (rest := []) ⟨hx, hb, hml, hown, hts⟩ (c_X1_isOfGroup l hlt D tC dz H.size pl t ad ed cb up rs cp hO a i_1 ha hi_1) (cwV 1 hts gX1_groupSize_X1_isOfGroup rfl rfl rfl (by decide +kernel) ⟨Nat.le_of_ble_eq_true rfl, Nat.le_of_ble_eq_true rfl⟩) ⟨pB_blind, va_recv hK hP (ci := 2) (q0 := p_6) rfl hp_6, pB_at hP hD hK hN hE (hS.mono hAm) (freeA hD (hS.mono hAm) hA)⟩ rfl rfl hl.1 rfl (lv_room (Nat.le_of_ble_eq_true rfl)) dX1_groupSize_11 ⟨Nat.le_of_ble_eq_true rfl, Nat.le_of_ble_eq_true rfl⟩) hS oldN (freeN hS hN0) (fun r_15 u t9 H1 locs ht hvm hw hB hz1 hk1 hS => ?_)
    have hw_16 := hw
    have hP := keepP hP hk1
    generalize H1 = H at hP hS ⊢
    refine lv_if_eq (tgt := 20) hx hb dX1_groupSize_14 (by decide) (fun c_17 => ?_) (fun c_17 => ?_)
    · skip
      refine lv_iinc (v := (nI (i_1 + 1))) (lv' := [(2, .int (nI (i_1 + 1))), (1, .int u_4), (0, .ref a)]) hx hb dX1_groupSize_20 hl (k := 0) rfl (by first | exact nI_1 _ | exact (nI_1 _).symm) (by decide) rfl (fun ls hl => ?_)
      refine lv_goto (tgt := 4) hx hb dX1_groupSize_23 (by decide) ?_
      exact ih_4 (u_4, ()) H locs ls trivial hP hS (lv_sub hl [0, 1, 2] rfl)
    · skip
      obtain ⟨z_18, ez_18⟩ : ∃ y : Int32, y = u_4 + 1 := ⟨_, rfl⟩
      refine lv_iinc (v := z_18) (lv' := [(1, .int z_18), (2, .int (nI i_1)), (0, .ref a)]) hx hb dX1_groupSize_17 hl (k := 1) rfl (by rw [ez_18]; rfl) (by decide) rfl (fun ls hl => ?_)
      refine lv_iinc (v := (nI (i_1 + 1))) (lv' := [(2, .int (nI (i_1 + 1))), (1, .int z_18), (0, .ref a)]) hx hb dX1_groupSize_20 hl (k := 1) rfl (by first | exact nI_1 _ | exact (nI_1 _).symm) (by decide) rfl (fun ls hl => ?_)
      refine lv_goto (tgt := 4) hx hb dX1_groupSize_23 (by decide) ?_
      exact ih_4 (z_18, ()) H locs ls trivial hP hS (lv_sub hl [0, 1, 2] rfl)
set_option maxHeartbeats 4000000 in
set_option maxRecDepth 100000 in
theorem c_X1_leastOfGroup (l : Launch) (hlt : l.stackTraces = false) (D : va_G) (tC : Nat → ClassId) (dz sz : Nat) (pl : va_W) (t : Nat → Nat × Nat) (ad : Nat → Nat) (ed : Nat) (cb up : Nat → Int32) (rs cp : Nat) (hO : Ok tC dz t ad ed cb up rs cp pl) (a : Nat) (ha : (t a).1 = 4) : Met l yX1_leastOfGroup wsX1_leastOfGroup ({ frames := 1, cells := 0, slots := 0, locals := 21 }) (va_Pc [.ref a] (pB D tC dz pl sz)) (va_Qi (fun (r : Int32) (_ : Unit) => True) (fun (_ : Unit) _ => True) (xN sz)) 0 0 (xN sz) := by
  refine Met.ofW (cc := cX1_leastOfGroup) (maxL := 2) (ret := (some .int)) (by decide) rfl ?_
  intro p e s m args below meth c s₁ B hml hv
  obtain ⟨rfl, hsz, hP, hK, hD0, hN, hE⟩ := hv
  have hx := B.exec
  have hb := B.bytes
  have hr := B.returns
  have hts := atoms_spec (ws := wsX1_leastOfGroup) B.pre
  have hown : s.vm.findClass RX1 = some m.cls := findClass_of_methodNamed B.named
  have hlocks := B.notSynchronized
  subst hsz
  have hD := hD0.self (sz := s.heap.size)
  have hAm : ∀ q : Nat, xN s.heap.size q → va_A pl s.heap.size q := xN_A
  have hN0 : ∀ q : Nat, s.heap.size ≤ q → xN s.heap.size q := fun _ h => h
  have hE0 := eH_narrow hE hAm
  generalize va_A pl s.heap.size = A at hD hE hAm
  have hA : ∀ q : Nat, s.heap.size ≤ q → A q := fun q h => hAm q h
  have hS : va_S (xN s.heap.size) s.heap s.heap [] := va_S.rf
  have hl := lv_entry ([.ref a]) (n := 2) (Nat.le_of_ble_eq_true rfl)
  rw [lg_entry_eq]
  generalize (lg_sl ([.ref a]) ++ List.replicate (2 - (lg_sl ([.ref a])).length) Slot.unset).toArray = ls at hl ⊢
  have hl : lv_has ls 2 [(0, .ref a)] := hl
  refine lv_iconst (v := 0) hx hb dX1_leastOfGroup_0 (by decide) ?_
  refine lv_istore_n (lv' := [(1, .int 0), (0, .ref a)]) hx hb dX1_leastOfGroup_1 rfl hl (by decide) rfl (fun ls hl => ?_)
  refine lp (S := Unit) 5 0 (fun i u => True) (fun i u => [(1, .int (nI i)), (0, .ref a)]) (u0 := (())) (fun u H locs ls hI hP hS hl => ?_) (fun i_1 u H locs ls hi_1 hI hP hS hl ih_2 => ?_) (by omega) trivial hP hS (lv_sub hl [0, 1] rfl)
  · skip
    obtain ⟨_⟩ := u
    have hI_2 := hI
    have hl : lv_has ls 2 [(1, .int 5), (0, .ref a)] := hl
    refine lv_iload_n hx hb dX1_leastOfGroup_2 rfl (lv_at hl 0 rfl) ?_
    refine lv_iconst (v := 5) hx hb dX1_leastOfGroup_3 (by decide) ?_
    refine lv_icmp_ge (tgt := 23) hx hb dX1_leastOfGroup_4 (by decide) (fun _ => ?_) (fun hc => absurd (by decide) hc)
    refine lv_iconst (v := (-1)) hx hb dX1_leastOfGroup_23 (by decide) ?_
    refine W.widen (k := 0) (n := 0) (by omega) (by omega) ?_
    exact W.iret (v := (-1)) hx hb hr (fun t9 ht hW => ⟨⟨(-1), (), rfl, trivial, trivial⟩, hS.F ht⟩) hS.2.2 dX1_leastOfGroup_24 hlocks
  · skip
    obtain ⟨_⟩ := u
    have hI_3 := hI
    have hl : lv_has ls 2 [(1, .int (nI i_1)), (0, .ref a)] := hl
    refine lv_iload_n hx hb dX1_leastOfGroup_2 rfl (lv_at hl 0 rfl) ?_
    refine lv_iconst (v := 5) hx hb dX1_leastOfGroup_3 (by decide) ?_
    refine lv_icmp_ge (tgt := 23) hx hb dX1_leastOfGroup_4 (by decide) (fun hc => absurd hc ((show ¬ nI 5 ≤ nI i_1 from nI_ge hi_1 (by omega)))) (fun _ => ?_)
    refine lv_aload_n hx hb dX1_leastOfGroup_7 rfl (lv_at hl 1 rfl) ?_
    refine lv_iload_n hx hb dX1_leastOfGroup_8 rfl (lv_at hl 0 rfl) ?_
    obtain ⟨p_4, nu_5, en_6, g_7, b_8, o_9, hp_4, h_10, h_11, h_12⟩ := hO.k4 ha
    refine va_calli (va_runV (As := [.int (nI i_1)]) (rest := []) ⟨hx, hb, hml, hown, hts⟩ (c_X1_isOfGroup l hlt D tC dz H.size pl t ad ed cb up rs cp hO a i_1 ha hi_1) (cwV 1 hts gX1_leastOfGroup_X1_isOfGroup rfl rfl rfl (by decide +kernel) ⟨Nat.le_of_ble_eq_true rfl, Nat.le_of_ble_eq_true rfl⟩) ⟨pB_blind, va_recv hK hP (ci := 2) (q0 := p_4) rfl hp_4, pB_at hP hD hK hN hE (hS.mono hAm) (freeA hD (hS.mono hAm) hA)⟩ rfl rfl hl.1 rfl (lv_room (Nat.le_of_ble_eq_true rfl)) dX1_leastOfGroup_9 ⟨Nat.le_of_ble_eq_true rfl, Nat.le_of_ble_eq_true rfl⟩) hS oldN (freeN hS hN0) (fun r_13 u t9 H1 locs ht hvm hw hB hz1 hk1 hS => ?_)
    have hw_14 := hw
    have hP := keepP hP hk1
    generalize H1 = H at hP hS ⊢
    refine lv_if_eq (tgt := 17) hx hb dX1_leastOfGroup_12 (by decide) (fun c_15 => ?_) (fun c_15 => ?_)
    · skip
      refine lv_iinc (v := (nI (i_1 + 1))) (lv' := [(1, .int (nI (i_1 + 1))), (0, .ref a)]) hx hb dX1_leastOfGroup_17 hl (k := 0) rfl (by first | exact nI_1 _ | exact (nI_1 _).symm) (by decide) rfl (fun ls hl => ?_)
      refine lv_goto (tgt := 2) hx hb dX1_leastOfGroup_20 (by decide) ?_
      exact ih_2 (()) H locs ls trivial hP hS (lv_sub hl [0, 1] rfl)
    · skip
      refine lv_iload_n hx hb dX1_leastOfGroup_15 rfl (lv_at hl 0 rfl) ?_
      refine W.widen (k := 0) (n := 0) (by omega) (by omega) ?_
      exact W.iret (v := (nI i_1)) hx hb hr (fun t9 ht hW => ⟨⟨(nI i_1), (), rfl, trivial, trivial⟩, hS.F ht⟩) hS.2.2 dX1_leastOfGroup_16 hlocks
