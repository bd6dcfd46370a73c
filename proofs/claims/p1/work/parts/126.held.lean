set_option maxRecDepth 100000 in
theorem dX4_heldByHolders_0 : decode cX4_heldByHolders 0 = .ok (.aconst_null, 1) := by decide +kernel
set_option maxRecDepth 100000 in
theorem dX4_heldByHolders_1 : decode cX4_heldByHolders 1 = .ok (.astore_n 1, 1) := by decide +kernel
set_option maxRecDepth 100000 in
theorem dX4_heldByHolders_2 : decode cX4_heldByHolders 2 = .ok (.iconst 0, 1) := by decide +kernel
set_option maxRecDepth 100000 in
theorem dX4_heldByHolders_3 : decode cX4_heldByHolders 3 = .ok (.istore_n 2, 1) := by decide +kernel
set_option maxRecDepth 100000 in
theorem dX4_heldByHolders_4 : decode cX4_heldByHolders 4 = .ok (.iload_n 2, 1) := by decide +kernel
set_option maxRecDepth 100000 in
theorem dX4_heldByHolders_5 : decode cX4_heldByHolders 5 = .ok (.iconst 5, 1) := by decide +kernel
set_option maxRecDepth 100000 in
theorem dX4_heldByHolders_6 : decode cX4_heldByHolders 6 = .ok (.if_icmp .ge 36, 3) := by decide +kernel
set_option maxRecDepth 100000 in
theorem dX4_heldByHolders_9 : decode cX4_heldByHolders 9 = .ok (.aload_n 0, 1) := by decide +kernel
set_option maxRecDepth 100000 in
theorem dX4_heldByHolders_10 : decode cX4_heldByHolders 10 = .ok (.iload_n 2, 1) := by decide +kernel
set_option maxRecDepth 100000 in
theorem dX4_heldByHolders_11 : decode cX4_heldByHolders 11 = .ok (.aaload, 1) := by decide +kernel
set_option maxRecDepth 100000 in
theorem dX4_heldByHolders_12 : decode cX4_heldByHolders 12 = .ok (.ifnull 24, 3) := by decide +kernel
set_option maxRecDepth 100000 in
theorem dX4_heldByHolders_36 : decode cX4_heldByHolders 36 = .ok (.iinc 2 1, 3) := by decide +kernel
set_option maxRecDepth 100000 in
theorem dX4_heldByHolders_39 : decode cX4_heldByHolders 39 = .ok (.goto (-35), 3) := by decide +kernel
set_option maxRecDepth 100000 in
theorem dX4_heldByHolders_42 : decode cX4_heldByHolders 42 = .ok (.aload_n 1, 1) := by decide +kernel
set_option maxRecDepth 100000 in
theorem dX4_heldByHolders_43 : decode cX4_heldByHolders 43 = .ok (.areturn, 1) := by decide +kernel
set_option maxRecDepth 100000 in
theorem dX4_heldByHolders_15 : decode cX4_heldByHolders 15 = .ok (.aload_n 1, 1) := by decide +kernel
set_option maxRecDepth 100000 in
theorem dX4_heldByHolders_16 : decode cX4_heldByHolders 16 = .ok (.ifnull 16, 3) := by decide +kernel
set_option maxRecDepth 100000 in
theorem dX4_heldByHolders_32 : decode cX4_heldByHolders 32 = .ok (.aload_n 0, 1) := by decide +kernel
set_option maxRecDepth 100000 in
theorem dX4_heldByHolders_33 : decode cX4_heldByHolders 33 = .ok (.iload_n 2, 1) := by decide +kernel
set_option maxRecDepth 100000 in
theorem dX4_heldByHolders_34 : decode cX4_heldByHolders 34 = .ok (.aaload, 1) := by decide +kernel
set_option maxRecDepth 100000 in
theorem dX4_heldByHolders_35 : decode cX4_heldByHolders 35 = .ok (.astore_n 1, 1) := by decide +kernel
set_option maxRecDepth 100000 in
theorem dX4_heldByHolders_19 : decode cX4_heldByHolders 19 = .ok (.aload_n 0, 1) := by decide +kernel
set_option maxRecDepth 100000 in
theorem dX4_heldByHolders_20 : decode cX4_heldByHolders 20 = .ok (.iload_n 2, 1) := by decide +kernel
set_option maxRecDepth 100000 in
theorem dX4_heldByHolders_21 : decode cX4_heldByHolders 21 = .ok (.aaload, 1) := by decide +kernel
set_option maxRecDepth 100000 in
theorem dX4_heldByHolders_22 : decode cX4_heldByHolders 22 = .ok (.invokevirtual 107, 3) := by decide +kernel
set_option maxRecDepth 20000 in
theorem ggX4_heldByHolders_X2_length : GoodIn wsX4_heldByHolders wsX2_length := goodIn_r _ [4, 5, 6, 7, 8, 9] (by decide +kernel) (by decide +kernel)
set_option maxRecDepth 20000 in
theorem gX4_heldByHolders_X2_length_n107 : GoodIn wsX4_heldByHolders (wsX2_length) := ggX4_heldByHolders_X2_length
set_option maxRecDepth 100000 in
theorem dX4_heldByHolders_25 : decode cX4_heldByHolders 25 = .ok (.aload_n 1, 1) := by decide +kernel
set_option maxRecDepth 100000 in
theorem dX4_heldByHolders_26 : decode cX4_heldByHolders 26 = .ok (.invokevirtual 107, 3) := by decide +kernel
set_option maxRecDepth 100000 in
theorem dX4_heldByHolders_29 : decode cX4_heldByHolders 29 = .ok (.if_icmp .le 7, 3) := by decide +kernel
set_option maxRecDepth 100000 in
theorem dX4_mayGoOn_0 : decode cX4_mayGoOn 0 = .ok (.iconst 0, 1) := by decide +kernel
set_option maxRecDepth 100000 in
theorem dX4_mayGoOn_1 : decode cX4_mayGoOn 1 = .ok (.istore_n 2, 1) := by decide +kernel
set_option maxRecDepth 100000 in
theorem dX4_mayGoOn_2 : decode cX4_mayGoOn 2 = .ok (.iconst 0, 1) := by decide +kernel
set_option maxRecDepth 100000 in
theorem dX4_mayGoOn_3 : decode cX4_mayGoOn 3 = .ok (.istore_n 3, 1) := by decide +kernel
set_option maxRecDepth 100000 in
theorem dX4_mayGoOn_4 : decode cX4_mayGoOn 4 = .ok (.iconst 0, 1) := by decide +kernel
set_option maxRecDepth 100000 in
theorem dX4_mayGoOn_5 : decode cX4_mayGoOn 5 = .ok (.istore 4, 2) := by decide +kernel
set_option maxRecDepth 100000 in
theorem dX4_mayGoOn_7 : decode cX4_mayGoOn 7 = .ok (.iload 4, 2) := by decide +kernel
set_option maxRecDepth 100000 in
theorem dX4_mayGoOn_9 : decode cX4_mayGoOn 9 = .ok (.iconst 5, 1) := by decide +kernel
set_option maxRecDepth 100000 in
theorem dX4_mayGoOn_10 : decode cX4_mayGoOn 10 = .ok (.if_icmp .ge 52, 3) := by decide +kernel
set_option maxRecDepth 100000 in
theorem dX4_mayGoOn_13 : decode cX4_mayGoOn 13 = .ok (.aload_n 0, 1) := by decide +kernel
set_option maxRecDepth 100000 in
theorem dX4_mayGoOn_14 : decode cX4_mayGoOn 14 = .ok (.iload 4, 2) := by decide +kernel
set_option maxRecDepth 100000 in
theorem dX4_mayGoOn_16 : decode cX4_mayGoOn 16 = .ok (.aaload, 1) := by decide +kernel
set_option maxRecDepth 100000 in
theorem dX4_mayGoOn_17 : decode cX4_mayGoOn 17 = .ok (.ifnull 39, 3) := by decide +kernel
set_option maxRecDepth 100000 in
theorem dX4_mayGoOn_56 : decode cX4_mayGoOn 56 = .ok (.iinc 4 1, 3) := by decide +kernel
set_option maxRecDepth 100000 in
theorem dX4_mayGoOn_59 : decode cX4_mayGoOn 59 = .ok (.goto (-52), 3) := by decide +kernel
set_option maxRecDepth 100000 in
theorem dX4_mayGoOn_62 : decode cX4_mayGoOn 62 = .ok (.iconst 2, 1) := by decide +kernel
set_option maxRecDepth 100000 in
theorem dX4_mayGoOn_63 : decode cX4_mayGoOn 63 = .ok (.iload_n 2, 1) := by decide +kernel
set_option maxRecDepth 100000 in
theorem dX4_mayGoOn_64 : decode cX4_mayGoOn 64 = .ok (.imul, 1) := by decide +kernel
set_option maxRecDepth 100000 in
theorem dX4_mayGoOn_65 : decode cX4_mayGoOn 65 = .ok (.aload_n 1, 1) := by decide +kernel
set_option maxRecDepth 100000 in
theorem dX4_mayGoOn_66 : decode cX4_mayGoOn 66 = .ok (.getfield 228, 3) := by decide +kernel
set_option maxRecDepth 100000 in
theorem in_X4_mayGoOn_X2 : ∀ w ∈ wsX20, w ∈ wsX4_mayGoOn := fun _ h => List.mem_cons_of_mem _ (List.mem_append_right _ h)
set_option maxRecDepth 100000 in
theorem dX4_mayGoOn_69 : decode cX4_mayGoOn 69 = .ok (.if_icmp .gt 17, 3) := by decide +kernel
set_option maxRecDepth 100000 in
theorem dX4_mayGoOn_72 : decode cX4_mayGoOn 72 = .ok (.iconst 2, 1) := by decide +kernel
set_option maxRecDepth 100000 in
theorem dX4_mayGoOn_73 : decode cX4_mayGoOn 73 = .ok (.iload_n 2, 1) := by decide +kernel
set_option maxRecDepth 100000 in
theorem dX4_mayGoOn_74 : decode cX4_mayGoOn 74 = .ok (.imul, 1) := by decide +kernel
set_option maxRecDepth 100000 in
theorem dX4_mayGoOn_75 : decode cX4_mayGoOn 75 = .ok (.aload_n 1, 1) := by decide +kernel
set_option maxRecDepth 100000 in
theorem dX4_mayGoOn_76 : decode cX4_mayGoOn 76 = .ok (.getfield 228, 3) := by decide +kernel
set_option maxRecDepth 100000 in
theorem dX4_mayGoOn_79 : decode cX4_mayGoOn 79 = .ok (.if_icmp .ne 11, 3) := by decide +kernel
set_option maxRecDepth 100000 in
theorem dX4_mayGoOn_90 : decode cX4_mayGoOn 90 = .ok (.iconst 0, 1) := by decide +kernel
set_option maxRecDepth 100000 in
theorem dX4_mayGoOn_91 : decode cX4_mayGoOn 91 = .ok (.ireturn, 1) := by decide +kernel
set_option maxRecDepth 100000 in
theorem dX4_mayGoOn_20 : decode cX4_mayGoOn 20 = .ok (.aload_n 0, 1) := by decide +kernel
set_option maxRecDepth 100000 in
theorem dX4_mayGoOn_21 : decode cX4_mayGoOn 21 = .ok (.iload 4, 2) := by decide +kernel
set_option maxRecDepth 100000 in
theorem dX4_mayGoOn_23 : decode cX4_mayGoOn 23 = .ok (.aaload, 1) := by decide +kernel
set_option maxRecDepth 100000 in
theorem dX4_mayGoOn_24 : decode cX4_mayGoOn 24 = .ok (.invokevirtual 107, 3) := by decide +kernel
set_option maxRecDepth 20000 in
theorem ggX4_mayGoOn_X2_length : GoodIn wsX4_mayGoOn wsX2_length := goodIn_r _ [4, 5, 6, 7, 8, 9] (by decide +kernel) (by decide +kernel)
set_option maxRecDepth 20000 in
theorem gX4_mayGoOn_X2_length_n107 : GoodIn wsX4_mayGoOn (wsX2_length) := ggX4_mayGoOn_X2_length
set_option maxRecDepth 100000 in
theorem dX4_mayGoOn_27 : decode cX4_mayGoOn 27 = .ok (.aload_n 1, 1) := by decide +kernel
set_option maxRecDepth 100000 in
theorem dX4_mayGoOn_28 : decode cX4_mayGoOn 28 = .ok (.invokevirtual 107, 3) := by decide +kernel
set_option maxRecDepth 100000 in
theorem dX4_mayGoOn_31 : decode cX4_mayGoOn 31 = .ok (.if_icmp .ne 25, 3) := by decide +kernel
set_option maxRecDepth 100000 in
theorem dX4_mayGoOn_34 : decode cX4_mayGoOn 34 = .ok (.iinc 2 1, 3) := by decide +kernel
set_option maxRecDepth 100000 in
theorem dX4_mayGoOn_37 : decode cX4_mayGoOn 37 = .ok (.iload_n 3, 1) := by decide +kernel
set_option maxRecDepth 100000 in
theorem dX4_mayGoOn_38 : decode cX4_mayGoOn 38 = .ok (.ifCond .ne 12, 3) := by decide +kernel
set_option maxRecDepth 100000 in
theorem dX4_mayGoOn_41 : decode cX4_mayGoOn 41 = .ok (.iload 4, 2) := by decide +kernel
set_option maxRecDepth 100000 in
theorem dX4_mayGoOn_43 : decode cX4_mayGoOn 43 = .ok (.aload_n 1, 1) := by decide +kernel
set_option maxRecDepth 100000 in
theorem dX4_mayGoOn_44 : decode cX4_mayGoOn 44 = .ok (.getfield 230, 3) := by decide +kernel
set_option maxRecDepth 100000 in
theorem dX4_mayGoOn_47 : decode cX4_mayGoOn 47 = .ok (.if_icmp .ne 7, 3) := by decide +kernel
set_option maxRecDepth 100000 in
theorem dX4_mayGoOn_54 : decode cX4_mayGoOn 54 = .ok (.iconst 0, 1) := by decide +kernel
set_option maxRecDepth 100000 in
theorem dX4_mayGoOn_55 : decode cX4_mayGoOn 55 = .ok (.istore_n 3, 1) := by decide +kernel
set_option maxRecDepth 100000 in
theorem dX4_mayGoOn_86 : decode cX4_mayGoOn 86 = .ok (.iconst 1, 1) := by decide +kernel
set_option maxRecDepth 100000 in
theorem dX4_mayGoOn_87 : decode cX4_mayGoOn 87 = .ok (.goto 4, 3) := by decide +kernel
set_option maxRecDepth 100000 in
theorem dX4_mayGoOn_50 : decode cX4_mayGoOn 50 = .ok (.iconst 1, 1) := by decide +kernel
set_option maxRecDepth 100000 in
theorem dX4_mayGoOn_51 : decode cX4_mayGoOn 51 = .ok (.goto 4, 3) := by decide +kernel
set_option maxHeartbeats 4000000 in
set_option maxRecDepth 100000 in
theorem c_X4_heldByHolders (l : Launch) (hlt : l.stackTraces = false) (D : va_G) (tC : Nat → ClassId) (dz sz : Nat) (a4 : Nat) (gf : Nat → Option Nat) (bt : Nat → Bool) (f : Nat) (e1 : Nat) (e2 : Nat) (z1 : Nat → Int32) (hg : ∀ j : Nat, j < 5 → gf j = if bt j then some f else none) : Met l yX4_heldByHolders wsX4_heldByHolders ({ frames := 1, cells := 0, slots := 0, locals := 20 }) (va_Pc [.ref a4] (pB D tC dz [(a4, wS tC 5 gf), (f, .inr (3, [.ref e1, .ref e2, .int 5, .int 0])), (e1, wI tC 0 z1)] sz)) (va_Qq (fun (r : Option Nat) (_ : Unit) => r = if (bt 0 || bt 1 || bt 2 || bt 3 || bt 4) then some f else none) (fun (_ : Unit) t => pA D tC (va_A [(a4, wS tC 5 gf), (f, .inr (3, [.ref e1, .ref e2, .int 5, .int 0])), (e1, wI tC 0 z1)] sz) [(a4, wS tC 5 gf), (f, .inr (3, [.ref e1, .ref e2, .int 5, .int 0])), (e1, wI tC 0 z1)] t) (va_A [(a4, wS tC 5 gf), (f, .inr (3, [.ref e1, .ref e2, .int 5, .int 0])), (e1, wI tC 0 z1)] sz)) 0 0 (va_A [(a4, wS tC 5 gf), (f, .inr (3, [.ref e1, .ref e2, .int 5, .int 0])), (e1, wI tC 0 z1)] sz) := by
  refine Met.ofW (cc := cX4_heldByHolders) (maxL := 3) (ret := (some (.object "NoticeStations$Standing"))) (by decide) rfl ?_
  intro p e s m args below meth c s₁ B hml hv
  obtain ⟨rfl, hsz, hP, hK, hD0, hN, hE⟩ := hv
  have hx := B.exec
  have hb := B.bytes
  have hr := B.returns
  have hts := atoms_spec (ws := wsX4_heldByHolders) B.pre
  have hown : s.vm.findClass RX4 = some m.cls := findClass_of_methodNamed B.named
  have hlocks := B.notSynchronized
  subst hsz
  have hD := hD0.self (sz := s.heap.size)
  generalize hAe : va_A [(a4, wS tC 5 gf), (f, .inr (3, [.ref e1, .ref e2, .int 5, .int 0])), (e1, wI tC 0 z1)] s.heap.size = A at hD hE ⊢
  have hA : ∀ q : Nat, s.heap.size ≤ q → A q := fun q h => by rw [← hAe]; exact Or.inr h
  have hS : va_S A s.heap s.heap [] := va_S.rf
  have hP : va_P D vwCl [(a4, wS tC 5 gf), (f, .inr (3, [.ref e1, .ref e2, .int 5, .int 0])), (e1, wI tC 0 z1)] s.heap := hP
  have hl := lv_entry ([.ref a4]) (n := 3) (Nat.le_of_ble_eq_true rfl)
  rw [lg_entry_eq]
  generalize (lg_sl ([.ref a4]) ++ List.replicate (3 - (lg_sl ([.ref a4])).length) Slot.unset).toArray = ls at hl ⊢
  have hl : lv_has ls 3 [(0, .ref a4)] := hl
  have w_0 := hts (.initialized RX2) (by decide +kernel)
  have w_1 := hts (.instanceMethod yX2_length) (by decide +kernel)
  have w_2 := hts (.selects RX2 yX2_length yX2_length) (by decide +kernel)
  refine lv_null hx hb dX4_heldByHolders_0 ?_
  refine lv_astore_nN (lv' := [(1, .null), (0, .ref a4)]) hx hb dX4_heldByHolders_1 rfl hl (by decide) rfl (fun ls hl => ?_)
  refine lv_iconst (v := 0) hx hb dX4_heldByHolders_2 (by decide) ?_
  refine lv_istore_n (lv' := [(2, .int 0), (1, .null), (0, .ref a4)]) hx hb dX4_heldByHolders_3 rfl hl (by decide) rfl (fun ls hl => ?_)
  cases hb0 : bt 0
  · skip
    refine lv_iload_n hx hb dX4_heldByHolders_4 rfl (lv_at hl 0 rfl) ?_
    refine lv_iconst (v := 5) hx hb dX4_heldByHolders_5 (by decide) ?_
    refine lv_icmp_ge (tgt := 42) hx hb dX4_heldByHolders_6 (by decide) (fun hc => absurd hc (by decide)) (fun _ => ?_)
    refine lv_aload_n hx hb dX4_heldByHolders_9 rfl (lv_at hl 2 rfl) ?_
    refine lv_iload_n hx hb dX4_heldByHolders_10 rfl (lv_at hl 0 rfl) ?_
    refine va_aldq hx hb hK hP 0 2 rfl rfl (by unfold vp_in; decide) dX4_heldByHolders_11 ?_
    rw [show gf (0 : Int32).toNatClampNeg = none from (by rw [show (0 : Int32).toNatClampNeg = 0 by decide, hg 0 (by decide), hb0]; rfl)]
    refine W.eq (g2 := F0 m 12 ls [.null]) rfl ?_
    refine lv_ifnullN (tgt := 36) hx hb dX4_heldByHolders_12 (by decide) ?_
    refine lv_iinc (v := 1) (lv' := [(2, .int 1), (1, .null), (0, .ref a4)]) hx hb dX4_heldByHolders_36 hl (k := 0) rfl (by decide) (by decide) rfl (fun ls hl => ?_)
    refine lv_goto (tgt := 4) hx hb dX4_heldByHolders_39 (by decide) ?_
    cases hb1 : bt 1
    · skip
      refine lv_iload_n hx hb dX4_heldByHolders_4 rfl (lv_at hl 0 rfl) ?_
      refine lv_iconst (v := 5) hx hb dX4_heldByHolders_5 (by decide) ?_
      refine lv_icmp_ge (tgt := 42) hx hb dX4_heldByHolders_6 (by decide) (fun hc => absurd hc (by decide)) (fun _ => ?_)
      refine lv_aload_n hx hb dX4_heldByHolders_9 rfl (lv_at hl 2 rfl) ?_
      refine lv_iload_n hx hb dX4_heldByHolders_10 rfl (lv_at hl 0 rfl) ?_
      refine va_aldq hx hb hK hP 0 2 rfl rfl (by unfold vp_in; decide) dX4_heldByHolders_11 ?_
      rw [show gf (1 : Int32).toNatClampNeg = none from (by rw [show (1 : Int32).toNatClampNeg = 1 by decide, hg 1 (by decide), hb1]; rfl)]
      refine W.eq (g2 := F0 m 12 ls [.null]) rfl ?_
      refine lv_ifnullN (tgt := 36) hx hb dX4_heldByHolders_12 (by decide) ?_
      refine lv_iinc (v := 2) (lv' := [(2, .int 2), (1, .null), (0, .ref a4)]) hx hb dX4_heldByHolders_36 hl (k := 0) rfl (by decide) (by decide) rfl (fun ls hl => ?_)
      refine lv_goto (tgt := 4) hx hb dX4_heldByHolders_39 (by decide) ?_
      cases hb2 : bt 2
      · skip
        refine lv_iload_n hx hb dX4_heldByHolders_4 rfl (lv_at hl 0 rfl) ?_
        refine lv_iconst (v := 5) hx hb dX4_heldByHolders_5 (by decide) ?_
        refine lv_icmp_ge (tgt := 42) hx hb dX4_heldByHolders_6 (by decide) (fun hc => absurd hc (by decide)) (fun _ => ?_)
        refine lv_aload_n hx hb dX4_heldByHolders_9 rfl (lv_at hl 2 rfl) ?_
        refine lv_iload_n hx hb dX4_heldByHolders_10 rfl (lv_at hl 0 rfl) ?_
        refine va_aldq hx hb hK hP 0 2 rfl rfl (by unfold vp_in; decide) dX4_heldByHolders_11 ?_
        rw [show gf (2 : Int32).toNatClampNeg = none from (by rw [show (2 : Int32).toNatClampNeg = 2 by decide, hg 2 (by decide), hb2]; rfl)]
        refine W.eq (g2 := F0 m 12 ls [.null]) rfl ?_
        refine lv_ifnullN (tgt := 36) hx hb dX4_heldByHolders_12 (by decide) ?_
        refine lv_iinc (v := 3) (lv' := [(2, .int 3), (1, .null), (0, .ref a4)]) hx hb dX4_heldByHolders_36 hl (k := 0) rfl (by decide) (by decide) rfl (fun ls hl => ?_)
        refine lv_goto (tgt := 4) hx hb dX4_heldByHolders_39 (by decide) ?_
        cases hb3 : bt 3
        · skip
          refine lv_iload_n hx hb dX4_heldByHolders_4 rfl (lv_at hl 0 rfl) ?_
          refine lv_iconst (v := 5) hx hb dX4_heldByHolders_5 (by decide) ?_
          refine lv_icmp_ge (tgt := 42) hx hb dX4_heldByHolders_6 (by decide) (fun hc => absurd hc (by decide)) (fun _ => ?_)
          refine lv_aload_n hx hb dX4_heldByHolders_9 rfl (lv_at hl 2 rfl) ?_
          refine lv_iload_n hx hb dX4_heldByHolders_10 rfl (lv_at hl 0 rfl) ?_
          refine va_aldq hx hb hK hP 0 2 rfl rfl (by unfold vp_in; decide) dX4_heldByHolders_11 ?_
          rw [show gf (3 : Int32).toNatClampNeg = none from (by rw [show (3 : Int32).toNatClampNeg = 3 by decide, hg 3 (by decide), hb3]; rfl)]
          refine W.eq (g2 := F0 m 12 ls [.null]) rfl ?_
          refine lv_ifnullN (tgt := 36) hx hb dX4_heldByHolders_12 (by decide) ?_
          refine lv_iinc (v := 4) (lv' := [(2, .int 4), (1, .null), (0, .ref a4)]) hx hb dX4_heldByHolders_36 hl (k := 0) rfl (by decide) (by decide) rfl (fun ls hl => ?_)
          refine lv_goto (tgt := 4) hx hb dX4_heldByHolders_39 (by decide) ?_
          cases hb4 : bt 4
          · skip
            refine lv_iload_n hx hb dX4_heldByHolders_4 rfl (lv_at hl 0 rfl) ?_
            refine lv_iconst (v := 5) hx hb dX4_heldByHolders_5 (by decide) ?_
            refine lv_icmp_ge (tgt := 42) hx hb dX4_heldByHolders_6 (by decide) (fun hc => absurd hc (by decide)) (fun _ => ?_)
            refine lv_aload_n hx hb dX4_heldByHolders_9 rfl (lv_at hl 2 rfl) ?_
            refine lv_iload_n hx hb dX4_heldByHolders_10 rfl (lv_at hl 0 rfl) ?_
            refine va_aldq hx hb hK hP 0 2 rfl rfl (by unfold vp_in; decide) dX4_heldByHolders_11 ?_
            rw [show gf (4 : Int32).toNatClampNeg = none from (by rw [show (4 : Int32).toNatClampNeg = 4 by decide, hg 4 (by decide), hb4]; rfl)]
            refine W.eq (g2 := F0 m 12 ls [.null]) rfl ?_
            refine lv_ifnullN (tgt := 36) hx hb dX4_heldByHolders_12 (by decide) ?_
            refine lv_iinc (v := 5) (lv' := [(2, .int 5), (1, .null), (0, .ref a4)]) hx hb dX4_heldByHolders_36 hl (k := 0) rfl (by decide) (by decide) rfl (fun ls hl => ?_)
            refine lv_goto (tgt := 4) hx hb dX4_heldByHolders_39 (by decide) ?_
            refine lv_iload_n hx hb dX4_heldByHolders_4 rfl (lv_at hl 0 rfl) ?_
            refine lv_iconst (v := 5) hx hb dX4_heldByHolders_5 (by decide) ?_
            refine lv_icmp_ge (tgt := 42) hx hb dX4_heldByHolders_6 (by decide) (fun _ => ?_) (fun hc => absurd (by decide) hc)
            refine lv_aload_nN hx hb dX4_heldByHolders_42 rfl (lv_at hl 1 rfl) ?_
            have hP9 := hP.sub (ws' := [(a4, wS tC 5 gf), (f, .inr (3, [.ref e1, .ref e2, .int 5, .int 0])), (e1, wI tC 0 z1)]) [0, 1, 2] rfl
            have hD9 := hD.sub (ws' := [(a4, wS tC 5 gf), (f, .inr (3, [.ref e1, .ref e2, .int 5, .int 0])), (e1, wI tC 0 z1)]) [0, 1, 2] (by decide) rfl
            refine W.widen (k := 0) (n := 0) (by omega) (by omega) ?_
            exact W.aret (v := .null) hx hb hr (Or.inl ⟨_, rfl⟩) (Or.inl rfl) (fun t ht hW => ⟨⟨none, (), rfl, rfl, (by rw [ht]; exact hP9), va_K.moved hW.alike hK, hD9⟩, hS.F ht⟩) hS.2.2 dX4_heldByHolders_43 hlocks
          · skip
            refine lv_iload_n hx hb dX4_heldByHolders_4 rfl (lv_at hl 0 rfl) ?_
            refine lv_iconst (v := 5) hx hb dX4_heldByHolders_5 (by decide) ?_
            refine lv_icmp_ge (tgt := 42) hx hb dX4_heldByHolders_6 (by decide) (fun hc => absurd hc (by decide)) (fun _ => ?_)
            refine lv_aload_n hx hb dX4_heldByHolders_9 rfl (lv_at hl 2 rfl) ?_
            refine lv_iload_n hx hb dX4_heldByHolders_10 rfl (lv_at hl 0 rfl) ?_
            refine va_aldq hx hb hK hP 0 2 rfl rfl (by unfold vp_in; decide) dX4_heldByHolders_11 ?_
            rw [show gf (4 : Int32).toNatClampNeg = some f from (by rw [show (4 : Int32).toNatClampNeg = 4 by decide, hg 4 (by decide), hb4]; rfl)]
            refine W.eq (g2 := F0 m 12 ls [.ref f]) rfl ?_
            refine lv_ifnull hx hb dX4_heldByHolders_12 ?_
            refine lv_aload_nN hx hb dX4_heldByHolders_15 rfl (lv_at hl 1 rfl) ?_
            refine lv_ifnullN (tgt := 32) hx hb dX4_heldByHolders_16 (by decide) ?_
            refine lv_aload_n hx hb dX4_heldByHolders_32 rfl (lv_at hl 2 rfl) ?_
            refine lv_iload_n hx hb dX4_heldByHolders_33 rfl (lv_at hl 0 rfl) ?_
            refine va_aldq hx hb hK hP 0 2 rfl rfl (by unfold vp_in; decide) dX4_heldByHolders_34 ?_
            rw [show gf (4 : Int32).toNatClampNeg = some f from (by rw [show (4 : Int32).toNatClampNeg = 4 by decide, hg 4 (by decide), hb4]; rfl)]
            refine W.eq (g2 := F0 m 35 ls [.ref f]) rfl ?_
            refine lv_astore_n (lv' := [(1, .ref f), (2, .int 4), (0, .ref a4)]) hx hb dX4_heldByHolders_35 rfl hl (by decide) rfl (fun ls hl => ?_)
            refine lv_iinc (v := 5) (lv' := [(2, .int 5), (1, .ref f), (0, .ref a4)]) hx hb dX4_heldByHolders_36 hl (k := 1) rfl (by decide) (by decide) rfl (fun ls hl => ?_)
            refine lv_goto (tgt := 4) hx hb dX4_heldByHolders_39 (by decide) ?_
            refine lv_iload_n hx hb dX4_heldByHolders_4 rfl (lv_at hl 0 rfl) ?_
            refine lv_iconst (v := 5) hx hb dX4_heldByHolders_5 (by decide) ?_
            refine lv_icmp_ge (tgt := 42) hx hb dX4_heldByHolders_6 (by decide) (fun _ => ?_) (fun hc => absurd (by decide) hc)
            refine lv_aload_n hx hb dX4_heldByHolders_42 rfl (lv_at hl 1 rfl) ?_
            have hP9 := hP.sub (ws' := [(a4, wS tC 5 gf), (f, .inr (3, [.ref e1, .ref e2, .int 5, .int 0])), (e1, wI tC 0 z1)]) [0, 1, 2] rfl
            have hD9 := hD.sub (ws' := [(a4, wS tC 5 gf), (f, .inr (3, [.ref e1, .ref e2, .int 5, .int 0])), (e1, wI tC 0 z1)]) [0, 1, 2] (by decide) rfl
            refine W.widen (k := 0) (n := 0) (by omega) (by omega) ?_
            exact W.aret (v := .ref f) hx hb hr (Or.inl ⟨_, rfl⟩) (Or.inr ⟨_, rfl⟩) (fun t ht hW => ⟨⟨(some f), (), rfl, rfl, (by rw [ht]; exact hP9), va_K.moved hW.alike hK, hD9⟩, hS.F ht⟩) hS.2.2 dX4_heldByHolders_43 hlocks
        · skip
          refine lv_iload_n hx hb dX4_heldByHolders_4 rfl (lv_at hl 0 rfl) ?_
          refine lv_iconst (v := 5) hx hb dX4_heldByHolders_5 (by decide) ?_
          refine lv_icmp_ge (tgt := 42) hx hb dX4_heldByHolders_6 (by decide) (fun hc => absurd hc (by decide)) (fun _ => ?_)
          refine lv_aload_n hx hb dX4_heldByHolders_9 rfl (lv_at hl 2 rfl) ?_
          refine lv_iload_n hx hb dX4_heldByHolders_10 rfl (lv_at hl 0 rfl) ?_
          refine va_aldq hx hb hK hP 0 2 rfl rfl (by unfold vp_in; decide) dX4_heldByHolders_11 ?_
          rw [show gf (3 : Int32).toNatClampNeg = some f from (by rw [show (3 : Int32).toNatClampNeg = 3 by decide, hg 3 (by decide), hb3]; rfl)]
          refine W.eq (g2 := F0 m 12 ls [.ref f]) rfl ?_
          refine lv_ifnull hx hb dX4_heldByHolders_12 ?_
          refine lv_aload_nN hx hb dX4_heldByHolders_15 rfl (lv_at hl 1 rfl) ?_
          refine lv_ifnullN (tgt := 32) hx hb dX4_heldByHolders_16 (by decide) ?_
          refine lv_aload_n hx hb dX4_heldByHolders_32 rfl (lv_at hl 2 rfl) ?_
          refine lv_iload_n hx hb dX4_heldByHolders_33 rfl (lv_at hl 0 rfl) ?_
          refine va_aldq hx hb hK hP 0 2 rfl rfl (by unfold vp_in; decide) dX4_heldByHolders_34 ?_
          rw [show gf (3 : Int32).toNatClampNeg = some f from (by rw [show (3 : Int32).toNatClampNeg = 3 by decide, hg 3 (by decide), hb3]; rfl)]
          refine W.eq (g2 := F0 m 35 ls [.ref f]) rfl ?_
          refine lv_astore_n (lv' := [(1, .ref f), (2, .int 3), (0, .ref a4)]) hx hb dX4_heldByHolders_35 rfl hl (by decide) rfl (fun ls hl => ?_)
          refine lv_iinc (v := 4) (lv' := [(2, .int 4), (1, .ref f), (0, .ref a4)]) hx hb dX4_heldByHolders_36 hl (k := 1) rfl (by decide) (by decide) rfl (fun ls hl => ?_)
          refine lv_goto (tgt := 4) hx hb dX4_heldByHolders_39 (by decide) ?_
          cases hb4 : bt 4
          · skip
            refine lv_iload_n hx hb dX4_heldByHolders_4 rfl (lv_at hl 0 rfl) ?_
            refine lv_iconst (v := 5) hx hb dX4_heldByHolders_5 (by decide) ?_
            refine lv_icmp_ge (tgt := 42) hx hb dX4_heldByHolders_6 (by decide) (fun hc => absurd hc (by decide)) (fun _ => ?_)
            refine lv_aload_n hx hb dX4_heldByHolders_9 rfl (lv_at hl 2 rfl) ?_
            refine lv_iload_n hx hb dX4_heldByHolders_10 rfl (lv_at hl 0 rfl) ?_
            refine va_aldq hx hb hK hP 0 2 rfl rfl (by unfold vp_in; decide) dX4_heldByHolders_11 ?_
            rw [show gf (4 : Int32).toNatClampNeg = none from (by rw [show (4 : Int32).toNatClampNeg = 4 by decide, hg 4 (by decide), hb4]; rfl)]
            refine W.eq (g2 := F0 m 12 ls [.null]) rfl ?_
            refine lv_ifnullN (tgt := 36) hx hb dX4_heldByHolders_12 (by decide) ?_
            refine lv_iinc (v := 5) (lv' := [(2, .int 5), (1, .ref f), (0, .ref a4)]) hx hb dX4_heldByHolders_36 hl (k := 0) rfl (by decide) (by decide) rfl (fun ls hl => ?_)
            refine lv_goto (tgt := 4) hx hb dX4_heldByHolders_39 (by decide) ?_
            refine lv_iload_n hx hb dX4_heldByHolders_4 rfl (lv_at hl 0 rfl) ?_
            refine lv_iconst (v := 5) hx hb dX4_heldByHolders_5 (by decide) ?_
            refine lv_icmp_ge (tgt := 42) hx hb dX4_heldByHolders_6 (by decide) (fun _ => ?_) (fun hc => absurd (by decide) hc)
            refine lv_aload_n hx hb dX4_heldByHolders_42 rfl (lv_at hl 1 rfl) ?_
            have hP9 := hP.sub (ws' := [(a4, wS tC 5 gf), (f, .inr (3, [.ref e1, .ref e2, .int 5, .int 0])), (e1, wI tC 0 z1)]) [0, 1, 2] rfl
            have hD9 := hD.sub (ws' := [(a4, wS tC 5 gf), (f, .inr (3, [.ref e1, .ref e2, .int 5, .int 0])), (e1, wI tC 0 z1)]) [0, 1, 2] (by decide) rfl
            refine W.widen (k := 0) (n := 0) (by omega) (by omega) ?_
            exact W.aret (v := .ref f) hx hb hr (Or.inl ⟨_, rfl⟩) (Or.inr ⟨_, rfl⟩) (fun t ht hW => ⟨⟨(some f), (), rfl, rfl, (by rw [ht]; exact hP9), va_K.moved hW.alike hK, hD9⟩, hS.F ht⟩) hS.2.2 dX4_heldByHolders_43 hlocks
          · skip
            refine lv_iload_n hx hb dX4_heldByHolders_4 rfl (lv_at hl 0 rfl) ?_
            refine lv_iconst (v := 5) hx hb dX4_heldByHolders_5 (by decide) ?_
            refine lv_icmp_ge (tgt := 42) hx hb dX4_heldByHolders_6 (by decide) (fun hc => absurd hc (by decide)) (fun _ => ?_)
            refine lv_aload_n hx hb dX4_heldByHolders_9 rfl (lv_at hl 2 rfl) ?_
            refine lv_iload_n hx hb dX4_heldByHolders_10 rfl (lv_at hl 0 rfl) ?_
            refine va_aldq hx hb hK hP 0 2 rfl rfl (by unfold vp_in; decide) dX4_heldByHolders_11 ?_
            rw [show gf (4 : Int32).toNatClampNeg = some f from (by rw [show (4 : Int32).toNatClampNeg = 4 by decide, hg 4 (by decide), hb4]; rfl)]
            refine W.eq (g2 := F0 m 12 ls [.ref f]) rfl ?_
            refine lv_ifnull hx hb dX4_heldByHolders_12 ?_
            refine lv_aload_n hx hb dX4_heldByHolders_15 rfl (lv_at hl 1 rfl) ?_
            refine lv_ifnull hx hb dX4_heldByHolders_16 ?_
            refine lv_aload_n hx hb dX4_heldByHolders_19 rfl (lv_at hl 2 rfl) ?_
            refine lv_iload_n hx hb dX4_heldByHolders_20 rfl (lv_at hl 0 rfl) ?_
            refine va_aldq hx hb hK hP 0 2 rfl rfl (by unfold vp_in; decide) dX4_heldByHolders_21 ?_
            rw [show gf (4 : Int32).toNatClampNeg = some f from (by rw [show (4 : Int32).toNatClampNeg = 4 by decide, hg 4 (by decide), hb4]; rfl)]
            refine W.eq (g2 := F0 m 22 ls [.ref f]) rfl ?_
            have hPc := hP.sub (ws' := [(f, .inr (3, [.ref e1, .ref e2, .int 5, .int 0])), (e1, wI tC 0 z1)]) [1, 2] rfl
            have hDc := hD.sub (ws' := [(f, .inr (3, [.ref e1, .ref e2, .int 5, .int 0])), (e1, wI tC 0 z1)]) [1, 2] (by decide) rfl
            have hFc := va_free (wc := [(f, .inr (3, [.ref e1, .ref e2, .int 5, .int 0])), (e1, wI tC 0 z1)]) hD hS hA [1, 2] rfl
            refine va_calli (va_runVN (As := []) (rest := []) ⟨hx, hb, hml, hown, hts⟩ (c_X2_length l hlt D tC dz s.heap.size f e1 e2 z1 ) ⟨(va_cnB (host := "NoticeStations") 0 hts gX4_heldByHolders_X2_length_n107 rfl rfl rfl (hN.1 (.methodLinkNest "NoticeStations" 107 ⟨"NoticeStations$Standing", "length", "()I"⟩ "NoticeStations") (by decide +kernel)) w_0 (by decide +kernel) ⟨Nat.le_of_ble_eq_true rfl, Nat.le_of_ble_eq_true rfl⟩), w_1, w_2⟩ ⟨pB_blind, va_recv hK hPc (ci := 3) (q0 := 0) rfl rfl, pB_at hPc hDc hK hN hE hS hFc⟩ rfl rfl hl.1 rfl (lv_room (Nat.le_of_ble_eq_true rfl)) dX4_heldByHolders_22 ⟨Nat.le_of_ble_eq_true rfl, Nat.le_of_ble_eq_true rfl⟩) hS (fun q _ h => hFc q h) hFc (fun r_1 u t H1 locs ht hvm hw hB hz1 hk1 hS => ?_)
            obtain ⟨hP1, _, hD1⟩ := hB
            have hw_2 := hw
            rw [ht] at hP1
            obtain ⟨hP, hD⟩ := va_join (wr := [(a4, wS tC 5 gf)]) (w1 := [(f, .inr (3, [.ref e1, .ref e2, .int 5, .int 0])), (e1, wI tC 0 z1)]) hP hD [1, 2] [0] rfl rfl (by decide) (by decide) hk1 hFc hP1 hD1
            generalize H1 = H at hP hS ⊢
            have hP : va_P D vwCl [(a4, wS tC 5 gf), (f, .inr (3, [.ref e1, .ref e2, .int 5, .int 0])), (e1, wI tC 0 z1)] H := hP
            have hD : va_D A [(a4, wS tC 5 gf), (f, .inr (3, [.ref e1, .ref e2, .int 5, .int 0])), (e1, wI tC 0 z1)] := hD
            subst hw_2
            refine lv_aload_n hx hb dX4_heldByHolders_25 rfl (lv_at hl 1 rfl) ?_
            have hPc := hP.sub (ws' := [(f, .inr (3, [.ref e1, .ref e2, .int 5, .int 0])), (e1, wI tC 0 z1)]) [1, 2] rfl
            have hDc := hD.sub (ws' := [(f, .inr (3, [.ref e1, .ref e2, .int 5, .int 0])), (e1, wI tC 0 z1)]) [1, 2] (by decide) rfl
            have hFc := va_free (wc := [(f, .inr (3, [.ref e1, .ref e2, .int 5, .int 0])), (e1, wI tC 0 z1)]) hD hS hA [1, 2] rfl
            refine va_calli (va_runVN (As := []) (rest := [.int 0]) ⟨hx, hb, hml, hown, hts⟩ (c_X2_length l hlt D tC dz H.size f e1 e2 z1 ) ⟨(va_cnB (host := "NoticeStations") 0 hts gX4_heldByHolders_X2_length_n107 rfl rfl rfl (hN.1 (.methodLinkNest "NoticeStations" 107 ⟨"NoticeStations$Standing", "length", "()I"⟩ "NoticeStations") (by decide +kernel)) w_0 (by decide +kernel) ⟨Nat.le_of_ble_eq_true rfl, Nat.le_of_ble_eq_true rfl⟩), w_1, w_2⟩ ⟨pB_blind, va_recv hK hPc (ci := 3) (q0 := 0) rfl rfl, pB_at hPc hDc hK hN hE hS hFc⟩ rfl rfl hl.1 rfl (lv_room (Nat.le_of_ble_eq_true rfl)) dX4_heldByHolders_26 ⟨Nat.le_of_ble_eq_true rfl, Nat.le_of_ble_eq_true rfl⟩) hS (fun q _ h => hFc q h) hFc (fun r_3 u t H1 locs ht hvm hw hB hz1 hk1 hS => ?_)
            obtain ⟨hP1, _, hD1⟩ := hB
            have hw_4 := hw
            rw [ht] at hP1
            obtain ⟨hP, hD⟩ := va_join (wr := [(a4, wS tC 5 gf)]) (w1 := [(f, .inr (3, [.ref e1, .ref e2, .int 5, .int 0])), (e1, wI tC 0 z1)]) hP hD [1, 2] [0] rfl rfl (by decide) (by decide) hk1 hFc hP1 hD1
            generalize H1 = H at hP hS ⊢
            have hP : va_P D vwCl [(a4, wS tC 5 gf), (f, .inr (3, [.ref e1, .ref e2, .int 5, .int 0])), (e1, wI tC 0 z1)] H := hP
            have hD : va_D A [(a4, wS tC 5 gf), (f, .inr (3, [.ref e1, .ref e2, .int 5, .int 0])), (e1, wI tC 0 z1)] := hD
            subst hw_4
            refine lv_icmp_le (tgt := 36) hx hb dX4_heldByHolders_29 (by decide) (fun _ => ?_) (fun hc => absurd (by decide) hc)
            refine lv_iinc (v := 5) (lv' := [(2, .int 5), (1, .ref f), (0, .ref a4)]) hx hb dX4_heldByHolders_36 hl (k := 0) rfl (by decide) (by decide) rfl (fun ls hl => ?_)
            refine lv_goto (tgt := 4) hx hb dX4_heldByHolders_39 (by decide) ?_
            refine lv_iload_n hx hb dX4_heldByHolders_4 rfl (lv_at hl 0 rfl) ?_
            refine lv_iconst (v := 5) hx hb dX4_heldByHolders_5 (by decide) ?_
            refine lv_icmp_ge (tgt := 42) hx hb dX4_heldByHolders_6 (by decide) (fun _ => ?_) (fun hc => absurd (by decide) hc)
            refine lv_aload_n hx hb dX4_heldByHolders_42 rfl (lv_at hl 1 rfl) ?_
            have hP9 := hP.sub (ws' := [(a4, wS tC 5 gf), (f, .inr (3, [.ref e1, .ref e2, .int 5, .int 0])), (e1, wI tC 0 z1)]) [0, 1, 2] rfl
            have hD9 := hD.sub (ws' := [(a4, wS tC 5 gf), (f, .inr (3, [.ref e1, .ref e2, .int 5, .int 0])), (e1, wI tC 0 z1)]) [0, 1, 2] (by decide) rfl
            refine W.widen (k := 0) (n := 0) (by omega) (by omega) ?_
            exact W.aret (v := .ref f) hx hb hr (Or.inl ⟨_, rfl⟩) (Or.inr ⟨_, rfl⟩) (fun t ht hW => ⟨⟨(some f), (), rfl, rfl, (by rw [ht]; exact hP9), va_K.moved hW.alike hK, hD9⟩, hS.F ht⟩) hS.2.2 dX4_heldByHolders_43 hlocks
      · skip
        refine lv_iload_n hx hb dX4_heldByHolders_4 rfl (lv_at hl 0 rfl) ?_
        refine lv_iconst (v := 5) hx hb dX4_heldByHolders_5 (by decide) ?_
        refine lv_icmp_ge (tgt := 42) hx hb dX4_heldByHolders_6 (by decide) (fun hc => absurd hc (by decide)) (fun _ => ?_)
        refine lv_aload_n hx hb dX4_heldByHolders_9 rfl (lv_at hl 2 rfl) ?_
        refine lv_iload_n hx hb dX4_heldByHolders_10 rfl (lv_at hl 0 rfl) ?_
        refine va_aldq hx hb hK hP 0 2 rfl rfl (by unfold vp_in; decide) dX4_heldByHolders_11 ?_
        rw [show gf (2 : Int32).toNatClampNeg = some f from (by rw [show (2 : Int32).toNatClampNeg = 2 by decide, hg 2 (by decide), hb2]; rfl)]
        refine W.eq (g2 := F0 m 12 ls [.ref f]) rfl ?_
        refine lv_ifnull hx hb dX4_heldByHolders_12 ?_
        refine lv_aload_nN hx hb dX4_heldByHolders_15 rfl (lv_at hl 1 rfl) ?_
        refine lv_ifnullN (tgt := 32) hx hb dX4_heldByHolders_16 (by decide) ?_
        refine lv_aload_n hx hb dX4_heldByHolders_32 rfl (lv_at hl 2 rfl) ?_
        refine lv_iload_n hx hb dX4_heldByHolders_33 rfl (lv_at hl 0 rfl) ?_
        refine va_aldq hx hb hK hP 0 2 rfl rfl (by unfold vp_in; decide) dX4_heldByHolders_34 ?_
        rw [show gf (2 : Int32).toNatClampNeg = some f from (by rw [show (2 : Int32).toNatClampNeg = 2 by decide, hg 2 (by decide), hb2]; rfl)]
        refine W.eq (g2 := F0 m 35 ls [.ref f]) rfl ?_
        refine lv_astore_n (lv' := [(1, .ref f), (2, .int 2), (0, .ref a4)]) hx hb dX4_heldByHolders_35 rfl hl (by decide) rfl (fun ls hl => ?_)
        refine lv_iinc (v := 3) (lv' := [(2, .int 3), (1, .ref f), (0, .ref a4)]) hx hb dX4_heldByHolders_36 hl (k := 1) rfl (by decide) (by decide) rfl (fun ls hl => ?_)
        refine lv_goto (tgt := 4) hx hb dX4_heldByHolders_39 (by decide) ?_
        cases hb3 : bt 3
        · skip
          refine lv_iload_n hx hb dX4_heldByHolders_4 rfl (lv_at hl 0 rfl) ?_
          refine lv_iconst (v := 5) hx hb dX4_heldByHolders_5 (by decide) ?_
          refine lv_icmp_ge (tgt := 42) hx hb dX4_heldByHolders_6 (by decide) (fun hc => absurd hc (by decide)) (fun _ => ?_)
          refine lv_aload_n hx hb dX4_heldByHolders_9 rfl (lv_at hl 2 rfl) ?_
          refine lv_iload_n hx hb dX4_heldByHolders_10 rfl (lv_at hl 0 rfl) ?_
          refine va_aldq hx hb hK hP 0 2 rfl rfl (by unfold vp_in; decide) dX4_heldByHolders_11 ?_
          rw [show gf (3 : Int32).toNatClampNeg = none from (by rw [show (3 : Int32).toNatClampNeg = 3 by decide, hg 3 (by decide), hb3]; rfl)]
          refine W.eq (g2 := F0 m 12 ls [.null]) rfl ?_
          refine lv_ifnullN (tgt := 36) hx hb dX4_heldByHolders_12 (by decide) ?_
          refine lv_iinc (v := 4) (lv' := [(2, .int 4), (1, .ref f), (0, .ref a4)]) hx hb dX4_heldByHolders_36 hl (k := 0) rfl (by decide) (by decide) rfl (fun ls hl => ?_)
          refine lv_goto (tgt := 4) hx hb dX4_heldByHolders_39 (by decide) ?_
          cases hb4 : bt 4
          · skip
            refine lv_iload_n hx hb dX4_heldByHolders_4 rfl (lv_at hl 0 rfl) ?_
            refine lv_iconst (v := 5) hx hb dX4_heldByHolders_5 (by decide) ?_
            refine lv_icmp_ge (tgt := 42) hx hb dX4_heldByHolders_6 (by decide) (fun hc => absurd hc (by decide)) (fun _ => ?_)
            refine lv_aload_n hx hb dX4_heldByHolders_9 rfl (lv_at hl 2 rfl) ?_
            refine lv_iload_n hx hb dX4_heldByHolders_10 rfl (lv_at hl 0 rfl) ?_
            refine va_aldq hx hb hK hP 0 2 rfl rfl (by unfold vp_in; decide) dX4_heldByHolders_11 ?_
            rw [show gf (4 : Int32).toNatClampNeg = none from (by rw [show (4 : Int32).toNatClampNeg = 4 by decide, hg 4 (by decide), hb4]; rfl)]
            refine W.eq (g2 := F0 m 12 ls [.null]) rfl ?_
            refine lv_ifnullN (tgt := 36) hx hb dX4_heldByHolders_12 (by decide) ?_
            refine lv_iinc (v := 5) (lv' := [(2, .int 5), (1, .ref f), (0, .ref a4)]) hx hb dX4_heldByHolders_36 hl (k := 0) rfl (by decide) (by decide) rfl (fun ls hl => ?_)
            refine lv_goto (tgt := 4) hx hb dX4_heldByHolders_39 (by decide) ?_
            refine lv_iload_n hx hb dX4_heldByHolders_4 rfl (lv_at hl 0 rfl) ?_
            refine lv_iconst (v := 5) hx hb dX4_heldByHolders_5 (by decide) ?_
            refine lv_icmp_ge (tgt := 42) hx hb dX4_heldByHolders_6 (by decide) (fun _ => ?_) (fun hc => absurd (by decide) hc)
            refine lv_aload_n hx hb dX4_heldByHolders_42 rfl (lv_at hl 1 rfl) ?_
            have hP9 := hP.sub (ws' := [(a4, wS tC 5 gf), (f, .inr (3, [.ref e1, .ref e2, .int 5, .int 0])), (e1, wI tC 0 z1)]) [0, 1, 2] rfl
            have hD9 := hD.sub (ws' := [(a4, wS tC 5 gf), (f, .inr (3, [.ref e1, .ref e2, .int 5, .int 0])), (e1, wI tC 0 z1)]) [0, 1, 2] (by decide) rfl
            refine W.widen (k := 0) (n := 0) (by omega) (by omega) ?_
            exact W.aret (v := .ref f) hx hb hr (Or.inl ⟨_, rfl⟩) (Or.inr ⟨_, rfl⟩) (fun t ht hW => ⟨⟨(some f), (), rfl, rfl, (by rw [ht]; exact hP9), va_K.moved hW.alike hK, hD9⟩, hS.F ht⟩) hS.2.2 dX4_heldByHolders_43 hlocks
          · skip
            refine lv_iload_n hx hb dX4_heldByHolders_4 rfl (lv_at hl 0 rfl) ?_
            refine lv_iconst (v := 5) hx hb dX4_heldByHolders_5 (by decide) ?_
            refine lv_icmp_ge (tgt := 42) hx hb dX4_heldByHolders_6 (by decide) (fun hc => absurd hc (by decide)) (fun _ => ?_)
            refine lv_aload_n hx hb dX4_heldByHolders_9 rfl (lv_at hl 2 rfl) ?_
            refine lv_iload_n hx hb dX4_heldByHolders_10 rfl (lv_at hl 0 rfl) ?_
            refine va_aldq hx hb hK hP 0 2 rfl rfl (by unfold vp_in; decide) dX4_heldByHolders_11 ?_
            rw [show gf (4 : Int32).toNatClampNeg = some f from (by rw [show (4 : Int32).toNatClampNeg = 4 by decide, hg 4 (by decide), hb4]; rfl)]
            refine W.eq (g2 := F0 m 12 ls [.ref f]) rfl ?_
            refine lv_ifnull hx hb dX4_heldByHolders_12 ?_
            refine lv_aload_n hx hb dX4_heldByHolders_15 rfl (lv_at hl 1 rfl) ?_
            refine lv_ifnull hx hb dX4_heldByHolders_16 ?_
            refine lv_aload_n hx hb dX4_heldByHolders_19 rfl (lv_at hl 2 rfl) ?_
            refine lv_iload_n hx hb dX4_heldByHolders_20 rfl (lv_at hl 0 rfl) ?_
            refine va_aldq hx hb hK hP 0 2 rfl rfl (by unfold vp_in; decide) dX4_heldByHolders_21 ?_
            rw [show gf (4 : Int32).toNatClampNeg = some f from (by rw [show (4 : Int32).toNatClampNeg = 4 by decide, hg 4 (by decide), hb4]; rfl)]
            refine W.eq (g2 := F0 m 22 ls [.ref f]) rfl ?_
            have hPc := hP.sub (ws' := [(f, .inr (3, [.ref e1, .ref e2, .int 5, .int 0])), (e1, wI tC 0 z1)]) [1, 2] rfl
            have hDc := hD.sub (ws' := [(f, .inr (3, [.ref e1, .ref e2, .int 5, .int 0])), (e1, wI tC 0 z1)]) [1, 2] (by decide) rfl
            have hFc := va_free (wc := [(f, .inr (3, [.ref e1, .ref e2, .int 5, .int 0])), (e1, wI tC 0 z1)]) hD hS hA [1, 2] rfl
            refine va_calli (va_runVN (As := []) (rest := []) ⟨hx, hb, hml, hown, hts⟩ (c_X2_length l hlt D tC dz s.heap.size f e1 e2 z1 ) ⟨(va_cnB (host := "NoticeStations") 0 hts gX4_heldByHolders_X2_length_n107 rfl rfl rfl (hN.1 (.methodLinkNest "NoticeStations" 107 ⟨"NoticeStations$Standing", "length", "()I"⟩ "NoticeStations") (by decide +kernel)) w_0 (by decide +kernel) ⟨Nat.le_of_ble_eq_true rfl, Nat.le_of_ble_eq_true rfl⟩), w_1, w_2⟩ ⟨pB_blind, va_recv hK hPc (ci := 3) (q0 := 0) rfl rfl, pB_at hPc hDc hK hN hE hS hFc⟩ rfl rfl hl.1 rfl (lv_room (Nat.le_of_ble_eq_true rfl)) dX4_heldByHolders_22 ⟨Nat.le_of_ble_eq_true rfl, Nat.le_of_ble_eq_true rfl⟩) hS (fun q _ h => hFc q h) hFc (fun r_5 u t H1 locs ht hvm hw hB hz1 hk1 hS => ?_)
            obtain ⟨hP1, _, hD1⟩ := hB
            have hw_6 := hw
            rw [ht] at hP1
            obtain ⟨hP, hD⟩ := va_join (wr := [(a4, wS tC 5 gf)]) (w1 := [(f, .inr (3, [.ref e1, .ref e2, .int 5, .int 0])), (e1, wI tC 0 z1)]) hP hD [1, 2] [0] rfl rfl (by decide) (by decide) hk1 hFc hP1 hD1
            generalize H1 = H at hP hS ⊢
            have hP : va_P D vwCl [(a4, wS tC 5 gf), (f, .inr (3, [.ref e1, .ref e2, .int 5, .int 0])), (e1, wI tC 0 z1)] H := hP
            have hD : va_D A [(a4, wS tC 5 gf), (f, .inr (3, [.ref e1, .ref e2, .int 5, .int 0])), (e1, wI tC 0 z1)] := hD
            subst hw_6
            refine lv_aload_n hx hb dX4_heldByHolders_25 rfl (lv_at hl 1 rfl) ?_
            have hPc := hP.sub (ws' := [(f, .inr (3, [.ref e1, .ref e2, .int 5, .int 0])), (e1, wI tC 0 z1)]) [1, 2] rfl
            have hDc := hD.sub (ws' := [(f, .inr (3, [.ref e1, .ref e2, .int 5, .int 0])), (e1, wI tC 0 z1)]) [1, 2] (by decide) rfl
            have hFc := va_free (wc := [(f, .inr (3, [.ref e1, .ref e2, .int 5, .int 0])), (e1, wI tC 0 z1)]) hD hS hA [1, 2] rfl
            refine va_calli (va_runVN (As := []) (rest := [.int 0]) ⟨hx, hb, hml, hown, hts⟩ (c_X2_length l hlt D tC dz H.size f e1 e2 z1 ) ⟨(va_cnB (host := "NoticeStations") 0 hts gX4_heldByHolders_X2_length_n107 rfl rfl rfl (hN.1 (.methodLinkNest "NoticeStations" 107 ⟨"NoticeStations$Standing", "length", "()I"⟩ "NoticeStations") (by decide +kernel)) w_0 (by decide +kernel) ⟨Nat.le_of_ble_eq_true rfl, Nat.le_of_ble_eq_true rfl⟩), w_1, w_2⟩ ⟨pB_blind, va_recv hK hPc (ci := 3) (q0 := 0) rfl rfl, pB_at hPc hDc hK hN hE hS hFc⟩ rfl rfl hl.1 rfl (lv_room (Nat.le_of_ble_eq_true rfl)) dX4_heldByHolders_26 ⟨Nat.le_of_ble_eq_true rfl, Nat.le_of_ble_eq_true rfl⟩) hS (fun q _ h => hFc q h) hFc (fun r_7 u t H1 locs ht hvm hw hB hz1 hk1 hS => ?_)
            obtain ⟨hP1, _, hD1⟩ := hB
            have hw_8 := hw
            rw [ht] at hP1
            obtain ⟨hP, hD⟩ := va_join (wr := [(a4, wS tC 5 gf)]) (w1 := [(f, .inr (3, [.ref e1, .ref e2, .int 5, .int 0])), (e1, wI tC 0 z1)]) hP hD [1, 2] [0] rfl rfl (by decide) (by decide) hk1 hFc hP1 hD1
            generalize H1 = H at hP hS ⊢
            have hP : va_P D vwCl [(a4, wS tC 5 gf), (f, .inr (3, [.ref e1, .ref e2, .int 5, .int 0])), (e1, wI tC 0 z1)] H := hP
            have hD : va_D A [(a4, wS tC 5 gf), (f, .inr (3, [.ref e1, .ref e2, .int 5, .int 0])), (e1, wI tC 0 z1)] := hD
            subst hw_8
            refine lv_icmp_le (tgt := 36) hx hb dX4_heldByHolders_29 (by decide) (fun _ => ?_) (fun hc => absurd (by decide) hc)
            refine lv_iinc (v := 5) (lv' := [(2, .int 5), (1, .ref f), (0, .ref a4)]) hx hb dX4_heldByHolders_36 hl (k := 0) rfl (by decide) (by decide) rfl (fun ls hl => ?_)
            refine lv_goto (tgt := 4) hx hb dX4_heldByHolders_39 (by decide) ?_
            refine lv_iload_n hx hb dX4_heldByHolders_4 rfl (lv_at hl 0 rfl) ?_
            refine lv_iconst (v := 5) hx hb dX4_heldByHolders_5 (by decide) ?_
            refine lv_icmp_ge (tgt := 42) hx hb dX4_heldByHolders_6 (by decide) (fun _ => ?_) (fun hc => absurd (by decide) hc)
            refine lv_aload_n hx hb dX4_heldByHolders_42 rfl (lv_at hl 1 rfl) ?_
            have hP9 := hP.sub (ws' := [(a4, wS tC 5 gf), (f, .inr (3, [.ref e1, .ref e2, .int 5, .int 0])), (e1, wI tC 0 z1)]) [0, 1, 2] rfl
            have hD9 := hD.sub (ws' := [(a4, wS tC 5 gf), (f, .inr (3, [.ref e1, .ref e2, .int 5, .int 0])), (e1, wI tC 0 z1)]) [0, 1, 2] (by decide) rfl
            refine W.widen (k := 0) (n := 0) (by omega) (by omega) ?_
            exact W.aret (v := .ref f) hx hb hr (Or.inl ⟨_, rfl⟩) (Or.inr ⟨_, rfl⟩) (fun t ht hW => ⟨⟨(some f), (), rfl, rfl, (by rw [ht]; exact hP9), va_K.moved hW.alike hK, hD9⟩, hS.F ht⟩) hS.2.2 dX4_heldByHolders_43 hlocks
        · skip
          refine lv_iload_n hx hb dX4_heldByHolders_4 rfl (lv_at hl 0 rfl) ?_
          refine lv_iconst (v := 5) hx hb dX4_heldByHolders_5 (by decide) ?_
          refine lv_icmp_ge (tgt := 42) hx hb dX4_heldByHolders_6 (by decide) (fun hc => absurd hc (by decide)) (fun _ => ?_)
          refine lv_aload_n hx hb dX4_heldByHolders_9 rfl (lv_at hl 2 rfl) ?_
          refine lv_iload_n hx hb dX4_heldByHolders_10 rfl (lv_at hl 0 rfl) ?_
          refine va_aldq hx hb hK hP 0 2 rfl rfl (by unfold vp_in; decide) dX4_heldByHolders_11 ?_
          rw [show gf (3 : Int32).toNatClampNeg = some f from (by rw [show (3 : Int32).toNatClampNeg = 3 by decide, hg 3 (by decide), hb3]; rfl)]
          refine W.eq (g2 := F0 m 12 ls [.ref f]) rfl ?_
          refine lv_ifnull hx hb dX4_heldByHolders_12 ?_
          refine lv_aload_n hx hb dX4_heldByHolders_15 rfl (lv_at hl 1 rfl) ?_
          refine lv_ifnull hx hb dX4_heldByHolders_16 ?_
          refine lv_aload_n hx hb dX4_heldByHolders_19 rfl (lv_at hl 2 rfl) ?_
          refine lv_iload_n hx hb dX4_heldByHolders_20 rfl (lv_at hl 0 rfl) ?_
          refine va_aldq hx hb hK hP 0 2 rfl rfl (by unfold vp_in; decide) dX4_heldByHolders_21 ?_
          rw [show gf (3 : Int32).toNatClampNeg = some f from (by rw [show (3 : Int32).toNatClampNeg = 3 by decide, hg 3 (by decide), hb3]; rfl)]
          refine W.eq (g2 := F0 m 22 ls [.ref f]) rfl ?_
          have hPc := hP.sub (ws' := [(f, .inr (3, [.ref e1, .ref e2, .int 5, .int 0])), (e1, wI tC 0 z1)]) [1, 2] rfl
          have hDc := hD.sub (ws' := [(f, .inr (3, [.ref e1, .ref e2, .int 5, .int 0])), (e1, wI tC 0 z1)]) [1, 2] (by decide) rfl
          have hFc := va_free (wc := [(f, .inr (3, [.ref e1, .ref e2, .int 5, .int 0])), (e1, wI tC 0 z1)]) hD hS hA [1, 2] rfl
          refine va_calli (va_runVN (As := []) (rest := []) ⟨hx, hb, hml, hown, hts⟩ (c_X2_length l hlt D tC dz s.heap.size f e1 e2 z1 ) ⟨(va_cnB (host := "NoticeStations") 0 hts gX4_heldByHolders_X2_length_n107 rfl rfl rfl (hN.1 (.methodLinkNest "NoticeStations" 107 ⟨"NoticeStations$Standing", "length", "()I"⟩ "NoticeStations") (by decide +kernel)) w_0 (by decide +kernel) ⟨Nat.le_of_ble_eq_true rfl, Nat.le_of_ble_eq_true rfl⟩), w_1, w_2⟩ ⟨pB_blind, va_recv hK hPc (ci := 3) (q0 := 0) rfl rfl, pB_at hPc hDc hK hN hE hS hFc⟩ rfl rfl hl.1 rfl (lv_room (Nat.le_of_ble_eq_true rfl)) dX4_heldByHolders_22 ⟨Nat.le_of_ble_eq_true rfl, Nat.le_of_ble_eq_true rfl⟩) hS (fun q _ h => hFc q h) hFc (fun r_9 u t H1 locs ht hvm hw hB hz1 hk1 hS => ?_)
          obtain ⟨hP1, _, hD1⟩ := hB
          have hw_10 := hw
          rw [ht] at hP1
          obtain ⟨hP, hD⟩ := va_join (wr := [(a4, wS tC 5 gf)]) (w1 := [(f, .inr (3, [.ref e1, .ref e2, .int 5, .int 0])), (e1, wI tC 0 z1)]) hP hD [1, 2] [0] rfl rfl (by decide) (by decide) hk1 hFc hP1 hD1
          generalize H1 = H at hP hS ⊢
          have hP : va_P D vwCl [(a4, wS tC 5 gf), (f, .inr (3, [.ref e1, .ref e2, .int 5, .int 0])), (e1, wI tC 0 z1)] H := hP
          have hD : va_D A [(a4, wS tC 5 gf), (f, .inr (3, [.ref e1, .ref e2, .int 5, .int 0])), (e1, wI tC 0 z1)] := hD
          subst hw_10
          refine lv_aload_n hx hb dX4_heldByHolders_25 rfl (lv_at hl 1 rfl) ?_
          have hPc := hP.sub (ws' := [(f, .inr (3, [.ref e1, .ref e2, .int 5, .int 0])), (e1, wI tC 0 z1)]) [1, 2] rfl
          have hDc := hD.sub (ws' := [(f, .inr (3, [.ref e1, .ref e2, .int 5, .int 0])), (e1, wI tC 0 z1)]) [1, 2] (by decide) rfl
          have hFc := va_free (wc := [(f, .inr (3, [.ref e1, .ref e2, .int 5, .int 0])), (e1, wI tC 0 z1)]) hD hS hA [1, 2] rfl
          refine va_calli (va_runVN (As := []) (rest := [.int 0]) ⟨hx, hb, hml, hown, hts⟩ (c_X2_length l hlt D tC dz H.size f e1 e2 z1 ) ⟨(va_cnB (host := "NoticeStations") 0 hts gX4_heldByHolders_X2_length_n107 rfl rfl rfl (hN.1 (.methodLinkNest "NoticeStations" 107 ⟨"NoticeStations$Standing", "length", "()I"⟩ "NoticeStations") (by decide +kernel)) w_0 (by decide +kernel) ⟨Nat.le_of_ble_eq_true rfl, Nat.le_of_ble_eq_true rfl⟩), w_1, w_2⟩ ⟨pB_blind, va_recv hK hPc (ci := 3) (q0 := 0) rfl rfl, pB_at hPc hDc hK hN hE hS hFc⟩ rfl rfl hl.1 rfl (lv_room (Nat.le_of_ble_eq_true rfl)) dX4_heldByHolders_26 ⟨Nat.le_of_ble_eq_true rfl, Nat.le_of_ble_eq_true rfl⟩) hS (fun q _ h => hFc q h) hFc (fun r_11 u t H1 locs ht hvm hw hB hz1 hk1 hS => ?_)
          obtain ⟨hP1, _, hD1⟩ := hB
          have hw_12 := hw
          rw [ht] at hP1
          obtain ⟨hP, hD⟩ := va_join (wr := [(a4, wS tC 5 gf)]) (w1 := [(f, .inr (3, [.ref e1, .ref e2, .int 5, .int 0])), (e1, wI tC 0 z1)]) hP hD [1, 2] [0] rfl rfl (by decide) (by decide) hk1 hFc hP1 hD1
          generalize H1 = H at hP hS ⊢
          have hP : va_P D vwCl [(a4, wS tC 5 gf), (f, .inr (3, [.ref e1, .ref e2, .int 5, .int 0])), (e1, wI tC 0 z1)] H := hP
          have hD : va_D A [(a4, wS tC 5 gf), (f, .inr (3, [.ref e1, .ref e2, .int 5, .int 0])), (e1, wI tC 0 z1)] := hD
          subst hw_12
          refine lv_icmp_le (tgt := 36) hx hb dX4_heldByHolders_29 (by decide) (fun _ => ?_) (fun hc => absurd (by decide) hc)
          refine lv_iinc (v := 4) (lv' := [(2, .int 4), (1, .ref f), (0, .ref a4)]) hx hb dX4_heldByHolders_36 hl (k := 0) rfl (by decide) (by decide) rfl (fun ls hl => ?_)
          refine lv_goto (tgt := 4) hx hb dX4_heldByHolders_39 (by decide) ?_
          cases hb4 : bt 4
          · skip
            refine lv_iload_n hx hb dX4_heldByHolders_4 rfl (lv_at hl 0 rfl) ?_
            refine lv_iconst (v := 5) hx hb dX4_heldByHolders_5 (by decide) ?_
            refine lv_icmp_ge (tgt := 42) hx hb dX4_heldByHolders_6 (by decide) (fun hc => absurd hc (by decide)) (fun _ => ?_)
            refine lv_aload_n hx hb dX4_heldByHolders_9 rfl (lv_at hl 2 rfl) ?_
            refine lv_iload_n hx hb dX4_heldByHolders_10 rfl (lv_at hl 0 rfl) ?_
            refine va_aldq hx hb hK hP 0 2 rfl rfl (by unfold vp_in; decide) dX4_heldByHolders_11 ?_
            rw [show gf (4 : Int32).toNatClampNeg = none from (by rw [show (4 : Int32).toNatClampNeg = 4 by decide, hg 4 (by decide), hb4]; rfl)]
            refine W.eq (g2 := F0 m 12 ls [.null]) rfl ?_
            refine lv_ifnullN (tgt := 36) hx hb dX4_heldByHolders_12 (by decide) ?_
            refine lv_iinc (v := 5) (lv' := [(2, .int 5), (1, .ref f), (0, .ref a4)]) hx hb dX4_heldByHolders_36 hl (k := 0) rfl (by decide) (by decide) rfl (fun ls hl => ?_)
            refine lv_goto (tgt := 4) hx hb dX4_heldByHolders_39 (by decide) ?_
            refine lv_iload_n hx hb dX4_heldByHolders_4 rfl (lv_at hl 0 rfl) ?_
            refine lv_iconst (v := 5) hx hb dX4_heldByHolders_5 (by decide) ?_
            refine lv_icmp_ge (tgt := 42) hx hb dX4_heldByHolders_6 (by decide) (fun _ => ?_) (fun hc => absurd (by decide) hc)
            refine lv_aload_n hx hb dX4_heldByHolders_42 rfl (lv_at hl 1 rfl) ?_
            have hP9 := hP.sub (ws' := [(a4, wS tC 5 gf), (f, .inr (3, [.ref e1, .ref e2, .int 5, .int 0])), (e1, wI tC 0 z1)]) [0, 1, 2] rfl
            have hD9 := hD.sub (ws' := [(a4, wS tC 5 gf), (f, .inr (3, [.ref e1, .ref e2, .int 5, .int 0])), (e1, wI tC 0 z1)]) [0, 1, 2] (by decide) rfl
            refine W.widen (k := 0) (n := 0) (by omega) (by omega) ?_
            exact W.aret (v := .ref f) hx hb hr (Or.inl ⟨_, rfl⟩) (Or.inr ⟨_, rfl⟩) (fun t ht hW => ⟨⟨(some f), (), rfl, rfl, (by rw [ht]; exact hP9), va_K.moved hW.alike hK, hD9⟩, hS.F ht⟩) hS.2.2 dX4_heldByHolders_43 hlocks
          · skip
            refine lv_iload_n hx hb dX4_heldByHolders_4 rfl (lv_at hl 0 rfl) ?_
            refine lv_iconst (v := 5) hx hb dX4_heldByHolders_5 (by decide) ?_
            refine lv_icmp_ge (tgt := 42) hx hb dX4_heldByHolders_6 (by decide) (fun hc => absurd hc (by decide)) (fun _ => ?_)
            refine lv_aload_n hx hb dX4_heldByHolders_9 rfl (lv_at hl 2 rfl) ?_
            refine lv_iload_n hx hb dX4_heldByHolders_10 rfl (lv_at hl 0 rfl) ?_
            refine va_aldq hx hb hK hP 0 2 rfl rfl (by unfold vp_in; decide) dX4_heldByHolders_11 ?_
            rw [show gf (4 : Int32).toNatClampNeg = some f from (by rw [show (4 : Int32).toNatClampNeg = 4 by decide, hg 4 (by decide), hb4]; rfl)]
            refine W.eq (g2 := F0 m 12 ls [.ref f]) rfl ?_
            refine lv_ifnull hx hb dX4_heldByHolders_12 ?_
            refine lv_aload_n hx hb dX4_heldByHolders_15 rfl (lv_at hl 1 rfl) ?_
            refine lv_ifnull hx hb dX4_heldByHolders_16 ?_
            refine lv_aload_n hx hb dX4_heldByHolders_19 rfl (lv_at hl 2 rfl) ?_
            refine lv_iload_n hx hb dX4_heldByHolders_20 rfl (lv_at hl 0 rfl) ?_
            refine va_aldq hx hb hK hP 0 2 rfl rfl (by unfold vp_in; decide) dX4_heldByHolders_21 ?_
            rw [show gf (4 : Int32).toNatClampNeg = some f from (by rw [show (4 : Int32).toNatClampNeg = 4 by decide, hg 4 (by decide), hb4]; rfl)]
            refine W.eq (g2 := F0 m 22 ls [.ref f]) rfl ?_
            have hPc := hP.sub (ws' := [(f, .inr (3, [.ref e1, .ref e2, .int 5, .int 0])), (e1, wI tC 0 z1)]) [1, 2] rfl
            have hDc := hD.sub (ws' := [(f, .inr (3, [.ref e1, .ref e2, .int 5, .int 0])), (e1, wI tC 0 z1)]) [1, 2] (by decide) rfl
            have hFc := va_free (wc := [(f, .inr (3, [.ref e1, .ref e2, .int 5, .int 0])), (e1, wI tC 0 z1)]) hD hS hA [1, 2] rfl
            refine va_calli (va_runVN (As := []) (rest := []) ⟨hx, hb, hml, hown, hts⟩ (c_X2_length l hlt D tC dz H.size f e1 e2 z1 ) ⟨(va_cnB (host := "NoticeStations") 0 hts gX4_heldByHolders_X2_length_n107 rfl rfl rfl (hN.1 (.methodLinkNest "NoticeStations" 107 ⟨"NoticeStations$Standing", "length", "()I"⟩ "NoticeStations") (by decide +kernel)) w_0 (by decide +kernel) ⟨Nat.le_of_ble_eq_true rfl, Nat.le_of_ble_eq_true rfl⟩), w_1, w_2⟩ ⟨pB_blind, va_recv hK hPc (ci := 3) (q0 := 0) rfl rfl, pB_at hPc hDc hK hN hE hS hFc⟩ rfl rfl hl.1 rfl (lv_room (Nat.le_of_ble_eq_true rfl)) dX4_heldByHolders_22 ⟨Nat.le_of_ble_eq_true rfl, Nat.le_of_ble_eq_true rfl⟩) hS (fun q _ h => hFc q h) hFc (fun r_13 u t H1 locs ht hvm hw hB hz1 hk1 hS => ?_)
            obtain ⟨hP1, _, hD1⟩ := hB
            have hw_14 := hw
            rw [ht] at hP1
            obtain ⟨hP, hD⟩ := va_join (wr := [(a4, wS tC 5 gf)]) (w1 := [(f, .inr (3, [.ref e1, .ref e2, .int 5, .int 0])), (e1, wI tC 0 z1)]) hP hD [1, 2] [0] rfl rfl (by decide) (by decide) hk1 hFc hP1 hD1
            generalize H1 = H at hP hS ⊢
            have hP : va_P D vwCl [(a4, wS tC 5 gf), (f, .inr (3, [.ref e1, .ref e2, .int 5, .int 0])), (e1, wI tC 0 z1)] H := hP
            have hD : va_D A [(a4, wS tC 5 gf), (f, .inr (3, [.ref e1, .ref e2, .int 5, .int 0])), (e1, wI tC 0 z1)] := hD
            subst hw_14
            refine lv_aload_n hx hb dX4_heldByHolders_25 rfl (lv_at hl 1 rfl) ?_
            have hPc := hP.sub (ws' := [(f, .inr (3, [.ref e1, .ref e2, .int 5, .int 0])), (e1, wI tC 0 z1)]) [1, 2] rfl
            have hDc := hD.sub (ws' := [(f, .inr (3, [.ref e1, .ref e2, .int 5, .int 0])), (e1, wI tC 0 z1)]) [1, 2] (by decide) rfl
            have hFc := va_free (wc := [(f, .inr (3, [.ref e1, .ref e2, .int 5, .int 0])), (e1, wI tC 0 z1)]) hD hS hA [1, 2] rfl
            refine va_calli (va_runVN (As := []) (rest := [.int 0]) ⟨hx, hb, hml, hown, hts⟩ (c_X2_length l hlt D tC dz H.size f e1 e2 z1 ) ⟨(va_cnB (host := "NoticeStations") 0 hts gX4_heldByHolders_X2_length_n107 rfl rfl rfl (hN.1 (.methodLinkNest "NoticeStations" 107 ⟨"NoticeStations$Standing", "length", "()I"⟩ "NoticeStations") (by decide +kernel)) w_0 (by decide +kernel) ⟨Nat.le_of_ble_eq_true rfl, Nat.le_of_ble_eq_true rfl⟩), w_1, w_2⟩ ⟨pB_blind, va_recv hK hPc (ci := 3) (q0 := 0) rfl rfl, pB_at hPc hDc hK hN hE hS hFc⟩ rfl rfl hl.1 rfl (lv_room (Nat.le_of_ble_eq_true rfl)) dX4_heldByHolders_26 ⟨Nat.le_of_ble_eq_true rfl, Nat.le_of_ble_eq_true rfl⟩) hS (fun q _ h => hFc q h) hFc (fun r_15 u t H1 locs ht hvm hw hB hz1 hk1 hS => ?_)
            obtain ⟨hP1, _, hD1⟩ := hB
            have hw_16 := hw
            rw [ht] at hP1
            obtain ⟨hP, hD⟩ := va_join (wr := [(a4, wS tC 5 gf)]) (w1 := [(f, .inr (3, [.ref e1, .ref e2, .int 5, .int 0])), (e1, wI tC 0 z1)]) hP hD [1, 2] [0] rfl rfl (by decide) (by decide) hk1 hFc hP1 hD1
            generalize H1 = H at hP hS ⊢
            have hP : va_P D vwCl [(a4, wS tC 5 gf), (f, .inr (3, [.ref e1, .ref e2, .int 5, .int 0])), (e1, wI tC 0 z1)] H := hP
            have hD : va_D A [(a4, wS tC 5 gf), (f, .inr (3, [.ref e1, .ref e2, .int 5, .int 0])), (e1, wI tC 0 z1)] := hD
            subst hw_16
            refine lv_icmp_le (tgt := 36) hx hb dX4_heldByHolders_29 (by decide) (fun _ => ?_) (fun hc => absurd (by decide) hc)
            refine lv_iinc (v := 5) (lv' := [(2, .int 5), (1, .ref f), (0, .ref a4)]) hx hb dX4_heldByHolders_36 hl (k := 0) rfl (by decide) (by decide) rfl (fun ls hl => ?_)
            refine lv_goto (tgt := 4) hx hb dX4_heldByHolders_39 (by decide) ?_
            refine lv_iload_n hx hb dX4_heldByHolders_4 rfl (lv_at hl 0 rfl) ?_
            refine lv_iconst (v := 5) hx hb dX4_heldByHolders_5 (by decide) ?_
            refine lv_icmp_ge (tgt := 42) hx hb dX4_heldByHolders_6 (by decide) (fun _ => ?_) (fun hc => absurd (by decide) hc)
            refine lv_aload_n hx hb dX4_heldByHolders_42 rfl (lv_at hl 1 rfl) ?_
            have hP9 := hP.sub (ws' := [(a4, wS tC 5 gf), (f, .inr (3, [.ref e1, .ref e2, .int 5, .int 0])), (e1, wI tC 0 z1)]) [0, 1, 2] rfl
            have hD9 := hD.sub (ws' := [(a4, wS tC 5 gf), (f, .inr (3, [.ref e1, .ref e2, .int 5, .int 0])), (e1, wI tC 0 z1)]) [0, 1, 2] (by decide) rfl
            refine W.widen (k := 0) (n := 0) (by omega) (by omega) ?_
            exact W.aret (v := .ref f) hx hb hr (Or.inl ⟨_, rfl⟩) (Or.inr ⟨_, rfl⟩) (fun t ht hW => ⟨⟨(some f), (), rfl, rfl, (by rw [ht]; exact hP9), va_K.moved hW.alike hK, hD9⟩, hS.F ht⟩) hS.2.2 dX4_heldByHolders_43 hlocks
    · skip
      refine lv_iload_n hx hb dX4_heldByHolders_4 rfl (lv_at hl 0 rfl) ?_
      refine lv_iconst (v := 5) hx hb dX4_heldByHolders_5 (by decide) ?_
      refine lv_icmp_ge (tgt := 42) hx hb dX4_heldByHolders_6 (by decide) (fun hc => absurd hc (by decide)) (fun _ => ?_)
      refine lv_aload_n hx hb dX4_heldByHolders_9 rfl (lv_at hl 2 rfl) ?_
      refine lv_iload_n hx hb dX4_heldByHolders_10 rfl (lv_at hl 0 rfl) ?_
      refine va_aldq hx hb hK hP 0 2 rfl rfl (by unfold vp_in; decide) dX4_heldByHolders_11 ?_
      rw [show gf (1 : Int32).toNatClampNeg = some f from (by rw [show (1 : Int32).toNatClampNeg = 1 by decide, hg 1 (by decide), hb1]; rfl)]
      refine W.eq (g2 := F0 m 12 ls [.ref f]) rfl ?_
      refine lv_ifnull hx hb dX4_heldByHolders_12 ?_
      refine lv_aload_nN hx hb dX4_heldByHolders_15 rfl (lv_at hl 1 rfl) ?_
      refine lv_ifnullN (tgt := 32) hx hb dX4_heldByHolders_16 (by decide) ?_
      refine lv_aload_n hx hb dX4_heldByHolders_32 rfl (lv_at hl 2 rfl) ?_
      refine lv_iload_n hx hb dX4_heldByHolders_33 rfl (lv_at hl 0 rfl) ?_
      refine va_aldq hx hb hK hP 0 2 rfl rfl (by unfold vp_in; decide) dX4_heldByHolders_34 ?_
      rw [show gf (1 : Int32).toNatClampNeg = some f from (by rw [show (1 : Int32).toNatClampNeg = 1 by decide, hg 1 (by decide), hb1]; rfl)]
      refine W.eq (g2 := F0 m 35 ls [.ref f]) rfl ?_
      refine lv_astore_n (lv' := [(1, .ref f), (2, .int 1), (0, .ref a4)]) hx hb dX4_heldByHolders_35 rfl hl (by decide) rfl (fun ls hl => ?_)
      refine lv_iinc (v := 2) (lv' := [(2, .int 2), (1, .ref f), (0, .ref a4)]) hx hb dX4_heldByHolders_36 hl (k := 1) rfl (by decide) (by decide) rfl (fun ls hl => ?_)
      refine lv_goto (tgt := 4) hx hb dX4_heldByHolders_39 (by decide) ?_
      cases hb2 : bt 2
      · skip
        refine lv_iload_n hx hb dX4_heldByHolders_4 rfl (lv_at hl 0 rfl) ?_
        refine lv_iconst (v := 5) hx hb dX4_heldByHolders_5 (by decide) ?_
        refine lv_icmp_ge (tgt := 42) hx hb dX4_heldByHolders_6 (by decide) (fun hc => absurd hc (by decide)) (fun _ => ?_)
        refine lv_aload_n hx hb dX4_heldByHolders_9 rfl (lv_at hl 2 rfl) ?_
        refine lv_iload_n hx hb dX4_heldByHolders_10 rfl (lv_at hl 0 rfl) ?_
        refine va_aldq hx hb hK hP 0 2 rfl rfl (by unfold vp_in; decide) dX4_heldByHolders_11 ?_
        rw [show gf (2 : Int32).toNatClampNeg = none from (by rw [show (2 : Int32).toNatClampNeg = 2 by decide, hg 2 (by decide), hb2]; rfl)]
        refine W.eq (g2 := F0 m 12 ls [.null]) rfl ?_
        refine lv_ifnullN (tgt := 36) hx hb dX4_heldByHolders_12 (by decide) ?_
        refine lv_iinc (v := 3) (lv' := [(2, .int 3), (1, .ref f), (0, .ref a4)]) hx hb dX4_heldByHolders_36 hl (k := 0) rfl (by decide) (by decide) rfl (fun ls hl => ?_)
        refine lv_goto (tgt := 4) hx hb dX4_heldByHolders_39 (by decide) ?_
        cases hb3 : bt 3
        · skip
          refine lv_iload_n hx hb dX4_heldByHolders_4 rfl (lv_at hl 0 rfl) ?_
          refine lv_iconst (v := 5) hx hb dX4_heldByHolders_5 (by decide) ?_
          refine lv_icmp_ge (tgt := 42) hx hb dX4_heldByHolders_6 (by decide) (fun hc => absurd hc (by decide)) (fun _ => ?_)
          refine lv_aload_n hx hb dX4_heldByHolders_9 rfl (lv_at hl 2 rfl) ?_
          refine lv_iload_n hx hb dX4_heldByHolders_10 rfl (lv_at hl 0 rfl) ?_
          refine va_aldq hx hb hK hP 0 2 rfl rfl (by unfold vp_in; decide) dX4_heldByHolders_11 ?_
          rw [show gf (3 : Int32).toNatClampNeg = none from (by rw [show (3 : Int32).toNatClampNeg = 3 by decide, hg 3 (by decide), hb3]; rfl)]
          refine W.eq (g2 := F0 m 12 ls [.null]) rfl ?_
          refine lv_ifnullN (tgt := 36) hx hb dX4_heldByHolders_12 (by decide) ?_
          refine lv_iinc (v := 4) (lv' := [(2, .int 4), (1, .ref f), (0, .ref a4)]) hx hb dX4_heldByHolders_36 hl (k := 0) rfl (by decide) (by decide) rfl (fun ls hl => ?_)
          refine lv_goto (tgt := 4) hx hb dX4_heldByHolders_39 (by decide) ?_
          cases hb4 : bt 4
          · skip
            refine lv_iload_n hx hb dX4_heldByHolders_4 rfl (lv_at hl 0 rfl) ?_
            refine lv_iconst (v := 5) hx hb dX4_heldByHolders_5 (by decide) ?_
            refine lv_icmp_ge (tgt := 42) hx hb dX4_heldByHolders_6 (by decide) (fun hc => absurd hc (by decide)) (fun _ => ?_)
            refine lv_aload_n hx hb dX4_heldByHolders_9 rfl (lv_at hl 2 rfl) ?_
            refine lv_iload_n hx hb dX4_heldByHolders_10 rfl (lv_at hl 0 rfl) ?_
            refine va_aldq hx hb hK hP 0 2 rfl rfl (by unfold vp_in; decide) dX4_heldByHolders_11 ?_
            rw [show gf (4 : Int32).toNatClampNeg = none from (by rw [show (4 : Int32).toNatClampNeg = 4 by decide, hg 4 (by decide), hb4]; rfl)]
            refine W.eq (g2 := F0 m 12 ls [.null]) rfl ?_
            refine lv_ifnullN (tgt := 36) hx hb dX4_heldByHolders_12 (by decide) ?_
            refine lv_iinc (v := 5) (lv' := [(2, .int 5), (1, .ref f), (0, .ref a4)]) hx hb dX4_heldByHolders_36 hl (k := 0) rfl (by decide) (by decide) rfl (fun ls hl => ?_)
            refine lv_goto (tgt := 4) hx hb dX4_heldByHolders_39 (by decide) ?_
            refine lv_iload_n hx hb dX4_heldByHolders_4 rfl (lv_at hl 0 rfl) ?_
            refine lv_iconst (v := 5) hx hb dX4_heldByHolders_5 (by decide) ?_
            refine lv_icmp_ge (tgt := 42) hx hb dX4_heldByHolders_6 (by decide) (fun _ => ?_) (fun hc => absurd (by decide) hc)
            refine lv_aload_n hx hb dX4_heldByHolders_42 rfl (lv_at hl 1 rfl) ?_
            have hP9 := hP.sub (ws' := [(a4, wS tC 5 gf), (f, .inr (3, [.ref e1, .ref e2, .int 5, .int 0])), (e1, wI tC 0 z1)]) [0, 1, 2] rfl
            have hD9 := hD.sub (ws' := [(a4, wS tC 5 gf), (f, .inr (3, [.ref e1, .ref e2, .int 5, .int 0])), (e1, wI tC 0 z1)]) [0, 1, 2] (by decide) rfl
            refine W.widen (k := 0) (n := 0) (by omega) (by omega) ?_
            exact W.aret (v := .ref f) hx hb hr (Or.inl ⟨_, rfl⟩) (Or.inr ⟨_, rfl⟩) (fun t ht hW => ⟨⟨(some f), (), rfl, rfl, (by rw [ht]; exact hP9), va_K.moved hW.alike hK, hD9⟩, hS.F ht⟩) hS.2.2 dX4_heldByHolders_43 hlocks
          · skip
            refine lv_iload_n hx hb dX4_heldByHolders_4 rfl (lv_at hl 0 rfl) ?_
            refine lv_iconst (v := 5) hx hb dX4_heldByHolders_5 (by decide) ?_
            refine lv_icmp_ge (tgt := 42) hx hb dX4_heldByHolders_6 (by decide) (fun hc => absurd hc (by decide)) (fun _ => ?_)
            refine lv_aload_n hx hb dX4_heldByHolders_9 rfl (lv_at hl 2 rfl) ?_
            refine lv_iload_n hx hb dX4_heldByHolders_10 rfl (lv_at hl 0 rfl) ?_
            refine va_aldq hx hb hK hP 0 2 rfl rfl (by unfold vp_in; decide) dX4_heldByHolders_11 ?_
            rw [show gf (4 : Int32).toNatClampNeg = some f from (by rw [show (4 : Int32).toNatClampNeg = 4 by decide, hg 4 (by decide), hb4]; rfl)]
            refine W.eq (g2 := F0 m 12 ls [.ref f]) rfl ?_
            refine lv_ifnull hx hb dX4_heldByHolders_12 ?_
            refine lv_aload_n hx hb dX4_heldByHolders_15 rfl (lv_at hl 1 rfl) ?_
            refine lv_ifnull hx hb dX4_heldByHolders_16 ?_
            refine lv_aload_n hx hb dX4_heldByHolders_19 rfl (lv_at hl 2 rfl) ?_
            refine lv_iload_n hx hb dX4_heldByHolders_20 rfl (lv_at hl 0 rfl) ?_
            refine va_aldq hx hb hK hP 0 2 rfl rfl (by unfold vp_in; decide) dX4_heldByHolders_21 ?_
            rw [show gf (4 : Int32).toNatClampNeg = some f from (by rw [show (4 : Int32).toNatClampNeg = 4 by decide, hg 4 (by decide), hb4]; rfl)]
            refine W.eq (g2 := F0 m 22 ls [.ref f]) rfl ?_
            have hPc := hP.sub (ws' := [(f, .inr (3, [.ref e1, .ref e2, .int 5, .int 0])), (e1, wI tC 0 z1)]) [1, 2] rfl
            have hDc := hD.sub (ws' := [(f, .inr (3, [.ref e1, .ref e2, .int 5, .int 0])), (e1, wI tC 0 z1)]) [1, 2] (by decide) rfl
            have hFc := va_free (wc := [(f, .inr (3, [.ref e1, .ref e2, .int 5, .int 0])), (e1, wI tC 0 z1)]) hD hS hA [1, 2] rfl
            refine va_calli (va_runVN (As := []) (rest := []) ⟨hx, hb, hml, hown, hts⟩ (c_X2_length l hlt D tC dz s.heap.size f e1 e2 z1 ) ⟨(va_cnB (host := "NoticeStations") 0 hts gX4_heldByHolders_X2_length_n107 rfl rfl rfl (hN.1 (.methodLinkNest "NoticeStations" 107 ⟨"NoticeStations$Standing", "length", "()I"⟩ "NoticeStations") (by decide +kernel)) w_0 (by decide +kernel) ⟨Nat.le_of_ble_eq_true rfl, Nat.le_of_ble_eq_true rfl⟩), w_1, w_2⟩ ⟨pB_blind, va_recv hK hPc (ci := 3) (q0 := 0) rfl rfl, pB_at hPc hDc hK hN hE hS hFc⟩ rfl rfl hl.1 rfl (lv_room (Nat.le_of_ble_eq_true rfl)) dX4_heldByHolders_22 ⟨Nat.le_of_ble_eq_true rfl, Nat.le_of_ble_eq_true rfl⟩) hS (fun q _ h => hFc q h) hFc (fun r_17 u t H1 locs ht hvm hw hB hz1 hk1 hS => ?_)
            obtain ⟨hP1, _, hD1⟩ := hB
            have hw_18 := hw
            rw [ht] at hP1
            obtain ⟨hP, hD⟩ := va_join (wr := [(a4, wS tC 5 gf)]) (w1 := [(f, .inr (3, [.ref e1, .ref e2, .int 5, .int 0])), (e1, wI tC 0 z1)]) hP hD [1, 2] [0] rfl rfl (by decide) (by decide) hk1 hFc hP1 hD1
            generalize H1 = H at hP hS ⊢
            have hP : va_P D vwCl [(a4, wS tC 5 gf), (f, .inr (3, [.ref e1, .ref e2, .int 5, .int 0])), (e1, wI tC 0 z1)] H := hP
            have hD : va_D A [(a4, wS tC 5 gf), (f, .inr (3, [.ref e1, .ref e2, .int 5, .int 0])), (e1, wI tC 0 z1)] := hD
            subst hw_18
            refine lv_aload_n hx hb dX4_heldByHolders_25 rfl (lv_at hl 1 rfl) ?_
            have hPc := hP.sub (ws' := [(f, .inr (3, [.ref e1, .ref e2, .int 5, .int 0])), (e1, wI tC 0 z1)]) [1, 2] rfl
            have hDc := hD.sub (ws' := [(f, .inr (3, [.ref e1, .ref e2, .int 5, .int 0])), (e1, wI tC 0 z1)]) [1, 2] (by decide) rfl
            have hFc := va_free (wc := [(f, .inr (3, [.ref e1, .ref e2, .int 5, .int 0])), (e1, wI tC 0 z1)]) hD hS hA [1, 2] rfl
            refine va_calli (va_runVN (As := []) (rest := [.int 0]) ⟨hx, hb, hml, hown, hts⟩ (c_X2_length l hlt D tC dz H.size f e1 e2 z1 ) ⟨(va_cnB (host := "NoticeStations") 0 hts gX4_heldByHolders_X2_length_n107 rfl rfl rfl (hN.1 (.methodLinkNest "NoticeStations" 107 ⟨"NoticeStations$Standing", "length", "()I"⟩ "NoticeStations") (by decide +kernel)) w_0 (by decide +kernel) ⟨Nat.le_of_ble_eq_true rfl, Nat.le_of_ble_eq_true rfl⟩), w_1, w_2⟩ ⟨pB_blind, va_recv hK hPc (ci := 3) (q0 := 0) rfl rfl, pB_at hPc hDc hK hN hE hS hFc⟩ rfl rfl hl.1 rfl (lv_room (Nat.le_of_ble_eq_true rfl)) dX4_heldByHolders_26 ⟨Nat.le_of_ble_eq_true rfl, Nat.le_of_ble_eq_true rfl⟩) hS (fun q _ h => hFc q h) hFc (fun r_19 u t H1 locs ht hvm hw hB hz1 hk1 hS => ?_)
            obtain ⟨hP1, _, hD1⟩ := hB
            have hw_20 := hw
            rw [ht] at hP1
            obtain ⟨hP, hD⟩ := va_join (wr := [(a4, wS tC 5 gf)]) (w1 := [(f, .inr (3, [.ref e1, .ref e2, .int 5, .int 0])), (e1, wI tC 0 z1)]) hP hD [1, 2] [0] rfl rfl (by decide) (by decide) hk1 hFc hP1 hD1
            generalize H1 = H at hP hS ⊢
            have hP : va_P D vwCl [(a4, wS tC 5 gf), (f, .inr (3, [.ref e1, .ref e2, .int 5, .int 0])), (e1, wI tC 0 z1)] H := hP
            have hD : va_D A [(a4, wS tC 5 gf), (f, .inr (3, [.ref e1, .ref e2, .int 5, .int 0])), (e1, wI tC 0 z1)] := hD
            subst hw_20
            refine lv_icmp_le (tgt := 36) hx hb dX4_heldByHolders_29 (by decide) (fun _ => ?_) (fun hc => absurd (by decide) hc)
            refine lv_iinc (v := 5) (lv' := [(2, .int 5), (1, .ref f), (0, .ref a4)]) hx hb dX4_heldByHolders_36 hl (k := 0) rfl (by decide) (by decide) rfl (fun ls hl => ?_)
            refine lv_goto (tgt := 4) hx hb dX4_heldByHolders_39 (by decide) ?_
            refine lv_iload_n hx hb dX4_heldByHolders_4 rfl (lv_at hl 0 rfl) ?_
            refine lv_iconst (v := 5) hx hb dX4_heldByHolders_5 (by decide) ?_
            refine lv_icmp_ge (tgt := 42) hx hb dX4_heldByHolders_6 (by decide) (fun _ => ?_) (fun hc => absurd (by decide) hc)
            refine lv_aload_n hx hb dX4_heldByHolders_42 rfl (lv_at hl 1 rfl) ?_
            have hP9 := hP.sub (ws' := [(a4, wS tC 5 gf), (f, .inr (3, [.ref e1, .ref e2, .int 5, .int 0])), (e1, wI tC 0 z1)]) [0, 1, 2] rfl
            have hD9 := hD.sub (ws' := [(a4, wS tC 5 gf), (f, .inr (3, [.ref e1, .ref e2, .int 5, .int 0])), (e1, wI tC 0 z1)]) [0, 1, 2] (by decide) rfl
            refine W.widen (k := 0) (n := 0) (by omega) (by omega) ?_
            exact W.aret (v := .ref f) hx hb hr (Or.inl ⟨_, rfl⟩) (Or.inr ⟨_, rfl⟩) (fun t ht hW => ⟨⟨(some f), (), rfl, rfl, (by rw [ht]; exact hP9), va_K.moved hW.alike hK, hD9⟩, hS.F ht⟩) hS.2.2 dX4_heldByHolders_43 hlocks
        · skip
          refine lv_iload_n hx hb dX4_heldByHolders_4 rfl (lv_at hl 0 rfl) ?_
          refine lv_iconst (v := 5) hx hb dX4_heldByHolders_5 (by decide) ?_
          refine lv_icmp_ge (tgt := 42) hx hb dX4_heldByHolders_6 (by decide) (fun hc => absurd hc (by decide)) (fun _ => ?_)
          refine lv_aload_n hx hb dX4_heldByHolders_9 rfl (lv_at hl 2 rfl) ?_
          refine lv_iload_n hx hb dX4_heldByHolders_10 rfl (lv_at hl 0 rfl) ?_
          refine va_aldq hx hb hK hP 0 2 rfl rfl (by unfold vp_in; decide) dX4_heldByHolders_11 ?_
          rw [show gf (3 : Int32).toNatClampNeg = some f from (by rw [show (3 : Int32).toNatClampNeg = 3 by decide, hg 3 (by decide), hb3]; rfl)]
          refine W.eq (g2 := F0 m 12 ls [.ref f]) rfl ?_
          refine lv_ifnull hx hb dX4_heldByHolders_12 ?_
          refine lv_aload_n hx hb dX4_heldByHolders_15 rfl (lv_at hl 1 rfl) ?_
          refine lv_ifnull hx hb dX4_heldByHolders_16 ?_
          refine lv_aload_n hx hb dX4_heldByHolders_19 rfl (lv_at hl 2 rfl) ?_
          refine lv_iload_n hx hb dX4_heldByHolders_20 rfl (lv_at hl 0 rfl) ?_
          refine va_aldq hx hb hK hP 0 2 rfl rfl (by unfold vp_in; decide) dX4_heldByHolders_21 ?_
          rw [show gf (3 : Int32).toNatClampNeg = some f from (by rw [show (3 : Int32).toNatClampNeg = 3 by decide, hg 3 (by decide), hb3]; rfl)]
          refine W.eq (g2 := F0 m 22 ls [.ref f]) rfl ?_
          have hPc := hP.sub (ws' := [(f, .inr (3, [.ref e1, .ref e2, .int 5, .int 0])), (e1, wI tC 0 z1)]) [1, 2] rfl
          have hDc := hD.sub (ws' := [(f, .inr (3, [.ref e1, .ref e2, .int 5, .int 0])), (e1, wI tC 0 z1)]) [1, 2] (by decide) rfl
          have hFc := va_free (wc := [(f, .inr (3, [.ref e1, .ref e2, .int 5, .int 0])), (e1, wI tC 0 z1)]) hD hS hA [1, 2] rfl
          refine va_calli (va_runVN (As := []) (rest := []) ⟨hx, hb, hml, hown, hts⟩ (c_X2_length l hlt D tC dz s.heap.size f e1 e2 z1 ) ⟨(va_cnB (host := "NoticeStations") 0 hts gX4_heldByHolders_X2_length_n107 rfl rfl rfl (hN.1 (.methodLinkNest "NoticeStations" 107 ⟨"NoticeStations$Standing", "length", "()I"⟩ "NoticeStations") (by decide +kernel)) w_0 (by decide +kernel) ⟨Nat.le_of_ble_eq_true rfl, Nat.le_of_ble_eq_true rfl⟩), w_1, w_2⟩ ⟨pB_blind, va_recv hK hPc (ci := 3) (q0 := 0) rfl rfl, pB_at hPc hDc hK hN hE hS hFc⟩ rfl rfl hl.1 rfl (lv_room (Nat.le_of_ble_eq_true rfl)) dX4_heldByHolders_22 ⟨Nat.le_of_ble_eq_true rfl, Nat.le_of_ble_eq_true rfl⟩) hS (fun q _ h => hFc q h) hFc (fun r_21 u t H1 locs ht hvm hw hB hz1 hk1 hS => ?_)
          obtain ⟨hP1, _, hD1⟩ := hB
          have hw_22 := hw
          rw [ht] at hP1
          obtain ⟨hP, hD⟩ := va_join (wr := [(a4, wS tC 5 gf)]) (w1 := [(f, .inr (3, [.ref e1, .ref e2, .int 5, .int 0])), (e1, wI tC 0 z1)]) hP hD [1, 2] [0] rfl rfl (by decide) (by decide) hk1 hFc hP1 hD1
          generalize H1 = H at hP hS ⊢
          have hP : va_P D vwCl [(a4, wS tC 5 gf), (f, .inr (3, [.ref e1, .ref e2, .int 5, .int 0])), (e1, wI tC 0 z1)] H := hP
          have hD : va_D A [(a4, wS tC 5 gf), (f, .inr (3, [.ref e1, .ref e2, .int 5, .int 0])), (e1, wI tC 0 z1)] := hD
          subst hw_22
          refine lv_aload_n hx hb dX4_heldByHolders_25 rfl (lv_at hl 1 rfl) ?_
          have hPc := hP.sub (ws' := [(f, .inr (3, [.ref e1, .ref e2, .int 5, .int 0])), (e1, wI tC 0 z1)]) [1, 2] rfl
          have hDc := hD.sub (ws' := [(f, .inr (3, [.ref e1, .ref e2, .int 5, .int 0])), (e1, wI tC 0 z1)]) [1, 2] (by decide) rfl
          have hFc := va_free (wc := [(f, .inr (3, [.ref e1, .ref e2, .int 5, .int 0])), (e1, wI tC 0 z1)]) hD hS hA [1, 2] rfl
          refine va_calli (va_runVN (As := []) (rest := [.int 0]) ⟨hx, hb, hml, hown, hts⟩ (c_X2_length l hlt D tC dz H.size f e1 e2 z1 ) ⟨(va_cnB (host := "NoticeStations") 0 hts gX4_heldByHolders_X2_length_n107 rfl rfl rfl (hN.1 (.methodLinkNest "NoticeStations" 107 ⟨"NoticeStations$Standing", "length", "()I"⟩ "NoticeStations") (by decide +kernel)) w_0 (by decide +kernel) ⟨Nat.le_of_ble_eq_true rfl, Nat.le_of_ble_eq_true rfl⟩), w_1, w_2⟩ ⟨pB_blind, va_recv hK hPc (ci := 3) (q0 := 0) rfl rfl, pB_at hPc hDc hK hN hE hS hFc⟩ rfl rfl hl.1 rfl (lv_room (Nat.le_of_ble_eq_true rfl)) dX4_heldByHolders_26 ⟨Nat.le_of_ble_eq_true rfl, Nat.le_of_ble_eq_true rfl⟩) hS (fun q _ h => hFc q h) hFc (fun r_23 u t H1 locs ht hvm hw hB hz1 hk1 hS => ?_)
          obtain ⟨hP1, _, hD1⟩ := hB
          have hw_24 := hw
          rw [ht] at hP1
          obtain ⟨hP, hD⟩ := va_join (wr := [(a4, wS tC 5 gf)]) (w1 := [(f, .inr (3, [.ref e1, .ref e2, .int 5, .int 0])), (e1, wI tC 0 z1)]) hP hD [1, 2] [0] rfl rfl (by decide) (by decide) hk1 hFc hP1 hD1
          generalize H1 = H at hP hS ⊢
          have hP : va_P D vwCl [(a4, wS tC 5 gf), (f, .inr (3, [.ref e1, .ref e2, .int 5, .int 0])), (e1, wI tC 0 z1)] H := hP
          have hD : va_D A [(a4, wS tC 5 gf), (f, .inr (3, [.ref e1, .ref e2, .int 5, .int 0])), (e1, wI tC 0 z1)] := hD
          subst hw_24
          refine lv_icmp_le (tgt := 36) hx hb dX4_heldByHolders_29 (by decide) (fun _ => ?_) (fun hc => absurd (by decide) hc)
          refine lv_iinc (v := 4) (lv' := [(2, .int 4), (1, .ref f), (0, .ref a4)]) hx hb dX4_heldByHolders_36 hl (k := 0) rfl (by decide) (by decide) rfl (fun ls hl => ?_)
          refine lv_goto (tgt := 4) hx hb dX4_heldByHolders_39 (by decide) ?_
          cases hb4 : bt 4
          · skip
            refine lv_iload_n hx hb dX4_heldByHolders_4 rfl (lv_at hl 0 rfl) ?_
            refine lv_iconst (v := 5) hx hb dX4_heldByHolders_5 (by decide) ?_
            refine lv_icmp_ge (tgt := 42) hx hb dX4_heldByHolders_6 (by decide) (fun hc => absurd hc (by decide)) (fun _ => ?_)
            refine lv_aload_n hx hb dX4_heldByHolders_9 rfl (lv_at hl 2 rfl) ?_
            refine lv_iload_n hx hb dX4_heldByHolders_10 rfl (lv_at hl 0 rfl) ?_
            refine va_aldq hx hb hK hP 0 2 rfl rfl (by unfold vp_in; decide) dX4_heldByHolders_11 ?_
            rw [show gf (4 : Int32).toNatClampNeg = none from (by rw [show (4 : Int32).toNatClampNeg = 4 by decide, hg 4 (by decide), hb4]; rfl)]
            refine W.eq (g2 := F0 m 12 ls [.null]) rfl ?_
            refine lv_ifnullN (tgt := 36) hx hb dX4_heldByHolders_12 (by decide) ?_
            refine lv_iinc (v := 5) (lv' := [(2, .int 5), (1, .ref f), (0, .ref a4)]) hx hb dX4_heldByHolders_36 hl (k := 0) rfl (by decide) (by decide) rfl (fun ls hl => ?_)
            refine lv_goto (tgt := 4) hx hb dX4_heldByHolders_39 (by decide) ?_
            refine lv_iload_n hx hb dX4_heldByHolders_4 rfl (lv_at hl 0 rfl) ?_
            refine lv_iconst (v := 5) hx hb dX4_heldByHolders_5 (by decide) ?_
            refine lv_icmp_ge (tgt := 42) hx hb dX4_heldByHolders_6 (by decide) (fun _ => ?_) (fun hc => absurd (by decide) hc)
            refine lv_aload_n hx hb dX4_heldByHolders_42 rfl (lv_at hl 1 rfl) ?_
            have hP9 := hP.sub (ws' := [(a4, wS tC 5 gf), (f, .inr (3, [.ref e1, .ref e2, .int 5, .int 0])), (e1, wI tC 0 z1)]) [0, 1, 2] rfl
            have hD9 := hD.sub (ws' := [(a4, wS tC 5 gf), (f, .inr (3, [.ref e1, .ref e2, .int 5, .int 0])), (e1, wI tC 0 z1)]) [0, 1, 2] (by decide) rfl
            refine W.widen (k := 0) (n := 0) (by omega) (by omega) ?_
            exact W.aret (v := .ref f) hx hb hr (Or.inl ⟨_, rfl⟩) (Or.inr ⟨_, rfl⟩) (fun t ht hW => ⟨⟨(some f), (), rfl, rfl, (by rw [ht]; exact hP9), va_K.moved hW.alike hK, hD9⟩, hS.F ht⟩) hS.2.2 dX4_heldByHolders_43 hlocks
          · skip
            refine lv_iload_n hx hb dX4_heldByHolders_4 rfl (lv_at hl 0 rfl) ?_
            refine lv_iconst (v := 5) hx hb dX4_heldByHolders_5 (by decide) ?_
            refine lv_icmp_ge (tgt := 42) hx hb dX4_heldByHolders_6 (by decide) (fun hc => absurd hc (by decide)) (fun _ => ?_)
            refine lv_aload_n hx hb dX4_heldByHolders_9 rfl (lv_at hl 2 rfl) ?_
            refine lv_iload_n hx hb dX4_heldByHolders_10 rfl (lv_at hl 0 rfl) ?_
            refine va_aldq hx hb hK hP 0 2 rfl rfl (by unfold vp_in; decide) dX4_heldByHolders_11 ?_
            rw [show gf (4 : Int32).toNatClampNeg = some f from (by rw [show (4 : Int32).toNatClampNeg = 4 by decide, hg 4 (by decide), hb4]; rfl)]
            refine W.eq (g2 := F0 m 12 ls [.ref f]) rfl ?_
            refine lv_ifnull hx hb dX4_heldByHolders_12 ?_
            refine lv_aload_n hx hb dX4_heldByHolders_15 rfl (lv_at hl 1 rfl) ?_
            refine lv_ifnull hx hb dX4_heldByHolders_16 ?_
            refine lv_aload_n hx hb dX4_heldByHolders_19 rfl (lv_at hl 2 rfl) ?_
            refine lv_iload_n hx hb dX4_heldByHolders_20 rfl (lv_at hl 0 rfl) ?_
            refine va_aldq hx hb hK hP 0 2 rfl rfl (by unfold vp_in; decide) dX4_heldByHolders_21 ?_
            rw [show gf (4 : Int32).toNatClampNeg = some f from (by rw [show (4 : Int32).toNatClampNeg = 4 by decide, hg 4 (by decide), hb4]; rfl)]
            refine W.eq (g2 := F0 m 22 ls [.ref f]) rfl ?_
            have hPc := hP.sub (ws' := [(f, .inr (3, [.ref e1, .ref e2, .int 5, .int 0])), (e1, wI tC 0 z1)]) [1, 2] rfl
            have hDc := hD.sub (ws' := [(f, .inr (3, [.ref e1, .ref e2, .int 5, .int 0])), (e1, wI tC 0 z1)]) [1, 2] (by decide) rfl
            have hFc := va_free (wc := [(f, .inr (3, [.ref e1, .ref e2, .int 5, .int 0])), (e1, wI tC 0 z1)]) hD hS hA [1, 2] rfl
            refine va_calli (va_runVN (As := []) (rest := []) ⟨hx, hb, hml, hown, hts⟩ (c_X2_length l hlt D tC dz H.size f e1 e2 z1 ) ⟨(va_cnB (host := "NoticeStations") 0 hts gX4_heldByHolders_X2_length_n107 rfl rfl rfl (hN.1 (.methodLinkNest "NoticeStations" 107 ⟨"NoticeStations$Standing", "length", "()I"⟩ "NoticeStations") (by decide +kernel)) w_0 (by decide +kernel) ⟨Nat.le_of_ble_eq_true rfl, Nat.le_of_ble_eq_true rfl⟩), w_1, w_2⟩ ⟨pB_blind, va_recv hK hPc (ci := 3) (q0 := 0) rfl rfl, pB_at hPc hDc hK hN hE hS hFc⟩ rfl rfl hl.1 rfl (lv_room (Nat.le_of_ble_eq_true rfl)) dX4_heldByHolders_22 ⟨Nat.le_of_ble_eq_true rfl, Nat.le_of_ble_eq_true rfl⟩) hS (fun q _ h => hFc q h) hFc (fun r_25 u t H1 locs ht hvm hw hB hz1 hk1 hS => ?_)
            obtain ⟨hP1, _, hD1⟩ := hB
            have hw_26 := hw
            rw [ht] at hP1
            obtain ⟨hP, hD⟩ := va_join (wr := [(a4, wS tC 5 gf)]) (w1 := [(f, .inr (3, [.ref e1, .ref e2, .int 5, .int 0])), (e1, wI tC 0 z1)]) hP hD [1, 2] [0] rfl rfl (by decide) (by decide) hk1 hFc hP1 hD1
            generalize H1 = H at hP hS ⊢
            have hP : va_P D vwCl [(a4, wS tC 5 gf), (f, .inr (3, [.ref e1, .ref e2, .int 5, .int 0])), (e1, wI tC 0 z1)] H := hP
            have hD : va_D A [(a4, wS tC 5 gf), (f, .inr (3, [.ref e1, .ref e2, .int 5, .int 0])), (e1, wI tC 0 z1)] := hD
            subst hw_26
            refine lv_aload_n hx hb dX4_heldByHolders_25 rfl (lv_at hl 1 rfl) ?_
            have hPc := hP.sub (ws' := [(f, .inr (3, [.ref e1, .ref e2, .int 5, .int 0])), (e1, wI tC 0 z1)]) [1, 2] rfl
            have hDc := hD.sub (ws' := [(f, .inr (3, [.ref e1, .ref e2, .int 5, .int 0])), (e1, wI tC 0 z1)]) [1, 2] (by decide) rfl
            have hFc := va_free (wc := [(f, .inr (3, [.ref e1, .ref e2, .int 5, .int 0])), (e1, wI tC 0 z1)]) hD hS hA [1, 2] rfl
            refine va_calli (va_runVN (As := []) (rest := [.int 0]) ⟨hx, hb, hml, hown, hts⟩ (c_X2_length l hlt D tC dz H.size f e1 e2 z1 ) ⟨(va_cnB (host := "NoticeStations") 0 hts gX4_heldByHolders_X2_length_n107 rfl rfl rfl (hN.1 (.methodLinkNest "NoticeStations" 107 ⟨"NoticeStations$Standing", "length", "()I"⟩ "NoticeStations") (by decide +kernel)) w_0 (by decide +kernel) ⟨Nat.le_of_ble_eq_true rfl, Nat.le_of_ble_eq_true rfl⟩), w_1, w_2⟩ ⟨pB_blind, va_recv hK hPc (ci := 3) (q0 := 0) rfl rfl, pB_at hPc hDc hK hN hE hS hFc⟩ rfl rfl hl.1 rfl (lv_room (Nat.le_of_ble_eq_true rfl)) dX4_heldByHolders_26 ⟨Nat.le_of_ble_eq_true rfl, Nat.le_of_ble_eq_true rfl⟩) hS (fun q _ h => hFc q h) hFc (fun r_27 u t H1 locs ht hvm hw hB hz1 hk1 hS => ?_)
            obtain ⟨hP1, _, hD1⟩ := hB
            have hw_28 := hw
            rw [ht] at hP1
            obtain ⟨hP, hD⟩ := va_join (wr := [(a4, wS tC 5 gf)]) (w1 := [(f, .inr (3, [.ref e1, .ref e2, .int 5, .int 0])), (e1, wI tC 0 z1)]) hP hD [1, 2] [0] rfl rfl (by decide) (by decide) hk1 hFc hP1 hD1
            generalize H1 = H at hP hS ⊢
            have hP : va_P D vwCl [(a4, wS tC 5 gf), (f, .inr (3, [.ref e1, .ref e2, .int 5, .int 0])), (e1, wI tC 0 z1)] H := hP
            have hD : va_D A [(a4, wS tC 5 gf), (f, .inr (3, [.ref e1, .ref e2, .int 5, .int 0])), (e1, wI tC 0 z1)] := hD
            subst hw_28
            refine lv_icmp_le (tgt := 36) hx hb dX4_heldByHolders_29 (by decide) (fun _ => ?_) (fun hc => absurd (by decide) hc)
            refine lv_iinc (v := 5) (lv' := [(2, .int 5), (1, .ref f), (0, .ref a4)]) hx hb dX4_heldByHolders_36 hl (k := 0) rfl (by decide) (by decide) rfl (fun ls hl => ?_)
            refine lv_goto (tgt := 4) hx hb dX4_heldByHolders_39 (by decide) ?_
            refine lv_iload_n hx hb dX4_heldByHolders_4 rfl (lv_at hl 0 rfl) ?_
            refine lv_iconst (v := 5) hx hb dX4_heldByHolders_5 (by decide) ?_
            refine lv_icmp_ge (tgt := 42) hx hb dX4_heldByHolders_6 (by decide) (fun _ => ?_) (fun hc => absurd (by decide) hc)
            refine lv_aload_n hx hb dX4_heldByHolders_42 rfl (lv_at hl 1 rfl) ?_
            have hP9 := hP.sub (ws' := [(a4, wS tC 5 gf), (f, .inr (3, [.ref e1, .ref e2, .int 5, .int 0])), (e1, wI tC 0 z1)]) [0, 1, 2] rfl
            have hD9 := hD.sub (ws' := [(a4, wS tC 5 gf), (f, .inr (3, [.ref e1, .ref e2, .int 5, .int 0])), (e1, wI tC 0 z1)]) [0, 1, 2] (by decide) rfl
            refine W.widen (k := 0) (n := 0) (by omega) (by omega) ?_
            exact W.aret (v := .ref f) hx hb hr (Or.inl ⟨_, rfl⟩) (Or.inr ⟨_, rfl⟩) (fun t ht hW => ⟨⟨(some f), (), rfl, rfl, (by rw [ht]; exact hP9), va_K.moved hW.alike hK, hD9⟩, hS.F ht⟩) hS.2.2 dX4_heldByHolders_43 hlocks
      · skip
        refine lv_iload_n hx hb dX4_heldByHolders_4 rfl (lv_at hl 0 rfl) ?_
        refine lv_iconst (v := 5) hx hb dX4_heldByHolders_5 (by decide) ?_
        refine lv_icmp_ge (tgt := 42) hx hb dX4_heldByHolders_6 (by decide) (fun hc => absurd hc (by decide)) (fun _ => ?_)
        refine lv_aload_n hx hb dX4_heldByHolders_9 rfl (lv_at hl 2 rfl) ?_
        refine lv_iload_n hx hb dX4_heldByHolders_10 rfl (lv_at hl 0 rfl) ?_
        refine va_aldq hx hb hK hP 0 2 rfl rfl (by unfold vp_in; decide) dX4_heldByHolders_11 ?_
        rw [show gf (2 : Int32).toNatClampNeg = some f from (by rw [show (2 : Int32).toNatClampNeg = 2 by decide, hg 2 (by decide), hb2]; rfl)]
        refine W.eq (g2 := F0 m 12 ls [.ref f]) rfl ?_
        refine lv_ifnull hx hb dX4_heldByHolders_12 ?_
        refine lv_aload_n hx hb dX4_heldByHolders_15 rfl (lv_at hl 1 rfl) ?_
        refine lv_ifnull hx hb dX4_heldByHolders_16 ?_
        refine lv_aload_n hx hb dX4_heldByHolders_19 rfl (lv_at hl 2 rfl) ?_
        refine lv_iload_n hx hb dX4_heldByHolders_20 rfl (lv_at hl 0 rfl) ?_
        refine va_aldq hx hb hK hP 0 2 rfl rfl (by unfold vp_in; decide) dX4_heldByHolders_21 ?_
        rw [show gf (2 : Int32).toNatClampNeg = some f from (by rw [show (2 : Int32).toNatClampNeg = 2 by decide, hg 2 (by decide), hb2]; rfl)]
        refine W.eq (g2 := F0 m 22 ls [.ref f]) rfl ?_
        have hPc := hP.sub (ws' := [(f, .inr (3, [.ref e1, .ref e2, .int 5, .int 0])), (e1, wI tC 0 z1)]) [1, 2] rfl
        have hDc := hD.sub (ws' := [(f, .inr (3, [.ref e1, .ref e2, .int 5, .int 0])), (e1, wI tC 0 z1)]) [1, 2] (by decide) rfl
        have hFc := va_free (wc := [(f, .inr (3, [.ref e1, .ref e2, .int 5, .int 0])), (e1, wI tC 0 z1)]) hD hS hA [1, 2] rfl
        refine va_calli (va_runVN (As := []) (rest := []) ⟨hx, hb, hml, hown, hts⟩ (c_X2_length l hlt D tC dz s.heap.size f e1 e2 z1 ) ⟨(va_cnB (host := "NoticeStations") 0 hts gX4_heldByHolders_X2_length_n107 rfl rfl rfl (hN.1 (.methodLinkNest "NoticeStations" 107 ⟨"NoticeStations$Standing", "length", "()I"⟩ "NoticeStations") (by decide +kernel)) w_0 (by decide +kernel) ⟨Nat.le_of_ble_eq_true rfl, Nat.le_of_ble_eq_true rfl⟩), w_1, w_2⟩ ⟨pB_blind, va_recv hK hPc (ci := 3) (q0 := 0) rfl rfl, pB_at hPc hDc hK hN hE hS hFc⟩ rfl rfl hl.1 rfl (lv_room (Nat.le_of_ble_eq_true rfl)) dX4_heldByHolders_22 ⟨Nat.le_of_ble_eq_true rfl, Nat.le_of_ble_eq_true rfl⟩) hS (fun q _ h => hFc q h) hFc (fun r_29 u t H1 locs ht hvm hw hB hz1 hk1 hS => ?_)
        obtain ⟨hP1, _, hD1⟩ := hB
        have hw_30 := hw
        rw [ht] at hP1
        obtain ⟨hP, hD⟩ := va_join (wr := [(a4, wS tC 5 gf)]) (w1 := [(f, .inr (3, [.ref e1, .ref e2, .int 5, .int 0])), (e1, wI tC 0 z1)]) hP hD [1, 2] [0] rfl rfl (by decide) (by decide) hk1 hFc hP1 hD1
        generalize H1 = H at hP hS ⊢
        have hP : va_P D vwCl [(a4, wS tC 5 gf), (f, .inr (3, [.ref e1, .ref e2, .int 5, .int 0])), (e1, wI tC 0 z1)] H := hP
        have hD : va_D A [(a4, wS tC 5 gf), (f, .inr (3, [.ref e1, .ref e2, .int 5, .int 0])), (e1, wI tC 0 z1)] := hD
        subst hw_30
        refine lv_aload_n hx hb dX4_heldByHolders_25 rfl (lv_at hl 1 rfl) ?_
        have hPc := hP.sub (ws' := [(f, .inr (3, [.ref e1, .ref e2, .int 5, .int 0])), (e1, wI tC 0 z1)]) [1, 2] rfl
        have hDc := hD.sub (ws' := [(f, .inr (3, [.ref e1, .ref e2, .int 5, .int 0])), (e1, wI tC 0 z1)]) [1, 2] (by decide) rfl
        have hFc := va_free (wc := [(f, .inr (3, [.ref e1, .ref e2, .int 5, .int 0])), (e1, wI tC 0 z1)]) hD hS hA [1, 2] rfl
        refine va_calli (va_runVN (As := []) (rest := [.int 0]) ⟨hx, hb, hml, hown, hts⟩ (c_X2_length l hlt D tC dz H.size f e1 e2 z1 ) ⟨(va_cnB (host := "NoticeStations") 0 hts gX4_heldByHolders_X2_length_n107 rfl rfl rfl (hN.1 (.methodLinkNest "NoticeStations" 107 ⟨"NoticeStations$Standing", "length", "()I"⟩ "NoticeStations") (by decide +kernel)) w_0 (by decide +kernel) ⟨Nat.le_of_ble_eq_true rfl, Nat.le_of_ble_eq_true rfl⟩), w_1, w_2⟩ ⟨pB_blind, va_recv hK hPc (ci := 3) (q0 := 0) rfl rfl, pB_at hPc hDc hK hN hE hS hFc⟩ rfl rfl hl.1 rfl (lv_room (Nat.le_of_ble_eq_true rfl)) dX4_heldByHolders_26 ⟨Nat.le_of_ble_eq_true rfl, Nat.le_of_ble_eq_true rfl⟩) hS (fun q _ h => hFc q h) hFc (fun r_31 u t H1 locs ht hvm hw hB hz1 hk1 hS => ?_)
        obtain ⟨hP1, _, hD1⟩ := hB
        have hw_32 := hw
        rw [ht] at hP1
        obtain ⟨hP, hD⟩ := va_join (wr := [(a4, wS tC 5 gf)]) (w1 := [(f, .inr (3, [.ref e1, .ref e2, .int 5, .int 0])), (e1, wI tC 0 z1)]) hP hD [1, 2] [0] rfl rfl (by decide) (by decide) hk1 hFc hP1 hD1
        generalize H1 = H at hP hS ⊢
        have hP : va_P D vwCl [(a4, wS tC 5 gf), (f, .inr (3, [.ref e1, .ref e2, .int 5, .int 0])), (e1, wI tC 0 z1)] H := hP
        have hD : va_D A [(a4, wS tC 5 gf), (f, .inr (3, [.ref e1, .ref e2, .int 5, .int 0])), (e1, wI tC 0 z1)] := hD
        subst hw_32
        refine lv_icmp_le (tgt := 36) hx hb dX4_heldByHolders_29 (by decide) (fun _ => ?_) (fun hc => absurd (by decide) hc)
        refine lv_iinc (v := 3) (lv' := [(2, .int 3), (1, .ref f), (0, .ref a4)]) hx hb dX4_heldByHolders_36 hl (k := 0) rfl (by decide) (by decide) rfl (fun ls hl => ?_)
        refine lv_goto (tgt := 4) hx hb dX4_heldByHolders_39 (by decide) ?_
        cases hb3 : bt 3
        · skip
          refine lv_iload_n hx hb dX4_heldByHolders_4 rfl (lv_at hl 0 rfl) ?_
          refine lv_iconst (v := 5) hx hb dX4_heldByHolders_5 (by decide) ?_
          refine lv_icmp_ge (tgt := 42) hx hb dX4_heldByHolders_6 (by decide) (fun hc => absurd hc (by decide)) (fun _ => ?_)
          refine lv_aload_n hx hb dX4_heldByHolders_9 rfl (lv_at hl 2 rfl) ?_
          refine lv_iload_n hx hb dX4_heldByHolders_10 rfl (lv_at hl 0 rfl) ?_
          refine va_aldq hx hb hK hP 0 2 rfl rfl (by unfold vp_in; decide) dX4_heldByHolders_11 ?_
          rw [show gf (3 : Int32).toNatClampNeg = none from (by rw [show (3 : Int32).toNatClampNeg = 3 by decide, hg 3 (by decide), hb3]; rfl)]
          refine W.eq (g2 := F0 m 12 ls [.null]) rfl ?_
          refine lv_ifnullN (tgt := 36) hx hb dX4_heldByHolders_12 (by decide) ?_
          refine lv_iinc (v := 4) (lv' := [(2, .int 4), (1, .ref f), (0, .ref a4)]) hx hb dX4_heldByHolders_36 hl (k := 0) rfl (by decide) (by decide) rfl (fun ls hl => ?_)
          refine lv_goto (tgt := 4) hx hb dX4_heldByHolders_39 (by decide) ?_
          cases hb4 : bt 4
          · skip
            refine lv_iload_n hx hb dX4_heldByHolders_4 rfl (lv_at hl 0 rfl) ?_
            refine lv_iconst (v := 5) hx hb dX4_heldByHolders_5 (by decide) ?_
            refine lv_icmp_ge (tgt := 42) hx hb dX4_heldByHolders_6 (by decide) (fun hc => absurd hc (by decide)) (fun _ => ?_)
            refine lv_aload_n hx hb dX4_heldByHolders_9 rfl (lv_at hl 2 rfl) ?_
            refine lv_iload_n hx hb dX4_heldByHolders_10 rfl (lv_at hl 0 rfl) ?_
            refine va_aldq hx hb hK hP 0 2 rfl rfl (by unfold vp_in; decide) dX4_heldByHolders_11 ?_
            rw [show gf (4 : Int32).toNatClampNeg = none from (by rw [show (4 : Int32).toNatClampNeg = 4 by decide, hg 4 (by decide), hb4]; rfl)]
            refine W.eq (g2 := F0 m 12 ls [.null]) rfl ?_
            refine lv_ifnullN (tgt := 36) hx hb dX4_heldByHolders_12 (by decide) ?_
            refine lv_iinc (v := 5) (lv' := [(2, .int 5), (1, .ref f), (0, .ref a4)]) hx hb dX4_heldByHolders_36 hl (k := 0) rfl (by decide) (by decide) rfl (fun ls hl => ?_)
            refine lv_goto (tgt := 4) hx hb dX4_heldByHolders_39 (by decide) ?_
            refine lv_iload_n hx hb dX4_heldByHolders_4 rfl (lv_at hl 0 rfl) ?_
            refine lv_iconst (v := 5) hx hb dX4_heldByHolders_5 (by decide) ?_
            refine lv_icmp_ge (tgt := 42) hx hb dX4_heldByHolders_6 (by decide) (fun _ => ?_) (fun hc => absurd (by decide) hc)
            refine lv_aload_n hx hb dX4_heldByHolders_42 rfl (lv_at hl 1 rfl) ?_
            have hP9 := hP.sub (ws' := [(a4, wS tC 5 gf), (f, .inr (3, [.ref e1, .ref e2, .int 5, .int 0])), (e1, wI tC 0 z1)]) [0, 1, 2] rfl
            have hD9 := hD.sub (ws' := [(a4, wS tC 5 gf), (f, .inr (3, [.ref e1, .ref e2, .int 5, .int 0])), (e1, wI tC 0 z1)]) [0, 1, 2] (by decide) rfl
            refine W.widen (k := 0) (n := 0) (by omega) (by omega) ?_
            exact W.aret (v := .ref f) hx hb hr (Or.inl ⟨_, rfl⟩) (Or.inr ⟨_, rfl⟩) (fun t ht hW => ⟨⟨(some f), (), rfl, rfl, (by rw [ht]; exact hP9), va_K.moved hW.alike hK, hD9⟩, hS.F ht⟩) hS.2.2 dX4_heldByHolders_43 hlocks
          · skip
            refine lv_iload_n hx hb dX4_heldByHolders_4 rfl (lv_at hl 0 rfl) ?_
            refine lv_iconst (v := 5) hx hb dX4_heldByHolders_5 (by decide) ?_
            refine lv_icmp_ge (tgt := 42) hx hb dX4_heldByHolders_6 (by decide) (fun hc => absurd hc (by decide)) (fun _ => ?_)
            refine lv_aload_n hx hb dX4_heldByHolders_9 rfl (lv_at hl 2 rfl) ?_
            refine lv_iload_n hx hb dX4_heldByHolders_10 rfl (lv_at hl 0 rfl) ?_
            refine va_aldq hx hb hK hP 0 2 rfl rfl (by unfold vp_in; decide) dX4_heldByHolders_11 ?_
            rw [show gf (4 : Int32).toNatClampNeg = some f from (by rw [show (4 : Int32).toNatClampNeg = 4 by decide, hg 4 (by decide), hb4]; rfl)]
            refine W.eq (g2 := F0 m 12 ls [.ref f]) rfl ?_
            refine lv_ifnull hx hb dX4_heldByHolders_12 ?_
            refine lv_aload_n hx hb dX4_heldByHolders_15 rfl (lv_at hl 1 rfl) ?_
            refine lv_ifnull hx hb dX4_heldByHolders_16 ?_
            refine lv_aload_n hx hb dX4_heldByHolders_19 rfl (lv_at hl 2 rfl) ?_
            refine lv_iload_n hx hb dX4_heldByHolders_20 rfl (lv_at hl 0 rfl) ?_
            refine va_aldq hx hb hK hP 0 2 rfl rfl (by unfold vp_in; decide) dX4_heldByHolders_21 ?_
            rw [show gf (4 : Int32).toNatClampNeg = some f from (by rw [show (4 : Int32).toNatClampNeg = 4 by decide, hg 4 (by decide), hb4]; rfl)]
            refine W.eq (g2 := F0 m 22 ls [.ref f]) rfl ?_
            have hPc := hP.sub (ws' := [(f, .inr (3, [.ref e1, .ref e2, .int 5, .int 0])), (e1, wI tC 0 z1)]) [1, 2] rfl
            have hDc := hD.sub (ws' := [(f, .inr (3, [.ref e1, .ref e2, .int 5, .int 0])), (e1, wI tC 0 z1)]) [1, 2] (by decide) rfl
            have hFc := va_free (wc := [(f, .inr (3, [.ref e1, .ref e2, .int 5, .int 0])), (e1, wI tC 0 z1)]) hD hS hA [1, 2] rfl
            refine va_calli (va_runVN (As := []) (rest := []) ⟨hx, hb, hml, hown, hts⟩ (c_X2_length l hlt D tC dz H.size f e1 e2 z1 ) ⟨(va_cnB (host := "NoticeStations") 0 hts gX4_heldByHolders_X2_length_n107 rfl rfl rfl (hN.1 (.methodLinkNest "NoticeStations" 107 ⟨"NoticeStations$Standing", "length", "()I"⟩ "NoticeStations") (by decide +kernel)) w_0 (by decide +kernel) ⟨Nat.le_of_ble_eq_true rfl, Nat.le_of_ble_eq_true rfl⟩), w_1, w_2⟩ ⟨pB_blind, va_recv hK hPc (ci := 3) (q0 := 0) rfl rfl, pB_at hPc hDc hK hN hE hS hFc⟩ rfl rfl hl.1 rfl (lv_room (Nat.le_of_ble_eq_true rfl)) dX4_heldByHolders_22 ⟨Nat.le_of_ble_eq_true rfl, Nat.le_of_ble_eq_true rfl⟩) hS (fun q _ h => hFc q h) hFc (fun r_33 u t H1 locs ht hvm hw hB hz1 hk1 hS => ?_)
            obtain ⟨hP1, _, hD1⟩ := hB
            have hw_34 := hw
            rw [ht] at hP1
            obtain ⟨hP, hD⟩ := va_join (wr := [(a4, wS tC 5 gf)]) (w1 := [(f, .inr (3, [.ref e1, .ref e2, .int 5, .int 0])), (e1, wI tC 0 z1)]) hP hD [1, 2] [0] rfl rfl (by decide) (by decide) hk1 hFc hP1 hD1
            generalize H1 = H at hP hS ⊢
            have hP : va_P D vwCl [(a4, wS tC 5 gf), (f, .inr (3, [.ref e1, .ref e2, .int 5, .int 0])), (e1, wI tC 0 z1)] H := hP
            have hD : va_D A [(a4, wS tC 5 gf), (f, .inr (3, [.ref e1, .ref e2, .int 5, .int 0])), (e1, wI tC 0 z1)] := hD
            subst hw_34
            refine lv_aload_n hx hb dX4_heldByHolders_25 rfl (lv_at hl 1 rfl) ?_
            have hPc := hP.sub (ws' := [(f, .inr (3, [.ref e1, .ref e2, .int 5, .int 0])), (e1, wI tC 0 z1)]) [1, 2] rfl
            have hDc := hD.sub (ws' := [(f, .inr (3, [.ref e1, .ref e2, .int 5, .int 0])), (e1, wI tC 0 z1)]) [1, 2] (by decide) rfl
            have hFc := va_free (wc := [(f, .inr (3, [.ref e1, .ref e2, .int 5, .int 0])), (e1, wI tC 0 z1)]) hD hS hA [1, 2] rfl
            refine va_calli (va_runVN (As := []) (rest := [.int 0]) ⟨hx, hb, hml, hown, hts⟩ (c_X2_length l hlt D tC dz H.size f e1 e2 z1 ) ⟨(va_cnB (host := "NoticeStations") 0 hts gX4_heldByHolders_X2_length_n107 rfl rfl rfl (hN.1 (.methodLinkNest "NoticeStations" 107 ⟨"NoticeStations$Standing", "length", "()I"⟩ "NoticeStations") (by decide +kernel)) w_0 (by decide +kernel) ⟨Nat.le_of_ble_eq_true rfl, Nat.le_of_ble_eq_true rfl⟩), w_1, w_2⟩ ⟨pB_blind, va_recv hK hPc (ci := 3) (q0 := 0) rfl rfl, pB_at hPc hDc hK hN hE hS hFc⟩ rfl rfl hl.1 rfl (lv_room (Nat.le_of_ble_eq_true rfl)) dX4_heldByHolders_26 ⟨Nat.le_of_ble_eq_true rfl, Nat.le_of_ble_eq_true rfl⟩) hS (fun q _ h => hFc q h) hFc (fun r_35 u t H1 locs ht hvm hw hB hz1 hk1 hS => ?_)
            obtain ⟨hP1, _, hD1⟩ := hB
            have hw_36 := hw
            rw [ht] at hP1
            obtain ⟨hP, hD⟩ := va_join (wr := [(a4, wS tC 5 gf)]) (w1 := [(f, .inr (3, [.ref e1, .ref e2, .int 5, .int 0])), (e1, wI tC 0 z1)]) hP hD [1, 2] [0] rfl rfl (by decide) (by decide) hk1 hFc hP1 hD1
            generalize H1 = H at hP hS ⊢
            have hP : va_P D vwCl [(a4, wS tC 5 gf), (f, .inr (3, [.ref e1, .ref e2, .int 5, .int 0])), (e1, wI tC 0 z1)] H := hP
            have hD : va_D A [(a4, wS tC 5 gf), (f, .inr (3, [.ref e1, .ref e2, .int 5, .int 0])), (e1, wI tC 0 z1)] := hD
            subst hw_36
            refine lv_icmp_le (tgt := 36) hx hb dX4_heldByHolders_29 (by decide) (fun _ => ?_) (fun hc => absurd (by decide) hc)
            refine lv_iinc (v := 5) (lv' := [(2, .int 5), (1, .ref f), (0, .ref a4)]) hx hb dX4_heldByHolders_36 hl (k := 0) rfl (by decide) (by decide) rfl (fun ls hl => ?_)
            refine lv_goto (tgt := 4) hx hb dX4_heldByHolders_39 (by decide) ?_
            refine lv_iload_n hx hb dX4_heldByHolders_4 rfl (lv_at hl 0 rfl) ?_
            refine lv_iconst (v := 5) hx hb dX4_heldByHolders_5 (by decide) ?_
            refine lv_icmp_ge (tgt := 42) hx hb dX4_heldByHolders_6 (by decide) (fun _ => ?_) (fun hc => absurd (by decide) hc)
            refine lv_aload_n hx hb dX4_heldByHolders_42 rfl (lv_at hl 1 rfl) ?_
            have hP9 := hP.sub (ws' := [(a4, wS tC 5 gf), (f, .inr (3, [.ref e1, .ref e2, .int 5, .int 0])), (e1, wI tC 0 z1)]) [0, 1, 2] rfl
            have hD9 := hD.sub (ws' := [(a4, wS tC 5 gf), (f, .inr (3, [.ref e1, .ref e2, .int 5, .int 0])), (e1, wI tC 0 z1)]) [0, 1, 2] (by decide) rfl
            refine W.widen (k := 0) (n := 0) (by omega) (by omega) ?_
            exact W.aret (v := .ref f) hx hb hr (Or.inl ⟨_, rfl⟩) (Or.inr ⟨_, rfl⟩) (fun t ht hW => ⟨⟨(some f), (), rfl, rfl, (by rw [ht]; exact hP9), va_K.moved hW.alike hK, hD9⟩, hS.F ht⟩) hS.2.2 dX4_heldByHolders_43 hlocks
        · skip
          refine lv_iload_n hx hb dX4_heldByHolders_4 rfl (lv_at hl 0 rfl) ?_
          refine lv_iconst (v := 5) hx hb dX4_heldByHolders_5 (by decide) ?_
          refine lv_icmp_ge (tgt := 42) hx hb dX4_heldByHolders_6 (by decide) (fun hc => absurd hc (by decide)) (fun _ => ?_)
          refine lv_aload_n hx hb dX4_heldByHolders_9 rfl (lv_at hl 2 rfl) ?_
          refine lv_iload_n hx hb dX4_heldByHolders_10 rfl (lv_at hl 0 rfl) ?_
          refine va_aldq hx hb hK hP 0 2 rfl rfl (by unfold vp_in; decide) dX4_heldByHolders_11 ?_
          rw [show gf (3 : Int32).toNatClampNeg = some f from (by rw [show (3 : Int32).toNatClampNeg = 3 by decide, hg 3 (by decide), hb3]; rfl)]
          refine W.eq (g2 := F0 m 12 ls [.ref f]) rfl ?_
          refine lv_ifnull hx hb dX4_heldByHolders_12 ?_
          refine lv_aload_n hx hb dX4_heldByHolders_15 rfl (lv_at hl 1 rfl) ?_
          refine lv_ifnull hx hb dX4_heldByHolders_16 ?_
          refine lv_aload_n hx hb dX4_heldByHolders_19 rfl (lv_at hl 2 rfl) ?_
          refine lv_iload_n hx hb dX4_heldByHolders_20 rfl (lv_at hl 0 rfl) ?_
          refine va_aldq hx hb hK hP 0 2 rfl rfl (by unfold vp_in; decide) dX4_heldByHolders_21 ?_
          rw [show gf (3 : Int32).toNatClampNeg = some f from (by rw [show (3 : Int32).toNatClampNeg = 3 by decide, hg 3 (by decide), hb3]; rfl)]
          refine W.eq (g2 := F0 m 22 ls [.ref f]) rfl ?_
          have hPc := hP.sub (ws' := [(f, .inr (3, [.ref e1, .ref e2, .int 5, .int 0])), (e1, wI tC 0 z1)]) [1, 2] rfl
          have hDc := hD.sub (ws' := [(f, .inr (3, [.ref e1, .ref e2, .int 5, .int 0])), (e1, wI tC 0 z1)]) [1, 2] (by decide) rfl
          have hFc := va_free (wc := [(f, .inr (3, [.ref e1, .ref e2, .int 5, .int 0])), (e1, wI tC 0 z1)]) hD hS hA [1, 2] rfl
          refine va_calli (va_runVN (As := []) (rest := []) ⟨hx, hb, hml, hown, hts⟩ (c_X2_length l hlt D tC dz H.size f e1 e2 z1 ) ⟨(va_cnB (host := "NoticeStations") 0 hts gX4_heldByHolders_X2_length_n107 rfl rfl rfl (hN.1 (.methodLinkNest "NoticeStations" 107 ⟨"NoticeStations$Standing", "length", "()I"⟩ "NoticeStations") (by decide +kernel)) w_0 (by decide +kernel) ⟨Nat.le_of_ble_eq_true rfl, Nat.le_of_ble_eq_true rfl⟩), w_1, w_2⟩ ⟨pB_blind, va_recv hK hPc (ci := 3) (q0 := 0) rfl rfl, pB_at hPc hDc hK hN hE hS hFc⟩ rfl rfl hl.1 rfl (lv_room (Nat.le_of_ble_eq_true rfl)) dX4_heldByHolders_22 ⟨Nat.le_of_ble_eq_true rfl, Nat.le_of_ble_eq_true rfl⟩) hS (fun q _ h => hFc q h) hFc (fun r_37 u t H1 locs ht hvm hw hB hz1 hk1 hS => ?_)
          obtain ⟨hP1, _, hD1⟩ := hB
          have hw_38 := hw
          rw [ht] at hP1
          obtain ⟨hP, hD⟩ := va_join (wr := [(a4, wS tC 5 gf)]) (w1 := [(f, .inr (3, [.ref e1, .ref e2, .int 5, .int 0])), (e1, wI tC 0 z1)]) hP hD [1, 2] [0] rfl rfl (by decide) (by decide) hk1 hFc hP1 hD1
          generalize H1 = H at hP hS ⊢
          have hP : va_P D vwCl [(a4, wS tC 5 gf), (f, .inr (3, [.ref e1, .ref e2, .int 5, .int 0])), (e1, wI tC 0 z1)] H := hP
          have hD : va_D A [(a4, wS tC 5 gf), (f, .inr (3, [.ref e1, .ref e2, .int 5, .int 0])), (e1, wI tC 0 z1)] := hD
          subst hw_38
          refine lv_aload_n hx hb dX4_heldByHolders_25 rfl (lv_at hl 1 rfl) ?_
          have hPc := hP.sub (ws' := [(f, .inr (3, [.ref e1, .ref e2, .int 5, .int 0])), (e1, wI tC 0 z1)]) [1, 2] rfl
          have hDc := hD.sub (ws' := [(f, .inr (3, [.ref e1, .ref e2, .int 5, .int 0])), (e1, wI tC 0 z1)]) [1, 2] (by decide) rfl
          have hFc := va_free (wc := [(f, .inr (3, [.ref e1, .ref e2, .int 5, .int 0])), (e1, wI tC 0 z1)]) hD hS hA [1, 2] rfl
          refine va_calli (va_runVN (As := []) (rest := [.int 0]) ⟨hx, hb, hml, hown, hts⟩ (c_X2_length l hlt D tC dz H.size f e1 e2 z1 ) ⟨(va_cnB (host := "NoticeStations") 0 hts gX4_heldByHolders_X2_length_n107 rfl rfl rfl (hN.1 (.methodLinkNest "NoticeStations" 107 ⟨"NoticeStations$Standing", "length", "()I"⟩ "NoticeStations") (by decide +kernel)) w_0 (by decide +kernel) ⟨Nat.le_of_ble_eq_true rfl, Nat.le_of_ble_eq_true rfl⟩), w_1, w_2⟩ ⟨pB_blind, va_recv hK hPc (ci := 3) (q0 := 0) rfl rfl, pB_at hPc hDc hK hN hE hS hFc⟩ rfl rfl hl.1 rfl (lv_room (Nat.le_of_ble_eq_true rfl)) dX4_heldByHolders_26 ⟨Nat.le_of_ble_eq_true rfl, Nat.le_of_ble_eq_true rfl⟩) hS (fun q _ h => hFc q h) hFc (fun r_39 u t H1 locs ht hvm hw hB hz1 hk1 hS => ?_)
          obtain ⟨hP1, _, hD1⟩ := hB
          have hw_40 := hw
          rw [ht] at hP1
          obtain ⟨hP, hD⟩ := va_join (wr := [(a4, wS tC 5 gf)]) (w1 := [(f, .inr (3, [.ref e1, .ref e2, .int 5, .int 0])), (e1, wI tC 0 z1)]) hP hD [1, 2] [0] rfl rfl (by decide) (by decide) hk1 hFc hP1 hD1
          generalize H1 = H at hP hS ⊢
          have hP : va_P D vwCl [(a4, wS tC 5 gf), (f, .inr (3, [.ref e1, .ref e2, .int 5, .int 0])), (e1, wI tC 0 z1)] H := hP
          have hD : va_D A [(a4, wS tC 5 gf), (f, .inr (3, [.ref e1, .ref e2, .int 5, .int 0])), (e1, wI tC 0 z1)] := hD
          subst hw_40
          refine lv_icmp_le (tgt := 36) hx hb dX4_heldByHolders_29 (by decide) (fun _ => ?_) (fun hc => absurd (by decide) hc)
          refine lv_iinc (v := 4) (lv' := [(2, .int 4), (1, .ref f), (0, .ref a4)]) hx hb dX4_heldByHolders_36 hl (k := 0) rfl (by decide) (by decide) rfl (fun ls hl => ?_)
          refine lv_goto (tgt := 4) hx hb dX4_heldByHolders_39 (by decide) ?_
          cases hb4 : bt 4
          · skip
            refine lv_iload_n hx hb dX4_heldByHolders_4 rfl (lv_at hl 0 rfl) ?_
            refine lv_iconst (v := 5) hx hb dX4_heldByHolders_5 (by decide) ?_
            refine lv_icmp_ge (tgt := 42) hx hb dX4_heldByHolders_6 (by decide) (fun hc => absurd hc (by decide)) (fun _ => ?_)
            refine lv_aload_n hx hb dX4_heldByHolders_9 rfl (lv_at hl 2 rfl) ?_
            refine lv_iload_n hx hb dX4_heldByHolders_10 rfl (lv_at hl 0 rfl) ?_
            refine va_aldq hx hb hK hP 0 2 rfl rfl (by unfold vp_in; decide) dX4_heldByHolders_11 ?_
            rw [show gf (4 : Int32).toNatClampNeg = none from (by rw [show (4 : Int32).toNatClampNeg = 4 by decide, hg 4 (by decide), hb4]; rfl)]
            refine W.eq (g2 := F0 m 12 ls [.null]) rfl ?_
            refine lv_ifnullN (tgt := 36) hx hb dX4_heldByHolders_12 (by decide) ?_
            refine lv_iinc (v := 5) (lv' := [(2, .int 5), (1, .ref f), (0, .ref a4)]) hx hb dX4_heldByHolders_36 hl (k := 0) rfl (by decide) (by decide) rfl (fun ls hl => ?_)
            refine lv_goto (tgt := 4) hx hb dX4_heldByHolders_39 (by decide) ?_
            refine lv_iload_n hx hb dX4_heldByHolders_4 rfl (lv_at hl 0 rfl) ?_
            refine lv_iconst (v := 5) hx hb dX4_heldByHolders_5 (by decide) ?_
            refine lv_icmp_ge (tgt := 42) hx hb dX4_heldByHolders_6 (by decide) (fun _ => ?_) (fun hc => absurd (by decide) hc)
            refine lv_aload_n hx hb dX4_heldByHolders_42 rfl (lv_at hl 1 rfl) ?_
            have hP9 := hP.sub (ws' := [(a4, wS tC 5 gf), (f, .inr (3, [.ref e1, .ref e2, .int 5, .int 0])), (e1, wI tC 0 z1)]) [0, 1, 2] rfl
            have hD9 := hD.sub (ws' := [(a4, wS tC 5 gf), (f, .inr (3, [.ref e1, .ref e2, .int 5, .int 0])), (e1, wI tC 0 z1)]) [0, 1, 2] (by decide) rfl
            refine W.widen (k := 0) (n := 0) (by omega) (by omega) ?_
            exact W.aret (v := .ref f) hx hb hr (Or.inl ⟨_, rfl⟩) (Or.inr ⟨_, rfl⟩) (fun t ht hW => ⟨⟨(some f), (), rfl, rfl, (by rw [ht]; exact hP9), va_K.moved hW.alike hK, hD9⟩, hS.F ht⟩) hS.2.2 dX4_heldByHolders_43 hlocks
          · skip
            refine lv_iload_n hx hb dX4_heldByHolders_4 rfl (lv_at hl 0 rfl) ?_
            refine lv_iconst (v := 5) hx hb dX4_heldByHolders_5 (by decide) ?_
            refine lv_icmp_ge (tgt := 42) hx hb dX4_heldByHolders_6 (by decide) (fun hc => absurd hc (by decide)) (fun _ => ?_)
            refine lv_aload_n hx hb dX4_heldByHolders_9 rfl (lv_at hl 2 rfl) ?_
            refine lv_iload_n hx hb dX4_heldByHolders_10 rfl (lv_at hl 0 rfl) ?_
            refine va_aldq hx hb hK hP 0 2 rfl rfl (by unfold vp_in; decide) dX4_heldByHolders_11 ?_
            rw [show gf (4 : Int32).toNatClampNeg = some f from (by rw [show (4 : Int32).toNatClampNeg = 4 by decide, hg 4 (by decide), hb4]; rfl)]
            refine W.eq (g2 := F0 m 12 ls [.ref f]) rfl ?_
            refine lv_ifnull hx hb dX4_heldByHolders_12 ?_
            refine lv_aload_n hx hb dX4_heldByHolders_15 rfl (lv_at hl 1 rfl) ?_
            refine lv_ifnull hx hb dX4_heldByHolders_16 ?_
            refine lv_aload_n hx hb dX4_heldByHolders_19 rfl (lv_at hl 2 rfl) ?_
            refine lv_iload_n hx hb dX4_heldByHolders_20 rfl (lv_at hl 0 rfl) ?_
            refine va_aldq hx hb hK hP 0 2 rfl rfl (by unfold vp_in; decide) dX4_heldByHolders_21 ?_
            rw [show gf (4 : Int32).toNatClampNeg = some f from (by rw [show (4 : Int32).toNatClampNeg = 4 by decide, hg 4 (by decide), hb4]; rfl)]
            refine W.eq (g2 := F0 m 22 ls [.ref f]) rfl ?_
            have hPc := hP.sub (ws' := [(f, .inr (3, [.ref e1, .ref e2, .int 5, .int 0])), (e1, wI tC 0 z1)]) [1, 2] rfl
            have hDc := hD.sub (ws' := [(f, .inr (3, [.ref e1, .ref e2, .int 5, .int 0])), (e1, wI tC 0 z1)]) [1, 2] (by decide) rfl
            have hFc := va_free (wc := [(f, .inr (3, [.ref e1, .ref e2, .int 5, .int 0])), (e1, wI tC 0 z1)]) hD hS hA [1, 2] rfl
            refine va_calli (va_runVN (As := []) (rest := []) ⟨hx, hb, hml, hown, hts⟩ (c_X2_length l hlt D tC dz H.size f e1 e2 z1 ) ⟨(va_cnB (host := "NoticeStations") 0 hts gX4_heldByHolders_X2_length_n107 rfl rfl rfl (hN.1 (.methodLinkNest "NoticeStations" 107 ⟨"NoticeStations$Standing", "length", "()I"⟩ "NoticeStations") (by decide +kernel)) w_0 (by decide +kernel) ⟨Nat.le_of_ble_eq_true rfl, Nat.le_of_ble_eq_true rfl⟩), w_1, w_2⟩ ⟨pB_blind, va_recv hK hPc (ci := 3) (q0 := 0) rfl rfl, pB_at hPc hDc hK hN hE hS hFc⟩ rfl rfl hl.1 rfl (lv_room (Nat.le_of_ble_eq_true rfl)) dX4_heldByHolders_22 ⟨Nat.le_of_ble_eq_true rfl, Nat.le_of_ble_eq_true rfl⟩) hS (fun q _ h => hFc q h) hFc (fun r_41 u t H1 locs ht hvm hw hB hz1 hk1 hS => ?_)
            obtain ⟨hP1, _, hD1⟩ := hB
            have hw_42 := hw
            rw [ht] at hP1
            obtain ⟨hP, hD⟩ := va_join (wr := [(a4, wS tC 5 gf)]) (w1 := [(f, .inr (3, [.ref e1, .ref e2, .int 5, .int 0])), (e1, wI tC 0 z1)]) hP hD [1, 2] [0] rfl rfl (by decide) (by decide) hk1 hFc hP1 hD1
            generalize H1 = H at hP hS ⊢
            have hP : va_P D vwCl [(a4, wS tC 5 gf), (f, .inr (3, [.ref e1, .ref e2, .int 5, .int 0])), (e1, wI tC 0 z1)] H := hP
            have hD : va_D A [(a4, wS tC 5 gf), (f, .inr (3, [.ref e1, .ref e2, .int 5, .int 0])), (e1, wI tC 0 z1)] := hD
            subst hw_42
            refine lv_aload_n hx hb dX4_heldByHolders_25 rfl (lv_at hl 1 rfl) ?_
            have hPc := hP.sub (ws' := [(f, .inr (3, [.ref e1, .ref e2, .int 5, .int 0])), (e1, wI tC 0 z1)]) [1, 2] rfl
            have hDc := hD.sub (ws' := [(f, .inr (3, [.ref e1, .ref e2, .int 5, .int 0])), (e1, wI tC 0 z1)]) [1, 2] (by decide) rfl
            have hFc := va_free (wc := [(f, .inr (3, [.ref e1, .ref e2, .int 5, .int 0])), (e1, wI tC 0 z1)]) hD hS hA [1, 2] rfl
            refine va_calli (va_runVN (As := []) (rest := [.int 0]) ⟨hx, hb, hml, hown, hts⟩ (c_X2_length l hlt D tC dz H.size f e1 e2 z1 ) ⟨(va_cnB (host := "NoticeStations") 0 hts gX4_heldByHolders_X2_length_n107 rfl rfl rfl (hN.1 (.methodLinkNest "NoticeStations" 107 ⟨"NoticeStations$Standing", "length", "()I"⟩ "NoticeStations") (by decide +kernel)) w_0 (by decide +kernel) ⟨Nat.le_of_ble_eq_true rfl, Nat.le_of_ble_eq_true rfl⟩), w_1, w_2⟩ ⟨pB_blind, va_recv hK hPc (ci := 3) (q0 := 0) rfl rfl, pB_at hPc hDc hK hN hE hS hFc⟩ rfl rfl hl.1 rfl (lv_room (Nat.le_of_ble_eq_true rfl)) dX4_heldByHolders_26 ⟨Nat.le_of_ble_eq_true rfl, Nat.le_of_ble_eq_true rfl⟩) hS (fun q _ h => hFc q h) hFc (fun r_43 u t H1 locs ht hvm hw hB hz1 hk1 hS => ?_)
            obtain ⟨hP1, _, hD1⟩ := hB
            have hw_44 := hw
            rw [ht] at hP1
            obtain ⟨hP, hD⟩ := va_join (wr := [(a4, wS tC 5 gf)]) (w1 := [(f, .inr (3, [.ref e1, .ref e2, .int 5, .int 0])), (e1, wI tC 0 z1)]) hP hD [1, 2] [0] rfl rfl (by decide) (by decide) hk1 hFc hP1 hD1
            generalize H1 = H at hP hS ⊢
            have hP : va_P D vwCl [(a4, wS tC 5 gf), (f, .inr (3, [.ref e1, .ref e2, .int 5, .int 0])), (e1, wI tC 0 z1)] H := hP
            have hD : va_D A [(a4, wS tC 5 gf), (f, .inr (3, [.ref e1, .ref e2, .int 5, .int 0])), (e1, wI tC 0 z1)] := hD
            subst hw_44
            refine lv_icmp_le (tgt := 36) hx hb dX4_heldByHolders_29 (by decide) (fun _ => ?_) (fun hc => absurd (by decide) hc)
            refine lv_iinc (v := 5) (lv' := [(2, .int 5), (1, .ref f), (0, .ref a4)]) hx hb dX4_heldByHolders_36 hl (k := 0) rfl (by decide) (by decide) rfl (fun ls hl => ?_)
            refine lv_goto (tgt := 4) hx hb dX4_heldByHolders_39 (by decide) ?_
            refine lv_iload_n hx hb dX4_heldByHolders_4 rfl (lv_at hl 0 rfl) ?_
            refine lv_iconst (v := 5) hx hb dX4_heldByHolders_5 (by decide) ?_
            refine lv_icmp_ge (tgt := 42) hx hb dX4_heldByHolders_6 (by decide) (fun _ => ?_) (fun hc => absurd (by decide) hc)
            refine lv_aload_n hx hb dX4_heldByHolders_42 rfl (lv_at hl 1 rfl) ?_
            have hP9 := hP.sub (ws' := [(a4, wS tC 5 gf), (f, .inr (3, [.ref e1, .ref e2, .int 5, .int 0])), (e1, wI tC 0 z1)]) [0, 1, 2] rfl
            have hD9 := hD.sub (ws' := [(a4, wS tC 5 gf), (f, .inr (3, [.ref e1, .ref e2, .int 5, .int 0])), (e1, wI tC 0 z1)]) [0, 1, 2] (by decide) rfl
            refine W.widen (k := 0) (n := 0) (by omega) (by omega) ?_
            exact W.aret (v := .ref f) hx hb hr (Or.inl ⟨_, rfl⟩) (Or.inr ⟨_, rfl⟩) (fun t ht hW => ⟨⟨(some f), (), rfl, rfl, (by rw [ht]; exact hP9), va_K.moved hW.alike hK, hD9⟩, hS.F ht⟩) hS.2.2 dX4_heldByHolders_43 hlocks
  · skip
    refine lv_iload_n hx hb dX4_heldByHolders_4 rfl (lv_at hl 0 rfl) ?_
    refine lv_iconst (v := 5) hx hb dX4_heldByHolders_5 (by decide) ?_
    refine lv_icmp_ge (tgt := 42) hx hb dX4_heldByHolders_6 (by decide) (fun hc => absurd hc (by decide)) (fun _ => ?_)
    refine lv_aload_n hx hb dX4_heldByHolders_9 rfl (lv_at hl 2 rfl) ?_
    refine lv_iload_n hx hb dX4_heldByHolders_10 rfl (lv_at hl 0 rfl) ?_
    refine va_aldq hx hb hK hP 0 2 rfl rfl (by unfold vp_in; decide) dX4_heldByHolders_11 ?_
    rw [show gf (0 : Int32).toNatClampNeg = some f from (by rw [show (0 : Int32).toNatClampNeg = 0 by decide, hg 0 (by decide), hb0]; rfl)]
    refine W.eq (g2 := F0 m 12 ls [.ref f]) rfl ?_
    refine lv_ifnull hx hb dX4_heldByHolders_12 ?_
    refine lv_aload_nN hx hb dX4_heldByHolders_15 rfl (lv_at hl 1 rfl) ?_
    refine lv_ifnullN (tgt := 32) hx hb dX4_heldByHolders_16 (by decide) ?_
    refine lv_aload_n hx hb dX4_heldByHolders_32 rfl (lv_at hl 2 rfl) ?_
    refine lv_iload_n hx hb dX4_heldByHolders_33 rfl (lv_at hl 0 rfl) ?_
    refine va_aldq hx hb hK hP 0 2 rfl rfl (by unfold vp_in; decide) dX4_heldByHolders_34 ?_
    rw [show gf (0 : Int32).toNatClampNeg = some f from (by rw [show (0 : Int32).toNatClampNeg = 0 by decide, hg 0 (by decide), hb0]; rfl)]
    refine W.eq (g2 := F0 m 35 ls [.ref f]) rfl ?_
    refine lv_astore_n (lv' := [(1, .ref f), (2, .int 0), (0, .ref a4)]) hx hb dX4_heldByHolders_35 rfl hl (by decide) rfl (fun ls hl => ?_)
    refine lv_iinc (v := 1) (lv' := [(2, .int 1), (1, .ref f), (0, .ref a4)]) hx hb dX4_heldByHolders_36 hl (k := 1) rfl (by decide) (by decide) rfl (fun ls hl => ?_)
    refine lv_goto (tgt := 4) hx hb dX4_heldByHolders_39 (by decide) ?_
    cases hb1 : bt 1
    · skip
      refine lv_iload_n hx hb dX4_heldByHolders_4 rfl (lv_at hl 0 rfl) ?_
      refine lv_iconst (v := 5) hx hb dX4_heldByHolders_5 (by decide) ?_
      refine lv_icmp_ge (tgt := 42) hx hb dX4_heldByHolders_6 (by decide) (fun hc => absurd hc (by decide)) (fun _ => ?_)
      refine lv_aload_n hx hb dX4_heldByHolders_9 rfl (lv_at hl 2 rfl) ?_
      refine lv_iload_n hx hb dX4_heldByHolders_10 rfl (lv_at hl 0 rfl) ?_
      refine va_aldq hx hb hK hP 0 2 rfl rfl (by unfold vp_in; decide) dX4_heldByHolders_11 ?_
      rw [show gf (1 : Int32).toNatClampNeg = none from (by rw [show (1 : Int32).toNatClampNeg = 1 by decide, hg 1 (by decide), hb1]; rfl)]
      refine W.eq (g2 := F0 m 12 ls [.null]) rfl ?_
      refine lv_ifnullN (tgt := 36) hx hb dX4_heldByHolders_12 (by decide) ?_
      refine lv_iinc (v := 2) (lv' := [(2, .int 2), (1, .ref f), (0, .ref a4)]) hx hb dX4_heldByHolders_36 hl (k := 0) rfl (by decide) (by decide) rfl (fun ls hl => ?_)
      refine lv_goto (tgt := 4) hx hb dX4_heldByHolders_39 (by decide) ?_
      cases hb2 : bt 2
      · skip
        refine lv_iload_n hx hb dX4_heldByHolders_4 rfl (lv_at hl 0 rfl) ?_
        refine lv_iconst (v := 5) hx hb dX4_heldByHolders_5 (by decide) ?_
        refine lv_icmp_ge (tgt := 42) hx hb dX4_heldByHolders_6 (by decide) (fun hc => absurd hc (by decide)) (fun _ => ?_)
        refine lv_aload_n hx hb dX4_heldByHolders_9 rfl (lv_at hl 2 rfl) ?_
        refine lv_iload_n hx hb dX4_heldByHolders_10 rfl (lv_at hl 0 rfl) ?_
        refine va_aldq hx hb hK hP 0 2 rfl rfl (by unfold vp_in; decide) dX4_heldByHolders_11 ?_
        rw [show gf (2 : Int32).toNatClampNeg = none from (by rw [show (2 : Int32).toNatClampNeg = 2 by decide, hg 2 (by decide), hb2]; rfl)]
        refine W.eq (g2 := F0 m 12 ls [.null]) rfl ?_
        refine lv_ifnullN (tgt := 36) hx hb dX4_heldByHolders_12 (by decide) ?_
        refine lv_iinc (v := 3) (lv' := [(2, .int 3), (1, .ref f), (0, .ref a4)]) hx hb dX4_heldByHolders_36 hl (k := 0) rfl (by decide) (by decide) rfl (fun ls hl => ?_)
        refine lv_goto (tgt := 4) hx hb dX4_heldByHolders_39 (by decide) ?_
        cases hb3 : bt 3
        · skip
          refine lv_iload_n hx hb dX4_heldByHolders_4 rfl (lv_at hl 0 rfl) ?_
          refine lv_iconst (v := 5) hx hb dX4_heldByHolders_5 (by decide) ?_
          refine lv_icmp_ge (tgt := 42) hx hb dX4_heldByHolders_6 (by decide) (fun hc => absurd hc (by decide)) (fun _ => ?_)
          refine lv_aload_n hx hb dX4_heldByHolders_9 rfl (lv_at hl 2 rfl) ?_
          refine lv_iload_n hx hb dX4_heldByHolders_10 rfl (lv_at hl 0 rfl) ?_
          refine va_aldq hx hb hK hP 0 2 rfl rfl (by unfold vp_in; decide) dX4_heldByHolders_11 ?_
          rw [show gf (3 : Int32).toNatClampNeg = none from (by rw [show (3 : Int32).toNatClampNeg = 3 by decide, hg 3 (by decide), hb3]; rfl)]
          refine W.eq (g2 := F0 m 12 ls [.null]) rfl ?_
          refine lv_ifnullN (tgt := 36) hx hb dX4_heldByHolders_12 (by decide) ?_
          refine lv_iinc (v := 4) (lv' := [(2, .int 4), (1, .ref f), (0, .ref a4)]) hx hb dX4_heldByHolders_36 hl (k := 0) rfl (by decide) (by decide) rfl (fun ls hl => ?_)
          refine lv_goto (tgt := 4) hx hb dX4_heldByHolders_39 (by decide) ?_
          cases hb4 : bt 4
          · skip
            refine lv_iload_n hx hb dX4_heldByHolders_4 rfl (lv_at hl 0 rfl) ?_
            refine lv_iconst (v := 5) hx hb dX4_heldByHolders_5 (by decide) ?_
            refine lv_icmp_ge (tgt := 42) hx hb dX4_heldByHolders_6 (by decide) (fun hc => absurd hc (by decide)) (fun _ => ?_)
            refine lv_aload_n hx hb dX4_heldByHolders_9 rfl (lv_at hl 2 rfl) ?_
            refine lv_iload_n hx hb dX4_heldByHolders_10 rfl (lv_at hl 0 rfl) ?_
            refine va_aldq hx hb hK hP 0 2 rfl rfl (by unfold vp_in; decide) dX4_heldByHolders_11 ?_
            rw [show gf (4 : Int32).toNatClampNeg = none from (by rw [show (4 : Int32).toNatClampNeg = 4 by decide, hg 4 (by decide), hb4]; rfl)]
            refine W.eq (g2 := F0 m 12 ls [.null]) rfl ?_
            refine lv_ifnullN (tgt := 36) hx hb dX4_heldByHolders_12 (by decide) ?_
            refine lv_iinc (v := 5) (lv' := [(2, .int 5), (1, .ref f), (0, .ref a4)]) hx hb dX4_heldByHolders_36 hl (k := 0) rfl (by decide) (by decide) rfl (fun ls hl => ?_)
            refine lv_goto (tgt := 4) hx hb dX4_heldByHolders_39 (by decide) ?_
            refine lv_iload_n hx hb dX4_heldByHolders_4 rfl (lv_at hl 0 rfl) ?_
            refine lv_iconst (v := 5) hx hb dX4_heldByHolders_5 (by decide) ?_
            refine lv_icmp_ge (tgt := 42) hx hb dX4_heldByHolders_6 (by decide) (fun _ => ?_) (fun hc => absurd (by decide) hc)
            refine lv_aload_n hx hb dX4_heldByHolders_42 rfl (lv_at hl 1 rfl) ?_
            have hP9 := hP.sub (ws' := [(a4, wS tC 5 gf), (f, .inr (3, [.ref e1, .ref e2, .int 5, .int 0])), (e1, wI tC 0 z1)]) [0, 1, 2] rfl
            have hD9 := hD.sub (ws' := [(a4, wS tC 5 gf), (f, .inr (3, [.ref e1, .ref e2, .int 5, .int 0])), (e1, wI tC 0 z1)]) [0, 1, 2] (by decide) rfl
            refine W.widen (k := 0) (n := 0) (by omega) (by omega) ?_
            exact W.aret (v := .ref f) hx hb hr (Or.inl ⟨_, rfl⟩) (Or.inr ⟨_, rfl⟩) (fun t ht hW => ⟨⟨(some f), (), rfl, rfl, (by rw [ht]; exact hP9), va_K.moved hW.alike hK, hD9⟩, hS.F ht⟩) hS.2.2 dX4_heldByHolders_43 hlocks
          · skip
            refine lv_iload_n hx hb dX4_heldByHolders_4 rfl (lv_at hl 0 rfl) ?_
            refine lv_iconst (v := 5) hx hb dX4_heldByHolders_5 (by decide) ?_
            refine lv_icmp_ge (tgt := 42) hx hb dX4_heldByHolders_6 (by decide) (fun hc => absurd hc (by decide)) (fun _ => ?_)
            refine lv_aload_n hx hb dX4_heldByHolders_9 rfl (lv_at hl 2 rfl) ?_
            refine lv_iload_n hx hb dX4_heldByHolders_10 rfl (lv_at hl 0 rfl) ?_
            refine va_aldq hx hb hK hP 0 2 rfl rfl (by unfold vp_in; decide) dX4_heldByHolders_11 ?_
            rw [show gf (4 : Int32).toNatClampNeg = some f from (by rw [show (4 : Int32).toNatClampNeg = 4 by decide, hg 4 (by decide), hb4]; rfl)]
            refine W.eq (g2 := F0 m 12 ls [.ref f]) rfl ?_
            refine lv_ifnull hx hb dX4_heldByHolders_12 ?_
            refine lv_aload_n hx hb dX4_heldByHolders_15 rfl (lv_at hl 1 rfl) ?_
            refine lv_ifnull hx hb dX4_heldByHolders_16 ?_
            refine lv_aload_n hx hb dX4_heldByHolders_19 rfl (lv_at hl 2 rfl) ?_
            refine lv_iload_n hx hb dX4_heldByHolders_20 rfl (lv_at hl 0 rfl) ?_
            refine va_aldq hx hb hK hP 0 2 rfl rfl (by unfold vp_in; decide) dX4_heldByHolders_21 ?_
            rw [show gf (4 : Int32).toNatClampNeg = some f from (by rw [show (4 : Int32).toNatClampNeg = 4 by decide, hg 4 (by decide), hb4]; rfl)]
            refine W.eq (g2 := F0 m 22 ls [.ref f]) rfl ?_
            have hPc := hP.sub (ws' := [(f, .inr (3, [.ref e1, .ref e2, .int 5, .int 0])), (e1, wI tC 0 z1)]) [1, 2] rfl
            have hDc := hD.sub (ws' := [(f, .inr (3, [.ref e1, .ref e2, .int 5, .int 0])), (e1, wI tC 0 z1)]) [1, 2] (by decide) rfl
            have hFc := va_free (wc := [(f, .inr (3, [.ref e1, .ref e2, .int 5, .int 0])), (e1, wI tC 0 z1)]) hD hS hA [1, 2] rfl
            refine va_calli (va_runVN (As := []) (rest := []) ⟨hx, hb, hml, hown, hts⟩ (c_X2_length l hlt D tC dz s.heap.size f e1 e2 z1 ) ⟨(va_cnB (host := "NoticeStations") 0 hts gX4_heldByHolders_X2_length_n107 rfl rfl rfl (hN.1 (.methodLinkNest "NoticeStations" 107 ⟨"NoticeStations$Standing", "length", "()I"⟩ "NoticeStations") (by decide +kernel)) w_0 (by decide +kernel) ⟨Nat.le_of_ble_eq_true rfl, Nat.le_of_ble_eq_true rfl⟩), w_1, w_2⟩ ⟨pB_blind, va_recv hK hPc (ci := 3) (q0 := 0) rfl rfl, pB_at hPc hDc hK hN hE hS hFc⟩ rfl rfl hl.1 rfl (lv_room (Nat.le_of_ble_eq_true rfl)) dX4_heldByHolders_22 ⟨Nat.le_of_ble_eq_true rfl, Nat.le_of_ble_eq_true rfl⟩) hS (fun q _ h => hFc q h) hFc (fun r_45 u t H1 locs ht hvm hw hB hz1 hk1 hS => ?_)
            obtain ⟨hP1, _, hD1⟩ := hB
            have hw_46 := hw
            rw [ht] at hP1
            obtain ⟨hP, hD⟩ := va_join (wr := [(a4, wS tC 5 gf)]) (w1 := [(f, .inr (3, [.ref e1, .ref e2, .int 5, .int 0])), (e1, wI tC 0 z1)]) hP hD [1, 2] [0] rfl rfl (by decide) (by decide) hk1 hFc hP1 hD1
            generalize H1 = H at hP hS ⊢
            have hP : va_P D vwCl [(a4, wS tC 5 gf), (f, .inr (3, [.ref e1, .ref e2, .int 5, .int 0])), (e1, wI tC 0 z1)] H := hP
            have hD : va_D A [(a4, wS tC 5 gf), (f, .inr (3, [.ref e1, .ref e2, .int 5, .int 0])), (e1, wI tC 0 z1)] := hD
            subst hw_46
            refine lv_aload_n hx hb dX4_heldByHolders_25 rfl (lv_at hl 1 rfl) ?_
            have hPc := hP.sub (ws' := [(f, .inr (3, [.ref e1, .ref e2, .int 5, .int 0])), (e1, wI tC 0 z1)]) [1, 2] rfl
            have hDc := hD.sub (ws' := [(f, .inr (3, [.ref e1, .ref e2, .int 5, .int 0])), (e1, wI tC 0 z1)]) [1, 2] (by decide) rfl
            have hFc := va_free (wc := [(f, .inr (3, [.ref e1, .ref e2, .int 5, .int 0])), (e1, wI tC 0 z1)]) hD hS hA [1, 2] rfl
            refine va_calli (va_runVN (As := []) (rest := [.int 0]) ⟨hx, hb, hml, hown, hts⟩ (c_X2_length l hlt D tC dz H.size f e1 e2 z1 ) ⟨(va_cnB (host := "NoticeStations") 0 hts gX4_heldByHolders_X2_length_n107 rfl rfl rfl (hN.1 (.methodLinkNest "NoticeStations" 107 ⟨"NoticeStations$Standing", "length", "()I"⟩ "NoticeStations") (by decide +kernel)) w_0 (by decide +kernel) ⟨Nat.le_of_ble_eq_true rfl, Nat.le_of_ble_eq_true rfl⟩), w_1, w_2⟩ ⟨pB_blind, va_recv hK hPc (ci := 3) (q0 := 0) rfl rfl, pB_at hPc hDc hK hN hE hS hFc⟩ rfl rfl hl.1 rfl (lv_room (Nat.le_of_ble_eq_true rfl)) dX4_heldByHolders_26 ⟨Nat.le_of_ble_eq_true rfl, Nat.le_of_ble_eq_true rfl⟩) hS (fun q _ h => hFc q h) hFc (fun r_47 u t H1 locs ht hvm hw hB hz1 hk1 hS => ?_)
            obtain ⟨hP1, _, hD1⟩ := hB
            have hw_48 := hw
            rw [ht] at hP1
            obtain ⟨hP, hD⟩ := va_join (wr := [(a4, wS tC 5 gf)]) (w1 := [(f, .inr (3, [.ref e1, .ref e2, .int 5, .int 0])), (e1, wI tC 0 z1)]) hP hD [1, 2] [0] rfl rfl (by decide) (by decide) hk1 hFc hP1 hD1
            generalize H1 = H at hP hS ⊢
            have hP : va_P D vwCl [(a4, wS tC 5 gf), (f, .inr (3, [.ref e1, .ref e2, .int 5, .int 0])), (e1, wI tC 0 z1)] H := hP
            have hD : va_D A [(a4, wS tC 5 gf), (f, .inr (3, [.ref e1, .ref e2, .int 5, .int 0])), (e1, wI tC 0 z1)] := hD
            subst hw_48
            refine lv_icmp_le (tgt := 36) hx hb dX4_heldByHolders_29 (by decide) (fun _ => ?_) (fun hc => absurd (by decide) hc)
            refine lv_iinc (v := 5) (lv' := [(2, .int 5), (1, .ref f), (0, .ref a4)]) hx hb dX4_heldByHolders_36 hl (k := 0) rfl (by decide) (by decide) rfl (fun ls hl => ?_)
            refine lv_goto (tgt := 4) hx hb dX4_heldByHolders_39 (by decide) ?_
            refine lv_iload_n hx hb dX4_heldByHolders_4 rfl (lv_at hl 0 rfl) ?_
            refine lv_iconst (v := 5) hx hb dX4_heldByHolders_5 (by decide) ?_
            refine lv_icmp_ge (tgt := 42) hx hb dX4_heldByHolders_6 (by decide) (fun _ => ?_) (fun hc => absurd (by decide) hc)
            refine lv_aload_n hx hb dX4_heldByHolders_42 rfl (lv_at hl 1 rfl) ?_
            have hP9 := hP.sub (ws' := [(a4, wS tC 5 gf), (f, .inr (3, [.ref e1, .ref e2, .int 5, .int 0])), (e1, wI tC 0 z1)]) [0, 1, 2] rfl
            have hD9 := hD.sub (ws' := [(a4, wS tC 5 gf), (f, .inr (3, [.ref e1, .ref e2, .int 5, .int 0])), (e1, wI tC 0 z1)]) [0, 1, 2] (by decide) rfl
            refine W.widen (k := 0) (n := 0) (by omega) (by omega) ?_
            exact W.aret (v := .ref f) hx hb hr (Or.inl ⟨_, rfl⟩) (Or.inr ⟨_, rfl⟩) (fun t ht hW => ⟨⟨(some f), (), rfl, rfl, (by rw [ht]; exact hP9), va_K.moved hW.alike hK, hD9⟩, hS.F ht⟩) hS.2.2 dX4_heldByHolders_43 hlocks
        · skip
          refine lv_iload_n hx hb dX4_heldByHolders_4 rfl (lv_at hl 0 rfl) ?_
          refine lv_iconst (v := 5) hx hb dX4_heldByHolders_5 (by decide) ?_
          refine lv_icmp_ge (tgt := 42) hx hb dX4_heldByHolders_6 (by decide) (fun hc => absurd hc (by decide)) (fun _ => ?_)
          refine lv_aload_n hx hb dX4_heldByHolders_9 rfl (lv_at hl 2 rfl) ?_
          refine lv_iload_n hx hb dX4_heldByHolders_10 rfl (lv_at hl 0 rfl) ?_
          refine va_aldq hx hb hK hP 0 2 rfl rfl (by unfold vp_in; decide) dX4_heldByHolders_11 ?_
          rw [show gf (3 : Int32).toNatClampNeg = some f from (by rw [show (3 : Int32).toNatClampNeg = 3 by decide, hg 3 (by decide), hb3]; rfl)]
          refine W.eq (g2 := F0 m 12 ls [.ref f]) rfl ?_
          refine lv_ifnull hx hb dX4_heldByHolders_12 ?_
          refine lv_aload_n hx hb dX4_heldByHolders_15 rfl (lv_at hl 1 rfl) ?_
          refine lv_ifnull hx hb dX4_heldByHolders_16 ?_
          refine lv_aload_n hx hb dX4_heldByHolders_19 rfl (lv_at hl 2 rfl) ?_
          refine lv_iload_n hx hb dX4_heldByHolders_20 rfl (lv_at hl 0 rfl) ?_
          refine va_aldq hx hb hK hP 0 2 rfl rfl (by unfold vp_in; decide) dX4_heldByHolders_21 ?_
          rw [show gf (3 : Int32).toNatClampNeg = some f from (by rw [show (3 : Int32).toNatClampNeg = 3 by decide, hg 3 (by decide), hb3]; rfl)]
          refine W.eq (g2 := F0 m 22 ls [.ref f]) rfl ?_
          have hPc := hP.sub (ws' := [(f, .inr (3, [.ref e1, .ref e2, .int 5, .int 0])), (e1, wI tC 0 z1)]) [1, 2] rfl
          have hDc := hD.sub (ws' := [(f, .inr (3, [.ref e1, .ref e2, .int 5, .int 0])), (e1, wI tC 0 z1)]) [1, 2] (by decide) rfl
          have hFc := va_free (wc := [(f, .inr (3, [.ref e1, .ref e2, .int 5, .int 0])), (e1, wI tC 0 z1)]) hD hS hA [1, 2] rfl
          refine va_calli (va_runVN (As := []) (rest := []) ⟨hx, hb, hml, hown, hts⟩ (c_X2_length l hlt D tC dz s.heap.size f e1 e2 z1 ) ⟨(va_cnB (host := "NoticeStations") 0 hts gX4_heldByHolders_X2_length_n107 rfl rfl rfl (hN.1 (.methodLinkNest "NoticeStations" 107 ⟨"NoticeStations$Standing", "length", "()I"⟩ "NoticeStations") (by decide +kernel)) w_0 (by decide +kernel) ⟨Nat.le_of_ble_eq_true rfl, Nat.le_of_ble_eq_true rfl⟩), w_1, w_2⟩ ⟨pB_blind, va_recv hK hPc (ci := 3) (q0 := 0) rfl rfl, pB_at hPc hDc hK hN hE hS hFc⟩ rfl rfl hl.1 rfl (lv_room (Nat.le_of_ble_eq_true rfl)) dX4_heldByHolders_22 ⟨Nat.le_of_ble_eq_true rfl, Nat.le_of_ble_eq_true rfl⟩) hS (fun q _ h => hFc q h) hFc (fun r_49 u t H1 locs ht hvm hw hB hz1 hk1 hS => ?_)
          obtain ⟨hP1, _, hD1⟩ := hB
          have hw_50 := hw
          rw [ht] at hP1
          obtain ⟨hP, hD⟩ := va_join (wr := [(a4, wS tC 5 gf)]) (w1 := [(f, .inr (3, [.ref e1, .ref e2, .int 5, .int 0])), (e1, wI tC 0 z1)]) hP hD [1, 2] [0] rfl rfl (by decide) (by decide) hk1 hFc hP1 hD1
          generalize H1 = H at hP hS ⊢
          have hP : va_P D vwCl [(a4, wS tC 5 gf), (f, .inr (3, [.ref e1, .ref e2, .int 5, .int 0])), (e1, wI tC 0 z1)] H := hP
          have hD : va_D A [(a4, wS tC 5 gf), (f, .inr (3, [.ref e1, .ref e2, .int 5, .int 0])), (e1, wI tC 0 z1)] := hD
          subst hw_50
          refine lv_aload_n hx hb dX4_heldByHolders_25 rfl (lv_at hl 1 rfl) ?_
          have hPc := hP.sub (ws' := [(f, .inr (3, [.ref e1, .ref e2, .int 5, .int 0])), (e1, wI tC 0 z1)]) [1, 2] rfl
          have hDc := hD.sub (ws' := [(f, .inr (3, [.ref e1, .ref e2, .int 5, .int 0])), (e1, wI tC 0 z1)]) [1, 2] (by decide) rfl
          have hFc := va_free (wc := [(f, .inr (3, [.ref e1, .ref e2, .int 5, .int 0])), (e1, wI tC 0 z1)]) hD hS hA [1, 2] rfl
          refine va_calli (va_runVN (As := []) (rest := [.int 0]) ⟨hx, hb, hml, hown, hts⟩ (c_X2_length l hlt D tC dz H.size f e1 e2 z1 ) ⟨(va_cnB (host := "NoticeStations") 0 hts gX4_heldByHolders_X2_length_n107 rfl rfl rfl (hN.1 (.methodLinkNest "NoticeStations" 107 ⟨"NoticeStations$Standing", "length", "()I"⟩ "NoticeStations") (by decide +kernel)) w_0 (by decide +kernel) ⟨Nat.le_of_ble_eq_true rfl, Nat.le_of_ble_eq_true rfl⟩), w_1, w_2⟩ ⟨pB_blind, va_recv hK hPc (ci := 3) (q0 := 0) rfl rfl, pB_at hPc hDc hK hN hE hS hFc⟩ rfl rfl hl.1 rfl (lv_room (Nat.le_of_ble_eq_true rfl)) dX4_heldByHolders_26 ⟨Nat.le_of_ble_eq_true rfl, Nat.le_of_ble_eq_true rfl⟩) hS (fun q _ h => hFc q h) hFc (fun r_51 u t H1 locs ht hvm hw hB hz1 hk1 hS => ?_)
          obtain ⟨hP1, _, hD1⟩ := hB
          have hw_52 := hw
          rw [ht] at hP1
          obtain ⟨hP, hD⟩ := va_join (wr := [(a4, wS tC 5 gf)]) (w1 := [(f, .inr (3, [.ref e1, .ref e2, .int 5, .int 0])), (e1, wI tC 0 z1)]) hP hD [1, 2] [0] rfl rfl (by decide) (by decide) hk1 hFc hP1 hD1
          generalize H1 = H at hP hS ⊢
          have hP : va_P D vwCl [(a4, wS tC 5 gf), (f, .inr (3, [.ref e1, .ref e2, .int 5, .int 0])), (e1, wI tC 0 z1)] H := hP
          have hD : va_D A [(a4, wS tC 5 gf), (f, .inr (3, [.ref e1, .ref e2, .int 5, .int 0])), (e1, wI tC 0 z1)] := hD
          subst hw_52
          refine lv_icmp_le (tgt := 36) hx hb dX4_heldByHolders_29 (by decide) (fun _ => ?_) (fun hc => absurd (by decide) hc)
          refine lv_iinc (v := 4) (lv' := [(2, .int 4), (1, .ref f), (0, .ref a4)]) hx hb dX4_heldByHolders_36 hl (k := 0) rfl (by decide) (by decide) rfl (fun ls hl => ?_)
          refine lv_goto (tgt := 4) hx hb dX4_heldByHolders_39 (by decide) ?_
          cases hb4 : bt 4
          · skip
            refine lv_iload_n hx hb dX4_heldByHolders_4 rfl (lv_at hl 0 rfl) ?_
            refine lv_iconst (v := 5) hx hb dX4_heldByHolders_5 (by decide) ?_
            refine lv_icmp_ge (tgt := 42) hx hb dX4_heldByHolders_6 (by decide) (fun hc => absurd hc (by decide)) (fun _ => ?_)
            refine lv_aload_n hx hb dX4_heldByHolders_9 rfl (lv_at hl 2 rfl) ?_
            refine lv_iload_n hx hb dX4_heldByHolders_10 rfl (lv_at hl 0 rfl) ?_
            refine va_aldq hx hb hK hP 0 2 rfl rfl (by unfold vp_in; decide) dX4_heldByHolders_11 ?_
            rw [show gf (4 : Int32).toNatClampNeg = none from (by rw [show (4 : Int32).toNatClampNeg = 4 by decide, hg 4 (by decide), hb4]; rfl)]
            refine W.eq (g2 := F0 m 12 ls [.null]) rfl ?_
            refine lv_ifnullN (tgt := 36) hx hb dX4_heldByHolders_12 (by decide) ?_
            refine lv_iinc (v := 5) (lv' := [(2, .int 5), (1, .ref f), (0, .ref a4)]) hx hb dX4_heldByHolders_36 hl (k := 0) rfl (by decide) (by decide) rfl (fun ls hl => ?_)
            refine lv_goto (tgt := 4) hx hb dX4_heldByHolders_39 (by decide) ?_
            refine lv_iload_n hx hb dX4_heldByHolders_4 rfl (lv_at hl 0 rfl) ?_
            refine lv_iconst (v := 5) hx hb dX4_heldByHolders_5 (by decide) ?_
            refine lv_icmp_ge (tgt := 42) hx hb dX4_heldByHolders_6 (by decide) (fun _ => ?_) (fun hc => absurd (by decide) hc)
            refine lv_aload_n hx hb dX4_heldByHolders_42 rfl (lv_at hl 1 rfl) ?_
            have hP9 := hP.sub (ws' := [(a4, wS tC 5 gf), (f, .inr (3, [.ref e1, .ref e2, .int 5, .int 0])), (e1, wI tC 0 z1)]) [0, 1, 2] rfl
            have hD9 := hD.sub (ws' := [(a4, wS tC 5 gf), (f, .inr (3, [.ref e1, .ref e2, .int 5, .int 0])), (e1, wI tC 0 z1)]) [0, 1, 2] (by decide) rfl
            refine W.widen (k := 0) (n := 0) (by omega) (by omega) ?_
            exact W.aret (v := .ref f) hx hb hr (Or.inl ⟨_, rfl⟩) (Or.inr ⟨_, rfl⟩) (fun t ht hW => ⟨⟨(some f), (), rfl, rfl, (by rw [ht]; exact hP9), va_K.moved hW.alike hK, hD9⟩, hS.F ht⟩) hS.2.2 dX4_heldByHolders_43 hlocks
          · skip
            refine lv_iload_n hx hb dX4_heldByHolders_4 rfl (lv_at hl 0 rfl) ?_
            refine lv_iconst (v := 5) hx hb dX4_heldByHolders_5 (by decide) ?_
            refine lv_icmp_ge (tgt := 42) hx hb dX4_heldByHolders_6 (by decide) (fun hc => absurd hc (by decide)) (fun _ => ?_)
            refine lv_aload_n hx hb dX4_heldByHolders_9 rfl (lv_at hl 2 rfl) ?_
            refine lv_iload_n hx hb dX4_heldByHolders_10 rfl (lv_at hl 0 rfl) ?_
            refine va_aldq hx hb hK hP 0 2 rfl rfl (by unfold vp_in; decide) dX4_heldByHolders_11 ?_
            rw [show gf (4 : Int32).toNatClampNeg = some f from (by rw [show (4 : Int32).toNatClampNeg = 4 by decide, hg 4 (by decide), hb4]; rfl)]
            refine W.eq (g2 := F0 m 12 ls [.ref f]) rfl ?_
            refine lv_ifnull hx hb dX4_heldByHolders_12 ?_
            refine lv_aload_n hx hb dX4_heldByHolders_15 rfl (lv_at hl 1 rfl) ?_
            refine lv_ifnull hx hb dX4_heldByHolders_16 ?_
            refine lv_aload_n hx hb dX4_heldByHolders_19 rfl (lv_at hl 2 rfl) ?_
            refine lv_iload_n hx hb dX4_heldByHolders_20 rfl (lv_at hl 0 rfl) ?_
            refine va_aldq hx hb hK hP 0 2 rfl rfl (by unfold vp_in; decide) dX4_heldByHolders_21 ?_
            rw [show gf (4 : Int32).toNatClampNeg = some f from (by rw [show (4 : Int32).toNatClampNeg = 4 by decide, hg 4 (by decide), hb4]; rfl)]
            refine W.eq (g2 := F0 m 22 ls [.ref f]) rfl ?_
            have hPc := hP.sub (ws' := [(f, .inr (3, [.ref e1, .ref e2, .int 5, .int 0])), (e1, wI tC 0 z1)]) [1, 2] rfl
            have hDc := hD.sub (ws' := [(f, .inr (3, [.ref e1, .ref e2, .int 5, .int 0])), (e1, wI tC 0 z1)]) [1, 2] (by decide) rfl
            have hFc := va_free (wc := [(f, .inr (3, [.ref e1, .ref e2, .int 5, .int 0])), (e1, wI tC 0 z1)]) hD hS hA [1, 2] rfl
            refine va_calli (va_runVN (As := []) (rest := []) ⟨hx, hb, hml, hown, hts⟩ (c_X2_length l hlt D tC dz H.size f e1 e2 z1 ) ⟨(va_cnB (host := "NoticeStations") 0 hts gX4_heldByHolders_X2_length_n107 rfl rfl rfl (hN.1 (.methodLinkNest "NoticeStations" 107 ⟨"NoticeStations$Standing", "length", "()I"⟩ "NoticeStations") (by decide +kernel)) w_0 (by decide +kernel) ⟨Nat.le_of_ble_eq_true rfl, Nat.le_of_ble_eq_true rfl⟩), w_1, w_2⟩ ⟨pB_blind, va_recv hK hPc (ci := 3) (q0 := 0) rfl rfl, pB_at hPc hDc hK hN hE hS hFc⟩ rfl rfl hl.1 rfl (lv_room (Nat.le_of_ble_eq_true rfl)) dX4_heldByHolders_22 ⟨Nat.le_of_ble_eq_true rfl, Nat.le_of_ble_eq_true rfl⟩) hS (fun q _ h => hFc q h) hFc (fun r_53 u t H1 locs ht hvm hw hB hz1 hk1 hS => ?_)
            obtain ⟨hP1, _, hD1⟩ := hB
            have hw_54 := hw
            rw [ht] at hP1
            obtain ⟨hP, hD⟩ := va_join (wr := [(a4, wS tC 5 gf)]) (w1 := [(f, .inr (3, [.ref e1, .ref e2, .int 5, .int 0])), (e1, wI tC 0 z1)]) hP hD [1, 2] [0] rfl rfl (by decide) (by decide) hk1 hFc hP1 hD1
            generalize H1 = H at hP hS ⊢
            have hP : va_P D vwCl [(a4, wS tC 5 gf), (f, .inr (3, [.ref e1, .ref e2, .int 5, .int 0])), (e1, wI tC 0 z1)] H := hP
            have hD : va_D A [(a4, wS tC 5 gf), (f, .inr (3, [.ref e1, .ref e2, .int 5, .int 0])), (e1, wI tC 0 z1)] := hD
            subst hw_54
            refine lv_aload_n hx hb dX4_heldByHolders_25 rfl (lv_at hl 1 rfl) ?_
            have hPc := hP.sub (ws' := [(f, .inr (3, [.ref e1, .ref e2, .int 5, .int 0])), (e1, wI tC 0 z1)]) [1, 2] rfl
            have hDc := hD.sub (ws' := [(f, .inr (3, [.ref e1, .ref e2, .int 5, .int 0])), (e1, wI tC 0 z1)]) [1, 2] (by decide) rfl
            have hFc := va_free (wc := [(f, .inr (3, [.ref e1, .ref e2, .int 5, .int 0])), (e1, wI tC 0 z1)]) hD hS hA [1, 2] rfl
            refine va_calli (va_runVN (As := []) (rest := [.int 0]) ⟨hx, hb, hml, hown, hts⟩ (c_X2_length l hlt D tC dz H.size f e1 e2 z1 ) ⟨(va_cnB (host := "NoticeStations") 0 hts gX4_heldByHolders_X2_length_n107 rfl rfl rfl (hN.1 (.methodLinkNest "NoticeStations" 107 ⟨"NoticeStations$Standing", "length", "()I"⟩ "NoticeStations") (by decide +kernel)) w_0 (by decide +kernel) ⟨Nat.le_of_ble_eq_true rfl, Nat.le_of_ble_eq_true rfl⟩), w_1, w_2⟩ ⟨pB_blind, va_recv hK hPc (ci := 3) (q0 := 0) rfl rfl, pB_at hPc hDc hK hN hE hS hFc⟩ rfl rfl hl.1 rfl (lv_room (Nat.le_of_ble_eq_true rfl)) dX4_heldByHolders_26 ⟨Nat.le_of_ble_eq_true rfl, Nat.le_of_ble_eq_true rfl⟩) hS (fun q _ h => hFc q h) hFc (fun r_55 u t H1 locs ht hvm hw hB hz1 hk1 hS => ?_)
            obtain ⟨hP1, _, hD1⟩ := hB
            have hw_56 := hw
            rw [ht] at hP1
            obtain ⟨hP, hD⟩ := va_join (wr := [(a4, wS tC 5 gf)]) (w1 := [(f, .inr (3, [.ref e1, .ref e2, .int 5, .int 0])), (e1, wI tC 0 z1)]) hP hD [1, 2] [0] rfl rfl (by decide) (by decide) hk1 hFc hP1 hD1
            generalize H1 = H at hP hS ⊢
            have hP : va_P D vwCl [(a4, wS tC 5 gf), (f, .inr (3, [.ref e1, .ref e2, .int 5, .int 0])), (e1, wI tC 0 z1)] H := hP
            have hD : va_D A [(a4, wS tC 5 gf), (f, .inr (3, [.ref e1, .ref e2, .int 5, .int 0])), (e1, wI tC 0 z1)] := hD
            subst hw_56
            refine lv_icmp_le (tgt := 36) hx hb dX4_heldByHolders_29 (by decide) (fun _ => ?_) (fun hc => absurd (by decide) hc)
            refine lv_iinc (v := 5) (lv' := [(2, .int 5), (1, .ref f), (0, .ref a4)]) hx hb dX4_heldByHolders_36 hl (k := 0) rfl (by decide) (by decide) rfl (fun ls hl => ?_)
            refine lv_goto (tgt := 4) hx hb dX4_heldByHolders_39 (by decide) ?_
            refine lv_iload_n hx hb dX4_heldByHolders_4 rfl (lv_at hl 0 rfl) ?_
            refine lv_iconst (v := 5) hx hb dX4_heldByHolders_5 (by decide) ?_
            refine lv_icmp_ge (tgt := 42) hx hb dX4_heldByHolders_6 (by decide) (fun _ => ?_) (fun hc => absurd (by decide) hc)
            refine lv_aload_n hx hb dX4_heldByHolders_42 rfl (lv_at hl 1 rfl) ?_
            have hP9 := hP.sub (ws' := [(a4, wS tC 5 gf), (f, .inr (3, [.ref e1, .ref e2, .int 5, .int 0])), (e1, wI tC 0 z1)]) [0, 1, 2] rfl
            have hD9 := hD.sub (ws' := [(a4, wS tC 5 gf), (f, .inr (3, [.ref e1, .ref e2, .int 5, .int 0])), (e1, wI tC 0 z1)]) [0, 1, 2] (by decide) rfl
            refine W.widen (k := 0) (n := 0) (by omega) (by omega) ?_
            exact W.aret (v := .ref f) hx hb hr (Or.inl ⟨_, rfl⟩) (Or.inr ⟨_, rfl⟩) (fun t ht hW => ⟨⟨(some f), (), rfl, rfl, (by rw [ht]; exact hP9), va_K.moved hW.alike hK, hD9⟩, hS.F ht⟩) hS.2.2 dX4_heldByHolders_43 hlocks
      · skip
        refine lv_iload_n hx hb dX4_heldByHolders_4 rfl (lv_at hl 0 rfl) ?_
        refine lv_iconst (v := 5) hx hb dX4_heldByHolders_5 (by decide) ?_
        refine lv_icmp_ge (tgt := 42) hx hb dX4_heldByHolders_6 (by decide) (fun hc => absurd hc (by decide)) (fun _ => ?_)
        refine lv_aload_n hx hb dX4_heldByHolders_9 rfl (lv_at hl 2 rfl) ?_
        refine lv_iload_n hx hb dX4_heldByHolders_10 rfl (lv_at hl 0 rfl) ?_
        refine va_aldq hx hb hK hP 0 2 rfl rfl (by unfold vp_in; decide) dX4_heldByHolders_11 ?_
        rw [show gf (2 : Int32).toNatClampNeg = some f from (by rw [show (2 : Int32).toNatClampNeg = 2 by decide, hg 2 (by decide), hb2]; rfl)]
        refine W.eq (g2 := F0 m 12 ls [.ref f]) rfl ?_
        refine lv_ifnull hx hb dX4_heldByHolders_12 ?_
        refine lv_aload_n hx hb dX4_heldByHolders_15 rfl (lv_at hl 1 rfl) ?_
        refine lv_ifnull hx hb dX4_heldByHolders_16 ?_
        refine lv_aload_n hx hb dX4_heldByHolders_19 rfl (lv_at hl 2 rfl) ?_
        refine lv_iload_n hx hb dX4_heldByHolders_20 rfl (lv_at hl 0 rfl) ?_
        refine va_aldq hx hb hK hP 0 2 rfl rfl (by unfold vp_in; decide) dX4_heldByHolders_21 ?_
        rw [show gf (2 : Int32).toNatClampNeg = some f from (by rw [show (2 : Int32).toNatClampNeg = 2 by decide, hg 2 (by decide), hb2]; rfl)]
        refine W.eq (g2 := F0 m 22 ls [.ref f]) rfl ?_
        have hPc := hP.sub (ws' := [(f, .inr (3, [.ref e1, .ref e2, .int 5, .int 0])), (e1, wI tC 0 z1)]) [1, 2] rfl
        have hDc := hD.sub (ws' := [(f, .inr (3, [.ref e1, .ref e2, .int 5, .int 0])), (e1, wI tC 0 z1)]) [1, 2] (by decide) rfl
        have hFc := va_free (wc := [(f, .inr (3, [.ref e1, .ref e2, .int 5, .int 0])), (e1, wI tC 0 z1)]) hD hS hA [1, 2] rfl
        refine va_calli (va_runVN (As := []) (rest := []) ⟨hx, hb, hml, hown, hts⟩ (c_X2_length l hlt D tC dz s.heap.size f e1 e2 z1 ) ⟨(va_cnB (host := "NoticeStations") 0 hts gX4_heldByHolders_X2_length_n107 rfl rfl rfl (hN.1 (.methodLinkNest "NoticeStations" 107 ⟨"NoticeStations$Standing", "length", "()I"⟩ "NoticeStations") (by decide +kernel)) w_0 (by decide +kernel) ⟨Nat.le_of_ble_eq_true rfl, Nat.le_of_ble_eq_true rfl⟩), w_1, w_2⟩ ⟨pB_blind, va_recv hK hPc (ci := 3) (q0 := 0) rfl rfl, pB_at hPc hDc hK hN hE hS hFc⟩ rfl rfl hl.1 rfl (lv_room (Nat.le_of_ble_eq_true rfl)) dX4_heldByHolders_22 ⟨Nat.le_of_ble_eq_true rfl, Nat.le_of_ble_eq_true rfl⟩) hS (fun q _ h => hFc q h) hFc (fun r_57 u t H1 locs ht hvm hw hB hz1 hk1 hS => ?_)
        obtain ⟨hP1, _, hD1⟩ := hB
        have hw_58 := hw
        rw [ht] at hP1
        obtain ⟨hP, hD⟩ := va_join (wr := [(a4, wS tC 5 gf)]) (w1 := [(f, .inr (3, [.ref e1, .ref e2, .int 5, .int 0])), (e1, wI tC 0 z1)]) hP hD [1, 2] [0] rfl rfl (by decide) (by decide) hk1 hFc hP1 hD1
        generalize H1 = H at hP hS ⊢
        have hP : va_P D vwCl [(a4, wS tC 5 gf), (f, .inr (3, [.ref e1, .ref e2, .int 5, .int 0])), (e1, wI tC 0 z1)] H := hP
        have hD : va_D A [(a4, wS tC 5 gf), (f, .inr (3, [.ref e1, .ref e2, .int 5, .int 0])), (e1, wI tC 0 z1)] := hD
        subst hw_58
        refine lv_aload_n hx hb dX4_heldByHolders_25 rfl (lv_at hl 1 rfl) ?_
        have hPc := hP.sub (ws' := [(f, .inr (3, [.ref e1, .ref e2, .int 5, .int 0])), (e1, wI tC 0 z1)]) [1, 2] rfl
        have hDc := hD.sub (ws' := [(f, .inr (3, [.ref e1, .ref e2, .int 5, .int 0])), (e1, wI tC 0 z1)]) [1, 2] (by decide) rfl
        have hFc := va_free (wc := [(f, .inr (3, [.ref e1, .ref e2, .int 5, .int 0])), (e1, wI tC 0 z1)]) hD hS hA [1, 2] rfl
        refine va_calli (va_runVN (As := []) (rest := [.int 0]) ⟨hx, hb, hml, hown, hts⟩ (c_X2_length l hlt D tC dz H.size f e1 e2 z1 ) ⟨(va_cnB (host := "NoticeStations") 0 hts gX4_heldByHolders_X2_length_n107 rfl rfl rfl (hN.1 (.methodLinkNest "NoticeStations" 107 ⟨"NoticeStations$Standing", "length", "()I"⟩ "NoticeStations") (by decide +kernel)) w_0 (by decide +kernel) ⟨Nat.le_of_ble_eq_true rfl, Nat.le_of_ble_eq_true rfl⟩), w_1, w_2⟩ ⟨pB_blind, va_recv hK hPc (ci := 3) (q0 := 0) rfl rfl, pB_at hPc hDc hK hN hE hS hFc⟩ rfl rfl hl.1 rfl (lv_room (Nat.le_of_ble_eq_true rfl)) dX4_heldByHolders_26 ⟨Nat.le_of_ble_eq_true rfl, Nat.le_of_ble_eq_true rfl⟩) hS (fun q _ h => hFc q h) hFc (fun r_59 u t H1 locs ht hvm hw hB hz1 hk1 hS => ?_)
        obtain ⟨hP1, _, hD1⟩ := hB
        have hw_60 := hw
        rw [ht] at hP1
        obtain ⟨hP, hD⟩ := va_join (wr := [(a4, wS tC 5 gf)]) (w1 := [(f, .inr (3, [.ref e1, .ref e2, .int 5, .int 0])), (e1, wI tC 0 z1)]) hP hD [1, 2] [0] rfl rfl (by decide) (by decide) hk1 hFc hP1 hD1
        generalize H1 = H at hP hS ⊢
        have hP : va_P D vwCl [(a4, wS tC 5 gf), (f, .inr (3, [.ref e1, .ref e2, .int 5, .int 0])), (e1, wI tC 0 z1)] H := hP
        have hD : va_D A [(a4, wS tC 5 gf), (f, .inr (3, [.ref e1, .ref e2, .int 5, .int 0])), (e1, wI tC 0 z1)] := hD
        subst hw_60
        refine lv_icmp_le (tgt := 36) hx hb dX4_heldByHolders_29 (by decide) (fun _ => ?_) (fun hc => absurd (by decide) hc)
        refine lv_iinc (v := 3) (lv' := [(2, .int 3), (1, .ref f), (0, .ref a4)]) hx hb dX4_heldByHolders_36 hl (k := 0) rfl (by decide) (by decide) rfl (fun ls hl => ?_)
        refine lv_goto (tgt := 4) hx hb dX4_heldByHolders_39 (by decide) ?_
        cases hb3 : bt 3
        · skip
          refine lv_iload_n hx hb dX4_heldByHolders_4 rfl (lv_at hl 0 rfl) ?_
          refine lv_iconst (v := 5) hx hb dX4_heldByHolders_5 (by decide) ?_
          refine lv_icmp_ge (tgt := 42) hx hb dX4_heldByHolders_6 (by decide) (fun hc => absurd hc (by decide)) (fun _ => ?_)
          refine lv_aload_n hx hb dX4_heldByHolders_9 rfl (lv_at hl 2 rfl) ?_
          refine lv_iload_n hx hb dX4_heldByHolders_10 rfl (lv_at hl 0 rfl) ?_
          refine va_aldq hx hb hK hP 0 2 rfl rfl (by unfold vp_in; decide) dX4_heldByHolders_11 ?_
          rw [show gf (3 : Int32).toNatClampNeg = none from (by rw [show (3 : Int32).toNatClampNeg = 3 by decide, hg 3 (by decide), hb3]; rfl)]
          refine W.eq (g2 := F0 m 12 ls [.null]) rfl ?_
          refine lv_ifnullN (tgt := 36) hx hb dX4_heldByHolders_12 (by decide) ?_
          refine lv_iinc (v := 4) (lv' := [(2, .int 4), (1, .ref f), (0, .ref a4)]) hx hb dX4_heldByHolders_36 hl (k := 0) rfl (by decide) (by decide) rfl (fun ls hl => ?_)
          refine lv_goto (tgt := 4) hx hb dX4_heldByHolders_39 (by decide) ?_
          cases hb4 : bt 4
          · skip
            refine lv_iload_n hx hb dX4_heldByHolders_4 rfl (lv_at hl 0 rfl) ?_
            refine lv_iconst (v := 5) hx hb dX4_heldByHolders_5 (by decide) ?_
            refine lv_icmp_ge (tgt := 42) hx hb dX4_heldByHolders_6 (by decide) (fun hc => absurd hc (by decide)) (fun _ => ?_)
            refine lv_aload_n hx hb dX4_heldByHolders_9 rfl (lv_at hl 2 rfl) ?_
            refine lv_iload_n hx hb dX4_heldByHolders_10 rfl (lv_at hl 0 rfl) ?_
            refine va_aldq hx hb hK hP 0 2 rfl rfl (by unfold vp_in; decide) dX4_heldByHolders_11 ?_
            rw [show gf (4 : Int32).toNatClampNeg = none from (by rw [show (4 : Int32).toNatClampNeg = 4 by decide, hg 4 (by decide), hb4]; rfl)]
            refine W.eq (g2 := F0 m 12 ls [.null]) rfl ?_
            refine lv_ifnullN (tgt := 36) hx hb dX4_heldByHolders_12 (by decide) ?_
            refine lv_iinc (v := 5) (lv' := [(2, .int 5), (1, .ref f), (0, .ref a4)]) hx hb dX4_heldByHolders_36 hl (k := 0) rfl (by decide) (by decide) rfl (fun ls hl => ?_)
            refine lv_goto (tgt := 4) hx hb dX4_heldByHolders_39 (by decide) ?_
            refine lv_iload_n hx hb dX4_heldByHolders_4 rfl (lv_at hl 0 rfl) ?_
            refine lv_iconst (v := 5) hx hb dX4_heldByHolders_5 (by decide) ?_
            refine lv_icmp_ge (tgt := 42) hx hb dX4_heldByHolders_6 (by decide) (fun _ => ?_) (fun hc => absurd (by decide) hc)
            refine lv_aload_n hx hb dX4_heldByHolders_42 rfl (lv_at hl 1 rfl) ?_
            have hP9 := hP.sub (ws' := [(a4, wS tC 5 gf), (f, .inr (3, [.ref e1, .ref e2, .int 5, .int 0])), (e1, wI tC 0 z1)]) [0, 1, 2] rfl
            have hD9 := hD.sub (ws' := [(a4, wS tC 5 gf), (f, .inr (3, [.ref e1, .ref e2, .int 5, .int 0])), (e1, wI tC 0 z1)]) [0, 1, 2] (by decide) rfl
            refine W.widen (k := 0) (n := 0) (by omega) (by omega) ?_
            exact W.aret (v := .ref f) hx hb hr (Or.inl ⟨_, rfl⟩) (Or.inr ⟨_, rfl⟩) (fun t ht hW => ⟨⟨(some f), (), rfl, rfl, (by rw [ht]; exact hP9), va_K.moved hW.alike hK, hD9⟩, hS.F ht⟩) hS.2.2 dX4_heldByHolders_43 hlocks
          · skip
            refine lv_iload_n hx hb dX4_heldByHolders_4 rfl (lv_at hl 0 rfl) ?_
            refine lv_iconst (v := 5) hx hb dX4_heldByHolders_5 (by decide) ?_
            refine lv_icmp_ge (tgt := 42) hx hb dX4_heldByHolders_6 (by decide) (fun hc => absurd hc (by decide)) (fun _ => ?_)
            refine lv_aload_n hx hb dX4_heldByHolders_9 rfl (lv_at hl 2 rfl) ?_
            refine lv_iload_n hx hb dX4_heldByHolders_10 rfl (lv_at hl 0 rfl) ?_
            refine va_aldq hx hb hK hP 0 2 rfl rfl (by unfold vp_in; decide) dX4_heldByHolders_11 ?_
            rw [show gf (4 : Int32).toNatClampNeg = some f from (by rw [show (4 : Int32).toNatClampNeg = 4 by decide, hg 4 (by decide), hb4]; rfl)]
            refine W.eq (g2 := F0 m 12 ls [.ref f]) rfl ?_
            refine lv_ifnull hx hb dX4_heldByHolders_12 ?_
            refine lv_aload_n hx hb dX4_heldByHolders_15 rfl (lv_at hl 1 rfl) ?_
            refine lv_ifnull hx hb dX4_heldByHolders_16 ?_
            refine lv_aload_n hx hb dX4_heldByHolders_19 rfl (lv_at hl 2 rfl) ?_
            refine lv_iload_n hx hb dX4_heldByHolders_20 rfl (lv_at hl 0 rfl) ?_
            refine va_aldq hx hb hK hP 0 2 rfl rfl (by unfold vp_in; decide) dX4_heldByHolders_21 ?_
            rw [show gf (4 : Int32).toNatClampNeg = some f from (by rw [show (4 : Int32).toNatClampNeg = 4 by decide, hg 4 (by decide), hb4]; rfl)]
            refine W.eq (g2 := F0 m 22 ls [.ref f]) rfl ?_
            have hPc := hP.sub (ws' := [(f, .inr (3, [.ref e1, .ref e2, .int 5, .int 0])), (e1, wI tC 0 z1)]) [1, 2] rfl
            have hDc := hD.sub (ws' := [(f, .inr (3, [.ref e1, .ref e2, .int 5, .int 0])), (e1, wI tC 0 z1)]) [1, 2] (by decide) rfl
            have hFc := va_free (wc := [(f, .inr (3, [.ref e1, .ref e2, .int 5, .int 0])), (e1, wI tC 0 z1)]) hD hS hA [1, 2] rfl
            refine va_calli (va_runVN (As := []) (rest := []) ⟨hx, hb, hml, hown, hts⟩ (c_X2_length l hlt D tC dz H.size f e1 e2 z1 ) ⟨(va_cnB (host := "NoticeStations") 0 hts gX4_heldByHolders_X2_length_n107 rfl rfl rfl (hN.1 (.methodLinkNest "NoticeStations" 107 ⟨"NoticeStations$Standing", "length", "()I"⟩ "NoticeStations") (by decide +kernel)) w_0 (by decide +kernel) ⟨Nat.le_of_ble_eq_true rfl, Nat.le_of_ble_eq_true rfl⟩), w_1, w_2⟩ ⟨pB_blind, va_recv hK hPc (ci := 3) (q0 := 0) rfl rfl, pB_at hPc hDc hK hN hE hS hFc⟩ rfl rfl hl.1 rfl (lv_room (Nat.le_of_ble_eq_true rfl)) dX4_heldByHolders_22 ⟨Nat.le_of_ble_eq_true rfl, Nat.le_of_ble_eq_true rfl⟩) hS (fun q _ h => hFc q h) hFc (fun r_61 u t H1 locs ht hvm hw hB hz1 hk1 hS => ?_)
            obtain ⟨hP1, _, hD1⟩ := hB
            have hw_62 := hw
            rw [ht] at hP1
            obtain ⟨hP, hD⟩ := va_join (wr := [(a4, wS tC 5 gf)]) (w1 := [(f, .inr (3, [.ref e1, .ref e2, .int 5, .int 0])), (e1, wI tC 0 z1)]) hP hD [1, 2] [0] rfl rfl (by decide) (by decide) hk1 hFc hP1 hD1
            generalize H1 = H at hP hS ⊢
            have hP : va_P D vwCl [(a4, wS tC 5 gf), (f, .inr (3, [.ref e1, .ref e2, .int 5, .int 0])), (e1, wI tC 0 z1)] H := hP
            have hD : va_D A [(a4, wS tC 5 gf), (f, .inr (3, [.ref e1, .ref e2, .int 5, .int 0])), (e1, wI tC 0 z1)] := hD
            subst hw_62
            refine lv_aload_n hx hb dX4_heldByHolders_25 rfl (lv_at hl 1 rfl) ?_
            have hPc := hP.sub (ws' := [(f, .inr (3, [.ref e1, .ref e2, .int 5, .int 0])), (e1, wI tC 0 z1)]) [1, 2] rfl
            have hDc := hD.sub (ws' := [(f, .inr (3, [.ref e1, .ref e2, .int 5, .int 0])), (e1, wI tC 0 z1)]) [1, 2] (by decide) rfl
            have hFc := va_free (wc := [(f, .inr (3, [.ref e1, .ref e2, .int 5, .int 0])), (e1, wI tC 0 z1)]) hD hS hA [1, 2] rfl
            refine va_calli (va_runVN (As := []) (rest := [.int 0]) ⟨hx, hb, hml, hown, hts⟩ (c_X2_length l hlt D tC dz H.size f e1 e2 z1 ) ⟨(va_cnB (host := "NoticeStations") 0 hts gX4_heldByHolders_X2_length_n107 rfl rfl rfl (hN.1 (.methodLinkNest "NoticeStations" 107 ⟨"NoticeStations$Standing", "length", "()I"⟩ "NoticeStations") (by decide +kernel)) w_0 (by decide +kernel) ⟨Nat.le_of_ble_eq_true rfl, Nat.le_of_ble_eq_true rfl⟩), w_1, w_2⟩ ⟨pB_blind, va_recv hK hPc (ci := 3) (q0 := 0) rfl rfl, pB_at hPc hDc hK hN hE hS hFc⟩ rfl rfl hl.1 rfl (lv_room (Nat.le_of_ble_eq_true rfl)) dX4_heldByHolders_26 ⟨Nat.le_of_ble_eq_true rfl, Nat.le_of_ble_eq_true rfl⟩) hS (fun q _ h => hFc q h) hFc (fun r_63 u t H1 locs ht hvm hw hB hz1 hk1 hS => ?_)
            obtain ⟨hP1, _, hD1⟩ := hB
            have hw_64 := hw
            rw [ht] at hP1
            obtain ⟨hP, hD⟩ := va_join (wr := [(a4, wS tC 5 gf)]) (w1 := [(f, .inr (3, [.ref e1, .ref e2, .int 5, .int 0])), (e1, wI tC 0 z1)]) hP hD [1, 2] [0] rfl rfl (by decide) (by decide) hk1 hFc hP1 hD1
            generalize H1 = H at hP hS ⊢
            have hP : va_P D vwCl [(a4, wS tC 5 gf), (f, .inr (3, [.ref e1, .ref e2, .int 5, .int 0])), (e1, wI tC 0 z1)] H := hP
            have hD : va_D A [(a4, wS tC 5 gf), (f, .inr (3, [.ref e1, .ref e2, .int 5, .int 0])), (e1, wI tC 0 z1)] := hD
            subst hw_64
            refine lv_icmp_le (tgt := 36) hx hb dX4_heldByHolders_29 (by decide) (fun _ => ?_) (fun hc => absurd (by decide) hc)
            refine lv_iinc (v := 5) (lv' := [(2, .int 5), (1, .ref f), (0, .ref a4)]) hx hb dX4_heldByHolders_36 hl (k := 0) rfl (by decide) (by decide) rfl (fun ls hl => ?_)
            refine lv_goto (tgt := 4) hx hb dX4_heldByHolders_39 (by decide) ?_
            refine lv_iload_n hx hb dX4_heldByHolders_4 rfl (lv_at hl 0 rfl) ?_
            refine lv_iconst (v := 5) hx hb dX4_heldByHolders_5 (by decide) ?_
            refine lv_icmp_ge (tgt := 42) hx hb dX4_heldByHolders_6 (by decide) (fun _ => ?_) (fun hc => absurd (by decide) hc)
            refine lv_aload_n hx hb dX4_heldByHolders_42 rfl (lv_at hl 1 rfl) ?_
            have hP9 := hP.sub (ws' := [(a4, wS tC 5 gf), (f, .inr (3, [.ref e1, .ref e2, .int 5, .int 0])), (e1, wI tC 0 z1)]) [0, 1, 2] rfl
            have hD9 := hD.sub (ws' := [(a4, wS tC 5 gf), (f, .inr (3, [.ref e1, .ref e2, .int 5, .int 0])), (e1, wI tC 0 z1)]) [0, 1, 2] (by decide) rfl
            refine W.widen (k := 0) (n := 0) (by omega) (by omega) ?_
            exact W.aret (v := .ref f) hx hb hr (Or.inl ⟨_, rfl⟩) (Or.inr ⟨_, rfl⟩) (fun t ht hW => ⟨⟨(some f), (), rfl, rfl, (by rw [ht]; exact hP9), va_K.moved hW.alike hK, hD9⟩, hS.F ht⟩) hS.2.2 dX4_heldByHolders_43 hlocks
        · skip
          refine lv_iload_n hx hb dX4_heldByHolders_4 rfl (lv_at hl 0 rfl) ?_
          refine lv_iconst (v := 5) hx hb dX4_heldByHolders_5 (by decide) ?_
          refine lv_icmp_ge (tgt := 42) hx hb dX4_heldByHolders_6 (by decide) (fun hc => absurd hc (by decide)) (fun _ => ?_)
          refine lv_aload_n hx hb dX4_heldByHolders_9 rfl (lv_at hl 2 rfl) ?_
          refine lv_iload_n hx hb dX4_heldByHolders_10 rfl (lv_at hl 0 rfl) ?_
          refine va_aldq hx hb hK hP 0 2 rfl rfl (by unfold vp_in; decide) dX4_heldByHolders_11 ?_
          rw [show gf (3 : Int32).toNatClampNeg = some f from (by rw [show (3 : Int32).toNatClampNeg = 3 by decide, hg 3 (by decide), hb3]; rfl)]
          refine W.eq (g2 := F0 m 12 ls [.ref f]) rfl ?_
          refine lv_ifnull hx hb dX4_heldByHolders_12 ?_
          refine lv_aload_n hx hb dX4_heldByHolders_15 rfl (lv_at hl 1 rfl) ?_
          refine lv_ifnull hx hb dX4_heldByHolders_16 ?_
          refine lv_aload_n hx hb dX4_heldByHolders_19 rfl (lv_at hl 2 rfl) ?_
          refine lv_iload_n hx hb dX4_heldByHolders_20 rfl (lv_at hl 0 rfl) ?_
          refine va_aldq hx hb hK hP 0 2 rfl rfl (by unfold vp_in; decide) dX4_heldByHolders_21 ?_
          rw [show gf (3 : Int32).toNatClampNeg = some f from (by rw [show (3 : Int32).toNatClampNeg = 3 by decide, hg 3 (by decide), hb3]; rfl)]
          refine W.eq (g2 := F0 m 22 ls [.ref f]) rfl ?_
          have hPc := hP.sub (ws' := [(f, .inr (3, [.ref e1, .ref e2, .int 5, .int 0])), (e1, wI tC 0 z1)]) [1, 2] rfl
          have hDc := hD.sub (ws' := [(f, .inr (3, [.ref e1, .ref e2, .int 5, .int 0])), (e1, wI tC 0 z1)]) [1, 2] (by decide) rfl
          have hFc := va_free (wc := [(f, .inr (3, [.ref e1, .ref e2, .int 5, .int 0])), (e1, wI tC 0 z1)]) hD hS hA [1, 2] rfl
          refine va_calli (va_runVN (As := []) (rest := []) ⟨hx, hb, hml, hown, hts⟩ (c_X2_length l hlt D tC dz H.size f e1 e2 z1 ) ⟨(va_cnB (host := "NoticeStations") 0 hts gX4_heldByHolders_X2_length_n107 rfl rfl rfl (hN.1 (.methodLinkNest "NoticeStations" 107 ⟨"NoticeStations$Standing", "length", "()I"⟩ "NoticeStations") (by decide +kernel)) w_0 (by decide +kernel) ⟨Nat.le_of_ble_eq_true rfl, Nat.le_of_ble_eq_true rfl⟩), w_1, w_2⟩ ⟨pB_blind, va_recv hK hPc (ci := 3) (q0 := 0) rfl rfl, pB_at hPc hDc hK hN hE hS hFc⟩ rfl rfl hl.1 rfl (lv_room (Nat.le_of_ble_eq_true rfl)) dX4_heldByHolders_22 ⟨Nat.le_of_ble_eq_true rfl, Nat.le_of_ble_eq_true rfl⟩) hS (fun q _ h => hFc q h) hFc (fun r_65 u t H1 locs ht hvm hw hB hz1 hk1 hS => ?_)
          obtain ⟨hP1, _, hD1⟩ := hB
          have hw_66 := hw
          rw [ht] at hP1
          obtain ⟨hP, hD⟩ := va_join (wr := [(a4, wS tC 5 gf)]) (w1 := [(f, .inr (3, [.ref e1, .ref e2, .int 5, .int 0])), (e1, wI tC 0 z1)]) hP hD [1, 2] [0] rfl rfl (by decide) (by decide) hk1 hFc hP1 hD1
          generalize H1 = H at hP hS ⊢
          have hP : va_P D vwCl [(a4, wS tC 5 gf), (f, .inr (3, [.ref e1, .ref e2, .int 5, .int 0])), (e1, wI tC 0 z1)] H := hP
          have hD : va_D A [(a4, wS tC 5 gf), (f, .inr (3, [.ref e1, .ref e2, .int 5, .int 0])), (e1, wI tC 0 z1)] := hD
          subst hw_66
          refine lv_aload_n hx hb dX4_heldByHolders_25 rfl (lv_at hl 1 rfl) ?_
          have hPc := hP.sub (ws' := [(f, .inr (3, [.ref e1, .ref e2, .int 5, .int 0])), (e1, wI tC 0 z1)]) [1, 2] rfl
          have hDc := hD.sub (ws' := [(f, .inr (3, [.ref e1, .ref e2, .int 5, .int 0])), (e1, wI tC 0 z1)]) [1, 2] (by decide) rfl
          have hFc := va_free (wc := [(f, .inr (3, [.ref e1, .ref e2, .int 5, .int 0])), (e1, wI tC 0 z1)]) hD hS hA [1, 2] rfl
          refine va_calli (va_runVN (As := []) (rest := [.int 0]) ⟨hx, hb, hml, hown, hts⟩ (c_X2_length l hlt D tC dz H.size f e1 e2 z1 ) ⟨(va_cnB (host := "NoticeStations") 0 hts gX4_heldByHolders_X2_length_n107 rfl rfl rfl (hN.1 (.methodLinkNest "NoticeStations" 107 ⟨"NoticeStations$Standing", "length", "()I"⟩ "NoticeStations") (by decide +kernel)) w_0 (by decide +kernel) ⟨Nat.le_of_ble_eq_true rfl, Nat.le_of_ble_eq_true rfl⟩), w_1, w_2⟩ ⟨pB_blind, va_recv hK hPc (ci := 3) (q0 := 0) rfl rfl, pB_at hPc hDc hK hN hE hS hFc⟩ rfl rfl hl.1 rfl (lv_room (Nat.le_of_ble_eq_true rfl)) dX4_heldByHolders_26 ⟨Nat.le_of_ble_eq_true rfl, Nat.le_of_ble_eq_true rfl⟩) hS (fun q _ h => hFc q h) hFc (fun r_67 u t H1 locs ht hvm hw hB hz1 hk1 hS => ?_)
          obtain ⟨hP1, _, hD1⟩ := hB
          have hw_68 := hw
          rw [ht] at hP1
          obtain ⟨hP, hD⟩ := va_join (wr := [(a4, wS tC 5 gf)]) (w1 := [(f, .inr (3, [.ref e1, .ref e2, .int 5, .int 0])), (e1, wI tC 0 z1)]) hP hD [1, 2] [0] rfl rfl (by decide) (by decide) hk1 hFc hP1 hD1
          generalize H1 = H at hP hS ⊢
          have hP : va_P D vwCl [(a4, wS tC 5 gf), (f, .inr (3, [.ref e1, .ref e2, .int 5, .int 0])), (e1, wI tC 0 z1)] H := hP
          have hD : va_D A [(a4, wS tC 5 gf), (f, .inr (3, [.ref e1, .ref e2, .int 5, .int 0])), (e1, wI tC 0 z1)] := hD
          subst hw_68
          refine lv_icmp_le (tgt := 36) hx hb dX4_heldByHolders_29 (by decide) (fun _ => ?_) (fun hc => absurd (by decide) hc)
          refine lv_iinc (v := 4) (lv' := [(2, .int 4), (1, .ref f), (0, .ref a4)]) hx hb dX4_heldByHolders_36 hl (k := 0) rfl (by decide) (by decide) rfl (fun ls hl => ?_)
          refine lv_goto (tgt := 4) hx hb dX4_heldByHolders_39 (by decide) ?_
          cases hb4 : bt 4
          · skip
            refine lv_iload_n hx hb dX4_heldByHolders_4 rfl (lv_at hl 0 rfl) ?_
            refine lv_iconst (v := 5) hx hb dX4_heldByHolders_5 (by decide) ?_
            refine lv_icmp_ge (tgt := 42) hx hb dX4_heldByHolders_6 (by decide) (fun hc => absurd hc (by decide)) (fun _ => ?_)
            refine lv_aload_n hx hb dX4_heldByHolders_9 rfl (lv_at hl 2 rfl) ?_
            refine lv_iload_n hx hb dX4_heldByHolders_10 rfl (lv_at hl 0 rfl) ?_
            refine va_aldq hx hb hK hP 0 2 rfl rfl (by unfold vp_in; decide) dX4_heldByHolders_11 ?_
            rw [show gf (4 : Int32).toNatClampNeg = none from (by rw [show (4 : Int32).toNatClampNeg = 4 by decide, hg 4 (by decide), hb4]; rfl)]
            refine W.eq (g2 := F0 m 12 ls [.null]) rfl ?_
            refine lv_ifnullN (tgt := 36) hx hb dX4_heldByHolders_12 (by decide) ?_
            refine lv_iinc (v := 5) (lv' := [(2, .int 5), (1, .ref f), (0, .ref a4)]) hx hb dX4_heldByHolders_36 hl (k := 0) rfl (by decide) (by decide) rfl (fun ls hl => ?_)
            refine lv_goto (tgt := 4) hx hb dX4_heldByHolders_39 (by decide) ?_
            refine lv_iload_n hx hb dX4_heldByHolders_4 rfl (lv_at hl 0 rfl) ?_
            refine lv_iconst (v := 5) hx hb dX4_heldByHolders_5 (by decide) ?_
            refine lv_icmp_ge (tgt := 42) hx hb dX4_heldByHolders_6 (by decide) (fun _ => ?_) (fun hc => absurd (by decide) hc)
            refine lv_aload_n hx hb dX4_heldByHolders_42 rfl (lv_at hl 1 rfl) ?_
            have hP9 := hP.sub (ws' := [(a4, wS tC 5 gf), (f, .inr (3, [.ref e1, .ref e2, .int 5, .int 0])), (e1, wI tC 0 z1)]) [0, 1, 2] rfl
            have hD9 := hD.sub (ws' := [(a4, wS tC 5 gf), (f, .inr (3, [.ref e1, .ref e2, .int 5, .int 0])), (e1, wI tC 0 z1)]) [0, 1, 2] (by decide) rfl
            refine W.widen (k := 0) (n := 0) (by omega) (by omega) ?_
            exact W.aret (v := .ref f) hx hb hr (Or.inl ⟨_, rfl⟩) (Or.inr ⟨_, rfl⟩) (fun t ht hW => ⟨⟨(some f), (), rfl, rfl, (by rw [ht]; exact hP9), va_K.moved hW.alike hK, hD9⟩, hS.F ht⟩) hS.2.2 dX4_heldByHolders_43 hlocks
          · skip
            refine lv_iload_n hx hb dX4_heldByHolders_4 rfl (lv_at hl 0 rfl) ?_
            refine lv_iconst (v := 5) hx hb dX4_heldByHolders_5 (by decide) ?_
            refine lv_icmp_ge (tgt := 42) hx hb dX4_heldByHolders_6 (by decide) (fun hc => absurd hc (by decide)) (fun _ => ?_)
            refine lv_aload_n hx hb dX4_heldByHolders_9 rfl (lv_at hl 2 rfl) ?_
            refine lv_iload_n hx hb dX4_heldByHolders_10 rfl (lv_at hl 0 rfl) ?_
            refine va_aldq hx hb hK hP 0 2 rfl rfl (by unfold vp_in; decide) dX4_heldByHolders_11 ?_
            rw [show gf (4 : Int32).toNatClampNeg = some f from (by rw [show (4 : Int32).toNatClampNeg = 4 by decide, hg 4 (by decide), hb4]; rfl)]
            refine W.eq (g2 := F0 m 12 ls [.ref f]) rfl ?_
            refine lv_ifnull hx hb dX4_heldByHolders_12 ?_
            refine lv_aload_n hx hb dX4_heldByHolders_15 rfl (lv_at hl 1 rfl) ?_
            refine lv_ifnull hx hb dX4_heldByHolders_16 ?_
            refine lv_aload_n hx hb dX4_heldByHolders_19 rfl (lv_at hl 2 rfl) ?_
            refine lv_iload_n hx hb dX4_heldByHolders_20 rfl (lv_at hl 0 rfl) ?_
            refine va_aldq hx hb hK hP 0 2 rfl rfl (by unfold vp_in; decide) dX4_heldByHolders_21 ?_
            rw [show gf (4 : Int32).toNatClampNeg = some f from (by rw [show (4 : Int32).toNatClampNeg = 4 by decide, hg 4 (by decide), hb4]; rfl)]
            refine W.eq (g2 := F0 m 22 ls [.ref f]) rfl ?_
            have hPc := hP.sub (ws' := [(f, .inr (3, [.ref e1, .ref e2, .int 5, .int 0])), (e1, wI tC 0 z1)]) [1, 2] rfl
            have hDc := hD.sub (ws' := [(f, .inr (3, [.ref e1, .ref e2, .int 5, .int 0])), (e1, wI tC 0 z1)]) [1, 2] (by decide) rfl
            have hFc := va_free (wc := [(f, .inr (3, [.ref e1, .ref e2, .int 5, .int 0])), (e1, wI tC 0 z1)]) hD hS hA [1, 2] rfl
            refine va_calli (va_runVN (As := []) (rest := []) ⟨hx, hb, hml, hown, hts⟩ (c_X2_length l hlt D tC dz H.size f e1 e2 z1 ) ⟨(va_cnB (host := "NoticeStations") 0 hts gX4_heldByHolders_X2_length_n107 rfl rfl rfl (hN.1 (.methodLinkNest "NoticeStations" 107 ⟨"NoticeStations$Standing", "length", "()I"⟩ "NoticeStations") (by decide +kernel)) w_0 (by decide +kernel) ⟨Nat.le_of_ble_eq_true rfl, Nat.le_of_ble_eq_true rfl⟩), w_1, w_2⟩ ⟨pB_blind, va_recv hK hPc (ci := 3) (q0 := 0) rfl rfl, pB_at hPc hDc hK hN hE hS hFc⟩ rfl rfl hl.1 rfl (lv_room (Nat.le_of_ble_eq_true rfl)) dX4_heldByHolders_22 ⟨Nat.le_of_ble_eq_true rfl, Nat.le_of_ble_eq_true rfl⟩) hS (fun q _ h => hFc q h) hFc (fun r_69 u t H1 locs ht hvm hw hB hz1 hk1 hS => ?_)
            obtain ⟨hP1, _, hD1⟩ := hB
            have hw_70 := hw
            rw [ht] at hP1
            obtain ⟨hP, hD⟩ := va_join (wr := [(a4, wS tC 5 gf)]) (w1 := [(f, .inr (3, [.ref e1, .ref e2, .int 5, .int 0])), (e1, wI tC 0 z1)]) hP hD [1, 2] [0] rfl rfl (by decide) (by decide) hk1 hFc hP1 hD1
            generalize H1 = H at hP hS ⊢
            have hP : va_P D vwCl [(a4, wS tC 5 gf), (f, .inr (3, [.ref e1, .ref e2, .int 5, .int 0])), (e1, wI tC 0 z1)] H := hP
            have hD : va_D A [(a4, wS tC 5 gf), (f, .inr (3, [.ref e1, .ref e2, .int 5, .int 0])), (e1, wI tC 0 z1)] := hD
            subst hw_70
            refine lv_aload_n hx hb dX4_heldByHolders_25 rfl (lv_at hl 1 rfl) ?_
            have hPc := hP.sub (ws' := [(f, .inr (3, [.ref e1, .ref e2, .int 5, .int 0])), (e1, wI tC 0 z1)]) [1, 2] rfl
            have hDc := hD.sub (ws' := [(f, .inr (3, [.ref e1, .ref e2, .int 5, .int 0])), (e1, wI tC 0 z1)]) [1, 2] (by decide) rfl
            have hFc := va_free (wc := [(f, .inr (3, [.ref e1, .ref e2, .int 5, .int 0])), (e1, wI tC 0 z1)]) hD hS hA [1, 2] rfl
            refine va_calli (va_runVN (As := []) (rest := [.int 0]) ⟨hx, hb, hml, hown, hts⟩ (c_X2_length l hlt D tC dz H.size f e1 e2 z1 ) ⟨(va_cnB (host := "NoticeStations") 0 hts gX4_heldByHolders_X2_length_n107 rfl rfl rfl (hN.1 (.methodLinkNest "NoticeStations" 107 ⟨"NoticeStations$Standing", "length", "()I"⟩ "NoticeStations") (by decide +kernel)) w_0 (by decide +kernel) ⟨Nat.le_of_ble_eq_true rfl, Nat.le_of_ble_eq_true rfl⟩), w_1, w_2⟩ ⟨pB_blind, va_recv hK hPc (ci := 3) (q0 := 0) rfl rfl, pB_at hPc hDc hK hN hE hS hFc⟩ rfl rfl hl.1 rfl (lv_room (Nat.le_of_ble_eq_true rfl)) dX4_heldByHolders_26 ⟨Nat.le_of_ble_eq_true rfl, Nat.le_of_ble_eq_true rfl⟩) hS (fun q _ h => hFc q h) hFc (fun r_71 u t H1 locs ht hvm hw hB hz1 hk1 hS => ?_)
            obtain ⟨hP1, _, hD1⟩ := hB
            have hw_72 := hw
            rw [ht] at hP1
            obtain ⟨hP, hD⟩ := va_join (wr := [(a4, wS tC 5 gf)]) (w1 := [(f, .inr (3, [.ref e1, .ref e2, .int 5, .int 0])), (e1, wI tC 0 z1)]) hP hD [1, 2] [0] rfl rfl (by decide) (by decide) hk1 hFc hP1 hD1
            generalize H1 = H at hP hS ⊢
            have hP : va_P D vwCl [(a4, wS tC 5 gf), (f, .inr (3, [.ref e1, .ref e2, .int 5, .int 0])), (e1, wI tC 0 z1)] H := hP
            have hD : va_D A [(a4, wS tC 5 gf), (f, .inr (3, [.ref e1, .ref e2, .int 5, .int 0])), (e1, wI tC 0 z1)] := hD
            subst hw_72
            refine lv_icmp_le (tgt := 36) hx hb dX4_heldByHolders_29 (by decide) (fun _ => ?_) (fun hc => absurd (by decide) hc)
            refine lv_iinc (v := 5) (lv' := [(2, .int 5), (1, .ref f), (0, .ref a4)]) hx hb dX4_heldByHolders_36 hl (k := 0) rfl (by decide) (by decide) rfl (fun ls hl => ?_)
            refine lv_goto (tgt := 4) hx hb dX4_heldByHolders_39 (by decide) ?_
            refine lv_iload_n hx hb dX4_heldByHolders_4 rfl (lv_at hl 0 rfl) ?_
            refine lv_iconst (v := 5) hx hb dX4_heldByHolders_5 (by decide) ?_
            refine lv_icmp_ge (tgt := 42) hx hb dX4_heldByHolders_6 (by decide) (fun _ => ?_) (fun hc => absurd (by decide) hc)
            refine lv_aload_n hx hb dX4_heldByHolders_42 rfl (lv_at hl 1 rfl) ?_
            have hP9 := hP.sub (ws' := [(a4, wS tC 5 gf), (f, .inr (3, [.ref e1, .ref e2, .int 5, .int 0])), (e1, wI tC 0 z1)]) [0, 1, 2] rfl
            have hD9 := hD.sub (ws' := [(a4, wS tC 5 gf), (f, .inr (3, [.ref e1, .ref e2, .int 5, .int 0])), (e1, wI tC 0 z1)]) [0, 1, 2] (by decide) rfl
            refine W.widen (k := 0) (n := 0) (by omega) (by omega) ?_
            exact W.aret (v := .ref f) hx hb hr (Or.inl ⟨_, rfl⟩) (Or.inr ⟨_, rfl⟩) (fun t ht hW => ⟨⟨(some f), (), rfl, rfl, (by rw [ht]; exact hP9), va_K.moved hW.alike hK, hD9⟩, hS.F ht⟩) hS.2.2 dX4_heldByHolders_43 hlocks
    · skip
      refine lv_iload_n hx hb dX4_heldByHolders_4 rfl (lv_at hl 0 rfl) ?_
      refine lv_iconst (v := 5) hx hb dX4_heldByHolders_5 (by decide) ?_
      refine lv_icmp_ge (tgt := 42) hx hb dX4_heldByHolders_6 (by decide) (fun hc => absurd hc (by decide)) (fun _ => ?_)
      refine lv_aload_n hx hb dX4_heldByHolders_9 rfl (lv_at hl 2 rfl) ?_
      refine lv_iload_n hx hb dX4_heldByHolders_10 rfl (lv_at hl 0 rfl) ?_
      refine va_aldq hx hb hK hP 0 2 rfl rfl (by unfold vp_in; decide) dX4_heldByHolders_11 ?_
      rw [show gf (1 : Int32).toNatClampNeg = some f from (by rw [show (1 : Int32).toNatClampNeg = 1 by decide, hg 1 (by decide), hb1]; rfl)]
      refine W.eq (g2 := F0 m 12 ls [.ref f]) rfl ?_
      refine lv_ifnull hx hb dX4_heldByHolders_12 ?_
      refine lv_aload_n hx hb dX4_heldByHolders_15 rfl (lv_at hl 1 rfl) ?_
      refine lv_ifnull hx hb dX4_heldByHolders_16 ?_
      refine lv_aload_n hx hb dX4_heldByHolders_19 rfl (lv_at hl 2 rfl) ?_
      refine lv_iload_n hx hb dX4_heldByHolders_20 rfl (lv_at hl 0 rfl) ?_
      refine va_aldq hx hb hK hP 0 2 rfl rfl (by unfold vp_in; decide) dX4_heldByHolders_21 ?_
      rw [show gf (1 : Int32).toNatClampNeg = some f from (by rw [show (1 : Int32).toNatClampNeg = 1 by decide, hg 1 (by decide), hb1]; rfl)]
      refine W.eq (g2 := F0 m 22 ls [.ref f]) rfl ?_
      have hPc := hP.sub (ws' := [(f, .inr (3, [.ref e1, .ref e2, .int 5, .int 0])), (e1, wI tC 0 z1)]) [1, 2] rfl
      have hDc := hD.sub (ws' := [(f, .inr (3, [.ref e1, .ref e2, .int 5, .int 0])), (e1, wI tC 0 z1)]) [1, 2] (by decide) rfl
      have hFc := va_free (wc := [(f, .inr (3, [.ref e1, .ref e2, .int 5, .int 0])), (e1, wI tC 0 z1)]) hD hS hA [1, 2] rfl
      refine va_calli (va_runVN (As := []) (rest := []) ⟨hx, hb, hml, hown, hts⟩ (c_X2_length l hlt D tC dz s.heap.size f e1 e2 z1 ) ⟨(va_cnB (host := "NoticeStations") 0 hts gX4_heldByHolders_X2_length_n107 rfl rfl rfl (hN.1 (.methodLinkNest "NoticeStations" 107 ⟨"NoticeStations$Standing", "length", "()I"⟩ "NoticeStations") (by decide +kernel)) w_0 (by decide +kernel) ⟨Nat.le_of_ble_eq_true rfl, Nat.le_of_ble_eq_true rfl⟩), w_1, w_2⟩ ⟨pB_blind, va_recv hK hPc (ci := 3) (q0 := 0) rfl rfl, pB_at hPc hDc hK hN hE hS hFc⟩ rfl rfl hl.1 rfl (lv_room (Nat.le_of_ble_eq_true rfl)) dX4_heldByHolders_22 ⟨Nat.le_of_ble_eq_true rfl, Nat.le_of_ble_eq_true rfl⟩) hS (fun q _ h => hFc q h) hFc (fun r_73 u t H1 locs ht hvm hw hB hz1 hk1 hS => ?_)
      obtain ⟨hP1, _, hD1⟩ := hB
      have hw_74 := hw
      rw [ht] at hP1
      obtain ⟨hP, hD⟩ := va_join (wr := [(a4, wS tC 5 gf)]) (w1 := [(f, .inr (3, [.ref e1, .ref e2, .int 5, .int 0])), (e1, wI tC 0 z1)]) hP hD [1, 2] [0] rfl rfl (by decide) (by decide) hk1 hFc hP1 hD1
      generalize H1 = H at hP hS ⊢
      have hP : va_P D vwCl [(a4, wS tC 5 gf), (f, .inr (3, [.ref e1, .ref e2, .int 5, .int 0])), (e1, wI tC 0 z1)] H := hP
      have hD : va_D A [(a4, wS tC 5 gf), (f, .inr (3, [.ref e1, .ref e2, .int 5, .int 0])), (e1, wI tC 0 z1)] := hD
      subst hw_74
      refine lv_aload_n hx hb dX4_heldByHolders_25 rfl (lv_at hl 1 rfl) ?_
      have hPc := hP.sub (ws' := [(f, .inr (3, [.ref e1, .ref e2, .int 5, .int 0])), (e1, wI tC 0 z1)]) [1, 2] rfl
      have hDc := hD.sub (ws' := [(f, .inr (3, [.ref e1, .ref e2, .int 5, .int 0])), (e1, wI tC 0 z1)]) [1, 2] (by decide) rfl
      have hFc := va_free (wc := [(f, .inr (3, [.ref e1, .ref e2, .int 5, .int 0])), (e1, wI tC 0 z1)]) hD hS hA [1, 2] rfl
      refine va_calli (va_runVN (As := []) (rest := [.int 0]) ⟨hx, hb, hml, hown, hts⟩ (c_X2_length l hlt D tC dz H.size f e1 e2 z1 ) ⟨(va_cnB (host := "NoticeStations") 0 hts gX4_heldByHolders_X2_length_n107 rfl rfl rfl (hN.1 (.methodLinkNest "NoticeStations" 107 ⟨"NoticeStations$Standing", "length", "()I"⟩ "NoticeStations") (by decide +kernel)) w_0 (by decide +kernel) ⟨Nat.le_of_ble_eq_true rfl, Nat.le_of_ble_eq_true rfl⟩), w_1, w_2⟩ ⟨pB_blind, va_recv hK hPc (ci := 3) (q0 := 0) rfl rfl, pB_at hPc hDc hK hN hE hS hFc⟩ rfl rfl hl.1 rfl (lv_room (Nat.le_of_ble_eq_true rfl)) dX4_heldByHolders_26 ⟨Nat.le_of_ble_eq_true rfl, Nat.le_of_ble_eq_true rfl⟩) hS (fun q _ h => hFc q h) hFc (fun r_75 u t H1 locs ht hvm hw hB hz1 hk1 hS => ?_)
      obtain ⟨hP1, _, hD1⟩ := hB
      have hw_76 := hw
      rw [ht] at hP1
      obtain ⟨hP, hD⟩ := va_join (wr := [(a4, wS tC 5 gf)]) (w1 := [(f, .inr (3, [.ref e1, .ref e2, .int 5, .int 0])), (e1, wI tC 0 z1)]) hP hD [1, 2] [0] rfl rfl (by decide) (by decide) hk1 hFc hP1 hD1
      generalize H1 = H at hP hS ⊢
      have hP : va_P D vwCl [(a4, wS tC 5 gf), (f, .inr (3, [.ref e1, .ref e2, .int 5, .int 0])), (e1, wI tC 0 z1)] H := hP
      have hD : va_D A [(a4, wS tC 5 gf), (f, .inr (3, [.ref e1, .ref e2, .int 5, .int 0])), (e1, wI tC 0 z1)] := hD
      subst hw_76
      refine lv_icmp_le (tgt := 36) hx hb dX4_heldByHolders_29 (by decide) (fun _ => ?_) (fun hc => absurd (by decide) hc)
      refine lv_iinc (v := 2) (lv' := [(2, .int 2), (1, .ref f), (0, .ref a4)]) hx hb dX4_heldByHolders_36 hl (k := 0) rfl (by decide) (by decide) rfl (fun ls hl => ?_)
      refine lv_goto (tgt := 4) hx hb dX4_heldByHolders_39 (by decide) ?_
      cases hb2 : bt 2
      · skip
        refine lv_iload_n hx hb dX4_heldByHolders_4 rfl (lv_at hl 0 rfl) ?_
        refine lv_iconst (v := 5) hx hb dX4_heldByHolders_5 (by decide) ?_
        refine lv_icmp_ge (tgt := 42) hx hb dX4_heldByHolders_6 (by decide) (fun hc => absurd hc (by decide)) (fun _ => ?_)
        refine lv_aload_n hx hb dX4_heldByHolders_9 rfl (lv_at hl 2 rfl) ?_
        refine lv_iload_n hx hb dX4_heldByHolders_10 rfl (lv_at hl 0 rfl) ?_
        refine va_aldq hx hb hK hP 0 2 rfl rfl (by unfold vp_in; decide) dX4_heldByHolders_11 ?_
        rw [show gf (2 : Int32).toNatClampNeg = none from (by rw [show (2 : Int32).toNatClampNeg = 2 by decide, hg 2 (by decide), hb2]; rfl)]
        refine W.eq (g2 := F0 m 12 ls [.null]) rfl ?_
        refine lv_ifnullN (tgt := 36) hx hb dX4_heldByHolders_12 (by decide) ?_
        refine lv_iinc (v := 3) (lv' := [(2, .int 3), (1, .ref f), (0, .ref a4)]) hx hb dX4_heldByHolders_36 hl (k := 0) rfl (by decide) (by decide) rfl (fun ls hl => ?_)
        refine lv_goto (tgt := 4) hx hb dX4_heldByHolders_39 (by decide) ?_
        cases hb3 : bt 3
        · skip
          refine lv_iload_n hx hb dX4_heldByHolders_4 rfl (lv_at hl 0 rfl) ?_
          refine lv_iconst (v := 5) hx hb dX4_heldByHolders_5 (by decide) ?_
          refine lv_icmp_ge (tgt := 42) hx hb dX4_heldByHolders_6 (by decide) (fun hc => absurd hc (by decide)) (fun _ => ?_)
          refine lv_aload_n hx hb dX4_heldByHolders_9 rfl (lv_at hl 2 rfl) ?_
          refine lv_iload_n hx hb dX4_heldByHolders_10 rfl (lv_at hl 0 rfl) ?_
          refine va_aldq hx hb hK hP 0 2 rfl rfl (by unfold vp_in; decide) dX4_heldByHolders_11 ?_
          rw [show gf (3 : Int32).toNatClampNeg = none from (by rw [show (3 : Int32).toNatClampNeg = 3 by decide, hg 3 (by decide), hb3]; rfl)]
          refine W.eq (g2 := F0 m 12 ls [.null]) rfl ?_
          refine lv_ifnullN (tgt := 36) hx hb dX4_heldByHolders_12 (by decide) ?_
          refine lv_iinc (v := 4) (lv' := [(2, .int 4), (1, .ref f), (0, .ref a4)]) hx hb dX4_heldByHolders_36 hl (k := 0) rfl (by decide) (by decide) rfl (fun ls hl => ?_)
          refine lv_goto (tgt := 4) hx hb dX4_heldByHolders_39 (by decide) ?_
          cases hb4 : bt 4
          · skip
            refine lv_iload_n hx hb dX4_heldByHolders_4 rfl (lv_at hl 0 rfl) ?_
            refine lv_iconst (v := 5) hx hb dX4_heldByHolders_5 (by decide) ?_
            refine lv_icmp_ge (tgt := 42) hx hb dX4_heldByHolders_6 (by decide) (fun hc => absurd hc (by decide)) (fun _ => ?_)
            refine lv_aload_n hx hb dX4_heldByHolders_9 rfl (lv_at hl 2 rfl) ?_
            refine lv_iload_n hx hb dX4_heldByHolders_10 rfl (lv_at hl 0 rfl) ?_
            refine va_aldq hx hb hK hP 0 2 rfl rfl (by unfold vp_in; decide) dX4_heldByHolders_11 ?_
            rw [show gf (4 : Int32).toNatClampNeg = none from (by rw [show (4 : Int32).toNatClampNeg = 4 by decide, hg 4 (by decide), hb4]; rfl)]
            refine W.eq (g2 := F0 m 12 ls [.null]) rfl ?_
            refine lv_ifnullN (tgt := 36) hx hb dX4_heldByHolders_12 (by decide) ?_
            refine lv_iinc (v := 5) (lv' := [(2, .int 5), (1, .ref f), (0, .ref a4)]) hx hb dX4_heldByHolders_36 hl (k := 0) rfl (by decide) (by decide) rfl (fun ls hl => ?_)
            refine lv_goto (tgt := 4) hx hb dX4_heldByHolders_39 (by decide) ?_
            refine lv_iload_n hx hb dX4_heldByHolders_4 rfl (lv_at hl 0 rfl) ?_
            refine lv_iconst (v := 5) hx hb dX4_heldByHolders_5 (by decide) ?_
            refine lv_icmp_ge (tgt := 42) hx hb dX4_heldByHolders_6 (by decide) (fun _ => ?_) (fun hc => absurd (by decide) hc)
            refine lv_aload_n hx hb dX4_heldByHolders_42 rfl (lv_at hl 1 rfl) ?_
            have hP9 := hP.sub (ws' := [(a4, wS tC 5 gf), (f, .inr (3, [.ref e1, .ref e2, .int 5, .int 0])), (e1, wI tC 0 z1)]) [0, 1, 2] rfl
            have hD9 := hD.sub (ws' := [(a4, wS tC 5 gf), (f, .inr (3, [.ref e1, .ref e2, .int 5, .int 0])), (e1, wI tC 0 z1)]) [0, 1, 2] (by decide) rfl
            refine W.widen (k := 0) (n := 0) (by omega) (by omega) ?_
            exact W.aret (v := .ref f) hx hb hr (Or.inl ⟨_, rfl⟩) (Or.inr ⟨_, rfl⟩) (fun t ht hW => ⟨⟨(some f), (), rfl, rfl, (by rw [ht]; exact hP9), va_K.moved hW.alike hK, hD9⟩, hS.F ht⟩) hS.2.2 dX4_heldByHolders_43 hlocks
          · skip
            refine lv_iload_n hx hb dX4_heldByHolders_4 rfl (lv_at hl 0 rfl) ?_
            refine lv_iconst (v := 5) hx hb dX4_heldByHolders_5 (by decide) ?_
            refine lv_icmp_ge (tgt := 42) hx hb dX4_heldByHolders_6 (by decide) (fun hc => absurd hc (by decide)) (fun _ => ?_)
            refine lv_aload_n hx hb dX4_heldByHolders_9 rfl (lv_at hl 2 rfl) ?_
            refine lv_iload_n hx hb dX4_heldByHolders_10 rfl (lv_at hl 0 rfl) ?_
            refine va_aldq hx hb hK hP 0 2 rfl rfl (by unfold vp_in; decide) dX4_heldByHolders_11 ?_
            rw [show gf (4 : Int32).toNatClampNeg = some f from (by rw [show (4 : Int32).toNatClampNeg = 4 by decide, hg 4 (by decide), hb4]; rfl)]
            refine W.eq (g2 := F0 m 12 ls [.ref f]) rfl ?_
            refine lv_ifnull hx hb dX4_heldByHolders_12 ?_
            refine lv_aload_n hx hb dX4_heldByHolders_15 rfl (lv_at hl 1 rfl) ?_
            refine lv_ifnull hx hb dX4_heldByHolders_16 ?_
            refine lv_aload_n hx hb dX4_heldByHolders_19 rfl (lv_at hl 2 rfl) ?_
            refine lv_iload_n hx hb dX4_heldByHolders_20 rfl (lv_at hl 0 rfl) ?_
            refine va_aldq hx hb hK hP 0 2 rfl rfl (by unfold vp_in; decide) dX4_heldByHolders_21 ?_
            rw [show gf (4 : Int32).toNatClampNeg = some f from (by rw [show (4 : Int32).toNatClampNeg = 4 by decide, hg 4 (by decide), hb4]; rfl)]
            refine W.eq (g2 := F0 m 22 ls [.ref f]) rfl ?_
            have hPc := hP.sub (ws' := [(f, .inr (3, [.ref e1, .ref e2, .int 5, .int 0])), (e1, wI tC 0 z1)]) [1, 2] rfl
            have hDc := hD.sub (ws' := [(f, .inr (3, [.ref e1, .ref e2, .int 5, .int 0])), (e1, wI tC 0 z1)]) [1, 2] (by decide) rfl
            have hFc := va_free (wc := [(f, .inr (3, [.ref e1, .ref e2, .int 5, .int 0])), (e1, wI tC 0 z1)]) hD hS hA [1, 2] rfl
            refine va_calli (va_runVN (As := []) (rest := []) ⟨hx, hb, hml, hown, hts⟩ (c_X2_length l hlt D tC dz H.size f e1 e2 z1 ) ⟨(va_cnB (host := "NoticeStations") 0 hts gX4_heldByHolders_X2_length_n107 rfl rfl rfl (hN.1 (.methodLinkNest "NoticeStations" 107 ⟨"NoticeStations$Standing", "length", "()I"⟩ "NoticeStations") (by decide +kernel)) w_0 (by decide +kernel) ⟨Nat.le_of_ble_eq_true rfl, Nat.le_of_ble_eq_true rfl⟩), w_1, w_2⟩ ⟨pB_blind, va_recv hK hPc (ci := 3) (q0 := 0) rfl rfl, pB_at hPc hDc hK hN hE hS hFc⟩ rfl rfl hl.1 rfl (lv_room (Nat.le_of_ble_eq_true rfl)) dX4_heldByHolders_22 ⟨Nat.le_of_ble_eq_true rfl, Nat.le_of_ble_eq_true rfl⟩) hS (fun q _ h => hFc q h) hFc (fun r_77 u t H1 locs ht hvm hw hB hz1 hk1 hS => ?_)
            obtain ⟨hP1, _, hD1⟩ := hB
            have hw_78 := hw
            rw [ht] at hP1
            obtain ⟨hP, hD⟩ := va_join (wr := [(a4, wS tC 5 gf)]) (w1 := [(f, .inr (3, [.ref e1, .ref e2, .int 5, .int 0])), (e1, wI tC 0 z1)]) hP hD [1, 2] [0] rfl rfl (by decide) (by decide) hk1 hFc hP1 hD1
            generalize H1 = H at hP hS ⊢
            have hP : va_P D vwCl [(a4, wS tC 5 gf), (f, .inr (3, [.ref e1, .ref e2, .int 5, .int 0])), (e1, wI tC 0 z1)] H := hP
            have hD : va_D A [(a4, wS tC 5 gf), (f, .inr (3, [.ref e1, .ref e2, .int 5, .int 0])), (e1, wI tC 0 z1)] := hD
            subst hw_78
            refine lv_aload_n hx hb dX4_heldByHolders_25 rfl (lv_at hl 1 rfl) ?_
            have hPc := hP.sub (ws' := [(f, .inr (3, [.ref e1, .ref e2, .int 5, .int 0])), (e1, wI tC 0 z1)]) [1, 2] rfl
            have hDc := hD.sub (ws' := [(f, .inr (3, [.ref e1, .ref e2, .int 5, .int 0])), (e1, wI tC 0 z1)]) [1, 2] (by decide) rfl
            have hFc := va_free (wc := [(f, .inr (3, [.ref e1, .ref e2, .int 5, .int 0])), (e1, wI tC 0 z1)]) hD hS hA [1, 2] rfl
            refine va_calli (va_runVN (As := []) (rest := [.int 0]) ⟨hx, hb, hml, hown, hts⟩ (c_X2_length l hlt D tC dz H.size f e1 e2 z1 ) ⟨(va_cnB (host := "NoticeStations") 0 hts gX4_heldByHolders_X2_length_n107 rfl rfl rfl (hN.1 (.methodLinkNest "NoticeStations" 107 ⟨"NoticeStations$Standing", "length", "()I"⟩ "NoticeStations") (by decide +kernel)) w_0 (by decide +kernel) ⟨Nat.le_of_ble_eq_true rfl, Nat.le_of_ble_eq_true rfl⟩), w_1, w_2⟩ ⟨pB_blind, va_recv hK hPc (ci := 3) (q0 := 0) rfl rfl, pB_at hPc hDc hK hN hE hS hFc⟩ rfl rfl hl.1 rfl (lv_room (Nat.le_of_ble_eq_true rfl)) dX4_heldByHolders_26 ⟨Nat.le_of_ble_eq_true rfl, Nat.le_of_ble_eq_true rfl⟩) hS (fun q _ h => hFc q h) hFc (fun r_79 u t H1 locs ht hvm hw hB hz1 hk1 hS => ?_)
            obtain ⟨hP1, _, hD1⟩ := hB
            have hw_80 := hw
            rw [ht] at hP1
            obtain ⟨hP, hD⟩ := va_join (wr := [(a4, wS tC 5 gf)]) (w1 := [(f, .inr (3, [.ref e1, .ref e2, .int 5, .int 0])), (e1, wI tC 0 z1)]) hP hD [1, 2] [0] rfl rfl (by decide) (by decide) hk1 hFc hP1 hD1
            generalize H1 = H at hP hS ⊢
            have hP : va_P D vwCl [(a4, wS tC 5 gf), (f, .inr (3, [.ref e1, .ref e2, .int 5, .int 0])), (e1, wI tC 0 z1)] H := hP
            have hD : va_D A [(a4, wS tC 5 gf), (f, .inr (3, [.ref e1, .ref e2, .int 5, .int 0])), (e1, wI tC 0 z1)] := hD
            subst hw_80
            refine lv_icmp_le (tgt := 36) hx hb dX4_heldByHolders_29 (by decide) (fun _ => ?_) (fun hc => absurd (by decide) hc)
            refine lv_iinc (v := 5) (lv' := [(2, .int 5), (1, .ref f), (0, .ref a4)]) hx hb dX4_heldByHolders_36 hl (k := 0) rfl (by decide) (by decide) rfl (fun ls hl => ?_)
            refine lv_goto (tgt := 4) hx hb dX4_heldByHolders_39 (by decide) ?_
            refine lv_iload_n hx hb dX4_heldByHolders_4 rfl (lv_at hl 0 rfl) ?_
            refine lv_iconst (v := 5) hx hb dX4_heldByHolders_5 (by decide) ?_
            refine lv_icmp_ge (tgt := 42) hx hb dX4_heldByHolders_6 (by decide) (fun _ => ?_) (fun hc => absurd (by decide) hc)
            refine lv_aload_n hx hb dX4_heldByHolders_42 rfl (lv_at hl 1 rfl) ?_
            have hP9 := hP.sub (ws' := [(a4, wS tC 5 gf), (f, .inr (3, [.ref e1, .ref e2, .int 5, .int 0])), (e1, wI tC 0 z1)]) [0, 1, 2] rfl
            have hD9 := hD.sub (ws' := [(a4, wS tC 5 gf), (f, .inr (3, [.ref e1, .ref e2, .int 5, .int 0])), (e1, wI tC 0 z1)]) [0, 1, 2] (by decide) rfl
            refine W.widen (k := 0) (n := 0) (by omega) (by omega) ?_
            exact W.aret (v := .ref f) hx hb hr (Or.inl ⟨_, rfl⟩) (Or.inr ⟨_, rfl⟩) (fun t ht hW => ⟨⟨(some f), (), rfl, rfl, (by rw [ht]; exact hP9), va_K.moved hW.alike hK, hD9⟩, hS.F ht⟩) hS.2.2 dX4_heldByHolders_43 hlocks
        · skip
          refine lv_iload_n hx hb dX4_heldByHolders_4 rfl (lv_at hl 0 rfl) ?_
          refine lv_iconst (v := 5) hx hb dX4_heldByHolders_5 (by decide) ?_
          refine lv_icmp_ge (tgt := 42) hx hb dX4_heldByHolders_6 (by decide) (fun hc => absurd hc (by decide)) (fun _ => ?_)
          refine lv_aload_n hx hb dX4_heldByHolders_9 rfl (lv_at hl 2 rfl) ?_
          refine lv_iload_n hx hb dX4_heldByHolders_10 rfl (lv_at hl 0 rfl) ?_
          refine va_aldq hx hb hK hP 0 2 rfl rfl (by unfold vp_in; decide) dX4_heldByHolders_11 ?_
          rw [show gf (3 : Int32).toNatClampNeg = some f from (by rw [show (3 : Int32).toNatClampNeg = 3 by decide, hg 3 (by decide), hb3]; rfl)]
          refine W.eq (g2 := F0 m 12 ls [.ref f]) rfl ?_
          refine lv_ifnull hx hb dX4_heldByHolders_12 ?_
          refine lv_aload_n hx hb dX4_heldByHolders_15 rfl (lv_at hl 1 rfl) ?_
          refine lv_ifnull hx hb dX4_heldByHolders_16 ?_
          refine lv_aload_n hx hb dX4_heldByHolders_19 rfl (lv_at hl 2 rfl) ?_
          refine lv_iload_n hx hb dX4_heldByHolders_20 rfl (lv_at hl 0 rfl) ?_
          refine va_aldq hx hb hK hP 0 2 rfl rfl (by unfold vp_in; decide) dX4_heldByHolders_21 ?_
          rw [show gf (3 : Int32).toNatClampNeg = some f from (by rw [show (3 : Int32).toNatClampNeg = 3 by decide, hg 3 (by decide), hb3]; rfl)]
          refine W.eq (g2 := F0 m 22 ls [.ref f]) rfl ?_
          have hPc := hP.sub (ws' := [(f, .inr (3, [.ref e1, .ref e2, .int 5, .int 0])), (e1, wI tC 0 z1)]) [1, 2] rfl
          have hDc := hD.sub (ws' := [(f, .inr (3, [.ref e1, .ref e2, .int 5, .int 0])), (e1, wI tC 0 z1)]) [1, 2] (by decide) rfl
          have hFc := va_free (wc := [(f, .inr (3, [.ref e1, .ref e2, .int 5, .int 0])), (e1, wI tC 0 z1)]) hD hS hA [1, 2] rfl
          refine va_calli (va_runVN (As := []) (rest := []) ⟨hx, hb, hml, hown, hts⟩ (c_X2_length l hlt D tC dz H.size f e1 e2 z1 ) ⟨(va_cnB (host := "NoticeStations") 0 hts gX4_heldByHolders_X2_length_n107 rfl rfl rfl (hN.1 (.methodLinkNest "NoticeStations" 107 ⟨"NoticeStations$Standing", "length", "()I"⟩ "NoticeStations") (by decide +kernel)) w_0 (by decide +kernel) ⟨Nat.le_of_ble_eq_true rfl, Nat.le_of_ble_eq_true rfl⟩), w_1, w_2⟩ ⟨pB_blind, va_recv hK hPc (ci := 3) (q0 := 0) rfl rfl, pB_at hPc hDc hK hN hE hS hFc⟩ rfl rfl hl.1 rfl (lv_room (Nat.le_of_ble_eq_true rfl)) dX4_heldByHolders_22 ⟨Nat.le_of_ble_eq_true rfl, Nat.le_of_ble_eq_true rfl⟩) hS (fun q _ h => hFc q h) hFc (fun r_81 u t H1 locs ht hvm hw hB hz1 hk1 hS => ?_)
          obtain ⟨hP1, _, hD1⟩ := hB
          have hw_82 := hw
          rw [ht] at hP1
          obtain ⟨hP, hD⟩ := va_join (wr := [(a4, wS tC 5 gf)]) (w1 := [(f, .inr (3, [.ref e1, .ref e2, .int 5, .int 0])), (e1, wI tC 0 z1)]) hP hD [1, 2] [0] rfl rfl (by decide) (by decide) hk1 hFc hP1 hD1
          generalize H1 = H at hP hS ⊢
          have hP : va_P D vwCl [(a4, wS tC 5 gf), (f, .inr (3, [.ref e1, .ref e2, .int 5, .int 0])), (e1, wI tC 0 z1)] H := hP
          have hD : va_D A [(a4, wS tC 5 gf), (f, .inr (3, [.ref e1, .ref e2, .int 5, .int 0])), (e1, wI tC 0 z1)] := hD
          subst hw_82
          refine lv_aload_n hx hb dX4_heldByHolders_25 rfl (lv_at hl 1 rfl) ?_
          have hPc := hP.sub (ws' := [(f, .inr (3, [.ref e1, .ref e2, .int 5, .int 0])), (e1, wI tC 0 z1)]) [1, 2] rfl
          have hDc := hD.sub (ws' := [(f, .inr (3, [.ref e1, .ref e2, .int 5, .int 0])), (e1, wI tC 0 z1)]) [1, 2] (by decide) rfl
          have hFc := va_free (wc := [(f, .inr (3, [.ref e1, .ref e2, .int 5, .int 0])), (e1, wI tC 0 z1)]) hD hS hA [1, 2] rfl
          refine va_calli (va_runVN (As := []) (rest := [.int 0]) ⟨hx, hb, hml, hown, hts⟩ (c_X2_length l hlt D tC dz H.size f e1 e2 z1 ) ⟨(va_cnB (host := "NoticeStations") 0 hts gX4_heldByHolders_X2_length_n107 rfl rfl rfl (hN.1 (.methodLinkNest "NoticeStations" 107 ⟨"NoticeStations$Standing", "length", "()I"⟩ "NoticeStations") (by decide +kernel)) w_0 (by decide +kernel) ⟨Nat.le_of_ble_eq_true rfl, Nat.le_of_ble_eq_true rfl⟩), w_1, w_2⟩ ⟨pB_blind, va_recv hK hPc (ci := 3) (q0 := 0) rfl rfl, pB_at hPc hDc hK hN hE hS hFc⟩ rfl rfl hl.1 rfl (lv_room (Nat.le_of_ble_eq_true rfl)) dX4_heldByHolders_26 ⟨Nat.le_of_ble_eq_true rfl, Nat.le_of_ble_eq_true rfl⟩) hS (fun q _ h => hFc q h) hFc (fun r_83 u t H1 locs ht hvm hw hB hz1 hk1 hS => ?_)
          obtain ⟨hP1, _, hD1⟩ := hB
          have hw_84 := hw
          rw [ht] at hP1
          obtain ⟨hP, hD⟩ := va_join (wr := [(a4, wS tC 5 gf)]) (w1 := [(f, .inr (3, [.ref e1, .ref e2, .int 5, .int 0])), (e1, wI tC 0 z1)]) hP hD [1, 2] [0] rfl rfl (by decide) (by decide) hk1 hFc hP1 hD1
          generalize H1 = H at hP hS ⊢
          have hP : va_P D vwCl [(a4, wS tC 5 gf), (f, .inr (3, [.ref e1, .ref e2, .int 5, .int 0])), (e1, wI tC 0 z1)] H := hP
          have hD : va_D A [(a4, wS tC 5 gf), (f, .inr (3, [.ref e1, .ref e2, .int 5, .int 0])), (e1, wI tC 0 z1)] := hD
          subst hw_84
          refine lv_icmp_le (tgt := 36) hx hb dX4_heldByHolders_29 (by decide) (fun _ => ?_) (fun hc => absurd (by decide) hc)
          refine lv_iinc (v := 4) (lv' := [(2, .int 4), (1, .ref f), (0, .ref a4)]) hx hb dX4_heldByHolders_36 hl (k := 0) rfl (by decide) (by decide) rfl (fun ls hl => ?_)
          refine lv_goto (tgt := 4) hx hb dX4_heldByHolders_39 (by decide) ?_
          cases hb4 : bt 4
          · skip
            refine lv_iload_n hx hb dX4_heldByHolders_4 rfl (lv_at hl 0 rfl) ?_
            refine lv_iconst (v := 5) hx hb dX4_heldByHolders_5 (by decide) ?_
            refine lv_icmp_ge (tgt := 42) hx hb dX4_heldByHolders_6 (by decide) (fun hc => absurd hc (by decide)) (fun _ => ?_)
            refine lv_aload_n hx hb dX4_heldByHolders_9 rfl (lv_at hl 2 rfl) ?_
            refine lv_iload_n hx hb dX4_heldByHolders_10 rfl (lv_at hl 0 rfl) ?_
            refine va_aldq hx hb hK hP 0 2 rfl rfl (by unfold vp_in; decide) dX4_heldByHolders_11 ?_
            rw [show gf (4 : Int32).toNatClampNeg = none from (by rw [show (4 : Int32).toNatClampNeg = 4 by decide, hg 4 (by decide), hb4]; rfl)]
            refine W.eq (g2 := F0 m 12 ls [.null]) rfl ?_
            refine lv_ifnullN (tgt := 36) hx hb dX4_heldByHolders_12 (by decide) ?_
            refine lv_iinc (v := 5) (lv' := [(2, .int 5), (1, .ref f), (0, .ref a4)]) hx hb dX4_heldByHolders_36 hl (k := 0) rfl (by decide) (by decide) rfl (fun ls hl => ?_)
            refine lv_goto (tgt := 4) hx hb dX4_heldByHolders_39 (by decide) ?_
            refine lv_iload_n hx hb dX4_heldByHolders_4 rfl (lv_at hl 0 rfl) ?_
            refine lv_iconst (v := 5) hx hb dX4_heldByHolders_5 (by decide) ?_
            refine lv_icmp_ge (tgt := 42) hx hb dX4_heldByHolders_6 (by decide) (fun _ => ?_) (fun hc => absurd (by decide) hc)
            refine lv_aload_n hx hb dX4_heldByHolders_42 rfl (lv_at hl 1 rfl) ?_
            have hP9 := hP.sub (ws' := [(a4, wS tC 5 gf), (f, .inr (3, [.ref e1, .ref e2, .int 5, .int 0])), (e1, wI tC 0 z1)]) [0, 1, 2] rfl
            have hD9 := hD.sub (ws' := [(a4, wS tC 5 gf), (f, .inr (3, [.ref e1, .ref e2, .int 5, .int 0])), (e1, wI tC 0 z1)]) [0, 1, 2] (by decide) rfl
            refine W.widen (k := 0) (n := 0) (by omega) (by omega) ?_
            exact W.aret (v := .ref f) hx hb hr (Or.inl ⟨_, rfl⟩) (Or.inr ⟨_, rfl⟩) (fun t ht hW => ⟨⟨(some f), (), rfl, rfl, (by rw [ht]; exact hP9), va_K.moved hW.alike hK, hD9⟩, hS.F ht⟩) hS.2.2 dX4_heldByHolders_43 hlocks
          · skip
            refine lv_iload_n hx hb dX4_heldByHolders_4 rfl (lv_at hl 0 rfl) ?_
            refine lv_iconst (v := 5) hx hb dX4_heldByHolders_5 (by decide) ?_
            refine lv_icmp_ge (tgt := 42) hx hb dX4_heldByHolders_6 (by decide) (fun hc => absurd hc (by decide)) (fun _ => ?_)
            refine lv_aload_n hx hb dX4_heldByHolders_9 rfl (lv_at hl 2 rfl) ?_
            refine lv_iload_n hx hb dX4_heldByHolders_10 rfl (lv_at hl 0 rfl) ?_
            refine va_aldq hx hb hK hP 0 2 rfl rfl (by unfold vp_in; decide) dX4_heldByHolders_11 ?_
            rw [show gf (4 : Int32).toNatClampNeg = some f from (by rw [show (4 : Int32).toNatClampNeg = 4 by decide, hg 4 (by decide), hb4]; rfl)]
            refine W.eq (g2 := F0 m 12 ls [.ref f]) rfl ?_
            refine lv_ifnull hx hb dX4_heldByHolders_12 ?_
            refine lv_aload_n hx hb dX4_heldByHolders_15 rfl (lv_at hl 1 rfl) ?_
            refine lv_ifnull hx hb dX4_heldByHolders_16 ?_
            refine lv_aload_n hx hb dX4_heldByHolders_19 rfl (lv_at hl 2 rfl) ?_
            refine lv_iload_n hx hb dX4_heldByHolders_20 rfl (lv_at hl 0 rfl) ?_
            refine va_aldq hx hb hK hP 0 2 rfl rfl (by unfold vp_in; decide) dX4_heldByHolders_21 ?_
            rw [show gf (4 : Int32).toNatClampNeg = some f from (by rw [show (4 : Int32).toNatClampNeg = 4 by decide, hg 4 (by decide), hb4]; rfl)]
            refine W.eq (g2 := F0 m 22 ls [.ref f]) rfl ?_
            have hPc := hP.sub (ws' := [(f, .inr (3, [.ref e1, .ref e2, .int 5, .int 0])), (e1, wI tC 0 z1)]) [1, 2] rfl
            have hDc := hD.sub (ws' := [(f, .inr (3, [.ref e1, .ref e2, .int 5, .int 0])), (e1, wI tC 0 z1)]) [1, 2] (by decide) rfl
            have hFc := va_free (wc := [(f, .inr (3, [.ref e1, .ref e2, .int 5, .int 0])), (e1, wI tC 0 z1)]) hD hS hA [1, 2] rfl
            refine va_calli (va_runVN (As := []) (rest := []) ⟨hx, hb, hml, hown, hts⟩ (c_X2_length l hlt D tC dz H.size f e1 e2 z1 ) ⟨(va_cnB (host := "NoticeStations") 0 hts gX4_heldByHolders_X2_length_n107 rfl rfl rfl (hN.1 (.methodLinkNest "NoticeStations" 107 ⟨"NoticeStations$Standing", "length", "()I"⟩ "NoticeStations") (by decide +kernel)) w_0 (by decide +kernel) ⟨Nat.le_of_ble_eq_true rfl, Nat.le_of_ble_eq_true rfl⟩), w_1, w_2⟩ ⟨pB_blind, va_recv hK hPc (ci := 3) (q0 := 0) rfl rfl, pB_at hPc hDc hK hN hE hS hFc⟩ rfl rfl hl.1 rfl (lv_room (Nat.le_of_ble_eq_true rfl)) dX4_heldByHolders_22 ⟨Nat.le_of_ble_eq_true rfl, Nat.le_of_ble_eq_true rfl⟩) hS (fun q _ h => hFc q h) hFc (fun r_85 u t H1 locs ht hvm hw hB hz1 hk1 hS => ?_)
            obtain ⟨hP1, _, hD1⟩ := hB
            have hw_86 := hw
            rw [ht] at hP1
            obtain ⟨hP, hD⟩ := va_join (wr := [(a4, wS tC 5 gf)]) (w1 := [(f, .inr (3, [.ref e1, .ref e2, .int 5, .int 0])), (e1, wI tC 0 z1)]) hP hD [1, 2] [0] rfl rfl (by decide) (by decide) hk1 hFc hP1 hD1
            generalize H1 = H at hP hS ⊢
            have hP : va_P D vwCl [(a4, wS tC 5 gf), (f, .inr (3, [.ref e1, .ref e2, .int 5, .int 0])), (e1, wI tC 0 z1)] H := hP
            have hD : va_D A [(a4, wS tC 5 gf), (f, .inr (3, [.ref e1, .ref e2, .int 5, .int 0])), (e1, wI tC 0 z1)] := hD
            subst hw_86
            refine lv_aload_n hx hb dX4_heldByHolders_25 rfl (lv_at hl 1 rfl) ?_
            have hPc := hP.sub (ws' := [(f, .inr (3, [.ref e1, .ref e2, .int 5, .int 0])), (e1, wI tC 0 z1)]) [1, 2] rfl
            have hDc := hD.sub (ws' := [(f, .inr (3, [.ref e1, .ref e2, .int 5, .int 0])), (e1, wI tC 0 z1)]) [1, 2] (by decide) rfl
            have hFc := va_free (wc := [(f, .inr (3, [.ref e1, .ref e2, .int 5, .int 0])), (e1, wI tC 0 z1)]) hD hS hA [1, 2] rfl
            refine va_calli (va_runVN (As := []) (rest := [.int 0]) ⟨hx, hb, hml, hown, hts⟩ (c_X2_length l hlt D tC dz H.size f e1 e2 z1 ) ⟨(va_cnB (host := "NoticeStations") 0 hts gX4_heldByHolders_X2_length_n107 rfl rfl rfl (hN.1 (.methodLinkNest "NoticeStations" 107 ⟨"NoticeStations$Standing", "length", "()I"⟩ "NoticeStations") (by decide +kernel)) w_0 (by decide +kernel) ⟨Nat.le_of_ble_eq_true rfl, Nat.le_of_ble_eq_true rfl⟩), w_1, w_2⟩ ⟨pB_blind, va_recv hK hPc (ci := 3) (q0 := 0) rfl rfl, pB_at hPc hDc hK hN hE hS hFc⟩ rfl rfl hl.1 rfl (lv_room (Nat.le_of_ble_eq_true rfl)) dX4_heldByHolders_26 ⟨Nat.le_of_ble_eq_true rfl, Nat.le_of_ble_eq_true rfl⟩) hS (fun q _ h => hFc q h) hFc (fun r_87 u t H1 locs ht hvm hw hB hz1 hk1 hS => ?_)
            obtain ⟨hP1, _, hD1⟩ := hB
            have hw_88 := hw
            rw [ht] at hP1
            obtain ⟨hP, hD⟩ := va_join (wr := [(a4, wS tC 5 gf)]) (w1 := [(f, .inr (3, [.ref e1, .ref e2, .int 5, .int 0])), (e1, wI tC 0 z1)]) hP hD [1, 2] [0] rfl rfl (by decide) (by decide) hk1 hFc hP1 hD1
            generalize H1 = H at hP hS ⊢
            have hP : va_P D vwCl [(a4, wS tC 5 gf), (f, .inr (3, [.ref e1, .ref e2, .int 5, .int 0])), (e1, wI tC 0 z1)] H := hP
            have hD : va_D A [(a4, wS tC 5 gf), (f, .inr (3, [.ref e1, .ref e2, .int 5, .int 0])), (e1, wI tC 0 z1)] := hD
            subst hw_88
            refine lv_icmp_le (tgt := 36) hx hb dX4_heldByHolders_29 (by decide) (fun _ => ?_) (fun hc => absurd (by decide) hc)
            refine lv_iinc (v := 5) (lv' := [(2, .int 5), (1, .ref f), (0, .ref a4)]) hx hb dX4_heldByHolders_36 hl (k := 0) rfl (by decide) (by decide) rfl (fun ls hl => ?_)
            refine lv_goto (tgt := 4) hx hb dX4_heldByHolders_39 (by decide) ?_
            refine lv_iload_n hx hb dX4_heldByHolders_4 rfl (lv_at hl 0 rfl) ?_
            refine lv_iconst (v := 5) hx hb dX4_heldByHolders_5 (by decide) ?_
            refine lv_icmp_ge (tgt := 42) hx hb dX4_heldByHolders_6 (by decide) (fun _ => ?_) (fun hc => absurd (by decide) hc)
            refine lv_aload_n hx hb dX4_heldByHolders_42 rfl (lv_at hl 1 rfl) ?_
            have hP9 := hP.sub (ws' := [(a4, wS tC 5 gf), (f, .inr (3, [.ref e1, .ref e2, .int 5, .int 0])), (e1, wI tC 0 z1)]) [0, 1, 2] rfl
            have hD9 := hD.sub (ws' := [(a4, wS tC 5 gf), (f, .inr (3, [.ref e1, .ref e2, .int 5, .int 0])), (e1, wI tC 0 z1)]) [0, 1, 2] (by decide) rfl
            refine W.widen (k := 0) (n := 0) (by omega) (by omega) ?_
            exact W.aret (v := .ref f) hx hb hr (Or.inl ⟨_, rfl⟩) (Or.inr ⟨_, rfl⟩) (fun t ht hW => ⟨⟨(some f), (), rfl, rfl, (by rw [ht]; exact hP9), va_K.moved hW.alike hK, hD9⟩, hS.F ht⟩) hS.2.2 dX4_heldByHolders_43 hlocks
      · skip
        refine lv_iload_n hx hb dX4_heldByHolders_4 rfl (lv_at hl 0 rfl) ?_
        refine lv_iconst (v := 5) hx hb dX4_heldByHolders_5 (by decide) ?_
        refine lv_icmp_ge (tgt := 42) hx hb dX4_heldByHolders_6 (by decide) (fun hc => absurd hc (by decide)) (fun _ => ?_)
        refine lv_aload_n hx hb dX4_heldByHolders_9 rfl (lv_at hl 2 rfl) ?_
        refine lv_iload_n hx hb dX4_heldByHolders_10 rfl (lv_at hl 0 rfl) ?_
        refine va_aldq hx hb hK hP 0 2 rfl rfl (by unfold vp_in; decide) dX4_heldByHolders_11 ?_
        rw [show gf (2 : Int32).toNatClampNeg = some f from (by rw [show (2 : Int32).toNatClampNeg = 2 by decide, hg 2 (by decide), hb2]; rfl)]
        refine W.eq (g2 := F0 m 12 ls [.ref f]) rfl ?_
        refine lv_ifnull hx hb dX4_heldByHolders_12 ?_
        refine lv_aload_n hx hb dX4_heldByHolders_15 rfl (lv_at hl 1 rfl) ?_
        refine lv_ifnull hx hb dX4_heldByHolders_16 ?_
        refine lv_aload_n hx hb dX4_heldByHolders_19 rfl (lv_at hl 2 rfl) ?_
        refine lv_iload_n hx hb dX4_heldByHolders_20 rfl (lv_at hl 0 rfl) ?_
        refine va_aldq hx hb hK hP 0 2 rfl rfl (by unfold vp_in; decide) dX4_heldByHolders_21 ?_
        rw [show gf (2 : Int32).toNatClampNeg = some f from (by rw [show (2 : Int32).toNatClampNeg = 2 by decide, hg 2 (by decide), hb2]; rfl)]
        refine W.eq (g2 := F0 m 22 ls [.ref f]) rfl ?_
        have hPc := hP.sub (ws' := [(f, .inr (3, [.ref e1, .ref e2, .int 5, .int 0])), (e1, wI tC 0 z1)]) [1, 2] rfl
        have hDc := hD.sub (ws' := [(f, .inr (3, [.ref e1, .ref e2, .int 5, .int 0])), (e1, wI tC 0 z1)]) [1, 2] (by decide) rfl
        have hFc := va_free (wc := [(f, .inr (3, [.ref e1, .ref e2, .int 5, .int 0])), (e1, wI tC 0 z1)]) hD hS hA [1, 2] rfl
        refine va_calli (va_runVN (As := []) (rest := []) ⟨hx, hb, hml, hown, hts⟩ (c_X2_length l hlt D tC dz H.size f e1 e2 z1 ) ⟨(va_cnB (host := "NoticeStations") 0 hts gX4_heldByHolders_X2_length_n107 rfl rfl rfl (hN.1 (.methodLinkNest "NoticeStations" 107 ⟨"NoticeStations$Standing", "length", "()I"⟩ "NoticeStations") (by decide +kernel)) w_0 (by decide +kernel) ⟨Nat.le_of_ble_eq_true rfl, Nat.le_of_ble_eq_true rfl⟩), w_1, w_2⟩ ⟨pB_blind, va_recv hK hPc (ci := 3) (q0 := 0) rfl rfl, pB_at hPc hDc hK hN hE hS hFc⟩ rfl rfl hl.1 rfl (lv_room (Nat.le_of_ble_eq_true rfl)) dX4_heldByHolders_22 ⟨Nat.le_of_ble_eq_true rfl, Nat.le_of_ble_eq_true rfl⟩) hS (fun q _ h => hFc q h) hFc (fun r_89 u t H1 locs ht hvm hw hB hz1 hk1 hS => ?_)
        obtain ⟨hP1, _, hD1⟩ := hB
        have hw_90 := hw
        rw [ht] at hP1
        obtain ⟨hP, hD⟩ := va_join (wr := [(a4, wS tC 5 gf)]) (w1 := [(f, .inr (3, [.ref e1, .ref e2, .int 5, .int 0])), (e1, wI tC 0 z1)]) hP hD [1, 2] [0] rfl rfl (by decide) (by decide) hk1 hFc hP1 hD1
        generalize H1 = H at hP hS ⊢
        have hP : va_P D vwCl [(a4, wS tC 5 gf), (f, .inr (3, [.ref e1, .ref e2, .int 5, .int 0])), (e1, wI tC 0 z1)] H := hP
        have hD : va_D A [(a4, wS tC 5 gf), (f, .inr (3, [.ref e1, .ref e2, .int 5, .int 0])), (e1, wI tC 0 z1)] := hD
        subst hw_90
        refine lv_aload_n hx hb dX4_heldByHolders_25 rfl (lv_at hl 1 rfl) ?_
        have hPc := hP.sub (ws' := [(f, .inr (3, [.ref e1, .ref e2, .int 5, .int 0])), (e1, wI tC 0 z1)]) [1, 2] rfl
        have hDc := hD.sub (ws' := [(f, .inr (3, [.ref e1, .ref e2, .int 5, .int 0])), (e1, wI tC 0 z1)]) [1, 2] (by decide) rfl
        have hFc := va_free (wc := [(f, .inr (3, [.ref e1, .ref e2, .int 5, .int 0])), (e1, wI tC 0 z1)]) hD hS hA [1, 2] rfl
        refine va_calli (va_runVN (As := []) (rest := [.int 0]) ⟨hx, hb, hml, hown, hts⟩ (c_X2_length l hlt D tC dz H.size f e1 e2 z1 ) ⟨(va_cnB (host := "NoticeStations") 0 hts gX4_heldByHolders_X2_length_n107 rfl rfl rfl (hN.1 (.methodLinkNest "NoticeStations" 107 ⟨"NoticeStations$Standing", "length", "()I"⟩ "NoticeStations") (by decide +kernel)) w_0 (by decide +kernel) ⟨Nat.le_of_ble_eq_true rfl, Nat.le_of_ble_eq_true rfl⟩), w_1, w_2⟩ ⟨pB_blind, va_recv hK hPc (ci := 3) (q0 := 0) rfl rfl, pB_at hPc hDc hK hN hE hS hFc⟩ rfl rfl hl.1 rfl (lv_room (Nat.le_of_ble_eq_true rfl)) dX4_heldByHolders_26 ⟨Nat.le_of_ble_eq_true rfl, Nat.le_of_ble_eq_true rfl⟩) hS (fun q _ h => hFc q h) hFc (fun r_91 u t H1 locs ht hvm hw hB hz1 hk1 hS => ?_)
        obtain ⟨hP1, _, hD1⟩ := hB
        have hw_92 := hw
        rw [ht] at hP1
        obtain ⟨hP, hD⟩ := va_join (wr := [(a4, wS tC 5 gf)]) (w1 := [(f, .inr (3, [.ref e1, .ref e2, .int 5, .int 0])), (e1, wI tC 0 z1)]) hP hD [1, 2] [0] rfl rfl (by decide) (by decide) hk1 hFc hP1 hD1
        generalize H1 = H at hP hS ⊢
        have hP : va_P D vwCl [(a4, wS tC 5 gf), (f, .inr (3, [.ref e1, .ref e2, .int 5, .int 0])), (e1, wI tC 0 z1)] H := hP
        have hD : va_D A [(a4, wS tC 5 gf), (f, .inr (3, [.ref e1, .ref e2, .int 5, .int 0])), (e1, wI tC 0 z1)] := hD
        subst hw_92
        refine lv_icmp_le (tgt := 36) hx hb dX4_heldByHolders_29 (by decide) (fun _ => ?_) (fun hc => absurd (by decide) hc)
        refine lv_iinc (v := 3) (lv' := [(2, .int 3), (1, .ref f), (0, .ref a4)]) hx hb dX4_heldByHolders_36 hl (k := 0) rfl (by decide) (by decide) rfl (fun ls hl => ?_)
        refine lv_goto (tgt := 4) hx hb dX4_heldByHolders_39 (by decide) ?_
        cases hb3 : bt 3
        · skip
          refine lv_iload_n hx hb dX4_heldByHolders_4 rfl (lv_at hl 0 rfl) ?_
          refine lv_iconst (v := 5) hx hb dX4_heldByHolders_5 (by decide) ?_
          refine lv_icmp_ge (tgt := 42) hx hb dX4_heldByHolders_6 (by decide) (fun hc => absurd hc (by decide)) (fun _ => ?_)
          refine lv_aload_n hx hb dX4_heldByHolders_9 rfl (lv_at hl 2 rfl) ?_
          refine lv_iload_n hx hb dX4_heldByHolders_10 rfl (lv_at hl 0 rfl) ?_
          refine va_aldq hx hb hK hP 0 2 rfl rfl (by unfold vp_in; decide) dX4_heldByHolders_11 ?_
          rw [show gf (3 : Int32).toNatClampNeg = none from (by rw [show (3 : Int32).toNatClampNeg = 3 by decide, hg 3 (by decide), hb3]; rfl)]
          refine W.eq (g2 := F0 m 12 ls [.null]) rfl ?_
          refine lv_ifnullN (tgt := 36) hx hb dX4_heldByHolders_12 (by decide) ?_
          refine lv_iinc (v := 4) (lv' := [(2, .int 4), (1, .ref f), (0, .ref a4)]) hx hb dX4_heldByHolders_36 hl (k := 0) rfl (by decide) (by decide) rfl (fun ls hl => ?_)
          refine lv_goto (tgt := 4) hx hb dX4_heldByHolders_39 (by decide) ?_
          cases hb4 : bt 4
          · skip
            refine lv_iload_n hx hb dX4_heldByHolders_4 rfl (lv_at hl 0 rfl) ?_
            refine lv_iconst (v := 5) hx hb dX4_heldByHolders_5 (by decide) ?_
            refine lv_icmp_ge (tgt := 42) hx hb dX4_heldByHolders_6 (by decide) (fun hc => absurd hc (by decide)) (fun _ => ?_)
            refine lv_aload_n hx hb dX4_heldByHolders_9 rfl (lv_at hl 2 rfl) ?_
            refine lv_iload_n hx hb dX4_heldByHolders_10 rfl (lv_at hl 0 rfl) ?_
            refine va_aldq hx hb hK hP 0 2 rfl rfl (by unfold vp_in; decide) dX4_heldByHolders_11 ?_
            rw [show gf (4 : Int32).toNatClampNeg = none from (by rw [show (4 : Int32).toNatClampNeg = 4 by decide, hg 4 (by decide), hb4]; rfl)]
            refine W.eq (g2 := F0 m 12 ls [.null]) rfl ?_
            refine lv_ifnullN (tgt := 36) hx hb dX4_heldByHolders_12 (by decide) ?_
            refine lv_iinc (v := 5) (lv' := [(2, .int 5), (1, .ref f), (0, .ref a4)]) hx hb dX4_heldByHolders_36 hl (k := 0) rfl (by decide) (by decide) rfl (fun ls hl => ?_)
            refine lv_goto (tgt := 4) hx hb dX4_heldByHolders_39 (by decide) ?_
            refine lv_iload_n hx hb dX4_heldByHolders_4 rfl (lv_at hl 0 rfl) ?_
            refine lv_iconst (v := 5) hx hb dX4_heldByHolders_5 (by decide) ?_
            refine lv_icmp_ge (tgt := 42) hx hb dX4_heldByHolders_6 (by decide) (fun _ => ?_) (fun hc => absurd (by decide) hc)
            refine lv_aload_n hx hb dX4_heldByHolders_42 rfl (lv_at hl 1 rfl) ?_
            have hP9 := hP.sub (ws' := [(a4, wS tC 5 gf), (f, .inr (3, [.ref e1, .ref e2, .int 5, .int 0])), (e1, wI tC 0 z1)]) [0, 1, 2] rfl
            have hD9 := hD.sub (ws' := [(a4, wS tC 5 gf), (f, .inr (3, [.ref e1, .ref e2, .int 5, .int 0])), (e1, wI tC 0 z1)]) [0, 1, 2] (by decide) rfl
            refine W.widen (k := 0) (n := 0) (by omega) (by omega) ?_
            exact W.aret (v := .ref f) hx hb hr (Or.inl ⟨_, rfl⟩) (Or.inr ⟨_, rfl⟩) (fun t ht hW => ⟨⟨(some f), (), rfl, rfl, (by rw [ht]; exact hP9), va_K.moved hW.alike hK, hD9⟩, hS.F ht⟩) hS.2.2 dX4_heldByHolders_43 hlocks
          · skip
            refine lv_iload_n hx hb dX4_heldByHolders_4 rfl (lv_at hl 0 rfl) ?_
            refine lv_iconst (v := 5) hx hb dX4_heldByHolders_5 (by decide) ?_
            refine lv_icmp_ge (tgt := 42) hx hb dX4_heldByHolders_6 (by decide) (fun hc => absurd hc (by decide)) (fun _ => ?_)
            refine lv_aload_n hx hb dX4_heldByHolders_9 rfl (lv_at hl 2 rfl) ?_
            refine lv_iload_n hx hb dX4_heldByHolders_10 rfl (lv_at hl 0 rfl) ?_
            refine va_aldq hx hb hK hP 0 2 rfl rfl (by unfold vp_in; decide) dX4_heldByHolders_11 ?_
            rw [show gf (4 : Int32).toNatClampNeg = some f from (by rw [show (4 : Int32).toNatClampNeg = 4 by decide, hg 4 (by decide), hb4]; rfl)]
            refine W.eq (g2 := F0 m 12 ls [.ref f]) rfl ?_
            refine lv_ifnull hx hb dX4_heldByHolders_12 ?_
            refine lv_aload_n hx hb dX4_heldByHolders_15 rfl (lv_at hl 1 rfl) ?_
            refine lv_ifnull hx hb dX4_heldByHolders_16 ?_
            refine lv_aload_n hx hb dX4_heldByHolders_19 rfl (lv_at hl 2 rfl) ?_
            refine lv_iload_n hx hb dX4_heldByHolders_20 rfl (lv_at hl 0 rfl) ?_
            refine va_aldq hx hb hK hP 0 2 rfl rfl (by unfold vp_in; decide) dX4_heldByHolders_21 ?_
            rw [show gf (4 : Int32).toNatClampNeg = some f from (by rw [show (4 : Int32).toNatClampNeg = 4 by decide, hg 4 (by decide), hb4]; rfl)]
            refine W.eq (g2 := F0 m 22 ls [.ref f]) rfl ?_
            have hPc := hP.sub (ws' := [(f, .inr (3, [.ref e1, .ref e2, .int 5, .int 0])), (e1, wI tC 0 z1)]) [1, 2] rfl
            have hDc := hD.sub (ws' := [(f, .inr (3, [.ref e1, .ref e2, .int 5, .int 0])), (e1, wI tC 0 z1)]) [1, 2] (by decide) rfl
            have hFc := va_free (wc := [(f, .inr (3, [.ref e1, .ref e2, .int 5, .int 0])), (e1, wI tC 0 z1)]) hD hS hA [1, 2] rfl
            refine va_calli (va_runVN (As := []) (rest := []) ⟨hx, hb, hml, hown, hts⟩ (c_X2_length l hlt D tC dz H.size f e1 e2 z1 ) ⟨(va_cnB (host := "NoticeStations") 0 hts gX4_heldByHolders_X2_length_n107 rfl rfl rfl (hN.1 (.methodLinkNest "NoticeStations" 107 ⟨"NoticeStations$Standing", "length", "()I"⟩ "NoticeStations") (by decide +kernel)) w_0 (by decide +kernel) ⟨Nat.le_of_ble_eq_true rfl, Nat.le_of_ble_eq_true rfl⟩), w_1, w_2⟩ ⟨pB_blind, va_recv hK hPc (ci := 3) (q0 := 0) rfl rfl, pB_at hPc hDc hK hN hE hS hFc⟩ rfl rfl hl.1 rfl (lv_room (Nat.le_of_ble_eq_true rfl)) dX4_heldByHolders_22 ⟨Nat.le_of_ble_eq_true rfl, Nat.le_of_ble_eq_true rfl⟩) hS (fun q _ h => hFc q h) hFc (fun r_93 u t H1 locs ht hvm hw hB hz1 hk1 hS => ?_)
            obtain ⟨hP1, _, hD1⟩ := hB
            have hw_94 := hw
            rw [ht] at hP1
            obtain ⟨hP, hD⟩ := va_join (wr := [(a4, wS tC 5 gf)]) (w1 := [(f, .inr (3, [.ref e1, .ref e2, .int 5, .int 0])), (e1, wI tC 0 z1)]) hP hD [1, 2] [0] rfl rfl (by decide) (by decide) hk1 hFc hP1 hD1
            generalize H1 = H at hP hS ⊢
            have hP : va_P D vwCl [(a4, wS tC 5 gf), (f, .inr (3, [.ref e1, .ref e2, .int 5, .int 0])), (e1, wI tC 0 z1)] H := hP
            have hD : va_D A [(a4, wS tC 5 gf), (f, .inr (3, [.ref e1, .ref e2, .int 5, .int 0])), (e1, wI tC 0 z1)] := hD
            subst hw_94
            refine lv_aload_n hx hb dX4_heldByHolders_25 rfl (lv_at hl 1 rfl) ?_
            have hPc := hP.sub (ws' := [(f, .inr (3, [.ref e1, .ref e2, .int 5, .int 0])), (e1, wI tC 0 z1)]) [1, 2] rfl
            have hDc := hD.sub (ws' := [(f, .inr (3, [.ref e1, .ref e2, .int 5, .int 0])), (e1, wI tC 0 z1)]) [1, 2] (by decide) rfl
            have hFc := va_free (wc := [(f, .inr (3, [.ref e1, .ref e2, .int 5, .int 0])), (e1, wI tC 0 z1)]) hD hS hA [1, 2] rfl
            refine va_calli (va_runVN (As := []) (rest := [.int 0]) ⟨hx, hb, hml, hown, hts⟩ (c_X2_length l hlt D tC dz H.size f e1 e2 z1 ) ⟨(va_cnB (host := "NoticeStations") 0 hts gX4_heldByHolders_X2_length_n107 rfl rfl rfl (hN.1 (.methodLinkNest "NoticeStations" 107 ⟨"NoticeStations$Standing", "length", "()I"⟩ "NoticeStations") (by decide +kernel)) w_0 (by decide +kernel) ⟨Nat.le_of_ble_eq_true rfl, Nat.le_of_ble_eq_true rfl⟩), w_1, w_2⟩ ⟨pB_blind, va_recv hK hPc (ci := 3) (q0 := 0) rfl rfl, pB_at hPc hDc hK hN hE hS hFc⟩ rfl rfl hl.1 rfl (lv_room (Nat.le_of_ble_eq_true rfl)) dX4_heldByHolders_26 ⟨Nat.le_of_ble_eq_true rfl, Nat.le_of_ble_eq_true rfl⟩) hS (fun q _ h => hFc q h) hFc (fun r_95 u t H1 locs ht hvm hw hB hz1 hk1 hS => ?_)
            obtain ⟨hP1, _, hD1⟩ := hB
            have hw_96 := hw
            rw [ht] at hP1
            obtain ⟨hP, hD⟩ := va_join (wr := [(a4, wS tC 5 gf)]) (w1 := [(f, .inr (3, [.ref e1, .ref e2, .int 5, .int 0])), (e1, wI tC 0 z1)]) hP hD [1, 2] [0] rfl rfl (by decide) (by decide) hk1 hFc hP1 hD1
            generalize H1 = H at hP hS ⊢
            have hP : va_P D vwCl [(a4, wS tC 5 gf), (f, .inr (3, [.ref e1, .ref e2, .int 5, .int 0])), (e1, wI tC 0 z1)] H := hP
            have hD : va_D A [(a4, wS tC 5 gf), (f, .inr (3, [.ref e1, .ref e2, .int 5, .int 0])), (e1, wI tC 0 z1)] := hD
            subst hw_96
            refine lv_icmp_le (tgt := 36) hx hb dX4_heldByHolders_29 (by decide) (fun _ => ?_) (fun hc => absurd (by decide) hc)
            refine lv_iinc (v := 5) (lv' := [(2, .int 5), (1, .ref f), (0, .ref a4)]) hx hb dX4_heldByHolders_36 hl (k := 0) rfl (by decide) (by decide) rfl (fun ls hl => ?_)
            refine lv_goto (tgt := 4) hx hb dX4_heldByHolders_39 (by decide) ?_
            refine lv_iload_n hx hb dX4_heldByHolders_4 rfl (lv_at hl 0 rfl) ?_
            refine lv_iconst (v := 5) hx hb dX4_heldByHolders_5 (by decide) ?_
            refine lv_icmp_ge (tgt := 42) hx hb dX4_heldByHolders_6 (by decide) (fun _ => ?_) (fun hc => absurd (by decide) hc)
            refine lv_aload_n hx hb dX4_heldByHolders_42 rfl (lv_at hl 1 rfl) ?_
            have hP9 := hP.sub (ws' := [(a4, wS tC 5 gf), (f, .inr (3, [.ref e1, .ref e2, .int 5, .int 0])), (e1, wI tC 0 z1)]) [0, 1, 2] rfl
            have hD9 := hD.sub (ws' := [(a4, wS tC 5 gf), (f, .inr (3, [.ref e1, .ref e2, .int 5, .int 0])), (e1, wI tC 0 z1)]) [0, 1, 2] (by decide) rfl
            refine W.widen (k := 0) (n := 0) (by omega) (by omega) ?_
            exact W.aret (v := .ref f) hx hb hr (Or.inl ⟨_, rfl⟩) (Or.inr ⟨_, rfl⟩) (fun t ht hW => ⟨⟨(some f), (), rfl, rfl, (by rw [ht]; exact hP9), va_K.moved hW.alike hK, hD9⟩, hS.F ht⟩) hS.2.2 dX4_heldByHolders_43 hlocks
        · skip
          refine lv_iload_n hx hb dX4_heldByHolders_4 rfl (lv_at hl 0 rfl) ?_
          refine lv_iconst (v := 5) hx hb dX4_heldByHolders_5 (by decide) ?_
          refine lv_icmp_ge (tgt := 42) hx hb dX4_heldByHolders_6 (by decide) (fun hc => absurd hc (by decide)) (fun _ => ?_)
          refine lv_aload_n hx hb dX4_heldByHolders_9 rfl (lv_at hl 2 rfl) ?_
          refine lv_iload_n hx hb dX4_heldByHolders_10 rfl (lv_at hl 0 rfl) ?_
          refine va_aldq hx hb hK hP 0 2 rfl rfl (by unfold vp_in; decide) dX4_heldByHolders_11 ?_
          rw [show gf (3 : Int32).toNatClampNeg = some f from (by rw [show (3 : Int32).toNatClampNeg = 3 by decide, hg 3 (by decide), hb3]; rfl)]
          refine W.eq (g2 := F0 m 12 ls [.ref f]) rfl ?_
          refine lv_ifnull hx hb dX4_heldByHolders_12 ?_
          refine lv_aload_n hx hb dX4_heldByHolders_15 rfl (lv_at hl 1 rfl) ?_
          refine lv_ifnull hx hb dX4_heldByHolders_16 ?_
          refine lv_aload_n hx hb dX4_heldByHolders_19 rfl (lv_at hl 2 rfl) ?_
          refine lv_iload_n hx hb dX4_heldByHolders_20 rfl (lv_at hl 0 rfl) ?_
          refine va_aldq hx hb hK hP 0 2 rfl rfl (by unfold vp_in; decide) dX4_heldByHolders_21 ?_
          rw [show gf (3 : Int32).toNatClampNeg = some f from (by rw [show (3 : Int32).toNatClampNeg = 3 by decide, hg 3 (by decide), hb3]; rfl)]
          refine W.eq (g2 := F0 m 22 ls [.ref f]) rfl ?_
          have hPc := hP.sub (ws' := [(f, .inr (3, [.ref e1, .ref e2, .int 5, .int 0])), (e1, wI tC 0 z1)]) [1, 2] rfl
          have hDc := hD.sub (ws' := [(f, .inr (3, [.ref e1, .ref e2, .int 5, .int 0])), (e1, wI tC 0 z1)]) [1, 2] (by decide) rfl
          have hFc := va_free (wc := [(f, .inr (3, [.ref e1, .ref e2, .int 5, .int 0])), (e1, wI tC 0 z1)]) hD hS hA [1, 2] rfl
          refine va_calli (va_runVN (As := []) (rest := []) ⟨hx, hb, hml, hown, hts⟩ (c_X2_length l hlt D tC dz H.size f e1 e2 z1 ) ⟨(va_cnB (host := "NoticeStations") 0 hts gX4_heldByHolders_X2_length_n107 rfl rfl rfl (hN.1 (.methodLinkNest "NoticeStations" 107 ⟨"NoticeStations$Standing", "length", "()I"⟩ "NoticeStations") (by decide +kernel)) w_0 (by decide +kernel) ⟨Nat.le_of_ble_eq_true rfl, Nat.le_of_ble_eq_true rfl⟩), w_1, w_2⟩ ⟨pB_blind, va_recv hK hPc (ci := 3) (q0 := 0) rfl rfl, pB_at hPc hDc hK hN hE hS hFc⟩ rfl rfl hl.1 rfl (lv_room (Nat.le_of_ble_eq_true rfl)) dX4_heldByHolders_22 ⟨Nat.le_of_ble_eq_true rfl, Nat.le_of_ble_eq_true rfl⟩) hS (fun q _ h => hFc q h) hFc (fun r_97 u t H1 locs ht hvm hw hB hz1 hk1 hS => ?_)
          obtain ⟨hP1, _, hD1⟩ := hB
          have hw_98 := hw
          rw [ht] at hP1
          obtain ⟨hP, hD⟩ := va_join (wr := [(a4, wS tC 5 gf)]) (w1 := [(f, .inr (3, [.ref e1, .ref e2, .int 5, .int 0])), (e1, wI tC 0 z1)]) hP hD [1, 2] [0] rfl rfl (by decide) (by decide) hk1 hFc hP1 hD1
          generalize H1 = H at hP hS ⊢
          have hP : va_P D vwCl [(a4, wS tC 5 gf), (f, .inr (3, [.ref e1, .ref e2, .int 5, .int 0])), (e1, wI tC 0 z1)] H := hP
          have hD : va_D A [(a4, wS tC 5 gf), (f, .inr (3, [.ref e1, .ref e2, .int 5, .int 0])), (e1, wI tC 0 z1)] := hD
          subst hw_98
          refine lv_aload_n hx hb dX4_heldByHolders_25 rfl (lv_at hl 1 rfl) ?_
          have hPc := hP.sub (ws' := [(f, .inr (3, [.ref e1, .ref e2, .int 5, .int 0])), (e1, wI tC 0 z1)]) [1, 2] rfl
          have hDc := hD.sub (ws' := [(f, .inr (3, [.ref e1, .ref e2, .int 5, .int 0])), (e1, wI tC 0 z1)]) [1, 2] (by decide) rfl
          have hFc := va_free (wc := [(f, .inr (3, [.ref e1, .ref e2, .int 5, .int 0])), (e1, wI tC 0 z1)]) hD hS hA [1, 2] rfl
          refine va_calli (va_runVN (As := []) (rest := [.int 0]) ⟨hx, hb, hml, hown, hts⟩ (c_X2_length l hlt D tC dz H.size f e1 e2 z1 ) ⟨(va_cnB (host := "NoticeStations") 0 hts gX4_heldByHolders_X2_length_n107 rfl rfl rfl (hN.1 (.methodLinkNest "NoticeStations" 107 ⟨"NoticeStations$Standing", "length", "()I"⟩ "NoticeStations") (by decide +kernel)) w_0 (by decide +kernel) ⟨Nat.le_of_ble_eq_true rfl, Nat.le_of_ble_eq_true rfl⟩), w_1, w_2⟩ ⟨pB_blind, va_recv hK hPc (ci := 3) (q0 := 0) rfl rfl, pB_at hPc hDc hK hN hE hS hFc⟩ rfl rfl hl.1 rfl (lv_room (Nat.le_of_ble_eq_true rfl)) dX4_heldByHolders_26 ⟨Nat.le_of_ble_eq_true rfl, Nat.le_of_ble_eq_true rfl⟩) hS (fun q _ h => hFc q h) hFc (fun r_99 u t H1 locs ht hvm hw hB hz1 hk1 hS => ?_)
          obtain ⟨hP1, _, hD1⟩ := hB
          have hw_100 := hw
          rw [ht] at hP1
          obtain ⟨hP, hD⟩ := va_join (wr := [(a4, wS tC 5 gf)]) (w1 := [(f, .inr (3, [.ref e1, .ref e2, .int 5, .int 0])), (e1, wI tC 0 z1)]) hP hD [1, 2] [0] rfl rfl (by decide) (by decide) hk1 hFc hP1 hD1
          generalize H1 = H at hP hS ⊢
          have hP : va_P D vwCl [(a4, wS tC 5 gf), (f, .inr (3, [.ref e1, .ref e2, .int 5, .int 0])), (e1, wI tC 0 z1)] H := hP
          have hD : va_D A [(a4, wS tC 5 gf), (f, .inr (3, [.ref e1, .ref e2, .int 5, .int 0])), (e1, wI tC 0 z1)] := hD
          subst hw_100
          refine lv_icmp_le (tgt := 36) hx hb dX4_heldByHolders_29 (by decide) (fun _ => ?_) (fun hc => absurd (by decide) hc)
          refine lv_iinc (v := 4) (lv' := [(2, .int 4), (1, .ref f), (0, .ref a4)]) hx hb dX4_heldByHolders_36 hl (k := 0) rfl (by decide) (by decide) rfl (fun ls hl => ?_)
          refine lv_goto (tgt := 4) hx hb dX4_heldByHolders_39 (by decide) ?_
          cases hb4 : bt 4
          · skip
            refine lv_iload_n hx hb dX4_heldByHolders_4 rfl (lv_at hl 0 rfl) ?_
            refine lv_iconst (v := 5) hx hb dX4_heldByHolders_5 (by decide) ?_
            refine lv_icmp_ge (tgt := 42) hx hb dX4_heldByHolders_6 (by decide) (fun hc => absurd hc (by decide)) (fun _ => ?_)
            refine lv_aload_n hx hb dX4_heldByHolders_9 rfl (lv_at hl 2 rfl) ?_
            refine lv_iload_n hx hb dX4_heldByHolders_10 rfl (lv_at hl 0 rfl) ?_
            refine va_aldq hx hb hK hP 0 2 rfl rfl (by unfold vp_in; decide) dX4_heldByHolders_11 ?_
            rw [show gf (4 : Int32).toNatClampNeg = none from (by rw [show (4 : Int32).toNatClampNeg = 4 by decide, hg 4 (by decide), hb4]; rfl)]
            refine W.eq (g2 := F0 m 12 ls [.null]) rfl ?_
            refine lv_ifnullN (tgt := 36) hx hb dX4_heldByHolders_12 (by decide) ?_
            refine lv_iinc (v := 5) (lv' := [(2, .int 5), (1, .ref f), (0, .ref a4)]) hx hb dX4_heldByHolders_36 hl (k := 0) rfl (by decide) (by decide) rfl (fun ls hl => ?_)
            refine lv_goto (tgt := 4) hx hb dX4_heldByHolders_39 (by decide) ?_
            refine lv_iload_n hx hb dX4_heldByHolders_4 rfl (lv_at hl 0 rfl) ?_
            refine lv_iconst (v := 5) hx hb dX4_heldByHolders_5 (by decide) ?_
            refine lv_icmp_ge (tgt := 42) hx hb dX4_heldByHolders_6 (by decide) (fun _ => ?_) (fun hc => absurd (by decide) hc)
            refine lv_aload_n hx hb dX4_heldByHolders_42 rfl (lv_at hl 1 rfl) ?_
            have hP9 := hP.sub (ws' := [(a4, wS tC 5 gf), (f, .inr (3, [.ref e1, .ref e2, .int 5, .int 0])), (e1, wI tC 0 z1)]) [0, 1, 2] rfl
            have hD9 := hD.sub (ws' := [(a4, wS tC 5 gf), (f, .inr (3, [.ref e1, .ref e2, .int 5, .int 0])), (e1, wI tC 0 z1)]) [0, 1, 2] (by decide) rfl
            refine W.widen (k := 0) (n := 0) (by omega) (by omega) ?_
            exact W.aret (v := .ref f) hx hb hr (Or.inl ⟨_, rfl⟩) (Or.inr ⟨_, rfl⟩) (fun t ht hW => ⟨⟨(some f), (), rfl, rfl, (by rw [ht]; exact hP9), va_K.moved hW.alike hK, hD9⟩, hS.F ht⟩) hS.2.2 dX4_heldByHolders_43 hlocks
          · skip
            refine lv_iload_n hx hb dX4_heldByHolders_4 rfl (lv_at hl 0 rfl) ?_
            refine lv_iconst (v := 5) hx hb dX4_heldByHolders_5 (by decide) ?_
            refine lv_icmp_ge (tgt := 42) hx hb dX4_heldByHolders_6 (by decide) (fun hc => absurd hc (by decide)) (fun _ => ?_)
            refine lv_aload_n hx hb dX4_heldByHolders_9 rfl (lv_at hl 2 rfl) ?_
            refine lv_iload_n hx hb dX4_heldByHolders_10 rfl (lv_at hl 0 rfl) ?_
            refine va_aldq hx hb hK hP 0 2 rfl rfl (by unfold vp_in; decide) dX4_heldByHolders_11 ?_
            rw [show gf (4 : Int32).toNatClampNeg = some f from (by rw [show (4 : Int32).toNatClampNeg = 4 by decide, hg 4 (by decide), hb4]; rfl)]
            refine W.eq (g2 := F0 m 12 ls [.ref f]) rfl ?_
            refine lv_ifnull hx hb dX4_heldByHolders_12 ?_
            refine lv_aload_n hx hb dX4_heldByHolders_15 rfl (lv_at hl 1 rfl) ?_
            refine lv_ifnull hx hb dX4_heldByHolders_16 ?_
            refine lv_aload_n hx hb dX4_heldByHolders_19 rfl (lv_at hl 2 rfl) ?_
            refine lv_iload_n hx hb dX4_heldByHolders_20 rfl (lv_at hl 0 rfl) ?_
            refine va_aldq hx hb hK hP 0 2 rfl rfl (by unfold vp_in; decide) dX4_heldByHolders_21 ?_
            rw [show gf (4 : Int32).toNatClampNeg = some f from (by rw [show (4 : Int32).toNatClampNeg = 4 by decide, hg 4 (by decide), hb4]; rfl)]
            refine W.eq (g2 := F0 m 22 ls [.ref f]) rfl ?_
            have hPc := hP.sub (ws' := [(f, .inr (3, [.ref e1, .ref e2, .int 5, .int 0])), (e1, wI tC 0 z1)]) [1, 2] rfl
            have hDc := hD.sub (ws' := [(f, .inr (3, [.ref e1, .ref e2, .int 5, .int 0])), (e1, wI tC 0 z1)]) [1, 2] (by decide) rfl
            have hFc := va_free (wc := [(f, .inr (3, [.ref e1, .ref e2, .int 5, .int 0])), (e1, wI tC 0 z1)]) hD hS hA [1, 2] rfl
            refine va_calli (va_runVN (As := []) (rest := []) ⟨hx, hb, hml, hown, hts⟩ (c_X2_length l hlt D tC dz H.size f e1 e2 z1 ) ⟨(va_cnB (host := "NoticeStations") 0 hts gX4_heldByHolders_X2_length_n107 rfl rfl rfl (hN.1 (.methodLinkNest "NoticeStations" 107 ⟨"NoticeStations$Standing", "length", "()I"⟩ "NoticeStations") (by decide +kernel)) w_0 (by decide +kernel) ⟨Nat.le_of_ble_eq_true rfl, Nat.le_of_ble_eq_true rfl⟩), w_1, w_2⟩ ⟨pB_blind, va_recv hK hPc (ci := 3) (q0 := 0) rfl rfl, pB_at hPc hDc hK hN hE hS hFc⟩ rfl rfl hl.1 rfl (lv_room (Nat.le_of_ble_eq_true rfl)) dX4_heldByHolders_22 ⟨Nat.le_of_ble_eq_true rfl, Nat.le_of_ble_eq_true rfl⟩) hS (fun q _ h => hFc q h) hFc (fun r_101 u t H1 locs ht hvm hw hB hz1 hk1 hS => ?_)
            obtain ⟨hP1, _, hD1⟩ := hB
            have hw_102 := hw
            rw [ht] at hP1
            obtain ⟨hP, hD⟩ := va_join (wr := [(a4, wS tC 5 gf)]) (w1 := [(f, .inr (3, [.ref e1, .ref e2, .int 5, .int 0])), (e1, wI tC 0 z1)]) hP hD [1, 2] [0] rfl rfl (by decide) (by decide) hk1 hFc hP1 hD1
            generalize H1 = H at hP hS ⊢
            have hP : va_P D vwCl [(a4, wS tC 5 gf), (f, .inr (3, [.ref e1, .ref e2, .int 5, .int 0])), (e1, wI tC 0 z1)] H := hP
            have hD : va_D A [(a4, wS tC 5 gf), (f, .inr (3, [.ref e1, .ref e2, .int 5, .int 0])), (e1, wI tC 0 z1)] := hD
            subst hw_102
            refine lv_aload_n hx hb dX4_heldByHolders_25 rfl (lv_at hl 1 rfl) ?_
            have hPc := hP.sub (ws' := [(f, .inr (3, [.ref e1, .ref e2, .int 5, .int 0])), (e1, wI tC 0 z1)]) [1, 2] rfl
            have hDc := hD.sub (ws' := [(f, .inr (3, [.ref e1, .ref e2, .int 5, .int 0])), (e1, wI tC 0 z1)]) [1, 2] (by decide) rfl
            have hFc := va_free (wc := [(f, .inr (3, [.ref e1, .ref e2, .int 5, .int 0])), (e1, wI tC 0 z1)]) hD hS hA [1, 2] rfl
            refine va_calli (va_runVN (As := []) (rest := [.int 0]) ⟨hx, hb, hml, hown, hts⟩ (c_X2_length l hlt D tC dz H.size f e1 e2 z1 ) ⟨(va_cnB (host := "NoticeStations") 0 hts gX4_heldByHolders_X2_length_n107 rfl rfl rfl (hN.1 (.methodLinkNest "NoticeStations" 107 ⟨"NoticeStations$Standing", "length", "()I"⟩ "NoticeStations") (by decide +kernel)) w_0 (by decide +kernel) ⟨Nat.le_of_ble_eq_true rfl, Nat.le_of_ble_eq_true rfl⟩), w_1, w_2⟩ ⟨pB_blind, va_recv hK hPc (ci := 3) (q0 := 0) rfl rfl, pB_at hPc hDc hK hN hE hS hFc⟩ rfl rfl hl.1 rfl (lv_room (Nat.le_of_ble_eq_true rfl)) dX4_heldByHolders_26 ⟨Nat.le_of_ble_eq_true rfl, Nat.le_of_ble_eq_true rfl⟩) hS (fun q _ h => hFc q h) hFc (fun r_103 u t H1 locs ht hvm hw hB hz1 hk1 hS => ?_)
            obtain ⟨hP1, _, hD1⟩ := hB
            have hw_104 := hw
            rw [ht] at hP1
            obtain ⟨hP, hD⟩ := va_join (wr := [(a4, wS tC 5 gf)]) (w1 := [(f, .inr (3, [.ref e1, .ref e2, .int 5, .int 0])), (e1, wI tC 0 z1)]) hP hD [1, 2] [0] rfl rfl (by decide) (by decide) hk1 hFc hP1 hD1
            generalize H1 = H at hP hS ⊢
            have hP : va_P D vwCl [(a4, wS tC 5 gf), (f, .inr (3, [.ref e1, .ref e2, .int 5, .int 0])), (e1, wI tC 0 z1)] H := hP
            have hD : va_D A [(a4, wS tC 5 gf), (f, .inr (3, [.ref e1, .ref e2, .int 5, .int 0])), (e1, wI tC 0 z1)] := hD
            subst hw_104
            refine lv_icmp_le (tgt := 36) hx hb dX4_heldByHolders_29 (by decide) (fun _ => ?_) (fun hc => absurd (by decide) hc)
            refine lv_iinc (v := 5) (lv' := [(2, .int 5), (1, .ref f), (0, .ref a4)]) hx hb dX4_heldByHolders_36 hl (k := 0) rfl (by decide) (by decide) rfl (fun ls hl => ?_)
            refine lv_goto (tgt := 4) hx hb dX4_heldByHolders_39 (by decide) ?_
            refine lv_iload_n hx hb dX4_heldByHolders_4 rfl (lv_at hl 0 rfl) ?_
            refine lv_iconst (v := 5) hx hb dX4_heldByHolders_5 (by decide) ?_
            refine lv_icmp_ge (tgt := 42) hx hb dX4_heldByHolders_6 (by decide) (fun _ => ?_) (fun hc => absurd (by decide) hc)
            refine lv_aload_n hx hb dX4_heldByHolders_42 rfl (lv_at hl 1 rfl) ?_
            have hP9 := hP.sub (ws' := [(a4, wS tC 5 gf), (f, .inr (3, [.ref e1, .ref e2, .int 5, .int 0])), (e1, wI tC 0 z1)]) [0, 1, 2] rfl
            have hD9 := hD.sub (ws' := [(a4, wS tC 5 gf), (f, .inr (3, [.ref e1, .ref e2, .int 5, .int 0])), (e1, wI tC 0 z1)]) [0, 1, 2] (by decide) rfl
            refine W.widen (k := 0) (n := 0) (by omega) (by omega) ?_
            exact W.aret (v := .ref f) hx hb hr (Or.inl ⟨_, rfl⟩) (Or.inr ⟨_, rfl⟩) (fun t ht hW => ⟨⟨(some f), (), rfl, rfl, (by rw [ht]; exact hP9), va_K.moved hW.alike hK, hD9⟩, hS.F ht⟩) hS.2.2 dX4_heldByHolders_43 hlocks
set_option maxHeartbeats 4000000 in
set_option maxRecDepth 100000 in
theorem c_X4_mayGoOn (l : Launch) (hlt : l.stackTraces = false) (D : va_G) (tC : Nat → ClassId) (dz sz : Nat) (a4 : Nat) (gf : Nat → Option Nat) (bt : Nat → Bool) (f : Nat) (e1 : Nat) (e2 : Nat) (z1 : Nat → Int32) (hg : ∀ j : Nat, j < 5 → gf j = if bt j then some f else none) : Met l yX4_mayGoOn wsX4_mayGoOn ({ frames := 1, cells := 0, slots := 0, locals := 20 }) (va_Pc [.ref a4, .ref f] (pB D tC dz [(a4, wS tC 5 gf), (f, .inr (3, [.ref e1, .ref e2, .int 5, .int 0])), (e1, wI tC 0 z1)] sz)) (va_Qi (fun (r : Int32) (_ : Unit) => r = if mayg bt then 1 else 0) (fun (_ : Unit) t => pA D tC (va_A [(a4, wS tC 5 gf), (f, .inr (3, [.ref e1, .ref e2, .int 5, .int 0])), (e1, wI tC 0 z1)] sz) [(a4, wS tC 5 gf), (f, .inr (3, [.ref e1, .ref e2, .int 5, .int 0])), (e1, wI tC 0 z1)] t) (va_A [(a4, wS tC 5 gf), (f, .inr (3, [.ref e1, .ref e2, .int 5, .int 0])), (e1, wI tC 0 z1)] sz)) 0 0 (va_A [(a4, wS tC 5 gf), (f, .inr (3, [.ref e1, .ref e2, .int 5, .int 0])), (e1, wI tC 0 z1)] sz) := by
  refine Met.ofW (cc := cX4_mayGoOn) (maxL := 5) (ret := (some .boolean)) (by decide) rfl ?_
  intro p e s m args below meth c s₁ B hml hv
  obtain ⟨rfl, hsz, hP, hK, hD0, hN, hE⟩ := hv
  have hx := B.exec
  have hb := B.bytes
  have hr := B.returns
  have hts := atoms_spec (ws := wsX4_mayGoOn) B.pre
  have hown : s.vm.findClass RX4 = some m.cls := findClass_of_methodNamed B.named
  have hlocks := B.notSynchronized
  subst hsz
  have hD := hD0.self (sz := s.heap.size)
  generalize hAe : va_A [(a4, wS tC 5 gf), (f, .inr (3, [.ref e1, .ref e2, .int 5, .int 0])), (e1, wI tC 0 z1)] s.heap.size = A at hD hE ⊢
  have hA : ∀ q : Nat, s.heap.size ≤ q → A q := fun q h => by rw [← hAe]; exact Or.inr h
  have hS : va_S A s.heap s.heap [] := va_S.rf
  have hP : va_P D vwCl [(a4, wS tC 5 gf), (f, .inr (3, [.ref e1, .ref e2, .int 5, .int 0])), (e1, wI tC 0 z1)] s.heap := hP
  have hl := lv_entry ([.ref a4, .ref f]) (n := 5) (Nat.le_of_ble_eq_true rfl)
  rw [lg_entry_eq]
  generalize (lg_sl ([.ref a4, .ref f]) ++ List.replicate (5 - (lg_sl ([.ref a4, .ref f])).length) Slot.unset).toArray = ls at hl ⊢
  have hl : lv_has ls 5 [(0, .ref a4), (1, .ref f)] := hl
  have w_0 := hts (.initialized RX2) (by decide +kernel)
  have w_1 := hts (.instanceMethod yX2_length) (by decide +kernel)
  have w_2 := hts (.selects RX2 yX2_length yX2_length) (by decide +kernel)
  refine lv_iconst (v := 0) hx hb dX4_mayGoOn_0 (by decide) ?_
  refine lv_istore_n (lv' := [(2, .int 0), (0, .ref a4), (1, .ref f)]) hx hb dX4_mayGoOn_1 rfl hl (by decide) rfl (fun ls hl => ?_)
  refine lv_iconst (v := 0) hx hb dX4_mayGoOn_2 (by decide) ?_
  refine lv_istore_n (lv' := [(3, .int 0), (2, .int 0), (0, .ref a4), (1, .ref f)]) hx hb dX4_mayGoOn_3 rfl hl (by decide) rfl (fun ls hl => ?_)
  refine lv_iconst (v := 0) hx hb dX4_mayGoOn_4 (by decide) ?_
  refine lv_istore (lv' := [(4, .int 0), (3, .int 0), (2, .int 0), (0, .ref a4), (1, .ref f)]) hx hb dX4_mayGoOn_5 hl (by decide) rfl (fun ls hl => ?_)
  cases hb0 : bt 0
  · skip
    refine lv_iload hx hb dX4_mayGoOn_7 (lv_at hl 0 rfl) ?_
    refine lv_iconst (v := 5) hx hb dX4_mayGoOn_9 (by decide) ?_
    refine lv_icmp_ge (tgt := 62) hx hb dX4_mayGoOn_10 (by decide) (fun hc => absurd hc (by decide)) (fun _ => ?_)
    refine lv_aload_n hx hb dX4_mayGoOn_13 rfl (lv_at hl 3 rfl) ?_
    refine lv_iload hx hb dX4_mayGoOn_14 (lv_at hl 0 rfl) ?_
    refine va_aldq hx hb hK hP 0 2 rfl rfl (by unfold vp_in; decide) dX4_mayGoOn_16 ?_
    rw [show gf (0 : Int32).toNatClampNeg = none from (by rw [show (0 : Int32).toNatClampNeg = 0 by decide, hg 0 (by decide), hb0]; rfl)]
    refine W.eq (g2 := F0 m 17 ls [.null]) rfl ?_
    refine lv_ifnullN (tgt := 56) hx hb dX4_mayGoOn_17 (by decide) ?_
    refine lv_iinc (v := 1) (lv' := [(4, .int 1), (3, .int 0), (2, .int 0), (0, .ref a4), (1, .ref f)]) hx hb dX4_mayGoOn_56 hl (k := 0) rfl (by decide) (by decide) rfl (fun ls hl => ?_)
    refine lv_goto (tgt := 7) hx hb dX4_mayGoOn_59 (by decide) ?_
    cases hb1 : bt 1
    · skip
      refine lv_iload hx hb dX4_mayGoOn_7 (lv_at hl 0 rfl) ?_
      refine lv_iconst (v := 5) hx hb dX4_mayGoOn_9 (by decide) ?_
      refine lv_icmp_ge (tgt := 62) hx hb dX4_mayGoOn_10 (by decide) (fun hc => absurd hc (by decide)) (fun _ => ?_)
      refine lv_aload_n hx hb dX4_mayGoOn_13 rfl (lv_at hl 3 rfl) ?_
      refine lv_iload hx hb dX4_mayGoOn_14 (lv_at hl 0 rfl) ?_
      refine va_aldq hx hb hK hP 0 2 rfl rfl (by unfold vp_in; decide) dX4_mayGoOn_16 ?_
      rw [show gf (1 : Int32).toNatClampNeg = none from (by rw [show (1 : Int32).toNatClampNeg = 1 by decide, hg 1 (by decide), hb1]; rfl)]
      refine W.eq (g2 := F0 m 17 ls [.null]) rfl ?_
      refine lv_ifnullN (tgt := 56) hx hb dX4_mayGoOn_17 (by decide) ?_
      refine lv_iinc (v := 2) (lv' := [(4, .int 2), (3, .int 0), (2, .int 0), (0, .ref a4), (1, .ref f)]) hx hb dX4_mayGoOn_56 hl (k := 0) rfl (by decide) (by decide) rfl (fun ls hl => ?_)
      refine lv_goto (tgt := 7) hx hb dX4_mayGoOn_59 (by decide) ?_
      cases hb2 : bt 2
      · skip
        refine lv_iload hx hb dX4_mayGoOn_7 (lv_at hl 0 rfl) ?_
        refine lv_iconst (v := 5) hx hb dX4_mayGoOn_9 (by decide) ?_
        refine lv_icmp_ge (tgt := 62) hx hb dX4_mayGoOn_10 (by decide) (fun hc => absurd hc (by decide)) (fun _ => ?_)
        refine lv_aload_n hx hb dX4_mayGoOn_13 rfl (lv_at hl 3 rfl) ?_
        refine lv_iload hx hb dX4_mayGoOn_14 (lv_at hl 0 rfl) ?_
        refine va_aldq hx hb hK hP 0 2 rfl rfl (by unfold vp_in; decide) dX4_mayGoOn_16 ?_
        rw [show gf (2 : Int32).toNatClampNeg = none from (by rw [show (2 : Int32).toNatClampNeg = 2 by decide, hg 2 (by decide), hb2]; rfl)]
        refine W.eq (g2 := F0 m 17 ls [.null]) rfl ?_
        refine lv_ifnullN (tgt := 56) hx hb dX4_mayGoOn_17 (by decide) ?_
        refine lv_iinc (v := 3) (lv' := [(4, .int 3), (3, .int 0), (2, .int 0), (0, .ref a4), (1, .ref f)]) hx hb dX4_mayGoOn_56 hl (k := 0) rfl (by decide) (by decide) rfl (fun ls hl => ?_)
        refine lv_goto (tgt := 7) hx hb dX4_mayGoOn_59 (by decide) ?_
        cases hb3 : bt 3
        · skip
          refine lv_iload hx hb dX4_mayGoOn_7 (lv_at hl 0 rfl) ?_
          refine lv_iconst (v := 5) hx hb dX4_mayGoOn_9 (by decide) ?_
          refine lv_icmp_ge (tgt := 62) hx hb dX4_mayGoOn_10 (by decide) (fun hc => absurd hc (by decide)) (fun _ => ?_)
          refine lv_aload_n hx hb dX4_mayGoOn_13 rfl (lv_at hl 3 rfl) ?_
          refine lv_iload hx hb dX4_mayGoOn_14 (lv_at hl 0 rfl) ?_
          refine va_aldq hx hb hK hP 0 2 rfl rfl (by unfold vp_in; decide) dX4_mayGoOn_16 ?_
          rw [show gf (3 : Int32).toNatClampNeg = none from (by rw [show (3 : Int32).toNatClampNeg = 3 by decide, hg 3 (by decide), hb3]; rfl)]
          refine W.eq (g2 := F0 m 17 ls [.null]) rfl ?_
          refine lv_ifnullN (tgt := 56) hx hb dX4_mayGoOn_17 (by decide) ?_
          refine lv_iinc (v := 4) (lv' := [(4, .int 4), (3, .int 0), (2, .int 0), (0, .ref a4), (1, .ref f)]) hx hb dX4_mayGoOn_56 hl (k := 0) rfl (by decide) (by decide) rfl (fun ls hl => ?_)
          refine lv_goto (tgt := 7) hx hb dX4_mayGoOn_59 (by decide) ?_
          cases hb4 : bt 4
          · skip
            refine lv_iload hx hb dX4_mayGoOn_7 (lv_at hl 0 rfl) ?_
            refine lv_iconst (v := 5) hx hb dX4_mayGoOn_9 (by decide) ?_
            refine lv_icmp_ge (tgt := 62) hx hb dX4_mayGoOn_10 (by decide) (fun hc => absurd hc (by decide)) (fun _ => ?_)
            refine lv_aload_n hx hb dX4_mayGoOn_13 rfl (lv_at hl 3 rfl) ?_
            refine lv_iload hx hb dX4_mayGoOn_14 (lv_at hl 0 rfl) ?_
            refine va_aldq hx hb hK hP 0 2 rfl rfl (by unfold vp_in; decide) dX4_mayGoOn_16 ?_
            rw [show gf (4 : Int32).toNatClampNeg = none from (by rw [show (4 : Int32).toNatClampNeg = 4 by decide, hg 4 (by decide), hb4]; rfl)]
            refine W.eq (g2 := F0 m 17 ls [.null]) rfl ?_
            refine lv_ifnullN (tgt := 56) hx hb dX4_mayGoOn_17 (by decide) ?_
            refine lv_iinc (v := 5) (lv' := [(4, .int 5), (3, .int 0), (2, .int 0), (0, .ref a4), (1, .ref f)]) hx hb dX4_mayGoOn_56 hl (k := 0) rfl (by decide) (by decide) rfl (fun ls hl => ?_)
            refine lv_goto (tgt := 7) hx hb dX4_mayGoOn_59 (by decide) ?_
            refine lv_iload hx hb dX4_mayGoOn_7 (lv_at hl 0 rfl) ?_
            refine lv_iconst (v := 5) hx hb dX4_mayGoOn_9 (by decide) ?_
            refine lv_icmp_ge (tgt := 62) hx hb dX4_mayGoOn_10 (by decide) (fun _ => ?_) (fun hc => absurd (by decide) hc)
            refine lv_iconst (v := 2) hx hb dX4_mayGoOn_62 (by decide) ?_
            refine lv_iload_n hx hb dX4_mayGoOn_63 rfl (lv_at hl 2 rfl) ?_
            refine lv_imul hx hb dX4_mayGoOn_64 ?_
            refine lv_topi (fun z_1 ez_1 => ?_)
            have fz_1 : z_1 = 0 := ez_1.trans (by decide)
            subst fz_1
            refine lv_aload_n hx hb dX4_mayGoOn_65 rfl (lv_at hl 4 rfl) ?_
            refine va_getN (host := "NoticeStations") (D := D) (ci := 3) (v := .int 5) (C := RX2) (T := TX2) (N := 4) hx hb hts in_X4_mayGoOn_X2 hown hK hP 1 rfl rfl 2 (by decide) (va_Nw.use rfl (hN.1 (.fieldLinkNest "NoticeStations" 228 "NoticeStations$Standing" "size" "I" "NoticeStations") (by decide +kernel))) (fun _ h9 => h9) rfl dX4_mayGoOn_66 ?_
            refine lv_icmp_gt (tgt := 86) hx hb dX4_mayGoOn_69 (by decide) (fun hc => absurd hc (by decide)) (fun _ => ?_)
            refine lv_iconst (v := 2) hx hb dX4_mayGoOn_72 (by decide) ?_
            refine lv_iload_n hx hb dX4_mayGoOn_73 rfl (lv_at hl 2 rfl) ?_
            refine lv_imul hx hb dX4_mayGoOn_74 ?_
            refine lv_topi (fun z_2 ez_2 => ?_)
            have fz_2 : z_2 = 0 := ez_2.trans (by decide)
            subst fz_2
            refine lv_aload_n hx hb dX4_mayGoOn_75 rfl (lv_at hl 4 rfl) ?_
            refine va_getN (host := "NoticeStations") (D := D) (ci := 3) (v := .int 5) (C := RX2) (T := TX2) (N := 4) hx hb hts in_X4_mayGoOn_X2 hown hK hP 1 rfl rfl 2 (by decide) (va_Nw.use rfl (hN.1 (.fieldLinkNest "NoticeStations" 228 "NoticeStations$Standing" "size" "I" "NoticeStations") (by decide +kernel))) (fun _ h9 => h9) rfl dX4_mayGoOn_76 ?_
            refine lv_icmp_ne (tgt := 90) hx hb dX4_mayGoOn_79 (by decide) (fun _ => ?_) (fun hc => absurd hc (by decide))
            refine lv_iconst (v := 0) hx hb dX4_mayGoOn_90 (by decide) ?_
            have hP9 := hP.sub (ws' := [(a4, wS tC 5 gf), (f, .inr (3, [.ref e1, .ref e2, .int 5, .int 0])), (e1, wI tC 0 z1)]) [0, 1, 2] rfl
            have hD9 := hD.sub (ws' := [(a4, wS tC 5 gf), (f, .inr (3, [.ref e1, .ref e2, .int 5, .int 0])), (e1, wI tC 0 z1)]) [0, 1, 2] (by decide) rfl
            refine W.widen (k := 0) (n := 0) (by omega) (by omega) ?_
            exact W.zret (v := 0) hx hb hr (by decide) (fun t ht hW => ⟨⟨0, (), rfl, (by unfold mayg cntb; rw [hb0, hb1, hb2, hb3, hb4] <;> decide), (by rw [ht]; exact hP9), va_K.moved hW.alike hK, hD9⟩, hS.F ht⟩) hS.2.2 dX4_mayGoOn_91 hlocks
          · skip
            refine lv_iload hx hb dX4_mayGoOn_7 (lv_at hl 0 rfl) ?_
            refine lv_iconst (v := 5) hx hb dX4_mayGoOn_9 (by decide) ?_
            refine lv_icmp_ge (tgt := 62) hx hb dX4_mayGoOn_10 (by decide) (fun hc => absurd hc (by decide)) (fun _ => ?_)
            refine lv_aload_n hx hb dX4_mayGoOn_13 rfl (lv_at hl 3 rfl) ?_
            refine lv_iload hx hb dX4_mayGoOn_14 (lv_at hl 0 rfl) ?_
            refine va_aldq hx hb hK hP 0 2 rfl rfl (by unfold vp_in; decide) dX4_mayGoOn_16 ?_
            rw [show gf (4 : Int32).toNatClampNeg = some f from (by rw [show (4 : Int32).toNatClampNeg = 4 by decide, hg 4 (by decide), hb4]; rfl)]
            refine W.eq (g2 := F0 m 17 ls [.ref f]) rfl ?_
            refine lv_ifnull hx hb dX4_mayGoOn_17 ?_
            refine lv_aload_n hx hb dX4_mayGoOn_20 rfl (lv_at hl 3 rfl) ?_
            refine lv_iload hx hb dX4_mayGoOn_21 (lv_at hl 0 rfl) ?_
            refine va_aldq hx hb hK hP 0 2 rfl rfl (by unfold vp_in; decide) dX4_mayGoOn_23 ?_
            rw [show gf (4 : Int32).toNatClampNeg = some f from (by rw [show (4 : Int32).toNatClampNeg = 4 by decide, hg 4 (by decide), hb4]; rfl)]
            refine W.eq (g2 := F0 m 24 ls [.ref f]) rfl ?_
            have hPc := hP.sub (ws' := [(f, .inr (3, [.ref e1, .ref e2, .int 5, .int 0])), (e1, wI tC 0 z1)]) [1, 2] rfl
            have hDc := hD.sub (ws' := [(f, .inr (3, [.ref e1, .ref e2, .int 5, .int 0])), (e1, wI tC 0 z1)]) [1, 2] (by decide) rfl
            have hFc := va_free (wc := [(f, .inr (3, [.ref e1, .ref e2, .int 5, .int 0])), (e1, wI tC 0 z1)]) hD hS hA [1, 2] rfl
            refine va_calli (va_runVN (As := []) (rest := []) ⟨hx, hb, hml, hown, hts⟩ (c_X2_length l hlt D tC dz s.heap.size f e1 e2 z1 ) ⟨(va_cnB (host := "NoticeStations") 0 hts gX4_mayGoOn_X2_length_n107 rfl rfl rfl (hN.1 (.methodLinkNest "NoticeStations" 107 ⟨"NoticeStations$Standing", "length", "()I"⟩ "NoticeStations") (by decide +kernel)) w_0 (by decide +kernel) ⟨Nat.le_of_ble_eq_true rfl, Nat.le_of_ble_eq_true rfl⟩), w_1, w_2⟩ ⟨pB_blind, va_recv hK hPc (ci := 3) (q0 := 0) rfl rfl, pB_at hPc hDc hK hN hE hS hFc⟩ rfl rfl hl.1 rfl (lv_room (Nat.le_of_ble_eq_true rfl)) dX4_mayGoOn_24 ⟨Nat.le_of_ble_eq_true rfl, Nat.le_of_ble_eq_true rfl⟩) hS (fun q _ h => hFc q h) hFc (fun r_3 u t H1 locs ht hvm hw hB hz1 hk1 hS => ?_)
            obtain ⟨hP1, _, hD1⟩ := hB
            have hw_4 := hw
            rw [ht] at hP1
            obtain ⟨hP, hD⟩ := va_join (wr := [(a4, wS tC 5 gf)]) (w1 := [(f, .inr (3, [.ref e1, .ref e2, .int 5, .int 0])), (e1, wI tC 0 z1)]) hP hD [1, 2] [0] rfl rfl (by decide) (by decide) hk1 hFc hP1 hD1
            generalize H1 = H at hP hS ⊢
            have hP : va_P D vwCl [(a4, wS tC 5 gf), (f, .inr (3, [.ref e1, .ref e2, .int 5, .int 0])), (e1, wI tC 0 z1)] H := hP
            have hD : va_D A [(a4, wS tC 5 gf), (f, .inr (3, [.ref e1, .ref e2, .int 5, .int 0])), (e1, wI tC 0 z1)] := hD
            subst hw_4
            refine lv_aload_n hx hb dX4_mayGoOn_27 rfl (lv_at hl 4 rfl) ?_
            have hPc := hP.sub (ws' := [(f, .inr (3, [.ref e1, .ref e2, .int 5, .int 0])), (e1, wI tC 0 z1)]) [1, 2] rfl
            have hDc := hD.sub (ws' := [(f, .inr (3, [.ref e1, .ref e2, .int 5, .int 0])), (e1, wI tC 0 z1)]) [1, 2] (by decide) rfl
            have hFc := va_free (wc := [(f, .inr (3, [.ref e1, .ref e2, .int 5, .int 0])), (e1, wI tC 0 z1)]) hD hS hA [1, 2] rfl
            refine va_calli (va_runVN (As := []) (rest := [.int 0]) ⟨hx, hb, hml, hown, hts⟩ (c_X2_length l hlt D tC dz H.size f e1 e2 z1 ) ⟨(va_cnB (host := "NoticeStations") 0 hts gX4_mayGoOn_X2_length_n107 rfl rfl rfl (hN.1 (.methodLinkNest "NoticeStations" 107 ⟨"NoticeStations$Standing", "length", "()I"⟩ "NoticeStations") (by decide +kernel)) w_0 (by decide +kernel) ⟨Nat.le_of_ble_eq_true rfl, Nat.le_of_ble_eq_true rfl⟩), w_1, w_2⟩ ⟨pB_blind, va_recv hK hPc (ci := 3) (q0 := 0) rfl rfl, pB_at hPc hDc hK hN hE hS hFc⟩ rfl rfl hl.1 rfl (lv_room (Nat.le_of_ble_eq_true rfl)) dX4_mayGoOn_28 ⟨Nat.le_of_ble_eq_true rfl, Nat.le_of_ble_eq_true rfl⟩) hS (fun q _ h => hFc q h) hFc (fun r_5 u t H1 locs ht hvm hw hB hz1 hk1 hS => ?_)
            obtain ⟨hP1, _, hD1⟩ := hB
            have hw_6 := hw
            rw [ht] at hP1
            obtain ⟨hP, hD⟩ := va_join (wr := [(a4, wS tC 5 gf)]) (w1 := [(f, .inr (3, [.ref e1, .ref e2, .int 5, .int 0])), (e1, wI tC 0 z1)]) hP hD [1, 2] [0] rfl rfl (by decide) (by decide) hk1 hFc hP1 hD1
            generalize H1 = H at hP hS ⊢
            have hP : va_P D vwCl [(a4, wS tC 5 gf), (f, .inr (3, [.ref e1, .ref e2, .int 5, .int 0])), (e1, wI tC 0 z1)] H := hP
            have hD : va_D A [(a4, wS tC 5 gf), (f, .inr (3, [.ref e1, .ref e2, .int 5, .int 0])), (e1, wI tC 0 z1)] := hD
            subst hw_6
            refine lv_icmp_ne (tgt := 56) hx hb dX4_mayGoOn_31 (by decide) (fun hc => absurd (by decide) hc) (fun _ => ?_)
            refine lv_iinc (v := 1) (lv' := [(2, .int 1), (4, .int 4), (3, .int 0), (0, .ref a4), (1, .ref f)]) hx hb dX4_mayGoOn_34 hl (k := 2) rfl (by decide) (by decide) rfl (fun ls hl => ?_)
            refine lv_iload_n hx hb dX4_mayGoOn_37 rfl (lv_at hl 2 rfl) ?_
            refine lv_if_ne (tgt := 50) hx hb dX4_mayGoOn_38 (by decide) (fun hc => absurd (by decide) hc) (fun _ => ?_)
            refine lv_iload hx hb dX4_mayGoOn_41 (lv_at hl 1 rfl) ?_
            refine lv_aload_n hx hb dX4_mayGoOn_43 rfl (lv_at hl 4 rfl) ?_
            refine va_getN (host := "NoticeStations") (D := D) (ci := 3) (v := .int 0) (C := RX2) (T := TX2) (N := 4) hx hb hts in_X4_mayGoOn_X2 hown hK hP 1 rfl rfl 3 (by decide) (va_Nw.use rfl (hN.1 (.fieldLinkNest "NoticeStations" 230 "NoticeStations$Standing" "named" "I" "NoticeStations") (by decide +kernel))) (fun _ h9 => h9) rfl dX4_mayGoOn_44 ?_
            refine lv_icmp_ne (tgt := 54) hx hb dX4_mayGoOn_47 (by decide) (fun _ => ?_) (fun hc => absurd hc (by decide))
            refine lv_iconst (v := 0) hx hb dX4_mayGoOn_54 (by decide) ?_
            refine lv_istore_n (lv' := [(3, .int 0), (2, .int 1), (4, .int 4), (0, .ref a4), (1, .ref f)]) hx hb dX4_mayGoOn_55 rfl hl (by decide) rfl (fun ls hl => ?_)
            refine lv_iinc (v := 5) (lv' := [(4, .int 5), (3, .int 0), (2, .int 1), (0, .ref a4), (1, .ref f)]) hx hb dX4_mayGoOn_56 hl (k := 2) rfl (by decide) (by decide) rfl (fun ls hl => ?_)
            refine lv_goto (tgt := 7) hx hb dX4_mayGoOn_59 (by decide) ?_
            refine lv_iload hx hb dX4_mayGoOn_7 (lv_at hl 0 rfl) ?_
            refine lv_iconst (v := 5) hx hb dX4_mayGoOn_9 (by decide) ?_
            refine lv_icmp_ge (tgt := 62) hx hb dX4_mayGoOn_10 (by decide) (fun _ => ?_) (fun hc => absurd (by decide) hc)
            refine lv_iconst (v := 2) hx hb dX4_mayGoOn_62 (by decide) ?_
            refine lv_iload_n hx hb dX4_mayGoOn_63 rfl (lv_at hl 2 rfl) ?_
            refine lv_imul hx hb dX4_mayGoOn_64 ?_
            refine lv_topi (fun z_7 ez_7 => ?_)
            have fz_7 : z_7 = 2 := ez_7.trans (by decide)
            subst fz_7
            refine lv_aload_n hx hb dX4_mayGoOn_65 rfl (lv_at hl 4 rfl) ?_
            refine va_getN (host := "NoticeStations") (D := D) (ci := 3) (v := .int 5) (C := RX2) (T := TX2) (N := 4) hx hb hts in_X4_mayGoOn_X2 hown hK hP 1 rfl rfl 2 (by decide) (va_Nw.use rfl (hN.1 (.fieldLinkNest "NoticeStations" 228 "NoticeStations$Standing" "size" "I" "NoticeStations") (by decide +kernel))) (fun _ h9 => h9) rfl dX4_mayGoOn_66 ?_
            refine lv_icmp_gt (tgt := 86) hx hb dX4_mayGoOn_69 (by decide) (fun hc => absurd hc (by decide)) (fun _ => ?_)
            refine lv_iconst (v := 2) hx hb dX4_mayGoOn_72 (by decide) ?_
            refine lv_iload_n hx hb dX4_mayGoOn_73 rfl (lv_at hl 2 rfl) ?_
            refine lv_imul hx hb dX4_mayGoOn_74 ?_
            refine lv_topi (fun z_8 ez_8 => ?_)
            have fz_8 : z_8 = 2 := ez_8.trans (by decide)
            subst fz_8
            refine lv_aload_n hx hb dX4_mayGoOn_75 rfl (lv_at hl 4 rfl) ?_
            refine va_getN (host := "NoticeStations") (D := D) (ci := 3) (v := .int 5) (C := RX2) (T := TX2) (N := 4) hx hb hts in_X4_mayGoOn_X2 hown hK hP 1 rfl rfl 2 (by decide) (va_Nw.use rfl (hN.1 (.fieldLinkNest "NoticeStations" 228 "NoticeStations$Standing" "size" "I" "NoticeStations") (by decide +kernel))) (fun _ h9 => h9) rfl dX4_mayGoOn_76 ?_
            refine lv_icmp_ne (tgt := 90) hx hb dX4_mayGoOn_79 (by decide) (fun _ => ?_) (fun hc => absurd hc (by decide))
            refine lv_iconst (v := 0) hx hb dX4_mayGoOn_90 (by decide) ?_
            have hP9 := hP.sub (ws' := [(a4, wS tC 5 gf), (f, .inr (3, [.ref e1, .ref e2, .int 5, .int 0])), (e1, wI tC 0 z1)]) [0, 1, 2] rfl
            have hD9 := hD.sub (ws' := [(a4, wS tC 5 gf), (f, .inr (3, [.ref e1, .ref e2, .int 5, .int 0])), (e1, wI tC 0 z1)]) [0, 1, 2] (by decide) rfl
            refine W.widen (k := 0) (n := 0) (by omega) (by omega) ?_
            exact W.zret (v := 0) hx hb hr (by decide) (fun t ht hW => ⟨⟨0, (), rfl, (by unfold mayg cntb; rw [hb0, hb1, hb2, hb3, hb4] <;> decide), (by rw [ht]; exact hP9), va_K.moved hW.alike hK, hD9⟩, hS.F ht⟩) hS.2.2 dX4_mayGoOn_91 hlocks
        · skip
          refine lv_iload hx hb dX4_mayGoOn_7 (lv_at hl 0 rfl) ?_
          refine lv_iconst (v := 5) hx hb dX4_mayGoOn_9 (by decide) ?_
          refine lv_icmp_ge (tgt := 62) hx hb dX4_mayGoOn_10 (by decide) (fun hc => absurd hc (by decide)) (fun _ => ?_)
          refine lv_aload_n hx hb dX4_mayGoOn_13 rfl (lv_at hl 3 rfl) ?_
          refine lv_iload hx hb dX4_mayGoOn_14 (lv_at hl 0 rfl) ?_
          refine va_aldq hx hb hK hP 0 2 rfl rfl (by unfold vp_in; decide) dX4_mayGoOn_16 ?_
          rw [show gf (3 : Int32).toNatClampNeg = some f from (by rw [show (3 : Int32).toNatClampNeg = 3 by decide, hg 3 (by decide), hb3]; rfl)]
          refine W.eq (g2 := F0 m 17 ls [.ref f]) rfl ?_
          refine lv_ifnull hx hb dX4_mayGoOn_17 ?_
          refine lv_aload_n hx hb dX4_mayGoOn_20 rfl (lv_at hl 3 rfl) ?_
          refine lv_iload hx hb dX4_mayGoOn_21 (lv_at hl 0 rfl) ?_
          refine va_aldq hx hb hK hP 0 2 rfl rfl (by unfold vp_in; decide) dX4_mayGoOn_23 ?_
          rw [show gf (3 : Int32).toNatClampNeg = some f from (by rw [show (3 : Int32).toNatClampNeg = 3 by decide, hg 3 (by decide), hb3]; rfl)]
          refine W.eq (g2 := F0 m 24 ls [.ref f]) rfl ?_
          have hPc := hP.sub (ws' := [(f, .inr (3, [.ref e1, .ref e2, .int 5, .int 0])), (e1, wI tC 0 z1)]) [1, 2] rfl
          have hDc := hD.sub (ws' := [(f, .inr (3, [.ref e1, .ref e2, .int 5, .int 0])), (e1, wI tC 0 z1)]) [1, 2] (by decide) rfl
          have hFc := va_free (wc := [(f, .inr (3, [.ref e1, .ref e2, .int 5, .int 0])), (e1, wI tC 0 z1)]) hD hS hA [1, 2] rfl
          refine va_calli (va_runVN (As := []) (rest := []) ⟨hx, hb, hml, hown, hts⟩ (c_X2_length l hlt D tC dz s.heap.size f e1 e2 z1 ) ⟨(va_cnB (host := "NoticeStations") 0 hts gX4_mayGoOn_X2_length_n107 rfl rfl rfl (hN.1 (.methodLinkNest "NoticeStations" 107 ⟨"NoticeStations$Standing", "length", "()I"⟩ "NoticeStations") (by decide +kernel)) w_0 (by decide +kernel) ⟨Nat.le_of_ble_eq_true rfl, Nat.le_of_ble_eq_true rfl⟩), w_1, w_2⟩ ⟨pB_blind, va_recv hK hPc (ci := 3) (q0 := 0) rfl rfl, pB_at hPc hDc hK hN hE hS hFc⟩ rfl rfl hl.1 rfl (lv_room (Nat.le_of_ble_eq_true rfl)) dX4_mayGoOn_24 ⟨Nat.le_of_ble_eq_true rfl, Nat.le_of_ble_eq_true rfl⟩) hS (fun q _ h => hFc q h) hFc (fun r_9 u t H1 locs ht hvm hw hB hz1 hk1 hS => ?_)
          obtain ⟨hP1, _, hD1⟩ := hB
          have hw_10 := hw
          rw [ht] at hP1
          obtain ⟨hP, hD⟩ := va_join (wr := [(a4, wS tC 5 gf)]) (w1 := [(f, .inr (3, [.ref e1, .ref e2, .int 5, .int 0])), (e1, wI tC 0 z1)]) hP hD [1, 2] [0] rfl rfl (by decide) (by decide) hk1 hFc hP1 hD1
          generalize H1 = H at hP hS ⊢
          have hP : va_P D vwCl [(a4, wS tC 5 gf), (f, .inr (3, [.ref e1, .ref e2, .int 5, .int 0])), (e1, wI tC 0 z1)] H := hP
          have hD : va_D A [(a4, wS tC 5 gf), (f, .inr (3, [.ref e1, .ref e2, .int 5, .int 0])), (e1, wI tC 0 z1)] := hD
          subst hw_10
          refine lv_aload_n hx hb dX4_mayGoOn_27 rfl (lv_at hl 4 rfl) ?_
          have hPc := hP.sub (ws' := [(f, .inr (3, [.ref e1, .ref e2, .int 5, .int 0])), (e1, wI tC 0 z1)]) [1, 2] rfl
          have hDc := hD.sub (ws' := [(f, .inr (3, [.ref e1, .ref e2, .int 5, .int 0])), (e1, wI tC 0 z1)]) [1, 2] (by decide) rfl
          have hFc := va_free (wc := [(f, .inr (3, [.ref e1, .ref e2, .int 5, .int 0])), (e1, wI tC 0 z1)]) hD hS hA [1, 2] rfl
          refine va_calli (va_runVN (As := []) (rest := [.int 0]) ⟨hx, hb, hml, hown, hts⟩ (c_X2_length l hlt D tC dz H.size f e1 e2 z1 ) ⟨(va_cnB (host := "NoticeStations") 0 hts gX4_mayGoOn_X2_length_n107 rfl rfl rfl (hN.1 (.methodLinkNest "NoticeStations" 107 ⟨"NoticeStations$Standing", "length", "()I"⟩ "NoticeStations") (by decide +kernel)) w_0 (by decide +kernel) ⟨Nat.le_of_ble_eq_true rfl, Nat.le_of_ble_eq_true rfl⟩), w_1, w_2⟩ ⟨pB_blind, va_recv hK hPc (ci := 3) (q0 := 0) rfl rfl, pB_at hPc hDc hK hN hE hS hFc⟩ rfl rfl hl.1 rfl (lv_room (Nat.le_of_ble_eq_true rfl)) dX4_mayGoOn_28 ⟨Nat.le_of_ble_eq_true rfl, Nat.le_of_ble_eq_true rfl⟩) hS (fun q _ h => hFc q h) hFc (fun r_11 u t H1 locs ht hvm hw hB hz1 hk1 hS => ?_)
          obtain ⟨hP1, _, hD1⟩ := hB
          have hw_12 := hw
          rw [ht] at hP1
          obtain ⟨hP, hD⟩ := va_join (wr := [(a4, wS tC 5 gf)]) (w1 := [(f, .inr (3, [.ref e1, .ref e2, .int 5, .int 0])), (e1, wI tC 0 z1)]) hP hD [1, 2] [0] rfl rfl (by decide) (by decide) hk1 hFc hP1 hD1
          generalize H1 = H at hP hS ⊢
          have hP : va_P D vwCl [(a4, wS tC 5 gf), (f, .inr (3, [.ref e1, .ref e2, .int 5, .int 0])), (e1, wI tC 0 z1)] H := hP
          have hD : va_D A [(a4, wS tC 5 gf), (f, .inr (3, [.ref e1, .ref e2, .int 5, .int 0])), (e1, wI tC 0 z1)] := hD
          subst hw_12
          refine lv_icmp_ne (tgt := 56) hx hb dX4_mayGoOn_31 (by decide) (fun hc => absurd (by decide) hc) (fun _ => ?_)
          refine lv_iinc (v := 1) (lv' := [(2, .int 1), (4, .int 3), (3, .int 0), (0, .ref a4), (1, .ref f)]) hx hb dX4_mayGoOn_34 hl (k := 2) rfl (by decide) (by decide) rfl (fun ls hl => ?_)
          refine lv_iload_n hx hb dX4_mayGoOn_37 rfl (lv_at hl 2 rfl) ?_
          refine lv_if_ne (tgt := 50) hx hb dX4_mayGoOn_38 (by decide) (fun hc => absurd (by decide) hc) (fun _ => ?_)
          refine lv_iload hx hb dX4_mayGoOn_41 (lv_at hl 1 rfl) ?_
          refine lv_aload_n hx hb dX4_mayGoOn_43 rfl (lv_at hl 4 rfl) ?_
          refine va_getN (host := "NoticeStations") (D := D) (ci := 3) (v := .int 0) (C := RX2) (T := TX2) (N := 4) hx hb hts in_X4_mayGoOn_X2 hown hK hP 1 rfl rfl 3 (by decide) (va_Nw.use rfl (hN.1 (.fieldLinkNest "NoticeStations" 230 "NoticeStations$Standing" "named" "I" "NoticeStations") (by decide +kernel))) (fun _ h9 => h9) rfl dX4_mayGoOn_44 ?_
          refine lv_icmp_ne (tgt := 54) hx hb dX4_mayGoOn_47 (by decide) (fun _ => ?_) (fun hc => absurd hc (by decide))
          refine lv_iconst (v := 0) hx hb dX4_mayGoOn_54 (by decide) ?_
          refine lv_istore_n (lv' := [(3, .int 0), (2, .int 1), (4, .int 3), (0, .ref a4), (1, .ref f)]) hx hb dX4_mayGoOn_55 rfl hl (by decide) rfl (fun ls hl => ?_)
          refine lv_iinc (v := 4) (lv' := [(4, .int 4), (3, .int 0), (2, .int 1), (0, .ref a4), (1, .ref f)]) hx hb dX4_mayGoOn_56 hl (k := 2) rfl (by decide) (by decide) rfl (fun ls hl => ?_)
          refine lv_goto (tgt := 7) hx hb dX4_mayGoOn_59 (by decide) ?_
          cases hb4 : bt 4
          · skip
            refine lv_iload hx hb dX4_mayGoOn_7 (lv_at hl 0 rfl) ?_
            refine lv_iconst (v := 5) hx hb dX4_mayGoOn_9 (by decide) ?_
            refine lv_icmp_ge (tgt := 62) hx hb dX4_mayGoOn_10 (by decide) (fun hc => absurd hc (by decide)) (fun _ => ?_)
            refine lv_aload_n hx hb dX4_mayGoOn_13 rfl (lv_at hl 3 rfl) ?_
            refine lv_iload hx hb dX4_mayGoOn_14 (lv_at hl 0 rfl) ?_
            refine va_aldq hx hb hK hP 0 2 rfl rfl (by unfold vp_in; decide) dX4_mayGoOn_16 ?_
            rw [show gf (4 : Int32).toNatClampNeg = none from (by rw [show (4 : Int32).toNatClampNeg = 4 by decide, hg 4 (by decide), hb4]; rfl)]
            refine W.eq (g2 := F0 m 17 ls [.null]) rfl ?_
            refine lv_ifnullN (tgt := 56) hx hb dX4_mayGoOn_17 (by decide) ?_
            refine lv_iinc (v := 5) (lv' := [(4, .int 5), (3, .int 0), (2, .int 1), (0, .ref a4), (1, .ref f)]) hx hb dX4_mayGoOn_56 hl (k := 0) rfl (by decide) (by decide) rfl (fun ls hl => ?_)
            refine lv_goto (tgt := 7) hx hb dX4_mayGoOn_59 (by decide) ?_
            refine lv_iload hx hb dX4_mayGoOn_7 (lv_at hl 0 rfl) ?_
            refine lv_iconst (v := 5) hx hb dX4_mayGoOn_9 (by decide) ?_
            refine lv_icmp_ge (tgt := 62) hx hb dX4_mayGoOn_10 (by decide) (fun _ => ?_) (fun hc => absurd (by decide) hc)
            refine lv_iconst (v := 2) hx hb dX4_mayGoOn_62 (by decide) ?_
            refine lv_iload_n hx hb dX4_mayGoOn_63 rfl (lv_at hl 2 rfl) ?_
            refine lv_imul hx hb dX4_mayGoOn_64 ?_
            refine lv_topi (fun z_13 ez_13 => ?_)
            have fz_13 : z_13 = 2 := ez_13.trans (by decide)
            subst fz_13
            refine lv_aload_n hx hb dX4_mayGoOn_65 rfl (lv_at hl 4 rfl) ?_
            refine va_getN (host := "NoticeStations") (D := D) (ci := 3) (v := .int 5) (C := RX2) (T := TX2) (N := 4) hx hb hts in_X4_mayGoOn_X2 hown hK hP 1 rfl rfl 2 (by decide) (va_Nw.use rfl (hN.1 (.fieldLinkNest "NoticeStations" 228 "NoticeStations$Standing" "size" "I" "NoticeStations") (by decide +kernel))) (fun _ h9 => h9) rfl dX4_mayGoOn_66 ?_
            refine lv_icmp_gt (tgt := 86) hx hb dX4_mayGoOn_69 (by decide) (fun hc => absurd hc (by decide)) (fun _ => ?_)
            refine lv_iconst (v := 2) hx hb dX4_mayGoOn_72 (by decide) ?_
            refine lv_iload_n hx hb dX4_mayGoOn_73 rfl (lv_at hl 2 rfl) ?_
            refine lv_imul hx hb dX4_mayGoOn_74 ?_
            refine lv_topi (fun z_14 ez_14 => ?_)
            have fz_14 : z_14 = 2 := ez_14.trans (by decide)
            subst fz_14
            refine lv_aload_n hx hb dX4_mayGoOn_75 rfl (lv_at hl 4 rfl) ?_
            refine va_getN (host := "NoticeStations") (D := D) (ci := 3) (v := .int 5) (C := RX2) (T := TX2) (N := 4) hx hb hts in_X4_mayGoOn_X2 hown hK hP 1 rfl rfl 2 (by decide) (va_Nw.use rfl (hN.1 (.fieldLinkNest "NoticeStations" 228 "NoticeStations$Standing" "size" "I" "NoticeStations") (by decide +kernel))) (fun _ h9 => h9) rfl dX4_mayGoOn_76 ?_
            refine lv_icmp_ne (tgt := 90) hx hb dX4_mayGoOn_79 (by decide) (fun _ => ?_) (fun hc => absurd hc (by decide))
            refine lv_iconst (v := 0) hx hb dX4_mayGoOn_90 (by decide) ?_
            have hP9 := hP.sub (ws' := [(a4, wS tC 5 gf), (f, .inr (3, [.ref e1, .ref e2, .int 5, .int 0])), (e1, wI tC 0 z1)]) [0, 1, 2] rfl
            have hD9 := hD.sub (ws' := [(a4, wS tC 5 gf), (f, .inr (3, [.ref e1, .ref e2, .int 5, .int 0])), (e1, wI tC 0 z1)]) [0, 1, 2] (by decide) rfl
            refine W.widen (k := 0) (n := 0) (by omega) (by omega) ?_
            exact W.zret (v := 0) hx hb hr (by decide) (fun t ht hW => ⟨⟨0, (), rfl, (by unfold mayg cntb; rw [hb0, hb1, hb2, hb3, hb4] <;> decide), (by rw [ht]; exact hP9), va_K.moved hW.alike hK, hD9⟩, hS.F ht⟩) hS.2.2 dX4_mayGoOn_91 hlocks
          · skip
            refine lv_iload hx hb dX4_mayGoOn_7 (lv_at hl 0 rfl) ?_
            refine lv_iconst (v := 5) hx hb dX4_mayGoOn_9 (by decide) ?_
            refine lv_icmp_ge (tgt := 62) hx hb dX4_mayGoOn_10 (by decide) (fun hc => absurd hc (by decide)) (fun _ => ?_)
            refine lv_aload_n hx hb dX4_mayGoOn_13 rfl (lv_at hl 3 rfl) ?_
            refine lv_iload hx hb dX4_mayGoOn_14 (lv_at hl 0 rfl) ?_
            refine va_aldq hx hb hK hP 0 2 rfl rfl (by unfold vp_in; decide) dX4_mayGoOn_16 ?_
            rw [show gf (4 : Int32).toNatClampNeg = some f from (by rw [show (4 : Int32).toNatClampNeg = 4 by decide, hg 4 (by decide), hb4]; rfl)]
            refine W.eq (g2 := F0 m 17 ls [.ref f]) rfl ?_
            refine lv_ifnull hx hb dX4_mayGoOn_17 ?_
            refine lv_aload_n hx hb dX4_mayGoOn_20 rfl (lv_at hl 3 rfl) ?_
            refine lv_iload hx hb dX4_mayGoOn_21 (lv_at hl 0 rfl) ?_
            refine va_aldq hx hb hK hP 0 2 rfl rfl (by unfold vp_in; decide) dX4_mayGoOn_23 ?_
            rw [show gf (4 : Int32).toNatClampNeg = some f from (by rw [show (4 : Int32).toNatClampNeg = 4 by decide, hg 4 (by decide), hb4]; rfl)]
            refine W.eq (g2 := F0 m 24 ls [.ref f]) rfl ?_
            have hPc := hP.sub (ws' := [(f, .inr (3, [.ref e1, .ref e2, .int 5, .int 0])), (e1, wI tC 0 z1)]) [1, 2] rfl
            have hDc := hD.sub (ws' := [(f, .inr (3, [.ref e1, .ref e2, .int 5, .int 0])), (e1, wI tC 0 z1)]) [1, 2] (by decide) rfl
            have hFc := va_free (wc := [(f, .inr (3, [.ref e1, .ref e2, .int 5, .int 0])), (e1, wI tC 0 z1)]) hD hS hA [1, 2] rfl
            refine va_calli (va_runVN (As := []) (rest := []) ⟨hx, hb, hml, hown, hts⟩ (c_X2_length l hlt D tC dz H.size f e1 e2 z1 ) ⟨(va_cnB (host := "NoticeStations") 0 hts gX4_mayGoOn_X2_length_n107 rfl rfl rfl (hN.1 (.methodLinkNest "NoticeStations" 107 ⟨"NoticeStations$Standing", "length", "()I"⟩ "NoticeStations") (by decide +kernel)) w_0 (by decide +kernel) ⟨Nat.le_of_ble_eq_true rfl, Nat.le_of_ble_eq_true rfl⟩), w_1, w_2⟩ ⟨pB_blind, va_recv hK hPc (ci := 3) (q0 := 0) rfl rfl, pB_at hPc hDc hK hN hE hS hFc⟩ rfl rfl hl.1 rfl (lv_room (Nat.le_of_ble_eq_true rfl)) dX4_mayGoOn_24 ⟨Nat.le_of_ble_eq_true rfl, Nat.le_of_ble_eq_true rfl⟩) hS (fun q _ h => hFc q h) hFc (fun r_15 u t H1 locs ht hvm hw hB hz1 hk1 hS => ?_)
            obtain ⟨hP1, _, hD1⟩ := hB
            have hw_16 := hw
            rw [ht] at hP1
            obtain ⟨hP, hD⟩ := va_join (wr := [(a4, wS tC 5 gf)]) (w1 := [(f, .inr (3, [.ref e1, .ref e2, .int 5, .int 0])), (e1, wI tC 0 z1)]) hP hD [1, 2] [0] rfl rfl (by decide) (by decide) hk1 hFc hP1 hD1
            generalize H1 = H at hP hS ⊢
            have hP : va_P D vwCl [(a4, wS tC 5 gf), (f, .inr (3, [.ref e1, .ref e2, .int 5, .int 0])), (e1, wI tC 0 z1)] H := hP
            have hD : va_D A [(a4, wS tC 5 gf), (f, .inr (3, [.ref e1, .ref e2, .int 5, .int 0])), (e1, wI tC 0 z1)] := hD
            subst hw_16
            refine lv_aload_n hx hb dX4_mayGoOn_27 rfl (lv_at hl 4 rfl) ?_
            have hPc := hP.sub (ws' := [(f, .inr (3, [.ref e1, .ref e2, .int 5, .int 0])), (e1, wI tC 0 z1)]) [1, 2] rfl
            have hDc := hD.sub (ws' := [(f, .inr (3, [.ref e1, .ref e2, .int 5, .int 0])), (e1, wI tC 0 z1)]) [1, 2] (by decide) rfl
            have hFc := va_free (wc := [(f, .inr (3, [.ref e1, .ref e2, .int 5, .int 0])), (e1, wI tC 0 z1)]) hD hS hA [1, 2] rfl
            refine va_calli (va_runVN (As := []) (rest := [.int 0]) ⟨hx, hb, hml, hown, hts⟩ (c_X2_length l hlt D tC dz H.size f e1 e2 z1 ) ⟨(va_cnB (host := "NoticeStations") 0 hts gX4_mayGoOn_X2_length_n107 rfl rfl rfl (hN.1 (.methodLinkNest "NoticeStations" 107 ⟨"NoticeStations$Standing", "length", "()I"⟩ "NoticeStations") (by decide +kernel)) w_0 (by decide +kernel) ⟨Nat.le_of_ble_eq_true rfl, Nat.le_of_ble_eq_true rfl⟩), w_1, w_2⟩ ⟨pB_blind, va_recv hK hPc (ci := 3) (q0 := 0) rfl rfl, pB_at hPc hDc hK hN hE hS hFc⟩ rfl rfl hl.1 rfl (lv_room (Nat.le_of_ble_eq_true rfl)) dX4_mayGoOn_28 ⟨Nat.le_of_ble_eq_true rfl, Nat.le_of_ble_eq_true rfl⟩) hS (fun q _ h => hFc q h) hFc (fun r_17 u t H1 locs ht hvm hw hB hz1 hk1 hS => ?_)
            obtain ⟨hP1, _, hD1⟩ := hB
            have hw_18 := hw
            rw [ht] at hP1
            obtain ⟨hP, hD⟩ := va_join (wr := [(a4, wS tC 5 gf)]) (w1 := [(f, .inr (3, [.ref e1, .ref e2, .int 5, .int 0])), (e1, wI tC 0 z1)]) hP hD [1, 2] [0] rfl rfl (by decide) (by decide) hk1 hFc hP1 hD1
            generalize H1 = H at hP hS ⊢
            have hP : va_P D vwCl [(a4, wS tC 5 gf), (f, .inr (3, [.ref e1, .ref e2, .int 5, .int 0])), (e1, wI tC 0 z1)] H := hP
            have hD : va_D A [(a4, wS tC 5 gf), (f, .inr (3, [.ref e1, .ref e2, .int 5, .int 0])), (e1, wI tC 0 z1)] := hD
            subst hw_18
            refine lv_icmp_ne (tgt := 56) hx hb dX4_mayGoOn_31 (by decide) (fun hc => absurd (by decide) hc) (fun _ => ?_)
            refine lv_iinc (v := 2) (lv' := [(2, .int 2), (4, .int 4), (3, .int 0), (0, .ref a4), (1, .ref f)]) hx hb dX4_mayGoOn_34 hl (k := 2) rfl (by decide) (by decide) rfl (fun ls hl => ?_)
            refine lv_iload_n hx hb dX4_mayGoOn_37 rfl (lv_at hl 2 rfl) ?_
            refine lv_if_ne (tgt := 50) hx hb dX4_mayGoOn_38 (by decide) (fun hc => absurd (by decide) hc) (fun _ => ?_)
            refine lv_iload hx hb dX4_mayGoOn_41 (lv_at hl 1 rfl) ?_
            refine lv_aload_n hx hb dX4_mayGoOn_43 rfl (lv_at hl 4 rfl) ?_
            refine va_getN (host := "NoticeStations") (D := D) (ci := 3) (v := .int 0) (C := RX2) (T := TX2) (N := 4) hx hb hts in_X4_mayGoOn_X2 hown hK hP 1 rfl rfl 3 (by decide) (va_Nw.use rfl (hN.1 (.fieldLinkNest "NoticeStations" 230 "NoticeStations$Standing" "named" "I" "NoticeStations") (by decide +kernel))) (fun _ h9 => h9) rfl dX4_mayGoOn_44 ?_
            refine lv_icmp_ne (tgt := 54) hx hb dX4_mayGoOn_47 (by decide) (fun _ => ?_) (fun hc => absurd hc (by decide))
            refine lv_iconst (v := 0) hx hb dX4_mayGoOn_54 (by decide) ?_
            refine lv_istore_n (lv' := [(3, .int 0), (2, .int 2), (4, .int 4), (0, .ref a4), (1, .ref f)]) hx hb dX4_mayGoOn_55 rfl hl (by decide) rfl (fun ls hl => ?_)
            refine lv_iinc (v := 5) (lv' := [(4, .int 5), (3, .int 0), (2, .int 2), (0, .ref a4), (1, .ref f)]) hx hb dX4_mayGoOn_56 hl (k := 2) rfl (by decide) (by decide) rfl (fun ls hl => ?_)
            refine lv_goto (tgt := 7) hx hb dX4_mayGoOn_59 (by decide) ?_
            refine lv_iload hx hb dX4_mayGoOn_7 (lv_at hl 0 rfl) ?_
            refine lv_iconst (v := 5) hx hb dX4_mayGoOn_9 (by decide) ?_
            refine lv_icmp_ge (tgt := 62) hx hb dX4_mayGoOn_10 (by decide) (fun _ => ?_) (fun hc => absurd (by decide) hc)
            refine lv_iconst (v := 2) hx hb dX4_mayGoOn_62 (by decide) ?_
            refine lv_iload_n hx hb dX4_mayGoOn_63 rfl (lv_at hl 2 rfl) ?_
            refine lv_imul hx hb dX4_mayGoOn_64 ?_
            refine lv_topi (fun z_19 ez_19 => ?_)
            have fz_19 : z_19 = 4 := ez_19.trans (by decide)
            subst fz_19
            refine lv_aload_n hx hb dX4_mayGoOn_65 rfl (lv_at hl 4 rfl) ?_
            refine va_getN (host := "NoticeStations") (D := D) (ci := 3) (v := .int 5) (C := RX2) (T := TX2) (N := 4) hx hb hts in_X4_mayGoOn_X2 hown hK hP 1 rfl rfl 2 (by decide) (va_Nw.use rfl (hN.1 (.fieldLinkNest "NoticeStations" 228 "NoticeStations$Standing" "size" "I" "NoticeStations") (by decide +kernel))) (fun _ h9 => h9) rfl dX4_mayGoOn_66 ?_
            refine lv_icmp_gt (tgt := 86) hx hb dX4_mayGoOn_69 (by decide) (fun hc => absurd hc (by decide)) (fun _ => ?_)
            refine lv_iconst (v := 2) hx hb dX4_mayGoOn_72 (by decide) ?_
            refine lv_iload_n hx hb dX4_mayGoOn_73 rfl (lv_at hl 2 rfl) ?_
            refine lv_imul hx hb dX4_mayGoOn_74 ?_
            refine lv_topi (fun z_20 ez_20 => ?_)
            have fz_20 : z_20 = 4 := ez_20.trans (by decide)
            subst fz_20
            refine lv_aload_n hx hb dX4_mayGoOn_75 rfl (lv_at hl 4 rfl) ?_
            refine va_getN (host := "NoticeStations") (D := D) (ci := 3) (v := .int 5) (C := RX2) (T := TX2) (N := 4) hx hb hts in_X4_mayGoOn_X2 hown hK hP 1 rfl rfl 2 (by decide) (va_Nw.use rfl (hN.1 (.fieldLinkNest "NoticeStations" 228 "NoticeStations$Standing" "size" "I" "NoticeStations") (by decide +kernel))) (fun _ h9 => h9) rfl dX4_mayGoOn_76 ?_
            refine lv_icmp_ne (tgt := 90) hx hb dX4_mayGoOn_79 (by decide) (fun _ => ?_) (fun hc => absurd hc (by decide))
            refine lv_iconst (v := 0) hx hb dX4_mayGoOn_90 (by decide) ?_
            have hP9 := hP.sub (ws' := [(a4, wS tC 5 gf), (f, .inr (3, [.ref e1, .ref e2, .int 5, .int 0])), (e1, wI tC 0 z1)]) [0, 1, 2] rfl
            have hD9 := hD.sub (ws' := [(a4, wS tC 5 gf), (f, .inr (3, [.ref e1, .ref e2, .int 5, .int 0])), (e1, wI tC 0 z1)]) [0, 1, 2] (by decide) rfl
            refine W.widen (k := 0) (n := 0) (by omega) (by omega) ?_
            exact W.zret (v := 0) hx hb hr (by decide) (fun t ht hW => ⟨⟨0, (), rfl, (by unfold mayg cntb; rw [hb0, hb1, hb2, hb3, hb4] <;> decide), (by rw [ht]; exact hP9), va_K.moved hW.alike hK, hD9⟩, hS.F ht⟩) hS.2.2 dX4_mayGoOn_91 hlocks
      · skip
        refine lv_iload hx hb dX4_mayGoOn_7 (lv_at hl 0 rfl) ?_
        refine lv_iconst (v := 5) hx hb dX4_mayGoOn_9 (by decide) ?_
        refine lv_icmp_ge (tgt := 62) hx hb dX4_mayGoOn_10 (by decide) (fun hc => absurd hc (by decide)) (fun _ => ?_)
        refine lv_aload_n hx hb dX4_mayGoOn_13 rfl (lv_at hl 3 rfl) ?_
        refine lv_iload hx hb dX4_mayGoOn_14 (lv_at hl 0 rfl) ?_
        refine va_aldq hx hb hK hP 0 2 rfl rfl (by unfold vp_in; decide) dX4_mayGoOn_16 ?_
        rw [show gf (2 : Int32).toNatClampNeg = some f from (by rw [show (2 : Int32).toNatClampNeg = 2 by decide, hg 2 (by decide), hb2]; rfl)]
        refine W.eq (g2 := F0 m 17 ls [.ref f]) rfl ?_
        refine lv_ifnull hx hb dX4_mayGoOn_17 ?_
        refine lv_aload_n hx hb dX4_mayGoOn_20 rfl (lv_at hl 3 rfl) ?_
        refine lv_iload hx hb dX4_mayGoOn_21 (lv_at hl 0 rfl) ?_
        refine va_aldq hx hb hK hP 0 2 rfl rfl (by unfold vp_in; decide) dX4_mayGoOn_23 ?_
        rw [show gf (2 : Int32).toNatClampNeg = some f from (by rw [show (2 : Int32).toNatClampNeg = 2 by decide, hg 2 (by decide), hb2]; rfl)]
        refine W.eq (g2 := F0 m 24 ls [.ref f]) rfl ?_
        have hPc := hP.sub (ws' := [(f, .inr (3, [.ref e1, .ref e2, .int 5, .int 0])), (e1, wI tC 0 z1)]) [1, 2] rfl
        have hDc := hD.sub (ws' := [(f, .inr (3, [.ref e1, .ref e2, .int 5, .int 0])), (e1, wI tC 0 z1)]) [1, 2] (by decide) rfl
        have hFc := va_free (wc := [(f, .inr (3, [.ref e1, .ref e2, .int 5, .int 0])), (e1, wI tC 0 z1)]) hD hS hA [1, 2] rfl
        refine va_calli (va_runVN (As := []) (rest := []) ⟨hx, hb, hml, hown, hts⟩ (c_X2_length l hlt D tC dz s.heap.size f e1 e2 z1 ) ⟨(va_cnB (host := "NoticeStations") 0 hts gX4_mayGoOn_X2_length_n107 rfl rfl rfl (hN.1 (.methodLinkNest "NoticeStations" 107 ⟨"NoticeStations$Standing", "length", "()I"⟩ "NoticeStations") (by decide +kernel)) w_0 (by decide +kernel) ⟨Nat.le_of_ble_eq_true rfl, Nat.le_of_ble_eq_true rfl⟩), w_1, w_2⟩ ⟨pB_blind, va_recv hK hPc (ci := 3) (q0 := 0) rfl rfl, pB_at hPc hDc hK hN hE hS hFc⟩ rfl rfl hl.1 rfl (lv_room (Nat.le_of_ble_eq_true rfl)) dX4_mayGoOn_24 ⟨Nat.le_of_ble_eq_true rfl, Nat.le_of_ble_eq_true rfl⟩) hS (fun q _ h => hFc q h) hFc (fun r_21 u t H1 locs ht hvm hw hB hz1 hk1 hS => ?_)
        obtain ⟨hP1, _, hD1⟩ := hB
        have hw_22 := hw
        rw [ht] at hP1
        obtain ⟨hP, hD⟩ := va_join (wr := [(a4, wS tC 5 gf)]) (w1 := [(f, .inr (3, [.ref e1, .ref e2, .int 5, .int 0])), (e1, wI tC 0 z1)]) hP hD [1, 2] [0] rfl rfl (by decide) (by decide) hk1 hFc hP1 hD1
        generalize H1 = H at hP hS ⊢
        have hP : va_P D vwCl [(a4, wS tC 5 gf), (f, .inr (3, [.ref e1, .ref e2, .int 5, .int 0])), (e1, wI tC 0 z1)] H := hP
        have hD : va_D A [(a4, wS tC 5 gf), (f, .inr (3, [.ref e1, .ref e2, .int 5, .int 0])), (e1, wI tC 0 z1)] := hD
        subst hw_22
        refine lv_aload_n hx hb dX4_mayGoOn_27 rfl (lv_at hl 4 rfl) ?_
        have hPc := hP.sub (ws' := [(f, .inr (3, [.ref e1, .ref e2, .int 5, .int 0])), (e1, wI tC 0 z1)]) [1, 2] rfl
        have hDc := hD.sub (ws' := [(f, .inr (3, [.ref e1, .ref e2, .int 5, .int 0])), (e1, wI tC 0 z1)]) [1, 2] (by decide) rfl
        have hFc := va_free (wc := [(f, .inr (3, [.ref e1, .ref e2, .int 5, .int 0])), (e1, wI tC 0 z1)]) hD hS hA [1, 2] rfl
        refine va_calli (va_runVN (As := []) (rest := [.int 0]) ⟨hx, hb, hml, hown, hts⟩ (c_X2_length l hlt D tC dz H.size f e1 e2 z1 ) ⟨(va_cnB (host := "NoticeStations") 0 hts gX4_mayGoOn_X2_length_n107 rfl rfl rfl (hN.1 (.methodLinkNest "NoticeStations" 107 ⟨"NoticeStations$Standing", "length", "()I"⟩ "NoticeStations") (by decide +kernel)) w_0 (by decide +kernel) ⟨Nat.le_of_ble_eq_true rfl, Nat.le_of_ble_eq_true rfl⟩), w_1, w_2⟩ ⟨pB_blind, va_recv hK hPc (ci := 3) (q0 := 0) rfl rfl, pB_at hPc hDc hK hN hE hS hFc⟩ rfl rfl hl.1 rfl (lv_room (Nat.le_of_ble_eq_true rfl)) dX4_mayGoOn_28 ⟨Nat.le_of_ble_eq_true rfl, Nat.le_of_ble_eq_true rfl⟩) hS (fun q _ h => hFc q h) hFc (fun r_23 u t H1 locs ht hvm hw hB hz1 hk1 hS => ?_)
        obtain ⟨hP1, _, hD1⟩ := hB
        have hw_24 := hw
        rw [ht] at hP1
        obtain ⟨hP, hD⟩ := va_join (wr := [(a4, wS tC 5 gf)]) (w1 := [(f, .inr (3, [.ref e1, .ref e2, .int 5, .int 0])), (e1, wI tC 0 z1)]) hP hD [1, 2] [0] rfl rfl (by decide) (by decide) hk1 hFc hP1 hD1
        generalize H1 = H at hP hS ⊢
        have hP : va_P D vwCl [(a4, wS tC 5 gf), (f, .inr (3, [.ref e1, .ref e2, .int 5, .int 0])), (e1, wI tC 0 z1)] H := hP
        have hD : va_D A [(a4, wS tC 5 gf), (f, .inr (3, [.ref e1, .ref e2, .int 5, .int 0])), (e1, wI tC 0 z1)] := hD
        subst hw_24
        refine lv_icmp_ne (tgt := 56) hx hb dX4_mayGoOn_31 (by decide) (fun hc => absurd (by decide) hc) (fun _ => ?_)
        refine lv_iinc (v := 1) (lv' := [(2, .int 1), (4, .int 2), (3, .int 0), (0, .ref a4), (1, .ref f)]) hx hb dX4_mayGoOn_34 hl (k := 2) rfl (by decide) (by decide) rfl (fun ls hl => ?_)
        refine lv_iload_n hx hb dX4_mayGoOn_37 rfl (lv_at hl 2 rfl) ?_
        refine lv_if_ne (tgt := 50) hx hb dX4_mayGoOn_38 (by decide) (fun hc => absurd (by decide) hc) (fun _ => ?_)
        refine lv_iload hx hb dX4_mayGoOn_41 (lv_at hl 1 rfl) ?_
        refine lv_aload_n hx hb dX4_mayGoOn_43 rfl (lv_at hl 4 rfl) ?_
        refine va_getN (host := "NoticeStations") (D := D) (ci := 3) (v := .int 0) (C := RX2) (T := TX2) (N := 4) hx hb hts in_X4_mayGoOn_X2 hown hK hP 1 rfl rfl 3 (by decide) (va_Nw.use rfl (hN.1 (.fieldLinkNest "NoticeStations" 230 "NoticeStations$Standing" "named" "I" "NoticeStations") (by decide +kernel))) (fun _ h9 => h9) rfl dX4_mayGoOn_44 ?_
        refine lv_icmp_ne (tgt := 54) hx hb dX4_mayGoOn_47 (by decide) (fun _ => ?_) (fun hc => absurd hc (by decide))
        refine lv_iconst (v := 0) hx hb dX4_mayGoOn_54 (by decide) ?_
        refine lv_istore_n (lv' := [(3, .int 0), (2, .int 1), (4, .int 2), (0, .ref a4), (1, .ref f)]) hx hb dX4_mayGoOn_55 rfl hl (by decide) rfl (fun ls hl => ?_)
        refine lv_iinc (v := 3) (lv' := [(4, .int 3), (3, .int 0), (2, .int 1), (0, .ref a4), (1, .ref f)]) hx hb dX4_mayGoOn_56 hl (k := 2) rfl (by decide) (by decide) rfl (fun ls hl => ?_)
        refine lv_goto (tgt := 7) hx hb dX4_mayGoOn_59 (by decide) ?_
        cases hb3 : bt 3
        · skip
          refine lv_iload hx hb dX4_mayGoOn_7 (lv_at hl 0 rfl) ?_
          refine lv_iconst (v := 5) hx hb dX4_mayGoOn_9 (by decide) ?_
          refine lv_icmp_ge (tgt := 62) hx hb dX4_mayGoOn_10 (by decide) (fun hc => absurd hc (by decide)) (fun _ => ?_)
          refine lv_aload_n hx hb dX4_mayGoOn_13 rfl (lv_at hl 3 rfl) ?_
          refine lv_iload hx hb dX4_mayGoOn_14 (lv_at hl 0 rfl) ?_
          refine va_aldq hx hb hK hP 0 2 rfl rfl (by unfold vp_in; decide) dX4_mayGoOn_16 ?_
          rw [show gf (3 : Int32).toNatClampNeg = none from (by rw [show (3 : Int32).toNatClampNeg = 3 by decide, hg 3 (by decide), hb3]; rfl)]
          refine W.eq (g2 := F0 m 17 ls [.null]) rfl ?_
          refine lv_ifnullN (tgt := 56) hx hb dX4_mayGoOn_17 (by decide) ?_
          refine lv_iinc (v := 4) (lv' := [(4, .int 4), (3, .int 0), (2, .int 1), (0, .ref a4), (1, .ref f)]) hx hb dX4_mayGoOn_56 hl (k := 0) rfl (by decide) (by decide) rfl (fun ls hl => ?_)
          refine lv_goto (tgt := 7) hx hb dX4_mayGoOn_59 (by decide) ?_
          cases hb4 : bt 4
          · skip
            refine lv_iload hx hb dX4_mayGoOn_7 (lv_at hl 0 rfl) ?_
            refine lv_iconst (v := 5) hx hb dX4_mayGoOn_9 (by decide) ?_
            refine lv_icmp_ge (tgt := 62) hx hb dX4_mayGoOn_10 (by decide) (fun hc => absurd hc (by decide)) (fun _ => ?_)
            refine lv_aload_n hx hb dX4_mayGoOn_13 rfl (lv_at hl 3 rfl) ?_
            refine lv_iload hx hb dX4_mayGoOn_14 (lv_at hl 0 rfl) ?_
            refine va_aldq hx hb hK hP 0 2 rfl rfl (by unfold vp_in; decide) dX4_mayGoOn_16 ?_
            rw [show gf (4 : Int32).toNatClampNeg = none from (by rw [show (4 : Int32).toNatClampNeg = 4 by decide, hg 4 (by decide), hb4]; rfl)]
            refine W.eq (g2 := F0 m 17 ls [.null]) rfl ?_
            refine lv_ifnullN (tgt := 56) hx hb dX4_mayGoOn_17 (by decide) ?_
            refine lv_iinc (v := 5) (lv' := [(4, .int 5), (3, .int 0), (2, .int 1), (0, .ref a4), (1, .ref f)]) hx hb dX4_mayGoOn_56 hl (k := 0) rfl (by decide) (by decide) rfl (fun ls hl => ?_)
            refine lv_goto (tgt := 7) hx hb dX4_mayGoOn_59 (by decide) ?_
            refine lv_iload hx hb dX4_mayGoOn_7 (lv_at hl 0 rfl) ?_
            refine lv_iconst (v := 5) hx hb dX4_mayGoOn_9 (by decide) ?_
            refine lv_icmp_ge (tgt := 62) hx hb dX4_mayGoOn_10 (by decide) (fun _ => ?_) (fun hc => absurd (by decide) hc)
            refine lv_iconst (v := 2) hx hb dX4_mayGoOn_62 (by decide) ?_
            refine lv_iload_n hx hb dX4_mayGoOn_63 rfl (lv_at hl 2 rfl) ?_
            refine lv_imul hx hb dX4_mayGoOn_64 ?_
            refine lv_topi (fun z_25 ez_25 => ?_)
            have fz_25 : z_25 = 2 := ez_25.trans (by decide)
            subst fz_25
            refine lv_aload_n hx hb dX4_mayGoOn_65 rfl (lv_at hl 4 rfl) ?_
            refine va_getN (host := "NoticeStations") (D := D) (ci := 3) (v := .int 5) (C := RX2) (T := TX2) (N := 4) hx hb hts in_X4_mayGoOn_X2 hown hK hP 1 rfl rfl 2 (by decide) (va_Nw.use rfl (hN.1 (.fieldLinkNest "NoticeStations" 228 "NoticeStations$Standing" "size" "I" "NoticeStations") (by decide +kernel))) (fun _ h9 => h9) rfl dX4_mayGoOn_66 ?_
            refine lv_icmp_gt (tgt := 86) hx hb dX4_mayGoOn_69 (by decide) (fun hc => absurd hc (by decide)) (fun _ => ?_)
            refine lv_iconst (v := 2) hx hb dX4_mayGoOn_72 (by decide) ?_
            refine lv_iload_n hx hb dX4_mayGoOn_73 rfl (lv_at hl 2 rfl) ?_
            refine lv_imul hx hb dX4_mayGoOn_74 ?_
            refine lv_topi (fun z_26 ez_26 => ?_)
            have fz_26 : z_26 = 2 := ez_26.trans (by decide)
            subst fz_26
            refine lv_aload_n hx hb dX4_mayGoOn_75 rfl (lv_at hl 4 rfl) ?_
            refine va_getN (host := "NoticeStations") (D := D) (ci := 3) (v := .int 5) (C := RX2) (T := TX2) (N := 4) hx hb hts in_X4_mayGoOn_X2 hown hK hP 1 rfl rfl 2 (by decide) (va_Nw.use rfl (hN.1 (.fieldLinkNest "NoticeStations" 228 "NoticeStations$Standing" "size" "I" "NoticeStations") (by decide +kernel))) (fun _ h9 => h9) rfl dX4_mayGoOn_76 ?_
            refine lv_icmp_ne (tgt := 90) hx hb dX4_mayGoOn_79 (by decide) (fun _ => ?_) (fun hc => absurd hc (by decide))
            refine lv_iconst (v := 0) hx hb dX4_mayGoOn_90 (by decide) ?_
            have hP9 := hP.sub (ws' := [(a4, wS tC 5 gf), (f, .inr (3, [.ref e1, .ref e2, .int 5, .int 0])), (e1, wI tC 0 z1)]) [0, 1, 2] rfl
            have hD9 := hD.sub (ws' := [(a4, wS tC 5 gf), (f, .inr (3, [.ref e1, .ref e2, .int 5, .int 0])), (e1, wI tC 0 z1)]) [0, 1, 2] (by decide) rfl
            refine W.widen (k := 0) (n := 0) (by omega) (by omega) ?_
            exact W.zret (v := 0) hx hb hr (by decide) (fun t ht hW => ⟨⟨0, (), rfl, (by unfold mayg cntb; rw [hb0, hb1, hb2, hb3, hb4] <;> decide), (by rw [ht]; exact hP9), va_K.moved hW.alike hK, hD9⟩, hS.F ht⟩) hS.2.2 dX4_mayGoOn_91 hlocks
          · skip
            refine lv_iload hx hb dX4_mayGoOn_7 (lv_at hl 0 rfl) ?_
            refine lv_iconst (v := 5) hx hb dX4_mayGoOn_9 (by decide) ?_
            refine lv_icmp_ge (tgt := 62) hx hb dX4_mayGoOn_10 (by decide) (fun hc => absurd hc (by decide)) (fun _ => ?_)
            refine lv_aload_n hx hb dX4_mayGoOn_13 rfl (lv_at hl 3 rfl) ?_
            refine lv_iload hx hb dX4_mayGoOn_14 (lv_at hl 0 rfl) ?_
            refine va_aldq hx hb hK hP 0 2 rfl rfl (by unfold vp_in; decide) dX4_mayGoOn_16 ?_
            rw [show gf (4 : Int32).toNatClampNeg = some f from (by rw [show (4 : Int32).toNatClampNeg = 4 by decide, hg 4 (by decide), hb4]; rfl)]
            refine W.eq (g2 := F0 m 17 ls [.ref f]) rfl ?_
            refine lv_ifnull hx hb dX4_mayGoOn_17 ?_
            refine lv_aload_n hx hb dX4_mayGoOn_20 rfl (lv_at hl 3 rfl) ?_
            refine lv_iload hx hb dX4_mayGoOn_21 (lv_at hl 0 rfl) ?_
            refine va_aldq hx hb hK hP 0 2 rfl rfl (by unfold vp_in; decide) dX4_mayGoOn_23 ?_
            rw [show gf (4 : Int32).toNatClampNeg = some f from (by rw [show (4 : Int32).toNatClampNeg = 4 by decide, hg 4 (by decide), hb4]; rfl)]
            refine W.eq (g2 := F0 m 24 ls [.ref f]) rfl ?_
            have hPc := hP.sub (ws' := [(f, .inr (3, [.ref e1, .ref e2, .int 5, .int 0])), (e1, wI tC 0 z1)]) [1, 2] rfl
            have hDc := hD.sub (ws' := [(f, .inr (3, [.ref e1, .ref e2, .int 5, .int 0])), (e1, wI tC 0 z1)]) [1, 2] (by decide) rfl
            have hFc := va_free (wc := [(f, .inr (3, [.ref e1, .ref e2, .int 5, .int 0])), (e1, wI tC 0 z1)]) hD hS hA [1, 2] rfl
            refine va_calli (va_runVN (As := []) (rest := []) ⟨hx, hb, hml, hown, hts⟩ (c_X2_length l hlt D tC dz H.size f e1 e2 z1 ) ⟨(va_cnB (host := "NoticeStations") 0 hts gX4_mayGoOn_X2_length_n107 rfl rfl rfl (hN.1 (.methodLinkNest "NoticeStations" 107 ⟨"NoticeStations$Standing", "length", "()I"⟩ "NoticeStations") (by decide +kernel)) w_0 (by decide +kernel) ⟨Nat.le_of_ble_eq_true rfl, Nat.le_of_ble_eq_true rfl⟩), w_1, w_2⟩ ⟨pB_blind, va_recv hK hPc (ci := 3) (q0 := 0) rfl rfl, pB_at hPc hDc hK hN hE hS hFc⟩ rfl rfl hl.1 rfl (lv_room (Nat.le_of_ble_eq_true rfl)) dX4_mayGoOn_24 ⟨Nat.le_of_ble_eq_true rfl, Nat.le_of_ble_eq_true rfl⟩) hS (fun q _ h => hFc q h) hFc (fun r_27 u t H1 locs ht hvm hw hB hz1 hk1 hS => ?_)
            obtain ⟨hP1, _, hD1⟩ := hB
            have hw_28 := hw
            rw [ht] at hP1
            obtain ⟨hP, hD⟩ := va_join (wr := [(a4, wS tC 5 gf)]) (w1 := [(f, .inr (3, [.ref e1, .ref e2, .int 5, .int 0])), (e1, wI tC 0 z1)]) hP hD [1, 2] [0] rfl rfl (by decide) (by decide) hk1 hFc hP1 hD1
            generalize H1 = H at hP hS ⊢
            have hP : va_P D vwCl [(a4, wS tC 5 gf), (f, .inr (3, [.ref e1, .ref e2, .int 5, .int 0])), (e1, wI tC 0 z1)] H := hP
            have hD : va_D A [(a4, wS tC 5 gf), (f, .inr (3, [.ref e1, .ref e2, .int 5, .int 0])), (e1, wI tC 0 z1)] := hD
            subst hw_28
            refine lv_aload_n hx hb dX4_mayGoOn_27 rfl (lv_at hl 4 rfl) ?_
            have hPc := hP.sub (ws' := [(f, .inr (3, [.ref e1, .ref e2, .int 5, .int 0])), (e1, wI tC 0 z1)]) [1, 2] rfl
            have hDc := hD.sub (ws' := [(f, .inr (3, [.ref e1, .ref e2, .int 5, .int 0])), (e1, wI tC 0 z1)]) [1, 2] (by decide) rfl
            have hFc := va_free (wc := [(f, .inr (3, [.ref e1, .ref e2, .int 5, .int 0])), (e1, wI tC 0 z1)]) hD hS hA [1, 2] rfl
            refine va_calli (va_runVN (As := []) (rest := [.int 0]) ⟨hx, hb, hml, hown, hts⟩ (c_X2_length l hlt D tC dz H.size f e1 e2 z1 ) ⟨(va_cnB (host := "NoticeStations") 0 hts gX4_mayGoOn_X2_length_n107 rfl rfl rfl (hN.1 (.methodLinkNest "NoticeStations" 107 ⟨"NoticeStations$Standing", "length", "()I"⟩ "NoticeStations") (by decide +kernel)) w_0 (by decide +kernel) ⟨Nat.le_of_ble_eq_true rfl, Nat.le_of_ble_eq_true rfl⟩), w_1, w_2⟩ ⟨pB_blind, va_recv hK hPc (ci := 3) (q0 := 0) rfl rfl, pB_at hPc hDc hK hN hE hS hFc⟩ rfl rfl hl.1 rfl (lv_room (Nat.le_of_ble_eq_true rfl)) dX4_mayGoOn_28 ⟨Nat.le_of_ble_eq_true rfl, Nat.le_of_ble_eq_true rfl⟩) hS (fun q _ h => hFc q h) hFc (fun r_29 u t H1 locs ht hvm hw hB hz1 hk1 hS => ?_)
            obtain ⟨hP1, _, hD1⟩ := hB
            have hw_30 := hw
            rw [ht] at hP1
            obtain ⟨hP, hD⟩ := va_join (wr := [(a4, wS tC 5 gf)]) (w1 := [(f, .inr (3, [.ref e1, .ref e2, .int 5, .int 0])), (e1, wI tC 0 z1)]) hP hD [1, 2] [0] rfl rfl (by decide) (by decide) hk1 hFc hP1 hD1
            generalize H1 = H at hP hS ⊢
            have hP : va_P D vwCl [(a4, wS tC 5 gf), (f, .inr (3, [.ref e1, .ref e2, .int 5, .int 0])), (e1, wI tC 0 z1)] H := hP
            have hD : va_D A [(a4, wS tC 5 gf), (f, .inr (3, [.ref e1, .ref e2, .int 5, .int 0])), (e1, wI tC 0 z1)] := hD
            subst hw_30
            refine lv_icmp_ne (tgt := 56) hx hb dX4_mayGoOn_31 (by decide) (fun hc => absurd (by decide) hc) (fun _ => ?_)
            refine lv_iinc (v := 2) (lv' := [(2, .int 2), (4, .int 4), (3, .int 0), (0, .ref a4), (1, .ref f)]) hx hb dX4_mayGoOn_34 hl (k := 2) rfl (by decide) (by decide) rfl (fun ls hl => ?_)
            refine lv_iload_n hx hb dX4_mayGoOn_37 rfl (lv_at hl 2 rfl) ?_
            refine lv_if_ne (tgt := 50) hx hb dX4_mayGoOn_38 (by decide) (fun hc => absurd (by decide) hc) (fun _ => ?_)
            refine lv_iload hx hb dX4_mayGoOn_41 (lv_at hl 1 rfl) ?_
            refine lv_aload_n hx hb dX4_mayGoOn_43 rfl (lv_at hl 4 rfl) ?_
            refine va_getN (host := "NoticeStations") (D := D) (ci := 3) (v := .int 0) (C := RX2) (T := TX2) (N := 4) hx hb hts in_X4_mayGoOn_X2 hown hK hP 1 rfl rfl 3 (by decide) (va_Nw.use rfl (hN.1 (.fieldLinkNest "NoticeStations" 230 "NoticeStations$Standing" "named" "I" "NoticeStations") (by decide +kernel))) (fun _ h9 => h9) rfl dX4_mayGoOn_44 ?_
            refine lv_icmp_ne (tgt := 54) hx hb dX4_mayGoOn_47 (by decide) (fun _ => ?_) (fun hc => absurd hc (by decide))
            refine lv_iconst (v := 0) hx hb dX4_mayGoOn_54 (by decide) ?_
            refine lv_istore_n (lv' := [(3, .int 0), (2, .int 2), (4, .int 4), (0, .ref a4), (1, .ref f)]) hx hb dX4_mayGoOn_55 rfl hl (by decide) rfl (fun ls hl => ?_)
            refine lv_iinc (v := 5) (lv' := [(4, .int 5), (3, .int 0), (2, .int 2), (0, .ref a4), (1, .ref f)]) hx hb dX4_mayGoOn_56 hl (k := 2) rfl (by decide) (by decide) rfl (fun ls hl => ?_)
            refine lv_goto (tgt := 7) hx hb dX4_mayGoOn_59 (by decide) ?_
            refine lv_iload hx hb dX4_mayGoOn_7 (lv_at hl 0 rfl) ?_
            refine lv_iconst (v := 5) hx hb dX4_mayGoOn_9 (by decide) ?_
            refine lv_icmp_ge (tgt := 62) hx hb dX4_mayGoOn_10 (by decide) (fun _ => ?_) (fun hc => absurd (by decide) hc)
            refine lv_iconst (v := 2) hx hb dX4_mayGoOn_62 (by decide) ?_
            refine lv_iload_n hx hb dX4_mayGoOn_63 rfl (lv_at hl 2 rfl) ?_
            refine lv_imul hx hb dX4_mayGoOn_64 ?_
            refine lv_topi (fun z_31 ez_31 => ?_)
            have fz_31 : z_31 = 4 := ez_31.trans (by decide)
            subst fz_31
            refine lv_aload_n hx hb dX4_mayGoOn_65 rfl (lv_at hl 4 rfl) ?_
            refine va_getN (host := "NoticeStations") (D := D) (ci := 3) (v := .int 5) (C := RX2) (T := TX2) (N := 4) hx hb hts in_X4_mayGoOn_X2 hown hK hP 1 rfl rfl 2 (by decide) (va_Nw.use rfl (hN.1 (.fieldLinkNest "NoticeStations" 228 "NoticeStations$Standing" "size" "I" "NoticeStations") (by decide +kernel))) (fun _ h9 => h9) rfl dX4_mayGoOn_66 ?_
            refine lv_icmp_gt (tgt := 86) hx hb dX4_mayGoOn_69 (by decide) (fun hc => absurd hc (by decide)) (fun _ => ?_)
            refine lv_iconst (v := 2) hx hb dX4_mayGoOn_72 (by decide) ?_
            refine lv_iload_n hx hb dX4_mayGoOn_73 rfl (lv_at hl 2 rfl) ?_
            refine lv_imul hx hb dX4_mayGoOn_74 ?_
            refine lv_topi (fun z_32 ez_32 => ?_)
            have fz_32 : z_32 = 4 := ez_32.trans (by decide)
            subst fz_32
            refine lv_aload_n hx hb dX4_mayGoOn_75 rfl (lv_at hl 4 rfl) ?_
            refine va_getN (host := "NoticeStations") (D := D) (ci := 3) (v := .int 5) (C := RX2) (T := TX2) (N := 4) hx hb hts in_X4_mayGoOn_X2 hown hK hP 1 rfl rfl 2 (by decide) (va_Nw.use rfl (hN.1 (.fieldLinkNest "NoticeStations" 228 "NoticeStations$Standing" "size" "I" "NoticeStations") (by decide +kernel))) (fun _ h9 => h9) rfl dX4_mayGoOn_76 ?_
            refine lv_icmp_ne (tgt := 90) hx hb dX4_mayGoOn_79 (by decide) (fun _ => ?_) (fun hc => absurd hc (by decide))
            refine lv_iconst (v := 0) hx hb dX4_mayGoOn_90 (by decide) ?_
            have hP9 := hP.sub (ws' := [(a4, wS tC 5 gf), (f, .inr (3, [.ref e1, .ref e2, .int 5, .int 0])), (e1, wI tC 0 z1)]) [0, 1, 2] rfl
            have hD9 := hD.sub (ws' := [(a4, wS tC 5 gf), (f, .inr (3, [.ref e1, .ref e2, .int 5, .int 0])), (e1, wI tC 0 z1)]) [0, 1, 2] (by decide) rfl
            refine W.widen (k := 0) (n := 0) (by omega) (by omega) ?_
            exact W.zret (v := 0) hx hb hr (by decide) (fun t ht hW => ⟨⟨0, (), rfl, (by unfold mayg cntb; rw [hb0, hb1, hb2, hb3, hb4] <;> decide), (by rw [ht]; exact hP9), va_K.moved hW.alike hK, hD9⟩, hS.F ht⟩) hS.2.2 dX4_mayGoOn_91 hlocks
        · skip
          refine lv_iload hx hb dX4_mayGoOn_7 (lv_at hl 0 rfl) ?_
          refine lv_iconst (v := 5) hx hb dX4_mayGoOn_9 (by decide) ?_
          refine lv_icmp_ge (tgt := 62) hx hb dX4_mayGoOn_10 (by decide) (fun hc => absurd hc (by decide)) (fun _ => ?_)
          refine lv_aload_n hx hb dX4_mayGoOn_13 rfl (lv_at hl 3 rfl) ?_
          refine lv_iload hx hb dX4_mayGoOn_14 (lv_at hl 0 rfl) ?_
          refine va_aldq hx hb hK hP 0 2 rfl rfl (by unfold vp_in; decide) dX4_mayGoOn_16 ?_
          rw [show gf (3 : Int32).toNatClampNeg = some f from (by rw [show (3 : Int32).toNatClampNeg = 3 by decide, hg 3 (by decide), hb3]; rfl)]
          refine W.eq (g2 := F0 m 17 ls [.ref f]) rfl ?_
          refine lv_ifnull hx hb dX4_mayGoOn_17 ?_
          refine lv_aload_n hx hb dX4_mayGoOn_20 rfl (lv_at hl 3 rfl) ?_
          refine lv_iload hx hb dX4_mayGoOn_21 (lv_at hl 0 rfl) ?_
          refine va_aldq hx hb hK hP 0 2 rfl rfl (by unfold vp_in; decide) dX4_mayGoOn_23 ?_
          rw [show gf (3 : Int32).toNatClampNeg = some f from (by rw [show (3 : Int32).toNatClampNeg = 3 by decide, hg 3 (by decide), hb3]; rfl)]
          refine W.eq (g2 := F0 m 24 ls [.ref f]) rfl ?_
          have hPc := hP.sub (ws' := [(f, .inr (3, [.ref e1, .ref e2, .int 5, .int 0])), (e1, wI tC 0 z1)]) [1, 2] rfl
          have hDc := hD.sub (ws' := [(f, .inr (3, [.ref e1, .ref e2, .int 5, .int 0])), (e1, wI tC 0 z1)]) [1, 2] (by decide) rfl
          have hFc := va_free (wc := [(f, .inr (3, [.ref e1, .ref e2, .int 5, .int 0])), (e1, wI tC 0 z1)]) hD hS hA [1, 2] rfl
          refine va_calli (va_runVN (As := []) (rest := []) ⟨hx, hb, hml, hown, hts⟩ (c_X2_length l hlt D tC dz H.size f e1 e2 z1 ) ⟨(va_cnB (host := "NoticeStations") 0 hts gX4_mayGoOn_X2_length_n107 rfl rfl rfl (hN.1 (.methodLinkNest "NoticeStations" 107 ⟨"NoticeStations$Standing", "length", "()I"⟩ "NoticeStations") (by decide +kernel)) w_0 (by decide +kernel) ⟨Nat.le_of_ble_eq_true rfl, Nat.le_of_ble_eq_true rfl⟩), w_1, w_2⟩ ⟨pB_blind, va_recv hK hPc (ci := 3) (q0 := 0) rfl rfl, pB_at hPc hDc hK hN hE hS hFc⟩ rfl rfl hl.1 rfl (lv_room (Nat.le_of_ble_eq_true rfl)) dX4_mayGoOn_24 ⟨Nat.le_of_ble_eq_true rfl, Nat.le_of_ble_eq_true rfl⟩) hS (fun q _ h => hFc q h) hFc (fun r_33 u t H1 locs ht hvm hw hB hz1 hk1 hS => ?_)
          obtain ⟨hP1, _, hD1⟩ := hB
          have hw_34 := hw
          rw [ht] at hP1
          obtain ⟨hP, hD⟩ := va_join (wr := [(a4, wS tC 5 gf)]) (w1 := [(f, .inr (3, [.ref e1, .ref e2, .int 5, .int 0])), (e1, wI tC 0 z1)]) hP hD [1, 2] [0] rfl rfl (by decide) (by decide) hk1 hFc hP1 hD1
          generalize H1 = H at hP hS ⊢
          have hP : va_P D vwCl [(a4, wS tC 5 gf), (f, .inr (3, [.ref e1, .ref e2, .int 5, .int 0])), (e1, wI tC 0 z1)] H := hP
          have hD : va_D A [(a4, wS tC 5 gf), (f, .inr (3, [.ref e1, .ref e2, .int 5, .int 0])), (e1, wI tC 0 z1)] := hD
          subst hw_34
          refine lv_aload_n hx hb dX4_mayGoOn_27 rfl (lv_at hl 4 rfl) ?_
          have hPc := hP.sub (ws' := [(f, .inr (3, [.ref e1, .ref e2, .int 5, .int 0])), (e1, wI tC 0 z1)]) [1, 2] rfl
          have hDc := hD.sub (ws' := [(f, .inr (3, [.ref e1, .ref e2, .int 5, .int 0])), (e1, wI tC 0 z1)]) [1, 2] (by decide) rfl
          have hFc := va_free (wc := [(f, .inr (3, [.ref e1, .ref e2, .int 5, .int 0])), (e1, wI tC 0 z1)]) hD hS hA [1, 2] rfl
          refine va_calli (va_runVN (As := []) (rest := [.int 0]) ⟨hx, hb, hml, hown, hts⟩ (c_X2_length l hlt D tC dz H.size f e1 e2 z1 ) ⟨(va_cnB (host := "NoticeStations") 0 hts gX4_mayGoOn_X2_length_n107 rfl rfl rfl (hN.1 (.methodLinkNest "NoticeStations" 107 ⟨"NoticeStations$Standing", "length", "()I"⟩ "NoticeStations") (by decide +kernel)) w_0 (by decide +kernel) ⟨Nat.le_of_ble_eq_true rfl, Nat.le_of_ble_eq_true rfl⟩), w_1, w_2⟩ ⟨pB_blind, va_recv hK hPc (ci := 3) (q0 := 0) rfl rfl, pB_at hPc hDc hK hN hE hS hFc⟩ rfl rfl hl.1 rfl (lv_room (Nat.le_of_ble_eq_true rfl)) dX4_mayGoOn_28 ⟨Nat.le_of_ble_eq_true rfl, Nat.le_of_ble_eq_true rfl⟩) hS (fun q _ h => hFc q h) hFc (fun r_35 u t H1 locs ht hvm hw hB hz1 hk1 hS => ?_)
          obtain ⟨hP1, _, hD1⟩ := hB
          have hw_36 := hw
          rw [ht] at hP1
          obtain ⟨hP, hD⟩ := va_join (wr := [(a4, wS tC 5 gf)]) (w1 := [(f, .inr (3, [.ref e1, .ref e2, .int 5, .int 0])), (e1, wI tC 0 z1)]) hP hD [1, 2] [0] rfl rfl (by decide) (by decide) hk1 hFc hP1 hD1
          generalize H1 = H at hP hS ⊢
          have hP : va_P D vwCl [(a4, wS tC 5 gf), (f, .inr (3, [.ref e1, .ref e2, .int 5, .int 0])), (e1, wI tC 0 z1)] H := hP
          have hD : va_D A [(a4, wS tC 5 gf), (f, .inr (3, [.ref e1, .ref e2, .int 5, .int 0])), (e1, wI tC 0 z1)] := hD
          subst hw_36
          refine lv_icmp_ne (tgt := 56) hx hb dX4_mayGoOn_31 (by decide) (fun hc => absurd (by decide) hc) (fun _ => ?_)
          refine lv_iinc (v := 2) (lv' := [(2, .int 2), (4, .int 3), (3, .int 0), (0, .ref a4), (1, .ref f)]) hx hb dX4_mayGoOn_34 hl (k := 2) rfl (by decide) (by decide) rfl (fun ls hl => ?_)
          refine lv_iload_n hx hb dX4_mayGoOn_37 rfl (lv_at hl 2 rfl) ?_
          refine lv_if_ne (tgt := 50) hx hb dX4_mayGoOn_38 (by decide) (fun hc => absurd (by decide) hc) (fun _ => ?_)
          refine lv_iload hx hb dX4_mayGoOn_41 (lv_at hl 1 rfl) ?_
          refine lv_aload_n hx hb dX4_mayGoOn_43 rfl (lv_at hl 4 rfl) ?_
          refine va_getN (host := "NoticeStations") (D := D) (ci := 3) (v := .int 0) (C := RX2) (T := TX2) (N := 4) hx hb hts in_X4_mayGoOn_X2 hown hK hP 1 rfl rfl 3 (by decide) (va_Nw.use rfl (hN.1 (.fieldLinkNest "NoticeStations" 230 "NoticeStations$Standing" "named" "I" "NoticeStations") (by decide +kernel))) (fun _ h9 => h9) rfl dX4_mayGoOn_44 ?_
          refine lv_icmp_ne (tgt := 54) hx hb dX4_mayGoOn_47 (by decide) (fun _ => ?_) (fun hc => absurd hc (by decide))
          refine lv_iconst (v := 0) hx hb dX4_mayGoOn_54 (by decide) ?_
          refine lv_istore_n (lv' := [(3, .int 0), (2, .int 2), (4, .int 3), (0, .ref a4), (1, .ref f)]) hx hb dX4_mayGoOn_55 rfl hl (by decide) rfl (fun ls hl => ?_)
          refine lv_iinc (v := 4) (lv' := [(4, .int 4), (3, .int 0), (2, .int 2), (0, .ref a4), (1, .ref f)]) hx hb dX4_mayGoOn_56 hl (k := 2) rfl (by decide) (by decide) rfl (fun ls hl => ?_)
          refine lv_goto (tgt := 7) hx hb dX4_mayGoOn_59 (by decide) ?_
          cases hb4 : bt 4
          · skip
            refine lv_iload hx hb dX4_mayGoOn_7 (lv_at hl 0 rfl) ?_
            refine lv_iconst (v := 5) hx hb dX4_mayGoOn_9 (by decide) ?_
            refine lv_icmp_ge (tgt := 62) hx hb dX4_mayGoOn_10 (by decide) (fun hc => absurd hc (by decide)) (fun _ => ?_)
            refine lv_aload_n hx hb dX4_mayGoOn_13 rfl (lv_at hl 3 rfl) ?_
            refine lv_iload hx hb dX4_mayGoOn_14 (lv_at hl 0 rfl) ?_
            refine va_aldq hx hb hK hP 0 2 rfl rfl (by unfold vp_in; decide) dX4_mayGoOn_16 ?_
            rw [show gf (4 : Int32).toNatClampNeg = none from (by rw [show (4 : Int32).toNatClampNeg = 4 by decide, hg 4 (by decide), hb4]; rfl)]
            refine W.eq (g2 := F0 m 17 ls [.null]) rfl ?_
            refine lv_ifnullN (tgt := 56) hx hb dX4_mayGoOn_17 (by decide) ?_
            refine lv_iinc (v := 5) (lv' := [(4, .int 5), (3, .int 0), (2, .int 2), (0, .ref a4), (1, .ref f)]) hx hb dX4_mayGoOn_56 hl (k := 0) rfl (by decide) (by decide) rfl (fun ls hl => ?_)
            refine lv_goto (tgt := 7) hx hb dX4_mayGoOn_59 (by decide) ?_
            refine lv_iload hx hb dX4_mayGoOn_7 (lv_at hl 0 rfl) ?_
            refine lv_iconst (v := 5) hx hb dX4_mayGoOn_9 (by decide) ?_
            refine lv_icmp_ge (tgt := 62) hx hb dX4_mayGoOn_10 (by decide) (fun _ => ?_) (fun hc => absurd (by decide) hc)
            refine lv_iconst (v := 2) hx hb dX4_mayGoOn_62 (by decide) ?_
            refine lv_iload_n hx hb dX4_mayGoOn_63 rfl (lv_at hl 2 rfl) ?_
            refine lv_imul hx hb dX4_mayGoOn_64 ?_
            refine lv_topi (fun z_37 ez_37 => ?_)
            have fz_37 : z_37 = 4 := ez_37.trans (by decide)
            subst fz_37
            refine lv_aload_n hx hb dX4_mayGoOn_65 rfl (lv_at hl 4 rfl) ?_
            refine va_getN (host := "NoticeStations") (D := D) (ci := 3) (v := .int 5) (C := RX2) (T := TX2) (N := 4) hx hb hts in_X4_mayGoOn_X2 hown hK hP 1 rfl rfl 2 (by decide) (va_Nw.use rfl (hN.1 (.fieldLinkNest "NoticeStations" 228 "NoticeStations$Standing" "size" "I" "NoticeStations") (by decide +kernel))) (fun _ h9 => h9) rfl dX4_mayGoOn_66 ?_
            refine lv_icmp_gt (tgt := 86) hx hb dX4_mayGoOn_69 (by decide) (fun hc => absurd hc (by decide)) (fun _ => ?_)
            refine lv_iconst (v := 2) hx hb dX4_mayGoOn_72 (by decide) ?_
            refine lv_iload_n hx hb dX4_mayGoOn_73 rfl (lv_at hl 2 rfl) ?_
            refine lv_imul hx hb dX4_mayGoOn_74 ?_
            refine lv_topi (fun z_38 ez_38 => ?_)
            have fz_38 : z_38 = 4 := ez_38.trans (by decide)
            subst fz_38
            refine lv_aload_n hx hb dX4_mayGoOn_75 rfl (lv_at hl 4 rfl) ?_
            refine va_getN (host := "NoticeStations") (D := D) (ci := 3) (v := .int 5) (C := RX2) (T := TX2) (N := 4) hx hb hts in_X4_mayGoOn_X2 hown hK hP 1 rfl rfl 2 (by decide) (va_Nw.use rfl (hN.1 (.fieldLinkNest "NoticeStations" 228 "NoticeStations$Standing" "size" "I" "NoticeStations") (by decide +kernel))) (fun _ h9 => h9) rfl dX4_mayGoOn_76 ?_
            refine lv_icmp_ne (tgt := 90) hx hb dX4_mayGoOn_79 (by decide) (fun _ => ?_) (fun hc => absurd hc (by decide))
            refine lv_iconst (v := 0) hx hb dX4_mayGoOn_90 (by decide) ?_
            have hP9 := hP.sub (ws' := [(a4, wS tC 5 gf), (f, .inr (3, [.ref e1, .ref e2, .int 5, .int 0])), (e1, wI tC 0 z1)]) [0, 1, 2] rfl
            have hD9 := hD.sub (ws' := [(a4, wS tC 5 gf), (f, .inr (3, [.ref e1, .ref e2, .int 5, .int 0])), (e1, wI tC 0 z1)]) [0, 1, 2] (by decide) rfl
            refine W.widen (k := 0) (n := 0) (by omega) (by omega) ?_
            exact W.zret (v := 0) hx hb hr (by decide) (fun t ht hW => ⟨⟨0, (), rfl, (by unfold mayg cntb; rw [hb0, hb1, hb2, hb3, hb4] <;> decide), (by rw [ht]; exact hP9), va_K.moved hW.alike hK, hD9⟩, hS.F ht⟩) hS.2.2 dX4_mayGoOn_91 hlocks
          · skip
            refine lv_iload hx hb dX4_mayGoOn_7 (lv_at hl 0 rfl) ?_
            refine lv_iconst (v := 5) hx hb dX4_mayGoOn_9 (by decide) ?_
            refine lv_icmp_ge (tgt := 62) hx hb dX4_mayGoOn_10 (by decide) (fun hc => absurd hc (by decide)) (fun _ => ?_)
            refine lv_aload_n hx hb dX4_mayGoOn_13 rfl (lv_at hl 3 rfl) ?_
            refine lv_iload hx hb dX4_mayGoOn_14 (lv_at hl 0 rfl) ?_
            refine va_aldq hx hb hK hP 0 2 rfl rfl (by unfold vp_in; decide) dX4_mayGoOn_16 ?_
            rw [show gf (4 : Int32).toNatClampNeg = some f from (by rw [show (4 : Int32).toNatClampNeg = 4 by decide, hg 4 (by decide), hb4]; rfl)]
            refine W.eq (g2 := F0 m 17 ls [.ref f]) rfl ?_
            refine lv_ifnull hx hb dX4_mayGoOn_17 ?_
            refine lv_aload_n hx hb dX4_mayGoOn_20 rfl (lv_at hl 3 rfl) ?_
            refine lv_iload hx hb dX4_mayGoOn_21 (lv_at hl 0 rfl) ?_
            refine va_aldq hx hb hK hP 0 2 rfl rfl (by unfold vp_in; decide) dX4_mayGoOn_23 ?_
            rw [show gf (4 : Int32).toNatClampNeg = some f from (by rw [show (4 : Int32).toNatClampNeg = 4 by decide, hg 4 (by decide), hb4]; rfl)]
            refine W.eq (g2 := F0 m 24 ls [.ref f]) rfl ?_
            have hPc := hP.sub (ws' := [(f, .inr (3, [.ref e1, .ref e2, .int 5, .int 0])), (e1, wI tC 0 z1)]) [1, 2] rfl
            have hDc := hD.sub (ws' := [(f, .inr (3, [.ref e1, .ref e2, .int 5, .int 0])), (e1, wI tC 0 z1)]) [1, 2] (by decide) rfl
            have hFc := va_free (wc := [(f, .inr (3, [.ref e1, .ref e2, .int 5, .int 0])), (e1, wI tC 0 z1)]) hD hS hA [1, 2] rfl
            refine va_calli (va_runVN (As := []) (rest := []) ⟨hx, hb, hml, hown, hts⟩ (c_X2_length l hlt D tC dz H.size f e1 e2 z1 ) ⟨(va_cnB (host := "NoticeStations") 0 hts gX4_mayGoOn_X2_length_n107 rfl rfl rfl (hN.1 (.methodLinkNest "NoticeStations" 107 ⟨"NoticeStations$Standing", "length", "()I"⟩ "NoticeStations") (by decide +kernel)) w_0 (by decide +kernel) ⟨Nat.le_of_ble_eq_true rfl, Nat.le_of_ble_eq_true rfl⟩), w_1, w_2⟩ ⟨pB_blind, va_recv hK hPc (ci := 3) (q0 := 0) rfl rfl, pB_at hPc hDc hK hN hE hS hFc⟩ rfl rfl hl.1 rfl (lv_room (Nat.le_of_ble_eq_true rfl)) dX4_mayGoOn_24 ⟨Nat.le_of_ble_eq_true rfl, Nat.le_of_ble_eq_true rfl⟩) hS (fun q _ h => hFc q h) hFc (fun r_39 u t H1 locs ht hvm hw hB hz1 hk1 hS => ?_)
            obtain ⟨hP1, _, hD1⟩ := hB
            have hw_40 := hw
            rw [ht] at hP1
            obtain ⟨hP, hD⟩ := va_join (wr := [(a4, wS tC 5 gf)]) (w1 := [(f, .inr (3, [.ref e1, .ref e2, .int 5, .int 0])), (e1, wI tC 0 z1)]) hP hD [1, 2] [0] rfl rfl (by decide) (by decide) hk1 hFc hP1 hD1
            generalize H1 = H at hP hS ⊢
            have hP : va_P D vwCl [(a4, wS tC 5 gf), (f, .inr (3, [.ref e1, .ref e2, .int 5, .int 0])), (e1, wI tC 0 z1)] H := hP
            have hD : va_D A [(a4, wS tC 5 gf), (f, .inr (3, [.ref e1, .ref e2, .int 5, .int 0])), (e1, wI tC 0 z1)] := hD
            subst hw_40
            refine lv_aload_n hx hb dX4_mayGoOn_27 rfl (lv_at hl 4 rfl) ?_
            have hPc := hP.sub (ws' := [(f, .inr (3, [.ref e1, .ref e2, .int 5, .int 0])), (e1, wI tC 0 z1)]) [1, 2] rfl
            have hDc := hD.sub (ws' := [(f, .inr (3, [.ref e1, .ref e2, .int 5, .int 0])), (e1, wI tC 0 z1)]) [1, 2] (by decide) rfl
            have hFc := va_free (wc := [(f, .inr (3, [.ref e1, .ref e2, .int 5, .int 0])), (e1, wI tC 0 z1)]) hD hS hA [1, 2] rfl
            refine va_calli (va_runVN (As := []) (rest := [.int 0]) ⟨hx, hb, hml, hown, hts⟩ (c_X2_length l hlt D tC dz H.size f e1 e2 z1 ) ⟨(va_cnB (host := "NoticeStations") 0 hts gX4_mayGoOn_X2_length_n107 rfl rfl rfl (hN.1 (.methodLinkNest "NoticeStations" 107 ⟨"NoticeStations$Standing", "length", "()I"⟩ "NoticeStations") (by decide +kernel)) w_0 (by decide +kernel) ⟨Nat.le_of_ble_eq_true rfl, Nat.le_of_ble_eq_true rfl⟩), w_1, w_2⟩ ⟨pB_blind, va_recv hK hPc (ci := 3) (q0 := 0) rfl rfl, pB_at hPc hDc hK hN hE hS hFc⟩ rfl rfl hl.1 rfl (lv_room (Nat.le_of_ble_eq_true rfl)) dX4_mayGoOn_28 ⟨Nat.le_of_ble_eq_true rfl, Nat.le_of_ble_eq_true rfl⟩) hS (fun q _ h => hFc q h) hFc (fun r_41 u t H1 locs ht hvm hw hB hz1 hk1 hS => ?_)
            obtain ⟨hP1, _, hD1⟩ := hB
            have hw_42 := hw
            rw [ht] at hP1
            obtain ⟨hP, hD⟩ := va_join (wr := [(a4, wS tC 5 gf)]) (w1 := [(f, .inr (3, [.ref e1, .ref e2, .int 5, .int 0])), (e1, wI tC 0 z1)]) hP hD [1, 2] [0] rfl rfl (by decide) (by decide) hk1 hFc hP1 hD1
            generalize H1 = H at hP hS ⊢
            have hP : va_P D vwCl [(a4, wS tC 5 gf), (f, .inr (3, [.ref e1, .ref e2, .int 5, .int 0])), (e1, wI tC 0 z1)] H := hP
            have hD : va_D A [(a4, wS tC 5 gf), (f, .inr (3, [.ref e1, .ref e2, .int 5, .int 0])), (e1, wI tC 0 z1)] := hD
            subst hw_42
            refine lv_icmp_ne (tgt := 56) hx hb dX4_mayGoOn_31 (by decide) (fun hc => absurd (by decide) hc) (fun _ => ?_)
            refine lv_iinc (v := 3) (lv' := [(2, .int 3), (4, .int 4), (3, .int 0), (0, .ref a4), (1, .ref f)]) hx hb dX4_mayGoOn_34 hl (k := 2) rfl (by decide) (by decide) rfl (fun ls hl => ?_)
            refine lv_iload_n hx hb dX4_mayGoOn_37 rfl (lv_at hl 2 rfl) ?_
            refine lv_if_ne (tgt := 50) hx hb dX4_mayGoOn_38 (by decide) (fun hc => absurd (by decide) hc) (fun _ => ?_)
            refine lv_iload hx hb dX4_mayGoOn_41 (lv_at hl 1 rfl) ?_
            refine lv_aload_n hx hb dX4_mayGoOn_43 rfl (lv_at hl 4 rfl) ?_
            refine va_getN (host := "NoticeStations") (D := D) (ci := 3) (v := .int 0) (C := RX2) (T := TX2) (N := 4) hx hb hts in_X4_mayGoOn_X2 hown hK hP 1 rfl rfl 3 (by decide) (va_Nw.use rfl (hN.1 (.fieldLinkNest "NoticeStations" 230 "NoticeStations$Standing" "named" "I" "NoticeStations") (by decide +kernel))) (fun _ h9 => h9) rfl dX4_mayGoOn_44 ?_
            refine lv_icmp_ne (tgt := 54) hx hb dX4_mayGoOn_47 (by decide) (fun _ => ?_) (fun hc => absurd hc (by decide))
            refine lv_iconst (v := 0) hx hb dX4_mayGoOn_54 (by decide) ?_
            refine lv_istore_n (lv' := [(3, .int 0), (2, .int 3), (4, .int 4), (0, .ref a4), (1, .ref f)]) hx hb dX4_mayGoOn_55 rfl hl (by decide) rfl (fun ls hl => ?_)
            refine lv_iinc (v := 5) (lv' := [(4, .int 5), (3, .int 0), (2, .int 3), (0, .ref a4), (1, .ref f)]) hx hb dX4_mayGoOn_56 hl (k := 2) rfl (by decide) (by decide) rfl (fun ls hl => ?_)
            refine lv_goto (tgt := 7) hx hb dX4_mayGoOn_59 (by decide) ?_
            refine lv_iload hx hb dX4_mayGoOn_7 (lv_at hl 0 rfl) ?_
            refine lv_iconst (v := 5) hx hb dX4_mayGoOn_9 (by decide) ?_
            refine lv_icmp_ge (tgt := 62) hx hb dX4_mayGoOn_10 (by decide) (fun _ => ?_) (fun hc => absurd (by decide) hc)
            refine lv_iconst (v := 2) hx hb dX4_mayGoOn_62 (by decide) ?_
            refine lv_iload_n hx hb dX4_mayGoOn_63 rfl (lv_at hl 2 rfl) ?_
            refine lv_imul hx hb dX4_mayGoOn_64 ?_
            refine lv_topi (fun z_43 ez_43 => ?_)
            have fz_43 : z_43 = 6 := ez_43.trans (by decide)
            subst fz_43
            refine lv_aload_n hx hb dX4_mayGoOn_65 rfl (lv_at hl 4 rfl) ?_
            refine va_getN (host := "NoticeStations") (D := D) (ci := 3) (v := .int 5) (C := RX2) (T := TX2) (N := 4) hx hb hts in_X4_mayGoOn_X2 hown hK hP 1 rfl rfl 2 (by decide) (va_Nw.use rfl (hN.1 (.fieldLinkNest "NoticeStations" 228 "NoticeStations$Standing" "size" "I" "NoticeStations") (by decide +kernel))) (fun _ h9 => h9) rfl dX4_mayGoOn_66 ?_
            refine lv_icmp_gt (tgt := 86) hx hb dX4_mayGoOn_69 (by decide) (fun _ => ?_) (fun hc => absurd (by decide) hc)
            refine lv_iconst (v := 1) hx hb dX4_mayGoOn_86 (by decide) ?_
            refine lv_goto (tgt := 91) hx hb dX4_mayGoOn_87 (by decide) ?_
            have hP9 := hP.sub (ws' := [(a4, wS tC 5 gf), (f, .inr (3, [.ref e1, .ref e2, .int 5, .int 0])), (e1, wI tC 0 z1)]) [0, 1, 2] rfl
            have hD9 := hD.sub (ws' := [(a4, wS tC 5 gf), (f, .inr (3, [.ref e1, .ref e2, .int 5, .int 0])), (e1, wI tC 0 z1)]) [0, 1, 2] (by decide) rfl
            refine W.widen (k := 0) (n := 0) (by omega) (by omega) ?_
            exact W.zret (v := 1) hx hb hr (by decide) (fun t ht hW => ⟨⟨1, (), rfl, (by unfold mayg cntb; rw [hb0, hb1, hb2, hb3, hb4] <;> decide), (by rw [ht]; exact hP9), va_K.moved hW.alike hK, hD9⟩, hS.F ht⟩) hS.2.2 dX4_mayGoOn_91 hlocks
    · skip
      refine lv_iload hx hb dX4_mayGoOn_7 (lv_at hl 0 rfl) ?_
      refine lv_iconst (v := 5) hx hb dX4_mayGoOn_9 (by decide) ?_
      refine lv_icmp_ge (tgt := 62) hx hb dX4_mayGoOn_10 (by decide) (fun hc => absurd hc (by decide)) (fun _ => ?_)
      refine lv_aload_n hx hb dX4_mayGoOn_13 rfl (lv_at hl 3 rfl) ?_
      refine lv_iload hx hb dX4_mayGoOn_14 (lv_at hl 0 rfl) ?_
      refine va_aldq hx hb hK hP 0 2 rfl rfl (by unfold vp_in; decide) dX4_mayGoOn_16 ?_
      rw [show gf (1 : Int32).toNatClampNeg = some f from (by rw [show (1 : Int32).toNatClampNeg = 1 by decide, hg 1 (by decide), hb1]; rfl)]
      refine W.eq (g2 := F0 m 17 ls [.ref f]) rfl ?_
      refine lv_ifnull hx hb dX4_mayGoOn_17 ?_
      refine lv_aload_n hx hb dX4_mayGoOn_20 rfl (lv_at hl 3 rfl) ?_
      refine lv_iload hx hb dX4_mayGoOn_21 (lv_at hl 0 rfl) ?_
      refine va_aldq hx hb hK hP 0 2 rfl rfl (by unfold vp_in; decide) dX4_mayGoOn_23 ?_
      rw [show gf (1 : Int32).toNatClampNeg = some f from (by rw [show (1 : Int32).toNatClampNeg = 1 by decide, hg 1 (by decide), hb1]; rfl)]
      refine W.eq (g2 := F0 m 24 ls [.ref f]) rfl ?_
      have hPc := hP.sub (ws' := [(f, .inr (3, [.ref e1, .ref e2, .int 5, .int 0])), (e1, wI tC 0 z1)]) [1, 2] rfl
      have hDc := hD.sub (ws' := [(f, .inr (3, [.ref e1, .ref e2, .int 5, .int 0])), (e1, wI tC 0 z1)]) [1, 2] (by decide) rfl
      have hFc := va_free (wc := [(f, .inr (3, [.ref e1, .ref e2, .int 5, .int 0])), (e1, wI tC 0 z1)]) hD hS hA [1, 2] rfl
      refine va_calli (va_runVN (As := []) (rest := []) ⟨hx, hb, hml, hown, hts⟩ (c_X2_length l hlt D tC dz s.heap.size f e1 e2 z1 ) ⟨(va_cnB (host := "NoticeStations") 0 hts gX4_mayGoOn_X2_length_n107 rfl rfl rfl (hN.1 (.methodLinkNest "NoticeStations" 107 ⟨"NoticeStations$Standing", "length", "()I"⟩ "NoticeStations") (by decide +kernel)) w_0 (by decide +kernel) ⟨Nat.le_of_ble_eq_true rfl, Nat.le_of_ble_eq_true rfl⟩), w_1, w_2⟩ ⟨pB_blind, va_recv hK hPc (ci := 3) (q0 := 0) rfl rfl, pB_at hPc hDc hK hN hE hS hFc⟩ rfl rfl hl.1 rfl (lv_room (Nat.le_of_ble_eq_true rfl)) dX4_mayGoOn_24 ⟨Nat.le_of_ble_eq_true rfl, Nat.le_of_ble_eq_true rfl⟩) hS (fun q _ h => hFc q h) hFc (fun r_44 u t H1 locs ht hvm hw hB hz1 hk1 hS => ?_)
      obtain ⟨hP1, _, hD1⟩ := hB
      have hw_45 := hw
      rw [ht] at hP1
      obtain ⟨hP, hD⟩ := va_join (wr := [(a4, wS tC 5 gf)]) (w1 := [(f, .inr (3, [.ref e1, .ref e2, .int 5, .int 0])), (e1, wI tC 0 z1)]) hP hD [1, 2] [0] rfl rfl (by decide) (by decide) hk1 hFc hP1 hD1
      generalize H1 = H at hP hS ⊢
      have hP : va_P D vwCl [(a4, wS tC 5 gf), (f, .inr (3, [.ref e1, .ref e2, .int 5, .int 0])), (e1, wI tC 0 z1)] H := hP
      have hD : va_D A [(a4, wS tC 5 gf), (f, .inr (3, [.ref e1, .ref e2, .int 5, .int 0])), (e1, wI tC 0 z1)] := hD
      subst hw_45
      refine lv_aload_n hx hb dX4_mayGoOn_27 rfl (lv_at hl 4 rfl) ?_
      have hPc := hP.sub (ws' := [(f, .inr (3, [.ref e1, .ref e2, .int 5, .int 0])), (e1, wI tC 0 z1)]) [1, 2] rfl
      have hDc := hD.sub (ws' := [(f, .inr (3, [.ref e1, .ref e2, .int 5, .int 0])), (e1, wI tC 0 z1)]) [1, 2] (by decide) rfl
      have hFc := va_free (wc := [(f, .inr (3, [.ref e1, .ref e2, .int 5, .int 0])), (e1, wI tC 0 z1)]) hD hS hA [1, 2] rfl
      refine va_calli (va_runVN (As := []) (rest := [.int 0]) ⟨hx, hb, hml, hown, hts⟩ (c_X2_length l hlt D tC dz H.size f e1 e2 z1 ) ⟨(va_cnB (host := "NoticeStations") 0 hts gX4_mayGoOn_X2_length_n107 rfl rfl rfl (hN.1 (.methodLinkNest "NoticeStations" 107 ⟨"NoticeStations$Standing", "length", "()I"⟩ "NoticeStations") (by decide +kernel)) w_0 (by decide +kernel) ⟨Nat.le_of_ble_eq_true rfl, Nat.le_of_ble_eq_true rfl⟩), w_1, w_2⟩ ⟨pB_blind, va_recv hK hPc (ci := 3) (q0 := 0) rfl rfl, pB_at hPc hDc hK hN hE hS hFc⟩ rfl rfl hl.1 rfl (lv_room (Nat.le_of_ble_eq_true rfl)) dX4_mayGoOn_28 ⟨Nat.le_of_ble_eq_true rfl, Nat.le_of_ble_eq_true rfl⟩) hS (fun q _ h => hFc q h) hFc (fun r_46 u t H1 locs ht hvm hw hB hz1 hk1 hS => ?_)
      obtain ⟨hP1, _, hD1⟩ := hB
      have hw_47 := hw
      rw [ht] at hP1
      obtain ⟨hP, hD⟩ := va_join (wr := [(a4, wS tC 5 gf)]) (w1 := [(f, .inr (3, [.ref e1, .ref e2, .int 5, .int 0])), (e1, wI tC 0 z1)]) hP hD [1, 2] [0] rfl rfl (by decide) (by decide) hk1 hFc hP1 hD1
      generalize H1 = H at hP hS ⊢
      have hP : va_P D vwCl [(a4, wS tC 5 gf), (f, .inr (3, [.ref e1, .ref e2, .int 5, .int 0])), (e1, wI tC 0 z1)] H := hP
      have hD : va_D A [(a4, wS tC 5 gf), (f, .inr (3, [.ref e1, .ref e2, .int 5, .int 0])), (e1, wI tC 0 z1)] := hD
      subst hw_47
      refine lv_icmp_ne (tgt := 56) hx hb dX4_mayGoOn_31 (by decide) (fun hc => absurd (by decide) hc) (fun _ => ?_)
      refine lv_iinc (v := 1) (lv' := [(2, .int 1), (4, .int 1), (3, .int 0), (0, .ref a4), (1, .ref f)]) hx hb dX4_mayGoOn_34 hl (k := 2) rfl (by decide) (by decide) rfl (fun ls hl => ?_)
      refine lv_iload_n hx hb dX4_mayGoOn_37 rfl (lv_at hl 2 rfl) ?_
      refine lv_if_ne (tgt := 50) hx hb dX4_mayGoOn_38 (by decide) (fun hc => absurd (by decide) hc) (fun _ => ?_)
      refine lv_iload hx hb dX4_mayGoOn_41 (lv_at hl 1 rfl) ?_
      refine lv_aload_n hx hb dX4_mayGoOn_43 rfl (lv_at hl 4 rfl) ?_
      refine va_getN (host := "NoticeStations") (D := D) (ci := 3) (v := .int 0) (C := RX2) (T := TX2) (N := 4) hx hb hts in_X4_mayGoOn_X2 hown hK hP 1 rfl rfl 3 (by decide) (va_Nw.use rfl (hN.1 (.fieldLinkNest "NoticeStations" 230 "NoticeStations$Standing" "named" "I" "NoticeStations") (by decide +kernel))) (fun _ h9 => h9) rfl dX4_mayGoOn_44 ?_
      refine lv_icmp_ne (tgt := 54) hx hb dX4_mayGoOn_47 (by decide) (fun _ => ?_) (fun hc => absurd hc (by decide))
      refine lv_iconst (v := 0) hx hb dX4_mayGoOn_54 (by decide) ?_
      refine lv_istore_n (lv' := [(3, .int 0), (2, .int 1), (4, .int 1), (0, .ref a4), (1, .ref f)]) hx hb dX4_mayGoOn_55 rfl hl (by decide) rfl (fun ls hl => ?_)
      refine lv_iinc (v := 2) (lv' := [(4, .int 2), (3, .int 0), (2, .int 1), (0, .ref a4), (1, .ref f)]) hx hb dX4_mayGoOn_56 hl (k := 2) rfl (by decide) (by decide) rfl (fun ls hl => ?_)
      refine lv_goto (tgt := 7) hx hb dX4_mayGoOn_59 (by decide) ?_
      cases hb2 : bt 2
      · skip
        refine lv_iload hx hb dX4_mayGoOn_7 (lv_at hl 0 rfl) ?_
        refine lv_iconst (v := 5) hx hb dX4_mayGoOn_9 (by decide) ?_
        refine lv_icmp_ge (tgt := 62) hx hb dX4_mayGoOn_10 (by decide) (fun hc => absurd hc (by decide)) (fun _ => ?_)
        refine lv_aload_n hx hb dX4_mayGoOn_13 rfl (lv_at hl 3 rfl) ?_
        refine lv_iload hx hb dX4_mayGoOn_14 (lv_at hl 0 rfl) ?_
        refine va_aldq hx hb hK hP 0 2 rfl rfl (by unfold vp_in; decide) dX4_mayGoOn_16 ?_
        rw [show gf (2 : Int32).toNatClampNeg = none from (by rw [show (2 : Int32).toNatClampNeg = 2 by decide, hg 2 (by decide), hb2]; rfl)]
        refine W.eq (g2 := F0 m 17 ls [.null]) rfl ?_
        refine lv_ifnullN (tgt := 56) hx hb dX4_mayGoOn_17 (by decide) ?_
        refine lv_iinc (v := 3) (lv' := [(4, .int 3), (3, .int 0), (2, .int 1), (0, .ref a4), (1, .ref f)]) hx hb dX4_mayGoOn_56 hl (k := 0) rfl (by decide) (by decide) rfl (fun ls hl => ?_)
        refine lv_goto (tgt := 7) hx hb dX4_mayGoOn_59 (by decide) ?_
        cases hb3 : bt 3
        · skip
          refine lv_iload hx hb dX4_mayGoOn_7 (lv_at hl 0 rfl) ?_
          refine lv_iconst (v := 5) hx hb dX4_mayGoOn_9 (by decide) ?_
          refine lv_icmp_ge (tgt := 62) hx hb dX4_mayGoOn_10 (by decide) (fun hc => absurd hc (by decide)) (fun _ => ?_)
          refine lv_aload_n hx hb dX4_mayGoOn_13 rfl (lv_at hl 3 rfl) ?_
          refine lv_iload hx hb dX4_mayGoOn_14 (lv_at hl 0 rfl) ?_
          refine va_aldq hx hb hK hP 0 2 rfl rfl (by unfold vp_in; decide) dX4_mayGoOn_16 ?_
          rw [show gf (3 : Int32).toNatClampNeg = none from (by rw [show (3 : Int32).toNatClampNeg = 3 by decide, hg 3 (by decide), hb3]; rfl)]
          refine W.eq (g2 := F0 m 17 ls [.null]) rfl ?_
          refine lv_ifnullN (tgt := 56) hx hb dX4_mayGoOn_17 (by decide) ?_
          refine lv_iinc (v := 4) (lv' := [(4, .int 4), (3, .int 0), (2, .int 1), (0, .ref a4), (1, .ref f)]) hx hb dX4_mayGoOn_56 hl (k := 0) rfl (by decide) (by decide) rfl (fun ls hl => ?_)
          refine lv_goto (tgt := 7) hx hb dX4_mayGoOn_59 (by decide) ?_
          cases hb4 : bt 4
          · skip
            refine lv_iload hx hb dX4_mayGoOn_7 (lv_at hl 0 rfl) ?_
            refine lv_iconst (v := 5) hx hb dX4_mayGoOn_9 (by decide) ?_
            refine lv_icmp_ge (tgt := 62) hx hb dX4_mayGoOn_10 (by decide) (fun hc => absurd hc (by decide)) (fun _ => ?_)
            refine lv_aload_n hx hb dX4_mayGoOn_13 rfl (lv_at hl 3 rfl) ?_
            refine lv_iload hx hb dX4_mayGoOn_14 (lv_at hl 0 rfl) ?_
            refine va_aldq hx hb hK hP 0 2 rfl rfl (by unfold vp_in; decide) dX4_mayGoOn_16 ?_
            rw [show gf (4 : Int32).toNatClampNeg = none from (by rw [show (4 : Int32).toNatClampNeg = 4 by decide, hg 4 (by decide), hb4]; rfl)]
            refine W.eq (g2 := F0 m 17 ls [.null]) rfl ?_
            refine lv_ifnullN (tgt := 56) hx hb dX4_mayGoOn_17 (by decide) ?_
            refine lv_iinc (v := 5) (lv' := [(4, .int 5), (3, .int 0), (2, .int 1), (0, .ref a4), (1, .ref f)]) hx hb dX4_mayGoOn_56 hl (k := 0) rfl (by decide) (by decide) rfl (fun ls hl => ?_)
            refine lv_goto (tgt := 7) hx hb dX4_mayGoOn_59 (by decide) ?_
            refine lv_iload hx hb dX4_mayGoOn_7 (lv_at hl 0 rfl) ?_
            refine lv_iconst (v := 5) hx hb dX4_mayGoOn_9 (by decide) ?_
            refine lv_icmp_ge (tgt := 62) hx hb dX4_mayGoOn_10 (by decide) (fun _ => ?_) (fun hc => absurd (by decide) hc)
            refine lv_iconst (v := 2) hx hb dX4_mayGoOn_62 (by decide) ?_
            refine lv_iload_n hx hb dX4_mayGoOn_63 rfl (lv_at hl 2 rfl) ?_
            refine lv_imul hx hb dX4_mayGoOn_64 ?_
            refine lv_topi (fun z_48 ez_48 => ?_)
            have fz_48 : z_48 = 2 := ez_48.trans (by decide)
            subst fz_48
            refine lv_aload_n hx hb dX4_mayGoOn_65 rfl (lv_at hl 4 rfl) ?_
            refine va_getN (host := "NoticeStations") (D := D) (ci := 3) (v := .int 5) (C := RX2) (T := TX2) (N := 4) hx hb hts in_X4_mayGoOn_X2 hown hK hP 1 rfl rfl 2 (by decide) (va_Nw.use rfl (hN.1 (.fieldLinkNest "NoticeStations" 228 "NoticeStations$Standing" "size" "I" "NoticeStations") (by decide +kernel))) (fun _ h9 => h9) rfl dX4_mayGoOn_66 ?_
            refine lv_icmp_gt (tgt := 86) hx hb dX4_mayGoOn_69 (by decide) (fun hc => absurd hc (by decide)) (fun _ => ?_)
            refine lv_iconst (v := 2) hx hb dX4_mayGoOn_72 (by decide) ?_
            refine lv_iload_n hx hb dX4_mayGoOn_73 rfl (lv_at hl 2 rfl) ?_
            refine lv_imul hx hb dX4_mayGoOn_74 ?_
            refine lv_topi (fun z_49 ez_49 => ?_)
            have fz_49 : z_49 = 2 := ez_49.trans (by decide)
            subst fz_49
            refine lv_aload_n hx hb dX4_mayGoOn_75 rfl (lv_at hl 4 rfl) ?_
            refine va_getN (host := "NoticeStations") (D := D) (ci := 3) (v := .int 5) (C := RX2) (T := TX2) (N := 4) hx hb hts in_X4_mayGoOn_X2 hown hK hP 1 rfl rfl 2 (by decide) (va_Nw.use rfl (hN.1 (.fieldLinkNest "NoticeStations" 228 "NoticeStations$Standing" "size" "I" "NoticeStations") (by decide +kernel))) (fun _ h9 => h9) rfl dX4_mayGoOn_76 ?_
            refine lv_icmp_ne (tgt := 90) hx hb dX4_mayGoOn_79 (by decide) (fun _ => ?_) (fun hc => absurd hc (by decide))
            refine lv_iconst (v := 0) hx hb dX4_mayGoOn_90 (by decide) ?_
            have hP9 := hP.sub (ws' := [(a4, wS tC 5 gf), (f, .inr (3, [.ref e1, .ref e2, .int 5, .int 0])), (e1, wI tC 0 z1)]) [0, 1, 2] rfl
            have hD9 := hD.sub (ws' := [(a4, wS tC 5 gf), (f, .inr (3, [.ref e1, .ref e2, .int 5, .int 0])), (e1, wI tC 0 z1)]) [0, 1, 2] (by decide) rfl
            refine W.widen (k := 0) (n := 0) (by omega) (by omega) ?_
            exact W.zret (v := 0) hx hb hr (by decide) (fun t ht hW => ⟨⟨0, (), rfl, (by unfold mayg cntb; rw [hb0, hb1, hb2, hb3, hb4] <;> decide), (by rw [ht]; exact hP9), va_K.moved hW.alike hK, hD9⟩, hS.F ht⟩) hS.2.2 dX4_mayGoOn_91 hlocks
          · skip
            refine lv_iload hx hb dX4_mayGoOn_7 (lv_at hl 0 rfl) ?_
            refine lv_iconst (v := 5) hx hb dX4_mayGoOn_9 (by decide) ?_
            refine lv_icmp_ge (tgt := 62) hx hb dX4_mayGoOn_10 (by decide) (fun hc => absurd hc (by decide)) (fun _ => ?_)
            refine lv_aload_n hx hb dX4_mayGoOn_13 rfl (lv_at hl 3 rfl) ?_
            refine lv_iload hx hb dX4_mayGoOn_14 (lv_at hl 0 rfl) ?_
            refine va_aldq hx hb hK hP 0 2 rfl rfl (by unfold vp_in; decide) dX4_mayGoOn_16 ?_
            rw [show gf (4 : Int32).toNatClampNeg = some f from (by rw [show (4 : Int32).toNatClampNeg = 4 by decide, hg 4 (by decide), hb4]; rfl)]
            refine W.eq (g2 := F0 m 17 ls [.ref f]) rfl ?_
            refine lv_ifnull hx hb dX4_mayGoOn_17 ?_
            refine lv_aload_n hx hb dX4_mayGoOn_20 rfl (lv_at hl 3 rfl) ?_
            refine lv_iload hx hb dX4_mayGoOn_21 (lv_at hl 0 rfl) ?_
            refine va_aldq hx hb hK hP 0 2 rfl rfl (by unfold vp_in; decide) dX4_mayGoOn_23 ?_
            rw [show gf (4 : Int32).toNatClampNeg = some f from (by rw [show (4 : Int32).toNatClampNeg = 4 by decide, hg 4 (by decide), hb4]; rfl)]
            refine W.eq (g2 := F0 m 24 ls [.ref f]) rfl ?_
            have hPc := hP.sub (ws' := [(f, .inr (3, [.ref e1, .ref e2, .int 5, .int 0])), (e1, wI tC 0 z1)]) [1, 2] rfl
            have hDc := hD.sub (ws' := [(f, .inr (3, [.ref e1, .ref e2, .int 5, .int 0])), (e1, wI tC 0 z1)]) [1, 2] (by decide) rfl
            have hFc := va_free (wc := [(f, .inr (3, [.ref e1, .ref e2, .int 5, .int 0])), (e1, wI tC 0 z1)]) hD hS hA [1, 2] rfl
            refine va_calli (va_runVN (As := []) (rest := []) ⟨hx, hb, hml, hown, hts⟩ (c_X2_length l hlt D tC dz H.size f e1 e2 z1 ) ⟨(va_cnB (host := "NoticeStations") 0 hts gX4_mayGoOn_X2_length_n107 rfl rfl rfl (hN.1 (.methodLinkNest "NoticeStations" 107 ⟨"NoticeStations$Standing", "length", "()I"⟩ "NoticeStations") (by decide +kernel)) w_0 (by decide +kernel) ⟨Nat.le_of_ble_eq_true rfl, Nat.le_of_ble_eq_true rfl⟩), w_1, w_2⟩ ⟨pB_blind, va_recv hK hPc (ci := 3) (q0 := 0) rfl rfl, pB_at hPc hDc hK hN hE hS hFc⟩ rfl rfl hl.1 rfl (lv_room (Nat.le_of_ble_eq_true rfl)) dX4_mayGoOn_24 ⟨Nat.le_of_ble_eq_true rfl, Nat.le_of_ble_eq_true rfl⟩) hS (fun q _ h => hFc q h) hFc (fun r_50 u t H1 locs ht hvm hw hB hz1 hk1 hS => ?_)
            obtain ⟨hP1, _, hD1⟩ := hB
            have hw_51 := hw
            rw [ht] at hP1
            obtain ⟨hP, hD⟩ := va_join (wr := [(a4, wS tC 5 gf)]) (w1 := [(f, .inr (3, [.ref e1, .ref e2, .int 5, .int 0])), (e1, wI tC 0 z1)]) hP hD [1, 2] [0] rfl rfl (by decide) (by decide) hk1 hFc hP1 hD1
            generalize H1 = H at hP hS ⊢
            have hP : va_P D vwCl [(a4, wS tC 5 gf), (f, .inr (3, [.ref e1, .ref e2, .int 5, .int 0])), (e1, wI tC 0 z1)] H := hP
            have hD : va_D A [(a4, wS tC 5 gf), (f, .inr (3, [.ref e1, .ref e2, .int 5, .int 0])), (e1, wI tC 0 z1)] := hD
            subst hw_51
            refine lv_aload_n hx hb dX4_mayGoOn_27 rfl (lv_at hl 4 rfl) ?_
            have hPc := hP.sub (ws' := [(f, .inr (3, [.ref e1, .ref e2, .int 5, .int 0])), (e1, wI tC 0 z1)]) [1, 2] rfl
            have hDc := hD.sub (ws' := [(f, .inr (3, [.ref e1, .ref e2, .int 5, .int 0])), (e1, wI tC 0 z1)]) [1, 2] (by decide) rfl
            have hFc := va_free (wc := [(f, .inr (3, [.ref e1, .ref e2, .int 5, .int 0])), (e1, wI tC 0 z1)]) hD hS hA [1, 2] rfl
            refine va_calli (va_runVN (As := []) (rest := [.int 0]) ⟨hx, hb, hml, hown, hts⟩ (c_X2_length l hlt D tC dz H.size f e1 e2 z1 ) ⟨(va_cnB (host := "NoticeStations") 0 hts gX4_mayGoOn_X2_length_n107 rfl rfl rfl (hN.1 (.methodLinkNest "NoticeStations" 107 ⟨"NoticeStations$Standing", "length", "()I"⟩ "NoticeStations") (by decide +kernel)) w_0 (by decide +kernel) ⟨Nat.le_of_ble_eq_true rfl, Nat.le_of_ble_eq_true rfl⟩), w_1, w_2⟩ ⟨pB_blind, va_recv hK hPc (ci := 3) (q0 := 0) rfl rfl, pB_at hPc hDc hK hN hE hS hFc⟩ rfl rfl hl.1 rfl (lv_room (Nat.le_of_ble_eq_true rfl)) dX4_mayGoOn_28 ⟨Nat.le_of_ble_eq_true rfl, Nat.le_of_ble_eq_true rfl⟩) hS (fun q _ h => hFc q h) hFc (fun r_52 u t H1 locs ht hvm hw hB hz1 hk1 hS => ?_)
            obtain ⟨hP1, _, hD1⟩ := hB
            have hw_53 := hw
            rw [ht] at hP1
            obtain ⟨hP, hD⟩ := va_join (wr := [(a4, wS tC 5 gf)]) (w1 := [(f, .inr (3, [.ref e1, .ref e2, .int 5, .int 0])), (e1, wI tC 0 z1)]) hP hD [1, 2] [0] rfl rfl (by decide) (by decide) hk1 hFc hP1 hD1
            generalize H1 = H at hP hS ⊢
            have hP : va_P D vwCl [(a4, wS tC 5 gf), (f, .inr (3, [.ref e1, .ref e2, .int 5, .int 0])), (e1, wI tC 0 z1)] H := hP
            have hD : va_D A [(a4, wS tC 5 gf), (f, .inr (3, [.ref e1, .ref e2, .int 5, .int 0])), (e1, wI tC 0 z1)] := hD
            subst hw_53
            refine lv_icmp_ne (tgt := 56) hx hb dX4_mayGoOn_31 (by decide) (fun hc => absurd (by decide) hc) (fun _ => ?_)
            refine lv_iinc (v := 2) (lv' := [(2, .int 2), (4, .int 4), (3, .int 0), (0, .ref a4), (1, .ref f)]) hx hb dX4_mayGoOn_34 hl (k := 2) rfl (by decide) (by decide) rfl (fun ls hl => ?_)
            refine lv_iload_n hx hb dX4_mayGoOn_37 rfl (lv_at hl 2 rfl) ?_
            refine lv_if_ne (tgt := 50) hx hb dX4_mayGoOn_38 (by decide) (fun hc => absurd (by decide) hc) (fun _ => ?_)
            refine lv_iload hx hb dX4_mayGoOn_41 (lv_at hl 1 rfl) ?_
            refine lv_aload_n hx hb dX4_mayGoOn_43 rfl (lv_at hl 4 rfl) ?_
            refine va_getN (host := "NoticeStations") (D := D) (ci := 3) (v := .int 0) (C := RX2) (T := TX2) (N := 4) hx hb hts in_X4_mayGoOn_X2 hown hK hP 1 rfl rfl 3 (by decide) (va_Nw.use rfl (hN.1 (.fieldLinkNest "NoticeStations" 230 "NoticeStations$Standing" "named" "I" "NoticeStations") (by decide +kernel))) (fun _ h9 => h9) rfl dX4_mayGoOn_44 ?_
            refine lv_icmp_ne (tgt := 54) hx hb dX4_mayGoOn_47 (by decide) (fun _ => ?_) (fun hc => absurd hc (by decide))
            refine lv_iconst (v := 0) hx hb dX4_mayGoOn_54 (by decide) ?_
            refine lv_istore_n (lv' := [(3, .int 0), (2, .int 2), (4, .int 4), (0, .ref a4), (1, .ref f)]) hx hb dX4_mayGoOn_55 rfl hl (by decide) rfl (fun ls hl => ?_)
            refine lv_iinc (v := 5) (lv' := [(4, .int 5), (3, .int 0), (2, .int 2), (0, .ref a4), (1, .ref f)]) hx hb dX4_mayGoOn_56 hl (k := 2) rfl (by decide) (by decide) rfl (fun ls hl => ?_)
            refine lv_goto (tgt := 7) hx hb dX4_mayGoOn_59 (by decide) ?_
            refine lv_iload hx hb dX4_mayGoOn_7 (lv_at hl 0 rfl) ?_
            refine lv_iconst (v := 5) hx hb dX4_mayGoOn_9 (by decide) ?_
            refine lv_icmp_ge (tgt := 62) hx hb dX4_mayGoOn_10 (by decide) (fun _ => ?_) (fun hc => absurd (by decide) hc)
            refine lv_iconst (v := 2) hx hb dX4_mayGoOn_62 (by decide) ?_
            refine lv_iload_n hx hb dX4_mayGoOn_63 rfl (lv_at hl 2 rfl) ?_
            refine lv_imul hx hb dX4_mayGoOn_64 ?_
            refine lv_topi (fun z_54 ez_54 => ?_)
            have fz_54 : z_54 = 4 := ez_54.trans (by decide)
            subst fz_54
            refine lv_aload_n hx hb dX4_mayGoOn_65 rfl (lv_at hl 4 rfl) ?_
            refine va_getN (host := "NoticeStations") (D := D) (ci := 3) (v := .int 5) (C := RX2) (T := TX2) (N := 4) hx hb hts in_X4_mayGoOn_X2 hown hK hP 1 rfl rfl 2 (by decide) (va_Nw.use rfl (hN.1 (.fieldLinkNest "NoticeStations" 228 "NoticeStations$Standing" "size" "I" "NoticeStations") (by decide +kernel))) (fun _ h9 => h9) rfl dX4_mayGoOn_66 ?_
            refine lv_icmp_gt (tgt := 86) hx hb dX4_mayGoOn_69 (by decide) (fun hc => absurd hc (by decide)) (fun _ => ?_)
            refine lv_iconst (v := 2) hx hb dX4_mayGoOn_72 (by decide) ?_
            refine lv_iload_n hx hb dX4_mayGoOn_73 rfl (lv_at hl 2 rfl) ?_
            refine lv_imul hx hb dX4_mayGoOn_74 ?_
            refine lv_topi (fun z_55 ez_55 => ?_)
            have fz_55 : z_55 = 4 := ez_55.trans (by decide)
            subst fz_55
            refine lv_aload_n hx hb dX4_mayGoOn_75 rfl (lv_at hl 4 rfl) ?_
            refine va_getN (host := "NoticeStations") (D := D) (ci := 3) (v := .int 5) (C := RX2) (T := TX2) (N := 4) hx hb hts in_X4_mayGoOn_X2 hown hK hP 1 rfl rfl 2 (by decide) (va_Nw.use rfl (hN.1 (.fieldLinkNest "NoticeStations" 228 "NoticeStations$Standing" "size" "I" "NoticeStations") (by decide +kernel))) (fun _ h9 => h9) rfl dX4_mayGoOn_76 ?_
            refine lv_icmp_ne (tgt := 90) hx hb dX4_mayGoOn_79 (by decide) (fun _ => ?_) (fun hc => absurd hc (by decide))
            refine lv_iconst (v := 0) hx hb dX4_mayGoOn_90 (by decide) ?_
            have hP9 := hP.sub (ws' := [(a4, wS tC 5 gf), (f, .inr (3, [.ref e1, .ref e2, .int 5, .int 0])), (e1, wI tC 0 z1)]) [0, 1, 2] rfl
            have hD9 := hD.sub (ws' := [(a4, wS tC 5 gf), (f, .inr (3, [.ref e1, .ref e2, .int 5, .int 0])), (e1, wI tC 0 z1)]) [0, 1, 2] (by decide) rfl
            refine W.widen (k := 0) (n := 0) (by omega) (by omega) ?_
            exact W.zret (v := 0) hx hb hr (by decide) (fun t ht hW => ⟨⟨0, (), rfl, (by unfold mayg cntb; rw [hb0, hb1, hb2, hb3, hb4] <;> decide), (by rw [ht]; exact hP9), va_K.moved hW.alike hK, hD9⟩, hS.F ht⟩) hS.2.2 dX4_mayGoOn_91 hlocks
        · skip
          refine lv_iload hx hb dX4_mayGoOn_7 (lv_at hl 0 rfl) ?_
          refine lv_iconst (v := 5) hx hb dX4_mayGoOn_9 (by decide) ?_
          refine lv_icmp_ge (tgt := 62) hx hb dX4_mayGoOn_10 (by decide) (fun hc => absurd hc (by decide)) (fun _ => ?_)
          refine lv_aload_n hx hb dX4_mayGoOn_13 rfl (lv_at hl 3 rfl) ?_
          refine lv_iload hx hb dX4_mayGoOn_14 (lv_at hl 0 rfl) ?_
          refine va_aldq hx hb hK hP 0 2 rfl rfl (by unfold vp_in; decide) dX4_mayGoOn_16 ?_
          rw [show gf (3 : Int32).toNatClampNeg = some f from (by rw [show (3 : Int32).toNatClampNeg = 3 by decide, hg 3 (by decide), hb3]; rfl)]
          refine W.eq (g2 := F0 m 17 ls [.ref f]) rfl ?_
          refine lv_ifnull hx hb dX4_mayGoOn_17 ?_
          refine lv_aload_n hx hb dX4_mayGoOn_20 rfl (lv_at hl 3 rfl) ?_
          refine lv_iload hx hb dX4_mayGoOn_21 (lv_at hl 0 rfl) ?_
          refine va_aldq hx hb hK hP 0 2 rfl rfl (by unfold vp_in; decide) dX4_mayGoOn_23 ?_
          rw [show gf (3 : Int32).toNatClampNeg = some f from (by rw [show (3 : Int32).toNatClampNeg = 3 by decide, hg 3 (by decide), hb3]; rfl)]
          refine W.eq (g2 := F0 m 24 ls [.ref f]) rfl ?_
          have hPc := hP.sub (ws' := [(f, .inr (3, [.ref e1, .ref e2, .int 5, .int 0])), (e1, wI tC 0 z1)]) [1, 2] rfl
          have hDc := hD.sub (ws' := [(f, .inr (3, [.ref e1, .ref e2, .int 5, .int 0])), (e1, wI tC 0 z1)]) [1, 2] (by decide) rfl
          have hFc := va_free (wc := [(f, .inr (3, [.ref e1, .ref e2, .int 5, .int 0])), (e1, wI tC 0 z1)]) hD hS hA [1, 2] rfl
          refine va_calli (va_runVN (As := []) (rest := []) ⟨hx, hb, hml, hown, hts⟩ (c_X2_length l hlt D tC dz H.size f e1 e2 z1 ) ⟨(va_cnB (host := "NoticeStations") 0 hts gX4_mayGoOn_X2_length_n107 rfl rfl rfl (hN.1 (.methodLinkNest "NoticeStations" 107 ⟨"NoticeStations$Standing", "length", "()I"⟩ "NoticeStations") (by decide +kernel)) w_0 (by decide +kernel) ⟨Nat.le_of_ble_eq_true rfl, Nat.le_of_ble_eq_true rfl⟩), w_1, w_2⟩ ⟨pB_blind, va_recv hK hPc (ci := 3) (q0 := 0) rfl rfl, pB_at hPc hDc hK hN hE hS hFc⟩ rfl rfl hl.1 rfl (lv_room (Nat.le_of_ble_eq_true rfl)) dX4_mayGoOn_24 ⟨Nat.le_of_ble_eq_true rfl, Nat.le_of_ble_eq_true rfl⟩) hS (fun q _ h => hFc q h) hFc (fun r_56 u t H1 locs ht hvm hw hB hz1 hk1 hS => ?_)
          obtain ⟨hP1, _, hD1⟩ := hB
          have hw_57 := hw
          rw [ht] at hP1
          obtain ⟨hP, hD⟩ := va_join (wr := [(a4, wS tC 5 gf)]) (w1 := [(f, .inr (3, [.ref e1, .ref e2, .int 5, .int 0])), (e1, wI tC 0 z1)]) hP hD [1, 2] [0] rfl rfl (by decide) (by decide) hk1 hFc hP1 hD1
          generalize H1 = H at hP hS ⊢
          have hP : va_P D vwCl [(a4, wS tC 5 gf), (f, .inr (3, [.ref e1, .ref e2, .int 5, .int 0])), (e1, wI tC 0 z1)] H := hP
          have hD : va_D A [(a4, wS tC 5 gf), (f, .inr (3, [.ref e1, .ref e2, .int 5, .int 0])), (e1, wI tC 0 z1)] := hD
          subst hw_57
          refine lv_aload_n hx hb dX4_mayGoOn_27 rfl (lv_at hl 4 rfl) ?_
          have hPc := hP.sub (ws' := [(f, .inr (3, [.ref e1, .ref e2, .int 5, .int 0])), (e1, wI tC 0 z1)]) [1, 2] rfl
          have hDc := hD.sub (ws' := [(f, .inr (3, [.ref e1, .ref e2, .int 5, .int 0])), (e1, wI tC 0 z1)]) [1, 2] (by decide) rfl
          have hFc := va_free (wc := [(f, .inr (3, [.ref e1, .ref e2, .int 5, .int 0])), (e1, wI tC 0 z1)]) hD hS hA [1, 2] rfl
          refine va_calli (va_runVN (As := []) (rest := [.int 0]) ⟨hx, hb, hml, hown, hts⟩ (c_X2_length l hlt D tC dz H.size f e1 e2 z1 ) ⟨(va_cnB (host := "NoticeStations") 0 hts gX4_mayGoOn_X2_length_n107 rfl rfl rfl (hN.1 (.methodLinkNest "NoticeStations" 107 ⟨"NoticeStations$Standing", "length", "()I"⟩ "NoticeStations") (by decide +kernel)) w_0 (by decide +kernel) ⟨Nat.le_of_ble_eq_true rfl, Nat.le_of_ble_eq_true rfl⟩), w_1, w_2⟩ ⟨pB_blind, va_recv hK hPc (ci := 3) (q0 := 0) rfl rfl, pB_at hPc hDc hK hN hE hS hFc⟩ rfl rfl hl.1 rfl (lv_room (Nat.le_of_ble_eq_true rfl)) dX4_mayGoOn_28 ⟨Nat.le_of_ble_eq_true rfl, Nat.le_of_ble_eq_true rfl⟩) hS (fun q _ h => hFc q h) hFc (fun r_58 u t H1 locs ht hvm hw hB hz1 hk1 hS => ?_)
          obtain ⟨hP1, _, hD1⟩ := hB
          have hw_59 := hw
          rw [ht] at hP1
          obtain ⟨hP, hD⟩ := va_join (wr := [(a4, wS tC 5 gf)]) (w1 := [(f, .inr (3, [.ref e1, .ref e2, .int 5, .int 0])), (e1, wI tC 0 z1)]) hP hD [1, 2] [0] rfl rfl (by decide) (by decide) hk1 hFc hP1 hD1
          generalize H1 = H at hP hS ⊢
          have hP : va_P D vwCl [(a4, wS tC 5 gf), (f, .inr (3, [.ref e1, .ref e2, .int 5, .int 0])), (e1, wI tC 0 z1)] H := hP
          have hD : va_D A [(a4, wS tC 5 gf), (f, .inr (3, [.ref e1, .ref e2, .int 5, .int 0])), (e1, wI tC 0 z1)] := hD
          subst hw_59
          refine lv_icmp_ne (tgt := 56) hx hb dX4_mayGoOn_31 (by decide) (fun hc => absurd (by decide) hc) (fun _ => ?_)
          refine lv_iinc (v := 2) (lv' := [(2, .int 2), (4, .int 3), (3, .int 0), (0, .ref a4), (1, .ref f)]) hx hb dX4_mayGoOn_34 hl (k := 2) rfl (by decide) (by decide) rfl (fun ls hl => ?_)
          refine lv_iload_n hx hb dX4_mayGoOn_37 rfl (lv_at hl 2 rfl) ?_
          refine lv_if_ne (tgt := 50) hx hb dX4_mayGoOn_38 (by decide) (fun hc => absurd (by decide) hc) (fun _ => ?_)
          refine lv_iload hx hb dX4_mayGoOn_41 (lv_at hl 1 rfl) ?_
          refine lv_aload_n hx hb dX4_mayGoOn_43 rfl (lv_at hl 4 rfl) ?_
          refine va_getN (host := "NoticeStations") (D := D) (ci := 3) (v := .int 0) (C := RX2) (T := TX2) (N := 4) hx hb hts in_X4_mayGoOn_X2 hown hK hP 1 rfl rfl 3 (by decide) (va_Nw.use rfl (hN.1 (.fieldLinkNest "NoticeStations" 230 "NoticeStations$Standing" "named" "I" "NoticeStations") (by decide +kernel))) (fun _ h9 => h9) rfl dX4_mayGoOn_44 ?_
          refine lv_icmp_ne (tgt := 54) hx hb dX4_mayGoOn_47 (by decide) (fun _ => ?_) (fun hc => absurd hc (by decide))
          refine lv_iconst (v := 0) hx hb dX4_mayGoOn_54 (by decide) ?_
          refine lv_istore_n (lv' := [(3, .int 0), (2, .int 2), (4, .int 3), (0, .ref a4), (1, .ref f)]) hx hb dX4_mayGoOn_55 rfl hl (by decide) rfl (fun ls hl => ?_)
          refine lv_iinc (v := 4) (lv' := [(4, .int 4), (3, .int 0), (2, .int 2), (0, .ref a4), (1, .ref f)]) hx hb dX4_mayGoOn_56 hl (k := 2) rfl (by decide) (by decide) rfl (fun ls hl => ?_)
          refine lv_goto (tgt := 7) hx hb dX4_mayGoOn_59 (by decide) ?_
          cases hb4 : bt 4
          · skip
            refine lv_iload hx hb dX4_mayGoOn_7 (lv_at hl 0 rfl) ?_
            refine lv_iconst (v := 5) hx hb dX4_mayGoOn_9 (by decide) ?_
            refine lv_icmp_ge (tgt := 62) hx hb dX4_mayGoOn_10 (by decide) (fun hc => absurd hc (by decide)) (fun _ => ?_)
            refine lv_aload_n hx hb dX4_mayGoOn_13 rfl (lv_at hl 3 rfl) ?_
            refine lv_iload hx hb dX4_mayGoOn_14 (lv_at hl 0 rfl) ?_
            refine va_aldq hx hb hK hP 0 2 rfl rfl (by unfold vp_in; decide) dX4_mayGoOn_16 ?_
            rw [show gf (4 : Int32).toNatClampNeg = none from (by rw [show (4 : Int32).toNatClampNeg = 4 by decide, hg 4 (by decide), hb4]; rfl)]
            refine W.eq (g2 := F0 m 17 ls [.null]) rfl ?_
            refine lv_ifnullN (tgt := 56) hx hb dX4_mayGoOn_17 (by decide) ?_
            refine lv_iinc (v := 5) (lv' := [(4, .int 5), (3, .int 0), (2, .int 2), (0, .ref a4), (1, .ref f)]) hx hb dX4_mayGoOn_56 hl (k := 0) rfl (by decide) (by decide) rfl (fun ls hl => ?_)
            refine lv_goto (tgt := 7) hx hb dX4_mayGoOn_59 (by decide) ?_
            refine lv_iload hx hb dX4_mayGoOn_7 (lv_at hl 0 rfl) ?_
            refine lv_iconst (v := 5) hx hb dX4_mayGoOn_9 (by decide) ?_
            refine lv_icmp_ge (tgt := 62) hx hb dX4_mayGoOn_10 (by decide) (fun _ => ?_) (fun hc => absurd (by decide) hc)
            refine lv_iconst (v := 2) hx hb dX4_mayGoOn_62 (by decide) ?_
            refine lv_iload_n hx hb dX4_mayGoOn_63 rfl (lv_at hl 2 rfl) ?_
            refine lv_imul hx hb dX4_mayGoOn_64 ?_
            refine lv_topi (fun z_60 ez_60 => ?_)
            have fz_60 : z_60 = 4 := ez_60.trans (by decide)
            subst fz_60
            refine lv_aload_n hx hb dX4_mayGoOn_65 rfl (lv_at hl 4 rfl) ?_
            refine va_getN (host := "NoticeStations") (D := D) (ci := 3) (v := .int 5) (C := RX2) (T := TX2) (N := 4) hx hb hts in_X4_mayGoOn_X2 hown hK hP 1 rfl rfl 2 (by decide) (va_Nw.use rfl (hN.1 (.fieldLinkNest "NoticeStations" 228 "NoticeStations$Standing" "size" "I" "NoticeStations") (by decide +kernel))) (fun _ h9 => h9) rfl dX4_mayGoOn_66 ?_
            refine lv_icmp_gt (tgt := 86) hx hb dX4_mayGoOn_69 (by decide) (fun hc => absurd hc (by decide)) (fun _ => ?_)
            refine lv_iconst (v := 2) hx hb dX4_mayGoOn_72 (by decide) ?_
            refine lv_iload_n hx hb dX4_mayGoOn_73 rfl (lv_at hl 2 rfl) ?_
            refine lv_imul hx hb dX4_mayGoOn_74 ?_
            refine lv_topi (fun z_61 ez_61 => ?_)
            have fz_61 : z_61 = 4 := ez_61.trans (by decide)
            subst fz_61
            refine lv_aload_n hx hb dX4_mayGoOn_75 rfl (lv_at hl 4 rfl) ?_
            refine va_getN (host := "NoticeStations") (D := D) (ci := 3) (v := .int 5) (C := RX2) (T := TX2) (N := 4) hx hb hts in_X4_mayGoOn_X2 hown hK hP 1 rfl rfl 2 (by decide) (va_Nw.use rfl (hN.1 (.fieldLinkNest "NoticeStations" 228 "NoticeStations$Standing" "size" "I" "NoticeStations") (by decide +kernel))) (fun _ h9 => h9) rfl dX4_mayGoOn_76 ?_
            refine lv_icmp_ne (tgt := 90) hx hb dX4_mayGoOn_79 (by decide) (fun _ => ?_) (fun hc => absurd hc (by decide))
            refine lv_iconst (v := 0) hx hb dX4_mayGoOn_90 (by decide) ?_
            have hP9 := hP.sub (ws' := [(a4, wS tC 5 gf), (f, .inr (3, [.ref e1, .ref e2, .int 5, .int 0])), (e1, wI tC 0 z1)]) [0, 1, 2] rfl
            have hD9 := hD.sub (ws' := [(a4, wS tC 5 gf), (f, .inr (3, [.ref e1, .ref e2, .int 5, .int 0])), (e1, wI tC 0 z1)]) [0, 1, 2] (by decide) rfl
            refine W.widen (k := 0) (n := 0) (by omega) (by omega) ?_
            exact W.zret (v := 0) hx hb hr (by decide) (fun t ht hW => ⟨⟨0, (), rfl, (by unfold mayg cntb; rw [hb0, hb1, hb2, hb3, hb4] <;> decide), (by rw [ht]; exact hP9), va_K.moved hW.alike hK, hD9⟩, hS.F ht⟩) hS.2.2 dX4_mayGoOn_91 hlocks
          · skip
            refine lv_iload hx hb dX4_mayGoOn_7 (lv_at hl 0 rfl) ?_
            refine lv_iconst (v := 5) hx hb dX4_mayGoOn_9 (by decide) ?_
            refine lv_icmp_ge (tgt := 62) hx hb dX4_mayGoOn_10 (by decide) (fun hc => absurd hc (by decide)) (fun _ => ?_)
            refine lv_aload_n hx hb dX4_mayGoOn_13 rfl (lv_at hl 3 rfl) ?_
            refine lv_iload hx hb dX4_mayGoOn_14 (lv_at hl 0 rfl) ?_
            refine va_aldq hx hb hK hP 0 2 rfl rfl (by unfold vp_in; decide) dX4_mayGoOn_16 ?_
            rw [show gf (4 : Int32).toNatClampNeg = some f from (by rw [show (4 : Int32).toNatClampNeg = 4 by decide, hg 4 (by decide), hb4]; rfl)]
            refine W.eq (g2 := F0 m 17 ls [.ref f]) rfl ?_
            refine lv_ifnull hx hb dX4_mayGoOn_17 ?_
            refine lv_aload_n hx hb dX4_mayGoOn_20 rfl (lv_at hl 3 rfl) ?_
            refine lv_iload hx hb dX4_mayGoOn_21 (lv_at hl 0 rfl) ?_
            refine va_aldq hx hb hK hP 0 2 rfl rfl (by unfold vp_in; decide) dX4_mayGoOn_23 ?_
            rw [show gf (4 : Int32).toNatClampNeg = some f from (by rw [show (4 : Int32).toNatClampNeg = 4 by decide, hg 4 (by decide), hb4]; rfl)]
            refine W.eq (g2 := F0 m 24 ls [.ref f]) rfl ?_
            have hPc := hP.sub (ws' := [(f, .inr (3, [.ref e1, .ref e2, .int 5, .int 0])), (e1, wI tC 0 z1)]) [1, 2] rfl
            have hDc := hD.sub (ws' := [(f, .inr (3, [.ref e1, .ref e2, .int 5, .int 0])), (e1, wI tC 0 z1)]) [1, 2] (by decide) rfl
            have hFc := va_free (wc := [(f, .inr (3, [.ref e1, .ref e2, .int 5, .int 0])), (e1, wI tC 0 z1)]) hD hS hA [1, 2] rfl
            refine va_calli (va_runVN (As := []) (rest := []) ⟨hx, hb, hml, hown, hts⟩ (c_X2_length l hlt D tC dz H.size f e1 e2 z1 ) ⟨(va_cnB (host := "NoticeStations") 0 hts gX4_mayGoOn_X2_length_n107 rfl rfl rfl (hN.1 (.methodLinkNest "NoticeStations" 107 ⟨"NoticeStations$Standing", "length", "()I"⟩ "NoticeStations") (by decide +kernel)) w_0 (by decide +kernel) ⟨Nat.le_of_ble_eq_true rfl, Nat.le_of_ble_eq_true rfl⟩), w_1, w_2⟩ ⟨pB_blind, va_recv hK hPc (ci := 3) (q0 := 0) rfl rfl, pB_at hPc hDc hK hN hE hS hFc⟩ rfl rfl hl.1 rfl (lv_room (Nat.le_of_ble_eq_true rfl)) dX4_mayGoOn_24 ⟨Nat.le_of_ble_eq_true rfl, Nat.le_of_ble_eq_true rfl⟩) hS (fun q _ h => hFc q h) hFc (fun r_62 u t H1 locs ht hvm hw hB hz1 hk1 hS => ?_)
            obtain ⟨hP1, _, hD1⟩ := hB
            have hw_63 := hw
            rw [ht] at hP1
            obtain ⟨hP, hD⟩ := va_join (wr := [(a4, wS tC 5 gf)]) (w1 := [(f, .inr (3, [.ref e1, .ref e2, .int 5, .int 0])), (e1, wI tC 0 z1)]) hP hD [1, 2] [0] rfl rfl (by decide) (by decide) hk1 hFc hP1 hD1
            generalize H1 = H at hP hS ⊢
            have hP : va_P D vwCl [(a4, wS tC 5 gf), (f, .inr (3, [.ref e1, .ref e2, .int 5, .int 0])), (e1, wI tC 0 z1)] H := hP
            have hD : va_D A [(a4, wS tC 5 gf), (f, .inr (3, [.ref e1, .ref e2, .int 5, .int 0])), (e1, wI tC 0 z1)] := hD
            subst hw_63
            refine lv_aload_n hx hb dX4_mayGoOn_27 rfl (lv_at hl 4 rfl) ?_
            have hPc := hP.sub (ws' := [(f, .inr (3, [.ref e1, .ref e2, .int 5, .int 0])), (e1, wI tC 0 z1)]) [1, 2] rfl
            have hDc := hD.sub (ws' := [(f, .inr (3, [.ref e1, .ref e2, .int 5, .int 0])), (e1, wI tC 0 z1)]) [1, 2] (by decide) rfl
            have hFc := va_free (wc := [(f, .inr (3, [.ref e1, .ref e2, .int 5, .int 0])), (e1, wI tC 0 z1)]) hD hS hA [1, 2] rfl
            refine va_calli (va_runVN (As := []) (rest := [.int 0]) ⟨hx, hb, hml, hown, hts⟩ (c_X2_length l hlt D tC dz H.size f e1 e2 z1 ) ⟨(va_cnB (host := "NoticeStations") 0 hts gX4_mayGoOn_X2_length_n107 rfl rfl rfl (hN.1 (.methodLinkNest "NoticeStations" 107 ⟨"NoticeStations$Standing", "length", "()I"⟩ "NoticeStations") (by decide +kernel)) w_0 (by decide +kernel) ⟨Nat.le_of_ble_eq_true rfl, Nat.le_of_ble_eq_true rfl⟩), w_1, w_2⟩ ⟨pB_blind, va_recv hK hPc (ci := 3) (q0 := 0) rfl rfl, pB_at hPc hDc hK hN hE hS hFc⟩ rfl rfl hl.1 rfl (lv_room (Nat.le_of_ble_eq_true rfl)) dX4_mayGoOn_28 ⟨Nat.le_of_ble_eq_true rfl, Nat.le_of_ble_eq_true rfl⟩) hS (fun q _ h => hFc q h) hFc (fun r_64 u t H1 locs ht hvm hw hB hz1 hk1 hS => ?_)
            obtain ⟨hP1, _, hD1⟩ := hB
            have hw_65 := hw
            rw [ht] at hP1
            obtain ⟨hP, hD⟩ := va_join (wr := [(a4, wS tC 5 gf)]) (w1 := [(f, .inr (3, [.ref e1, .ref e2, .int 5, .int 0])), (e1, wI tC 0 z1)]) hP hD [1, 2] [0] rfl rfl (by decide) (by decide) hk1 hFc hP1 hD1
            generalize H1 = H at hP hS ⊢
            have hP : va_P D vwCl [(a4, wS tC 5 gf), (f, .inr (3, [.ref e1, .ref e2, .int 5, .int 0])), (e1, wI tC 0 z1)] H := hP
            have hD : va_D A [(a4, wS tC 5 gf), (f, .inr (3, [.ref e1, .ref e2, .int 5, .int 0])), (e1, wI tC 0 z1)] := hD
            subst hw_65
            refine lv_icmp_ne (tgt := 56) hx hb dX4_mayGoOn_31 (by decide) (fun hc => absurd (by decide) hc) (fun _ => ?_)
            refine lv_iinc (v := 3) (lv' := [(2, .int 3), (4, .int 4), (3, .int 0), (0, .ref a4), (1, .ref f)]) hx hb dX4_mayGoOn_34 hl (k := 2) rfl (by decide) (by decide) rfl (fun ls hl => ?_)
            refine lv_iload_n hx hb dX4_mayGoOn_37 rfl (lv_at hl 2 rfl) ?_
            refine lv_if_ne (tgt := 50) hx hb dX4_mayGoOn_38 (by decide) (fun hc => absurd (by decide) hc) (fun _ => ?_)
            refine lv_iload hx hb dX4_mayGoOn_41 (lv_at hl 1 rfl) ?_
            refine lv_aload_n hx hb dX4_mayGoOn_43 rfl (lv_at hl 4 rfl) ?_
            refine va_getN (host := "NoticeStations") (D := D) (ci := 3) (v := .int 0) (C := RX2) (T := TX2) (N := 4) hx hb hts in_X4_mayGoOn_X2 hown hK hP 1 rfl rfl 3 (by decide) (va_Nw.use rfl (hN.1 (.fieldLinkNest "NoticeStations" 230 "NoticeStations$Standing" "named" "I" "NoticeStations") (by decide +kernel))) (fun _ h9 => h9) rfl dX4_mayGoOn_44 ?_
            refine lv_icmp_ne (tgt := 54) hx hb dX4_mayGoOn_47 (by decide) (fun _ => ?_) (fun hc => absurd hc (by decide))
            refine lv_iconst (v := 0) hx hb dX4_mayGoOn_54 (by decide) ?_
            refine lv_istore_n (lv' := [(3, .int 0), (2, .int 3), (4, .int 4), (0, .ref a4), (1, .ref f)]) hx hb dX4_mayGoOn_55 rfl hl (by decide) rfl (fun ls hl => ?_)
            refine lv_iinc (v := 5) (lv' := [(4, .int 5), (3, .int 0), (2, .int 3), (0, .ref a4), (1, .ref f)]) hx hb dX4_mayGoOn_56 hl (k := 2) rfl (by decide) (by decide) rfl (fun ls hl => ?_)
            refine lv_goto (tgt := 7) hx hb dX4_mayGoOn_59 (by decide) ?_
            refine lv_iload hx hb dX4_mayGoOn_7 (lv_at hl 0 rfl) ?_
            refine lv_iconst (v := 5) hx hb dX4_mayGoOn_9 (by decide) ?_
            refine lv_icmp_ge (tgt := 62) hx hb dX4_mayGoOn_10 (by decide) (fun _ => ?_) (fun hc => absurd (by decide) hc)
            refine lv_iconst (v := 2) hx hb dX4_mayGoOn_62 (by decide) ?_
            refine lv_iload_n hx hb dX4_mayGoOn_63 rfl (lv_at hl 2 rfl) ?_
            refine lv_imul hx hb dX4_mayGoOn_64 ?_
            refine lv_topi (fun z_66 ez_66 => ?_)
            have fz_66 : z_66 = 6 := ez_66.trans (by decide)
            subst fz_66
            refine lv_aload_n hx hb dX4_mayGoOn_65 rfl (lv_at hl 4 rfl) ?_
            refine va_getN (host := "NoticeStations") (D := D) (ci := 3) (v := .int 5) (C := RX2) (T := TX2) (N := 4) hx hb hts in_X4_mayGoOn_X2 hown hK hP 1 rfl rfl 2 (by decide) (va_Nw.use rfl (hN.1 (.fieldLinkNest "NoticeStations" 228 "NoticeStations$Standing" "size" "I" "NoticeStations") (by decide +kernel))) (fun _ h9 => h9) rfl dX4_mayGoOn_66 ?_
            refine lv_icmp_gt (tgt := 86) hx hb dX4_mayGoOn_69 (by decide) (fun _ => ?_) (fun hc => absurd (by decide) hc)
            refine lv_iconst (v := 1) hx hb dX4_mayGoOn_86 (by decide) ?_
            refine lv_goto (tgt := 91) hx hb dX4_mayGoOn_87 (by decide) ?_
            have hP9 := hP.sub (ws' := [(a4, wS tC 5 gf), (f, .inr (3, [.ref e1, .ref e2, .int 5, .int 0])), (e1, wI tC 0 z1)]) [0, 1, 2] rfl
            have hD9 := hD.sub (ws' := [(a4, wS tC 5 gf), (f, .inr (3, [.ref e1, .ref e2, .int 5, .int 0])), (e1, wI tC 0 z1)]) [0, 1, 2] (by decide) rfl
            refine W.widen (k := 0) (n := 0) (by omega) (by omega) ?_
            exact W.zret (v := 1) hx hb hr (by decide) (fun t ht hW => ⟨⟨1, (), rfl, (by unfold mayg cntb; rw [hb0, hb1, hb2, hb3, hb4] <;> decide), (by rw [ht]; exact hP9), va_K.moved hW.alike hK, hD9⟩, hS.F ht⟩) hS.2.2 dX4_mayGoOn_91 hlocks
      · skip
        refine lv_iload hx hb dX4_mayGoOn_7 (lv_at hl 0 rfl) ?_
        refine lv_iconst (v := 5) hx hb dX4_mayGoOn_9 (by decide) ?_
        refine lv_icmp_ge (tgt := 62) hx hb dX4_mayGoOn_10 (by decide) (fun hc => absurd hc (by decide)) (fun _ => ?_)
        refine lv_aload_n hx hb dX4_mayGoOn_13 rfl (lv_at hl 3 rfl) ?_
        refine lv_iload hx hb dX4_mayGoOn_14 (lv_at hl 0 rfl) ?_
        refine va_aldq hx hb hK hP 0 2 rfl rfl (by unfold vp_in; decide) dX4_mayGoOn_16 ?_
        rw [show gf (2 : Int32).toNatClampNeg = some f from (by rw [show (2 : Int32).toNatClampNeg = 2 by decide, hg 2 (by decide), hb2]; rfl)]
        refine W.eq (g2 := F0 m 17 ls [.ref f]) rfl ?_
        refine lv_ifnull hx hb dX4_mayGoOn_17 ?_
        refine lv_aload_n hx hb dX4_mayGoOn_20 rfl (lv_at hl 3 rfl) ?_
        refine lv_iload hx hb dX4_mayGoOn_21 (lv_at hl 0 rfl) ?_
        refine va_aldq hx hb hK hP 0 2 rfl rfl (by unfold vp_in; decide) dX4_mayGoOn_23 ?_
        rw [show gf (2 : Int32).toNatClampNeg = some f from (by rw [show (2 : Int32).toNatClampNeg = 2 by decide, hg 2 (by decide), hb2]; rfl)]
        refine W.eq (g2 := F0 m 24 ls [.ref f]) rfl ?_
        have hPc := hP.sub (ws' := [(f, .inr (3, [.ref e1, .ref e2, .int 5, .int 0])), (e1, wI tC 0 z1)]) [1, 2] rfl
        have hDc := hD.sub (ws' := [(f, .inr (3, [.ref e1, .ref e2, .int 5, .int 0])), (e1, wI tC 0 z1)]) [1, 2] (by decide) rfl
        have hFc := va_free (wc := [(f, .inr (3, [.ref e1, .ref e2, .int 5, .int 0])), (e1, wI tC 0 z1)]) hD hS hA [1, 2] rfl
        refine va_calli (va_runVN (As := []) (rest := []) ⟨hx, hb, hml, hown, hts⟩ (c_X2_length l hlt D tC dz H.size f e1 e2 z1 ) ⟨(va_cnB (host := "NoticeStations") 0 hts gX4_mayGoOn_X2_length_n107 rfl rfl rfl (hN.1 (.methodLinkNest "NoticeStations" 107 ⟨"NoticeStations$Standing", "length", "()I"⟩ "NoticeStations") (by decide +kernel)) w_0 (by decide +kernel) ⟨Nat.le_of_ble_eq_true rfl, Nat.le_of_ble_eq_true rfl⟩), w_1, w_2⟩ ⟨pB_blind, va_recv hK hPc (ci := 3) (q0 := 0) rfl rfl, pB_at hPc hDc hK hN hE hS hFc⟩ rfl rfl hl.1 rfl (lv_room (Nat.le_of_ble_eq_true rfl)) dX4_mayGoOn_24 ⟨Nat.le_of_ble_eq_true rfl, Nat.le_of_ble_eq_true rfl⟩) hS (fun q _ h => hFc q h) hFc (fun r_67 u t H1 locs ht hvm hw hB hz1 hk1 hS => ?_)
        obtain ⟨hP1, _, hD1⟩ := hB
        have hw_68 := hw
        rw [ht] at hP1
        obtain ⟨hP, hD⟩ := va_join (wr := [(a4, wS tC 5 gf)]) (w1 := [(f, .inr (3, [.ref e1, .ref e2, .int 5, .int 0])), (e1, wI tC 0 z1)]) hP hD [1, 2] [0] rfl rfl (by decide) (by decide) hk1 hFc hP1 hD1
        generalize H1 = H at hP hS ⊢
        have hP : va_P D vwCl [(a4, wS tC 5 gf), (f, .inr (3, [.ref e1, .ref e2, .int 5, .int 0])), (e1, wI tC 0 z1)] H := hP
        have hD : va_D A [(a4, wS tC 5 gf), (f, .inr (3, [.ref e1, .ref e2, .int 5, .int 0])), (e1, wI tC 0 z1)] := hD
        subst hw_68
        refine lv_aload_n hx hb dX4_mayGoOn_27 rfl (lv_at hl 4 rfl) ?_
        have hPc := hP.sub (ws' := [(f, .inr (3, [.ref e1, .ref e2, .int 5, .int 0])), (e1, wI tC 0 z1)]) [1, 2] rfl
        have hDc := hD.sub (ws' := [(f, .inr (3, [.ref e1, .ref e2, .int 5, .int 0])), (e1, wI tC 0 z1)]) [1, 2] (by decide) rfl
        have hFc := va_free (wc := [(f, .inr (3, [.ref e1, .ref e2, .int 5, .int 0])), (e1, wI tC 0 z1)]) hD hS hA [1, 2] rfl
        refine va_calli (va_runVN (As := []) (rest := [.int 0]) ⟨hx, hb, hml, hown, hts⟩ (c_X2_length l hlt D tC dz H.size f e1 e2 z1 ) ⟨(va_cnB (host := "NoticeStations") 0 hts gX4_mayGoOn_X2_length_n107 rfl rfl rfl (hN.1 (.methodLinkNest "NoticeStations" 107 ⟨"NoticeStations$Standing", "length", "()I"⟩ "NoticeStations") (by decide +kernel)) w_0 (by decide +kernel) ⟨Nat.le_of_ble_eq_true rfl, Nat.le_of_ble_eq_true rfl⟩), w_1, w_2⟩ ⟨pB_blind, va_recv hK hPc (ci := 3) (q0 := 0) rfl rfl, pB_at hPc hDc hK hN hE hS hFc⟩ rfl rfl hl.1 rfl (lv_room (Nat.le_of_ble_eq_true rfl)) dX4_mayGoOn_28 ⟨Nat.le_of_ble_eq_true rfl, Nat.le_of_ble_eq_true rfl⟩) hS (fun q _ h => hFc q h) hFc (fun r_69 u t H1 locs ht hvm hw hB hz1 hk1 hS => ?_)
        obtain ⟨hP1, _, hD1⟩ := hB
        have hw_70 := hw
        rw [ht] at hP1
        obtain ⟨hP, hD⟩ := va_join (wr := [(a4, wS tC 5 gf)]) (w1 := [(f, .inr (3, [.ref e1, .ref e2, .int 5, .int 0])), (e1, wI tC 0 z1)]) hP hD [1, 2] [0] rfl rfl (by decide) (by decide) hk1 hFc hP1 hD1
        generalize H1 = H at hP hS ⊢
        have hP : va_P D vwCl [(a4, wS tC 5 gf), (f, .inr (3, [.ref e1, .ref e2, .int 5, .int 0])), (e1, wI tC 0 z1)] H := hP
        have hD : va_D A [(a4, wS tC 5 gf), (f, .inr (3, [.ref e1, .ref e2, .int 5, .int 0])), (e1, wI tC 0 z1)] := hD
        subst hw_70
        refine lv_icmp_ne (tgt := 56) hx hb dX4_mayGoOn_31 (by decide) (fun hc => absurd (by decide) hc) (fun _ => ?_)
        refine lv_iinc (v := 2) (lv' := [(2, .int 2), (4, .int 2), (3, .int 0), (0, .ref a4), (1, .ref f)]) hx hb dX4_mayGoOn_34 hl (k := 2) rfl (by decide) (by decide) rfl (fun ls hl => ?_)
        refine lv_iload_n hx hb dX4_mayGoOn_37 rfl (lv_at hl 2 rfl) ?_
        refine lv_if_ne (tgt := 50) hx hb dX4_mayGoOn_38 (by decide) (fun hc => absurd (by decide) hc) (fun _ => ?_)
        refine lv_iload hx hb dX4_mayGoOn_41 (lv_at hl 1 rfl) ?_
        refine lv_aload_n hx hb dX4_mayGoOn_43 rfl (lv_at hl 4 rfl) ?_
        refine va_getN (host := "NoticeStations") (D := D) (ci := 3) (v := .int 0) (C := RX2) (T := TX2) (N := 4) hx hb hts in_X4_mayGoOn_X2 hown hK hP 1 rfl rfl 3 (by decide) (va_Nw.use rfl (hN.1 (.fieldLinkNest "NoticeStations" 230 "NoticeStations$Standing" "named" "I" "NoticeStations") (by decide +kernel))) (fun _ h9 => h9) rfl dX4_mayGoOn_44 ?_
        refine lv_icmp_ne (tgt := 54) hx hb dX4_mayGoOn_47 (by decide) (fun _ => ?_) (fun hc => absurd hc (by decide))
        refine lv_iconst (v := 0) hx hb dX4_mayGoOn_54 (by decide) ?_
        refine lv_istore_n (lv' := [(3, .int 0), (2, .int 2), (4, .int 2), (0, .ref a4), (1, .ref f)]) hx hb dX4_mayGoOn_55 rfl hl (by decide) rfl (fun ls hl => ?_)
        refine lv_iinc (v := 3) (lv' := [(4, .int 3), (3, .int 0), (2, .int 2), (0, .ref a4), (1, .ref f)]) hx hb dX4_mayGoOn_56 hl (k := 2) rfl (by decide) (by decide) rfl (fun ls hl => ?_)
        refine lv_goto (tgt := 7) hx hb dX4_mayGoOn_59 (by decide) ?_
        cases hb3 : bt 3
        · skip
          refine lv_iload hx hb dX4_mayGoOn_7 (lv_at hl 0 rfl) ?_
          refine lv_iconst (v := 5) hx hb dX4_mayGoOn_9 (by decide) ?_
          refine lv_icmp_ge (tgt := 62) hx hb dX4_mayGoOn_10 (by decide) (fun hc => absurd hc (by decide)) (fun _ => ?_)
          refine lv_aload_n hx hb dX4_mayGoOn_13 rfl (lv_at hl 3 rfl) ?_
          refine lv_iload hx hb dX4_mayGoOn_14 (lv_at hl 0 rfl) ?_
          refine va_aldq hx hb hK hP 0 2 rfl rfl (by unfold vp_in; decide) dX4_mayGoOn_16 ?_
          rw [show gf (3 : Int32).toNatClampNeg = none from (by rw [show (3 : Int32).toNatClampNeg = 3 by decide, hg 3 (by decide), hb3]; rfl)]
          refine W.eq (g2 := F0 m 17 ls [.null]) rfl ?_
          refine lv_ifnullN (tgt := 56) hx hb dX4_mayGoOn_17 (by decide) ?_
          refine lv_iinc (v := 4) (lv' := [(4, .int 4), (3, .int 0), (2, .int 2), (0, .ref a4), (1, .ref f)]) hx hb dX4_mayGoOn_56 hl (k := 0) rfl (by decide) (by decide) rfl (fun ls hl => ?_)
          refine lv_goto (tgt := 7) hx hb dX4_mayGoOn_59 (by decide) ?_
          cases hb4 : bt 4
          · skip
            refine lv_iload hx hb dX4_mayGoOn_7 (lv_at hl 0 rfl) ?_
            refine lv_iconst (v := 5) hx hb dX4_mayGoOn_9 (by decide) ?_
            refine lv_icmp_ge (tgt := 62) hx hb dX4_mayGoOn_10 (by decide) (fun hc => absurd hc (by decide)) (fun _ => ?_)
            refine lv_aload_n hx hb dX4_mayGoOn_13 rfl (lv_at hl 3 rfl) ?_
            refine lv_iload hx hb dX4_mayGoOn_14 (lv_at hl 0 rfl) ?_
            refine va_aldq hx hb hK hP 0 2 rfl rfl (by unfold vp_in; decide) dX4_mayGoOn_16 ?_
            rw [show gf (4 : Int32).toNatClampNeg = none from (by rw [show (4 : Int32).toNatClampNeg = 4 by decide, hg 4 (by decide), hb4]; rfl)]
            refine W.eq (g2 := F0 m 17 ls [.null]) rfl ?_
            refine lv_ifnullN (tgt := 56) hx hb dX4_mayGoOn_17 (by decide) ?_
            refine lv_iinc (v := 5) (lv' := [(4, .int 5), (3, .int 0), (2, .int 2), (0, .ref a4), (1, .ref f)]) hx hb dX4_mayGoOn_56 hl (k := 0) rfl (by decide) (by decide) rfl (fun ls hl => ?_)
            refine lv_goto (tgt := 7) hx hb dX4_mayGoOn_59 (by decide) ?_
            refine lv_iload hx hb dX4_mayGoOn_7 (lv_at hl 0 rfl) ?_
            refine lv_iconst (v := 5) hx hb dX4_mayGoOn_9 (by decide) ?_
            refine lv_icmp_ge (tgt := 62) hx hb dX4_mayGoOn_10 (by decide) (fun _ => ?_) (fun hc => absurd (by decide) hc)
            refine lv_iconst (v := 2) hx hb dX4_mayGoOn_62 (by decide) ?_
            refine lv_iload_n hx hb dX4_mayGoOn_63 rfl (lv_at hl 2 rfl) ?_
            refine lv_imul hx hb dX4_mayGoOn_64 ?_
            refine lv_topi (fun z_71 ez_71 => ?_)
            have fz_71 : z_71 = 4 := ez_71.trans (by decide)
            subst fz_71
            refine lv_aload_n hx hb dX4_mayGoOn_65 rfl (lv_at hl 4 rfl) ?_
            refine va_getN (host := "NoticeStations") (D := D) (ci := 3) (v := .int 5) (C := RX2) (T := TX2) (N := 4) hx hb hts in_X4_mayGoOn_X2 hown hK hP 1 rfl rfl 2 (by decide) (va_Nw.use rfl (hN.1 (.fieldLinkNest "NoticeStations" 228 "NoticeStations$Standing" "size" "I" "NoticeStations") (by decide +kernel))) (fun _ h9 => h9) rfl dX4_mayGoOn_66 ?_
            refine lv_icmp_gt (tgt := 86) hx hb dX4_mayGoOn_69 (by decide) (fun hc => absurd hc (by decide)) (fun _ => ?_)
            refine lv_iconst (v := 2) hx hb dX4_mayGoOn_72 (by decide) ?_
            refine lv_iload_n hx hb dX4_mayGoOn_73 rfl (lv_at hl 2 rfl) ?_
            refine lv_imul hx hb dX4_mayGoOn_74 ?_
            refine lv_topi (fun z_72 ez_72 => ?_)
            have fz_72 : z_72 = 4 := ez_72.trans (by decide)
            subst fz_72
            refine lv_aload_n hx hb dX4_mayGoOn_75 rfl (lv_at hl 4 rfl) ?_
            refine va_getN (host := "NoticeStations") (D := D) (ci := 3) (v := .int 5) (C := RX2) (T := TX2) (N := 4) hx hb hts in_X4_mayGoOn_X2 hown hK hP 1 rfl rfl 2 (by decide) (va_Nw.use rfl (hN.1 (.fieldLinkNest "NoticeStations" 228 "NoticeStations$Standing" "size" "I" "NoticeStations") (by decide +kernel))) (fun _ h9 => h9) rfl dX4_mayGoOn_76 ?_
            refine lv_icmp_ne (tgt := 90) hx hb dX4_mayGoOn_79 (by decide) (fun _ => ?_) (fun hc => absurd hc (by decide))
            refine lv_iconst (v := 0) hx hb dX4_mayGoOn_90 (by decide) ?_
            have hP9 := hP.sub (ws' := [(a4, wS tC 5 gf), (f, .inr (3, [.ref e1, .ref e2, .int 5, .int 0])), (e1, wI tC 0 z1)]) [0, 1, 2] rfl
            have hD9 := hD.sub (ws' := [(a4, wS tC 5 gf), (f, .inr (3, [.ref e1, .ref e2, .int 5, .int 0])), (e1, wI tC 0 z1)]) [0, 1, 2] (by decide) rfl
            refine W.widen (k := 0) (n := 0) (by omega) (by omega) ?_
            exact W.zret (v := 0) hx hb hr (by decide) (fun t ht hW => ⟨⟨0, (), rfl, (by unfold mayg cntb; rw [hb0, hb1, hb2, hb3, hb4] <;> decide), (by rw [ht]; exact hP9), va_K.moved hW.alike hK, hD9⟩, hS.F ht⟩) hS.2.2 dX4_mayGoOn_91 hlocks
          · skip
            refine lv_iload hx hb dX4_mayGoOn_7 (lv_at hl 0 rfl) ?_
            refine lv_iconst (v := 5) hx hb dX4_mayGoOn_9 (by decide) ?_
            refine lv_icmp_ge (tgt := 62) hx hb dX4_mayGoOn_10 (by decide) (fun hc => absurd hc (by decide)) (fun _ => ?_)
            refine lv_aload_n hx hb dX4_mayGoOn_13 rfl (lv_at hl 3 rfl) ?_
            refine lv_iload hx hb dX4_mayGoOn_14 (lv_at hl 0 rfl) ?_
            refine va_aldq hx hb hK hP 0 2 rfl rfl (by unfold vp_in; decide) dX4_mayGoOn_16 ?_
            rw [show gf (4 : Int32).toNatClampNeg = some f from (by rw [show (4 : Int32).toNatClampNeg = 4 by decide, hg 4 (by decide), hb4]; rfl)]
            refine W.eq (g2 := F0 m 17 ls [.ref f]) rfl ?_
            refine lv_ifnull hx hb dX4_mayGoOn_17 ?_
            refine lv_aload_n hx hb dX4_mayGoOn_20 rfl (lv_at hl 3 rfl) ?_
            refine lv_iload hx hb dX4_mayGoOn_21 (lv_at hl 0 rfl) ?_
            refine va_aldq hx hb hK hP 0 2 rfl rfl (by unfold vp_in; decide) dX4_mayGoOn_23 ?_
            rw [show gf (4 : Int32).toNatClampNeg = some f from (by rw [show (4 : Int32).toNatClampNeg = 4 by decide, hg 4 (by decide), hb4]; rfl)]
            refine W.eq (g2 := F0 m 24 ls [.ref f]) rfl ?_
            have hPc := hP.sub (ws' := [(f, .inr (3, [.ref e1, .ref e2, .int 5, .int 0])), (e1, wI tC 0 z1)]) [1, 2] rfl
            have hDc := hD.sub (ws' := [(f, .inr (3, [.ref e1, .ref e2, .int 5, .int 0])), (e1, wI tC 0 z1)]) [1, 2] (by decide) rfl
            have hFc := va_free (wc := [(f, .inr (3, [.ref e1, .ref e2, .int 5, .int 0])), (e1, wI tC 0 z1)]) hD hS hA [1, 2] rfl
            refine va_calli (va_runVN (As := []) (rest := []) ⟨hx, hb, hml, hown, hts⟩ (c_X2_length l hlt D tC dz H.size f e1 e2 z1 ) ⟨(va_cnB (host := "NoticeStations") 0 hts gX4_mayGoOn_X2_length_n107 rfl rfl rfl (hN.1 (.methodLinkNest "NoticeStations" 107 ⟨"NoticeStations$Standing", "length", "()I"⟩ "NoticeStations") (by decide +kernel)) w_0 (by decide +kernel) ⟨Nat.le_of_ble_eq_true rfl, Nat.le_of_ble_eq_true rfl⟩), w_1, w_2⟩ ⟨pB_blind, va_recv hK hPc (ci := 3) (q0 := 0) rfl rfl, pB_at hPc hDc hK hN hE hS hFc⟩ rfl rfl hl.1 rfl (lv_room (Nat.le_of_ble_eq_true rfl)) dX4_mayGoOn_24 ⟨Nat.le_of_ble_eq_true rfl, Nat.le_of_ble_eq_true rfl⟩) hS (fun q _ h => hFc q h) hFc (fun r_73 u t H1 locs ht hvm hw hB hz1 hk1 hS => ?_)
            obtain ⟨hP1, _, hD1⟩ := hB
            have hw_74 := hw
            rw [ht] at hP1
            obtain ⟨hP, hD⟩ := va_join (wr := [(a4, wS tC 5 gf)]) (w1 := [(f, .inr (3, [.ref e1, .ref e2, .int 5, .int 0])), (e1, wI tC 0 z1)]) hP hD [1, 2] [0] rfl rfl (by decide) (by decide) hk1 hFc hP1 hD1
            generalize H1 = H at hP hS ⊢
            have hP : va_P D vwCl [(a4, wS tC 5 gf), (f, .inr (3, [.ref e1, .ref e2, .int 5, .int 0])), (e1, wI tC 0 z1)] H := hP
            have hD : va_D A [(a4, wS tC 5 gf), (f, .inr (3, [.ref e1, .ref e2, .int 5, .int 0])), (e1, wI tC 0 z1)] := hD
            subst hw_74
            refine lv_aload_n hx hb dX4_mayGoOn_27 rfl (lv_at hl 4 rfl) ?_
            have hPc := hP.sub (ws' := [(f, .inr (3, [.ref e1, .ref e2, .int 5, .int 0])), (e1, wI tC 0 z1)]) [1, 2] rfl
            have hDc := hD.sub (ws' := [(f, .inr (3, [.ref e1, .ref e2, .int 5, .int 0])), (e1, wI tC 0 z1)]) [1, 2] (by decide) rfl
            have hFc := va_free (wc := [(f, .inr (3, [.ref e1, .ref e2, .int 5, .int 0])), (e1, wI tC 0 z1)]) hD hS hA [1, 2] rfl
            refine va_calli (va_runVN (As := []) (rest := [.int 0]) ⟨hx, hb, hml, hown, hts⟩ (c_X2_length l hlt D tC dz H.size f e1 e2 z1 ) ⟨(va_cnB (host := "NoticeStations") 0 hts gX4_mayGoOn_X2_length_n107 rfl rfl rfl (hN.1 (.methodLinkNest "NoticeStations" 107 ⟨"NoticeStations$Standing", "length", "()I"⟩ "NoticeStations") (by decide +kernel)) w_0 (by decide +kernel) ⟨Nat.le_of_ble_eq_true rfl, Nat.le_of_ble_eq_true rfl⟩), w_1, w_2⟩ ⟨pB_blind, va_recv hK hPc (ci := 3) (q0 := 0) rfl rfl, pB_at hPc hDc hK hN hE hS hFc⟩ rfl rfl hl.1 rfl (lv_room (Nat.le_of_ble_eq_true rfl)) dX4_mayGoOn_28 ⟨Nat.le_of_ble_eq_true rfl, Nat.le_of_ble_eq_true rfl⟩) hS (fun q _ h => hFc q h) hFc (fun r_75 u t H1 locs ht hvm hw hB hz1 hk1 hS => ?_)
            obtain ⟨hP1, _, hD1⟩ := hB
            have hw_76 := hw
            rw [ht] at hP1
            obtain ⟨hP, hD⟩ := va_join (wr := [(a4, wS tC 5 gf)]) (w1 := [(f, .inr (3, [.ref e1, .ref e2, .int 5, .int 0])), (e1, wI tC 0 z1)]) hP hD [1, 2] [0] rfl rfl (by decide) (by decide) hk1 hFc hP1 hD1
            generalize H1 = H at hP hS ⊢
            have hP : va_P D vwCl [(a4, wS tC 5 gf), (f, .inr (3, [.ref e1, .ref e2, .int 5, .int 0])), (e1, wI tC 0 z1)] H := hP
            have hD : va_D A [(a4, wS tC 5 gf), (f, .inr (3, [.ref e1, .ref e2, .int 5, .int 0])), (e1, wI tC 0 z1)] := hD
            subst hw_76
            refine lv_icmp_ne (tgt := 56) hx hb dX4_mayGoOn_31 (by decide) (fun hc => absurd (by decide) hc) (fun _ => ?_)
            refine lv_iinc (v := 3) (lv' := [(2, .int 3), (4, .int 4), (3, .int 0), (0, .ref a4), (1, .ref f)]) hx hb dX4_mayGoOn_34 hl (k := 2) rfl (by decide) (by decide) rfl (fun ls hl => ?_)
            refine lv_iload_n hx hb dX4_mayGoOn_37 rfl (lv_at hl 2 rfl) ?_
            refine lv_if_ne (tgt := 50) hx hb dX4_mayGoOn_38 (by decide) (fun hc => absurd (by decide) hc) (fun _ => ?_)
            refine lv_iload hx hb dX4_mayGoOn_41 (lv_at hl 1 rfl) ?_
            refine lv_aload_n hx hb dX4_mayGoOn_43 rfl (lv_at hl 4 rfl) ?_
            refine va_getN (host := "NoticeStations") (D := D) (ci := 3) (v := .int 0) (C := RX2) (T := TX2) (N := 4) hx hb hts in_X4_mayGoOn_X2 hown hK hP 1 rfl rfl 3 (by decide) (va_Nw.use rfl (hN.1 (.fieldLinkNest "NoticeStations" 230 "NoticeStations$Standing" "named" "I" "NoticeStations") (by decide +kernel))) (fun _ h9 => h9) rfl dX4_mayGoOn_44 ?_
            refine lv_icmp_ne (tgt := 54) hx hb dX4_mayGoOn_47 (by decide) (fun _ => ?_) (fun hc => absurd hc (by decide))
            refine lv_iconst (v := 0) hx hb dX4_mayGoOn_54 (by decide) ?_
            refine lv_istore_n (lv' := [(3, .int 0), (2, .int 3), (4, .int 4), (0, .ref a4), (1, .ref f)]) hx hb dX4_mayGoOn_55 rfl hl (by decide) rfl (fun ls hl => ?_)
            refine lv_iinc (v := 5) (lv' := [(4, .int 5), (3, .int 0), (2, .int 3), (0, .ref a4), (1, .ref f)]) hx hb dX4_mayGoOn_56 hl (k := 2) rfl (by decide) (by decide) rfl (fun ls hl => ?_)
            refine lv_goto (tgt := 7) hx hb dX4_mayGoOn_59 (by decide) ?_
            refine lv_iload hx hb dX4_mayGoOn_7 (lv_at hl 0 rfl) ?_
            refine lv_iconst (v := 5) hx hb dX4_mayGoOn_9 (by decide) ?_
            refine lv_icmp_ge (tgt := 62) hx hb dX4_mayGoOn_10 (by decide) (fun _ => ?_) (fun hc => absurd (by decide) hc)
            refine lv_iconst (v := 2) hx hb dX4_mayGoOn_62 (by decide) ?_
            refine lv_iload_n hx hb dX4_mayGoOn_63 rfl (lv_at hl 2 rfl) ?_
            refine lv_imul hx hb dX4_mayGoOn_64 ?_
            refine lv_topi (fun z_77 ez_77 => ?_)
            have fz_77 : z_77 = 6 := ez_77.trans (by decide)
            subst fz_77
            refine lv_aload_n hx hb dX4_mayGoOn_65 rfl (lv_at hl 4 rfl) ?_
            refine va_getN (host := "NoticeStations") (D := D) (ci := 3) (v := .int 5) (C := RX2) (T := TX2) (N := 4) hx hb hts in_X4_mayGoOn_X2 hown hK hP 1 rfl rfl 2 (by decide) (va_Nw.use rfl (hN.1 (.fieldLinkNest "NoticeStations" 228 "NoticeStations$Standing" "size" "I" "NoticeStations") (by decide +kernel))) (fun _ h9 => h9) rfl dX4_mayGoOn_66 ?_
            refine lv_icmp_gt (tgt := 86) hx hb dX4_mayGoOn_69 (by decide) (fun _ => ?_) (fun hc => absurd (by decide) hc)
            refine lv_iconst (v := 1) hx hb dX4_mayGoOn_86 (by decide) ?_
            refine lv_goto (tgt := 91) hx hb dX4_mayGoOn_87 (by decide) ?_
            have hP9 := hP.sub (ws' := [(a4, wS tC 5 gf), (f, .inr (3, [.ref e1, .ref e2, .int 5, .int 0])), (e1, wI tC 0 z1)]) [0, 1, 2] rfl
            have hD9 := hD.sub (ws' := [(a4, wS tC 5 gf), (f, .inr (3, [.ref e1, .ref e2, .int 5, .int 0])), (e1, wI tC 0 z1)]) [0, 1, 2] (by decide) rfl
            refine W.widen (k := 0) (n := 0) (by omega) (by omega) ?_
            exact W.zret (v := 1) hx hb hr (by decide) (fun t ht hW => ⟨⟨1, (), rfl, (by unfold mayg cntb; rw [hb0, hb1, hb2, hb3, hb4] <;> decide), (by rw [ht]; exact hP9), va_K.moved hW.alike hK, hD9⟩, hS.F ht⟩) hS.2.2 dX4_mayGoOn_91 hlocks
        · skip
          refine lv_iload hx hb dX4_mayGoOn_7 (lv_at hl 0 rfl) ?_
          refine lv_iconst (v := 5) hx hb dX4_mayGoOn_9 (by decide) ?_
          refine lv_icmp_ge (tgt := 62) hx hb dX4_mayGoOn_10 (by decide) (fun hc => absurd hc (by decide)) (fun _ => ?_)
          refine lv_aload_n hx hb dX4_mayGoOn_13 rfl (lv_at hl 3 rfl) ?_
          refine lv_iload hx hb dX4_mayGoOn_14 (lv_at hl 0 rfl) ?_
          refine va_aldq hx hb hK hP 0 2 rfl rfl (by unfold vp_in; decide) dX4_mayGoOn_16 ?_
          rw [show gf (3 : Int32).toNatClampNeg = some f from (by rw [show (3 : Int32).toNatClampNeg = 3 by decide, hg 3 (by decide), hb3]; rfl)]
          refine W.eq (g2 := F0 m 17 ls [.ref f]) rfl ?_
          refine lv_ifnull hx hb dX4_mayGoOn_17 ?_
          refine lv_aload_n hx hb dX4_mayGoOn_20 rfl (lv_at hl 3 rfl) ?_
          refine lv_iload hx hb dX4_mayGoOn_21 (lv_at hl 0 rfl) ?_
          refine va_aldq hx hb hK hP 0 2 rfl rfl (by unfold vp_in; decide) dX4_mayGoOn_23 ?_
          rw [show gf (3 : Int32).toNatClampNeg = some f from (by rw [show (3 : Int32).toNatClampNeg = 3 by decide, hg 3 (by decide), hb3]; rfl)]
          refine W.eq (g2 := F0 m 24 ls [.ref f]) rfl ?_
          have hPc := hP.sub (ws' := [(f, .inr (3, [.ref e1, .ref e2, .int 5, .int 0])), (e1, wI tC 0 z1)]) [1, 2] rfl
          have hDc := hD.sub (ws' := [(f, .inr (3, [.ref e1, .ref e2, .int 5, .int 0])), (e1, wI tC 0 z1)]) [1, 2] (by decide) rfl
          have hFc := va_free (wc := [(f, .inr (3, [.ref e1, .ref e2, .int 5, .int 0])), (e1, wI tC 0 z1)]) hD hS hA [1, 2] rfl
          refine va_calli (va_runVN (As := []) (rest := []) ⟨hx, hb, hml, hown, hts⟩ (c_X2_length l hlt D tC dz H.size f e1 e2 z1 ) ⟨(va_cnB (host := "NoticeStations") 0 hts gX4_mayGoOn_X2_length_n107 rfl rfl rfl (hN.1 (.methodLinkNest "NoticeStations" 107 ⟨"NoticeStations$Standing", "length", "()I"⟩ "NoticeStations") (by decide +kernel)) w_0 (by decide +kernel) ⟨Nat.le_of_ble_eq_true rfl, Nat.le_of_ble_eq_true rfl⟩), w_1, w_2⟩ ⟨pB_blind, va_recv hK hPc (ci := 3) (q0 := 0) rfl rfl, pB_at hPc hDc hK hN hE hS hFc⟩ rfl rfl hl.1 rfl (lv_room (Nat.le_of_ble_eq_true rfl)) dX4_mayGoOn_24 ⟨Nat.le_of_ble_eq_true rfl, Nat.le_of_ble_eq_true rfl⟩) hS (fun q _ h => hFc q h) hFc (fun r_78 u t H1 locs ht hvm hw hB hz1 hk1 hS => ?_)
          obtain ⟨hP1, _, hD1⟩ := hB
          have hw_79 := hw
          rw [ht] at hP1
          obtain ⟨hP, hD⟩ := va_join (wr := [(a4, wS tC 5 gf)]) (w1 := [(f, .inr (3, [.ref e1, .ref e2, .int 5, .int 0])), (e1, wI tC 0 z1)]) hP hD [1, 2] [0] rfl rfl (by decide) (by decide) hk1 hFc hP1 hD1
          generalize H1 = H at hP hS ⊢
          have hP : va_P D vwCl [(a4, wS tC 5 gf), (f, .inr (3, [.ref e1, .ref e2, .int 5, .int 0])), (e1, wI tC 0 z1)] H := hP
          have hD : va_D A [(a4, wS tC 5 gf), (f, .inr (3, [.ref e1, .ref e2, .int 5, .int 0])), (e1, wI tC 0 z1)] := hD
          subst hw_79
          refine lv_aload_n hx hb dX4_mayGoOn_27 rfl (lv_at hl 4 rfl) ?_
          have hPc := hP.sub (ws' := [(f, .inr (3, [.ref e1, .ref e2, .int 5, .int 0])), (e1, wI tC 0 z1)]) [1, 2] rfl
          have hDc := hD.sub (ws' := [(f, .inr (3, [.ref e1, .ref e2, .int 5, .int 0])), (e1, wI tC 0 z1)]) [1, 2] (by decide) rfl
          have hFc := va_free (wc := [(f, .inr (3, [.ref e1, .ref e2, .int 5, .int 0])), (e1, wI tC 0 z1)]) hD hS hA [1, 2] rfl
          refine va_calli (va_runVN (As := []) (rest := [.int 0]) ⟨hx, hb, hml, hown, hts⟩ (c_X2_length l hlt D tC dz H.size f e1 e2 z1 ) ⟨(va_cnB (host := "NoticeStations") 0 hts gX4_mayGoOn_X2_length_n107 rfl rfl rfl (hN.1 (.methodLinkNest "NoticeStations" 107 ⟨"NoticeStations$Standing", "length", "()I"⟩ "NoticeStations") (by decide +kernel)) w_0 (by decide +kernel) ⟨Nat.le_of_ble_eq_true rfl, Nat.le_of_ble_eq_true rfl⟩), w_1, w_2⟩ ⟨pB_blind, va_recv hK hPc (ci := 3) (q0 := 0) rfl rfl, pB_at hPc hDc hK hN hE hS hFc⟩ rfl rfl hl.1 rfl (lv_room (Nat.le_of_ble_eq_true rfl)) dX4_mayGoOn_28 ⟨Nat.le_of_ble_eq_true rfl, Nat.le_of_ble_eq_true rfl⟩) hS (fun q _ h => hFc q h) hFc (fun r_80 u t H1 locs ht hvm hw hB hz1 hk1 hS => ?_)
          obtain ⟨hP1, _, hD1⟩ := hB
          have hw_81 := hw
          rw [ht] at hP1
          obtain ⟨hP, hD⟩ := va_join (wr := [(a4, wS tC 5 gf)]) (w1 := [(f, .inr (3, [.ref e1, .ref e2, .int 5, .int 0])), (e1, wI tC 0 z1)]) hP hD [1, 2] [0] rfl rfl (by decide) (by decide) hk1 hFc hP1 hD1
          generalize H1 = H at hP hS ⊢
          have hP : va_P D vwCl [(a4, wS tC 5 gf), (f, .inr (3, [.ref e1, .ref e2, .int 5, .int 0])), (e1, wI tC 0 z1)] H := hP
          have hD : va_D A [(a4, wS tC 5 gf), (f, .inr (3, [.ref e1, .ref e2, .int 5, .int 0])), (e1, wI tC 0 z1)] := hD
          subst hw_81
          refine lv_icmp_ne (tgt := 56) hx hb dX4_mayGoOn_31 (by decide) (fun hc => absurd (by decide) hc) (fun _ => ?_)
          refine lv_iinc (v := 3) (lv' := [(2, .int 3), (4, .int 3), (3, .int 0), (0, .ref a4), (1, .ref f)]) hx hb dX4_mayGoOn_34 hl (k := 2) rfl (by decide) (by decide) rfl (fun ls hl => ?_)
          refine lv_iload_n hx hb dX4_mayGoOn_37 rfl (lv_at hl 2 rfl) ?_
          refine lv_if_ne (tgt := 50) hx hb dX4_mayGoOn_38 (by decide) (fun hc => absurd (by decide) hc) (fun _ => ?_)
          refine lv_iload hx hb dX4_mayGoOn_41 (lv_at hl 1 rfl) ?_
          refine lv_aload_n hx hb dX4_mayGoOn_43 rfl (lv_at hl 4 rfl) ?_
          refine va_getN (host := "NoticeStations") (D := D) (ci := 3) (v := .int 0) (C := RX2) (T := TX2) (N := 4) hx hb hts in_X4_mayGoOn_X2 hown hK hP 1 rfl rfl 3 (by decide) (va_Nw.use rfl (hN.1 (.fieldLinkNest "NoticeStations" 230 "NoticeStations$Standing" "named" "I" "NoticeStations") (by decide +kernel))) (fun _ h9 => h9) rfl dX4_mayGoOn_44 ?_
          refine lv_icmp_ne (tgt := 54) hx hb dX4_mayGoOn_47 (by decide) (fun _ => ?_) (fun hc => absurd hc (by decide))
          refine lv_iconst (v := 0) hx hb dX4_mayGoOn_54 (by decide) ?_
          refine lv_istore_n (lv' := [(3, .int 0), (2, .int 3), (4, .int 3), (0, .ref a4), (1, .ref f)]) hx hb dX4_mayGoOn_55 rfl hl (by decide) rfl (fun ls hl => ?_)
          refine lv_iinc (v := 4) (lv' := [(4, .int 4), (3, .int 0), (2, .int 3), (0, .ref a4), (1, .ref f)]) hx hb dX4_mayGoOn_56 hl (k := 2) rfl (by decide) (by decide) rfl (fun ls hl => ?_)
          refine lv_goto (tgt := 7) hx hb dX4_mayGoOn_59 (by decide) ?_
          cases hb4 : bt 4
          · skip
            refine lv_iload hx hb dX4_mayGoOn_7 (lv_at hl 0 rfl) ?_
            refine lv_iconst (v := 5) hx hb dX4_mayGoOn_9 (by decide) ?_
            refine lv_icmp_ge (tgt := 62) hx hb dX4_mayGoOn_10 (by decide) (fun hc => absurd hc (by decide)) (fun _ => ?_)
            refine lv_aload_n hx hb dX4_mayGoOn_13 rfl (lv_at hl 3 rfl) ?_
            refine lv_iload hx hb dX4_mayGoOn_14 (lv_at hl 0 rfl) ?_
            refine va_aldq hx hb hK hP 0 2 rfl rfl (by unfold vp_in; decide) dX4_mayGoOn_16 ?_
            rw [show gf (4 : Int32).toNatClampNeg = none from (by rw [show (4 : Int32).toNatClampNeg = 4 by decide, hg 4 (by decide), hb4]; rfl)]
            refine W.eq (g2 := F0 m 17 ls [.null]) rfl ?_
            refine lv_ifnullN (tgt := 56) hx hb dX4_mayGoOn_17 (by decide) ?_
            refine lv_iinc (v := 5) (lv' := [(4, .int 5), (3, .int 0), (2, .int 3), (0, .ref a4), (1, .ref f)]) hx hb dX4_mayGoOn_56 hl (k := 0) rfl (by decide) (by decide) rfl (fun ls hl => ?_)
            refine lv_goto (tgt := 7) hx hb dX4_mayGoOn_59 (by decide) ?_
            refine lv_iload hx hb dX4_mayGoOn_7 (lv_at hl 0 rfl) ?_
            refine lv_iconst (v := 5) hx hb dX4_mayGoOn_9 (by decide) ?_
            refine lv_icmp_ge (tgt := 62) hx hb dX4_mayGoOn_10 (by decide) (fun _ => ?_) (fun hc => absurd (by decide) hc)
            refine lv_iconst (v := 2) hx hb dX4_mayGoOn_62 (by decide) ?_
            refine lv_iload_n hx hb dX4_mayGoOn_63 rfl (lv_at hl 2 rfl) ?_
            refine lv_imul hx hb dX4_mayGoOn_64 ?_
            refine lv_topi (fun z_82 ez_82 => ?_)
            have fz_82 : z_82 = 6 := ez_82.trans (by decide)
            subst fz_82
            refine lv_aload_n hx hb dX4_mayGoOn_65 rfl (lv_at hl 4 rfl) ?_
            refine va_getN (host := "NoticeStations") (D := D) (ci := 3) (v := .int 5) (C := RX2) (T := TX2) (N := 4) hx hb hts in_X4_mayGoOn_X2 hown hK hP 1 rfl rfl 2 (by decide) (va_Nw.use rfl (hN.1 (.fieldLinkNest "NoticeStations" 228 "NoticeStations$Standing" "size" "I" "NoticeStations") (by decide +kernel))) (fun _ h9 => h9) rfl dX4_mayGoOn_66 ?_
            refine lv_icmp_gt (tgt := 86) hx hb dX4_mayGoOn_69 (by decide) (fun _ => ?_) (fun hc => absurd (by decide) hc)
            refine lv_iconst (v := 1) hx hb dX4_mayGoOn_86 (by decide) ?_
            refine lv_goto (tgt := 91) hx hb dX4_mayGoOn_87 (by decide) ?_
            have hP9 := hP.sub (ws' := [(a4, wS tC 5 gf), (f, .inr (3, [.ref e1, .ref e2, .int 5, .int 0])), (e1, wI tC 0 z1)]) [0, 1, 2] rfl
            have hD9 := hD.sub (ws' := [(a4, wS tC 5 gf), (f, .inr (3, [.ref e1, .ref e2, .int 5, .int 0])), (e1, wI tC 0 z1)]) [0, 1, 2] (by decide) rfl
            refine W.widen (k := 0) (n := 0) (by omega) (by omega) ?_
            exact W.zret (v := 1) hx hb hr (by decide) (fun t ht hW => ⟨⟨1, (), rfl, (by unfold mayg cntb; rw [hb0, hb1, hb2, hb3, hb4] <;> decide), (by rw [ht]; exact hP9), va_K.moved hW.alike hK, hD9⟩, hS.F ht⟩) hS.2.2 dX4_mayGoOn_91 hlocks
          · skip
            refine lv_iload hx hb dX4_mayGoOn_7 (lv_at hl 0 rfl) ?_
            refine lv_iconst (v := 5) hx hb dX4_mayGoOn_9 (by decide) ?_
            refine lv_icmp_ge (tgt := 62) hx hb dX4_mayGoOn_10 (by decide) (fun hc => absurd hc (by decide)) (fun _ => ?_)
            refine lv_aload_n hx hb dX4_mayGoOn_13 rfl (lv_at hl 3 rfl) ?_
            refine lv_iload hx hb dX4_mayGoOn_14 (lv_at hl 0 rfl) ?_
            refine va_aldq hx hb hK hP 0 2 rfl rfl (by unfold vp_in; decide) dX4_mayGoOn_16 ?_
            rw [show gf (4 : Int32).toNatClampNeg = some f from (by rw [show (4 : Int32).toNatClampNeg = 4 by decide, hg 4 (by decide), hb4]; rfl)]
            refine W.eq (g2 := F0 m 17 ls [.ref f]) rfl ?_
            refine lv_ifnull hx hb dX4_mayGoOn_17 ?_
            refine lv_aload_n hx hb dX4_mayGoOn_20 rfl (lv_at hl 3 rfl) ?_
            refine lv_iload hx hb dX4_mayGoOn_21 (lv_at hl 0 rfl) ?_
            refine va_aldq hx hb hK hP 0 2 rfl rfl (by unfold vp_in; decide) dX4_mayGoOn_23 ?_
            rw [show gf (4 : Int32).toNatClampNeg = some f from (by rw [show (4 : Int32).toNatClampNeg = 4 by decide, hg 4 (by decide), hb4]; rfl)]
            refine W.eq (g2 := F0 m 24 ls [.ref f]) rfl ?_
            have hPc := hP.sub (ws' := [(f, .inr (3, [.ref e1, .ref e2, .int 5, .int 0])), (e1, wI tC 0 z1)]) [1, 2] rfl
            have hDc := hD.sub (ws' := [(f, .inr (3, [.ref e1, .ref e2, .int 5, .int 0])), (e1, wI tC 0 z1)]) [1, 2] (by decide) rfl
            have hFc := va_free (wc := [(f, .inr (3, [.ref e1, .ref e2, .int 5, .int 0])), (e1, wI tC 0 z1)]) hD hS hA [1, 2] rfl
            refine va_calli (va_runVN (As := []) (rest := []) ⟨hx, hb, hml, hown, hts⟩ (c_X2_length l hlt D tC dz H.size f e1 e2 z1 ) ⟨(va_cnB (host := "NoticeStations") 0 hts gX4_mayGoOn_X2_length_n107 rfl rfl rfl (hN.1 (.methodLinkNest "NoticeStations" 107 ⟨"NoticeStations$Standing", "length", "()I"⟩ "NoticeStations") (by decide +kernel)) w_0 (by decide +kernel) ⟨Nat.le_of_ble_eq_true rfl, Nat.le_of_ble_eq_true rfl⟩), w_1, w_2⟩ ⟨pB_blind, va_recv hK hPc (ci := 3) (q0 := 0) rfl rfl, pB_at hPc hDc hK hN hE hS hFc⟩ rfl rfl hl.1 rfl (lv_room (Nat.le_of_ble_eq_true rfl)) dX4_mayGoOn_24 ⟨Nat.le_of_ble_eq_true rfl, Nat.le_of_ble_eq_true rfl⟩) hS (fun q _ h => hFc q h) hFc (fun r_83 u t H1 locs ht hvm hw hB hz1 hk1 hS => ?_)
            obtain ⟨hP1, _, hD1⟩ := hB
            have hw_84 := hw
            rw [ht] at hP1
            obtain ⟨hP, hD⟩ := va_join (wr := [(a4, wS tC 5 gf)]) (w1 := [(f, .inr (3, [.ref e1, .ref e2, .int 5, .int 0])), (e1, wI tC 0 z1)]) hP hD [1, 2] [0] rfl rfl (by decide) (by decide) hk1 hFc hP1 hD1
            generalize H1 = H at hP hS ⊢
            have hP : va_P D vwCl [(a4, wS tC 5 gf), (f, .inr (3, [.ref e1, .ref e2, .int 5, .int 0])), (e1, wI tC 0 z1)] H := hP
            have hD : va_D A [(a4, wS tC 5 gf), (f, .inr (3, [.ref e1, .ref e2, .int 5, .int 0])), (e1, wI tC 0 z1)] := hD
            subst hw_84
            refine lv_aload_n hx hb dX4_mayGoOn_27 rfl (lv_at hl 4 rfl) ?_
            have hPc := hP.sub (ws' := [(f, .inr (3, [.ref e1, .ref e2, .int 5, .int 0])), (e1, wI tC 0 z1)]) [1, 2] rfl
            have hDc := hD.sub (ws' := [(f, .inr (3, [.ref e1, .ref e2, .int 5, .int 0])), (e1, wI tC 0 z1)]) [1, 2] (by decide) rfl
            have hFc := va_free (wc := [(f, .inr (3, [.ref e1, .ref e2, .int 5, .int 0])), (e1, wI tC 0 z1)]) hD hS hA [1, 2] rfl
            refine va_calli (va_runVN (As := []) (rest := [.int 0]) ⟨hx, hb, hml, hown, hts⟩ (c_X2_length l hlt D tC dz H.size f e1 e2 z1 ) ⟨(va_cnB (host := "NoticeStations") 0 hts gX4_mayGoOn_X2_length_n107 rfl rfl rfl (hN.1 (.methodLinkNest "NoticeStations" 107 ⟨"NoticeStations$Standing", "length", "()I"⟩ "NoticeStations") (by decide +kernel)) w_0 (by decide +kernel) ⟨Nat.le_of_ble_eq_true rfl, Nat.le_of_ble_eq_true rfl⟩), w_1, w_2⟩ ⟨pB_blind, va_recv hK hPc (ci := 3) (q0 := 0) rfl rfl, pB_at hPc hDc hK hN hE hS hFc⟩ rfl rfl hl.1 rfl (lv_room (Nat.le_of_ble_eq_true rfl)) dX4_mayGoOn_28 ⟨Nat.le_of_ble_eq_true rfl, Nat.le_of_ble_eq_true rfl⟩) hS (fun q _ h => hFc q h) hFc (fun r_85 u t H1 locs ht hvm hw hB hz1 hk1 hS => ?_)
            obtain ⟨hP1, _, hD1⟩ := hB
            have hw_86 := hw
            rw [ht] at hP1
            obtain ⟨hP, hD⟩ := va_join (wr := [(a4, wS tC 5 gf)]) (w1 := [(f, .inr (3, [.ref e1, .ref e2, .int 5, .int 0])), (e1, wI tC 0 z1)]) hP hD [1, 2] [0] rfl rfl (by decide) (by decide) hk1 hFc hP1 hD1
            generalize H1 = H at hP hS ⊢
            have hP : va_P D vwCl [(a4, wS tC 5 gf), (f, .inr (3, [.ref e1, .ref e2, .int 5, .int 0])), (e1, wI tC 0 z1)] H := hP
            have hD : va_D A [(a4, wS tC 5 gf), (f, .inr (3, [.ref e1, .ref e2, .int 5, .int 0])), (e1, wI tC 0 z1)] := hD
            subst hw_86
            refine lv_icmp_ne (tgt := 56) hx hb dX4_mayGoOn_31 (by decide) (fun hc => absurd (by decide) hc) (fun _ => ?_)
            refine lv_iinc (v := 4) (lv' := [(2, .int 4), (4, .int 4), (3, .int 0), (0, .ref a4), (1, .ref f)]) hx hb dX4_mayGoOn_34 hl (k := 2) rfl (by decide) (by decide) rfl (fun ls hl => ?_)
            refine lv_iload_n hx hb dX4_mayGoOn_37 rfl (lv_at hl 2 rfl) ?_
            refine lv_if_ne (tgt := 50) hx hb dX4_mayGoOn_38 (by decide) (fun hc => absurd (by decide) hc) (fun _ => ?_)
            refine lv_iload hx hb dX4_mayGoOn_41 (lv_at hl 1 rfl) ?_
            refine lv_aload_n hx hb dX4_mayGoOn_43 rfl (lv_at hl 4 rfl) ?_
            refine va_getN (host := "NoticeStations") (D := D) (ci := 3) (v := .int 0) (C := RX2) (T := TX2) (N := 4) hx hb hts in_X4_mayGoOn_X2 hown hK hP 1 rfl rfl 3 (by decide) (va_Nw.use rfl (hN.1 (.fieldLinkNest "NoticeStations" 230 "NoticeStations$Standing" "named" "I" "NoticeStations") (by decide +kernel))) (fun _ h9 => h9) rfl dX4_mayGoOn_44 ?_
            refine lv_icmp_ne (tgt := 54) hx hb dX4_mayGoOn_47 (by decide) (fun _ => ?_) (fun hc => absurd hc (by decide))
            refine lv_iconst (v := 0) hx hb dX4_mayGoOn_54 (by decide) ?_
            refine lv_istore_n (lv' := [(3, .int 0), (2, .int 4), (4, .int 4), (0, .ref a4), (1, .ref f)]) hx hb dX4_mayGoOn_55 rfl hl (by decide) rfl (fun ls hl => ?_)
            refine lv_iinc (v := 5) (lv' := [(4, .int 5), (3, .int 0), (2, .int 4), (0, .ref a4), (1, .ref f)]) hx hb dX4_mayGoOn_56 hl (k := 2) rfl (by decide) (by decide) rfl (fun ls hl => ?_)
            refine lv_goto (tgt := 7) hx hb dX4_mayGoOn_59 (by decide) ?_
            refine lv_iload hx hb dX4_mayGoOn_7 (lv_at hl 0 rfl) ?_
            refine lv_iconst (v := 5) hx hb dX4_mayGoOn_9 (by decide) ?_
            refine lv_icmp_ge (tgt := 62) hx hb dX4_mayGoOn_10 (by decide) (fun _ => ?_) (fun hc => absurd (by decide) hc)
            refine lv_iconst (v := 2) hx hb dX4_mayGoOn_62 (by decide) ?_
            refine lv_iload_n hx hb dX4_mayGoOn_63 rfl (lv_at hl 2 rfl) ?_
            refine lv_imul hx hb dX4_mayGoOn_64 ?_
            refine lv_topi (fun z_87 ez_87 => ?_)
            have fz_87 : z_87 = 8 := ez_87.trans (by decide)
            subst fz_87
            refine lv_aload_n hx hb dX4_mayGoOn_65 rfl (lv_at hl 4 rfl) ?_
            refine va_getN (host := "NoticeStations") (D := D) (ci := 3) (v := .int 5) (C := RX2) (T := TX2) (N := 4) hx hb hts in_X4_mayGoOn_X2 hown hK hP 1 rfl rfl 2 (by decide) (va_Nw.use rfl (hN.1 (.fieldLinkNest "NoticeStations" 228 "NoticeStations$Standing" "size" "I" "NoticeStations") (by decide +kernel))) (fun _ h9 => h9) rfl dX4_mayGoOn_66 ?_
            refine lv_icmp_gt (tgt := 86) hx hb dX4_mayGoOn_69 (by decide) (fun _ => ?_) (fun hc => absurd (by decide) hc)
            refine lv_iconst (v := 1) hx hb dX4_mayGoOn_86 (by decide) ?_
            refine lv_goto (tgt := 91) hx hb dX4_mayGoOn_87 (by decide) ?_
            have hP9 := hP.sub (ws' := [(a4, wS tC 5 gf), (f, .inr (3, [.ref e1, .ref e2, .int 5, .int 0])), (e1, wI tC 0 z1)]) [0, 1, 2] rfl
            have hD9 := hD.sub (ws' := [(a4, wS tC 5 gf), (f, .inr (3, [.ref e1, .ref e2, .int 5, .int 0])), (e1, wI tC 0 z1)]) [0, 1, 2] (by decide) rfl
            refine W.widen (k := 0) (n := 0) (by omega) (by omega) ?_
            exact W.zret (v := 1) hx hb hr (by decide) (fun t ht hW => ⟨⟨1, (), rfl, (by unfold mayg cntb; rw [hb0, hb1, hb2, hb3, hb4] <;> decide), (by rw [ht]; exact hP9), va_K.moved hW.alike hK, hD9⟩, hS.F ht⟩) hS.2.2 dX4_mayGoOn_91 hlocks
  · skip
    refine lv_iload hx hb dX4_mayGoOn_7 (lv_at hl 0 rfl) ?_
    refine lv_iconst (v := 5) hx hb dX4_mayGoOn_9 (by decide) ?_
    refine lv_icmp_ge (tgt := 62) hx hb dX4_mayGoOn_10 (by decide) (fun hc => absurd hc (by decide)) (fun _ => ?_)
    refine lv_aload_n hx hb dX4_mayGoOn_13 rfl (lv_at hl 3 rfl) ?_
    refine lv_iload hx hb dX4_mayGoOn_14 (lv_at hl 0 rfl) ?_
    refine va_aldq hx hb hK hP 0 2 rfl rfl (by unfold vp_in; decide) dX4_mayGoOn_16 ?_
    rw [show gf (0 : Int32).toNatClampNeg = some f from (by rw [show (0 : Int32).toNatClampNeg = 0 by decide, hg 0 (by decide), hb0]; rfl)]
    refine W.eq (g2 := F0 m 17 ls [.ref f]) rfl ?_
    refine lv_ifnull hx hb dX4_mayGoOn_17 ?_
    refine lv_aload_n hx hb dX4_mayGoOn_20 rfl (lv_at hl 3 rfl) ?_
    refine lv_iload hx hb dX4_mayGoOn_21 (lv_at hl 0 rfl) ?_
    refine va_aldq hx hb hK hP 0 2 rfl rfl (by unfold vp_in; decide) dX4_mayGoOn_23 ?_
    rw [show gf (0 : Int32).toNatClampNeg = some f from (by rw [show (0 : Int32).toNatClampNeg = 0 by decide, hg 0 (by decide), hb0]; rfl)]
    refine W.eq (g2 := F0 m 24 ls [.ref f]) rfl ?_
    have hPc := hP.sub (ws' := [(f, .inr (3, [.ref e1, .ref e2, .int 5, .int 0])), (e1, wI tC 0 z1)]) [1, 2] rfl
    have hDc := hD.sub (ws' := [(f, .inr (3, [.ref e1, .ref e2, .int 5, .int 0])), (e1, wI tC 0 z1)]) [1, 2] (by decide) rfl
    have hFc := va_free (wc := [(f, .inr (3, [.ref e1, .ref e2, .int 5, .int 0])), (e1, wI tC 0 z1)]) hD hS hA [1, 2] rfl
    refine va_calli (va_runVN (As := []) (rest := []) ⟨hx, hb, hml, hown, hts⟩ (c_X2_length l hlt D tC dz s.heap.size f e1 e2 z1 ) ⟨(va_cnB (host := "NoticeStations") 0 hts gX4_mayGoOn_X2_length_n107 rfl rfl rfl (hN.1 (.methodLinkNest "NoticeStations" 107 ⟨"NoticeStations$Standing", "length", "()I"⟩ "NoticeStations") (by decide +kernel)) w_0 (by decide +kernel) ⟨Nat.le_of_ble_eq_true rfl, Nat.le_of_ble_eq_true rfl⟩), w_1, w_2⟩ ⟨pB_blind, va_recv hK hPc (ci := 3) (q0 := 0) rfl rfl, pB_at hPc hDc hK hN hE hS hFc⟩ rfl rfl hl.1 rfl (lv_room (Nat.le_of_ble_eq_true rfl)) dX4_mayGoOn_24 ⟨Nat.le_of_ble_eq_true rfl, Nat.le_of_ble_eq_true rfl⟩) hS (fun q _ h => hFc q h) hFc (fun r_88 u t H1 locs ht hvm hw hB hz1 hk1 hS => ?_)
    obtain ⟨hP1, _, hD1⟩ := hB
    have hw_89 := hw
    rw [ht] at hP1
    obtain ⟨hP, hD⟩ := va_join (wr := [(a4, wS tC 5 gf)]) (w1 := [(f, .inr (3, [.ref e1, .ref e2, .int 5, .int 0])), (e1, wI tC 0 z1)]) hP hD [1, 2] [0] rfl rfl (by decide) (by decide) hk1 hFc hP1 hD1
    generalize H1 = H at hP hS ⊢
    have hP : va_P D vwCl [(a4, wS tC 5 gf), (f, .inr (3, [.ref e1, .ref e2, .int 5, .int 0])), (e1, wI tC 0 z1)] H := hP
    have hD : va_D A [(a4, wS tC 5 gf), (f, .inr (3, [.ref e1, .ref e2, .int 5, .int 0])), (e1, wI tC 0 z1)] := hD
    subst hw_89
    refine lv_aload_n hx hb dX4_mayGoOn_27 rfl (lv_at hl 4 rfl) ?_
    have hPc := hP.sub (ws' := [(f, .inr (3, [.ref e1, .ref e2, .int 5, .int 0])), (e1, wI tC 0 z1)]) [1, 2] rfl
    have hDc := hD.sub (ws' := [(f, .inr (3, [.ref e1, .ref e2, .int 5, .int 0])), (e1, wI tC 0 z1)]) [1, 2] (by decide) rfl
    have hFc := va_free (wc := [(f, .inr (3, [.ref e1, .ref e2, .int 5, .int 0])), (e1, wI tC 0 z1)]) hD hS hA [1, 2] rfl
    refine va_calli (va_runVN (As := []) (rest := [.int 0]) ⟨hx, hb, hml, hown, hts⟩ (c_X2_length l hlt D tC dz H.size f e1 e2 z1 ) ⟨(va_cnB (host := "NoticeStations") 0 hts gX4_mayGoOn_X2_length_n107 rfl rfl rfl (hN.1 (.methodLinkNest "NoticeStations" 107 ⟨"NoticeStations$Standing", "length", "()I"⟩ "NoticeStations") (by decide +kernel)) w_0 (by decide +kernel) ⟨Nat.le_of_ble_eq_true rfl, Nat.le_of_ble_eq_true rfl⟩), w_1, w_2⟩ ⟨pB_blind, va_recv hK hPc (ci := 3) (q0 := 0) rfl rfl, pB_at hPc hDc hK hN hE hS hFc⟩ rfl rfl hl.1 rfl (lv_room (Nat.le_of_ble_eq_true rfl)) dX4_mayGoOn_28 ⟨Nat.le_of_ble_eq_true rfl, Nat.le_of_ble_eq_true rfl⟩) hS (fun q _ h => hFc q h) hFc (fun r_90 u t H1 locs ht hvm hw hB hz1 hk1 hS => ?_)
    obtain ⟨hP1, _, hD1⟩ := hB
    have hw_91 := hw
    rw [ht] at hP1
    obtain ⟨hP, hD⟩ := va_join (wr := [(a4, wS tC 5 gf)]) (w1 := [(f, .inr (3, [.ref e1, .ref e2, .int 5, .int 0])), (e1, wI tC 0 z1)]) hP hD [1, 2] [0] rfl rfl (by decide) (by decide) hk1 hFc hP1 hD1
    generalize H1 = H at hP hS ⊢
    have hP : va_P D vwCl [(a4, wS tC 5 gf), (f, .inr (3, [.ref e1, .ref e2, .int 5, .int 0])), (e1, wI tC 0 z1)] H := hP
    have hD : va_D A [(a4, wS tC 5 gf), (f, .inr (3, [.ref e1, .ref e2, .int 5, .int 0])), (e1, wI tC 0 z1)] := hD
    subst hw_91
    refine lv_icmp_ne (tgt := 56) hx hb dX4_mayGoOn_31 (by decide) (fun hc => absurd (by decide) hc) (fun _ => ?_)
    refine lv_iinc (v := 1) (lv' := [(2, .int 1), (4, .int 0), (3, .int 0), (0, .ref a4), (1, .ref f)]) hx hb dX4_mayGoOn_34 hl (k := 2) rfl (by decide) (by decide) rfl (fun ls hl => ?_)
    refine lv_iload_n hx hb dX4_mayGoOn_37 rfl (lv_at hl 2 rfl) ?_
    refine lv_if_ne (tgt := 50) hx hb dX4_mayGoOn_38 (by decide) (fun hc => absurd (by decide) hc) (fun _ => ?_)
    refine lv_iload hx hb dX4_mayGoOn_41 (lv_at hl 1 rfl) ?_
    refine lv_aload_n hx hb dX4_mayGoOn_43 rfl (lv_at hl 4 rfl) ?_
    refine va_getN (host := "NoticeStations") (D := D) (ci := 3) (v := .int 0) (C := RX2) (T := TX2) (N := 4) hx hb hts in_X4_mayGoOn_X2 hown hK hP 1 rfl rfl 3 (by decide) (va_Nw.use rfl (hN.1 (.fieldLinkNest "NoticeStations" 230 "NoticeStations$Standing" "named" "I" "NoticeStations") (by decide +kernel))) (fun _ h9 => h9) rfl dX4_mayGoOn_44 ?_
    refine lv_icmp_ne (tgt := 54) hx hb dX4_mayGoOn_47 (by decide) (fun hc => absurd (by decide) hc) (fun _ => ?_)
    refine lv_iconst (v := 1) hx hb dX4_mayGoOn_50 (by decide) ?_
    refine lv_goto (tgt := 55) hx hb dX4_mayGoOn_51 (by decide) ?_
    refine lv_istore_n (lv' := [(3, .int 1), (2, .int 1), (4, .int 0), (0, .ref a4), (1, .ref f)]) hx hb dX4_mayGoOn_55 rfl hl (by decide) rfl (fun ls hl => ?_)
    refine lv_iinc (v := 1) (lv' := [(4, .int 1), (3, .int 1), (2, .int 1), (0, .ref a4), (1, .ref f)]) hx hb dX4_mayGoOn_56 hl (k := 2) rfl (by decide) (by decide) rfl (fun ls hl => ?_)
    refine lv_goto (tgt := 7) hx hb dX4_mayGoOn_59 (by decide) ?_
    cases hb1 : bt 1
    · skip
      refine lv_iload hx hb dX4_mayGoOn_7 (lv_at hl 0 rfl) ?_
      refine lv_iconst (v := 5) hx hb dX4_mayGoOn_9 (by decide) ?_
      refine lv_icmp_ge (tgt := 62) hx hb dX4_mayGoOn_10 (by decide) (fun hc => absurd hc (by decide)) (fun _ => ?_)
      refine lv_aload_n hx hb dX4_mayGoOn_13 rfl (lv_at hl 3 rfl) ?_
      refine lv_iload hx hb dX4_mayGoOn_14 (lv_at hl 0 rfl) ?_
      refine va_aldq hx hb hK hP 0 2 rfl rfl (by unfold vp_in; decide) dX4_mayGoOn_16 ?_
      rw [show gf (1 : Int32).toNatClampNeg = none from (by rw [show (1 : Int32).toNatClampNeg = 1 by decide, hg 1 (by decide), hb1]; rfl)]
      refine W.eq (g2 := F0 m 17 ls [.null]) rfl ?_
      refine lv_ifnullN (tgt := 56) hx hb dX4_mayGoOn_17 (by decide) ?_
      refine lv_iinc (v := 2) (lv' := [(4, .int 2), (3, .int 1), (2, .int 1), (0, .ref a4), (1, .ref f)]) hx hb dX4_mayGoOn_56 hl (k := 0) rfl (by decide) (by decide) rfl (fun ls hl => ?_)
      refine lv_goto (tgt := 7) hx hb dX4_mayGoOn_59 (by decide) ?_
      cases hb2 : bt 2
      · skip
        refine lv_iload hx hb dX4_mayGoOn_7 (lv_at hl 0 rfl) ?_
        refine lv_iconst (v := 5) hx hb dX4_mayGoOn_9 (by decide) ?_
        refine lv_icmp_ge (tgt := 62) hx hb dX4_mayGoOn_10 (by decide) (fun hc => absurd hc (by decide)) (fun _ => ?_)
        refine lv_aload_n hx hb dX4_mayGoOn_13 rfl (lv_at hl 3 rfl) ?_
        refine lv_iload hx hb dX4_mayGoOn_14 (lv_at hl 0 rfl) ?_
        refine va_aldq hx hb hK hP 0 2 rfl rfl (by unfold vp_in; decide) dX4_mayGoOn_16 ?_
        rw [show gf (2 : Int32).toNatClampNeg = none from (by rw [show (2 : Int32).toNatClampNeg = 2 by decide, hg 2 (by decide), hb2]; rfl)]
        refine W.eq (g2 := F0 m 17 ls [.null]) rfl ?_
        refine lv_ifnullN (tgt := 56) hx hb dX4_mayGoOn_17 (by decide) ?_
        refine lv_iinc (v := 3) (lv' := [(4, .int 3), (3, .int 1), (2, .int 1), (0, .ref a4), (1, .ref f)]) hx hb dX4_mayGoOn_56 hl (k := 0) rfl (by decide) (by decide) rfl (fun ls hl => ?_)
        refine lv_goto (tgt := 7) hx hb dX4_mayGoOn_59 (by decide) ?_
        cases hb3 : bt 3
        · skip
          refine lv_iload hx hb dX4_mayGoOn_7 (lv_at hl 0 rfl) ?_
          refine lv_iconst (v := 5) hx hb dX4_mayGoOn_9 (by decide) ?_
          refine lv_icmp_ge (tgt := 62) hx hb dX4_mayGoOn_10 (by decide) (fun hc => absurd hc (by decide)) (fun _ => ?_)
          refine lv_aload_n hx hb dX4_mayGoOn_13 rfl (lv_at hl 3 rfl) ?_
          refine lv_iload hx hb dX4_mayGoOn_14 (lv_at hl 0 rfl) ?_
          refine va_aldq hx hb hK hP 0 2 rfl rfl (by unfold vp_in; decide) dX4_mayGoOn_16 ?_
          rw [show gf (3 : Int32).toNatClampNeg = none from (by rw [show (3 : Int32).toNatClampNeg = 3 by decide, hg 3 (by decide), hb3]; rfl)]
          refine W.eq (g2 := F0 m 17 ls [.null]) rfl ?_
          refine lv_ifnullN (tgt := 56) hx hb dX4_mayGoOn_17 (by decide) ?_
          refine lv_iinc (v := 4) (lv' := [(4, .int 4), (3, .int 1), (2, .int 1), (0, .ref a4), (1, .ref f)]) hx hb dX4_mayGoOn_56 hl (k := 0) rfl (by decide) (by decide) rfl (fun ls hl => ?_)
          refine lv_goto (tgt := 7) hx hb dX4_mayGoOn_59 (by decide) ?_
          cases hb4 : bt 4
          · skip
            refine lv_iload hx hb dX4_mayGoOn_7 (lv_at hl 0 rfl) ?_
            refine lv_iconst (v := 5) hx hb dX4_mayGoOn_9 (by decide) ?_
            refine lv_icmp_ge (tgt := 62) hx hb dX4_mayGoOn_10 (by decide) (fun hc => absurd hc (by decide)) (fun _ => ?_)
            refine lv_aload_n hx hb dX4_mayGoOn_13 rfl (lv_at hl 3 rfl) ?_
            refine lv_iload hx hb dX4_mayGoOn_14 (lv_at hl 0 rfl) ?_
            refine va_aldq hx hb hK hP 0 2 rfl rfl (by unfold vp_in; decide) dX4_mayGoOn_16 ?_
            rw [show gf (4 : Int32).toNatClampNeg = none from (by rw [show (4 : Int32).toNatClampNeg = 4 by decide, hg 4 (by decide), hb4]; rfl)]
            refine W.eq (g2 := F0 m 17 ls [.null]) rfl ?_
            refine lv_ifnullN (tgt := 56) hx hb dX4_mayGoOn_17 (by decide) ?_
            refine lv_iinc (v := 5) (lv' := [(4, .int 5), (3, .int 1), (2, .int 1), (0, .ref a4), (1, .ref f)]) hx hb dX4_mayGoOn_56 hl (k := 0) rfl (by decide) (by decide) rfl (fun ls hl => ?_)
            refine lv_goto (tgt := 7) hx hb dX4_mayGoOn_59 (by decide) ?_
            refine lv_iload hx hb dX4_mayGoOn_7 (lv_at hl 0 rfl) ?_
            refine lv_iconst (v := 5) hx hb dX4_mayGoOn_9 (by decide) ?_
            refine lv_icmp_ge (tgt := 62) hx hb dX4_mayGoOn_10 (by decide) (fun _ => ?_) (fun hc => absurd (by decide) hc)
            refine lv_iconst (v := 2) hx hb dX4_mayGoOn_62 (by decide) ?_
            refine lv_iload_n hx hb dX4_mayGoOn_63 rfl (lv_at hl 2 rfl) ?_
            refine lv_imul hx hb dX4_mayGoOn_64 ?_
            refine lv_topi (fun z_92 ez_92 => ?_)
            have fz_92 : z_92 = 2 := ez_92.trans (by decide)
            subst fz_92
            refine lv_aload_n hx hb dX4_mayGoOn_65 rfl (lv_at hl 4 rfl) ?_
            refine va_getN (host := "NoticeStations") (D := D) (ci := 3) (v := .int 5) (C := RX2) (T := TX2) (N := 4) hx hb hts in_X4_mayGoOn_X2 hown hK hP 1 rfl rfl 2 (by decide) (va_Nw.use rfl (hN.1 (.fieldLinkNest "NoticeStations" 228 "NoticeStations$Standing" "size" "I" "NoticeStations") (by decide +kernel))) (fun _ h9 => h9) rfl dX4_mayGoOn_66 ?_
            refine lv_icmp_gt (tgt := 86) hx hb dX4_mayGoOn_69 (by decide) (fun hc => absurd hc (by decide)) (fun _ => ?_)
            refine lv_iconst (v := 2) hx hb dX4_mayGoOn_72 (by decide) ?_
            refine lv_iload_n hx hb dX4_mayGoOn_73 rfl (lv_at hl 2 rfl) ?_
            refine lv_imul hx hb dX4_mayGoOn_74 ?_
            refine lv_topi (fun z_93 ez_93 => ?_)
            have fz_93 : z_93 = 2 := ez_93.trans (by decide)
            subst fz_93
            refine lv_aload_n hx hb dX4_mayGoOn_75 rfl (lv_at hl 4 rfl) ?_
            refine va_getN (host := "NoticeStations") (D := D) (ci := 3) (v := .int 5) (C := RX2) (T := TX2) (N := 4) hx hb hts in_X4_mayGoOn_X2 hown hK hP 1 rfl rfl 2 (by decide) (va_Nw.use rfl (hN.1 (.fieldLinkNest "NoticeStations" 228 "NoticeStations$Standing" "size" "I" "NoticeStations") (by decide +kernel))) (fun _ h9 => h9) rfl dX4_mayGoOn_76 ?_
            refine lv_icmp_ne (tgt := 90) hx hb dX4_mayGoOn_79 (by decide) (fun _ => ?_) (fun hc => absurd hc (by decide))
            refine lv_iconst (v := 0) hx hb dX4_mayGoOn_90 (by decide) ?_
            have hP9 := hP.sub (ws' := [(a4, wS tC 5 gf), (f, .inr (3, [.ref e1, .ref e2, .int 5, .int 0])), (e1, wI tC 0 z1)]) [0, 1, 2] rfl
            have hD9 := hD.sub (ws' := [(a4, wS tC 5 gf), (f, .inr (3, [.ref e1, .ref e2, .int 5, .int 0])), (e1, wI tC 0 z1)]) [0, 1, 2] (by decide) rfl
            refine W.widen (k := 0) (n := 0) (by omega) (by omega) ?_
            exact W.zret (v := 0) hx hb hr (by decide) (fun t ht hW => ⟨⟨0, (), rfl, (by unfold mayg cntb; rw [hb0, hb1, hb2, hb3, hb4] <;> decide), (by rw [ht]; exact hP9), va_K.moved hW.alike hK, hD9⟩, hS.F ht⟩) hS.2.2 dX4_mayGoOn_91 hlocks
          · skip
            refine lv_iload hx hb dX4_mayGoOn_7 (lv_at hl 0 rfl) ?_
            refine lv_iconst (v := 5) hx hb dX4_mayGoOn_9 (by decide) ?_
            refine lv_icmp_ge (tgt := 62) hx hb dX4_mayGoOn_10 (by decide) (fun hc => absurd hc (by decide)) (fun _ => ?_)
            refine lv_aload_n hx hb dX4_mayGoOn_13 rfl (lv_at hl 3 rfl) ?_
            refine lv_iload hx hb dX4_mayGoOn_14 (lv_at hl 0 rfl) ?_
            refine va_aldq hx hb hK hP 0 2 rfl rfl (by unfold vp_in; decide) dX4_mayGoOn_16 ?_
            rw [show gf (4 : Int32).toNatClampNeg = some f from (by rw [show (4 : Int32).toNatClampNeg = 4 by decide, hg 4 (by decide), hb4]; rfl)]
            refine W.eq (g2 := F0 m 17 ls [.ref f]) rfl ?_
            refine lv_ifnull hx hb dX4_mayGoOn_17 ?_
            refine lv_aload_n hx hb dX4_mayGoOn_20 rfl (lv_at hl 3 rfl) ?_
            refine lv_iload hx hb dX4_mayGoOn_21 (lv_at hl 0 rfl) ?_
            refine va_aldq hx hb hK hP 0 2 rfl rfl (by unfold vp_in; decide) dX4_mayGoOn_23 ?_
            rw [show gf (4 : Int32).toNatClampNeg = some f from (by rw [show (4 : Int32).toNatClampNeg = 4 by decide, hg 4 (by decide), hb4]; rfl)]
            refine W.eq (g2 := F0 m 24 ls [.ref f]) rfl ?_
            have hPc := hP.sub (ws' := [(f, .inr (3, [.ref e1, .ref e2, .int 5, .int 0])), (e1, wI tC 0 z1)]) [1, 2] rfl
            have hDc := hD.sub (ws' := [(f, .inr (3, [.ref e1, .ref e2, .int 5, .int 0])), (e1, wI tC 0 z1)]) [1, 2] (by decide) rfl
            have hFc := va_free (wc := [(f, .inr (3, [.ref e1, .ref e2, .int 5, .int 0])), (e1, wI tC 0 z1)]) hD hS hA [1, 2] rfl
            refine va_calli (va_runVN (As := []) (rest := []) ⟨hx, hb, hml, hown, hts⟩ (c_X2_length l hlt D tC dz H.size f e1 e2 z1 ) ⟨(va_cnB (host := "NoticeStations") 0 hts gX4_mayGoOn_X2_length_n107 rfl rfl rfl (hN.1 (.methodLinkNest "NoticeStations" 107 ⟨"NoticeStations$Standing", "length", "()I"⟩ "NoticeStations") (by decide +kernel)) w_0 (by decide +kernel) ⟨Nat.le_of_ble_eq_true rfl, Nat.le_of_ble_eq_true rfl⟩), w_1, w_2⟩ ⟨pB_blind, va_recv hK hPc (ci := 3) (q0 := 0) rfl rfl, pB_at hPc hDc hK hN hE hS hFc⟩ rfl rfl hl.1 rfl (lv_room (Nat.le_of_ble_eq_true rfl)) dX4_mayGoOn_24 ⟨Nat.le_of_ble_eq_true rfl, Nat.le_of_ble_eq_true rfl⟩) hS (fun q _ h => hFc q h) hFc (fun r_94 u t H1 locs ht hvm hw hB hz1 hk1 hS => ?_)
            obtain ⟨hP1, _, hD1⟩ := hB
            have hw_95 := hw
            rw [ht] at hP1
            obtain ⟨hP, hD⟩ := va_join (wr := [(a4, wS tC 5 gf)]) (w1 := [(f, .inr (3, [.ref e1, .ref e2, .int 5, .int 0])), (e1, wI tC 0 z1)]) hP hD [1, 2] [0] rfl rfl (by decide) (by decide) hk1 hFc hP1 hD1
            generalize H1 = H at hP hS ⊢
            have hP : va_P D vwCl [(a4, wS tC 5 gf), (f, .inr (3, [.ref e1, .ref e2, .int 5, .int 0])), (e1, wI tC 0 z1)] H := hP
            have hD : va_D A [(a4, wS tC 5 gf), (f, .inr (3, [.ref e1, .ref e2, .int 5, .int 0])), (e1, wI tC 0 z1)] := hD
            subst hw_95
            refine lv_aload_n hx hb dX4_mayGoOn_27 rfl (lv_at hl 4 rfl) ?_
            have hPc := hP.sub (ws' := [(f, .inr (3, [.ref e1, .ref e2, .int 5, .int 0])), (e1, wI tC 0 z1)]) [1, 2] rfl
            have hDc := hD.sub (ws' := [(f, .inr (3, [.ref e1, .ref e2, .int 5, .int 0])), (e1, wI tC 0 z1)]) [1, 2] (by decide) rfl
            have hFc := va_free (wc := [(f, .inr (3, [.ref e1, .ref e2, .int 5, .int 0])), (e1, wI tC 0 z1)]) hD hS hA [1, 2] rfl
            refine va_calli (va_runVN (As := []) (rest := [.int 0]) ⟨hx, hb, hml, hown, hts⟩ (c_X2_length l hlt D tC dz H.size f e1 e2 z1 ) ⟨(va_cnB (host := "NoticeStations") 0 hts gX4_mayGoOn_X2_length_n107 rfl rfl rfl (hN.1 (.methodLinkNest "NoticeStations" 107 ⟨"NoticeStations$Standing", "length", "()I"⟩ "NoticeStations") (by decide +kernel)) w_0 (by decide +kernel) ⟨Nat.le_of_ble_eq_true rfl, Nat.le_of_ble_eq_true rfl⟩), w_1, w_2⟩ ⟨pB_blind, va_recv hK hPc (ci := 3) (q0 := 0) rfl rfl, pB_at hPc hDc hK hN hE hS hFc⟩ rfl rfl hl.1 rfl (lv_room (Nat.le_of_ble_eq_true rfl)) dX4_mayGoOn_28 ⟨Nat.le_of_ble_eq_true rfl, Nat.le_of_ble_eq_true rfl⟩) hS (fun q _ h => hFc q h) hFc (fun r_96 u t H1 locs ht hvm hw hB hz1 hk1 hS => ?_)
            obtain ⟨hP1, _, hD1⟩ := hB
            have hw_97 := hw
            rw [ht] at hP1
            obtain ⟨hP, hD⟩ := va_join (wr := [(a4, wS tC 5 gf)]) (w1 := [(f, .inr (3, [.ref e1, .ref e2, .int 5, .int 0])), (e1, wI tC 0 z1)]) hP hD [1, 2] [0] rfl rfl (by decide) (by decide) hk1 hFc hP1 hD1
            generalize H1 = H at hP hS ⊢
            have hP : va_P D vwCl [(a4, wS tC 5 gf), (f, .inr (3, [.ref e1, .ref e2, .int 5, .int 0])), (e1, wI tC 0 z1)] H := hP
            have hD : va_D A [(a4, wS tC 5 gf), (f, .inr (3, [.ref e1, .ref e2, .int 5, .int 0])), (e1, wI tC 0 z1)] := hD
            subst hw_97
            refine lv_icmp_ne (tgt := 56) hx hb dX4_mayGoOn_31 (by decide) (fun hc => absurd (by decide) hc) (fun _ => ?_)
            refine lv_iinc (v := 2) (lv' := [(2, .int 2), (4, .int 4), (3, .int 1), (0, .ref a4), (1, .ref f)]) hx hb dX4_mayGoOn_34 hl (k := 2) rfl (by decide) (by decide) rfl (fun ls hl => ?_)
            refine lv_iload_n hx hb dX4_mayGoOn_37 rfl (lv_at hl 2 rfl) ?_
            refine lv_if_ne (tgt := 50) hx hb dX4_mayGoOn_38 (by decide) (fun _ => ?_) (fun hc => absurd hc (by decide))
            refine lv_iconst (v := 1) hx hb dX4_mayGoOn_50 (by decide) ?_
            refine lv_goto (tgt := 55) hx hb dX4_mayGoOn_51 (by decide) ?_
            refine lv_istore_n (lv' := [(3, .int 1), (2, .int 2), (4, .int 4), (0, .ref a4), (1, .ref f)]) hx hb dX4_mayGoOn_55 rfl hl (by decide) rfl (fun ls hl => ?_)
            refine lv_iinc (v := 5) (lv' := [(4, .int 5), (3, .int 1), (2, .int 2), (0, .ref a4), (1, .ref f)]) hx hb dX4_mayGoOn_56 hl (k := 2) rfl (by decide) (by decide) rfl (fun ls hl => ?_)
            refine lv_goto (tgt := 7) hx hb dX4_mayGoOn_59 (by decide) ?_
            refine lv_iload hx hb dX4_mayGoOn_7 (lv_at hl 0 rfl) ?_
            refine lv_iconst (v := 5) hx hb dX4_mayGoOn_9 (by decide) ?_
            refine lv_icmp_ge (tgt := 62) hx hb dX4_mayGoOn_10 (by decide) (fun _ => ?_) (fun hc => absurd (by decide) hc)
            refine lv_iconst (v := 2) hx hb dX4_mayGoOn_62 (by decide) ?_
            refine lv_iload_n hx hb dX4_mayGoOn_63 rfl (lv_at hl 2 rfl) ?_
            refine lv_imul hx hb dX4_mayGoOn_64 ?_
            refine lv_topi (fun z_98 ez_98 => ?_)
            have fz_98 : z_98 = 4 := ez_98.trans (by decide)
            subst fz_98
            refine lv_aload_n hx hb dX4_mayGoOn_65 rfl (lv_at hl 4 rfl) ?_
            refine va_getN (host := "NoticeStations") (D := D) (ci := 3) (v := .int 5) (C := RX2) (T := TX2) (N := 4) hx hb hts in_X4_mayGoOn_X2 hown hK hP 1 rfl rfl 2 (by decide) (va_Nw.use rfl (hN.1 (.fieldLinkNest "NoticeStations" 228 "NoticeStations$Standing" "size" "I" "NoticeStations") (by decide +kernel))) (fun _ h9 => h9) rfl dX4_mayGoOn_66 ?_
            refine lv_icmp_gt (tgt := 86) hx hb dX4_mayGoOn_69 (by decide) (fun hc => absurd hc (by decide)) (fun _ => ?_)
            refine lv_iconst (v := 2) hx hb dX4_mayGoOn_72 (by decide) ?_
            refine lv_iload_n hx hb dX4_mayGoOn_73 rfl (lv_at hl 2 rfl) ?_
            refine lv_imul hx hb dX4_mayGoOn_74 ?_
            refine lv_topi (fun z_99 ez_99 => ?_)
            have fz_99 : z_99 = 4 := ez_99.trans (by decide)
            subst fz_99
            refine lv_aload_n hx hb dX4_mayGoOn_75 rfl (lv_at hl 4 rfl) ?_
            refine va_getN (host := "NoticeStations") (D := D) (ci := 3) (v := .int 5) (C := RX2) (T := TX2) (N := 4) hx hb hts in_X4_mayGoOn_X2 hown hK hP 1 rfl rfl 2 (by decide) (va_Nw.use rfl (hN.1 (.fieldLinkNest "NoticeStations" 228 "NoticeStations$Standing" "size" "I" "NoticeStations") (by decide +kernel))) (fun _ h9 => h9) rfl dX4_mayGoOn_76 ?_
            refine lv_icmp_ne (tgt := 90) hx hb dX4_mayGoOn_79 (by decide) (fun _ => ?_) (fun hc => absurd hc (by decide))
            refine lv_iconst (v := 0) hx hb dX4_mayGoOn_90 (by decide) ?_
            have hP9 := hP.sub (ws' := [(a4, wS tC 5 gf), (f, .inr (3, [.ref e1, .ref e2, .int 5, .int 0])), (e1, wI tC 0 z1)]) [0, 1, 2] rfl
            have hD9 := hD.sub (ws' := [(a4, wS tC 5 gf), (f, .inr (3, [.ref e1, .ref e2, .int 5, .int 0])), (e1, wI tC 0 z1)]) [0, 1, 2] (by decide) rfl
            refine W.widen (k := 0) (n := 0) (by omega) (by omega) ?_
            exact W.zret (v := 0) hx hb hr (by decide) (fun t ht hW => ⟨⟨0, (), rfl, (by unfold mayg cntb; rw [hb0, hb1, hb2, hb3, hb4] <;> decide), (by rw [ht]; exact hP9), va_K.moved hW.alike hK, hD9⟩, hS.F ht⟩) hS.2.2 dX4_mayGoOn_91 hlocks
        · skip
          refine lv_iload hx hb dX4_mayGoOn_7 (lv_at hl 0 rfl) ?_
          refine lv_iconst (v := 5) hx hb dX4_mayGoOn_9 (by decide) ?_
          refine lv_icmp_ge (tgt := 62) hx hb dX4_mayGoOn_10 (by decide) (fun hc => absurd hc (by decide)) (fun _ => ?_)
          refine lv_aload_n hx hb dX4_mayGoOn_13 rfl (lv_at hl 3 rfl) ?_
          refine lv_iload hx hb dX4_mayGoOn_14 (lv_at hl 0 rfl) ?_
          refine va_aldq hx hb hK hP 0 2 rfl rfl (by unfold vp_in; decide) dX4_mayGoOn_16 ?_
          rw [show gf (3 : Int32).toNatClampNeg = some f from (by rw [show (3 : Int32).toNatClampNeg = 3 by decide, hg 3 (by decide), hb3]; rfl)]
          refine W.eq (g2 := F0 m 17 ls [.ref f]) rfl ?_
          refine lv_ifnull hx hb dX4_mayGoOn_17 ?_
          refine lv_aload_n hx hb dX4_mayGoOn_20 rfl (lv_at hl 3 rfl) ?_
          refine lv_iload hx hb dX4_mayGoOn_21 (lv_at hl 0 rfl) ?_
          refine va_aldq hx hb hK hP 0 2 rfl rfl (by unfold vp_in; decide) dX4_mayGoOn_23 ?_
          rw [show gf (3 : Int32).toNatClampNeg = some f from (by rw [show (3 : Int32).toNatClampNeg = 3 by decide, hg 3 (by decide), hb3]; rfl)]
          refine W.eq (g2 := F0 m 24 ls [.ref f]) rfl ?_
          have hPc := hP.sub (ws' := [(f, .inr (3, [.ref e1, .ref e2, .int 5, .int 0])), (e1, wI tC 0 z1)]) [1, 2] rfl
          have hDc := hD.sub (ws' := [(f, .inr (3, [.ref e1, .ref e2, .int 5, .int 0])), (e1, wI tC 0 z1)]) [1, 2] (by decide) rfl
          have hFc := va_free (wc := [(f, .inr (3, [.ref e1, .ref e2, .int 5, .int 0])), (e1, wI tC 0 z1)]) hD hS hA [1, 2] rfl
          refine va_calli (va_runVN (As := []) (rest := []) ⟨hx, hb, hml, hown, hts⟩ (c_X2_length l hlt D tC dz H.size f e1 e2 z1 ) ⟨(va_cnB (host := "NoticeStations") 0 hts gX4_mayGoOn_X2_length_n107 rfl rfl rfl (hN.1 (.methodLinkNest "NoticeStations" 107 ⟨"NoticeStations$Standing", "length", "()I"⟩ "NoticeStations") (by decide +kernel)) w_0 (by decide +kernel) ⟨Nat.le_of_ble_eq_true rfl, Nat.le_of_ble_eq_true rfl⟩), w_1, w_2⟩ ⟨pB_blind, va_recv hK hPc (ci := 3) (q0 := 0) rfl rfl, pB_at hPc hDc hK hN hE hS hFc⟩ rfl rfl hl.1 rfl (lv_room (Nat.le_of_ble_eq_true rfl)) dX4_mayGoOn_24 ⟨Nat.le_of_ble_eq_true rfl, Nat.le_of_ble_eq_true rfl⟩) hS (fun q _ h => hFc q h) hFc (fun r_100 u t H1 locs ht hvm hw hB hz1 hk1 hS => ?_)
          obtain ⟨hP1, _, hD1⟩ := hB
          have hw_101 := hw
          rw [ht] at hP1
          obtain ⟨hP, hD⟩ := va_join (wr := [(a4, wS tC 5 gf)]) (w1 := [(f, .inr (3, [.ref e1, .ref e2, .int 5, .int 0])), (e1, wI tC 0 z1)]) hP hD [1, 2] [0] rfl rfl (by decide) (by decide) hk1 hFc hP1 hD1
          generalize H1 = H at hP hS ⊢
          have hP : va_P D vwCl [(a4, wS tC 5 gf), (f, .inr (3, [.ref e1, .ref e2, .int 5, .int 0])), (e1, wI tC 0 z1)] H := hP
          have hD : va_D A [(a4, wS tC 5 gf), (f, .inr (3, [.ref e1, .ref e2, .int 5, .int 0])), (e1, wI tC 0 z1)] := hD
          subst hw_101
          refine lv_aload_n hx hb dX4_mayGoOn_27 rfl (lv_at hl 4 rfl) ?_
          have hPc := hP.sub (ws' := [(f, .inr (3, [.ref e1, .ref e2, .int 5, .int 0])), (e1, wI tC 0 z1)]) [1, 2] rfl
          have hDc := hD.sub (ws' := [(f, .inr (3, [.ref e1, .ref e2, .int 5, .int 0])), (e1, wI tC 0 z1)]) [1, 2] (by decide) rfl
          have hFc := va_free (wc := [(f, .inr (3, [.ref e1, .ref e2, .int 5, .int 0])), (e1, wI tC 0 z1)]) hD hS hA [1, 2] rfl
          refine va_calli (va_runVN (As := []) (rest := [.int 0]) ⟨hx, hb, hml, hown, hts⟩ (c_X2_length l hlt D tC dz H.size f e1 e2 z1 ) ⟨(va_cnB (host := "NoticeStations") 0 hts gX4_mayGoOn_X2_length_n107 rfl rfl rfl (hN.1 (.methodLinkNest "NoticeStations" 107 ⟨"NoticeStations$Standing", "length", "()I"⟩ "NoticeStations") (by decide +kernel)) w_0 (by decide +kernel) ⟨Nat.le_of_ble_eq_true rfl, Nat.le_of_ble_eq_true rfl⟩), w_1, w_2⟩ ⟨pB_blind, va_recv hK hPc (ci := 3) (q0 := 0) rfl rfl, pB_at hPc hDc hK hN hE hS hFc⟩ rfl rfl hl.1 rfl (lv_room (Nat.le_of_ble_eq_true rfl)) dX4_mayGoOn_28 ⟨Nat.le_of_ble_eq_true rfl, Nat.le_of_ble_eq_true rfl⟩) hS (fun q _ h => hFc q h) hFc (fun r_102 u t H1 locs ht hvm hw hB hz1 hk1 hS => ?_)
          obtain ⟨hP1, _, hD1⟩ := hB
          have hw_103 := hw
          rw [ht] at hP1
          obtain ⟨hP, hD⟩ := va_join (wr := [(a4, wS tC 5 gf)]) (w1 := [(f, .inr (3, [.ref e1, .ref e2, .int 5, .int 0])), (e1, wI tC 0 z1)]) hP hD [1, 2] [0] rfl rfl (by decide) (by decide) hk1 hFc hP1 hD1
          generalize H1 = H at hP hS ⊢
          have hP : va_P D vwCl [(a4, wS tC 5 gf), (f, .inr (3, [.ref e1, .ref e2, .int 5, .int 0])), (e1, wI tC 0 z1)] H := hP
          have hD : va_D A [(a4, wS tC 5 gf), (f, .inr (3, [.ref e1, .ref e2, .int 5, .int 0])), (e1, wI tC 0 z1)] := hD
          subst hw_103
          refine lv_icmp_ne (tgt := 56) hx hb dX4_mayGoOn_31 (by decide) (fun hc => absurd (by decide) hc) (fun _ => ?_)
          refine lv_iinc (v := 2) (lv' := [(2, .int 2), (4, .int 3), (3, .int 1), (0, .ref a4), (1, .ref f)]) hx hb dX4_mayGoOn_34 hl (k := 2) rfl (by decide) (by decide) rfl (fun ls hl => ?_)
          refine lv_iload_n hx hb dX4_mayGoOn_37 rfl (lv_at hl 2 rfl) ?_
          refine lv_if_ne (tgt := 50) hx hb dX4_mayGoOn_38 (by decide) (fun _ => ?_) (fun hc => absurd hc (by decide))
          refine lv_iconst (v := 1) hx hb dX4_mayGoOn_50 (by decide) ?_
          refine lv_goto (tgt := 55) hx hb dX4_mayGoOn_51 (by decide) ?_
          refine lv_istore_n (lv' := [(3, .int 1), (2, .int 2), (4, .int 3), (0, .ref a4), (1, .ref f)]) hx hb dX4_mayGoOn_55 rfl hl (by decide) rfl (fun ls hl => ?_)
          refine lv_iinc (v := 4) (lv' := [(4, .int 4), (3, .int 1), (2, .int 2), (0, .ref a4), (1, .ref f)]) hx hb dX4_mayGoOn_56 hl (k := 2) rfl (by decide) (by decide) rfl (fun ls hl => ?_)
          refine lv_goto (tgt := 7) hx hb dX4_mayGoOn_59 (by decide) ?_
          cases hb4 : bt 4
          · skip
            refine lv_iload hx hb dX4_mayGoOn_7 (lv_at hl 0 rfl) ?_
            refine lv_iconst (v := 5) hx hb dX4_mayGoOn_9 (by decide) ?_
            refine lv_icmp_ge (tgt := 62) hx hb dX4_mayGoOn_10 (by decide) (fun hc => absurd hc (by decide)) (fun _ => ?_)
            refine lv_aload_n hx hb dX4_mayGoOn_13 rfl (lv_at hl 3 rfl) ?_
            refine lv_iload hx hb dX4_mayGoOn_14 (lv_at hl 0 rfl) ?_
            refine va_aldq hx hb hK hP 0 2 rfl rfl (by unfold vp_in; decide) dX4_mayGoOn_16 ?_
            rw [show gf (4 : Int32).toNatClampNeg = none from (by rw [show (4 : Int32).toNatClampNeg = 4 by decide, hg 4 (by decide), hb4]; rfl)]
            refine W.eq (g2 := F0 m 17 ls [.null]) rfl ?_
            refine lv_ifnullN (tgt := 56) hx hb dX4_mayGoOn_17 (by decide) ?_
            refine lv_iinc (v := 5) (lv' := [(4, .int 5), (3, .int 1), (2, .int 2), (0, .ref a4), (1, .ref f)]) hx hb dX4_mayGoOn_56 hl (k := 0) rfl (by decide) (by decide) rfl (fun ls hl => ?_)
            refine lv_goto (tgt := 7) hx hb dX4_mayGoOn_59 (by decide) ?_
            refine lv_iload hx hb dX4_mayGoOn_7 (lv_at hl 0 rfl) ?_
            refine lv_iconst (v := 5) hx hb dX4_mayGoOn_9 (by decide) ?_
            refine lv_icmp_ge (tgt := 62) hx hb dX4_mayGoOn_10 (by decide) (fun _ => ?_) (fun hc => absurd (by decide) hc)
            refine lv_iconst (v := 2) hx hb dX4_mayGoOn_62 (by decide) ?_
            refine lv_iload_n hx hb dX4_mayGoOn_63 rfl (lv_at hl 2 rfl) ?_
            refine lv_imul hx hb dX4_mayGoOn_64 ?_
            refine lv_topi (fun z_104 ez_104 => ?_)
            have fz_104 : z_104 = 4 := ez_104.trans (by decide)
            subst fz_104
            refine lv_aload_n hx hb dX4_mayGoOn_65 rfl (lv_at hl 4 rfl) ?_
            refine va_getN (host := "NoticeStations") (D := D) (ci := 3) (v := .int 5) (C := RX2) (T := TX2) (N := 4) hx hb hts in_X4_mayGoOn_X2 hown hK hP 1 rfl rfl 2 (by decide) (va_Nw.use rfl (hN.1 (.fieldLinkNest "NoticeStations" 228 "NoticeStations$Standing" "size" "I" "NoticeStations") (by decide +kernel))) (fun _ h9 => h9) rfl dX4_mayGoOn_66 ?_
            refine lv_icmp_gt (tgt := 86) hx hb dX4_mayGoOn_69 (by decide) (fun hc => absurd hc (by decide)) (fun _ => ?_)
            refine lv_iconst (v := 2) hx hb dX4_mayGoOn_72 (by decide) ?_
            refine lv_iload_n hx hb dX4_mayGoOn_73 rfl (lv_at hl 2 rfl) ?_
            refine lv_imul hx hb dX4_mayGoOn_74 ?_
            refine lv_topi (fun z_105 ez_105 => ?_)
            have fz_105 : z_105 = 4 := ez_105.trans (by decide)
            subst fz_105
            refine lv_aload_n hx hb dX4_mayGoOn_75 rfl (lv_at hl 4 rfl) ?_
            refine va_getN (host := "NoticeStations") (D := D) (ci := 3) (v := .int 5) (C := RX2) (T := TX2) (N := 4) hx hb hts in_X4_mayGoOn_X2 hown hK hP 1 rfl rfl 2 (by decide) (va_Nw.use rfl (hN.1 (.fieldLinkNest "NoticeStations" 228 "NoticeStations$Standing" "size" "I" "NoticeStations") (by decide +kernel))) (fun _ h9 => h9) rfl dX4_mayGoOn_76 ?_
            refine lv_icmp_ne (tgt := 90) hx hb dX4_mayGoOn_79 (by decide) (fun _ => ?_) (fun hc => absurd hc (by decide))
            refine lv_iconst (v := 0) hx hb dX4_mayGoOn_90 (by decide) ?_
            have hP9 := hP.sub (ws' := [(a4, wS tC 5 gf), (f, .inr (3, [.ref e1, .ref e2, .int 5, .int 0])), (e1, wI tC 0 z1)]) [0, 1, 2] rfl
            have hD9 := hD.sub (ws' := [(a4, wS tC 5 gf), (f, .inr (3, [.ref e1, .ref e2, .int 5, .int 0])), (e1, wI tC 0 z1)]) [0, 1, 2] (by decide) rfl
            refine W.widen (k := 0) (n := 0) (by omega) (by omega) ?_
            exact W.zret (v := 0) hx hb hr (by decide) (fun t ht hW => ⟨⟨0, (), rfl, (by unfold mayg cntb; rw [hb0, hb1, hb2, hb3, hb4] <;> decide), (by rw [ht]; exact hP9), va_K.moved hW.alike hK, hD9⟩, hS.F ht⟩) hS.2.2 dX4_mayGoOn_91 hlocks
          · skip
            refine lv_iload hx hb dX4_mayGoOn_7 (lv_at hl 0 rfl) ?_
            refine lv_iconst (v := 5) hx hb dX4_mayGoOn_9 (by decide) ?_
            refine lv_icmp_ge (tgt := 62) hx hb dX4_mayGoOn_10 (by decide) (fun hc => absurd hc (by decide)) (fun _ => ?_)
            refine lv_aload_n hx hb dX4_mayGoOn_13 rfl (lv_at hl 3 rfl) ?_
            refine lv_iload hx hb dX4_mayGoOn_14 (lv_at hl 0 rfl) ?_
            refine va_aldq hx hb hK hP 0 2 rfl rfl (by unfold vp_in; decide) dX4_mayGoOn_16 ?_
            rw [show gf (4 : Int32).toNatClampNeg = some f from (by rw [show (4 : Int32).toNatClampNeg = 4 by decide, hg 4 (by decide), hb4]; rfl)]
            refine W.eq (g2 := F0 m 17 ls [.ref f]) rfl ?_
            refine lv_ifnull hx hb dX4_mayGoOn_17 ?_
            refine lv_aload_n hx hb dX4_mayGoOn_20 rfl (lv_at hl 3 rfl) ?_
            refine lv_iload hx hb dX4_mayGoOn_21 (lv_at hl 0 rfl) ?_
            refine va_aldq hx hb hK hP 0 2 rfl rfl (by unfold vp_in; decide) dX4_mayGoOn_23 ?_
            rw [show gf (4 : Int32).toNatClampNeg = some f from (by rw [show (4 : Int32).toNatClampNeg = 4 by decide, hg 4 (by decide), hb4]; rfl)]
            refine W.eq (g2 := F0 m 24 ls [.ref f]) rfl ?_
            have hPc := hP.sub (ws' := [(f, .inr (3, [.ref e1, .ref e2, .int 5, .int 0])), (e1, wI tC 0 z1)]) [1, 2] rfl
            have hDc := hD.sub (ws' := [(f, .inr (3, [.ref e1, .ref e2, .int 5, .int 0])), (e1, wI tC 0 z1)]) [1, 2] (by decide) rfl
            have hFc := va_free (wc := [(f, .inr (3, [.ref e1, .ref e2, .int 5, .int 0])), (e1, wI tC 0 z1)]) hD hS hA [1, 2] rfl
            refine va_calli (va_runVN (As := []) (rest := []) ⟨hx, hb, hml, hown, hts⟩ (c_X2_length l hlt D tC dz H.size f e1 e2 z1 ) ⟨(va_cnB (host := "NoticeStations") 0 hts gX4_mayGoOn_X2_length_n107 rfl rfl rfl (hN.1 (.methodLinkNest "NoticeStations" 107 ⟨"NoticeStations$Standing", "length", "()I"⟩ "NoticeStations") (by decide +kernel)) w_0 (by decide +kernel) ⟨Nat.le_of_ble_eq_true rfl, Nat.le_of_ble_eq_true rfl⟩), w_1, w_2⟩ ⟨pB_blind, va_recv hK hPc (ci := 3) (q0 := 0) rfl rfl, pB_at hPc hDc hK hN hE hS hFc⟩ rfl rfl hl.1 rfl (lv_room (Nat.le_of_ble_eq_true rfl)) dX4_mayGoOn_24 ⟨Nat.le_of_ble_eq_true rfl, Nat.le_of_ble_eq_true rfl⟩) hS (fun q _ h => hFc q h) hFc (fun r_106 u t H1 locs ht hvm hw hB hz1 hk1 hS => ?_)
            obtain ⟨hP1, _, hD1⟩ := hB
            have hw_107 := hw
            rw [ht] at hP1
            obtain ⟨hP, hD⟩ := va_join (wr := [(a4, wS tC 5 gf)]) (w1 := [(f, .inr (3, [.ref e1, .ref e2, .int 5, .int 0])), (e1, wI tC 0 z1)]) hP hD [1, 2] [0] rfl rfl (by decide) (by decide) hk1 hFc hP1 hD1
            generalize H1 = H at hP hS ⊢
            have hP : va_P D vwCl [(a4, wS tC 5 gf), (f, .inr (3, [.ref e1, .ref e2, .int 5, .int 0])), (e1, wI tC 0 z1)] H := hP
            have hD : va_D A [(a4, wS tC 5 gf), (f, .inr (3, [.ref e1, .ref e2, .int 5, .int 0])), (e1, wI tC 0 z1)] := hD
            subst hw_107
            refine lv_aload_n hx hb dX4_mayGoOn_27 rfl (lv_at hl 4 rfl) ?_
            have hPc := hP.sub (ws' := [(f, .inr (3, [.ref e1, .ref e2, .int 5, .int 0])), (e1, wI tC 0 z1)]) [1, 2] rfl
            have hDc := hD.sub (ws' := [(f, .inr (3, [.ref e1, .ref e2, .int 5, .int 0])), (e1, wI tC 0 z1)]) [1, 2] (by decide) rfl
            have hFc := va_free (wc := [(f, .inr (3, [.ref e1, .ref e2, .int 5, .int 0])), (e1, wI tC 0 z1)]) hD hS hA [1, 2] rfl
            refine va_calli (va_runVN (As := []) (rest := [.int 0]) ⟨hx, hb, hml, hown, hts⟩ (c_X2_length l hlt D tC dz H.size f e1 e2 z1 ) ⟨(va_cnB (host := "NoticeStations") 0 hts gX4_mayGoOn_X2_length_n107 rfl rfl rfl (hN.1 (.methodLinkNest "NoticeStations" 107 ⟨"NoticeStations$Standing", "length", "()I"⟩ "NoticeStations") (by decide +kernel)) w_0 (by decide +kernel) ⟨Nat.le_of_ble_eq_true rfl, Nat.le_of_ble_eq_true rfl⟩), w_1, w_2⟩ ⟨pB_blind, va_recv hK hPc (ci := 3) (q0 := 0) rfl rfl, pB_at hPc hDc hK hN hE hS hFc⟩ rfl rfl hl.1 rfl (lv_room (Nat.le_of_ble_eq_true rfl)) dX4_mayGoOn_28 ⟨Nat.le_of_ble_eq_true rfl, Nat.le_of_ble_eq_true rfl⟩) hS (fun q _ h => hFc q h) hFc (fun r_108 u t H1 locs ht hvm hw hB hz1 hk1 hS => ?_)
            obtain ⟨hP1, _, hD1⟩ := hB
            have hw_109 := hw
            rw [ht] at hP1
            obtain ⟨hP, hD⟩ := va_join (wr := [(a4, wS tC 5 gf)]) (w1 := [(f, .inr (3, [.ref e1, .ref e2, .int 5, .int 0])), (e1, wI tC 0 z1)]) hP hD [1, 2] [0] rfl rfl (by decide) (by decide) hk1 hFc hP1 hD1
            generalize H1 = H at hP hS ⊢
            have hP : va_P D vwCl [(a4, wS tC 5 gf), (f, .inr (3, [.ref e1, .ref e2, .int 5, .int 0])), (e1, wI tC 0 z1)] H := hP
            have hD : va_D A [(a4, wS tC 5 gf), (f, .inr (3, [.ref e1, .ref e2, .int 5, .int 0])), (e1, wI tC 0 z1)] := hD
            subst hw_109
            refine lv_icmp_ne (tgt := 56) hx hb dX4_mayGoOn_31 (by decide) (fun hc => absurd (by decide) hc) (fun _ => ?_)
            refine lv_iinc (v := 3) (lv' := [(2, .int 3), (4, .int 4), (3, .int 1), (0, .ref a4), (1, .ref f)]) hx hb dX4_mayGoOn_34 hl (k := 2) rfl (by decide) (by decide) rfl (fun ls hl => ?_)
            refine lv_iload_n hx hb dX4_mayGoOn_37 rfl (lv_at hl 2 rfl) ?_
            refine lv_if_ne (tgt := 50) hx hb dX4_mayGoOn_38 (by decide) (fun _ => ?_) (fun hc => absurd hc (by decide))
            refine lv_iconst (v := 1) hx hb dX4_mayGoOn_50 (by decide) ?_
            refine lv_goto (tgt := 55) hx hb dX4_mayGoOn_51 (by decide) ?_
            refine lv_istore_n (lv' := [(3, .int 1), (2, .int 3), (4, .int 4), (0, .ref a4), (1, .ref f)]) hx hb dX4_mayGoOn_55 rfl hl (by decide) rfl (fun ls hl => ?_)
            refine lv_iinc (v := 5) (lv' := [(4, .int 5), (3, .int 1), (2, .int 3), (0, .ref a4), (1, .ref f)]) hx hb dX4_mayGoOn_56 hl (k := 2) rfl (by decide) (by decide) rfl (fun ls hl => ?_)
            refine lv_goto (tgt := 7) hx hb dX4_mayGoOn_59 (by decide) ?_
            refine lv_iload hx hb dX4_mayGoOn_7 (lv_at hl 0 rfl) ?_
            refine lv_iconst (v := 5) hx hb dX4_mayGoOn_9 (by decide) ?_
            refine lv_icmp_ge (tgt := 62) hx hb dX4_mayGoOn_10 (by decide) (fun _ => ?_) (fun hc => absurd (by decide) hc)
            refine lv_iconst (v := 2) hx hb dX4_mayGoOn_62 (by decide) ?_
            refine lv_iload_n hx hb dX4_mayGoOn_63 rfl (lv_at hl 2 rfl) ?_
            refine lv_imul hx hb dX4_mayGoOn_64 ?_
            refine lv_topi (fun z_110 ez_110 => ?_)
            have fz_110 : z_110 = 6 := ez_110.trans (by decide)
            subst fz_110
            refine lv_aload_n hx hb dX4_mayGoOn_65 rfl (lv_at hl 4 rfl) ?_
            refine va_getN (host := "NoticeStations") (D := D) (ci := 3) (v := .int 5) (C := RX2) (T := TX2) (N := 4) hx hb hts in_X4_mayGoOn_X2 hown hK hP 1 rfl rfl 2 (by decide) (va_Nw.use rfl (hN.1 (.fieldLinkNest "NoticeStations" 228 "NoticeStations$Standing" "size" "I" "NoticeStations") (by decide +kernel))) (fun _ h9 => h9) rfl dX4_mayGoOn_66 ?_
            refine lv_icmp_gt (tgt := 86) hx hb dX4_mayGoOn_69 (by decide) (fun _ => ?_) (fun hc => absurd (by decide) hc)
            refine lv_iconst (v := 1) hx hb dX4_mayGoOn_86 (by decide) ?_
            refine lv_goto (tgt := 91) hx hb dX4_mayGoOn_87 (by decide) ?_
            have hP9 := hP.sub (ws' := [(a4, wS tC 5 gf), (f, .inr (3, [.ref e1, .ref e2, .int 5, .int 0])), (e1, wI tC 0 z1)]) [0, 1, 2] rfl
            have hD9 := hD.sub (ws' := [(a4, wS tC 5 gf), (f, .inr (3, [.ref e1, .ref e2, .int 5, .int 0])), (e1, wI tC 0 z1)]) [0, 1, 2] (by decide) rfl
            refine W.widen (k := 0) (n := 0) (by omega) (by omega) ?_
            exact W.zret (v := 1) hx hb hr (by decide) (fun t ht hW => ⟨⟨1, (), rfl, (by unfold mayg cntb; rw [hb0, hb1, hb2, hb3, hb4] <;> decide), (by rw [ht]; exact hP9), va_K.moved hW.alike hK, hD9⟩, hS.F ht⟩) hS.2.2 dX4_mayGoOn_91 hlocks
      · skip
        refine lv_iload hx hb dX4_mayGoOn_7 (lv_at hl 0 rfl) ?_
        refine lv_iconst (v := 5) hx hb dX4_mayGoOn_9 (by decide) ?_
        refine lv_icmp_ge (tgt := 62) hx hb dX4_mayGoOn_10 (by decide) (fun hc => absurd hc (by decide)) (fun _ => ?_)
        refine lv_aload_n hx hb dX4_mayGoOn_13 rfl (lv_at hl 3 rfl) ?_
        refine lv_iload hx hb dX4_mayGoOn_14 (lv_at hl 0 rfl) ?_
        refine va_aldq hx hb hK hP 0 2 rfl rfl (by unfold vp_in; decide) dX4_mayGoOn_16 ?_
        rw [show gf (2 : Int32).toNatClampNeg = some f from (by rw [show (2 : Int32).toNatClampNeg = 2 by decide, hg 2 (by decide), hb2]; rfl)]
        refine W.eq (g2 := F0 m 17 ls [.ref f]) rfl ?_
        refine lv_ifnull hx hb dX4_mayGoOn_17 ?_
        refine lv_aload_n hx hb dX4_mayGoOn_20 rfl (lv_at hl 3 rfl) ?_
        refine lv_iload hx hb dX4_mayGoOn_21 (lv_at hl 0 rfl) ?_
        refine va_aldq hx hb hK hP 0 2 rfl rfl (by unfold vp_in; decide) dX4_mayGoOn_23 ?_
        rw [show gf (2 : Int32).toNatClampNeg = some f from (by rw [show (2 : Int32).toNatClampNeg = 2 by decide, hg 2 (by decide), hb2]; rfl)]
        refine W.eq (g2 := F0 m 24 ls [.ref f]) rfl ?_
        have hPc := hP.sub (ws' := [(f, .inr (3, [.ref e1, .ref e2, .int 5, .int 0])), (e1, wI tC 0 z1)]) [1, 2] rfl
        have hDc := hD.sub (ws' := [(f, .inr (3, [.ref e1, .ref e2, .int 5, .int 0])), (e1, wI tC 0 z1)]) [1, 2] (by decide) rfl
        have hFc := va_free (wc := [(f, .inr (3, [.ref e1, .ref e2, .int 5, .int 0])), (e1, wI tC 0 z1)]) hD hS hA [1, 2] rfl
        refine va_calli (va_runVN (As := []) (rest := []) ⟨hx, hb, hml, hown, hts⟩ (c_X2_length l hlt D tC dz H.size f e1 e2 z1 ) ⟨(va_cnB (host := "NoticeStations") 0 hts gX4_mayGoOn_X2_length_n107 rfl rfl rfl (hN.1 (.methodLinkNest "NoticeStations" 107 ⟨"NoticeStations$Standing", "length", "()I"⟩ "NoticeStations") (by decide +kernel)) w_0 (by decide +kernel) ⟨Nat.le_of_ble_eq_true rfl, Nat.le_of_ble_eq_true rfl⟩), w_1, w_2⟩ ⟨pB_blind, va_recv hK hPc (ci := 3) (q0 := 0) rfl rfl, pB_at hPc hDc hK hN hE hS hFc⟩ rfl rfl hl.1 rfl (lv_room (Nat.le_of_ble_eq_true rfl)) dX4_mayGoOn_24 ⟨Nat.le_of_ble_eq_true rfl, Nat.le_of_ble_eq_true rfl⟩) hS (fun q _ h => hFc q h) hFc (fun r_111 u t H1 locs ht hvm hw hB hz1 hk1 hS => ?_)
        obtain ⟨hP1, _, hD1⟩ := hB
        have hw_112 := hw
        rw [ht] at hP1
        obtain ⟨hP, hD⟩ := va_join (wr := [(a4, wS tC 5 gf)]) (w1 := [(f, .inr (3, [.ref e1, .ref e2, .int 5, .int 0])), (e1, wI tC 0 z1)]) hP hD [1, 2] [0] rfl rfl (by decide) (by decide) hk1 hFc hP1 hD1
        generalize H1 = H at hP hS ⊢
        have hP : va_P D vwCl [(a4, wS tC 5 gf), (f, .inr (3, [.ref e1, .ref e2, .int 5, .int 0])), (e1, wI tC 0 z1)] H := hP
        have hD : va_D A [(a4, wS tC 5 gf), (f, .inr (3, [.ref e1, .ref e2, .int 5, .int 0])), (e1, wI tC 0 z1)] := hD
        subst hw_112
        refine lv_aload_n hx hb dX4_mayGoOn_27 rfl (lv_at hl 4 rfl) ?_
        have hPc := hP.sub (ws' := [(f, .inr (3, [.ref e1, .ref e2, .int 5, .int 0])), (e1, wI tC 0 z1)]) [1, 2] rfl
        have hDc := hD.sub (ws' := [(f, .inr (3, [.ref e1, .ref e2, .int 5, .int 0])), (e1, wI tC 0 z1)]) [1, 2] (by decide) rfl
        have hFc := va_free (wc := [(f, .inr (3, [.ref e1, .ref e2, .int 5, .int 0])), (e1, wI tC 0 z1)]) hD hS hA [1, 2] rfl
        refine va_calli (va_runVN (As := []) (rest := [.int 0]) ⟨hx, hb, hml, hown, hts⟩ (c_X2_length l hlt D tC dz H.size f e1 e2 z1 ) ⟨(va_cnB (host := "NoticeStations") 0 hts gX4_mayGoOn_X2_length_n107 rfl rfl rfl (hN.1 (.methodLinkNest "NoticeStations" 107 ⟨"NoticeStations$Standing", "length", "()I"⟩ "NoticeStations") (by decide +kernel)) w_0 (by decide +kernel) ⟨Nat.le_of_ble_eq_true rfl, Nat.le_of_ble_eq_true rfl⟩), w_1, w_2⟩ ⟨pB_blind, va_recv hK hPc (ci := 3) (q0 := 0) rfl rfl, pB_at hPc hDc hK hN hE hS hFc⟩ rfl rfl hl.1 rfl (lv_room (Nat.le_of_ble_eq_true rfl)) dX4_mayGoOn_28 ⟨Nat.le_of_ble_eq_true rfl, Nat.le_of_ble_eq_true rfl⟩) hS (fun q _ h => hFc q h) hFc (fun r_113 u t H1 locs ht hvm hw hB hz1 hk1 hS => ?_)
        obtain ⟨hP1, _, hD1⟩ := hB
        have hw_114 := hw
        rw [ht] at hP1
        obtain ⟨hP, hD⟩ := va_join (wr := [(a4, wS tC 5 gf)]) (w1 := [(f, .inr (3, [.ref e1, .ref e2, .int 5, .int 0])), (e1, wI tC 0 z1)]) hP hD [1, 2] [0] rfl rfl (by decide) (by decide) hk1 hFc hP1 hD1
        generalize H1 = H at hP hS ⊢
        have hP : va_P D vwCl [(a4, wS tC 5 gf), (f, .inr (3, [.ref e1, .ref e2, .int 5, .int 0])), (e1, wI tC 0 z1)] H := hP
        have hD : va_D A [(a4, wS tC 5 gf), (f, .inr (3, [.ref e1, .ref e2, .int 5, .int 0])), (e1, wI tC 0 z1)] := hD
        subst hw_114
        refine lv_icmp_ne (tgt := 56) hx hb dX4_mayGoOn_31 (by decide) (fun hc => absurd (by decide) hc) (fun _ => ?_)
        refine lv_iinc (v := 2) (lv' := [(2, .int 2), (4, .int 2), (3, .int 1), (0, .ref a4), (1, .ref f)]) hx hb dX4_mayGoOn_34 hl (k := 2) rfl (by decide) (by decide) rfl (fun ls hl => ?_)
        refine lv_iload_n hx hb dX4_mayGoOn_37 rfl (lv_at hl 2 rfl) ?_
        refine lv_if_ne (tgt := 50) hx hb dX4_mayGoOn_38 (by decide) (fun _ => ?_) (fun hc => absurd hc (by decide))
        refine lv_iconst (v := 1) hx hb dX4_mayGoOn_50 (by decide) ?_
        refine lv_goto (tgt := 55) hx hb dX4_mayGoOn_51 (by decide) ?_
        refine lv_istore_n (lv' := [(3, .int 1), (2, .int 2), (4, .int 2), (0, .ref a4), (1, .ref f)]) hx hb dX4_mayGoOn_55 rfl hl (by decide) rfl (fun ls hl => ?_)
        refine lv_iinc (v := 3) (lv' := [(4, .int 3), (3, .int 1), (2, .int 2), (0, .ref a4), (1, .ref f)]) hx hb dX4_mayGoOn_56 hl (k := 2) rfl (by decide) (by decide) rfl (fun ls hl => ?_)
        refine lv_goto (tgt := 7) hx hb dX4_mayGoOn_59 (by decide) ?_
        cases hb3 : bt 3
        · skip
          refine lv_iload hx hb dX4_mayGoOn_7 (lv_at hl 0 rfl) ?_
          refine lv_iconst (v := 5) hx hb dX4_mayGoOn_9 (by decide) ?_
          refine lv_icmp_ge (tgt := 62) hx hb dX4_mayGoOn_10 (by decide) (fun hc => absurd hc (by decide)) (fun _ => ?_)
          refine lv_aload_n hx hb dX4_mayGoOn_13 rfl (lv_at hl 3 rfl) ?_
          refine lv_iload hx hb dX4_mayGoOn_14 (lv_at hl 0 rfl) ?_
          refine va_aldq hx hb hK hP 0 2 rfl rfl (by unfold vp_in; decide) dX4_mayGoOn_16 ?_
          rw [show gf (3 : Int32).toNatClampNeg = none from (by rw [show (3 : Int32).toNatClampNeg = 3 by decide, hg 3 (by decide), hb3]; rfl)]
          refine W.eq (g2 := F0 m 17 ls [.null]) rfl ?_
          refine lv_ifnullN (tgt := 56) hx hb dX4_mayGoOn_17 (by decide) ?_
          refine lv_iinc (v := 4) (lv' := [(4, .int 4), (3, .int 1), (2, .int 2), (0, .ref a4), (1, .ref f)]) hx hb dX4_mayGoOn_56 hl (k := 0) rfl (by decide) (by decide) rfl (fun ls hl => ?_)
          refine lv_goto (tgt := 7) hx hb dX4_mayGoOn_59 (by decide) ?_
          cases hb4 : bt 4
          · skip
            refine lv_iload hx hb dX4_mayGoOn_7 (lv_at hl 0 rfl) ?_
            refine lv_iconst (v := 5) hx hb dX4_mayGoOn_9 (by decide) ?_
            refine lv_icmp_ge (tgt := 62) hx hb dX4_mayGoOn_10 (by decide) (fun hc => absurd hc (by decide)) (fun _ => ?_)
            refine lv_aload_n hx hb dX4_mayGoOn_13 rfl (lv_at hl 3 rfl) ?_
            refine lv_iload hx hb dX4_mayGoOn_14 (lv_at hl 0 rfl) ?_
            refine va_aldq hx hb hK hP 0 2 rfl rfl (by unfold vp_in; decide) dX4_mayGoOn_16 ?_
            rw [show gf (4 : Int32).toNatClampNeg = none from (by rw [show (4 : Int32).toNatClampNeg = 4 by decide, hg 4 (by decide), hb4]; rfl)]
            refine W.eq (g2 := F0 m 17 ls [.null]) rfl ?_
            refine lv_ifnullN (tgt := 56) hx hb dX4_mayGoOn_17 (by decide) ?_
            refine lv_iinc (v := 5) (lv' := [(4, .int 5), (3, .int 1), (2, .int 2), (0, .ref a4), (1, .ref f)]) hx hb dX4_mayGoOn_56 hl (k := 0) rfl (by decide) (by decide) rfl (fun ls hl => ?_)
            refine lv_goto (tgt := 7) hx hb dX4_mayGoOn_59 (by decide) ?_
            refine lv_iload hx hb dX4_mayGoOn_7 (lv_at hl 0 rfl) ?_
            refine lv_iconst (v := 5) hx hb dX4_mayGoOn_9 (by decide) ?_
            refine lv_icmp_ge (tgt := 62) hx hb dX4_mayGoOn_10 (by decide) (fun _ => ?_) (fun hc => absurd (by decide) hc)
            refine lv_iconst (v := 2) hx hb dX4_mayGoOn_62 (by decide) ?_
            refine lv_iload_n hx hb dX4_mayGoOn_63 rfl (lv_at hl 2 rfl) ?_
            refine lv_imul hx hb dX4_mayGoOn_64 ?_
            refine lv_topi (fun z_115 ez_115 => ?_)
            have fz_115 : z_115 = 4 := ez_115.trans (by decide)
            subst fz_115
            refine lv_aload_n hx hb dX4_mayGoOn_65 rfl (lv_at hl 4 rfl) ?_
            refine va_getN (host := "NoticeStations") (D := D) (ci := 3) (v := .int 5) (C := RX2) (T := TX2) (N := 4) hx hb hts in_X4_mayGoOn_X2 hown hK hP 1 rfl rfl 2 (by decide) (va_Nw.use rfl (hN.1 (.fieldLinkNest "NoticeStations" 228 "NoticeStations$Standing" "size" "I" "NoticeStations") (by decide +kernel))) (fun _ h9 => h9) rfl dX4_mayGoOn_66 ?_
            refine lv_icmp_gt (tgt := 86) hx hb dX4_mayGoOn_69 (by decide) (fun hc => absurd hc (by decide)) (fun _ => ?_)
            refine lv_iconst (v := 2) hx hb dX4_mayGoOn_72 (by decide) ?_
            refine lv_iload_n hx hb dX4_mayGoOn_73 rfl (lv_at hl 2 rfl) ?_
            refine lv_imul hx hb dX4_mayGoOn_74 ?_
            refine lv_topi (fun z_116 ez_116 => ?_)
            have fz_116 : z_116 = 4 := ez_116.trans (by decide)
            subst fz_116
            refine lv_aload_n hx hb dX4_mayGoOn_75 rfl (lv_at hl 4 rfl) ?_
            refine va_getN (host := "NoticeStations") (D := D) (ci := 3) (v := .int 5) (C := RX2) (T := TX2) (N := 4) hx hb hts in_X4_mayGoOn_X2 hown hK hP 1 rfl rfl 2 (by decide) (va_Nw.use rfl (hN.1 (.fieldLinkNest "NoticeStations" 228 "NoticeStations$Standing" "size" "I" "NoticeStations") (by decide +kernel))) (fun _ h9 => h9) rfl dX4_mayGoOn_76 ?_
            refine lv_icmp_ne (tgt := 90) hx hb dX4_mayGoOn_79 (by decide) (fun _ => ?_) (fun hc => absurd hc (by decide))
            refine lv_iconst (v := 0) hx hb dX4_mayGoOn_90 (by decide) ?_
            have hP9 := hP.sub (ws' := [(a4, wS tC 5 gf), (f, .inr (3, [.ref e1, .ref e2, .int 5, .int 0])), (e1, wI tC 0 z1)]) [0, 1, 2] rfl
            have hD9 := hD.sub (ws' := [(a4, wS tC 5 gf), (f, .inr (3, [.ref e1, .ref e2, .int 5, .int 0])), (e1, wI tC 0 z1)]) [0, 1, 2] (by decide) rfl
            refine W.widen (k := 0) (n := 0) (by omega) (by omega) ?_
            exact W.zret (v := 0) hx hb hr (by decide) (fun t ht hW => ⟨⟨0, (), rfl, (by unfold mayg cntb; rw [hb0, hb1, hb2, hb3, hb4] <;> decide), (by rw [ht]; exact hP9), va_K.moved hW.alike hK, hD9⟩, hS.F ht⟩) hS.2.2 dX4_mayGoOn_91 hlocks
          · skip
            refine lv_iload hx hb dX4_mayGoOn_7 (lv_at hl 0 rfl) ?_
            refine lv_iconst (v := 5) hx hb dX4_mayGoOn_9 (by decide) ?_
            refine lv_icmp_ge (tgt := 62) hx hb dX4_mayGoOn_10 (by decide) (fun hc => absurd hc (by decide)) (fun _ => ?_)
            refine lv_aload_n hx hb dX4_mayGoOn_13 rfl (lv_at hl 3 rfl) ?_
            refine lv_iload hx hb dX4_mayGoOn_14 (lv_at hl 0 rfl) ?_
            refine va_aldq hx hb hK hP 0 2 rfl rfl (by unfold vp_in; decide) dX4_mayGoOn_16 ?_
            rw [show gf (4 : Int32).toNatClampNeg = some f from (by rw [show (4 : Int32).toNatClampNeg = 4 by decide, hg 4 (by decide), hb4]; rfl)]
            refine W.eq (g2 := F0 m 17 ls [.ref f]) rfl ?_
            refine lv_ifnull hx hb dX4_mayGoOn_17 ?_
            refine lv_aload_n hx hb dX4_mayGoOn_20 rfl (lv_at hl 3 rfl) ?_
            refine lv_iload hx hb dX4_mayGoOn_21 (lv_at hl 0 rfl) ?_
            refine va_aldq hx hb hK hP 0 2 rfl rfl (by unfold vp_in; decide) dX4_mayGoOn_23 ?_
            rw [show gf (4 : Int32).toNatClampNeg = some f from (by rw [show (4 : Int32).toNatClampNeg = 4 by decide, hg 4 (by decide), hb4]; rfl)]
            refine W.eq (g2 := F0 m 24 ls [.ref f]) rfl ?_
            have hPc := hP.sub (ws' := [(f, .inr (3, [.ref e1, .ref e2, .int 5, .int 0])), (e1, wI tC 0 z1)]) [1, 2] rfl
            have hDc := hD.sub (ws' := [(f, .inr (3, [.ref e1, .ref e2, .int 5, .int 0])), (e1, wI tC 0 z1)]) [1, 2] (by decide) rfl
            have hFc := va_free (wc := [(f, .inr (3, [.ref e1, .ref e2, .int 5, .int 0])), (e1, wI tC 0 z1)]) hD hS hA [1, 2] rfl
            refine va_calli (va_runVN (As := []) (rest := []) ⟨hx, hb, hml, hown, hts⟩ (c_X2_length l hlt D tC dz H.size f e1 e2 z1 ) ⟨(va_cnB (host := "NoticeStations") 0 hts gX4_mayGoOn_X2_length_n107 rfl rfl rfl (hN.1 (.methodLinkNest "NoticeStations" 107 ⟨"NoticeStations$Standing", "length", "()I"⟩ "NoticeStations") (by decide +kernel)) w_0 (by decide +kernel) ⟨Nat.le_of_ble_eq_true rfl, Nat.le_of_ble_eq_true rfl⟩), w_1, w_2⟩ ⟨pB_blind, va_recv hK hPc (ci := 3) (q0 := 0) rfl rfl, pB_at hPc hDc hK hN hE hS hFc⟩ rfl rfl hl.1 rfl (lv_room (Nat.le_of_ble_eq_true rfl)) dX4_mayGoOn_24 ⟨Nat.le_of_ble_eq_true rfl, Nat.le_of_ble_eq_true rfl⟩) hS (fun q _ h => hFc q h) hFc (fun r_117 u t H1 locs ht hvm hw hB hz1 hk1 hS => ?_)
            obtain ⟨hP1, _, hD1⟩ := hB
            have hw_118 := hw
            rw [ht] at hP1
            obtain ⟨hP, hD⟩ := va_join (wr := [(a4, wS tC 5 gf)]) (w1 := [(f, .inr (3, [.ref e1, .ref e2, .int 5, .int 0])), (e1, wI tC 0 z1)]) hP hD [1, 2] [0] rfl rfl (by decide) (by decide) hk1 hFc hP1 hD1
            generalize H1 = H at hP hS ⊢
            have hP : va_P D vwCl [(a4, wS tC 5 gf), (f, .inr (3, [.ref e1, .ref e2, .int 5, .int 0])), (e1, wI tC 0 z1)] H := hP
            have hD : va_D A [(a4, wS tC 5 gf), (f, .inr (3, [.ref e1, .ref e2, .int 5, .int 0])), (e1, wI tC 0 z1)] := hD
            subst hw_118
            refine lv_aload_n hx hb dX4_mayGoOn_27 rfl (lv_at hl 4 rfl) ?_
            have hPc := hP.sub (ws' := [(f, .inr (3, [.ref e1, .ref e2, .int 5, .int 0])), (e1, wI tC 0 z1)]) [1, 2] rfl
            have hDc := hD.sub (ws' := [(f, .inr (3, [.ref e1, .ref e2, .int 5, .int 0])), (e1, wI tC 0 z1)]) [1, 2] (by decide) rfl
            have hFc := va_free (wc := [(f, .inr (3, [.ref e1, .ref e2, .int 5, .int 0])), (e1, wI tC 0 z1)]) hD hS hA [1, 2] rfl
            refine va_calli (va_runVN (As := []) (rest := [.int 0]) ⟨hx, hb, hml, hown, hts⟩ (c_X2_length l hlt D tC dz H.size f e1 e2 z1 ) ⟨(va_cnB (host := "NoticeStations") 0 hts gX4_mayGoOn_X2_length_n107 rfl rfl rfl (hN.1 (.methodLinkNest "NoticeStations" 107 ⟨"NoticeStations$Standing", "length", "()I"⟩ "NoticeStations") (by decide +kernel)) w_0 (by decide +kernel) ⟨Nat.le_of_ble_eq_true rfl, Nat.le_of_ble_eq_true rfl⟩), w_1, w_2⟩ ⟨pB_blind, va_recv hK hPc (ci := 3) (q0 := 0) rfl rfl, pB_at hPc hDc hK hN hE hS hFc⟩ rfl rfl hl.1 rfl (lv_room (Nat.le_of_ble_eq_true rfl)) dX4_mayGoOn_28 ⟨Nat.le_of_ble_eq_true rfl, Nat.le_of_ble_eq_true rfl⟩) hS (fun q _ h => hFc q h) hFc (fun r_119 u t H1 locs ht hvm hw hB hz1 hk1 hS => ?_)
            obtain ⟨hP1, _, hD1⟩ := hB
            have hw_120 := hw
            rw [ht] at hP1
            obtain ⟨hP, hD⟩ := va_join (wr := [(a4, wS tC 5 gf)]) (w1 := [(f, .inr (3, [.ref e1, .ref e2, .int 5, .int 0])), (e1, wI tC 0 z1)]) hP hD [1, 2] [0] rfl rfl (by decide) (by decide) hk1 hFc hP1 hD1
            generalize H1 = H at hP hS ⊢
            have hP : va_P D vwCl [(a4, wS tC 5 gf), (f, .inr (3, [.ref e1, .ref e2, .int 5, .int 0])), (e1, wI tC 0 z1)] H := hP
            have hD : va_D A [(a4, wS tC 5 gf), (f, .inr (3, [.ref e1, .ref e2, .int 5, .int 0])), (e1, wI tC 0 z1)] := hD
            subst hw_120
            refine lv_icmp_ne (tgt := 56) hx hb dX4_mayGoOn_31 (by decide) (fun hc => absurd (by decide) hc) (fun _ => ?_)
            refine lv_iinc (v := 3) (lv' := [(2, .int 3), (4, .int 4), (3, .int 1), (0, .ref a4), (1, .ref f)]) hx hb dX4_mayGoOn_34 hl (k := 2) rfl (by decide) (by decide) rfl (fun ls hl => ?_)
            refine lv_iload_n hx hb dX4_mayGoOn_37 rfl (lv_at hl 2 rfl) ?_
            refine lv_if_ne (tgt := 50) hx hb dX4_mayGoOn_38 (by decide) (fun _ => ?_) (fun hc => absurd hc (by decide))
            refine lv_iconst (v := 1) hx hb dX4_mayGoOn_50 (by decide) ?_
            refine lv_goto (tgt := 55) hx hb dX4_mayGoOn_51 (by decide) ?_
            refine lv_istore_n (lv' := [(3, .int 1), (2, .int 3), (4, .int 4), (0, .ref a4), (1, .ref f)]) hx hb dX4_mayGoOn_55 rfl hl (by decide) rfl (fun ls hl => ?_)
            refine lv_iinc (v := 5) (lv' := [(4, .int 5), (3, .int 1), (2, .int 3), (0, .ref a4), (1, .ref f)]) hx hb dX4_mayGoOn_56 hl (k := 2) rfl (by decide) (by decide) rfl (fun ls hl => ?_)
            refine lv_goto (tgt := 7) hx hb dX4_mayGoOn_59 (by decide) ?_
            refine lv_iload hx hb dX4_mayGoOn_7 (lv_at hl 0 rfl) ?_
            refine lv_iconst (v := 5) hx hb dX4_mayGoOn_9 (by decide) ?_
            refine lv_icmp_ge (tgt := 62) hx hb dX4_mayGoOn_10 (by decide) (fun _ => ?_) (fun hc => absurd (by decide) hc)
            refine lv_iconst (v := 2) hx hb dX4_mayGoOn_62 (by decide) ?_
            refine lv_iload_n hx hb dX4_mayGoOn_63 rfl (lv_at hl 2 rfl) ?_
            refine lv_imul hx hb dX4_mayGoOn_64 ?_
            refine lv_topi (fun z_121 ez_121 => ?_)
            have fz_121 : z_121 = 6 := ez_121.trans (by decide)
            subst fz_121
            refine lv_aload_n hx hb dX4_mayGoOn_65 rfl (lv_at hl 4 rfl) ?_
            refine va_getN (host := "NoticeStations") (D := D) (ci := 3) (v := .int 5) (C := RX2) (T := TX2) (N := 4) hx hb hts in_X4_mayGoOn_X2 hown hK hP 1 rfl rfl 2 (by decide) (va_Nw.use rfl (hN.1 (.fieldLinkNest "NoticeStations" 228 "NoticeStations$Standing" "size" "I" "NoticeStations") (by decide +kernel))) (fun _ h9 => h9) rfl dX4_mayGoOn_66 ?_
            refine lv_icmp_gt (tgt := 86) hx hb dX4_mayGoOn_69 (by decide) (fun _ => ?_) (fun hc => absurd (by decide) hc)
            refine lv_iconst (v := 1) hx hb dX4_mayGoOn_86 (by decide) ?_
            refine lv_goto (tgt := 91) hx hb dX4_mayGoOn_87 (by decide) ?_
            have hP9 := hP.sub (ws' := [(a4, wS tC 5 gf), (f, .inr (3, [.ref e1, .ref e2, .int 5, .int 0])), (e1, wI tC 0 z1)]) [0, 1, 2] rfl
            have hD9 := hD.sub (ws' := [(a4, wS tC 5 gf), (f, .inr (3, [.ref e1, .ref e2, .int 5, .int 0])), (e1, wI tC 0 z1)]) [0, 1, 2] (by decide) rfl
            refine W.widen (k := 0) (n := 0) (by omega) (by omega) ?_
            exact W.zret (v := 1) hx hb hr (by decide) (fun t ht hW => ⟨⟨1, (), rfl, (by unfold mayg cntb; rw [hb0, hb1, hb2, hb3, hb4] <;> decide), (by rw [ht]; exact hP9), va_K.moved hW.alike hK, hD9⟩, hS.F ht⟩) hS.2.2 dX4_mayGoOn_91 hlocks
        · skip
          refine lv_iload hx hb dX4_mayGoOn_7 (lv_at hl 0 rfl) ?_
          refine lv_iconst (v := 5) hx hb dX4_mayGoOn_9 (by decide) ?_
          refine lv_icmp_ge (tgt := 62) hx hb dX4_mayGoOn_10 (by decide) (fun hc => absurd hc (by decide)) (fun _ => ?_)
          refine lv_aload_n hx hb dX4_mayGoOn_13 rfl (lv_at hl 3 rfl) ?_
          refine lv_iload hx hb dX4_mayGoOn_14 (lv_at hl 0 rfl) ?_
          refine va_aldq hx hb hK hP 0 2 rfl rfl (by unfold vp_in; decide) dX4_mayGoOn_16 ?_
          rw [show gf (3 : Int32).toNatClampNeg = some f from (by rw [show (3 : Int32).toNatClampNeg = 3 by decide, hg 3 (by decide), hb3]; rfl)]
          refine W.eq (g2 := F0 m 17 ls [.ref f]) rfl ?_
          refine lv_ifnull hx hb dX4_mayGoOn_17 ?_
          refine lv_aload_n hx hb dX4_mayGoOn_20 rfl (lv_at hl 3 rfl) ?_
          refine lv_iload hx hb dX4_mayGoOn_21 (lv_at hl 0 rfl) ?_
          refine va_aldq hx hb hK hP 0 2 rfl rfl (by unfold vp_in; decide) dX4_mayGoOn_23 ?_
          rw [show gf (3 : Int32).toNatClampNeg = some f from (by rw [show (3 : Int32).toNatClampNeg = 3 by decide, hg 3 (by decide), hb3]; rfl)]
          refine W.eq (g2 := F0 m 24 ls [.ref f]) rfl ?_
          have hPc := hP.sub (ws' := [(f, .inr (3, [.ref e1, .ref e2, .int 5, .int 0])), (e1, wI tC 0 z1)]) [1, 2] rfl
          have hDc := hD.sub (ws' := [(f, .inr (3, [.ref e1, .ref e2, .int 5, .int 0])), (e1, wI tC 0 z1)]) [1, 2] (by decide) rfl
          have hFc := va_free (wc := [(f, .inr (3, [.ref e1, .ref e2, .int 5, .int 0])), (e1, wI tC 0 z1)]) hD hS hA [1, 2] rfl
          refine va_calli (va_runVN (As := []) (rest := []) ⟨hx, hb, hml, hown, hts⟩ (c_X2_length l hlt D tC dz H.size f e1 e2 z1 ) ⟨(va_cnB (host := "NoticeStations") 0 hts gX4_mayGoOn_X2_length_n107 rfl rfl rfl (hN.1 (.methodLinkNest "NoticeStations" 107 ⟨"NoticeStations$Standing", "length", "()I"⟩ "NoticeStations") (by decide +kernel)) w_0 (by decide +kernel) ⟨Nat.le_of_ble_eq_true rfl, Nat.le_of_ble_eq_true rfl⟩), w_1, w_2⟩ ⟨pB_blind, va_recv hK hPc (ci := 3) (q0 := 0) rfl rfl, pB_at hPc hDc hK hN hE hS hFc⟩ rfl rfl hl.1 rfl (lv_room (Nat.le_of_ble_eq_true rfl)) dX4_mayGoOn_24 ⟨Nat.le_of_ble_eq_true rfl, Nat.le_of_ble_eq_true rfl⟩) hS (fun q _ h => hFc q h) hFc (fun r_122 u t H1 locs ht hvm hw hB hz1 hk1 hS => ?_)
          obtain ⟨hP1, _, hD1⟩ := hB
          have hw_123 := hw
          rw [ht] at hP1
          obtain ⟨hP, hD⟩ := va_join (wr := [(a4, wS tC 5 gf)]) (w1 := [(f, .inr (3, [.ref e1, .ref e2, .int 5, .int 0])), (e1, wI tC 0 z1)]) hP hD [1, 2] [0] rfl rfl (by decide) (by decide) hk1 hFc hP1 hD1
          generalize H1 = H at hP hS ⊢
          have hP : va_P D vwCl [(a4, wS tC 5 gf), (f, .inr (3, [.ref e1, .ref e2, .int 5, .int 0])), (e1, wI tC 0 z1)] H := hP
          have hD : va_D A [(a4, wS tC 5 gf), (f, .inr (3, [.ref e1, .ref e2, .int 5, .int 0])), (e1, wI tC 0 z1)] := hD
          subst hw_123
          refine lv_aload_n hx hb dX4_mayGoOn_27 rfl (lv_at hl 4 rfl) ?_
          have hPc := hP.sub (ws' := [(f, .inr (3, [.ref e1, .ref e2, .int 5, .int 0])), (e1, wI tC 0 z1)]) [1, 2] rfl
          have hDc := hD.sub (ws' := [(f, .inr (3, [.ref e1, .ref e2, .int 5, .int 0])), (e1, wI tC 0 z1)]) [1, 2] (by decide) rfl
          have hFc := va_free (wc := [(f, .inr (3, [.ref e1, .ref e2, .int 5, .int 0])), (e1, wI tC 0 z1)]) hD hS hA [1, 2] rfl
          refine va_calli (va_runVN (As := []) (rest := [.int 0]) ⟨hx, hb, hml, hown, hts⟩ (c_X2_length l hlt D tC dz H.size f e1 e2 z1 ) ⟨(va_cnB (host := "NoticeStations") 0 hts gX4_mayGoOn_X2_length_n107 rfl rfl rfl (hN.1 (.methodLinkNest "NoticeStations" 107 ⟨"NoticeStations$Standing", "length", "()I"⟩ "NoticeStations") (by decide +kernel)) w_0 (by decide +kernel) ⟨Nat.le_of_ble_eq_true rfl, Nat.le_of_ble_eq_true rfl⟩), w_1, w_2⟩ ⟨pB_blind, va_recv hK hPc (ci := 3) (q0 := 0) rfl rfl, pB_at hPc hDc hK hN hE hS hFc⟩ rfl rfl hl.1 rfl (lv_room (Nat.le_of_ble_eq_true rfl)) dX4_mayGoOn_28 ⟨Nat.le_of_ble_eq_true rfl, Nat.le_of_ble_eq_true rfl⟩) hS (fun q _ h => hFc q h) hFc (fun r_124 u t H1 locs ht hvm hw hB hz1 hk1 hS => ?_)
          obtain ⟨hP1, _, hD1⟩ := hB
          have hw_125 := hw
          rw [ht] at hP1
          obtain ⟨hP, hD⟩ := va_join (wr := [(a4, wS tC 5 gf)]) (w1 := [(f, .inr (3, [.ref e1, .ref e2, .int 5, .int 0])), (e1, wI tC 0 z1)]) hP hD [1, 2] [0] rfl rfl (by decide) (by decide) hk1 hFc hP1 hD1
          generalize H1 = H at hP hS ⊢
          have hP : va_P D vwCl [(a4, wS tC 5 gf), (f, .inr (3, [.ref e1, .ref e2, .int 5, .int 0])), (e1, wI tC 0 z1)] H := hP
          have hD : va_D A [(a4, wS tC 5 gf), (f, .inr (3, [.ref e1, .ref e2, .int 5, .int 0])), (e1, wI tC 0 z1)] := hD
          subst hw_125
          refine lv_icmp_ne (tgt := 56) hx hb dX4_mayGoOn_31 (by decide) (fun hc => absurd (by decide) hc) (fun _ => ?_)
          refine lv_iinc (v := 3) (lv' := [(2, .int 3), (4, .int 3), (3, .int 1), (0, .ref a4), (1, .ref f)]) hx hb dX4_mayGoOn_34 hl (k := 2) rfl (by decide) (by decide) rfl (fun ls hl => ?_)
          refine lv_iload_n hx hb dX4_mayGoOn_37 rfl (lv_at hl 2 rfl) ?_
          refine lv_if_ne (tgt := 50) hx hb dX4_mayGoOn_38 (by decide) (fun _ => ?_) (fun hc => absurd hc (by decide))
          refine lv_iconst (v := 1) hx hb dX4_mayGoOn_50 (by decide) ?_
          refine lv_goto (tgt := 55) hx hb dX4_mayGoOn_51 (by decide) ?_
          refine lv_istore_n (lv' := [(3, .int 1), (2, .int 3), (4, .int 3), (0, .ref a4), (1, .ref f)]) hx hb dX4_mayGoOn_55 rfl hl (by decide) rfl (fun ls hl => ?_)
          refine lv_iinc (v := 4) (lv' := [(4, .int 4), (3, .int 1), (2, .int 3), (0, .ref a4), (1, .ref f)]) hx hb dX4_mayGoOn_56 hl (k := 2) rfl (by decide) (by decide) rfl (fun ls hl => ?_)
          refine lv_goto (tgt := 7) hx hb dX4_mayGoOn_59 (by decide) ?_
          cases hb4 : bt 4
          · skip
            refine lv_iload hx hb dX4_mayGoOn_7 (lv_at hl 0 rfl) ?_
            refine lv_iconst (v := 5) hx hb dX4_mayGoOn_9 (by decide) ?_
            refine lv_icmp_ge (tgt := 62) hx hb dX4_mayGoOn_10 (by decide) (fun hc => absurd hc (by decide)) (fun _ => ?_)
            refine lv_aload_n hx hb dX4_mayGoOn_13 rfl (lv_at hl 3 rfl) ?_
            refine lv_iload hx hb dX4_mayGoOn_14 (lv_at hl 0 rfl) ?_
            refine va_aldq hx hb hK hP 0 2 rfl rfl (by unfold vp_in; decide) dX4_mayGoOn_16 ?_
            rw [show gf (4 : Int32).toNatClampNeg = none from (by rw [show (4 : Int32).toNatClampNeg = 4 by decide, hg 4 (by decide), hb4]; rfl)]
            refine W.eq (g2 := F0 m 17 ls [.null]) rfl ?_
            refine lv_ifnullN (tgt := 56) hx hb dX4_mayGoOn_17 (by decide) ?_
            refine lv_iinc (v := 5) (lv' := [(4, .int 5), (3, .int 1), (2, .int 3), (0, .ref a4), (1, .ref f)]) hx hb dX4_mayGoOn_56 hl (k := 0) rfl (by decide) (by decide) rfl (fun ls hl => ?_)
            refine lv_goto (tgt := 7) hx hb dX4_mayGoOn_59 (by decide) ?_
            refine lv_iload hx hb dX4_mayGoOn_7 (lv_at hl 0 rfl) ?_
            refine lv_iconst (v := 5) hx hb dX4_mayGoOn_9 (by decide) ?_
            refine lv_icmp_ge (tgt := 62) hx hb dX4_mayGoOn_10 (by decide) (fun _ => ?_) (fun hc => absurd (by decide) hc)
            refine lv_iconst (v := 2) hx hb dX4_mayGoOn_62 (by decide) ?_
            refine lv_iload_n hx hb dX4_mayGoOn_63 rfl (lv_at hl 2 rfl) ?_
            refine lv_imul hx hb dX4_mayGoOn_64 ?_
            refine lv_topi (fun z_126 ez_126 => ?_)
            have fz_126 : z_126 = 6 := ez_126.trans (by decide)
            subst fz_126
            refine lv_aload_n hx hb dX4_mayGoOn_65 rfl (lv_at hl 4 rfl) ?_
            refine va_getN (host := "NoticeStations") (D := D) (ci := 3) (v := .int 5) (C := RX2) (T := TX2) (N := 4) hx hb hts in_X4_mayGoOn_X2 hown hK hP 1 rfl rfl 2 (by decide) (va_Nw.use rfl (hN.1 (.fieldLinkNest "NoticeStations" 228 "NoticeStations$Standing" "size" "I" "NoticeStations") (by decide +kernel))) (fun _ h9 => h9) rfl dX4_mayGoOn_66 ?_
            refine lv_icmp_gt (tgt := 86) hx hb dX4_mayGoOn_69 (by decide) (fun _ => ?_) (fun hc => absurd (by decide) hc)
            refine lv_iconst (v := 1) hx hb dX4_mayGoOn_86 (by decide) ?_
            refine lv_goto (tgt := 91) hx hb dX4_mayGoOn_87 (by decide) ?_
            have hP9 := hP.sub (ws' := [(a4, wS tC 5 gf), (f, .inr (3, [.ref e1, .ref e2, .int 5, .int 0])), (e1, wI tC 0 z1)]) [0, 1, 2] rfl
            have hD9 := hD.sub (ws' := [(a4, wS tC 5 gf), (f, .inr (3, [.ref e1, .ref e2, .int 5, .int 0])), (e1, wI tC 0 z1)]) [0, 1, 2] (by decide) rfl
            refine W.widen (k := 0) (n := 0) (by omega) (by omega) ?_
            exact W.zret (v := 1) hx hb hr (by decide) (fun t ht hW => ⟨⟨1, (), rfl, (by unfold mayg cntb; rw [hb0, hb1, hb2, hb3, hb4] <;> decide), (by rw [ht]; exact hP9), va_K.moved hW.alike hK, hD9⟩, hS.F ht⟩) hS.2.2 dX4_mayGoOn_91 hlocks
          · skip
            refine lv_iload hx hb dX4_mayGoOn_7 (lv_at hl 0 rfl) ?_
            refine lv_iconst (v := 5) hx hb dX4_mayGoOn_9 (by decide) ?_
            refine lv_icmp_ge (tgt := 62) hx hb dX4_mayGoOn_10 (by decide) (fun hc => absurd hc (by decide)) (fun _ => ?_)
            refine lv_aload_n hx hb dX4_mayGoOn_13 rfl (lv_at hl 3 rfl) ?_
            refine lv_iload hx hb dX4_mayGoOn_14 (lv_at hl 0 rfl) ?_
            refine va_aldq hx hb hK hP 0 2 rfl rfl (by unfold vp_in; decide) dX4_mayGoOn_16 ?_
            rw [show gf (4 : Int32).toNatClampNeg = some f from (by rw [show (4 : Int32).toNatClampNeg = 4 by decide, hg 4 (by decide), hb4]; rfl)]
            refine W.eq (g2 := F0 m 17 ls [.ref f]) rfl ?_
            refine lv_ifnull hx hb dX4_mayGoOn_17 ?_
            refine lv_aload_n hx hb dX4_mayGoOn_20 rfl (lv_at hl 3 rfl) ?_
            refine lv_iload hx hb dX4_mayGoOn_21 (lv_at hl 0 rfl) ?_
            refine va_aldq hx hb hK hP 0 2 rfl rfl (by unfold vp_in; decide) dX4_mayGoOn_23 ?_
            rw [show gf (4 : Int32).toNatClampNeg = some f from (by rw [show (4 : Int32).toNatClampNeg = 4 by decide, hg 4 (by decide), hb4]; rfl)]
            refine W.eq (g2 := F0 m 24 ls [.ref f]) rfl ?_
            have hPc := hP.sub (ws' := [(f, .inr (3, [.ref e1, .ref e2, .int 5, .int 0])), (e1, wI tC 0 z1)]) [1, 2] rfl
            have hDc := hD.sub (ws' := [(f, .inr (3, [.ref e1, .ref e2, .int 5, .int 0])), (e1, wI tC 0 z1)]) [1, 2] (by decide) rfl
            have hFc := va_free (wc := [(f, .inr (3, [.ref e1, .ref e2, .int 5, .int 0])), (e1, wI tC 0 z1)]) hD hS hA [1, 2] rfl
            refine va_calli (va_runVN (As := []) (rest := []) ⟨hx, hb, hml, hown, hts⟩ (c_X2_length l hlt D tC dz H.size f e1 e2 z1 ) ⟨(va_cnB (host := "NoticeStations") 0 hts gX4_mayGoOn_X2_length_n107 rfl rfl rfl (hN.1 (.methodLinkNest "NoticeStations" 107 ⟨"NoticeStations$Standing", "length", "()I"⟩ "NoticeStations") (by decide +kernel)) w_0 (by decide +kernel) ⟨Nat.le_of_ble_eq_true rfl, Nat.le_of_ble_eq_true rfl⟩), w_1, w_2⟩ ⟨pB_blind, va_recv hK hPc (ci := 3) (q0 := 0) rfl rfl, pB_at hPc hDc hK hN hE hS hFc⟩ rfl rfl hl.1 rfl (lv_room (Nat.le_of_ble_eq_true rfl)) dX4_mayGoOn_24 ⟨Nat.le_of_ble_eq_true rfl, Nat.le_of_ble_eq_true rfl⟩) hS (fun q _ h => hFc q h) hFc (fun r_127 u t H1 locs ht hvm hw hB hz1 hk1 hS => ?_)
            obtain ⟨hP1, _, hD1⟩ := hB
            have hw_128 := hw
            rw [ht] at hP1
            obtain ⟨hP, hD⟩ := va_join (wr := [(a4, wS tC 5 gf)]) (w1 := [(f, .inr (3, [.ref e1, .ref e2, .int 5, .int 0])), (e1, wI tC 0 z1)]) hP hD [1, 2] [0] rfl rfl (by decide) (by decide) hk1 hFc hP1 hD1
            generalize H1 = H at hP hS ⊢
            have hP : va_P D vwCl [(a4, wS tC 5 gf), (f, .inr (3, [.ref e1, .ref e2, .int 5, .int 0])), (e1, wI tC 0 z1)] H := hP
            have hD : va_D A [(a4, wS tC 5 gf), (f, .inr (3, [.ref e1, .ref e2, .int 5, .int 0])), (e1, wI tC 0 z1)] := hD
            subst hw_128
            refine lv_aload_n hx hb dX4_mayGoOn_27 rfl (lv_at hl 4 rfl) ?_
            have hPc := hP.sub (ws' := [(f, .inr (3, [.ref e1, .ref e2, .int 5, .int 0])), (e1, wI tC 0 z1)]) [1, 2] rfl
            have hDc := hD.sub (ws' := [(f, .inr (3, [.ref e1, .ref e2, .int 5, .int 0])), (e1, wI tC 0 z1)]) [1, 2] (by decide) rfl
            have hFc := va_free (wc := [(f, .inr (3, [.ref e1, .ref e2, .int 5, .int 0])), (e1, wI tC 0 z1)]) hD hS hA [1, 2] rfl
            refine va_calli (va_runVN (As := []) (rest := [.int 0]) ⟨hx, hb, hml, hown, hts⟩ (c_X2_length l hlt D tC dz H.size f e1 e2 z1 ) ⟨(va_cnB (host := "NoticeStations") 0 hts gX4_mayGoOn_X2_length_n107 rfl rfl rfl (hN.1 (.methodLinkNest "NoticeStations" 107 ⟨"NoticeStations$Standing", "length", "()I"⟩ "NoticeStations") (by decide +kernel)) w_0 (by decide +kernel) ⟨Nat.le_of_ble_eq_true rfl, Nat.le_of_ble_eq_true rfl⟩), w_1, w_2⟩ ⟨pB_blind, va_recv hK hPc (ci := 3) (q0 := 0) rfl rfl, pB_at hPc hDc hK hN hE hS hFc⟩ rfl rfl hl.1 rfl (lv_room (Nat.le_of_ble_eq_true rfl)) dX4_mayGoOn_28 ⟨Nat.le_of_ble_eq_true rfl, Nat.le_of_ble_eq_true rfl⟩) hS (fun q _ h => hFc q h) hFc (fun r_129 u t H1 locs ht hvm hw hB hz1 hk1 hS => ?_)
            obtain ⟨hP1, _, hD1⟩ := hB
            have hw_130 := hw
            rw [ht] at hP1
            obtain ⟨hP, hD⟩ := va_join (wr := [(a4, wS tC 5 gf)]) (w1 := [(f, .inr (3, [.ref e1, .ref e2, .int 5, .int 0])), (e1, wI tC 0 z1)]) hP hD [1, 2] [0] rfl rfl (by decide) (by decide) hk1 hFc hP1 hD1
            generalize H1 = H at hP hS ⊢
            have hP : va_P D vwCl [(a4, wS tC 5 gf), (f, .inr (3, [.ref e1, .ref e2, .int 5, .int 0])), (e1, wI tC 0 z1)] H := hP
            have hD : va_D A [(a4, wS tC 5 gf), (f, .inr (3, [.ref e1, .ref e2, .int 5, .int 0])), (e1, wI tC 0 z1)] := hD
            subst hw_130
            refine lv_icmp_ne (tgt := 56) hx hb dX4_mayGoOn_31 (by decide) (fun hc => absurd (by decide) hc) (fun _ => ?_)
            refine lv_iinc (v := 4) (lv' := [(2, .int 4), (4, .int 4), (3, .int 1), (0, .ref a4), (1, .ref f)]) hx hb dX4_mayGoOn_34 hl (k := 2) rfl (by decide) (by decide) rfl (fun ls hl => ?_)
            refine lv_iload_n hx hb dX4_mayGoOn_37 rfl (lv_at hl 2 rfl) ?_
            refine lv_if_ne (tgt := 50) hx hb dX4_mayGoOn_38 (by decide) (fun _ => ?_) (fun hc => absurd hc (by decide))
            refine lv_iconst (v := 1) hx hb dX4_mayGoOn_50 (by decide) ?_
            refine lv_goto (tgt := 55) hx hb dX4_mayGoOn_51 (by decide) ?_
            refine lv_istore_n (lv' := [(3, .int 1), (2, .int 4), (4, .int 4), (0, .ref a4), (1, .ref f)]) hx hb dX4_mayGoOn_55 rfl hl (by decide) rfl (fun ls hl => ?_)
            refine lv_iinc (v := 5) (lv' := [(4, .int 5), (3, .int 1), (2, .int 4), (0, .ref a4), (1, .ref f)]) hx hb dX4_mayGoOn_56 hl (k := 2) rfl (by decide) (by decide) rfl (fun ls hl => ?_)
            refine lv_goto (tgt := 7) hx hb dX4_mayGoOn_59 (by decide) ?_
            refine lv_iload hx hb dX4_mayGoOn_7 (lv_at hl 0 rfl) ?_
            refine lv_iconst (v := 5) hx hb dX4_mayGoOn_9 (by decide) ?_
            refine lv_icmp_ge (tgt := 62) hx hb dX4_mayGoOn_10 (by decide) (fun _ => ?_) (fun hc => absurd (by decide) hc)
            refine lv_iconst (v := 2) hx hb dX4_mayGoOn_62 (by decide) ?_
            refine lv_iload_n hx hb dX4_mayGoOn_63 rfl (lv_at hl 2 rfl) ?_
            refine lv_imul hx hb dX4_mayGoOn_64 ?_
            refine lv_topi (fun z_131 ez_131 => ?_)
            have fz_131 : z_131 = 8 := ez_131.trans (by decide)
            subst fz_131
            refine lv_aload_n hx hb dX4_mayGoOn_65 rfl (lv_at hl 4 rfl) ?_
            refine va_getN (host := "NoticeStations") (D := D) (ci := 3) (v := .int 5) (C := RX2) (T := TX2) (N := 4) hx hb hts in_X4_mayGoOn_X2 hown hK hP 1 rfl rfl 2 (by decide) (va_Nw.use rfl (hN.1 (.fieldLinkNest "NoticeStations" 228 "NoticeStations$Standing" "size" "I" "NoticeStations") (by decide +kernel))) (fun _ h9 => h9) rfl dX4_mayGoOn_66 ?_
            refine lv_icmp_gt (tgt := 86) hx hb dX4_mayGoOn_69 (by decide) (fun _ => ?_) (fun hc => absurd (by decide) hc)
            refine lv_iconst (v := 1) hx hb dX4_mayGoOn_86 (by decide) ?_
            refine lv_goto (tgt := 91) hx hb dX4_mayGoOn_87 (by decide) ?_
            have hP9 := hP.sub (ws' := [(a4, wS tC 5 gf), (f, .inr (3, [.ref e1, .ref e2, .int 5, .int 0])), (e1, wI tC 0 z1)]) [0, 1, 2] rfl
            have hD9 := hD.sub (ws' := [(a4, wS tC 5 gf), (f, .inr (3, [.ref e1, .ref e2, .int 5, .int 0])), (e1, wI tC 0 z1)]) [0, 1, 2] (by decide) rfl
            refine W.widen (k := 0) (n := 0) (by omega) (by omega) ?_
            exact W.zret (v := 1) hx hb hr (by decide) (fun t ht hW => ⟨⟨1, (), rfl, (by unfold mayg cntb; rw [hb0, hb1, hb2, hb3, hb4] <;> decide), (by rw [ht]; exact hP9), va_K.moved hW.alike hK, hD9⟩, hS.F ht⟩) hS.2.2 dX4_mayGoOn_91 hlocks
    · skip
      refine lv_iload hx hb dX4_mayGoOn_7 (lv_at hl 0 rfl) ?_
      refine lv_iconst (v := 5) hx hb dX4_mayGoOn_9 (by decide) ?_
      refine lv_icmp_ge (tgt := 62) hx hb dX4_mayGoOn_10 (by decide) (fun hc => absurd hc (by decide)) (fun _ => ?_)
      refine lv_aload_n hx hb dX4_mayGoOn_13 rfl (lv_at hl 3 rfl) ?_
      refine lv_iload hx hb dX4_mayGoOn_14 (lv_at hl 0 rfl) ?_
      refine va_aldq hx hb hK hP 0 2 rfl rfl (by unfold vp_in; decide) dX4_mayGoOn_16 ?_
      rw [show gf (1 : Int32).toNatClampNeg = some f from (by rw [show (1 : Int32).toNatClampNeg = 1 by decide, hg 1 (by decide), hb1]; rfl)]
      refine W.eq (g2 := F0 m 17 ls [.ref f]) rfl ?_
      refine lv_ifnull hx hb dX4_mayGoOn_17 ?_
      refine lv_aload_n hx hb dX4_mayGoOn_20 rfl (lv_at hl 3 rfl) ?_
      refine lv_iload hx hb dX4_mayGoOn_21 (lv_at hl 0 rfl) ?_
      refine va_aldq hx hb hK hP 0 2 rfl rfl (by unfold vp_in; decide) dX4_mayGoOn_23 ?_
      rw [show gf (1 : Int32).toNatClampNeg = some f from (by rw [show (1 : Int32).toNatClampNeg = 1 by decide, hg 1 (by decide), hb1]; rfl)]
      refine W.eq (g2 := F0 m 24 ls [.ref f]) rfl ?_
      have hPc := hP.sub (ws' := [(f, .inr (3, [.ref e1, .ref e2, .int 5, .int 0])), (e1, wI tC 0 z1)]) [1, 2] rfl
      have hDc := hD.sub (ws' := [(f, .inr (3, [.ref e1, .ref e2, .int 5, .int 0])), (e1, wI tC 0 z1)]) [1, 2] (by decide) rfl
      have hFc := va_free (wc := [(f, .inr (3, [.ref e1, .ref e2, .int 5, .int 0])), (e1, wI tC 0 z1)]) hD hS hA [1, 2] rfl
      refine va_calli (va_runVN (As := []) (rest := []) ⟨hx, hb, hml, hown, hts⟩ (c_X2_length l hlt D tC dz H.size f e1 e2 z1 ) ⟨(va_cnB (host := "NoticeStations") 0 hts gX4_mayGoOn_X2_length_n107 rfl rfl rfl (hN.1 (.methodLinkNest "NoticeStations" 107 ⟨"NoticeStations$Standing", "length", "()I"⟩ "NoticeStations") (by decide +kernel)) w_0 (by decide +kernel) ⟨Nat.le_of_ble_eq_true rfl, Nat.le_of_ble_eq_true rfl⟩), w_1, w_2⟩ ⟨pB_blind, va_recv hK hPc (ci := 3) (q0 := 0) rfl rfl, pB_at hPc hDc hK hN hE hS hFc⟩ rfl rfl hl.1 rfl (lv_room (Nat.le_of_ble_eq_true rfl)) dX4_mayGoOn_24 ⟨Nat.le_of_ble_eq_true rfl, Nat.le_of_ble_eq_true rfl⟩) hS (fun q _ h => hFc q h) hFc (fun r_132 u t H1 locs ht hvm hw hB hz1 hk1 hS => ?_)
      obtain ⟨hP1, _, hD1⟩ := hB
      have hw_133 := hw
      rw [ht] at hP1
      obtain ⟨hP, hD⟩ := va_join (wr := [(a4, wS tC 5 gf)]) (w1 := [(f, .inr (3, [.ref e1, .ref e2, .int 5, .int 0])), (e1, wI tC 0 z1)]) hP hD [1, 2] [0] rfl rfl (by decide) (by decide) hk1 hFc hP1 hD1
      generalize H1 = H at hP hS ⊢
      have hP : va_P D vwCl [(a4, wS tC 5 gf), (f, .inr (3, [.ref e1, .ref e2, .int 5, .int 0])), (e1, wI tC 0 z1)] H := hP
      have hD : va_D A [(a4, wS tC 5 gf), (f, .inr (3, [.ref e1, .ref e2, .int 5, .int 0])), (e1, wI tC 0 z1)] := hD
      subst hw_133
      refine lv_aload_n hx hb dX4_mayGoOn_27 rfl (lv_at hl 4 rfl) ?_
      have hPc := hP.sub (ws' := [(f, .inr (3, [.ref e1, .ref e2, .int 5, .int 0])), (e1, wI tC 0 z1)]) [1, 2] rfl
      have hDc := hD.sub (ws' := [(f, .inr (3, [.ref e1, .ref e2, .int 5, .int 0])), (e1, wI tC 0 z1)]) [1, 2] (by decide) rfl
      have hFc := va_free (wc := [(f, .inr (3, [.ref e1, .ref e2, .int 5, .int 0])), (e1, wI tC 0 z1)]) hD hS hA [1, 2] rfl
      refine va_calli (va_runVN (As := []) (rest := [.int 0]) ⟨hx, hb, hml, hown, hts⟩ (c_X2_length l hlt D tC dz H.size f e1 e2 z1 ) ⟨(va_cnB (host := "NoticeStations") 0 hts gX4_mayGoOn_X2_length_n107 rfl rfl rfl (hN.1 (.methodLinkNest "NoticeStations" 107 ⟨"NoticeStations$Standing", "length", "()I"⟩ "NoticeStations") (by decide +kernel)) w_0 (by decide +kernel) ⟨Nat.le_of_ble_eq_true rfl, Nat.le_of_ble_eq_true rfl⟩), w_1, w_2⟩ ⟨pB_blind, va_recv hK hPc (ci := 3) (q0 := 0) rfl rfl, pB_at hPc hDc hK hN hE hS hFc⟩ rfl rfl hl.1 rfl (lv_room (Nat.le_of_ble_eq_true rfl)) dX4_mayGoOn_28 ⟨Nat.le_of_ble_eq_true rfl, Nat.le_of_ble_eq_true rfl⟩) hS (fun q _ h => hFc q h) hFc (fun r_134 u t H1 locs ht hvm hw hB hz1 hk1 hS => ?_)
      obtain ⟨hP1, _, hD1⟩ := hB
      have hw_135 := hw
      rw [ht] at hP1
      obtain ⟨hP, hD⟩ := va_join (wr := [(a4, wS tC 5 gf)]) (w1 := [(f, .inr (3, [.ref e1, .ref e2, .int 5, .int 0])), (e1, wI tC 0 z1)]) hP hD [1, 2] [0] rfl rfl (by decide) (by decide) hk1 hFc hP1 hD1
      generalize H1 = H at hP hS ⊢
      have hP : va_P D vwCl [(a4, wS tC 5 gf), (f, .inr (3, [.ref e1, .ref e2, .int 5, .int 0])), (e1, wI tC 0 z1)] H := hP
      have hD : va_D A [(a4, wS tC 5 gf), (f, .inr (3, [.ref e1, .ref e2, .int 5, .int 0])), (e1, wI tC 0 z1)] := hD
      subst hw_135
      refine lv_icmp_ne (tgt := 56) hx hb dX4_mayGoOn_31 (by decide) (fun hc => absurd (by decide) hc) (fun _ => ?_)
      refine lv_iinc (v := 2) (lv' := [(2, .int 2), (4, .int 1), (3, .int 1), (0, .ref a4), (1, .ref f)]) hx hb dX4_mayGoOn_34 hl (k := 2) rfl (by decide) (by decide) rfl (fun ls hl => ?_)
      refine lv_iload_n hx hb dX4_mayGoOn_37 rfl (lv_at hl 2 rfl) ?_
      refine lv_if_ne (tgt := 50) hx hb dX4_mayGoOn_38 (by decide) (fun _ => ?_) (fun hc => absurd hc (by decide))
      refine lv_iconst (v := 1) hx hb dX4_mayGoOn_50 (by decide) ?_
      refine lv_goto (tgt := 55) hx hb dX4_mayGoOn_51 (by decide) ?_
      refine lv_istore_n (lv' := [(3, .int 1), (2, .int 2), (4, .int 1), (0, .ref a4), (1, .ref f)]) hx hb dX4_mayGoOn_55 rfl hl (by decide) rfl (fun ls hl => ?_)
      refine lv_iinc (v := 2) (lv' := [(4, .int 2), (3, .int 1), (2, .int 2), (0, .ref a4), (1, .ref f)]) hx hb dX4_mayGoOn_56 hl (k := 2) rfl (by decide) (by decide) rfl (fun ls hl => ?_)
      refine lv_goto (tgt := 7) hx hb dX4_mayGoOn_59 (by decide) ?_
      cases hb2 : bt 2
      · skip
        refine lv_iload hx hb dX4_mayGoOn_7 (lv_at hl 0 rfl) ?_
        refine lv_iconst (v := 5) hx hb dX4_mayGoOn_9 (by decide) ?_
        refine lv_icmp_ge (tgt := 62) hx hb dX4_mayGoOn_10 (by decide) (fun hc => absurd hc (by decide)) (fun _ => ?_)
        refine lv_aload_n hx hb dX4_mayGoOn_13 rfl (lv_at hl 3 rfl) ?_
        refine lv_iload hx hb dX4_mayGoOn_14 (lv_at hl 0 rfl) ?_
        refine va_aldq hx hb hK hP 0 2 rfl rfl (by unfold vp_in; decide) dX4_mayGoOn_16 ?_
        rw [show gf (2 : Int32).toNatClampNeg = none from (by rw [show (2 : Int32).toNatClampNeg = 2 by decide, hg 2 (by decide), hb2]; rfl)]
        refine W.eq (g2 := F0 m 17 ls [.null]) rfl ?_
        refine lv_ifnullN (tgt := 56) hx hb dX4_mayGoOn_17 (by decide) ?_
        refine lv_iinc (v := 3) (lv' := [(4, .int 3), (3, .int 1), (2, .int 2), (0, .ref a4), (1, .ref f)]) hx hb dX4_mayGoOn_56 hl (k := 0) rfl (by decide) (by decide) rfl (fun ls hl => ?_)
        refine lv_goto (tgt := 7) hx hb dX4_mayGoOn_59 (by decide) ?_
        cases hb3 : bt 3
        · skip
          refine lv_iload hx hb dX4_mayGoOn_7 (lv_at hl 0 rfl) ?_
          refine lv_iconst (v := 5) hx hb dX4_mayGoOn_9 (by decide) ?_
          refine lv_icmp_ge (tgt := 62) hx hb dX4_mayGoOn_10 (by decide) (fun hc => absurd hc (by decide)) (fun _ => ?_)
          refine lv_aload_n hx hb dX4_mayGoOn_13 rfl (lv_at hl 3 rfl) ?_
          refine lv_iload hx hb dX4_mayGoOn_14 (lv_at hl 0 rfl) ?_
          refine va_aldq hx hb hK hP 0 2 rfl rfl (by unfold vp_in; decide) dX4_mayGoOn_16 ?_
          rw [show gf (3 : Int32).toNatClampNeg = none from (by rw [show (3 : Int32).toNatClampNeg = 3 by decide, hg 3 (by decide), hb3]; rfl)]
          refine W.eq (g2 := F0 m 17 ls [.null]) rfl ?_
          refine lv_ifnullN (tgt := 56) hx hb dX4_mayGoOn_17 (by decide) ?_
          refine lv_iinc (v := 4) (lv' := [(4, .int 4), (3, .int 1), (2, .int 2), (0, .ref a4), (1, .ref f)]) hx hb dX4_mayGoOn_56 hl (k := 0) rfl (by decide) (by decide) rfl (fun ls hl => ?_)
          refine lv_goto (tgt := 7) hx hb dX4_mayGoOn_59 (by decide) ?_
          cases hb4 : bt 4
          · skip
            refine lv_iload hx hb dX4_mayGoOn_7 (lv_at hl 0 rfl) ?_
            refine lv_iconst (v := 5) hx hb dX4_mayGoOn_9 (by decide) ?_
            refine lv_icmp_ge (tgt := 62) hx hb dX4_mayGoOn_10 (by decide) (fun hc => absurd hc (by decide)) (fun _ => ?_)
            refine lv_aload_n hx hb dX4_mayGoOn_13 rfl (lv_at hl 3 rfl) ?_
            refine lv_iload hx hb dX4_mayGoOn_14 (lv_at hl 0 rfl) ?_
            refine va_aldq hx hb hK hP 0 2 rfl rfl (by unfold vp_in; decide) dX4_mayGoOn_16 ?_
            rw [show gf (4 : Int32).toNatClampNeg = none from (by rw [show (4 : Int32).toNatClampNeg = 4 by decide, hg 4 (by decide), hb4]; rfl)]
            refine W.eq (g2 := F0 m 17 ls [.null]) rfl ?_
            refine lv_ifnullN (tgt := 56) hx hb dX4_mayGoOn_17 (by decide) ?_
            refine lv_iinc (v := 5) (lv' := [(4, .int 5), (3, .int 1), (2, .int 2), (0, .ref a4), (1, .ref f)]) hx hb dX4_mayGoOn_56 hl (k := 0) rfl (by decide) (by decide) rfl (fun ls hl => ?_)
            refine lv_goto (tgt := 7) hx hb dX4_mayGoOn_59 (by decide) ?_
            refine lv_iload hx hb dX4_mayGoOn_7 (lv_at hl 0 rfl) ?_
            refine lv_iconst (v := 5) hx hb dX4_mayGoOn_9 (by decide) ?_
            refine lv_icmp_ge (tgt := 62) hx hb dX4_mayGoOn_10 (by decide) (fun _ => ?_) (fun hc => absurd (by decide) hc)
            refine lv_iconst (v := 2) hx hb dX4_mayGoOn_62 (by decide) ?_
            refine lv_iload_n hx hb dX4_mayGoOn_63 rfl (lv_at hl 2 rfl) ?_
            refine lv_imul hx hb dX4_mayGoOn_64 ?_
            refine lv_topi (fun z_136 ez_136 => ?_)
            have fz_136 : z_136 = 4 := ez_136.trans (by decide)
            subst fz_136
            refine lv_aload_n hx hb dX4_mayGoOn_65 rfl (lv_at hl 4 rfl) ?_
            refine va_getN (host := "NoticeStations") (D := D) (ci := 3) (v := .int 5) (C := RX2) (T := TX2) (N := 4) hx hb hts in_X4_mayGoOn_X2 hown hK hP 1 rfl rfl 2 (by decide) (va_Nw.use rfl (hN.1 (.fieldLinkNest "NoticeStations" 228 "NoticeStations$Standing" "size" "I" "NoticeStations") (by decide +kernel))) (fun _ h9 => h9) rfl dX4_mayGoOn_66 ?_
            refine lv_icmp_gt (tgt := 86) hx hb dX4_mayGoOn_69 (by decide) (fun hc => absurd hc (by decide)) (fun _ => ?_)
            refine lv_iconst (v := 2) hx hb dX4_mayGoOn_72 (by decide) ?_
            refine lv_iload_n hx hb dX4_mayGoOn_73 rfl (lv_at hl 2 rfl) ?_
            refine lv_imul hx hb dX4_mayGoOn_74 ?_
            refine lv_topi (fun z_137 ez_137 => ?_)
            have fz_137 : z_137 = 4 := ez_137.trans (by decide)
            subst fz_137
            refine lv_aload_n hx hb dX4_mayGoOn_75 rfl (lv_at hl 4 rfl) ?_
            refine va_getN (host := "NoticeStations") (D := D) (ci := 3) (v := .int 5) (C := RX2) (T := TX2) (N := 4) hx hb hts in_X4_mayGoOn_X2 hown hK hP 1 rfl rfl 2 (by decide) (va_Nw.use rfl (hN.1 (.fieldLinkNest "NoticeStations" 228 "NoticeStations$Standing" "size" "I" "NoticeStations") (by decide +kernel))) (fun _ h9 => h9) rfl dX4_mayGoOn_76 ?_
            refine lv_icmp_ne (tgt := 90) hx hb dX4_mayGoOn_79 (by decide) (fun _ => ?_) (fun hc => absurd hc (by decide))
            refine lv_iconst (v := 0) hx hb dX4_mayGoOn_90 (by decide) ?_
            have hP9 := hP.sub (ws' := [(a4, wS tC 5 gf), (f, .inr (3, [.ref e1, .ref e2, .int 5, .int 0])), (e1, wI tC 0 z1)]) [0, 1, 2] rfl
            have hD9 := hD.sub (ws' := [(a4, wS tC 5 gf), (f, .inr (3, [.ref e1, .ref e2, .int 5, .int 0])), (e1, wI tC 0 z1)]) [0, 1, 2] (by decide) rfl
            refine W.widen (k := 0) (n := 0) (by omega) (by omega) ?_
            exact W.zret (v := 0) hx hb hr (by decide) (fun t ht hW => ⟨⟨0, (), rfl, (by unfold mayg cntb; rw [hb0, hb1, hb2, hb3, hb4] <;> decide), (by rw [ht]; exact hP9), va_K.moved hW.alike hK, hD9⟩, hS.F ht⟩) hS.2.2 dX4_mayGoOn_91 hlocks
          · skip
            refine lv_iload hx hb dX4_mayGoOn_7 (lv_at hl 0 rfl) ?_
            refine lv_iconst (v := 5) hx hb dX4_mayGoOn_9 (by decide) ?_
            refine lv_icmp_ge (tgt := 62) hx hb dX4_mayGoOn_10 (by decide) (fun hc => absurd hc (by decide)) (fun _ => ?_)
            refine lv_aload_n hx hb dX4_mayGoOn_13 rfl (lv_at hl 3 rfl) ?_
            refine lv_iload hx hb dX4_mayGoOn_14 (lv_at hl 0 rfl) ?_
            refine va_aldq hx hb hK hP 0 2 rfl rfl (by unfold vp_in; decide) dX4_mayGoOn_16 ?_
            rw [show gf (4 : Int32).toNatClampNeg = some f from (by rw [show (4 : Int32).toNatClampNeg = 4 by decide, hg 4 (by decide), hb4]; rfl)]
            refine W.eq (g2 := F0 m 17 ls [.ref f]) rfl ?_
            refine lv_ifnull hx hb dX4_mayGoOn_17 ?_
            refine lv_aload_n hx hb dX4_mayGoOn_20 rfl (lv_at hl 3 rfl) ?_
            refine lv_iload hx hb dX4_mayGoOn_21 (lv_at hl 0 rfl) ?_
            refine va_aldq hx hb hK hP 0 2 rfl rfl (by unfold vp_in; decide) dX4_mayGoOn_23 ?_
            rw [show gf (4 : Int32).toNatClampNeg = some f from (by rw [show (4 : Int32).toNatClampNeg = 4 by decide, hg 4 (by decide), hb4]; rfl)]
            refine W.eq (g2 := F0 m 24 ls [.ref f]) rfl ?_
            have hPc := hP.sub (ws' := [(f, .inr (3, [.ref e1, .ref e2, .int 5, .int 0])), (e1, wI tC 0 z1)]) [1, 2] rfl
            have hDc := hD.sub (ws' := [(f, .inr (3, [.ref e1, .ref e2, .int 5, .int 0])), (e1, wI tC 0 z1)]) [1, 2] (by decide) rfl
            have hFc := va_free (wc := [(f, .inr (3, [.ref e1, .ref e2, .int 5, .int 0])), (e1, wI tC 0 z1)]) hD hS hA [1, 2] rfl
            refine va_calli (va_runVN (As := []) (rest := []) ⟨hx, hb, hml, hown, hts⟩ (c_X2_length l hlt D tC dz H.size f e1 e2 z1 ) ⟨(va_cnB (host := "NoticeStations") 0 hts gX4_mayGoOn_X2_length_n107 rfl rfl rfl (hN.1 (.methodLinkNest "NoticeStations" 107 ⟨"NoticeStations$Standing", "length", "()I"⟩ "NoticeStations") (by decide +kernel)) w_0 (by decide +kernel) ⟨Nat.le_of_ble_eq_true rfl, Nat.le_of_ble_eq_true rfl⟩), w_1, w_2⟩ ⟨pB_blind, va_recv hK hPc (ci := 3) (q0 := 0) rfl rfl, pB_at hPc hDc hK hN hE hS hFc⟩ rfl rfl hl.1 rfl (lv_room (Nat.le_of_ble_eq_true rfl)) dX4_mayGoOn_24 ⟨Nat.le_of_ble_eq_true rfl, Nat.le_of_ble_eq_true rfl⟩) hS (fun q _ h => hFc q h) hFc (fun r_138 u t H1 locs ht hvm hw hB hz1 hk1 hS => ?_)
            obtain ⟨hP1, _, hD1⟩ := hB
            have hw_139 := hw
            rw [ht] at hP1
            obtain ⟨hP, hD⟩ := va_join (wr := [(a4, wS tC 5 gf)]) (w1 := [(f, .inr (3, [.ref e1, .ref e2, .int 5, .int 0])), (e1, wI tC 0 z1)]) hP hD [1, 2] [0] rfl rfl (by decide) (by decide) hk1 hFc hP1 hD1
            generalize H1 = H at hP hS ⊢
            have hP : va_P D vwCl [(a4, wS tC 5 gf), (f, .inr (3, [.ref e1, .ref e2, .int 5, .int 0])), (e1, wI tC 0 z1)] H := hP
            have hD : va_D A [(a4, wS tC 5 gf), (f, .inr (3, [.ref e1, .ref e2, .int 5, .int 0])), (e1, wI tC 0 z1)] := hD
            subst hw_139
            refine lv_aload_n hx hb dX4_mayGoOn_27 rfl (lv_at hl 4 rfl) ?_
            have hPc := hP.sub (ws' := [(f, .inr (3, [.ref e1, .ref e2, .int 5, .int 0])), (e1, wI tC 0 z1)]) [1, 2] rfl
            have hDc := hD.sub (ws' := [(f, .inr (3, [.ref e1, .ref e2, .int 5, .int 0])), (e1, wI tC 0 z1)]) [1, 2] (by decide) rfl
            have hFc := va_free (wc := [(f, .inr (3, [.ref e1, .ref e2, .int 5, .int 0])), (e1, wI tC 0 z1)]) hD hS hA [1, 2] rfl
            refine va_calli (va_runVN (As := []) (rest := [.int 0]) ⟨hx, hb, hml, hown, hts⟩ (c_X2_length l hlt D tC dz H.size f e1 e2 z1 ) ⟨(va_cnB (host := "NoticeStations") 0 hts gX4_mayGoOn_X2_length_n107 rfl rfl rfl (hN.1 (.methodLinkNest "NoticeStations" 107 ⟨"NoticeStations$Standing", "length", "()I"⟩ "NoticeStations") (by decide +kernel)) w_0 (by decide +kernel) ⟨Nat.le_of_ble_eq_true rfl, Nat.le_of_ble_eq_true rfl⟩), w_1, w_2⟩ ⟨pB_blind, va_recv hK hPc (ci := 3) (q0 := 0) rfl rfl, pB_at hPc hDc hK hN hE hS hFc⟩ rfl rfl hl.1 rfl (lv_room (Nat.le_of_ble_eq_true rfl)) dX4_mayGoOn_28 ⟨Nat.le_of_ble_eq_true rfl, Nat.le_of_ble_eq_true rfl⟩) hS (fun q _ h => hFc q h) hFc (fun r_140 u t H1 locs ht hvm hw hB hz1 hk1 hS => ?_)
            obtain ⟨hP1, _, hD1⟩ := hB
            have hw_141 := hw
            rw [ht] at hP1
            obtain ⟨hP, hD⟩ := va_join (wr := [(a4, wS tC 5 gf)]) (w1 := [(f, .inr (3, [.ref e1, .ref e2, .int 5, .int 0])), (e1, wI tC 0 z1)]) hP hD [1, 2] [0] rfl rfl (by decide) (by decide) hk1 hFc hP1 hD1
            generalize H1 = H at hP hS ⊢
            have hP : va_P D vwCl [(a4, wS tC 5 gf), (f, .inr (3, [.ref e1, .ref e2, .int 5, .int 0])), (e1, wI tC 0 z1)] H := hP
            have hD : va_D A [(a4, wS tC 5 gf), (f, .inr (3, [.ref e1, .ref e2, .int 5, .int 0])), (e1, wI tC 0 z1)] := hD
            subst hw_141
            refine lv_icmp_ne (tgt := 56) hx hb dX4_mayGoOn_31 (by decide) (fun hc => absurd (by decide) hc) (fun _ => ?_)
            refine lv_iinc (v := 3) (lv' := [(2, .int 3), (4, .int 4), (3, .int 1), (0, .ref a4), (1, .ref f)]) hx hb dX4_mayGoOn_34 hl (k := 2) rfl (by decide) (by decide) rfl (fun ls hl => ?_)
            refine lv_iload_n hx hb dX4_mayGoOn_37 rfl (lv_at hl 2 rfl) ?_
            refine lv_if_ne (tgt := 50) hx hb dX4_mayGoOn_38 (by decide) (fun _ => ?_) (fun hc => absurd hc (by decide))
            refine lv_iconst (v := 1) hx hb dX4_mayGoOn_50 (by decide) ?_
            refine lv_goto (tgt := 55) hx hb dX4_mayGoOn_51 (by decide) ?_
            refine lv_istore_n (lv' := [(3, .int 1), (2, .int 3), (4, .int 4), (0, .ref a4), (1, .ref f)]) hx hb dX4_mayGoOn_55 rfl hl (by decide) rfl (fun ls hl => ?_)
            refine lv_iinc (v := 5) (lv' := [(4, .int 5), (3, .int 1), (2, .int 3), (0, .ref a4), (1, .ref f)]) hx hb dX4_mayGoOn_56 hl (k := 2) rfl (by decide) (by decide) rfl (fun ls hl => ?_)
            refine lv_goto (tgt := 7) hx hb dX4_mayGoOn_59 (by decide) ?_
            refine lv_iload hx hb dX4_mayGoOn_7 (lv_at hl 0 rfl) ?_
            refine lv_iconst (v := 5) hx hb dX4_mayGoOn_9 (by decide) ?_
            refine lv_icmp_ge (tgt := 62) hx hb dX4_mayGoOn_10 (by decide) (fun _ => ?_) (fun hc => absurd (by decide) hc)
            refine lv_iconst (v := 2) hx hb dX4_mayGoOn_62 (by decide) ?_
            refine lv_iload_n hx hb dX4_mayGoOn_63 rfl (lv_at hl 2 rfl) ?_
            refine lv_imul hx hb dX4_mayGoOn_64 ?_
            refine lv_topi (fun z_142 ez_142 => ?_)
            have fz_142 : z_142 = 6 := ez_142.trans (by decide)
            subst fz_142
            refine lv_aload_n hx hb dX4_mayGoOn_65 rfl (lv_at hl 4 rfl) ?_
            refine va_getN (host := "NoticeStations") (D := D) (ci := 3) (v := .int 5) (C := RX2) (T := TX2) (N := 4) hx hb hts in_X4_mayGoOn_X2 hown hK hP 1 rfl rfl 2 (by decide) (va_Nw.use rfl (hN.1 (.fieldLinkNest "NoticeStations" 228 "NoticeStations$Standing" "size" "I" "NoticeStations") (by decide +kernel))) (fun _ h9 => h9) rfl dX4_mayGoOn_66 ?_
            refine lv_icmp_gt (tgt := 86) hx hb dX4_mayGoOn_69 (by decide) (fun _ => ?_) (fun hc => absurd (by decide) hc)
            refine lv_iconst (v := 1) hx hb dX4_mayGoOn_86 (by decide) ?_
            refine lv_goto (tgt := 91) hx hb dX4_mayGoOn_87 (by decide) ?_
            have hP9 := hP.sub (ws' := [(a4, wS tC 5 gf), (f, .inr (3, [.ref e1, .ref e2, .int 5, .int 0])), (e1, wI tC 0 z1)]) [0, 1, 2] rfl
            have hD9 := hD.sub (ws' := [(a4, wS tC 5 gf), (f, .inr (3, [.ref e1, .ref e2, .int 5, .int 0])), (e1, wI tC 0 z1)]) [0, 1, 2] (by decide) rfl
            refine W.widen (k := 0) (n := 0) (by omega) (by omega) ?_
            exact W.zret (v := 1) hx hb hr (by decide) (fun t ht hW => ⟨⟨1, (), rfl, (by unfold mayg cntb; rw [hb0, hb1, hb2, hb3, hb4] <;> decide), (by rw [ht]; exact hP9), va_K.moved hW.alike hK, hD9⟩, hS.F ht⟩) hS.2.2 dX4_mayGoOn_91 hlocks
        · skip
          refine lv_iload hx hb dX4_mayGoOn_7 (lv_at hl 0 rfl) ?_
          refine lv_iconst (v := 5) hx hb dX4_mayGoOn_9 (by decide) ?_
          refine lv_icmp_ge (tgt := 62) hx hb dX4_mayGoOn_10 (by decide) (fun hc => absurd hc (by decide)) (fun _ => ?_)
          refine lv_aload_n hx hb dX4_mayGoOn_13 rfl (lv_at hl 3 rfl) ?_
          refine lv_iload hx hb dX4_mayGoOn_14 (lv_at hl 0 rfl) ?_
          refine va_aldq hx hb hK hP 0 2 rfl rfl (by unfold vp_in; decide) dX4_mayGoOn_16 ?_
          rw [show gf (3 : Int32).toNatClampNeg = some f from (by rw [show (3 : Int32).toNatClampNeg = 3 by decide, hg 3 (by decide), hb3]; rfl)]
          refine W.eq (g2 := F0 m 17 ls [.ref f]) rfl ?_
          refine lv_ifnull hx hb dX4_mayGoOn_17 ?_
          refine lv_aload_n hx hb dX4_mayGoOn_20 rfl (lv_at hl 3 rfl) ?_
          refine lv_iload hx hb dX4_mayGoOn_21 (lv_at hl 0 rfl) ?_
          refine va_aldq hx hb hK hP 0 2 rfl rfl (by unfold vp_in; decide) dX4_mayGoOn_23 ?_
          rw [show gf (3 : Int32).toNatClampNeg = some f from (by rw [show (3 : Int32).toNatClampNeg = 3 by decide, hg 3 (by decide), hb3]; rfl)]
          refine W.eq (g2 := F0 m 24 ls [.ref f]) rfl ?_
          have hPc := hP.sub (ws' := [(f, .inr (3, [.ref e1, .ref e2, .int 5, .int 0])), (e1, wI tC 0 z1)]) [1, 2] rfl
          have hDc := hD.sub (ws' := [(f, .inr (3, [.ref e1, .ref e2, .int 5, .int 0])), (e1, wI tC 0 z1)]) [1, 2] (by decide) rfl
          have hFc := va_free (wc := [(f, .inr (3, [.ref e1, .ref e2, .int 5, .int 0])), (e1, wI tC 0 z1)]) hD hS hA [1, 2] rfl
          refine va_calli (va_runVN (As := []) (rest := []) ⟨hx, hb, hml, hown, hts⟩ (c_X2_length l hlt D tC dz H.size f e1 e2 z1 ) ⟨(va_cnB (host := "NoticeStations") 0 hts gX4_mayGoOn_X2_length_n107 rfl rfl rfl (hN.1 (.methodLinkNest "NoticeStations" 107 ⟨"NoticeStations$Standing", "length", "()I"⟩ "NoticeStations") (by decide +kernel)) w_0 (by decide +kernel) ⟨Nat.le_of_ble_eq_true rfl, Nat.le_of_ble_eq_true rfl⟩), w_1, w_2⟩ ⟨pB_blind, va_recv hK hPc (ci := 3) (q0 := 0) rfl rfl, pB_at hPc hDc hK hN hE hS hFc⟩ rfl rfl hl.1 rfl (lv_room (Nat.le_of_ble_eq_true rfl)) dX4_mayGoOn_24 ⟨Nat.le_of_ble_eq_true rfl, Nat.le_of_ble_eq_true rfl⟩) hS (fun q _ h => hFc q h) hFc (fun r_143 u t H1 locs ht hvm hw hB hz1 hk1 hS => ?_)
          obtain ⟨hP1, _, hD1⟩ := hB
          have hw_144 := hw
          rw [ht] at hP1
          obtain ⟨hP, hD⟩ := va_join (wr := [(a4, wS tC 5 gf)]) (w1 := [(f, .inr (3, [.ref e1, .ref e2, .int 5, .int 0])), (e1, wI tC 0 z1)]) hP hD [1, 2] [0] rfl rfl (by decide) (by decide) hk1 hFc hP1 hD1
          generalize H1 = H at hP hS ⊢
          have hP : va_P D vwCl [(a4, wS tC 5 gf), (f, .inr (3, [.ref e1, .ref e2, .int 5, .int 0])), (e1, wI tC 0 z1)] H := hP
          have hD : va_D A [(a4, wS tC 5 gf), (f, .inr (3, [.ref e1, .ref e2, .int 5, .int 0])), (e1, wI tC 0 z1)] := hD
          subst hw_144
          refine lv_aload_n hx hb dX4_mayGoOn_27 rfl (lv_at hl 4 rfl) ?_
          have hPc := hP.sub (ws' := [(f, .inr (3, [.ref e1, .ref e2, .int 5, .int 0])), (e1, wI tC 0 z1)]) [1, 2] rfl
          have hDc := hD.sub (ws' := [(f, .inr (3, [.ref e1, .ref e2, .int 5, .int 0])), (e1, wI tC 0 z1)]) [1, 2] (by decide) rfl
          have hFc := va_free (wc := [(f, .inr (3, [.ref e1, .ref e2, .int 5, .int 0])), (e1, wI tC 0 z1)]) hD hS hA [1, 2] rfl
          refine va_calli (va_runVN (As := []) (rest := [.int 0]) ⟨hx, hb, hml, hown, hts⟩ (c_X2_length l hlt D tC dz H.size f e1 e2 z1 ) ⟨(va_cnB (host := "NoticeStations") 0 hts gX4_mayGoOn_X2_length_n107 rfl rfl rfl (hN.1 (.methodLinkNest "NoticeStations" 107 ⟨"NoticeStations$Standing", "length", "()I"⟩ "NoticeStations") (by decide +kernel)) w_0 (by decide +kernel) ⟨Nat.le_of_ble_eq_true rfl, Nat.le_of_ble_eq_true rfl⟩), w_1, w_2⟩ ⟨pB_blind, va_recv hK hPc (ci := 3) (q0 := 0) rfl rfl, pB_at hPc hDc hK hN hE hS hFc⟩ rfl rfl hl.1 rfl (lv_room (Nat.le_of_ble_eq_true rfl)) dX4_mayGoOn_28 ⟨Nat.le_of_ble_eq_true rfl, Nat.le_of_ble_eq_true rfl⟩) hS (fun q _ h => hFc q h) hFc (fun r_145 u t H1 locs ht hvm hw hB hz1 hk1 hS => ?_)
          obtain ⟨hP1, _, hD1⟩ := hB
          have hw_146 := hw
          rw [ht] at hP1
          obtain ⟨hP, hD⟩ := va_join (wr := [(a4, wS tC 5 gf)]) (w1 := [(f, .inr (3, [.ref e1, .ref e2, .int 5, .int 0])), (e1, wI tC 0 z1)]) hP hD [1, 2] [0] rfl rfl (by decide) (by decide) hk1 hFc hP1 hD1
          generalize H1 = H at hP hS ⊢
          have hP : va_P D vwCl [(a4, wS tC 5 gf), (f, .inr (3, [.ref e1, .ref e2, .int 5, .int 0])), (e1, wI tC 0 z1)] H := hP
          have hD : va_D A [(a4, wS tC 5 gf), (f, .inr (3, [.ref e1, .ref e2, .int 5, .int 0])), (e1, wI tC 0 z1)] := hD
          subst hw_146
          refine lv_icmp_ne (tgt := 56) hx hb dX4_mayGoOn_31 (by decide) (fun hc => absurd (by decide) hc) (fun _ => ?_)
          refine lv_iinc (v := 3) (lv' := [(2, .int 3), (4, .int 3), (3, .int 1), (0, .ref a4), (1, .ref f)]) hx hb dX4_mayGoOn_34 hl (k := 2) rfl (by decide) (by decide) rfl (fun ls hl => ?_)
          refine lv_iload_n hx hb dX4_mayGoOn_37 rfl (lv_at hl 2 rfl) ?_
          refine lv_if_ne (tgt := 50) hx hb dX4_mayGoOn_38 (by decide) (fun _ => ?_) (fun hc => absurd hc (by decide))
          refine lv_iconst (v := 1) hx hb dX4_mayGoOn_50 (by decide) ?_
          refine lv_goto (tgt := 55) hx hb dX4_mayGoOn_51 (by decide) ?_
          refine lv_istore_n (lv' := [(3, .int 1), (2, .int 3), (4, .int 3), (0, .ref a4), (1, .ref f)]) hx hb dX4_mayGoOn_55 rfl hl (by decide) rfl (fun ls hl => ?_)
          refine lv_iinc (v := 4) (lv' := [(4, .int 4), (3, .int 1), (2, .int 3), (0, .ref a4), (1, .ref f)]) hx hb dX4_mayGoOn_56 hl (k := 2) rfl (by decide) (by decide) rfl (fun ls hl => ?_)
          refine lv_goto (tgt := 7) hx hb dX4_mayGoOn_59 (by decide) ?_
          cases hb4 : bt 4
          · skip
            refine lv_iload hx hb dX4_mayGoOn_7 (lv_at hl 0 rfl) ?_
            refine lv_iconst (v := 5) hx hb dX4_mayGoOn_9 (by decide) ?_
            refine lv_icmp_ge (tgt := 62) hx hb dX4_mayGoOn_10 (by decide) (fun hc => absurd hc (by decide)) (fun _ => ?_)
            refine lv_aload_n hx hb dX4_mayGoOn_13 rfl (lv_at hl 3 rfl) ?_
            refine lv_iload hx hb dX4_mayGoOn_14 (lv_at hl 0 rfl) ?_
            refine va_aldq hx hb hK hP 0 2 rfl rfl (by unfold vp_in; decide) dX4_mayGoOn_16 ?_
            rw [show gf (4 : Int32).toNatClampNeg = none from (by rw [show (4 : Int32).toNatClampNeg = 4 by decide, hg 4 (by decide), hb4]; rfl)]
            refine W.eq (g2 := F0 m 17 ls [.null]) rfl ?_
            refine lv_ifnullN (tgt := 56) hx hb dX4_mayGoOn_17 (by decide) ?_
            refine lv_iinc (v := 5) (lv' := [(4, .int 5), (3, .int 1), (2, .int 3), (0, .ref a4), (1, .ref f)]) hx hb dX4_mayGoOn_56 hl (k := 0) rfl (by decide) (by decide) rfl (fun ls hl => ?_)
            refine lv_goto (tgt := 7) hx hb dX4_mayGoOn_59 (by decide) ?_
            refine lv_iload hx hb dX4_mayGoOn_7 (lv_at hl 0 rfl) ?_
            refine lv_iconst (v := 5) hx hb dX4_mayGoOn_9 (by decide) ?_
            refine lv_icmp_ge (tgt := 62) hx hb dX4_mayGoOn_10 (by decide) (fun _ => ?_) (fun hc => absurd (by decide) hc)
            refine lv_iconst (v := 2) hx hb dX4_mayGoOn_62 (by decide) ?_
            refine lv_iload_n hx hb dX4_mayGoOn_63 rfl (lv_at hl 2 rfl) ?_
            refine lv_imul hx hb dX4_mayGoOn_64 ?_
            refine lv_topi (fun z_147 ez_147 => ?_)
            have fz_147 : z_147 = 6 := ez_147.trans (by decide)
            subst fz_147
            refine lv_aload_n hx hb dX4_mayGoOn_65 rfl (lv_at hl 4 rfl) ?_
            refine va_getN (host := "NoticeStations") (D := D) (ci := 3) (v := .int 5) (C := RX2) (T := TX2) (N := 4) hx hb hts in_X4_mayGoOn_X2 hown hK hP 1 rfl rfl 2 (by decide) (va_Nw.use rfl (hN.1 (.fieldLinkNest "NoticeStations" 228 "NoticeStations$Standing" "size" "I" "NoticeStations") (by decide +kernel))) (fun _ h9 => h9) rfl dX4_mayGoOn_66 ?_
            refine lv_icmp_gt (tgt := 86) hx hb dX4_mayGoOn_69 (by decide) (fun _ => ?_) (fun hc => absurd (by decide) hc)
            refine lv_iconst (v := 1) hx hb dX4_mayGoOn_86 (by decide) ?_
            refine lv_goto (tgt := 91) hx hb dX4_mayGoOn_87 (by decide) ?_
            have hP9 := hP.sub (ws' := [(a4, wS tC 5 gf), (f, .inr (3, [.ref e1, .ref e2, .int 5, .int 0])), (e1, wI tC 0 z1)]) [0, 1, 2] rfl
            have hD9 := hD.sub (ws' := [(a4, wS tC 5 gf), (f, .inr (3, [.ref e1, .ref e2, .int 5, .int 0])), (e1, wI tC 0 z1)]) [0, 1, 2] (by decide) rfl
            refine W.widen (k := 0) (n := 0) (by omega) (by omega) ?_
            exact W.zret (v := 1) hx hb hr (by decide) (fun t ht hW => ⟨⟨1, (), rfl, (by unfold mayg cntb; rw [hb0, hb1, hb2, hb3, hb4] <;> decide), (by rw [ht]; exact hP9), va_K.moved hW.alike hK, hD9⟩, hS.F ht⟩) hS.2.2 dX4_mayGoOn_91 hlocks
          · skip
            refine lv_iload hx hb dX4_mayGoOn_7 (lv_at hl 0 rfl) ?_
            refine lv_iconst (v := 5) hx hb dX4_mayGoOn_9 (by decide) ?_
            refine lv_icmp_ge (tgt := 62) hx hb dX4_mayGoOn_10 (by decide) (fun hc => absurd hc (by decide)) (fun _ => ?_)
            refine lv_aload_n hx hb dX4_mayGoOn_13 rfl (lv_at hl 3 rfl) ?_
            refine lv_iload hx hb dX4_mayGoOn_14 (lv_at hl 0 rfl) ?_
            refine va_aldq hx hb hK hP 0 2 rfl rfl (by unfold vp_in; decide) dX4_mayGoOn_16 ?_
            rw [show gf (4 : Int32).toNatClampNeg = some f from (by rw [show (4 : Int32).toNatClampNeg = 4 by decide, hg 4 (by decide), hb4]; rfl)]
            refine W.eq (g2 := F0 m 17 ls [.ref f]) rfl ?_
            refine lv_ifnull hx hb dX4_mayGoOn_17 ?_
            refine lv_aload_n hx hb dX4_mayGoOn_20 rfl (lv_at hl 3 rfl) ?_
            refine lv_iload hx hb dX4_mayGoOn_21 (lv_at hl 0 rfl) ?_
            refine va_aldq hx hb hK hP 0 2 rfl rfl (by unfold vp_in; decide) dX4_mayGoOn_23 ?_
            rw [show gf (4 : Int32).toNatClampNeg = some f from (by rw [show (4 : Int32).toNatClampNeg = 4 by decide, hg 4 (by decide), hb4]; rfl)]
            refine W.eq (g2 := F0 m 24 ls [.ref f]) rfl ?_
            have hPc := hP.sub (ws' := [(f, .inr (3, [.ref e1, .ref e2, .int 5, .int 0])), (e1, wI tC 0 z1)]) [1, 2] rfl
            have hDc := hD.sub (ws' := [(f, .inr (3, [.ref e1, .ref e2, .int 5, .int 0])), (e1, wI tC 0 z1)]) [1, 2] (by decide) rfl
            have hFc := va_free (wc := [(f, .inr (3, [.ref e1, .ref e2, .int 5, .int 0])), (e1, wI tC 0 z1)]) hD hS hA [1, 2] rfl
            refine va_calli (va_runVN (As := []) (rest := []) ⟨hx, hb, hml, hown, hts⟩ (c_X2_length l hlt D tC dz H.size f e1 e2 z1 ) ⟨(va_cnB (host := "NoticeStations") 0 hts gX4_mayGoOn_X2_length_n107 rfl rfl rfl (hN.1 (.methodLinkNest "NoticeStations" 107 ⟨"NoticeStations$Standing", "length", "()I"⟩ "NoticeStations") (by decide +kernel)) w_0 (by decide +kernel) ⟨Nat.le_of_ble_eq_true rfl, Nat.le_of_ble_eq_true rfl⟩), w_1, w_2⟩ ⟨pB_blind, va_recv hK hPc (ci := 3) (q0 := 0) rfl rfl, pB_at hPc hDc hK hN hE hS hFc⟩ rfl rfl hl.1 rfl (lv_room (Nat.le_of_ble_eq_true rfl)) dX4_mayGoOn_24 ⟨Nat.le_of_ble_eq_true rfl, Nat.le_of_ble_eq_true rfl⟩) hS (fun q _ h => hFc q h) hFc (fun r_148 u t H1 locs ht hvm hw hB hz1 hk1 hS => ?_)
            obtain ⟨hP1, _, hD1⟩ := hB
            have hw_149 := hw
            rw [ht] at hP1
            obtain ⟨hP, hD⟩ := va_join (wr := [(a4, wS tC 5 gf)]) (w1 := [(f, .inr (3, [.ref e1, .ref e2, .int 5, .int 0])), (e1, wI tC 0 z1)]) hP hD [1, 2] [0] rfl rfl (by decide) (by decide) hk1 hFc hP1 hD1
            generalize H1 = H at hP hS ⊢
            have hP : va_P D vwCl [(a4, wS tC 5 gf), (f, .inr (3, [.ref e1, .ref e2, .int 5, .int 0])), (e1, wI tC 0 z1)] H := hP
            have hD : va_D A [(a4, wS tC 5 gf), (f, .inr (3, [.ref e1, .ref e2, .int 5, .int 0])), (e1, wI tC 0 z1)] := hD
            subst hw_149
            refine lv_aload_n hx hb dX4_mayGoOn_27 rfl (lv_at hl 4 rfl) ?_
            have hPc := hP.sub (ws' := [(f, .inr (3, [.ref e1, .ref e2, .int 5, .int 0])), (e1, wI tC 0 z1)]) [1, 2] rfl
            have hDc := hD.sub (ws' := [(f, .inr (3, [.ref e1, .ref e2, .int 5, .int 0])), (e1, wI tC 0 z1)]) [1, 2] (by decide) rfl
            have hFc := va_free (wc := [(f, .inr (3, [.ref e1, .ref e2, .int 5, .int 0])), (e1, wI tC 0 z1)]) hD hS hA [1, 2] rfl
            refine va_calli (va_runVN (As := []) (rest := [.int 0]) ⟨hx, hb, hml, hown, hts⟩ (c_X2_length l hlt D tC dz H.size f e1 e2 z1 ) ⟨(va_cnB (host := "NoticeStations") 0 hts gX4_mayGoOn_X2_length_n107 rfl rfl rfl (hN.1 (.methodLinkNest "NoticeStations" 107 ⟨"NoticeStations$Standing", "length", "()I"⟩ "NoticeStations") (by decide +kernel)) w_0 (by decide +kernel) ⟨Nat.le_of_ble_eq_true rfl, Nat.le_of_ble_eq_true rfl⟩), w_1, w_2⟩ ⟨pB_blind, va_recv hK hPc (ci := 3) (q0 := 0) rfl rfl, pB_at hPc hDc hK hN hE hS hFc⟩ rfl rfl hl.1 rfl (lv_room (Nat.le_of_ble_eq_true rfl)) dX4_mayGoOn_28 ⟨Nat.le_of_ble_eq_true rfl, Nat.le_of_ble_eq_true rfl⟩) hS (fun q _ h => hFc q h) hFc (fun r_150 u t H1 locs ht hvm hw hB hz1 hk1 hS => ?_)
            obtain ⟨hP1, _, hD1⟩ := hB
            have hw_151 := hw
            rw [ht] at hP1
            obtain ⟨hP, hD⟩ := va_join (wr := [(a4, wS tC 5 gf)]) (w1 := [(f, .inr (3, [.ref e1, .ref e2, .int 5, .int 0])), (e1, wI tC 0 z1)]) hP hD [1, 2] [0] rfl rfl (by decide) (by decide) hk1 hFc hP1 hD1
            generalize H1 = H at hP hS ⊢
            have hP : va_P D vwCl [(a4, wS tC 5 gf), (f, .inr (3, [.ref e1, .ref e2, .int 5, .int 0])), (e1, wI tC 0 z1)] H := hP
            have hD : va_D A [(a4, wS tC 5 gf), (f, .inr (3, [.ref e1, .ref e2, .int 5, .int 0])), (e1, wI tC 0 z1)] := hD
            subst hw_151
            refine lv_icmp_ne (tgt := 56) hx hb dX4_mayGoOn_31 (by decide) (fun hc => absurd (by decide) hc) (fun _ => ?_)
            refine lv_iinc (v := 4) (lv' := [(2, .int 4), (4, .int 4), (3, .int 1), (0, .ref a4), (1, .ref f)]) hx hb dX4_mayGoOn_34 hl (k := 2) rfl (by decide) (by decide) rfl (fun ls hl => ?_)
            refine lv_iload_n hx hb dX4_mayGoOn_37 rfl (lv_at hl 2 rfl) ?_
            refine lv_if_ne (tgt := 50) hx hb dX4_mayGoOn_38 (by decide) (fun _ => ?_) (fun hc => absurd hc (by decide))
            refine lv_iconst (v := 1) hx hb dX4_mayGoOn_50 (by decide) ?_
            refine lv_goto (tgt := 55) hx hb dX4_mayGoOn_51 (by decide) ?_
            refine lv_istore_n (lv' := [(3, .int 1), (2, .int 4), (4, .int 4), (0, .ref a4), (1, .ref f)]) hx hb dX4_mayGoOn_55 rfl hl (by decide) rfl (fun ls hl => ?_)
            refine lv_iinc (v := 5) (lv' := [(4, .int 5), (3, .int 1), (2, .int 4), (0, .ref a4), (1, .ref f)]) hx hb dX4_mayGoOn_56 hl (k := 2) rfl (by decide) (by decide) rfl (fun ls hl => ?_)
            refine lv_goto (tgt := 7) hx hb dX4_mayGoOn_59 (by decide) ?_
            refine lv_iload hx hb dX4_mayGoOn_7 (lv_at hl 0 rfl) ?_
            refine lv_iconst (v := 5) hx hb dX4_mayGoOn_9 (by decide) ?_
            refine lv_icmp_ge (tgt := 62) hx hb dX4_mayGoOn_10 (by decide) (fun _ => ?_) (fun hc => absurd (by decide) hc)
            refine lv_iconst (v := 2) hx hb dX4_mayGoOn_62 (by decide) ?_
            refine lv_iload_n hx hb dX4_mayGoOn_63 rfl (lv_at hl 2 rfl) ?_
            refine lv_imul hx hb dX4_mayGoOn_64 ?_
            refine lv_topi (fun z_152 ez_152 => ?_)
            have fz_152 : z_152 = 8 := ez_152.trans (by decide)
            subst fz_152
            refine lv_aload_n hx hb dX4_mayGoOn_65 rfl (lv_at hl 4 rfl) ?_
            refine va_getN (host := "NoticeStations") (D := D) (ci := 3) (v := .int 5) (C := RX2) (T := TX2) (N := 4) hx hb hts in_X4_mayGoOn_X2 hown hK hP 1 rfl rfl 2 (by decide) (va_Nw.use rfl (hN.1 (.fieldLinkNest "NoticeStations" 228 "NoticeStations$Standing" "size" "I" "NoticeStations") (by decide +kernel))) (fun _ h9 => h9) rfl dX4_mayGoOn_66 ?_
            refine lv_icmp_gt (tgt := 86) hx hb dX4_mayGoOn_69 (by decide) (fun _ => ?_) (fun hc => absurd (by decide) hc)
            refine lv_iconst (v := 1) hx hb dX4_mayGoOn_86 (by decide) ?_
            refine lv_goto (tgt := 91) hx hb dX4_mayGoOn_87 (by decide) ?_
            have hP9 := hP.sub (ws' := [(a4, wS tC 5 gf), (f, .inr (3, [.ref e1, .ref e2, .int 5, .int 0])), (e1, wI tC 0 z1)]) [0, 1, 2] rfl
            have hD9 := hD.sub (ws' := [(a4, wS tC 5 gf), (f, .inr (3, [.ref e1, .ref e2, .int 5, .int 0])), (e1, wI tC 0 z1)]) [0, 1, 2] (by decide) rfl
            refine W.widen (k := 0) (n := 0) (by omega) (by omega) ?_
            exact W.zret (v := 1) hx hb hr (by decide) (fun t ht hW => ⟨⟨1, (), rfl, (by unfold mayg cntb; rw [hb0, hb1, hb2, hb3, hb4] <;> decide), (by rw [ht]; exact hP9), va_K.moved hW.alike hK, hD9⟩, hS.F ht⟩) hS.2.2 dX4_mayGoOn_91 hlocks
      · skip
        refine lv_iload hx hb dX4_mayGoOn_7 (lv_at hl 0 rfl) ?_
        refine lv_iconst (v := 5) hx hb dX4_mayGoOn_9 (by decide) ?_
        refine lv_icmp_ge (tgt := 62) hx hb dX4_mayGoOn_10 (by decide) (fun hc => absurd hc (by decide)) (fun _ => ?_)
        refine lv_aload_n hx hb dX4_mayGoOn_13 rfl (lv_at hl 3 rfl) ?_
        refine lv_iload hx hb dX4_mayGoOn_14 (lv_at hl 0 rfl) ?_
        refine va_aldq hx hb hK hP 0 2 rfl rfl (by unfold vp_in; decide) dX4_mayGoOn_16 ?_
        rw [show gf (2 : Int32).toNatClampNeg = some f from (by rw [show (2 : Int32).toNatClampNeg = 2 by decide, hg 2 (by decide), hb2]; rfl)]
        refine W.eq (g2 := F0 m 17 ls [.ref f]) rfl ?_
        refine lv_ifnull hx hb dX4_mayGoOn_17 ?_
        refine lv_aload_n hx hb dX4_mayGoOn_20 rfl (lv_at hl 3 rfl) ?_
        refine lv_iload hx hb dX4_mayGoOn_21 (lv_at hl 0 rfl) ?_
        refine va_aldq hx hb hK hP 0 2 rfl rfl (by unfold vp_in; decide) dX4_mayGoOn_23 ?_
        rw [show gf (2 : Int32).toNatClampNeg = some f from (by rw [show (2 : Int32).toNatClampNeg = 2 by decide, hg 2 (by decide), hb2]; rfl)]
        refine W.eq (g2 := F0 m 24 ls [.ref f]) rfl ?_
        have hPc := hP.sub (ws' := [(f, .inr (3, [.ref e1, .ref e2, .int 5, .int 0])), (e1, wI tC 0 z1)]) [1, 2] rfl
        have hDc := hD.sub (ws' := [(f, .inr (3, [.ref e1, .ref e2, .int 5, .int 0])), (e1, wI tC 0 z1)]) [1, 2] (by decide) rfl
        have hFc := va_free (wc := [(f, .inr (3, [.ref e1, .ref e2, .int 5, .int 0])), (e1, wI tC 0 z1)]) hD hS hA [1, 2] rfl
        refine va_calli (va_runVN (As := []) (rest := []) ⟨hx, hb, hml, hown, hts⟩ (c_X2_length l hlt D tC dz H.size f e1 e2 z1 ) ⟨(va_cnB (host := "NoticeStations") 0 hts gX4_mayGoOn_X2_length_n107 rfl rfl rfl (hN.1 (.methodLinkNest "NoticeStations" 107 ⟨"NoticeStations$Standing", "length", "()I"⟩ "NoticeStations") (by decide +kernel)) w_0 (by decide +kernel) ⟨Nat.le_of_ble_eq_true rfl, Nat.le_of_ble_eq_true rfl⟩), w_1, w_2⟩ ⟨pB_blind, va_recv hK hPc (ci := 3) (q0 := 0) rfl rfl, pB_at hPc hDc hK hN hE hS hFc⟩ rfl rfl hl.1 rfl (lv_room (Nat.le_of_ble_eq_true rfl)) dX4_mayGoOn_24 ⟨Nat.le_of_ble_eq_true rfl, Nat.le_of_ble_eq_true rfl⟩) hS (fun q _ h => hFc q h) hFc (fun r_153 u t H1 locs ht hvm hw hB hz1 hk1 hS => ?_)
        obtain ⟨hP1, _, hD1⟩ := hB
        have hw_154 := hw
        rw [ht] at hP1
        obtain ⟨hP, hD⟩ := va_join (wr := [(a4, wS tC 5 gf)]) (w1 := [(f, .inr (3, [.ref e1, .ref e2, .int 5, .int 0])), (e1, wI tC 0 z1)]) hP hD [1, 2] [0] rfl rfl (by decide) (by decide) hk1 hFc hP1 hD1
        generalize H1 = H at hP hS ⊢
        have hP : va_P D vwCl [(a4, wS tC 5 gf), (f, .inr (3, [.ref e1, .ref e2, .int 5, .int 0])), (e1, wI tC 0 z1)] H := hP
        have hD : va_D A [(a4, wS tC 5 gf), (f, .inr (3, [.ref e1, .ref e2, .int 5, .int 0])), (e1, wI tC 0 z1)] := hD
        subst hw_154
        refine lv_aload_n hx hb dX4_mayGoOn_27 rfl (lv_at hl 4 rfl) ?_
        have hPc := hP.sub (ws' := [(f, .inr (3, [.ref e1, .ref e2, .int 5, .int 0])), (e1, wI tC 0 z1)]) [1, 2] rfl
        have hDc := hD.sub (ws' := [(f, .inr (3, [.ref e1, .ref e2, .int 5, .int 0])), (e1, wI tC 0 z1)]) [1, 2] (by decide) rfl
        have hFc := va_free (wc := [(f, .inr (3, [.ref e1, .ref e2, .int 5, .int 0])), (e1, wI tC 0 z1)]) hD hS hA [1, 2] rfl
        refine va_calli (va_runVN (As := []) (rest := [.int 0]) ⟨hx, hb, hml, hown, hts⟩ (c_X2_length l hlt D tC dz H.size f e1 e2 z1 ) ⟨(va_cnB (host := "NoticeStations") 0 hts gX4_mayGoOn_X2_length_n107 rfl rfl rfl (hN.1 (.methodLinkNest "NoticeStations" 107 ⟨"NoticeStations$Standing", "length", "()I"⟩ "NoticeStations") (by decide +kernel)) w_0 (by decide +kernel) ⟨Nat.le_of_ble_eq_true rfl, Nat.le_of_ble_eq_true rfl⟩), w_1, w_2⟩ ⟨pB_blind, va_recv hK hPc (ci := 3) (q0 := 0) rfl rfl, pB_at hPc hDc hK hN hE hS hFc⟩ rfl rfl hl.1 rfl (lv_room (Nat.le_of_ble_eq_true rfl)) dX4_mayGoOn_28 ⟨Nat.le_of_ble_eq_true rfl, Nat.le_of_ble_eq_true rfl⟩) hS (fun q _ h => hFc q h) hFc (fun r_155 u t H1 locs ht hvm hw hB hz1 hk1 hS => ?_)
        obtain ⟨hP1, _, hD1⟩ := hB
        have hw_156 := hw
        rw [ht] at hP1
        obtain ⟨hP, hD⟩ := va_join (wr := [(a4, wS tC 5 gf)]) (w1 := [(f, .inr (3, [.ref e1, .ref e2, .int 5, .int 0])), (e1, wI tC 0 z1)]) hP hD [1, 2] [0] rfl rfl (by decide) (by decide) hk1 hFc hP1 hD1
        generalize H1 = H at hP hS ⊢
        have hP : va_P D vwCl [(a4, wS tC 5 gf), (f, .inr (3, [.ref e1, .ref e2, .int 5, .int 0])), (e1, wI tC 0 z1)] H := hP
        have hD : va_D A [(a4, wS tC 5 gf), (f, .inr (3, [.ref e1, .ref e2, .int 5, .int 0])), (e1, wI tC 0 z1)] := hD
        subst hw_156
        refine lv_icmp_ne (tgt := 56) hx hb dX4_mayGoOn_31 (by decide) (fun hc => absurd (by decide) hc) (fun _ => ?_)
        refine lv_iinc (v := 3) (lv' := [(2, .int 3), (4, .int 2), (3, .int 1), (0, .ref a4), (1, .ref f)]) hx hb dX4_mayGoOn_34 hl (k := 2) rfl (by decide) (by decide) rfl (fun ls hl => ?_)
        refine lv_iload_n hx hb dX4_mayGoOn_37 rfl (lv_at hl 2 rfl) ?_
        refine lv_if_ne (tgt := 50) hx hb dX4_mayGoOn_38 (by decide) (fun _ => ?_) (fun hc => absurd hc (by decide))
        refine lv_iconst (v := 1) hx hb dX4_mayGoOn_50 (by decide) ?_
        refine lv_goto (tgt := 55) hx hb dX4_mayGoOn_51 (by decide) ?_
        refine lv_istore_n (lv' := [(3, .int 1), (2, .int 3), (4, .int 2), (0, .ref a4), (1, .ref f)]) hx hb dX4_mayGoOn_55 rfl hl (by decide) rfl (fun ls hl => ?_)
        refine lv_iinc (v := 3) (lv' := [(4, .int 3), (3, .int 1), (2, .int 3), (0, .ref a4), (1, .ref f)]) hx hb dX4_mayGoOn_56 hl (k := 2) rfl (by decide) (by decide) rfl (fun ls hl => ?_)
        refine lv_goto (tgt := 7) hx hb dX4_mayGoOn_59 (by decide) ?_
        cases hb3 : bt 3
        · skip
          refine lv_iload hx hb dX4_mayGoOn_7 (lv_at hl 0 rfl) ?_
          refine lv_iconst (v := 5) hx hb dX4_mayGoOn_9 (by decide) ?_
          refine lv_icmp_ge (tgt := 62) hx hb dX4_mayGoOn_10 (by decide) (fun hc => absurd hc (by decide)) (fun _ => ?_)
          refine lv_aload_n hx hb dX4_mayGoOn_13 rfl (lv_at hl 3 rfl) ?_
          refine lv_iload hx hb dX4_mayGoOn_14 (lv_at hl 0 rfl) ?_
          refine va_aldq hx hb hK hP 0 2 rfl rfl (by unfold vp_in; decide) dX4_mayGoOn_16 ?_
          rw [show gf (3 : Int32).toNatClampNeg = none from (by rw [show (3 : Int32).toNatClampNeg = 3 by decide, hg 3 (by decide), hb3]; rfl)]
          refine W.eq (g2 := F0 m 17 ls [.null]) rfl ?_
          refine lv_ifnullN (tgt := 56) hx hb dX4_mayGoOn_17 (by decide) ?_
          refine lv_iinc (v := 4) (lv' := [(4, .int 4), (3, .int 1), (2, .int 3), (0, .ref a4), (1, .ref f)]) hx hb dX4_mayGoOn_56 hl (k := 0) rfl (by decide) (by decide) rfl (fun ls hl => ?_)
          refine lv_goto (tgt := 7) hx hb dX4_mayGoOn_59 (by decide) ?_
          cases hb4 : bt 4
          · skip
            refine lv_iload hx hb dX4_mayGoOn_7 (lv_at hl 0 rfl) ?_
            refine lv_iconst (v := 5) hx hb dX4_mayGoOn_9 (by decide) ?_
            refine lv_icmp_ge (tgt := 62) hx hb dX4_mayGoOn_10 (by decide) (fun hc => absurd hc (by decide)) (fun _ => ?_)
            refine lv_aload_n hx hb dX4_mayGoOn_13 rfl (lv_at hl 3 rfl) ?_
            refine lv_iload hx hb dX4_mayGoOn_14 (lv_at hl 0 rfl) ?_
            refine va_aldq hx hb hK hP 0 2 rfl rfl (by unfold vp_in; decide) dX4_mayGoOn_16 ?_
            rw [show gf (4 : Int32).toNatClampNeg = none from (by rw [show (4 : Int32).toNatClampNeg = 4 by decide, hg 4 (by decide), hb4]; rfl)]
            refine W.eq (g2 := F0 m 17 ls [.null]) rfl ?_
            refine lv_ifnullN (tgt := 56) hx hb dX4_mayGoOn_17 (by decide) ?_
            refine lv_iinc (v := 5) (lv' := [(4, .int 5), (3, .int 1), (2, .int 3), (0, .ref a4), (1, .ref f)]) hx hb dX4_mayGoOn_56 hl (k := 0) rfl (by decide) (by decide) rfl (fun ls hl => ?_)
            refine lv_goto (tgt := 7) hx hb dX4_mayGoOn_59 (by decide) ?_
            refine lv_iload hx hb dX4_mayGoOn_7 (lv_at hl 0 rfl) ?_
            refine lv_iconst (v := 5) hx hb dX4_mayGoOn_9 (by decide) ?_
            refine lv_icmp_ge (tgt := 62) hx hb dX4_mayGoOn_10 (by decide) (fun _ => ?_) (fun hc => absurd (by decide) hc)
            refine lv_iconst (v := 2) hx hb dX4_mayGoOn_62 (by decide) ?_
            refine lv_iload_n hx hb dX4_mayGoOn_63 rfl (lv_at hl 2 rfl) ?_
            refine lv_imul hx hb dX4_mayGoOn_64 ?_
            refine lv_topi (fun z_157 ez_157 => ?_)
            have fz_157 : z_157 = 6 := ez_157.trans (by decide)
            subst fz_157
            refine lv_aload_n hx hb dX4_mayGoOn_65 rfl (lv_at hl 4 rfl) ?_
            refine va_getN (host := "NoticeStations") (D := D) (ci := 3) (v := .int 5) (C := RX2) (T := TX2) (N := 4) hx hb hts in_X4_mayGoOn_X2 hown hK hP 1 rfl rfl 2 (by decide) (va_Nw.use rfl (hN.1 (.fieldLinkNest "NoticeStations" 228 "NoticeStations$Standing" "size" "I" "NoticeStations") (by decide +kernel))) (fun _ h9 => h9) rfl dX4_mayGoOn_66 ?_
            refine lv_icmp_gt (tgt := 86) hx hb dX4_mayGoOn_69 (by decide) (fun _ => ?_) (fun hc => absurd (by decide) hc)
            refine lv_iconst (v := 1) hx hb dX4_mayGoOn_86 (by decide) ?_
            refine lv_goto (tgt := 91) hx hb dX4_mayGoOn_87 (by decide) ?_
            have hP9 := hP.sub (ws' := [(a4, wS tC 5 gf), (f, .inr (3, [.ref e1, .ref e2, .int 5, .int 0])), (e1, wI tC 0 z1)]) [0, 1, 2] rfl
            have hD9 := hD.sub (ws' := [(a4, wS tC 5 gf), (f, .inr (3, [.ref e1, .ref e2, .int 5, .int 0])), (e1, wI tC 0 z1)]) [0, 1, 2] (by decide) rfl
            refine W.widen (k := 0) (n := 0) (by omega) (by omega) ?_
            exact W.zret (v := 1) hx hb hr (by decide) (fun t ht hW => ⟨⟨1, (), rfl, (by unfold mayg cntb; rw [hb0, hb1, hb2, hb3, hb4] <;> decide), (by rw [ht]; exact hP9), va_K.moved hW.alike hK, hD9⟩, hS.F ht⟩) hS.2.2 dX4_mayGoOn_91 hlocks
          · skip
            refine lv_iload hx hb dX4_mayGoOn_7 (lv_at hl 0 rfl) ?_
            refine lv_iconst (v := 5) hx hb dX4_mayGoOn_9 (by decide) ?_
            refine lv_icmp_ge (tgt := 62) hx hb dX4_mayGoOn_10 (by decide) (fun hc => absurd hc (by decide)) (fun _ => ?_)
            refine lv_aload_n hx hb dX4_mayGoOn_13 rfl (lv_at hl 3 rfl) ?_
            refine lv_iload hx hb dX4_mayGoOn_14 (lv_at hl 0 rfl) ?_
            refine va_aldq hx hb hK hP 0 2 rfl rfl (by unfold vp_in; decide) dX4_mayGoOn_16 ?_
            rw [show gf (4 : Int32).toNatClampNeg = some f from (by rw [show (4 : Int32).toNatClampNeg = 4 by decide, hg 4 (by decide), hb4]; rfl)]
            refine W.eq (g2 := F0 m 17 ls [.ref f]) rfl ?_
            refine lv_ifnull hx hb dX4_mayGoOn_17 ?_
            refine lv_aload_n hx hb dX4_mayGoOn_20 rfl (lv_at hl 3 rfl) ?_
            refine lv_iload hx hb dX4_mayGoOn_21 (lv_at hl 0 rfl) ?_
            refine va_aldq hx hb hK hP 0 2 rfl rfl (by unfold vp_in; decide) dX4_mayGoOn_23 ?_
            rw [show gf (4 : Int32).toNatClampNeg = some f from (by rw [show (4 : Int32).toNatClampNeg = 4 by decide, hg 4 (by decide), hb4]; rfl)]
            refine W.eq (g2 := F0 m 24 ls [.ref f]) rfl ?_
            have hPc := hP.sub (ws' := [(f, .inr (3, [.ref e1, .ref e2, .int 5, .int 0])), (e1, wI tC 0 z1)]) [1, 2] rfl
            have hDc := hD.sub (ws' := [(f, .inr (3, [.ref e1, .ref e2, .int 5, .int 0])), (e1, wI tC 0 z1)]) [1, 2] (by decide) rfl
            have hFc := va_free (wc := [(f, .inr (3, [.ref e1, .ref e2, .int 5, .int 0])), (e1, wI tC 0 z1)]) hD hS hA [1, 2] rfl
            refine va_calli (va_runVN (As := []) (rest := []) ⟨hx, hb, hml, hown, hts⟩ (c_X2_length l hlt D tC dz H.size f e1 e2 z1 ) ⟨(va_cnB (host := "NoticeStations") 0 hts gX4_mayGoOn_X2_length_n107 rfl rfl rfl (hN.1 (.methodLinkNest "NoticeStations" 107 ⟨"NoticeStations$Standing", "length", "()I"⟩ "NoticeStations") (by decide +kernel)) w_0 (by decide +kernel) ⟨Nat.le_of_ble_eq_true rfl, Nat.le_of_ble_eq_true rfl⟩), w_1, w_2⟩ ⟨pB_blind, va_recv hK hPc (ci := 3) (q0 := 0) rfl rfl, pB_at hPc hDc hK hN hE hS hFc⟩ rfl rfl hl.1 rfl (lv_room (Nat.le_of_ble_eq_true rfl)) dX4_mayGoOn_24 ⟨Nat.le_of_ble_eq_true rfl, Nat.le_of_ble_eq_true rfl⟩) hS (fun q _ h => hFc q h) hFc (fun r_158 u t H1 locs ht hvm hw hB hz1 hk1 hS => ?_)
            obtain ⟨hP1, _, hD1⟩ := hB
            have hw_159 := hw
            rw [ht] at hP1
            obtain ⟨hP, hD⟩ := va_join (wr := [(a4, wS tC 5 gf)]) (w1 := [(f, .inr (3, [.ref e1, .ref e2, .int 5, .int 0])), (e1, wI tC 0 z1)]) hP hD [1, 2] [0] rfl rfl (by decide) (by decide) hk1 hFc hP1 hD1
            generalize H1 = H at hP hS ⊢
            have hP : va_P D vwCl [(a4, wS tC 5 gf), (f, .inr (3, [.ref e1, .ref e2, .int 5, .int 0])), (e1, wI tC 0 z1)] H := hP
            have hD : va_D A [(a4, wS tC 5 gf), (f, .inr (3, [.ref e1, .ref e2, .int 5, .int 0])), (e1, wI tC 0 z1)] := hD
            subst hw_159
            refine lv_aload_n hx hb dX4_mayGoOn_27 rfl (lv_at hl 4 rfl) ?_
            have hPc := hP.sub (ws' := [(f, .inr (3, [.ref e1, .ref e2, .int 5, .int 0])), (e1, wI tC 0 z1)]) [1, 2] rfl
            have hDc := hD.sub (ws' := [(f, .inr (3, [.ref e1, .ref e2, .int 5, .int 0])), (e1, wI tC 0 z1)]) [1, 2] (by decide) rfl
            have hFc := va_free (wc := [(f, .inr (3, [.ref e1, .ref e2, .int 5, .int 0])), (e1, wI tC 0 z1)]) hD hS hA [1, 2] rfl
            refine va_calli (va_runVN (As := []) (rest := [.int 0]) ⟨hx, hb, hml, hown, hts⟩ (c_X2_length l hlt D tC dz H.size f e1 e2 z1 ) ⟨(va_cnB (host := "NoticeStations") 0 hts gX4_mayGoOn_X2_length_n107 rfl rfl rfl (hN.1 (.methodLinkNest "NoticeStations" 107 ⟨"NoticeStations$Standing", "length", "()I"⟩ "NoticeStations") (by decide +kernel)) w_0 (by decide +kernel) ⟨Nat.le_of_ble_eq_true rfl, Nat.le_of_ble_eq_true rfl⟩), w_1, w_2⟩ ⟨pB_blind, va_recv hK hPc (ci := 3) (q0 := 0) rfl rfl, pB_at hPc hDc hK hN hE hS hFc⟩ rfl rfl hl.1 rfl (lv_room (Nat.le_of_ble_eq_true rfl)) dX4_mayGoOn_28 ⟨Nat.le_of_ble_eq_true rfl, Nat.le_of_ble_eq_true rfl⟩) hS (fun q _ h => hFc q h) hFc (fun r_160 u t H1 locs ht hvm hw hB hz1 hk1 hS => ?_)
            obtain ⟨hP1, _, hD1⟩ := hB
            have hw_161 := hw
            rw [ht] at hP1
            obtain ⟨hP, hD⟩ := va_join (wr := [(a4, wS tC 5 gf)]) (w1 := [(f, .inr (3, [.ref e1, .ref e2, .int 5, .int 0])), (e1, wI tC 0 z1)]) hP hD [1, 2] [0] rfl rfl (by decide) (by decide) hk1 hFc hP1 hD1
            generalize H1 = H at hP hS ⊢
            have hP : va_P D vwCl [(a4, wS tC 5 gf), (f, .inr (3, [.ref e1, .ref e2, .int 5, .int 0])), (e1, wI tC 0 z1)] H := hP
            have hD : va_D A [(a4, wS tC 5 gf), (f, .inr (3, [.ref e1, .ref e2, .int 5, .int 0])), (e1, wI tC 0 z1)] := hD
            subst hw_161
            refine lv_icmp_ne (tgt := 56) hx hb dX4_mayGoOn_31 (by decide) (fun hc => absurd (by decide) hc) (fun _ => ?_)
            refine lv_iinc (v := 4) (lv' := [(2, .int 4), (4, .int 4), (3, .int 1), (0, .ref a4), (1, .ref f)]) hx hb dX4_mayGoOn_34 hl (k := 2) rfl (by decide) (by decide) rfl (fun ls hl => ?_)
            refine lv_iload_n hx hb dX4_mayGoOn_37 rfl (lv_at hl 2 rfl) ?_
            refine lv_if_ne (tgt := 50) hx hb dX4_mayGoOn_38 (by decide) (fun _ => ?_) (fun hc => absurd hc (by decide))
            refine lv_iconst (v := 1) hx hb dX4_mayGoOn_50 (by decide) ?_
            refine lv_goto (tgt := 55) hx hb dX4_mayGoOn_51 (by decide) ?_
            refine lv_istore_n (lv' := [(3, .int 1), (2, .int 4), (4, .int 4), (0, .ref a4), (1, .ref f)]) hx hb dX4_mayGoOn_55 rfl hl (by decide) rfl (fun ls hl => ?_)
            refine lv_iinc (v := 5) (lv' := [(4, .int 5), (3, .int 1), (2, .int 4), (0, .ref a4), (1, .ref f)]) hx hb dX4_mayGoOn_56 hl (k := 2) rfl (by decide) (by decide) rfl (fun ls hl => ?_)
            refine lv_goto (tgt := 7) hx hb dX4_mayGoOn_59 (by decide) ?_
            refine lv_iload hx hb dX4_mayGoOn_7 (lv_at hl 0 rfl) ?_
            refine lv_iconst (v := 5) hx hb dX4_mayGoOn_9 (by decide) ?_
            refine lv_icmp_ge (tgt := 62) hx hb dX4_mayGoOn_10 (by decide) (fun _ => ?_) (fun hc => absurd (by decide) hc)
            refine lv_iconst (v := 2) hx hb dX4_mayGoOn_62 (by decide) ?_
            refine lv_iload_n hx hb dX4_mayGoOn_63 rfl (lv_at hl 2 rfl) ?_
            refine lv_imul hx hb dX4_mayGoOn_64 ?_
            refine lv_topi (fun z_162 ez_162 => ?_)
            have fz_162 : z_162 = 8 := ez_162.trans (by decide)
            subst fz_162
            refine lv_aload_n hx hb dX4_mayGoOn_65 rfl (lv_at hl 4 rfl) ?_
            refine va_getN (host := "NoticeStations") (D := D) (ci := 3) (v := .int 5) (C := RX2) (T := TX2) (N := 4) hx hb hts in_X4_mayGoOn_X2 hown hK hP 1 rfl rfl 2 (by decide) (va_Nw.use rfl (hN.1 (.fieldLinkNest "NoticeStations" 228 "NoticeStations$Standing" "size" "I" "NoticeStations") (by decide +kernel))) (fun _ h9 => h9) rfl dX4_mayGoOn_66 ?_
            refine lv_icmp_gt (tgt := 86) hx hb dX4_mayGoOn_69 (by decide) (fun _ => ?_) (fun hc => absurd (by decide) hc)
            refine lv_iconst (v := 1) hx hb dX4_mayGoOn_86 (by decide) ?_
            refine lv_goto (tgt := 91) hx hb dX4_mayGoOn_87 (by decide) ?_
            have hP9 := hP.sub (ws' := [(a4, wS tC 5 gf), (f, .inr (3, [.ref e1, .ref e2, .int 5, .int 0])), (e1, wI tC 0 z1)]) [0, 1, 2] rfl
            have hD9 := hD.sub (ws' := [(a4, wS tC 5 gf), (f, .inr (3, [.ref e1, .ref e2, .int 5, .int 0])), (e1, wI tC 0 z1)]) [0, 1, 2] (by decide) rfl
            refine W.widen (k := 0) (n := 0) (by omega) (by omega) ?_
            exact W.zret (v := 1) hx hb hr (by decide) (fun t ht hW => ⟨⟨1, (), rfl, (by unfold mayg cntb; rw [hb0, hb1, hb2, hb3, hb4] <;> decide), (by rw [ht]; exact hP9), va_K.moved hW.alike hK, hD9⟩, hS.F ht⟩) hS.2.2 dX4_mayGoOn_91 hlocks
        · skip
          refine lv_iload hx hb dX4_mayGoOn_7 (lv_at hl 0 rfl) ?_
          refine lv_iconst (v := 5) hx hb dX4_mayGoOn_9 (by decide) ?_
          refine lv_icmp_ge (tgt := 62) hx hb dX4_mayGoOn_10 (by decide) (fun hc => absurd hc (by decide)) (fun _ => ?_)
          refine lv_aload_n hx hb dX4_mayGoOn_13 rfl (lv_at hl 3 rfl) ?_
          refine lv_iload hx hb dX4_mayGoOn_14 (lv_at hl 0 rfl) ?_
          refine va_aldq hx hb hK hP 0 2 rfl rfl (by unfold vp_in; decide) dX4_mayGoOn_16 ?_
          rw [show gf (3 : Int32).toNatClampNeg = some f from (by rw [show (3 : Int32).toNatClampNeg = 3 by decide, hg 3 (by decide), hb3]; rfl)]
          refine W.eq (g2 := F0 m 17 ls [.ref f]) rfl ?_
          refine lv_ifnull hx hb dX4_mayGoOn_17 ?_
          refine lv_aload_n hx hb dX4_mayGoOn_20 rfl (lv_at hl 3 rfl) ?_
          refine lv_iload hx hb dX4_mayGoOn_21 (lv_at hl 0 rfl) ?_
          refine va_aldq hx hb hK hP 0 2 rfl rfl (by unfold vp_in; decide) dX4_mayGoOn_23 ?_
          rw [show gf (3 : Int32).toNatClampNeg = some f from (by rw [show (3 : Int32).toNatClampNeg = 3 by decide, hg 3 (by decide), hb3]; rfl)]
          refine W.eq (g2 := F0 m 24 ls [.ref f]) rfl ?_
          have hPc := hP.sub (ws' := [(f, .inr (3, [.ref e1, .ref e2, .int 5, .int 0])), (e1, wI tC 0 z1)]) [1, 2] rfl
          have hDc := hD.sub (ws' := [(f, .inr (3, [.ref e1, .ref e2, .int 5, .int 0])), (e1, wI tC 0 z1)]) [1, 2] (by decide) rfl
          have hFc := va_free (wc := [(f, .inr (3, [.ref e1, .ref e2, .int 5, .int 0])), (e1, wI tC 0 z1)]) hD hS hA [1, 2] rfl
          refine va_calli (va_runVN (As := []) (rest := []) ⟨hx, hb, hml, hown, hts⟩ (c_X2_length l hlt D tC dz H.size f e1 e2 z1 ) ⟨(va_cnB (host := "NoticeStations") 0 hts gX4_mayGoOn_X2_length_n107 rfl rfl rfl (hN.1 (.methodLinkNest "NoticeStations" 107 ⟨"NoticeStations$Standing", "length", "()I"⟩ "NoticeStations") (by decide +kernel)) w_0 (by decide +kernel) ⟨Nat.le_of_ble_eq_true rfl, Nat.le_of_ble_eq_true rfl⟩), w_1, w_2⟩ ⟨pB_blind, va_recv hK hPc (ci := 3) (q0 := 0) rfl rfl, pB_at hPc hDc hK hN hE hS hFc⟩ rfl rfl hl.1 rfl (lv_room (Nat.le_of_ble_eq_true rfl)) dX4_mayGoOn_24 ⟨Nat.le_of_ble_eq_true rfl, Nat.le_of_ble_eq_true rfl⟩) hS (fun q _ h => hFc q h) hFc (fun r_163 u t H1 locs ht hvm hw hB hz1 hk1 hS => ?_)
          obtain ⟨hP1, _, hD1⟩ := hB
          have hw_164 := hw
          rw [ht] at hP1
          obtain ⟨hP, hD⟩ := va_join (wr := [(a4, wS tC 5 gf)]) (w1 := [(f, .inr (3, [.ref e1, .ref e2, .int 5, .int 0])), (e1, wI tC 0 z1)]) hP hD [1, 2] [0] rfl rfl (by decide) (by decide) hk1 hFc hP1 hD1
          generalize H1 = H at hP hS ⊢
          have hP : va_P D vwCl [(a4, wS tC 5 gf), (f, .inr (3, [.ref e1, .ref e2, .int 5, .int 0])), (e1, wI tC 0 z1)] H := hP
          have hD : va_D A [(a4, wS tC 5 gf), (f, .inr (3, [.ref e1, .ref e2, .int 5, .int 0])), (e1, wI tC 0 z1)] := hD
          subst hw_164
          refine lv_aload_n hx hb dX4_mayGoOn_27 rfl (lv_at hl 4 rfl) ?_
          have hPc := hP.sub (ws' := [(f, .inr (3, [.ref e1, .ref e2, .int 5, .int 0])), (e1, wI tC 0 z1)]) [1, 2] rfl
          have hDc := hD.sub (ws' := [(f, .inr (3, [.ref e1, .ref e2, .int 5, .int 0])), (e1, wI tC 0 z1)]) [1, 2] (by decide) rfl
          have hFc := va_free (wc := [(f, .inr (3, [.ref e1, .ref e2, .int 5, .int 0])), (e1, wI tC 0 z1)]) hD hS hA [1, 2] rfl
          refine va_calli (va_runVN (As := []) (rest := [.int 0]) ⟨hx, hb, hml, hown, hts⟩ (c_X2_length l hlt D tC dz H.size f e1 e2 z1 ) ⟨(va_cnB (host := "NoticeStations") 0 hts gX4_mayGoOn_X2_length_n107 rfl rfl rfl (hN.1 (.methodLinkNest "NoticeStations" 107 ⟨"NoticeStations$Standing", "length", "()I"⟩ "NoticeStations") (by decide +kernel)) w_0 (by decide +kernel) ⟨Nat.le_of_ble_eq_true rfl, Nat.le_of_ble_eq_true rfl⟩), w_1, w_2⟩ ⟨pB_blind, va_recv hK hPc (ci := 3) (q0 := 0) rfl rfl, pB_at hPc hDc hK hN hE hS hFc⟩ rfl rfl hl.1 rfl (lv_room (Nat.le_of_ble_eq_true rfl)) dX4_mayGoOn_28 ⟨Nat.le_of_ble_eq_true rfl, Nat.le_of_ble_eq_true rfl⟩) hS (fun q _ h => hFc q h) hFc (fun r_165 u t H1 locs ht hvm hw hB hz1 hk1 hS => ?_)
          obtain ⟨hP1, _, hD1⟩ := hB
          have hw_166 := hw
          rw [ht] at hP1
          obtain ⟨hP, hD⟩ := va_join (wr := [(a4, wS tC 5 gf)]) (w1 := [(f, .inr (3, [.ref e1, .ref e2, .int 5, .int 0])), (e1, wI tC 0 z1)]) hP hD [1, 2] [0] rfl rfl (by decide) (by decide) hk1 hFc hP1 hD1
          generalize H1 = H at hP hS ⊢
          have hP : va_P D vwCl [(a4, wS tC 5 gf), (f, .inr (3, [.ref e1, .ref e2, .int 5, .int 0])), (e1, wI tC 0 z1)] H := hP
          have hD : va_D A [(a4, wS tC 5 gf), (f, .inr (3, [.ref e1, .ref e2, .int 5, .int 0])), (e1, wI tC 0 z1)] := hD
          subst hw_166
          refine lv_icmp_ne (tgt := 56) hx hb dX4_mayGoOn_31 (by decide) (fun hc => absurd (by decide) hc) (fun _ => ?_)
          refine lv_iinc (v := 4) (lv' := [(2, .int 4), (4, .int 3), (3, .int 1), (0, .ref a4), (1, .ref f)]) hx hb dX4_mayGoOn_34 hl (k := 2) rfl (by decide) (by decide) rfl (fun ls hl => ?_)
          refine lv_iload_n hx hb dX4_mayGoOn_37 rfl (lv_at hl 2 rfl) ?_
          refine lv_if_ne (tgt := 50) hx hb dX4_mayGoOn_38 (by decide) (fun _ => ?_) (fun hc => absurd hc (by decide))
          refine lv_iconst (v := 1) hx hb dX4_mayGoOn_50 (by decide) ?_
          refine lv_goto (tgt := 55) hx hb dX4_mayGoOn_51 (by decide) ?_
          refine lv_istore_n (lv' := [(3, .int 1), (2, .int 4), (4, .int 3), (0, .ref a4), (1, .ref f)]) hx hb dX4_mayGoOn_55 rfl hl (by decide) rfl (fun ls hl => ?_)
          refine lv_iinc (v := 4) (lv' := [(4, .int 4), (3, .int 1), (2, .int 4), (0, .ref a4), (1, .ref f)]) hx hb dX4_mayGoOn_56 hl (k := 2) rfl (by decide) (by decide) rfl (fun ls hl => ?_)
          refine lv_goto (tgt := 7) hx hb dX4_mayGoOn_59 (by decide) ?_
          cases hb4 : bt 4
          · skip
            refine lv_iload hx hb dX4_mayGoOn_7 (lv_at hl 0 rfl) ?_
            refine lv_iconst (v := 5) hx hb dX4_mayGoOn_9 (by decide) ?_
            refine lv_icmp_ge (tgt := 62) hx hb dX4_mayGoOn_10 (by decide) (fun hc => absurd hc (by decide)) (fun _ => ?_)
            refine lv_aload_n hx hb dX4_mayGoOn_13 rfl (lv_at hl 3 rfl) ?_
            refine lv_iload hx hb dX4_mayGoOn_14 (lv_at hl 0 rfl) ?_
            refine va_aldq hx hb hK hP 0 2 rfl rfl (by unfold vp_in; decide) dX4_mayGoOn_16 ?_
            rw [show gf (4 : Int32).toNatClampNeg = none from (by rw [show (4 : Int32).toNatClampNeg = 4 by decide, hg 4 (by decide), hb4]; rfl)]
            refine W.eq (g2 := F0 m 17 ls [.null]) rfl ?_
            refine lv_ifnullN (tgt := 56) hx hb dX4_mayGoOn_17 (by decide) ?_
            refine lv_iinc (v := 5) (lv' := [(4, .int 5), (3, .int 1), (2, .int 4), (0, .ref a4), (1, .ref f)]) hx hb dX4_mayGoOn_56 hl (k := 0) rfl (by decide) (by decide) rfl (fun ls hl => ?_)
            refine lv_goto (tgt := 7) hx hb dX4_mayGoOn_59 (by decide) ?_
            refine lv_iload hx hb dX4_mayGoOn_7 (lv_at hl 0 rfl) ?_
            refine lv_iconst (v := 5) hx hb dX4_mayGoOn_9 (by decide) ?_
            refine lv_icmp_ge (tgt := 62) hx hb dX4_mayGoOn_10 (by decide) (fun _ => ?_) (fun hc => absurd (by decide) hc)
            refine lv_iconst (v := 2) hx hb dX4_mayGoOn_62 (by decide) ?_
            refine lv_iload_n hx hb dX4_mayGoOn_63 rfl (lv_at hl 2 rfl) ?_
            refine lv_imul hx hb dX4_mayGoOn_64 ?_
            refine lv_topi (fun z_167 ez_167 => ?_)
            have fz_167 : z_167 = 8 := ez_167.trans (by decide)
            subst fz_167
            refine lv_aload_n hx hb dX4_mayGoOn_65 rfl (lv_at hl 4 rfl) ?_
            refine va_getN (host := "NoticeStations") (D := D) (ci := 3) (v := .int 5) (C := RX2) (T := TX2) (N := 4) hx hb hts in_X4_mayGoOn_X2 hown hK hP 1 rfl rfl 2 (by decide) (va_Nw.use rfl (hN.1 (.fieldLinkNest "NoticeStations" 228 "NoticeStations$Standing" "size" "I" "NoticeStations") (by decide +kernel))) (fun _ h9 => h9) rfl dX4_mayGoOn_66 ?_
            refine lv_icmp_gt (tgt := 86) hx hb dX4_mayGoOn_69 (by decide) (fun _ => ?_) (fun hc => absurd (by decide) hc)
            refine lv_iconst (v := 1) hx hb dX4_mayGoOn_86 (by decide) ?_
            refine lv_goto (tgt := 91) hx hb dX4_mayGoOn_87 (by decide) ?_
            have hP9 := hP.sub (ws' := [(a4, wS tC 5 gf), (f, .inr (3, [.ref e1, .ref e2, .int 5, .int 0])), (e1, wI tC 0 z1)]) [0, 1, 2] rfl
            have hD9 := hD.sub (ws' := [(a4, wS tC 5 gf), (f, .inr (3, [.ref e1, .ref e2, .int 5, .int 0])), (e1, wI tC 0 z1)]) [0, 1, 2] (by decide) rfl
            refine W.widen (k := 0) (n := 0) (by omega) (by omega) ?_
            exact W.zret (v := 1) hx hb hr (by decide) (fun t ht hW => ⟨⟨1, (), rfl, (by unfold mayg cntb; rw [hb0, hb1, hb2, hb3, hb4] <;> decide), (by rw [ht]; exact hP9), va_K.moved hW.alike hK, hD9⟩, hS.F ht⟩) hS.2.2 dX4_mayGoOn_91 hlocks
          · skip
            refine lv_iload hx hb dX4_mayGoOn_7 (lv_at hl 0 rfl) ?_
            refine lv_iconst (v := 5) hx hb dX4_mayGoOn_9 (by decide) ?_
            refine lv_icmp_ge (tgt := 62) hx hb dX4_mayGoOn_10 (by decide) (fun hc => absurd hc (by decide)) (fun _ => ?_)
            refine lv_aload_n hx hb dX4_mayGoOn_13 rfl (lv_at hl 3 rfl) ?_
            refine lv_iload hx hb dX4_mayGoOn_14 (lv_at hl 0 rfl) ?_
            refine va_aldq hx hb hK hP 0 2 rfl rfl (by unfold vp_in; decide) dX4_mayGoOn_16 ?_
            rw [show gf (4 : Int32).toNatClampNeg = some f from (by rw [show (4 : Int32).toNatClampNeg = 4 by decide, hg 4 (by decide), hb4]; rfl)]
            refine W.eq (g2 := F0 m 17 ls [.ref f]) rfl ?_
            refine lv_ifnull hx hb dX4_mayGoOn_17 ?_
            refine lv_aload_n hx hb dX4_mayGoOn_20 rfl (lv_at hl 3 rfl) ?_
            refine lv_iload hx hb dX4_mayGoOn_21 (lv_at hl 0 rfl) ?_
            refine va_aldq hx hb hK hP 0 2 rfl rfl (by unfold vp_in; decide) dX4_mayGoOn_23 ?_
            rw [show gf (4 : Int32).toNatClampNeg = some f from (by rw [show (4 : Int32).toNatClampNeg = 4 by decide, hg 4 (by decide), hb4]; rfl)]
            refine W.eq (g2 := F0 m 24 ls [.ref f]) rfl ?_
            have hPc := hP.sub (ws' := [(f, .inr (3, [.ref e1, .ref e2, .int 5, .int 0])), (e1, wI tC 0 z1)]) [1, 2] rfl
            have hDc := hD.sub (ws' := [(f, .inr (3, [.ref e1, .ref e2, .int 5, .int 0])), (e1, wI tC 0 z1)]) [1, 2] (by decide) rfl
            have hFc := va_free (wc := [(f, .inr (3, [.ref e1, .ref e2, .int 5, .int 0])), (e1, wI tC 0 z1)]) hD hS hA [1, 2] rfl
            refine va_calli (va_runVN (As := []) (rest := []) ⟨hx, hb, hml, hown, hts⟩ (c_X2_length l hlt D tC dz H.size f e1 e2 z1 ) ⟨(va_cnB (host := "NoticeStations") 0 hts gX4_mayGoOn_X2_length_n107 rfl rfl rfl (hN.1 (.methodLinkNest "NoticeStations" 107 ⟨"NoticeStations$Standing", "length", "()I"⟩ "NoticeStations") (by decide +kernel)) w_0 (by decide +kernel) ⟨Nat.le_of_ble_eq_true rfl, Nat.le_of_ble_eq_true rfl⟩), w_1, w_2⟩ ⟨pB_blind, va_recv hK hPc (ci := 3) (q0 := 0) rfl rfl, pB_at hPc hDc hK hN hE hS hFc⟩ rfl rfl hl.1 rfl (lv_room (Nat.le_of_ble_eq_true rfl)) dX4_mayGoOn_24 ⟨Nat.le_of_ble_eq_true rfl, Nat.le_of_ble_eq_true rfl⟩) hS (fun q _ h => hFc q h) hFc (fun r_168 u t H1 locs ht hvm hw hB hz1 hk1 hS => ?_)
            obtain ⟨hP1, _, hD1⟩ := hB
            have hw_169 := hw
            rw [ht] at hP1
            obtain ⟨hP, hD⟩ := va_join (wr := [(a4, wS tC 5 gf)]) (w1 := [(f, .inr (3, [.ref e1, .ref e2, .int 5, .int 0])), (e1, wI tC 0 z1)]) hP hD [1, 2] [0] rfl rfl (by decide) (by decide) hk1 hFc hP1 hD1
            generalize H1 = H at hP hS ⊢
            have hP : va_P D vwCl [(a4, wS tC 5 gf), (f, .inr (3, [.ref e1, .ref e2, .int 5, .int 0])), (e1, wI tC 0 z1)] H := hP
            have hD : va_D A [(a4, wS tC 5 gf), (f, .inr (3, [.ref e1, .ref e2, .int 5, .int 0])), (e1, wI tC 0 z1)] := hD
            subst hw_169
            refine lv_aload_n hx hb dX4_mayGoOn_27 rfl (lv_at hl 4 rfl) ?_
            have hPc := hP.sub (ws' := [(f, .inr (3, [.ref e1, .ref e2, .int 5, .int 0])), (e1, wI tC 0 z1)]) [1, 2] rfl
            have hDc := hD.sub (ws' := [(f, .inr (3, [.ref e1, .ref e2, .int 5, .int 0])), (e1, wI tC 0 z1)]) [1, 2] (by decide) rfl
            have hFc := va_free (wc := [(f, .inr (3, [.ref e1, .ref e2, .int 5, .int 0])), (e1, wI tC 0 z1)]) hD hS hA [1, 2] rfl
            refine va_calli (va_runVN (As := []) (rest := [.int 0]) ⟨hx, hb, hml, hown, hts⟩ (c_X2_length l hlt D tC dz H.size f e1 e2 z1 ) ⟨(va_cnB (host := "NoticeStations") 0 hts gX4_mayGoOn_X2_length_n107 rfl rfl rfl (hN.1 (.methodLinkNest "NoticeStations" 107 ⟨"NoticeStations$Standing", "length", "()I"⟩ "NoticeStations") (by decide +kernel)) w_0 (by decide +kernel) ⟨Nat.le_of_ble_eq_true rfl, Nat.le_of_ble_eq_true rfl⟩), w_1, w_2⟩ ⟨pB_blind, va_recv hK hPc (ci := 3) (q0 := 0) rfl rfl, pB_at hPc hDc hK hN hE hS hFc⟩ rfl rfl hl.1 rfl (lv_room (Nat.le_of_ble_eq_true rfl)) dX4_mayGoOn_28 ⟨Nat.le_of_ble_eq_true rfl, Nat.le_of_ble_eq_true rfl⟩) hS (fun q _ h => hFc q h) hFc (fun r_170 u t H1 locs ht hvm hw hB hz1 hk1 hS => ?_)
            obtain ⟨hP1, _, hD1⟩ := hB
            have hw_171 := hw
            rw [ht] at hP1
            obtain ⟨hP, hD⟩ := va_join (wr := [(a4, wS tC 5 gf)]) (w1 := [(f, .inr (3, [.ref e1, .ref e2, .int 5, .int 0])), (e1, wI tC 0 z1)]) hP hD [1, 2] [0] rfl rfl (by decide) (by decide) hk1 hFc hP1 hD1
            generalize H1 = H at hP hS ⊢
            have hP : va_P D vwCl [(a4, wS tC 5 gf), (f, .inr (3, [.ref e1, .ref e2, .int 5, .int 0])), (e1, wI tC 0 z1)] H := hP
            have hD : va_D A [(a4, wS tC 5 gf), (f, .inr (3, [.ref e1, .ref e2, .int 5, .int 0])), (e1, wI tC 0 z1)] := hD
            subst hw_171
            refine lv_icmp_ne (tgt := 56) hx hb dX4_mayGoOn_31 (by decide) (fun hc => absurd (by decide) hc) (fun _ => ?_)
            refine lv_iinc (v := 5) (lv' := [(2, .int 5), (4, .int 4), (3, .int 1), (0, .ref a4), (1, .ref f)]) hx hb dX4_mayGoOn_34 hl (k := 2) rfl (by decide) (by decide) rfl (fun ls hl => ?_)
            refine lv_iload_n hx hb dX4_mayGoOn_37 rfl (lv_at hl 2 rfl) ?_
            refine lv_if_ne (tgt := 50) hx hb dX4_mayGoOn_38 (by decide) (fun _ => ?_) (fun hc => absurd hc (by decide))
            refine lv_iconst (v := 1) hx hb dX4_mayGoOn_50 (by decide) ?_
            refine lv_goto (tgt := 55) hx hb dX4_mayGoOn_51 (by decide) ?_
            refine lv_istore_n (lv' := [(3, .int 1), (2, .int 5), (4, .int 4), (0, .ref a4), (1, .ref f)]) hx hb dX4_mayGoOn_55 rfl hl (by decide) rfl (fun ls hl => ?_)
            refine lv_iinc (v := 5) (lv' := [(4, .int 5), (3, .int 1), (2, .int 5), (0, .ref a4), (1, .ref f)]) hx hb dX4_mayGoOn_56 hl (k := 2) rfl (by decide) (by decide) rfl (fun ls hl => ?_)
            refine lv_goto (tgt := 7) hx hb dX4_mayGoOn_59 (by decide) ?_
            refine lv_iload hx hb dX4_mayGoOn_7 (lv_at hl 0 rfl) ?_
            refine lv_iconst (v := 5) hx hb dX4_mayGoOn_9 (by decide) ?_
            refine lv_icmp_ge (tgt := 62) hx hb dX4_mayGoOn_10 (by decide) (fun _ => ?_) (fun hc => absurd (by decide) hc)
            refine lv_iconst (v := 2) hx hb dX4_mayGoOn_62 (by decide) ?_
            refine lv_iload_n hx hb dX4_mayGoOn_63 rfl (lv_at hl 2 rfl) ?_
            refine lv_imul hx hb dX4_mayGoOn_64 ?_
            refine lv_topi (fun z_172 ez_172 => ?_)
            have fz_172 : z_172 = 10 := ez_172.trans (by decide)
            subst fz_172
            refine lv_aload_n hx hb dX4_mayGoOn_65 rfl (lv_at hl 4 rfl) ?_
            refine va_getN (host := "NoticeStations") (D := D) (ci := 3) (v := .int 5) (C := RX2) (T := TX2) (N := 4) hx hb hts in_X4_mayGoOn_X2 hown hK hP 1 rfl rfl 2 (by decide) (va_Nw.use rfl (hN.1 (.fieldLinkNest "NoticeStations" 228 "NoticeStations$Standing" "size" "I" "NoticeStations") (by decide +kernel))) (fun _ h9 => h9) rfl dX4_mayGoOn_66 ?_
            refine lv_icmp_gt (tgt := 86) hx hb dX4_mayGoOn_69 (by decide) (fun _ => ?_) (fun hc => absurd (by decide) hc)
            refine lv_iconst (v := 1) hx hb dX4_mayGoOn_86 (by decide) ?_
            refine lv_goto (tgt := 91) hx hb dX4_mayGoOn_87 (by decide) ?_
            have hP9 := hP.sub (ws' := [(a4, wS tC 5 gf), (f, .inr (3, [.ref e1, .ref e2, .int 5, .int 0])), (e1, wI tC 0 z1)]) [0, 1, 2] rfl
            have hD9 := hD.sub (ws' := [(a4, wS tC 5 gf), (f, .inr (3, [.ref e1, .ref e2, .int 5, .int 0])), (e1, wI tC 0 z1)]) [0, 1, 2] (by decide) rfl
            refine W.widen (k := 0) (n := 0) (by omega) (by omega) ?_
            exact W.zret (v := 1) hx hb hr (by decide) (fun t ht hW => ⟨⟨1, (), rfl, (by unfold mayg cntb; rw [hb0, hb1, hb2, hb3, hb4] <;> decide), (by rw [ht]; exact hP9), va_K.moved hW.alike hK, hD9⟩, hS.F ht⟩) hS.2.2 dX4_mayGoOn_91 hlocks
