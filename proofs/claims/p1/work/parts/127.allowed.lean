set_option maxRecDepth 100000 in
theorem dX4_allowed_0 : decode cX4_allowed 0 = .ok (.iload_n 1, 1) := by decide +kernel
set_option maxRecDepth 100000 in
theorem dX4_allowed_1 : decode cX4_allowed 1 = .ok (.bipush 32, 2) := by decide +kernel
set_option maxRecDepth 100000 in
theorem dX4_allowed_3 : decode cX4_allowed 3 = .ok (.invokestatic 46, 3) := by decide +kernel
set_option maxRecDepth 20000 in
theorem ggX4_allowed_X4_isBelow : GoodIn wsX4_allowed wsX4_isBelow := goodIn_r _ [8] (by decide +kernel) (by decide +kernel)
set_option maxRecDepth 20000 in
theorem gX4_allowed_X4_isBelow : GoodIn wsX4_allowed (va_wsS RX4 46 yX4_isBelow wsX4_isBelow) := goodIn_app (goodIn_of _ (by decide +kernel)) ggX4_allowed_X4_isBelow
set_option maxRecDepth 100000 in
theorem dX4_allowed_6 : decode cX4_allowed 6 = .ok (.ifCond .ne 13, 3) := by decide +kernel
set_option maxRecDepth 100000 in
theorem dX4_allowed_19 : decode cX4_allowed 19 = .ok (.iconst 0, 1) := by decide +kernel
set_option maxRecDepth 100000 in
theorem dX4_allowed_20 : decode cX4_allowed 20 = .ok (.istore_n 2, 1) := by decide +kernel
set_option maxRecDepth 100000 in
theorem dX4_allowed_21 : decode cX4_allowed 21 = .ok (.iload_n 2, 1) := by decide +kernel
set_option maxRecDepth 100000 in
theorem dX4_allowed_22 : decode cX4_allowed 22 = .ok (.iconst 5, 1) := by decide +kernel
set_option maxRecDepth 100000 in
theorem dX4_allowed_23 : decode cX4_allowed 23 = .ok (.if_icmp .ge 64, 3) := by decide +kernel
set_option maxRecDepth 100000 in
theorem dX4_allowed_26 : decode cX4_allowed 26 = .ok (.iload_n 1, 1) := by decide +kernel
set_option maxRecDepth 100000 in
theorem dX4_allowed_27 : decode cX4_allowed 27 = .ok (.iconst 1, 1) := by decide +kernel
set_option maxRecDepth 100000 in
theorem dX4_allowed_28 : decode cX4_allowed 28 = .ok (.iload_n 2, 1) := by decide +kernel
set_option maxRecDepth 100000 in
theorem dX4_allowed_29 : decode cX4_allowed 29 = .ok (.ishl, 1) := by decide +kernel
set_option maxRecDepth 100000 in
theorem dX4_allowed_30 : decode cX4_allowed 30 = .ok (.iand, 1) := by decide +kernel
set_option maxRecDepth 100000 in
theorem dX4_allowed_31 : decode cX4_allowed 31 = .ok (.ifCond .eq 7, 3) := by decide +kernel
set_option maxRecDepth 100000 in
theorem dX4_allowed_38 : decode cX4_allowed 38 = .ok (.iconst 0, 1) := by decide +kernel
set_option maxRecDepth 100000 in
theorem dX4_allowed_39 : decode cX4_allowed 39 = .ok (.istore_n 3, 1) := by decide +kernel
set_option maxRecDepth 100000 in
theorem dX4_allowed_40 : decode cX4_allowed 40 = .ok (.iload_n 3, 1) := by decide +kernel
set_option maxRecDepth 100000 in
theorem dX4_allowed_41 : decode cX4_allowed 41 = .ok (.ifCond .eq 17, 3) := by decide +kernel
set_option maxRecDepth 100000 in
theorem dX4_allowed_58 : decode cX4_allowed 58 = .ok (.aload_n 0, 1) := by decide +kernel
set_option maxRecDepth 100000 in
theorem dX4_allowed_59 : decode cX4_allowed 59 = .ok (.getfield 28, 3) := by decide +kernel
set_option maxRecDepth 100000 in
theorem in_X4_allowed_X4 : ∀ w ∈ wsX40, w ∈ wsX4_allowed := fun _ h => List.mem_cons_of_mem _ (List.mem_append_left _ (List.mem_append_left _ (List.mem_append_left _ (List.mem_append_right _ h))))
set_option maxRecDepth 100000 in
theorem dX4_allowed_62 : decode cX4_allowed 62 = .ok (.iload_n 2, 1) := by decide +kernel
set_option maxRecDepth 100000 in
theorem dX4_allowed_63 : decode cX4_allowed 63 = .ok (.iload_n 3, 1) := by decide +kernel
set_option maxRecDepth 100000 in
theorem dX4_allowed_64 : decode cX4_allowed 64 = .ok (.ifCond .eq 15, 3) := by decide +kernel
set_option maxRecDepth 100000 in
theorem dX4_allowed_79 : decode cX4_allowed 79 = .ok (.aconst_null, 1) := by decide +kernel
set_option maxRecDepth 100000 in
theorem dX4_allowed_80 : decode cX4_allowed 80 = .ok (.aastore, 1) := by decide +kernel
set_option maxRecDepth 100000 in
theorem dX4_allowed_81 : decode cX4_allowed 81 = .ok (.iinc 2 1, 3) := by decide +kernel
set_option maxRecDepth 100000 in
theorem dX4_allowed_84 : decode cX4_allowed 84 = .ok (.goto (-63), 3) := by decide +kernel
set_option maxRecDepth 100000 in
theorem dX4_allowed_87 : decode cX4_allowed 87 = .ok (.aload_n 0, 1) := by decide +kernel
set_option maxRecDepth 100000 in
theorem dX4_allowed_88 : decode cX4_allowed 88 = .ok (.getfield 28, 3) := by decide +kernel
set_option maxRecDepth 100000 in
theorem dX4_allowed_91 : decode cX4_allowed 91 = .ok (.invokestatic 99, 3) := by decide +kernel
set_option maxRecDepth 20000 in
theorem ggX4_allowed_X4_heldByHolders : GoodIn wsX4_allowed wsX4_heldByHolders := goodIn_r _ [22, 23, 24, 25, 26, 27, 43, 44, 45, 46] (by decide +kernel) (by decide +kernel)
set_option maxRecDepth 20000 in
theorem gX4_allowed_X4_heldByHolders : GoodIn wsX4_allowed (va_wsS RX4 99 yX4_heldByHolders wsX4_heldByHolders) := goodIn_app (goodIn_of _ (by decide +kernel)) ggX4_allowed_X4_heldByHolders
set_option maxRecDepth 100000 in
theorem dX4_allowed_94 : decode cX4_allowed 94 = .ok (.astore_n 2, 1) := by decide +kernel
set_option maxRecDepth 100000 in
theorem dX4_allowed_95 : decode cX4_allowed 95 = .ok (.aload_n 2, 1) := by decide +kernel
set_option maxRecDepth 100000 in
theorem dX4_allowed_96 : decode cX4_allowed 96 = .ok (.ifnull 18, 3) := by decide +kernel
set_option maxRecDepth 100000 in
theorem dX4_allowed_114 : decode cX4_allowed 114 = .ok (.iconst 0, 1) := by decide +kernel
set_option maxRecDepth 100000 in
theorem dX4_allowed_115 : decode cX4_allowed 115 = .ok (.ireturn, 1) := by decide +kernel
set_option maxRecDepth 100000 in
theorem dX4_allowed_34 : decode cX4_allowed 34 = .ok (.iconst 1, 1) := by decide +kernel
set_option maxRecDepth 100000 in
theorem dX4_allowed_35 : decode cX4_allowed 35 = .ok (.goto 4, 3) := by decide +kernel
set_option maxRecDepth 100000 in
theorem dX4_allowed_44 : decode cX4_allowed 44 = .ok (.aload_n 0, 1) := by decide +kernel
set_option maxRecDepth 100000 in
theorem dX4_allowed_45 : decode cX4_allowed 45 = .ok (.getfield 11, 3) := by decide +kernel
set_option maxRecDepth 100000 in
theorem dX4_allowed_48 : decode cX4_allowed 48 = .ok (.iload_n 2, 1) := by decide +kernel
set_option maxRecDepth 100000 in
theorem dX4_allowed_49 : decode cX4_allowed 49 = .ok (.aaload, 1) := by decide +kernel
set_option maxRecDepth 100000 in
theorem dX4_allowed_50 : decode cX4_allowed 50 = .ok (.invokevirtual 240, 3) := by decide +kernel
set_option maxRecDepth 20000 in
theorem ggX4_allowed_X3_isFree : GoodIn wsX4_allowed wsX3_isFree := goodIn_r _ [12, 13, 14, 15, 16, 17, 10, 18, 19, 35, 36, 37, 38, 39, 40, 41, 42] (by decide +kernel) (by decide +kernel)
set_option maxRecDepth 20000 in
theorem gX4_allowed_X3_isFree_n240 : GoodIn wsX4_allowed (wsX3_isFree) := ggX4_allowed_X3_isFree
set_option maxRecDepth 100000 in
theorem dX4_allowed_53 : decode cX4_allowed 53 = .ok (.ifCond .ne 5, 3) := by decide +kernel
set_option maxRecDepth 100000 in
theorem dX4_allowed_67 : decode cX4_allowed 67 = .ok (.aload_n 0, 1) := by decide +kernel
set_option maxRecDepth 100000 in
theorem dX4_allowed_68 : decode cX4_allowed 68 = .ok (.getfield 11, 3) := by decide +kernel
set_option maxRecDepth 100000 in
theorem dX4_allowed_71 : decode cX4_allowed 71 = .ok (.iload_n 2, 1) := by decide +kernel
set_option maxRecDepth 100000 in
theorem dX4_allowed_72 : decode cX4_allowed 72 = .ok (.aaload, 1) := by decide +kernel
set_option maxRecDepth 100000 in
theorem dX4_allowed_73 : decode cX4_allowed 73 = .ok (.getfield 61, 3) := by decide +kernel
set_option maxRecDepth 100000 in
theorem in_X4_allowed_X3 : ∀ w ∈ wsX30, w ∈ wsX4_allowed := fun _ h => List.mem_cons_of_mem _ (List.mem_append_left _ (List.mem_append_left _ (List.mem_append_right _ h)))
set_option maxRecDepth 100000 in
theorem dX4_allowed_76 : decode cX4_allowed 76 = .ok (.goto 4, 3) := by decide +kernel
set_option maxRecDepth 100000 in
theorem dX4_allowed_99 : decode cX4_allowed 99 = .ok (.aload_n 0, 1) := by decide +kernel
set_option maxRecDepth 100000 in
theorem dX4_allowed_100 : decode cX4_allowed 100 = .ok (.getfield 28, 3) := by decide +kernel
set_option maxRecDepth 100000 in
theorem dX4_allowed_103 : decode cX4_allowed 103 = .ok (.aload_n 2, 1) := by decide +kernel
set_option maxRecDepth 100000 in
theorem dX4_allowed_104 : decode cX4_allowed 104 = .ok (.invokestatic 103, 3) := by decide +kernel
set_option maxRecDepth 20000 in
theorem ggX4_allowed_X4_mayGoOn : GoodIn wsX4_allowed wsX4_mayGoOn := goodIn_r _ [30, 23, 24, 25, 26, 27, 43, 44, 45, 46] (by decide +kernel) (by decide +kernel)
set_option maxRecDepth 20000 in
theorem gX4_allowed_X4_mayGoOn : GoodIn wsX4_allowed (va_wsS RX4 103 yX4_mayGoOn wsX4_mayGoOn) := goodIn_app (goodIn_of _ (by decide +kernel)) ggX4_allowed_X4_mayGoOn
set_option maxRecDepth 100000 in
theorem dX4_allowed_107 : decode cX4_allowed 107 = .ok (.ifCond .eq 7, 3) := by decide +kernel
set_option maxRecDepth 100000 in
theorem dX4_allowed_110 : decode cX4_allowed 110 = .ok (.iconst 1, 1) := by decide +kernel
set_option maxRecDepth 100000 in
theorem dX4_allowed_111 : decode cX4_allowed 111 = .ok (.goto 4, 3) := by decide +kernel
set_option maxRecDepth 100000 in
theorem dX4_allowed_9 : decode cX4_allowed 9 = .ok (.new 50, 3) := by decide +kernel
set_option maxRecDepth 100000 in
theorem dX4_allowed_12 : decode cX4_allowed 12 = .ok (.dup, 1) := by decide +kernel
set_option maxRecDepth 100000 in
theorem dX4_allowed_13 : decode cX4_allowed 13 = .ok (.ldc 238, 2) := by decide +kernel
set_option maxRecDepth 100000 in
theorem dX4_allowed_15 : decode cX4_allowed 15 = .ok (.invokespecial 54, 3) := by decide +kernel
set_option maxRecDepth 100000 in
theorem dX4_allowed_18 : decode cX4_allowed 18 = .ok (.athrow, 1) := by decide +kernel
set_option maxRecDepth 100000 in
theorem th_X4_allowed_IAE : ∀ w ∈ (vx_atS RX4 54 "java/lang/IllegalArgumentException" ["java/lang/RuntimeException", "java/lang/Exception"]).filter goodWord, w ∈ wsX4_allowed := fun _ h => List.mem_cons_of_mem _ (List.mem_append_right _ h)
set_option maxHeartbeats 4000000 in
set_option maxRecDepth 100000 in
theorem c_X4_allowed (l : Launch) (hlt : l.stackTraces = false) (D : va_G) (tC : Nat → ClassId) (dz sz : Nat) (x : Nat) (a1 : Nat) (a2 : Nat) (a3 : Nat) (a4 : Nat) (fs : Nat → Option Nat) (qs : Nat → Nat) (gf : Nat → Option Nat) (p0 : Int32) (f : Nat) (e1 : Nat) (e2 : Nat) (z1 : Nat → Int32) (hfs : ∀ i : Nat, i < 5 → fs i = some (qs i)) : vx_Met l yX4_allowed wsX4_allowed ({ frames := 6, cells := 1, slots := 6, locals := 82 }) (va_Pc [.ref x, .int p0] (pB D tC dz [(x, .inr (5, [.ref a1, .ref a2, .ref a3, .ref a4])), (a1, wT tC 5 fs), (a4, wS tC 5 gf), (f, .inr (3, [.ref e1, .ref e2, .int 5, .int 0])), (e1, wI tC 0 z1), ((qs 0), .inr (4, [.int 0, .int 1, .ref f, .int 0, .int (-1), .null, .int (-1), .null])), ((qs 1), .inr (4, [.int 1, .int 1, .ref f, .int 0, .int (-1), .null, .int (-1), .null])), ((qs 2), .inr (4, [.int 2, .int 1, .ref f, .int 0, .int (-1), .null, .int (-1), .null])), ((qs 3), .inr (4, [.int 3, .int 1, .ref f, .int 0, .int (-1), .null, .int (-1), .null])), ((qs 4), .inr (4, [.int 4, .int 1, .ref f, .int 0, .int (-1), .null, .int (-1), .null]))] sz)) (va_Qi (fun (r : Int32) (_ : Unit) => r = (if mayg (bqb p0) then 1 else 0) ∧ ¬ (p0 < 0 ∨ 32 ≤ p0)) (fun (_ : Unit) t => pA D tC (va_A [(x, .inr (5, [.ref a1, .ref a2, .ref a3, .ref a4])), (a1, wT tC 5 fs), (a4, wS tC 5 gf), (f, .inr (3, [.ref e1, .ref e2, .int 5, .int 0])), (e1, wI tC 0 z1), ((qs 0), .inr (4, [.int 0, .int 1, .ref f, .int 0, .int (-1), .null, .int (-1), .null])), ((qs 1), .inr (4, [.int 1, .int 1, .ref f, .int 0, .int (-1), .null, .int (-1), .null])), ((qs 2), .inr (4, [.int 2, .int 1, .ref f, .int 0, .int (-1), .null, .int (-1), .null])), ((qs 3), .inr (4, [.int 3, .int 1, .ref f, .int 0, .int (-1), .null, .int (-1), .null])), ((qs 4), .inr (4, [.int 4, .int 1, .ref f, .int 0, .int (-1), .null, .int (-1), .null]))] sz) [] t) (va_A [(x, .inr (5, [.ref a1, .ref a2, .ref a3, .ref a4])), (a1, wT tC 5 fs), (a4, wS tC 5 gf), (f, .inr (3, [.ref e1, .ref e2, .int 5, .int 0])), (e1, wI tC 0 z1), ((qs 0), .inr (4, [.int 0, .int 1, .ref f, .int 0, .int (-1), .null, .int (-1), .null])), ((qs 1), .inr (4, [.int 1, .int 1, .ref f, .int 0, .int (-1), .null, .int (-1), .null])), ((qs 2), .inr (4, [.int 2, .int 1, .ref f, .int 0, .int (-1), .null, .int (-1), .null])), ((qs 3), .inr (4, [.int 3, .int 1, .ref f, .int 0, .int (-1), .null, .int (-1), .null])), ((qs 4), .inr (4, [.int 4, .int 1, .ref f, .int 0, .int (-1), .null, .int (-1), .null]))] sz)) (xX (fun E => E = "java/lang/IllegalArgumentException" ∧ (p0 < 0 ∨ 32 ≤ p0)) (va_A [(x, .inr (5, [.ref a1, .ref a2, .ref a3, .ref a4])), (a1, wT tC 5 fs), (a4, wS tC 5 gf), (f, .inr (3, [.ref e1, .ref e2, .int 5, .int 0])), (e1, wI tC 0 z1), ((qs 0), .inr (4, [.int 0, .int 1, .ref f, .int 0, .int (-1), .null, .int (-1), .null])), ((qs 1), .inr (4, [.int 1, .int 1, .ref f, .int 0, .int (-1), .null, .int (-1), .null])), ((qs 2), .inr (4, [.int 2, .int 1, .ref f, .int 0, .int (-1), .null, .int (-1), .null])), ((qs 3), .inr (4, [.int 3, .int 1, .ref f, .int 0, .int (-1), .null, .int (-1), .null])), ((qs 4), .inr (4, [.int 4, .int 1, .ref f, .int 0, .int (-1), .null, .int (-1), .null]))] sz)) 1 6 (va_A [(x, .inr (5, [.ref a1, .ref a2, .ref a3, .ref a4])), (a1, wT tC 5 fs), (a4, wS tC 5 gf), (f, .inr (3, [.ref e1, .ref e2, .int 5, .int 0])), (e1, wI tC 0 z1), ((qs 0), .inr (4, [.int 0, .int 1, .ref f, .int 0, .int (-1), .null, .int (-1), .null])), ((qs 1), .inr (4, [.int 1, .int 1, .ref f, .int 0, .int (-1), .null, .int (-1), .null])), ((qs 2), .inr (4, [.int 2, .int 1, .ref f, .int 0, .int (-1), .null, .int (-1), .null])), ((qs 3), .inr (4, [.int 3, .int 1, .ref f, .int 0, .int (-1), .null, .int (-1), .null])), ((qs 4), .inr (4, [.int 4, .int 1, .ref f, .int 0, .int (-1), .null, .int (-1), .null]))] sz) := by
  refine vx_ofW (cc := cX4_allowed) (maxL := 4) (ret := (some .boolean)) (by decide) rfl ?_
  intro p e s m args below meth c s₁ B hml hnx hv
  obtain ⟨rfl, hsz, hP, hK, hD0, hN, hE⟩ := hv
  have hx := B.exec
  have hb := B.bytes
  have hr := B.returns
  have hts := atoms_spec (ws := wsX4_allowed) B.pre
  have hown : s.vm.findClass RX4 = some m.cls := findClass_of_methodNamed B.named
  have hlocks := B.notSynchronized
  subst hsz
  have hD := hD0.self (sz := s.heap.size)
  generalize hAe : va_A [(x, .inr (5, [.ref a1, .ref a2, .ref a3, .ref a4])), (a1, wT tC 5 fs), (a4, wS tC 5 gf), (f, .inr (3, [.ref e1, .ref e2, .int 5, .int 0])), (e1, wI tC 0 z1), ((qs 0), .inr (4, [.int 0, .int 1, .ref f, .int 0, .int (-1), .null, .int (-1), .null])), ((qs 1), .inr (4, [.int 1, .int 1, .ref f, .int 0, .int (-1), .null, .int (-1), .null])), ((qs 2), .inr (4, [.int 2, .int 1, .ref f, .int 0, .int (-1), .null, .int (-1), .null])), ((qs 3), .inr (4, [.int 3, .int 1, .ref f, .int 0, .int (-1), .null, .int (-1), .null])), ((qs 4), .inr (4, [.int 4, .int 1, .ref f, .int 0, .int (-1), .null, .int (-1), .null]))] s.heap.size = A at hD hE ⊢
  have hA : ∀ q : Nat, s.heap.size ≤ q → A q := fun q h => by rw [← hAe]; exact Or.inr h
  have hS : va_S A s.heap s.heap [] := va_S.rf
  have hP : va_P D vwCl [(x, .inr (5, [.ref a1, .ref a2, .ref a3, .ref a4])), (a1, wT tC 5 fs), (a4, wS tC 5 gf), (f, .inr (3, [.ref e1, .ref e2, .int 5, .int 0])), (e1, wI tC 0 z1), ((qs 0), .inr (4, [.int 0, .int 1, .ref f, .int 0, .int (-1), .null, .int (-1), .null])), ((qs 1), .inr (4, [.int 1, .int 1, .ref f, .int 0, .int (-1), .null, .int (-1), .null])), ((qs 2), .inr (4, [.int 2, .int 1, .ref f, .int 0, .int (-1), .null, .int (-1), .null])), ((qs 3), .inr (4, [.int 3, .int 1, .ref f, .int 0, .int (-1), .null, .int (-1), .null])), ((qs 4), .inr (4, [.int 4, .int 1, .ref f, .int 0, .int (-1), .null, .int (-1), .null]))] s.heap := hP
  have hl := lv_entry ([.ref x, .int p0]) (n := 4) (Nat.le_of_ble_eq_true rfl)
  rw [lg_entry_eq]
  generalize (lg_sl ([.ref x, .int p0]) ++ List.replicate (4 - (lg_sl ([.ref x, .int p0])).length) Slot.unset).toArray = ls at hl ⊢
  have hl : lv_has ls 4 [(0, .ref x), (1, .int p0)] := hl
  have w_0 := hts (.fieldLink RX4 28 "NoticeStations" "asIfGranted" "[LNoticeStations$Standing;") (by decide +kernel)
  have w_1 := hts (.fieldLink RX4 11 "NoticeStations" "stations" "[LNoticeStations$Station;") (by decide +kernel)
  have w_2 := hts (.initialized RX3) (by decide +kernel)
  have w_3 := hts (.instanceMethod yX3_isFree) (by decide +kernel)
  have w_4 := hts (.selects RX3 yX3_isFree yX3_isFree) (by decide +kernel)
  have w_5 := hts (.classLink RX4 50 "java/lang/IllegalArgumentException") (by decide +kernel)
  have w_6 := hts (.initialized "java/lang/IllegalArgumentException") (by decide +kernel)
  refine lv_iload_n hx hb dX4_allowed_0 rfl (lv_at hl 1 rfl) ?_
  refine lv_bipush (v := 32) hx hb dX4_allowed_1 (by decide) ?_
  have hPc := hP.sub (ws' := []) [] rfl
  have hDc := hD.sub (ws' := []) [] (by decide) rfl
  have hFc := va_free (wc := []) hD hS hA [] rfl
  refine va_calli (va_runS (As := [.int p0, .int 32]) (rest := []) ⟨hx, hb, hml, hown, hts⟩ (c_X4_isBelow l hlt D tC dz s.heap.size p0 32 ) (va_cwS 2 hts gX4_allowed_X4_isBelow rfl rfl rfl (by decide +kernel) ⟨Nat.le_of_ble_eq_true rfl, Nat.le_of_ble_eq_true rfl⟩) ⟨pB_blind, pB_at hPc hDc hK hN hE hS hFc⟩ rfl rfl hl.1 rfl (lv_room (Nat.le_of_ble_eq_true rfl)) dX4_allowed_3 ⟨Nat.le_of_ble_eq_true rfl, Nat.le_of_ble_eq_true rfl⟩) hS (fun q _ h => hFc q h) hFc (fun r_1 u t H1 locs ht hvm hw hB hz1 hk1 hS => ?_)
  obtain ⟨hP1, _, hD1⟩ := hB
  have hw_2 := hw
  rw [ht] at hP1
  obtain ⟨hP, hD⟩ := va_join (wr := [(x, .inr (5, [.ref a1, .ref a2, .ref a3, .ref a4])), (a1, wT tC 5 fs), (a4, wS tC 5 gf), (f, .inr (3, [.ref e1, .ref e2, .int 5, .int 0])), (e1, wI tC 0 z1), ((qs 0), .inr (4, [.int 0, .int 1, .ref f, .int 0, .int (-1), .null, .int (-1), .null])), ((qs 1), .inr (4, [.int 1, .int 1, .ref f, .int 0, .int (-1), .null, .int (-1), .null])), ((qs 2), .inr (4, [.int 2, .int 1, .ref f, .int 0, .int (-1), .null, .int (-1), .null])), ((qs 3), .inr (4, [.int 3, .int 1, .ref f, .int 0, .int (-1), .null, .int (-1), .null])), ((qs 4), .inr (4, [.int 4, .int 1, .ref f, .int 0, .int (-1), .null, .int (-1), .null]))]) (w1 := []) hP hD [] [0, 1, 2, 3, 4, 5, 6, 7, 8, 9] rfl rfl (by decide) (by decide) hk1 hFc hP1 hD1
  generalize H1 = H at hP hS ⊢
  have hP : va_P D vwCl [(x, .inr (5, [.ref a1, .ref a2, .ref a3, .ref a4])), (a1, wT tC 5 fs), (a4, wS tC 5 gf), (f, .inr (3, [.ref e1, .ref e2, .int 5, .int 0])), (e1, wI tC 0 z1), ((qs 0), .inr (4, [.int 0, .int 1, .ref f, .int 0, .int (-1), .null, .int (-1), .null])), ((qs 1), .inr (4, [.int 1, .int 1, .ref f, .int 0, .int (-1), .null, .int (-1), .null])), ((qs 2), .inr (4, [.int 2, .int 1, .ref f, .int 0, .int (-1), .null, .int (-1), .null])), ((qs 3), .inr (4, [.int 3, .int 1, .ref f, .int 0, .int (-1), .null, .int (-1), .null])), ((qs 4), .inr (4, [.int 4, .int 1, .ref f, .int 0, .int (-1), .null, .int (-1), .null]))] H := hP
  have hD : va_D A [(x, .inr (5, [.ref a1, .ref a2, .ref a3, .ref a4])), (a1, wT tC 5 fs), (a4, wS tC 5 gf), (f, .inr (3, [.ref e1, .ref e2, .int 5, .int 0])), (e1, wI tC 0 z1), ((qs 0), .inr (4, [.int 0, .int 1, .ref f, .int 0, .int (-1), .null, .int (-1), .null])), ((qs 1), .inr (4, [.int 1, .int 1, .ref f, .int 0, .int (-1), .null, .int (-1), .null])), ((qs 2), .inr (4, [.int 2, .int 1, .ref f, .int 0, .int (-1), .null, .int (-1), .null])), ((qs 3), .inr (4, [.int 3, .int 1, .ref f, .int 0, .int (-1), .null, .int (-1), .null])), ((qs 4), .inr (4, [.int 4, .int 1, .ref f, .int 0, .int (-1), .null, .int (-1), .null]))] := hD
  refine lv_if_ne (tgt := 19) hx hb dX4_allowed_6 (by decide) (fun c_3 => ?_) (fun c_3 => ?_)
  · skip
    refine lv_iconst (v := 0) hx hb dX4_allowed_19 (by decide) ?_
    refine lv_istore_n (lv' := [(2, .int 0), (0, .ref x), (1, .int p0)]) hx hb dX4_allowed_20 rfl hl (by decide) rfl (fun ls hl => ?_)
    refine lv_iload_n hx hb dX4_allowed_21 rfl (lv_at hl 0 rfl) ?_
    refine lv_iconst (v := 5) hx hb dX4_allowed_22 (by decide) ?_
    refine lv_icmp_ge (tgt := 87) hx hb dX4_allowed_23 (by decide) (fun hc => absurd hc (by decide)) (fun _ => ?_)
    refine lv_iload_n hx hb dX4_allowed_26 rfl (lv_at hl 2 rfl) ?_
    refine lv_iconst (v := 1) hx hb dX4_allowed_27 (by decide) ?_
    refine lv_iload_n hx hb dX4_allowed_28 rfl (lv_at hl 0 rfl) ?_
    refine lv_ishl hx hb dX4_allowed_29 ?_
    refine lv_topi (fun z_4 ez_4 => ?_)
    have fz_4 : z_4 = 1 := ez_4.trans (by decide)
    subst fz_4
    refine lv_iand hx hb dX4_allowed_30 ?_
    refine lv_topi (fun z_5 ez_5 => ?_)
    refine lv_if_eq (tgt := 38) hx hb dX4_allowed_31 (by decide) (fun c_6 => ?_) (fun c_6 => ?_)
    · skip
      have hb0 : bqb p0 0 = false := bqF (ez_5.symm.trans c_6)
      refine lv_iconst (v := 0) hx hb dX4_allowed_38 (by decide) ?_
      refine lv_istore_n (lv' := [(3, .int 0), (2, .int 0), (0, .ref x), (1, .int p0)]) hx hb dX4_allowed_39 rfl hl (by decide) rfl (fun ls hl => ?_)
      refine lv_iload_n hx hb dX4_allowed_40 rfl (lv_at hl 0 rfl) ?_
      refine lv_if_eq (tgt := 58) hx hb dX4_allowed_41 (by decide) (fun _ => ?_) (fun hc => absurd (by decide) hc)
      refine lv_aload_n hx hb dX4_allowed_58 rfl (lv_at hl 2 rfl) ?_
      refine va_get (D := D) (ci := 5) (v := .ref a4) (C := RX4) (T := TX4) (N := 4) hx hb hts in_X4_allowed_X4 hown hK hP 0 rfl rfl 3 (by decide) w_0 (fun _ h9 => h9) rfl dX4_allowed_59 ?_
      refine lv_iload_n hx hb dX4_allowed_62 rfl (lv_at hl 1 rfl) ?_
      refine lv_iload_n hx hb dX4_allowed_63 rfl (lv_at hl 0 rfl) ?_
      refine lv_if_eq (tgt := 79) hx hb dX4_allowed_64 (by decide) (fun _ => ?_) (fun hc => absurd (by decide) hc)
      refine lv_null hx hb dX4_allowed_79 ?_
      refine va_astqN hx hb hK hP hD hS 2 2 rfl rfl (by unfold vp_in; decide) dX4_allowed_80 (fun H locs hP hD hS => ?_)
      have hP : va_P D vwCl [(x, .inr (5, [.ref a1, .ref a2, .ref a3, .ref a4])), (a1, wT tC 5 fs), (a4, wS tC 5 (va_up gf 0 none)), (f, .inr (3, [.ref e1, .ref e2, .int 5, .int 0])), (e1, wI tC 0 z1), ((qs 0), .inr (4, [.int 0, .int 1, .ref f, .int 0, .int (-1), .null, .int (-1), .null])), ((qs 1), .inr (4, [.int 1, .int 1, .ref f, .int 0, .int (-1), .null, .int (-1), .null])), ((qs 2), .inr (4, [.int 2, .int 1, .ref f, .int 0, .int (-1), .null, .int (-1), .null])), ((qs 3), .inr (4, [.int 3, .int 1, .ref f, .int 0, .int (-1), .null, .int (-1), .null])), ((qs 4), .inr (4, [.int 4, .int 1, .ref f, .int 0, .int (-1), .null, .int (-1), .null]))] H := hP
      have hD : va_D A [(x, .inr (5, [.ref a1, .ref a2, .ref a3, .ref a4])), (a1, wT tC 5 fs), (a4, wS tC 5 (va_up gf 0 none)), (f, .inr (3, [.ref e1, .ref e2, .int 5, .int 0])), (e1, wI tC 0 z1), ((qs 0), .inr (4, [.int 0, .int 1, .ref f, .int 0, .int (-1), .null, .int (-1), .null])), ((qs 1), .inr (4, [.int 1, .int 1, .ref f, .int 0, .int (-1), .null, .int (-1), .null])), ((qs 2), .inr (4, [.int 2, .int 1, .ref f, .int 0, .int (-1), .null, .int (-1), .null])), ((qs 3), .inr (4, [.int 3, .int 1, .ref f, .int 0, .int (-1), .null, .int (-1), .null])), ((qs 4), .inr (4, [.int 4, .int 1, .ref f, .int 0, .int (-1), .null, .int (-1), .null]))] := hD
      refine lv_iinc (v := 1) (lv' := [(2, .int 1), (3, .int 0), (0, .ref x), (1, .int p0)]) hx hb dX4_allowed_81 hl (k := 1) rfl (by decide) (by decide) rfl (fun ls hl => ?_)
      refine lv_goto (tgt := 21) hx hb dX4_allowed_84 (by decide) ?_
      refine lv_iload_n hx hb dX4_allowed_21 rfl (lv_at hl 0 rfl) ?_
      refine lv_iconst (v := 5) hx hb dX4_allowed_22 (by decide) ?_
      refine lv_icmp_ge (tgt := 87) hx hb dX4_allowed_23 (by decide) (fun hc => absurd hc (by decide)) (fun _ => ?_)
      refine lv_iload_n hx hb dX4_allowed_26 rfl (lv_at hl 3 rfl) ?_
      refine lv_iconst (v := 1) hx hb dX4_allowed_27 (by decide) ?_
      refine lv_iload_n hx hb dX4_allowed_28 rfl (lv_at hl 0 rfl) ?_
      refine lv_ishl hx hb dX4_allowed_29 ?_
      refine lv_topi (fun z_7 ez_7 => ?_)
      have fz_7 : z_7 = 2 := ez_7.trans (by decide)
      subst fz_7
      refine lv_iand hx hb dX4_allowed_30 ?_
      refine lv_topi (fun z_8 ez_8 => ?_)
      refine lv_if_eq (tgt := 38) hx hb dX4_allowed_31 (by decide) (fun c_9 => ?_) (fun c_9 => ?_)
      · skip
        have hb1 : bqb p0 1 = false := bqF (ez_8.symm.trans c_9)
        refine lv_iconst (v := 0) hx hb dX4_allowed_38 (by decide) ?_
        refine lv_istore_n (lv' := [(3, .int 0), (2, .int 1), (0, .ref x), (1, .int p0)]) hx hb dX4_allowed_39 rfl hl (by decide) rfl (fun ls hl => ?_)
        refine lv_iload_n hx hb dX4_allowed_40 rfl (lv_at hl 0 rfl) ?_
        refine lv_if_eq (tgt := 58) hx hb dX4_allowed_41 (by decide) (fun _ => ?_) (fun hc => absurd (by decide) hc)
        refine lv_aload_n hx hb dX4_allowed_58 rfl (lv_at hl 2 rfl) ?_
        refine va_get (D := D) (ci := 5) (v := .ref a4) (C := RX4) (T := TX4) (N := 4) hx hb hts in_X4_allowed_X4 hown hK hP 0 rfl rfl 3 (by decide) w_0 (fun _ h9 => h9) rfl dX4_allowed_59 ?_
        refine lv_iload_n hx hb dX4_allowed_62 rfl (lv_at hl 1 rfl) ?_
        refine lv_iload_n hx hb dX4_allowed_63 rfl (lv_at hl 0 rfl) ?_
        refine lv_if_eq (tgt := 79) hx hb dX4_allowed_64 (by decide) (fun _ => ?_) (fun hc => absurd (by decide) hc)
        refine lv_null hx hb dX4_allowed_79 ?_
        refine va_astqN hx hb hK hP hD hS 2 2 rfl rfl (by unfold vp_in; decide) dX4_allowed_80 (fun H locs hP hD hS => ?_)
        have hP : va_P D vwCl [(x, .inr (5, [.ref a1, .ref a2, .ref a3, .ref a4])), (a1, wT tC 5 fs), (a4, wS tC 5 (va_up (va_up gf 0 none) 1 none)), (f, .inr (3, [.ref e1, .ref e2, .int 5, .int 0])), (e1, wI tC 0 z1), ((qs 0), .inr (4, [.int 0, .int 1, .ref f, .int 0, .int (-1), .null, .int (-1), .null])), ((qs 1), .inr (4, [.int 1, .int 1, .ref f, .int 0, .int (-1), .null, .int (-1), .null])), ((qs 2), .inr (4, [.int 2, .int 1, .ref f, .int 0, .int (-1), .null, .int (-1), .null])), ((qs 3), .inr (4, [.int 3, .int 1, .ref f, .int 0, .int (-1), .null, .int (-1), .null])), ((qs 4), .inr (4, [.int 4, .int 1, .ref f, .int 0, .int (-1), .null, .int (-1), .null]))] H := hP
        have hD : va_D A [(x, .inr (5, [.ref a1, .ref a2, .ref a3, .ref a4])), (a1, wT tC 5 fs), (a4, wS tC 5 (va_up (va_up gf 0 none) 1 none)), (f, .inr (3, [.ref e1, .ref e2, .int 5, .int 0])), (e1, wI tC 0 z1), ((qs 0), .inr (4, [.int 0, .int 1, .ref f, .int 0, .int (-1), .null, .int (-1), .null])), ((qs 1), .inr (4, [.int 1, .int 1, .ref f, .int 0, .int (-1), .null, .int (-1), .null])), ((qs 2), .inr (4, [.int 2, .int 1, .ref f, .int 0, .int (-1), .null, .int (-1), .null])), ((qs 3), .inr (4, [.int 3, .int 1, .ref f, .int 0, .int (-1), .null, .int (-1), .null])), ((qs 4), .inr (4, [.int 4, .int 1, .ref f, .int 0, .int (-1), .null, .int (-1), .null]))] := hD
        refine lv_iinc (v := 2) (lv' := [(2, .int 2), (3, .int 0), (0, .ref x), (1, .int p0)]) hx hb dX4_allowed_81 hl (k := 1) rfl (by decide) (by decide) rfl (fun ls hl => ?_)
        refine lv_goto (tgt := 21) hx hb dX4_allowed_84 (by decide) ?_
        refine lv_iload_n hx hb dX4_allowed_21 rfl (lv_at hl 0 rfl) ?_
        refine lv_iconst (v := 5) hx hb dX4_allowed_22 (by decide) ?_
        refine lv_icmp_ge (tgt := 87) hx hb dX4_allowed_23 (by decide) (fun hc => absurd hc (by decide)) (fun _ => ?_)
        refine lv_iload_n hx hb dX4_allowed_26 rfl (lv_at hl 3 rfl) ?_
        refine lv_iconst (v := 1) hx hb dX4_allowed_27 (by decide) ?_
        refine lv_iload_n hx hb dX4_allowed_28 rfl (lv_at hl 0 rfl) ?_
        refine lv_ishl hx hb dX4_allowed_29 ?_
        refine lv_topi (fun z_10 ez_10 => ?_)
        have fz_10 : z_10 = 4 := ez_10.trans (by decide)
        subst fz_10
        refine lv_iand hx hb dX4_allowed_30 ?_
        refine lv_topi (fun z_11 ez_11 => ?_)
        refine lv_if_eq (tgt := 38) hx hb dX4_allowed_31 (by decide) (fun c_12 => ?_) (fun c_12 => ?_)
        · skip
          have hb2 : bqb p0 2 = false := bqF (ez_11.symm.trans c_12)
          refine lv_iconst (v := 0) hx hb dX4_allowed_38 (by decide) ?_
          refine lv_istore_n (lv' := [(3, .int 0), (2, .int 2), (0, .ref x), (1, .int p0)]) hx hb dX4_allowed_39 rfl hl (by decide) rfl (fun ls hl => ?_)
          refine lv_iload_n hx hb dX4_allowed_40 rfl (lv_at hl 0 rfl) ?_
          refine lv_if_eq (tgt := 58) hx hb dX4_allowed_41 (by decide) (fun _ => ?_) (fun hc => absurd (by decide) hc)
          refine lv_aload_n hx hb dX4_allowed_58 rfl (lv_at hl 2 rfl) ?_
          refine va_get (D := D) (ci := 5) (v := .ref a4) (C := RX4) (T := TX4) (N := 4) hx hb hts in_X4_allowed_X4 hown hK hP 0 rfl rfl 3 (by decide) w_0 (fun _ h9 => h9) rfl dX4_allowed_59 ?_
          refine lv_iload_n hx hb dX4_allowed_62 rfl (lv_at hl 1 rfl) ?_
          refine lv_iload_n hx hb dX4_allowed_63 rfl (lv_at hl 0 rfl) ?_
          refine lv_if_eq (tgt := 79) hx hb dX4_allowed_64 (by decide) (fun _ => ?_) (fun hc => absurd (by decide) hc)
          refine lv_null hx hb dX4_allowed_79 ?_
          refine va_astqN hx hb hK hP hD hS 2 2 rfl rfl (by unfold vp_in; decide) dX4_allowed_80 (fun H locs hP hD hS => ?_)
          have hP : va_P D vwCl [(x, .inr (5, [.ref a1, .ref a2, .ref a3, .ref a4])), (a1, wT tC 5 fs), (a4, wS tC 5 (va_up (va_up (va_up gf 0 none) 1 none) 2 none)), (f, .inr (3, [.ref e1, .ref e2, .int 5, .int 0])), (e1, wI tC 0 z1), ((qs 0), .inr (4, [.int 0, .int 1, .ref f, .int 0, .int (-1), .null, .int (-1), .null])), ((qs 1), .inr (4, [.int 1, .int 1, .ref f, .int 0, .int (-1), .null, .int (-1), .null])), ((qs 2), .inr (4, [.int 2, .int 1, .ref f, .int 0, .int (-1), .null, .int (-1), .null])), ((qs 3), .inr (4, [.int 3, .int 1, .ref f, .int 0, .int (-1), .null, .int (-1), .null])), ((qs 4), .inr (4, [.int 4, .int 1, .ref f, .int 0, .int (-1), .null, .int (-1), .null]))] H := hP
          have hD : va_D A [(x, .inr (5, [.ref a1, .ref a2, .ref a3, .ref a4])), (a1, wT tC 5 fs), (a4, wS tC 5 (va_up (va_up (va_up gf 0 none) 1 none) 2 none)), (f, .inr (3, [.ref e1, .ref e2, .int 5, .int 0])), (e1, wI tC 0 z1), ((qs 0), .inr (4, [.int 0, .int 1, .ref f, .int 0, .int (-1), .null, .int (-1), .null])), ((qs 1), .inr (4, [.int 1, .int 1, .ref f, .int 0, .int (-1), .null, .int (-1), .null])), ((qs 2), .inr (4, [.int 2, .int 1, .ref f, .int 0, .int (-1), .null, .int (-1), .null])), ((qs 3), .inr (4, [.int 3, .int 1, .ref f, .int 0, .int (-1), .null, .int (-1), .null])), ((qs 4), .inr (4, [.int 4, .int 1, .ref f, .int 0, .int (-1), .null, .int (-1), .null]))] := hD
          refine lv_iinc (v := 3) (lv' := [(2, .int 3), (3, .int 0), (0, .ref x), (1, .int p0)]) hx hb dX4_allowed_81 hl (k := 1) rfl (by decide) (by decide) rfl (fun ls hl => ?_)
          refine lv_goto (tgt := 21) hx hb dX4_allowed_84 (by decide) ?_
          refine lv_iload_n hx hb dX4_allowed_21 rfl (lv_at hl 0 rfl) ?_
          refine lv_iconst (v := 5) hx hb dX4_allowed_22 (by decide) ?_
          refine lv_icmp_ge (tgt := 87) hx hb dX4_allowed_23 (by decide) (fun hc => absurd hc (by decide)) (fun _ => ?_)
          refine lv_iload_n hx hb dX4_allowed_26 rfl (lv_at hl 3 rfl) ?_
          refine lv_iconst (v := 1) hx hb dX4_allowed_27 (by decide) ?_
          refine lv_iload_n hx hb dX4_allowed_28 rfl (lv_at hl 0 rfl) ?_
          refine lv_ishl hx hb dX4_allowed_29 ?_
          refine lv_topi (fun z_13 ez_13 => ?_)
          have fz_13 : z_13 = 8 := ez_13.trans (by decide)
          subst fz_13
          refine lv_iand hx hb dX4_allowed_30 ?_
          refine lv_topi (fun z_14 ez_14 => ?_)
          refine lv_if_eq (tgt := 38) hx hb dX4_allowed_31 (by decide) (fun c_15 => ?_) (fun c_15 => ?_)
          · skip
            have hb3 : bqb p0 3 = false := bqF (ez_14.symm.trans c_15)
            refine lv_iconst (v := 0) hx hb dX4_allowed_38 (by decide) ?_
            refine lv_istore_n (lv' := [(3, .int 0), (2, .int 3), (0, .ref x), (1, .int p0)]) hx hb dX4_allowed_39 rfl hl (by decide) rfl (fun ls hl => ?_)
            refine lv_iload_n hx hb dX4_allowed_40 rfl (lv_at hl 0 rfl) ?_
            refine lv_if_eq (tgt := 58) hx hb dX4_allowed_41 (by decide) (fun _ => ?_) (fun hc => absurd (by decide) hc)
            refine lv_aload_n hx hb dX4_allowed_58 rfl (lv_at hl 2 rfl) ?_
            refine va_get (D := D) (ci := 5) (v := .ref a4) (C := RX4) (T := TX4) (N := 4) hx hb hts in_X4_allowed_X4 hown hK hP 0 rfl rfl 3 (by decide) w_0 (fun _ h9 => h9) rfl dX4_allowed_59 ?_
            refine lv_iload_n hx hb dX4_allowed_62 rfl (lv_at hl 1 rfl) ?_
            refine lv_iload_n hx hb dX4_allowed_63 rfl (lv_at hl 0 rfl) ?_
            refine lv_if_eq (tgt := 79) hx hb dX4_allowed_64 (by decide) (fun _ => ?_) (fun hc => absurd (by decide) hc)
            refine lv_null hx hb dX4_allowed_79 ?_
            refine va_astqN hx hb hK hP hD hS 2 2 rfl rfl (by unfold vp_in; decide) dX4_allowed_80 (fun H locs hP hD hS => ?_)
            have hP : va_P D vwCl [(x, .inr (5, [.ref a1, .ref a2, .ref a3, .ref a4])), (a1, wT tC 5 fs), (a4, wS tC 5 (va_up (va_up (va_up (va_up gf 0 none) 1 none) 2 none) 3 none)), (f, .inr (3, [.ref e1, .ref e2, .int 5, .int 0])), (e1, wI tC 0 z1), ((qs 0), .inr (4, [.int 0, .int 1, .ref f, .int 0, .int (-1), .null, .int (-1), .null])), ((qs 1), .inr (4, [.int 1, .int 1, .ref f, .int 0, .int (-1), .null, .int (-1), .null])), ((qs 2), .inr (4, [.int 2, .int 1, .ref f, .int 0, .int (-1), .null, .int (-1), .null])), ((qs 3), .inr (4, [.int 3, .int 1, .ref f, .int 0, .int (-1), .null, .int (-1), .null])), ((qs 4), .inr (4, [.int 4, .int 1, .ref f, .int 0, .int (-1), .null, .int (-1), .null]))] H := hP
            have hD : va_D A [(x, .inr (5, [.ref a1, .ref a2, .ref a3, .ref a4])), (a1, wT tC 5 fs), (a4, wS tC 5 (va_up (va_up (va_up (va_up gf 0 none) 1 none) 2 none) 3 none)), (f, .inr (3, [.ref e1, .ref e2, .int 5, .int 0])), (e1, wI tC 0 z1), ((qs 0), .inr (4, [.int 0, .int 1, .ref f, .int 0, .int (-1), .null, .int (-1), .null])), ((qs 1), .inr (4, [.int 1, .int 1, .ref f, .int 0, .int (-1), .null, .int (-1), .null])), ((qs 2), .inr (4, [.int 2, .int 1, .ref f, .int 0, .int (-1), .null, .int (-1), .null])), ((qs 3), .inr (4, [.int 3, .int 1, .ref f, .int 0, .int (-1), .null, .int (-1), .null])), ((qs 4), .inr (4, [.int 4, .int 1, .ref f, .int 0, .int (-1), .null, .int (-1), .null]))] := hD
            refine lv_iinc (v := 4) (lv' := [(2, .int 4), (3, .int 0), (0, .ref x), (1, .int p0)]) hx hb dX4_allowed_81 hl (k := 1) rfl (by decide) (by decide) rfl (fun ls hl => ?_)
            refine lv_goto (tgt := 21) hx hb dX4_allowed_84 (by decide) ?_
            refine lv_iload_n hx hb dX4_allowed_21 rfl (lv_at hl 0 rfl) ?_
            refine lv_iconst (v := 5) hx hb dX4_allowed_22 (by decide) ?_
            refine lv_icmp_ge (tgt := 87) hx hb dX4_allowed_23 (by decide) (fun hc => absurd hc (by decide)) (fun _ => ?_)
            refine lv_iload_n hx hb dX4_allowed_26 rfl (lv_at hl 3 rfl) ?_
            refine lv_iconst (v := 1) hx hb dX4_allowed_27 (by decide) ?_
            refine lv_iload_n hx hb dX4_allowed_28 rfl (lv_at hl 0 rfl) ?_
            refine lv_ishl hx hb dX4_allowed_29 ?_
            refine lv_topi (fun z_16 ez_16 => ?_)
            have fz_16 : z_16 = 16 := ez_16.trans (by decide)
            subst fz_16
            refine lv_iand hx hb dX4_allowed_30 ?_
            refine lv_topi (fun z_17 ez_17 => ?_)
            refine lv_if_eq (tgt := 38) hx hb dX4_allowed_31 (by decide) (fun c_18 => ?_) (fun c_18 => ?_)
            · skip
              have hb4 : bqb p0 4 = false := bqF (ez_17.symm.trans c_18)
              refine lv_iconst (v := 0) hx hb dX4_allowed_38 (by decide) ?_
              refine lv_istore_n (lv' := [(3, .int 0), (2, .int 4), (0, .ref x), (1, .int p0)]) hx hb dX4_allowed_39 rfl hl (by decide) rfl (fun ls hl => ?_)
              refine lv_iload_n hx hb dX4_allowed_40 rfl (lv_at hl 0 rfl) ?_
              refine lv_if_eq (tgt := 58) hx hb dX4_allowed_41 (by decide) (fun _ => ?_) (fun hc => absurd (by decide) hc)
              refine lv_aload_n hx hb dX4_allowed_58 rfl (lv_at hl 2 rfl) ?_
              refine va_get (D := D) (ci := 5) (v := .ref a4) (C := RX4) (T := TX4) (N := 4) hx hb hts in_X4_allowed_X4 hown hK hP 0 rfl rfl 3 (by decide) w_0 (fun _ h9 => h9) rfl dX4_allowed_59 ?_
              refine lv_iload_n hx hb dX4_allowed_62 rfl (lv_at hl 1 rfl) ?_
              refine lv_iload_n hx hb dX4_allowed_63 rfl (lv_at hl 0 rfl) ?_
              refine lv_if_eq (tgt := 79) hx hb dX4_allowed_64 (by decide) (fun _ => ?_) (fun hc => absurd (by decide) hc)
              refine lv_null hx hb dX4_allowed_79 ?_
              refine va_astqN hx hb hK hP hD hS 2 2 rfl rfl (by unfold vp_in; decide) dX4_allowed_80 (fun H locs hP hD hS => ?_)
              have hP : va_P D vwCl [(x, .inr (5, [.ref a1, .ref a2, .ref a3, .ref a4])), (a1, wT tC 5 fs), (a4, wS tC 5 (va_up (va_up (va_up (va_up (va_up gf 0 none) 1 none) 2 none) 3 none) 4 none)), (f, .inr (3, [.ref e1, .ref e2, .int 5, .int 0])), (e1, wI tC 0 z1), ((qs 0), .inr (4, [.int 0, .int 1, .ref f, .int 0, .int (-1), .null, .int (-1), .null])), ((qs 1), .inr (4, [.int 1, .int 1, .ref f, .int 0, .int (-1), .null, .int (-1), .null])), ((qs 2), .inr (4, [.int 2, .int 1, .ref f, .int 0, .int (-1), .null, .int (-1), .null])), ((qs 3), .inr (4, [.int 3, .int 1, .ref f, .int 0, .int (-1), .null, .int (-1), .null])), ((qs 4), .inr (4, [.int 4, .int 1, .ref f, .int 0, .int (-1), .null, .int (-1), .null]))] H := hP
              have hD : va_D A [(x, .inr (5, [.ref a1, .ref a2, .ref a3, .ref a4])), (a1, wT tC 5 fs), (a4, wS tC 5 (va_up (va_up (va_up (va_up (va_up gf 0 none) 1 none) 2 none) 3 none) 4 none)), (f, .inr (3, [.ref e1, .ref e2, .int 5, .int 0])), (e1, wI tC 0 z1), ((qs 0), .inr (4, [.int 0, .int 1, .ref f, .int 0, .int (-1), .null, .int (-1), .null])), ((qs 1), .inr (4, [.int 1, .int 1, .ref f, .int 0, .int (-1), .null, .int (-1), .null])), ((qs 2), .inr (4, [.int 2, .int 1, .ref f, .int 0, .int (-1), .null, .int (-1), .null])), ((qs 3), .inr (4, [.int 3, .int 1, .ref f, .int 0, .int (-1), .null, .int (-1), .null])), ((qs 4), .inr (4, [.int 4, .int 1, .ref f, .int 0, .int (-1), .null, .int (-1), .null]))] := hD
              refine lv_iinc (v := 5) (lv' := [(2, .int 5), (3, .int 0), (0, .ref x), (1, .int p0)]) hx hb dX4_allowed_81 hl (k := 1) rfl (by decide) (by decide) rfl (fun ls hl => ?_)
              refine lv_goto (tgt := 21) hx hb dX4_allowed_84 (by decide) ?_
              refine lv_iload_n hx hb dX4_allowed_21 rfl (lv_at hl 0 rfl) ?_
              refine lv_iconst (v := 5) hx hb dX4_allowed_22 (by decide) ?_
              refine lv_icmp_ge (tgt := 87) hx hb dX4_allowed_23 (by decide) (fun _ => ?_) (fun hc => absurd (by decide) hc)
              refine lv_aload_n hx hb dX4_allowed_87 rfl (lv_at hl 2 rfl) ?_
              refine va_get (D := D) (ci := 5) (v := .ref a4) (C := RX4) (T := TX4) (N := 4) hx hb hts in_X4_allowed_X4 hown hK hP 0 rfl rfl 3 (by decide) w_0 (fun _ h9 => h9) rfl dX4_allowed_88 ?_
              have hPc := hP.sub (ws' := [(a4, wS tC 5 (va_up (va_up (va_up (va_up (va_up gf 0 none) 1 none) 2 none) 3 none) 4 none)), (f, .inr (3, [.ref e1, .ref e2, .int 5, .int 0])), (e1, wI tC 0 z1)]) [2, 3, 4] rfl
              have hDc := hD.sub (ws' := [(a4, wS tC 5 (va_up (va_up (va_up (va_up (va_up gf 0 none) 1 none) 2 none) 3 none) 4 none)), (f, .inr (3, [.ref e1, .ref e2, .int 5, .int 0])), (e1, wI tC 0 z1)]) [2, 3, 4] (by decide) rfl
              have hFc := va_free (wc := [(a4, wS tC 5 (va_up (va_up (va_up (va_up (va_up gf 0 none) 1 none) 2 none) 3 none) 4 none)), (f, .inr (3, [.ref e1, .ref e2, .int 5, .int 0])), (e1, wI tC 0 z1)]) hD hS hA [2, 3, 4] rfl
              refine va_callq (va_runS (As := [.ref a4]) (rest := []) ⟨hx, hb, hml, hown, hts⟩ (c_X4_heldByHolders l hlt D tC dz H.size a4 (va_up (va_up (va_up (va_up (va_up gf 0 none) 1 none) 2 none) 3 none) 4 none) (bqb p0) f e1 e2 z1 (by intro j hj; rcases (show j = 0 ∨ j = 1 ∨ j = 2 ∨ j = 3 ∨ j = 4 by omega) with rfl | rfl | rfl | rfl | rfl <;> simp [va_up, hb0, hb1, hb2, hb3, hb4])) (va_cwS 1 hts gX4_allowed_X4_heldByHolders rfl rfl rfl (by decide +kernel) ⟨Nat.le_of_ble_eq_true rfl, Nat.le_of_ble_eq_true rfl⟩) ⟨pB_blind, pB_at hPc hDc hK hN hE hS hFc⟩ rfl rfl hl.1 rfl (lv_room (Nat.le_of_ble_eq_true rfl)) dX4_allowed_91 ⟨Nat.le_of_ble_eq_true rfl, Nat.le_of_ble_eq_true rfl⟩) hS (fun q _ h => hFc q h) hFc (fun r_19 u t H1 locs ht hvm hw hB hz1 hk1 hS => ?_)
              obtain ⟨hP1, _, hD1⟩ := hB
              have hw_20 := hw
              rw [ht] at hP1
              obtain ⟨hP, hD⟩ := va_join (wr := [(x, .inr (5, [.ref a1, .ref a2, .ref a3, .ref a4])), (a1, wT tC 5 fs), ((qs 0), .inr (4, [.int 0, .int 1, .ref f, .int 0, .int (-1), .null, .int (-1), .null])), ((qs 1), .inr (4, [.int 1, .int 1, .ref f, .int 0, .int (-1), .null, .int (-1), .null])), ((qs 2), .inr (4, [.int 2, .int 1, .ref f, .int 0, .int (-1), .null, .int (-1), .null])), ((qs 3), .inr (4, [.int 3, .int 1, .ref f, .int 0, .int (-1), .null, .int (-1), .null])), ((qs 4), .inr (4, [.int 4, .int 1, .ref f, .int 0, .int (-1), .null, .int (-1), .null]))]) (w1 := [(a4, wS tC 5 (va_up (va_up (va_up (va_up (va_up gf 0 none) 1 none) 2 none) 3 none) 4 none)), (f, .inr (3, [.ref e1, .ref e2, .int 5, .int 0])), (e1, wI tC 0 z1)]) hP hD [2, 3, 4] [0, 1, 5, 6, 7, 8, 9] rfl rfl (by decide) (by decide) hk1 hFc hP1 hD1
              generalize H1 = H at hP hS ⊢
              have hP : va_P D vwCl [(x, .inr (5, [.ref a1, .ref a2, .ref a3, .ref a4])), (a1, wT tC 5 fs), ((qs 0), .inr (4, [.int 0, .int 1, .ref f, .int 0, .int (-1), .null, .int (-1), .null])), ((qs 1), .inr (4, [.int 1, .int 1, .ref f, .int 0, .int (-1), .null, .int (-1), .null])), ((qs 2), .inr (4, [.int 2, .int 1, .ref f, .int 0, .int (-1), .null, .int (-1), .null])), ((qs 3), .inr (4, [.int 3, .int 1, .ref f, .int 0, .int (-1), .null, .int (-1), .null])), ((qs 4), .inr (4, [.int 4, .int 1, .ref f, .int 0, .int (-1), .null, .int (-1), .null])), (a4, wS tC 5 (va_up (va_up (va_up (va_up (va_up gf 0 none) 1 none) 2 none) 3 none) 4 none)), (f, .inr (3, [.ref e1, .ref e2, .int 5, .int 0])), (e1, wI tC 0 z1)] H := hP
              have hD : va_D A [(x, .inr (5, [.ref a1, .ref a2, .ref a3, .ref a4])), (a1, wT tC 5 fs), ((qs 0), .inr (4, [.int 0, .int 1, .ref f, .int 0, .int (-1), .null, .int (-1), .null])), ((qs 1), .inr (4, [.int 1, .int 1, .ref f, .int 0, .int (-1), .null, .int (-1), .null])), ((qs 2), .inr (4, [.int 2, .int 1, .ref f, .int 0, .int (-1), .null, .int (-1), .null])), ((qs 3), .inr (4, [.int 3, .int 1, .ref f, .int 0, .int (-1), .null, .int (-1), .null])), ((qs 4), .inr (4, [.int 4, .int 1, .ref f, .int 0, .int (-1), .null, .int (-1), .null])), (a4, wS tC 5 (va_up (va_up (va_up (va_up (va_up gf 0 none) 1 none) 2 none) 3 none) 4 none)), (f, .inr (3, [.ref e1, .ref e2, .int 5, .int 0])), (e1, wI tC 0 z1)] := hD
              have q1 : r_19 = none := hw_20.trans (by rw [hb0, hb1, hb2, hb3, hb4] <;> rfl)
              subst q1
              refine W.eq (g2 := F0 m 94 ls [.null]) rfl ?_
              refine lv_astore_nN (lv' := [(2, .null), (3, .int 0), (0, .ref x), (1, .int p0)]) hx hb dX4_allowed_94 rfl hl (by decide) rfl (fun ls hl => ?_)
              refine lv_aload_nN hx hb dX4_allowed_95 rfl (lv_at hl 0 rfl) ?_
              refine lv_ifnullN (tgt := 114) hx hb dX4_allowed_96 (by decide) ?_
              refine lv_iconst (v := 0) hx hb dX4_allowed_114 (by decide) ?_
              have hP9 := hP.sub (ws' := []) [] rfl
              have hD9 := hD.sub (ws' := []) [] (by decide) rfl
              refine W.widen (k := 1) (n := 6) (by omega) (by omega) ?_
              exact vx_ret (W.zret (v := 0) hx hb hr (by decide) (fun t ht hW => ⟨⟨0, (), rfl, ⟨(by unfold mayg cntb; rw [hb0, hb1, hb2, hb3, hb4] <;> decide), bl1 hw_2 c_3⟩, (by rw [ht]; exact hP9), va_K.moved hW.alike hK, hD9⟩, hS.F ht⟩) hS.2.2 dX4_allowed_115 hlocks)
            · skip
              have hb4 : bqb p0 4 = true := bqT (fun h => c_18 (ez_17.trans h))
              refine lv_iconst (v := 1) hx hb dX4_allowed_34 (by decide) ?_
              refine lv_goto (tgt := 39) hx hb dX4_allowed_35 (by decide) ?_
              refine lv_istore_n (lv' := [(3, .int 1), (2, .int 4), (0, .ref x), (1, .int p0)]) hx hb dX4_allowed_39 rfl hl (by decide) rfl (fun ls hl => ?_)
              refine lv_iload_n hx hb dX4_allowed_40 rfl (lv_at hl 0 rfl) ?_
              refine lv_if_eq (tgt := 58) hx hb dX4_allowed_41 (by decide) (fun hc => absurd hc (by decide)) (fun _ => ?_)
              refine lv_aload_n hx hb dX4_allowed_44 rfl (lv_at hl 2 rfl) ?_
              refine va_get (D := D) (ci := 5) (v := .ref a1) (C := RX4) (T := TX4) (N := 4) hx hb hts in_X4_allowed_X4 hown hK hP 0 rfl rfl 0 (by decide) w_1 (fun _ h9 => h9) rfl dX4_allowed_45 ?_
              refine lv_iload_n hx hb dX4_allowed_48 rfl (lv_at hl 1 rfl) ?_
              refine va_aldq hx hb hK hP 1 3 rfl rfl (by unfold vp_in; decide) dX4_allowed_49 ?_
              rw [show fs (4 : Int32).toNatClampNeg = some (qs 4) from (by rw [show (4 : Int32).toNatClampNeg = 4 by decide]; exact hfs 4 (by decide))]
              refine W.eq (g2 := F0 m 50 ls [.ref (qs 4)]) rfl ?_
              have hPc := hP.sub (ws' := [((qs 4), .inr (4, [.int 4, .int 1, .ref f, .int 0, .int (-1), .null, .int (-1), .null]))]) [9] rfl
              have hDc := hD.sub (ws' := [((qs 4), .inr (4, [.int 4, .int 1, .ref f, .int 0, .int (-1), .null, .int (-1), .null]))]) [9] (by decide) rfl
              have hFc := va_free (wc := [((qs 4), .inr (4, [.int 4, .int 1, .ref f, .int 0, .int (-1), .null, .int (-1), .null]))]) hD hS hA [9] rfl
              refine va_calli (va_runVN (As := []) (rest := []) ⟨hx, hb, hml, hown, hts⟩ (c_X3_isFree l hlt D tC dz H.size f (qs 4) 4 ) ⟨(va_cnB (host := "NoticeStations") 0 hts gX4_allowed_X3_isFree_n240 rfl rfl rfl (hN.1 (.methodLinkNest "NoticeStations" 240 ⟨"NoticeStations$Station", "isFree", "()Z"⟩ "NoticeStations") (by decide +kernel)) w_2 (by decide +kernel) ⟨Nat.le_of_ble_eq_true rfl, Nat.le_of_ble_eq_true rfl⟩), w_3, w_4⟩ ⟨pB_blind, va_recv hK hPc (ci := 4) (q0 := 0) rfl rfl, pB_at hPc hDc hK hN hE hS hFc⟩ rfl rfl hl.1 rfl (lv_room (Nat.le_of_ble_eq_true rfl)) dX4_allowed_50 ⟨Nat.le_of_ble_eq_true rfl, Nat.le_of_ble_eq_true rfl⟩) hS (fun q _ h => hFc q h) hFc (fun r_21 u t H1 locs ht hvm hw hB hz1 hk1 hS => ?_)
              obtain ⟨hP1, _, hD1⟩ := hB
              have hw_22 := hw
              rw [ht] at hP1
              obtain ⟨hP, hD⟩ := va_join (wr := [(x, .inr (5, [.ref a1, .ref a2, .ref a3, .ref a4])), (a1, wT tC 5 fs), (a4, wS tC 5 (va_up (va_up (va_up (va_up gf 0 none) 1 none) 2 none) 3 none)), (f, .inr (3, [.ref e1, .ref e2, .int 5, .int 0])), (e1, wI tC 0 z1), ((qs 0), .inr (4, [.int 0, .int 1, .ref f, .int 0, .int (-1), .null, .int (-1), .null])), ((qs 1), .inr (4, [.int 1, .int 1, .ref f, .int 0, .int (-1), .null, .int (-1), .null])), ((qs 2), .inr (4, [.int 2, .int 1, .ref f, .int 0, .int (-1), .null, .int (-1), .null])), ((qs 3), .inr (4, [.int 3, .int 1, .ref f, .int 0, .int (-1), .null, .int (-1), .null]))]) (w1 := [((qs 4), .inr (4, [.int 4, .int 1, .ref f, .int 0, .int (-1), .null, .int (-1), .null]))]) hP hD [9] [0, 1, 2, 3, 4, 5, 6, 7, 8] rfl rfl (by decide) (by decide) hk1 hFc hP1 hD1
              generalize H1 = H at hP hS ⊢
              have hP : va_P D vwCl [(x, .inr (5, [.ref a1, .ref a2, .ref a3, .ref a4])), (a1, wT tC 5 fs), (a4, wS tC 5 (va_up (va_up (va_up (va_up gf 0 none) 1 none) 2 none) 3 none)), (f, .inr (3, [.ref e1, .ref e2, .int 5, .int 0])), (e1, wI tC 0 z1), ((qs 0), .inr (4, [.int 0, .int 1, .ref f, .int 0, .int (-1), .null, .int (-1), .null])), ((qs 1), .inr (4, [.int 1, .int 1, .ref f, .int 0, .int (-1), .null, .int (-1), .null])), ((qs 2), .inr (4, [.int 2, .int 1, .ref f, .int 0, .int (-1), .null, .int (-1), .null])), ((qs 3), .inr (4, [.int 3, .int 1, .ref f, .int 0, .int (-1), .null, .int (-1), .null])), ((qs 4), .inr (4, [.int 4, .int 1, .ref f, .int 0, .int (-1), .null, .int (-1), .null]))] H := hP
              have hD : va_D A [(x, .inr (5, [.ref a1, .ref a2, .ref a3, .ref a4])), (a1, wT tC 5 fs), (a4, wS tC 5 (va_up (va_up (va_up (va_up gf 0 none) 1 none) 2 none) 3 none)), (f, .inr (3, [.ref e1, .ref e2, .int 5, .int 0])), (e1, wI tC 0 z1), ((qs 0), .inr (4, [.int 0, .int 1, .ref f, .int 0, .int (-1), .null, .int (-1), .null])), ((qs 1), .inr (4, [.int 1, .int 1, .ref f, .int 0, .int (-1), .null, .int (-1), .null])), ((qs 2), .inr (4, [.int 2, .int 1, .ref f, .int 0, .int (-1), .null, .int (-1), .null])), ((qs 3), .inr (4, [.int 3, .int 1, .ref f, .int 0, .int (-1), .null, .int (-1), .null])), ((qs 4), .inr (4, [.int 4, .int 1, .ref f, .int 0, .int (-1), .null, .int (-1), .null]))] := hD
              subst hw_22
              refine lv_if_ne (tgt := 58) hx hb dX4_allowed_53 (by decide) (fun _ => ?_) (fun hc => absurd hc (by decide))
              refine lv_aload_n hx hb dX4_allowed_58 rfl (lv_at hl 2 rfl) ?_
              refine va_get (D := D) (ci := 5) (v := .ref a4) (C := RX4) (T := TX4) (N := 4) hx hb hts in_X4_allowed_X4 hown hK hP 0 rfl rfl 3 (by decide) w_0 (fun _ h9 => h9) rfl dX4_allowed_59 ?_
              refine lv_iload_n hx hb dX4_allowed_62 rfl (lv_at hl 1 rfl) ?_
              refine lv_iload_n hx hb dX4_allowed_63 rfl (lv_at hl 0 rfl) ?_
              refine lv_if_eq (tgt := 79) hx hb dX4_allowed_64 (by decide) (fun hc => absurd hc (by decide)) (fun _ => ?_)
              refine lv_aload_n hx hb dX4_allowed_67 rfl (lv_at hl 2 rfl) ?_
              refine va_get (D := D) (ci := 5) (v := .ref a1) (C := RX4) (T := TX4) (N := 4) hx hb hts in_X4_allowed_X4 hown hK hP 0 rfl rfl 0 (by decide) w_1 (fun _ h9 => h9) rfl dX4_allowed_68 ?_
              refine lv_iload_n hx hb dX4_allowed_71 rfl (lv_at hl 1 rfl) ?_
              refine va_aldq hx hb hK hP 1 3 rfl rfl (by unfold vp_in; decide) dX4_allowed_72 ?_
              rw [show fs (4 : Int32).toNatClampNeg = some (qs 4) from (by rw [show (4 : Int32).toNatClampNeg = 4 by decide]; exact hfs 4 (by decide))]
              refine W.eq (g2 := F0 m 73 ls [.ref (qs 4), .int 4, .ref a4]) rfl ?_
              refine va_getN (host := "NoticeStations") (D := D) (ci := 4) (v := .ref f) (C := RX3) (T := TX3) (N := 8) hx hb hts in_X4_allowed_X3 hown hK hP 9 rfl rfl 2 (by decide) (va_Nw.use rfl (hN.1 (.fieldLinkNest "NoticeStations" 61 "NoticeStations$Station" "stored" "LNoticeStations$Standing;" "NoticeStations") (by decide +kernel))) (fun _ h9 => h9) rfl dX4_allowed_73 ?_
              refine lv_goto (tgt := 80) hx hb dX4_allowed_76 (by decide) ?_
              refine va_astq hx hb hK hP hD hS 2 2 3 3 rfl rfl rfl rfl (by unfold vp_in; decide) dX4_allowed_80 (fun H locs hP hD hS => ?_)
              have hP : va_P D vwCl [(x, .inr (5, [.ref a1, .ref a2, .ref a3, .ref a4])), (a1, wT tC 5 fs), (a4, wS tC 5 (va_up (va_up (va_up (va_up (va_up gf 0 none) 1 none) 2 none) 3 none) 4 (some f))), (f, .inr (3, [.ref e1, .ref e2, .int 5, .int 0])), (e1, wI tC 0 z1), ((qs 0), .inr (4, [.int 0, .int 1, .ref f, .int 0, .int (-1), .null, .int (-1), .null])), ((qs 1), .inr (4, [.int 1, .int 1, .ref f, .int 0, .int (-1), .null, .int (-1), .null])), ((qs 2), .inr (4, [.int 2, .int 1, .ref f, .int 0, .int (-1), .null, .int (-1), .null])), ((qs 3), .inr (4, [.int 3, .int 1, .ref f, .int 0, .int (-1), .null, .int (-1), .null])), ((qs 4), .inr (4, [.int 4, .int 1, .ref f, .int 0, .int (-1), .null, .int (-1), .null]))] H := hP
              have hD : va_D A [(x, .inr (5, [.ref a1, .ref a2, .ref a3, .ref a4])), (a1, wT tC 5 fs), (a4, wS tC 5 (va_up (va_up (va_up (va_up (va_up gf 0 none) 1 none) 2 none) 3 none) 4 (some f))), (f, .inr (3, [.ref e1, .ref e2, .int 5, .int 0])), (e1, wI tC 0 z1), ((qs 0), .inr (4, [.int 0, .int 1, .ref f, .int 0, .int (-1), .null, .int (-1), .null])), ((qs 1), .inr (4, [.int 1, .int 1, .ref f, .int 0, .int (-1), .null, .int (-1), .null])), ((qs 2), .inr (4, [.int 2, .int 1, .ref f, .int 0, .int (-1), .null, .int (-1), .null])), ((qs 3), .inr (4, [.int 3, .int 1, .ref f, .int 0, .int (-1), .null, .int (-1), .null])), ((qs 4), .inr (4, [.int 4, .int 1, .ref f, .int 0, .int (-1), .null, .int (-1), .null]))] := hD
              refine lv_iinc (v := 5) (lv' := [(2, .int 5), (3, .int 1), (0, .ref x), (1, .int p0)]) hx hb dX4_allowed_81 hl (k := 1) rfl (by decide) (by decide) rfl (fun ls hl => ?_)
              refine lv_goto (tgt := 21) hx hb dX4_allowed_84 (by decide) ?_
              refine lv_iload_n hx hb dX4_allowed_21 rfl (lv_at hl 0 rfl) ?_
              refine lv_iconst (v := 5) hx hb dX4_allowed_22 (by decide) ?_
              refine lv_icmp_ge (tgt := 87) hx hb dX4_allowed_23 (by decide) (fun _ => ?_) (fun hc => absurd (by decide) hc)
              refine lv_aload_n hx hb dX4_allowed_87 rfl (lv_at hl 2 rfl) ?_
              refine va_get (D := D) (ci := 5) (v := .ref a4) (C := RX4) (T := TX4) (N := 4) hx hb hts in_X4_allowed_X4 hown hK hP 0 rfl rfl 3 (by decide) w_0 (fun _ h9 => h9) rfl dX4_allowed_88 ?_
              have hPc := hP.sub (ws' := [(a4, wS tC 5 (va_up (va_up (va_up (va_up (va_up gf 0 none) 1 none) 2 none) 3 none) 4 (some f))), (f, .inr (3, [.ref e1, .ref e2, .int 5, .int 0])), (e1, wI tC 0 z1)]) [2, 3, 4] rfl
              have hDc := hD.sub (ws' := [(a4, wS tC 5 (va_up (va_up (va_up (va_up (va_up gf 0 none) 1 none) 2 none) 3 none) 4 (some f))), (f, .inr (3, [.ref e1, .ref e2, .int 5, .int 0])), (e1, wI tC 0 z1)]) [2, 3, 4] (by decide) rfl
              have hFc := va_free (wc := [(a4, wS tC 5 (va_up (va_up (va_up (va_up (va_up gf 0 none) 1 none) 2 none) 3 none) 4 (some f))), (f, .inr (3, [.ref e1, .ref e2, .int 5, .int 0])), (e1, wI tC 0 z1)]) hD hS hA [2, 3, 4] rfl
              refine va_callq (va_runS (As := [.ref a4]) (rest := []) ⟨hx, hb, hml, hown, hts⟩ (c_X4_heldByHolders l hlt D tC dz H.size a4 (va_up (va_up (va_up (va_up (va_up gf 0 none) 1 none) 2 none) 3 none) 4 (some f)) (bqb p0) f e1 e2 z1 (by intro j hj; rcases (show j = 0 ∨ j = 1 ∨ j = 2 ∨ j = 3 ∨ j = 4 by omega) with rfl | rfl | rfl | rfl | rfl <;> simp [va_up, hb0, hb1, hb2, hb3, hb4])) (va_cwS 1 hts gX4_allowed_X4_heldByHolders rfl rfl rfl (by decide +kernel) ⟨Nat.le_of_ble_eq_true rfl, Nat.le_of_ble_eq_true rfl⟩) ⟨pB_blind, pB_at hPc hDc hK hN hE hS hFc⟩ rfl rfl hl.1 rfl (lv_room (Nat.le_of_ble_eq_true rfl)) dX4_allowed_91 ⟨Nat.le_of_ble_eq_true rfl, Nat.le_of_ble_eq_true rfl⟩) hS (fun q _ h => hFc q h) hFc (fun r_23 u t H1 locs ht hvm hw hB hz1 hk1 hS => ?_)
              obtain ⟨hP1, _, hD1⟩ := hB
              have hw_24 := hw
              rw [ht] at hP1
              obtain ⟨hP, hD⟩ := va_join (wr := [(x, .inr (5, [.ref a1, .ref a2, .ref a3, .ref a4])), (a1, wT tC 5 fs), ((qs 0), .inr (4, [.int 0, .int 1, .ref f, .int 0, .int (-1), .null, .int (-1), .null])), ((qs 1), .inr (4, [.int 1, .int 1, .ref f, .int 0, .int (-1), .null, .int (-1), .null])), ((qs 2), .inr (4, [.int 2, .int 1, .ref f, .int 0, .int (-1), .null, .int (-1), .null])), ((qs 3), .inr (4, [.int 3, .int 1, .ref f, .int 0, .int (-1), .null, .int (-1), .null])), ((qs 4), .inr (4, [.int 4, .int 1, .ref f, .int 0, .int (-1), .null, .int (-1), .null]))]) (w1 := [(a4, wS tC 5 (va_up (va_up (va_up (va_up (va_up gf 0 none) 1 none) 2 none) 3 none) 4 (some f))), (f, .inr (3, [.ref e1, .ref e2, .int 5, .int 0])), (e1, wI tC 0 z1)]) hP hD [2, 3, 4] [0, 1, 5, 6, 7, 8, 9] rfl rfl (by decide) (by decide) hk1 hFc hP1 hD1
              generalize H1 = H at hP hS ⊢
              have hP : va_P D vwCl [(x, .inr (5, [.ref a1, .ref a2, .ref a3, .ref a4])), (a1, wT tC 5 fs), ((qs 0), .inr (4, [.int 0, .int 1, .ref f, .int 0, .int (-1), .null, .int (-1), .null])), ((qs 1), .inr (4, [.int 1, .int 1, .ref f, .int 0, .int (-1), .null, .int (-1), .null])), ((qs 2), .inr (4, [.int 2, .int 1, .ref f, .int 0, .int (-1), .null, .int (-1), .null])), ((qs 3), .inr (4, [.int 3, .int 1, .ref f, .int 0, .int (-1), .null, .int (-1), .null])), ((qs 4), .inr (4, [.int 4, .int 1, .ref f, .int 0, .int (-1), .null, .int (-1), .null])), (a4, wS tC 5 (va_up (va_up (va_up (va_up (va_up gf 0 none) 1 none) 2 none) 3 none) 4 (some f))), (f, .inr (3, [.ref e1, .ref e2, .int 5, .int 0])), (e1, wI tC 0 z1)] H := hP
              have hD : va_D A [(x, .inr (5, [.ref a1, .ref a2, .ref a3, .ref a4])), (a1, wT tC 5 fs), ((qs 0), .inr (4, [.int 0, .int 1, .ref f, .int 0, .int (-1), .null, .int (-1), .null])), ((qs 1), .inr (4, [.int 1, .int 1, .ref f, .int 0, .int (-1), .null, .int (-1), .null])), ((qs 2), .inr (4, [.int 2, .int 1, .ref f, .int 0, .int (-1), .null, .int (-1), .null])), ((qs 3), .inr (4, [.int 3, .int 1, .ref f, .int 0, .int (-1), .null, .int (-1), .null])), ((qs 4), .inr (4, [.int 4, .int 1, .ref f, .int 0, .int (-1), .null, .int (-1), .null])), (a4, wS tC 5 (va_up (va_up (va_up (va_up (va_up gf 0 none) 1 none) 2 none) 3 none) 4 (some f))), (f, .inr (3, [.ref e1, .ref e2, .int 5, .int 0])), (e1, wI tC 0 z1)] := hD
              have q1 : r_23 = some f := hw_24.trans (by rw [hb0, hb1, hb2, hb3, hb4] <;> rfl)
              subst q1
              refine W.eq (g2 := F0 m 94 ls [.ref f]) rfl ?_
              refine lv_astore_n (lv' := [(2, .ref f), (3, .int 1), (0, .ref x), (1, .int p0)]) hx hb dX4_allowed_94 rfl hl (by decide) rfl (fun ls hl => ?_)
              refine lv_aload_n hx hb dX4_allowed_95 rfl (lv_at hl 0 rfl) ?_
              refine lv_ifnull hx hb dX4_allowed_96 ?_
              refine lv_aload_n hx hb dX4_allowed_99 rfl (lv_at hl 2 rfl) ?_
              refine va_get (D := D) (ci := 5) (v := .ref a4) (C := RX4) (T := TX4) (N := 4) hx hb hts in_X4_allowed_X4 hown hK hP 0 rfl rfl 3 (by decide) w_0 (fun _ h9 => h9) rfl dX4_allowed_100 ?_
              refine lv_aload_n hx hb dX4_allowed_103 rfl (lv_at hl 0 rfl) ?_
              have hPc := hP.sub (ws' := [(a4, wS tC 5 (va_up (va_up (va_up (va_up (va_up gf 0 none) 1 none) 2 none) 3 none) 4 (some f))), (f, .inr (3, [.ref e1, .ref e2, .int 5, .int 0])), (e1, wI tC 0 z1)]) [7, 8, 9] rfl
              have hDc := hD.sub (ws' := [(a4, wS tC 5 (va_up (va_up (va_up (va_up (va_up gf 0 none) 1 none) 2 none) 3 none) 4 (some f))), (f, .inr (3, [.ref e1, .ref e2, .int 5, .int 0])), (e1, wI tC 0 z1)]) [7, 8, 9] (by decide) rfl
              have hFc := va_free (wc := [(a4, wS tC 5 (va_up (va_up (va_up (va_up (va_up gf 0 none) 1 none) 2 none) 3 none) 4 (some f))), (f, .inr (3, [.ref e1, .ref e2, .int 5, .int 0])), (e1, wI tC 0 z1)]) hD hS hA [7, 8, 9] rfl
              refine va_calli (va_runS (As := [.ref a4, .ref f]) (rest := []) ⟨hx, hb, hml, hown, hts⟩ (c_X4_mayGoOn l hlt D tC dz H.size a4 (va_up (va_up (va_up (va_up (va_up gf 0 none) 1 none) 2 none) 3 none) 4 (some f)) (bqb p0) f e1 e2 z1 (by intro j hj; rcases (show j = 0 ∨ j = 1 ∨ j = 2 ∨ j = 3 ∨ j = 4 by omega) with rfl | rfl | rfl | rfl | rfl <;> simp [va_up, hb0, hb1, hb2, hb3, hb4])) (va_cwS 2 hts gX4_allowed_X4_mayGoOn rfl rfl rfl (by decide +kernel) ⟨Nat.le_of_ble_eq_true rfl, Nat.le_of_ble_eq_true rfl⟩) ⟨pB_blind, pB_at hPc hDc hK hN hE hS hFc⟩ rfl rfl hl.1 rfl (lv_room (Nat.le_of_ble_eq_true rfl)) dX4_allowed_104 ⟨Nat.le_of_ble_eq_true rfl, Nat.le_of_ble_eq_true rfl⟩) hS (fun q _ h => hFc q h) hFc (fun r_25 u t H1 locs ht hvm hw hB hz1 hk1 hS => ?_)
              obtain ⟨hP1, _, hD1⟩ := hB
              have hw_26 := hw
              rw [ht] at hP1
              obtain ⟨hP, hD⟩ := va_join (wr := [(x, .inr (5, [.ref a1, .ref a2, .ref a3, .ref a4])), (a1, wT tC 5 fs), ((qs 0), .inr (4, [.int 0, .int 1, .ref f, .int 0, .int (-1), .null, .int (-1), .null])), ((qs 1), .inr (4, [.int 1, .int 1, .ref f, .int 0, .int (-1), .null, .int (-1), .null])), ((qs 2), .inr (4, [.int 2, .int 1, .ref f, .int 0, .int (-1), .null, .int (-1), .null])), ((qs 3), .inr (4, [.int 3, .int 1, .ref f, .int 0, .int (-1), .null, .int (-1), .null])), ((qs 4), .inr (4, [.int 4, .int 1, .ref f, .int 0, .int (-1), .null, .int (-1), .null]))]) (w1 := [(a4, wS tC 5 (va_up (va_up (va_up (va_up (va_up gf 0 none) 1 none) 2 none) 3 none) 4 (some f))), (f, .inr (3, [.ref e1, .ref e2, .int 5, .int 0])), (e1, wI tC 0 z1)]) hP hD [7, 8, 9] [0, 1, 2, 3, 4, 5, 6] rfl rfl (by decide) (by decide) hk1 hFc hP1 hD1
              generalize H1 = H at hP hS ⊢
              have hP : va_P D vwCl [(x, .inr (5, [.ref a1, .ref a2, .ref a3, .ref a4])), (a1, wT tC 5 fs), ((qs 0), .inr (4, [.int 0, .int 1, .ref f, .int 0, .int (-1), .null, .int (-1), .null])), ((qs 1), .inr (4, [.int 1, .int 1, .ref f, .int 0, .int (-1), .null, .int (-1), .null])), ((qs 2), .inr (4, [.int 2, .int 1, .ref f, .int 0, .int (-1), .null, .int (-1), .null])), ((qs 3), .inr (4, [.int 3, .int 1, .ref f, .int 0, .int (-1), .null, .int (-1), .null])), ((qs 4), .inr (4, [.int 4, .int 1, .ref f, .int 0, .int (-1), .null, .int (-1), .null])), (a4, wS tC 5 (va_up (va_up (va_up (va_up (va_up gf 0 none) 1 none) 2 none) 3 none) 4 (some f))), (f, .inr (3, [.ref e1, .ref e2, .int 5, .int 0])), (e1, wI tC 0 z1)] H := hP
              have hD : va_D A [(x, .inr (5, [.ref a1, .ref a2, .ref a3, .ref a4])), (a1, wT tC 5 fs), ((qs 0), .inr (4, [.int 0, .int 1, .ref f, .int 0, .int (-1), .null, .int (-1), .null])), ((qs 1), .inr (4, [.int 1, .int 1, .ref f, .int 0, .int (-1), .null, .int (-1), .null])), ((qs 2), .inr (4, [.int 2, .int 1, .ref f, .int 0, .int (-1), .null, .int (-1), .null])), ((qs 3), .inr (4, [.int 3, .int 1, .ref f, .int 0, .int (-1), .null, .int (-1), .null])), ((qs 4), .inr (4, [.int 4, .int 1, .ref f, .int 0, .int (-1), .null, .int (-1), .null])), (a4, wS tC 5 (va_up (va_up (va_up (va_up (va_up gf 0 none) 1 none) 2 none) 3 none) 4 (some f))), (f, .inr (3, [.ref e1, .ref e2, .int 5, .int 0])), (e1, wI tC 0 z1)] := hD
              have q1 : r_25 = 0 := hw_26.trans (by unfold mayg cntb; rw [hb0, hb1, hb2, hb3, hb4] <;> decide)
              subst q1
              refine lv_if_eq (tgt := 114) hx hb dX4_allowed_107 (by decide) (fun _ => ?_) (fun hc => absurd (by decide) hc)
              refine lv_iconst (v := 0) hx hb dX4_allowed_114 (by decide) ?_
              have hP9 := hP.sub (ws' := []) [] rfl
              have hD9 := hD.sub (ws' := []) [] (by decide) rfl
              refine W.widen (k := 1) (n := 6) (by omega) (by omega) ?_
              exact vx_ret (W.zret (v := 0) hx hb hr (by decide) (fun t ht hW => ⟨⟨0, (), rfl, ⟨(by unfold mayg cntb; rw [hb0, hb1, hb2, hb3, hb4] <;> decide), bl1 hw_2 c_3⟩, (by rw [ht]; exact hP9), va_K.moved hW.alike hK, hD9⟩, hS.F ht⟩) hS.2.2 dX4_allowed_115 hlocks)
          · skip
            have hb3 : bqb p0 3 = true := bqT (fun h => c_15 (ez_14.trans h))
            refine lv_iconst (v := 1) hx hb dX4_allowed_34 (by decide) ?_
            refine lv_goto (tgt := 39) hx hb dX4_allowed_35 (by decide) ?_
            refine lv_istore_n (lv' := [(3, .int 1), (2, .int 3), (0, .ref x), (1, .int p0)]) hx hb dX4_allowed_39 rfl hl (by decide) rfl (fun ls hl => ?_)
            refine lv_iload_n hx hb dX4_allowed_40 rfl (lv_at hl 0 rfl) ?_
            refine lv_if_eq (tgt := 58) hx hb dX4_allowed_41 (by decide) (fun hc => absurd hc (by decide)) (fun _ => ?_)
            refine lv_aload_n hx hb dX4_allowed_44 rfl (lv_at hl 2 rfl) ?_
            refine va_get (D := D) (ci := 5) (v := .ref a1) (C := RX4) (T := TX4) (N := 4) hx hb hts in_X4_allowed_X4 hown hK hP 0 rfl rfl 0 (by decide) w_1 (fun _ h9 => h9) rfl dX4_allowed_45 ?_
            refine lv_iload_n hx hb dX4_allowed_48 rfl (lv_at hl 1 rfl) ?_
            refine va_aldq hx hb hK hP 1 3 rfl rfl (by unfold vp_in; decide) dX4_allowed_49 ?_
            rw [show fs (3 : Int32).toNatClampNeg = some (qs 3) from (by rw [show (3 : Int32).toNatClampNeg = 3 by decide]; exact hfs 3 (by decide))]
            refine W.eq (g2 := F0 m 50 ls [.ref (qs 3)]) rfl ?_
            have hPc := hP.sub (ws' := [((qs 3), .inr (4, [.int 3, .int 1, .ref f, .int 0, .int (-1), .null, .int (-1), .null]))]) [8] rfl
            have hDc := hD.sub (ws' := [((qs 3), .inr (4, [.int 3, .int 1, .ref f, .int 0, .int (-1), .null, .int (-1), .null]))]) [8] (by decide) rfl
            have hFc := va_free (wc := [((qs 3), .inr (4, [.int 3, .int 1, .ref f, .int 0, .int (-1), .null, .int (-1), .null]))]) hD hS hA [8] rfl
            refine va_calli (va_runVN (As := []) (rest := []) ⟨hx, hb, hml, hown, hts⟩ (c_X3_isFree l hlt D tC dz H.size f (qs 3) 3 ) ⟨(va_cnB (host := "NoticeStations") 0 hts gX4_allowed_X3_isFree_n240 rfl rfl rfl (hN.1 (.methodLinkNest "NoticeStations" 240 ⟨"NoticeStations$Station", "isFree", "()Z"⟩ "NoticeStations") (by decide +kernel)) w_2 (by decide +kernel) ⟨Nat.le_of_ble_eq_true rfl, Nat.le_of_ble_eq_true rfl⟩), w_3, w_4⟩ ⟨pB_blind, va_recv hK hPc (ci := 4) (q0 := 0) rfl rfl, pB_at hPc hDc hK hN hE hS hFc⟩ rfl rfl hl.1 rfl (lv_room (Nat.le_of_ble_eq_true rfl)) dX4_allowed_50 ⟨Nat.le_of_ble_eq_true rfl, Nat.le_of_ble_eq_true rfl⟩) hS (fun q _ h => hFc q h) hFc (fun r_27 u t H1 locs ht hvm hw hB hz1 hk1 hS => ?_)
            obtain ⟨hP1, _, hD1⟩ := hB
            have hw_28 := hw
            rw [ht] at hP1
            obtain ⟨hP, hD⟩ := va_join (wr := [(x, .inr (5, [.ref a1, .ref a2, .ref a3, .ref a4])), (a1, wT tC 5 fs), (a4, wS tC 5 (va_up (va_up (va_up gf 0 none) 1 none) 2 none)), (f, .inr (3, [.ref e1, .ref e2, .int 5, .int 0])), (e1, wI tC 0 z1), ((qs 0), .inr (4, [.int 0, .int 1, .ref f, .int 0, .int (-1), .null, .int (-1), .null])), ((qs 1), .inr (4, [.int 1, .int 1, .ref f, .int 0, .int (-1), .null, .int (-1), .null])), ((qs 2), .inr (4, [.int 2, .int 1, .ref f, .int 0, .int (-1), .null, .int (-1), .null])), ((qs 4), .inr (4, [.int 4, .int 1, .ref f, .int 0, .int (-1), .null, .int (-1), .null]))]) (w1 := [((qs 3), .inr (4, [.int 3, .int 1, .ref f, .int 0, .int (-1), .null, .int (-1), .null]))]) hP hD [8] [0, 1, 2, 3, 4, 5, 6, 7, 9] rfl rfl (by decide) (by decide) hk1 hFc hP1 hD1
            generalize H1 = H at hP hS ⊢
            have hP : va_P D vwCl [(x, .inr (5, [.ref a1, .ref a2, .ref a3, .ref a4])), (a1, wT tC 5 fs), (a4, wS tC 5 (va_up (va_up (va_up gf 0 none) 1 none) 2 none)), (f, .inr (3, [.ref e1, .ref e2, .int 5, .int 0])), (e1, wI tC 0 z1), ((qs 0), .inr (4, [.int 0, .int 1, .ref f, .int 0, .int (-1), .null, .int (-1), .null])), ((qs 1), .inr (4, [.int 1, .int 1, .ref f, .int 0, .int (-1), .null, .int (-1), .null])), ((qs 2), .inr (4, [.int 2, .int 1, .ref f, .int 0, .int (-1), .null, .int (-1), .null])), ((qs 4), .inr (4, [.int 4, .int 1, .ref f, .int 0, .int (-1), .null, .int (-1), .null])), ((qs 3), .inr (4, [.int 3, .int 1, .ref f, .int 0, .int (-1), .null, .int (-1), .null]))] H := hP
            have hD : va_D A [(x, .inr (5, [.ref a1, .ref a2, .ref a3, .ref a4])), (a1, wT tC 5 fs), (a4, wS tC 5 (va_up (va_up (va_up gf 0 none) 1 none) 2 none)), (f, .inr (3, [.ref e1, .ref e2, .int 5, .int 0])), (e1, wI tC 0 z1), ((qs 0), .inr (4, [.int 0, .int 1, .ref f, .int 0, .int (-1), .null, .int (-1), .null])), ((qs 1), .inr (4, [.int 1, .int 1, .ref f, .int 0, .int (-1), .null, .int (-1), .null])), ((qs 2), .inr (4, [.int 2, .int 1, .ref f, .int 0, .int (-1), .null, .int (-1), .null])), ((qs 4), .inr (4, [.int 4, .int 1, .ref f, .int 0, .int (-1), .null, .int (-1), .null])), ((qs 3), .inr (4, [.int 3, .int 1, .ref f, .int 0, .int (-1), .null, .int (-1), .null]))] := hD
            subst hw_28
            refine lv_if_ne (tgt := 58) hx hb dX4_allowed_53 (by decide) (fun _ => ?_) (fun hc => absurd hc (by decide))
            refine lv_aload_n hx hb dX4_allowed_58 rfl (lv_at hl 2 rfl) ?_
            refine va_get (D := D) (ci := 5) (v := .ref a4) (C := RX4) (T := TX4) (N := 4) hx hb hts in_X4_allowed_X4 hown hK hP 0 rfl rfl 3 (by decide) w_0 (fun _ h9 => h9) rfl dX4_allowed_59 ?_
            refine lv_iload_n hx hb dX4_allowed_62 rfl (lv_at hl 1 rfl) ?_
            refine lv_iload_n hx hb dX4_allowed_63 rfl (lv_at hl 0 rfl) ?_
            refine lv_if_eq (tgt := 79) hx hb dX4_allowed_64 (by decide) (fun hc => absurd hc (by decide)) (fun _ => ?_)
            refine lv_aload_n hx hb dX4_allowed_67 rfl (lv_at hl 2 rfl) ?_
            refine va_get (D := D) (ci := 5) (v := .ref a1) (C := RX4) (T := TX4) (N := 4) hx hb hts in_X4_allowed_X4 hown hK hP 0 rfl rfl 0 (by decide) w_1 (fun _ h9 => h9) rfl dX4_allowed_68 ?_
            refine lv_iload_n hx hb dX4_allowed_71 rfl (lv_at hl 1 rfl) ?_
            refine va_aldq hx hb hK hP 1 3 rfl rfl (by unfold vp_in; decide) dX4_allowed_72 ?_
            rw [show fs (3 : Int32).toNatClampNeg = some (qs 3) from (by rw [show (3 : Int32).toNatClampNeg = 3 by decide]; exact hfs 3 (by decide))]
            refine W.eq (g2 := F0 m 73 ls [.ref (qs 3), .int 3, .ref a4]) rfl ?_
            refine va_getN (host := "NoticeStations") (D := D) (ci := 4) (v := .ref f) (C := RX3) (T := TX3) (N := 8) hx hb hts in_X4_allowed_X3 hown hK hP 9 rfl rfl 2 (by decide) (va_Nw.use rfl (hN.1 (.fieldLinkNest "NoticeStations" 61 "NoticeStations$Station" "stored" "LNoticeStations$Standing;" "NoticeStations") (by decide +kernel))) (fun _ h9 => h9) rfl dX4_allowed_73 ?_
            refine lv_goto (tgt := 80) hx hb dX4_allowed_76 (by decide) ?_
            refine va_astq hx hb hK hP hD hS 2 2 3 3 rfl rfl rfl rfl (by unfold vp_in; decide) dX4_allowed_80 (fun H locs hP hD hS => ?_)
            have hP : va_P D vwCl [(x, .inr (5, [.ref a1, .ref a2, .ref a3, .ref a4])), (a1, wT tC 5 fs), (a4, wS tC 5 (va_up (va_up (va_up (va_up gf 0 none) 1 none) 2 none) 3 (some f))), (f, .inr (3, [.ref e1, .ref e2, .int 5, .int 0])), (e1, wI tC 0 z1), ((qs 0), .inr (4, [.int 0, .int 1, .ref f, .int 0, .int (-1), .null, .int (-1), .null])), ((qs 1), .inr (4, [.int 1, .int 1, .ref f, .int 0, .int (-1), .null, .int (-1), .null])), ((qs 2), .inr (4, [.int 2, .int 1, .ref f, .int 0, .int (-1), .null, .int (-1), .null])), ((qs 4), .inr (4, [.int 4, .int 1, .ref f, .int 0, .int (-1), .null, .int (-1), .null])), ((qs 3), .inr (4, [.int 3, .int 1, .ref f, .int 0, .int (-1), .null, .int (-1), .null]))] H := hP
            have hD : va_D A [(x, .inr (5, [.ref a1, .ref a2, .ref a3, .ref a4])), (a1, wT tC 5 fs), (a4, wS tC 5 (va_up (va_up (va_up (va_up gf 0 none) 1 none) 2 none) 3 (some f))), (f, .inr (3, [.ref e1, .ref e2, .int 5, .int 0])), (e1, wI tC 0 z1), ((qs 0), .inr (4, [.int 0, .int 1, .ref f, .int 0, .int (-1), .null, .int (-1), .null])), ((qs 1), .inr (4, [.int 1, .int 1, .ref f, .int 0, .int (-1), .null, .int (-1), .null])), ((qs 2), .inr (4, [.int 2, .int 1, .ref f, .int 0, .int (-1), .null, .int (-1), .null])), ((qs 4), .inr (4, [.int 4, .int 1, .ref f, .int 0, .int (-1), .null, .int (-1), .null])), ((qs 3), .inr (4, [.int 3, .int 1, .ref f, .int 0, .int (-1), .null, .int (-1), .null]))] := hD
            refine lv_iinc (v := 4) (lv' := [(2, .int 4), (3, .int 1), (0, .ref x), (1, .int p0)]) hx hb dX4_allowed_81 hl (k := 1) rfl (by decide) (by decide) rfl (fun ls hl => ?_)
            refine lv_goto (tgt := 21) hx hb dX4_allowed_84 (by decide) ?_
            refine lv_iload_n hx hb dX4_allowed_21 rfl (lv_at hl 0 rfl) ?_
            refine lv_iconst (v := 5) hx hb dX4_allowed_22 (by decide) ?_
            refine lv_icmp_ge (tgt := 87) hx hb dX4_allowed_23 (by decide) (fun hc => absurd hc (by decide)) (fun _ => ?_)
            refine lv_iload_n hx hb dX4_allowed_26 rfl (lv_at hl 3 rfl) ?_
            refine lv_iconst (v := 1) hx hb dX4_allowed_27 (by decide) ?_
            refine lv_iload_n hx hb dX4_allowed_28 rfl (lv_at hl 0 rfl) ?_
            refine lv_ishl hx hb dX4_allowed_29 ?_
            refine lv_topi (fun z_29 ez_29 => ?_)
            have fz_29 : z_29 = 16 := ez_29.trans (by decide)
            subst fz_29
            refine lv_iand hx hb dX4_allowed_30 ?_
            refine lv_topi (fun z_30 ez_30 => ?_)
            refine lv_if_eq (tgt := 38) hx hb dX4_allowed_31 (by decide) (fun c_31 => ?_) (fun c_31 => ?_)
            · skip
              have hb4 : bqb p0 4 = false := bqF (ez_30.symm.trans c_31)
              refine lv_iconst (v := 0) hx hb dX4_allowed_38 (by decide) ?_
              refine lv_istore_n (lv' := [(3, .int 0), (2, .int 4), (0, .ref x), (1, .int p0)]) hx hb dX4_allowed_39 rfl hl (by decide) rfl (fun ls hl => ?_)
              refine lv_iload_n hx hb dX4_allowed_40 rfl (lv_at hl 0 rfl) ?_
              refine lv_if_eq (tgt := 58) hx hb dX4_allowed_41 (by decide) (fun _ => ?_) (fun hc => absurd (by decide) hc)
              refine lv_aload_n hx hb dX4_allowed_58 rfl (lv_at hl 2 rfl) ?_
              refine va_get (D := D) (ci := 5) (v := .ref a4) (C := RX4) (T := TX4) (N := 4) hx hb hts in_X4_allowed_X4 hown hK hP 0 rfl rfl 3 (by decide) w_0 (fun _ h9 => h9) rfl dX4_allowed_59 ?_
              refine lv_iload_n hx hb dX4_allowed_62 rfl (lv_at hl 1 rfl) ?_
              refine lv_iload_n hx hb dX4_allowed_63 rfl (lv_at hl 0 rfl) ?_
              refine lv_if_eq (tgt := 79) hx hb dX4_allowed_64 (by decide) (fun _ => ?_) (fun hc => absurd (by decide) hc)
              refine lv_null hx hb dX4_allowed_79 ?_
              refine va_astqN hx hb hK hP hD hS 2 2 rfl rfl (by unfold vp_in; decide) dX4_allowed_80 (fun H locs hP hD hS => ?_)
              have hP : va_P D vwCl [(x, .inr (5, [.ref a1, .ref a2, .ref a3, .ref a4])), (a1, wT tC 5 fs), (a4, wS tC 5 (va_up (va_up (va_up (va_up (va_up gf 0 none) 1 none) 2 none) 3 (some f)) 4 none)), (f, .inr (3, [.ref e1, .ref e2, .int 5, .int 0])), (e1, wI tC 0 z1), ((qs 0), .inr (4, [.int 0, .int 1, .ref f, .int 0, .int (-1), .null, .int (-1), .null])), ((qs 1), .inr (4, [.int 1, .int 1, .ref f, .int 0, .int (-1), .null, .int (-1), .null])), ((qs 2), .inr (4, [.int 2, .int 1, .ref f, .int 0, .int (-1), .null, .int (-1), .null])), ((qs 4), .inr (4, [.int 4, .int 1, .ref f, .int 0, .int (-1), .null, .int (-1), .null])), ((qs 3), .inr (4, [.int 3, .int 1, .ref f, .int 0, .int (-1), .null, .int (-1), .null]))] H := hP
              have hD : va_D A [(x, .inr (5, [.ref a1, .ref a2, .ref a3, .ref a4])), (a1, wT tC 5 fs), (a4, wS tC 5 (va_up (va_up (va_up (va_up (va_up gf 0 none) 1 none) 2 none) 3 (some f)) 4 none)), (f, .inr (3, [.ref e1, .ref e2, .int 5, .int 0])), (e1, wI tC 0 z1), ((qs 0), .inr (4, [.int 0, .int 1, .ref f, .int 0, .int (-1), .null, .int (-1), .null])), ((qs 1), .inr (4, [.int 1, .int 1, .ref f, .int 0, .int (-1), .null, .int (-1), .null])), ((qs 2), .inr (4, [.int 2, .int 1, .ref f, .int 0, .int (-1), .null, .int (-1), .null])), ((qs 4), .inr (4, [.int 4, .int 1, .ref f, .int 0, .int (-1), .null, .int (-1), .null])), ((qs 3), .inr (4, [.int 3, .int 1, .ref f, .int 0, .int (-1), .null, .int (-1), .null]))] := hD
              refine lv_iinc (v := 5) (lv' := [(2, .int 5), (3, .int 0), (0, .ref x), (1, .int p0)]) hx hb dX4_allowed_81 hl (k := 1) rfl (by decide) (by decide) rfl (fun ls hl => ?_)
              refine lv_goto (tgt := 21) hx hb dX4_allowed_84 (by decide) ?_
              refine lv_iload_n hx hb dX4_allowed_21 rfl (lv_at hl 0 rfl) ?_
              refine lv_iconst (v := 5) hx hb dX4_allowed_22 (by decide) ?_
              refine lv_icmp_ge (tgt := 87) hx hb dX4_allowed_23 (by decide) (fun _ => ?_) (fun hc => absurd (by decide) hc)
              refine lv_aload_n hx hb dX4_allowed_87 rfl (lv_at hl 2 rfl) ?_
              refine va_get (D := D) (ci := 5) (v := .ref a4) (C := RX4) (T := TX4) (N := 4) hx hb hts in_X4_allowed_X4 hown hK hP 0 rfl rfl 3 (by decide) w_0 (fun _ h9 => h9) rfl dX4_allowed_88 ?_
              have hPc := hP.sub (ws' := [(a4, wS tC 5 (va_up (va_up (va_up (va_up (va_up gf 0 none) 1 none) 2 none) 3 (some f)) 4 none)), (f, .inr (3, [.ref e1, .ref e2, .int 5, .int 0])), (e1, wI tC 0 z1)]) [2, 3, 4] rfl
              have hDc := hD.sub (ws' := [(a4, wS tC 5 (va_up (va_up (va_up (va_up (va_up gf 0 none) 1 none) 2 none) 3 (some f)) 4 none)), (f, .inr (3, [.ref e1, .ref e2, .int 5, .int 0])), (e1, wI tC 0 z1)]) [2, 3, 4] (by decide) rfl
              have hFc := va_free (wc := [(a4, wS tC 5 (va_up (va_up (va_up (va_up (va_up gf 0 none) 1 none) 2 none) 3 (some f)) 4 none)), (f, .inr (3, [.ref e1, .ref e2, .int 5, .int 0])), (e1, wI tC 0 z1)]) hD hS hA [2, 3, 4] rfl
              refine va_callq (va_runS (As := [.ref a4]) (rest := []) ⟨hx, hb, hml, hown, hts⟩ (c_X4_heldByHolders l hlt D tC dz H.size a4 (va_up (va_up (va_up (va_up (va_up gf 0 none) 1 none) 2 none) 3 (some f)) 4 none) (bqb p0) f e1 e2 z1 (by intro j hj; rcases (show j = 0 ∨ j = 1 ∨ j = 2 ∨ j = 3 ∨ j = 4 by omega) with rfl | rfl | rfl | rfl | rfl <;> simp [va_up, hb0, hb1, hb2, hb3, hb4])) (va_cwS 1 hts gX4_allowed_X4_heldByHolders rfl rfl rfl (by decide +kernel) ⟨Nat.le_of_ble_eq_true rfl, Nat.le_of_ble_eq_true rfl⟩) ⟨pB_blind, pB_at hPc hDc hK hN hE hS hFc⟩ rfl rfl hl.1 rfl (lv_room (Nat.le_of_ble_eq_true rfl)) dX4_allowed_91 ⟨Nat.le_of_ble_eq_true rfl, Nat.le_of_ble_eq_true rfl⟩) hS (fun q _ h => hFc q h) hFc (fun r_32 u t H1 locs ht hvm hw hB hz1 hk1 hS => ?_)
              obtain ⟨hP1, _, hD1⟩ := hB
              have hw_33 := hw
              rw [ht] at hP1
              obtain ⟨hP, hD⟩ := va_join (wr := [(x, .inr (5, [.ref a1, .ref a2, .ref a3, .ref a4])), (a1, wT tC 5 fs), ((qs 0), .inr (4, [.int 0, .int 1, .ref f, .int 0, .int (-1), .null, .int (-1), .null])), ((qs 1), .inr (4, [.int 1, .int 1, .ref f, .int 0, .int (-1), .null, .int (-1), .null])), ((qs 2), .inr (4, [.int 2, .int 1, .ref f, .int 0, .int (-1), .null, .int (-1), .null])), ((qs 4), .inr (4, [.int 4, .int 1, .ref f, .int 0, .int (-1), .null, .int (-1), .null])), ((qs 3), .inr (4, [.int 3, .int 1, .ref f, .int 0, .int (-1), .null, .int (-1), .null]))]) (w1 := [(a4, wS tC 5 (va_up (va_up (va_up (va_up (va_up gf 0 none) 1 none) 2 none) 3 (some f)) 4 none)), (f, .inr (3, [.ref e1, .ref e2, .int 5, .int 0])), (e1, wI tC 0 z1)]) hP hD [2, 3, 4] [0, 1, 5, 6, 7, 8, 9] rfl rfl (by decide) (by decide) hk1 hFc hP1 hD1
              generalize H1 = H at hP hS ⊢
              have hP : va_P D vwCl [(x, .inr (5, [.ref a1, .ref a2, .ref a3, .ref a4])), (a1, wT tC 5 fs), ((qs 0), .inr (4, [.int 0, .int 1, .ref f, .int 0, .int (-1), .null, .int (-1), .null])), ((qs 1), .inr (4, [.int 1, .int 1, .ref f, .int 0, .int (-1), .null, .int (-1), .null])), ((qs 2), .inr (4, [.int 2, .int 1, .ref f, .int 0, .int (-1), .null, .int (-1), .null])), ((qs 4), .inr (4, [.int 4, .int 1, .ref f, .int 0, .int (-1), .null, .int (-1), .null])), ((qs 3), .inr (4, [.int 3, .int 1, .ref f, .int 0, .int (-1), .null, .int (-1), .null])), (a4, wS tC 5 (va_up (va_up (va_up (va_up (va_up gf 0 none) 1 none) 2 none) 3 (some f)) 4 none)), (f, .inr (3, [.ref e1, .ref e2, .int 5, .int 0])), (e1, wI tC 0 z1)] H := hP
              have hD : va_D A [(x, .inr (5, [.ref a1, .ref a2, .ref a3, .ref a4])), (a1, wT tC 5 fs), ((qs 0), .inr (4, [.int 0, .int 1, .ref f, .int 0, .int (-1), .null, .int (-1), .null])), ((qs 1), .inr (4, [.int 1, .int 1, .ref f, .int 0, .int (-1), .null, .int (-1), .null])), ((qs 2), .inr (4, [.int 2, .int 1, .ref f, .int 0, .int (-1), .null, .int (-1), .null])), ((qs 4), .inr (4, [.int 4, .int 1, .ref f, .int 0, .int (-1), .null, .int (-1), .null])), ((qs 3), .inr (4, [.int 3, .int 1, .ref f, .int 0, .int (-1), .null, .int (-1), .null])), (a4, wS tC 5 (va_up (va_up (va_up (va_up (va_up gf 0 none) 1 none) 2 none) 3 (some f)) 4 none)), (f, .inr (3, [.ref e1, .ref e2, .int 5, .int 0])), (e1, wI tC 0 z1)] := hD
              have q1 : r_32 = some f := hw_33.trans (by rw [hb0, hb1, hb2, hb3, hb4] <;> rfl)
              subst q1
              refine W.eq (g2 := F0 m 94 ls [.ref f]) rfl ?_
              refine lv_astore_n (lv' := [(2, .ref f), (3, .int 0), (0, .ref x), (1, .int p0)]) hx hb dX4_allowed_94 rfl hl (by decide) rfl (fun ls hl => ?_)
              refine lv_aload_n hx hb dX4_allowed_95 rfl (lv_at hl 0 rfl) ?_
              refine lv_ifnull hx hb dX4_allowed_96 ?_
              refine lv_aload_n hx hb dX4_allowed_99 rfl (lv_at hl 2 rfl) ?_
              refine va_get (D := D) (ci := 5) (v := .ref a4) (C := RX4) (T := TX4) (N := 4) hx hb hts in_X4_allowed_X4 hown hK hP 0 rfl rfl 3 (by decide) w_0 (fun _ h9 => h9) rfl dX4_allowed_100 ?_
              refine lv_aload_n hx hb dX4_allowed_103 rfl (lv_at hl 0 rfl) ?_
              have hPc := hP.sub (ws' := [(a4, wS tC 5 (va_up (va_up (va_up (va_up (va_up gf 0 none) 1 none) 2 none) 3 (some f)) 4 none)), (f, .inr (3, [.ref e1, .ref e2, .int 5, .int 0])), (e1, wI tC 0 z1)]) [7, 8, 9] rfl
              have hDc := hD.sub (ws' := [(a4, wS tC 5 (va_up (va_up (va_up (va_up (va_up gf 0 none) 1 none) 2 none) 3 (some f)) 4 none)), (f, .inr (3, [.ref e1, .ref e2, .int 5, .int 0])), (e1, wI tC 0 z1)]) [7, 8, 9] (by decide) rfl
              have hFc := va_free (wc := [(a4, wS tC 5 (va_up (va_up (va_up (va_up (va_up gf 0 none) 1 none) 2 none) 3 (some f)) 4 none)), (f, .inr (3, [.ref e1, .ref e2, .int 5, .int 0])), (e1, wI tC 0 z1)]) hD hS hA [7, 8, 9] rfl
              refine va_calli (va_runS (As := [.ref a4, .ref f]) (rest := []) ⟨hx, hb, hml, hown, hts⟩ (c_X4_mayGoOn l hlt D tC dz H.size a4 (va_up (va_up (va_up (va_up (va_up gf 0 none) 1 none) 2 none) 3 (some f)) 4 none) (bqb p0) f e1 e2 z1 (by intro j hj; rcases (show j = 0 ∨ j = 1 ∨ j = 2 ∨ j = 3 ∨ j = 4 by omega) with rfl | rfl | rfl | rfl | rfl <;> simp [va_up, hb0, hb1, hb2, hb3, hb4])) (va_cwS 2 hts gX4_allowed_X4_mayGoOn rfl rfl rfl (by decide +kernel) ⟨Nat.le_of_ble_eq_true rfl, Nat.le_of_ble_eq_true rfl⟩) ⟨pB_blind, pB_at hPc hDc hK hN hE hS hFc⟩ rfl rfl hl.1 rfl (lv_room (Nat.le_of_ble_eq_true rfl)) dX4_allowed_104 ⟨Nat.le_of_ble_eq_true rfl, Nat.le_of_ble_eq_true rfl⟩) hS (fun q _ h => hFc q h) hFc (fun r_34 u t H1 locs ht hvm hw hB hz1 hk1 hS => ?_)
              obtain ⟨hP1, _, hD1⟩ := hB
              have hw_35 := hw
              rw [ht] at hP1
              obtain ⟨hP, hD⟩ := va_join (wr := [(x, .inr (5, [.ref a1, .ref a2, .ref a3, .ref a4])), (a1, wT tC 5 fs), ((qs 0), .inr (4, [.int 0, .int 1, .ref f, .int 0, .int (-1), .null, .int (-1), .null])), ((qs 1), .inr (4, [.int 1, .int 1, .ref f, .int 0, .int (-1), .null, .int (-1), .null])), ((qs 2), .inr (4, [.int 2, .int 1, .ref f, .int 0, .int (-1), .null, .int (-1), .null])), ((qs 4), .inr (4, [.int 4, .int 1, .ref f, .int 0, .int (-1), .null, .int (-1), .null])), ((qs 3), .inr (4, [.int 3, .int 1, .ref f, .int 0, .int (-1), .null, .int (-1), .null]))]) (w1 := [(a4, wS tC 5 (va_up (va_up (va_up (va_up (va_up gf 0 none) 1 none) 2 none) 3 (some f)) 4 none)), (f, .inr (3, [.ref e1, .ref e2, .int 5, .int 0])), (e1, wI tC 0 z1)]) hP hD [7, 8, 9] [0, 1, 2, 3, 4, 5, 6] rfl rfl (by decide) (by decide) hk1 hFc hP1 hD1
              generalize H1 = H at hP hS ⊢
              have hP : va_P D vwCl [(x, .inr (5, [.ref a1, .ref a2, .ref a3, .ref a4])), (a1, wT tC 5 fs), ((qs 0), .inr (4, [.int 0, .int 1, .ref f, .int 0, .int (-1), .null, .int (-1), .null])), ((qs 1), .inr (4, [.int 1, .int 1, .ref f, .int 0, .int (-1), .null, .int (-1), .null])), ((qs 2), .inr (4, [.int 2, .int 1, .ref f, .int 0, .int (-1), .null, .int (-1), .null])), ((qs 4), .inr (4, [.int 4, .int 1, .ref f, .int 0, .int (-1), .null, .int (-1), .null])), ((qs 3), .inr (4, [.int 3, .int 1, .ref f, .int 0, .int (-1), .null, .int (-1), .null])), (a4, wS tC 5 (va_up (va_up (va_up (va_up (va_up gf 0 none) 1 none) 2 none) 3 (some f)) 4 none)), (f, .inr (3, [.ref e1, .ref e2, .int 5, .int 0])), (e1, wI tC 0 z1)] H := hP
              have hD : va_D A [(x, .inr (5, [.ref a1, .ref a2, .ref a3, .ref a4])), (a1, wT tC 5 fs), ((qs 0), .inr (4, [.int 0, .int 1, .ref f, .int 0, .int (-1), .null, .int (-1), .null])), ((qs 1), .inr (4, [.int 1, .int 1, .ref f, .int 0, .int (-1), .null, .int (-1), .null])), ((qs 2), .inr (4, [.int 2, .int 1, .ref f, .int 0, .int (-1), .null, .int (-1), .null])), ((qs 4), .inr (4, [.int 4, .int 1, .ref f, .int 0, .int (-1), .null, .int (-1), .null])), ((qs 3), .inr (4, [.int 3, .int 1, .ref f, .int 0, .int (-1), .null, .int (-1), .null])), (a4, wS tC 5 (va_up (va_up (va_up (va_up (va_up gf 0 none) 1 none) 2 none) 3 (some f)) 4 none)), (f, .inr (3, [.ref e1, .ref e2, .int 5, .int 0])), (e1, wI tC 0 z1)] := hD
              have q1 : r_34 = 0 := hw_35.trans (by unfold mayg cntb; rw [hb0, hb1, hb2, hb3, hb4] <;> decide)
              subst q1
              refine lv_if_eq (tgt := 114) hx hb dX4_allowed_107 (by decide) (fun _ => ?_) (fun hc => absurd (by decide) hc)
              refine lv_iconst (v := 0) hx hb dX4_allowed_114 (by decide) ?_
              have hP9 := hP.sub (ws' := []) [] rfl
              have hD9 := hD.sub (ws' := []) [] (by decide) rfl
              refine W.widen (k := 1) (n := 6) (by omega) (by omega) ?_
              exact vx_ret (W.zret (v := 0) hx hb hr (by decide) (fun t ht hW => ⟨⟨0, (), rfl, ⟨(by unfold mayg cntb; rw [hb0, hb1, hb2, hb3, hb4] <;> decide), bl1 hw_2 c_3⟩, (by rw [ht]; exact hP9), va_K.moved hW.alike hK, hD9⟩, hS.F ht⟩) hS.2.2 dX4_allowed_115 hlocks)
            · skip
              have hb4 : bqb p0 4 = true := bqT (fun h => c_31 (ez_30.trans h))
              refine lv_iconst (v := 1) hx hb dX4_allowed_34 (by decide) ?_
              refine lv_goto (tgt := 39) hx hb dX4_allowed_35 (by decide) ?_
              refine lv_istore_n (lv' := [(3, .int 1), (2, .int 4), (0, .ref x), (1, .int p0)]) hx hb dX4_allowed_39 rfl hl (by decide) rfl (fun ls hl => ?_)
              refine lv_iload_n hx hb dX4_allowed_40 rfl (lv_at hl 0 rfl) ?_
              refine lv_if_eq (tgt := 58) hx hb dX4_allowed_41 (by decide) (fun hc => absurd hc (by decide)) (fun _ => ?_)
              refine lv_aload_n hx hb dX4_allowed_44 rfl (lv_at hl 2 rfl) ?_
              refine va_get (D := D) (ci := 5) (v := .ref a1) (C := RX4) (T := TX4) (N := 4) hx hb hts in_X4_allowed_X4 hown hK hP 0 rfl rfl 0 (by decide) w_1 (fun _ h9 => h9) rfl dX4_allowed_45 ?_
              refine lv_iload_n hx hb dX4_allowed_48 rfl (lv_at hl 1 rfl) ?_
              refine va_aldq hx hb hK hP 1 3 rfl rfl (by unfold vp_in; decide) dX4_allowed_49 ?_
              rw [show fs (4 : Int32).toNatClampNeg = some (qs 4) from (by rw [show (4 : Int32).toNatClampNeg = 4 by decide]; exact hfs 4 (by decide))]
              refine W.eq (g2 := F0 m 50 ls [.ref (qs 4)]) rfl ?_
              have hPc := hP.sub (ws' := [((qs 4), .inr (4, [.int 4, .int 1, .ref f, .int 0, .int (-1), .null, .int (-1), .null]))]) [8] rfl
              have hDc := hD.sub (ws' := [((qs 4), .inr (4, [.int 4, .int 1, .ref f, .int 0, .int (-1), .null, .int (-1), .null]))]) [8] (by decide) rfl
              have hFc := va_free (wc := [((qs 4), .inr (4, [.int 4, .int 1, .ref f, .int 0, .int (-1), .null, .int (-1), .null]))]) hD hS hA [8] rfl
              refine va_calli (va_runVN (As := []) (rest := []) ⟨hx, hb, hml, hown, hts⟩ (c_X3_isFree l hlt D tC dz H.size f (qs 4) 4 ) ⟨(va_cnB (host := "NoticeStations") 0 hts gX4_allowed_X3_isFree_n240 rfl rfl rfl (hN.1 (.methodLinkNest "NoticeStations" 240 ⟨"NoticeStations$Station", "isFree", "()Z"⟩ "NoticeStations") (by decide +kernel)) w_2 (by decide +kernel) ⟨Nat.le_of_ble_eq_true rfl, Nat.le_of_ble_eq_true rfl⟩), w_3, w_4⟩ ⟨pB_blind, va_recv hK hPc (ci := 4) (q0 := 0) rfl rfl, pB_at hPc hDc hK hN hE hS hFc⟩ rfl rfl hl.1 rfl (lv_room (Nat.le_of_ble_eq_true rfl)) dX4_allowed_50 ⟨Nat.le_of_ble_eq_true rfl, Nat.le_of_ble_eq_true rfl⟩) hS (fun q _ h => hFc q h) hFc (fun r_36 u t H1 locs ht hvm hw hB hz1 hk1 hS => ?_)
              obtain ⟨hP1, _, hD1⟩ := hB
              have hw_37 := hw
              rw [ht] at hP1
              obtain ⟨hP, hD⟩ := va_join (wr := [(x, .inr (5, [.ref a1, .ref a2, .ref a3, .ref a4])), (a1, wT tC 5 fs), (a4, wS tC 5 (va_up (va_up (va_up (va_up gf 0 none) 1 none) 2 none) 3 (some f))), (f, .inr (3, [.ref e1, .ref e2, .int 5, .int 0])), (e1, wI tC 0 z1), ((qs 0), .inr (4, [.int 0, .int 1, .ref f, .int 0, .int (-1), .null, .int (-1), .null])), ((qs 1), .inr (4, [.int 1, .int 1, .ref f, .int 0, .int (-1), .null, .int (-1), .null])), ((qs 2), .inr (4, [.int 2, .int 1, .ref f, .int 0, .int (-1), .null, .int (-1), .null])), ((qs 3), .inr (4, [.int 3, .int 1, .ref f, .int 0, .int (-1), .null, .int (-1), .null]))]) (w1 := [((qs 4), .inr (4, [.int 4, .int 1, .ref f, .int 0, .int (-1), .null, .int (-1), .null]))]) hP hD [8] [0, 1, 2, 3, 4, 5, 6, 7, 9] rfl rfl (by decide) (by decide) hk1 hFc hP1 hD1
              generalize H1 = H at hP hS ⊢
              have hP : va_P D vwCl [(x, .inr (5, [.ref a1, .ref a2, .ref a3, .ref a4])), (a1, wT tC 5 fs), (a4, wS tC 5 (va_up (va_up (va_up (va_up gf 0 none) 1 none) 2 none) 3 (some f))), (f, .inr (3, [.ref e1, .ref e2, .int 5, .int 0])), (e1, wI tC 0 z1), ((qs 0), .inr (4, [.int 0, .int 1, .ref f, .int 0, .int (-1), .null, .int (-1), .null])), ((qs 1), .inr (4, [.int 1, .int 1, .ref f, .int 0, .int (-1), .null, .int (-1), .null])), ((qs 2), .inr (4, [.int 2, .int 1, .ref f, .int 0, .int (-1), .null, .int (-1), .null])), ((qs 3), .inr (4, [.int 3, .int 1, .ref f, .int 0, .int (-1), .null, .int (-1), .null])), ((qs 4), .inr (4, [.int 4, .int 1, .ref f, .int 0, .int (-1), .null, .int (-1), .null]))] H := hP
              have hD : va_D A [(x, .inr (5, [.ref a1, .ref a2, .ref a3, .ref a4])), (a1, wT tC 5 fs), (a4, wS tC 5 (va_up (va_up (va_up (va_up gf 0 none) 1 none) 2 none) 3 (some f))), (f, .inr (3, [.ref e1, .ref e2, .int 5, .int 0])), (e1, wI tC 0 z1), ((qs 0), .inr (4, [.int 0, .int 1, .ref f, .int 0, .int (-1), .null, .int (-1), .null])), ((qs 1), .inr (4, [.int 1, .int 1, .ref f, .int 0, .int (-1), .null, .int (-1), .null])), ((qs 2), .inr (4, [.int 2, .int 1, .ref f, .int 0, .int (-1), .null, .int (-1), .null])), ((qs 3), .inr (4, [.int 3, .int 1, .ref f, .int 0, .int (-1), .null, .int (-1), .null])), ((qs 4), .inr (4, [.int 4, .int 1, .ref f, .int 0, .int (-1), .null, .int (-1), .null]))] := hD
              subst hw_37
              refine lv_if_ne (tgt := 58) hx hb dX4_allowed_53 (by decide) (fun _ => ?_) (fun hc => absurd hc (by decide))
              refine lv_aload_n hx hb dX4_allowed_58 rfl (lv_at hl 2 rfl) ?_
              refine va_get (D := D) (ci := 5) (v := .ref a4) (C := RX4) (T := TX4) (N := 4) hx hb hts in_X4_allowed_X4 hown hK hP 0 rfl rfl 3 (by decide) w_0 (fun _ h9 => h9) rfl dX4_allowed_59 ?_
              refine lv_iload_n hx hb dX4_allowed_62 rfl (lv_at hl 1 rfl) ?_
              refine lv_iload_n hx hb dX4_allowed_63 rfl (lv_at hl 0 rfl) ?_
              refine lv_if_eq (tgt := 79) hx hb dX4_allowed_64 (by decide) (fun hc => absurd hc (by decide)) (fun _ => ?_)
              refine lv_aload_n hx hb dX4_allowed_67 rfl (lv_at hl 2 rfl) ?_
              refine va_get (D := D) (ci := 5) (v := .ref a1) (C := RX4) (T := TX4) (N := 4) hx hb hts in_X4_allowed_X4 hown hK hP 0 rfl rfl 0 (by decide) w_1 (fun _ h9 => h9) rfl dX4_allowed_68 ?_
              refine lv_iload_n hx hb dX4_allowed_71 rfl (lv_at hl 1 rfl) ?_
              refine va_aldq hx hb hK hP 1 3 rfl rfl (by unfold vp_in; decide) dX4_allowed_72 ?_
              rw [show fs (4 : Int32).toNatClampNeg = some (qs 4) from (by rw [show (4 : Int32).toNatClampNeg = 4 by decide]; exact hfs 4 (by decide))]
              refine W.eq (g2 := F0 m 73 ls [.ref (qs 4), .int 4, .ref a4]) rfl ?_
              refine va_getN (host := "NoticeStations") (D := D) (ci := 4) (v := .ref f) (C := RX3) (T := TX3) (N := 8) hx hb hts in_X4_allowed_X3 hown hK hP 9 rfl rfl 2 (by decide) (va_Nw.use rfl (hN.1 (.fieldLinkNest "NoticeStations" 61 "NoticeStations$Station" "stored" "LNoticeStations$Standing;" "NoticeStations") (by decide +kernel))) (fun _ h9 => h9) rfl dX4_allowed_73 ?_
              refine lv_goto (tgt := 80) hx hb dX4_allowed_76 (by decide) ?_
              refine va_astq hx hb hK hP hD hS 2 2 3 3 rfl rfl rfl rfl (by unfold vp_in; decide) dX4_allowed_80 (fun H locs hP hD hS => ?_)
              have hP : va_P D vwCl [(x, .inr (5, [.ref a1, .ref a2, .ref a3, .ref a4])), (a1, wT tC 5 fs), (a4, wS tC 5 (va_up (va_up (va_up (va_up (va_up gf 0 none) 1 none) 2 none) 3 (some f)) 4 (some f))), (f, .inr (3, [.ref e1, .ref e2, .int 5, .int 0])), (e1, wI tC 0 z1), ((qs 0), .inr (4, [.int 0, .int 1, .ref f, .int 0, .int (-1), .null, .int (-1), .null])), ((qs 1), .inr (4, [.int 1, .int 1, .ref f, .int 0, .int (-1), .null, .int (-1), .null])), ((qs 2), .inr (4, [.int 2, .int 1, .ref f, .int 0, .int (-1), .null, .int (-1), .null])), ((qs 3), .inr (4, [.int 3, .int 1, .ref f, .int 0, .int (-1), .null, .int (-1), .null])), ((qs 4), .inr (4, [.int 4, .int 1, .ref f, .int 0, .int (-1), .null, .int (-1), .null]))] H := hP
              have hD : va_D A [(x, .inr (5, [.ref a1, .ref a2, .ref a3, .ref a4])), (a1, wT tC 5 fs), (a4, wS tC 5 (va_up (va_up (va_up (va_up (va_up gf 0 none) 1 none) 2 none) 3 (some f)) 4 (some f))), (f, .inr (3, [.ref e1, .ref e2, .int 5, .int 0])), (e1, wI tC 0 z1), ((qs 0), .inr (4, [.int 0, .int 1, .ref f, .int 0, .int (-1), .null, .int (-1), .null])), ((qs 1), .inr (4, [.int 1, .int 1, .ref f, .int 0, .int (-1), .null, .int (-1), .null])), ((qs 2), .inr (4, [.int 2, .int 1, .ref f, .int 0, .int (-1), .null, .int (-1), .null])), ((qs 3), .inr (4, [.int 3, .int 1, .ref f, .int 0, .int (-1), .null, .int (-1), .null])), ((qs 4), .inr (4, [.int 4, .int 1, .ref f, .int 0, .int (-1), .null, .int (-1), .null]))] := hD
              refine lv_iinc (v := 5) (lv' := [(2, .int 5), (3, .int 1), (0, .ref x), (1, .int p0)]) hx hb dX4_allowed_81 hl (k := 1) rfl (by decide) (by decide) rfl (fun ls hl => ?_)
              refine lv_goto (tgt := 21) hx hb dX4_allowed_84 (by decide) ?_
              refine lv_iload_n hx hb dX4_allowed_21 rfl (lv_at hl 0 rfl) ?_
              refine lv_iconst (v := 5) hx hb dX4_allowed_22 (by decide) ?_
              refine lv_icmp_ge (tgt := 87) hx hb dX4_allowed_23 (by decide) (fun _ => ?_) (fun hc => absurd (by decide) hc)
              refine lv_aload_n hx hb dX4_allowed_87 rfl (lv_at hl 2 rfl) ?_
              refine va_get (D := D) (ci := 5) (v := .ref a4) (C := RX4) (T := TX4) (N := 4) hx hb hts in_X4_allowed_X4 hown hK hP 0 rfl rfl 3 (by decide) w_0 (fun _ h9 => h9) rfl dX4_allowed_88 ?_
              have hPc := hP.sub (ws' := [(a4, wS tC 5 (va_up (va_up (va_up (va_up (va_up gf 0 none) 1 none) 2 none) 3 (some f)) 4 (some f))), (f, .inr (3, [.ref e1, .ref e2, .int 5, .int 0])), (e1, wI tC 0 z1)]) [2, 3, 4] rfl
              have hDc := hD.sub (ws' := [(a4, wS tC 5 (va_up (va_up (va_up (va_up (va_up gf 0 none) 1 none) 2 none) 3 (some f)) 4 (some f))), (f, .inr (3, [.ref e1, .ref e2, .int 5, .int 0])), (e1, wI tC 0 z1)]) [2, 3, 4] (by decide) rfl
              have hFc := va_free (wc := [(a4, wS tC 5 (va_up (va_up (va_up (va_up (va_up gf 0 none) 1 none) 2 none) 3 (some f)) 4 (some f))), (f, .inr (3, [.ref e1, .ref e2, .int 5, .int 0])), (e1, wI tC 0 z1)]) hD hS hA [2, 3, 4] rfl
              refine va_callq (va_runS (As := [.ref a4]) (rest := []) ⟨hx, hb, hml, hown, hts⟩ (c_X4_heldByHolders l hlt D tC dz H.size a4 (va_up (va_up (va_up (va_up (va_up gf 0 none) 1 none) 2 none) 3 (some f)) 4 (some f)) (bqb p0) f e1 e2 z1 (by intro j hj; rcases (show j = 0 ∨ j = 1 ∨ j = 2 ∨ j = 3 ∨ j = 4 by omega) with rfl | rfl | rfl | rfl | rfl <;> simp [va_up, hb0, hb1, hb2, hb3, hb4])) (va_cwS 1 hts gX4_allowed_X4_heldByHolders rfl rfl rfl (by decide +kernel) ⟨Nat.le_of_ble_eq_true rfl, Nat.le_of_ble_eq_true rfl⟩) ⟨pB_blind, pB_at hPc hDc hK hN hE hS hFc⟩ rfl rfl hl.1 rfl (lv_room (Nat.le_of_ble_eq_true rfl)) dX4_allowed_91 ⟨Nat.le_of_ble_eq_true rfl, Nat.le_of_ble_eq_true rfl⟩) hS (fun q _ h => hFc q h) hFc (fun r_38 u t H1 locs ht hvm hw hB hz1 hk1 hS => ?_)
              obtain ⟨hP1, _, hD1⟩ := hB
              have hw_39 := hw
              rw [ht] at hP1
              obtain ⟨hP, hD⟩ := va_join (wr := [(x, .inr (5, [.ref a1, .ref a2, .ref a3, .ref a4])), (a1, wT tC 5 fs), ((qs 0), .inr (4, [.int 0, .int 1, .ref f, .int 0, .int (-1), .null, .int (-1), .null])), ((qs 1), .inr (4, [.int 1, .int 1, .ref f, .int 0, .int (-1), .null, .int (-1), .null])), ((qs 2), .inr (4, [.int 2, .int 1, .ref f, .int 0, .int (-1), .null, .int (-1), .null])), ((qs 3), .inr (4, [.int 3, .int 1, .ref f, .int 0, .int (-1), .null, .int (-1), .null])), ((qs 4), .inr (4, [.int 4, .int 1, .ref f, .int 0, .int (-1), .null, .int (-1), .null]))]) (w1 := [(a4, wS tC 5 (va_up (va_up (va_up (va_up (va_up gf 0 none) 1 none) 2 none) 3 (some f)) 4 (some f))), (f, .inr (3, [.ref e1, .ref e2, .int 5, .int 0])), (e1, wI tC 0 z1)]) hP hD [2, 3, 4] [0, 1, 5, 6, 7, 8, 9] rfl rfl (by decide) (by decide) hk1 hFc hP1 hD1
              generalize H1 = H at hP hS ⊢
              have hP : va_P D vwCl [(x, .inr (5, [.ref a1, .ref a2, .ref a3, .ref a4])), (a1, wT tC 5 fs), ((qs 0), .inr (4, [.int 0, .int 1, .ref f, .int 0, .int (-1), .null, .int (-1), .null])), ((qs 1), .inr (4, [.int 1, .int 1, .ref f, .int 0, .int (-1), .null, .int (-1), .null])), ((qs 2), .inr (4, [.int 2, .int 1, .ref f, .int 0, .int (-1), .null, .int (-1), .null])), ((qs 3), .inr (4, [.int 3, .int 1, .ref f, .int 0, .int (-1), .null, .int (-1), .null])), ((qs 4), .inr (4, [.int 4, .int 1, .ref f, .int 0, .int (-1), .null, .int (-1), .null])), (a4, wS tC 5 (va_up (va_up (va_up (va_up (va_up gf 0 none) 1 none) 2 none) 3 (some f)) 4 (some f))), (f, .inr (3, [.ref e1, .ref e2, .int 5, .int 0])), (e1, wI tC 0 z1)] H := hP
              have hD : va_D A [(x, .inr (5, [.ref a1, .ref a2, .ref a3, .ref a4])), (a1, wT tC 5 fs), ((qs 0), .inr (4, [.int 0, .int 1, .ref f, .int 0, .int (-1), .null, .int (-1), .null])), ((qs 1), .inr (4, [.int 1, .int 1, .ref f, .int 0, .int (-1), .null, .int (-1), .null])), ((qs 2), .inr (4, [.int 2, .int 1, .ref f, .int 0, .int (-1), .null, .int (-1), .null])), ((qs 3), .inr (4, [.int 3, .int 1, .ref f, .int 0, .int (-1), .null, .int (-1), .null])), ((qs 4), .inr (4, [.int 4, .int 1, .ref f, .int 0, .int (-1), .null, .int (-1), .null])), (a4, wS tC 5 (va_up (va_up (va_up (va_up (va_up gf 0 none) 1 none) 2 none) 3 (some f)) 4 (some f))), (f, .inr (3, [.ref e1, .ref e2, .int 5, .int 0])), (e1, wI tC 0 z1)] := hD
              have q1 : r_38 = some f := hw_39.trans (by rw [hb0, hb1, hb2, hb3, hb4] <;> rfl)
              subst q1
              refine W.eq (g2 := F0 m 94 ls [.ref f]) rfl ?_
              refine lv_astore_n (lv' := [(2, .ref f), (3, .int 1), (0, .ref x), (1, .int p0)]) hx hb dX4_allowed_94 rfl hl (by decide) rfl (fun ls hl => ?_)
              refine lv_aload_n hx hb dX4_allowed_95 rfl (lv_at hl 0 rfl) ?_
              refine lv_ifnull hx hb dX4_allowed_96 ?_
              refine lv_aload_n hx hb dX4_allowed_99 rfl (lv_at hl 2 rfl) ?_
              refine va_get (D := D) (ci := 5) (v := .ref a4) (C := RX4) (T := TX4) (N := 4) hx hb hts in_X4_allowed_X4 hown hK hP 0 rfl rfl 3 (by decide) w_0 (fun _ h9 => h9) rfl dX4_allowed_100 ?_
              refine lv_aload_n hx hb dX4_allowed_103 rfl (lv_at hl 0 rfl) ?_
              have hPc := hP.sub (ws' := [(a4, wS tC 5 (va_up (va_up (va_up (va_up (va_up gf 0 none) 1 none) 2 none) 3 (some f)) 4 (some f))), (f, .inr (3, [.ref e1, .ref e2, .int 5, .int 0])), (e1, wI tC 0 z1)]) [7, 8, 9] rfl
              have hDc := hD.sub (ws' := [(a4, wS tC 5 (va_up (va_up (va_up (va_up (va_up gf 0 none) 1 none) 2 none) 3 (some f)) 4 (some f))), (f, .inr (3, [.ref e1, .ref e2, .int 5, .int 0])), (e1, wI tC 0 z1)]) [7, 8, 9] (by decide) rfl
              have hFc := va_free (wc := [(a4, wS tC 5 (va_up (va_up (va_up (va_up (va_up gf 0 none) 1 none) 2 none) 3 (some f)) 4 (some f))), (f, .inr (3, [.ref e1, .ref e2, .int 5, .int 0])), (e1, wI tC 0 z1)]) hD hS hA [7, 8, 9] rfl
              refine va_calli (va_runS (As := [.ref a4, .ref f]) (rest := []) ⟨hx, hb, hml, hown, hts⟩ (c_X4_mayGoOn l hlt D tC dz H.size a4 (va_up (va_up (va_up (va_up (va_up gf 0 none) 1 none) 2 none) 3 (some f)) 4 (some f)) (bqb p0) f e1 e2 z1 (by intro j hj; rcases (show j = 0 ∨ j = 1 ∨ j = 2 ∨ j = 3 ∨ j = 4 by omega) with rfl | rfl | rfl | rfl | rfl <;> simp [va_up, hb0, hb1, hb2, hb3, hb4])) (va_cwS 2 hts gX4_allowed_X4_mayGoOn rfl rfl rfl (by decide +kernel) ⟨Nat.le_of_ble_eq_true rfl, Nat.le_of_ble_eq_true rfl⟩) ⟨pB_blind, pB_at hPc hDc hK hN hE hS hFc⟩ rfl rfl hl.1 rfl (lv_room (Nat.le_of_ble_eq_true rfl)) dX4_allowed_104 ⟨Nat.le_of_ble_eq_true rfl, Nat.le_of_ble_eq_true rfl⟩) hS (fun q _ h => hFc q h) hFc (fun r_40 u t H1 locs ht hvm hw hB hz1 hk1 hS => ?_)
              obtain ⟨hP1, _, hD1⟩ := hB
              have hw_41 := hw
              rw [ht] at hP1
              obtain ⟨hP, hD⟩ := va_join (wr := [(x, .inr (5, [.ref a1, .ref a2, .ref a3, .ref a4])), (a1, wT tC 5 fs), ((qs 0), .inr (4, [.int 0, .int 1, .ref f, .int 0, .int (-1), .null, .int (-1), .null])), ((qs 1), .inr (4, [.int 1, .int 1, .ref f, .int 0, .int (-1), .null, .int (-1), .null])), ((qs 2), .inr (4, [.int 2, .int 1, .ref f, .int 0, .int (-1), .null, .int (-1), .null])), ((qs 3), .inr (4, [.int 3, .int 1, .ref f, .int 0, .int (-1), .null, .int (-1), .null])), ((qs 4), .inr (4, [.int 4, .int 1, .ref f, .int 0, .int (-1), .null, .int (-1), .null]))]) (w1 := [(a4, wS tC 5 (va_up (va_up (va_up (va_up (va_up gf 0 none) 1 none) 2 none) 3 (some f)) 4 (some f))), (f, .inr (3, [.ref e1, .ref e2, .int 5, .int 0])), (e1, wI tC 0 z1)]) hP hD [7, 8, 9] [0, 1, 2, 3, 4, 5, 6] rfl rfl (by decide) (by decide) hk1 hFc hP1 hD1
              generalize H1 = H at hP hS ⊢
              have hP : va_P D vwCl [(x, .inr (5, [.ref a1, .ref a2, .ref a3, .ref a4])), (a1, wT tC 5 fs), ((qs 0), .inr (4, [.int 0, .int 1, .ref f, .int 0, .int (-1), .null, .int (-1), .null])), ((qs 1), .inr (4, [.int 1, .int 1, .ref f, .int 0, .int (-1), .null, .int (-1), .null])), ((qs 2), .inr (4, [.int 2, .int 1, .ref f, .int 0, .int (-1), .null, .int (-1), .null])), ((qs 3), .inr (4, [.int 3, .int 1, .ref f, .int 0, .int (-1), .null, .int (-1), .null])), ((qs 4), .inr (4, [.int 4, .int 1, .ref f, .int 0, .int (-1), .null, .int (-1), .null])), (a4, wS tC 5 (va_up (va_up (va_up (va_up (va_up gf 0 none) 1 none) 2 none) 3 (some f)) 4 (some f))), (f, .inr (3, [.ref e1, .ref e2, .int 5, .int 0])), (e1, wI tC 0 z1)] H := hP
              have hD : va_D A [(x, .inr (5, [.ref a1, .ref a2, .ref a3, .ref a4])), (a1, wT tC 5 fs), ((qs 0), .inr (4, [.int 0, .int 1, .ref f, .int 0, .int (-1), .null, .int (-1), .null])), ((qs 1), .inr (4, [.int 1, .int 1, .ref f, .int 0, .int (-1), .null, .int (-1), .null])), ((qs 2), .inr (4, [.int 2, .int 1, .ref f, .int 0, .int (-1), .null, .int (-1), .null])), ((qs 3), .inr (4, [.int 3, .int 1, .ref f, .int 0, .int (-1), .null, .int (-1), .null])), ((qs 4), .inr (4, [.int 4, .int 1, .ref f, .int 0, .int (-1), .null, .int (-1), .null])), (a4, wS tC 5 (va_up (va_up (va_up (va_up (va_up gf 0 none) 1 none) 2 none) 3 (some f)) 4 (some f))), (f, .inr (3, [.ref e1, .ref e2, .int 5, .int 0])), (e1, wI tC 0 z1)] := hD
              have q1 : r_40 = 0 := hw_41.trans (by unfold mayg cntb; rw [hb0, hb1, hb2, hb3, hb4] <;> decide)
              subst q1
              refine lv_if_eq (tgt := 114) hx hb dX4_allowed_107 (by decide) (fun _ => ?_) (fun hc => absurd (by decide) hc)
              refine lv_iconst (v := 0) hx hb dX4_allowed_114 (by decide) ?_
              have hP9 := hP.sub (ws' := []) [] rfl
              have hD9 := hD.sub (ws' := []) [] (by decide) rfl
              refine W.widen (k := 1) (n := 6) (by omega) (by omega) ?_
              exact vx_ret (W.zret (v := 0) hx hb hr (by decide) (fun t ht hW => ⟨⟨0, (), rfl, ⟨(by unfold mayg cntb; rw [hb0, hb1, hb2, hb3, hb4] <;> decide), bl1 hw_2 c_3⟩, (by rw [ht]; exact hP9), va_K.moved hW.alike hK, hD9⟩, hS.F ht⟩) hS.2.2 dX4_allowed_115 hlocks)
        · skip
          have hb2 : bqb p0 2 = true := bqT (fun h => c_12 (ez_11.trans h))
          refine lv_iconst (v := 1) hx hb dX4_allowed_34 (by decide) ?_
          refine lv_goto (tgt := 39) hx hb dX4_allowed_35 (by decide) ?_
          refine lv_istore_n (lv' := [(3, .int 1), (2, .int 2), (0, .ref x), (1, .int p0)]) hx hb dX4_allowed_39 rfl hl (by decide) rfl (fun ls hl => ?_)
          refine lv_iload_n hx hb dX4_allowed_40 rfl (lv_at hl 0 rfl) ?_
          refine lv_if_eq (tgt := 58) hx hb dX4_allowed_41 (by decide) (fun hc => absurd hc (by decide)) (fun _ => ?_)
          refine lv_aload_n hx hb dX4_allowed_44 rfl (lv_at hl 2 rfl) ?_
          refine va_get (D := D) (ci := 5) (v := .ref a1) (C := RX4) (T := TX4) (N := 4) hx hb hts in_X4_allowed_X4 hown hK hP 0 rfl rfl 0 (by decide) w_1 (fun _ h9 => h9) rfl dX4_allowed_45 ?_
          refine lv_iload_n hx hb dX4_allowed_48 rfl (lv_at hl 1 rfl) ?_
          refine va_aldq hx hb hK hP 1 3 rfl rfl (by unfold vp_in; decide) dX4_allowed_49 ?_
          rw [show fs (2 : Int32).toNatClampNeg = some (qs 2) from (by rw [show (2 : Int32).toNatClampNeg = 2 by decide]; exact hfs 2 (by decide))]
          refine W.eq (g2 := F0 m 50 ls [.ref (qs 2)]) rfl ?_
          have hPc := hP.sub (ws' := [((qs 2), .inr (4, [.int 2, .int 1, .ref f, .int 0, .int (-1), .null, .int (-1), .null]))]) [7] rfl
          have hDc := hD.sub (ws' := [((qs 2), .inr (4, [.int 2, .int 1, .ref f, .int 0, .int (-1), .null, .int (-1), .null]))]) [7] (by decide) rfl
          have hFc := va_free (wc := [((qs 2), .inr (4, [.int 2, .int 1, .ref f, .int 0, .int (-1), .null, .int (-1), .null]))]) hD hS hA [7] rfl
          refine va_calli (va_runVN (As := []) (rest := []) ⟨hx, hb, hml, hown, hts⟩ (c_X3_isFree l hlt D tC dz H.size f (qs 2) 2 ) ⟨(va_cnB (host := "NoticeStations") 0 hts gX4_allowed_X3_isFree_n240 rfl rfl rfl (hN.1 (.methodLinkNest "NoticeStations" 240 ⟨"NoticeStations$Station", "isFree", "()Z"⟩ "NoticeStations") (by decide +kernel)) w_2 (by decide +kernel) ⟨Nat.le_of_ble_eq_true rfl, Nat.le_of_ble_eq_true rfl⟩), w_3, w_4⟩ ⟨pB_blind, va_recv hK hPc (ci := 4) (q0 := 0) rfl rfl, pB_at hPc hDc hK hN hE hS hFc⟩ rfl rfl hl.1 rfl (lv_room (Nat.le_of_ble_eq_true rfl)) dX4_allowed_50 ⟨Nat.le_of_ble_eq_true rfl, Nat.le_of_ble_eq_true rfl⟩) hS (fun q _ h => hFc q h) hFc (fun r_42 u t H1 locs ht hvm hw hB hz1 hk1 hS => ?_)
          obtain ⟨hP1, _, hD1⟩ := hB
          have hw_43 := hw
          rw [ht] at hP1
          obtain ⟨hP, hD⟩ := va_join (wr := [(x, .inr (5, [.ref a1, .ref a2, .ref a3, .ref a4])), (a1, wT tC 5 fs), (a4, wS tC 5 (va_up (va_up gf 0 none) 1 none)), (f, .inr (3, [.ref e1, .ref e2, .int 5, .int 0])), (e1, wI tC 0 z1), ((qs 0), .inr (4, [.int 0, .int 1, .ref f, .int 0, .int (-1), .null, .int (-1), .null])), ((qs 1), .inr (4, [.int 1, .int 1, .ref f, .int 0, .int (-1), .null, .int (-1), .null])), ((qs 3), .inr (4, [.int 3, .int 1, .ref f, .int 0, .int (-1), .null, .int (-1), .null])), ((qs 4), .inr (4, [.int 4, .int 1, .ref f, .int 0, .int (-1), .null, .int (-1), .null]))]) (w1 := [((qs 2), .inr (4, [.int 2, .int 1, .ref f, .int 0, .int (-1), .null, .int (-1), .null]))]) hP hD [7] [0, 1, 2, 3, 4, 5, 6, 8, 9] rfl rfl (by decide) (by decide) hk1 hFc hP1 hD1
          generalize H1 = H at hP hS ⊢
          have hP : va_P D vwCl [(x, .inr (5, [.ref a1, .ref a2, .ref a3, .ref a4])), (a1, wT tC 5 fs), (a4, wS tC 5 (va_up (va_up gf 0 none) 1 none)), (f, .inr (3, [.ref e1, .ref e2, .int 5, .int 0])), (e1, wI tC 0 z1), ((qs 0), .inr (4, [.int 0, .int 1, .ref f, .int 0, .int (-1), .null, .int (-1), .null])), ((qs 1), .inr (4, [.int 1, .int 1, .ref f, .int 0, .int (-1), .null, .int (-1), .null])), ((qs 3), .inr (4, [.int 3, .int 1, .ref f, .int 0, .int (-1), .null, .int (-1), .null])), ((qs 4), .inr (4, [.int 4, .int 1, .ref f, .int 0, .int (-1), .null, .int (-1), .null])), ((qs 2), .inr (4, [.int 2, .int 1, .ref f, .int 0, .int (-1), .null, .int (-1), .null]))] H := hP
          have hD : va_D A [(x, .inr (5, [.ref a1, .ref a2, .ref a3, .ref a4])), (a1, wT tC 5 fs), (a4, wS tC 5 (va_up (va_up gf 0 none) 1 none)), (f, .inr (3, [.ref e1, .ref e2, .int 5, .int 0])), (e1, wI tC 0 z1), ((qs 0), .inr (4, [.int 0, .int 1, .ref f, .int 0, .int (-1), .null, .int (-1), .null])), ((qs 1), .inr (4, [.int 1, .int 1, .ref f, .int 0, .int (-1), .null, .int (-1), .null])), ((qs 3), .inr (4, [.int 3, .int 1, .ref f, .int 0, .int (-1), .null, .int (-1), .null])), ((qs 4), .inr (4, [.int 4, .int 1, .ref f, .int 0, .int (-1), .null, .int (-1), .null])), ((qs 2), .inr (4, [.int 2, .int 1, .ref f, .int 0, .int (-1), .null, .int (-1), .null]))] := hD
          subst hw_43
          refine lv_if_ne (tgt := 58) hx hb dX4_allowed_53 (by decide) (fun _ => ?_) (fun hc => absurd hc (by decide))
          refine lv_aload_n hx hb dX4_allowed_58 rfl (lv_at hl 2 rfl) ?_
          refine va_get (D := D) (ci := 5) (v := .ref a4) (C := RX4) (T := TX4) (N := 4) hx hb hts in_X4_allowed_X4 hown hK hP 0 rfl rfl 3 (by decide) w_0 (fun _ h9 => h9) rfl dX4_allowed_59 ?_
          refine lv_iload_n hx hb dX4_allowed_62 rfl (lv_at hl 1 rfl) ?_
          refine lv_iload_n hx hb dX4_allowed_63 rfl (lv_at hl 0 rfl) ?_
          refine lv_if_eq (tgt := 79) hx hb dX4_allowed_64 (by decide) (fun hc => absurd hc (by decide)) (fun _ => ?_)
          refine lv_aload_n hx hb dX4_allowed_67 rfl (lv_at hl 2 rfl) ?_
          refine va_get (D := D) (ci := 5) (v := .ref a1) (C := RX4) (T := TX4) (N := 4) hx hb hts in_X4_allowed_X4 hown hK hP 0 rfl rfl 0 (by decide) w_1 (fun _ h9 => h9) rfl dX4_allowed_68 ?_
          refine lv_iload_n hx hb dX4_allowed_71 rfl (lv_at hl 1 rfl) ?_
          refine va_aldq hx hb hK hP 1 3 rfl rfl (by unfold vp_in; decide) dX4_allowed_72 ?_
          rw [show fs (2 : Int32).toNatClampNeg = some (qs 2) from (by rw [show (2 : Int32).toNatClampNeg = 2 by decide]; exact hfs 2 (by decide))]
          refine W.eq (g2 := F0 m 73 ls [.ref (qs 2), .int 2, .ref a4]) rfl ?_
          refine va_getN (host := "NoticeStations") (D := D) (ci := 4) (v := .ref f) (C := RX3) (T := TX3) (N := 8) hx hb hts in_X4_allowed_X3 hown hK hP 9 rfl rfl 2 (by decide) (va_Nw.use rfl (hN.1 (.fieldLinkNest "NoticeStations" 61 "NoticeStations$Station" "stored" "LNoticeStations$Standing;" "NoticeStations") (by decide +kernel))) (fun _ h9 => h9) rfl dX4_allowed_73 ?_
          refine lv_goto (tgt := 80) hx hb dX4_allowed_76 (by decide) ?_
          refine va_astq hx hb hK hP hD hS 2 2 3 3 rfl rfl rfl rfl (by unfold vp_in; decide) dX4_allowed_80 (fun H locs hP hD hS => ?_)
          have hP : va_P D vwCl [(x, .inr (5, [.ref a1, .ref a2, .ref a3, .ref a4])), (a1, wT tC 5 fs), (a4, wS tC 5 (va_up (va_up (va_up gf 0 none) 1 none) 2 (some f))), (f, .inr (3, [.ref e1, .ref e2, .int 5, .int 0])), (e1, wI tC 0 z1), ((qs 0), .inr (4, [.int 0, .int 1, .ref f, .int 0, .int (-1), .null, .int (-1), .null])), ((qs 1), .inr (4, [.int 1, .int 1, .ref f, .int 0, .int (-1), .null, .int (-1), .null])), ((qs 3), .inr (4, [.int 3, .int 1, .ref f, .int 0, .int (-1), .null, .int (-1), .null])), ((qs 4), .inr (4, [.int 4, .int 1, .ref f, .int 0, .int (-1), .null, .int (-1), .null])), ((qs 2), .inr (4, [.int 2, .int 1, .ref f, .int 0, .int (-1), .null, .int (-1), .null]))] H := hP
          have hD : va_D A [(x, .inr (5, [.ref a1, .ref a2, .ref a3, .ref a4])), (a1, wT tC 5 fs), (a4, wS tC 5 (va_up (va_up (va_up gf 0 none) 1 none) 2 (some f))), (f, .inr (3, [.ref e1, .ref e2, .int 5, .int 0])), (e1, wI tC 0 z1), ((qs 0), .inr (4, [.int 0, .int 1, .ref f, .int 0, .int (-1), .null, .int (-1), .null])), ((qs 1), .inr (4, [.int 1, .int 1, .ref f, .int 0, .int (-1), .null, .int (-1), .null])), ((qs 3), .inr (4, [.int 3, .int 1, .ref f, .int 0, .int (-1), .null, .int (-1), .null])), ((qs 4), .inr (4, [.int 4, .int 1, .ref f, .int 0, .int (-1), .null, .int (-1), .null])), ((qs 2), .inr (4, [.int 2, .int 1, .ref f, .int 0, .int (-1), .null, .int (-1), .null]))] := hD
          refine lv_iinc (v := 3) (lv' := [(2, .int 3), (3, .int 1), (0, .ref x), (1, .int p0)]) hx hb dX4_allowed_81 hl (k := 1) rfl (by decide) (by decide) rfl (fun ls hl => ?_)
          refine lv_goto (tgt := 21) hx hb dX4_allowed_84 (by decide) ?_
          refine lv_iload_n hx hb dX4_allowed_21 rfl (lv_at hl 0 rfl) ?_
          refine lv_iconst (v := 5) hx hb dX4_allowed_22 (by decide) ?_
          refine lv_icmp_ge (tgt := 87) hx hb dX4_allowed_23 (by decide) (fun hc => absurd hc (by decide)) (fun _ => ?_)
          refine lv_iload_n hx hb dX4_allowed_26 rfl (lv_at hl 3 rfl) ?_
          refine lv_iconst (v := 1) hx hb dX4_allowed_27 (by decide) ?_
          refine lv_iload_n hx hb dX4_allowed_28 rfl (lv_at hl 0 rfl) ?_
          refine lv_ishl hx hb dX4_allowed_29 ?_
          refine lv_topi (fun z_44 ez_44 => ?_)
          have fz_44 : z_44 = 8 := ez_44.trans (by decide)
          subst fz_44
          refine lv_iand hx hb dX4_allowed_30 ?_
          refine lv_topi (fun z_45 ez_45 => ?_)
          refine lv_if_eq (tgt := 38) hx hb dX4_allowed_31 (by decide) (fun c_46 => ?_) (fun c_46 => ?_)
          · skip
            have hb3 : bqb p0 3 = false := bqF (ez_45.symm.trans c_46)
            refine lv_iconst (v := 0) hx hb dX4_allowed_38 (by decide) ?_
            refine lv_istore_n (lv' := [(3, .int 0), (2, .int 3), (0, .ref x), (1, .int p0)]) hx hb dX4_allowed_39 rfl hl (by decide) rfl (fun ls hl => ?_)
            refine lv_iload_n hx hb dX4_allowed_40 rfl (lv_at hl 0 rfl) ?_
            refine lv_if_eq (tgt := 58) hx hb dX4_allowed_41 (by decide) (fun _ => ?_) (fun hc => absurd (by decide) hc)
            refine lv_aload_n hx hb dX4_allowed_58 rfl (lv_at hl 2 rfl) ?_
            refine va_get (D := D) (ci := 5) (v := .ref a4) (C := RX4) (T := TX4) (N := 4) hx hb hts in_X4_allowed_X4 hown hK hP 0 rfl rfl 3 (by decide) w_0 (fun _ h9 => h9) rfl dX4_allowed_59 ?_
            refine lv_iload_n hx hb dX4_allowed_62 rfl (lv_at hl 1 rfl) ?_
            refine lv_iload_n hx hb dX4_allowed_63 rfl (lv_at hl 0 rfl) ?_
            refine lv_if_eq (tgt := 79) hx hb dX4_allowed_64 (by decide) (fun _ => ?_) (fun hc => absurd (by decide) hc)
            refine lv_null hx hb dX4_allowed_79 ?_
            refine va_astqN hx hb hK hP hD hS 2 2 rfl rfl (by unfold vp_in; decide) dX4_allowed_80 (fun H locs hP hD hS => ?_)
            have hP : va_P D vwCl [(x, .inr (5, [.ref a1, .ref a2, .ref a3, .ref a4])), (a1, wT tC 5 fs), (a4, wS tC 5 (va_up (va_up (va_up (va_up gf 0 none) 1 none) 2 (some f)) 3 none)), (f, .inr (3, [.ref e1, .ref e2, .int 5, .int 0])), (e1, wI tC 0 z1), ((qs 0), .inr (4, [.int 0, .int 1, .ref f, .int 0, .int (-1), .null, .int (-1), .null])), ((qs 1), .inr (4, [.int 1, .int 1, .ref f, .int 0, .int (-1), .null, .int (-1), .null])), ((qs 3), .inr (4, [.int 3, .int 1, .ref f, .int 0, .int (-1), .null, .int (-1), .null])), ((qs 4), .inr (4, [.int 4, .int 1, .ref f, .int 0, .int (-1), .null, .int (-1), .null])), ((qs 2), .inr (4, [.int 2, .int 1, .ref f, .int 0, .int (-1), .null, .int (-1), .null]))] H := hP
            have hD : va_D A [(x, .inr (5, [.ref a1, .ref a2, .ref a3, .ref a4])), (a1, wT tC 5 fs), (a4, wS tC 5 (va_up (va_up (va_up (va_up gf 0 none) 1 none) 2 (some f)) 3 none)), (f, .inr (3, [.ref e1, .ref e2, .int 5, .int 0])), (e1, wI tC 0 z1), ((qs 0), .inr (4, [.int 0, .int 1, .ref f, .int 0, .int (-1), .null, .int (-1), .null])), ((qs 1), .inr (4, [.int 1, .int 1, .ref f, .int 0, .int (-1), .null, .int (-1), .null])), ((qs 3), .inr (4, [.int 3, .int 1, .ref f, .int 0, .int (-1), .null, .int (-1), .null])), ((qs 4), .inr (4, [.int 4, .int 1, .ref f, .int 0, .int (-1), .null, .int (-1), .null])), ((qs 2), .inr (4, [.int 2, .int 1, .ref f, .int 0, .int (-1), .null, .int (-1), .null]))] := hD
            refine lv_iinc (v := 4) (lv' := [(2, .int 4), (3, .int 0), (0, .ref x), (1, .int p0)]) hx hb dX4_allowed_81 hl (k := 1) rfl (by decide) (by decide) rfl (fun ls hl => ?_)
            refine lv_goto (tgt := 21) hx hb dX4_allowed_84 (by decide) ?_
            refine lv_iload_n hx hb dX4_allowed_21 rfl (lv_at hl 0 rfl) ?_
            refine lv_iconst (v := 5) hx hb dX4_allowed_22 (by decide) ?_
            refine lv_icmp_ge (tgt := 87) hx hb dX4_allowed_23 (by decide) (fun hc => absurd hc (by decide)) (fun _ => ?_)
            refine lv_iload_n hx hb dX4_allowed_26 rfl (lv_at hl 3 rfl) ?_
            refine lv_iconst (v := 1) hx hb dX4_allowed_27 (by decide) ?_
            refine lv_iload_n hx hb dX4_allowed_28 rfl (lv_at hl 0 rfl) ?_
            refine lv_ishl hx hb dX4_allowed_29 ?_
            refine lv_topi (fun z_47 ez_47 => ?_)
            have fz_47 : z_47 = 16 := ez_47.trans (by decide)
            subst fz_47
            refine lv_iand hx hb dX4_allowed_30 ?_
            refine lv_topi (fun z_48 ez_48 => ?_)
            refine lv_if_eq (tgt := 38) hx hb dX4_allowed_31 (by decide) (fun c_49 => ?_) (fun c_49 => ?_)
            · skip
              have hb4 : bqb p0 4 = false := bqF (ez_48.symm.trans c_49)
              refine lv_iconst (v := 0) hx hb dX4_allowed_38 (by decide) ?_
              refine lv_istore_n (lv' := [(3, .int 0), (2, .int 4), (0, .ref x), (1, .int p0)]) hx hb dX4_allowed_39 rfl hl (by decide) rfl (fun ls hl => ?_)
              refine lv_iload_n hx hb dX4_allowed_40 rfl (lv_at hl 0 rfl) ?_
              refine lv_if_eq (tgt := 58) hx hb dX4_allowed_41 (by decide) (fun _ => ?_) (fun hc => absurd (by decide) hc)
              refine lv_aload_n hx hb dX4_allowed_58 rfl (lv_at hl 2 rfl) ?_
              refine va_get (D := D) (ci := 5) (v := .ref a4) (C := RX4) (T := TX4) (N := 4) hx hb hts in_X4_allowed_X4 hown hK hP 0 rfl rfl 3 (by decide) w_0 (fun _ h9 => h9) rfl dX4_allowed_59 ?_
              refine lv_iload_n hx hb dX4_allowed_62 rfl (lv_at hl 1 rfl) ?_
              refine lv_iload_n hx hb dX4_allowed_63 rfl (lv_at hl 0 rfl) ?_
              refine lv_if_eq (tgt := 79) hx hb dX4_allowed_64 (by decide) (fun _ => ?_) (fun hc => absurd (by decide) hc)
              refine lv_null hx hb dX4_allowed_79 ?_
              refine va_astqN hx hb hK hP hD hS 2 2 rfl rfl (by unfold vp_in; decide) dX4_allowed_80 (fun H locs hP hD hS => ?_)
              have hP : va_P D vwCl [(x, .inr (5, [.ref a1, .ref a2, .ref a3, .ref a4])), (a1, wT tC 5 fs), (a4, wS tC 5 (va_up (va_up (va_up (va_up (va_up gf 0 none) 1 none) 2 (some f)) 3 none) 4 none)), (f, .inr (3, [.ref e1, .ref e2, .int 5, .int 0])), (e1, wI tC 0 z1), ((qs 0), .inr (4, [.int 0, .int 1, .ref f, .int 0, .int (-1), .null, .int (-1), .null])), ((qs 1), .inr (4, [.int 1, .int 1, .ref f, .int 0, .int (-1), .null, .int (-1), .null])), ((qs 3), .inr (4, [.int 3, .int 1, .ref f, .int 0, .int (-1), .null, .int (-1), .null])), ((qs 4), .inr (4, [.int 4, .int 1, .ref f, .int 0, .int (-1), .null, .int (-1), .null])), ((qs 2), .inr (4, [.int 2, .int 1, .ref f, .int 0, .int (-1), .null, .int (-1), .null]))] H := hP
              have hD : va_D A [(x, .inr (5, [.ref a1, .ref a2, .ref a3, .ref a4])), (a1, wT tC 5 fs), (a4, wS tC 5 (va_up (va_up (va_up (va_up (va_up gf 0 none) 1 none) 2 (some f)) 3 none) 4 none)), (f, .inr (3, [.ref e1, .ref e2, .int 5, .int 0])), (e1, wI tC 0 z1), ((qs 0), .inr (4, [.int 0, .int 1, .ref f, .int 0, .int (-1), .null, .int (-1), .null])), ((qs 1), .inr (4, [.int 1, .int 1, .ref f, .int 0, .int (-1), .null, .int (-1), .null])), ((qs 3), .inr (4, [.int 3, .int 1, .ref f, .int 0, .int (-1), .null, .int (-1), .null])), ((qs 4), .inr (4, [.int 4, .int 1, .ref f, .int 0, .int (-1), .null, .int (-1), .null])), ((qs 2), .inr (4, [.int 2, .int 1, .ref f, .int 0, .int (-1), .null, .int (-1), .null]))] := hD
              refine lv_iinc (v := 5) (lv' := [(2, .int 5), (3, .int 0), (0, .ref x), (1, .int p0)]) hx hb dX4_allowed_81 hl (k := 1) rfl (by decide) (by decide) rfl (fun ls hl => ?_)
              refine lv_goto (tgt := 21) hx hb dX4_allowed_84 (by decide) ?_
              refine lv_iload_n hx hb dX4_allowed_21 rfl (lv_at hl 0 rfl) ?_
              refine lv_iconst (v := 5) hx hb dX4_allowed_22 (by decide) ?_
              refine lv_icmp_ge (tgt := 87) hx hb dX4_allowed_23 (by decide) (fun _ => ?_) (fun hc => absurd (by decide) hc)
              refine lv_aload_n hx hb dX4_allowed_87 rfl (lv_at hl 2 rfl) ?_
              refine va_get (D := D) (ci := 5) (v := .ref a4) (C := RX4) (T := TX4) (N := 4) hx hb hts in_X4_allowed_X4 hown hK hP 0 rfl rfl 3 (by decide) w_0 (fun _ h9 => h9) rfl dX4_allowed_88 ?_
              have hPc := hP.sub (ws' := [(a4, wS tC 5 (va_up (va_up (va_up (va_up (va_up gf 0 none) 1 none) 2 (some f)) 3 none) 4 none)), (f, .inr (3, [.ref e1, .ref e2, .int 5, .int 0])), (e1, wI tC 0 z1)]) [2, 3, 4] rfl
              have hDc := hD.sub (ws' := [(a4, wS tC 5 (va_up (va_up (va_up (va_up (va_up gf 0 none) 1 none) 2 (some f)) 3 none) 4 none)), (f, .inr (3, [.ref e1, .ref e2, .int 5, .int 0])), (e1, wI tC 0 z1)]) [2, 3, 4] (by decide) rfl
              have hFc := va_free (wc := [(a4, wS tC 5 (va_up (va_up (va_up (va_up (va_up gf 0 none) 1 none) 2 (some f)) 3 none) 4 none)), (f, .inr (3, [.ref e1, .ref e2, .int 5, .int 0])), (e1, wI tC 0 z1)]) hD hS hA [2, 3, 4] rfl
              refine va_callq (va_runS (As := [.ref a4]) (rest := []) ⟨hx, hb, hml, hown, hts⟩ (c_X4_heldByHolders l hlt D tC dz H.size a4 (va_up (va_up (va_up (va_up (va_up gf 0 none) 1 none) 2 (some f)) 3 none) 4 none) (bqb p0) f e1 e2 z1 (by intro j hj; rcases (show j = 0 ∨ j = 1 ∨ j = 2 ∨ j = 3 ∨ j = 4 by omega) with rfl | rfl | rfl | rfl | rfl <;> simp [va_up, hb0, hb1, hb2, hb3, hb4])) (va_cwS 1 hts gX4_allowed_X4_heldByHolders rfl rfl rfl (by decide +kernel) ⟨Nat.le_of_ble_eq_true rfl, Nat.le_of_ble_eq_true rfl⟩) ⟨pB_blind, pB_at hPc hDc hK hN hE hS hFc⟩ rfl rfl hl.1 rfl (lv_room (Nat.le_of_ble_eq_true rfl)) dX4_allowed_91 ⟨Nat.le_of_ble_eq_true rfl, Nat.le_of_ble_eq_true rfl⟩) hS (fun q _ h => hFc q h) hFc (fun r_50 u t H1 locs ht hvm hw hB hz1 hk1 hS => ?_)
              obtain ⟨hP1, _, hD1⟩ := hB
              have hw_51 := hw
              rw [ht] at hP1
              obtain ⟨hP, hD⟩ := va_join (wr := [(x, .inr (5, [.ref a1, .ref a2, .ref a3, .ref a4])), (a1, wT tC 5 fs), ((qs 0), .inr (4, [.int 0, .int 1, .ref f, .int 0, .int (-1), .null, .int (-1), .null])), ((qs 1), .inr (4, [.int 1, .int 1, .ref f, .int 0, .int (-1), .null, .int (-1), .null])), ((qs 3), .inr (4, [.int 3, .int 1, .ref f, .int 0, .int (-1), .null, .int (-1), .null])), ((qs 4), .inr (4, [.int 4, .int 1, .ref f, .int 0, .int (-1), .null, .int (-1), .null])), ((qs 2), .inr (4, [.int 2, .int 1, .ref f, .int 0, .int (-1), .null, .int (-1), .null]))]) (w1 := [(a4, wS tC 5 (va_up (va_up (va_up (va_up (va_up gf 0 none) 1 none) 2 (some f)) 3 none) 4 none)), (f, .inr (3, [.ref e1, .ref e2, .int 5, .int 0])), (e1, wI tC 0 z1)]) hP hD [2, 3, 4] [0, 1, 5, 6, 7, 8, 9] rfl rfl (by decide) (by decide) hk1 hFc hP1 hD1
              generalize H1 = H at hP hS ⊢
              have hP : va_P D vwCl [(x, .inr (5, [.ref a1, .ref a2, .ref a3, .ref a4])), (a1, wT tC 5 fs), ((qs 0), .inr (4, [.int 0, .int 1, .ref f, .int 0, .int (-1), .null, .int (-1), .null])), ((qs 1), .inr (4, [.int 1, .int 1, .ref f, .int 0, .int (-1), .null, .int (-1), .null])), ((qs 3), .inr (4, [.int 3, .int 1, .ref f, .int 0, .int (-1), .null, .int (-1), .null])), ((qs 4), .inr (4, [.int 4, .int 1, .ref f, .int 0, .int (-1), .null, .int (-1), .null])), ((qs 2), .inr (4, [.int 2, .int 1, .ref f, .int 0, .int (-1), .null, .int (-1), .null])), (a4, wS tC 5 (va_up (va_up (va_up (va_up (va_up gf 0 none) 1 none) 2 (some f)) 3 none) 4 none)), (f, .inr (3, [.ref e1, .ref e2, .int 5, .int 0])), (e1, wI tC 0 z1)] H := hP
              have hD : va_D A [(x, .inr (5, [.ref a1, .ref a2, .ref a3, .ref a4])), (a1, wT tC 5 fs), ((qs 0), .inr (4, [.int 0, .int 1, .ref f, .int 0, .int (-1), .null, .int (-1), .null])), ((qs 1), .inr (4, [.int 1, .int 1, .ref f, .int 0, .int (-1), .null, .int (-1), .null])), ((qs 3), .inr (4, [.int 3, .int 1, .ref f, .int 0, .int (-1), .null, .int (-1), .null])), ((qs 4), .inr (4, [.int 4, .int 1, .ref f, .int 0, .int (-1), .null, .int (-1), .null])), ((qs 2), .inr (4, [.int 2, .int 1, .ref f, .int 0, .int (-1), .null, .int (-1), .null])), (a4, wS tC 5 (va_up (va_up (va_up (va_up (va_up gf 0 none) 1 none) 2 (some f)) 3 none) 4 none)), (f, .inr (3, [.ref e1, .ref e2, .int 5, .int 0])), (e1, wI tC 0 z1)] := hD
              have q1 : r_50 = some f := hw_51.trans (by rw [hb0, hb1, hb2, hb3, hb4] <;> rfl)
              subst q1
              refine W.eq (g2 := F0 m 94 ls [.ref f]) rfl ?_
              refine lv_astore_n (lv' := [(2, .ref f), (3, .int 0), (0, .ref x), (1, .int p0)]) hx hb dX4_allowed_94 rfl hl (by decide) rfl (fun ls hl => ?_)
              refine lv_aload_n hx hb dX4_allowed_95 rfl (lv_at hl 0 rfl) ?_
              refine lv_ifnull hx hb dX4_allowed_96 ?_
              refine lv_aload_n hx hb dX4_allowed_99 rfl (lv_at hl 2 rfl) ?_
              refine va_get (D := D) (ci := 5) (v := .ref a4) (C := RX4) (T := TX4) (N := 4) hx hb hts in_X4_allowed_X4 hown hK hP 0 rfl rfl 3 (by decide) w_0 (fun _ h9 => h9) rfl dX4_allowed_100 ?_
              refine lv_aload_n hx hb dX4_allowed_103 rfl (lv_at hl 0 rfl) ?_
              have hPc := hP.sub (ws' := [(a4, wS tC 5 (va_up (va_up (va_up (va_up (va_up gf 0 none) 1 none) 2 (some f)) 3 none) 4 none)), (f, .inr (3, [.ref e1, .ref e2, .int 5, .int 0])), (e1, wI tC 0 z1)]) [7, 8, 9] rfl
              have hDc := hD.sub (ws' := [(a4, wS tC 5 (va_up (va_up (va_up (va_up (va_up gf 0 none) 1 none) 2 (some f)) 3 none) 4 none)), (f, .inr (3, [.ref e1, .ref e2, .int 5, .int 0])), (e1, wI tC 0 z1)]) [7, 8, 9] (by decide) rfl
              have hFc := va_free (wc := [(a4, wS tC 5 (va_up (va_up (va_up (va_up (va_up gf 0 none) 1 none) 2 (some f)) 3 none) 4 none)), (f, .inr (3, [.ref e1, .ref e2, .int 5, .int 0])), (e1, wI tC 0 z1)]) hD hS hA [7, 8, 9] rfl
              refine va_calli (va_runS (As := [.ref a4, .ref f]) (rest := []) ⟨hx, hb, hml, hown, hts⟩ (c_X4_mayGoOn l hlt D tC dz H.size a4 (va_up (va_up (va_up (va_up (va_up gf 0 none) 1 none) 2 (some f)) 3 none) 4 none) (bqb p0) f e1 e2 z1 (by intro j hj; rcases (show j = 0 ∨ j = 1 ∨ j = 2 ∨ j = 3 ∨ j = 4 by omega) with rfl | rfl | rfl | rfl | rfl <;> simp [va_up, hb0, hb1, hb2, hb3, hb4])) (va_cwS 2 hts gX4_allowed_X4_mayGoOn rfl rfl rfl (by decide +kernel) ⟨Nat.le_of_ble_eq_true rfl, Nat.le_of_ble_eq_true rfl⟩) ⟨pB_blind, pB_at hPc hDc hK hN hE hS hFc⟩ rfl rfl hl.1 rfl (lv_room (Nat.le_of_ble_eq_true rfl)) dX4_allowed_104 ⟨Nat.le_of_ble_eq_true rfl, Nat.le_of_ble_eq_true rfl⟩) hS (fun q _ h => hFc q h) hFc (fun r_52 u t H1 locs ht hvm hw hB hz1 hk1 hS => ?_)
              obtain ⟨hP1, _, hD1⟩ := hB
              have hw_53 := hw
              rw [ht] at hP1
              obtain ⟨hP, hD⟩ := va_join (wr := [(x, .inr (5, [.ref a1, .ref a2, .ref a3, .ref a4])), (a1, wT tC 5 fs), ((qs 0), .inr (4, [.int 0, .int 1, .ref f, .int 0, .int (-1), .null, .int (-1), .null])), ((qs 1), .inr (4, [.int 1, .int 1, .ref f, .int 0, .int (-1), .null, .int (-1), .null])), ((qs 3), .inr (4, [.int 3, .int 1, .ref f, .int 0, .int (-1), .null, .int (-1), .null])), ((qs 4), .inr (4, [.int 4, .int 1, .ref f, .int 0, .int (-1), .null, .int (-1), .null])), ((qs 2), .inr (4, [.int 2, .int 1, .ref f, .int 0, .int (-1), .null, .int (-1), .null]))]) (w1 := [(a4, wS tC 5 (va_up (va_up (va_up (va_up (va_up gf 0 none) 1 none) 2 (some f)) 3 none) 4 none)), (f, .inr (3, [.ref e1, .ref e2, .int 5, .int 0])), (e1, wI tC 0 z1)]) hP hD [7, 8, 9] [0, 1, 2, 3, 4, 5, 6] rfl rfl (by decide) (by decide) hk1 hFc hP1 hD1
              generalize H1 = H at hP hS ⊢
              have hP : va_P D vwCl [(x, .inr (5, [.ref a1, .ref a2, .ref a3, .ref a4])), (a1, wT tC 5 fs), ((qs 0), .inr (4, [.int 0, .int 1, .ref f, .int 0, .int (-1), .null, .int (-1), .null])), ((qs 1), .inr (4, [.int 1, .int 1, .ref f, .int 0, .int (-1), .null, .int (-1), .null])), ((qs 3), .inr (4, [.int 3, .int 1, .ref f, .int 0, .int (-1), .null, .int (-1), .null])), ((qs 4), .inr (4, [.int 4, .int 1, .ref f, .int 0, .int (-1), .null, .int (-1), .null])), ((qs 2), .inr (4, [.int 2, .int 1, .ref f, .int 0, .int (-1), .null, .int (-1), .null])), (a4, wS tC 5 (va_up (va_up (va_up (va_up (va_up gf 0 none) 1 none) 2 (some f)) 3 none) 4 none)), (f, .inr (3, [.ref e1, .ref e2, .int 5, .int 0])), (e1, wI tC 0 z1)] H := hP
              have hD : va_D A [(x, .inr (5, [.ref a1, .ref a2, .ref a3, .ref a4])), (a1, wT tC 5 fs), ((qs 0), .inr (4, [.int 0, .int 1, .ref f, .int 0, .int (-1), .null, .int (-1), .null])), ((qs 1), .inr (4, [.int 1, .int 1, .ref f, .int 0, .int (-1), .null, .int (-1), .null])), ((qs 3), .inr (4, [.int 3, .int 1, .ref f, .int 0, .int (-1), .null, .int (-1), .null])), ((qs 4), .inr (4, [.int 4, .int 1, .ref f, .int 0, .int (-1), .null, .int (-1), .null])), ((qs 2), .inr (4, [.int 2, .int 1, .ref f, .int 0, .int (-1), .null, .int (-1), .null])), (a4, wS tC 5 (va_up (va_up (va_up (va_up (va_up gf 0 none) 1 none) 2 (some f)) 3 none) 4 none)), (f, .inr (3, [.ref e1, .ref e2, .int 5, .int 0])), (e1, wI tC 0 z1)] := hD
              have q1 : r_52 = 0 := hw_53.trans (by unfold mayg cntb; rw [hb0, hb1, hb2, hb3, hb4] <;> decide)
              subst q1
              refine lv_if_eq (tgt := 114) hx hb dX4_allowed_107 (by decide) (fun _ => ?_) (fun hc => absurd (by decide) hc)
              refine lv_iconst (v := 0) hx hb dX4_allowed_114 (by decide) ?_
              have hP9 := hP.sub (ws' := []) [] rfl
              have hD9 := hD.sub (ws' := []) [] (by decide) rfl
              refine W.widen (k := 1) (n := 6) (by omega) (by omega) ?_
              exact vx_ret (W.zret (v := 0) hx hb hr (by decide) (fun t ht hW => ⟨⟨0, (), rfl, ⟨(by unfold mayg cntb; rw [hb0, hb1, hb2, hb3, hb4] <;> decide), bl1 hw_2 c_3⟩, (by rw [ht]; exact hP9), va_K.moved hW.alike hK, hD9⟩, hS.F ht⟩) hS.2.2 dX4_allowed_115 hlocks)
            · skip
              have hb4 : bqb p0 4 = true := bqT (fun h => c_49 (ez_48.trans h))
              refine lv_iconst (v := 1) hx hb dX4_allowed_34 (by decide) ?_
              refine lv_goto (tgt := 39) hx hb dX4_allowed_35 (by decide) ?_
              refine lv_istore_n (lv' := [(3, .int 1), (2, .int 4), (0, .ref x), (1, .int p0)]) hx hb dX4_allowed_39 rfl hl (by decide) rfl (fun ls hl => ?_)
              refine lv_iload_n hx hb dX4_allowed_40 rfl (lv_at hl 0 rfl) ?_
              refine lv_if_eq (tgt := 58) hx hb dX4_allowed_41 (by decide) (fun hc => absurd hc (by decide)) (fun _ => ?_)
              refine lv_aload_n hx hb dX4_allowed_44 rfl (lv_at hl 2 rfl) ?_
              refine va_get (D := D) (ci := 5) (v := .ref a1) (C := RX4) (T := TX4) (N := 4) hx hb hts in_X4_allowed_X4 hown hK hP 0 rfl rfl 0 (by decide) w_1 (fun _ h9 => h9) rfl dX4_allowed_45 ?_
              refine lv_iload_n hx hb dX4_allowed_48 rfl (lv_at hl 1 rfl) ?_
              refine va_aldq hx hb hK hP 1 3 rfl rfl (by unfold vp_in; decide) dX4_allowed_49 ?_
              rw [show fs (4 : Int32).toNatClampNeg = some (qs 4) from (by rw [show (4 : Int32).toNatClampNeg = 4 by decide]; exact hfs 4 (by decide))]
              refine W.eq (g2 := F0 m 50 ls [.ref (qs 4)]) rfl ?_
              have hPc := hP.sub (ws' := [((qs 4), .inr (4, [.int 4, .int 1, .ref f, .int 0, .int (-1), .null, .int (-1), .null]))]) [8] rfl
              have hDc := hD.sub (ws' := [((qs 4), .inr (4, [.int 4, .int 1, .ref f, .int 0, .int (-1), .null, .int (-1), .null]))]) [8] (by decide) rfl
              have hFc := va_free (wc := [((qs 4), .inr (4, [.int 4, .int 1, .ref f, .int 0, .int (-1), .null, .int (-1), .null]))]) hD hS hA [8] rfl
              refine va_calli (va_runVN (As := []) (rest := []) ⟨hx, hb, hml, hown, hts⟩ (c_X3_isFree l hlt D tC dz H.size f (qs 4) 4 ) ⟨(va_cnB (host := "NoticeStations") 0 hts gX4_allowed_X3_isFree_n240 rfl rfl rfl (hN.1 (.methodLinkNest "NoticeStations" 240 ⟨"NoticeStations$Station", "isFree", "()Z"⟩ "NoticeStations") (by decide +kernel)) w_2 (by decide +kernel) ⟨Nat.le_of_ble_eq_true rfl, Nat.le_of_ble_eq_true rfl⟩), w_3, w_4⟩ ⟨pB_blind, va_recv hK hPc (ci := 4) (q0 := 0) rfl rfl, pB_at hPc hDc hK hN hE hS hFc⟩ rfl rfl hl.1 rfl (lv_room (Nat.le_of_ble_eq_true rfl)) dX4_allowed_50 ⟨Nat.le_of_ble_eq_true rfl, Nat.le_of_ble_eq_true rfl⟩) hS (fun q _ h => hFc q h) hFc (fun r_54 u t H1 locs ht hvm hw hB hz1 hk1 hS => ?_)
              obtain ⟨hP1, _, hD1⟩ := hB
              have hw_55 := hw
              rw [ht] at hP1
              obtain ⟨hP, hD⟩ := va_join (wr := [(x, .inr (5, [.ref a1, .ref a2, .ref a3, .ref a4])), (a1, wT tC 5 fs), (a4, wS tC 5 (va_up (va_up (va_up (va_up gf 0 none) 1 none) 2 (some f)) 3 none)), (f, .inr (3, [.ref e1, .ref e2, .int 5, .int 0])), (e1, wI tC 0 z1), ((qs 0), .inr (4, [.int 0, .int 1, .ref f, .int 0, .int (-1), .null, .int (-1), .null])), ((qs 1), .inr (4, [.int 1, .int 1, .ref f, .int 0, .int (-1), .null, .int (-1), .null])), ((qs 3), .inr (4, [.int 3, .int 1, .ref f, .int 0, .int (-1), .null, .int (-1), .null])), ((qs 2), .inr (4, [.int 2, .int 1, .ref f, .int 0, .int (-1), .null, .int (-1), .null]))]) (w1 := [((qs 4), .inr (4, [.int 4, .int 1, .ref f, .int 0, .int (-1), .null, .int (-1), .null]))]) hP hD [8] [0, 1, 2, 3, 4, 5, 6, 7, 9] rfl rfl (by decide) (by decide) hk1 hFc hP1 hD1
              generalize H1 = H at hP hS ⊢
              have hP : va_P D vwCl [(x, .inr (5, [.ref a1, .ref a2, .ref a3, .ref a4])), (a1, wT tC 5 fs), (a4, wS tC 5 (va_up (va_up (va_up (va_up gf 0 none) 1 none) 2 (some f)) 3 none)), (f, .inr (3, [.ref e1, .ref e2, .int 5, .int 0])), (e1, wI tC 0 z1), ((qs 0), .inr (4, [.int 0, .int 1, .ref f, .int 0, .int (-1), .null, .int (-1), .null])), ((qs 1), .inr (4, [.int 1, .int 1, .ref f, .int 0, .int (-1), .null, .int (-1), .null])), ((qs 3), .inr (4, [.int 3, .int 1, .ref f, .int 0, .int (-1), .null, .int (-1), .null])), ((qs 2), .inr (4, [.int 2, .int 1, .ref f, .int 0, .int (-1), .null, .int (-1), .null])), ((qs 4), .inr (4, [.int 4, .int 1, .ref f, .int 0, .int (-1), .null, .int (-1), .null]))] H := hP
              have hD : va_D A [(x, .inr (5, [.ref a1, .ref a2, .ref a3, .ref a4])), (a1, wT tC 5 fs), (a4, wS tC 5 (va_up (va_up (va_up (va_up gf 0 none) 1 none) 2 (some f)) 3 none)), (f, .inr (3, [.ref e1, .ref e2, .int 5, .int 0])), (e1, wI tC 0 z1), ((qs 0), .inr (4, [.int 0, .int 1, .ref f, .int 0, .int (-1), .null, .int (-1), .null])), ((qs 1), .inr (4, [.int 1, .int 1, .ref f, .int 0, .int (-1), .null, .int (-1), .null])), ((qs 3), .inr (4, [.int 3, .int 1, .ref f, .int 0, .int (-1), .null, .int (-1), .null])), ((qs 2), .inr (4, [.int 2, .int 1, .ref f, .int 0, .int (-1), .null, .int (-1), .null])), ((qs 4), .inr (4, [.int 4, .int 1, .ref f, .int 0, .int (-1), .null, .int (-1), .null]))] := hD
              subst hw_55
              refine lv_if_ne (tgt := 58) hx hb dX4_allowed_53 (by decide) (fun _ => ?_) (fun hc => absurd hc (by decide))
              refine lv_aload_n hx hb dX4_allowed_58 rfl (lv_at hl 2 rfl) ?_
              refine va_get (D := D) (ci := 5) (v := .ref a4) (C := RX4) (T := TX4) (N := 4) hx hb hts in_X4_allowed_X4 hown hK hP 0 rfl rfl 3 (by decide) w_0 (fun _ h9 => h9) rfl dX4_allowed_59 ?_
              refine lv_iload_n hx hb dX4_allowed_62 rfl (lv_at hl 1 rfl) ?_
              refine lv_iload_n hx hb dX4_allowed_63 rfl (lv_at hl 0 rfl) ?_
              refine lv_if_eq (tgt := 79) hx hb dX4_allowed_64 (by decide) (fun hc => absurd hc (by decide)) (fun _ => ?_)
              refine lv_aload_n hx hb dX4_allowed_67 rfl (lv_at hl 2 rfl) ?_
              refine va_get (D := D) (ci := 5) (v := .ref a1) (C := RX4) (T := TX4) (N := 4) hx hb hts in_X4_allowed_X4 hown hK hP 0 rfl rfl 0 (by decide) w_1 (fun _ h9 => h9) rfl dX4_allowed_68 ?_
              refine lv_iload_n hx hb dX4_allowed_71 rfl (lv_at hl 1 rfl) ?_
              refine va_aldq hx hb hK hP 1 3 rfl rfl (by unfold vp_in; decide) dX4_allowed_72 ?_
              rw [show fs (4 : Int32).toNatClampNeg = some (qs 4) from (by rw [show (4 : Int32).toNatClampNeg = 4 by decide]; exact hfs 4 (by decide))]
              refine W.eq (g2 := F0 m 73 ls [.ref (qs 4), .int 4, .ref a4]) rfl ?_
              refine va_getN (host := "NoticeStations") (D := D) (ci := 4) (v := .ref f) (C := RX3) (T := TX3) (N := 8) hx hb hts in_X4_allowed_X3 hown hK hP 9 rfl rfl 2 (by decide) (va_Nw.use rfl (hN.1 (.fieldLinkNest "NoticeStations" 61 "NoticeStations$Station" "stored" "LNoticeStations$Standing;" "NoticeStations") (by decide +kernel))) (fun _ h9 => h9) rfl dX4_allowed_73 ?_
              refine lv_goto (tgt := 80) hx hb dX4_allowed_76 (by decide) ?_
              refine va_astq hx hb hK hP hD hS 2 2 3 3 rfl rfl rfl rfl (by unfold vp_in; decide) dX4_allowed_80 (fun H locs hP hD hS => ?_)
              have hP : va_P D vwCl [(x, .inr (5, [.ref a1, .ref a2, .ref a3, .ref a4])), (a1, wT tC 5 fs), (a4, wS tC 5 (va_up (va_up (va_up (va_up (va_up gf 0 none) 1 none) 2 (some f)) 3 none) 4 (some f))), (f, .inr (3, [.ref e1, .ref e2, .int 5, .int 0])), (e1, wI tC 0 z1), ((qs 0), .inr (4, [.int 0, .int 1, .ref f, .int 0, .int (-1), .null, .int (-1), .null])), ((qs 1), .inr (4, [.int 1, .int 1, .ref f, .int 0, .int (-1), .null, .int (-1), .null])), ((qs 3), .inr (4, [.int 3, .int 1, .ref f, .int 0, .int (-1), .null, .int (-1), .null])), ((qs 2), .inr (4, [.int 2, .int 1, .ref f, .int 0, .int (-1), .null, .int (-1), .null])), ((qs 4), .inr (4, [.int 4, .int 1, .ref f, .int 0, .int (-1), .null, .int (-1), .null]))] H := hP
              have hD : va_D A [(x, .inr (5, [.ref a1, .ref a2, .ref a3, .ref a4])), (a1, wT tC 5 fs), (a4, wS tC 5 (va_up (va_up (va_up (va_up (va_up gf 0 none) 1 none) 2 (some f)) 3 none) 4 (some f))), (f, .inr (3, [.ref e1, .ref e2, .int 5, .int 0])), (e1, wI tC 0 z1), ((qs 0), .inr (4, [.int 0, .int 1, .ref f, .int 0, .int (-1), .null, .int (-1), .null])), ((qs 1), .inr (4, [.int 1, .int 1, .ref f, .int 0, .int (-1), .null, .int (-1), .null])), ((qs 3), .inr (4, [.int 3, .int 1, .ref f, .int 0, .int (-1), .null, .int (-1), .null])), ((qs 2), .inr (4, [.int 2, .int 1, .ref f, .int 0, .int (-1), .null, .int (-1), .null])), ((qs 4), .inr (4, [.int 4, .int 1, .ref f, .int 0, .int (-1), .null, .int (-1), .null]))] := hD
              refine lv_iinc (v := 5) (lv' := [(2, .int 5), (3, .int 1), (0, .ref x), (1, .int p0)]) hx hb dX4_allowed_81 hl (k := 1) rfl (by decide) (by decide) rfl (fun ls hl => ?_)
              refine lv_goto (tgt := 21) hx hb dX4_allowed_84 (by decide) ?_
              refine lv_iload_n hx hb dX4_allowed_21 rfl (lv_at hl 0 rfl) ?_
              refine lv_iconst (v := 5) hx hb dX4_allowed_22 (by decide) ?_
              refine lv_icmp_ge (tgt := 87) hx hb dX4_allowed_23 (by decide) (fun _ => ?_) (fun hc => absurd (by decide) hc)
              refine lv_aload_n hx hb dX4_allowed_87 rfl (lv_at hl 2 rfl) ?_
              refine va_get (D := D) (ci := 5) (v := .ref a4) (C := RX4) (T := TX4) (N := 4) hx hb hts in_X4_allowed_X4 hown hK hP 0 rfl rfl 3 (by decide) w_0 (fun _ h9 => h9) rfl dX4_allowed_88 ?_
              have hPc := hP.sub (ws' := [(a4, wS tC 5 (va_up (va_up (va_up (va_up (va_up gf 0 none) 1 none) 2 (some f)) 3 none) 4 (some f))), (f, .inr (3, [.ref e1, .ref e2, .int 5, .int 0])), (e1, wI tC 0 z1)]) [2, 3, 4] rfl
              have hDc := hD.sub (ws' := [(a4, wS tC 5 (va_up (va_up (va_up (va_up (va_up gf 0 none) 1 none) 2 (some f)) 3 none) 4 (some f))), (f, .inr (3, [.ref e1, .ref e2, .int 5, .int 0])), (e1, wI tC 0 z1)]) [2, 3, 4] (by decide) rfl
              have hFc := va_free (wc := [(a4, wS tC 5 (va_up (va_up (va_up (va_up (va_up gf 0 none) 1 none) 2 (some f)) 3 none) 4 (some f))), (f, .inr (3, [.ref e1, .ref e2, .int 5, .int 0])), (e1, wI tC 0 z1)]) hD hS hA [2, 3, 4] rfl
              refine va_callq (va_runS (As := [.ref a4]) (rest := []) ⟨hx, hb, hml, hown, hts⟩ (c_X4_heldByHolders l hlt D tC dz H.size a4 (va_up (va_up (va_up (va_up (va_up gf 0 none) 1 none) 2 (some f)) 3 none) 4 (some f)) (bqb p0) f e1 e2 z1 (by intro j hj; rcases (show j = 0 ∨ j = 1 ∨ j = 2 ∨ j = 3 ∨ j = 4 by omega) with rfl | rfl | rfl | rfl | rfl <;> simp [va_up, hb0, hb1, hb2, hb3, hb4])) (va_cwS 1 hts gX4_allowed_X4_heldByHolders rfl rfl rfl (by decide +kernel) ⟨Nat.le_of_ble_eq_true rfl, Nat.le_of_ble_eq_true rfl⟩) ⟨pB_blind, pB_at hPc hDc hK hN hE hS hFc⟩ rfl rfl hl.1 rfl (lv_room (Nat.le_of_ble_eq_true rfl)) dX4_allowed_91 ⟨Nat.le_of_ble_eq_true rfl, Nat.le_of_ble_eq_true rfl⟩) hS (fun q _ h => hFc q h) hFc (fun r_56 u t H1 locs ht hvm hw hB hz1 hk1 hS => ?_)
              obtain ⟨hP1, _, hD1⟩ := hB
              have hw_57 := hw
              rw [ht] at hP1
              obtain ⟨hP, hD⟩ := va_join (wr := [(x, .inr (5, [.ref a1, .ref a2, .ref a3, .ref a4])), (a1, wT tC 5 fs), ((qs 0), .inr (4, [.int 0, .int 1, .ref f, .int 0, .int (-1), .null, .int (-1), .null])), ((qs 1), .inr (4, [.int 1, .int 1, .ref f, .int 0, .int (-1), .null, .int (-1), .null])), ((qs 3), .inr (4, [.int 3, .int 1, .ref f, .int 0, .int (-1), .null, .int (-1), .null])), ((qs 2), .inr (4, [.int 2, .int 1, .ref f, .int 0, .int (-1), .null, .int (-1), .null])), ((qs 4), .inr (4, [.int 4, .int 1, .ref f, .int 0, .int (-1), .null, .int (-1), .null]))]) (w1 := [(a4, wS tC 5 (va_up (va_up (va_up (va_up (va_up gf 0 none) 1 none) 2 (some f)) 3 none) 4 (some f))), (f, .inr (3, [.ref e1, .ref e2, .int 5, .int 0])), (e1, wI tC 0 z1)]) hP hD [2, 3, 4] [0, 1, 5, 6, 7, 8, 9] rfl rfl (by decide) (by decide) hk1 hFc hP1 hD1
              generalize H1 = H at hP hS ⊢
              have hP : va_P D vwCl [(x, .inr (5, [.ref a1, .ref a2, .ref a3, .ref a4])), (a1, wT tC 5 fs), ((qs 0), .inr (4, [.int 0, .int 1, .ref f, .int 0, .int (-1), .null, .int (-1), .null])), ((qs 1), .inr (4, [.int 1, .int 1, .ref f, .int 0, .int (-1), .null, .int (-1), .null])), ((qs 3), .inr (4, [.int 3, .int 1, .ref f, .int 0, .int (-1), .null, .int (-1), .null])), ((qs 2), .inr (4, [.int 2, .int 1, .ref f, .int 0, .int (-1), .null, .int (-1), .null])), ((qs 4), .inr (4, [.int 4, .int 1, .ref f, .int 0, .int (-1), .null, .int (-1), .null])), (a4, wS tC 5 (va_up (va_up (va_up (va_up (va_up gf 0 none) 1 none) 2 (some f)) 3 none) 4 (some f))), (f, .inr (3, [.ref e1, .ref e2, .int 5, .int 0])), (e1, wI tC 0 z1)] H := hP
              have hD : va_D A [(x, .inr (5, [.ref a1, .ref a2, .ref a3, .ref a4])), (a1, wT tC 5 fs), ((qs 0), .inr (4, [.int 0, .int 1, .ref f, .int 0, .int (-1), .null, .int (-1), .null])), ((qs 1), .inr (4, [.int 1, .int 1, .ref f, .int 0, .int (-1), .null, .int (-1), .null])), ((qs 3), .inr (4, [.int 3, .int 1, .ref f, .int 0, .int (-1), .null, .int (-1), .null])), ((qs 2), .inr (4, [.int 2, .int 1, .ref f, .int 0, .int (-1), .null, .int (-1), .null])), ((qs 4), .inr (4, [.int 4, .int 1, .ref f, .int 0, .int (-1), .null, .int (-1), .null])), (a4, wS tC 5 (va_up (va_up (va_up (va_up (va_up gf 0 none) 1 none) 2 (some f)) 3 none) 4 (some f))), (f, .inr (3, [.ref e1, .ref e2, .int 5, .int 0])), (e1, wI tC 0 z1)] := hD
              have q1 : r_56 = some f := hw_57.trans (by rw [hb0, hb1, hb2, hb3, hb4] <;> rfl)
              subst q1
              refine W.eq (g2 := F0 m 94 ls [.ref f]) rfl ?_
              refine lv_astore_n (lv' := [(2, .ref f), (3, .int 1), (0, .ref x), (1, .int p0)]) hx hb dX4_allowed_94 rfl hl (by decide) rfl (fun ls hl => ?_)
              refine lv_aload_n hx hb dX4_allowed_95 rfl (lv_at hl 0 rfl) ?_
              refine lv_ifnull hx hb dX4_allowed_96 ?_
              refine lv_aload_n hx hb dX4_allowed_99 rfl (lv_at hl 2 rfl) ?_
              refine va_get (D := D) (ci := 5) (v := .ref a4) (C := RX4) (T := TX4) (N := 4) hx hb hts in_X4_allowed_X4 hown hK hP 0 rfl rfl 3 (by decide) w_0 (fun _ h9 => h9) rfl dX4_allowed_100 ?_
              refine lv_aload_n hx hb dX4_allowed_103 rfl (lv_at hl 0 rfl) ?_
              have hPc := hP.sub (ws' := [(a4, wS tC 5 (va_up (va_up (va_up (va_up (va_up gf 0 none) 1 none) 2 (some f)) 3 none) 4 (some f))), (f, .inr (3, [.ref e1, .ref e2, .int 5, .int 0])), (e1, wI tC 0 z1)]) [7, 8, 9] rfl
              have hDc := hD.sub (ws' := [(a4, wS tC 5 (va_up (va_up (va_up (va_up (va_up gf 0 none) 1 none) 2 (some f)) 3 none) 4 (some f))), (f, .inr (3, [.ref e1, .ref e2, .int 5, .int 0])), (e1, wI tC 0 z1)]) [7, 8, 9] (by decide) rfl
              have hFc := va_free (wc := [(a4, wS tC 5 (va_up (va_up (va_up (va_up (va_up gf 0 none) 1 none) 2 (some f)) 3 none) 4 (some f))), (f, .inr (3, [.ref e1, .ref e2, .int 5, .int 0])), (e1, wI tC 0 z1)]) hD hS hA [7, 8, 9] rfl
              refine va_calli (va_runS (As := [.ref a4, .ref f]) (rest := []) ⟨hx, hb, hml, hown, hts⟩ (c_X4_mayGoOn l hlt D tC dz H.size a4 (va_up (va_up (va_up (va_up (va_up gf 0 none) 1 none) 2 (some f)) 3 none) 4 (some f)) (bqb p0) f e1 e2 z1 (by intro j hj; rcases (show j = 0 ∨ j = 1 ∨ j = 2 ∨ j = 3 ∨ j = 4 by omega) with rfl | rfl | rfl | rfl | rfl <;> simp [va_up, hb0, hb1, hb2, hb3, hb4])) (va_cwS 2 hts gX4_allowed_X4_mayGoOn rfl rfl rfl (by decide +kernel) ⟨Nat.le_of_ble_eq_true rfl, Nat.le_of_ble_eq_true rfl⟩) ⟨pB_blind, pB_at hPc hDc hK hN hE hS hFc⟩ rfl rfl hl.1 rfl (lv_room (Nat.le_of_ble_eq_true rfl)) dX4_allowed_104 ⟨Nat.le_of_ble_eq_true rfl, Nat.le_of_ble_eq_true rfl⟩) hS (fun q _ h => hFc q h) hFc (fun r_58 u t H1 locs ht hvm hw hB hz1 hk1 hS => ?_)
              obtain ⟨hP1, _, hD1⟩ := hB
              have hw_59 := hw
              rw [ht] at hP1
              obtain ⟨hP, hD⟩ := va_join (wr := [(x, .inr (5, [.ref a1, .ref a2, .ref a3, .ref a4])), (a1, wT tC 5 fs), ((qs 0), .inr (4, [.int 0, .int 1, .ref f, .int 0, .int (-1), .null, .int (-1), .null])), ((qs 1), .inr (4, [.int 1, .int 1, .ref f, .int 0, .int (-1), .null, .int (-1), .null])), ((qs 3), .inr (4, [.int 3, .int 1, .ref f, .int 0, .int (-1), .null, .int (-1), .null])), ((qs 2), .inr (4, [.int 2, .int 1, .ref f, .int 0, .int (-1), .null, .int (-1), .null])), ((qs 4), .inr (4, [.int 4, .int 1, .ref f, .int 0, .int (-1), .null, .int (-1), .null]))]) (w1 := [(a4, wS tC 5 (va_up (va_up (va_up (va_up (va_up gf 0 none) 1 none) 2 (some f)) 3 none) 4 (some f))), (f, .inr (3, [.ref e1, .ref e2, .int 5, .int 0])), (e1, wI tC 0 z1)]) hP hD [7, 8, 9] [0, 1, 2, 3, 4, 5, 6] rfl rfl (by decide) (by decide) hk1 hFc hP1 hD1
              generalize H1 = H at hP hS ⊢
              have hP : va_P D vwCl [(x, .inr (5, [.ref a1, .ref a2, .ref a3, .ref a4])), (a1, wT tC 5 fs), ((qs 0), .inr (4, [.int 0, .int 1, .ref f, .int 0, .int (-1), .null, .int (-1), .null])), ((qs 1), .inr (4, [.int 1, .int 1, .ref f, .int 0, .int (-1), .null, .int (-1), .null])), ((qs 3), .inr (4, [.int 3, .int 1, .ref f, .int 0, .int (-1), .null, .int (-1), .null])), ((qs 2), .inr (4, [.int 2, .int 1, .ref f, .int 0, .int (-1), .null, .int (-1), .null])), ((qs 4), .inr (4, [.int 4, .int 1, .ref f, .int 0, .int (-1), .null, .int (-1), .null])), (a4, wS tC 5 (va_up (va_up (va_up (va_up (va_up gf 0 none) 1 none) 2 (some f)) 3 none) 4 (some f))), (f, .inr (3, [.ref e1, .ref e2, .int 5, .int 0])), (e1, wI tC 0 z1)] H := hP
              have hD : va_D A [(x, .inr (5, [.ref a1, .ref a2, .ref a3, .ref a4])), (a1, wT tC 5 fs), ((qs 0), .inr (4, [.int 0, .int 1, .ref f, .int 0, .int (-1), .null, .int (-1), .null])), ((qs 1), .inr (4, [.int 1, .int 1, .ref f, .int 0, .int (-1), .null, .int (-1), .null])), ((qs 3), .inr (4, [.int 3, .int 1, .ref f, .int 0, .int (-1), .null, .int (-1), .null])), ((qs 2), .inr (4, [.int 2, .int 1, .ref f, .int 0, .int (-1), .null, .int (-1), .null])), ((qs 4), .inr (4, [.int 4, .int 1, .ref f, .int 0, .int (-1), .null, .int (-1), .null])), (a4, wS tC 5 (va_up (va_up (va_up (va_up (va_up gf 0 none) 1 none) 2 (some f)) 3 none) 4 (some f))), (f, .inr (3, [.ref e1, .ref e2, .int 5, .int 0])), (e1, wI tC 0 z1)] := hD
              have q1 : r_58 = 0 := hw_59.trans (by unfold mayg cntb; rw [hb0, hb1, hb2, hb3, hb4] <;> decide)
              subst q1
              refine lv_if_eq (tgt := 114) hx hb dX4_allowed_107 (by decide) (fun _ => ?_) (fun hc => absurd (by decide) hc)
              refine lv_iconst (v := 0) hx hb dX4_allowed_114 (by decide) ?_
              have hP9 := hP.sub (ws' := []) [] rfl
              have hD9 := hD.sub (ws' := []) [] (by decide) rfl
              refine W.widen (k := 1) (n := 6) (by omega) (by omega) ?_
              exact vx_ret (W.zret (v := 0) hx hb hr (by decide) (fun t ht hW => ⟨⟨0, (), rfl, ⟨(by unfold mayg cntb; rw [hb0, hb1, hb2, hb3, hb4] <;> decide), bl1 hw_2 c_3⟩, (by rw [ht]; exact hP9), va_K.moved hW.alike hK, hD9⟩, hS.F ht⟩) hS.2.2 dX4_allowed_115 hlocks)
          · skip
            have hb3 : bqb p0 3 = true := bqT (fun h => c_46 (ez_45.trans h))
            refine lv_iconst (v := 1) hx hb dX4_allowed_34 (by decide) ?_
            refine lv_goto (tgt := 39) hx hb dX4_allowed_35 (by decide) ?_
            refine lv_istore_n (lv' := [(3, .int 1), (2, .int 3), (0, .ref x), (1, .int p0)]) hx hb dX4_allowed_39 rfl hl (by decide) rfl (fun ls hl => ?_)
            refine lv_iload_n hx hb dX4_allowed_40 rfl (lv_at hl 0 rfl) ?_
            refine lv_if_eq (tgt := 58) hx hb dX4_allowed_41 (by decide) (fun hc => absurd hc (by decide)) (fun _ => ?_)
            refine lv_aload_n hx hb dX4_allowed_44 rfl (lv_at hl 2 rfl) ?_
            refine va_get (D := D) (ci := 5) (v := .ref a1) (C := RX4) (T := TX4) (N := 4) hx hb hts in_X4_allowed_X4 hown hK hP 0 rfl rfl 0 (by decide) w_1 (fun _ h9 => h9) rfl dX4_allowed_45 ?_
            refine lv_iload_n hx hb dX4_allowed_48 rfl (lv_at hl 1 rfl) ?_
            refine va_aldq hx hb hK hP 1 3 rfl rfl (by unfold vp_in; decide) dX4_allowed_49 ?_
            rw [show fs (3 : Int32).toNatClampNeg = some (qs 3) from (by rw [show (3 : Int32).toNatClampNeg = 3 by decide]; exact hfs 3 (by decide))]
            refine W.eq (g2 := F0 m 50 ls [.ref (qs 3)]) rfl ?_
            have hPc := hP.sub (ws' := [((qs 3), .inr (4, [.int 3, .int 1, .ref f, .int 0, .int (-1), .null, .int (-1), .null]))]) [7] rfl
            have hDc := hD.sub (ws' := [((qs 3), .inr (4, [.int 3, .int 1, .ref f, .int 0, .int (-1), .null, .int (-1), .null]))]) [7] (by decide) rfl
            have hFc := va_free (wc := [((qs 3), .inr (4, [.int 3, .int 1, .ref f, .int 0, .int (-1), .null, .int (-1), .null]))]) hD hS hA [7] rfl
            refine va_calli (va_runVN (As := []) (rest := []) ⟨hx, hb, hml, hown, hts⟩ (c_X3_isFree l hlt D tC dz H.size f (qs 3) 3 ) ⟨(va_cnB (host := "NoticeStations") 0 hts gX4_allowed_X3_isFree_n240 rfl rfl rfl (hN.1 (.methodLinkNest "NoticeStations" 240 ⟨"NoticeStations$Station", "isFree", "()Z"⟩ "NoticeStations") (by decide +kernel)) w_2 (by decide +kernel) ⟨Nat.le_of_ble_eq_true rfl, Nat.le_of_ble_eq_true rfl⟩), w_3, w_4⟩ ⟨pB_blind, va_recv hK hPc (ci := 4) (q0 := 0) rfl rfl, pB_at hPc hDc hK hN hE hS hFc⟩ rfl rfl hl.1 rfl (lv_room (Nat.le_of_ble_eq_true rfl)) dX4_allowed_50 ⟨Nat.le_of_ble_eq_true rfl, Nat.le_of_ble_eq_true rfl⟩) hS (fun q _ h => hFc q h) hFc (fun r_60 u t H1 locs ht hvm hw hB hz1 hk1 hS => ?_)
            obtain ⟨hP1, _, hD1⟩ := hB
            have hw_61 := hw
            rw [ht] at hP1
            obtain ⟨hP, hD⟩ := va_join (wr := [(x, .inr (5, [.ref a1, .ref a2, .ref a3, .ref a4])), (a1, wT tC 5 fs), (a4, wS tC 5 (va_up (va_up (va_up gf 0 none) 1 none) 2 (some f))), (f, .inr (3, [.ref e1, .ref e2, .int 5, .int 0])), (e1, wI tC 0 z1), ((qs 0), .inr (4, [.int 0, .int 1, .ref f, .int 0, .int (-1), .null, .int (-1), .null])), ((qs 1), .inr (4, [.int 1, .int 1, .ref f, .int 0, .int (-1), .null, .int (-1), .null])), ((qs 4), .inr (4, [.int 4, .int 1, .ref f, .int 0, .int (-1), .null, .int (-1), .null])), ((qs 2), .inr (4, [.int 2, .int 1, .ref f, .int 0, .int (-1), .null, .int (-1), .null]))]) (w1 := [((qs 3), .inr (4, [.int 3, .int 1, .ref f, .int 0, .int (-1), .null, .int (-1), .null]))]) hP hD [7] [0, 1, 2, 3, 4, 5, 6, 8, 9] rfl rfl (by decide) (by decide) hk1 hFc hP1 hD1
            generalize H1 = H at hP hS ⊢
            have hP : va_P D vwCl [(x, .inr (5, [.ref a1, .ref a2, .ref a3, .ref a4])), (a1, wT tC 5 fs), (a4, wS tC 5 (va_up (va_up (va_up gf 0 none) 1 none) 2 (some f))), (f, .inr (3, [.ref e1, .ref e2, .int 5, .int 0])), (e1, wI tC 0 z1), ((qs 0), .inr (4, [.int 0, .int 1, .ref f, .int 0, .int (-1), .null, .int (-1), .null])), ((qs 1), .inr (4, [.int 1, .int 1, .ref f, .int 0, .int (-1), .null, .int (-1), .null])), ((qs 4), .inr (4, [.int 4, .int 1, .ref f, .int 0, .int (-1), .null, .int (-1), .null])), ((qs 2), .inr (4, [.int 2, .int 1, .ref f, .int 0, .int (-1), .null, .int (-1), .null])), ((qs 3), .inr (4, [.int 3, .int 1, .ref f, .int 0, .int (-1), .null, .int (-1), .null]))] H := hP
            have hD : va_D A [(x, .inr (5, [.ref a1, .ref a2, .ref a3, .ref a4])), (a1, wT tC 5 fs), (a4, wS tC 5 (va_up (va_up (va_up gf 0 none) 1 none) 2 (some f))), (f, .inr (3, [.ref e1, .ref e2, .int 5, .int 0])), (e1, wI tC 0 z1), ((qs 0), .inr (4, [.int 0, .int 1, .ref f, .int 0, .int (-1), .null, .int (-1), .null])), ((qs 1), .inr (4, [.int 1, .int 1, .ref f, .int 0, .int (-1), .null, .int (-1), .null])), ((qs 4), .inr (4, [.int 4, .int 1, .ref f, .int 0, .int (-1), .null, .int (-1), .null])), ((qs 2), .inr (4, [.int 2, .int 1, .ref f, .int 0, .int (-1), .null, .int (-1), .null])), ((qs 3), .inr (4, [.int 3, .int 1, .ref f, .int 0, .int (-1), .null, .int (-1), .null]))] := hD
            subst hw_61
            refine lv_if_ne (tgt := 58) hx hb dX4_allowed_53 (by decide) (fun _ => ?_) (fun hc => absurd hc (by decide))
            refine lv_aload_n hx hb dX4_allowed_58 rfl (lv_at hl 2 rfl) ?_
            refine va_get (D := D) (ci := 5) (v := .ref a4) (C := RX4) (T := TX4) (N := 4) hx hb hts in_X4_allowed_X4 hown hK hP 0 rfl rfl 3 (by decide) w_0 (fun _ h9 => h9) rfl dX4_allowed_59 ?_
            refine lv_iload_n hx hb dX4_allowed_62 rfl (lv_at hl 1 rfl) ?_
            refine lv_iload_n hx hb dX4_allowed_63 rfl (lv_at hl 0 rfl) ?_
            refine lv_if_eq (tgt := 79) hx hb dX4_allowed_64 (by decide) (fun hc => absurd hc (by decide)) (fun _ => ?_)
            refine lv_aload_n hx hb dX4_allowed_67 rfl (lv_at hl 2 rfl) ?_
            refine va_get (D := D) (ci := 5) (v := .ref a1) (C := RX4) (T := TX4) (N := 4) hx hb hts in_X4_allowed_X4 hown hK hP 0 rfl rfl 0 (by decide) w_1 (fun _ h9 => h9) rfl dX4_allowed_68 ?_
            refine lv_iload_n hx hb dX4_allowed_71 rfl (lv_at hl 1 rfl) ?_
            refine va_aldq hx hb hK hP 1 3 rfl rfl (by unfold vp_in; decide) dX4_allowed_72 ?_
            rw [show fs (3 : Int32).toNatClampNeg = some (qs 3) from (by rw [show (3 : Int32).toNatClampNeg = 3 by decide]; exact hfs 3 (by decide))]
            refine W.eq (g2 := F0 m 73 ls [.ref (qs 3), .int 3, .ref a4]) rfl ?_
            refine va_getN (host := "NoticeStations") (D := D) (ci := 4) (v := .ref f) (C := RX3) (T := TX3) (N := 8) hx hb hts in_X4_allowed_X3 hown hK hP 9 rfl rfl 2 (by decide) (va_Nw.use rfl (hN.1 (.fieldLinkNest "NoticeStations" 61 "NoticeStations$Station" "stored" "LNoticeStations$Standing;" "NoticeStations") (by decide +kernel))) (fun _ h9 => h9) rfl dX4_allowed_73 ?_
            refine lv_goto (tgt := 80) hx hb dX4_allowed_76 (by decide) ?_
            refine va_astq hx hb hK hP hD hS 2 2 3 3 rfl rfl rfl rfl (by unfold vp_in; decide) dX4_allowed_80 (fun H locs hP hD hS => ?_)
            have hP : va_P D vwCl [(x, .inr (5, [.ref a1, .ref a2, .ref a3, .ref a4])), (a1, wT tC 5 fs), (a4, wS tC 5 (va_up (va_up (va_up (va_up gf 0 none) 1 none) 2 (some f)) 3 (some f))), (f, .inr (3, [.ref e1, .ref e2, .int 5, .int 0])), (e1, wI tC 0 z1), ((qs 0), .inr (4, [.int 0, .int 1, .ref f, .int 0, .int (-1), .null, .int (-1), .null])), ((qs 1), .inr (4, [.int 1, .int 1, .ref f, .int 0, .int (-1), .null, .int (-1), .null])), ((qs 4), .inr (4, [.int 4, .int 1, .ref f, .int 0, .int (-1), .null, .int (-1), .null])), ((qs 2), .inr (4, [.int 2, .int 1, .ref f, .int 0, .int (-1), .null, .int (-1), .null])), ((qs 3), .inr (4, [.int 3, .int 1, .ref f, .int 0, .int (-1), .null, .int (-1), .null]))] H := hP
            have hD : va_D A [(x, .inr (5, [.ref a1, .ref a2, .ref a3, .ref a4])), (a1, wT tC 5 fs), (a4, wS tC 5 (va_up (va_up (va_up (va_up gf 0 none) 1 none) 2 (some f)) 3 (some f))), (f, .inr (3, [.ref e1, .ref e2, .int 5, .int 0])), (e1, wI tC 0 z1), ((qs 0), .inr (4, [.int 0, .int 1, .ref f, .int 0, .int (-1), .null, .int (-1), .null])), ((qs 1), .inr (4, [.int 1, .int 1, .ref f, .int 0, .int (-1), .null, .int (-1), .null])), ((qs 4), .inr (4, [.int 4, .int 1, .ref f, .int 0, .int (-1), .null, .int (-1), .null])), ((qs 2), .inr (4, [.int 2, .int 1, .ref f, .int 0, .int (-1), .null, .int (-1), .null])), ((qs 3), .inr (4, [.int 3, .int 1, .ref f, .int 0, .int (-1), .null, .int (-1), .null]))] := hD
            refine lv_iinc (v := 4) (lv' := [(2, .int 4), (3, .int 1), (0, .ref x), (1, .int p0)]) hx hb dX4_allowed_81 hl (k := 1) rfl (by decide) (by decide) rfl (fun ls hl => ?_)
            refine lv_goto (tgt := 21) hx hb dX4_allowed_84 (by decide) ?_
            refine lv_iload_n hx hb dX4_allowed_21 rfl (lv_at hl 0 rfl) ?_
            refine lv_iconst (v := 5) hx hb dX4_allowed_22 (by decide) ?_
            refine lv_icmp_ge (tgt := 87) hx hb dX4_allowed_23 (by decide) (fun hc => absurd hc (by decide)) (fun _ => ?_)
            refine lv_iload_n hx hb dX4_allowed_26 rfl (lv_at hl 3 rfl) ?_
            refine lv_iconst (v := 1) hx hb dX4_allowed_27 (by decide) ?_
            refine lv_iload_n hx hb dX4_allowed_28 rfl (lv_at hl 0 rfl) ?_
            refine lv_ishl hx hb dX4_allowed_29 ?_
            refine lv_topi (fun z_62 ez_62 => ?_)
            have fz_62 : z_62 = 16 := ez_62.trans (by decide)
            subst fz_62
            refine lv_iand hx hb dX4_allowed_30 ?_
            refine lv_topi (fun z_63 ez_63 => ?_)
            refine lv_if_eq (tgt := 38) hx hb dX4_allowed_31 (by decide) (fun c_64 => ?_) (fun c_64 => ?_)
            · skip
              have hb4 : bqb p0 4 = false := bqF (ez_63.symm.trans c_64)
              refine lv_iconst (v := 0) hx hb dX4_allowed_38 (by decide) ?_
              refine lv_istore_n (lv' := [(3, .int 0), (2, .int 4), (0, .ref x), (1, .int p0)]) hx hb dX4_allowed_39 rfl hl (by decide) rfl (fun ls hl => ?_)
              refine lv_iload_n hx hb dX4_allowed_40 rfl (lv_at hl 0 rfl) ?_
              refine lv_if_eq (tgt := 58) hx hb dX4_allowed_41 (by decide) (fun _ => ?_) (fun hc => absurd (by decide) hc)
              refine lv_aload_n hx hb dX4_allowed_58 rfl (lv_at hl 2 rfl) ?_
              refine va_get (D := D) (ci := 5) (v := .ref a4) (C := RX4) (T := TX4) (N := 4) hx hb hts in_X4_allowed_X4 hown hK hP 0 rfl rfl 3 (by decide) w_0 (fun _ h9 => h9) rfl dX4_allowed_59 ?_
              refine lv_iload_n hx hb dX4_allowed_62 rfl (lv_at hl 1 rfl) ?_
              refine lv_iload_n hx hb dX4_allowed_63 rfl (lv_at hl 0 rfl) ?_
              refine lv_if_eq (tgt := 79) hx hb dX4_allowed_64 (by decide) (fun _ => ?_) (fun hc => absurd (by decide) hc)
              refine lv_null hx hb dX4_allowed_79 ?_
              refine va_astqN hx hb hK hP hD hS 2 2 rfl rfl (by unfold vp_in; decide) dX4_allowed_80 (fun H locs hP hD hS => ?_)
              have hP : va_P D vwCl [(x, .inr (5, [.ref a1, .ref a2, .ref a3, .ref a4])), (a1, wT tC 5 fs), (a4, wS tC 5 (va_up (va_up (va_up (va_up (va_up gf 0 none) 1 none) 2 (some f)) 3 (some f)) 4 none)), (f, .inr (3, [.ref e1, .ref e2, .int 5, .int 0])), (e1, wI tC 0 z1), ((qs 0), .inr (4, [.int 0, .int 1, .ref f, .int 0, .int (-1), .null, .int (-1), .null])), ((qs 1), .inr (4, [.int 1, .int 1, .ref f, .int 0, .int (-1), .null, .int (-1), .null])), ((qs 4), .inr (4, [.int 4, .int 1, .ref f, .int 0, .int (-1), .null, .int (-1), .null])), ((qs 2), .inr (4, [.int 2, .int 1, .ref f, .int 0, .int (-1), .null, .int (-1), .null])), ((qs 3), .inr (4, [.int 3, .int 1, .ref f, .int 0, .int (-1), .null, .int (-1), .null]))] H := hP
              have hD : va_D A [(x, .inr (5, [.ref a1, .ref a2, .ref a3, .ref a4])), (a1, wT tC 5 fs), (a4, wS tC 5 (va_up (va_up (va_up (va_up (va_up gf 0 none) 1 none) 2 (some f)) 3 (some f)) 4 none)), (f, .inr (3, [.ref e1, .ref e2, .int 5, .int 0])), (e1, wI tC 0 z1), ((qs 0), .inr (4, [.int 0, .int 1, .ref f, .int 0, .int (-1), .null, .int (-1), .null])), ((qs 1), .inr (4, [.int 1, .int 1, .ref f, .int 0, .int (-1), .null, .int (-1), .null])), ((qs 4), .inr (4, [.int 4, .int 1, .ref f, .int 0, .int (-1), .null, .int (-1), .null])), ((qs 2), .inr (4, [.int 2, .int 1, .ref f, .int 0, .int (-1), .null, .int (-1), .null])), ((qs 3), .inr (4, [.int 3, .int 1, .ref f, .int 0, .int (-1), .null, .int (-1), .null]))] := hD
              refine lv_iinc (v := 5) (lv' := [(2, .int 5), (3, .int 0), (0, .ref x), (1, .int p0)]) hx hb dX4_allowed_81 hl (k := 1) rfl (by decide) (by decide) rfl (fun ls hl => ?_)
              refine lv_goto (tgt := 21) hx hb dX4_allowed_84 (by decide) ?_
              refine lv_iload_n hx hb dX4_allowed_21 rfl (lv_at hl 0 rfl) ?_
              refine lv_iconst (v := 5) hx hb dX4_allowed_22 (by decide) ?_
              refine lv_icmp_ge (tgt := 87) hx hb dX4_allowed_23 (by decide) (fun _ => ?_) (fun hc => absurd (by decide) hc)
              refine lv_aload_n hx hb dX4_allowed_87 rfl (lv_at hl 2 rfl) ?_
              refine va_get (D := D) (ci := 5) (v := .ref a4) (C := RX4) (T := TX4) (N := 4) hx hb hts in_X4_allowed_X4 hown hK hP 0 rfl rfl 3 (by decide) w_0 (fun _ h9 => h9) rfl dX4_allowed_88 ?_
              have hPc := hP.sub (ws' := [(a4, wS tC 5 (va_up (va_up (va_up (va_up (va_up gf 0 none) 1 none) 2 (some f)) 3 (some f)) 4 none)), (f, .inr (3, [.ref e1, .ref e2, .int 5, .int 0])), (e1, wI tC 0 z1)]) [2, 3, 4] rfl
              have hDc := hD.sub (ws' := [(a4, wS tC 5 (va_up (va_up (va_up (va_up (va_up gf 0 none) 1 none) 2 (some f)) 3 (some f)) 4 none)), (f, .inr (3, [.ref e1, .ref e2, .int 5, .int 0])), (e1, wI tC 0 z1)]) [2, 3, 4] (by decide) rfl
              have hFc := va_free (wc := [(a4, wS tC 5 (va_up (va_up (va_up (va_up (va_up gf 0 none) 1 none) 2 (some f)) 3 (some f)) 4 none)), (f, .inr (3, [.ref e1, .ref e2, .int 5, .int 0])), (e1, wI tC 0 z1)]) hD hS hA [2, 3, 4] rfl
              refine va_callq (va_runS (As := [.ref a4]) (rest := []) ⟨hx, hb, hml, hown, hts⟩ (c_X4_heldByHolders l hlt D tC dz H.size a4 (va_up (va_up (va_up (va_up (va_up gf 0 none) 1 none) 2 (some f)) 3 (some f)) 4 none) (bqb p0) f e1 e2 z1 (by intro j hj; rcases (show j = 0 ∨ j = 1 ∨ j = 2 ∨ j = 3 ∨ j = 4 by omega) with rfl | rfl | rfl | rfl | rfl <;> simp [va_up, hb0, hb1, hb2, hb3, hb4])) (va_cwS 1 hts gX4_allowed_X4_heldByHolders rfl rfl rfl (by decide +kernel) ⟨Nat.le_of_ble_eq_true rfl, Nat.le_of_ble_eq_true rfl⟩) ⟨pB_blind, pB_at hPc hDc hK hN hE hS hFc⟩ rfl rfl hl.1 rfl (lv_room (Nat.le_of_ble_eq_true rfl)) dX4_allowed_91 ⟨Nat.le_of_ble_eq_true rfl, Nat.le_of_ble_eq_true rfl⟩) hS (fun q _ h => hFc q h) hFc (fun r_65 u t H1 locs ht hvm hw hB hz1 hk1 hS => ?_)
              obtain ⟨hP1, _, hD1⟩ := hB
              have hw_66 := hw
              rw [ht] at hP1
              obtain ⟨hP, hD⟩ := va_join (wr := [(x, .inr (5, [.ref a1, .ref a2, .ref a3, .ref a4])), (a1, wT tC 5 fs), ((qs 0), .inr (4, [.int 0, .int 1, .ref f, .int 0, .int (-1), .null, .int (-1), .null])), ((qs 1), .inr (4, [.int 1, .int 1, .ref f, .int 0, .int (-1), .null, .int (-1), .null])), ((qs 4), .inr (4, [.int 4, .int 1, .ref f, .int 0, .int (-1), .null, .int (-1), .null])), ((qs 2), .inr (4, [.int 2, .int 1, .ref f, .int 0, .int (-1), .null, .int (-1), .null])), ((qs 3), .inr (4, [.int 3, .int 1, .ref f, .int 0, .int (-1), .null, .int (-1), .null]))]) (w1 := [(a4, wS tC 5 (va_up (va_up (va_up (va_up (va_up gf 0 none) 1 none) 2 (some f)) 3 (some f)) 4 none)), (f, .inr (3, [.ref e1, .ref e2, .int 5, .int 0])), (e1, wI tC 0 z1)]) hP hD [2, 3, 4] [0, 1, 5, 6, 7, 8, 9] rfl rfl (by decide) (by decide) hk1 hFc hP1 hD1
              generalize H1 = H at hP hS ⊢
              have hP : va_P D vwCl [(x, .inr (5, [.ref a1, .ref a2, .ref a3, .ref a4])), (a1, wT tC 5 fs), ((qs 0), .inr (4, [.int 0, .int 1, .ref f, .int 0, .int (-1), .null, .int (-1), .null])), ((qs 1), .inr (4, [.int 1, .int 1, .ref f, .int 0, .int (-1), .null, .int (-1), .null])), ((qs 4), .inr (4, [.int 4, .int 1, .ref f, .int 0, .int (-1), .null, .int (-1), .null])), ((qs 2), .inr (4, [.int 2, .int 1, .ref f, .int 0, .int (-1), .null, .int (-1), .null])), ((qs 3), .inr (4, [.int 3, .int 1, .ref f, .int 0, .int (-1), .null, .int (-1), .null])), (a4, wS tC 5 (va_up (va_up (va_up (va_up (va_up gf 0 none) 1 none) 2 (some f)) 3 (some f)) 4 none)), (f, .inr (3, [.ref e1, .ref e2, .int 5, .int 0])), (e1, wI tC 0 z1)] H := hP
              have hD : va_D A [(x, .inr (5, [.ref a1, .ref a2, .ref a3, .ref a4])), (a1, wT tC 5 fs), ((qs 0), .inr (4, [.int 0, .int 1, .ref f, .int 0, .int (-1), .null, .int (-1), .null])), ((qs 1), .inr (4, [.int 1, .int 1, .ref f, .int 0, .int (-1), .null, .int (-1), .null])), ((qs 4), .inr (4, [.int 4, .int 1, .ref f, .int 0, .int (-1), .null, .int (-1), .null])), ((qs 2), .inr (4, [.int 2, .int 1, .ref f, .int 0, .int (-1), .null, .int (-1), .null])), ((qs 3), .inr (4, [.int 3, .int 1, .ref f, .int 0, .int (-1), .null, .int (-1), .null])), (a4, wS tC 5 (va_up (va_up (va_up (va_up (va_up gf 0 none) 1 none) 2 (some f)) 3 (some f)) 4 none)), (f, .inr (3, [.ref e1, .ref e2, .int 5, .int 0])), (e1, wI tC 0 z1)] := hD
              have q1 : r_65 = some f := hw_66.trans (by rw [hb0, hb1, hb2, hb3, hb4] <;> rfl)
              subst q1
              refine W.eq (g2 := F0 m 94 ls [.ref f]) rfl ?_
              refine lv_astore_n (lv' := [(2, .ref f), (3, .int 0), (0, .ref x), (1, .int p0)]) hx hb dX4_allowed_94 rfl hl (by decide) rfl (fun ls hl => ?_)
              refine lv_aload_n hx hb dX4_allowed_95 rfl (lv_at hl 0 rfl) ?_
              refine lv_ifnull hx hb dX4_allowed_96 ?_
              refine lv_aload_n hx hb dX4_allowed_99 rfl (lv_at hl 2 rfl) ?_
              refine va_get (D := D) (ci := 5) (v := .ref a4) (C := RX4) (T := TX4) (N := 4) hx hb hts in_X4_allowed_X4 hown hK hP 0 rfl rfl 3 (by decide) w_0 (fun _ h9 => h9) rfl dX4_allowed_100 ?_
              refine lv_aload_n hx hb dX4_allowed_103 rfl (lv_at hl 0 rfl) ?_
              have hPc := hP.sub (ws' := [(a4, wS tC 5 (va_up (va_up (va_up (va_up (va_up gf 0 none) 1 none) 2 (some f)) 3 (some f)) 4 none)), (f, .inr (3, [.ref e1, .ref e2, .int 5, .int 0])), (e1, wI tC 0 z1)]) [7, 8, 9] rfl
              have hDc := hD.sub (ws' := [(a4, wS tC 5 (va_up (va_up (va_up (va_up (va_up gf 0 none) 1 none) 2 (some f)) 3 (some f)) 4 none)), (f, .inr (3, [.ref e1, .ref e2, .int 5, .int 0])), (e1, wI tC 0 z1)]) [7, 8, 9] (by decide) rfl
              have hFc := va_free (wc := [(a4, wS tC 5 (va_up (va_up (va_up (va_up (va_up gf 0 none) 1 none) 2 (some f)) 3 (some f)) 4 none)), (f, .inr (3, [.ref e1, .ref e2, .int 5, .int 0])), (e1, wI tC 0 z1)]) hD hS hA [7, 8, 9] rfl
              refine va_calli (va_runS (As := [.ref a4, .ref f]) (rest := []) ⟨hx, hb, hml, hown, hts⟩ (c_X4_mayGoOn l hlt D tC dz H.size a4 (va_up (va_up (va_up (va_up (va_up gf 0 none) 1 none) 2 (some f)) 3 (some f)) 4 none) (bqb p0) f e1 e2 z1 (by intro j hj; rcases (show j = 0 ∨ j = 1 ∨ j = 2 ∨ j = 3 ∨ j = 4 by omega) with rfl | rfl | rfl | rfl | rfl <;> simp [va_up, hb0, hb1, hb2, hb3, hb4])) (va_cwS 2 hts gX4_allowed_X4_mayGoOn rfl rfl rfl (by decide +kernel) ⟨Nat.le_of_ble_eq_true rfl, Nat.le_of_ble_eq_true rfl⟩) ⟨pB_blind, pB_at hPc hDc hK hN hE hS hFc⟩ rfl rfl hl.1 rfl (lv_room (Nat.le_of_ble_eq_true rfl)) dX4_allowed_104 ⟨Nat.le_of_ble_eq_true rfl, Nat.le_of_ble_eq_true rfl⟩) hS (fun q _ h => hFc q h) hFc (fun r_67 u t H1 locs ht hvm hw hB hz1 hk1 hS => ?_)
              obtain ⟨hP1, _, hD1⟩ := hB
              have hw_68 := hw
              rw [ht] at hP1
              obtain ⟨hP, hD⟩ := va_join (wr := [(x, .inr (5, [.ref a1, .ref a2, .ref a3, .ref a4])), (a1, wT tC 5 fs), ((qs 0), .inr (4, [.int 0, .int 1, .ref f, .int 0, .int (-1), .null, .int (-1), .null])), ((qs 1), .inr (4, [.int 1, .int 1, .ref f, .int 0, .int (-1), .null, .int (-1), .null])), ((qs 4), .inr (4, [.int 4, .int 1, .ref f, .int 0, .int (-1), .null, .int (-1), .null])), ((qs 2), .inr (4, [.int 2, .int 1, .ref f, .int 0, .int (-1), .null, .int (-1), .null])), ((qs 3), .inr (4, [.int 3, .int 1, .ref f, .int 0, .int (-1), .null, .int (-1), .null]))]) (w1 := [(a4, wS tC 5 (va_up (va_up (va_up (va_up (va_up gf 0 none) 1 none) 2 (some f)) 3 (some f)) 4 none)), (f, .inr (3, [.ref e1, .ref e2, .int 5, .int 0])), (e1, wI tC 0 z1)]) hP hD [7, 8, 9] [0, 1, 2, 3, 4, 5, 6] rfl rfl (by decide) (by decide) hk1 hFc hP1 hD1
              generalize H1 = H at hP hS ⊢
              have hP : va_P D vwCl [(x, .inr (5, [.ref a1, .ref a2, .ref a3, .ref a4])), (a1, wT tC 5 fs), ((qs 0), .inr (4, [.int 0, .int 1, .ref f, .int 0, .int (-1), .null, .int (-1), .null])), ((qs 1), .inr (4, [.int 1, .int 1, .ref f, .int 0, .int (-1), .null, .int (-1), .null])), ((qs 4), .inr (4, [.int 4, .int 1, .ref f, .int 0, .int (-1), .null, .int (-1), .null])), ((qs 2), .inr (4, [.int 2, .int 1, .ref f, .int 0, .int (-1), .null, .int (-1), .null])), ((qs 3), .inr (4, [.int 3, .int 1, .ref f, .int 0, .int (-1), .null, .int (-1), .null])), (a4, wS tC 5 (va_up (va_up (va_up (va_up (va_up gf 0 none) 1 none) 2 (some f)) 3 (some f)) 4 none)), (f, .inr (3, [.ref e1, .ref e2, .int 5, .int 0])), (e1, wI tC 0 z1)] H := hP
              have hD : va_D A [(x, .inr (5, [.ref a1, .ref a2, .ref a3, .ref a4])), (a1, wT tC 5 fs), ((qs 0), .inr (4, [.int 0, .int 1, .ref f, .int 0, .int (-1), .null, .int (-1), .null])), ((qs 1), .inr (4, [.int 1, .int 1, .ref f, .int 0, .int (-1), .null, .int (-1), .null])), ((qs 4), .inr (4, [.int 4, .int 1, .ref f, .int 0, .int (-1), .null, .int (-1), .null])), ((qs 2), .inr (4, [.int 2, .int 1, .ref f, .int 0, .int (-1), .null, .int (-1), .null])), ((qs 3), .inr (4, [.int 3, .int 1, .ref f, .int 0, .int (-1), .null, .int (-1), .null])), (a4, wS tC 5 (va_up (va_up (va_up (va_up (va_up gf 0 none) 1 none) 2 (some f)) 3 (some f)) 4 none)), (f, .inr (3, [.ref e1, .ref e2, .int 5, .int 0])), (e1, wI tC 0 z1)] := hD
              have q1 : r_67 = 0 := hw_68.trans (by unfold mayg cntb; rw [hb0, hb1, hb2, hb3, hb4] <;> decide)
              subst q1
              refine lv_if_eq (tgt := 114) hx hb dX4_allowed_107 (by decide) (fun _ => ?_) (fun hc => absurd (by decide) hc)
              refine lv_iconst (v := 0) hx hb dX4_allowed_114 (by decide) ?_
              have hP9 := hP.sub (ws' := []) [] rfl
              have hD9 := hD.sub (ws' := []) [] (by decide) rfl
              refine W.widen (k := 1) (n := 6) (by omega) (by omega) ?_
              exact vx_ret (W.zret (v := 0) hx hb hr (by decide) (fun t ht hW => ⟨⟨0, (), rfl, ⟨(by unfold mayg cntb; rw [hb0, hb1, hb2, hb3, hb4] <;> decide), bl1 hw_2 c_3⟩, (by rw [ht]; exact hP9), va_K.moved hW.alike hK, hD9⟩, hS.F ht⟩) hS.2.2 dX4_allowed_115 hlocks)
            · skip
              have hb4 : bqb p0 4 = true := bqT (fun h => c_64 (ez_63.trans h))
              refine lv_iconst (v := 1) hx hb dX4_allowed_34 (by decide) ?_
              refine lv_goto (tgt := 39) hx hb dX4_allowed_35 (by decide) ?_
              refine lv_istore_n (lv' := [(3, .int 1), (2, .int 4), (0, .ref x), (1, .int p0)]) hx hb dX4_allowed_39 rfl hl (by decide) rfl (fun ls hl => ?_)
              refine lv_iload_n hx hb dX4_allowed_40 rfl (lv_at hl 0 rfl) ?_
              refine lv_if_eq (tgt := 58) hx hb dX4_allowed_41 (by decide) (fun hc => absurd hc (by decide)) (fun _ => ?_)
              refine lv_aload_n hx hb dX4_allowed_44 rfl (lv_at hl 2 rfl) ?_
              refine va_get (D := D) (ci := 5) (v := .ref a1) (C := RX4) (T := TX4) (N := 4) hx hb hts in_X4_allowed_X4 hown hK hP 0 rfl rfl 0 (by decide) w_1 (fun _ h9 => h9) rfl dX4_allowed_45 ?_
              refine lv_iload_n hx hb dX4_allowed_48 rfl (lv_at hl 1 rfl) ?_
              refine va_aldq hx hb hK hP 1 3 rfl rfl (by unfold vp_in; decide) dX4_allowed_49 ?_
              rw [show fs (4 : Int32).toNatClampNeg = some (qs 4) from (by rw [show (4 : Int32).toNatClampNeg = 4 by decide]; exact hfs 4 (by decide))]
              refine W.eq (g2 := F0 m 50 ls [.ref (qs 4)]) rfl ?_
              have hPc := hP.sub (ws' := [((qs 4), .inr (4, [.int 4, .int 1, .ref f, .int 0, .int (-1), .null, .int (-1), .null]))]) [7] rfl
              have hDc := hD.sub (ws' := [((qs 4), .inr (4, [.int 4, .int 1, .ref f, .int 0, .int (-1), .null, .int (-1), .null]))]) [7] (by decide) rfl
              have hFc := va_free (wc := [((qs 4), .inr (4, [.int 4, .int 1, .ref f, .int 0, .int (-1), .null, .int (-1), .null]))]) hD hS hA [7] rfl
              refine va_calli (va_runVN (As := []) (rest := []) ⟨hx, hb, hml, hown, hts⟩ (c_X3_isFree l hlt D tC dz H.size f (qs 4) 4 ) ⟨(va_cnB (host := "NoticeStations") 0 hts gX4_allowed_X3_isFree_n240 rfl rfl rfl (hN.1 (.methodLinkNest "NoticeStations" 240 ⟨"NoticeStations$Station", "isFree", "()Z"⟩ "NoticeStations") (by decide +kernel)) w_2 (by decide +kernel) ⟨Nat.le_of_ble_eq_true rfl, Nat.le_of_ble_eq_true rfl⟩), w_3, w_4⟩ ⟨pB_blind, va_recv hK hPc (ci := 4) (q0 := 0) rfl rfl, pB_at hPc hDc hK hN hE hS hFc⟩ rfl rfl hl.1 rfl (lv_room (Nat.le_of_ble_eq_true rfl)) dX4_allowed_50 ⟨Nat.le_of_ble_eq_true rfl, Nat.le_of_ble_eq_true rfl⟩) hS (fun q _ h => hFc q h) hFc (fun r_69 u t H1 locs ht hvm hw hB hz1 hk1 hS => ?_)
              obtain ⟨hP1, _, hD1⟩ := hB
              have hw_70 := hw
              rw [ht] at hP1
              obtain ⟨hP, hD⟩ := va_join (wr := [(x, .inr (5, [.ref a1, .ref a2, .ref a3, .ref a4])), (a1, wT tC 5 fs), (a4, wS tC 5 (va_up (va_up (va_up (va_up gf 0 none) 1 none) 2 (some f)) 3 (some f))), (f, .inr (3, [.ref e1, .ref e2, .int 5, .int 0])), (e1, wI tC 0 z1), ((qs 0), .inr (4, [.int 0, .int 1, .ref f, .int 0, .int (-1), .null, .int (-1), .null])), ((qs 1), .inr (4, [.int 1, .int 1, .ref f, .int 0, .int (-1), .null, .int (-1), .null])), ((qs 2), .inr (4, [.int 2, .int 1, .ref f, .int 0, .int (-1), .null, .int (-1), .null])), ((qs 3), .inr (4, [.int 3, .int 1, .ref f, .int 0, .int (-1), .null, .int (-1), .null]))]) (w1 := [((qs 4), .inr (4, [.int 4, .int 1, .ref f, .int 0, .int (-1), .null, .int (-1), .null]))]) hP hD [7] [0, 1, 2, 3, 4, 5, 6, 8, 9] rfl rfl (by decide) (by decide) hk1 hFc hP1 hD1
              generalize H1 = H at hP hS ⊢
              have hP : va_P D vwCl [(x, .inr (5, [.ref a1, .ref a2, .ref a3, .ref a4])), (a1, wT tC 5 fs), (a4, wS tC 5 (va_up (va_up (va_up (va_up gf 0 none) 1 none) 2 (some f)) 3 (some f))), (f, .inr (3, [.ref e1, .ref e2, .int 5, .int 0])), (e1, wI tC 0 z1), ((qs 0), .inr (4, [.int 0, .int 1, .ref f, .int 0, .int (-1), .null, .int (-1), .null])), ((qs 1), .inr (4, [.int 1, .int 1, .ref f, .int 0, .int (-1), .null, .int (-1), .null])), ((qs 2), .inr (4, [.int 2, .int 1, .ref f, .int 0, .int (-1), .null, .int (-1), .null])), ((qs 3), .inr (4, [.int 3, .int 1, .ref f, .int 0, .int (-1), .null, .int (-1), .null])), ((qs 4), .inr (4, [.int 4, .int 1, .ref f, .int 0, .int (-1), .null, .int (-1), .null]))] H := hP
              have hD : va_D A [(x, .inr (5, [.ref a1, .ref a2, .ref a3, .ref a4])), (a1, wT tC 5 fs), (a4, wS tC 5 (va_up (va_up (va_up (va_up gf 0 none) 1 none) 2 (some f)) 3 (some f))), (f, .inr (3, [.ref e1, .ref e2, .int 5, .int 0])), (e1, wI tC 0 z1), ((qs 0), .inr (4, [.int 0, .int 1, .ref f, .int 0, .int (-1), .null, .int (-1), .null])), ((qs 1), .inr (4, [.int 1, .int 1, .ref f, .int 0, .int (-1), .null, .int (-1), .null])), ((qs 2), .inr (4, [.int 2, .int 1, .ref f, .int 0, .int (-1), .null, .int (-1), .null])), ((qs 3), .inr (4, [.int 3, .int 1, .ref f, .int 0, .int (-1), .null, .int (-1), .null])), ((qs 4), .inr (4, [.int 4, .int 1, .ref f, .int 0, .int (-1), .null, .int (-1), .null]))] := hD
              subst hw_70
              refine lv_if_ne (tgt := 58) hx hb dX4_allowed_53 (by decide) (fun _ => ?_) (fun hc => absurd hc (by decide))
              refine lv_aload_n hx hb dX4_allowed_58 rfl (lv_at hl 2 rfl) ?_
              refine va_get (D := D) (ci := 5) (v := .ref a4) (C := RX4) (T := TX4) (N := 4) hx hb hts in_X4_allowed_X4 hown hK hP 0 rfl rfl 3 (by decide) w_0 (fun _ h9 => h9) rfl dX4_allowed_59 ?_
              refine lv_iload_n hx hb dX4_allowed_62 rfl (lv_at hl 1 rfl) ?_
              refine lv_iload_n hx hb dX4_allowed_63 rfl (lv_at hl 0 rfl) ?_
              refine lv_if_eq (tgt := 79) hx hb dX4_allowed_64 (by decide) (fun hc => absurd hc (by decide)) (fun _ => ?_)
              refine lv_aload_n hx hb dX4_allowed_67 rfl (lv_at hl 2 rfl) ?_
              refine va_get (D := D) (ci := 5) (v := .ref a1) (C := RX4) (T := TX4) (N := 4) hx hb hts in_X4_allowed_X4 hown hK hP 0 rfl rfl 0 (by decide) w_1 (fun _ h9 => h9) rfl dX4_allowed_68 ?_
              refine lv_iload_n hx hb dX4_allowed_71 rfl (lv_at hl 1 rfl) ?_
              refine va_aldq hx hb hK hP 1 3 rfl rfl (by unfold vp_in; decide) dX4_allowed_72 ?_
              rw [show fs (4 : Int32).toNatClampNeg = some (qs 4) from (by rw [show (4 : Int32).toNatClampNeg = 4 by decide]; exact hfs 4 (by decide))]
              refine W.eq (g2 := F0 m 73 ls [.ref (qs 4), .int 4, .ref a4]) rfl ?_
              refine va_getN (host := "NoticeStations") (D := D) (ci := 4) (v := .ref f) (C := RX3) (T := TX3) (N := 8) hx hb hts in_X4_allowed_X3 hown hK hP 9 rfl rfl 2 (by decide) (va_Nw.use rfl (hN.1 (.fieldLinkNest "NoticeStations" 61 "NoticeStations$Station" "stored" "LNoticeStations$Standing;" "NoticeStations") (by decide +kernel))) (fun _ h9 => h9) rfl dX4_allowed_73 ?_
              refine lv_goto (tgt := 80) hx hb dX4_allowed_76 (by decide) ?_
              refine va_astq hx hb hK hP hD hS 2 2 3 3 rfl rfl rfl rfl (by unfold vp_in; decide) dX4_allowed_80 (fun H locs hP hD hS => ?_)
              have hP : va_P D vwCl [(x, .inr (5, [.ref a1, .ref a2, .ref a3, .ref a4])), (a1, wT tC 5 fs), (a4, wS tC 5 (va_up (va_up (va_up (va_up (va_up gf 0 none) 1 none) 2 (some f)) 3 (some f)) 4 (some f))), (f, .inr (3, [.ref e1, .ref e2, .int 5, .int 0])), (e1, wI tC 0 z1), ((qs 0), .inr (4, [.int 0, .int 1, .ref f, .int 0, .int (-1), .null, .int (-1), .null])), ((qs 1), .inr (4, [.int 1, .int 1, .ref f, .int 0, .int (-1), .null, .int (-1), .null])), ((qs 2), .inr (4, [.int 2, .int 1, .ref f, .int 0, .int (-1), .null, .int (-1), .null])), ((qs 3), .inr (4, [.int 3, .int 1, .ref f, .int 0, .int (-1), .null, .int (-1), .null])), ((qs 4), .inr (4, [.int 4, .int 1, .ref f, .int 0, .int (-1), .null, .int (-1), .null]))] H := hP
              have hD : va_D A [(x, .inr (5, [.ref a1, .ref a2, .ref a3, .ref a4])), (a1, wT tC 5 fs), (a4, wS tC 5 (va_up (va_up (va_up (va_up (va_up gf 0 none) 1 none) 2 (some f)) 3 (some f)) 4 (some f))), (f, .inr (3, [.ref e1, .ref e2, .int 5, .int 0])), (e1, wI tC 0 z1), ((qs 0), .inr (4, [.int 0, .int 1, .ref f, .int 0, .int (-1), .null, .int (-1), .null])), ((qs 1), .inr (4, [.int 1, .int 1, .ref f, .int 0, .int (-1), .null, .int (-1), .null])), ((qs 2), .inr (4, [.int 2, .int 1, .ref f, .int 0, .int (-1), .null, .int (-1), .null])), ((qs 3), .inr (4, [.int 3, .int 1, .ref f, .int 0, .int (-1), .null, .int (-1), .null])), ((qs 4), .inr (4, [.int 4, .int 1, .ref f, .int 0, .int (-1), .null, .int (-1), .null]))] := hD
              refine lv_iinc (v := 5) (lv' := [(2, .int 5), (3, .int 1), (0, .ref x), (1, .int p0)]) hx hb dX4_allowed_81 hl (k := 1) rfl (by decide) (by decide) rfl (fun ls hl => ?_)
              refine lv_goto (tgt := 21) hx hb dX4_allowed_84 (by decide) ?_
              refine lv_iload_n hx hb dX4_allowed_21 rfl (lv_at hl 0 rfl) ?_
              refine lv_iconst (v := 5) hx hb dX4_allowed_22 (by decide) ?_
              refine lv_icmp_ge (tgt := 87) hx hb dX4_allowed_23 (by decide) (fun _ => ?_) (fun hc => absurd (by decide) hc)
              refine lv_aload_n hx hb dX4_allowed_87 rfl (lv_at hl 2 rfl) ?_
              refine va_get (D := D) (ci := 5) (v := .ref a4) (C := RX4) (T := TX4) (N := 4) hx hb hts in_X4_allowed_X4 hown hK hP 0 rfl rfl 3 (by decide) w_0 (fun _ h9 => h9) rfl dX4_allowed_88 ?_
              have hPc := hP.sub (ws' := [(a4, wS tC 5 (va_up (va_up (va_up (va_up (va_up gf 0 none) 1 none) 2 (some f)) 3 (some f)) 4 (some f))), (f, .inr (3, [.ref e1, .ref e2, .int 5, .int 0])), (e1, wI tC 0 z1)]) [2, 3, 4] rfl
              have hDc := hD.sub (ws' := [(a4, wS tC 5 (va_up (va_up (va_up (va_up (va_up gf 0 none) 1 none) 2 (some f)) 3 (some f)) 4 (some f))), (f, .inr (3, [.ref e1, .ref e2, .int 5, .int 0])), (e1, wI tC 0 z1)]) [2, 3, 4] (by decide) rfl
              have hFc := va_free (wc := [(a4, wS tC 5 (va_up (va_up (va_up (va_up (va_up gf 0 none) 1 none) 2 (some f)) 3 (some f)) 4 (some f))), (f, .inr (3, [.ref e1, .ref e2, .int 5, .int 0])), (e1, wI tC 0 z1)]) hD hS hA [2, 3, 4] rfl
              refine va_callq (va_runS (As := [.ref a4]) (rest := []) ⟨hx, hb, hml, hown, hts⟩ (c_X4_heldByHolders l hlt D tC dz H.size a4 (va_up (va_up (va_up (va_up (va_up gf 0 none) 1 none) 2 (some f)) 3 (some f)) 4 (some f)) (bqb p0) f e1 e2 z1 (by intro j hj; rcases (show j = 0 ∨ j = 1 ∨ j = 2 ∨ j = 3 ∨ j = 4 by omega) with rfl | rfl | rfl | rfl | rfl <;> simp [va_up, hb0, hb1, hb2, hb3, hb4])) (va_cwS 1 hts gX4_allowed_X4_heldByHolders rfl rfl rfl (by decide +kernel) ⟨Nat.le_of_ble_eq_true rfl, Nat.le_of_ble_eq_true rfl⟩) ⟨pB_blind, pB_at hPc hDc hK hN hE hS hFc⟩ rfl rfl hl.1 rfl (lv_room (Nat.le_of_ble_eq_true rfl)) dX4_allowed_91 ⟨Nat.le_of_ble_eq_true rfl, Nat.le_of_ble_eq_true rfl⟩) hS (fun q _ h => hFc q h) hFc (fun r_71 u t H1 locs ht hvm hw hB hz1 hk1 hS => ?_)
              obtain ⟨hP1, _, hD1⟩ := hB
              have hw_72 := hw
              rw [ht] at hP1
              obtain ⟨hP, hD⟩ := va_join (wr := [(x, .inr (5, [.ref a1, .ref a2, .ref a3, .ref a4])), (a1, wT tC 5 fs), ((qs 0), .inr (4, [.int 0, .int 1, .ref f, .int 0, .int (-1), .null, .int (-1), .null])), ((qs 1), .inr (4, [.int 1, .int 1, .ref f, .int 0, .int (-1), .null, .int (-1), .null])), ((qs 2), .inr (4, [.int 2, .int 1, .ref f, .int 0, .int (-1), .null, .int (-1), .null])), ((qs 3), .inr (4, [.int 3, .int 1, .ref f, .int 0, .int (-1), .null, .int (-1), .null])), ((qs 4), .inr (4, [.int 4, .int 1, .ref f, .int 0, .int (-1), .null, .int (-1), .null]))]) (w1 := [(a4, wS tC 5 (va_up (va_up (va_up (va_up (va_up gf 0 none) 1 none) 2 (some f)) 3 (some f)) 4 (some f))), (f, .inr (3, [.ref e1, .ref e2, .int 5, .int 0])), (e1, wI tC 0 z1)]) hP hD [2, 3, 4] [0, 1, 5, 6, 7, 8, 9] rfl rfl (by decide) (by decide) hk1 hFc hP1 hD1
              generalize H1 = H at hP hS ⊢
              have hP : va_P D vwCl [(x, .inr (5, [.ref a1, .ref a2, .ref a3, .ref a4])), (a1, wT tC 5 fs), ((qs 0), .inr (4, [.int 0, .int 1, .ref f, .int 0, .int (-1), .null, .int (-1), .null])), ((qs 1), .inr (4, [.int 1, .int 1, .ref f, .int 0, .int (-1), .null, .int (-1), .null])), ((qs 2), .inr (4, [.int 2, .int 1, .ref f, .int 0, .int (-1), .null, .int (-1), .null])), ((qs 3), .inr (4, [.int 3, .int 1, .ref f, .int 0, .int (-1), .null, .int (-1), .null])), ((qs 4), .inr (4, [.int 4, .int 1, .ref f, .int 0, .int (-1), .null, .int (-1), .null])), (a4, wS tC 5 (va_up (va_up (va_up (va_up (va_up gf 0 none) 1 none) 2 (some f)) 3 (some f)) 4 (some f))), (f, .inr (3, [.ref e1, .ref e2, .int 5, .int 0])), (e1, wI tC 0 z1)] H := hP
              have hD : va_D A [(x, .inr (5, [.ref a1, .ref a2, .ref a3, .ref a4])), (a1, wT tC 5 fs), ((qs 0), .inr (4, [.int 0, .int 1, .ref f, .int 0, .int (-1), .null, .int (-1), .null])), ((qs 1), .inr (4, [.int 1, .int 1, .ref f, .int 0, .int (-1), .null, .int (-1), .null])), ((qs 2), .inr (4, [.int 2, .int 1, .ref f, .int 0, .int (-1), .null, .int (-1), .null])), ((qs 3), .inr (4, [.int 3, .int 1, .ref f, .int 0, .int (-1), .null, .int (-1), .null])), ((qs 4), .inr (4, [.int 4, .int 1, .ref f, .int 0, .int (-1), .null, .int (-1), .null])), (a4, wS tC 5 (va_up (va_up (va_up (va_up (va_up gf 0 none) 1 none) 2 (some f)) 3 (some f)) 4 (some f))), (f, .inr (3, [.ref e1, .ref e2, .int 5, .int 0])), (e1, wI tC 0 z1)] := hD
              have q1 : r_71 = some f := hw_72.trans (by rw [hb0, hb1, hb2, hb3, hb4] <;> rfl)
              subst q1
              refine W.eq (g2 := F0 m 94 ls [.ref f]) rfl ?_
              refine lv_astore_n (lv' := [(2, .ref f), (3, .int 1), (0, .ref x), (1, .int p0)]) hx hb dX4_allowed_94 rfl hl (by decide) rfl (fun ls hl => ?_)
              refine lv_aload_n hx hb dX4_allowed_95 rfl (lv_at hl 0 rfl) ?_
              refine lv_ifnull hx hb dX4_allowed_96 ?_
              refine lv_aload_n hx hb dX4_allowed_99 rfl (lv_at hl 2 rfl) ?_
              refine va_get (D := D) (ci := 5) (v := .ref a4) (C := RX4) (T := TX4) (N := 4) hx hb hts in_X4_allowed_X4 hown hK hP 0 rfl rfl 3 (by decide) w_0 (fun _ h9 => h9) rfl dX4_allowed_100 ?_
              refine lv_aload_n hx hb dX4_allowed_103 rfl (lv_at hl 0 rfl) ?_
              have hPc := hP.sub (ws' := [(a4, wS tC 5 (va_up (va_up (va_up (va_up (va_up gf 0 none) 1 none) 2 (some f)) 3 (some f)) 4 (some f))), (f, .inr (3, [.ref e1, .ref e2, .int 5, .int 0])), (e1, wI tC 0 z1)]) [7, 8, 9] rfl
              have hDc := hD.sub (ws' := [(a4, wS tC 5 (va_up (va_up (va_up (va_up (va_up gf 0 none) 1 none) 2 (some f)) 3 (some f)) 4 (some f))), (f, .inr (3, [.ref e1, .ref e2, .int 5, .int 0])), (e1, wI tC 0 z1)]) [7, 8, 9] (by decide) rfl
              have hFc := va_free (wc := [(a4, wS tC 5 (va_up (va_up (va_up (va_up (va_up gf 0 none) 1 none) 2 (some f)) 3 (some f)) 4 (some f))), (f, .inr (3, [.ref e1, .ref e2, .int 5, .int 0])), (e1, wI tC 0 z1)]) hD hS hA [7, 8, 9] rfl
              refine va_calli (va_runS (As := [.ref a4, .ref f]) (rest := []) ⟨hx, hb, hml, hown, hts⟩ (c_X4_mayGoOn l hlt D tC dz H.size a4 (va_up (va_up (va_up (va_up (va_up gf 0 none) 1 none) 2 (some f)) 3 (some f)) 4 (some f)) (bqb p0) f e1 e2 z1 (by intro j hj; rcases (show j = 0 ∨ j = 1 ∨ j = 2 ∨ j = 3 ∨ j = 4 by omega) with rfl | rfl | rfl | rfl | rfl <;> simp [va_up, hb0, hb1, hb2, hb3, hb4])) (va_cwS 2 hts gX4_allowed_X4_mayGoOn rfl rfl rfl (by decide +kernel) ⟨Nat.le_of_ble_eq_true rfl, Nat.le_of_ble_eq_true rfl⟩) ⟨pB_blind, pB_at hPc hDc hK hN hE hS hFc⟩ rfl rfl hl.1 rfl (lv_room (Nat.le_of_ble_eq_true rfl)) dX4_allowed_104 ⟨Nat.le_of_ble_eq_true rfl, Nat.le_of_ble_eq_true rfl⟩) hS (fun q _ h => hFc q h) hFc (fun r_73 u t H1 locs ht hvm hw hB hz1 hk1 hS => ?_)
              obtain ⟨hP1, _, hD1⟩ := hB
              have hw_74 := hw
              rw [ht] at hP1
              obtain ⟨hP, hD⟩ := va_join (wr := [(x, .inr (5, [.ref a1, .ref a2, .ref a3, .ref a4])), (a1, wT tC 5 fs), ((qs 0), .inr (4, [.int 0, .int 1, .ref f, .int 0, .int (-1), .null, .int (-1), .null])), ((qs 1), .inr (4, [.int 1, .int 1, .ref f, .int 0, .int (-1), .null, .int (-1), .null])), ((qs 2), .inr (4, [.int 2, .int 1, .ref f, .int 0, .int (-1), .null, .int (-1), .null])), ((qs 3), .inr (4, [.int 3, .int 1, .ref f, .int 0, .int (-1), .null, .int (-1), .null])), ((qs 4), .inr (4, [.int 4, .int 1, .ref f, .int 0, .int (-1), .null, .int (-1), .null]))]) (w1 := [(a4, wS tC 5 (va_up (va_up (va_up (va_up (va_up gf 0 none) 1 none) 2 (some f)) 3 (some f)) 4 (some f))), (f, .inr (3, [.ref e1, .ref e2, .int 5, .int 0])), (e1, wI tC 0 z1)]) hP hD [7, 8, 9] [0, 1, 2, 3, 4, 5, 6] rfl rfl (by decide) (by decide) hk1 hFc hP1 hD1
              generalize H1 = H at hP hS ⊢
              have hP : va_P D vwCl [(x, .inr (5, [.ref a1, .ref a2, .ref a3, .ref a4])), (a1, wT tC 5 fs), ((qs 0), .inr (4, [.int 0, .int 1, .ref f, .int 0, .int (-1), .null, .int (-1), .null])), ((qs 1), .inr (4, [.int 1, .int 1, .ref f, .int 0, .int (-1), .null, .int (-1), .null])), ((qs 2), .inr (4, [.int 2, .int 1, .ref f, .int 0, .int (-1), .null, .int (-1), .null])), ((qs 3), .inr (4, [.int 3, .int 1, .ref f, .int 0, .int (-1), .null, .int (-1), .null])), ((qs 4), .inr (4, [.int 4, .int 1, .ref f, .int 0, .int (-1), .null, .int (-1), .null])), (a4, wS tC 5 (va_up (va_up (va_up (va_up (va_up gf 0 none) 1 none) 2 (some f)) 3 (some f)) 4 (some f))), (f, .inr (3, [.ref e1, .ref e2, .int 5, .int 0])), (e1, wI tC 0 z1)] H := hP
              have hD : va_D A [(x, .inr (5, [.ref a1, .ref a2, .ref a3, .ref a4])), (a1, wT tC 5 fs), ((qs 0), .inr (4, [.int 0, .int 1, .ref f, .int 0, .int (-1), .null, .int (-1), .null])), ((qs 1), .inr (4, [.int 1, .int 1, .ref f, .int 0, .int (-1), .null, .int (-1), .null])), ((qs 2), .inr (4, [.int 2, .int 1, .ref f, .int 0, .int (-1), .null, .int (-1), .null])), ((qs 3), .inr (4, [.int 3, .int 1, .ref f, .int 0, .int (-1), .null, .int (-1), .null])), ((qs 4), .inr (4, [.int 4, .int 1, .ref f, .int 0, .int (-1), .null, .int (-1), .null])), (a4, wS tC 5 (va_up (va_up (va_up (va_up (va_up gf 0 none) 1 none) 2 (some f)) 3 (some f)) 4 (some f))), (f, .inr (3, [.ref e1, .ref e2, .int 5, .int 0])), (e1, wI tC 0 z1)] := hD
              have q1 : r_73 = 1 := hw_74.trans (by unfold mayg cntb; rw [hb0, hb1, hb2, hb3, hb4] <;> decide)
              subst q1
              refine lv_if_eq (tgt := 114) hx hb dX4_allowed_107 (by decide) (fun hc => absurd hc (by decide)) (fun _ => ?_)
              refine lv_iconst (v := 1) hx hb dX4_allowed_110 (by decide) ?_
              refine lv_goto (tgt := 115) hx hb dX4_allowed_111 (by decide) ?_
              have hP9 := hP.sub (ws' := []) [] rfl
              have hD9 := hD.sub (ws' := []) [] (by decide) rfl
              refine W.widen (k := 1) (n := 6) (by omega) (by omega) ?_
              exact vx_ret (W.zret (v := 1) hx hb hr (by decide) (fun t ht hW => ⟨⟨1, (), rfl, ⟨(by unfold mayg cntb; rw [hb0, hb1, hb2, hb3, hb4] <;> decide), bl1 hw_2 c_3⟩, (by rw [ht]; exact hP9), va_K.moved hW.alike hK, hD9⟩, hS.F ht⟩) hS.2.2 dX4_allowed_115 hlocks)
      · skip
        have hb1 : bqb p0 1 = true := bqT (fun h => c_9 (ez_8.trans h))
        refine lv_iconst (v := 1) hx hb dX4_allowed_34 (by decide) ?_
        refine lv_goto (tgt := 39) hx hb dX4_allowed_35 (by decide) ?_
        refine lv_istore_n (lv' := [(3, .int 1), (2, .int 1), (0, .ref x), (1, .int p0)]) hx hb dX4_allowed_39 rfl hl (by decide) rfl (fun ls hl => ?_)
        refine lv_iload_n hx hb dX4_allowed_40 rfl (lv_at hl 0 rfl) ?_
        refine lv_if_eq (tgt := 58) hx hb dX4_allowed_41 (by decide) (fun hc => absurd hc (by decide)) (fun _ => ?_)
        refine lv_aload_n hx hb dX4_allowed_44 rfl (lv_at hl 2 rfl) ?_
        refine va_get (D := D) (ci := 5) (v := .ref a1) (C := RX4) (T := TX4) (N := 4) hx hb hts in_X4_allowed_X4 hown hK hP 0 rfl rfl 0 (by decide) w_1 (fun _ h9 => h9) rfl dX4_allowed_45 ?_
        refine lv_iload_n hx hb dX4_allowed_48 rfl (lv_at hl 1 rfl) ?_
        refine va_aldq hx hb hK hP 1 3 rfl rfl (by unfold vp_in; decide) dX4_allowed_49 ?_
        rw [show fs (1 : Int32).toNatClampNeg = some (qs 1) from (by rw [show (1 : Int32).toNatClampNeg = 1 by decide]; exact hfs 1 (by decide))]
        refine W.eq (g2 := F0 m 50 ls [.ref (qs 1)]) rfl ?_
        have hPc := hP.sub (ws' := [((qs 1), .inr (4, [.int 1, .int 1, .ref f, .int 0, .int (-1), .null, .int (-1), .null]))]) [6] rfl
        have hDc := hD.sub (ws' := [((qs 1), .inr (4, [.int 1, .int 1, .ref f, .int 0, .int (-1), .null, .int (-1), .null]))]) [6] (by decide) rfl
        have hFc := va_free (wc := [((qs 1), .inr (4, [.int 1, .int 1, .ref f, .int 0, .int (-1), .null, .int (-1), .null]))]) hD hS hA [6] rfl
        refine va_calli (va_runVN (As := []) (rest := []) ⟨hx, hb, hml, hown, hts⟩ (c_X3_isFree l hlt D tC dz H.size f (qs 1) 1 ) ⟨(va_cnB (host := "NoticeStations") 0 hts gX4_allowed_X3_isFree_n240 rfl rfl rfl (hN.1 (.methodLinkNest "NoticeStations" 240 ⟨"NoticeStations$Station", "isFree", "()Z"⟩ "NoticeStations") (by decide +kernel)) w_2 (by decide +kernel) ⟨Nat.le_of_ble_eq_true rfl, Nat.le_of_ble_eq_true rfl⟩), w_3, w_4⟩ ⟨pB_blind, va_recv hK hPc (ci := 4) (q0 := 0) rfl rfl, pB_at hPc hDc hK hN hE hS hFc⟩ rfl rfl hl.1 rfl (lv_room (Nat.le_of_ble_eq_true rfl)) dX4_allowed_50 ⟨Nat.le_of_ble_eq_true rfl, Nat.le_of_ble_eq_true rfl⟩) hS (fun q _ h => hFc q h) hFc (fun r_75 u t H1 locs ht hvm hw hB hz1 hk1 hS => ?_)
        obtain ⟨hP1, _, hD1⟩ := hB
        have hw_76 := hw
        rw [ht] at hP1
        obtain ⟨hP, hD⟩ := va_join (wr := [(x, .inr (5, [.ref a1, .ref a2, .ref a3, .ref a4])), (a1, wT tC 5 fs), (a4, wS tC 5 (va_up gf 0 none)), (f, .inr (3, [.ref e1, .ref e2, .int 5, .int 0])), (e1, wI tC 0 z1), ((qs 0), .inr (4, [.int 0, .int 1, .ref f, .int 0, .int (-1), .null, .int (-1), .null])), ((qs 2), .inr (4, [.int 2, .int 1, .ref f, .int 0, .int (-1), .null, .int (-1), .null])), ((qs 3), .inr (4, [.int 3, .int 1, .ref f, .int 0, .int (-1), .null, .int (-1), .null])), ((qs 4), .inr (4, [.int 4, .int 1, .ref f, .int 0, .int (-1), .null, .int (-1), .null]))]) (w1 := [((qs 1), .inr (4, [.int 1, .int 1, .ref f, .int 0, .int (-1), .null, .int (-1), .null]))]) hP hD [6] [0, 1, 2, 3, 4, 5, 7, 8, 9] rfl rfl (by decide) (by decide) hk1 hFc hP1 hD1
        generalize H1 = H at hP hS ⊢
        have hP : va_P D vwCl [(x, .inr (5, [.ref a1, .ref a2, .ref a3, .ref a4])), (a1, wT tC 5 fs), (a4, wS tC 5 (va_up gf 0 none)), (f, .inr (3, [.ref e1, .ref e2, .int 5, .int 0])), (e1, wI tC 0 z1), ((qs 0), .inr (4, [.int 0, .int 1, .ref f, .int 0, .int (-1), .null, .int (-1), .null])), ((qs 2), .inr (4, [.int 2, .int 1, .ref f, .int 0, .int (-1), .null, .int (-1), .null])), ((qs 3), .inr (4, [.int 3, .int 1, .ref f, .int 0, .int (-1), .null, .int (-1), .null])), ((qs 4), .inr (4, [.int 4, .int 1, .ref f, .int 0, .int (-1), .null, .int (-1), .null])), ((qs 1), .inr (4, [.int 1, .int 1, .ref f, .int 0, .int (-1), .null, .int (-1), .null]))] H := hP
        have hD : va_D A [(x, .inr (5, [.ref a1, .ref a2, .ref a3, .ref a4])), (a1, wT tC 5 fs), (a4, wS tC 5 (va_up gf 0 none)), (f, .inr (3, [.ref e1, .ref e2, .int 5, .int 0])), (e1, wI tC 0 z1), ((qs 0), .inr (4, [.int 0, .int 1, .ref f, .int 0, .int (-1), .null, .int (-1), .null])), ((qs 2), .inr (4, [.int 2, .int 1, .ref f, .int 0, .int (-1), .null, .int (-1), .null])), ((qs 3), .inr (4, [.int 3, .int 1, .ref f, .int 0, .int (-1), .null, .int (-1), .null])), ((qs 4), .inr (4, [.int 4, .int 1, .ref f, .int 0, .int (-1), .null, .int (-1), .null])), ((qs 1), .inr (4, [.int 1, .int 1, .ref f, .int 0, .int (-1), .null, .int (-1), .null]))] := hD
        subst hw_76
        refine lv_if_ne (tgt := 58) hx hb dX4_allowed_53 (by decide) (fun _ => ?_) (fun hc => absurd hc (by decide))
        refine lv_aload_n hx hb dX4_allowed_58 rfl (lv_at hl 2 rfl) ?_
        refine va_get (D := D) (ci := 5) (v := .ref a4) (C := RX4) (T := TX4) (N := 4) hx hb hts in_X4_allowed_X4 hown hK hP 0 rfl rfl 3 (by decide) w_0 (fun _ h9 => h9) rfl dX4_allowed_59 ?_
        refine lv_iload_n hx hb dX4_allowed_62 rfl (lv_at hl 1 rfl) ?_
        refine lv_iload_n hx hb dX4_allowed_63 rfl (lv_at hl 0 rfl) ?_
        refine lv_if_eq (tgt := 79) hx hb dX4_allowed_64 (by decide) (fun hc => absurd hc (by decide)) (fun _ => ?_)
        refine lv_aload_n hx hb dX4_allowed_67 rfl (lv_at hl 2 rfl) ?_
        refine va_get (D := D) (ci := 5) (v := .ref a1) (C := RX4) (T := TX4) (N := 4) hx hb hts in_X4_allowed_X4 hown hK hP 0 rfl rfl 0 (by decide) w_1 (fun _ h9 => h9) rfl dX4_allowed_68 ?_
        refine lv_iload_n hx hb dX4_allowed_71 rfl (lv_at hl 1 rfl) ?_
        refine va_aldq hx hb hK hP 1 3 rfl rfl (by unfold vp_in; decide) dX4_allowed_72 ?_
        rw [show fs (1 : Int32).toNatClampNeg = some (qs 1) from (by rw [show (1 : Int32).toNatClampNeg = 1 by decide]; exact hfs 1 (by decide))]
        refine W.eq (g2 := F0 m 73 ls [.ref (qs 1), .int 1, .ref a4]) rfl ?_
        refine va_getN (host := "NoticeStations") (D := D) (ci := 4) (v := .ref f) (C := RX3) (T := TX3) (N := 8) hx hb hts in_X4_allowed_X3 hown hK hP 9 rfl rfl 2 (by decide) (va_Nw.use rfl (hN.1 (.fieldLinkNest "NoticeStations" 61 "NoticeStations$Station" "stored" "LNoticeStations$Standing;" "NoticeStations") (by decide +kernel))) (fun _ h9 => h9) rfl dX4_allowed_73 ?_
        refine lv_goto (tgt := 80) hx hb dX4_allowed_76 (by decide) ?_
        refine va_astq hx hb hK hP hD hS 2 2 3 3 rfl rfl rfl rfl (by unfold vp_in; decide) dX4_allowed_80 (fun H locs hP hD hS => ?_)
        have hP : va_P D vwCl [(x, .inr (5, [.ref a1, .ref a2, .ref a3, .ref a4])), (a1, wT tC 5 fs), (a4, wS tC 5 (va_up (va_up gf 0 none) 1 (some f))), (f, .inr (3, [.ref e1, .ref e2, .int 5, .int 0])), (e1, wI tC 0 z1), ((qs 0), .inr (4, [.int 0, .int 1, .ref f, .int 0, .int (-1), .null, .int (-1), .null])), ((qs 2), .inr (4, [.int 2, .int 1, .ref f, .int 0, .int (-1), .null, .int (-1), .null])), ((qs 3), .inr (4, [.int 3, .int 1, .ref f, .int 0, .int (-1), .null, .int (-1), .null])), ((qs 4), .inr (4, [.int 4, .int 1, .ref f, .int 0, .int (-1), .null, .int (-1), .null])), ((qs 1), .inr (4, [.int 1, .int 1, .ref f, .int 0, .int (-1), .null, .int (-1), .null]))] H := hP
        have hD : va_D A [(x, .inr (5, [.ref a1, .ref a2, .ref a3, .ref a4])), (a1, wT tC 5 fs), (a4, wS tC 5 (va_up (va_up gf 0 none) 1 (some f))), (f, .inr (3, [.ref e1, .ref e2, .int 5, .int 0])), (e1, wI tC 0 z1), ((qs 0), .inr (4, [.int 0, .int 1, .ref f, .int 0, .int (-1), .null, .int (-1), .null])), ((qs 2), .inr (4, [.int 2, .int 1, .ref f, .int 0, .int (-1), .null, .int (-1), .null])), ((qs 3), .inr (4, [.int 3, .int 1, .ref f, .int 0, .int (-1), .null, .int (-1), .null])), ((qs 4), .inr (4, [.int 4, .int 1, .ref f, .int 0, .int (-1), .null, .int (-1), .null])), ((qs 1), .inr (4, [.int 1, .int 1, .ref f, .int 0, .int (-1), .null, .int (-1), .null]))] := hD
        refine lv_iinc (v := 2) (lv' := [(2, .int 2), (3, .int 1), (0, .ref x), (1, .int p0)]) hx hb dX4_allowed_81 hl (k := 1) rfl (by decide) (by decide) rfl (fun ls hl => ?_)
        refine lv_goto (tgt := 21) hx hb dX4_allowed_84 (by decide) ?_
        refine lv_iload_n hx hb dX4_allowed_21 rfl (lv_at hl 0 rfl) ?_
        refine lv_iconst (v := 5) hx hb dX4_allowed_22 (by decide) ?_
        refine lv_icmp_ge (tgt := 87) hx hb dX4_allowed_23 (by decide) (fun hc => absurd hc (by decide)) (fun _ => ?_)
        refine lv_iload_n hx hb dX4_allowed_26 rfl (lv_at hl 3 rfl) ?_
        refine lv_iconst (v := 1) hx hb dX4_allowed_27 (by decide) ?_
        refine lv_iload_n hx hb dX4_allowed_28 rfl (lv_at hl 0 rfl) ?_
        refine lv_ishl hx hb dX4_allowed_29 ?_
        refine lv_topi (fun z_77 ez_77 => ?_)
        have fz_77 : z_77 = 4 := ez_77.trans (by decide)
        subst fz_77
        refine lv_iand hx hb dX4_allowed_30 ?_
        refine lv_topi (fun z_78 ez_78 => ?_)
        refine lv_if_eq (tgt := 38) hx hb dX4_allowed_31 (by decide) (fun c_79 => ?_) (fun c_79 => ?_)
        · skip
          have hb2 : bqb p0 2 = false := bqF (ez_78.symm.trans c_79)
          refine lv_iconst (v := 0) hx hb dX4_allowed_38 (by decide) ?_
          refine lv_istore_n (lv' := [(3, .int 0), (2, .int 2), (0, .ref x), (1, .int p0)]) hx hb dX4_allowed_39 rfl hl (by decide) rfl (fun ls hl => ?_)
          refine lv_iload_n hx hb dX4_allowed_40 rfl (lv_at hl 0 rfl) ?_
          refine lv_if_eq (tgt := 58) hx hb dX4_allowed_41 (by decide) (fun _ => ?_) (fun hc => absurd (by decide) hc)
          refine lv_aload_n hx hb dX4_allowed_58 rfl (lv_at hl 2 rfl) ?_
          refine va_get (D := D) (ci := 5) (v := .ref a4) (C := RX4) (T := TX4) (N := 4) hx hb hts in_X4_allowed_X4 hown hK hP 0 rfl rfl 3 (by decide) w_0 (fun _ h9 => h9) rfl dX4_allowed_59 ?_
          refine lv_iload_n hx hb dX4_allowed_62 rfl (lv_at hl 1 rfl) ?_
          refine lv_iload_n hx hb dX4_allowed_63 rfl (lv_at hl 0 rfl) ?_
          refine lv_if_eq (tgt := 79) hx hb dX4_allowed_64 (by decide) (fun _ => ?_) (fun hc => absurd (by decide) hc)
          refine lv_null hx hb dX4_allowed_79 ?_
          refine va_astqN hx hb hK hP hD hS 2 2 rfl rfl (by unfold vp_in; decide) dX4_allowed_80 (fun H locs hP hD hS => ?_)
          have hP : va_P D vwCl [(x, .inr (5, [.ref a1, .ref a2, .ref a3, .ref a4])), (a1, wT tC 5 fs), (a4, wS tC 5 (va_up (va_up (va_up gf 0 none) 1 (some f)) 2 none)), (f, .inr (3, [.ref e1, .ref e2, .int 5, .int 0])), (e1, wI tC 0 z1), ((qs 0), .inr (4, [.int 0, .int 1, .ref f, .int 0, .int (-1), .null, .int (-1), .null])), ((qs 2), .inr (4, [.int 2, .int 1, .ref f, .int 0, .int (-1), .null, .int (-1), .null])), ((qs 3), .inr (4, [.int 3, .int 1, .ref f, .int 0, .int (-1), .null, .int (-1), .null])), ((qs 4), .inr (4, [.int 4, .int 1, .ref f, .int 0, .int (-1), .null, .int (-1), .null])), ((qs 1), .inr (4, [.int 1, .int 1, .ref f, .int 0, .int (-1), .null, .int (-1), .null]))] H := hP
          have hD : va_D A [(x, .inr (5, [.ref a1, .ref a2, .ref a3, .ref a4])), (a1, wT tC 5 fs), (a4, wS tC 5 (va_up (va_up (va_up gf 0 none) 1 (some f)) 2 none)), (f, .inr (3, [.ref e1, .ref e2, .int 5, .int 0])), (e1, wI tC 0 z1), ((qs 0), .inr (4, [.int 0, .int 1, .ref f, .int 0, .int (-1), .null, .int (-1), .null])), ((qs 2), .inr (4, [.int 2, .int 1, .ref f, .int 0, .int (-1), .null, .int (-1), .null])), ((qs 3), .inr (4, [.int 3, .int 1, .ref f, .int 0, .int (-1), .null, .int (-1), .null])), ((qs 4), .inr (4, [.int 4, .int 1, .ref f, .int 0, .int (-1), .null, .int (-1), .null])), ((qs 1), .inr (4, [.int 1, .int 1, .ref f, .int 0, .int (-1), .null, .int (-1), .null]))] := hD
          refine lv_iinc (v := 3) (lv' := [(2, .int 3), (3, .int 0), (0, .ref x), (1, .int p0)]) hx hb dX4_allowed_81 hl (k := 1) rfl (by decide) (by decide) rfl (fun ls hl => ?_)
          refine lv_goto (tgt := 21) hx hb dX4_allowed_84 (by decide) ?_
          refine lv_iload_n hx hb dX4_allowed_21 rfl (lv_at hl 0 rfl) ?_
          refine lv_iconst (v := 5) hx hb dX4_allowed_22 (by decide) ?_
          refine lv_icmp_ge (tgt := 87) hx hb dX4_allowed_23 (by decide) (fun hc => absurd hc (by decide)) (fun _ => ?_)
          refine lv_iload_n hx hb dX4_allowed_26 rfl (lv_at hl 3 rfl) ?_
          refine lv_iconst (v := 1) hx hb dX4_allowed_27 (by decide) ?_
          refine lv_iload_n hx hb dX4_allowed_28 rfl (lv_at hl 0 rfl) ?_
          refine lv_ishl hx hb dX4_allowed_29 ?_
          refine lv_topi (fun z_80 ez_80 => ?_)
          have fz_80 : z_80 = 8 := ez_80.trans (by decide)
          subst fz_80
          refine lv_iand hx hb dX4_allowed_30 ?_
          refine lv_topi (fun z_81 ez_81 => ?_)
          refine lv_if_eq (tgt := 38) hx hb dX4_allowed_31 (by decide) (fun c_82 => ?_) (fun c_82 => ?_)
          · skip
            have hb3 : bqb p0 3 = false := bqF (ez_81.symm.trans c_82)
            refine lv_iconst (v := 0) hx hb dX4_allowed_38 (by decide) ?_
            refine lv_istore_n (lv' := [(3, .int 0), (2, .int 3), (0, .ref x), (1, .int p0)]) hx hb dX4_allowed_39 rfl hl (by decide) rfl (fun ls hl => ?_)
            refine lv_iload_n hx hb dX4_allowed_40 rfl (lv_at hl 0 rfl) ?_
            refine lv_if_eq (tgt := 58) hx hb dX4_allowed_41 (by decide) (fun _ => ?_) (fun hc => absurd (by decide) hc)
            refine lv_aload_n hx hb dX4_allowed_58 rfl (lv_at hl 2 rfl) ?_
            refine va_get (D := D) (ci := 5) (v := .ref a4) (C := RX4) (T := TX4) (N := 4) hx hb hts in_X4_allowed_X4 hown hK hP 0 rfl rfl 3 (by decide) w_0 (fun _ h9 => h9) rfl dX4_allowed_59 ?_
            refine lv_iload_n hx hb dX4_allowed_62 rfl (lv_at hl 1 rfl) ?_
            refine lv_iload_n hx hb dX4_allowed_63 rfl (lv_at hl 0 rfl) ?_
            refine lv_if_eq (tgt := 79) hx hb dX4_allowed_64 (by decide) (fun _ => ?_) (fun hc => absurd (by decide) hc)
            refine lv_null hx hb dX4_allowed_79 ?_
            refine va_astqN hx hb hK hP hD hS 2 2 rfl rfl (by unfold vp_in; decide) dX4_allowed_80 (fun H locs hP hD hS => ?_)
            have hP : va_P D vwCl [(x, .inr (5, [.ref a1, .ref a2, .ref a3, .ref a4])), (a1, wT tC 5 fs), (a4, wS tC 5 (va_up (va_up (va_up (va_up gf 0 none) 1 (some f)) 2 none) 3 none)), (f, .inr (3, [.ref e1, .ref e2, .int 5, .int 0])), (e1, wI tC 0 z1), ((qs 0), .inr (4, [.int 0, .int 1, .ref f, .int 0, .int (-1), .null, .int (-1), .null])), ((qs 2), .inr (4, [.int 2, .int 1, .ref f, .int 0, .int (-1), .null, .int (-1), .null])), ((qs 3), .inr (4, [.int 3, .int 1, .ref f, .int 0, .int (-1), .null, .int (-1), .null])), ((qs 4), .inr (4, [.int 4, .int 1, .ref f, .int 0, .int (-1), .null, .int (-1), .null])), ((qs 1), .inr (4, [.int 1, .int 1, .ref f, .int 0, .int (-1), .null, .int (-1), .null]))] H := hP
            have hD : va_D A [(x, .inr (5, [.ref a1, .ref a2, .ref a3, .ref a4])), (a1, wT tC 5 fs), (a4, wS tC 5 (va_up (va_up (va_up (va_up gf 0 none) 1 (some f)) 2 none) 3 none)), (f, .inr (3, [.ref e1, .ref e2, .int 5, .int 0])), (e1, wI tC 0 z1), ((qs 0), .inr (4, [.int 0, .int 1, .ref f, .int 0, .int (-1), .null, .int (-1), .null])), ((qs 2), .inr (4, [.int 2, .int 1, .ref f, .int 0, .int (-1), .null, .int (-1), .null])), ((qs 3), .inr (4, [.int 3, .int 1, .ref f, .int 0, .int (-1), .null, .int (-1), .null])), ((qs 4), .inr (4, [.int 4, .int 1, .ref f, .int 0, .int (-1), .null, .int (-1), .null])), ((qs 1), .inr (4, [.int 1, .int 1, .ref f, .int 0, .int (-1), .null, .int (-1), .null]))] := hD
            refine lv_iinc (v := 4) (lv' := [(2, .int 4), (3, .int 0), (0, .ref x), (1, .int p0)]) hx hb dX4_allowed_81 hl (k := 1) rfl (by decide) (by decide) rfl (fun ls hl => ?_)
            refine lv_goto (tgt := 21) hx hb dX4_allowed_84 (by decide) ?_
            refine lv_iload_n hx hb dX4_allowed_21 rfl (lv_at hl 0 rfl) ?_
            refine lv_iconst (v := 5) hx hb dX4_allowed_22 (by decide) ?_
            refine lv_icmp_ge (tgt := 87) hx hb dX4_allowed_23 (by decide) (fun hc => absurd hc (by decide)) (fun _ => ?_)
            refine lv_iload_n hx hb dX4_allowed_26 rfl (lv_at hl 3 rfl) ?_
            refine lv_iconst (v := 1) hx hb dX4_allowed_27 (by decide) ?_
            refine lv_iload_n hx hb dX4_allowed_28 rfl (lv_at hl 0 rfl) ?_
            refine lv_ishl hx hb dX4_allowed_29 ?_
            refine lv_topi (fun z_83 ez_83 => ?_)
            have fz_83 : z_83 = 16 := ez_83.trans (by decide)
            subst fz_83
            refine lv_iand hx hb dX4_allowed_30 ?_
            refine lv_topi (fun z_84 ez_84 => ?_)
            refine lv_if_eq (tgt := 38) hx hb dX4_allowed_31 (by decide) (fun c_85 => ?_) (fun c_85 => ?_)
            · skip
              have hb4 : bqb p0 4 = false := bqF (ez_84.symm.trans c_85)
              refine lv_iconst (v := 0) hx hb dX4_allowed_38 (by decide) ?_
              refine lv_istore_n (lv' := [(3, .int 0), (2, .int 4), (0, .ref x), (1, .int p0)]) hx hb dX4_allowed_39 rfl hl (by decide) rfl (fun ls hl => ?_)
              refine lv_iload_n hx hb dX4_allowed_40 rfl (lv_at hl 0 rfl) ?_
              refine lv_if_eq (tgt := 58) hx hb dX4_allowed_41 (by decide) (fun _ => ?_) (fun hc => absurd (by decide) hc)
              refine lv_aload_n hx hb dX4_allowed_58 rfl (lv_at hl 2 rfl) ?_
              refine va_get (D := D) (ci := 5) (v := .ref a4) (C := RX4) (T := TX4) (N := 4) hx hb hts in_X4_allowed_X4 hown hK hP 0 rfl rfl 3 (by decide) w_0 (fun _ h9 => h9) rfl dX4_allowed_59 ?_
              refine lv_iload_n hx hb dX4_allowed_62 rfl (lv_at hl 1 rfl) ?_
              refine lv_iload_n hx hb dX4_allowed_63 rfl (lv_at hl 0 rfl) ?_
              refine lv_if_eq (tgt := 79) hx hb dX4_allowed_64 (by decide) (fun _ => ?_) (fun hc => absurd (by decide) hc)
              refine lv_null hx hb dX4_allowed_79 ?_
              refine va_astqN hx hb hK hP hD hS 2 2 rfl rfl (by unfold vp_in; decide) dX4_allowed_80 (fun H locs hP hD hS => ?_)
              have hP : va_P D vwCl [(x, .inr (5, [.ref a1, .ref a2, .ref a3, .ref a4])), (a1, wT tC 5 fs), (a4, wS tC 5 (va_up (va_up (va_up (va_up (va_up gf 0 none) 1 (some f)) 2 none) 3 none) 4 none)), (f, .inr (3, [.ref e1, .ref e2, .int 5, .int 0])), (e1, wI tC 0 z1), ((qs 0), .inr (4, [.int 0, .int 1, .ref f, .int 0, .int (-1), .null, .int (-1), .null])), ((qs 2), .inr (4, [.int 2, .int 1, .ref f, .int 0, .int (-1), .null, .int (-1), .null])), ((qs 3), .inr (4, [.int 3, .int 1, .ref f, .int 0, .int (-1), .null, .int (-1), .null])), ((qs 4), .inr (4, [.int 4, .int 1, .ref f, .int 0, .int (-1), .null, .int (-1), .null])), ((qs 1), .inr (4, [.int 1, .int 1, .ref f, .int 0, .int (-1), .null, .int (-1), .null]))] H := hP
              have hD : va_D A [(x, .inr (5, [.ref a1, .ref a2, .ref a3, .ref a4])), (a1, wT tC 5 fs), (a4, wS tC 5 (va_up (va_up (va_up (va_up (va_up gf 0 none) 1 (some f)) 2 none) 3 none) 4 none)), (f, .inr (3, [.ref e1, .ref e2, .int 5, .int 0])), (e1, wI tC 0 z1), ((qs 0), .inr (4, [.int 0, .int 1, .ref f, .int 0, .int (-1), .null, .int (-1), .null])), ((qs 2), .inr (4, [.int 2, .int 1, .ref f, .int 0, .int (-1), .null, .int (-1), .null])), ((qs 3), .inr (4, [.int 3, .int 1, .ref f, .int 0, .int (-1), .null, .int (-1), .null])), ((qs 4), .inr (4, [.int 4, .int 1, .ref f, .int 0, .int (-1), .null, .int (-1), .null])), ((qs 1), .inr (4, [.int 1, .int 1, .ref f, .int 0, .int (-1), .null, .int (-1), .null]))] := hD
              refine lv_iinc (v := 5) (lv' := [(2, .int 5), (3, .int 0), (0, .ref x), (1, .int p0)]) hx hb dX4_allowed_81 hl (k := 1) rfl (by decide) (by decide) rfl (fun ls hl => ?_)
              refine lv_goto (tgt := 21) hx hb dX4_allowed_84 (by decide) ?_
              refine lv_iload_n hx hb dX4_allowed_21 rfl (lv_at hl 0 rfl) ?_
              refine lv_iconst (v := 5) hx hb dX4_allowed_22 (by decide) ?_
              refine lv_icmp_ge (tgt := 87) hx hb dX4_allowed_23 (by decide) (fun _ => ?_) (fun hc => absurd (by decide) hc)
              refine lv_aload_n hx hb dX4_allowed_87 rfl (lv_at hl 2 rfl) ?_
              refine va_get (D := D) (ci := 5) (v := .ref a4) (C := RX4) (T := TX4) (N := 4) hx hb hts in_X4_allowed_X4 hown hK hP 0 rfl rfl 3 (by decide) w_0 (fun _ h9 => h9) rfl dX4_allowed_88 ?_
              have hPc := hP.sub (ws' := [(a4, wS tC 5 (va_up (va_up (va_up (va_up (va_up gf 0 none) 1 (some f)) 2 none) 3 none) 4 none)), (f, .inr (3, [.ref e1, .ref e2, .int 5, .int 0])), (e1, wI tC 0 z1)]) [2, 3, 4] rfl
              have hDc := hD.sub (ws' := [(a4, wS tC 5 (va_up (va_up (va_up (va_up (va_up gf 0 none) 1 (some f)) 2 none) 3 none) 4 none)), (f, .inr (3, [.ref e1, .ref e2, .int 5, .int 0])), (e1, wI tC 0 z1)]) [2, 3, 4] (by decide) rfl
              have hFc := va_free (wc := [(a4, wS tC 5 (va_up (va_up (va_up (va_up (va_up gf 0 none) 1 (some f)) 2 none) 3 none) 4 none)), (f, .inr (3, [.ref e1, .ref e2, .int 5, .int 0])), (e1, wI tC 0 z1)]) hD hS hA [2, 3, 4] rfl
              refine va_callq (va_runS (As := [.ref a4]) (rest := []) ⟨hx, hb, hml, hown, hts⟩ (c_X4_heldByHolders l hlt D tC dz H.size a4 (va_up (va_up (va_up (va_up (va_up gf 0 none) 1 (some f)) 2 none) 3 none) 4 none) (bqb p0) f e1 e2 z1 (by intro j hj; rcases (show j = 0 ∨ j = 1 ∨ j = 2 ∨ j = 3 ∨ j = 4 by omega) with rfl | rfl | rfl | rfl | rfl <;> simp [va_up, hb0, hb1, hb2, hb3, hb4])) (va_cwS 1 hts gX4_allowed_X4_heldByHolders rfl rfl rfl (by decide +kernel) ⟨Nat.le_of_ble_eq_true rfl, Nat.le_of_ble_eq_true rfl⟩) ⟨pB_blind, pB_at hPc hDc hK hN hE hS hFc⟩ rfl rfl hl.1 rfl (lv_room (Nat.le_of_ble_eq_true rfl)) dX4_allowed_91 ⟨Nat.le_of_ble_eq_true rfl, Nat.le_of_ble_eq_true rfl⟩) hS (fun q _ h => hFc q h) hFc (fun r_86 u t H1 locs ht hvm hw hB hz1 hk1 hS => ?_)
              obtain ⟨hP1, _, hD1⟩ := hB
              have hw_87 := hw
              rw [ht] at hP1
              obtain ⟨hP, hD⟩ := va_join (wr := [(x, .inr (5, [.ref a1, .ref a2, .ref a3, .ref a4])), (a1, wT tC 5 fs), ((qs 0), .inr (4, [.int 0, .int 1, .ref f, .int 0, .int (-1), .null, .int (-1), .null])), ((qs 2), .inr (4, [.int 2, .int 1, .ref f, .int 0, .int (-1), .null, .int (-1), .null])), ((qs 3), .inr (4, [.int 3, .int 1, .ref f, .int 0, .int (-1), .null, .int (-1), .null])), ((qs 4), .inr (4, [.int 4, .int 1, .ref f, .int 0, .int (-1), .null, .int (-1), .null])), ((qs 1), .inr (4, [.int 1, .int 1, .ref f, .int 0, .int (-1), .null, .int (-1), .null]))]) (w1 := [(a4, wS tC 5 (va_up (va_up (va_up (va_up (va_up gf 0 none) 1 (some f)) 2 none) 3 none) 4 none)), (f, .inr (3, [.ref e1, .ref e2, .int 5, .int 0])), (e1, wI tC 0 z1)]) hP hD [2, 3, 4] [0, 1, 5, 6, 7, 8, 9] rfl rfl (by decide) (by decide) hk1 hFc hP1 hD1
              generalize H1 = H at hP hS ⊢
              have hP : va_P D vwCl [(x, .inr (5, [.ref a1, .ref a2, .ref a3, .ref a4])), (a1, wT tC 5 fs), ((qs 0), .inr (4, [.int 0, .int 1, .ref f, .int 0, .int (-1), .null, .int (-1), .null])), ((qs 2), .inr (4, [.int 2, .int 1, .ref f, .int 0, .int (-1), .null, .int (-1), .null])), ((qs 3), .inr (4, [.int 3, .int 1, .ref f, .int 0, .int (-1), .null, .int (-1), .null])), ((qs 4), .inr (4, [.int 4, .int 1, .ref f, .int 0, .int (-1), .null, .int (-1), .null])), ((qs 1), .inr (4, [.int 1, .int 1, .ref f, .int 0, .int (-1), .null, .int (-1), .null])), (a4, wS tC 5 (va_up (va_up (va_up (va_up (va_up gf 0 none) 1 (some f)) 2 none) 3 none) 4 none)), (f, .inr (3, [.ref e1, .ref e2, .int 5, .int 0])), (e1, wI tC 0 z1)] H := hP
              have hD : va_D A [(x, .inr (5, [.ref a1, .ref a2, .ref a3, .ref a4])), (a1, wT tC 5 fs), ((qs 0), .inr (4, [.int 0, .int 1, .ref f, .int 0, .int (-1), .null, .int (-1), .null])), ((qs 2), .inr (4, [.int 2, .int 1, .ref f, .int 0, .int (-1), .null, .int (-1), .null])), ((qs 3), .inr (4, [.int 3, .int 1, .ref f, .int 0, .int (-1), .null, .int (-1), .null])), ((qs 4), .inr (4, [.int 4, .int 1, .ref f, .int 0, .int (-1), .null, .int (-1), .null])), ((qs 1), .inr (4, [.int 1, .int 1, .ref f, .int 0, .int (-1), .null, .int (-1), .null])), (a4, wS tC 5 (va_up (va_up (va_up (va_up (va_up gf 0 none) 1 (some f)) 2 none) 3 none) 4 none)), (f, .inr (3, [.ref e1, .ref e2, .int 5, .int 0])), (e1, wI tC 0 z1)] := hD
              have q1 : r_86 = some f := hw_87.trans (by rw [hb0, hb1, hb2, hb3, hb4] <;> rfl)
              subst q1
              refine W.eq (g2 := F0 m 94 ls [.ref f]) rfl ?_
              refine lv_astore_n (lv' := [(2, .ref f), (3, .int 0), (0, .ref x), (1, .int p0)]) hx hb dX4_allowed_94 rfl hl (by decide) rfl (fun ls hl => ?_)
              refine lv_aload_n hx hb dX4_allowed_95 rfl (lv_at hl 0 rfl) ?_
              refine lv_ifnull hx hb dX4_allowed_96 ?_
              refine lv_aload_n hx hb dX4_allowed_99 rfl (lv_at hl 2 rfl) ?_
              refine va_get (D := D) (ci := 5) (v := .ref a4) (C := RX4) (T := TX4) (N := 4) hx hb hts in_X4_allowed_X4 hown hK hP 0 rfl rfl 3 (by decide) w_0 (fun _ h9 => h9) rfl dX4_allowed_100 ?_
              refine lv_aload_n hx hb dX4_allowed_103 rfl (lv_at hl 0 rfl) ?_
              have hPc := hP.sub (ws' := [(a4, wS tC 5 (va_up (va_up (va_up (va_up (va_up gf 0 none) 1 (some f)) 2 none) 3 none) 4 none)), (f, .inr (3, [.ref e1, .ref e2, .int 5, .int 0])), (e1, wI tC 0 z1)]) [7, 8, 9] rfl
              have hDc := hD.sub (ws' := [(a4, wS tC 5 (va_up (va_up (va_up (va_up (va_up gf 0 none) 1 (some f)) 2 none) 3 none) 4 none)), (f, .inr (3, [.ref e1, .ref e2, .int 5, .int 0])), (e1, wI tC 0 z1)]) [7, 8, 9] (by decide) rfl
              have hFc := va_free (wc := [(a4, wS tC 5 (va_up (va_up (va_up (va_up (va_up gf 0 none) 1 (some f)) 2 none) 3 none) 4 none)), (f, .inr (3, [.ref e1, .ref e2, .int 5, .int 0])), (e1, wI tC 0 z1)]) hD hS hA [7, 8, 9] rfl
              refine va_calli (va_runS (As := [.ref a4, .ref f]) (rest := []) ⟨hx, hb, hml, hown, hts⟩ (c_X4_mayGoOn l hlt D tC dz H.size a4 (va_up (va_up (va_up (va_up (va_up gf 0 none) 1 (some f)) 2 none) 3 none) 4 none) (bqb p0) f e1 e2 z1 (by intro j hj; rcases (show j = 0 ∨ j = 1 ∨ j = 2 ∨ j = 3 ∨ j = 4 by omega) with rfl | rfl | rfl | rfl | rfl <;> simp [va_up, hb0, hb1, hb2, hb3, hb4])) (va_cwS 2 hts gX4_allowed_X4_mayGoOn rfl rfl rfl (by decide +kernel) ⟨Nat.le_of_ble_eq_true rfl, Nat.le_of_ble_eq_true rfl⟩) ⟨pB_blind, pB_at hPc hDc hK hN hE hS hFc⟩ rfl rfl hl.1 rfl (lv_room (Nat.le_of_ble_eq_true rfl)) dX4_allowed_104 ⟨Nat.le_of_ble_eq_true rfl, Nat.le_of_ble_eq_true rfl⟩) hS (fun q _ h => hFc q h) hFc (fun r_88 u t H1 locs ht hvm hw hB hz1 hk1 hS => ?_)
              obtain ⟨hP1, _, hD1⟩ := hB
              have hw_89 := hw
              rw [ht] at hP1
              obtain ⟨hP, hD⟩ := va_join (wr := [(x, .inr (5, [.ref a1, .ref a2, .ref a3, .ref a4])), (a1, wT tC 5 fs), ((qs 0), .inr (4, [.int 0, .int 1, .ref f, .int 0, .int (-1), .null, .int (-1), .null])), ((qs 2), .inr (4, [.int 2, .int 1, .ref f, .int 0, .int (-1), .null, .int (-1), .null])), ((qs 3), .inr (4, [.int 3, .int 1, .ref f, .int 0, .int (-1), .null, .int (-1), .null])), ((qs 4), .inr (4, [.int 4, .int 1, .ref f, .int 0, .int (-1), .null, .int (-1), .null])), ((qs 1), .inr (4, [.int 1, .int 1, .ref f, .int 0, .int (-1), .null, .int (-1), .null]))]) (w1 := [(a4, wS tC 5 (va_up (va_up (va_up (va_up (va_up gf 0 none) 1 (some f)) 2 none) 3 none) 4 none)), (f, .inr (3, [.ref e1, .ref e2, .int 5, .int 0])), (e1, wI tC 0 z1)]) hP hD [7, 8, 9] [0, 1, 2, 3, 4, 5, 6] rfl rfl (by decide) (by decide) hk1 hFc hP1 hD1
              generalize H1 = H at hP hS ⊢
              have hP : va_P D vwCl [(x, .inr (5, [.ref a1, .ref a2, .ref a3, .ref a4])), (a1, wT tC 5 fs), ((qs 0), .inr (4, [.int 0, .int 1, .ref f, .int 0, .int (-1), .null, .int (-1), .null])), ((qs 2), .inr (4, [.int 2, .int 1, .ref f, .int 0, .int (-1), .null, .int (-1), .null])), ((qs 3), .inr (4, [.int 3, .int 1, .ref f, .int 0, .int (-1), .null, .int (-1), .null])), ((qs 4), .inr (4, [.int 4, .int 1, .ref f, .int 0, .int (-1), .null, .int (-1), .null])), ((qs 1), .inr (4, [.int 1, .int 1, .ref f, .int 0, .int (-1), .null, .int (-1), .null])), (a4, wS tC 5 (va_up (va_up (va_up (va_up (va_up gf 0 none) 1 (some f)) 2 none) 3 none) 4 none)), (f, .inr (3, [.ref e1, .ref e2, .int 5, .int 0])), (e1, wI tC 0 z1)] H := hP
              have hD : va_D A [(x, .inr (5, [.ref a1, .ref a2, .ref a3, .ref a4])), (a1, wT tC 5 fs), ((qs 0), .inr (4, [.int 0, .int 1, .ref f, .int 0, .int (-1), .null, .int (-1), .null])), ((qs 2), .inr (4, [.int 2, .int 1, .ref f, .int 0, .int (-1), .null, .int (-1), .null])), ((qs 3), .inr (4, [.int 3, .int 1, .ref f, .int 0, .int (-1), .null, .int (-1), .null])), ((qs 4), .inr (4, [.int 4, .int 1, .ref f, .int 0, .int (-1), .null, .int (-1), .null])), ((qs 1), .inr (4, [.int 1, .int 1, .ref f, .int 0, .int (-1), .null, .int (-1), .null])), (a4, wS tC 5 (va_up (va_up (va_up (va_up (va_up gf 0 none) 1 (some f)) 2 none) 3 none) 4 none)), (f, .inr (3, [.ref e1, .ref e2, .int 5, .int 0])), (e1, wI tC 0 z1)] := hD
              have q1 : r_88 = 0 := hw_89.trans (by unfold mayg cntb; rw [hb0, hb1, hb2, hb3, hb4] <;> decide)
              subst q1
              refine lv_if_eq (tgt := 114) hx hb dX4_allowed_107 (by decide) (fun _ => ?_) (fun hc => absurd (by decide) hc)
              refine lv_iconst (v := 0) hx hb dX4_allowed_114 (by decide) ?_
              have hP9 := hP.sub (ws' := []) [] rfl
              have hD9 := hD.sub (ws' := []) [] (by decide) rfl
              refine W.widen (k := 1) (n := 6) (by omega) (by omega) ?_
              exact vx_ret (W.zret (v := 0) hx hb hr (by decide) (fun t ht hW => ⟨⟨0, (), rfl, ⟨(by unfold mayg cntb; rw [hb0, hb1, hb2, hb3, hb4] <;> decide), bl1 hw_2 c_3⟩, (by rw [ht]; exact hP9), va_K.moved hW.alike hK, hD9⟩, hS.F ht⟩) hS.2.2 dX4_allowed_115 hlocks)
            · skip
              have hb4 : bqb p0 4 = true := bqT (fun h => c_85 (ez_84.trans h))
              refine lv_iconst (v := 1) hx hb dX4_allowed_34 (by decide) ?_
              refine lv_goto (tgt := 39) hx hb dX4_allowed_35 (by decide) ?_
              refine lv_istore_n (lv' := [(3, .int 1), (2, .int 4), (0, .ref x), (1, .int p0)]) hx hb dX4_allowed_39 rfl hl (by decide) rfl (fun ls hl => ?_)
              refine lv_iload_n hx hb dX4_allowed_40 rfl (lv_at hl 0 rfl) ?_
              refine lv_if_eq (tgt := 58) hx hb dX4_allowed_41 (by decide) (fun hc => absurd hc (by decide)) (fun _ => ?_)
              refine lv_aload_n hx hb dX4_allowed_44 rfl (lv_at hl 2 rfl) ?_
              refine va_get (D := D) (ci := 5) (v := .ref a1) (C := RX4) (T := TX4) (N := 4) hx hb hts in_X4_allowed_X4 hown hK hP 0 rfl rfl 0 (by decide) w_1 (fun _ h9 => h9) rfl dX4_allowed_45 ?_
              refine lv_iload_n hx hb dX4_allowed_48 rfl (lv_at hl 1 rfl) ?_
              refine va_aldq hx hb hK hP 1 3 rfl rfl (by unfold vp_in; decide) dX4_allowed_49 ?_
              rw [show fs (4 : Int32).toNatClampNeg = some (qs 4) from (by rw [show (4 : Int32).toNatClampNeg = 4 by decide]; exact hfs 4 (by decide))]
              refine W.eq (g2 := F0 m 50 ls [.ref (qs 4)]) rfl ?_
              have hPc := hP.sub (ws' := [((qs 4), .inr (4, [.int 4, .int 1, .ref f, .int 0, .int (-1), .null, .int (-1), .null]))]) [8] rfl
              have hDc := hD.sub (ws' := [((qs 4), .inr (4, [.int 4, .int 1, .ref f, .int 0, .int (-1), .null, .int (-1), .null]))]) [8] (by decide) rfl
              have hFc := va_free (wc := [((qs 4), .inr (4, [.int 4, .int 1, .ref f, .int 0, .int (-1), .null, .int (-1), .null]))]) hD hS hA [8] rfl
              refine va_calli (va_runVN (As := []) (rest := []) ⟨hx, hb, hml, hown, hts⟩ (c_X3_isFree l hlt D tC dz H.size f (qs 4) 4 ) ⟨(va_cnB (host := "NoticeStations") 0 hts gX4_allowed_X3_isFree_n240 rfl rfl rfl (hN.1 (.methodLinkNest "NoticeStations" 240 ⟨"NoticeStations$Station", "isFree", "()Z"⟩ "NoticeStations") (by decide +kernel)) w_2 (by decide +kernel) ⟨Nat.le_of_ble_eq_true rfl, Nat.le_of_ble_eq_true rfl⟩), w_3, w_4⟩ ⟨pB_blind, va_recv hK hPc (ci := 4) (q0 := 0) rfl rfl, pB_at hPc hDc hK hN hE hS hFc⟩ rfl rfl hl.1 rfl (lv_room (Nat.le_of_ble_eq_true rfl)) dX4_allowed_50 ⟨Nat.le_of_ble_eq_true rfl, Nat.le_of_ble_eq_true rfl⟩) hS (fun q _ h => hFc q h) hFc (fun r_90 u t H1 locs ht hvm hw hB hz1 hk1 hS => ?_)
              obtain ⟨hP1, _, hD1⟩ := hB
              have hw_91 := hw
              rw [ht] at hP1
              obtain ⟨hP, hD⟩ := va_join (wr := [(x, .inr (5, [.ref a1, .ref a2, .ref a3, .ref a4])), (a1, wT tC 5 fs), (a4, wS tC 5 (va_up (va_up (va_up (va_up gf 0 none) 1 (some f)) 2 none) 3 none)), (f, .inr (3, [.ref e1, .ref e2, .int 5, .int 0])), (e1, wI tC 0 z1), ((qs 0), .inr (4, [.int 0, .int 1, .ref f, .int 0, .int (-1), .null, .int (-1), .null])), ((qs 2), .inr (4, [.int 2, .int 1, .ref f, .int 0, .int (-1), .null, .int (-1), .null])), ((qs 3), .inr (4, [.int 3, .int 1, .ref f, .int 0, .int (-1), .null, .int (-1), .null])), ((qs 1), .inr (4, [.int 1, .int 1, .ref f, .int 0, .int (-1), .null, .int (-1), .null]))]) (w1 := [((qs 4), .inr (4, [.int 4, .int 1, .ref f, .int 0, .int (-1), .null, .int (-1), .null]))]) hP hD [8] [0, 1, 2, 3, 4, 5, 6, 7, 9] rfl rfl (by decide) (by decide) hk1 hFc hP1 hD1
              generalize H1 = H at hP hS ⊢
              have hP : va_P D vwCl [(x, .inr (5, [.ref a1, .ref a2, .ref a3, .ref a4])), (a1, wT tC 5 fs), (a4, wS tC 5 (va_up (va_up (va_up (va_up gf 0 none) 1 (some f)) 2 none) 3 none)), (f, .inr (3, [.ref e1, .ref e2, .int 5, .int 0])), (e1, wI tC 0 z1), ((qs 0), .inr (4, [.int 0, .int 1, .ref f, .int 0, .int (-1), .null, .int (-1), .null])), ((qs 2), .inr (4, [.int 2, .int 1, .ref f, .int 0, .int (-1), .null, .int (-1), .null])), ((qs 3), .inr (4, [.int 3, .int 1, .ref f, .int 0, .int (-1), .null, .int (-1), .null])), ((qs 1), .inr (4, [.int 1, .int 1, .ref f, .int 0, .int (-1), .null, .int (-1), .null])), ((qs 4), .inr (4, [.int 4, .int 1, .ref f, .int 0, .int (-1), .null, .int (-1), .null]))] H := hP
              have hD : va_D A [(x, .inr (5, [.ref a1, .ref a2, .ref a3, .ref a4])), (a1, wT tC 5 fs), (a4, wS tC 5 (va_up (va_up (va_up (va_up gf 0 none) 1 (some f)) 2 none) 3 none)), (f, .inr (3, [.ref e1, .ref e2, .int 5, .int 0])), (e1, wI tC 0 z1), ((qs 0), .inr (4, [.int 0, .int 1, .ref f, .int 0, .int (-1), .null, .int (-1), .null])), ((qs 2), .inr (4, [.int 2, .int 1, .ref f, .int 0, .int (-1), .null, .int (-1), .null])), ((qs 3), .inr (4, [.int 3, .int 1, .ref f, .int 0, .int (-1), .null, .int (-1), .null])), ((qs 1), .inr (4, [.int 1, .int 1, .ref f, .int 0, .int (-1), .null, .int (-1), .null])), ((qs 4), .inr (4, [.int 4, .int 1, .ref f, .int 0, .int (-1), .null, .int (-1), .null]))] := hD
              subst hw_91
              refine lv_if_ne (tgt := 58) hx hb dX4_allowed_53 (by decide) (fun _ => ?_) (fun hc => absurd hc (by decide))
              refine lv_aload_n hx hb dX4_allowed_58 rfl (lv_at hl 2 rfl) ?_
              refine va_get (D := D) (ci := 5) (v := .ref a4) (C := RX4) (T := TX4) (N := 4) hx hb hts in_X4_allowed_X4 hown hK hP 0 rfl rfl 3 (by decide) w_0 (fun _ h9 => h9) rfl dX4_allowed_59 ?_
              refine lv_iload_n hx hb dX4_allowed_62 rfl (lv_at hl 1 rfl) ?_
              refine lv_iload_n hx hb dX4_allowed_63 rfl (lv_at hl 0 rfl) ?_
              refine lv_if_eq (tgt := 79) hx hb dX4_allowed_64 (by decide) (fun hc => absurd hc (by decide)) (fun _ => ?_)
              refine lv_aload_n hx hb dX4_allowed_67 rfl (lv_at hl 2 rfl) ?_
              refine va_get (D := D) (ci := 5) (v := .ref a1) (C := RX4) (T := TX4) (N := 4) hx hb hts in_X4_allowed_X4 hown hK hP 0 rfl rfl 0 (by decide) w_1 (fun _ h9 => h9) rfl dX4_allowed_68 ?_
              refine lv_iload_n hx hb dX4_allowed_71 rfl (lv_at hl 1 rfl) ?_
              refine va_aldq hx hb hK hP 1 3 rfl rfl (by unfold vp_in; decide) dX4_allowed_72 ?_
              rw [show fs (4 : Int32).toNatClampNeg = some (qs 4) from (by rw [show (4 : Int32).toNatClampNeg = 4 by decide]; exact hfs 4 (by decide))]
              refine W.eq (g2 := F0 m 73 ls [.ref (qs 4), .int 4, .ref a4]) rfl ?_
              refine va_getN (host := "NoticeStations") (D := D) (ci := 4) (v := .ref f) (C := RX3) (T := TX3) (N := 8) hx hb hts in_X4_allowed_X3 hown hK hP 9 rfl rfl 2 (by decide) (va_Nw.use rfl (hN.1 (.fieldLinkNest "NoticeStations" 61 "NoticeStations$Station" "stored" "LNoticeStations$Standing;" "NoticeStations") (by decide +kernel))) (fun _ h9 => h9) rfl dX4_allowed_73 ?_
              refine lv_goto (tgt := 80) hx hb dX4_allowed_76 (by decide) ?_
              refine va_astq hx hb hK hP hD hS 2 2 3 3 rfl rfl rfl rfl (by unfold vp_in; decide) dX4_allowed_80 (fun H locs hP hD hS => ?_)
              have hP : va_P D vwCl [(x, .inr (5, [.ref a1, .ref a2, .ref a3, .ref a4])), (a1, wT tC 5 fs), (a4, wS tC 5 (va_up (va_up (va_up (va_up (va_up gf 0 none) 1 (some f)) 2 none) 3 none) 4 (some f))), (f, .inr (3, [.ref e1, .ref e2, .int 5, .int 0])), (e1, wI tC 0 z1), ((qs 0), .inr (4, [.int 0, .int 1, .ref f, .int 0, .int (-1), .null, .int (-1), .null])), ((qs 2), .inr (4, [.int 2, .int 1, .ref f, .int 0, .int (-1), .null, .int (-1), .null])), ((qs 3), .inr (4, [.int 3, .int 1, .ref f, .int 0, .int (-1), .null, .int (-1), .null])), ((qs 1), .inr (4, [.int 1, .int 1, .ref f, .int 0, .int (-1), .null, .int (-1), .null])), ((qs 4), .inr (4, [.int 4, .int 1, .ref f, .int 0, .int (-1), .null, .int (-1), .null]))] H := hP
              have hD : va_D A [(x, .inr (5, [.ref a1, .ref a2, .ref a3, .ref a4])), (a1, wT tC 5 fs), (a4, wS tC 5 (va_up (va_up (va_up (va_up (va_up gf 0 none) 1 (some f)) 2 none) 3 none) 4 (some f))), (f, .inr (3, [.ref e1, .ref e2, .int 5, .int 0])), (e1, wI tC 0 z1), ((qs 0), .inr (4, [.int 0, .int 1, .ref f, .int 0, .int (-1), .null, .int (-1), .null])), ((qs 2), .inr (4, [.int 2, .int 1, .ref f, .int 0, .int (-1), .null, .int (-1), .null])), ((qs 3), .inr (4, [.int 3, .int 1, .ref f, .int 0, .int (-1), .null, .int (-1), .null])), ((qs 1), .inr (4, [.int 1, .int 1, .ref f, .int 0, .int (-1), .null, .int (-1), .null])), ((qs 4), .inr (4, [.int 4, .int 1, .ref f, .int 0, .int (-1), .null, .int (-1), .null]))] := hD
              refine lv_iinc (v := 5) (lv' := [(2, .int 5), (3, .int 1), (0, .ref x), (1, .int p0)]) hx hb dX4_allowed_81 hl (k := 1) rfl (by decide) (by decide) rfl (fun ls hl => ?_)
              refine lv_goto (tgt := 21) hx hb dX4_allowed_84 (by decide) ?_
              refine lv_iload_n hx hb dX4_allowed_21 rfl (lv_at hl 0 rfl) ?_
              refine lv_iconst (v := 5) hx hb dX4_allowed_22 (by decide) ?_
              refine lv_icmp_ge (tgt := 87) hx hb dX4_allowed_23 (by decide) (fun _ => ?_) (fun hc => absurd (by decide) hc)
              refine lv_aload_n hx hb dX4_allowed_87 rfl (lv_at hl 2 rfl) ?_
              refine va_get (D := D) (ci := 5) (v := .ref a4) (C := RX4) (T := TX4) (N := 4) hx hb hts in_X4_allowed_X4 hown hK hP 0 rfl rfl 3 (by decide) w_0 (fun _ h9 => h9) rfl dX4_allowed_88 ?_
              have hPc := hP.sub (ws' := [(a4, wS tC 5 (va_up (va_up (va_up (va_up (va_up gf 0 none) 1 (some f)) 2 none) 3 none) 4 (some f))), (f, .inr (3, [.ref e1, .ref e2, .int 5, .int 0])), (e1, wI tC 0 z1)]) [2, 3, 4] rfl
              have hDc := hD.sub (ws' := [(a4, wS tC 5 (va_up (va_up (va_up (va_up (va_up gf 0 none) 1 (some f)) 2 none) 3 none) 4 (some f))), (f, .inr (3, [.ref e1, .ref e2, .int 5, .int 0])), (e1, wI tC 0 z1)]) [2, 3, 4] (by decide) rfl
              have hFc := va_free (wc := [(a4, wS tC 5 (va_up (va_up (va_up (va_up (va_up gf 0 none) 1 (some f)) 2 none) 3 none) 4 (some f))), (f, .inr (3, [.ref e1, .ref e2, .int 5, .int 0])), (e1, wI tC 0 z1)]) hD hS hA [2, 3, 4] rfl
              refine va_callq (va_runS (As := [.ref a4]) (rest := []) ⟨hx, hb, hml, hown, hts⟩ (c_X4_heldByHolders l hlt D tC dz H.size a4 (va_up (va_up (va_up (va_up (va_up gf 0 none) 1 (some f)) 2 none) 3 none) 4 (some f)) (bqb p0) f e1 e2 z1 (by intro j hj; rcases (show j = 0 ∨ j = 1 ∨ j = 2 ∨ j = 3 ∨ j = 4 by omega) with rfl | rfl | rfl | rfl | rfl <;> simp [va_up, hb0, hb1, hb2, hb3, hb4])) (va_cwS 1 hts gX4_allowed_X4_heldByHolders rfl rfl rfl (by decide +kernel) ⟨Nat.le_of_ble_eq_true rfl, Nat.le_of_ble_eq_true rfl⟩) ⟨pB_blind, pB_at hPc hDc hK hN hE hS hFc⟩ rfl rfl hl.1 rfl (lv_room (Nat.le_of_ble_eq_true rfl)) dX4_allowed_91 ⟨Nat.le_of_ble_eq_true rfl, Nat.le_of_ble_eq_true rfl⟩) hS (fun q _ h => hFc q h) hFc (fun r_92 u t H1 locs ht hvm hw hB hz1 hk1 hS => ?_)
              obtain ⟨hP1, _, hD1⟩ := hB
              have hw_93 := hw
              rw [ht] at hP1
              obtain ⟨hP, hD⟩ := va_join (wr := [(x, .inr (5, [.ref a1, .ref a2, .ref a3, .ref a4])), (a1, wT tC 5 fs), ((qs 0), .inr (4, [.int 0, .int 1, .ref f, .int 0, .int (-1), .null, .int (-1), .null])), ((qs 2), .inr (4, [.int 2, .int 1, .ref f, .int 0, .int (-1), .null, .int (-1), .null])), ((qs 3), .inr (4, [.int 3, .int 1, .ref f, .int 0, .int (-1), .null, .int (-1), .null])), ((qs 1), .inr (4, [.int 1, .int 1, .ref f, .int 0, .int (-1), .null, .int (-1), .null])), ((qs 4), .inr (4, [.int 4, .int 1, .ref f, .int 0, .int (-1), .null, .int (-1), .null]))]) (w1 := [(a4, wS tC 5 (va_up (va_up (va_up (va_up (va_up gf 0 none) 1 (some f)) 2 none) 3 none) 4 (some f))), (f, .inr (3, [.ref e1, .ref e2, .int 5, .int 0])), (e1, wI tC 0 z1)]) hP hD [2, 3, 4] [0, 1, 5, 6, 7, 8, 9] rfl rfl (by decide) (by decide) hk1 hFc hP1 hD1
              generalize H1 = H at hP hS ⊢
              have hP : va_P D vwCl [(x, .inr (5, [.ref a1, .ref a2, .ref a3, .ref a4])), (a1, wT tC 5 fs), ((qs 0), .inr (4, [.int 0, .int 1, .ref f, .int 0, .int (-1), .null, .int (-1), .null])), ((qs 2), .inr (4, [.int 2, .int 1, .ref f, .int 0, .int (-1), .null, .int (-1), .null])), ((qs 3), .inr (4, [.int 3, .int 1, .ref f, .int 0, .int (-1), .null, .int (-1), .null])), ((qs 1), .inr (4, [.int 1, .int 1, .ref f, .int 0, .int (-1), .null, .int (-1), .null])), ((qs 4), .inr (4, [.int 4, .int 1, .ref f, .int 0, .int (-1), .null, .int (-1), .null])), (a4, wS tC 5 (va_up (va_up (va_up (va_up (va_up gf 0 none) 1 (some f)) 2 none) 3 none) 4 (some f))), (f, .inr (3, [.ref e1, .ref e2, .int 5, .int 0])), (e1, wI tC 0 z1)] H := hP
              have hD : va_D A [(x, .inr (5, [.ref a1, .ref a2, .ref a3, .ref a4])), (a1, wT tC 5 fs), ((qs 0), .inr (4, [.int 0, .int 1, .ref f, .int 0, .int (-1), .null, .int (-1), .null])), ((qs 2), .inr (4, [.int 2, .int 1, .ref f, .int 0, .int (-1), .null, .int (-1), .null])), ((qs 3), .inr (4, [.int 3, .int 1, .ref f, .int 0, .int (-1), .null, .int (-1), .null])), ((qs 1), .inr (4, [.int 1, .int 1, .ref f, .int 0, .int (-1), .null, .int (-1), .null])), ((qs 4), .inr (4, [.int 4, .int 1, .ref f, .int 0, .int (-1), .null, .int (-1), .null])), (a4, wS tC 5 (va_up (va_up (va_up (va_up (va_up gf 0 none) 1 (some f)) 2 none) 3 none) 4 (some f))), (f, .inr (3, [.ref e1, .ref e2, .int 5, .int 0])), (e1, wI tC 0 z1)] := hD
              have q1 : r_92 = some f := hw_93.trans (by rw [hb0, hb1, hb2, hb3, hb4] <;> rfl)
              subst q1
              refine W.eq (g2 := F0 m 94 ls [.ref f]) rfl ?_
              refine lv_astore_n (lv' := [(2, .ref f), (3, .int 1), (0, .ref x), (1, .int p0)]) hx hb dX4_allowed_94 rfl hl (by decide) rfl (fun ls hl => ?_)
              refine lv_aload_n hx hb dX4_allowed_95 rfl (lv_at hl 0 rfl) ?_
              refine lv_ifnull hx hb dX4_allowed_96 ?_
              refine lv_aload_n hx hb dX4_allowed_99 rfl (lv_at hl 2 rfl) ?_
              refine va_get (D := D) (ci := 5) (v := .ref a4) (C := RX4) (T := TX4) (N := 4) hx hb hts in_X4_allowed_X4 hown hK hP 0 rfl rfl 3 (by decide) w_0 (fun _ h9 => h9) rfl dX4_allowed_100 ?_
              refine lv_aload_n hx hb dX4_allowed_103 rfl (lv_at hl 0 rfl) ?_
              have hPc := hP.sub (ws' := [(a4, wS tC 5 (va_up (va_up (va_up (va_up (va_up gf 0 none) 1 (some f)) 2 none) 3 none) 4 (some f))), (f, .inr (3, [.ref e1, .ref e2, .int 5, .int 0])), (e1, wI tC 0 z1)]) [7, 8, 9] rfl
              have hDc := hD.sub (ws' := [(a4, wS tC 5 (va_up (va_up (va_up (va_up (va_up gf 0 none) 1 (some f)) 2 none) 3 none) 4 (some f))), (f, .inr (3, [.ref e1, .ref e2, .int 5, .int 0])), (e1, wI tC 0 z1)]) [7, 8, 9] (by decide) rfl
              have hFc := va_free (wc := [(a4, wS tC 5 (va_up (va_up (va_up (va_up (va_up gf 0 none) 1 (some f)) 2 none) 3 none) 4 (some f))), (f, .inr (3, [.ref e1, .ref e2, .int 5, .int 0])), (e1, wI tC 0 z1)]) hD hS hA [7, 8, 9] rfl
              refine va_calli (va_runS (As := [.ref a4, .ref f]) (rest := []) ⟨hx, hb, hml, hown, hts⟩ (c_X4_mayGoOn l hlt D tC dz H.size a4 (va_up (va_up (va_up (va_up (va_up gf 0 none) 1 (some f)) 2 none) 3 none) 4 (some f)) (bqb p0) f e1 e2 z1 (by intro j hj; rcases (show j = 0 ∨ j = 1 ∨ j = 2 ∨ j = 3 ∨ j = 4 by omega) with rfl | rfl | rfl | rfl | rfl <;> simp [va_up, hb0, hb1, hb2, hb3, hb4])) (va_cwS 2 hts gX4_allowed_X4_mayGoOn rfl rfl rfl (by decide +kernel) ⟨Nat.le_of_ble_eq_true rfl, Nat.le_of_ble_eq_true rfl⟩) ⟨pB_blind, pB_at hPc hDc hK hN hE hS hFc⟩ rfl rfl hl.1 rfl (lv_room (Nat.le_of_ble_eq_true rfl)) dX4_allowed_104 ⟨Nat.le_of_ble_eq_true rfl, Nat.le_of_ble_eq_true rfl⟩) hS (fun q _ h => hFc q h) hFc (fun r_94 u t H1 locs ht hvm hw hB hz1 hk1 hS => ?_)
              obtain ⟨hP1, _, hD1⟩ := hB
              have hw_95 := hw
              rw [ht] at hP1
              obtain ⟨hP, hD⟩ := va_join (wr := [(x, .inr (5, [.ref a1, .ref a2, .ref a3, .ref a4])), (a1, wT tC 5 fs), ((qs 0), .inr (4, [.int 0, .int 1, .ref f, .int 0, .int (-1), .null, .int (-1), .null])), ((qs 2), .inr (4, [.int 2, .int 1, .ref f, .int 0, .int (-1), .null, .int (-1), .null])), ((qs 3), .inr (4, [.int 3, .int 1, .ref f, .int 0, .int (-1), .null, .int (-1), .null])), ((qs 1), .inr (4, [.int 1, .int 1, .ref f, .int 0, .int (-1), .null, .int (-1), .null])), ((qs 4), .inr (4, [.int 4, .int 1, .ref f, .int 0, .int (-1), .null, .int (-1), .null]))]) (w1 := [(a4, wS tC 5 (va_up (va_up (va_up (va_up (va_up gf 0 none) 1 (some f)) 2 none) 3 none) 4 (some f))), (f, .inr (3, [.ref e1, .ref e2, .int 5, .int 0])), (e1, wI tC 0 z1)]) hP hD [7, 8, 9] [0, 1, 2, 3, 4, 5, 6] rfl rfl (by decide) (by decide) hk1 hFc hP1 hD1
              generalize H1 = H at hP hS ⊢
              have hP : va_P D vwCl [(x, .inr (5, [.ref a1, .ref a2, .ref a3, .ref a4])), (a1, wT tC 5 fs), ((qs 0), .inr (4, [.int 0, .int 1, .ref f, .int 0, .int (-1), .null, .int (-1), .null])), ((qs 2), .inr (4, [.int 2, .int 1, .ref f, .int 0, .int (-1), .null, .int (-1), .null])), ((qs 3), .inr (4, [.int 3, .int 1, .ref f, .int 0, .int (-1), .null, .int (-1), .null])), ((qs 1), .inr (4, [.int 1, .int 1, .ref f, .int 0, .int (-1), .null, .int (-1), .null])), ((qs 4), .inr (4, [.int 4, .int 1, .ref f, .int 0, .int (-1), .null, .int (-1), .null])), (a4, wS tC 5 (va_up (va_up (va_up (va_up (va_up gf 0 none) 1 (some f)) 2 none) 3 none) 4 (some f))), (f, .inr (3, [.ref e1, .ref e2, .int 5, .int 0])), (e1, wI tC 0 z1)] H := hP
              have hD : va_D A [(x, .inr (5, [.ref a1, .ref a2, .ref a3, .ref a4])), (a1, wT tC 5 fs), ((qs 0), .inr (4, [.int 0, .int 1, .ref f, .int 0, .int (-1), .null, .int (-1), .null])), ((qs 2), .inr (4, [.int 2, .int 1, .ref f, .int 0, .int (-1), .null, .int (-1), .null])), ((qs 3), .inr (4, [.int 3, .int 1, .ref f, .int 0, .int (-1), .null, .int (-1), .null])), ((qs 1), .inr (4, [.int 1, .int 1, .ref f, .int 0, .int (-1), .null, .int (-1), .null])), ((qs 4), .inr (4, [.int 4, .int 1, .ref f, .int 0, .int (-1), .null, .int (-1), .null])), (a4, wS tC 5 (va_up (va_up (va_up (va_up (va_up gf 0 none) 1 (some f)) 2 none) 3 none) 4 (some f))), (f, .inr (3, [.ref e1, .ref e2, .int 5, .int 0])), (e1, wI tC 0 z1)] := hD
              have q1 : r_94 = 0 := hw_95.trans (by unfold mayg cntb; rw [hb0, hb1, hb2, hb3, hb4] <;> decide)
              subst q1
              refine lv_if_eq (tgt := 114) hx hb dX4_allowed_107 (by decide) (fun _ => ?_) (fun hc => absurd (by decide) hc)
              refine lv_iconst (v := 0) hx hb dX4_allowed_114 (by decide) ?_
              have hP9 := hP.sub (ws' := []) [] rfl
              have hD9 := hD.sub (ws' := []) [] (by decide) rfl
              refine W.widen (k := 1) (n := 6) (by omega) (by omega) ?_
              exact vx_ret (W.zret (v := 0) hx hb hr (by decide) (fun t ht hW => ⟨⟨0, (), rfl, ⟨(by unfold mayg cntb; rw [hb0, hb1, hb2, hb3, hb4] <;> decide), bl1 hw_2 c_3⟩, (by rw [ht]; exact hP9), va_K.moved hW.alike hK, hD9⟩, hS.F ht⟩) hS.2.2 dX4_allowed_115 hlocks)
          · skip
            have hb3 : bqb p0 3 = true := bqT (fun h => c_82 (ez_81.trans h))
            refine lv_iconst (v := 1) hx hb dX4_allowed_34 (by decide) ?_
            refine lv_goto (tgt := 39) hx hb dX4_allowed_35 (by decide) ?_
            refine lv_istore_n (lv' := [(3, .int 1), (2, .int 3), (0, .ref x), (1, .int p0)]) hx hb dX4_allowed_39 rfl hl (by decide) rfl (fun ls hl => ?_)
            refine lv_iload_n hx hb dX4_allowed_40 rfl (lv_at hl 0 rfl) ?_
            refine lv_if_eq (tgt := 58) hx hb dX4_allowed_41 (by decide) (fun hc => absurd hc (by decide)) (fun _ => ?_)
            refine lv_aload_n hx hb dX4_allowed_44 rfl (lv_at hl 2 rfl) ?_
            refine va_get (D := D) (ci := 5) (v := .ref a1) (C := RX4) (T := TX4) (N := 4) hx hb hts in_X4_allowed_X4 hown hK hP 0 rfl rfl 0 (by decide) w_1 (fun _ h9 => h9) rfl dX4_allowed_45 ?_
            refine lv_iload_n hx hb dX4_allowed_48 rfl (lv_at hl 1 rfl) ?_
            refine va_aldq hx hb hK hP 1 3 rfl rfl (by unfold vp_in; decide) dX4_allowed_49 ?_
            rw [show fs (3 : Int32).toNatClampNeg = some (qs 3) from (by rw [show (3 : Int32).toNatClampNeg = 3 by decide]; exact hfs 3 (by decide))]
            refine W.eq (g2 := F0 m 50 ls [.ref (qs 3)]) rfl ?_
            have hPc := hP.sub (ws' := [((qs 3), .inr (4, [.int 3, .int 1, .ref f, .int 0, .int (-1), .null, .int (-1), .null]))]) [7] rfl
            have hDc := hD.sub (ws' := [((qs 3), .inr (4, [.int 3, .int 1, .ref f, .int 0, .int (-1), .null, .int (-1), .null]))]) [7] (by decide) rfl
            have hFc := va_free (wc := [((qs 3), .inr (4, [.int 3, .int 1, .ref f, .int 0, .int (-1), .null, .int (-1), .null]))]) hD hS hA [7] rfl
            refine va_calli (va_runVN (As := []) (rest := []) ⟨hx, hb, hml, hown, hts⟩ (c_X3_isFree l hlt D tC dz H.size f (qs 3) 3 ) ⟨(va_cnB (host := "NoticeStations") 0 hts gX4_allowed_X3_isFree_n240 rfl rfl rfl (hN.1 (.methodLinkNest "NoticeStations" 240 ⟨"NoticeStations$Station", "isFree", "()Z"⟩ "NoticeStations") (by decide +kernel)) w_2 (by decide +kernel) ⟨Nat.le_of_ble_eq_true rfl, Nat.le_of_ble_eq_true rfl⟩), w_3, w_4⟩ ⟨pB_blind, va_recv hK hPc (ci := 4) (q0 := 0) rfl rfl, pB_at hPc hDc hK hN hE hS hFc⟩ rfl rfl hl.1 rfl (lv_room (Nat.le_of_ble_eq_true rfl)) dX4_allowed_50 ⟨Nat.le_of_ble_eq_true rfl, Nat.le_of_ble_eq_true rfl⟩) hS (fun q _ h => hFc q h) hFc (fun r_96 u t H1 locs ht hvm hw hB hz1 hk1 hS => ?_)
            obtain ⟨hP1, _, hD1⟩ := hB
            have hw_97 := hw
            rw [ht] at hP1
            obtain ⟨hP, hD⟩ := va_join (wr := [(x, .inr (5, [.ref a1, .ref a2, .ref a3, .ref a4])), (a1, wT tC 5 fs), (a4, wS tC 5 (va_up (va_up (va_up gf 0 none) 1 (some f)) 2 none)), (f, .inr (3, [.ref e1, .ref e2, .int 5, .int 0])), (e1, wI tC 0 z1), ((qs 0), .inr (4, [.int 0, .int 1, .ref f, .int 0, .int (-1), .null, .int (-1), .null])), ((qs 2), .inr (4, [.int 2, .int 1, .ref f, .int 0, .int (-1), .null, .int (-1), .null])), ((qs 4), .inr (4, [.int 4, .int 1, .ref f, .int 0, .int (-1), .null, .int (-1), .null])), ((qs 1), .inr (4, [.int 1, .int 1, .ref f, .int 0, .int (-1), .null, .int (-1), .null]))]) (w1 := [((qs 3), .inr (4, [.int 3, .int 1, .ref f, .int 0, .int (-1), .null, .int (-1), .null]))]) hP hD [7] [0, 1, 2, 3, 4, 5, 6, 8, 9] rfl rfl (by decide) (by decide) hk1 hFc hP1 hD1
            generalize H1 = H at hP hS ⊢
            have hP : va_P D vwCl [(x, .inr (5, [.ref a1, .ref a2, .ref a3, .ref a4])), (a1, wT tC 5 fs), (a4, wS tC 5 (va_up (va_up (va_up gf 0 none) 1 (some f)) 2 none)), (f, .inr (3, [.ref e1, .ref e2, .int 5, .int 0])), (e1, wI tC 0 z1), ((qs 0), .inr (4, [.int 0, .int 1, .ref f, .int 0, .int (-1), .null, .int (-1), .null])), ((qs 2), .inr (4, [.int 2, .int 1, .ref f, .int 0, .int (-1), .null, .int (-1), .null])), ((qs 4), .inr (4, [.int 4, .int 1, .ref f, .int 0, .int (-1), .null, .int (-1), .null])), ((qs 1), .inr (4, [.int 1, .int 1, .ref f, .int 0, .int (-1), .null, .int (-1), .null])), ((qs 3), .inr (4, [.int 3, .int 1, .ref f, .int 0, .int (-1), .null, .int (-1), .null]))] H := hP
            have hD : va_D A [(x, .inr (5, [.ref a1, .ref a2, .ref a3, .ref a4])), (a1, wT tC 5 fs), (a4, wS tC 5 (va_up (va_up (va_up gf 0 none) 1 (some f)) 2 none)), (f, .inr (3, [.ref e1, .ref e2, .int 5, .int 0])), (e1, wI tC 0 z1), ((qs 0), .inr (4, [.int 0, .int 1, .ref f, .int 0, .int (-1), .null, .int (-1), .null])), ((qs 2), .inr (4, [.int 2, .int 1, .ref f, .int 0, .int (-1), .null, .int (-1), .null])), ((qs 4), .inr (4, [.int 4, .int 1, .ref f, .int 0, .int (-1), .null, .int (-1), .null])), ((qs 1), .inr (4, [.int 1, .int 1, .ref f, .int 0, .int (-1), .null, .int (-1), .null])), ((qs 3), .inr (4, [.int 3, .int 1, .ref f, .int 0, .int (-1), .null, .int (-1), .null]))] := hD
            subst hw_97
            refine lv_if_ne (tgt := 58) hx hb dX4_allowed_53 (by decide) (fun _ => ?_) (fun hc => absurd hc (by decide))
            refine lv_aload_n hx hb dX4_allowed_58 rfl (lv_at hl 2 rfl) ?_
            refine va_get (D := D) (ci := 5) (v := .ref a4) (C := RX4) (T := TX4) (N := 4) hx hb hts in_X4_allowed_X4 hown hK hP 0 rfl rfl 3 (by decide) w_0 (fun _ h9 => h9) rfl dX4_allowed_59 ?_
            refine lv_iload_n hx hb dX4_allowed_62 rfl (lv_at hl 1 rfl) ?_
            refine lv_iload_n hx hb dX4_allowed_63 rfl (lv_at hl 0 rfl) ?_
            refine lv_if_eq (tgt := 79) hx hb dX4_allowed_64 (by decide) (fun hc => absurd hc (by decide)) (fun _ => ?_)
            refine lv_aload_n hx hb dX4_allowed_67 rfl (lv_at hl 2 rfl) ?_
            refine va_get (D := D) (ci := 5) (v := .ref a1) (C := RX4) (T := TX4) (N := 4) hx hb hts in_X4_allowed_X4 hown hK hP 0 rfl rfl 0 (by decide) w_1 (fun _ h9 => h9) rfl dX4_allowed_68 ?_
            refine lv_iload_n hx hb dX4_allowed_71 rfl (lv_at hl 1 rfl) ?_
            refine va_aldq hx hb hK hP 1 3 rfl rfl (by unfold vp_in; decide) dX4_allowed_72 ?_
            rw [show fs (3 : Int32).toNatClampNeg = some (qs 3) from (by rw [show (3 : Int32).toNatClampNeg = 3 by decide]; exact hfs 3 (by decide))]
            refine W.eq (g2 := F0 m 73 ls [.ref (qs 3), .int 3, .ref a4]) rfl ?_
            refine va_getN (host := "NoticeStations") (D := D) (ci := 4) (v := .ref f) (C := RX3) (T := TX3) (N := 8) hx hb hts in_X4_allowed_X3 hown hK hP 9 rfl rfl 2 (by decide) (va_Nw.use rfl (hN.1 (.fieldLinkNest "NoticeStations" 61 "NoticeStations$Station" "stored" "LNoticeStations$Standing;" "NoticeStations") (by decide +kernel))) (fun _ h9 => h9) rfl dX4_allowed_73 ?_
            refine lv_goto (tgt := 80) hx hb dX4_allowed_76 (by decide) ?_
            refine va_astq hx hb hK hP hD hS 2 2 3 3 rfl rfl rfl rfl (by unfold vp_in; decide) dX4_allowed_80 (fun H locs hP hD hS => ?_)
            have hP : va_P D vwCl [(x, .inr (5, [.ref a1, .ref a2, .ref a3, .ref a4])), (a1, wT tC 5 fs), (a4, wS tC 5 (va_up (va_up (va_up (va_up gf 0 none) 1 (some f)) 2 none) 3 (some f))), (f, .inr (3, [.ref e1, .ref e2, .int 5, .int 0])), (e1, wI tC 0 z1), ((qs 0), .inr (4, [.int 0, .int 1, .ref f, .int 0, .int (-1), .null, .int (-1), .null])), ((qs 2), .inr (4, [.int 2, .int 1, .ref f, .int 0, .int (-1), .null, .int (-1), .null])), ((qs 4), .inr (4, [.int 4, .int 1, .ref f, .int 0, .int (-1), .null, .int (-1), .null])), ((qs 1), .inr (4, [.int 1, .int 1, .ref f, .int 0, .int (-1), .null, .int (-1), .null])), ((qs 3), .inr (4, [.int 3, .int 1, .ref f, .int 0, .int (-1), .null, .int (-1), .null]))] H := hP
            have hD : va_D A [(x, .inr (5, [.ref a1, .ref a2, .ref a3, .ref a4])), (a1, wT tC 5 fs), (a4, wS tC 5 (va_up (va_up (va_up (va_up gf 0 none) 1 (some f)) 2 none) 3 (some f))), (f, .inr (3, [.ref e1, .ref e2, .int 5, .int 0])), (e1, wI tC 0 z1), ((qs 0), .inr (4, [.int 0, .int 1, .ref f, .int 0, .int (-1), .null, .int (-1), .null])), ((qs 2), .inr (4, [.int 2, .int 1, .ref f, .int 0, .int (-1), .null, .int (-1), .null])), ((qs 4), .inr (4, [.int 4, .int 1, .ref f, .int 0, .int (-1), .null, .int (-1), .null])), ((qs 1), .inr (4, [.int 1, .int 1, .ref f, .int 0, .int (-1), .null, .int (-1), .null])), ((qs 3), .inr (4, [.int 3, .int 1, .ref f, .int 0, .int (-1), .null, .int (-1), .null]))] := hD
            refine lv_iinc (v := 4) (lv' := [(2, .int 4), (3, .int 1), (0, .ref x), (1, .int p0)]) hx hb dX4_allowed_81 hl (k := 1) rfl (by decide) (by decide) rfl (fun ls hl => ?_)
            refine lv_goto (tgt := 21) hx hb dX4_allowed_84 (by decide) ?_
            refine lv_iload_n hx hb dX4_allowed_21 rfl (lv_at hl 0 rfl) ?_
            refine lv_iconst (v := 5) hx hb dX4_allowed_22 (by decide) ?_
            refine lv_icmp_ge (tgt := 87) hx hb dX4_allowed_23 (by decide) (fun hc => absurd hc (by decide)) (fun _ => ?_)
            refine lv_iload_n hx hb dX4_allowed_26 rfl (lv_at hl 3 rfl) ?_
            refine lv_iconst (v := 1) hx hb dX4_allowed_27 (by decide) ?_
            refine lv_iload_n hx hb dX4_allowed_28 rfl (lv_at hl 0 rfl) ?_
            refine lv_ishl hx hb dX4_allowed_29 ?_
            refine lv_topi (fun z_98 ez_98 => ?_)
            have fz_98 : z_98 = 16 := ez_98.trans (by decide)
            subst fz_98
            refine lv_iand hx hb dX4_allowed_30 ?_
            refine lv_topi (fun z_99 ez_99 => ?_)
            refine lv_if_eq (tgt := 38) hx hb dX4_allowed_31 (by decide) (fun c_100 => ?_) (fun c_100 => ?_)
            · skip
              have hb4 : bqb p0 4 = false := bqF (ez_99.symm.trans c_100)
              refine lv_iconst (v := 0) hx hb dX4_allowed_38 (by decide) ?_
              refine lv_istore_n (lv' := [(3, .int 0), (2, .int 4), (0, .ref x), (1, .int p0)]) hx hb dX4_allowed_39 rfl hl (by decide) rfl (fun ls hl => ?_)
              refine lv_iload_n hx hb dX4_allowed_40 rfl (lv_at hl 0 rfl) ?_
              refine lv_if_eq (tgt := 58) hx hb dX4_allowed_41 (by decide) (fun _ => ?_) (fun hc => absurd (by decide) hc)
              refine lv_aload_n hx hb dX4_allowed_58 rfl (lv_at hl 2 rfl) ?_
              refine va_get (D := D) (ci := 5) (v := .ref a4) (C := RX4) (T := TX4) (N := 4) hx hb hts in_X4_allowed_X4 hown hK hP 0 rfl rfl 3 (by decide) w_0 (fun _ h9 => h9) rfl dX4_allowed_59 ?_
              refine lv_iload_n hx hb dX4_allowed_62 rfl (lv_at hl 1 rfl) ?_
              refine lv_iload_n hx hb dX4_allowed_63 rfl (lv_at hl 0 rfl) ?_
              refine lv_if_eq (tgt := 79) hx hb dX4_allowed_64 (by decide) (fun _ => ?_) (fun hc => absurd (by decide) hc)
              refine lv_null hx hb dX4_allowed_79 ?_
              refine va_astqN hx hb hK hP hD hS 2 2 rfl rfl (by unfold vp_in; decide) dX4_allowed_80 (fun H locs hP hD hS => ?_)
              have hP : va_P D vwCl [(x, .inr (5, [.ref a1, .ref a2, .ref a3, .ref a4])), (a1, wT tC 5 fs), (a4, wS tC 5 (va_up (va_up (va_up (va_up (va_up gf 0 none) 1 (some f)) 2 none) 3 (some f)) 4 none)), (f, .inr (3, [.ref e1, .ref e2, .int 5, .int 0])), (e1, wI tC 0 z1), ((qs 0), .inr (4, [.int 0, .int 1, .ref f, .int 0, .int (-1), .null, .int (-1), .null])), ((qs 2), .inr (4, [.int 2, .int 1, .ref f, .int 0, .int (-1), .null, .int (-1), .null])), ((qs 4), .inr (4, [.int 4, .int 1, .ref f, .int 0, .int (-1), .null, .int (-1), .null])), ((qs 1), .inr (4, [.int 1, .int 1, .ref f, .int 0, .int (-1), .null, .int (-1), .null])), ((qs 3), .inr (4, [.int 3, .int 1, .ref f, .int 0, .int (-1), .null, .int (-1), .null]))] H := hP
              have hD : va_D A [(x, .inr (5, [.ref a1, .ref a2, .ref a3, .ref a4])), (a1, wT tC 5 fs), (a4, wS tC 5 (va_up (va_up (va_up (va_up (va_up gf 0 none) 1 (some f)) 2 none) 3 (some f)) 4 none)), (f, .inr (3, [.ref e1, .ref e2, .int 5, .int 0])), (e1, wI tC 0 z1), ((qs 0), .inr (4, [.int 0, .int 1, .ref f, .int 0, .int (-1), .null, .int (-1), .null])), ((qs 2), .inr (4, [.int 2, .int 1, .ref f, .int 0, .int (-1), .null, .int (-1), .null])), ((qs 4), .inr (4, [.int 4, .int 1, .ref f, .int 0, .int (-1), .null, .int (-1), .null])), ((qs 1), .inr (4, [.int 1, .int 1, .ref f, .int 0, .int (-1), .null, .int (-1), .null])), ((qs 3), .inr (4, [.int 3, .int 1, .ref f, .int 0, .int (-1), .null, .int (-1), .null]))] := hD
              refine lv_iinc (v := 5) (lv' := [(2, .int 5), (3, .int 0), (0, .ref x), (1, .int p0)]) hx hb dX4_allowed_81 hl (k := 1) rfl (by decide) (by decide) rfl (fun ls hl => ?_)
              refine lv_goto (tgt := 21) hx hb dX4_allowed_84 (by decide) ?_
              refine lv_iload_n hx hb dX4_allowed_21 rfl (lv_at hl 0 rfl) ?_
              refine lv_iconst (v := 5) hx hb dX4_allowed_22 (by decide) ?_
              refine lv_icmp_ge (tgt := 87) hx hb dX4_allowed_23 (by decide) (fun _ => ?_) (fun hc => absurd (by decide) hc)
              refine lv_aload_n hx hb dX4_allowed_87 rfl (lv_at hl 2 rfl) ?_
              refine va_get (D := D) (ci := 5) (v := .ref a4) (C := RX4) (T := TX4) (N := 4) hx hb hts in_X4_allowed_X4 hown hK hP 0 rfl rfl 3 (by decide) w_0 (fun _ h9 => h9) rfl dX4_allowed_88 ?_
              have hPc := hP.sub (ws' := [(a4, wS tC 5 (va_up (va_up (va_up (va_up (va_up gf 0 none) 1 (some f)) 2 none) 3 (some f)) 4 none)), (f, .inr (3, [.ref e1, .ref e2, .int 5, .int 0])), (e1, wI tC 0 z1)]) [2, 3, 4] rfl
              have hDc := hD.sub (ws' := [(a4, wS tC 5 (va_up (va_up (va_up (va_up (va_up gf 0 none) 1 (some f)) 2 none) 3 (some f)) 4 none)), (f, .inr (3, [.ref e1, .ref e2, .int 5, .int 0])), (e1, wI tC 0 z1)]) [2, 3, 4] (by decide) rfl
              have hFc := va_free (wc := [(a4, wS tC 5 (va_up (va_up (va_up (va_up (va_up gf 0 none) 1 (some f)) 2 none) 3 (some f)) 4 none)), (f, .inr (3, [.ref e1, .ref e2, .int 5, .int 0])), (e1, wI tC 0 z1)]) hD hS hA [2, 3, 4] rfl
              refine va_callq (va_runS (As := [.ref a4]) (rest := []) ⟨hx, hb, hml, hown, hts⟩ (c_X4_heldByHolders l hlt D tC dz H.size a4 (va_up (va_up (va_up (va_up (va_up gf 0 none) 1 (some f)) 2 none) 3 (some f)) 4 none) (bqb p0) f e1 e2 z1 (by intro j hj; rcases (show j = 0 ∨ j = 1 ∨ j = 2 ∨ j = 3 ∨ j = 4 by omega) with rfl | rfl | rfl | rfl | rfl <;> simp [va_up, hb0, hb1, hb2, hb3, hb4])) (va_cwS 1 hts gX4_allowed_X4_heldByHolders rfl rfl rfl (by decide +kernel) ⟨Nat.le_of_ble_eq_true rfl, Nat.le_of_ble_eq_true rfl⟩) ⟨pB_blind, pB_at hPc hDc hK hN hE hS hFc⟩ rfl rfl hl.1 rfl (lv_room (Nat.le_of_ble_eq_true rfl)) dX4_allowed_91 ⟨Nat.le_of_ble_eq_true rfl, Nat.le_of_ble_eq_true rfl⟩) hS (fun q _ h => hFc q h) hFc (fun r_101 u t H1 locs ht hvm hw hB hz1 hk1 hS => ?_)
              obtain ⟨hP1, _, hD1⟩ := hB
              have hw_102 := hw
              rw [ht] at hP1
              obtain ⟨hP, hD⟩ := va_join (wr := [(x, .inr (5, [.ref a1, .ref a2, .ref a3, .ref a4])), (a1, wT tC 5 fs), ((qs 0), .inr (4, [.int 0, .int 1, .ref f, .int 0, .int (-1), .null, .int (-1), .null])), ((qs 2), .inr (4, [.int 2, .int 1, .ref f, .int 0, .int (-1), .null, .int (-1), .null])), ((qs 4), .inr (4, [.int 4, .int 1, .ref f, .int 0, .int (-1), .null, .int (-1), .null])), ((qs 1), .inr (4, [.int 1, .int 1, .ref f, .int 0, .int (-1), .null, .int (-1), .null])), ((qs 3), .inr (4, [.int 3, .int 1, .ref f, .int 0, .int (-1), .null, .int (-1), .null]))]) (w1 := [(a4, wS tC 5 (va_up (va_up (va_up (va_up (va_up gf 0 none) 1 (some f)) 2 none) 3 (some f)) 4 none)), (f, .inr (3, [.ref e1, .ref e2, .int 5, .int 0])), (e1, wI tC 0 z1)]) hP hD [2, 3, 4] [0, 1, 5, 6, 7, 8, 9] rfl rfl (by decide) (by decide) hk1 hFc hP1 hD1
              generalize H1 = H at hP hS ⊢
              have hP : va_P D vwCl [(x, .inr (5, [.ref a1, .ref a2, .ref a3, .ref a4])), (a1, wT tC 5 fs), ((qs 0), .inr (4, [.int 0, .int 1, .ref f, .int 0, .int (-1), .null, .int (-1), .null])), ((qs 2), .inr (4, [.int 2, .int 1, .ref f, .int 0, .int (-1), .null, .int (-1), .null])), ((qs 4), .inr (4, [.int 4, .int 1, .ref f, .int 0, .int (-1), .null, .int (-1), .null])), ((qs 1), .inr (4, [.int 1, .int 1, .ref f, .int 0, .int (-1), .null, .int (-1), .null])), ((qs 3), .inr (4, [.int 3, .int 1, .ref f, .int 0, .int (-1), .null, .int (-1), .null])), (a4, wS tC 5 (va_up (va_up (va_up (va_up (va_up gf 0 none) 1 (some f)) 2 none) 3 (some f)) 4 none)), (f, .inr (3, [.ref e1, .ref e2, .int 5, .int 0])), (e1, wI tC 0 z1)] H := hP
              have hD : va_D A [(x, .inr (5, [.ref a1, .ref a2, .ref a3, .ref a4])), (a1, wT tC 5 fs), ((qs 0), .inr (4, [.int 0, .int 1, .ref f, .int 0, .int (-1), .null, .int (-1), .null])), ((qs 2), .inr (4, [.int 2, .int 1, .ref f, .int 0, .int (-1), .null, .int (-1), .null])), ((qs 4), .inr (4, [.int 4, .int 1, .ref f, .int 0, .int (-1), .null, .int (-1), .null])), ((qs 1), .inr (4, [.int 1, .int 1, .ref f, .int 0, .int (-1), .null, .int (-1), .null])), ((qs 3), .inr (4, [.int 3, .int 1, .ref f, .int 0, .int (-1), .null, .int (-1), .null])), (a4, wS tC 5 (va_up (va_up (va_up (va_up (va_up gf 0 none) 1 (some f)) 2 none) 3 (some f)) 4 none)), (f, .inr (3, [.ref e1, .ref e2, .int 5, .int 0])), (e1, wI tC 0 z1)] := hD
              have q1 : r_101 = some f := hw_102.trans (by rw [hb0, hb1, hb2, hb3, hb4] <;> rfl)
              subst q1
              refine W.eq (g2 := F0 m 94 ls [.ref f]) rfl ?_
              refine lv_astore_n (lv' := [(2, .ref f), (3, .int 0), (0, .ref x), (1, .int p0)]) hx hb dX4_allowed_94 rfl hl (by decide) rfl (fun ls hl => ?_)
              refine lv_aload_n hx hb dX4_allowed_95 rfl (lv_at hl 0 rfl) ?_
              refine lv_ifnull hx hb dX4_allowed_96 ?_
              refine lv_aload_n hx hb dX4_allowed_99 rfl (lv_at hl 2 rfl) ?_
              refine va_get (D := D) (ci := 5) (v := .ref a4) (C := RX4) (T := TX4) (N := 4) hx hb hts in_X4_allowed_X4 hown hK hP 0 rfl rfl 3 (by decide) w_0 (fun _ h9 => h9) rfl dX4_allowed_100 ?_
              refine lv_aload_n hx hb dX4_allowed_103 rfl (lv_at hl 0 rfl) ?_
              have hPc := hP.sub (ws' := [(a4, wS tC 5 (va_up (va_up (va_up (va_up (va_up gf 0 none) 1 (some f)) 2 none) 3 (some f)) 4 none)), (f, .inr (3, [.ref e1, .ref e2, .int 5, .int 0])), (e1, wI tC 0 z1)]) [7, 8, 9] rfl
              have hDc := hD.sub (ws' := [(a4, wS tC 5 (va_up (va_up (va_up (va_up (va_up gf 0 none) 1 (some f)) 2 none) 3 (some f)) 4 none)), (f, .inr (3, [.ref e1, .ref e2, .int 5, .int 0])), (e1, wI tC 0 z1)]) [7, 8, 9] (by decide) rfl
              have hFc := va_free (wc := [(a4, wS tC 5 (va_up (va_up (va_up (va_up (va_up gf 0 none) 1 (some f)) 2 none) 3 (some f)) 4 none)), (f, .inr (3, [.ref e1, .ref e2, .int 5, .int 0])), (e1, wI tC 0 z1)]) hD hS hA [7, 8, 9] rfl
              refine va_calli (va_runS (As := [.ref a4, .ref f]) (rest := []) ⟨hx, hb, hml, hown, hts⟩ (c_X4_mayGoOn l hlt D tC dz H.size a4 (va_up (va_up (va_up (va_up (va_up gf 0 none) 1 (some f)) 2 none) 3 (some f)) 4 none) (bqb p0) f e1 e2 z1 (by intro j hj; rcases (show j = 0 ∨ j = 1 ∨ j = 2 ∨ j = 3 ∨ j = 4 by omega) with rfl | rfl | rfl | rfl | rfl <;> simp [va_up, hb0, hb1, hb2, hb3, hb4])) (va_cwS 2 hts gX4_allowed_X4_mayGoOn rfl rfl rfl (by decide +kernel) ⟨Nat.le_of_ble_eq_true rfl, Nat.le_of_ble_eq_true rfl⟩) ⟨pB_blind, pB_at hPc hDc hK hN hE hS hFc⟩ rfl rfl hl.1 rfl (lv_room (Nat.le_of_ble_eq_true rfl)) dX4_allowed_104 ⟨Nat.le_of_ble_eq_true rfl, Nat.le_of_ble_eq_true rfl⟩) hS (fun q _ h => hFc q h) hFc (fun r_103 u t H1 locs ht hvm hw hB hz1 hk1 hS => ?_)
              obtain ⟨hP1, _, hD1⟩ := hB
              have hw_104 := hw
              rw [ht] at hP1
              obtain ⟨hP, hD⟩ := va_join (wr := [(x, .inr (5, [.ref a1, .ref a2, .ref a3, .ref a4])), (a1, wT tC 5 fs), ((qs 0), .inr (4, [.int 0, .int 1, .ref f, .int 0, .int (-1), .null, .int (-1), .null])), ((qs 2), .inr (4, [.int 2, .int 1, .ref f, .int 0, .int (-1), .null, .int (-1), .null])), ((qs 4), .inr (4, [.int 4, .int 1, .ref f, .int 0, .int (-1), .null, .int (-1), .null])), ((qs 1), .inr (4, [.int 1, .int 1, .ref f, .int 0, .int (-1), .null, .int (-1), .null])), ((qs 3), .inr (4, [.int 3, .int 1, .ref f, .int 0, .int (-1), .null, .int (-1), .null]))]) (w1 := [(a4, wS tC 5 (va_up (va_up (va_up (va_up (va_up gf 0 none) 1 (some f)) 2 none) 3 (some f)) 4 none)), (f, .inr (3, [.ref e1, .ref e2, .int 5, .int 0])), (e1, wI tC 0 z1)]) hP hD [7, 8, 9] [0, 1, 2, 3, 4, 5, 6] rfl rfl (by decide) (by decide) hk1 hFc hP1 hD1
              generalize H1 = H at hP hS ⊢
              have hP : va_P D vwCl [(x, .inr (5, [.ref a1, .ref a2, .ref a3, .ref a4])), (a1, wT tC 5 fs), ((qs 0), .inr (4, [.int 0, .int 1, .ref f, .int 0, .int (-1), .null, .int (-1), .null])), ((qs 2), .inr (4, [.int 2, .int 1, .ref f, .int 0, .int (-1), .null, .int (-1), .null])), ((qs 4), .inr (4, [.int 4, .int 1, .ref f, .int 0, .int (-1), .null, .int (-1), .null])), ((qs 1), .inr (4, [.int 1, .int 1, .ref f, .int 0, .int (-1), .null, .int (-1), .null])), ((qs 3), .inr (4, [.int 3, .int 1, .ref f, .int 0, .int (-1), .null, .int (-1), .null])), (a4, wS tC 5 (va_up (va_up (va_up (va_up (va_up gf 0 none) 1 (some f)) 2 none) 3 (some f)) 4 none)), (f, .inr (3, [.ref e1, .ref e2, .int 5, .int 0])), (e1, wI tC 0 z1)] H := hP
              have hD : va_D A [(x, .inr (5, [.ref a1, .ref a2, .ref a3, .ref a4])), (a1, wT tC 5 fs), ((qs 0), .inr (4, [.int 0, .int 1, .ref f, .int 0, .int (-1), .null, .int (-1), .null])), ((qs 2), .inr (4, [.int 2, .int 1, .ref f, .int 0, .int (-1), .null, .int (-1), .null])), ((qs 4), .inr (4, [.int 4, .int 1, .ref f, .int 0, .int (-1), .null, .int (-1), .null])), ((qs 1), .inr (4, [.int 1, .int 1, .ref f, .int 0, .int (-1), .null, .int (-1), .null])), ((qs 3), .inr (4, [.int 3, .int 1, .ref f, .int 0, .int (-1), .null, .int (-1), .null])), (a4, wS tC 5 (va_up (va_up (va_up (va_up (va_up gf 0 none) 1 (some f)) 2 none) 3 (some f)) 4 none)), (f, .inr (3, [.ref e1, .ref e2, .int 5, .int 0])), (e1, wI tC 0 z1)] := hD
              have q1 : r_103 = 0 := hw_104.trans (by unfold mayg cntb; rw [hb0, hb1, hb2, hb3, hb4] <;> decide)
              subst q1
              refine lv_if_eq (tgt := 114) hx hb dX4_allowed_107 (by decide) (fun _ => ?_) (fun hc => absurd (by decide) hc)
              refine lv_iconst (v := 0) hx hb dX4_allowed_114 (by decide) ?_
              have hP9 := hP.sub (ws' := []) [] rfl
              have hD9 := hD.sub (ws' := []) [] (by decide) rfl
              refine W.widen (k := 1) (n := 6) (by omega) (by omega) ?_
              exact vx_ret (W.zret (v := 0) hx hb hr (by decide) (fun t ht hW => ⟨⟨0, (), rfl, ⟨(by unfold mayg cntb; rw [hb0, hb1, hb2, hb3, hb4] <;> decide), bl1 hw_2 c_3⟩, (by rw [ht]; exact hP9), va_K.moved hW.alike hK, hD9⟩, hS.F ht⟩) hS.2.2 dX4_allowed_115 hlocks)
            · skip
              have hb4 : bqb p0 4 = true := bqT (fun h => c_100 (ez_99.trans h))
              refine lv_iconst (v := 1) hx hb dX4_allowed_34 (by decide) ?_
              refine lv_goto (tgt := 39) hx hb dX4_allowed_35 (by decide) ?_
              refine lv_istore_n (lv' := [(3, .int 1), (2, .int 4), (0, .ref x), (1, .int p0)]) hx hb dX4_allowed_39 rfl hl (by decide) rfl (fun ls hl => ?_)
              refine lv_iload_n hx hb dX4_allowed_40 rfl (lv_at hl 0 rfl) ?_
              refine lv_if_eq (tgt := 58) hx hb dX4_allowed_41 (by decide) (fun hc => absurd hc (by decide)) (fun _ => ?_)
              refine lv_aload_n hx hb dX4_allowed_44 rfl (lv_at hl 2 rfl) ?_
              refine va_get (D := D) (ci := 5) (v := .ref a1) (C := RX4) (T := TX4) (N := 4) hx hb hts in_X4_allowed_X4 hown hK hP 0 rfl rfl 0 (by decide) w_1 (fun _ h9 => h9) rfl dX4_allowed_45 ?_
              refine lv_iload_n hx hb dX4_allowed_48 rfl (lv_at hl 1 rfl) ?_
              refine va_aldq hx hb hK hP 1 3 rfl rfl (by unfold vp_in; decide) dX4_allowed_49 ?_
              rw [show fs (4 : Int32).toNatClampNeg = some (qs 4) from (by rw [show (4 : Int32).toNatClampNeg = 4 by decide]; exact hfs 4 (by decide))]
              refine W.eq (g2 := F0 m 50 ls [.ref (qs 4)]) rfl ?_
              have hPc := hP.sub (ws' := [((qs 4), .inr (4, [.int 4, .int 1, .ref f, .int 0, .int (-1), .null, .int (-1), .null]))]) [7] rfl
              have hDc := hD.sub (ws' := [((qs 4), .inr (4, [.int 4, .int 1, .ref f, .int 0, .int (-1), .null, .int (-1), .null]))]) [7] (by decide) rfl
              have hFc := va_free (wc := [((qs 4), .inr (4, [.int 4, .int 1, .ref f, .int 0, .int (-1), .null, .int (-1), .null]))]) hD hS hA [7] rfl
              refine va_calli (va_runVN (As := []) (rest := []) ⟨hx, hb, hml, hown, hts⟩ (c_X3_isFree l hlt D tC dz H.size f (qs 4) 4 ) ⟨(va_cnB (host := "NoticeStations") 0 hts gX4_allowed_X3_isFree_n240 rfl rfl rfl (hN.1 (.methodLinkNest "NoticeStations" 240 ⟨"NoticeStations$Station", "isFree", "()Z"⟩ "NoticeStations") (by decide +kernel)) w_2 (by decide +kernel) ⟨Nat.le_of_ble_eq_true rfl, Nat.le_of_ble_eq_true rfl⟩), w_3, w_4⟩ ⟨pB_blind, va_recv hK hPc (ci := 4) (q0 := 0) rfl rfl, pB_at hPc hDc hK hN hE hS hFc⟩ rfl rfl hl.1 rfl (lv_room (Nat.le_of_ble_eq_true rfl)) dX4_allowed_50 ⟨Nat.le_of_ble_eq_true rfl, Nat.le_of_ble_eq_true rfl⟩) hS (fun q _ h => hFc q h) hFc (fun r_105 u t H1 locs ht hvm hw hB hz1 hk1 hS => ?_)
              obtain ⟨hP1, _, hD1⟩ := hB
              have hw_106 := hw
              rw [ht] at hP1
              obtain ⟨hP, hD⟩ := va_join (wr := [(x, .inr (5, [.ref a1, .ref a2, .ref a3, .ref a4])), (a1, wT tC 5 fs), (a4, wS tC 5 (va_up (va_up (va_up (va_up gf 0 none) 1 (some f)) 2 none) 3 (some f))), (f, .inr (3, [.ref e1, .ref e2, .int 5, .int 0])), (e1, wI tC 0 z1), ((qs 0), .inr (4, [.int 0, .int 1, .ref f, .int 0, .int (-1), .null, .int (-1), .null])), ((qs 2), .inr (4, [.int 2, .int 1, .ref f, .int 0, .int (-1), .null, .int (-1), .null])), ((qs 1), .inr (4, [.int 1, .int 1, .ref f, .int 0, .int (-1), .null, .int (-1), .null])), ((qs 3), .inr (4, [.int 3, .int 1, .ref f, .int 0, .int (-1), .null, .int (-1), .null]))]) (w1 := [((qs 4), .inr (4, [.int 4, .int 1, .ref f, .int 0, .int (-1), .null, .int (-1), .null]))]) hP hD [7] [0, 1, 2, 3, 4, 5, 6, 8, 9] rfl rfl (by decide) (by decide) hk1 hFc hP1 hD1
              generalize H1 = H at hP hS ⊢
              have hP : va_P D vwCl [(x, .inr (5, [.ref a1, .ref a2, .ref a3, .ref a4])), (a1, wT tC 5 fs), (a4, wS tC 5 (va_up (va_up (va_up (va_up gf 0 none) 1 (some f)) 2 none) 3 (some f))), (f, .inr (3, [.ref e1, .ref e2, .int 5, .int 0])), (e1, wI tC 0 z1), ((qs 0), .inr (4, [.int 0, .int 1, .ref f, .int 0, .int (-1), .null, .int (-1), .null])), ((qs 2), .inr (4, [.int 2, .int 1, .ref f, .int 0, .int (-1), .null, .int (-1), .null])), ((qs 1), .inr (4, [.int 1, .int 1, .ref f, .int 0, .int (-1), .null, .int (-1), .null])), ((qs 3), .inr (4, [.int 3, .int 1, .ref f, .int 0, .int (-1), .null, .int (-1), .null])), ((qs 4), .inr (4, [.int 4, .int 1, .ref f, .int 0, .int (-1), .null, .int (-1), .null]))] H := hP
              have hD : va_D A [(x, .inr (5, [.ref a1, .ref a2, .ref a3, .ref a4])), (a1, wT tC 5 fs), (a4, wS tC 5 (va_up (va_up (va_up (va_up gf 0 none) 1 (some f)) 2 none) 3 (some f))), (f, .inr (3, [.ref e1, .ref e2, .int 5, .int 0])), (e1, wI tC 0 z1), ((qs 0), .inr (4, [.int 0, .int 1, .ref f, .int 0, .int (-1), .null, .int (-1), .null])), ((qs 2), .inr (4, [.int 2, .int 1, .ref f, .int 0, .int (-1), .null, .int (-1), .null])), ((qs 1), .inr (4, [.int 1, .int 1, .ref f, .int 0, .int (-1), .null, .int (-1), .null])), ((qs 3), .inr (4, [.int 3, .int 1, .ref f, .int 0, .int (-1), .null, .int (-1), .null])), ((qs 4), .inr (4, [.int 4, .int 1, .ref f, .int 0, .int (-1), .null, .int (-1), .null]))] := hD
              subst hw_106
              refine lv_if_ne (tgt := 58) hx hb dX4_allowed_53 (by decide) (fun _ => ?_) (fun hc => absurd hc (by decide))
              refine lv_aload_n hx hb dX4_allowed_58 rfl (lv_at hl 2 rfl) ?_
              refine va_get (D := D) (ci := 5) (v := .ref a4) (C := RX4) (T := TX4) (N := 4) hx hb hts in_X4_allowed_X4 hown hK hP 0 rfl rfl 3 (by decide) w_0 (fun _ h9 => h9) rfl dX4_allowed_59 ?_
              refine lv_iload_n hx hb dX4_allowed_62 rfl (lv_at hl 1 rfl) ?_
              refine lv_iload_n hx hb dX4_allowed_63 rfl (lv_at hl 0 rfl) ?_
              refine lv_if_eq (tgt := 79) hx hb dX4_allowed_64 (by decide) (fun hc => absurd hc (by decide)) (fun _ => ?_)
              refine lv_aload_n hx hb dX4_allowed_67 rfl (lv_at hl 2 rfl) ?_
              refine va_get (D := D) (ci := 5) (v := .ref a1) (C := RX4) (T := TX4) (N := 4) hx hb hts in_X4_allowed_X4 hown hK hP 0 rfl rfl 0 (by decide) w_1 (fun _ h9 => h9) rfl dX4_allowed_68 ?_
              refine lv_iload_n hx hb dX4_allowed_71 rfl (lv_at hl 1 rfl) ?_
              refine va_aldq hx hb hK hP 1 3 rfl rfl (by unfold vp_in; decide) dX4_allowed_72 ?_
              rw [show fs (4 : Int32).toNatClampNeg = some (qs 4) from (by rw [show (4 : Int32).toNatClampNeg = 4 by decide]; exact hfs 4 (by decide))]
              refine W.eq (g2 := F0 m 73 ls [.ref (qs 4), .int 4, .ref a4]) rfl ?_
              refine va_getN (host := "NoticeStations") (D := D) (ci := 4) (v := .ref f) (C := RX3) (T := TX3) (N := 8) hx hb hts in_X4_allowed_X3 hown hK hP 9 rfl rfl 2 (by decide) (va_Nw.use rfl (hN.1 (.fieldLinkNest "NoticeStations" 61 "NoticeStations$Station" "stored" "LNoticeStations$Standing;" "NoticeStations") (by decide +kernel))) (fun _ h9 => h9) rfl dX4_allowed_73 ?_
              refine lv_goto (tgt := 80) hx hb dX4_allowed_76 (by decide) ?_
              refine va_astq hx hb hK hP hD hS 2 2 3 3 rfl rfl rfl rfl (by unfold vp_in; decide) dX4_allowed_80 (fun H locs hP hD hS => ?_)
              have hP : va_P D vwCl [(x, .inr (5, [.ref a1, .ref a2, .ref a3, .ref a4])), (a1, wT tC 5 fs), (a4, wS tC 5 (va_up (va_up (va_up (va_up (va_up gf 0 none) 1 (some f)) 2 none) 3 (some f)) 4 (some f))), (f, .inr (3, [.ref e1, .ref e2, .int 5, .int 0])), (e1, wI tC 0 z1), ((qs 0), .inr (4, [.int 0, .int 1, .ref f, .int 0, .int (-1), .null, .int (-1), .null])), ((qs 2), .inr (4, [.int 2, .int 1, .ref f, .int 0, .int (-1), .null, .int (-1), .null])), ((qs 1), .inr (4, [.int 1, .int 1, .ref f, .int 0, .int (-1), .null, .int (-1), .null])), ((qs 3), .inr (4, [.int 3, .int 1, .ref f, .int 0, .int (-1), .null, .int (-1), .null])), ((qs 4), .inr (4, [.int 4, .int 1, .ref f, .int 0, .int (-1), .null, .int (-1), .null]))] H := hP
              have hD : va_D A [(x, .inr (5, [.ref a1, .ref a2, .ref a3, .ref a4])), (a1, wT tC 5 fs), (a4, wS tC 5 (va_up (va_up (va_up (va_up (va_up gf 0 none) 1 (some f)) 2 none) 3 (some f)) 4 (some f))), (f, .inr (3, [.ref e1, .ref e2, .int 5, .int 0])), (e1, wI tC 0 z1), ((qs 0), .inr (4, [.int 0, .int 1, .ref f, .int 0, .int (-1), .null, .int (-1), .null])), ((qs 2), .inr (4, [.int 2, .int 1, .ref f, .int 0, .int (-1), .null, .int (-1), .null])), ((qs 1), .inr (4, [.int 1, .int 1, .ref f, .int 0, .int (-1), .null, .int (-1), .null])), ((qs 3), .inr (4, [.int 3, .int 1, .ref f, .int 0, .int (-1), .null, .int (-1), .null])), ((qs 4), .inr (4, [.int 4, .int 1, .ref f, .int 0, .int (-1), .null, .int (-1), .null]))] := hD
              refine lv_iinc (v := 5) (lv' := [(2, .int 5), (3, .int 1), (0, .ref x), (1, .int p0)]) hx hb dX4_allowed_81 hl (k := 1) rfl (by decide) (by decide) rfl (fun ls hl => ?_)
              refine lv_goto (tgt := 21) hx hb dX4_allowed_84 (by decide) ?_
              refine lv_iload_n hx hb dX4_allowed_21 rfl (lv_at hl 0 rfl) ?_
              refine lv_iconst (v := 5) hx hb dX4_allowed_22 (by decide) ?_
              refine lv_icmp_ge (tgt := 87) hx hb dX4_allowed_23 (by decide) (fun _ => ?_) (fun hc => absurd (by decide) hc)
              refine lv_aload_n hx hb dX4_allowed_87 rfl (lv_at hl 2 rfl) ?_
              refine va_get (D := D) (ci := 5) (v := .ref a4) (C := RX4) (T := TX4) (N := 4) hx hb hts in_X4_allowed_X4 hown hK hP 0 rfl rfl 3 (by decide) w_0 (fun _ h9 => h9) rfl dX4_allowed_88 ?_
              have hPc := hP.sub (ws' := [(a4, wS tC 5 (va_up (va_up (va_up (va_up (va_up gf 0 none) 1 (some f)) 2 none) 3 (some f)) 4 (some f))), (f, .inr (3, [.ref e1, .ref e2, .int 5, .int 0])), (e1, wI tC 0 z1)]) [2, 3, 4] rfl
              have hDc := hD.sub (ws' := [(a4, wS tC 5 (va_up (va_up (va_up (va_up (va_up gf 0 none) 1 (some f)) 2 none) 3 (some f)) 4 (some f))), (f, .inr (3, [.ref e1, .ref e2, .int 5, .int 0])), (e1, wI tC 0 z1)]) [2, 3, 4] (by decide) rfl
              have hFc := va_free (wc := [(a4, wS tC 5 (va_up (va_up (va_up (va_up (va_up gf 0 none) 1 (some f)) 2 none) 3 (some f)) 4 (some f))), (f, .inr (3, [.ref e1, .ref e2, .int 5, .int 0])), (e1, wI tC 0 z1)]) hD hS hA [2, 3, 4] rfl
              refine va_callq (va_runS (As := [.ref a4]) (rest := []) ⟨hx, hb, hml, hown, hts⟩ (c_X4_heldByHolders l hlt D tC dz H.size a4 (va_up (va_up (va_up (va_up (va_up gf 0 none) 1 (some f)) 2 none) 3 (some f)) 4 (some f)) (bqb p0) f e1 e2 z1 (by intro j hj; rcases (show j = 0 ∨ j = 1 ∨ j = 2 ∨ j = 3 ∨ j = 4 by omega) with rfl | rfl | rfl | rfl | rfl <;> simp [va_up, hb0, hb1, hb2, hb3, hb4])) (va_cwS 1 hts gX4_allowed_X4_heldByHolders rfl rfl rfl (by decide +kernel) ⟨Nat.le_of_ble_eq_true rfl, Nat.le_of_ble_eq_true rfl⟩) ⟨pB_blind, pB_at hPc hDc hK hN hE hS hFc⟩ rfl rfl hl.1 rfl (lv_room (Nat.le_of_ble_eq_true rfl)) dX4_allowed_91 ⟨Nat.le_of_ble_eq_true rfl, Nat.le_of_ble_eq_true rfl⟩) hS (fun q _ h => hFc q h) hFc (fun r_107 u t H1 locs ht hvm hw hB hz1 hk1 hS => ?_)
              obtain ⟨hP1, _, hD1⟩ := hB
              have hw_108 := hw
              rw [ht] at hP1
              obtain ⟨hP, hD⟩ := va_join (wr := [(x, .inr (5, [.ref a1, .ref a2, .ref a3, .ref a4])), (a1, wT tC 5 fs), ((qs 0), .inr (4, [.int 0, .int 1, .ref f, .int 0, .int (-1), .null, .int (-1), .null])), ((qs 2), .inr (4, [.int 2, .int 1, .ref f, .int 0, .int (-1), .null, .int (-1), .null])), ((qs 1), .inr (4, [.int 1, .int 1, .ref f, .int 0, .int (-1), .null, .int (-1), .null])), ((qs 3), .inr (4, [.int 3, .int 1, .ref f, .int 0, .int (-1), .null, .int (-1), .null])), ((qs 4), .inr (4, [.int 4, .int 1, .ref f, .int 0, .int (-1), .null, .int (-1), .null]))]) (w1 := [(a4, wS tC 5 (va_up (va_up (va_up (va_up (va_up gf 0 none) 1 (some f)) 2 none) 3 (some f)) 4 (some f))), (f, .inr (3, [.ref e1, .ref e2, .int 5, .int 0])), (e1, wI tC 0 z1)]) hP hD [2, 3, 4] [0, 1, 5, 6, 7, 8, 9] rfl rfl (by decide) (by decide) hk1 hFc hP1 hD1
              generalize H1 = H at hP hS ⊢
              have hP : va_P D vwCl [(x, .inr (5, [.ref a1, .ref a2, .ref a3, .ref a4])), (a1, wT tC 5 fs), ((qs 0), .inr (4, [.int 0, .int 1, .ref f, .int 0, .int (-1), .null, .int (-1), .null])), ((qs 2), .inr (4, [.int 2, .int 1, .ref f, .int 0, .int (-1), .null, .int (-1), .null])), ((qs 1), .inr (4, [.int 1, .int 1, .ref f, .int 0, .int (-1), .null, .int (-1), .null])), ((qs 3), .inr (4, [.int 3, .int 1, .ref f, .int 0, .int (-1), .null, .int (-1), .null])), ((qs 4), .inr (4, [.int 4, .int 1, .ref f, .int 0, .int (-1), .null, .int (-1), .null])), (a4, wS tC 5 (va_up (va_up (va_up (va_up (va_up gf 0 none) 1 (some f)) 2 none) 3 (some f)) 4 (some f))), (f, .inr (3, [.ref e1, .ref e2, .int 5, .int 0])), (e1, wI tC 0 z1)] H := hP
              have hD : va_D A [(x, .inr (5, [.ref a1, .ref a2, .ref a3, .ref a4])), (a1, wT tC 5 fs), ((qs 0), .inr (4, [.int 0, .int 1, .ref f, .int 0, .int (-1), .null, .int (-1), .null])), ((qs 2), .inr (4, [.int 2, .int 1, .ref f, .int 0, .int (-1), .null, .int (-1), .null])), ((qs 1), .inr (4, [.int 1, .int 1, .ref f, .int 0, .int (-1), .null, .int (-1), .null])), ((qs 3), .inr (4, [.int 3, .int 1, .ref f, .int 0, .int (-1), .null, .int (-1), .null])), ((qs 4), .inr (4, [.int 4, .int 1, .ref f, .int 0, .int (-1), .null, .int (-1), .null])), (a4, wS tC 5 (va_up (va_up (va_up (va_up (va_up gf 0 none) 1 (some f)) 2 none) 3 (some f)) 4 (some f))), (f, .inr (3, [.ref e1, .ref e2, .int 5, .int 0])), (e1, wI tC 0 z1)] := hD
              have q1 : r_107 = some f := hw_108.trans (by rw [hb0, hb1, hb2, hb3, hb4] <;> rfl)
              subst q1
              refine W.eq (g2 := F0 m 94 ls [.ref f]) rfl ?_
              refine lv_astore_n (lv' := [(2, .ref f), (3, .int 1), (0, .ref x), (1, .int p0)]) hx hb dX4_allowed_94 rfl hl (by decide) rfl (fun ls hl => ?_)
              refine lv_aload_n hx hb dX4_allowed_95 rfl (lv_at hl 0 rfl) ?_
              refine lv_ifnull hx hb dX4_allowed_96 ?_
              refine lv_aload_n hx hb dX4_allowed_99 rfl (lv_at hl 2 rfl) ?_
              refine va_get (D := D) (ci := 5) (v := .ref a4) (C := RX4) (T := TX4) (N := 4) hx hb hts in_X4_allowed_X4 hown hK hP 0 rfl rfl 3 (by decide) w_0 (fun _ h9 => h9) rfl dX4_allowed_100 ?_
              refine lv_aload_n hx hb dX4_allowed_103 rfl (lv_at hl 0 rfl) ?_
              have hPc := hP.sub (ws' := [(a4, wS tC 5 (va_up (va_up (va_up (va_up (va_up gf 0 none) 1 (some f)) 2 none) 3 (some f)) 4 (some f))), (f, .inr (3, [.ref e1, .ref e2, .int 5, .int 0])), (e1, wI tC 0 z1)]) [7, 8, 9] rfl
              have hDc := hD.sub (ws' := [(a4, wS tC 5 (va_up (va_up (va_up (va_up (va_up gf 0 none) 1 (some f)) 2 none) 3 (some f)) 4 (some f))), (f, .inr (3, [.ref e1, .ref e2, .int 5, .int 0])), (e1, wI tC 0 z1)]) [7, 8, 9] (by decide) rfl
              have hFc := va_free (wc := [(a4, wS tC 5 (va_up (va_up (va_up (va_up (va_up gf 0 none) 1 (some f)) 2 none) 3 (some f)) 4 (some f))), (f, .inr (3, [.ref e1, .ref e2, .int 5, .int 0])), (e1, wI tC 0 z1)]) hD hS hA [7, 8, 9] rfl
              refine va_calli (va_runS (As := [.ref a4, .ref f]) (rest := []) ⟨hx, hb, hml, hown, hts⟩ (c_X4_mayGoOn l hlt D tC dz H.size a4 (va_up (va_up (va_up (va_up (va_up gf 0 none) 1 (some f)) 2 none) 3 (some f)) 4 (some f)) (bqb p0) f e1 e2 z1 (by intro j hj; rcases (show j = 0 ∨ j = 1 ∨ j = 2 ∨ j = 3 ∨ j = 4 by omega) with rfl | rfl | rfl | rfl | rfl <;> simp [va_up, hb0, hb1, hb2, hb3, hb4])) (va_cwS 2 hts gX4_allowed_X4_mayGoOn rfl rfl rfl (by decide +kernel) ⟨Nat.le_of_ble_eq_true rfl, Nat.le_of_ble_eq_true rfl⟩) ⟨pB_blind, pB_at hPc hDc hK hN hE hS hFc⟩ rfl rfl hl.1 rfl (lv_room (Nat.le_of_ble_eq_true rfl)) dX4_allowed_104 ⟨Nat.le_of_ble_eq_true rfl, Nat.le_of_ble_eq_true rfl⟩) hS (fun q _ h => hFc q h) hFc (fun r_109 u t H1 locs ht hvm hw hB hz1 hk1 hS => ?_)
              obtain ⟨hP1, _, hD1⟩ := hB
              have hw_110 := hw
              rw [ht] at hP1
              obtain ⟨hP, hD⟩ := va_join (wr := [(x, .inr (5, [.ref a1, .ref a2, .ref a3, .ref a4])), (a1, wT tC 5 fs), ((qs 0), .inr (4, [.int 0, .int 1, .ref f, .int 0, .int (-1), .null, .int (-1), .null])), ((qs 2), .inr (4, [.int 2, .int 1, .ref f, .int 0, .int (-1), .null, .int (-1), .null])), ((qs 1), .inr (4, [.int 1, .int 1, .ref f, .int 0, .int (-1), .null, .int (-1), .null])), ((qs 3), .inr (4, [.int 3, .int 1, .ref f, .int 0, .int (-1), .null, .int (-1), .null])), ((qs 4), .inr (4, [.int 4, .int 1, .ref f, .int 0, .int (-1), .null, .int (-1), .null]))]) (w1 := [(a4, wS tC 5 (va_up (va_up (va_up (va_up (va_up gf 0 none) 1 (some f)) 2 none) 3 (some f)) 4 (some f))), (f, .inr (3, [.ref e1, .ref e2, .int 5, .int 0])), (e1, wI tC 0 z1)]) hP hD [7, 8, 9] [0, 1, 2, 3, 4, 5, 6] rfl rfl (by decide) (by decide) hk1 hFc hP1 hD1
              generalize H1 = H at hP hS ⊢
              have hP : va_P D vwCl [(x, .inr (5, [.ref a1, .ref a2, .ref a3, .ref a4])), (a1, wT tC 5 fs), ((qs 0), .inr (4, [.int 0, .int 1, .ref f, .int 0, .int (-1), .null, .int (-1), .null])), ((qs 2), .inr (4, [.int 2, .int 1, .ref f, .int 0, .int (-1), .null, .int (-1), .null])), ((qs 1), .inr (4, [.int 1, .int 1, .ref f, .int 0, .int (-1), .null, .int (-1), .null])), ((qs 3), .inr (4, [.int 3, .int 1, .ref f, .int 0, .int (-1), .null, .int (-1), .null])), ((qs 4), .inr (4, [.int 4, .int 1, .ref f, .int 0, .int (-1), .null, .int (-1), .null])), (a4, wS tC 5 (va_up (va_up (va_up (va_up (va_up gf 0 none) 1 (some f)) 2 none) 3 (some f)) 4 (some f))), (f, .inr (3, [.ref e1, .ref e2, .int 5, .int 0])), (e1, wI tC 0 z1)] H := hP
              have hD : va_D A [(x, .inr (5, [.ref a1, .ref a2, .ref a3, .ref a4])), (a1, wT tC 5 fs), ((qs 0), .inr (4, [.int 0, .int 1, .ref f, .int 0, .int (-1), .null, .int (-1), .null])), ((qs 2), .inr (4, [.int 2, .int 1, .ref f, .int 0, .int (-1), .null, .int (-1), .null])), ((qs 1), .inr (4, [.int 1, .int 1, .ref f, .int 0, .int (-1), .null, .int (-1), .null])), ((qs 3), .inr (4, [.int 3, .int 1, .ref f, .int 0, .int (-1), .null, .int (-1), .null])), ((qs 4), .inr (4, [.int 4, .int 1, .ref f, .int 0, .int (-1), .null, .int (-1), .null])), (a4, wS tC 5 (va_up (va_up (va_up (va_up (va_up gf 0 none) 1 (some f)) 2 none) 3 (some f)) 4 (some f))), (f, .inr (3, [.ref e1, .ref e2, .int 5, .int 0])), (e1, wI tC 0 z1)] := hD
              have q1 : r_109 = 1 := hw_110.trans (by unfold mayg cntb; rw [hb0, hb1, hb2, hb3, hb4] <;> decide)
              subst q1
              refine lv_if_eq (tgt := 114) hx hb dX4_allowed_107 (by decide) (fun hc => absurd hc (by decide)) (fun _ => ?_)
              refine lv_iconst (v := 1) hx hb dX4_allowed_110 (by decide) ?_
              refine lv_goto (tgt := 115) hx hb dX4_allowed_111 (by decide) ?_
              have hP9 := hP.sub (ws' := []) [] rfl
              have hD9 := hD.sub (ws' := []) [] (by decide) rfl
              refine W.widen (k := 1) (n := 6) (by omega) (by omega) ?_
              exact vx_ret (W.zret (v := 1) hx hb hr (by decide) (fun t ht hW => ⟨⟨1, (), rfl, ⟨(by unfold mayg cntb; rw [hb0, hb1, hb2, hb3, hb4] <;> decide), bl1 hw_2 c_3⟩, (by rw [ht]; exact hP9), va_K.moved hW.alike hK, hD9⟩, hS.F ht⟩) hS.2.2 dX4_allowed_115 hlocks)
        · skip
          have hb2 : bqb p0 2 = true := bqT (fun h => c_79 (ez_78.trans h))
          refine lv_iconst (v := 1) hx hb dX4_allowed_34 (by decide) ?_
          refine lv_goto (tgt := 39) hx hb dX4_allowed_35 (by decide) ?_
          refine lv_istore_n (lv' := [(3, .int 1), (2, .int 2), (0, .ref x), (1, .int p0)]) hx hb dX4_allowed_39 rfl hl (by decide) rfl (fun ls hl => ?_)
          refine lv_iload_n hx hb dX4_allowed_40 rfl (lv_at hl 0 rfl) ?_
          refine lv_if_eq (tgt := 58) hx hb dX4_allowed_41 (by decide) (fun hc => absurd hc (by decide)) (fun _ => ?_)
          refine lv_aload_n hx hb dX4_allowed_44 rfl (lv_at hl 2 rfl) ?_
          refine va_get (D := D) (ci := 5) (v := .ref a1) (C := RX4) (T := TX4) (N := 4) hx hb hts in_X4_allowed_X4 hown hK hP 0 rfl rfl 0 (by decide) w_1 (fun _ h9 => h9) rfl dX4_allowed_45 ?_
          refine lv_iload_n hx hb dX4_allowed_48 rfl (lv_at hl 1 rfl) ?_
          refine va_aldq hx hb hK hP 1 3 rfl rfl (by unfold vp_in; decide) dX4_allowed_49 ?_
          rw [show fs (2 : Int32).toNatClampNeg = some (qs 2) from (by rw [show (2 : Int32).toNatClampNeg = 2 by decide]; exact hfs 2 (by decide))]
          refine W.eq (g2 := F0 m 50 ls [.ref (qs 2)]) rfl ?_
          have hPc := hP.sub (ws' := [((qs 2), .inr (4, [.int 2, .int 1, .ref f, .int 0, .int (-1), .null, .int (-1), .null]))]) [6] rfl
          have hDc := hD.sub (ws' := [((qs 2), .inr (4, [.int 2, .int 1, .ref f, .int 0, .int (-1), .null, .int (-1), .null]))]) [6] (by decide) rfl
          have hFc := va_free (wc := [((qs 2), .inr (4, [.int 2, .int 1, .ref f, .int 0, .int (-1), .null, .int (-1), .null]))]) hD hS hA [6] rfl
          refine va_calli (va_runVN (As := []) (rest := []) ⟨hx, hb, hml, hown, hts⟩ (c_X3_isFree l hlt D tC dz H.size f (qs 2) 2 ) ⟨(va_cnB (host := "NoticeStations") 0 hts gX4_allowed_X3_isFree_n240 rfl rfl rfl (hN.1 (.methodLinkNest "NoticeStations" 240 ⟨"NoticeStations$Station", "isFree", "()Z"⟩ "NoticeStations") (by decide +kernel)) w_2 (by decide +kernel) ⟨Nat.le_of_ble_eq_true rfl, Nat.le_of_ble_eq_true rfl⟩), w_3, w_4⟩ ⟨pB_blind, va_recv hK hPc (ci := 4) (q0 := 0) rfl rfl, pB_at hPc hDc hK hN hE hS hFc⟩ rfl rfl hl.1 rfl (lv_room (Nat.le_of_ble_eq_true rfl)) dX4_allowed_50 ⟨Nat.le_of_ble_eq_true rfl, Nat.le_of_ble_eq_true rfl⟩) hS (fun q _ h => hFc q h) hFc (fun r_111 u t H1 locs ht hvm hw hB hz1 hk1 hS => ?_)
          obtain ⟨hP1, _, hD1⟩ := hB
          have hw_112 := hw
          rw [ht] at hP1
          obtain ⟨hP, hD⟩ := va_join (wr := [(x, .inr (5, [.ref a1, .ref a2, .ref a3, .ref a4])), (a1, wT tC 5 fs), (a4, wS tC 5 (va_up (va_up gf 0 none) 1 (some f))), (f, .inr (3, [.ref e1, .ref e2, .int 5, .int 0])), (e1, wI tC 0 z1), ((qs 0), .inr (4, [.int 0, .int 1, .ref f, .int 0, .int (-1), .null, .int (-1), .null])), ((qs 3), .inr (4, [.int 3, .int 1, .ref f, .int 0, .int (-1), .null, .int (-1), .null])), ((qs 4), .inr (4, [.int 4, .int 1, .ref f, .int 0, .int (-1), .null, .int (-1), .null])), ((qs 1), .inr (4, [.int 1, .int 1, .ref f, .int 0, .int (-1), .null, .int (-1), .null]))]) (w1 := [((qs 2), .inr (4, [.int 2, .int 1, .ref f, .int 0, .int (-1), .null, .int (-1), .null]))]) hP hD [6] [0, 1, 2, 3, 4, 5, 7, 8, 9] rfl rfl (by decide) (by decide) hk1 hFc hP1 hD1
          generalize H1 = H at hP hS ⊢
          have hP : va_P D vwCl [(x, .inr (5, [.ref a1, .ref a2, .ref a3, .ref a4])), (a1, wT tC 5 fs), (a4, wS tC 5 (va_up (va_up gf 0 none) 1 (some f))), (f, .inr (3, [.ref e1, .ref e2, .int 5, .int 0])), (e1, wI tC 0 z1), ((qs 0), .inr (4, [.int 0, .int 1, .ref f, .int 0, .int (-1), .null, .int (-1), .null])), ((qs 3), .inr (4, [.int 3, .int 1, .ref f, .int 0, .int (-1), .null, .int (-1), .null])), ((qs 4), .inr (4, [.int 4, .int 1, .ref f, .int 0, .int (-1), .null, .int (-1), .null])), ((qs 1), .inr (4, [.int 1, .int 1, .ref f, .int 0, .int (-1), .null, .int (-1), .null])), ((qs 2), .inr (4, [.int 2, .int 1, .ref f, .int 0, .int (-1), .null, .int (-1), .null]))] H := hP
          have hD : va_D A [(x, .inr (5, [.ref a1, .ref a2, .ref a3, .ref a4])), (a1, wT tC 5 fs), (a4, wS tC 5 (va_up (va_up gf 0 none) 1 (some f))), (f, .inr (3, [.ref e1, .ref e2, .int 5, .int 0])), (e1, wI tC 0 z1), ((qs 0), .inr (4, [.int 0, .int 1, .ref f, .int 0, .int (-1), .null, .int (-1), .null])), ((qs 3), .inr (4, [.int 3, .int 1, .ref f, .int 0, .int (-1), .null, .int (-1), .null])), ((qs 4), .inr (4, [.int 4, .int 1, .ref f, .int 0, .int (-1), .null, .int (-1), .null])), ((qs 1), .inr (4, [.int 1, .int 1, .ref f, .int 0, .int (-1), .null, .int (-1), .null])), ((qs 2), .inr (4, [.int 2, .int 1, .ref f, .int 0, .int (-1), .null, .int (-1), .null]))] := hD
          subst hw_112
          refine lv_if_ne (tgt := 58) hx hb dX4_allowed_53 (by decide) (fun _ => ?_) (fun hc => absurd hc (by decide))
          refine lv_aload_n hx hb dX4_allowed_58 rfl (lv_at hl 2 rfl) ?_
          refine va_get (D := D) (ci := 5) (v := .ref a4) (C := RX4) (T := TX4) (N := 4) hx hb hts in_X4_allowed_X4 hown hK hP 0 rfl rfl 3 (by decide) w_0 (fun _ h9 => h9) rfl dX4_allowed_59 ?_
          refine lv_iload_n hx hb dX4_allowed_62 rfl (lv_at hl 1 rfl) ?_
          refine lv_iload_n hx hb dX4_allowed_63 rfl (lv_at hl 0 rfl) ?_
          refine lv_if_eq (tgt := 79) hx hb dX4_allowed_64 (by decide) (fun hc => absurd hc (by decide)) (fun _ => ?_)
          refine lv_aload_n hx hb dX4_allowed_67 rfl (lv_at hl 2 rfl) ?_
          refine va_get (D := D) (ci := 5) (v := .ref a1) (C := RX4) (T := TX4) (N := 4) hx hb hts in_X4_allowed_X4 hown hK hP 0 rfl rfl 0 (by decide) w_1 (fun _ h9 => h9) rfl dX4_allowed_68 ?_
          refine lv_iload_n hx hb dX4_allowed_71 rfl (lv_at hl 1 rfl) ?_
          refine va_aldq hx hb hK hP 1 3 rfl rfl (by unfold vp_in; decide) dX4_allowed_72 ?_
          rw [show fs (2 : Int32).toNatClampNeg = some (qs 2) from (by rw [show (2 : Int32).toNatClampNeg = 2 by decide]; exact hfs 2 (by decide))]
          refine W.eq (g2 := F0 m 73 ls [.ref (qs 2), .int 2, .ref a4]) rfl ?_
          refine va_getN (host := "NoticeStations") (D := D) (ci := 4) (v := .ref f) (C := RX3) (T := TX3) (N := 8) hx hb hts in_X4_allowed_X3 hown hK hP 9 rfl rfl 2 (by decide) (va_Nw.use rfl (hN.1 (.fieldLinkNest "NoticeStations" 61 "NoticeStations$Station" "stored" "LNoticeStations$Standing;" "NoticeStations") (by decide +kernel))) (fun _ h9 => h9) rfl dX4_allowed_73 ?_
          refine lv_goto (tgt := 80) hx hb dX4_allowed_76 (by decide) ?_
          refine va_astq hx hb hK hP hD hS 2 2 3 3 rfl rfl rfl rfl (by unfold vp_in; decide) dX4_allowed_80 (fun H locs hP hD hS => ?_)
          have hP : va_P D vwCl [(x, .inr (5, [.ref a1, .ref a2, .ref a3, .ref a4])), (a1, wT tC 5 fs), (a4, wS tC 5 (va_up (va_up (va_up gf 0 none) 1 (some f)) 2 (some f))), (f, .inr (3, [.ref e1, .ref e2, .int 5, .int 0])), (e1, wI tC 0 z1), ((qs 0), .inr (4, [.int 0, .int 1, .ref f, .int 0, .int (-1), .null, .int (-1), .null])), ((qs 3), .inr (4, [.int 3, .int 1, .ref f, .int 0, .int (-1), .null, .int (-1), .null])), ((qs 4), .inr (4, [.int 4, .int 1, .ref f, .int 0, .int (-1), .null, .int (-1), .null])), ((qs 1), .inr (4, [.int 1, .int 1, .ref f, .int 0, .int (-1), .null, .int (-1), .null])), ((qs 2), .inr (4, [.int 2, .int 1, .ref f, .int 0, .int (-1), .null, .int (-1), .null]))] H := hP
          have hD : va_D A [(x, .inr (5, [.ref a1, .ref a2, .ref a3, .ref a4])), (a1, wT tC 5 fs), (a4, wS tC 5 (va_up (va_up (va_up gf 0 none) 1 (some f)) 2 (some f))), (f, .inr (3, [.ref e1, .ref e2, .int 5, .int 0])), (e1, wI tC 0 z1), ((qs 0), .inr (4, [.int 0, .int 1, .ref f, .int 0, .int (-1), .null, .int (-1), .null])), ((qs 3), .inr (4, [.int 3, .int 1, .ref f, .int 0, .int (-1), .null, .int (-1), .null])), ((qs 4), .inr (4, [.int 4, .int 1, .ref f, .int 0, .int (-1), .null, .int (-1), .null])), ((qs 1), .inr (4, [.int 1, .int 1, .ref f, .int 0, .int (-1), .null, .int (-1), .null])), ((qs 2), .inr (4, [.int 2, .int 1, .ref f, .int 0, .int (-1), .null, .int (-1), .null]))] := hD
          refine lv_iinc (v := 3) (lv' := [(2, .int 3), (3, .int 1), (0, .ref x), (1, .int p0)]) hx hb dX4_allowed_81 hl (k := 1) rfl (by decide) (by decide) rfl (fun ls hl => ?_)
          refine lv_goto (tgt := 21) hx hb dX4_allowed_84 (by decide) ?_
          refine lv_iload_n hx hb dX4_allowed_21 rfl (lv_at hl 0 rfl) ?_
          refine lv_iconst (v := 5) hx hb dX4_allowed_22 (by decide) ?_
          refine lv_icmp_ge (tgt := 87) hx hb dX4_allowed_23 (by decide) (fun hc => absurd hc (by decide)) (fun _ => ?_)
          refine lv_iload_n hx hb dX4_allowed_26 rfl (lv_at hl 3 rfl) ?_
          refine lv_iconst (v := 1) hx hb dX4_allowed_27 (by decide) ?_
          refine lv_iload_n hx hb dX4_allowed_28 rfl (lv_at hl 0 rfl) ?_
          refine lv_ishl hx hb dX4_allowed_29 ?_
          refine lv_topi (fun z_113 ez_113 => ?_)
          have fz_113 : z_113 = 8 := ez_113.trans (by decide)
          subst fz_113
          refine lv_iand hx hb dX4_allowed_30 ?_
          refine lv_topi (fun z_114 ez_114 => ?_)
          refine lv_if_eq (tgt := 38) hx hb dX4_allowed_31 (by decide) (fun c_115 => ?_) (fun c_115 => ?_)
          · skip
            have hb3 : bqb p0 3 = false := bqF (ez_114.symm.trans c_115)
            refine lv_iconst (v := 0) hx hb dX4_allowed_38 (by decide) ?_
            refine lv_istore_n (lv' := [(3, .int 0), (2, .int 3), (0, .ref x), (1, .int p0)]) hx hb dX4_allowed_39 rfl hl (by decide) rfl (fun ls hl => ?_)
            refine lv_iload_n hx hb dX4_allowed_40 rfl (lv_at hl 0 rfl) ?_
            refine lv_if_eq (tgt := 58) hx hb dX4_allowed_41 (by decide) (fun _ => ?_) (fun hc => absurd (by decide) hc)
            refine lv_aload_n hx hb dX4_allowed_58 rfl (lv_at hl 2 rfl) ?_
            refine va_get (D := D) (ci := 5) (v := .ref a4) (C := RX4) (T := TX4) (N := 4) hx hb hts in_X4_allowed_X4 hown hK hP 0 rfl rfl 3 (by decide) w_0 (fun _ h9 => h9) rfl dX4_allowed_59 ?_
            refine lv_iload_n hx hb dX4_allowed_62 rfl (lv_at hl 1 rfl) ?_
            refine lv_iload_n hx hb dX4_allowed_63 rfl (lv_at hl 0 rfl) ?_
            refine lv_if_eq (tgt := 79) hx hb dX4_allowed_64 (by decide) (fun _ => ?_) (fun hc => absurd (by decide) hc)
            refine lv_null hx hb dX4_allowed_79 ?_
            refine va_astqN hx hb hK hP hD hS 2 2 rfl rfl (by unfold vp_in; decide) dX4_allowed_80 (fun H locs hP hD hS => ?_)
            have hP : va_P D vwCl [(x, .inr (5, [.ref a1, .ref a2, .ref a3, .ref a4])), (a1, wT tC 5 fs), (a4, wS tC 5 (va_up (va_up (va_up (va_up gf 0 none) 1 (some f)) 2 (some f)) 3 none)), (f, .inr (3, [.ref e1, .ref e2, .int 5, .int 0])), (e1, wI tC 0 z1), ((qs 0), .inr (4, [.int 0, .int 1, .ref f, .int 0, .int (-1), .null, .int (-1), .null])), ((qs 3), .inr (4, [.int 3, .int 1, .ref f, .int 0, .int (-1), .null, .int (-1), .null])), ((qs 4), .inr (4, [.int 4, .int 1, .ref f, .int 0, .int (-1), .null, .int (-1), .null])), ((qs 1), .inr (4, [.int 1, .int 1, .ref f, .int 0, .int (-1), .null, .int (-1), .null])), ((qs 2), .inr (4, [.int 2, .int 1, .ref f, .int 0, .int (-1), .null, .int (-1), .null]))] H := hP
            have hD : va_D A [(x, .inr (5, [.ref a1, .ref a2, .ref a3, .ref a4])), (a1, wT tC 5 fs), (a4, wS tC 5 (va_up (va_up (va_up (va_up gf 0 none) 1 (some f)) 2 (some f)) 3 none)), (f, .inr (3, [.ref e1, .ref e2, .int 5, .int 0])), (e1, wI tC 0 z1), ((qs 0), .inr (4, [.int 0, .int 1, .ref f, .int 0, .int (-1), .null, .int (-1), .null])), ((qs 3), .inr (4, [.int 3, .int 1, .ref f, .int 0, .int (-1), .null, .int (-1), .null])), ((qs 4), .inr (4, [.int 4, .int 1, .ref f, .int 0, .int (-1), .null, .int (-1), .null])), ((qs 1), .inr (4, [.int 1, .int 1, .ref f, .int 0, .int (-1), .null, .int (-1), .null])), ((qs 2), .inr (4, [.int 2, .int 1, .ref f, .int 0, .int (-1), .null, .int (-1), .null]))] := hD
            refine lv_iinc (v := 4) (lv' := [(2, .int 4), (3, .int 0), (0, .ref x), (1, .int p0)]) hx hb dX4_allowed_81 hl (k := 1) rfl (by decide) (by decide) rfl (fun ls hl => ?_)
            refine lv_goto (tgt := 21) hx hb dX4_allowed_84 (by decide) ?_
            refine lv_iload_n hx hb dX4_allowed_21 rfl (lv_at hl 0 rfl) ?_
            refine lv_iconst (v := 5) hx hb dX4_allowed_22 (by decide) ?_
            refine lv_icmp_ge (tgt := 87) hx hb dX4_allowed_23 (by decide) (fun hc => absurd hc (by decide)) (fun _ => ?_)
            refine lv_iload_n hx hb dX4_allowed_26 rfl (lv_at hl 3 rfl) ?_
            refine lv_iconst (v := 1) hx hb dX4_allowed_27 (by decide) ?_
            refine lv_iload_n hx hb dX4_allowed_28 rfl (lv_at hl 0 rfl) ?_
            refine lv_ishl hx hb dX4_allowed_29 ?_
            refine lv_topi (fun z_116 ez_116 => ?_)
            have fz_116 : z_116 = 16 := ez_116.trans (by decide)
            subst fz_116
            refine lv_iand hx hb dX4_allowed_30 ?_
            refine lv_topi (fun z_117 ez_117 => ?_)
            refine lv_if_eq (tgt := 38) hx hb dX4_allowed_31 (by decide) (fun c_118 => ?_) (fun c_118 => ?_)
            · skip
              have hb4 : bqb p0 4 = false := bqF (ez_117.symm.trans c_118)
              refine lv_iconst (v := 0) hx hb dX4_allowed_38 (by decide) ?_
              refine lv_istore_n (lv' := [(3, .int 0), (2, .int 4), (0, .ref x), (1, .int p0)]) hx hb dX4_allowed_39 rfl hl (by decide) rfl (fun ls hl => ?_)
              refine lv_iload_n hx hb dX4_allowed_40 rfl (lv_at hl 0 rfl) ?_
              refine lv_if_eq (tgt := 58) hx hb dX4_allowed_41 (by decide) (fun _ => ?_) (fun hc => absurd (by decide) hc)
              refine lv_aload_n hx hb dX4_allowed_58 rfl (lv_at hl 2 rfl) ?_
              refine va_get (D := D) (ci := 5) (v := .ref a4) (C := RX4) (T := TX4) (N := 4) hx hb hts in_X4_allowed_X4 hown hK hP 0 rfl rfl 3 (by decide) w_0 (fun _ h9 => h9) rfl dX4_allowed_59 ?_
              refine lv_iload_n hx hb dX4_allowed_62 rfl (lv_at hl 1 rfl) ?_
              refine lv_iload_n hx hb dX4_allowed_63 rfl (lv_at hl 0 rfl) ?_
              refine lv_if_eq (tgt := 79) hx hb dX4_allowed_64 (by decide) (fun _ => ?_) (fun hc => absurd (by decide) hc)
              refine lv_null hx hb dX4_allowed_79 ?_
              refine va_astqN hx hb hK hP hD hS 2 2 rfl rfl (by unfold vp_in; decide) dX4_allowed_80 (fun H locs hP hD hS => ?_)
              have hP : va_P D vwCl [(x, .inr (5, [.ref a1, .ref a2, .ref a3, .ref a4])), (a1, wT tC 5 fs), (a4, wS tC 5 (va_up (va_up (va_up (va_up (va_up gf 0 none) 1 (some f)) 2 (some f)) 3 none) 4 none)), (f, .inr (3, [.ref e1, .ref e2, .int 5, .int 0])), (e1, wI tC 0 z1), ((qs 0), .inr (4, [.int 0, .int 1, .ref f, .int 0, .int (-1), .null, .int (-1), .null])), ((qs 3), .inr (4, [.int 3, .int 1, .ref f, .int 0, .int (-1), .null, .int (-1), .null])), ((qs 4), .inr (4, [.int 4, .int 1, .ref f, .int 0, .int (-1), .null, .int (-1), .null])), ((qs 1), .inr (4, [.int 1, .int 1, .ref f, .int 0, .int (-1), .null, .int (-1), .null])), ((qs 2), .inr (4, [.int 2, .int 1, .ref f, .int 0, .int (-1), .null, .int (-1), .null]))] H := hP
              have hD : va_D A [(x, .inr (5, [.ref a1, .ref a2, .ref a3, .ref a4])), (a1, wT tC 5 fs), (a4, wS tC 5 (va_up (va_up (va_up (va_up (va_up gf 0 none) 1 (some f)) 2 (some f)) 3 none) 4 none)), (f, .inr (3, [.ref e1, .ref e2, .int 5, .int 0])), (e1, wI tC 0 z1), ((qs 0), .inr (4, [.int 0, .int 1, .ref f, .int 0, .int (-1), .null, .int (-1), .null])), ((qs 3), .inr (4, [.int 3, .int 1, .ref f, .int 0, .int (-1), .null, .int (-1), .null])), ((qs 4), .inr (4, [.int 4, .int 1, .ref f, .int 0, .int (-1), .null, .int (-1), .null])), ((qs 1), .inr (4, [.int 1, .int 1, .ref f, .int 0, .int (-1), .null, .int (-1), .null])), ((qs 2), .inr (4, [.int 2, .int 1, .ref f, .int 0, .int (-1), .null, .int (-1), .null]))] := hD
              refine lv_iinc (v := 5) (lv' := [(2, .int 5), (3, .int 0), (0, .ref x), (1, .int p0)]) hx hb dX4_allowed_81 hl (k := 1) rfl (by decide) (by decide) rfl (fun ls hl => ?_)
              refine lv_goto (tgt := 21) hx hb dX4_allowed_84 (by decide) ?_
              refine lv_iload_n hx hb dX4_allowed_21 rfl (lv_at hl 0 rfl) ?_
              refine lv_iconst (v := 5) hx hb dX4_allowed_22 (by decide) ?_
              refine lv_icmp_ge (tgt := 87) hx hb dX4_allowed_23 (by decide) (fun _ => ?_) (fun hc => absurd (by decide) hc)
              refine lv_aload_n hx hb dX4_allowed_87 rfl (lv_at hl 2 rfl) ?_
              refine va_get (D := D) (ci := 5) (v := .ref a4) (C := RX4) (T := TX4) (N := 4) hx hb hts in_X4_allowed_X4 hown hK hP 0 rfl rfl 3 (by decide) w_0 (fun _ h9 => h9) rfl dX4_allowed_88 ?_
              have hPc := hP.sub (ws' := [(a4, wS tC 5 (va_up (va_up (va_up (va_up (va_up gf 0 none) 1 (some f)) 2 (some f)) 3 none) 4 none)), (f, .inr (3, [.ref e1, .ref e2, .int 5, .int 0])), (e1, wI tC 0 z1)]) [2, 3, 4] rfl
              have hDc := hD.sub (ws' := [(a4, wS tC 5 (va_up (va_up (va_up (va_up (va_up gf 0 none) 1 (some f)) 2 (some f)) 3 none) 4 none)), (f, .inr (3, [.ref e1, .ref e2, .int 5, .int 0])), (e1, wI tC 0 z1)]) [2, 3, 4] (by decide) rfl
              have hFc := va_free (wc := [(a4, wS tC 5 (va_up (va_up (va_up (va_up (va_up gf 0 none) 1 (some f)) 2 (some f)) 3 none) 4 none)), (f, .inr (3, [.ref e1, .ref e2, .int 5, .int 0])), (e1, wI tC 0 z1)]) hD hS hA [2, 3, 4] rfl
              refine va_callq (va_runS (As := [.ref a4]) (rest := []) ⟨hx, hb, hml, hown, hts⟩ (c_X4_heldByHolders l hlt D tC dz H.size a4 (va_up (va_up (va_up (va_up (va_up gf 0 none) 1 (some f)) 2 (some f)) 3 none) 4 none) (bqb p0) f e1 e2 z1 (by intro j hj; rcases (show j = 0 ∨ j = 1 ∨ j = 2 ∨ j = 3 ∨ j = 4 by omega) with rfl | rfl | rfl | rfl | rfl <;> simp [va_up, hb0, hb1, hb2, hb3, hb4])) (va_cwS 1 hts gX4_allowed_X4_heldByHolders rfl rfl rfl (by decide +kernel) ⟨Nat.le_of_ble_eq_true rfl, Nat.le_of_ble_eq_true rfl⟩) ⟨pB_blind, pB_at hPc hDc hK hN hE hS hFc⟩ rfl rfl hl.1 rfl (lv_room (Nat.le_of_ble_eq_true rfl)) dX4_allowed_91 ⟨Nat.le_of_ble_eq_true rfl, Nat.le_of_ble_eq_true rfl⟩) hS (fun q _ h => hFc q h) hFc (fun r_119 u t H1 locs ht hvm hw hB hz1 hk1 hS => ?_)
              obtain ⟨hP1, _, hD1⟩ := hB
              have hw_120 := hw
              rw [ht] at hP1
              obtain ⟨hP, hD⟩ := va_join (wr := [(x, .inr (5, [.ref a1, .ref a2, .ref a3, .ref a4])), (a1, wT tC 5 fs), ((qs 0), .inr (4, [.int 0, .int 1, .ref f, .int 0, .int (-1), .null, .int (-1), .null])), ((qs 3), .inr (4, [.int 3, .int 1, .ref f, .int 0, .int (-1), .null, .int (-1), .null])), ((qs 4), .inr (4, [.int 4, .int 1, .ref f, .int 0, .int (-1), .null, .int (-1), .null])), ((qs 1), .inr (4, [.int 1, .int 1, .ref f, .int 0, .int (-1), .null, .int (-1), .null])), ((qs 2), .inr (4, [.int 2, .int 1, .ref f, .int 0, .int (-1), .null, .int (-1), .null]))]) (w1 := [(a4, wS tC 5 (va_up (va_up (va_up (va_up (va_up gf 0 none) 1 (some f)) 2 (some f)) 3 none) 4 none)), (f, .inr (3, [.ref e1, .ref e2, .int 5, .int 0])), (e1, wI tC 0 z1)]) hP hD [2, 3, 4] [0, 1, 5, 6, 7, 8, 9] rfl rfl (by decide) (by decide) hk1 hFc hP1 hD1
              generalize H1 = H at hP hS ⊢
              have hP : va_P D vwCl [(x, .inr (5, [.ref a1, .ref a2, .ref a3, .ref a4])), (a1, wT tC 5 fs), ((qs 0), .inr (4, [.int 0, .int 1, .ref f, .int 0, .int (-1), .null, .int (-1), .null])), ((qs 3), .inr (4, [.int 3, .int 1, .ref f, .int 0, .int (-1), .null, .int (-1), .null])), ((qs 4), .inr (4, [.int 4, .int 1, .ref f, .int 0, .int (-1), .null, .int (-1), .null])), ((qs 1), .inr (4, [.int 1, .int 1, .ref f, .int 0, .int (-1), .null, .int (-1), .null])), ((qs 2), .inr (4, [.int 2, .int 1, .ref f, .int 0, .int (-1), .null, .int (-1), .null])), (a4, wS tC 5 (va_up (va_up (va_up (va_up (va_up gf 0 none) 1 (some f)) 2 (some f)) 3 none) 4 none)), (f, .inr (3, [.ref e1, .ref e2, .int 5, .int 0])), (e1, wI tC 0 z1)] H := hP
              have hD : va_D A [(x, .inr (5, [.ref a1, .ref a2, .ref a3, .ref a4])), (a1, wT tC 5 fs), ((qs 0), .inr (4, [.int 0, .int 1, .ref f, .int 0, .int (-1), .null, .int (-1), .null])), ((qs 3), .inr (4, [.int 3, .int 1, .ref f, .int 0, .int (-1), .null, .int (-1), .null])), ((qs 4), .inr (4, [.int 4, .int 1, .ref f, .int 0, .int (-1), .null, .int (-1), .null])), ((qs 1), .inr (4, [.int 1, .int 1, .ref f, .int 0, .int (-1), .null, .int (-1), .null])), ((qs 2), .inr (4, [.int 2, .int 1, .ref f, .int 0, .int (-1), .null, .int (-1), .null])), (a4, wS tC 5 (va_up (va_up (va_up (va_up (va_up gf 0 none) 1 (some f)) 2 (some f)) 3 none) 4 none)), (f, .inr (3, [.ref e1, .ref e2, .int 5, .int 0])), (e1, wI tC 0 z1)] := hD
              have q1 : r_119 = some f := hw_120.trans (by rw [hb0, hb1, hb2, hb3, hb4] <;> rfl)
              subst q1
              refine W.eq (g2 := F0 m 94 ls [.ref f]) rfl ?_
              refine lv_astore_n (lv' := [(2, .ref f), (3, .int 0), (0, .ref x), (1, .int p0)]) hx hb dX4_allowed_94 rfl hl (by decide) rfl (fun ls hl => ?_)
              refine lv_aload_n hx hb dX4_allowed_95 rfl (lv_at hl 0 rfl) ?_
              refine lv_ifnull hx hb dX4_allowed_96 ?_
              refine lv_aload_n hx hb dX4_allowed_99 rfl (lv_at hl 2 rfl) ?_
              refine va_get (D := D) (ci := 5) (v := .ref a4) (C := RX4) (T := TX4) (N := 4) hx hb hts in_X4_allowed_X4 hown hK hP 0 rfl rfl 3 (by decide) w_0 (fun _ h9 => h9) rfl dX4_allowed_100 ?_
              refine lv_aload_n hx hb dX4_allowed_103 rfl (lv_at hl 0 rfl) ?_
              have hPc := hP.sub (ws' := [(a4, wS tC 5 (va_up (va_up (va_up (va_up (va_up gf 0 none) 1 (some f)) 2 (some f)) 3 none) 4 none)), (f, .inr (3, [.ref e1, .ref e2, .int 5, .int 0])), (e1, wI tC 0 z1)]) [7, 8, 9] rfl
              have hDc := hD.sub (ws' := [(a4, wS tC 5 (va_up (va_up (va_up (va_up (va_up gf 0 none) 1 (some f)) 2 (some f)) 3 none) 4 none)), (f, .inr (3, [.ref e1, .ref e2, .int 5, .int 0])), (e1, wI tC 0 z1)]) [7, 8, 9] (by decide) rfl
              have hFc := va_free (wc := [(a4, wS tC 5 (va_up (va_up (va_up (va_up (va_up gf 0 none) 1 (some f)) 2 (some f)) 3 none) 4 none)), (f, .inr (3, [.ref e1, .ref e2, .int 5, .int 0])), (e1, wI tC 0 z1)]) hD hS hA [7, 8, 9] rfl
              refine va_calli (va_runS (As := [.ref a4, .ref f]) (rest := []) ⟨hx, hb, hml, hown, hts⟩ (c_X4_mayGoOn l hlt D tC dz H.size a4 (va_up (va_up (va_up (va_up (va_up gf 0 none) 1 (some f)) 2 (some f)) 3 none) 4 none) (bqb p0) f e1 e2 z1 (by intro j hj; rcases (show j = 0 ∨ j = 1 ∨ j = 2 ∨ j = 3 ∨ j = 4 by omega) with rfl | rfl | rfl | rfl | rfl <;> simp [va_up, hb0, hb1, hb2, hb3, hb4])) (va_cwS 2 hts gX4_allowed_X4_mayGoOn rfl rfl rfl (by decide +kernel) ⟨Nat.le_of_ble_eq_true rfl, Nat.le_of_ble_eq_true rfl⟩) ⟨pB_blind, pB_at hPc hDc hK hN hE hS hFc⟩ rfl rfl hl.1 rfl (lv_room (Nat.le_of_ble_eq_true rfl)) dX4_allowed_104 ⟨Nat.le_of_ble_eq_true rfl, Nat.le_of_ble_eq_true rfl⟩) hS (fun q _ h => hFc q h) hFc (fun r_121 u t H1 locs ht hvm hw hB hz1 hk1 hS => ?_)
              obtain ⟨hP1, _, hD1⟩ := hB
              have hw_122 := hw
              rw [ht] at hP1
              obtain ⟨hP, hD⟩ := va_join (wr := [(x, .inr (5, [.ref a1, .ref a2, .ref a3, .ref a4])), (a1, wT tC 5 fs), ((qs 0), .inr (4, [.int 0, .int 1, .ref f, .int 0, .int (-1), .null, .int (-1), .null])), ((qs 3), .inr (4, [.int 3, .int 1, .ref f, .int 0, .int (-1), .null, .int (-1), .null])), ((qs 4), .inr (4, [.int 4, .int 1, .ref f, .int 0, .int (-1), .null, .int (-1), .null])), ((qs 1), .inr (4, [.int 1, .int 1, .ref f, .int 0, .int (-1), .null, .int (-1), .null])), ((qs 2), .inr (4, [.int 2, .int 1, .ref f, .int 0, .int (-1), .null, .int (-1), .null]))]) (w1 := [(a4, wS tC 5 (va_up (va_up (va_up (va_up (va_up gf 0 none) 1 (some f)) 2 (some f)) 3 none) 4 none)), (f, .inr (3, [.ref e1, .ref e2, .int 5, .int 0])), (e1, wI tC 0 z1)]) hP hD [7, 8, 9] [0, 1, 2, 3, 4, 5, 6] rfl rfl (by decide) (by decide) hk1 hFc hP1 hD1
              generalize H1 = H at hP hS ⊢
              have hP : va_P D vwCl [(x, .inr (5, [.ref a1, .ref a2, .ref a3, .ref a4])), (a1, wT tC 5 fs), ((qs 0), .inr (4, [.int 0, .int 1, .ref f, .int 0, .int (-1), .null, .int (-1), .null])), ((qs 3), .inr (4, [.int 3, .int 1, .ref f, .int 0, .int (-1), .null, .int (-1), .null])), ((qs 4), .inr (4, [.int 4, .int 1, .ref f, .int 0, .int (-1), .null, .int (-1), .null])), ((qs 1), .inr (4, [.int 1, .int 1, .ref f, .int 0, .int (-1), .null, .int (-1), .null])), ((qs 2), .inr (4, [.int 2, .int 1, .ref f, .int 0, .int (-1), .null, .int (-1), .null])), (a4, wS tC 5 (va_up (va_up (va_up (va_up (va_up gf 0 none) 1 (some f)) 2 (some f)) 3 none) 4 none)), (f, .inr (3, [.ref e1, .ref e2, .int 5, .int 0])), (e1, wI tC 0 z1)] H := hP
              have hD : va_D A [(x, .inr (5, [.ref a1, .ref a2, .ref a3, .ref a4])), (a1, wT tC 5 fs), ((qs 0), .inr (4, [.int 0, .int 1, .ref f, .int 0, .int (-1), .null, .int (-1), .null])), ((qs 3), .inr (4, [.int 3, .int 1, .ref f, .int 0, .int (-1), .null, .int (-1), .null])), ((qs 4), .inr (4, [.int 4, .int 1, .ref f, .int 0, .int (-1), .null, .int (-1), .null])), ((qs 1), .inr (4, [.int 1, .int 1, .ref f, .int 0, .int (-1), .null, .int (-1), .null])), ((qs 2), .inr (4, [.int 2, .int 1, .ref f, .int 0, .int (-1), .null, .int (-1), .null])), (a4, wS tC 5 (va_up (va_up (va_up (va_up (va_up gf 0 none) 1 (some f)) 2 (some f)) 3 none) 4 none)), (f, .inr (3, [.ref e1, .ref e2, .int 5, .int 0])), (e1, wI tC 0 z1)] := hD
              have q1 : r_121 = 0 := hw_122.trans (by unfold mayg cntb; rw [hb0, hb1, hb2, hb3, hb4] <;> decide)
              subst q1
              refine lv_if_eq (tgt := 114) hx hb dX4_allowed_107 (by decide) (fun _ => ?_) (fun hc => absurd (by decide) hc)
              refine lv_iconst (v := 0) hx hb dX4_allowed_114 (by decide) ?_
              have hP9 := hP.sub (ws' := []) [] rfl
              have hD9 := hD.sub (ws' := []) [] (by decide) rfl
              refine W.widen (k := 1) (n := 6) (by omega) (by omega) ?_
              exact vx_ret (W.zret (v := 0) hx hb hr (by decide) (fun t ht hW => ⟨⟨0, (), rfl, ⟨(by unfold mayg cntb; rw [hb0, hb1, hb2, hb3, hb4] <;> decide), bl1 hw_2 c_3⟩, (by rw [ht]; exact hP9), va_K.moved hW.alike hK, hD9⟩, hS.F ht⟩) hS.2.2 dX4_allowed_115 hlocks)
            · skip
              have hb4 : bqb p0 4 = true := bqT (fun h => c_118 (ez_117.trans h))
              refine lv_iconst (v := 1) hx hb dX4_allowed_34 (by decide) ?_
              refine lv_goto (tgt := 39) hx hb dX4_allowed_35 (by decide) ?_
              refine lv_istore_n (lv' := [(3, .int 1), (2, .int 4), (0, .ref x), (1, .int p0)]) hx hb dX4_allowed_39 rfl hl (by decide) rfl (fun ls hl => ?_)
              refine lv_iload_n hx hb dX4_allowed_40 rfl (lv_at hl 0 rfl) ?_
              refine lv_if_eq (tgt := 58) hx hb dX4_allowed_41 (by decide) (fun hc => absurd hc (by decide)) (fun _ => ?_)
              refine lv_aload_n hx hb dX4_allowed_44 rfl (lv_at hl 2 rfl) ?_
              refine va_get (D := D) (ci := 5) (v := .ref a1) (C := RX4) (T := TX4) (N := 4) hx hb hts in_X4_allowed_X4 hown hK hP 0 rfl rfl 0 (by decide) w_1 (fun _ h9 => h9) rfl dX4_allowed_45 ?_
              refine lv_iload_n hx hb dX4_allowed_48 rfl (lv_at hl 1 rfl) ?_
              refine va_aldq hx hb hK hP 1 3 rfl rfl (by unfold vp_in; decide) dX4_allowed_49 ?_
              rw [show fs (4 : Int32).toNatClampNeg = some (qs 4) from (by rw [show (4 : Int32).toNatClampNeg = 4 by decide]; exact hfs 4 (by decide))]
              refine W.eq (g2 := F0 m 50 ls [.ref (qs 4)]) rfl ?_
              have hPc := hP.sub (ws' := [((qs 4), .inr (4, [.int 4, .int 1, .ref f, .int 0, .int (-1), .null, .int (-1), .null]))]) [7] rfl
              have hDc := hD.sub (ws' := [((qs 4), .inr (4, [.int 4, .int 1, .ref f, .int 0, .int (-1), .null, .int (-1), .null]))]) [7] (by decide) rfl
              have hFc := va_free (wc := [((qs 4), .inr (4, [.int 4, .int 1, .ref f, .int 0, .int (-1), .null, .int (-1), .null]))]) hD hS hA [7] rfl
              refine va_calli (va_runVN (As := []) (rest := []) ⟨hx, hb, hml, hown, hts⟩ (c_X3_isFree l hlt D tC dz H.size f (qs 4) 4 ) ⟨(va_cnB (host := "NoticeStations") 0 hts gX4_allowed_X3_isFree_n240 rfl rfl rfl (hN.1 (.methodLinkNest "NoticeStations" 240 ⟨"NoticeStations$Station", "isFree", "()Z"⟩ "NoticeStations") (by decide +kernel)) w_2 (by decide +kernel) ⟨Nat.le_of_ble_eq_true rfl, Nat.le_of_ble_eq_true rfl⟩), w_3, w_4⟩ ⟨pB_blind, va_recv hK hPc (ci := 4) (q0 := 0) rfl rfl, pB_at hPc hDc hK hN hE hS hFc⟩ rfl rfl hl.1 rfl (lv_room (Nat.le_of_ble_eq_true rfl)) dX4_allowed_50 ⟨Nat.le_of_ble_eq_true rfl, Nat.le_of_ble_eq_true rfl⟩) hS (fun q _ h => hFc q h) hFc (fun r_123 u t H1 locs ht hvm hw hB hz1 hk1 hS => ?_)
              obtain ⟨hP1, _, hD1⟩ := hB
              have hw_124 := hw
              rw [ht] at hP1
              obtain ⟨hP, hD⟩ := va_join (wr := [(x, .inr (5, [.ref a1, .ref a2, .ref a3, .ref a4])), (a1, wT tC 5 fs), (a4, wS tC 5 (va_up (va_up (va_up (va_up gf 0 none) 1 (some f)) 2 (some f)) 3 none)), (f, .inr (3, [.ref e1, .ref e2, .int 5, .int 0])), (e1, wI tC 0 z1), ((qs 0), .inr (4, [.int 0, .int 1, .ref f, .int 0, .int (-1), .null, .int (-1), .null])), ((qs 3), .inr (4, [.int 3, .int 1, .ref f, .int 0, .int (-1), .null, .int (-1), .null])), ((qs 1), .inr (4, [.int 1, .int 1, .ref f, .int 0, .int (-1), .null, .int (-1), .null])), ((qs 2), .inr (4, [.int 2, .int 1, .ref f, .int 0, .int (-1), .null, .int (-1), .null]))]) (w1 := [((qs 4), .inr (4, [.int 4, .int 1, .ref f, .int 0, .int (-1), .null, .int (-1), .null]))]) hP hD [7] [0, 1, 2, 3, 4, 5, 6, 8, 9] rfl rfl (by decide) (by decide) hk1 hFc hP1 hD1
              generalize H1 = H at hP hS ⊢
              have hP : va_P D vwCl [(x, .inr (5, [.ref a1, .ref a2, .ref a3, .ref a4])), (a1, wT tC 5 fs), (a4, wS tC 5 (va_up (va_up (va_up (va_up gf 0 none) 1 (some f)) 2 (some f)) 3 none)), (f, .inr (3, [.ref e1, .ref e2, .int 5, .int 0])), (e1, wI tC 0 z1), ((qs 0), .inr (4, [.int 0, .int 1, .ref f, .int 0, .int (-1), .null, .int (-1), .null])), ((qs 3), .inr (4, [.int 3, .int 1, .ref f, .int 0, .int (-1), .null, .int (-1), .null])), ((qs 1), .inr (4, [.int 1, .int 1, .ref f, .int 0, .int (-1), .null, .int (-1), .null])), ((qs 2), .inr (4, [.int 2, .int 1, .ref f, .int 0, .int (-1), .null, .int (-1), .null])), ((qs 4), .inr (4, [.int 4, .int 1, .ref f, .int 0, .int (-1), .null, .int (-1), .null]))] H := hP
              have hD : va_D A [(x, .inr (5, [.ref a1, .ref a2, .ref a3, .ref a4])), (a1, wT tC 5 fs), (a4, wS tC 5 (va_up (va_up (va_up (va_up gf 0 none) 1 (some f)) 2 (some f)) 3 none)), (f, .inr (3, [.ref e1, .ref e2, .int 5, .int 0])), (e1, wI tC 0 z1), ((qs 0), .inr (4, [.int 0, .int 1, .ref f, .int 0, .int (-1), .null, .int (-1), .null])), ((qs 3), .inr (4, [.int 3, .int 1, .ref f, .int 0, .int (-1), .null, .int (-1), .null])), ((qs 1), .inr (4, [.int 1, .int 1, .ref f, .int 0, .int (-1), .null, .int (-1), .null])), ((qs 2), .inr (4, [.int 2, .int 1, .ref f, .int 0, .int (-1), .null, .int (-1), .null])), ((qs 4), .inr (4, [.int 4, .int 1, .ref f, .int 0, .int (-1), .null, .int (-1), .null]))] := hD
              subst hw_124
              refine lv_if_ne (tgt := 58) hx hb dX4_allowed_53 (by decide) (fun _ => ?_) (fun hc => absurd hc (by decide))
              refine lv_aload_n hx hb dX4_allowed_58 rfl (lv_at hl 2 rfl) ?_
              refine va_get (D := D) (ci := 5) (v := .ref a4) (C := RX4) (T := TX4) (N := 4) hx hb hts in_X4_allowed_X4 hown hK hP 0 rfl rfl 3 (by decide) w_0 (fun _ h9 => h9) rfl dX4_allowed_59 ?_
              refine lv_iload_n hx hb dX4_allowed_62 rfl (lv_at hl 1 rfl) ?_
              refine lv_iload_n hx hb dX4_allowed_63 rfl (lv_at hl 0 rfl) ?_
              refine lv_if_eq (tgt := 79) hx hb dX4_allowed_64 (by decide) (fun hc => absurd hc (by decide)) (fun _ => ?_)
              refine lv_aload_n hx hb dX4_allowed_67 rfl (lv_at hl 2 rfl) ?_
              refine va_get (D := D) (ci := 5) (v := .ref a1) (C := RX4) (T := TX4) (N := 4) hx hb hts in_X4_allowed_X4 hown hK hP 0 rfl rfl 0 (by decide) w_1 (fun _ h9 => h9) rfl dX4_allowed_68 ?_
              refine lv_iload_n hx hb dX4_allowed_71 rfl (lv_at hl 1 rfl) ?_
              refine va_aldq hx hb hK hP 1 3 rfl rfl (by unfold vp_in; decide) dX4_allowed_72 ?_
              rw [show fs (4 : Int32).toNatClampNeg = some (qs 4) from (by rw [show (4 : Int32).toNatClampNeg = 4 by decide]; exact hfs 4 (by decide))]
              refine W.eq (g2 := F0 m 73 ls [.ref (qs 4), .int 4, .ref a4]) rfl ?_
              refine va_getN (host := "NoticeStations") (D := D) (ci := 4) (v := .ref f) (C := RX3) (T := TX3) (N := 8) hx hb hts in_X4_allowed_X3 hown hK hP 9 rfl rfl 2 (by decide) (va_Nw.use rfl (hN.1 (.fieldLinkNest "NoticeStations" 61 "NoticeStations$Station" "stored" "LNoticeStations$Standing;" "NoticeStations") (by decide +kernel))) (fun _ h9 => h9) rfl dX4_allowed_73 ?_
              refine lv_goto (tgt := 80) hx hb dX4_allowed_76 (by decide) ?_
              refine va_astq hx hb hK hP hD hS 2 2 3 3 rfl rfl rfl rfl (by unfold vp_in; decide) dX4_allowed_80 (fun H locs hP hD hS => ?_)
              have hP : va_P D vwCl [(x, .inr (5, [.ref a1, .ref a2, .ref a3, .ref a4])), (a1, wT tC 5 fs), (a4, wS tC 5 (va_up (va_up (va_up (va_up (va_up gf 0 none) 1 (some f)) 2 (some f)) 3 none) 4 (some f))), (f, .inr (3, [.ref e1, .ref e2, .int 5, .int 0])), (e1, wI tC 0 z1), ((qs 0), .inr (4, [.int 0, .int 1, .ref f, .int 0, .int (-1), .null, .int (-1), .null])), ((qs 3), .inr (4, [.int 3, .int 1, .ref f, .int 0, .int (-1), .null, .int (-1), .null])), ((qs 1), .inr (4, [.int 1, .int 1, .ref f, .int 0, .int (-1), .null, .int (-1), .null])), ((qs 2), .inr (4, [.int 2, .int 1, .ref f, .int 0, .int (-1), .null, .int (-1), .null])), ((qs 4), .inr (4, [.int 4, .int 1, .ref f, .int 0, .int (-1), .null, .int (-1), .null]))] H := hP
              have hD : va_D A [(x, .inr (5, [.ref a1, .ref a2, .ref a3, .ref a4])), (a1, wT tC 5 fs), (a4, wS tC 5 (va_up (va_up (va_up (va_up (va_up gf 0 none) 1 (some f)) 2 (some f)) 3 none) 4 (some f))), (f, .inr (3, [.ref e1, .ref e2, .int 5, .int 0])), (e1, wI tC 0 z1), ((qs 0), .inr (4, [.int 0, .int 1, .ref f, .int 0, .int (-1), .null, .int (-1), .null])), ((qs 3), .inr (4, [.int 3, .int 1, .ref f, .int 0, .int (-1), .null, .int (-1), .null])), ((qs 1), .inr (4, [.int 1, .int 1, .ref f, .int 0, .int (-1), .null, .int (-1), .null])), ((qs 2), .inr (4, [.int 2, .int 1, .ref f, .int 0, .int (-1), .null, .int (-1), .null])), ((qs 4), .inr (4, [.int 4, .int 1, .ref f, .int 0, .int (-1), .null, .int (-1), .null]))] := hD
              refine lv_iinc (v := 5) (lv' := [(2, .int 5), (3, .int 1), (0, .ref x), (1, .int p0)]) hx hb dX4_allowed_81 hl (k := 1) rfl (by decide) (by decide) rfl (fun ls hl => ?_)
              refine lv_goto (tgt := 21) hx hb dX4_allowed_84 (by decide) ?_
              refine lv_iload_n hx hb dX4_allowed_21 rfl (lv_at hl 0 rfl) ?_
              refine lv_iconst (v := 5) hx hb dX4_allowed_22 (by decide) ?_
              refine lv_icmp_ge (tgt := 87) hx hb dX4_allowed_23 (by decide) (fun _ => ?_) (fun hc => absurd (by decide) hc)
              refine lv_aload_n hx hb dX4_allowed_87 rfl (lv_at hl 2 rfl) ?_
              refine va_get (D := D) (ci := 5) (v := .ref a4) (C := RX4) (T := TX4) (N := 4) hx hb hts in_X4_allowed_X4 hown hK hP 0 rfl rfl 3 (by decide) w_0 (fun _ h9 => h9) rfl dX4_allowed_88 ?_
              have hPc := hP.sub (ws' := [(a4, wS tC 5 (va_up (va_up (va_up (va_up (va_up gf 0 none) 1 (some f)) 2 (some f)) 3 none) 4 (some f))), (f, .inr (3, [.ref e1, .ref e2, .int 5, .int 0])), (e1, wI tC 0 z1)]) [2, 3, 4] rfl
              have hDc := hD.sub (ws' := [(a4, wS tC 5 (va_up (va_up (va_up (va_up (va_up gf 0 none) 1 (some f)) 2 (some f)) 3 none) 4 (some f))), (f, .inr (3, [.ref e1, .ref e2, .int 5, .int 0])), (e1, wI tC 0 z1)]) [2, 3, 4] (by decide) rfl
              have hFc := va_free (wc := [(a4, wS tC 5 (va_up (va_up (va_up (va_up (va_up gf 0 none) 1 (some f)) 2 (some f)) 3 none) 4 (some f))), (f, .inr (3, [.ref e1, .ref e2, .int 5, .int 0])), (e1, wI tC 0 z1)]) hD hS hA [2, 3, 4] rfl
              refine va_callq (va_runS (As := [.ref a4]) (rest := []) ⟨hx, hb, hml, hown, hts⟩ (c_X4_heldByHolders l hlt D tC dz H.size a4 (va_up (va_up (va_up (va_up (va_up gf 0 none) 1 (some f)) 2 (some f)) 3 none) 4 (some f)) (bqb p0) f e1 e2 z1 (by intro j hj; rcases (show j = 0 ∨ j = 1 ∨ j = 2 ∨ j = 3 ∨ j = 4 by omega) with rfl | rfl | rfl | rfl | rfl <;> simp [va_up, hb0, hb1, hb2, hb3, hb4])) (va_cwS 1 hts gX4_allowed_X4_heldByHolders rfl rfl rfl (by decide +kernel) ⟨Nat.le_of_ble_eq_true rfl, Nat.le_of_ble_eq_true rfl⟩) ⟨pB_blind, pB_at hPc hDc hK hN hE hS hFc⟩ rfl rfl hl.1 rfl (lv_room (Nat.le_of_ble_eq_true rfl)) dX4_allowed_91 ⟨Nat.le_of_ble_eq_true rfl, Nat.le_of_ble_eq_true rfl⟩) hS (fun q _ h => hFc q h) hFc (fun r_125 u t H1 locs ht hvm hw hB hz1 hk1 hS => ?_)
              obtain ⟨hP1, _, hD1⟩ := hB
              have hw_126 := hw
              rw [ht] at hP1
              obtain ⟨hP, hD⟩ := va_join (wr := [(x, .inr (5, [.ref a1, .ref a2, .ref a3, .ref a4])), (a1, wT tC 5 fs), ((qs 0), .inr (4, [.int 0, .int 1, .ref f, .int 0, .int (-1), .null, .int (-1), .null])), ((qs 3), .inr (4, [.int 3, .int 1, .ref f, .int 0, .int (-1), .null, .int (-1), .null])), ((qs 1), .inr (4, [.int 1, .int 1, .ref f, .int 0, .int (-1), .null, .int (-1), .null])), ((qs 2), .inr (4, [.int 2, .int 1, .ref f, .int 0, .int (-1), .null, .int (-1), .null])), ((qs 4), .inr (4, [.int 4, .int 1, .ref f, .int 0, .int (-1), .null, .int (-1), .null]))]) (w1 := [(a4, wS tC 5 (va_up (va_up (va_up (va_up (va_up gf 0 none) 1 (some f)) 2 (some f)) 3 none) 4 (some f))), (f, .inr (3, [.ref e1, .ref e2, .int 5, .int 0])), (e1, wI tC 0 z1)]) hP hD [2, 3, 4] [0, 1, 5, 6, 7, 8, 9] rfl rfl (by decide) (by decide) hk1 hFc hP1 hD1
              generalize H1 = H at hP hS ⊢
              have hP : va_P D vwCl [(x, .inr (5, [.ref a1, .ref a2, .ref a3, .ref a4])), (a1, wT tC 5 fs), ((qs 0), .inr (4, [.int 0, .int 1, .ref f, .int 0, .int (-1), .null, .int (-1), .null])), ((qs 3), .inr (4, [.int 3, .int 1, .ref f, .int 0, .int (-1), .null, .int (-1), .null])), ((qs 1), .inr (4, [.int 1, .int 1, .ref f, .int 0, .int (-1), .null, .int (-1), .null])), ((qs 2), .inr (4, [.int 2, .int 1, .ref f, .int 0, .int (-1), .null, .int (-1), .null])), ((qs 4), .inr (4, [.int 4, .int 1, .ref f, .int 0, .int (-1), .null, .int (-1), .null])), (a4, wS tC 5 (va_up (va_up (va_up (va_up (va_up gf 0 none) 1 (some f)) 2 (some f)) 3 none) 4 (some f))), (f, .inr (3, [.ref e1, .ref e2, .int 5, .int 0])), (e1, wI tC 0 z1)] H := hP
              have hD : va_D A [(x, .inr (5, [.ref a1, .ref a2, .ref a3, .ref a4])), (a1, wT tC 5 fs), ((qs 0), .inr (4, [.int 0, .int 1, .ref f, .int 0, .int (-1), .null, .int (-1), .null])), ((qs 3), .inr (4, [.int 3, .int 1, .ref f, .int 0, .int (-1), .null, .int (-1), .null])), ((qs 1), .inr (4, [.int 1, .int 1, .ref f, .int 0, .int (-1), .null, .int (-1), .null])), ((qs 2), .inr (4, [.int 2, .int 1, .ref f, .int 0, .int (-1), .null, .int (-1), .null])), ((qs 4), .inr (4, [.int 4, .int 1, .ref f, .int 0, .int (-1), .null, .int (-1), .null])), (a4, wS tC 5 (va_up (va_up (va_up (va_up (va_up gf 0 none) 1 (some f)) 2 (some f)) 3 none) 4 (some f))), (f, .inr (3, [.ref e1, .ref e2, .int 5, .int 0])), (e1, wI tC 0 z1)] := hD
              have q1 : r_125 = some f := hw_126.trans (by rw [hb0, hb1, hb2, hb3, hb4] <;> rfl)
              subst q1
              refine W.eq (g2 := F0 m 94 ls [.ref f]) rfl ?_
              refine lv_astore_n (lv' := [(2, .ref f), (3, .int 1), (0, .ref x), (1, .int p0)]) hx hb dX4_allowed_94 rfl hl (by decide) rfl (fun ls hl => ?_)
              refine lv_aload_n hx hb dX4_allowed_95 rfl (lv_at hl 0 rfl) ?_
              refine lv_ifnull hx hb dX4_allowed_96 ?_
              refine lv_aload_n hx hb dX4_allowed_99 rfl (lv_at hl 2 rfl) ?_
              refine va_get (D := D) (ci := 5) (v := .ref a4) (C := RX4) (T := TX4) (N := 4) hx hb hts in_X4_allowed_X4 hown hK hP 0 rfl rfl 3 (by decide) w_0 (fun _ h9 => h9) rfl dX4_allowed_100 ?_
              refine lv_aload_n hx hb dX4_allowed_103 rfl (lv_at hl 0 rfl) ?_
              have hPc := hP.sub (ws' := [(a4, wS tC 5 (va_up (va_up (va_up (va_up (va_up gf 0 none) 1 (some f)) 2 (some f)) 3 none) 4 (some f))), (f, .inr (3, [.ref e1, .ref e2, .int 5, .int 0])), (e1, wI tC 0 z1)]) [7, 8, 9] rfl
              have hDc := hD.sub (ws' := [(a4, wS tC 5 (va_up (va_up (va_up (va_up (va_up gf 0 none) 1 (some f)) 2 (some f)) 3 none) 4 (some f))), (f, .inr (3, [.ref e1, .ref e2, .int 5, .int 0])), (e1, wI tC 0 z1)]) [7, 8, 9] (by decide) rfl
              have hFc := va_free (wc := [(a4, wS tC 5 (va_up (va_up (va_up (va_up (va_up gf 0 none) 1 (some f)) 2 (some f)) 3 none) 4 (some f))), (f, .inr (3, [.ref e1, .ref e2, .int 5, .int 0])), (e1, wI tC 0 z1)]) hD hS hA [7, 8, 9] rfl
              refine va_calli (va_runS (As := [.ref a4, .ref f]) (rest := []) ⟨hx, hb, hml, hown, hts⟩ (c_X4_mayGoOn l hlt D tC dz H.size a4 (va_up (va_up (va_up (va_up (va_up gf 0 none) 1 (some f)) 2 (some f)) 3 none) 4 (some f)) (bqb p0) f e1 e2 z1 (by intro j hj; rcases (show j = 0 ∨ j = 1 ∨ j = 2 ∨ j = 3 ∨ j = 4 by omega) with rfl | rfl | rfl | rfl | rfl <;> simp [va_up, hb0, hb1, hb2, hb3, hb4])) (va_cwS 2 hts gX4_allowed_X4_mayGoOn rfl rfl rfl (by decide +kernel) ⟨Nat.le_of_ble_eq_true rfl, Nat.le_of_ble_eq_true rfl⟩) ⟨pB_blind, pB_at hPc hDc hK hN hE hS hFc⟩ rfl rfl hl.1 rfl (lv_room (Nat.le_of_ble_eq_true rfl)) dX4_allowed_104 ⟨Nat.le_of_ble_eq_true rfl, Nat.le_of_ble_eq_true rfl⟩) hS (fun q _ h => hFc q h) hFc (fun r_127 u t H1 locs ht hvm hw hB hz1 hk1 hS => ?_)
              obtain ⟨hP1, _, hD1⟩ := hB
              have hw_128 := hw
              rw [ht] at hP1
              obtain ⟨hP, hD⟩ := va_join (wr := [(x, .inr (5, [.ref a1, .ref a2, .ref a3, .ref a4])), (a1, wT tC 5 fs), ((qs 0), .inr (4, [.int 0, .int 1, .ref f, .int 0, .int (-1), .null, .int (-1), .null])), ((qs 3), .inr (4, [.int 3, .int 1, .ref f, .int 0, .int (-1), .null, .int (-1), .null])), ((qs 1), .inr (4, [.int 1, .int 1, .ref f, .int 0, .int (-1), .null, .int (-1), .null])), ((qs 2), .inr (4, [.int 2, .int 1, .ref f, .int 0, .int (-1), .null, .int (-1), .null])), ((qs 4), .inr (4, [.int 4, .int 1, .ref f, .int 0, .int (-1), .null, .int (-1), .null]))]) (w1 := [(a4, wS tC 5 (va_up (va_up (va_up (va_up (va_up gf 0 none) 1 (some f)) 2 (some f)) 3 none) 4 (some f))), (f, .inr (3, [.ref e1, .ref e2, .int 5, .int 0])), (e1, wI tC 0 z1)]) hP hD [7, 8, 9] [0, 1, 2, 3, 4, 5, 6] rfl rfl (by decide) (by decide) hk1 hFc hP1 hD1
              generalize H1 = H at hP hS ⊢
              have hP : va_P D vwCl [(x, .inr (5, [.ref a1, .ref a2, .ref a3, .ref a4])), (a1, wT tC 5 fs), ((qs 0), .inr (4, [.int 0, .int 1, .ref f, .int 0, .int (-1), .null, .int (-1), .null])), ((qs 3), .inr (4, [.int 3, .int 1, .ref f, .int 0, .int (-1), .null, .int (-1), .null])), ((qs 1), .inr (4, [.int 1, .int 1, .ref f, .int 0, .int (-1), .null, .int (-1), .null])), ((qs 2), .inr (4, [.int 2, .int 1, .ref f, .int 0, .int (-1), .null, .int (-1), .null])), ((qs 4), .inr (4, [.int 4, .int 1, .ref f, .int 0, .int (-1), .null, .int (-1), .null])), (a4, wS tC 5 (va_up (va_up (va_up (va_up (va_up gf 0 none) 1 (some f)) 2 (some f)) 3 none) 4 (some f))), (f, .inr (3, [.ref e1, .ref e2, .int 5, .int 0])), (e1, wI tC 0 z1)] H := hP
              have hD : va_D A [(x, .inr (5, [.ref a1, .ref a2, .ref a3, .ref a4])), (a1, wT tC 5 fs), ((qs 0), .inr (4, [.int 0, .int 1, .ref f, .int 0, .int (-1), .null, .int (-1), .null])), ((qs 3), .inr (4, [.int 3, .int 1, .ref f, .int 0, .int (-1), .null, .int (-1), .null])), ((qs 1), .inr (4, [.int 1, .int 1, .ref f, .int 0, .int (-1), .null, .int (-1), .null])), ((qs 2), .inr (4, [.int 2, .int 1, .ref f, .int 0, .int (-1), .null, .int (-1), .null])), ((qs 4), .inr (4, [.int 4, .int 1, .ref f, .int 0, .int (-1), .null, .int (-1), .null])), (a4, wS tC 5 (va_up (va_up (va_up (va_up (va_up gf 0 none) 1 (some f)) 2 (some f)) 3 none) 4 (some f))), (f, .inr (3, [.ref e1, .ref e2, .int 5, .int 0])), (e1, wI tC 0 z1)] := hD
              have q1 : r_127 = 1 := hw_128.trans (by unfold mayg cntb; rw [hb0, hb1, hb2, hb3, hb4] <;> decide)
              subst q1
              refine lv_if_eq (tgt := 114) hx hb dX4_allowed_107 (by decide) (fun hc => absurd hc (by decide)) (fun _ => ?_)
              refine lv_iconst (v := 1) hx hb dX4_allowed_110 (by decide) ?_
              refine lv_goto (tgt := 115) hx hb dX4_allowed_111 (by decide) ?_
              have hP9 := hP.sub (ws' := []) [] rfl
              have hD9 := hD.sub (ws' := []) [] (by decide) rfl
              refine W.widen (k := 1) (n := 6) (by omega) (by omega) ?_
              exact vx_ret (W.zret (v := 1) hx hb hr (by decide) (fun t ht hW => ⟨⟨1, (), rfl, ⟨(by unfold mayg cntb; rw [hb0, hb1, hb2, hb3, hb4] <;> decide), bl1 hw_2 c_3⟩, (by rw [ht]; exact hP9), va_K.moved hW.alike hK, hD9⟩, hS.F ht⟩) hS.2.2 dX4_allowed_115 hlocks)
          · skip
            have hb3 : bqb p0 3 = true := bqT (fun h => c_115 (ez_114.trans h))
            refine lv_iconst (v := 1) hx hb dX4_allowed_34 (by decide) ?_
            refine lv_goto (tgt := 39) hx hb dX4_allowed_35 (by decide) ?_
            refine lv_istore_n (lv' := [(3, .int 1), (2, .int 3), (0, .ref x), (1, .int p0)]) hx hb dX4_allowed_39 rfl hl (by decide) rfl (fun ls hl => ?_)
            refine lv_iload_n hx hb dX4_allowed_40 rfl (lv_at hl 0 rfl) ?_
            refine lv_if_eq (tgt := 58) hx hb dX4_allowed_41 (by decide) (fun hc => absurd hc (by decide)) (fun _ => ?_)
            refine lv_aload_n hx hb dX4_allowed_44 rfl (lv_at hl 2 rfl) ?_
            refine va_get (D := D) (ci := 5) (v := .ref a1) (C := RX4) (T := TX4) (N := 4) hx hb hts in_X4_allowed_X4 hown hK hP 0 rfl rfl 0 (by decide) w_1 (fun _ h9 => h9) rfl dX4_allowed_45 ?_
            refine lv_iload_n hx hb dX4_allowed_48 rfl (lv_at hl 1 rfl) ?_
            refine va_aldq hx hb hK hP 1 3 rfl rfl (by unfold vp_in; decide) dX4_allowed_49 ?_
            rw [show fs (3 : Int32).toNatClampNeg = some (qs 3) from (by rw [show (3 : Int32).toNatClampNeg = 3 by decide]; exact hfs 3 (by decide))]
            refine W.eq (g2 := F0 m 50 ls [.ref (qs 3)]) rfl ?_
            have hPc := hP.sub (ws' := [((qs 3), .inr (4, [.int 3, .int 1, .ref f, .int 0, .int (-1), .null, .int (-1), .null]))]) [6] rfl
            have hDc := hD.sub (ws' := [((qs 3), .inr (4, [.int 3, .int 1, .ref f, .int 0, .int (-1), .null, .int (-1), .null]))]) [6] (by decide) rfl
            have hFc := va_free (wc := [((qs 3), .inr (4, [.int 3, .int 1, .ref f, .int 0, .int (-1), .null, .int (-1), .null]))]) hD hS hA [6] rfl
            refine va_calli (va_runVN (As := []) (rest := []) ⟨hx, hb, hml, hown, hts⟩ (c_X3_isFree l hlt D tC dz H.size f (qs 3) 3 ) ⟨(va_cnB (host := "NoticeStations") 0 hts gX4_allowed_X3_isFree_n240 rfl rfl rfl (hN.1 (.methodLinkNest "NoticeStations" 240 ⟨"NoticeStations$Station", "isFree", "()Z"⟩ "NoticeStations") (by decide +kernel)) w_2 (by decide +kernel) ⟨Nat.le_of_ble_eq_true rfl, Nat.le_of_ble_eq_true rfl⟩), w_3, w_4⟩ ⟨pB_blind, va_recv hK hPc (ci := 4) (q0 := 0) rfl rfl, pB_at hPc hDc hK hN hE hS hFc⟩ rfl rfl hl.1 rfl (lv_room (Nat.le_of_ble_eq_true rfl)) dX4_allowed_50 ⟨Nat.le_of_ble_eq_true rfl, Nat.le_of_ble_eq_true rfl⟩) hS (fun q _ h => hFc q h) hFc (fun r_129 u t H1 locs ht hvm hw hB hz1 hk1 hS => ?_)
            obtain ⟨hP1, _, hD1⟩ := hB
            have hw_130 := hw
            rw [ht] at hP1
            obtain ⟨hP, hD⟩ := va_join (wr := [(x, .inr (5, [.ref a1, .ref a2, .ref a3, .ref a4])), (a1, wT tC 5 fs), (a4, wS tC 5 (va_up (va_up (va_up gf 0 none) 1 (some f)) 2 (some f))), (f, .inr (3, [.ref e1, .ref e2, .int 5, .int 0])), (e1, wI tC 0 z1), ((qs 0), .inr (4, [.int 0, .int 1, .ref f, .int 0, .int (-1), .null, .int (-1), .null])), ((qs 4), .inr (4, [.int 4, .int 1, .ref f, .int 0, .int (-1), .null, .int (-1), .null])), ((qs 1), .inr (4, [.int 1, .int 1, .ref f, .int 0, .int (-1), .null, .int (-1), .null])), ((qs 2), .inr (4, [.int 2, .int 1, .ref f, .int 0, .int (-1), .null, .int (-1), .null]))]) (w1 := [((qs 3), .inr (4, [.int 3, .int 1, .ref f, .int 0, .int (-1), .null, .int (-1), .null]))]) hP hD [6] [0, 1, 2, 3, 4, 5, 7, 8, 9] rfl rfl (by decide) (by decide) hk1 hFc hP1 hD1
            generalize H1 = H at hP hS ⊢
            have hP : va_P D vwCl [(x, .inr (5, [.ref a1, .ref a2, .ref a3, .ref a4])), (a1, wT tC 5 fs), (a4, wS tC 5 (va_up (va_up (va_up gf 0 none) 1 (some f)) 2 (some f))), (f, .inr (3, [.ref e1, .ref e2, .int 5, .int 0])), (e1, wI tC 0 z1), ((qs 0), .inr (4, [.int 0, .int 1, .ref f, .int 0, .int (-1), .null, .int (-1), .null])), ((qs 4), .inr (4, [.int 4, .int 1, .ref f, .int 0, .int (-1), .null, .int (-1), .null])), ((qs 1), .inr (4, [.int 1, .int 1, .ref f, .int 0, .int (-1), .null, .int (-1), .null])), ((qs 2), .inr (4, [.int 2, .int 1, .ref f, .int 0, .int (-1), .null, .int (-1), .null])), ((qs 3), .inr (4, [.int 3, .int 1, .ref f, .int 0, .int (-1), .null, .int (-1), .null]))] H := hP
            have hD : va_D A [(x, .inr (5, [.ref a1, .ref a2, .ref a3, .ref a4])), (a1, wT tC 5 fs), (a4, wS tC 5 (va_up (va_up (va_up gf 0 none) 1 (some f)) 2 (some f))), (f, .inr (3, [.ref e1, .ref e2, .int 5, .int 0])), (e1, wI tC 0 z1), ((qs 0), .inr (4, [.int 0, .int 1, .ref f, .int 0, .int (-1), .null, .int (-1), .null])), ((qs 4), .inr (4, [.int 4, .int 1, .ref f, .int 0, .int (-1), .null, .int (-1), .null])), ((qs 1), .inr (4, [.int 1, .int 1, .ref f, .int 0, .int (-1), .null, .int (-1), .null])), ((qs 2), .inr (4, [.int 2, .int 1, .ref f, .int 0, .int (-1), .null, .int (-1), .null])), ((qs 3), .inr (4, [.int 3, .int 1, .ref f, .int 0, .int (-1), .null, .int (-1), .null]))] := hD
            subst hw_130
            refine lv_if_ne (tgt := 58) hx hb dX4_allowed_53 (by decide) (fun _ => ?_) (fun hc => absurd hc (by decide))
            refine lv_aload_n hx hb dX4_allowed_58 rfl (lv_at hl 2 rfl) ?_
            refine va_get (D := D) (ci := 5) (v := .ref a4) (C := RX4) (T := TX4) (N := 4) hx hb hts in_X4_allowed_X4 hown hK hP 0 rfl rfl 3 (by decide) w_0 (fun _ h9 => h9) rfl dX4_allowed_59 ?_
            refine lv_iload_n hx hb dX4_allowed_62 rfl (lv_at hl 1 rfl) ?_
            refine lv_iload_n hx hb dX4_allowed_63 rfl (lv_at hl 0 rfl) ?_
            refine lv_if_eq (tgt := 79) hx hb dX4_allowed_64 (by decide) (fun hc => absurd hc (by decide)) (fun _ => ?_)
            refine lv_aload_n hx hb dX4_allowed_67 rfl (lv_at hl 2 rfl) ?_
            refine va_get (D := D) (ci := 5) (v := .ref a1) (C := RX4) (T := TX4) (N := 4) hx hb hts in_X4_allowed_X4 hown hK hP 0 rfl rfl 0 (by decide) w_1 (fun _ h9 => h9) rfl dX4_allowed_68 ?_
            refine lv_iload_n hx hb dX4_allowed_71 rfl (lv_at hl 1 rfl) ?_
            refine va_aldq hx hb hK hP 1 3 rfl rfl (by unfold vp_in; decide) dX4_allowed_72 ?_
            rw [show fs (3 : Int32).toNatClampNeg = some (qs 3) from (by rw [show (3 : Int32).toNatClampNeg = 3 by decide]; exact hfs 3 (by decide))]
            refine W.eq (g2 := F0 m 73 ls [.ref (qs 3), .int 3, .ref a4]) rfl ?_
            refine va_getN (host := "NoticeStations") (D := D) (ci := 4) (v := .ref f) (C := RX3) (T := TX3) (N := 8) hx hb hts in_X4_allowed_X3 hown hK hP 9 rfl rfl 2 (by decide) (va_Nw.use rfl (hN.1 (.fieldLinkNest "NoticeStations" 61 "NoticeStations$Station" "stored" "LNoticeStations$Standing;" "NoticeStations") (by decide +kernel))) (fun _ h9 => h9) rfl dX4_allowed_73 ?_
            refine lv_goto (tgt := 80) hx hb dX4_allowed_76 (by decide) ?_
            refine va_astq hx hb hK hP hD hS 2 2 3 3 rfl rfl rfl rfl (by unfold vp_in; decide) dX4_allowed_80 (fun H locs hP hD hS => ?_)
            have hP : va_P D vwCl [(x, .inr (5, [.ref a1, .ref a2, .ref a3, .ref a4])), (a1, wT tC 5 fs), (a4, wS tC 5 (va_up (va_up (va_up (va_up gf 0 none) 1 (some f)) 2 (some f)) 3 (some f))), (f, .inr (3, [.ref e1, .ref e2, .int 5, .int 0])), (e1, wI tC 0 z1), ((qs 0), .inr (4, [.int 0, .int 1, .ref f, .int 0, .int (-1), .null, .int (-1), .null])), ((qs 4), .inr (4, [.int 4, .int 1, .ref f, .int 0, .int (-1), .null, .int (-1), .null])), ((qs 1), .inr (4, [.int 1, .int 1, .ref f, .int 0, .int (-1), .null, .int (-1), .null])), ((qs 2), .inr (4, [.int 2, .int 1, .ref f, .int 0, .int (-1), .null, .int (-1), .null])), ((qs 3), .inr (4, [.int 3, .int 1, .ref f, .int 0, .int (-1), .null, .int (-1), .null]))] H := hP
            have hD : va_D A [(x, .inr (5, [.ref a1, .ref a2, .ref a3, .ref a4])), (a1, wT tC 5 fs), (a4, wS tC 5 (va_up (va_up (va_up (va_up gf 0 none) 1 (some f)) 2 (some f)) 3 (some f))), (f, .inr (3, [.ref e1, .ref e2, .int 5, .int 0])), (e1, wI tC 0 z1), ((qs 0), .inr (4, [.int 0, .int 1, .ref f, .int 0, .int (-1), .null, .int (-1), .null])), ((qs 4), .inr (4, [.int 4, .int 1, .ref f, .int 0, .int (-1), .null, .int (-1), .null])), ((qs 1), .inr (4, [.int 1, .int 1, .ref f, .int 0, .int (-1), .null, .int (-1), .null])), ((qs 2), .inr (4, [.int 2, .int 1, .ref f, .int 0, .int (-1), .null, .int (-1), .null])), ((qs 3), .inr (4, [.int 3, .int 1, .ref f, .int 0, .int (-1), .null, .int (-1), .null]))] := hD
            refine lv_iinc (v := 4) (lv' := [(2, .int 4), (3, .int 1), (0, .ref x), (1, .int p0)]) hx hb dX4_allowed_81 hl (k := 1) rfl (by decide) (by decide) rfl (fun ls hl => ?_)
            refine lv_goto (tgt := 21) hx hb dX4_allowed_84 (by decide) ?_
            refine lv_iload_n hx hb dX4_allowed_21 rfl (lv_at hl 0 rfl) ?_
            refine lv_iconst (v := 5) hx hb dX4_allowed_22 (by decide) ?_
            refine lv_icmp_ge (tgt := 87) hx hb dX4_allowed_23 (by decide) (fun hc => absurd hc (by decide)) (fun _ => ?_)
            refine lv_iload_n hx hb dX4_allowed_26 rfl (lv_at hl 3 rfl) ?_
            refine lv_iconst (v := 1) hx hb dX4_allowed_27 (by decide) ?_
            refine lv_iload_n hx hb dX4_allowed_28 rfl (lv_at hl 0 rfl) ?_
            refine lv_ishl hx hb dX4_allowed_29 ?_
            refine lv_topi (fun z_131 ez_131 => ?_)
            have fz_131 : z_131 = 16 := ez_131.trans (by decide)
            subst fz_131
            refine lv_iand hx hb dX4_allowed_30 ?_
            refine lv_topi (fun z_132 ez_132 => ?_)
            refine lv_if_eq (tgt := 38) hx hb dX4_allowed_31 (by decide) (fun c_133 => ?_) (fun c_133 => ?_)
            · skip
              have hb4 : bqb p0 4 = false := bqF (ez_132.symm.trans c_133)
              refine lv_iconst (v := 0) hx hb dX4_allowed_38 (by decide) ?_
              refine lv_istore_n (lv' := [(3, .int 0), (2, .int 4), (0, .ref x), (1, .int p0)]) hx hb dX4_allowed_39 rfl hl (by decide) rfl (fun ls hl => ?_)
              refine lv_iload_n hx hb dX4_allowed_40 rfl (lv_at hl 0 rfl) ?_
              refine lv_if_eq (tgt := 58) hx hb dX4_allowed_41 (by decide) (fun _ => ?_) (fun hc => absurd (by decide) hc)
              refine lv_aload_n hx hb dX4_allowed_58 rfl (lv_at hl 2 rfl) ?_
              refine va_get (D := D) (ci := 5) (v := .ref a4) (C := RX4) (T := TX4) (N := 4) hx hb hts in_X4_allowed_X4 hown hK hP 0 rfl rfl 3 (by decide) w_0 (fun _ h9 => h9) rfl dX4_allowed_59 ?_
              refine lv_iload_n hx hb dX4_allowed_62 rfl (lv_at hl 1 rfl) ?_
              refine lv_iload_n hx hb dX4_allowed_63 rfl (lv_at hl 0 rfl) ?_
              refine lv_if_eq (tgt := 79) hx hb dX4_allowed_64 (by decide) (fun _ => ?_) (fun hc => absurd (by decide) hc)
              refine lv_null hx hb dX4_allowed_79 ?_
              refine va_astqN hx hb hK hP hD hS 2 2 rfl rfl (by unfold vp_in; decide) dX4_allowed_80 (fun H locs hP hD hS => ?_)
              have hP : va_P D vwCl [(x, .inr (5, [.ref a1, .ref a2, .ref a3, .ref a4])), (a1, wT tC 5 fs), (a4, wS tC 5 (va_up (va_up (va_up (va_up (va_up gf 0 none) 1 (some f)) 2 (some f)) 3 (some f)) 4 none)), (f, .inr (3, [.ref e1, .ref e2, .int 5, .int 0])), (e1, wI tC 0 z1), ((qs 0), .inr (4, [.int 0, .int 1, .ref f, .int 0, .int (-1), .null, .int (-1), .null])), ((qs 4), .inr (4, [.int 4, .int 1, .ref f, .int 0, .int (-1), .null, .int (-1), .null])), ((qs 1), .inr (4, [.int 1, .int 1, .ref f, .int 0, .int (-1), .null, .int (-1), .null])), ((qs 2), .inr (4, [.int 2, .int 1, .ref f, .int 0, .int (-1), .null, .int (-1), .null])), ((qs 3), .inr (4, [.int 3, .int 1, .ref f, .int 0, .int (-1), .null, .int (-1), .null]))] H := hP
              have hD : va_D A [(x, .inr (5, [.ref a1, .ref a2, .ref a3, .ref a4])), (a1, wT tC 5 fs), (a4, wS tC 5 (va_up (va_up (va_up (va_up (va_up gf 0 none) 1 (some f)) 2 (some f)) 3 (some f)) 4 none)), (f, .inr (3, [.ref e1, .ref e2, .int 5, .int 0])), (e1, wI tC 0 z1), ((qs 0), .inr (4, [.int 0, .int 1, .ref f, .int 0, .int (-1), .null, .int (-1), .null])), ((qs 4), .inr (4, [.int 4, .int 1, .ref f, .int 0, .int (-1), .null, .int (-1), .null])), ((qs 1), .inr (4, [.int 1, .int 1, .ref f, .int 0, .int (-1), .null, .int (-1), .null])), ((qs 2), .inr (4, [.int 2, .int 1, .ref f, .int 0, .int (-1), .null, .int (-1), .null])), ((qs 3), .inr (4, [.int 3, .int 1, .ref f, .int 0, .int (-1), .null, .int (-1), .null]))] := hD
              refine lv_iinc (v := 5) (lv' := [(2, .int 5), (3, .int 0), (0, .ref x), (1, .int p0)]) hx hb dX4_allowed_81 hl (k := 1) rfl (by decide) (by decide) rfl (fun ls hl => ?_)
              refine lv_goto (tgt := 21) hx hb dX4_allowed_84 (by decide) ?_
              refine lv_iload_n hx hb dX4_allowed_21 rfl (lv_at hl 0 rfl) ?_
              refine lv_iconst (v := 5) hx hb dX4_allowed_22 (by decide) ?_
              refine lv_icmp_ge (tgt := 87) hx hb dX4_allowed_23 (by decide) (fun _ => ?_) (fun hc => absurd (by decide) hc)
              refine lv_aload_n hx hb dX4_allowed_87 rfl (lv_at hl 2 rfl) ?_
              refine va_get (D := D) (ci := 5) (v := .ref a4) (C := RX4) (T := TX4) (N := 4) hx hb hts in_X4_allowed_X4 hown hK hP 0 rfl rfl 3 (by decide) w_0 (fun _ h9 => h9) rfl dX4_allowed_88 ?_
              have hPc := hP.sub (ws' := [(a4, wS tC 5 (va_up (va_up (va_up (va_up (va_up gf 0 none) 1 (some f)) 2 (some f)) 3 (some f)) 4 none)), (f, .inr (3, [.ref e1, .ref e2, .int 5, .int 0])), (e1, wI tC 0 z1)]) [2, 3, 4] rfl
              have hDc := hD.sub (ws' := [(a4, wS tC 5 (va_up (va_up (va_up (va_up (va_up gf 0 none) 1 (some f)) 2 (some f)) 3 (some f)) 4 none)), (f, .inr (3, [.ref e1, .ref e2, .int 5, .int 0])), (e1, wI tC 0 z1)]) [2, 3, 4] (by decide) rfl
              have hFc := va_free (wc := [(a4, wS tC 5 (va_up (va_up (va_up (va_up (va_up gf 0 none) 1 (some f)) 2 (some f)) 3 (some f)) 4 none)), (f, .inr (3, [.ref e1, .ref e2, .int 5, .int 0])), (e1, wI tC 0 z1)]) hD hS hA [2, 3, 4] rfl
              refine va_callq (va_runS (As := [.ref a4]) (rest := []) ⟨hx, hb, hml, hown, hts⟩ (c_X4_heldByHolders l hlt D tC dz H.size a4 (va_up (va_up (va_up (va_up (va_up gf 0 none) 1 (some f)) 2 (some f)) 3 (some f)) 4 none) (bqb p0) f e1 e2 z1 (by intro j hj; rcases (show j = 0 ∨ j = 1 ∨ j = 2 ∨ j = 3 ∨ j = 4 by omega) with rfl | rfl | rfl | rfl | rfl <;> simp [va_up, hb0, hb1, hb2, hb3, hb4])) (va_cwS 1 hts gX4_allowed_X4_heldByHolders rfl rfl rfl (by decide +kernel) ⟨Nat.le_of_ble_eq_true rfl, Nat.le_of_ble_eq_true rfl⟩) ⟨pB_blind, pB_at hPc hDc hK hN hE hS hFc⟩ rfl rfl hl.1 rfl (lv_room (Nat.le_of_ble_eq_true rfl)) dX4_allowed_91 ⟨Nat.le_of_ble_eq_true rfl, Nat.le_of_ble_eq_true rfl⟩) hS (fun q _ h => hFc q h) hFc (fun r_134 u t H1 locs ht hvm hw hB hz1 hk1 hS => ?_)
              obtain ⟨hP1, _, hD1⟩ := hB
              have hw_135 := hw
              rw [ht] at hP1
              obtain ⟨hP, hD⟩ := va_join (wr := [(x, .inr (5, [.ref a1, .ref a2, .ref a3, .ref a4])), (a1, wT tC 5 fs), ((qs 0), .inr (4, [.int 0, .int 1, .ref f, .int 0, .int (-1), .null, .int (-1), .null])), ((qs 4), .inr (4, [.int 4, .int 1, .ref f, .int 0, .int (-1), .null, .int (-1), .null])), ((qs 1), .inr (4, [.int 1, .int 1, .ref f, .int 0, .int (-1), .null, .int (-1), .null])), ((qs 2), .inr (4, [.int 2, .int 1, .ref f, .int 0, .int (-1), .null, .int (-1), .null])), ((qs 3), .inr (4, [.int 3, .int 1, .ref f, .int 0, .int (-1), .null, .int (-1), .null]))]) (w1 := [(a4, wS tC 5 (va_up (va_up (va_up (va_up (va_up gf 0 none) 1 (some f)) 2 (some f)) 3 (some f)) 4 none)), (f, .inr (3, [.ref e1, .ref e2, .int 5, .int 0])), (e1, wI tC 0 z1)]) hP hD [2, 3, 4] [0, 1, 5, 6, 7, 8, 9] rfl rfl (by decide) (by decide) hk1 hFc hP1 hD1
              generalize H1 = H at hP hS ⊢
              have hP : va_P D vwCl [(x, .inr (5, [.ref a1, .ref a2, .ref a3, .ref a4])), (a1, wT tC 5 fs), ((qs 0), .inr (4, [.int 0, .int 1, .ref f, .int 0, .int (-1), .null, .int (-1), .null])), ((qs 4), .inr (4, [.int 4, .int 1, .ref f, .int 0, .int (-1), .null, .int (-1), .null])), ((qs 1), .inr (4, [.int 1, .int 1, .ref f, .int 0, .int (-1), .null, .int (-1), .null])), ((qs 2), .inr (4, [.int 2, .int 1, .ref f, .int 0, .int (-1), .null, .int (-1), .null])), ((qs 3), .inr (4, [.int 3, .int 1, .ref f, .int 0, .int (-1), .null, .int (-1), .null])), (a4, wS tC 5 (va_up (va_up (va_up (va_up (va_up gf 0 none) 1 (some f)) 2 (some f)) 3 (some f)) 4 none)), (f, .inr (3, [.ref e1, .ref e2, .int 5, .int 0])), (e1, wI tC 0 z1)] H := hP
              have hD : va_D A [(x, .inr (5, [.ref a1, .ref a2, .ref a3, .ref a4])), (a1, wT tC 5 fs), ((qs 0), .inr (4, [.int 0, .int 1, .ref f, .int 0, .int (-1), .null, .int (-1), .null])), ((qs 4), .inr (4, [.int 4, .int 1, .ref f, .int 0, .int (-1), .null, .int (-1), .null])), ((qs 1), .inr (4, [.int 1, .int 1, .ref f, .int 0, .int (-1), .null, .int (-1), .null])), ((qs 2), .inr (4, [.int 2, .int 1, .ref f, .int 0, .int (-1), .null, .int (-1), .null])), ((qs 3), .inr (4, [.int 3, .int 1, .ref f, .int 0, .int (-1), .null, .int (-1), .null])), (a4, wS tC 5 (va_up (va_up (va_up (va_up (va_up gf 0 none) 1 (some f)) 2 (some f)) 3 (some f)) 4 none)), (f, .inr (3, [.ref e1, .ref e2, .int 5, .int 0])), (e1, wI tC 0 z1)] := hD
              have q1 : r_134 = some f := hw_135.trans (by rw [hb0, hb1, hb2, hb3, hb4] <;> rfl)
              subst q1
              refine W.eq (g2 := F0 m 94 ls [.ref f]) rfl ?_
              refine lv_astore_n (lv' := [(2, .ref f), (3, .int 0), (0, .ref x), (1, .int p0)]) hx hb dX4_allowed_94 rfl hl (by decide) rfl (fun ls hl => ?_)
              refine lv_aload_n hx hb dX4_allowed_95 rfl (lv_at hl 0 rfl) ?_
              refine lv_ifnull hx hb dX4_allowed_96 ?_
              refine lv_aload_n hx hb dX4_allowed_99 rfl (lv_at hl 2 rfl) ?_
              refine va_get (D := D) (ci := 5) (v := .ref a4) (C := RX4) (T := TX4) (N := 4) hx hb hts in_X4_allowed_X4 hown hK hP 0 rfl rfl 3 (by decide) w_0 (fun _ h9 => h9) rfl dX4_allowed_100 ?_
              refine lv_aload_n hx hb dX4_allowed_103 rfl (lv_at hl 0 rfl) ?_
              have hPc := hP.sub (ws' := [(a4, wS tC 5 (va_up (va_up (va_up (va_up (va_up gf 0 none) 1 (some f)) 2 (some f)) 3 (some f)) 4 none)), (f, .inr (3, [.ref e1, .ref e2, .int 5, .int 0])), (e1, wI tC 0 z1)]) [7, 8, 9] rfl
              have hDc := hD.sub (ws' := [(a4, wS tC 5 (va_up (va_up (va_up (va_up (va_up gf 0 none) 1 (some f)) 2 (some f)) 3 (some f)) 4 none)), (f, .inr (3, [.ref e1, .ref e2, .int 5, .int 0])), (e1, wI tC 0 z1)]) [7, 8, 9] (by decide) rfl
              have hFc := va_free (wc := [(a4, wS tC 5 (va_up (va_up (va_up (va_up (va_up gf 0 none) 1 (some f)) 2 (some f)) 3 (some f)) 4 none)), (f, .inr (3, [.ref e1, .ref e2, .int 5, .int 0])), (e1, wI tC 0 z1)]) hD hS hA [7, 8, 9] rfl
              refine va_calli (va_runS (As := [.ref a4, .ref f]) (rest := []) ⟨hx, hb, hml, hown, hts⟩ (c_X4_mayGoOn l hlt D tC dz H.size a4 (va_up (va_up (va_up (va_up (va_up gf 0 none) 1 (some f)) 2 (some f)) 3 (some f)) 4 none) (bqb p0) f e1 e2 z1 (by intro j hj; rcases (show j = 0 ∨ j = 1 ∨ j = 2 ∨ j = 3 ∨ j = 4 by omega) with rfl | rfl | rfl | rfl | rfl <;> simp [va_up, hb0, hb1, hb2, hb3, hb4])) (va_cwS 2 hts gX4_allowed_X4_mayGoOn rfl rfl rfl (by decide +kernel) ⟨Nat.le_of_ble_eq_true rfl, Nat.le_of_ble_eq_true rfl⟩) ⟨pB_blind, pB_at hPc hDc hK hN hE hS hFc⟩ rfl rfl hl.1 rfl (lv_room (Nat.le_of_ble_eq_true rfl)) dX4_allowed_104 ⟨Nat.le_of_ble_eq_true rfl, Nat.le_of_ble_eq_true rfl⟩) hS (fun q _ h => hFc q h) hFc (fun r_136 u t H1 locs ht hvm hw hB hz1 hk1 hS => ?_)
              obtain ⟨hP1, _, hD1⟩ := hB
              have hw_137 := hw
              rw [ht] at hP1
              obtain ⟨hP, hD⟩ := va_join (wr := [(x, .inr (5, [.ref a1, .ref a2, .ref a3, .ref a4])), (a1, wT tC 5 fs), ((qs 0), .inr (4, [.int 0, .int 1, .ref f, .int 0, .int (-1), .null, .int (-1), .null])), ((qs 4), .inr (4, [.int 4, .int 1, .ref f, .int 0, .int (-1), .null, .int (-1), .null])), ((qs 1), .inr (4, [.int 1, .int 1, .ref f, .int 0, .int (-1), .null, .int (-1), .null])), ((qs 2), .inr (4, [.int 2, .int 1, .ref f, .int 0, .int (-1), .null, .int (-1), .null])), ((qs 3), .inr (4, [.int 3, .int 1, .ref f, .int 0, .int (-1), .null, .int (-1), .null]))]) (w1 := [(a4, wS tC 5 (va_up (va_up (va_up (va_up (va_up gf 0 none) 1 (some f)) 2 (some f)) 3 (some f)) 4 none)), (f, .inr (3, [.ref e1, .ref e2, .int 5, .int 0])), (e1, wI tC 0 z1)]) hP hD [7, 8, 9] [0, 1, 2, 3, 4, 5, 6] rfl rfl (by decide) (by decide) hk1 hFc hP1 hD1
              generalize H1 = H at hP hS ⊢
              have hP : va_P D vwCl [(x, .inr (5, [.ref a1, .ref a2, .ref a3, .ref a4])), (a1, wT tC 5 fs), ((qs 0), .inr (4, [.int 0, .int 1, .ref f, .int 0, .int (-1), .null, .int (-1), .null])), ((qs 4), .inr (4, [.int 4, .int 1, .ref f, .int 0, .int (-1), .null, .int (-1), .null])), ((qs 1), .inr (4, [.int 1, .int 1, .ref f, .int 0, .int (-1), .null, .int (-1), .null])), ((qs 2), .inr (4, [.int 2, .int 1, .ref f, .int 0, .int (-1), .null, .int (-1), .null])), ((qs 3), .inr (4, [.int 3, .int 1, .ref f, .int 0, .int (-1), .null, .int (-1), .null])), (a4, wS tC 5 (va_up (va_up (va_up (va_up (va_up gf 0 none) 1 (some f)) 2 (some f)) 3 (some f)) 4 none)), (f, .inr (3, [.ref e1, .ref e2, .int 5, .int 0])), (e1, wI tC 0 z1)] H := hP
              have hD : va_D A [(x, .inr (5, [.ref a1, .ref a2, .ref a3, .ref a4])), (a1, wT tC 5 fs), ((qs 0), .inr (4, [.int 0, .int 1, .ref f, .int 0, .int (-1), .null, .int (-1), .null])), ((qs 4), .inr (4, [.int 4, .int 1, .ref f, .int 0, .int (-1), .null, .int (-1), .null])), ((qs 1), .inr (4, [.int 1, .int 1, .ref f, .int 0, .int (-1), .null, .int (-1), .null])), ((qs 2), .inr (4, [.int 2, .int 1, .ref f, .int 0, .int (-1), .null, .int (-1), .null])), ((qs 3), .inr (4, [.int 3, .int 1, .ref f, .int 0, .int (-1), .null, .int (-1), .null])), (a4, wS tC 5 (va_up (va_up (va_up (va_up (va_up gf 0 none) 1 (some f)) 2 (some f)) 3 (some f)) 4 none)), (f, .inr (3, [.ref e1, .ref e2, .int 5, .int 0])), (e1, wI tC 0 z1)] := hD
              have q1 : r_136 = 1 := hw_137.trans (by unfold mayg cntb; rw [hb0, hb1, hb2, hb3, hb4] <;> decide)
              subst q1
              refine lv_if_eq (tgt := 114) hx hb dX4_allowed_107 (by decide) (fun hc => absurd hc (by decide)) (fun _ => ?_)
              refine lv_iconst (v := 1) hx hb dX4_allowed_110 (by decide) ?_
              refine lv_goto (tgt := 115) hx hb dX4_allowed_111 (by decide) ?_
              have hP9 := hP.sub (ws' := []) [] rfl
              have hD9 := hD.sub (ws' := []) [] (by decide) rfl
              refine W.widen (k := 1) (n := 6) (by omega) (by omega) ?_
              exact vx_ret (W.zret (v := 1) hx hb hr (by decide) (fun t ht hW => ⟨⟨1, (), rfl, ⟨(by unfold mayg cntb; rw [hb0, hb1, hb2, hb3, hb4] <;> decide), bl1 hw_2 c_3⟩, (by rw [ht]; exact hP9), va_K.moved hW.alike hK, hD9⟩, hS.F ht⟩) hS.2.2 dX4_allowed_115 hlocks)
            · skip
              have hb4 : bqb p0 4 = true := bqT (fun h => c_133 (ez_132.trans h))
              refine lv_iconst (v := 1) hx hb dX4_allowed_34 (by decide) ?_
              refine lv_goto (tgt := 39) hx hb dX4_allowed_35 (by decide) ?_
              refine lv_istore_n (lv' := [(3, .int 1), (2, .int 4), (0, .ref x), (1, .int p0)]) hx hb dX4_allowed_39 rfl hl (by decide) rfl (fun ls hl => ?_)
              refine lv_iload_n hx hb dX4_allowed_40 rfl (lv_at hl 0 rfl) ?_
              refine lv_if_eq (tgt := 58) hx hb dX4_allowed_41 (by decide) (fun hc => absurd hc (by decide)) (fun _ => ?_)
              refine lv_aload_n hx hb dX4_allowed_44 rfl (lv_at hl 2 rfl) ?_
              refine va_get (D := D) (ci := 5) (v := .ref a1) (C := RX4) (T := TX4) (N := 4) hx hb hts in_X4_allowed_X4 hown hK hP 0 rfl rfl 0 (by decide) w_1 (fun _ h9 => h9) rfl dX4_allowed_45 ?_
              refine lv_iload_n hx hb dX4_allowed_48 rfl (lv_at hl 1 rfl) ?_
              refine va_aldq hx hb hK hP 1 3 rfl rfl (by unfold vp_in; decide) dX4_allowed_49 ?_
              rw [show fs (4 : Int32).toNatClampNeg = some (qs 4) from (by rw [show (4 : Int32).toNatClampNeg = 4 by decide]; exact hfs 4 (by decide))]
              refine W.eq (g2 := F0 m 50 ls [.ref (qs 4)]) rfl ?_
              have hPc := hP.sub (ws' := [((qs 4), .inr (4, [.int 4, .int 1, .ref f, .int 0, .int (-1), .null, .int (-1), .null]))]) [6] rfl
              have hDc := hD.sub (ws' := [((qs 4), .inr (4, [.int 4, .int 1, .ref f, .int 0, .int (-1), .null, .int (-1), .null]))]) [6] (by decide) rfl
              have hFc := va_free (wc := [((qs 4), .inr (4, [.int 4, .int 1, .ref f, .int 0, .int (-1), .null, .int (-1), .null]))]) hD hS hA [6] rfl
              refine va_calli (va_runVN (As := []) (rest := []) ⟨hx, hb, hml, hown, hts⟩ (c_X3_isFree l hlt D tC dz H.size f (qs 4) 4 ) ⟨(va_cnB (host := "NoticeStations") 0 hts gX4_allowed_X3_isFree_n240 rfl rfl rfl (hN.1 (.methodLinkNest "NoticeStations" 240 ⟨"NoticeStations$Station", "isFree", "()Z"⟩ "NoticeStations") (by decide +kernel)) w_2 (by decide +kernel) ⟨Nat.le_of_ble_eq_true rfl, Nat.le_of_ble_eq_true rfl⟩), w_3, w_4⟩ ⟨pB_blind, va_recv hK hPc (ci := 4) (q0 := 0) rfl rfl, pB_at hPc hDc hK hN hE hS hFc⟩ rfl rfl hl.1 rfl (lv_room (Nat.le_of_ble_eq_true rfl)) dX4_allowed_50 ⟨Nat.le_of_ble_eq_true rfl, Nat.le_of_ble_eq_true rfl⟩) hS (fun q _ h => hFc q h) hFc (fun r_138 u t H1 locs ht hvm hw hB hz1 hk1 hS => ?_)
              obtain ⟨hP1, _, hD1⟩ := hB
              have hw_139 := hw
              rw [ht] at hP1
              obtain ⟨hP, hD⟩ := va_join (wr := [(x, .inr (5, [.ref a1, .ref a2, .ref a3, .ref a4])), (a1, wT tC 5 fs), (a4, wS tC 5 (va_up (va_up (va_up (va_up gf 0 none) 1 (some f)) 2 (some f)) 3 (some f))), (f, .inr (3, [.ref e1, .ref e2, .int 5, .int 0])), (e1, wI tC 0 z1), ((qs 0), .inr (4, [.int 0, .int 1, .ref f, .int 0, .int (-1), .null, .int (-1), .null])), ((qs 1), .inr (4, [.int 1, .int 1, .ref f, .int 0, .int (-1), .null, .int (-1), .null])), ((qs 2), .inr (4, [.int 2, .int 1, .ref f, .int 0, .int (-1), .null, .int (-1), .null])), ((qs 3), .inr (4, [.int 3, .int 1, .ref f, .int 0, .int (-1), .null, .int (-1), .null]))]) (w1 := [((qs 4), .inr (4, [.int 4, .int 1, .ref f, .int 0, .int (-1), .null, .int (-1), .null]))]) hP hD [6] [0, 1, 2, 3, 4, 5, 7, 8, 9] rfl rfl (by decide) (by decide) hk1 hFc hP1 hD1
              generalize H1 = H at hP hS ⊢
              have hP : va_P D vwCl [(x, .inr (5, [.ref a1, .ref a2, .ref a3, .ref a4])), (a1, wT tC 5 fs), (a4, wS tC 5 (va_up (va_up (va_up (va_up gf 0 none) 1 (some f)) 2 (some f)) 3 (some f))), (f, .inr (3, [.ref e1, .ref e2, .int 5, .int 0])), (e1, wI tC 0 z1), ((qs 0), .inr (4, [.int 0, .int 1, .ref f, .int 0, .int (-1), .null, .int (-1), .null])), ((qs 1), .inr (4, [.int 1, .int 1, .ref f, .int 0, .int (-1), .null, .int (-1), .null])), ((qs 2), .inr (4, [.int 2, .int 1, .ref f, .int 0, .int (-1), .null, .int (-1), .null])), ((qs 3), .inr (4, [.int 3, .int 1, .ref f, .int 0, .int (-1), .null, .int (-1), .null])), ((qs 4), .inr (4, [.int 4, .int 1, .ref f, .int 0, .int (-1), .null, .int (-1), .null]))] H := hP
              have hD : va_D A [(x, .inr (5, [.ref a1, .ref a2, .ref a3, .ref a4])), (a1, wT tC 5 fs), (a4, wS tC 5 (va_up (va_up (va_up (va_up gf 0 none) 1 (some f)) 2 (some f)) 3 (some f))), (f, .inr (3, [.ref e1, .ref e2, .int 5, .int 0])), (e1, wI tC 0 z1), ((qs 0), .inr (4, [.int 0, .int 1, .ref f, .int 0, .int (-1), .null, .int (-1), .null])), ((qs 1), .inr (4, [.int 1, .int 1, .ref f, .int 0, .int (-1), .null, .int (-1), .null])), ((qs 2), .inr (4, [.int 2, .int 1, .ref f, .int 0, .int (-1), .null, .int (-1), .null])), ((qs 3), .inr (4, [.int 3, .int 1, .ref f, .int 0, .int (-1), .null, .int (-1), .null])), ((qs 4), .inr (4, [.int 4, .int 1, .ref f, .int 0, .int (-1), .null, .int (-1), .null]))] := hD
              subst hw_139
              refine lv_if_ne (tgt := 58) hx hb dX4_allowed_53 (by decide) (fun _ => ?_) (fun hc => absurd hc (by decide))
              refine lv_aload_n hx hb dX4_allowed_58 rfl (lv_at hl 2 rfl) ?_
              refine va_get (D := D) (ci := 5) (v := .ref a4) (C := RX4) (T := TX4) (N := 4) hx hb hts in_X4_allowed_X4 hown hK hP 0 rfl rfl 3 (by decide) w_0 (fun _ h9 => h9) rfl dX4_allowed_59 ?_
              refine lv_iload_n hx hb dX4_allowed_62 rfl (lv_at hl 1 rfl) ?_
              refine lv_iload_n hx hb dX4_allowed_63 rfl (lv_at hl 0 rfl) ?_
              refine lv_if_eq (tgt := 79) hx hb dX4_allowed_64 (by decide) (fun hc => absurd hc (by decide)) (fun _ => ?_)
              refine lv_aload_n hx hb dX4_allowed_67 rfl (lv_at hl 2 rfl) ?_
              refine va_get (D := D) (ci := 5) (v := .ref a1) (C := RX4) (T := TX4) (N := 4) hx hb hts in_X4_allowed_X4 hown hK hP 0 rfl rfl 0 (by decide) w_1 (fun _ h9 => h9) rfl dX4_allowed_68 ?_
              refine lv_iload_n hx hb dX4_allowed_71 rfl (lv_at hl 1 rfl) ?_
              refine va_aldq hx hb hK hP 1 3 rfl rfl (by unfold vp_in; decide) dX4_allowed_72 ?_
              rw [show fs (4 : Int32).toNatClampNeg = some (qs 4) from (by rw [show (4 : Int32).toNatClampNeg = 4 by decide]; exact hfs 4 (by decide))]
              refine W.eq (g2 := F0 m 73 ls [.ref (qs 4), .int 4, .ref a4]) rfl ?_
              refine va_getN (host := "NoticeStations") (D := D) (ci := 4) (v := .ref f) (C := RX3) (T := TX3) (N := 8) hx hb hts in_X4_allowed_X3 hown hK hP 9 rfl rfl 2 (by decide) (va_Nw.use rfl (hN.1 (.fieldLinkNest "NoticeStations" 61 "NoticeStations$Station" "stored" "LNoticeStations$Standing;" "NoticeStations") (by decide +kernel))) (fun _ h9 => h9) rfl dX4_allowed_73 ?_
              refine lv_goto (tgt := 80) hx hb dX4_allowed_76 (by decide) ?_
              refine va_astq hx hb hK hP hD hS 2 2 3 3 rfl rfl rfl rfl (by unfold vp_in; decide) dX4_allowed_80 (fun H locs hP hD hS => ?_)
              have hP : va_P D vwCl [(x, .inr (5, [.ref a1, .ref a2, .ref a3, .ref a4])), (a1, wT tC 5 fs), (a4, wS tC 5 (va_up (va_up (va_up (va_up (va_up gf 0 none) 1 (some f)) 2 (some f)) 3 (some f)) 4 (some f))), (f, .inr (3, [.ref e1, .ref e2, .int 5, .int 0])), (e1, wI tC 0 z1), ((qs 0), .inr (4, [.int 0, .int 1, .ref f, .int 0, .int (-1), .null, .int (-1), .null])), ((qs 1), .inr (4, [.int 1, .int 1, .ref f, .int 0, .int (-1), .null, .int (-1), .null])), ((qs 2), .inr (4, [.int 2, .int 1, .ref f, .int 0, .int (-1), .null, .int (-1), .null])), ((qs 3), .inr (4, [.int 3, .int 1, .ref f, .int 0, .int (-1), .null, .int (-1), .null])), ((qs 4), .inr (4, [.int 4, .int 1, .ref f, .int 0, .int (-1), .null, .int (-1), .null]))] H := hP
              have hD : va_D A [(x, .inr (5, [.ref a1, .ref a2, .ref a3, .ref a4])), (a1, wT tC 5 fs), (a4, wS tC 5 (va_up (va_up (va_up (va_up (va_up gf 0 none) 1 (some f)) 2 (some f)) 3 (some f)) 4 (some f))), (f, .inr (3, [.ref e1, .ref e2, .int 5, .int 0])), (e1, wI tC 0 z1), ((qs 0), .inr (4, [.int 0, .int 1, .ref f, .int 0, .int (-1), .null, .int (-1), .null])), ((qs 1), .inr (4, [.int 1, .int 1, .ref f, .int 0, .int (-1), .null, .int (-1), .null])), ((qs 2), .inr (4, [.int 2, .int 1, .ref f, .int 0, .int (-1), .null, .int (-1), .null])), ((qs 3), .inr (4, [.int 3, .int 1, .ref f, .int 0, .int (-1), .null, .int (-1), .null])), ((qs 4), .inr (4, [.int 4, .int 1, .ref f, .int 0, .int (-1), .null, .int (-1), .null]))] := hD
              refine lv_iinc (v := 5) (lv' := [(2, .int 5), (3, .int 1), (0, .ref x), (1, .int p0)]) hx hb dX4_allowed_81 hl (k := 1) rfl (by decide) (by decide) rfl (fun ls hl => ?_)
              refine lv_goto (tgt := 21) hx hb dX4_allowed_84 (by decide) ?_
              refine lv_iload_n hx hb dX4_allowed_21 rfl (lv_at hl 0 rfl) ?_
              refine lv_iconst (v := 5) hx hb dX4_allowed_22 (by decide) ?_
              refine lv_icmp_ge (tgt := 87) hx hb dX4_allowed_23 (by decide) (fun _ => ?_) (fun hc => absurd (by decide) hc)
              refine lv_aload_n hx hb dX4_allowed_87 rfl (lv_at hl 2 rfl) ?_
              refine va_get (D := D) (ci := 5) (v := .ref a4) (C := RX4) (T := TX4) (N := 4) hx hb hts in_X4_allowed_X4 hown hK hP 0 rfl rfl 3 (by decide) w_0 (fun _ h9 => h9) rfl dX4_allowed_88 ?_
              have hPc := hP.sub (ws' := [(a4, wS tC 5 (va_up (va_up (va_up (va_up (va_up gf 0 none) 1 (some f)) 2 (some f)) 3 (some f)) 4 (some f))), (f, .inr (3, [.ref e1, .ref e2, .int 5, .int 0])), (e1, wI tC 0 z1)]) [2, 3, 4] rfl
              have hDc := hD.sub (ws' := [(a4, wS tC 5 (va_up (va_up (va_up (va_up (va_up gf 0 none) 1 (some f)) 2 (some f)) 3 (some f)) 4 (some f))), (f, .inr (3, [.ref e1, .ref e2, .int 5, .int 0])), (e1, wI tC 0 z1)]) [2, 3, 4] (by decide) rfl
              have hFc := va_free (wc := [(a4, wS tC 5 (va_up (va_up (va_up (va_up (va_up gf 0 none) 1 (some f)) 2 (some f)) 3 (some f)) 4 (some f))), (f, .inr (3, [.ref e1, .ref e2, .int 5, .int 0])), (e1, wI tC 0 z1)]) hD hS hA [2, 3, 4] rfl
              refine va_callq (va_runS (As := [.ref a4]) (rest := []) ⟨hx, hb, hml, hown, hts⟩ (c_X4_heldByHolders l hlt D tC dz H.size a4 (va_up (va_up (va_up (va_up (va_up gf 0 none) 1 (some f)) 2 (some f)) 3 (some f)) 4 (some f)) (bqb p0) f e1 e2 z1 (by intro j hj; rcases (show j = 0 ∨ j = 1 ∨ j = 2 ∨ j = 3 ∨ j = 4 by omega) with rfl | rfl | rfl | rfl | rfl <;> simp [va_up, hb0, hb1, hb2, hb3, hb4])) (va_cwS 1 hts gX4_allowed_X4_heldByHolders rfl rfl rfl (by decide +kernel) ⟨Nat.le_of_ble_eq_true rfl, Nat.le_of_ble_eq_true rfl⟩) ⟨pB_blind, pB_at hPc hDc hK hN hE hS hFc⟩ rfl rfl hl.1 rfl (lv_room (Nat.le_of_ble_eq_true rfl)) dX4_allowed_91 ⟨Nat.le_of_ble_eq_true rfl, Nat.le_of_ble_eq_true rfl⟩) hS (fun q _ h => hFc q h) hFc (fun r_140 u t H1 locs ht hvm hw hB hz1 hk1 hS => ?_)
              obtain ⟨hP1, _, hD1⟩ := hB
              have hw_141 := hw
              rw [ht] at hP1
              obtain ⟨hP, hD⟩ := va_join (wr := [(x, .inr (5, [.ref a1, .ref a2, .ref a3, .ref a4])), (a1, wT tC 5 fs), ((qs 0), .inr (4, [.int 0, .int 1, .ref f, .int 0, .int (-1), .null, .int (-1), .null])), ((qs 1), .inr (4, [.int 1, .int 1, .ref f, .int 0, .int (-1), .null, .int (-1), .null])), ((qs 2), .inr (4, [.int 2, .int 1, .ref f, .int 0, .int (-1), .null, .int (-1), .null])), ((qs 3), .inr (4, [.int 3, .int 1, .ref f, .int 0, .int (-1), .null, .int (-1), .null])), ((qs 4), .inr (4, [.int 4, .int 1, .ref f, .int 0, .int (-1), .null, .int (-1), .null]))]) (w1 := [(a4, wS tC 5 (va_up (va_up (va_up (va_up (va_up gf 0 none) 1 (some f)) 2 (some f)) 3 (some f)) 4 (some f))), (f, .inr (3, [.ref e1, .ref e2, .int 5, .int 0])), (e1, wI tC 0 z1)]) hP hD [2, 3, 4] [0, 1, 5, 6, 7, 8, 9] rfl rfl (by decide) (by decide) hk1 hFc hP1 hD1
              generalize H1 = H at hP hS ⊢
              have hP : va_P D vwCl [(x, .inr (5, [.ref a1, .ref a2, .ref a3, .ref a4])), (a1, wT tC 5 fs), ((qs 0), .inr (4, [.int 0, .int 1, .ref f, .int 0, .int (-1), .null, .int (-1), .null])), ((qs 1), .inr (4, [.int 1, .int 1, .ref f, .int 0, .int (-1), .null, .int (-1), .null])), ((qs 2), .inr (4, [.int 2, .int 1, .ref f, .int 0, .int (-1), .null, .int (-1), .null])), ((qs 3), .inr (4, [.int 3, .int 1, .ref f, .int 0, .int (-1), .null, .int (-1), .null])), ((qs 4), .inr (4, [.int 4, .int 1, .ref f, .int 0, .int (-1), .null, .int (-1), .null])), (a4, wS tC 5 (va_up (va_up (va_up (va_up (va_up gf 0 none) 1 (some f)) 2 (some f)) 3 (some f)) 4 (some f))), (f, .inr (3, [.ref e1, .ref e2, .int 5, .int 0])), (e1, wI tC 0 z1)] H := hP
              have hD : va_D A [(x, .inr (5, [.ref a1, .ref a2, .ref a3, .ref a4])), (a1, wT tC 5 fs), ((qs 0), .inr (4, [.int 0, .int 1, .ref f, .int 0, .int (-1), .null, .int (-1), .null])), ((qs 1), .inr (4, [.int 1, .int 1, .ref f, .int 0, .int (-1), .null, .int (-1), .null])), ((qs 2), .inr (4, [.int 2, .int 1, .ref f, .int 0, .int (-1), .null, .int (-1), .null])), ((qs 3), .inr (4, [.int 3, .int 1, .ref f, .int 0, .int (-1), .null, .int (-1), .null])), ((qs 4), .inr (4, [.int 4, .int 1, .ref f, .int 0, .int (-1), .null, .int (-1), .null])), (a4, wS tC 5 (va_up (va_up (va_up (va_up (va_up gf 0 none) 1 (some f)) 2 (some f)) 3 (some f)) 4 (some f))), (f, .inr (3, [.ref e1, .ref e2, .int 5, .int 0])), (e1, wI tC 0 z1)] := hD
              have q1 : r_140 = some f := hw_141.trans (by rw [hb0, hb1, hb2, hb3, hb4] <;> rfl)
              subst q1
              refine W.eq (g2 := F0 m 94 ls [.ref f]) rfl ?_
              refine lv_astore_n (lv' := [(2, .ref f), (3, .int 1), (0, .ref x), (1, .int p0)]) hx hb dX4_allowed_94 rfl hl (by decide) rfl (fun ls hl => ?_)
              refine lv_aload_n hx hb dX4_allowed_95 rfl (lv_at hl 0 rfl) ?_
              refine lv_ifnull hx hb dX4_allowed_96 ?_
              refine lv_aload_n hx hb dX4_allowed_99 rfl (lv_at hl 2 rfl) ?_
              refine va_get (D := D) (ci := 5) (v := .ref a4) (C := RX4) (T := TX4) (N := 4) hx hb hts in_X4_allowed_X4 hown hK hP 0 rfl rfl 3 (by decide) w_0 (fun _ h9 => h9) rfl dX4_allowed_100 ?_
              refine lv_aload_n hx hb dX4_allowed_103 rfl (lv_at hl 0 rfl) ?_
              have hPc := hP.sub (ws' := [(a4, wS tC 5 (va_up (va_up (va_up (va_up (va_up gf 0 none) 1 (some f)) 2 (some f)) 3 (some f)) 4 (some f))), (f, .inr (3, [.ref e1, .ref e2, .int 5, .int 0])), (e1, wI tC 0 z1)]) [7, 8, 9] rfl
              have hDc := hD.sub (ws' := [(a4, wS tC 5 (va_up (va_up (va_up (va_up (va_up gf 0 none) 1 (some f)) 2 (some f)) 3 (some f)) 4 (some f))), (f, .inr (3, [.ref e1, .ref e2, .int 5, .int 0])), (e1, wI tC 0 z1)]) [7, 8, 9] (by decide) rfl
              have hFc := va_free (wc := [(a4, wS tC 5 (va_up (va_up (va_up (va_up (va_up gf 0 none) 1 (some f)) 2 (some f)) 3 (some f)) 4 (some f))), (f, .inr (3, [.ref e1, .ref e2, .int 5, .int 0])), (e1, wI tC 0 z1)]) hD hS hA [7, 8, 9] rfl
              refine va_calli (va_runS (As := [.ref a4, .ref f]) (rest := []) ⟨hx, hb, hml, hown, hts⟩ (c_X4_mayGoOn l hlt D tC dz H.size a4 (va_up (va_up (va_up (va_up (va_up gf 0 none) 1 (some f)) 2 (some f)) 3 (some f)) 4 (some f)) (bqb p0) f e1 e2 z1 (by intro j hj; rcases (show j = 0 ∨ j = 1 ∨ j = 2 ∨ j = 3 ∨ j = 4 by omega) with rfl | rfl | rfl | rfl | rfl <;> simp [va_up, hb0, hb1, hb2, hb3, hb4])) (va_cwS 2 hts gX4_allowed_X4_mayGoOn rfl rfl rfl (by decide +kernel) ⟨Nat.le_of_ble_eq_true rfl, Nat.le_of_ble_eq_true rfl⟩) ⟨pB_blind, pB_at hPc hDc hK hN hE hS hFc⟩ rfl rfl hl.1 rfl (lv_room (Nat.le_of_ble_eq_true rfl)) dX4_allowed_104 ⟨Nat.le_of_ble_eq_true rfl, Nat.le_of_ble_eq_true rfl⟩) hS (fun q _ h => hFc q h) hFc (fun r_142 u t H1 locs ht hvm hw hB hz1 hk1 hS => ?_)
              obtain ⟨hP1, _, hD1⟩ := hB
              have hw_143 := hw
              rw [ht] at hP1
              obtain ⟨hP, hD⟩ := va_join (wr := [(x, .inr (5, [.ref a1, .ref a2, .ref a3, .ref a4])), (a1, wT tC 5 fs), ((qs 0), .inr (4, [.int 0, .int 1, .ref f, .int 0, .int (-1), .null, .int (-1), .null])), ((qs 1), .inr (4, [.int 1, .int 1, .ref f, .int 0, .int (-1), .null, .int (-1), .null])), ((qs 2), .inr (4, [.int 2, .int 1, .ref f, .int 0, .int (-1), .null, .int (-1), .null])), ((qs 3), .inr (4, [.int 3, .int 1, .ref f, .int 0, .int (-1), .null, .int (-1), .null])), ((qs 4), .inr (4, [.int 4, .int 1, .ref f, .int 0, .int (-1), .null, .int (-1), .null]))]) (w1 := [(a4, wS tC 5 (va_up (va_up (va_up (va_up (va_up gf 0 none) 1 (some f)) 2 (some f)) 3 (some f)) 4 (some f))), (f, .inr (3, [.ref e1, .ref e2, .int 5, .int 0])), (e1, wI tC 0 z1)]) hP hD [7, 8, 9] [0, 1, 2, 3, 4, 5, 6] rfl rfl (by decide) (by decide) hk1 hFc hP1 hD1
              generalize H1 = H at hP hS ⊢
              have hP : va_P D vwCl [(x, .inr (5, [.ref a1, .ref a2, .ref a3, .ref a4])), (a1, wT tC 5 fs), ((qs 0), .inr (4, [.int 0, .int 1, .ref f, .int 0, .int (-1), .null, .int (-1), .null])), ((qs 1), .inr (4, [.int 1, .int 1, .ref f, .int 0, .int (-1), .null, .int (-1), .null])), ((qs 2), .inr (4, [.int 2, .int 1, .ref f, .int 0, .int (-1), .null, .int (-1), .null])), ((qs 3), .inr (4, [.int 3, .int 1, .ref f, .int 0, .int (-1), .null, .int (-1), .null])), ((qs 4), .inr (4, [.int 4, .int 1, .ref f, .int 0, .int (-1), .null, .int (-1), .null])), (a4, wS tC 5 (va_up (va_up (va_up (va_up (va_up gf 0 none) 1 (some f)) 2 (some f)) 3 (some f)) 4 (some f))), (f, .inr (3, [.ref e1, .ref e2, .int 5, .int 0])), (e1, wI tC 0 z1)] H := hP
              have hD : va_D A [(x, .inr (5, [.ref a1, .ref a2, .ref a3, .ref a4])), (a1, wT tC 5 fs), ((qs 0), .inr (4, [.int 0, .int 1, .ref f, .int 0, .int (-1), .null, .int (-1), .null])), ((qs 1), .inr (4, [.int 1, .int 1, .ref f, .int 0, .int (-1), .null, .int (-1), .null])), ((qs 2), .inr (4, [.int 2, .int 1, .ref f, .int 0, .int (-1), .null, .int (-1), .null])), ((qs 3), .inr (4, [.int 3, .int 1, .ref f, .int 0, .int (-1), .null, .int (-1), .null])), ((qs 4), .inr (4, [.int 4, .int 1, .ref f, .int 0, .int (-1), .null, .int (-1), .null])), (a4, wS tC 5 (va_up (va_up (va_up (va_up (va_up gf 0 none) 1 (some f)) 2 (some f)) 3 (some f)) 4 (some f))), (f, .inr (3, [.ref e1, .ref e2, .int 5, .int 0])), (e1, wI tC 0 z1)] := hD
              have q1 : r_142 = 1 := hw_143.trans (by unfold mayg cntb; rw [hb0, hb1, hb2, hb3, hb4] <;> decide)
              subst q1
              refine lv_if_eq (tgt := 114) hx hb dX4_allowed_107 (by decide) (fun hc => absurd hc (by decide)) (fun _ => ?_)
              refine lv_iconst (v := 1) hx hb dX4_allowed_110 (by decide) ?_
              refine lv_goto (tgt := 115) hx hb dX4_allowed_111 (by decide) ?_
              have hP9 := hP.sub (ws' := []) [] rfl
              have hD9 := hD.sub (ws' := []) [] (by decide) rfl
              refine W.widen (k := 1) (n := 6) (by omega) (by omega) ?_
              exact vx_ret (W.zret (v := 1) hx hb hr (by decide) (fun t ht hW => ⟨⟨1, (), rfl, ⟨(by unfold mayg cntb; rw [hb0, hb1, hb2, hb3, hb4] <;> decide), bl1 hw_2 c_3⟩, (by rw [ht]; exact hP9), va_K.moved hW.alike hK, hD9⟩, hS.F ht⟩) hS.2.2 dX4_allowed_115 hlocks)
    · skip
      have hb0 : bqb p0 0 = true := bqT (fun h => c_6 (ez_5.trans h))
      refine lv_iconst (v := 1) hx hb dX4_allowed_34 (by decide) ?_
      refine lv_goto (tgt := 39) hx hb dX4_allowed_35 (by decide) ?_
      refine lv_istore_n (lv' := [(3, .int 1), (2, .int 0), (0, .ref x), (1, .int p0)]) hx hb dX4_allowed_39 rfl hl (by decide) rfl (fun ls hl => ?_)
      refine lv_iload_n hx hb dX4_allowed_40 rfl (lv_at hl 0 rfl) ?_
      refine lv_if_eq (tgt := 58) hx hb dX4_allowed_41 (by decide) (fun hc => absurd hc (by decide)) (fun _ => ?_)
      refine lv_aload_n hx hb dX4_allowed_44 rfl (lv_at hl 2 rfl) ?_
      refine va_get (D := D) (ci := 5) (v := .ref a1) (C := RX4) (T := TX4) (N := 4) hx hb hts in_X4_allowed_X4 hown hK hP 0 rfl rfl 0 (by decide) w_1 (fun _ h9 => h9) rfl dX4_allowed_45 ?_
      refine lv_iload_n hx hb dX4_allowed_48 rfl (lv_at hl 1 rfl) ?_
      refine va_aldq hx hb hK hP 1 3 rfl rfl (by unfold vp_in; decide) dX4_allowed_49 ?_
      rw [show fs (0 : Int32).toNatClampNeg = some (qs 0) from (by rw [show (0 : Int32).toNatClampNeg = 0 by decide]; exact hfs 0 (by decide))]
      refine W.eq (g2 := F0 m 50 ls [.ref (qs 0)]) rfl ?_
      have hPc := hP.sub (ws' := [((qs 0), .inr (4, [.int 0, .int 1, .ref f, .int 0, .int (-1), .null, .int (-1), .null]))]) [5] rfl
      have hDc := hD.sub (ws' := [((qs 0), .inr (4, [.int 0, .int 1, .ref f, .int 0, .int (-1), .null, .int (-1), .null]))]) [5] (by decide) rfl
      have hFc := va_free (wc := [((qs 0), .inr (4, [.int 0, .int 1, .ref f, .int 0, .int (-1), .null, .int (-1), .null]))]) hD hS hA [5] rfl
      refine va_calli (va_runVN (As := []) (rest := []) ⟨hx, hb, hml, hown, hts⟩ (c_X3_isFree l hlt D tC dz H.size f (qs 0) 0 ) ⟨(va_cnB (host := "NoticeStations") 0 hts gX4_allowed_X3_isFree_n240 rfl rfl rfl (hN.1 (.methodLinkNest "NoticeStations" 240 ⟨"NoticeStations$Station", "isFree", "()Z"⟩ "NoticeStations") (by decide +kernel)) w_2 (by decide +kernel) ⟨Nat.le_of_ble_eq_true rfl, Nat.le_of_ble_eq_true rfl⟩), w_3, w_4⟩ ⟨pB_blind, va_recv hK hPc (ci := 4) (q0 := 0) rfl rfl, pB_at hPc hDc hK hN hE hS hFc⟩ rfl rfl hl.1 rfl (lv_room (Nat.le_of_ble_eq_true rfl)) dX4_allowed_50 ⟨Nat.le_of_ble_eq_true rfl, Nat.le_of_ble_eq_true rfl⟩) hS (fun q _ h => hFc q h) hFc (fun r_144 u t H1 locs ht hvm hw hB hz1 hk1 hS => ?_)
      obtain ⟨hP1, _, hD1⟩ := hB
      have hw_145 := hw
      rw [ht] at hP1
      obtain ⟨hP, hD⟩ := va_join (wr := [(x, .inr (5, [.ref a1, .ref a2, .ref a3, .ref a4])), (a1, wT tC 5 fs), (a4, wS tC 5 gf), (f, .inr (3, [.ref e1, .ref e2, .int 5, .int 0])), (e1, wI tC 0 z1), ((qs 1), .inr (4, [.int 1, .int 1, .ref f, .int 0, .int (-1), .null, .int (-1), .null])), ((qs 2), .inr (4, [.int 2, .int 1, .ref f, .int 0, .int (-1), .null, .int (-1), .null])), ((qs 3), .inr (4, [.int 3, .int 1, .ref f, .int 0, .int (-1), .null, .int (-1), .null])), ((qs 4), .inr (4, [.int 4, .int 1, .ref f, .int 0, .int (-1), .null, .int (-1), .null]))]) (w1 := [((qs 0), .inr (4, [.int 0, .int 1, .ref f, .int 0, .int (-1), .null, .int (-1), .null]))]) hP hD [5] [0, 1, 2, 3, 4, 6, 7, 8, 9] rfl rfl (by decide) (by decide) hk1 hFc hP1 hD1
      generalize H1 = H at hP hS ⊢
      have hP : va_P D vwCl [(x, .inr (5, [.ref a1, .ref a2, .ref a3, .ref a4])), (a1, wT tC 5 fs), (a4, wS tC 5 gf), (f, .inr (3, [.ref e1, .ref e2, .int 5, .int 0])), (e1, wI tC 0 z1), ((qs 1), .inr (4, [.int 1, .int 1, .ref f, .int 0, .int (-1), .null, .int (-1), .null])), ((qs 2), .inr (4, [.int 2, .int 1, .ref f, .int 0, .int (-1), .null, .int (-1), .null])), ((qs 3), .inr (4, [.int 3, .int 1, .ref f, .int 0, .int (-1), .null, .int (-1), .null])), ((qs 4), .inr (4, [.int 4, .int 1, .ref f, .int 0, .int (-1), .null, .int (-1), .null])), ((qs 0), .inr (4, [.int 0, .int 1, .ref f, .int 0, .int (-1), .null, .int (-1), .null]))] H := hP
      have hD : va_D A [(x, .inr (5, [.ref a1, .ref a2, .ref a3, .ref a4])), (a1, wT tC 5 fs), (a4, wS tC 5 gf), (f, .inr (3, [.ref e1, .ref e2, .int 5, .int 0])), (e1, wI tC 0 z1), ((qs 1), .inr (4, [.int 1, .int 1, .ref f, .int 0, .int (-1), .null, .int (-1), .null])), ((qs 2), .inr (4, [.int 2, .int 1, .ref f, .int 0, .int (-1), .null, .int (-1), .null])), ((qs 3), .inr (4, [.int 3, .int 1, .ref f, .int 0, .int (-1), .null, .int (-1), .null])), ((qs 4), .inr (4, [.int 4, .int 1, .ref f, .int 0, .int (-1), .null, .int (-1), .null])), ((qs 0), .inr (4, [.int 0, .int 1, .ref f, .int 0, .int (-1), .null, .int (-1), .null]))] := hD
      subst hw_145
      refine lv_if_ne (tgt := 58) hx hb dX4_allowed_53 (by decide) (fun _ => ?_) (fun hc => absurd hc (by decide))
      refine lv_aload_n hx hb dX4_allowed_58 rfl (lv_at hl 2 rfl) ?_
      refine va_get (D := D) (ci := 5) (v := .ref a4) (C := RX4) (T := TX4) (N := 4) hx hb hts in_X4_allowed_X4 hown hK hP 0 rfl rfl 3 (by decide) w_0 (fun _ h9 => h9) rfl dX4_allowed_59 ?_
      refine lv_iload_n hx hb dX4_allowed_62 rfl (lv_at hl 1 rfl) ?_
      refine lv_iload_n hx hb dX4_allowed_63 rfl (lv_at hl 0 rfl) ?_
      refine lv_if_eq (tgt := 79) hx hb dX4_allowed_64 (by decide) (fun hc => absurd hc (by decide)) (fun _ => ?_)
      refine lv_aload_n hx hb dX4_allowed_67 rfl (lv_at hl 2 rfl) ?_
      refine va_get (D := D) (ci := 5) (v := .ref a1) (C := RX4) (T := TX4) (N := 4) hx hb hts in_X4_allowed_X4 hown hK hP 0 rfl rfl 0 (by decide) w_1 (fun _ h9 => h9) rfl dX4_allowed_68 ?_
      refine lv_iload_n hx hb dX4_allowed_71 rfl (lv_at hl 1 rfl) ?_
      refine va_aldq hx hb hK hP 1 3 rfl rfl (by unfold vp_in; decide) dX4_allowed_72 ?_
      rw [show fs (0 : Int32).toNatClampNeg = some (qs 0) from (by rw [show (0 : Int32).toNatClampNeg = 0 by decide]; exact hfs 0 (by decide))]
      refine W.eq (g2 := F0 m 73 ls [.ref (qs 0), .int 0, .ref a4]) rfl ?_
      refine va_getN (host := "NoticeStations") (D := D) (ci := 4) (v := .ref f) (C := RX3) (T := TX3) (N := 8) hx hb hts in_X4_allowed_X3 hown hK hP 9 rfl rfl 2 (by decide) (va_Nw.use rfl (hN.1 (.fieldLinkNest "NoticeStations" 61 "NoticeStations$Station" "stored" "LNoticeStations$Standing;" "NoticeStations") (by decide +kernel))) (fun _ h9 => h9) rfl dX4_allowed_73 ?_
      refine lv_goto (tgt := 80) hx hb dX4_allowed_76 (by decide) ?_
      refine va_astq hx hb hK hP hD hS 2 2 3 3 rfl rfl rfl rfl (by unfold vp_in; decide) dX4_allowed_80 (fun H locs hP hD hS => ?_)
      have hP : va_P D vwCl [(x, .inr (5, [.ref a1, .ref a2, .ref a3, .ref a4])), (a1, wT tC 5 fs), (a4, wS tC 5 (va_up gf 0 (some f))), (f, .inr (3, [.ref e1, .ref e2, .int 5, .int 0])), (e1, wI tC 0 z1), ((qs 1), .inr (4, [.int 1, .int 1, .ref f, .int 0, .int (-1), .null, .int (-1), .null])), ((qs 2), .inr (4, [.int 2, .int 1, .ref f, .int 0, .int (-1), .null, .int (-1), .null])), ((qs 3), .inr (4, [.int 3, .int 1, .ref f, .int 0, .int (-1), .null, .int (-1), .null])), ((qs 4), .inr (4, [.int 4, .int 1, .ref f, .int 0, .int (-1), .null, .int (-1), .null])), ((qs 0), .inr (4, [.int 0, .int 1, .ref f, .int 0, .int (-1), .null, .int (-1), .null]))] H := hP
      have hD : va_D A [(x, .inr (5, [.ref a1, .ref a2, .ref a3, .ref a4])), (a1, wT tC 5 fs), (a4, wS tC 5 (va_up gf 0 (some f))), (f, .inr (3, [.ref e1, .ref e2, .int 5, .int 0])), (e1, wI tC 0 z1), ((qs 1), .inr (4, [.int 1, .int 1, .ref f, .int 0, .int (-1), .null, .int (-1), .null])), ((qs 2), .inr (4, [.int 2, .int 1, .ref f, .int 0, .int (-1), .null, .int (-1), .null])), ((qs 3), .inr (4, [.int 3, .int 1, .ref f, .int 0, .int (-1), .null, .int (-1), .null])), ((qs 4), .inr (4, [.int 4, .int 1, .ref f, .int 0, .int (-1), .null, .int (-1), .null])), ((qs 0), .inr (4, [.int 0, .int 1, .ref f, .int 0, .int (-1), .null, .int (-1), .null]))] := hD
      refine lv_iinc (v := 1) (lv' := [(2, .int 1), (3, .int 1), (0, .ref x), (1, .int p0)]) hx hb dX4_allowed_81 hl (k := 1) rfl (by decide) (by decide) rfl (fun ls hl => ?_)
      refine lv_goto (tgt := 21) hx hb dX4_allowed_84 (by decide) ?_
      refine lv_iload_n hx hb dX4_allowed_21 rfl (lv_at hl 0 rfl) ?_
      refine lv_iconst (v := 5) hx hb dX4_allowed_22 (by decide) ?_
      refine lv_icmp_ge (tgt := 87) hx hb dX4_allowed_23 (by decide) (fun hc => absurd hc (by decide)) (fun _ => ?_)
      refine lv_iload_n hx hb dX4_allowed_26 rfl (lv_at hl 3 rfl) ?_
      refine lv_iconst (v := 1) hx hb dX4_allowed_27 (by decide) ?_
      refine lv_iload_n hx hb dX4_allowed_28 rfl (lv_at hl 0 rfl) ?_
      refine lv_ishl hx hb dX4_allowed_29 ?_
      refine lv_topi (fun z_146 ez_146 => ?_)
      have fz_146 : z_146 = 2 := ez_146.trans (by decide)
      subst fz_146
      refine lv_iand hx hb dX4_allowed_30 ?_
      refine lv_topi (fun z_147 ez_147 => ?_)
      refine lv_if_eq (tgt := 38) hx hb dX4_allowed_31 (by decide) (fun c_148 => ?_) (fun c_148 => ?_)
      · skip
        have hb1 : bqb p0 1 = false := bqF (ez_147.symm.trans c_148)
        refine lv_iconst (v := 0) hx hb dX4_allowed_38 (by decide) ?_
        refine lv_istore_n (lv' := [(3, .int 0), (2, .int 1), (0, .ref x), (1, .int p0)]) hx hb dX4_allowed_39 rfl hl (by decide) rfl (fun ls hl => ?_)
        refine lv_iload_n hx hb dX4_allowed_40 rfl (lv_at hl 0 rfl) ?_
        refine lv_if_eq (tgt := 58) hx hb dX4_allowed_41 (by decide) (fun _ => ?_) (fun hc => absurd (by decide) hc)
        refine lv_aload_n hx hb dX4_allowed_58 rfl (lv_at hl 2 rfl) ?_
        refine va_get (D := D) (ci := 5) (v := .ref a4) (C := RX4) (T := TX4) (N := 4) hx hb hts in_X4_allowed_X4 hown hK hP 0 rfl rfl 3 (by decide) w_0 (fun _ h9 => h9) rfl dX4_allowed_59 ?_
        refine lv_iload_n hx hb dX4_allowed_62 rfl (lv_at hl 1 rfl) ?_
        refine lv_iload_n hx hb dX4_allowed_63 rfl (lv_at hl 0 rfl) ?_
        refine lv_if_eq (tgt := 79) hx hb dX4_allowed_64 (by decide) (fun _ => ?_) (fun hc => absurd (by decide) hc)
        refine lv_null hx hb dX4_allowed_79 ?_
        refine va_astqN hx hb hK hP hD hS 2 2 rfl rfl (by unfold vp_in; decide) dX4_allowed_80 (fun H locs hP hD hS => ?_)
        have hP : va_P D vwCl [(x, .inr (5, [.ref a1, .ref a2, .ref a3, .ref a4])), (a1, wT tC 5 fs), (a4, wS tC 5 (va_up (va_up gf 0 (some f)) 1 none)), (f, .inr (3, [.ref e1, .ref e2, .int 5, .int 0])), (e1, wI tC 0 z1), ((qs 1), .inr (4, [.int 1, .int 1, .ref f, .int 0, .int (-1), .null, .int (-1), .null])), ((qs 2), .inr (4, [.int 2, .int 1, .ref f, .int 0, .int (-1), .null, .int (-1), .null])), ((qs 3), .inr (4, [.int 3, .int 1, .ref f, .int 0, .int (-1), .null, .int (-1), .null])), ((qs 4), .inr (4, [.int 4, .int 1, .ref f, .int 0, .int (-1), .null, .int (-1), .null])), ((qs 0), .inr (4, [.int 0, .int 1, .ref f, .int 0, .int (-1), .null, .int (-1), .null]))] H := hP
        have hD : va_D A [(x, .inr (5, [.ref a1, .ref a2, .ref a3, .ref a4])), (a1, wT tC 5 fs), (a4, wS tC 5 (va_up (va_up gf 0 (some f)) 1 none)), (f, .inr (3, [.ref e1, .ref e2, .int 5, .int 0])), (e1, wI tC 0 z1), ((qs 1), .inr (4, [.int 1, .int 1, .ref f, .int 0, .int (-1), .null, .int (-1), .null])), ((qs 2), .inr (4, [.int 2, .int 1, .ref f, .int 0, .int (-1), .null, .int (-1), .null])), ((qs 3), .inr (4, [.int 3, .int 1, .ref f, .int 0, .int (-1), .null, .int (-1), .null])), ((qs 4), .inr (4, [.int 4, .int 1, .ref f, .int 0, .int (-1), .null, .int (-1), .null])), ((qs 0), .inr (4, [.int 0, .int 1, .ref f, .int 0, .int (-1), .null, .int (-1), .null]))] := hD
        refine lv_iinc (v := 2) (lv' := [(2, .int 2), (3, .int 0), (0, .ref x), (1, .int p0)]) hx hb dX4_allowed_81 hl (k := 1) rfl (by decide) (by decide) rfl (fun ls hl => ?_)
        refine lv_goto (tgt := 21) hx hb dX4_allowed_84 (by decide) ?_
        refine lv_iload_n hx hb dX4_allowed_21 rfl (lv_at hl 0 rfl) ?_
        refine lv_iconst (v := 5) hx hb dX4_allowed_22 (by decide) ?_
        refine lv_icmp_ge (tgt := 87) hx hb dX4_allowed_23 (by decide) (fun hc => absurd hc (by decide)) (fun _ => ?_)
        refine lv_iload_n hx hb dX4_allowed_26 rfl (lv_at hl 3 rfl) ?_
        refine lv_iconst (v := 1) hx hb dX4_allowed_27 (by decide) ?_
        refine lv_iload_n hx hb dX4_allowed_28 rfl (lv_at hl 0 rfl) ?_
        refine lv_ishl hx hb dX4_allowed_29 ?_
        refine lv_topi (fun z_149 ez_149 => ?_)
        have fz_149 : z_149 = 4 := ez_149.trans (by decide)
        subst fz_149
        refine lv_iand hx hb dX4_allowed_30 ?_
        refine lv_topi (fun z_150 ez_150 => ?_)
        refine lv_if_eq (tgt := 38) hx hb dX4_allowed_31 (by decide) (fun c_151 => ?_) (fun c_151 => ?_)
        · skip
          have hb2 : bqb p0 2 = false := bqF (ez_150.symm.trans c_151)
          refine lv_iconst (v := 0) hx hb dX4_allowed_38 (by decide) ?_
          refine lv_istore_n (lv' := [(3, .int 0), (2, .int 2), (0, .ref x), (1, .int p0)]) hx hb dX4_allowed_39 rfl hl (by decide) rfl (fun ls hl => ?_)
          refine lv_iload_n hx hb dX4_allowed_40 rfl (lv_at hl 0 rfl) ?_
          refine lv_if_eq (tgt := 58) hx hb dX4_allowed_41 (by decide) (fun _ => ?_) (fun hc => absurd (by decide) hc)
          refine lv_aload_n hx hb dX4_allowed_58 rfl (lv_at hl 2 rfl) ?_
          refine va_get (D := D) (ci := 5) (v := .ref a4) (C := RX4) (T := TX4) (N := 4) hx hb hts in_X4_allowed_X4 hown hK hP 0 rfl rfl 3 (by decide) w_0 (fun _ h9 => h9) rfl dX4_allowed_59 ?_
          refine lv_iload_n hx hb dX4_allowed_62 rfl (lv_at hl 1 rfl) ?_
          refine lv_iload_n hx hb dX4_allowed_63 rfl (lv_at hl 0 rfl) ?_
          refine lv_if_eq (tgt := 79) hx hb dX4_allowed_64 (by decide) (fun _ => ?_) (fun hc => absurd (by decide) hc)
          refine lv_null hx hb dX4_allowed_79 ?_
          refine va_astqN hx hb hK hP hD hS 2 2 rfl rfl (by unfold vp_in; decide) dX4_allowed_80 (fun H locs hP hD hS => ?_)
          have hP : va_P D vwCl [(x, .inr (5, [.ref a1, .ref a2, .ref a3, .ref a4])), (a1, wT tC 5 fs), (a4, wS tC 5 (va_up (va_up (va_up gf 0 (some f)) 1 none) 2 none)), (f, .inr (3, [.ref e1, .ref e2, .int 5, .int 0])), (e1, wI tC 0 z1), ((qs 1), .inr (4, [.int 1, .int 1, .ref f, .int 0, .int (-1), .null, .int (-1), .null])), ((qs 2), .inr (4, [.int 2, .int 1, .ref f, .int 0, .int (-1), .null, .int (-1), .null])), ((qs 3), .inr (4, [.int 3, .int 1, .ref f, .int 0, .int (-1), .null, .int (-1), .null])), ((qs 4), .inr (4, [.int 4, .int 1, .ref f, .int 0, .int (-1), .null, .int (-1), .null])), ((qs 0), .inr (4, [.int 0, .int 1, .ref f, .int 0, .int (-1), .null, .int (-1), .null]))] H := hP
          have hD : va_D A [(x, .inr (5, [.ref a1, .ref a2, .ref a3, .ref a4])), (a1, wT tC 5 fs), (a4, wS tC 5 (va_up (va_up (va_up gf 0 (some f)) 1 none) 2 none)), (f, .inr (3, [.ref e1, .ref e2, .int 5, .int 0])), (e1, wI tC 0 z1), ((qs 1), .inr (4, [.int 1, .int 1, .ref f, .int 0, .int (-1), .null, .int (-1), .null])), ((qs 2), .inr (4, [.int 2, .int 1, .ref f, .int 0, .int (-1), .null, .int (-1), .null])), ((qs 3), .inr (4, [.int 3, .int 1, .ref f, .int 0, .int (-1), .null, .int (-1), .null])), ((qs 4), .inr (4, [.int 4, .int 1, .ref f, .int 0, .int (-1), .null, .int (-1), .null])), ((qs 0), .inr (4, [.int 0, .int 1, .ref f, .int 0, .int (-1), .null, .int (-1), .null]))] := hD
          refine lv_iinc (v := 3) (lv' := [(2, .int 3), (3, .int 0), (0, .ref x), (1, .int p0)]) hx hb dX4_allowed_81 hl (k := 1) rfl (by decide) (by decide) rfl (fun ls hl => ?_)
          refine lv_goto (tgt := 21) hx hb dX4_allowed_84 (by decide) ?_
          refine lv_iload_n hx hb dX4_allowed_21 rfl (lv_at hl 0 rfl) ?_
          refine lv_iconst (v := 5) hx hb dX4_allowed_22 (by decide) ?_
          refine lv_icmp_ge (tgt := 87) hx hb dX4_allowed_23 (by decide) (fun hc => absurd hc (by decide)) (fun _ => ?_)
          refine lv_iload_n hx hb dX4_allowed_26 rfl (lv_at hl 3 rfl) ?_
          refine lv_iconst (v := 1) hx hb dX4_allowed_27 (by decide) ?_
          refine lv_iload_n hx hb dX4_allowed_28 rfl (lv_at hl 0 rfl) ?_
          refine lv_ishl hx hb dX4_allowed_29 ?_
          refine lv_topi (fun z_152 ez_152 => ?_)
          have fz_152 : z_152 = 8 := ez_152.trans (by decide)
          subst fz_152
          refine lv_iand hx hb dX4_allowed_30 ?_
          refine lv_topi (fun z_153 ez_153 => ?_)
          refine lv_if_eq (tgt := 38) hx hb dX4_allowed_31 (by decide) (fun c_154 => ?_) (fun c_154 => ?_)
          · skip
            have hb3 : bqb p0 3 = false := bqF (ez_153.symm.trans c_154)
            refine lv_iconst (v := 0) hx hb dX4_allowed_38 (by decide) ?_
            refine lv_istore_n (lv' := [(3, .int 0), (2, .int 3), (0, .ref x), (1, .int p0)]) hx hb dX4_allowed_39 rfl hl (by decide) rfl (fun ls hl => ?_)
            refine lv_iload_n hx hb dX4_allowed_40 rfl (lv_at hl 0 rfl) ?_
            refine lv_if_eq (tgt := 58) hx hb dX4_allowed_41 (by decide) (fun _ => ?_) (fun hc => absurd (by decide) hc)
            refine lv_aload_n hx hb dX4_allowed_58 rfl (lv_at hl 2 rfl) ?_
            refine va_get (D := D) (ci := 5) (v := .ref a4) (C := RX4) (T := TX4) (N := 4) hx hb hts in_X4_allowed_X4 hown hK hP 0 rfl rfl 3 (by decide) w_0 (fun _ h9 => h9) rfl dX4_allowed_59 ?_
            refine lv_iload_n hx hb dX4_allowed_62 rfl (lv_at hl 1 rfl) ?_
            refine lv_iload_n hx hb dX4_allowed_63 rfl (lv_at hl 0 rfl) ?_
            refine lv_if_eq (tgt := 79) hx hb dX4_allowed_64 (by decide) (fun _ => ?_) (fun hc => absurd (by decide) hc)
            refine lv_null hx hb dX4_allowed_79 ?_
            refine va_astqN hx hb hK hP hD hS 2 2 rfl rfl (by unfold vp_in; decide) dX4_allowed_80 (fun H locs hP hD hS => ?_)
            have hP : va_P D vwCl [(x, .inr (5, [.ref a1, .ref a2, .ref a3, .ref a4])), (a1, wT tC 5 fs), (a4, wS tC 5 (va_up (va_up (va_up (va_up gf 0 (some f)) 1 none) 2 none) 3 none)), (f, .inr (3, [.ref e1, .ref e2, .int 5, .int 0])), (e1, wI tC 0 z1), ((qs 1), .inr (4, [.int 1, .int 1, .ref f, .int 0, .int (-1), .null, .int (-1), .null])), ((qs 2), .inr (4, [.int 2, .int 1, .ref f, .int 0, .int (-1), .null, .int (-1), .null])), ((qs 3), .inr (4, [.int 3, .int 1, .ref f, .int 0, .int (-1), .null, .int (-1), .null])), ((qs 4), .inr (4, [.int 4, .int 1, .ref f, .int 0, .int (-1), .null, .int (-1), .null])), ((qs 0), .inr (4, [.int 0, .int 1, .ref f, .int 0, .int (-1), .null, .int (-1), .null]))] H := hP
            have hD : va_D A [(x, .inr (5, [.ref a1, .ref a2, .ref a3, .ref a4])), (a1, wT tC 5 fs), (a4, wS tC 5 (va_up (va_up (va_up (va_up gf 0 (some f)) 1 none) 2 none) 3 none)), (f, .inr (3, [.ref e1, .ref e2, .int 5, .int 0])), (e1, wI tC 0 z1), ((qs 1), .inr (4, [.int 1, .int 1, .ref f, .int 0, .int (-1), .null, .int (-1), .null])), ((qs 2), .inr (4, [.int 2, .int 1, .ref f, .int 0, .int (-1), .null, .int (-1), .null])), ((qs 3), .inr (4, [.int 3, .int 1, .ref f, .int 0, .int (-1), .null, .int (-1), .null])), ((qs 4), .inr (4, [.int 4, .int 1, .ref f, .int 0, .int (-1), .null, .int (-1), .null])), ((qs 0), .inr (4, [.int 0, .int 1, .ref f, .int 0, .int (-1), .null, .int (-1), .null]))] := hD
            refine lv_iinc (v := 4) (lv' := [(2, .int 4), (3, .int 0), (0, .ref x), (1, .int p0)]) hx hb dX4_allowed_81 hl (k := 1) rfl (by decide) (by decide) rfl (fun ls hl => ?_)
            refine lv_goto (tgt := 21) hx hb dX4_allowed_84 (by decide) ?_
            refine lv_iload_n hx hb dX4_allowed_21 rfl (lv_at hl 0 rfl) ?_
            refine lv_iconst (v := 5) hx hb dX4_allowed_22 (by decide) ?_
            refine lv_icmp_ge (tgt := 87) hx hb dX4_allowed_23 (by decide) (fun hc => absurd hc (by decide)) (fun _ => ?_)
            refine lv_iload_n hx hb dX4_allowed_26 rfl (lv_at hl 3 rfl) ?_
            refine lv_iconst (v := 1) hx hb dX4_allowed_27 (by decide) ?_
            refine lv_iload_n hx hb dX4_allowed_28 rfl (lv_at hl 0 rfl) ?_
            refine lv_ishl hx hb dX4_allowed_29 ?_
            refine lv_topi (fun z_155 ez_155 => ?_)
            have fz_155 : z_155 = 16 := ez_155.trans (by decide)
            subst fz_155
            refine lv_iand hx hb dX4_allowed_30 ?_
            refine lv_topi (fun z_156 ez_156 => ?_)
            refine lv_if_eq (tgt := 38) hx hb dX4_allowed_31 (by decide) (fun c_157 => ?_) (fun c_157 => ?_)
            · skip
              have hb4 : bqb p0 4 = false := bqF (ez_156.symm.trans c_157)
              refine lv_iconst (v := 0) hx hb dX4_allowed_38 (by decide) ?_
              refine lv_istore_n (lv' := [(3, .int 0), (2, .int 4), (0, .ref x), (1, .int p0)]) hx hb dX4_allowed_39 rfl hl (by decide) rfl (fun ls hl => ?_)
              refine lv_iload_n hx hb dX4_allowed_40 rfl (lv_at hl 0 rfl) ?_
              refine lv_if_eq (tgt := 58) hx hb dX4_allowed_41 (by decide) (fun _ => ?_) (fun hc => absurd (by decide) hc)
              refine lv_aload_n hx hb dX4_allowed_58 rfl (lv_at hl 2 rfl) ?_
              refine va_get (D := D) (ci := 5) (v := .ref a4) (C := RX4) (T := TX4) (N := 4) hx hb hts in_X4_allowed_X4 hown hK hP 0 rfl rfl 3 (by decide) w_0 (fun _ h9 => h9) rfl dX4_allowed_59 ?_
              refine lv_iload_n hx hb dX4_allowed_62 rfl (lv_at hl 1 rfl) ?_
              refine lv_iload_n hx hb dX4_allowed_63 rfl (lv_at hl 0 rfl) ?_
              refine lv_if_eq (tgt := 79) hx hb dX4_allowed_64 (by decide) (fun _ => ?_) (fun hc => absurd (by decide) hc)
              refine lv_null hx hb dX4_allowed_79 ?_
              refine va_astqN hx hb hK hP hD hS 2 2 rfl rfl (by unfold vp_in; decide) dX4_allowed_80 (fun H locs hP hD hS => ?_)
              have hP : va_P D vwCl [(x, .inr (5, [.ref a1, .ref a2, .ref a3, .ref a4])), (a1, wT tC 5 fs), (a4, wS tC 5 (va_up (va_up (va_up (va_up (va_up gf 0 (some f)) 1 none) 2 none) 3 none) 4 none)), (f, .inr (3, [.ref e1, .ref e2, .int 5, .int 0])), (e1, wI tC 0 z1), ((qs 1), .inr (4, [.int 1, .int 1, .ref f, .int 0, .int (-1), .null, .int (-1), .null])), ((qs 2), .inr (4, [.int 2, .int 1, .ref f, .int 0, .int (-1), .null, .int (-1), .null])), ((qs 3), .inr (4, [.int 3, .int 1, .ref f, .int 0, .int (-1), .null, .int (-1), .null])), ((qs 4), .inr (4, [.int 4, .int 1, .ref f, .int 0, .int (-1), .null, .int (-1), .null])), ((qs 0), .inr (4, [.int 0, .int 1, .ref f, .int 0, .int (-1), .null, .int (-1), .null]))] H := hP
              have hD : va_D A [(x, .inr (5, [.ref a1, .ref a2, .ref a3, .ref a4])), (a1, wT tC 5 fs), (a4, wS tC 5 (va_up (va_up (va_up (va_up (va_up gf 0 (some f)) 1 none) 2 none) 3 none) 4 none)), (f, .inr (3, [.ref e1, .ref e2, .int 5, .int 0])), (e1, wI tC 0 z1), ((qs 1), .inr (4, [.int 1, .int 1, .ref f, .int 0, .int (-1), .null, .int (-1), .null])), ((qs 2), .inr (4, [.int 2, .int 1, .ref f, .int 0, .int (-1), .null, .int (-1), .null])), ((qs 3), .inr (4, [.int 3, .int 1, .ref f, .int 0, .int (-1), .null, .int (-1), .null])), ((qs 4), .inr (4, [.int 4, .int 1, .ref f, .int 0, .int (-1), .null, .int (-1), .null])), ((qs 0), .inr (4, [.int 0, .int 1, .ref f, .int 0, .int (-1), .null, .int (-1), .null]))] := hD
              refine lv_iinc (v := 5) (lv' := [(2, .int 5), (3, .int 0), (0, .ref x), (1, .int p0)]) hx hb dX4_allowed_81 hl (k := 1) rfl (by decide) (by decide) rfl (fun ls hl => ?_)
              refine lv_goto (tgt := 21) hx hb dX4_allowed_84 (by decide) ?_
              refine lv_iload_n hx hb dX4_allowed_21 rfl (lv_at hl 0 rfl) ?_
              refine lv_iconst (v := 5) hx hb dX4_allowed_22 (by decide) ?_
              refine lv_icmp_ge (tgt := 87) hx hb dX4_allowed_23 (by decide) (fun _ => ?_) (fun hc => absurd (by decide) hc)
              refine lv_aload_n hx hb dX4_allowed_87 rfl (lv_at hl 2 rfl) ?_
              refine va_get (D := D) (ci := 5) (v := .ref a4) (C := RX4) (T := TX4) (N := 4) hx hb hts in_X4_allowed_X4 hown hK hP 0 rfl rfl 3 (by decide) w_0 (fun _ h9 => h9) rfl dX4_allowed_88 ?_
              have hPc := hP.sub (ws' := [(a4, wS tC 5 (va_up (va_up (va_up (va_up (va_up gf 0 (some f)) 1 none) 2 none) 3 none) 4 none)), (f, .inr (3, [.ref e1, .ref e2, .int 5, .int 0])), (e1, wI tC 0 z1)]) [2, 3, 4] rfl
              have hDc := hD.sub (ws' := [(a4, wS tC 5 (va_up (va_up (va_up (va_up (va_up gf 0 (some f)) 1 none) 2 none) 3 none) 4 none)), (f, .inr (3, [.ref e1, .ref e2, .int 5, .int 0])), (e1, wI tC 0 z1)]) [2, 3, 4] (by decide) rfl
              have hFc := va_free (wc := [(a4, wS tC 5 (va_up (va_up (va_up (va_up (va_up gf 0 (some f)) 1 none) 2 none) 3 none) 4 none)), (f, .inr (3, [.ref e1, .ref e2, .int 5, .int 0])), (e1, wI tC 0 z1)]) hD hS hA [2, 3, 4] rfl
              refine va_callq (va_runS (As := [.ref a4]) (rest := []) ⟨hx, hb, hml, hown, hts⟩ (c_X4_heldByHolders l hlt D tC dz H.size a4 (va_up (va_up (va_up (va_up (va_up gf 0 (some f)) 1 none) 2 none) 3 none) 4 none) (bqb p0) f e1 e2 z1 (by intro j hj; rcases (show j = 0 ∨ j = 1 ∨ j = 2 ∨ j = 3 ∨ j = 4 by omega) with rfl | rfl | rfl | rfl | rfl <;> simp [va_up, hb0, hb1, hb2, hb3, hb4])) (va_cwS 1 hts gX4_allowed_X4_heldByHolders rfl rfl rfl (by decide +kernel) ⟨Nat.le_of_ble_eq_true rfl, Nat.le_of_ble_eq_true rfl⟩) ⟨pB_blind, pB_at hPc hDc hK hN hE hS hFc⟩ rfl rfl hl.1 rfl (lv_room (Nat.le_of_ble_eq_true rfl)) dX4_allowed_91 ⟨Nat.le_of_ble_eq_true rfl, Nat.le_of_ble_eq_true rfl⟩) hS (fun q _ h => hFc q h) hFc (fun r_158 u t H1 locs ht hvm hw hB hz1 hk1 hS => ?_)
              obtain ⟨hP1, _, hD1⟩ := hB
              have hw_159 := hw
              rw [ht] at hP1
              obtain ⟨hP, hD⟩ := va_join (wr := [(x, .inr (5, [.ref a1, .ref a2, .ref a3, .ref a4])), (a1, wT tC 5 fs), ((qs 1), .inr (4, [.int 1, .int 1, .ref f, .int 0, .int (-1), .null, .int (-1), .null])), ((qs 2), .inr (4, [.int 2, .int 1, .ref f, .int 0, .int (-1), .null, .int (-1), .null])), ((qs 3), .inr (4, [.int 3, .int 1, .ref f, .int 0, .int (-1), .null, .int (-1), .null])), ((qs 4), .inr (4, [.int 4, .int 1, .ref f, .int 0, .int (-1), .null, .int (-1), .null])), ((qs 0), .inr (4, [.int 0, .int 1, .ref f, .int 0, .int (-1), .null, .int (-1), .null]))]) (w1 := [(a4, wS tC 5 (va_up (va_up (va_up (va_up (va_up gf 0 (some f)) 1 none) 2 none) 3 none) 4 none)), (f, .inr (3, [.ref e1, .ref e2, .int 5, .int 0])), (e1, wI tC 0 z1)]) hP hD [2, 3, 4] [0, 1, 5, 6, 7, 8, 9] rfl rfl (by decide) (by decide) hk1 hFc hP1 hD1
              generalize H1 = H at hP hS ⊢
              have hP : va_P D vwCl [(x, .inr (5, [.ref a1, .ref a2, .ref a3, .ref a4])), (a1, wT tC 5 fs), ((qs 1), .inr (4, [.int 1, .int 1, .ref f, .int 0, .int (-1), .null, .int (-1), .null])), ((qs 2), .inr (4, [.int 2, .int 1, .ref f, .int 0, .int (-1), .null, .int (-1), .null])), ((qs 3), .inr (4, [.int 3, .int 1, .ref f, .int 0, .int (-1), .null, .int (-1), .null])), ((qs 4), .inr (4, [.int 4, .int 1, .ref f, .int 0, .int (-1), .null, .int (-1), .null])), ((qs 0), .inr (4, [.int 0, .int 1, .ref f, .int 0, .int (-1), .null, .int (-1), .null])), (a4, wS tC 5 (va_up (va_up (va_up (va_up (va_up gf 0 (some f)) 1 none) 2 none) 3 none) 4 none)), (f, .inr (3, [.ref e1, .ref e2, .int 5, .int 0])), (e1, wI tC 0 z1)] H := hP
              have hD : va_D A [(x, .inr (5, [.ref a1, .ref a2, .ref a3, .ref a4])), (a1, wT tC 5 fs), ((qs 1), .inr (4, [.int 1, .int 1, .ref f, .int 0, .int (-1), .null, .int (-1), .null])), ((qs 2), .inr (4, [.int 2, .int 1, .ref f, .int 0, .int (-1), .null, .int (-1), .null])), ((qs 3), .inr (4, [.int 3, .int 1, .ref f, .int 0, .int (-1), .null, .int (-1), .null])), ((qs 4), .inr (4, [.int 4, .int 1, .ref f, .int 0, .int (-1), .null, .int (-1), .null])), ((qs 0), .inr (4, [.int 0, .int 1, .ref f, .int 0, .int (-1), .null, .int (-1), .null])), (a4, wS tC 5 (va_up (va_up (va_up (va_up (va_up gf 0 (some f)) 1 none) 2 none) 3 none) 4 none)), (f, .inr (3, [.ref e1, .ref e2, .int 5, .int 0])), (e1, wI tC 0 z1)] := hD
              have q1 : r_158 = some f := hw_159.trans (by rw [hb0, hb1, hb2, hb3, hb4] <;> rfl)
              subst q1
              refine W.eq (g2 := F0 m 94 ls [.ref f]) rfl ?_
              refine lv_astore_n (lv' := [(2, .ref f), (3, .int 0), (0, .ref x), (1, .int p0)]) hx hb dX4_allowed_94 rfl hl (by decide) rfl (fun ls hl => ?_)
              refine lv_aload_n hx hb dX4_allowed_95 rfl (lv_at hl 0 rfl) ?_
              refine lv_ifnull hx hb dX4_allowed_96 ?_
              refine lv_aload_n hx hb dX4_allowed_99 rfl (lv_at hl 2 rfl) ?_
              refine va_get (D := D) (ci := 5) (v := .ref a4) (C := RX4) (T := TX4) (N := 4) hx hb hts in_X4_allowed_X4 hown hK hP 0 rfl rfl 3 (by decide) w_0 (fun _ h9 => h9) rfl dX4_allowed_100 ?_
              refine lv_aload_n hx hb dX4_allowed_103 rfl (lv_at hl 0 rfl) ?_
              have hPc := hP.sub (ws' := [(a4, wS tC 5 (va_up (va_up (va_up (va_up (va_up gf 0 (some f)) 1 none) 2 none) 3 none) 4 none)), (f, .inr (3, [.ref e1, .ref e2, .int 5, .int 0])), (e1, wI tC 0 z1)]) [7, 8, 9] rfl
              have hDc := hD.sub (ws' := [(a4, wS tC 5 (va_up (va_up (va_up (va_up (va_up gf 0 (some f)) 1 none) 2 none) 3 none) 4 none)), (f, .inr (3, [.ref e1, .ref e2, .int 5, .int 0])), (e1, wI tC 0 z1)]) [7, 8, 9] (by decide) rfl
              have hFc := va_free (wc := [(a4, wS tC 5 (va_up (va_up (va_up (va_up (va_up gf 0 (some f)) 1 none) 2 none) 3 none) 4 none)), (f, .inr (3, [.ref e1, .ref e2, .int 5, .int 0])), (e1, wI tC 0 z1)]) hD hS hA [7, 8, 9] rfl
              refine va_calli (va_runS (As := [.ref a4, .ref f]) (rest := []) ⟨hx, hb, hml, hown, hts⟩ (c_X4_mayGoOn l hlt D tC dz H.size a4 (va_up (va_up (va_up (va_up (va_up gf 0 (some f)) 1 none) 2 none) 3 none) 4 none) (bqb p0) f e1 e2 z1 (by intro j hj; rcases (show j = 0 ∨ j = 1 ∨ j = 2 ∨ j = 3 ∨ j = 4 by omega) with rfl | rfl | rfl | rfl | rfl <;> simp [va_up, hb0, hb1, hb2, hb3, hb4])) (va_cwS 2 hts gX4_allowed_X4_mayGoOn rfl rfl rfl (by decide +kernel) ⟨Nat.le_of_ble_eq_true rfl, Nat.le_of_ble_eq_true rfl⟩) ⟨pB_blind, pB_at hPc hDc hK hN hE hS hFc⟩ rfl rfl hl.1 rfl (lv_room (Nat.le_of_ble_eq_true rfl)) dX4_allowed_104 ⟨Nat.le_of_ble_eq_true rfl, Nat.le_of_ble_eq_true rfl⟩) hS (fun q _ h => hFc q h) hFc (fun r_160 u t H1 locs ht hvm hw hB hz1 hk1 hS => ?_)
              obtain ⟨hP1, _, hD1⟩ := hB
              have hw_161 := hw
              rw [ht] at hP1
              obtain ⟨hP, hD⟩ := va_join (wr := [(x, .inr (5, [.ref a1, .ref a2, .ref a3, .ref a4])), (a1, wT tC 5 fs), ((qs 1), .inr (4, [.int 1, .int 1, .ref f, .int 0, .int (-1), .null, .int (-1), .null])), ((qs 2), .inr (4, [.int 2, .int 1, .ref f, .int 0, .int (-1), .null, .int (-1), .null])), ((qs 3), .inr (4, [.int 3, .int 1, .ref f, .int 0, .int (-1), .null, .int (-1), .null])), ((qs 4), .inr (4, [.int 4, .int 1, .ref f, .int 0, .int (-1), .null, .int (-1), .null])), ((qs 0), .inr (4, [.int 0, .int 1, .ref f, .int 0, .int (-1), .null, .int (-1), .null]))]) (w1 := [(a4, wS tC 5 (va_up (va_up (va_up (va_up (va_up gf 0 (some f)) 1 none) 2 none) 3 none) 4 none)), (f, .inr (3, [.ref e1, .ref e2, .int 5, .int 0])), (e1, wI tC 0 z1)]) hP hD [7, 8, 9] [0, 1, 2, 3, 4, 5, 6] rfl rfl (by decide) (by decide) hk1 hFc hP1 hD1
              generalize H1 = H at hP hS ⊢
              have hP : va_P D vwCl [(x, .inr (5, [.ref a1, .ref a2, .ref a3, .ref a4])), (a1, wT tC 5 fs), ((qs 1), .inr (4, [.int 1, .int 1, .ref f, .int 0, .int (-1), .null, .int (-1), .null])), ((qs 2), .inr (4, [.int 2, .int 1, .ref f, .int 0, .int (-1), .null, .int (-1), .null])), ((qs 3), .inr (4, [.int 3, .int 1, .ref f, .int 0, .int (-1), .null, .int (-1), .null])), ((qs 4), .inr (4, [.int 4, .int 1, .ref f, .int 0, .int (-1), .null, .int (-1), .null])), ((qs 0), .inr (4, [.int 0, .int 1, .ref f, .int 0, .int (-1), .null, .int (-1), .null])), (a4, wS tC 5 (va_up (va_up (va_up (va_up (va_up gf 0 (some f)) 1 none) 2 none) 3 none) 4 none)), (f, .inr (3, [.ref e1, .ref e2, .int 5, .int 0])), (e1, wI tC 0 z1)] H := hP
              have hD : va_D A [(x, .inr (5, [.ref a1, .ref a2, .ref a3, .ref a4])), (a1, wT tC 5 fs), ((qs 1), .inr (4, [.int 1, .int 1, .ref f, .int 0, .int (-1), .null, .int (-1), .null])), ((qs 2), .inr (4, [.int 2, .int 1, .ref f, .int 0, .int (-1), .null, .int (-1), .null])), ((qs 3), .inr (4, [.int 3, .int 1, .ref f, .int 0, .int (-1), .null, .int (-1), .null])), ((qs 4), .inr (4, [.int 4, .int 1, .ref f, .int 0, .int (-1), .null, .int (-1), .null])), ((qs 0), .inr (4, [.int 0, .int 1, .ref f, .int 0, .int (-1), .null, .int (-1), .null])), (a4, wS tC 5 (va_up (va_up (va_up (va_up (va_up gf 0 (some f)) 1 none) 2 none) 3 none) 4 none)), (f, .inr (3, [.ref e1, .ref e2, .int 5, .int 0])), (e1, wI tC 0 z1)] := hD
              have q1 : r_160 = 0 := hw_161.trans (by unfold mayg cntb; rw [hb0, hb1, hb2, hb3, hb4] <;> decide)
              subst q1
              refine lv_if_eq (tgt := 114) hx hb dX4_allowed_107 (by decide) (fun _ => ?_) (fun hc => absurd (by decide) hc)
              refine lv_iconst (v := 0) hx hb dX4_allowed_114 (by decide) ?_
              have hP9 := hP.sub (ws' := []) [] rfl
              have hD9 := hD.sub (ws' := []) [] (by decide) rfl
              refine W.widen (k := 1) (n := 6) (by omega) (by omega) ?_
              exact vx_ret (W.zret (v := 0) hx hb hr (by decide) (fun t ht hW => ⟨⟨0, (), rfl, ⟨(by unfold mayg cntb; rw [hb0, hb1, hb2, hb3, hb4] <;> decide), bl1 hw_2 c_3⟩, (by rw [ht]; exact hP9), va_K.moved hW.alike hK, hD9⟩, hS.F ht⟩) hS.2.2 dX4_allowed_115 hlocks)
            · skip
              have hb4 : bqb p0 4 = true := bqT (fun h => c_157 (ez_156.trans h))
              refine lv_iconst (v := 1) hx hb dX4_allowed_34 (by decide) ?_
              refine lv_goto (tgt := 39) hx hb dX4_allowed_35 (by decide) ?_
              refine lv_istore_n (lv' := [(3, .int 1), (2, .int 4), (0, .ref x), (1, .int p0)]) hx hb dX4_allowed_39 rfl hl (by decide) rfl (fun ls hl => ?_)
              refine lv_iload_n hx hb dX4_allowed_40 rfl (lv_at hl 0 rfl) ?_
              refine lv_if_eq (tgt := 58) hx hb dX4_allowed_41 (by decide) (fun hc => absurd hc (by decide)) (fun _ => ?_)
              refine lv_aload_n hx hb dX4_allowed_44 rfl (lv_at hl 2 rfl) ?_
              refine va_get (D := D) (ci := 5) (v := .ref a1) (C := RX4) (T := TX4) (N := 4) hx hb hts in_X4_allowed_X4 hown hK hP 0 rfl rfl 0 (by decide) w_1 (fun _ h9 => h9) rfl dX4_allowed_45 ?_
              refine lv_iload_n hx hb dX4_allowed_48 rfl (lv_at hl 1 rfl) ?_
              refine va_aldq hx hb hK hP 1 3 rfl rfl (by unfold vp_in; decide) dX4_allowed_49 ?_
              rw [show fs (4 : Int32).toNatClampNeg = some (qs 4) from (by rw [show (4 : Int32).toNatClampNeg = 4 by decide]; exact hfs 4 (by decide))]
              refine W.eq (g2 := F0 m 50 ls [.ref (qs 4)]) rfl ?_
              have hPc := hP.sub (ws' := [((qs 4), .inr (4, [.int 4, .int 1, .ref f, .int 0, .int (-1), .null, .int (-1), .null]))]) [8] rfl
              have hDc := hD.sub (ws' := [((qs 4), .inr (4, [.int 4, .int 1, .ref f, .int 0, .int (-1), .null, .int (-1), .null]))]) [8] (by decide) rfl
              have hFc := va_free (wc := [((qs 4), .inr (4, [.int 4, .int 1, .ref f, .int 0, .int (-1), .null, .int (-1), .null]))]) hD hS hA [8] rfl
              refine va_calli (va_runVN (As := []) (rest := []) ⟨hx, hb, hml, hown, hts⟩ (c_X3_isFree l hlt D tC dz H.size f (qs 4) 4 ) ⟨(va_cnB (host := "NoticeStations") 0 hts gX4_allowed_X3_isFree_n240 rfl rfl rfl (hN.1 (.methodLinkNest "NoticeStations" 240 ⟨"NoticeStations$Station", "isFree", "()Z"⟩ "NoticeStations") (by decide +kernel)) w_2 (by decide +kernel) ⟨Nat.le_of_ble_eq_true rfl, Nat.le_of_ble_eq_true rfl⟩), w_3, w_4⟩ ⟨pB_blind, va_recv hK hPc (ci := 4) (q0 := 0) rfl rfl, pB_at hPc hDc hK hN hE hS hFc⟩ rfl rfl hl.1 rfl (lv_room (Nat.le_of_ble_eq_true rfl)) dX4_allowed_50 ⟨Nat.le_of_ble_eq_true rfl, Nat.le_of_ble_eq_true rfl⟩) hS (fun q _ h => hFc q h) hFc (fun r_162 u t H1 locs ht hvm hw hB hz1 hk1 hS => ?_)
              obtain ⟨hP1, _, hD1⟩ := hB
              have hw_163 := hw
              rw [ht] at hP1
              obtain ⟨hP, hD⟩ := va_join (wr := [(x, .inr (5, [.ref a1, .ref a2, .ref a3, .ref a4])), (a1, wT tC 5 fs), (a4, wS tC 5 (va_up (va_up (va_up (va_up gf 0 (some f)) 1 none) 2 none) 3 none)), (f, .inr (3, [.ref e1, .ref e2, .int 5, .int 0])), (e1, wI tC 0 z1), ((qs 1), .inr (4, [.int 1, .int 1, .ref f, .int 0, .int (-1), .null, .int (-1), .null])), ((qs 2), .inr (4, [.int 2, .int 1, .ref f, .int 0, .int (-1), .null, .int (-1), .null])), ((qs 3), .inr (4, [.int 3, .int 1, .ref f, .int 0, .int (-1), .null, .int (-1), .null])), ((qs 0), .inr (4, [.int 0, .int 1, .ref f, .int 0, .int (-1), .null, .int (-1), .null]))]) (w1 := [((qs 4), .inr (4, [.int 4, .int 1, .ref f, .int 0, .int (-1), .null, .int (-1), .null]))]) hP hD [8] [0, 1, 2, 3, 4, 5, 6, 7, 9] rfl rfl (by decide) (by decide) hk1 hFc hP1 hD1
              generalize H1 = H at hP hS ⊢
              have hP : va_P D vwCl [(x, .inr (5, [.ref a1, .ref a2, .ref a3, .ref a4])), (a1, wT tC 5 fs), (a4, wS tC 5 (va_up (va_up (va_up (va_up gf 0 (some f)) 1 none) 2 none) 3 none)), (f, .inr (3, [.ref e1, .ref e2, .int 5, .int 0])), (e1, wI tC 0 z1), ((qs 1), .inr (4, [.int 1, .int 1, .ref f, .int 0, .int (-1), .null, .int (-1), .null])), ((qs 2), .inr (4, [.int 2, .int 1, .ref f, .int 0, .int (-1), .null, .int (-1), .null])), ((qs 3), .inr (4, [.int 3, .int 1, .ref f, .int 0, .int (-1), .null, .int (-1), .null])), ((qs 0), .inr (4, [.int 0, .int 1, .ref f, .int 0, .int (-1), .null, .int (-1), .null])), ((qs 4), .inr (4, [.int 4, .int 1, .ref f, .int 0, .int (-1), .null, .int (-1), .null]))] H := hP
              have hD : va_D A [(x, .inr (5, [.ref a1, .ref a2, .ref a3, .ref a4])), (a1, wT tC 5 fs), (a4, wS tC 5 (va_up (va_up (va_up (va_up gf 0 (some f)) 1 none) 2 none) 3 none)), (f, .inr (3, [.ref e1, .ref e2, .int 5, .int 0])), (e1, wI tC 0 z1), ((qs 1), .inr (4, [.int 1, .int 1, .ref f, .int 0, .int (-1), .null, .int (-1), .null])), ((qs 2), .inr (4, [.int 2, .int 1, .ref f, .int 0, .int (-1), .null, .int (-1), .null])), ((qs 3), .inr (4, [.int 3, .int 1, .ref f, .int 0, .int (-1), .null, .int (-1), .null])), ((qs 0), .inr (4, [.int 0, .int 1, .ref f, .int 0, .int (-1), .null, .int (-1), .null])), ((qs 4), .inr (4, [.int 4, .int 1, .ref f, .int 0, .int (-1), .null, .int (-1), .null]))] := hD
              subst hw_163
              refine lv_if_ne (tgt := 58) hx hb dX4_allowed_53 (by decide) (fun _ => ?_) (fun hc => absurd hc (by decide))
              refine lv_aload_n hx hb dX4_allowed_58 rfl (lv_at hl 2 rfl) ?_
              refine va_get (D := D) (ci := 5) (v := .ref a4) (C := RX4) (T := TX4) (N := 4) hx hb hts in_X4_allowed_X4 hown hK hP 0 rfl rfl 3 (by decide) w_0 (fun _ h9 => h9) rfl dX4_allowed_59 ?_
              refine lv_iload_n hx hb dX4_allowed_62 rfl (lv_at hl 1 rfl) ?_
              refine lv_iload_n hx hb dX4_allowed_63 rfl (lv_at hl 0 rfl) ?_
              refine lv_if_eq (tgt := 79) hx hb dX4_allowed_64 (by decide) (fun hc => absurd hc (by decide)) (fun _ => ?_)
              refine lv_aload_n hx hb dX4_allowed_67 rfl (lv_at hl 2 rfl) ?_
              refine va_get (D := D) (ci := 5) (v := .ref a1) (C := RX4) (T := TX4) (N := 4) hx hb hts in_X4_allowed_X4 hown hK hP 0 rfl rfl 0 (by decide) w_1 (fun _ h9 => h9) rfl dX4_allowed_68 ?_
              refine lv_iload_n hx hb dX4_allowed_71 rfl (lv_at hl 1 rfl) ?_
              refine va_aldq hx hb hK hP 1 3 rfl rfl (by unfold vp_in; decide) dX4_allowed_72 ?_
              rw [show fs (4 : Int32).toNatClampNeg = some (qs 4) from (by rw [show (4 : Int32).toNatClampNeg = 4 by decide]; exact hfs 4 (by decide))]
              refine W.eq (g2 := F0 m 73 ls [.ref (qs 4), .int 4, .ref a4]) rfl ?_
              refine va_getN (host := "NoticeStations") (D := D) (ci := 4) (v := .ref f) (C := RX3) (T := TX3) (N := 8) hx hb hts in_X4_allowed_X3 hown hK hP 9 rfl rfl 2 (by decide) (va_Nw.use rfl (hN.1 (.fieldLinkNest "NoticeStations" 61 "NoticeStations$Station" "stored" "LNoticeStations$Standing;" "NoticeStations") (by decide +kernel))) (fun _ h9 => h9) rfl dX4_allowed_73 ?_
              refine lv_goto (tgt := 80) hx hb dX4_allowed_76 (by decide) ?_
              refine va_astq hx hb hK hP hD hS 2 2 3 3 rfl rfl rfl rfl (by unfold vp_in; decide) dX4_allowed_80 (fun H locs hP hD hS => ?_)
              have hP : va_P D vwCl [(x, .inr (5, [.ref a1, .ref a2, .ref a3, .ref a4])), (a1, wT tC 5 fs), (a4, wS tC 5 (va_up (va_up (va_up (va_up (va_up gf 0 (some f)) 1 none) 2 none) 3 none) 4 (some f))), (f, .inr (3, [.ref e1, .ref e2, .int 5, .int 0])), (e1, wI tC 0 z1), ((qs 1), .inr (4, [.int 1, .int 1, .ref f, .int 0, .int (-1), .null, .int (-1), .null])), ((qs 2), .inr (4, [.int 2, .int 1, .ref f, .int 0, .int (-1), .null, .int (-1), .null])), ((qs 3), .inr (4, [.int 3, .int 1, .ref f, .int 0, .int (-1), .null, .int (-1), .null])), ((qs 0), .inr (4, [.int 0, .int 1, .ref f, .int 0, .int (-1), .null, .int (-1), .null])), ((qs 4), .inr (4, [.int 4, .int 1, .ref f, .int 0, .int (-1), .null, .int (-1), .null]))] H := hP
              have hD : va_D A [(x, .inr (5, [.ref a1, .ref a2, .ref a3, .ref a4])), (a1, wT tC 5 fs), (a4, wS tC 5 (va_up (va_up (va_up (va_up (va_up gf 0 (some f)) 1 none) 2 none) 3 none) 4 (some f))), (f, .inr (3, [.ref e1, .ref e2, .int 5, .int 0])), (e1, wI tC 0 z1), ((qs 1), .inr (4, [.int 1, .int 1, .ref f, .int 0, .int (-1), .null, .int (-1), .null])), ((qs 2), .inr (4, [.int 2, .int 1, .ref f, .int 0, .int (-1), .null, .int (-1), .null])), ((qs 3), .inr (4, [.int 3, .int 1, .ref f, .int 0, .int (-1), .null, .int (-1), .null])), ((qs 0), .inr (4, [.int 0, .int 1, .ref f, .int 0, .int (-1), .null, .int (-1), .null])), ((qs 4), .inr (4, [.int 4, .int 1, .ref f, .int 0, .int (-1), .null, .int (-1), .null]))] := hD
              refine lv_iinc (v := 5) (lv' := [(2, .int 5), (3, .int 1), (0, .ref x), (1, .int p0)]) hx hb dX4_allowed_81 hl (k := 1) rfl (by decide) (by decide) rfl (fun ls hl => ?_)
              refine lv_goto (tgt := 21) hx hb dX4_allowed_84 (by decide) ?_
              refine lv_iload_n hx hb dX4_allowed_21 rfl (lv_at hl 0 rfl) ?_
              refine lv_iconst (v := 5) hx hb dX4_allowed_22 (by decide) ?_
              refine lv_icmp_ge (tgt := 87) hx hb dX4_allowed_23 (by decide) (fun _ => ?_) (fun hc => absurd (by decide) hc)
              refine lv_aload_n hx hb dX4_allowed_87 rfl (lv_at hl 2 rfl) ?_
              refine va_get (D := D) (ci := 5) (v := .ref a4) (C := RX4) (T := TX4) (N := 4) hx hb hts in_X4_allowed_X4 hown hK hP 0 rfl rfl 3 (by decide) w_0 (fun _ h9 => h9) rfl dX4_allowed_88 ?_
              have hPc := hP.sub (ws' := [(a4, wS tC 5 (va_up (va_up (va_up (va_up (va_up gf 0 (some f)) 1 none) 2 none) 3 none) 4 (some f))), (f, .inr (3, [.ref e1, .ref e2, .int 5, .int 0])), (e1, wI tC 0 z1)]) [2, 3, 4] rfl
              have hDc := hD.sub (ws' := [(a4, wS tC 5 (va_up (va_up (va_up (va_up (va_up gf 0 (some f)) 1 none) 2 none) 3 none) 4 (some f))), (f, .inr (3, [.ref e1, .ref e2, .int 5, .int 0])), (e1, wI tC 0 z1)]) [2, 3, 4] (by decide) rfl
              have hFc := va_free (wc := [(a4, wS tC 5 (va_up (va_up (va_up (va_up (va_up gf 0 (some f)) 1 none) 2 none) 3 none) 4 (some f))), (f, .inr (3, [.ref e1, .ref e2, .int 5, .int 0])), (e1, wI tC 0 z1)]) hD hS hA [2, 3, 4] rfl
              refine va_callq (va_runS (As := [.ref a4]) (rest := []) ⟨hx, hb, hml, hown, hts⟩ (c_X4_heldByHolders l hlt D tC dz H.size a4 (va_up (va_up (va_up (va_up (va_up gf 0 (some f)) 1 none) 2 none) 3 none) 4 (some f)) (bqb p0) f e1 e2 z1 (by intro j hj; rcases (show j = 0 ∨ j = 1 ∨ j = 2 ∨ j = 3 ∨ j = 4 by omega) with rfl | rfl | rfl | rfl | rfl <;> simp [va_up, hb0, hb1, hb2, hb3, hb4])) (va_cwS 1 hts gX4_allowed_X4_heldByHolders rfl rfl rfl (by decide +kernel) ⟨Nat.le_of_ble_eq_true rfl, Nat.le_of_ble_eq_true rfl⟩) ⟨pB_blind, pB_at hPc hDc hK hN hE hS hFc⟩ rfl rfl hl.1 rfl (lv_room (Nat.le_of_ble_eq_true rfl)) dX4_allowed_91 ⟨Nat.le_of_ble_eq_true rfl, Nat.le_of_ble_eq_true rfl⟩) hS (fun q _ h => hFc q h) hFc (fun r_164 u t H1 locs ht hvm hw hB hz1 hk1 hS => ?_)
              obtain ⟨hP1, _, hD1⟩ := hB
              have hw_165 := hw
              rw [ht] at hP1
              obtain ⟨hP, hD⟩ := va_join (wr := [(x, .inr (5, [.ref a1, .ref a2, .ref a3, .ref a4])), (a1, wT tC 5 fs), ((qs 1), .inr (4, [.int 1, .int 1, .ref f, .int 0, .int (-1), .null, .int (-1), .null])), ((qs 2), .inr (4, [.int 2, .int 1, .ref f, .int 0, .int (-1), .null, .int (-1), .null])), ((qs 3), .inr (4, [.int 3, .int 1, .ref f, .int 0, .int (-1), .null, .int (-1), .null])), ((qs 0), .inr (4, [.int 0, .int 1, .ref f, .int 0, .int (-1), .null, .int (-1), .null])), ((qs 4), .inr (4, [.int 4, .int 1, .ref f, .int 0, .int (-1), .null, .int (-1), .null]))]) (w1 := [(a4, wS tC 5 (va_up (va_up (va_up (va_up (va_up gf 0 (some f)) 1 none) 2 none) 3 none) 4 (some f))), (f, .inr (3, [.ref e1, .ref e2, .int 5, .int 0])), (e1, wI tC 0 z1)]) hP hD [2, 3, 4] [0, 1, 5, 6, 7, 8, 9] rfl rfl (by decide) (by decide) hk1 hFc hP1 hD1
              generalize H1 = H at hP hS ⊢
              have hP : va_P D vwCl [(x, .inr (5, [.ref a1, .ref a2, .ref a3, .ref a4])), (a1, wT tC 5 fs), ((qs 1), .inr (4, [.int 1, .int 1, .ref f, .int 0, .int (-1), .null, .int (-1), .null])), ((qs 2), .inr (4, [.int 2, .int 1, .ref f, .int 0, .int (-1), .null, .int (-1), .null])), ((qs 3), .inr (4, [.int 3, .int 1, .ref f, .int 0, .int (-1), .null, .int (-1), .null])), ((qs 0), .inr (4, [.int 0, .int 1, .ref f, .int 0, .int (-1), .null, .int (-1), .null])), ((qs 4), .inr (4, [.int 4, .int 1, .ref f, .int 0, .int (-1), .null, .int (-1), .null])), (a4, wS tC 5 (va_up (va_up (va_up (va_up (va_up gf 0 (some f)) 1 none) 2 none) 3 none) 4 (some f))), (f, .inr (3, [.ref e1, .ref e2, .int 5, .int 0])), (e1, wI tC 0 z1)] H := hP
              have hD : va_D A [(x, .inr (5, [.ref a1, .ref a2, .ref a3, .ref a4])), (a1, wT tC 5 fs), ((qs 1), .inr (4, [.int 1, .int 1, .ref f, .int 0, .int (-1), .null, .int (-1), .null])), ((qs 2), .inr (4, [.int 2, .int 1, .ref f, .int 0, .int (-1), .null, .int (-1), .null])), ((qs 3), .inr (4, [.int 3, .int 1, .ref f, .int 0, .int (-1), .null, .int (-1), .null])), ((qs 0), .inr (4, [.int 0, .int 1, .ref f, .int 0, .int (-1), .null, .int (-1), .null])), ((qs 4), .inr (4, [.int 4, .int 1, .ref f, .int 0, .int (-1), .null, .int (-1), .null])), (a4, wS tC 5 (va_up (va_up (va_up (va_up (va_up gf 0 (some f)) 1 none) 2 none) 3 none) 4 (some f))), (f, .inr (3, [.ref e1, .ref e2, .int 5, .int 0])), (e1, wI tC 0 z1)] := hD
              have q1 : r_164 = some f := hw_165.trans (by rw [hb0, hb1, hb2, hb3, hb4] <;> rfl)
              subst q1
              refine W.eq (g2 := F0 m 94 ls [.ref f]) rfl ?_
              refine lv_astore_n (lv' := [(2, .ref f), (3, .int 1), (0, .ref x), (1, .int p0)]) hx hb dX4_allowed_94 rfl hl (by decide) rfl (fun ls hl => ?_)
              refine lv_aload_n hx hb dX4_allowed_95 rfl (lv_at hl 0 rfl) ?_
              refine lv_ifnull hx hb dX4_allowed_96 ?_
              refine lv_aload_n hx hb dX4_allowed_99 rfl (lv_at hl 2 rfl) ?_
              refine va_get (D := D) (ci := 5) (v := .ref a4) (C := RX4) (T := TX4) (N := 4) hx hb hts in_X4_allowed_X4 hown hK hP 0 rfl rfl 3 (by decide) w_0 (fun _ h9 => h9) rfl dX4_allowed_100 ?_
              refine lv_aload_n hx hb dX4_allowed_103 rfl (lv_at hl 0 rfl) ?_
              have hPc := hP.sub (ws' := [(a4, wS tC 5 (va_up (va_up (va_up (va_up (va_up gf 0 (some f)) 1 none) 2 none) 3 none) 4 (some f))), (f, .inr (3, [.ref e1, .ref e2, .int 5, .int 0])), (e1, wI tC 0 z1)]) [7, 8, 9] rfl
              have hDc := hD.sub (ws' := [(a4, wS tC 5 (va_up (va_up (va_up (va_up (va_up gf 0 (some f)) 1 none) 2 none) 3 none) 4 (some f))), (f, .inr (3, [.ref e1, .ref e2, .int 5, .int 0])), (e1, wI tC 0 z1)]) [7, 8, 9] (by decide) rfl
              have hFc := va_free (wc := [(a4, wS tC 5 (va_up (va_up (va_up (va_up (va_up gf 0 (some f)) 1 none) 2 none) 3 none) 4 (some f))), (f, .inr (3, [.ref e1, .ref e2, .int 5, .int 0])), (e1, wI tC 0 z1)]) hD hS hA [7, 8, 9] rfl
              refine va_calli (va_runS (As := [.ref a4, .ref f]) (rest := []) ⟨hx, hb, hml, hown, hts⟩ (c_X4_mayGoOn l hlt D tC dz H.size a4 (va_up (va_up (va_up (va_up (va_up gf 0 (some f)) 1 none) 2 none) 3 none) 4 (some f)) (bqb p0) f e1 e2 z1 (by intro j hj; rcases (show j = 0 ∨ j = 1 ∨ j = 2 ∨ j = 3 ∨ j = 4 by omega) with rfl | rfl | rfl | rfl | rfl <;> simp [va_up, hb0, hb1, hb2, hb3, hb4])) (va_cwS 2 hts gX4_allowed_X4_mayGoOn rfl rfl rfl (by decide +kernel) ⟨Nat.le_of_ble_eq_true rfl, Nat.le_of_ble_eq_true rfl⟩) ⟨pB_blind, pB_at hPc hDc hK hN hE hS hFc⟩ rfl rfl hl.1 rfl (lv_room (Nat.le_of_ble_eq_true rfl)) dX4_allowed_104 ⟨Nat.le_of_ble_eq_true rfl, Nat.le_of_ble_eq_true rfl⟩) hS (fun q _ h => hFc q h) hFc (fun r_166 u t H1 locs ht hvm hw hB hz1 hk1 hS => ?_)
              obtain ⟨hP1, _, hD1⟩ := hB
              have hw_167 := hw
              rw [ht] at hP1
              obtain ⟨hP, hD⟩ := va_join (wr := [(x, .inr (5, [.ref a1, .ref a2, .ref a3, .ref a4])), (a1, wT tC 5 fs), ((qs 1), .inr (4, [.int 1, .int 1, .ref f, .int 0, .int (-1), .null, .int (-1), .null])), ((qs 2), .inr (4, [.int 2, .int 1, .ref f, .int 0, .int (-1), .null, .int (-1), .null])), ((qs 3), .inr (4, [.int 3, .int 1, .ref f, .int 0, .int (-1), .null, .int (-1), .null])), ((qs 0), .inr (4, [.int 0, .int 1, .ref f, .int 0, .int (-1), .null, .int (-1), .null])), ((qs 4), .inr (4, [.int 4, .int 1, .ref f, .int 0, .int (-1), .null, .int (-1), .null]))]) (w1 := [(a4, wS tC 5 (va_up (va_up (va_up (va_up (va_up gf 0 (some f)) 1 none) 2 none) 3 none) 4 (some f))), (f, .inr (3, [.ref e1, .ref e2, .int 5, .int 0])), (e1, wI tC 0 z1)]) hP hD [7, 8, 9] [0, 1, 2, 3, 4, 5, 6] rfl rfl (by decide) (by decide) hk1 hFc hP1 hD1
              generalize H1 = H at hP hS ⊢
              have hP : va_P D vwCl [(x, .inr (5, [.ref a1, .ref a2, .ref a3, .ref a4])), (a1, wT tC 5 fs), ((qs 1), .inr (4, [.int 1, .int 1, .ref f, .int 0, .int (-1), .null, .int (-1), .null])), ((qs 2), .inr (4, [.int 2, .int 1, .ref f, .int 0, .int (-1), .null, .int (-1), .null])), ((qs 3), .inr (4, [.int 3, .int 1, .ref f, .int 0, .int (-1), .null, .int (-1), .null])), ((qs 0), .inr (4, [.int 0, .int 1, .ref f, .int 0, .int (-1), .null, .int (-1), .null])), ((qs 4), .inr (4, [.int 4, .int 1, .ref f, .int 0, .int (-1), .null, .int (-1), .null])), (a4, wS tC 5 (va_up (va_up (va_up (va_up (va_up gf 0 (some f)) 1 none) 2 none) 3 none) 4 (some f))), (f, .inr (3, [.ref e1, .ref e2, .int 5, .int 0])), (e1, wI tC 0 z1)] H := hP
              have hD : va_D A [(x, .inr (5, [.ref a1, .ref a2, .ref a3, .ref a4])), (a1, wT tC 5 fs), ((qs 1), .inr (4, [.int 1, .int 1, .ref f, .int 0, .int (-1), .null, .int (-1), .null])), ((qs 2), .inr (4, [.int 2, .int 1, .ref f, .int 0, .int (-1), .null, .int (-1), .null])), ((qs 3), .inr (4, [.int 3, .int 1, .ref f, .int 0, .int (-1), .null, .int (-1), .null])), ((qs 0), .inr (4, [.int 0, .int 1, .ref f, .int 0, .int (-1), .null, .int (-1), .null])), ((qs 4), .inr (4, [.int 4, .int 1, .ref f, .int 0, .int (-1), .null, .int (-1), .null])), (a4, wS tC 5 (va_up (va_up (va_up (va_up (va_up gf 0 (some f)) 1 none) 2 none) 3 none) 4 (some f))), (f, .inr (3, [.ref e1, .ref e2, .int 5, .int 0])), (e1, wI tC 0 z1)] := hD
              have q1 : r_166 = 0 := hw_167.trans (by unfold mayg cntb; rw [hb0, hb1, hb2, hb3, hb4] <;> decide)
              subst q1
              refine lv_if_eq (tgt := 114) hx hb dX4_allowed_107 (by decide) (fun _ => ?_) (fun hc => absurd (by decide) hc)
              refine lv_iconst (v := 0) hx hb dX4_allowed_114 (by decide) ?_
              have hP9 := hP.sub (ws' := []) [] rfl
              have hD9 := hD.sub (ws' := []) [] (by decide) rfl
              refine W.widen (k := 1) (n := 6) (by omega) (by omega) ?_
              exact vx_ret (W.zret (v := 0) hx hb hr (by decide) (fun t ht hW => ⟨⟨0, (), rfl, ⟨(by unfold mayg cntb; rw [hb0, hb1, hb2, hb3, hb4] <;> decide), bl1 hw_2 c_3⟩, (by rw [ht]; exact hP9), va_K.moved hW.alike hK, hD9⟩, hS.F ht⟩) hS.2.2 dX4_allowed_115 hlocks)
          · skip
            have hb3 : bqb p0 3 = true := bqT (fun h => c_154 (ez_153.trans h))
            refine lv_iconst (v := 1) hx hb dX4_allowed_34 (by decide) ?_
            refine lv_goto (tgt := 39) hx hb dX4_allowed_35 (by decide) ?_
            refine lv_istore_n (lv' := [(3, .int 1), (2, .int 3), (0, .ref x), (1, .int p0)]) hx hb dX4_allowed_39 rfl hl (by decide) rfl (fun ls hl => ?_)
            refine lv_iload_n hx hb dX4_allowed_40 rfl (lv_at hl 0 rfl) ?_
            refine lv_if_eq (tgt := 58) hx hb dX4_allowed_41 (by decide) (fun hc => absurd hc (by decide)) (fun _ => ?_)
            refine lv_aload_n hx hb dX4_allowed_44 rfl (lv_at hl 2 rfl) ?_
            refine va_get (D := D) (ci := 5) (v := .ref a1) (C := RX4) (T := TX4) (N := 4) hx hb hts in_X4_allowed_X4 hown hK hP 0 rfl rfl 0 (by decide) w_1 (fun _ h9 => h9) rfl dX4_allowed_45 ?_
            refine lv_iload_n hx hb dX4_allowed_48 rfl (lv_at hl 1 rfl) ?_
            refine va_aldq hx hb hK hP 1 3 rfl rfl (by unfold vp_in; decide) dX4_allowed_49 ?_
            rw [show fs (3 : Int32).toNatClampNeg = some (qs 3) from (by rw [show (3 : Int32).toNatClampNeg = 3 by decide]; exact hfs 3 (by decide))]
            refine W.eq (g2 := F0 m 50 ls [.ref (qs 3)]) rfl ?_
            have hPc := hP.sub (ws' := [((qs 3), .inr (4, [.int 3, .int 1, .ref f, .int 0, .int (-1), .null, .int (-1), .null]))]) [7] rfl
            have hDc := hD.sub (ws' := [((qs 3), .inr (4, [.int 3, .int 1, .ref f, .int 0, .int (-1), .null, .int (-1), .null]))]) [7] (by decide) rfl
            have hFc := va_free (wc := [((qs 3), .inr (4, [.int 3, .int 1, .ref f, .int 0, .int (-1), .null, .int (-1), .null]))]) hD hS hA [7] rfl
            refine va_calli (va_runVN (As := []) (rest := []) ⟨hx, hb, hml, hown, hts⟩ (c_X3_isFree l hlt D tC dz H.size f (qs 3) 3 ) ⟨(va_cnB (host := "NoticeStations") 0 hts gX4_allowed_X3_isFree_n240 rfl rfl rfl (hN.1 (.methodLinkNest "NoticeStations" 240 ⟨"NoticeStations$Station", "isFree", "()Z"⟩ "NoticeStations") (by decide +kernel)) w_2 (by decide +kernel) ⟨Nat.le_of_ble_eq_true rfl, Nat.le_of_ble_eq_true rfl⟩), w_3, w_4⟩ ⟨pB_blind, va_recv hK hPc (ci := 4) (q0 := 0) rfl rfl, pB_at hPc hDc hK hN hE hS hFc⟩ rfl rfl hl.1 rfl (lv_room (Nat.le_of_ble_eq_true rfl)) dX4_allowed_50 ⟨Nat.le_of_ble_eq_true rfl, Nat.le_of_ble_eq_true rfl⟩) hS (fun q _ h => hFc q h) hFc (fun r_168 u t H1 locs ht hvm hw hB hz1 hk1 hS => ?_)
            obtain ⟨hP1, _, hD1⟩ := hB
            have hw_169 := hw
            rw [ht] at hP1
            obtain ⟨hP, hD⟩ := va_join (wr := [(x, .inr (5, [.ref a1, .ref a2, .ref a3, .ref a4])), (a1, wT tC 5 fs), (a4, wS tC 5 (va_up (va_up (va_up gf 0 (some f)) 1 none) 2 none)), (f, .inr (3, [.ref e1, .ref e2, .int 5, .int 0])), (e1, wI tC 0 z1), ((qs 1), .inr (4, [.int 1, .int 1, .ref f, .int 0, .int (-1), .null, .int (-1), .null])), ((qs 2), .inr (4, [.int 2, .int 1, .ref f, .int 0, .int (-1), .null, .int (-1), .null])), ((qs 4), .inr (4, [.int 4, .int 1, .ref f, .int 0, .int (-1), .null, .int (-1), .null])), ((qs 0), .inr (4, [.int 0, .int 1, .ref f, .int 0, .int (-1), .null, .int (-1), .null]))]) (w1 := [((qs 3), .inr (4, [.int 3, .int 1, .ref f, .int 0, .int (-1), .null, .int (-1), .null]))]) hP hD [7] [0, 1, 2, 3, 4, 5, 6, 8, 9] rfl rfl (by decide) (by decide) hk1 hFc hP1 hD1
            generalize H1 = H at hP hS ⊢
            have hP : va_P D vwCl [(x, .inr (5, [.ref a1, .ref a2, .ref a3, .ref a4])), (a1, wT tC 5 fs), (a4, wS tC 5 (va_up (va_up (va_up gf 0 (some f)) 1 none) 2 none)), (f, .inr (3, [.ref e1, .ref e2, .int 5, .int 0])), (e1, wI tC 0 z1), ((qs 1), .inr (4, [.int 1, .int 1, .ref f, .int 0, .int (-1), .null, .int (-1), .null])), ((qs 2), .inr (4, [.int 2, .int 1, .ref f, .int 0, .int (-1), .null, .int (-1), .null])), ((qs 4), .inr (4, [.int 4, .int 1, .ref f, .int 0, .int (-1), .null, .int (-1), .null])), ((qs 0), .inr (4, [.int 0, .int 1, .ref f, .int 0, .int (-1), .null, .int (-1), .null])), ((qs 3), .inr (4, [.int 3, .int 1, .ref f, .int 0, .int (-1), .null, .int (-1), .null]))] H := hP
            have hD : va_D A [(x, .inr (5, [.ref a1, .ref a2, .ref a3, .ref a4])), (a1, wT tC 5 fs), (a4, wS tC 5 (va_up (va_up (va_up gf 0 (some f)) 1 none) 2 none)), (f, .inr (3, [.ref e1, .ref e2, .int 5, .int 0])), (e1, wI tC 0 z1), ((qs 1), .inr (4, [.int 1, .int 1, .ref f, .int 0, .int (-1), .null, .int (-1), .null])), ((qs 2), .inr (4, [.int 2, .int 1, .ref f, .int 0, .int (-1), .null, .int (-1), .null])), ((qs 4), .inr (4, [.int 4, .int 1, .ref f, .int 0, .int (-1), .null, .int (-1), .null])), ((qs 0), .inr (4, [.int 0, .int 1, .ref f, .int 0, .int (-1), .null, .int (-1), .null])), ((qs 3), .inr (4, [.int 3, .int 1, .ref f, .int 0, .int (-1), .null, .int (-1), .null]))] := hD
            subst hw_169
            refine lv_if_ne (tgt := 58) hx hb dX4_allowed_53 (by decide) (fun _ => ?_) (fun hc => absurd hc (by decide))
            refine lv_aload_n hx hb dX4_allowed_58 rfl (lv_at hl 2 rfl) ?_
            refine va_get (D := D) (ci := 5) (v := .ref a4) (C := RX4) (T := TX4) (N := 4) hx hb hts in_X4_allowed_X4 hown hK hP 0 rfl rfl 3 (by decide) w_0 (fun _ h9 => h9) rfl dX4_allowed_59 ?_
            refine lv_iload_n hx hb dX4_allowed_62 rfl (lv_at hl 1 rfl) ?_
            refine lv_iload_n hx hb dX4_allowed_63 rfl (lv_at hl 0 rfl) ?_
            refine lv_if_eq (tgt := 79) hx hb dX4_allowed_64 (by decide) (fun hc => absurd hc (by decide)) (fun _ => ?_)
            refine lv_aload_n hx hb dX4_allowed_67 rfl (lv_at hl 2 rfl) ?_
            refine va_get (D := D) (ci := 5) (v := .ref a1) (C := RX4) (T := TX4) (N := 4) hx hb hts in_X4_allowed_X4 hown hK hP 0 rfl rfl 0 (by decide) w_1 (fun _ h9 => h9) rfl dX4_allowed_68 ?_
            refine lv_iload_n hx hb dX4_allowed_71 rfl (lv_at hl 1 rfl) ?_
            refine va_aldq hx hb hK hP 1 3 rfl rfl (by unfold vp_in; decide) dX4_allowed_72 ?_
            rw [show fs (3 : Int32).toNatClampNeg = some (qs 3) from (by rw [show (3 : Int32).toNatClampNeg = 3 by decide]; exact hfs 3 (by decide))]
            refine W.eq (g2 := F0 m 73 ls [.ref (qs 3), .int 3, .ref a4]) rfl ?_
            refine va_getN (host := "NoticeStations") (D := D) (ci := 4) (v := .ref f) (C := RX3) (T := TX3) (N := 8) hx hb hts in_X4_allowed_X3 hown hK hP 9 rfl rfl 2 (by decide) (va_Nw.use rfl (hN.1 (.fieldLinkNest "NoticeStations" 61 "NoticeStations$Station" "stored" "LNoticeStations$Standing;" "NoticeStations") (by decide +kernel))) (fun _ h9 => h9) rfl dX4_allowed_73 ?_
            refine lv_goto (tgt := 80) hx hb dX4_allowed_76 (by decide) ?_
            refine va_astq hx hb hK hP hD hS 2 2 3 3 rfl rfl rfl rfl (by unfold vp_in; decide) dX4_allowed_80 (fun H locs hP hD hS => ?_)
            have hP : va_P D vwCl [(x, .inr (5, [.ref a1, .ref a2, .ref a3, .ref a4])), (a1, wT tC 5 fs), (a4, wS tC 5 (va_up (va_up (va_up (va_up gf 0 (some f)) 1 none) 2 none) 3 (some f))), (f, .inr (3, [.ref e1, .ref e2, .int 5, .int 0])), (e1, wI tC 0 z1), ((qs 1), .inr (4, [.int 1, .int 1, .ref f, .int 0, .int (-1), .null, .int (-1), .null])), ((qs 2), .inr (4, [.int 2, .int 1, .ref f, .int 0, .int (-1), .null, .int (-1), .null])), ((qs 4), .inr (4, [.int 4, .int 1, .ref f, .int 0, .int (-1), .null, .int (-1), .null])), ((qs 0), .inr (4, [.int 0, .int 1, .ref f, .int 0, .int (-1), .null, .int (-1), .null])), ((qs 3), .inr (4, [.int 3, .int 1, .ref f, .int 0, .int (-1), .null, .int (-1), .null]))] H := hP
            have hD : va_D A [(x, .inr (5, [.ref a1, .ref a2, .ref a3, .ref a4])), (a1, wT tC 5 fs), (a4, wS tC 5 (va_up (va_up (va_up (va_up gf 0 (some f)) 1 none) 2 none) 3 (some f))), (f, .inr (3, [.ref e1, .ref e2, .int 5, .int 0])), (e1, wI tC 0 z1), ((qs 1), .inr (4, [.int 1, .int 1, .ref f, .int 0, .int (-1), .null, .int (-1), .null])), ((qs 2), .inr (4, [.int 2, .int 1, .ref f, .int 0, .int (-1), .null, .int (-1), .null])), ((qs 4), .inr (4, [.int 4, .int 1, .ref f, .int 0, .int (-1), .null, .int (-1), .null])), ((qs 0), .inr (4, [.int 0, .int 1, .ref f, .int 0, .int (-1), .null, .int (-1), .null])), ((qs 3), .inr (4, [.int 3, .int 1, .ref f, .int 0, .int (-1), .null, .int (-1), .null]))] := hD
            refine lv_iinc (v := 4) (lv' := [(2, .int 4), (3, .int 1), (0, .ref x), (1, .int p0)]) hx hb dX4_allowed_81 hl (k := 1) rfl (by decide) (by decide) rfl (fun ls hl => ?_)
            refine lv_goto (tgt := 21) hx hb dX4_allowed_84 (by decide) ?_
            refine lv_iload_n hx hb dX4_allowed_21 rfl (lv_at hl 0 rfl) ?_
            refine lv_iconst (v := 5) hx hb dX4_allowed_22 (by decide) ?_
            refine lv_icmp_ge (tgt := 87) hx hb dX4_allowed_23 (by decide) (fun hc => absurd hc (by decide)) (fun _ => ?_)
            refine lv_iload_n hx hb dX4_allowed_26 rfl (lv_at hl 3 rfl) ?_
            refine lv_iconst (v := 1) hx hb dX4_allowed_27 (by decide) ?_
            refine lv_iload_n hx hb dX4_allowed_28 rfl (lv_at hl 0 rfl) ?_
            refine lv_ishl hx hb dX4_allowed_29 ?_
            refine lv_topi (fun z_170 ez_170 => ?_)
            have fz_170 : z_170 = 16 := ez_170.trans (by decide)
            subst fz_170
            refine lv_iand hx hb dX4_allowed_30 ?_
            refine lv_topi (fun z_171 ez_171 => ?_)
            refine lv_if_eq (tgt := 38) hx hb dX4_allowed_31 (by decide) (fun c_172 => ?_) (fun c_172 => ?_)
            · skip
              have hb4 : bqb p0 4 = false := bqF (ez_171.symm.trans c_172)
              refine lv_iconst (v := 0) hx hb dX4_allowed_38 (by decide) ?_
              refine lv_istore_n (lv' := [(3, .int 0), (2, .int 4), (0, .ref x), (1, .int p0)]) hx hb dX4_allowed_39 rfl hl (by decide) rfl (fun ls hl => ?_)
              refine lv_iload_n hx hb dX4_allowed_40 rfl (lv_at hl 0 rfl) ?_
              refine lv_if_eq (tgt := 58) hx hb dX4_allowed_41 (by decide) (fun _ => ?_) (fun hc => absurd (by decide) hc)
              refine lv_aload_n hx hb dX4_allowed_58 rfl (lv_at hl 2 rfl) ?_
              refine va_get (D := D) (ci := 5) (v := .ref a4) (C := RX4) (T := TX4) (N := 4) hx hb hts in_X4_allowed_X4 hown hK hP 0 rfl rfl 3 (by decide) w_0 (fun _ h9 => h9) rfl dX4_allowed_59 ?_
              refine lv_iload_n hx hb dX4_allowed_62 rfl (lv_at hl 1 rfl) ?_
              refine lv_iload_n hx hb dX4_allowed_63 rfl (lv_at hl 0 rfl) ?_
              refine lv_if_eq (tgt := 79) hx hb dX4_allowed_64 (by decide) (fun _ => ?_) (fun hc => absurd (by decide) hc)
              refine lv_null hx hb dX4_allowed_79 ?_
              refine va_astqN hx hb hK hP hD hS 2 2 rfl rfl (by unfold vp_in; decide) dX4_allowed_80 (fun H locs hP hD hS => ?_)
              have hP : va_P D vwCl [(x, .inr (5, [.ref a1, .ref a2, .ref a3, .ref a4])), (a1, wT tC 5 fs), (a4, wS tC 5 (va_up (va_up (va_up (va_up (va_up gf 0 (some f)) 1 none) 2 none) 3 (some f)) 4 none)), (f, .inr (3, [.ref e1, .ref e2, .int 5, .int 0])), (e1, wI tC 0 z1), ((qs 1), .inr (4, [.int 1, .int 1, .ref f, .int 0, .int (-1), .null, .int (-1), .null])), ((qs 2), .inr (4, [.int 2, .int 1, .ref f, .int 0, .int (-1), .null, .int (-1), .null])), ((qs 4), .inr (4, [.int 4, .int 1, .ref f, .int 0, .int (-1), .null, .int (-1), .null])), ((qs 0), .inr (4, [.int 0, .int 1, .ref f, .int 0, .int (-1), .null, .int (-1), .null])), ((qs 3), .inr (4, [.int 3, .int 1, .ref f, .int 0, .int (-1), .null, .int (-1), .null]))] H := hP
              have hD : va_D A [(x, .inr (5, [.ref a1, .ref a2, .ref a3, .ref a4])), (a1, wT tC 5 fs), (a4, wS tC 5 (va_up (va_up (va_up (va_up (va_up gf 0 (some f)) 1 none) 2 none) 3 (some f)) 4 none)), (f, .inr (3, [.ref e1, .ref e2, .int 5, .int 0])), (e1, wI tC 0 z1), ((qs 1), .inr (4, [.int 1, .int 1, .ref f, .int 0, .int (-1), .null, .int (-1), .null])), ((qs 2), .inr (4, [.int 2, .int 1, .ref f, .int 0, .int (-1), .null, .int (-1), .null])), ((qs 4), .inr (4, [.int 4, .int 1, .ref f, .int 0, .int (-1), .null, .int (-1), .null])), ((qs 0), .inr (4, [.int 0, .int 1, .ref f, .int 0, .int (-1), .null, .int (-1), .null])), ((qs 3), .inr (4, [.int 3, .int 1, .ref f, .int 0, .int (-1), .null, .int (-1), .null]))] := hD
              refine lv_iinc (v := 5) (lv' := [(2, .int 5), (3, .int 0), (0, .ref x), (1, .int p0)]) hx hb dX4_allowed_81 hl (k := 1) rfl (by decide) (by decide) rfl (fun ls hl => ?_)
              refine lv_goto (tgt := 21) hx hb dX4_allowed_84 (by decide) ?_
              refine lv_iload_n hx hb dX4_allowed_21 rfl (lv_at hl 0 rfl) ?_
              refine lv_iconst (v := 5) hx hb dX4_allowed_22 (by decide) ?_
              refine lv_icmp_ge (tgt := 87) hx hb dX4_allowed_23 (by decide) (fun _ => ?_) (fun hc => absurd (by decide) hc)
              refine lv_aload_n hx hb dX4_allowed_87 rfl (lv_at hl 2 rfl) ?_
              refine va_get (D := D) (ci := 5) (v := .ref a4) (C := RX4) (T := TX4) (N := 4) hx hb hts in_X4_allowed_X4 hown hK hP 0 rfl rfl 3 (by decide) w_0 (fun _ h9 => h9) rfl dX4_allowed_88 ?_
              have hPc := hP.sub (ws' := [(a4, wS tC 5 (va_up (va_up (va_up (va_up (va_up gf 0 (some f)) 1 none) 2 none) 3 (some f)) 4 none)), (f, .inr (3, [.ref e1, .ref e2, .int 5, .int 0])), (e1, wI tC 0 z1)]) [2, 3, 4] rfl
              have hDc := hD.sub (ws' := [(a4, wS tC 5 (va_up (va_up (va_up (va_up (va_up gf 0 (some f)) 1 none) 2 none) 3 (some f)) 4 none)), (f, .inr (3, [.ref e1, .ref e2, .int 5, .int 0])), (e1, wI tC 0 z1)]) [2, 3, 4] (by decide) rfl
              have hFc := va_free (wc := [(a4, wS tC 5 (va_up (va_up (va_up (va_up (va_up gf 0 (some f)) 1 none) 2 none) 3 (some f)) 4 none)), (f, .inr (3, [.ref e1, .ref e2, .int 5, .int 0])), (e1, wI tC 0 z1)]) hD hS hA [2, 3, 4] rfl
              refine va_callq (va_runS (As := [.ref a4]) (rest := []) ⟨hx, hb, hml, hown, hts⟩ (c_X4_heldByHolders l hlt D tC dz H.size a4 (va_up (va_up (va_up (va_up (va_up gf 0 (some f)) 1 none) 2 none) 3 (some f)) 4 none) (bqb p0) f e1 e2 z1 (by intro j hj; rcases (show j = 0 ∨ j = 1 ∨ j = 2 ∨ j = 3 ∨ j = 4 by omega) with rfl | rfl | rfl | rfl | rfl <;> simp [va_up, hb0, hb1, hb2, hb3, hb4])) (va_cwS 1 hts gX4_allowed_X4_heldByHolders rfl rfl rfl (by decide +kernel) ⟨Nat.le_of_ble_eq_true rfl, Nat.le_of_ble_eq_true rfl⟩) ⟨pB_blind, pB_at hPc hDc hK hN hE hS hFc⟩ rfl rfl hl.1 rfl (lv_room (Nat.le_of_ble_eq_true rfl)) dX4_allowed_91 ⟨Nat.le_of_ble_eq_true rfl, Nat.le_of_ble_eq_true rfl⟩) hS (fun q _ h => hFc q h) hFc (fun r_173 u t H1 locs ht hvm hw hB hz1 hk1 hS => ?_)
              obtain ⟨hP1, _, hD1⟩ := hB
              have hw_174 := hw
              rw [ht] at hP1
              obtain ⟨hP, hD⟩ := va_join (wr := [(x, .inr (5, [.ref a1, .ref a2, .ref a3, .ref a4])), (a1, wT tC 5 fs), ((qs 1), .inr (4, [.int 1, .int 1, .ref f, .int 0, .int (-1), .null, .int (-1), .null])), ((qs 2), .inr (4, [.int 2, .int 1, .ref f, .int 0, .int (-1), .null, .int (-1), .null])), ((qs 4), .inr (4, [.int 4, .int 1, .ref f, .int 0, .int (-1), .null, .int (-1), .null])), ((qs 0), .inr (4, [.int 0, .int 1, .ref f, .int 0, .int (-1), .null, .int (-1), .null])), ((qs 3), .inr (4, [.int 3, .int 1, .ref f, .int 0, .int (-1), .null, .int (-1), .null]))]) (w1 := [(a4, wS tC 5 (va_up (va_up (va_up (va_up (va_up gf 0 (some f)) 1 none) 2 none) 3 (some f)) 4 none)), (f, .inr (3, [.ref e1, .ref e2, .int 5, .int 0])), (e1, wI tC 0 z1)]) hP hD [2, 3, 4] [0, 1, 5, 6, 7, 8, 9] rfl rfl (by decide) (by decide) hk1 hFc hP1 hD1
              generalize H1 = H at hP hS ⊢
              have hP : va_P D vwCl [(x, .inr (5, [.ref a1, .ref a2, .ref a3, .ref a4])), (a1, wT tC 5 fs), ((qs 1), .inr (4, [.int 1, .int 1, .ref f, .int 0, .int (-1), .null, .int (-1), .null])), ((qs 2), .inr (4, [.int 2, .int 1, .ref f, .int 0, .int (-1), .null, .int (-1), .null])), ((qs 4), .inr (4, [.int 4, .int 1, .ref f, .int 0, .int (-1), .null, .int (-1), .null])), ((qs 0), .inr (4, [.int 0, .int 1, .ref f, .int 0, .int (-1), .null, .int (-1), .null])), ((qs 3), .inr (4, [.int 3, .int 1, .ref f, .int 0, .int (-1), .null, .int (-1), .null])), (a4, wS tC 5 (va_up (va_up (va_up (va_up (va_up gf 0 (some f)) 1 none) 2 none) 3 (some f)) 4 none)), (f, .inr (3, [.ref e1, .ref e2, .int 5, .int 0])), (e1, wI tC 0 z1)] H := hP
              have hD : va_D A [(x, .inr (5, [.ref a1, .ref a2, .ref a3, .ref a4])), (a1, wT tC 5 fs), ((qs 1), .inr (4, [.int 1, .int 1, .ref f, .int 0, .int (-1), .null, .int (-1), .null])), ((qs 2), .inr (4, [.int 2, .int 1, .ref f, .int 0, .int (-1), .null, .int (-1), .null])), ((qs 4), .inr (4, [.int 4, .int 1, .ref f, .int 0, .int (-1), .null, .int (-1), .null])), ((qs 0), .inr (4, [.int 0, .int 1, .ref f, .int 0, .int (-1), .null, .int (-1), .null])), ((qs 3), .inr (4, [.int 3, .int 1, .ref f, .int 0, .int (-1), .null, .int (-1), .null])), (a4, wS tC 5 (va_up (va_up (va_up (va_up (va_up gf 0 (some f)) 1 none) 2 none) 3 (some f)) 4 none)), (f, .inr (3, [.ref e1, .ref e2, .int 5, .int 0])), (e1, wI tC 0 z1)] := hD
              have q1 : r_173 = some f := hw_174.trans (by rw [hb0, hb1, hb2, hb3, hb4] <;> rfl)
              subst q1
              refine W.eq (g2 := F0 m 94 ls [.ref f]) rfl ?_
              refine lv_astore_n (lv' := [(2, .ref f), (3, .int 0), (0, .ref x), (1, .int p0)]) hx hb dX4_allowed_94 rfl hl (by decide) rfl (fun ls hl => ?_)
              refine lv_aload_n hx hb dX4_allowed_95 rfl (lv_at hl 0 rfl) ?_
              refine lv_ifnull hx hb dX4_allowed_96 ?_
              refine lv_aload_n hx hb dX4_allowed_99 rfl (lv_at hl 2 rfl) ?_
              refine va_get (D := D) (ci := 5) (v := .ref a4) (C := RX4) (T := TX4) (N := 4) hx hb hts in_X4_allowed_X4 hown hK hP 0 rfl rfl 3 (by decide) w_0 (fun _ h9 => h9) rfl dX4_allowed_100 ?_
              refine lv_aload_n hx hb dX4_allowed_103 rfl (lv_at hl 0 rfl) ?_
              have hPc := hP.sub (ws' := [(a4, wS tC 5 (va_up (va_up (va_up (va_up (va_up gf 0 (some f)) 1 none) 2 none) 3 (some f)) 4 none)), (f, .inr (3, [.ref e1, .ref e2, .int 5, .int 0])), (e1, wI tC 0 z1)]) [7, 8, 9] rfl
              have hDc := hD.sub (ws' := [(a4, wS tC 5 (va_up (va_up (va_up (va_up (va_up gf 0 (some f)) 1 none) 2 none) 3 (some f)) 4 none)), (f, .inr (3, [.ref e1, .ref e2, .int 5, .int 0])), (e1, wI tC 0 z1)]) [7, 8, 9] (by decide) rfl
              have hFc := va_free (wc := [(a4, wS tC 5 (va_up (va_up (va_up (va_up (va_up gf 0 (some f)) 1 none) 2 none) 3 (some f)) 4 none)), (f, .inr (3, [.ref e1, .ref e2, .int 5, .int 0])), (e1, wI tC 0 z1)]) hD hS hA [7, 8, 9] rfl
              refine va_calli (va_runS (As := [.ref a4, .ref f]) (rest := []) ⟨hx, hb, hml, hown, hts⟩ (c_X4_mayGoOn l hlt D tC dz H.size a4 (va_up (va_up (va_up (va_up (va_up gf 0 (some f)) 1 none) 2 none) 3 (some f)) 4 none) (bqb p0) f e1 e2 z1 (by intro j hj; rcases (show j = 0 ∨ j = 1 ∨ j = 2 ∨ j = 3 ∨ j = 4 by omega) with rfl | rfl | rfl | rfl | rfl <;> simp [va_up, hb0, hb1, hb2, hb3, hb4])) (va_cwS 2 hts gX4_allowed_X4_mayGoOn rfl rfl rfl (by decide +kernel) ⟨Nat.le_of_ble_eq_true rfl, Nat.le_of_ble_eq_true rfl⟩) ⟨pB_blind, pB_at hPc hDc hK hN hE hS hFc⟩ rfl rfl hl.1 rfl (lv_room (Nat.le_of_ble_eq_true rfl)) dX4_allowed_104 ⟨Nat.le_of_ble_eq_true rfl, Nat.le_of_ble_eq_true rfl⟩) hS (fun q _ h => hFc q h) hFc (fun r_175 u t H1 locs ht hvm hw hB hz1 hk1 hS => ?_)
              obtain ⟨hP1, _, hD1⟩ := hB
              have hw_176 := hw
              rw [ht] at hP1
              obtain ⟨hP, hD⟩ := va_join (wr := [(x, .inr (5, [.ref a1, .ref a2, .ref a3, .ref a4])), (a1, wT tC 5 fs), ((qs 1), .inr (4, [.int 1, .int 1, .ref f, .int 0, .int (-1), .null, .int (-1), .null])), ((qs 2), .inr (4, [.int 2, .int 1, .ref f, .int 0, .int (-1), .null, .int (-1), .null])), ((qs 4), .inr (4, [.int 4, .int 1, .ref f, .int 0, .int (-1), .null, .int (-1), .null])), ((qs 0), .inr (4, [.int 0, .int 1, .ref f, .int 0, .int (-1), .null, .int (-1), .null])), ((qs 3), .inr (4, [.int 3, .int 1, .ref f, .int 0, .int (-1), .null, .int (-1), .null]))]) (w1 := [(a4, wS tC 5 (va_up (va_up (va_up (va_up (va_up gf 0 (some f)) 1 none) 2 none) 3 (some f)) 4 none)), (f, .inr (3, [.ref e1, .ref e2, .int 5, .int 0])), (e1, wI tC 0 z1)]) hP hD [7, 8, 9] [0, 1, 2, 3, 4, 5, 6] rfl rfl (by decide) (by decide) hk1 hFc hP1 hD1
              generalize H1 = H at hP hS ⊢
              have hP : va_P D vwCl [(x, .inr (5, [.ref a1, .ref a2, .ref a3, .ref a4])), (a1, wT tC 5 fs), ((qs 1), .inr (4, [.int 1, .int 1, .ref f, .int 0, .int (-1), .null, .int (-1), .null])), ((qs 2), .inr (4, [.int 2, .int 1, .ref f, .int 0, .int (-1), .null, .int (-1), .null])), ((qs 4), .inr (4, [.int 4, .int 1, .ref f, .int 0, .int (-1), .null, .int (-1), .null])), ((qs 0), .inr (4, [.int 0, .int 1, .ref f, .int 0, .int (-1), .null, .int (-1), .null])), ((qs 3), .inr (4, [.int 3, .int 1, .ref f, .int 0, .int (-1), .null, .int (-1), .null])), (a4, wS tC 5 (va_up (va_up (va_up (va_up (va_up gf 0 (some f)) 1 none) 2 none) 3 (some f)) 4 none)), (f, .inr (3, [.ref e1, .ref e2, .int 5, .int 0])), (e1, wI tC 0 z1)] H := hP
              have hD : va_D A [(x, .inr (5, [.ref a1, .ref a2, .ref a3, .ref a4])), (a1, wT tC 5 fs), ((qs 1), .inr (4, [.int 1, .int 1, .ref f, .int 0, .int (-1), .null, .int (-1), .null])), ((qs 2), .inr (4, [.int 2, .int 1, .ref f, .int 0, .int (-1), .null, .int (-1), .null])), ((qs 4), .inr (4, [.int 4, .int 1, .ref f, .int 0, .int (-1), .null, .int (-1), .null])), ((qs 0), .inr (4, [.int 0, .int 1, .ref f, .int 0, .int (-1), .null, .int (-1), .null])), ((qs 3), .inr (4, [.int 3, .int 1, .ref f, .int 0, .int (-1), .null, .int (-1), .null])), (a4, wS tC 5 (va_up (va_up (va_up (va_up (va_up gf 0 (some f)) 1 none) 2 none) 3 (some f)) 4 none)), (f, .inr (3, [.ref e1, .ref e2, .int 5, .int 0])), (e1, wI tC 0 z1)] := hD
              have q1 : r_175 = 0 := hw_176.trans (by unfold mayg cntb; rw [hb0, hb1, hb2, hb3, hb4] <;> decide)
              subst q1
              refine lv_if_eq (tgt := 114) hx hb dX4_allowed_107 (by decide) (fun _ => ?_) (fun hc => absurd (by decide) hc)
              refine lv_iconst (v := 0) hx hb dX4_allowed_114 (by decide) ?_
              have hP9 := hP.sub (ws' := []) [] rfl
              have hD9 := hD.sub (ws' := []) [] (by decide) rfl
              refine W.widen (k := 1) (n := 6) (by omega) (by omega) ?_
              exact vx_ret (W.zret (v := 0) hx hb hr (by decide) (fun t ht hW => ⟨⟨0, (), rfl, ⟨(by unfold mayg cntb; rw [hb0, hb1, hb2, hb3, hb4] <;> decide), bl1 hw_2 c_3⟩, (by rw [ht]; exact hP9), va_K.moved hW.alike hK, hD9⟩, hS.F ht⟩) hS.2.2 dX4_allowed_115 hlocks)
            · skip
              have hb4 : bqb p0 4 = true := bqT (fun h => c_172 (ez_171.trans h))
              refine lv_iconst (v := 1) hx hb dX4_allowed_34 (by decide) ?_
              refine lv_goto (tgt := 39) hx hb dX4_allowed_35 (by decide) ?_
              refine lv_istore_n (lv' := [(3, .int 1), (2, .int 4), (0, .ref x), (1, .int p0)]) hx hb dX4_allowed_39 rfl hl (by decide) rfl (fun ls hl => ?_)
              refine lv_iload_n hx hb dX4_allowed_40 rfl (lv_at hl 0 rfl) ?_
              refine lv_if_eq (tgt := 58) hx hb dX4_allowed_41 (by decide) (fun hc => absurd hc (by decide)) (fun _ => ?_)
              refine lv_aload_n hx hb dX4_allowed_44 rfl (lv_at hl 2 rfl) ?_
              refine va_get (D := D) (ci := 5) (v := .ref a1) (C := RX4) (T := TX4) (N := 4) hx hb hts in_X4_allowed_X4 hown hK hP 0 rfl rfl 0 (by decide) w_1 (fun _ h9 => h9) rfl dX4_allowed_45 ?_
              refine lv_iload_n hx hb dX4_allowed_48 rfl (lv_at hl 1 rfl) ?_
              refine va_aldq hx hb hK hP 1 3 rfl rfl (by unfold vp_in; decide) dX4_allowed_49 ?_
              rw [show fs (4 : Int32).toNatClampNeg = some (qs 4) from (by rw [show (4 : Int32).toNatClampNeg = 4 by decide]; exact hfs 4 (by decide))]
              refine W.eq (g2 := F0 m 50 ls [.ref (qs 4)]) rfl ?_
              have hPc := hP.sub (ws' := [((qs 4), .inr (4, [.int 4, .int 1, .ref f, .int 0, .int (-1), .null, .int (-1), .null]))]) [7] rfl
              have hDc := hD.sub (ws' := [((qs 4), .inr (4, [.int 4, .int 1, .ref f, .int 0, .int (-1), .null, .int (-1), .null]))]) [7] (by decide) rfl
              have hFc := va_free (wc := [((qs 4), .inr (4, [.int 4, .int 1, .ref f, .int 0, .int (-1), .null, .int (-1), .null]))]) hD hS hA [7] rfl
              refine va_calli (va_runVN (As := []) (rest := []) ⟨hx, hb, hml, hown, hts⟩ (c_X3_isFree l hlt D tC dz H.size f (qs 4) 4 ) ⟨(va_cnB (host := "NoticeStations") 0 hts gX4_allowed_X3_isFree_n240 rfl rfl rfl (hN.1 (.methodLinkNest "NoticeStations" 240 ⟨"NoticeStations$Station", "isFree", "()Z"⟩ "NoticeStations") (by decide +kernel)) w_2 (by decide +kernel) ⟨Nat.le_of_ble_eq_true rfl, Nat.le_of_ble_eq_true rfl⟩), w_3, w_4⟩ ⟨pB_blind, va_recv hK hPc (ci := 4) (q0 := 0) rfl rfl, pB_at hPc hDc hK hN hE hS hFc⟩ rfl rfl hl.1 rfl (lv_room (Nat.le_of_ble_eq_true rfl)) dX4_allowed_50 ⟨Nat.le_of_ble_eq_true rfl, Nat.le_of_ble_eq_true rfl⟩) hS (fun q _ h => hFc q h) hFc (fun r_177 u t H1 locs ht hvm hw hB hz1 hk1 hS => ?_)
              obtain ⟨hP1, _, hD1⟩ := hB
              have hw_178 := hw
              rw [ht] at hP1
              obtain ⟨hP, hD⟩ := va_join (wr := [(x, .inr (5, [.ref a1, .ref a2, .ref a3, .ref a4])), (a1, wT tC 5 fs), (a4, wS tC 5 (va_up (va_up (va_up (va_up gf 0 (some f)) 1 none) 2 none) 3 (some f))), (f, .inr (3, [.ref e1, .ref e2, .int 5, .int 0])), (e1, wI tC 0 z1), ((qs 1), .inr (4, [.int 1, .int 1, .ref f, .int 0, .int (-1), .null, .int (-1), .null])), ((qs 2), .inr (4, [.int 2, .int 1, .ref f, .int 0, .int (-1), .null, .int (-1), .null])), ((qs 0), .inr (4, [.int 0, .int 1, .ref f, .int 0, .int (-1), .null, .int (-1), .null])), ((qs 3), .inr (4, [.int 3, .int 1, .ref f, .int 0, .int (-1), .null, .int (-1), .null]))]) (w1 := [((qs 4), .inr (4, [.int 4, .int 1, .ref f, .int 0, .int (-1), .null, .int (-1), .null]))]) hP hD [7] [0, 1, 2, 3, 4, 5, 6, 8, 9] rfl rfl (by decide) (by decide) hk1 hFc hP1 hD1
              generalize H1 = H at hP hS ⊢
              have hP : va_P D vwCl [(x, .inr (5, [.ref a1, .ref a2, .ref a3, .ref a4])), (a1, wT tC 5 fs), (a4, wS tC 5 (va_up (va_up (va_up (va_up gf 0 (some f)) 1 none) 2 none) 3 (some f))), (f, .inr (3, [.ref e1, .ref e2, .int 5, .int 0])), (e1, wI tC 0 z1), ((qs 1), .inr (4, [.int 1, .int 1, .ref f, .int 0, .int (-1), .null, .int (-1), .null])), ((qs 2), .inr (4, [.int 2, .int 1, .ref f, .int 0, .int (-1), .null, .int (-1), .null])), ((qs 0), .inr (4, [.int 0, .int 1, .ref f, .int 0, .int (-1), .null, .int (-1), .null])), ((qs 3), .inr (4, [.int 3, .int 1, .ref f, .int 0, .int (-1), .null, .int (-1), .null])), ((qs 4), .inr (4, [.int 4, .int 1, .ref f, .int 0, .int (-1), .null, .int (-1), .null]))] H := hP
              have hD : va_D A [(x, .inr (5, [.ref a1, .ref a2, .ref a3, .ref a4])), (a1, wT tC 5 fs), (a4, wS tC 5 (va_up (va_up (va_up (va_up gf 0 (some f)) 1 none) 2 none) 3 (some f))), (f, .inr (3, [.ref e1, .ref e2, .int 5, .int 0])), (e1, wI tC 0 z1), ((qs 1), .inr (4, [.int 1, .int 1, .ref f, .int 0, .int (-1), .null, .int (-1), .null])), ((qs 2), .inr (4, [.int 2, .int 1, .ref f, .int 0, .int (-1), .null, .int (-1), .null])), ((qs 0), .inr (4, [.int 0, .int 1, .ref f, .int 0, .int (-1), .null, .int (-1), .null])), ((qs 3), .inr (4, [.int 3, .int 1, .ref f, .int 0, .int (-1), .null, .int (-1), .null])), ((qs 4), .inr (4, [.int 4, .int 1, .ref f, .int 0, .int (-1), .null, .int (-1), .null]))] := hD
              subst hw_178
              refine lv_if_ne (tgt := 58) hx hb dX4_allowed_53 (by decide) (fun _ => ?_) (fun hc => absurd hc (by decide))
              refine lv_aload_n hx hb dX4_allowed_58 rfl (lv_at hl 2 rfl) ?_
              refine va_get (D := D) (ci := 5) (v := .ref a4) (C := RX4) (T := TX4) (N := 4) hx hb hts in_X4_allowed_X4 hown hK hP 0 rfl rfl 3 (by decide) w_0 (fun _ h9 => h9) rfl dX4_allowed_59 ?_
              refine lv_iload_n hx hb dX4_allowed_62 rfl (lv_at hl 1 rfl) ?_
              refine lv_iload_n hx hb dX4_allowed_63 rfl (lv_at hl 0 rfl) ?_
              refine lv_if_eq (tgt := 79) hx hb dX4_allowed_64 (by decide) (fun hc => absurd hc (by decide)) (fun _ => ?_)
              refine lv_aload_n hx hb dX4_allowed_67 rfl (lv_at hl 2 rfl) ?_
              refine va_get (D := D) (ci := 5) (v := .ref a1) (C := RX4) (T := TX4) (N := 4) hx hb hts in_X4_allowed_X4 hown hK hP 0 rfl rfl 0 (by decide) w_1 (fun _ h9 => h9) rfl dX4_allowed_68 ?_
              refine lv_iload_n hx hb dX4_allowed_71 rfl (lv_at hl 1 rfl) ?_
              refine va_aldq hx hb hK hP 1 3 rfl rfl (by unfold vp_in; decide) dX4_allowed_72 ?_
              rw [show fs (4 : Int32).toNatClampNeg = some (qs 4) from (by rw [show (4 : Int32).toNatClampNeg = 4 by decide]; exact hfs 4 (by decide))]
              refine W.eq (g2 := F0 m 73 ls [.ref (qs 4), .int 4, .ref a4]) rfl ?_
              refine va_getN (host := "NoticeStations") (D := D) (ci := 4) (v := .ref f) (C := RX3) (T := TX3) (N := 8) hx hb hts in_X4_allowed_X3 hown hK hP 9 rfl rfl 2 (by decide) (va_Nw.use rfl (hN.1 (.fieldLinkNest "NoticeStations" 61 "NoticeStations$Station" "stored" "LNoticeStations$Standing;" "NoticeStations") (by decide +kernel))) (fun _ h9 => h9) rfl dX4_allowed_73 ?_
              refine lv_goto (tgt := 80) hx hb dX4_allowed_76 (by decide) ?_
              refine va_astq hx hb hK hP hD hS 2 2 3 3 rfl rfl rfl rfl (by unfold vp_in; decide) dX4_allowed_80 (fun H locs hP hD hS => ?_)
              have hP : va_P D vwCl [(x, .inr (5, [.ref a1, .ref a2, .ref a3, .ref a4])), (a1, wT tC 5 fs), (a4, wS tC 5 (va_up (va_up (va_up (va_up (va_up gf 0 (some f)) 1 none) 2 none) 3 (some f)) 4 (some f))), (f, .inr (3, [.ref e1, .ref e2, .int 5, .int 0])), (e1, wI tC 0 z1), ((qs 1), .inr (4, [.int 1, .int 1, .ref f, .int 0, .int (-1), .null, .int (-1), .null])), ((qs 2), .inr (4, [.int 2, .int 1, .ref f, .int 0, .int (-1), .null, .int (-1), .null])), ((qs 0), .inr (4, [.int 0, .int 1, .ref f, .int 0, .int (-1), .null, .int (-1), .null])), ((qs 3), .inr (4, [.int 3, .int 1, .ref f, .int 0, .int (-1), .null, .int (-1), .null])), ((qs 4), .inr (4, [.int 4, .int 1, .ref f, .int 0, .int (-1), .null, .int (-1), .null]))] H := hP
              have hD : va_D A [(x, .inr (5, [.ref a1, .ref a2, .ref a3, .ref a4])), (a1, wT tC 5 fs), (a4, wS tC 5 (va_up (va_up (va_up (va_up (va_up gf 0 (some f)) 1 none) 2 none) 3 (some f)) 4 (some f))), (f, .inr (3, [.ref e1, .ref e2, .int 5, .int 0])), (e1, wI tC 0 z1), ((qs 1), .inr (4, [.int 1, .int 1, .ref f, .int 0, .int (-1), .null, .int (-1), .null])), ((qs 2), .inr (4, [.int 2, .int 1, .ref f, .int 0, .int (-1), .null, .int (-1), .null])), ((qs 0), .inr (4, [.int 0, .int 1, .ref f, .int 0, .int (-1), .null, .int (-1), .null])), ((qs 3), .inr (4, [.int 3, .int 1, .ref f, .int 0, .int (-1), .null, .int (-1), .null])), ((qs 4), .inr (4, [.int 4, .int 1, .ref f, .int 0, .int (-1), .null, .int (-1), .null]))] := hD
              refine lv_iinc (v := 5) (lv' := [(2, .int 5), (3, .int 1), (0, .ref x), (1, .int p0)]) hx hb dX4_allowed_81 hl (k := 1) rfl (by decide) (by decide) rfl (fun ls hl => ?_)
              refine lv_goto (tgt := 21) hx hb dX4_allowed_84 (by decide) ?_
              refine lv_iload_n hx hb dX4_allowed_21 rfl (lv_at hl 0 rfl) ?_
              refine lv_iconst (v := 5) hx hb dX4_allowed_22 (by decide) ?_
              refine lv_icmp_ge (tgt := 87) hx hb dX4_allowed_23 (by decide) (fun _ => ?_) (fun hc => absurd (by decide) hc)
              refine lv_aload_n hx hb dX4_allowed_87 rfl (lv_at hl 2 rfl) ?_
              refine va_get (D := D) (ci := 5) (v := .ref a4) (C := RX4) (T := TX4) (N := 4) hx hb hts in_X4_allowed_X4 hown hK hP 0 rfl rfl 3 (by decide) w_0 (fun _ h9 => h9) rfl dX4_allowed_88 ?_
              have hPc := hP.sub (ws' := [(a4, wS tC 5 (va_up (va_up (va_up (va_up (va_up gf 0 (some f)) 1 none) 2 none) 3 (some f)) 4 (some f))), (f, .inr (3, [.ref e1, .ref e2, .int 5, .int 0])), (e1, wI tC 0 z1)]) [2, 3, 4] rfl
              have hDc := hD.sub (ws' := [(a4, wS tC 5 (va_up (va_up (va_up (va_up (va_up gf 0 (some f)) 1 none) 2 none) 3 (some f)) 4 (some f))), (f, .inr (3, [.ref e1, .ref e2, .int 5, .int 0])), (e1, wI tC 0 z1)]) [2, 3, 4] (by decide) rfl
              have hFc := va_free (wc := [(a4, wS tC 5 (va_up (va_up (va_up (va_up (va_up gf 0 (some f)) 1 none) 2 none) 3 (some f)) 4 (some f))), (f, .inr (3, [.ref e1, .ref e2, .int 5, .int 0])), (e1, wI tC 0 z1)]) hD hS hA [2, 3, 4] rfl
              refine va_callq (va_runS (As := [.ref a4]) (rest := []) ⟨hx, hb, hml, hown, hts⟩ (c_X4_heldByHolders l hlt D tC dz H.size a4 (va_up (va_up (va_up (va_up (va_up gf 0 (some f)) 1 none) 2 none) 3 (some f)) 4 (some f)) (bqb p0) f e1 e2 z1 (by intro j hj; rcases (show j = 0 ∨ j = 1 ∨ j = 2 ∨ j = 3 ∨ j = 4 by omega) with rfl | rfl | rfl | rfl | rfl <;> simp [va_up, hb0, hb1, hb2, hb3, hb4])) (va_cwS 1 hts gX4_allowed_X4_heldByHolders rfl rfl rfl (by decide +kernel) ⟨Nat.le_of_ble_eq_true rfl, Nat.le_of_ble_eq_true rfl⟩) ⟨pB_blind, pB_at hPc hDc hK hN hE hS hFc⟩ rfl rfl hl.1 rfl (lv_room (Nat.le_of_ble_eq_true rfl)) dX4_allowed_91 ⟨Nat.le_of_ble_eq_true rfl, Nat.le_of_ble_eq_true rfl⟩) hS (fun q _ h => hFc q h) hFc (fun r_179 u t H1 locs ht hvm hw hB hz1 hk1 hS => ?_)
              obtain ⟨hP1, _, hD1⟩ := hB
              have hw_180 := hw
              rw [ht] at hP1
              obtain ⟨hP, hD⟩ := va_join (wr := [(x, .inr (5, [.ref a1, .ref a2, .ref a3, .ref a4])), (a1, wT tC 5 fs), ((qs 1), .inr (4, [.int 1, .int 1, .ref f, .int 0, .int (-1), .null, .int (-1), .null])), ((qs 2), .inr (4, [.int 2, .int 1, .ref f, .int 0, .int (-1), .null, .int (-1), .null])), ((qs 0), .inr (4, [.int 0, .int 1, .ref f, .int 0, .int (-1), .null, .int (-1), .null])), ((qs 3), .inr (4, [.int 3, .int 1, .ref f, .int 0, .int (-1), .null, .int (-1), .null])), ((qs 4), .inr (4, [.int 4, .int 1, .ref f, .int 0, .int (-1), .null, .int (-1), .null]))]) (w1 := [(a4, wS tC 5 (va_up (va_up (va_up (va_up (va_up gf 0 (some f)) 1 none) 2 none) 3 (some f)) 4 (some f))), (f, .inr (3, [.ref e1, .ref e2, .int 5, .int 0])), (e1, wI tC 0 z1)]) hP hD [2, 3, 4] [0, 1, 5, 6, 7, 8, 9] rfl rfl (by decide) (by decide) hk1 hFc hP1 hD1
              generalize H1 = H at hP hS ⊢
              have hP : va_P D vwCl [(x, .inr (5, [.ref a1, .ref a2, .ref a3, .ref a4])), (a1, wT tC 5 fs), ((qs 1), .inr (4, [.int 1, .int 1, .ref f, .int 0, .int (-1), .null, .int (-1), .null])), ((qs 2), .inr (4, [.int 2, .int 1, .ref f, .int 0, .int (-1), .null, .int (-1), .null])), ((qs 0), .inr (4, [.int 0, .int 1, .ref f, .int 0, .int (-1), .null, .int (-1), .null])), ((qs 3), .inr (4, [.int 3, .int 1, .ref f, .int 0, .int (-1), .null, .int (-1), .null])), ((qs 4), .inr (4, [.int 4, .int 1, .ref f, .int 0, .int (-1), .null, .int (-1), .null])), (a4, wS tC 5 (va_up (va_up (va_up (va_up (va_up gf 0 (some f)) 1 none) 2 none) 3 (some f)) 4 (some f))), (f, .inr (3, [.ref e1, .ref e2, .int 5, .int 0])), (e1, wI tC 0 z1)] H := hP
              have hD : va_D A [(x, .inr (5, [.ref a1, .ref a2, .ref a3, .ref a4])), (a1, wT tC 5 fs), ((qs 1), .inr (4, [.int 1, .int 1, .ref f, .int 0, .int (-1), .null, .int (-1), .null])), ((qs 2), .inr (4, [.int 2, .int 1, .ref f, .int 0, .int (-1), .null, .int (-1), .null])), ((qs 0), .inr (4, [.int 0, .int 1, .ref f, .int 0, .int (-1), .null, .int (-1), .null])), ((qs 3), .inr (4, [.int 3, .int 1, .ref f, .int 0, .int (-1), .null, .int (-1), .null])), ((qs 4), .inr (4, [.int 4, .int 1, .ref f, .int 0, .int (-1), .null, .int (-1), .null])), (a4, wS tC 5 (va_up (va_up (va_up (va_up (va_up gf 0 (some f)) 1 none) 2 none) 3 (some f)) 4 (some f))), (f, .inr (3, [.ref e1, .ref e2, .int 5, .int 0])), (e1, wI tC 0 z1)] := hD
              have q1 : r_179 = some f := hw_180.trans (by rw [hb0, hb1, hb2, hb3, hb4] <;> rfl)
              subst q1
              refine W.eq (g2 := F0 m 94 ls [.ref f]) rfl ?_
              refine lv_astore_n (lv' := [(2, .ref f), (3, .int 1), (0, .ref x), (1, .int p0)]) hx hb dX4_allowed_94 rfl hl (by decide) rfl (fun ls hl => ?_)
              refine lv_aload_n hx hb dX4_allowed_95 rfl (lv_at hl 0 rfl) ?_
              refine lv_ifnull hx hb dX4_allowed_96 ?_
              refine lv_aload_n hx hb dX4_allowed_99 rfl (lv_at hl 2 rfl) ?_
              refine va_get (D := D) (ci := 5) (v := .ref a4) (C := RX4) (T := TX4) (N := 4) hx hb hts in_X4_allowed_X4 hown hK hP 0 rfl rfl 3 (by decide) w_0 (fun _ h9 => h9) rfl dX4_allowed_100 ?_
              refine lv_aload_n hx hb dX4_allowed_103 rfl (lv_at hl 0 rfl) ?_
              have hPc := hP.sub (ws' := [(a4, wS tC 5 (va_up (va_up (va_up (va_up (va_up gf 0 (some f)) 1 none) 2 none) 3 (some f)) 4 (some f))), (f, .inr (3, [.ref e1, .ref e2, .int 5, .int 0])), (e1, wI tC 0 z1)]) [7, 8, 9] rfl
              have hDc := hD.sub (ws' := [(a4, wS tC 5 (va_up (va_up (va_up (va_up (va_up gf 0 (some f)) 1 none) 2 none) 3 (some f)) 4 (some f))), (f, .inr (3, [.ref e1, .ref e2, .int 5, .int 0])), (e1, wI tC 0 z1)]) [7, 8, 9] (by decide) rfl
              have hFc := va_free (wc := [(a4, wS tC 5 (va_up (va_up (va_up (va_up (va_up gf 0 (some f)) 1 none) 2 none) 3 (some f)) 4 (some f))), (f, .inr (3, [.ref e1, .ref e2, .int 5, .int 0])), (e1, wI tC 0 z1)]) hD hS hA [7, 8, 9] rfl
              refine va_calli (va_runS (As := [.ref a4, .ref f]) (rest := []) ⟨hx, hb, hml, hown, hts⟩ (c_X4_mayGoOn l hlt D tC dz H.size a4 (va_up (va_up (va_up (va_up (va_up gf 0 (some f)) 1 none) 2 none) 3 (some f)) 4 (some f)) (bqb p0) f e1 e2 z1 (by intro j hj; rcases (show j = 0 ∨ j = 1 ∨ j = 2 ∨ j = 3 ∨ j = 4 by omega) with rfl | rfl | rfl | rfl | rfl <;> simp [va_up, hb0, hb1, hb2, hb3, hb4])) (va_cwS 2 hts gX4_allowed_X4_mayGoOn rfl rfl rfl (by decide +kernel) ⟨Nat.le_of_ble_eq_true rfl, Nat.le_of_ble_eq_true rfl⟩) ⟨pB_blind, pB_at hPc hDc hK hN hE hS hFc⟩ rfl rfl hl.1 rfl (lv_room (Nat.le_of_ble_eq_true rfl)) dX4_allowed_104 ⟨Nat.le_of_ble_eq_true rfl, Nat.le_of_ble_eq_true rfl⟩) hS (fun q _ h => hFc q h) hFc (fun r_181 u t H1 locs ht hvm hw hB hz1 hk1 hS => ?_)
              obtain ⟨hP1, _, hD1⟩ := hB
              have hw_182 := hw
              rw [ht] at hP1
              obtain ⟨hP, hD⟩ := va_join (wr := [(x, .inr (5, [.ref a1, .ref a2, .ref a3, .ref a4])), (a1, wT tC 5 fs), ((qs 1), .inr (4, [.int 1, .int 1, .ref f, .int 0, .int (-1), .null, .int (-1), .null])), ((qs 2), .inr (4, [.int 2, .int 1, .ref f, .int 0, .int (-1), .null, .int (-1), .null])), ((qs 0), .inr (4, [.int 0, .int 1, .ref f, .int 0, .int (-1), .null, .int (-1), .null])), ((qs 3), .inr (4, [.int 3, .int 1, .ref f, .int 0, .int (-1), .null, .int (-1), .null])), ((qs 4), .inr (4, [.int 4, .int 1, .ref f, .int 0, .int (-1), .null, .int (-1), .null]))]) (w1 := [(a4, wS tC 5 (va_up (va_up (va_up (va_up (va_up gf 0 (some f)) 1 none) 2 none) 3 (some f)) 4 (some f))), (f, .inr (3, [.ref e1, .ref e2, .int 5, .int 0])), (e1, wI tC 0 z1)]) hP hD [7, 8, 9] [0, 1, 2, 3, 4, 5, 6] rfl rfl (by decide) (by decide) hk1 hFc hP1 hD1
              generalize H1 = H at hP hS ⊢
              have hP : va_P D vwCl [(x, .inr (5, [.ref a1, .ref a2, .ref a3, .ref a4])), (a1, wT tC 5 fs), ((qs 1), .inr (4, [.int 1, .int 1, .ref f, .int 0, .int (-1), .null, .int (-1), .null])), ((qs 2), .inr (4, [.int 2, .int 1, .ref f, .int 0, .int (-1), .null, .int (-1), .null])), ((qs 0), .inr (4, [.int 0, .int 1, .ref f, .int 0, .int (-1), .null, .int (-1), .null])), ((qs 3), .inr (4, [.int 3, .int 1, .ref f, .int 0, .int (-1), .null, .int (-1), .null])), ((qs 4), .inr (4, [.int 4, .int 1, .ref f, .int 0, .int (-1), .null, .int (-1), .null])), (a4, wS tC 5 (va_up (va_up (va_up (va_up (va_up gf 0 (some f)) 1 none) 2 none) 3 (some f)) 4 (some f))), (f, .inr (3, [.ref e1, .ref e2, .int 5, .int 0])), (e1, wI tC 0 z1)] H := hP
              have hD : va_D A [(x, .inr (5, [.ref a1, .ref a2, .ref a3, .ref a4])), (a1, wT tC 5 fs), ((qs 1), .inr (4, [.int 1, .int 1, .ref f, .int 0, .int (-1), .null, .int (-1), .null])), ((qs 2), .inr (4, [.int 2, .int 1, .ref f, .int 0, .int (-1), .null, .int (-1), .null])), ((qs 0), .inr (4, [.int 0, .int 1, .ref f, .int 0, .int (-1), .null, .int (-1), .null])), ((qs 3), .inr (4, [.int 3, .int 1, .ref f, .int 0, .int (-1), .null, .int (-1), .null])), ((qs 4), .inr (4, [.int 4, .int 1, .ref f, .int 0, .int (-1), .null, .int (-1), .null])), (a4, wS tC 5 (va_up (va_up (va_up (va_up (va_up gf 0 (some f)) 1 none) 2 none) 3 (some f)) 4 (some f))), (f, .inr (3, [.ref e1, .ref e2, .int 5, .int 0])), (e1, wI tC 0 z1)] := hD
              have q1 : r_181 = 1 := hw_182.trans (by unfold mayg cntb; rw [hb0, hb1, hb2, hb3, hb4] <;> decide)
              subst q1
              refine lv_if_eq (tgt := 114) hx hb dX4_allowed_107 (by decide) (fun hc => absurd hc (by decide)) (fun _ => ?_)
              refine lv_iconst (v := 1) hx hb dX4_allowed_110 (by decide) ?_
              refine lv_goto (tgt := 115) hx hb dX4_allowed_111 (by decide) ?_
              have hP9 := hP.sub (ws' := []) [] rfl
              have hD9 := hD.sub (ws' := []) [] (by decide) rfl
              refine W.widen (k := 1) (n := 6) (by omega) (by omega) ?_
              exact vx_ret (W.zret (v := 1) hx hb hr (by decide) (fun t ht hW => ⟨⟨1, (), rfl, ⟨(by unfold mayg cntb; rw [hb0, hb1, hb2, hb3, hb4] <;> decide), bl1 hw_2 c_3⟩, (by rw [ht]; exact hP9), va_K.moved hW.alike hK, hD9⟩, hS.F ht⟩) hS.2.2 dX4_allowed_115 hlocks)
        · skip
          have hb2 : bqb p0 2 = true := bqT (fun h => c_151 (ez_150.trans h))
          refine lv_iconst (v := 1) hx hb dX4_allowed_34 (by decide) ?_
          refine lv_goto (tgt := 39) hx hb dX4_allowed_35 (by decide) ?_
          refine lv_istore_n (lv' := [(3, .int 1), (2, .int 2), (0, .ref x), (1, .int p0)]) hx hb dX4_allowed_39 rfl hl (by decide) rfl (fun ls hl => ?_)
          refine lv_iload_n hx hb dX4_allowed_40 rfl (lv_at hl 0 rfl) ?_
          refine lv_if_eq (tgt := 58) hx hb dX4_allowed_41 (by decide) (fun hc => absurd hc (by decide)) (fun _ => ?_)
          refine lv_aload_n hx hb dX4_allowed_44 rfl (lv_at hl 2 rfl) ?_
          refine va_get (D := D) (ci := 5) (v := .ref a1) (C := RX4) (T := TX4) (N := 4) hx hb hts in_X4_allowed_X4 hown hK hP 0 rfl rfl 0 (by decide) w_1 (fun _ h9 => h9) rfl dX4_allowed_45 ?_
          refine lv_iload_n hx hb dX4_allowed_48 rfl (lv_at hl 1 rfl) ?_
          refine va_aldq hx hb hK hP 1 3 rfl rfl (by unfold vp_in; decide) dX4_allowed_49 ?_
          rw [show fs (2 : Int32).toNatClampNeg = some (qs 2) from (by rw [show (2 : Int32).toNatClampNeg = 2 by decide]; exact hfs 2 (by decide))]
          refine W.eq (g2 := F0 m 50 ls [.ref (qs 2)]) rfl ?_
          have hPc := hP.sub (ws' := [((qs 2), .inr (4, [.int 2, .int 1, .ref f, .int 0, .int (-1), .null, .int (-1), .null]))]) [6] rfl
          have hDc := hD.sub (ws' := [((qs 2), .inr (4, [.int 2, .int 1, .ref f, .int 0, .int (-1), .null, .int (-1), .null]))]) [6] (by decide) rfl
          have hFc := va_free (wc := [((qs 2), .inr (4, [.int 2, .int 1, .ref f, .int 0, .int (-1), .null, .int (-1), .null]))]) hD hS hA [6] rfl
          refine va_calli (va_runVN (As := []) (rest := []) ⟨hx, hb, hml, hown, hts⟩ (c_X3_isFree l hlt D tC dz H.size f (qs 2) 2 ) ⟨(va_cnB (host := "NoticeStations") 0 hts gX4_allowed_X3_isFree_n240 rfl rfl rfl (hN.1 (.methodLinkNest "NoticeStations" 240 ⟨"NoticeStations$Station", "isFree", "()Z"⟩ "NoticeStations") (by decide +kernel)) w_2 (by decide +kernel) ⟨Nat.le_of_ble_eq_true rfl, Nat.le_of_ble_eq_true rfl⟩), w_3, w_4⟩ ⟨pB_blind, va_recv hK hPc (ci := 4) (q0 := 0) rfl rfl, pB_at hPc hDc hK hN hE hS hFc⟩ rfl rfl hl.1 rfl (lv_room (Nat.le_of_ble_eq_true rfl)) dX4_allowed_50 ⟨Nat.le_of_ble_eq_true rfl, Nat.le_of_ble_eq_true rfl⟩) hS (fun q _ h => hFc q h) hFc (fun r_183 u t H1 locs ht hvm hw hB hz1 hk1 hS => ?_)
          obtain ⟨hP1, _, hD1⟩ := hB
          have hw_184 := hw
          rw [ht] at hP1
          obtain ⟨hP, hD⟩ := va_join (wr := [(x, .inr (5, [.ref a1, .ref a2, .ref a3, .ref a4])), (a1, wT tC 5 fs), (a4, wS tC 5 (va_up (va_up gf 0 (some f)) 1 none)), (f, .inr (3, [.ref e1, .ref e2, .int 5, .int 0])), (e1, wI tC 0 z1), ((qs 1), .inr (4, [.int 1, .int 1, .ref f, .int 0, .int (-1), .null, .int (-1), .null])), ((qs 3), .inr (4, [.int 3, .int 1, .ref f, .int 0, .int (-1), .null, .int (-1), .null])), ((qs 4), .inr (4, [.int 4, .int 1, .ref f, .int 0, .int (-1), .null, .int (-1), .null])), ((qs 0), .inr (4, [.int 0, .int 1, .ref f, .int 0, .int (-1), .null, .int (-1), .null]))]) (w1 := [((qs 2), .inr (4, [.int 2, .int 1, .ref f, .int 0, .int (-1), .null, .int (-1), .null]))]) hP hD [6] [0, 1, 2, 3, 4, 5, 7, 8, 9] rfl rfl (by decide) (by decide) hk1 hFc hP1 hD1
          generalize H1 = H at hP hS ⊢
          have hP : va_P D vwCl [(x, .inr (5, [.ref a1, .ref a2, .ref a3, .ref a4])), (a1, wT tC 5 fs), (a4, wS tC 5 (va_up (va_up gf 0 (some f)) 1 none)), (f, .inr (3, [.ref e1, .ref e2, .int 5, .int 0])), (e1, wI tC 0 z1), ((qs 1), .inr (4, [.int 1, .int 1, .ref f, .int 0, .int (-1), .null, .int (-1), .null])), ((qs 3), .inr (4, [.int 3, .int 1, .ref f, .int 0, .int (-1), .null, .int (-1), .null])), ((qs 4), .inr (4, [.int 4, .int 1, .ref f, .int 0, .int (-1), .null, .int (-1), .null])), ((qs 0), .inr (4, [.int 0, .int 1, .ref f, .int 0, .int (-1), .null, .int (-1), .null])), ((qs 2), .inr (4, [.int 2, .int 1, .ref f, .int 0, .int (-1), .null, .int (-1), .null]))] H := hP
          have hD : va_D A [(x, .inr (5, [.ref a1, .ref a2, .ref a3, .ref a4])), (a1, wT tC 5 fs), (a4, wS tC 5 (va_up (va_up gf 0 (some f)) 1 none)), (f, .inr (3, [.ref e1, .ref e2, .int 5, .int 0])), (e1, wI tC 0 z1), ((qs 1), .inr (4, [.int 1, .int 1, .ref f, .int 0, .int (-1), .null, .int (-1), .null])), ((qs 3), .inr (4, [.int 3, .int 1, .ref f, .int 0, .int (-1), .null, .int (-1), .null])), ((qs 4), .inr (4, [.int 4, .int 1, .ref f, .int 0, .int (-1), .null, .int (-1), .null])), ((qs 0), .inr (4, [.int 0, .int 1, .ref f, .int 0, .int (-1), .null, .int (-1), .null])), ((qs 2), .inr (4, [.int 2, .int 1, .ref f, .int 0, .int (-1), .null, .int (-1), .null]))] := hD
          subst hw_184
          refine lv_if_ne (tgt := 58) hx hb dX4_allowed_53 (by decide) (fun _ => ?_) (fun hc => absurd hc (by decide))
          refine lv_aload_n hx hb dX4_allowed_58 rfl (lv_at hl 2 rfl) ?_
          refine va_get (D := D) (ci := 5) (v := .ref a4) (C := RX4) (T := TX4) (N := 4) hx hb hts in_X4_allowed_X4 hown hK hP 0 rfl rfl 3 (by decide) w_0 (fun _ h9 => h9) rfl dX4_allowed_59 ?_
          refine lv_iload_n hx hb dX4_allowed_62 rfl (lv_at hl 1 rfl) ?_
          refine lv_iload_n hx hb dX4_allowed_63 rfl (lv_at hl 0 rfl) ?_
          refine lv_if_eq (tgt := 79) hx hb dX4_allowed_64 (by decide) (fun hc => absurd hc (by decide)) (fun _ => ?_)
          refine lv_aload_n hx hb dX4_allowed_67 rfl (lv_at hl 2 rfl) ?_
          refine va_get (D := D) (ci := 5) (v := .ref a1) (C := RX4) (T := TX4) (N := 4) hx hb hts in_X4_allowed_X4 hown hK hP 0 rfl rfl 0 (by decide) w_1 (fun _ h9 => h9) rfl dX4_allowed_68 ?_
          refine lv_iload_n hx hb dX4_allowed_71 rfl (lv_at hl 1 rfl) ?_
          refine va_aldq hx hb hK hP 1 3 rfl rfl (by unfold vp_in; decide) dX4_allowed_72 ?_
          rw [show fs (2 : Int32).toNatClampNeg = some (qs 2) from (by rw [show (2 : Int32).toNatClampNeg = 2 by decide]; exact hfs 2 (by decide))]
          refine W.eq (g2 := F0 m 73 ls [.ref (qs 2), .int 2, .ref a4]) rfl ?_
          refine va_getN (host := "NoticeStations") (D := D) (ci := 4) (v := .ref f) (C := RX3) (T := TX3) (N := 8) hx hb hts in_X4_allowed_X3 hown hK hP 9 rfl rfl 2 (by decide) (va_Nw.use rfl (hN.1 (.fieldLinkNest "NoticeStations" 61 "NoticeStations$Station" "stored" "LNoticeStations$Standing;" "NoticeStations") (by decide +kernel))) (fun _ h9 => h9) rfl dX4_allowed_73 ?_
          refine lv_goto (tgt := 80) hx hb dX4_allowed_76 (by decide) ?_
          refine va_astq hx hb hK hP hD hS 2 2 3 3 rfl rfl rfl rfl (by unfold vp_in; decide) dX4_allowed_80 (fun H locs hP hD hS => ?_)
          have hP : va_P D vwCl [(x, .inr (5, [.ref a1, .ref a2, .ref a3, .ref a4])), (a1, wT tC 5 fs), (a4, wS tC 5 (va_up (va_up (va_up gf 0 (some f)) 1 none) 2 (some f))), (f, .inr (3, [.ref e1, .ref e2, .int 5, .int 0])), (e1, wI tC 0 z1), ((qs 1), .inr (4, [.int 1, .int 1, .ref f, .int 0, .int (-1), .null, .int (-1), .null])), ((qs 3), .inr (4, [.int 3, .int 1, .ref f, .int 0, .int (-1), .null, .int (-1), .null])), ((qs 4), .inr (4, [.int 4, .int 1, .ref f, .int 0, .int (-1), .null, .int (-1), .null])), ((qs 0), .inr (4, [.int 0, .int 1, .ref f, .int 0, .int (-1), .null, .int (-1), .null])), ((qs 2), .inr (4, [.int 2, .int 1, .ref f, .int 0, .int (-1), .null, .int (-1), .null]))] H := hP
          have hD : va_D A [(x, .inr (5, [.ref a1, .ref a2, .ref a3, .ref a4])), (a1, wT tC 5 fs), (a4, wS tC 5 (va_up (va_up (va_up gf 0 (some f)) 1 none) 2 (some f))), (f, .inr (3, [.ref e1, .ref e2, .int 5, .int 0])), (e1, wI tC 0 z1), ((qs 1), .inr (4, [.int 1, .int 1, .ref f, .int 0, .int (-1), .null, .int (-1), .null])), ((qs 3), .inr (4, [.int 3, .int 1, .ref f, .int 0, .int (-1), .null, .int (-1), .null])), ((qs 4), .inr (4, [.int 4, .int 1, .ref f, .int 0, .int (-1), .null, .int (-1), .null])), ((qs 0), .inr (4, [.int 0, .int 1, .ref f, .int 0, .int (-1), .null, .int (-1), .null])), ((qs 2), .inr (4, [.int 2, .int 1, .ref f, .int 0, .int (-1), .null, .int (-1), .null]))] := hD
          refine lv_iinc (v := 3) (lv' := [(2, .int 3), (3, .int 1), (0, .ref x), (1, .int p0)]) hx hb dX4_allowed_81 hl (k := 1) rfl (by decide) (by decide) rfl (fun ls hl => ?_)
          refine lv_goto (tgt := 21) hx hb dX4_allowed_84 (by decide) ?_
          refine lv_iload_n hx hb dX4_allowed_21 rfl (lv_at hl 0 rfl) ?_
          refine lv_iconst (v := 5) hx hb dX4_allowed_22 (by decide) ?_
          refine lv_icmp_ge (tgt := 87) hx hb dX4_allowed_23 (by decide) (fun hc => absurd hc (by decide)) (fun _ => ?_)
          refine lv_iload_n hx hb dX4_allowed_26 rfl (lv_at hl 3 rfl) ?_
          refine lv_iconst (v := 1) hx hb dX4_allowed_27 (by decide) ?_
          refine lv_iload_n hx hb dX4_allowed_28 rfl (lv_at hl 0 rfl) ?_
          refine lv_ishl hx hb dX4_allowed_29 ?_
          refine lv_topi (fun z_185 ez_185 => ?_)
          have fz_185 : z_185 = 8 := ez_185.trans (by decide)
          subst fz_185
          refine lv_iand hx hb dX4_allowed_30 ?_
          refine lv_topi (fun z_186 ez_186 => ?_)
          refine lv_if_eq (tgt := 38) hx hb dX4_allowed_31 (by decide) (fun c_187 => ?_) (fun c_187 => ?_)
          · skip
            have hb3 : bqb p0 3 = false := bqF (ez_186.symm.trans c_187)
            refine lv_iconst (v := 0) hx hb dX4_allowed_38 (by decide) ?_
            refine lv_istore_n (lv' := [(3, .int 0), (2, .int 3), (0, .ref x), (1, .int p0)]) hx hb dX4_allowed_39 rfl hl (by decide) rfl (fun ls hl => ?_)
            refine lv_iload_n hx hb dX4_allowed_40 rfl (lv_at hl 0 rfl) ?_
            refine lv_if_eq (tgt := 58) hx hb dX4_allowed_41 (by decide) (fun _ => ?_) (fun hc => absurd (by decide) hc)
            refine lv_aload_n hx hb dX4_allowed_58 rfl (lv_at hl 2 rfl) ?_
            refine va_get (D := D) (ci := 5) (v := .ref a4) (C := RX4) (T := TX4) (N := 4) hx hb hts in_X4_allowed_X4 hown hK hP 0 rfl rfl 3 (by decide) w_0 (fun _ h9 => h9) rfl dX4_allowed_59 ?_
            refine lv_iload_n hx hb dX4_allowed_62 rfl (lv_at hl 1 rfl) ?_
            refine lv_iload_n hx hb dX4_allowed_63 rfl (lv_at hl 0 rfl) ?_
            refine lv_if_eq (tgt := 79) hx hb dX4_allowed_64 (by decide) (fun _ => ?_) (fun hc => absurd (by decide) hc)
            refine lv_null hx hb dX4_allowed_79 ?_
            refine va_astqN hx hb hK hP hD hS 2 2 rfl rfl (by unfold vp_in; decide) dX4_allowed_80 (fun H locs hP hD hS => ?_)
            have hP : va_P D vwCl [(x, .inr (5, [.ref a1, .ref a2, .ref a3, .ref a4])), (a1, wT tC 5 fs), (a4, wS tC 5 (va_up (va_up (va_up (va_up gf 0 (some f)) 1 none) 2 (some f)) 3 none)), (f, .inr (3, [.ref e1, .ref e2, .int 5, .int 0])), (e1, wI tC 0 z1), ((qs 1), .inr (4, [.int 1, .int 1, .ref f, .int 0, .int (-1), .null, .int (-1), .null])), ((qs 3), .inr (4, [.int 3, .int 1, .ref f, .int 0, .int (-1), .null, .int (-1), .null])), ((qs 4), .inr (4, [.int 4, .int 1, .ref f, .int 0, .int (-1), .null, .int (-1), .null])), ((qs 0), .inr (4, [.int 0, .int 1, .ref f, .int 0, .int (-1), .null, .int (-1), .null])), ((qs 2), .inr (4, [.int 2, .int 1, .ref f, .int 0, .int (-1), .null, .int (-1), .null]))] H := hP
            have hD : va_D A [(x, .inr (5, [.ref a1, .ref a2, .ref a3, .ref a4])), (a1, wT tC 5 fs), (a4, wS tC 5 (va_up (va_up (va_up (va_up gf 0 (some f)) 1 none) 2 (some f)) 3 none)), (f, .inr (3, [.ref e1, .ref e2, .int 5, .int 0])), (e1, wI tC 0 z1), ((qs 1), .inr (4, [.int 1, .int 1, .ref f, .int 0, .int (-1), .null, .int (-1), .null])), ((qs 3), .inr (4, [.int 3, .int 1, .ref f, .int 0, .int (-1), .null, .int (-1), .null])), ((qs 4), .inr (4, [.int 4, .int 1, .ref f, .int 0, .int (-1), .null, .int (-1), .null])), ((qs 0), .inr (4, [.int 0, .int 1, .ref f, .int 0, .int (-1), .null, .int (-1), .null])), ((qs 2), .inr (4, [.int 2, .int 1, .ref f, .int 0, .int (-1), .null, .int (-1), .null]))] := hD
            refine lv_iinc (v := 4) (lv' := [(2, .int 4), (3, .int 0), (0, .ref x), (1, .int p0)]) hx hb dX4_allowed_81 hl (k := 1) rfl (by decide) (by decide) rfl (fun ls hl => ?_)
            refine lv_goto (tgt := 21) hx hb dX4_allowed_84 (by decide) ?_
            refine lv_iload_n hx hb dX4_allowed_21 rfl (lv_at hl 0 rfl) ?_
            refine lv_iconst (v := 5) hx hb dX4_allowed_22 (by decide) ?_
            refine lv_icmp_ge (tgt := 87) hx hb dX4_allowed_23 (by decide) (fun hc => absurd hc (by decide)) (fun _ => ?_)
            refine lv_iload_n hx hb dX4_allowed_26 rfl (lv_at hl 3 rfl) ?_
            refine lv_iconst (v := 1) hx hb dX4_allowed_27 (by decide) ?_
            refine lv_iload_n hx hb dX4_allowed_28 rfl (lv_at hl 0 rfl) ?_
            refine lv_ishl hx hb dX4_allowed_29 ?_
            refine lv_topi (fun z_188 ez_188 => ?_)
            have fz_188 : z_188 = 16 := ez_188.trans (by decide)
            subst fz_188
            refine lv_iand hx hb dX4_allowed_30 ?_
            refine lv_topi (fun z_189 ez_189 => ?_)
            refine lv_if_eq (tgt := 38) hx hb dX4_allowed_31 (by decide) (fun c_190 => ?_) (fun c_190 => ?_)
            · skip
              have hb4 : bqb p0 4 = false := bqF (ez_189.symm.trans c_190)
              refine lv_iconst (v := 0) hx hb dX4_allowed_38 (by decide) ?_
              refine lv_istore_n (lv' := [(3, .int 0), (2, .int 4), (0, .ref x), (1, .int p0)]) hx hb dX4_allowed_39 rfl hl (by decide) rfl (fun ls hl => ?_)
              refine lv_iload_n hx hb dX4_allowed_40 rfl (lv_at hl 0 rfl) ?_
              refine lv_if_eq (tgt := 58) hx hb dX4_allowed_41 (by decide) (fun _ => ?_) (fun hc => absurd (by decide) hc)
              refine lv_aload_n hx hb dX4_allowed_58 rfl (lv_at hl 2 rfl) ?_
              refine va_get (D := D) (ci := 5) (v := .ref a4) (C := RX4) (T := TX4) (N := 4) hx hb hts in_X4_allowed_X4 hown hK hP 0 rfl rfl 3 (by decide) w_0 (fun _ h9 => h9) rfl dX4_allowed_59 ?_
              refine lv_iload_n hx hb dX4_allowed_62 rfl (lv_at hl 1 rfl) ?_
              refine lv_iload_n hx hb dX4_allowed_63 rfl (lv_at hl 0 rfl) ?_
              refine lv_if_eq (tgt := 79) hx hb dX4_allowed_64 (by decide) (fun _ => ?_) (fun hc => absurd (by decide) hc)
              refine lv_null hx hb dX4_allowed_79 ?_
              refine va_astqN hx hb hK hP hD hS 2 2 rfl rfl (by unfold vp_in; decide) dX4_allowed_80 (fun H locs hP hD hS => ?_)
              have hP : va_P D vwCl [(x, .inr (5, [.ref a1, .ref a2, .ref a3, .ref a4])), (a1, wT tC 5 fs), (a4, wS tC 5 (va_up (va_up (va_up (va_up (va_up gf 0 (some f)) 1 none) 2 (some f)) 3 none) 4 none)), (f, .inr (3, [.ref e1, .ref e2, .int 5, .int 0])), (e1, wI tC 0 z1), ((qs 1), .inr (4, [.int 1, .int 1, .ref f, .int 0, .int (-1), .null, .int (-1), .null])), ((qs 3), .inr (4, [.int 3, .int 1, .ref f, .int 0, .int (-1), .null, .int (-1), .null])), ((qs 4), .inr (4, [.int 4, .int 1, .ref f, .int 0, .int (-1), .null, .int (-1), .null])), ((qs 0), .inr (4, [.int 0, .int 1, .ref f, .int 0, .int (-1), .null, .int (-1), .null])), ((qs 2), .inr (4, [.int 2, .int 1, .ref f, .int 0, .int (-1), .null, .int (-1), .null]))] H := hP
              have hD : va_D A [(x, .inr (5, [.ref a1, .ref a2, .ref a3, .ref a4])), (a1, wT tC 5 fs), (a4, wS tC 5 (va_up (va_up (va_up (va_up (va_up gf 0 (some f)) 1 none) 2 (some f)) 3 none) 4 none)), (f, .inr (3, [.ref e1, .ref e2, .int 5, .int 0])), (e1, wI tC 0 z1), ((qs 1), .inr (4, [.int 1, .int 1, .ref f, .int 0, .int (-1), .null, .int (-1), .null])), ((qs 3), .inr (4, [.int 3, .int 1, .ref f, .int 0, .int (-1), .null, .int (-1), .null])), ((qs 4), .inr (4, [.int 4, .int 1, .ref f, .int 0, .int (-1), .null, .int (-1), .null])), ((qs 0), .inr (4, [.int 0, .int 1, .ref f, .int 0, .int (-1), .null, .int (-1), .null])), ((qs 2), .inr (4, [.int 2, .int 1, .ref f, .int 0, .int (-1), .null, .int (-1), .null]))] := hD
              refine lv_iinc (v := 5) (lv' := [(2, .int 5), (3, .int 0), (0, .ref x), (1, .int p0)]) hx hb dX4_allowed_81 hl (k := 1) rfl (by decide) (by decide) rfl (fun ls hl => ?_)
              refine lv_goto (tgt := 21) hx hb dX4_allowed_84 (by decide) ?_
              refine lv_iload_n hx hb dX4_allowed_21 rfl (lv_at hl 0 rfl) ?_
              refine lv_iconst (v := 5) hx hb dX4_allowed_22 (by decide) ?_
              refine lv_icmp_ge (tgt := 87) hx hb dX4_allowed_23 (by decide) (fun _ => ?_) (fun hc => absurd (by decide) hc)
              refine lv_aload_n hx hb dX4_allowed_87 rfl (lv_at hl 2 rfl) ?_
              refine va_get (D := D) (ci := 5) (v := .ref a4) (C := RX4) (T := TX4) (N := 4) hx hb hts in_X4_allowed_X4 hown hK hP 0 rfl rfl 3 (by decide) w_0 (fun _ h9 => h9) rfl dX4_allowed_88 ?_
              have hPc := hP.sub (ws' := [(a4, wS tC 5 (va_up (va_up (va_up (va_up (va_up gf 0 (some f)) 1 none) 2 (some f)) 3 none) 4 none)), (f, .inr (3, [.ref e1, .ref e2, .int 5, .int 0])), (e1, wI tC 0 z1)]) [2, 3, 4] rfl
              have hDc := hD.sub (ws' := [(a4, wS tC 5 (va_up (va_up (va_up (va_up (va_up gf 0 (some f)) 1 none) 2 (some f)) 3 none) 4 none)), (f, .inr (3, [.ref e1, .ref e2, .int 5, .int 0])), (e1, wI tC 0 z1)]) [2, 3, 4] (by decide) rfl
              have hFc := va_free (wc := [(a4, wS tC 5 (va_up (va_up (va_up (va_up (va_up gf 0 (some f)) 1 none) 2 (some f)) 3 none) 4 none)), (f, .inr (3, [.ref e1, .ref e2, .int 5, .int 0])), (e1, wI tC 0 z1)]) hD hS hA [2, 3, 4] rfl
              refine va_callq (va_runS (As := [.ref a4]) (rest := []) ⟨hx, hb, hml, hown, hts⟩ (c_X4_heldByHolders l hlt D tC dz H.size a4 (va_up (va_up (va_up (va_up (va_up gf 0 (some f)) 1 none) 2 (some f)) 3 none) 4 none) (bqb p0) f e1 e2 z1 (by intro j hj; rcases (show j = 0 ∨ j = 1 ∨ j = 2 ∨ j = 3 ∨ j = 4 by omega) with rfl | rfl | rfl | rfl | rfl <;> simp [va_up, hb0, hb1, hb2, hb3, hb4])) (va_cwS 1 hts gX4_allowed_X4_heldByHolders rfl rfl rfl (by decide +kernel) ⟨Nat.le_of_ble_eq_true rfl, Nat.le_of_ble_eq_true rfl⟩) ⟨pB_blind, pB_at hPc hDc hK hN hE hS hFc⟩ rfl rfl hl.1 rfl (lv_room (Nat.le_of_ble_eq_true rfl)) dX4_allowed_91 ⟨Nat.le_of_ble_eq_true rfl, Nat.le_of_ble_eq_true rfl⟩) hS (fun q _ h => hFc q h) hFc (fun r_191 u t H1 locs ht hvm hw hB hz1 hk1 hS => ?_)
              obtain ⟨hP1, _, hD1⟩ := hB
              have hw_192 := hw
              rw [ht] at hP1
              obtain ⟨hP, hD⟩ := va_join (wr := [(x, .inr (5, [.ref a1, .ref a2, .ref a3, .ref a4])), (a1, wT tC 5 fs), ((qs 1), .inr (4, [.int 1, .int 1, .ref f, .int 0, .int (-1), .null, .int (-1), .null])), ((qs 3), .inr (4, [.int 3, .int 1, .ref f, .int 0, .int (-1), .null, .int (-1), .null])), ((qs 4), .inr (4, [.int 4, .int 1, .ref f, .int 0, .int (-1), .null, .int (-1), .null])), ((qs 0), .inr (4, [.int 0, .int 1, .ref f, .int 0, .int (-1), .null, .int (-1), .null])), ((qs 2), .inr (4, [.int 2, .int 1, .ref f, .int 0, .int (-1), .null, .int (-1), .null]))]) (w1 := [(a4, wS tC 5 (va_up (va_up (va_up (va_up (va_up gf 0 (some f)) 1 none) 2 (some f)) 3 none) 4 none)), (f, .inr (3, [.ref e1, .ref e2, .int 5, .int 0])), (e1, wI tC 0 z1)]) hP hD [2, 3, 4] [0, 1, 5, 6, 7, 8, 9] rfl rfl (by decide) (by decide) hk1 hFc hP1 hD1
              generalize H1 = H at hP hS ⊢
              have hP : va_P D vwCl [(x, .inr (5, [.ref a1, .ref a2, .ref a3, .ref a4])), (a1, wT tC 5 fs), ((qs 1), .inr (4, [.int 1, .int 1, .ref f, .int 0, .int (-1), .null, .int (-1), .null])), ((qs 3), .inr (4, [.int 3, .int 1, .ref f, .int 0, .int (-1), .null, .int (-1), .null])), ((qs 4), .inr (4, [.int 4, .int 1, .ref f, .int 0, .int (-1), .null, .int (-1), .null])), ((qs 0), .inr (4, [.int 0, .int 1, .ref f, .int 0, .int (-1), .null, .int (-1), .null])), ((qs 2), .inr (4, [.int 2, .int 1, .ref f, .int 0, .int (-1), .null, .int (-1), .null])), (a4, wS tC 5 (va_up (va_up (va_up (va_up (va_up gf 0 (some f)) 1 none) 2 (some f)) 3 none) 4 none)), (f, .inr (3, [.ref e1, .ref e2, .int 5, .int 0])), (e1, wI tC 0 z1)] H := hP
              have hD : va_D A [(x, .inr (5, [.ref a1, .ref a2, .ref a3, .ref a4])), (a1, wT tC 5 fs), ((qs 1), .inr (4, [.int 1, .int 1, .ref f, .int 0, .int (-1), .null, .int (-1), .null])), ((qs 3), .inr (4, [.int 3, .int 1, .ref f, .int 0, .int (-1), .null, .int (-1), .null])), ((qs 4), .inr (4, [.int 4, .int 1, .ref f, .int 0, .int (-1), .null, .int (-1), .null])), ((qs 0), .inr (4, [.int 0, .int 1, .ref f, .int 0, .int (-1), .null, .int (-1), .null])), ((qs 2), .inr (4, [.int 2, .int 1, .ref f, .int 0, .int (-1), .null, .int (-1), .null])), (a4, wS tC 5 (va_up (va_up (va_up (va_up (va_up gf 0 (some f)) 1 none) 2 (some f)) 3 none) 4 none)), (f, .inr (3, [.ref e1, .ref e2, .int 5, .int 0])), (e1, wI tC 0 z1)] := hD
              have q1 : r_191 = some f := hw_192.trans (by rw [hb0, hb1, hb2, hb3, hb4] <;> rfl)
              subst q1
              refine W.eq (g2 := F0 m 94 ls [.ref f]) rfl ?_
              refine lv_astore_n (lv' := [(2, .ref f), (3, .int 0), (0, .ref x), (1, .int p0)]) hx hb dX4_allowed_94 rfl hl (by decide) rfl (fun ls hl => ?_)
              refine lv_aload_n hx hb dX4_allowed_95 rfl (lv_at hl 0 rfl) ?_
              refine lv_ifnull hx hb dX4_allowed_96 ?_
              refine lv_aload_n hx hb dX4_allowed_99 rfl (lv_at hl 2 rfl) ?_
              refine va_get (D := D) (ci := 5) (v := .ref a4) (C := RX4) (T := TX4) (N := 4) hx hb hts in_X4_allowed_X4 hown hK hP 0 rfl rfl 3 (by decide) w_0 (fun _ h9 => h9) rfl dX4_allowed_100 ?_
              refine lv_aload_n hx hb dX4_allowed_103 rfl (lv_at hl 0 rfl) ?_
              have hPc := hP.sub (ws' := [(a4, wS tC 5 (va_up (va_up (va_up (va_up (va_up gf 0 (some f)) 1 none) 2 (some f)) 3 none) 4 none)), (f, .inr (3, [.ref e1, .ref e2, .int 5, .int 0])), (e1, wI tC 0 z1)]) [7, 8, 9] rfl
              have hDc := hD.sub (ws' := [(a4, wS tC 5 (va_up (va_up (va_up (va_up (va_up gf 0 (some f)) 1 none) 2 (some f)) 3 none) 4 none)), (f, .inr (3, [.ref e1, .ref e2, .int 5, .int 0])), (e1, wI tC 0 z1)]) [7, 8, 9] (by decide) rfl
              have hFc := va_free (wc := [(a4, wS tC 5 (va_up (va_up (va_up (va_up (va_up gf 0 (some f)) 1 none) 2 (some f)) 3 none) 4 none)), (f, .inr (3, [.ref e1, .ref e2, .int 5, .int 0])), (e1, wI tC 0 z1)]) hD hS hA [7, 8, 9] rfl
              refine va_calli (va_runS (As := [.ref a4, .ref f]) (rest := []) ⟨hx, hb, hml, hown, hts⟩ (c_X4_mayGoOn l hlt D tC dz H.size a4 (va_up (va_up (va_up (va_up (va_up gf 0 (some f)) 1 none) 2 (some f)) 3 none) 4 none) (bqb p0) f e1 e2 z1 (by intro j hj; rcases (show j = 0 ∨ j = 1 ∨ j = 2 ∨ j = 3 ∨ j = 4 by omega) with rfl | rfl | rfl | rfl | rfl <;> simp [va_up, hb0, hb1, hb2, hb3, hb4])) (va_cwS 2 hts gX4_allowed_X4_mayGoOn rfl rfl rfl (by decide +kernel) ⟨Nat.le_of_ble_eq_true rfl, Nat.le_of_ble_eq_true rfl⟩) ⟨pB_blind, pB_at hPc hDc hK hN hE hS hFc⟩ rfl rfl hl.1 rfl (lv_room (Nat.le_of_ble_eq_true rfl)) dX4_allowed_104 ⟨Nat.le_of_ble_eq_true rfl, Nat.le_of_ble_eq_true rfl⟩) hS (fun q _ h => hFc q h) hFc (fun r_193 u t H1 locs ht hvm hw hB hz1 hk1 hS => ?_)
              obtain ⟨hP1, _, hD1⟩ := hB
              have hw_194 := hw
              rw [ht] at hP1
              obtain ⟨hP, hD⟩ := va_join (wr := [(x, .inr (5, [.ref a1, .ref a2, .ref a3, .ref a4])), (a1, wT tC 5 fs), ((qs 1), .inr (4, [.int 1, .int 1, .ref f, .int 0, .int (-1), .null, .int (-1), .null])), ((qs 3), .inr (4, [.int 3, .int 1, .ref f, .int 0, .int (-1), .null, .int (-1), .null])), ((qs 4), .inr (4, [.int 4, .int 1, .ref f, .int 0, .int (-1), .null, .int (-1), .null])), ((qs 0), .inr (4, [.int 0, .int 1, .ref f, .int 0, .int (-1), .null, .int (-1), .null])), ((qs 2), .inr (4, [.int 2, .int 1, .ref f, .int 0, .int (-1), .null, .int (-1), .null]))]) (w1 := [(a4, wS tC 5 (va_up (va_up (va_up (va_up (va_up gf 0 (some f)) 1 none) 2 (some f)) 3 none) 4 none)), (f, .inr (3, [.ref e1, .ref e2, .int 5, .int 0])), (e1, wI tC 0 z1)]) hP hD [7, 8, 9] [0, 1, 2, 3, 4, 5, 6] rfl rfl (by decide) (by decide) hk1 hFc hP1 hD1
              generalize H1 = H at hP hS ⊢
              have hP : va_P D vwCl [(x, .inr (5, [.ref a1, .ref a2, .ref a3, .ref a4])), (a1, wT tC 5 fs), ((qs 1), .inr (4, [.int 1, .int 1, .ref f, .int 0, .int (-1), .null, .int (-1), .null])), ((qs 3), .inr (4, [.int 3, .int 1, .ref f, .int 0, .int (-1), .null, .int (-1), .null])), ((qs 4), .inr (4, [.int 4, .int 1, .ref f, .int 0, .int (-1), .null, .int (-1), .null])), ((qs 0), .inr (4, [.int 0, .int 1, .ref f, .int 0, .int (-1), .null, .int (-1), .null])), ((qs 2), .inr (4, [.int 2, .int 1, .ref f, .int 0, .int (-1), .null, .int (-1), .null])), (a4, wS tC 5 (va_up (va_up (va_up (va_up (va_up gf 0 (some f)) 1 none) 2 (some f)) 3 none) 4 none)), (f, .inr (3, [.ref e1, .ref e2, .int 5, .int 0])), (e1, wI tC 0 z1)] H := hP
              have hD : va_D A [(x, .inr (5, [.ref a1, .ref a2, .ref a3, .ref a4])), (a1, wT tC 5 fs), ((qs 1), .inr (4, [.int 1, .int 1, .ref f, .int 0, .int (-1), .null, .int (-1), .null])), ((qs 3), .inr (4, [.int 3, .int 1, .ref f, .int 0, .int (-1), .null, .int (-1), .null])), ((qs 4), .inr (4, [.int 4, .int 1, .ref f, .int 0, .int (-1), .null, .int (-1), .null])), ((qs 0), .inr (4, [.int 0, .int 1, .ref f, .int 0, .int (-1), .null, .int (-1), .null])), ((qs 2), .inr (4, [.int 2, .int 1, .ref f, .int 0, .int (-1), .null, .int (-1), .null])), (a4, wS tC 5 (va_up (va_up (va_up (va_up (va_up gf 0 (some f)) 1 none) 2 (some f)) 3 none) 4 none)), (f, .inr (3, [.ref e1, .ref e2, .int 5, .int 0])), (e1, wI tC 0 z1)] := hD
              have q1 : r_193 = 0 := hw_194.trans (by unfold mayg cntb; rw [hb0, hb1, hb2, hb3, hb4] <;> decide)
              subst q1
              refine lv_if_eq (tgt := 114) hx hb dX4_allowed_107 (by decide) (fun _ => ?_) (fun hc => absurd (by decide) hc)
              refine lv_iconst (v := 0) hx hb dX4_allowed_114 (by decide) ?_
              have hP9 := hP.sub (ws' := []) [] rfl
              have hD9 := hD.sub (ws' := []) [] (by decide) rfl
              refine W.widen (k := 1) (n := 6) (by omega) (by omega) ?_
              exact vx_ret (W.zret (v := 0) hx hb hr (by decide) (fun t ht hW => ⟨⟨0, (), rfl, ⟨(by unfold mayg cntb; rw [hb0, hb1, hb2, hb3, hb4] <;> decide), bl1 hw_2 c_3⟩, (by rw [ht]; exact hP9), va_K.moved hW.alike hK, hD9⟩, hS.F ht⟩) hS.2.2 dX4_allowed_115 hlocks)
            · skip
              have hb4 : bqb p0 4 = true := bqT (fun h => c_190 (ez_189.trans h))
              refine lv_iconst (v := 1) hx hb dX4_allowed_34 (by decide) ?_
              refine lv_goto (tgt := 39) hx hb dX4_allowed_35 (by decide) ?_
              refine lv_istore_n (lv' := [(3, .int 1), (2, .int 4), (0, .ref x), (1, .int p0)]) hx hb dX4_allowed_39 rfl hl (by decide) rfl (fun ls hl => ?_)
              refine lv_iload_n hx hb dX4_allowed_40 rfl (lv_at hl 0 rfl) ?_
              refine lv_if_eq (tgt := 58) hx hb dX4_allowed_41 (by decide) (fun hc => absurd hc (by decide)) (fun _ => ?_)
              refine lv_aload_n hx hb dX4_allowed_44 rfl (lv_at hl 2 rfl) ?_
              refine va_get (D := D) (ci := 5) (v := .ref a1) (C := RX4) (T := TX4) (N := 4) hx hb hts in_X4_allowed_X4 hown hK hP 0 rfl rfl 0 (by decide) w_1 (fun _ h9 => h9) rfl dX4_allowed_45 ?_
              refine lv_iload_n hx hb dX4_allowed_48 rfl (lv_at hl 1 rfl) ?_
              refine va_aldq hx hb hK hP 1 3 rfl rfl (by unfold vp_in; decide) dX4_allowed_49 ?_
              rw [show fs (4 : Int32).toNatClampNeg = some (qs 4) from (by rw [show (4 : Int32).toNatClampNeg = 4 by decide]; exact hfs 4 (by decide))]
              refine W.eq (g2 := F0 m 50 ls [.ref (qs 4)]) rfl ?_
              have hPc := hP.sub (ws' := [((qs 4), .inr (4, [.int 4, .int 1, .ref f, .int 0, .int (-1), .null, .int (-1), .null]))]) [7] rfl
              have hDc := hD.sub (ws' := [((qs 4), .inr (4, [.int 4, .int 1, .ref f, .int 0, .int (-1), .null, .int (-1), .null]))]) [7] (by decide) rfl
              have hFc := va_free (wc := [((qs 4), .inr (4, [.int 4, .int 1, .ref f, .int 0, .int (-1), .null, .int (-1), .null]))]) hD hS hA [7] rfl
              refine va_calli (va_runVN (As := []) (rest := []) ⟨hx, hb, hml, hown, hts⟩ (c_X3_isFree l hlt D tC dz H.size f (qs 4) 4 ) ⟨(va_cnB (host := "NoticeStations") 0 hts gX4_allowed_X3_isFree_n240 rfl rfl rfl (hN.1 (.methodLinkNest "NoticeStations" 240 ⟨"NoticeStations$Station", "isFree", "()Z"⟩ "NoticeStations") (by decide +kernel)) w_2 (by decide +kernel) ⟨Nat.le_of_ble_eq_true rfl, Nat.le_of_ble_eq_true rfl⟩), w_3, w_4⟩ ⟨pB_blind, va_recv hK hPc (ci := 4) (q0 := 0) rfl rfl, pB_at hPc hDc hK hN hE hS hFc⟩ rfl rfl hl.1 rfl (lv_room (Nat.le_of_ble_eq_true rfl)) dX4_allowed_50 ⟨Nat.le_of_ble_eq_true rfl, Nat.le_of_ble_eq_true rfl⟩) hS (fun q _ h => hFc q h) hFc (fun r_195 u t H1 locs ht hvm hw hB hz1 hk1 hS => ?_)
              obtain ⟨hP1, _, hD1⟩ := hB
              have hw_196 := hw
              rw [ht] at hP1
              obtain ⟨hP, hD⟩ := va_join (wr := [(x, .inr (5, [.ref a1, .ref a2, .ref a3, .ref a4])), (a1, wT tC 5 fs), (a4, wS tC 5 (va_up (va_up (va_up (va_up gf 0 (some f)) 1 none) 2 (some f)) 3 none)), (f, .inr (3, [.ref e1, .ref e2, .int 5, .int 0])), (e1, wI tC 0 z1), ((qs 1), .inr (4, [.int 1, .int 1, .ref f, .int 0, .int (-1), .null, .int (-1), .null])), ((qs 3), .inr (4, [.int 3, .int 1, .ref f, .int 0, .int (-1), .null, .int (-1), .null])), ((qs 0), .inr (4, [.int 0, .int 1, .ref f, .int 0, .int (-1), .null, .int (-1), .null])), ((qs 2), .inr (4, [.int 2, .int 1, .ref f, .int 0, .int (-1), .null, .int (-1), .null]))]) (w1 := [((qs 4), .inr (4, [.int 4, .int 1, .ref f, .int 0, .int (-1), .null, .int (-1), .null]))]) hP hD [7] [0, 1, 2, 3, 4, 5, 6, 8, 9] rfl rfl (by decide) (by decide) hk1 hFc hP1 hD1
              generalize H1 = H at hP hS ⊢
              have hP : va_P D vwCl [(x, .inr (5, [.ref a1, .ref a2, .ref a3, .ref a4])), (a1, wT tC 5 fs), (a4, wS tC 5 (va_up (va_up (va_up (va_up gf 0 (some f)) 1 none) 2 (some f)) 3 none)), (f, .inr (3, [.ref e1, .ref e2, .int 5, .int 0])), (e1, wI tC 0 z1), ((qs 1), .inr (4, [.int 1, .int 1, .ref f, .int 0, .int (-1), .null, .int (-1), .null])), ((qs 3), .inr (4, [.int 3, .int 1, .ref f, .int 0, .int (-1), .null, .int (-1), .null])), ((qs 0), .inr (4, [.int 0, .int 1, .ref f, .int 0, .int (-1), .null, .int (-1), .null])), ((qs 2), .inr (4, [.int 2, .int 1, .ref f, .int 0, .int (-1), .null, .int (-1), .null])), ((qs 4), .inr (4, [.int 4, .int 1, .ref f, .int 0, .int (-1), .null, .int (-1), .null]))] H := hP
              have hD : va_D A [(x, .inr (5, [.ref a1, .ref a2, .ref a3, .ref a4])), (a1, wT tC 5 fs), (a4, wS tC 5 (va_up (va_up (va_up (va_up gf 0 (some f)) 1 none) 2 (some f)) 3 none)), (f, .inr (3, [.ref e1, .ref e2, .int 5, .int 0])), (e1, wI tC 0 z1), ((qs 1), .inr (4, [.int 1, .int 1, .ref f, .int 0, .int (-1), .null, .int (-1), .null])), ((qs 3), .inr (4, [.int 3, .int 1, .ref f, .int 0, .int (-1), .null, .int (-1), .null])), ((qs 0), .inr (4, [.int 0, .int 1, .ref f, .int 0, .int (-1), .null, .int (-1), .null])), ((qs 2), .inr (4, [.int 2, .int 1, .ref f, .int 0, .int (-1), .null, .int (-1), .null])), ((qs 4), .inr (4, [.int 4, .int 1, .ref f, .int 0, .int (-1), .null, .int (-1), .null]))] := hD
              subst hw_196
              refine lv_if_ne (tgt := 58) hx hb dX4_allowed_53 (by decide) (fun _ => ?_) (fun hc => absurd hc (by decide))
              refine lv_aload_n hx hb dX4_allowed_58 rfl (lv_at hl 2 rfl) ?_
              refine va_get (D := D) (ci := 5) (v := .ref a4) (C := RX4) (T := TX4) (N := 4) hx hb hts in_X4_allowed_X4 hown hK hP 0 rfl rfl 3 (by decide) w_0 (fun _ h9 => h9) rfl dX4_allowed_59 ?_
              refine lv_iload_n hx hb dX4_allowed_62 rfl (lv_at hl 1 rfl) ?_
              refine lv_iload_n hx hb dX4_allowed_63 rfl (lv_at hl 0 rfl) ?_
              refine lv_if_eq (tgt := 79) hx hb dX4_allowed_64 (by decide) (fun hc => absurd hc (by decide)) (fun _ => ?_)
              refine lv_aload_n hx hb dX4_allowed_67 rfl (lv_at hl 2 rfl) ?_
              refine va_get (D := D) (ci := 5) (v := .ref a1) (C := RX4) (T := TX4) (N := 4) hx hb hts in_X4_allowed_X4 hown hK hP 0 rfl rfl 0 (by decide) w_1 (fun _ h9 => h9) rfl dX4_allowed_68 ?_
              refine lv_iload_n hx hb dX4_allowed_71 rfl (lv_at hl 1 rfl) ?_
              refine va_aldq hx hb hK hP 1 3 rfl rfl (by unfold vp_in; decide) dX4_allowed_72 ?_
              rw [show fs (4 : Int32).toNatClampNeg = some (qs 4) from (by rw [show (4 : Int32).toNatClampNeg = 4 by decide]; exact hfs 4 (by decide))]
              refine W.eq (g2 := F0 m 73 ls [.ref (qs 4), .int 4, .ref a4]) rfl ?_
              refine va_getN (host := "NoticeStations") (D := D) (ci := 4) (v := .ref f) (C := RX3) (T := TX3) (N := 8) hx hb hts in_X4_allowed_X3 hown hK hP 9 rfl rfl 2 (by decide) (va_Nw.use rfl (hN.1 (.fieldLinkNest "NoticeStations" 61 "NoticeStations$Station" "stored" "LNoticeStations$Standing;" "NoticeStations") (by decide +kernel))) (fun _ h9 => h9) rfl dX4_allowed_73 ?_
              refine lv_goto (tgt := 80) hx hb dX4_allowed_76 (by decide) ?_
              refine va_astq hx hb hK hP hD hS 2 2 3 3 rfl rfl rfl rfl (by unfold vp_in; decide) dX4_allowed_80 (fun H locs hP hD hS => ?_)
              have hP : va_P D vwCl [(x, .inr (5, [.ref a1, .ref a2, .ref a3, .ref a4])), (a1, wT tC 5 fs), (a4, wS tC 5 (va_up (va_up (va_up (va_up (va_up gf 0 (some f)) 1 none) 2 (some f)) 3 none) 4 (some f))), (f, .inr (3, [.ref e1, .ref e2, .int 5, .int 0])), (e1, wI tC 0 z1), ((qs 1), .inr (4, [.int 1, .int 1, .ref f, .int 0, .int (-1), .null, .int (-1), .null])), ((qs 3), .inr (4, [.int 3, .int 1, .ref f, .int 0, .int (-1), .null, .int (-1), .null])), ((qs 0), .inr (4, [.int 0, .int 1, .ref f, .int 0, .int (-1), .null, .int (-1), .null])), ((qs 2), .inr (4, [.int 2, .int 1, .ref f, .int 0, .int (-1), .null, .int (-1), .null])), ((qs 4), .inr (4, [.int 4, .int 1, .ref f, .int 0, .int (-1), .null, .int (-1), .null]))] H := hP
              have hD : va_D A [(x, .inr (5, [.ref a1, .ref a2, .ref a3, .ref a4])), (a1, wT tC 5 fs), (a4, wS tC 5 (va_up (va_up (va_up (va_up (va_up gf 0 (some f)) 1 none) 2 (some f)) 3 none) 4 (some f))), (f, .inr (3, [.ref e1, .ref e2, .int 5, .int 0])), (e1, wI tC 0 z1), ((qs 1), .inr (4, [.int 1, .int 1, .ref f, .int 0, .int (-1), .null, .int (-1), .null])), ((qs 3), .inr (4, [.int 3, .int 1, .ref f, .int 0, .int (-1), .null, .int (-1), .null])), ((qs 0), .inr (4, [.int 0, .int 1, .ref f, .int 0, .int (-1), .null, .int (-1), .null])), ((qs 2), .inr (4, [.int 2, .int 1, .ref f, .int 0, .int (-1), .null, .int (-1), .null])), ((qs 4), .inr (4, [.int 4, .int 1, .ref f, .int 0, .int (-1), .null, .int (-1), .null]))] := hD
              refine lv_iinc (v := 5) (lv' := [(2, .int 5), (3, .int 1), (0, .ref x), (1, .int p0)]) hx hb dX4_allowed_81 hl (k := 1) rfl (by decide) (by decide) rfl (fun ls hl => ?_)
              refine lv_goto (tgt := 21) hx hb dX4_allowed_84 (by decide) ?_
              refine lv_iload_n hx hb dX4_allowed_21 rfl (lv_at hl 0 rfl) ?_
              refine lv_iconst (v := 5) hx hb dX4_allowed_22 (by decide) ?_
              refine lv_icmp_ge (tgt := 87) hx hb dX4_allowed_23 (by decide) (fun _ => ?_) (fun hc => absurd (by decide) hc)
              refine lv_aload_n hx hb dX4_allowed_87 rfl (lv_at hl 2 rfl) ?_
              refine va_get (D := D) (ci := 5) (v := .ref a4) (C := RX4) (T := TX4) (N := 4) hx hb hts in_X4_allowed_X4 hown hK hP 0 rfl rfl 3 (by decide) w_0 (fun _ h9 => h9) rfl dX4_allowed_88 ?_
              have hPc := hP.sub (ws' := [(a4, wS tC 5 (va_up (va_up (va_up (va_up (va_up gf 0 (some f)) 1 none) 2 (some f)) 3 none) 4 (some f))), (f, .inr (3, [.ref e1, .ref e2, .int 5, .int 0])), (e1, wI tC 0 z1)]) [2, 3, 4] rfl
              have hDc := hD.sub (ws' := [(a4, wS tC 5 (va_up (va_up (va_up (va_up (va_up gf 0 (some f)) 1 none) 2 (some f)) 3 none) 4 (some f))), (f, .inr (3, [.ref e1, .ref e2, .int 5, .int 0])), (e1, wI tC 0 z1)]) [2, 3, 4] (by decide) rfl
              have hFc := va_free (wc := [(a4, wS tC 5 (va_up (va_up (va_up (va_up (va_up gf 0 (some f)) 1 none) 2 (some f)) 3 none) 4 (some f))), (f, .inr (3, [.ref e1, .ref e2, .int 5, .int 0])), (e1, wI tC 0 z1)]) hD hS hA [2, 3, 4] rfl
              refine va_callq (va_runS (As := [.ref a4]) (rest := []) ⟨hx, hb, hml, hown, hts⟩ (c_X4_heldByHolders l hlt D tC dz H.size a4 (va_up (va_up (va_up (va_up (va_up gf 0 (some f)) 1 none) 2 (some f)) 3 none) 4 (some f)) (bqb p0) f e1 e2 z1 (by intro j hj; rcases (show j = 0 ∨ j = 1 ∨ j = 2 ∨ j = 3 ∨ j = 4 by omega) with rfl | rfl | rfl | rfl | rfl <;> simp [va_up, hb0, hb1, hb2, hb3, hb4])) (va_cwS 1 hts gX4_allowed_X4_heldByHolders rfl rfl rfl (by decide +kernel) ⟨Nat.le_of_ble_eq_true rfl, Nat.le_of_ble_eq_true rfl⟩) ⟨pB_blind, pB_at hPc hDc hK hN hE hS hFc⟩ rfl rfl hl.1 rfl (lv_room (Nat.le_of_ble_eq_true rfl)) dX4_allowed_91 ⟨Nat.le_of_ble_eq_true rfl, Nat.le_of_ble_eq_true rfl⟩) hS (fun q _ h => hFc q h) hFc (fun r_197 u t H1 locs ht hvm hw hB hz1 hk1 hS => ?_)
              obtain ⟨hP1, _, hD1⟩ := hB
              have hw_198 := hw
              rw [ht] at hP1
              obtain ⟨hP, hD⟩ := va_join (wr := [(x, .inr (5, [.ref a1, .ref a2, .ref a3, .ref a4])), (a1, wT tC 5 fs), ((qs 1), .inr (4, [.int 1, .int 1, .ref f, .int 0, .int (-1), .null, .int (-1), .null])), ((qs 3), .inr (4, [.int 3, .int 1, .ref f, .int 0, .int (-1), .null, .int (-1), .null])), ((qs 0), .inr (4, [.int 0, .int 1, .ref f, .int 0, .int (-1), .null, .int (-1), .null])), ((qs 2), .inr (4, [.int 2, .int 1, .ref f, .int 0, .int (-1), .null, .int (-1), .null])), ((qs 4), .inr (4, [.int 4, .int 1, .ref f, .int 0, .int (-1), .null, .int (-1), .null]))]) (w1 := [(a4, wS tC 5 (va_up (va_up (va_up (va_up (va_up gf 0 (some f)) 1 none) 2 (some f)) 3 none) 4 (some f))), (f, .inr (3, [.ref e1, .ref e2, .int 5, .int 0])), (e1, wI tC 0 z1)]) hP hD [2, 3, 4] [0, 1, 5, 6, 7, 8, 9] rfl rfl (by decide) (by decide) hk1 hFc hP1 hD1
              generalize H1 = H at hP hS ⊢
              have hP : va_P D vwCl [(x, .inr (5, [.ref a1, .ref a2, .ref a3, .ref a4])), (a1, wT tC 5 fs), ((qs 1), .inr (4, [.int 1, .int 1, .ref f, .int 0, .int (-1), .null, .int (-1), .null])), ((qs 3), .inr (4, [.int 3, .int 1, .ref f, .int 0, .int (-1), .null, .int (-1), .null])), ((qs 0), .inr (4, [.int 0, .int 1, .ref f, .int 0, .int (-1), .null, .int (-1), .null])), ((qs 2), .inr (4, [.int 2, .int 1, .ref f, .int 0, .int (-1), .null, .int (-1), .null])), ((qs 4), .inr (4, [.int 4, .int 1, .ref f, .int 0, .int (-1), .null, .int (-1), .null])), (a4, wS tC 5 (va_up (va_up (va_up (va_up (va_up gf 0 (some f)) 1 none) 2 (some f)) 3 none) 4 (some f))), (f, .inr (3, [.ref e1, .ref e2, .int 5, .int 0])), (e1, wI tC 0 z1)] H := hP
              have hD : va_D A [(x, .inr (5, [.ref a1, .ref a2, .ref a3, .ref a4])), (a1, wT tC 5 fs), ((qs 1), .inr (4, [.int 1, .int 1, .ref f, .int 0, .int (-1), .null, .int (-1), .null])), ((qs 3), .inr (4, [.int 3, .int 1, .ref f, .int 0, .int (-1), .null, .int (-1), .null])), ((qs 0), .inr (4, [.int 0, .int 1, .ref f, .int 0, .int (-1), .null, .int (-1), .null])), ((qs 2), .inr (4, [.int 2, .int 1, .ref f, .int 0, .int (-1), .null, .int (-1), .null])), ((qs 4), .inr (4, [.int 4, .int 1, .ref f, .int 0, .int (-1), .null, .int (-1), .null])), (a4, wS tC 5 (va_up (va_up (va_up (va_up (va_up gf 0 (some f)) 1 none) 2 (some f)) 3 none) 4 (some f))), (f, .inr (3, [.ref e1, .ref e2, .int 5, .int 0])), (e1, wI tC 0 z1)] := hD
              have q1 : r_197 = some f := hw_198.trans (by rw [hb0, hb1, hb2, hb3, hb4] <;> rfl)
              subst q1
              refine W.eq (g2 := F0 m 94 ls [.ref f]) rfl ?_
              refine lv_astore_n (lv' := [(2, .ref f), (3, .int 1), (0, .ref x), (1, .int p0)]) hx hb dX4_allowed_94 rfl hl (by decide) rfl (fun ls hl => ?_)
              refine lv_aload_n hx hb dX4_allowed_95 rfl (lv_at hl 0 rfl) ?_
              refine lv_ifnull hx hb dX4_allowed_96 ?_
              refine lv_aload_n hx hb dX4_allowed_99 rfl (lv_at hl 2 rfl) ?_
              refine va_get (D := D) (ci := 5) (v := .ref a4) (C := RX4) (T := TX4) (N := 4) hx hb hts in_X4_allowed_X4 hown hK hP 0 rfl rfl 3 (by decide) w_0 (fun _ h9 => h9) rfl dX4_allowed_100 ?_
              refine lv_aload_n hx hb dX4_allowed_103 rfl (lv_at hl 0 rfl) ?_
              have hPc := hP.sub (ws' := [(a4, wS tC 5 (va_up (va_up (va_up (va_up (va_up gf 0 (some f)) 1 none) 2 (some f)) 3 none) 4 (some f))), (f, .inr (3, [.ref e1, .ref e2, .int 5, .int 0])), (e1, wI tC 0 z1)]) [7, 8, 9] rfl
              have hDc := hD.sub (ws' := [(a4, wS tC 5 (va_up (va_up (va_up (va_up (va_up gf 0 (some f)) 1 none) 2 (some f)) 3 none) 4 (some f))), (f, .inr (3, [.ref e1, .ref e2, .int 5, .int 0])), (e1, wI tC 0 z1)]) [7, 8, 9] (by decide) rfl
              have hFc := va_free (wc := [(a4, wS tC 5 (va_up (va_up (va_up (va_up (va_up gf 0 (some f)) 1 none) 2 (some f)) 3 none) 4 (some f))), (f, .inr (3, [.ref e1, .ref e2, .int 5, .int 0])), (e1, wI tC 0 z1)]) hD hS hA [7, 8, 9] rfl
              refine va_calli (va_runS (As := [.ref a4, .ref f]) (rest := []) ⟨hx, hb, hml, hown, hts⟩ (c_X4_mayGoOn l hlt D tC dz H.size a4 (va_up (va_up (va_up (va_up (va_up gf 0 (some f)) 1 none) 2 (some f)) 3 none) 4 (some f)) (bqb p0) f e1 e2 z1 (by intro j hj; rcases (show j = 0 ∨ j = 1 ∨ j = 2 ∨ j = 3 ∨ j = 4 by omega) with rfl | rfl | rfl | rfl | rfl <;> simp [va_up, hb0, hb1, hb2, hb3, hb4])) (va_cwS 2 hts gX4_allowed_X4_mayGoOn rfl rfl rfl (by decide +kernel) ⟨Nat.le_of_ble_eq_true rfl, Nat.le_of_ble_eq_true rfl⟩) ⟨pB_blind, pB_at hPc hDc hK hN hE hS hFc⟩ rfl rfl hl.1 rfl (lv_room (Nat.le_of_ble_eq_true rfl)) dX4_allowed_104 ⟨Nat.le_of_ble_eq_true rfl, Nat.le_of_ble_eq_true rfl⟩) hS (fun q _ h => hFc q h) hFc (fun r_199 u t H1 locs ht hvm hw hB hz1 hk1 hS => ?_)
              obtain ⟨hP1, _, hD1⟩ := hB
              have hw_200 := hw
              rw [ht] at hP1
              obtain ⟨hP, hD⟩ := va_join (wr := [(x, .inr (5, [.ref a1, .ref a2, .ref a3, .ref a4])), (a1, wT tC 5 fs), ((qs 1), .inr (4, [.int 1, .int 1, .ref f, .int 0, .int (-1), .null, .int (-1), .null])), ((qs 3), .inr (4, [.int 3, .int 1, .ref f, .int 0, .int (-1), .null, .int (-1), .null])), ((qs 0), .inr (4, [.int 0, .int 1, .ref f, .int 0, .int (-1), .null, .int (-1), .null])), ((qs 2), .inr (4, [.int 2, .int 1, .ref f, .int 0, .int (-1), .null, .int (-1), .null])), ((qs 4), .inr (4, [.int 4, .int 1, .ref f, .int 0, .int (-1), .null, .int (-1), .null]))]) (w1 := [(a4, wS tC 5 (va_up (va_up (va_up (va_up (va_up gf 0 (some f)) 1 none) 2 (some f)) 3 none) 4 (some f))), (f, .inr (3, [.ref e1, .ref e2, .int 5, .int 0])), (e1, wI tC 0 z1)]) hP hD [7, 8, 9] [0, 1, 2, 3, 4, 5, 6] rfl rfl (by decide) (by decide) hk1 hFc hP1 hD1
              generalize H1 = H at hP hS ⊢
              have hP : va_P D vwCl [(x, .inr (5, [.ref a1, .ref a2, .ref a3, .ref a4])), (a1, wT tC 5 fs), ((qs 1), .inr (4, [.int 1, .int 1, .ref f, .int 0, .int (-1), .null, .int (-1), .null])), ((qs 3), .inr (4, [.int 3, .int 1, .ref f, .int 0, .int (-1), .null, .int (-1), .null])), ((qs 0), .inr (4, [.int 0, .int 1, .ref f, .int 0, .int (-1), .null, .int (-1), .null])), ((qs 2), .inr (4, [.int 2, .int 1, .ref f, .int 0, .int (-1), .null, .int (-1), .null])), ((qs 4), .inr (4, [.int 4, .int 1, .ref f, .int 0, .int (-1), .null, .int (-1), .null])), (a4, wS tC 5 (va_up (va_up (va_up (va_up (va_up gf 0 (some f)) 1 none) 2 (some f)) 3 none) 4 (some f))), (f, .inr (3, [.ref e1, .ref e2, .int 5, .int 0])), (e1, wI tC 0 z1)] H := hP
              have hD : va_D A [(x, .inr (5, [.ref a1, .ref a2, .ref a3, .ref a4])), (a1, wT tC 5 fs), ((qs 1), .inr (4, [.int 1, .int 1, .ref f, .int 0, .int (-1), .null, .int (-1), .null])), ((qs 3), .inr (4, [.int 3, .int 1, .ref f, .int 0, .int (-1), .null, .int (-1), .null])), ((qs 0), .inr (4, [.int 0, .int 1, .ref f, .int 0, .int (-1), .null, .int (-1), .null])), ((qs 2), .inr (4, [.int 2, .int 1, .ref f, .int 0, .int (-1), .null, .int (-1), .null])), ((qs 4), .inr (4, [.int 4, .int 1, .ref f, .int 0, .int (-1), .null, .int (-1), .null])), (a4, wS tC 5 (va_up (va_up (va_up (va_up (va_up gf 0 (some f)) 1 none) 2 (some f)) 3 none) 4 (some f))), (f, .inr (3, [.ref e1, .ref e2, .int 5, .int 0])), (e1, wI tC 0 z1)] := hD
              have q1 : r_199 = 1 := hw_200.trans (by unfold mayg cntb; rw [hb0, hb1, hb2, hb3, hb4] <;> decide)
              subst q1
              refine lv_if_eq (tgt := 114) hx hb dX4_allowed_107 (by decide) (fun hc => absurd hc (by decide)) (fun _ => ?_)
              refine lv_iconst (v := 1) hx hb dX4_allowed_110 (by decide) ?_
              refine lv_goto (tgt := 115) hx hb dX4_allowed_111 (by decide) ?_
              have hP9 := hP.sub (ws' := []) [] rfl
              have hD9 := hD.sub (ws' := []) [] (by decide) rfl
              refine W.widen (k := 1) (n := 6) (by omega) (by omega) ?_
              exact vx_ret (W.zret (v := 1) hx hb hr (by decide) (fun t ht hW => ⟨⟨1, (), rfl, ⟨(by unfold mayg cntb; rw [hb0, hb1, hb2, hb3, hb4] <;> decide), bl1 hw_2 c_3⟩, (by rw [ht]; exact hP9), va_K.moved hW.alike hK, hD9⟩, hS.F ht⟩) hS.2.2 dX4_allowed_115 hlocks)
          · skip
            have hb3 : bqb p0 3 = true := bqT (fun h => c_187 (ez_186.trans h))
            refine lv_iconst (v := 1) hx hb dX4_allowed_34 (by decide) ?_
            refine lv_goto (tgt := 39) hx hb dX4_allowed_35 (by decide) ?_
            refine lv_istore_n (lv' := [(3, .int 1), (2, .int 3), (0, .ref x), (1, .int p0)]) hx hb dX4_allowed_39 rfl hl (by decide) rfl (fun ls hl => ?_)
            refine lv_iload_n hx hb dX4_allowed_40 rfl (lv_at hl 0 rfl) ?_
            refine lv_if_eq (tgt := 58) hx hb dX4_allowed_41 (by decide) (fun hc => absurd hc (by decide)) (fun _ => ?_)
            refine lv_aload_n hx hb dX4_allowed_44 rfl (lv_at hl 2 rfl) ?_
            refine va_get (D := D) (ci := 5) (v := .ref a1) (C := RX4) (T := TX4) (N := 4) hx hb hts in_X4_allowed_X4 hown hK hP 0 rfl rfl 0 (by decide) w_1 (fun _ h9 => h9) rfl dX4_allowed_45 ?_
            refine lv_iload_n hx hb dX4_allowed_48 rfl (lv_at hl 1 rfl) ?_
            refine va_aldq hx hb hK hP 1 3 rfl rfl (by unfold vp_in; decide) dX4_allowed_49 ?_
            rw [show fs (3 : Int32).toNatClampNeg = some (qs 3) from (by rw [show (3 : Int32).toNatClampNeg = 3 by decide]; exact hfs 3 (by decide))]
            refine W.eq (g2 := F0 m 50 ls [.ref (qs 3)]) rfl ?_
            have hPc := hP.sub (ws' := [((qs 3), .inr (4, [.int 3, .int 1, .ref f, .int 0, .int (-1), .null, .int (-1), .null]))]) [6] rfl
            have hDc := hD.sub (ws' := [((qs 3), .inr (4, [.int 3, .int 1, .ref f, .int 0, .int (-1), .null, .int (-1), .null]))]) [6] (by decide) rfl
            have hFc := va_free (wc := [((qs 3), .inr (4, [.int 3, .int 1, .ref f, .int 0, .int (-1), .null, .int (-1), .null]))]) hD hS hA [6] rfl
            refine va_calli (va_runVN (As := []) (rest := []) ⟨hx, hb, hml, hown, hts⟩ (c_X3_isFree l hlt D tC dz H.size f (qs 3) 3 ) ⟨(va_cnB (host := "NoticeStations") 0 hts gX4_allowed_X3_isFree_n240 rfl rfl rfl (hN.1 (.methodLinkNest "NoticeStations" 240 ⟨"NoticeStations$Station", "isFree", "()Z"⟩ "NoticeStations") (by decide +kernel)) w_2 (by decide +kernel) ⟨Nat.le_of_ble_eq_true rfl, Nat.le_of_ble_eq_true rfl⟩), w_3, w_4⟩ ⟨pB_blind, va_recv hK hPc (ci := 4) (q0 := 0) rfl rfl, pB_at hPc hDc hK hN hE hS hFc⟩ rfl rfl hl.1 rfl (lv_room (Nat.le_of_ble_eq_true rfl)) dX4_allowed_50 ⟨Nat.le_of_ble_eq_true rfl, Nat.le_of_ble_eq_true rfl⟩) hS (fun q _ h => hFc q h) hFc (fun r_201 u t H1 locs ht hvm hw hB hz1 hk1 hS => ?_)
            obtain ⟨hP1, _, hD1⟩ := hB
            have hw_202 := hw
            rw [ht] at hP1
            obtain ⟨hP, hD⟩ := va_join (wr := [(x, .inr (5, [.ref a1, .ref a2, .ref a3, .ref a4])), (a1, wT tC 5 fs), (a4, wS tC 5 (va_up (va_up (va_up gf 0 (some f)) 1 none) 2 (some f))), (f, .inr (3, [.ref e1, .ref e2, .int 5, .int 0])), (e1, wI tC 0 z1), ((qs 1), .inr (4, [.int 1, .int 1, .ref f, .int 0, .int (-1), .null, .int (-1), .null])), ((qs 4), .inr (4, [.int 4, .int 1, .ref f, .int 0, .int (-1), .null, .int (-1), .null])), ((qs 0), .inr (4, [.int 0, .int 1, .ref f, .int 0, .int (-1), .null, .int (-1), .null])), ((qs 2), .inr (4, [.int 2, .int 1, .ref f, .int 0, .int (-1), .null, .int (-1), .null]))]) (w1 := [((qs 3), .inr (4, [.int 3, .int 1, .ref f, .int 0, .int (-1), .null, .int (-1), .null]))]) hP hD [6] [0, 1, 2, 3, 4, 5, 7, 8, 9] rfl rfl (by decide) (by decide) hk1 hFc hP1 hD1
            generalize H1 = H at hP hS ⊢
            have hP : va_P D vwCl [(x, .inr (5, [.ref a1, .ref a2, .ref a3, .ref a4])), (a1, wT tC 5 fs), (a4, wS tC 5 (va_up (va_up (va_up gf 0 (some f)) 1 none) 2 (some f))), (f, .inr (3, [.ref e1, .ref e2, .int 5, .int 0])), (e1, wI tC 0 z1), ((qs 1), .inr (4, [.int 1, .int 1, .ref f, .int 0, .int (-1), .null, .int (-1), .null])), ((qs 4), .inr (4, [.int 4, .int 1, .ref f, .int 0, .int (-1), .null, .int (-1), .null])), ((qs 0), .inr (4, [.int 0, .int 1, .ref f, .int 0, .int (-1), .null, .int (-1), .null])), ((qs 2), .inr (4, [.int 2, .int 1, .ref f, .int 0, .int (-1), .null, .int (-1), .null])), ((qs 3), .inr (4, [.int 3, .int 1, .ref f, .int 0, .int (-1), .null, .int (-1), .null]))] H := hP
            have hD : va_D A [(x, .inr (5, [.ref a1, .ref a2, .ref a3, .ref a4])), (a1, wT tC 5 fs), (a4, wS tC 5 (va_up (va_up (va_up gf 0 (some f)) 1 none) 2 (some f))), (f, .inr (3, [.ref e1, .ref e2, .int 5, .int 0])), (e1, wI tC 0 z1), ((qs 1), .inr (4, [.int 1, .int 1, .ref f, .int 0, .int (-1), .null, .int (-1), .null])), ((qs 4), .inr (4, [.int 4, .int 1, .ref f, .int 0, .int (-1), .null, .int (-1), .null])), ((qs 0), .inr (4, [.int 0, .int 1, .ref f, .int 0, .int (-1), .null, .int (-1), .null])), ((qs 2), .inr (4, [.int 2, .int 1, .ref f, .int 0, .int (-1), .null, .int (-1), .null])), ((qs 3), .inr (4, [.int 3, .int 1, .ref f, .int 0, .int (-1), .null, .int (-1), .null]))] := hD
            subst hw_202
            refine lv_if_ne (tgt := 58) hx hb dX4_allowed_53 (by decide) (fun _ => ?_) (fun hc => absurd hc (by decide))
            refine lv_aload_n hx hb dX4_allowed_58 rfl (lv_at hl 2 rfl) ?_
            refine va_get (D := D) (ci := 5) (v := .ref a4) (C := RX4) (T := TX4) (N := 4) hx hb hts in_X4_allowed_X4 hown hK hP 0 rfl rfl 3 (by decide) w_0 (fun _ h9 => h9) rfl dX4_allowed_59 ?_
            refine lv_iload_n hx hb dX4_allowed_62 rfl (lv_at hl 1 rfl) ?_
            refine lv_iload_n hx hb dX4_allowed_63 rfl (lv_at hl 0 rfl) ?_
            refine lv_if_eq (tgt := 79) hx hb dX4_allowed_64 (by decide) (fun hc => absurd hc (by decide)) (fun _ => ?_)
            refine lv_aload_n hx hb dX4_allowed_67 rfl (lv_at hl 2 rfl) ?_
            refine va_get (D := D) (ci := 5) (v := .ref a1) (C := RX4) (T := TX4) (N := 4) hx hb hts in_X4_allowed_X4 hown hK hP 0 rfl rfl 0 (by decide) w_1 (fun _ h9 => h9) rfl dX4_allowed_68 ?_
            refine lv_iload_n hx hb dX4_allowed_71 rfl (lv_at hl 1 rfl) ?_
            refine va_aldq hx hb hK hP 1 3 rfl rfl (by unfold vp_in; decide) dX4_allowed_72 ?_
            rw [show fs (3 : Int32).toNatClampNeg = some (qs 3) from (by rw [show (3 : Int32).toNatClampNeg = 3 by decide]; exact hfs 3 (by decide))]
            refine W.eq (g2 := F0 m 73 ls [.ref (qs 3), .int 3, .ref a4]) rfl ?_
            refine va_getN (host := "NoticeStations") (D := D) (ci := 4) (v := .ref f) (C := RX3) (T := TX3) (N := 8) hx hb hts in_X4_allowed_X3 hown hK hP 9 rfl rfl 2 (by decide) (va_Nw.use rfl (hN.1 (.fieldLinkNest "NoticeStations" 61 "NoticeStations$Station" "stored" "LNoticeStations$Standing;" "NoticeStations") (by decide +kernel))) (fun _ h9 => h9) rfl dX4_allowed_73 ?_
            refine lv_goto (tgt := 80) hx hb dX4_allowed_76 (by decide) ?_
            refine va_astq hx hb hK hP hD hS 2 2 3 3 rfl rfl rfl rfl (by unfold vp_in; decide) dX4_allowed_80 (fun H locs hP hD hS => ?_)
            have hP : va_P D vwCl [(x, .inr (5, [.ref a1, .ref a2, .ref a3, .ref a4])), (a1, wT tC 5 fs), (a4, wS tC 5 (va_up (va_up (va_up (va_up gf 0 (some f)) 1 none) 2 (some f)) 3 (some f))), (f, .inr (3, [.ref e1, .ref e2, .int 5, .int 0])), (e1, wI tC 0 z1), ((qs 1), .inr (4, [.int 1, .int 1, .ref f, .int 0, .int (-1), .null, .int (-1), .null])), ((qs 4), .inr (4, [.int 4, .int 1, .ref f, .int 0, .int (-1), .null, .int (-1), .null])), ((qs 0), .inr (4, [.int 0, .int 1, .ref f, .int 0, .int (-1), .null, .int (-1), .null])), ((qs 2), .inr (4, [.int 2, .int 1, .ref f, .int 0, .int (-1), .null, .int (-1), .null])), ((qs 3), .inr (4, [.int 3, .int 1, .ref f, .int 0, .int (-1), .null, .int (-1), .null]))] H := hP
            have hD : va_D A [(x, .inr (5, [.ref a1, .ref a2, .ref a3, .ref a4])), (a1, wT tC 5 fs), (a4, wS tC 5 (va_up (va_up (va_up (va_up gf 0 (some f)) 1 none) 2 (some f)) 3 (some f))), (f, .inr (3, [.ref e1, .ref e2, .int 5, .int 0])), (e1, wI tC 0 z1), ((qs 1), .inr (4, [.int 1, .int 1, .ref f, .int 0, .int (-1), .null, .int (-1), .null])), ((qs 4), .inr (4, [.int 4, .int 1, .ref f, .int 0, .int (-1), .null, .int (-1), .null])), ((qs 0), .inr (4, [.int 0, .int 1, .ref f, .int 0, .int (-1), .null, .int (-1), .null])), ((qs 2), .inr (4, [.int 2, .int 1, .ref f, .int 0, .int (-1), .null, .int (-1), .null])), ((qs 3), .inr (4, [.int 3, .int 1, .ref f, .int 0, .int (-1), .null, .int (-1), .null]))] := hD
            refine lv_iinc (v := 4) (lv' := [(2, .int 4), (3, .int 1), (0, .ref x), (1, .int p0)]) hx hb dX4_allowed_81 hl (k := 1) rfl (by decide) (by decide) rfl (fun ls hl => ?_)
            refine lv_goto (tgt := 21) hx hb dX4_allowed_84 (by decide) ?_
            refine lv_iload_n hx hb dX4_allowed_21 rfl (lv_at hl 0 rfl) ?_
            refine lv_iconst (v := 5) hx hb dX4_allowed_22 (by decide) ?_
            refine lv_icmp_ge (tgt := 87) hx hb dX4_allowed_23 (by decide) (fun hc => absurd hc (by decide)) (fun _ => ?_)
            refine lv_iload_n hx hb dX4_allowed_26 rfl (lv_at hl 3 rfl) ?_
            refine lv_iconst (v := 1) hx hb dX4_allowed_27 (by decide) ?_
            refine lv_iload_n hx hb dX4_allowed_28 rfl (lv_at hl 0 rfl) ?_
            refine lv_ishl hx hb dX4_allowed_29 ?_
            refine lv_topi (fun z_203 ez_203 => ?_)
            have fz_203 : z_203 = 16 := ez_203.trans (by decide)
            subst fz_203
            refine lv_iand hx hb dX4_allowed_30 ?_
            refine lv_topi (fun z_204 ez_204 => ?_)
            refine lv_if_eq (tgt := 38) hx hb dX4_allowed_31 (by decide) (fun c_205 => ?_) (fun c_205 => ?_)
            · skip
              have hb4 : bqb p0 4 = false := bqF (ez_204.symm.trans c_205)
              refine lv_iconst (v := 0) hx hb dX4_allowed_38 (by decide) ?_
              refine lv_istore_n (lv' := [(3, .int 0), (2, .int 4), (0, .ref x), (1, .int p0)]) hx hb dX4_allowed_39 rfl hl (by decide) rfl (fun ls hl => ?_)
              refine lv_iload_n hx hb dX4_allowed_40 rfl (lv_at hl 0 rfl) ?_
              refine lv_if_eq (tgt := 58) hx hb dX4_allowed_41 (by decide) (fun _ => ?_) (fun hc => absurd (by decide) hc)
              refine lv_aload_n hx hb dX4_allowed_58 rfl (lv_at hl 2 rfl) ?_
              refine va_get (D := D) (ci := 5) (v := .ref a4) (C := RX4) (T := TX4) (N := 4) hx hb hts in_X4_allowed_X4 hown hK hP 0 rfl rfl 3 (by decide) w_0 (fun _ h9 => h9) rfl dX4_allowed_59 ?_
              refine lv_iload_n hx hb dX4_allowed_62 rfl (lv_at hl 1 rfl) ?_
              refine lv_iload_n hx hb dX4_allowed_63 rfl (lv_at hl 0 rfl) ?_
              refine lv_if_eq (tgt := 79) hx hb dX4_allowed_64 (by decide) (fun _ => ?_) (fun hc => absurd (by decide) hc)
              refine lv_null hx hb dX4_allowed_79 ?_
              refine va_astqN hx hb hK hP hD hS 2 2 rfl rfl (by unfold vp_in; decide) dX4_allowed_80 (fun H locs hP hD hS => ?_)
              have hP : va_P D vwCl [(x, .inr (5, [.ref a1, .ref a2, .ref a3, .ref a4])), (a1, wT tC 5 fs), (a4, wS tC 5 (va_up (va_up (va_up (va_up (va_up gf 0 (some f)) 1 none) 2 (some f)) 3 (some f)) 4 none)), (f, .inr (3, [.ref e1, .ref e2, .int 5, .int 0])), (e1, wI tC 0 z1), ((qs 1), .inr (4, [.int 1, .int 1, .ref f, .int 0, .int (-1), .null, .int (-1), .null])), ((qs 4), .inr (4, [.int 4, .int 1, .ref f, .int 0, .int (-1), .null, .int (-1), .null])), ((qs 0), .inr (4, [.int 0, .int 1, .ref f, .int 0, .int (-1), .null, .int (-1), .null])), ((qs 2), .inr (4, [.int 2, .int 1, .ref f, .int 0, .int (-1), .null, .int (-1), .null])), ((qs 3), .inr (4, [.int 3, .int 1, .ref f, .int 0, .int (-1), .null, .int (-1), .null]))] H := hP
              have hD : va_D A [(x, .inr (5, [.ref a1, .ref a2, .ref a3, .ref a4])), (a1, wT tC 5 fs), (a4, wS tC 5 (va_up (va_up (va_up (va_up (va_up gf 0 (some f)) 1 none) 2 (some f)) 3 (some f)) 4 none)), (f, .inr (3, [.ref e1, .ref e2, .int 5, .int 0])), (e1, wI tC 0 z1), ((qs 1), .inr (4, [.int 1, .int 1, .ref f, .int 0, .int (-1), .null, .int (-1), .null])), ((qs 4), .inr (4, [.int 4, .int 1, .ref f, .int 0, .int (-1), .null, .int (-1), .null])), ((qs 0), .inr (4, [.int 0, .int 1, .ref f, .int 0, .int (-1), .null, .int (-1), .null])), ((qs 2), .inr (4, [.int 2, .int 1, .ref f, .int 0, .int (-1), .null, .int (-1), .null])), ((qs 3), .inr (4, [.int 3, .int 1, .ref f, .int 0, .int (-1), .null, .int (-1), .null]))] := hD
              refine lv_iinc (v := 5) (lv' := [(2, .int 5), (3, .int 0), (0, .ref x), (1, .int p0)]) hx hb dX4_allowed_81 hl (k := 1) rfl (by decide) (by decide) rfl (fun ls hl => ?_)
              refine lv_goto (tgt := 21) hx hb dX4_allowed_84 (by decide) ?_
              refine lv_iload_n hx hb dX4_allowed_21 rfl (lv_at hl 0 rfl) ?_
              refine lv_iconst (v := 5) hx hb dX4_allowed_22 (by decide) ?_
              refine lv_icmp_ge (tgt := 87) hx hb dX4_allowed_23 (by decide) (fun _ => ?_) (fun hc => absurd (by decide) hc)
              refine lv_aload_n hx hb dX4_allowed_87 rfl (lv_at hl 2 rfl) ?_
              refine va_get (D := D) (ci := 5) (v := .ref a4) (C := RX4) (T := TX4) (N := 4) hx hb hts in_X4_allowed_X4 hown hK hP 0 rfl rfl 3 (by decide) w_0 (fun _ h9 => h9) rfl dX4_allowed_88 ?_
              have hPc := hP.sub (ws' := [(a4, wS tC 5 (va_up (va_up (va_up (va_up (va_up gf 0 (some f)) 1 none) 2 (some f)) 3 (some f)) 4 none)), (f, .inr (3, [.ref e1, .ref e2, .int 5, .int 0])), (e1, wI tC 0 z1)]) [2, 3, 4] rfl
              have hDc := hD.sub (ws' := [(a4, wS tC 5 (va_up (va_up (va_up (va_up (va_up gf 0 (some f)) 1 none) 2 (some f)) 3 (some f)) 4 none)), (f, .inr (3, [.ref e1, .ref e2, .int 5, .int 0])), (e1, wI tC 0 z1)]) [2, 3, 4] (by decide) rfl
              have hFc := va_free (wc := [(a4, wS tC 5 (va_up (va_up (va_up (va_up (va_up gf 0 (some f)) 1 none) 2 (some f)) 3 (some f)) 4 none)), (f, .inr (3, [.ref e1, .ref e2, .int 5, .int 0])), (e1, wI tC 0 z1)]) hD hS hA [2, 3, 4] rfl
              refine va_callq (va_runS (As := [.ref a4]) (rest := []) ⟨hx, hb, hml, hown, hts⟩ (c_X4_heldByHolders l hlt D tC dz H.size a4 (va_up (va_up (va_up (va_up (va_up gf 0 (some f)) 1 none) 2 (some f)) 3 (some f)) 4 none) (bqb p0) f e1 e2 z1 (by intro j hj; rcases (show j = 0 ∨ j = 1 ∨ j = 2 ∨ j = 3 ∨ j = 4 by omega) with rfl | rfl | rfl | rfl | rfl <;> simp [va_up, hb0, hb1, hb2, hb3, hb4])) (va_cwS 1 hts gX4_allowed_X4_heldByHolders rfl rfl rfl (by decide +kernel) ⟨Nat.le_of_ble_eq_true rfl, Nat.le_of_ble_eq_true rfl⟩) ⟨pB_blind, pB_at hPc hDc hK hN hE hS hFc⟩ rfl rfl hl.1 rfl (lv_room (Nat.le_of_ble_eq_true rfl)) dX4_allowed_91 ⟨Nat.le_of_ble_eq_true rfl, Nat.le_of_ble_eq_true rfl⟩) hS (fun q _ h => hFc q h) hFc (fun r_206 u t H1 locs ht hvm hw hB hz1 hk1 hS => ?_)
              obtain ⟨hP1, _, hD1⟩ := hB
              have hw_207 := hw
              rw [ht] at hP1
              obtain ⟨hP, hD⟩ := va_join (wr := [(x, .inr (5, [.ref a1, .ref a2, .ref a3, .ref a4])), (a1, wT tC 5 fs), ((qs 1), .inr (4, [.int 1, .int 1, .ref f, .int 0, .int (-1), .null, .int (-1), .null])), ((qs 4), .inr (4, [.int 4, .int 1, .ref f, .int 0, .int (-1), .null, .int (-1), .null])), ((qs 0), .inr (4, [.int 0, .int 1, .ref f, .int 0, .int (-1), .null, .int (-1), .null])), ((qs 2), .inr (4, [.int 2, .int 1, .ref f, .int 0, .int (-1), .null, .int (-1), .null])), ((qs 3), .inr (4, [.int 3, .int 1, .ref f, .int 0, .int (-1), .null, .int (-1), .null]))]) (w1 := [(a4, wS tC 5 (va_up (va_up (va_up (va_up (va_up gf 0 (some f)) 1 none) 2 (some f)) 3 (some f)) 4 none)), (f, .inr (3, [.ref e1, .ref e2, .int 5, .int 0])), (e1, wI tC 0 z1)]) hP hD [2, 3, 4] [0, 1, 5, 6, 7, 8, 9] rfl rfl (by decide) (by decide) hk1 hFc hP1 hD1
              generalize H1 = H at hP hS ⊢
              have hP : va_P D vwCl [(x, .inr (5, [.ref a1, .ref a2, .ref a3, .ref a4])), (a1, wT tC 5 fs), ((qs 1), .inr (4, [.int 1, .int 1, .ref f, .int 0, .int (-1), .null, .int (-1), .null])), ((qs 4), .inr (4, [.int 4, .int 1, .ref f, .int 0, .int (-1), .null, .int (-1), .null])), ((qs 0), .inr (4, [.int 0, .int 1, .ref f, .int 0, .int (-1), .null, .int (-1), .null])), ((qs 2), .inr (4, [.int 2, .int 1, .ref f, .int 0, .int (-1), .null, .int (-1), .null])), ((qs 3), .inr (4, [.int 3, .int 1, .ref f, .int 0, .int (-1), .null, .int (-1), .null])), (a4, wS tC 5 (va_up (va_up (va_up (va_up (va_up gf 0 (some f)) 1 none) 2 (some f)) 3 (some f)) 4 none)), (f, .inr (3, [.ref e1, .ref e2, .int 5, .int 0])), (e1, wI tC 0 z1)] H := hP
              have hD : va_D A [(x, .inr (5, [.ref a1, .ref a2, .ref a3, .ref a4])), (a1, wT tC 5 fs), ((qs 1), .inr (4, [.int 1, .int 1, .ref f, .int 0, .int (-1), .null, .int (-1), .null])), ((qs 4), .inr (4, [.int 4, .int 1, .ref f, .int 0, .int (-1), .null, .int (-1), .null])), ((qs 0), .inr (4, [.int 0, .int 1, .ref f, .int 0, .int (-1), .null, .int (-1), .null])), ((qs 2), .inr (4, [.int 2, .int 1, .ref f, .int 0, .int (-1), .null, .int (-1), .null])), ((qs 3), .inr (4, [.int 3, .int 1, .ref f, .int 0, .int (-1), .null, .int (-1), .null])), (a4, wS tC 5 (va_up (va_up (va_up (va_up (va_up gf 0 (some f)) 1 none) 2 (some f)) 3 (some f)) 4 none)), (f, .inr (3, [.ref e1, .ref e2, .int 5, .int 0])), (e1, wI tC 0 z1)] := hD
              have q1 : r_206 = some f := hw_207.trans (by rw [hb0, hb1, hb2, hb3, hb4] <;> rfl)
              subst q1
              refine W.eq (g2 := F0 m 94 ls [.ref f]) rfl ?_
              refine lv_astore_n (lv' := [(2, .ref f), (3, .int 0), (0, .ref x), (1, .int p0)]) hx hb dX4_allowed_94 rfl hl (by decide) rfl (fun ls hl => ?_)
              refine lv_aload_n hx hb dX4_allowed_95 rfl (lv_at hl 0 rfl) ?_
              refine lv_ifnull hx hb dX4_allowed_96 ?_
              refine lv_aload_n hx hb dX4_allowed_99 rfl (lv_at hl 2 rfl) ?_
              refine va_get (D := D) (ci := 5) (v := .ref a4) (C := RX4) (T := TX4) (N := 4) hx hb hts in_X4_allowed_X4 hown hK hP 0 rfl rfl 3 (by decide) w_0 (fun _ h9 => h9) rfl dX4_allowed_100 ?_
              refine lv_aload_n hx hb dX4_allowed_103 rfl (lv_at hl 0 rfl) ?_
              have hPc := hP.sub (ws' := [(a4, wS tC 5 (va_up (va_up (va_up (va_up (va_up gf 0 (some f)) 1 none) 2 (some f)) 3 (some f)) 4 none)), (f, .inr (3, [.ref e1, .ref e2, .int 5, .int 0])), (e1, wI tC 0 z1)]) [7, 8, 9] rfl
              have hDc := hD.sub (ws' := [(a4, wS tC 5 (va_up (va_up (va_up (va_up (va_up gf 0 (some f)) 1 none) 2 (some f)) 3 (some f)) 4 none)), (f, .inr (3, [.ref e1, .ref e2, .int 5, .int 0])), (e1, wI tC 0 z1)]) [7, 8, 9] (by decide) rfl
              have hFc := va_free (wc := [(a4, wS tC 5 (va_up (va_up (va_up (va_up (va_up gf 0 (some f)) 1 none) 2 (some f)) 3 (some f)) 4 none)), (f, .inr (3, [.ref e1, .ref e2, .int 5, .int 0])), (e1, wI tC 0 z1)]) hD hS hA [7, 8, 9] rfl
              refine va_calli (va_runS (As := [.ref a4, .ref f]) (rest := []) ⟨hx, hb, hml, hown, hts⟩ (c_X4_mayGoOn l hlt D tC dz H.size a4 (va_up (va_up (va_up (va_up (va_up gf 0 (some f)) 1 none) 2 (some f)) 3 (some f)) 4 none) (bqb p0) f e1 e2 z1 (by intro j hj; rcases (show j = 0 ∨ j = 1 ∨ j = 2 ∨ j = 3 ∨ j = 4 by omega) with rfl | rfl | rfl | rfl | rfl <;> simp [va_up, hb0, hb1, hb2, hb3, hb4])) (va_cwS 2 hts gX4_allowed_X4_mayGoOn rfl rfl rfl (by decide +kernel) ⟨Nat.le_of_ble_eq_true rfl, Nat.le_of_ble_eq_true rfl⟩) ⟨pB_blind, pB_at hPc hDc hK hN hE hS hFc⟩ rfl rfl hl.1 rfl (lv_room (Nat.le_of_ble_eq_true rfl)) dX4_allowed_104 ⟨Nat.le_of_ble_eq_true rfl, Nat.le_of_ble_eq_true rfl⟩) hS (fun q _ h => hFc q h) hFc (fun r_208 u t H1 locs ht hvm hw hB hz1 hk1 hS => ?_)
              obtain ⟨hP1, _, hD1⟩ := hB
              have hw_209 := hw
              rw [ht] at hP1
              obtain ⟨hP, hD⟩ := va_join (wr := [(x, .inr (5, [.ref a1, .ref a2, .ref a3, .ref a4])), (a1, wT tC 5 fs), ((qs 1), .inr (4, [.int 1, .int 1, .ref f, .int 0, .int (-1), .null, .int (-1), .null])), ((qs 4), .inr (4, [.int 4, .int 1, .ref f, .int 0, .int (-1), .null, .int (-1), .null])), ((qs 0), .inr (4, [.int 0, .int 1, .ref f, .int 0, .int (-1), .null, .int (-1), .null])), ((qs 2), .inr (4, [.int 2, .int 1, .ref f, .int 0, .int (-1), .null, .int (-1), .null])), ((qs 3), .inr (4, [.int 3, .int 1, .ref f, .int 0, .int (-1), .null, .int (-1), .null]))]) (w1 := [(a4, wS tC 5 (va_up (va_up (va_up (va_up (va_up gf 0 (some f)) 1 none) 2 (some f)) 3 (some f)) 4 none)), (f, .inr (3, [.ref e1, .ref e2, .int 5, .int 0])), (e1, wI tC 0 z1)]) hP hD [7, 8, 9] [0, 1, 2, 3, 4, 5, 6] rfl rfl (by decide) (by decide) hk1 hFc hP1 hD1
              generalize H1 = H at hP hS ⊢
              have hP : va_P D vwCl [(x, .inr (5, [.ref a1, .ref a2, .ref a3, .ref a4])), (a1, wT tC 5 fs), ((qs 1), .inr (4, [.int 1, .int 1, .ref f, .int 0, .int (-1), .null, .int (-1), .null])), ((qs 4), .inr (4, [.int 4, .int 1, .ref f, .int 0, .int (-1), .null, .int (-1), .null])), ((qs 0), .inr (4, [.int 0, .int 1, .ref f, .int 0, .int (-1), .null, .int (-1), .null])), ((qs 2), .inr (4, [.int 2, .int 1, .ref f, .int 0, .int (-1), .null, .int (-1), .null])), ((qs 3), .inr (4, [.int 3, .int 1, .ref f, .int 0, .int (-1), .null, .int (-1), .null])), (a4, wS tC 5 (va_up (va_up (va_up (va_up (va_up gf 0 (some f)) 1 none) 2 (some f)) 3 (some f)) 4 none)), (f, .inr (3, [.ref e1, .ref e2, .int 5, .int 0])), (e1, wI tC 0 z1)] H := hP
              have hD : va_D A [(x, .inr (5, [.ref a1, .ref a2, .ref a3, .ref a4])), (a1, wT tC 5 fs), ((qs 1), .inr (4, [.int 1, .int 1, .ref f, .int 0, .int (-1), .null, .int (-1), .null])), ((qs 4), .inr (4, [.int 4, .int 1, .ref f, .int 0, .int (-1), .null, .int (-1), .null])), ((qs 0), .inr (4, [.int 0, .int 1, .ref f, .int 0, .int (-1), .null, .int (-1), .null])), ((qs 2), .inr (4, [.int 2, .int 1, .ref f, .int 0, .int (-1), .null, .int (-1), .null])), ((qs 3), .inr (4, [.int 3, .int 1, .ref f, .int 0, .int (-1), .null, .int (-1), .null])), (a4, wS tC 5 (va_up (va_up (va_up (va_up (va_up gf 0 (some f)) 1 none) 2 (some f)) 3 (some f)) 4 none)), (f, .inr (3, [.ref e1, .ref e2, .int 5, .int 0])), (e1, wI tC 0 z1)] := hD
              have q1 : r_208 = 1 := hw_209.trans (by unfold mayg cntb; rw [hb0, hb1, hb2, hb3, hb4] <;> decide)
              subst q1
              refine lv_if_eq (tgt := 114) hx hb dX4_allowed_107 (by decide) (fun hc => absurd hc (by decide)) (fun _ => ?_)
              refine lv_iconst (v := 1) hx hb dX4_allowed_110 (by decide) ?_
              refine lv_goto (tgt := 115) hx hb dX4_allowed_111 (by decide) ?_
              have hP9 := hP.sub (ws' := []) [] rfl
              have hD9 := hD.sub (ws' := []) [] (by decide) rfl
              refine W.widen (k := 1) (n := 6) (by omega) (by omega) ?_
              exact vx_ret (W.zret (v := 1) hx hb hr (by decide) (fun t ht hW => ⟨⟨1, (), rfl, ⟨(by unfold mayg cntb; rw [hb0, hb1, hb2, hb3, hb4] <;> decide), bl1 hw_2 c_3⟩, (by rw [ht]; exact hP9), va_K.moved hW.alike hK, hD9⟩, hS.F ht⟩) hS.2.2 dX4_allowed_115 hlocks)
            · skip
              have hb4 : bqb p0 4 = true := bqT (fun h => c_205 (ez_204.trans h))
              refine lv_iconst (v := 1) hx hb dX4_allowed_34 (by decide) ?_
              refine lv_goto (tgt := 39) hx hb dX4_allowed_35 (by decide) ?_
              refine lv_istore_n (lv' := [(3, .int 1), (2, .int 4), (0, .ref x), (1, .int p0)]) hx hb dX4_allowed_39 rfl hl (by decide) rfl (fun ls hl => ?_)
              refine lv_iload_n hx hb dX4_allowed_40 rfl (lv_at hl 0 rfl) ?_
              refine lv_if_eq (tgt := 58) hx hb dX4_allowed_41 (by decide) (fun hc => absurd hc (by decide)) (fun _ => ?_)
              refine lv_aload_n hx hb dX4_allowed_44 rfl (lv_at hl 2 rfl) ?_
              refine va_get (D := D) (ci := 5) (v := .ref a1) (C := RX4) (T := TX4) (N := 4) hx hb hts in_X4_allowed_X4 hown hK hP 0 rfl rfl 0 (by decide) w_1 (fun _ h9 => h9) rfl dX4_allowed_45 ?_
              refine lv_iload_n hx hb dX4_allowed_48 rfl (lv_at hl 1 rfl) ?_
              refine va_aldq hx hb hK hP 1 3 rfl rfl (by unfold vp_in; decide) dX4_allowed_49 ?_
              rw [show fs (4 : Int32).toNatClampNeg = some (qs 4) from (by rw [show (4 : Int32).toNatClampNeg = 4 by decide]; exact hfs 4 (by decide))]
              refine W.eq (g2 := F0 m 50 ls [.ref (qs 4)]) rfl ?_
              have hPc := hP.sub (ws' := [((qs 4), .inr (4, [.int 4, .int 1, .ref f, .int 0, .int (-1), .null, .int (-1), .null]))]) [6] rfl
              have hDc := hD.sub (ws' := [((qs 4), .inr (4, [.int 4, .int 1, .ref f, .int 0, .int (-1), .null, .int (-1), .null]))]) [6] (by decide) rfl
              have hFc := va_free (wc := [((qs 4), .inr (4, [.int 4, .int 1, .ref f, .int 0, .int (-1), .null, .int (-1), .null]))]) hD hS hA [6] rfl
              refine va_calli (va_runVN (As := []) (rest := []) ⟨hx, hb, hml, hown, hts⟩ (c_X3_isFree l hlt D tC dz H.size f (qs 4) 4 ) ⟨(va_cnB (host := "NoticeStations") 0 hts gX4_allowed_X3_isFree_n240 rfl rfl rfl (hN.1 (.methodLinkNest "NoticeStations" 240 ⟨"NoticeStations$Station", "isFree", "()Z"⟩ "NoticeStations") (by decide +kernel)) w_2 (by decide +kernel) ⟨Nat.le_of_ble_eq_true rfl, Nat.le_of_ble_eq_true rfl⟩), w_3, w_4⟩ ⟨pB_blind, va_recv hK hPc (ci := 4) (q0 := 0) rfl rfl, pB_at hPc hDc hK hN hE hS hFc⟩ rfl rfl hl.1 rfl (lv_room (Nat.le_of_ble_eq_true rfl)) dX4_allowed_50 ⟨Nat.le_of_ble_eq_true rfl, Nat.le_of_ble_eq_true rfl⟩) hS (fun q _ h => hFc q h) hFc (fun r_210 u t H1 locs ht hvm hw hB hz1 hk1 hS => ?_)
              obtain ⟨hP1, _, hD1⟩ := hB
              have hw_211 := hw
              rw [ht] at hP1
              obtain ⟨hP, hD⟩ := va_join (wr := [(x, .inr (5, [.ref a1, .ref a2, .ref a3, .ref a4])), (a1, wT tC 5 fs), (a4, wS tC 5 (va_up (va_up (va_up (va_up gf 0 (some f)) 1 none) 2 (some f)) 3 (some f))), (f, .inr (3, [.ref e1, .ref e2, .int 5, .int 0])), (e1, wI tC 0 z1), ((qs 1), .inr (4, [.int 1, .int 1, .ref f, .int 0, .int (-1), .null, .int (-1), .null])), ((qs 0), .inr (4, [.int 0, .int 1, .ref f, .int 0, .int (-1), .null, .int (-1), .null])), ((qs 2), .inr (4, [.int 2, .int 1, .ref f, .int 0, .int (-1), .null, .int (-1), .null])), ((qs 3), .inr (4, [.int 3, .int 1, .ref f, .int 0, .int (-1), .null, .int (-1), .null]))]) (w1 := [((qs 4), .inr (4, [.int 4, .int 1, .ref f, .int 0, .int (-1), .null, .int (-1), .null]))]) hP hD [6] [0, 1, 2, 3, 4, 5, 7, 8, 9] rfl rfl (by decide) (by decide) hk1 hFc hP1 hD1
              generalize H1 = H at hP hS ⊢
              have hP : va_P D vwCl [(x, .inr (5, [.ref a1, .ref a2, .ref a3, .ref a4])), (a1, wT tC 5 fs), (a4, wS tC 5 (va_up (va_up (va_up (va_up gf 0 (some f)) 1 none) 2 (some f)) 3 (some f))), (f, .inr (3, [.ref e1, .ref e2, .int 5, .int 0])), (e1, wI tC 0 z1), ((qs 1), .inr (4, [.int 1, .int 1, .ref f, .int 0, .int (-1), .null, .int (-1), .null])), ((qs 0), .inr (4, [.int 0, .int 1, .ref f, .int 0, .int (-1), .null, .int (-1), .null])), ((qs 2), .inr (4, [.int 2, .int 1, .ref f, .int 0, .int (-1), .null, .int (-1), .null])), ((qs 3), .inr (4, [.int 3, .int 1, .ref f, .int 0, .int (-1), .null, .int (-1), .null])), ((qs 4), .inr (4, [.int 4, .int 1, .ref f, .int 0, .int (-1), .null, .int (-1), .null]))] H := hP
              have hD : va_D A [(x, .inr (5, [.ref a1, .ref a2, .ref a3, .ref a4])), (a1, wT tC 5 fs), (a4, wS tC 5 (va_up (va_up (va_up (va_up gf 0 (some f)) 1 none) 2 (some f)) 3 (some f))), (f, .inr (3, [.ref e1, .ref e2, .int 5, .int 0])), (e1, wI tC 0 z1), ((qs 1), .inr (4, [.int 1, .int 1, .ref f, .int 0, .int (-1), .null, .int (-1), .null])), ((qs 0), .inr (4, [.int 0, .int 1, .ref f, .int 0, .int (-1), .null, .int (-1), .null])), ((qs 2), .inr (4, [.int 2, .int 1, .ref f, .int 0, .int (-1), .null, .int (-1), .null])), ((qs 3), .inr (4, [.int 3, .int 1, .ref f, .int 0, .int (-1), .null, .int (-1), .null])), ((qs 4), .inr (4, [.int 4, .int 1, .ref f, .int 0, .int (-1), .null, .int (-1), .null]))] := hD
              subst hw_211
              refine lv_if_ne (tgt := 58) hx hb dX4_allowed_53 (by decide) (fun _ => ?_) (fun hc => absurd hc (by decide))
              refine lv_aload_n hx hb dX4_allowed_58 rfl (lv_at hl 2 rfl) ?_
              refine va_get (D := D) (ci := 5) (v := .ref a4) (C := RX4) (T := TX4) (N := 4) hx hb hts in_X4_allowed_X4 hown hK hP 0 rfl rfl 3 (by decide) w_0 (fun _ h9 => h9) rfl dX4_allowed_59 ?_
              refine lv_iload_n hx hb dX4_allowed_62 rfl (lv_at hl 1 rfl) ?_
              refine lv_iload_n hx hb dX4_allowed_63 rfl (lv_at hl 0 rfl) ?_
              refine lv_if_eq (tgt := 79) hx hb dX4_allowed_64 (by decide) (fun hc => absurd hc (by decide)) (fun _ => ?_)
              refine lv_aload_n hx hb dX4_allowed_67 rfl (lv_at hl 2 rfl) ?_
              refine va_get (D := D) (ci := 5) (v := .ref a1) (C := RX4) (T := TX4) (N := 4) hx hb hts in_X4_allowed_X4 hown hK hP 0 rfl rfl 0 (by decide) w_1 (fun _ h9 => h9) rfl dX4_allowed_68 ?_
              refine lv_iload_n hx hb dX4_allowed_71 rfl (lv_at hl 1 rfl) ?_
              refine va_aldq hx hb hK hP 1 3 rfl rfl (by unfold vp_in; decide) dX4_allowed_72 ?_
              rw [show fs (4 : Int32).toNatClampNeg = some (qs 4) from (by rw [show (4 : Int32).toNatClampNeg = 4 by decide]; exact hfs 4 (by decide))]
              refine W.eq (g2 := F0 m 73 ls [.ref (qs 4), .int 4, .ref a4]) rfl ?_
              refine va_getN (host := "NoticeStations") (D := D) (ci := 4) (v := .ref f) (C := RX3) (T := TX3) (N := 8) hx hb hts in_X4_allowed_X3 hown hK hP 9 rfl rfl 2 (by decide) (va_Nw.use rfl (hN.1 (.fieldLinkNest "NoticeStations" 61 "NoticeStations$Station" "stored" "LNoticeStations$Standing;" "NoticeStations") (by decide +kernel))) (fun _ h9 => h9) rfl dX4_allowed_73 ?_
              refine lv_goto (tgt := 80) hx hb dX4_allowed_76 (by decide) ?_
              refine va_astq hx hb hK hP hD hS 2 2 3 3 rfl rfl rfl rfl (by unfold vp_in; decide) dX4_allowed_80 (fun H locs hP hD hS => ?_)
              have hP : va_P D vwCl [(x, .inr (5, [.ref a1, .ref a2, .ref a3, .ref a4])), (a1, wT tC 5 fs), (a4, wS tC 5 (va_up (va_up (va_up (va_up (va_up gf 0 (some f)) 1 none) 2 (some f)) 3 (some f)) 4 (some f))), (f, .inr (3, [.ref e1, .ref e2, .int 5, .int 0])), (e1, wI tC 0 z1), ((qs 1), .inr (4, [.int 1, .int 1, .ref f, .int 0, .int (-1), .null, .int (-1), .null])), ((qs 0), .inr (4, [.int 0, .int 1, .ref f, .int 0, .int (-1), .null, .int (-1), .null])), ((qs 2), .inr (4, [.int 2, .int 1, .ref f, .int 0, .int (-1), .null, .int (-1), .null])), ((qs 3), .inr (4, [.int 3, .int 1, .ref f, .int 0, .int (-1), .null, .int (-1), .null])), ((qs 4), .inr (4, [.int 4, .int 1, .ref f, .int 0, .int (-1), .null, .int (-1), .null]))] H := hP
              have hD : va_D A [(x, .inr (5, [.ref a1, .ref a2, .ref a3, .ref a4])), (a1, wT tC 5 fs), (a4, wS tC 5 (va_up (va_up (va_up (va_up (va_up gf 0 (some f)) 1 none) 2 (some f)) 3 (some f)) 4 (some f))), (f, .inr (3, [.ref e1, .ref e2, .int 5, .int 0])), (e1, wI tC 0 z1), ((qs 1), .inr (4, [.int 1, .int 1, .ref f, .int 0, .int (-1), .null, .int (-1), .null])), ((qs 0), .inr (4, [.int 0, .int 1, .ref f, .int 0, .int (-1), .null, .int (-1), .null])), ((qs 2), .inr (4, [.int 2, .int 1, .ref f, .int 0, .int (-1), .null, .int (-1), .null])), ((qs 3), .inr (4, [.int 3, .int 1, .ref f, .int 0, .int (-1), .null, .int (-1), .null])), ((qs 4), .inr (4, [.int 4, .int 1, .ref f, .int 0, .int (-1), .null, .int (-1), .null]))] := hD
              refine lv_iinc (v := 5) (lv' := [(2, .int 5), (3, .int 1), (0, .ref x), (1, .int p0)]) hx hb dX4_allowed_81 hl (k := 1) rfl (by decide) (by decide) rfl (fun ls hl => ?_)
              refine lv_goto (tgt := 21) hx hb dX4_allowed_84 (by decide) ?_
              refine lv_iload_n hx hb dX4_allowed_21 rfl (lv_at hl 0 rfl) ?_
              refine lv_iconst (v := 5) hx hb dX4_allowed_22 (by decide) ?_
              refine lv_icmp_ge (tgt := 87) hx hb dX4_allowed_23 (by decide) (fun _ => ?_) (fun hc => absurd (by decide) hc)
              refine lv_aload_n hx hb dX4_allowed_87 rfl (lv_at hl 2 rfl) ?_
              refine va_get (D := D) (ci := 5) (v := .ref a4) (C := RX4) (T := TX4) (N := 4) hx hb hts in_X4_allowed_X4 hown hK hP 0 rfl rfl 3 (by decide) w_0 (fun _ h9 => h9) rfl dX4_allowed_88 ?_
              have hPc := hP.sub (ws' := [(a4, wS tC 5 (va_up (va_up (va_up (va_up (va_up gf 0 (some f)) 1 none) 2 (some f)) 3 (some f)) 4 (some f))), (f, .inr (3, [.ref e1, .ref e2, .int 5, .int 0])), (e1, wI tC 0 z1)]) [2, 3, 4] rfl
              have hDc := hD.sub (ws' := [(a4, wS tC 5 (va_up (va_up (va_up (va_up (va_up gf 0 (some f)) 1 none) 2 (some f)) 3 (some f)) 4 (some f))), (f, .inr (3, [.ref e1, .ref e2, .int 5, .int 0])), (e1, wI tC 0 z1)]) [2, 3, 4] (by decide) rfl
              have hFc := va_free (wc := [(a4, wS tC 5 (va_up (va_up (va_up (va_up (va_up gf 0 (some f)) 1 none) 2 (some f)) 3 (some f)) 4 (some f))), (f, .inr (3, [.ref e1, .ref e2, .int 5, .int 0])), (e1, wI tC 0 z1)]) hD hS hA [2, 3, 4] rfl
              refine va_callq (va_runS (As := [.ref a4]) (rest := []) ⟨hx, hb, hml, hown, hts⟩ (c_X4_heldByHolders l hlt D tC dz H.size a4 (va_up (va_up (va_up (va_up (va_up gf 0 (some f)) 1 none) 2 (some f)) 3 (some f)) 4 (some f)) (bqb p0) f e1 e2 z1 (by intro j hj; rcases (show j = 0 ∨ j = 1 ∨ j = 2 ∨ j = 3 ∨ j = 4 by omega) with rfl | rfl | rfl | rfl | rfl <;> simp [va_up, hb0, hb1, hb2, hb3, hb4])) (va_cwS 1 hts gX4_allowed_X4_heldByHolders rfl rfl rfl (by decide +kernel) ⟨Nat.le_of_ble_eq_true rfl, Nat.le_of_ble_eq_true rfl⟩) ⟨pB_blind, pB_at hPc hDc hK hN hE hS hFc⟩ rfl rfl hl.1 rfl (lv_room (Nat.le_of_ble_eq_true rfl)) dX4_allowed_91 ⟨Nat.le_of_ble_eq_true rfl, Nat.le_of_ble_eq_true rfl⟩) hS (fun q _ h => hFc q h) hFc (fun r_212 u t H1 locs ht hvm hw hB hz1 hk1 hS => ?_)
              obtain ⟨hP1, _, hD1⟩ := hB
              have hw_213 := hw
              rw [ht] at hP1
              obtain ⟨hP, hD⟩ := va_join (wr := [(x, .inr (5, [.ref a1, .ref a2, .ref a3, .ref a4])), (a1, wT tC 5 fs), ((qs 1), .inr (4, [.int 1, .int 1, .ref f, .int 0, .int (-1), .null, .int (-1), .null])), ((qs 0), .inr (4, [.int 0, .int 1, .ref f, .int 0, .int (-1), .null, .int (-1), .null])), ((qs 2), .inr (4, [.int 2, .int 1, .ref f, .int 0, .int (-1), .null, .int (-1), .null])), ((qs 3), .inr (4, [.int 3, .int 1, .ref f, .int 0, .int (-1), .null, .int (-1), .null])), ((qs 4), .inr (4, [.int 4, .int 1, .ref f, .int 0, .int (-1), .null, .int (-1), .null]))]) (w1 := [(a4, wS tC 5 (va_up (va_up (va_up (va_up (va_up gf 0 (some f)) 1 none) 2 (some f)) 3 (some f)) 4 (some f))), (f, .inr (3, [.ref e1, .ref e2, .int 5, .int 0])), (e1, wI tC 0 z1)]) hP hD [2, 3, 4] [0, 1, 5, 6, 7, 8, 9] rfl rfl (by decide) (by decide) hk1 hFc hP1 hD1
              generalize H1 = H at hP hS ⊢
              have hP : va_P D vwCl [(x, .inr (5, [.ref a1, .ref a2, .ref a3, .ref a4])), (a1, wT tC 5 fs), ((qs 1), .inr (4, [.int 1, .int 1, .ref f, .int 0, .int (-1), .null, .int (-1), .null])), ((qs 0), .inr (4, [.int 0, .int 1, .ref f, .int 0, .int (-1), .null, .int (-1), .null])), ((qs 2), .inr (4, [.int 2, .int 1, .ref f, .int 0, .int (-1), .null, .int (-1), .null])), ((qs 3), .inr (4, [.int 3, .int 1, .ref f, .int 0, .int (-1), .null, .int (-1), .null])), ((qs 4), .inr (4, [.int 4, .int 1, .ref f, .int 0, .int (-1), .null, .int (-1), .null])), (a4, wS tC 5 (va_up (va_up (va_up (va_up (va_up gf 0 (some f)) 1 none) 2 (some f)) 3 (some f)) 4 (some f))), (f, .inr (3, [.ref e1, .ref e2, .int 5, .int 0])), (e1, wI tC 0 z1)] H := hP
              have hD : va_D A [(x, .inr (5, [.ref a1, .ref a2, .ref a3, .ref a4])), (a1, wT tC 5 fs), ((qs 1), .inr (4, [.int 1, .int 1, .ref f, .int 0, .int (-1), .null, .int (-1), .null])), ((qs 0), .inr (4, [.int 0, .int 1, .ref f, .int 0, .int (-1), .null, .int (-1), .null])), ((qs 2), .inr (4, [.int 2, .int 1, .ref f, .int 0, .int (-1), .null, .int (-1), .null])), ((qs 3), .inr (4, [.int 3, .int 1, .ref f, .int 0, .int (-1), .null, .int (-1), .null])), ((qs 4), .inr (4, [.int 4, .int 1, .ref f, .int 0, .int (-1), .null, .int (-1), .null])), (a4, wS tC 5 (va_up (va_up (va_up (va_up (va_up gf 0 (some f)) 1 none) 2 (some f)) 3 (some f)) 4 (some f))), (f, .inr (3, [.ref e1, .ref e2, .int 5, .int 0])), (e1, wI tC 0 z1)] := hD
              have q1 : r_212 = some f := hw_213.trans (by rw [hb0, hb1, hb2, hb3, hb4] <;> rfl)
              subst q1
              refine W.eq (g2 := F0 m 94 ls [.ref f]) rfl ?_
              refine lv_astore_n (lv' := [(2, .ref f), (3, .int 1), (0, .ref x), (1, .int p0)]) hx hb dX4_allowed_94 rfl hl (by decide) rfl (fun ls hl => ?_)
              refine lv_aload_n hx hb dX4_allowed_95 rfl (lv_at hl 0 rfl) ?_
              refine lv_ifnull hx hb dX4_allowed_96 ?_
              refine lv_aload_n hx hb dX4_allowed_99 rfl (lv_at hl 2 rfl) ?_
              refine va_get (D := D) (ci := 5) (v := .ref a4) (C := RX4) (T := TX4) (N := 4) hx hb hts in_X4_allowed_X4 hown hK hP 0 rfl rfl 3 (by decide) w_0 (fun _ h9 => h9) rfl dX4_allowed_100 ?_
              refine lv_aload_n hx hb dX4_allowed_103 rfl (lv_at hl 0 rfl) ?_
              have hPc := hP.sub (ws' := [(a4, wS tC 5 (va_up (va_up (va_up (va_up (va_up gf 0 (some f)) 1 none) 2 (some f)) 3 (some f)) 4 (some f))), (f, .inr (3, [.ref e1, .ref e2, .int 5, .int 0])), (e1, wI tC 0 z1)]) [7, 8, 9] rfl
              have hDc := hD.sub (ws' := [(a4, wS tC 5 (va_up (va_up (va_up (va_up (va_up gf 0 (some f)) 1 none) 2 (some f)) 3 (some f)) 4 (some f))), (f, .inr (3, [.ref e1, .ref e2, .int 5, .int 0])), (e1, wI tC 0 z1)]) [7, 8, 9] (by decide) rfl
              have hFc := va_free (wc := [(a4, wS tC 5 (va_up (va_up (va_up (va_up (va_up gf 0 (some f)) 1 none) 2 (some f)) 3 (some f)) 4 (some f))), (f, .inr (3, [.ref e1, .ref e2, .int 5, .int 0])), (e1, wI tC 0 z1)]) hD hS hA [7, 8, 9] rfl
              refine va_calli (va_runS (As := [.ref a4, .ref f]) (rest := []) ⟨hx, hb, hml, hown, hts⟩ (c_X4_mayGoOn l hlt D tC dz H.size a4 (va_up (va_up (va_up (va_up (va_up gf 0 (some f)) 1 none) 2 (some f)) 3 (some f)) 4 (some f)) (bqb p0) f e1 e2 z1 (by intro j hj; rcases (show j = 0 ∨ j = 1 ∨ j = 2 ∨ j = 3 ∨ j = 4 by omega) with rfl | rfl | rfl | rfl | rfl <;> simp [va_up, hb0, hb1, hb2, hb3, hb4])) (va_cwS 2 hts gX4_allowed_X4_mayGoOn rfl rfl rfl (by decide +kernel) ⟨Nat.le_of_ble_eq_true rfl, Nat.le_of_ble_eq_true rfl⟩) ⟨pB_blind, pB_at hPc hDc hK hN hE hS hFc⟩ rfl rfl hl.1 rfl (lv_room (Nat.le_of_ble_eq_true rfl)) dX4_allowed_104 ⟨Nat.le_of_ble_eq_true rfl, Nat.le_of_ble_eq_true rfl⟩) hS (fun q _ h => hFc q h) hFc (fun r_214 u t H1 locs ht hvm hw hB hz1 hk1 hS => ?_)
              obtain ⟨hP1, _, hD1⟩ := hB
              have hw_215 := hw
              rw [ht] at hP1
              obtain ⟨hP, hD⟩ := va_join (wr := [(x, .inr (5, [.ref a1, .ref a2, .ref a3, .ref a4])), (a1, wT tC 5 fs), ((qs 1), .inr (4, [.int 1, .int 1, .ref f, .int 0, .int (-1), .null, .int (-1), .null])), ((qs 0), .inr (4, [.int 0, .int 1, .ref f, .int 0, .int (-1), .null, .int (-1), .null])), ((qs 2), .inr (4, [.int 2, .int 1, .ref f, .int 0, .int (-1), .null, .int (-1), .null])), ((qs 3), .inr (4, [.int 3, .int 1, .ref f, .int 0, .int (-1), .null, .int (-1), .null])), ((qs 4), .inr (4, [.int 4, .int 1, .ref f, .int 0, .int (-1), .null, .int (-1), .null]))]) (w1 := [(a4, wS tC 5 (va_up (va_up (va_up (va_up (va_up gf 0 (some f)) 1 none) 2 (some f)) 3 (some f)) 4 (some f))), (f, .inr (3, [.ref e1, .ref e2, .int 5, .int 0])), (e1, wI tC 0 z1)]) hP hD [7, 8, 9] [0, 1, 2, 3, 4, 5, 6] rfl rfl (by decide) (by decide) hk1 hFc hP1 hD1
              generalize H1 = H at hP hS ⊢
              have hP : va_P D vwCl [(x, .inr (5, [.ref a1, .ref a2, .ref a3, .ref a4])), (a1, wT tC 5 fs), ((qs 1), .inr (4, [.int 1, .int 1, .ref f, .int 0, .int (-1), .null, .int (-1), .null])), ((qs 0), .inr (4, [.int 0, .int 1, .ref f, .int 0, .int (-1), .null, .int (-1), .null])), ((qs 2), .inr (4, [.int 2, .int 1, .ref f, .int 0, .int (-1), .null, .int (-1), .null])), ((qs 3), .inr (4, [.int 3, .int 1, .ref f, .int 0, .int (-1), .null, .int (-1), .null])), ((qs 4), .inr (4, [.int 4, .int 1, .ref f, .int 0, .int (-1), .null, .int (-1), .null])), (a4, wS tC 5 (va_up (va_up (va_up (va_up (va_up gf 0 (some f)) 1 none) 2 (some f)) 3 (some f)) 4 (some f))), (f, .inr (3, [.ref e1, .ref e2, .int 5, .int 0])), (e1, wI tC 0 z1)] H := hP
              have hD : va_D A [(x, .inr (5, [.ref a1, .ref a2, .ref a3, .ref a4])), (a1, wT tC 5 fs), ((qs 1), .inr (4, [.int 1, .int 1, .ref f, .int 0, .int (-1), .null, .int (-1), .null])), ((qs 0), .inr (4, [.int 0, .int 1, .ref f, .int 0, .int (-1), .null, .int (-1), .null])), ((qs 2), .inr (4, [.int 2, .int 1, .ref f, .int 0, .int (-1), .null, .int (-1), .null])), ((qs 3), .inr (4, [.int 3, .int 1, .ref f, .int 0, .int (-1), .null, .int (-1), .null])), ((qs 4), .inr (4, [.int 4, .int 1, .ref f, .int 0, .int (-1), .null, .int (-1), .null])), (a4, wS tC 5 (va_up (va_up (va_up (va_up (va_up gf 0 (some f)) 1 none) 2 (some f)) 3 (some f)) 4 (some f))), (f, .inr (3, [.ref e1, .ref e2, .int 5, .int 0])), (e1, wI tC 0 z1)] := hD
              have q1 : r_214 = 1 := hw_215.trans (by unfold mayg cntb; rw [hb0, hb1, hb2, hb3, hb4] <;> decide)
              subst q1
              refine lv_if_eq (tgt := 114) hx hb dX4_allowed_107 (by decide) (fun hc => absurd hc (by decide)) (fun _ => ?_)
              refine lv_iconst (v := 1) hx hb dX4_allowed_110 (by decide) ?_
              refine lv_goto (tgt := 115) hx hb dX4_allowed_111 (by decide) ?_
              have hP9 := hP.sub (ws' := []) [] rfl
              have hD9 := hD.sub (ws' := []) [] (by decide) rfl
              refine W.widen (k := 1) (n := 6) (by omega) (by omega) ?_
              exact vx_ret (W.zret (v := 1) hx hb hr (by decide) (fun t ht hW => ⟨⟨1, (), rfl, ⟨(by unfold mayg cntb; rw [hb0, hb1, hb2, hb3, hb4] <;> decide), bl1 hw_2 c_3⟩, (by rw [ht]; exact hP9), va_K.moved hW.alike hK, hD9⟩, hS.F ht⟩) hS.2.2 dX4_allowed_115 hlocks)
      · skip
        have hb1 : bqb p0 1 = true := bqT (fun h => c_148 (ez_147.trans h))
        refine lv_iconst (v := 1) hx hb dX4_allowed_34 (by decide) ?_
        refine lv_goto (tgt := 39) hx hb dX4_allowed_35 (by decide) ?_
        refine lv_istore_n (lv' := [(3, .int 1), (2, .int 1), (0, .ref x), (1, .int p0)]) hx hb dX4_allowed_39 rfl hl (by decide) rfl (fun ls hl => ?_)
        refine lv_iload_n hx hb dX4_allowed_40 rfl (lv_at hl 0 rfl) ?_
        refine lv_if_eq (tgt := 58) hx hb dX4_allowed_41 (by decide) (fun hc => absurd hc (by decide)) (fun _ => ?_)
        refine lv_aload_n hx hb dX4_allowed_44 rfl (lv_at hl 2 rfl) ?_
        refine va_get (D := D) (ci := 5) (v := .ref a1) (C := RX4) (T := TX4) (N := 4) hx hb hts in_X4_allowed_X4 hown hK hP 0 rfl rfl 0 (by decide) w_1 (fun _ h9 => h9) rfl dX4_allowed_45 ?_
        refine lv_iload_n hx hb dX4_allowed_48 rfl (lv_at hl 1 rfl) ?_
        refine va_aldq hx hb hK hP 1 3 rfl rfl (by unfold vp_in; decide) dX4_allowed_49 ?_
        rw [show fs (1 : Int32).toNatClampNeg = some (qs 1) from (by rw [show (1 : Int32).toNatClampNeg = 1 by decide]; exact hfs 1 (by decide))]
        refine W.eq (g2 := F0 m 50 ls [.ref (qs 1)]) rfl ?_
        have hPc := hP.sub (ws' := [((qs 1), .inr (4, [.int 1, .int 1, .ref f, .int 0, .int (-1), .null, .int (-1), .null]))]) [5] rfl
        have hDc := hD.sub (ws' := [((qs 1), .inr (4, [.int 1, .int 1, .ref f, .int 0, .int (-1), .null, .int (-1), .null]))]) [5] (by decide) rfl
        have hFc := va_free (wc := [((qs 1), .inr (4, [.int 1, .int 1, .ref f, .int 0, .int (-1), .null, .int (-1), .null]))]) hD hS hA [5] rfl
        refine va_calli (va_runVN (As := []) (rest := []) ⟨hx, hb, hml, hown, hts⟩ (c_X3_isFree l hlt D tC dz H.size f (qs 1) 1 ) ⟨(va_cnB (host := "NoticeStations") 0 hts gX4_allowed_X3_isFree_n240 rfl rfl rfl (hN.1 (.methodLinkNest "NoticeStations" 240 ⟨"NoticeStations$Station", "isFree", "()Z"⟩ "NoticeStations") (by decide +kernel)) w_2 (by decide +kernel) ⟨Nat.le_of_ble_eq_true rfl, Nat.le_of_ble_eq_true rfl⟩), w_3, w_4⟩ ⟨pB_blind, va_recv hK hPc (ci := 4) (q0 := 0) rfl rfl, pB_at hPc hDc hK hN hE hS hFc⟩ rfl rfl hl.1 rfl (lv_room (Nat.le_of_ble_eq_true rfl)) dX4_allowed_50 ⟨Nat.le_of_ble_eq_true rfl, Nat.le_of_ble_eq_true rfl⟩) hS (fun q _ h => hFc q h) hFc (fun r_216 u t H1 locs ht hvm hw hB hz1 hk1 hS => ?_)
        obtain ⟨hP1, _, hD1⟩ := hB
        have hw_217 := hw
        rw [ht] at hP1
        obtain ⟨hP, hD⟩ := va_join (wr := [(x, .inr (5, [.ref a1, .ref a2, .ref a3, .ref a4])), (a1, wT tC 5 fs), (a4, wS tC 5 (va_up gf 0 (some f))), (f, .inr (3, [.ref e1, .ref e2, .int 5, .int 0])), (e1, wI tC 0 z1), ((qs 2), .inr (4, [.int 2, .int 1, .ref f, .int 0, .int (-1), .null, .int (-1), .null])), ((qs 3), .inr (4, [.int 3, .int 1, .ref f, .int 0, .int (-1), .null, .int (-1), .null])), ((qs 4), .inr (4, [.int 4, .int 1, .ref f, .int 0, .int (-1), .null, .int (-1), .null])), ((qs 0), .inr (4, [.int 0, .int 1, .ref f, .int 0, .int (-1), .null, .int (-1), .null]))]) (w1 := [((qs 1), .inr (4, [.int 1, .int 1, .ref f, .int 0, .int (-1), .null, .int (-1), .null]))]) hP hD [5] [0, 1, 2, 3, 4, 6, 7, 8, 9] rfl rfl (by decide) (by decide) hk1 hFc hP1 hD1
        generalize H1 = H at hP hS ⊢
        have hP : va_P D vwCl [(x, .inr (5, [.ref a1, .ref a2, .ref a3, .ref a4])), (a1, wT tC 5 fs), (a4, wS tC 5 (va_up gf 0 (some f))), (f, .inr (3, [.ref e1, .ref e2, .int 5, .int 0])), (e1, wI tC 0 z1), ((qs 2), .inr (4, [.int 2, .int 1, .ref f, .int 0, .int (-1), .null, .int (-1), .null])), ((qs 3), .inr (4, [.int 3, .int 1, .ref f, .int 0, .int (-1), .null, .int (-1), .null])), ((qs 4), .inr (4, [.int 4, .int 1, .ref f, .int 0, .int (-1), .null, .int (-1), .null])), ((qs 0), .inr (4, [.int 0, .int 1, .ref f, .int 0, .int (-1), .null, .int (-1), .null])), ((qs 1), .inr (4, [.int 1, .int 1, .ref f, .int 0, .int (-1), .null, .int (-1), .null]))] H := hP
        have hD : va_D A [(x, .inr (5, [.ref a1, .ref a2, .ref a3, .ref a4])), (a1, wT tC 5 fs), (a4, wS tC 5 (va_up gf 0 (some f))), (f, .inr (3, [.ref e1, .ref e2, .int 5, .int 0])), (e1, wI tC 0 z1), ((qs 2), .inr (4, [.int 2, .int 1, .ref f, .int 0, .int (-1), .null, .int (-1), .null])), ((qs 3), .inr (4, [.int 3, .int 1, .ref f, .int 0, .int (-1), .null, .int (-1), .null])), ((qs 4), .inr (4, [.int 4, .int 1, .ref f, .int 0, .int (-1), .null, .int (-1), .null])), ((qs 0), .inr (4, [.int 0, .int 1, .ref f, .int 0, .int (-1), .null, .int (-1), .null])), ((qs 1), .inr (4, [.int 1, .int 1, .ref f, .int 0, .int (-1), .null, .int (-1), .null]))] := hD
        subst hw_217
        refine lv_if_ne (tgt := 58) hx hb dX4_allowed_53 (by decide) (fun _ => ?_) (fun hc => absurd hc (by decide))
        refine lv_aload_n hx hb dX4_allowed_58 rfl (lv_at hl 2 rfl) ?_
        refine va_get (D := D) (ci := 5) (v := .ref a4) (C := RX4) (T := TX4) (N := 4) hx hb hts in_X4_allowed_X4 hown hK hP 0 rfl rfl 3 (by decide) w_0 (fun _ h9 => h9) rfl dX4_allowed_59 ?_
        refine lv_iload_n hx hb dX4_allowed_62 rfl (lv_at hl 1 rfl) ?_
        refine lv_iload_n hx hb dX4_allowed_63 rfl (lv_at hl 0 rfl) ?_
        refine lv_if_eq (tgt := 79) hx hb dX4_allowed_64 (by decide) (fun hc => absurd hc (by decide)) (fun _ => ?_)
        refine lv_aload_n hx hb dX4_allowed_67 rfl (lv_at hl 2 rfl) ?_
        refine va_get (D := D) (ci := 5) (v := .ref a1) (C := RX4) (T := TX4) (N := 4) hx hb hts in_X4_allowed_X4 hown hK hP 0 rfl rfl 0 (by decide) w_1 (fun _ h9 => h9) rfl dX4_allowed_68 ?_
        refine lv_iload_n hx hb dX4_allowed_71 rfl (lv_at hl 1 rfl) ?_
        refine va_aldq hx hb hK hP 1 3 rfl rfl (by unfold vp_in; decide) dX4_allowed_72 ?_
        rw [show fs (1 : Int32).toNatClampNeg = some (qs 1) from (by rw [show (1 : Int32).toNatClampNeg = 1 by decide]; exact hfs 1 (by decide))]
        refine W.eq (g2 := F0 m 73 ls [.ref (qs 1), .int 1, .ref a4]) rfl ?_
        refine va_getN (host := "NoticeStations") (D := D) (ci := 4) (v := .ref f) (C := RX3) (T := TX3) (N := 8) hx hb hts in_X4_allowed_X3 hown hK hP 9 rfl rfl 2 (by decide) (va_Nw.use rfl (hN.1 (.fieldLinkNest "NoticeStations" 61 "NoticeStations$Station" "stored" "LNoticeStations$Standing;" "NoticeStations") (by decide +kernel))) (fun _ h9 => h9) rfl dX4_allowed_73 ?_
        refine lv_goto (tgt := 80) hx hb dX4_allowed_76 (by decide) ?_
        refine va_astq hx hb hK hP hD hS 2 2 3 3 rfl rfl rfl rfl (by unfold vp_in; decide) dX4_allowed_80 (fun H locs hP hD hS => ?_)
        have hP : va_P D vwCl [(x, .inr (5, [.ref a1, .ref a2, .ref a3, .ref a4])), (a1, wT tC 5 fs), (a4, wS tC 5 (va_up (va_up gf 0 (some f)) 1 (some f))), (f, .inr (3, [.ref e1, .ref e2, .int 5, .int 0])), (e1, wI tC 0 z1), ((qs 2), .inr (4, [.int 2, .int 1, .ref f, .int 0, .int (-1), .null, .int (-1), .null])), ((qs 3), .inr (4, [.int 3, .int 1, .ref f, .int 0, .int (-1), .null, .int (-1), .null])), ((qs 4), .inr (4, [.int 4, .int 1, .ref f, .int 0, .int (-1), .null, .int (-1), .null])), ((qs 0), .inr (4, [.int 0, .int 1, .ref f, .int 0, .int (-1), .null, .int (-1), .null])), ((qs 1), .inr (4, [.int 1, .int 1, .ref f, .int 0, .int (-1), .null, .int (-1), .null]))] H := hP
        have hD : va_D A [(x, .inr (5, [.ref a1, .ref a2, .ref a3, .ref a4])), (a1, wT tC 5 fs), (a4, wS tC 5 (va_up (va_up gf 0 (some f)) 1 (some f))), (f, .inr (3, [.ref e1, .ref e2, .int 5, .int 0])), (e1, wI tC 0 z1), ((qs 2), .inr (4, [.int 2, .int 1, .ref f, .int 0, .int (-1), .null, .int (-1), .null])), ((qs 3), .inr (4, [.int 3, .int 1, .ref f, .int 0, .int (-1), .null, .int (-1), .null])), ((qs 4), .inr (4, [.int 4, .int 1, .ref f, .int 0, .int (-1), .null, .int (-1), .null])), ((qs 0), .inr (4, [.int 0, .int 1, .ref f, .int 0, .int (-1), .null, .int (-1), .null])), ((qs 1), .inr (4, [.int 1, .int 1, .ref f, .int 0, .int (-1), .null, .int (-1), .null]))] := hD
        refine lv_iinc (v := 2) (lv' := [(2, .int 2), (3, .int 1), (0, .ref x), (1, .int p0)]) hx hb dX4_allowed_81 hl (k := 1) rfl (by decide) (by decide) rfl (fun ls hl => ?_)
        refine lv_goto (tgt := 21) hx hb dX4_allowed_84 (by decide) ?_
        refine lv_iload_n hx hb dX4_allowed_21 rfl (lv_at hl 0 rfl) ?_
        refine lv_iconst (v := 5) hx hb dX4_allowed_22 (by decide) ?_
        refine lv_icmp_ge (tgt := 87) hx hb dX4_allowed_23 (by decide) (fun hc => absurd hc (by decide)) (fun _ => ?_)
        refine lv_iload_n hx hb dX4_allowed_26 rfl (lv_at hl 3 rfl) ?_
        refine lv_iconst (v := 1) hx hb dX4_allowed_27 (by decide) ?_
        refine lv_iload_n hx hb dX4_allowed_28 rfl (lv_at hl 0 rfl) ?_
        refine lv_ishl hx hb dX4_allowed_29 ?_
        refine lv_topi (fun z_218 ez_218 => ?_)
        have fz_218 : z_218 = 4 := ez_218.trans (by decide)
        subst fz_218
        refine lv_iand hx hb dX4_allowed_30 ?_
        refine lv_topi (fun z_219 ez_219 => ?_)
        refine lv_if_eq (tgt := 38) hx hb dX4_allowed_31 (by decide) (fun c_220 => ?_) (fun c_220 => ?_)
        · skip
          have hb2 : bqb p0 2 = false := bqF (ez_219.symm.trans c_220)
          refine lv_iconst (v := 0) hx hb dX4_allowed_38 (by decide) ?_
          refine lv_istore_n (lv' := [(3, .int 0), (2, .int 2), (0, .ref x), (1, .int p0)]) hx hb dX4_allowed_39 rfl hl (by decide) rfl (fun ls hl => ?_)
          refine lv_iload_n hx hb dX4_allowed_40 rfl (lv_at hl 0 rfl) ?_
          refine lv_if_eq (tgt := 58) hx hb dX4_allowed_41 (by decide) (fun _ => ?_) (fun hc => absurd (by decide) hc)
          refine lv_aload_n hx hb dX4_allowed_58 rfl (lv_at hl 2 rfl) ?_
          refine va_get (D := D) (ci := 5) (v := .ref a4) (C := RX4) (T := TX4) (N := 4) hx hb hts in_X4_allowed_X4 hown hK hP 0 rfl rfl 3 (by decide) w_0 (fun _ h9 => h9) rfl dX4_allowed_59 ?_
          refine lv_iload_n hx hb dX4_allowed_62 rfl (lv_at hl 1 rfl) ?_
          refine lv_iload_n hx hb dX4_allowed_63 rfl (lv_at hl 0 rfl) ?_
          refine lv_if_eq (tgt := 79) hx hb dX4_allowed_64 (by decide) (fun _ => ?_) (fun hc => absurd (by decide) hc)
          refine lv_null hx hb dX4_allowed_79 ?_
          refine va_astqN hx hb hK hP hD hS 2 2 rfl rfl (by unfold vp_in; decide) dX4_allowed_80 (fun H locs hP hD hS => ?_)
          have hP : va_P D vwCl [(x, .inr (5, [.ref a1, .ref a2, .ref a3, .ref a4])), (a1, wT tC 5 fs), (a4, wS tC 5 (va_up (va_up (va_up gf 0 (some f)) 1 (some f)) 2 none)), (f, .inr (3, [.ref e1, .ref e2, .int 5, .int 0])), (e1, wI tC 0 z1), ((qs 2), .inr (4, [.int 2, .int 1, .ref f, .int 0, .int (-1), .null, .int (-1), .null])), ((qs 3), .inr (4, [.int 3, .int 1, .ref f, .int 0, .int (-1), .null, .int (-1), .null])), ((qs 4), .inr (4, [.int 4, .int 1, .ref f, .int 0, .int (-1), .null, .int (-1), .null])), ((qs 0), .inr (4, [.int 0, .int 1, .ref f, .int 0, .int (-1), .null, .int (-1), .null])), ((qs 1), .inr (4, [.int 1, .int 1, .ref f, .int 0, .int (-1), .null, .int (-1), .null]))] H := hP
          have hD : va_D A [(x, .inr (5, [.ref a1, .ref a2, .ref a3, .ref a4])), (a1, wT tC 5 fs), (a4, wS tC 5 (va_up (va_up (va_up gf 0 (some f)) 1 (some f)) 2 none)), (f, .inr (3, [.ref e1, .ref e2, .int 5, .int 0])), (e1, wI tC 0 z1), ((qs 2), .inr (4, [.int 2, .int 1, .ref f, .int 0, .int (-1), .null, .int (-1), .null])), ((qs 3), .inr (4, [.int 3, .int 1, .ref f, .int 0, .int (-1), .null, .int (-1), .null])), ((qs 4), .inr (4, [.int 4, .int 1, .ref f, .int 0, .int (-1), .null, .int (-1), .null])), ((qs 0), .inr (4, [.int 0, .int 1, .ref f, .int 0, .int (-1), .null, .int (-1), .null])), ((qs 1), .inr (4, [.int 1, .int 1, .ref f, .int 0, .int (-1), .null, .int (-1), .null]))] := hD
          refine lv_iinc (v := 3) (lv' := [(2, .int 3), (3, .int 0), (0, .ref x), (1, .int p0)]) hx hb dX4_allowed_81 hl (k := 1) rfl (by decide) (by decide) rfl (fun ls hl => ?_)
          refine lv_goto (tgt := 21) hx hb dX4_allowed_84 (by decide) ?_
          refine lv_iload_n hx hb dX4_allowed_21 rfl (lv_at hl 0 rfl) ?_
          refine lv_iconst (v := 5) hx hb dX4_allowed_22 (by decide) ?_
          refine lv_icmp_ge (tgt := 87) hx hb dX4_allowed_23 (by decide) (fun hc => absurd hc (by decide)) (fun _ => ?_)
          refine lv_iload_n hx hb dX4_allowed_26 rfl (lv_at hl 3 rfl) ?_
          refine lv_iconst (v := 1) hx hb dX4_allowed_27 (by decide) ?_
          refine lv_iload_n hx hb dX4_allowed_28 rfl (lv_at hl 0 rfl) ?_
          refine lv_ishl hx hb dX4_allowed_29 ?_
          refine lv_topi (fun z_221 ez_221 => ?_)
          have fz_221 : z_221 = 8 := ez_221.trans (by decide)
          subst fz_221
          refine lv_iand hx hb dX4_allowed_30 ?_
          refine lv_topi (fun z_222 ez_222 => ?_)
          refine lv_if_eq (tgt := 38) hx hb dX4_allowed_31 (by decide) (fun c_223 => ?_) (fun c_223 => ?_)
          · skip
            have hb3 : bqb p0 3 = false := bqF (ez_222.symm.trans c_223)
            refine lv_iconst (v := 0) hx hb dX4_allowed_38 (by decide) ?_
            refine lv_istore_n (lv' := [(3, .int 0), (2, .int 3), (0, .ref x), (1, .int p0)]) hx hb dX4_allowed_39 rfl hl (by decide) rfl (fun ls hl => ?_)
            refine lv_iload_n hx hb dX4_allowed_40 rfl (lv_at hl 0 rfl) ?_
            refine lv_if_eq (tgt := 58) hx hb dX4_allowed_41 (by decide) (fun _ => ?_) (fun hc => absurd (by decide) hc)
            refine lv_aload_n hx hb dX4_allowed_58 rfl (lv_at hl 2 rfl) ?_
            refine va_get (D := D) (ci := 5) (v := .ref a4) (C := RX4) (T := TX4) (N := 4) hx hb hts in_X4_allowed_X4 hown hK hP 0 rfl rfl 3 (by decide) w_0 (fun _ h9 => h9) rfl dX4_allowed_59 ?_
            refine lv_iload_n hx hb dX4_allowed_62 rfl (lv_at hl 1 rfl) ?_
            refine lv_iload_n hx hb dX4_allowed_63 rfl (lv_at hl 0 rfl) ?_
            refine lv_if_eq (tgt := 79) hx hb dX4_allowed_64 (by decide) (fun _ => ?_) (fun hc => absurd (by decide) hc)
            refine lv_null hx hb dX4_allowed_79 ?_
            refine va_astqN hx hb hK hP hD hS 2 2 rfl rfl (by unfold vp_in; decide) dX4_allowed_80 (fun H locs hP hD hS => ?_)
            have hP : va_P D vwCl [(x, .inr (5, [.ref a1, .ref a2, .ref a3, .ref a4])), (a1, wT tC 5 fs), (a4, wS tC 5 (va_up (va_up (va_up (va_up gf 0 (some f)) 1 (some f)) 2 none) 3 none)), (f, .inr (3, [.ref e1, .ref e2, .int 5, .int 0])), (e1, wI tC 0 z1), ((qs 2), .inr (4, [.int 2, .int 1, .ref f, .int 0, .int (-1), .null, .int (-1), .null])), ((qs 3), .inr (4, [.int 3, .int 1, .ref f, .int 0, .int (-1), .null, .int (-1), .null])), ((qs 4), .inr (4, [.int 4, .int 1, .ref f, .int 0, .int (-1), .null, .int (-1), .null])), ((qs 0), .inr (4, [.int 0, .int 1, .ref f, .int 0, .int (-1), .null, .int (-1), .null])), ((qs 1), .inr (4, [.int 1, .int 1, .ref f, .int 0, .int (-1), .null, .int (-1), .null]))] H := hP
            have hD : va_D A [(x, .inr (5, [.ref a1, .ref a2, .ref a3, .ref a4])), (a1, wT tC 5 fs), (a4, wS tC 5 (va_up (va_up (va_up (va_up gf 0 (some f)) 1 (some f)) 2 none) 3 none)), (f, .inr (3, [.ref e1, .ref e2, .int 5, .int 0])), (e1, wI tC 0 z1), ((qs 2), .inr (4, [.int 2, .int 1, .ref f, .int 0, .int (-1), .null, .int (-1), .null])), ((qs 3), .inr (4, [.int 3, .int 1, .ref f, .int 0, .int (-1), .null, .int (-1), .null])), ((qs 4), .inr (4, [.int 4, .int 1, .ref f, .int 0, .int (-1), .null, .int (-1), .null])), ((qs 0), .inr (4, [.int 0, .int 1, .ref f, .int 0, .int (-1), .null, .int (-1), .null])), ((qs 1), .inr (4, [.int 1, .int 1, .ref f, .int 0, .int (-1), .null, .int (-1), .null]))] := hD
            refine lv_iinc (v := 4) (lv' := [(2, .int 4), (3, .int 0), (0, .ref x), (1, .int p0)]) hx hb dX4_allowed_81 hl (k := 1) rfl (by decide) (by decide) rfl (fun ls hl => ?_)
            refine lv_goto (tgt := 21) hx hb dX4_allowed_84 (by decide) ?_
            refine lv_iload_n hx hb dX4_allowed_21 rfl (lv_at hl 0 rfl) ?_
            refine lv_iconst (v := 5) hx hb dX4_allowed_22 (by decide) ?_
            refine lv_icmp_ge (tgt := 87) hx hb dX4_allowed_23 (by decide) (fun hc => absurd hc (by decide)) (fun _ => ?_)
            refine lv_iload_n hx hb dX4_allowed_26 rfl (lv_at hl 3 rfl) ?_
            refine lv_iconst (v := 1) hx hb dX4_allowed_27 (by decide) ?_
            refine lv_iload_n hx hb dX4_allowed_28 rfl (lv_at hl 0 rfl) ?_
            refine lv_ishl hx hb dX4_allowed_29 ?_
            refine lv_topi (fun z_224 ez_224 => ?_)
            have fz_224 : z_224 = 16 := ez_224.trans (by decide)
            subst fz_224
            refine lv_iand hx hb dX4_allowed_30 ?_
            refine lv_topi (fun z_225 ez_225 => ?_)
            refine lv_if_eq (tgt := 38) hx hb dX4_allowed_31 (by decide) (fun c_226 => ?_) (fun c_226 => ?_)
            · skip
              have hb4 : bqb p0 4 = false := bqF (ez_225.symm.trans c_226)
              refine lv_iconst (v := 0) hx hb dX4_allowed_38 (by decide) ?_
              refine lv_istore_n (lv' := [(3, .int 0), (2, .int 4), (0, .ref x), (1, .int p0)]) hx hb dX4_allowed_39 rfl hl (by decide) rfl (fun ls hl => ?_)
              refine lv_iload_n hx hb dX4_allowed_40 rfl (lv_at hl 0 rfl) ?_
              refine lv_if_eq (tgt := 58) hx hb dX4_allowed_41 (by decide) (fun _ => ?_) (fun hc => absurd (by decide) hc)
              refine lv_aload_n hx hb dX4_allowed_58 rfl (lv_at hl 2 rfl) ?_
              refine va_get (D := D) (ci := 5) (v := .ref a4) (C := RX4) (T := TX4) (N := 4) hx hb hts in_X4_allowed_X4 hown hK hP 0 rfl rfl 3 (by decide) w_0 (fun _ h9 => h9) rfl dX4_allowed_59 ?_
              refine lv_iload_n hx hb dX4_allowed_62 rfl (lv_at hl 1 rfl) ?_
              refine lv_iload_n hx hb dX4_allowed_63 rfl (lv_at hl 0 rfl) ?_
              refine lv_if_eq (tgt := 79) hx hb dX4_allowed_64 (by decide) (fun _ => ?_) (fun hc => absurd (by decide) hc)
              refine lv_null hx hb dX4_allowed_79 ?_
              refine va_astqN hx hb hK hP hD hS 2 2 rfl rfl (by unfold vp_in; decide) dX4_allowed_80 (fun H locs hP hD hS => ?_)
              have hP : va_P D vwCl [(x, .inr (5, [.ref a1, .ref a2, .ref a3, .ref a4])), (a1, wT tC 5 fs), (a4, wS tC 5 (va_up (va_up (va_up (va_up (va_up gf 0 (some f)) 1 (some f)) 2 none) 3 none) 4 none)), (f, .inr (3, [.ref e1, .ref e2, .int 5, .int 0])), (e1, wI tC 0 z1), ((qs 2), .inr (4, [.int 2, .int 1, .ref f, .int 0, .int (-1), .null, .int (-1), .null])), ((qs 3), .inr (4, [.int 3, .int 1, .ref f, .int 0, .int (-1), .null, .int (-1), .null])), ((qs 4), .inr (4, [.int 4, .int 1, .ref f, .int 0, .int (-1), .null, .int (-1), .null])), ((qs 0), .inr (4, [.int 0, .int 1, .ref f, .int 0, .int (-1), .null, .int (-1), .null])), ((qs 1), .inr (4, [.int 1, .int 1, .ref f, .int 0, .int (-1), .null, .int (-1), .null]))] H := hP
              have hD : va_D A [(x, .inr (5, [.ref a1, .ref a2, .ref a3, .ref a4])), (a1, wT tC 5 fs), (a4, wS tC 5 (va_up (va_up (va_up (va_up (va_up gf 0 (some f)) 1 (some f)) 2 none) 3 none) 4 none)), (f, .inr (3, [.ref e1, .ref e2, .int 5, .int 0])), (e1, wI tC 0 z1), ((qs 2), .inr (4, [.int 2, .int 1, .ref f, .int 0, .int (-1), .null, .int (-1), .null])), ((qs 3), .inr (4, [.int 3, .int 1, .ref f, .int 0, .int (-1), .null, .int (-1), .null])), ((qs 4), .inr (4, [.int 4, .int 1, .ref f, .int 0, .int (-1), .null, .int (-1), .null])), ((qs 0), .inr (4, [.int 0, .int 1, .ref f, .int 0, .int (-1), .null, .int (-1), .null])), ((qs 1), .inr (4, [.int 1, .int 1, .ref f, .int 0, .int (-1), .null, .int (-1), .null]))] := hD
              refine lv_iinc (v := 5) (lv' := [(2, .int 5), (3, .int 0), (0, .ref x), (1, .int p0)]) hx hb dX4_allowed_81 hl (k := 1) rfl (by decide) (by decide) rfl (fun ls hl => ?_)
              refine lv_goto (tgt := 21) hx hb dX4_allowed_84 (by decide) ?_
              refine lv_iload_n hx hb dX4_allowed_21 rfl (lv_at hl 0 rfl) ?_
              refine lv_iconst (v := 5) hx hb dX4_allowed_22 (by decide) ?_
              refine lv_icmp_ge (tgt := 87) hx hb dX4_allowed_23 (by decide) (fun _ => ?_) (fun hc => absurd (by decide) hc)
              refine lv_aload_n hx hb dX4_allowed_87 rfl (lv_at hl 2 rfl) ?_
              refine va_get (D := D) (ci := 5) (v := .ref a4) (C := RX4) (T := TX4) (N := 4) hx hb hts in_X4_allowed_X4 hown hK hP 0 rfl rfl 3 (by decide) w_0 (fun _ h9 => h9) rfl dX4_allowed_88 ?_
              have hPc := hP.sub (ws' := [(a4, wS tC 5 (va_up (va_up (va_up (va_up (va_up gf 0 (some f)) 1 (some f)) 2 none) 3 none) 4 none)), (f, .inr (3, [.ref e1, .ref e2, .int 5, .int 0])), (e1, wI tC 0 z1)]) [2, 3, 4] rfl
              have hDc := hD.sub (ws' := [(a4, wS tC 5 (va_up (va_up (va_up (va_up (va_up gf 0 (some f)) 1 (some f)) 2 none) 3 none) 4 none)), (f, .inr (3, [.ref e1, .ref e2, .int 5, .int 0])), (e1, wI tC 0 z1)]) [2, 3, 4] (by decide) rfl
              have hFc := va_free (wc := [(a4, wS tC 5 (va_up (va_up (va_up (va_up (va_up gf 0 (some f)) 1 (some f)) 2 none) 3 none) 4 none)), (f, .inr (3, [.ref e1, .ref e2, .int 5, .int 0])), (e1, wI tC 0 z1)]) hD hS hA [2, 3, 4] rfl
              refine va_callq (va_runS (As := [.ref a4]) (rest := []) ⟨hx, hb, hml, hown, hts⟩ (c_X4_heldByHolders l hlt D tC dz H.size a4 (va_up (va_up (va_up (va_up (va_up gf 0 (some f)) 1 (some f)) 2 none) 3 none) 4 none) (bqb p0) f e1 e2 z1 (by intro j hj; rcases (show j = 0 ∨ j = 1 ∨ j = 2 ∨ j = 3 ∨ j = 4 by omega) with rfl | rfl | rfl | rfl | rfl <;> simp [va_up, hb0, hb1, hb2, hb3, hb4])) (va_cwS 1 hts gX4_allowed_X4_heldByHolders rfl rfl rfl (by decide +kernel) ⟨Nat.le_of_ble_eq_true rfl, Nat.le_of_ble_eq_true rfl⟩) ⟨pB_blind, pB_at hPc hDc hK hN hE hS hFc⟩ rfl rfl hl.1 rfl (lv_room (Nat.le_of_ble_eq_true rfl)) dX4_allowed_91 ⟨Nat.le_of_ble_eq_true rfl, Nat.le_of_ble_eq_true rfl⟩) hS (fun q _ h => hFc q h) hFc (fun r_227 u t H1 locs ht hvm hw hB hz1 hk1 hS => ?_)
              obtain ⟨hP1, _, hD1⟩ := hB
              have hw_228 := hw
              rw [ht] at hP1
              obtain ⟨hP, hD⟩ := va_join (wr := [(x, .inr (5, [.ref a1, .ref a2, .ref a3, .ref a4])), (a1, wT tC 5 fs), ((qs 2), .inr (4, [.int 2, .int 1, .ref f, .int 0, .int (-1), .null, .int (-1), .null])), ((qs 3), .inr (4, [.int 3, .int 1, .ref f, .int 0, .int (-1), .null, .int (-1), .null])), ((qs 4), .inr (4, [.int 4, .int 1, .ref f, .int 0, .int (-1), .null, .int (-1), .null])), ((qs 0), .inr (4, [.int 0, .int 1, .ref f, .int 0, .int (-1), .null, .int (-1), .null])), ((qs 1), .inr (4, [.int 1, .int 1, .ref f, .int 0, .int (-1), .null, .int (-1), .null]))]) (w1 := [(a4, wS tC 5 (va_up (va_up (va_up (va_up (va_up gf 0 (some f)) 1 (some f)) 2 none) 3 none) 4 none)), (f, .inr (3, [.ref e1, .ref e2, .int 5, .int 0])), (e1, wI tC 0 z1)]) hP hD [2, 3, 4] [0, 1, 5, 6, 7, 8, 9] rfl rfl (by decide) (by decide) hk1 hFc hP1 hD1
              generalize H1 = H at hP hS ⊢
              have hP : va_P D vwCl [(x, .inr (5, [.ref a1, .ref a2, .ref a3, .ref a4])), (a1, wT tC 5 fs), ((qs 2), .inr (4, [.int 2, .int 1, .ref f, .int 0, .int (-1), .null, .int (-1), .null])), ((qs 3), .inr (4, [.int 3, .int 1, .ref f, .int 0, .int (-1), .null, .int (-1), .null])), ((qs 4), .inr (4, [.int 4, .int 1, .ref f, .int 0, .int (-1), .null, .int (-1), .null])), ((qs 0), .inr (4, [.int 0, .int 1, .ref f, .int 0, .int (-1), .null, .int (-1), .null])), ((qs 1), .inr (4, [.int 1, .int 1, .ref f, .int 0, .int (-1), .null, .int (-1), .null])), (a4, wS tC 5 (va_up (va_up (va_up (va_up (va_up gf 0 (some f)) 1 (some f)) 2 none) 3 none) 4 none)), (f, .inr (3, [.ref e1, .ref e2, .int 5, .int 0])), (e1, wI tC 0 z1)] H := hP
              have hD : va_D A [(x, .inr (5, [.ref a1, .ref a2, .ref a3, .ref a4])), (a1, wT tC 5 fs), ((qs 2), .inr (4, [.int 2, .int 1, .ref f, .int 0, .int (-1), .null, .int (-1), .null])), ((qs 3), .inr (4, [.int 3, .int 1, .ref f, .int 0, .int (-1), .null, .int (-1), .null])), ((qs 4), .inr (4, [.int 4, .int 1, .ref f, .int 0, .int (-1), .null, .int (-1), .null])), ((qs 0), .inr (4, [.int 0, .int 1, .ref f, .int 0, .int (-1), .null, .int (-1), .null])), ((qs 1), .inr (4, [.int 1, .int 1, .ref f, .int 0, .int (-1), .null, .int (-1), .null])), (a4, wS tC 5 (va_up (va_up (va_up (va_up (va_up gf 0 (some f)) 1 (some f)) 2 none) 3 none) 4 none)), (f, .inr (3, [.ref e1, .ref e2, .int 5, .int 0])), (e1, wI tC 0 z1)] := hD
              have q1 : r_227 = some f := hw_228.trans (by rw [hb0, hb1, hb2, hb3, hb4] <;> rfl)
              subst q1
              refine W.eq (g2 := F0 m 94 ls [.ref f]) rfl ?_
              refine lv_astore_n (lv' := [(2, .ref f), (3, .int 0), (0, .ref x), (1, .int p0)]) hx hb dX4_allowed_94 rfl hl (by decide) rfl (fun ls hl => ?_)
              refine lv_aload_n hx hb dX4_allowed_95 rfl (lv_at hl 0 rfl) ?_
              refine lv_ifnull hx hb dX4_allowed_96 ?_
              refine lv_aload_n hx hb dX4_allowed_99 rfl (lv_at hl 2 rfl) ?_
              refine va_get (D := D) (ci := 5) (v := .ref a4) (C := RX4) (T := TX4) (N := 4) hx hb hts in_X4_allowed_X4 hown hK hP 0 rfl rfl 3 (by decide) w_0 (fun _ h9 => h9) rfl dX4_allowed_100 ?_
              refine lv_aload_n hx hb dX4_allowed_103 rfl (lv_at hl 0 rfl) ?_
              have hPc := hP.sub (ws' := [(a4, wS tC 5 (va_up (va_up (va_up (va_up (va_up gf 0 (some f)) 1 (some f)) 2 none) 3 none) 4 none)), (f, .inr (3, [.ref e1, .ref e2, .int 5, .int 0])), (e1, wI tC 0 z1)]) [7, 8, 9] rfl
              have hDc := hD.sub (ws' := [(a4, wS tC 5 (va_up (va_up (va_up (va_up (va_up gf 0 (some f)) 1 (some f)) 2 none) 3 none) 4 none)), (f, .inr (3, [.ref e1, .ref e2, .int 5, .int 0])), (e1, wI tC 0 z1)]) [7, 8, 9] (by decide) rfl
              have hFc := va_free (wc := [(a4, wS tC 5 (va_up (va_up (va_up (va_up (va_up gf 0 (some f)) 1 (some f)) 2 none) 3 none) 4 none)), (f, .inr (3, [.ref e1, .ref e2, .int 5, .int 0])), (e1, wI tC 0 z1)]) hD hS hA [7, 8, 9] rfl
              refine va_calli (va_runS (As := [.ref a4, .ref f]) (rest := []) ⟨hx, hb, hml, hown, hts⟩ (c_X4_mayGoOn l hlt D tC dz H.size a4 (va_up (va_up (va_up (va_up (va_up gf 0 (some f)) 1 (some f)) 2 none) 3 none) 4 none) (bqb p0) f e1 e2 z1 (by intro j hj; rcases (show j = 0 ∨ j = 1 ∨ j = 2 ∨ j = 3 ∨ j = 4 by omega) with rfl | rfl | rfl | rfl | rfl <;> simp [va_up, hb0, hb1, hb2, hb3, hb4])) (va_cwS 2 hts gX4_allowed_X4_mayGoOn rfl rfl rfl (by decide +kernel) ⟨Nat.le_of_ble_eq_true rfl, Nat.le_of_ble_eq_true rfl⟩) ⟨pB_blind, pB_at hPc hDc hK hN hE hS hFc⟩ rfl rfl hl.1 rfl (lv_room (Nat.le_of_ble_eq_true rfl)) dX4_allowed_104 ⟨Nat.le_of_ble_eq_true rfl, Nat.le_of_ble_eq_true rfl⟩) hS (fun q _ h => hFc q h) hFc (fun r_229 u t H1 locs ht hvm hw hB hz1 hk1 hS => ?_)
              obtain ⟨hP1, _, hD1⟩ := hB
              have hw_230 := hw
              rw [ht] at hP1
              obtain ⟨hP, hD⟩ := va_join (wr := [(x, .inr (5, [.ref a1, .ref a2, .ref a3, .ref a4])), (a1, wT tC 5 fs), ((qs 2), .inr (4, [.int 2, .int 1, .ref f, .int 0, .int (-1), .null, .int (-1), .null])), ((qs 3), .inr (4, [.int 3, .int 1, .ref f, .int 0, .int (-1), .null, .int (-1), .null])), ((qs 4), .inr (4, [.int 4, .int 1, .ref f, .int 0, .int (-1), .null, .int (-1), .null])), ((qs 0), .inr (4, [.int 0, .int 1, .ref f, .int 0, .int (-1), .null, .int (-1), .null])), ((qs 1), .inr (4, [.int 1, .int 1, .ref f, .int 0, .int (-1), .null, .int (-1), .null]))]) (w1 := [(a4, wS tC 5 (va_up (va_up (va_up (va_up (va_up gf 0 (some f)) 1 (some f)) 2 none) 3 none) 4 none)), (f, .inr (3, [.ref e1, .ref e2, .int 5, .int 0])), (e1, wI tC 0 z1)]) hP hD [7, 8, 9] [0, 1, 2, 3, 4, 5, 6] rfl rfl (by decide) (by decide) hk1 hFc hP1 hD1
              generalize H1 = H at hP hS ⊢
              have hP : va_P D vwCl [(x, .inr (5, [.ref a1, .ref a2, .ref a3, .ref a4])), (a1, wT tC 5 fs), ((qs 2), .inr (4, [.int 2, .int 1, .ref f, .int 0, .int (-1), .null, .int (-1), .null])), ((qs 3), .inr (4, [.int 3, .int 1, .ref f, .int 0, .int (-1), .null, .int (-1), .null])), ((qs 4), .inr (4, [.int 4, .int 1, .ref f, .int 0, .int (-1), .null, .int (-1), .null])), ((qs 0), .inr (4, [.int 0, .int 1, .ref f, .int 0, .int (-1), .null, .int (-1), .null])), ((qs 1), .inr (4, [.int 1, .int 1, .ref f, .int 0, .int (-1), .null, .int (-1), .null])), (a4, wS tC 5 (va_up (va_up (va_up (va_up (va_up gf 0 (some f)) 1 (some f)) 2 none) 3 none) 4 none)), (f, .inr (3, [.ref e1, .ref e2, .int 5, .int 0])), (e1, wI tC 0 z1)] H := hP
              have hD : va_D A [(x, .inr (5, [.ref a1, .ref a2, .ref a3, .ref a4])), (a1, wT tC 5 fs), ((qs 2), .inr (4, [.int 2, .int 1, .ref f, .int 0, .int (-1), .null, .int (-1), .null])), ((qs 3), .inr (4, [.int 3, .int 1, .ref f, .int 0, .int (-1), .null, .int (-1), .null])), ((qs 4), .inr (4, [.int 4, .int 1, .ref f, .int 0, .int (-1), .null, .int (-1), .null])), ((qs 0), .inr (4, [.int 0, .int 1, .ref f, .int 0, .int (-1), .null, .int (-1), .null])), ((qs 1), .inr (4, [.int 1, .int 1, .ref f, .int 0, .int (-1), .null, .int (-1), .null])), (a4, wS tC 5 (va_up (va_up (va_up (va_up (va_up gf 0 (some f)) 1 (some f)) 2 none) 3 none) 4 none)), (f, .inr (3, [.ref e1, .ref e2, .int 5, .int 0])), (e1, wI tC 0 z1)] := hD
              have q1 : r_229 = 0 := hw_230.trans (by unfold mayg cntb; rw [hb0, hb1, hb2, hb3, hb4] <;> decide)
              subst q1
              refine lv_if_eq (tgt := 114) hx hb dX4_allowed_107 (by decide) (fun _ => ?_) (fun hc => absurd (by decide) hc)
              refine lv_iconst (v := 0) hx hb dX4_allowed_114 (by decide) ?_
              have hP9 := hP.sub (ws' := []) [] rfl
              have hD9 := hD.sub (ws' := []) [] (by decide) rfl
              refine W.widen (k := 1) (n := 6) (by omega) (by omega) ?_
              exact vx_ret (W.zret (v := 0) hx hb hr (by decide) (fun t ht hW => ⟨⟨0, (), rfl, ⟨(by unfold mayg cntb; rw [hb0, hb1, hb2, hb3, hb4] <;> decide), bl1 hw_2 c_3⟩, (by rw [ht]; exact hP9), va_K.moved hW.alike hK, hD9⟩, hS.F ht⟩) hS.2.2 dX4_allowed_115 hlocks)
            · skip
              have hb4 : bqb p0 4 = true := bqT (fun h => c_226 (ez_225.trans h))
              refine lv_iconst (v := 1) hx hb dX4_allowed_34 (by decide) ?_
              refine lv_goto (tgt := 39) hx hb dX4_allowed_35 (by decide) ?_
              refine lv_istore_n (lv' := [(3, .int 1), (2, .int 4), (0, .ref x), (1, .int p0)]) hx hb dX4_allowed_39 rfl hl (by decide) rfl (fun ls hl => ?_)
              refine lv_iload_n hx hb dX4_allowed_40 rfl (lv_at hl 0 rfl) ?_
              refine lv_if_eq (tgt := 58) hx hb dX4_allowed_41 (by decide) (fun hc => absurd hc (by decide)) (fun _ => ?_)
              refine lv_aload_n hx hb dX4_allowed_44 rfl (lv_at hl 2 rfl) ?_
              refine va_get (D := D) (ci := 5) (v := .ref a1) (C := RX4) (T := TX4) (N := 4) hx hb hts in_X4_allowed_X4 hown hK hP 0 rfl rfl 0 (by decide) w_1 (fun _ h9 => h9) rfl dX4_allowed_45 ?_
              refine lv_iload_n hx hb dX4_allowed_48 rfl (lv_at hl 1 rfl) ?_
              refine va_aldq hx hb hK hP 1 3 rfl rfl (by unfold vp_in; decide) dX4_allowed_49 ?_
              rw [show fs (4 : Int32).toNatClampNeg = some (qs 4) from (by rw [show (4 : Int32).toNatClampNeg = 4 by decide]; exact hfs 4 (by decide))]
              refine W.eq (g2 := F0 m 50 ls [.ref (qs 4)]) rfl ?_
              have hPc := hP.sub (ws' := [((qs 4), .inr (4, [.int 4, .int 1, .ref f, .int 0, .int (-1), .null, .int (-1), .null]))]) [7] rfl
              have hDc := hD.sub (ws' := [((qs 4), .inr (4, [.int 4, .int 1, .ref f, .int 0, .int (-1), .null, .int (-1), .null]))]) [7] (by decide) rfl
              have hFc := va_free (wc := [((qs 4), .inr (4, [.int 4, .int 1, .ref f, .int 0, .int (-1), .null, .int (-1), .null]))]) hD hS hA [7] rfl
              refine va_calli (va_runVN (As := []) (rest := []) ⟨hx, hb, hml, hown, hts⟩ (c_X3_isFree l hlt D tC dz H.size f (qs 4) 4 ) ⟨(va_cnB (host := "NoticeStations") 0 hts gX4_allowed_X3_isFree_n240 rfl rfl rfl (hN.1 (.methodLinkNest "NoticeStations" 240 ⟨"NoticeStations$Station", "isFree", "()Z"⟩ "NoticeStations") (by decide +kernel)) w_2 (by decide +kernel) ⟨Nat.le_of_ble_eq_true rfl, Nat.le_of_ble_eq_true rfl⟩), w_3, w_4⟩ ⟨pB_blind, va_recv hK hPc (ci := 4) (q0 := 0) rfl rfl, pB_at hPc hDc hK hN hE hS hFc⟩ rfl rfl hl.1 rfl (lv_room (Nat.le_of_ble_eq_true rfl)) dX4_allowed_50 ⟨Nat.le_of_ble_eq_true rfl, Nat.le_of_ble_eq_true rfl⟩) hS (fun q _ h => hFc q h) hFc (fun r_231 u t H1 locs ht hvm hw hB hz1 hk1 hS => ?_)
              obtain ⟨hP1, _, hD1⟩ := hB
              have hw_232 := hw
              rw [ht] at hP1
              obtain ⟨hP, hD⟩ := va_join (wr := [(x, .inr (5, [.ref a1, .ref a2, .ref a3, .ref a4])), (a1, wT tC 5 fs), (a4, wS tC 5 (va_up (va_up (va_up (va_up gf 0 (some f)) 1 (some f)) 2 none) 3 none)), (f, .inr (3, [.ref e1, .ref e2, .int 5, .int 0])), (e1, wI tC 0 z1), ((qs 2), .inr (4, [.int 2, .int 1, .ref f, .int 0, .int (-1), .null, .int (-1), .null])), ((qs 3), .inr (4, [.int 3, .int 1, .ref f, .int 0, .int (-1), .null, .int (-1), .null])), ((qs 0), .inr (4, [.int 0, .int 1, .ref f, .int 0, .int (-1), .null, .int (-1), .null])), ((qs 1), .inr (4, [.int 1, .int 1, .ref f, .int 0, .int (-1), .null, .int (-1), .null]))]) (w1 := [((qs 4), .inr (4, [.int 4, .int 1, .ref f, .int 0, .int (-1), .null, .int (-1), .null]))]) hP hD [7] [0, 1, 2, 3, 4, 5, 6, 8, 9] rfl rfl (by decide) (by decide) hk1 hFc hP1 hD1
              generalize H1 = H at hP hS ⊢
              have hP : va_P D vwCl [(x, .inr (5, [.ref a1, .ref a2, .ref a3, .ref a4])), (a1, wT tC 5 fs), (a4, wS tC 5 (va_up (va_up (va_up (va_up gf 0 (some f)) 1 (some f)) 2 none) 3 none)), (f, .inr (3, [.ref e1, .ref e2, .int 5, .int 0])), (e1, wI tC 0 z1), ((qs 2), .inr (4, [.int 2, .int 1, .ref f, .int 0, .int (-1), .null, .int (-1), .null])), ((qs 3), .inr (4, [.int 3, .int 1, .ref f, .int 0, .int (-1), .null, .int (-1), .null])), ((qs 0), .inr (4, [.int 0, .int 1, .ref f, .int 0, .int (-1), .null, .int (-1), .null])), ((qs 1), .inr (4, [.int 1, .int 1, .ref f, .int 0, .int (-1), .null, .int (-1), .null])), ((qs 4), .inr (4, [.int 4, .int 1, .ref f, .int 0, .int (-1), .null, .int (-1), .null]))] H := hP
              have hD : va_D A [(x, .inr (5, [.ref a1, .ref a2, .ref a3, .ref a4])), (a1, wT tC 5 fs), (a4, wS tC 5 (va_up (va_up (va_up (va_up gf 0 (some f)) 1 (some f)) 2 none) 3 none)), (f, .inr (3, [.ref e1, .ref e2, .int 5, .int 0])), (e1, wI tC 0 z1), ((qs 2), .inr (4, [.int 2, .int 1, .ref f, .int 0, .int (-1), .null, .int (-1), .null])), ((qs 3), .inr (4, [.int 3, .int 1, .ref f, .int 0, .int (-1), .null, .int (-1), .null])), ((qs 0), .inr (4, [.int 0, .int 1, .ref f, .int 0, .int (-1), .null, .int (-1), .null])), ((qs 1), .inr (4, [.int 1, .int 1, .ref f, .int 0, .int (-1), .null, .int (-1), .null])), ((qs 4), .inr (4, [.int 4, .int 1, .ref f, .int 0, .int (-1), .null, .int (-1), .null]))] := hD
              subst hw_232
              refine lv_if_ne (tgt := 58) hx hb dX4_allowed_53 (by decide) (fun _ => ?_) (fun hc => absurd hc (by decide))
              refine lv_aload_n hx hb dX4_allowed_58 rfl (lv_at hl 2 rfl) ?_
              refine va_get (D := D) (ci := 5) (v := .ref a4) (C := RX4) (T := TX4) (N := 4) hx hb hts in_X4_allowed_X4 hown hK hP 0 rfl rfl 3 (by decide) w_0 (fun _ h9 => h9) rfl dX4_allowed_59 ?_
              refine lv_iload_n hx hb dX4_allowed_62 rfl (lv_at hl 1 rfl) ?_
              refine lv_iload_n hx hb dX4_allowed_63 rfl (lv_at hl 0 rfl) ?_
              refine lv_if_eq (tgt := 79) hx hb dX4_allowed_64 (by decide) (fun hc => absurd hc (by decide)) (fun _ => ?_)
              refine lv_aload_n hx hb dX4_allowed_67 rfl (lv_at hl 2 rfl) ?_
              refine va_get (D := D) (ci := 5) (v := .ref a1) (C := RX4) (T := TX4) (N := 4) hx hb hts in_X4_allowed_X4 hown hK hP 0 rfl rfl 0 (by decide) w_1 (fun _ h9 => h9) rfl dX4_allowed_68 ?_
              refine lv_iload_n hx hb dX4_allowed_71 rfl (lv_at hl 1 rfl) ?_
              refine va_aldq hx hb hK hP 1 3 rfl rfl (by unfold vp_in; decide) dX4_allowed_72 ?_
              rw [show fs (4 : Int32).toNatClampNeg = some (qs 4) from (by rw [show (4 : Int32).toNatClampNeg = 4 by decide]; exact hfs 4 (by decide))]
              refine W.eq (g2 := F0 m 73 ls [.ref (qs 4), .int 4, .ref a4]) rfl ?_
              refine va_getN (host := "NoticeStations") (D := D) (ci := 4) (v := .ref f) (C := RX3) (T := TX3) (N := 8) hx hb hts in_X4_allowed_X3 hown hK hP 9 rfl rfl 2 (by decide) (va_Nw.use rfl (hN.1 (.fieldLinkNest "NoticeStations" 61 "NoticeStations$Station" "stored" "LNoticeStations$Standing;" "NoticeStations") (by decide +kernel))) (fun _ h9 => h9) rfl dX4_allowed_73 ?_
              refine lv_goto (tgt := 80) hx hb dX4_allowed_76 (by decide) ?_
              refine va_astq hx hb hK hP hD hS 2 2 3 3 rfl rfl rfl rfl (by unfold vp_in; decide) dX4_allowed_80 (fun H locs hP hD hS => ?_)
              have hP : va_P D vwCl [(x, .inr (5, [.ref a1, .ref a2, .ref a3, .ref a4])), (a1, wT tC 5 fs), (a4, wS tC 5 (va_up (va_up (va_up (va_up (va_up gf 0 (some f)) 1 (some f)) 2 none) 3 none) 4 (some f))), (f, .inr (3, [.ref e1, .ref e2, .int 5, .int 0])), (e1, wI tC 0 z1), ((qs 2), .inr (4, [.int 2, .int 1, .ref f, .int 0, .int (-1), .null, .int (-1), .null])), ((qs 3), .inr (4, [.int 3, .int 1, .ref f, .int 0, .int (-1), .null, .int (-1), .null])), ((qs 0), .inr (4, [.int 0, .int 1, .ref f, .int 0, .int (-1), .null, .int (-1), .null])), ((qs 1), .inr (4, [.int 1, .int 1, .ref f, .int 0, .int (-1), .null, .int (-1), .null])), ((qs 4), .inr (4, [.int 4, .int 1, .ref f, .int 0, .int (-1), .null, .int (-1), .null]))] H := hP
              have hD : va_D A [(x, .inr (5, [.ref a1, .ref a2, .ref a3, .ref a4])), (a1, wT tC 5 fs), (a4, wS tC 5 (va_up (va_up (va_up (va_up (va_up gf 0 (some f)) 1 (some f)) 2 none) 3 none) 4 (some f))), (f, .inr (3, [.ref e1, .ref e2, .int 5, .int 0])), (e1, wI tC 0 z1), ((qs 2), .inr (4, [.int 2, .int 1, .ref f, .int 0, .int (-1), .null, .int (-1), .null])), ((qs 3), .inr (4, [.int 3, .int 1, .ref f, .int 0, .int (-1), .null, .int (-1), .null])), ((qs 0), .inr (4, [.int 0, .int 1, .ref f, .int 0, .int (-1), .null, .int (-1), .null])), ((qs 1), .inr (4, [.int 1, .int 1, .ref f, .int 0, .int (-1), .null, .int (-1), .null])), ((qs 4), .inr (4, [.int 4, .int 1, .ref f, .int 0, .int (-1), .null, .int (-1), .null]))] := hD
              refine lv_iinc (v := 5) (lv' := [(2, .int 5), (3, .int 1), (0, .ref x), (1, .int p0)]) hx hb dX4_allowed_81 hl (k := 1) rfl (by decide) (by decide) rfl (fun ls hl => ?_)
              refine lv_goto (tgt := 21) hx hb dX4_allowed_84 (by decide) ?_
              refine lv_iload_n hx hb dX4_allowed_21 rfl (lv_at hl 0 rfl) ?_
              refine lv_iconst (v := 5) hx hb dX4_allowed_22 (by decide) ?_
              refine lv_icmp_ge (tgt := 87) hx hb dX4_allowed_23 (by decide) (fun _ => ?_) (fun hc => absurd (by decide) hc)
              refine lv_aload_n hx hb dX4_allowed_87 rfl (lv_at hl 2 rfl) ?_
              refine va_get (D := D) (ci := 5) (v := .ref a4) (C := RX4) (T := TX4) (N := 4) hx hb hts in_X4_allowed_X4 hown hK hP 0 rfl rfl 3 (by decide) w_0 (fun _ h9 => h9) rfl dX4_allowed_88 ?_
              have hPc := hP.sub (ws' := [(a4, wS tC 5 (va_up (va_up (va_up (va_up (va_up gf 0 (some f)) 1 (some f)) 2 none) 3 none) 4 (some f))), (f, .inr (3, [.ref e1, .ref e2, .int 5, .int 0])), (e1, wI tC 0 z1)]) [2, 3, 4] rfl
              have hDc := hD.sub (ws' := [(a4, wS tC 5 (va_up (va_up (va_up (va_up (va_up gf 0 (some f)) 1 (some f)) 2 none) 3 none) 4 (some f))), (f, .inr (3, [.ref e1, .ref e2, .int 5, .int 0])), (e1, wI tC 0 z1)]) [2, 3, 4] (by decide) rfl
              have hFc := va_free (wc := [(a4, wS tC 5 (va_up (va_up (va_up (va_up (va_up gf 0 (some f)) 1 (some f)) 2 none) 3 none) 4 (some f))), (f, .inr (3, [.ref e1, .ref e2, .int 5, .int 0])), (e1, wI tC 0 z1)]) hD hS hA [2, 3, 4] rfl
              refine va_callq (va_runS (As := [.ref a4]) (rest := []) ⟨hx, hb, hml, hown, hts⟩ (c_X4_heldByHolders l hlt D tC dz H.size a4 (va_up (va_up (va_up (va_up (va_up gf 0 (some f)) 1 (some f)) 2 none) 3 none) 4 (some f)) (bqb p0) f e1 e2 z1 (by intro j hj; rcases (show j = 0 ∨ j = 1 ∨ j = 2 ∨ j = 3 ∨ j = 4 by omega) with rfl | rfl | rfl | rfl | rfl <;> simp [va_up, hb0, hb1, hb2, hb3, hb4])) (va_cwS 1 hts gX4_allowed_X4_heldByHolders rfl rfl rfl (by decide +kernel) ⟨Nat.le_of_ble_eq_true rfl, Nat.le_of_ble_eq_true rfl⟩) ⟨pB_blind, pB_at hPc hDc hK hN hE hS hFc⟩ rfl rfl hl.1 rfl (lv_room (Nat.le_of_ble_eq_true rfl)) dX4_allowed_91 ⟨Nat.le_of_ble_eq_true rfl, Nat.le_of_ble_eq_true rfl⟩) hS (fun q _ h => hFc q h) hFc (fun r_233 u t H1 locs ht hvm hw hB hz1 hk1 hS => ?_)
              obtain ⟨hP1, _, hD1⟩ := hB
              have hw_234 := hw
              rw [ht] at hP1
              obtain ⟨hP, hD⟩ := va_join (wr := [(x, .inr (5, [.ref a1, .ref a2, .ref a3, .ref a4])), (a1, wT tC 5 fs), ((qs 2), .inr (4, [.int 2, .int 1, .ref f, .int 0, .int (-1), .null, .int (-1), .null])), ((qs 3), .inr (4, [.int 3, .int 1, .ref f, .int 0, .int (-1), .null, .int (-1), .null])), ((qs 0), .inr (4, [.int 0, .int 1, .ref f, .int 0, .int (-1), .null, .int (-1), .null])), ((qs 1), .inr (4, [.int 1, .int 1, .ref f, .int 0, .int (-1), .null, .int (-1), .null])), ((qs 4), .inr (4, [.int 4, .int 1, .ref f, .int 0, .int (-1), .null, .int (-1), .null]))]) (w1 := [(a4, wS tC 5 (va_up (va_up (va_up (va_up (va_up gf 0 (some f)) 1 (some f)) 2 none) 3 none) 4 (some f))), (f, .inr (3, [.ref e1, .ref e2, .int 5, .int 0])), (e1, wI tC 0 z1)]) hP hD [2, 3, 4] [0, 1, 5, 6, 7, 8, 9] rfl rfl (by decide) (by decide) hk1 hFc hP1 hD1
              generalize H1 = H at hP hS ⊢
              have hP : va_P D vwCl [(x, .inr (5, [.ref a1, .ref a2, .ref a3, .ref a4])), (a1, wT tC 5 fs), ((qs 2), .inr (4, [.int 2, .int 1, .ref f, .int 0, .int (-1), .null, .int (-1), .null])), ((qs 3), .inr (4, [.int 3, .int 1, .ref f, .int 0, .int (-1), .null, .int (-1), .null])), ((qs 0), .inr (4, [.int 0, .int 1, .ref f, .int 0, .int (-1), .null, .int (-1), .null])), ((qs 1), .inr (4, [.int 1, .int 1, .ref f, .int 0, .int (-1), .null, .int (-1), .null])), ((qs 4), .inr (4, [.int 4, .int 1, .ref f, .int 0, .int (-1), .null, .int (-1), .null])), (a4, wS tC 5 (va_up (va_up (va_up (va_up (va_up gf 0 (some f)) 1 (some f)) 2 none) 3 none) 4 (some f))), (f, .inr (3, [.ref e1, .ref e2, .int 5, .int 0])), (e1, wI tC 0 z1)] H := hP
              have hD : va_D A [(x, .inr (5, [.ref a1, .ref a2, .ref a3, .ref a4])), (a1, wT tC 5 fs), ((qs 2), .inr (4, [.int 2, .int 1, .ref f, .int 0, .int (-1), .null, .int (-1), .null])), ((qs 3), .inr (4, [.int 3, .int 1, .ref f, .int 0, .int (-1), .null, .int (-1), .null])), ((qs 0), .inr (4, [.int 0, .int 1, .ref f, .int 0, .int (-1), .null, .int (-1), .null])), ((qs 1), .inr (4, [.int 1, .int 1, .ref f, .int 0, .int (-1), .null, .int (-1), .null])), ((qs 4), .inr (4, [.int 4, .int 1, .ref f, .int 0, .int (-1), .null, .int (-1), .null])), (a4, wS tC 5 (va_up (va_up (va_up (va_up (va_up gf 0 (some f)) 1 (some f)) 2 none) 3 none) 4 (some f))), (f, .inr (3, [.ref e1, .ref e2, .int 5, .int 0])), (e1, wI tC 0 z1)] := hD
              have q1 : r_233 = some f := hw_234.trans (by rw [hb0, hb1, hb2, hb3, hb4] <;> rfl)
              subst q1
              refine W.eq (g2 := F0 m 94 ls [.ref f]) rfl ?_
              refine lv_astore_n (lv' := [(2, .ref f), (3, .int 1), (0, .ref x), (1, .int p0)]) hx hb dX4_allowed_94 rfl hl (by decide) rfl (fun ls hl => ?_)
              refine lv_aload_n hx hb dX4_allowed_95 rfl (lv_at hl 0 rfl) ?_
              refine lv_ifnull hx hb dX4_allowed_96 ?_
              refine lv_aload_n hx hb dX4_allowed_99 rfl (lv_at hl 2 rfl) ?_
              refine va_get (D := D) (ci := 5) (v := .ref a4) (C := RX4) (T := TX4) (N := 4) hx hb hts in_X4_allowed_X4 hown hK hP 0 rfl rfl 3 (by decide) w_0 (fun _ h9 => h9) rfl dX4_allowed_100 ?_
              refine lv_aload_n hx hb dX4_allowed_103 rfl (lv_at hl 0 rfl) ?_
              have hPc := hP.sub (ws' := [(a4, wS tC 5 (va_up (va_up (va_up (va_up (va_up gf 0 (some f)) 1 (some f)) 2 none) 3 none) 4 (some f))), (f, .inr (3, [.ref e1, .ref e2, .int 5, .int 0])), (e1, wI tC 0 z1)]) [7, 8, 9] rfl
              have hDc := hD.sub (ws' := [(a4, wS tC 5 (va_up (va_up (va_up (va_up (va_up gf 0 (some f)) 1 (some f)) 2 none) 3 none) 4 (some f))), (f, .inr (3, [.ref e1, .ref e2, .int 5, .int 0])), (e1, wI tC 0 z1)]) [7, 8, 9] (by decide) rfl
              have hFc := va_free (wc := [(a4, wS tC 5 (va_up (va_up (va_up (va_up (va_up gf 0 (some f)) 1 (some f)) 2 none) 3 none) 4 (some f))), (f, .inr (3, [.ref e1, .ref e2, .int 5, .int 0])), (e1, wI tC 0 z1)]) hD hS hA [7, 8, 9] rfl
              refine va_calli (va_runS (As := [.ref a4, .ref f]) (rest := []) ⟨hx, hb, hml, hown, hts⟩ (c_X4_mayGoOn l hlt D tC dz H.size a4 (va_up (va_up (va_up (va_up (va_up gf 0 (some f)) 1 (some f)) 2 none) 3 none) 4 (some f)) (bqb p0) f e1 e2 z1 (by intro j hj; rcases (show j = 0 ∨ j = 1 ∨ j = 2 ∨ j = 3 ∨ j = 4 by omega) with rfl | rfl | rfl | rfl | rfl <;> simp [va_up, hb0, hb1, hb2, hb3, hb4])) (va_cwS 2 hts gX4_allowed_X4_mayGoOn rfl rfl rfl (by decide +kernel) ⟨Nat.le_of_ble_eq_true rfl, Nat.le_of_ble_eq_true rfl⟩) ⟨pB_blind, pB_at hPc hDc hK hN hE hS hFc⟩ rfl rfl hl.1 rfl (lv_room (Nat.le_of_ble_eq_true rfl)) dX4_allowed_104 ⟨Nat.le_of_ble_eq_true rfl, Nat.le_of_ble_eq_true rfl⟩) hS (fun q _ h => hFc q h) hFc (fun r_235 u t H1 locs ht hvm hw hB hz1 hk1 hS => ?_)
              obtain ⟨hP1, _, hD1⟩ := hB
              have hw_236 := hw
              rw [ht] at hP1
              obtain ⟨hP, hD⟩ := va_join (wr := [(x, .inr (5, [.ref a1, .ref a2, .ref a3, .ref a4])), (a1, wT tC 5 fs), ((qs 2), .inr (4, [.int 2, .int 1, .ref f, .int 0, .int (-1), .null, .int (-1), .null])), ((qs 3), .inr (4, [.int 3, .int 1, .ref f, .int 0, .int (-1), .null, .int (-1), .null])), ((qs 0), .inr (4, [.int 0, .int 1, .ref f, .int 0, .int (-1), .null, .int (-1), .null])), ((qs 1), .inr (4, [.int 1, .int 1, .ref f, .int 0, .int (-1), .null, .int (-1), .null])), ((qs 4), .inr (4, [.int 4, .int 1, .ref f, .int 0, .int (-1), .null, .int (-1), .null]))]) (w1 := [(a4, wS tC 5 (va_up (va_up (va_up (va_up (va_up gf 0 (some f)) 1 (some f)) 2 none) 3 none) 4 (some f))), (f, .inr (3, [.ref e1, .ref e2, .int 5, .int 0])), (e1, wI tC 0 z1)]) hP hD [7, 8, 9] [0, 1, 2, 3, 4, 5, 6] rfl rfl (by decide) (by decide) hk1 hFc hP1 hD1
              generalize H1 = H at hP hS ⊢
              have hP : va_P D vwCl [(x, .inr (5, [.ref a1, .ref a2, .ref a3, .ref a4])), (a1, wT tC 5 fs), ((qs 2), .inr (4, [.int 2, .int 1, .ref f, .int 0, .int (-1), .null, .int (-1), .null])), ((qs 3), .inr (4, [.int 3, .int 1, .ref f, .int 0, .int (-1), .null, .int (-1), .null])), ((qs 0), .inr (4, [.int 0, .int 1, .ref f, .int 0, .int (-1), .null, .int (-1), .null])), ((qs 1), .inr (4, [.int 1, .int 1, .ref f, .int 0, .int (-1), .null, .int (-1), .null])), ((qs 4), .inr (4, [.int 4, .int 1, .ref f, .int 0, .int (-1), .null, .int (-1), .null])), (a4, wS tC 5 (va_up (va_up (va_up (va_up (va_up gf 0 (some f)) 1 (some f)) 2 none) 3 none) 4 (some f))), (f, .inr (3, [.ref e1, .ref e2, .int 5, .int 0])), (e1, wI tC 0 z1)] H := hP
              have hD : va_D A [(x, .inr (5, [.ref a1, .ref a2, .ref a3, .ref a4])), (a1, wT tC 5 fs), ((qs 2), .inr (4, [.int 2, .int 1, .ref f, .int 0, .int (-1), .null, .int (-1), .null])), ((qs 3), .inr (4, [.int 3, .int 1, .ref f, .int 0, .int (-1), .null, .int (-1), .null])), ((qs 0), .inr (4, [.int 0, .int 1, .ref f, .int 0, .int (-1), .null, .int (-1), .null])), ((qs 1), .inr (4, [.int 1, .int 1, .ref f, .int 0, .int (-1), .null, .int (-1), .null])), ((qs 4), .inr (4, [.int 4, .int 1, .ref f, .int 0, .int (-1), .null, .int (-1), .null])), (a4, wS tC 5 (va_up (va_up (va_up (va_up (va_up gf 0 (some f)) 1 (some f)) 2 none) 3 none) 4 (some f))), (f, .inr (3, [.ref e1, .ref e2, .int 5, .int 0])), (e1, wI tC 0 z1)] := hD
              have q1 : r_235 = 1 := hw_236.trans (by unfold mayg cntb; rw [hb0, hb1, hb2, hb3, hb4] <;> decide)
              subst q1
              refine lv_if_eq (tgt := 114) hx hb dX4_allowed_107 (by decide) (fun hc => absurd hc (by decide)) (fun _ => ?_)
              refine lv_iconst (v := 1) hx hb dX4_allowed_110 (by decide) ?_
              refine lv_goto (tgt := 115) hx hb dX4_allowed_111 (by decide) ?_
              have hP9 := hP.sub (ws' := []) [] rfl
              have hD9 := hD.sub (ws' := []) [] (by decide) rfl
              refine W.widen (k := 1) (n := 6) (by omega) (by omega) ?_
              exact vx_ret (W.zret (v := 1) hx hb hr (by decide) (fun t ht hW => ⟨⟨1, (), rfl, ⟨(by unfold mayg cntb; rw [hb0, hb1, hb2, hb3, hb4] <;> decide), bl1 hw_2 c_3⟩, (by rw [ht]; exact hP9), va_K.moved hW.alike hK, hD9⟩, hS.F ht⟩) hS.2.2 dX4_allowed_115 hlocks)
          · skip
            have hb3 : bqb p0 3 = true := bqT (fun h => c_223 (ez_222.trans h))
            refine lv_iconst (v := 1) hx hb dX4_allowed_34 (by decide) ?_
            refine lv_goto (tgt := 39) hx hb dX4_allowed_35 (by decide) ?_
            refine lv_istore_n (lv' := [(3, .int 1), (2, .int 3), (0, .ref x), (1, .int p0)]) hx hb dX4_allowed_39 rfl hl (by decide) rfl (fun ls hl => ?_)
            refine lv_iload_n hx hb dX4_allowed_40 rfl (lv_at hl 0 rfl) ?_
            refine lv_if_eq (tgt := 58) hx hb dX4_allowed_41 (by decide) (fun hc => absurd hc (by decide)) (fun _ => ?_)
            refine lv_aload_n hx hb dX4_allowed_44 rfl (lv_at hl 2 rfl) ?_
            refine va_get (D := D) (ci := 5) (v := .ref a1) (C := RX4) (T := TX4) (N := 4) hx hb hts in_X4_allowed_X4 hown hK hP 0 rfl rfl 0 (by decide) w_1 (fun _ h9 => h9) rfl dX4_allowed_45 ?_
            refine lv_iload_n hx hb dX4_allowed_48 rfl (lv_at hl 1 rfl) ?_
            refine va_aldq hx hb hK hP 1 3 rfl rfl (by unfold vp_in; decide) dX4_allowed_49 ?_
            rw [show fs (3 : Int32).toNatClampNeg = some (qs 3) from (by rw [show (3 : Int32).toNatClampNeg = 3 by decide]; exact hfs 3 (by decide))]
            refine W.eq (g2 := F0 m 50 ls [.ref (qs 3)]) rfl ?_
            have hPc := hP.sub (ws' := [((qs 3), .inr (4, [.int 3, .int 1, .ref f, .int 0, .int (-1), .null, .int (-1), .null]))]) [6] rfl
            have hDc := hD.sub (ws' := [((qs 3), .inr (4, [.int 3, .int 1, .ref f, .int 0, .int (-1), .null, .int (-1), .null]))]) [6] (by decide) rfl
            have hFc := va_free (wc := [((qs 3), .inr (4, [.int 3, .int 1, .ref f, .int 0, .int (-1), .null, .int (-1), .null]))]) hD hS hA [6] rfl
            refine va_calli (va_runVN (As := []) (rest := []) ⟨hx, hb, hml, hown, hts⟩ (c_X3_isFree l hlt D tC dz H.size f (qs 3) 3 ) ⟨(va_cnB (host := "NoticeStations") 0 hts gX4_allowed_X3_isFree_n240 rfl rfl rfl (hN.1 (.methodLinkNest "NoticeStations" 240 ⟨"NoticeStations$Station", "isFree", "()Z"⟩ "NoticeStations") (by decide +kernel)) w_2 (by decide +kernel) ⟨Nat.le_of_ble_eq_true rfl, Nat.le_of_ble_eq_true rfl⟩), w_3, w_4⟩ ⟨pB_blind, va_recv hK hPc (ci := 4) (q0 := 0) rfl rfl, pB_at hPc hDc hK hN hE hS hFc⟩ rfl rfl hl.1 rfl (lv_room (Nat.le_of_ble_eq_true rfl)) dX4_allowed_50 ⟨Nat.le_of_ble_eq_true rfl, Nat.le_of_ble_eq_true rfl⟩) hS (fun q _ h => hFc q h) hFc (fun r_237 u t H1 locs ht hvm hw hB hz1 hk1 hS => ?_)
            obtain ⟨hP1, _, hD1⟩ := hB
            have hw_238 := hw
            rw [ht] at hP1
            obtain ⟨hP, hD⟩ := va_join (wr := [(x, .inr (5, [.ref a1, .ref a2, .ref a3, .ref a4])), (a1, wT tC 5 fs), (a4, wS tC 5 (va_up (va_up (va_up gf 0 (some f)) 1 (some f)) 2 none)), (f, .inr (3, [.ref e1, .ref e2, .int 5, .int 0])), (e1, wI tC 0 z1), ((qs 2), .inr (4, [.int 2, .int 1, .ref f, .int 0, .int (-1), .null, .int (-1), .null])), ((qs 4), .inr (4, [.int 4, .int 1, .ref f, .int 0, .int (-1), .null, .int (-1), .null])), ((qs 0), .inr (4, [.int 0, .int 1, .ref f, .int 0, .int (-1), .null, .int (-1), .null])), ((qs 1), .inr (4, [.int 1, .int 1, .ref f, .int 0, .int (-1), .null, .int (-1), .null]))]) (w1 := [((qs 3), .inr (4, [.int 3, .int 1, .ref f, .int 0, .int (-1), .null, .int (-1), .null]))]) hP hD [6] [0, 1, 2, 3, 4, 5, 7, 8, 9] rfl rfl (by decide) (by decide) hk1 hFc hP1 hD1
            generalize H1 = H at hP hS ⊢
            have hP : va_P D vwCl [(x, .inr (5, [.ref a1, .ref a2, .ref a3, .ref a4])), (a1, wT tC 5 fs), (a4, wS tC 5 (va_up (va_up (va_up gf 0 (some f)) 1 (some f)) 2 none)), (f, .inr (3, [.ref e1, .ref e2, .int 5, .int 0])), (e1, wI tC 0 z1), ((qs 2), .inr (4, [.int 2, .int 1, .ref f, .int 0, .int (-1), .null, .int (-1), .null])), ((qs 4), .inr (4, [.int 4, .int 1, .ref f, .int 0, .int (-1), .null, .int (-1), .null])), ((qs 0), .inr (4, [.int 0, .int 1, .ref f, .int 0, .int (-1), .null, .int (-1), .null])), ((qs 1), .inr (4, [.int 1, .int 1, .ref f, .int 0, .int (-1), .null, .int (-1), .null])), ((qs 3), .inr (4, [.int 3, .int 1, .ref f, .int 0, .int (-1), .null, .int (-1), .null]))] H := hP
            have hD : va_D A [(x, .inr (5, [.ref a1, .ref a2, .ref a3, .ref a4])), (a1, wT tC 5 fs), (a4, wS tC 5 (va_up (va_up (va_up gf 0 (some f)) 1 (some f)) 2 none)), (f, .inr (3, [.ref e1, .ref e2, .int 5, .int 0])), (e1, wI tC 0 z1), ((qs 2), .inr (4, [.int 2, .int 1, .ref f, .int 0, .int (-1), .null, .int (-1), .null])), ((qs 4), .inr (4, [.int 4, .int 1, .ref f, .int 0, .int (-1), .null, .int (-1), .null])), ((qs 0), .inr (4, [.int 0, .int 1, .ref f, .int 0, .int (-1), .null, .int (-1), .null])), ((qs 1), .inr (4, [.int 1, .int 1, .ref f, .int 0, .int (-1), .null, .int (-1), .null])), ((qs 3), .inr (4, [.int 3, .int 1, .ref f, .int 0, .int (-1), .null, .int (-1), .null]))] := hD
            subst hw_238
            refine lv_if_ne (tgt := 58) hx hb dX4_allowed_53 (by decide) (fun _ => ?_) (fun hc => absurd hc (by decide))
            refine lv_aload_n hx hb dX4_allowed_58 rfl (lv_at hl 2 rfl) ?_
            refine va_get (D := D) (ci := 5) (v := .ref a4) (C := RX4) (T := TX4) (N := 4) hx hb hts in_X4_allowed_X4 hown hK hP 0 rfl rfl 3 (by decide) w_0 (fun _ h9 => h9) rfl dX4_allowed_59 ?_
            refine lv_iload_n hx hb dX4_allowed_62 rfl (lv_at hl 1 rfl) ?_
            refine lv_iload_n hx hb dX4_allowed_63 rfl (lv_at hl 0 rfl) ?_
            refine lv_if_eq (tgt := 79) hx hb dX4_allowed_64 (by decide) (fun hc => absurd hc (by decide)) (fun _ => ?_)
            refine lv_aload_n hx hb dX4_allowed_67 rfl (lv_at hl 2 rfl) ?_
            refine va_get (D := D) (ci := 5) (v := .ref a1) (C := RX4) (T := TX4) (N := 4) hx hb hts in_X4_allowed_X4 hown hK hP 0 rfl rfl 0 (by decide) w_1 (fun _ h9 => h9) rfl dX4_allowed_68 ?_
            refine lv_iload_n hx hb dX4_allowed_71 rfl (lv_at hl 1 rfl) ?_
            refine va_aldq hx hb hK hP 1 3 rfl rfl (by unfold vp_in; decide) dX4_allowed_72 ?_
            rw [show fs (3 : Int32).toNatClampNeg = some (qs 3) from (by rw [show (3 : Int32).toNatClampNeg = 3 by decide]; exact hfs 3 (by decide))]
            refine W.eq (g2 := F0 m 73 ls [.ref (qs 3), .int 3, .ref a4]) rfl ?_
            refine va_getN (host := "NoticeStations") (D := D) (ci := 4) (v := .ref f) (C := RX3) (T := TX3) (N := 8) hx hb hts in_X4_allowed_X3 hown hK hP 9 rfl rfl 2 (by decide) (va_Nw.use rfl (hN.1 (.fieldLinkNest "NoticeStations" 61 "NoticeStations$Station" "stored" "LNoticeStations$Standing;" "NoticeStations") (by decide +kernel))) (fun _ h9 => h9) rfl dX4_allowed_73 ?_
            refine lv_goto (tgt := 80) hx hb dX4_allowed_76 (by decide) ?_
            refine va_astq hx hb hK hP hD hS 2 2 3 3 rfl rfl rfl rfl (by unfold vp_in; decide) dX4_allowed_80 (fun H locs hP hD hS => ?_)
            have hP : va_P D vwCl [(x, .inr (5, [.ref a1, .ref a2, .ref a3, .ref a4])), (a1, wT tC 5 fs), (a4, wS tC 5 (va_up (va_up (va_up (va_up gf 0 (some f)) 1 (some f)) 2 none) 3 (some f))), (f, .inr (3, [.ref e1, .ref e2, .int 5, .int 0])), (e1, wI tC 0 z1), ((qs 2), .inr (4, [.int 2, .int 1, .ref f, .int 0, .int (-1), .null, .int (-1), .null])), ((qs 4), .inr (4, [.int 4, .int 1, .ref f, .int 0, .int (-1), .null, .int (-1), .null])), ((qs 0), .inr (4, [.int 0, .int 1, .ref f, .int 0, .int (-1), .null, .int (-1), .null])), ((qs 1), .inr (4, [.int 1, .int 1, .ref f, .int 0, .int (-1), .null, .int (-1), .null])), ((qs 3), .inr (4, [.int 3, .int 1, .ref f, .int 0, .int (-1), .null, .int (-1), .null]))] H := hP
            have hD : va_D A [(x, .inr (5, [.ref a1, .ref a2, .ref a3, .ref a4])), (a1, wT tC 5 fs), (a4, wS tC 5 (va_up (va_up (va_up (va_up gf 0 (some f)) 1 (some f)) 2 none) 3 (some f))), (f, .inr (3, [.ref e1, .ref e2, .int 5, .int 0])), (e1, wI tC 0 z1), ((qs 2), .inr (4, [.int 2, .int 1, .ref f, .int 0, .int (-1), .null, .int (-1), .null])), ((qs 4), .inr (4, [.int 4, .int 1, .ref f, .int 0, .int (-1), .null, .int (-1), .null])), ((qs 0), .inr (4, [.int 0, .int 1, .ref f, .int 0, .int (-1), .null, .int (-1), .null])), ((qs 1), .inr (4, [.int 1, .int 1, .ref f, .int 0, .int (-1), .null, .int (-1), .null])), ((qs 3), .inr (4, [.int 3, .int 1, .ref f, .int 0, .int (-1), .null, .int (-1), .null]))] := hD
            refine lv_iinc (v := 4) (lv' := [(2, .int 4), (3, .int 1), (0, .ref x), (1, .int p0)]) hx hb dX4_allowed_81 hl (k := 1) rfl (by decide) (by decide) rfl (fun ls hl => ?_)
            refine lv_goto (tgt := 21) hx hb dX4_allowed_84 (by decide) ?_
            refine lv_iload_n hx hb dX4_allowed_21 rfl (lv_at hl 0 rfl) ?_
            refine lv_iconst (v := 5) hx hb dX4_allowed_22 (by decide) ?_
            refine lv_icmp_ge (tgt := 87) hx hb dX4_allowed_23 (by decide) (fun hc => absurd hc (by decide)) (fun _ => ?_)
            refine lv_iload_n hx hb dX4_allowed_26 rfl (lv_at hl 3 rfl) ?_
            refine lv_iconst (v := 1) hx hb dX4_allowed_27 (by decide) ?_
            refine lv_iload_n hx hb dX4_allowed_28 rfl (lv_at hl 0 rfl) ?_
            refine lv_ishl hx hb dX4_allowed_29 ?_
            refine lv_topi (fun z_239 ez_239 => ?_)
            have fz_239 : z_239 = 16 := ez_239.trans (by decide)
            subst fz_239
            refine lv_iand hx hb dX4_allowed_30 ?_
            refine lv_topi (fun z_240 ez_240 => ?_)
            refine lv_if_eq (tgt := 38) hx hb dX4_allowed_31 (by decide) (fun c_241 => ?_) (fun c_241 => ?_)
            · skip
              have hb4 : bqb p0 4 = false := bqF (ez_240.symm.trans c_241)
              refine lv_iconst (v := 0) hx hb dX4_allowed_38 (by decide) ?_
              refine lv_istore_n (lv' := [(3, .int 0), (2, .int 4), (0, .ref x), (1, .int p0)]) hx hb dX4_allowed_39 rfl hl (by decide) rfl (fun ls hl => ?_)
              refine lv_iload_n hx hb dX4_allowed_40 rfl (lv_at hl 0 rfl) ?_
              refine lv_if_eq (tgt := 58) hx hb dX4_allowed_41 (by decide) (fun _ => ?_) (fun hc => absurd (by decide) hc)
              refine lv_aload_n hx hb dX4_allowed_58 rfl (lv_at hl 2 rfl) ?_
              refine va_get (D := D) (ci := 5) (v := .ref a4) (C := RX4) (T := TX4) (N := 4) hx hb hts in_X4_allowed_X4 hown hK hP 0 rfl rfl 3 (by decide) w_0 (fun _ h9 => h9) rfl dX4_allowed_59 ?_
              refine lv_iload_n hx hb dX4_allowed_62 rfl (lv_at hl 1 rfl) ?_
              refine lv_iload_n hx hb dX4_allowed_63 rfl (lv_at hl 0 rfl) ?_
              refine lv_if_eq (tgt := 79) hx hb dX4_allowed_64 (by decide) (fun _ => ?_) (fun hc => absurd (by decide) hc)
              refine lv_null hx hb dX4_allowed_79 ?_
              refine va_astqN hx hb hK hP hD hS 2 2 rfl rfl (by unfold vp_in; decide) dX4_allowed_80 (fun H locs hP hD hS => ?_)
              have hP : va_P D vwCl [(x, .inr (5, [.ref a1, .ref a2, .ref a3, .ref a4])), (a1, wT tC 5 fs), (a4, wS tC 5 (va_up (va_up (va_up (va_up (va_up gf 0 (some f)) 1 (some f)) 2 none) 3 (some f)) 4 none)), (f, .inr (3, [.ref e1, .ref e2, .int 5, .int 0])), (e1, wI tC 0 z1), ((qs 2), .inr (4, [.int 2, .int 1, .ref f, .int 0, .int (-1), .null, .int (-1), .null])), ((qs 4), .inr (4, [.int 4, .int 1, .ref f, .int 0, .int (-1), .null, .int (-1), .null])), ((qs 0), .inr (4, [.int 0, .int 1, .ref f, .int 0, .int (-1), .null, .int (-1), .null])), ((qs 1), .inr (4, [.int 1, .int 1, .ref f, .int 0, .int (-1), .null, .int (-1), .null])), ((qs 3), .inr (4, [.int 3, .int 1, .ref f, .int 0, .int (-1), .null, .int (-1), .null]))] H := hP
              have hD : va_D A [(x, .inr (5, [.ref a1, .ref a2, .ref a3, .ref a4])), (a1, wT tC 5 fs), (a4, wS tC 5 (va_up (va_up (va_up (va_up (va_up gf 0 (some f)) 1 (some f)) 2 none) 3 (some f)) 4 none)), (f, .inr (3, [.ref e1, .ref e2, .int 5, .int 0])), (e1, wI tC 0 z1), ((qs 2), .inr (4, [.int 2, .int 1, .ref f, .int 0, .int (-1), .null, .int (-1), .null])), ((qs 4), .inr (4, [.int 4, .int 1, .ref f, .int 0, .int (-1), .null, .int (-1), .null])), ((qs 0), .inr (4, [.int 0, .int 1, .ref f, .int 0, .int (-1), .null, .int (-1), .null])), ((qs 1), .inr (4, [.int 1, .int 1, .ref f, .int 0, .int (-1), .null, .int (-1), .null])), ((qs 3), .inr (4, [.int 3, .int 1, .ref f, .int 0, .int (-1), .null, .int (-1), .null]))] := hD
              refine lv_iinc (v := 5) (lv' := [(2, .int 5), (3, .int 0), (0, .ref x), (1, .int p0)]) hx hb dX4_allowed_81 hl (k := 1) rfl (by decide) (by decide) rfl (fun ls hl => ?_)
              refine lv_goto (tgt := 21) hx hb dX4_allowed_84 (by decide) ?_
              refine lv_iload_n hx hb dX4_allowed_21 rfl (lv_at hl 0 rfl) ?_
              refine lv_iconst (v := 5) hx hb dX4_allowed_22 (by decide) ?_
              refine lv_icmp_ge (tgt := 87) hx hb dX4_allowed_23 (by decide) (fun _ => ?_) (fun hc => absurd (by decide) hc)
              refine lv_aload_n hx hb dX4_allowed_87 rfl (lv_at hl 2 rfl) ?_
              refine va_get (D := D) (ci := 5) (v := .ref a4) (C := RX4) (T := TX4) (N := 4) hx hb hts in_X4_allowed_X4 hown hK hP 0 rfl rfl 3 (by decide) w_0 (fun _ h9 => h9) rfl dX4_allowed_88 ?_
              have hPc := hP.sub (ws' := [(a4, wS tC 5 (va_up (va_up (va_up (va_up (va_up gf 0 (some f)) 1 (some f)) 2 none) 3 (some f)) 4 none)), (f, .inr (3, [.ref e1, .ref e2, .int 5, .int 0])), (e1, wI tC 0 z1)]) [2, 3, 4] rfl
              have hDc := hD.sub (ws' := [(a4, wS tC 5 (va_up (va_up (va_up (va_up (va_up gf 0 (some f)) 1 (some f)) 2 none) 3 (some f)) 4 none)), (f, .inr (3, [.ref e1, .ref e2, .int 5, .int 0])), (e1, wI tC 0 z1)]) [2, 3, 4] (by decide) rfl
              have hFc := va_free (wc := [(a4, wS tC 5 (va_up (va_up (va_up (va_up (va_up gf 0 (some f)) 1 (some f)) 2 none) 3 (some f)) 4 none)), (f, .inr (3, [.ref e1, .ref e2, .int 5, .int 0])), (e1, wI tC 0 z1)]) hD hS hA [2, 3, 4] rfl
              refine va_callq (va_runS (As := [.ref a4]) (rest := []) ⟨hx, hb, hml, hown, hts⟩ (c_X4_heldByHolders l hlt D tC dz H.size a4 (va_up (va_up (va_up (va_up (va_up gf 0 (some f)) 1 (some f)) 2 none) 3 (some f)) 4 none) (bqb p0) f e1 e2 z1 (by intro j hj; rcases (show j = 0 ∨ j = 1 ∨ j = 2 ∨ j = 3 ∨ j = 4 by omega) with rfl | rfl | rfl | rfl | rfl <;> simp [va_up, hb0, hb1, hb2, hb3, hb4])) (va_cwS 1 hts gX4_allowed_X4_heldByHolders rfl rfl rfl (by decide +kernel) ⟨Nat.le_of_ble_eq_true rfl, Nat.le_of_ble_eq_true rfl⟩) ⟨pB_blind, pB_at hPc hDc hK hN hE hS hFc⟩ rfl rfl hl.1 rfl (lv_room (Nat.le_of_ble_eq_true rfl)) dX4_allowed_91 ⟨Nat.le_of_ble_eq_true rfl, Nat.le_of_ble_eq_true rfl⟩) hS (fun q _ h => hFc q h) hFc (fun r_242 u t H1 locs ht hvm hw hB hz1 hk1 hS => ?_)
              obtain ⟨hP1, _, hD1⟩ := hB
              have hw_243 := hw
              rw [ht] at hP1
              obtain ⟨hP, hD⟩ := va_join (wr := [(x, .inr (5, [.ref a1, .ref a2, .ref a3, .ref a4])), (a1, wT tC 5 fs), ((qs 2), .inr (4, [.int 2, .int 1, .ref f, .int 0, .int (-1), .null, .int (-1), .null])), ((qs 4), .inr (4, [.int 4, .int 1, .ref f, .int 0, .int (-1), .null, .int (-1), .null])), ((qs 0), .inr (4, [.int 0, .int 1, .ref f, .int 0, .int (-1), .null, .int (-1), .null])), ((qs 1), .inr (4, [.int 1, .int 1, .ref f, .int 0, .int (-1), .null, .int (-1), .null])), ((qs 3), .inr (4, [.int 3, .int 1, .ref f, .int 0, .int (-1), .null, .int (-1), .null]))]) (w1 := [(a4, wS tC 5 (va_up (va_up (va_up (va_up (va_up gf 0 (some f)) 1 (some f)) 2 none) 3 (some f)) 4 none)), (f, .inr (3, [.ref e1, .ref e2, .int 5, .int 0])), (e1, wI tC 0 z1)]) hP hD [2, 3, 4] [0, 1, 5, 6, 7, 8, 9] rfl rfl (by decide) (by decide) hk1 hFc hP1 hD1
              generalize H1 = H at hP hS ⊢
              have hP : va_P D vwCl [(x, .inr (5, [.ref a1, .ref a2, .ref a3, .ref a4])), (a1, wT tC 5 fs), ((qs 2), .inr (4, [.int 2, .int 1, .ref f, .int 0, .int (-1), .null, .int (-1), .null])), ((qs 4), .inr (4, [.int 4, .int 1, .ref f, .int 0, .int (-1), .null, .int (-1), .null])), ((qs 0), .inr (4, [.int 0, .int 1, .ref f, .int 0, .int (-1), .null, .int (-1), .null])), ((qs 1), .inr (4, [.int 1, .int 1, .ref f, .int 0, .int (-1), .null, .int (-1), .null])), ((qs 3), .inr (4, [.int 3, .int 1, .ref f, .int 0, .int (-1), .null, .int (-1), .null])), (a4, wS tC 5 (va_up (va_up (va_up (va_up (va_up gf 0 (some f)) 1 (some f)) 2 none) 3 (some f)) 4 none)), (f, .inr (3, [.ref e1, .ref e2, .int 5, .int 0])), (e1, wI tC 0 z1)] H := hP
              have hD : va_D A [(x, .inr (5, [.ref a1, .ref a2, .ref a3, .ref a4])), (a1, wT tC 5 fs), ((qs 2), .inr (4, [.int 2, .int 1, .ref f, .int 0, .int (-1), .null, .int (-1), .null])), ((qs 4), .inr (4, [.int 4, .int 1, .ref f, .int 0, .int (-1), .null, .int (-1), .null])), ((qs 0), .inr (4, [.int 0, .int 1, .ref f, .int 0, .int (-1), .null, .int (-1), .null])), ((qs 1), .inr (4, [.int 1, .int 1, .ref f, .int 0, .int (-1), .null, .int (-1), .null])), ((qs 3), .inr (4, [.int 3, .int 1, .ref f, .int 0, .int (-1), .null, .int (-1), .null])), (a4, wS tC 5 (va_up (va_up (va_up (va_up (va_up gf 0 (some f)) 1 (some f)) 2 none) 3 (some f)) 4 none)), (f, .inr (3, [.ref e1, .ref e2, .int 5, .int 0])), (e1, wI tC 0 z1)] := hD
              have q1 : r_242 = some f := hw_243.trans (by rw [hb0, hb1, hb2, hb3, hb4] <;> rfl)
              subst q1
              refine W.eq (g2 := F0 m 94 ls [.ref f]) rfl ?_
              refine lv_astore_n (lv' := [(2, .ref f), (3, .int 0), (0, .ref x), (1, .int p0)]) hx hb dX4_allowed_94 rfl hl (by decide) rfl (fun ls hl => ?_)
              refine lv_aload_n hx hb dX4_allowed_95 rfl (lv_at hl 0 rfl) ?_
              refine lv_ifnull hx hb dX4_allowed_96 ?_
              refine lv_aload_n hx hb dX4_allowed_99 rfl (lv_at hl 2 rfl) ?_
              refine va_get (D := D) (ci := 5) (v := .ref a4) (C := RX4) (T := TX4) (N := 4) hx hb hts in_X4_allowed_X4 hown hK hP 0 rfl rfl 3 (by decide) w_0 (fun _ h9 => h9) rfl dX4_allowed_100 ?_
              refine lv_aload_n hx hb dX4_allowed_103 rfl (lv_at hl 0 rfl) ?_
              have hPc := hP.sub (ws' := [(a4, wS tC 5 (va_up (va_up (va_up (va_up (va_up gf 0 (some f)) 1 (some f)) 2 none) 3 (some f)) 4 none)), (f, .inr (3, [.ref e1, .ref e2, .int 5, .int 0])), (e1, wI tC 0 z1)]) [7, 8, 9] rfl
              have hDc := hD.sub (ws' := [(a4, wS tC 5 (va_up (va_up (va_up (va_up (va_up gf 0 (some f)) 1 (some f)) 2 none) 3 (some f)) 4 none)), (f, .inr (3, [.ref e1, .ref e2, .int 5, .int 0])), (e1, wI tC 0 z1)]) [7, 8, 9] (by decide) rfl
              have hFc := va_free (wc := [(a4, wS tC 5 (va_up (va_up (va_up (va_up (va_up gf 0 (some f)) 1 (some f)) 2 none) 3 (some f)) 4 none)), (f, .inr (3, [.ref e1, .ref e2, .int 5, .int 0])), (e1, wI tC 0 z1)]) hD hS hA [7, 8, 9] rfl
              refine va_calli (va_runS (As := [.ref a4, .ref f]) (rest := []) ⟨hx, hb, hml, hown, hts⟩ (c_X4_mayGoOn l hlt D tC dz H.size a4 (va_up (va_up (va_up (va_up (va_up gf 0 (some f)) 1 (some f)) 2 none) 3 (some f)) 4 none) (bqb p0) f e1 e2 z1 (by intro j hj; rcases (show j = 0 ∨ j = 1 ∨ j = 2 ∨ j = 3 ∨ j = 4 by omega) with rfl | rfl | rfl | rfl | rfl <;> simp [va_up, hb0, hb1, hb2, hb3, hb4])) (va_cwS 2 hts gX4_allowed_X4_mayGoOn rfl rfl rfl (by decide +kernel) ⟨Nat.le_of_ble_eq_true rfl, Nat.le_of_ble_eq_true rfl⟩) ⟨pB_blind, pB_at hPc hDc hK hN hE hS hFc⟩ rfl rfl hl.1 rfl (lv_room (Nat.le_of_ble_eq_true rfl)) dX4_allowed_104 ⟨Nat.le_of_ble_eq_true rfl, Nat.le_of_ble_eq_true rfl⟩) hS (fun q _ h => hFc q h) hFc (fun r_244 u t H1 locs ht hvm hw hB hz1 hk1 hS => ?_)
              obtain ⟨hP1, _, hD1⟩ := hB
              have hw_245 := hw
              rw [ht] at hP1
              obtain ⟨hP, hD⟩ := va_join (wr := [(x, .inr (5, [.ref a1, .ref a2, .ref a3, .ref a4])), (a1, wT tC 5 fs), ((qs 2), .inr (4, [.int 2, .int 1, .ref f, .int 0, .int (-1), .null, .int (-1), .null])), ((qs 4), .inr (4, [.int 4, .int 1, .ref f, .int 0, .int (-1), .null, .int (-1), .null])), ((qs 0), .inr (4, [.int 0, .int 1, .ref f, .int 0, .int (-1), .null, .int (-1), .null])), ((qs 1), .inr (4, [.int 1, .int 1, .ref f, .int 0, .int (-1), .null, .int (-1), .null])), ((qs 3), .inr (4, [.int 3, .int 1, .ref f, .int 0, .int (-1), .null, .int (-1), .null]))]) (w1 := [(a4, wS tC 5 (va_up (va_up (va_up (va_up (va_up gf 0 (some f)) 1 (some f)) 2 none) 3 (some f)) 4 none)), (f, .inr (3, [.ref e1, .ref e2, .int 5, .int 0])), (e1, wI tC 0 z1)]) hP hD [7, 8, 9] [0, 1, 2, 3, 4, 5, 6] rfl rfl (by decide) (by decide) hk1 hFc hP1 hD1
              generalize H1 = H at hP hS ⊢
              have hP : va_P D vwCl [(x, .inr (5, [.ref a1, .ref a2, .ref a3, .ref a4])), (a1, wT tC 5 fs), ((qs 2), .inr (4, [.int 2, .int 1, .ref f, .int 0, .int (-1), .null, .int (-1), .null])), ((qs 4), .inr (4, [.int 4, .int 1, .ref f, .int 0, .int (-1), .null, .int (-1), .null])), ((qs 0), .inr (4, [.int 0, .int 1, .ref f, .int 0, .int (-1), .null, .int (-1), .null])), ((qs 1), .inr (4, [.int 1, .int 1, .ref f, .int 0, .int (-1), .null, .int (-1), .null])), ((qs 3), .inr (4, [.int 3, .int 1, .ref f, .int 0, .int (-1), .null, .int (-1), .null])), (a4, wS tC 5 (va_up (va_up (va_up (va_up (va_up gf 0 (some f)) 1 (some f)) 2 none) 3 (some f)) 4 none)), (f, .inr (3, [.ref e1, .ref e2, .int 5, .int 0])), (e1, wI tC 0 z1)] H := hP
              have hD : va_D A [(x, .inr (5, [.ref a1, .ref a2, .ref a3, .ref a4])), (a1, wT tC 5 fs), ((qs 2), .inr (4, [.int 2, .int 1, .ref f, .int 0, .int (-1), .null, .int (-1), .null])), ((qs 4), .inr (4, [.int 4, .int 1, .ref f, .int 0, .int (-1), .null, .int (-1), .null])), ((qs 0), .inr (4, [.int 0, .int 1, .ref f, .int 0, .int (-1), .null, .int (-1), .null])), ((qs 1), .inr (4, [.int 1, .int 1, .ref f, .int 0, .int (-1), .null, .int (-1), .null])), ((qs 3), .inr (4, [.int 3, .int 1, .ref f, .int 0, .int (-1), .null, .int (-1), .null])), (a4, wS tC 5 (va_up (va_up (va_up (va_up (va_up gf 0 (some f)) 1 (some f)) 2 none) 3 (some f)) 4 none)), (f, .inr (3, [.ref e1, .ref e2, .int 5, .int 0])), (e1, wI tC 0 z1)] := hD
              have q1 : r_244 = 1 := hw_245.trans (by unfold mayg cntb; rw [hb0, hb1, hb2, hb3, hb4] <;> decide)
              subst q1
              refine lv_if_eq (tgt := 114) hx hb dX4_allowed_107 (by decide) (fun hc => absurd hc (by decide)) (fun _ => ?_)
              refine lv_iconst (v := 1) hx hb dX4_allowed_110 (by decide) ?_
              refine lv_goto (tgt := 115) hx hb dX4_allowed_111 (by decide) ?_
              have hP9 := hP.sub (ws' := []) [] rfl
              have hD9 := hD.sub (ws' := []) [] (by decide) rfl
              refine W.widen (k := 1) (n := 6) (by omega) (by omega) ?_
              exact vx_ret (W.zret (v := 1) hx hb hr (by decide) (fun t ht hW => ⟨⟨1, (), rfl, ⟨(by unfold mayg cntb; rw [hb0, hb1, hb2, hb3, hb4] <;> decide), bl1 hw_2 c_3⟩, (by rw [ht]; exact hP9), va_K.moved hW.alike hK, hD9⟩, hS.F ht⟩) hS.2.2 dX4_allowed_115 hlocks)
            · skip
              have hb4 : bqb p0 4 = true := bqT (fun h => c_241 (ez_240.trans h))
              refine lv_iconst (v := 1) hx hb dX4_allowed_34 (by decide) ?_
              refine lv_goto (tgt := 39) hx hb dX4_allowed_35 (by decide) ?_
              refine lv_istore_n (lv' := [(3, .int 1), (2, .int 4), (0, .ref x), (1, .int p0)]) hx hb dX4_allowed_39 rfl hl (by decide) rfl (fun ls hl => ?_)
              refine lv_iload_n hx hb dX4_allowed_40 rfl (lv_at hl 0 rfl) ?_
              refine lv_if_eq (tgt := 58) hx hb dX4_allowed_41 (by decide) (fun hc => absurd hc (by decide)) (fun _ => ?_)
              refine lv_aload_n hx hb dX4_allowed_44 rfl (lv_at hl 2 rfl) ?_
              refine va_get (D := D) (ci := 5) (v := .ref a1) (C := RX4) (T := TX4) (N := 4) hx hb hts in_X4_allowed_X4 hown hK hP 0 rfl rfl 0 (by decide) w_1 (fun _ h9 => h9) rfl dX4_allowed_45 ?_
              refine lv_iload_n hx hb dX4_allowed_48 rfl (lv_at hl 1 rfl) ?_
              refine va_aldq hx hb hK hP 1 3 rfl rfl (by unfold vp_in; decide) dX4_allowed_49 ?_
              rw [show fs (4 : Int32).toNatClampNeg = some (qs 4) from (by rw [show (4 : Int32).toNatClampNeg = 4 by decide]; exact hfs 4 (by decide))]
              refine W.eq (g2 := F0 m 50 ls [.ref (qs 4)]) rfl ?_
              have hPc := hP.sub (ws' := [((qs 4), .inr (4, [.int 4, .int 1, .ref f, .int 0, .int (-1), .null, .int (-1), .null]))]) [6] rfl
              have hDc := hD.sub (ws' := [((qs 4), .inr (4, [.int 4, .int 1, .ref f, .int 0, .int (-1), .null, .int (-1), .null]))]) [6] (by decide) rfl
              have hFc := va_free (wc := [((qs 4), .inr (4, [.int 4, .int 1, .ref f, .int 0, .int (-1), .null, .int (-1), .null]))]) hD hS hA [6] rfl
              refine va_calli (va_runVN (As := []) (rest := []) ⟨hx, hb, hml, hown, hts⟩ (c_X3_isFree l hlt D tC dz H.size f (qs 4) 4 ) ⟨(va_cnB (host := "NoticeStations") 0 hts gX4_allowed_X3_isFree_n240 rfl rfl rfl (hN.1 (.methodLinkNest "NoticeStations" 240 ⟨"NoticeStations$Station", "isFree", "()Z"⟩ "NoticeStations") (by decide +kernel)) w_2 (by decide +kernel) ⟨Nat.le_of_ble_eq_true rfl, Nat.le_of_ble_eq_true rfl⟩), w_3, w_4⟩ ⟨pB_blind, va_recv hK hPc (ci := 4) (q0 := 0) rfl rfl, pB_at hPc hDc hK hN hE hS hFc⟩ rfl rfl hl.1 rfl (lv_room (Nat.le_of_ble_eq_true rfl)) dX4_allowed_50 ⟨Nat.le_of_ble_eq_true rfl, Nat.le_of_ble_eq_true rfl⟩) hS (fun q _ h => hFc q h) hFc (fun r_246 u t H1 locs ht hvm hw hB hz1 hk1 hS => ?_)
              obtain ⟨hP1, _, hD1⟩ := hB
              have hw_247 := hw
              rw [ht] at hP1
              obtain ⟨hP, hD⟩ := va_join (wr := [(x, .inr (5, [.ref a1, .ref a2, .ref a3, .ref a4])), (a1, wT tC 5 fs), (a4, wS tC 5 (va_up (va_up (va_up (va_up gf 0 (some f)) 1 (some f)) 2 none) 3 (some f))), (f, .inr (3, [.ref e1, .ref e2, .int 5, .int 0])), (e1, wI tC 0 z1), ((qs 2), .inr (4, [.int 2, .int 1, .ref f, .int 0, .int (-1), .null, .int (-1), .null])), ((qs 0), .inr (4, [.int 0, .int 1, .ref f, .int 0, .int (-1), .null, .int (-1), .null])), ((qs 1), .inr (4, [.int 1, .int 1, .ref f, .int 0, .int (-1), .null, .int (-1), .null])), ((qs 3), .inr (4, [.int 3, .int 1, .ref f, .int 0, .int (-1), .null, .int (-1), .null]))]) (w1 := [((qs 4), .inr (4, [.int 4, .int 1, .ref f, .int 0, .int (-1), .null, .int (-1), .null]))]) hP hD [6] [0, 1, 2, 3, 4, 5, 7, 8, 9] rfl rfl (by decide) (by decide) hk1 hFc hP1 hD1
              generalize H1 = H at hP hS ⊢
              have hP : va_P D vwCl [(x, .inr (5, [.ref a1, .ref a2, .ref a3, .ref a4])), (a1, wT tC 5 fs), (a4, wS tC 5 (va_up (va_up (va_up (va_up gf 0 (some f)) 1 (some f)) 2 none) 3 (some f))), (f, .inr (3, [.ref e1, .ref e2, .int 5, .int 0])), (e1, wI tC 0 z1), ((qs 2), .inr (4, [.int 2, .int 1, .ref f, .int 0, .int (-1), .null, .int (-1), .null])), ((qs 0), .inr (4, [.int 0, .int 1, .ref f, .int 0, .int (-1), .null, .int (-1), .null])), ((qs 1), .inr (4, [.int 1, .int 1, .ref f, .int 0, .int (-1), .null, .int (-1), .null])), ((qs 3), .inr (4, [.int 3, .int 1, .ref f, .int 0, .int (-1), .null, .int (-1), .null])), ((qs 4), .inr (4, [.int 4, .int 1, .ref f, .int 0, .int (-1), .null, .int (-1), .null]))] H := hP
              have hD : va_D A [(x, .inr (5, [.ref a1, .ref a2, .ref a3, .ref a4])), (a1, wT tC 5 fs), (a4, wS tC 5 (va_up (va_up (va_up (va_up gf 0 (some f)) 1 (some f)) 2 none) 3 (some f))), (f, .inr (3, [.ref e1, .ref e2, .int 5, .int 0])), (e1, wI tC 0 z1), ((qs 2), .inr (4, [.int 2, .int 1, .ref f, .int 0, .int (-1), .null, .int (-1), .null])), ((qs 0), .inr (4, [.int 0, .int 1, .ref f, .int 0, .int (-1), .null, .int (-1), .null])), ((qs 1), .inr (4, [.int 1, .int 1, .ref f, .int 0, .int (-1), .null, .int (-1), .null])), ((qs 3), .inr (4, [.int 3, .int 1, .ref f, .int 0, .int (-1), .null, .int (-1), .null])), ((qs 4), .inr (4, [.int 4, .int 1, .ref f, .int 0, .int (-1), .null, .int (-1), .null]))] := hD
              subst hw_247
              refine lv_if_ne (tgt := 58) hx hb dX4_allowed_53 (by decide) (fun _ => ?_) (fun hc => absurd hc (by decide))
              refine lv_aload_n hx hb dX4_allowed_58 rfl (lv_at hl 2 rfl) ?_
              refine va_get (D := D) (ci := 5) (v := .ref a4) (C := RX4) (T := TX4) (N := 4) hx hb hts in_X4_allowed_X4 hown hK hP 0 rfl rfl 3 (by decide) w_0 (fun _ h9 => h9) rfl dX4_allowed_59 ?_
              refine lv_iload_n hx hb dX4_allowed_62 rfl (lv_at hl 1 rfl) ?_
              refine lv_iload_n hx hb dX4_allowed_63 rfl (lv_at hl 0 rfl) ?_
              refine lv_if_eq (tgt := 79) hx hb dX4_allowed_64 (by decide) (fun hc => absurd hc (by decide)) (fun _ => ?_)
              refine lv_aload_n hx hb dX4_allowed_67 rfl (lv_at hl 2 rfl) ?_
              refine va_get (D := D) (ci := 5) (v := .ref a1) (C := RX4) (T := TX4) (N := 4) hx hb hts in_X4_allowed_X4 hown hK hP 0 rfl rfl 0 (by decide) w_1 (fun _ h9 => h9) rfl dX4_allowed_68 ?_
              refine lv_iload_n hx hb dX4_allowed_71 rfl (lv_at hl 1 rfl) ?_
              refine va_aldq hx hb hK hP 1 3 rfl rfl (by unfold vp_in; decide) dX4_allowed_72 ?_
              rw [show fs (4 : Int32).toNatClampNeg = some (qs 4) from (by rw [show (4 : Int32).toNatClampNeg = 4 by decide]; exact hfs 4 (by decide))]
              refine W.eq (g2 := F0 m 73 ls [.ref (qs 4), .int 4, .ref a4]) rfl ?_
              refine va_getN (host := "NoticeStations") (D := D) (ci := 4) (v := .ref f) (C := RX3) (T := TX3) (N := 8) hx hb hts in_X4_allowed_X3 hown hK hP 9 rfl rfl 2 (by decide) (va_Nw.use rfl (hN.1 (.fieldLinkNest "NoticeStations" 61 "NoticeStations$Station" "stored" "LNoticeStations$Standing;" "NoticeStations") (by decide +kernel))) (fun _ h9 => h9) rfl dX4_allowed_73 ?_
              refine lv_goto (tgt := 80) hx hb dX4_allowed_76 (by decide) ?_
              refine va_astq hx hb hK hP hD hS 2 2 3 3 rfl rfl rfl rfl (by unfold vp_in; decide) dX4_allowed_80 (fun H locs hP hD hS => ?_)
              have hP : va_P D vwCl [(x, .inr (5, [.ref a1, .ref a2, .ref a3, .ref a4])), (a1, wT tC 5 fs), (a4, wS tC 5 (va_up (va_up (va_up (va_up (va_up gf 0 (some f)) 1 (some f)) 2 none) 3 (some f)) 4 (some f))), (f, .inr (3, [.ref e1, .ref e2, .int 5, .int 0])), (e1, wI tC 0 z1), ((qs 2), .inr (4, [.int 2, .int 1, .ref f, .int 0, .int (-1), .null, .int (-1), .null])), ((qs 0), .inr (4, [.int 0, .int 1, .ref f, .int 0, .int (-1), .null, .int (-1), .null])), ((qs 1), .inr (4, [.int 1, .int 1, .ref f, .int 0, .int (-1), .null, .int (-1), .null])), ((qs 3), .inr (4, [.int 3, .int 1, .ref f, .int 0, .int (-1), .null, .int (-1), .null])), ((qs 4), .inr (4, [.int 4, .int 1, .ref f, .int 0, .int (-1), .null, .int (-1), .null]))] H := hP
              have hD : va_D A [(x, .inr (5, [.ref a1, .ref a2, .ref a3, .ref a4])), (a1, wT tC 5 fs), (a4, wS tC 5 (va_up (va_up (va_up (va_up (va_up gf 0 (some f)) 1 (some f)) 2 none) 3 (some f)) 4 (some f))), (f, .inr (3, [.ref e1, .ref e2, .int 5, .int 0])), (e1, wI tC 0 z1), ((qs 2), .inr (4, [.int 2, .int 1, .ref f, .int 0, .int (-1), .null, .int (-1), .null])), ((qs 0), .inr (4, [.int 0, .int 1, .ref f, .int 0, .int (-1), .null, .int (-1), .null])), ((qs 1), .inr (4, [.int 1, .int 1, .ref f, .int 0, .int (-1), .null, .int (-1), .null])), ((qs 3), .inr (4, [.int 3, .int 1, .ref f, .int 0, .int (-1), .null, .int (-1), .null])), ((qs 4), .inr (4, [.int 4, .int 1, .ref f, .int 0, .int (-1), .null, .int (-1), .null]))] := hD
              refine lv_iinc (v := 5) (lv' := [(2, .int 5), (3, .int 1), (0, .ref x), (1, .int p0)]) hx hb dX4_allowed_81 hl (k := 1) rfl (by decide) (by decide) rfl (fun ls hl => ?_)
              refine lv_goto (tgt := 21) hx hb dX4_allowed_84 (by decide) ?_
              refine lv_iload_n hx hb dX4_allowed_21 rfl (lv_at hl 0 rfl) ?_
              refine lv_iconst (v := 5) hx hb dX4_allowed_22 (by decide) ?_
              refine lv_icmp_ge (tgt := 87) hx hb dX4_allowed_23 (by decide) (fun _ => ?_) (fun hc => absurd (by decide) hc)
              refine lv_aload_n hx hb dX4_allowed_87 rfl (lv_at hl 2 rfl) ?_
              refine va_get (D := D) (ci := 5) (v := .ref a4) (C := RX4) (T := TX4) (N := 4) hx hb hts in_X4_allowed_X4 hown hK hP 0 rfl rfl 3 (by decide) w_0 (fun _ h9 => h9) rfl dX4_allowed_88 ?_
              have hPc := hP.sub (ws' := [(a4, wS tC 5 (va_up (va_up (va_up (va_up (va_up gf 0 (some f)) 1 (some f)) 2 none) 3 (some f)) 4 (some f))), (f, .inr (3, [.ref e1, .ref e2, .int 5, .int 0])), (e1, wI tC 0 z1)]) [2, 3, 4] rfl
              have hDc := hD.sub (ws' := [(a4, wS tC 5 (va_up (va_up (va_up (va_up (va_up gf 0 (some f)) 1 (some f)) 2 none) 3 (some f)) 4 (some f))), (f, .inr (3, [.ref e1, .ref e2, .int 5, .int 0])), (e1, wI tC 0 z1)]) [2, 3, 4] (by decide) rfl
              have hFc := va_free (wc := [(a4, wS tC 5 (va_up (va_up (va_up (va_up (va_up gf 0 (some f)) 1 (some f)) 2 none) 3 (some f)) 4 (some f))), (f, .inr (3, [.ref e1, .ref e2, .int 5, .int 0])), (e1, wI tC 0 z1)]) hD hS hA [2, 3, 4] rfl
              refine va_callq (va_runS (As := [.ref a4]) (rest := []) ⟨hx, hb, hml, hown, hts⟩ (c_X4_heldByHolders l hlt D tC dz H.size a4 (va_up (va_up (va_up (va_up (va_up gf 0 (some f)) 1 (some f)) 2 none) 3 (some f)) 4 (some f)) (bqb p0) f e1 e2 z1 (by intro j hj; rcases (show j = 0 ∨ j = 1 ∨ j = 2 ∨ j = 3 ∨ j = 4 by omega) with rfl | rfl | rfl | rfl | rfl <;> simp [va_up, hb0, hb1, hb2, hb3, hb4])) (va_cwS 1 hts gX4_allowed_X4_heldByHolders rfl rfl rfl (by decide +kernel) ⟨Nat.le_of_ble_eq_true rfl, Nat.le_of_ble_eq_true rfl⟩) ⟨pB_blind, pB_at hPc hDc hK hN hE hS hFc⟩ rfl rfl hl.1 rfl (lv_room (Nat.le_of_ble_eq_true rfl)) dX4_allowed_91 ⟨Nat.le_of_ble_eq_true rfl, Nat.le_of_ble_eq_true rfl⟩) hS (fun q _ h => hFc q h) hFc (fun r_248 u t H1 locs ht hvm hw hB hz1 hk1 hS => ?_)
              obtain ⟨hP1, _, hD1⟩ := hB
              have hw_249 := hw
              rw [ht] at hP1
              obtain ⟨hP, hD⟩ := va_join (wr := [(x, .inr (5, [.ref a1, .ref a2, .ref a3, .ref a4])), (a1, wT tC 5 fs), ((qs 2), .inr (4, [.int 2, .int 1, .ref f, .int 0, .int (-1), .null, .int (-1), .null])), ((qs 0), .inr (4, [.int 0, .int 1, .ref f, .int 0, .int (-1), .null, .int (-1), .null])), ((qs 1), .inr (4, [.int 1, .int 1, .ref f, .int 0, .int (-1), .null, .int (-1), .null])), ((qs 3), .inr (4, [.int 3, .int 1, .ref f, .int 0, .int (-1), .null, .int (-1), .null])), ((qs 4), .inr (4, [.int 4, .int 1, .ref f, .int 0, .int (-1), .null, .int (-1), .null]))]) (w1 := [(a4, wS tC 5 (va_up (va_up (va_up (va_up (va_up gf 0 (some f)) 1 (some f)) 2 none) 3 (some f)) 4 (some f))), (f, .inr (3, [.ref e1, .ref e2, .int 5, .int 0])), (e1, wI tC 0 z1)]) hP hD [2, 3, 4] [0, 1, 5, 6, 7, 8, 9] rfl rfl (by decide) (by decide) hk1 hFc hP1 hD1
              generalize H1 = H at hP hS ⊢
              have hP : va_P D vwCl [(x, .inr (5, [.ref a1, .ref a2, .ref a3, .ref a4])), (a1, wT tC 5 fs), ((qs 2), .inr (4, [.int 2, .int 1, .ref f, .int 0, .int (-1), .null, .int (-1), .null])), ((qs 0), .inr (4, [.int 0, .int 1, .ref f, .int 0, .int (-1), .null, .int (-1), .null])), ((qs 1), .inr (4, [.int 1, .int 1, .ref f, .int 0, .int (-1), .null, .int (-1), .null])), ((qs 3), .inr (4, [.int 3, .int 1, .ref f, .int 0, .int (-1), .null, .int (-1), .null])), ((qs 4), .inr (4, [.int 4, .int 1, .ref f, .int 0, .int (-1), .null, .int (-1), .null])), (a4, wS tC 5 (va_up (va_up (va_up (va_up (va_up gf 0 (some f)) 1 (some f)) 2 none) 3 (some f)) 4 (some f))), (f, .inr (3, [.ref e1, .ref e2, .int 5, .int 0])), (e1, wI tC 0 z1)] H := hP
              have hD : va_D A [(x, .inr (5, [.ref a1, .ref a2, .ref a3, .ref a4])), (a1, wT tC 5 fs), ((qs 2), .inr (4, [.int 2, .int 1, .ref f, .int 0, .int (-1), .null, .int (-1), .null])), ((qs 0), .inr (4, [.int 0, .int 1, .ref f, .int 0, .int (-1), .null, .int (-1), .null])), ((qs 1), .inr (4, [.int 1, .int 1, .ref f, .int 0, .int (-1), .null, .int (-1), .null])), ((qs 3), .inr (4, [.int 3, .int 1, .ref f, .int 0, .int (-1), .null, .int (-1), .null])), ((qs 4), .inr (4, [.int 4, .int 1, .ref f, .int 0, .int (-1), .null, .int (-1), .null])), (a4, wS tC 5 (va_up (va_up (va_up (va_up (va_up gf 0 (some f)) 1 (some f)) 2 none) 3 (some f)) 4 (some f))), (f, .inr (3, [.ref e1, .ref e2, .int 5, .int 0])), (e1, wI tC 0 z1)] := hD
              have q1 : r_248 = some f := hw_249.trans (by rw [hb0, hb1, hb2, hb3, hb4] <;> rfl)
              subst q1
              refine W.eq (g2 := F0 m 94 ls [.ref f]) rfl ?_
              refine lv_astore_n (lv' := [(2, .ref f), (3, .int 1), (0, .ref x), (1, .int p0)]) hx hb dX4_allowed_94 rfl hl (by decide) rfl (fun ls hl => ?_)
              refine lv_aload_n hx hb dX4_allowed_95 rfl (lv_at hl 0 rfl) ?_
              refine lv_ifnull hx hb dX4_allowed_96 ?_
              refine lv_aload_n hx hb dX4_allowed_99 rfl (lv_at hl 2 rfl) ?_
              refine va_get (D := D) (ci := 5) (v := .ref a4) (C := RX4) (T := TX4) (N := 4) hx hb hts in_X4_allowed_X4 hown hK hP 0 rfl rfl 3 (by decide) w_0 (fun _ h9 => h9) rfl dX4_allowed_100 ?_
              refine lv_aload_n hx hb dX4_allowed_103 rfl (lv_at hl 0 rfl) ?_
              have hPc := hP.sub (ws' := [(a4, wS tC 5 (va_up (va_up (va_up (va_up (va_up gf 0 (some f)) 1 (some f)) 2 none) 3 (some f)) 4 (some f))), (f, .inr (3, [.ref e1, .ref e2, .int 5, .int 0])), (e1, wI tC 0 z1)]) [7, 8, 9] rfl
              have hDc := hD.sub (ws' := [(a4, wS tC 5 (va_up (va_up (va_up (va_up (va_up gf 0 (some f)) 1 (some f)) 2 none) 3 (some f)) 4 (some f))), (f, .inr (3, [.ref e1, .ref e2, .int 5, .int 0])), (e1, wI tC 0 z1)]) [7, 8, 9] (by decide) rfl
              have hFc := va_free (wc := [(a4, wS tC 5 (va_up (va_up (va_up (va_up (va_up gf 0 (some f)) 1 (some f)) 2 none) 3 (some f)) 4 (some f))), (f, .inr (3, [.ref e1, .ref e2, .int 5, .int 0])), (e1, wI tC 0 z1)]) hD hS hA [7, 8, 9] rfl
              refine va_calli (va_runS (As := [.ref a4, .ref f]) (rest := []) ⟨hx, hb, hml, hown, hts⟩ (c_X4_mayGoOn l hlt D tC dz H.size a4 (va_up (va_up (va_up (va_up (va_up gf 0 (some f)) 1 (some f)) 2 none) 3 (some f)) 4 (some f)) (bqb p0) f e1 e2 z1 (by intro j hj; rcases (show j = 0 ∨ j = 1 ∨ j = 2 ∨ j = 3 ∨ j = 4 by omega) with rfl | rfl | rfl | rfl | rfl <;> simp [va_up, hb0, hb1, hb2, hb3, hb4])) (va_cwS 2 hts gX4_allowed_X4_mayGoOn rfl rfl rfl (by decide +kernel) ⟨Nat.le_of_ble_eq_true rfl, Nat.le_of_ble_eq_true rfl⟩) ⟨pB_blind, pB_at hPc hDc hK hN hE hS hFc⟩ rfl rfl hl.1 rfl (lv_room (Nat.le_of_ble_eq_true rfl)) dX4_allowed_104 ⟨Nat.le_of_ble_eq_true rfl, Nat.le_of_ble_eq_true rfl⟩) hS (fun q _ h => hFc q h) hFc (fun r_250 u t H1 locs ht hvm hw hB hz1 hk1 hS => ?_)
              obtain ⟨hP1, _, hD1⟩ := hB
              have hw_251 := hw
              rw [ht] at hP1
              obtain ⟨hP, hD⟩ := va_join (wr := [(x, .inr (5, [.ref a1, .ref a2, .ref a3, .ref a4])), (a1, wT tC 5 fs), ((qs 2), .inr (4, [.int 2, .int 1, .ref f, .int 0, .int (-1), .null, .int (-1), .null])), ((qs 0), .inr (4, [.int 0, .int 1, .ref f, .int 0, .int (-1), .null, .int (-1), .null])), ((qs 1), .inr (4, [.int 1, .int 1, .ref f, .int 0, .int (-1), .null, .int (-1), .null])), ((qs 3), .inr (4, [.int 3, .int 1, .ref f, .int 0, .int (-1), .null, .int (-1), .null])), ((qs 4), .inr (4, [.int 4, .int 1, .ref f, .int 0, .int (-1), .null, .int (-1), .null]))]) (w1 := [(a4, wS tC 5 (va_up (va_up (va_up (va_up (va_up gf 0 (some f)) 1 (some f)) 2 none) 3 (some f)) 4 (some f))), (f, .inr (3, [.ref e1, .ref e2, .int 5, .int 0])), (e1, wI tC 0 z1)]) hP hD [7, 8, 9] [0, 1, 2, 3, 4, 5, 6] rfl rfl (by decide) (by decide) hk1 hFc hP1 hD1
              generalize H1 = H at hP hS ⊢
              have hP : va_P D vwCl [(x, .inr (5, [.ref a1, .ref a2, .ref a3, .ref a4])), (a1, wT tC 5 fs), ((qs 2), .inr (4, [.int 2, .int 1, .ref f, .int 0, .int (-1), .null, .int (-1), .null])), ((qs 0), .inr (4, [.int 0, .int 1, .ref f, .int 0, .int (-1), .null, .int (-1), .null])), ((qs 1), .inr (4, [.int 1, .int 1, .ref f, .int 0, .int (-1), .null, .int (-1), .null])), ((qs 3), .inr (4, [.int 3, .int 1, .ref f, .int 0, .int (-1), .null, .int (-1), .null])), ((qs 4), .inr (4, [.int 4, .int 1, .ref f, .int 0, .int (-1), .null, .int (-1), .null])), (a4, wS tC 5 (va_up (va_up (va_up (va_up (va_up gf 0 (some f)) 1 (some f)) 2 none) 3 (some f)) 4 (some f))), (f, .inr (3, [.ref e1, .ref e2, .int 5, .int 0])), (e1, wI tC 0 z1)] H := hP
              have hD : va_D A [(x, .inr (5, [.ref a1, .ref a2, .ref a3, .ref a4])), (a1, wT tC 5 fs), ((qs 2), .inr (4, [.int 2, .int 1, .ref f, .int 0, .int (-1), .null, .int (-1), .null])), ((qs 0), .inr (4, [.int 0, .int 1, .ref f, .int 0, .int (-1), .null, .int (-1), .null])), ((qs 1), .inr (4, [.int 1, .int 1, .ref f, .int 0, .int (-1), .null, .int (-1), .null])), ((qs 3), .inr (4, [.int 3, .int 1, .ref f, .int 0, .int (-1), .null, .int (-1), .null])), ((qs 4), .inr (4, [.int 4, .int 1, .ref f, .int 0, .int (-1), .null, .int (-1), .null])), (a4, wS tC 5 (va_up (va_up (va_up (va_up (va_up gf 0 (some f)) 1 (some f)) 2 none) 3 (some f)) 4 (some f))), (f, .inr (3, [.ref e1, .ref e2, .int 5, .int 0])), (e1, wI tC 0 z1)] := hD
              have q1 : r_250 = 1 := hw_251.trans (by unfold mayg cntb; rw [hb0, hb1, hb2, hb3, hb4] <;> decide)
              subst q1
              refine lv_if_eq (tgt := 114) hx hb dX4_allowed_107 (by decide) (fun hc => absurd hc (by decide)) (fun _ => ?_)
              refine lv_iconst (v := 1) hx hb dX4_allowed_110 (by decide) ?_
              refine lv_goto (tgt := 115) hx hb dX4_allowed_111 (by decide) ?_
              have hP9 := hP.sub (ws' := []) [] rfl
              have hD9 := hD.sub (ws' := []) [] (by decide) rfl
              refine W.widen (k := 1) (n := 6) (by omega) (by omega) ?_
              exact vx_ret (W.zret (v := 1) hx hb hr (by decide) (fun t ht hW => ⟨⟨1, (), rfl, ⟨(by unfold mayg cntb; rw [hb0, hb1, hb2, hb3, hb4] <;> decide), bl1 hw_2 c_3⟩, (by rw [ht]; exact hP9), va_K.moved hW.alike hK, hD9⟩, hS.F ht⟩) hS.2.2 dX4_allowed_115 hlocks)
        · skip
          have hb2 : bqb p0 2 = true := bqT (fun h => c_220 (ez_219.trans h))
          refine lv_iconst (v := 1) hx hb dX4_allowed_34 (by decide) ?_
          refine lv_goto (tgt := 39) hx hb dX4_allowed_35 (by decide) ?_
          refine lv_istore_n (lv' := [(3, .int 1), (2, .int 2), (0, .ref x), (1, .int p0)]) hx hb dX4_allowed_39 rfl hl (by decide) rfl (fun ls hl => ?_)
          refine lv_iload_n hx hb dX4_allowed_40 rfl (lv_at hl 0 rfl) ?_
          refine lv_if_eq (tgt := 58) hx hb dX4_allowed_41 (by decide) (fun hc => absurd hc (by decide)) (fun _ => ?_)
          refine lv_aload_n hx hb dX4_allowed_44 rfl (lv_at hl 2 rfl) ?_
          refine va_get (D := D) (ci := 5) (v := .ref a1) (C := RX4) (T := TX4) (N := 4) hx hb hts in_X4_allowed_X4 hown hK hP 0 rfl rfl 0 (by decide) w_1 (fun _ h9 => h9) rfl dX4_allowed_45 ?_
          refine lv_iload_n hx hb dX4_allowed_48 rfl (lv_at hl 1 rfl) ?_
          refine va_aldq hx hb hK hP 1 3 rfl rfl (by unfold vp_in; decide) dX4_allowed_49 ?_
          rw [show fs (2 : Int32).toNatClampNeg = some (qs 2) from (by rw [show (2 : Int32).toNatClampNeg = 2 by decide]; exact hfs 2 (by decide))]
          refine W.eq (g2 := F0 m 50 ls [.ref (qs 2)]) rfl ?_
          have hPc := hP.sub (ws' := [((qs 2), .inr (4, [.int 2, .int 1, .ref f, .int 0, .int (-1), .null, .int (-1), .null]))]) [5] rfl
          have hDc := hD.sub (ws' := [((qs 2), .inr (4, [.int 2, .int 1, .ref f, .int 0, .int (-1), .null, .int (-1), .null]))]) [5] (by decide) rfl
          have hFc := va_free (wc := [((qs 2), .inr (4, [.int 2, .int 1, .ref f, .int 0, .int (-1), .null, .int (-1), .null]))]) hD hS hA [5] rfl
          refine va_calli (va_runVN (As := []) (rest := []) ⟨hx, hb, hml, hown, hts⟩ (c_X3_isFree l hlt D tC dz H.size f (qs 2) 2 ) ⟨(va_cnB (host := "NoticeStations") 0 hts gX4_allowed_X3_isFree_n240 rfl rfl rfl (hN.1 (.methodLinkNest "NoticeStations" 240 ⟨"NoticeStations$Station", "isFree", "()Z"⟩ "NoticeStations") (by decide +kernel)) w_2 (by decide +kernel) ⟨Nat.le_of_ble_eq_true rfl, Nat.le_of_ble_eq_true rfl⟩), w_3, w_4⟩ ⟨pB_blind, va_recv hK hPc (ci := 4) (q0 := 0) rfl rfl, pB_at hPc hDc hK hN hE hS hFc⟩ rfl rfl hl.1 rfl (lv_room (Nat.le_of_ble_eq_true rfl)) dX4_allowed_50 ⟨Nat.le_of_ble_eq_true rfl, Nat.le_of_ble_eq_true rfl⟩) hS (fun q _ h => hFc q h) hFc (fun r_252 u t H1 locs ht hvm hw hB hz1 hk1 hS => ?_)
          obtain ⟨hP1, _, hD1⟩ := hB
          have hw_253 := hw
          rw [ht] at hP1
          obtain ⟨hP, hD⟩ := va_join (wr := [(x, .inr (5, [.ref a1, .ref a2, .ref a3, .ref a4])), (a1, wT tC 5 fs), (a4, wS tC 5 (va_up (va_up gf 0 (some f)) 1 (some f))), (f, .inr (3, [.ref e1, .ref e2, .int 5, .int 0])), (e1, wI tC 0 z1), ((qs 3), .inr (4, [.int 3, .int 1, .ref f, .int 0, .int (-1), .null, .int (-1), .null])), ((qs 4), .inr (4, [.int 4, .int 1, .ref f, .int 0, .int (-1), .null, .int (-1), .null])), ((qs 0), .inr (4, [.int 0, .int 1, .ref f, .int 0, .int (-1), .null, .int (-1), .null])), ((qs 1), .inr (4, [.int 1, .int 1, .ref f, .int 0, .int (-1), .null, .int (-1), .null]))]) (w1 := [((qs 2), .inr (4, [.int 2, .int 1, .ref f, .int 0, .int (-1), .null, .int (-1), .null]))]) hP hD [5] [0, 1, 2, 3, 4, 6, 7, 8, 9] rfl rfl (by decide) (by decide) hk1 hFc hP1 hD1
          generalize H1 = H at hP hS ⊢
          have hP : va_P D vwCl [(x, .inr (5, [.ref a1, .ref a2, .ref a3, .ref a4])), (a1, wT tC 5 fs), (a4, wS tC 5 (va_up (va_up gf 0 (some f)) 1 (some f))), (f, .inr (3, [.ref e1, .ref e2, .int 5, .int 0])), (e1, wI tC 0 z1), ((qs 3), .inr (4, [.int 3, .int 1, .ref f, .int 0, .int (-1), .null, .int (-1), .null])), ((qs 4), .inr (4, [.int 4, .int 1, .ref f, .int 0, .int (-1), .null, .int (-1), .null])), ((qs 0), .inr (4, [.int 0, .int 1, .ref f, .int 0, .int (-1), .null, .int (-1), .null])), ((qs 1), .inr (4, [.int 1, .int 1, .ref f, .int 0, .int (-1), .null, .int (-1), .null])), ((qs 2), .inr (4, [.int 2, .int 1, .ref f, .int 0, .int (-1), .null, .int (-1), .null]))] H := hP
          have hD : va_D A [(x, .inr (5, [.ref a1, .ref a2, .ref a3, .ref a4])), (a1, wT tC 5 fs), (a4, wS tC 5 (va_up (va_up gf 0 (some f)) 1 (some f))), (f, .inr (3, [.ref e1, .ref e2, .int 5, .int 0])), (e1, wI tC 0 z1), ((qs 3), .inr (4, [.int 3, .int 1, .ref f, .int 0, .int (-1), .null, .int (-1), .null])), ((qs 4), .inr (4, [.int 4, .int 1, .ref f, .int 0, .int (-1), .null, .int (-1), .null])), ((qs 0), .inr (4, [.int 0, .int 1, .ref f, .int 0, .int (-1), .null, .int (-1), .null])), ((qs 1), .inr (4, [.int 1, .int 1, .ref f, .int 0, .int (-1), .null, .int (-1), .null])), ((qs 2), .inr (4, [.int 2, .int 1, .ref f, .int 0, .int (-1), .null, .int (-1), .null]))] := hD
          subst hw_253
          refine lv_if_ne (tgt := 58) hx hb dX4_allowed_53 (by decide) (fun _ => ?_) (fun hc => absurd hc (by decide))
          refine lv_aload_n hx hb dX4_allowed_58 rfl (lv_at hl 2 rfl) ?_
          refine va_get (D := D) (ci := 5) (v := .ref a4) (C := RX4) (T := TX4) (N := 4) hx hb hts in_X4_allowed_X4 hown hK hP 0 rfl rfl 3 (by decide) w_0 (fun _ h9 => h9) rfl dX4_allowed_59 ?_
          refine lv_iload_n hx hb dX4_allowed_62 rfl (lv_at hl 1 rfl) ?_
          refine lv_iload_n hx hb dX4_allowed_63 rfl (lv_at hl 0 rfl) ?_
          refine lv_if_eq (tgt := 79) hx hb dX4_allowed_64 (by decide) (fun hc => absurd hc (by decide)) (fun _ => ?_)
          refine lv_aload_n hx hb dX4_allowed_67 rfl (lv_at hl 2 rfl) ?_
          refine va_get (D := D) (ci := 5) (v := .ref a1) (C := RX4) (T := TX4) (N := 4) hx hb hts in_X4_allowed_X4 hown hK hP 0 rfl rfl 0 (by decide) w_1 (fun _ h9 => h9) rfl dX4_allowed_68 ?_
          refine lv_iload_n hx hb dX4_allowed_71 rfl (lv_at hl 1 rfl) ?_
          refine va_aldq hx hb hK hP 1 3 rfl rfl (by unfold vp_in; decide) dX4_allowed_72 ?_
          rw [show fs (2 : Int32).toNatClampNeg = some (qs 2) from (by rw [show (2 : Int32).toNatClampNeg = 2 by decide]; exact hfs 2 (by decide))]
          refine W.eq (g2 := F0 m 73 ls [.ref (qs 2), .int 2, .ref a4]) rfl ?_
          refine va_getN (host := "NoticeStations") (D := D) (ci := 4) (v := .ref f) (C := RX3) (T := TX3) (N := 8) hx hb hts in_X4_allowed_X3 hown hK hP 9 rfl rfl 2 (by decide) (va_Nw.use rfl (hN.1 (.fieldLinkNest "NoticeStations" 61 "NoticeStations$Station" "stored" "LNoticeStations$Standing;" "NoticeStations") (by decide +kernel))) (fun _ h9 => h9) rfl dX4_allowed_73 ?_
          refine lv_goto (tgt := 80) hx hb dX4_allowed_76 (by decide) ?_
          refine va_astq hx hb hK hP hD hS 2 2 3 3 rfl rfl rfl rfl (by unfold vp_in; decide) dX4_allowed_80 (fun H locs hP hD hS => ?_)
          have hP : va_P D vwCl [(x, .inr (5, [.ref a1, .ref a2, .ref a3, .ref a4])), (a1, wT tC 5 fs), (a4, wS tC 5 (va_up (va_up (va_up gf 0 (some f)) 1 (some f)) 2 (some f))), (f, .inr (3, [.ref e1, .ref e2, .int 5, .int 0])), (e1, wI tC 0 z1), ((qs 3), .inr (4, [.int 3, .int 1, .ref f, .int 0, .int (-1), .null, .int (-1), .null])), ((qs 4), .inr (4, [.int 4, .int 1, .ref f, .int 0, .int (-1), .null, .int (-1), .null])), ((qs 0), .inr (4, [.int 0, .int 1, .ref f, .int 0, .int (-1), .null, .int (-1), .null])), ((qs 1), .inr (4, [.int 1, .int 1, .ref f, .int 0, .int (-1), .null, .int (-1), .null])), ((qs 2), .inr (4, [.int 2, .int 1, .ref f, .int 0, .int (-1), .null, .int (-1), .null]))] H := hP
          have hD : va_D A [(x, .inr (5, [.ref a1, .ref a2, .ref a3, .ref a4])), (a1, wT tC 5 fs), (a4, wS tC 5 (va_up (va_up (va_up gf 0 (some f)) 1 (some f)) 2 (some f))), (f, .inr (3, [.ref e1, .ref e2, .int 5, .int 0])), (e1, wI tC 0 z1), ((qs 3), .inr (4, [.int 3, .int 1, .ref f, .int 0, .int (-1), .null, .int (-1), .null])), ((qs 4), .inr (4, [.int 4, .int 1, .ref f, .int 0, .int (-1), .null, .int (-1), .null])), ((qs 0), .inr (4, [.int 0, .int 1, .ref f, .int 0, .int (-1), .null, .int (-1), .null])), ((qs 1), .inr (4, [.int 1, .int 1, .ref f, .int 0, .int (-1), .null, .int (-1), .null])), ((qs 2), .inr (4, [.int 2, .int 1, .ref f, .int 0, .int (-1), .null, .int (-1), .null]))] := hD
          refine lv_iinc (v := 3) (lv' := [(2, .int 3), (3, .int 1), (0, .ref x), (1, .int p0)]) hx hb dX4_allowed_81 hl (k := 1) rfl (by decide) (by decide) rfl (fun ls hl => ?_)
          refine lv_goto (tgt := 21) hx hb dX4_allowed_84 (by decide) ?_
          refine lv_iload_n hx hb dX4_allowed_21 rfl (lv_at hl 0 rfl) ?_
          refine lv_iconst (v := 5) hx hb dX4_allowed_22 (by decide) ?_
          refine lv_icmp_ge (tgt := 87) hx hb dX4_allowed_23 (by decide) (fun hc => absurd hc (by decide)) (fun _ => ?_)
          refine lv_iload_n hx hb dX4_allowed_26 rfl (lv_at hl 3 rfl) ?_
          refine lv_iconst (v := 1) hx hb dX4_allowed_27 (by decide) ?_
          refine lv_iload_n hx hb dX4_allowed_28 rfl (lv_at hl 0 rfl) ?_
          refine lv_ishl hx hb dX4_allowed_29 ?_
          refine lv_topi (fun z_254 ez_254 => ?_)
          have fz_254 : z_254 = 8 := ez_254.trans (by decide)
          subst fz_254
          refine lv_iand hx hb dX4_allowed_30 ?_
          refine lv_topi (fun z_255 ez_255 => ?_)
          refine lv_if_eq (tgt := 38) hx hb dX4_allowed_31 (by decide) (fun c_256 => ?_) (fun c_256 => ?_)
          · skip
            have hb3 : bqb p0 3 = false := bqF (ez_255.symm.trans c_256)
            refine lv_iconst (v := 0) hx hb dX4_allowed_38 (by decide) ?_
            refine lv_istore_n (lv' := [(3, .int 0), (2, .int 3), (0, .ref x), (1, .int p0)]) hx hb dX4_allowed_39 rfl hl (by decide) rfl (fun ls hl => ?_)
            refine lv_iload_n hx hb dX4_allowed_40 rfl (lv_at hl 0 rfl) ?_
            refine lv_if_eq (tgt := 58) hx hb dX4_allowed_41 (by decide) (fun _ => ?_) (fun hc => absurd (by decide) hc)
            refine lv_aload_n hx hb dX4_allowed_58 rfl (lv_at hl 2 rfl) ?_
            refine va_get (D := D) (ci := 5) (v := .ref a4) (C := RX4) (T := TX4) (N := 4) hx hb hts in_X4_allowed_X4 hown hK hP 0 rfl rfl 3 (by decide) w_0 (fun _ h9 => h9) rfl dX4_allowed_59 ?_
            refine lv_iload_n hx hb dX4_allowed_62 rfl (lv_at hl 1 rfl) ?_
            refine lv_iload_n hx hb dX4_allowed_63 rfl (lv_at hl 0 rfl) ?_
            refine lv_if_eq (tgt := 79) hx hb dX4_allowed_64 (by decide) (fun _ => ?_) (fun hc => absurd (by decide) hc)
            refine lv_null hx hb dX4_allowed_79 ?_
            refine va_astqN hx hb hK hP hD hS 2 2 rfl rfl (by unfold vp_in; decide) dX4_allowed_80 (fun H locs hP hD hS => ?_)
            have hP : va_P D vwCl [(x, .inr (5, [.ref a1, .ref a2, .ref a3, .ref a4])), (a1, wT tC 5 fs), (a4, wS tC 5 (va_up (va_up (va_up (va_up gf 0 (some f)) 1 (some f)) 2 (some f)) 3 none)), (f, .inr (3, [.ref e1, .ref e2, .int 5, .int 0])), (e1, wI tC 0 z1), ((qs 3), .inr (4, [.int 3, .int 1, .ref f, .int 0, .int (-1), .null, .int (-1), .null])), ((qs 4), .inr (4, [.int 4, .int 1, .ref f, .int 0, .int (-1), .null, .int (-1), .null])), ((qs 0), .inr (4, [.int 0, .int 1, .ref f, .int 0, .int (-1), .null, .int (-1), .null])), ((qs 1), .inr (4, [.int 1, .int 1, .ref f, .int 0, .int (-1), .null, .int (-1), .null])), ((qs 2), .inr (4, [.int 2, .int 1, .ref f, .int 0, .int (-1), .null, .int (-1), .null]))] H := hP
            have hD : va_D A [(x, .inr (5, [.ref a1, .ref a2, .ref a3, .ref a4])), (a1, wT tC 5 fs), (a4, wS tC 5 (va_up (va_up (va_up (va_up gf 0 (some f)) 1 (some f)) 2 (some f)) 3 none)), (f, .inr (3, [.ref e1, .ref e2, .int 5, .int 0])), (e1, wI tC 0 z1), ((qs 3), .inr (4, [.int 3, .int 1, .ref f, .int 0, .int (-1), .null, .int (-1), .null])), ((qs 4), .inr (4, [.int 4, .int 1, .ref f, .int 0, .int (-1), .null, .int (-1), .null])), ((qs 0), .inr (4, [.int 0, .int 1, .ref f, .int 0, .int (-1), .null, .int (-1), .null])), ((qs 1), .inr (4, [.int 1, .int 1, .ref f, .int 0, .int (-1), .null, .int (-1), .null])), ((qs 2), .inr (4, [.int 2, .int 1, .ref f, .int 0, .int (-1), .null, .int (-1), .null]))] := hD
            refine lv_iinc (v := 4) (lv' := [(2, .int 4), (3, .int 0), (0, .ref x), (1, .int p0)]) hx hb dX4_allowed_81 hl (k := 1) rfl (by decide) (by decide) rfl (fun ls hl => ?_)
            refine lv_goto (tgt := 21) hx hb dX4_allowed_84 (by decide) ?_
            refine lv_iload_n hx hb dX4_allowed_21 rfl (lv_at hl 0 rfl) ?_
            refine lv_iconst (v := 5) hx hb dX4_allowed_22 (by decide) ?_
            refine lv_icmp_ge (tgt := 87) hx hb dX4_allowed_23 (by decide) (fun hc => absurd hc (by decide)) (fun _ => ?_)
            refine lv_iload_n hx hb dX4_allowed_26 rfl (lv_at hl 3 rfl) ?_
            refine lv_iconst (v := 1) hx hb dX4_allowed_27 (by decide) ?_
            refine lv_iload_n hx hb dX4_allowed_28 rfl (lv_at hl 0 rfl) ?_
            refine lv_ishl hx hb dX4_allowed_29 ?_
            refine lv_topi (fun z_257 ez_257 => ?_)
            have fz_257 : z_257 = 16 := ez_257.trans (by decide)
            subst fz_257
            refine lv_iand hx hb dX4_allowed_30 ?_
            refine lv_topi (fun z_258 ez_258 => ?_)
            refine lv_if_eq (tgt := 38) hx hb dX4_allowed_31 (by decide) (fun c_259 => ?_) (fun c_259 => ?_)
            · skip
              have hb4 : bqb p0 4 = false := bqF (ez_258.symm.trans c_259)
              refine lv_iconst (v := 0) hx hb dX4_allowed_38 (by decide) ?_
              refine lv_istore_n (lv' := [(3, .int 0), (2, .int 4), (0, .ref x), (1, .int p0)]) hx hb dX4_allowed_39 rfl hl (by decide) rfl (fun ls hl => ?_)
              refine lv_iload_n hx hb dX4_allowed_40 rfl (lv_at hl 0 rfl) ?_
              refine lv_if_eq (tgt := 58) hx hb dX4_allowed_41 (by decide) (fun _ => ?_) (fun hc => absurd (by decide) hc)
              refine lv_aload_n hx hb dX4_allowed_58 rfl (lv_at hl 2 rfl) ?_
              refine va_get (D := D) (ci := 5) (v := .ref a4) (C := RX4) (T := TX4) (N := 4) hx hb hts in_X4_allowed_X4 hown hK hP 0 rfl rfl 3 (by decide) w_0 (fun _ h9 => h9) rfl dX4_allowed_59 ?_
              refine lv_iload_n hx hb dX4_allowed_62 rfl (lv_at hl 1 rfl) ?_
              refine lv_iload_n hx hb dX4_allowed_63 rfl (lv_at hl 0 rfl) ?_
              refine lv_if_eq (tgt := 79) hx hb dX4_allowed_64 (by decide) (fun _ => ?_) (fun hc => absurd (by decide) hc)
              refine lv_null hx hb dX4_allowed_79 ?_
              refine va_astqN hx hb hK hP hD hS 2 2 rfl rfl (by unfold vp_in; decide) dX4_allowed_80 (fun H locs hP hD hS => ?_)
              have hP : va_P D vwCl [(x, .inr (5, [.ref a1, .ref a2, .ref a3, .ref a4])), (a1, wT tC 5 fs), (a4, wS tC 5 (va_up (va_up (va_up (va_up (va_up gf 0 (some f)) 1 (some f)) 2 (some f)) 3 none) 4 none)), (f, .inr (3, [.ref e1, .ref e2, .int 5, .int 0])), (e1, wI tC 0 z1), ((qs 3), .inr (4, [.int 3, .int 1, .ref f, .int 0, .int (-1), .null, .int (-1), .null])), ((qs 4), .inr (4, [.int 4, .int 1, .ref f, .int 0, .int (-1), .null, .int (-1), .null])), ((qs 0), .inr (4, [.int 0, .int 1, .ref f, .int 0, .int (-1), .null, .int (-1), .null])), ((qs 1), .inr (4, [.int 1, .int 1, .ref f, .int 0, .int (-1), .null, .int (-1), .null])), ((qs 2), .inr (4, [.int 2, .int 1, .ref f, .int 0, .int (-1), .null, .int (-1), .null]))] H := hP
              have hD : va_D A [(x, .inr (5, [.ref a1, .ref a2, .ref a3, .ref a4])), (a1, wT tC 5 fs), (a4, wS tC 5 (va_up (va_up (va_up (va_up (va_up gf 0 (some f)) 1 (some f)) 2 (some f)) 3 none) 4 none)), (f, .inr (3, [.ref e1, .ref e2, .int 5, .int 0])), (e1, wI tC 0 z1), ((qs 3), .inr (4, [.int 3, .int 1, .ref f, .int 0, .int (-1), .null, .int (-1), .null])), ((qs 4), .inr (4, [.int 4, .int 1, .ref f, .int 0, .int (-1), .null, .int (-1), .null])), ((qs 0), .inr (4, [.int 0, .int 1, .ref f, .int 0, .int (-1), .null, .int (-1), .null])), ((qs 1), .inr (4, [.int 1, .int 1, .ref f, .int 0, .int (-1), .null, .int (-1), .null])), ((qs 2), .inr (4, [.int 2, .int 1, .ref f, .int 0, .int (-1), .null, .int (-1), .null]))] := hD
              refine lv_iinc (v := 5) (lv' := [(2, .int 5), (3, .int 0), (0, .ref x), (1, .int p0)]) hx hb dX4_allowed_81 hl (k := 1) rfl (by decide) (by decide) rfl (fun ls hl => ?_)
              refine lv_goto (tgt := 21) hx hb dX4_allowed_84 (by decide) ?_
              refine lv_iload_n hx hb dX4_allowed_21 rfl (lv_at hl 0 rfl) ?_
              refine lv_iconst (v := 5) hx hb dX4_allowed_22 (by decide) ?_
              refine lv_icmp_ge (tgt := 87) hx hb dX4_allowed_23 (by decide) (fun _ => ?_) (fun hc => absurd (by decide) hc)
              refine lv_aload_n hx hb dX4_allowed_87 rfl (lv_at hl 2 rfl) ?_
              refine va_get (D := D) (ci := 5) (v := .ref a4) (C := RX4) (T := TX4) (N := 4) hx hb hts in_X4_allowed_X4 hown hK hP 0 rfl rfl 3 (by decide) w_0 (fun _ h9 => h9) rfl dX4_allowed_88 ?_
              have hPc := hP.sub (ws' := [(a4, wS tC 5 (va_up (va_up (va_up (va_up (va_up gf 0 (some f)) 1 (some f)) 2 (some f)) 3 none) 4 none)), (f, .inr (3, [.ref e1, .ref e2, .int 5, .int 0])), (e1, wI tC 0 z1)]) [2, 3, 4] rfl
              have hDc := hD.sub (ws' := [(a4, wS tC 5 (va_up (va_up (va_up (va_up (va_up gf 0 (some f)) 1 (some f)) 2 (some f)) 3 none) 4 none)), (f, .inr (3, [.ref e1, .ref e2, .int 5, .int 0])), (e1, wI tC 0 z1)]) [2, 3, 4] (by decide) rfl
              have hFc := va_free (wc := [(a4, wS tC 5 (va_up (va_up (va_up (va_up (va_up gf 0 (some f)) 1 (some f)) 2 (some f)) 3 none) 4 none)), (f, .inr (3, [.ref e1, .ref e2, .int 5, .int 0])), (e1, wI tC 0 z1)]) hD hS hA [2, 3, 4] rfl
              refine va_callq (va_runS (As := [.ref a4]) (rest := []) ⟨hx, hb, hml, hown, hts⟩ (c_X4_heldByHolders l hlt D tC dz H.size a4 (va_up (va_up (va_up (va_up (va_up gf 0 (some f)) 1 (some f)) 2 (some f)) 3 none) 4 none) (bqb p0) f e1 e2 z1 (by intro j hj; rcases (show j = 0 ∨ j = 1 ∨ j = 2 ∨ j = 3 ∨ j = 4 by omega) with rfl | rfl | rfl | rfl | rfl <;> simp [va_up, hb0, hb1, hb2, hb3, hb4])) (va_cwS 1 hts gX4_allowed_X4_heldByHolders rfl rfl rfl (by decide +kernel) ⟨Nat.le_of_ble_eq_true rfl, Nat.le_of_ble_eq_true rfl⟩) ⟨pB_blind, pB_at hPc hDc hK hN hE hS hFc⟩ rfl rfl hl.1 rfl (lv_room (Nat.le_of_ble_eq_true rfl)) dX4_allowed_91 ⟨Nat.le_of_ble_eq_true rfl, Nat.le_of_ble_eq_true rfl⟩) hS (fun q _ h => hFc q h) hFc (fun r_260 u t H1 locs ht hvm hw hB hz1 hk1 hS => ?_)
              obtain ⟨hP1, _, hD1⟩ := hB
              have hw_261 := hw
              rw [ht] at hP1
              obtain ⟨hP, hD⟩ := va_join (wr := [(x, .inr (5, [.ref a1, .ref a2, .ref a3, .ref a4])), (a1, wT tC 5 fs), ((qs 3), .inr (4, [.int 3, .int 1, .ref f, .int 0, .int (-1), .null, .int (-1), .null])), ((qs 4), .inr (4, [.int 4, .int 1, .ref f, .int 0, .int (-1), .null, .int (-1), .null])), ((qs 0), .inr (4, [.int 0, .int 1, .ref f, .int 0, .int (-1), .null, .int (-1), .null])), ((qs 1), .inr (4, [.int 1, .int 1, .ref f, .int 0, .int (-1), .null, .int (-1), .null])), ((qs 2), .inr (4, [.int 2, .int 1, .ref f, .int 0, .int (-1), .null, .int (-1), .null]))]) (w1 := [(a4, wS tC 5 (va_up (va_up (va_up (va_up (va_up gf 0 (some f)) 1 (some f)) 2 (some f)) 3 none) 4 none)), (f, .inr (3, [.ref e1, .ref e2, .int 5, .int 0])), (e1, wI tC 0 z1)]) hP hD [2, 3, 4] [0, 1, 5, 6, 7, 8, 9] rfl rfl (by decide) (by decide) hk1 hFc hP1 hD1
              generalize H1 = H at hP hS ⊢
              have hP : va_P D vwCl [(x, .inr (5, [.ref a1, .ref a2, .ref a3, .ref a4])), (a1, wT tC 5 fs), ((qs 3), .inr (4, [.int 3, .int 1, .ref f, .int 0, .int (-1), .null, .int (-1), .null])), ((qs 4), .inr (4, [.int 4, .int 1, .ref f, .int 0, .int (-1), .null, .int (-1), .null])), ((qs 0), .inr (4, [.int 0, .int 1, .ref f, .int 0, .int (-1), .null, .int (-1), .null])), ((qs 1), .inr (4, [.int 1, .int 1, .ref f, .int 0, .int (-1), .null, .int (-1), .null])), ((qs 2), .inr (4, [.int 2, .int 1, .ref f, .int 0, .int (-1), .null, .int (-1), .null])), (a4, wS tC 5 (va_up (va_up (va_up (va_up (va_up gf 0 (some f)) 1 (some f)) 2 (some f)) 3 none) 4 none)), (f, .inr (3, [.ref e1, .ref e2, .int 5, .int 0])), (e1, wI tC 0 z1)] H := hP
              have hD : va_D A [(x, .inr (5, [.ref a1, .ref a2, .ref a3, .ref a4])), (a1, wT tC 5 fs), ((qs 3), .inr (4, [.int 3, .int 1, .ref f, .int 0, .int (-1), .null, .int (-1), .null])), ((qs 4), .inr (4, [.int 4, .int 1, .ref f, .int 0, .int (-1), .null, .int (-1), .null])), ((qs 0), .inr (4, [.int 0, .int 1, .ref f, .int 0, .int (-1), .null, .int (-1), .null])), ((qs 1), .inr (4, [.int 1, .int 1, .ref f, .int 0, .int (-1), .null, .int (-1), .null])), ((qs 2), .inr (4, [.int 2, .int 1, .ref f, .int 0, .int (-1), .null, .int (-1), .null])), (a4, wS tC 5 (va_up (va_up (va_up (va_up (va_up gf 0 (some f)) 1 (some f)) 2 (some f)) 3 none) 4 none)), (f, .inr (3, [.ref e1, .ref e2, .int 5, .int 0])), (e1, wI tC 0 z1)] := hD
              have q1 : r_260 = some f := hw_261.trans (by rw [hb0, hb1, hb2, hb3, hb4] <;> rfl)
              subst q1
              refine W.eq (g2 := F0 m 94 ls [.ref f]) rfl ?_
              refine lv_astore_n (lv' := [(2, .ref f), (3, .int 0), (0, .ref x), (1, .int p0)]) hx hb dX4_allowed_94 rfl hl (by decide) rfl (fun ls hl => ?_)
              refine lv_aload_n hx hb dX4_allowed_95 rfl (lv_at hl 0 rfl) ?_
              refine lv_ifnull hx hb dX4_allowed_96 ?_
              refine lv_aload_n hx hb dX4_allowed_99 rfl (lv_at hl 2 rfl) ?_
              refine va_get (D := D) (ci := 5) (v := .ref a4) (C := RX4) (T := TX4) (N := 4) hx hb hts in_X4_allowed_X4 hown hK hP 0 rfl rfl 3 (by decide) w_0 (fun _ h9 => h9) rfl dX4_allowed_100 ?_
              refine lv_aload_n hx hb dX4_allowed_103 rfl (lv_at hl 0 rfl) ?_
              have hPc := hP.sub (ws' := [(a4, wS tC 5 (va_up (va_up (va_up (va_up (va_up gf 0 (some f)) 1 (some f)) 2 (some f)) 3 none) 4 none)), (f, .inr (3, [.ref e1, .ref e2, .int 5, .int 0])), (e1, wI tC 0 z1)]) [7, 8, 9] rfl
              have hDc := hD.sub (ws' := [(a4, wS tC 5 (va_up (va_up (va_up (va_up (va_up gf 0 (some f)) 1 (some f)) 2 (some f)) 3 none) 4 none)), (f, .inr (3, [.ref e1, .ref e2, .int 5, .int 0])), (e1, wI tC 0 z1)]) [7, 8, 9] (by decide) rfl
              have hFc := va_free (wc := [(a4, wS tC 5 (va_up (va_up (va_up (va_up (va_up gf 0 (some f)) 1 (some f)) 2 (some f)) 3 none) 4 none)), (f, .inr (3, [.ref e1, .ref e2, .int 5, .int 0])), (e1, wI tC 0 z1)]) hD hS hA [7, 8, 9] rfl
              refine va_calli (va_runS (As := [.ref a4, .ref f]) (rest := []) ⟨hx, hb, hml, hown, hts⟩ (c_X4_mayGoOn l hlt D tC dz H.size a4 (va_up (va_up (va_up (va_up (va_up gf 0 (some f)) 1 (some f)) 2 (some f)) 3 none) 4 none) (bqb p0) f e1 e2 z1 (by intro j hj; rcases (show j = 0 ∨ j = 1 ∨ j = 2 ∨ j = 3 ∨ j = 4 by omega) with rfl | rfl | rfl | rfl | rfl <;> simp [va_up, hb0, hb1, hb2, hb3, hb4])) (va_cwS 2 hts gX4_allowed_X4_mayGoOn rfl rfl rfl (by decide +kernel) ⟨Nat.le_of_ble_eq_true rfl, Nat.le_of_ble_eq_true rfl⟩) ⟨pB_blind, pB_at hPc hDc hK hN hE hS hFc⟩ rfl rfl hl.1 rfl (lv_room (Nat.le_of_ble_eq_true rfl)) dX4_allowed_104 ⟨Nat.le_of_ble_eq_true rfl, Nat.le_of_ble_eq_true rfl⟩) hS (fun q _ h => hFc q h) hFc (fun r_262 u t H1 locs ht hvm hw hB hz1 hk1 hS => ?_)
              obtain ⟨hP1, _, hD1⟩ := hB
              have hw_263 := hw
              rw [ht] at hP1
              obtain ⟨hP, hD⟩ := va_join (wr := [(x, .inr (5, [.ref a1, .ref a2, .ref a3, .ref a4])), (a1, wT tC 5 fs), ((qs 3), .inr (4, [.int 3, .int 1, .ref f, .int 0, .int (-1), .null, .int (-1), .null])), ((qs 4), .inr (4, [.int 4, .int 1, .ref f, .int 0, .int (-1), .null, .int (-1), .null])), ((qs 0), .inr (4, [.int 0, .int 1, .ref f, .int 0, .int (-1), .null, .int (-1), .null])), ((qs 1), .inr (4, [.int 1, .int 1, .ref f, .int 0, .int (-1), .null, .int (-1), .null])), ((qs 2), .inr (4, [.int 2, .int 1, .ref f, .int 0, .int (-1), .null, .int (-1), .null]))]) (w1 := [(a4, wS tC 5 (va_up (va_up (va_up (va_up (va_up gf 0 (some f)) 1 (some f)) 2 (some f)) 3 none) 4 none)), (f, .inr (3, [.ref e1, .ref e2, .int 5, .int 0])), (e1, wI tC 0 z1)]) hP hD [7, 8, 9] [0, 1, 2, 3, 4, 5, 6] rfl rfl (by decide) (by decide) hk1 hFc hP1 hD1
              generalize H1 = H at hP hS ⊢
              have hP : va_P D vwCl [(x, .inr (5, [.ref a1, .ref a2, .ref a3, .ref a4])), (a1, wT tC 5 fs), ((qs 3), .inr (4, [.int 3, .int 1, .ref f, .int 0, .int (-1), .null, .int (-1), .null])), ((qs 4), .inr (4, [.int 4, .int 1, .ref f, .int 0, .int (-1), .null, .int (-1), .null])), ((qs 0), .inr (4, [.int 0, .int 1, .ref f, .int 0, .int (-1), .null, .int (-1), .null])), ((qs 1), .inr (4, [.int 1, .int 1, .ref f, .int 0, .int (-1), .null, .int (-1), .null])), ((qs 2), .inr (4, [.int 2, .int 1, .ref f, .int 0, .int (-1), .null, .int (-1), .null])), (a4, wS tC 5 (va_up (va_up (va_up (va_up (va_up gf 0 (some f)) 1 (some f)) 2 (some f)) 3 none) 4 none)), (f, .inr (3, [.ref e1, .ref e2, .int 5, .int 0])), (e1, wI tC 0 z1)] H := hP
              have hD : va_D A [(x, .inr (5, [.ref a1, .ref a2, .ref a3, .ref a4])), (a1, wT tC 5 fs), ((qs 3), .inr (4, [.int 3, .int 1, .ref f, .int 0, .int (-1), .null, .int (-1), .null])), ((qs 4), .inr (4, [.int 4, .int 1, .ref f, .int 0, .int (-1), .null, .int (-1), .null])), ((qs 0), .inr (4, [.int 0, .int 1, .ref f, .int 0, .int (-1), .null, .int (-1), .null])), ((qs 1), .inr (4, [.int 1, .int 1, .ref f, .int 0, .int (-1), .null, .int (-1), .null])), ((qs 2), .inr (4, [.int 2, .int 1, .ref f, .int 0, .int (-1), .null, .int (-1), .null])), (a4, wS tC 5 (va_up (va_up (va_up (va_up (va_up gf 0 (some f)) 1 (some f)) 2 (some f)) 3 none) 4 none)), (f, .inr (3, [.ref e1, .ref e2, .int 5, .int 0])), (e1, wI tC 0 z1)] := hD
              have q1 : r_262 = 1 := hw_263.trans (by unfold mayg cntb; rw [hb0, hb1, hb2, hb3, hb4] <;> decide)
              subst q1
              refine lv_if_eq (tgt := 114) hx hb dX4_allowed_107 (by decide) (fun hc => absurd hc (by decide)) (fun _ => ?_)
              refine lv_iconst (v := 1) hx hb dX4_allowed_110 (by decide) ?_
              refine lv_goto (tgt := 115) hx hb dX4_allowed_111 (by decide) ?_
              have hP9 := hP.sub (ws' := []) [] rfl
              have hD9 := hD.sub (ws' := []) [] (by decide) rfl
              refine W.widen (k := 1) (n := 6) (by omega) (by omega) ?_
              exact vx_ret (W.zret (v := 1) hx hb hr (by decide) (fun t ht hW => ⟨⟨1, (), rfl, ⟨(by unfold mayg cntb; rw [hb0, hb1, hb2, hb3, hb4] <;> decide), bl1 hw_2 c_3⟩, (by rw [ht]; exact hP9), va_K.moved hW.alike hK, hD9⟩, hS.F ht⟩) hS.2.2 dX4_allowed_115 hlocks)
            · skip
              have hb4 : bqb p0 4 = true := bqT (fun h => c_259 (ez_258.trans h))
              refine lv_iconst (v := 1) hx hb dX4_allowed_34 (by decide) ?_
              refine lv_goto (tgt := 39) hx hb dX4_allowed_35 (by decide) ?_
              refine lv_istore_n (lv' := [(3, .int 1), (2, .int 4), (0, .ref x), (1, .int p0)]) hx hb dX4_allowed_39 rfl hl (by decide) rfl (fun ls hl => ?_)
              refine lv_iload_n hx hb dX4_allowed_40 rfl (lv_at hl 0 rfl) ?_
              refine lv_if_eq (tgt := 58) hx hb dX4_allowed_41 (by decide) (fun hc => absurd hc (by decide)) (fun _ => ?_)
              refine lv_aload_n hx hb dX4_allowed_44 rfl (lv_at hl 2 rfl) ?_
              refine va_get (D := D) (ci := 5) (v := .ref a1) (C := RX4) (T := TX4) (N := 4) hx hb hts in_X4_allowed_X4 hown hK hP 0 rfl rfl 0 (by decide) w_1 (fun _ h9 => h9) rfl dX4_allowed_45 ?_
              refine lv_iload_n hx hb dX4_allowed_48 rfl (lv_at hl 1 rfl) ?_
              refine va_aldq hx hb hK hP 1 3 rfl rfl (by unfold vp_in; decide) dX4_allowed_49 ?_
              rw [show fs (4 : Int32).toNatClampNeg = some (qs 4) from (by rw [show (4 : Int32).toNatClampNeg = 4 by decide]; exact hfs 4 (by decide))]
              refine W.eq (g2 := F0 m 50 ls [.ref (qs 4)]) rfl ?_
              have hPc := hP.sub (ws' := [((qs 4), .inr (4, [.int 4, .int 1, .ref f, .int 0, .int (-1), .null, .int (-1), .null]))]) [6] rfl
              have hDc := hD.sub (ws' := [((qs 4), .inr (4, [.int 4, .int 1, .ref f, .int 0, .int (-1), .null, .int (-1), .null]))]) [6] (by decide) rfl
              have hFc := va_free (wc := [((qs 4), .inr (4, [.int 4, .int 1, .ref f, .int 0, .int (-1), .null, .int (-1), .null]))]) hD hS hA [6] rfl
              refine va_calli (va_runVN (As := []) (rest := []) ⟨hx, hb, hml, hown, hts⟩ (c_X3_isFree l hlt D tC dz H.size f (qs 4) 4 ) ⟨(va_cnB (host := "NoticeStations") 0 hts gX4_allowed_X3_isFree_n240 rfl rfl rfl (hN.1 (.methodLinkNest "NoticeStations" 240 ⟨"NoticeStations$Station", "isFree", "()Z"⟩ "NoticeStations") (by decide +kernel)) w_2 (by decide +kernel) ⟨Nat.le_of_ble_eq_true rfl, Nat.le_of_ble_eq_true rfl⟩), w_3, w_4⟩ ⟨pB_blind, va_recv hK hPc (ci := 4) (q0 := 0) rfl rfl, pB_at hPc hDc hK hN hE hS hFc⟩ rfl rfl hl.1 rfl (lv_room (Nat.le_of_ble_eq_true rfl)) dX4_allowed_50 ⟨Nat.le_of_ble_eq_true rfl, Nat.le_of_ble_eq_true rfl⟩) hS (fun q _ h => hFc q h) hFc (fun r_264 u t H1 locs ht hvm hw hB hz1 hk1 hS => ?_)
              obtain ⟨hP1, _, hD1⟩ := hB
              have hw_265 := hw
              rw [ht] at hP1
              obtain ⟨hP, hD⟩ := va_join (wr := [(x, .inr (5, [.ref a1, .ref a2, .ref a3, .ref a4])), (a1, wT tC 5 fs), (a4, wS tC 5 (va_up (va_up (va_up (va_up gf 0 (some f)) 1 (some f)) 2 (some f)) 3 none)), (f, .inr (3, [.ref e1, .ref e2, .int 5, .int 0])), (e1, wI tC 0 z1), ((qs 3), .inr (4, [.int 3, .int 1, .ref f, .int 0, .int (-1), .null, .int (-1), .null])), ((qs 0), .inr (4, [.int 0, .int 1, .ref f, .int 0, .int (-1), .null, .int (-1), .null])), ((qs 1), .inr (4, [.int 1, .int 1, .ref f, .int 0, .int (-1), .null, .int (-1), .null])), ((qs 2), .inr (4, [.int 2, .int 1, .ref f, .int 0, .int (-1), .null, .int (-1), .null]))]) (w1 := [((qs 4), .inr (4, [.int 4, .int 1, .ref f, .int 0, .int (-1), .null, .int (-1), .null]))]) hP hD [6] [0, 1, 2, 3, 4, 5, 7, 8, 9] rfl rfl (by decide) (by decide) hk1 hFc hP1 hD1
              generalize H1 = H at hP hS ⊢
              have hP : va_P D vwCl [(x, .inr (5, [.ref a1, .ref a2, .ref a3, .ref a4])), (a1, wT tC 5 fs), (a4, wS tC 5 (va_up (va_up (va_up (va_up gf 0 (some f)) 1 (some f)) 2 (some f)) 3 none)), (f, .inr (3, [.ref e1, .ref e2, .int 5, .int 0])), (e1, wI tC 0 z1), ((qs 3), .inr (4, [.int 3, .int 1, .ref f, .int 0, .int (-1), .null, .int (-1), .null])), ((qs 0), .inr (4, [.int 0, .int 1, .ref f, .int 0, .int (-1), .null, .int (-1), .null])), ((qs 1), .inr (4, [.int 1, .int 1, .ref f, .int 0, .int (-1), .null, .int (-1), .null])), ((qs 2), .inr (4, [.int 2, .int 1, .ref f, .int 0, .int (-1), .null, .int (-1), .null])), ((qs 4), .inr (4, [.int 4, .int 1, .ref f, .int 0, .int (-1), .null, .int (-1), .null]))] H := hP
              have hD : va_D A [(x, .inr (5, [.ref a1, .ref a2, .ref a3, .ref a4])), (a1, wT tC 5 fs), (a4, wS tC 5 (va_up (va_up (va_up (va_up gf 0 (some f)) 1 (some f)) 2 (some f)) 3 none)), (f, .inr (3, [.ref e1, .ref e2, .int 5, .int 0])), (e1, wI tC 0 z1), ((qs 3), .inr (4, [.int 3, .int 1, .ref f, .int 0, .int (-1), .null, .int (-1), .null])), ((qs 0), .inr (4, [.int 0, .int 1, .ref f, .int 0, .int (-1), .null, .int (-1), .null])), ((qs 1), .inr (4, [.int 1, .int 1, .ref f, .int 0, .int (-1), .null, .int (-1), .null])), ((qs 2), .inr (4, [.int 2, .int 1, .ref f, .int 0, .int (-1), .null, .int (-1), .null])), ((qs 4), .inr (4, [.int 4, .int 1, .ref f, .int 0, .int (-1), .null, .int (-1), .null]))] := hD
              subst hw_265
              refine lv_if_ne (tgt := 58) hx hb dX4_allowed_53 (by decide) (fun _ => ?_) (fun hc => absurd hc (by decide))
              refine lv_aload_n hx hb dX4_allowed_58 rfl (lv_at hl 2 rfl) ?_
              refine va_get (D := D) (ci := 5) (v := .ref a4) (C := RX4) (T := TX4) (N := 4) hx hb hts in_X4_allowed_X4 hown hK hP 0 rfl rfl 3 (by decide) w_0 (fun _ h9 => h9) rfl dX4_allowed_59 ?_
              refine lv_iload_n hx hb dX4_allowed_62 rfl (lv_at hl 1 rfl) ?_
              refine lv_iload_n hx hb dX4_allowed_63 rfl (lv_at hl 0 rfl) ?_
              refine lv_if_eq (tgt := 79) hx hb dX4_allowed_64 (by decide) (fun hc => absurd hc (by decide)) (fun _ => ?_)
              refine lv_aload_n hx hb dX4_allowed_67 rfl (lv_at hl 2 rfl) ?_
              refine va_get (D := D) (ci := 5) (v := .ref a1) (C := RX4) (T := TX4) (N := 4) hx hb hts in_X4_allowed_X4 hown hK hP 0 rfl rfl 0 (by decide) w_1 (fun _ h9 => h9) rfl dX4_allowed_68 ?_
              refine lv_iload_n hx hb dX4_allowed_71 rfl (lv_at hl 1 rfl) ?_
              refine va_aldq hx hb hK hP 1 3 rfl rfl (by unfold vp_in; decide) dX4_allowed_72 ?_
              rw [show fs (4 : Int32).toNatClampNeg = some (qs 4) from (by rw [show (4 : Int32).toNatClampNeg = 4 by decide]; exact hfs 4 (by decide))]
              refine W.eq (g2 := F0 m 73 ls [.ref (qs 4), .int 4, .ref a4]) rfl ?_
              refine va_getN (host := "NoticeStations") (D := D) (ci := 4) (v := .ref f) (C := RX3) (T := TX3) (N := 8) hx hb hts in_X4_allowed_X3 hown hK hP 9 rfl rfl 2 (by decide) (va_Nw.use rfl (hN.1 (.fieldLinkNest "NoticeStations" 61 "NoticeStations$Station" "stored" "LNoticeStations$Standing;" "NoticeStations") (by decide +kernel))) (fun _ h9 => h9) rfl dX4_allowed_73 ?_
              refine lv_goto (tgt := 80) hx hb dX4_allowed_76 (by decide) ?_
              refine va_astq hx hb hK hP hD hS 2 2 3 3 rfl rfl rfl rfl (by unfold vp_in; decide) dX4_allowed_80 (fun H locs hP hD hS => ?_)
              have hP : va_P D vwCl [(x, .inr (5, [.ref a1, .ref a2, .ref a3, .ref a4])), (a1, wT tC 5 fs), (a4, wS tC 5 (va_up (va_up (va_up (va_up (va_up gf 0 (some f)) 1 (some f)) 2 (some f)) 3 none) 4 (some f))), (f, .inr (3, [.ref e1, .ref e2, .int 5, .int 0])), (e1, wI tC 0 z1), ((qs 3), .inr (4, [.int 3, .int 1, .ref f, .int 0, .int (-1), .null, .int (-1), .null])), ((qs 0), .inr (4, [.int 0, .int 1, .ref f, .int 0, .int (-1), .null, .int (-1), .null])), ((qs 1), .inr (4, [.int 1, .int 1, .ref f, .int 0, .int (-1), .null, .int (-1), .null])), ((qs 2), .inr (4, [.int 2, .int 1, .ref f, .int 0, .int (-1), .null, .int (-1), .null])), ((qs 4), .inr (4, [.int 4, .int 1, .ref f, .int 0, .int (-1), .null, .int (-1), .null]))] H := hP
              have hD : va_D A [(x, .inr (5, [.ref a1, .ref a2, .ref a3, .ref a4])), (a1, wT tC 5 fs), (a4, wS tC 5 (va_up (va_up (va_up (va_up (va_up gf 0 (some f)) 1 (some f)) 2 (some f)) 3 none) 4 (some f))), (f, .inr (3, [.ref e1, .ref e2, .int 5, .int 0])), (e1, wI tC 0 z1), ((qs 3), .inr (4, [.int 3, .int 1, .ref f, .int 0, .int (-1), .null, .int (-1), .null])), ((qs 0), .inr (4, [.int 0, .int 1, .ref f, .int 0, .int (-1), .null, .int (-1), .null])), ((qs 1), .inr (4, [.int 1, .int 1, .ref f, .int 0, .int (-1), .null, .int (-1), .null])), ((qs 2), .inr (4, [.int 2, .int 1, .ref f, .int 0, .int (-1), .null, .int (-1), .null])), ((qs 4), .inr (4, [.int 4, .int 1, .ref f, .int 0, .int (-1), .null, .int (-1), .null]))] := hD
              refine lv_iinc (v := 5) (lv' := [(2, .int 5), (3, .int 1), (0, .ref x), (1, .int p0)]) hx hb dX4_allowed_81 hl (k := 1) rfl (by decide) (by decide) rfl (fun ls hl => ?_)
              refine lv_goto (tgt := 21) hx hb dX4_allowed_84 (by decide) ?_
              refine lv_iload_n hx hb dX4_allowed_21 rfl (lv_at hl 0 rfl) ?_
              refine lv_iconst (v := 5) hx hb dX4_allowed_22 (by decide) ?_
              refine lv_icmp_ge (tgt := 87) hx hb dX4_allowed_23 (by decide) (fun _ => ?_) (fun hc => absurd (by decide) hc)
              refine lv_aload_n hx hb dX4_allowed_87 rfl (lv_at hl 2 rfl) ?_
              refine va_get (D := D) (ci := 5) (v := .ref a4) (C := RX4) (T := TX4) (N := 4) hx hb hts in_X4_allowed_X4 hown hK hP 0 rfl rfl 3 (by decide) w_0 (fun _ h9 => h9) rfl dX4_allowed_88 ?_
              have hPc := hP.sub (ws' := [(a4, wS tC 5 (va_up (va_up (va_up (va_up (va_up gf 0 (some f)) 1 (some f)) 2 (some f)) 3 none) 4 (some f))), (f, .inr (3, [.ref e1, .ref e2, .int 5, .int 0])), (e1, wI tC 0 z1)]) [2, 3, 4] rfl
              have hDc := hD.sub (ws' := [(a4, wS tC 5 (va_up (va_up (va_up (va_up (va_up gf 0 (some f)) 1 (some f)) 2 (some f)) 3 none) 4 (some f))), (f, .inr (3, [.ref e1, .ref e2, .int 5, .int 0])), (e1, wI tC 0 z1)]) [2, 3, 4] (by decide) rfl
              have hFc := va_free (wc := [(a4, wS tC 5 (va_up (va_up (va_up (va_up (va_up gf 0 (some f)) 1 (some f)) 2 (some f)) 3 none) 4 (some f))), (f, .inr (3, [.ref e1, .ref e2, .int 5, .int 0])), (e1, wI tC 0 z1)]) hD hS hA [2, 3, 4] rfl
              refine va_callq (va_runS (As := [.ref a4]) (rest := []) ⟨hx, hb, hml, hown, hts⟩ (c_X4_heldByHolders l hlt D tC dz H.size a4 (va_up (va_up (va_up (va_up (va_up gf 0 (some f)) 1 (some f)) 2 (some f)) 3 none) 4 (some f)) (bqb p0) f e1 e2 z1 (by intro j hj; rcases (show j = 0 ∨ j = 1 ∨ j = 2 ∨ j = 3 ∨ j = 4 by omega) with rfl | rfl | rfl | rfl | rfl <;> simp [va_up, hb0, hb1, hb2, hb3, hb4])) (va_cwS 1 hts gX4_allowed_X4_heldByHolders rfl rfl rfl (by decide +kernel) ⟨Nat.le_of_ble_eq_true rfl, Nat.le_of_ble_eq_true rfl⟩) ⟨pB_blind, pB_at hPc hDc hK hN hE hS hFc⟩ rfl rfl hl.1 rfl (lv_room (Nat.le_of_ble_eq_true rfl)) dX4_allowed_91 ⟨Nat.le_of_ble_eq_true rfl, Nat.le_of_ble_eq_true rfl⟩) hS (fun q _ h => hFc q h) hFc (fun r_266 u t H1 locs ht hvm hw hB hz1 hk1 hS => ?_)
              obtain ⟨hP1, _, hD1⟩ := hB
              have hw_267 := hw
              rw [ht] at hP1
              obtain ⟨hP, hD⟩ := va_join (wr := [(x, .inr (5, [.ref a1, .ref a2, .ref a3, .ref a4])), (a1, wT tC 5 fs), ((qs 3), .inr (4, [.int 3, .int 1, .ref f, .int 0, .int (-1), .null, .int (-1), .null])), ((qs 0), .inr (4, [.int 0, .int 1, .ref f, .int 0, .int (-1), .null, .int (-1), .null])), ((qs 1), .inr (4, [.int 1, .int 1, .ref f, .int 0, .int (-1), .null, .int (-1), .null])), ((qs 2), .inr (4, [.int 2, .int 1, .ref f, .int 0, .int (-1), .null, .int (-1), .null])), ((qs 4), .inr (4, [.int 4, .int 1, .ref f, .int 0, .int (-1), .null, .int (-1), .null]))]) (w1 := [(a4, wS tC 5 (va_up (va_up (va_up (va_up (va_up gf 0 (some f)) 1 (some f)) 2 (some f)) 3 none) 4 (some f))), (f, .inr (3, [.ref e1, .ref e2, .int 5, .int 0])), (e1, wI tC 0 z1)]) hP hD [2, 3, 4] [0, 1, 5, 6, 7, 8, 9] rfl rfl (by decide) (by decide) hk1 hFc hP1 hD1
              generalize H1 = H at hP hS ⊢
              have hP : va_P D vwCl [(x, .inr (5, [.ref a1, .ref a2, .ref a3, .ref a4])), (a1, wT tC 5 fs), ((qs 3), .inr (4, [.int 3, .int 1, .ref f, .int 0, .int (-1), .null, .int (-1), .null])), ((qs 0), .inr (4, [.int 0, .int 1, .ref f, .int 0, .int (-1), .null, .int (-1), .null])), ((qs 1), .inr (4, [.int 1, .int 1, .ref f, .int 0, .int (-1), .null, .int (-1), .null])), ((qs 2), .inr (4, [.int 2, .int 1, .ref f, .int 0, .int (-1), .null, .int (-1), .null])), ((qs 4), .inr (4, [.int 4, .int 1, .ref f, .int 0, .int (-1), .null, .int (-1), .null])), (a4, wS tC 5 (va_up (va_up (va_up (va_up (va_up gf 0 (some f)) 1 (some f)) 2 (some f)) 3 none) 4 (some f))), (f, .inr (3, [.ref e1, .ref e2, .int 5, .int 0])), (e1, wI tC 0 z1)] H := hP
              have hD : va_D A [(x, .inr (5, [.ref a1, .ref a2, .ref a3, .ref a4])), (a1, wT tC 5 fs), ((qs 3), .inr (4, [.int 3, .int 1, .ref f, .int 0, .int (-1), .null, .int (-1), .null])), ((qs 0), .inr (4, [.int 0, .int 1, .ref f, .int 0, .int (-1), .null, .int (-1), .null])), ((qs 1), .inr (4, [.int 1, .int 1, .ref f, .int 0, .int (-1), .null, .int (-1), .null])), ((qs 2), .inr (4, [.int 2, .int 1, .ref f, .int 0, .int (-1), .null, .int (-1), .null])), ((qs 4), .inr (4, [.int 4, .int 1, .ref f, .int 0, .int (-1), .null, .int (-1), .null])), (a4, wS tC 5 (va_up (va_up (va_up (va_up (va_up gf 0 (some f)) 1 (some f)) 2 (some f)) 3 none) 4 (some f))), (f, .inr (3, [.ref e1, .ref e2, .int 5, .int 0])), (e1, wI tC 0 z1)] := hD
              have q1 : r_266 = some f := hw_267.trans (by rw [hb0, hb1, hb2, hb3, hb4] <;> rfl)
              subst q1
              refine W.eq (g2 := F0 m 94 ls [.ref f]) rfl ?_
              refine lv_astore_n (lv' := [(2, .ref f), (3, .int 1), (0, .ref x), (1, .int p0)]) hx hb dX4_allowed_94 rfl hl (by decide) rfl (fun ls hl => ?_)
              refine lv_aload_n hx hb dX4_allowed_95 rfl (lv_at hl 0 rfl) ?_
              refine lv_ifnull hx hb dX4_allowed_96 ?_
              refine lv_aload_n hx hb dX4_allowed_99 rfl (lv_at hl 2 rfl) ?_
              refine va_get (D := D) (ci := 5) (v := .ref a4) (C := RX4) (T := TX4) (N := 4) hx hb hts in_X4_allowed_X4 hown hK hP 0 rfl rfl 3 (by decide) w_0 (fun _ h9 => h9) rfl dX4_allowed_100 ?_
              refine lv_aload_n hx hb dX4_allowed_103 rfl (lv_at hl 0 rfl) ?_
              have hPc := hP.sub (ws' := [(a4, wS tC 5 (va_up (va_up (va_up (va_up (va_up gf 0 (some f)) 1 (some f)) 2 (some f)) 3 none) 4 (some f))), (f, .inr (3, [.ref e1, .ref e2, .int 5, .int 0])), (e1, wI tC 0 z1)]) [7, 8, 9] rfl
              have hDc := hD.sub (ws' := [(a4, wS tC 5 (va_up (va_up (va_up (va_up (va_up gf 0 (some f)) 1 (some f)) 2 (some f)) 3 none) 4 (some f))), (f, .inr (3, [.ref e1, .ref e2, .int 5, .int 0])), (e1, wI tC 0 z1)]) [7, 8, 9] (by decide) rfl
              have hFc := va_free (wc := [(a4, wS tC 5 (va_up (va_up (va_up (va_up (va_up gf 0 (some f)) 1 (some f)) 2 (some f)) 3 none) 4 (some f))), (f, .inr (3, [.ref e1, .ref e2, .int 5, .int 0])), (e1, wI tC 0 z1)]) hD hS hA [7, 8, 9] rfl
              refine va_calli (va_runS (As := [.ref a4, .ref f]) (rest := []) ⟨hx, hb, hml, hown, hts⟩ (c_X4_mayGoOn l hlt D tC dz H.size a4 (va_up (va_up (va_up (va_up (va_up gf 0 (some f)) 1 (some f)) 2 (some f)) 3 none) 4 (some f)) (bqb p0) f e1 e2 z1 (by intro j hj; rcases (show j = 0 ∨ j = 1 ∨ j = 2 ∨ j = 3 ∨ j = 4 by omega) with rfl | rfl | rfl | rfl | rfl <;> simp [va_up, hb0, hb1, hb2, hb3, hb4])) (va_cwS 2 hts gX4_allowed_X4_mayGoOn rfl rfl rfl (by decide +kernel) ⟨Nat.le_of_ble_eq_true rfl, Nat.le_of_ble_eq_true rfl⟩) ⟨pB_blind, pB_at hPc hDc hK hN hE hS hFc⟩ rfl rfl hl.1 rfl (lv_room (Nat.le_of_ble_eq_true rfl)) dX4_allowed_104 ⟨Nat.le_of_ble_eq_true rfl, Nat.le_of_ble_eq_true rfl⟩) hS (fun q _ h => hFc q h) hFc (fun r_268 u t H1 locs ht hvm hw hB hz1 hk1 hS => ?_)
              obtain ⟨hP1, _, hD1⟩ := hB
              have hw_269 := hw
              rw [ht] at hP1
              obtain ⟨hP, hD⟩ := va_join (wr := [(x, .inr (5, [.ref a1, .ref a2, .ref a3, .ref a4])), (a1, wT tC 5 fs), ((qs 3), .inr (4, [.int 3, .int 1, .ref f, .int 0, .int (-1), .null, .int (-1), .null])), ((qs 0), .inr (4, [.int 0, .int 1, .ref f, .int 0, .int (-1), .null, .int (-1), .null])), ((qs 1), .inr (4, [.int 1, .int 1, .ref f, .int 0, .int (-1), .null, .int (-1), .null])), ((qs 2), .inr (4, [.int 2, .int 1, .ref f, .int 0, .int (-1), .null, .int (-1), .null])), ((qs 4), .inr (4, [.int 4, .int 1, .ref f, .int 0, .int (-1), .null, .int (-1), .null]))]) (w1 := [(a4, wS tC 5 (va_up (va_up (va_up (va_up (va_up gf 0 (some f)) 1 (some f)) 2 (some f)) 3 none) 4 (some f))), (f, .inr (3, [.ref e1, .ref e2, .int 5, .int 0])), (e1, wI tC 0 z1)]) hP hD [7, 8, 9] [0, 1, 2, 3, 4, 5, 6] rfl rfl (by decide) (by decide) hk1 hFc hP1 hD1
              generalize H1 = H at hP hS ⊢
              have hP : va_P D vwCl [(x, .inr (5, [.ref a1, .ref a2, .ref a3, .ref a4])), (a1, wT tC 5 fs), ((qs 3), .inr (4, [.int 3, .int 1, .ref f, .int 0, .int (-1), .null, .int (-1), .null])), ((qs 0), .inr (4, [.int 0, .int 1, .ref f, .int 0, .int (-1), .null, .int (-1), .null])), ((qs 1), .inr (4, [.int 1, .int 1, .ref f, .int 0, .int (-1), .null, .int (-1), .null])), ((qs 2), .inr (4, [.int 2, .int 1, .ref f, .int 0, .int (-1), .null, .int (-1), .null])), ((qs 4), .inr (4, [.int 4, .int 1, .ref f, .int 0, .int (-1), .null, .int (-1), .null])), (a4, wS tC 5 (va_up (va_up (va_up (va_up (va_up gf 0 (some f)) 1 (some f)) 2 (some f)) 3 none) 4 (some f))), (f, .inr (3, [.ref e1, .ref e2, .int 5, .int 0])), (e1, wI tC 0 z1)] H := hP
              have hD : va_D A [(x, .inr (5, [.ref a1, .ref a2, .ref a3, .ref a4])), (a1, wT tC 5 fs), ((qs 3), .inr (4, [.int 3, .int 1, .ref f, .int 0, .int (-1), .null, .int (-1), .null])), ((qs 0), .inr (4, [.int 0, .int 1, .ref f, .int 0, .int (-1), .null, .int (-1), .null])), ((qs 1), .inr (4, [.int 1, .int 1, .ref f, .int 0, .int (-1), .null, .int (-1), .null])), ((qs 2), .inr (4, [.int 2, .int 1, .ref f, .int 0, .int (-1), .null, .int (-1), .null])), ((qs 4), .inr (4, [.int 4, .int 1, .ref f, .int 0, .int (-1), .null, .int (-1), .null])), (a4, wS tC 5 (va_up (va_up (va_up (va_up (va_up gf 0 (some f)) 1 (some f)) 2 (some f)) 3 none) 4 (some f))), (f, .inr (3, [.ref e1, .ref e2, .int 5, .int 0])), (e1, wI tC 0 z1)] := hD
              have q1 : r_268 = 1 := hw_269.trans (by unfold mayg cntb; rw [hb0, hb1, hb2, hb3, hb4] <;> decide)
              subst q1
              refine lv_if_eq (tgt := 114) hx hb dX4_allowed_107 (by decide) (fun hc => absurd hc (by decide)) (fun _ => ?_)
              refine lv_iconst (v := 1) hx hb dX4_allowed_110 (by decide) ?_
              refine lv_goto (tgt := 115) hx hb dX4_allowed_111 (by decide) ?_
              have hP9 := hP.sub (ws' := []) [] rfl
              have hD9 := hD.sub (ws' := []) [] (by decide) rfl
              refine W.widen (k := 1) (n := 6) (by omega) (by omega) ?_
              exact vx_ret (W.zret (v := 1) hx hb hr (by decide) (fun t ht hW => ⟨⟨1, (), rfl, ⟨(by unfold mayg cntb; rw [hb0, hb1, hb2, hb3, hb4] <;> decide), bl1 hw_2 c_3⟩, (by rw [ht]; exact hP9), va_K.moved hW.alike hK, hD9⟩, hS.F ht⟩) hS.2.2 dX4_allowed_115 hlocks)
          · skip
            have hb3 : bqb p0 3 = true := bqT (fun h => c_256 (ez_255.trans h))
            refine lv_iconst (v := 1) hx hb dX4_allowed_34 (by decide) ?_
            refine lv_goto (tgt := 39) hx hb dX4_allowed_35 (by decide) ?_
            refine lv_istore_n (lv' := [(3, .int 1), (2, .int 3), (0, .ref x), (1, .int p0)]) hx hb dX4_allowed_39 rfl hl (by decide) rfl (fun ls hl => ?_)
            refine lv_iload_n hx hb dX4_allowed_40 rfl (lv_at hl 0 rfl) ?_
            refine lv_if_eq (tgt := 58) hx hb dX4_allowed_41 (by decide) (fun hc => absurd hc (by decide)) (fun _ => ?_)
            refine lv_aload_n hx hb dX4_allowed_44 rfl (lv_at hl 2 rfl) ?_
            refine va_get (D := D) (ci := 5) (v := .ref a1) (C := RX4) (T := TX4) (N := 4) hx hb hts in_X4_allowed_X4 hown hK hP 0 rfl rfl 0 (by decide) w_1 (fun _ h9 => h9) rfl dX4_allowed_45 ?_
            refine lv_iload_n hx hb dX4_allowed_48 rfl (lv_at hl 1 rfl) ?_
            refine va_aldq hx hb hK hP 1 3 rfl rfl (by unfold vp_in; decide) dX4_allowed_49 ?_
            rw [show fs (3 : Int32).toNatClampNeg = some (qs 3) from (by rw [show (3 : Int32).toNatClampNeg = 3 by decide]; exact hfs 3 (by decide))]
            refine W.eq (g2 := F0 m 50 ls [.ref (qs 3)]) rfl ?_
            have hPc := hP.sub (ws' := [((qs 3), .inr (4, [.int 3, .int 1, .ref f, .int 0, .int (-1), .null, .int (-1), .null]))]) [5] rfl
            have hDc := hD.sub (ws' := [((qs 3), .inr (4, [.int 3, .int 1, .ref f, .int 0, .int (-1), .null, .int (-1), .null]))]) [5] (by decide) rfl
            have hFc := va_free (wc := [((qs 3), .inr (4, [.int 3, .int 1, .ref f, .int 0, .int (-1), .null, .int (-1), .null]))]) hD hS hA [5] rfl
            refine va_calli (va_runVN (As := []) (rest := []) ⟨hx, hb, hml, hown, hts⟩ (c_X3_isFree l hlt D tC dz H.size f (qs 3) 3 ) ⟨(va_cnB (host := "NoticeStations") 0 hts gX4_allowed_X3_isFree_n240 rfl rfl rfl (hN.1 (.methodLinkNest "NoticeStations" 240 ⟨"NoticeStations$Station", "isFree", "()Z"⟩ "NoticeStations") (by decide +kernel)) w_2 (by decide +kernel) ⟨Nat.le_of_ble_eq_true rfl, Nat.le_of_ble_eq_true rfl⟩), w_3, w_4⟩ ⟨pB_blind, va_recv hK hPc (ci := 4) (q0 := 0) rfl rfl, pB_at hPc hDc hK hN hE hS hFc⟩ rfl rfl hl.1 rfl (lv_room (Nat.le_of_ble_eq_true rfl)) dX4_allowed_50 ⟨Nat.le_of_ble_eq_true rfl, Nat.le_of_ble_eq_true rfl⟩) hS (fun q _ h => hFc q h) hFc (fun r_270 u t H1 locs ht hvm hw hB hz1 hk1 hS => ?_)
            obtain ⟨hP1, _, hD1⟩ := hB
            have hw_271 := hw
            rw [ht] at hP1
            obtain ⟨hP, hD⟩ := va_join (wr := [(x, .inr (5, [.ref a1, .ref a2, .ref a3, .ref a4])), (a1, wT tC 5 fs), (a4, wS tC 5 (va_up (va_up (va_up gf 0 (some f)) 1 (some f)) 2 (some f))), (f, .inr (3, [.ref e1, .ref e2, .int 5, .int 0])), (e1, wI tC 0 z1), ((qs 4), .inr (4, [.int 4, .int 1, .ref f, .int 0, .int (-1), .null, .int (-1), .null])), ((qs 0), .inr (4, [.int 0, .int 1, .ref f, .int 0, .int (-1), .null, .int (-1), .null])), ((qs 1), .inr (4, [.int 1, .int 1, .ref f, .int 0, .int (-1), .null, .int (-1), .null])), ((qs 2), .inr (4, [.int 2, .int 1, .ref f, .int 0, .int (-1), .null, .int (-1), .null]))]) (w1 := [((qs 3), .inr (4, [.int 3, .int 1, .ref f, .int 0, .int (-1), .null, .int (-1), .null]))]) hP hD [5] [0, 1, 2, 3, 4, 6, 7, 8, 9] rfl rfl (by decide) (by decide) hk1 hFc hP1 hD1
            generalize H1 = H at hP hS ⊢
            have hP : va_P D vwCl [(x, .inr (5, [.ref a1, .ref a2, .ref a3, .ref a4])), (a1, wT tC 5 fs), (a4, wS tC 5 (va_up (va_up (va_up gf 0 (some f)) 1 (some f)) 2 (some f))), (f, .inr (3, [.ref e1, .ref e2, .int 5, .int 0])), (e1, wI tC 0 z1), ((qs 4), .inr (4, [.int 4, .int 1, .ref f, .int 0, .int (-1), .null, .int (-1), .null])), ((qs 0), .inr (4, [.int 0, .int 1, .ref f, .int 0, .int (-1), .null, .int (-1), .null])), ((qs 1), .inr (4, [.int 1, .int 1, .ref f, .int 0, .int (-1), .null, .int (-1), .null])), ((qs 2), .inr (4, [.int 2, .int 1, .ref f, .int 0, .int (-1), .null, .int (-1), .null])), ((qs 3), .inr (4, [.int 3, .int 1, .ref f, .int 0, .int (-1), .null, .int (-1), .null]))] H := hP
            have hD : va_D A [(x, .inr (5, [.ref a1, .ref a2, .ref a3, .ref a4])), (a1, wT tC 5 fs), (a4, wS tC 5 (va_up (va_up (va_up gf 0 (some f)) 1 (some f)) 2 (some f))), (f, .inr (3, [.ref e1, .ref e2, .int 5, .int 0])), (e1, wI tC 0 z1), ((qs 4), .inr (4, [.int 4, .int 1, .ref f, .int 0, .int (-1), .null, .int (-1), .null])), ((qs 0), .inr (4, [.int 0, .int 1, .ref f, .int 0, .int (-1), .null, .int (-1), .null])), ((qs 1), .inr (4, [.int 1, .int 1, .ref f, .int 0, .int (-1), .null, .int (-1), .null])), ((qs 2), .inr (4, [.int 2, .int 1, .ref f, .int 0, .int (-1), .null, .int (-1), .null])), ((qs 3), .inr (4, [.int 3, .int 1, .ref f, .int 0, .int (-1), .null, .int (-1), .null]))] := hD
            subst hw_271
            refine lv_if_ne (tgt := 58) hx hb dX4_allowed_53 (by decide) (fun _ => ?_) (fun hc => absurd hc (by decide))
            refine lv_aload_n hx hb dX4_allowed_58 rfl (lv_at hl 2 rfl) ?_
            refine va_get (D := D) (ci := 5) (v := .ref a4) (C := RX4) (T := TX4) (N := 4) hx hb hts in_X4_allowed_X4 hown hK hP 0 rfl rfl 3 (by decide) w_0 (fun _ h9 => h9) rfl dX4_allowed_59 ?_
            refine lv_iload_n hx hb dX4_allowed_62 rfl (lv_at hl 1 rfl) ?_
            refine lv_iload_n hx hb dX4_allowed_63 rfl (lv_at hl 0 rfl) ?_
            refine lv_if_eq (tgt := 79) hx hb dX4_allowed_64 (by decide) (fun hc => absurd hc (by decide)) (fun _ => ?_)
            refine lv_aload_n hx hb dX4_allowed_67 rfl (lv_at hl 2 rfl) ?_
            refine va_get (D := D) (ci := 5) (v := .ref a1) (C := RX4) (T := TX4) (N := 4) hx hb hts in_X4_allowed_X4 hown hK hP 0 rfl rfl 0 (by decide) w_1 (fun _ h9 => h9) rfl dX4_allowed_68 ?_
            refine lv_iload_n hx hb dX4_allowed_71 rfl (lv_at hl 1 rfl) ?_
            refine va_aldq hx hb hK hP 1 3 rfl rfl (by unfold vp_in; decide) dX4_allowed_72 ?_
            rw [show fs (3 : Int32).toNatClampNeg = some (qs 3) from (by rw [show (3 : Int32).toNatClampNeg = 3 by decide]; exact hfs 3 (by decide))]
            refine W.eq (g2 := F0 m 73 ls [.ref (qs 3), .int 3, .ref a4]) rfl ?_
            refine va_getN (host := "NoticeStations") (D := D) (ci := 4) (v := .ref f) (C := RX3) (T := TX3) (N := 8) hx hb hts in_X4_allowed_X3 hown hK hP 9 rfl rfl 2 (by decide) (va_Nw.use rfl (hN.1 (.fieldLinkNest "NoticeStations" 61 "NoticeStations$Station" "stored" "LNoticeStations$Standing;" "NoticeStations") (by decide +kernel))) (fun _ h9 => h9) rfl dX4_allowed_73 ?_
            refine lv_goto (tgt := 80) hx hb dX4_allowed_76 (by decide) ?_
            refine va_astq hx hb hK hP hD hS 2 2 3 3 rfl rfl rfl rfl (by unfold vp_in; decide) dX4_allowed_80 (fun H locs hP hD hS => ?_)
            have hP : va_P D vwCl [(x, .inr (5, [.ref a1, .ref a2, .ref a3, .ref a4])), (a1, wT tC 5 fs), (a4, wS tC 5 (va_up (va_up (va_up (va_up gf 0 (some f)) 1 (some f)) 2 (some f)) 3 (some f))), (f, .inr (3, [.ref e1, .ref e2, .int 5, .int 0])), (e1, wI tC 0 z1), ((qs 4), .inr (4, [.int 4, .int 1, .ref f, .int 0, .int (-1), .null, .int (-1), .null])), ((qs 0), .inr (4, [.int 0, .int 1, .ref f, .int 0, .int (-1), .null, .int (-1), .null])), ((qs 1), .inr (4, [.int 1, .int 1, .ref f, .int 0, .int (-1), .null, .int (-1), .null])), ((qs 2), .inr (4, [.int 2, .int 1, .ref f, .int 0, .int (-1), .null, .int (-1), .null])), ((qs 3), .inr (4, [.int 3, .int 1, .ref f, .int 0, .int (-1), .null, .int (-1), .null]))] H := hP
            have hD : va_D A [(x, .inr (5, [.ref a1, .ref a2, .ref a3, .ref a4])), (a1, wT tC 5 fs), (a4, wS tC 5 (va_up (va_up (va_up (va_up gf 0 (some f)) 1 (some f)) 2 (some f)) 3 (some f))), (f, .inr (3, [.ref e1, .ref e2, .int 5, .int 0])), (e1, wI tC 0 z1), ((qs 4), .inr (4, [.int 4, .int 1, .ref f, .int 0, .int (-1), .null, .int (-1), .null])), ((qs 0), .inr (4, [.int 0, .int 1, .ref f, .int 0, .int (-1), .null, .int (-1), .null])), ((qs 1), .inr (4, [.int 1, .int 1, .ref f, .int 0, .int (-1), .null, .int (-1), .null])), ((qs 2), .inr (4, [.int 2, .int 1, .ref f, .int 0, .int (-1), .null, .int (-1), .null])), ((qs 3), .inr (4, [.int 3, .int 1, .ref f, .int 0, .int (-1), .null, .int (-1), .null]))] := hD
            refine lv_iinc (v := 4) (lv' := [(2, .int 4), (3, .int 1), (0, .ref x), (1, .int p0)]) hx hb dX4_allowed_81 hl (k := 1) rfl (by decide) (by decide) rfl (fun ls hl => ?_)
            refine lv_goto (tgt := 21) hx hb dX4_allowed_84 (by decide) ?_
            refine lv_iload_n hx hb dX4_allowed_21 rfl (lv_at hl 0 rfl) ?_
            refine lv_iconst (v := 5) hx hb dX4_allowed_22 (by decide) ?_
            refine lv_icmp_ge (tgt := 87) hx hb dX4_allowed_23 (by decide) (fun hc => absurd hc (by decide)) (fun _ => ?_)
            refine lv_iload_n hx hb dX4_allowed_26 rfl (lv_at hl 3 rfl) ?_
            refine lv_iconst (v := 1) hx hb dX4_allowed_27 (by decide) ?_
            refine lv_iload_n hx hb dX4_allowed_28 rfl (lv_at hl 0 rfl) ?_
            refine lv_ishl hx hb dX4_allowed_29 ?_
            refine lv_topi (fun z_272 ez_272 => ?_)
            have fz_272 : z_272 = 16 := ez_272.trans (by decide)
            subst fz_272
            refine lv_iand hx hb dX4_allowed_30 ?_
            refine lv_topi (fun z_273 ez_273 => ?_)
            refine lv_if_eq (tgt := 38) hx hb dX4_allowed_31 (by decide) (fun c_274 => ?_) (fun c_274 => ?_)
            · skip
              have hb4 : bqb p0 4 = false := bqF (ez_273.symm.trans c_274)
              refine lv_iconst (v := 0) hx hb dX4_allowed_38 (by decide) ?_
              refine lv_istore_n (lv' := [(3, .int 0), (2, .int 4), (0, .ref x), (1, .int p0)]) hx hb dX4_allowed_39 rfl hl (by decide) rfl (fun ls hl => ?_)
              refine lv_iload_n hx hb dX4_allowed_40 rfl (lv_at hl 0 rfl) ?_
              refine lv_if_eq (tgt := 58) hx hb dX4_allowed_41 (by decide) (fun _ => ?_) (fun hc => absurd (by decide) hc)
              refine lv_aload_n hx hb dX4_allowed_58 rfl (lv_at hl 2 rfl) ?_
              refine va_get (D := D) (ci := 5) (v := .ref a4) (C := RX4) (T := TX4) (N := 4) hx hb hts in_X4_allowed_X4 hown hK hP 0 rfl rfl 3 (by decide) w_0 (fun _ h9 => h9) rfl dX4_allowed_59 ?_
              refine lv_iload_n hx hb dX4_allowed_62 rfl (lv_at hl 1 rfl) ?_
              refine lv_iload_n hx hb dX4_allowed_63 rfl (lv_at hl 0 rfl) ?_
              refine lv_if_eq (tgt := 79) hx hb dX4_allowed_64 (by decide) (fun _ => ?_) (fun hc => absurd (by decide) hc)
              refine lv_null hx hb dX4_allowed_79 ?_
              refine va_astqN hx hb hK hP hD hS 2 2 rfl rfl (by unfold vp_in; decide) dX4_allowed_80 (fun H locs hP hD hS => ?_)
              have hP : va_P D vwCl [(x, .inr (5, [.ref a1, .ref a2, .ref a3, .ref a4])), (a1, wT tC 5 fs), (a4, wS tC 5 (va_up (va_up (va_up (va_up (va_up gf 0 (some f)) 1 (some f)) 2 (some f)) 3 (some f)) 4 none)), (f, .inr (3, [.ref e1, .ref e2, .int 5, .int 0])), (e1, wI tC 0 z1), ((qs 4), .inr (4, [.int 4, .int 1, .ref f, .int 0, .int (-1), .null, .int (-1), .null])), ((qs 0), .inr (4, [.int 0, .int 1, .ref f, .int 0, .int (-1), .null, .int (-1), .null])), ((qs 1), .inr (4, [.int 1, .int 1, .ref f, .int 0, .int (-1), .null, .int (-1), .null])), ((qs 2), .inr (4, [.int 2, .int 1, .ref f, .int 0, .int (-1), .null, .int (-1), .null])), ((qs 3), .inr (4, [.int 3, .int 1, .ref f, .int 0, .int (-1), .null, .int (-1), .null]))] H := hP
              have hD : va_D A [(x, .inr (5, [.ref a1, .ref a2, .ref a3, .ref a4])), (a1, wT tC 5 fs), (a4, wS tC 5 (va_up (va_up (va_up (va_up (va_up gf 0 (some f)) 1 (some f)) 2 (some f)) 3 (some f)) 4 none)), (f, .inr (3, [.ref e1, .ref e2, .int 5, .int 0])), (e1, wI tC 0 z1), ((qs 4), .inr (4, [.int 4, .int 1, .ref f, .int 0, .int (-1), .null, .int (-1), .null])), ((qs 0), .inr (4, [.int 0, .int 1, .ref f, .int 0, .int (-1), .null, .int (-1), .null])), ((qs 1), .inr (4, [.int 1, .int 1, .ref f, .int 0, .int (-1), .null, .int (-1), .null])), ((qs 2), .inr (4, [.int 2, .int 1, .ref f, .int 0, .int (-1), .null, .int (-1), .null])), ((qs 3), .inr (4, [.int 3, .int 1, .ref f, .int 0, .int (-1), .null, .int (-1), .null]))] := hD
              refine lv_iinc (v := 5) (lv' := [(2, .int 5), (3, .int 0), (0, .ref x), (1, .int p0)]) hx hb dX4_allowed_81 hl (k := 1) rfl (by decide) (by decide) rfl (fun ls hl => ?_)
              refine lv_goto (tgt := 21) hx hb dX4_allowed_84 (by decide) ?_
              refine lv_iload_n hx hb dX4_allowed_21 rfl (lv_at hl 0 rfl) ?_
              refine lv_iconst (v := 5) hx hb dX4_allowed_22 (by decide) ?_
              refine lv_icmp_ge (tgt := 87) hx hb dX4_allowed_23 (by decide) (fun _ => ?_) (fun hc => absurd (by decide) hc)
              refine lv_aload_n hx hb dX4_allowed_87 rfl (lv_at hl 2 rfl) ?_
              refine va_get (D := D) (ci := 5) (v := .ref a4) (C := RX4) (T := TX4) (N := 4) hx hb hts in_X4_allowed_X4 hown hK hP 0 rfl rfl 3 (by decide) w_0 (fun _ h9 => h9) rfl dX4_allowed_88 ?_
              have hPc := hP.sub (ws' := [(a4, wS tC 5 (va_up (va_up (va_up (va_up (va_up gf 0 (some f)) 1 (some f)) 2 (some f)) 3 (some f)) 4 none)), (f, .inr (3, [.ref e1, .ref e2, .int 5, .int 0])), (e1, wI tC 0 z1)]) [2, 3, 4] rfl
              have hDc := hD.sub (ws' := [(a4, wS tC 5 (va_up (va_up (va_up (va_up (va_up gf 0 (some f)) 1 (some f)) 2 (some f)) 3 (some f)) 4 none)), (f, .inr (3, [.ref e1, .ref e2, .int 5, .int 0])), (e1, wI tC 0 z1)]) [2, 3, 4] (by decide) rfl
              have hFc := va_free (wc := [(a4, wS tC 5 (va_up (va_up (va_up (va_up (va_up gf 0 (some f)) 1 (some f)) 2 (some f)) 3 (some f)) 4 none)), (f, .inr (3, [.ref e1, .ref e2, .int 5, .int 0])), (e1, wI tC 0 z1)]) hD hS hA [2, 3, 4] rfl
              refine va_callq (va_runS (As := [.ref a4]) (rest := []) ⟨hx, hb, hml, hown, hts⟩ (c_X4_heldByHolders l hlt D tC dz H.size a4 (va_up (va_up (va_up (va_up (va_up gf 0 (some f)) 1 (some f)) 2 (some f)) 3 (some f)) 4 none) (bqb p0) f e1 e2 z1 (by intro j hj; rcases (show j = 0 ∨ j = 1 ∨ j = 2 ∨ j = 3 ∨ j = 4 by omega) with rfl | rfl | rfl | rfl | rfl <;> simp [va_up, hb0, hb1, hb2, hb3, hb4])) (va_cwS 1 hts gX4_allowed_X4_heldByHolders rfl rfl rfl (by decide +kernel) ⟨Nat.le_of_ble_eq_true rfl, Nat.le_of_ble_eq_true rfl⟩) ⟨pB_blind, pB_at hPc hDc hK hN hE hS hFc⟩ rfl rfl hl.1 rfl (lv_room (Nat.le_of_ble_eq_true rfl)) dX4_allowed_91 ⟨Nat.le_of_ble_eq_true rfl, Nat.le_of_ble_eq_true rfl⟩) hS (fun q _ h => hFc q h) hFc (fun r_275 u t H1 locs ht hvm hw hB hz1 hk1 hS => ?_)
              obtain ⟨hP1, _, hD1⟩ := hB
              have hw_276 := hw
              rw [ht] at hP1
              obtain ⟨hP, hD⟩ := va_join (wr := [(x, .inr (5, [.ref a1, .ref a2, .ref a3, .ref a4])), (a1, wT tC 5 fs), ((qs 4), .inr (4, [.int 4, .int 1, .ref f, .int 0, .int (-1), .null, .int (-1), .null])), ((qs 0), .inr (4, [.int 0, .int 1, .ref f, .int 0, .int (-1), .null, .int (-1), .null])), ((qs 1), .inr (4, [.int 1, .int 1, .ref f, .int 0, .int (-1), .null, .int (-1), .null])), ((qs 2), .inr (4, [.int 2, .int 1, .ref f, .int 0, .int (-1), .null, .int (-1), .null])), ((qs 3), .inr (4, [.int 3, .int 1, .ref f, .int 0, .int (-1), .null, .int (-1), .null]))]) (w1 := [(a4, wS tC 5 (va_up (va_up (va_up (va_up (va_up gf 0 (some f)) 1 (some f)) 2 (some f)) 3 (some f)) 4 none)), (f, .inr (3, [.ref e1, .ref e2, .int 5, .int 0])), (e1, wI tC 0 z1)]) hP hD [2, 3, 4] [0, 1, 5, 6, 7, 8, 9] rfl rfl (by decide) (by decide) hk1 hFc hP1 hD1
              generalize H1 = H at hP hS ⊢
              have hP : va_P D vwCl [(x, .inr (5, [.ref a1, .ref a2, .ref a3, .ref a4])), (a1, wT tC 5 fs), ((qs 4), .inr (4, [.int 4, .int 1, .ref f, .int 0, .int (-1), .null, .int (-1), .null])), ((qs 0), .inr (4, [.int 0, .int 1, .ref f, .int 0, .int (-1), .null, .int (-1), .null])), ((qs 1), .inr (4, [.int 1, .int 1, .ref f, .int 0, .int (-1), .null, .int (-1), .null])), ((qs 2), .inr (4, [.int 2, .int 1, .ref f, .int 0, .int (-1), .null, .int (-1), .null])), ((qs 3), .inr (4, [.int 3, .int 1, .ref f, .int 0, .int (-1), .null, .int (-1), .null])), (a4, wS tC 5 (va_up (va_up (va_up (va_up (va_up gf 0 (some f)) 1 (some f)) 2 (some f)) 3 (some f)) 4 none)), (f, .inr (3, [.ref e1, .ref e2, .int 5, .int 0])), (e1, wI tC 0 z1)] H := hP
              have hD : va_D A [(x, .inr (5, [.ref a1, .ref a2, .ref a3, .ref a4])), (a1, wT tC 5 fs), ((qs 4), .inr (4, [.int 4, .int 1, .ref f, .int 0, .int (-1), .null, .int (-1), .null])), ((qs 0), .inr (4, [.int 0, .int 1, .ref f, .int 0, .int (-1), .null, .int (-1), .null])), ((qs 1), .inr (4, [.int 1, .int 1, .ref f, .int 0, .int (-1), .null, .int (-1), .null])), ((qs 2), .inr (4, [.int 2, .int 1, .ref f, .int 0, .int (-1), .null, .int (-1), .null])), ((qs 3), .inr (4, [.int 3, .int 1, .ref f, .int 0, .int (-1), .null, .int (-1), .null])), (a4, wS tC 5 (va_up (va_up (va_up (va_up (va_up gf 0 (some f)) 1 (some f)) 2 (some f)) 3 (some f)) 4 none)), (f, .inr (3, [.ref e1, .ref e2, .int 5, .int 0])), (e1, wI tC 0 z1)] := hD
              have q1 : r_275 = some f := hw_276.trans (by rw [hb0, hb1, hb2, hb3, hb4] <;> rfl)
              subst q1
              refine W.eq (g2 := F0 m 94 ls [.ref f]) rfl ?_
              refine lv_astore_n (lv' := [(2, .ref f), (3, .int 0), (0, .ref x), (1, .int p0)]) hx hb dX4_allowed_94 rfl hl (by decide) rfl (fun ls hl => ?_)
              refine lv_aload_n hx hb dX4_allowed_95 rfl (lv_at hl 0 rfl) ?_
              refine lv_ifnull hx hb dX4_allowed_96 ?_
              refine lv_aload_n hx hb dX4_allowed_99 rfl (lv_at hl 2 rfl) ?_
              refine va_get (D := D) (ci := 5) (v := .ref a4) (C := RX4) (T := TX4) (N := 4) hx hb hts in_X4_allowed_X4 hown hK hP 0 rfl rfl 3 (by decide) w_0 (fun _ h9 => h9) rfl dX4_allowed_100 ?_
              refine lv_aload_n hx hb dX4_allowed_103 rfl (lv_at hl 0 rfl) ?_
              have hPc := hP.sub (ws' := [(a4, wS tC 5 (va_up (va_up (va_up (va_up (va_up gf 0 (some f)) 1 (some f)) 2 (some f)) 3 (some f)) 4 none)), (f, .inr (3, [.ref e1, .ref e2, .int 5, .int 0])), (e1, wI tC 0 z1)]) [7, 8, 9] rfl
              have hDc := hD.sub (ws' := [(a4, wS tC 5 (va_up (va_up (va_up (va_up (va_up gf 0 (some f)) 1 (some f)) 2 (some f)) 3 (some f)) 4 none)), (f, .inr (3, [.ref e1, .ref e2, .int 5, .int 0])), (e1, wI tC 0 z1)]) [7, 8, 9] (by decide) rfl
              have hFc := va_free (wc := [(a4, wS tC 5 (va_up (va_up (va_up (va_up (va_up gf 0 (some f)) 1 (some f)) 2 (some f)) 3 (some f)) 4 none)), (f, .inr (3, [.ref e1, .ref e2, .int 5, .int 0])), (e1, wI tC 0 z1)]) hD hS hA [7, 8, 9] rfl
              refine va_calli (va_runS (As := [.ref a4, .ref f]) (rest := []) ⟨hx, hb, hml, hown, hts⟩ (c_X4_mayGoOn l hlt D tC dz H.size a4 (va_up (va_up (va_up (va_up (va_up gf 0 (some f)) 1 (some f)) 2 (some f)) 3 (some f)) 4 none) (bqb p0) f e1 e2 z1 (by intro j hj; rcases (show j = 0 ∨ j = 1 ∨ j = 2 ∨ j = 3 ∨ j = 4 by omega) with rfl | rfl | rfl | rfl | rfl <;> simp [va_up, hb0, hb1, hb2, hb3, hb4])) (va_cwS 2 hts gX4_allowed_X4_mayGoOn rfl rfl rfl (by decide +kernel) ⟨Nat.le_of_ble_eq_true rfl, Nat.le_of_ble_eq_true rfl⟩) ⟨pB_blind, pB_at hPc hDc hK hN hE hS hFc⟩ rfl rfl hl.1 rfl (lv_room (Nat.le_of_ble_eq_true rfl)) dX4_allowed_104 ⟨Nat.le_of_ble_eq_true rfl, Nat.le_of_ble_eq_true rfl⟩) hS (fun q _ h => hFc q h) hFc (fun r_277 u t H1 locs ht hvm hw hB hz1 hk1 hS => ?_)
              obtain ⟨hP1, _, hD1⟩ := hB
              have hw_278 := hw
              rw [ht] at hP1
              obtain ⟨hP, hD⟩ := va_join (wr := [(x, .inr (5, [.ref a1, .ref a2, .ref a3, .ref a4])), (a1, wT tC 5 fs), ((qs 4), .inr (4, [.int 4, .int 1, .ref f, .int 0, .int (-1), .null, .int (-1), .null])), ((qs 0), .inr (4, [.int 0, .int 1, .ref f, .int 0, .int (-1), .null, .int (-1), .null])), ((qs 1), .inr (4, [.int 1, .int 1, .ref f, .int 0, .int (-1), .null, .int (-1), .null])), ((qs 2), .inr (4, [.int 2, .int 1, .ref f, .int 0, .int (-1), .null, .int (-1), .null])), ((qs 3), .inr (4, [.int 3, .int 1, .ref f, .int 0, .int (-1), .null, .int (-1), .null]))]) (w1 := [(a4, wS tC 5 (va_up (va_up (va_up (va_up (va_up gf 0 (some f)) 1 (some f)) 2 (some f)) 3 (some f)) 4 none)), (f, .inr (3, [.ref e1, .ref e2, .int 5, .int 0])), (e1, wI tC 0 z1)]) hP hD [7, 8, 9] [0, 1, 2, 3, 4, 5, 6] rfl rfl (by decide) (by decide) hk1 hFc hP1 hD1
              generalize H1 = H at hP hS ⊢
              have hP : va_P D vwCl [(x, .inr (5, [.ref a1, .ref a2, .ref a3, .ref a4])), (a1, wT tC 5 fs), ((qs 4), .inr (4, [.int 4, .int 1, .ref f, .int 0, .int (-1), .null, .int (-1), .null])), ((qs 0), .inr (4, [.int 0, .int 1, .ref f, .int 0, .int (-1), .null, .int (-1), .null])), ((qs 1), .inr (4, [.int 1, .int 1, .ref f, .int 0, .int (-1), .null, .int (-1), .null])), ((qs 2), .inr (4, [.int 2, .int 1, .ref f, .int 0, .int (-1), .null, .int (-1), .null])), ((qs 3), .inr (4, [.int 3, .int 1, .ref f, .int 0, .int (-1), .null, .int (-1), .null])), (a4, wS tC 5 (va_up (va_up (va_up (va_up (va_up gf 0 (some f)) 1 (some f)) 2 (some f)) 3 (some f)) 4 none)), (f, .inr (3, [.ref e1, .ref e2, .int 5, .int 0])), (e1, wI tC 0 z1)] H := hP
              have hD : va_D A [(x, .inr (5, [.ref a1, .ref a2, .ref a3, .ref a4])), (a1, wT tC 5 fs), ((qs 4), .inr (4, [.int 4, .int 1, .ref f, .int 0, .int (-1), .null, .int (-1), .null])), ((qs 0), .inr (4, [.int 0, .int 1, .ref f, .int 0, .int (-1), .null, .int (-1), .null])), ((qs 1), .inr (4, [.int 1, .int 1, .ref f, .int 0, .int (-1), .null, .int (-1), .null])), ((qs 2), .inr (4, [.int 2, .int 1, .ref f, .int 0, .int (-1), .null, .int (-1), .null])), ((qs 3), .inr (4, [.int 3, .int 1, .ref f, .int 0, .int (-1), .null, .int (-1), .null])), (a4, wS tC 5 (va_up (va_up (va_up (va_up (va_up gf 0 (some f)) 1 (some f)) 2 (some f)) 3 (some f)) 4 none)), (f, .inr (3, [.ref e1, .ref e2, .int 5, .int 0])), (e1, wI tC 0 z1)] := hD
              have q1 : r_277 = 1 := hw_278.trans (by unfold mayg cntb; rw [hb0, hb1, hb2, hb3, hb4] <;> decide)
              subst q1
              refine lv_if_eq (tgt := 114) hx hb dX4_allowed_107 (by decide) (fun hc => absurd hc (by decide)) (fun _ => ?_)
              refine lv_iconst (v := 1) hx hb dX4_allowed_110 (by decide) ?_
              refine lv_goto (tgt := 115) hx hb dX4_allowed_111 (by decide) ?_
              have hP9 := hP.sub (ws' := []) [] rfl
              have hD9 := hD.sub (ws' := []) [] (by decide) rfl
              refine W.widen (k := 1) (n := 6) (by omega) (by omega) ?_
              exact vx_ret (W.zret (v := 1) hx hb hr (by decide) (fun t ht hW => ⟨⟨1, (), rfl, ⟨(by unfold mayg cntb; rw [hb0, hb1, hb2, hb3, hb4] <;> decide), bl1 hw_2 c_3⟩, (by rw [ht]; exact hP9), va_K.moved hW.alike hK, hD9⟩, hS.F ht⟩) hS.2.2 dX4_allowed_115 hlocks)
            · skip
              have hb4 : bqb p0 4 = true := bqT (fun h => c_274 (ez_273.trans h))
              refine lv_iconst (v := 1) hx hb dX4_allowed_34 (by decide) ?_
              refine lv_goto (tgt := 39) hx hb dX4_allowed_35 (by decide) ?_
              refine lv_istore_n (lv' := [(3, .int 1), (2, .int 4), (0, .ref x), (1, .int p0)]) hx hb dX4_allowed_39 rfl hl (by decide) rfl (fun ls hl => ?_)
              refine lv_iload_n hx hb dX4_allowed_40 rfl (lv_at hl 0 rfl) ?_
              refine lv_if_eq (tgt := 58) hx hb dX4_allowed_41 (by decide) (fun hc => absurd hc (by decide)) (fun _ => ?_)
              refine lv_aload_n hx hb dX4_allowed_44 rfl (lv_at hl 2 rfl) ?_
              refine va_get (D := D) (ci := 5) (v := .ref a1) (C := RX4) (T := TX4) (N := 4) hx hb hts in_X4_allowed_X4 hown hK hP 0 rfl rfl 0 (by decide) w_1 (fun _ h9 => h9) rfl dX4_allowed_45 ?_
              refine lv_iload_n hx hb dX4_allowed_48 rfl (lv_at hl 1 rfl) ?_
              refine va_aldq hx hb hK hP 1 3 rfl rfl (by unfold vp_in; decide) dX4_allowed_49 ?_
              rw [show fs (4 : Int32).toNatClampNeg = some (qs 4) from (by rw [show (4 : Int32).toNatClampNeg = 4 by decide]; exact hfs 4 (by decide))]
              refine W.eq (g2 := F0 m 50 ls [.ref (qs 4)]) rfl ?_
              have hPc := hP.sub (ws' := [((qs 4), .inr (4, [.int 4, .int 1, .ref f, .int 0, .int (-1), .null, .int (-1), .null]))]) [5] rfl
              have hDc := hD.sub (ws' := [((qs 4), .inr (4, [.int 4, .int 1, .ref f, .int 0, .int (-1), .null, .int (-1), .null]))]) [5] (by decide) rfl
              have hFc := va_free (wc := [((qs 4), .inr (4, [.int 4, .int 1, .ref f, .int 0, .int (-1), .null, .int (-1), .null]))]) hD hS hA [5] rfl
              refine va_calli (va_runVN (As := []) (rest := []) ⟨hx, hb, hml, hown, hts⟩ (c_X3_isFree l hlt D tC dz H.size f (qs 4) 4 ) ⟨(va_cnB (host := "NoticeStations") 0 hts gX4_allowed_X3_isFree_n240 rfl rfl rfl (hN.1 (.methodLinkNest "NoticeStations" 240 ⟨"NoticeStations$Station", "isFree", "()Z"⟩ "NoticeStations") (by decide +kernel)) w_2 (by decide +kernel) ⟨Nat.le_of_ble_eq_true rfl, Nat.le_of_ble_eq_true rfl⟩), w_3, w_4⟩ ⟨pB_blind, va_recv hK hPc (ci := 4) (q0 := 0) rfl rfl, pB_at hPc hDc hK hN hE hS hFc⟩ rfl rfl hl.1 rfl (lv_room (Nat.le_of_ble_eq_true rfl)) dX4_allowed_50 ⟨Nat.le_of_ble_eq_true rfl, Nat.le_of_ble_eq_true rfl⟩) hS (fun q _ h => hFc q h) hFc (fun r_279 u t H1 locs ht hvm hw hB hz1 hk1 hS => ?_)
              obtain ⟨hP1, _, hD1⟩ := hB
              have hw_280 := hw
              rw [ht] at hP1
              obtain ⟨hP, hD⟩ := va_join (wr := [(x, .inr (5, [.ref a1, .ref a2, .ref a3, .ref a4])), (a1, wT tC 5 fs), (a4, wS tC 5 (va_up (va_up (va_up (va_up gf 0 (some f)) 1 (some f)) 2 (some f)) 3 (some f))), (f, .inr (3, [.ref e1, .ref e2, .int 5, .int 0])), (e1, wI tC 0 z1), ((qs 0), .inr (4, [.int 0, .int 1, .ref f, .int 0, .int (-1), .null, .int (-1), .null])), ((qs 1), .inr (4, [.int 1, .int 1, .ref f, .int 0, .int (-1), .null, .int (-1), .null])), ((qs 2), .inr (4, [.int 2, .int 1, .ref f, .int 0, .int (-1), .null, .int (-1), .null])), ((qs 3), .inr (4, [.int 3, .int 1, .ref f, .int 0, .int (-1), .null, .int (-1), .null]))]) (w1 := [((qs 4), .inr (4, [.int 4, .int 1, .ref f, .int 0, .int (-1), .null, .int (-1), .null]))]) hP hD [5] [0, 1, 2, 3, 4, 6, 7, 8, 9] rfl rfl (by decide) (by decide) hk1 hFc hP1 hD1
              generalize H1 = H at hP hS ⊢
              have hP : va_P D vwCl [(x, .inr (5, [.ref a1, .ref a2, .ref a3, .ref a4])), (a1, wT tC 5 fs), (a4, wS tC 5 (va_up (va_up (va_up (va_up gf 0 (some f)) 1 (some f)) 2 (some f)) 3 (some f))), (f, .inr (3, [.ref e1, .ref e2, .int 5, .int 0])), (e1, wI tC 0 z1), ((qs 0), .inr (4, [.int 0, .int 1, .ref f, .int 0, .int (-1), .null, .int (-1), .null])), ((qs 1), .inr (4, [.int 1, .int 1, .ref f, .int 0, .int (-1), .null, .int (-1), .null])), ((qs 2), .inr (4, [.int 2, .int 1, .ref f, .int 0, .int (-1), .null, .int (-1), .null])), ((qs 3), .inr (4, [.int 3, .int 1, .ref f, .int 0, .int (-1), .null, .int (-1), .null])), ((qs 4), .inr (4, [.int 4, .int 1, .ref f, .int 0, .int (-1), .null, .int (-1), .null]))] H := hP
              have hD : va_D A [(x, .inr (5, [.ref a1, .ref a2, .ref a3, .ref a4])), (a1, wT tC 5 fs), (a4, wS tC 5 (va_up (va_up (va_up (va_up gf 0 (some f)) 1 (some f)) 2 (some f)) 3 (some f))), (f, .inr (3, [.ref e1, .ref e2, .int 5, .int 0])), (e1, wI tC 0 z1), ((qs 0), .inr (4, [.int 0, .int 1, .ref f, .int 0, .int (-1), .null, .int (-1), .null])), ((qs 1), .inr (4, [.int 1, .int 1, .ref f, .int 0, .int (-1), .null, .int (-1), .null])), ((qs 2), .inr (4, [.int 2, .int 1, .ref f, .int 0, .int (-1), .null, .int (-1), .null])), ((qs 3), .inr (4, [.int 3, .int 1, .ref f, .int 0, .int (-1), .null, .int (-1), .null])), ((qs 4), .inr (4, [.int 4, .int 1, .ref f, .int 0, .int (-1), .null, .int (-1), .null]))] := hD
              subst hw_280
              refine lv_if_ne (tgt := 58) hx hb dX4_allowed_53 (by decide) (fun _ => ?_) (fun hc => absurd hc (by decide))
              refine lv_aload_n hx hb dX4_allowed_58 rfl (lv_at hl 2 rfl) ?_
              refine va_get (D := D) (ci := 5) (v := .ref a4) (C := RX4) (T := TX4) (N := 4) hx hb hts in_X4_allowed_X4 hown hK hP 0 rfl rfl 3 (by decide) w_0 (fun _ h9 => h9) rfl dX4_allowed_59 ?_
              refine lv_iload_n hx hb dX4_allowed_62 rfl (lv_at hl 1 rfl) ?_
              refine lv_iload_n hx hb dX4_allowed_63 rfl (lv_at hl 0 rfl) ?_
              refine lv_if_eq (tgt := 79) hx hb dX4_allowed_64 (by decide) (fun hc => absurd hc (by decide)) (fun _ => ?_)
              refine lv_aload_n hx hb dX4_allowed_67 rfl (lv_at hl 2 rfl) ?_
              refine va_get (D := D) (ci := 5) (v := .ref a1) (C := RX4) (T := TX4) (N := 4) hx hb hts in_X4_allowed_X4 hown hK hP 0 rfl rfl 0 (by decide) w_1 (fun _ h9 => h9) rfl dX4_allowed_68 ?_
              refine lv_iload_n hx hb dX4_allowed_71 rfl (lv_at hl 1 rfl) ?_
              refine va_aldq hx hb hK hP 1 3 rfl rfl (by unfold vp_in; decide) dX4_allowed_72 ?_
              rw [show fs (4 : Int32).toNatClampNeg = some (qs 4) from (by rw [show (4 : Int32).toNatClampNeg = 4 by decide]; exact hfs 4 (by decide))]
              refine W.eq (g2 := F0 m 73 ls [.ref (qs 4), .int 4, .ref a4]) rfl ?_
              refine va_getN (host := "NoticeStations") (D := D) (ci := 4) (v := .ref f) (C := RX3) (T := TX3) (N := 8) hx hb hts in_X4_allowed_X3 hown hK hP 9 rfl rfl 2 (by decide) (va_Nw.use rfl (hN.1 (.fieldLinkNest "NoticeStations" 61 "NoticeStations$Station" "stored" "LNoticeStations$Standing;" "NoticeStations") (by decide +kernel))) (fun _ h9 => h9) rfl dX4_allowed_73 ?_
              refine lv_goto (tgt := 80) hx hb dX4_allowed_76 (by decide) ?_
              refine va_astq hx hb hK hP hD hS 2 2 3 3 rfl rfl rfl rfl (by unfold vp_in; decide) dX4_allowed_80 (fun H locs hP hD hS => ?_)
              have hP : va_P D vwCl [(x, .inr (5, [.ref a1, .ref a2, .ref a3, .ref a4])), (a1, wT tC 5 fs), (a4, wS tC 5 (va_up (va_up (va_up (va_up (va_up gf 0 (some f)) 1 (some f)) 2 (some f)) 3 (some f)) 4 (some f))), (f, .inr (3, [.ref e1, .ref e2, .int 5, .int 0])), (e1, wI tC 0 z1), ((qs 0), .inr (4, [.int 0, .int 1, .ref f, .int 0, .int (-1), .null, .int (-1), .null])), ((qs 1), .inr (4, [.int 1, .int 1, .ref f, .int 0, .int (-1), .null, .int (-1), .null])), ((qs 2), .inr (4, [.int 2, .int 1, .ref f, .int 0, .int (-1), .null, .int (-1), .null])), ((qs 3), .inr (4, [.int 3, .int 1, .ref f, .int 0, .int (-1), .null, .int (-1), .null])), ((qs 4), .inr (4, [.int 4, .int 1, .ref f, .int 0, .int (-1), .null, .int (-1), .null]))] H := hP
              have hD : va_D A [(x, .inr (5, [.ref a1, .ref a2, .ref a3, .ref a4])), (a1, wT tC 5 fs), (a4, wS tC 5 (va_up (va_up (va_up (va_up (va_up gf 0 (some f)) 1 (some f)) 2 (some f)) 3 (some f)) 4 (some f))), (f, .inr (3, [.ref e1, .ref e2, .int 5, .int 0])), (e1, wI tC 0 z1), ((qs 0), .inr (4, [.int 0, .int 1, .ref f, .int 0, .int (-1), .null, .int (-1), .null])), ((qs 1), .inr (4, [.int 1, .int 1, .ref f, .int 0, .int (-1), .null, .int (-1), .null])), ((qs 2), .inr (4, [.int 2, .int 1, .ref f, .int 0, .int (-1), .null, .int (-1), .null])), ((qs 3), .inr (4, [.int 3, .int 1, .ref f, .int 0, .int (-1), .null, .int (-1), .null])), ((qs 4), .inr (4, [.int 4, .int 1, .ref f, .int 0, .int (-1), .null, .int (-1), .null]))] := hD
              refine lv_iinc (v := 5) (lv' := [(2, .int 5), (3, .int 1), (0, .ref x), (1, .int p0)]) hx hb dX4_allowed_81 hl (k := 1) rfl (by decide) (by decide) rfl (fun ls hl => ?_)
              refine lv_goto (tgt := 21) hx hb dX4_allowed_84 (by decide) ?_
              refine lv_iload_n hx hb dX4_allowed_21 rfl (lv_at hl 0 rfl) ?_
              refine lv_iconst (v := 5) hx hb dX4_allowed_22 (by decide) ?_
              refine lv_icmp_ge (tgt := 87) hx hb dX4_allowed_23 (by decide) (fun _ => ?_) (fun hc => absurd (by decide) hc)
              refine lv_aload_n hx hb dX4_allowed_87 rfl (lv_at hl 2 rfl) ?_
              refine va_get (D := D) (ci := 5) (v := .ref a4) (C := RX4) (T := TX4) (N := 4) hx hb hts in_X4_allowed_X4 hown hK hP 0 rfl rfl 3 (by decide) w_0 (fun _ h9 => h9) rfl dX4_allowed_88 ?_
              have hPc := hP.sub (ws' := [(a4, wS tC 5 (va_up (va_up (va_up (va_up (va_up gf 0 (some f)) 1 (some f)) 2 (some f)) 3 (some f)) 4 (some f))), (f, .inr (3, [.ref e1, .ref e2, .int 5, .int 0])), (e1, wI tC 0 z1)]) [2, 3, 4] rfl
              have hDc := hD.sub (ws' := [(a4, wS tC 5 (va_up (va_up (va_up (va_up (va_up gf 0 (some f)) 1 (some f)) 2 (some f)) 3 (some f)) 4 (some f))), (f, .inr (3, [.ref e1, .ref e2, .int 5, .int 0])), (e1, wI tC 0 z1)]) [2, 3, 4] (by decide) rfl
              have hFc := va_free (wc := [(a4, wS tC 5 (va_up (va_up (va_up (va_up (va_up gf 0 (some f)) 1 (some f)) 2 (some f)) 3 (some f)) 4 (some f))), (f, .inr (3, [.ref e1, .ref e2, .int 5, .int 0])), (e1, wI tC 0 z1)]) hD hS hA [2, 3, 4] rfl
              refine va_callq (va_runS (As := [.ref a4]) (rest := []) ⟨hx, hb, hml, hown, hts⟩ (c_X4_heldByHolders l hlt D tC dz H.size a4 (va_up (va_up (va_up (va_up (va_up gf 0 (some f)) 1 (some f)) 2 (some f)) 3 (some f)) 4 (some f)) (bqb p0) f e1 e2 z1 (by intro j hj; rcases (show j = 0 ∨ j = 1 ∨ j = 2 ∨ j = 3 ∨ j = 4 by omega) with rfl | rfl | rfl | rfl | rfl <;> simp [va_up, hb0, hb1, hb2, hb3, hb4])) (va_cwS 1 hts gX4_allowed_X4_heldByHolders rfl rfl rfl (by decide +kernel) ⟨Nat.le_of_ble_eq_true rfl, Nat.le_of_ble_eq_true rfl⟩) ⟨pB_blind, pB_at hPc hDc hK hN hE hS hFc⟩ rfl rfl hl.1 rfl (lv_room (Nat.le_of_ble_eq_true rfl)) dX4_allowed_91 ⟨Nat.le_of_ble_eq_true rfl, Nat.le_of_ble_eq_true rfl⟩) hS (fun q _ h => hFc q h) hFc (fun r_281 u t H1 locs ht hvm hw hB hz1 hk1 hS => ?_)
              obtain ⟨hP1, _, hD1⟩ := hB
              have hw_282 := hw
              rw [ht] at hP1
              obtain ⟨hP, hD⟩ := va_join (wr := [(x, .inr (5, [.ref a1, .ref a2, .ref a3, .ref a4])), (a1, wT tC 5 fs), ((qs 0), .inr (4, [.int 0, .int 1, .ref f, .int 0, .int (-1), .null, .int (-1), .null])), ((qs 1), .inr (4, [.int 1, .int 1, .ref f, .int 0, .int (-1), .null, .int (-1), .null])), ((qs 2), .inr (4, [.int 2, .int 1, .ref f, .int 0, .int (-1), .null, .int (-1), .null])), ((qs 3), .inr (4, [.int 3, .int 1, .ref f, .int 0, .int (-1), .null, .int (-1), .null])), ((qs 4), .inr (4, [.int 4, .int 1, .ref f, .int 0, .int (-1), .null, .int (-1), .null]))]) (w1 := [(a4, wS tC 5 (va_up (va_up (va_up (va_up (va_up gf 0 (some f)) 1 (some f)) 2 (some f)) 3 (some f)) 4 (some f))), (f, .inr (3, [.ref e1, .ref e2, .int 5, .int 0])), (e1, wI tC 0 z1)]) hP hD [2, 3, 4] [0, 1, 5, 6, 7, 8, 9] rfl rfl (by decide) (by decide) hk1 hFc hP1 hD1
              generalize H1 = H at hP hS ⊢
              have hP : va_P D vwCl [(x, .inr (5, [.ref a1, .ref a2, .ref a3, .ref a4])), (a1, wT tC 5 fs), ((qs 0), .inr (4, [.int 0, .int 1, .ref f, .int 0, .int (-1), .null, .int (-1), .null])), ((qs 1), .inr (4, [.int 1, .int 1, .ref f, .int 0, .int (-1), .null, .int (-1), .null])), ((qs 2), .inr (4, [.int 2, .int 1, .ref f, .int 0, .int (-1), .null, .int (-1), .null])), ((qs 3), .inr (4, [.int 3, .int 1, .ref f, .int 0, .int (-1), .null, .int (-1), .null])), ((qs 4), .inr (4, [.int 4, .int 1, .ref f, .int 0, .int (-1), .null, .int (-1), .null])), (a4, wS tC 5 (va_up (va_up (va_up (va_up (va_up gf 0 (some f)) 1 (some f)) 2 (some f)) 3 (some f)) 4 (some f))), (f, .inr (3, [.ref e1, .ref e2, .int 5, .int 0])), (e1, wI tC 0 z1)] H := hP
              have hD : va_D A [(x, .inr (5, [.ref a1, .ref a2, .ref a3, .ref a4])), (a1, wT tC 5 fs), ((qs 0), .inr (4, [.int 0, .int 1, .ref f, .int 0, .int (-1), .null, .int (-1), .null])), ((qs 1), .inr (4, [.int 1, .int 1, .ref f, .int 0, .int (-1), .null, .int (-1), .null])), ((qs 2), .inr (4, [.int 2, .int 1, .ref f, .int 0, .int (-1), .null, .int (-1), .null])), ((qs 3), .inr (4, [.int 3, .int 1, .ref f, .int 0, .int (-1), .null, .int (-1), .null])), ((qs 4), .inr (4, [.int 4, .int 1, .ref f, .int 0, .int (-1), .null, .int (-1), .null])), (a4, wS tC 5 (va_up (va_up (va_up (va_up (va_up gf 0 (some f)) 1 (some f)) 2 (some f)) 3 (some f)) 4 (some f))), (f, .inr (3, [.ref e1, .ref e2, .int 5, .int 0])), (e1, wI tC 0 z1)] := hD
              have q1 : r_281 = some f := hw_282.trans (by rw [hb0, hb1, hb2, hb3, hb4] <;> rfl)
              subst q1
              refine W.eq (g2 := F0 m 94 ls [.ref f]) rfl ?_
              refine lv_astore_n (lv' := [(2, .ref f), (3, .int 1), (0, .ref x), (1, .int p0)]) hx hb dX4_allowed_94 rfl hl (by decide) rfl (fun ls hl => ?_)
              refine lv_aload_n hx hb dX4_allowed_95 rfl (lv_at hl 0 rfl) ?_
              refine lv_ifnull hx hb dX4_allowed_96 ?_
              refine lv_aload_n hx hb dX4_allowed_99 rfl (lv_at hl 2 rfl) ?_
              refine va_get (D := D) (ci := 5) (v := .ref a4) (C := RX4) (T := TX4) (N := 4) hx hb hts in_X4_allowed_X4 hown hK hP 0 rfl rfl 3 (by decide) w_0 (fun _ h9 => h9) rfl dX4_allowed_100 ?_
              refine lv_aload_n hx hb dX4_allowed_103 rfl (lv_at hl 0 rfl) ?_
              have hPc := hP.sub (ws' := [(a4, wS tC 5 (va_up (va_up (va_up (va_up (va_up gf 0 (some f)) 1 (some f)) 2 (some f)) 3 (some f)) 4 (some f))), (f, .inr (3, [.ref e1, .ref e2, .int 5, .int 0])), (e1, wI tC 0 z1)]) [7, 8, 9] rfl
              have hDc := hD.sub (ws' := [(a4, wS tC 5 (va_up (va_up (va_up (va_up (va_up gf 0 (some f)) 1 (some f)) 2 (some f)) 3 (some f)) 4 (some f))), (f, .inr (3, [.ref e1, .ref e2, .int 5, .int 0])), (e1, wI tC 0 z1)]) [7, 8, 9] (by decide) rfl
              have hFc := va_free (wc := [(a4, wS tC 5 (va_up (va_up (va_up (va_up (va_up gf 0 (some f)) 1 (some f)) 2 (some f)) 3 (some f)) 4 (some f))), (f, .inr (3, [.ref e1, .ref e2, .int 5, .int 0])), (e1, wI tC 0 z1)]) hD hS hA [7, 8, 9] rfl
              refine va_calli (va_runS (As := [.ref a4, .ref f]) (rest := []) ⟨hx, hb, hml, hown, hts⟩ (c_X4_mayGoOn l hlt D tC dz H.size a4 (va_up (va_up (va_up (va_up (va_up gf 0 (some f)) 1 (some f)) 2 (some f)) 3 (some f)) 4 (some f)) (bqb p0) f e1 e2 z1 (by intro j hj; rcases (show j = 0 ∨ j = 1 ∨ j = 2 ∨ j = 3 ∨ j = 4 by omega) with rfl | rfl | rfl | rfl | rfl <;> simp [va_up, hb0, hb1, hb2, hb3, hb4])) (va_cwS 2 hts gX4_allowed_X4_mayGoOn rfl rfl rfl (by decide +kernel) ⟨Nat.le_of_ble_eq_true rfl, Nat.le_of_ble_eq_true rfl⟩) ⟨pB_blind, pB_at hPc hDc hK hN hE hS hFc⟩ rfl rfl hl.1 rfl (lv_room (Nat.le_of_ble_eq_true rfl)) dX4_allowed_104 ⟨Nat.le_of_ble_eq_true rfl, Nat.le_of_ble_eq_true rfl⟩) hS (fun q _ h => hFc q h) hFc (fun r_283 u t H1 locs ht hvm hw hB hz1 hk1 hS => ?_)
              obtain ⟨hP1, _, hD1⟩ := hB
              have hw_284 := hw
              rw [ht] at hP1
              obtain ⟨hP, hD⟩ := va_join (wr := [(x, .inr (5, [.ref a1, .ref a2, .ref a3, .ref a4])), (a1, wT tC 5 fs), ((qs 0), .inr (4, [.int 0, .int 1, .ref f, .int 0, .int (-1), .null, .int (-1), .null])), ((qs 1), .inr (4, [.int 1, .int 1, .ref f, .int 0, .int (-1), .null, .int (-1), .null])), ((qs 2), .inr (4, [.int 2, .int 1, .ref f, .int 0, .int (-1), .null, .int (-1), .null])), ((qs 3), .inr (4, [.int 3, .int 1, .ref f, .int 0, .int (-1), .null, .int (-1), .null])), ((qs 4), .inr (4, [.int 4, .int 1, .ref f, .int 0, .int (-1), .null, .int (-1), .null]))]) (w1 := [(a4, wS tC 5 (va_up (va_up (va_up (va_up (va_up gf 0 (some f)) 1 (some f)) 2 (some f)) 3 (some f)) 4 (some f))), (f, .inr (3, [.ref e1, .ref e2, .int 5, .int 0])), (e1, wI tC 0 z1)]) hP hD [7, 8, 9] [0, 1, 2, 3, 4, 5, 6] rfl rfl (by decide) (by decide) hk1 hFc hP1 hD1
              generalize H1 = H at hP hS ⊢
              have hP : va_P D vwCl [(x, .inr (5, [.ref a1, .ref a2, .ref a3, .ref a4])), (a1, wT tC 5 fs), ((qs 0), .inr (4, [.int 0, .int 1, .ref f, .int 0, .int (-1), .null, .int (-1), .null])), ((qs 1), .inr (4, [.int 1, .int 1, .ref f, .int 0, .int (-1), .null, .int (-1), .null])), ((qs 2), .inr (4, [.int 2, .int 1, .ref f, .int 0, .int (-1), .null, .int (-1), .null])), ((qs 3), .inr (4, [.int 3, .int 1, .ref f, .int 0, .int (-1), .null, .int (-1), .null])), ((qs 4), .inr (4, [.int 4, .int 1, .ref f, .int 0, .int (-1), .null, .int (-1), .null])), (a4, wS tC 5 (va_up (va_up (va_up (va_up (va_up gf 0 (some f)) 1 (some f)) 2 (some f)) 3 (some f)) 4 (some f))), (f, .inr (3, [.ref e1, .ref e2, .int 5, .int 0])), (e1, wI tC 0 z1)] H := hP
              have hD : va_D A [(x, .inr (5, [.ref a1, .ref a2, .ref a3, .ref a4])), (a1, wT tC 5 fs), ((qs 0), .inr (4, [.int 0, .int 1, .ref f, .int 0, .int (-1), .null, .int (-1), .null])), ((qs 1), .inr (4, [.int 1, .int 1, .ref f, .int 0, .int (-1), .null, .int (-1), .null])), ((qs 2), .inr (4, [.int 2, .int 1, .ref f, .int 0, .int (-1), .null, .int (-1), .null])), ((qs 3), .inr (4, [.int 3, .int 1, .ref f, .int 0, .int (-1), .null, .int (-1), .null])), ((qs 4), .inr (4, [.int 4, .int 1, .ref f, .int 0, .int (-1), .null, .int (-1), .null])), (a4, wS tC 5 (va_up (va_up (va_up (va_up (va_up gf 0 (some f)) 1 (some f)) 2 (some f)) 3 (some f)) 4 (some f))), (f, .inr (3, [.ref e1, .ref e2, .int 5, .int 0])), (e1, wI tC 0 z1)] := hD
              have q1 : r_283 = 1 := hw_284.trans (by unfold mayg cntb; rw [hb0, hb1, hb2, hb3, hb4] <;> decide)
              subst q1
              refine lv_if_eq (tgt := 114) hx hb dX4_allowed_107 (by decide) (fun hc => absurd hc (by decide)) (fun _ => ?_)
              refine lv_iconst (v := 1) hx hb dX4_allowed_110 (by decide) ?_
              refine lv_goto (tgt := 115) hx hb dX4_allowed_111 (by decide) ?_
              have hP9 := hP.sub (ws' := []) [] rfl
              have hD9 := hD.sub (ws' := []) [] (by decide) rfl
              refine W.widen (k := 1) (n := 6) (by omega) (by omega) ?_
              exact vx_ret (W.zret (v := 1) hx hb hr (by decide) (fun t ht hW => ⟨⟨1, (), rfl, ⟨(by unfold mayg cntb; rw [hb0, hb1, hb2, hb3, hb4] <;> decide), bl1 hw_2 c_3⟩, (by rw [ht]; exact hP9), va_K.moved hW.alike hK, hD9⟩, hS.F ht⟩) hS.2.2 dX4_allowed_115 hlocks)
  · skip
    obtain ⟨sa, hstr⟩ := hN.2.1 (238, "no such set of stations") (by decide +kernel)
    exact vx_throwS hx hb hlt hown (by decide +kernel) (by decide +kernel) w_5 w_6 hstr (vx_hat (fun w hw => hts w (th_X4_allowed_IAE w hw)) at_IAE_rest (at_IAE_hat hN)) at_IAE_ok hE.1 hE.2.1 hS (by rw [hml]; exact hl.1) dX4_allowed_9 dX4_allowed_12 dX4_allowed_13 dX4_allowed_15 dX4_allowed_18 (fun x h => (hnx x h).elim) (by decide) (by decide) (Nat.le_of_ble_eq_true rfl) (Nat.le_of_ble_eq_true rfl) hlocks (fun t _ h1 h2 => ⟨(), trivial, ⟨rfl, bl0 hw_2 c_3⟩, xF hS h1 h2⟩) hS.2.2 (Nat.le_of_ble_eq_true rfl) (Nat.le_of_ble_eq_true rfl)
