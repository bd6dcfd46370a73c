set_option maxRecDepth 100000 in
theorem dJxa1e45_init_da8c8_0 : decode cJxa1e45_init_da8c8 0 = .ok (.aload_n 0, 1) := by decide +kernel
set_option maxRecDepth 100000 in
theorem dJxa1e45_init_da8c8_1 : decode cJxa1e45_init_da8c8 1 = .ok (.invokespecial 1, 3) := by decide +kernel
set_option maxRecDepth 100000 in
theorem dJxa1e45_init_da8c8_4 : decode cJxa1e45_init_da8c8 4 = .ok (.return_, 1) := by decide +kernel
set_option maxRecDepth 100000 in
theorem dJxc12de_init_da8c8_0 : decode cJxc12de_init_da8c8 0 = .ok (.aload_n 0, 1) := by decide +kernel
set_option maxRecDepth 100000 in
theorem dJxc12de_init_da8c8_1 : decode cJxc12de_init_da8c8 1 = .ok (.invokespecial 1, 3) := by decide +kernel
set_option maxRecDepth 20000 in
theorem ggJxc12de_init_da8c8_Jxa1e45_init_da8c8 : GoodIn wsJxc12de_init_da8c8 wsJxa1e45_init_da8c8 := goodIn_r _ [5, 6, 7, 8] (by decide +kernel) (by decide +kernel)
set_option maxRecDepth 20000 in
theorem gJxc12de_init_da8c8_Jxa1e45_init_da8c8 : GoodIn wsJxc12de_init_da8c8 (wsJxa1e45_init_da8c8) := ggJxc12de_init_da8c8_Jxa1e45_init_da8c8
set_option maxRecDepth 100000 in
theorem dJxc12de_init_da8c8_4 : decode cJxc12de_init_da8c8 4 = .ok (.aload_n 0, 1) := by decide +kernel
set_option maxRecDepth 100000 in
theorem dJxc12de_init_da8c8_5 : decode cJxc12de_init_da8c8 5 = .ok (.iconst 0, 1) := by decide +kernel
set_option maxRecDepth 100000 in
theorem dJxc12de_init_da8c8_6 : decode cJxc12de_init_da8c8 6 = .ok (.putfield 7, 3) := by decide +kernel
set_option maxRecDepth 100000 in
theorem in_Jxc12de_init_da8c8_Jx4a65c : ∀ w ∈ wsJx4a65c0, w ∈ wsJxc12de_init_da8c8 := fun _ h => List.mem_cons_of_mem _ (List.mem_append_right _ h)
set_option maxRecDepth 100000 in
theorem dJxc12de_init_da8c8_9 : decode cJxc12de_init_da8c8 9 = .ok (.return_, 1) := by decide +kernel
set_option maxRecDepth 100000 in
theorem dJx4a65c_init_da8c8_0 : decode cJx4a65c_init_da8c8 0 = .ok (.aload_n 0, 1) := by decide +kernel
set_option maxRecDepth 100000 in
theorem dJx4a65c_init_da8c8_1 : decode cJx4a65c_init_da8c8 1 = .ok (.invokespecial 1, 3) := by decide +kernel
set_option maxRecDepth 20000 in
theorem ggJx4a65c_init_da8c8_Jxc12de_init_da8c8 : GoodIn wsJx4a65c_init_da8c8 wsJxc12de_init_da8c8 := goodIn_r _ [6, 7, 8, 9, 10, 11, 12, 13, 14, 15, 16, 17] (by decide +kernel) (by decide +kernel)
set_option maxRecDepth 20000 in
theorem gJx4a65c_init_da8c8_Jxc12de_init_da8c8 : GoodIn wsJx4a65c_init_da8c8 (wsJxc12de_init_da8c8) := ggJx4a65c_init_da8c8_Jxc12de_init_da8c8
set_option maxRecDepth 100000 in
theorem dJx4a65c_init_da8c8_4 : decode cJx4a65c_init_da8c8 4 = .ok (.aload_n 0, 1) := by decide +kernel
set_option maxRecDepth 100000 in
theorem dJx4a65c_init_da8c8_5 : decode cJx4a65c_init_da8c8 5 = .ok (.getstatic 39, 3) := by decide +kernel
set_option maxRecDepth 100000 in
theorem dJx4a65c_init_da8c8_8 : decode cJx4a65c_init_da8c8 8 = .ok (.putfield 9, 3) := by decide +kernel
set_option maxRecDepth 100000 in
theorem in_Jx4a65c_init_da8c8_Jx4a65c : ∀ w ∈ wsJx4a65c0, w ∈ wsJx4a65c_init_da8c8 := fun _ h => List.mem_cons_of_mem _ (List.mem_append_right _ h)
set_option maxRecDepth 100000 in
theorem dJx4a65c_init_da8c8_11 : decode cJx4a65c_init_da8c8 11 = .ok (.return_, 1) := by decide +kernel
set_option maxRecDepth 100000 in
theorem dX3_init_0 : decode cX3_init 0 = .ok (.aload_n 0, 1) := by decide +kernel
set_option maxRecDepth 100000 in
theorem dX3_init_1 : decode cX3_init 1 = .ok (.invokespecial 3, 3) := by decide +kernel
set_option maxRecDepth 100000 in
theorem dX3_init_4 : decode cX3_init 4 = .ok (.aload_n 0, 1) := by decide +kernel
set_option maxRecDepth 100000 in
theorem dX3_init_5 : decode cX3_init 5 = .ok (.iconst 1, 1) := by decide +kernel
set_option maxRecDepth 100000 in
theorem dX3_init_6 : decode cX3_init 6 = .ok (.putfield 9, 3) := by decide +kernel
set_option maxRecDepth 100000 in
theorem in_X3_init_X3 : ∀ w ∈ wsX30, w ∈ wsX3_init := fun _ h => List.mem_cons_of_mem _ (List.mem_append_right _ h)
set_option maxRecDepth 100000 in
theorem dX3_init_9 : decode cX3_init 9 = .ok (.aload_n 0, 1) := by decide +kernel
set_option maxRecDepth 100000 in
theorem dX3_init_10 : decode cX3_init 10 = .ok (.iconst 0, 1) := by decide +kernel
set_option maxRecDepth 100000 in
theorem dX3_init_11 : decode cX3_init 11 = .ok (.putfield 15, 3) := by decide +kernel
set_option maxRecDepth 100000 in
theorem dX3_init_14 : decode cX3_init 14 = .ok (.aload_n 0, 1) := by decide +kernel
set_option maxRecDepth 100000 in
theorem dX3_init_15 : decode cX3_init 15 = .ok (.iconst (-1), 1) := by decide +kernel
set_option maxRecDepth 100000 in
theorem dX3_init_16 : decode cX3_init 16 = .ok (.putfield 19, 3) := by decide +kernel
set_option maxRecDepth 100000 in
theorem dX3_init_19 : decode cX3_init 19 = .ok (.aload_n 0, 1) := by decide +kernel
set_option maxRecDepth 100000 in
theorem dX3_init_20 : decode cX3_init 20 = .ok (.aconst_null, 1) := by decide +kernel
set_option maxRecDepth 100000 in
theorem dX3_init_21 : decode cX3_init 21 = .ok (.putfield 22, 3) := by decide +kernel
set_option maxRecDepth 100000 in
theorem dX3_init_24 : decode cX3_init 24 = .ok (.aload_n 0, 1) := by decide +kernel
set_option maxRecDepth 100000 in
theorem dX3_init_25 : decode cX3_init 25 = .ok (.iconst (-1), 1) := by decide +kernel
set_option maxRecDepth 100000 in
theorem dX3_init_26 : decode cX3_init 26 = .ok (.putfield 26, 3) := by decide +kernel
set_option maxRecDepth 100000 in
theorem dX3_init_29 : decode cX3_init 29 = .ok (.aload_n 0, 1) := by decide +kernel
set_option maxRecDepth 100000 in
theorem dX3_init_30 : decode cX3_init 30 = .ok (.aconst_null, 1) := by decide +kernel
set_option maxRecDepth 100000 in
theorem dX3_init_31 : decode cX3_init 31 = .ok (.putfield 29, 3) := by decide +kernel
set_option maxRecDepth 100000 in
theorem dX3_init_34 : decode cX3_init 34 = .ok (.aload_n 0, 1) := by decide +kernel
set_option maxRecDepth 100000 in
theorem dX3_init_35 : decode cX3_init 35 = .ok (.iload_n 1, 1) := by decide +kernel
set_option maxRecDepth 100000 in
theorem dX3_init_36 : decode cX3_init 36 = .ok (.putfield 33, 3) := by decide +kernel
set_option maxRecDepth 100000 in
theorem dX3_init_39 : decode cX3_init 39 = .ok (.aload_n 0, 1) := by decide +kernel
set_option maxRecDepth 100000 in
theorem dX3_init_40 : decode cX3_init 40 = .ok (.aload_n 2, 1) := by decide +kernel
set_option maxRecDepth 100000 in
theorem dX3_init_41 : decode cX3_init 41 = .ok (.putfield 36, 3) := by decide +kernel
set_option maxRecDepth 100000 in
theorem dX3_init_44 : decode cX3_init 44 = .ok (.return_, 1) := by decide +kernel
set_option maxRecDepth 100000 in
theorem dX4_init_0 : decode cX4_init 0 = .ok (.aload_n 0, 1) := by decide +kernel
set_option maxRecDepth 100000 in
theorem dX4_init_1 : decode cX4_init 1 = .ok (.invokespecial 1, 3) := by decide +kernel
set_option maxRecDepth 100000 in
theorem dX4_init_4 : decode cX4_init 4 = .ok (.aload_n 0, 1) := by decide +kernel
set_option maxRecDepth 100000 in
theorem dX4_init_5 : decode cX4_init 5 = .ok (.iconst 5, 1) := by decide +kernel
set_option maxRecDepth 100000 in
theorem dX4_init_6 : decode cX4_init 6 = .ok (.anewarray 9, 3) := by decide +kernel
set_option maxRecDepth 100000 in
theorem dX4_init_9 : decode cX4_init 9 = .ok (.putfield 11, 3) := by decide +kernel
set_option maxRecDepth 100000 in
theorem in_X4_init_X4 : ∀ w ∈ wsX40, w ∈ wsX4_init := fun _ h => List.mem_cons_of_mem _ (List.mem_append_left _ (List.mem_append_left _ (List.mem_append_left _ (List.mem_append_right _ h))))
set_option maxRecDepth 100000 in
theorem dX4_init_12 : decode cX4_init 12 = .ok (.aload_n 0, 1) := by decide +kernel
set_option maxRecDepth 100000 in
theorem dX4_init_13 : decode cX4_init 13 = .ok (.iconst 5, 1) := by decide +kernel
set_option maxRecDepth 100000 in
theorem dX4_init_14 : decode cX4_init 14 = .ok (.newarray .int, 2) := by decide +kernel
set_option maxRecDepth 100000 in
theorem dX4_init_16 : decode cX4_init 16 = .ok (.putfield 15, 3) := by decide +kernel
set_option maxRecDepth 100000 in
theorem dX4_init_19 : decode cX4_init 19 = .ok (.aload_n 0, 1) := by decide +kernel
set_option maxRecDepth 100000 in
theorem dX4_init_20 : decode cX4_init 20 = .ok (.new 19, 3) := by decide +kernel
set_option maxRecDepth 100000 in
theorem in_X4_init_Jx4a65c : ∀ w ∈ wsJx4a65c0, w ∈ wsX4_init := fun _ h => List.mem_cons_of_mem _ (List.mem_append_left _ (List.mem_append_left _ (List.mem_append_right _ h)))
set_option maxRecDepth 100000 in
theorem dX4_init_23 : decode cX4_init 23 = .ok (.dup, 1) := by decide +kernel
set_option maxRecDepth 100000 in
theorem dX4_init_24 : decode cX4_init 24 = .ok (.invokespecial 21, 3) := by decide +kernel
set_option maxRecDepth 20000 in
theorem ggX4_init_Jx4a65c_init_da8c8 : GoodIn wsX4_init wsJx4a65c_init_da8c8 := goodIn_r _ [20, 21, 22, 23, 24, 25, 26, 27, 28, 29, 30, 31, 32, 2, 3, 55, 56, 57] (by decide +kernel) (by decide +kernel)
set_option maxRecDepth 20000 in
theorem gX4_init_Jx4a65c_init_da8c8 : GoodIn wsX4_init (wsJx4a65c_init_da8c8) := ggX4_init_Jx4a65c_init_da8c8
set_option maxRecDepth 100000 in
theorem dX4_init_27 : decode cX4_init 27 = .ok (.putfield 22, 3) := by decide +kernel
set_option maxRecDepth 100000 in
theorem dX4_init_30 : decode cX4_init 30 = .ok (.aload_n 0, 1) := by decide +kernel
set_option maxRecDepth 100000 in
theorem dX4_init_31 : decode cX4_init 31 = .ok (.iconst 5, 1) := by decide +kernel
set_option maxRecDepth 100000 in
theorem dX4_init_32 : decode cX4_init 32 = .ok (.anewarray 26, 3) := by decide +kernel
set_option maxRecDepth 100000 in
theorem dX4_init_35 : decode cX4_init 35 = .ok (.putfield 28, 3) := by decide +kernel
set_option maxRecDepth 100000 in
theorem dX4_init_38 : decode cX4_init 38 = .ok (.new 26, 3) := by decide +kernel
set_option maxRecDepth 100000 in
theorem in_X4_init_X2 : ∀ w ∈ wsX20, w ∈ wsX4_init := fun _ h => List.mem_cons_of_mem _ (List.mem_append_left _ (List.mem_append_right _ h))
set_option maxRecDepth 100000 in
theorem dX4_init_41 : decode cX4_init 41 = .ok (.dup, 1) := by decide +kernel
set_option maxRecDepth 100000 in
theorem dX4_init_42 : decode cX4_init 42 = .ok (.iconst 0, 1) := by decide +kernel
set_option maxRecDepth 100000 in
theorem dX4_init_43 : decode cX4_init 43 = .ok (.newarray .int, 2) := by decide +kernel
set_option maxRecDepth 100000 in
theorem dX4_init_45 : decode cX4_init 45 = .ok (.iconst 0, 1) := by decide +kernel
set_option maxRecDepth 100000 in
theorem dX4_init_46 : decode cX4_init 46 = .ok (.newarray .int, 2) := by decide +kernel
set_option maxRecDepth 100000 in
theorem dX4_init_48 : decode cX4_init 48 = .ok (.iconst 5, 1) := by decide +kernel
set_option maxRecDepth 100000 in
theorem dX4_init_49 : decode cX4_init 49 = .ok (.iconst 0, 1) := by decide +kernel
set_option maxRecDepth 100000 in
theorem dX4_init_50 : decode cX4_init 50 = .ok (.invokespecial 32, 3) := by decide +kernel
set_option maxRecDepth 20000 in
theorem ggX4_init_X2_init : GoodIn wsX4_init wsX2_init := goodIn_r _ [34, 35, 2, 3, 36, 37, 38, 39, 58, 59, 60, 61] (by decide +kernel) (by decide +kernel)
set_option maxRecDepth 20000 in
theorem gX4_init_X2_init_n32 : GoodIn wsX4_init (wsX2_init) := ggX4_init_X2_init
set_option maxRecDepth 100000 in
theorem dX4_init_53 : decode cX4_init 53 = .ok (.astore_n 1, 1) := by decide +kernel
set_option maxRecDepth 100000 in
theorem dX4_init_54 : decode cX4_init 54 = .ok (.iconst 0, 1) := by decide +kernel
set_option maxRecDepth 100000 in
theorem dX4_init_55 : decode cX4_init 55 = .ok (.istore_n 2, 1) := by decide +kernel
set_option maxRecDepth 100000 in
theorem dX4_init_56 : decode cX4_init 56 = .ok (.iload_n 2, 1) := by decide +kernel
set_option maxRecDepth 100000 in
theorem dX4_init_57 : decode cX4_init 57 = .ok (.iconst 5, 1) := by decide +kernel
set_option maxRecDepth 100000 in
theorem dX4_init_58 : decode cX4_init 58 = .ok (.if_icmp .ge 36, 3) := by decide +kernel
set_option maxRecDepth 100000 in
theorem dX4_init_61 : decode cX4_init 61 = .ok (.aload_n 0, 1) := by decide +kernel
set_option maxRecDepth 100000 in
theorem dX4_init_62 : decode cX4_init 62 = .ok (.getfield 11, 3) := by decide +kernel
set_option maxRecDepth 100000 in
theorem dX4_init_65 : decode cX4_init 65 = .ok (.iload_n 2, 1) := by decide +kernel
set_option maxRecDepth 100000 in
theorem dX4_init_66 : decode cX4_init 66 = .ok (.new 9, 3) := by decide +kernel
set_option maxRecDepth 100000 in
theorem in_X4_init_X3 : ∀ w ∈ wsX30, w ∈ wsX4_init := fun _ h => List.mem_cons_of_mem _ (List.mem_append_right _ h)
set_option maxRecDepth 100000 in
theorem dX4_init_69 : decode cX4_init 69 = .ok (.dup, 1) := by decide +kernel
set_option maxRecDepth 100000 in
theorem dX4_init_70 : decode cX4_init 70 = .ok (.iload_n 2, 1) := by decide +kernel
set_option maxRecDepth 100000 in
theorem dX4_init_71 : decode cX4_init 71 = .ok (.aload_n 1, 1) := by decide +kernel
set_option maxRecDepth 100000 in
theorem dX4_init_72 : decode cX4_init 72 = .ok (.invokespecial 35, 3) := by decide +kernel
set_option maxRecDepth 20000 in
theorem ggX4_init_X3_init : GoodIn wsX4_init wsX3_init := goodIn_r _ [41, 42, 2, 3, 43, 44, 45, 46, 47, 48, 49, 50, 62, 63, 64, 65, 66, 67, 68, 69] (by decide +kernel) (by decide +kernel)
set_option maxRecDepth 20000 in
theorem gX4_init_X3_init_n35 : GoodIn wsX4_init (wsX3_init) := ggX4_init_X3_init
set_option maxRecDepth 100000 in
theorem dX4_init_75 : decode cX4_init 75 = .ok (.aastore, 1) := by decide +kernel
set_option maxRecDepth 100000 in
theorem dX4_init_76 : decode cX4_init 76 = .ok (.aload_n 0, 1) := by decide +kernel
set_option maxRecDepth 100000 in
theorem dX4_init_77 : decode cX4_init 77 = .ok (.getfield 15, 3) := by decide +kernel
set_option maxRecDepth 100000 in
theorem dX4_init_80 : decode cX4_init 80 = .ok (.iload_n 2, 1) := by decide +kernel
set_option maxRecDepth 100000 in
theorem dX4_init_81 : decode cX4_init 81 = .ok (.bipush 31, 2) := by decide +kernel
set_option maxRecDepth 100000 in
theorem dX4_init_83 : decode cX4_init 83 = .ok (.iconst 1, 1) := by decide +kernel
set_option maxRecDepth 100000 in
theorem dX4_init_84 : decode cX4_init 84 = .ok (.iload_n 2, 1) := by decide +kernel
set_option maxRecDepth 100000 in
theorem dX4_init_85 : decode cX4_init 85 = .ok (.ishl, 1) := by decide +kernel
set_option maxRecDepth 100000 in
theorem dX4_init_86 : decode cX4_init 86 = .ok (.isub, 1) := by decide +kernel
set_option maxRecDepth 100000 in
theorem dX4_init_87 : decode cX4_init 87 = .ok (.iastore, 1) := by decide +kernel
set_option maxRecDepth 100000 in
theorem dX4_init_88 : decode cX4_init 88 = .ok (.iinc 2 1, 3) := by decide +kernel
set_option maxRecDepth 100000 in
theorem dX4_init_91 : decode cX4_init 91 = .ok (.goto (-35), 3) := by decide +kernel
set_option maxRecDepth 100000 in
theorem dX4_init_94 : decode cX4_init 94 = .ok (.return_, 1) := by decide +kernel
set_option maxHeartbeats 4000000 in
set_option maxRecDepth 100000 in
theorem c_E_Jxa1e45_init_da8c8 (l : Launch) (hlt : l.stackTraces = false) (D : va_G) (tC : Nat → ClassId) (dz sz : Nat) (a3 : Nat) (md : Int32)  : Met l yJxa1e45_init_da8c8 wsJxa1e45_init_da8c8 ({ frames := 1, cells := 0, slots := 0, locals := 12 }) (va_Pc [.ref a3] (pB D tC dz [(a3, .inr (0, [.int md, .null, .int 0]))] sz)) (va_Qv (fun (_ : Unit) => True) (fun (_ : Unit) t => pA D tC (va_A [(a3, .inr (0, [.int md, .null, .int 0]))] sz) [(a3, .inr (0, [.int md, .null, .int 0]))] t) (va_A [(a3, .inr (0, [.int md, .null, .int 0]))] sz)) 0 0 (va_A [(a3, .inr (0, [.int md, .null, .int 0]))] sz) := by
  refine Met.ofW (cc := cJxa1e45_init_da8c8) (maxL := 1) (ret := none) (by decide) rfl ?_
  intro p e s m args below meth c s₁ B hml hv
  obtain ⟨rfl, hsz, hP, hK, hD0, hN, hE⟩ := hv
  have hx := B.exec
  have hb := B.bytes
  have hr := B.returns
  have hts := atoms_spec (ws := wsJxa1e45_init_da8c8) B.pre
  have hown : s.vm.findClass RJxa1e45 = some m.cls := findClass_of_methodNamed B.named
  have hlocks := B.notSynchronized
  have hin : meth.name = "<init>" := (name_of_methodNamed B.named B.method).1
  subst hsz
  have hD := hD0.self (sz := s.heap.size)
  generalize hAe : va_A [(a3, .inr (0, [.int md, .null, .int 0]))] s.heap.size = A at hD hE ⊢
  have hA : ∀ q : Nat, s.heap.size ≤ q → A q := fun q h => by rw [← hAe]; exact Or.inr h
  have hS : va_S A s.heap s.heap [] := va_S.rf
  have hP : va_P D vwCl [(a3, .inr (0, [.int md, .null, .int 0]))] s.heap := hP
  have hl := lv_entry ([.ref a3]) (n := 1) (Nat.le_of_ble_eq_true rfl)
  rw [lg_entry_eq]
  generalize (lg_sl ([.ref a3]) ++ List.replicate (1 - (lg_sl ([.ref a3])).length) Slot.unset).toArray = ls at hl ⊢
  have hl : lv_has ls 1 [(0, .ref a3)] := hl
  have w_0 := hts (.methodLink RJxa1e45 1 objectInit) (by decide +kernel)
  have w_1 := hts (.instanceMethod objectInit) (by decide +kernel)
  have w_2 := hts (.code objectInit ⟨#[0xb1]⟩ 1 none) (by decide +kernel)
  refine lv_aload_n hx hb dJxa1e45_init_da8c8_0 rfl (lv_at hl 0 rfl) ?_
  refine W.objInit hx hb hown w_0 w_1 w_2 rfl (by rw [hml]; exact hl.1) rfl dJxa1e45_init_da8c8_1 (Nat.le_of_ble_eq_true rfl) (Nat.le_of_ble_eq_true rfl) ?_
  refine W.eq (g2 := F0 m 4 ls []) rfl ?_
  have hP9 := hP.sub (ws' := [(a3, .inr (0, [.int md, .null, .int 0]))]) [0] rfl
  have hD9 := hD.sub (ws' := [(a3, .inr (0, [.int md, .null, .int 0]))]) [0] (by decide) rfl
  refine W.widen (k := 0) (n := 0) (by omega) (by omega) ?_
  exact W.vret hx hb hr (fun t ht hW => ⟨⟨(), rfl, trivial, (by rw [ht]; exact hP9), va_K.moved hW.alike hK, hD9⟩, hS.F ht⟩) hS.2.2 dJxa1e45_init_da8c8_4 hlocks
set_option maxHeartbeats 4000000 in
set_option maxRecDepth 100000 in
theorem c_E_Jxc12de_init_da8c8 (l : Launch) (hlt : l.stackTraces = false) (D : va_G) (tC : Nat → ClassId) (dz sz : Nat) (a3 : Nat) (md : Int32)  : Met l yJxc12de_init_da8c8 wsJxc12de_init_da8c8 ({ frames := 2, cells := 0, slots := 0, locals := 32 }) (va_Pc [.ref a3] (pB D tC dz [(a3, .inr (0, [.int md, .null, .int 0]))] sz)) (va_Qv (fun (_ : Unit) => True) (fun (_ : Unit) t => pA D tC (va_A [(a3, .inr (0, [.int md, .null, .int 0]))] sz) [(a3, .inr (0, [.int 0, .null, .int 0]))] t) (va_A [(a3, .inr (0, [.int md, .null, .int 0]))] sz)) 0 0 (va_A [(a3, .inr (0, [.int md, .null, .int 0]))] sz) := by
  refine Met.ofW (cc := cJxc12de_init_da8c8) (maxL := 1) (ret := none) (by decide) rfl ?_
  intro p e s m args below meth c s₁ B hml hv
  obtain ⟨rfl, hsz, hP, hK, hD0, hN, hE⟩ := hv
  have hx := B.exec
  have hb := B.bytes
  have hr := B.returns
  have hts := atoms_spec (ws := wsJxc12de_init_da8c8) B.pre
  have hown : s.vm.findClass RJxc12de = some m.cls := findClass_of_methodNamed B.named
  have hlocks := B.notSynchronized
  have hin : meth.name = "<init>" := (name_of_methodNamed B.named B.method).1
  subst hsz
  have hD := hD0.self (sz := s.heap.size)
  generalize hAe : va_A [(a3, .inr (0, [.int md, .null, .int 0]))] s.heap.size = A at hD hE ⊢
  have hA : ∀ q : Nat, s.heap.size ≤ q → A q := fun q h => by rw [← hAe]; exact Or.inr h
  have hS : va_S A s.heap s.heap [] := va_S.rf
  have hP : va_P D vwCl [(a3, .inr (0, [.int md, .null, .int 0]))] s.heap := hP
  have hl := lv_entry ([.ref a3]) (n := 1) (Nat.le_of_ble_eq_true rfl)
  rw [lg_entry_eq]
  generalize (lg_sl ([.ref a3]) ++ List.replicate (1 - (lg_sl ([.ref a3])).length) Slot.unset).toArray = ls at hl ⊢
  have hl : lv_has ls 1 [(0, .ref a3)] := hl
  have w_0 := hts (.initialized RJxa1e45) (by decide +kernel)
  have w_1 := hts (.methodLink RJxc12de 1 yJxa1e45_init_da8c8) (by decide +kernel)
  have w_2 := hts (.instanceMethod yJxa1e45_init_da8c8) (by decide +kernel)
  have w_3 := hts (.fieldLink RJxc12de 7 "java/util/AbstractList" "modCount" "I") (by decide +kernel)
  refine lv_aload_n hx hb dJxc12de_init_da8c8_0 rfl (lv_at hl 0 rfl) ?_
  have hPc := hP.sub (ws' := [(a3, .inr (0, [.int md, .null, .int 0]))]) [0] rfl
  have hDc := hD.sub (ws' := [(a3, .inr (0, [.int md, .null, .int 0]))]) [0] (by decide) rfl
  have hFc := va_free (wc := [(a3, .inr (0, [.int md, .null, .int 0]))]) hD hS hA [0] rfl
  refine va_callv (va_runI (As := []) (rest := []) ⟨hx, hb, hml, hown, hts⟩ (c_E_Jxa1e45_init_da8c8 l hlt D tC dz s.heap.size a3 md ) (cwI 0 hts gJxc12de_init_da8c8_Jxa1e45_init_da8c8 rfl rfl rfl w_0 w_1 w_2 rfl (by decide +kernel) ⟨Nat.le_of_ble_eq_true rfl, Nat.le_of_ble_eq_true rfl⟩) ⟨pB_blind, pB_at hPc hDc hK hN hE hS hFc⟩ rfl rfl hl.1 rfl (lv_room (Nat.le_of_ble_eq_true rfl)) dJxc12de_init_da8c8_1 ⟨Nat.le_of_ble_eq_true rfl, Nat.le_of_ble_eq_true rfl⟩) hS (fun q _ h => hFc q h) hFc (fun u t H1 locs ht hvm hw hB hz1 hk1 hS => ?_)
  obtain ⟨hP1, _, hD1⟩ := hB
  have hw_2 := hw
  rw [ht] at hP1
  obtain ⟨hP, hD⟩ := va_join (wr := []) (w1 := [(a3, .inr (0, [.int md, .null, .int 0]))]) hP hD [0] [] rfl rfl (by decide) (by decide) hk1 hFc hP1 hD1
  generalize H1 = H at hP hS ⊢
  have hP : va_P D vwCl [(a3, .inr (0, [.int md, .null, .int 0]))] H := hP
  have hD : va_D A [(a3, .inr (0, [.int md, .null, .int 0]))] := hD
  refine lv_aload_n hx hb dJxc12de_init_da8c8_4 rfl (lv_at hl 0 rfl) ?_
  refine lv_iconst (v := 0) hx hb dJxc12de_init_da8c8_5 (by decide) ?_
  refine va_put (D := D) (ci := 0) (v := .int 0) (ty := .int) (C := RJx4a65c) (T := TJx4a65c) (N := 3) hx hb hts in_Jxc12de_init_da8c8_Jx4a65c tyJx4a65c tyJx4a65c_ok nmJx4a65c hown hK hP hD hS 0 rfl rfl 0 (by decide) w_3 (fun _ h9 => h9) rfl (by decide +kernel) (by first | rfl | decide) rfl (Nat.le_of_ble_eq_true rfl) dJxc12de_init_da8c8_6 (fun H locs hP hD hS => ?_)
  have hP : va_P D vwCl [(a3, .inr (0, [.int 0, .null, .int 0]))] H := hP
  have hD : va_D A [(a3, .inr (0, [.int 0, .null, .int 0]))] := hD
  have hP9 := hP.sub (ws' := [(a3, .inr (0, [.int 0, .null, .int 0]))]) [0] rfl
  have hD9 := hD.sub (ws' := [(a3, .inr (0, [.int 0, .null, .int 0]))]) [0] (by decide) rfl
  refine W.widen (k := 0) (n := 0) (by omega) (by omega) ?_
  exact W.vret hx hb hr (fun t ht hW => ⟨⟨(), rfl, trivial, (by rw [ht]; exact hP9), va_K.moved hW.alike hK, hD9⟩, hS.F ht⟩) hS.2.2 dJxc12de_init_da8c8_9 hlocks
set_option maxHeartbeats 4000000 in
set_option maxRecDepth 100000 in
theorem c_E_Jx4a65c_init_da8c8 (l : Launch) (hlt : l.stackTraces = false) (D : va_G) (tC : Nat → ClassId) (dz sz : Nat) (a3 : Nat) (md : Int32)  : Met l yJx4a65c_init_da8c8 wsJx4a65c_init_da8c8 ({ frames := 3, cells := 0, slots := 0, locals := 52 }) (va_Pc [.ref a3] (pB D tC dz [(a3, .inr (0, [.int md, .null, .int 0]))] sz)) (va_Qv (fun (_ : Unit) => True) (fun (_ : Unit) t => pA D tC (va_A [(a3, .inr (0, [.int md, .null, .int 0]))] sz) [(a3, .inr (0, [.int 0, .ref dz, .int 0]))] t) (va_A [(a3, .inr (0, [.int md, .null, .int 0]))] sz)) 0 0 (va_A [(a3, .inr (0, [.int md, .null, .int 0]))] sz) := by
  refine Met.ofW (cc := cJx4a65c_init_da8c8) (maxL := 1) (ret := none) (by decide) rfl ?_
  intro p e s m args below meth c s₁ B hml hv
  obtain ⟨rfl, hsz, hP, hK, hD0, hN, hE⟩ := hv
  have hx := B.exec
  have hb := B.bytes
  have hr := B.returns
  have hts := atoms_spec (ws := wsJx4a65c_init_da8c8) B.pre
  have hown : s.vm.findClass RJx4a65c = some m.cls := findClass_of_methodNamed B.named
  have hlocks := B.notSynchronized
  have hin : meth.name = "<init>" := (name_of_methodNamed B.named B.method).1
  subst hsz
  have hD := hD0.self (sz := s.heap.size)
  generalize hAe : va_A [(a3, .inr (0, [.int md, .null, .int 0]))] s.heap.size = A at hD hE ⊢
  have hA : ∀ q : Nat, s.heap.size ≤ q → A q := fun q h => by rw [← hAe]; exact Or.inr h
  have hS : va_S A s.heap s.heap [] := va_S.rf
  have hP : va_P D vwCl [(a3, .inr (0, [.int md, .null, .int 0]))] s.heap := hP
  have hl := lv_entry ([.ref a3]) (n := 1) (Nat.le_of_ble_eq_true rfl)
  rw [lg_entry_eq]
  generalize (lg_sl ([.ref a3]) ++ List.replicate (1 - (lg_sl ([.ref a3])).length) Slot.unset).toArray = ls at hl ⊢
  have hl : lv_has ls 1 [(0, .ref a3)] := hl
  have w_0 := hts (.initialized RJxc12de) (by decide +kernel)
  have w_1 := hts (.methodLink RJx4a65c 1 yJxc12de_init_da8c8) (by decide +kernel)
  have w_2 := hts (.instanceMethod yJxc12de_init_da8c8) (by decide +kernel)
  have w_3 := hts (.fieldLink RJx4a65c 39 "java/util/ArrayList" "DEFAULTCAPACITY_EMPTY_ELEMENTDATA" "[Ljava/lang/Object;") (by decide +kernel)
  have w_4 := hts (.fieldLink RJx4a65c 9 "java/util/ArrayList" "elementData" "[Ljava/lang/Object;") (by decide +kernel)
  refine lv_aload_n hx hb dJx4a65c_init_da8c8_0 rfl (lv_at hl 0 rfl) ?_
  have hPc := hP.sub (ws' := [(a3, .inr (0, [.int md, .null, .int 0]))]) [0] rfl
  have hDc := hD.sub (ws' := [(a3, .inr (0, [.int md, .null, .int 0]))]) [0] (by decide) rfl
  have hFc := va_free (wc := [(a3, .inr (0, [.int md, .null, .int 0]))]) hD hS hA [0] rfl
  refine va_callv (va_runI (As := []) (rest := []) ⟨hx, hb, hml, hown, hts⟩ (c_E_Jxc12de_init_da8c8 l hlt D tC dz s.heap.size a3 md ) (cwI 0 hts gJx4a65c_init_da8c8_Jxc12de_init_da8c8 rfl rfl rfl w_0 w_1 w_2 rfl (by decide +kernel) ⟨Nat.le_of_ble_eq_true rfl, Nat.le_of_ble_eq_true rfl⟩) ⟨pB_blind, pB_at hPc hDc hK hN hE hS hFc⟩ rfl rfl hl.1 rfl (lv_room (Nat.le_of_ble_eq_true rfl)) dJx4a65c_init_da8c8_1 ⟨Nat.le_of_ble_eq_true rfl, Nat.le_of_ble_eq_true rfl⟩) hS (fun q _ h => hFc q h) hFc (fun u t H1 locs ht hvm hw hB hz1 hk1 hS => ?_)
  obtain ⟨hP1, _, hD1⟩ := hB
  have hw_2 := hw
  rw [ht] at hP1
  obtain ⟨hP, hD⟩ := va_join (wr := []) (w1 := [(a3, .inr (0, [.int 0, .null, .int 0]))]) hP hD [0] [] rfl rfl (by decide) (by decide) hk1 hFc hP1 hD1
  generalize H1 = H at hP hS ⊢
  have hP : va_P D vwCl [(a3, .inr (0, [.int 0, .null, .int 0]))] H := hP
  have hD : va_D A [(a3, .inr (0, [.int 0, .null, .int 0]))] := hD
  refine lv_aload_n hx hb dJx4a65c_init_da8c8_4 rfl (lv_at hl 0 rfl) ?_
  refine va_gets hx hb hE.2.2.1 hS hown w_3 (fun _ h9 => h9) dJx4a65c_init_da8c8_5 ?_
  refine va_put (D := D) (ci := 0) (v := .ref dz) (ty := .array (.object "java/lang/Object")) (C := RJx4a65c) (T := TJx4a65c) (N := 3) hx hb hts in_Jx4a65c_init_da8c8_Jx4a65c tyJx4a65c tyJx4a65c_ok nmJx4a65c hown hK hP hD hS 0 rfl rfl 1 (by decide) w_4 (fun _ h9 => h9) rfl (by decide +kernel) (by first | rfl | decide) rfl (Nat.le_of_ble_eq_true rfl) dJx4a65c_init_da8c8_8 (fun H locs hP hD hS => ?_)
  have hP : va_P D vwCl [(a3, .inr (0, [.int 0, .ref dz, .int 0]))] H := hP
  have hD : va_D A [(a3, .inr (0, [.int 0, .ref dz, .int 0]))] := hD
  have hP9 := hP.sub (ws' := [(a3, .inr (0, [.int 0, .ref dz, .int 0]))]) [0] rfl
  have hD9 := hD.sub (ws' := [(a3, .inr (0, [.int 0, .ref dz, .int 0]))]) [0] (by decide) rfl
  refine W.widen (k := 0) (n := 0) (by omega) (by omega) ?_
  exact W.vret hx hb hr (fun t ht hW => ⟨⟨(), rfl, trivial, (by rw [ht]; exact hP9), va_K.moved hW.alike hK, hD9⟩, hS.F ht⟩) hS.2.2 dJx4a65c_init_da8c8_11 hlocks
set_option maxHeartbeats 4000000 in
set_option maxRecDepth 100000 in
theorem c_E_X2_init (l : Launch) (hlt : l.stackTraces = false) (D : va_G) (tC : Nat → ClassId) (dz sz : Nat) (f : Nat) (e1 : Nat) (e2 : Nat) (u1 : Int32) (u2 : Int32)  : Met l yX2_init wsX2_init ({ frames := 1, cells := 0, slots := 0, locals := 12 }) (va_Pc [.ref f, .ref e1, .ref e2, .int u1, .int u2] (pB D tC dz [(f, .inr (3, [.null, .null, .int 0, .int 0]))] sz)) (va_Qv (fun (_ : Unit) => True) (fun (_ : Unit) t => pA D tC (va_A [(f, .inr (3, [.null, .null, .int 0, .int 0]))] sz) [(f, .inr (3, [.ref e1, .ref e2, .int u1, .int u2]))] t) (va_A [(f, .inr (3, [.null, .null, .int 0, .int 0]))] sz)) 0 0 (va_A [(f, .inr (3, [.null, .null, .int 0, .int 0]))] sz) := by
  refine Met.ofW (cc := cX2_init) (maxL := 5) (ret := none) (by decide) rfl ?_
  intro p e s m args below meth c s₁ B hml hv
  obtain ⟨rfl, hsz, hP, hK, hD0, hN, hE⟩ := hv
  have hx := B.exec
  have hb := B.bytes
  have hr := B.returns
  have hts := atoms_spec (ws := wsX2_init) B.pre
  have hown : s.vm.findClass RX2 = some m.cls := findClass_of_methodNamed B.named
  have hlocks := B.notSynchronized
  have hin : meth.name = "<init>" := (name_of_methodNamed B.named B.method).1
  subst hsz
  have hD := hD0.self (sz := s.heap.size)
  generalize hAe : va_A [(f, .inr (3, [.null, .null, .int 0, .int 0]))] s.heap.size = A at hD hE ⊢
  have hA : ∀ q : Nat, s.heap.size ≤ q → A q := fun q h => by rw [← hAe]; exact Or.inr h
  have hS : va_S A s.heap s.heap [] := va_S.rf
  have hP : va_P D vwCl [(f, .inr (3, [.null, .null, .int 0, .int 0]))] s.heap := hP
  have hl := lv_entry ([.ref f, .ref e1, .ref e2, .int u1, .int u2]) (n := 5) (Nat.le_of_ble_eq_true rfl)
  rw [lg_entry_eq]
  generalize (lg_sl ([.ref f, .ref e1, .ref e2, .int u1, .int u2]) ++ List.replicate (5 - (lg_sl ([.ref f, .ref e1, .ref e2, .int u1, .int u2])).length) Slot.unset).toArray = ls at hl ⊢
  have hl : lv_has ls 5 [(0, .ref f), (1, .ref e1), (2, .ref e2), (3, .int u1), (4, .int u2)] := hl
  have w_0 := hts (.methodLink RX2 1 objectInit) (by decide +kernel)
  have w_1 := hts (.instanceMethod objectInit) (by decide +kernel)
  have w_2 := hts (.code objectInit ⟨#[0xb1]⟩ 1 none) (by decide +kernel)
  have w_3 := hts (.fieldLink RX2 7 "NoticeStations$Standing" "entries" "[I") (by decide +kernel)
  have w_4 := hts (.fieldLink RX2 13 "NoticeStations$Standing" "numbers" "[I") (by decide +kernel)
  have w_5 := hts (.fieldLink RX2 16 "NoticeStations$Standing" "size" "I") (by decide +kernel)
  have w_6 := hts (.fieldLink RX2 20 "NoticeStations$Standing" "named" "I") (by decide +kernel)
  refine lv_aload_n hx hb dX2_init_0 rfl (lv_at hl 0 rfl) ?_
  refine W.objInit hx hb hown w_0 w_1 w_2 rfl (by rw [hml]; exact hl.1) rfl dX2_init_1 (Nat.le_of_ble_eq_true rfl) (Nat.le_of_ble_eq_true rfl) ?_
  refine W.eq (g2 := F0 m 4 ls []) rfl ?_
  refine lv_aload_n hx hb dX2_init_4 rfl (lv_at hl 0 rfl) ?_
  refine lv_aload_n hx hb dX2_init_5 rfl (lv_at hl 1 rfl) ?_
  refine va_putF (D := D) (ci := 3) (v := .ref e1) (ty := .array .int) (C := RX2) (T := TX2) (N := 4) hx hb hts in_X2_init_X2 tyX2 tyX2_ok nmX2 hown hK hP hD hS 0 rfl rfl 0 (by decide) w_3 (fun _ h9 => h9) rfl hin rfl (by decide +kernel) (by first | rfl | decide) rfl (Nat.le_of_ble_eq_true rfl) dX2_init_6 (fun H locs hP hD hS => ?_)
  have hP : va_P D vwCl [(f, .inr (3, [.ref e1, .null, .int 0, .int 0]))] H := hP
  have hD : va_D A [(f, .inr (3, [.ref e1, .null, .int 0, .int 0]))] := hD
  refine lv_aload_n hx hb dX2_init_9 rfl (lv_at hl 0 rfl) ?_
  refine lv_aload_n hx hb dX2_init_10 rfl (lv_at hl 2 rfl) ?_
  refine va_putF (D := D) (ci := 3) (v := .ref e2) (ty := .array .int) (C := RX2) (T := TX2) (N := 4) hx hb hts in_X2_init_X2 tyX2 tyX2_ok nmX2 hown hK hP hD hS 0 rfl rfl 1 (by decide) w_4 (fun _ h9 => h9) rfl hin rfl (by decide +kernel) (by first | rfl | decide) rfl (Nat.le_of_ble_eq_true rfl) dX2_init_11 (fun H locs hP hD hS => ?_)
  have hP : va_P D vwCl [(f, .inr (3, [.ref e1, .ref e2, .int 0, .int 0]))] H := hP
  have hD : va_D A [(f, .inr (3, [.ref e1, .ref e2, .int 0, .int 0]))] := hD
  refine lv_aload_n hx hb dX2_init_14 rfl (lv_at hl 0 rfl) ?_
  refine lv_iload_n hx hb dX2_init_15 rfl (lv_at hl 3 rfl) ?_
  refine va_putF (D := D) (ci := 3) (v := .int u1) (ty := .int) (C := RX2) (T := TX2) (N := 4) hx hb hts in_X2_init_X2 tyX2 tyX2_ok nmX2 hown hK hP hD hS 0 rfl rfl 2 (by decide) w_5 (fun _ h9 => h9) rfl hin rfl (by decide +kernel) (by first | rfl | decide) rfl (Nat.le_of_ble_eq_true rfl) dX2_init_16 (fun H locs hP hD hS => ?_)
  have hP : va_P D vwCl [(f, .inr (3, [.ref e1, .ref e2, .int u1, .int 0]))] H := hP
  have hD : va_D A [(f, .inr (3, [.ref e1, .ref e2, .int u1, .int 0]))] := hD
  refine lv_aload_n hx hb dX2_init_19 rfl (lv_at hl 0 rfl) ?_
  refine lv_iload hx hb dX2_init_20 (lv_at hl 4 rfl) ?_
  refine va_putF (D := D) (ci := 3) (v := .int u2) (ty := .int) (C := RX2) (T := TX2) (N := 4) hx hb hts in_X2_init_X2 tyX2 tyX2_ok nmX2 hown hK hP hD hS 0 rfl rfl 3 (by decide) w_6 (fun _ h9 => h9) rfl hin rfl (by decide +kernel) (by first | rfl | decide) rfl (Nat.le_of_ble_eq_true rfl) dX2_init_22 (fun H locs hP hD hS => ?_)
  have hP : va_P D vwCl [(f, .inr (3, [.ref e1, .ref e2, .int u1, .int u2]))] H := hP
  have hD : va_D A [(f, .inr (3, [.ref e1, .ref e2, .int u1, .int u2]))] := hD
  have hP9 := hP.sub (ws' := [(f, .inr (3, [.ref e1, .ref e2, .int u1, .int u2]))]) [0] rfl
  have hD9 := hD.sub (ws' := [(f, .inr (3, [.ref e1, .ref e2, .int u1, .int u2]))]) [0] (by decide) rfl
  refine W.widen (k := 0) (n := 0) (by omega) (by omega) ?_
  exact W.vret hx hb hr (fun t ht hW => ⟨⟨(), rfl, trivial, (by rw [ht]; exact hP9), va_K.moved hW.alike hK, hD9⟩, hS.F ht⟩) hS.2.2 dX2_init_25 hlocks
set_option maxHeartbeats 4000000 in
set_option maxRecDepth 100000 in
theorem c_E_X3_init (l : Launch) (hlt : l.stackTraces = false) (D : va_G) (tC : Nat → ClassId) (dz sz : Nat) (q : Nat) (f : Nat) (ow : Int32)  : Met l yX3_init wsX3_init ({ frames := 1, cells := 0, slots := 0, locals := 12 }) (va_Pc [.ref q, .int ow, .ref f] (pB D tC dz [(q, .inr (4, [.int 0, .int 0, .null, .int 0, .int 0, .null, .int 0, .null]))] sz)) (va_Qv (fun (_ : Unit) => True) (fun (_ : Unit) t => pA D tC (va_A [(q, .inr (4, [.int 0, .int 0, .null, .int 0, .int 0, .null, .int 0, .null]))] sz) [(q, .inr (4, [.int ow, .int 1, .ref f, .int 0, .int (-1), .null, .int (-1), .null]))] t) (va_A [(q, .inr (4, [.int 0, .int 0, .null, .int 0, .int 0, .null, .int 0, .null]))] sz)) 0 0 (va_A [(q, .inr (4, [.int 0, .int 0, .null, .int 0, .int 0, .null, .int 0, .null]))] sz) := by
  refine Met.ofW (cc := cX3_init) (maxL := 3) (ret := none) (by decide) rfl ?_
  intro p e s m args below meth c s₁ B hml hv
  obtain ⟨rfl, hsz, hP, hK, hD0, hN, hE⟩ := hv
  have hx := B.exec
  have hb := B.bytes
  have hr := B.returns
  have hts := atoms_spec (ws := wsX3_init) B.pre
  have hown : s.vm.findClass RX3 = some m.cls := findClass_of_methodNamed B.named
  have hlocks := B.notSynchronized
  have hin : meth.name = "<init>" := (name_of_methodNamed B.named B.method).1
  subst hsz
  have hD := hD0.self (sz := s.heap.size)
  generalize hAe : va_A [(q, .inr (4, [.int 0, .int 0, .null, .int 0, .int 0, .null, .int 0, .null]))] s.heap.size = A at hD hE ⊢
  have hA : ∀ q : Nat, s.heap.size ≤ q → A q := fun q h => by rw [← hAe]; exact Or.inr h
  have hS : va_S A s.heap s.heap [] := va_S.rf
  have hP : va_P D vwCl [(q, .inr (4, [.int 0, .int 0, .null, .int 0, .int 0, .null, .int 0, .null]))] s.heap := hP
  have hl := lv_entry ([.ref q, .int ow, .ref f]) (n := 3) (Nat.le_of_ble_eq_true rfl)
  rw [lg_entry_eq]
  generalize (lg_sl ([.ref q, .int ow, .ref f]) ++ List.replicate (3 - (lg_sl ([.ref q, .int ow, .ref f])).length) Slot.unset).toArray = ls at hl ⊢
  have hl : lv_has ls 3 [(0, .ref q), (1, .int ow), (2, .ref f)] := hl
  have w_0 := hts (.methodLink RX3 3 objectInit) (by decide +kernel)
  have w_1 := hts (.instanceMethod objectInit) (by decide +kernel)
  have w_2 := hts (.code objectInit ⟨#[0xb1]⟩ 1 none) (by decide +kernel)
  have w_3 := hts (.fieldLink RX3 9 "NoticeStations$Station" "up" "Z") (by decide +kernel)
  have w_4 := hts (.fieldLink RX3 15 "NoticeStations$Station" "began" "I") (by decide +kernel)
  have w_5 := hts (.fieldLink RX3 19 "NoticeStations$Station" "preparedNumber" "I") (by decide +kernel)
  have w_6 := hts (.fieldLink RX3 22 "NoticeStations$Station" "preparedStanding" "LNoticeStations$Standing;") (by decide +kernel)
  have w_7 := hts (.fieldLink RX3 26 "NoticeStations$Station" "lock" "I") (by decide +kernel)
  have w_8 := hts (.fieldLink RX3 29 "NoticeStations$Station" "open" "LNoticeStations$OpenWrite;") (by decide +kernel)
  have w_9 := hts (.fieldLink RX3 33 "NoticeStations$Station" "own" "I") (by decide +kernel)
  have w_10 := hts (.fieldLink RX3 36 "NoticeStations$Station" "stored" "LNoticeStations$Standing;") (by decide +kernel)
  refine lv_aload_n hx hb dX3_init_0 rfl (lv_at hl 0 rfl) ?_
  refine W.objInit hx hb hown w_0 w_1 w_2 rfl (by rw [hml]; exact hl.1) rfl dX3_init_1 (Nat.le_of_ble_eq_true rfl) (Nat.le_of_ble_eq_true rfl) ?_
  refine W.eq (g2 := F0 m 4 ls []) rfl ?_
  refine lv_aload_n hx hb dX3_init_4 rfl (lv_at hl 0 rfl) ?_
  refine lv_iconst (v := 1) hx hb dX3_init_5 (by decide) ?_
  refine va_put (D := D) (ci := 4) (v := .int 1) (ty := .boolean) (C := RX3) (T := TX3) (N := 8) hx hb hts in_X3_init_X3 tyX3 tyX3_ok nmX3 hown hK hP hD hS 0 rfl rfl 1 (by decide) w_3 (fun _ h9 => h9) rfl (by decide +kernel) (by first | rfl | decide) rfl (Nat.le_of_ble_eq_true rfl) dX3_init_6 (fun H locs hP hD hS => ?_)
  have hP : va_P D vwCl [(q, .inr (4, [.int 0, .int 1, .null, .int 0, .int 0, .null, .int 0, .null]))] H := hP
  have hD : va_D A [(q, .inr (4, [.int 0, .int 1, .null, .int 0, .int 0, .null, .int 0, .null]))] := hD
  refine lv_aload_n hx hb dX3_init_9 rfl (lv_at hl 0 rfl) ?_
  refine lv_iconst (v := 0) hx hb dX3_init_10 (by decide) ?_
  refine va_put (D := D) (ci := 4) (v := .int 0) (ty := .int) (C := RX3) (T := TX3) (N := 8) hx hb hts in_X3_init_X3 tyX3 tyX3_ok nmX3 hown hK hP hD hS 0 rfl rfl 3 (by decide) w_4 (fun _ h9 => h9) rfl (by decide +kernel) (by first | rfl | decide) rfl (Nat.le_of_ble_eq_true rfl) dX3_init_11 (fun H locs hP hD hS => ?_)
  have hP : va_P D vwCl [(q, .inr (4, [.int 0, .int 1, .null, .int 0, .int 0, .null, .int 0, .null]))] H := hP
  have hD : va_D A [(q, .inr (4, [.int 0, .int 1, .null, .int 0, .int 0, .null, .int 0, .null]))] := hD
  refine lv_aload_n hx hb dX3_init_14 rfl (lv_at hl 0 rfl) ?_
  refine lv_iconst (v := (-1)) hx hb dX3_init_15 (by decide) ?_
  refine va_put (D := D) (ci := 4) (v := .int (-1)) (ty := .int) (C := RX3) (T := TX3) (N := 8) hx hb hts in_X3_init_X3 tyX3 tyX3_ok nmX3 hown hK hP hD hS 0 rfl rfl 4 (by decide) w_5 (fun _ h9 => h9) rfl (by decide +kernel) (by first | rfl | decide) rfl (Nat.le_of_ble_eq_true rfl) dX3_init_16 (fun H locs hP hD hS => ?_)
  have hP : va_P D vwCl [(q, .inr (4, [.int 0, .int 1, .null, .int 0, .int (-1), .null, .int 0, .null]))] H := hP
  have hD : va_D A [(q, .inr (4, [.int 0, .int 1, .null, .int 0, .int (-1), .null, .int 0, .null]))] := hD
  refine lv_aload_n hx hb dX3_init_19 rfl (lv_at hl 0 rfl) ?_
  refine lv_null hx hb dX3_init_20 ?_
  refine va_put (D := D) (ci := 4) (v := .null) (ty := .object "NoticeStations$Standing") (C := RX3) (T := TX3) (N := 8) hx hb hts in_X3_init_X3 tyX3 tyX3_ok nmX3 hown hK hP hD hS 0 rfl rfl 5 (by decide) w_6 (fun _ h9 => h9) rfl (by decide +kernel) (by first | rfl | decide) rfl (Nat.le_of_ble_eq_true rfl) dX3_init_21 (fun H locs hP hD hS => ?_)
  have hP : va_P D vwCl [(q, .inr (4, [.int 0, .int 1, .null, .int 0, .int (-1), .null, .int 0, .null]))] H := hP
  have hD : va_D A [(q, .inr (4, [.int 0, .int 1, .null, .int 0, .int (-1), .null, .int 0, .null]))] := hD
  refine lv_aload_n hx hb dX3_init_24 rfl (lv_at hl 0 rfl) ?_
  refine lv_iconst (v := (-1)) hx hb dX3_init_25 (by decide) ?_
  refine va_put (D := D) (ci := 4) (v := .int (-1)) (ty := .int) (C := RX3) (T := TX3) (N := 8) hx hb hts in_X3_init_X3 tyX3 tyX3_ok nmX3 hown hK hP hD hS 0 rfl rfl 6 (by decide) w_7 (fun _ h9 => h9) rfl (by decide +kernel) (by first | rfl | decide) rfl (Nat.le_of_ble_eq_true rfl) dX3_init_26 (fun H locs hP hD hS => ?_)
  have hP : va_P D vwCl [(q, .inr (4, [.int 0, .int 1, .null, .int 0, .int (-1), .null, .int (-1), .null]))] H := hP
  have hD : va_D A [(q, .inr (4, [.int 0, .int 1, .null, .int 0, .int (-1), .null, .int (-1), .null]))] := hD
  refine lv_aload_n hx hb dX3_init_29 rfl (lv_at hl 0 rfl) ?_
  refine lv_null hx hb dX3_init_30 ?_
  refine va_put (D := D) (ci := 4) (v := .null) (ty := .object "NoticeStations$OpenWrite") (C := RX3) (T := TX3) (N := 8) hx hb hts in_X3_init_X3 tyX3 tyX3_ok nmX3 hown hK hP hD hS 0 rfl rfl 7 (by decide) w_8 (fun _ h9 => h9) rfl (by decide +kernel) (by first | rfl | decide) rfl (Nat.le_of_ble_eq_true rfl) dX3_init_31 (fun H locs hP hD hS => ?_)
  have hP : va_P D vwCl [(q, .inr (4, [.int 0, .int 1, .null, .int 0, .int (-1), .null, .int (-1), .null]))] H := hP
  have hD : va_D A [(q, .inr (4, [.int 0, .int 1, .null, .int 0, .int (-1), .null, .int (-1), .null]))] := hD
  refine lv_aload_n hx hb dX3_init_34 rfl (lv_at hl 0 rfl) ?_
  refine lv_iload_n hx hb dX3_init_35 rfl (lv_at hl 1 rfl) ?_
  refine va_putF (D := D) (ci := 4) (v := .int ow) (ty := .int) (C := RX3) (T := TX3) (N := 8) hx hb hts in_X3_init_X3 tyX3 tyX3_ok nmX3 hown hK hP hD hS 0 rfl rfl 0 (by decide) w_9 (fun _ h9 => h9) rfl hin rfl (by decide +kernel) (by first | rfl | decide) rfl (Nat.le_of_ble_eq_true rfl) dX3_init_36 (fun H locs hP hD hS => ?_)
  have hP : va_P D vwCl [(q, .inr (4, [.int ow, .int 1, .null, .int 0, .int (-1), .null, .int (-1), .null]))] H := hP
  have hD : va_D A [(q, .inr (4, [.int ow, .int 1, .null, .int 0, .int (-1), .null, .int (-1), .null]))] := hD
  refine lv_aload_n hx hb dX3_init_39 rfl (lv_at hl 0 rfl) ?_
  refine lv_aload_n hx hb dX3_init_40 rfl (lv_at hl 2 rfl) ?_
  refine va_put (D := D) (ci := 4) (v := .ref f) (ty := .object "NoticeStations$Standing") (C := RX3) (T := TX3) (N := 8) hx hb hts in_X3_init_X3 tyX3 tyX3_ok nmX3 hown hK hP hD hS 0 rfl rfl 2 (by decide) w_10 (fun _ h9 => h9) rfl (by decide +kernel) (by first | rfl | decide) rfl (Nat.le_of_ble_eq_true rfl) dX3_init_41 (fun H locs hP hD hS => ?_)
  have hP : va_P D vwCl [(q, .inr (4, [.int ow, .int 1, .ref f, .int 0, .int (-1), .null, .int (-1), .null]))] H := hP
  have hD : va_D A [(q, .inr (4, [.int ow, .int 1, .ref f, .int 0, .int (-1), .null, .int (-1), .null]))] := hD
  have hP9 := hP.sub (ws' := [(q, .inr (4, [.int ow, .int 1, .ref f, .int 0, .int (-1), .null, .int (-1), .null]))]) [0] rfl
  have hD9 := hD.sub (ws' := [(q, .inr (4, [.int ow, .int 1, .ref f, .int 0, .int (-1), .null, .int (-1), .null]))]) [0] (by decide) rfl
  refine W.widen (k := 0) (n := 0) (by omega) (by omega) ?_
  exact W.vret hx hb hr (fun t ht hW => ⟨⟨(), rfl, trivial, (by rw [ht]; exact hP9), va_K.moved hW.alike hK, hD9⟩, hS.F ht⟩) hS.2.2 dX3_init_44 hlocks
set_option maxHeartbeats 4000000 in
set_option maxRecDepth 100000 in
theorem c_E_X4_init (l : Launch) (hlt : l.stackTraces = false) (D : va_G) (tC : Nat → ClassId) (dz sz : Nat) (x : Nat)  : Met l yX4_init wsX4_init ({ frames := 4, cells := 12, slots := 62, locals := 72 }) (va_Pc [.ref x] (pB D tC dz [(x, .inr (5, [.null, .null, .null, .null]))] sz)) (va_Qv (fun (_ : Unit) => True) (fun (_ : Unit) t => ∃ (a1 : Nat) (a2 : Nat) (a3 : Nat) (a4 : Nat) (f : Nat) (e1 : Nat) (e2 : Nat) (qs : Nat → Nat) (fs : Nat → Option Nat) (cb : Nat → Int32), (∀ i : Nat, i < 5 → fs i = some (qs i)) ∧ (∀ i : Nat, i < 5 → cb i = cbv i) ∧ pA D tC (va_A [(x, .inr (5, [.null, .null, .null, .null]))] sz) [(x, .inr (5, [.ref a1, .ref a2, .ref a3, .ref a4])), (a1, wT tC 5 fs), (a2, wI tC 5 cb), (a3, .inr (0, [.int 0, .ref dz, .int 0])), (a4, wS tC 5 (fun _ => none)), (f, .inr (3, [.ref e1, .ref e2, .int 5, .int 0])), (e1, wI tC 0 (fun _ => 0)), (e2, wI tC 0 (fun _ => 0)), ((qs 0), .inr (4, [.int 0, .int 1, .ref f, .int 0, .int (-1), .null, .int (-1), .null])), ((qs 1), .inr (4, [.int 1, .int 1, .ref f, .int 0, .int (-1), .null, .int (-1), .null])), ((qs 2), .inr (4, [.int 2, .int 1, .ref f, .int 0, .int (-1), .null, .int (-1), .null])), ((qs 3), .inr (4, [.int 3, .int 1, .ref f, .int 0, .int (-1), .null, .int (-1), .null])), ((qs 4), .inr (4, [.int 4, .int 1, .ref f, .int 0, .int (-1), .null, .int (-1), .null]))] t) (va_A [(x, .inr (5, [.null, .null, .null, .null]))] sz)) 12 62 (va_A [(x, .inr (5, [.null, .null, .null, .null]))] sz) := by
  refine Met.ofW (cc := cX4_init) (maxL := 3) (ret := none) (by decide) rfl ?_
  intro p e s m args below meth c s₁ B hml hv
  obtain ⟨rfl, hsz, hP, hK, hD0, hN, hE⟩ := hv
  have hx := B.exec
  have hb := B.bytes
  have hr := B.returns
  have hts := atoms_spec (ws := wsX4_init) B.pre
  have hown : s.vm.findClass RX4 = some m.cls := findClass_of_methodNamed B.named
  have hlocks := B.notSynchronized
  have hin : meth.name = "<init>" := (name_of_methodNamed B.named B.method).1
  subst hsz
  have hD := hD0.self (sz := s.heap.size)
  generalize hAe : va_A [(x, .inr (5, [.null, .null, .null, .null]))] s.heap.size = A at hD hE ⊢
  have hA : ∀ q : Nat, s.heap.size ≤ q → A q := fun q h => by rw [← hAe]; exact Or.inr h
  have hS : va_S A s.heap s.heap [] := va_S.rf
  have hP : va_P D vwCl [(x, .inr (5, [.null, .null, .null, .null]))] s.heap := hP
  have hl := lv_entry ([.ref x]) (n := 3) (Nat.le_of_ble_eq_true rfl)
  rw [lg_entry_eq]
  generalize (lg_sl ([.ref x]) ++ List.replicate (3 - (lg_sl ([.ref x])).length) Slot.unset).toArray = ls at hl ⊢
  have hl : lv_has ls 3 [(0, .ref x)] := hl
  have w_0 := hts (.methodLink RX4 1 objectInit) (by decide +kernel)
  have w_1 := hts (.instanceMethod objectInit) (by decide +kernel)
  have w_2 := hts (.code objectInit ⟨#[0xb1]⟩ 1 none) (by decide +kernel)
  have w_3 := hts (.classLink RX4 9 RX3) (by decide +kernel)
  have w_4 := hts (.fieldLink RX4 11 "NoticeStations" "stations" "[LNoticeStations$Station;") (by decide +kernel)
  have w_5 := hts (.arrayClass .int) (by decide +kernel)
  have w_6 := hts (.fieldLink RX4 15 "NoticeStations" "cables" "[I") (by decide +kernel)
  have w_7 := hts (.classLink RX4 19 RJx4a65c) (by decide +kernel)
  have w_8 := hts (.instantiable RJx4a65c 3) (by decide +kernel)
  have w_9 := hts (.initialized RJx4a65c) (by decide +kernel)
  have w_10 := hts (.methodLink RX4 21 yJx4a65c_init_da8c8) (by decide +kernel)
  have w_11 := hts (.instanceMethod yJx4a65c_init_da8c8) (by decide +kernel)
  have w_12 := hts (.fieldLink RX4 22 "NoticeStations" "row" "Ljava/util/ArrayList;") (by decide +kernel)
  have w_13 := hts (.classLink RX4 26 RX2) (by decide +kernel)
  have w_14 := hts (.fieldLink RX4 28 "NoticeStations" "asIfGranted" "[LNoticeStations$Standing;") (by decide +kernel)
  have w_15 := hts (.instantiable RX2 4) (by decide +kernel)
  have w_16 := hts (.initialized RX2) (by decide +kernel)
  have w_17 := hts (.instanceMethod yX2_init) (by decide +kernel)
  have w_18 := hts (.instantiable RX3 8) (by decide +kernel)
  have w_19 := hts (.initialized RX3) (by decide +kernel)
  have w_20 := hts (.instanceMethod yX3_init) (by decide +kernel)
  refine lv_aload_n hx hb dX4_init_0 rfl (lv_at hl 0 rfl) ?_
  refine W.objInit hx hb hown w_0 w_1 w_2 rfl (by rw [hml]; exact hl.1) rfl dX4_init_1 (Nat.le_of_ble_eq_true rfl) (Nat.le_of_ble_eq_true rfl) ?_
  refine W.eq (g2 := F0 m 4 ls []) rfl ?_
  refine lv_aload_n hx hb dX4_init_4 rfl (lv_at hl 0 rfl) ?_
  refine lv_iconst (v := 5) hx hb dX4_init_5 (by decide) ?_
  refine x_newq (N' := 5) (C := "NoticeStations$Station") hx hb hown w_3 (hN.2.2.2.1 "NoticeStations$Station" (by decide +kernel)) hK hP hD hS hA (i := 3) rfl (by decide) (by decide) (by decide) (Nat.le_of_ble_eq_true rfl) (Nat.le_of_ble_eq_true rfl) dX4_init_6 (fun q_1 H hP hD hS => ?_)
  have hP : va_P D vwCl [(x, .inr (5, [.null, .null, .null, .null])), (q_1, wT tC 5 (fun _ => none))] H := hP
  have hD : va_D A [(x, .inr (5, [.null, .null, .null, .null])), (q_1, wT tC 5 (fun _ => none))] := hD
  refine W.widen (k := 1) (n := 5) (by omega) (by omega) ?_
  refine va_putF (D := D) (ci := 5) (v := .ref q_1) (ty := .array (.object "NoticeStations$Station")) (C := RX4) (T := TX4) (N := 4) hx hb hts in_X4_init_X4 tyX4 tyX4_ok nmX4 hown hK hP hD hS 0 rfl rfl 0 (by decide) w_4 (fun _ h9 => h9) rfl hin rfl (by decide +kernel) (by first | rfl | decide) rfl (Nat.le_of_ble_eq_true rfl) dX4_init_9 (fun H locs hP hD hS => ?_)
  have hP : va_P D vwCl [(x, .inr (5, [.ref q_1, .null, .null, .null])), (q_1, wT tC 5 (fun _ => none))] H := hP
  have hD : va_D A [(x, .inr (5, [.ref q_1, .null, .null, .null])), (q_1, wT tC 5 (fun _ => none))] := hD
  refine lv_aload_n hx hb dX4_init_12 rfl (lv_at hl 0 rfl) ?_
  refine lv_iconst (v := 5) hx hb dX4_init_13 (by decide) ?_
  refine x_newa (N' := 5) (ty := .int) (a0 := (5, .inl (fun _ => 0))) hx hb w_5 rfl hK hP hD hS hA (i := 0) rfl (fun cA => x_newI cA _) (by decide) (by decide) (by decide) (Nat.le_of_ble_eq_true rfl) (Nat.le_of_ble_eq_true rfl) dX4_init_14 (fun q_2 H hP hD hS => ?_)
  have hP : va_P D vwCl [(x, .inr (5, [.ref q_1, .null, .null, .null])), (q_1, wT tC 5 (fun _ => none)), (q_2, wI tC 5 (fun _ => 0))] H := hP
  have hD : va_D A [(x, .inr (5, [.ref q_1, .null, .null, .null])), (q_1, wT tC 5 (fun _ => none)), (q_2, wI tC 5 (fun _ => 0))] := hD
  refine W.widen (k := 2) (n := 10) (by omega) (by omega) ?_
  refine va_putF (D := D) (ci := 5) (v := .ref q_2) (ty := .array .int) (C := RX4) (T := TX4) (N := 4) hx hb hts in_X4_init_X4 tyX4 tyX4_ok nmX4 hown hK hP hD hS 0 rfl rfl 1 (by decide) w_6 (fun _ h9 => h9) rfl hin rfl (by decide +kernel) (by first | rfl | decide) rfl (Nat.le_of_ble_eq_true rfl) dX4_init_16 (fun H locs hP hD hS => ?_)
  have hP : va_P D vwCl [(x, .inr (5, [.ref q_1, .ref q_2, .null, .null])), (q_1, wT tC 5 (fun _ => none)), (q_2, wI tC 5 (fun _ => 0))] H := hP
  have hD : va_D A [(x, .inr (5, [.ref q_1, .ref q_2, .null, .null])), (q_1, wT tC 5 (fun _ => none)), (q_2, wI tC 5 (fun _ => 0))] := hD
  refine lv_aload_n hx hb dX4_init_19 rfl (lv_at hl 0 rfl) ?_
  refine va_new (ci := 0) (fs := [.int 0, .null, .int 0]) (C := RJx4a65c) (T := TJx4a65c) (N := 3) hx hb hts in_X4_init_Jx4a65c tyJx4a65c tyJx4a65c_ok hown w_7 w_8 w_9 hK hP hD hS hA rfl (by decide +kernel) (Nat.le_of_ble_eq_true rfl) (Nat.le_of_ble_eq_true rfl) dX4_init_20 (fun q_3 H hP hD hS => ?_)
  have hP : va_P D vwCl [(x, .inr (5, [.ref q_1, .ref q_2, .null, .null])), (q_1, wT tC 5 (fun _ => none)), (q_2, wI tC 5 (fun _ => 0)), (q_3, .inr (0, [.int 0, .null, .int 0]))] H := hP
  have hD : va_D A [(x, .inr (5, [.ref q_1, .ref q_2, .null, .null])), (q_1, wT tC 5 (fun _ => none)), (q_2, wI tC 5 (fun _ => 0)), (q_3, .inr (0, [.int 0, .null, .int 0]))] := hD
  refine W.widen (k := 3) (n := 13) (by omega) (by omega) ?_
  refine lv_dup hx hb dX4_init_23 rfl ?_
  have hPc := hP.sub (ws' := [(q_3, .inr (0, [.int 0, .null, .int 0]))]) [3] rfl
  have hDc := hD.sub (ws' := [(q_3, .inr (0, [.int 0, .null, .int 0]))]) [3] (by decide) rfl
  have hFc := va_free (wc := [(q_3, .inr (0, [.int 0, .null, .int 0]))]) hD hS hA [3] rfl
  refine va_callv (va_runI (As := []) (rest := [.ref q_3, .ref x]) ⟨hx, hb, hml, hown, hts⟩ (c_E_Jx4a65c_init_da8c8 l hlt D tC dz H.size q_3 0 ) (cwI 0 hts gX4_init_Jx4a65c_init_da8c8 rfl rfl rfl w_9 w_10 w_11 rfl (by decide +kernel) ⟨Nat.le_of_ble_eq_true rfl, Nat.le_of_ble_eq_true rfl⟩) ⟨pB_blind, pB_at hPc hDc hK hN hE hS hFc⟩ rfl rfl hl.1 rfl (lv_room (Nat.le_of_ble_eq_true rfl)) dX4_init_24 ⟨Nat.le_of_ble_eq_true rfl, Nat.le_of_ble_eq_true rfl⟩) hS (fun q _ h => hFc q h) hFc (fun u t H1 locs ht hvm hw hB hz1 hk1 hS => ?_)
  obtain ⟨hP1, _, hD1⟩ := hB
  have hw_5 := hw
  rw [ht] at hP1
  obtain ⟨hP, hD⟩ := va_join (wr := [(x, .inr (5, [.ref q_1, .ref q_2, .null, .null])), (q_1, wT tC 5 (fun _ => none)), (q_2, wI tC 5 (fun _ => 0))]) (w1 := [(q_3, .inr (0, [.int 0, .ref dz, .int 0]))]) hP hD [3] [0, 1, 2] rfl rfl (by decide) (by decide) hk1 hFc hP1 hD1
  generalize H1 = H at hP hS ⊢
  have hP : va_P D vwCl [(x, .inr (5, [.ref q_1, .ref q_2, .null, .null])), (q_1, wT tC 5 (fun _ => none)), (q_2, wI tC 5 (fun _ => 0)), (q_3, .inr (0, [.int 0, .ref dz, .int 0]))] H := hP
  have hD : va_D A [(x, .inr (5, [.ref q_1, .ref q_2, .null, .null])), (q_1, wT tC 5 (fun _ => none)), (q_2, wI tC 5 (fun _ => 0)), (q_3, .inr (0, [.int 0, .ref dz, .int 0]))] := hD
  refine va_putF (D := D) (ci := 5) (v := .ref q_3) (ty := .object "java/util/ArrayList") (C := RX4) (T := TX4) (N := 4) hx hb hts in_X4_init_X4 tyX4 tyX4_ok nmX4 hown hK hP hD hS 0 rfl rfl 2 (by decide) w_12 (fun _ h9 => h9) rfl hin rfl (by decide +kernel) (by first | rfl | decide) rfl (Nat.le_of_ble_eq_true rfl) dX4_init_27 (fun H locs hP hD hS => ?_)
  have hP : va_P D vwCl [(x, .inr (5, [.ref q_1, .ref q_2, .ref q_3, .null])), (q_1, wT tC 5 (fun _ => none)), (q_2, wI tC 5 (fun _ => 0)), (q_3, .inr (0, [.int 0, .ref dz, .int 0]))] H := hP
  have hD : va_D A [(x, .inr (5, [.ref q_1, .ref q_2, .ref q_3, .null])), (q_1, wT tC 5 (fun _ => none)), (q_2, wI tC 5 (fun _ => 0)), (q_3, .inr (0, [.int 0, .ref dz, .int 0]))] := hD
  refine lv_aload_n hx hb dX4_init_30 rfl (lv_at hl 0 rfl) ?_
  refine lv_iconst (v := 5) hx hb dX4_init_31 (by decide) ?_
  refine x_newq (N' := 5) (C := "NoticeStations$Standing") hx hb hown w_13 (hN.2.2.2.1 "NoticeStations$Standing" (by decide +kernel)) hK hP hD hS hA (i := 2) rfl (by decide) (by decide) (by decide) (Nat.le_of_ble_eq_true rfl) (Nat.le_of_ble_eq_true rfl) dX4_init_32 (fun q_6 H hP hD hS => ?_)
  have hP : va_P D vwCl [(x, .inr (5, [.ref q_1, .ref q_2, .ref q_3, .null])), (q_1, wT tC 5 (fun _ => none)), (q_2, wI tC 5 (fun _ => 0)), (q_3, .inr (0, [.int 0, .ref dz, .int 0])), (q_6, wS tC 5 (fun _ => none))] H := hP
  have hD : va_D A [(x, .inr (5, [.ref q_1, .ref q_2, .ref q_3, .null])), (q_1, wT tC 5 (fun _ => none)), (q_2, wI tC 5 (fun _ => 0)), (q_3, .inr (0, [.int 0, .ref dz, .int 0])), (q_6, wS tC 5 (fun _ => none))] := hD
  refine W.widen (k := 4) (n := 18) (by omega) (by omega) ?_
  refine va_putF (D := D) (ci := 5) (v := .ref q_6) (ty := .array (.object "NoticeStations$Standing")) (C := RX4) (T := TX4) (N := 4) hx hb hts in_X4_init_X4 tyX4 tyX4_ok nmX4 hown hK hP hD hS 0 rfl rfl 3 (by decide) w_14 (fun _ h9 => h9) rfl hin rfl (by decide +kernel) (by first | rfl | decide) rfl (Nat.le_of_ble_eq_true rfl) dX4_init_35 (fun H locs hP hD hS => ?_)
  have hP : va_P D vwCl [(x, .inr (5, [.ref q_1, .ref q_2, .ref q_3, .ref q_6])), (q_1, wT tC 5 (fun _ => none)), (q_2, wI tC 5 (fun _ => 0)), (q_3, .inr (0, [.int 0, .ref dz, .int 0])), (q_6, wS tC 5 (fun _ => none))] H := hP
  have hD : va_D A [(x, .inr (5, [.ref q_1, .ref q_2, .ref q_3, .ref q_6])), (q_1, wT tC 5 (fun _ => none)), (q_2, wI tC 5 (fun _ => 0)), (q_3, .inr (0, [.int 0, .ref dz, .int 0])), (q_6, wS tC 5 (fun _ => none))] := hD
  refine va_new (ci := 3) (fs := [.null, .null, .int 0, .int 0]) (C := RX2) (T := TX2) (N := 4) hx hb hts in_X4_init_X2 tyX2 tyX2_ok hown w_13 w_15 w_16 hK hP hD hS hA rfl (by decide +kernel) (Nat.le_of_ble_eq_true rfl) (Nat.le_of_ble_eq_true rfl) dX4_init_38 (fun q_7 H hP hD hS => ?_)
  have hP : va_P D vwCl [(x, .inr (5, [.ref q_1, .ref q_2, .ref q_3, .ref q_6])), (q_1, wT tC 5 (fun _ => none)), (q_2, wI tC 5 (fun _ => 0)), (q_3, .inr (0, [.int 0, .ref dz, .int 0])), (q_6, wS tC 5 (fun _ => none)), (q_7, .inr (3, [.null, .null, .int 0, .int 0]))] H := hP
  have hD : va_D A [(x, .inr (5, [.ref q_1, .ref q_2, .ref q_3, .ref q_6])), (q_1, wT tC 5 (fun _ => none)), (q_2, wI tC 5 (fun _ => 0)), (q_3, .inr (0, [.int 0, .ref dz, .int 0])), (q_6, wS tC 5 (fun _ => none)), (q_7, .inr (3, [.null, .null, .int 0, .int 0]))] := hD
  refine W.widen (k := 5) (n := 22) (by omega) (by omega) ?_
  refine lv_dup hx hb dX4_init_41 rfl ?_
  refine lv_iconst (v := 0) hx hb dX4_init_42 (by decide) ?_
  refine x_newa (N' := 0) (ty := .int) (a0 := (0, .inl (fun _ => 0))) hx hb w_5 rfl hK hP hD hS hA (i := 0) rfl (fun cA => x_newI cA _) (by decide) (by decide) (by decide) (Nat.le_of_ble_eq_true rfl) (Nat.le_of_ble_eq_true rfl) dX4_init_43 (fun q_8 H hP hD hS => ?_)
  have hP : va_P D vwCl [(x, .inr (5, [.ref q_1, .ref q_2, .ref q_3, .ref q_6])), (q_1, wT tC 5 (fun _ => none)), (q_2, wI tC 5 (fun _ => 0)), (q_3, .inr (0, [.int 0, .ref dz, .int 0])), (q_6, wS tC 5 (fun _ => none)), (q_7, .inr (3, [.null, .null, .int 0, .int 0])), (q_8, wI tC 0 (fun _ => 0))] H := hP
  have hD : va_D A [(x, .inr (5, [.ref q_1, .ref q_2, .ref q_3, .ref q_6])), (q_1, wT tC 5 (fun _ => none)), (q_2, wI tC 5 (fun _ => 0)), (q_3, .inr (0, [.int 0, .ref dz, .int 0])), (q_6, wS tC 5 (fun _ => none)), (q_7, .inr (3, [.null, .null, .int 0, .int 0])), (q_8, wI tC 0 (fun _ => 0))] := hD
  refine W.widen (k := 6) (n := 22) (by omega) (by omega) ?_
  refine lv_iconst (v := 0) hx hb dX4_init_45 (by decide) ?_
  refine x_newa (N' := 0) (ty := .int) (a0 := (0, .inl (fun _ => 0))) hx hb w_5 rfl hK hP hD hS hA (i := 0) rfl (fun cA => x_newI cA _) (by decide) (by decide) (by decide) (Nat.le_of_ble_eq_true rfl) (Nat.le_of_ble_eq_true rfl) dX4_init_46 (fun q_9 H hP hD hS => ?_)
  have hP : va_P D vwCl [(x, .inr (5, [.ref q_1, .ref q_2, .ref q_3, .ref q_6])), (q_1, wT tC 5 (fun _ => none)), (q_2, wI tC 5 (fun _ => 0)), (q_3, .inr (0, [.int 0, .ref dz, .int 0])), (q_6, wS tC 5 (fun _ => none)), (q_7, .inr (3, [.null, .null, .int 0, .int 0])), (q_8, wI tC 0 (fun _ => 0)), (q_9, wI tC 0 (fun _ => 0))] H := hP
  have hD : va_D A [(x, .inr (5, [.ref q_1, .ref q_2, .ref q_3, .ref q_6])), (q_1, wT tC 5 (fun _ => none)), (q_2, wI tC 5 (fun _ => 0)), (q_3, .inr (0, [.int 0, .ref dz, .int 0])), (q_6, wS tC 5 (fun _ => none)), (q_7, .inr (3, [.null, .null, .int 0, .int 0])), (q_8, wI tC 0 (fun _ => 0)), (q_9, wI tC 0 (fun _ => 0))] := hD
  refine W.widen (k := 7) (n := 22) (by omega) (by omega) ?_
  refine lv_iconst (v := 5) hx hb dX4_init_48 (by decide) ?_
  refine lv_iconst (v := 0) hx hb dX4_init_49 (by decide) ?_
  have hPc := hP.sub (ws' := [(q_7, .inr (3, [.null, .null, .int 0, .int 0]))]) [5] rfl
  have hDc := hD.sub (ws' := [(q_7, .inr (3, [.null, .null, .int 0, .int 0]))]) [5] (by decide) rfl
  have hFc := va_free (wc := [(q_7, .inr (3, [.null, .null, .int 0, .int 0]))]) hD hS hA [5] rfl
  refine va_callv (va_runIN (As := [.ref q_8, .ref q_9, .int 5, .int 0]) (rest := [.ref q_7]) ⟨hx, hb, hml, hown, hts⟩ (c_E_X2_init l hlt D tC dz H.size q_7 q_8 q_9 5 0 ) ⟨(va_cnB (host := "NoticeStations") 4 hts gX4_init_X2_init_n32 rfl rfl rfl (hN.1 (.methodLinkNest "NoticeStations" 32 ⟨"NoticeStations$Standing", "<init>", "([I[III)V"⟩ "NoticeStations") (by decide +kernel)) w_16 (by decide +kernel) ⟨Nat.le_of_ble_eq_true rfl, Nat.le_of_ble_eq_true rfl⟩), rfl, w_17⟩ ⟨pB_blind, pB_at hPc hDc hK hN hE hS hFc⟩ rfl rfl hl.1 rfl (lv_room (Nat.le_of_ble_eq_true rfl)) dX4_init_50 ⟨Nat.le_of_ble_eq_true rfl, Nat.le_of_ble_eq_true rfl⟩) hS (fun q _ h => hFc q h) hFc (fun u t H1 locs ht hvm hw hB hz1 hk1 hS => ?_)
  obtain ⟨hP1, _, hD1⟩ := hB
  have hw_11 := hw
  rw [ht] at hP1
  obtain ⟨hP, hD⟩ := va_join (wr := [(x, .inr (5, [.ref q_1, .ref q_2, .ref q_3, .ref q_6])), (q_1, wT tC 5 (fun _ => none)), (q_2, wI tC 5 (fun _ => 0)), (q_3, .inr (0, [.int 0, .ref dz, .int 0])), (q_6, wS tC 5 (fun _ => none)), (q_8, wI tC 0 (fun _ => 0)), (q_9, wI tC 0 (fun _ => 0))]) (w1 := [(q_7, .inr (3, [.ref q_8, .ref q_9, .int 5, .int 0]))]) hP hD [5] [0, 1, 2, 3, 4, 6, 7] rfl rfl (by decide) (by decide) hk1 hFc hP1 hD1
  generalize H1 = H at hP hS ⊢
  have hP : va_P D vwCl [(x, .inr (5, [.ref q_1, .ref q_2, .ref q_3, .ref q_6])), (q_1, wT tC 5 (fun _ => none)), (q_2, wI tC 5 (fun _ => 0)), (q_3, .inr (0, [.int 0, .ref dz, .int 0])), (q_6, wS tC 5 (fun _ => none)), (q_8, wI tC 0 (fun _ => 0)), (q_9, wI tC 0 (fun _ => 0)), (q_7, .inr (3, [.ref q_8, .ref q_9, .int 5, .int 0]))] H := hP
  have hD : va_D A [(x, .inr (5, [.ref q_1, .ref q_2, .ref q_3, .ref q_6])), (q_1, wT tC 5 (fun _ => none)), (q_2, wI tC 5 (fun _ => 0)), (q_3, .inr (0, [.int 0, .ref dz, .int 0])), (q_6, wS tC 5 (fun _ => none)), (q_8, wI tC 0 (fun _ => 0)), (q_9, wI tC 0 (fun _ => 0)), (q_7, .inr (3, [.ref q_8, .ref q_9, .int 5, .int 0]))] := hD
  refine lv_astore_n (lv' := [(1, .ref q_7), (0, .ref x)]) hx hb dX4_init_53 rfl hl (by decide) rfl (fun ls hl => ?_)
  refine lv_iconst (v := 0) hx hb dX4_init_54 (by decide) ?_
  refine lv_istore_n (lv' := [(2, .int 0), (1, .ref q_7), (0, .ref x)]) hx hb dX4_init_55 rfl hl (by decide) rfl (fun ls hl => ?_)
  refine lv_iload_n hx hb dX4_init_56 rfl (lv_at hl 0 rfl) ?_
  refine lv_iconst (v := 5) hx hb dX4_init_57 (by decide) ?_
  refine lv_icmp_ge (tgt := 94) hx hb dX4_init_58 (by decide) (fun hc => absurd hc (by decide)) (fun _ => ?_)
  refine lv_aload_n hx hb dX4_init_61 rfl (lv_at hl 2 rfl) ?_
  refine va_get (D := D) (ci := 5) (v := .ref q_1) (C := RX4) (T := TX4) (N := 4) hx hb hts in_X4_init_X4 hown hK hP 0 rfl rfl 0 (by decide) w_4 (fun _ h9 => h9) rfl dX4_init_62 ?_
  refine lv_iload_n hx hb dX4_init_65 rfl (lv_at hl 0 rfl) ?_
  refine va_new (ci := 4) (fs := [.int 0, .int 0, .null, .int 0, .int 0, .null, .int 0, .null]) (C := RX3) (T := TX3) (N := 8) hx hb hts in_X4_init_X3 tyX3 tyX3_ok hown w_3 w_18 w_19 hK hP hD hS hA rfl (by decide +kernel) (Nat.le_of_ble_eq_true rfl) (Nat.le_of_ble_eq_true rfl) dX4_init_66 (fun q_12 H hP hD hS => ?_)
  have hP : va_P D vwCl [(x, .inr (5, [.ref q_1, .ref q_2, .ref q_3, .ref q_6])), (q_1, wT tC 5 (fun _ => none)), (q_2, wI tC 5 (fun _ => 0)), (q_3, .inr (0, [.int 0, .ref dz, .int 0])), (q_6, wS tC 5 (fun _ => none)), (q_8, wI tC 0 (fun _ => 0)), (q_9, wI tC 0 (fun _ => 0)), (q_7, .inr (3, [.ref q_8, .ref q_9, .int 5, .int 0])), (q_12, .inr (4, [.int 0, .int 0, .null, .int 0, .int 0, .null, .int 0, .null]))] H := hP
  have hD : va_D A [(x, .inr (5, [.ref q_1, .ref q_2, .ref q_3, .ref q_6])), (q_1, wT tC 5 (fun _ => none)), (q_2, wI tC 5 (fun _ => 0)), (q_3, .inr (0, [.int 0, .ref dz, .int 0])), (q_6, wS tC 5 (fun _ => none)), (q_8, wI tC 0 (fun _ => 0)), (q_9, wI tC 0 (fun _ => 0)), (q_7, .inr (3, [.ref q_8, .ref q_9, .int 5, .int 0])), (q_12, .inr (4, [.int 0, .int 0, .null, .int 0, .int 0, .null, .int 0, .null]))] := hD
  refine W.widen (k := 8) (n := 30) (by omega) (by omega) ?_
  refine lv_dup hx hb dX4_init_69 rfl ?_
  refine lv_iload_n hx hb dX4_init_70 rfl (lv_at hl 0 rfl) ?_
  refine lv_aload_n hx hb dX4_init_71 rfl (lv_at hl 1 rfl) ?_
  have hPc := hP.sub (ws' := [(q_12, .inr (4, [.int 0, .int 0, .null, .int 0, .int 0, .null, .int 0, .null]))]) [8] rfl
  have hDc := hD.sub (ws' := [(q_12, .inr (4, [.int 0, .int 0, .null, .int 0, .int 0, .null, .int 0, .null]))]) [8] (by decide) rfl
  have hFc := va_free (wc := [(q_12, .inr (4, [.int 0, .int 0, .null, .int 0, .int 0, .null, .int 0, .null]))]) hD hS hA [8] rfl
  refine va_callv (va_runIN (As := [.int 0, .ref q_7]) (rest := [.ref q_12, .int 0, .ref q_1]) ⟨hx, hb, hml, hown, hts⟩ (c_E_X3_init l hlt D tC dz H.size q_12 q_7 0 ) ⟨(va_cnB (host := "NoticeStations") 2 hts gX4_init_X3_init_n35 rfl rfl rfl (hN.1 (.methodLinkNest "NoticeStations" 35 ⟨"NoticeStations$Station", "<init>", "(ILNoticeStations$Standing;)V"⟩ "NoticeStations") (by decide +kernel)) w_19 (by decide +kernel) ⟨Nat.le_of_ble_eq_true rfl, Nat.le_of_ble_eq_true rfl⟩), rfl, w_20⟩ ⟨pB_blind, pB_at hPc hDc hK hN hE hS hFc⟩ rfl rfl hl.1 rfl (lv_room (Nat.le_of_ble_eq_true rfl)) dX4_init_72 ⟨Nat.le_of_ble_eq_true rfl, Nat.le_of_ble_eq_true rfl⟩) hS (fun q _ h => hFc q h) hFc (fun u t H1 locs ht hvm hw hB hz1 hk1 hS => ?_)
  obtain ⟨hP1, _, hD1⟩ := hB
  have hw_14 := hw
  rw [ht] at hP1
  obtain ⟨hP, hD⟩ := va_join (wr := [(x, .inr (5, [.ref q_1, .ref q_2, .ref q_3, .ref q_6])), (q_1, wT tC 5 (fun _ => none)), (q_2, wI tC 5 (fun _ => 0)), (q_3, .inr (0, [.int 0, .ref dz, .int 0])), (q_6, wS tC 5 (fun _ => none)), (q_8, wI tC 0 (fun _ => 0)), (q_9, wI tC 0 (fun _ => 0)), (q_7, .inr (3, [.ref q_8, .ref q_9, .int 5, .int 0]))]) (w1 := [(q_12, .inr (4, [.int 0, .int 1, .ref q_7, .int 0, .int (-1), .null, .int (-1), .null]))]) hP hD [8] [0, 1, 2, 3, 4, 5, 6, 7] rfl rfl (by decide) (by decide) hk1 hFc hP1 hD1
  generalize H1 = H at hP hS ⊢
  have hP : va_P D vwCl [(x, .inr (5, [.ref q_1, .ref q_2, .ref q_3, .ref q_6])), (q_1, wT tC 5 (fun _ => none)), (q_2, wI tC 5 (fun _ => 0)), (q_3, .inr (0, [.int 0, .ref dz, .int 0])), (q_6, wS tC 5 (fun _ => none)), (q_8, wI tC 0 (fun _ => 0)), (q_9, wI tC 0 (fun _ => 0)), (q_7, .inr (3, [.ref q_8, .ref q_9, .int 5, .int 0])), (q_12, .inr (4, [.int 0, .int 1, .ref q_7, .int 0, .int (-1), .null, .int (-1), .null]))] H := hP
  have hD : va_D A [(x, .inr (5, [.ref q_1, .ref q_2, .ref q_3, .ref q_6])), (q_1, wT tC 5 (fun _ => none)), (q_2, wI tC 5 (fun _ => 0)), (q_3, .inr (0, [.int 0, .ref dz, .int 0])), (q_6, wS tC 5 (fun _ => none)), (q_8, wI tC 0 (fun _ => 0)), (q_9, wI tC 0 (fun _ => 0)), (q_7, .inr (3, [.ref q_8, .ref q_9, .int 5, .int 0])), (q_12, .inr (4, [.int 0, .int 1, .ref q_7, .int 0, .int (-1), .null, .int (-1), .null]))] := hD
  refine va_astq hx hb hK hP hD hS 1 3 8 4 rfl rfl rfl rfl (by unfold vp_in; decide) dX4_init_75 (fun H locs hP hD hS => ?_)
  have hP : va_P D vwCl [(x, .inr (5, [.ref q_1, .ref q_2, .ref q_3, .ref q_6])), (q_1, wT tC 5 (va_up (fun _ => none) 0 (some q_12))), (q_2, wI tC 5 (fun _ => 0)), (q_3, .inr (0, [.int 0, .ref dz, .int 0])), (q_6, wS tC 5 (fun _ => none)), (q_8, wI tC 0 (fun _ => 0)), (q_9, wI tC 0 (fun _ => 0)), (q_7, .inr (3, [.ref q_8, .ref q_9, .int 5, .int 0])), (q_12, .inr (4, [.int 0, .int 1, .ref q_7, .int 0, .int (-1), .null, .int (-1), .null]))] H := hP
  have hD : va_D A [(x, .inr (5, [.ref q_1, .ref q_2, .ref q_3, .ref q_6])), (q_1, wT tC 5 (va_up (fun _ => none) 0 (some q_12))), (q_2, wI tC 5 (fun _ => 0)), (q_3, .inr (0, [.int 0, .ref dz, .int 0])), (q_6, wS tC 5 (fun _ => none)), (q_8, wI tC 0 (fun _ => 0)), (q_9, wI tC 0 (fun _ => 0)), (q_7, .inr (3, [.ref q_8, .ref q_9, .int 5, .int 0])), (q_12, .inr (4, [.int 0, .int 1, .ref q_7, .int 0, .int (-1), .null, .int (-1), .null]))] := hD
  refine lv_aload_n hx hb dX4_init_76 rfl (lv_at hl 2 rfl) ?_
  refine va_get (D := D) (ci := 5) (v := .ref q_2) (C := RX4) (T := TX4) (N := 4) hx hb hts in_X4_init_X4 hown hK hP 0 rfl rfl 1 (by decide) w_6 (fun _ h9 => h9) rfl dX4_init_77 ?_
  refine lv_iload_n hx hb dX4_init_80 rfl (lv_at hl 0 rfl) ?_
  refine lv_bipush (v := 31) hx hb dX4_init_81 (by decide) ?_
  refine lv_iconst (v := 1) hx hb dX4_init_83 (by decide) ?_
  refine lv_iload_n hx hb dX4_init_84 rfl (lv_at hl 0 rfl) ?_
  refine lv_ishl hx hb dX4_init_85 ?_
  refine lv_topi (fun z_15 ez_15 => ?_)
  have fz_15 : z_15 = 1 := ez_15.trans (by decide)
  subst fz_15
  refine lv_isub hx hb dX4_init_86 ?_
  refine lv_topi (fun z_16 ez_16 => ?_)
  have fz_16 : z_16 = 30 := ez_16.trans (by decide)
  subst fz_16
  refine va_iast hx hb hK hP hD hS 2 0 rfl rfl (by unfold vp_in; decide) dX4_init_87 (fun H locs hP hD hS => ?_)
  have hP : va_P D vwCl [(x, .inr (5, [.ref q_1, .ref q_2, .ref q_3, .ref q_6])), (q_1, wT tC 5 (va_up (fun _ => none) 0 (some q_12))), (q_2, wI tC 5 (upd (fun _ => 0) 0 30)), (q_3, .inr (0, [.int 0, .ref dz, .int 0])), (q_6, wS tC 5 (fun _ => none)), (q_8, wI tC 0 (fun _ => 0)), (q_9, wI tC 0 (fun _ => 0)), (q_7, .inr (3, [.ref q_8, .ref q_9, .int 5, .int 0])), (q_12, .inr (4, [.int 0, .int 1, .ref q_7, .int 0, .int (-1), .null, .int (-1), .null]))] H := hP
  have hD : va_D A [(x, .inr (5, [.ref q_1, .ref q_2, .ref q_3, .ref q_6])), (q_1, wT tC 5 (va_up (fun _ => none) 0 (some q_12))), (q_2, wI tC 5 (upd (fun _ => 0) 0 30)), (q_3, .inr (0, [.int 0, .ref dz, .int 0])), (q_6, wS tC 5 (fun _ => none)), (q_8, wI tC 0 (fun _ => 0)), (q_9, wI tC 0 (fun _ => 0)), (q_7, .inr (3, [.ref q_8, .ref q_9, .int 5, .int 0])), (q_12, .inr (4, [.int 0, .int 1, .ref q_7, .int 0, .int (-1), .null, .int (-1), .null]))] := hD
  refine lv_iinc (v := 1) (lv' := [(2, .int 1), (1, .ref q_7), (0, .ref x)]) hx hb dX4_init_88 hl (k := 0) rfl (by decide) (by decide) rfl (fun ls hl => ?_)
  refine lv_goto (tgt := 56) hx hb dX4_init_91 (by decide) ?_
  refine lv_iload_n hx hb dX4_init_56 rfl (lv_at hl 0 rfl) ?_
  refine lv_iconst (v := 5) hx hb dX4_init_57 (by decide) ?_
  refine lv_icmp_ge (tgt := 94) hx hb dX4_init_58 (by decide) (fun hc => absurd hc (by decide)) (fun _ => ?_)
  refine lv_aload_n hx hb dX4_init_61 rfl (lv_at hl 2 rfl) ?_
  refine va_get (D := D) (ci := 5) (v := .ref q_1) (C := RX4) (T := TX4) (N := 4) hx hb hts in_X4_init_X4 hown hK hP 0 rfl rfl 0 (by decide) w_4 (fun _ h9 => h9) rfl dX4_init_62 ?_
  refine lv_iload_n hx hb dX4_init_65 rfl (lv_at hl 0 rfl) ?_
  refine va_new (ci := 4) (fs := [.int 0, .int 0, .null, .int 0, .int 0, .null, .int 0, .null]) (C := RX3) (T := TX3) (N := 8) hx hb hts in_X4_init_X3 tyX3 tyX3_ok hown w_3 w_18 w_19 hK hP hD hS hA rfl (by decide +kernel) (Nat.le_of_ble_eq_true rfl) (Nat.le_of_ble_eq_true rfl) dX4_init_66 (fun q_17 H hP hD hS => ?_)
  have hP : va_P D vwCl [(x, .inr (5, [.ref q_1, .ref q_2, .ref q_3, .ref q_6])), (q_1, wT tC 5 (va_up (fun _ => none) 0 (some q_12))), (q_2, wI tC 5 (upd (fun _ => 0) 0 30)), (q_3, .inr (0, [.int 0, .ref dz, .int 0])), (q_6, wS tC 5 (fun _ => none)), (q_8, wI tC 0 (fun _ => 0)), (q_9, wI tC 0 (fun _ => 0)), (q_7, .inr (3, [.ref q_8, .ref q_9, .int 5, .int 0])), (q_12, .inr (4, [.int 0, .int 1, .ref q_7, .int 0, .int (-1), .null, .int (-1), .null])), (q_17, .inr (4, [.int 0, .int 0, .null, .int 0, .int 0, .null, .int 0, .null]))] H := hP
  have hD : va_D A [(x, .inr (5, [.ref q_1, .ref q_2, .ref q_3, .ref q_6])), (q_1, wT tC 5 (va_up (fun _ => none) 0 (some q_12))), (q_2, wI tC 5 (upd (fun _ => 0) 0 30)), (q_3, .inr (0, [.int 0, .ref dz, .int 0])), (q_6, wS tC 5 (fun _ => none)), (q_8, wI tC 0 (fun _ => 0)), (q_9, wI tC 0 (fun _ => 0)), (q_7, .inr (3, [.ref q_8, .ref q_9, .int 5, .int 0])), (q_12, .inr (4, [.int 0, .int 1, .ref q_7, .int 0, .int (-1), .null, .int (-1), .null])), (q_17, .inr (4, [.int 0, .int 0, .null, .int 0, .int 0, .null, .int 0, .null]))] := hD
  refine W.widen (k := 9) (n := 38) (by omega) (by omega) ?_
  refine lv_dup hx hb dX4_init_69 rfl ?_
  refine lv_iload_n hx hb dX4_init_70 rfl (lv_at hl 0 rfl) ?_
  refine lv_aload_n hx hb dX4_init_71 rfl (lv_at hl 1 rfl) ?_
  have hPc := hP.sub (ws' := [(q_17, .inr (4, [.int 0, .int 0, .null, .int 0, .int 0, .null, .int 0, .null]))]) [9] rfl
  have hDc := hD.sub (ws' := [(q_17, .inr (4, [.int 0, .int 0, .null, .int 0, .int 0, .null, .int 0, .null]))]) [9] (by decide) rfl
  have hFc := va_free (wc := [(q_17, .inr (4, [.int 0, .int 0, .null, .int 0, .int 0, .null, .int 0, .null]))]) hD hS hA [9] rfl
  refine va_callv (va_runIN (As := [.int 1, .ref q_7]) (rest := [.ref q_17, .int 1, .ref q_1]) ⟨hx, hb, hml, hown, hts⟩ (c_E_X3_init l hlt D tC dz H.size q_17 q_7 1 ) ⟨(va_cnB (host := "NoticeStations") 2 hts gX4_init_X3_init_n35 rfl rfl rfl (hN.1 (.methodLinkNest "NoticeStations" 35 ⟨"NoticeStations$Station", "<init>", "(ILNoticeStations$Standing;)V"⟩ "NoticeStations") (by decide +kernel)) w_19 (by decide +kernel) ⟨Nat.le_of_ble_eq_true rfl, Nat.le_of_ble_eq_true rfl⟩), rfl, w_20⟩ ⟨pB_blind, pB_at hPc hDc hK hN hE hS hFc⟩ rfl rfl hl.1 rfl (lv_room (Nat.le_of_ble_eq_true rfl)) dX4_init_72 ⟨Nat.le_of_ble_eq_true rfl, Nat.le_of_ble_eq_true rfl⟩) hS (fun q _ h => hFc q h) hFc (fun u t H1 locs ht hvm hw hB hz1 hk1 hS => ?_)
  obtain ⟨hP1, _, hD1⟩ := hB
  have hw_19 := hw
  rw [ht] at hP1
  obtain ⟨hP, hD⟩ := va_join (wr := [(x, .inr (5, [.ref q_1, .ref q_2, .ref q_3, .ref q_6])), (q_1, wT tC 5 (va_up (fun _ => none) 0 (some q_12))), (q_2, wI tC 5 (upd (fun _ => 0) 0 30)), (q_3, .inr (0, [.int 0, .ref dz, .int 0])), (q_6, wS tC 5 (fun _ => none)), (q_8, wI tC 0 (fun _ => 0)), (q_9, wI tC 0 (fun _ => 0)), (q_7, .inr (3, [.ref q_8, .ref q_9, .int 5, .int 0])), (q_12, .inr (4, [.int 0, .int 1, .ref q_7, .int 0, .int (-1), .null, .int (-1), .null]))]) (w1 := [(q_17, .inr (4, [.int 1, .int 1, .ref q_7, .int 0, .int (-1), .null, .int (-1), .null]))]) hP hD [9] [0, 1, 2, 3, 4, 5, 6, 7, 8] rfl rfl (by decide) (by decide) hk1 hFc hP1 hD1
  generalize H1 = H at hP hS ⊢
  have hP : va_P D vwCl [(x, .inr (5, [.ref q_1, .ref q_2, .ref q_3, .ref q_6])), (q_1, wT tC 5 (va_up (fun _ => none) 0 (some q_12))), (q_2, wI tC 5 (upd (fun _ => 0) 0 30)), (q_3, .inr (0, [.int 0, .ref dz, .int 0])), (q_6, wS tC 5 (fun _ => none)), (q_8, wI tC 0 (fun _ => 0)), (q_9, wI tC 0 (fun _ => 0)), (q_7, .inr (3, [.ref q_8, .ref q_9, .int 5, .int 0])), (q_12, .inr (4, [.int 0, .int 1, .ref q_7, .int 0, .int (-1), .null, .int (-1), .null])), (q_17, .inr (4, [.int 1, .int 1, .ref q_7, .int 0, .int (-1), .null, .int (-1), .null]))] H := hP
  have hD : va_D A [(x, .inr (5, [.ref q_1, .ref q_2, .ref q_3, .ref q_6])), (q_1, wT tC 5 (va_up (fun _ => none) 0 (some q_12))), (q_2, wI tC 5 (upd (fun _ => 0) 0 30)), (q_3, .inr (0, [.int 0, .ref dz, .int 0])), (q_6, wS tC 5 (fun _ => none)), (q_8, wI tC 0 (fun _ => 0)), (q_9, wI tC 0 (fun _ => 0)), (q_7, .inr (3, [.ref q_8, .ref q_9, .int 5, .int 0])), (q_12, .inr (4, [.int 0, .int 1, .ref q_7, .int 0, .int (-1), .null, .int (-1), .null])), (q_17, .inr (4, [.int 1, .int 1, .ref q_7, .int 0, .int (-1), .null, .int (-1), .null]))] := hD
  refine va_astq hx hb hK hP hD hS 1 3 9 4 rfl rfl rfl rfl (by unfold vp_in; decide) dX4_init_75 (fun H locs hP hD hS => ?_)
  have hP : va_P D vwCl [(x, .inr (5, [.ref q_1, .ref q_2, .ref q_3, .ref q_6])), (q_1, wT tC 5 (va_up (va_up (fun _ => none) 0 (some q_12)) 1 (some q_17))), (q_2, wI tC 5 (upd (fun _ => 0) 0 30)), (q_3, .inr (0, [.int 0, .ref dz, .int 0])), (q_6, wS tC 5 (fun _ => none)), (q_8, wI tC 0 (fun _ => 0)), (q_9, wI tC 0 (fun _ => 0)), (q_7, .inr (3, [.ref q_8, .ref q_9, .int 5, .int 0])), (q_12, .inr (4, [.int 0, .int 1, .ref q_7, .int 0, .int (-1), .null, .int (-1), .null])), (q_17, .inr (4, [.int 1, .int 1, .ref q_7, .int 0, .int (-1), .null, .int (-1), .null]))] H := hP
  have hD : va_D A [(x, .inr (5, [.ref q_1, .ref q_2, .ref q_3, .ref q_6])), (q_1, wT tC 5 (va_up (va_up (fun _ => none) 0 (some q_12)) 1 (some q_17))), (q_2, wI tC 5 (upd (fun _ => 0) 0 30)), (q_3, .inr (0, [.int 0, .ref dz, .int 0])), (q_6, wS tC 5 (fun _ => none)), (q_8, wI tC 0 (fun _ => 0)), (q_9, wI tC 0 (fun _ => 0)), (q_7, .inr (3, [.ref q_8, .ref q_9, .int 5, .int 0])), (q_12, .inr (4, [.int 0, .int 1, .ref q_7, .int 0, .int (-1), .null, .int (-1), .null])), (q_17, .inr (4, [.int 1, .int 1, .ref q_7, .int 0, .int (-1), .null, .int (-1), .null]))] := hD
  refine lv_aload_n hx hb dX4_init_76 rfl (lv_at hl 2 rfl) ?_
  refine va_get (D := D) (ci := 5) (v := .ref q_2) (C := RX4) (T := TX4) (N := 4) hx hb hts in_X4_init_X4 hown hK hP 0 rfl rfl 1 (by decide) w_6 (fun _ h9 => h9) rfl dX4_init_77 ?_
  refine lv_iload_n hx hb dX4_init_80 rfl (lv_at hl 0 rfl) ?_
  refine lv_bipush (v := 31) hx hb dX4_init_81 (by decide) ?_
  refine lv_iconst (v := 1) hx hb dX4_init_83 (by decide) ?_
  refine lv_iload_n hx hb dX4_init_84 rfl (lv_at hl 0 rfl) ?_
  refine lv_ishl hx hb dX4_init_85 ?_
  refine lv_topi (fun z_20 ez_20 => ?_)
  have fz_20 : z_20 = 2 := ez_20.trans (by decide)
  subst fz_20
  refine lv_isub hx hb dX4_init_86 ?_
  refine lv_topi (fun z_21 ez_21 => ?_)
  have fz_21 : z_21 = 29 := ez_21.trans (by decide)
  subst fz_21
  refine va_iast hx hb hK hP hD hS 2 0 rfl rfl (by unfold vp_in; decide) dX4_init_87 (fun H locs hP hD hS => ?_)
  have hP : va_P D vwCl [(x, .inr (5, [.ref q_1, .ref q_2, .ref q_3, .ref q_6])), (q_1, wT tC 5 (va_up (va_up (fun _ => none) 0 (some q_12)) 1 (some q_17))), (q_2, wI tC 5 (upd (upd (fun _ => 0) 0 30) 1 29)), (q_3, .inr (0, [.int 0, .ref dz, .int 0])), (q_6, wS tC 5 (fun _ => none)), (q_8, wI tC 0 (fun _ => 0)), (q_9, wI tC 0 (fun _ => 0)), (q_7, .inr (3, [.ref q_8, .ref q_9, .int 5, .int 0])), (q_12, .inr (4, [.int 0, .int 1, .ref q_7, .int 0, .int (-1), .null, .int (-1), .null])), (q_17, .inr (4, [.int 1, .int 1, .ref q_7, .int 0, .int (-1), .null, .int (-1), .null]))] H := hP
  have hD : va_D A [(x, .inr (5, [.ref q_1, .ref q_2, .ref q_3, .ref q_6])), (q_1, wT tC 5 (va_up (va_up (fun _ => none) 0 (some q_12)) 1 (some q_17))), (q_2, wI tC 5 (upd (upd (fun _ => 0) 0 30) 1 29)), (q_3, .inr (0, [.int 0, .ref dz, .int 0])), (q_6, wS tC 5 (fun _ => none)), (q_8, wI tC 0 (fun _ => 0)), (q_9, wI tC 0 (fun _ => 0)), (q_7, .inr (3, [.ref q_8, .ref q_9, .int 5, .int 0])), (q_12, .inr (4, [.int 0, .int 1, .ref q_7, .int 0, .int (-1), .null, .int (-1), .null])), (q_17, .inr (4, [.int 1, .int 1, .ref q_7, .int 0, .int (-1), .null, .int (-1), .null]))] := hD
  refine lv_iinc (v := 2) (lv' := [(2, .int 2), (1, .ref q_7), (0, .ref x)]) hx hb dX4_init_88 hl (k := 0) rfl (by decide) (by decide) rfl (fun ls hl => ?_)
  refine lv_goto (tgt := 56) hx hb dX4_init_91 (by decide) ?_
  refine lv_iload_n hx hb dX4_init_56 rfl (lv_at hl 0 rfl) ?_
  refine lv_iconst (v := 5) hx hb dX4_init_57 (by decide) ?_
  refine lv_icmp_ge (tgt := 94) hx hb dX4_init_58 (by decide) (fun hc => absurd hc (by decide)) (fun _ => ?_)
  refine lv_aload_n hx hb dX4_init_61 rfl (lv_at hl 2 rfl) ?_
  refine va_get (D := D) (ci := 5) (v := .ref q_1) (C := RX4) (T := TX4) (N := 4) hx hb hts in_X4_init_X4 hown hK hP 0 rfl rfl 0 (by decide) w_4 (fun _ h9 => h9) rfl dX4_init_62 ?_
  refine lv_iload_n hx hb dX4_init_65 rfl (lv_at hl 0 rfl) ?_
  refine va_new (ci := 4) (fs := [.int 0, .int 0, .null, .int 0, .int 0, .null, .int 0, .null]) (C := RX3) (T := TX3) (N := 8) hx hb hts in_X4_init_X3 tyX3 tyX3_ok hown w_3 w_18 w_19 hK hP hD hS hA rfl (by decide +kernel) (Nat.le_of_ble_eq_true rfl) (Nat.le_of_ble_eq_true rfl) dX4_init_66 (fun q_22 H hP hD hS => ?_)
  have hP : va_P D vwCl [(x, .inr (5, [.ref q_1, .ref q_2, .ref q_3, .ref q_6])), (q_1, wT tC 5 (va_up (va_up (fun _ => none) 0 (some q_12)) 1 (some q_17))), (q_2, wI tC 5 (upd (upd (fun _ => 0) 0 30) 1 29)), (q_3, .inr (0, [.int 0, .ref dz, .int 0])), (q_6, wS tC 5 (fun _ => none)), (q_8, wI tC 0 (fun _ => 0)), (q_9, wI tC 0 (fun _ => 0)), (q_7, .inr (3, [.ref q_8, .ref q_9, .int 5, .int 0])), (q_12, .inr (4, [.int 0, .int 1, .ref q_7, .int 0, .int (-1), .null, .int (-1), .null])), (q_17, .inr (4, [.int 1, .int 1, .ref q_7, .int 0, .int (-1), .null, .int (-1), .null])), (q_22, .inr (4, [.int 0, .int 0, .null, .int 0, .int 0, .null, .int 0, .null]))] H := hP
  have hD : va_D A [(x, .inr (5, [.ref q_1, .ref q_2, .ref q_3, .ref q_6])), (q_1, wT tC 5 (va_up (va_up (fun _ => none) 0 (some q_12)) 1 (some q_17))), (q_2, wI tC 5 (upd (upd (fun _ => 0) 0 30) 1 29)), (q_3, .inr (0, [.int 0, .ref dz, .int 0])), (q_6, wS tC 5 (fun _ => none)), (q_8, wI tC 0 (fun _ => 0)), (q_9, wI tC 0 (fun _ => 0)), (q_7, .inr (3, [.ref q_8, .ref q_9, .int 5, .int 0])), (q_12, .inr (4, [.int 0, .int 1, .ref q_7, .int 0, .int (-1), .null, .int (-1), .null])), (q_17, .inr (4, [.int 1, .int 1, .ref q_7, .int 0, .int (-1), .null, .int (-1), .null])), (q_22, .inr (4, [.int 0, .int 0, .null, .int 0, .int 0, .null, .int 0, .null]))] := hD
  refine W.widen (k := 10) (n := 46) (by omega) (by omega) ?_
  refine lv_dup hx hb dX4_init_69 rfl ?_
  refine lv_iload_n hx hb dX4_init_70 rfl (lv_at hl 0 rfl) ?_
  refine lv_aload_n hx hb dX4_init_71 rfl (lv_at hl 1 rfl) ?_
  have hPc := hP.sub (ws' := [(q_22, .inr (4, [.int 0, .int 0, .null, .int 0, .int 0, .null, .int 0, .null]))]) [10] rfl
  have hDc := hD.sub (ws' := [(q_22, .inr (4, [.int 0, .int 0, .null, .int 0, .int 0, .null, .int 0, .null]))]) [10] (by decide) rfl
  have hFc := va_free (wc := [(q_22, .inr (4, [.int 0, .int 0, .null, .int 0, .int 0, .null, .int 0, .null]))]) hD hS hA [10] rfl
  refine va_callv (va_runIN (As := [.int 2, .ref q_7]) (rest := [.ref q_22, .int 2, .ref q_1]) ⟨hx, hb, hml, hown, hts⟩ (c_E_X3_init l hlt D tC dz H.size q_22 q_7 2 ) ⟨(va_cnB (host := "NoticeStations") 2 hts gX4_init_X3_init_n35 rfl rfl rfl (hN.1 (.methodLinkNest "NoticeStations" 35 ⟨"NoticeStations$Station", "<init>", "(ILNoticeStations$Standing;)V"⟩ "NoticeStations") (by decide +kernel)) w_19 (by decide +kernel) ⟨Nat.le_of_ble_eq_true rfl, Nat.le_of_ble_eq_true rfl⟩), rfl, w_20⟩ ⟨pB_blind, pB_at hPc hDc hK hN hE hS hFc⟩ rfl rfl hl.1 rfl (lv_room (Nat.le_of_ble_eq_true rfl)) dX4_init_72 ⟨Nat.le_of_ble_eq_true rfl, Nat.le_of_ble_eq_true rfl⟩) hS (fun q _ h => hFc q h) hFc (fun u t H1 locs ht hvm hw hB hz1 hk1 hS => ?_)
  obtain ⟨hP1, _, hD1⟩ := hB
  have hw_24 := hw
  rw [ht] at hP1
  obtain ⟨hP, hD⟩ := va_join (wr := [(x, .inr (5, [.ref q_1, .ref q_2, .ref q_3, .ref q_6])), (q_1, wT tC 5 (va_up (va_up (fun _ => none) 0 (some q_12)) 1 (some q_17))), (q_2, wI tC 5 (upd (upd (fun _ => 0) 0 30) 1 29)), (q_3, .inr (0, [.int 0, .ref dz, .int 0])), (q_6, wS tC 5 (fun _ => none)), (q_8, wI tC 0 (fun _ => 0)), (q_9, wI tC 0 (fun _ => 0)), (q_7, .inr (3, [.ref q_8, .ref q_9, .int 5, .int 0])), (q_12, .inr (4, [.int 0, .int 1, .ref q_7, .int 0, .int (-1), .null, .int (-1), .null])), (q_17, .inr (4, [.int 1, .int 1, .ref q_7, .int 0, .int (-1), .null, .int (-1), .null]))]) (w1 := [(q_22, .inr (4, [.int 2, .int 1, .ref q_7, .int 0, .int (-1), .null, .int (-1), .null]))]) hP hD [10] [0, 1, 2, 3, 4, 5, 6, 7, 8, 9] rfl rfl (by decide) (by decide) hk1 hFc hP1 hD1
  generalize H1 = H at hP hS ⊢
  have hP : va_P D vwCl [(x, .inr (5, [.ref q_1, .ref q_2, .ref q_3, .ref q_6])), (q_1, wT tC 5 (va_up (va_up (fun _ => none) 0 (some q_12)) 1 (some q_17))), (q_2, wI tC 5 (upd (upd (fun _ => 0) 0 30) 1 29)), (q_3, .inr (0, [.int 0, .ref dz, .int 0])), (q_6, wS tC 5 (fun _ => none)), (q_8, wI tC 0 (fun _ => 0)), (q_9, wI tC 0 (fun _ => 0)), (q_7, .inr (3, [.ref q_8, .ref q_9, .int 5, .int 0])), (q_12, .inr (4, [.int 0, .int 1, .ref q_7, .int 0, .int (-1), .null, .int (-1), .null])), (q_17, .inr (4, [.int 1, .int 1, .ref q_7, .int 0, .int (-1), .null, .int (-1), .null])), (q_22, .inr (4, [.int 2, .int 1, .ref q_7, .int 0, .int (-1), .null, .int (-1), .null]))] H := hP
  have hD : va_D A [(x, .inr (5, [.ref q_1, .ref q_2, .ref q_3, .ref q_6])), (q_1, wT tC 5 (va_up (va_up (fun _ => none) 0 (some q_12)) 1 (some q_17))), (q_2, wI tC 5 (upd (upd (fun _ => 0) 0 30) 1 29)), (q_3, .inr (0, [.int 0, .ref dz, .int 0])), (q_6, wS tC 5 (fun _ => none)), (q_8, wI tC 0 (fun _ => 0)), (q_9, wI tC 0 (fun _ => 0)), (q_7, .inr (3, [.ref q_8, .ref q_9, .int 5, .int 0])), (q_12, .inr (4, [.int 0, .int 1, .ref q_7, .int 0, .int (-1), .null, .int (-1), .null])), (q_17, .inr (4, [.int 1, .int 1, .ref q_7, .int 0, .int (-1), .null, .int (-1), .null])), (q_22, .inr (4, [.int 2, .int 1, .ref q_7, .int 0, .int (-1), .null, .int (-1), .null]))] := hD
  refine va_astq hx hb hK hP hD hS 1 3 10 4 rfl rfl rfl rfl (by unfold vp_in; decide) dX4_init_75 (fun H locs hP hD hS => ?_)
  have hP : va_P D vwCl [(x, .inr (5, [.ref q_1, .ref q_2, .ref q_3, .ref q_6])), (q_1, wT tC 5 (va_up (va_up (va_up (fun _ => none) 0 (some q_12)) 1 (some q_17)) 2 (some q_22))), (q_2, wI tC 5 (upd (upd (fun _ => 0) 0 30) 1 29)), (q_3, .inr (0, [.int 0, .ref dz, .int 0])), (q_6, wS tC 5 (fun _ => none)), (q_8, wI tC 0 (fun _ => 0)), (q_9, wI tC 0 (fun _ => 0)), (q_7, .inr (3, [.ref q_8, .ref q_9, .int 5, .int 0])), (q_12, .inr (4, [.int 0, .int 1, .ref q_7, .int 0, .int (-1), .null, .int (-1), .null])), (q_17, .inr (4, [.int 1, .int 1, .ref q_7, .int 0, .int (-1), .null, .int (-1), .null])), (q_22, .inr (4, [.int 2, .int 1, .ref q_7, .int 0, .int (-1), .null, .int (-1), .null]))] H := hP
  have hD : va_D A [(x, .inr (5, [.ref q_1, .ref q_2, .ref q_3, .ref q_6])), (q_1, wT tC 5 (va_up (va_up (va_up (fun _ => none) 0 (some q_12)) 1 (some q_17)) 2 (some q_22))), (q_2, wI tC 5 (upd (upd (fun _ => 0) 0 30) 1 29)), (q_3, .inr (0, [.int 0, .ref dz, .int 0])), (q_6, wS tC 5 (fun _ => none)), (q_8, wI tC 0 (fun _ => 0)), (q_9, wI tC 0 (fun _ => 0)), (q_7, .inr (3, [.ref q_8, .ref q_9, .int 5, .int 0])), (q_12, .inr (4, [.int 0, .int 1, .ref q_7, .int 0, .int (-1), .null, .int (-1), .null])), (q_17, .inr (4, [.int 1, .int 1, .ref q_7, .int 0, .int (-1), .null, .int (-1), .null])), (q_22, .inr (4, [.int 2, .int 1, .ref q_7, .int 0, .int (-1), .null, .int (-1), .null]))] := hD
  refine lv_aload_n hx hb dX4_init_76 rfl (lv_at hl 2 rfl) ?_
  refine va_get (D := D) (ci := 5) (v := .ref q_2) (C := RX4) (T := TX4) (N := 4) hx hb hts in_X4_init_X4 hown hK hP 0 rfl rfl 1 (by decide) w_6 (fun _ h9 => h9) rfl dX4_init_77 ?_
  refine lv_iload_n hx hb dX4_init_80 rfl (lv_at hl 0 rfl) ?_
  refine lv_bipush (v := 31) hx hb dX4_init_81 (by decide) ?_
  refine lv_iconst (v := 1) hx hb dX4_init_83 (by decide) ?_
  refine lv_iload_n hx hb dX4_init_84 rfl (lv_at hl 0 rfl) ?_
  refine lv_ishl hx hb dX4_init_85 ?_
  refine lv_topi (fun z_25 ez_25 => ?_)
  have fz_25 : z_25 = 4 := ez_25.trans (by decide)
  subst fz_25
  refine lv_isub hx hb dX4_init_86 ?_
  refine lv_topi (fun z_26 ez_26 => ?_)
  have fz_26 : z_26 = 27 := ez_26.trans (by decide)
  subst fz_26
  refine va_iast hx hb hK hP hD hS 2 0 rfl rfl (by unfold vp_in; decide) dX4_init_87 (fun H locs hP hD hS => ?_)
  have hP : va_P D vwCl [(x, .inr (5, [.ref q_1, .ref q_2, .ref q_3, .ref q_6])), (q_1, wT tC 5 (va_up (va_up (va_up (fun _ => none) 0 (some q_12)) 1 (some q_17)) 2 (some q_22))), (q_2, wI tC 5 (upd (upd (upd (fun _ => 0) 0 30) 1 29) 2 27)), (q_3, .inr (0, [.int 0, .ref dz, .int 0])), (q_6, wS tC 5 (fun _ => none)), (q_8, wI tC 0 (fun _ => 0)), (q_9, wI tC 0 (fun _ => 0)), (q_7, .inr (3, [.ref q_8, .ref q_9, .int 5, .int 0])), (q_12, .inr (4, [.int 0, .int 1, .ref q_7, .int 0, .int (-1), .null, .int (-1), .null])), (q_17, .inr (4, [.int 1, .int 1, .ref q_7, .int 0, .int (-1), .null, .int (-1), .null])), (q_22, .inr (4, [.int 2, .int 1, .ref q_7, .int 0, .int (-1), .null, .int (-1), .null]))] H := hP
  have hD : va_D A [(x, .inr (5, [.ref q_1, .ref q_2, .ref q_3, .ref q_6])), (q_1, wT tC 5 (va_up (va_up (va_up (fun _ => none) 0 (some q_12)) 1 (some q_17)) 2 (some q_22))), (q_2, wI tC 5 (upd (upd (upd (fun _ => 0) 0 30) 1 29) 2 27)), (q_3, .inr (0, [.int 0, .ref dz, .int 0])), (q_6, wS tC 5 (fun _ => none)), (q_8, wI tC 0 (fun _ => 0)), (q_9, wI tC 0 (fun _ => 0)), (q_7, .inr (3, [.ref q_8, .ref q_9, .int 5, .int 0])), (q_12, .inr (4, [.int 0, .int 1, .ref q_7, .int 0, .int (-1), .null, .int (-1), .null])), (q_17, .inr (4, [.int 1, .int 1, .ref q_7, .int 0, .int (-1), .null, .int (-1), .null])), (q_22, .inr (4, [.int 2, .int 1, .ref q_7, .int 0, .int (-1), .null, .int (-1), .null]))] := hD
  refine lv_iinc (v := 3) (lv' := [(2, .int 3), (1, .ref q_7), (0, .ref x)]) hx hb dX4_init_88 hl (k := 0) rfl (by decide) (by decide) rfl (fun ls hl => ?_)
  refine lv_goto (tgt := 56) hx hb dX4_init_91 (by decide) ?_
  refine lv_iload_n hx hb dX4_init_56 rfl (lv_at hl 0 rfl) ?_
  refine lv_iconst (v := 5) hx hb dX4_init_57 (by decide) ?_
  refine lv_icmp_ge (tgt := 94) hx hb dX4_init_58 (by decide) (fun hc => absurd hc (by decide)) (fun _ => ?_)
  refine lv_aload_n hx hb dX4_init_61 rfl (lv_at hl 2 rfl) ?_
  refine va_get (D := D) (ci := 5) (v := .ref q_1) (C := RX4) (T := TX4) (N := 4) hx hb hts in_X4_init_X4 hown hK hP 0 rfl rfl 0 (by decide) w_4 (fun _ h9 => h9) rfl dX4_init_62 ?_
  refine lv_iload_n hx hb dX4_init_65 rfl (lv_at hl 0 rfl) ?_
  refine va_new (ci := 4) (fs := [.int 0, .int 0, .null, .int 0, .int 0, .null, .int 0, .null]) (C := RX3) (T := TX3) (N := 8) hx hb hts in_X4_init_X3 tyX3 tyX3_ok hown w_3 w_18 w_19 hK hP hD hS hA rfl (by decide +kernel) (Nat.le_of_ble_eq_true rfl) (Nat.le_of_ble_eq_true rfl) dX4_init_66 (fun q_27 H hP hD hS => ?_)
  have hP : va_P D vwCl [(x, .inr (5, [.ref q_1, .ref q_2, .ref q_3, .ref q_6])), (q_1, wT tC 5 (va_up (va_up (va_up (fun _ => none) 0 (some q_12)) 1 (some q_17)) 2 (some q_22))), (q_2, wI tC 5 (upd (upd (upd (fun _ => 0) 0 30) 1 29) 2 27)), (q_3, .inr (0, [.int 0, .ref dz, .int 0])), (q_6, wS tC 5 (fun _ => none)), (q_8, wI tC 0 (fun _ => 0)), (q_9, wI tC 0 (fun _ => 0)), (q_7, .inr (3, [.ref q_8, .ref q_9, .int 5, .int 0])), (q_12, .inr (4, [.int 0, .int 1, .ref q_7, .int 0, .int (-1), .null, .int (-1), .null])), (q_17, .inr (4, [.int 1, .int 1, .ref q_7, .int 0, .int (-1), .null, .int (-1), .null])), (q_22, .inr (4, [.int 2, .int 1, .ref q_7, .int 0, .int (-1), .null, .int (-1), .null])), (q_27, .inr (4, [.int 0, .int 0, .null, .int 0, .int 0, .null, .int 0, .null]))] H := hP
  have hD : va_D A [(x, .inr (5, [.ref q_1, .ref q_2, .ref q_3, .ref q_6])), (q_1, wT tC 5 (va_up (va_up (va_up (fun _ => none) 0 (some q_12)) 1 (some q_17)) 2 (some q_22))), (q_2, wI tC 5 (upd (upd (upd (fun _ => 0) 0 30) 1 29) 2 27)), (q_3, .inr (0, [.int 0, .ref dz, .int 0])), (q_6, wS tC 5 (fun _ => none)), (q_8, wI tC 0 (fun _ => 0)), (q_9, wI tC 0 (fun _ => 0)), (q_7, .inr (3, [.ref q_8, .ref q_9, .int 5, .int 0])), (q_12, .inr (4, [.int 0, .int 1, .ref q_7, .int 0, .int (-1), .null, .int (-1), .null])), (q_17, .inr (4, [.int 1, .int 1, .ref q_7, .int 0, .int (-1), .null, .int (-1), .null])), (q_22, .inr (4, [.int 2, .int 1, .ref q_7, .int 0, .int (-1), .null, .int (-1), .null])), (q_27, .inr (4, [.int 0, .int 0, .null, .int 0, .int 0, .null, .int 0, .null]))] := hD
  refine W.widen (k := 11) (n := 54) (by omega) (by omega) ?_
  refine lv_dup hx hb dX4_init_69 rfl ?_
  refine lv_iload_n hx hb dX4_init_70 rfl (lv_at hl 0 rfl) ?_
  refine lv_aload_n hx hb dX4_init_71 rfl (lv_at hl 1 rfl) ?_
  have hPc := hP.sub (ws' := [(q_27, .inr (4, [.int 0, .int 0, .null, .int 0, .int 0, .null, .int 0, .null]))]) [11] rfl
  have hDc := hD.sub (ws' := [(q_27, .inr (4, [.int 0, .int 0, .null, .int 0, .int 0, .null, .int 0, .null]))]) [11] (by decide) rfl
  have hFc := va_free (wc := [(q_27, .inr (4, [.int 0, .int 0, .null, .int 0, .int 0, .null, .int 0, .null]))]) hD hS hA [11] rfl
  refine va_callv (va_runIN (As := [.int 3, .ref q_7]) (rest := [.ref q_27, .int 3, .ref q_1]) ⟨hx, hb, hml, hown, hts⟩ (c_E_X3_init l hlt D tC dz H.size q_27 q_7 3 ) ⟨(va_cnB (host := "NoticeStations") 2 hts gX4_init_X3_init_n35 rfl rfl rfl (hN.1 (.methodLinkNest "NoticeStations" 35 ⟨"NoticeStations$Station", "<init>", "(ILNoticeStations$Standing;)V"⟩ "NoticeStations") (by decide +kernel)) w_19 (by decide +kernel) ⟨Nat.le_of_ble_eq_true rfl, Nat.le_of_ble_eq_true rfl⟩), rfl, w_20⟩ ⟨pB_blind, pB_at hPc hDc hK hN hE hS hFc⟩ rfl rfl hl.1 rfl (lv_room (Nat.le_of_ble_eq_true rfl)) dX4_init_72 ⟨Nat.le_of_ble_eq_true rfl, Nat.le_of_ble_eq_true rfl⟩) hS (fun q _ h => hFc q h) hFc (fun u t H1 locs ht hvm hw hB hz1 hk1 hS => ?_)
  obtain ⟨hP1, _, hD1⟩ := hB
  have hw_29 := hw
  rw [ht] at hP1
  obtain ⟨hP, hD⟩ := va_join (wr := [(x, .inr (5, [.ref q_1, .ref q_2, .ref q_3, .ref q_6])), (q_1, wT tC 5 (va_up (va_up (va_up (fun _ => none) 0 (some q_12)) 1 (some q_17)) 2 (some q_22))), (q_2, wI tC 5 (upd (upd (upd (fun _ => 0) 0 30) 1 29) 2 27)), (q_3, .inr (0, [.int 0, .ref dz, .int 0])), (q_6, wS tC 5 (fun _ => none)), (q_8, wI tC 0 (fun _ => 0)), (q_9, wI tC 0 (fun _ => 0)), (q_7, .inr (3, [.ref q_8, .ref q_9, .int 5, .int 0])), (q_12, .inr (4, [.int 0, .int 1, .ref q_7, .int 0, .int (-1), .null, .int (-1), .null])), (q_17, .inr (4, [.int 1, .int 1, .ref q_7, .int 0, .int (-1), .null, .int (-1), .null])), (q_22, .inr (4, [.int 2, .int 1, .ref q_7, .int 0, .int (-1), .null, .int (-1), .null]))]) (w1 := [(q_27, .inr (4, [.int 3, .int 1, .ref q_7, .int 0, .int (-1), .null, .int (-1), .null]))]) hP hD [11] [0, 1, 2, 3, 4, 5, 6, 7, 8, 9, 10] rfl rfl (by decide) (by decide) hk1 hFc hP1 hD1
  generalize H1 = H at hP hS ⊢
  have hP : va_P D vwCl [(x, .inr (5, [.ref q_1, .ref q_2, .ref q_3, .ref q_6])), (q_1, wT tC 5 (va_up (va_up (va_up (fun _ => none) 0 (some q_12)) 1 (some q_17)) 2 (some q_22))), (q_2, wI tC 5 (upd (upd (upd (fun _ => 0) 0 30) 1 29) 2 27)), (q_3, .inr (0, [.int 0, .ref dz, .int 0])), (q_6, wS tC 5 (fun _ => none)), (q_8, wI tC 0 (fun _ => 0)), (q_9, wI tC 0 (fun _ => 0)), (q_7, .inr (3, [.ref q_8, .ref q_9, .int 5, .int 0])), (q_12, .inr (4, [.int 0, .int 1, .ref q_7, .int 0, .int (-1), .null, .int (-1), .null])), (q_17, .inr (4, [.int 1, .int 1, .ref q_7, .int 0, .int (-1), .null, .int (-1), .null])), (q_22, .inr (4, [.int 2, .int 1, .ref q_7, .int 0, .int (-1), .null, .int (-1), .null])), (q_27, .inr (4, [.int 3, .int 1, .ref q_7, .int 0, .int (-1), .null, .int (-1), .null]))] H := hP
  have hD : va_D A [(x, .inr (5, [.ref q_1, .ref q_2, .ref q_3, .ref q_6])), (q_1, wT tC 5 (va_up (va_up (va_up (fun _ => none) 0 (some q_12)) 1 (some q_17)) 2 (some q_22))), (q_2, wI tC 5 (upd (upd (upd (fun _ => 0) 0 30) 1 29) 2 27)), (q_3, .inr (0, [.int 0, .ref dz, .int 0])), (q_6, wS tC 5 (fun _ => none)), (q_8, wI tC 0 (fun _ => 0)), (q_9, wI tC 0 (fun _ => 0)), (q_7, .inr (3, [.ref q_8, .ref q_9, .int 5, .int 0])), (q_12, .inr (4, [.int 0, .int 1, .ref q_7, .int 0, .int (-1), .null, .int (-1), .null])), (q_17, .inr (4, [.int 1, .int 1, .ref q_7, .int 0, .int (-1), .null, .int (-1), .null])), (q_22, .inr (4, [.int 2, .int 1, .ref q_7, .int 0, .int (-1), .null, .int (-1), .null])), (q_27, .inr (4, [.int 3, .int 1, .ref q_7, .int 0, .int (-1), .null, .int (-1), .null]))] := hD
  refine va_astq hx hb hK hP hD hS 1 3 11 4 rfl rfl rfl rfl (by unfold vp_in; decide) dX4_init_75 (fun H locs hP hD hS => ?_)
  have hP : va_P D vwCl [(x, .inr (5, [.ref q_1, .ref q_2, .ref q_3, .ref q_6])), (q_1, wT tC 5 (va_up (va_up (va_up (va_up (fun _ => none) 0 (some q_12)) 1 (some q_17)) 2 (some q_22)) 3 (some q_27))), (q_2, wI tC 5 (upd (upd (upd (fun _ => 0) 0 30) 1 29) 2 27)), (q_3, .inr (0, [.int 0, .ref dz, .int 0])), (q_6, wS tC 5 (fun _ => none)), (q_8, wI tC 0 (fun _ => 0)), (q_9, wI tC 0 (fun _ => 0)), (q_7, .inr (3, [.ref q_8, .ref q_9, .int 5, .int 0])), (q_12, .inr (4, [.int 0, .int 1, .ref q_7, .int 0, .int (-1), .null, .int (-1), .null])), (q_17, .inr (4, [.int 1, .int 1, .ref q_7, .int 0, .int (-1), .null, .int (-1), .null])), (q_22, .inr (4, [.int 2, .int 1, .ref q_7, .int 0, .int (-1), .null, .int (-1), .null])), (q_27, .inr (4, [.int 3, .int 1, .ref q_7, .int 0, .int (-1), .null, .int (-1), .null]))] H := hP
  have hD : va_D A [(x, .inr (5, [.ref q_1, .ref q_2, .ref q_3, .ref q_6])), (q_1, wT tC 5 (va_up (va_up (va_up (va_up (fun _ => none) 0 (some q_12)) 1 (some q_17)) 2 (some q_22)) 3 (some q_27))), (q_2, wI tC 5 (upd (upd (upd (fun _ => 0) 0 30) 1 29) 2 27)), (q_3, .inr (0, [.int 0, .ref dz, .int 0])), (q_6, wS tC 5 (fun _ => none)), (q_8, wI tC 0 (fun _ => 0)), (q_9, wI tC 0 (fun _ => 0)), (q_7, .inr (3, [.ref q_8, .ref q_9, .int 5, .int 0])), (q_12, .inr (4, [.int 0, .int 1, .ref q_7, .int 0, .int (-1), .null, .int (-1), .null])), (q_17, .inr (4, [.int 1, .int 1, .ref q_7, .int 0, .int (-1), .null, .int (-1), .null])), (q_22, .inr (4, [.int 2, .int 1, .ref q_7, .int 0, .int (-1), .null, .int (-1), .null])), (q_27, .inr (4, [.int 3, .int 1, .ref q_7, .int 0, .int (-1), .null, .int (-1), .null]))] := hD
  refine lv_aload_n hx hb dX4_init_76 rfl (lv_at hl 2 rfl) ?_
  refine va_get (D := D) (ci := 5) (v := .ref q_2) (C := RX4) (T := TX4) (N := 4) hx hb hts in_X4_init_X4 hown hK hP 0 rfl rfl 1 (by decide) w_6 (fun _ h9 => h9) rfl dX4_init_77 ?_
  refine lv_iload_n hx hb dX4_init_80 rfl (lv_at hl 0 rfl) ?_
  refine lv_bipush (v := 31) hx hb dX4_init_81 (by decide) ?_
  refine lv_iconst (v := 1) hx hb dX4_init_83 (by decide) ?_
  refine lv_iload_n hx hb dX4_init_84 rfl (lv_at hl 0 rfl) ?_
  refine lv_ishl hx hb dX4_init_85 ?_
  refine lv_topi (fun z_30 ez_30 => ?_)
  have fz_30 : z_30 = 8 := ez_30.trans (by decide)
  subst fz_30
  refine lv_isub hx hb dX4_init_86 ?_
  refine lv_topi (fun z_31 ez_31 => ?_)
  have fz_31 : z_31 = 23 := ez_31.trans (by decide)
  subst fz_31
  refine va_iast hx hb hK hP hD hS 2 0 rfl rfl (by unfold vp_in; decide) dX4_init_87 (fun H locs hP hD hS => ?_)
  have hP : va_P D vwCl [(x, .inr (5, [.ref q_1, .ref q_2, .ref q_3, .ref q_6])), (q_1, wT tC 5 (va_up (va_up (va_up (va_up (fun _ => none) 0 (some q_12)) 1 (some q_17)) 2 (some q_22)) 3 (some q_27))), (q_2, wI tC 5 (upd (upd (upd (upd (fun _ => 0) 0 30) 1 29) 2 27) 3 23)), (q_3, .inr (0, [.int 0, .ref dz, .int 0])), (q_6, wS tC 5 (fun _ => none)), (q_8, wI tC 0 (fun _ => 0)), (q_9, wI tC 0 (fun _ => 0)), (q_7, .inr (3, [.ref q_8, .ref q_9, .int 5, .int 0])), (q_12, .inr (4, [.int 0, .int 1, .ref q_7, .int 0, .int (-1), .null, .int (-1), .null])), (q_17, .inr (4, [.int 1, .int 1, .ref q_7, .int 0, .int (-1), .null, .int (-1), .null])), (q_22, .inr (4, [.int 2, .int 1, .ref q_7, .int 0, .int (-1), .null, .int (-1), .null])), (q_27, .inr (4, [.int 3, .int 1, .ref q_7, .int 0, .int (-1), .null, .int (-1), .null]))] H := hP
  have hD : va_D A [(x, .inr (5, [.ref q_1, .ref q_2, .ref q_3, .ref q_6])), (q_1, wT tC 5 (va_up (va_up (va_up (va_up (fun _ => none) 0 (some q_12)) 1 (some q_17)) 2 (some q_22)) 3 (some q_27))), (q_2, wI tC 5 (upd (upd (upd (upd (fun _ => 0) 0 30) 1 29) 2 27) 3 23)), (q_3, .inr (0, [.int 0, .ref dz, .int 0])), (q_6, wS tC 5 (fun _ => none)), (q_8, wI tC 0 (fun _ => 0)), (q_9, wI tC 0 (fun _ => 0)), (q_7, .inr (3, [.ref q_8, .ref q_9, .int 5, .int 0])), (q_12, .inr (4, [.int 0, .int 1, .ref q_7, .int 0, .int (-1), .null, .int (-1), .null])), (q_17, .inr (4, [.int 1, .int 1, .ref q_7, .int 0, .int (-1), .null, .int (-1), .null])), (q_22, .inr (4, [.int 2, .int 1, .ref q_7, .int 0, .int (-1), .null, .int (-1), .null])), (q_27, .inr (4, [.int 3, .int 1, .ref q_7, .int 0, .int (-1), .null, .int (-1), .null]))] := hD
  refine lv_iinc (v := 4) (lv' := [(2, .int 4), (1, .ref q_7), (0, .ref x)]) hx hb dX4_init_88 hl (k := 0) rfl (by decide) (by decide) rfl (fun ls hl => ?_)
  refine lv_goto (tgt := 56) hx hb dX4_init_91 (by decide) ?_
  refine lv_iload_n hx hb dX4_init_56 rfl (lv_at hl 0 rfl) ?_
  refine lv_iconst (v := 5) hx hb dX4_init_57 (by decide) ?_
  refine lv_icmp_ge (tgt := 94) hx hb dX4_init_58 (by decide) (fun hc => absurd hc (by decide)) (fun _ => ?_)
  refine lv_aload_n hx hb dX4_init_61 rfl (lv_at hl 2 rfl) ?_
  refine va_get (D := D) (ci := 5) (v := .ref q_1) (C := RX4) (T := TX4) (N := 4) hx hb hts in_X4_init_X4 hown hK hP 0 rfl rfl 0 (by decide) w_4 (fun _ h9 => h9) rfl dX4_init_62 ?_
  refine lv_iload_n hx hb dX4_init_65 rfl (lv_at hl 0 rfl) ?_
  refine va_new (ci := 4) (fs := [.int 0, .int 0, .null, .int 0, .int 0, .null, .int 0, .null]) (C := RX3) (T := TX3) (N := 8) hx hb hts in_X4_init_X3 tyX3 tyX3_ok hown w_3 w_18 w_19 hK hP hD hS hA rfl (by decide +kernel) (Nat.le_of_ble_eq_true rfl) (Nat.le_of_ble_eq_true rfl) dX4_init_66 (fun q_32 H hP hD hS => ?_)
  have hP : va_P D vwCl [(x, .inr (5, [.ref q_1, .ref q_2, .ref q_3, .ref q_6])), (q_1, wT tC 5 (va_up (va_up (va_up (va_up (fun _ => none) 0 (some q_12)) 1 (some q_17)) 2 (some q_22)) 3 (some q_27))), (q_2, wI tC 5 (upd (upd (upd (upd (fun _ => 0) 0 30) 1 29) 2 27) 3 23)), (q_3, .inr (0, [.int 0, .ref dz, .int 0])), (q_6, wS tC 5 (fun _ => none)), (q_8, wI tC 0 (fun _ => 0)), (q_9, wI tC 0 (fun _ => 0)), (q_7, .inr (3, [.ref q_8, .ref q_9, .int 5, .int 0])), (q_12, .inr (4, [.int 0, .int 1, .ref q_7, .int 0, .int (-1), .null, .int (-1), .null])), (q_17, .inr (4, [.int 1, .int 1, .ref q_7, .int 0, .int (-1), .null, .int (-1), .null])), (q_22, .inr (4, [.int 2, .int 1, .ref q_7, .int 0, .int (-1), .null, .int (-1), .null])), (q_27, .inr (4, [.int 3, .int 1, .ref q_7, .int 0, .int (-1), .null, .int (-1), .null])), (q_32, .inr (4, [.int 0, .int 0, .null, .int 0, .int 0, .null, .int 0, .null]))] H := hP
  have hD : va_D A [(x, .inr (5, [.ref q_1, .ref q_2, .ref q_3, .ref q_6])), (q_1, wT tC 5 (va_up (va_up (va_up (va_up (fun _ => none) 0 (some q_12)) 1 (some q_17)) 2 (some q_22)) 3 (some q_27))), (q_2, wI tC 5 (upd (upd (upd (upd (fun _ => 0) 0 30) 1 29) 2 27) 3 23)), (q_3, .inr (0, [.int 0, .ref dz, .int 0])), (q_6, wS tC 5 (fun _ => none)), (q_8, wI tC 0 (fun _ => 0)), (q_9, wI tC 0 (fun _ => 0)), (q_7, .inr (3, [.ref q_8, .ref q_9, .int 5, .int 0])), (q_12, .inr (4, [.int 0, .int 1, .ref q_7, .int 0, .int (-1), .null, .int (-1), .null])), (q_17, .inr (4, [.int 1, .int 1, .ref q_7, .int 0, .int (-1), .null, .int (-1), .null])), (q_22, .inr (4, [.int 2, .int 1, .ref q_7, .int 0, .int (-1), .null, .int (-1), .null])), (q_27, .inr (4, [.int 3, .int 1, .ref q_7, .int 0, .int (-1), .null, .int (-1), .null])), (q_32, .inr (4, [.int 0, .int 0, .null, .int 0, .int 0, .null, .int 0, .null]))] := hD
  refine W.widen (k := 12) (n := 62) (by omega) (by omega) ?_
  refine lv_dup hx hb dX4_init_69 rfl ?_
  refine lv_iload_n hx hb dX4_init_70 rfl (lv_at hl 0 rfl) ?_
  refine lv_aload_n hx hb dX4_init_71 rfl (lv_at hl 1 rfl) ?_
  have hPc := hP.sub (ws' := [(q_32, .inr (4, [.int 0, .int 0, .null, .int 0, .int 0, .null, .int 0, .null]))]) [12] rfl
  have hDc := hD.sub (ws' := [(q_32, .inr (4, [.int 0, .int 0, .null, .int 0, .int 0, .null, .int 0, .null]))]) [12] (by decide) rfl
  have hFc := va_free (wc := [(q_32, .inr (4, [.int 0, .int 0, .null, .int 0, .int 0, .null, .int 0, .null]))]) hD hS hA [12] rfl
  refine va_callv (va_runIN (As := [.int 4, .ref q_7]) (rest := [.ref q_32, .int 4, .ref q_1]) ⟨hx, hb, hml, hown, hts⟩ (c_E_X3_init l hlt D tC dz H.size q_32 q_7 4 ) ⟨(va_cnB (host := "NoticeStations") 2 hts gX4_init_X3_init_n35 rfl rfl rfl (hN.1 (.methodLinkNest "NoticeStations" 35 ⟨"NoticeStations$Station", "<init>", "(ILNoticeStations$Standing;)V"⟩ "NoticeStations") (by decide +kernel)) w_19 (by decide +kernel) ⟨Nat.le_of_ble_eq_true rfl, Nat.le_of_ble_eq_true rfl⟩), rfl, w_20⟩ ⟨pB_blind, pB_at hPc hDc hK hN hE hS hFc⟩ rfl rfl hl.1 rfl (lv_room (Nat.le_of_ble_eq_true rfl)) dX4_init_72 ⟨Nat.le_of_ble_eq_true rfl, Nat.le_of_ble_eq_true rfl⟩) hS (fun q _ h => hFc q h) hFc (fun u t H1 locs ht hvm hw hB hz1 hk1 hS => ?_)
  obtain ⟨hP1, _, hD1⟩ := hB
  have hw_34 := hw
  rw [ht] at hP1
  obtain ⟨hP, hD⟩ := va_join (wr := [(x, .inr (5, [.ref q_1, .ref q_2, .ref q_3, .ref q_6])), (q_1, wT tC 5 (va_up (va_up (va_up (va_up (fun _ => none) 0 (some q_12)) 1 (some q_17)) 2 (some q_22)) 3 (some q_27))), (q_2, wI tC 5 (upd (upd (upd (upd (fun _ => 0) 0 30) 1 29) 2 27) 3 23)), (q_3, .inr (0, [.int 0, .ref dz, .int 0])), (q_6, wS tC 5 (fun _ => none)), (q_8, wI tC 0 (fun _ => 0)), (q_9, wI tC 0 (fun _ => 0)), (q_7, .inr (3, [.ref q_8, .ref q_9, .int 5, .int 0])), (q_12, .inr (4, [.int 0, .int 1, .ref q_7, .int 0, .int (-1), .null, .int (-1), .null])), (q_17, .inr (4, [.int 1, .int 1, .ref q_7, .int 0, .int (-1), .null, .int (-1), .null])), (q_22, .inr (4, [.int 2, .int 1, .ref q_7, .int 0, .int (-1), .null, .int (-1), .null])), (q_27, .inr (4, [.int 3, .int 1, .ref q_7, .int 0, .int (-1), .null, .int (-1), .null]))]) (w1 := [(q_32, .inr (4, [.int 4, .int 1, .ref q_7, .int 0, .int (-1), .null, .int (-1), .null]))]) hP hD [12] [0, 1, 2, 3, 4, 5, 6, 7, 8, 9, 10, 11] rfl rfl (by decide) (by decide) hk1 hFc hP1 hD1
  generalize H1 = H at hP hS ⊢
  have hP : va_P D vwCl [(x, .inr (5, [.ref q_1, .ref q_2, .ref q_3, .ref q_6])), (q_1, wT tC 5 (va_up (va_up (va_up (va_up (fun _ => none) 0 (some q_12)) 1 (some q_17)) 2 (some q_22)) 3 (some q_27))), (q_2, wI tC 5 (upd (upd (upd (upd (fun _ => 0) 0 30) 1 29) 2 27) 3 23)), (q_3, .inr (0, [.int 0, .ref dz, .int 0])), (q_6, wS tC 5 (fun _ => none)), (q_8, wI tC 0 (fun _ => 0)), (q_9, wI tC 0 (fun _ => 0)), (q_7, .inr (3, [.ref q_8, .ref q_9, .int 5, .int 0])), (q_12, .inr (4, [.int 0, .int 1, .ref q_7, .int 0, .int (-1), .null, .int (-1), .null])), (q_17, .inr (4, [.int 1, .int 1, .ref q_7, .int 0, .int (-1), .null, .int (-1), .null])), (q_22, .inr (4, [.int 2, .int 1, .ref q_7, .int 0, .int (-1), .null, .int (-1), .null])), (q_27, .inr (4, [.int 3, .int 1, .ref q_7, .int 0, .int (-1), .null, .int (-1), .null])), (q_32, .inr (4, [.int 4, .int 1, .ref q_7, .int 0, .int (-1), .null, .int (-1), .null]))] H := hP
  have hD : va_D A [(x, .inr (5, [.ref q_1, .ref q_2, .ref q_3, .ref q_6])), (q_1, wT tC 5 (va_up (va_up (va_up (va_up (fun _ => none) 0 (some q_12)) 1 (some q_17)) 2 (some q_22)) 3 (some q_27))), (q_2, wI tC 5 (upd (upd (upd (upd (fun _ => 0) 0 30) 1 29) 2 27) 3 23)), (q_3, .inr (0, [.int 0, .ref dz, .int 0])), (q_6, wS tC 5 (fun _ => none)), (q_8, wI tC 0 (fun _ => 0)), (q_9, wI tC 0 (fun _ => 0)), (q_7, .inr (3, [.ref q_8, .ref q_9, .int 5, .int 0])), (q_12, .inr (4, [.int 0, .int 1, .ref q_7, .int 0, .int (-1), .null, .int (-1), .null])), (q_17, .inr (4, [.int 1, .int 1, .ref q_7, .int 0, .int (-1), .null, .int (-1), .null])), (q_22, .inr (4, [.int 2, .int 1, .ref q_7, .int 0, .int (-1), .null, .int (-1), .null])), (q_27, .inr (4, [.int 3, .int 1, .ref q_7, .int 0, .int (-1), .null, .int (-1), .null])), (q_32, .inr (4, [.int 4, .int 1, .ref q_7, .int 0, .int (-1), .null, .int (-1), .null]))] := hD
  refine va_astq hx hb hK hP hD hS 1 3 12 4 rfl rfl rfl rfl (by unfold vp_in; decide) dX4_init_75 (fun H locs hP hD hS => ?_)
  have hP : va_P D vwCl [(x, .inr (5, [.ref q_1, .ref q_2, .ref q_3, .ref q_6])), (q_1, wT tC 5 (va_up (va_up (va_up (va_up (va_up (fun _ => none) 0 (some q_12)) 1 (some q_17)) 2 (some q_22)) 3 (some q_27)) 4 (some q_32))), (q_2, wI tC 5 (upd (upd (upd (upd (fun _ => 0) 0 30) 1 29) 2 27) 3 23)), (q_3, .inr (0, [.int 0, .ref dz, .int 0])), (q_6, wS tC 5 (fun _ => none)), (q_8, wI tC 0 (fun _ => 0)), (q_9, wI tC 0 (fun _ => 0)), (q_7, .inr (3, [.ref q_8, .ref q_9, .int 5, .int 0])), (q_12, .inr (4, [.int 0, .int 1, .ref q_7, .int 0, .int (-1), .null, .int (-1), .null])), (q_17, .inr (4, [.int 1, .int 1, .ref q_7, .int 0, .int (-1), .null, .int (-1), .null])), (q_22, .inr (4, [.int 2, .int 1, .ref q_7, .int 0, .int (-1), .null, .int (-1), .null])), (q_27, .inr (4, [.int 3, .int 1, .ref q_7, .int 0, .int (-1), .null, .int (-1), .null])), (q_32, .inr (4, [.int 4, .int 1, .ref q_7, .int 0, .int (-1), .null, .int (-1), .null]))] H := hP
  have hD : va_D A [(x, .inr (5, [.ref q_1, .ref q_2, .ref q_3, .ref q_6])), (q_1, wT tC 5 (va_up (va_up (va_up (va_up (va_up (fun _ => none) 0 (some q_12)) 1 (some q_17)) 2 (some q_22)) 3 (some q_27)) 4 (some q_32))), (q_2, wI tC 5 (upd (upd (upd (upd (fun _ => 0) 0 30) 1 29) 2 27) 3 23)), (q_3, .inr (0, [.int 0, .ref dz, .int 0])), (q_6, wS tC 5 (fun _ => none)), (q_8, wI tC 0 (fun _ => 0)), (q_9, wI tC 0 (fun _ => 0)), (q_7, .inr (3, [.ref q_8, .ref q_9, .int 5, .int 0])), (q_12, .inr (4, [.int 0, .int 1, .ref q_7, .int 0, .int (-1), .null, .int (-1), .null])), (q_17, .inr (4, [.int 1, .int 1, .ref q_7, .int 0, .int (-1), .null, .int (-1), .null])), (q_22, .inr (4, [.int 2, .int 1, .ref q_7, .int 0, .int (-1), .null, .int (-1), .null])), (q_27, .inr (4, [.int 3, .int 1, .ref q_7, .int 0, .int (-1), .null, .int (-1), .null])), (q_32, .inr (4, [.int 4, .int 1, .ref q_7, .int 0, .int (-1), .null, .int (-1), .null]))] := hD
  refine lv_aload_n hx hb dX4_init_76 rfl (lv_at hl 2 rfl) ?_
  refine va_get (D := D) (ci := 5) (v := .ref q_2) (C := RX4) (T := TX4) (N := 4) hx hb hts in_X4_init_X4 hown hK hP 0 rfl rfl 1 (by decide) w_6 (fun _ h9 => h9) rfl dX4_init_77 ?_
  refine lv_iload_n hx hb dX4_init_80 rfl (lv_at hl 0 rfl) ?_
  refine lv_bipush (v := 31) hx hb dX4_init_81 (by decide) ?_
  refine lv_iconst (v := 1) hx hb dX4_init_83 (by decide) ?_
  refine lv_iload_n hx hb dX4_init_84 rfl (lv_at hl 0 rfl) ?_
  refine lv_ishl hx hb dX4_init_85 ?_
  refine lv_topi (fun z_35 ez_35 => ?_)
  have fz_35 : z_35 = 16 := ez_35.trans (by decide)
  subst fz_35
  refine lv_isub hx hb dX4_init_86 ?_
  refine lv_topi (fun z_36 ez_36 => ?_)
  have fz_36 : z_36 = 15 := ez_36.trans (by decide)
  subst fz_36
  refine va_iast hx hb hK hP hD hS 2 0 rfl rfl (by unfold vp_in; decide) dX4_init_87 (fun H locs hP hD hS => ?_)
  have hP : va_P D vwCl [(x, .inr (5, [.ref q_1, .ref q_2, .ref q_3, .ref q_6])), (q_1, wT tC 5 (va_up (va_up (va_up (va_up (va_up (fun _ => none) 0 (some q_12)) 1 (some q_17)) 2 (some q_22)) 3 (some q_27)) 4 (some q_32))), (q_2, wI tC 5 (upd (upd (upd (upd (upd (fun _ => 0) 0 30) 1 29) 2 27) 3 23) 4 15)), (q_3, .inr (0, [.int 0, .ref dz, .int 0])), (q_6, wS tC 5 (fun _ => none)), (q_8, wI tC 0 (fun _ => 0)), (q_9, wI tC 0 (fun _ => 0)), (q_7, .inr (3, [.ref q_8, .ref q_9, .int 5, .int 0])), (q_12, .inr (4, [.int 0, .int 1, .ref q_7, .int 0, .int (-1), .null, .int (-1), .null])), (q_17, .inr (4, [.int 1, .int 1, .ref q_7, .int 0, .int (-1), .null, .int (-1), .null])), (q_22, .inr (4, [.int 2, .int 1, .ref q_7, .int 0, .int (-1), .null, .int (-1), .null])), (q_27, .inr (4, [.int 3, .int 1, .ref q_7, .int 0, .int (-1), .null, .int (-1), .null])), (q_32, .inr (4, [.int 4, .int 1, .ref q_7, .int 0, .int (-1), .null, .int (-1), .null]))] H := hP
  have hD : va_D A [(x, .inr (5, [.ref q_1, .ref q_2, .ref q_3, .ref q_6])), (q_1, wT tC 5 (va_up (va_up (va_up (va_up (va_up (fun _ => none) 0 (some q_12)) 1 (some q_17)) 2 (some q_22)) 3 (some q_27)) 4 (some q_32))), (q_2, wI tC 5 (upd (upd (upd (upd (upd (fun _ => 0) 0 30) 1 29) 2 27) 3 23) 4 15)), (q_3, .inr (0, [.int 0, .ref dz, .int 0])), (q_6, wS tC 5 (fun _ => none)), (q_8, wI tC 0 (fun _ => 0)), (q_9, wI tC 0 (fun _ => 0)), (q_7, .inr (3, [.ref q_8, .ref q_9, .int 5, .int 0])), (q_12, .inr (4, [.int 0, .int 1, .ref q_7, .int 0, .int (-1), .null, .int (-1), .null])), (q_17, .inr (4, [.int 1, .int 1, .ref q_7, .int 0, .int (-1), .null, .int (-1), .null])), (q_22, .inr (4, [.int 2, .int 1, .ref q_7, .int 0, .int (-1), .null, .int (-1), .null])), (q_27, .inr (4, [.int 3, .int 1, .ref q_7, .int 0, .int (-1), .null, .int (-1), .null])), (q_32, .inr (4, [.int 4, .int 1, .ref q_7, .int 0, .int (-1), .null, .int (-1), .null]))] := hD
  refine lv_iinc (v := 5) (lv' := [(2, .int 5), (1, .ref q_7), (0, .ref x)]) hx hb dX4_init_88 hl (k := 0) rfl (by decide) (by decide) rfl (fun ls hl => ?_)
  refine lv_goto (tgt := 56) hx hb dX4_init_91 (by decide) ?_
  refine lv_iload_n hx hb dX4_init_56 rfl (lv_at hl 0 rfl) ?_
  refine lv_iconst (v := 5) hx hb dX4_init_57 (by decide) ?_
  refine lv_icmp_ge (tgt := 94) hx hb dX4_init_58 (by decide) (fun _ => ?_) (fun hc => absurd (by decide) hc)
  have hP9 := hP.sub (ws' := [(x, .inr (5, [.ref q_1, .ref q_2, .ref q_3, .ref q_6])), (q_1, wT tC 5 (va_up (va_up (va_up (va_up (va_up (fun _ => none) 0 (some q_12)) 1 (some q_17)) 2 (some q_22)) 3 (some q_27)) 4 (some q_32))), (q_2, wI tC 5 (upd (upd (upd (upd (upd (fun _ => 0) 0 30) 1 29) 2 27) 3 23) 4 15)), (q_3, .inr (0, [.int 0, .ref dz, .int 0])), (q_6, wS tC 5 (fun _ => none)), (q_7, .inr (3, [.ref q_8, .ref q_9, .int 5, .int 0])), (q_8, wI tC 0 (fun _ => 0)), (q_9, wI tC 0 (fun _ => 0)), (q_12, .inr (4, [.int 0, .int 1, .ref q_7, .int 0, .int (-1), .null, .int (-1), .null])), (q_17, .inr (4, [.int 1, .int 1, .ref q_7, .int 0, .int (-1), .null, .int (-1), .null])), (q_22, .inr (4, [.int 2, .int 1, .ref q_7, .int 0, .int (-1), .null, .int (-1), .null])), (q_27, .inr (4, [.int 3, .int 1, .ref q_7, .int 0, .int (-1), .null, .int (-1), .null])), (q_32, .inr (4, [.int 4, .int 1, .ref q_7, .int 0, .int (-1), .null, .int (-1), .null]))]) [0, 1, 2, 3, 4, 7, 5, 6, 8, 9, 10, 11, 12] rfl
  have hD9 := hD.sub (ws' := [(x, .inr (5, [.ref q_1, .ref q_2, .ref q_3, .ref q_6])), (q_1, wT tC 5 (va_up (va_up (va_up (va_up (va_up (fun _ => none) 0 (some q_12)) 1 (some q_17)) 2 (some q_22)) 3 (some q_27)) 4 (some q_32))), (q_2, wI tC 5 (upd (upd (upd (upd (upd (fun _ => 0) 0 30) 1 29) 2 27) 3 23) 4 15)), (q_3, .inr (0, [.int 0, .ref dz, .int 0])), (q_6, wS tC 5 (fun _ => none)), (q_7, .inr (3, [.ref q_8, .ref q_9, .int 5, .int 0])), (q_8, wI tC 0 (fun _ => 0)), (q_9, wI tC 0 (fun _ => 0)), (q_12, .inr (4, [.int 0, .int 1, .ref q_7, .int 0, .int (-1), .null, .int (-1), .null])), (q_17, .inr (4, [.int 1, .int 1, .ref q_7, .int 0, .int (-1), .null, .int (-1), .null])), (q_22, .inr (4, [.int 2, .int 1, .ref q_7, .int 0, .int (-1), .null, .int (-1), .null])), (q_27, .inr (4, [.int 3, .int 1, .ref q_7, .int 0, .int (-1), .null, .int (-1), .null])), (q_32, .inr (4, [.int 4, .int 1, .ref q_7, .int 0, .int (-1), .null, .int (-1), .null]))]) [0, 1, 2, 3, 4, 7, 5, 6, 8, 9, 10, 11, 12] (by decide) rfl
  refine W.widen (k := 12) (n := 62) (by omega) (by omega) ?_
  exact W.vret hx hb hr (fun t ht hW => ⟨⟨(), rfl, trivial, q_1, q_2, q_3, q_6, q_7, q_8, q_9, (fun i => match i with | 0 => q_12 | 1 => q_17 | 2 => q_22 | 3 => q_27 | _ => q_32), _, _, (by intro i hi; rcases (show i = 0 ∨ i = 1 ∨ i = 2 ∨ i = 3 ∨ i = 4 by omega) with rfl | rfl | rfl | rfl | rfl <;> rfl), (by intro i hi; rcases (show i = 0 ∨ i = 1 ∨ i = 2 ∨ i = 3 ∨ i = 4 by omega) with rfl | rfl | rfl | rfl | rfl <;> decide +kernel), (by rw [ht]; exact hP9), va_K.moved hW.alike hK, hD9⟩, hS.F ht⟩) hS.2.2 dX4_init_94 hlocks
