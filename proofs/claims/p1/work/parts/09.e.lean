set_option maxRecDepth 100000 in
theorem dX4_cable_0 : decode cX4_cable 0 = .ok (.aload_n 0, 1) := by decide +kernel
set_option maxRecDepth 100000 in
theorem dX4_cable_1 : decode cX4_cable 1 = .ok (.iload_n 1, 1) := by decide +kernel
set_option maxRecDepth 100000 in
theorem dX4_cable_2 : decode cX4_cable 2 = .ok (.iload_n 2, 1) := by decide +kernel
set_option maxRecDepth 100000 in
theorem dX4_cable_3 : decode cX4_cable 3 = .ok (.invokevirtual 38, 3) := by decide +kernel
set_option maxRecDepth 20000 in
theorem ggX4_cable_X4_requireTwoStations : GoodIn wsX4_cable wsX4_requireTwoStations := goodIn_ca (goodIn_r _ [6, 7, 8, 9, 10, 5, 11] (by decide +kernel) (by decide +kernel)) (goodIn_sub (fun _ h => List.mem_cons_of_mem _ (List.mem_append_right _ h)) (by decide +kernel))
set_option maxRecDepth 20000 in
theorem gX4_cable_X4_requireTwoStations : GoodIn wsX4_cable (wsV RX4 38 RX4 yX4_requireTwoStations wsX4_requireTwoStations) := goodIn_app (goodIn_of _ (by decide +kernel)) ggX4_cable_X4_requireTwoStations
set_option maxRecDepth 100000 in
theorem dX4_cable_6 : decode cX4_cable 6 = .ok (.aload_n 0, 1) := by decide +kernel
set_option maxRecDepth 100000 in
theorem dX4_cable_7 : decode cX4_cable 7 = .ok (.getfield 15, 3) := by decide +kernel
set_option maxRecDepth 100000 in
theorem in_X4_cable_X4 : ∀ w ∈ wsX40, w ∈ wsX4_cable := fun _ h => List.mem_cons_of_mem _ (List.mem_append_left _ (List.mem_append_right _ h))
set_option maxRecDepth 100000 in
theorem dX4_cable_10 : decode cX4_cable 10 = .ok (.iload_n 1, 1) := by decide +kernel
set_option maxRecDepth 100000 in
theorem dX4_cable_11 : decode cX4_cable 11 = .ok (.iaload, 1) := by decide +kernel
set_option maxRecDepth 100000 in
theorem dX4_cable_12 : decode cX4_cable 12 = .ok (.iconst 1, 1) := by decide +kernel
set_option maxRecDepth 100000 in
theorem dX4_cable_13 : decode cX4_cable 13 = .ok (.iload_n 2, 1) := by decide +kernel
set_option maxRecDepth 100000 in
theorem dX4_cable_14 : decode cX4_cable 14 = .ok (.ishl, 1) := by decide +kernel
set_option maxRecDepth 100000 in
theorem dX4_cable_15 : decode cX4_cable 15 = .ok (.iand, 1) := by decide +kernel
set_option maxRecDepth 100000 in
theorem dX4_cable_16 : decode cX4_cable 16 = .ok (.ifCond .eq 7, 3) := by decide +kernel
set_option maxRecDepth 100000 in
theorem dX4_cable_19 : decode cX4_cable 19 = .ok (.iconst 1, 1) := by decide +kernel
set_option maxRecDepth 100000 in
theorem dX4_cable_20 : decode cX4_cable 20 = .ok (.goto 4, 3) := by decide +kernel
set_option maxRecDepth 100000 in
theorem dX4_cable_24 : decode cX4_cable 24 = .ok (.istore 4, 2) := by decide +kernel
set_option maxRecDepth 100000 in
theorem dX4_cable_26 : decode cX4_cable 26 = .ok (.iload 4, 2) := by decide +kernel
set_option maxRecDepth 100000 in
theorem dX4_cable_28 : decode cX4_cable 28 = .ok (.iload_n 3, 1) := by decide +kernel
set_option maxRecDepth 100000 in
theorem dX4_cable_29 : decode cX4_cable 29 = .ok (.if_icmp .ne 5, 3) := by decide +kernel
set_option maxRecDepth 100000 in
theorem dX4_cable_34 : decode cX4_cable 34 = .ok (.aload_n 0, 1) := by decide +kernel
set_option maxRecDepth 100000 in
theorem dX4_cable_35 : decode cX4_cable 35 = .ok (.getfield 15, 3) := by decide +kernel
set_option maxRecDepth 100000 in
theorem dX4_cable_38 : decode cX4_cable 38 = .ok (.iload_n 1, 1) := by decide +kernel
set_option maxRecDepth 100000 in
theorem dX4_cable_39 : decode cX4_cable 39 = .ok (.dup2, 1) := by decide +kernel
set_option maxRecDepth 100000 in
theorem dX4_cable_40 : decode cX4_cable 40 = .ok (.iaload, 1) := by decide +kernel
set_option maxRecDepth 100000 in
theorem dX4_cable_41 : decode cX4_cable 41 = .ok (.iconst 1, 1) := by decide +kernel
set_option maxRecDepth 100000 in
theorem dX4_cable_42 : decode cX4_cable 42 = .ok (.iload_n 2, 1) := by decide +kernel
set_option maxRecDepth 100000 in
theorem dX4_cable_43 : decode cX4_cable 43 = .ok (.ishl, 1) := by decide +kernel
set_option maxRecDepth 100000 in
theorem dX4_cable_44 : decode cX4_cable 44 = .ok (.ixor, 1) := by decide +kernel
set_option maxRecDepth 100000 in
theorem dX4_cable_45 : decode cX4_cable 45 = .ok (.iastore, 1) := by decide +kernel
set_option maxRecDepth 100000 in
theorem dX4_cable_46 : decode cX4_cable 46 = .ok (.aload_n 0, 1) := by decide +kernel
set_option maxRecDepth 100000 in
theorem dX4_cable_47 : decode cX4_cable 47 = .ok (.getfield 15, 3) := by decide +kernel
set_option maxRecDepth 100000 in
theorem dX4_cable_50 : decode cX4_cable 50 = .ok (.iload_n 2, 1) := by decide +kernel
set_option maxRecDepth 100000 in
theorem dX4_cable_51 : decode cX4_cable 51 = .ok (.dup2, 1) := by decide +kernel
set_option maxRecDepth 100000 in
theorem dX4_cable_52 : decode cX4_cable 52 = .ok (.iaload, 1) := by decide +kernel
set_option maxRecDepth 100000 in
theorem dX4_cable_53 : decode cX4_cable 53 = .ok (.iconst 1, 1) := by decide +kernel
set_option maxRecDepth 100000 in
theorem dX4_cable_54 : decode cX4_cable 54 = .ok (.iload_n 1, 1) := by decide +kernel
set_option maxRecDepth 100000 in
theorem dX4_cable_55 : decode cX4_cable 55 = .ok (.ishl, 1) := by decide +kernel
set_option maxRecDepth 100000 in
theorem dX4_cable_56 : decode cX4_cable 56 = .ok (.ixor, 1) := by decide +kernel
set_option maxRecDepth 100000 in
theorem dX4_cable_57 : decode cX4_cable 57 = .ok (.iastore, 1) := by decide +kernel
set_option maxRecDepth 100000 in
theorem dX4_cable_58 : decode cX4_cable 58 = .ok (.iconst 1, 1) := by decide +kernel
set_option maxRecDepth 100000 in
theorem dX4_cable_59 : decode cX4_cable 59 = .ok (.ireturn, 1) := by decide +kernel
set_option maxRecDepth 100000 in
theorem dX4_cable_32 : decode cX4_cable 32 = .ok (.iconst 0, 1) := by decide +kernel
set_option maxRecDepth 100000 in
theorem dX4_cable_33 : decode cX4_cable 33 = .ok (.ireturn, 1) := by decide +kernel
set_option maxRecDepth 100000 in
theorem dX4_about_0 : decode cX4_about 0 = .ok (.aload_n 0, 1) := by decide +kernel
set_option maxRecDepth 100000 in
theorem dX4_about_1 : decode cX4_about 1 = .ok (.iload_n 1, 1) := by decide +kernel
set_option maxRecDepth 100000 in
theorem dX4_about_2 : decode cX4_about 2 = .ok (.invokevirtual 42, 3) := by decide +kernel
set_option maxRecDepth 20000 in
theorem ggX4_about_X4_stationAt : GoodIn wsX4_about wsX4_stationAt := goodIn_ca (goodIn_r _ [7, 8, 9, 10, 11, 12, 6, 13, 31, 32, 33, 34] (by decide +kernel) (by decide +kernel)) (goodIn_sub (fun _ h => List.mem_cons_of_mem _ (List.mem_append_right _ h)) (by decide +kernel))
set_option maxRecDepth 20000 in
theorem gX4_about_X4_stationAt : GoodIn wsX4_about (wsV RX4 42 RX4 yX4_stationAt wsX4_stationAt) := goodIn_app (goodIn_of _ (by decide +kernel)) ggX4_about_X4_stationAt
set_option maxRecDepth 100000 in
theorem dX4_about_5 : decode cX4_about 5 = .ok (.astore_n 3, 1) := by decide +kernel
set_option maxRecDepth 100000 in
theorem dX4_about_6 : decode cX4_about 6 = .ok (.iload_n 2, 1) := by decide +kernel
set_option maxRecDepth 100000 in
theorem dX4_about_7 : decode cX4_about 7 = .ok (.tableswitch 104 0 6 #[41, 49, 57, 62, 67, 72, 91], 41) := by decide +kernel
set_option maxRecDepth 100000 in
theorem dX4_about_111 : decode cX4_about 111 = .ok (.new 50, 3) := by decide +kernel
set_option maxRecDepth 100000 in
theorem dX4_about_114 : decode cX4_about 114 = .ok (.dup, 1) := by decide +kernel
set_option maxRecDepth 100000 in
theorem dX4_about_115 : decode cX4_about 115 = .ok (.ldc 236, 2) := by decide +kernel
set_option maxRecDepth 100000 in
theorem dX4_about_117 : decode cX4_about 117 = .ok (.invokespecial 54, 3) := by decide +kernel
set_option maxRecDepth 100000 in
theorem dX4_about_120 : decode cX4_about 120 = .ok (.athrow, 1) := by decide +kernel
set_option maxRecDepth 100000 in
theorem th_X4_about_IAE : ∀ w ∈ (vx_atS RX4 54 "java/lang/IllegalArgumentException" ["java/lang/RuntimeException", "java/lang/Exception"]).filter goodWord, w ∈ wsX4_about := fun _ h => List.mem_cons_of_mem _ (List.mem_append_left _ (List.mem_append_right _ h))
set_option maxRecDepth 100000 in
theorem dX4_about_48 : decode cX4_about 48 = .ok (.aload_n 3, 1) := by decide +kernel
set_option maxRecDepth 100000 in
theorem dX4_about_49 : decode cX4_about 49 = .ok (.getfield 61, 3) := by decide +kernel
set_option maxRecDepth 100000 in
theorem in_X4_about_X3 : ∀ w ∈ wsX30, w ∈ wsX4_about := fun _ h => List.mem_cons_of_mem _ (List.mem_append_left _ (List.mem_append_left _ (List.mem_append_left _ (List.mem_append_left _ (List.mem_append_left _ (List.mem_append_right _ h))))))
set_option maxRecDepth 100000 in
theorem dX4_about_52 : decode cX4_about 52 = .ok (.getfield 228, 3) := by decide +kernel
set_option maxRecDepth 100000 in
theorem in_X4_about_X2 : ∀ w ∈ wsX20, w ∈ wsX4_about := fun _ h => List.mem_cons_of_mem _ (List.mem_append_left _ (List.mem_append_left _ (List.mem_append_left _ (List.mem_append_left _ (List.mem_append_right _ h)))))
set_option maxRecDepth 100000 in
theorem dX4_about_55 : decode cX4_about 55 = .ok (.ireturn, 1) := by decide +kernel
set_option maxRecDepth 100000 in
theorem dX4_about_56 : decode cX4_about 56 = .ok (.aload_n 3, 1) := by decide +kernel
set_option maxRecDepth 100000 in
theorem dX4_about_57 : decode cX4_about 57 = .ok (.getfield 61, 3) := by decide +kernel
set_option maxRecDepth 100000 in
theorem dX4_about_60 : decode cX4_about 60 = .ok (.getfield 230, 3) := by decide +kernel
set_option maxRecDepth 100000 in
theorem dX4_about_63 : decode cX4_about 63 = .ok (.ireturn, 1) := by decide +kernel
set_option maxRecDepth 100000 in
theorem dX4_about_64 : decode cX4_about 64 = .ok (.aload_n 3, 1) := by decide +kernel
set_option maxRecDepth 100000 in
theorem dX4_about_65 : decode cX4_about 65 = .ok (.getfield 233, 3) := by decide +kernel
set_option maxRecDepth 100000 in
theorem dX4_about_68 : decode cX4_about 68 = .ok (.ireturn, 1) := by decide +kernel
set_option maxRecDepth 100000 in
theorem dX4_about_69 : decode cX4_about 69 = .ok (.aload_n 3, 1) := by decide +kernel
set_option maxRecDepth 100000 in
theorem dX4_about_70 : decode cX4_about 70 = .ok (.getfield 169, 3) := by decide +kernel
set_option maxRecDepth 100000 in
theorem dX4_about_73 : decode cX4_about 73 = .ok (.ireturn, 1) := by decide +kernel
set_option maxRecDepth 100000 in
theorem dX4_about_74 : decode cX4_about 74 = .ok (.aload_n 3, 1) := by decide +kernel
set_option maxRecDepth 100000 in
theorem dX4_about_75 : decode cX4_about 75 = .ok (.getfield 155, 3) := by decide +kernel
set_option maxRecDepth 100000 in
theorem dX4_about_78 : decode cX4_about 78 = .ok (.ireturn, 1) := by decide +kernel
set_option maxRecDepth 100000 in
theorem dX4_about_79 : decode cX4_about 79 = .ok (.aload_n 3, 1) := by decide +kernel
set_option maxRecDepth 100000 in
theorem dX4_about_80 : decode cX4_about 80 = .ok (.getfield 81, 3) := by decide +kernel
set_option maxRecDepth 100000 in
theorem dX4_about_83 : decode cX4_about 83 = .ok (.ifnonnull 7, 3) := by decide +kernel
set_option maxRecDepth 100000 in
theorem dX4_about_86 : decode cX4_about 86 = .ok (.iconst (-1), 1) := by decide +kernel
set_option maxRecDepth 100000 in
theorem dX4_about_87 : decode cX4_about 87 = .ok (.goto 10, 3) := by decide +kernel
set_option maxRecDepth 100000 in
theorem dX4_about_97 : decode cX4_about 97 = .ok (.ireturn, 1) := by decide +kernel
set_option maxRecDepth 100000 in
theorem dX4_about_98 : decode cX4_about 98 = .ok (.aload_n 3, 1) := by decide +kernel
set_option maxRecDepth 100000 in
theorem dX4_about_99 : decode cX4_about 99 = .ok (.getfield 160, 3) := by decide +kernel
set_option maxRecDepth 100000 in
theorem dX4_about_102 : decode cX4_about 102 = .ok (.ifCond .eq 7, 3) := by decide +kernel
set_option maxRecDepth 100000 in
theorem dX4_about_105 : decode cX4_about 105 = .ok (.iconst 1, 1) := by decide +kernel
set_option maxRecDepth 100000 in
theorem dX4_about_106 : decode cX4_about 106 = .ok (.goto 4, 3) := by decide +kernel
set_option maxRecDepth 100000 in
theorem dX4_about_110 : decode cX4_about 110 = .ok (.ireturn, 1) := by decide +kernel
set_option maxRecDepth 100000 in
theorem dX4_init_0 : decode cX4_init 0 = .ok (.aload_n 0, 1) := by decide +kernel
set_option maxRecDepth 100000 in
theorem dX4_init_1 : decode cX4_init 1 = .ok (.invokespecial 1, 3) := by decide +kernel
set_option maxRecDepth 100000 in
theorem dX4_init_4 : decode cX4_init 4 = .ok (.aload_n 0, 1) := by decide +kernel
set_option maxRecDepth 100000 in
theorem dX4_init_5 : decode cX4_init 5 = .ok (.iconst 5, 1) := by decide +kernel
set_option maxRecDepth 100000 in
theorem dX4_init_6 : decode cX4_init 6 = .ok (.anewarray 9, 3) := by decide +kernel
set_option maxRecDepth 100000 in
theorem dX4_init_9 : decode cX4_init 9 = .ok (.putfield 11, 3) := by decide +kernel
set_option maxRecDepth 100000 in
theorem in_X4_init_X4 : ∀ w ∈ wsX40, w ∈ wsX4_init := fun _ h => List.mem_cons_of_mem _ (List.mem_append_left _ (List.mem_append_left _ (List.mem_append_left _ (List.mem_append_right _ h))))
set_option maxRecDepth 100000 in
theorem dX4_init_12 : decode cX4_init 12 = .ok (.aload_n 0, 1) := by decide +kernel
set_option maxRecDepth 100000 in
theorem dX4_init_13 : decode cX4_init 13 = .ok (.iconst 5, 1) := by decide +kernel
set_option maxRecDepth 100000 in
theorem dX4_init_14 : decode cX4_init 14 = .ok (.newarray .int, 2) := by decide +kernel
set_option maxRecDepth 100000 in
theorem dX4_init_16 : decode cX4_init 16 = .ok (.putfield 15, 3) := by decide +kernel
set_option maxRecDepth 100000 in
theorem dX4_init_19 : decode cX4_init 19 = .ok (.aload_n 0, 1) := by decide +kernel
set_option maxRecDepth 100000 in
theorem dX4_init_20 : decode cX4_init 20 = .ok (.new 19, 3) := by decide +kernel
set_option maxRecDepth 100000 in
theorem in_X4_init_Jx4a65c : ∀ w ∈ wsJx4a65c0, w ∈ wsX4_init := fun _ h => List.mem_cons_of_mem _ (List.mem_append_left _ (List.mem_append_left _ (List.mem_append_right _ h)))
set_option maxRecDepth 100000 in
theorem dX4_init_23 : decode cX4_init 23 = .ok (.dup, 1) := by decide +kernel
set_option maxRecDepth 100000 in
theorem dX4_init_24 : decode cX4_init 24 = .ok (.invokespecial 21, 3) := by decide +kernel
set_option maxRecDepth 20000 in
theorem ggX4_init_Jx4a65c_init_da8c8 : GoodIn wsX4_init wsJx4a65c_init_da8c8 := goodIn_r _ [20, 21, 22, 23, 24, 25, 26, 27, 28, 29, 30, 31, 32, 2, 3, 55, 56, 57] (by decide +kernel) (by decide +kernel)
set_option maxRecDepth 20000 in
theorem gX4_init_Jx4a65c_init_da8c8 : GoodIn wsX4_init (wsJx4a65c_init_da8c8) := ggX4_init_Jx4a65c_init_da8c8
set_option maxRecDepth 100000 in
theorem dX4_init_27 : decode cX4_init 27 = .ok (.putfield 22, 3) := by decide +kernel
set_option maxRecDepth 100000 in
theorem dX4_init_30 : decode cX4_init 30 = .ok (.aload_n 0, 1) := by decide +kernel
set_option maxRecDepth 100000 in
theorem dX4_init_31 : decode cX4_init 31 = .ok (.iconst 5, 1) := by decide +kernel
set_option maxRecDepth 100000 in
theorem dX4_init_32 : decode cX4_init 32 = .ok (.anewarray 26, 3) := by decide +kernel
set_option maxRecDepth 100000 in
theorem dX4_init_35 : decode cX4_init 35 = .ok (.putfield 28, 3) := by decide +kernel
set_option maxRecDepth 100000 in
theorem dX4_init_38 : decode cX4_init 38 = .ok (.new 26, 3) := by decide +kernel
set_option maxRecDepth 100000 in
theorem in_X4_init_X2 : ∀ w ∈ wsX20, w ∈ wsX4_init := fun _ h => List.mem_cons_of_mem _ (List.mem_append_left _ (List.mem_append_right _ h))
set_option maxRecDepth 100000 in
theorem dX4_init_41 : decode cX4_init 41 = .ok (.dup, 1) := by decide +kernel
set_option maxRecDepth 100000 in
theorem dX4_init_42 : decode cX4_init 42 = .ok (.iconst 0, 1) := by decide +kernel
set_option maxRecDepth 100000 in
theorem dX4_init_43 : decode cX4_init 43 = .ok (.newarray .int, 2) := by decide +kernel
set_option maxRecDepth 100000 in
theorem dX4_init_45 : decode cX4_init 45 = .ok (.iconst 0, 1) := by decide +kernel
set_option maxRecDepth 100000 in
theorem dX4_init_46 : decode cX4_init 46 = .ok (.newarray .int, 2) := by decide +kernel
set_option maxRecDepth 100000 in
theorem dX4_init_48 : decode cX4_init 48 = .ok (.iconst 5, 1) := by decide +kernel
set_option maxRecDepth 100000 in
theorem dX4_init_49 : decode cX4_init 49 = .ok (.iconst 0, 1) := by decide +kernel
set_option maxRecDepth 100000 in
theorem dX4_init_50 : decode cX4_init 50 = .ok (.invokespecial 32, 3) := by decide +kernel
set_option maxRecDepth 20000 in
theorem ggX4_init_X2_init : GoodIn wsX4_init wsX2_init := goodIn_r _ [34, 35, 2, 3, 36, 37, 38, 39, 58, 59, 60, 61] (by decide +kernel) (by decide +kernel)
set_option maxRecDepth 20000 in
theorem gX4_init_X2_init_n32 : GoodIn wsX4_init (wsX2_init) := ggX4_init_X2_init
set_option maxRecDepth 100000 in
theorem dX4_init_53 : decode cX4_init 53 = .ok (.astore_n 1, 1) := by decide +kernel
set_option maxRecDepth 100000 in
theorem dX4_init_54 : decode cX4_init 54 = .ok (.iconst 0, 1) := by decide +kernel
set_option maxRecDepth 100000 in
theorem dX4_init_55 : decode cX4_init 55 = .ok (.istore_n 2, 1) := by decide +kernel
set_option maxRecDepth 100000 in
theorem dX4_init_56 : decode cX4_init 56 = .ok (.iload_n 2, 1) := by decide +kernel
set_option maxRecDepth 100000 in
theorem dX4_init_57 : decode cX4_init 57 = .ok (.iconst 5, 1) := by decide +kernel
set_option maxRecDepth 100000 in
theorem dX4_init_58 : decode cX4_init 58 = .ok (.if_icmp .ge 36, 3) := by decide +kernel
set_option maxRecDepth 100000 in
theorem dX4_init_61 : decode cX4_init 61 = .ok (.aload_n 0, 1) := by decide +kernel
set_option maxRecDepth 100000 in
theorem dX4_init_62 : decode cX4_init 62 = .ok (.getfield 11, 3) := by decide +kernel
set_option maxRecDepth 100000 in
theorem dX4_init_65 : decode cX4_init 65 = .ok (.iload_n 2, 1) := by decide +kernel
set_option maxRecDepth 100000 in
theorem dX4_init_66 : decode cX4_init 66 = .ok (.new 9, 3) := by decide +kernel
set_option maxRecDepth 100000 in
theorem in_X4_init_X3 : ∀ w ∈ wsX30, w ∈ wsX4_init := fun _ h => List.mem_cons_of_mem _ (List.mem_append_right _ h)
set_option maxRecDepth 100000 in
theorem dX4_init_69 : decode cX4_init 69 = .ok (.dup, 1) := by decide +kernel
set_option maxRecDepth 100000 in
theorem dX4_init_70 : decode cX4_init 70 = .ok (.iload_n 2, 1) := by decide +kernel
set_option maxRecDepth 100000 in
theorem dX4_init_71 : decode cX4_init 71 = .ok (.aload_n 1, 1) := by decide +kernel
set_option maxRecDepth 100000 in
theorem dX4_init_72 : decode cX4_init 72 = .ok (.invokespecial 35, 3) := by decide +kernel
set_option maxRecDepth 20000 in
theorem ggX4_init_X3_init : GoodIn wsX4_init wsX3_init := goodIn_r _ [41, 42, 2, 3, 43, 44, 45, 46, 47, 48, 49, 50, 62, 63, 64, 65, 66, 67, 68, 69] (by decide +kernel) (by decide +kernel)
set_option maxRecDepth 20000 in
theorem gX4_init_X3_init_n35 : GoodIn wsX4_init (wsX3_init) := ggX4_init_X3_init
set_option maxRecDepth 100000 in
theorem dX4_init_75 : decode cX4_init 75 = .ok (.aastore, 1) := by decide +kernel
set_option maxRecDepth 100000 in
theorem dX4_init_76 : decode cX4_init 76 = .ok (.aload_n 0, 1) := by decide +kernel
set_option maxRecDepth 100000 in
theorem dX4_init_77 : decode cX4_init 77 = .ok (.getfield 15, 3) := by decide +kernel
set_option maxRecDepth 100000 in
theorem dX4_init_80 : decode cX4_init 80 = .ok (.iload_n 2, 1) := by decide +kernel
set_option maxRecDepth 100000 in
theorem dX4_init_81 : decode cX4_init 81 = .ok (.bipush 31, 2) := by decide +kernel
set_option maxRecDepth 100000 in
theorem dX4_init_83 : decode cX4_init 83 = .ok (.iconst 1, 1) := by decide +kernel
set_option maxRecDepth 100000 in
theorem dX4_init_84 : decode cX4_init 84 = .ok (.iload_n 2, 1) := by decide +kernel
set_option maxRecDepth 100000 in
theorem dX4_init_85 : decode cX4_init 85 = .ok (.ishl, 1) := by decide +kernel
set_option maxRecDepth 100000 in
theorem dX4_init_86 : decode cX4_init 86 = .ok (.isub, 1) := by decide +kernel
set_option maxRecDepth 100000 in
theorem dX4_init_87 : decode cX4_init 87 = .ok (.iastore, 1) := by decide +kernel
set_option maxRecDepth 100000 in
theorem dX4_init_88 : decode cX4_init 88 = .ok (.iinc 2 1, 3) := by decide +kernel
set_option maxRecDepth 100000 in
theorem dX4_init_91 : decode cX4_init 91 = .ok (.goto (-35), 3) := by decide +kernel
set_option maxRecDepth 100000 in
theorem dX4_init_94 : decode cX4_init 94 = .ok (.return_, 1) := by decide +kernel
set_option maxHeartbeats 4000000 in
set_option maxRecDepth 100000 in
theorem c_X4_cable (l : Launch) (hlt : l.stackTraces = false) (D : va_G) (tC : Nat → ClassId) (dz sz : Nat) (x : Nat) (a1 : Nat) (a2 : Nat) (a3 : Nat) (a4 : Nat) (cb : Nat → Int32) (p0 : Int32) (p1 : Int32) (p2 : Int32) (hcb : ∀ i : Nat, i < 5 → cb i = cbv i) (hup : p2 = 0 ∨ p2 = 1) : vx_Met l yX4_cable wsX4_cable ({ frames := 7, cells := 1, slots := 6, locals := 104 }) (va_Pc [.ref x, .int p0, .int p1, .int p2] (pB D tC dz [(x, .inr (5, [.ref a1, .ref a2, .ref a3, .ref a4])), (a2, wI tC 5 cb)] sz)) (va_Qi (fun (r : Int32) (_ : Unit) => r = (if p2 = 0 then 1 else 0) ∧ ¬ ((p0 < 0 ∨ 5 ≤ p0) ∨ (p1 < 0 ∨ 5 ≤ p1) ∨ p0 = p1)) (fun (_ : Unit) t => pA D tC (va_A [(x, .inr (5, [.ref a1, .ref a2, .ref a3, .ref a4])), (a2, wI tC 5 cb)] sz) [] t) (va_A [(x, .inr (5, [.ref a1, .ref a2, .ref a3, .ref a4])), (a2, wI tC 5 cb)] sz)) (xX (fun E => E = "java/lang/IndexOutOfBoundsException" ∧ ((p0 < 0 ∨ 5 ≤ p0) ∨ (p1 < 0 ∨ 5 ≤ p1) ∨ p0 = p1)) (va_A [(x, .inr (5, [.ref a1, .ref a2, .ref a3, .ref a4])), (a2, wI tC 5 cb)] sz)) 1 6 (va_A [(x, .inr (5, [.ref a1, .ref a2, .ref a3, .ref a4])), (a2, wI tC 5 cb)] sz) := by
  refine vx_ofW (cc := cX4_cable) (maxL := 5) (ret := (some .boolean)) (by decide) rfl ?_
  intro p e s m args below meth c s₁ B hml hnx hv
  obtain ⟨rfl, hsz, hP, hK, hD0, hN, hE⟩ := hv
  have hx := B.exec
  have hb := B.bytes
  have hr := B.returns
  have hts := atoms_spec (ws := wsX4_cable) B.pre
  have hown : s.vm.findClass RX4 = some m.cls := findClass_of_methodNamed B.named
  have hlocks := B.notSynchronized
  subst hsz
  have hD := hD0.self (sz := s.heap.size)
  generalize hAe : va_A [(x, .inr (5, [.ref a1, .ref a2, .ref a3, .ref a4])), (a2, wI tC 5 cb)] s.heap.size = A at hD hE ⊢
  have hA : ∀ q : Nat, s.heap.size ≤ q → A q := fun q h => by rw [← hAe]; exact Or.inr h
  have hS : va_S A s.heap s.heap [] := va_S.rf
  have hP : va_P D vwCl [(x, .inr (5, [.ref a1, .ref a2, .ref a3, .ref a4])), (a2, wI tC 5 cb)] s.heap := hP
  have hl := lv_entry ([.ref x, .int p0, .int p1, .int p2]) (n := 5) (Nat.le_of_ble_eq_true rfl)
  rw [lg_entry_eq]
  generalize (lg_sl ([.ref x, .int p0, .int p1, .int p2]) ++ List.replicate (5 - (lg_sl ([.ref x, .int p0, .int p1, .int p2])).length) Slot.unset).toArray = ls at hl ⊢
  have hl : lv_has ls 5 [(0, .ref x), (1, .int p0), (2, .int p1), (3, .int p2)] := hl
  have w_0 := hts (.fieldLink RX4 15 "NoticeStations" "cables" "[I") (by decide +kernel)
  refine lv_aload_n hx hb dX4_cable_0 rfl (lv_at hl 0 rfl) ?_
  refine lv_iload_n hx hb dX4_cable_1 rfl (lv_at hl 1 rfl) ?_
  refine lv_iload_n hx hb dX4_cable_2 rfl (lv_at hl 2 rfl) ?_
  have hPc := hP.sub (ws' := [(x, .inr (5, [.ref a1, .ref a2, .ref a3, .ref a4]))]) [0] rfl
  have hDc := hD.sub (ws' := [(x, .inr (5, [.ref a1, .ref a2, .ref a3, .ref a4]))]) [0] (by decide) rfl
  have hFc := va_free (wc := [(x, .inr (5, [.ref a1, .ref a2, .ref a3, .ref a4]))]) hD hS hA [0] rfl
  refine vx_callv (vx_runV (As := [.int p0, .int p1]) (rest := []) ⟨hx, hb, hml, hown, hts⟩ (c_X4_requireTwoStations l hlt D tC dz s.heap.size x a1 a2 a3 a4 p0 p1 ) (cwV 2 hts gX4_cable_X4_requireTwoStations rfl rfl rfl (by decide +kernel) ⟨Nat.le_of_ble_eq_true rfl, Nat.le_of_ble_eq_true rfl⟩) ⟨pB_blind, va_recv hK hPc (ci := 5) (q0 := 0) rfl rfl, pB_at hPc hDc hK hN hE hS hFc⟩ rfl rfl hl.1 rfl (lv_room (Nat.le_of_ble_eq_true rfl)) dX4_cable_3 ⟨Nat.le_of_ble_eq_true rfl, Nat.le_of_ble_eq_true rfl⟩) hS (fun q _ h => hFc q h) hFc (fun q _ h => hFc q h) (fun E ce q9 u t H1 locs ht hvm hpx hPE hz1 hk1 hS hce hcv hcl => ?_) (fun u t H1 locs ht hvm hw hB hz1 hk1 hS => ?_)
  · skip
    exact vx_out (fun x h => (hnx x h).elim) hlocks hce hcv hcl (fun t9 h9 _ => ⟨(), trivial, hPE, hS.F h9⟩) hS.2.2 (Nat.le_of_ble_eq_true rfl) (Nat.le_of_ble_eq_true rfl)
  · skip
    obtain ⟨hP1, _, hD1⟩ := hB
    have hw_2 := hw
    rw [ht] at hP1
    obtain ⟨hP, hD⟩ := va_join (wr := [(a2, wI tC 5 cb)]) (w1 := [(x, .inr (5, [.ref a1, .ref a2, .ref a3, .ref a4]))]) hP hD [0] [1] rfl rfl (by decide) (by decide) hk1 hFc hP1 hD1
    generalize H1 = H at hP hS ⊢
    have hP : va_P D vwCl [(a2, wI tC 5 cb), (x, .inr (5, [.ref a1, .ref a2, .ref a3, .ref a4]))] H := hP
    have hD : va_D A [(a2, wI tC 5 cb), (x, .inr (5, [.ref a1, .ref a2, .ref a3, .ref a4]))] := hD
    refine W.widen (k := 1) (n := 6) (by omega) (by omega) ?_
    obtain ⟨k, hk, ek⟩ := ix5 (fun h => hw_2 (Or.inl h))
    obtain ⟨j, hj, ej⟩ := ix5 (fun h => hw_2 (Or.inr (Or.inl h)))
    have hne : k ≠ j := fun h => hw_2 (Or.inr (Or.inr (by rw [ek, ej, h])))
    refine lv_aload_n hx hb dX4_cable_6 rfl (lv_at hl 0 rfl) ?_
    refine va_get (D := D) (ci := 5) (v := .ref a2) (C := RX4) (T := TX4) (N := 4) hx hb hts in_X4_cable_X4 hown hK hP 1 rfl rfl 1 (by decide) w_0 (fun _ h9 => h9) rfl dX4_cable_7 ?_
    refine lv_iload_n hx hb dX4_cable_10 rfl (lv_at hl 1 rfl) ?_
    refine va_iald hx hb hK hP 0 0 rfl rfl (by rw [ek]; exact in5 hk) dX4_cable_11 ?_
    refine lv_topi (fun z_3 ez_3 => ?_)
    refine lv_iconst (v := 1) hx hb dX4_cable_12 (by decide) ?_
    refine lv_iload_n hx hb dX4_cable_13 rfl (lv_at hl 2 rfl) ?_
    refine lv_ishl hx hb dX4_cable_14 ?_
    refine lv_topi (fun z_4 ez_4 => ?_)
    refine lv_iand hx hb dX4_cable_15 ?_
    refine lv_topi (fun z_5 ez_5 => ?_)
    refine lv_if_eq (tgt := 23) hx hb dX4_cable_16 (by decide) (fun hc => absurd hc ((by rw [ez_5, ez_3, ez_4, ek, ej, cl5 hk, hcb k hk]; exact cbit k hk j hj hne))) (fun _ => ?_)
    refine lv_iconst (v := 1) hx hb dX4_cable_19 (by decide) ?_
    refine lv_goto (tgt := 24) hx hb dX4_cable_20 (by decide) ?_
    refine lv_istore (lv' := [(4, .int 1), (0, .ref x), (1, .int p0), (2, .int p1), (3, .int p2)]) hx hb dX4_cable_24 hl (by decide) rfl (fun ls hl => ?_)
    refine lv_iload hx hb dX4_cable_26 (lv_at hl 0 rfl) ?_
    refine lv_iload_n hx hb dX4_cable_28 rfl (lv_at hl 4 rfl) ?_
    refine lv_icmp_ne (tgt := 34) hx hb dX4_cable_29 (by decide) (fun c_6 => ?_) (fun c_6 => ?_)
    · skip
      refine lv_aload_n hx hb dX4_cable_34 rfl (lv_at hl 1 rfl) ?_
      refine va_get (D := D) (ci := 5) (v := .ref a2) (C := RX4) (T := TX4) (N := 4) hx hb hts in_X4_cable_X4 hown hK hP 1 rfl rfl 1 (by decide) w_0 (fun _ h9 => h9) rfl dX4_cable_35 ?_
      refine lv_iload_n hx hb dX4_cable_38 rfl (lv_at hl 2 rfl) ?_
      refine lv_dup2_11 hx hb dX4_cable_39 rfl rfl ?_
      refine va_iald hx hb hK hP 0 0 rfl rfl (by rw [ek]; exact in5 hk) dX4_cable_40 ?_
      refine lv_topi (fun z_7 ez_7 => ?_)
      refine lv_iconst (v := 1) hx hb dX4_cable_41 (by decide) ?_
      refine lv_iload_n hx hb dX4_cable_42 rfl (lv_at hl 3 rfl) ?_
      refine lv_ishl hx hb dX4_cable_43 ?_
      refine lv_topi (fun z_8 ez_8 => ?_)
      refine lv_ixor hx hb dX4_cable_44 ?_
      refine lv_topi (fun z_9 ez_9 => ?_)
      refine va_iast hx hb hK hP hD hS 0 0 rfl rfl (by rw [ek]; exact in5 hk) dX4_cable_45 (fun H locs hP hD hS => ?_)
      have hP : va_P D vwCl [(a2, wI tC 5 (upd cb (p0.toNatClampNeg) z_9)), (x, .inr (5, [.ref a1, .ref a2, .ref a3, .ref a4]))] H := hP
      have hD : va_D A [(a2, wI tC 5 (upd cb (p0.toNatClampNeg) z_9)), (x, .inr (5, [.ref a1, .ref a2, .ref a3, .ref a4]))] := hD
      refine lv_aload_n hx hb dX4_cable_46 rfl (lv_at hl 1 rfl) ?_
      refine va_get (D := D) (ci := 5) (v := .ref a2) (C := RX4) (T := TX4) (N := 4) hx hb hts in_X4_cable_X4 hown hK hP 1 rfl rfl 1 (by decide) w_0 (fun _ h9 => h9) rfl dX4_cable_47 ?_
      refine lv_iload_n hx hb dX4_cable_50 rfl (lv_at hl 3 rfl) ?_
      refine lv_dup2_11 hx hb dX4_cable_51 rfl rfl ?_
      refine va_iald hx hb hK hP 0 0 rfl rfl (by rw [ej]; exact in5 hj) dX4_cable_52 ?_
      refine lv_topi (fun z_10 ez_10 => ?_)
      refine lv_iconst (v := 1) hx hb dX4_cable_53 (by decide) ?_
      refine lv_iload_n hx hb dX4_cable_54 rfl (lv_at hl 2 rfl) ?_
      refine lv_ishl hx hb dX4_cable_55 ?_
      refine lv_topi (fun z_11 ez_11 => ?_)
      refine lv_ixor hx hb dX4_cable_56 ?_
      refine lv_topi (fun z_12 ez_12 => ?_)
      refine va_iast hx hb hK hP hD hS 0 0 rfl rfl (by rw [ej]; exact in5 hj) dX4_cable_57 (fun H locs hP hD hS => ?_)
      have hP : va_P D vwCl [(a2, wI tC 5 (upd (upd cb (p0.toNatClampNeg) z_9) (p1.toNatClampNeg) z_12)), (x, .inr (5, [.ref a1, .ref a2, .ref a3, .ref a4]))] H := hP
      have hD : va_D A [(a2, wI tC 5 (upd (upd cb (p0.toNatClampNeg) z_9) (p1.toNatClampNeg) z_12)), (x, .inr (5, [.ref a1, .ref a2, .ref a3, .ref a4]))] := hD
      refine lv_iconst (v := 1) hx hb dX4_cable_58 (by decide) ?_
      have hP9 := hP.sub (ws' := []) [] rfl
      have hD9 := hD.sub (ws' := []) [] (by decide) rfl
      refine W.widen (k := 1) (n := 6) (by omega) (by omega) ?_
      exact vx_ret (W.zret (v := 1) hx hb hr (by decide) (fun t ht hW => ⟨⟨1, (), rfl, ⟨by rcases hup with h | h <;> rw [h] at c_6 ⊢ <;> first | decide | exact absurd rfl c_6, hw_2⟩, (by rw [ht]; exact hP9), va_K.moved hW.alike hK, hD9⟩, hS.F ht⟩) hS.2.2 dX4_cable_59 hlocks)
    · skip
      refine lv_iconst (v := 0) hx hb dX4_cable_32 (by decide) ?_
      have hP9 := hP.sub (ws' := []) [] rfl
      have hD9 := hD.sub (ws' := []) [] (by decide) rfl
      refine W.widen (k := 1) (n := 6) (by omega) (by omega) ?_
      exact vx_ret (W.zret (v := 0) hx hb hr (by decide) (fun t ht hW => ⟨⟨0, (), rfl, ⟨by rw [← c_6]; decide, hw_2⟩, (by rw [ht]; exact hP9), va_K.moved hW.alike hK, hD9⟩, hS.F ht⟩) hS.2.2 dX4_cable_33 hlocks)
set_option maxHeartbeats 4000000 in
set_option maxRecDepth 100000 in
theorem c_X4_about (l : Launch) (hlt : l.stackTraces = false) (D : va_G) (tC : Nat → ClassId) (dz sz : Nat) (x : Nat) (a1 : Nat) (a2 : Nat) (a3 : Nat) (a4 : Nat) (fs : Nat → Option Nat) (p0 : Int32) (p1 : Int32) (f : Nat) (e1 : Nat) (e2 : Nat) (z1 : Nat → Int32) (q : Nat) (ow : Int32) (hq : ∀ k : Nat, k < 5 → p0 = nI k → fs k = some q) : vx_Met l yX4_about wsX4_about ({ frames := 7, cells := 2, slots := 12, locals := 103 }) (va_Pc [.ref x, .int p0, .int p1] (pB D tC dz [(x, .inr (5, [.ref a1, .ref a2, .ref a3, .ref a4])), (a1, wT tC 5 fs), (q, .inr (4, [.int ow, .int 1, .ref f, .int 0, .int (-1), .null, .int (-1), .null])), (f, .inr (3, [.ref e1, .ref e2, .int 5, .int 0])), (e1, wI tC 0 z1)] sz)) (va_Qi (fun (r : Int32) (_ : Unit) => r = abv p1 ∧ ¬ (p0 < 0 ∨ 5 ≤ p0) ∧ ¬ (p1 < 0 ∨ 7 ≤ p1)) (fun (_ : Unit) t => pA D tC (va_A [(x, .inr (5, [.ref a1, .ref a2, .ref a3, .ref a4])), (a1, wT tC 5 fs), (q, .inr (4, [.int ow, .int 1, .ref f, .int 0, .int (-1), .null, .int (-1), .null])), (f, .inr (3, [.ref e1, .ref e2, .int 5, .int 0])), (e1, wI tC 0 z1)] sz) [] t) (va_A [(x, .inr (5, [.ref a1, .ref a2, .ref a3, .ref a4])), (a1, wT tC 5 fs), (q, .inr (4, [.int ow, .int 1, .ref f, .int 0, .int (-1), .null, .int (-1), .null])), (f, .inr (3, [.ref e1, .ref e2, .int 5, .int 0])), (e1, wI tC 0 z1)] sz)) (xX (fun E => (E = "java/lang/IndexOutOfBoundsException" ∧ (p0 < 0 ∨ 5 ≤ p0)) ∨ (E = "java/lang/IllegalArgumentException" ∧ ¬ (p0 < 0 ∨ 5 ≤ p0) ∧ (p1 < 0 ∨ 7 ≤ p1))) (va_A [(x, .inr (5, [.ref a1, .ref a2, .ref a3, .ref a4])), (a1, wT tC 5 fs), (q, .inr (4, [.int ow, .int 1, .ref f, .int 0, .int (-1), .null, .int (-1), .null])), (f, .inr (3, [.ref e1, .ref e2, .int 5, .int 0])), (e1, wI tC 0 z1)] sz)) 2 12 (va_A [(x, .inr (5, [.ref a1, .ref a2, .ref a3, .ref a4])), (a1, wT tC 5 fs), (q, .inr (4, [.int ow, .int 1, .ref f, .int 0, .int (-1), .null, .int (-1), .null])), (f, .inr (3, [.ref e1, .ref e2, .int 5, .int 0])), (e1, wI tC 0 z1)] sz) := by
  refine vx_ofW (cc := cX4_about) (maxL := 4) (ret := (some .int)) (by decide) rfl ?_
  intro p e s m args below meth c s₁ B hml hnx hv
  obtain ⟨rfl, hsz, hP, hK, hD0, hN, hE⟩ := hv
  have hx := B.exec
  have hb := B.bytes
  have hr := B.returns
  have hts := atoms_spec (ws := wsX4_about) B.pre
  have hown : s.vm.findClass RX4 = some m.cls := findClass_of_methodNamed B.named
  have hlocks := B.notSynchronized
  subst hsz
  have hD := hD0.self (sz := s.heap.size)
  generalize hAe : va_A [(x, .inr (5, [.ref a1, .ref a2, .ref a3, .ref a4])), (a1, wT tC 5 fs), (q, .inr (4, [.int ow, .int 1, .ref f, .int 0, .int (-1), .null, .int (-1), .null])), (f, .inr (3, [.ref e1, .ref e2, .int 5, .int 0])), (e1, wI tC 0 z1)] s.heap.size = A at hD hE ⊢
  have hA : ∀ q : Nat, s.heap.size ≤ q → A q := fun q h => by rw [← hAe]; exact Or.inr h
  have hS : va_S A s.heap s.heap [] := va_S.rf
  have hP : va_P D vwCl [(x, .inr (5, [.ref a1, .ref a2, .ref a3, .ref a4])), (a1, wT tC 5 fs), (q, .inr (4, [.int ow, .int 1, .ref f, .int 0, .int (-1), .null, .int (-1), .null])), (f, .inr (3, [.ref e1, .ref e2, .int 5, .int 0])), (e1, wI tC 0 z1)] s.heap := hP
  have hl := lv_entry ([.ref x, .int p0, .int p1]) (n := 4) (Nat.le_of_ble_eq_true rfl)
  rw [lg_entry_eq]
  generalize (lg_sl ([.ref x, .int p0, .int p1]) ++ List.replicate (4 - (lg_sl ([.ref x, .int p0, .int p1])).length) Slot.unset).toArray = ls at hl ⊢
  have hl : lv_has ls 4 [(0, .ref x), (1, .int p0), (2, .int p1)] := hl
  have w_0 := hts (.classLink RX4 50 "java/lang/IllegalArgumentException") (by decide +kernel)
  have w_1 := hts (.initialized "java/lang/IllegalArgumentException") (by decide +kernel)
  refine lv_aload_n hx hb dX4_about_0 rfl (lv_at hl 0 rfl) ?_
  refine lv_iload_n hx hb dX4_about_1 rfl (lv_at hl 1 rfl) ?_
  have hPc := hP.sub (ws' := [(x, .inr (5, [.ref a1, .ref a2, .ref a3, .ref a4])), (a1, wT tC 5 fs)]) [0, 1] rfl
  have hDc := hD.sub (ws' := [(x, .inr (5, [.ref a1, .ref a2, .ref a3, .ref a4])), (a1, wT tC 5 fs)]) [0, 1] (by decide) rfl
  have hFc := va_free (wc := [(x, .inr (5, [.ref a1, .ref a2, .ref a3, .ref a4])), (a1, wT tC 5 fs)]) hD hS hA [0, 1] rfl
  refine vx_callr (vx_runV (As := [.int p0]) (rest := []) ⟨hx, hb, hml, hown, hts⟩ (c_X4_stationAt l hlt D tC dz s.heap.size x a1 a2 a3 a4 fs p0 q hq) (cwV 1 hts gX4_about_X4_stationAt rfl rfl rfl (by decide +kernel) ⟨Nat.le_of_ble_eq_true rfl, Nat.le_of_ble_eq_true rfl⟩) ⟨pB_blind, va_recv hK hPc (ci := 5) (q0 := 0) rfl rfl, pB_at hPc hDc hK hN hE hS hFc⟩ rfl rfl hl.1 rfl (lv_room (Nat.le_of_ble_eq_true rfl)) dX4_about_2 ⟨Nat.le_of_ble_eq_true rfl, Nat.le_of_ble_eq_true rfl⟩) hS (fun q _ h => hFc q h) hFc (fun q _ h => hFc q h) (fun E ce q9 u t H1 locs ht hvm hpx hPE hz1 hk1 hS hce hcv hcl => ?_) (fun u r1 t H1 locs ht hvm hw hB hz1 hk1 hS => ?_)
  · skip
    exact vx_out (fun x h => (hnx x h).elim) hlocks hce hcv hcl (fun t9 h9 _ => ⟨(), trivial, Or.inl hPE, hS.F h9⟩) hS.2.2 (Nat.le_of_ble_eq_true rfl) (Nat.le_of_ble_eq_true rfl)
  · skip
    obtain ⟨k_1, k_2, hP1, _, hD1⟩ := hB
    have hw_3 := hw
    rw [ht] at hP1
    obtain ⟨hP, hD⟩ := va_join (wr := [(q, .inr (4, [.int ow, .int 1, .ref f, .int 0, .int (-1), .null, .int (-1), .null])), (f, .inr (3, [.ref e1, .ref e2, .int 5, .int 0])), (e1, wI tC 0 z1)]) (w1 := [(x, .inr (5, [.ref a1, .ref a2, .ref a3, .ref a4])), (a1, wT tC 5 fs)]) hP hD [0, 1] [2, 3, 4] rfl rfl (by decide) (by decide) hk1 hFc hP1 hD1
    generalize H1 = H at hP hS ⊢
    have hP : va_P D vwCl [(q, .inr (4, [.int ow, .int 1, .ref f, .int 0, .int (-1), .null, .int (-1), .null])), (f, .inr (3, [.ref e1, .ref e2, .int 5, .int 0])), (e1, wI tC 0 z1), (x, .inr (5, [.ref a1, .ref a2, .ref a3, .ref a4])), (a1, wT tC 5 fs)] H := hP
    have hD : va_D A [(q, .inr (4, [.int ow, .int 1, .ref f, .int 0, .int (-1), .null, .int (-1), .null])), (f, .inr (3, [.ref e1, .ref e2, .int 5, .int 0])), (e1, wI tC 0 z1), (x, .inr (5, [.ref a1, .ref a2, .ref a3, .ref a4])), (a1, wT tC 5 fs)] := hD
    refine W.widen (k := 1) (n := 6) (by omega) (by omega) ?_
    rw [k_1]
    refine lv_astore_n (lv' := [(3, .ref q), (0, .ref x), (1, .int p0), (2, .int p1)]) hx hb dX4_about_5 rfl hl (by decide) rfl (fun ls hl => ?_)
    rcases sw7 p1 with hab | rfl | rfl | rfl | rfl | rfl | rfl | rfl
    · skip
      refine lv_iload_n hx hb dX4_about_6 rfl (lv_at hl 3 rfl) ?_
      refine lv_tableOut (tgt := 111) hx hb dX4_about_7 (sw7_out hab) (by decide) ?_
      obtain ⟨sa, hstr⟩ := hN.2.1 (236, "no such thing about a station") (by decide +kernel)
      exact vx_throwS hx hb hlt hown (by decide +kernel) (by decide +kernel) w_0 w_1 hstr (vx_hat (fun w hw => hts w (th_X4_about_IAE w hw)) at_IAE_rest (at_IAE_hat hN)) at_IAE_ok hE.1 hE.2.1 hS (by rw [hml]; exact hl.1) dX4_about_111 dX4_about_114 dX4_about_115 dX4_about_117 dX4_about_120 (fun x h => (hnx x h).elim) (by decide) (by decide) (Nat.le_of_ble_eq_true rfl) (Nat.le_of_ble_eq_true rfl) hlocks (fun t _ h1 h2 => ⟨(), trivial, Or.inr ⟨rfl, k_2, hab⟩, xF hS h1 h2⟩) hS.2.2 (Nat.le_of_ble_eq_true rfl) (Nat.le_of_ble_eq_true rfl)
    · skip
      refine lv_iload_n hx hb dX4_about_6 rfl (lv_at hl 3 rfl) ?_
      refine lv_tableIn (off := 41) (tgt := 48) hx hb dX4_about_7 (by decide) (by decide) (by decide) (by decide) ?_
      refine lv_aload_n hx hb dX4_about_48 rfl (lv_at hl 0 rfl) ?_
      refine va_getN (host := "NoticeStations") (D := D) (ci := 4) (v := .ref f) (C := RX3) (T := TX3) (N := 8) hx hb hts in_X4_about_X3 hown hK hP 0 rfl rfl 2 (by decide) (va_Nw.use rfl (hN.1 (.fieldLinkNest "NoticeStations" 61 "NoticeStations$Station" "stored" "LNoticeStations$Standing;" "NoticeStations") (by decide +kernel))) (fun _ h9 => h9) rfl dX4_about_49 ?_
      refine va_getN (host := "NoticeStations") (D := D) (ci := 3) (v := .int 5) (C := RX2) (T := TX2) (N := 4) hx hb hts in_X4_about_X2 hown hK hP 1 rfl rfl 2 (by decide) (va_Nw.use rfl (hN.1 (.fieldLinkNest "NoticeStations" 228 "NoticeStations$Standing" "size" "I" "NoticeStations") (by decide +kernel))) (fun _ h9 => h9) rfl dX4_about_52 ?_
      have hP9 := hP.sub (ws' := []) [] rfl
      have hD9 := hD.sub (ws' := []) [] (by decide) rfl
      refine W.widen (k := 2) (n := 12) (by omega) (by omega) ?_
      exact vx_ret (W.iret (v := 5) hx hb hr (fun t ht hW => ⟨⟨5, (), rfl, ⟨by decide, k_2, by decide⟩, (by rw [ht]; exact hP9), va_K.moved hW.alike hK, hD9⟩, hS.F ht⟩) hS.2.2 dX4_about_55 hlocks)
    · skip
      refine lv_iload_n hx hb dX4_about_6 rfl (lv_at hl 3 rfl) ?_
      refine lv_tableIn (off := 49) (tgt := 56) hx hb dX4_about_7 (by decide) (by decide) (by decide) (by decide) ?_
      refine lv_aload_n hx hb dX4_about_56 rfl (lv_at hl 0 rfl) ?_
      refine va_getN (host := "NoticeStations") (D := D) (ci := 4) (v := .ref f) (C := RX3) (T := TX3) (N := 8) hx hb hts in_X4_about_X3 hown hK hP 0 rfl rfl 2 (by decide) (va_Nw.use rfl (hN.1 (.fieldLinkNest "NoticeStations" 61 "NoticeStations$Station" "stored" "LNoticeStations$Standing;" "NoticeStations") (by decide +kernel))) (fun _ h9 => h9) rfl dX4_about_57 ?_
      refine va_getN (host := "NoticeStations") (D := D) (ci := 3) (v := .int 0) (C := RX2) (T := TX2) (N := 4) hx hb hts in_X4_about_X2 hown hK hP 1 rfl rfl 3 (by decide) (va_Nw.use rfl (hN.1 (.fieldLinkNest "NoticeStations" 230 "NoticeStations$Standing" "named" "I" "NoticeStations") (by decide +kernel))) (fun _ h9 => h9) rfl dX4_about_60 ?_
      have hP9 := hP.sub (ws' := []) [] rfl
      have hD9 := hD.sub (ws' := []) [] (by decide) rfl
      refine W.widen (k := 2) (n := 12) (by omega) (by omega) ?_
      exact vx_ret (W.iret (v := 0) hx hb hr (fun t ht hW => ⟨⟨0, (), rfl, ⟨by decide, k_2, by decide⟩, (by rw [ht]; exact hP9), va_K.moved hW.alike hK, hD9⟩, hS.F ht⟩) hS.2.2 dX4_about_63 hlocks)
    · skip
      refine lv_iload_n hx hb dX4_about_6 rfl (lv_at hl 3 rfl) ?_
      refine lv_tableIn (off := 57) (tgt := 64) hx hb dX4_about_7 (by decide) (by decide) (by decide) (by decide) ?_
      refine lv_aload_n hx hb dX4_about_64 rfl (lv_at hl 0 rfl) ?_
      refine va_getN (host := "NoticeStations") (D := D) (ci := 4) (v := .int 0) (C := RX3) (T := TX3) (N := 8) hx hb hts in_X4_about_X3 hown hK hP 0 rfl rfl 3 (by decide) (va_Nw.use rfl (hN.1 (.fieldLinkNest "NoticeStations" 233 "NoticeStations$Station" "began" "I" "NoticeStations") (by decide +kernel))) (fun _ h9 => h9) rfl dX4_about_65 ?_
      have hP9 := hP.sub (ws' := []) [] rfl
      have hD9 := hD.sub (ws' := []) [] (by decide) rfl
      refine W.widen (k := 2) (n := 12) (by omega) (by omega) ?_
      exact vx_ret (W.iret (v := 0) hx hb hr (fun t ht hW => ⟨⟨0, (), rfl, ⟨by decide, k_2, by decide⟩, (by rw [ht]; exact hP9), va_K.moved hW.alike hK, hD9⟩, hS.F ht⟩) hS.2.2 dX4_about_68 hlocks)
    · skip
      refine lv_iload_n hx hb dX4_about_6 rfl (lv_at hl 3 rfl) ?_
      refine lv_tableIn (off := 62) (tgt := 69) hx hb dX4_about_7 (by decide) (by decide) (by decide) (by decide) ?_
      refine lv_aload_n hx hb dX4_about_69 rfl (lv_at hl 0 rfl) ?_
      refine va_getN (host := "NoticeStations") (D := D) (ci := 4) (v := .int (-1)) (C := RX3) (T := TX3) (N := 8) hx hb hts in_X4_about_X3 hown hK hP 0 rfl rfl 4 (by decide) (va_Nw.use rfl (hN.1 (.fieldLinkNest "NoticeStations" 169 "NoticeStations$Station" "preparedNumber" "I" "NoticeStations") (by decide +kernel))) (fun _ h9 => h9) rfl dX4_about_70 ?_
      have hP9 := hP.sub (ws' := []) [] rfl
      have hD9 := hD.sub (ws' := []) [] (by decide) rfl
      refine W.widen (k := 2) (n := 12) (by omega) (by omega) ?_
      exact vx_ret (W.iret (v := (-1)) hx hb hr (fun t ht hW => ⟨⟨(-1), (), rfl, ⟨by decide, k_2, by decide⟩, (by rw [ht]; exact hP9), va_K.moved hW.alike hK, hD9⟩, hS.F ht⟩) hS.2.2 dX4_about_73 hlocks)
    · skip
      refine lv_iload_n hx hb dX4_about_6 rfl (lv_at hl 3 rfl) ?_
      refine lv_tableIn (off := 67) (tgt := 74) hx hb dX4_about_7 (by decide) (by decide) (by decide) (by decide) ?_
      refine lv_aload_n hx hb dX4_about_74 rfl (lv_at hl 0 rfl) ?_
      refine va_getN (host := "NoticeStations") (D := D) (ci := 4) (v := .int (-1)) (C := RX3) (T := TX3) (N := 8) hx hb hts in_X4_about_X3 hown hK hP 0 rfl rfl 6 (by decide) (va_Nw.use rfl (hN.1 (.fieldLinkNest "NoticeStations" 155 "NoticeStations$Station" "lock" "I" "NoticeStations") (by decide +kernel))) (fun _ h9 => h9) rfl dX4_about_75 ?_
      have hP9 := hP.sub (ws' := []) [] rfl
      have hD9 := hD.sub (ws' := []) [] (by decide) rfl
      refine W.widen (k := 2) (n := 12) (by omega) (by omega) ?_
      exact vx_ret (W.iret (v := (-1)) hx hb hr (fun t ht hW => ⟨⟨(-1), (), rfl, ⟨by decide, k_2, by decide⟩, (by rw [ht]; exact hP9), va_K.moved hW.alike hK, hD9⟩, hS.F ht⟩) hS.2.2 dX4_about_78 hlocks)
    · skip
      refine lv_iload_n hx hb dX4_about_6 rfl (lv_at hl 3 rfl) ?_
      refine lv_tableIn (off := 72) (tgt := 79) hx hb dX4_about_7 (by decide) (by decide) (by decide) (by decide) ?_
      refine lv_aload_n hx hb dX4_about_79 rfl (lv_at hl 0 rfl) ?_
      refine va_getN (host := "NoticeStations") (D := D) (ci := 4) (v := .null) (C := RX3) (T := TX3) (N := 8) hx hb hts in_X4_about_X3 hown hK hP 0 rfl rfl 7 (by decide) (va_Nw.use rfl (hN.1 (.fieldLinkNest "NoticeStations" 81 "NoticeStations$Station" "open" "LNoticeStations$OpenWrite;" "NoticeStations") (by decide +kernel))) (fun _ h9 => h9) rfl dX4_about_80 ?_
      refine lv_ifnonnullN hx hb dX4_about_83 ?_
      refine lv_iconst (v := (-1)) hx hb dX4_about_86 (by decide) ?_
      refine lv_goto (tgt := 97) hx hb dX4_about_87 (by decide) ?_
      have hP9 := hP.sub (ws' := []) [] rfl
      have hD9 := hD.sub (ws' := []) [] (by decide) rfl
      refine W.widen (k := 2) (n := 12) (by omega) (by omega) ?_
      exact vx_ret (W.iret (v := (-1)) hx hb hr (fun t ht hW => ⟨⟨(-1), (), rfl, ⟨by decide, k_2, by decide⟩, (by rw [ht]; exact hP9), va_K.moved hW.alike hK, hD9⟩, hS.F ht⟩) hS.2.2 dX4_about_97 hlocks)
    · skip
      refine lv_iload_n hx hb dX4_about_6 rfl (lv_at hl 3 rfl) ?_
      refine lv_tableIn (off := 91) (tgt := 98) hx hb dX4_about_7 (by decide) (by decide) (by decide) (by decide) ?_
      refine lv_aload_n hx hb dX4_about_98 rfl (lv_at hl 0 rfl) ?_
      refine va_getN (host := "NoticeStations") (D := D) (ci := 4) (v := .int 1) (C := RX3) (T := TX3) (N := 8) hx hb hts in_X4_about_X3 hown hK hP 0 rfl rfl 1 (by decide) (va_Nw.use rfl (hN.1 (.fieldLinkNest "NoticeStations" 160 "NoticeStations$Station" "up" "Z" "NoticeStations") (by decide +kernel))) (fun _ h9 => h9) rfl dX4_about_99 ?_
      refine lv_if_eq (tgt := 109) hx hb dX4_about_102 (by decide) (fun hc => absurd hc (by decide)) (fun _ => ?_)
      refine lv_iconst (v := 1) hx hb dX4_about_105 (by decide) ?_
      refine lv_goto (tgt := 110) hx hb dX4_about_106 (by decide) ?_
      have hP9 := hP.sub (ws' := []) [] rfl
      have hD9 := hD.sub (ws' := []) [] (by decide) rfl
      refine W.widen (k := 2) (n := 12) (by omega) (by omega) ?_
      exact vx_ret (W.iret (v := 1) hx hb hr (fun t ht hW => ⟨⟨1, (), rfl, ⟨by decide, k_2, by decide⟩, (by rw [ht]; exact hP9), va_K.moved hW.alike hK, hD9⟩, hS.F ht⟩) hS.2.2 dX4_about_110 hlocks)
set_option maxHeartbeats 4000000 in
set_option maxRecDepth 100000 in
theorem c_X4_init (l : Launch) (hlt : l.stackTraces = false) (D : va_G) (tC : Nat → ClassId) (dz sz : Nat) (x : Nat)  : Met l yX4_init wsX4_init ({ frames := 4, cells := 12, slots := 62, locals := 72 }) (va_Pc [.ref x] (pB D tC dz [(x, .inr (5, [.null, .null, .null, .null]))] sz)) (va_Qv (fun (_ : Unit) => True) (fun (_ : Unit) t => ∃ (a1 : Nat) (a2 : Nat) (a3 : Nat) (a4 : Nat) (f : Nat) (e1 : Nat) (e2 : Nat) (qs : Nat → Nat) (fs : Nat → Option Nat) (cb : Nat → Int32), (∀ i : Nat, i < 5 → fs i = some (qs i)) ∧ (∀ i : Nat, i < 5 → cb i = cbv i) ∧ pA D tC (va_A [(x, .inr (5, [.null, .null, .null, .null]))] sz) [(x, .inr (5, [.ref a1, .ref a2, .ref a3, .ref a4])), (a1, wT tC 5 fs), (a2, wI tC 5 cb), (a3, .inr (0, [.int 0, .ref dz, .int 0])), (a4, wS tC 5 (fun _ => none)), (f, .inr (3, [.ref e1, .ref e2, .int 5, .int 0])), (e1, wI tC 0 (fun _ => 0)), ((qs 0), .inr (4, [.int 0, .int 1, .ref f, .int 0, .int (-1), .null, .int (-1), .null])), ((qs 1), .inr (4, [.int 1, .int 1, .ref f, .int 0, .int (-1), .null, .int (-1), .null])), ((qs 2), .inr (4, [.int 2, .int 1, .ref f, .int 0, .int (-1), .null, .int (-1), .null])), ((qs 3), .inr (4, [.int 3, .int 1, .ref f, .int 0, .int (-1), .null, .int (-1), .null])), ((qs 4), .inr (4, [.int 4, .int 1, .ref f, .int 0, .int (-1), .null, .int (-1), .null]))] t) (va_A [(x, .inr (5, [.null, .null, .null, .null]))] sz)) 12 62 (va_A [(x, .inr (5, [.null, .null, .null, .null]))] sz) := by
  refine Met.ofW (cc := cX4_init) (maxL := 3) (ret := none) (by decide) rfl ?_
  intro p e s m args below meth c s₁ B hml hv
  obtain ⟨rfl, hsz, hP, hK, hD0, hN, hE⟩ := hv
  have hx := B.exec
  have hb := B.bytes
  have hr := B.returns
  have hts := atoms_spec (ws := wsX4_init) B.pre
  have hown : s.vm.findClass RX4 = some m.cls := findClass_of_methodNamed B.named
  have hlocks := B.notSynchronized
  have hin : meth.name = "<init>" := (name_of_methodNamed B.named B.method).1
  subst hsz
  have hD := hD0.self (sz := s.heap.size)
  generalize hAe : va_A [(x, .inr (5, [.null, .null, .null, .null]))] s.heap.size = A at hD hE ⊢
  have hA : ∀ q : Nat, s.heap.size ≤ q → A q := fun q h => by rw [← hAe]; exact Or.inr h
  have hS : va_S A s.heap s.heap [] := va_S.rf
  have hP : va_P D vwCl [(x, .inr (5, [.null, .null, .null, .null]))] s.heap := hP
  have hl := lv_entry ([.ref x]) (n := 3) (Nat.le_of_ble_eq_true rfl)
  rw [lg_entry_eq]
  generalize (lg_sl ([.ref x]) ++ List.replicate (3 - (lg_sl ([.ref x])).length) Slot.unset).toArray = ls at hl ⊢
  have hl : lv_has ls 3 [(0, .ref x)] := hl
  have w_0 := hts (.methodLink RX4 1 objectInit) (by decide +kernel)
  have w_1 := hts (.instanceMethod objectInit) (by decide +kernel)
  have w_2 := hts (.code objectInit ⟨#[0xb1]⟩ 1 none) (by decide +kernel)
  have w_3 := hts (.classLink RX4 9 RX3) (by decide +kernel)
  have w_4 := hts (.fieldLink RX4 11 "NoticeStations" "stations" "[LNoticeStations$Station;") (by decide +kernel)
  have w_5 := hts (.arrayClass .int) (by decide +kernel)
  have w_6 := hts (.fieldLink RX4 15 "NoticeStations" "cables" "[I") (by decide +kernel)
  have w_7 := hts (.classLink RX4 19 RJx4a65c) (by decide +kernel)
  have w_8 := hts (.instantiable RJx4a65c 3) (by decide +kernel)
  have w_9 := hts (.initialized RJx4a65c) (by decide +kernel)
  have w_10 := hts (.methodLink RX4 21 yJx4a65c_init_da8c8) (by decide +kernel)
  have w_11 := hts (.instanceMethod yJx4a65c_init_da8c8) (by decide +kernel)
  have w_12 := hts (.fieldLink RX4 22 "NoticeStations" "row" "Ljava/util/ArrayList;") (by decide +kernel)
  have w_13 := hts (.classLink RX4 26 RX2) (by decide +kernel)
  have w_14 := hts (.fieldLink RX4 28 "NoticeStations" "asIfGranted" "[LNoticeStations$Standing;") (by decide +kernel)
  have w_15 := hts (.instantiable RX2 4) (by decide +kernel)
  have w_16 := hts (.initialized RX2) (by decide +kernel)
  have w_17 := hts (.instanceMethod yX2_init) (by decide +kernel)
  have w_18 := hts (.instantiable RX3 8) (by decide +kernel)
  have w_19 := hts (.initialized RX3) (by decide +kernel)
  have w_20 := hts (.instanceMethod yX3_init) (by decide +kernel)
  refine lv_aload_n hx hb dX4_init_0 rfl (lv_at hl 0 rfl) ?_
  refine W.objInit hx hb hown w_0 w_1 w_2 rfl (by rw [hml]; exact hl.1) rfl dX4_init_1 (Nat.le_of_ble_eq_true rfl) (Nat.le_of_ble_eq_true rfl) ?_
  refine W.eq (g2 := F0 m 4 ls []) rfl ?_
  refine lv_aload_n hx hb dX4_init_4 rfl (lv_at hl 0 rfl) ?_
  refine lv_iconst (v := 5) hx hb dX4_init_5 (by decide) ?_
  refine x_newq (N' := 5) (C := "NoticeStations$Station") hx hb hown w_3 (hN.2.2.2.1 "NoticeStations$Station" (by decide +kernel)) hK hP hD hS hA (i := 3) rfl (by decide) (by decide) (by decide) (Nat.le_of_ble_eq_true rfl) (Nat.le_of_ble_eq_true rfl) dX4_init_6 (fun q_1 H hP hD hS => ?_)
  have hP : va_P D vwCl [(x, .inr (5, [.null, .null, .null, .null])), (q_1, wT tC 5 (fun _ => none))] H := hP
  have hD : va_D A [(x, .inr (5, [.null, .null, .null, .null])), (q_1, wT tC 5 (fun _ => none))] := hD
  refine W.widen (k := 1) (n := 5) (by omega) (by omega) ?_
  refine va_putF (D := D) (ci := 5) (v := .ref q_1) (ty := .array (.object "NoticeStations$Station")) (C := RX4) (T := TX4) (N := 4) hx hb hts in_X4_init_X4 tyX4 tyX4_ok nmX4 hown hK hP hD hS 0 rfl rfl 0 (by decide) w_4 (fun _ h9 => h9) rfl hin rfl (by decide +kernel) (by first | rfl | decide) rfl (Nat.le_of_ble_eq_true rfl) dX4_init_9 (fun H locs hP hD hS => ?_)
  have hP : va_P D vwCl [(x, .inr (5, [.ref q_1, .null, .null, .null])), (q_1, wT tC 5 (fun _ => none))] H := hP
  have hD : va_D A [(x, .inr (5, [.ref q_1, .null, .null, .null])), (q_1, wT tC 5 (fun _ => none))] := hD
  refine lv_aload_n hx hb dX4_init_12 rfl (lv_at hl 0 rfl) ?_
  refine lv_iconst (v := 5) hx hb dX4_init_13 (by decide) ?_
  refine x_newa (N' := 5) (ty := .int) (a0 := (5, .inl (fun _ => 0))) hx hb w_5 rfl hK hP hD hS hA (i := 0) rfl (fun cA => x_newI cA _) (by decide) (by decide) (by decide) (Nat.le_of_ble_eq_true rfl) (Nat.le_of_ble_eq_true rfl) dX4_init_14 (fun q_2 H hP hD hS => ?_)
  have hP : va_P D vwCl [(x, .inr (5, [.ref q_1, .null, .null, .null])), (q_1, wT tC 5 (fun _ => none)), (q_2, wI tC 5 (fun _ => 0))] H := hP
  have hD : va_D A [(x, .inr (5, [.ref q_1, .null, .null, .null])), (q_1, wT tC 5 (fun _ => none)), (q_2, wI tC 5 (fun _ => 0))] := hD
  refine W.widen (k := 2) (n := 10) (by omega) (by omega) ?_
  refine va_putF (D := D) (ci := 5) (v := .ref q_2) (ty := .array .int) (C := RX4) (T := TX4) (N := 4) hx hb hts in_X4_init_X4 tyX4 tyX4_ok nmX4 hown hK hP hD hS 0 rfl rfl 1 (by decide) w_6 (fun _ h9 => h9) rfl hin rfl (by decide +kernel) (by first | rfl | decide) rfl (Nat.le_of_ble_eq_true rfl) dX4_init_16 (fun H locs hP hD hS => ?_)
  have hP : va_P D vwCl [(x, .inr (5, [.ref q_1, .ref q_2, .null, .null])), (q_1, wT tC 5 (fun _ => none)), (q_2, wI tC 5 (fun _ => 0))] H := hP
  have hD : va_D A [(x, .inr (5, [.ref q_1, .ref q_2, .null, .null])), (q_1, wT tC 5 (fun _ => none)), (q_2, wI tC 5 (fun _ => 0))] := hD
  refine lv_aload_n hx hb dX4_init_19 rfl (lv_at hl 0 rfl) ?_
  refine va_new (ci := 0) (fs := [.int 0, .null, .int 0]) (C := RJx4a65c) (T := TJx4a65c) (N := 3) hx hb hts in_X4_init_Jx4a65c tyJx4a65c tyJx4a65c_ok hown w_7 w_8 w_9 hK hP hD hS hA rfl (by decide +kernel) (Nat.le_of_ble_eq_true rfl) (Nat.le_of_ble_eq_true rfl) dX4_init_20 (fun q_3 H hP hD hS => ?_)
  have hP : va_P D vwCl [(x, .inr (5, [.ref q_1, .ref q_2, .null, .null])), (q_1, wT tC 5 (fun _ => none)), (q_2, wI tC 5 (fun _ => 0)), (q_3, .inr (0, [.int 0, .null, .int 0]))] H := hP
  have hD : va_D A [(x, .inr (5, [.ref q_1, .ref q_2, .null, .null])), (q_1, wT tC 5 (fun _ => none)), (q_2, wI tC 5 (fun _ => 0)), (q_3, .inr (0, [.int 0, .null, .int 0]))] := hD
  refine W.widen (k := 3) (n := 13) (by omega) (by omega) ?_
  refine lv_dup hx hb dX4_init_23 rfl ?_
  have hPc := hP.sub (ws' := [(q_3, .inr (0, [.int 0, .null, .int 0]))]) [3] rfl
  have hDc := hD.sub (ws' := [(q_3, .inr (0, [.int 0, .null, .int 0]))]) [3] (by decide) rfl
  have hFc := va_free (wc := [(q_3, .inr (0, [.int 0, .null, .int 0]))]) hD hS hA [3] rfl
  refine va_callv (va_runI (As := []) (rest := [.ref q_3, .ref x]) ⟨hx, hb, hml, hown, hts⟩ (c_Jx4a65c_init_da8c8 l hlt D tC dz H.size q_3 0 ) (cwI 0 hts gX4_init_Jx4a65c_init_da8c8 rfl rfl rfl w_9 w_10 w_11 rfl (by decide +kernel) ⟨Nat.le_of_ble_eq_true rfl, Nat.le_of_ble_eq_true rfl⟩) ⟨pB_blind, pB_at hPc hDc hK hN hE hS hFc⟩ rfl rfl hl.1 rfl (lv_room (Nat.le_of_ble_eq_true rfl)) dX4_init_24 ⟨Nat.le_of_ble_eq_true rfl, Nat.le_of_ble_eq_true rfl⟩) hS (fun q _ h => hFc q h) hFc (fun u t H1 locs ht hvm hw hB hz1 hk1 hS => ?_)
  obtain ⟨hP1, _, hD1⟩ := hB
  have hw_5 := hw
  rw [ht] at hP1
  obtain ⟨hP, hD⟩ := va_join (wr := [(x, .inr (5, [.ref q_1, .ref q_2, .null, .null])), (q_1, wT tC 5 (fun _ => none)), (q_2, wI tC 5 (fun _ => 0))]) (w1 := [(q_3, .inr (0, [.int 0, .ref dz, .int 0]))]) hP hD [3] [0, 1, 2] rfl rfl (by decide) (by decide) hk1 hFc hP1 hD1
  generalize H1 = H at hP hS ⊢
  have hP : va_P D vwCl [(x, .inr (5, [.ref q_1, .ref q_2, .null, .null])), (q_1, wT tC 5 (fun _ => none)), (q_2, wI tC 5 (fun _ => 0)), (q_3, .inr (0, [.int 0, .ref dz, .int 0]))] H := hP
  have hD : va_D A [(x, .inr (5, [.ref q_1, .ref q_2, .null, .null])), (q_1, wT tC 5 (fun _ => none)), (q_2, wI tC 5 (fun _ => 0)), (q_3, .inr (0, [.int 0, .ref dz, .int 0]))] := hD
  refine va_putF (D := D) (ci := 5) (v := .ref q_3) (ty := .object "java/util/ArrayList") (C := RX4) (T := TX4) (N := 4) hx hb hts in_X4_init_X4 tyX4 tyX4_ok nmX4 hown hK hP hD hS 0 rfl rfl 2 (by decide) w_12 (fun _ h9 => h9) rfl hin rfl (by decide +kernel) (by first | rfl | decide) rfl (Nat.le_of_ble_eq_true rfl) dX4_init_27 (fun H locs hP hD hS => ?_)
  have hP : va_P D vwCl [(x, .inr (5, [.ref q_1, .ref q_2, .ref q_3, .null])), (q_1, wT tC 5 (fun _ => none)), (q_2, wI tC 5 (fun _ => 0)), (q_3, .inr (0, [.int 0, .ref dz, .int 0]))] H := hP
  have hD : va_D A [(x, .inr (5, [.ref q_1, .ref q_2, .ref q_3, .null])), (q_1, wT tC 5 (fun _ => none)), (q_2, wI tC 5 (fun _ => 0)), (q_3, .inr (0, [.int 0, .ref dz, .int 0]))] := hD
  refine lv_aload_n hx hb dX4_init_30 rfl (lv_at hl 0 rfl) ?_
  refine lv_iconst (v := 5) hx hb dX4_init_31 (by decide) ?_
  refine x_newq (N' := 5) (C := "NoticeStations$Standing") hx hb hown w_13 (hN.2.2.2.1 "NoticeStations$Standing" (by decide +kernel)) hK hP hD hS hA (i := 2) rfl (by decide) (by decide) (by decide) (Nat.le_of_ble_eq_true rfl) (Nat.le_of_ble_eq_true rfl) dX4_init_32 (fun q_6 H hP hD hS => ?_)
  have hP : va_P D vwCl [(x, .inr (5, [.ref q_1, .ref q_2, .ref q_3, .null])), (q_1, wT tC 5 (fun _ => none)), (q_2, wI tC 5 (fun _ => 0)), (q_3, .inr (0, [.int 0, .ref dz, .int 0])), (q_6, wS tC 5 (fun _ => none))] H := hP
  have hD : va_D A [(x, .inr (5, [.ref q_1, .ref q_2, .ref q_3, .null])), (q_1, wT tC 5 (fun _ => none)), (q_2, wI tC 5 (fun _ => 0)), (q_3, .inr (0, [.int 0, .ref dz, .int 0])), (q_6, wS tC 5 (fun _ => none))] := hD
  refine W.widen (k := 4) (n := 18) (by omega) (by omega) ?_
  refine va_putF (D := D) (ci := 5) (v := .ref q_6) (ty := .array (.object "NoticeStations$Standing")) (C := RX4) (T := TX4) (N := 4) hx hb hts in_X4_init_X4 tyX4 tyX4_ok nmX4 hown hK hP hD hS 0 rfl rfl 3 (by decide) w_14 (fun _ h9 => h9) rfl hin rfl (by decide +kernel) (by first | rfl | decide) rfl (Nat.le_of_ble_eq_true rfl) dX4_init_35 (fun H locs hP hD hS => ?_)
  have hP : va_P D vwCl [(x, .inr (5, [.ref q_1, .ref q_2, .ref q_3, .ref q_6])), (q_1, wT tC 5 (fun _ => none)), (q_2, wI tC 5 (fun _ => 0)), (q_3, .inr (0, [.int 0, .ref dz, .int 0])), (q_6, wS tC 5 (fun _ => none))] H := hP
  have hD : va_D A [(x, .inr (5, [.ref q_1, .ref q_2, .ref q_3, .ref q_6])), (q_1, wT tC 5 (fun _ => none)), (q_2, wI tC 5 (fun _ => 0)), (q_3, .inr (0, [.int 0, .ref dz, .int 0])), (q_6, wS tC 5 (fun _ => none))] := hD
  refine va_new (ci := 3) (fs := [.null, .null, .int 0, .int 0]) (C := RX2) (T := TX2) (N := 4) hx hb hts in_X4_init_X2 tyX2 tyX2_ok hown w_13 w_15 w_16 hK hP hD hS hA rfl (by decide +kernel) (Nat.le_of_ble_eq_true rfl) (Nat.le_of_ble_eq_true rfl) dX4_init_38 (fun q_7 H hP hD hS => ?_)
  have hP : va_P D vwCl [(x, .inr (5, [.ref q_1, .ref q_2, .ref q_3, .ref q_6])), (q_1, wT tC 5 (fun _ => none)), (q_2, wI tC 5 (fun _ => 0)), (q_3, .inr (0, [.int 0, .ref dz, .int 0])), (q_6, wS tC 5 (fun _ => none)), (q_7, .inr (3, [.null, .null, .int 0, .int 0]))] H := hP
  have hD : va_D A [(x, .inr (5, [.ref q_1, .ref q_2, .ref q_3, .ref q_6])), (q_1, wT tC 5 (fun _ => none)), (q_2, wI tC 5 (fun _ => 0)), (q_3, .inr (0, [.int 0, .ref dz, .int 0])), (q_6, wS tC 5 (fun _ => none)), (q_7, .inr (3, [.null, .null, .int 0, .int 0]))] := hD
  refine W.widen (k := 5) (n := 22) (by omega) (by omega) ?_
  refine lv_dup hx hb dX4_init_41 rfl ?_
  refine lv_iconst (v := 0) hx hb dX4_init_42 (by decide) ?_
  refine x_newa (N' := 0) (ty := .int) (a0 := (0, .inl (fun _ => 0))) hx hb w_5 rfl hK hP hD hS hA (i := 0) rfl (fun cA => x_newI cA _) (by decide) (by decide) (by decide) (Nat.le_of_ble_eq_true rfl) (Nat.le_of_ble_eq_true rfl) dX4_init_43 (fun q_8 H hP hD hS => ?_)
  have hP : va_P D vwCl [(x, .inr (5, [.ref q_1, .ref q_2, .ref q_3, .ref q_6])), (q_1, wT tC 5 (fun _ => none)), (q_2, wI tC 5 (fun _ => 0)), (q_3, .inr (0, [.int 0, .ref dz, .int 0])), (q_6, wS tC 5 (fun _ => none)), (q_7, .inr (3, [.null, .null, .int 0, .int 0])), (q_8, wI tC 0 (fun _ => 0))] H := hP
  have hD : va_D A [(x, .inr (5, [.ref q_1, .ref q_2, .ref q_3, .ref q_6])), (q_1, wT tC 5 (fun _ => none)), (q_2, wI tC 5 (fun _ => 0)), (q_3, .inr (0, [.int 0, .ref dz, .int 0])), (q_6, wS tC 5 (fun _ => none)), (q_7, .inr (3, [.null, .null, .int 0, .int 0])), (q_8, wI tC 0 (fun _ => 0))] := hD
  refine W.widen (k := 6) (n := 22) (by omega) (by omega) ?_
  refine lv_iconst (v := 0) hx hb dX4_init_45 (by decide) ?_
  refine x_newa (N' := 0) (ty := .int) (a0 := (0, .inl (fun _ => 0))) hx hb w_5 rfl hK hP hD hS hA (i := 0) rfl (fun cA => x_newI cA _) (by decide) (by decide) (by decide) (Nat.le_of_ble_eq_true rfl) (Nat.le_of_ble_eq_true rfl) dX4_init_46 (fun q_9 H hP hD hS => ?_)
  have hP : va_P D vwCl [(x, .inr (5, [.ref q_1, .ref q_2, .ref q_3, .ref q_6])), (q_1, wT tC 5 (fun _ => none)), (q_2, wI tC 5 (fun _ => 0)), (q_3, .inr (0, [.int 0, .ref dz, .int 0])), (q_6, wS tC 5 (fun _ => none)), (q_7, .inr (3, [.null, .null, .int 0, .int 0])), (q_8, wI tC 0 (fun _ => 0)), (q_9, wI tC 0 (fun _ => 0))] H := hP
  have hD : va_D A [(x, .inr (5, [.ref q_1, .ref q_2, .ref q_3, .ref q_6])), (q_1, wT tC 5 (fun _ => none)), (q_2, wI tC 5 (fun _ => 0)), (q_3, .inr (0, [.int 0, .ref dz, .int 0])), (q_6, wS tC 5 (fun _ => none)), (q_7, .inr (3, [.null, .null, .int 0, .int 0])), (q_8, wI tC 0 (fun _ => 0)), (q_9, wI tC 0 (fun _ => 0))] := hD
  refine W.widen (k := 7) (n := 22) (by omega) (by omega) ?_
  refine lv_iconst (v := 5) hx hb dX4_init_48 (by decide) ?_
  refine lv_iconst (v := 0) hx hb dX4_init_49 (by decide) ?_
  have hPc := hP.sub (ws' := [(q_7, .inr (3, [.null, .null, .int 0, .int 0]))]) [5] rfl
  have hDc := hD.sub (ws' := [(q_7, .inr (3, [.null, .null, .int 0, .int 0]))]) [5] (by decide) rfl
  have hFc := va_free (wc := [(q_7, .inr (3, [.null, .null, .int 0, .int 0]))]) hD hS hA [5] rfl
  refine va_callv (va_runIN (As := [.ref q_8, .ref q_9, .int 5, .int 0]) (rest := [.ref q_7]) ⟨hx, hb, hml, hown, hts⟩ (c_X2_init l hlt D tC dz H.size q_7 q_8 q_9 5 0 ) ⟨(va_cnB (host := "NoticeStations") 4 hts gX4_init_X2_init_n32 rfl rfl rfl (hN.1 (.methodLinkNest "NoticeStations" 32 ⟨"NoticeStations$Standing", "<init>", "([I[III)V"⟩ "NoticeStations") (by decide +kernel)) w_16 (by decide +kernel) ⟨Nat.le_of_ble_eq_true rfl, Nat.le_of_ble_eq_true rfl⟩), rfl, w_17⟩ ⟨pB_blind, pB_at hPc hDc hK hN hE hS hFc⟩ rfl rfl hl.1 rfl (lv_room (Nat.le_of_ble_eq_true rfl)) dX4_init_50 ⟨Nat.le_of_ble_eq_true rfl, Nat.le_of_ble_eq_true rfl⟩) hS (fun q _ h => hFc q h) hFc (fun u t H1 locs ht hvm hw hB hz1 hk1 hS => ?_)
  obtain ⟨hP1, _, hD1⟩ := hB
  have hw_11 := hw
  rw [ht] at hP1
  obtain ⟨hP, hD⟩ := va_join (wr := [(x, .inr (5, [.ref q_1, .ref q_2, .ref q_3, .ref q_6])), (q_1, wT tC 5 (fun _ => none)), (q_2, wI tC 5 (fun _ => 0)), (q_3, .inr (0, [.int 0, .ref dz, .int 0])), (q_6, wS tC 5 (fun _ => none)), (q_8, wI tC 0 (fun _ => 0)), (q_9, wI tC 0 (fun _ => 0))]) (w1 := [(q_7, .inr (3, [.ref q_8, .ref q_9, .int 5, .int 0]))]) hP hD [5] [0, 1, 2, 3, 4, 6, 7] rfl rfl (by decide) (by decide) hk1 hFc hP1 hD1
  generalize H1 = H at hP hS ⊢
  have hP : va_P D vwCl [(x, .inr (5, [.ref q_1, .ref q_2, .ref q_3, .ref q_6])), (q_1, wT tC 5 (fun _ => none)), (q_2, wI tC 5 (fun _ => 0)), (q_3, .inr (0, [.int 0, .ref dz, .int 0])), (q_6, wS tC 5 (fun _ => none)), (q_8, wI tC 0 (fun _ => 0)), (q_9, wI tC 0 (fun _ => 0)), (q_7, .inr (3, [.ref q_8, .ref q_9, .int 5, .int 0]))] H := hP
  have hD : va_D A [(x, .inr (5, [.ref q_1, .ref q_2, .ref q_3, .ref q_6])), (q_1, wT tC 5 (fun _ => none)), (q_2, wI tC 5 (fun _ => 0)), (q_3, .inr (0, [.int 0, .ref dz, .int 0])), (q_6, wS tC 5 (fun _ => none)), (q_8, wI tC 0 (fun _ => 0)), (q_9, wI tC 0 (fun _ => 0)), (q_7, .inr (3, [.ref q_8, .ref q_9, .int 5, .int 0]))] := hD
  refine lv_astore_n (lv' := [(1, .ref q_7), (0, .ref x)]) hx hb dX4_init_53 rfl hl (by decide) rfl (fun ls hl => ?_)
  refine lv_iconst (v := 0) hx hb dX4_init_54 (by decide) ?_
  refine lv_istore_n (lv' := [(2, .int 0), (1, .ref q_7), (0, .ref x)]) hx hb dX4_init_55 rfl hl (by decide) rfl (fun ls hl => ?_)
  refine lv_iload_n hx hb dX4_init_56 rfl (lv_at hl 0 rfl) ?_
  refine lv_iconst (v := 5) hx hb dX4_init_57 (by decide) ?_
  refine lv_icmp_ge (tgt := 94) hx hb dX4_init_58 (by decide) (fun hc => absurd hc (by decide)) (fun _ => ?_)
  refine lv_aload_n hx hb dX4_init_61 rfl (lv_at hl 2 rfl) ?_
  refine va_get (D := D) (ci := 5) (v := .ref q_1) (C := RX4) (T := TX4) (N := 4) hx hb hts in_X4_init_X4 hown hK hP 0 rfl rfl 0 (by decide) w_4 (fun _ h9 => h9) rfl dX4_init_62 ?_
  refine lv_iload_n hx hb dX4_init_65 rfl (lv_at hl 0 rfl) ?_
  refine va_new (ci := 4) (fs := [.int 0, .int 0, .null, .int 0, .int 0, .null, .int 0, .null]) (C := RX3) (T := TX3) (N := 8) hx hb hts in_X4_init_X3 tyX3 tyX3_ok hown w_3 w_18 w_19 hK hP hD hS hA rfl (by decide +kernel) (Nat.le_of_ble_eq_true rfl) (Nat.le_of_ble_eq_true rfl) dX4_init_66 (fun q_12 H hP hD hS => ?_)
  have hP : va_P D vwCl [(x, .inr (5, [.ref q_1, .ref q_2, .ref q_3, .ref q_6])), (q_1, wT tC 5 (fun _ => none)), (q_2, wI tC 5 (fun _ => 0)), (q_3, .inr (0, [.int 0, .ref dz, .int 0])), (q_6, wS tC 5 (fun _ => none)), (q_8, wI tC 0 (fun _ => 0)), (q_9, wI tC 0 (fun _ => 0)), (q_7, .inr (3, [.ref q_8, .ref q_9, .int 5, .int 0])), (q_12, .inr (4, [.int 0, .int 0, .null, .int 0, .int 0, .null, .int 0, .null]))] H := hP
  have hD : va_D A [(x, .inr (5, [.ref q_1, .ref q_2, .ref q_3, .ref q_6])), (q_1, wT tC 5 (fun _ => none)), (q_2, wI tC 5 (fun _ => 0)), (q_3, .inr (0, [.int 0, .ref dz, .int 0])), (q_6, wS tC 5 (fun _ => none)), (q_8, wI tC 0 (fun _ => 0)), (q_9, wI tC 0 (fun _ => 0)), (q_7, .inr (3, [.ref q_8, .ref q_9, .int 5, .int 0])), (q_12, .inr (4, [.int 0, .int 0, .null, .int 0, .int 0, .null, .int 0, .null]))] := hD
  refine W.widen (k := 8) (n := 30) (by omega) (by omega) ?_
  refine lv_dup hx hb dX4_init_69 rfl ?_
  refine lv_iload_n hx hb dX4_init_70 rfl (lv_at hl 0 rfl) ?_
  refine lv_aload_n hx hb dX4_init_71 rfl (lv_at hl 1 rfl) ?_
  have hPc := hP.sub (ws' := [(q_12, .inr (4, [.int 0, .int 0, .null, .int 0, .int 0, .null, .int 0, .null]))]) [8] rfl
  have hDc := hD.sub (ws' := [(q_12, .inr (4, [.int 0, .int 0, .null, .int 0, .int 0, .null, .int 0, .null]))]) [8] (by decide) rfl
  have hFc := va_free (wc := [(q_12, .inr (4, [.int 0, .int 0, .null, .int 0, .int 0, .null, .int 0, .null]))]) hD hS hA [8] rfl
  refine va_callv (va_runIN (As := [.int 0, .ref q_7]) (rest := [.ref q_12, .int 0, .ref q_1]) ⟨hx, hb, hml, hown, hts⟩ (c_X3_init l hlt D tC dz H.size q_12 q_7 0 ) ⟨(va_cnB (host := "NoticeStations") 2 hts gX4_init_X3_init_n35 rfl rfl rfl (hN.1 (.methodLinkNest "NoticeStations" 35 ⟨"NoticeStations$Station", "<init>", "(ILNoticeStations$Standing;)V"⟩ "NoticeStations") (by decide +kernel)) w_19 (by decide +kernel) ⟨Nat.le_of_ble_eq_true rfl, Nat.le_of_ble_eq_true rfl⟩), rfl, w_20⟩ ⟨pB_blind, pB_at hPc hDc hK hN hE hS hFc⟩ rfl rfl hl.1 rfl (lv_room (Nat.le_of_ble_eq_true rfl)) dX4_init_72 ⟨Nat.le_of_ble_eq_true rfl, Nat.le_of_ble_eq_true rfl⟩) hS (fun q _ h => hFc q h) hFc (fun u t H1 locs ht hvm hw hB hz1 hk1 hS => ?_)
  obtain ⟨hP1, _, hD1⟩ := hB
  have hw_14 := hw
  rw [ht] at hP1
  obtain ⟨hP, hD⟩ := va_join (wr := [(x, .inr (5, [.ref q_1, .ref q_2, .ref q_3, .ref q_6])), (q_1, wT tC 5 (fun _ => none)), (q_2, wI tC 5 (fun _ => 0)), (q_3, .inr (0, [.int 0, .ref dz, .int 0])), (q_6, wS tC 5 (fun _ => none)), (q_8, wI tC 0 (fun _ => 0)), (q_9, wI tC 0 (fun _ => 0)), (q_7, .inr (3, [.ref q_8, .ref q_9, .int 5, .int 0]))]) (w1 := [(q_12, .inr (4, [.int 0, .int 1, .ref q_7, .int 0, .int (-1), .null, .int (-1), .null]))]) hP hD [8] [0, 1, 2, 3, 4, 5, 6, 7] rfl rfl (by decide) (by decide) hk1 hFc hP1 hD1
  generalize H1 = H at hP hS ⊢
  have hP : va_P D vwCl [(x, .inr (5, [.ref q_1, .ref q_2, .ref q_3, .ref q_6])), (q_1, wT tC 5 (fun _ => none)), (q_2, wI tC 5 (fun _ => 0)), (q_3, .inr (0, [.int 0, .ref dz, .int 0])), (q_6, wS tC 5 (fun _ => none)), (q_8, wI tC 0 (fun _ => 0)), (q_9, wI tC 0 (fun _ => 0)), (q_7, .inr (3, [.ref q_8, .ref q_9, .int 5, .int 0])), (q_12, .inr (4, [.int 0, .int 1, .ref q_7, .int 0, .int (-1), .null, .int (-1), .null]))] H := hP
  have hD : va_D A [(x, .inr (5, [.ref q_1, .ref q_2, .ref q_3, .ref q_6])), (q_1, wT tC 5 (fun _ => none)), (q_2, wI tC 5 (fun _ => 0)), (q_3, .inr (0, [.int 0, .ref dz, .int 0])), (q_6, wS tC 5 (fun _ => none)), (q_8, wI tC 0 (fun _ => 0)), (q_9, wI tC 0 (fun _ => 0)), (q_7, .inr (3, [.ref q_8, .ref q_9, .int 5, .int 0])), (q_12, .inr (4, [.int 0, .int 1, .ref q_7, .int 0, .int (-1), .null, .int (-1), .null]))] := hD
  refine va_astq hx hb hK hP hD hS 1 3 8 4 rfl rfl rfl rfl (by unfold vp_in; decide) dX4_init_75 (fun H locs hP hD hS => ?_)
  have hP : va_P D vwCl [(x, .inr (5, [.ref q_1, .ref q_2, .ref q_3, .ref q_6])), (q_1, wT tC 5 (va_up (fun _ => none) 0 (some q_12))), (q_2, wI tC 5 (fun _ => 0)), (q_3, .inr (0, [.int 0, .ref dz, .int 0])), (q_6, wS tC 5 (fun _ => none)), (q_8, wI tC 0 (fun _ => 0)), (q_9, wI tC 0 (fun _ => 0)), (q_7, .inr (3, [.ref q_8, .ref q_9, .int 5, .int 0])), (q_12, .inr (4, [.int 0, .int 1, .ref q_7, .int 0, .int (-1), .null, .int (-1), .null]))] H := hP
  have hD : va_D A [(x, .inr (5, [.ref q_1, .ref q_2, .ref q_3, .ref q_6])), (q_1, wT tC 5 (va_up (fun _ => none) 0 (some q_12))), (q_2, wI tC 5 (fun _ => 0)), (q_3, .inr (0, [.int 0, .ref dz, .int 0])), (q_6, wS tC 5 (fun _ => none)), (q_8, wI tC 0 (fun _ => 0)), (q_9, wI tC 0 (fun _ => 0)), (q_7, .inr (3, [.ref q_8, .ref q_9, .int 5, .int 0])), (q_12, .inr (4, [.int 0, .int 1, .ref q_7, .int 0, .int (-1), .null, .int (-1), .null]))] := hD
  refine lv_aload_n hx hb dX4_init_76 rfl (lv_at hl 2 rfl) ?_
  refine va_get (D := D) (ci := 5) (v := .ref q_2) (C := RX4) (T := TX4) (N := 4) hx hb hts in_X4_init_X4 hown hK hP 0 rfl rfl 1 (by decide) w_6 (fun _ h9 => h9) rfl dX4_init_77 ?_
  refine lv_iload_n hx hb dX4_init_80 rfl (lv_at hl 0 rfl) ?_
  refine lv_bipush (v := 31) hx hb dX4_init_81 (by decide) ?_
  refine lv_iconst (v := 1) hx hb dX4_init_83 (by decide) ?_
  refine lv_iload_n hx hb dX4_init_84 rfl (lv_at hl 0 rfl) ?_
  refine lv_ishl hx hb dX4_init_85 ?_
  refine lv_topi (fun z_15 ez_15 => ?_)
  have fz_15 : z_15 = 1 := ez_15.trans (by decide)
  subst fz_15
  refine lv_isub hx hb dX4_init_86 ?_
  refine lv_topi (fun z_16 ez_16 => ?_)
  have fz_16 : z_16 = 30 := ez_16.trans (by decide)
  subst fz_16
  refine va_iast hx hb hK hP hD hS 2 0 rfl rfl (by unfold vp_in; decide) dX4_init_87 (fun H locs hP hD hS => ?_)
  have hP : va_P D vwCl [(x, .inr (5, [.ref q_1, .ref q_2, .ref q_3, .ref q_6])), (q_1, wT tC 5 (va_up (fun _ => none) 0 (some q_12))), (q_2, wI tC 5 (upd (fun _ => 0) 0 30)), (q_3, .inr (0, [.int 0, .ref dz, .int 0])), (q_6, wS tC 5 (fun _ => none)), (q_8, wI tC 0 (fun _ => 0)), (q_9, wI tC 0 (fun _ => 0)), (q_7, .inr (3, [.ref q_8, .ref q_9, .int 5, .int 0])), (q_12, .inr (4, [.int 0, .int 1, .ref q_7, .int 0, .int (-1), .null, .int (-1), .null]))] H := hP
  have hD : va_D A [(x, .inr (5, [.ref q_1, .ref q_2, .ref q_3, .ref q_6])), (q_1, wT tC 5 (va_up (fun _ => none) 0 (some q_12))), (q_2, wI tC 5 (upd (fun _ => 0) 0 30)), (q_3, .inr (0, [.int 0, .ref dz, .int 0])), (q_6, wS tC 5 (fun _ => none)), (q_8, wI tC 0 (fun _ => 0)), (q_9, wI tC 0 (fun _ => 0)), (q_7, .inr (3, [.ref q_8, .ref q_9, .int 5, .int 0])), (q_12, .inr (4, [.int 0, .int 1, .ref q_7, .int 0, .int (-1), .null, .int (-1), .null]))] := hD
  refine lv_iinc (v := 1) (lv' := [(2, .int 1), (1, .ref q_7), (0, .ref x)]) hx hb dX4_init_88 hl (k := 0) rfl (by decide) (by decide) rfl (fun ls hl => ?_)
  refine lv_goto (tgt := 56) hx hb dX4_init_91 (by decide) ?_
  refine lv_iload_n hx hb dX4_init_56 rfl (lv_at hl 0 rfl) ?_
  refine lv_iconst (v := 5) hx hb dX4_init_57 (by decide) ?_
  refine lv_icmp_ge (tgt := 94) hx hb dX4_init_58 (by decide) (fun hc => absurd hc (by decide)) (fun _ => ?_)
  refine lv_aload_n hx hb dX4_init_61 rfl (lv_at hl 2 rfl) ?_
  refine va_get (D := D) (ci := 5) (v := .ref q_1) (C := RX4) (T := TX4) (N := 4) hx hb hts in_X4_init_X4 hown hK hP 0 rfl rfl 0 (by decide) w_4 (fun _ h9 => h9) rfl dX4_init_62 ?_
  refine lv_iload_n hx hb dX4_init_65 rfl (lv_at hl 0 rfl) ?_
  refine va_new (ci := 4) (fs := [.int 0, .int 0, .null, .int 0, .int 0, .null, .int 0, .null]) (C := RX3) (T := TX3) (N := 8) hx hb hts in_X4_init_X3 tyX3 tyX3_ok hown w_3 w_18 w_19 hK hP hD hS hA rfl (by decide +kernel) (Nat.le_of_ble_eq_true rfl) (Nat.le_of_ble_eq_true rfl) dX4_init_66 (fun q_17 H hP hD hS => ?_)
  have hP : va_P D vwCl [(x, .inr (5, [.ref q_1, .ref q_2, .ref q_3, .ref q_6])), (q_1, wT tC 5 (va_up (fun _ => none) 0 (some q_12))), (q_2, wI tC 5 (upd (fun _ => 0) 0 30)), (q_3, .inr (0, [.int 0, .ref dz, .int 0])), (q_6, wS tC 5 (fun _ => none)), (q_8, wI tC 0 (fun _ => 0)), (q_9, wI tC 0 (fun _ => 0)), (q_7, .inr (3, [.ref q_8, .ref q_9, .int 5, .int 0])), (q_12, .inr (4, [.int 0, .int 1, .ref q_7, .int 0, .int (-1), .null, .int (-1), .null])), (q_17, .inr (4, [.int 0, .int 0, .null, .int 0, .int 0, .null, .int 0, .null]))] H := hP
  have hD : va_D A [(x, .inr (5, [.ref q_1, .ref q_2, .ref q_3, .ref q_6])), (q_1, wT tC 5 (va_up (fun _ => none) 0 (some q_12))), (q_2, wI tC 5 (upd (fun _ => 0) 0 30)), (q_3, .inr (0, [.int 0, .ref dz, .int 0])), (q_6, wS tC 5 (fun _ => none)), (q_8, wI tC 0 (fun _ => 0)), (q_9, wI tC 0 (fun _ => 0)), (q_7, .inr (3, [.ref q_8, .ref q_9, .int 5, .int 0])), (q_12, .inr (4, [.int 0, .int 1, .ref q_7, .int 0, .int (-1), .null, .int (-1), .null])), (q_17, .inr (4, [.int 0, .int 0, .null, .int 0, .int 0, .null, .int 0, .null]))] := hD
  refine W.widen (k := 9) (n := 38) (by omega) (by omega) ?_
  refine lv_dup hx hb dX4_init_69 rfl ?_
  refine lv_iload_n hx hb dX4_init_70 rfl (lv_at hl 0 rfl) ?_
  refine lv_aload_n hx hb dX4_init_71 rfl (lv_at hl 1 rfl) ?_
  have hPc := hP.sub (ws' := [(q_17, .inr (4, [.int 0, .int 0, .null, .int 0, .int 0, .null, .int 0, .null]))]) [9] rfl
  have hDc := hD.sub (ws' := [(q_17, .inr (4, [.int 0, .int 0, .null, .int 0, .int 0, .null, .int 0, .null]))]) [9] (by decide) rfl
  have hFc := va_free (wc := [(q_17, .inr (4, [.int 0, .int 0, .null, .int 0, .int 0, .null, .int 0, .null]))]) hD hS hA [9] rfl
  refine va_callv (va_runIN (As := [.int 1, .ref q_7]) (rest := [.ref q_17, .int 1, .ref q_1]) ⟨hx, hb, hml, hown, hts⟩ (c_X3_init l hlt D tC dz H.size q_17 q_7 1 ) ⟨(va_cnB (host := "NoticeStations") 2 hts gX4_init_X3_init_n35 rfl rfl rfl (hN.1 (.methodLinkNest "NoticeStations" 35 ⟨"NoticeStations$Station", "<init>", "(ILNoticeStations$Standing;)V"⟩ "NoticeStations") (by decide +kernel)) w_19 (by decide +kernel) ⟨Nat.le_of_ble_eq_true rfl, Nat.le_of_ble_eq_true rfl⟩), rfl, w_20⟩ ⟨pB_blind, pB_at hPc hDc hK hN hE hS hFc⟩ rfl rfl hl.1 rfl (lv_room (Nat.le_of_ble_eq_true rfl)) dX4_init_72 ⟨Nat.le_of_ble_eq_true rfl, Nat.le_of_ble_eq_true rfl⟩) hS (fun q _ h => hFc q h) hFc (fun u t H1 locs ht hvm hw hB hz1 hk1 hS => ?_)
  obtain ⟨hP1, _, hD1⟩ := hB
  have hw_19 := hw
  rw [ht] at hP1
  obtain ⟨hP, hD⟩ := va_join (wr := [(x, .inr (5, [.ref q_1, .ref q_2, .ref q_3, .ref q_6])), (q_1, wT tC 5 (va_up (fun _ => none) 0 (some q_12))), (q_2, wI tC 5 (upd (fun _ => 0) 0 30)), (q_3, .inr (0, [.int 0, .ref dz, .int 0])), (q_6, wS tC 5 (fun _ => none)), (q_8, wI tC 0 (fun _ => 0)), (q_9, wI tC 0 (fun _ => 0)), (q_7, .inr (3, [.ref q_8, .ref q_9, .int 5, .int 0])), (q_12, .inr (4, [.int 0, .int 1, .ref q_7, .int 0, .int (-1), .null, .int (-1), .null]))]) (w1 := [(q_17, .inr (4, [.int 1, .int 1, .ref q_7, .int 0, .int (-1), .null, .int (-1), .null]))]) hP hD [9] [0, 1, 2, 3, 4, 5, 6, 7, 8] rfl rfl (by decide) (by decide) hk1 hFc hP1 hD1
  generalize H1 = H at hP hS ⊢
  have hP : va_P D vwCl [(x, .inr (5, [.ref q_1, .ref q_2, .ref q_3, .ref q_6])), (q_1, wT tC 5 (va_up (fun _ => none) 0 (some q_12))), (q_2, wI tC 5 (upd (fun _ => 0) 0 30)), (q_3, .inr (0, [.int 0, .ref dz, .int 0])), (q_6, wS tC 5 (fun _ => none)), (q_8, wI tC 0 (fun _ => 0)), (q_9, wI tC 0 (fun _ => 0)), (q_7, .inr (3, [.ref q_8, .ref q_9, .int 5, .int 0])), (q_12, .inr (4, [.int 0, .int 1, .ref q_7, .int 0, .int (-1), .null, .int (-1), .null])), (q_17, .inr (4, [.int 1, .int 1, .ref q_7, .int 0, .int (-1), .null, .int (-1), .null]))] H := hP
  have hD : va_D A [(x, .inr (5, [.ref q_1, .ref q_2, .ref q_3, .ref q_6])), (q_1, wT tC 5 (va_up (fun _ => none) 0 (some q_12))), (q_2, wI tC 5 (upd (fun _ => 0) 0 30)), (q_3, .inr (0, [.int 0, .ref dz, .int 0])), (q_6, wS tC 5 (fun _ => none)), (q_8, wI tC 0 (fun _ => 0)), (q_9, wI tC 0 (fun _ => 0)), (q_7, .inr (3, [.ref q_8, .ref q_9, .int 5, .int 0])), (q_12, .inr (4, [.int 0, .int 1, .ref q_7, .int 0, .int (-1), .null, .int (-1), .null])), (q_17, .inr (4, [.int 1, .int 1, .ref q_7, .int 0, .int (-1), .null, .int (-1), .null]))] := hD
  refine va_astq hx hb hK hP hD hS 1 3 9 4 rfl rfl rfl rfl (by unfold vp_in; decide) dX4_init_75 (fun H locs hP hD hS => ?_)
  have hP : va_P D vwCl [(x, .inr (5, [.ref q_1, .ref q_2, .ref q_3, .ref q_6])), (q_1, wT tC 5 (va_up (va_up (fun _ => none) 0 (some q_12)) 1 (some q_17))), (q_2, wI tC 5 (upd (fun _ => 0) 0 30)), (q_3, .inr (0, [.int 0, .ref dz, .int 0])), (q_6, wS tC 5 (fun _ => none)), (q_8, wI tC 0 (fun _ => 0)), (q_9, wI tC 0 (fun _ => 0)), (q_7, .inr (3, [.ref q_8, .ref q_9, .int 5, .int 0])), (q_12, .inr (4, [.int 0, .int 1, .ref q_7, .int 0, .int (-1), .null, .int (-1), .null])), (q_17, .inr (4, [.int 1, .int 1, .ref q_7, .int 0, .int (-1), .null, .int (-1), .null]))] H := hP
  have hD : va_D A [(x, .inr (5, [.ref q_1, .ref q_2, .ref q_3, .ref q_6])), (q_1, wT tC 5 (va_up (va_up (fun _ => none) 0 (some q_12)) 1 (some q_17))), (q_2, wI tC 5 (upd (fun _ => 0) 0 30)), (q_3, .inr (0, [.int 0, .ref dz, .int 0])), (q_6, wS tC 5 (fun _ => none)), (q_8, wI tC 0 (fun _ => 0)), (q_9, wI tC 0 (fun _ => 0)), (q_7, .inr (3, [.ref q_8, .ref q_9, .int 5, .int 0])), (q_12, .inr (4, [.int 0, .int 1, .ref q_7, .int 0, .int (-1), .null, .int (-1), .null])), (q_17, .inr (4, [.int 1, .int 1, .ref q_7, .int 0, .int (-1), .null, .int (-1), .null]))] := hD
  refine lv_aload_n hx hb dX4_init_76 rfl (lv_at hl 2 rfl) ?_
  refine va_get (D := D) (ci := 5) (v := .ref q_2) (C := RX4) (T := TX4) (N := 4) hx hb hts in_X4_init_X4 hown hK hP 0 rfl rfl 1 (by decide) w_6 (fun _ h9 => h9) rfl dX4_init_77 ?_
  refine lv_iload_n hx hb dX4_init_80 rfl (lv_at hl 0 rfl) ?_
  refine lv_bipush (v := 31) hx hb dX4_init_81 (by decide) ?_
  refine lv_iconst (v := 1) hx hb dX4_init_83 (by decide) ?_
  refine lv_iload_n hx hb dX4_init_84 rfl (lv_at hl 0 rfl) ?_
  refine lv_ishl hx hb dX4_init_85 ?_
  refine lv_topi (fun z_20 ez_20 => ?_)
  have fz_20 : z_20 = 2 := ez_20.trans (by decide)
  subst fz_20
  refine lv_isub hx hb dX4_init_86 ?_
  refine lv_topi (fun z_21 ez_21 => ?_)
  have fz_21 : z_21 = 29 := ez_21.trans (by decide)
  subst fz_21
  refine va_iast hx hb hK hP hD hS 2 0 rfl rfl (by unfold vp_in; decide) dX4_init_87 (fun H locs hP hD hS => ?_)
  have hP : va_P D vwCl [(x, .inr (5, [.ref q_1, .ref q_2, .ref q_3, .ref q_6])), (q_1, wT tC 5 (va_up (va_up (fun _ => none) 0 (some q_12)) 1 (some q_17))), (q_2, wI tC 5 (upd (upd (fun _ => 0) 0 30) 1 29)), (q_3, .inr (0, [.int 0, .ref dz, .int 0])), (q_6, wS tC 5 (fun _ => none)), (q_8, wI tC 0 (fun _ => 0)), (q_9, wI tC 0 (fun _ => 0)), (q_7, .inr (3, [.ref q_8, .ref q_9, .int 5, .int 0])), (q_12, .inr (4, [.int 0, .int 1, .ref q_7, .int 0, .int (-1), .null, .int (-1), .null])), (q_17, .inr (4, [.int 1, .int 1, .ref q_7, .int 0, .int (-1), .null, .int (-1), .null]))] H := hP
  have hD : va_D A [(x, .inr (5, [.ref q_1, .ref q_2, .ref q_3, .ref q_6])), (q_1, wT tC 5 (va_up (va_up (fun _ => none) 0 (some q_12)) 1 (some q_17))), (q_2, wI tC 5 (upd (upd (fun _ => 0) 0 30) 1 29)), (q_3, .inr (0, [.int 0, .ref dz, .int 0])), (q_6, wS tC 5 (fun _ => none)), (q_8, wI tC 0 (fun _ => 0)), (q_9, wI tC 0 (fun _ => 0)), (q_7, .inr (3, [.ref q_8, .ref q_9, .int 5, .int 0])), (q_12, .inr (4, [.int 0, .int 1, .ref q_7, .int 0, .int (-1), .null, .int (-1), .null])), (q_17, .inr (4, [.int 1, .int 1, .ref q_7, .int 0, .int (-1), .null, .int (-1), .null]))] := hD
  refine lv_iinc (v := 2) (lv' := [(2, .int 2), (1, .ref q_7), (0, .ref x)]) hx hb dX4_init_88 hl (k := 0) rfl (by decide) (by decide) rfl (fun ls hl => ?_)
  refine lv_goto (tgt := 56) hx hb dX4_init_91 (by decide) ?_
  refine lv_iload_n hx hb dX4_init_56 rfl (lv_at hl 0 rfl) ?_
  refine lv_iconst (v := 5) hx hb dX4_init_57 (by decide) ?_
  refine lv_icmp_ge (tgt := 94) hx hb dX4_init_58 (by decide) (fun hc => absurd hc (by decide)) (fun _ => ?_)
  refine lv_aload_n hx hb dX4_init_61 rfl (lv_at hl 2 rfl) ?_
  refine va_get (D := D) (ci := 5) (v := .ref q_1) (C := RX4) (T := TX4) (N := 4) hx hb hts in_X4_init_X4 hown hK hP 0 rfl rfl 0 (by decide) w_4 (fun _ h9 => h9) rfl dX4_init_62 ?_
  refine lv_iload_n hx hb dX4_init_65 rfl (lv_at hl 0 rfl) ?_
  refine va_new (ci := 4) (fs := [.int 0, .int 0, .null, .int 0, .int 0, .null, .int 0, .null]) (C := RX3) (T := TX3) (N := 8) hx hb hts in_X4_init_X3 tyX3 tyX3_ok hown w_3 w_18 w_19 hK hP hD hS hA rfl (by decide +kernel) (Nat.le_of_ble_eq_true rfl) (Nat.le_of_ble_eq_true rfl) dX4_init_66 (fun q_22 H hP hD hS => ?_)
  have hP : va_P D vwCl [(x, .inr (5, [.ref q_1, .ref q_2, .ref q_3, .ref q_6])), (q_1, wT tC 5 (va_up (va_up (fun _ => none) 0 (some q_12)) 1 (some q_17))), (q_2, wI tC 5 (upd (upd (fun _ => 0) 0 30) 1 29)), (q_3, .inr (0, [.int 0, .ref dz, .int 0])), (q_6, wS tC 5 (fun _ => none)), (q_8, wI tC 0 (fun _ => 0)), (q_9, wI tC 0 (fun _ => 0)), (q_7, .inr (3, [.ref q_8, .ref q_9, .int 5, .int 0])), (q_12, .inr (4, [.int 0, .int 1, .ref q_7, .int 0, .int (-1), .null, .int (-1), .null])), (q_17, .inr (4, [.int 1, .int 1, .ref q_7, .int 0, .int (-1), .null, .int (-1), .null])), (q_22, .inr (4, [.int 0, .int 0, .null, .int 0, .int 0, .null, .int 0, .null]))] H := hP
  have hD : va_D A [(x, .inr (5, [.ref q_1, .ref q_2, .ref q_3, .ref q_6])), (q_1, wT tC 5 (va_up (va_up (fun _ => none) 0 (some q_12)) 1 (some q_17))), (q_2, wI tC 5 (upd (upd (fun _ => 0) 0 30) 1 29)), (q_3, .inr (0, [.int 0, .ref dz, .int 0])), (q_6, wS tC 5 (fun _ => none)), (q_8, wI tC 0 (fun _ => 0)), (q_9, wI tC 0 (fun _ => 0)), (q_7, .inr (3, [.ref q_8, .ref q_9, .int 5, .int 0])), (q_12, .inr (4, [.int 0, .int 1, .ref q_7, .int 0, .int (-1), .null, .int (-1), .null])), (q_17, .inr (4, [.int 1, .int 1, .ref q_7, .int 0, .int (-1), .null, .int (-1), .null])), (q_22, .inr (4, [.int 0, .int 0, .null, .int 0, .int 0, .null, .int 0, .null]))] := hD
  refine W.widen (k := 10) (n := 46) (by omega) (by omega) ?_
  refine lv_dup hx hb dX4_init_69 rfl ?_
  refine lv_iload_n hx hb dX4_init_70 rfl (lv_at hl 0 rfl) ?_
  refine lv_aload_n hx hb dX4_init_71 rfl (lv_at hl 1 rfl) ?_
  have hPc := hP.sub (ws' := [(q_22, .inr (4, [.int 0, .int 0, .null, .int 0, .int 0, .null, .int 0, .null]))]) [10] rfl
  have hDc := hD.sub (ws' := [(q_22, .inr (4, [.int 0, .int 0, .null, .int 0, .int 0, .null, .int 0, .null]))]) [10] (by decide) rfl
  have hFc := va_free (wc := [(q_22, .inr (4, [.int 0, .int 0, .null, .int 0, .int 0, .null, .int 0, .null]))]) hD hS hA [10] rfl
  refine va_callv (va_runIN (As := [.int 2, .ref q_7]) (rest := [.ref q_22, .int 2, .ref q_1]) ⟨hx, hb, hml, hown, hts⟩ (c_X3_init l hlt D tC dz H.size q_22 q_7 2 ) ⟨(va_cnB (host := "NoticeStations") 2 hts gX4_init_X3_init_n35 rfl rfl rfl (hN.1 (.methodLinkNest "NoticeStations" 35 ⟨"NoticeStations$Station", "<init>", "(ILNoticeStations$Standing;)V"⟩ "NoticeStations") (by decide +kernel)) w_19 (by decide +kernel) ⟨Nat.le_of_ble_eq_true rfl, Nat.le_of_ble_eq_true rfl⟩), rfl, w_20⟩ ⟨pB_blind, pB_at hPc hDc hK hN hE hS hFc⟩ rfl rfl hl.1 rfl (lv_room (Nat.le_of_ble_eq_true rfl)) dX4_init_72 ⟨Nat.le_of_ble_eq_true rfl, Nat.le_of_ble_eq_true rfl⟩) hS (fun q _ h => hFc q h) hFc (fun u t H1 locs ht hvm hw hB hz1 hk1 hS => ?_)
  obtain ⟨hP1, _, hD1⟩ := hB
  have hw_24 := hw
  rw [ht] at hP1
  obtain ⟨hP, hD⟩ := va_join (wr := [(x, .inr (5, [.ref q_1, .ref q_2, .ref q_3, .ref q_6])), (q_1, wT tC 5 (va_up (va_up (fun _ => none) 0 (some q_12)) 1 (some q_17))), (q_2, wI tC 5 (upd (upd (fun _ => 0) 0 30) 1 29)), (q_3, .inr (0, [.int 0, .ref dz, .int 0])), (q_6, wS tC 5 (fun _ => none)), (q_8, wI tC 0 (fun _ => 0)), (q_9, wI tC 0 (fun _ => 0)), (q_7, .inr (3, [.ref q_8, .ref q_9, .int 5, .int 0])), (q_12, .inr (4, [.int 0, .int 1, .ref q_7, .int 0, .int (-1), .null, .int (-1), .null])), (q_17, .inr (4, [.int 1, .int 1, .ref q_7, .int 0, .int (-1), .null, .int (-1), .null]))]) (w1 := [(q_22, .inr (4, [.int 2, .int 1, .ref q_7, .int 0, .int (-1), .null, .int (-1), .null]))]) hP hD [10] [0, 1, 2, 3, 4, 5, 6, 7, 8, 9] rfl rfl (by decide) (by decide) hk1 hFc hP1 hD1
  generalize H1 = H at hP hS ⊢
  have hP : va_P D vwCl [(x, .inr (5, [.ref q_1, .ref q_2, .ref q_3, .ref q_6])), (q_1, wT tC 5 (va_up (va_up (fun _ => none) 0 (some q_12)) 1 (some q_17))), (q_2, wI tC 5 (upd (upd (fun _ => 0) 0 30) 1 29)), (q_3, .inr (0, [.int 0, .ref dz, .int 0])), (q_6, wS tC 5 (fun _ => none)), (q_8, wI tC 0 (fun _ => 0)), (q_9, wI tC 0 (fun _ => 0)), (q_7, .inr (3, [.ref q_8, .ref q_9, .int 5, .int 0])), (q_12, .inr (4, [.int 0, .int 1, .ref q_7, .int 0, .int (-1), .null, .int (-1), .null])), (q_17, .inr (4, [.int 1, .int 1, .ref q_7, .int 0, .int (-1), .null, .int (-1), .null])), (q_22, .inr (4, [.int 2, .int 1, .ref q_7, .int 0, .int (-1), .null, .int (-1), .null]))] H := hP
  have hD : va_D A [(x, .inr (5, [.ref q_1, .ref q_2, .ref q_3, .ref q_6])), (q_1, wT tC 5 (va_up (va_up (fun _ => none) 0 (some q_12)) 1 (some q_17))), (q_2, wI tC 5 (upd (upd (fun _ => 0) 0 30) 1 29)), (q_3, .inr (0, [.int 0, .ref dz, .int 0])), (q_6, wS tC 5 (fun _ => none)), (q_8, wI tC 0 (fun _ => 0)), (q_9, wI tC 0 (fun _ => 0)), (q_7, .inr (3, [.ref q_8, .ref q_9, .int 5, .int 0])), (q_12, .inr (4, [.int 0, .int 1, .ref q_7, .int 0, .int (-1), .null, .int (-1), .null])), (q_17, .inr (4, [.int 1, .int 1, .ref q_7, .int 0, .int (-1), .null, .int (-1), .null])), (q_22, .inr (4, [.int 2, .int 1, .ref q_7, .int 0, .int (-1), .null, .int (-1), .null]))] := hD
  refine va_astq hx hb hK hP hD hS 1 3 10 4 rfl rfl rfl rfl (by unfold vp_in; decide) dX4_init_75 (fun H locs hP hD hS => ?_)
  have hP : va_P D vwCl [(x, .inr (5, [.ref q_1, .ref q_2, .ref q_3, .ref q_6])), (q_1, wT tC 5 (va_up (va_up (va_up (fun _ => none) 0 (some q_12)) 1 (some q_17)) 2 (some q_22))), (q_2, wI tC 5 (upd (upd (fun _ => 0) 0 30) 1 29)), (q_3, .inr (0, [.int 0, .ref dz, .int 0])), (q_6, wS tC 5 (fun _ => none)), (q_8, wI tC 0 (fun _ => 0)), (q_9, wI tC 0 (fun _ => 0)), (q_7, .inr (3, [.ref q_8, .ref q_9, .int 5, .int 0])), (q_12, .inr (4, [.int 0, .int 1, .ref q_7, .int 0, .int (-1), .null, .int (-1), .null])), (q_17, .inr (4, [.int 1, .int 1, .ref q_7, .int 0, .int (-1), .null, .int (-1), .null])), (q_22, .inr (4, [.int 2, .int 1, .ref q_7, .int 0, .int (-1), .null, .int (-1), .null]))] H := hP
  have hD : va_D A [(x, .inr (5, [.ref q_1, .ref q_2, .ref q_3, .ref q_6])), (q_1, wT tC 5 (va_up (va_up (va_up (fun _ => none) 0 (some q_12)) 1 (some q_17)) 2 (some q_22))), (q_2, wI tC 5 (upd (upd (fun _ => 0) 0 30) 1 29)), (q_3, .inr (0, [.int 0, .ref dz, .int 0])), (q_6, wS tC 5 (fun _ => none)), (q_8, wI tC 0 (fun _ => 0)), (q_9, wI tC 0 (fun _ => 0)), (q_7, .inr (3, [.ref q_8, .ref q_9, .int 5, .int 0])), (q_12, .inr (4, [.int 0, .int 1, .ref q_7, .int 0, .int (-1), .null, .int (-1), .null])), (q_17, .inr (4, [.int 1, .int 1, .ref q_7, .int 0, .int (-1), .null, .int (-1), .null])), (q_22, .inr (4, [.int 2, .int 1, .ref q_7, .int 0, .int (-1), .null, .int (-1), .null]))] := hD
  refine lv_aload_n hx hb dX4_init_76 rfl (lv_at hl 2 rfl) ?_
  refine va_get (D := D) (ci := 5) (v := .ref q_2) (C := RX4) (T := TX4) (N := 4) hx hb hts in_X4_init_X4 hown hK hP 0 rfl rfl 1 (by decide) w_6 (fun _ h9 => h9) rfl dX4_init_77 ?_
  refine lv_iload_n hx hb dX4_init_80 rfl (lv_at hl 0 rfl) ?_
  refine lv_bipush (v := 31) hx hb dX4_init_81 (by decide) ?_
  refine lv_iconst (v := 1) hx hb dX4_init_83 (by decide) ?_
  refine lv_iload_n hx hb dX4_init_84 rfl (lv_at hl 0 rfl) ?_
  refine lv_ishl hx hb dX4_init_85 ?_
  refine lv_topi (fun z_25 ez_25 => ?_)
  have fz_25 : z_25 = 4 := ez_25.trans (by decide)
  subst fz_25
  refine lv_isub hx hb dX4_init_86 ?_
  refine lv_topi (fun z_26 ez_26 => ?_)
  have fz_26 : z_26 = 27 := ez_26.trans (by decide)
  subst fz_26
  refine va_iast hx hb hK hP hD hS 2 0 rfl rfl (by unfold vp_in; decide) dX4_init_87 (fun H locs hP hD hS => ?_)
  have hP : va_P D vwCl [(x, .inr (5, [.ref q_1, .ref q_2, .ref q_3, .ref q_6])), (q_1, wT tC 5 (va_up (va_up (va_up (fun _ => none) 0 (some q_12)) 1 (some q_17)) 2 (some q_22))), (q_2, wI tC 5 (upd (upd (upd (fun _ => 0) 0 30) 1 29) 2 27)), (q_3, .inr (0, [.int 0, .ref dz, .int 0])), (q_6, wS tC 5 (fun _ => none)), (q_8, wI tC 0 (fun _ => 0)), (q_9, wI tC 0 (fun _ => 0)), (q_7, .inr (3, [.ref q_8, .ref q_9, .int 5, .int 0])), (q_12, .inr (4, [.int 0, .int 1, .ref q_7, .int 0, .int (-1), .null, .int (-1), .null])), (q_17, .inr (4, [.int 1, .int 1, .ref q_7, .int 0, .int (-1), .null, .int (-1), .null])), (q_22, .inr (4, [.int 2, .int 1, .ref q_7, .int 0, .int (-1), .null, .int (-1), .null]))] H := hP
  have hD : va_D A [(x, .inr (5, [.ref q_1, .ref q_2, .ref q_3, .ref q_6])), (q_1, wT tC 5 (va_up (va_up (va_up (fun _ => none) 0 (some q_12)) 1 (some q_17)) 2 (some q_22))), (q_2, wI tC 5 (upd (upd (upd (fun _ => 0) 0 30) 1 29) 2 27)), (q_3, .inr (0, [.int 0, .ref dz, .int 0])), (q_6, wS tC 5 (fun _ => none)), (q_8, wI tC 0 (fun _ => 0)), (q_9, wI tC 0 (fun _ => 0)), (q_7, .inr (3, [.ref q_8, .ref q_9, .int 5, .int 0])), (q_12, .inr (4, [.int 0, .int 1, .ref q_7, .int 0, .int (-1), .null, .int (-1), .null])), (q_17, .inr (4, [.int 1, .int 1, .ref q_7, .int 0, .int (-1), .null, .int (-1), .null])), (q_22, .inr (4, [.int 2, .int 1, .ref q_7, .int 0, .int (-1), .null, .int (-1), .null]))] := hD
  refine lv_iinc (v := 3) (lv' := [(2, .int 3), (1, .ref q_7), (0, .ref x)]) hx hb dX4_init_88 hl (k := 0) rfl (by decide) (by decide) rfl (fun ls hl => ?_)
  refine lv_goto (tgt := 56) hx hb dX4_init_91 (by decide) ?_
  refine lv_iload_n hx hb dX4_init_56 rfl (lv_at hl 0 rfl) ?_
  refine lv_iconst (v := 5) hx hb dX4_init_57 (by decide) ?_
  refine lv_icmp_ge (tgt := 94) hx hb dX4_init_58 (by decide) (fun hc => absurd hc (by decide)) (fun _ => ?_)
  refine lv_aload_n hx hb dX4_init_61 rfl (lv_at hl 2 rfl) ?_
  refine va_get (D := D) (ci := 5) (v := .ref q_1) (C := RX4) (T := TX4) (N := 4) hx hb hts in_X4_init_X4 hown hK hP 0 rfl rfl 0 (by decide) w_4 (fun _ h9 => h9) rfl dX4_init_62 ?_
  refine lv_iload_n hx hb dX4_init_65 rfl (lv_at hl 0 rfl) ?_
  refine va_new (ci := 4) (fs := [.int 0, .int 0, .null, .int 0, .int 0, .null, .int 0, .null]) (C := RX3) (T := TX3) (N := 8) hx hb hts in_X4_init_X3 tyX3 tyX3_ok hown w_3 w_18 w_19 hK hP hD hS hA rfl (by decide +kernel) (Nat.le_of_ble_eq_true rfl) (Nat.le_of_ble_eq_true rfl) dX4_init_66 (fun q_27 H hP hD hS => ?_)
  have hP : va_P D vwCl [(x, .inr (5, [.ref q_1, .ref q_2, .ref q_3, .ref q_6])), (q_1, wT tC 5 (va_up (va_up (va_up (fun _ => none) 0 (some q_12)) 1 (some q_17)) 2 (some q_22))), (q_2, wI tC 5 (upd (upd (upd (fun _ => 0) 0 30) 1 29) 2 27)), (q_3, .inr (0, [.int 0, .ref dz, .int 0])), (q_6, wS tC 5 (fun _ => none)), (q_8, wI tC 0 (fun _ => 0)), (q_9, wI tC 0 (fun _ => 0)), (q_7, .inr (3, [.ref q_8, .ref q_9, .int 5, .int 0])), (q_12, .inr (4, [.int 0, .int 1, .ref q_7, .int 0, .int (-1), .null, .int (-1), .null])), (q_17, .inr (4, [.int 1, .int 1, .ref q_7, .int 0, .int (-1), .null, .int (-1), .null])), (q_22, .inr (4, [.int 2, .int 1, .ref q_7, .int 0, .int (-1), .null, .int (-1), .null])), (q_27, .inr (4, [.int 0, .int 0, .null, .int 0, .int 0, .null, .int 0, .null]))] H := hP
  have hD : va_D A [(x, .inr (5, [.ref q_1, .ref q_2, .ref q_3, .ref q_6])), (q_1, wT tC 5 (va_up (va_up (va_up (fun _ => none) 0 (some q_12)) 1 (some q_17)) 2 (some q_22))), (q_2, wI tC 5 (upd (upd (upd (fun _ => 0) 0 30) 1 29) 2 27)), (q_3, .inr (0, [.int 0, .ref dz, .int 0])), (q_6, wS tC 5 (fun _ => none)), (q_8, wI tC 0 (fun _ => 0)), (q_9, wI tC 0 (fun _ => 0)), (q_7, .inr (3, [.ref q_8, .ref q_9, .int 5, .int 0])), (q_12, .inr (4, [.int 0, .int 1, .ref q_7, .int 0, .int (-1), .null, .int (-1), .null])), (q_17, .inr (4, [.int 1, .int 1, .ref q_7, .int 0, .int (-1), .null, .int (-1), .null])), (q_22, .inr (4, [.int 2, .int 1, .ref q_7, .int 0, .int (-1), .null, .int (-1), .null])), (q_27, .inr (4, [.int 0, .int 0, .null, .int 0, .int 0, .null, .int 0, .null]))] := hD
  refine W.widen (k := 11) (n := 54) (by omega) (by omega) ?_
  refine lv_dup hx hb dX4_init_69 rfl ?_
  refine lv_iload_n hx hb dX4_init_70 rfl (lv_at hl 0 rfl) ?_
  refine lv_aload_n hx hb dX4_init_71 rfl (lv_at hl 1 rfl) ?_
  have hPc := hP.sub (ws' := [(q_27, .inr (4, [.int 0, .int 0, .null, .int 0, .int 0, .null, .int 0, .null]))]) [11] rfl
  have hDc := hD.sub (ws' := [(q_27, .inr (4, [.int 0, .int 0, .null, .int 0, .int 0, .null, .int 0, .null]))]) [11] (by decide) rfl
  have hFc := va_free (wc := [(q_27, .inr (4, [.int 0, .int 0, .null, .int 0, .int 0, .null, .int 0, .null]))]) hD hS hA [11] rfl
  refine va_callv (va_runIN (As := [.int 3, .ref q_7]) (rest := [.ref q_27, .int 3, .ref q_1]) ⟨hx, hb, hml, hown, hts⟩ (c_X3_init l hlt D tC dz H.size q_27 q_7 3 ) ⟨(va_cnB (host := "NoticeStations") 2 hts gX4_init_X3_init_n35 rfl rfl rfl (hN.1 (.methodLinkNest "NoticeStations" 35 ⟨"NoticeStations$Station", "<init>", "(ILNoticeStations$Standing;)V"⟩ "NoticeStations") (by decide +kernel)) w_19 (by decide +kernel) ⟨Nat.le_of_ble_eq_true rfl, Nat.le_of_ble_eq_true rfl⟩), rfl, w_20⟩ ⟨pB_blind, pB_at hPc hDc hK hN hE hS hFc⟩ rfl rfl hl.1 rfl (lv_room (Nat.le_of_ble_eq_true rfl)) dX4_init_72 ⟨Nat.le_of_ble_eq_true rfl, Nat.le_of_ble_eq_true rfl⟩) hS (fun q _ h => hFc q h) hFc (fun u t H1 locs ht hvm hw hB hz1 hk1 hS => ?_)
  obtain ⟨hP1, _, hD1⟩ := hB
  have hw_29 := hw
  rw [ht] at hP1
  obtain ⟨hP, hD⟩ := va_join (wr := [(x, .inr (5, [.ref q_1, .ref q_2, .ref q_3, .ref q_6])), (q_1, wT tC 5 (va_up (va_up (va_up (fun _ => none) 0 (some q_12)) 1 (some q_17)) 2 (some q_22))), (q_2, wI tC 5 (upd (upd (upd (fun _ => 0) 0 30) 1 29) 2 27)), (q_3, .inr (0, [.int 0, .ref dz, .int 0])), (q_6, wS tC 5 (fun _ => none)), (q_8, wI tC 0 (fun _ => 0)), (q_9, wI tC 0 (fun _ => 0)), (q_7, .inr (3, [.ref q_8, .ref q_9, .int 5, .int 0])), (q_12, .inr (4, [.int 0, .int 1, .ref q_7, .int 0, .int (-1), .null, .int (-1), .null])), (q_17, .inr (4, [.int 1, .int 1, .ref q_7, .int 0, .int (-1), .null, .int (-1), .null])), (q_22, .inr (4, [.int 2, .int 1, .ref q_7, .int 0, .int (-1), .null, .int (-1), .null]))]) (w1 := [(q_27, .inr (4, [.int 3, .int 1, .ref q_7, .int 0, .int (-1), .null, .int (-1), .null]))]) hP hD [11] [0, 1, 2, 3, 4, 5, 6, 7, 8, 9, 10] rfl rfl (by decide) (by decide) hk1 hFc hP1 hD1
  generalize H1 = H at hP hS ⊢
  have hP : va_P D vwCl [(x, .inr (5, [.ref q_1, .ref q_2, .ref q_3, .ref q_6])), (q_1, wT tC 5 (va_up (va_up (va_up (fun _ => none) 0 (some q_12)) 1 (some q_17)) 2 (some q_22))), (q_2, wI tC 5 (upd (upd (upd (fun _ => 0) 0 30) 1 29) 2 27)), (q_3, .inr (0, [.int 0, .ref dz, .int 0])), (q_6, wS tC 5 (fun _ => none)), (q_8, wI tC 0 (fun _ => 0)), (q_9, wI tC 0 (fun _ => 0)), (q_7, .inr (3, [.ref q_8, .ref q_9, .int 5, .int 0])), (q_12, .inr (4, [.int 0, .int 1, .ref q_7, .int 0, .int (-1), .null, .int (-1), .null])), (q_17, .inr (4, [.int 1, .int 1, .ref q_7, .int 0, .int (-1), .null, .int (-1), .null])), (q_22, .inr (4, [.int 2, .int 1, .ref q_7, .int 0, .int (-1), .null, .int (-1), .null])), (q_27, .inr (4, [.int 3, .int 1, .ref q_7, .int 0, .int (-1), .null, .int (-1), .null]))] H := hP
  have hD : va_D A [(x, .inr (5, [.ref q_1, .ref q_2, .ref q_3, .ref q_6])), (q_1, wT tC 5 (va_up (va_up (va_up (fun _ => none) 0 (some q_12)) 1 (some q_17)) 2 (some q_22))), (q_2, wI tC 5 (upd (upd (upd (fun _ => 0) 0 30) 1 29) 2 27)), (q_3, .inr (0, [.int 0, .ref dz, .int 0])), (q_6, wS tC 5 (fun _ => none)), (q_8, wI tC 0 (fun _ => 0)), (q_9, wI tC 0 (fun _ => 0)), (q_7, .inr (3, [.ref q_8, .ref q_9, .int 5, .int 0])), (q_12, .inr (4, [.int 0, .int 1, .ref q_7, .int 0, .int (-1), .null, .int (-1), .null])), (q_17, .inr (4, [.int 1, .int 1, .ref q_7, .int 0, .int (-1), .null, .int (-1), .null])), (q_22, .inr (4, [.int 2, .int 1, .ref q_7, .int 0, .int (-1), .null, .int (-1), .null])), (q_27, .inr (4, [.int 3, .int 1, .ref q_7, .int 0, .int (-1), .null, .int (-1), .null]))] := hD
  refine va_astq hx hb hK hP hD hS 1 3 11 4 rfl rfl rfl rfl (by unfold vp_in; decide) dX4_init_75 (fun H locs hP hD hS => ?_)
  have hP : va_P D vwCl [(x, .inr (5, [.ref q_1, .ref q_2, .ref q_3, .ref q_6])), (q_1, wT tC 5 (va_up (va_up (va_up (va_up (fun _ => none) 0 (some q_12)) 1 (some q_17)) 2 (some q_22)) 3 (some q_27))), (q_2, wI tC 5 (upd (upd (upd (fun _ => 0) 0 30) 1 29) 2 27)), (q_3, .inr (0, [.int 0, .ref dz, .int 0])), (q_6, wS tC 5 (fun _ => none)), (q_8, wI tC 0 (fun _ => 0)), (q_9, wI tC 0 (fun _ => 0)), (q_7, .inr (3, [.ref q_8, .ref q_9, .int 5, .int 0])), (q_12, .inr (4, [.int 0, .int 1, .ref q_7, .int 0, .int (-1), .null, .int (-1), .null])), (q_17, .inr (4, [.int 1, .int 1, .ref q_7, .int 0, .int (-1), .null, .int (-1), .null])), (q_22, .inr (4, [.int 2, .int 1, .ref q_7, .int 0, .int (-1), .null, .int (-1), .null])), (q_27, .inr (4, [.int 3, .int 1, .ref q_7, .int 0, .int (-1), .null, .int (-1), .null]))] H := hP
  have hD : va_D A [(x, .inr (5, [.ref q_1, .ref q_2, .ref q_3, .ref q_6])), (q_1, wT tC 5 (va_up (va_up (va_up (va_up (fun _ => none) 0 (some q_12)) 1 (some q_17)) 2 (some q_22)) 3 (some q_27))), (q_2, wI tC 5 (upd (upd (upd (fun _ => 0) 0 30) 1 29) 2 27)), (q_3, .inr (0, [.int 0, .ref dz, .int 0])), (q_6, wS tC 5 (fun _ => none)), (q_8, wI tC 0 (fun _ => 0)), (q_9, wI tC 0 (fun _ => 0)), (q_7, .inr (3, [.ref q_8, .ref q_9, .int 5, .int 0])), (q_12, .inr (4, [.int 0, .int 1, .ref q_7, .int 0, .int (-1), .null, .int (-1), .null])), (q_17, .inr (4, [.int 1, .int 1, .ref q_7, .int 0, .int (-1), .null, .int (-1), .null])), (q_22, .inr (4, [.int 2, .int 1, .ref q_7, .int 0, .int (-1), .null, .int (-1), .null])), (q_27, .inr (4, [.int 3, .int 1, .ref q_7, .int 0, .int (-1), .null, .int (-1), .null]))] := hD
  refine lv_aload_n hx hb dX4_init_76 rfl (lv_at hl 2 rfl) ?_
  refine va_get (D := D) (ci := 5) (v := .ref q_2) (C := RX4) (T := TX4) (N := 4) hx hb hts in_X4_init_X4 hown hK hP 0 rfl rfl 1 (by decide) w_6 (fun _ h9 => h9) rfl dX4_init_77 ?_
  refine lv_iload_n hx hb dX4_init_80 rfl (lv_at hl 0 rfl) ?_
  refine lv_bipush (v := 31) hx hb dX4_init_81 (by decide) ?_
  refine lv_iconst (v := 1) hx hb dX4_init_83 (by decide) ?_
  refine lv_iload_n hx hb dX4_init_84 rfl (lv_at hl 0 rfl) ?_
  refine lv_ishl hx hb dX4_init_85 ?_
  refine lv_topi (fun z_30 ez_30 => ?_)
  have fz_30 : z_30 = 8 := ez_30.trans (by decide)
  subst fz_30
  refine lv_isub hx hb dX4_init_86 ?_
  refine lv_topi (fun z_31 ez_31 => ?_)
  have fz_31 : z_31 = 23 := ez_31.trans (by decide)
  subst fz_31
  refine va_iast hx hb hK hP hD hS 2 0 rfl rfl (by unfold vp_in; decide) dX4_init_87 (fun H locs hP hD hS => ?_)
  have hP : va_P D vwCl [(x, .inr (5, [.ref q_1, .ref q_2, .ref q_3, .ref q_6])), (q_1, wT tC 5 (va_up (va_up (va_up (va_up (fun _ => none) 0 (some q_12)) 1 (some q_17)) 2 (some q_22)) 3 (some q_27))), (q_2, wI tC 5 (upd (upd (upd (upd (fun _ => 0) 0 30) 1 29) 2 27) 3 23)), (q_3, .inr (0, [.int 0, .ref dz, .int 0])), (q_6, wS tC 5 (fun _ => none)), (q_8, wI tC 0 (fun _ => 0)), (q_9, wI tC 0 (fun _ => 0)), (q_7, .inr (3, [.ref q_8, .ref q_9, .int 5, .int 0])), (q_12, .inr (4, [.int 0, .int 1, .ref q_7, .int 0, .int (-1), .null, .int (-1), .null])), (q_17, .inr (4, [.int 1, .int 1, .ref q_7, .int 0, .int (-1), .null, .int (-1), .null])), (q_22, .inr (4, [.int 2, .int 1, .ref q_7, .int 0, .int (-1), .null, .int (-1), .null])), (q_27, .inr (4, [.int 3, .int 1, .ref q_7, .int 0, .int (-1), .null, .int (-1), .null]))] H := hP
  have hD : va_D A [(x, .inr (5, [.ref q_1, .ref q_2, .ref q_3, .ref q_6])), (q_1, wT tC 5 (va_up (va_up (va_up (va_up (fun _ => none) 0 (some q_12)) 1 (some q_17)) 2 (some q_22)) 3 (some q_27))), (q_2, wI tC 5 (upd (upd (upd (upd (fun _ => 0) 0 30) 1 29) 2 27) 3 23)), (q_3, .inr (0, [.int 0, .ref dz, .int 0])), (q_6, wS tC 5 (fun _ => none)), (q_8, wI tC 0 (fun _ => 0)), (q_9, wI tC 0 (fun _ => 0)), (q_7, .inr (3, [.ref q_8, .ref q_9, .int 5, .int 0])), (q_12, .inr (4, [.int 0, .int 1, .ref q_7, .int 0, .int (-1), .null, .int (-1), .null])), (q_17, .inr (4, [.int 1, .int 1, .ref q_7, .int 0, .int (-1), .null, .int (-1), .null])), (q_22, .inr (4, [.int 2, .int 1, .ref q_7, .int 0, .int (-1), .null, .int (-1), .null])), (q_27, .inr (4, [.int 3, .int 1, .ref q_7, .int 0, .int (-1), .null, .int (-1), .null]))] := hD
  refine lv_iinc (v := 4) (lv' := [(2, .int 4), (1, .ref q_7), (0, .ref x)]) hx hb dX4_init_88 hl (k := 0) rfl (by decide) (by decide) rfl (fun ls hl => ?_)
  refine lv_goto (tgt := 56) hx hb dX4_init_91 (by decide) ?_
  refine lv_iload_n hx hb dX4_init_56 rfl (lv_at hl 0 rfl) ?_
  refine lv_iconst (v := 5) hx hb dX4_init_57 (by decide) ?_
  refine lv_icmp_ge (tgt := 94) hx hb dX4_init_58 (by decide) (fun hc => absurd hc (by decide)) (fun _ => ?_)
  refine lv_aload_n hx hb dX4_init_61 rfl (lv_at hl 2 rfl) ?_
  refine va_get (D := D) (ci := 5) (v := .ref q_1) (C := RX4) (T := TX4) (N := 4) hx hb hts in_X4_init_X4 hown hK hP 0 rfl rfl 0 (by decide) w_4 (fun _ h9 => h9) rfl dX4_init_62 ?_
  refine lv_iload_n hx hb dX4_init_65 rfl (lv_at hl 0 rfl) ?_
  refine va_new (ci := 4) (fs := [.int 0, .int 0, .null, .int 0, .int 0, .null, .int 0, .null]) (C := RX3) (T := TX3) (N := 8) hx hb hts in_X4_init_X3 tyX3 tyX3_ok hown w_3 w_18 w_19 hK hP hD hS hA rfl (by decide +kernel) (Nat.le_of_ble_eq_true rfl) (Nat.le_of_ble_eq_true rfl) dX4_init_66 (fun q_32 H hP hD hS => ?_)
  have hP : va_P D vwCl [(x, .inr (5, [.ref q_1, .ref q_2, .ref q_3, .ref q_6])), (q_1, wT tC 5 (va_up (va_up (va_up (va_up (fun _ => none) 0 (some q_12)) 1 (some q_17)) 2 (some q_22)) 3 (some q_27))), (q_2, wI tC 5 (upd (upd (upd (upd (fun _ => 0) 0 30) 1 29) 2 27) 3 23)), (q_3, .inr (0, [.int 0, .ref dz, .int 0])), (q_6, wS tC 5 (fun _ => none)), (q_8, wI tC 0 (fun _ => 0)), (q_9, wI tC 0 (fun _ => 0)), (q_7, .inr (3, [.ref q_8, .ref q_9, .int 5, .int 0])), (q_12, .inr (4, [.int 0, .int 1, .ref q_7, .int 0, .int (-1), .null, .int (-1), .null])), (q_17, .inr (4, [.int 1, .int 1, .ref q_7, .int 0, .int (-1), .null, .int (-1), .null])), (q_22, .inr (4, [.int 2, .int 1, .ref q_7, .int 0, .int (-1), .null, .int (-1), .null])), (q_27, .inr (4, [.int 3, .int 1, .ref q_7, .int 0, .int (-1), .null, .int (-1), .null])), (q_32, .inr (4, [.int 0, .int 0, .null, .int 0, .int 0, .null, .int 0, .null]))] H := hP
  have hD : va_D A [(x, .inr (5, [.ref q_1, .ref q_2, .ref q_3, .ref q_6])), (q_1, wT tC 5 (va_up (va_up (va_up (va_up (fun _ => none) 0 (some q_12)) 1 (some q_17)) 2 (some q_22)) 3 (some q_27))), (q_2, wI tC 5 (upd (upd (upd (upd (fun _ => 0) 0 30) 1 29) 2 27) 3 23)), (q_3, .inr (0, [.int 0, .ref dz, .int 0])), (q_6, wS tC 5 (fun _ => none)), (q_8, wI tC 0 (fun _ => 0)), (q_9, wI tC 0 (fun _ => 0)), (q_7, .inr (3, [.ref q_8, .ref q_9, .int 5, .int 0])), (q_12, .inr (4, [.int 0, .int 1, .ref q_7, .int 0, .int (-1), .null, .int (-1), .null])), (q_17, .inr (4, [.int 1, .int 1, .ref q_7, .int 0, .int (-1), .null, .int (-1), .null])), (q_22, .inr (4, [.int 2, .int 1, .ref q_7, .int 0, .int (-1), .null, .int (-1), .null])), (q_27, .inr (4, [.int 3, .int 1, .ref q_7, .int 0, .int (-1), .null, .int (-1), .null])), (q_32, .inr (4, [.int 0, .int 0, .null, .int 0, .int 0, .null, .int 0, .null]))] := hD
  refine W.widen (k := 12) (n := 62) (by omega) (by omega) ?_
  refine lv_dup hx hb dX4_init_69 rfl ?_
  refine lv_iload_n hx hb dX4_init_70 rfl (lv_at hl 0 rfl) ?_
  refine lv_aload_n hx hb dX4_init_71 rfl (lv_at hl 1 rfl) ?_
  have hPc := hP.sub (ws' := [(q_32, .inr (4, [.int 0, .int 0, .null, .int 0, .int 0, .null, .int 0, .null]))]) [12] rfl
  have hDc := hD.sub (ws' := [(q_32, .inr (4, [.int 0, .int 0, .null, .int 0, .int 0, .null, .int 0, .null]))]) [12] (by decide) rfl
  have hFc := va_free (wc := [(q_32, .inr (4, [.int 0, .int 0, .null, .int 0, .int 0, .null, .int 0, .null]))]) hD hS hA [12] rfl
  refine va_callv (va_runIN (As := [.int 4, .ref q_7]) (rest := [.ref q_32, .int 4, .ref q_1]) ⟨hx, hb, hml, hown, hts⟩ (c_X3_init l hlt D tC dz H.size q_32 q_7 4 ) ⟨(va_cnB (host := "NoticeStations") 2 hts gX4_init_X3_init_n35 rfl rfl rfl (hN.1 (.methodLinkNest "NoticeStations" 35 ⟨"NoticeStations$Station", "<init>", "(ILNoticeStations$Standing;)V"⟩ "NoticeStations") (by decide +kernel)) w_19 (by decide +kernel) ⟨Nat.le_of_ble_eq_true rfl, Nat.le_of_ble_eq_true rfl⟩), rfl, w_20⟩ ⟨pB_blind, pB_at hPc hDc hK hN hE hS hFc⟩ rfl rfl hl.1 rfl (lv_room (Nat.le_of_ble_eq_true rfl)) dX4_init_72 ⟨Nat.le_of_ble_eq_true rfl, Nat.le_of_ble_eq_true rfl⟩) hS (fun q _ h => hFc q h) hFc (fun u t H1 locs ht hvm hw hB hz1 hk1 hS => ?_)
  obtain ⟨hP1, _, hD1⟩ := hB
  have hw_34 := hw
  rw [ht] at hP1
  obtain ⟨hP, hD⟩ := va_join (wr := [(x, .inr (5, [.ref q_1, .ref q_2, .ref q_3, .ref q_6])), (q_1, wT tC 5 (va_up (va_up (va_up (va_up (fun _ => none) 0 (some q_12)) 1 (some q_17)) 2 (some q_22)) 3 (some q_27))), (q_2, wI tC 5 (upd (upd (upd (upd (fun _ => 0) 0 30) 1 29) 2 27) 3 23)), (q_3, .inr (0, [.int 0, .ref dz, .int 0])), (q_6, wS tC 5 (fun _ => none)), (q_8, wI tC 0 (fun _ => 0)), (q_9, wI tC 0 (fun _ => 0)), (q_7, .inr (3, [.ref q_8, .ref q_9, .int 5, .int 0])), (q_12, .inr (4, [.int 0, .int 1, .ref q_7, .int 0, .int (-1), .null, .int (-1), .null])), (q_17, .inr (4, [.int 1, .int 1, .ref q_7, .int 0, .int (-1), .null, .int (-1), .null])), (q_22, .inr (4, [.int 2, .int 1, .ref q_7, .int 0, .int (-1), .null, .int (-1), .null])), (q_27, .inr (4, [.int 3, .int 1, .ref q_7, .int 0, .int (-1), .null, .int (-1), .null]))]) (w1 := [(q_32, .inr (4, [.int 4, .int 1, .ref q_7, .int 0, .int (-1), .null, .int (-1), .null]))]) hP hD [12] [0, 1, 2, 3, 4, 5, 6, 7, 8, 9, 10, 11] rfl rfl (by decide) (by decide) hk1 hFc hP1 hD1
  generalize H1 = H at hP hS ⊢
  have hP : va_P D vwCl [(x, .inr (5, [.ref q_1, .ref q_2, .ref q_3, .ref q_6])), (q_1, wT tC 5 (va_up (va_up (va_up (va_up (fun _ => none) 0 (some q_12)) 1 (some q_17)) 2 (some q_22)) 3 (some q_27))), (q_2, wI tC 5 (upd (upd (upd (upd (fun _ => 0) 0 30) 1 29) 2 27) 3 23)), (q_3, .inr (0, [.int 0, .ref dz, .int 0])), (q_6, wS tC 5 (fun _ => none)), (q_8, wI tC 0 (fun _ => 0)), (q_9, wI tC 0 (fun _ => 0)), (q_7, .inr (3, [.ref q_8, .ref q_9, .int 5, .int 0])), (q_12, .inr (4, [.int 0, .int 1, .ref q_7, .int 0, .int (-1), .null, .int (-1), .null])), (q_17, .inr (4, [.int 1, .int 1, .ref q_7, .int 0, .int (-1), .null, .int (-1), .null])), (q_22, .inr (4, [.int 2, .int 1, .ref q_7, .int 0, .int (-1), .null, .int (-1), .null])), (q_27, .inr (4, [.int 3, .int 1, .ref q_7, .int 0, .int (-1), .null, .int (-1), .null])), (q_32, .inr (4, [.int 4, .int 1, .ref q_7, .int 0, .int (-1), .null, .int (-1), .null]))] H := hP
  have hD : va_D A [(x, .inr (5, [.ref q_1, .ref q_2, .ref q_3, .ref q_6])), (q_1, wT tC 5 (va_up (va_up (va_up (va_up (fun _ => none) 0 (some q_12)) 1 (some q_17)) 2 (some q_22)) 3 (some q_27))), (q_2, wI tC 5 (upd (upd (upd (upd (fun _ => 0) 0 30) 1 29) 2 27) 3 23)), (q_3, .inr (0, [.int 0, .ref dz, .int 0])), (q_6, wS tC 5 (fun _ => none)), (q_8, wI tC 0 (fun _ => 0)), (q_9, wI tC 0 (fun _ => 0)), (q_7, .inr (3, [.ref q_8, .ref q_9, .int 5, .int 0])), (q_12, .inr (4, [.int 0, .int 1, .ref q_7, .int 0, .int (-1), .null, .int (-1), .null])), (q_17, .inr (4, [.int 1, .int 1, .ref q_7, .int 0, .int (-1), .null, .int (-1), .null])), (q_22, .inr (4, [.int 2, .int 1, .ref q_7, .int 0, .int (-1), .null, .int (-1), .null])), (q_27, .inr (4, [.int 3, .int 1, .ref q_7, .int 0, .int (-1), .null, .int (-1), .null])), (q_32, .inr (4, [.int 4, .int 1, .ref q_7, .int 0, .int (-1), .null, .int (-1), .null]))] := hD
  refine va_astq hx hb hK hP hD hS 1 3 12 4 rfl rfl rfl rfl (by unfold vp_in; decide) dX4_init_75 (fun H locs hP hD hS => ?_)
  have hP : va_P D vwCl [(x, .inr (5, [.ref q_1, .ref q_2, .ref q_3, .ref q_6])), (q_1, wT tC 5 (va_up (va_up (va_up (va_up (va_up (fun _ => none) 0 (some q_12)) 1 (some q_17)) 2 (some q_22)) 3 (some q_27)) 4 (some q_32))), (q_2, wI tC 5 (upd (upd (upd (upd (fun _ => 0) 0 30) 1 29) 2 27) 3 23)), (q_3, .inr (0, [.int 0, .ref dz, .int 0])), (q_6, wS tC 5 (fun _ => none)), (q_8, wI tC 0 (fun _ => 0)), (q_9, wI tC 0 (fun _ => 0)), (q_7, .inr (3, [.ref q_8, .ref q_9, .int 5, .int 0])), (q_12, .inr (4, [.int 0, .int 1, .ref q_7, .int 0, .int (-1), .null, .int (-1), .null])), (q_17, .inr (4, [.int 1, .int 1, .ref q_7, .int 0, .int (-1), .null, .int (-1), .null])), (q_22, .inr (4, [.int 2, .int 1, .ref q_7, .int 0, .int (-1), .null, .int (-1), .null])), (q_27, .inr (4, [.int 3, .int 1, .ref q_7, .int 0, .int (-1), .null, .int (-1), .null])), (q_32, .inr (4, [.int 4, .int 1, .ref q_7, .int 0, .int (-1), .null, .int (-1), .null]))] H := hP
  have hD : va_D A [(x, .inr (5, [.ref q_1, .ref q_2, .ref q_3, .ref q_6])), (q_1, wT tC 5 (va_up (va_up (va_up (va_up (va_up (fun _ => none) 0 (some q_12)) 1 (some q_17)) 2 (some q_22)) 3 (some q_27)) 4 (some q_32))), (q_2, wI tC 5 (upd (upd (upd (upd (fun _ => 0) 0 30) 1 29) 2 27) 3 23)), (q_3, .inr (0, [.int 0, .ref dz, .int 0])), (q_6, wS tC 5 (fun _ => none)), (q_8, wI tC 0 (fun _ => 0)), (q_9, wI tC 0 (fun _ => 0)), (q_7, .inr (3, [.ref q_8, .ref q_9, .int 5, .int 0])), (q_12, .inr (4, [.int 0, .int 1, .ref q_7, .int 0, .int (-1), .null, .int (-1), .null])), (q_17, .inr (4, [.int 1, .int 1, .ref q_7, .int 0, .int (-1), .null, .int (-1), .null])), (q_22, .inr (4, [.int 2, .int 1, .ref q_7, .int 0, .int (-1), .null, .int (-1), .null])), (q_27, .inr (4, [.int 3, .int 1, .ref q_7, .int 0, .int (-1), .null, .int (-1), .null])), (q_32, .inr (4, [.int 4, .int 1, .ref q_7, .int 0, .int (-1), .null, .int (-1), .null]))] := hD
  refine lv_aload_n hx hb dX4_init_76 rfl (lv_at hl 2 rfl) ?_
  refine va_get (D := D) (ci := 5) (v := .ref q_2) (C := RX4) (T := TX4) (N := 4) hx hb hts in_X4_init_X4 hown hK hP 0 rfl rfl 1 (by decide) w_6 (fun _ h9 => h9) rfl dX4_init_77 ?_
  refine lv_iload_n hx hb dX4_init_80 rfl (lv_at hl 0 rfl) ?_
  refine lv_bipush (v := 31) hx hb dX4_init_81 (by decide) ?_
  refine lv_iconst (v := 1) hx hb dX4_init_83 (by decide) ?_
  refine lv_iload_n hx hb dX4_init_84 rfl (lv_at hl 0 rfl) ?_
  refine lv_ishl hx hb dX4_init_85 ?_
  refine lv_topi (fun z_35 ez_35 => ?_)
  have fz_35 : z_35 = 16 := ez_35.trans (by decide)
  subst fz_35
  refine lv_isub hx hb dX4_init_86 ?_
  refine lv_topi (fun z_36 ez_36 => ?_)
  have fz_36 : z_36 = 15 := ez_36.trans (by decide)
  subst fz_36
  refine va_iast hx hb hK hP hD hS 2 0 rfl rfl (by unfold vp_in; decide) dX4_init_87 (fun H locs hP hD hS => ?_)
  have hP : va_P D vwCl [(x, .inr (5, [.ref q_1, .ref q_2, .ref q_3, .ref q_6])), (q_1, wT tC 5 (va_up (va_up (va_up (va_up (va_up (fun _ => none) 0 (some q_12)) 1 (some q_17)) 2 (some q_22)) 3 (some q_27)) 4 (some q_32))), (q_2, wI tC 5 (upd (upd (upd (upd (upd (fun _ => 0) 0 30) 1 29) 2 27) 3 23) 4 15)), (q_3, .inr (0, [.int 0, .ref dz, .int 0])), (q_6, wS tC 5 (fun _ => none)), (q_8, wI tC 0 (fun _ => 0)), (q_9, wI tC 0 (fun _ => 0)), (q_7, .inr (3, [.ref q_8, .ref q_9, .int 5, .int 0])), (q_12, .inr (4, [.int 0, .int 1, .ref q_7, .int 0, .int (-1), .null, .int (-1), .null])), (q_17, .inr (4, [.int 1, .int 1, .ref q_7, .int 0, .int (-1), .null, .int (-1), .null])), (q_22, .inr (4, [.int 2, .int 1, .ref q_7, .int 0, .int (-1), .null, .int (-1), .null])), (q_27, .inr (4, [.int 3, .int 1, .ref q_7, .int 0, .int (-1), .null, .int (-1), .null])), (q_32, .inr (4, [.int 4, .int 1, .ref q_7, .int 0, .int (-1), .null, .int (-1), .null]))] H := hP
  have hD : va_D A [(x, .inr (5, [.ref q_1, .ref q_2, .ref q_3, .ref q_6])), (q_1, wT tC 5 (va_up (va_up (va_up (va_up (va_up (fun _ => none) 0 (some q_12)) 1 (some q_17)) 2 (some q_22)) 3 (some q_27)) 4 (some q_32))), (q_2, wI tC 5 (upd (upd (upd (upd (upd (fun _ => 0) 0 30) 1 29) 2 27) 3 23) 4 15)), (q_3, .inr (0, [.int 0, .ref dz, .int 0])), (q_6, wS tC 5 (fun _ => none)), (q_8, wI tC 0 (fun _ => 0)), (q_9, wI tC 0 (fun _ => 0)), (q_7, .inr (3, [.ref q_8, .ref q_9, .int 5, .int 0])), (q_12, .inr (4, [.int 0, .int 1, .ref q_7, .int 0, .int (-1), .null, .int (-1), .null])), (q_17, .inr (4, [.int 1, .int 1, .ref q_7, .int 0, .int (-1), .null, .int (-1), .null])), (q_22, .inr (4, [.int 2, .int 1, .ref q_7, .int 0, .int (-1), .null, .int (-1), .null])), (q_27, .inr (4, [.int 3, .int 1, .ref q_7, .int 0, .int (-1), .null, .int (-1), .null])), (q_32, .inr (4, [.int 4, .int 1, .ref q_7, .int 0, .int (-1), .null, .int (-1), .null]))] := hD
  refine lv_iinc (v := 5) (lv' := [(2, .int 5), (1, .ref q_7), (0, .ref x)]) hx hb dX4_init_88 hl (k := 0) rfl (by decide) (by decide) rfl (fun ls hl => ?_)
  refine lv_goto (tgt := 56) hx hb dX4_init_91 (by decide) ?_
  refine lv_iload_n hx hb dX4_init_56 rfl (lv_at hl 0 rfl) ?_
  refine lv_iconst (v := 5) hx hb dX4_init_57 (by decide) ?_
  refine lv_icmp_ge (tgt := 94) hx hb dX4_init_58 (by decide) (fun _ => ?_) (fun hc => absurd (by decide) hc)
  have hP9 := hP.sub (ws' := [(x, .inr (5, [.ref q_1, .ref q_2, .ref q_3, .ref q_6])), (q_1, wT tC 5 (va_up (va_up (va_up (va_up (va_up (fun _ => none) 0 (some q_12)) 1 (some q_17)) 2 (some q_22)) 3 (some q_27)) 4 (some q_32))), (q_2, wI tC 5 (upd (upd (upd (upd (upd (fun _ => 0) 0 30) 1 29) 2 27) 3 23) 4 15)), (q_3, .inr (0, [.int 0, .ref dz, .int 0])), (q_6, wS tC 5 (fun _ => none)), (q_7, .inr (3, [.ref q_8, .ref q_9, .int 5, .int 0])), (q_8, wI tC 0 (fun _ => 0)), (q_12, .inr (4, [.int 0, .int 1, .ref q_7, .int 0, .int (-1), .null, .int (-1), .null])), (q_17, .inr (4, [.int 1, .int 1, .ref q_7, .int 0, .int (-1), .null, .int (-1), .null])), (q_22, .inr (4, [.int 2, .int 1, .ref q_7, .int 0, .int (-1), .null, .int (-1), .null])), (q_27, .inr (4, [.int 3, .int 1, .ref q_7, .int 0, .int (-1), .null, .int (-1), .null])), (q_32, .inr (4, [.int 4, .int 1, .ref q_7, .int 0, .int (-1), .null, .int (-1), .null]))]) [0, 1, 2, 3, 4, 7, 5, 8, 9, 10, 11, 12] rfl
  have hD9 := hD.sub (ws' := [(x, .inr (5, [.ref q_1, .ref q_2, .ref q_3, .ref q_6])), (q_1, wT tC 5 (va_up (va_up (va_up (va_up (va_up (fun _ => none) 0 (some q_12)) 1 (some q_17)) 2 (some q_22)) 3 (some q_27)) 4 (some q_32))), (q_2, wI tC 5 (upd (upd (upd (upd (upd (fun _ => 0) 0 30) 1 29) 2 27) 3 23) 4 15)), (q_3, .inr (0, [.int 0, .ref dz, .int 0])), (q_6, wS tC 5 (fun _ => none)), (q_7, .inr (3, [.ref q_8, .ref q_9, .int 5, .int 0])), (q_8, wI tC 0 (fun _ => 0)), (q_12, .inr (4, [.int 0, .int 1, .ref q_7, .int 0, .int (-1), .null, .int (-1), .null])), (q_17, .inr (4, [.int 1, .int 1, .ref q_7, .int 0, .int (-1), .null, .int (-1), .null])), (q_22, .inr (4, [.int 2, .int 1, .ref q_7, .int 0, .int (-1), .null, .int (-1), .null])), (q_27, .inr (4, [.int 3, .int 1, .ref q_7, .int 0, .int (-1), .null, .int (-1), .null])), (q_32, .inr (4, [.int 4, .int 1, .ref q_7, .int 0, .int (-1), .null, .int (-1), .null]))]) [0, 1, 2, 3, 4, 7, 5, 8, 9, 10, 11, 12] (by decide) rfl
  refine W.widen (k := 12) (n := 62) (by omega) (by omega) ?_
  exact W.vret hx hb hr (fun t ht hW => ⟨⟨(), rfl, trivial, q_1, q_2, q_3, q_6, q_7, q_8, q_9, (fun i => match i with | 0 => q_12 | 1 => q_17 | 2 => q_22 | 3 => q_27 | _ => q_32), _, _, (by intro i hi; rcases (show i = 0 ∨ i = 1 ∨ i = 2 ∨ i = 3 ∨ i = 4 by omega) with rfl | rfl | rfl | rfl | rfl <;> rfl), (by intro i hi; rcases (show i = 0 ∨ i = 1 ∨ i = 2 ∨ i = 3 ∨ i = 4 by omega) with rfl | rfl | rfl | rfl | rfl <;> decide +kernel), (by rw [ht]; exact hP9), va_K.moved hW.alike hK, hD9⟩, hS.F ht⟩) hS.2.2 dX4_init_94 hlocks
