set_option maxRecDepth 100000 in
theorem dX4_requireTwoStations_0 : decode cX4_requireTwoStations 0 = .ok (.iload_n 1, 1) := by decide +kernel
set_option maxRecDepth 100000 in
theorem dX4_requireTwoStations_1 : decode cX4_requireTwoStations 1 = .ok (.iconst 5, 1) := by decide +kernel
set_option maxRecDepth 100000 in
theorem dX4_requireTwoStations_2 : decode cX4_requireTwoStations 2 = .ok (.invokestatic 46, 3) := by decide +kernel
set_option maxRecDepth 20000 in
theorem ggX4_requireTwoStations_X4_isBelow : GoodIn wsX4_requireTwoStations wsX4_isBelow := goodIn_r _ [6] (by decide +kernel) (by decide +kernel)
set_option maxRecDepth 20000 in
theorem gX4_requireTwoStations_X4_isBelow : GoodIn wsX4_requireTwoStations (va_wsS RX4 46 yX4_isBelow wsX4_isBelow) := goodIn_app (goodIn_of _ (by decide +kernel)) ggX4_requireTwoStations_X4_isBelow
set_option maxRecDepth 100000 in
theorem dX4_requireTwoStations_5 : decode cX4_requireTwoStations 5 = .ok (.ifCond .eq 16, 3) := by decide +kernel
set_option maxRecDepth 100000 in
theorem dX4_requireTwoStations_21 : decode cX4_requireTwoStations 21 = .ok (.new 247, 3) := by decide +kernel
set_option maxRecDepth 100000 in
theorem dX4_requireTwoStations_24 : decode cX4_requireTwoStations 24 = .ok (.dup, 1) := by decide +kernel
set_option maxRecDepth 100000 in
theorem dX4_requireTwoStations_25 : decode cX4_requireTwoStations 25 = .ok (.ldc 252, 2) := by decide +kernel
set_option maxRecDepth 100000 in
theorem dX4_requireTwoStations_27 : decode cX4_requireTwoStations 27 = .ok (.invokespecial 251, 3) := by decide +kernel
set_option maxRecDepth 100000 in
theorem dX4_requireTwoStations_30 : decode cX4_requireTwoStations 30 = .ok (.athrow, 1) := by decide +kernel
set_option maxRecDepth 100000 in
theorem th_X4_requireTwoStations_IOOBE : ∀ w ∈ (vx_atS RX4 251 "java/lang/IndexOutOfBoundsException" ["java/lang/RuntimeException", "java/lang/Exception"]).filter goodWord, w ∈ wsX4_requireTwoStations := fun _ h => List.mem_cons_of_mem _ (List.mem_append_right _ h)
set_option maxRecDepth 100000 in
theorem dX4_requireTwoStations_8 : decode cX4_requireTwoStations 8 = .ok (.iload_n 2, 1) := by decide +kernel
set_option maxRecDepth 100000 in
theorem dX4_requireTwoStations_9 : decode cX4_requireTwoStations 9 = .ok (.iconst 5, 1) := by decide +kernel
set_option maxRecDepth 100000 in
theorem dX4_requireTwoStations_10 : decode cX4_requireTwoStations 10 = .ok (.invokestatic 46, 3) := by decide +kernel
set_option maxRecDepth 100000 in
theorem dX4_requireTwoStations_13 : decode cX4_requireTwoStations 13 = .ok (.ifCond .eq 8, 3) := by decide +kernel
set_option maxRecDepth 100000 in
theorem dX4_requireTwoStations_16 : decode cX4_requireTwoStations 16 = .ok (.iload_n 1, 1) := by decide +kernel
set_option maxRecDepth 100000 in
theorem dX4_requireTwoStations_17 : decode cX4_requireTwoStations 17 = .ok (.iload_n 2, 1) := by decide +kernel
set_option maxRecDepth 100000 in
theorem dX4_requireTwoStations_18 : decode cX4_requireTwoStations 18 = .ok (.if_icmp .ne 13, 3) := by decide +kernel
set_option maxRecDepth 100000 in
theorem dX4_requireTwoStations_31 : decode cX4_requireTwoStations 31 = .ok (.return_, 1) := by decide +kernel
set_option maxRecDepth 100000 in
theorem dX3_isPreparedFor_0 : decode cX3_isPreparedFor 0 = .ok (.aload_n 0, 1) := by decide +kernel
set_option maxRecDepth 100000 in
theorem dX3_isPreparedFor_1 : decode cX3_isPreparedFor 1 = .ok (.invokevirtual 39, 3) := by decide +kernel
set_option maxRecDepth 20000 in
theorem ggX3_isPreparedFor_X3_isInDoubt : GoodIn wsX3_isPreparedFor wsX3_isInDoubt := goodIn_r _ [6, 7, 8, 9, 10, 11, 12, 13, 14, 15] (by decide +kernel) (by decide +kernel)
set_option maxRecDepth 20000 in
theorem gX3_isPreparedFor_X3_isInDoubt : GoodIn wsX3_isPreparedFor (wsV RX3 39 RX3 yX3_isInDoubt wsX3_isInDoubt) := goodIn_app (goodIn_of _ (by decide +kernel)) ggX3_isPreparedFor_X3_isInDoubt
set_option maxRecDepth 100000 in
theorem dX3_isPreparedFor_4 : decode cX3_isPreparedFor 4 = .ok (.ifCond .eq 15, 3) := by decide +kernel
set_option maxRecDepth 100000 in
theorem dX3_isPreparedFor_19 : decode cX3_isPreparedFor 19 = .ok (.iconst 0, 1) := by decide +kernel
set_option maxRecDepth 100000 in
theorem dX3_isPreparedFor_20 : decode cX3_isPreparedFor 20 = .ok (.ireturn, 1) := by decide +kernel
set_option maxRecDepth 100000 in
theorem dX3_isPreparedFor_7 : decode cX3_isPreparedFor 7 = .ok (.aload_n 0, 1) := by decide +kernel
set_option maxRecDepth 100000 in
theorem dX3_isPreparedFor_8 : decode cX3_isPreparedFor 8 = .ok (.getfield 19, 3) := by decide +kernel
set_option maxRecDepth 100000 in
theorem in_X3_isPreparedFor_X3 : ∀ w ∈ wsX30, w ∈ wsX3_isPreparedFor := fun _ h => List.mem_cons_of_mem _ (List.mem_append_right _ h)
set_option maxRecDepth 100000 in
theorem dX3_isPreparedFor_11 : decode cX3_isPreparedFor 11 = .ok (.iload_n 1, 1) := by decide +kernel
set_option maxRecDepth 100000 in
theorem dX3_isPreparedFor_12 : decode cX3_isPreparedFor 12 = .ok (.if_icmp .ne 7, 3) := by decide +kernel
set_option maxRecDepth 100000 in
theorem dX3_isPreparedFor_15 : decode cX3_isPreparedFor 15 = .ok (.iconst 1, 1) := by decide +kernel
set_option maxRecDepth 100000 in
theorem dX3_isPreparedFor_16 : decode cX3_isPreparedFor 16 = .ok (.goto 4, 3) := by decide +kernel
set_option maxRecDepth 100000 in
theorem dX3_hasEndedWrite_0 : decode cX3_hasEndedWrite 0 = .ok (.iload_n 1, 1) := by decide +kernel
set_option maxRecDepth 100000 in
theorem dX3_hasEndedWrite_1 : decode cX3_hasEndedWrite 1 = .ok (.iconst 5, 1) := by decide +kernel
set_option maxRecDepth 100000 in
theorem dX3_hasEndedWrite_2 : decode cX3_hasEndedWrite 2 = .ok (.irem, 1) := by decide +kernel
set_option maxRecDepth 100000 in
theorem dX3_hasEndedWrite_3 : decode cX3_hasEndedWrite 3 = .ok (.aload_n 0, 1) := by decide +kernel
set_option maxRecDepth 100000 in
theorem dX3_hasEndedWrite_4 : decode cX3_hasEndedWrite 4 = .ok (.getfield 33, 3) := by decide +kernel
set_option maxRecDepth 100000 in
theorem in_X3_hasEndedWrite_X3 : ∀ w ∈ wsX30, w ∈ wsX3_hasEndedWrite := fun _ h => List.mem_cons_of_mem _ (List.mem_append_left _ (List.mem_append_right _ h))
set_option maxRecDepth 100000 in
theorem dX3_hasEndedWrite_7 : decode cX3_hasEndedWrite 7 = .ok (.if_icmp .ne 25, 3) := by decide +kernel
set_option maxRecDepth 100000 in
theorem dX3_hasEndedWrite_32 : decode cX3_hasEndedWrite 32 = .ok (.iconst 0, 1) := by decide +kernel
set_option maxRecDepth 100000 in
theorem dX3_hasEndedWrite_33 : decode cX3_hasEndedWrite 33 = .ok (.ireturn, 1) := by decide +kernel
set_option maxRecDepth 100000 in
theorem dX3_hasEndedWrite_10 : decode cX3_hasEndedWrite 10 = .ok (.aload_n 0, 1) := by decide +kernel
set_option maxRecDepth 100000 in
theorem dX3_hasEndedWrite_11 : decode cX3_hasEndedWrite 11 = .ok (.getfield 29, 3) := by decide +kernel
set_option maxRecDepth 100000 in
theorem dX3_hasEndedWrite_14 : decode cX3_hasEndedWrite 14 = .ok (.ifnull 14, 3) := by decide +kernel
set_option maxRecDepth 100000 in
theorem dX3_hasEndedWrite_28 : decode cX3_hasEndedWrite 28 = .ok (.iconst 1, 1) := by decide +kernel
set_option maxRecDepth 100000 in
theorem dX3_hasEndedWrite_29 : decode cX3_hasEndedWrite 29 = .ok (.goto 4, 3) := by decide +kernel
set_option maxRecDepth 100000 in
theorem dX3_hasEndedWrite_17 : decode cX3_hasEndedWrite 17 = .ok (.aload_n 0, 1) := by decide +kernel
set_option maxRecDepth 100000 in
theorem dX3_hasEndedWrite_18 : decode cX3_hasEndedWrite 18 = .ok (.getfield 29, 3) := by decide +kernel
set_option maxRecDepth 100000 in
theorem dX3_hasEndedWrite_21 : decode cX3_hasEndedWrite 21 = .ok (.getfield 43, 3) := by decide +kernel
set_option maxRecDepth 100000 in
theorem in_X3_hasEndedWrite_X1 : ∀ w ∈ wsX10, w ∈ wsX3_hasEndedWrite := fun _ h => List.mem_cons_of_mem _ (List.mem_append_right _ h)
set_option maxRecDepth 100000 in
theorem dX3_hasEndedWrite_24 : decode cX3_hasEndedWrite 24 = .ok (.iload_n 1, 1) := by decide +kernel
set_option maxRecDepth 100000 in
theorem dX3_hasEndedWrite_25 : decode cX3_hasEndedWrite 25 = .ok (.if_icmp .eq 7, 3) := by decide +kernel
set_option maxRecDepth 100000 in
theorem dX1_awaits_0 : decode cX1_awaits 0 = .ok (.aload_n 0, 1) := by decide +kernel
set_option maxRecDepth 100000 in
theorem dX1_awaits_1 : decode cX1_awaits 1 = .ok (.invokevirtual 32, 3) := by decide +kernel
set_option maxRecDepth 20000 in
theorem ggX1_awaits_X1_isCollecting : GoodIn wsX1_awaits wsX1_isCollecting := goodIn_r _ [7, 8, 13, 14, 15, 16, 17] (by decide +kernel) (by decide +kernel)
set_option maxRecDepth 20000 in
theorem gX1_awaits_X1_isCollecting : GoodIn wsX1_awaits (wsV RX1 32 RX1 yX1_isCollecting wsX1_isCollecting) := goodIn_app (goodIn_of _ (by decide +kernel)) ggX1_awaits_X1_isCollecting
set_option maxRecDepth 100000 in
theorem dX1_awaits_4 : decode cX1_awaits 4 = .ok (.ifCond .eq 20, 3) := by decide +kernel
set_option maxRecDepth 100000 in
theorem dX1_awaits_24 : decode cX1_awaits 24 = .ok (.aload_n 0, 1) := by decide +kernel
set_option maxRecDepth 100000 in
theorem dX1_awaits_25 : decode cX1_awaits 25 = .ok (.iload_n 1, 1) := by decide +kernel
set_option maxRecDepth 100000 in
theorem dX1_awaits_26 : decode cX1_awaits 26 = .ok (.invokevirtual 36, 3) := by decide +kernel
set_option maxRecDepth 20000 in
theorem ggX1_awaits_X1_isOfGroup : GoodIn wsX1_awaits wsX1_isOfGroup := goodIn_r _ [12, 1, 13, 14, 15, 16, 17] (by decide +kernel) (by decide +kernel)
set_option maxRecDepth 20000 in
theorem gX1_awaits_X1_isOfGroup : GoodIn wsX1_awaits (wsV RX1 36 RX1 yX1_isOfGroup wsX1_isOfGroup) := goodIn_app (goodIn_of _ (by decide +kernel)) ggX1_awaits_X1_isOfGroup
set_option maxRecDepth 100000 in
theorem dX1_awaits_29 : decode cX1_awaits 29 = .ok (.ifCond .eq 16, 3) := by decide +kernel
set_option maxRecDepth 100000 in
theorem dX1_awaits_45 : decode cX1_awaits 45 = .ok (.iconst 0, 1) := by decide +kernel
set_option maxRecDepth 100000 in
theorem dX1_awaits_46 : decode cX1_awaits 46 = .ok (.ireturn, 1) := by decide +kernel
set_option maxRecDepth 100000 in
theorem dX1_awaits_32 : decode cX1_awaits 32 = .ok (.aload_n 0, 1) := by decide +kernel
set_option maxRecDepth 100000 in
theorem dX1_awaits_33 : decode cX1_awaits 33 = .ok (.getfield 17, 3) := by decide +kernel
set_option maxRecDepth 100000 in
theorem in_X1_awaits_X1 : ∀ w ∈ wsX10, w ∈ wsX1_awaits := fun _ h => List.mem_cons_of_mem _ (List.mem_append_right _ h)
set_option maxRecDepth 100000 in
theorem dX1_awaits_36 : decode cX1_awaits 36 = .ok (.iload_n 1, 1) := by decide +kernel
set_option maxRecDepth 100000 in
theorem dX1_awaits_37 : decode cX1_awaits 37 = .ok (.baload, 1) := by decide +kernel
set_option maxRecDepth 100000 in
theorem dX1_awaits_38 : decode cX1_awaits 38 = .ok (.ifCond .ne 7, 3) := by decide +kernel
set_option maxRecDepth 100000 in
theorem dX1_awaits_41 : decode cX1_awaits 41 = .ok (.iconst 1, 1) := by decide +kernel
set_option maxRecDepth 100000 in
theorem dX1_awaits_42 : decode cX1_awaits 42 = .ok (.goto 4, 3) := by decide +kernel
set_option maxRecDepth 100000 in
theorem dX1_awaits_7 : decode cX1_awaits 7 = .ok (.aload_n 0, 1) := by decide +kernel
set_option maxRecDepth 100000 in
theorem dX1_awaits_8 : decode cX1_awaits 8 = .ok (.getfield 11, 3) := by decide +kernel
set_option maxRecDepth 100000 in
theorem dX1_awaits_11 : decode cX1_awaits 11 = .ok (.iload_n 1, 1) := by decide +kernel
set_option maxRecDepth 100000 in
theorem dX1_awaits_12 : decode cX1_awaits 12 = .ok (.aaload, 1) := by decide +kernel
set_option maxRecDepth 100000 in
theorem dX1_awaits_13 : decode cX1_awaits 13 = .ok (.ifnonnull 7, 3) := by decide +kernel
set_option maxRecDepth 100000 in
theorem dX1_awaits_16 : decode cX1_awaits 16 = .ok (.iconst 1, 1) := by decide +kernel
set_option maxRecDepth 100000 in
theorem dX1_awaits_17 : decode cX1_awaits 17 = .ok (.goto 29, 3) := by decide +kernel
set_option maxRecDepth 100000 in
theorem dX1_awaits_20 : decode cX1_awaits 20 = .ok (.iconst 0, 1) := by decide +kernel
set_option maxRecDepth 100000 in
theorem dX1_awaits_21 : decode cX1_awaits 21 = .ok (.goto 25, 3) := by decide +kernel
set_option maxRecDepth 100000 in
theorem dX2_hasNoticeAt_0 : decode cX2_hasNoticeAt 0 = .ok (.iload_n 1, 1) := by decide +kernel
set_option maxRecDepth 100000 in
theorem dX2_hasNoticeAt_1 : decode cX2_hasNoticeAt 1 = .ok (.aload_n 0, 1) := by decide +kernel
set_option maxRecDepth 100000 in
theorem dX2_hasNoticeAt_2 : decode cX2_hasNoticeAt 2 = .ok (.getfield 7, 3) := by decide +kernel
set_option maxRecDepth 100000 in
theorem in_X2_hasNoticeAt_X2 : ∀ w ∈ wsX20, w ∈ wsX2_hasNoticeAt := fun _ h => List.mem_cons_of_mem _ (List.mem_append_right _ h)
set_option maxRecDepth 100000 in
theorem dX2_hasNoticeAt_5 : decode cX2_hasNoticeAt 5 = .ok (.arraylength, 1) := by decide +kernel
set_option maxRecDepth 100000 in
theorem dX2_hasNoticeAt_6 : decode cX2_hasNoticeAt 6 = .ok (.invokestatic 23, 3) := by decide +kernel
set_option maxRecDepth 20000 in
theorem ggX2_hasNoticeAt_X4_isBelow : GoodIn wsX2_hasNoticeAt wsX4_isBelow := goodIn_r _ [4] (by decide +kernel) (by decide +kernel)
set_option maxRecDepth 20000 in
theorem gX2_hasNoticeAt_X4_isBelow_n23 : GoodIn wsX2_hasNoticeAt (wsX4_isBelow) := ggX2_hasNoticeAt_X4_isBelow
set_option maxRecDepth 100000 in
theorem dX2_hasNoticeAt_9 : decode cX2_hasNoticeAt 9 = .ok (.ifCond .eq 16, 3) := by decide +kernel
set_option maxRecDepth 100000 in
theorem dX2_hasNoticeAt_25 : decode cX2_hasNoticeAt 25 = .ok (.iconst 0, 1) := by decide +kernel
set_option maxRecDepth 100000 in
theorem dX2_hasNoticeAt_26 : decode cX2_hasNoticeAt 26 = .ok (.ireturn, 1) := by decide +kernel
set_option maxRecDepth 100000 in
theorem dX2_hasNoticeAt_12 : decode cX2_hasNoticeAt 12 = .ok (.aload_n 0, 1) := by decide +kernel
set_option maxRecDepth 100000 in
theorem dX2_hasNoticeAt_13 : decode cX2_hasNoticeAt 13 = .ok (.getfield 7, 3) := by decide +kernel
set_option maxRecDepth 100000 in
theorem dX2_hasNoticeAt_16 : decode cX2_hasNoticeAt 16 = .ok (.iload_n 1, 1) := by decide +kernel
set_option maxRecDepth 100000 in
theorem dX2_hasNoticeAt_17 : decode cX2_hasNoticeAt 17 = .ok (.iaload, 1) := by decide +kernel
set_option maxRecDepth 100000 in
theorem dX2_hasNoticeAt_18 : decode cX2_hasNoticeAt 18 = .ok (.ifCond .lt 7, 3) := by decide +kernel
set_option maxRecDepth 100000 in
theorem dX2_hasNoticeAt_21 : decode cX2_hasNoticeAt 21 = .ok (.iconst 1, 1) := by decide +kernel
set_option maxRecDepth 100000 in
theorem dX2_hasNoticeAt_22 : decode cX2_hasNoticeAt 22 = .ok (.goto 4, 3) := by decide +kernel
set_option maxRecDepth 100000 in
theorem dX4_withdrawalOf_0 : decode cX4_withdrawalOf 0 = .ok (.iconst (-1), 1) := by decide +kernel
set_option maxRecDepth 100000 in
theorem dX4_withdrawalOf_1 : decode cX4_withdrawalOf 1 = .ok (.iload_n 0, 1) := by decide +kernel
set_option maxRecDepth 100000 in
theorem dX4_withdrawalOf_2 : decode cX4_withdrawalOf 2 = .ok (.isub, 1) := by decide +kernel
set_option maxRecDepth 100000 in
theorem dX4_withdrawalOf_3 : decode cX4_withdrawalOf 3 = .ok (.ireturn, 1) := by decide +kernel
set_option maxRecDepth 100000 in
theorem dX4_isOn_0 : decode cX4_isOn 0 = .ok (.iload_n 0, 1) := by decide +kernel
set_option maxRecDepth 100000 in
theorem dX4_isOn_1 : decode cX4_isOn 1 = .ok (.iconst 4, 1) := by decide +kernel
set_option maxRecDepth 100000 in
theorem dX4_isOn_2 : decode cX4_isOn 2 = .ok (.idiv, 1) := by decide +kernel
set_option maxRecDepth 100000 in
theorem dX4_isOn_3 : decode cX4_isOn 3 = .ok (.bipush 100, 2) := by decide +kernel
set_option maxRecDepth 100000 in
theorem dX4_isOn_5 : decode cX4_isOn 5 = .ok (.irem, 1) := by decide +kernel
set_option maxRecDepth 100000 in
theorem dX4_isOn_6 : decode cX4_isOn 6 = .ok (.istore_n 3, 1) := by decide +kernel
set_option maxRecDepth 100000 in
theorem dX4_isOn_7 : decode cX4_isOn 7 = .ok (.iload_n 0, 1) := by decide +kernel
set_option maxRecDepth 100000 in
theorem dX4_isOn_8 : decode cX4_isOn 8 = .ok (.sipush 400, 3) := by decide +kernel
set_option maxRecDepth 100000 in
theorem dX4_isOn_11 : decode cX4_isOn 11 = .ok (.idiv, 1) := by decide +kernel
set_option maxRecDepth 100000 in
theorem dX4_isOn_12 : decode cX4_isOn 12 = .ok (.istore 4, 2) := by decide +kernel
set_option maxRecDepth 100000 in
theorem dX4_isOn_14 : decode cX4_isOn 14 = .ok (.iload_n 0, 1) := by decide +kernel
set_option maxRecDepth 100000 in
theorem dX4_isOn_15 : decode cX4_isOn 15 = .ok (.iconst 4, 1) := by decide +kernel
set_option maxRecDepth 100000 in
theorem dX4_isOn_16 : decode cX4_isOn 16 = .ok (.irem, 1) := by decide +kernel
set_option maxRecDepth 100000 in
theorem dX4_isOn_17 : decode cX4_isOn 17 = .ok (.iload_n 1, 1) := by decide +kernel
set_option maxRecDepth 100000 in
theorem dX4_isOn_18 : decode cX4_isOn 18 = .ok (.if_icmp .ne 18, 3) := by decide +kernel
set_option maxRecDepth 100000 in
theorem dX4_isOn_36 : decode cX4_isOn 36 = .ok (.iconst 0, 1) := by decide +kernel
set_option maxRecDepth 100000 in
theorem dX4_isOn_37 : decode cX4_isOn 37 = .ok (.ireturn, 1) := by decide +kernel
set_option maxRecDepth 100000 in
theorem dX4_isOn_21 : decode cX4_isOn 21 = .ok (.iload_n 3, 1) := by decide +kernel
set_option maxRecDepth 100000 in
theorem dX4_isOn_22 : decode cX4_isOn 22 = .ok (.iload_n 2, 1) := by decide +kernel
set_option maxRecDepth 100000 in
theorem dX4_isOn_23 : decode cX4_isOn 23 = .ok (.if_icmp .gt 13, 3) := by decide +kernel
set_option maxRecDepth 100000 in
theorem dX4_isOn_26 : decode cX4_isOn 26 = .ok (.iload_n 2, 1) := by decide +kernel
set_option maxRecDepth 100000 in
theorem dX4_isOn_27 : decode cX4_isOn 27 = .ok (.iload 4, 2) := by decide +kernel
set_option maxRecDepth 100000 in
theorem dX4_isOn_29 : decode cX4_isOn 29 = .ok (.if_icmp .gt 7, 3) := by decide +kernel
set_option maxRecDepth 100000 in
theorem dX4_isOn_32 : decode cX4_isOn 32 = .ok (.iconst 1, 1) := by decide +kernel
set_option maxRecDepth 100000 in
theorem dX4_isOn_33 : decode cX4_isOn 33 = .ok (.goto 4, 3) := by decide +kernel
set_option maxRecDepth 100000 in
theorem dX4_openWriteFor_0 : decode cX4_openWriteFor 0 = .ok (.aload_n 1, 1) := by decide +kernel
set_option maxRecDepth 100000 in
theorem dX4_openWriteFor_1 : decode cX4_openWriteFor 1 = .ok (.getfield 81, 3) := by decide +kernel
set_option maxRecDepth 100000 in
theorem in_X4_openWriteFor_X3 : ∀ w ∈ wsX30, w ∈ wsX4_openWriteFor := fun _ h => List.mem_cons_of_mem _ (List.mem_append_left _ (List.mem_append_left _ (List.mem_append_right _ h)))
set_option maxRecDepth 100000 in
theorem dX4_openWriteFor_4 : decode cX4_openWriteFor 4 = .ok (.astore_n 2, 1) := by decide +kernel
set_option maxRecDepth 100000 in
theorem dX4_openWriteFor_5 : decode cX4_openWriteFor 5 = .ok (.aload_n 2, 1) := by decide +kernel
set_option maxRecDepth 100000 in
theorem dX4_openWriteFor_6 : decode cX4_openWriteFor 6 = .ok (.ifnull 18, 3) := by decide +kernel
set_option maxRecDepth 100000 in
theorem dX4_openWriteFor_24 : decode cX4_openWriteFor 24 = .ok (.aconst_null, 1) := by decide +kernel
set_option maxRecDepth 100000 in
theorem dX4_openWriteFor_25 : decode cX4_openWriteFor 25 = .ok (.areturn, 1) := by decide +kernel
set_option maxRecDepth 100000 in
theorem dX4_openWriteFor_9 : decode cX4_openWriteFor 9 = .ok (.aload_n 2, 1) := by decide +kernel
set_option maxRecDepth 100000 in
theorem dX4_openWriteFor_10 : decode cX4_openWriteFor 10 = .ok (.getfield 145, 3) := by decide +kernel
set_option maxRecDepth 100000 in
theorem in_X4_openWriteFor_X1 : ∀ w ∈ wsX10, w ∈ wsX4_openWriteFor := fun _ h => List.mem_cons_of_mem _ (List.mem_append_left _ (List.mem_append_right _ h))
set_option maxRecDepth 100000 in
theorem dX4_openWriteFor_13 : decode cX4_openWriteFor 13 = .ok (.aload_n 0, 1) := by decide +kernel
set_option maxRecDepth 100000 in
theorem dX4_openWriteFor_14 : decode cX4_openWriteFor 14 = .ok (.getfield 217, 3) := by decide +kernel
set_option maxRecDepth 100000 in
theorem in_X4_openWriteFor_X0 : ∀ w ∈ wsX00, w ∈ wsX4_openWriteFor := fun _ h => List.mem_cons_of_mem _ (List.mem_append_right _ h)
set_option maxRecDepth 100000 in
theorem dX4_openWriteFor_17 : decode cX4_openWriteFor 17 = .ok (.if_icmp .ne 7, 3) := by decide +kernel
set_option maxRecDepth 100000 in
theorem dX4_openWriteFor_20 : decode cX4_openWriteFor 20 = .ok (.aload_n 2, 1) := by decide +kernel
set_option maxRecDepth 100000 in
theorem dX4_openWriteFor_21 : decode cX4_openWriteFor 21 = .ok (.goto 4, 3) := by decide +kernel
set_option maxRecDepth 100000 in
theorem dX4_openWriteOf_0 : decode cX4_openWriteOf 0 = .ok (.aload_n 1, 1) := by decide +kernel
set_option maxRecDepth 100000 in
theorem dX4_openWriteOf_1 : decode cX4_openWriteOf 1 = .ok (.getfield 81, 3) := by decide +kernel
set_option maxRecDepth 100000 in
theorem in_X4_openWriteOf_X3 : ∀ w ∈ wsX30, w ∈ wsX4_openWriteOf := fun _ h => List.mem_cons_of_mem _ (List.mem_append_left _ (List.mem_append_right _ h))
set_option maxRecDepth 100000 in
theorem dX4_openWriteOf_4 : decode cX4_openWriteOf 4 = .ok (.astore_n 2, 1) := by decide +kernel
set_option maxRecDepth 100000 in
theorem dX4_openWriteOf_5 : decode cX4_openWriteOf 5 = .ok (.aload_n 2, 1) := by decide +kernel
set_option maxRecDepth 100000 in
theorem dX4_openWriteOf_6 : decode cX4_openWriteOf 6 = .ok (.ifnonnull 14, 3) := by decide +kernel
set_option maxRecDepth 100000 in
theorem dX4_openWriteOf_9 : decode cX4_openWriteOf 9 = .ok (.new 91, 3) := by decide +kernel
set_option maxRecDepth 100000 in
theorem dX4_openWriteOf_12 : decode cX4_openWriteOf 12 = .ok (.dup, 1) := by decide +kernel
set_option maxRecDepth 100000 in
theorem dX4_openWriteOf_13 : decode cX4_openWriteOf 13 = .ok (.ldc_w 259, 3) := by decide +kernel
set_option maxRecDepth 100000 in
theorem dX4_openWriteOf_16 : decode cX4_openWriteOf 16 = .ok (.invokespecial 95, 3) := by decide +kernel
set_option maxRecDepth 100000 in
theorem dX4_openWriteOf_19 : decode cX4_openWriteOf 19 = .ok (.athrow, 1) := by decide +kernel
set_option maxRecDepth 100000 in
theorem th_X4_openWriteOf_ISE : ∀ w ∈ (vx_atS RX4 95 "java/lang/IllegalStateException" ["java/lang/RuntimeException", "java/lang/Exception"]).filter goodWord, w ∈ wsX4_openWriteOf := fun _ h => List.mem_cons_of_mem _ (List.mem_append_right _ h)
set_option maxRecDepth 100000 in
theorem dX4_openWriteOf_20 : decode cX4_openWriteOf 20 = .ok (.aload_n 2, 1) := by decide +kernel
set_option maxRecDepth 100000 in
theorem dX4_openWriteOf_21 : decode cX4_openWriteOf 21 = .ok (.areturn, 1) := by decide +kernel
set_option maxRecDepth 100000 in
theorem dJx4a65c_size_8abf5_0 : decode cJx4a65c_size_8abf5 0 = .ok (.aload_n 0, 1) := by decide +kernel
set_option maxRecDepth 100000 in
theorem dJx4a65c_size_8abf5_1 : decode cJx4a65c_size_8abf5 1 = .ok (.getfield 48, 3) := by decide +kernel
set_option maxRecDepth 100000 in
theorem in_Jx4a65c_size_8abf5_Jx4a65c : ∀ w ∈ wsJx4a65c0, w ∈ wsJx4a65c_size_8abf5 := fun _ h => List.mem_cons_of_mem _ (List.mem_append_right _ h)
set_option maxRecDepth 100000 in
theorem dJx4a65c_size_8abf5_4 : decode cJx4a65c_size_8abf5 4 = .ok (.ireturn, 1) := by decide +kernel
set_option maxRecDepth 100000 in
theorem dX4_requireRoomFor_0 : decode cX4_requireRoomFor 0 = .ok (.aload_n 0, 1) := by decide +kernel
set_option maxRecDepth 100000 in
theorem dX4_requireRoomFor_1 : decode cX4_requireRoomFor 1 = .ok (.getfield 22, 3) := by decide +kernel
set_option maxRecDepth 100000 in
theorem in_X4_requireRoomFor_X4 : ∀ w ∈ wsX40, w ∈ wsX4_requireRoomFor := fun _ h => List.mem_cons_of_mem _ (List.mem_append_left _ (List.mem_append_left _ (List.mem_append_right _ h)))
set_option maxRecDepth 100000 in
theorem dX4_requireRoomFor_4 : decode cX4_requireRoomFor 4 = .ok (.invokevirtual 175, 3) := by decide +kernel
set_option maxRecDepth 20000 in
theorem ggX4_requireRoomFor_Jx4a65c_size_8abf5 : GoodIn wsX4_requireRoomFor wsJx4a65c_size_8abf5 := goodIn_r _ [8, 9, 14, 15, 16] (by decide +kernel) (by decide +kernel)
set_option maxRecDepth 20000 in
theorem gX4_requireRoomFor_Jx4a65c_size_8abf5 : GoodIn wsX4_requireRoomFor (wsV RX4 175 RJx4a65c yJx4a65c_size_8abf5 wsJx4a65c_size_8abf5) := goodIn_app (goodIn_of _ (by decide +kernel)) ggX4_requireRoomFor_Jx4a65c_size_8abf5
set_option maxRecDepth 100000 in
theorem dX4_requireRoomFor_7 : decode cX4_requireRoomFor 7 = .ok (.iload_n 1, 1) := by decide +kernel
set_option maxRecDepth 100000 in
theorem dX4_requireRoomFor_8 : decode cX4_requireRoomFor 8 = .ok (.iadd, 1) := by decide +kernel
set_option maxRecDepth 100000 in
theorem dX4_requireRoomFor_9 : decode cX4_requireRoomFor 9 = .ok (.bipush 40, 2) := by decide +kernel
set_option maxRecDepth 100000 in
theorem dX4_requireRoomFor_11 : decode cX4_requireRoomFor 11 = .ok (.if_icmp .le 14, 3) := by decide +kernel
set_option maxRecDepth 100000 in
theorem dX4_requireRoomFor_25 : decode cX4_requireRoomFor 25 = .ok (.return_, 1) := by decide +kernel
set_option maxRecDepth 100000 in
theorem dX4_requireRoomFor_14 : decode cX4_requireRoomFor 14 = .ok (.new 111, 3) := by decide +kernel
set_option maxRecDepth 100000 in
theorem dX4_requireRoomFor_17 : decode cX4_requireRoomFor 17 = .ok (.dup, 1) := by decide +kernel
set_option maxRecDepth 100000 in
theorem dX4_requireRoomFor_18 : decode cX4_requireRoomFor 18 = .ok (.ldc_w 261, 3) := by decide +kernel
set_option maxRecDepth 100000 in
theorem dX4_requireRoomFor_21 : decode cX4_requireRoomFor 21 = .ok (.invokespecial 115, 3) := by decide +kernel
set_option maxRecDepth 100000 in
theorem dX4_requireRoomFor_24 : decode cX4_requireRoomFor 24 = .ok (.athrow, 1) := by decide +kernel
set_option maxRecDepth 100000 in
theorem th_X4_requireRoomFor_UOE : ∀ w ∈ (vx_atS RX4 115 "java/lang/UnsupportedOperationException" ["java/lang/RuntimeException", "java/lang/Exception"]).filter goodWord, w ∈ wsX4_requireRoomFor := fun _ h => List.mem_cons_of_mem _ (List.mem_append_right _ h)
set_option maxRecDepth 100000 in
theorem dX4_requireLetter_0 : decode cX4_requireLetter 0 = .ok (.iload_n 1, 1) := by decide +kernel
set_option maxRecDepth 100000 in
theorem dX4_requireLetter_1 : decode cX4_requireLetter 1 = .ok (.aload_n 0, 1) := by decide +kernel
set_option maxRecDepth 100000 in
theorem dX4_requireLetter_2 : decode cX4_requireLetter 2 = .ok (.getfield 22, 3) := by decide +kernel
set_option maxRecDepth 100000 in
theorem in_X4_requireLetter_X4 : ∀ w ∈ wsX40, w ∈ wsX4_requireLetter := fun _ h => List.mem_cons_of_mem _ (List.mem_append_left _ (List.mem_append_left _ (List.mem_append_right _ h)))
set_option maxRecDepth 100000 in
theorem dX4_requireLetter_5 : decode cX4_requireLetter 5 = .ok (.invokevirtual 175, 3) := by decide +kernel
set_option maxRecDepth 20000 in
theorem ggX4_requireLetter_Jx4a65c_size_8abf5 : GoodIn wsX4_requireLetter wsJx4a65c_size_8abf5 := goodIn_r _ [8, 9, 18, 19, 20] (by decide +kernel) (by decide +kernel)
set_option maxRecDepth 20000 in
theorem gX4_requireLetter_Jx4a65c_size_8abf5 : GoodIn wsX4_requireLetter (wsV RX4 175 RJx4a65c yJx4a65c_size_8abf5 wsJx4a65c_size_8abf5) := goodIn_app (goodIn_of _ (by decide +kernel)) ggX4_requireLetter_Jx4a65c_size_8abf5
set_option maxRecDepth 100000 in
theorem dX4_requireLetter_8 : decode cX4_requireLetter 8 = .ok (.invokestatic 46, 3) := by decide +kernel
set_option maxRecDepth 20000 in
theorem ggX4_requireLetter_X4_isBelow : GoodIn wsX4_requireLetter wsX4_isBelow := goodIn_r _ [13] (by decide +kernel) (by decide +kernel)
set_option maxRecDepth 20000 in
theorem gX4_requireLetter_X4_isBelow : GoodIn wsX4_requireLetter (va_wsS RX4 46 yX4_isBelow wsX4_isBelow) := goodIn_app (goodIn_of _ (by decide +kernel)) ggX4_requireLetter_X4_isBelow
set_option maxRecDepth 100000 in
theorem dX4_requireLetter_11 : decode cX4_requireLetter 11 = .ok (.ifCond .ne 13, 3) := by decide +kernel
set_option maxRecDepth 100000 in
theorem dX4_requireLetter_24 : decode cX4_requireLetter 24 = .ok (.return_, 1) := by decide +kernel
set_option maxRecDepth 100000 in
theorem dX4_requireLetter_14 : decode cX4_requireLetter 14 = .ok (.new 247, 3) := by decide +kernel
set_option maxRecDepth 100000 in
theorem dX4_requireLetter_17 : decode cX4_requireLetter 17 = .ok (.dup, 1) := by decide +kernel
set_option maxRecDepth 100000 in
theorem dX4_requireLetter_18 : decode cX4_requireLetter 18 = .ok (.ldc 254, 2) := by decide +kernel
set_option maxRecDepth 100000 in
theorem dX4_requireLetter_20 : decode cX4_requireLetter 20 = .ok (.invokespecial 251, 3) := by decide +kernel
set_option maxRecDepth 100000 in
theorem dX4_requireLetter_23 : decode cX4_requireLetter 23 = .ok (.athrow, 1) := by decide +kernel
set_option maxRecDepth 100000 in
theorem th_X4_requireLetter_IOOBE : ∀ w ∈ (vx_atS RX4 251 "java/lang/IndexOutOfBoundsException" ["java/lang/RuntimeException", "java/lang/Exception"]).filter goodWord, w ∈ wsX4_requireLetter := fun _ h => List.mem_cons_of_mem _ (List.mem_append_right _ h)
set_option maxRecDepth 100000 in
theorem dJx4a65c_elementData_915e3_0 : decode cJx4a65c_elementData_915e3 0 = .ok (.aload_n 0, 1) := by decide +kernel
set_option maxRecDepth 100000 in
theorem dJx4a65c_elementData_915e3_1 : decode cJx4a65c_elementData_915e3 1 = .ok (.getfield 9, 3) := by decide +kernel
set_option maxRecDepth 100000 in
theorem in_Jx4a65c_elementData_915e3_Jx4a65c : ∀ w ∈ wsJx4a65c0, w ∈ wsJx4a65c_elementData_915e3 := fun _ h => List.mem_cons_of_mem _ (List.mem_append_right _ h)
set_option maxRecDepth 100000 in
theorem dJx4a65c_elementData_915e3_4 : decode cJx4a65c_elementData_915e3 4 = .ok (.iload_n 1, 1) := by decide +kernel
set_option maxRecDepth 100000 in
theorem dJx4a65c_elementData_915e3_5 : decode cJx4a65c_elementData_915e3 5 = .ok (.aaload, 1) := by decide +kernel
set_option maxRecDepth 100000 in
theorem dJx4a65c_elementData_915e3_6 : decode cJx4a65c_elementData_915e3 6 = .ok (.areturn, 1) := by decide +kernel
set_option maxHeartbeats 4000000 in
set_option maxRecDepth 100000 in
theorem c_X4_requireTwoStations (l : Launch) (hlt : l.stackTraces = false) (D : va_G) (tC : Nat → ClassId) (dz sz : Nat) (pl : va_W) (t : Nat → Nat × Nat) (ad : Nat → Nat) (ed : Nat) (cb up : Nat → Int32) (rs cp : Nat) (hO : Ok tC dz t ad ed cb up rs cp pl) (p0 : Int32) (p1 : Int32)  : vx_Met l yX4_requireTwoStations wsX4_requireTwoStations ({ frames := 6, cells := 1, slots := 6, locals := 82 }) (va_Pc [.ref (ad 0), .int p0, .int p1] (pB D tC dz pl sz)) (va_Qv (fun (_ : Unit) => ∃ j k : Nat, j < 5 ∧ k < 5 ∧ p0 = nI j ∧ p1 = nI k ∧ j ≠ k) (fun (_ : Unit) _ => True) (xN sz)) (xX (fun E => E = "java/lang/IndexOutOfBoundsException" ∧ ((p0 < 0 ∨ 5 ≤ p0) ∨ (p1 < 0 ∨ 5 ≤ p1) ∨ p0 = p1)) (xN sz)) 1 6 (xN sz) := by
  refine vx_ofW (cc := cX4_requireTwoStations) (maxL := 3) (ret := none) (by decide) rfl ?_
  intro p e s m args below meth c s₁ B hml hnx hv
  obtain ⟨rfl, hsz, hP, hK, hD0, hN, hE⟩ := hv
  have hx := B.exec
  have hb := B.bytes
  have hr := B.returns
  have hts := atoms_spec (ws := wsX4_requireTwoStations) B.pre
  have hown : s.vm.findClass RX4 = some m.cls := findClass_of_methodNamed B.named
  have hlocks := B.notSynchronized
  subst hsz
  have hD := hD0.self (sz := s.heap.size)
  have hAm : ∀ q : Nat, xN s.heap.size q → va_A pl s.heap.size q := xN_A
  have hN0 : ∀ q : Nat, s.heap.size ≤ q → xN s.heap.size q := fun _ h => h
  have hE0 := eH_narrow hE hAm
  generalize va_A pl s.heap.size = A at hD hE hAm
  have hA : ∀ q : Nat, s.heap.size ≤ q → A q := fun q h => hAm q h
  have hS : va_S (xN s.heap.size) s.heap s.heap [] := va_S.rf
  have hl := lv_entry ([.ref (ad 0), .int p0, .int p1]) (n := 3) (Nat.le_of_ble_eq_true rfl)
  rw [lg_entry_eq]
  generalize (lg_sl ([.ref (ad 0), .int p0, .int p1]) ++ List.replicate (3 - (lg_sl ([.ref (ad 0), .int p0, .int p1])).length) Slot.unset).toArray = ls at hl ⊢
  have hl : lv_has ls 3 [(0, .ref (ad 0)), (1, .int p0), (2, .int p1)] := hl
  have w_0 := hts (.classLink RX4 247 "java/lang/IndexOutOfBoundsException") (by decide +kernel)
  have w_1 := hts (.initialized "java/lang/IndexOutOfBoundsException") (by decide +kernel)
  refine lv_iload_n hx hb dX4_requireTwoStations_0 rfl (lv_at hl 1 rfl) ?_
  refine lv_iconst (v := 5) hx hb dX4_requireTwoStations_1 (by decide) ?_
  refine va_calli (va_runS (As := [.int p0, .int 5]) (rest := []) ⟨hx, hb, hml, hown, hts⟩ (c_X4_isBelow l hlt D tC dz s.heap.size pl t ad ed cb up rs cp hO p0 5 ) (va_cwS 2 hts gX4_requireTwoStations_X4_isBelow rfl rfl rfl (by decide +kernel) ⟨Nat.le_of_ble_eq_true rfl, Nat.le_of_ble_eq_true rfl⟩) ⟨pB_blind, pB_at hP hD hK hN hE (hS.mono hAm) (freeA hD (hS.mono hAm) hA)⟩ rfl rfl hl.1 rfl (lv_room (Nat.le_of_ble_eq_true rfl)) dX4_requireTwoStations_2 ⟨Nat.le_of_ble_eq_true rfl, Nat.le_of_ble_eq_true rfl⟩) hS oldN (freeN hS hN0) (fun r_1 u t9 H1 locs ht hvm hw hB hz1 hk1 hS => ?_)
  have hw_2 := hw
  have hP := keepP hP hk1
  generalize H1 = H at hP hS ⊢
  refine lv_if_eq (tgt := 21) hx hb dX4_requireTwoStations_5 (by decide) (fun c_3 => ?_) (fun c_3 => ?_)
  · skip
    obtain ⟨sa, hstr⟩ := hN.2.1 (252, "no two such stations") (by decide +kernel)
    exact vx_throwS hx hb hlt hown (by decide +kernel) (by decide +kernel) w_0 w_1 hstr (vx_hat (fun w hw => hts w (th_X4_requireTwoStations_IOOBE w hw)) at_IOOBE_rest (at_IOOBE_hat hN)) at_IOOBE_ok hE0.1 hE0.2.1 hS (by rw [hml]; exact hl.1) dX4_requireTwoStations_21 dX4_requireTwoStations_24 dX4_requireTwoStations_25 dX4_requireTwoStations_27 dX4_requireTwoStations_30 (fun x h => (hnx x h).elim) (by decide) (by decide) (Nat.le_of_ble_eq_true rfl) (Nat.le_of_ble_eq_true rfl) hlocks (fun t9 _ h1 h2 => ⟨(), trivial, ⟨rfl, Or.inl (bl0 hw_2 c_3)⟩, xF hS h1 h2⟩) hS.2.2 (Nat.le_of_ble_eq_true rfl) (Nat.le_of_ble_eq_true rfl)
  · skip
    refine lv_iload_n hx hb dX4_requireTwoStations_8 rfl (lv_at hl 2 rfl) ?_
    refine lv_iconst (v := 5) hx hb dX4_requireTwoStations_9 (by decide) ?_
    refine va_calli (va_runS (As := [.int p1, .int 5]) (rest := []) ⟨hx, hb, hml, hown, hts⟩ (c_X4_isBelow l hlt D tC dz H.size pl t ad ed cb up rs cp hO p1 5 ) (va_cwS 2 hts gX4_requireTwoStations_X4_isBelow rfl rfl rfl (by decide +kernel) ⟨Nat.le_of_ble_eq_true rfl, Nat.le_of_ble_eq_true rfl⟩) ⟨pB_blind, pB_at hP hD hK hN hE (hS.mono hAm) (freeA hD (hS.mono hAm) hA)⟩ rfl rfl hl.1 rfl (lv_room (Nat.le_of_ble_eq_true rfl)) dX4_requireTwoStations_10 ⟨Nat.le_of_ble_eq_true rfl, Nat.le_of_ble_eq_true rfl⟩) hS oldN (freeN hS hN0) (fun r_4 u t9 H1 locs ht hvm hw hB hz1 hk1 hS => ?_)
    have hw_5 := hw
    have hP := keepP hP hk1
    generalize H1 = H at hP hS ⊢
    refine lv_if_eq (tgt := 21) hx hb dX4_requireTwoStations_13 (by decide) (fun c_6 => ?_) (fun c_6 => ?_)
    · skip
      obtain ⟨sa, hstr⟩ := hN.2.1 (252, "no two such stations") (by decide +kernel)
      exact vx_throwS hx hb hlt hown (by decide +kernel) (by decide +kernel) w_0 w_1 hstr (vx_hat (fun w hw => hts w (th_X4_requireTwoStations_IOOBE w hw)) at_IOOBE_rest (at_IOOBE_hat hN)) at_IOOBE_ok hE0.1 hE0.2.1 hS (by rw [hml]; exact hl.1) dX4_requireTwoStations_21 dX4_requireTwoStations_24 dX4_requireTwoStations_25 dX4_requireTwoStations_27 dX4_requireTwoStations_30 (fun x h => (hnx x h).elim) (by decide) (by decide) (Nat.le_of_ble_eq_true rfl) (Nat.le_of_ble_eq_true rfl) hlocks (fun t9 _ h1 h2 => ⟨(), trivial, ⟨rfl, Or.inr (Or.inl (bl0 hw_5 c_6))⟩, xF hS h1 h2⟩) hS.2.2 (Nat.le_of_ble_eq_true rfl) (Nat.le_of_ble_eq_true rfl)
    · skip
      refine lv_iload_n hx hb dX4_requireTwoStations_16 rfl (lv_at hl 1 rfl) ?_
      refine lv_iload_n hx hb dX4_requireTwoStations_17 rfl (lv_at hl 2 rfl) ?_
      refine lv_icmp_ne (tgt := 31) hx hb dX4_requireTwoStations_18 (by decide) (fun c_7 => ?_) (fun c_7 => ?_)
      · skip
        refine W.widen (k := 1) (n := 6) (by omega) (by omega) ?_
        exact vx_ret (W.vret hx hb hr (fun t9 ht hW => ⟨⟨(), rfl, (two5 (bl1 hw_2 c_3) (bl1 hw_5 c_6) c_7), trivial⟩, hS.F ht⟩) hS.2.2 dX4_requireTwoStations_31 hlocks)
      · skip
        obtain ⟨sa, hstr⟩ := hN.2.1 (252, "no two such stations") (by decide +kernel)
        exact vx_throwS hx hb hlt hown (by decide +kernel) (by decide +kernel) w_0 w_1 hstr (vx_hat (fun w hw => hts w (th_X4_requireTwoStations_IOOBE w hw)) at_IOOBE_rest (at_IOOBE_hat hN)) at_IOOBE_ok hE0.1 hE0.2.1 hS (by rw [hml]; exact hl.1) dX4_requireTwoStations_21 dX4_requireTwoStations_24 dX4_requireTwoStations_25 dX4_requireTwoStations_27 dX4_requireTwoStations_30 (fun x h => (hnx x h).elim) (by decide) (by decide) (Nat.le_of_ble_eq_true rfl) (Nat.le_of_ble_eq_true rfl) hlocks (fun t9 _ h1 h2 => ⟨(), trivial, ⟨rfl, Or.inr (Or.inr (Decidable.not_not.mp (fun h9 => h9 c_7)))⟩, xF hS h1 h2⟩) hS.2.2 (Nat.le_of_ble_eq_true rfl) (Nat.le_of_ble_eq_true rfl)
set_option maxHeartbeats 4000000 in
set_option maxRecDepth 100000 in
theorem c_X3_isPreparedFor (l : Launch) (hlt : l.stackTraces = false) (D : va_G) (tC : Nat → ClassId) (dz sz : Nat) (pl : va_W) (t : Nat → Nat × Nat) (ad : Nat → Nat) (ed : Nat) (cb up : Nat → Int32) (rs cp : Nat) (hO : Ok tC dz t ad ed cb up rs cp pl) (i : Nat) (v : Int32) (hi : i < 5) : Met l yX3_isPreparedFor wsX3_isPreparedFor ({ frames := 1, cells := 0, slots := 0, locals := 20 }) (va_Pc [.ref (ad (6 + i)), .int v] (pB D tC dz pl sz)) (va_Qi (fun (r : Int32) (_ : Unit) => r = 0 ∨ stD t ad up pl i) (fun (_ : Unit) _ => True) (xN sz)) 0 0 (xN sz) := by
  refine Met.ofW (cc := cX3_isPreparedFor) (maxL := 2) (ret := (some .boolean)) (by decide) rfl ?_
  intro p e s m args below meth c s₁ B hml hv
  obtain ⟨rfl, hsz, hP, hK, hD0, hN, hE⟩ := hv
  have hx := B.exec
  have hb := B.bytes
  have hr := B.returns
  have hts := atoms_spec (ws := wsX3_isPreparedFor) B.pre
  have hown : s.vm.findClass RX3 = some m.cls := findClass_of_methodNamed B.named
  have hlocks := B.notSynchronized
  subst hsz
  have hD := hD0.self (sz := s.heap.size)
  have hAm : ∀ q : Nat, xN s.heap.size q → va_A pl s.heap.size q := xN_A
  have hN0 : ∀ q : Nat, s.heap.size ≤ q → xN s.heap.size q := fun _ h => h
  have hE0 := eH_narrow hE hAm
  generalize va_A pl s.heap.size = A at hD hE hAm
  have hA : ∀ q : Nat, s.heap.size ≤ q → A q := fun q h => hAm q h
  have hS : va_S (xN s.heap.size) s.heap s.heap [] := va_S.rf
  have hl := lv_entry ([.ref (ad (6 + i)), .int v]) (n := 2) (Nat.le_of_ble_eq_true rfl)
  rw [lg_entry_eq]
  generalize (lg_sl ([.ref (ad (6 + i)), .int v]) ++ List.replicate (2 - (lg_sl ([.ref (ad (6 + i)), .int v])).length) Slot.unset).toArray = ls at hl ⊢
  have hl : lv_has ls 2 [(0, .ref (ad (6 + i))), (1, .int v)] := hl
  have w_0 := hts (.fieldLink RX3 19 "NoticeStations$Station" "preparedNumber" "I") (by decide +kernel)
  refine lv_aload_n hx hb dX3_isPreparedFor_0 rfl (lv_at hl 0 rfl) ?_
  obtain ⟨p_1, st_2, bg_3, pn_4, lk_5, ps_6, o_7, hp_1, h_8, h_9, h_10⟩ := hO.k12 hi
  refine va_calli (va_runV (As := []) (rest := []) ⟨hx, hb, hml, hown, hts⟩ (c_X3_isInDoubt l hlt D tC dz s.heap.size pl t ad ed cb up rs cp hO i hi) (cwV 0 hts gX3_isPreparedFor_X3_isInDoubt rfl rfl rfl (by decide +kernel) ⟨Nat.le_of_ble_eq_true rfl, Nat.le_of_ble_eq_true rfl⟩) ⟨pB_blind, va_recv hK hP (ci := 4) (q0 := p_1) rfl hp_1, pB_at hP hD hK hN hE (hS.mono hAm) (freeA hD (hS.mono hAm) hA)⟩ rfl rfl hl.1 rfl (lv_room (Nat.le_of_ble_eq_true rfl)) dX3_isPreparedFor_1 ⟨Nat.le_of_ble_eq_true rfl, Nat.le_of_ble_eq_true rfl⟩) hS oldN (freeN hS hN0) (fun r_11 u t9 H1 locs ht hvm hw hB hz1 hk1 hS => ?_)
  have hw_12 := hw
  have hP := keepP hP hk1
  generalize H1 = H at hP hS ⊢
  refine lv_if_eq (tgt := 19) hx hb dX3_isPreparedFor_4 (by decide) (fun c_13 => ?_) (fun c_13 => ?_)
  · skip
    refine lv_iconst (v := 0) hx hb dX3_isPreparedFor_19 (by decide) ?_
    refine W.widen (k := 0) (n := 0) (by omega) (by omega) ?_
    exact W.zret (v := 0) hx hb hr (by decide) (fun t9 ht hW => ⟨⟨0, (), rfl, (Or.inl rfl), trivial⟩, hS.F ht⟩) hS.2.2 dX3_isPreparedFor_20 hlocks
  · skip
    refine lv_aload_n hx hb dX3_isPreparedFor_7 rfl (lv_at hl 0 rfl) ?_
    refine va_get (D := D) (ci := 4) (v := .int pn_4) (C := RX3) (T := TX3) (N := 8) hx hb hts in_X3_isPreparedFor_X3 hown hK hP p_1 hp_1 rfl 4 (by decide) w_0 (fun _ h9 => h9) rfl dX3_isPreparedFor_8 ?_
    refine lv_iload_n hx hb dX3_isPreparedFor_11 rfl (lv_at hl 1 rfl) ?_
    refine lv_icmp_ne (tgt := 19) hx hb dX3_isPreparedFor_12 (by decide) (fun c_14 => ?_) (fun c_14 => ?_)
    · skip
      refine lv_iconst (v := 0) hx hb dX3_isPreparedFor_19 (by decide) ?_
      refine W.widen (k := 0) (n := 0) (by omega) (by omega) ?_
      exact W.zret (v := 0) hx hb hr (by decide) (fun t9 ht hW => ⟨⟨0, (), rfl, (Or.inl rfl), trivial⟩, hS.F ht⟩) hS.2.2 dX3_isPreparedFor_20 hlocks
    · skip
      refine lv_iconst (v := 1) hx hb dX3_isPreparedFor_15 (by decide) ?_
      refine lv_goto (tgt := 20) hx hb dX3_isPreparedFor_16 (by decide) ?_
      refine W.widen (k := 0) (n := 0) (by omega) (by omega) ?_
      exact W.zret (v := 1) hx hb hr (by decide) (fun t9 ht hW => ⟨⟨1, (), rfl, (Or.inr (hw_12.resolve_left c_13)), trivial⟩, hS.F ht⟩) hS.2.2 dX3_isPreparedFor_20 hlocks
set_option maxHeartbeats 4000000 in
set_option maxRecDepth 100000 in
theorem c_X3_hasEndedWrite (l : Launch) (hlt : l.stackTraces = false) (D : va_G) (tC : Nat → ClassId) (dz sz : Nat) (pl : va_W) (t : Nat → Nat × Nat) (ad : Nat → Nat) (ed : Nat) (cb up : Nat → Int32) (rs cp : Nat) (hO : Ok tC dz t ad ed cb up rs cp pl) (i : Nat) (v : Int32) (hi : i < 5) : Met l yX3_hasEndedWrite wsX3_hasEndedWrite ({ frames := 0, cells := 0, slots := 0, locals := 0 }) (va_Pc [.ref (ad (6 + i)), .int v] (pB D tC dz pl sz)) (va_Qi (fun (r : Int32) (_ : Unit) => True) (fun (_ : Unit) _ => True) (xN sz)) 0 0 (xN sz) := by
  refine Met.ofW (cc := cX3_hasEndedWrite) (maxL := 2) (ret := (some .boolean)) (by decide) rfl ?_
  intro p e s m args below meth c s₁ B hml hv
  obtain ⟨rfl, hsz, hP, hK, hD0, hN, hE⟩ := hv
  have hx := B.exec
  have hb := B.bytes
  have hr := B.returns
  have hts := atoms_spec (ws := wsX3_hasEndedWrite) B.pre
  have hown : s.vm.findClass RX3 = some m.cls := findClass_of_methodNamed B.named
  have hlocks := B.notSynchronized
  subst hsz
  have hD := hD0.self (sz := s.heap.size)
  have hAm : ∀ q : Nat, xN s.heap.size q → va_A pl s.heap.size q := xN_A
  have hN0 : ∀ q : Nat, s.heap.size ≤ q → xN s.heap.size q := fun _ h => h
  have hE0 := eH_narrow hE hAm
  generalize va_A pl s.heap.size = A at hD hE hAm
  have hA : ∀ q : Nat, s.heap.size ≤ q → A q := fun q h => hAm q h
  have hS : va_S (xN s.heap.size) s.heap s.heap [] := va_S.rf
  have hl := lv_entry ([.ref (ad (6 + i)), .int v]) (n := 2) (Nat.le_of_ble_eq_true rfl)
  rw [lg_entry_eq]
  generalize (lg_sl ([.ref (ad (6 + i)), .int v]) ++ List.replicate (2 - (lg_sl ([.ref (ad (6 + i)), .int v])).length) Slot.unset).toArray = ls at hl ⊢
  have hl : lv_has ls 2 [(0, .ref (ad (6 + i))), (1, .int v)] := hl
  have w_0 := hts (.fieldLink RX3 33 "NoticeStations$Station" "own" "I") (by decide +kernel)
  have w_1 := hts (.fieldLink RX3 29 "NoticeStations$Station" "open" "LNoticeStations$OpenWrite;") (by decide +kernel)
  refine lv_iload_n hx hb dX3_hasEndedWrite_0 rfl (lv_at hl 1 rfl) ?_
  refine lv_iconst (v := 5) hx hb dX3_hasEndedWrite_1 (by decide) ?_
  refine lv_irem hx hb dX3_hasEndedWrite_2 (by decide) ?_
  refine lv_topi (fun z_1 ez_1 => ?_)
  refine lv_aload_n hx hb dX3_hasEndedWrite_3 rfl (lv_at hl 0 rfl) ?_
  obtain ⟨p_2, st_3, bg_4, pn_5, lk_6, ps_7, o_8, hp_2, h_9, h_10, h_11⟩ := hO.k12 hi
  refine va_get (D := D) (ci := 4) (v := .int (nI i)) (C := RX3) (T := TX3) (N := 8) hx hb hts in_X3_hasEndedWrite_X3 hown hK hP p_2 hp_2 rfl 0 (by decide) w_0 (fun _ h9 => h9) rfl dX3_hasEndedWrite_4 ?_
  refine lv_icmp_ne (tgt := 32) hx hb dX3_hasEndedWrite_7 (by decide) (fun c_12 => ?_) (fun c_12 => ?_)
  · skip
    refine lv_iconst (v := 0) hx hb dX3_hasEndedWrite_32 (by decide) ?_
    refine W.widen (k := 0) (n := 0) (by omega) (by omega) ?_
    exact W.zret (v := 0) hx hb hr (by decide) (fun t9 ht hW => ⟨⟨0, (), rfl, trivial, trivial⟩, hS.F ht⟩) hS.2.2 dX3_hasEndedWrite_33 hlocks
  · skip
    refine lv_aload_n hx hb dX3_hasEndedWrite_10 rfl (lv_at hl 0 rfl) ?_
    refine va_get (D := D) (ci := 4) (v := va_rf o_8) (C := RX3) (T := TX3) (N := 8) hx hb hts in_X3_hasEndedWrite_X3 hown hK hP p_2 hp_2 rfl 7 (by decide) w_1 (fun _ h9 => h9) rfl dX3_hasEndedWrite_11 ?_
    rcases o_8 with _ | y_13
    · skip
      refine W.eq (g2 := F0 m 14 ls [.null]) rfl ?_
      refine lv_ifnullN (tgt := 28) hx hb dX3_hasEndedWrite_14 (by decide) ?_
      refine lv_iconst (v := 1) hx hb dX3_hasEndedWrite_28 (by decide) ?_
      refine lv_goto (tgt := 33) hx hb dX3_hasEndedWrite_29 (by decide) ?_
      refine W.widen (k := 0) (n := 0) (by omega) (by omega) ?_
      exact W.zret (v := 1) hx hb hr (by decide) (fun t9 ht hW => ⟨⟨1, (), rfl, trivial, trivial⟩, hS.F ht⟩) hS.2.2 dX3_hasEndedWrite_33 hlocks
    · skip
      have h_14 : (t y_13).1 = 4 := h_11 _ rfl
      refine W.eq (g2 := F0 m 14 ls [.ref y_13]) rfl ?_
      refine lv_ifnull hx hb dX3_hasEndedWrite_14 ?_
      refine lv_aload_n hx hb dX3_hasEndedWrite_17 rfl (lv_at hl 0 rfl) ?_
      refine va_get (D := D) (ci := 4) (v := .ref y_13) (C := RX3) (T := TX3) (N := 8) hx hb hts in_X3_hasEndedWrite_X3 hown hK hP p_2 hp_2 rfl 7 (by decide) w_1 (fun _ h9 => h9) rfl dX3_hasEndedWrite_18 ?_
      obtain ⟨p_15, nu_16, en_17, g_18, b_19, o_20, hp_15, h_21, h_22, h_23⟩ := hO.k4 h_14
      refine va_getN (host := "NoticeStations") (D := D) (ci := 2) (v := .int nu_16) (C := RX1) (T := TX1) (N := 5) hx hb hts in_X3_hasEndedWrite_X1 hown hK hP p_15 hp_15 rfl 0 (by decide) (va_Nw.use rfl (hN.1 (.fieldLinkNest "NoticeStations$Station" 43 "NoticeStations$OpenWrite" "number" "I" "NoticeStations") (by decide +kernel))) (fun _ h9 => h9) rfl dX3_hasEndedWrite_21 ?_
      refine lv_iload_n hx hb dX3_hasEndedWrite_24 rfl (lv_at hl 1 rfl) ?_
      refine lv_icmp_eq (tgt := 32) hx hb dX3_hasEndedWrite_25 (by decide) (fun c_24 => ?_) (fun c_24 => ?_)
      · skip
        refine lv_iconst (v := 0) hx hb dX3_hasEndedWrite_32 (by decide) ?_
        refine W.widen (k := 0) (n := 0) (by omega) (by omega) ?_
        exact W.zret (v := 0) hx hb hr (by decide) (fun t9 ht hW => ⟨⟨0, (), rfl, trivial, trivial⟩, hS.F ht⟩) hS.2.2 dX3_hasEndedWrite_33 hlocks
      · skip
        refine lv_iconst (v := 1) hx hb dX3_hasEndedWrite_28 (by decide) ?_
        refine lv_goto (tgt := 33) hx hb dX3_hasEndedWrite_29 (by decide) ?_
        refine W.widen (k := 0) (n := 0) (by omega) (by omega) ?_
        exact W.zret (v := 1) hx hb hr (by decide) (fun t9 ht hW => ⟨⟨1, (), rfl, trivial, trivial⟩, hS.F ht⟩) hS.2.2 dX3_hasEndedWrite_33 hlocks
set_option maxHeartbeats 4000000 in
set_option maxRecDepth 100000 in
theorem c_X1_awaits (l : Launch) (hlt : l.stackTraces = false) (D : va_G) (tC : Nat → ClassId) (dz sz : Nat) (pl : va_W) (t : Nat → Nat × Nat) (ad : Nat → Nat) (ed : Nat) (cb up : Nat → Int32) (rs cp : Nat) (hO : Ok tC dz t ad ed cb up rs cp pl) (a : Nat) (i : Nat) (ha : (t a).1 = 4) (hi : i < 5) : Met l yX1_awaits wsX1_awaits ({ frames := 1, cells := 0, slots := 0, locals := 21 }) (va_Pc [.ref a, .int (nI i)] (pB D tC dz pl sz)) (va_Qi (fun (r : Int32) (_ : Unit) => True) (fun (_ : Unit) _ => True) (xN sz)) 0 0 (xN sz) := by
  refine Met.ofW (cc := cX1_awaits) (maxL := 2) (ret := (some .boolean)) (by decide) rfl ?_
  intro p e s m args below meth c s₁ B hml hv
  obtain ⟨rfl, hsz, hP, hK, hD0, hN, hE⟩ := hv
  have hx := B.exec
  have hb := B.bytes
  have hr := B.returns
  have hts := atoms_spec (ws := wsX1_awaits) B.pre
  have hown : s.vm.findClass RX1 = some m.cls := findClass_of_methodNamed B.named
  have hlocks := B.notSynchronized
  subst hsz
  have hD := hD0.self (sz := s.heap.size)
  have hAm : ∀ q : Nat, xN s.heap.size q → va_A pl s.heap.size q := xN_A
  have hN0 : ∀ q : Nat, s.heap.size ≤ q → xN s.heap.size q := fun _ h => h
  have hE0 := eH_narrow hE hAm
  generalize va_A pl s.heap.size = A at hD hE hAm
  have hA : ∀ q : Nat, s.heap.size ≤ q → A q := fun q h => hAm q h
  have hS : va_S (xN s.heap.size) s.heap s.heap [] := va_S.rf
  have hl := lv_entry ([.ref a, .int (nI i)]) (n := 2) (Nat.le_of_ble_eq_true rfl)
  rw [lg_entry_eq]
  generalize (lg_sl ([.ref a, .int (nI i)]) ++ List.replicate (2 - (lg_sl ([.ref a, .int (nI i)])).length) Slot.unset).toArray = ls at hl ⊢
  have hl : lv_has ls 2 [(0, .ref a), (1, .int (nI i))] := hl
  have w_0 := hts (.fieldLink RX1 17 "NoticeStations$OpenWrite" "prepared" "[Z") (by decide +kernel)
  have w_1 := hts (.fieldLink RX1 11 "NoticeStations$OpenWrite" "granted" "[LNoticeStations$Standing;") (by decide +kernel)
  refine lv_aload_n hx hb dX1_awaits_0 rfl (lv_at hl 0 rfl) ?_
  obtain ⟨p_1, nu_2, en_3, g_4, b_5, o_6, hp_1, h_7, h_8, h_9⟩ := hO.k4 ha
  refine va_calli (va_runV (As := []) (rest := []) ⟨hx, hb, hml, hown, hts⟩ (c_X1_isCollecting l hlt D tC dz s.heap.size pl t ad ed cb up rs cp hO a ha) (cwV 0 hts gX1_awaits_X1_isCollecting rfl rfl rfl (by decide +kernel) ⟨Nat.le_of_ble_eq_true rfl, Nat.le_of_ble_eq_true rfl⟩) ⟨pB_blind, va_recv hK hP (ci := 2) (q0 := p_1) rfl hp_1, pB_at hP hD hK hN hE (hS.mono hAm) (freeA hD (hS.mono hAm) hA)⟩ rfl rfl hl.1 rfl (lv_room (Nat.le_of_ble_eq_true rfl)) dX1_awaits_1 ⟨Nat.le_of_ble_eq_true rfl, Nat.le_of_ble_eq_true rfl⟩) hS oldN (freeN hS hN0) (fun r_10 u t9 H1 locs ht hvm hw hB hz1 hk1 hS => ?_)
  have hw_11 := hw
  have hP := keepP hP hk1
  generalize H1 = H at hP hS ⊢
  refine lv_if_eq (tgt := 24) hx hb dX1_awaits_4 (by decide) (fun c_12 => ?_) (fun c_12 => ?_)
  · skip
    refine lv_aload_n hx hb dX1_awaits_24 rfl (lv_at hl 0 rfl) ?_
    refine lv_iload_n hx hb dX1_awaits_25 rfl (lv_at hl 1 rfl) ?_
    refine va_calli (va_runV (As := [.int (nI i)]) (rest := []) ⟨hx, hb, hml, hown, hts⟩ (c_X1_isOfGroup l hlt D tC dz H.size pl t ad ed cb up rs cp hO a i ha hi) (cwV 1 hts gX1_awaits_X1_isOfGroup rfl rfl rfl (by decide +kernel) ⟨Nat.le_of_ble_eq_true rfl, Nat.le_of_ble_eq_true rfl⟩) ⟨pB_blind, va_recv hK hP (ci := 2) (q0 := p_1) rfl hp_1, pB_at hP hD hK hN hE (hS.mono hAm) (freeA hD (hS.mono hAm) hA)⟩ rfl rfl hl.1 rfl (lv_room (Nat.le_of_ble_eq_true rfl)) dX1_awaits_26 ⟨Nat.le_of_ble_eq_true rfl, Nat.le_of_ble_eq_true rfl⟩) hS oldN (freeN hS hN0) (fun r_13 u t9 H1 locs ht hvm hw hB hz1 hk1 hS => ?_)
    have hw_14 := hw
    have hP := keepP hP hk1
    generalize H1 = H at hP hS ⊢
    refine lv_if_eq (tgt := 45) hx hb dX1_awaits_29 (by decide) (fun c_15 => ?_) (fun c_15 => ?_)
    · skip
      refine lv_iconst (v := 0) hx hb dX1_awaits_45 (by decide) ?_
      refine W.widen (k := 0) (n := 0) (by omega) (by omega) ?_
      exact W.zret (v := 0) hx hb hr (by decide) (fun t9 ht hW => ⟨⟨0, (), rfl, trivial, trivial⟩, hS.F ht⟩) hS.2.2 dX1_awaits_46 hlocks
    · skip
      refine lv_aload_n hx hb dX1_awaits_32 rfl (lv_at hl 0 rfl) ?_
      refine va_get (D := D) (ci := 2) (v := .ref b_5) (C := RX1) (T := TX1) (N := 5) hx hb hts in_X1_awaits_X1 hown hK hP p_1 hp_1 rfl 3 (by decide) w_0 (fun _ h9 => h9) rfl dX1_awaits_33 ?_
      refine lv_iload_n hx hb dX1_awaits_36 rfl (lv_at hl 1 rfl) ?_
      obtain ⟨p_16, f_17, hp_16⟩ := hO.k6 h_8
      refine va_zald hx hb hK hP p_16 1 hp_16 rfl (in5 hi) dX1_awaits_37 ?_
      refine lv_topi (fun z_18 ez_18 => ?_)
      refine lv_if_ne (tgt := 45) hx hb dX1_awaits_38 (by decide) (fun c_19 => ?_) (fun c_19 => ?_)
      · skip
        refine lv_iconst (v := 0) hx hb dX1_awaits_45 (by decide) ?_
        refine W.widen (k := 0) (n := 0) (by omega) (by omega) ?_
        exact W.zret (v := 0) hx hb hr (by decide) (fun t9 ht hW => ⟨⟨0, (), rfl, trivial, trivial⟩, hS.F ht⟩) hS.2.2 dX1_awaits_46 hlocks
      · skip
        refine lv_iconst (v := 1) hx hb dX1_awaits_41 (by decide) ?_
        refine lv_goto (tgt := 46) hx hb dX1_awaits_42 (by decide) ?_
        refine W.widen (k := 0) (n := 0) (by omega) (by omega) ?_
        exact W.zret (v := 1) hx hb hr (by decide) (fun t9 ht hW => ⟨⟨1, (), rfl, trivial, trivial⟩, hS.F ht⟩) hS.2.2 dX1_awaits_46 hlocks
  · skip
    refine lv_aload_n hx hb dX1_awaits_7 rfl (lv_at hl 0 rfl) ?_
    refine va_get (D := D) (ci := 2) (v := .ref g_4) (C := RX1) (T := TX1) (N := 5) hx hb hts in_X1_awaits_X1 hown hK hP p_1 hp_1 rfl 2 (by decide) w_1 (fun _ h9 => h9) rfl dX1_awaits_8 ?_
    refine lv_iload_n hx hb dX1_awaits_11 rfl (lv_at hl 1 rfl) ?_
    obtain ⟨p_20, f_21, hp_20, h_22⟩ := hO.k5 h_7
    refine va_aldq hx hb hK hP p_20 2 hp_20 rfl (in5 hi) dX1_awaits_12 ?_
    obtain ⟨o_23, eo_23⟩ : ∃ z9, z9 = f_21 i := ⟨_, rfl⟩
    have h_24 : isK t 1 o_23 := by rw [eo_23]; exact h_22 i hi
    rw [show f_21 (nI i).toNatClampNeg = o_23 by rw [(cl5 hi), eo_23]]
    rcases o_23 with _ | y_25
    · skip
      refine W.eq (g2 := F0 m 13 ls [.null]) rfl ?_
      refine lv_ifnonnullN hx hb dX1_awaits_13 ?_
      refine lv_iconst (v := 1) hx hb dX1_awaits_16 (by decide) ?_
      refine lv_goto (tgt := 46) hx hb dX1_awaits_17 (by decide) ?_
      refine W.widen (k := 0) (n := 0) (by omega) (by omega) ?_
      exact W.zret (v := 1) hx hb hr (by decide) (fun t9 ht hW => ⟨⟨1, (), rfl, trivial, trivial⟩, hS.F ht⟩) hS.2.2 dX1_awaits_46 hlocks
    · skip
      have h_26 : (t y_25).1 = 1 := h_24 _ rfl
      refine W.eq (g2 := F0 m 13 ls [.ref y_25]) rfl ?_
      refine lv_ifnonnull (tgt := 20) hx hb dX1_awaits_13 (by decide) ?_
      refine lv_iconst (v := 0) hx hb dX1_awaits_20 (by decide) ?_
      refine lv_goto (tgt := 46) hx hb dX1_awaits_21 (by decide) ?_
      refine W.widen (k := 0) (n := 0) (by omega) (by omega) ?_
      exact W.zret (v := 0) hx hb hr (by decide) (fun t9 ht hW => ⟨⟨0, (), rfl, trivial, trivial⟩, hS.F ht⟩) hS.2.2 dX1_awaits_46 hlocks
set_option maxHeartbeats 4000000 in
set_option maxRecDepth 100000 in
theorem c_X2_hasNoticeAt (l : Launch) (hlt : l.stackTraces = false) (D : va_G) (tC : Nat → ClassId) (dz sz : Nat) (pl : va_W) (t : Nat → Nat × Nat) (ad : Nat → Nat) (ed : Nat) (cb up : Nat → Int32) (rs cp : Nat) (hO : Ok tC dz t ad ed cb up rs cp pl) (a : Nat) (n : Nat) (v : Int32) (ha : t a = (1, n)) : Met l yX2_hasNoticeAt wsX2_hasNoticeAt ({ frames := 1, cells := 0, slots := 0, locals := 21 }) (va_Pc [.ref a, .int v] (pB D tC dz pl sz)) (va_Qi (fun (r : Int32) (_ : Unit) => True) (fun (_ : Unit) _ => True) (xN sz)) 0 0 (xN sz) := by
  refine Met.ofW (cc := cX2_hasNoticeAt) (maxL := 2) (ret := (some .boolean)) (by decide) rfl ?_
  intro p e s m args below meth c s₁ B hml hv
  obtain ⟨rfl, hsz, hP, hK, hD0, hN, hE⟩ := hv
  have hx := B.exec
  have hb := B.bytes
  have hr := B.returns
  have hts := atoms_spec (ws := wsX2_hasNoticeAt) B.pre
  have hown : s.vm.findClass RX2 = some m.cls := findClass_of_methodNamed B.named
  have hlocks := B.notSynchronized
  subst hsz
  have hD := hD0.self (sz := s.heap.size)
  have hAm : ∀ q : Nat, xN s.heap.size q → va_A pl s.heap.size q := xN_A
  have hN0 : ∀ q : Nat, s.heap.size ≤ q → xN s.heap.size q := fun _ h => h
  have hE0 := eH_narrow hE hAm
  generalize va_A pl s.heap.size = A at hD hE hAm
  have hA : ∀ q : Nat, s.heap.size ≤ q → A q := fun q h => hAm q h
  have hS : va_S (xN s.heap.size) s.heap s.heap [] := va_S.rf
  have hl := lv_entry ([.ref a, .int v]) (n := 2) (Nat.le_of_ble_eq_true rfl)
  rw [lg_entry_eq]
  generalize (lg_sl ([.ref a, .int v]) ++ List.replicate (2 - (lg_sl ([.ref a, .int v])).length) Slot.unset).toArray = ls at hl ⊢
  have hl : lv_has ls 2 [(0, .ref a), (1, .int v)] := hl
  have w_0 := hts (.fieldLink RX2 7 "NoticeStations$Standing" "entries" "[I") (by decide +kernel)
  have w_1 := hts (.initialized RX4) (by decide +kernel)
  have w_2 := hts (.static yX4_isBelow) (by decide +kernel)
  refine lv_iload_n hx hb dX2_hasNoticeAt_0 rfl (lv_at hl 1 rfl) ?_
  refine lv_aload_n hx hb dX2_hasNoticeAt_1 rfl (lv_at hl 0 rfl) ?_
  obtain ⟨p_1, e_2, u_3, z_4, d_5, hp_1, h_6, h_7, h_8⟩ := hO.k1 ha
  refine va_get (D := D) (ci := 3) (v := .ref e_2) (C := RX2) (T := TX2) (N := 4) hx hb hts in_X2_hasNoticeAt_X2 hown hK hP p_1 hp_1 rfl 0 (by decide) w_0 (fun _ h9 => h9) rfl dX2_hasNoticeAt_2 ?_
  obtain ⟨p_9, f_10, hp_9⟩ := hO.k2 h_6
  refine va_alen (v := (nI n)) hx hb hK hP p_9 0 hp_9 rfl (by first | decide | rfl) dX2_hasNoticeAt_5 ?_
  refine va_calli (va_runSN (As := [.int v, .int (nI n)]) (rest := []) ⟨hx, hb, hml, hown, hts⟩ (c_X4_isBelow l hlt D tC dz s.heap.size pl t ad ed cb up rs cp hO v (nI n) ) ⟨(va_cnB (host := "NoticeStations") 2 hts gX2_hasNoticeAt_X4_isBelow_n23 rfl rfl rfl (hN.1 (.methodLinkNest "NoticeStations$Standing" 23 ⟨"NoticeStations", "isBelow", "(II)Z"⟩ "NoticeStations") (by decide +kernel)) w_1 (by decide +kernel) ⟨Nat.le_of_ble_eq_true rfl, Nat.le_of_ble_eq_true rfl⟩), w_2, trivial⟩ ⟨pB_blind, pB_at hP hD hK hN hE (hS.mono hAm) (freeA hD (hS.mono hAm) hA)⟩ rfl rfl hl.1 rfl (lv_room (Nat.le_of_ble_eq_true rfl)) dX2_hasNoticeAt_6 ⟨Nat.le_of_ble_eq_true rfl, Nat.le_of_ble_eq_true rfl⟩) hS oldN (freeN hS hN0) (fun r_11 u t9 H1 locs ht hvm hw hB hz1 hk1 hS => ?_)
  have hw_12 := hw
  have hP := keepP hP hk1
  generalize H1 = H at hP hS ⊢
  refine lv_if_eq (tgt := 25) hx hb dX2_hasNoticeAt_9 (by decide) (fun c_13 => ?_) (fun c_13 => ?_)
  · skip
    refine lv_iconst (v := 0) hx hb dX2_hasNoticeAt_25 (by decide) ?_
    refine W.widen (k := 0) (n := 0) (by omega) (by omega) ?_
    exact W.zret (v := 0) hx hb hr (by decide) (fun t9 ht hW => ⟨⟨0, (), rfl, trivial, trivial⟩, hS.F ht⟩) hS.2.2 dX2_hasNoticeAt_26 hlocks
  · skip
    obtain ⟨k_14, hk_14, ek_14⟩ := ixn (bl1 hw_12 c_13) (by omega)
    subst ek_14
    refine lv_aload_n hx hb dX2_hasNoticeAt_12 rfl (lv_at hl 0 rfl) ?_
    refine va_get (D := D) (ci := 3) (v := .ref e_2) (C := RX2) (T := TX2) (N := 4) hx hb hts in_X2_hasNoticeAt_X2 hown hK hP p_1 hp_1 rfl 0 (by decide) w_0 (fun _ h9 => h9) rfl dX2_hasNoticeAt_13 ?_
    refine lv_iload_n hx hb dX2_hasNoticeAt_16 rfl (lv_at hl 1 rfl) ?_
    refine va_iald hx hb hK hP p_9 0 hp_9 rfl (vp_in_nI hk_14 (by omega)) dX2_hasNoticeAt_17 ?_
    refine lv_topi (fun z_15 ez_15 => ?_)
    refine lv_if_lt (tgt := 25) hx hb dX2_hasNoticeAt_18 (by decide) (fun c_16 => ?_) (fun c_16 => ?_)
    · skip
      refine lv_iconst (v := 0) hx hb dX2_hasNoticeAt_25 (by decide) ?_
      refine W.widen (k := 0) (n := 0) (by omega) (by omega) ?_
      exact W.zret (v := 0) hx hb hr (by decide) (fun t9 ht hW => ⟨⟨0, (), rfl, trivial, trivial⟩, hS.F ht⟩) hS.2.2 dX2_hasNoticeAt_26 hlocks
    · skip
      refine lv_iconst (v := 1) hx hb dX2_hasNoticeAt_21 (by decide) ?_
      refine lv_goto (tgt := 26) hx hb dX2_hasNoticeAt_22 (by decide) ?_
      refine W.widen (k := 0) (n := 0) (by omega) (by omega) ?_
      exact W.zret (v := 1) hx hb hr (by decide) (fun t9 ht hW => ⟨⟨1, (), rfl, trivial, trivial⟩, hS.F ht⟩) hS.2.2 dX2_hasNoticeAt_26 hlocks
set_option maxHeartbeats 4000000 in
set_option maxRecDepth 100000 in
theorem c_X4_withdrawalOf (l : Launch) (hlt : l.stackTraces = false) (D : va_G) (tC : Nat → ClassId) (dz sz : Nat) (pl : va_W) (t : Nat → Nat × Nat) (ad : Nat → Nat) (ed : Nat) (cb up : Nat → Int32) (rs cp : Nat) (hO : Ok tC dz t ad ed cb up rs cp pl) (v : Int32)  : Met l yX4_withdrawalOf wsX4_withdrawalOf ({ frames := 0, cells := 0, slots := 0, locals := 0 }) (va_Pc [.int v] (pB D tC dz pl sz)) (va_Qi (fun (r : Int32) (_ : Unit) => True) (fun (_ : Unit) _ => True) (xN sz)) 0 0 (xN sz) := by
  refine Met.ofW (cc := cX4_withdrawalOf) (maxL := 1) (ret := (some .int)) (by decide) rfl ?_
  intro p e s m args below meth c s₁ B hml hv
  obtain ⟨rfl, hsz, hP, hK, hD0, hN, hE⟩ := hv
  have hx := B.exec
  have hb := B.bytes
  have hr := B.returns
  have hts := atoms_spec (ws := wsX4_withdrawalOf) B.pre
  have hown : s.vm.findClass RX4 = some m.cls := findClass_of_methodNamed B.named
  have hlocks := B.notSynchronized
  subst hsz
  have hD := hD0.self (sz := s.heap.size)
  have hAm : ∀ q : Nat, xN s.heap.size q → va_A pl s.heap.size q := xN_A
  have hN0 : ∀ q : Nat, s.heap.size ≤ q → xN s.heap.size q := fun _ h => h
  have hE0 := eH_narrow hE hAm
  generalize va_A pl s.heap.size = A at hD hE hAm
  have hA : ∀ q : Nat, s.heap.size ≤ q → A q := fun q h => hAm q h
  have hS : va_S (xN s.heap.size) s.heap s.heap [] := va_S.rf
  have hl := lv_entry ([.int v]) (n := 1) (Nat.le_of_ble_eq_true rfl)
  rw [lg_entry_eq]
  generalize (lg_sl ([.int v]) ++ List.replicate (1 - (lg_sl ([.int v])).length) Slot.unset).toArray = ls at hl ⊢
  have hl : lv_has ls 1 [(0, .int v)] := hl
  refine lv_iconst (v := (-1)) hx hb dX4_withdrawalOf_0 (by decide) ?_
  refine lv_iload_n hx hb dX4_withdrawalOf_1 rfl (lv_at hl 0 rfl) ?_
  refine lv_isub hx hb dX4_withdrawalOf_2 ?_
  refine lv_topi (fun z_1 ez_1 => ?_)
  refine W.widen (k := 0) (n := 0) (by omega) (by omega) ?_
  exact W.iret (v := z_1) hx hb hr (fun t9 ht hW => ⟨⟨z_1, (), rfl, trivial, trivial⟩, hS.F ht⟩) hS.2.2 dX4_withdrawalOf_3 hlocks
set_option maxHeartbeats 4000000 in
set_option maxRecDepth 100000 in
theorem c_X4_isOn (l : Launch) (hlt : l.stackTraces = false) (D : va_G) (tC : Nat → ClassId) (dz sz : Nat) (pl : va_W) (t : Nat → Nat × Nat) (ad : Nat → Nat) (ed : Nat) (cb up : Nat → Int32) (rs cp : Nat) (hO : Ok tC dz t ad ed cb up rs cp pl) (v : Int32) (v1 : Int32) (v2 : Int32)  : Met l yX4_isOn wsX4_isOn ({ frames := 0, cells := 0, slots := 0, locals := 0 }) (va_Pc [.int v, .int v1, .int v2] (pB D tC dz pl sz)) (va_Qi (fun (r : Int32) (_ : Unit) => True) (fun (_ : Unit) _ => True) (xN sz)) 0 0 (xN sz) := by
  refine Met.ofW (cc := cX4_isOn) (maxL := 5) (ret := (some .boolean)) (by decide) rfl ?_
  intro p e s m args below meth c s₁ B hml hv
  obtain ⟨rfl, hsz, hP, hK, hD0, hN, hE⟩ := hv
  have hx := B.exec
  have hb := B.bytes
  have hr := B.returns
  have hts := atoms_spec (ws := wsX4_isOn) B.pre
  have hown : s.vm.findClass RX4 = some m.cls := findClass_of_methodNamed B.named
  have hlocks := B.notSynchronized
  subst hsz
  have hD := hD0.self (sz := s.heap.size)
  have hAm : ∀ q : Nat, xN s.heap.size q → va_A pl s.heap.size q := xN_A
  have hN0 : ∀ q : Nat, s.heap.size ≤ q → xN s.heap.size q := fun _ h => h
  have hE0 := eH_narrow hE hAm
  generalize va_A pl s.heap.size = A at hD hE hAm
  have hA : ∀ q : Nat, s.heap.size ≤ q → A q := fun q h => hAm q h
  have hS : va_S (xN s.heap.size) s.heap s.heap [] := va_S.rf
  have hl := lv_entry ([.int v, .int v1, .int v2]) (n := 5) (Nat.le_of_ble_eq_true rfl)
  rw [lg_entry_eq]
  generalize (lg_sl ([.int v, .int v1, .int v2]) ++ List.replicate (5 - (lg_sl ([.int v, .int v1, .int v2])).length) Slot.unset).toArray = ls at hl ⊢
  have hl : lv_has ls 5 [(0, .int v), (1, .int v1), (2, .int v2)] := hl
  refine lv_iload_n hx hb dX4_isOn_0 rfl (lv_at hl 0 rfl) ?_
  refine lv_iconst (v := 4) hx hb dX4_isOn_1 (by decide) ?_
  refine lv_idiv hx hb dX4_isOn_2 (by decide) ?_
  refine lv_topi (fun z_1 ez_1 => ?_)
  refine lv_bipush (v := 100) hx hb dX4_isOn_3 (by decide) ?_
  refine lv_irem hx hb dX4_isOn_5 (by decide) ?_
  refine lv_topi (fun z_2 ez_2 => ?_)
  refine lv_istore_n (lv' := [(3, .int z_2), (0, .int v), (1, .int v1), (2, .int v2)]) hx hb dX4_isOn_6 rfl hl (by decide) rfl (fun ls hl => ?_)
  refine lv_iload_n hx hb dX4_isOn_7 rfl (lv_at hl 1 rfl) ?_
  refine lv_sipush (v := 400) hx hb dX4_isOn_8 (by decide) ?_
  refine lv_idiv hx hb dX4_isOn_11 (by decide) ?_
  refine lv_topi (fun z_3 ez_3 => ?_)
  refine lv_istore (lv' := [(4, .int z_3), (3, .int z_2), (0, .int v), (1, .int v1), (2, .int v2)]) hx hb dX4_isOn_12 hl (by decide) rfl (fun ls hl => ?_)
  refine lv_iload_n hx hb dX4_isOn_14 rfl (lv_at hl 2 rfl) ?_
  refine lv_iconst (v := 4) hx hb dX4_isOn_15 (by decide) ?_
  refine lv_irem hx hb dX4_isOn_16 (by decide) ?_
  refine lv_topi (fun z_4 ez_4 => ?_)
  refine lv_iload_n hx hb dX4_isOn_17 rfl (lv_at hl 3 rfl) ?_
  refine lv_icmp_ne (tgt := 36) hx hb dX4_isOn_18 (by decide) (fun c_5 => ?_) (fun c_5 => ?_)
  · skip
    refine lv_iconst (v := 0) hx hb dX4_isOn_36 (by decide) ?_
    refine W.widen (k := 0) (n := 0) (by omega) (by omega) ?_
    exact W.zret (v := 0) hx hb hr (by decide) (fun t9 ht hW => ⟨⟨0, (), rfl, trivial, trivial⟩, hS.F ht⟩) hS.2.2 dX4_isOn_37 hlocks
  · skip
    refine lv_iload_n hx hb dX4_isOn_21 rfl (lv_at hl 1 rfl) ?_
    refine lv_iload_n hx hb dX4_isOn_22 rfl (lv_at hl 4 rfl) ?_
    refine lv_icmp_gt (tgt := 36) hx hb dX4_isOn_23 (by decide) (fun c_6 => ?_) (fun c_6 => ?_)
    · skip
      refine lv_iconst (v := 0) hx hb dX4_isOn_36 (by decide) ?_
      refine W.widen (k := 0) (n := 0) (by omega) (by omega) ?_
      exact W.zret (v := 0) hx hb hr (by decide) (fun t9 ht hW => ⟨⟨0, (), rfl, trivial, trivial⟩, hS.F ht⟩) hS.2.2 dX4_isOn_37 hlocks
    · skip
      refine lv_iload_n hx hb dX4_isOn_26 rfl (lv_at hl 4 rfl) ?_
      refine lv_iload hx hb dX4_isOn_27 (lv_at hl 0 rfl) ?_
      refine lv_icmp_gt (tgt := 36) hx hb dX4_isOn_29 (by decide) (fun c_7 => ?_) (fun c_7 => ?_)
      · skip
        refine lv_iconst (v := 0) hx hb dX4_isOn_36 (by decide) ?_
        refine W.widen (k := 0) (n := 0) (by omega) (by omega) ?_
        exact W.zret (v := 0) hx hb hr (by decide) (fun t9 ht hW => ⟨⟨0, (), rfl, trivial, trivial⟩, hS.F ht⟩) hS.2.2 dX4_isOn_37 hlocks
      · skip
        refine lv_iconst (v := 1) hx hb dX4_isOn_32 (by decide) ?_
        refine lv_goto (tgt := 37) hx hb dX4_isOn_33 (by decide) ?_
        refine W.widen (k := 0) (n := 0) (by omega) (by omega) ?_
        exact W.zret (v := 1) hx hb hr (by decide) (fun t9 ht hW => ⟨⟨1, (), rfl, trivial, trivial⟩, hS.F ht⟩) hS.2.2 dX4_isOn_37 hlocks
set_option maxHeartbeats 4000000 in
set_option maxRecDepth 100000 in
theorem c_X4_openWriteFor (l : Launch) (hlt : l.stackTraces = false) (D : va_G) (tC : Nat → ClassId) (dz sz : Nat) (pl : va_W) (t : Nat → Nat × Nat) (ad : Nat → Nat) (ed : Nat) (cb up : Nat → Int32) (rs cp : Nat) (hO : Ok tC dz t ad ed cb up rs cp pl) (a : Nat) (i : Nat) (ha : (t a).1 = 3) (hi : i < 5) : Met l yX4_openWriteFor wsX4_openWriteFor ({ frames := 0, cells := 0, slots := 0, locals := 0 }) (va_Pc [.ref a, .ref (ad (6 + i))] (pB D tC dz pl sz)) (va_Qq (fun (r : Option Nat) (_ : Unit) => isK t 4 r) (fun (_ : Unit) _ => True) (xN sz)) 0 0 (xN sz) := by
  refine Met.ofW (cc := cX4_openWriteFor) (maxL := 3) (ret := (some (.object "NoticeStations$OpenWrite"))) (by decide) rfl ?_
  intro p e s m args below meth c s₁ B hml hv
  obtain ⟨rfl, hsz, hP, hK, hD0, hN, hE⟩ := hv
  have hx := B.exec
  have hb := B.bytes
  have hr := B.returns
  have hts := atoms_spec (ws := wsX4_openWriteFor) B.pre
  have hown : s.vm.findClass RX4 = some m.cls := findClass_of_methodNamed B.named
  have hlocks := B.notSynchronized
  subst hsz
  have hD := hD0.self (sz := s.heap.size)
  have hAm : ∀ q : Nat, xN s.heap.size q → va_A pl s.heap.size q := xN_A
  have hN0 : ∀ q : Nat, s.heap.size ≤ q → xN s.heap.size q := fun _ h => h
  have hE0 := eH_narrow hE hAm
  generalize va_A pl s.heap.size = A at hD hE hAm
  have hA : ∀ q : Nat, s.heap.size ≤ q → A q := fun q h => hAm q h
  have hS : va_S (xN s.heap.size) s.heap s.heap [] := va_S.rf
  have hl := lv_entry ([.ref a, .ref (ad (6 + i))]) (n := 3) (Nat.le_of_ble_eq_true rfl)
  rw [lg_entry_eq]
  generalize (lg_sl ([.ref a, .ref (ad (6 + i))]) ++ List.replicate (3 - (lg_sl ([.ref a, .ref (ad (6 + i))])).length) Slot.unset).toArray = ls at hl ⊢
  have hl : lv_has ls 3 [(0, .ref a), (1, .ref (ad (6 + i)))] := hl
  refine lv_aload_n hx hb dX4_openWriteFor_0 rfl (lv_at hl 1 rfl) ?_
  obtain ⟨p_1, st_2, bg_3, pn_4, lk_5, ps_6, o_7, hp_1, h_8, h_9, h_10⟩ := hO.k12 hi
  refine va_getN (host := "NoticeStations") (D := D) (ci := 4) (v := va_rf o_7) (C := RX3) (T := TX3) (N := 8) hx hb hts in_X4_openWriteFor_X3 hown hK hP p_1 hp_1 rfl 7 (by decide) (va_Nw.use rfl (hN.1 (.fieldLinkNest "NoticeStations" 81 "NoticeStations$Station" "open" "LNoticeStations$OpenWrite;" "NoticeStations") (by decide +kernel))) (fun _ h9 => h9) rfl dX4_openWriteFor_1 ?_
  refine lv_astore_nQ (lv' := [(2, va_rf o_7), (0, .ref a), (1, .ref (ad (6 + i)))]) hx hb dX4_openWriteFor_4 rfl hl (by decide) rfl (fun ls hl => ?_)
  refine lv_aload_nQ hx hb dX4_openWriteFor_5 rfl (lv_at hl 0 rfl) ?_
  rcases o_7 with _ | y_11
  · skip
    refine W.eq (g2 := F0 m 6 ls [.null]) rfl ?_
    refine lv_ifnullN (tgt := 24) hx hb dX4_openWriteFor_6 (by decide) ?_
    refine lv_null hx hb dX4_openWriteFor_24 ?_
    refine W.widen (k := 0) (n := 0) (by omega) (by omega) ?_
    exact W.aret (v := .null) hx hb hr (Or.inl ⟨_, rfl⟩) (Or.inl rfl) (fun t9 ht hW => ⟨⟨none, (), rfl, isK.no, trivial⟩, hS.F ht⟩) hS.2.2 dX4_openWriteFor_25 hlocks
  · skip
    have h_12 : (t y_11).1 = 4 := h_10 _ rfl
    refine W.eq (g2 := F0 m 6 ls [.ref y_11]) rfl ?_
    refine lv_ifnull hx hb dX4_openWriteFor_6 ?_
    refine lv_aload_n hx hb dX4_openWriteFor_9 rfl (lv_at hl 0 rfl) ?_
    obtain ⟨p_13, nu_14, en_15, g_16, b_17, o_18, hp_13, h_19, h_20, h_21⟩ := hO.k4 h_12
    refine va_getN (host := "NoticeStations") (D := D) (ci := 2) (v := .int nu_14) (C := RX1) (T := TX1) (N := 5) hx hb hts in_X4_openWriteFor_X1 hown hK hP p_13 hp_13 rfl 0 (by decide) (va_Nw.use rfl (hN.1 (.fieldLinkNest "NoticeStations" 145 "NoticeStations$OpenWrite" "number" "I" "NoticeStations") (by decide +kernel))) (fun _ h9 => h9) rfl dX4_openWriteFor_10 ?_
    refine lv_aload_n hx hb dX4_openWriteFor_13 rfl (lv_at hl 1 rfl) ?_
    obtain ⟨p_22, kd_23, nu_24, fr_25, to_26, o_27, hp_22, h_28, h_29, h_30⟩ := hO.k3 ha
    refine va_getN (host := "NoticeStations") (D := D) (ci := 1) (v := .int nu_24) (C := RX0) (T := TX0) (N := 5) hx hb hts in_X4_openWriteFor_X0 hown hK hP p_22 hp_22 rfl 3 (by decide) (va_Nw.use rfl (hN.1 (.fieldLinkNest "NoticeStations" 217 "NoticeStations$Letter" "number" "I" "NoticeStations") (by decide +kernel))) (fun _ h9 => h9) rfl dX4_openWriteFor_14 ?_
    refine lv_icmp_ne (tgt := 24) hx hb dX4_openWriteFor_17 (by decide) (fun c_31 => ?_) (fun c_31 => ?_)
    · skip
      refine lv_null hx hb dX4_openWriteFor_24 ?_
      refine W.widen (k := 0) (n := 0) (by omega) (by omega) ?_
      exact W.aret (v := .null) hx hb hr (Or.inl ⟨_, rfl⟩) (Or.inl rfl) (fun t9 ht hW => ⟨⟨none, (), rfl, isK.no, trivial⟩, hS.F ht⟩) hS.2.2 dX4_openWriteFor_25 hlocks
    · skip
      refine lv_aload_n hx hb dX4_openWriteFor_20 rfl (lv_at hl 0 rfl) ?_
      refine lv_goto (tgt := 25) hx hb dX4_openWriteFor_21 (by decide) ?_
      refine W.widen (k := 0) (n := 0) (by omega) (by omega) ?_
      exact W.aret (v := .ref y_11) hx hb hr (Or.inl ⟨_, rfl⟩) (Or.inr ⟨_, rfl⟩) (fun t9 ht hW => ⟨⟨(some y_11), (), rfl, (isK.so h_12), trivial⟩, hS.F ht⟩) hS.2.2 dX4_openWriteFor_25 hlocks
set_option maxHeartbeats 4000000 in
set_option maxRecDepth 100000 in
theorem c_X4_openWriteOf (l : Launch) (hlt : l.stackTraces = false) (D : va_G) (tC : Nat → ClassId) (dz sz : Nat) (pl : va_W) (t : Nat → Nat × Nat) (ad : Nat → Nat) (ed : Nat) (cb up : Nat → Int32) (rs cp : Nat) (hO : Ok tC dz t ad ed cb up rs cp pl) (i : Nat) (hi : i < 5) : vx_Met l yX4_openWriteOf wsX4_openWriteOf ({ frames := 6, cells := 1, slots := 6, locals := 82 }) (va_Pc [.ref (ad 0), .ref (ad (6 + i))] (pB D tC dz pl sz)) (va_Qr (fun (_ : Unit) => True) (fun (_ : Unit) (r : Nat) _ => (t r).1 = 4) (xN sz)) (xX (fun E => E = "java/lang/IllegalStateException") (xN sz)) 1 6 (xN sz) := by
  refine vx_ofW (cc := cX4_openWriteOf) (maxL := 3) (ret := (some (.object "NoticeStations$OpenWrite"))) (by decide) rfl ?_
  intro p e s m args below meth c s₁ B hml hnx hv
  obtain ⟨rfl, hsz, hP, hK, hD0, hN, hE⟩ := hv
  have hx := B.exec
  have hb := B.bytes
  have hr := B.returns
  have hts := atoms_spec (ws := wsX4_openWriteOf) B.pre
  have hown : s.vm.findClass RX4 = some m.cls := findClass_of_methodNamed B.named
  have hlocks := B.notSynchronized
  subst hsz
  have hD := hD0.self (sz := s.heap.size)
  have hAm : ∀ q : Nat, xN s.heap.size q → va_A pl s.heap.size q := xN_A
  have hN0 : ∀ q : Nat, s.heap.size ≤ q → xN s.heap.size q := fun _ h => h
  have hE0 := eH_narrow hE hAm
  generalize va_A pl s.heap.size = A at hD hE hAm
  have hA : ∀ q : Nat, s.heap.size ≤ q → A q := fun q h => hAm q h
  have hS : va_S (xN s.heap.size) s.heap s.heap [] := va_S.rf
  have hl := lv_entry ([.ref (ad 0), .ref (ad (6 + i))]) (n := 3) (Nat.le_of_ble_eq_true rfl)
  rw [lg_entry_eq]
  generalize (lg_sl ([.ref (ad 0), .ref (ad (6 + i))]) ++ List.replicate (3 - (lg_sl ([.ref (ad 0), .ref (ad (6 + i))])).length) Slot.unset).toArray = ls at hl ⊢
  have hl : lv_has ls 3 [(0, .ref (ad 0)), (1, .ref (ad (6 + i)))] := hl
  have w_0 := hts (.classLink RX4 91 "java/lang/IllegalStateException") (by decide +kernel)
  have w_1 := hts (.initialized "java/lang/IllegalStateException") (by decide +kernel)
  refine lv_aload_n hx hb dX4_openWriteOf_0 rfl (lv_at hl 1 rfl) ?_
  obtain ⟨p_1, st_2, bg_3, pn_4, lk_5, ps_6, o_7, hp_1, h_8, h_9, h_10⟩ := hO.k12 hi
  refine va_getN (host := "NoticeStations") (D := D) (ci := 4) (v := va_rf o_7) (C := RX3) (T := TX3) (N := 8) hx hb hts in_X4_openWriteOf_X3 hown hK hP p_1 hp_1 rfl 7 (by decide) (va_Nw.use rfl (hN.1 (.fieldLinkNest "NoticeStations" 81 "NoticeStations$Station" "open" "LNoticeStations$OpenWrite;" "NoticeStations") (by decide +kernel))) (fun _ h9 => h9) rfl dX4_openWriteOf_1 ?_
  refine lv_astore_nQ (lv' := [(2, va_rf o_7), (0, .ref (ad 0)), (1, .ref (ad (6 + i)))]) hx hb dX4_openWriteOf_4 rfl hl (by decide) rfl (fun ls hl => ?_)
  refine lv_aload_nQ hx hb dX4_openWriteOf_5 rfl (lv_at hl 0 rfl) ?_
  rcases o_7 with _ | y_11
  · skip
    refine W.eq (g2 := F0 m 6 ls [.null]) rfl ?_
    refine lv_ifnonnullN hx hb dX4_openWriteOf_6 ?_
    obtain ⟨sa, hstr⟩ := hN.2.1 (259, "no open write") (by decide +kernel)
    exact vx_throwSW hx hb hlt hown (by decide +kernel) (by decide +kernel) w_0 w_1 hstr (vx_hat (fun w hw => hts w (th_X4_openWriteOf_ISE w hw)) at_ISE_rest (at_ISE_hat hN)) at_ISE_ok hE0.1 hE0.2.1 hS (by rw [hml]; exact hl.1) dX4_openWriteOf_9 dX4_openWriteOf_12 dX4_openWriteOf_13 dX4_openWriteOf_16 dX4_openWriteOf_19 (fun x h => (hnx x h).elim) (by decide) (by decide) (Nat.le_of_ble_eq_true rfl) (Nat.le_of_ble_eq_true rfl) hlocks (fun t9 _ h1 h2 => ⟨(), trivial, rfl, xF hS h1 h2⟩) hS.2.2 (Nat.le_of_ble_eq_true rfl) (Nat.le_of_ble_eq_true rfl)
  · skip
    have h_12 : (t y_11).1 = 4 := h_10 _ rfl
    refine W.eq (g2 := F0 m 6 ls [.ref y_11]) rfl ?_
    refine lv_ifnonnull (tgt := 20) hx hb dX4_openWriteOf_6 (by decide) ?_
    refine lv_aload_n hx hb dX4_openWriteOf_20 rfl (lv_at hl 0 rfl) ?_
    refine W.widen (k := 1) (n := 6) (by omega) (by omega) ?_
    exact vx_ret (W.aret (v := .ref y_11) hx hb hr (Or.inl ⟨_, rfl⟩) (Or.inr ⟨_, rfl⟩) (fun t9 ht hW => ⟨⟨(), y_11, rfl, trivial, h_12⟩, hS.F ht⟩) hS.2.2 dX4_openWriteOf_21 hlocks)
set_option maxHeartbeats 4000000 in
set_option maxRecDepth 100000 in
theorem c_Jx4a65c_size_8abf5 (l : Launch) (hlt : l.stackTraces = false) (D : va_G) (tC : Nat → ClassId) (dz sz : Nat) (pl : va_W) (t : Nat → Nat × Nat) (ad : Nat → Nat) (ed : Nat) (cb up : Nat → Int32) (rs cp : Nat) (hO : Ok tC dz t ad ed cb up rs cp pl)   : Met l yJx4a65c_size_8abf5 wsJx4a65c_size_8abf5 ({ frames := 0, cells := 0, slots := 0, locals := 0 }) (va_Pc [.ref (ad 3)] (pB D tC dz pl sz)) (va_Qi (fun (r : Int32) (_ : Unit) => r = nI rs) (fun (_ : Unit) _ => True) (xN sz)) 0 0 (xN sz) := by
  refine Met.ofW (cc := cJx4a65c_size_8abf5) (maxL := 1) (ret := (some .int)) (by decide) rfl ?_
  intro p e s m args below meth c s₁ B hml hv
  obtain ⟨rfl, hsz, hP, hK, hD0, hN, hE⟩ := hv
  have hx := B.exec
  have hb := B.bytes
  have hr := B.returns
  have hts := atoms_spec (ws := wsJx4a65c_size_8abf5) B.pre
  have hown : s.vm.findClass RJx4a65c = some m.cls := findClass_of_methodNamed B.named
  have hlocks := B.notSynchronized
  subst hsz
  have hD := hD0.self (sz := s.heap.size)
  have hAm : ∀ q : Nat, xN s.heap.size q → va_A pl s.heap.size q := xN_A
  have hN0 : ∀ q : Nat, s.heap.size ≤ q → xN s.heap.size q := fun _ h => h
  have hE0 := eH_narrow hE hAm
  generalize va_A pl s.heap.size = A at hD hE hAm
  have hA : ∀ q : Nat, s.heap.size ≤ q → A q := fun q h => hAm q h
  have hS : va_S (xN s.heap.size) s.heap s.heap [] := va_S.rf
  have hl := lv_entry ([.ref (ad 3)]) (n := 1) (Nat.le_of_ble_eq_true rfl)
  rw [lg_entry_eq]
  generalize (lg_sl ([.ref (ad 3)]) ++ List.replicate (1 - (lg_sl ([.ref (ad 3)])).length) Slot.unset).toArray = ls at hl ⊢
  have hl : lv_has ls 1 [(0, .ref (ad 3))] := hl
  have w_0 := hts (.fieldLink RJx4a65c 48 "java/util/ArrayList" "size" "I") (by decide +kernel)
  refine lv_aload_n hx hb dJx4a65c_size_8abf5_0 rfl (lv_at hl 0 rfl) ?_
  obtain ⟨p_1, mc_2, hp_1⟩ := hO.k10
  refine va_get (D := D) (ci := 0) (v := .int (nI rs)) (C := RJx4a65c) (T := TJx4a65c) (N := 3) hx hb hts in_Jx4a65c_size_8abf5_Jx4a65c hown hK hP p_1 hp_1 rfl 2 (by decide) w_0 (fun _ h9 => h9) rfl dJx4a65c_size_8abf5_1 ?_
  refine W.widen (k := 0) (n := 0) (by omega) (by omega) ?_
  exact W.iret (v := (nI rs)) hx hb hr (fun t9 ht hW => ⟨⟨(nI rs), (), rfl, rfl, trivial⟩, hS.F ht⟩) hS.2.2 dJx4a65c_size_8abf5_4 hlocks
set_option maxHeartbeats 4000000 in
set_option maxRecDepth 100000 in
theorem c_X4_requireRoomFor (l : Launch) (hlt : l.stackTraces = false) (D : va_G) (tC : Nat → ClassId) (dz sz : Nat) (pl : va_W) (t : Nat → Nat × Nat) (ad : Nat → Nat) (ed : Nat) (cb up : Nat → Int32) (rs cp : Nat) (hO : Ok tC dz t ad ed cb up rs cp pl) (v : Int32)  : vx_Met l yX4_requireRoomFor wsX4_requireRoomFor ({ frames := 6, cells := 1, slots := 6, locals := 82 }) (va_Pc [.ref (ad 0), .int v] (pB D tC dz pl sz)) (va_Qv (fun (_ : Unit) => True) (fun (_ : Unit) _ => True) (xN sz)) (xX (fun E => E = "java/lang/UnsupportedOperationException") (xN sz)) 1 6 (xN sz) := by
  refine vx_ofW (cc := cX4_requireRoomFor) (maxL := 2) (ret := none) (by decide) rfl ?_
  intro p e s m args below meth c s₁ B hml hnx hv
  obtain ⟨rfl, hsz, hP, hK, hD0, hN, hE⟩ := hv
  have hx := B.exec
  have hb := B.bytes
  have hr := B.returns
  have hts := atoms_spec (ws := wsX4_requireRoomFor) B.pre
  have hown : s.vm.findClass RX4 = some m.cls := findClass_of_methodNamed B.named
  have hlocks := B.notSynchronized
  subst hsz
  have hD := hD0.self (sz := s.heap.size)
  have hAm : ∀ q : Nat, xN s.heap.size q → va_A pl s.heap.size q := xN_A
  have hN0 : ∀ q : Nat, s.heap.size ≤ q → xN s.heap.size q := fun _ h => h
  have hE0 := eH_narrow hE hAm
  generalize va_A pl s.heap.size = A at hD hE hAm
  have hA : ∀ q : Nat, s.heap.size ≤ q → A q := fun q h => hAm q h
  have hS : va_S (xN s.heap.size) s.heap s.heap [] := va_S.rf
  have hl := lv_entry ([.ref (ad 0), .int v]) (n := 2) (Nat.le_of_ble_eq_true rfl)
  rw [lg_entry_eq]
  generalize (lg_sl ([.ref (ad 0), .int v]) ++ List.replicate (2 - (lg_sl ([.ref (ad 0), .int v])).length) Slot.unset).toArray = ls at hl ⊢
  have hl : lv_has ls 2 [(0, .ref (ad 0)), (1, .int v)] := hl
  have w_0 := hts (.fieldLink RX4 22 "NoticeStations" "row" "Ljava/util/ArrayList;") (by decide +kernel)
  have w_1 := hts (.classLink RX4 111 "java/lang/UnsupportedOperationException") (by decide +kernel)
  have w_2 := hts (.initialized "java/lang/UnsupportedOperationException") (by decide +kernel)
  refine lv_aload_n hx hb dX4_requireRoomFor_0 rfl (lv_at hl 0 rfl) ?_
  obtain ⟨p_1, hp_1⟩ := hO.k7
  refine va_get (D := D) (ci := 5) (v := .ref (ad 3)) (C := RX4) (T := TX4) (N := 4) hx hb hts in_X4_requireRoomFor_X4 hown hK hP p_1 hp_1 rfl 2 (by decide) w_0 (fun _ h9 => h9) rfl dX4_requireRoomFor_1 ?_
  obtain ⟨p_2, mc_3, hp_2⟩ := hO.k10
  refine va_calli (va_runV (As := []) (rest := []) ⟨hx, hb, hml, hown, hts⟩ (c_Jx4a65c_size_8abf5 l hlt D tC dz s.heap.size pl t ad ed cb up rs cp hO  ) (cwV 0 hts gX4_requireRoomFor_Jx4a65c_size_8abf5 rfl rfl rfl (by decide +kernel) ⟨Nat.le_of_ble_eq_true rfl, Nat.le_of_ble_eq_true rfl⟩) ⟨pB_blind, va_recv hK hP (ci := 0) (q0 := p_2) rfl hp_2, pB_at hP hD hK hN hE (hS.mono hAm) (freeA hD (hS.mono hAm) hA)⟩ rfl rfl hl.1 rfl (lv_room (Nat.le_of_ble_eq_true rfl)) dX4_requireRoomFor_4 ⟨Nat.le_of_ble_eq_true rfl, Nat.le_of_ble_eq_true rfl⟩) hS oldN (freeN hS hN0) (fun r_4 u t9 H1 locs ht hvm hw hB hz1 hk1 hS => ?_)
  have hw_5 := hw
  have hP := keepP hP hk1
  generalize H1 = H at hP hS ⊢
  refine lv_iload_n hx hb dX4_requireRoomFor_7 rfl (lv_at hl 1 rfl) ?_
  refine lv_iadd hx hb dX4_requireRoomFor_8 ?_
  refine lv_topi (fun z_6 ez_6 => ?_)
  refine lv_bipush (v := 40) hx hb dX4_requireRoomFor_9 (by decide) ?_
  refine lv_icmp_le (tgt := 25) hx hb dX4_requireRoomFor_11 (by decide) (fun c_7 => ?_) (fun c_7 => ?_)
  · skip
    refine W.widen (k := 1) (n := 6) (by omega) (by omega) ?_
    exact vx_ret (W.vret hx hb hr (fun t9 ht hW => ⟨⟨(), rfl, trivial, trivial⟩, hS.F ht⟩) hS.2.2 dX4_requireRoomFor_25 hlocks)
  · skip
    obtain ⟨sa, hstr⟩ := hN.2.1 (261, "too many letters") (by decide +kernel)
    exact vx_throwSW hx hb hlt hown (by decide +kernel) (by decide +kernel) w_1 w_2 hstr (vx_hat (fun w hw => hts w (th_X4_requireRoomFor_UOE w hw)) at_UOE_rest (at_UOE_hat hN)) at_UOE_ok hE0.1 hE0.2.1 hS (by rw [hml]; exact hl.1) dX4_requireRoomFor_14 dX4_requireRoomFor_17 dX4_requireRoomFor_18 dX4_requireRoomFor_21 dX4_requireRoomFor_24 (fun x h => (hnx x h).elim) (by decide) (by decide) (Nat.le_of_ble_eq_true rfl) (Nat.le_of_ble_eq_true rfl) hlocks (fun t9 _ h1 h2 => ⟨(), trivial, rfl, xF hS h1 h2⟩) hS.2.2 (Nat.le_of_ble_eq_true rfl) (Nat.le_of_ble_eq_true rfl)
set_option maxHeartbeats 4000000 in
set_option maxRecDepth 100000 in
theorem c_X4_requireLetter (l : Launch) (hlt : l.stackTraces = false) (D : va_G) (tC : Nat → ClassId) (dz sz : Nat) (pl : va_W) (t : Nat → Nat × Nat) (ad : Nat → Nat) (ed : Nat) (cb up : Nat → Int32) (rs cp : Nat) (hO : Ok tC dz t ad ed cb up rs cp pl) (p0 : Int32)  : vx_Met l yX4_requireLetter wsX4_requireLetter ({ frames := 6, cells := 1, slots := 6, locals := 82 }) (va_Pc [.ref (ad 0), .int p0] (pB D tC dz pl sz)) (va_Qv (fun (_ : Unit) => ∃ j : Nat, j < rs ∧ p0 = nI j) (fun (_ : Unit) _ => True) (xN sz)) (xX (fun E => E = "java/lang/IndexOutOfBoundsException") (xN sz)) 1 6 (xN sz) := by
  refine vx_ofW (cc := cX4_requireLetter) (maxL := 2) (ret := none) (by decide) rfl ?_
  intro p e s m args below meth c s₁ B hml hnx hv
  obtain ⟨rfl, hsz, hP, hK, hD0, hN, hE⟩ := hv
  have hx := B.exec
  have hb := B.bytes
  have hr := B.returns
  have hts := atoms_spec (ws := wsX4_requireLetter) B.pre
  have hown : s.vm.findClass RX4 = some m.cls := findClass_of_methodNamed B.named
  have hlocks := B.notSynchronized
  subst hsz
  have hD := hD0.self (sz := s.heap.size)
  have hAm : ∀ q : Nat, xN s.heap.size q → va_A pl s.heap.size q := xN_A
  have hN0 : ∀ q : Nat, s.heap.size ≤ q → xN s.heap.size q := fun _ h => h
  have hE0 := eH_narrow hE hAm
  generalize va_A pl s.heap.size = A at hD hE hAm
  have hA : ∀ q : Nat, s.heap.size ≤ q → A q := fun q h => hAm q h
  have hS : va_S (xN s.heap.size) s.heap s.heap [] := va_S.rf
  have hl := lv_entry ([.ref (ad 0), .int p0]) (n := 2) (Nat.le_of_ble_eq_true rfl)
  rw [lg_entry_eq]
  generalize (lg_sl ([.ref (ad 0), .int p0]) ++ List.replicate (2 - (lg_sl ([.ref (ad 0), .int p0])).length) Slot.unset).toArray = ls at hl ⊢
  have hl : lv_has ls 2 [(0, .ref (ad 0)), (1, .int p0)] := hl
  have w_0 := hts (.fieldLink RX4 22 "NoticeStations" "row" "Ljava/util/ArrayList;") (by decide +kernel)
  have w_1 := hts (.classLink RX4 247 "java/lang/IndexOutOfBoundsException") (by decide +kernel)
  have w_2 := hts (.initialized "java/lang/IndexOutOfBoundsException") (by decide +kernel)
  refine lv_iload_n hx hb dX4_requireLetter_0 rfl (lv_at hl 1 rfl) ?_
  refine lv_aload_n hx hb dX4_requireLetter_1 rfl (lv_at hl 0 rfl) ?_
  obtain ⟨p_1, hp_1⟩ := hO.k7
  refine va_get (D := D) (ci := 5) (v := .ref (ad 3)) (C := RX4) (T := TX4) (N := 4) hx hb hts in_X4_requireLetter_X4 hown hK hP p_1 hp_1 rfl 2 (by decide) w_0 (fun _ h9 => h9) rfl dX4_requireLetter_2 ?_
  obtain ⟨p_2, mc_3, hp_2⟩ := hO.k10
  refine va_calli (va_runV (As := []) (rest := [.int p0]) ⟨hx, hb, hml, hown, hts⟩ (c_Jx4a65c_size_8abf5 l hlt D tC dz s.heap.size pl t ad ed cb up rs cp hO  ) (cwV 0 hts gX4_requireLetter_Jx4a65c_size_8abf5 rfl rfl rfl (by decide +kernel) ⟨Nat.le_of_ble_eq_true rfl, Nat.le_of_ble_eq_true rfl⟩) ⟨pB_blind, va_recv hK hP (ci := 0) (q0 := p_2) rfl hp_2, pB_at hP hD hK hN hE (hS.mono hAm) (freeA hD (hS.mono hAm) hA)⟩ rfl rfl hl.1 rfl (lv_room (Nat.le_of_ble_eq_true rfl)) dX4_requireLetter_5 ⟨Nat.le_of_ble_eq_true rfl, Nat.le_of_ble_eq_true rfl⟩) hS oldN (freeN hS hN0) (fun r_4 u t9 H1 locs ht hvm hw hB hz1 hk1 hS => ?_)
  have hw_5 := hw
  have hP := keepP hP hk1
  generalize H1 = H at hP hS ⊢
  subst hw_5
  refine va_calli (va_runS (As := [.int p0, .int (nI rs)]) (rest := []) ⟨hx, hb, hml, hown, hts⟩ (c_X4_isBelow l hlt D tC dz H.size pl t ad ed cb up rs cp hO p0 (nI rs) ) (va_cwS 2 hts gX4_requireLetter_X4_isBelow rfl rfl rfl (by decide +kernel) ⟨Nat.le_of_ble_eq_true rfl, Nat.le_of_ble_eq_true rfl⟩) ⟨pB_blind, pB_at hP hD hK hN hE (hS.mono hAm) (freeA hD (hS.mono hAm) hA)⟩ rfl rfl hl.1 rfl (lv_room (Nat.le_of_ble_eq_true rfl)) dX4_requireLetter_8 ⟨Nat.le_of_ble_eq_true rfl, Nat.le_of_ble_eq_true rfl⟩) hS oldN (freeN hS hN0) (fun r_6 u t9 H1 locs ht hvm hw hB hz1 hk1 hS => ?_)
  have hw_7 := hw
  have hP := keepP hP hk1
  generalize H1 = H at hP hS ⊢
  refine lv_if_ne (tgt := 24) hx hb dX4_requireLetter_11 (by decide) (fun c_8 => ?_) (fun c_8 => ?_)
  · skip
    refine W.widen (k := 1) (n := 6) (by omega) (by omega) ?_
    exact vx_ret (W.vret hx hb hr (fun t9 ht hW => ⟨⟨(), rfl, (ixn (bl1 hw_7 c_8) hO.rs31), trivial⟩, hS.F ht⟩) hS.2.2 dX4_requireLetter_24 hlocks)
  · skip
    obtain ⟨sa, hstr⟩ := hN.2.1 (254, "no such letter") (by decide +kernel)
    exact vx_throwS hx hb hlt hown (by decide +kernel) (by decide +kernel) w_1 w_2 hstr (vx_hat (fun w hw => hts w (th_X4_requireLetter_IOOBE w hw)) at_IOOBE_rest (at_IOOBE_hat hN)) at_IOOBE_ok hE0.1 hE0.2.1 hS (by rw [hml]; exact hl.1) dX4_requireLetter_14 dX4_requireLetter_17 dX4_requireLetter_18 dX4_requireLetter_20 dX4_requireLetter_23 (fun x h => (hnx x h).elim) (by decide) (by decide) (Nat.le_of_ble_eq_true rfl) (Nat.le_of_ble_eq_true rfl) hlocks (fun t9 _ h1 h2 => ⟨(), trivial, rfl, xF hS h1 h2⟩) hS.2.2 (Nat.le_of_ble_eq_true rfl) (Nat.le_of_ble_eq_true rfl)
set_option maxHeartbeats 4000000 in
set_option maxRecDepth 100000 in
theorem c_Jx4a65c_elementData_915e3 (l : Launch) (hlt : l.stackTraces = false) (D : va_G) (tC : Nat → ClassId) (dz sz : Nat) (pl : va_W) (t : Nat → Nat × Nat) (ad : Nat → Nat) (ed : Nat) (cb up : Nat → Int32) (rs cp : Nat) (hO : Ok tC dz t ad ed cb up rs cp pl) (k : Nat) (hk : k < rs) : Met l yJx4a65c_elementData_915e3 wsJx4a65c_elementData_915e3 ({ frames := 0, cells := 0, slots := 0, locals := 0 }) (va_Pc [.ref (ad 3), .int (nI k)] (pB D tC dz pl sz)) (va_Qr (fun (_ : Unit) => True) (fun (_ : Unit) (r : Nat) _ => (t r).1 = 3) (xN sz)) 0 0 (xN sz) := by
  refine Met.ofW (cc := cJx4a65c_elementData_915e3) (maxL := 2) (ret := (some (.object "java/lang/Object"))) (by decide) rfl ?_
  intro p e s m args below meth c s₁ B hml hv
  obtain ⟨rfl, hsz, hP, hK, hD0, hN, hE⟩ := hv
  have hx := B.exec
  have hb := B.bytes
  have hr := B.returns
  have hts := atoms_spec (ws := wsJx4a65c_elementData_915e3) B.pre
  have hown : s.vm.findClass RJx4a65c = some m.cls := findClass_of_methodNamed B.named
  have hlocks := B.notSynchronized
  subst hsz
  have hD := hD0.self (sz := s.heap.size)
  have hAm : ∀ q : Nat, xN s.heap.size q → va_A pl s.heap.size q := xN_A
  have hN0 : ∀ q : Nat, s.heap.size ≤ q → xN s.heap.size q := fun _ h => h
  have hE0 := eH_narrow hE hAm
  generalize va_A pl s.heap.size = A at hD hE hAm
  have hA : ∀ q : Nat, s.heap.size ≤ q → A q := fun q h => hAm q h
  have hS : va_S (xN s.heap.size) s.heap s.heap [] := va_S.rf
  have hl := lv_entry ([.ref (ad 3), .int (nI k)]) (n := 2) (Nat.le_of_ble_eq_true rfl)
  rw [lg_entry_eq]
  generalize (lg_sl ([.ref (ad 3), .int (nI k)]) ++ List.replicate (2 - (lg_sl ([.ref (ad 3), .int (nI k)])).length) Slot.unset).toArray = ls at hl ⊢
  have hl : lv_has ls 2 [(0, .ref (ad 3)), (1, .int (nI k))] := hl
  have w_0 := hts (.fieldLink RJx4a65c 9 "java/util/ArrayList" "elementData" "[Ljava/lang/Object;") (by decide +kernel)
  refine lv_aload_n hx hb dJx4a65c_elementData_915e3_0 rfl (lv_at hl 0 rfl) ?_
  obtain ⟨p_1, mc_2, hp_1⟩ := hO.k10
  refine va_get (D := D) (ci := 0) (v := .ref ed) (C := RJx4a65c) (T := TJx4a65c) (N := 3) hx hb hts in_Jx4a65c_elementData_915e3_Jx4a65c hown hK hP p_1 hp_1 rfl 1 (by decide) w_0 (fun _ h9 => h9) rfl dJx4a65c_elementData_915e3_1 ?_
  refine lv_iload_n hx hb dJx4a65c_elementData_915e3_4 rfl (lv_at hl 1 rfl) ?_
  obtain ⟨p_3, f_4, hp_3, h_5⟩ := hO.k11 (hO.edt hk)
  refine va_aldq hx hb hK hP p_3 4 hp_3 rfl (vp_in_nI (Nat.lt_of_lt_of_le hk hO.2.2.2.2.1) hO.cp31) dJx4a65c_elementData_915e3_5 ?_
  obtain ⟨y_6, h_7, h_8⟩ := h_5 k hk
  rw [show f_4 (nI k).toNatClampNeg = some y_6 by rw [(nI_clamp (Nat.lt_trans hk hO.rs31))]; exact h_7]
  refine W.eq (g2 := F0 m 6 ls [.ref y_6]) rfl ?_
  refine W.widen (k := 0) (n := 0) (by omega) (by omega) ?_
  exact W.aret (v := .ref y_6) hx hb hr (Or.inl ⟨_, rfl⟩) (Or.inr ⟨_, rfl⟩) (fun t9 ht hW => ⟨⟨(), y_6, rfl, trivial, h_8⟩, hS.F ht⟩) hS.2.2 dJx4a65c_elementData_915e3_6 hlocks
